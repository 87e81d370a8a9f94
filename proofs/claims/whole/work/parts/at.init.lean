def lkN₁ : List (Nat × Nat) → Nat → Nat
  | [], _ => 0
  | e₁ :: l₁, j₁ => if j₁ = e₁.1 then e₁.2 else lkN₁ l₁ j₁
def lkR₁ : List (Nat × Nat × Nat) → Nat → Nat → Option Nat
  | [], _, _ => none
  | e₁ :: l₁, j₁, i₁ => if j₁ = e₁.1 ∧ i₁ = e₁.2.1 then some e₁.2.2 else lkR₁ l₁ j₁ i₁
def lkI₁ : List (Nat × Nat × Int32) → Nat → Nat → Int32
  | [], _, _ => 0
  | e₁ :: l₁, j₁, i₁ => if j₁ = e₁.1 ∧ i₁ = e₁.2.1 then e₁.2.2 else lkI₁ l₁ j₁ i₁
theorem lkN_ne {j₁ a₁ k₁ : Nat} {l₁ : List (Nat × Nat)} (h₁ : j₁ ≠ a₁) : lkN₁ ((a₁, k₁) :: l₁) j₁ = lkN₁ l₁ j₁ := if_neg h₁
theorem lkR_no {lr₁ : List (Nat × Nat × Nat)} {n₁ j₁ i₁ : Nat} (h₁ : ∀ e₁ ∈ lr₁, e₁.1 < n₁) (hj₁ : n₁ ≤ j₁) : lkR₁ lr₁ j₁ i₁ = none := by
  induction lr₁ with
  | nil => rfl
  | cons e₁ l₁ ih₁ =>
    rw [lkR₁, if_neg (fun c₁ => absurd (h₁ e₁ List.mem_cons_self) (by omega))]
    exact ih₁ fun e₁ he₁ => h₁ e₁ (List.mem_cons_of_mem _ he₁)
theorem lkI_no {lr₁ : List (Nat × Nat × Int32)} {n₁ j₁ i₁ : Nat} (h₁ : ∀ e₁ ∈ lr₁, e₁.1 < n₁) (hj₁ : n₁ ≤ j₁) : lkI₁ lr₁ j₁ i₁ = 0 := by
  induction lr₁ with
  | nil => rfl
  | cons e₁ l₁ ih₁ =>
    rw [lkI₁, if_neg (fun c₁ => absurd (h₁ e₁ List.mem_cons_self) (by omega))]
    exact ih₁ fun e₁ he₁ => h₁ e₁ (List.mem_cons_of_mem _ he₁)
theorem lkI_nz {lr₁ : List (Nat × Nat × Int32)} {j₁ : Nat} (h₁ : ∀ e₁ ∈ lr₁, e₁.1 ≠ j₁) (i₁ : Nat) : lkI₁ lr₁ j₁ i₁ = 0 := by
  induction lr₁ with
  | nil => rfl
  | cons e₁ l₁ ih₁ =>
    rw [lkI₁, if_neg (fun c₁ => absurd c₁.1.symm (h₁ e₁ List.mem_cons_self))]
    exact ih₁ fun e₁ he₁ => h₁ e₁ (List.mem_cons_of_mem _ he₁)
/-- n cells from x on, as the lists say; the cells below x as they were -/
def IAT₁ (x₁ n₁ : Nat) (lk₁ ln₁ : List (Nat × Nat)) (lr₁ : List (Nat × Nat × Nat)) (li₁ : List (Nat × Nat × Int32)) (K0₁ N0₁ : MK) (I0₁ : MI) (L0₁ : ML) (R0₁ : MR) (K₁ N₁ : MK) (I₁ : MI) (L₁ : ML) (R₁ : MR) : Prop :=
  1 ≤ x₁ ∧ N₁ 0 = x₁ + n₁ ∧ (∀ j₁, j₁ < n₁ → K₁ (x₁ + j₁) = lkN₁ lk₁ j₁) ∧ (∀ e₁ ∈ ln₁, e₁.1 < n₁ ∧ N₁ (x₁ + e₁.1) = e₁.2) ∧ (∀ j₁ i₁ t₁, lkR₁ lr₁ j₁ i₁ = some t₁ → R₁ (x₁ + j₁) i₁ = some (x₁ + t₁)) ∧ (∀ e₁ ∈ lr₁, e₁.1 < n₁) ∧ (∀ j₁ i₁, j₁ < n₁ → I₁ (x₁ + j₁) i₁ = lkI₁ li₁ j₁ i₁) ∧ (∀ e₁ ∈ li₁, e₁.1 < n₁) ∧ (∀ j₁ i₁, j₁ < n₁ → L₁ (x₁ + j₁) i₁ = 0) ∧ ∀ c₁, c₁ < x₁ → c₁ ≠ 0 → K₁ c₁ = K0₁ c₁ ∧ N₁ c₁ = N0₁ c₁ ∧ I₁ c₁ = I0₁ c₁ ∧ L₁ c₁ = L0₁ c₁ ∧ R₁ c₁ = R0₁ c₁
section iat₁
variable {x₁ n₁ : Nat} {lk₁ ln₁ : List (Nat × Nat)} {lr₁ : List (Nat × Nat × Nat)} {li₁ : List (Nat × Nat × Int32)} {K0₁ N0₁ : MK} {I0₁ : MI} {L0₁ : ML} {R0₁ : MR} {K₁ N₁ : MK} {I₁ : MI} {L₁ : ML} {R₁ : MR}
theorem IAT₁.k (h₁ : IAT₁ x₁ n₁ lk₁ ln₁ lr₁ li₁ K0₁ N0₁ I0₁ L0₁ R0₁ K₁ N₁ I₁ L₁ R₁) (j₁ : Nat) {v₁ : Nat} (hj₁ : j₁ < n₁) (e₁ : lkN₁ lk₁ j₁ = v₁) : K₁ (x₁ + j₁) = v₁ := (h₁.2.2.1 j₁ hj₁).trans e₁
theorem IAT₁.r (h₁ : IAT₁ x₁ n₁ lk₁ ln₁ lr₁ li₁ K0₁ N0₁ I0₁ L0₁ R0₁ K₁ N₁ I₁ L₁ R₁) (j₁ i₁ : Nat) {v₁ : Nat} (e₁ : lkR₁ lr₁ j₁ i₁ = some v₁) : R₁ (x₁ + j₁) i₁ = some (x₁ + v₁) := h₁.2.2.2.2.1 j₁ i₁ v₁ e₁
theorem IAT₁.n (h₁ : IAT₁ x₁ n₁ lk₁ ln₁ lr₁ li₁ K0₁ N0₁ I0₁ L0₁ R0₁ K₁ N₁ I₁ L₁ R₁) (j₁ : Nat) {v₁ : Nat} (e₁ : (j₁, v₁) ∈ ln₁) : N₁ (x₁ + j₁) = v₁ := (h₁.2.2.2.1 (j₁, v₁) e₁).2
theorem IAT₁.i (h₁ : IAT₁ x₁ n₁ lk₁ ln₁ lr₁ li₁ K0₁ N0₁ I0₁ L0₁ R0₁ K₁ N₁ I₁ L₁ R₁) (j₁ i₁ : Nat) {v₁ : Int32} (hj₁ : j₁ < n₁) (e₁ : lkI₁ li₁ j₁ i₁ = v₁) : I₁ (x₁ + j₁) i₁ = v₁ := (h₁.2.2.2.2.2.2.1 j₁ i₁ hj₁).trans e₁
theorem IAT₁.l (h₁ : IAT₁ x₁ n₁ lk₁ ln₁ lr₁ li₁ K0₁ N0₁ I0₁ L0₁ R0₁ K₁ N₁ I₁ L₁ R₁) (j₁ i₁ : Nat) (hj₁ : j₁ < n₁) : L₁ (x₁ + j₁) i₁ = 0 := h₁.2.2.2.2.2.2.2.2.1 j₁ i₁ hj₁
theorem IAT₁.top (h₁ : IAT₁ x₁ n₁ lk₁ ln₁ lr₁ li₁ K0₁ N0₁ I0₁ L0₁ R0₁ K₁ N₁ I₁ L₁ R₁) : N₁ 0 = x₁ + n₁ := h₁.2.1
theorem IAT₁.f (h₁ : IAT₁ x₁ n₁ lk₁ ln₁ lr₁ li₁ K0₁ N0₁ I0₁ L0₁ R0₁ K₁ N₁ I₁ L₁ R₁) {c₁ : Nat} (hc₁ : c₁ < x₁) (h0₁ : c₁ ≠ 0) : K₁ c₁ = K0₁ c₁ ∧ N₁ c₁ = N0₁ c₁ ∧ I₁ c₁ = I0₁ c₁ ∧ L₁ c₁ = L0₁ c₁ ∧ R₁ c₁ = R0₁ c₁ := h₁.2.2.2.2.2.2.2.2.2 c₁ hc₁ h0₁
theorem IAT₁.putR (h₁ : IAT₁ x₁ n₁ lk₁ ln₁ lr₁ li₁ K0₁ N0₁ I0₁ L0₁ R0₁ K₁ N₁ I₁ L₁ R₁) {P₁ : MR → Prop} {a₁ i₁ y₁ t₁ : Nat} (ha₁ : a₁ < n₁) (hy₁ : y₁ = i₁) (k₁ : ∀ R1₁, IAT₁ x₁ n₁ lk₁ ln₁ ((a₁, i₁, t₁) :: lr₁) li₁ K0₁ N0₁ I0₁ L0₁ R0₁ K₁ N₁ I₁ L₁ R1₁ → P₁ R1₁) : ∀ R1₁, R1₁ = mup R₁ (x₁ + a₁) y₁ (some (x₁ + t₁)) → P₁ R1₁ := by
  rintro R1₁ rfl
  subst hy₁
  obtain ⟨h1₁, h2₁, h3₁, h4₁, h5₁, h6₁, h7₁, h8₁, h9₁, h10₁⟩ := h₁
  refine k₁ _ ⟨h1₁, h2₁, h3₁, h4₁, ?_, ?_, h7₁, h8₁, h9₁, ?_⟩
  · intro j₁ i1₁ t1₁ e₁
    rw [lkR₁] at e₁
    by_cases c₁ : j₁ = a₁ ∧ i1₁ = y₁
    · rw [if_pos c₁] at e₁
      rw [c₁.1, c₁.2, mup_at]
      exact congrArg (fun z₁ => some (x₁ + z₁)) (Option.some.inj e₁)
    · rw [if_neg c₁] at e₁
      refine Eq.trans ?_ (h5₁ _ _ _ e₁)
      exact if_neg (fun d₁ => c₁ ⟨by have := d₁.1; omega, d₁.2⟩)
  · intro e₁ he₁
    rcases List.mem_cons.1 he₁ with he₁ | he₁
    · rw [he₁]; exact ha₁
    · exact h6₁ e₁ he₁
  · intro c₁ hc₁ h0₁
    have hh₁ := h10₁ c₁ hc₁ h0₁
    rw [mup_ne (show c₁ ≠ x₁ + a₁ by omega)]
    exact hh₁
theorem IAT₁.putI (h₁ : IAT₁ x₁ n₁ lk₁ ln₁ lr₁ li₁ K0₁ N0₁ I0₁ L0₁ R0₁ K₁ N₁ I₁ L₁ R₁) {P₁ : MI → Prop} {a₁ i₁ y₁ : Nat} {v₁ : Int32} (ha₁ : a₁ < n₁) (hy₁ : y₁ = i₁) (k₁ : ∀ I1₁, IAT₁ x₁ n₁ lk₁ ln₁ lr₁ ((a₁, i₁, v₁) :: li₁) K0₁ N0₁ I0₁ L0₁ R0₁ K₁ N₁ I1₁ L₁ R₁ → P₁ I1₁) : ∀ I1₁, I1₁ = mup I₁ (x₁ + a₁) y₁ v₁ → P₁ I1₁ := by
  rintro I1₁ rfl
  subst hy₁
  obtain ⟨h1₁, h2₁, h3₁, h4₁, h5₁, h6₁, h7₁, h8₁, h9₁, h10₁⟩ := h₁
  refine k₁ _ ⟨h1₁, h2₁, h3₁, h4₁, h5₁, h6₁, ?_, ?_, h9₁, ?_⟩
  · intro j₁ i1₁ hj₁
    rw [lkI₁]
    by_cases c₁ : j₁ = a₁ ∧ i1₁ = y₁
    · rw [if_pos c₁, c₁.1, c₁.2, mup_at]
    · rw [if_neg c₁]
      refine Eq.trans ?_ (h7₁ _ _ hj₁)
      exact if_neg (fun d₁ => c₁ ⟨by have := d₁.1; omega, d₁.2⟩)
  · intro e₁ he₁
    rcases List.mem_cons.1 he₁ with he₁ | he₁
    · rw [he₁]; exact ha₁
    · exact h8₁ e₁ he₁
  · intro c₁ hc₁ h0₁
    have hh₁ := h10₁ c₁ hc₁ h0₁
    rw [mup_ne (show c₁ ≠ x₁ + a₁ by omega)]
    exact hh₁
theorem IAT₁.putL (h₁ : IAT₁ x₁ n₁ lk₁ ln₁ lr₁ li₁ K0₁ N0₁ I0₁ L0₁ R0₁ K₁ N₁ I₁ L₁ R₁) {P₁ : ML → Prop} {a₁ y₁ : Nat} {v₁ : Int64} (hv₁ : v₁ = 0) (k₁ : ∀ L1₁, IAT₁ x₁ n₁ lk₁ ln₁ lr₁ li₁ K0₁ N0₁ I0₁ L0₁ R0₁ K₁ N₁ I₁ L1₁ R₁ → P₁ L1₁) : ∀ L1₁, L1₁ = mup L₁ (x₁ + a₁) y₁ v₁ → P₁ L1₁ := by
  rintro L1₁ rfl
  subst hv₁
  obtain ⟨h1₁, h2₁, h3₁, h4₁, h5₁, h6₁, h7₁, h8₁, h9₁, h10₁⟩ := h₁
  refine k₁ _ ⟨h1₁, h2₁, h3₁, h4₁, h5₁, h6₁, h7₁, h8₁, ?_, ?_⟩
  · intro j₁ i1₁ hj₁
    by_cases c₁ : x₁ + j₁ = x₁ + a₁ ∧ i1₁ = y₁
    · exact if_pos c₁
    · exact (if_neg c₁).trans (h9₁ _ _ hj₁)
  · intro c₁ hc₁ h0₁
    have hh₁ := h10₁ c₁ hc₁ h0₁
    rw [mup_ne (show c₁ ≠ x₁ + a₁ by omega)]
    exact hh₁
theorem IAT₁.gen (h₁ : IAT₁ x₁ n₁ lk₁ ln₁ lr₁ li₁ K0₁ N0₁ I0₁ L0₁ R0₁ K₁ N₁ I₁ L₁ R₁) {k₁ : Nat} {M1₁ : MK} {ln1₁ : List (Nat × Nat)} (hM₁ : M1₁ 0 = x₁ + (n₁ + 1)) (hMo₁ : ∀ c₁, c₁ ≠ x₁ + n₁ → c₁ ≠ 0 → M1₁ c₁ = N₁ c₁) (hln₁ : ∀ e₁ ∈ ln1₁, e₁.1 < n₁ + 1 ∧ M1₁ (x₁ + e₁.1) = e₁.2) : IAT₁ x₁ (n₁ + 1) ((n₁, k₁) :: lk₁) ln1₁ lr₁ li₁ K0₁ N0₁ I0₁ L0₁ R0₁ (kup K₁ (x₁ + n₁) k₁) M1₁ (mfr I₁ (x₁ + n₁) 0) (mfr L₁ (x₁ + n₁) 0) (mfr R₁ (x₁ + n₁) none) := by
  obtain ⟨h1₁, h2₁, h3₁, h4₁, h5₁, h6₁, h7₁, h8₁, h9₁, h10₁⟩ := h₁
  refine ⟨h1₁, hM₁, ?_, hln₁, ?_, ?_, ?_, ?_, ?_, ?_⟩
  · intro j₁ hj₁
    by_cases c₁ : j₁ = n₁
    · rw [c₁, kup_at]; exact (if_pos rfl).symm
    · rw [kup_ne (by omega), lkN_ne c₁]; exact h3₁ j₁ (by omega)
  · intro j₁ i₁ t₁ e₁
    by_cases c₁ : n₁ ≤ j₁
    · rw [lkR_no h6₁ c₁] at e₁; cases e₁
    · rw [mfr_ne (by omega)]; exact h5₁ _ _ _ e₁
  · intro e₁ he₁; have := h6₁ e₁ he₁; omega
  · intro j₁ i₁ hj₁
    by_cases c₁ : j₁ = n₁
    · rw [c₁, mfr_at, lkI_no h8₁ (Nat.le_refl _)]
    · rw [mfr_ne (by omega)]; exact h7₁ j₁ i₁ (by omega)
  · intro e₁ he₁; have := h8₁ e₁ he₁; omega
  · intro j₁ i₁ hj₁
    by_cases c₁ : j₁ = n₁
    · rw [c₁, mfr_at]
    · rw [mfr_ne (by omega)]; exact h9₁ j₁ i₁ (by omega)
  · intro c₁ hc₁ h0₁
    have hh₁ := h10₁ c₁ hc₁ h0₁
    rw [kup_ne (by omega), hMo₁ c₁ (by omega) h0₁, mfr_ne (by omega), mfr_ne (by omega), mfr_ne (by omega)]
    exact hh₁
theorem IAT₁.newO (h₁ : IAT₁ x₁ n₁ lk₁ ln₁ lr₁ li₁ K0₁ N0₁ I0₁ L0₁ R0₁ K₁ N₁ I₁ L₁ R₁) {P₁ : Nat → MK → MK → MI → ML → MR → Prop} {k₁ n1₁ : Nat} (hn₁ : n1₁ = n₁ + 1) (kk₁ : ∀ K1₁ N1₁ I1₁ L1₁ R1₁, IAT₁ x₁ n1₁ ((n₁, k₁) :: lk₁) ln₁ lr₁ li₁ K0₁ N0₁ I0₁ L0₁ R0₁ K1₁ N1₁ I1₁ L1₁ R1₁ → P₁ (x₁ + n₁) K1₁ N1₁ I1₁ L1₁ R1₁) : ∀ q₁, q₁ = N₁ 0 → ∀ K1₁, K1₁ = kup K₁ q₁ k₁ → ∀ N1₁, N1₁ = kup N₁ 0 (N₁ 0 + 1) → ∀ I1₁, I1₁ = mfr I₁ q₁ 0 → ∀ L1₁, L1₁ = mfr L₁ q₁ 0 → ∀ R1₁, R1₁ = mfr R₁ q₁ none → P₁ q₁ K1₁ N1₁ I1₁ L1₁ R1₁ := by
  intro q₁ e₁ K1₁ e1₁ N1₁ e2₁ I1₁ e3₁ L1₁ e4₁ R1₁ e5₁
  have hq₁ : q₁ = x₁ + n₁ := e₁.trans h₁.top
  rw [hq₁] at e1₁ e3₁ e4₁ e5₁ ⊢
  refine kk₁ _ _ _ _ _ ?_
  rw [e1₁, e3₁, e4₁, e5₁, hn₁]
  refine IAT₁.gen h₁ (by rw [e2₁, kup_at, h₁.top]; rfl) (fun c₁ hc₁ h0₁ => by rw [e2₁, kup_ne h0₁]) (fun e₁ he₁ => ?_)
  have := h₁.2.2.2.1 e₁ he₁
  refine ⟨by omega, ?_⟩
  rw [e2₁, kup_ne (by have := h₁.1; omega)]
  exact this.2
theorem IAT₁.newA (h₁ : IAT₁ x₁ n₁ lk₁ ln₁ lr₁ li₁ K0₁ N0₁ I0₁ L0₁ R0₁ K₁ N₁ I₁ L₁ R₁) {P₁ : Nat → MK → MK → MI → ML → MR → Prop} {k₁ n1₁ z₁ w₁ : Nat} (hn₁ : n1₁ = n₁ + 1) (hw₁ : w₁ = z₁) (kk₁ : ∀ K1₁ N1₁ I1₁ L1₁ R1₁, IAT₁ x₁ n1₁ ((n₁, k₁) :: lk₁) ((n₁, z₁) :: ln₁) lr₁ li₁ K0₁ N0₁ I0₁ L0₁ R0₁ K1₁ N1₁ I1₁ L1₁ R1₁ → P₁ (x₁ + n₁) K1₁ N1₁ I1₁ L1₁ R1₁) : ∀ q₁, q₁ = N₁ 0 → ∀ K1₁, K1₁ = kup K₁ q₁ k₁ → ∀ N1₁, N1₁ = kup (kup N₁ q₁ w₁) 0 (N₁ 0 + 1) → ∀ I1₁, I1₁ = mfr I₁ q₁ 0 → ∀ L1₁, L1₁ = mfr L₁ q₁ 0 → ∀ R1₁, R1₁ = mfr R₁ q₁ none → P₁ q₁ K1₁ N1₁ I1₁ L1₁ R1₁ := by
  intro q₁ e₁ K1₁ e1₁ N1₁ e2₁ I1₁ e3₁ L1₁ e4₁ R1₁ e5₁
  have hq₁ : q₁ = x₁ + n₁ := e₁.trans h₁.top
  rw [hq₁] at e1₁ e3₁ e4₁ e5₁ e2₁ ⊢
  refine kk₁ _ _ _ _ _ ?_
  rw [e1₁, e3₁, e4₁, e5₁, hn₁]
  have h1₁ := h₁.1
  refine IAT₁.gen h₁ (by rw [e2₁, kup_at, h₁.top]; rfl) (fun c₁ hc₁ h0₁ => by rw [e2₁, kup_ne h0₁, kup_ne hc₁]) (fun e₁ he₁ => ?_)
  rcases List.mem_cons.1 he₁ with he₁ | he₁
  · rw [he₁, e2₁, kup_ne (by show x₁ + n₁ ≠ 0; omega), kup_at]
    exact ⟨Nat.lt_succ_self n₁, hw₁⟩
  · have := h₁.2.2.2.1 e₁ he₁
    refine ⟨by omega, ?_⟩
    rw [e2₁, kup_ne (by omega), kup_ne (by omega)]
    exact this.2
theorem i_X7 (h₁ : IAT₁ x₁ n₁ lk₁ ln₁ lr₁ li₁ K0₁ N0₁ I0₁ L0₁ R0₁ K₁ N₁ I₁ L₁ R₁) {Q₁ : MK → MK → MI → ML → MR → Prop} {j₁ n1₁ z₁ w₁ MC₁ MS₁ : Nat} {a₁ b₁ : Int32} (hj₁ : j₁ < n₁) (hk₁ : lkN₁ lk₁ j₁ = 8) (hn₁ : n1₁ = n₁ + 2) (ha₁ : ¬ a₁ < 0 ∧ ix a₁ = z₁ ∧ z₁ ≤ 60000) (hb₁ : ¬ a₁ * b₁ < 0 ∧ ix (a₁ * b₁) = w₁ ∧ w₁ ≤ 60000) (hM₁ : 2 ≤ MC₁ ∧ z₁ + w₁ ≤ MS₁) (kk₁ : ∀ K1₁ N1₁ I1₁ L1₁ R1₁, IAT₁ x₁ n1₁ ((n₁ + 1, 14) :: (n₁, 15) :: lk₁) ((n₁ + 1, w₁) :: (n₁, z₁) :: ln₁) ((j₁, 2, n₁ + 1) :: (j₁, 1, n₁) :: lr₁) ((j₁, 0, b₁) :: (j₁, 3, 0) :: li₁) K0₁ N0₁ I0₁ L0₁ R0₁ K1₁ N1₁ I1₁ L1₁ R1₁ → Q₁ K1₁ N1₁ I1₁ L1₁ R1₁) : w_X7_init (x₁ + j₁) a₁ b₁ K₁ N₁ I₁ L₁ R₁ MC₁ MS₁ Q₁ := by
  delta w_X7_init
  obtain ⟨ha1₁, ha2₁, ha3₁⟩ := ha₁
  obtain ⟨hb1₁, hb2₁, hb3₁⟩ := hb₁
  refine ⟨h₁.k j₁ hj₁ hk₁, ?_⟩
  refine h₁.putI (i₁ := 3) hj₁ rfl fun I1₁ h₁ => ?_
  refine h₁.putI (i₁ := 0) hj₁ rfl fun I2₁ h₁ => ?_
  refine ⟨ha1₁, by omega, by omega, by omega, ?_⟩
  refine h₁.newA (n1₁ := n₁ + 1) (z₁ := z₁) rfl ha2₁ fun K1₁ N1₁ I1₁ L1₁ R1₁ h₁ => ?_
  refine ⟨h₁.k j₁ (by omega) ((lkN_ne (by omega)).trans hk₁), ?_⟩
  refine h₁.putR (i₁ := 1) (by omega) rfl fun R1₁ h₁ => ?_
  refine ⟨hb1₁, by omega, by omega, by omega, ?_⟩
  refine h₁.newA (n1₁ := n₁ + 2) (z₁ := w₁) rfl hb2₁ fun K1₁ N1₁ I1₁ L1₁ R1₁ h₁ => ?_
  refine ⟨h₁.k j₁ (by omega) ((lkN_ne (by omega)).trans ((lkN_ne (by omega)).trans hk₁)), ?_⟩
  refine h₁.putR (i₁ := 2) (by omega) rfl fun R1₁ h₁ => ?_
  refine ⟨by omega, by omega, ?_⟩
  refine kk₁ _ _ _ _ _ ?_
  rw [hn₁]
  exact h₁
end iat₁
theorem i_X8 {x₁ n₁ : Nat} {lk₁ ln₁ : List (Nat × Nat)} {lr₁ : List (Nat × Nat × Nat)} {li₁ : List (Nat × Nat × Int32)} {K0₁ N0₁ : MK} {I0₁ : MI} {L0₁ : ML} {R0₁ : MR} {K₁ N₁ : MK} {I₁ : MI} {L₁ : ML} {R₁ : MR} (h₁ : IAT₁ x₁ n₁ lk₁ ln₁ lr₁ li₁ K0₁ N0₁ I0₁ L0₁ R0₁ K₁ N₁ I₁ L₁ R₁) {Q₁ : MK → MK → MI → ML → MR → Prop} {j₁ n1₁ : Nat} (hj₁ : j₁ < n₁) (hk₁ : lkN₁ lk₁ j₁ = 9) (hn₁ : n1₁ = n₁ + 1) (kk₁ : ∀ K1₁ N1₁ I1₁ L1₁ R1₁, IAT₁ x₁ n1₁ ((n₁, 14) :: lk₁) ((n₁, 940) :: ln₁) ((j₁, 0, n₁) :: lr₁) ((j₁, 11, 0) :: (j₁, 10, 0) :: (j₁, 9, 0) :: (j₁, 8, 0) :: (j₁, 7, (-1)) :: (j₁, 5, 0) :: (j₁, 4, 0) :: (j₁, 3, 0) :: (j₁, 2, 0) :: (j₁, 1, 0) :: li₁) K0₁ N0₁ I0₁ L0₁ R0₁ K1₁ N1₁ I1₁ L1₁ R1₁ → Q₁ K1₁ N1₁ I1₁ L1₁ R1₁) : w_X8_init (x₁ + j₁) K₁ N₁ I₁ L₁ R₁ 1 940 Q₁ := by
  delta w_X8_init
  refine ⟨by decide, by decide, by decide, by decide, ?_⟩
  refine h₁.newA (n1₁ := n₁ + 1) (z₁ := 940) rfl (by decide) fun K₁ N₁ I₁ L₁ R₁ h₁ => ?_
  refine ⟨h₁.k (j₁) (by omega) ((lkN_ne (by omega)).trans hk₁), ?_⟩
  refine h₁.putR (a₁ := j₁) (i₁ := 0) (t₁ := n₁) (by omega) rfl fun R₁ h₁ => ?_
  refine h₁.putI (a₁ := j₁) (i₁ := 1) (by omega) rfl fun I₁ h₁ => ?_
  refine h₁.putI (a₁ := j₁) (i₁ := 2) (by omega) rfl fun I₁ h₁ => ?_
  refine h₁.putI (a₁ := j₁) (i₁ := 3) (by omega) rfl fun I₁ h₁ => ?_
  refine h₁.putI (a₁ := j₁) (i₁ := 4) (by omega) rfl fun I₁ h₁ => ?_
  refine h₁.putI (a₁ := j₁) (i₁ := 5) (by omega) rfl fun I₁ h₁ => ?_
  refine h₁.putL (a₁ := j₁) rfl fun L₁ h₁ => ?_
  refine h₁.putI (a₁ := j₁) (i₁ := 7) (by omega) rfl fun I₁ h₁ => ?_
  refine h₁.putI (a₁ := j₁) (i₁ := 8) (by omega) rfl fun I₁ h₁ => ?_
  refine h₁.putI (a₁ := j₁) (i₁ := 9) (by omega) rfl fun I₁ h₁ => ?_
  refine h₁.putI (a₁ := j₁) (i₁ := 10) (by omega) rfl fun I₁ h₁ => ?_
  refine h₁.putI (a₁ := j₁) (i₁ := 11) (by omega) rfl fun I₁ h₁ => ?_
  refine ⟨by decide, by decide, ?_⟩
  refine kk₁ _ _ _ _ _ ?_
  rw [hn₁]
  exact h₁
theorem i_X9 {x₁ n₁ : Nat} {lk₁ ln₁ : List (Nat × Nat)} {lr₁ : List (Nat × Nat × Nat)} {li₁ : List (Nat × Nat × Int32)} {K0₁ N0₁ : MK} {I0₁ : MI} {L0₁ : ML} {R0₁ : MR} {K₁ N₁ : MK} {I₁ : MI} {L₁ : ML} {R₁ : MR} (h₁ : IAT₁ x₁ n₁ lk₁ ln₁ lr₁ li₁ K0₁ N0₁ I0₁ L0₁ R0₁ K₁ N₁ I₁ L₁ R₁) {Q₁ : MK → MK → MI → ML → MR → Prop} {j₁ n1₁ : Nat} (hj₁ : j₁ < n₁) (hk₁ : lkN₁ lk₁ j₁ = 10) (hn₁ : n1₁ = n₁ + 15) (kk₁ : ∀ K1₁ N1₁ I1₁ L1₁ R1₁, IAT₁ x₁ n1₁ ((n₁ + 14, 14) :: (n₁ + 13, 15) :: (n₁ + 12, 8) :: (n₁ + 11, 14) :: (n₁ + 10, 15) :: (n₁ + 9, 8) :: (n₁ + 8, 14) :: (n₁ + 7, 15) :: (n₁ + 6, 8) :: (n₁ + 5, 14) :: (n₁ + 4, 15) :: (n₁ + 3, 8) :: (n₁ + 2, 14) :: (n₁ + 1, 15) :: (n₁, 8) :: lk₁) ((n₁ + 14, 336) :: (n₁ + 13, 16) :: (n₁ + 11, 20) :: (n₁ + 10, 10) :: (n₁ + 8, 18) :: (n₁ + 7, 6) :: (n₁ + 5, 40) :: (n₁ + 4, 10) :: (n₁ + 2, 60) :: (n₁ + 1, 30) :: ln₁) ((j₁, 5, n₁ + 12) :: (n₁ + 12, 2, n₁ + 14) :: (n₁ + 12, 1, n₁ + 13) :: (j₁, 4, n₁ + 9) :: (n₁ + 9, 2, n₁ + 11) :: (n₁ + 9, 1, n₁ + 10) :: (j₁, 3, n₁ + 6) :: (n₁ + 6, 2, n₁ + 8) :: (n₁ + 6, 1, n₁ + 7) :: (j₁, 2, n₁ + 3) :: (n₁ + 3, 2, n₁ + 5) :: (n₁ + 3, 1, n₁ + 4) :: (j₁, 1, n₁) :: (n₁, 2, n₁ + 2) :: (n₁, 1, n₁ + 1) :: lr₁) ((n₁ + 12, 0, 21) :: (n₁ + 12, 3, 0) :: (n₁ + 9, 0, 2) :: (n₁ + 9, 3, 0) :: (n₁ + 6, 0, 3) :: (n₁ + 6, 3, 0) :: (n₁ + 3, 0, 4) :: (n₁ + 3, 3, 0) :: (n₁, 0, 2) :: (n₁, 3, 0) :: (j₁, 0, 256) :: li₁) K0₁ N0₁ I0₁ L0₁ R0₁ K1₁ N1₁ I1₁ L1₁ R1₁ → Q₁ K1₁ N1₁ I1₁ L1₁ R1₁) : w_X9_init (x₁ + j₁) K₁ N₁ I₁ L₁ R₁ 15 566 Q₁ := by
  delta w_X9_init
  refine ⟨h₁.k (j₁) (by omega) hk₁, ?_⟩
  refine h₁.putI (a₁ := j₁) (i₁ := 0) (by omega) rfl fun I₁ h₁ => ?_
  refine ⟨by decide, by decide, ?_⟩
  refine h₁.newO (n1₁ := n₁ + 1) rfl fun K₁ N₁ I₁ L₁ R₁ h₁ => ?_
  refine ⟨by decide, by decide, ?_⟩
  refine i_X7 h₁ (j₁ := n₁) (n1₁ := n₁ + 3) (z₁ := 30) (w₁ := 60) (by omega) (if_pos rfl) rfl (by decide) (by decide) (by decide) fun K₁ N₁ I₁ L₁ R₁ h₁ => ?_
  refine ⟨h₁.k (j₁) (by omega) ((lkN_ne (by omega)).trans ((lkN_ne (by omega)).trans ((lkN_ne (by omega)).trans hk₁))), ?_⟩
  refine h₁.putR (a₁ := j₁) (i₁ := 1) (t₁ := n₁) (by omega) rfl fun R₁ h₁ => ?_
  refine ⟨by decide, by decide, ?_⟩
  refine h₁.newO (n1₁ := n₁ + 4) rfl fun K₁ N₁ I₁ L₁ R₁ h₁ => ?_
  refine ⟨by decide, by decide, ?_⟩
  refine i_X7 h₁ (j₁ := n₁ + 3) (n1₁ := n₁ + 6) (z₁ := 10) (w₁ := 40) (by omega) (if_pos rfl) rfl (by decide) (by decide) (by decide) fun K₁ N₁ I₁ L₁ R₁ h₁ => ?_
  refine ⟨h₁.k (j₁) (by omega) ((lkN_ne (by omega)).trans ((lkN_ne (by omega)).trans ((lkN_ne (by omega)).trans ((lkN_ne (by omega)).trans ((lkN_ne (by omega)).trans ((lkN_ne (by omega)).trans hk₁)))))), ?_⟩
  refine h₁.putR (a₁ := j₁) (i₁ := 2) (t₁ := n₁ + 3) (by omega) rfl fun R₁ h₁ => ?_
  refine ⟨by decide, by decide, ?_⟩
  refine h₁.newO (n1₁ := n₁ + 7) rfl fun K₁ N₁ I₁ L₁ R₁ h₁ => ?_
  refine ⟨by decide, by decide, ?_⟩
  refine i_X7 h₁ (j₁ := n₁ + 6) (n1₁ := n₁ + 9) (z₁ := 6) (w₁ := 18) (by omega) (if_pos rfl) rfl (by decide) (by decide) (by decide) fun K₁ N₁ I₁ L₁ R₁ h₁ => ?_
  refine ⟨h₁.k (j₁) (by omega) ((lkN_ne (by omega)).trans ((lkN_ne (by omega)).trans ((lkN_ne (by omega)).trans ((lkN_ne (by omega)).trans ((lkN_ne (by omega)).trans ((lkN_ne (by omega)).trans ((lkN_ne (by omega)).trans ((lkN_ne (by omega)).trans ((lkN_ne (by omega)).trans hk₁))))))))), ?_⟩
  refine h₁.putR (a₁ := j₁) (i₁ := 3) (t₁ := n₁ + 6) (by omega) rfl fun R₁ h₁ => ?_
  refine ⟨by decide, by decide, ?_⟩
  refine h₁.newO (n1₁ := n₁ + 10) rfl fun K₁ N₁ I₁ L₁ R₁ h₁ => ?_
  refine ⟨by decide, by decide, ?_⟩
  refine i_X7 h₁ (j₁ := n₁ + 9) (n1₁ := n₁ + 12) (z₁ := 10) (w₁ := 20) (by omega) (if_pos rfl) rfl (by decide) (by decide) (by decide) fun K₁ N₁ I₁ L₁ R₁ h₁ => ?_
  refine ⟨h₁.k (j₁) (by omega) ((lkN_ne (by omega)).trans ((lkN_ne (by omega)).trans ((lkN_ne (by omega)).trans ((lkN_ne (by omega)).trans ((lkN_ne (by omega)).trans ((lkN_ne (by omega)).trans ((lkN_ne (by omega)).trans ((lkN_ne (by omega)).trans ((lkN_ne (by omega)).trans ((lkN_ne (by omega)).trans ((lkN_ne (by omega)).trans ((lkN_ne (by omega)).trans hk₁)))))))))))), ?_⟩
  refine h₁.putR (a₁ := j₁) (i₁ := 4) (t₁ := n₁ + 9) (by omega) rfl fun R₁ h₁ => ?_
  refine ⟨by decide, by decide, ?_⟩
  refine h₁.newO (n1₁ := n₁ + 13) rfl fun K₁ N₁ I₁ L₁ R₁ h₁ => ?_
  refine ⟨by decide, by decide, ?_⟩
  refine i_X7 h₁ (j₁ := n₁ + 12) (n1₁ := n₁ + 15) (z₁ := 16) (w₁ := 336) (by omega) (if_pos rfl) rfl (by decide) (by decide) (by decide) fun K₁ N₁ I₁ L₁ R₁ h₁ => ?_
  refine ⟨h₁.k (j₁) (by omega) ((lkN_ne (by omega)).trans ((lkN_ne (by omega)).trans ((lkN_ne (by omega)).trans ((lkN_ne (by omega)).trans ((lkN_ne (by omega)).trans ((lkN_ne (by omega)).trans ((lkN_ne (by omega)).trans ((lkN_ne (by omega)).trans ((lkN_ne (by omega)).trans ((lkN_ne (by omega)).trans ((lkN_ne (by omega)).trans ((lkN_ne (by omega)).trans ((lkN_ne (by omega)).trans ((lkN_ne (by omega)).trans ((lkN_ne (by omega)).trans hk₁))))))))))))))), ?_⟩
  refine h₁.putR (a₁ := j₁) (i₁ := 5) (t₁ := n₁ + 12) (by omega) rfl fun R₁ h₁ => ?_
  refine ⟨by decide, by decide, ?_⟩
  refine kk₁ _ _ _ _ _ ?_
  rw [hn₁]
  exact h₁
theorem i_X3 {x₁ n₁ : Nat} {lk₁ ln₁ : List (Nat × Nat)} {lr₁ : List (Nat × Nat × Nat)} {li₁ : List (Nat × Nat × Int32)} {K0₁ N0₁ : MK} {I0₁ : MI} {L0₁ : ML} {R0₁ : MR} {K₁ N₁ : MK} {I₁ : MI} {L₁ : ML} {R₁ : MR} (h₁ : IAT₁ x₁ n₁ lk₁ ln₁ lr₁ li₁ K0₁ N0₁ I0₁ L0₁ R0₁ K₁ N₁ I₁ L₁ R₁) {Q₁ : MK → MK → MI → ML → MR → Prop} {j₁ n1₁ : Nat} (hj₁ : j₁ < n₁) (hk₁ : lkN₁ lk₁ j₁ = 4) (hn₁ : n1₁ = n₁ + 3) (kk₁ : ∀ K1₁ N1₁ I1₁ L1₁ R1₁, IAT₁ x₁ n1₁ ((n₁ + 2, 14) :: (n₁ + 1, 14) :: (n₁, 14) :: lk₁) ((n₁ + 2, 8) :: (n₁ + 1, 64) :: (n₁, 8) :: ln₁) ((j₁, 2, n₁ + 2) :: (j₁, 1, n₁ + 1) :: (j₁, 0, n₁) :: lr₁) ((j₁, 5, 0) :: (j₁, 4, 0) :: (j₁, 3, 0) :: li₁) K0₁ N0₁ I0₁ L0₁ R0₁ K1₁ N1₁ I1₁ L1₁ R1₁ → Q₁ K1₁ N1₁ I1₁ L1₁ R1₁) : w_X3_init (x₁ + j₁) K₁ N₁ I₁ L₁ R₁ 3 80 Q₁ := by
  delta w_X3_init
  refine ⟨by decide, by decide, by decide, by decide, ?_⟩
  refine h₁.newA (n1₁ := n₁ + 1) (z₁ := 8) rfl (by decide) fun K₁ N₁ I₁ L₁ R₁ h₁ => ?_
  refine ⟨h₁.k (j₁) (by omega) ((lkN_ne (by omega)).trans hk₁), ?_⟩
  refine h₁.putR (a₁ := j₁) (i₁ := 0) (t₁ := n₁) (by omega) rfl fun R₁ h₁ => ?_
  refine ⟨by decide, by decide, by decide, by decide, ?_⟩
  refine h₁.newA (n1₁ := n₁ + 2) (z₁ := 64) rfl (by decide) fun K₁ N₁ I₁ L₁ R₁ h₁ => ?_
  refine ⟨h₁.k (j₁) (by omega) ((lkN_ne (by omega)).trans ((lkN_ne (by omega)).trans hk₁)), ?_⟩
  refine h₁.putR (a₁ := j₁) (i₁ := 1) (t₁ := n₁ + 1) (by omega) rfl fun R₁ h₁ => ?_
  refine ⟨by decide, by decide, by decide, by decide, ?_⟩
  refine h₁.newA (n1₁ := n₁ + 3) (z₁ := 8) rfl (by decide) fun K₁ N₁ I₁ L₁ R₁ h₁ => ?_
  refine ⟨h₁.k (j₁) (by omega) ((lkN_ne (by omega)).trans ((lkN_ne (by omega)).trans ((lkN_ne (by omega)).trans hk₁))), ?_⟩
  refine h₁.putR (a₁ := j₁) (i₁ := 2) (t₁ := n₁ + 2) (by omega) rfl fun R₁ h₁ => ?_
  refine h₁.putI (a₁ := j₁) (i₁ := 3) (by omega) rfl fun I₁ h₁ => ?_
  refine h₁.putI (a₁ := j₁) (i₁ := 4) (by omega) rfl fun I₁ h₁ => ?_
  refine h₁.putI (a₁ := j₁) (i₁ := 5) (by omega) rfl fun I₁ h₁ => ?_
  refine ⟨by decide, by decide, ?_⟩
  refine kk₁ _ _ _ _ _ ?_
  rw [hn₁]
  exact h₁
theorem i_X2 {x₁ n₁ : Nat} {lk₁ ln₁ : List (Nat × Nat)} {lr₁ : List (Nat × Nat × Nat)} {li₁ : List (Nat × Nat × Int32)} {K0₁ N0₁ : MK} {I0₁ : MI} {L0₁ : ML} {R0₁ : MR} {K₁ N₁ : MK} {I₁ : MI} {L₁ : ML} {R₁ : MR} (h₁ : IAT₁ x₁ n₁ lk₁ ln₁ lr₁ li₁ K0₁ N0₁ I0₁ L0₁ R0₁ K₁ N₁ I₁ L₁ R₁) {Q₁ : MK → MK → MI → ML → MR → Prop} {j₁ n1₁ : Nat} (hj₁ : j₁ < n₁) (hk₁ : lkN₁ lk₁ j₁ = 3) (hn₁ : n1₁ = n₁ + 1) (kk₁ : ∀ K1₁ N1₁ I1₁ L1₁ R1₁, IAT₁ x₁ n1₁ ((n₁, 14) :: lk₁) ((n₁, 8) :: ln₁) ((j₁, 0, n₁) :: lr₁) ((j₁, 2, 0) :: (j₁, 1, 0) :: li₁) K0₁ N0₁ I0₁ L0₁ R0₁ K1₁ N1₁ I1₁ L1₁ R1₁ → Q₁ K1₁ N1₁ I1₁ L1₁ R1₁) : w_X2_init (x₁ + j₁) K₁ N₁ I₁ L₁ R₁ 1 8 Q₁ := by
  delta w_X2_init
  refine ⟨by decide, by decide, by decide, by decide, ?_⟩
  refine h₁.newA (n1₁ := n₁ + 1) (z₁ := 8) rfl (by decide) fun K₁ N₁ I₁ L₁ R₁ h₁ => ?_
  refine ⟨h₁.k (j₁) (by omega) ((lkN_ne (by omega)).trans hk₁), ?_⟩
  refine h₁.putR (a₁ := j₁) (i₁ := 0) (t₁ := n₁) (by omega) rfl fun R₁ h₁ => ?_
  refine h₁.putI (a₁ := j₁) (i₁ := 1) (by omega) rfl fun I₁ h₁ => ?_
  refine h₁.putI (a₁ := j₁) (i₁ := 2) (by omega) rfl fun I₁ h₁ => ?_
  refine ⟨by decide, by decide, ?_⟩
  refine kk₁ _ _ _ _ _ ?_
  rw [hn₁]
  exact h₁
theorem i_X1 {x₁ n₁ : Nat} {lk₁ ln₁ : List (Nat × Nat)} {lr₁ : List (Nat × Nat × Nat)} {li₁ : List (Nat × Nat × Int32)} {K0₁ N0₁ : MK} {I0₁ : MI} {L0₁ : ML} {R0₁ : MR} {K₁ N₁ : MK} {I₁ : MI} {L₁ : ML} {R₁ : MR} (h₁ : IAT₁ x₁ n₁ lk₁ ln₁ lr₁ li₁ K0₁ N0₁ I0₁ L0₁ R0₁ K₁ N₁ I₁ L₁ R₁) {Q₁ : MK → MK → MI → ML → MR → Prop} {j₁ n1₁ : Nat} (hj₁ : j₁ < n₁) (hk₁ : lkN₁ lk₁ j₁ = 2) (hn₁ : n1₁ = n₁ + 0) (kk₁ : ∀ K1₁ N1₁ I1₁ L1₁ R1₁, IAT₁ x₁ n1₁ (lk₁) (ln₁) (lr₁) ((j₁, 0, 0) :: li₁) K0₁ N0₁ I0₁ L0₁ R0₁ K1₁ N1₁ I1₁ L1₁ R1₁ → Q₁ K1₁ N1₁ I1₁ L1₁ R1₁) : w_X1_init (x₁ + j₁) K₁ N₁ I₁ L₁ R₁ 0 0 Q₁ := by
  delta w_X1_init
  refine ⟨h₁.k (j₁) (by omega) hk₁, ?_⟩
  refine h₁.putI (a₁ := j₁) (i₁ := 0) (by omega) rfl fun I₁ h₁ => ?_
  refine ⟨by decide, by decide, ?_⟩
  refine kk₁ _ _ _ _ _ ?_
  rw [hn₁]
  exact h₁
theorem i_X5 {x₁ n₁ : Nat} {lk₁ ln₁ : List (Nat × Nat)} {lr₁ : List (Nat × Nat × Nat)} {li₁ : List (Nat × Nat × Int32)} {K0₁ N0₁ : MK} {I0₁ : MI} {L0₁ : ML} {R0₁ : MR} {K₁ N₁ : MK} {I₁ : MI} {L₁ : ML} {R₁ : MR} (h₁ : IAT₁ x₁ n₁ lk₁ ln₁ lr₁ li₁ K0₁ N0₁ I0₁ L0₁ R0₁ K₁ N₁ I₁ L₁ R₁) {Q₁ : MK → MK → MI → ML → MR → Prop} {j₁ n1₁ : Nat} (hj₁ : j₁ < n₁) (hk₁ : lkN₁ lk₁ j₁ = 6) (hn₁ : n1₁ = n₁ + 4) (kk₁ : ∀ K1₁ N1₁ I1₁ L1₁ R1₁, IAT₁ x₁ n1₁ ((n₁ + 3, 16) :: (n₁ + 2, 14) :: (n₁ + 1, 14) :: (n₁, 14) :: lk₁) ((n₁ + 3, 40) :: (n₁ + 2, 40) :: (n₁ + 1, 40) :: (n₁, 40) :: ln₁) ((j₁, 4, n₁ + 3) :: (j₁, 3, n₁ + 2) :: (j₁, 2, n₁ + 1) :: (j₁, 1, n₁) :: lr₁) ((j₁, 5, 0) :: (j₁, 0, 0) :: li₁) K0₁ N0₁ I0₁ L0₁ R0₁ K1₁ N1₁ I1₁ L1₁ R1₁ → Q₁ K1₁ N1₁ I1₁ L1₁ R1₁) : w_X5_init (x₁ + j₁) K₁ N₁ I₁ L₁ R₁ 4 160 Q₁ := by
  delta w_X5_init
  refine ⟨h₁.k (j₁) (by omega) hk₁, ?_⟩
  refine h₁.putI (a₁ := j₁) (i₁ := 0) (by omega) rfl fun I₁ h₁ => ?_
  refine ⟨by decide, by decide, by decide, by decide, ?_⟩
  refine h₁.newA (n1₁ := n₁ + 1) (z₁ := 40) rfl (by decide) fun K₁ N₁ I₁ L₁ R₁ h₁ => ?_
  refine ⟨h₁.k (j₁) (by omega) ((lkN_ne (by omega)).trans hk₁), ?_⟩
  refine h₁.putR (a₁ := j₁) (i₁ := 1) (t₁ := n₁) (by omega) rfl fun R₁ h₁ => ?_
  refine ⟨by decide, by decide, by decide, by decide, ?_⟩
  refine h₁.newA (n1₁ := n₁ + 2) (z₁ := 40) rfl (by decide) fun K₁ N₁ I₁ L₁ R₁ h₁ => ?_
  refine ⟨h₁.k (j₁) (by omega) ((lkN_ne (by omega)).trans ((lkN_ne (by omega)).trans hk₁)), ?_⟩
  refine h₁.putR (a₁ := j₁) (i₁ := 2) (t₁ := n₁ + 1) (by omega) rfl fun R₁ h₁ => ?_
  refine ⟨by decide, by decide, by decide, by decide, ?_⟩
  refine h₁.newA (n1₁ := n₁ + 3) (z₁ := 40) rfl (by decide) fun K₁ N₁ I₁ L₁ R₁ h₁ => ?_
  refine ⟨h₁.k (j₁) (by omega) ((lkN_ne (by omega)).trans ((lkN_ne (by omega)).trans ((lkN_ne (by omega)).trans hk₁))), ?_⟩
  refine h₁.putR (a₁ := j₁) (i₁ := 3) (t₁ := n₁ + 2) (by omega) rfl fun R₁ h₁ => ?_
  refine ⟨by decide, by decide, by decide, by decide, ?_⟩
  refine h₁.newA (n1₁ := n₁ + 4) (z₁ := 40) rfl (by decide) fun K₁ N₁ I₁ L₁ R₁ h₁ => ?_
  refine ⟨h₁.k (j₁) (by omega) ((lkN_ne (by omega)).trans ((lkN_ne (by omega)).trans ((lkN_ne (by omega)).trans ((lkN_ne (by omega)).trans hk₁)))), ?_⟩
  refine h₁.putR (a₁ := j₁) (i₁ := 4) (t₁ := n₁ + 3) (by omega) rfl fun R₁ h₁ => ?_
  refine h₁.putI (a₁ := j₁) (i₁ := 5) (by omega) rfl fun I₁ h₁ => ?_
  refine ⟨by decide, by decide, ?_⟩
  refine kk₁ _ _ _ _ _ ?_
  rw [hn₁]
  exact h₁
theorem i_X10 {x₁ n₁ : Nat} {lk₁ ln₁ : List (Nat × Nat)} {lr₁ : List (Nat × Nat × Nat)} {li₁ : List (Nat × Nat × Int32)} {K0₁ N0₁ : MK} {I0₁ : MI} {L0₁ : ML} {R0₁ : MR} {K₁ N₁ : MK} {I₁ : MI} {L₁ : ML} {R₁ : MR} (h₁ : IAT₁ x₁ n₁ lk₁ ln₁ lr₁ li₁ K0₁ N0₁ I0₁ L0₁ R0₁ K₁ N₁ I₁ L₁ R₁) {Q₁ : MK → MK → MI → ML → MR → Prop} {j₁ n1₁ : Nat} (hj₁ : j₁ < n₁) (hk₁ : lkN₁ lk₁ j₁ = 11) (hn₁ : n1₁ = n₁ + 16) (kk₁ : ∀ K1₁ N1₁ I1₁ L1₁ R1₁, IAT₁ x₁ n1₁ ((n₁ + 15, 14) :: (n₁ + 14, 15) :: (n₁ + 13, 8) :: (n₁ + 12, 14) :: (n₁ + 11, 15) :: (n₁ + 10, 8) :: (n₁ + 9, 14) :: (n₁ + 8, 15) :: (n₁ + 7, 8) :: (n₁ + 6, 14) :: (n₁ + 5, 15) :: (n₁ + 4, 8) :: (n₁ + 3, 14) :: (n₁ + 2, 15) :: (n₁ + 1, 8) :: (n₁, 10) :: lk₁) ((n₁ + 15, 336) :: (n₁ + 14, 16) :: (n₁ + 12, 20) :: (n₁ + 11, 10) :: (n₁ + 9, 18) :: (n₁ + 8, 6) :: (n₁ + 6, 40) :: (n₁ + 5, 10) :: (n₁ + 3, 60) :: (n₁ + 2, 30) :: ln₁) ((j₁, 0, n₁) :: (n₁, 5, n₁ + 13) :: (n₁ + 13, 2, n₁ + 15) :: (n₁ + 13, 1, n₁ + 14) :: (n₁, 4, n₁ + 10) :: (n₁ + 10, 2, n₁ + 12) :: (n₁ + 10, 1, n₁ + 11) :: (n₁, 3, n₁ + 7) :: (n₁ + 7, 2, n₁ + 9) :: (n₁ + 7, 1, n₁ + 8) :: (n₁, 2, n₁ + 4) :: (n₁ + 4, 2, n₁ + 6) :: (n₁ + 4, 1, n₁ + 5) :: (n₁, 1, n₁ + 1) :: (n₁ + 1, 2, n₁ + 3) :: (n₁ + 1, 1, n₁ + 2) :: lr₁) ((j₁, 2, 0) :: (j₁, 1, 0) :: (n₁ + 13, 0, 21) :: (n₁ + 13, 3, 0) :: (n₁ + 10, 0, 2) :: (n₁ + 10, 3, 0) :: (n₁ + 7, 0, 3) :: (n₁ + 7, 3, 0) :: (n₁ + 4, 0, 4) :: (n₁ + 4, 3, 0) :: (n₁ + 1, 0, 2) :: (n₁ + 1, 3, 0) :: (n₁, 0, 256) :: li₁) K0₁ N0₁ I0₁ L0₁ R0₁ K1₁ N1₁ I1₁ L1₁ R1₁ → Q₁ K1₁ N1₁ I1₁ L1₁ R1₁) : w_X10_init (x₁ + j₁) K₁ N₁ I₁ L₁ R₁ 16 572 Q₁ := by
  delta w_X10_init
  refine ⟨by decide, by decide, ?_⟩
  refine h₁.newO (n1₁ := n₁ + 1) rfl fun K₁ N₁ I₁ L₁ R₁ h₁ => ?_
  refine ⟨by decide, by decide, ?_⟩
  refine i_X9 h₁ (j₁ := n₁) (n1₁ := n₁ + 16) (by omega) (if_pos rfl) rfl fun K₁ N₁ I₁ L₁ R₁ h₁ => ?_
  refine ⟨h₁.k (j₁) (by omega) ((lkN_ne (by omega)).trans ((lkN_ne (by omega)).trans ((lkN_ne (by omega)).trans ((lkN_ne (by omega)).trans ((lkN_ne (by omega)).trans ((lkN_ne (by omega)).trans ((lkN_ne (by omega)).trans ((lkN_ne (by omega)).trans ((lkN_ne (by omega)).trans ((lkN_ne (by omega)).trans ((lkN_ne (by omega)).trans ((lkN_ne (by omega)).trans ((lkN_ne (by omega)).trans ((lkN_ne (by omega)).trans ((lkN_ne (by omega)).trans ((lkN_ne (by omega)).trans hk₁)))))))))))))))), ?_⟩
  refine h₁.putR (a₁ := j₁) (i₁ := 0) (t₁ := n₁) (by omega) rfl fun R₁ h₁ => ?_
  refine h₁.putI (a₁ := j₁) (i₁ := 1) (by omega) rfl fun I₁ h₁ => ?_
  refine h₁.putI (a₁ := j₁) (i₁ := 2) (by omega) rfl fun I₁ h₁ => ?_
  refine ⟨by decide, by decide, ?_⟩
  refine kk₁ _ _ _ _ _ ?_
  rw [hn₁]
  exact h₁
theorem i_X6 {x₁ n₁ : Nat} {lk₁ ln₁ : List (Nat × Nat)} {lr₁ : List (Nat × Nat × Nat)} {li₁ : List (Nat × Nat × Int32)} {K0₁ N0₁ : MK} {I0₁ : MI} {L0₁ : ML} {R0₁ : MR} {K₁ N₁ : MK} {I₁ : MI} {L₁ : ML} {R₁ : MR} (h₁ : IAT₁ x₁ n₁ lk₁ ln₁ lr₁ li₁ K0₁ N0₁ I0₁ L0₁ R0₁ K₁ N₁ I₁ L₁ R₁) {Q₁ : MK → MK → MI → ML → MR → Prop} {j₁ n1₁ : Nat} (hj₁ : j₁ < n₁) (hk₁ : lkN₁ lk₁ j₁ = 7) (hn₁ : n1₁ = n₁ + 5) (kk₁ : ∀ K1₁ N1₁ I1₁ L1₁ R1₁, IAT₁ x₁ n1₁ ((n₁ + 4, 16) :: (n₁ + 3, 14) :: (n₁ + 2, 14) :: (n₁ + 1, 14) :: (n₁, 6) :: lk₁) ((n₁ + 4, 40) :: (n₁ + 3, 40) :: (n₁ + 2, 40) :: (n₁ + 1, 40) :: ln₁) ((j₁, 0, n₁) :: (n₁, 4, n₁ + 4) :: (n₁, 3, n₁ + 3) :: (n₁, 2, n₁ + 2) :: (n₁, 1, n₁ + 1) :: lr₁) ((j₁, 1, 0) :: (n₁, 5, 0) :: (n₁, 0, 0) :: li₁) K0₁ N0₁ I0₁ L0₁ R0₁ K1₁ N1₁ I1₁ L1₁ R1₁ → Q₁ K1₁ N1₁ I1₁ L1₁ R1₁) : w_X6_init (x₁ + j₁) K₁ N₁ I₁ L₁ R₁ 5 166 Q₁ := by
  delta w_X6_init
  refine ⟨by decide, by decide, ?_⟩
  refine h₁.newO (n1₁ := n₁ + 1) rfl fun K₁ N₁ I₁ L₁ R₁ h₁ => ?_
  refine ⟨by decide, by decide, ?_⟩
  refine i_X5 h₁ (j₁ := n₁) (n1₁ := n₁ + 5) (by omega) (if_pos rfl) rfl fun K₁ N₁ I₁ L₁ R₁ h₁ => ?_
  refine ⟨h₁.k (j₁) (by omega) ((lkN_ne (by omega)).trans ((lkN_ne (by omega)).trans ((lkN_ne (by omega)).trans ((lkN_ne (by omega)).trans ((lkN_ne (by omega)).trans hk₁))))), ?_⟩
  refine h₁.putR (a₁ := j₁) (i₁ := 0) (t₁ := n₁) (by omega) rfl fun R₁ h₁ => ?_
  refine h₁.putI (a₁ := j₁) (i₁ := 1) (by omega) rfl fun I₁ h₁ => ?_
  refine ⟨by decide, by decide, ?_⟩
  refine kk₁ _ _ _ _ _ ?_
  rw [hn₁]
  exact h₁
theorem i_X0 {x₁ n₁ : Nat} {lk₁ ln₁ : List (Nat × Nat)} {lr₁ : List (Nat × Nat × Nat)} {li₁ : List (Nat × Nat × Int32)} {K0₁ N0₁ : MK} {I0₁ : MI} {L0₁ : ML} {R0₁ : MR} {K₁ N₁ : MK} {I₁ : MI} {L₁ : ML} {R₁ : MR} (h₁ : IAT₁ x₁ n₁ lk₁ ln₁ lr₁ li₁ K0₁ N0₁ I0₁ L0₁ R0₁ K₁ N₁ I₁ L₁ R₁) {Q₁ : MK → MK → MI → ML → MR → Prop} {j₁ n1₁ : Nat} (hj₁ : j₁ < n₁) (hk₁ : lkN₁ lk₁ j₁ = 1) (hn₁ : n1₁ = n₁ + 3) (kk₁ : ∀ K1₁ N1₁ I1₁ L1₁ R1₁, IAT₁ x₁ n1₁ ((n₁ + 2, 14) :: (n₁ + 1, 15) :: (n₁, 8) :: lk₁) ((n₁ + 2, 120) :: (n₁ + 1, 40) :: ln₁) ((j₁, 0, n₁) :: (n₁, 2, n₁ + 2) :: (n₁, 1, n₁ + 1) :: lr₁) ((j₁, 1, 0) :: (n₁, 0, 3) :: (n₁, 3, 0) :: li₁) K0₁ N0₁ I0₁ L0₁ R0₁ K1₁ N1₁ I1₁ L1₁ R1₁ → Q₁ K1₁ N1₁ I1₁ L1₁ R1₁) : w_X0_init (x₁ + j₁) K₁ N₁ I₁ L₁ R₁ 3 164 Q₁ := by
  delta w_X0_init
  refine ⟨by decide, by decide, ?_⟩
  refine h₁.newO (n1₁ := n₁ + 1) rfl fun K₁ N₁ I₁ L₁ R₁ h₁ => ?_
  refine ⟨by decide, by decide, ?_⟩
  refine i_X7 h₁ (j₁ := n₁) (n1₁ := n₁ + 3) (z₁ := 40) (w₁ := 120) (by omega) (if_pos rfl) rfl (by decide) (by decide) (by decide) fun K₁ N₁ I₁ L₁ R₁ h₁ => ?_
  refine ⟨h₁.k (j₁) (by omega) ((lkN_ne (by omega)).trans ((lkN_ne (by omega)).trans ((lkN_ne (by omega)).trans hk₁))), ?_⟩
  refine h₁.putR (a₁ := j₁) (i₁ := 0) (t₁ := n₁) (by omega) rfl fun R₁ h₁ => ?_
  refine h₁.putI (a₁ := j₁) (i₁ := 1) (by omega) rfl fun I₁ h₁ => ?_
  refine ⟨by decide, by decide, ?_⟩
  refine kk₁ _ _ _ _ _ ?_
  rw [hn₁]
  exact h₁
theorem i_X4 {x₁ n₁ : Nat} {lk₁ ln₁ : List (Nat × Nat)} {lr₁ : List (Nat × Nat × Nat)} {li₁ : List (Nat × Nat × Int32)} {K0₁ N0₁ : MK} {I0₁ : MI} {L0₁ : ML} {R0₁ : MR} {K₁ N₁ : MK} {I₁ : MI} {L₁ : ML} {R₁ : MR} (h₁ : IAT₁ x₁ n₁ lk₁ ln₁ lr₁ li₁ K0₁ N0₁ I0₁ L0₁ R0₁ K₁ N₁ I₁ L₁ R₁) {Q₁ : MK → MK → MI → ML → MR → Prop} {j₁ n1₁ : Nat} (hj₁ : j₁ < n₁) (hk₁ : lkN₁ lk₁ j₁ = 5) (hn₁ : n1₁ = n₁ + 9) (kk₁ : ∀ K1₁ N1₁ I1₁ L1₁ R1₁, IAT₁ x₁ n1₁ ((n₁ + 8, 14) :: (n₁ + 7, 15) :: (n₁ + 6, 8) :: (n₁ + 5, 14) :: (n₁ + 4, 15) :: (n₁ + 3, 8) :: (n₁ + 2, 14) :: (n₁ + 1, 15) :: (n₁, 8) :: lk₁) ((n₁ + 8, 60) :: (n₁ + 7, 30) :: (n₁ + 5, 60) :: (n₁ + 4, 30) :: (n₁ + 2, 181) :: (n₁ + 1, 181) :: ln₁) ((j₁, 2, n₁ + 6) :: (n₁ + 6, 2, n₁ + 8) :: (n₁ + 6, 1, n₁ + 7) :: (j₁, 1, n₁ + 3) :: (n₁ + 3, 2, n₁ + 5) :: (n₁ + 3, 1, n₁ + 4) :: (j₁, 0, n₁) :: (n₁, 2, n₁ + 2) :: (n₁, 1, n₁ + 1) :: lr₁) ((j₁, 4, 1) :: (j₁, 3, 0) :: (n₁ + 6, 0, 2) :: (n₁ + 6, 3, 0) :: (n₁ + 3, 0, 2) :: (n₁ + 3, 3, 0) :: (n₁, 0, 1) :: (n₁, 3, 0) :: li₁) K0₁ N0₁ I0₁ L0₁ R0₁ K1₁ N1₁ I1₁ L1₁ R1₁ → Q₁ K1₁ N1₁ I1₁ L1₁ R1₁) : w_X4_init (x₁ + j₁) K₁ N₁ I₁ L₁ R₁ 9 554 Q₁ := by
  delta w_X4_init
  refine ⟨by decide, by decide, ?_⟩
  refine h₁.newO (n1₁ := n₁ + 1) rfl fun K₁ N₁ I₁ L₁ R₁ h₁ => ?_
  refine ⟨by decide, by decide, ?_⟩
  refine i_X7 h₁ (j₁ := n₁) (n1₁ := n₁ + 3) (z₁ := 181) (w₁ := 181) (by omega) (if_pos rfl) rfl (by decide) (by decide) (by decide) fun K₁ N₁ I₁ L₁ R₁ h₁ => ?_
  refine ⟨h₁.k (j₁) (by omega) ((lkN_ne (by omega)).trans ((lkN_ne (by omega)).trans ((lkN_ne (by omega)).trans hk₁))), ?_⟩
  refine h₁.putR (a₁ := j₁) (i₁ := 0) (t₁ := n₁) (by omega) rfl fun R₁ h₁ => ?_
  refine ⟨by decide, by decide, ?_⟩
  refine h₁.newO (n1₁ := n₁ + 4) rfl fun K₁ N₁ I₁ L₁ R₁ h₁ => ?_
  refine ⟨by decide, by decide, ?_⟩
  refine i_X7 h₁ (j₁ := n₁ + 3) (n1₁ := n₁ + 6) (z₁ := 30) (w₁ := 60) (by omega) (if_pos rfl) rfl (by decide) (by decide) (by decide) fun K₁ N₁ I₁ L₁ R₁ h₁ => ?_
  refine ⟨h₁.k (j₁) (by omega) ((lkN_ne (by omega)).trans ((lkN_ne (by omega)).trans ((lkN_ne (by omega)).trans ((lkN_ne (by omega)).trans ((lkN_ne (by omega)).trans ((lkN_ne (by omega)).trans hk₁)))))), ?_⟩
  refine h₁.putR (a₁ := j₁) (i₁ := 1) (t₁ := n₁ + 3) (by omega) rfl fun R₁ h₁ => ?_
  refine ⟨by decide, by decide, ?_⟩
  refine h₁.newO (n1₁ := n₁ + 7) rfl fun K₁ N₁ I₁ L₁ R₁ h₁ => ?_
  refine ⟨by decide, by decide, ?_⟩
  refine i_X7 h₁ (j₁ := n₁ + 6) (n1₁ := n₁ + 9) (z₁ := 30) (w₁ := 60) (by omega) (if_pos rfl) rfl (by decide) (by decide) (by decide) fun K₁ N₁ I₁ L₁ R₁ h₁ => ?_
  refine ⟨h₁.k (j₁) (by omega) ((lkN_ne (by omega)).trans ((lkN_ne (by omega)).trans ((lkN_ne (by omega)).trans ((lkN_ne (by omega)).trans ((lkN_ne (by omega)).trans ((lkN_ne (by omega)).trans ((lkN_ne (by omega)).trans ((lkN_ne (by omega)).trans ((lkN_ne (by omega)).trans hk₁))))))))), ?_⟩
  refine h₁.putR (a₁ := j₁) (i₁ := 2) (t₁ := n₁ + 6) (by omega) rfl fun R₁ h₁ => ?_
  refine h₁.putI (a₁ := j₁) (i₁ := 3) (by omega) rfl fun I₁ h₁ => ?_
  refine h₁.putI (a₁ := j₁) (i₁ := 4) (by omega) rfl fun I₁ h₁ => ?_
  refine ⟨by decide, by decide, ?_⟩
  refine kk₁ _ _ _ _ _ ?_
  rw [hn₁]
  exact h₁
def X12_k0 : List (Nat × Nat) := [(0, 13)]
def X12_n0 : List (Nat × Nat) := []
def X12_r0 : List (Nat × Nat × Nat) := []
def X12_i0 : List (Nat × Nat × Int32) := []
def X12_k1 : List (Nat × Nat) := ((1, 14) :: X12_k0)
def X12_n1 : List (Nat × Nat) := ((1, 940) :: X12_n0)
def X12_r1 : List (Nat × Nat × Nat) := ((0, 1, 1) :: X12_r0)
def X12_i1 : List (Nat × Nat × Int32) := (X12_i0)
def X12_k2 : List (Nat × Nat) := ((2, 14) :: X12_k1)
def X12_n2 : List (Nat × Nat) := ((2, 667) :: X12_n1)
def X12_r2 : List (Nat × Nat × Nat) := ((0, 14, 2) :: X12_r1)
def X12_i2 : List (Nat × Nat × Int32) := (X12_i1)
def X12_k3 : List (Nat × Nat) := ((3, 14) :: X12_k2)
def X12_n3 : List (Nat × Nat) := ((3, 342) :: X12_n2)
def X12_r3 : List (Nat × Nat × Nat) := ((0, 15, 3) :: X12_r2)
def X12_i3 : List (Nat × Nat × Int32) := (X12_i2)
def X12_k4 : List (Nat × Nat) := ((4, 14) :: X12_k3)
def X12_n4 : List (Nat × Nat) := ((4, 1334) :: X12_n3)
def X12_r4 : List (Nat × Nat × Nat) := ((0, 16, 4) :: X12_r3)
def X12_i4 : List (Nat × Nat × Int32) := (X12_i3)
def X12_k5 : List (Nat × Nat) := ((5, 14) :: X12_k4)
def X12_n5 : List (Nat × Nat) := ((5, 664) :: X12_n4)
def X12_r5 : List (Nat × Nat × Nat) := ((0, 17, 5) :: X12_r4)
def X12_i5 : List (Nat × Nat × Int32) := (X12_i4)
def X12_k6 : List (Nat × Nat) := ((6, 14) :: X12_k5)
def X12_n6 : List (Nat × Nat) := ((6, 83) :: X12_n5)
def X12_r6 : List (Nat × Nat × Nat) := ((0, 18, 6) :: X12_r5)
def X12_i6 : List (Nat × Nat × Int32) := (X12_i5)
def X12_k7 : List (Nat × Nat) := ((7, 14) :: X12_k6)
def X12_n7 : List (Nat × Nat) := ((7, 83) :: X12_n6)
def X12_r7 : List (Nat × Nat × Nat) := ((0, 19, 7) :: X12_r6)
def X12_i7 : List (Nat × Nat × Int32) := (X12_i6)
def X12_k8 : List (Nat × Nat) := ((8, 15) :: X12_k7)
def X12_n8 : List (Nat × Nat) := ((8, 26) :: X12_n7)
def X12_r8 : List (Nat × Nat × Nat) := ((0, 20, 8) :: X12_r7)
def X12_i8 : List (Nat × Nat × Int32) := (X12_i7)
def X12_k9 : List (Nat × Nat) := ((9, 15) :: X12_k8)
def X12_n9 : List (Nat × Nat) := ((9, 26) :: X12_n8)
def X12_r9 : List (Nat × Nat × Nat) := ((0, 21, 9) :: X12_r8)
def X12_i9 : List (Nat × Nat × Int32) := (X12_i8)
def X12_k10 : List (Nat × Nat) := ((10, 15) :: X12_k9)
def X12_n10 : List (Nat × Nat) := ((10, 52) :: X12_n9)
def X12_r10 : List (Nat × Nat × Nat) := ((0, 22, 10) :: X12_r9)
def X12_i10 : List (Nat × Nat × Int32) := (X12_i9)
def X12_k11 : List (Nat × Nat) := ((11, 16) :: X12_k10)
def X12_n11 : List (Nat × Nat) := ((11, 2) :: X12_n10)
def X12_r11 : List (Nat × Nat × Nat) := ((0, 23, 11) :: X12_r10)
def X12_i11 : List (Nat × Nat × Int32) := (X12_i10)
def X12_k12 : List (Nat × Nat) := ((12, 14) :: X12_k11)
def X12_n12 : List (Nat × Nat) := ((12, 10) :: X12_n11)
def X12_r12 : List (Nat × Nat × Nat) := ((0, 26, 12) :: X12_r11)
def X12_i12 : List (Nat × Nat × Int32) := (X12_i11)
def X12_k13 : List (Nat × Nat) := ((13, 14) :: X12_k12)
def X12_n13 : List (Nat × Nat) := ((13, 10) :: X12_n12)
def X12_r13 : List (Nat × Nat × Nat) := ((0, 27, 13) :: X12_r12)
def X12_i13 : List (Nat × Nat × Int32) := (X12_i12)
def X12_k14 : List (Nat × Nat) := ((14, 14) :: X12_k13)
def X12_n14 : List (Nat × Nat) := ((14, 9) :: X12_n13)
def X12_r14 : List (Nat × Nat × Nat) := ((0, 29, 14) :: X12_r13)
def X12_i14 : List (Nat × Nat × Int32) := (X12_i13)
def X12_k15 : List (Nat × Nat) := ((15, 14) :: X12_k14)
def X12_n15 : List (Nat × Nat) := ((15, 256) :: X12_n14)
def X12_r15 : List (Nat × Nat × Nat) := ((0, 32, 15) :: X12_r14)
def X12_i15 : List (Nat × Nat × Int32) := (X12_i14)
def X12_k16 : List (Nat × Nat) := ((16, 14) :: X12_k15)
def X12_n16 : List (Nat × Nat) := ((16, 24) :: X12_n15)
def X12_r16 : List (Nat × Nat × Nat) := ((0, 33, 16) :: X12_r15)
def X12_i16 : List (Nat × Nat × Int32) := (X12_i15)
def X12_k17 : List (Nat × Nat) := ((17, 14) :: X12_k16)
def X12_n17 : List (Nat × Nat) := ((17, 24) :: X12_n16)
def X12_r17 : List (Nat × Nat × Nat) := ((0, 34, 17) :: X12_r16)
def X12_i17 : List (Nat × Nat × Int32) := (X12_i16)
def X12_k18 : List (Nat × Nat) := ((18, 14) :: X12_k17)
def X12_n18 : List (Nat × Nat) := ((18, 30) :: X12_n17)
def X12_r18 : List (Nat × Nat × Nat) := ((0, 38, 18) :: X12_r17)
def X12_i18 : List (Nat × Nat × Int32) := (X12_i17)
def X12_k19 : List (Nat × Nat) := ((19, 14) :: X12_k18)
def X12_n19 : List (Nat × Nat) := ((19, 30) :: X12_n18)
def X12_r19 : List (Nat × Nat × Nat) := ((0, 39, 19) :: X12_r18)
def X12_i19 : List (Nat × Nat × Int32) := (X12_i18)
def X12_k20 : List (Nat × Nat) := ((20, 14) :: X12_k19)
def X12_n20 : List (Nat × Nat) := ((20, 30) :: X12_n19)
def X12_r20 : List (Nat × Nat × Nat) := ((0, 40, 20) :: X12_r19)
def X12_i20 : List (Nat × Nat × Int32) := (X12_i19)
def X12_k21 : List (Nat × Nat) := ((21, 14) :: X12_k20)
def X12_n21 : List (Nat × Nat) := ((21, 30) :: X12_n20)
def X12_r21 : List (Nat × Nat × Nat) := ((0, 41, 21) :: X12_r20)
def X12_i21 : List (Nat × Nat × Int32) := (X12_i20)
def X12_k22 : List (Nat × Nat) := ((22, 14) :: X12_k21)
def X12_n22 : List (Nat × Nat) := ((22, 48) :: X12_n21)
def X12_r22 : List (Nat × Nat × Nat) := ((0, 46, 22) :: X12_r21)
def X12_i22 : List (Nat × Nat × Int32) := (X12_i21)
def X12_k23 : List (Nat × Nat) := ((23, 14) :: X12_k22)
def X12_n23 : List (Nat × Nat) := ((23, 120) :: X12_n22)
def X12_r23 : List (Nat × Nat × Nat) := ((0, 49, 23) :: X12_r22)
def X12_i23 : List (Nat × Nat × Int32) := (X12_i22)
def X12_k24 : List (Nat × Nat) := ((24, 14) :: X12_k23)
def X12_n24 : List (Nat × Nat) := ((24, 4) :: X12_n23)
def X12_r24 : List (Nat × Nat × Nat) := ((0, 50, 24) :: X12_r23)
def X12_i24 : List (Nat × Nat × Int32) := (X12_i23)
def X12_k25 : List (Nat × Nat) := ((25, 14) :: X12_k24)
def X12_n25 : List (Nat × Nat) := ((25, 240) :: X12_n24)
def X12_r25 : List (Nat × Nat × Nat) := ((0, 53, 25) :: X12_r24)
def X12_i25 : List (Nat × Nat × Int32) := ((2, 0, 256) :: X12_i24)
theorem i_X12_init_200 {x₁ mc₁ ms₁ : Nat} {K0₁ N0₁ : MK} {I0₁ : MI} {L0₁ : ML} {R0₁ : MR} {K₁ N₁ : MK} {I₁ : MI} {L₁ : ML} {R₁ : MR} {Q₁ : MK → MK → MI → ML → MR → Prop} (h₁ : IAT₁ x₁ 25 X12_k24 X12_n24 X12_r24 X12_i24 K0₁ N0₁ I0₁ L0₁ R0₁ K₁ N₁ I₁ L₁ R₁) (hc₁ : mc₁ = 24) (hs₁ : ms₁ = 4844) (kk₁ : ∀ K1₁ N1₁ I1₁ L1₁ R1₁, IAT₁ x₁ 26 X12_k25 X12_n25 X12_r25 X12_i25 K0₁ N0₁ I0₁ L0₁ R0₁ K1₁ N1₁ I1₁ L1₁ R1₁ → Q₁ K1₁ N1₁ I1₁ L1₁ R1₁) : w_X12_init_200 x₁ K₁ N₁ I₁ L₁ R₁ mc₁ ms₁ 25 5084 Q₁ := by
  delta w_X12_init_200
  have ix_0 : ix 0 = 0 := by decide
  have ix_240 : ix 240 = 240 := by decide
  refine ⟨by decide, by decide, by omega, by omega, ?_⟩
  refine h₁.newA (n1₁ := 26) (z₁ := 240) rfl (by decide) fun K₁ N₁ I₁ L₁ R₁ h₁ => ?_
  refine ⟨h₁.k (0) (by decide) (by decide +kernel), ?_⟩
  refine h₁.putR (a₁ := 0) (i₁ := 53) (t₁ := 25) (by decide) rfl fun R₁ h₁ => ?_
  refine ⟨_, h₁.r 0 14 (v₁ := 2) (by decide +kernel), ?_⟩
  refine ⟨h₁.k (2) (by decide) (by decide +kernel), ?_⟩
  refine ⟨(h₁.n 2 (v₁ := 667) (by decide +kernel)).symm ▸ (vp_nI (by decide)).2 (by decide), ?_⟩
  refine h₁.putI (a₁ := 2) (i₁ := 0) (by decide) (by decide) fun I₁ h₁ => ?_
  refine ⟨by omega, by omega, ?_⟩
  exact kk₁ _ _ _ _ _ h₁
theorem i_X12_init_193 {x₁ mc₁ ms₁ : Nat} {K0₁ N0₁ : MK} {I0₁ : MI} {L0₁ : ML} {R0₁ : MR} {K₁ N₁ : MK} {I₁ : MI} {L₁ : ML} {R₁ : MR} {Q₁ : MK → MK → MI → ML → MR → Prop} (h₁ : IAT₁ x₁ 24 X12_k23 X12_n23 X12_r23 X12_i23 K0₁ N0₁ I0₁ L0₁ R0₁ K₁ N₁ I₁ L₁ R₁) (hc₁ : mc₁ = 23) (hs₁ : ms₁ = 4840) (kk₁ : ∀ K1₁ N1₁ I1₁ L1₁ R1₁, IAT₁ x₁ 26 X12_k25 X12_n25 X12_r25 X12_i25 K0₁ N0₁ I0₁ L0₁ R0₁ K1₁ N1₁ I1₁ L1₁ R1₁ → Q₁ K1₁ N1₁ I1₁ L1₁ R1₁) : w_X12_init_193 x₁ K₁ N₁ I₁ L₁ R₁ mc₁ ms₁ 25 5084 Q₁ := by
  delta w_X12_init_193
  have ix_4 : ix 4 = 4 := by decide
  refine ⟨by decide, by decide, by omega, by omega, ?_⟩
  refine h₁.newA (n1₁ := 25) (z₁ := 4) rfl (by decide) fun K₁ N₁ I₁ L₁ R₁ h₁ => ?_
  refine ⟨h₁.k (0) (by decide) (by decide +kernel), ?_⟩
  refine h₁.putR (a₁ := 0) (i₁ := 50) (t₁ := 24) (by decide) rfl fun R₁ h₁ => ?_
  exact i_X12_init_200 h₁ (by omega) (by omega) kk₁
theorem i_X12_init_185 {x₁ mc₁ ms₁ : Nat} {K0₁ N0₁ : MK} {I0₁ : MI} {L0₁ : ML} {R0₁ : MR} {K₁ N₁ : MK} {I₁ : MI} {L₁ : ML} {R₁ : MR} {Q₁ : MK → MK → MI → ML → MR → Prop} (h₁ : IAT₁ x₁ 23 X12_k22 X12_n22 X12_r22 X12_i22 K0₁ N0₁ I0₁ L0₁ R0₁ K₁ N₁ I₁ L₁ R₁) (hc₁ : mc₁ = 22) (hs₁ : ms₁ = 4720) (kk₁ : ∀ K1₁ N1₁ I1₁ L1₁ R1₁, IAT₁ x₁ 26 X12_k25 X12_n25 X12_r25 X12_i25 K0₁ N0₁ I0₁ L0₁ R0₁ K1₁ N1₁ I1₁ L1₁ R1₁ → Q₁ K1₁ N1₁ I1₁ L1₁ R1₁) : w_X12_init_185 x₁ K₁ N₁ I₁ L₁ R₁ mc₁ ms₁ 25 5084 Q₁ := by
  delta w_X12_init_185
  have ix_120 : ix 120 = 120 := by decide
  refine ⟨by decide, by decide, by omega, by omega, ?_⟩
  refine h₁.newA (n1₁ := 24) (z₁ := 120) rfl (by decide) fun K₁ N₁ I₁ L₁ R₁ h₁ => ?_
  refine ⟨h₁.k (0) (by decide) (by decide +kernel), ?_⟩
  refine h₁.putR (a₁ := 0) (i₁ := 49) (t₁ := 23) (by decide) rfl fun R₁ h₁ => ?_
  exact i_X12_init_193 h₁ (by omega) (by omega) kk₁
theorem i_X12_init_177 {x₁ mc₁ ms₁ : Nat} {K0₁ N0₁ : MK} {I0₁ : MI} {L0₁ : ML} {R0₁ : MR} {K₁ N₁ : MK} {I₁ : MI} {L₁ : ML} {R₁ : MR} {Q₁ : MK → MK → MI → ML → MR → Prop} (h₁ : IAT₁ x₁ 22 X12_k21 X12_n21 X12_r21 X12_i21 K0₁ N0₁ I0₁ L0₁ R0₁ K₁ N₁ I₁ L₁ R₁) (hc₁ : mc₁ = 21) (hs₁ : ms₁ = 4672) (kk₁ : ∀ K1₁ N1₁ I1₁ L1₁ R1₁, IAT₁ x₁ 26 X12_k25 X12_n25 X12_r25 X12_i25 K0₁ N0₁ I0₁ L0₁ R0₁ K1₁ N1₁ I1₁ L1₁ R1₁ → Q₁ K1₁ N1₁ I1₁ L1₁ R1₁) : w_X12_init_177 x₁ K₁ N₁ I₁ L₁ R₁ mc₁ ms₁ 25 5084 Q₁ := by
  delta w_X12_init_177
  have ix_48 : ix 48 = 48 := by decide
  refine ⟨by decide, by decide, by omega, by omega, ?_⟩
  refine h₁.newA (n1₁ := 23) (z₁ := 48) rfl (by decide) fun K₁ N₁ I₁ L₁ R₁ h₁ => ?_
  refine ⟨h₁.k (0) (by decide) (by decide +kernel), ?_⟩
  refine h₁.putR (a₁ := 0) (i₁ := 46) (t₁ := 22) (by decide) rfl fun R₁ h₁ => ?_
  exact i_X12_init_185 h₁ (by omega) (by omega) kk₁
theorem i_X12_init_169 {x₁ mc₁ ms₁ : Nat} {K0₁ N0₁ : MK} {I0₁ : MI} {L0₁ : ML} {R0₁ : MR} {K₁ N₁ : MK} {I₁ : MI} {L₁ : ML} {R₁ : MR} {Q₁ : MK → MK → MI → ML → MR → Prop} (h₁ : IAT₁ x₁ 21 X12_k20 X12_n20 X12_r20 X12_i20 K0₁ N0₁ I0₁ L0₁ R0₁ K₁ N₁ I₁ L₁ R₁) (hc₁ : mc₁ = 20) (hs₁ : ms₁ = 4642) (kk₁ : ∀ K1₁ N1₁ I1₁ L1₁ R1₁, IAT₁ x₁ 26 X12_k25 X12_n25 X12_r25 X12_i25 K0₁ N0₁ I0₁ L0₁ R0₁ K1₁ N1₁ I1₁ L1₁ R1₁ → Q₁ K1₁ N1₁ I1₁ L1₁ R1₁) : w_X12_init_169 x₁ K₁ N₁ I₁ L₁ R₁ mc₁ ms₁ 25 5084 Q₁ := by
  delta w_X12_init_169
  have ix_30 : ix 30 = 30 := by decide
  refine ⟨by decide, by decide, by omega, by omega, ?_⟩
  refine h₁.newA (n1₁ := 22) (z₁ := 30) rfl (by decide) fun K₁ N₁ I₁ L₁ R₁ h₁ => ?_
  refine ⟨h₁.k (0) (by decide) (by decide +kernel), ?_⟩
  refine h₁.putR (a₁ := 0) (i₁ := 41) (t₁ := 21) (by decide) rfl fun R₁ h₁ => ?_
  exact i_X12_init_177 h₁ (by omega) (by omega) kk₁
theorem i_X12_init_161 {x₁ mc₁ ms₁ : Nat} {K0₁ N0₁ : MK} {I0₁ : MI} {L0₁ : ML} {R0₁ : MR} {K₁ N₁ : MK} {I₁ : MI} {L₁ : ML} {R₁ : MR} {Q₁ : MK → MK → MI → ML → MR → Prop} (h₁ : IAT₁ x₁ 20 X12_k19 X12_n19 X12_r19 X12_i19 K0₁ N0₁ I0₁ L0₁ R0₁ K₁ N₁ I₁ L₁ R₁) (hc₁ : mc₁ = 19) (hs₁ : ms₁ = 4612) (kk₁ : ∀ K1₁ N1₁ I1₁ L1₁ R1₁, IAT₁ x₁ 26 X12_k25 X12_n25 X12_r25 X12_i25 K0₁ N0₁ I0₁ L0₁ R0₁ K1₁ N1₁ I1₁ L1₁ R1₁ → Q₁ K1₁ N1₁ I1₁ L1₁ R1₁) : w_X12_init_161 x₁ K₁ N₁ I₁ L₁ R₁ mc₁ ms₁ 25 5084 Q₁ := by
  delta w_X12_init_161
  have ix_30 : ix 30 = 30 := by decide
  refine ⟨by decide, by decide, by omega, by omega, ?_⟩
  refine h₁.newA (n1₁ := 21) (z₁ := 30) rfl (by decide) fun K₁ N₁ I₁ L₁ R₁ h₁ => ?_
  refine ⟨h₁.k (0) (by decide) (by decide +kernel), ?_⟩
  refine h₁.putR (a₁ := 0) (i₁ := 40) (t₁ := 20) (by decide) rfl fun R₁ h₁ => ?_
  exact i_X12_init_169 h₁ (by omega) (by omega) kk₁
theorem i_X12_init_153 {x₁ mc₁ ms₁ : Nat} {K0₁ N0₁ : MK} {I0₁ : MI} {L0₁ : ML} {R0₁ : MR} {K₁ N₁ : MK} {I₁ : MI} {L₁ : ML} {R₁ : MR} {Q₁ : MK → MK → MI → ML → MR → Prop} (h₁ : IAT₁ x₁ 19 X12_k18 X12_n18 X12_r18 X12_i18 K0₁ N0₁ I0₁ L0₁ R0₁ K₁ N₁ I₁ L₁ R₁) (hc₁ : mc₁ = 18) (hs₁ : ms₁ = 4582) (kk₁ : ∀ K1₁ N1₁ I1₁ L1₁ R1₁, IAT₁ x₁ 26 X12_k25 X12_n25 X12_r25 X12_i25 K0₁ N0₁ I0₁ L0₁ R0₁ K1₁ N1₁ I1₁ L1₁ R1₁ → Q₁ K1₁ N1₁ I1₁ L1₁ R1₁) : w_X12_init_153 x₁ K₁ N₁ I₁ L₁ R₁ mc₁ ms₁ 25 5084 Q₁ := by
  delta w_X12_init_153
  have ix_30 : ix 30 = 30 := by decide
  refine ⟨by decide, by decide, by omega, by omega, ?_⟩
  refine h₁.newA (n1₁ := 20) (z₁ := 30) rfl (by decide) fun K₁ N₁ I₁ L₁ R₁ h₁ => ?_
  refine ⟨h₁.k (0) (by decide) (by decide +kernel), ?_⟩
  refine h₁.putR (a₁ := 0) (i₁ := 39) (t₁ := 19) (by decide) rfl fun R₁ h₁ => ?_
  exact i_X12_init_161 h₁ (by omega) (by omega) kk₁
theorem i_X12_init_145 {x₁ mc₁ ms₁ : Nat} {K0₁ N0₁ : MK} {I0₁ : MI} {L0₁ : ML} {R0₁ : MR} {K₁ N₁ : MK} {I₁ : MI} {L₁ : ML} {R₁ : MR} {Q₁ : MK → MK → MI → ML → MR → Prop} (h₁ : IAT₁ x₁ 18 X12_k17 X12_n17 X12_r17 X12_i17 K0₁ N0₁ I0₁ L0₁ R0₁ K₁ N₁ I₁ L₁ R₁) (hc₁ : mc₁ = 17) (hs₁ : ms₁ = 4552) (kk₁ : ∀ K1₁ N1₁ I1₁ L1₁ R1₁, IAT₁ x₁ 26 X12_k25 X12_n25 X12_r25 X12_i25 K0₁ N0₁ I0₁ L0₁ R0₁ K1₁ N1₁ I1₁ L1₁ R1₁ → Q₁ K1₁ N1₁ I1₁ L1₁ R1₁) : w_X12_init_145 x₁ K₁ N₁ I₁ L₁ R₁ mc₁ ms₁ 25 5084 Q₁ := by
  delta w_X12_init_145
  have ix_30 : ix 30 = 30 := by decide
  refine ⟨by decide, by decide, by omega, by omega, ?_⟩
  refine h₁.newA (n1₁ := 19) (z₁ := 30) rfl (by decide) fun K₁ N₁ I₁ L₁ R₁ h₁ => ?_
  refine ⟨h₁.k (0) (by decide) (by decide +kernel), ?_⟩
  refine h₁.putR (a₁ := 0) (i₁ := 38) (t₁ := 18) (by decide) rfl fun R₁ h₁ => ?_
  exact i_X12_init_153 h₁ (by omega) (by omega) kk₁
theorem i_X12_init_137 {x₁ mc₁ ms₁ : Nat} {K0₁ N0₁ : MK} {I0₁ : MI} {L0₁ : ML} {R0₁ : MR} {K₁ N₁ : MK} {I₁ : MI} {L₁ : ML} {R₁ : MR} {Q₁ : MK → MK → MI → ML → MR → Prop} (h₁ : IAT₁ x₁ 17 X12_k16 X12_n16 X12_r16 X12_i16 K0₁ N0₁ I0₁ L0₁ R0₁ K₁ N₁ I₁ L₁ R₁) (hc₁ : mc₁ = 16) (hs₁ : ms₁ = 4528) (kk₁ : ∀ K1₁ N1₁ I1₁ L1₁ R1₁, IAT₁ x₁ 26 X12_k25 X12_n25 X12_r25 X12_i25 K0₁ N0₁ I0₁ L0₁ R0₁ K1₁ N1₁ I1₁ L1₁ R1₁ → Q₁ K1₁ N1₁ I1₁ L1₁ R1₁) : w_X12_init_137 x₁ K₁ N₁ I₁ L₁ R₁ mc₁ ms₁ 25 5084 Q₁ := by
  delta w_X12_init_137
  have ix_24 : ix 24 = 24 := by decide
  refine ⟨by decide, by decide, by omega, by omega, ?_⟩
  refine h₁.newA (n1₁ := 18) (z₁ := 24) rfl (by decide) fun K₁ N₁ I₁ L₁ R₁ h₁ => ?_
  refine ⟨h₁.k (0) (by decide) (by decide +kernel), ?_⟩
  refine h₁.putR (a₁ := 0) (i₁ := 34) (t₁ := 17) (by decide) rfl fun R₁ h₁ => ?_
  exact i_X12_init_145 h₁ (by omega) (by omega) kk₁
theorem i_X12_init_129 {x₁ mc₁ ms₁ : Nat} {K0₁ N0₁ : MK} {I0₁ : MI} {L0₁ : ML} {R0₁ : MR} {K₁ N₁ : MK} {I₁ : MI} {L₁ : ML} {R₁ : MR} {Q₁ : MK → MK → MI → ML → MR → Prop} (h₁ : IAT₁ x₁ 16 X12_k15 X12_n15 X12_r15 X12_i15 K0₁ N0₁ I0₁ L0₁ R0₁ K₁ N₁ I₁ L₁ R₁) (hc₁ : mc₁ = 15) (hs₁ : ms₁ = 4504) (kk₁ : ∀ K1₁ N1₁ I1₁ L1₁ R1₁, IAT₁ x₁ 26 X12_k25 X12_n25 X12_r25 X12_i25 K0₁ N0₁ I0₁ L0₁ R0₁ K1₁ N1₁ I1₁ L1₁ R1₁ → Q₁ K1₁ N1₁ I1₁ L1₁ R1₁) : w_X12_init_129 x₁ K₁ N₁ I₁ L₁ R₁ mc₁ ms₁ 25 5084 Q₁ := by
  delta w_X12_init_129
  have ix_24 : ix 24 = 24 := by decide
  refine ⟨by decide, by decide, by omega, by omega, ?_⟩
  refine h₁.newA (n1₁ := 17) (z₁ := 24) rfl (by decide) fun K₁ N₁ I₁ L₁ R₁ h₁ => ?_
  refine ⟨h₁.k (0) (by decide) (by decide +kernel), ?_⟩
  refine h₁.putR (a₁ := 0) (i₁ := 33) (t₁ := 16) (by decide) rfl fun R₁ h₁ => ?_
  exact i_X12_init_137 h₁ (by omega) (by omega) kk₁
theorem i_X12_init_120 {x₁ mc₁ ms₁ : Nat} {K0₁ N0₁ : MK} {I0₁ : MI} {L0₁ : ML} {R0₁ : MR} {K₁ N₁ : MK} {I₁ : MI} {L₁ : ML} {R₁ : MR} {Q₁ : MK → MK → MI → ML → MR → Prop} (h₁ : IAT₁ x₁ 15 X12_k14 X12_n14 X12_r14 X12_i14 K0₁ N0₁ I0₁ L0₁ R0₁ K₁ N₁ I₁ L₁ R₁) (hc₁ : mc₁ = 14) (hs₁ : ms₁ = 4248) (kk₁ : ∀ K1₁ N1₁ I1₁ L1₁ R1₁, IAT₁ x₁ 26 X12_k25 X12_n25 X12_r25 X12_i25 K0₁ N0₁ I0₁ L0₁ R0₁ K1₁ N1₁ I1₁ L1₁ R1₁ → Q₁ K1₁ N1₁ I1₁ L1₁ R1₁) : w_X12_init_120 x₁ K₁ N₁ I₁ L₁ R₁ mc₁ ms₁ 25 5084 Q₁ := by
  delta w_X12_init_120
  have ix_256 : ix 256 = 256 := by decide
  refine ⟨by decide, by decide, by omega, by omega, ?_⟩
  refine h₁.newA (n1₁ := 16) (z₁ := 256) rfl (by decide) fun K₁ N₁ I₁ L₁ R₁ h₁ => ?_
  refine ⟨h₁.k (0) (by decide) (by decide +kernel), ?_⟩
  refine h₁.putR (a₁ := 0) (i₁ := 32) (t₁ := 15) (by decide) rfl fun R₁ h₁ => ?_
  exact i_X12_init_129 h₁ (by omega) (by omega) kk₁
theorem i_X12_init_112 {x₁ mc₁ ms₁ : Nat} {K0₁ N0₁ : MK} {I0₁ : MI} {L0₁ : ML} {R0₁ : MR} {K₁ N₁ : MK} {I₁ : MI} {L₁ : ML} {R₁ : MR} {Q₁ : MK → MK → MI → ML → MR → Prop} (h₁ : IAT₁ x₁ 14 X12_k13 X12_n13 X12_r13 X12_i13 K0₁ N0₁ I0₁ L0₁ R0₁ K₁ N₁ I₁ L₁ R₁) (hc₁ : mc₁ = 13) (hs₁ : ms₁ = 4239) (kk₁ : ∀ K1₁ N1₁ I1₁ L1₁ R1₁, IAT₁ x₁ 26 X12_k25 X12_n25 X12_r25 X12_i25 K0₁ N0₁ I0₁ L0₁ R0₁ K1₁ N1₁ I1₁ L1₁ R1₁ → Q₁ K1₁ N1₁ I1₁ L1₁ R1₁) : w_X12_init_112 x₁ K₁ N₁ I₁ L₁ R₁ mc₁ ms₁ 25 5084 Q₁ := by
  delta w_X12_init_112
  have ix_9 : ix 9 = 9 := by decide
  refine ⟨by decide, by decide, by omega, by omega, ?_⟩
  refine h₁.newA (n1₁ := 15) (z₁ := 9) rfl (by decide) fun K₁ N₁ I₁ L₁ R₁ h₁ => ?_
  refine ⟨h₁.k (0) (by decide) (by decide +kernel), ?_⟩
  refine h₁.putR (a₁ := 0) (i₁ := 29) (t₁ := 14) (by decide) rfl fun R₁ h₁ => ?_
  exact i_X12_init_120 h₁ (by omega) (by omega) kk₁
theorem i_X12_init_104 {x₁ mc₁ ms₁ : Nat} {K0₁ N0₁ : MK} {I0₁ : MI} {L0₁ : ML} {R0₁ : MR} {K₁ N₁ : MK} {I₁ : MI} {L₁ : ML} {R₁ : MR} {Q₁ : MK → MK → MI → ML → MR → Prop} (h₁ : IAT₁ x₁ 13 X12_k12 X12_n12 X12_r12 X12_i12 K0₁ N0₁ I0₁ L0₁ R0₁ K₁ N₁ I₁ L₁ R₁) (hc₁ : mc₁ = 12) (hs₁ : ms₁ = 4229) (kk₁ : ∀ K1₁ N1₁ I1₁ L1₁ R1₁, IAT₁ x₁ 26 X12_k25 X12_n25 X12_r25 X12_i25 K0₁ N0₁ I0₁ L0₁ R0₁ K1₁ N1₁ I1₁ L1₁ R1₁ → Q₁ K1₁ N1₁ I1₁ L1₁ R1₁) : w_X12_init_104 x₁ K₁ N₁ I₁ L₁ R₁ mc₁ ms₁ 25 5084 Q₁ := by
  delta w_X12_init_104
  have ix_10 : ix 10 = 10 := by decide
  refine ⟨by decide, by decide, by omega, by omega, ?_⟩
  refine h₁.newA (n1₁ := 14) (z₁ := 10) rfl (by decide) fun K₁ N₁ I₁ L₁ R₁ h₁ => ?_
  refine ⟨h₁.k (0) (by decide) (by decide +kernel), ?_⟩
  refine h₁.putR (a₁ := 0) (i₁ := 27) (t₁ := 13) (by decide) rfl fun R₁ h₁ => ?_
  exact i_X12_init_112 h₁ (by omega) (by omega) kk₁
theorem i_X12_init_96 {x₁ mc₁ ms₁ : Nat} {K0₁ N0₁ : MK} {I0₁ : MI} {L0₁ : ML} {R0₁ : MR} {K₁ N₁ : MK} {I₁ : MI} {L₁ : ML} {R₁ : MR} {Q₁ : MK → MK → MI → ML → MR → Prop} (h₁ : IAT₁ x₁ 12 X12_k11 X12_n11 X12_r11 X12_i11 K0₁ N0₁ I0₁ L0₁ R0₁ K₁ N₁ I₁ L₁ R₁) (hc₁ : mc₁ = 11) (hs₁ : ms₁ = 4219) (kk₁ : ∀ K1₁ N1₁ I1₁ L1₁ R1₁, IAT₁ x₁ 26 X12_k25 X12_n25 X12_r25 X12_i25 K0₁ N0₁ I0₁ L0₁ R0₁ K1₁ N1₁ I1₁ L1₁ R1₁ → Q₁ K1₁ N1₁ I1₁ L1₁ R1₁) : w_X12_init_96 x₁ K₁ N₁ I₁ L₁ R₁ mc₁ ms₁ 25 5084 Q₁ := by
  delta w_X12_init_96
  have ix_10 : ix 10 = 10 := by decide
  refine ⟨by decide, by decide, by omega, by omega, ?_⟩
  refine h₁.newA (n1₁ := 13) (z₁ := 10) rfl (by decide) fun K₁ N₁ I₁ L₁ R₁ h₁ => ?_
  refine ⟨h₁.k (0) (by decide) (by decide +kernel), ?_⟩
  refine h₁.putR (a₁ := 0) (i₁ := 26) (t₁ := 12) (by decide) rfl fun R₁ h₁ => ?_
  exact i_X12_init_104 h₁ (by omega) (by omega) kk₁
theorem i_X12_init_89 {x₁ mc₁ ms₁ : Nat} {K0₁ N0₁ : MK} {I0₁ : MI} {L0₁ : ML} {R0₁ : MR} {K₁ N₁ : MK} {I₁ : MI} {L₁ : ML} {R₁ : MR} {Q₁ : MK → MK → MI → ML → MR → Prop} (h₁ : IAT₁ x₁ 11 X12_k10 X12_n10 X12_r10 X12_i10 K0₁ N0₁ I0₁ L0₁ R0₁ K₁ N₁ I₁ L₁ R₁) (hc₁ : mc₁ = 10) (hs₁ : ms₁ = 4217) (kk₁ : ∀ K1₁ N1₁ I1₁ L1₁ R1₁, IAT₁ x₁ 26 X12_k25 X12_n25 X12_r25 X12_i25 K0₁ N0₁ I0₁ L0₁ R0₁ K1₁ N1₁ I1₁ L1₁ R1₁ → Q₁ K1₁ N1₁ I1₁ L1₁ R1₁) : w_X12_init_89 x₁ K₁ N₁ I₁ L₁ R₁ mc₁ ms₁ 25 5084 Q₁ := by
  delta w_X12_init_89
  have ix_2 : ix 2 = 2 := by decide
  refine ⟨by decide, by decide, by omega, by omega, ?_⟩
  refine h₁.newA (n1₁ := 12) (z₁ := 2) rfl (by decide) fun K₁ N₁ I₁ L₁ R₁ h₁ => ?_
  refine ⟨h₁.k (0) (by decide) (by decide +kernel), ?_⟩
  refine h₁.putR (a₁ := 0) (i₁ := 23) (t₁ := 11) (by decide) rfl fun R₁ h₁ => ?_
  exact i_X12_init_96 h₁ (by omega) (by omega) kk₁
theorem i_X12_init_81 {x₁ mc₁ ms₁ : Nat} {K0₁ N0₁ : MK} {I0₁ : MI} {L0₁ : ML} {R0₁ : MR} {K₁ N₁ : MK} {I₁ : MI} {L₁ : ML} {R₁ : MR} {Q₁ : MK → MK → MI → ML → MR → Prop} (h₁ : IAT₁ x₁ 10 X12_k9 X12_n9 X12_r9 X12_i9 K0₁ N0₁ I0₁ L0₁ R0₁ K₁ N₁ I₁ L₁ R₁) (hc₁ : mc₁ = 9) (hs₁ : ms₁ = 4165) (kk₁ : ∀ K1₁ N1₁ I1₁ L1₁ R1₁, IAT₁ x₁ 26 X12_k25 X12_n25 X12_r25 X12_i25 K0₁ N0₁ I0₁ L0₁ R0₁ K1₁ N1₁ I1₁ L1₁ R1₁ → Q₁ K1₁ N1₁ I1₁ L1₁ R1₁) : w_X12_init_81 x₁ K₁ N₁ I₁ L₁ R₁ mc₁ ms₁ 25 5084 Q₁ := by
  delta w_X12_init_81
  have ix_52 : ix 52 = 52 := by decide
  refine ⟨by decide, by decide, by omega, by omega, ?_⟩
  refine h₁.newA (n1₁ := 11) (z₁ := 52) rfl (by decide) fun K₁ N₁ I₁ L₁ R₁ h₁ => ?_
  refine ⟨h₁.k (0) (by decide) (by decide +kernel), ?_⟩
  refine h₁.putR (a₁ := 0) (i₁ := 22) (t₁ := 10) (by decide) rfl fun R₁ h₁ => ?_
  exact i_X12_init_89 h₁ (by omega) (by omega) kk₁
theorem i_X12_init_73 {x₁ mc₁ ms₁ : Nat} {K0₁ N0₁ : MK} {I0₁ : MI} {L0₁ : ML} {R0₁ : MR} {K₁ N₁ : MK} {I₁ : MI} {L₁ : ML} {R₁ : MR} {Q₁ : MK → MK → MI → ML → MR → Prop} (h₁ : IAT₁ x₁ 9 X12_k8 X12_n8 X12_r8 X12_i8 K0₁ N0₁ I0₁ L0₁ R0₁ K₁ N₁ I₁ L₁ R₁) (hc₁ : mc₁ = 8) (hs₁ : ms₁ = 4139) (kk₁ : ∀ K1₁ N1₁ I1₁ L1₁ R1₁, IAT₁ x₁ 26 X12_k25 X12_n25 X12_r25 X12_i25 K0₁ N0₁ I0₁ L0₁ R0₁ K1₁ N1₁ I1₁ L1₁ R1₁ → Q₁ K1₁ N1₁ I1₁ L1₁ R1₁) : w_X12_init_73 x₁ K₁ N₁ I₁ L₁ R₁ mc₁ ms₁ 25 5084 Q₁ := by
  delta w_X12_init_73
  have ix_26 : ix 26 = 26 := by decide
  refine ⟨by decide, by decide, by omega, by omega, ?_⟩
  refine h₁.newA (n1₁ := 10) (z₁ := 26) rfl (by decide) fun K₁ N₁ I₁ L₁ R₁ h₁ => ?_
  refine ⟨h₁.k (0) (by decide) (by decide +kernel), ?_⟩
  refine h₁.putR (a₁ := 0) (i₁ := 21) (t₁ := 9) (by decide) rfl fun R₁ h₁ => ?_
  exact i_X12_init_81 h₁ (by omega) (by omega) kk₁
theorem i_X12_init_65 {x₁ mc₁ ms₁ : Nat} {K0₁ N0₁ : MK} {I0₁ : MI} {L0₁ : ML} {R0₁ : MR} {K₁ N₁ : MK} {I₁ : MI} {L₁ : ML} {R₁ : MR} {Q₁ : MK → MK → MI → ML → MR → Prop} (h₁ : IAT₁ x₁ 8 X12_k7 X12_n7 X12_r7 X12_i7 K0₁ N0₁ I0₁ L0₁ R0₁ K₁ N₁ I₁ L₁ R₁) (hc₁ : mc₁ = 7) (hs₁ : ms₁ = 4113) (kk₁ : ∀ K1₁ N1₁ I1₁ L1₁ R1₁, IAT₁ x₁ 26 X12_k25 X12_n25 X12_r25 X12_i25 K0₁ N0₁ I0₁ L0₁ R0₁ K1₁ N1₁ I1₁ L1₁ R1₁ → Q₁ K1₁ N1₁ I1₁ L1₁ R1₁) : w_X12_init_65 x₁ K₁ N₁ I₁ L₁ R₁ mc₁ ms₁ 25 5084 Q₁ := by
  delta w_X12_init_65
  have ix_26 : ix 26 = 26 := by decide
  refine ⟨by decide, by decide, by omega, by omega, ?_⟩
  refine h₁.newA (n1₁ := 9) (z₁ := 26) rfl (by decide) fun K₁ N₁ I₁ L₁ R₁ h₁ => ?_
  refine ⟨h₁.k (0) (by decide) (by decide +kernel), ?_⟩
  refine h₁.putR (a₁ := 0) (i₁ := 20) (t₁ := 8) (by decide) rfl fun R₁ h₁ => ?_
  exact i_X12_init_73 h₁ (by omega) (by omega) kk₁
theorem i_X12_init_57 {x₁ mc₁ ms₁ : Nat} {K0₁ N0₁ : MK} {I0₁ : MI} {L0₁ : ML} {R0₁ : MR} {K₁ N₁ : MK} {I₁ : MI} {L₁ : ML} {R₁ : MR} {Q₁ : MK → MK → MI → ML → MR → Prop} (h₁ : IAT₁ x₁ 7 X12_k6 X12_n6 X12_r6 X12_i6 K0₁ N0₁ I0₁ L0₁ R0₁ K₁ N₁ I₁ L₁ R₁) (hc₁ : mc₁ = 6) (hs₁ : ms₁ = 4030) (kk₁ : ∀ K1₁ N1₁ I1₁ L1₁ R1₁, IAT₁ x₁ 26 X12_k25 X12_n25 X12_r25 X12_i25 K0₁ N0₁ I0₁ L0₁ R0₁ K1₁ N1₁ I1₁ L1₁ R1₁ → Q₁ K1₁ N1₁ I1₁ L1₁ R1₁) : w_X12_init_57 x₁ K₁ N₁ I₁ L₁ R₁ mc₁ ms₁ 25 5084 Q₁ := by
  delta w_X12_init_57
  have ix_83 : ix 83 = 83 := by decide
  refine ⟨by decide, by decide, by omega, by omega, ?_⟩
  refine h₁.newA (n1₁ := 8) (z₁ := 83) rfl (by decide) fun K₁ N₁ I₁ L₁ R₁ h₁ => ?_
  refine ⟨h₁.k (0) (by decide) (by decide +kernel), ?_⟩
  refine h₁.putR (a₁ := 0) (i₁ := 19) (t₁ := 7) (by decide) rfl fun R₁ h₁ => ?_
  exact i_X12_init_65 h₁ (by omega) (by omega) kk₁
theorem i_X12_init_49 {x₁ mc₁ ms₁ : Nat} {K0₁ N0₁ : MK} {I0₁ : MI} {L0₁ : ML} {R0₁ : MR} {K₁ N₁ : MK} {I₁ : MI} {L₁ : ML} {R₁ : MR} {Q₁ : MK → MK → MI → ML → MR → Prop} (h₁ : IAT₁ x₁ 6 X12_k5 X12_n5 X12_r5 X12_i5 K0₁ N0₁ I0₁ L0₁ R0₁ K₁ N₁ I₁ L₁ R₁) (hc₁ : mc₁ = 5) (hs₁ : ms₁ = 3947) (kk₁ : ∀ K1₁ N1₁ I1₁ L1₁ R1₁, IAT₁ x₁ 26 X12_k25 X12_n25 X12_r25 X12_i25 K0₁ N0₁ I0₁ L0₁ R0₁ K1₁ N1₁ I1₁ L1₁ R1₁ → Q₁ K1₁ N1₁ I1₁ L1₁ R1₁) : w_X12_init_49 x₁ K₁ N₁ I₁ L₁ R₁ mc₁ ms₁ 25 5084 Q₁ := by
  delta w_X12_init_49
  have ix_83 : ix 83 = 83 := by decide
  refine ⟨by decide, by decide, by omega, by omega, ?_⟩
  refine h₁.newA (n1₁ := 7) (z₁ := 83) rfl (by decide) fun K₁ N₁ I₁ L₁ R₁ h₁ => ?_
  refine ⟨h₁.k (0) (by decide) (by decide +kernel), ?_⟩
  refine h₁.putR (a₁ := 0) (i₁ := 18) (t₁ := 6) (by decide) rfl fun R₁ h₁ => ?_
  exact i_X12_init_57 h₁ (by omega) (by omega) kk₁
theorem i_X12_init_40 {x₁ mc₁ ms₁ : Nat} {K0₁ N0₁ : MK} {I0₁ : MI} {L0₁ : ML} {R0₁ : MR} {K₁ N₁ : MK} {I₁ : MI} {L₁ : ML} {R₁ : MR} {Q₁ : MK → MK → MI → ML → MR → Prop} (h₁ : IAT₁ x₁ 5 X12_k4 X12_n4 X12_r4 X12_i4 K0₁ N0₁ I0₁ L0₁ R0₁ K₁ N₁ I₁ L₁ R₁) (hc₁ : mc₁ = 4) (hs₁ : ms₁ = 3283) (kk₁ : ∀ K1₁ N1₁ I1₁ L1₁ R1₁, IAT₁ x₁ 26 X12_k25 X12_n25 X12_r25 X12_i25 K0₁ N0₁ I0₁ L0₁ R0₁ K1₁ N1₁ I1₁ L1₁ R1₁ → Q₁ K1₁ N1₁ I1₁ L1₁ R1₁) : w_X12_init_40 x₁ K₁ N₁ I₁ L₁ R₁ mc₁ ms₁ 25 5084 Q₁ := by
  delta w_X12_init_40
  have ix_664 : ix 664 = 664 := by decide
  refine ⟨by decide, by decide, by omega, by omega, ?_⟩
  refine h₁.newA (n1₁ := 6) (z₁ := 664) rfl (by decide) fun K₁ N₁ I₁ L₁ R₁ h₁ => ?_
  refine ⟨h₁.k (0) (by decide) (by decide +kernel), ?_⟩
  refine h₁.putR (a₁ := 0) (i₁ := 17) (t₁ := 5) (by decide) rfl fun R₁ h₁ => ?_
  exact i_X12_init_49 h₁ (by omega) (by omega) kk₁
theorem i_X12_init_31 {x₁ mc₁ ms₁ : Nat} {K0₁ N0₁ : MK} {I0₁ : MI} {L0₁ : ML} {R0₁ : MR} {K₁ N₁ : MK} {I₁ : MI} {L₁ : ML} {R₁ : MR} {Q₁ : MK → MK → MI → ML → MR → Prop} (h₁ : IAT₁ x₁ 4 X12_k3 X12_n3 X12_r3 X12_i3 K0₁ N0₁ I0₁ L0₁ R0₁ K₁ N₁ I₁ L₁ R₁) (hc₁ : mc₁ = 3) (hs₁ : ms₁ = 1949) (kk₁ : ∀ K1₁ N1₁ I1₁ L1₁ R1₁, IAT₁ x₁ 26 X12_k25 X12_n25 X12_r25 X12_i25 K0₁ N0₁ I0₁ L0₁ R0₁ K1₁ N1₁ I1₁ L1₁ R1₁ → Q₁ K1₁ N1₁ I1₁ L1₁ R1₁) : w_X12_init_31 x₁ K₁ N₁ I₁ L₁ R₁ mc₁ ms₁ 25 5084 Q₁ := by
  delta w_X12_init_31
  have ix_1334 : ix 1334 = 1334 := by decide
  refine ⟨by decide, by decide, by omega, by omega, ?_⟩
  refine h₁.newA (n1₁ := 5) (z₁ := 1334) rfl (by decide) fun K₁ N₁ I₁ L₁ R₁ h₁ => ?_
  refine ⟨h₁.k (0) (by decide) (by decide +kernel), ?_⟩
  refine h₁.putR (a₁ := 0) (i₁ := 16) (t₁ := 4) (by decide) rfl fun R₁ h₁ => ?_
  exact i_X12_init_40 h₁ (by omega) (by omega) kk₁
theorem i_X12_init_22 {x₁ mc₁ ms₁ : Nat} {K0₁ N0₁ : MK} {I0₁ : MI} {L0₁ : ML} {R0₁ : MR} {K₁ N₁ : MK} {I₁ : MI} {L₁ : ML} {R₁ : MR} {Q₁ : MK → MK → MI → ML → MR → Prop} (h₁ : IAT₁ x₁ 3 X12_k2 X12_n2 X12_r2 X12_i2 K0₁ N0₁ I0₁ L0₁ R0₁ K₁ N₁ I₁ L₁ R₁) (hc₁ : mc₁ = 2) (hs₁ : ms₁ = 1607) (kk₁ : ∀ K1₁ N1₁ I1₁ L1₁ R1₁, IAT₁ x₁ 26 X12_k25 X12_n25 X12_r25 X12_i25 K0₁ N0₁ I0₁ L0₁ R0₁ K1₁ N1₁ I1₁ L1₁ R1₁ → Q₁ K1₁ N1₁ I1₁ L1₁ R1₁) : w_X12_init_22 x₁ K₁ N₁ I₁ L₁ R₁ mc₁ ms₁ 25 5084 Q₁ := by
  delta w_X12_init_22
  have ix_342 : ix 342 = 342 := by decide
  refine ⟨by decide, by decide, by omega, by omega, ?_⟩
  refine h₁.newA (n1₁ := 4) (z₁ := 342) rfl (by decide) fun K₁ N₁ I₁ L₁ R₁ h₁ => ?_
  refine ⟨h₁.k (0) (by decide) (by decide +kernel), ?_⟩
  refine h₁.putR (a₁ := 0) (i₁ := 15) (t₁ := 3) (by decide) rfl fun R₁ h₁ => ?_
  exact i_X12_init_31 h₁ (by omega) (by omega) kk₁
theorem i_X12_init_13 {x₁ mc₁ ms₁ : Nat} {K0₁ N0₁ : MK} {I0₁ : MI} {L0₁ : ML} {R0₁ : MR} {K₁ N₁ : MK} {I₁ : MI} {L₁ : ML} {R₁ : MR} {Q₁ : MK → MK → MI → ML → MR → Prop} (h₁ : IAT₁ x₁ 2 X12_k1 X12_n1 X12_r1 X12_i1 K0₁ N0₁ I0₁ L0₁ R0₁ K₁ N₁ I₁ L₁ R₁) (hc₁ : mc₁ = 1) (hs₁ : ms₁ = 940) (kk₁ : ∀ K1₁ N1₁ I1₁ L1₁ R1₁, IAT₁ x₁ 26 X12_k25 X12_n25 X12_r25 X12_i25 K0₁ N0₁ I0₁ L0₁ R0₁ K1₁ N1₁ I1₁ L1₁ R1₁ → Q₁ K1₁ N1₁ I1₁ L1₁ R1₁) : w_X12_init_13 x₁ K₁ N₁ I₁ L₁ R₁ mc₁ ms₁ 25 5084 Q₁ := by
  delta w_X12_init_13
  have ix_667 : ix 667 = 667 := by decide
  refine ⟨by decide, by decide, by omega, by omega, ?_⟩
  refine h₁.newA (n1₁ := 3) (z₁ := 667) rfl (by decide) fun K₁ N₁ I₁ L₁ R₁ h₁ => ?_
  refine ⟨h₁.k (0) (by decide) (by decide +kernel), ?_⟩
  refine h₁.putR (a₁ := 0) (i₁ := 14) (t₁ := 2) (by decide) rfl fun R₁ h₁ => ?_
  exact i_X12_init_22 h₁ (by omega) (by omega) kk₁
theorem i_X12_init_4 {x₁ mc₁ ms₁ : Nat} {K0₁ N0₁ : MK} {I0₁ : MI} {L0₁ : ML} {R0₁ : MR} {K₁ N₁ : MK} {I₁ : MI} {L₁ : ML} {R₁ : MR} {Q₁ : MK → MK → MI → ML → MR → Prop} (h₁ : IAT₁ x₁ 1 X12_k0 X12_n0 X12_r0 X12_i0 K0₁ N0₁ I0₁ L0₁ R0₁ K₁ N₁ I₁ L₁ R₁) (hc₁ : mc₁ = 0) (hs₁ : ms₁ = 0) (kk₁ : ∀ K1₁ N1₁ I1₁ L1₁ R1₁, IAT₁ x₁ 26 X12_k25 X12_n25 X12_r25 X12_i25 K0₁ N0₁ I0₁ L0₁ R0₁ K1₁ N1₁ I1₁ L1₁ R1₁ → Q₁ K1₁ N1₁ I1₁ L1₁ R1₁) : w_X12_init_4 x₁ K₁ N₁ I₁ L₁ R₁ mc₁ ms₁ 25 5084 Q₁ := by
  delta w_X12_init_4
  have ix_940 : ix 940 = 940 := by decide
  refine ⟨by decide, by decide, by omega, by omega, ?_⟩
  refine h₁.newA (n1₁ := 2) (z₁ := 940) rfl (by decide) fun K₁ N₁ I₁ L₁ R₁ h₁ => ?_
  refine ⟨h₁.k (0) (by decide) (by decide +kernel), ?_⟩
  refine h₁.putR (a₁ := 0) (i₁ := 1) (t₁ := 1) (by decide) rfl fun R₁ h₁ => ?_
  exact i_X12_init_13 h₁ (by omega) (by omega) kk₁
def X11_k0 : List (Nat × Nat) := [(0, 12)]
def X11_n0 : List (Nat × Nat) := []
def X11_r0 : List (Nat × Nat × Nat) := []
def X11_i0 : List (Nat × Nat × Int32) := []
def X11_k1 : List (Nat × Nat) := ((2, 14) :: (1, 9) :: X11_k0)
def X11_n1 : List (Nat × Nat) := ((2, 940) :: X11_n0)
def X11_r1 : List (Nat × Nat × Nat) := ((0, 0, 1) :: (1, 0, 2) :: X11_r0)
def X11_i1 : List (Nat × Nat × Int32) := ((1, 11, 0) :: (1, 10, 0) :: (1, 9, 0) :: (1, 8, 0) :: (1, 7, (-1)) :: (1, 5, 0) :: (1, 4, 0) :: (1, 3, 0) :: (1, 2, 0) :: (1, 1, 0) :: X11_i0)
def X11_k2 : List (Nat × Nat) := ((18, 14) :: (17, 15) :: (16, 8) :: (15, 14) :: (14, 15) :: (13, 8) :: (12, 14) :: (11, 15) :: (10, 8) :: (9, 14) :: (8, 15) :: (7, 8) :: (6, 14) :: (5, 15) :: (4, 8) :: (3, 10) :: X11_k1)
def X11_n2 : List (Nat × Nat) := ((18, 336) :: (17, 16) :: (15, 20) :: (14, 10) :: (12, 18) :: (11, 6) :: (9, 40) :: (8, 10) :: (6, 60) :: (5, 30) :: X11_n1)
def X11_r2 : List (Nat × Nat × Nat) := ((0, 1, 3) :: (3, 5, 16) :: (16, 2, 18) :: (16, 1, 17) :: (3, 4, 13) :: (13, 2, 15) :: (13, 1, 14) :: (3, 3, 10) :: (10, 2, 12) :: (10, 1, 11) :: (3, 2, 7) :: (7, 2, 9) :: (7, 1, 8) :: (3, 1, 4) :: (4, 2, 6) :: (4, 1, 5) :: X11_r1)
def X11_i2 : List (Nat × Nat × Int32) := ((16, 0, 21) :: (16, 3, 0) :: (13, 0, 2) :: (13, 3, 0) :: (10, 0, 3) :: (10, 3, 0) :: (7, 0, 4) :: (7, 3, 0) :: (4, 0, 2) :: (4, 3, 0) :: (3, 0, 256) :: X11_i1)
def X11_k3 : List (Nat × Nat) := ((22, 14) :: (21, 14) :: (20, 14) :: (19, 4) :: X11_k2)
def X11_n3 : List (Nat × Nat) := ((22, 8) :: (21, 64) :: (20, 8) :: X11_n2)
def X11_r3 : List (Nat × Nat × Nat) := ((0, 2, 19) :: (19, 2, 22) :: (19, 1, 21) :: (19, 0, 20) :: X11_r2)
def X11_i3 : List (Nat × Nat × Int32) := ((19, 5, 0) :: (19, 4, 0) :: (19, 3, 0) :: X11_i2)
def X11_k4 : List (Nat × Nat) := ((26, 14) :: (25, 14) :: (24, 14) :: (23, 4) :: X11_k3)
def X11_n4 : List (Nat × Nat) := ((26, 8) :: (25, 64) :: (24, 8) :: X11_n3)
def X11_r4 : List (Nat × Nat × Nat) := ((0, 3, 23) :: (23, 2, 26) :: (23, 1, 25) :: (23, 0, 24) :: X11_r3)
def X11_i4 : List (Nat × Nat × Int32) := ((23, 5, 0) :: (23, 4, 0) :: (23, 3, 0) :: X11_i3)
def X11_k5 : List (Nat × Nat) := ((27, 17) :: X11_k4)
def X11_n5 : List (Nat × Nat) := ((27, 8) :: X11_n4)
def X11_r5 : List (Nat × Nat × Nat) := ((0, 4, 27) :: X11_r4)
def X11_i5 : List (Nat × Nat × Int32) := ((0, 5, 0) :: X11_i4)
def X11_k6 : List (Nat × Nat) := ((29, 14) :: (28, 3) :: X11_k5)
def X11_n6 : List (Nat × Nat) := ((29, 8) :: X11_n5)
def X11_r6 : List (Nat × Nat × Nat) := ((0, 6, 28) :: (28, 0, 29) :: X11_r5)
def X11_i6 : List (Nat × Nat × Int32) := ((28, 2, 0) :: (28, 1, 0) :: X11_i5)
def X11_k7 : List (Nat × Nat) := ((30, 2) :: X11_k6)
def X11_n7 : List (Nat × Nat) := (X11_n6)
def X11_r7 : List (Nat × Nat × Nat) := ((0, 7, 30) :: X11_r6)
def X11_i7 : List (Nat × Nat × Int32) := ((30, 0, 0) :: X11_i6)
def X11_k8 : List (Nat × Nat) := ((35, 16) :: (34, 14) :: (33, 14) :: (32, 14) :: (31, 6) :: X11_k7)
def X11_n8 : List (Nat × Nat) := ((35, 40) :: (34, 40) :: (33, 40) :: (32, 40) :: X11_n7)
def X11_r8 : List (Nat × Nat × Nat) := ((0, 8, 31) :: (31, 4, 35) :: (31, 3, 34) :: (31, 2, 33) :: (31, 1, 32) :: X11_r7)
def X11_i8 : List (Nat × Nat × Int32) := ((31, 5, 0) :: (31, 0, 0) :: X11_i7)
def X11_k9 : List (Nat × Nat) := ((52, 14) :: (51, 15) :: (50, 8) :: (49, 14) :: (48, 15) :: (47, 8) :: (46, 14) :: (45, 15) :: (44, 8) :: (43, 14) :: (42, 15) :: (41, 8) :: (40, 14) :: (39, 15) :: (38, 8) :: (37, 10) :: (36, 11) :: X11_k8)
def X11_n9 : List (Nat × Nat) := ((52, 336) :: (51, 16) :: (49, 20) :: (48, 10) :: (46, 18) :: (45, 6) :: (43, 40) :: (42, 10) :: (40, 60) :: (39, 30) :: X11_n8)
def X11_r9 : List (Nat × Nat × Nat) := ((0, 9, 36) :: (36, 0, 37) :: (37, 5, 50) :: (50, 2, 52) :: (50, 1, 51) :: (37, 4, 47) :: (47, 2, 49) :: (47, 1, 48) :: (37, 3, 44) :: (44, 2, 46) :: (44, 1, 45) :: (37, 2, 41) :: (41, 2, 43) :: (41, 1, 42) :: (37, 1, 38) :: (38, 2, 40) :: (38, 1, 39) :: X11_r8)
def X11_i9 : List (Nat × Nat × Int32) := ((36, 2, 0) :: (36, 1, 0) :: (50, 0, 21) :: (50, 3, 0) :: (47, 0, 2) :: (47, 3, 0) :: (44, 0, 3) :: (44, 3, 0) :: (41, 0, 4) :: (41, 3, 0) :: (38, 0, 2) :: (38, 3, 0) :: (37, 0, 256) :: X11_i8)
def X11_k10 : List (Nat × Nat) := ((58, 16) :: (57, 14) :: (56, 14) :: (55, 14) :: (54, 6) :: (53, 7) :: X11_k9)
def X11_n10 : List (Nat × Nat) := ((58, 40) :: (57, 40) :: (56, 40) :: (55, 40) :: X11_n9)
def X11_r10 : List (Nat × Nat × Nat) := ((0, 10, 53) :: (53, 0, 54) :: (54, 4, 58) :: (54, 3, 57) :: (54, 2, 56) :: (54, 1, 55) :: X11_r9)
def X11_i10 : List (Nat × Nat × Int32) := ((53, 1, 0) :: (54, 5, 0) :: (54, 0, 0) :: X11_i9)
def X11_k11 : List (Nat × Nat) := ((62, 14) :: (61, 15) :: (60, 8) :: (59, 1) :: X11_k10)
def X11_n11 : List (Nat × Nat) := ((62, 120) :: (61, 40) :: X11_n10)
def X11_r11 : List (Nat × Nat × Nat) := ((0, 11, 59) :: (59, 0, 60) :: (60, 2, 62) :: (60, 1, 61) :: X11_r10)
def X11_i11 : List (Nat × Nat × Int32) := ((59, 1, 0) :: (60, 0, 3) :: (60, 3, 0) :: X11_i10)
def X11_k12 : List (Nat × Nat) := ((72, 14) :: (71, 15) :: (70, 8) :: (69, 14) :: (68, 15) :: (67, 8) :: (66, 14) :: (65, 15) :: (64, 8) :: (63, 5) :: X11_k11)
def X11_n12 : List (Nat × Nat) := ((72, 60) :: (71, 30) :: (69, 60) :: (68, 30) :: (66, 181) :: (65, 181) :: X11_n11)
def X11_r12 : List (Nat × Nat × Nat) := ((0, 12, 63) :: (63, 2, 70) :: (70, 2, 72) :: (70, 1, 71) :: (63, 1, 67) :: (67, 2, 69) :: (67, 1, 68) :: (63, 0, 64) :: (64, 2, 66) :: (64, 1, 65) :: X11_r11)
def X11_i12 : List (Nat × Nat × Int32) := ((63, 4, 1) :: (63, 3, 0) :: (70, 0, 2) :: (70, 3, 0) :: (67, 0, 2) :: (67, 3, 0) :: (64, 0, 1) :: (64, 3, 0) :: X11_i11)
def X11_k13 : List (Nat × Nat) := ((73, 19) :: X11_k12)
def X11_n13 : List (Nat × Nat) := ((73, 2) :: X11_n12)
def X11_r13 : List (Nat × Nat × Nat) := ((0, 13, 73) :: X11_r12)
def X11_i13 : List (Nat × Nat × Int32) := (X11_i12)
def X11_k14 : List (Nat × Nat) := ((74, 17) :: X11_k13)
def X11_n14 : List (Nat × Nat) := ((74, 2) :: X11_n13)
def X11_r14 : List (Nat × Nat × Nat) := ((0, 14, 74) :: X11_r13)
def X11_i14 : List (Nat × Nat × Int32) := (X11_i13)
def X11_k15 : List (Nat × Nat) := ((75, 18) :: X11_k14)
def X11_n15 : List (Nat × Nat) := ((75, 2) :: X11_n14)
def X11_r15 : List (Nat × Nat × Nat) := ((0, 15, 75) :: X11_r14)
def X11_i15 : List (Nat × Nat × Int32) := (X11_i14)
def X11_k16 : List (Nat × Nat) := ((76, 16) :: X11_k15)
def X11_n16 : List (Nat × Nat) := ((76, 2) :: X11_n15)
def X11_r16 : List (Nat × Nat × Nat) := ((0, 16, 76) :: X11_r15)
def X11_i16 : List (Nat × Nat × Int32) := (X11_i15)
def X11_k17 : List (Nat × Nat) := ((79, 14) :: (78, 15) :: (77, 8) :: X11_k16)
def X11_n17 : List (Nat × Nat) := ((79, 20) :: (78, 10) :: X11_n16)
def X11_r17 : List (Nat × Nat × Nat) := ((0, 17, 77) :: (77, 2, 79) :: (77, 1, 78) :: X11_r16)
def X11_i17 : List (Nat × Nat × Int32) := ((77, 0, 2) :: (77, 3, 0) :: X11_i16)
def X11_k18 : List (Nat × Nat) := ((82, 14) :: (81, 15) :: (80, 8) :: X11_k17)
def X11_n18 : List (Nat × Nat) := ((82, 40) :: (81, 40) :: X11_n17)
def X11_r18 : List (Nat × Nat × Nat) := ((0, 18, 80) :: (80, 2, 82) :: (80, 1, 81) :: X11_r17)
def X11_i18 : List (Nat × Nat × Int32) := ((80, 0, 1) :: (80, 3, 0) :: X11_i17)
def X11_k19 : List (Nat × Nat) := ((85, 14) :: (84, 15) :: (83, 8) :: X11_k18)
def X11_n19 : List (Nat × Nat) := ((85, 4) :: (84, 1) :: X11_n18)
def X11_r19 : List (Nat × Nat × Nat) := ((0, 19, 83) :: (83, 2, 85) :: (83, 1, 84) :: X11_r18)
def X11_i19 : List (Nat × Nat × Int32) := ((83, 0, 4) :: (83, 3, 0) :: X11_i18)
theorem lkR_ne {j₁ i₁ a₁ b₁ t₁ : Nat} {l₁ : List (Nat × Nat × Nat)} (h₁ : ¬ (j₁ = a₁ ∧ i₁ = b₁)) : lkR₁ ((a₁, b₁, t₁) :: l₁) j₁ i₁ = lkR₁ l₁ j₁ i₁ := if_neg h₁
theorem vpA₁ {N₁ : MK} {b₁ i₁ v₁ : Nat} (h₁ : N₁ b₁ = v₁) (hi₁ : i₁ < v₁) (hv₁ : v₁ < 2147483648) : vp_in (nI i₁) (N₁ b₁) := by
  rw [h₁]; exact (vp_nI (by omega)).2 hi₁
def hH_k : Nat → List (Nat × Nat)
  | 0 => X11_k19
  | i₁ + 1 => ((86 + 4 * i₁ + 3, 14) :: (86 + 4 * i₁ + 2, 14) :: (86 + 4 * i₁ + 1, 14) :: (86 + 4 * i₁, 4) :: hH_k i₁)
def hH_n : Nat → List (Nat × Nat)
  | 0 => X11_n19
  | i₁ + 1 => ((86 + 4 * i₁ + 3, 8) :: (86 + 4 * i₁ + 2, 64) :: (86 + 4 * i₁ + 1, 8) :: hH_n i₁)
def hH_r : Nat → List (Nat × Nat × Nat)
  | 0 => X11_r19
  | i₁ + 1 => ((27, i₁, 86 + 4 * i₁) :: (86 + 4 * i₁, 2, 86 + 4 * i₁ + 3) :: (86 + 4 * i₁, 1, 86 + 4 * i₁ + 2) :: (86 + 4 * i₁, 0, 86 + 4 * i₁ + 1) :: hH_r i₁)
def hH_i : Nat → List (Nat × Nat × Int32)
  | 0 => X11_i19
  | i₁ + 1 => ((86 + 4 * i₁, 5, 0) :: (86 + 4 * i₁, 4, 0) :: (86 + 4 * i₁, 3, 0) :: hH_i i₁)
theorem hH_K0 : ∀ i₁, i₁ < 9 → lkN₁ (hH_k i₁) 0 = 12 := by decide +kernel
theorem hH_K27 : ∀ i₁, i₁ < 9 → lkN₁ (hH_k i₁) 27 = 17 := by decide +kernel
theorem hH_K73 : ∀ i₁, i₁ < 9 → lkN₁ (hH_k i₁) 73 = 19 := by decide +kernel
theorem hH_K74 : ∀ i₁, i₁ < 9 → lkN₁ (hH_k i₁) 74 = 17 := by decide +kernel
theorem hH_K75 : ∀ i₁, i₁ < 9 → lkN₁ (hH_k i₁) 75 = 18 := by decide +kernel
theorem hH_K76 : ∀ i₁, i₁ < 9 → lkN₁ (hH_k i₁) 76 = 16 := by decide +kernel
theorem hH_R4 : ∀ i₁, i₁ < 9 → lkR₁ (hH_r i₁) 0 4 = some 27 := by decide +kernel
theorem hH_R13 : ∀ i₁, i₁ < 9 → lkR₁ (hH_r i₁) 0 13 = some 73 := by decide +kernel
theorem hH_R14 : ∀ i₁, i₁ < 9 → lkR₁ (hH_r i₁) 0 14 = some 74 := by decide +kernel
theorem hH_R15 : ∀ i₁, i₁ < 9 → lkR₁ (hH_r i₁) 0 15 = some 75 := by decide +kernel
theorem hH_R16 : ∀ i₁, i₁ < 9 → lkR₁ (hH_r i₁) 0 16 = some 76 := by decide +kernel
theorem hH_N27 : ∀ i₁, i₁ < 9 → (27, 8) ∈ hH_n i₁ := by decide +kernel
theorem hH_N73 : ∀ i₁, i₁ < 9 → (73, 2) ∈ hH_n i₁ := by decide +kernel
theorem hH_N74 : ∀ i₁, i₁ < 9 → (74, 2) ∈ hH_n i₁ := by decide +kernel
theorem hH_N75 : ∀ i₁, i₁ < 9 → (75, 2) ∈ hH_n i₁ := by decide +kernel
theorem hH_N76 : ∀ i₁, i₁ < 9 → (76, 2) ∈ hH_n i₁ := by decide +kernel
def hL_k : Nat → List (Nat × Nat)
  | 0 => (hH_k 8)
  | i₁ + 1 => ((118 + 25 * i₁ + 24, 16) :: (118 + 25 * i₁ + 23, 14) :: (118 + 25 * i₁ + 22, 14) :: (118 + 25 * i₁ + 21, 14) :: (118 + 25 * i₁ + 20, 6) :: (118 + 25 * i₁ + 19, 14) :: (118 + 25 * i₁ + 18, 14) :: (118 + 25 * i₁ + 17, 14) :: (118 + 25 * i₁ + 16, 4) :: (118 + 25 * i₁ + 15, 14) :: (118 + 25 * i₁ + 14, 15) :: (118 + 25 * i₁ + 13, 8) :: (118 + 25 * i₁ + 12, 14) :: (118 + 25 * i₁ + 11, 15) :: (118 + 25 * i₁ + 10, 8) :: (118 + 25 * i₁ + 9, 14) :: (118 + 25 * i₁ + 8, 15) :: (118 + 25 * i₁ + 7, 8) :: (118 + 25 * i₁ + 6, 14) :: (118 + 25 * i₁ + 5, 15) :: (118 + 25 * i₁ + 4, 8) :: (118 + 25 * i₁ + 3, 14) :: (118 + 25 * i₁ + 2, 15) :: (118 + 25 * i₁ + 1, 8) :: (118 + 25 * i₁, 10) :: hL_k i₁)
def hL_n : Nat → List (Nat × Nat)
  | 0 => (hH_n 8)
  | i₁ + 1 => ((118 + 25 * i₁ + 24, 40) :: (118 + 25 * i₁ + 23, 40) :: (118 + 25 * i₁ + 22, 40) :: (118 + 25 * i₁ + 21, 40) :: (118 + 25 * i₁ + 19, 8) :: (118 + 25 * i₁ + 18, 64) :: (118 + 25 * i₁ + 17, 8) :: (118 + 25 * i₁ + 15, 336) :: (118 + 25 * i₁ + 14, 16) :: (118 + 25 * i₁ + 12, 20) :: (118 + 25 * i₁ + 11, 10) :: (118 + 25 * i₁ + 9, 18) :: (118 + 25 * i₁ + 8, 6) :: (118 + 25 * i₁ + 6, 40) :: (118 + 25 * i₁ + 5, 10) :: (118 + 25 * i₁ + 3, 60) :: (118 + 25 * i₁ + 2, 30) :: hL_n i₁)
def hL_r : Nat → List (Nat × Nat × Nat)
  | 0 => (hH_r 8)
  | i₁ + 1 => ((75, i₁, 118 + 25 * i₁ + 20) :: (118 + 25 * i₁ + 20, 4, 118 + 25 * i₁ + 24) :: (118 + 25 * i₁ + 20, 3, 118 + 25 * i₁ + 23) :: (118 + 25 * i₁ + 20, 2, 118 + 25 * i₁ + 22) :: (118 + 25 * i₁ + 20, 1, 118 + 25 * i₁ + 21) :: (74, i₁, 118 + 25 * i₁ + 16) :: (118 + 25 * i₁ + 16, 2, 118 + 25 * i₁ + 19) :: (118 + 25 * i₁ + 16, 1, 118 + 25 * i₁ + 18) :: (118 + 25 * i₁ + 16, 0, 118 + 25 * i₁ + 17) :: (73, i₁, 118 + 25 * i₁) :: (118 + 25 * i₁, 5, 118 + 25 * i₁ + 13) :: (118 + 25 * i₁ + 13, 2, 118 + 25 * i₁ + 15) :: (118 + 25 * i₁ + 13, 1, 118 + 25 * i₁ + 14) :: (118 + 25 * i₁, 4, 118 + 25 * i₁ + 10) :: (118 + 25 * i₁ + 10, 2, 118 + 25 * i₁ + 12) :: (118 + 25 * i₁ + 10, 1, 118 + 25 * i₁ + 11) :: (118 + 25 * i₁, 3, 118 + 25 * i₁ + 7) :: (118 + 25 * i₁ + 7, 2, 118 + 25 * i₁ + 9) :: (118 + 25 * i₁ + 7, 1, 118 + 25 * i₁ + 8) :: (118 + 25 * i₁, 2, 118 + 25 * i₁ + 4) :: (118 + 25 * i₁ + 4, 2, 118 + 25 * i₁ + 6) :: (118 + 25 * i₁ + 4, 1, 118 + 25 * i₁ + 5) :: (118 + 25 * i₁, 1, 118 + 25 * i₁ + 1) :: (118 + 25 * i₁ + 1, 2, 118 + 25 * i₁ + 3) :: (118 + 25 * i₁ + 1, 1, 118 + 25 * i₁ + 2) :: hL_r i₁)
def hL_i : Nat → List (Nat × Nat × Int32)
  | 0 => (hH_i 8)
  | i₁ + 1 => ((118 + 25 * i₁ + 20, 5, 0) :: (118 + 25 * i₁ + 20, 0, 0) :: (118 + 25 * i₁ + 16, 5, 0) :: (118 + 25 * i₁ + 16, 4, 0) :: (118 + 25 * i₁ + 16, 3, 0) :: (118 + 25 * i₁ + 13, 0, 21) :: (118 + 25 * i₁ + 13, 3, 0) :: (118 + 25 * i₁ + 10, 0, 2) :: (118 + 25 * i₁ + 10, 3, 0) :: (118 + 25 * i₁ + 7, 0, 3) :: (118 + 25 * i₁ + 7, 3, 0) :: (118 + 25 * i₁ + 4, 0, 4) :: (118 + 25 * i₁ + 4, 3, 0) :: (118 + 25 * i₁ + 1, 0, 2) :: (118 + 25 * i₁ + 1, 3, 0) :: (118 + 25 * i₁, 0, 256) :: hL_i i₁)
theorem hL_K0 : ∀ i₁, i₁ < 3 → lkN₁ (hL_k i₁) 0 = 12 := by decide +kernel
theorem hL_K27 : ∀ i₁, i₁ < 3 → lkN₁ (hL_k i₁) 27 = 17 := by decide +kernel
theorem hL_K73 : ∀ i₁, i₁ < 3 → lkN₁ (hL_k i₁) 73 = 19 := by decide +kernel
theorem hL_K74 : ∀ i₁, i₁ < 3 → lkN₁ (hL_k i₁) 74 = 17 := by decide +kernel
theorem hL_K75 : ∀ i₁, i₁ < 3 → lkN₁ (hL_k i₁) 75 = 18 := by decide +kernel
theorem hL_K76 : ∀ i₁, i₁ < 3 → lkN₁ (hL_k i₁) 76 = 16 := by decide +kernel
theorem hL_R4 : ∀ i₁, i₁ < 3 → lkR₁ (hL_r i₁) 0 4 = some 27 := by decide +kernel
theorem hL_R13 : ∀ i₁, i₁ < 3 → lkR₁ (hL_r i₁) 0 13 = some 73 := by decide +kernel
theorem hL_R14 : ∀ i₁, i₁ < 3 → lkR₁ (hL_r i₁) 0 14 = some 74 := by decide +kernel
theorem hL_R15 : ∀ i₁, i₁ < 3 → lkR₁ (hL_r i₁) 0 15 = some 75 := by decide +kernel
theorem hL_R16 : ∀ i₁, i₁ < 3 → lkR₁ (hL_r i₁) 0 16 = some 76 := by decide +kernel
theorem hL_N27 : ∀ i₁, i₁ < 3 → (27, 8) ∈ hL_n i₁ := by decide +kernel
theorem hL_N73 : ∀ i₁, i₁ < 3 → (73, 2) ∈ hL_n i₁ := by decide +kernel
theorem hL_N74 : ∀ i₁, i₁ < 3 → (74, 2) ∈ hL_n i₁ := by decide +kernel
theorem hL_N75 : ∀ i₁, i₁ < 3 → (75, 2) ∈ hL_n i₁ := by decide +kernel
theorem hL_N76 : ∀ i₁, i₁ < 3 → (76, 2) ∈ hL_n i₁ := by decide +kernel
theorem i_X11_init_243 {x₁ mc₁ ms₁ : Nat} {K0₁ N0₁ : MK} {I0₁ : MI} {L0₁ : ML} {R0₁ : MR} {K₁ N₁ : MK} {I₁ : MI} {L₁ : ML} {R₁ : MR} {Q₁ : MK → MK → MI → ML → MR → Prop} (h₁ : IAT₁ x₁ 118 (hH_k 8) (hH_n 8) (hH_r 8) (hH_i 8) K0₁ N0₁ I0₁ L0₁ R0₁ K₁ N₁ I₁ L₁ R₁) (hc₁ : mc₁ = 117) (hs₁ : ms₁ = 4173) (kk₁ : ∀ K1₁ N1₁ I1₁ L1₁ R1₁, IAT₁ x₁ 168 (hL_k 2) (hL_n 2) (hL_r 2) (hL_i 2) K0₁ N0₁ I0₁ L0₁ R0₁ K1₁ N1₁ I1₁ L1₁ R1₁ → Q₁ K1₁ N1₁ I1₁ L1₁ R1₁) : w_X11_init_243 x₁ 0 K₁ N₁ I₁ L₁ R₁ mc₁ ms₁ 167 5821 Q₁ := by
  delta w_X11_init_243
  refine ⟨fun n₁ x0₁ x1₁ mc₁ ms₁ K₁ N₁ I₁ L₁ R₁ => ∃ i₁, i₁ ≤ 2 ∧ n₁ = 2 - i₁ ∧ x0₁ = x₁ ∧ x1₁ = nI i₁ ∧ mc₁ = 117 + 25 * i₁ ∧ ms₁ = 4173 + 824 * i₁ ∧ IAT₁ x₁ (118 + 25 * i₁) (hL_k i₁) (hL_n i₁) (hL_r i₁) (hL_i i₁) K0₁ N0₁ I0₁ L0₁ R0₁ K₁ N₁ I₁ L₁ R₁, ⟨2, 0, by omega, rfl, rfl, rfl, by omega, by omega, h₁⟩, ?_⟩
  rintro n₁ x0₁ x1₁ mc₁ ms₁ K₁ N₁ I₁ L₁ R₁ ⟨i₁, hi₁, hn₁, hx₁, rfl, hc₁, hs₁, h₁⟩
  subst hx₁
  refine ⟨h₁.k 0 (by omega) (hL_K0 i₁ (by omega)), _, h₁.r 0 16 (hL_R16 i₁ (by omega)), h₁.k 76 (by omega) (hL_K76 i₁ (by omega)), fun c₁ => ?_, fun c₁ => ?_⟩
  · rw [h₁.n 76 (hL_N76 i₁ (by omega)), leN (by omega) (by omega)] at c₁
    have e₁ : i₁ = 2 := by omega
    subst e₁
    exact ⟨by omega, by omega, kk₁ _ _ _ _ _ h₁⟩
  rw [h₁.n 76 (hL_N76 i₁ (by omega)), leN (by omega) (by omega)] at c₁
  refine ⟨_, h₁.r 0 13 (v₁ := 73) (hL_R13 i₁ (by omega)), ?_⟩
  refine ⟨by omega, by omega, ?_⟩
  refine h₁.newO (n1₁ := 118 + 25 * i₁ + 1) rfl fun K₁ N₁ I₁ L₁ R₁ h₁ => ?_
  refine ⟨by omega, by omega, ?_⟩
  refine i_X9 h₁ (j₁ := 118 + 25 * i₁) (n1₁ := 118 + 25 * i₁ + 16) (by omega) (if_pos rfl) rfl fun K₁ N₁ I₁ L₁ R₁ h₁ => ?_
  refine ⟨h₁.k (73) (by omega) ((lkN_ne (by omega)).trans ((lkN_ne (by omega)).trans ((lkN_ne (by omega)).trans ((lkN_ne (by omega)).trans ((lkN_ne (by omega)).trans ((lkN_ne (by omega)).trans ((lkN_ne (by omega)).trans ((lkN_ne (by omega)).trans ((lkN_ne (by omega)).trans ((lkN_ne (by omega)).trans ((lkN_ne (by omega)).trans ((lkN_ne (by omega)).trans ((lkN_ne (by omega)).trans ((lkN_ne (by omega)).trans ((lkN_ne (by omega)).trans ((lkN_ne (by omega)).trans (hL_K73 i₁ (by omega)))))))))))))))))), ?_⟩
  refine ⟨vpA₁ (h₁.n 73 (List.mem_cons_of_mem _ (List.mem_cons_of_mem _ (List.mem_cons_of_mem _ (List.mem_cons_of_mem _ (List.mem_cons_of_mem _ (List.mem_cons_of_mem _ (List.mem_cons_of_mem _ (List.mem_cons_of_mem _ (List.mem_cons_of_mem _ (List.mem_cons_of_mem _ (hL_N73 i₁ (by omega))))))))))))) (by omega) (by decide), ?_⟩
  refine ⟨h₁.k (118 + 25 * i₁) (by omega) ((lkN_ne (by omega)).trans ((lkN_ne (by omega)).trans ((lkN_ne (by omega)).trans ((lkN_ne (by omega)).trans ((lkN_ne (by omega)).trans ((lkN_ne (by omega)).trans ((lkN_ne (by omega)).trans ((lkN_ne (by omega)).trans ((lkN_ne (by omega)).trans ((lkN_ne (by omega)).trans ((lkN_ne (by omega)).trans ((lkN_ne (by omega)).trans ((lkN_ne (by omega)).trans ((lkN_ne (by omega)).trans ((lkN_ne (by omega)).trans (if_pos rfl)))))))))))))))), ?_⟩
  refine h₁.putR (a₁ := 73) (i₁ := i₁) (t₁ := 118 + 25 * i₁) (by omega) (ix_nI (by omega)) fun R₁ h₁ => ?_
  refine ⟨h₁.k (0) (by omega) ((lkN_ne (by omega)).trans ((lkN_ne (by omega)).trans ((lkN_ne (by omega)).trans ((lkN_ne (by omega)).trans ((lkN_ne (by omega)).trans ((lkN_ne (by omega)).trans ((lkN_ne (by omega)).trans ((lkN_ne (by omega)).trans ((lkN_ne (by omega)).trans ((lkN_ne (by omega)).trans ((lkN_ne (by omega)).trans ((lkN_ne (by omega)).trans ((lkN_ne (by omega)).trans ((lkN_ne (by omega)).trans ((lkN_ne (by omega)).trans ((lkN_ne (by omega)).trans (hL_K0 i₁ (by omega)))))))))))))))))), ?_⟩
  refine ⟨_, h₁.r 0 14 (v₁ := 74) ((lkR_ne (by omega)).trans ((lkR_ne (by omega)).trans ((lkR_ne (by omega)).trans ((lkR_ne (by omega)).trans ((lkR_ne (by omega)).trans ((lkR_ne (by omega)).trans ((lkR_ne (by omega)).trans ((lkR_ne (by omega)).trans ((lkR_ne (by omega)).trans ((lkR_ne (by omega)).trans ((lkR_ne (by omega)).trans ((lkR_ne (by omega)).trans ((lkR_ne (by omega)).trans ((lkR_ne (by omega)).trans ((lkR_ne (by omega)).trans ((lkR_ne (by omega)).trans (hL_R14 i₁ (by omega)))))))))))))))))), ?_⟩
  refine ⟨by omega, by omega, ?_⟩
  refine h₁.newO (n1₁ := 118 + 25 * i₁ + 17) rfl fun K₁ N₁ I₁ L₁ R₁ h₁ => ?_
  refine ⟨by omega, by omega, ?_⟩
  refine i_X3 h₁ (j₁ := 118 + 25 * i₁ + 16) (n1₁ := 118 + 25 * i₁ + 20) (by omega) (if_pos rfl) rfl fun K₁ N₁ I₁ L₁ R₁ h₁ => ?_
  refine ⟨h₁.k (74) (by omega) ((lkN_ne (by omega)).trans ((lkN_ne (by omega)).trans ((lkN_ne (by omega)).trans ((lkN_ne (by omega)).trans ((lkN_ne (by omega)).trans ((lkN_ne (by omega)).trans ((lkN_ne (by omega)).trans ((lkN_ne (by omega)).trans ((lkN_ne (by omega)).trans ((lkN_ne (by omega)).trans ((lkN_ne (by omega)).trans ((lkN_ne (by omega)).trans ((lkN_ne (by omega)).trans ((lkN_ne (by omega)).trans ((lkN_ne (by omega)).trans ((lkN_ne (by omega)).trans ((lkN_ne (by omega)).trans ((lkN_ne (by omega)).trans ((lkN_ne (by omega)).trans ((lkN_ne (by omega)).trans (hL_K74 i₁ (by omega)))))))))))))))))))))), ?_⟩
  refine ⟨vpA₁ (h₁.n 74 (List.mem_cons_of_mem _ (List.mem_cons_of_mem _ (List.mem_cons_of_mem _ (List.mem_cons_of_mem _ (List.mem_cons_of_mem _ (List.mem_cons_of_mem _ (List.mem_cons_of_mem _ (List.mem_cons_of_mem _ (List.mem_cons_of_mem _ (List.mem_cons_of_mem _ (List.mem_cons_of_mem _ (List.mem_cons_of_mem _ (List.mem_cons_of_mem _ (hL_N74 i₁ (by omega)))))))))))))))) (by omega) (by decide), ?_⟩
  refine ⟨h₁.k (118 + 25 * i₁ + 16) (by omega) ((lkN_ne (by omega)).trans ((lkN_ne (by omega)).trans ((lkN_ne (by omega)).trans (if_pos rfl)))), ?_⟩
  refine h₁.putR (a₁ := 74) (i₁ := i₁) (t₁ := 118 + 25 * i₁ + 16) (by omega) (ix_nI (by omega)) fun R₁ h₁ => ?_
  refine ⟨h₁.k (0) (by omega) ((lkN_ne (by omega)).trans ((lkN_ne (by omega)).trans ((lkN_ne (by omega)).trans ((lkN_ne (by omega)).trans ((lkN_ne (by omega)).trans ((lkN_ne (by omega)).trans ((lkN_ne (by omega)).trans ((lkN_ne (by omega)).trans ((lkN_ne (by omega)).trans ((lkN_ne (by omega)).trans ((lkN_ne (by omega)).trans ((lkN_ne (by omega)).trans ((lkN_ne (by omega)).trans ((lkN_ne (by omega)).trans ((lkN_ne (by omega)).trans ((lkN_ne (by omega)).trans ((lkN_ne (by omega)).trans ((lkN_ne (by omega)).trans ((lkN_ne (by omega)).trans ((lkN_ne (by omega)).trans (hL_K0 i₁ (by omega)))))))))))))))))))))), ?_⟩
  refine ⟨_, h₁.r 0 15 (v₁ := 75) ((lkR_ne (by omega)).trans ((lkR_ne (by omega)).trans ((lkR_ne (by omega)).trans ((lkR_ne (by omega)).trans ((lkR_ne (by omega)).trans ((lkR_ne (by omega)).trans ((lkR_ne (by omega)).trans ((lkR_ne (by omega)).trans ((lkR_ne (by omega)).trans ((lkR_ne (by omega)).trans ((lkR_ne (by omega)).trans ((lkR_ne (by omega)).trans ((lkR_ne (by omega)).trans ((lkR_ne (by omega)).trans ((lkR_ne (by omega)).trans ((lkR_ne (by omega)).trans ((lkR_ne (by omega)).trans ((lkR_ne (by omega)).trans ((lkR_ne (by omega)).trans ((lkR_ne (by omega)).trans (hL_R15 i₁ (by omega)))))))))))))))))))))), ?_⟩
  refine ⟨by omega, by omega, ?_⟩
  refine h₁.newO (n1₁ := 118 + 25 * i₁ + 21) rfl fun K₁ N₁ I₁ L₁ R₁ h₁ => ?_
  refine ⟨by omega, by omega, ?_⟩
  refine i_X5 h₁ (j₁ := 118 + 25 * i₁ + 20) (n1₁ := 118 + 25 * i₁ + 25) (by omega) (if_pos rfl) rfl fun K₁ N₁ I₁ L₁ R₁ h₁ => ?_
  refine ⟨h₁.k (75) (by omega) ((lkN_ne (by omega)).trans ((lkN_ne (by omega)).trans ((lkN_ne (by omega)).trans ((lkN_ne (by omega)).trans ((lkN_ne (by omega)).trans ((lkN_ne (by omega)).trans ((lkN_ne (by omega)).trans ((lkN_ne (by omega)).trans ((lkN_ne (by omega)).trans ((lkN_ne (by omega)).trans ((lkN_ne (by omega)).trans ((lkN_ne (by omega)).trans ((lkN_ne (by omega)).trans ((lkN_ne (by omega)).trans ((lkN_ne (by omega)).trans ((lkN_ne (by omega)).trans ((lkN_ne (by omega)).trans ((lkN_ne (by omega)).trans ((lkN_ne (by omega)).trans ((lkN_ne (by omega)).trans ((lkN_ne (by omega)).trans ((lkN_ne (by omega)).trans ((lkN_ne (by omega)).trans ((lkN_ne (by omega)).trans ((lkN_ne (by omega)).trans (hL_K75 i₁ (by omega))))))))))))))))))))))))))), ?_⟩
  refine ⟨vpA₁ (h₁.n 75 (List.mem_cons_of_mem _ (List.mem_cons_of_mem _ (List.mem_cons_of_mem _ (List.mem_cons_of_mem _ (List.mem_cons_of_mem _ (List.mem_cons_of_mem _ (List.mem_cons_of_mem _ (List.mem_cons_of_mem _ (List.mem_cons_of_mem _ (List.mem_cons_of_mem _ (List.mem_cons_of_mem _ (List.mem_cons_of_mem _ (List.mem_cons_of_mem _ (List.mem_cons_of_mem _ (List.mem_cons_of_mem _ (List.mem_cons_of_mem _ (List.mem_cons_of_mem _ (hL_N75 i₁ (by omega)))))))))))))))))))) (by omega) (by decide), ?_⟩
  refine ⟨h₁.k (118 + 25 * i₁ + 20) (by omega) ((lkN_ne (by omega)).trans ((lkN_ne (by omega)).trans ((lkN_ne (by omega)).trans ((lkN_ne (by omega)).trans (if_pos rfl))))), ?_⟩
  refine h₁.putR (a₁ := 75) (i₁ := i₁) (t₁ := 118 + 25 * i₁ + 20) (by omega) (ix_nI (by omega)) fun R₁ h₁ => ?_
  intro v₁ e₁
  refine ⟨2 - (i₁ + 1), by omega, i₁ + 1, by omega, rfl, rfl, e₁.trans (addNo i₁ 1), by omega, by omega, ?_⟩
  exact h₁
theorem i_X11_init_213 {x₁ mc₁ ms₁ : Nat} {K0₁ N0₁ : MK} {I0₁ : MI} {L0₁ : ML} {R0₁ : MR} {K₁ N₁ : MK} {I₁ : MI} {L₁ : ML} {R₁ : MR} {Q₁ : MK → MK → MI → ML → MR → Prop} (h₁ : IAT₁ x₁ 86 X11_k19 X11_n19 X11_r19 X11_i19 K0₁ N0₁ I0₁ L0₁ R0₁ K₁ N₁ I₁ L₁ R₁) (hc₁ : mc₁ = 85) (hs₁ : ms₁ = 3485) (kk₁ : ∀ K1₁ N1₁ I1₁ L1₁ R1₁, IAT₁ x₁ 168 (hL_k 2) (hL_n 2) (hL_r 2) (hL_i 2) K0₁ N0₁ I0₁ L0₁ R0₁ K1₁ N1₁ I1₁ L1₁ R1₁ → Q₁ K1₁ N1₁ I1₁ L1₁ R1₁) : w_X11_init_213 x₁ 0 K₁ N₁ I₁ L₁ R₁ mc₁ ms₁ 167 5821 Q₁ := by
  delta w_X11_init_213
  refine ⟨fun n₁ x0₁ x1₁ mc₁ ms₁ K₁ N₁ I₁ L₁ R₁ => ∃ i₁, i₁ ≤ 8 ∧ n₁ = 8 - i₁ ∧ x0₁ = x₁ ∧ x1₁ = nI i₁ ∧ mc₁ = 85 + 4 * i₁ ∧ ms₁ = 3485 + 86 * i₁ ∧ IAT₁ x₁ (86 + 4 * i₁) (hH_k i₁) (hH_n i₁) (hH_r i₁) (hH_i i₁) K0₁ N0₁ I0₁ L0₁ R0₁ K₁ N₁ I₁ L₁ R₁, ⟨8, 0, by omega, rfl, rfl, rfl, by omega, by omega, h₁⟩, ?_⟩
  rintro n₁ x0₁ x1₁ mc₁ ms₁ K₁ N₁ I₁ L₁ R₁ ⟨i₁, hi₁, hn₁, hx₁, rfl, hc₁, hs₁, h₁⟩
  subst hx₁
  refine ⟨h₁.k 0 (by omega) (hH_K0 i₁ (by omega)), _, h₁.r 0 4 (hH_R4 i₁ (by omega)), h₁.k 27 (by omega) (hH_K27 i₁ (by omega)), fun c₁ => ?_, fun c₁ => ?_⟩
  · rw [h₁.n 27 (hH_N27 i₁ (by omega)), leN (by omega) (by omega)] at c₁
    have e₁ : i₁ = 8 := by omega
    subst e₁
    exact i_X11_init_243 h₁ (by omega) (by omega) kk₁
  rw [h₁.n 27 (hH_N27 i₁ (by omega)), leN (by omega) (by omega)] at c₁
  refine ⟨by omega, by omega, ?_⟩
  refine h₁.newO (n1₁ := 86 + 4 * i₁ + 1) rfl fun K₁ N₁ I₁ L₁ R₁ h₁ => ?_
  refine ⟨by omega, by omega, ?_⟩
  refine i_X3 h₁ (j₁ := 86 + 4 * i₁) (n1₁ := 86 + 4 * i₁ + 4) (by omega) (if_pos rfl) rfl fun K₁ N₁ I₁ L₁ R₁ h₁ => ?_
  refine ⟨h₁.k (27) (by omega) ((lkN_ne (by omega)).trans ((lkN_ne (by omega)).trans ((lkN_ne (by omega)).trans ((lkN_ne (by omega)).trans (hH_K27 i₁ (by omega)))))), ?_⟩
  refine ⟨vpA₁ (h₁.n 27 (List.mem_cons_of_mem _ (List.mem_cons_of_mem _ (List.mem_cons_of_mem _ (hH_N27 i₁ (by omega)))))) (by omega) (by decide), ?_⟩
  refine ⟨h₁.k (86 + 4 * i₁) (by omega) ((lkN_ne (by omega)).trans ((lkN_ne (by omega)).trans ((lkN_ne (by omega)).trans (if_pos rfl)))), ?_⟩
  refine h₁.putR (a₁ := 27) (i₁ := i₁) (t₁ := 86 + 4 * i₁) (by omega) (ix_nI (by omega)) fun R₁ h₁ => ?_
  intro v₁ e₁
  refine ⟨8 - (i₁ + 1), by omega, i₁ + 1, by omega, rfl, rfl, e₁.trans (addNo i₁ 1), by omega, by omega, ?_⟩
  exact h₁
theorem i_X11_init_198 {x₁ mc₁ ms₁ : Nat} {K0₁ N0₁ : MK} {I0₁ : MI} {L0₁ : ML} {R0₁ : MR} {K₁ N₁ : MK} {I₁ : MI} {L₁ : ML} {R₁ : MR} {Q₁ : MK → MK → MI → ML → MR → Prop} (h₁ : IAT₁ x₁ 83 X11_k18 X11_n18 X11_r18 X11_i18 K0₁ N0₁ I0₁ L0₁ R0₁ K₁ N₁ I₁ L₁ R₁) (hc₁ : mc₁ = 82) (hs₁ : ms₁ = 3476) (kk₁ : ∀ K1₁ N1₁ I1₁ L1₁ R1₁, IAT₁ x₁ 168 (hL_k 2) (hL_n 2) (hL_r 2) (hL_i 2) K0₁ N0₁ I0₁ L0₁ R0₁ K1₁ N1₁ I1₁ L1₁ R1₁ → Q₁ K1₁ N1₁ I1₁ L1₁ R1₁) : w_X11_init_198 x₁ K₁ N₁ I₁ L₁ R₁ mc₁ ms₁ 167 5821 Q₁ := by
  delta w_X11_init_198
  refine ⟨by omega, by omega, ?_⟩
  refine h₁.newO (n1₁ := 84) rfl fun K₁ N₁ I₁ L₁ R₁ h₁ => ?_
  refine ⟨by omega, by omega, ?_⟩
  refine i_X7 h₁ (j₁ := 83) (n1₁ := 86) (z₁ := 1) (w₁ := 4) (by decide) (by decide +kernel) rfl (by decide) (by decide) (by decide) fun K₁ N₁ I₁ L₁ R₁ h₁ => ?_
  refine ⟨h₁.k (0) (by decide) (by decide +kernel), ?_⟩
  refine h₁.putR (a₁ := 0) (i₁ := 19) (t₁ := 83) (by decide) rfl fun R₁ h₁ => ?_
  exact i_X11_init_213 h₁ (by omega) (by omega) kk₁
theorem i_X11_init_184 {x₁ mc₁ ms₁ : Nat} {K0₁ N0₁ : MK} {I0₁ : MI} {L0₁ : ML} {R0₁ : MR} {K₁ N₁ : MK} {I₁ : MI} {L₁ : ML} {R₁ : MR} {Q₁ : MK → MK → MI → ML → MR → Prop} (h₁ : IAT₁ x₁ 80 X11_k17 X11_n17 X11_r17 X11_i17 K0₁ N0₁ I0₁ L0₁ R0₁ K₁ N₁ I₁ L₁ R₁) (hc₁ : mc₁ = 79) (hs₁ : ms₁ = 3392) (kk₁ : ∀ K1₁ N1₁ I1₁ L1₁ R1₁, IAT₁ x₁ 168 (hL_k 2) (hL_n 2) (hL_r 2) (hL_i 2) K0₁ N0₁ I0₁ L0₁ R0₁ K1₁ N1₁ I1₁ L1₁ R1₁ → Q₁ K1₁ N1₁ I1₁ L1₁ R1₁) : w_X11_init_184 x₁ K₁ N₁ I₁ L₁ R₁ mc₁ ms₁ 167 5821 Q₁ := by
  delta w_X11_init_184
  refine ⟨by omega, by omega, ?_⟩
  refine h₁.newO (n1₁ := 81) rfl fun K₁ N₁ I₁ L₁ R₁ h₁ => ?_
  refine ⟨by omega, by omega, ?_⟩
  refine i_X7 h₁ (j₁ := 80) (n1₁ := 83) (z₁ := 40) (w₁ := 40) (by decide) (by decide +kernel) rfl (by decide) (by decide) (by decide) fun K₁ N₁ I₁ L₁ R₁ h₁ => ?_
  refine ⟨h₁.k (0) (by decide) (by decide +kernel), ?_⟩
  refine h₁.putR (a₁ := 0) (i₁ := 18) (t₁ := 80) (by decide) rfl fun R₁ h₁ => ?_
  exact i_X11_init_198 h₁ (by omega) (by omega) kk₁
theorem i_X11_init_170 {x₁ mc₁ ms₁ : Nat} {K0₁ N0₁ : MK} {I0₁ : MI} {L0₁ : ML} {R0₁ : MR} {K₁ N₁ : MK} {I₁ : MI} {L₁ : ML} {R₁ : MR} {Q₁ : MK → MK → MI → ML → MR → Prop} (h₁ : IAT₁ x₁ 77 X11_k16 X11_n16 X11_r16 X11_i16 K0₁ N0₁ I0₁ L0₁ R0₁ K₁ N₁ I₁ L₁ R₁) (hc₁ : mc₁ = 76) (hs₁ : ms₁ = 3358) (kk₁ : ∀ K1₁ N1₁ I1₁ L1₁ R1₁, IAT₁ x₁ 168 (hL_k 2) (hL_n 2) (hL_r 2) (hL_i 2) K0₁ N0₁ I0₁ L0₁ R0₁ K1₁ N1₁ I1₁ L1₁ R1₁ → Q₁ K1₁ N1₁ I1₁ L1₁ R1₁) : w_X11_init_170 x₁ K₁ N₁ I₁ L₁ R₁ mc₁ ms₁ 167 5821 Q₁ := by
  delta w_X11_init_170
  refine ⟨by omega, by omega, ?_⟩
  refine h₁.newO (n1₁ := 78) rfl fun K₁ N₁ I₁ L₁ R₁ h₁ => ?_
  refine ⟨by omega, by omega, ?_⟩
  refine i_X7 h₁ (j₁ := 77) (n1₁ := 80) (z₁ := 10) (w₁ := 20) (by decide) (by decide +kernel) rfl (by decide) (by decide) (by decide) fun K₁ N₁ I₁ L₁ R₁ h₁ => ?_
  refine ⟨h₁.k (0) (by decide) (by decide +kernel), ?_⟩
  refine h₁.putR (a₁ := 0) (i₁ := 17) (t₁ := 77) (by decide) rfl fun R₁ h₁ => ?_
  exact i_X11_init_184 h₁ (by omega) (by omega) kk₁
theorem i_X11_init_163 {x₁ mc₁ ms₁ : Nat} {K0₁ N0₁ : MK} {I0₁ : MI} {L0₁ : ML} {R0₁ : MR} {K₁ N₁ : MK} {I₁ : MI} {L₁ : ML} {R₁ : MR} {Q₁ : MK → MK → MI → ML → MR → Prop} (h₁ : IAT₁ x₁ 76 X11_k15 X11_n15 X11_r15 X11_i15 K0₁ N0₁ I0₁ L0₁ R0₁ K₁ N₁ I₁ L₁ R₁) (hc₁ : mc₁ = 75) (hs₁ : ms₁ = 3356) (kk₁ : ∀ K1₁ N1₁ I1₁ L1₁ R1₁, IAT₁ x₁ 168 (hL_k 2) (hL_n 2) (hL_r 2) (hL_i 2) K0₁ N0₁ I0₁ L0₁ R0₁ K1₁ N1₁ I1₁ L1₁ R1₁ → Q₁ K1₁ N1₁ I1₁ L1₁ R1₁) : w_X11_init_163 x₁ K₁ N₁ I₁ L₁ R₁ mc₁ ms₁ 167 5821 Q₁ := by
  delta w_X11_init_163
  have ix_2 : ix 2 = 2 := by decide
  refine ⟨by decide, by decide, by omega, by omega, ?_⟩
  refine h₁.newA (n1₁ := 77) (z₁ := 2) rfl (by decide) fun K₁ N₁ I₁ L₁ R₁ h₁ => ?_
  refine ⟨h₁.k (0) (by decide) (by decide +kernel), ?_⟩
  refine h₁.putR (a₁ := 0) (i₁ := 16) (t₁ := 76) (by decide) rfl fun R₁ h₁ => ?_
  exact i_X11_init_170 h₁ (by omega) (by omega) kk₁
theorem i_X11_init_155 {x₁ mc₁ ms₁ : Nat} {K0₁ N0₁ : MK} {I0₁ : MI} {L0₁ : ML} {R0₁ : MR} {K₁ N₁ : MK} {I₁ : MI} {L₁ : ML} {R₁ : MR} {Q₁ : MK → MK → MI → ML → MR → Prop} (h₁ : IAT₁ x₁ 75 X11_k14 X11_n14 X11_r14 X11_i14 K0₁ N0₁ I0₁ L0₁ R0₁ K₁ N₁ I₁ L₁ R₁) (hc₁ : mc₁ = 74) (hs₁ : ms₁ = 3354) (kk₁ : ∀ K1₁ N1₁ I1₁ L1₁ R1₁, IAT₁ x₁ 168 (hL_k 2) (hL_n 2) (hL_r 2) (hL_i 2) K0₁ N0₁ I0₁ L0₁ R0₁ K1₁ N1₁ I1₁ L1₁ R1₁ → Q₁ K1₁ N1₁ I1₁ L1₁ R1₁) : w_X11_init_155 x₁ K₁ N₁ I₁ L₁ R₁ mc₁ ms₁ 167 5821 Q₁ := by
  delta w_X11_init_155
  have ix_2 : ix 2 = 2 := by decide
  refine ⟨by decide, by decide, by omega, by omega, ?_⟩
  refine h₁.newA (n1₁ := 76) (z₁ := 2) rfl (by decide) fun K₁ N₁ I₁ L₁ R₁ h₁ => ?_
  refine ⟨h₁.k (0) (by decide) (by decide +kernel), ?_⟩
  refine h₁.putR (a₁ := 0) (i₁ := 15) (t₁ := 75) (by decide) rfl fun R₁ h₁ => ?_
  exact i_X11_init_163 h₁ (by omega) (by omega) kk₁
theorem i_X11_init_147 {x₁ mc₁ ms₁ : Nat} {K0₁ N0₁ : MK} {I0₁ : MI} {L0₁ : ML} {R0₁ : MR} {K₁ N₁ : MK} {I₁ : MI} {L₁ : ML} {R₁ : MR} {Q₁ : MK → MK → MI → ML → MR → Prop} (h₁ : IAT₁ x₁ 74 X11_k13 X11_n13 X11_r13 X11_i13 K0₁ N0₁ I0₁ L0₁ R0₁ K₁ N₁ I₁ L₁ R₁) (hc₁ : mc₁ = 73) (hs₁ : ms₁ = 3352) (kk₁ : ∀ K1₁ N1₁ I1₁ L1₁ R1₁, IAT₁ x₁ 168 (hL_k 2) (hL_n 2) (hL_r 2) (hL_i 2) K0₁ N0₁ I0₁ L0₁ R0₁ K1₁ N1₁ I1₁ L1₁ R1₁ → Q₁ K1₁ N1₁ I1₁ L1₁ R1₁) : w_X11_init_147 x₁ K₁ N₁ I₁ L₁ R₁ mc₁ ms₁ 167 5821 Q₁ := by
  delta w_X11_init_147
  have ix_2 : ix 2 = 2 := by decide
  refine ⟨by decide, by decide, by omega, by omega, ?_⟩
  refine h₁.newA (n1₁ := 75) (z₁ := 2) rfl (by decide) fun K₁ N₁ I₁ L₁ R₁ h₁ => ?_
  refine ⟨h₁.k (0) (by decide) (by decide +kernel), ?_⟩
  refine h₁.putR (a₁ := 0) (i₁ := 14) (t₁ := 74) (by decide) rfl fun R₁ h₁ => ?_
  exact i_X11_init_155 h₁ (by omega) (by omega) kk₁
theorem i_X11_init_139 {x₁ mc₁ ms₁ : Nat} {K0₁ N0₁ : MK} {I0₁ : MI} {L0₁ : ML} {R0₁ : MR} {K₁ N₁ : MK} {I₁ : MI} {L₁ : ML} {R₁ : MR} {Q₁ : MK → MK → MI → ML → MR → Prop} (h₁ : IAT₁ x₁ 73 X11_k12 X11_n12 X11_r12 X11_i12 K0₁ N0₁ I0₁ L0₁ R0₁ K₁ N₁ I₁ L₁ R₁) (hc₁ : mc₁ = 72) (hs₁ : ms₁ = 3350) (kk₁ : ∀ K1₁ N1₁ I1₁ L1₁ R1₁, IAT₁ x₁ 168 (hL_k 2) (hL_n 2) (hL_r 2) (hL_i 2) K0₁ N0₁ I0₁ L0₁ R0₁ K1₁ N1₁ I1₁ L1₁ R1₁ → Q₁ K1₁ N1₁ I1₁ L1₁ R1₁) : w_X11_init_139 x₁ K₁ N₁ I₁ L₁ R₁ mc₁ ms₁ 167 5821 Q₁ := by
  delta w_X11_init_139
  have ix_2 : ix 2 = 2 := by decide
  refine ⟨by decide, by decide, by omega, by omega, ?_⟩
  refine h₁.newA (n1₁ := 74) (z₁ := 2) rfl (by decide) fun K₁ N₁ I₁ L₁ R₁ h₁ => ?_
  refine ⟨h₁.k (0) (by decide) (by decide +kernel), ?_⟩
  refine h₁.putR (a₁ := 0) (i₁ := 13) (t₁ := 73) (by decide) rfl fun R₁ h₁ => ?_
  exact i_X11_init_147 h₁ (by omega) (by omega) kk₁
theorem i_X11_init_128 {x₁ mc₁ ms₁ : Nat} {K0₁ N0₁ : MK} {I0₁ : MI} {L0₁ : ML} {R0₁ : MR} {K₁ N₁ : MK} {I₁ : MI} {L₁ : ML} {R₁ : MR} {Q₁ : MK → MK → MI → ML → MR → Prop} (h₁ : IAT₁ x₁ 63 X11_k11 X11_n11 X11_r11 X11_i11 K0₁ N0₁ I0₁ L0₁ R0₁ K₁ N₁ I₁ L₁ R₁) (hc₁ : mc₁ = 62) (hs₁ : ms₁ = 2791) (kk₁ : ∀ K1₁ N1₁ I1₁ L1₁ R1₁, IAT₁ x₁ 168 (hL_k 2) (hL_n 2) (hL_r 2) (hL_i 2) K0₁ N0₁ I0₁ L0₁ R0₁ K1₁ N1₁ I1₁ L1₁ R1₁ → Q₁ K1₁ N1₁ I1₁ L1₁ R1₁) : w_X11_init_128 x₁ K₁ N₁ I₁ L₁ R₁ mc₁ ms₁ 167 5821 Q₁ := by
  delta w_X11_init_128
  refine ⟨by omega, by omega, ?_⟩
  refine h₁.newO (n1₁ := 64) rfl fun K₁ N₁ I₁ L₁ R₁ h₁ => ?_
  refine ⟨by omega, by omega, ?_⟩
  refine i_X4 h₁ (j₁ := 63) (n1₁ := 73) (by decide) (by decide +kernel) rfl fun K₁ N₁ I₁ L₁ R₁ h₁ => ?_
  refine ⟨h₁.k (0) (by decide) (by decide +kernel), ?_⟩
  refine h₁.putR (a₁ := 0) (i₁ := 12) (t₁ := 63) (by decide) rfl fun R₁ h₁ => ?_
  exact i_X11_init_139 h₁ (by omega) (by omega) kk₁
theorem i_X11_init_117 {x₁ mc₁ ms₁ : Nat} {K0₁ N0₁ : MK} {I0₁ : MI} {L0₁ : ML} {R0₁ : MR} {K₁ N₁ : MK} {I₁ : MI} {L₁ : ML} {R₁ : MR} {Q₁ : MK → MK → MI → ML → MR → Prop} (h₁ : IAT₁ x₁ 59 X11_k10 X11_n10 X11_r10 X11_i10 K0₁ N0₁ I0₁ L0₁ R0₁ K₁ N₁ I₁ L₁ R₁) (hc₁ : mc₁ = 58) (hs₁ : ms₁ = 2625) (kk₁ : ∀ K1₁ N1₁ I1₁ L1₁ R1₁, IAT₁ x₁ 168 (hL_k 2) (hL_n 2) (hL_r 2) (hL_i 2) K0₁ N0₁ I0₁ L0₁ R0₁ K1₁ N1₁ I1₁ L1₁ R1₁ → Q₁ K1₁ N1₁ I1₁ L1₁ R1₁) : w_X11_init_117 x₁ K₁ N₁ I₁ L₁ R₁ mc₁ ms₁ 167 5821 Q₁ := by
  delta w_X11_init_117
  refine ⟨by omega, by omega, ?_⟩
  refine h₁.newO (n1₁ := 60) rfl fun K₁ N₁ I₁ L₁ R₁ h₁ => ?_
  refine ⟨by omega, by omega, ?_⟩
  refine i_X0 h₁ (j₁ := 59) (n1₁ := 63) (by decide) (by decide +kernel) rfl fun K₁ N₁ I₁ L₁ R₁ h₁ => ?_
  refine ⟨h₁.k (0) (by decide) (by decide +kernel), ?_⟩
  refine h₁.putR (a₁ := 0) (i₁ := 11) (t₁ := 59) (by decide) rfl fun R₁ h₁ => ?_
  exact i_X11_init_128 h₁ (by omega) (by omega) kk₁
theorem i_X11_init_106 {x₁ mc₁ ms₁ : Nat} {K0₁ N0₁ : MK} {I0₁ : MI} {L0₁ : ML} {R0₁ : MR} {K₁ N₁ : MK} {I₁ : MI} {L₁ : ML} {R₁ : MR} {Q₁ : MK → MK → MI → ML → MR → Prop} (h₁ : IAT₁ x₁ 53 X11_k9 X11_n9 X11_r9 X11_i9 K0₁ N0₁ I0₁ L0₁ R0₁ K₁ N₁ I₁ L₁ R₁) (hc₁ : mc₁ = 52) (hs₁ : ms₁ = 2457) (kk₁ : ∀ K1₁ N1₁ I1₁ L1₁ R1₁, IAT₁ x₁ 168 (hL_k 2) (hL_n 2) (hL_r 2) (hL_i 2) K0₁ N0₁ I0₁ L0₁ R0₁ K1₁ N1₁ I1₁ L1₁ R1₁ → Q₁ K1₁ N1₁ I1₁ L1₁ R1₁) : w_X11_init_106 x₁ K₁ N₁ I₁ L₁ R₁ mc₁ ms₁ 167 5821 Q₁ := by
  delta w_X11_init_106
  refine ⟨by omega, by omega, ?_⟩
  refine h₁.newO (n1₁ := 54) rfl fun K₁ N₁ I₁ L₁ R₁ h₁ => ?_
  refine ⟨by omega, by omega, ?_⟩
  refine i_X6 h₁ (j₁ := 53) (n1₁ := 59) (by decide) (by decide +kernel) rfl fun K₁ N₁ I₁ L₁ R₁ h₁ => ?_
  refine ⟨h₁.k (0) (by decide) (by decide +kernel), ?_⟩
  refine h₁.putR (a₁ := 0) (i₁ := 10) (t₁ := 53) (by decide) rfl fun R₁ h₁ => ?_
  exact i_X11_init_117 h₁ (by omega) (by omega) kk₁
theorem i_X11_init_95 {x₁ mc₁ ms₁ : Nat} {K0₁ N0₁ : MK} {I0₁ : MI} {L0₁ : ML} {R0₁ : MR} {K₁ N₁ : MK} {I₁ : MI} {L₁ : ML} {R₁ : MR} {Q₁ : MK → MK → MI → ML → MR → Prop} (h₁ : IAT₁ x₁ 36 X11_k8 X11_n8 X11_r8 X11_i8 K0₁ N0₁ I0₁ L0₁ R0₁ K₁ N₁ I₁ L₁ R₁) (hc₁ : mc₁ = 35) (hs₁ : ms₁ = 1882) (kk₁ : ∀ K1₁ N1₁ I1₁ L1₁ R1₁, IAT₁ x₁ 168 (hL_k 2) (hL_n 2) (hL_r 2) (hL_i 2) K0₁ N0₁ I0₁ L0₁ R0₁ K1₁ N1₁ I1₁ L1₁ R1₁ → Q₁ K1₁ N1₁ I1₁ L1₁ R1₁) : w_X11_init_95 x₁ K₁ N₁ I₁ L₁ R₁ mc₁ ms₁ 167 5821 Q₁ := by
  delta w_X11_init_95
  refine ⟨by omega, by omega, ?_⟩
  refine h₁.newO (n1₁ := 37) rfl fun K₁ N₁ I₁ L₁ R₁ h₁ => ?_
  refine ⟨by omega, by omega, ?_⟩
  refine i_X10 h₁ (j₁ := 36) (n1₁ := 53) (by decide) (by decide +kernel) rfl fun K₁ N₁ I₁ L₁ R₁ h₁ => ?_
  refine ⟨h₁.k (0) (by decide) (by decide +kernel), ?_⟩
  refine h₁.putR (a₁ := 0) (i₁ := 9) (t₁ := 36) (by decide) rfl fun R₁ h₁ => ?_
  exact i_X11_init_106 h₁ (by omega) (by omega) kk₁
theorem i_X11_init_84 {x₁ mc₁ ms₁ : Nat} {K0₁ N0₁ : MK} {I0₁ : MI} {L0₁ : ML} {R0₁ : MR} {K₁ N₁ : MK} {I₁ : MI} {L₁ : ML} {R₁ : MR} {Q₁ : MK → MK → MI → ML → MR → Prop} (h₁ : IAT₁ x₁ 31 X11_k7 X11_n7 X11_r7 X11_i7 K0₁ N0₁ I0₁ L0₁ R0₁ K₁ N₁ I₁ L₁ R₁) (hc₁ : mc₁ = 30) (hs₁ : ms₁ = 1716) (kk₁ : ∀ K1₁ N1₁ I1₁ L1₁ R1₁, IAT₁ x₁ 168 (hL_k 2) (hL_n 2) (hL_r 2) (hL_i 2) K0₁ N0₁ I0₁ L0₁ R0₁ K1₁ N1₁ I1₁ L1₁ R1₁ → Q₁ K1₁ N1₁ I1₁ L1₁ R1₁) : w_X11_init_84 x₁ K₁ N₁ I₁ L₁ R₁ mc₁ ms₁ 167 5821 Q₁ := by
  delta w_X11_init_84
  refine ⟨by omega, by omega, ?_⟩
  refine h₁.newO (n1₁ := 32) rfl fun K₁ N₁ I₁ L₁ R₁ h₁ => ?_
  refine ⟨by omega, by omega, ?_⟩
  refine i_X5 h₁ (j₁ := 31) (n1₁ := 36) (by decide) (by decide +kernel) rfl fun K₁ N₁ I₁ L₁ R₁ h₁ => ?_
  refine ⟨h₁.k (0) (by decide) (by decide +kernel), ?_⟩
  refine h₁.putR (a₁ := 0) (i₁ := 8) (t₁ := 31) (by decide) rfl fun R₁ h₁ => ?_
  exact i_X11_init_95 h₁ (by omega) (by omega) kk₁
theorem i_X11_init_73 {x₁ mc₁ ms₁ : Nat} {K0₁ N0₁ : MK} {I0₁ : MI} {L0₁ : ML} {R0₁ : MR} {K₁ N₁ : MK} {I₁ : MI} {L₁ : ML} {R₁ : MR} {Q₁ : MK → MK → MI → ML → MR → Prop} (h₁ : IAT₁ x₁ 30 X11_k6 X11_n6 X11_r6 X11_i6 K0₁ N0₁ I0₁ L0₁ R0₁ K₁ N₁ I₁ L₁ R₁) (hc₁ : mc₁ = 29) (hs₁ : ms₁ = 1715) (kk₁ : ∀ K1₁ N1₁ I1₁ L1₁ R1₁, IAT₁ x₁ 168 (hL_k 2) (hL_n 2) (hL_r 2) (hL_i 2) K0₁ N0₁ I0₁ L0₁ R0₁ K1₁ N1₁ I1₁ L1₁ R1₁ → Q₁ K1₁ N1₁ I1₁ L1₁ R1₁) : w_X11_init_73 x₁ K₁ N₁ I₁ L₁ R₁ mc₁ ms₁ 167 5821 Q₁ := by
  delta w_X11_init_73
  refine ⟨by omega, by omega, ?_⟩
  refine h₁.newO (n1₁ := 31) rfl fun K₁ N₁ I₁ L₁ R₁ h₁ => ?_
  refine ⟨by omega, by omega, ?_⟩
  refine i_X1 h₁ (j₁ := 30) (n1₁ := 31) (by decide) (by decide +kernel) rfl fun K₁ N₁ I₁ L₁ R₁ h₁ => ?_
  refine ⟨h₁.k (0) (by decide) (by decide +kernel), ?_⟩
  refine h₁.putR (a₁ := 0) (i₁ := 7) (t₁ := 30) (by decide) rfl fun R₁ h₁ => ?_
  exact i_X11_init_84 h₁ (by omega) (by omega) kk₁
theorem i_X11_init_62 {x₁ mc₁ ms₁ : Nat} {K0₁ N0₁ : MK} {I0₁ : MI} {L0₁ : ML} {R0₁ : MR} {K₁ N₁ : MK} {I₁ : MI} {L₁ : ML} {R₁ : MR} {Q₁ : MK → MK → MI → ML → MR → Prop} (h₁ : IAT₁ x₁ 28 X11_k5 X11_n5 X11_r5 X11_i5 K0₁ N0₁ I0₁ L0₁ R0₁ K₁ N₁ I₁ L₁ R₁) (hc₁ : mc₁ = 27) (hs₁ : ms₁ = 1704) (kk₁ : ∀ K1₁ N1₁ I1₁ L1₁ R1₁, IAT₁ x₁ 168 (hL_k 2) (hL_n 2) (hL_r 2) (hL_i 2) K0₁ N0₁ I0₁ L0₁ R0₁ K1₁ N1₁ I1₁ L1₁ R1₁ → Q₁ K1₁ N1₁ I1₁ L1₁ R1₁) : w_X11_init_62 x₁ K₁ N₁ I₁ L₁ R₁ mc₁ ms₁ 167 5821 Q₁ := by
  delta w_X11_init_62
  refine ⟨by omega, by omega, ?_⟩
  refine h₁.newO (n1₁ := 29) rfl fun K₁ N₁ I₁ L₁ R₁ h₁ => ?_
  refine ⟨by omega, by omega, ?_⟩
  refine i_X2 h₁ (j₁ := 28) (n1₁ := 30) (by decide) (by decide +kernel) rfl fun K₁ N₁ I₁ L₁ R₁ h₁ => ?_
  refine ⟨h₁.k (0) (by decide) (by decide +kernel), ?_⟩
  refine h₁.putR (a₁ := 0) (i₁ := 6) (t₁ := 28) (by decide) rfl fun R₁ h₁ => ?_
  exact i_X11_init_73 h₁ (by omega) (by omega) kk₁
theorem i_X11_init_48 {x₁ mc₁ ms₁ : Nat} {K0₁ N0₁ : MK} {I0₁ : MI} {L0₁ : ML} {R0₁ : MR} {K₁ N₁ : MK} {I₁ : MI} {L₁ : ML} {R₁ : MR} {Q₁ : MK → MK → MI → ML → MR → Prop} (h₁ : IAT₁ x₁ 27 X11_k4 X11_n4 X11_r4 X11_i4 K0₁ N0₁ I0₁ L0₁ R0₁ K₁ N₁ I₁ L₁ R₁) (hc₁ : mc₁ = 26) (hs₁ : ms₁ = 1696) (kk₁ : ∀ K1₁ N1₁ I1₁ L1₁ R1₁, IAT₁ x₁ 168 (hL_k 2) (hL_n 2) (hL_r 2) (hL_i 2) K0₁ N0₁ I0₁ L0₁ R0₁ K1₁ N1₁ I1₁ L1₁ R1₁ → Q₁ K1₁ N1₁ I1₁ L1₁ R1₁) : w_X11_init_48 x₁ K₁ N₁ I₁ L₁ R₁ mc₁ ms₁ 167 5821 Q₁ := by
  delta w_X11_init_48
  have ix_8 : ix 8 = 8 := by decide
  refine ⟨by decide, by decide, by omega, by omega, ?_⟩
  refine h₁.newA (n1₁ := 28) (z₁ := 8) rfl (by decide) fun K₁ N₁ I₁ L₁ R₁ h₁ => ?_
  refine ⟨h₁.k (0) (by decide) (by decide +kernel), ?_⟩
  refine h₁.putR (a₁ := 0) (i₁ := 4) (t₁ := 27) (by decide) rfl fun R₁ h₁ => ?_
  refine h₁.putI (a₁ := 0) (i₁ := 5) (by decide) rfl fun I₁ h₁ => ?_
  exact i_X11_init_62 h₁ (by omega) (by omega) kk₁
theorem i_X11_init_37 {x₁ mc₁ ms₁ : Nat} {K0₁ N0₁ : MK} {I0₁ : MI} {L0₁ : ML} {R0₁ : MR} {K₁ N₁ : MK} {I₁ : MI} {L₁ : ML} {R₁ : MR} {Q₁ : MK → MK → MI → ML → MR → Prop} (h₁ : IAT₁ x₁ 23 X11_k3 X11_n3 X11_r3 X11_i3 K0₁ N0₁ I0₁ L0₁ R0₁ K₁ N₁ I₁ L₁ R₁) (hc₁ : mc₁ = 22) (hs₁ : ms₁ = 1610) (kk₁ : ∀ K1₁ N1₁ I1₁ L1₁ R1₁, IAT₁ x₁ 168 (hL_k 2) (hL_n 2) (hL_r 2) (hL_i 2) K0₁ N0₁ I0₁ L0₁ R0₁ K1₁ N1₁ I1₁ L1₁ R1₁ → Q₁ K1₁ N1₁ I1₁ L1₁ R1₁) : w_X11_init_37 x₁ K₁ N₁ I₁ L₁ R₁ mc₁ ms₁ 167 5821 Q₁ := by
  delta w_X11_init_37
  refine ⟨by omega, by omega, ?_⟩
  refine h₁.newO (n1₁ := 24) rfl fun K₁ N₁ I₁ L₁ R₁ h₁ => ?_
  refine ⟨by omega, by omega, ?_⟩
  refine i_X3 h₁ (j₁ := 23) (n1₁ := 27) (by decide) (by decide +kernel) rfl fun K₁ N₁ I₁ L₁ R₁ h₁ => ?_
  refine ⟨h₁.k (0) (by decide) (by decide +kernel), ?_⟩
  refine h₁.putR (a₁ := 0) (i₁ := 3) (t₁ := 23) (by decide) rfl fun R₁ h₁ => ?_
  exact i_X11_init_48 h₁ (by omega) (by omega) kk₁
theorem i_X11_init_26 {x₁ mc₁ ms₁ : Nat} {K0₁ N0₁ : MK} {I0₁ : MI} {L0₁ : ML} {R0₁ : MR} {K₁ N₁ : MK} {I₁ : MI} {L₁ : ML} {R₁ : MR} {Q₁ : MK → MK → MI → ML → MR → Prop} (h₁ : IAT₁ x₁ 19 X11_k2 X11_n2 X11_r2 X11_i2 K0₁ N0₁ I0₁ L0₁ R0₁ K₁ N₁ I₁ L₁ R₁) (hc₁ : mc₁ = 18) (hs₁ : ms₁ = 1524) (kk₁ : ∀ K1₁ N1₁ I1₁ L1₁ R1₁, IAT₁ x₁ 168 (hL_k 2) (hL_n 2) (hL_r 2) (hL_i 2) K0₁ N0₁ I0₁ L0₁ R0₁ K1₁ N1₁ I1₁ L1₁ R1₁ → Q₁ K1₁ N1₁ I1₁ L1₁ R1₁) : w_X11_init_26 x₁ K₁ N₁ I₁ L₁ R₁ mc₁ ms₁ 167 5821 Q₁ := by
  delta w_X11_init_26
  refine ⟨by omega, by omega, ?_⟩
  refine h₁.newO (n1₁ := 20) rfl fun K₁ N₁ I₁ L₁ R₁ h₁ => ?_
  refine ⟨by omega, by omega, ?_⟩
  refine i_X3 h₁ (j₁ := 19) (n1₁ := 23) (by decide) (by decide +kernel) rfl fun K₁ N₁ I₁ L₁ R₁ h₁ => ?_
  refine ⟨h₁.k (0) (by decide) (by decide +kernel), ?_⟩
  refine h₁.putR (a₁ := 0) (i₁ := 2) (t₁ := 19) (by decide) rfl fun R₁ h₁ => ?_
  exact i_X11_init_37 h₁ (by omega) (by omega) kk₁
theorem i_X11_init_15 {x₁ mc₁ ms₁ : Nat} {K0₁ N0₁ : MK} {I0₁ : MI} {L0₁ : ML} {R0₁ : MR} {K₁ N₁ : MK} {I₁ : MI} {L₁ : ML} {R₁ : MR} {Q₁ : MK → MK → MI → ML → MR → Prop} (h₁ : IAT₁ x₁ 3 X11_k1 X11_n1 X11_r1 X11_i1 K0₁ N0₁ I0₁ L0₁ R0₁ K₁ N₁ I₁ L₁ R₁) (hc₁ : mc₁ = 2) (hs₁ : ms₁ = 952) (kk₁ : ∀ K1₁ N1₁ I1₁ L1₁ R1₁, IAT₁ x₁ 168 (hL_k 2) (hL_n 2) (hL_r 2) (hL_i 2) K0₁ N0₁ I0₁ L0₁ R0₁ K1₁ N1₁ I1₁ L1₁ R1₁ → Q₁ K1₁ N1₁ I1₁ L1₁ R1₁) : w_X11_init_15 x₁ K₁ N₁ I₁ L₁ R₁ mc₁ ms₁ 167 5821 Q₁ := by
  delta w_X11_init_15
  refine ⟨by omega, by omega, ?_⟩
  refine h₁.newO (n1₁ := 4) rfl fun K₁ N₁ I₁ L₁ R₁ h₁ => ?_
  refine ⟨by omega, by omega, ?_⟩
  refine i_X9 h₁ (j₁ := 3) (n1₁ := 19) (by decide) (by decide +kernel) rfl fun K₁ N₁ I₁ L₁ R₁ h₁ => ?_
  refine ⟨h₁.k (0) (by decide) (by decide +kernel), ?_⟩
  refine h₁.putR (a₁ := 0) (i₁ := 1) (t₁ := 3) (by decide) rfl fun R₁ h₁ => ?_
  exact i_X11_init_26 h₁ (by omega) (by omega) kk₁
theorem i_X11_init_4 {x₁ mc₁ ms₁ : Nat} {K0₁ N0₁ : MK} {I0₁ : MI} {L0₁ : ML} {R0₁ : MR} {K₁ N₁ : MK} {I₁ : MI} {L₁ : ML} {R₁ : MR} {Q₁ : MK → MK → MI → ML → MR → Prop} (h₁ : IAT₁ x₁ 1 X11_k0 X11_n0 X11_r0 X11_i0 K0₁ N0₁ I0₁ L0₁ R0₁ K₁ N₁ I₁ L₁ R₁) (hc₁ : mc₁ = 0) (hs₁ : ms₁ = 0) (kk₁ : ∀ K1₁ N1₁ I1₁ L1₁ R1₁, IAT₁ x₁ 168 (hL_k 2) (hL_n 2) (hL_r 2) (hL_i 2) K0₁ N0₁ I0₁ L0₁ R0₁ K1₁ N1₁ I1₁ L1₁ R1₁ → Q₁ K1₁ N1₁ I1₁ L1₁ R1₁) : w_X11_init_4 x₁ K₁ N₁ I₁ L₁ R₁ mc₁ ms₁ 167 5821 Q₁ := by
  delta w_X11_init_4
  refine ⟨by omega, by omega, ?_⟩
  refine h₁.newO (n1₁ := 2) rfl fun K₁ N₁ I₁ L₁ R₁ h₁ => ?_
  refine ⟨by omega, by omega, ?_⟩
  refine i_X8 h₁ (j₁ := 1) (n1₁ := 3) (by decide) (by decide +kernel) rfl fun K₁ N₁ I₁ L₁ R₁ h₁ => ?_
  refine ⟨h₁.k (0) (by decide) (by decide +kernel), ?_⟩
  refine h₁.putR (a₁ := 0) (i₁ := 0) (t₁ := 1) (by decide) rfl fun R₁ h₁ => ?_
  exact i_X11_init_15 h₁ (by omega) (by omega) kk₁
