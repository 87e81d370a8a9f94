/-! ===== the reference reads a token ===== -/
def krS₁ (k₁ : Nat) : Nat := if k₁ = 0 then 0 else if k₁ = 1 then 2 else if k₁ = 2 then 3 else if k₁ = 3 then 4 else 1
def TKR₁ (I₁ : MI) (L₁ : ML) (m₁ : Nat) (B₁ : Nat → Nat) (n₁ lm₁ p₁ : Nat) : Prop := I₁ m₁ 3 = nI n₁ ∧ I₁ m₁ 4 = nI lm₁ ∧ I₁ m₁ 5 = nI (tkN₁ B₁ n₁ lm₁ p₁) ∧ I₁ m₁ 7 = nI (krS₁ (tkK₁ B₁ n₁ lm₁ p₁)) ∧ I₁ m₁ 6 = nI (tkS₁ B₁ n₁ lm₁ p₁) ∧ (tkK₁ B₁ n₁ lm₁ p₁ = 1 → L₁ m₁ 12 = encB 27 (tkW₁ B₁ n₁ p₁)) ∧ (tkK₁ B₁ n₁ lm₁ p₁ = 2 → I₁ m₁ 8 = nI (tkV₁ B₁ n₁ p₁)) ∧ (tkK₁ B₁ n₁ lm₁ p₁ = 3 → I₁ m₁ 9 = nI (tkG₁ B₁ n₁ p₁))
def frV₁ (m₁ : Nat) (J₁ I₁ : MI) (M₁ L₁ : ML) : Prop := (∀ b₁, b₁ ≠ m₁ → J₁ b₁ = I₁ b₁) ∧ (∀ y₁, y₁ ≠ 5 → y₁ ≠ 6 → y₁ ≠ 7 → y₁ ≠ 8 → y₁ ≠ 9 → J₁ m₁ y₁ = I₁ m₁ y₁) ∧ ∀ b₁, b₁ ≠ m₁ → M₁ b₁ = L₁ b₁
theorem allL_first {B₁ : Nat → Nat} {a₁ : Nat} : ∀ k₁, 1 ≤ k₁ → isLt (B₁ a₁) = false → allL B₁ a₁ k₁ = false
  | 0, h₁, _ => absurd h₁ (by decide)
  | 1, _, e₁ => by rw [allL, allL, Nat.add_zero, e₁]; rfl
  | k₁ + 2, _, e₁ => by rw [allL, allL_first (k₁ + 1) (by omega) e₁, Bool.false_and]
theorem allD_first {B₁ : Nat → Nat} {a₁ : Nat} : ∀ k₁, 1 ≤ k₁ → isDg (B₁ a₁) = false → allD B₁ a₁ k₁ = false
  | 0, h₁, _ => absurd h₁ (by decide)
  | 1, _, e₁ => by rw [allD, allD, Nat.add_zero, e₁]; rfl
  | k₁ + 2, _, e₁ => by rw [allD, allD_first (k₁ + 1) (by omega) e₁, Bool.false_and]
theorem lt_dg {c₁ : Nat} (h₁ : isRn c₁ = true) : isDg c₁ = !(isLt c₁) := by
  cases e₁ : isLt c₁
  · simp only [isRn, e₁, Bool.false_or] at h₁; rw [h₁]; rfl
  · simp only [isLt, Bool.and_eq_true, decide_eq_true_eq] at e₁
    cases f₁ : isDg c₁
    · rfl
    · simp only [isDg, Bool.and_eq_true, decide_eq_true_eq] at f₁; omega
section RG₁
variable {K₁ N₁ : MK} {I₁ : MI} {L₁ : ML} {R₁ : MR} {m₁ n₁ lm₁ p₁ : Nat} {B₁ : Nat → Nat}
theorem frV_r : frV₁ m₁ I₁ I₁ L₁ L₁ := ⟨fun _ _ => rfl, fun _ _ _ _ _ _ => rfl, fun _ _ => rfl⟩
theorem frV_t {J₁ J'₁ : MI} {M₁ M'₁ : ML} (h₁ : frV₁ m₁ J'₁ J₁ M'₁ M₁) (h2₁ : frV₁ m₁ J₁ I₁ M₁ L₁) : frV₁ m₁ J'₁ I₁ M'₁ L₁ := ⟨fun b₁ q₁ => by rw [h₁.1 b₁ q₁, h2₁.1 b₁ q₁], fun y₁ a₁ b₁ c₁ d₁ e₁ => by rw [h₁.2.1 y₁ a₁ b₁ c₁ d₁ e₁, h2₁.2.1 y₁ a₁ b₁ c₁ d₁ e₁], fun b₁ q₁ => by rw [h₁.2.2 b₁ q₁, h2₁.2.2 b₁ q₁]⟩
theorem r_isLetter {c₁ : Nat} {Q₁ : Bool → Prop} (hc₁ : c₁ < 256) (h₁ : Q₁ (isLt c₁)) : w_X12_isLetter (nI c₁) K₁ N₁ I₁ L₁ R₁ Q₁ := by
  have l97₁ : nI c₁ < 97 ↔ c₁ < 97 := show nI c₁ < nI 97 ↔ _ from ltN (by omega) (by omega)
  have l122 : (122 : Int32) < nI c₁ ↔ 122 < c₁ := show nI 122 < nI c₁ ↔ _ from ltN (by omega) (by omega)
  delta w_X12_isLetter
  rw [l97₁, l122]
  refine ⟨fun z₁ => ?_, fun z₁ => ⟨fun y₁ => ?_, fun y₁ => ?_⟩⟩
  · rw [isLt, decide_eq_false (show ¬ 97 ≤ c₁ by omega), Bool.false_and] at h₁; exact h₁
  · rw [isLt, decide_eq_false (show ¬ c₁ ≤ 122 by omega), Bool.and_false] at h₁; exact h₁
  · rw [isLt, decide_eq_true (show 97 ≤ c₁ by omega), decide_eq_true (show c₁ ≤ 122 by omega)] at h₁; exact h₁
theorem r_isDigit {c₁ : Nat} {Q₁ : Bool → Prop} (hc₁ : c₁ < 256) (h₁ : Q₁ (isDg c₁)) : w_X12_isDigit (nI c₁) K₁ N₁ I₁ L₁ R₁ Q₁ := by
  have l48₁ : nI c₁ < 48 ↔ c₁ < 48 := show nI c₁ < nI 48 ↔ _ from ltN (by omega) (by omega)
  have l57₁ : (57 : Int32) < nI c₁ ↔ 57 < c₁ := show nI 57 < nI c₁ ↔ _ from ltN (by omega) (by omega)
  delta w_X12_isDigit
  rw [l48₁, l57₁]
  refine ⟨fun z₁ => ?_, fun z₁ => ⟨fun y₁ => ?_, fun y₁ => ?_⟩⟩
  · rw [isDg, decide_eq_false (show ¬ 48 ≤ c₁ by omega), Bool.false_and] at h₁; exact h₁
  · rw [isDg, decide_eq_false (show ¬ c₁ ≤ 57 by omega), Bool.and_false] at h₁; exact h₁
  · rw [isDg, decide_eq_true (show 48 ≤ c₁ by omega), decide_eq_true (show c₁ ≤ 57 by omega)] at h₁; exact h₁
theorem r_tapeAt {q₁ : Nat} {Q₁ : Int32 → Prop} (hM₁ : MDL K₁ N₁ R₁ m₁) (hn₁ : I₁ m₁ 3 = nI n₁) (h940 : n₁ ≤ 940) (hB₁ : TAP₁ I₁ (m₁ + 1) B₁ n₁) (hq₁ : q₁ < 100000) (h1₁ : q₁ < n₁ → Q₁ (nI (B₁ q₁))) (h2₁ : ¬ q₁ < n₁ → Q₁ 0) : w_X12_tapeAt m₁ (nI q₁) K₁ N₁ I₁ L₁ R₁ Q₁ := by
  refine ⟨hM₁.k, ?_⟩
  rw [hn₁, leN (by omega) (by omega), ix_nI (by omega)]
  refine ⟨fun z₁ => h2₁ (by omega), fun z₁ => ⟨_, hM₁.r1, hM₁.k1, by rw [hM₁.n1]; exact (vp_nI (by omega)).mpr (by omega), ?_⟩⟩
  rw [hB₁ q₁ (by omega)]
  exact h1₁ (by omega)
/-- a run of letters and digits -/
theorem r_run {a₁ : Nat} {Q₁ : MI → ML → Prop} (hM₁ : MDL K₁ N₁ R₁ m₁) (hb₁ : ∀ i₁, B₁ i₁ < 256) (h940 : n₁ ≤ 940) (hB₁ : TAP₁ I₁ (m₁ + 1) B₁ n₁) (hn₁ : I₁ m₁ 3 = nI n₁) (h5₁ : I₁ m₁ 5 = nI a₁) (h6₁ : I₁ m₁ 6 = nI a₁) (ha₁ : a₁ < n₁) (h8₁ : I₁ m₁ 8 = 0) (h12₁ : L₁ m₁ 12 = 0) (hr₁ : isRn (B₁ a₁) = true)
    (h₁ : ∀ J₁ M₁, J₁ m₁ 5 = nI (skpS isRn B₁ n₁ a₁) → J₁ m₁ 7 = nI (krS₁ (runK B₁ a₁ (skpS isRn B₁ n₁ a₁ - a₁))) → (runK B₁ a₁ (skpS isRn B₁ n₁ a₁ - a₁) = 1 → M₁ m₁ 12 = encB 27 (letsL B₁ a₁ (skpS isRn B₁ n₁ a₁ - a₁))) → (runK B₁ a₁ (skpS isRn B₁ n₁ a₁ - a₁) = 2 → J₁ m₁ 8 = nI (numV B₁ a₁ (skpS isRn B₁ n₁ a₁ - a₁))) → (∀ b₁, b₁ ≠ m₁ → J₁ b₁ = I₁ b₁) → (∀ y₁, y₁ ≠ 5 → y₁ ≠ 7 → y₁ ≠ 8 → J₁ m₁ y₁ = I₁ m₁ y₁) → (∀ b₁, b₁ ≠ m₁ → M₁ b₁ = L₁ b₁) → Q₁ J₁ M₁) : w_X12_go_215 m₁ (isLt (B₁ a₁)) 1 K₁ N₁ I₁ L₁ R₁ Q₁ := by
  delta w_X12_go_215
  have hE₁ := skp_le (P₁ := isRn) (B₁ := B₁) (Nat.le_of_lt ha₁)
  have hgt₁ : a₁ < skpS isRn B₁ n₁ a₁ := by
    rw [skp_go ha₁ hr₁]
    exact skp_ge
  refine ⟨fun n1₁ y0₁ y2₁ y3₁ I1₁ L1₁ => y0₁ = m₁ ∧ y2₁ = isLt (B₁ a₁) ∧ ∃ i₁, a₁ + i₁ ≤ n₁ ∧ n1₁ = 1000 - i₁ ∧ skpS isRn B₁ n₁ (a₁ + i₁) = skpS isRn B₁ n₁ a₁ ∧ I1₁ m₁ 5 = nI (a₁ + i₁) ∧ (y3₁ = 0 ∧ (if isLt (B₁ a₁) = true then allL B₁ a₁ i₁ else allD B₁ a₁ i₁) = false ∨ y3₁ = 1 ∧ (if isLt (B₁ a₁) = true then allL B₁ a₁ i₁ else allD B₁ a₁ i₁) = true) ∧ (isLt (B₁ a₁) = true → allL B₁ a₁ i₁ = true → i₁ ≤ 7 → L1₁ m₁ 12 = encB 27 (letsL B₁ a₁ i₁)) ∧ (isLt (B₁ a₁) = false → allD B₁ a₁ i₁ = true → i₁ ≤ 3 → I1₁ m₁ 8 = nI (numV B₁ a₁ i₁)) ∧ (∀ b₁, b₁ ≠ m₁ → I1₁ b₁ = I₁ b₁) ∧ (∀ y₁, y₁ ≠ 5 → y₁ ≠ 8 → I1₁ m₁ y₁ = I₁ m₁ y₁) ∧ (∀ b₁, b₁ ≠ m₁ → L1₁ b₁ = L₁ b₁), ⟨1000, rfl, rfl, 0, by omega, rfl, rfl, h5₁, Or.inr ⟨rfl, by split <;> rfl⟩, fun _ _ _ => h12₁, fun _ _ _ => h8₁, fun _ _ => rfl, fun _ _ _ => rfl, fun _ _ => rfl⟩, ?_⟩
  rintro n1₁ y0₁ y2₁ y3₁ I1₁ L1₁ ⟨rfl, rfl, i₁, hi₁, rfl, hs₁, p5₁, pg₁, pL₁, pN₁, f1₁, f2₁, f3₁⟩
  have hT1₁ : TAP₁ I1₁ (y0₁ + 1) B₁ n₁ := fun j₁ hj₁ => by rw [f1₁ _ (by omega)]; exact hB₁ j₁ hj₁
  have hn1₁ : I1₁ y0₁ 3 = nI n₁ := by rw [f2₁ 3 (by decide) (by decide)]; exact hn₁
  have p6₁ : I1₁ y0₁ 6 = nI a₁ := by rw [f2₁ 6 (by decide) (by decide)]; exact h6₁
  have sub : nI (a₁ + i₁) - nI a₁ = nI i₁ := by rw [subN (by omega), Nat.add_sub_cancel_left]
  have step : a₁ + i₁ < n₁ → isRn (B₁ (a₁ + i₁)) = true → w_X12_go_243 y0₁ (isLt (B₁ a₁)) y3₁ K₁ N₁ I1₁ L1₁ R₁ (fun z0₁ z1₁ z2₁ z3₁ z4₁ => ∃ n1₁, n1₁ < 1000 - i₁ ∧ ((fun n1₁ y0'₁ y2₁ y3₁ I1₁ L1₁ => y0'₁ = y0₁ ∧ y2₁ = isLt (B₁ a₁) ∧ ∃ i₁, a₁ + i₁ ≤ n₁ ∧ n1₁ = 1000 - i₁ ∧ skpS isRn B₁ n₁ (a₁ + i₁) = skpS isRn B₁ n₁ a₁ ∧ I1₁ y0₁ 5 = nI (a₁ + i₁) ∧ (y3₁ = 0 ∧ (if isLt (B₁ a₁) = true then allL B₁ a₁ i₁ else allD B₁ a₁ i₁) = false ∨ y3₁ = 1 ∧ (if isLt (B₁ a₁) = true then allL B₁ a₁ i₁ else allD B₁ a₁ i₁) = true) ∧ (isLt (B₁ a₁) = true → allL B₁ a₁ i₁ = true → i₁ ≤ 7 → L1₁ y0₁ 12 = encB 27 (letsL B₁ a₁ i₁)) ∧ (isLt (B₁ a₁) = false → allD B₁ a₁ i₁ = true → i₁ ≤ 3 → I1₁ y0₁ 8 = nI (numV B₁ a₁ i₁)) ∧ (∀ b₁, b₁ ≠ y0₁ → I1₁ b₁ = I₁ b₁) ∧ (∀ y₁, y₁ ≠ 5 → y₁ ≠ 8 → I1₁ y0₁ y₁ = I₁ y0₁ y₁) ∧ (∀ b₁, b₁ ≠ y0₁ → L1₁ b₁ = L₁ b₁) : Nat → Nat → Bool → Int32 → MI → ML → Prop) n1₁ z0₁ z1₁ z2₁ z3₁ z4₁)) Q₁ := by
    intro hq₁ hrn₁
    have go₁ := hs₁
    rw [skp_go hq₁ hrn₁] at go₁
    have hc6₁ := hb₁ (a₁ + i₁)
    have dg₁ := lt_dg hrn₁
    delta w_X12_go_243
    refine ⟨hM₁.k, _, hM₁.r1, hM₁.k1, ?_⟩
    rw [p5₁, hM₁.n1, ix_nI (by omega), hT1₁ _ hq₁]
    refine ⟨(vp_nI (by omega)).mpr (by omega), fun v20₁ g20₁ => ?_⟩
    subst g20₁
    have next : ∀ y4₁ : Int32, (y4₁ = 0 ∧ (if isLt (B₁ a₁) = true then allL B₁ a₁ (i₁ + 1) else allD B₁ a₁ (i₁ + 1)) = false ∨ y4₁ = 1 ∧ (if isLt (B₁ a₁) = true then allL B₁ a₁ (i₁ + 1) else allD B₁ a₁ (i₁ + 1)) = true) → w_X12_go_272 y0₁ (isLt (B₁ a₁)) (nI (B₁ (a₁ + i₁))) y4₁ K₁ N₁ I1₁ L1₁ R₁ (fun z0₁ z1₁ z2₁ z3₁ z4₁ => ∃ n1₁, n1₁ < 1000 - i₁ ∧ ((fun n1₁ y0'₁ y2₁ y3₁ I1₁ L1₁ => y0'₁ = y0₁ ∧ y2₁ = isLt (B₁ a₁) ∧ ∃ i₁, a₁ + i₁ ≤ n₁ ∧ n1₁ = 1000 - i₁ ∧ skpS isRn B₁ n₁ (a₁ + i₁) = skpS isRn B₁ n₁ a₁ ∧ I1₁ y0₁ 5 = nI (a₁ + i₁) ∧ (y3₁ = 0 ∧ (if isLt (B₁ a₁) = true then allL B₁ a₁ i₁ else allD B₁ a₁ i₁) = false ∨ y3₁ = 1 ∧ (if isLt (B₁ a₁) = true then allL B₁ a₁ i₁ else allD B₁ a₁ i₁) = true) ∧ (isLt (B₁ a₁) = true → allL B₁ a₁ i₁ = true → i₁ ≤ 7 → L1₁ y0₁ 12 = encB 27 (letsL B₁ a₁ i₁)) ∧ (isLt (B₁ a₁) = false → allD B₁ a₁ i₁ = true → i₁ ≤ 3 → I1₁ y0₁ 8 = nI (numV B₁ a₁ i₁)) ∧ (∀ b₁, b₁ ≠ y0₁ → I1₁ b₁ = I₁ b₁) ∧ (∀ y₁, y₁ ≠ 5 → y₁ ≠ 8 → I1₁ y0₁ y₁ = I₁ y0₁ y₁) ∧ (∀ b₁, b₁ ≠ y0₁ → L1₁ b₁ = L₁ b₁) : Nat → Nat → Bool → Int32 → MI → ML → Prop) n1₁ z0₁ z1₁ z2₁ z3₁ z4₁)) Q₁ := by
      intro y4₁ hy4₁
      have num₁ : ∀ L2₁ : ML, (isLt (B₁ a₁) = true → allL B₁ a₁ (i₁ + 1) = true → i₁ + 1 ≤ 7 → L2₁ y0₁ 12 = encB 27 (letsL B₁ a₁ (i₁ + 1))) → (∀ b₁, b₁ ≠ y0₁ → L2₁ b₁ = L₁ b₁) → w_X12_go_307 y0₁ (isLt (B₁ a₁)) y4₁ (nI (B₁ (a₁ + i₁))) K₁ N₁ I1₁ L2₁ R₁ (fun z0₁ z1₁ z2₁ z3₁ z4₁ => ∃ n1₁, n1₁ < 1000 - i₁ ∧ ((fun n1₁ y0'₁ y2₁ y3₁ I1₁ L1₁ => y0'₁ = y0₁ ∧ y2₁ = isLt (B₁ a₁) ∧ ∃ i₁, a₁ + i₁ ≤ n₁ ∧ n1₁ = 1000 - i₁ ∧ skpS isRn B₁ n₁ (a₁ + i₁) = skpS isRn B₁ n₁ a₁ ∧ I1₁ y0₁ 5 = nI (a₁ + i₁) ∧ (y3₁ = 0 ∧ (if isLt (B₁ a₁) = true then allL B₁ a₁ i₁ else allD B₁ a₁ i₁) = false ∨ y3₁ = 1 ∧ (if isLt (B₁ a₁) = true then allL B₁ a₁ i₁ else allD B₁ a₁ i₁) = true) ∧ (isLt (B₁ a₁) = true → allL B₁ a₁ i₁ = true → i₁ ≤ 7 → L1₁ y0₁ 12 = encB 27 (letsL B₁ a₁ i₁)) ∧ (isLt (B₁ a₁) = false → allD B₁ a₁ i₁ = true → i₁ ≤ 3 → I1₁ y0₁ 8 = nI (numV B₁ a₁ i₁)) ∧ (∀ b₁, b₁ ≠ y0₁ → I1₁ b₁ = I₁ b₁) ∧ (∀ y₁, y₁ ≠ 5 → y₁ ≠ 8 → I1₁ y0₁ y₁ = I₁ y0₁ y₁) ∧ (∀ b₁, b₁ ≠ y0₁ → L1₁ b₁ = L₁ b₁) : Nat → Nat → Bool → Int32 → MI → ML → Prop) n1₁ z0₁ z1₁ z2₁ z3₁ z4₁)) Q₁ := by
        intro L2₁ hL2₁ hf2₁
        delta w_X12_go_307
        rw [p5₁, p6₁, sub, show (3 : Int32) = nI 3 from rfl, leN (by omega) (by omega)]
        refine ⟨hM₁.k, fun z₁ I23₁ g23₁ => ⟨1000 - (i₁ + 1), by omega, rfl, rfl, i₁ + 1, by omega, rfl, go₁, by rw [g23₁, mup_at, nI_1]; rfl, hy4₁, hL2₁, fun _ _ w₁ => by omega, fun b₁ q₁ => by rw [g23₁, mup_ne q₁, f1₁ b₁ q₁], fun y₁ q1₁ q2₁ => by rw [g23₁, mup_k q1₁, f2₁ y₁ q1₁ q2₁], hf2₁⟩, fun z₁ I24₁ g24₁ I25₁ g25₁ => ⟨1000 - (i₁ + 1), by omega, rfl, rfl, i₁ + 1, by omega, rfl, go₁, by rw [g25₁, mup_at, g24₁, mup_k (by decide), p5₁, nI_1]; rfl, hy4₁, hL2₁, fun w1₁ w2₁ w3₁ => ?_, fun b₁ q₁ => by rw [g25₁, mup_ne q₁, g24₁, mup_ne q₁, f1₁ b₁ q₁], fun y₁ q1₁ q2₁ => by rw [g25₁, mup_k q1₁, g24₁, mup_k q2₁, f2₁ y₁ q1₁ q2₁], hf2₁⟩⟩
        rw [allD, Bool.and_eq_true] at w2₁
        have hd₁ := w2₁.2
        simp only [isDg, Bool.and_eq_true, decide_eq_true_eq] at hd₁
        rw [g25₁, mup_k (by decide), g24₁, mup_at, pN₁ w1₁ w2₁.1 (by omega), numV, show (10 : Int32) = nI 10 from rfl, mulN, addN, show (48 : Int32) = nI 48 from rfl, subN (by omega), Nat.mul_comm 10, Nat.add_sub_assoc hd₁.1]
      delta w_X12_go_272
      rw [p5₁, p6₁, sub, show (7 : Int32) = nI 7 from rfl, leN (by omega) (by omega)]
      refine ⟨hM₁.k, fun z₁ => num₁ L1₁ (fun _ _ w₁ => by omega) f3₁, fun z₁ L26₁ g26₁ => num₁ L26₁ (fun w1₁ w2₁ w3₁ => ?_) (fun b₁ q₁ => by rw [g26₁, mup_ne q₁, f3₁ b₁ q₁])⟩
      rw [allL, Bool.and_eq_true] at w2₁
      have hd₁ := w2₁.2
      simp only [isLt, Bool.and_eq_true, decide_eq_true_eq] at hd₁
      rw [g26₁, mup_at, pL₁ w1₁ w2₁.1 (by omega), letsL, encB_27, encB_27, encN_snoc, nI_l (by omega), show (27 : Int64) = lN 27 from rfl, lN_mul, lN_add, show (96 : Int64) = lN 96 from rfl, lN_sub (by omega), Nat.mul_comm 27, Nat.add_sub_assoc (by omega)]
    refine ⟨fun z₁ => ?_, fun z₁ => r_isLetter hc6₁ ⟨fun w₁ => ?_, fun w₁ => ?_⟩⟩
    · delta w_X12_go_271
      refine next 0 (Or.inl ⟨rfl, ?_⟩)
      rcases pg₁ with ⟨-, e₁⟩ | ⟨e₁, -⟩
      · split at e₁ <;> rename_i q₁
        · rw [if_pos q₁, allL, e₁, Bool.false_and]
        · rw [if_neg q₁, allD, e₁, Bool.false_and]
      · rw [e₁] at z₁; exact absurd z₁ (by decide)
    · delta w_X12_go_271
      refine next 0 (Or.inl ⟨rfl, ?_⟩)
      have w₁ : ¬ isLt (B₁ (a₁ + i₁)) = isLt (B₁ a₁) := fun e₁ => w₁ (by rw [e₁])
      split <;> rename_i q₁
      · rw [q₁] at w₁
        rw [allL, show isLt (B₁ (a₁ + i₁)) = false from by simpa using w₁, Bool.and_false]
      · have q₁ : isLt (B₁ a₁) = false := by simpa using q₁
        rw [q₁] at w₁
        rw [allD, dg₁, show isLt (B₁ (a₁ + i₁)) = true from by simpa using w₁]; exact Bool.and_false _
    · refine next 1 (Or.inr ⟨rfl, ?_⟩)
      have w₁ : isLt (B₁ (a₁ + i₁)) = isLt (B₁ a₁) := by
        cases e1₁ : isLt (B₁ (a₁ + i₁)) <;> cases e2₁ : isLt (B₁ a₁) <;> first | rfl | (rw [e1₁, e2₁] at w₁; exact absurd w₁ (by decide))
      rcases pg₁ with ⟨e₁, -⟩ | ⟨-, e₁⟩
      · exact absurd e₁ z₁
      · split at e₁ <;> rename_i q₁
        · rw [if_pos q₁, allL, e₁, w₁, q₁]; rfl
        · have q2₁ : isLt (B₁ a₁) = false := by simpa using q₁
          rw [if_neg q₁, allD, e₁, dg₁, w₁, q2₁]; rfl
  have fin₁ : skpS isRn B₁ n₁ a₁ = a₁ + i₁ → (y3₁ = 0 → ∀ I30₁ : MI, I30₁ = mup I1₁ y0₁ 7 1 → Q₁ I30₁ L1₁) ∧ (¬ y3₁ = 0 → (isLt (B₁ a₁) = false → (((I1₁ y0₁ 5) - (I1₁ y0₁ 6)) ≤ 3 → (isLt (B₁ a₁) = false → ∀ I31₁ : MI, I31₁ = mup I1₁ y0₁ 7 3 → Q₁ I31₁ L1₁) ∧ (isLt (B₁ a₁) = true → ∀ I32₁ : MI, I32₁ = mup I1₁ y0₁ 7 2 → Q₁ I32₁ L1₁)) ∧ (¬ ((I1₁ y0₁ 5) - (I1₁ y0₁ 6)) ≤ 3 → ∀ I33₁ : MI, I33₁ = mup I1₁ y0₁ 7 1 → Q₁ I33₁ L1₁)) ∧ (isLt (B₁ a₁) = true → (((I1₁ y0₁ 5) - (I1₁ y0₁ 6)) ≤ 7 → (isLt (B₁ a₁) = false → ∀ I34₁ : MI, I34₁ = mup I1₁ y0₁ 7 3 → Q₁ I34₁ L1₁) ∧ (isLt (B₁ a₁) = true → ∀ I35₁ : MI, I35₁ = mup I1₁ y0₁ 7 2 → Q₁ I35₁ L1₁)) ∧ (¬ ((I1₁ y0₁ 5) - (I1₁ y0₁ 6)) ≤ 7 → ∀ I36₁ : MI, I36₁ = mup I1₁ y0₁ 7 1 → Q₁ I36₁ L1₁))) := by
    intro e₁
    rw [e₁, show a₁ + i₁ - a₁ = i₁ by omega] at h₁
    have hi1₁ : 1 ≤ i₁ := by omega
    have fd₁ : isLt (B₁ a₁) = true → allD B₁ a₁ i₁ = false := fun q₁ => allD_first i₁ hi1₁ (by rw [lt_dg hr₁, q₁]; rfl)
    have fl₁ : isLt (B₁ a₁) = false → allL B₁ a₁ i₁ = false := fun q₁ => allL_first i₁ hi1₁ q₁
    have put₁ : ∀ (k₁ : Nat) (J₁ : MI), J₁ = mup I1₁ y0₁ 7 (nI (krS₁ k₁)) → runK B₁ a₁ i₁ = k₁ → Q₁ J₁ L1₁ := fun k₁ J₁ gJ₁ ek₁ => by
      refine h₁ J₁ L1₁ (by rw [gJ₁, mup_k (by decide)]; exact p5₁) (by rw [gJ₁, mup_at, ek₁]) (fun w₁ => ?_) (fun w₁ => ?_) (fun b₁ q₁ => by rw [gJ₁, mup_ne q₁, f1₁ b₁ q₁]) (fun y₁ q1₁ q2₁ q3₁ => by rw [gJ₁, mup_k q2₁, f2₁ y₁ q1₁ q3₁]) f3₁
      · rw [runK] at w₁
        split at w₁
        · rename_i q₁
          cases ea₁ : isLt (B₁ a₁)
          · rw [fl₁ ea₁] at q₁; exact absurd q₁.1 (by decide)
          · exact pL₁ ea₁ q₁.1 q₁.2
        · split at w₁ <;> omega
      · rw [runK] at w₁
        split at w₁
        · omega
        · split at w₁
          · rename_i q₁
            rw [gJ₁, mup_k (by decide)]
            cases ea₁ : isLt (B₁ a₁)
            · exact pN₁ ea₁ q₁.1 q₁.2
            · rw [fd₁ ea₁] at q₁; exact absurd q₁.1 (by decide)
          · omega
    rw [p5₁, p6₁, sub, show (3 : Int32) = nI 3 from rfl, show (7 : Int32) = nI 7 from rfl, leN (by omega) (by omega), leN (by omega) (by omega)]
    refine ⟨fun z₁ I30₁ g30₁ => put₁ 4 I30₁ g30₁ ?_, fun z₁ => ?_⟩
    · rcases pg₁ with ⟨-, e2₁⟩ | ⟨e2₁, -⟩
      · cases ea₁ : isLt (B₁ a₁)
        · rw [ea₁] at e2₁
          have e2₁ : allD B₁ a₁ i₁ = false := e2₁
          rw [runK, fl₁ ea₁, e2₁]; rfl
        · rw [ea₁] at e2₁
          have e2₁ : allL B₁ a₁ i₁ = false := e2₁
          rw [runK, fd₁ ea₁, e2₁]; rfl
      · rw [e2₁] at z₁; exact absurd z₁ (by decide)
    · rcases pg₁ with ⟨e2₁, -⟩ | ⟨-, e2₁⟩
      · exact absurd e2₁ z₁
      refine ⟨fun ea₁ => ?_, fun ea₁ => ?_⟩
      · rw [ea₁] at e2₁
        have e2₁ : allD B₁ a₁ i₁ = true := e2₁
        refine ⟨fun y₁ => ⟨fun _ I31₁ g31₁ => put₁ 2 I31₁ g31₁ ?_, fun w₁ => by rw [ea₁] at w₁; exact absurd w₁ (by decide)⟩, fun y₁ I33₁ g33₁ => put₁ 4 I33₁ g33₁ ?_⟩
        · rw [runK, if_neg (fun w₁ => by rw [fl₁ ea₁] at w₁; exact absurd w₁.1 (by decide)), if_pos ⟨e2₁, y₁⟩]
        · rw [runK, if_neg (fun w₁ => by rw [fl₁ ea₁] at w₁; exact absurd w₁.1 (by decide)), if_neg (fun w₁ => y₁ w₁.2)]
      · rw [ea₁] at e2₁
        have e2₁ : allL B₁ a₁ i₁ = true := e2₁
        refine ⟨fun y₁ => ⟨fun w₁ => by rw [ea₁] at w₁; exact absurd w₁ (by decide), fun _ I35₁ g35₁ => put₁ 1 I35₁ g35₁ ?_⟩, fun y₁ I36₁ g36₁ => put₁ 4 I36₁ g36₁ ?_⟩
        · rw [runK, if_pos ⟨e2₁, y₁⟩]
        · rw [runK, if_neg (fun w₁ => y₁ w₁.2), if_neg (fun w₁ => by rw [fd₁ ea₁] at w₁; exact absurd w₁.1 (by decide))]
  refine ⟨hM₁.k, ?_⟩
  rw [p5₁] at fin₁ ⊢
  refine r_tapeAt hM₁ hn1₁ h940 hT1₁ (by omega) (fun hq₁ => ?_) (fun hq₁ => ?_)
  · refine r_isLetter (hb₁ _) ⟨fun y₁ => step hq₁ (by rw [isRn, y₁]; rfl), fun y₁ => r_tapeAt hM₁ hn1₁ h940 hT1₁ (by omega) (fun _ => r_isDigit (hb₁ _) ⟨fun w₁ => fin₁ (by rw [← hs₁, skp_no (fun z₁ => by rw [isRn, y₁, w₁] at z₁; exact absurd z₁.2 (by decide))]), fun w₁ => step hq₁ (by rw [isRn, y₁, w₁]; rfl)⟩) (fun w₁ => absurd hq₁ w₁)⟩
  · refine ⟨fun _ => ⟨fun w₁ => absurd w₁ (by decide), fun _ => r_tapeAt hM₁ hn1₁ h940 hT1₁ (by omega) (fun w₁ => absurd w₁ hq₁) (fun _ => ⟨fun _ => ⟨fun _ => fin₁ (by rw [← hs₁, skp_no (fun w₁ => hq₁ w₁.1)]), fun w₁ => absurd w₁ (by decide)⟩, fun w₁ => absurd (by decide) w₁⟩)⟩, fun w₁ => absurd (by decide) w₁⟩
end RG₁
