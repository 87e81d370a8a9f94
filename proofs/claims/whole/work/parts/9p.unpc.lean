/-! ===== unpacked: what it is; the class ===== -/
def sgS₁ (b₁ c₁ : Nat) : Int32 := if 32768 ≤ b₁ * 256 + c₁ then nI (b₁ * 256 + c₁) - 65536 else nI (b₁ * 256 + c₁)
def okR₁ (rs₁ : List (Nat × Int32)) (a₁ : Nat) (l₁ : Int32) : Bool := decide (rs₁.length < 30) && (decide (rs₁.length = 0) || decide ((rs₁.getD (rs₁.length - 1) (0, 0)).1 < a₁)) && isInB l₁ 1 250
/-- one op: its length, the state behind it -/
def upO₁ (B₁ : Nat → Nat) (n₁ p₁ a₁ : Nat) (l₁ : Int32) (rs₁ : List (Nat × Int32)) : Option (Nat × Nat × Int32 × List (Nat × Int32)) :=
  if B₁ p₁ = 1 then (if okR₁ rs₁ a₁ l₁ = true then some (1, a₁, l₁, rs₁ ++ [(a₁, l₁)]) else none)
  else if B₁ p₁ = 2 then (if p₁ + 1 < n₁ ∧ a₁ + B₁ (p₁ + 1) < 256 then some (2, a₁ + B₁ (p₁ + 1), l₁, rs₁) else none)
  else if B₁ p₁ = 3 then (if p₁ + 2 < n₁ then some (3, a₁, l₁ + sgS₁ (B₁ (p₁ + 1)) (B₁ (p₁ + 2)), rs₁) else none)
  else if B₁ p₁ = 4 then (if a₁ + 17 < 256 then some (1, a₁ + 17, l₁, rs₁) else none)
  else if B₁ p₁ < 10 then none
  else if a₁ + (B₁ p₁ - 10) / 12 < 256 ∧ okR₁ rs₁ (a₁ + (B₁ p₁ - 10) / 12) (l₁ + (nI ((B₁ p₁ - 10) % 12) - 4)) = true then some (1, a₁ + (B₁ p₁ - 10) / 12, l₁ + (nI ((B₁ p₁ - 10) % 12) - 4), rs₁ ++ [(a₁ + (B₁ p₁ - 10) / 12, l₁ + (nI ((B₁ p₁ - 10) % 12) - 4))])
  else none
def upS₁ (B₁ : Nat → Nat) (n₁ : Nat) : Nat → Nat → Nat → Int32 → List (Nat × Int32) → Sum Nat (List (Nat × Int32))
  | 0, _, _, _, _ => .inl n₁
  | f₁ + 1, p₁, a₁, l₁, rs₁ => if n₁ ≤ p₁ then .inl n₁ else if B₁ p₁ = 0 then (if p₁ + 1 < n₁ then .inl (p₁ + 1) else .inr rs₁) else
    match upO₁ B₁ n₁ p₁ a₁ l₁ rs₁ with
    | none => .inl p₁
    | some (k₁, a'₁, l'₁, rs'₁) => upS₁ B₁ n₁ f₁ (p₁ + k₁) a'₁ l'₁ rs'₁
theorem getD_sn {α : Type} (t₁ : List α) (c₁ d₁ : α) (i₁ : Nat) (h₁ : i₁ < t₁.length + 1) : (t₁ ++ [c₁]).getD i₁ d₁ = if i₁ = t₁.length then c₁ else t₁.getD i₁ d₁ := by
  rw [List.getD_eq_getElem?_getD, List.getD_eq_getElem?_getD]
  by_cases e₁ : i₁ = t₁.length
  · rw [if_pos e₁, e₁, List.getElem?_append_right (Nat.le_refl _), Nat.sub_self]; rfl
  · rw [if_neg e₁, List.getElem?_append_left (by omega)]
/-- a table of rows -/
def RWT₁ (I₁ : MI) (t₁ : Nat) (rs₁ : List (Nat × Int32)) : Prop := TD I₁ t₁ 30 2 rs₁.length ∧ ∀ i₁, i₁ < rs₁.length → I₁ (t₁ + 2) (i₁ * 2 + 0) = nI (rs₁.getD i₁ (0, 0)).1 ∧ I₁ (t₁ + 2) (i₁ * 2 + 1) = (rs₁.getD i₁ (0, 0)).2
/-- what unpacking leaves as it was -/
def frUp (x₁ : Nat) (J₁ I₁ : MI) (M₁ L₁ : ML) : Prop := (∀ b₁, b₁ ≠ x₁ + 63 → b₁ ≠ x₁ + 70 → b₁ ≠ x₁ + 72 → J₁ b₁ = I₁ b₁) ∧ ∀ b₁, b₁ ≠ x₁ + 71 → M₁ b₁ = L₁ b₁
theorem upO_a {B₁ : Nat → Nat} {n₁ p₁ a₁ : Nat} {l₁ : Int32} {rs₁ : List (Nat × Int32)} {q₁ : Nat × Nat × Int32 × List (Nat × Int32)} (h₁ : upO₁ B₁ n₁ p₁ a₁ l₁ rs₁ = some q₁) : 1 ≤ q₁.1 := by
  rw [upO₁] at h₁
  repeat' split at h₁
  all_goals first | (cases h₁; simp) | (cases h₁)
section UN₁
variable {K₁ N₁ : MK} {I₁ : MI} {L₁ : ML} {R₁ : MR} {x₁ n₁ : Nat} {B₁ : Nat → Nat}
theorem frUp_r : frUp x₁ I₁ I₁ L₁ L₁ := ⟨fun _ _ _ _ => rfl, fun _ _ => rfl⟩
theorem frUp_t {J₁ J'₁ : MI} {M₁ M'₁ : ML} (h₁ : frUp x₁ J'₁ J₁ M'₁ M₁) (h2₁ : frUp x₁ J₁ I₁ M₁ L₁) : frUp x₁ J'₁ I₁ M'₁ L₁ := ⟨fun b₁ h3₁ h4₁ h5₁ => by rw [h₁.1 b₁ h3₁ h4₁ h5₁, h2₁.1 b₁ h3₁ h4₁ h5₁], fun b₁ h3₁ => by rw [h₁.2 b₁ h3₁, h2₁.2 b₁ h3₁]⟩
theorem RWT_fr {J₁ : MI} {t₁ : Nat} {rs₁ : List (Nat × Int32)} (h₁ : RWT₁ I₁ t₁ rs₁) (e1₁ : J₁ t₁ = I₁ t₁) (e2₁ : J₁ (t₁ + 2) = I₁ (t₁ + 2)) : RWT₁ J₁ t₁ rs₁ := ⟨h₁.1.fr e1₁, by rw [e2₁]; exact h₁.2⟩
theorem s_unpackRow {a₁ : Nat} {l₁ : Int32} {rs₁ : List (Nat × Int32)} {Q₁ : Bool → MI → ML → Prop} (hX₁ : PDL K₁ N₁ R₁ x₁) (hT₁ : RWT₁ I₁ (x₁ + 70) rs₁) (e3₁ : I₁ (x₁ + 63) 3 = nI a₁) (e4₁ : I₁ (x₁ + 63) 4 = l₁) (ha₁ : a₁ < 100000) (hrs₁ : ∀ i₁, i₁ < rs₁.length → (rs₁.getD i₁ (0, 0)).1 < 256)
    (hno₁ : ¬ (a₁ < 256 ∧ okR₁ rs₁ a₁ l₁ = true) → Q₁ false I₁ L₁)
    (h₁ : a₁ < 256 → okR₁ rs₁ a₁ l₁ = true → ∀ J₁ M₁, RWT₁ J₁ (x₁ + 70) (rs₁ ++ [(a₁, l₁)]) → J₁ (x₁ + 63) = I₁ (x₁ + 63) → frUp x₁ J₁ I₁ M₁ L₁ → Q₁ true J₁ M₁) : w_X4_unpackRow (x₁ + 63) K₁ N₁ I₁ L₁ R₁ Q₁ := by
  have d₁ := hT₁.1
  have d1₁ := d₁.2.1
  have d2₁ := d₁.2.2
  have go39 : ∀ s₁ : Int32, (s₁ = 0 → ¬ (a₁ < 256 ∧ okR₁ rs₁ a₁ l₁ = true)) → (s₁ ≠ 0 → s₁ = 1 ∧ (rs₁.length = 0 ∨ (rs₁.getD (rs₁.length - 1) (0, 0)).1 < a₁)) → w_X4_unpackRow_39 (x₁ + 63) s₁ K₁ N₁ I₁ L₁ R₁ Q₁ := fun s₁ s0₁ s1₁ => by
    delta w_X4_unpackRow_39
    rw [e4₁, e3₁]
    have nb₁ : isInB l₁ 1 250 = false → ¬ (a₁ < 256 ∧ okR₁ rs₁ a₁ l₁ = true) := fun z₁ y₁ => by
      have y2₁ := y₁.2
      rw [okR₁, z₁, Bool.and_false] at y2₁
      cases y2₁
    refine ⟨hX₁.pak, fun z₁ => ?_, fun z₁ => ⟨fun z2₁ => ?_, fun z2₁ => ⟨fun y₁ => hno₁ (s0₁ y₁), fun y₁ => ⟨fun z3₁ => ?_, fun z3₁ => ⟨_, hX₁.pak_r2, hX₁.pak_t2.1, s_isFull hX₁.pak_t2 d₁ ⟨fun z4₁ => ?_, fun z4₁ => ?_⟩⟩⟩⟩⟩⟩
    · exact ⟨fun _ => hno₁ (nb₁ (isInB_f.mpr (fun y₁ => absurd z₁ (Int32.not_lt.mpr y₁.1)))), fun _ => hno₁ (nb₁ (isInB_f.mpr (fun y₁ => absurd z₁ (Int32.not_lt.mpr y₁.1))))⟩
    · exact ⟨fun _ => hno₁ (nb₁ (isInB_f.mpr (fun y₁ => absurd z2₁ (Int32.not_lt.mpr y₁.2)))), fun _ => hno₁ (nb₁ (isInB_f.mpr (fun y₁ => absurd z2₁ (Int32.not_lt.mpr y₁.2))))⟩
    · rw [show (255 : Int32) = nI 255 from rfl, ltN (by omega) (by omega)] at z3₁
      exact hno₁ (fun y₁ => by omega)
    · rw [show (255 : Int32) = nI 255 from rfl, ltN (by omega) (by omega)] at z3₁
      have ln₁ : rs₁.length < 30 := by have := of_decide_eq_false z4₁; omega
      have ok₁ : okR₁ rs₁ a₁ l₁ = true := by
        rw [okR₁, isInB_iff.mpr ⟨Int32.not_lt.mp z₁, Int32.not_lt.mp z2₁⟩, decide_eq_true ln₁, Bool.true_and, Bool.and_true]
        rcases (s1₁ y₁).2 with q₁ | q₁
        · rw [decide_eq_true q₁, Bool.true_or]
        · rw [decide_eq_true q₁, Bool.or_true]
      refine s_add hX₁.pak_t2 d₁ ln₁ (s_put (n₁ := rs₁.length + 1) (k₁ := rs₁.length) (c₁ := 0) hX₁.pak_t2 ⟨?_, ?_, ?_⟩ (by omega) (by decide) (s_put (n₁ := rs₁.length + 1) (k₁ := rs₁.length) (c₁ := 1) hX₁.pak_t2 ⟨?_, ?_, ?_⟩ (by omega) (by decide) (h₁ (by omega) ok₁ _ _ ⟨⟨?_, ?_, ?_⟩, fun i₁ hi₁ => ?_⟩ ?_ ⟨fun b₁ h1₁ h2₁ h3₁ => ?_, fun b₁ h1₁ => ?_⟩)))
      · rw [mup_k (by decide)]; exact d₁.1
      · rw [mup_at]
      · omega
      · rw [mup_ne (by omega), mup_k (by decide)]; exact d₁.1
      · rw [mup_ne (by omega), mup_at]
      · omega
      · rw [mup_ne (by omega), mup_ne (by omega), mup_k (by decide)]; exact d₁.1
      · rw [mup_ne (by omega), mup_ne (by omega), mup_at, List.length_append]; rfl
      · rw [List.length_append, List.length_singleton]; omega
      · rw [List.length_append, List.length_singleton] at hi₁
        rw [getD_sn _ _ _ _ hi₁]
        by_cases q₁ : i₁ = rs₁.length
        · rw [if_pos q₁, q₁, mup_k (by omega), mup_at, mup_at, mup_ne (by omega), mup_ne (by omega), mup_ne (by omega), e3₁, e4₁]
          exact ⟨rfl, rfl⟩
        · rw [if_neg q₁, mup_k (by omega), mup_k (by omega), mup_ne (by omega), mup_k (by omega), mup_k (by omega), mup_ne (by omega)]
          exact hT₁.2 i₁ (by omega)
      · rw [mup_ne (by omega), mup_ne (by omega), mup_ne (by omega)]
      · rw [mup_ne h3₁, mup_ne h3₁, mup_ne h2₁]
      · rw [mup_ne h1₁]
    · have ln₁ : rs₁.length = 30 := of_decide_eq_true z4₁
      refine hno₁ (fun y₁ => ?_)
      have y2₁ := y₁.2
      rw [okR₁, decide_eq_false (show ¬ rs₁.length < 30 by omega), Bool.false_and, Bool.false_and] at y2₁
      cases y2₁
  delta w_X4_unpackRow w_X4_unpackRow_34
  refine ⟨hX₁.pak, _, hX₁.pak_r2, hX₁.pak_t2.1, ?_⟩
  rw [d1₁, show (0 : Int32) = nI 0 from rfl, eqN (by omega) (by omega), e3₁]
  refine ⟨fun z₁ => go39 1 (fun y₁ => absurd y₁ (by decide)) (fun _ => ⟨rfl, Or.inl z₁⟩), fun z₁ => ?_⟩
  obtain ⟨j₁, hj₁⟩ : ∃ j₁, rs₁.length = j₁ + 1 := ⟨rs₁.length - 1, by omega⟩
  have r1₁ := (hT₁.2 j₁ (by omega)).1
  have r2₁ := hrs₁ j₁ (by omega)
  rw [hj₁, nI_pred]
  rw [hj₁] at d₁
  refine s_at hX₁.pak_t2 d₁ ?_
  rw [tat_in (by omega) (by decide) (by omega) (by decide), r1₁, leN (by omega) (by omega)]
  refine ⟨fun y₁ => go39 0 (fun _ q₁ => ?_) (fun q₁ => absurd rfl q₁), fun y₁ => go39 1 (fun q₁ => absurd q₁ (by decide)) (fun _ => ⟨rfl, Or.inr ?_⟩)⟩
  · have q2₁ := q₁.2
    rw [okR₁, hj₁, show j₁ + 1 - 1 = j₁ by omega, decide_eq_false (show ¬ j₁ + 1 = 0 by omega), decide_eq_false (show ¬ (rs₁.getD j₁ (0, 0)).1 < a₁ by omega), Bool.or_false, Bool.and_false, Bool.false_and] at q2₁
    cases q2₁
  · rw [hj₁, show j₁ + 1 - 1 = j₁ by omega]; omega
end UN₁
