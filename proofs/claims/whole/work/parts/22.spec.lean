/-! ===== what the answers are, as functions of the reference's numbers ===== -/
theorem vp_c {c₁ n₁ : Nat} (h₁ : @OfNat.ofNat Nat c₁ _ < n₁) (hn₁ : n₁ ≤ 2147483648) : vp_in (@OfNat.ofNat Int32 c₁ _) n₁ := (vp_nI (Nat.lt_of_lt_of_le h₁ hn₁)).mpr h₁
theorem vp_cn {c₁ k₁ n₁ : Nat} (h₁ : @OfNat.ofNat Nat c₁ _ + k₁ < n₁) (hn₁ : n₁ ≤ 2147483648) : vp_in (@OfNat.ofNat Int32 c₁ _ + nI k₁) n₁ := by
  rw [show (@OfNat.ofNat Int32 c₁ _ + nI k₁) = nI (c₁ + k₁) from nI_add c₁ k₁]
  exact (vp_nI (Nat.lt_of_lt_of_le h₁ hn₁)).mpr h₁
theorem ix_c {c₁ : Nat} (h₁ : @OfNat.ofNat Nat c₁ _ < 2147483648) : ix (@OfNat.ofNat Int32 c₁ _) = @OfNat.ofNat Nat c₁ _ := nI_clamp h₁
theorem ix_cn {c₁ k₁ : Nat} (h₁ : @OfNat.ofNat Nat c₁ _ + k₁ < 2147483648) : ix (@OfNat.ofNat Int32 c₁ _ + nI k₁) = @OfNat.ofNat Nat c₁ _ + k₁ := by
  rw [show (@OfNat.ofNat Int32 c₁ _ + nI k₁) = nI (c₁ + k₁) from nI_add c₁ k₁]
  exact nI_clamp h₁
def rowEnd (U₁ : Nat → Int32) (k₁ : Nat) : Int32 := if k₁ + 1 = ix (U₁ 1) then U₁ 0 else U₁ (6 + k₁ + 1)
def rowS (U₁ : Nat → Int32) (k₁ w₁ : Int32) : Int32 := if inN k₁ (ix (U₁ 1)) = true then (if w₁ = 0 then U₁ (6 + ix k₁) else if w₁ = 1 then U₁ (36 + ix k₁) else if w₁ = 2 then rowEnd U₁ (ix k₁) - U₁ (6 + ix k₁) else -1) else -1
def adrF (U₁ : Nat → Int32) (line k₁ : Int32) : Nat → Nat → Nat → Int32
  | 0, _, _ => -1
  | f₁ + 1, i₁, n₁ => if U₁ (36 + i₁) = line then (if nI n₁ = k₁ then U₁ (6 + i₁) else adrF U₁ line k₁ f₁ (i₁ + 1) (n₁ + 1)) else adrF U₁ line k₁ f₁ (i₁ + 1) n₁
def adrS (U₁ : Nat → Int32) (line k₁ : Int32) : Int32 := adrF U₁ line k₁ (ix (U₁ 1)) 0 0
def lsum (U₁ : Nat → Int32) (line : Int32) : Nat → Int32
  | 0 => 0
  | k₁ + 1 => if U₁ (36 + k₁) = line then lsum U₁ line k₁ + (rowEnd U₁ k₁ - U₁ (6 + k₁)) else lsum U₁ line k₁
def lgst (U₁ : Nat → Int32) : Nat → Int32 × Int32
  | 0 => (-1, 0)
  | l₁ + 1 => if (lgst U₁ l₁).2 < lsum U₁ (nI (l₁ + 1)) (ix (U₁ 1)) then (nI (l₁ + 1), lsum U₁ (nI (l₁ + 1)) (ix (U₁ 1))) else lgst U₁ l₁
def widS (U₁ : Nat → Int32) (s₁ : Nat) : Int32 := U₁ (76 + s₁) - U₁ (66 + s₁)
def hasS (U₁ : Nat → Int32) (s₁ : Nat) (a₁ : Int32) : Bool := isInB a₁ (U₁ (66 + s₁)) (U₁ (76 + s₁) - 1)
def innS (U₁ : Nat → Int32) (s₁ r₁ : Nat) : Bool := decide (widS U₁ s₁ < widS U₁ r₁) || (decide (widS U₁ s₁ = widS U₁ r₁) && decide (r₁ < s₁))
def nicB (U₁ : Nat → Int32) (a₁ b₁ : Int32) : Nat → Int32
  | 0 => -1
  | s₁ + 1 => if (hasS U₁ s₁ a₁ && (decide (b₁ = -1) || innS U₁ (ix b₁) s₁) && (decide (nicB U₁ a₁ b₁ s₁ = -1) || innS U₁ s₁ (ix (nicB U₁ a₁ b₁ s₁)))) = true then nI s₁ else nicB U₁ a₁ b₁ s₁
def nicS (U₁ : Nat → Int32) (a₁ b₁ : Int32) : Int32 := nicB U₁ a₁ b₁ (ix (U₁ 2))
theorem nicB_or (U₁ : Nat → Int32) (a₁ b₁ : Int32) (k₁ : Nat) : nicB U₁ a₁ b₁ k₁ = -1 ∨ ∃ j₁, j₁ < k₁ ∧ nicB U₁ a₁ b₁ k₁ = nI j₁ := by
  induction k₁ with
  | zero => exact Or.inl rfl
  | succ k₁ ih₁ =>
    rw [nicB]
    split
    · exact Or.inr ⟨k₁, by omega, rfl⟩
    · rcases ih₁ with h₁ | ⟨j₁, h1₁, h2₁⟩
      · exact Or.inl h₁
      · exact Or.inr ⟨j₁, by omega, h2₁⟩
/-- none, or one of so many -/
def orN (x₁ : Int32) (n₁ : Nat) : Prop := x₁ = -1 ∨ ∃ j₁, j₁ < n₁ ∧ x₁ = nI j₁
theorem nicS_or (U₁ : Nat → Int32) (a₁ b₁ : Int32) : orN (nicS U₁ a₁ b₁) (ix (U₁ 2)) := nicB_or U₁ a₁ b₁ _
section RG₁
variable {K₁ N₁ : MK} {I₁ : MI} {L₁ : ML} {R₁ : MR} {m₁ : Nat}
theorem r_rowEnd {k₁ : Nat} {Q₁ : Int32 → Prop} (hM₁ : MDL K₁ N₁ R₁ m₁) (hU₁ : WFc (I₁ (m₁ + 2))) (hk₁ : k₁ < ix (I₁ (m₁ + 2) 1)) (h₁ : Q₁ (rowEnd (I₁ (m₁ + 2)) k₁)) : w_X12_rowEnd m₁ (nI k₁) K₁ N₁ I₁ L₁ R₁ Q₁ := by
  delta w_X12_rowEnd
  obtain ⟨⟨u1₁, u1b₁⟩, -⟩ := hU₁
  obtain ⟨c₁, hc₁⟩ : ∃ c₁, ix (I₁ (m₁ + 2) 1) = c₁ + 1 := ⟨ix (I₁ (m₁ + 2) 1) - 1, by omega⟩
  simp (disch := omega) only [hM₁.k, hM₁.r14, hM₁.k2, hM₁.n2, true_and, and_true, Option.some.injEq, exists_eq_left', exists_eq_left, Nat.reduceLT, Nat.not_lt_zero, Nat.zero_le, Nat.reduceLeDiff, Nat.reduceEqDiff, Nat.reduceAdd, Nat.reduceMul, vp_nI, vp_o, ix_nI, ix_o, addN, addNo, addoN, mulN, mulNo, muloN, nlt0, m1_ne, m1_ne', ltN, leN, eqN, ltNo, leNo, eqNo, oltN, oleN, oeqN, not_false_eq_true, not_true_eq_false, false_implies, true_implies, true_and, and_true, forall_const, implies_true]
  rw [u1₁, hc₁, nI_pred]
  simp (disch := omega) only [Nat.reduceLT, Nat.not_lt_zero, Nat.zero_le, Nat.reduceLeDiff, Nat.reduceEqDiff, Nat.reduceAdd, Nat.reduceMul, vp_nI, vp_o, ix_nI, ix_o, addN, addNo, addoN, mulN, mulNo, muloN, nlt0, m1_ne, m1_ne', ltN, leN, eqN, ltNo, leNo, eqNo, oltN, oleN, oeqN, not_false_eq_true, not_true_eq_false, false_implies, true_implies, true_and, and_true, forall_const, implies_true]
  rw [rowEnd, hc₁] at h₁
  refine ⟨fun e₁ => ⟨by omega, ?_⟩, fun e₁ => ?_⟩
  · rw [if_neg (by omega)] at h₁; exact h₁
  · rw [if_pos (by omega)] at h₁; exact h₁
theorem r_row {k₁ w₁ : Int32} {Q₁ : Int32 → MI → Prop} (hM₁ : MDL K₁ N₁ R₁ m₁) (hU₁ : WFc (I₁ (m₁ + 2))) (h₁ : Q₁ (rowS (I₁ (m₁ + 2)) k₁ w₁) (mup I₁ m₁ 0 0)) : w_X12_row m₁ k₁ w₁ K₁ N₁ I₁ L₁ R₁ Q₁ := by
  delta w_X12_row
  refine ⟨hM₁.k, fun I2₁ eI₁ => ?_⟩
  have g2₁ : I2₁ (m₁ + 2) = I₁ (m₁ + 2) := by rw [eI₁]; exact mup_ne (by omega)
  have hU2₁ : WFc (I2₁ (m₁ + 2)) := by rw [g2₁]; exact hU₁
  have u1₁ := hU₁.1
  simp (disch := omega) only [hM₁.k, hM₁.r14, hM₁.k2, hM₁.n2, true_and, and_true, Option.some.injEq, exists_eq_left', exists_eq_left, Nat.reduceLT, Nat.not_lt_zero, Nat.zero_le, Nat.reduceLeDiff, Nat.reduceEqDiff, Nat.reduceAdd, Nat.reduceMul, vp_nI, vp_o, ix_nI, ix_o, addN, addNo, addoN, mulN, mulNo, muloN, nlt0, m1_ne, m1_ne', ltN, leN, eqN, ltNo, leNo, eqNo, oltN, oleN, oeqN, not_false_eq_true, not_true_eq_false, false_implies, true_implies, true_and, and_true, forall_const, implies_true, g2₁]
  refine r_isIn ?_
  rw [isInB_pred u1₁.1 (by omega)]
  rw [← eI₁, rowS] at h₁
  refine ⟨fun e₁ => ?_, fun e₁ => ?_⟩
  · obtain ⟨j₁, hj₁, rfl⟩ := inN_t e₁ (by omega)
    rw [if_pos e₁, ix_nI (by omega)] at h₁
    simp (disch := omega) only [Nat.reduceLT, Nat.not_lt_zero, Nat.zero_le, Nat.reduceLeDiff, Nat.reduceEqDiff, Nat.reduceAdd, Nat.reduceMul, vp_nI, vp_o, ix_nI, ix_o, addN, addNo, addoN, mulN, mulNo, muloN, nlt0, m1_ne, m1_ne', ltN, leN, eqN, ltNo, leNo, eqNo, oltN, oleN, oeqN, not_false_eq_true, not_true_eq_false, false_implies, true_implies, true_and, and_true, forall_const, implies_true]
    refine ⟨fun e0₁ => ⟨by omega, ?_⟩, fun e0₁ => ⟨fun e1₁ => ⟨by omega, ?_⟩, fun e1₁ => ⟨fun e2₁ => ?_, fun e2₁ => ?_⟩⟩⟩
    · rw [if_pos e0₁] at h₁; exact h₁
    · rw [if_neg e0₁, if_pos e1₁] at h₁; exact h₁
    · rw [if_neg e0₁, if_neg e1₁, if_pos e2₁] at h₁
      refine r_rowEnd hM₁ hU2₁ (by rw [g2₁]; exact hj₁) ⟨by omega, ?_⟩
      rw [g2₁]; exact h₁
    · rw [if_neg e0₁, if_neg e1₁, if_neg e2₁] at h₁; exact h₁
  · rw [if_neg (by rw [e₁]; decide)] at h₁; exact h₁
theorem r_lineAt {a₁ : Int32} {Q₁ : Int32 → MI → Prop} (hM₁ : MDL K₁ N₁ R₁ m₁) (hU₁ : WFc (I₁ (m₁ + 2))) (h₁ : Q₁ (if adr (I₁ (m₁ + 2)) a₁ = true then lineOf (I₁ (m₁ + 2)) a₁ else -1) (mup I₁ m₁ 0 0)) : w_X12_lineAt m₁ a₁ K₁ N₁ I₁ L₁ R₁ Q₁ := by
  delta w_X12_lineAt
  refine ⟨hM₁.k, fun I2₁ eI₁ => ?_⟩
  have g2₁ : I2₁ (m₁ + 2) = I₁ (m₁ + 2) := by rw [eI₁]; exact mup_ne (by omega)
  rw [← eI₁] at h₁
  refine r_isAddress hM₁ ?_
  rw [g2₁]
  refine ⟨fun e₁ => ?_, fun e₁ => r_lineOf hM₁ (by rw [g2₁]; exact hU₁) ?_⟩
  · rw [e₁] at h₁; exact h₁
  · rw [g2₁]; rw [e₁] at h₁; exact h₁
theorem r_widthOf {s₁ : Nat} {Q₁ : Int32 → Prop} (hM₁ : MDL K₁ N₁ R₁ m₁) (hs₁ : s₁ < 10) (h₁ : Q₁ (widS (I₁ (m₁ + 2)) s₁)) : w_X12_widthOf m₁ (nI s₁) K₁ N₁ I₁ L₁ R₁ Q₁ := by
  delta w_X12_widthOf
  simp (disch := omega) only [hM₁.k, hM₁.r14, hM₁.k2, hM₁.n2, true_and, and_true, Option.some.injEq, exists_eq_left', exists_eq_left, Nat.reduceLT, Nat.not_lt_zero, Nat.zero_le, Nat.reduceLeDiff, Nat.reduceEqDiff, Nat.reduceAdd, Nat.reduceMul, vp_nI, vp_o, ix_nI, ix_o, addN, addNo, addoN, mulN, mulNo, muloN, nlt0, m1_ne, m1_ne', ltN, leN, eqN, ltNo, leNo, eqNo, oltN, oleN, oeqN, not_false_eq_true, not_true_eq_false, false_implies, true_implies, true_and, and_true, forall_const, implies_true]
  exact ⟨by omega, by omega, h₁⟩
theorem r_hasAddress {s₁ : Nat} {a₁ : Int32} {Q₁ : Bool → Prop} (hM₁ : MDL K₁ N₁ R₁ m₁) (hs₁ : s₁ < 10) (h₁ : Q₁ (hasS (I₁ (m₁ + 2)) s₁ a₁)) : w_X12_hasAddress m₁ (nI s₁) a₁ K₁ N₁ I₁ L₁ R₁ Q₁ := by
  delta w_X12_hasAddress
  simp (disch := omega) only [hM₁.k, hM₁.r14, hM₁.k2, hM₁.n2, true_and, and_true, Option.some.injEq, exists_eq_left', exists_eq_left, Nat.reduceLT, Nat.not_lt_zero, Nat.zero_le, Nat.reduceLeDiff, Nat.reduceEqDiff, Nat.reduceAdd, Nat.reduceMul, vp_nI, vp_o, ix_nI, ix_o, addN, addNo, addoN, mulN, mulNo, muloN, nlt0, m1_ne, m1_ne', ltN, leN, eqN, ltNo, leNo, eqNo, oltN, oleN, oeqN, not_false_eq_true, not_true_eq_false, false_implies, true_implies, true_and, and_true, forall_const, implies_true]
  exact ⟨by omega, by omega, r_isIn h₁⟩
theorem r_isInner {s₁ r₁ : Nat} {Q₁ : Bool → Prop} (hM₁ : MDL K₁ N₁ R₁ m₁) (hs₁ : s₁ < 10) (hr₁ : r₁ < 10) (h₁ : Q₁ (innS (I₁ (m₁ + 2)) s₁ r₁)) : w_X12_isInner m₁ (nI s₁) (nI r₁) K₁ N₁ I₁ L₁ R₁ Q₁ := by
  delta w_X12_isInner
  refine ⟨hM₁.k, r_widthOf hM₁ hs₁ (r_widthOf hM₁ hr₁ ⟨fun e₁ => ?_, fun e₁ => r_widthOf hM₁ hs₁ (r_widthOf hM₁ hr₁ ⟨fun e2₁ => ?_, fun e2₁ => ⟨fun e3₁ => ?_, fun e3₁ => ?_⟩⟩)⟩)⟩
  · rw [show innS (I₁ (m₁ + 2)) s₁ r₁ = true by simp [innS, e₁]] at h₁; exact h₁
  · rw [show innS (I₁ (m₁ + 2)) s₁ r₁ = false by simp [innS, e₁, e2₁]] at h₁; exact h₁
  · rw [leN (by omega) (by omega)] at e3₁
    rw [show innS (I₁ (m₁ + 2)) s₁ r₁ = false by simp [innS, e₁]; intro _; omega] at h₁; exact h₁
  · rw [leN (by omega) (by omega)] at e3₁
    rw [show innS (I₁ (m₁ + 2)) s₁ r₁ = true by simp [innS, e2₁]; omega] at h₁; exact h₁
theorem r_nextInChain {a₁ b₁ : Int32} {Q₁ : Int32 → Prop} (hM₁ : MDL K₁ N₁ R₁ m₁) (hU₁ : WFc (I₁ (m₁ + 2))) (hb₁ : orN b₁ 10) (h₁ : Q₁ (nicS (I₁ (m₁ + 2)) a₁ b₁)) : w_X12_nextInChain m₁ a₁ b₁ K₁ N₁ I₁ L₁ R₁ Q₁ := by
  delta w_X12_nextInChain w_X12_nextInChain_5
  have u2₁ := hU₁.2.1
  refine ⟨fun n₁ x0₁ x1₁ x2₁ x3₁ x4₁ => x0₁ = m₁ ∧ x1₁ = a₁ ∧ x2₁ = b₁ ∧ ∃ s₁, s₁ ≤ ix (I₁ (m₁ + 2) 2) ∧ n₁ = ix (I₁ (m₁ + 2) 2) - s₁ ∧ x4₁ = nI s₁ ∧ x3₁ = nicB (I₁ (m₁ + 2)) a₁ b₁ s₁, ⟨_, rfl, rfl, rfl, 0, Nat.zero_le _, rfl, rfl, rfl⟩, ?_⟩
  rintro n₁ x0₁ x1₁ x2₁ x3₁ x4₁ ⟨rfl, rfl, rfl, s₁, hs₁, hn₁, rfl, rfl⟩
  refine ⟨hM₁.k, _, hM₁.r14, hM₁.k2, by rw [hM₁.n2]; exact vp_c (by omega) (by omega), fun e₁ => ?_, fun e₁ => ?_⟩
  · rw [ix_c (by omega), u2₁.1, leN (by omega) (by omega)] at e₁
    rw [nicS, show ix (I₁ (x0₁ + 2) 2) = s₁ by omega] at h₁; exact h₁
  · rw [ix_c (by omega), u2₁.1, leN (by omega) (by omega)] at e₁
    have hs10 : s₁ < 10 := by omega
    have back : ∀ {z₁ v₁ : Int32}, v₁ = nI s₁ + 1 → z₁ = nicB (I₁ (x0₁ + 2)) x1₁ x2₁ (s₁ + 1) → ∃ n1₁, n1₁ < n₁ ∧ (fun n₁ y0₁ y1₁ y2₁ y3₁ y4₁ => y0₁ = x0₁ ∧ y1₁ = x1₁ ∧ y2₁ = x2₁ ∧ ∃ s₁, s₁ ≤ ix (I₁ (x0₁ + 2) 2) ∧ n₁ = ix (I₁ (x0₁ + 2) 2) - s₁ ∧ y4₁ = nI s₁ ∧ y3₁ = nicB (I₁ (x0₁ + 2)) x1₁ x2₁ s₁) n1₁ x0₁ x1₁ x2₁ z₁ v₁ := fun ev₁ ez₁ => ⟨ix (I₁ (x0₁ + 2) 2) - (s₁ + 1), by omega, rfl, rfl, rfl, s₁ + 1, by omega, rfl, by rw [ev₁]; exact nI_1 s₁, ez₁⟩
    have h41₁ : hasS (I₁ (x0₁ + 2)) s₁ x1₁ = true → (decide (x2₁ = -1) || innS (I₁ (x0₁ + 2)) (ix x2₁) s₁) = true → w_X12_nextInChain_41 x0₁ x1₁ x2₁ (nicB (I₁ (x0₁ + 2)) x1₁ x2₁ s₁) (nI s₁) K₁ N₁ I₁ L₁ R₁ (fun y0₁ y1₁ y2₁ y3₁ y4₁ => ∃ n1₁, n1₁ < n₁ ∧ (fun n₁ y0₁ y1₁ y2₁ y3₁ y4₁ => y0₁ = x0₁ ∧ y1₁ = x1₁ ∧ y2₁ = x2₁ ∧ ∃ s₁, s₁ ≤ ix (I₁ (x0₁ + 2) 2) ∧ n₁ = ix (I₁ (x0₁ + 2) 2) - s₁ ∧ y4₁ = nI s₁ ∧ y3₁ = nicB (I₁ (x0₁ + 2)) x1₁ x2₁ s₁) n1₁ y0₁ y1₁ y2₁ y3₁ y4₁) Q₁ := by
      intro g1₁ g2₁
      delta w_X12_nextInChain_41
      refine ⟨fun ez₁ v₁ ev₁ => back ev₁ ?_, fun ez₁ => ⟨hM₁.k, ?_⟩⟩
      · rw [nicB, g1₁, g2₁, ez₁]; rfl
      · rcases nicB_or (I₁ (x0₁ + 2)) x1₁ x2₁ s₁ with e1₁ | ⟨j₁, hj₁, e1₁⟩
        · exact absurd e1₁ ez₁
        · rw [e1₁]
          refine r_isInner hM₁ hs10 (by omega) ⟨fun ei₁ v₁ ev₁ => ?_, fun ei₁ v₁ ev₁ => back ev₁ ?_⟩
          · rw [← e1₁]
            refine back ev₁ ?_
            rw [nicB, g1₁, g2₁, e1₁, ix_nI (by omega), ei₁]
            simp [m1_ne (show j₁ < 2147483648 by omega)]
          · rw [nicB, g1₁, g2₁, e1₁, ix_nI (by omega), ei₁]; simp
    refine r_hasAddress hM₁ hs10 ⟨fun eh₁ v₁ ev₁ => back ev₁ ?_, fun eh₁ => ⟨fun eb₁ => h41₁ eh₁ (by rw [eb₁]; rfl), fun eb₁ => ?_⟩⟩
    · rw [nicB, eh₁]; rfl
    · rcases hb₁ with e1₁ | ⟨j₁, hj₁, e1₁⟩
      · exact absurd e1₁ eb₁
      · have g3₁ : ix x2₁ = j₁ := by rw [e1₁, ix_nI (by omega)]
        have g4₁ : w_X12_isInner x0₁ (nI j₁) (nI s₁) K₁ N₁ I₁ L₁ R₁ = w_X12_isInner x0₁ x2₁ (nI s₁) K₁ N₁ I₁ L₁ R₁ := by rw [e1₁]
        rw [← g4₁]
        refine r_isInner hM₁ hj₁ hs10 ⟨fun ei₁ v₁ ev₁ => back ev₁ ?_, fun ei₁ => h41₁ eh₁ (by rw [g3₁, ei₁]; simp)⟩
        rw [nicB, eh₁, g3₁, ei₁]
        simp [eb₁]
end RG₁
