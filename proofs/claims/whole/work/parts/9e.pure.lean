/-! ===== what a line comes to is a unit again, and the tokens go on ===== -/
section UN₁
variable {B₁ : Nat → Nat} {n₁ lm₁ p₁ : Nat} {U₁ : Nat → Int32} {NM₁ : Nat → List Nat}
theorem nmS_0 {lo₁ hi₁ : Nat} (h₁ : nmS₁ B₁ n₁ lm₁ p₁ lo₁ hi₁ = 0) : tkK₁ B₁ n₁ lm₁ p₁ = 2 ∧ lo₁ ≤ tkV₁ B₁ n₁ p₁ ∧ tkV₁ B₁ n₁ p₁ ≤ hi₁ := by
  rw [nmS₁] at h₁
  split at h₁
  · rename_i z₁
    split at h₁
    · rename_i y₁; exact ⟨z₁, y₁⟩
    · omega
  · omega
theorem pNum_r {lo₁ hi₁ : Nat} {k₁ : LRES} {z₁ : (Nat → Int32) × (Nat → List Nat) × Nat} (h₁ : pNum B₁ n₁ lm₁ p₁ lo₁ hi₁ k₁ = .inr z₁) : nmS₁ B₁ n₁ lm₁ p₁ lo₁ hi₁ = 0 ∧ k₁ = .inr z₁ := by
  rw [pNum] at h₁
  split at h₁
  · cases h₁
  · rename_i y₁; exact ⟨Decidable.not_not.mp y₁, h₁⟩
theorem pNew_r {k₁ : LRES} {z₁ : (Nat → Int32) × (Nat → List Nat) × Nat} (h₁ : pNew B₁ n₁ lm₁ U₁ NM₁ p₁ k₁ = .inr z₁) : isNm B₁ n₁ lm₁ p₁ = true ∧ wdOK (tkW₁ B₁ n₁ p₁) ∧ k₁ = .inr z₁ := by
  rw [pNew] at h₁
  split at h₁
  · cases h₁
  · rename_i y₁
    split at h₁
    · cases h₁
    · have e₁ : isNm B₁ n₁ lm₁ p₁ = true := by simpa using y₁
      have kk₁ : tkK₁ B₁ n₁ lm₁ p₁ = 1 := by rw [isNm, Bool.and_eq_true, decide_eq_true_eq] at e₁; exact e₁.1
      exact ⟨e₁, tkW_ok kk₁, h₁⟩
theorem pTold_r {b₁ c₁ : Nat} {k₁ : LRES} {z₁ : (Nat → Int32) × (Nat → List Nat) × Nat} (h₁ : pTold B₁ n₁ lm₁ NM₁ b₁ c₁ p₁ k₁ = .inr z₁) : (∃ s₁, s₁ < c₁ ∧ fndS NM₁ b₁ c₁ (tkW₁ B₁ n₁ p₁) = nI s₁) ∧ k₁ = .inr z₁ := by
  rw [pTold] at h₁
  split at h₁
  · cases h₁
  · split at h₁
    · cases h₁
    · rename_i y₁
      obtain ⟨s₁, hs₁, e₁⟩ := (fndS_or NM₁ b₁ c₁ (tkW₁ B₁ n₁ p₁)).resolve_left y₁
      exact ⟨⟨s₁, hs₁, e₁⟩, h₁⟩
theorem tkN_ge : p₁ ≤ tkN₁ B₁ n₁ lm₁ p₁ := by
  have h1₁ := skp_ge (P₁ := isBl) (B₁ := B₁) (n₁ := n₁) (p₁ := p₁)
  have h2₁ := skp_ge (P₁ := isRn) (B₁ := B₁) (n₁ := n₁) (p₁ := skpS isBl B₁ n₁ p₁)
  rw [tkN₁]
  split
  · exact h1₁
  · split
    · exact h1₁
    · split
      · rw [tkE₁]; omega
      · omega
theorem tkN_gt (h1₁ : 1 ≤ tkK₁ B₁ n₁ lm₁ p₁) (h3₁ : tkK₁ B₁ n₁ lm₁ p₁ ≤ 3) : p₁ < tkN₁ B₁ n₁ lm₁ p₁ ∧ p₁ < n₁ ∧ (lm₁ < n₁ → p₁ < lm₁) := by
  have g1₁ := skp_ge (P₁ := isBl) (B₁ := B₁) (n₁ := n₁) (p₁ := p₁)
  rw [tkK₁] at h1₁ h3₁
  rw [tkN₁]
  by_cases z1₁ : lm₁ < n₁ ∧ lm₁ ≤ skpS isBl B₁ n₁ p₁
  · rw [if_pos z1₁] at h3₁; omega
  · rw [if_neg z1₁] at h1₁ h3₁ ⊢
    by_cases z2₁ : n₁ ≤ skpS isBl B₁ n₁ p₁
    · rw [if_pos z2₁] at h1₁; omega
    · rw [if_neg z2₁]
      by_cases z3₁ : isRn (B₁ (skpS isBl B₁ n₁ p₁)) = true
      · rw [if_pos z3₁, tkE₁, skp_go (by omega) z3₁]
        have g2₁ := skp_ge (P₁ := isRn) (B₁ := B₁) (n₁ := n₁) (p₁ := skpS isBl B₁ n₁ p₁ + 1)
        omega
      · rw [if_neg z3₁]; omega
theorem pSize_ok {lines : Nat} {U'₁ : Nat → Int32} {NM'₁ : Nat → List Nat} {p'₁ : Nat} (hW₁ : WFU₁ U₁) (hN₁ : NOK₁ U₁ NM₁) (hz₁ : lines = 0 → ∀ k₁, 1 ≤ k₁ → k₁ < 6 → ix (U₁ k₁) = 0) (h₁ : pSize B₁ n₁ lm₁ lines U₁ NM₁ p₁ = .inr (U'₁, NM'₁, p'₁)) : WFU₁ U'₁ ∧ NOK₁ U'₁ NM'₁ ∧ tkN₁ B₁ n₁ lm₁ p₁ ≤ p'₁ := by
  rw [pSize] at h₁
  split at h₁
  · cases h₁
  · rename_i z₁
    split at h₁
    · cases h₁
    · rename_i y₁
      obtain ⟨-, v1₁, v2₁⟩ := nmS_0 (Decidable.not_not.mp y₁)
      have n1₁ := hz₁ (by omega)
      injection h₁ with h₁
      injection h₁ with h1₁ h2₁
      injection h2₁ with h2₁ h3₁
      subst h1₁ h2₁ h3₁
      have cg₁ : ∀ k₁, k₁ ≠ 0 → vst₁ U₁ 0 (nI (tkV₁ B₁ n₁ (tkN₁ B₁ n₁ lm₁ p₁))) k₁ = U₁ k₁ := fun k₁ hk₁ => vst_n hk₁
      obtain ⟨c1₁, c2₁, c3₁, c4₁, c5₁, c0₁⟩ := hW₁.1
      have z1₁ := n1₁ 1 (by decide) (by decide)
      have z2₁ := n1₁ 2 (by decide) (by decide)
      have z3₁ := n1₁ 3 (by decide) (by decide)
      have z4₁ := n1₁ 4 (by decide) (by decide)
      have z5₁ := n1₁ 5 (by decide) (by decide)
      refine ⟨⟨⟨?_, ?_, ?_, ?_, ?_, ?_⟩, ⟨fun i₁ j₁ _ hj₁ => ?_, fun k₁ hk₁ => ?_⟩, fun k₁ hk₁ => ?_, fun k₁ hk₁ => ?_, fun k₁ hk₁ => ?_, fun k₁ hk₁ => ?_, fun k₁ hk₁ => ?_, fun k₁ hk₁ => ?_⟩, NOK_cg hN₁ (cg₁ 2 (by decide)) (cg₁ 3 (by decide)) (cg₁ 4 (by decide)), tkN_ge⟩
      · rw [cg₁ 1 (by decide)]; exact c1₁
      · rw [cg₁ 2 (by decide)]; exact c2₁
      · rw [cg₁ 3 (by decide)]; exact c3₁
      · rw [cg₁ 4 (by decide)]; exact c4₁
      · rw [cg₁ 5 (by decide)]; exact c5₁
      · rw [vst_a, ix_nI (by omega)]; exact ⟨rfl, v1₁, v2₁⟩
      · rw [cg₁ 1 (by decide)] at hj₁; omega
      · rw [cg₁ 1 (by decide)] at hk₁; omega
      · rw [cg₁ 2 (by decide)] at hk₁; omega
      · rw [cg₁ 3 (by decide)] at hk₁; omega
      · rw [cg₁ 4 (by decide)] at hk₁; omega
      · rw [cg₁ 4 (by decide)] at hk₁; omega
      · rw [cg₁ 5 (by decide)] at hk₁; omega
      · rw [cg₁ 5 (by decide)] at hk₁; omega
theorem pRow_ok {U'₁ : Nat → Int32} {NM'₁ : Nat → List Nat} {p'₁ : Nat} (hW₁ : WFU₁ U₁) (hN₁ : NOK₁ U₁ NM₁) (h₁ : pRow B₁ n₁ lm₁ U₁ NM₁ p₁ = .inr (U'₁, NM'₁, p'₁)) : WFU₁ U'₁ ∧ NOK₁ U'₁ NM'₁ ∧ tkN₁ B₁ n₁ lm₁ p₁ ≤ p'₁ := by
  have n0₁ := hW₁.1.2.2.2.2.2.2
  have n1₁ := hW₁.1.1.2
  obtain ⟨q1₁, -⟩ := posS_p (U₁ := U₁) (a₁ := nI (tkV₁ B₁ n₁ (tkN₁ B₁ n₁ lm₁ p₁)))
  rw [pRow] at h₁
  split at h₁
  · cases h₁
  · rename_i e₁
    split at h₁
    · cases h₁
    · rename_i y₁
      split at h₁
      · cases h₁
      · rename_i hno₁
        split at h₁
        · cases h₁
        · rename_i y2₁
          obtain ⟨-, v1₁, v2₁⟩ := nmS_0 (Decidable.not_not.mp y₁)
          obtain ⟨-, w1₁, w2₁⟩ := nmS_0 (Decidable.not_not.mp y2₁)
          injection h₁ with h₁
          injection h₁ with h1₁ h2₁
          injection h2₁ with h2₁ h3₁
          subst h1₁ h2₁ h3₁
          exact ⟨WFU_ins hW₁ (by omega) (by omega) (by simpa using hno₁) w1₁ w2₁, NOK_cg hN₁ (insU_o q1₁ (by omega) (by decide) (by decide)) (insU_o q1₁ (by omega) (by decide) (by decide)) (insU_o q1₁ (by omega) (by decide) (by decide)), Nat.le_trans tkN_ge tkN_ge⟩
theorem pScope_ok {U'₁ : Nat → Int32} {NM'₁ : Nat → List Nat} {p'₁ : Nat} (hW₁ : WFU₁ U₁) (hN₁ : NOK₁ U₁ NM₁) (h₁ : pScope B₁ n₁ lm₁ U₁ NM₁ p₁ = .inr (U'₁, NM'₁, p'₁)) : WFU₁ U'₁ ∧ NOK₁ U'₁ NM'₁ ∧ tkN₁ B₁ n₁ lm₁ p₁ ≤ p'₁ := by
  have n0₁ := hW₁.1.2.2.2.2.2.2
  have n2₁ := hW₁.1.2.1.2
  have n3₁ := hW₁.1.2.2.1.2
  rw [pScope] at h₁
  split at h₁
  · cases h₁
  · obtain ⟨-, hw₁, h₁⟩ := pNew_r h₁
    obtain ⟨a1₁, h₁⟩ := pNum_r h₁
    obtain ⟨a2₁, h₁⟩ := pNum_r h₁
    split at h₁
    · cases h₁
    · obtain ⟨a3₁, h₁⟩ := pNum_r h₁
      obtain ⟨-, -, -⟩ := nmS_0 a1₁
      obtain ⟨-, v1₁, v2₁⟩ := nmS_0 a2₁
      obtain ⟨-, -, v3₁⟩ := nmS_0 a3₁
      injection h₁ with h₁
      injection h₁ with h1₁ h2₁
      injection h2₁ with h2₁ h3₁
      subst h1₁ h2₁ h3₁
      refine ⟨WFU_scp hW₁ (by omega) v1₁ v2₁ v3₁, ⟨fun k₁ hk₁ => ?_, fun k₁ hk₁ => ?_, fun k₁ hk₁ => ?_⟩, Nat.le_trans tkN_ge (Nat.le_trans tkN_ge (Nat.le_trans tkN_ge tkN_ge))⟩
      · rw [scpU, vst_a, ix_nI (by omega)] at hk₁
        by_cases z₁ : k₁ = ix (U₁ 2)
        · rw [Nat.zero_add, z₁, nmU_a]; exact hw₁
        · rw [nmU_n (by omega)]; exact hN₁.1 k₁ (by omega)
      · rw [scpU, vst_n (by decide), vst_n (by omega), vst_n (by omega), vst_n (by omega)] at hk₁
        rw [nmU_n (by omega)]; exact hN₁.2.1 k₁ hk₁
      · rw [scpU, vst_n (by decide), vst_n (by omega), vst_n (by omega), vst_n (by omega)] at hk₁
        rw [nmU_n (by omega)]; exact hN₁.2.2 k₁ hk₁
theorem pType_ok {U'₁ : Nat → Int32} {NM'₁ : Nat → List Nat} {p'₁ : Nat} (hW₁ : WFU₁ U₁) (hN₁ : NOK₁ U₁ NM₁) (h₁ : pType B₁ n₁ lm₁ U₁ NM₁ p₁ = .inr (U'₁, NM'₁, p'₁)) : WFU₁ U'₁ ∧ NOK₁ U'₁ NM'₁ ∧ tkN₁ B₁ n₁ lm₁ p₁ ≤ p'₁ := by
  have n2₁ := hW₁.1.2.1.2
  have n3₁ := hW₁.1.2.2.1.2
  rw [pType] at h₁
  split at h₁
  · cases h₁
  · obtain ⟨-, hw₁, h₁⟩ := pNew_r h₁
    obtain ⟨a1₁, h₁⟩ := pNum_r h₁
    obtain ⟨a2₁, h₁⟩ := pNum_r h₁
    split at h₁
    · obtain ⟨-, -, v0₁⟩ := nmS_0 a1₁
      obtain ⟨-, v1₁, v2₁⟩ := nmS_0 a2₁
      injection h₁ with h₁
      injection h₁ with h1₁ h2₁
      injection h2₁ with h2₁ h3₁
      subst h1₁ h2₁ h3₁
      have hs₁ : ∃ s₁ : Nat, s₁ ≤ 1 ∧ (if isWd B₁ n₁ lm₁ ((tkN₁ B₁ n₁ lm₁ (tkN₁ B₁ n₁ lm₁ (tkN₁ B₁ n₁ lm₁ (tkN₁ B₁ n₁ lm₁ (p₁)))))) 28 = true then (1 : Int32) else 0) = nI s₁ := by
        split
        · exact ⟨1, by decide, rfl⟩
        · exact ⟨0, by decide, rfl⟩
      obtain ⟨s₁, hs1₁, es₁⟩ := hs₁
      rw [es₁]
      refine ⟨WFU_ty hW₁ (by omega) v1₁ (by omega) hs1₁, ⟨fun k₁ hk₁ => ?_, fun k₁ hk₁ => ?_, fun k₁ hk₁ => ?_⟩, Nat.le_trans tkN_ge (Nat.le_trans tkN_ge (Nat.le_trans tkN_ge tkN_ge))⟩
      · rw [tyU₁, vst_n (by decide), vst_n (by omega), vst_n (by omega), vst_n (by omega)] at hk₁
        rw [nmU_n (by omega)]; exact hN₁.1 k₁ hk₁
      · rw [tyU₁, vst_a, ix_nI (by omega)] at hk₁
        by_cases z₁ : k₁ = ix (U₁ 3)
        · rw [z₁, nmU_a]; exact hw₁
        · rw [nmU_n (by omega)]; exact hN₁.2.1 k₁ (by omega)
      · rw [tyU₁, vst_n (by decide), vst_n (by omega), vst_n (by omega), vst_n (by omega)] at hk₁
        rw [nmU_n (by omega)]; exact hN₁.2.2 k₁ hk₁
    · cases h₁
theorem pVar_ok {U'₁ : Nat → Int32} {NM'₁ : Nat → List Nat} {p'₁ : Nat} (hW₁ : WFU₁ U₁) (hN₁ : NOK₁ U₁ NM₁) (h₁ : pVar B₁ n₁ lm₁ U₁ NM₁ p₁ = .inr (U'₁, NM'₁, p'₁)) : WFU₁ U'₁ ∧ NOK₁ U'₁ NM'₁ ∧ tkN₁ B₁ n₁ lm₁ p₁ ≤ p'₁ := by
  have n2₁ := hW₁.1.2.1.2
  have n3₁ := hW₁.1.2.2.1.2
  have n4₁ := hW₁.1.2.2.2.1.2
  rw [pVar] at h₁
  split at h₁
  · cases h₁
  · obtain ⟨-, hw₁, h₁⟩ := pNew_r h₁
    obtain ⟨⟨s₁, hs₁, es₁⟩, h₁⟩ := pTold_r h₁
    obtain ⟨⟨t₁, ht₁, et₁⟩, h₁⟩ := pTold_r h₁
    rw [es₁, et₁] at h₁
    injection h₁ with h₁
    injection h₁ with h1₁ h2₁
    injection h2₁ with h2₁ h3₁
    subst h1₁ h2₁ h3₁
    refine ⟨WFU_va hW₁ (by omega) hs₁ ht₁, ⟨fun k₁ hk₁ => ?_, fun k₁ hk₁ => ?_, fun k₁ hk₁ => ?_⟩, Nat.le_trans tkN_ge (Nat.le_trans tkN_ge tkN_ge)⟩
    · rw [vaU₁, vst_n (by decide), vst_n (by omega), vst_n (by omega)] at hk₁
      rw [nmU_n (by omega)]; exact hN₁.1 k₁ hk₁
    · rw [vaU₁, vst_n (by decide), vst_n (by omega), vst_n (by omega)] at hk₁
      rw [nmU_n (by omega)]; exact hN₁.2.1 k₁ hk₁
    · rw [vaU₁, vst_a, ix_nI (by omega)] at hk₁
      by_cases z₁ : k₁ = ix (U₁ 4)
      · rw [z₁, nmU_a]; exact hw₁
      · rw [nmU_n (by omega)]; exact hN₁.2.2 k₁ (by omega)
theorem pOp_r {c₁ d₁ : Nat} {kk₁ : Int32 → Nat → LRES} {z₁ : (Nat → Int32) × (Nat → List Nat) × Nat} (h₁ : pOp₁ B₁ n₁ lm₁ c₁ d₁ p₁ kk₁ = .inr z₁) : ∃ r₁ p'₁, kk₁ r₁ p'₁ = .inr z₁ ∧ opC₁ r₁ ∧ opOK r₁ d₁ ∧ c₁ ≠ 8 ∧ p₁ ≤ p'₁ := by
  rw [pOp₁] at h₁
  split at h₁
  · cases h₁
  · rename_i o0₁
    split at h₁
    · cases h₁
    · rename_i c8₁
      rcases opN_or (B₁ := B₁) (n₁ := n₁) (lm₁ := lm₁) (p₁ := p₁) with ⟨e₁, -⟩ | ⟨e₁, h2₁⟩ | ⟨q₁, hq₁, e₁, -⟩
      · exact absurd e₁ o0₁
      · rw [if_pos e₁] at h₁
        have hv₁ := tkV_lt h2₁
        exact ⟨_, _, h₁, Or.inl ⟨_, hv₁, rfl⟩, by rw [opOK, if_pos (opn_lt (by omega))]; trivial, c8₁, tkN_ge⟩
      · rw [if_neg (by omega)] at h₁
        rcases q₁ with - | q₁
        · rw [if_pos e₁] at h₁
          obtain ⟨a₁, h₁⟩ := pNum_r h₁
          obtain ⟨-, -, v2₁⟩ := nmS_0 a₁
          exact ⟨_, _, h₁, Or.inr (Or.inl ⟨_, by omega, rfl⟩), by rw [opOK, if_pos (opn_lt (by omega))]; trivial, c8₁, Nat.le_trans tkN_ge tkN_ge⟩
        · rw [if_neg (by omega)] at h₁
          split at h₁
          · rename_i hb₁
            refine ⟨_, _, h₁, ?_, opB_iff.mp hb₁, c8₁, tkN_ge⟩
            rw [e₁, show 1007 + (2 + (q₁ + 1)) = 1010 + q₁ by omega]
            obtain rfl | rfl | rfl | rfl | rfl | rfl : q₁ = 0 ∨ q₁ = 1 ∨ q₁ = 2 ∨ q₁ = 3 ∨ q₁ = 4 ∨ q₁ = 5 := by omega
            · exact Or.inr (Or.inr (Or.inl rfl))
            · exact Or.inr (Or.inr (Or.inr (Or.inl rfl)))
            · exact Or.inr (Or.inr (Or.inr (Or.inr (Or.inl rfl))))
            · exact Or.inr (Or.inr (Or.inr (Or.inr (Or.inr (Or.inl rfl)))))
            · exact Or.inr (Or.inr (Or.inr (Or.inr (Or.inr (Or.inr (Or.inl rfl))))))
            · exact Or.inr (Or.inr (Or.inr (Or.inr (Or.inr (Or.inr (Or.inr rfl))))))
          · cases h₁
/-- what the ops come to -/
theorem pOps_ok {w₁ : Nat} (hw₁ : w₁ < 16) : ∀ (f₁ : Nat) (U₁ : Nat → Int32) (c₁ d₁ p₁ : Nat) (U'₁ : Nat → Int32) (NM'₁ : Nat → List Nat) (p'₁ : Nat), c₁ ≤ 8 → (1 ≤ c₁ ∨ opN₁ B₁ n₁ lm₁ p₁ ≠ 0) → opP₁ (fun j₁ => U₁ (214 + 8 * w₁ + j₁)) c₁ d₁ → U₁ (198 + w₁) = nI c₁ → U₁ (182 + w₁) = 0 → pOps B₁ n₁ lm₁ NM₁ w₁ f₁ U₁ c₁ d₁ p₁ = .inr (U'₁, NM'₁, p'₁) → NM'₁ = NM₁ ∧ p₁ ≤ p'₁ ∧ ∃ U2₁ c2₁ k₁, U'₁ = vst₁ (vst₁ U2₁ (182 + w₁) (nI k₁)) 5 (nI (w₁ + 1)) ∧ k₁ ≤ 1 ∧ opW₁ (fun j₁ => U2₁ (214 + 8 * w₁ + j₁)) c2₁ ∧ c2₁ ≤ 8 ∧ opX₁ w₁ c2₁ U2₁ U₁
  | 0, _, _, _, _, _, _, _, _, _, _, _, _, h₁ => by rw [pOps] at h₁; cases h₁
  | f₁ + 1, U₁, c₁, d₁, p₁, U'₁, NM'₁, p'₁, hc₁, hc1₁, hO₁, h198, h182, h₁ => by
    rw [pOps] at h₁
    split at h₁
    · rename_i o0₁
      have hc1₁ : 1 ≤ c₁ := hc1₁.resolve_right (fun z₁ => z₁ o0₁)
      split at h₁
      · injection h₁ with h₁
        injection h₁ with h1₁ h2₁
        injection h2₁ with h2₁ h3₁
        subst h1₁ h2₁ h3₁
        exact ⟨rfl, tkN_ge, U₁, c₁, 1, rfl, by decide, opP_W hO₁ hc1₁, hc₁, fun _ _ _ => rfl, h198⟩
      · injection h₁ with h₁
        injection h₁ with h1₁ h2₁
        injection h2₁ with h2₁ h3₁
        subst h1₁ h2₁ h3₁
        exact ⟨rfl, Nat.le_refl p₁, U₁, c₁, 0, by rw [show nI 0 = 0 from rfl, vst_id h182], by decide, opP_W hO₁ hc1₁, hc₁, fun _ _ _ => rfl, h198⟩
    · obtain ⟨r₁, q₁, h₁, hC₁, hOK₁, hc8₁, hpq₁⟩ := pOp_r h₁
      have hc8₁ : c₁ < 8 := by omega
      obtain ⟨e₁, hp2₁, U2₁, c2₁, k₁, a1₁, a2₁, a3₁, a4₁, a5₁⟩ := pOps_ok hw₁ f₁ (opsU U₁ w₁ c₁ r₁) (c₁ + 1) (opD₁ r₁ d₁) q₁ U'₁ NM'₁ p'₁ (by omega) (Or.inl (by omega)) (opP_s hO₁ (fun j₁ hj₁ => by rw [opsU_c hc8₁ hw₁, if_neg (by omega)]) (by rw [opsU_c hc8₁ hw₁, if_pos rfl]) hC₁ hOK₁) (by rw [opsU, vst_a]) (by rw [opsU, vst_n (by omega), vst_n (by omega)]; exact h182) h₁
      exact ⟨e₁, Nat.le_trans hpq₁ hp2₁, U2₁, c2₁, k₁, a1₁, a2₁, a3₁, a4₁, opX_t a5₁ (opsU_x hc8₁ hw₁)⟩
end UN₁
