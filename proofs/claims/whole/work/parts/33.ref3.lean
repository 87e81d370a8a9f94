/-! ===== the reference's var, chainAt, chainLine ===== -/
section RG₁
variable {K₁ N₁ : MK} {I₁ : MI} {L₁ : ML} {R₁ : MR} {m₁ : Nat}
theorem r_var {v₁ w₁ : Int32} {Q₁ : Int32 → MI → Prop} (hM₁ : MDL K₁ N₁ R₁ m₁) (hU₁ : WFc (I₁ (m₁ + 2))) (ht₁ : WFvt (I₁ (m₁ + 2))) (h₁ : Q₁ (varSp (I₁ (m₁ + 2)) v₁ w₁) (mup I₁ m₁ 0 0)) : w_X12_var m₁ v₁ w₁ K₁ N₁ I₁ L₁ R₁ Q₁ := by
  delta w_X12_var
  refine ⟨hM₁.k, fun I2₁ eI₁ => ?_⟩
  have g2₁ : I2₁ (m₁ + 2) = I₁ (m₁ + 2) := by rw [eI₁]; exact mup_ne (by omega)
  have hU2₁ : WFc (I2₁ (m₁ + 2)) := by rw [g2₁]; exact hU₁
  have hn₁ := hU₁.2.2.2.1.2
  have hn3₁ := hU₁.2.2.1.2
  refine r_isVar hM₁ hU2₁ ?_
  rw [g2₁]
  rw [← eI₁, varSp] at h₁
  refine ⟨fun e₁ => ?_, fun e₁ => ?_⟩
  · obtain ⟨j₁, hj₁, rfl⟩ := inN_t e₁ (by omega)
    obtain ⟨t₁, et₁, hlt₁⟩ := ht₁ j₁ hj₁
    rw [if_pos e₁, ix_nI (by omega), et₁, ix_nI (by omega)] at h₁
    refine ⟨_, hM₁.r14, hM₁.k2, by rw [hM₁.n2]; exact vp_cn (by omega) (by decide), fun v7₁ ev₁ => ?_⟩
    rw [g2₁, ix_cn (by omega)] at ev₁
    have ev2₁ := ev₁.trans et₁
    subst ev2₁
    rw [g2₁]
    refine ⟨fun e0₁ => ⟨by rw [hM₁.n2]; exact vp_cn (by omega) (by decide), ?_⟩, fun e0₁ => ⟨fun e1₁ => ?_, fun e1₁ => ⟨fun e2₁ => r_wheresOf hM₁ hU2₁ ?_, fun e2₁ => ⟨fun e3₁ => ⟨by rw [hM₁.n2]; exact vp_cn (by omega) (by decide), ?_⟩, fun e3₁ => ⟨fun e4₁ => ⟨by rw [hM₁.n2]; exact vp_cn (by omega) (by decide), ?_⟩, fun e4₁ => ⟨fun e5₁ => ⟨by rw [hM₁.n2]; exact vp_cn (by omega) (by decide), ?_⟩, fun e5₁ => ?_⟩⟩⟩⟩⟩⟩
    · rw [if_pos e0₁] at h₁
      rw [ix_cn (by omega)]; exact h₁
    · rw [if_neg e0₁, if_pos e1₁] at h₁; exact h₁
    · rw [if_neg e0₁, if_neg e1₁, if_pos e2₁] at h₁
      rw [g2₁]; exact h₁
    · rw [if_neg e0₁, if_neg e1₁, if_neg e2₁, if_pos e3₁] at h₁
      rw [ix_cn (by omega)]; exact h₁
    · rw [if_neg e0₁, if_neg e1₁, if_neg e2₁, if_neg e3₁, if_pos e4₁] at h₁
      rw [ix_cn (by omega)]; exact h₁
    · rw [if_neg e0₁, if_neg e1₁, if_neg e2₁, if_neg e3₁, if_neg e4₁, if_pos e5₁] at h₁
      rw [ix_cn (by omega)]; exact h₁
    · rw [if_neg e0₁, if_neg e1₁, if_neg e2₁, if_neg e3₁, if_neg e4₁, if_neg e5₁] at h₁; exact h₁
  · rw [if_neg (by rw [e₁]; decide)] at h₁; exact h₁
theorem r_chainAt {k₁ : Int32} {n₁ : Nat} {Q₁ : Int32 → MI → Prop} (hM₁ : MDL K₁ N₁ R₁ m₁) (hc₁ : I₁ m₁ 28 = nI n₁) (hn₁ : n₁ ≤ 10) (h₁ : Q₁ (if inN k₁ n₁ = true then I₁ (m₁ + 12) (ix k₁) else -1) (mup I₁ m₁ 0 0)) : w_X12_chainAt m₁ k₁ K₁ N₁ I₁ L₁ R₁ Q₁ := by
  delta w_X12_chainAt
  refine ⟨hM₁.k, fun I2₁ eI₁ => ?_⟩
  have g2₁ : I2₁ m₁ 28 = nI n₁ := by rw [eI₁, mup_k (by decide)]; exact hc₁
  have g3₁ : I2₁ (m₁ + 12) = I₁ (m₁ + 12) := by rw [eI₁]; exact mup_ne (by omega)
  rw [g2₁]
  refine r_isIn ?_
  rw [isInB_pred rfl (by omega)]
  rw [← eI₁] at h₁
  refine ⟨fun e₁ => ?_, fun e₁ => ?_⟩
  · rw [if_neg (by rw [e₁]; decide)] at h₁; exact h₁
  · rw [if_pos e₁] at h₁
    obtain ⟨j₁, hj₁, rfl⟩ := inN_t e₁ (by omega)
    refine ⟨_, hM₁.r26, hM₁.k12, by rw [hM₁.n12]; exact (vp_nI (by omega)).mpr (by omega), ?_⟩
    rw [g3₁]; exact h₁
theorem r_chainLine {k₁ : Int32} {n₁ : Nat} {Q₁ : Int32 → MI → Prop} (hM₁ : MDL K₁ N₁ R₁ m₁) (hc₁ : I₁ m₁ 28 = nI n₁) (hn₁ : n₁ ≤ 10) (h₁ : Q₁ (if inN k₁ n₁ = true then I₁ (m₁ + 13) (ix k₁) else -1) (mup I₁ m₁ 0 0)) : w_X12_chainLine m₁ k₁ K₁ N₁ I₁ L₁ R₁ Q₁ := by
  delta w_X12_chainLine
  refine ⟨hM₁.k, fun I2₁ eI₁ => ?_⟩
  have g2₁ : I2₁ m₁ 28 = nI n₁ := by rw [eI₁, mup_k (by decide)]; exact hc₁
  have g3₁ : I2₁ (m₁ + 13) = I₁ (m₁ + 13) := by rw [eI₁]; exact mup_ne (by omega)
  rw [g2₁]
  refine r_isIn ?_
  rw [isInB_pred rfl (by omega)]
  rw [← eI₁] at h₁
  refine ⟨fun e₁ => ?_, fun e₁ => ?_⟩
  · rw [if_neg (by rw [e₁]; decide)] at h₁; exact h₁
  · rw [if_pos e₁] at h₁
    obtain ⟨j₁, hj₁, rfl⟩ := inN_t e₁ (by omega)
    refine ⟨_, hM₁.r27, hM₁.k13, by rw [hM₁.n13]; exact (vp_nI (by omega)).mpr (by omega), ?_⟩
    rw [g3₁]; exact h₁
end RG₁
