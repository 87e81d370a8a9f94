/-! ===== the reference's scope and placeOf ===== -/
theorem whrB_no {U₁ : Nat → Int32} {v₁ a₁ : Int32} {n₁ : Nat} (hno₁ : ∀ i₁, i₁ < n₁ → ¬ (U₁ (134 + i₁) = v₁ ∧ U₁ (150 + i₁) ≤ a₁ ∧ a₁ < U₁ (166 + i₁))) (f₁ i₁ : Nat) (h₁ : i₁ + f₁ ≤ n₁) : whrB U₁ v₁ a₁ f₁ i₁ = -1 := by
  induction f₁ generalizing i₁ with
  | zero => rfl
  | succ f₁ ih₁ =>
    rw [whrB, if_neg (hno₁ i₁ (by omega))]
    exact ih₁ (i₁ + 1) (by omega)
theorem whrS_noV {U₁ : Nat → Int32} {v₁ a₁ : Int32} (hU₁ : WFc U₁) (hw₁ : WFw U₁) (h₁ : inN v₁ (ix (U₁ 4)) = false) : whrS U₁ v₁ a₁ = -1 := by
  refine whrB_no (n₁ := ix (U₁ 5)) ?_ _ _ (by omega)
  rintro i₁ hi₁ ⟨e₁, -, -⟩
  obtain ⟨j₁, f₁, t₁, e1₁, hj₁, -⟩ := hw₁ i₁ hi₁
  have hn₁ := hU₁.2.2.2.1.2
  rw [← e₁, e1₁] at h₁
  rw [inN_nI hj₁ (by omega)] at h₁
  exact absurd h₁ (by decide)
theorem whrS_noA {U₁ : Nat → Int32} {v₁ a₁ : Int32} (hU₁ : WFc U₁) (hw₁ : WFw U₁) (h₁ : adr U₁ a₁ = false) : whrS U₁ v₁ a₁ = -1 := by
  refine whrB_no (n₁ := ix (U₁ 5)) ?_ _ _ (by omega)
  rintro i₁ hi₁ ⟨-, e2₁, e3₁⟩
  obtain ⟨j₁, f₁, t₁, -, -, ef₁, et₁, hft₁, hts₁⟩ := hw₁ i₁ hi₁
  have hz₁ := hU₁.2.2.2.2.2
  rw [ef₁] at e2₁
  rw [et₁] at e3₁
  have h0₁ : (0 : Int32) ≤ nI f₁ := le0n (by omega)
  have h3₁ : nI t₁ ≤ nI (ix (U₁ 0)) := (leN (by omega) (by omega)).mpr hts₁
  rw [adr, isInB_pred hz₁.1 (by omega)] at h₁
  have : inN a₁ (ix (U₁ 0)) = true := by
    simp only [inN, Bool.and_eq_true, decide_eq_true_eq]
    rw [Int32.le_iff_toInt_le] at e2₁ h0₁ h3₁
    rw [Int32.lt_iff_toInt_lt] at e3₁
    rw [Int32.le_iff_toInt_le, Int32.lt_iff_toInt_lt]
    omega
  rw [this] at h₁
  exact absurd h₁ (by decide)
section RG₁
variable {K₁ N₁ : MK} {I₁ : MI} {L₁ : ML} {R₁ : MR} {m₁ : Nat}
theorem r_scope93 {s₁ : Int32} {Q₁ : Int32 → MI → Prop} (hM₁ : MDL K₁ N₁ R₁ m₁) (hU₁ : WFc (I₁ (m₁ + 2))) (h₁ : Q₁ (vbits (I₁ (m₁ + 2)) s₁ (ix (I₁ (m₁ + 2) 4))) I₁) : w_X12_scope_93 m₁ s₁ 0 0 K₁ N₁ I₁ L₁ R₁ Q₁ := by
  delta w_X12_scope_93
  have u4₁ := hU₁.2.2.2.1
  refine ⟨fun n₁ x0₁ x1₁ x3₁ x4₁ J₁ => x0₁ = m₁ ∧ x1₁ = s₁ ∧ J₁ = I₁ ∧ ∃ i₁, i₁ ≤ ix (I₁ (m₁ + 2) 4) ∧ n₁ = ix (I₁ (m₁ + 2) 4) - i₁ ∧ x4₁ = nI i₁ ∧ x3₁ = vbits (I₁ (m₁ + 2)) s₁ i₁, ⟨_, rfl, rfl, rfl, 0, Nat.zero_le _, rfl, rfl, rfl⟩, ?_⟩
  rintro n₁ x0₁ x1₁ x3₁ x4₁ J₁ ⟨rfl, rfl, rfl, i₁, hi₁, hm₁, rfl, rfl⟩
  refine ⟨hM₁.k, _, hM₁.r14, hM₁.k2, by rw [hM₁.n2]; exact vp_c (by decide) (by decide), fun e₁ => ?_, fun e₁ => ?_⟩
  · rw [ix_c (by decide), u4₁.1, leN (by omega) (by omega)] at e₁
    rw [show ix (J₁ (x0₁ + 2) 4) = i₁ by omega] at h₁; exact h₁
  · rw [ix_c (by decide), u4₁.1, leN (by omega) (by omega)] at e₁
    rw [hM₁.n2, ix_cn (by omega)]
    refine ⟨vp_cn (by omega) (by decide), fun g₁ z₁ ev₁ => ⟨ix (J₁ (x0₁ + 2) 4) - (i₁ + 1), by omega, rfl, rfl, rfl, i₁ + 1, by omega, rfl, by rw [ev₁]; exact nI_1 i₁, ?_⟩, fun g₁ y₁ ey₁ z₁ ev₁ => ⟨ix (J₁ (x0₁ + 2) 4) - (i₁ + 1), by omega, rfl, rfl, rfl, i₁ + 1, by omega, rfl, by rw [ev₁]; exact nI_1 i₁, ?_⟩⟩
    · rw [vbits, if_neg g₁]
    · rw [vbits, if_pos g₁, ey₁]
theorem r_scope {s₁ w₁ : Int32} {Q₁ : Int32 → MI → Prop} (hM₁ : MDL K₁ N₁ R₁ m₁) (hU₁ : WFc (I₁ (m₁ + 2))) (h₁ : Q₁ (scopeS (I₁ (m₁ + 2)) s₁ w₁) (mup I₁ m₁ 0 0)) : w_X12_scope m₁ s₁ w₁ K₁ N₁ I₁ L₁ R₁ Q₁ := by
  delta w_X12_scope
  refine ⟨hM₁.k, fun I2₁ eI₁ => ?_⟩
  have g2₁ : I2₁ (m₁ + 2) = I₁ (m₁ + 2) := by rw [eI₁]; exact mup_ne (by omega)
  have hU2₁ : WFc (I2₁ (m₁ + 2)) := by rw [g2₁]; exact hU₁
  have hn₁ := hU₁.2.1.2
  refine r_isScope hM₁ hU2₁ ?_
  rw [g2₁]
  rw [← eI₁, scopeS] at h₁
  refine ⟨fun e₁ => ?_, fun e₁ => ?_⟩
  · obtain ⟨j₁, hj₁, rfl⟩ := inN_t e₁ (by omega)
    rw [if_pos e₁, ix_nI (by omega)] at h₁
    refine ⟨fun e0₁ => ⟨_, hM₁.r14, hM₁.k2, by rw [hM₁.n2]; exact vp_cn (by omega) (by decide), ?_⟩, fun e0₁ => ⟨fun e1₁ => ⟨_, hM₁.r14, hM₁.k2, by rw [hM₁.n2]; exact vp_cn (by omega) (by decide), ?_⟩, fun e1₁ => ⟨fun e2₁ => ⟨_, hM₁.r14, hM₁.k2, by rw [hM₁.n2]; exact vp_cn (by omega) (by decide), ?_⟩, fun e2₁ => ⟨fun e3₁ => r_outerOf hM₁ hU2₁ (by omega) ?_, fun e3₁ => ⟨fun e4₁ => r_scope93 hM₁ hU2₁ ?_, fun e4₁ => ?_⟩⟩⟩⟩⟩
    · rw [if_pos e0₁] at h₁
      rw [g2₁, ix_cn (by omega)]; exact h₁
    · rw [if_neg e0₁, if_pos e1₁] at h₁
      rw [g2₁, ix_cn (by omega)]; exact h₁
    · rw [if_neg e0₁, if_neg e1₁, if_pos e2₁] at h₁
      rw [g2₁, ix_cn (by omega)]; exact h₁
    · rw [if_neg e0₁, if_neg e1₁, if_neg e2₁, if_pos e3₁] at h₁
      rw [g2₁]; exact h₁
    · rw [if_neg e0₁, if_neg e1₁, if_neg e2₁, if_neg e3₁, if_pos e4₁] at h₁
      rw [g2₁]; exact h₁
    · rw [if_neg e0₁, if_neg e1₁, if_neg e2₁, if_neg e3₁, if_neg e4₁] at h₁; exact h₁
  · rw [if_neg (by rw [e₁]; decide)] at h₁; exact h₁
theorem r_placeOf {v₁ a₁ : Int32} {Q₁ : Int32 → MI → Prop} (hM₁ : MDL K₁ N₁ R₁ m₁) (hU₁ : WFc (I₁ (m₁ + 2))) (hw₁ : WFw (I₁ (m₁ + 2))) (h₁ : Q₁ (whrS (I₁ (m₁ + 2)) v₁ a₁) (mup I₁ m₁ 0 0)) : w_X12_placeOf m₁ v₁ a₁ K₁ N₁ I₁ L₁ R₁ Q₁ := by
  delta w_X12_placeOf
  refine ⟨hM₁.k, fun I2₁ eI₁ => ?_⟩
  have g2₁ : I2₁ (m₁ + 2) = I₁ (m₁ + 2) := by rw [eI₁]; exact mup_ne (by omega)
  have hU2₁ : WFc (I2₁ (m₁ + 2)) := by rw [g2₁]; exact hU₁
  have hw2₁ : WFw (I2₁ (m₁ + 2)) := by rw [g2₁]; exact hw₁
  rw [← eI₁] at h₁
  refine r_isVar hM₁ hU2₁ ⟨fun e₁ => ?_, fun e₁ => r_isAddress hM₁ ⟨fun e2₁ => ?_, fun e2₁ => r_whereOf hM₁ hU2₁ hw2₁ ?_⟩⟩
  · rw [g2₁] at e₁
    rw [whrS_noV hU₁ hw₁ e₁] at h₁; exact h₁
  · rw [g2₁] at e2₁
    rw [whrS_noA hU₁ hw₁ e2₁] at h₁; exact h₁
  · rw [g2₁]; exact h₁
end RG₁
