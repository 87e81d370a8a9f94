/-! ===== run, the reference's loop ===== -/
section RG₁
variable {K₁ N₁ : MK} {I₁ : MI} {L₁ : ML} {R₁ : MR} {m₁ : Nat}
theorem r_runLoop {i0₁ n₁ : Nat} {Q₁ : Int32 → Prop} (hM₁ : MDL K₁ N₁ R₁ m₁) (hU₁ : WFc (I₁ (m₁ + 2))) (e2₁ : I₁ (m₁ + 2) 344 = nI n₁) (hn8₁ : n₁ ≤ 8) (h0₁ : i0₁ ≤ ix (I₁ (m₁ + 2) 1)) (h₁ : Q₁ (runB (I₁ (m₁ + 2)) (macV (I₁ (m₁ + 2))) (ix (I₁ (m₁ + 2) 1) - i0₁) i0₁)) : w_X12_runTo_15 m₁ (nI i0₁) K₁ N₁ I₁ L₁ R₁ Q₁ := by
  delta w_X12_runTo_15
  have u1₁ := hU₁.1
  refine ⟨fun k₁ x0₁ x1₁ => x0₁ = m₁ ∧ ∃ i₁, i₁ ≤ ix (I₁ (m₁ + 2) 1) ∧ k₁ = ix (I₁ (m₁ + 2) 1) - i₁ ∧ x1₁ = nI i₁ ∧ Q₁ (runB (I₁ (m₁ + 2)) (macV (I₁ (m₁ + 2))) k₁ i₁), ⟨_, rfl, i0₁, h0₁, rfl, rfl, h₁⟩, ?_⟩
  rintro k₁ x0₁ x1₁ ⟨rfl, i₁, hi₁, hm₁, rfl, hq₁⟩
  refine ⟨hM₁.k, _, hM₁.r14, hM₁.k2, by rw [hM₁.n2]; exact vp_c (by decide) (by decide), fun e₁ => ?_, fun e₁ => ?_⟩
  · rw [ix_c (by decide), u1₁.1, leN (by omega) (by omega)] at e₁
    rw [show k₁ = 0 by omega, runB] at hq₁; exact hq₁
  · rw [ix_c (by decide), u1₁.1, leN (by omega) (by omega)] at e₁
    obtain ⟨p₁, rfl⟩ : ∃ p₁, k₁ = p₁ + 1 := ⟨k₁ - 1, by omega⟩
    rw [runB] at hq₁
    rw [hM₁.n2, ix_cn (by omega), ix_cn (by omega)]
    refine ⟨vp_cn (by omega) (by decide), r_stopAt hM₁ e2₁ hn8₁ ⟨fun g₁ v₁ ev₁ => ⟨p₁, by omega, rfl, i₁ + 1, by omega, by omega, by rw [ev₁]; exact nI_1 i₁, ?_⟩, fun g₁ => ⟨vp_cn (by omega) (by decide), ?_⟩⟩⟩
    · rw [if_pos g₁] at hq₁; exact hq₁
    · rw [if_neg g₁] at hq₁; exact hq₁
end RG₁
