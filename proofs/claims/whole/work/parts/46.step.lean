/-! ===== step: where to ===== -/
def stepB (U₁ : Nat → Int32) (l₁ s₁ : Int32) : Nat → Nat → Int32
  | 0, _ => -1
  | f₁ + 1, i₁ => if ¬ U₁ (36 + i₁) = l₁ then U₁ (6 + i₁) else if s₁ = -1 then stepB U₁ l₁ s₁ f₁ (i₁ + 1) else if hasS U₁ (ix s₁) (U₁ (6 + i₁)) = true then stepB U₁ l₁ s₁ f₁ (i₁ + 1) else U₁ (6 + i₁)
section RG₁
variable {K₁ N₁ : MK} {I₁ : MI} {L₁ : ML} {R₁ : MR} {m₁ : Nat}
theorem r_stepLoop {i0₁ : Nat} {l₁ s₁ : Int32} {Q₁ : Int32 → Prop} (hM₁ : MDL K₁ N₁ R₁ m₁) (hU₁ : WFc (I₁ (m₁ + 2))) (hs₁ : orN s₁ (ix (I₁ (m₁ + 2) 2))) (h0₁ : i0₁ ≤ ix (I₁ (m₁ + 2) 1)) (h₁ : Q₁ (stepB (I₁ (m₁ + 2)) l₁ s₁ (ix (I₁ (m₁ + 2) 1) - i0₁) i0₁)) : w_X12_stepTo_31 m₁ l₁ s₁ (nI i0₁) K₁ N₁ I₁ L₁ R₁ Q₁ := by
  delta w_X12_stepTo_31
  have u1₁ := hU₁.1
  have u2₁ := hU₁.2.1
  refine ⟨fun k₁ x0₁ x2₁ x3₁ x4₁ => x0₁ = m₁ ∧ x2₁ = l₁ ∧ x3₁ = s₁ ∧ ∃ i₁, i₁ ≤ ix (I₁ (m₁ + 2) 1) ∧ k₁ = ix (I₁ (m₁ + 2) 1) - i₁ ∧ x4₁ = nI i₁ ∧ Q₁ (stepB (I₁ (m₁ + 2)) l₁ s₁ k₁ i₁), ⟨_, rfl, rfl, rfl, i0₁, h0₁, rfl, rfl, h₁⟩, ?_⟩
  rintro k₁ x0₁ x2₁ x3₁ x4₁ ⟨rfl, rfl, rfl, i₁, hi₁, hm₁, rfl, hq₁⟩
  refine ⟨hM₁.k, _, hM₁.r14, hM₁.k2, by rw [hM₁.n2]; exact vp_c (by decide) (by decide), fun e₁ => ?_, fun e₁ => ?_⟩
  · rw [ix_c (by decide), u1₁.1, leN (by omega) (by omega)] at e₁
    rw [show k₁ = 0 by omega, stepB] at hq₁; exact hq₁
  · rw [ix_c (by decide), u1₁.1, leN (by omega) (by omega)] at e₁
    obtain ⟨p₁, rfl⟩ : ∃ p₁, k₁ = p₁ + 1 := ⟨k₁ - 1, by omega⟩
    rw [stepB] at hq₁
    rw [hM₁.n2, ix_cn (by omega), ix_cn (by omega)]
    refine ⟨vp_cn (by omega) (by decide), fun g₁ => ⟨vp_cn (by omega) (by decide), ?_⟩, fun g₁ => ⟨fun z₁ v₁ ev₁ => ⟨p₁, by omega, rfl, rfl, rfl, i₁ + 1, by omega, by omega, by rw [ev₁]; exact nI_1 i₁, ?_⟩, fun z₁ => ⟨vp_cn (by omega) (by decide), ?_⟩⟩⟩
    · rw [if_pos g₁] at hq₁; exact hq₁
    · rw [if_neg (fun q₁ => q₁ g₁), if_pos z₁] at hq₁; exact hq₁
    · obtain ⟨j₁, hj₁, rfl⟩ := hs₁.resolve_left z₁
      rw [if_neg (fun q₁ => q₁ g₁), if_neg z₁, ix_nI (by omega)] at hq₁
      refine r_hasAddress hM₁ (by omega) ⟨fun y₁ v₁ ev₁ => ⟨p₁, by omega, rfl, rfl, rfl, i₁ + 1, by omega, by omega, by rw [ev₁]; exact nI_1 i₁, ?_⟩, fun y₁ => ?_⟩
      · rw [if_pos y₁] at hq₁; exact hq₁
      · rw [if_neg (by rw [y₁]; decide)] at hq₁; exact hq₁
end RG₁
