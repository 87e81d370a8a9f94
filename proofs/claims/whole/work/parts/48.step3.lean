/-! ===== step: the class's loop ===== -/
section UN₁
variable {K₁ N₁ : MK} {I₁ : MI} {L₁ : ML} {R₁ : MR} {u₁ : Nat} {U₁ : Nat → Int32} {W₁ : Nat → Int64}
theorem s_stepLoop {i0₁ : Nat} {l₁ s₁ : Int32} {Q₁ : Int32 → Prop} (hL₁ : UL K₁ N₁ R₁ u₁) (hD₁ : UD1₁ I₁ u₁ U₁) (hE₁ : UD2₁ I₁ L₁ u₁ U₁ W₁) (hU₁ : WFc U₁) (hw₁ : WFs U₁) (hs₁ : orN s₁ (ix (U₁ 2))) (h0₁ : i0₁ ≤ ix (U₁ 1)) (h₁ : Q₁ (stepB U₁ l₁ s₁ (ix (U₁ 1) - i0₁) i0₁)) : w_X9_stepTo_29 u₁ l₁ s₁ (nI i0₁) K₁ N₁ I₁ L₁ R₁ Q₁ := by
  delta w_X9_stepTo_29 w_X9_stepTo_70 w_X9_stepTo_71
  have hn₁ := hU₁.1.2
  have hn2₁ := hU₁.2.1.2
  have hT₁ := hL₁.2.2.2.2.2.2.1
  have hd₁ := hD₁.1
  refine ⟨fun k₁ x0₁ x3₁ x4₁ x5₁ => x0₁ = u₁ ∧ x3₁ = l₁ ∧ x4₁ = s₁ ∧ ∃ i₁, i₁ ≤ ix (U₁ 1) ∧ k₁ = ix (U₁ 1) - i₁ ∧ x5₁ = nI i₁ ∧ Q₁ (stepB U₁ l₁ s₁ k₁ i₁), ⟨_, rfl, rfl, rfl, i0₁, h0₁, rfl, rfl, h₁⟩, ?_⟩
  rintro k₁ x0₁ x3₁ x4₁ x5₁ ⟨rfl, rfl, rfl, i₁, hi₁, hm₁, rfl, hq₁⟩
  refine ⟨hL₁.1, _, hL₁.2.1, hT₁.1, fun e₁ => ?_, fun e₁ => ?_⟩
  · rw [hd₁.2.1, leN (by omega) (by omega)] at e₁
    rw [show k₁ = 0 by omega, stepB] at hq₁; exact hq₁
  · rw [hd₁.2.1, leN (by omega) (by omega)] at e₁
    obtain ⟨p₁, rfl⟩ : ∃ p₁, k₁ = p₁ + 1 := ⟨k₁ - 1, by omega⟩
    rw [stepB] at hq₁
    have a0₁ : tat I₁ (x0₁ + 1) 2 (ix (U₁ 1)) (nI i₁) 0 = U₁ (6 + i₁) := (show tat I₁ (x0₁ + 1) 2 (ix (U₁ 1)) (nI i₁) (nI 0) = _ from tat_in (by omega) (by omega) (by omega) (by omega)).trans (hD₁.2 i₁ (by omega)).1
    have a1₁ : tat I₁ (x0₁ + 1) 2 (ix (U₁ 1)) (nI i₁) 1 = U₁ (36 + i₁) := (show tat I₁ (x0₁ + 1) 2 (ix (U₁ 1)) (nI i₁) (nI 1) = _ from tat_in (by omega) (by omega) (by omega) (by omega)).trans (hD₁.2 i₁ (by omega)).2
    refine ⟨fun z₁ => ⟨hL₁.1, _, hL₁.2.1, hT₁.1, s_at hT₁ hd₁ ?_⟩, fun z₁ => s_at hT₁ hd₁ ?_⟩
    · rw [a1₁]
      refine ⟨fun g₁ => s_at hT₁ hd₁ ?_, fun g₁ => ⟨fun _ v₁ ev₁ => ⟨p₁, by omega, rfl, rfl, rfl, i₁ + 1, by omega, by omega, by rw [ev₁]; exact nI_1 i₁, ?_⟩, fun b₁ => absurd rfl b₁⟩⟩
      · rw [a0₁]; rw [if_pos g₁] at hq₁; exact hq₁
      · rw [if_neg (fun q₁ => q₁ g₁), if_pos z₁] at hq₁; exact hq₁
    · rw [a0₁]
      obtain ⟨j₁, hj₁, rfl⟩ := hs₁.resolve_left z₁
      rw [if_neg z₁, ix_nI (by omega)] at hq₁
      refine s_scopeHas hL₁ hE₁ hU₁ hw₁ hj₁ ⟨fun y₁ => ⟨hL₁.1, _, hL₁.2.1, hT₁.1, s_at hT₁ hd₁ ?_⟩, fun y₁ => ⟨hL₁.1, _, hL₁.2.1, hT₁.1, s_at hT₁ hd₁ ?_⟩⟩
      · rw [a1₁]
        refine ⟨fun g₁ => s_at hT₁ hd₁ ?_, fun g₁ => ⟨fun _ v₁ ev₁ => ⟨p₁, by omega, rfl, rfl, rfl, i₁ + 1, by omega, by omega, by rw [ev₁]; exact nI_1 i₁, ?_⟩, fun b₁ => absurd rfl b₁⟩⟩
        · rw [a0₁]; rw [if_pos g₁] at hq₁; exact hq₁
        · rw [if_neg (fun q₁ => q₁ g₁), if_pos y₁] at hq₁; exact hq₁
      · rw [a1₁]
        refine ⟨fun g₁ => s_at hT₁ hd₁ ?_, fun g₁ => ⟨fun b₁ => absurd b₁ (by decide), fun _ => s_at hT₁ hd₁ ?_⟩⟩
        · rw [a0₁]; rw [if_pos g₁] at hq₁; exact hq₁
        · rw [a0₁]; rw [if_neg (fun q₁ => q₁ g₁), if_neg (by rw [y₁]; decide)] at hq₁; exact hq₁
end UN₁
