/-! ===== run: the next row whose line is a stop, the loops of both sides ===== -/
def runB (U₁ V₁ : Nat → Int32) : Nat → Nat → Int32
  | 0, _ => -1
  | f₁ + 1, i₁ => if stpS V₁ (U₁ (36 + i₁)) = -1 then runB U₁ V₁ f₁ (i₁ + 1) else U₁ (6 + i₁)
section UN₁
variable {K₁ N₁ : MK} {I₁ : MI} {L₁ : ML} {R₁ : MR} {c₁ u₁ : Nat} {U₁ V₁ : Nat → Int32}
theorem s_runLoop {i0₁ : Nat} {Q₁ : Int32 → Prop} (hC₁ : MAL K₁ N₁ R₁ c₁) (hV₁ : MACD I₁ c₁ V₁) (hL₁ : UL K₁ N₁ R₁ u₁) (hD₁ : UD1₁ I₁ u₁ U₁) (hU₁ : WFc U₁) (h0₁ : i0₁ ≤ ix (U₁ 1)) (h₁ : Q₁ (runB U₁ V₁ (ix (U₁ 1) - i0₁) i0₁)) : w_X3_stoppingRow_11 c₁ u₁ (nI i0₁) K₁ N₁ I₁ L₁ R₁ Q₁ := by
  delta w_X3_stoppingRow_11
  have hn₁ := hU₁.1.2
  have hT₁ := hL₁.2.2.2.2.2.2.1
  have hd₁ := hD₁.1
  refine ⟨fun k₁ x0₁ x1₁ x2₁ => x0₁ = c₁ ∧ x1₁ = u₁ ∧ ∃ i₁, i₁ ≤ ix (U₁ 1) ∧ k₁ = ix (U₁ 1) - i₁ ∧ x2₁ = nI i₁ ∧ Q₁ (runB U₁ V₁ k₁ i₁), ⟨_, rfl, rfl, i0₁, h0₁, rfl, rfl, h₁⟩, ?_⟩
  rintro k₁ x0₁ x1₁ x2₁ ⟨rfl, rfl, i₁, hi₁, hm₁, rfl, hq₁⟩
  refine ⟨hL₁.1, _, hL₁.2.1, hT₁.1, fun e₁ => ?_, fun e₁ => s_at hT₁ hd₁ ?_⟩
  · rw [hd₁.2.1, leN (by omega) (by omega)] at e₁
    rw [show k₁ = 0 by omega, runB] at hq₁; exact hq₁
  · rw [hd₁.2.1, leN (by omega) (by omega)] at e₁
    obtain ⟨p₁, rfl⟩ : ∃ p₁, k₁ = p₁ + 1 := ⟨k₁ - 1, by omega⟩
    rw [runB] at hq₁
    rw [show (1 : Int32) = nI 1 from rfl, tat_in (by omega) (by omega) (by omega) (by omega), (hD₁.2 i₁ (by omega)).2]
    refine ⟨hC₁.1, s_hasStop hC₁ hV₁ ⟨fun g₁ v₁ ev₁ => ⟨p₁, by omega, rfl, rfl, i₁ + 1, by omega, by omega, by rw [ev₁]; exact nI_1 i₁, ?_⟩, fun g₁ => s_at hT₁ hd₁ ?_⟩⟩
    · rw [if_pos (Decidable.not_not.mp (of_decide_eq_false g₁))] at hq₁; exact hq₁
    · rw [if_neg (of_decide_eq_true g₁)] at hq₁
      rw [show (0 : Int32) = nI 0 from rfl, tat_in (by omega) (by omega) (by omega) (by omega), (hD₁.2 i₁ (by omega)).1]; exact hq₁
end UN₁
