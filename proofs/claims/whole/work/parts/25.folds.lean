/-! ===== sums and searches over the lists of a unit ===== -/
def vbits (U₁ : Nat → Int32) (s₁ : Int32) : Nat → Int32
  | 0 => 0
  | v₁ + 1 => if U₁ (114 + v₁) = s₁ then vbits U₁ s₁ v₁ ||| ((1 : Int32) <<< (nI v₁ &&& 31)) else vbits U₁ s₁ v₁
def pcnt (U₁ : Nat → Int32) (v₁ : Int32) : Nat → Int32
  | 0 => 0
  | w₁ + 1 => if U₁ (134 + w₁) = v₁ then pcnt U₁ v₁ w₁ + 1 else pcnt U₁ v₁ w₁
def covB (U₁ : Nat → Int32) (v₁ : Int32) : Nat → Int32
  | 0 => 0
  | w₁ + 1 => if U₁ (134 + w₁) = v₁ then covB U₁ v₁ w₁ + (U₁ (166 + w₁) - U₁ (150 + w₁)) else covB U₁ v₁ w₁
def whrB (U₁ : Nat → Int32) (v₁ a₁ : Int32) : Nat → Nat → Int32
  | 0, _ => -1
  | f₁ + 1, i₁ => if U₁ (134 + i₁) = v₁ ∧ U₁ (150 + i₁) ≤ a₁ ∧ a₁ < U₁ (166 + i₁) then nI i₁ else whrB U₁ v₁ a₁ f₁ (i₁ + 1)
def whrS (U₁ : Nat → Int32) (v₁ a₁ : Int32) : Int32 := whrB U₁ v₁ a₁ (ix (U₁ 5)) 0
theorem whrB_or (U₁ : Nat → Int32) (v₁ a₁ : Int32) (f₁ i₁ : Nat) : whrB U₁ v₁ a₁ f₁ i₁ = -1 ∨ ∃ j₁, i₁ ≤ j₁ ∧ j₁ < i₁ + f₁ ∧ whrB U₁ v₁ a₁ f₁ i₁ = nI j₁ := by
  induction f₁ generalizing i₁ with
  | zero => exact Or.inl rfl
  | succ f₁ ih₁ =>
    rw [whrB]
    split
    · exact Or.inr ⟨i₁, Nat.le_refl _, by omega, rfl⟩
    · rcases ih₁ (i₁ + 1) with h₁ | ⟨j₁, h1₁, h2₁, h3₁⟩
      · exact Or.inl h₁
      · exact Or.inr ⟨j₁, by omega, by omega, h3₁⟩
/-- wheres -/
def WFw (U₁ : Nat → Int32) : Prop := ∀ k₁, k₁ < ix (U₁ 5) → ∃ v₁ f₁ t₁, U₁ (134 + k₁) = nI v₁ ∧ v₁ < ix (U₁ 4) ∧ U₁ (150 + k₁) = nI f₁ ∧ U₁ (166 + k₁) = nI t₁ ∧ f₁ < t₁ ∧ t₁ ≤ ix (U₁ 0)
section UN₁
variable {K₁ N₁ : MK} {I₁ : MI} {L₁ : ML} {R₁ : MR} {u₁ : Nat} {U₁ : Nat → Int32} {W₁ : Nat → Int64}
theorem s_varsOf {s₁ : Int32} {Q₁ : Int32 → Prop} (hL₁ : UL K₁ N₁ R₁ u₁) (hD₁ : UD4₁ I₁ L₁ u₁ U₁ W₁) (hU₁ : WFc U₁) (h₁ : Q₁ (vbits U₁ s₁ (ix (U₁ 4)))) : w_X9_varsOf u₁ s₁ K₁ N₁ I₁ L₁ R₁ Q₁ := by
  delta w_X9_varsOf w_X9_varsOf_4
  have hn₁ := hU₁.2.2.2.1.2
  have hT₁ := hL₁.2.2.2.2.2.2.2.2.2.1
  obtain ⟨hd₁, hv₁⟩ := hD₁
  refine ⟨fun n₁ x0₁ x1₁ x2₁ x3₁ => x0₁ = u₁ ∧ x1₁ = s₁ ∧ ∃ i₁, i₁ ≤ ix (U₁ 4) ∧ n₁ = ix (U₁ 4) - i₁ ∧ x3₁ = nI i₁ ∧ x2₁ = vbits U₁ s₁ i₁, ⟨_, rfl, rfl, 0, Nat.zero_le _, rfl, rfl, rfl⟩, ?_⟩
  rintro n₁ x0₁ x1₁ x2₁ x3₁ ⟨rfl, rfl, i₁, hi₁, hm₁, rfl, rfl⟩
  refine ⟨hL₁.1, _, hL₁.2.2.2.2.1, hT₁.1, fun e₁ => ?_, fun e₁ => ?_⟩
  · rw [hd₁.2.1, leN (by omega) (by omega)] at e₁
    rw [show ix (U₁ 4) = i₁ by omega] at h₁; exact h₁
  · rw [hd₁.2.1, leN (by omega) (by omega)] at e₁
    refine s_at hT₁ hd₁ ?_
    rw [show (0 : Int32) = nI 0 from rfl, tat_in (by omega) (by omega) (by omega) (by omega), (hv₁ i₁ (by omega)).1]
    refine ⟨fun g₁ v₁ ev₁ => ⟨ix (U₁ 4) - (i₁ + 1), by omega, rfl, rfl, i₁ + 1, by omega, rfl, by rw [ev₁]; exact nI_1 i₁, ?_⟩, fun g₁ y₁ ey₁ v₁ ev₁ => ⟨ix (U₁ 4) - (i₁ + 1), by omega, rfl, rfl, i₁ + 1, by omega, rfl, by rw [ev₁]; exact nI_1 i₁, ?_⟩⟩
    · rw [vbits, if_neg g₁]
    · rw [vbits, if_pos g₁, ey₁]
theorem s_placesOf {s₁ : Int32} {Q₁ : Int32 → Prop} (hL₁ : UL K₁ N₁ R₁ u₁) (hD₁ : UD5₁ I₁ u₁ U₁) (hU₁ : WFc U₁) (h₁ : Q₁ (pcnt U₁ s₁ (ix (U₁ 5)))) : w_X9_placesOf u₁ s₁ K₁ N₁ I₁ L₁ R₁ Q₁ := by
  delta w_X9_placesOf w_X9_placesOf_4
  have hn₁ := hU₁.2.2.2.2.1.2
  have hT₁ := hL₁.2.2.2.2.2.2.2.2.2.2
  obtain ⟨hd₁, hv₁⟩ := hD₁
  refine ⟨fun n₁ x0₁ x1₁ x2₁ x3₁ => x0₁ = u₁ ∧ x1₁ = s₁ ∧ ∃ i₁, i₁ ≤ ix (U₁ 5) ∧ n₁ = ix (U₁ 5) - i₁ ∧ x3₁ = nI i₁ ∧ x2₁ = pcnt U₁ s₁ i₁, ⟨_, rfl, rfl, 0, Nat.zero_le _, rfl, rfl, rfl⟩, ?_⟩
  rintro n₁ x0₁ x1₁ x2₁ x3₁ ⟨rfl, rfl, i₁, hi₁, hm₁, rfl, rfl⟩
  refine ⟨hL₁.1, _, hL₁.2.2.2.2.2.1, hT₁.1, fun e₁ => ?_, fun e₁ => ?_⟩
  · rw [hd₁.2.1, leN (by omega) (by omega)] at e₁
    rw [show ix (U₁ 5) = i₁ by omega] at h₁; exact h₁
  · rw [hd₁.2.1, leN (by omega) (by omega)] at e₁
    refine s_at hT₁ hd₁ ?_
    rw [show (2 : Int32) = nI 2 from rfl, tat_in (by omega) (by omega) (by omega) (by omega), (hv₁ i₁ (by omega)).2.2.1]
    refine ⟨fun g₁ v₁ ev₁ => ⟨ix (U₁ 5) - (i₁ + 1), by omega, rfl, rfl, i₁ + 1, by omega, rfl, by rw [ev₁]; exact nI_1 i₁, ?_⟩, fun g₁ y₁ ey₁ v₁ ev₁ => ⟨ix (U₁ 5) - (i₁ + 1), by omega, rfl, rfl, i₁ + 1, by omega, rfl, by rw [ev₁]; exact nI_1 i₁, ?_⟩⟩
    · rw [pcnt, if_neg g₁]
    · rw [pcnt, if_pos g₁, ey₁]
theorem s_covered {s₁ : Int32} {Q₁ : Int32 → Prop} (hL₁ : UL K₁ N₁ R₁ u₁) (hD₁ : UD5₁ I₁ u₁ U₁) (hU₁ : WFc U₁) (h₁ : Q₁ (covB U₁ s₁ (ix (U₁ 5)))) : w_X9_covered u₁ s₁ K₁ N₁ I₁ L₁ R₁ Q₁ := by
  delta w_X9_covered w_X9_covered_4
  have hn₁ := hU₁.2.2.2.2.1.2
  have hT₁ := hL₁.2.2.2.2.2.2.2.2.2.2
  obtain ⟨hd₁, hv₁⟩ := hD₁
  refine ⟨fun n₁ x0₁ x1₁ x2₁ x3₁ => x0₁ = u₁ ∧ x1₁ = s₁ ∧ ∃ i₁, i₁ ≤ ix (U₁ 5) ∧ n₁ = ix (U₁ 5) - i₁ ∧ x3₁ = nI i₁ ∧ x2₁ = covB U₁ s₁ i₁, ⟨_, rfl, rfl, 0, Nat.zero_le _, rfl, rfl, rfl⟩, ?_⟩
  rintro n₁ x0₁ x1₁ x2₁ x3₁ ⟨rfl, rfl, i₁, hi₁, hm₁, rfl, rfl⟩
  refine ⟨hL₁.1, _, hL₁.2.2.2.2.2.1, hT₁.1, fun e₁ => ?_, fun e₁ => ?_⟩
  · rw [hd₁.2.1, leN (by omega) (by omega)] at e₁
    rw [show ix (U₁ 5) = i₁ by omega] at h₁; exact h₁
  · rw [hd₁.2.1, leN (by omega) (by omega)] at e₁
    obtain ⟨v0₁, v1₁, v2₁, -⟩ := hv₁ i₁ (by omega)
    refine s_at hT₁ hd₁ ?_
    rw [show (2 : Int32) = nI 2 from rfl, tat_in (by omega) (by omega) (by omega) (by omega), v2₁]
    refine ⟨fun g₁ v₁ ev₁ => ⟨ix (U₁ 5) - (i₁ + 1), by omega, rfl, rfl, i₁ + 1, by omega, rfl, by rw [ev₁]; exact nI_1 i₁, ?_⟩, fun g₁ => s_at hT₁ hd₁ (s_at hT₁ hd₁ ?_)⟩
    · rw [covB, if_neg g₁]
    · rw [show (1 : Int32) = nI 1 from rfl, tat_in (by omega) (by omega) (by omega) (by omega), v1₁, show (0 : Int32) = nI 0 from rfl, tat_in (by omega) (by omega) (by omega) (by omega), v0₁]
      refine fun y₁ ey₁ v₁ ev₁ => ⟨ix (U₁ 5) - (i₁ + 1), by omega, rfl, rfl, i₁ + 1, by omega, rfl, by rw [ev₁]; exact nI_1 i₁, ?_⟩
      rw [covB, if_pos g₁, ey₁]
theorem s_placeAt {s₁ a₁ : Int32} {Q₁ : Int32 → Prop} (hL₁ : UL K₁ N₁ R₁ u₁) (hD₁ : UD5₁ I₁ u₁ U₁) (hU₁ : WFc U₁) (h₁ : Q₁ (whrS U₁ s₁ a₁)) : w_X9_placeAt u₁ s₁ a₁ K₁ N₁ I₁ L₁ R₁ Q₁ := by
  delta w_X9_placeAt w_X9_placeAt_2
  have hn₁ := hU₁.2.2.2.2.1.2
  have hT₁ := hL₁.2.2.2.2.2.2.2.2.2.2
  obtain ⟨hd₁, hv₁⟩ := hD₁
  refine ⟨fun n₁ x0₁ x1₁ x2₁ x3₁ => x0₁ = u₁ ∧ x1₁ = s₁ ∧ x2₁ = a₁ ∧ ∃ i₁, i₁ ≤ ix (U₁ 5) ∧ n₁ = ix (U₁ 5) - i₁ ∧ x3₁ = nI i₁ ∧ whrS U₁ s₁ a₁ = whrB U₁ s₁ a₁ (ix (U₁ 5) - i₁) i₁, ⟨_, rfl, rfl, rfl, 0, Nat.zero_le _, rfl, rfl, rfl⟩, ?_⟩
  rintro n₁ x0₁ x1₁ x2₁ x3₁ ⟨rfl, rfl, rfl, i₁, hi₁, hm₁, rfl, hw₁⟩
  refine ⟨hL₁.1, _, hL₁.2.2.2.2.2.1, hT₁.1, fun e₁ => ?_, fun e₁ => ?_⟩
  · rw [hd₁.2.1, leN (by omega) (by omega)] at e₁
    rw [hw₁, show ix (U₁ 5) - i₁ = 0 by omega] at h₁; exact h₁
  · rw [hd₁.2.1, leN (by omega) (by omega)] at e₁
    obtain ⟨v0₁, v1₁, v2₁, -⟩ := hv₁ i₁ (by omega)
    rw [show ix (U₁ 5) - i₁ = (ix (U₁ 5) - (i₁ + 1)) + 1 by omega, whrB] at hw₁
    have back : ∀ {v₁ : Int32}, v₁ = nI i₁ + 1 → ¬ (U₁ (134 + i₁) = x1₁ ∧ U₁ (150 + i₁) ≤ x2₁ ∧ x2₁ < U₁ (166 + i₁)) → ∃ n1₁, n1₁ < n₁ ∧ (fun n₁ y0₁ y1₁ y2₁ y3₁ => y0₁ = x0₁ ∧ y1₁ = x1₁ ∧ y2₁ = x2₁ ∧ ∃ i₁, i₁ ≤ ix (U₁ 5) ∧ n₁ = ix (U₁ 5) - i₁ ∧ y3₁ = nI i₁ ∧ whrS U₁ x1₁ x2₁ = whrB U₁ x1₁ x2₁ (ix (U₁ 5) - i₁) i₁) n1₁ x0₁ x1₁ x2₁ v₁ := fun ev₁ g₁ => ⟨ix (U₁ 5) - (i₁ + 1), by omega, rfl, rfl, rfl, i₁ + 1, by omega, rfl, by rw [ev₁]; exact nI_1 i₁, by rw [if_neg g₁] at hw₁; exact hw₁⟩
    refine s_at hT₁ hd₁ ?_
    rw [show (2 : Int32) = nI 2 from rfl, tat_in (by omega) (by omega) (by omega) (by omega), v2₁]
    refine ⟨fun g₁ v₁ ev₁ => back ev₁ (fun z₁ => g₁ z₁.1), fun g₁ => s_at hT₁ hd₁ ?_⟩
    rw [show (0 : Int32) = nI 0 from rfl, tat_in (by omega) (by omega) (by omega) (by omega), v0₁]
    refine ⟨fun g2₁ v₁ ev₁ => back ev₁ (fun z₁ => absurd z₁.2.1 (Int32.not_le.mpr g2₁)), fun g2₁ => s_at hT₁ hd₁ ?_⟩
    rw [show (1 : Int32) = nI 1 from rfl, tat_in (by omega) (by omega) (by omega) (by omega), v1₁]
    refine ⟨fun g3₁ v₁ ev₁ => back ev₁ (fun z₁ => absurd z₁.2.2 (Int32.not_lt.mpr g3₁)), fun g3₁ => ?_⟩
    rw [if_pos ⟨g₁, Int32.not_lt.mp g2₁, Int32.not_le.mp g3₁⟩] at hw₁
    rw [hw₁] at h₁; exact h₁
end UN₁
