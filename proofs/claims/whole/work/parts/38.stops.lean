/-! ===== the machine's stops: the place of a stop ===== -/
def stpB (V₁ : Nat → Int32) (l₁ : Int32) : Nat → Nat → Int32
  | 0, _ => -1
  | f₁ + 1, i₁ => if V₁ (3 + i₁) = l₁ then nI i₁ else stpB V₁ l₁ f₁ (i₁ + 1)
def stpS (V₁ : Nat → Int32) (l₁ : Int32) : Int32 := stpB V₁ l₁ (ix (V₁ 2)) 0
theorem stpB_or (V₁ : Nat → Int32) (l₁ : Int32) (f₁ i₁ : Nat) : stpB V₁ l₁ f₁ i₁ = -1 ∨ ∃ j₁, i₁ ≤ j₁ ∧ j₁ < i₁ + f₁ ∧ stpB V₁ l₁ f₁ i₁ = nI j₁ ∧ V₁ (3 + j₁) = l₁ := by
  induction f₁ generalizing i₁ with
  | zero => exact Or.inl rfl
  | succ f₁ ih₁ =>
    rw [stpB]
    split
    · exact Or.inr ⟨i₁, Nat.le_refl _, by omega, rfl, by assumption⟩
    · rcases ih₁ (i₁ + 1) with e₁ | ⟨j₁, h1₁, h2₁, h3₁, h4₁⟩
      · exact Or.inl e₁
      · exact Or.inr ⟨j₁, by omega, by omega, h3₁, h4₁⟩
section UN₁
variable {K₁ N₁ : MK} {I₁ : MI} {L₁ : ML} {R₁ : MR} {c₁ x₁ : Nat} {V₁ : Nat → Int32}
theorem s_stopOf {l₁ : Int32} {Q₁ : Int32 → Prop} (hL₁ : MAL K₁ N₁ R₁ c₁) (hD₁ : MACD I₁ c₁ V₁) (h₁ : Q₁ (stpS V₁ l₁)) : w_X3_stopOf c₁ l₁ K₁ N₁ I₁ L₁ R₁ Q₁ := by
  delta w_X3_stopOf w_X3_stopOf_2
  obtain ⟨d1₁, d2₁, d3₁, ⟨n₁, e2₁, hn₁, hv₁⟩, d5₁, d6₁⟩ := hD₁
  rw [stpS, e2₁, ix_nI (by omega)] at h₁
  refine ⟨fun k₁ x0₁ x1₁ x2₁ => x0₁ = c₁ ∧ x1₁ = l₁ ∧ ∃ i₁, i₁ ≤ n₁ ∧ k₁ = n₁ - i₁ ∧ x2₁ = nI i₁ ∧ Q₁ (stpB V₁ l₁ k₁ i₁), ⟨_, rfl, rfl, 0, Nat.zero_le _, rfl, rfl, h₁⟩, ?_⟩
  rintro k₁ x0₁ x1₁ x2₁ ⟨rfl, rfl, i₁, hi₁, hm₁, rfl, hq₁⟩
  rw [d3₁, e2₁]
  refine ⟨hL₁.1, fun e₁ => ?_, fun e₁ => ⟨fun f₁ => ?_, fun f₁ => ⟨_, hL₁.2.2.2.1, hL₁.2.2.2.2.2.2.2.2.1, ?_⟩⟩⟩
  · rw [leN (by omega) (by omega)] at e₁
    rw [show k₁ = 0 by omega, stpB] at hq₁; exact hq₁
  · rw [leN (by omega) (by omega)] at e₁
    rw [show (8 : Int32) = nI 8 from rfl, leN (by omega) (by omega)] at f₁
    omega
  · rw [leN (by omega) (by omega)] at e₁
    obtain ⟨p₁, rfl⟩ : ∃ p₁, k₁ = p₁ + 1 := ⟨k₁ - 1, by omega⟩
    rw [stpB] at hq₁
    rw [hL₁.2.2.2.2.2.2.2.2.2, ix_nI (by omega), hv₁ i₁ (by omega)]
    refine ⟨(vp_nI (by omega)).mpr (by omega), fun g₁ v₁ ev₁ => ⟨p₁, by omega, rfl, rfl, i₁ + 1, by omega, by omega, by rw [ev₁]; exact nI_1 i₁, ?_⟩, fun g₁ => ?_⟩
    · rw [if_neg g₁] at hq₁; exact hq₁
    · rw [if_pos g₁] at hq₁; exact hq₁
end UN₁
section RG₁
variable {K₁ N₁ : MK} {I₁ : MI} {L₁ : ML} {R₁ : MR} {m₁ : Nat}
theorem r_stopAt {l₁ : Int32} {n₁ : Nat} {Q₁ : Int32 → Prop} (hM₁ : MDL K₁ N₁ R₁ m₁) (e2₁ : I₁ (m₁ + 2) 344 = nI n₁) (hn₁ : n₁ ≤ 8) (h₁ : Q₁ (stpS (macV (I₁ (m₁ + 2))) l₁)) : w_X12_stopAt m₁ l₁ K₁ N₁ I₁ L₁ R₁ Q₁ := by
  delta w_X12_stopAt w_X12_stopAt_2
  rw [stpS, show macV (I₁ (m₁ + 2)) 2 = nI n₁ from e2₁, ix_nI (by omega)] at h₁
  refine ⟨fun k₁ x0₁ x1₁ x2₁ => x0₁ = m₁ ∧ x1₁ = l₁ ∧ ∃ i₁, i₁ ≤ n₁ ∧ k₁ = n₁ - i₁ ∧ x2₁ = nI i₁ ∧ Q₁ (stpB (macV (I₁ (m₁ + 2))) l₁ k₁ i₁), ⟨_, rfl, rfl, 0, Nat.zero_le _, rfl, rfl, h₁⟩, ?_⟩
  rintro k₁ x0₁ x1₁ x2₁ ⟨rfl, rfl, i₁, hi₁, hm₁, rfl, hq₁⟩
  refine ⟨hM₁.k, _, hM₁.r14, hM₁.k2, by rw [hM₁.n2]; exact vp_c (by decide) (by decide), fun e₁ => ?_, fun e₁ => ?_⟩
  · rw [ix_c (by decide), e2₁, leN (by omega) (by omega)] at e₁
    rw [show k₁ = 0 by omega, stpB] at hq₁; exact hq₁
  · rw [ix_c (by decide), e2₁, leN (by omega) (by omega)] at e₁
    obtain ⟨p₁, rfl⟩ : ∃ p₁, k₁ = p₁ + 1 := ⟨k₁ - 1, by omega⟩
    rw [stpB, macV, show 342 + (3 + i₁) = 345 + i₁ by omega] at hq₁
    rw [hM₁.n2, ix_cn (by omega)]
    refine ⟨vp_cn (by omega) (by decide), fun g₁ v₁ ev₁ => ⟨p₁, by omega, rfl, rfl, i₁ + 1, by omega, by omega, by rw [ev₁]; exact nI_1 i₁, ?_⟩, fun g₁ => ?_⟩
    · rw [if_neg g₁] at hq₁; exact hq₁
    · rw [if_pos g₁] at hq₁; exact hq₁
end RG₁
