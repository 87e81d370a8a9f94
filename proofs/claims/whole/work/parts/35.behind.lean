/-! ===== isBehind, isWithin: the way outwards from a scope ===== -/
def behB (U₁ : Nat → Int32) (a₁ t₁ : Int32) : Nat → Int32 → Bool
  | 0, _ => false
  | f₁ + 1, c₁ => if c₁ = -1 then false else if c₁ = t₁ then true else behB U₁ a₁ t₁ f₁ (nicS U₁ a₁ c₁)
def behS (U₁ : Nat → Int32) (s₁ t₁ : Int32) : Bool := behB U₁ (U₁ (66 + ix s₁)) t₁ 10 s₁
theorem behB_m1 (U₁ : Nat → Int32) (a₁ t₁ : Int32) (f₁ : Nat) : behB U₁ a₁ t₁ f₁ (-1) = false := by
  cases f₁ with
  | zero => rfl
  | succ f₁ => rw [behB, if_pos rfl]
/-- the next scope outwards has fewer behind it -/
theorem nicS_cnt {U₁ : Nat → Int32} {a₁ : Int32} {s₁ t₁ : Nat} (hs₁ : WFs U₁) (hU₁ : WFc U₁) (hlt₁ : s₁ < ix (U₁ 2)) (h₁ : nicS U₁ a₁ (nI s₁) = nI t₁) (h2₁ : t₁ < ix (U₁ 2)) : cntR U₁ t₁ (ix (U₁ 2)) + 1 ≤ cntR U₁ s₁ (ix (U₁ 2)) := by
  have hn₁ := hU₁.2.1.2
  obtain ⟨-, -, g₁⟩ := nicB_prop hs₁ hU₁ (Or.inr ⟨s₁, hlt₁, rfl⟩) _ t₁ (Nat.le_refl _) (by omega) h₁
  rw [ix_nI (by omega)] at g₁
  have g₁ := cntR_lt (g₁.resolve_left (m1_ne (by omega))) (ix (U₁ 2))
  rw [if_pos h2₁] at g₁
  exact g₁
section RG₁
variable {K₁ N₁ : MK} {I₁ : MI} {L₁ : ML} {R₁ : MR} {m₁ : Nat}
theorem r_isBehind {s₁ : Nat} {t₁ : Int32} {Q₁ : Bool → Prop} (hM₁ : MDL K₁ N₁ R₁ m₁) (hU₁ : WFc (I₁ (m₁ + 2))) (hs₁ : WFs (I₁ (m₁ + 2))) (hlt₁ : s₁ < ix (I₁ (m₁ + 2) 2)) (ht₁ : t₁ ≠ -1) (h₁ : Q₁ (behS (I₁ (m₁ + 2)) (nI s₁) t₁)) : w_X12_isBehind m₁ (nI s₁) t₁ K₁ N₁ I₁ L₁ R₁ Q₁ := by
  delta w_X12_isBehind w_X12_isBehind_2
  have hn₁ := hU₁.2.1.2
  rw [behS, ix_nI (by omega)] at h₁
  have hc0₁ := cntR_le (I₁ (m₁ + 2)) s₁ (ix (I₁ (m₁ + 2) 2))
  rw [if_pos hlt₁] at hc0₁
  refine ⟨fun n₁ x0₁ x1₁ x2₁ x3₁ => x0₁ = m₁ ∧ x1₁ = nI s₁ ∧ x2₁ = t₁ ∧ Q₁ (behB (I₁ (m₁ + 2)) (I₁ (m₁ + 2) (66 + s₁)) t₁ n₁ x3₁) ∧ (x3₁ = -1 ∨ ∃ c₁, c₁ < ix (I₁ (m₁ + 2) 2) ∧ x3₁ = nI c₁ ∧ cntR (I₁ (m₁ + 2)) c₁ (ix (I₁ (m₁ + 2) 2)) + 1 ≤ n₁), ⟨10, rfl, rfl, rfl, h₁, Or.inr ⟨s₁, hlt₁, rfl, by omega⟩⟩, ?_⟩
  rintro n₁ x0₁ x1₁ x2₁ x3₁ ⟨rfl, rfl, rfl, hq₁, hc₁⟩
  refine ⟨fun e₁ => ?_, fun e₁ => ?_⟩
  · subst e₁
    rw [behB_m1] at hq₁
    exact ⟨fun _ => hq₁, fun e2₁ => absurd e2₁.symm ht₁⟩
  · obtain ⟨c₁, hlc₁, rfl, hcn₁⟩ := hc₁.resolve_left e₁
    cases n₁ with
    | zero => omega
    | succ n₁ =>
      rw [behB, if_neg e₁] at hq₁
      refine ⟨fun e2₁ => ?_, fun e2₁ => ?_⟩
      · rw [if_pos e2₁] at hq₁
        exact ⟨fun e3₁ => absurd e2₁ e3₁, fun _ => hq₁⟩
      · rw [if_neg e2₁] at hq₁
        refine ⟨hM₁.k, _, hM₁.r14, hM₁.k2, by rw [hM₁.n2]; exact vp_cn (by omega) (by decide), ?_⟩
        rw [ix_cn (by omega)]
        refine r_nextInChain hM₁ hU₁ (Or.inr ⟨c₁, by omega, rfl⟩) ⟨n₁, by omega, rfl, rfl, rfl, hq₁, ?_⟩
        rcases nicS_or (I₁ (x0₁ + 2)) (I₁ (x0₁ + 2) (66 + s₁)) (nI c₁) with z₁ | ⟨d₁, hd₁, z₁⟩
        · exact Or.inl z₁
        · exact Or.inr ⟨d₁, hd₁, z₁, by have := nicS_cnt hs₁ hU₁ hlc₁ z₁ hd₁; omega⟩
end RG₁
section UN₁
variable {K₁ N₁ : MK} {I₁ : MI} {L₁ : ML} {R₁ : MR} {u₁ : Nat} {U₁ : Nat → Int32} {W₁ : Nat → Int64}
theorem s_isWithin {s₁ : Nat} {t₁ : Int32} {Q₁ : Bool → Prop} (hL₁ : UL K₁ N₁ R₁ u₁) (hD₁ : UD2₁ I₁ L₁ u₁ U₁ W₁) (hU₁ : WFc U₁) (hs₁ : WFs U₁) (hlt₁ : s₁ < ix (U₁ 2)) (h₁ : Q₁ (behS U₁ (nI s₁) t₁)) : w_X9_isWithin u₁ (nI s₁) t₁ K₁ N₁ I₁ L₁ R₁ Q₁ := by
  delta w_X9_isWithin w_X9_isWithin_5
  have hn₁ := hU₁.2.1.2
  have hT₁ := hL₁.2.2.2.2.2.2.2.1
  rw [behS, ix_nI (by omega)] at h₁
  refine ⟨fun n₁ x0₁ x1₁ x2₁ x3₁ x4₁ => x0₁ = u₁ ∧ x1₁ = nI s₁ ∧ x2₁ = t₁ ∧ ∃ k₁, k₁ ≤ 10 ∧ n₁ = 10 - k₁ ∧ x4₁ = nI k₁ ∧ Q₁ (behB U₁ (U₁ (66 + s₁)) t₁ n₁ x3₁) ∧ orN x3₁ (ix (U₁ 2)), ⟨_, rfl, rfl, rfl, 0, Nat.zero_le _, rfl, rfl, h₁, Or.inr ⟨s₁, hlt₁, rfl⟩⟩, ?_⟩
  rintro n₁ x0₁ x1₁ x2₁ x3₁ x4₁ ⟨rfl, rfl, rfl, k₁, hk₁, hm₁, rfl, hq₁, ho₁⟩
  refine ⟨fun e₁ => ?_, fun e₁ => ⟨fun e2₁ => ?_, fun e2₁ => ⟨fun e3₁ => ?_, fun e3₁ => ?_⟩⟩⟩
  · rw [show (10 : Int32) = nI 10 from rfl, leN (by omega) (by omega)] at e₁
    rw [show n₁ = 0 by omega, behB] at hq₁; exact hq₁
  · rw [e2₁, behB_m1] at hq₁; exact hq₁
  · rw [show (10 : Int32) = nI 10 from rfl, leN (by omega) (by omega)] at e₁
    obtain ⟨p₁, rfl⟩ : ∃ p₁, n₁ = p₁ + 1 := ⟨n₁ - 1, by omega⟩
    rw [behB, if_neg e2₁, if_neg e3₁] at hq₁
    refine ⟨hL₁.1, _, hL₁.2.2.1, hT₁.1, s_at hT₁ hD₁.1 ?_⟩
    rw [show (0 : Int32) = nI 0 from rfl, tat_in hlt₁ (by omega) (by omega) (by omega), (hD₁.2 s₁ hlt₁).1]
    refine s_scopeBehind hL₁ hD₁ hU₁ hs₁ ho₁ (fun v₁ ev₁ => ⟨p₁, by omega, rfl, rfl, rfl, k₁ + 1, by omega, by omega, by rw [ev₁]; exact nI_1 k₁, hq₁, nicS_or U₁ _ _⟩)
  · rw [show (10 : Int32) = nI 10 from rfl, leN (by omega) (by omega)] at e₁
    obtain ⟨p₁, rfl⟩ : ∃ p₁, n₁ = p₁ + 1 := ⟨n₁ - 1, by omega⟩
    rw [behB, if_neg e2₁, if_pos e3₁] at hq₁; exact hq₁
end UN₁
