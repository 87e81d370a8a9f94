/-! ===== the class's chain: scopeBehind is nicS ===== -/
section UN₁
variable {K₁ N₁ : MK} {I₁ : MI} {L₁ : ML} {R₁ : MR} {u₁ : Nat} {U₁ : Nat → Int32} {W₁ : Nat → Int64}
/-- what is behind one in a chain by its rank -/
theorem nicB_step {a₁ b₁ : Int32} {s₁ : Nat} (hs₁ : WFs U₁) (hU₁ : WFc U₁) (hk₁ : s₁ < ix (U₁ 2)) (hb₁ : orN b₁ (ix (U₁ 2))) : nicB U₁ a₁ b₁ (s₁ + 1) = if hasS U₁ s₁ a₁ = true ∧ (b₁ = -1 ∨ rnkS U₁ (ix b₁) < rnkS U₁ s₁) ∧ (nicB U₁ a₁ b₁ s₁ = -1 ∨ rnkS U₁ s₁ < rnkS U₁ (ix (nicB U₁ a₁ b₁ s₁))) then nI s₁ else nicB U₁ a₁ b₁ s₁ := by
  rw [nicB]
  have hn₁ := hU₁.2.1.2
  have e1₁ : (decide (b₁ = -1) || innS U₁ (ix b₁) s₁) = true ↔ (b₁ = -1 ∨ rnkS U₁ (ix b₁) < rnkS U₁ s₁) := by
    rw [Bool.or_eq_true, decide_eq_true_eq]
    rcases hb₁ with e₁ | ⟨j₁, hj₁, e₁⟩
    · simp [e₁]
    · rw [e₁, ix_nI (by omega), innS_iff hs₁ hU₁ hj₁ hk₁]
  have e2₁ : (decide (nicB U₁ a₁ b₁ s₁ = -1) || innS U₁ s₁ (ix (nicB U₁ a₁ b₁ s₁))) = true ↔ (nicB U₁ a₁ b₁ s₁ = -1 ∨ rnkS U₁ s₁ < rnkS U₁ (ix (nicB U₁ a₁ b₁ s₁))) := by
    rw [Bool.or_eq_true, decide_eq_true_eq]
    rcases nicB_or U₁ a₁ b₁ s₁ with e₁ | ⟨j₁, hj₁, e₁⟩
    · simp [e₁]
    · rw [e₁, ix_nI (by omega), innS_iff hs₁ hU₁ hk₁ (by omega)]
  by_cases c₁ : hasS U₁ s₁ a₁ = true ∧ (b₁ = -1 ∨ rnkS U₁ (ix b₁) < rnkS U₁ s₁) ∧ (nicB U₁ a₁ b₁ s₁ = -1 ∨ rnkS U₁ s₁ < rnkS U₁ (ix (nicB U₁ a₁ b₁ s₁)))
  · rw [if_pos c₁, if_pos]
    rw [Bool.and_eq_true, Bool.and_eq_true]
    exact ⟨⟨c₁.1, e1₁.mpr c₁.2.1⟩, e2₁.mpr c₁.2.2⟩
  · rw [if_neg c₁, if_neg]
    intro z₁
    rw [Bool.and_eq_true, Bool.and_eq_true] at z₁
    exact c₁ ⟨z₁.1.1, e1₁.mp z₁.1.2, e2₁.mp z₁.2⟩
theorem rnkS_pos {s₁ : Nat} (hs₁ : WFs U₁) (hU₁ : WFc U₁) (hk₁ : s₁ < ix (U₁ 2)) : (-1 : Int32) < rnkS U₁ s₁ := by
  obtain ⟨w₁, a1₁, a2₁, a3₁, a4₁⟩ := rnkS_eq hs₁ hU₁ hk₁
  rw [a4₁]; exact m1_ltN (by omega)
theorem s_scopeBehind {a₁ b₁ : Int32} {Q₁ : Int32 → Prop} (hL₁ : UL K₁ N₁ R₁ u₁) (hD₁ : UD2₁ I₁ L₁ u₁ U₁ W₁) (hU₁ : WFc U₁) (hs₁ : WFs U₁) (hb₁ : orN b₁ (ix (U₁ 2))) (h₁ : Q₁ (nicS U₁ a₁ b₁)) : w_X9_scopeBehind u₁ a₁ b₁ K₁ N₁ I₁ L₁ R₁ Q₁ := by
  have hn₁ := hU₁.2.1.2
  have hT₁ := hL₁.2.2.2.2.2.2.2.1
  have hd₁ := hD₁.1
  have hv₁ := hD₁.2
  have at3₁ : ∀ {k₁ : Nat}, k₁ < ix (U₁ 2) → tat I₁ (u₁ + 4) 4 (ix (U₁ 2)) (nI k₁) 3 = rnkS U₁ k₁ := fun hk₁ => by
    rw [show (3 : Int32) = nI 3 from rfl, tat_in hk₁ (by omega) (by omega) (by omega), (hv₁ _ hk₁).2.2.2.1]
  obtain ⟨lst₁, hlst, hl1₁, hl2₁⟩ : ∃ r₁ : Int32, r₁ = tat I₁ (u₁ + 4) 4 (ix (U₁ 2)) b₁ 3 ∧ (b₁ = -1 → r₁ = -1) ∧ (∀ k₁, k₁ < ix (U₁ 2) → b₁ = nI k₁ → r₁ = rnkS U₁ k₁) := ⟨_, rfl, fun e₁ => by rw [e₁]; exact tat_m1, fun k₁ hk₁ e₁ => by rw [e₁]; exact at3₁ hk₁⟩
  refine ⟨hL₁.1, _, hL₁.2.2.1, hT₁.1, s_at hT₁ hd₁ ?_⟩
  rw [← hlst]
  delta w_X9_scopeBehind_16
  refine ⟨fun n₁ x0₁ x1₁ x3₁ x4₁ x5₁ => x0₁ = u₁ ∧ x1₁ = a₁ ∧ x4₁ = lst₁ ∧ ∃ s₁, s₁ ≤ ix (U₁ 2) ∧ n₁ = ix (U₁ 2) - s₁ ∧ x5₁ = nI s₁ ∧ x3₁ = nicB U₁ a₁ b₁ s₁, ⟨_, rfl, rfl, rfl, 0, Nat.zero_le _, rfl, rfl, rfl⟩, ?_⟩
  rintro n₁ x0₁ x1₁ x3₁ x4₁ x5₁ ⟨rfl, rfl, rfl, s₁, hle₁, hm₁, rfl, rfl⟩
  refine ⟨hL₁.1, _, hL₁.2.2.1, hT₁.1, fun e₁ => ?_, fun e₁ => ?_⟩
  · rw [hd₁.2.1, leN (by omega) (by omega)] at e₁
    rw [nicS, show ix (U₁ 2) = s₁ by omega] at h₁; exact h₁
  · rw [hd₁.2.1, leN (by omega) (by omega)] at e₁
    have hk₁ : s₁ < ix (U₁ 2) := by omega
    have st₁ := nicB_step (a₁ := x1₁) hs₁ hU₁ hk₁ hb₁
    have cb₁ : (b₁ = -1 ∨ rnkS U₁ (ix b₁) < rnkS U₁ s₁) ↔ x4₁ < rnkS U₁ s₁ := by
      rcases hb₁ with e1₁ | ⟨j₁, hj₁, e1₁⟩
      · rw [hl1₁ e1₁]; exact ⟨fun _ => rnkS_pos hs₁ hU₁ hk₁, fun _ => Or.inl e1₁⟩
      · rw [hl2₁ j₁ hj₁ e1₁, e1₁, ix_nI (by omega)]
        exact ⟨fun g₁ => g₁.resolve_left (m1_ne (by omega)), Or.inr⟩
    have back : ∀ {z₁ v₁ : Int32}, v₁ = nI s₁ + 1 → z₁ = nicB U₁ x1₁ b₁ (s₁ + 1) → ∃ n1₁, n1₁ < n₁ ∧ (fun n₁ y0₁ y1₁ y3₁ y4₁ y5₁ => y0₁ = x0₁ ∧ y1₁ = x1₁ ∧ y4₁ = x4₁ ∧ ∃ s₁, s₁ ≤ ix (U₁ 2) ∧ n₁ = ix (U₁ 2) - s₁ ∧ y5₁ = nI s₁ ∧ y3₁ = nicB U₁ x1₁ b₁ s₁) n1₁ x0₁ x1₁ z₁ x4₁ v₁ := fun ev₁ ez₁ => ⟨ix (U₁ 2) - (s₁ + 1), by omega, rfl, rfl, rfl, s₁ + 1, by omega, by rfl, by rw [ev₁]; exact nI_1 s₁, ez₁⟩
    have h64₁ : ∀ q₁ : Int32, (q₁ = 0 ↔ ¬ (nicB U₁ x1₁ b₁ s₁ = -1 ∨ rnkS U₁ s₁ < rnkS U₁ (ix (nicB U₁ x1₁ b₁ s₁)))) → w_X9_scopeBehind_64 x0₁ x1₁ (nicB U₁ x1₁ b₁ s₁) x4₁ (nI s₁) (rnkS U₁ s₁) q₁ K₁ N₁ I₁ L₁ R₁ (fun y0₁ y1₁ y3₁ y4₁ y5₁ => ∃ n1₁, n1₁ < n₁ ∧ (fun n₁ y0₁ y1₁ y3₁ y4₁ y5₁ => y0₁ = x0₁ ∧ y1₁ = x1₁ ∧ y4₁ = x4₁ ∧ ∃ s₁, s₁ ≤ ix (U₁ 2) ∧ n₁ = ix (U₁ 2) - s₁ ∧ y5₁ = nI s₁ ∧ y3₁ = nicB U₁ x1₁ b₁ s₁) n1₁ y0₁ y1₁ y3₁ y4₁ y5₁) Q₁ := by
      intro q₁ hq₁
      delta w_X9_scopeBehind_64
      refine ⟨hL₁.1, s_scopeHas hL₁ hD₁ hU₁ hs₁ hk₁ ⟨fun eh₁ v₁ ev₁ => back ev₁ ?_, fun eh₁ => ⟨fun el₁ v₁ ev₁ => back ev₁ ?_, fun el₁ => ⟨fun e0₁ v₁ ev₁ => back ev₁ ?_, fun e0₁ v₁ ev₁ => back ev₁ ?_⟩⟩⟩⟩
      · rw [st₁, if_neg]; rintro ⟨g₁, -⟩; rw [eh₁] at g₁; cases g₁
      · rw [st₁, if_neg]; rintro ⟨-, g₁, -⟩; exact absurd (cb₁.mp g₁) (Int32.not_lt.mpr el₁)
      · rw [st₁, if_neg]; rintro ⟨-, -, g₁⟩; exact (hq₁.mp e0₁) g₁
      · rw [st₁, if_pos]
        exact ⟨eh₁, cb₁.mpr (Int32.not_le.mp el₁), Classical.byContradiction fun g₁ => e0₁ (hq₁.mpr g₁)⟩
    refine s_at hT₁ hd₁ ?_
    rw [at3₁ hk₁]
    refine ⟨fun e1₁ => ?_, fun e1₁ => ?_⟩
    · exact h64₁ 1 ⟨fun g₁ => absurd g₁ (by decide), fun g₁ => absurd (Or.inl e1₁) g₁⟩
    · refine s_at hT₁ hd₁ ?_
      rcases nicB_or U₁ x1₁ b₁ s₁ with e2₁ | ⟨j₁, hj₁, e2₁⟩
      · exact absurd e2₁ e1₁
      · have e3₁ : tat I₁ (x0₁ + 4) 4 (ix (U₁ 2)) (nicB U₁ x1₁ b₁ s₁) 3 = rnkS U₁ j₁ := by rw [e2₁]; exact at3₁ (by omega)
        have e4₁ : ix (nicB U₁ x1₁ b₁ s₁) = j₁ := by rw [e2₁, ix_nI (by omega)]
        rw [e3₁]
        refine ⟨fun g₁ => h64₁ 0 ⟨fun _ z₁ => ?_, fun _ => rfl⟩, fun g₁ => h64₁ 1 ⟨fun z₁ => absurd z₁ (by decide), fun z₁ => ?_⟩⟩
        · rcases z₁ with z₁ | z₁
          · exact e1₁ z₁
          · rw [e4₁] at z₁; exact absurd z₁ (Int32.not_lt.mpr g₁)
        · exact absurd (Or.inr (by rw [e4₁]; exact Int32.not_le.mp g₁)) z₁
end UN₁
