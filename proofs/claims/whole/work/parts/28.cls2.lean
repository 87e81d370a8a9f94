/-! ===== the class: lineAt, placeOf, addressOf ===== -/
theorem adrF_neg {U₁ : Nat → Int32} {line k₁ : Int32} (hk₁ : k₁ < 0) : ∀ (f₁ i₁ n₁ : Nat), n₁ + f₁ < 2147483648 → adrF U₁ line k₁ f₁ i₁ n₁ = -1
  | 0, _, _, _ => rfl
  | f₁ + 1, i₁, n₁, h₁ => by
    rw [adrF]
    have : ¬ nI n₁ = k₁ := fun e₁ => (show ¬ nI n₁ < 0 from nlt0 (by omega)) (by rw [e₁]; exact hk₁)
    rw [if_neg this]
    split <;> exact adrF_neg hk₁ f₁ _ _ (by omega)
section UN₁
variable {K₁ N₁ : MK} {I₁ : MI} {L₁ : ML} {R₁ : MR} {u₁ x₁ : Nat} {U₁ : Nat → Int32} {W₁ : Nat → Int64}
theorem s_lineAt {a₁ : Int32} {Q₁ : Int32 → Prop} (hX₁ : PDL K₁ N₁ R₁ x₁) (h0₁ : I₁ (x₁ + 3) 0 = U₁ 0) (hD₁ : UD1₁ I₁ (x₁ + 3) U₁) (hU₁ : WFc U₁) (hr₁ : WFr U₁) (h₁ : Q₁ (if adr U₁ a₁ = true then lineOf U₁ a₁ else -1)) : w_X11_lineAt x₁ a₁ K₁ N₁ I₁ L₁ R₁ Q₁ :=
  ⟨hX₁.k, _, hX₁.r_unit, hX₁.un.1, s_lineOf hX₁.un h0₁ hD₁ hU₁ hr₁ h₁⟩
theorem s_placeOf {v₁ a₁ : Int32} {Q₁ : Int32 → Prop} (hX₁ : PDL K₁ N₁ R₁ x₁) (hD₁ : UD5₁ I₁ (x₁ + 3) U₁) (hU₁ : WFc U₁) (h₁ : Q₁ (whrS U₁ v₁ a₁)) : w_X11_placeOf x₁ v₁ a₁ K₁ N₁ I₁ L₁ R₁ Q₁ :=
  ⟨hX₁.k, _, hX₁.r_unit, hX₁.un.1, s_placeAt hX₁.un hD₁ hU₁ h₁⟩
theorem s_addressOf {line k₁ : Int32} {Q₁ : Int32 → Prop} (hX₁ : PDL K₁ N₁ R₁ x₁) (hD₁ : UD1₁ I₁ (x₁ + 3) U₁) (hU₁ : WFc U₁) (h₁ : Q₁ (adrS U₁ line k₁)) : w_X11_addressOf x₁ line k₁ K₁ N₁ I₁ L₁ R₁ Q₁ := by
  delta w_X11_addressOf w_X11_addressOf_5
  have hn₁ := hU₁.1.2
  have hL₁ := hX₁.un
  have hT₁ := hL₁.2.2.2.2.2.2.1
  have hd₁ := hD₁.1
  have hv₁ := hD₁.2
  refine ⟨fun n₁ x0₁ x1₁ x3₁ x4₁ => x0₁ = x₁ ∧ x1₁ = line ∧ ∃ i₁ c₁, i₁ ≤ ix (U₁ 1) ∧ c₁ ≤ i₁ ∧ n₁ = ix (U₁ 1) - i₁ ∧ x4₁ = nI i₁ ∧ adrS U₁ line k₁ = adrF U₁ line k₁ (ix (U₁ 1) - i₁) i₁ c₁ ∧ ((k₁ < 0 ∧ x3₁ < 0) ∨ ∃ j₁, j₁ < 2147483648 ∧ k₁ = nI j₁ ∧ c₁ ≤ j₁ ∧ x3₁ = nI (j₁ - c₁)), ⟨_, rfl, rfl, 0, 0, Nat.zero_le _, Nat.le_refl _, rfl, rfl, rfl, ?_⟩, ?_⟩
  · rcases nI_or k₁ with e₁ | ⟨j₁, hj₁, e₁⟩
    · exact Or.inl ⟨e₁, e₁⟩
    · exact Or.inr ⟨j₁, hj₁, e₁, Nat.zero_le _, e₁⟩
  · rintro n₁ x0₁ x1₁ x3₁ x4₁ ⟨rfl, rfl, i₁, c₁, hi₁, hc₁, hm₁, rfl, hq₁, ho₁⟩
    refine ⟨hX₁.k, _, hX₁.r_unit, hL₁.1, _, hL₁.2.1, hT₁.1, fun e₁ => ?_, fun e₁ => ⟨fun e2₁ => ?_, fun e2₁ => s_at hT₁ hd₁ ?_⟩⟩
    · rw [hd₁.2.1, leN (by omega) (by omega)] at e₁
      rw [hq₁, show ix (U₁ 1) - i₁ = 0 by omega] at h₁; exact h₁
    · rcases ho₁ with ⟨o1₁, -⟩ | ⟨j₁, hj₁, o1₁, o2₁, o3₁⟩
      · rw [hq₁, adrF_neg o1₁ _ _ _ (by omega)] at h₁; exact h₁
      · rw [o3₁] at e2₁; exact absurd e2₁ (nlt0 (by omega))
    · rw [hd₁.2.1, leN (by omega) (by omega)] at e₁
      obtain ⟨j₁, hj₁, o1₁, o2₁, o3₁⟩ : ∃ j₁, j₁ < 2147483648 ∧ k₁ = nI j₁ ∧ c₁ ≤ j₁ ∧ x3₁ = nI (j₁ - c₁) := ho₁.resolve_left (fun z₁ => e2₁ z₁.2)
      rw [show ix (U₁ 1) - i₁ = (ix (U₁ 1) - (i₁ + 1)) + 1 by omega, adrF] at hq₁
      rw [show (1 : Int32) = nI 1 from rfl, tat_in (by omega) (by omega) (by omega) (by omega), (hv₁ i₁ (by omega)).2]
      refine ⟨fun g₁ v₁ ev₁ => ⟨ix (U₁ 1) - (i₁ + 1), by omega, rfl, rfl, i₁ + 1, c₁, by omega, by omega, rfl, by rw [ev₁]; exact nI_1 i₁, ?_, Or.inr ⟨j₁, hj₁, o1₁, o2₁, o3₁⟩⟩, fun g₁ => ⟨fun g2₁ y₁ ey₁ v₁ ev₁ => ?_, fun g2₁ => s_at hT₁ hd₁ ?_⟩⟩
      · rw [if_neg g₁] at hq₁; exact hq₁
      · rw [o3₁, show (0 : Int32) = nI 0 from rfl, eqN (by omega) (by omega)] at g2₁
        refine ⟨ix (U₁ 1) - (i₁ + 1), by omega, rfl, rfl, i₁ + 1, c₁ + 1, by omega, by omega, rfl, by rw [ev₁]; exact nI_1 i₁, ?_, Or.inr ⟨j₁, hj₁, o1₁, by omega, ?_⟩⟩
        · rw [if_pos g₁, if_neg (by rw [o1₁, eqN (by omega) (by omega)]; omega)] at hq₁; exact hq₁
        · rw [ey₁, o3₁, show (-nI 1 : Int32) = -1 from rfl, addm1 (by omega)]; congr 1
      · rw [o3₁, show (0 : Int32) = nI 0 from rfl, eqN (by omega) (by omega)] at g2₁
        rw [show (0 : Int32) = nI 0 from rfl, tat_in (by omega) (by omega) (by omega) (by omega), (hv₁ i₁ (by omega)).1]
        rw [if_pos g₁, if_pos (by rw [o1₁]; congr 1; omega)] at hq₁
        rw [hq₁] at h₁; exact h₁
end UN₁
