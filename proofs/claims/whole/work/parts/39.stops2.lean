/-! ===== the class's machine: a stop set ===== -/
def vst₁ (V₁ : Nat → Int32) (k₁ : Nat) (v₁ : Int32) (j₁ : Nat) : Int32 := if j₁ = k₁ then v₁ else V₁ j₁
section UN₁
variable {K₁ N₁ : MK} {I₁ : MI} {L₁ : ML} {R₁ : MR} {c₁ x₁ : Nat} {V₁ : Nat → Int32}
theorem MACD_fr {J₁ : MI} (h₁ : MACD I₁ c₁ V₁) (g₁ : ∀ b₁, b₁ = c₁ ∨ b₁ = c₁ + 1 ∨ b₁ = c₁ + 2 ∨ b₁ = c₁ + 3 → J₁ b₁ = I₁ b₁) : MACD J₁ c₁ V₁ := by
  rw [MACD, g₁ c₁ (Or.inl rfl), g₁ (c₁ + 1) (Or.inr (Or.inl rfl)), g₁ (c₁ + 2) (Or.inr (Or.inr (Or.inl rfl))), g₁ (c₁ + 3) (Or.inr (Or.inr (Or.inr rfl)))]
  exact h₁
theorem s_hasStop {l₁ : Int32} {Q₁ : Bool → Prop} (hL₁ : MAL K₁ N₁ R₁ c₁) (hD₁ : MACD I₁ c₁ V₁) (h₁ : Q₁ (decide (stpS V₁ l₁ ≠ -1))) : w_X3_hasStop c₁ l₁ K₁ N₁ I₁ L₁ R₁ Q₁ := by
  refine ⟨hL₁.1, s_stopOf hL₁ hD₁ ⟨fun e₁ => ?_, fun e₁ => ?_⟩⟩
  · rw [decide_eq_false (fun z₁ => z₁ e₁)] at h₁; exact h₁
  · rw [decide_eq_true e₁] at h₁; exact h₁
theorem s_addStop {l₁ : Int32} {Q₁ : Int32 → MI → Prop} (hL₁ : MAL K₁ N₁ R₁ c₁) (hD₁ : MACD I₁ c₁ V₁)
    (h1₁ : stpS V₁ l₁ ≠ -1 → Q₁ 1 I₁) (h2₁ : stpS V₁ l₁ = -1 → V₁ 2 = nI 8 → Q₁ 2 I₁)
    (h0₁ : stpS V₁ l₁ = -1 → ∀ n₁, V₁ 2 = nI n₁ → n₁ < 8 → ∀ J₁, MACD J₁ c₁ (vst₁ (vst₁ V₁ (3 + n₁) l₁) 2 (nI (n₁ + 1))) → (∀ b₁, b₁ ≠ c₁ → b₁ ≠ c₁ + 3 → J₁ b₁ = I₁ b₁) → Q₁ 0 J₁) : w_X3_addStop c₁ l₁ K₁ N₁ I₁ L₁ R₁ Q₁ := by
  refine ⟨hL₁.1, s_hasStop hL₁ hD₁ ⟨fun e₁ => ?_, fun e₁ => h1₁ (of_decide_eq_true e₁)⟩⟩
  have e₁ : stpS V₁ l₁ = -1 := Decidable.not_not.mp (of_decide_eq_false e₁)
  obtain ⟨d1₁, d2₁, d3₁, ⟨n₁, e2₁, hn₁, hv₁⟩, d5₁, d6₁⟩ := hD₁
  rw [d3₁, e2₁]
  refine ⟨fun f₁ => ⟨_, hL₁.2.2.2.1, hL₁.2.2.2.2.2.2.2.2.1, ?_⟩, fun f₁ => h2₁ e₁ ?_⟩
  · rw [show (8 : Int32) = nI 8 from rfl, ltN (by omega) (by omega)] at f₁
    rw [hL₁.2.2.2.2.2.2.2.2.2, ix_nI (by omega)]
    refine ⟨(vp_nI (by omega)).mpr f₁, fun J1₁ g1₁ J2₁ g2₁ => h0₁ e₁ n₁ e2₁ f₁ J2₁ ?_ ?_⟩
    · rw [g1₁, mup_ne (by omega), d3₁, e2₁, nI_1] at g2₁
      have gc₁ : ∀ y₁, y₁ ≠ 3 → J2₁ c₁ y₁ = I₁ c₁ y₁ := fun y₁ hy₁ => by rw [g2₁, mup_k hy₁, mup_ne (by omega)]
      have gb₁ : ∀ b₁, b₁ ≠ c₁ → b₁ ≠ c₁ + 3 → J2₁ b₁ = I₁ b₁ := fun b₁ p₁ q₁ => by rw [g2₁, mup_ne p₁, mup_ne q₁]
      refine ⟨?_, ?_, ?_, ⟨n₁ + 1, by rw [vst₁, if_pos rfl], by omega, fun k₁ hk₁ => ?_⟩, fun k₁ hk₁ => ?_, fun k₁ hk₁ => ?_⟩
      · rw [gc₁ 4 (by decide), d1₁, vst₁, if_neg (by omega), vst₁, if_neg (by omega)]
      · rw [gc₁ 5 (by decide), d2₁, vst₁, if_neg (by omega), vst₁, if_neg (by omega)]
      · rw [g2₁, mup_at, vst₁, if_pos rfl]
      · rw [vst₁, if_neg (by omega), vst₁, g2₁, mup_ne (by omega)]
        by_cases q₁ : k₁ = n₁
        · rw [q₁, mup_at, if_pos rfl]
        · rw [mup_k q₁, if_neg (by omega)]; exact hv₁ k₁ (by omega)
      · rw [gb₁ (c₁ + 1) (by omega) (by omega), d5₁ k₁ hk₁, vst₁, if_neg (by omega), vst₁, if_neg (by omega)]
      · rw [gb₁ (c₁ + 2) (by omega) (by omega), d6₁ k₁ hk₁, vst₁, if_neg (by omega), vst₁, if_neg (by omega)]
    · intro b₁ p₁ q₁
      rw [g2₁, g1₁, mup_ne p₁, mup_ne q₁]
  · rw [show (8 : Int32) = nI 8 from rfl, ltN (by omega) (by omega)] at f₁
    rw [e2₁, show n₁ = 8 by omega]
end UN₁
