/-! ===== the class's machine: a stop dropped ===== -/
section UN₁
variable {K₁ N₁ : MK} {I₁ : MI} {L₁ : ML} {R₁ : MR} {c₁ x₁ : Nat} {V₁ : Nat → Int32}
theorem s_dropStop {l₁ : Int32} {Q₁ : Int32 → MI → Prop} (hL₁ : MAL K₁ N₁ R₁ c₁) (hD₁ : MACD I₁ c₁ V₁)
    (h1₁ : stpS V₁ l₁ = -1 → Q₁ 1 I₁)
    (h0₁ : ∀ j₁ n₁, stpS V₁ l₁ = nI j₁ → V₁ 2 = nI (n₁ + 1) → n₁ < 8 → j₁ < n₁ + 1 → ∀ J₁, MACD J₁ c₁ (vst₁ (vst₁ V₁ 2 (nI n₁)) (3 + j₁) (V₁ (3 + n₁))) → (∀ b₁, b₁ ≠ c₁ → b₁ ≠ c₁ + 3 → J₁ b₁ = I₁ b₁) → Q₁ 0 J₁) : w_X3_dropStop c₁ l₁ K₁ N₁ I₁ L₁ R₁ Q₁ := by
  refine ⟨hL₁.1, s_stopOf hL₁ hD₁ ⟨fun e₁ => ?_, h1₁⟩⟩
  obtain ⟨d1₁, d2₁, d3₁, ⟨n₁, e2₁, hn₁, hv₁⟩, d5₁, d6₁⟩ := hD₁
  obtain ⟨j₁, -, hj₁, ej₁, -⟩ := (stpB_or V₁ l₁ (ix (V₁ 2)) 0).resolve_left e₁
  have ej₁ : stpS V₁ l₁ = nI j₁ := ej₁
  rw [e2₁, ix_nI (by omega)] at hj₁
  obtain ⟨p₁, rfl⟩ : ∃ p₁, n₁ = p₁ + 1 := ⟨n₁ - 1, by omega⟩
  rw [d3₁, e2₁, nI_pred, ej₁, ix_nI (by omega)]
  refine fun J1₁ g1₁ => ⟨_, hL₁.2.2.2.1, hL₁.2.2.2.2.2.2.2.2.1, ?_⟩
  have q3₁ : J1₁ c₁ 3 = nI p₁ := by rw [g1₁, mup_at]
  rw [q3₁, hL₁.2.2.2.2.2.2.2.2.2, ix_nI (by omega)]
  refine ⟨(vp_nI (by omega)).mpr (by omega), (vp_nI (by omega)).mpr (by omega), fun J2₁ g2₁ => h0₁ j₁ p₁ ej₁ e2₁ (by omega) (by omega) J2₁ ?_ ?_⟩
  · have gv₁ : J1₁ (c₁ + 3) = I₁ (c₁ + 3) := by rw [g1₁, mup_ne (by omega)]
    rw [gv₁, hv₁ p₁ (by omega)] at g2₁
    have gc₁ : ∀ y₁, y₁ ≠ 3 → J2₁ c₁ y₁ = I₁ c₁ y₁ := fun y₁ hy₁ => by rw [g2₁, mup_ne (by omega), g1₁, mup_k hy₁]
    have gb₁ : ∀ b₁, b₁ ≠ c₁ → b₁ ≠ c₁ + 3 → J2₁ b₁ = I₁ b₁ := fun b₁ p₁ q₁ => by rw [g2₁, mup_ne q₁, g1₁, mup_ne p₁]
    refine ⟨?_, ?_, ?_, ⟨p₁, by rw [vst₁, if_neg (by omega), vst₁, if_pos rfl], by omega, fun k₁ hk₁ => ?_⟩, fun k₁ hk₁ => ?_, fun k₁ hk₁ => ?_⟩
    · rw [gc₁ 4 (by decide), d1₁, vst₁, if_neg (by omega), vst₁, if_neg (by omega)]
    · rw [gc₁ 5 (by decide), d2₁, vst₁, if_neg (by omega), vst₁, if_neg (by omega)]
    · rw [g2₁, mup_ne (by omega), q3₁, vst₁, if_neg (by omega), vst₁, if_pos rfl]
    · rw [g2₁, vst₁]
      by_cases q₁ : k₁ = j₁
      · rw [q₁, mup_at, if_pos rfl]
      · rw [mup_k q₁, if_neg (by omega), vst₁, if_neg (by omega), gv₁]; exact hv₁ k₁ (by omega)
    · rw [gb₁ (c₁ + 1) (by omega) (by omega), d5₁ k₁ hk₁, vst₁, if_neg (by omega), vst₁, if_neg (by omega)]
    · rw [gb₁ (c₁ + 2) (by omega) (by omega), d6₁ k₁ hk₁, vst₁, if_neg (by omega), vst₁, if_neg (by omega)]
  · intro b₁ p₁ q₁
    rw [g2₁, mup_ne q₁, g1₁, mup_ne p₁]
end UN₁
