/-! ===== the class's machine: moved, left ===== -/
section UN₁
variable {K₁ N₁ : MK} {I₁ : MI} {L₁ : ML} {R₁ : MR} {c₁ u₁ : Nat} {U₁ V₁ : Nat → Int32} {W₁ : Nat → Int64}
theorem s_moveTo {t₁ : Int32} {Q₁ : Int32 → MI → Prop} (hL₁ : MAL K₁ N₁ R₁ c₁) (hV₁ : MACD I₁ c₁ V₁) (h1₁ : t₁ = -1 → Q₁ 1 I₁) (h0₁ : t₁ ≠ -1 → ∀ J₁, MACD J₁ c₁ (vst₁ V₁ 0 t₁) → (∀ b₁, b₁ ≠ c₁ → J₁ b₁ = I₁ b₁) → Q₁ 0 J₁) : w_X3_moveTo c₁ t₁ K₁ N₁ I₁ L₁ R₁ Q₁ := by
  obtain ⟨d1₁, d2₁, d3₁, ⟨n₁, e2₁, hn₁, hv₁⟩, d5₁, d6₁⟩ := hV₁
  refine ⟨fun e₁ => ⟨hL₁.1, fun J₁ g₁ => h0₁ e₁ J₁ ?_ ?_⟩, h1₁⟩
  · refine ⟨?_, ?_, ?_, ⟨n₁, by rw [vst₁, if_neg (by decide)]; exact e2₁, hn₁, fun k₁ hk₁ => ?_⟩, fun k₁ hk₁ => ?_, fun k₁ hk₁ => ?_⟩
    · rw [g₁, mup_at, vst₁, if_pos rfl]
    · rw [g₁, mup_k (by decide), d2₁, vst₁, if_neg (by decide)]
    · rw [g₁, mup_k (by decide), d3₁, vst₁, if_neg (by decide)]
    · rw [g₁, mup_ne (by omega), hv₁ k₁ hk₁, vst₁, if_neg (by omega)]
    · rw [g₁, mup_ne (by omega), d5₁ k₁ hk₁, vst₁, if_neg (by omega)]
    · rw [g₁, mup_ne (by omega), d6₁ k₁ hk₁, vst₁, if_neg (by omega)]
  · intro b₁ p₁
    rw [g₁, mup_ne p₁]
theorem s_leaveScope {Q₁ : Int32 → MI → Prop} (hC₁ : MAL K₁ N₁ R₁ c₁) (hV₁ : MACD I₁ c₁ V₁) (hL₁ : UL K₁ N₁ R₁ u₁) (h00₁ : I₁ u₁ 0 = U₁ 0) (hD₁ : UD2₁ I₁ L₁ u₁ U₁ W₁) (hU₁ : WFc U₁) (hs₁ : WFs U₁)
    (h1₁ : nicS U₁ (V₁ 0) (-1) = -1 → Q₁ 1 I₁) (h2₁ : nicS U₁ (V₁ 0) (-1) ≠ -1 → adr U₁ (lvS₁ U₁ (V₁ 0)) = false → Q₁ 2 I₁)
    (h0₁ : nicS U₁ (V₁ 0) (-1) ≠ -1 → adr U₁ (lvS₁ U₁ (V₁ 0)) = true → ∀ J₁, MACD J₁ c₁ (vst₁ V₁ 0 (lvS₁ U₁ (V₁ 0))) → (∀ b₁, b₁ ≠ c₁ → J₁ b₁ = I₁ b₁) → Q₁ 0 J₁) : w_X3_leaveScope c₁ u₁ K₁ N₁ I₁ L₁ R₁ Q₁ := by
  have hn₁ := hU₁.2.1.2
  have hT₁ := hL₁.2.2.2.2.2.2.2.1
  refine ⟨hC₁.1, hL₁.1, s_scopeBehind hL₁ hD₁ hU₁ hs₁ (Or.inl rfl) ?_⟩
  rw [hV₁.1]
  refine ⟨fun e₁ => ?_, h1₁⟩
  have h2₁ := h2₁ e₁
  have h0₁ := h0₁ e₁
  rw [lvS₁, if_neg e₁] at h2₁ h0₁
  obtain ⟨j₁, hj₁, ej₁⟩ := (nicS_or U₁ (V₁ 0) (-1)).resolve_left e₁
  rw [ej₁, ix_nI (by omega)] at h2₁ h0₁
  rw [ej₁]
  refine ⟨_, hL₁.2.2.1, hT₁.1, s_at hT₁ hD₁.1 ?_⟩
  rw [show (1 : Int32) = nI 1 from rfl, tat_in hj₁ (by omega) (by omega) (by omega), (hD₁.2 j₁ hj₁).2.1]
  refine s_hasAddress hL₁ h00₁ hU₁ ⟨h2₁, fun e2₁ => s_moveTo hC₁ hV₁ (fun e3₁ => ?_) (fun e3₁ => h0₁ e2₁)⟩
  rw [e3₁] at e2₁
  rw [adr, isInB_pred hU₁.2.2.2.2.2.1 (by have := hU₁.2.2.2.2.2.2; omega)] at e2₁
  obtain ⟨q₁, hq₁, eq₁⟩ := inN_t e2₁ (by have := hU₁.2.2.2.2.2.2; omega)
  exact absurd eq₁ (m1_ne' (by have := hU₁.2.2.2.2.2.2; omega))
end UN₁
