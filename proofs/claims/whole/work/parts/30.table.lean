/-! ===== Table: what writes it; frames ===== -/
section TB₁
variable {K₁ N₁ : MK} {I₁ I1₁ : MI} {L₁ L1₁ : ML} {R₁ : MR} {t₁ m₁ w₁ n₁ u₁ : Nat} {U₁ : Nat → Int32} {W₁ : Nat → Int64}
theorem s_forget {Q₁ : MI → Prop} (hT₁ : TL K₁ N₁ R₁ t₁ m₁ w₁) (h₁ : Q₁ (mup I₁ t₁ 3 0)) : w_X7_forget t₁ K₁ N₁ I₁ L₁ R₁ Q₁ := ⟨hT₁.1, fun I2₁ e₁ => by rw [e₁]; exact h₁⟩
theorem s_add {v₁ : Int64} {Q₁ : Int32 → MI → ML → Prop} (hT₁ : TL K₁ N₁ R₁ t₁ m₁ w₁) (hD₁ : TD I₁ t₁ m₁ w₁ n₁) (hn₁ : n₁ < m₁) (h₁ : Q₁ (nI n₁) (mup I₁ t₁ 3 (nI (n₁ + 1))) (mup L₁ (t₁ + 1) n₁ v₁)) : w_X7_add t₁ v₁ K₁ N₁ I₁ L₁ R₁ Q₁ := by
  obtain ⟨h1₁, h2₁, h3₁, h4₁, h5₁, h6₁, h7₁, h8₁, h9₁, h10₁⟩ := hT₁
  obtain ⟨d1₁, d2₁, d3₁⟩ := hD₁
  refine ⟨h1₁, _, h2₁, h4₁, fun e₁ => ⟨?_, fun L5₁ eL₁ I6₁ eI₁ => ?_⟩, fun e₁ => absurd ?_ e₁⟩
  · rw [d2₁, h6₁]; exact (vp_nI (by omega)).mpr hn₁
  · rw [eI₁, mup_at, d2₁, eL₁, d2₁, ix_nI (by omega), show nI n₁ + 1 = nI (n₁ + 1) from nI_1 n₁, nI_pred]
    exact h₁
  · rw [d2₁, h6₁, ltN (by omega) (by omega)]; exact hn₁
theorem s_addF {v₁ : Int64} {Q₁ : Int32 → MI → ML → Prop} (hT₁ : TL K₁ N₁ R₁ t₁ m₁ w₁) (hD₁ : TD I₁ t₁ m₁ w₁ n₁) (hn₁ : ¬ n₁ < m₁) (h₁ : Q₁ (-1) I₁ L₁) : w_X7_add t₁ v₁ K₁ N₁ I₁ L₁ R₁ Q₁ := by
  obtain ⟨h1₁, h2₁, h3₁, h4₁, h5₁, h6₁, h7₁, h8₁, h9₁, h10₁⟩ := hT₁
  obtain ⟨d1₁, d2₁, d3₁⟩ := hD₁
  refine ⟨h1₁, _, h2₁, h4₁, fun e₁ => absurd e₁ ?_, fun e₁ => h₁⟩
  rw [d2₁, h6₁, ltN (by omega) (by omega)]; exact hn₁
theorem s_isFull {Q₁ : Bool → Prop} (hT₁ : TL K₁ N₁ R₁ t₁ m₁ w₁) (hD₁ : TD I₁ t₁ m₁ w₁ n₁) (h₁ : Q₁ (decide (n₁ = m₁))) : w_X7_isFull t₁ K₁ N₁ I₁ L₁ R₁ Q₁ := by
  obtain ⟨h1₁, h2₁, h3₁, h4₁, h5₁, h6₁, h7₁, h8₁, h9₁, h10₁⟩ := hT₁
  obtain ⟨d1₁, d2₁, d3₁⟩ := hD₁
  delta w_X7_isFull
  refine ⟨h1₁, _, h2₁, h4₁, fun e₁ => ?_, fun e₁ => ?_⟩
  · rw [d2₁, h6₁, ltN (by omega) (by omega)] at e₁
    rw [show decide (n₁ = m₁) = false by simp; omega] at h₁; exact h₁
  · rw [d2₁, h6₁, ltN (by omega) (by omega)] at e₁
    rw [show decide (n₁ = m₁) = true by simp; omega] at h₁; exact h₁
theorem s_put {k₁ c₁ : Nat} {v₁ : Int32} {Q₁ : MI → Prop} (hT₁ : TL K₁ N₁ R₁ t₁ m₁ w₁) (hD₁ : TD I₁ t₁ m₁ w₁ n₁) (hk₁ : k₁ < n₁) (hc₁ : c₁ < w₁) (h₁ : Q₁ (mup I₁ (t₁ + 2) (k₁ * w₁ + c₁) v₁)) : w_X7_put t₁ (nI k₁) (nI c₁) v₁ K₁ N₁ I₁ L₁ R₁ Q₁ := by
  obtain ⟨h1₁, h2₁, h3₁, h4₁, h5₁, h6₁, h7₁, h8₁, h9₁, h10₁⟩ := hT₁
  obtain ⟨d1₁, d2₁, d3₁⟩ := hD₁
  have hjw₁ : k₁ * w₁ + c₁ < m₁ * w₁ := by
    have : (k₁ + 1) * w₁ ≤ m₁ * w₁ := Nat.mul_le_mul_right w₁ (by omega)
    rw [Nat.add_mul] at this
    omega
  refine ⟨fun e₁ => absurd e₁ (nlt0 (by omega)), fun e₁ => ⟨h1₁, fun e2₁ => ?_, fun e2₁ => ⟨fun e3₁ => absurd e3₁ (nlt0 (by omega)), fun e3₁ => ⟨fun e4₁ => ?_, fun e4₁ => ⟨_, h3₁, h5₁, ?_, fun I5₁ eI₁ => ?_⟩⟩⟩⟩⟩
  · rw [d2₁, leN (by omega) (by omega)] at e2₁; omega
  · rw [d1₁, leN (by omega) (by omega)] at e4₁; omega
  · rw [d1₁, mulN, addN, h7₁]; exact (vp_nI (by omega)).mpr hjw₁
  · rw [eI₁, d1₁, mulN, addN, ix_nI (by omega)]; exact h₁
theorem TD.fr (h₁ : TD I₁ t₁ m₁ w₁ n₁) (e₁ : I1₁ t₁ = I₁ t₁) : TD I1₁ t₁ m₁ w₁ n₁ := ⟨by rw [e₁]; exact h₁.1, by rw [e₁]; exact h₁.2.1, h₁.2.2⟩
theorem TD.many {c₁ : Nat} (h₁ : TD I₁ t₁ m₁ w₁ n₁) (hc₁ : c₁ ≤ m₁) : TD (mup I₁ t₁ 3 (nI c₁)) t₁ m₁ w₁ c₁ := ⟨by rw [mup_k (by omega)]; exact h₁.1, mup_at, hc₁⟩
theorem UD1₁.fr (h₁ : UD1₁ I₁ u₁ U₁) (e1₁ : I1₁ (u₁ + 1) = I₁ (u₁ + 1)) (e2₁ : I1₁ (u₁ + 1 + 2) = I₁ (u₁ + 1 + 2)) : UD1₁ I1₁ u₁ U₁ := ⟨h₁.1.fr e1₁, fun k₁ hk₁ => by rw [e2₁]; exact h₁.2 k₁ hk₁⟩
theorem UD2₁.fr (h₁ : UD2₁ I₁ L₁ u₁ U₁ W₁) (e1₁ : I1₁ (u₁ + 4) = I₁ (u₁ + 4)) (e2₁ : I1₁ (u₁ + 4 + 2) = I₁ (u₁ + 4 + 2)) (e3₁ : L1₁ (u₁ + 4 + 1) = L₁ (u₁ + 4 + 1)) : UD2₁ I1₁ L1₁ u₁ U₁ W₁ := ⟨h₁.1.fr e1₁, fun k₁ hk₁ => by rw [e2₁, e3₁]; exact h₁.2 k₁ hk₁⟩
theorem UD3₁.fr (h₁ : UD3₁ I₁ L₁ u₁ U₁ W₁) (e1₁ : I1₁ (u₁ + 7) = I₁ (u₁ + 7)) (e2₁ : I1₁ (u₁ + 7 + 2) = I₁ (u₁ + 7 + 2)) (e3₁ : L1₁ (u₁ + 7 + 1) = L₁ (u₁ + 7 + 1)) : UD3₁ I1₁ L1₁ u₁ U₁ W₁ := ⟨h₁.1.fr e1₁, fun k₁ hk₁ => by rw [e2₁, e3₁]; exact h₁.2 k₁ hk₁⟩
theorem UD4₁.fr (h₁ : UD4₁ I₁ L₁ u₁ U₁ W₁) (e1₁ : I1₁ (u₁ + 10) = I₁ (u₁ + 10)) (e2₁ : I1₁ (u₁ + 10 + 2) = I₁ (u₁ + 10 + 2)) (e3₁ : L1₁ (u₁ + 10 + 1) = L₁ (u₁ + 10 + 1)) : UD4₁ I1₁ L1₁ u₁ U₁ W₁ := ⟨h₁.1.fr e1₁, fun k₁ hk₁ => by rw [e2₁, e3₁]; exact h₁.2 k₁ hk₁⟩
theorem UD5₁.fr (h₁ : UD5₁ I₁ u₁ U₁) (e1₁ : I1₁ (u₁ + 13) = I₁ (u₁ + 13)) (e2₁ : I1₁ (u₁ + 13 + 2) = I₁ (u₁ + 13 + 2)) : UD5₁ I1₁ u₁ U₁ := ⟨h₁.1.fr e1₁, fun k₁ hk₁ => by rw [e2₁]; exact h₁.2 k₁ hk₁⟩
theorem UD.fr (h₁ : UD I₁ L₁ u₁ U₁ W₁) (e₁ : ∀ a₁, u₁ ≤ a₁ → a₁ < u₁ + 16 → I1₁ a₁ = I₁ a₁) (eL₁ : ∀ a₁, u₁ ≤ a₁ → a₁ < u₁ + 16 → L1₁ a₁ = L₁ a₁) : UD I1₁ L1₁ u₁ U₁ W₁ := by
  obtain ⟨h0₁, h1₁, h2₁, h3₁, h4₁, h5₁⟩ := h₁
  exact ⟨by rw [e₁ u₁ (by omega) (by omega)]; exact h0₁, h1₁.fr (e₁ _ (by omega) (by omega)) (e₁ _ (by omega) (by omega)), h2₁.fr (e₁ _ (by omega) (by omega)) (e₁ _ (by omega) (by omega)) (eL₁ _ (by omega) (by omega)), h3₁.fr (e₁ _ (by omega) (by omega)) (e₁ _ (by omega) (by omega)) (eL₁ _ (by omega) (by omega)), h4₁.fr (e₁ _ (by omega) (by omega)) (e₁ _ (by omega) (by omega)) (eL₁ _ (by omega) (by omega)), h5₁.fr (e₁ _ (by omega) (by omega)) (e₁ _ (by omega) (by omega))⟩
end TB₁
