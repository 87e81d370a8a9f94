/-! ===== what is so of a unit is so of one that is the same below 342 ===== -/
section AG₁
variable {U₁ U'₁ V₁ : Nat → Int32}
theorem agU_s (g₁ : agU₁ U'₁ U₁) : agU₁ U₁ U'₁ := fun k₁ hk₁ => (g₁ k₁ hk₁).symm
theorem opW_cg {c₁ c'₁ : Nat → Int32} {n₁ : Nat} (h₁ : opW₁ c₁ n₁) (e₁ : ∀ j₁, j₁ < n₁ → c'₁ j₁ = c₁ j₁) : opW₁ c'₁ n₁ := by
  obtain ⟨D₁, d0₁, hs₁, d1₁⟩ := h₁
  exact ⟨D₁, d0₁, fun j₁ hj₁ => by rw [e₁ j₁ hj₁]; exact hs₁ j₁ hj₁, d1₁⟩
theorem WFr_ag (g₁ : agU₁ U'₁ U₁) (hU₁ : WFc U₁) (h₁ : WFr U₁) : WFr U'₁ := by
  have n1₁ := hU₁.1.2
  have e1₁ := g₁ 1 (by decide)
  refine ⟨fun i₁ j₁ h1₁ h2₁ => ?_, fun k₁ hk₁ => ?_⟩
  · rw [e1₁] at h2₁
    rw [g₁ (6 + i₁) (by omega), g₁ (6 + j₁) (by omega)]
    exact h₁.1 i₁ j₁ h1₁ h2₁
  · rw [e1₁] at hk₁
    rw [g₁ (6 + k₁) (by omega), g₁ (36 + k₁) (by omega), g₁ 0 (by decide)]
    exact h₁.2 k₁ hk₁
theorem WFs_ag (g₁ : agU₁ U'₁ U₁) (hU₁ : WFc U₁) (h₁ : WFs U₁) : WFs U'₁ := fun k₁ hk₁ => by
  have n2₁ := hU₁.2.1.2
  rw [g₁ 2 (by decide)] at hk₁
  rw [g₁ (66 + k₁) (by omega), g₁ (76 + k₁) (by omega), g₁ (86 + k₁) (by omega), g₁ 0 (by decide)]
  exact h₁ k₁ hk₁
theorem WFt_ag (g₁ : agU₁ U'₁ U₁) (hU₁ : WFc U₁) (h₁ : WFt₁ U₁) : WFt₁ U'₁ := fun k₁ hk₁ => by
  have n2₁ := hU₁.2.2.1.2
  rw [g₁ 3 (by decide)] at hk₁
  rw [g₁ (96 + k₁) (by omega), g₁ (102 + k₁) (by omega), g₁ (108 + k₁) (by omega)]
  exact h₁ k₁ hk₁
theorem WFvt_ag (g₁ : agU₁ U'₁ U₁) (hU₁ : WFc U₁) (h₁ : WFvt U₁) : WFvt U'₁ := fun k₁ hk₁ => by
  have n2₁ := hU₁.2.2.2.1.2
  rw [g₁ 4 (by decide)] at hk₁
  rw [g₁ (124 + k₁) (by omega), g₁ 3 (by decide)]
  exact h₁ k₁ hk₁
theorem WFvh_ag (g₁ : agU₁ U'₁ U₁) (hU₁ : WFc U₁) (h₁ : WFvh U₁) : WFvh U'₁ := fun k₁ hk₁ => by
  have n2₁ := hU₁.2.2.2.1.2
  rw [g₁ 4 (by decide)] at hk₁
  rw [g₁ (114 + k₁) (by omega), g₁ 2 (by decide)]
  exact h₁ k₁ hk₁
theorem WFw_ag (g₁ : agU₁ U'₁ U₁) (hU₁ : WFc U₁) (h₁ : WFw U₁) : WFw U'₁ := fun k₁ hk₁ => by
  have n2₁ := hU₁.2.2.2.2.1.2
  rw [g₁ 5 (by decide)] at hk₁
  rw [g₁ (134 + k₁) (by omega), g₁ (150 + k₁) (by omega), g₁ (166 + k₁) (by omega), g₁ 4 (by decide), g₁ 0 (by decide)]
  exact h₁ k₁ hk₁
theorem WFo_ag (g₁ : agU₁ U'₁ U₁) (hU₁ : WFc U₁) (h₁ : WFo₁ U₁) : WFo₁ U'₁ := fun k₁ hk₁ => by
  have n2₁ := hU₁.2.2.2.2.1.2
  rw [g₁ 5 (by decide)] at hk₁
  rw [g₁ (182 + k₁) (by omega), g₁ (198 + k₁) (by omega)]
  rcases h₁ k₁ hk₁ with q₁ | ⟨q₁, n₁, hn₁, en₁, ho₁⟩
  · exact Or.inl q₁
  · exact Or.inr ⟨q₁, n₁, hn₁, en₁, opW_cg ho₁ (fun j₁ hj₁ => g₁ (214 + 8 * k₁ + j₁) (by omega))⟩
theorem WFU_ag (g₁ : agU₁ U'₁ U₁) (h₁ : WFU₁ U₁) : WFU₁ U'₁ := by
  obtain ⟨h1₁, h2₁, h3₁, h4₁, h5₁, h6₁, h7₁, h8₁⟩ := h₁
  exact ⟨WFc_cg g₁ h1₁, WFr_ag g₁ h1₁ h2₁, WFs_ag g₁ h1₁ h3₁, WFt_ag g₁ h1₁ h4₁, WFvt_ag g₁ h1₁ h5₁, WFvh_ag g₁ h1₁ h6₁, WFw_ag g₁ h1₁ h7₁, WFo_ag g₁ h1₁ h8₁⟩
theorem WFv_ag (g₁ : agU₁ U'₁ U₁) (h₁ : WFv₁ U₁ V₁) : WFv₁ U'₁ V₁ := ⟨h₁.1, h₁.2.1, by rw [adr_cg g₁]; exact h₁.2.2⟩
theorem thrB_ag (g₁ : agU₁ U'₁ U₁) (h₁ : WFU₁ U₁) (a₁ : Int32) : ∀ v₁, thrB U'₁ V₁ a₁ v₁ = thrB U₁ V₁ a₁ v₁
  | 0 => rfl
  | v₁ + 1 => by rw [thrB, thrB, lokS_cg g₁ h₁.1 h₁.2.2.2.2.2.2.1 h₁.2.2.2.2.1 h₁.2.2.2.2.2.2.2, thrB_ag g₁ h₁ a₁ v₁]
theorem WFo_m2 (n5₁ : ix (U₁ 5) ≤ 16) (h₁ : WFo₁ U₁) : ∀ k₁, k₁ < ix (U₁ 5) → U₁ (182 + k₁) = 2 ∨ ix (U₁ (198 + k₁)) ≤ 8 := fun k₁ hk₁ => by
  rcases h₁ k₁ hk₁ with q₁ | ⟨q₁, n₁, hn₁, en₁, _⟩
  · exact Or.inl q₁.1
  · exact Or.inr (by rw [en₁, ix_nI (by omega)]; exact hn₁)
theorem UD_ag {I₁ : MI} {L₁ : ML} {u₁ : Nat} {W₁ : Nat → Int64} (g₁ : agU₁ U'₁ U₁) (hW₁ : WFU₁ U₁) (h₁ : UD I₁ L₁ u₁ U₁ W₁) : UD I₁ L₁ u₁ U'₁ W₁ := by
  obtain ⟨h0₁, h1₁, h2₁, h3₁, h4₁, h5₁⟩ := h₁
  have hU₁ := hW₁.1
  exact ⟨by rw [g₁ 0 (by decide)]; exact h0₁, UD1_cg h1₁ hU₁.1.2 (g₁ 1 (by decide)) (fun k₁ _ q₁ => g₁ k₁ (by omega)), UD2_cg h2₁ hU₁.2.1.2 (g₁ 2 (by decide)) (fun k₁ _ q₁ => g₁ k₁ (by omega)) (fun _ _ => rfl), UD3_cg h3₁ hU₁.2.2.1.2 (g₁ 3 (by decide)) (fun k₁ _ q₁ => g₁ k₁ (by omega)) (fun _ _ _ => rfl), UD4_cg h4₁ hU₁.2.2.2.1.2 (g₁ 4 (by decide)) (fun k₁ _ q₁ => g₁ k₁ (by omega)) (fun _ _ _ => rfl), UD5_cg h5₁ hU₁.2.2.2.2.1.2 (WFo_m hU₁.2.2.2.2.1.2 hW₁.2.2.2.2.2.2.2) (g₁ 5 (by decide)) (fun k₁ _ q₁ => g₁ k₁ (by omega))⟩
end AG₁
