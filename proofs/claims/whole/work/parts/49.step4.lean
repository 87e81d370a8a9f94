/-! ===== step: the class, where to ===== -/
section UN₁
variable {K₁ N₁ : MK} {I₁ : MI} {L₁ : ML} {R₁ : MR} {u₁ : Nat} {U₁ : Nat → Int32} {W₁ : Nat → Int64}
theorem s_stepTo {a₁ : Int32} {Q₁ : Int32 → Prop} (hL₁ : UL K₁ N₁ R₁ u₁) (hD₁ : UD1₁ I₁ u₁ U₁) (hE₁ : UD2₁ I₁ L₁ u₁ U₁ W₁) (hU₁ : WFc U₁) (hr₁ : WFr U₁) (hw₁ : WFs U₁) (h₁ : Q₁ (stepS U₁ a₁)) : w_X9_stepTo u₁ a₁ K₁ N₁ I₁ L₁ R₁ Q₁ := by
  have hn₁ := hU₁.1.2
  have hT₁ := hL₁.2.2.2.2.2.2.1
  have hd₁ := hD₁.1
  have a1₁ : tat I₁ (u₁ + 1) 2 (ix (U₁ 1)) (rowOf U₁ a₁) 1 = lineOf U₁ a₁ := by
    rw [lineOf]
    rcases rowB_or U₁ a₁ (ix (U₁ 1)) with e₁ | ⟨j₁, hj₁, e₁⟩
    · have e₁ : rowOf U₁ a₁ = -1 := e₁
      rw [e₁, if_pos rfl]; exact tat_neg (by decide)
    · have e₁ : rowOf U₁ a₁ = nI j₁ := e₁
      rw [e₁, if_neg (m1_ne (by omega)), ix_nI (by omega)]
      exact (show tat I₁ (u₁ + 1) 2 (ix (U₁ 1)) (nI j₁) (nI 1) = _ from tat_in hj₁ (by omega) (by omega) (by omega)).trans (hD₁.2 j₁ hj₁).2
  refine ⟨hL₁.1, s_rowOf hL₁ hD₁ hU₁ hr₁ ⟨_, hL₁.2.1, hT₁.1, s_at hT₁ hd₁ (s_scopeBehind hL₁ hE₁ hU₁ hw₁ (Or.inl rfl) fun v₁ ev₁ => ?_)⟩⟩
  rw [a1₁, ev₁, (rowNx_eq hU₁ a₁).1]
  exact s_stepLoop hL₁ hD₁ hE₁ hU₁ hw₁ (nicS_or _ _ _) (rowNx_eq hU₁ _).2 h₁
end UN₁
