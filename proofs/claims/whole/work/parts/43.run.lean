/-! ===== run: where to ===== -/
def rowNx (U₁ : Nat → Int32) (a₁ : Int32) : Nat := ix (rowOf U₁ a₁ + 1)
theorem rowNx_eq {U₁ : Nat → Int32} (hU₁ : WFc U₁) (a₁ : Int32) : rowOf U₁ a₁ + 1 = nI (rowNx U₁ a₁) ∧ rowNx U₁ a₁ ≤ ix (U₁ 1) := by
  have hn₁ := hU₁.1.2
  rw [rowNx]
  rcases rowB_or U₁ a₁ (ix (U₁ 1)) with e₁ | ⟨j₁, hj₁, e₁⟩
  · have e₁ : rowOf U₁ a₁ = -1 := e₁
    rw [e₁]
    exact ⟨rfl, Nat.zero_le _⟩
  · have e₁ : rowOf U₁ a₁ = nI j₁ := e₁
    rw [e₁, nI_1, ix_nI (by omega)]
    exact ⟨rfl, hj₁⟩
def runS (U₁ V₁ : Nat → Int32) : Int32 := runB U₁ V₁ (ix (U₁ 1) - rowNx U₁ (V₁ 0)) (rowNx U₁ (V₁ 0))
section UN₁
variable {K₁ N₁ : MK} {I₁ : MI} {L₁ : ML} {R₁ : MR} {c₁ u₁ : Nat} {U₁ V₁ : Nat → Int32}
theorem s_stoppingRow {Q₁ : Int32 → Prop} (hC₁ : MAL K₁ N₁ R₁ c₁) (hV₁ : MACD I₁ c₁ V₁) (hL₁ : UL K₁ N₁ R₁ u₁) (hD₁ : UD1₁ I₁ u₁ U₁) (hU₁ : WFc U₁) (hr₁ : WFr U₁) (h₁ : Q₁ (runS U₁ V₁)) : w_X3_stoppingRow c₁ u₁ K₁ N₁ I₁ L₁ R₁ Q₁ := by
  refine ⟨hC₁.1, hL₁.1, s_rowOf hL₁ hD₁ hU₁ hr₁ fun v₁ ev₁ => ?_⟩
  rw [hV₁.1, (rowNx_eq hU₁ (V₁ 0)).1] at ev₁
  rw [ev₁]
  exact s_runLoop hC₁ hV₁ hL₁ hD₁ hU₁ (rowNx_eq hU₁ (V₁ 0)).2 h₁
end UN₁
section RG₁
variable {K₁ N₁ : MK} {I₁ : MI} {L₁ : ML} {R₁ : MR} {m₁ : Nat}
theorem r_runTo {n₁ : Nat} {Q₁ : Int32 → Prop} (hM₁ : MDL K₁ N₁ R₁ m₁) (hU₁ : WFc (I₁ (m₁ + 2))) (e2₁ : I₁ (m₁ + 2) 344 = nI n₁) (hn8₁ : n₁ ≤ 8) (h₁ : Q₁ (runS (I₁ (m₁ + 2)) (macV (I₁ (m₁ + 2))))) : w_X12_runTo m₁ K₁ N₁ I₁ L₁ R₁ Q₁ := by
  delta w_X12_runTo
  refine ⟨hM₁.k, _, hM₁.r14, hM₁.k2, by rw [hM₁.n2]; exact vp_c (by decide) (by decide), r_rowOf hM₁ hU₁ fun v₁ ev₁ => ?_⟩
  rw [ix_c (by decide)] at ev₁
  rw [ev₁.trans (rowNx_eq hU₁ _).1]
  exact r_runLoop hM₁ hU₁ e2₁ hn8₁ (rowNx_eq hU₁ _).2 h₁
end RG₁
