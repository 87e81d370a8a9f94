/-! ===== step: the reference, where to ===== -/
def stepS (U₁ : Nat → Int32) (a₁ : Int32) : Int32 := stepB U₁ (lineOf U₁ a₁) (nicS U₁ a₁ (-1)) (ix (U₁ 1) - rowNx U₁ a₁) (rowNx U₁ a₁)
section RG₁
variable {K₁ N₁ : MK} {I₁ : MI} {L₁ : ML} {R₁ : MR} {m₁ : Nat}
theorem r_stepTo {Q₁ : Int32 → Prop} (hM₁ : MDL K₁ N₁ R₁ m₁) (hU₁ : WFc (I₁ (m₁ + 2))) (h₁ : Q₁ (stepS (I₁ (m₁ + 2)) (I₁ (m₁ + 2) 342))) : w_X12_stepTo m₁ K₁ N₁ I₁ L₁ R₁ Q₁ := by
  delta w_X12_stepTo
  refine ⟨hM₁.k, _, hM₁.r14, hM₁.k2, by rw [hM₁.n2]; exact vp_c (by decide) (by decide), fun v₁ ev₁ => ?_⟩
  rw [ix_c (by decide)] at ev₁
  subst ev₁
  refine r_lineOf hM₁ hU₁ (r_nextInChain hM₁ hU₁ (Or.inl rfl) (r_rowOf hM₁ hU₁ fun v₁ ev₁ => ?_))
  rw [ev₁.trans (rowNx_eq hU₁ _).1]
  exact r_stepLoop hM₁ hU₁ (nicS_or _ _ _) (rowNx_eq hU₁ _).2 h₁
end RG₁
