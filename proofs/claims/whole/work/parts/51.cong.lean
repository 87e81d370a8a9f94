/-! ===== what the functions of a unit look at: the places below 342 ===== -/
def agU₁ (U'₁ U₁ : Nat → Int32) : Prop := ∀ k₁, k₁ < 342 → U'₁ k₁ = U₁ k₁
section UN₁
variable {U₁ U'₁ V₁ V'₁ : Nat → Int32}
theorem WFc_cg (g₁ : agU₁ U'₁ U₁) (h₁ : WFc U₁) : WFc U'₁ := by
  rw [WFc, g₁ 0 (by decide), g₁ 1 (by decide), g₁ 2 (by decide), g₁ 3 (by decide), g₁ 4 (by decide), g₁ 5 (by decide)]
  exact h₁
theorem adr_cg (g₁ : agU₁ U'₁ U₁) (a₁ : Int32) : adr U'₁ a₁ = adr U₁ a₁ := by rw [adr, adr, g₁ 0 (by decide)]
theorem rowB_cg (g₁ : agU₁ U'₁ U₁) (a₁ : Int32) : ∀ n₁, n₁ ≤ 30 → rowB U'₁ a₁ n₁ = rowB U₁ a₁ n₁
  | 0, _ => rfl
  | n₁ + 1, h₁ => by rw [rowB, rowB, g₁ (6 + n₁) (by omega), rowB_cg g₁ a₁ n₁ (by omega)]
theorem rowOf_cg (g₁ : agU₁ U'₁ U₁) (hU₁ : WFc U₁) (a₁ : Int32) : rowOf U'₁ a₁ = rowOf U₁ a₁ := by
  rw [rowOf, rowOf, g₁ 1 (by decide), rowB_cg g₁ a₁ _ hU₁.1.2]
theorem lineOf_cg (g₁ : agU₁ U'₁ U₁) (hU₁ : WFc U₁) (a₁ : Int32) : lineOf U'₁ a₁ = lineOf U₁ a₁ := by
  rw [lineOf, lineOf, rowOf_cg g₁ hU₁]
  have hn₁ := hU₁.1.2
  rcases rowB_or U₁ a₁ (ix (U₁ 1)) with e₁ | ⟨j₁, hj₁, e₁⟩
  · rw [show rowOf U₁ a₁ = -1 from e₁, if_pos rfl, if_pos rfl]
  · rw [show rowOf U₁ a₁ = nI j₁ from e₁, ix_nI (by omega), g₁ (36 + j₁) (by omega)]
theorem hasS_cg (g₁ : agU₁ U'₁ U₁) {s₁ : Nat} (hs₁ : s₁ < 10) (a₁ : Int32) : hasS U'₁ s₁ a₁ = hasS U₁ s₁ a₁ := by
  rw [hasS, hasS, g₁ (66 + s₁) (by omega), g₁ (76 + s₁) (by omega)]
theorem innS_cg (g₁ : agU₁ U'₁ U₁) {s₁ r₁ : Nat} (hs₁ : s₁ < 10) (hr₁ : r₁ < 10) : innS U'₁ s₁ r₁ = innS U₁ s₁ r₁ := by
  rw [innS, innS, widS, widS, widS, widS, g₁ (66 + s₁) (by omega), g₁ (76 + s₁) (by omega), g₁ (66 + r₁) (by omega), g₁ (76 + r₁) (by omega)]
theorem ix_or {b₁ : Int32} {n₁ : Nat} (h₁ : orN b₁ n₁) (hn₁ : n₁ ≤ 10) : ix b₁ < 10 := by
  rcases h₁ with rfl | ⟨j₁, hj₁, rfl⟩
  · decide
  · rw [ix_nI (by omega)]; omega
theorem nicB_cg (g₁ : agU₁ U'₁ U₁) (a₁ : Int32) {b₁ : Int32} (hb₁ : ix b₁ < 10) : ∀ n₁, n₁ ≤ 10 → nicB U'₁ a₁ b₁ n₁ = nicB U₁ a₁ b₁ n₁
  | 0, _ => rfl
  | n₁ + 1, h₁ => by
    rw [nicB, nicB, nicB_cg g₁ a₁ hb₁ n₁ (by omega), hasS_cg g₁ (by omega), innS_cg g₁ hb₁ (by omega), innS_cg g₁ (by omega) (ix_or (n₁ := 10) ((nicB_or U₁ a₁ b₁ n₁).imp id (fun ⟨j₁, q₁, e₁⟩ => ⟨j₁, by omega, e₁⟩)) (by decide))]
theorem nicS_cg (g₁ : agU₁ U'₁ U₁) (hU₁ : WFc U₁) (a₁ : Int32) {b₁ : Int32} (hb₁ : orN b₁ (ix (U₁ 2))) : nicS U'₁ a₁ b₁ = nicS U₁ a₁ b₁ := by
  rw [nicS, nicS, g₁ 2 (by decide), nicB_cg g₁ a₁ (ix_or hb₁ hU₁.2.1.2) _ hU₁.2.1.2]
theorem lvS_cg (g₁ : agU₁ U'₁ U₁) (hU₁ : WFc U₁) (a₁ : Int32) : lvS₁ U'₁ a₁ = lvS₁ U₁ a₁ := by
  rw [lvS₁, lvS₁, nicS_cg g₁ hU₁ a₁ (Or.inl rfl), g₁ (76 + ix (nicS U₁ a₁ (-1))) (by have := ix_or (nicS_or U₁ a₁ (-1)) hU₁.2.1.2; omega)]
theorem rowNx_cg (g₁ : agU₁ U'₁ U₁) (hU₁ : WFc U₁) (a₁ : Int32) : rowNx U'₁ a₁ = rowNx U₁ a₁ := by
  rw [rowNx, rowNx, rowOf_cg g₁ hU₁]
theorem stepB_cg (g₁ : agU₁ U'₁ U₁) (l₁ : Int32) {s₁ : Int32} (hs₁ : ix s₁ < 10) : ∀ f₁ i₁, i₁ + f₁ ≤ 30 → stepB U'₁ l₁ s₁ f₁ i₁ = stepB U₁ l₁ s₁ f₁ i₁
  | 0, _, _ => rfl
  | f₁ + 1, i₁, h₁ => by
    rw [stepB, stepB, g₁ (36 + i₁) (by omega), g₁ (6 + i₁) (by omega), hasS_cg g₁ hs₁, stepB_cg g₁ l₁ hs₁ f₁ (i₁ + 1) (by omega)]
theorem stepS_cg (g₁ : agU₁ U'₁ U₁) (hU₁ : WFc U₁) (a₁ : Int32) : stepS U'₁ a₁ = stepS U₁ a₁ := by
  have e₁ := (rowNx_eq hU₁ a₁).2
  have f₁ := hU₁.1.2
  rw [stepS, stepS, lineOf_cg g₁ hU₁, nicS_cg g₁ hU₁ a₁ (Or.inl rfl), rowNx_cg g₁ hU₁, g₁ 1 (by decide), stepB_cg g₁ _ (ix_or (nicS_or U₁ a₁ (-1)) hU₁.2.1.2) _ _ (by omega)]
theorem stpB_cg (l₁ : Int32) : ∀ f₁ i₁, (∀ k₁, k₁ < i₁ + f₁ → V'₁ (3 + k₁) = V₁ (3 + k₁)) → stpB V'₁ l₁ f₁ i₁ = stpB V₁ l₁ f₁ i₁
  | 0, _, _ => rfl
  | f₁ + 1, i₁, h₁ => by
    rw [stpB, stpB, h₁ i₁ (by omega), stpB_cg l₁ f₁ (i₁ + 1) (fun k₁ hk₁ => h₁ k₁ (by omega))]
theorem stpS_cg (h2₁ : V'₁ 2 = V₁ 2) (h₁ : ∀ k₁, k₁ < ix (V₁ 2) → V'₁ (3 + k₁) = V₁ (3 + k₁)) (l₁ : Int32) : stpS V'₁ l₁ = stpS V₁ l₁ := by
  rw [stpS, stpS, h2₁, stpB_cg l₁ _ 0 (fun k₁ hk₁ => h₁ k₁ (by omega))]
theorem runB_cg (g₁ : agU₁ U'₁ U₁) (hv₁ : ∀ l₁, stpS V'₁ l₁ = stpS V₁ l₁) : ∀ f₁ i₁, i₁ + f₁ ≤ 30 → runB U'₁ V'₁ f₁ i₁ = runB U₁ V₁ f₁ i₁
  | 0, _, _ => rfl
  | f₁ + 1, i₁, h₁ => by
    rw [runB, runB, g₁ (36 + i₁) (by omega), g₁ (6 + i₁) (by omega), hv₁, runB_cg g₁ hv₁ f₁ (i₁ + 1) (by omega)]
theorem runS_cg (g₁ : agU₁ U'₁ U₁) (hU₁ : WFc U₁) (h0₁ : V'₁ 0 = V₁ 0) (hv₁ : ∀ l₁, stpS V'₁ l₁ = stpS V₁ l₁) : runS U'₁ V'₁ = runS U₁ V₁ := by
  have e₁ := (rowNx_eq hU₁ (V₁ 0)).2
  have f₁ := hU₁.1.2
  rw [runS, runS, h0₁, rowNx_cg g₁ hU₁, g₁ 1 (by decide), runB_cg g₁ hv₁ _ _ (by omega)]
end UN₁
