/-! ===== leave: where to ===== -/
def lvS₁ (U₁ : Nat → Int32) (a₁ : Int32) : Int32 := if nicS U₁ a₁ (-1) = -1 then -1 else U₁ (76 + ix (nicS U₁ a₁ (-1)))
section RG₁
variable {K₁ N₁ : MK} {I₁ : MI} {L₁ : ML} {R₁ : MR} {m₁ : Nat}
theorem r_leaveTo {Q₁ : Int32 → Prop} (hM₁ : MDL K₁ N₁ R₁ m₁) (hU₁ : WFc (I₁ (m₁ + 2))) (h₁ : Q₁ (lvS₁ (I₁ (m₁ + 2)) (I₁ (m₁ + 2) 342))) : w_X12_leaveTo m₁ K₁ N₁ I₁ L₁ R₁ Q₁ := by
  delta w_X12_leaveTo
  refine ⟨hM₁.k, _, hM₁.r14, hM₁.k2, by rw [hM₁.n2]; exact vp_c (by decide) (by decide), r_nextInChain hM₁ hU₁ (Or.inl rfl) ?_⟩
  rw [ix_c (by decide)]
  rw [lvS₁] at h₁
  have hn₁ := hU₁.2.1.2
  refine ⟨fun e₁ => ?_, fun e₁ => ?_⟩
  · rw [if_neg e₁] at h₁
    obtain ⟨j₁, hj₁, ej₁⟩ := (nicS_or (I₁ (m₁ + 2)) (I₁ (m₁ + 2) 342) (-1)).resolve_left e₁
    rw [ej₁, ix_nI (by omega)] at h₁
    rw [ej₁, hM₁.n2, ix_cn (by omega)]
    exact ⟨vp_cn (by omega) (by decide), h₁⟩
  · rw [if_pos e₁] at h₁; exact h₁
end RG₁
