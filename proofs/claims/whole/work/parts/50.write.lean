/-! ===== the class's machine: a register, a memory cell written ===== -/
section UN₁
variable {K₁ N₁ : MK} {I₁ : MI} {L₁ : ML} {R₁ : MR} {c₁ x₁ : Nat} {V₁ : Nat → Int32}
theorem s_write {b₁ n₁ : Nat} {k₁ v₁ : Int32} {Q₁ : Int32 → MI → Prop} (hK₁ : K₁ b₁ = 14) (hN₁ : N₁ b₁ = n₁) (hn₁ : n₁ < 2147483648)
    (hno₁ : inN k₁ n₁ = false → Q₁ (-1) I₁) (h1₁ : ∀ j₁, k₁ = nI j₁ → j₁ < n₁ → I₁ b₁ j₁ = v₁ → Q₁ 1 I₁) (h0₁ : ∀ j₁, k₁ = nI j₁ → j₁ < n₁ → I₁ b₁ j₁ ≠ v₁ → Q₁ 0 (mup I₁ b₁ j₁ v₁)) : w_X3_write b₁ k₁ v₁ K₁ N₁ I₁ L₁ R₁ Q₁ := by
  delta w_X3_write
  refine ⟨fun e₁ => hno₁ ?_, fun e₁ => ⟨hK₁, fun f₁ => ?_, fun f₁ => hno₁ ?_⟩⟩
  · simp only [inN, Bool.and_eq_false_iff, decide_eq_false_iff_not]; exact Or.inl (Int32.not_le.mpr e₁)
  · rw [hN₁] at f₁
    obtain ⟨j₁, hj₁, rfl⟩ := nI_of e₁
    rw [ltN hj₁ hn₁] at f₁
    rw [hN₁, ix_nI hj₁]
    refine ⟨(vp_nI hj₁).mpr f₁, fun g₁ J₁ gJ₁ => ?_, fun g₁ => h1₁ j₁ rfl f₁ g₁⟩
    rw [gJ₁]; exact h0₁ j₁ rfl f₁ g₁
  · rw [hN₁] at f₁
    simp only [inN, Bool.and_eq_false_iff, decide_eq_false_iff_not]; exact Or.inr f₁
end UN₁
