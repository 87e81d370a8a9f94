/-! ===== the machine: what it holds; register, memory ===== -/
/-- the block of 83 numbers that the reference keeps of a machine (from place o of U), and the class's machine at c -/
def MACD (I₁ : MI) (c₁ : Nat) (V₁ : Nat → Int32) : Prop := I₁ c₁ 4 = V₁ 0 ∧ I₁ c₁ 5 = V₁ 1 ∧ I₁ c₁ 3 = V₁ 2 ∧ (∃ n₁, V₁ 2 = nI n₁ ∧ n₁ ≤ 8 ∧ ∀ k₁, k₁ < n₁ → I₁ (c₁ + 3) k₁ = V₁ (3 + k₁)) ∧ (∀ k₁, k₁ < 8 → I₁ (c₁ + 1) k₁ = V₁ (11 + k₁)) ∧ ∀ k₁, k₁ < 64 → I₁ (c₁ + 2) k₁ = V₁ (19 + k₁)
def regS (V₁ : Nat → Int32) (a₁ : Int32) : Int32 := if inN a₁ 8 = true then V₁ (11 + ix a₁) else -1
def memS (V₁ : Nat → Int32) (a₁ : Int32) : Int32 := if inN a₁ 64 = true then V₁ (19 + ix a₁) else -1
section UN₁
variable {K₁ N₁ : MK} {I₁ : MI} {L₁ : ML} {R₁ : MR} {c₁ x₁ : Nat} {V₁ : Nat → Int32}
theorem s_registerAt {a₁ : Int32} {Q₁ : Int32 → Prop} (hL₁ : MAL K₁ N₁ R₁ c₁) (hD₁ : MACD I₁ c₁ V₁) (h₁ : Q₁ (regS V₁ a₁)) : w_X3_registerAt c₁ a₁ K₁ N₁ I₁ L₁ R₁ Q₁ := by
  rw [regS] at h₁
  refine ⟨fun e₁ => ?_, fun e₁ => ⟨fun e2₁ => ?_, fun e2₁ => ?_⟩⟩
  · rw [if_neg (by simp only [inN, Bool.and_eq_true, decide_eq_true_eq]; exact fun z₁ => absurd e₁ (Int32.not_lt.mpr z₁.1))] at h₁; exact h₁
  · rw [if_neg (by simp only [inN, Bool.and_eq_true, decide_eq_true_eq]; exact fun z₁ => absurd z₁.2 (Int32.not_lt.mpr e2₁))] at h₁; exact h₁
  · have e3₁ : inN a₁ 8 = true := by
      simp only [inN, Bool.and_eq_true, decide_eq_true_eq]
      exact ⟨Int32.not_lt.mp e₁, Int32.not_le.mp e2₁⟩
    rw [if_pos e3₁] at h₁
    obtain ⟨j₁, hj₁, rfl⟩ := inN_t e3₁ (by decide)
    rw [ix_nI (by omega)] at h₁
    refine ⟨hL₁.1, _, hL₁.2.1, hL₁.2.2.2.2.1, by rw [hL₁.2.2.2.2.2.1]; exact (vp_nI (by omega)).mpr hj₁, ?_⟩
    rw [ix_nI (by omega), hD₁.2.2.2.2.1 j₁ hj₁]; exact h₁
theorem s_memoryAt {a₁ : Int32} {Q₁ : Int32 → Prop} (hL₁ : MAL K₁ N₁ R₁ c₁) (hD₁ : MACD I₁ c₁ V₁) (h₁ : Q₁ (memS V₁ a₁)) : w_X3_memoryAt c₁ a₁ K₁ N₁ I₁ L₁ R₁ Q₁ := by
  rw [memS] at h₁
  refine ⟨fun e₁ => ?_, fun e₁ => ⟨fun e2₁ => ?_, fun e2₁ => ?_⟩⟩
  · rw [if_neg (by simp only [inN, Bool.and_eq_true, decide_eq_true_eq]; exact fun z₁ => absurd e₁ (Int32.not_lt.mpr z₁.1))] at h₁; exact h₁
  · rw [if_neg (by simp only [inN, Bool.and_eq_true, decide_eq_true_eq]; exact fun z₁ => absurd z₁.2 (Int32.not_lt.mpr e2₁))] at h₁; exact h₁
  · have e3₁ : inN a₁ 64 = true := by
      simp only [inN, Bool.and_eq_true, decide_eq_true_eq]
      exact ⟨Int32.not_lt.mp e₁, Int32.not_le.mp e2₁⟩
    rw [if_pos e3₁] at h₁
    obtain ⟨j₁, hj₁, rfl⟩ := inN_t e3₁ (by decide)
    rw [ix_nI (by omega)] at h₁
    refine ⟨hL₁.1, _, hL₁.2.2.1, hL₁.2.2.2.2.2.2.1, by rw [hL₁.2.2.2.2.2.2.2.1]; exact (vp_nI (by omega)).mpr hj₁, ?_⟩
    rw [ix_nI (by omega), hD₁.2.2.2.2.2 j₁ hj₁]; exact h₁
theorem s_register {a₁ : Int32} {Q₁ : Int32 → Prop} (hX₁ : PDL K₁ N₁ R₁ x₁) (hD₁ : MACD I₁ (x₁ + 19) V₁) (h₁ : Q₁ (regS V₁ a₁)) : w_X11_register x₁ a₁ K₁ N₁ I₁ L₁ R₁ Q₁ :=
  ⟨hX₁.k, _, hX₁.r_machine, hX₁.mac.1, s_registerAt hX₁.mac hD₁ h₁⟩
theorem s_memory {a₁ : Int32} {Q₁ : Int32 → Prop} (hX₁ : PDL K₁ N₁ R₁ x₁) (hD₁ : MACD I₁ (x₁ + 19) V₁) (h₁ : Q₁ (memS V₁ a₁)) : w_X11_memory x₁ a₁ K₁ N₁ I₁ L₁ R₁ Q₁ :=
  ⟨hX₁.k, _, hX₁.r_machine, hX₁.mac.1, s_memoryAt hX₁.mac hD₁ h₁⟩
end UN₁
section RG₁
variable {K₁ N₁ : MK} {I₁ : MI} {L₁ : ML} {R₁ : MR} {m₁ : Nat}
/-- the machine's block within now -/
def macV (U₁ : Nat → Int32) (k₁ : Nat) : Int32 := U₁ (342 + k₁)
theorem r_register {a₁ : Int32} {Q₁ : Int32 → MI → Prop} (hM₁ : MDL K₁ N₁ R₁ m₁) (h₁ : Q₁ (regS (macV (I₁ (m₁ + 2))) a₁) (mup I₁ m₁ 0 0)) : w_X12_register m₁ a₁ K₁ N₁ I₁ L₁ R₁ Q₁ := by
  delta w_X12_register
  refine ⟨hM₁.k, fun I2₁ eI₁ => ?_⟩
  have g2₁ : I2₁ (m₁ + 2) = I₁ (m₁ + 2) := by rw [eI₁]; exact mup_ne (by omega)
  rw [← eI₁, regS] at h₁
  refine r_isIn ?_
  rw [show (7 : Int32) = nI 8 - 1 from by decide, isInB_pred rfl (by decide)]
  refine ⟨fun e₁ => ?_, fun e₁ => ?_⟩
  · rw [if_neg (by rw [e₁]; decide)] at h₁; exact h₁
  · rw [if_pos e₁] at h₁
    obtain ⟨j₁, hj₁, rfl⟩ := inN_t e₁ (by decide)
    rw [ix_nI (by omega), macV] at h₁
    refine ⟨_, hM₁.r14, hM₁.k2, by rw [hM₁.n2]; exact vp_cn (by omega) (by decide), ?_⟩
    rw [g2₁, ix_cn (by omega), show 353 + j₁ = 342 + (11 + j₁) by omega]; exact h₁
theorem r_memory {a₁ : Int32} {Q₁ : Int32 → MI → Prop} (hM₁ : MDL K₁ N₁ R₁ m₁) (h₁ : Q₁ (memS (macV (I₁ (m₁ + 2))) a₁) (mup I₁ m₁ 0 0)) : w_X12_memory m₁ a₁ K₁ N₁ I₁ L₁ R₁ Q₁ := by
  delta w_X12_memory
  refine ⟨hM₁.k, fun I2₁ eI₁ => ?_⟩
  have g2₁ : I2₁ (m₁ + 2) = I₁ (m₁ + 2) := by rw [eI₁]; exact mup_ne (by omega)
  rw [← eI₁, memS] at h₁
  refine r_isIn ?_
  rw [show (63 : Int32) = nI 64 - 1 from by decide, isInB_pred rfl (by decide)]
  refine ⟨fun e₁ => ?_, fun e₁ => ?_⟩
  · rw [if_neg (by rw [e₁]; decide)] at h₁; exact h₁
  · rw [if_pos e₁] at h₁
    obtain ⟨j₁, hj₁, rfl⟩ := inN_t e₁ (by decide)
    rw [ix_nI (by omega), macV] at h₁
    refine ⟨_, hM₁.r14, hM₁.k2, by rw [hM₁.n2]; exact vp_cn (by omega) (by decide), ?_⟩
    rw [g2₁, ix_cn (by omega), show 361 + j₁ = 342 + (19 + j₁) by omega]; exact h₁
end RG₁
