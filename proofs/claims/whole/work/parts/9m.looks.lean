/-! ===== byteAt, packedAt, unpackedAt, told: both sides ===== -/
section UN₁
variable {K₁ N₁ : MK} {I₁ : MI} {L₁ : ML} {R₁ : MR} {x₁ n₁ : Nat}
theorem s_byteAt {k₁ : Int32} {Q₁ : Int32 → Prop} (hX₁ : PDL K₁ N₁ R₁ x₁) (hC₁ : TD I₁ (x₁ + 80) 40 1 n₁) (h₁ : Q₁ (tat I₁ (x₁ + 80) 1 n₁ k₁ 0)) : w_X11_byteAt x₁ k₁ K₁ N₁ I₁ L₁ R₁ Q₁ :=
  ⟨hX₁.k, _, hX₁.r_tag, hX₁.tag.1, s_at hX₁.tag hC₁ h₁⟩
theorem s_packedAt {k₁ : Int32} {Q₁ : Int32 → Prop} (hX₁ : PDL K₁ N₁ R₁ x₁) (hC₁ : TD I₁ (x₁ + 64) 181 1 n₁) (h₁ : Q₁ (tat I₁ (x₁ + 64) 1 n₁ k₁ 0)) : w_X11_packedAt x₁ k₁ K₁ N₁ I₁ L₁ R₁ Q₁ :=
  ⟨hX₁.k, _, hX₁.r_packer, hX₁.pak, _, hX₁.pak_r0, hX₁.pak_t0.1, s_at hX₁.pak_t0 hC₁ h₁⟩
theorem s_unpackedAt {k₁ w₁ : Int32} {Q₁ : Int32 → Prop} (hX₁ : PDL K₁ N₁ R₁ x₁) (hC₁ : TD I₁ (x₁ + 67) 30 2 n₁) (h₁ : Q₁ (tat I₁ (x₁ + 67) 2 n₁ k₁ w₁)) : w_X11_unpackedAt x₁ k₁ w₁ K₁ N₁ I₁ L₁ R₁ Q₁ :=
  ⟨hX₁.k, _, hX₁.r_packer, hX₁.pak, _, hX₁.pak_r1, hX₁.pak_t1.1, s_at hX₁.pak_t1 hC₁ h₁⟩
theorem s_told {k₁ : Int32} {Q₁ : Int32 → Prop} (hX₁ : PDL K₁ N₁ R₁ x₁) (hC₁ : TD I₁ (x₁ + 83) 1 4 n₁) (h₁ : Q₁ (tat I₁ (x₁ + 83) 4 n₁ 0 k₁)) : w_X11_told x₁ k₁ K₁ N₁ I₁ L₁ R₁ Q₁ :=
  ⟨hX₁.k, _, hX₁.r_told, hX₁.tol.1, s_at hX₁.tol hC₁ h₁⟩
end UN₁
section RG₁
variable {K₁ N₁ : MK} {I₁ : MI} {L₁ : ML} {R₁ : MR} {m₁ n₁ : Nat}
theorem r_byteAt {k₁ : Int32} {Q₁ : Int32 → MI → Prop} (hM₁ : MDL K₁ N₁ R₁ m₁) (hc₁ : I₁ m₁ 47 = nI n₁) (hn₁ : n₁ ≤ 48) (h₁ : Q₁ (if inN k₁ n₁ = true then I₁ (m₁ + 22) (ix k₁) else -1) (mup I₁ m₁ 0 0)) : w_X12_byteAt m₁ k₁ K₁ N₁ I₁ L₁ R₁ Q₁ := by
  delta w_X12_byteAt
  refine ⟨hM₁.k, fun I2₁ eI₁ => ?_⟩
  have g2₁ : I2₁ m₁ 47 = nI n₁ := by rw [eI₁, mup_k (by decide)]; exact hc₁
  have g3₁ : I2₁ (m₁ + 22) = I₁ (m₁ + 22) := by rw [eI₁]; exact mup_ne (by omega)
  rw [g2₁]
  refine r_isIn ?_
  rw [isInB_pred rfl (by omega)]
  rw [← eI₁] at h₁
  refine ⟨fun e₁ => ?_, fun e₁ => ?_⟩
  · rw [if_neg (by rw [e₁]; decide)] at h₁; exact h₁
  · rw [if_pos e₁] at h₁
    obtain ⟨j₁, hj₁, rfl⟩ := inN_t e₁ (by omega)
    refine ⟨_, hM₁.r46, hM₁.k22, by rw [hM₁.n22]; exact (vp_nI (by omega)).mpr (by omega), ?_⟩
    rw [g3₁]; exact h₁
theorem r_packedAt {k₁ : Int32} {Q₁ : Int32 → MI → Prop} (hM₁ : MDL K₁ N₁ R₁ m₁) (hc₁ : I₁ m₁ 35 = nI n₁) (hn₁ : n₁ ≤ 256) (h₁ : Q₁ (if inN k₁ n₁ = true then I₁ (m₁ + 15) (ix k₁) else -1) (mup I₁ m₁ 0 0)) : w_X12_packedAt m₁ k₁ K₁ N₁ I₁ L₁ R₁ Q₁ := by
  delta w_X12_packedAt
  refine ⟨hM₁.k, fun I2₁ eI₁ => ?_⟩
  have g2₁ : I2₁ m₁ 35 = nI n₁ := by rw [eI₁, mup_k (by decide)]; exact hc₁
  have g3₁ : I2₁ (m₁ + 15) = I₁ (m₁ + 15) := by rw [eI₁]; exact mup_ne (by omega)
  rw [g2₁]
  refine r_isIn ?_
  rw [isInB_pred rfl (by omega)]
  rw [← eI₁] at h₁
  refine ⟨fun e₁ => ?_, fun e₁ => ?_⟩
  · rw [if_neg (by rw [e₁]; decide)] at h₁; exact h₁
  · rw [if_pos e₁] at h₁
    obtain ⟨j₁, hj₁, rfl⟩ := inN_t e₁ (by omega)
    refine ⟨_, hM₁.r32, hM₁.k15, by rw [hM₁.n15]; exact (vp_nI (by omega)).mpr (by omega), ?_⟩
    rw [g3₁]; exact h₁
theorem isInB_lit {k₁ : Int32} (n₁ : Nat) (hn₁ : n₁ + 1 < 2147483648) : isInB k₁ 0 (nI n₁) = inN k₁ (n₁ + 1) := by
  rw [← nI_pred n₁]
  exact isInB_pred rfl hn₁
theorem r_unpackedAt {k₁ w₁ : Int32} {Q₁ : Int32 → MI → Prop} (hM₁ : MDL K₁ N₁ R₁ m₁) (hc₁ : I₁ m₁ 43 = nI n₁) (hn₁ : n₁ ≤ 30) (h₁ : Q₁ (if inN k₁ n₁ = true ∧ inN w₁ 2 = true then (if w₁ = 0 then I₁ (m₁ + 20) (ix k₁) else I₁ (m₁ + 21) (ix k₁)) else -1) (mup I₁ m₁ 0 0)) : w_X12_unpackedAt m₁ k₁ w₁ K₁ N₁ I₁ L₁ R₁ Q₁ := by
  delta w_X12_unpackedAt
  refine ⟨hM₁.k, fun I2₁ eI₁ => ?_⟩
  have g2₁ : I2₁ m₁ 43 = nI n₁ := by rw [eI₁, mup_k (by decide)]; exact hc₁
  have g3₁ : I2₁ (m₁ + 20) = I₁ (m₁ + 20) := by rw [eI₁]; exact mup_ne (by omega)
  have g4₁ : I2₁ (m₁ + 21) = I₁ (m₁ + 21) := by rw [eI₁]; exact mup_ne (by omega)
  rw [g2₁]
  refine r_isIn ?_
  rw [isInB_pred rfl (by omega)]
  rw [← eI₁] at h₁
  refine ⟨fun e₁ => ?_, fun e₁ => r_isIn ?_⟩
  · rw [if_neg (by rw [e₁]; exact fun z₁ => absurd z₁.1 (by decide))] at h₁; exact h₁
  · rw [show isInB w₁ 0 1 = inN w₁ 2 from isInB_lit 1 (by decide)]
    refine ⟨fun e2₁ => ?_, fun e2₁ => ?_⟩
    · rw [if_neg (by rw [e2₁]; exact fun z₁ => absurd z₁.2 (by decide))] at h₁; exact h₁
    · rw [if_pos ⟨e₁, e2₁⟩] at h₁
      obtain ⟨j₁, hj₁, rfl⟩ := inN_t e₁ (by omega)
      refine ⟨fun f₁ => ?_, fun f₁ => ?_⟩
      · refine ⟨_, hM₁.r41, hM₁.k21, by rw [hM₁.n21]; exact (vp_nI (by omega)).mpr (by omega), ?_⟩
        rw [if_neg f₁] at h₁
        rw [g4₁]; exact h₁
      · refine ⟨_, hM₁.r40, hM₁.k20, by rw [hM₁.n20]; exact (vp_nI (by omega)).mpr (by omega), ?_⟩
        rw [if_pos f₁] at h₁
        rw [g3₁]; exact h₁
theorem r_told {k₁ : Int32} {Q₁ : Int32 → MI → Prop} (hM₁ : MDL K₁ N₁ R₁ m₁) (h₁ : Q₁ (if I₁ m₁ 52 = 0 then -1 else if inN k₁ 4 = true then I₁ (m₁ + 24) (ix k₁) else -1) (mup I₁ m₁ 0 0)) : w_X12_told m₁ k₁ K₁ N₁ I₁ L₁ R₁ Q₁ := by
  delta w_X12_told
  refine ⟨hM₁.k, fun I2₁ eI₁ => ?_⟩
  have g2₁ : I2₁ m₁ 52 = I₁ m₁ 52 := by rw [eI₁, mup_k (by decide)]
  have g3₁ : I2₁ (m₁ + 24) = I₁ (m₁ + 24) := by rw [eI₁]; exact mup_ne (by omega)
  rw [g2₁]
  rw [← eI₁] at h₁
  refine ⟨fun e₁ => ?_, fun e₁ => r_isIn ?_⟩
  · rw [if_pos e₁] at h₁; exact h₁
  · rw [if_neg e₁] at h₁
    rw [show isInB k₁ 0 3 = inN k₁ 4 from isInB_lit 3 (by decide)]
    refine ⟨fun e2₁ => ?_, fun e2₁ => ?_⟩
    · rw [if_neg (by rw [e2₁]; decide)] at h₁; exact h₁
    · rw [if_pos e2₁] at h₁
      obtain ⟨j₁, hj₁, rfl⟩ := inN_t e2₁ (by omega)
      refine ⟨_, hM₁.r50, hM₁.k24, by rw [hM₁.n24]; exact (vp_nI (by omega)).mpr (by omega), ?_⟩
      rw [g3₁]; exact h₁
end RG₁
