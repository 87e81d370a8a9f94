/-! ===== count ===== -/
def cntS (U₁ : Nat → Int32) (T₁ w₁ : Int32) : Int32 := if w₁ = 0 then U₁ 0 else if w₁ = 1 then U₁ 1 else if w₁ = 2 then U₁ 2 else if w₁ = 3 then U₁ 3 else if w₁ = 4 then U₁ 4 else if w₁ = 5 then U₁ 5 else if w₁ = 6 then T₁ else -1
section UN₁
variable {K₁ N₁ : MK} {I₁ : MI} {L₁ : ML} {R₁ : MR} {x₁ : Nat} {U₁ : Nat → Int32} {W₁ : Nat → Int64} {T₁ : Int32}
theorem s_count {w₁ : Int32} {Q₁ : Int32 → Prop} (hX₁ : PDL K₁ N₁ R₁ x₁) (hD₁ : UD I₁ L₁ (x₁ + 3) U₁ W₁) (hU₁ : WFc U₁) (ht₁ : I₁ (x₁ + 1) 1 = T₁) (h₁ : Q₁ (cntS U₁ T₁ w₁)) : w_X11_count x₁ w₁ K₁ N₁ I₁ L₁ R₁ Q₁ := by
  have hL₁ := hX₁.un
  rw [cntS] at h₁
  refine ⟨fun e0₁ => ⟨hX₁.k, _, hX₁.r_unit, hL₁.1, ?_⟩, fun e0₁ => ⟨fun e1₁ => ⟨hX₁.k, _, hX₁.r_unit, hL₁.1, _, hL₁.2.1, hL₁.2.2.2.2.2.2.1.1, ?_⟩, fun e1₁ => ⟨fun e2₁ => ⟨hX₁.k, _, hX₁.r_unit, hL₁.1, _, hL₁.2.2.1, hL₁.2.2.2.2.2.2.2.1.1, ?_⟩, fun e2₁ => ⟨fun e3₁ => ⟨hX₁.k, _, hX₁.r_unit, hL₁.1, _, hL₁.2.2.2.1, hL₁.2.2.2.2.2.2.2.2.1.1, ?_⟩, fun e3₁ => ⟨fun e4₁ => ⟨hX₁.k, _, hX₁.r_unit, hL₁.1, _, hL₁.2.2.2.2.1, hL₁.2.2.2.2.2.2.2.2.2.1.1, ?_⟩, fun e4₁ => ⟨fun e5₁ => ⟨hX₁.k, _, hX₁.r_unit, hL₁.1, _, hL₁.2.2.2.2.2.1, hL₁.2.2.2.2.2.2.2.2.2.2.1, ?_⟩, fun e5₁ => ⟨fun e6₁ => ⟨hX₁.k, _, hX₁.r_tokens, hX₁.tok, ?_⟩, fun e6₁ => ?_⟩⟩⟩⟩⟩⟩⟩
  · rw [if_pos e0₁] at h₁; rw [hD₁.1]; exact h₁
  · rw [if_neg e0₁, if_pos e1₁] at h₁; rw [hD₁.2.1.1.2.1, ← hU₁.1.1]; exact h₁
  · rw [if_neg e0₁, if_neg e1₁, if_pos e2₁] at h₁; rw [hD₁.2.2.1.1.2.1, ← hU₁.2.1.1]; exact h₁
  · rw [if_neg e0₁, if_neg e1₁, if_neg e2₁, if_pos e3₁] at h₁; rw [hD₁.2.2.2.1.1.2.1, ← hU₁.2.2.1.1]; exact h₁
  · rw [if_neg e0₁, if_neg e1₁, if_neg e2₁, if_neg e3₁, if_pos e4₁] at h₁; rw [hD₁.2.2.2.2.1.1.2.1, ← hU₁.2.2.2.1.1]; exact h₁
  · rw [if_neg e0₁, if_neg e1₁, if_neg e2₁, if_neg e3₁, if_neg e4₁, if_pos e5₁] at h₁; rw [hD₁.2.2.2.2.2.1.2.1, ← hU₁.2.2.2.2.1.1]; exact h₁
  · rw [if_neg e0₁, if_neg e1₁, if_neg e2₁, if_neg e3₁, if_neg e4₁, if_neg e5₁, if_pos e6₁] at h₁; rw [ht₁]; exact h₁
  · rw [if_neg e0₁, if_neg e1₁, if_neg e2₁, if_neg e3₁, if_neg e4₁, if_neg e5₁, if_neg e6₁] at h₁; exact h₁
end UN₁
section RG₁
variable {K₁ N₁ : MK} {I₁ : MI} {L₁ : ML} {R₁ : MR} {m₁ : Nat}
theorem r_count {w₁ : Int32} {Q₁ : Int32 → MI → Prop} (hM₁ : MDL K₁ N₁ R₁ m₁) (h₁ : Q₁ (cntS (I₁ (m₁ + 2)) (I₁ m₁ 2) w₁) (mup I₁ m₁ 0 0)) : w_X12_count m₁ w₁ K₁ N₁ I₁ L₁ R₁ Q₁ := by
  delta w_X12_count
  refine ⟨hM₁.k, fun I2₁ eI₁ => ?_⟩
  have g2₁ : I2₁ (m₁ + 2) = I₁ (m₁ + 2) := by rw [eI₁]; exact mup_ne (by omega)
  have g0₁ : I2₁ m₁ 2 = I₁ m₁ 2 := by rw [eI₁]; exact mup_k (by decide)
  rw [← eI₁, cntS] at h₁
  refine ⟨fun e0₁ => ⟨_, hM₁.r14, hM₁.k2, by rw [hM₁.n2]; exact vp_c (by decide) (by decide), ?_⟩, fun e0₁ => ⟨fun e1₁ => ⟨_, hM₁.r14, hM₁.k2, by rw [hM₁.n2]; exact vp_c (by decide) (by decide), ?_⟩, fun e1₁ => ⟨fun e2₁ => ⟨_, hM₁.r14, hM₁.k2, by rw [hM₁.n2]; exact vp_c (by decide) (by decide), ?_⟩, fun e2₁ => ⟨fun e3₁ => ⟨_, hM₁.r14, hM₁.k2, by rw [hM₁.n2]; exact vp_c (by decide) (by decide), ?_⟩, fun e3₁ => ⟨fun e4₁ => ⟨_, hM₁.r14, hM₁.k2, by rw [hM₁.n2]; exact vp_c (by decide) (by decide), ?_⟩, fun e4₁ => ⟨fun e5₁ => ⟨_, hM₁.r14, hM₁.k2, by rw [hM₁.n2]; exact vp_c (by decide) (by decide), ?_⟩, fun e5₁ => ⟨fun e6₁ => ?_, fun e6₁ => ?_⟩⟩⟩⟩⟩⟩⟩
  · rw [if_pos e0₁] at h₁; rw [g2₁, ix_c (by decide)]; exact h₁
  · rw [if_neg e0₁, if_pos e1₁] at h₁; rw [g2₁, ix_c (by decide)]; exact h₁
  · rw [if_neg e0₁, if_neg e1₁, if_pos e2₁] at h₁; rw [g2₁, ix_c (by decide)]; exact h₁
  · rw [if_neg e0₁, if_neg e1₁, if_neg e2₁, if_pos e3₁] at h₁; rw [g2₁, ix_c (by decide)]; exact h₁
  · rw [if_neg e0₁, if_neg e1₁, if_neg e2₁, if_neg e3₁, if_pos e4₁] at h₁; rw [g2₁, ix_c (by decide)]; exact h₁
  · rw [if_neg e0₁, if_neg e1₁, if_neg e2₁, if_neg e3₁, if_neg e4₁, if_pos e5₁] at h₁; rw [g2₁, ix_c (by decide)]; exact h₁
  · rw [if_neg e0₁, if_neg e1₁, if_neg e2₁, if_neg e3₁, if_neg e4₁, if_neg e5₁, if_pos e6₁] at h₁; rw [g0₁]; exact h₁
  · rw [if_neg e0₁, if_neg e1₁, if_neg e2₁, if_neg e3₁, if_neg e4₁, if_neg e5₁, if_neg e6₁] at h₁; exact h₁
end RG₁
