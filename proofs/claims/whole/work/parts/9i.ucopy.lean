/-! ===== a unit copied, a machine made new: the class ===== -/
/-- the widths of a unit's tables -/
def UWd₁ (I₁ : MI) (u₁ : Nat) : Prop := I₁ (u₁ + 1) 0 = nI 2 ∧ I₁ (u₁ + 4) 0 = nI 4 ∧ I₁ (u₁ + 7) 0 = nI 3 ∧ I₁ (u₁ + 10) 0 = nI 2 ∧ I₁ (u₁ + 13) 0 = nI 21
section UN₁
variable {K₁ N₁ : MK} {I₁ : MI} {L₁ : ML} {R₁ : MR} {a₁ b₁ c₁ u₁ v₁ m₁ w₁ n₁ : Nat} {U₁ : Nat → Int32} {W₁ : Nat → Int64}
theorem UD_wd (h₁ : UD I₁ L₁ u₁ U₁ W₁) : UWd₁ I₁ u₁ := ⟨h₁.2.1.1.1, h₁.2.2.1.1.1, h₁.2.2.2.1.1.1, h₁.2.2.2.2.1.1.1, h₁.2.2.2.2.2.1.1⟩
theorem mcpL_in {M₁ : ML} {s₁ d₁ n₁ y₁ : Nat} (h₁ : y₁ < n₁) : mcp M₁ s₁ (ix 0) d₁ (ix 0) n₁ d₁ y₁ = M₁ s₁ y₁ := by
  rw [mcp, if_pos ⟨rfl, by rw [show ix (0 : Int32) = 0 from rfl]; omega, by rw [show ix (0 : Int32) = 0 from rfl]; omega⟩, show ix (0 : Int32) = 0 from rfl, Nat.zero_add, Nat.sub_zero]
theorem mcpL_ne {M₁ : ML} {s₁ d₁ n₁ b₁ i₁ j₁ : Nat} (h₁ : b₁ ≠ d₁) : mcp M₁ s₁ i₁ d₁ j₁ n₁ b₁ = M₁ b₁ := by
  funext y₁
  rw [mcp, if_neg (fun z₁ => h₁ z₁.1)]
theorem imin_n {a₁ b₁ : Nat} (h₁ : a₁ ≤ b₁) (hb₁ : b₁ < 2147483648) : imin (nI a₁) (nI b₁) = nI a₁ := by
  rw [imin]
  split
  · rename_i z₁
    rw [ltN hb₁ (by omega)] at z₁
    omega
  · rfl
theorem plR_cc {c₁ c'₁ code : Nat → Int32} {kind many : Int32} (h₁ : plR c₁ kind many code) (hm₁ : kind = 2 ∨ ix many ≤ 8) (e₁ : ∀ y₁, y₁ < 21 → c'₁ y₁ = c₁ y₁) : plR c'₁ kind many code := by
  rcases h₁ with ⟨h1₁, h2₁, h3₁, h4₁, h5₁⟩ | ⟨h1₁, h2₁, h3₁, h4₁⟩
  · exact Or.inl ⟨h1₁, by rw [e₁ 3 (by decide)]; exact h2₁, by rw [e₁ 4 (by decide)]; exact h3₁, by rw [e₁ 5 (by decide)]; exact h4₁, by rw [e₁ 6 (by decide)]; exact h5₁⟩
  · refine Or.inr ⟨h1₁, by rw [e₁ 3 (by decide)]; exact h2₁, by rw [e₁ 4 (by decide)]; exact h3₁, fun j₁ hj₁ => ?_⟩
    rcases hm₁ with z₁ | z₁
    · rw [z₁] at h1₁; rcases h1₁ with y₁ | y₁ <;> exact absurd y₁ (by decide)
    · rw [e₁ _ (by omega), e₁ _ (by omega)]; exact h4₁ j₁ hj₁
/-- table a becomes as table b is -/
theorem s_tcopy {Q₁ : MI → ML → Prop} (hA₁ : TL K₁ N₁ R₁ a₁ m₁ w₁) (hB₁ : TL K₁ N₁ R₁ b₁ m₁ w₁) (hD₁ : TD I₁ b₁ m₁ w₁ n₁) (hne₁ : a₁ + 2 < b₁ ∨ b₁ + 2 < a₁)
    (h₁ : ∀ J₁ M₁, J₁ a₁ 3 = nI n₁ → (∀ y₁, y₁ < m₁ * w₁ → J₁ (a₁ + 2) y₁ = I₁ (b₁ + 2) y₁) → (∀ y₁, y₁ < m₁ → M₁ (a₁ + 1) y₁ = L₁ (b₁ + 1) y₁) → (∀ z₁, z₁ ≠ a₁ → z₁ ≠ a₁ + 2 → J₁ z₁ = I₁ z₁) → (∀ y₁, y₁ ≠ 3 → J₁ a₁ y₁ = I₁ a₁ y₁) → (∀ z₁, z₁ ≠ a₁ + 1 → M₁ z₁ = L₁ z₁) → Q₁ J₁ M₁) : w_X7_copyFrom a₁ b₁ K₁ N₁ I₁ L₁ R₁ Q₁ := by
  obtain ⟨p1₁, p2₁, p3₁, p4₁, p5₁, p6₁, p7₁, p8₁, p9₁, p10₁⟩ := hA₁
  obtain ⟨q1₁, q2₁, q3₁, q4₁, q5₁, q6₁, q7₁, q8₁, q9₁, q10₁⟩ := hB₁
  obtain ⟨d1₁, d2₁, d3₁⟩ := hD₁
  delta w_X7_copyFrom
  refine ⟨q1₁, p1₁, _, p2₁, p4₁, fun I5₁ g5₁ => ⟨_, q2₁, q4₁, ?_⟩⟩
  rw [p6₁, q6₁, imin_n (Nat.le_refl m₁) (by omega)]
  refine ⟨⟨by decide, by decide, nlt0 (by omega), by rw [ix_nI (by omega), show ix (0 : Int32) = 0 from rfl, Nat.zero_add]; exact Nat.le_refl m₁, by rw [ix_nI (by omega), show ix (0 : Int32) = 0 from rfl, Nat.zero_add]; exact Nat.le_refl m₁⟩, fun L9₁ g9₁ => ⟨_, q3₁, _, p3₁, p5₁, q5₁, ?_⟩⟩
  rw [p7₁, q7₁, imin_n (Nat.le_refl _) (by omega)]
  refine ⟨⟨by decide, by decide, nlt0 (by omega), by rw [ix_nI (by omega), show ix (0 : Int32) = 0 from rfl, Nat.zero_add]; exact Nat.le_refl _, by rw [ix_nI (by omega), show ix (0 : Int32) = 0 from rfl, Nat.zero_add]; exact Nat.le_refl _⟩, fun I15₁ g15₁ => ?_⟩
  rw [ix_nI (by omega)] at g9₁ g15₁
  rw [p6₁, d2₁, imin_n d3₁ (by omega)] at g5₁
  refine h₁ I15₁ L9₁ ?_ (fun y₁ hy₁ => ?_) (fun y₁ hy₁ => ?_) (fun z₁ z1₁ z2₁ => ?_) (fun y₁ hy₁ => ?_) (fun z₁ z1₁ => ?_)
  · rw [g15₁, mcp_ne (by omega), g5₁, mup_at]
  · rw [g15₁, mcp_in hy₁, g5₁, mup_ne (by omega)]
  · rw [g9₁, mcpL_in hy₁]
  · rw [g15₁, mcp_ne z2₁, g5₁, mup_ne z1₁]
  · rw [g15₁, mcp_ne (by omega), g5₁, mup_k hy₁]
  · rw [g9₁, mcpL_ne z1₁]
/-- unit u becomes as unit v is -/
theorem s_ucopy {Q₁ : MI → ML → Prop} (hL₁ : UL K₁ N₁ R₁ u₁) (hV₁ : UL K₁ N₁ R₁ v₁) (hD₁ : UD I₁ L₁ v₁ U₁ W₁) (hW₁ : WFU₁ U₁) (hwd₁ : UWd₁ I₁ u₁) (hne₁ : u₁ + 15 < v₁ ∨ v₁ + 15 < u₁)
    (h₁ : ∀ J₁ M₁, UD J₁ M₁ u₁ U₁ W₁ → (∀ z₁, z₁ < u₁ ∨ u₁ + 16 ≤ z₁ → J₁ z₁ = I₁ z₁) → (∀ z₁, z₁ < u₁ ∨ u₁ + 16 ≤ z₁ → M₁ z₁ = L₁ z₁) → Q₁ J₁ M₁) : w_X9_copyFrom u₁ v₁ K₁ N₁ I₁ L₁ R₁ Q₁ := by
  obtain ⟨k0₁, r1₁, r2₁, r3₁, r4₁, r5₁, a1₁, a2₁, a3₁, a4₁, a5₁⟩ := hL₁
  obtain ⟨k0'₁, s1₁, s2₁, s3₁, s4₁, s5₁, b1₁, b2₁, b3₁, b4₁, b5₁⟩ := hV₁
  obtain ⟨c0₁, c1₁, c2₁, c3₁, c4₁, c5₁⟩ := hD₁
  obtain ⟨e1₁, e2₁, e3₁, e4₁, e5₁⟩ := hwd₁
  have hU₁ := hW₁.1
  have n1₁ := hU₁.1.2
  have n2₁ := hU₁.2.1.2
  have n3₁ := hU₁.2.2.1.2
  have n4₁ := hU₁.2.2.2.1.2
  have n5₁ := hU₁.2.2.2.2.1.2
  delta w_X9_copyFrom
  refine ⟨k0'₁, k0₁, fun I3₁ g3₁ => ⟨_, r1₁, _, s1₁, a1₁.1, ?_⟩⟩
  have f3₁ : ∀ z₁, z₁ ≠ u₁ → I3₁ z₁ = I₁ z₁ := fun z₁ hz₁ => by rw [g3₁, mup_ne hz₁]
  refine s_tcopy a1₁ b1₁ (c1₁.1.fr (f3₁ _ (by omega))) (by omega) (fun J1₁ M1₁ x1₁ x2₁ x3₁ x4₁ x5₁ x6₁ => ⟨_, r2₁, _, s2₁, a2₁.1, ?_⟩)
  have g1₁ : ∀ z₁, z₁ < u₁ ∨ u₁ + 3 < z₁ → J1₁ z₁ = I₁ z₁ := fun z₁ hz₁ => by rw [x4₁ z₁ (by omega) (by omega), f3₁ z₁ (by omega)]
  have m1₁ : ∀ z₁, z₁ < u₁ ∨ u₁ + 3 < z₁ → M1₁ z₁ = L₁ z₁ := fun z₁ hz₁ => x6₁ z₁ (by omega)
  refine s_tcopy a2₁ b2₁ (c2₁.1.fr (g1₁ _ (by omega))) (by omega) (fun J2₁ M2₁ y1₁ y2₁ y3₁ y4₁ y5₁ y6₁ => ⟨_, r3₁, _, s3₁, a3₁.1, ?_⟩)
  have g2₁ : ∀ z₁, z₁ < u₁ ∨ u₁ + 6 < z₁ → J2₁ z₁ = I₁ z₁ := fun z₁ hz₁ => by rw [y4₁ z₁ (by omega) (by omega), g1₁ z₁ (by omega)]
  have m2₁ : ∀ z₁, z₁ < u₁ ∨ u₁ + 6 < z₁ → M2₁ z₁ = L₁ z₁ := fun z₁ hz₁ => by rw [y6₁ z₁ (by omega), m1₁ z₁ (by omega)]
  refine s_tcopy a3₁ b3₁ (c3₁.1.fr (g2₁ _ (by omega))) (by omega) (fun J3₁ M3₁ z1₁ z2₁ z3₁ z4₁ z5₁ z6₁ => ⟨_, r4₁, _, s4₁, a4₁.1, ?_⟩)
  have g3'₁ : ∀ z₁, z₁ < u₁ ∨ u₁ + 9 < z₁ → J3₁ z₁ = I₁ z₁ := fun z₁ hz₁ => by rw [z4₁ z₁ (by omega) (by omega), g2₁ z₁ (by omega)]
  have m3₁ : ∀ z₁, z₁ < u₁ ∨ u₁ + 9 < z₁ → M3₁ z₁ = L₁ z₁ := fun z₁ hz₁ => by rw [z6₁ z₁ (by omega), m2₁ z₁ (by omega)]
  refine s_tcopy a4₁ b4₁ (c4₁.1.fr (g3'₁ _ (by omega))) (by omega) (fun J4₁ M4₁ t1₁ t2₁ t3₁ t4₁ t5₁ t6₁ => ⟨_, r5₁, _, s5₁, a5₁.1, ?_⟩)
  have g4₁ : ∀ z₁, z₁ < u₁ ∨ u₁ + 12 < z₁ → J4₁ z₁ = I₁ z₁ := fun z₁ hz₁ => by rw [t4₁ z₁ (by omega) (by omega), g3'₁ z₁ (by omega)]
  have m4₁ : ∀ z₁, z₁ < u₁ ∨ u₁ + 12 < z₁ → M4₁ z₁ = L₁ z₁ := fun z₁ hz₁ => by rw [t6₁ z₁ (by omega), m3₁ z₁ (by omega)]
  refine s_tcopy a5₁ b5₁ (c5₁.1.fr (g4₁ _ (by omega))) (by omega) (fun J5₁ M5₁ w1₁ w2₁ w3₁ w4₁ w5₁ w6₁ => ?_)
  refine h₁ J5₁ M5₁ ⟨?_, ⟨⟨?_, ?_, n1₁⟩, fun k₁ hk₁ => ?_⟩, ⟨⟨?_, ?_, n2₁⟩, fun k₁ hk₁ => ?_⟩, ⟨⟨?_, ?_, n3₁⟩, fun k₁ hk₁ => ?_⟩, ⟨⟨?_, ?_, n4₁⟩, fun k₁ hk₁ => ?_⟩, ⟨⟨?_, ?_, n5₁⟩, fun k₁ hk₁ => ?_⟩⟩ (fun z₁ hz₁ => by rw [w4₁ z₁ (by omega) (by omega), g4₁ z₁ (by omega)]) (fun z₁ hz₁ => by rw [w6₁ z₁ (by omega), m4₁ z₁ (by omega)])
  · rw [w4₁ _ (by omega) (by omega), t4₁ _ (by omega) (by omega), z4₁ _ (by omega) (by omega), y4₁ _ (by omega) (by omega), x4₁ _ (by omega) (by omega), g3₁, mup_at]; exact c0₁
  · rw [w4₁ _ (by omega) (by omega), t4₁ _ (by omega) (by omega), z4₁ _ (by omega) (by omega), y4₁ _ (by omega) (by omega), x5₁ 0 (by decide), f3₁ _ (by omega)]; exact e1₁
  · rw [w4₁ _ (by omega) (by omega), t4₁ _ (by omega) (by omega), z4₁ _ (by omega) (by omega), y4₁ _ (by omega) (by omega)]; exact x1₁
  · rw [w4₁ _ (by omega) (by omega), t4₁ _ (by omega) (by omega), z4₁ _ (by omega) (by omega), y4₁ _ (by omega) (by omega), x2₁ _ (by omega), x2₁ _ (by omega), f3₁ _ (by omega)]; exact c1₁.2 k₁ hk₁
  · rw [w4₁ _ (by omega) (by omega), t4₁ _ (by omega) (by omega), z4₁ _ (by omega) (by omega), y5₁ 0 (by decide), g1₁ _ (by omega)]; exact e2₁
  · rw [w4₁ _ (by omega) (by omega), t4₁ _ (by omega) (by omega), z4₁ _ (by omega) (by omega)]; exact y1₁
  · rw [w4₁ _ (by omega) (by omega), t4₁ _ (by omega) (by omega), z4₁ _ (by omega) (by omega), y2₁ _ (by omega), y2₁ _ (by omega), y2₁ _ (by omega), y2₁ _ (by omega), g1₁ _ (by omega), w6₁ _ (by omega), t6₁ _ (by omega), z6₁ _ (by omega), y3₁ _ (by omega), m1₁ _ (by omega)]; exact c2₁.2 k₁ hk₁
  · rw [w4₁ _ (by omega) (by omega), t4₁ _ (by omega) (by omega), z5₁ 0 (by decide), g2₁ _ (by omega)]; exact e3₁
  · rw [w4₁ _ (by omega) (by omega), t4₁ _ (by omega) (by omega)]; exact z1₁
  · rw [w4₁ _ (by omega) (by omega), t4₁ _ (by omega) (by omega), z2₁ _ (by omega), z2₁ _ (by omega), z2₁ _ (by omega), g2₁ _ (by omega), w6₁ _ (by omega), t6₁ _ (by omega), z3₁ _ (by omega), m2₁ _ (by omega)]; exact c3₁.2 k₁ hk₁
  · rw [w4₁ _ (by omega) (by omega), t5₁ 0 (by decide), g3'₁ _ (by omega)]; exact e4₁
  · rw [w4₁ _ (by omega) (by omega)]; exact t1₁
  · rw [w4₁ _ (by omega) (by omega), t2₁ _ (by omega), t2₁ _ (by omega), g3'₁ _ (by omega), w6₁ _ (by omega), t3₁ _ (by omega), m3₁ _ (by omega)]; exact c4₁.2 k₁ hk₁
  · rw [w5₁ 0 (by decide), g4₁ _ (by omega)]; exact e5₁
  · exact w1₁
  · have hh₁ : ∀ y₁, y₁ < 21 → J5₁ (u₁ + 13 + 2) (k₁ * 21 + y₁) = I₁ (v₁ + 13 + 2) (k₁ * 21 + y₁) := fun y₁ hy₁ => by rw [w2₁ _ (by omega), g4₁ _ (by omega)]
    have r₁ := c5₁.2 k₁ hk₁
    rw [hh₁ 0 (by decide), hh₁ 1 (by decide), hh₁ 2 (by decide)]
    refine ⟨r₁.1, r₁.2.1, r₁.2.2.1, ?_⟩
    exact plR_cc r₁.2.2.2 (WFo_m n5₁ hW₁.2.2.2.2.2.2.2 k₁ hk₁) hh₁
theorem s_makeNew {Q₁ : MI → Prop} (hC₁ : MAL K₁ N₁ R₁ c₁) (h₁ : ∀ J₁, MACD J₁ c₁ (fun _ => 0) → (∀ b₁, b₁ ≠ c₁ → b₁ ≠ c₁ + 1 → b₁ ≠ c₁ + 2 → J₁ b₁ = I₁ b₁) → Q₁ J₁) : w_X3_makeNew c₁ K₁ N₁ I₁ L₁ R₁ Q₁ := by
  delta w_X3_makeNew w_X3_makeNew_2
  refine ⟨fun n1₁ y0₁ y1₁ I1₁ => y0₁ = c₁ ∧ ∃ i₁, i₁ ≤ 8 ∧ n1₁ = 8 - i₁ ∧ y1₁ = nI i₁ ∧ (∀ k₁, k₁ < i₁ → I1₁ (c₁ + 1) k₁ = 0) ∧ (∀ b₁, b₁ ≠ c₁ + 1 → I1₁ b₁ = I₁ b₁), ⟨8, rfl, 0, by omega, rfl, rfl, fun k₁ hk₁ => absurd hk₁ (Nat.not_lt_zero k₁), fun _ _ => rfl⟩, ?_⟩
  rintro n1₁ y0₁ y1₁ I1₁ ⟨rfl, i₁, hi₁, rfl, rfl, hz₁, hf₁⟩
  rw [show (8 : Int32) = nI 8 from rfl, leN (by omega) (by omega)]
  refine ⟨fun e₁ => ?_, fun e₁ => ⟨hC₁.1, _, hC₁.2.1, hC₁.2.2.2.2.1, by rw [hC₁.2.2.2.2.2.1]; exact (vp_nI (by omega)).mpr (by omega), fun I15₁ g15₁ v16₁ g16₁ => ⟨8 - (i₁ + 1), by omega, rfl, i₁ + 1, by omega, rfl, by rw [g16₁, nI_1], fun k₁ hk₁ => ?_, fun b₁ hb₁ => by rw [g15₁, mup_ne hb₁, hf₁ b₁ hb₁]⟩⟩⟩
  case refine_2 =>
    rw [ix_nI (by omega)] at g15₁
    by_cases q₁ : k₁ = i₁
    · rw [g15₁, q₁, mup_at]
    · rw [g15₁, mup_k q₁]; exact hz₁ k₁ (by omega)
  have i8₁ : i₁ = 8 := by omega
  subst i8₁
  delta w_X3_makeNew_23
  refine ⟨fun n1₁ z0₁ z1₁ I2₁ => z0₁ = y0₁ ∧ ∃ i₁, i₁ ≤ 64 ∧ n1₁ = 64 - i₁ ∧ z1₁ = nI i₁ ∧ (∀ k₁, k₁ < i₁ → I2₁ (y0₁ + 2) k₁ = 0) ∧ (∀ b₁, b₁ ≠ y0₁ + 2 → I2₁ b₁ = I1₁ b₁), ⟨64, rfl, 0, by omega, rfl, rfl, fun k₁ hk₁ => absurd hk₁ (Nat.not_lt_zero k₁), fun _ _ => rfl⟩, ?_⟩
  rintro n1₁ z0₁ z1₁ I2₁ ⟨rfl, i₁, hi2₁, rfl, rfl, hz2₁, hf2₁⟩
  rw [show (64 : Int32) = nI 64 from rfl, leN (by omega) (by omega)]
  refine ⟨fun e₁ => ⟨hC₁.1, fun I5₁ g5₁ I6₁ g6₁ I7₁ g7₁ => h₁ I7₁ ⟨?_, ?_, ?_, ⟨0, rfl, by decide, fun k₁ hk₁ => absurd hk₁ (Nat.not_lt_zero k₁)⟩, fun k₁ hk₁ => ?_, fun k₁ hk₁ => ?_⟩ (fun b₁ q1₁ q2₁ q3₁ => ?_)⟩, fun e₁ => ⟨hC₁.1, _, hC₁.2.2.1, hC₁.2.2.2.2.2.2.1, by rw [hC₁.2.2.2.2.2.2.2.1]; exact (vp_nI (by omega)).mpr (by omega), fun I15₁ g15₁ v16₁ g16₁ => ⟨64 - (i₁ + 1), by omega, rfl, i₁ + 1, by omega, rfl, by rw [g16₁, nI_1], fun k₁ hk₁ => ?_, fun b₁ hb₁ => by rw [g15₁, mup_ne hb₁, hf2₁ b₁ hb₁]⟩⟩⟩
  · first | (rw [g7₁, mup_k (by decide), g6₁, mup_at]) | (rw [g7₁, mup_at]) | (rw [g7₁, mup_k (by decide), g6₁, mup_k (by decide), g5₁, mup_at])
  · first | (rw [g7₁, mup_at]) | (rw [g7₁, mup_k (by decide), g6₁, mup_at]) | (rw [g7₁, mup_k (by decide), g6₁, mup_k (by decide), g5₁, mup_at])
  · first | (rw [g7₁, mup_k (by decide), g6₁, mup_k (by decide), g5₁, mup_at]) | (rw [g7₁, mup_k (by decide), g6₁, mup_at]) | (rw [g7₁, mup_at])
  · rw [g7₁, mup_ne (by omega), g6₁, mup_ne (by omega), g5₁, mup_ne (by omega), hf2₁ _ (by omega)]; exact hz₁ k₁ hk₁
  · rw [g7₁, mup_ne (by omega), g6₁, mup_ne (by omega), g5₁, mup_ne (by omega)]; exact hz2₁ k₁ (by omega)
  · rw [g7₁, mup_ne q1₁, g6₁, mup_ne q1₁, g5₁, mup_ne q1₁, hf2₁ b₁ q3₁, hf₁ b₁ q2₁]
  · rw [ix_nI (by omega)] at g15₁
    by_cases q₁ : k₁ = i₁
    · rw [g15₁, q₁, mup_at]
    · rw [g15₁, mup_k q₁]; exact hz2₁ k₁ (by omega)
end UN₁
