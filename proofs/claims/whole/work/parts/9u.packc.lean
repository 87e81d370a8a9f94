/-! ===== packed: the class ===== -/
section PK₁
variable {K₁ N₁ : MK} {I₁ : MI} {L₁ : ML} {R₁ : MR} {x₁ : Nat}
def PST₁ (I₁ : MI) (x₁ : Nat) (bs₁ : List Nat) : Prop := TD I₁ (x₁ + 64) 181 1 bs₁.length ∧ ∀ i₁, i₁ < bs₁.length → I₁ (x₁ + 66) i₁ = nI (bs₁.getD i₁ 0)
def frPk (x₁ : Nat) (J₁ I₁ : MI) (M₁ L₁ : ML) : Prop := (∀ b₁, b₁ ≠ x₁ + 64 → b₁ ≠ x₁ + 66 → J₁ b₁ = I₁ b₁) ∧ ∀ b₁, b₁ ≠ x₁ + 65 → M₁ b₁ = L₁ b₁
theorem frPk_r : frPk x₁ I₁ I₁ L₁ L₁ := ⟨fun _ _ _ => rfl, fun _ _ => rfl⟩
theorem frPk_t {J₁ J'₁ : MI} {M₁ M'₁ : ML} (h₁ : frPk x₁ J'₁ J₁ M'₁ M₁) (h2₁ : frPk x₁ J₁ I₁ M₁ L₁) : frPk x₁ J'₁ I₁ M'₁ L₁ := ⟨fun b₁ h3₁ h4₁ => by rw [h₁.1 b₁ h3₁ h4₁, h2₁.1 b₁ h3₁ h4₁], fun b₁ h3₁ => by rw [h₁.2 b₁ h3₁, h2₁.2 b₁ h3₁]⟩
theorem s_putByte {bs₁ : List Nat} {v₁ : Int32} {b₁ : Nat} {Q₁ : MI → ML → Prop} (hX₁ : PDL K₁ N₁ R₁ x₁) (hS₁ : PST₁ I₁ x₁ bs₁) (hl₁ : bs₁.length < 181) (hv₁ : v₁ = nI b₁)
    (h₁ : ∀ J₁ M₁, PST₁ J₁ x₁ (bs₁ ++ [b₁]) → frPk x₁ J₁ I₁ M₁ L₁ → Q₁ J₁ M₁) : w_X4_putByte (x₁ + 63) v₁ K₁ N₁ I₁ L₁ R₁ Q₁ := by
  have d₁ := hS₁.1
  delta w_X4_putByte
  refine ⟨hX₁.pak, _, hX₁.pak_r0, hX₁.pak_t0.1, s_add hX₁.pak_t0 d₁ hl₁ (s_put (n₁ := bs₁.length + 1) (k₁ := bs₁.length) (c₁ := 0) hX₁.pak_t0 ⟨?_, ?_, ?_⟩ (by omega) (by decide) (h₁ _ _ ⟨⟨?_, ?_, ?_⟩, fun i₁ hi₁ => ?_⟩ ⟨fun c₁ h1₁ h2₁ => ?_, fun c₁ h1₁ => ?_⟩))⟩
  · rw [mup_k (by decide)]; exact d₁.1
  · rw [mup_at]
  · omega
  · rw [mup_ne (by omega), mup_k (by decide)]; exact d₁.1
  · rw [mup_ne (by omega), mup_at, List.length_append]; rfl
  · rw [List.length_append, List.length_singleton]; omega
  · rw [List.length_append, List.length_singleton] at hi₁
    rw [getD_sn _ _ _ _ hi₁]
    by_cases q₁ : i₁ = bs₁.length
    · rw [if_pos q₁, q₁, Nat.mul_one]
      show mup _ (x₁ + 66) bs₁.length v₁ (x₁ + 66) bs₁.length = nI b₁
      rw [mup_at, hv₁]
    · rw [if_neg q₁, Nat.mul_one]
      show mup _ (x₁ + 66) bs₁.length v₁ (x₁ + 66) i₁ = _
      rw [mup_k (by omega), mup_ne (by omega)]
      exact hS₁.2 i₁ (by omega)
  · rw [mup_ne h2₁, mup_ne h1₁]
  · rw [mup_ne h1₁]
theorem s_bytesUp {u₁ r₁ : Nat} {Q₁ : Int32 → Prop} (hu₁ : u₁ < 100000) (hr₁ : r₁ < 1000) (h₁ : Q₁ (nI (buS₁ u₁ r₁))) : w_X4_bytesUp (nI u₁) (nI r₁) K₁ N₁ I₁ L₁ R₁ Q₁ := by
  delta w_X4_bytesUp
  rw [ltN (by omega) (by omega), show nI u₁ - 17 = zIn₁ ((u₁ : Int) - 17) by rw [nIz₁, show (17 : Int32) = zIn₁ 17 from rfl, zI_sub], nIz₁ r₁, zI_lt (by omega) (by omega)]
  have e₁ := buS_e u₁ r₁
  refine ⟨fun q₁ => ⟨fun q2₁ => ?_, fun q2₁ => ?_⟩, fun q₁ => ?_⟩
  · rw [show buS₁ u₁ r₁ = 2 by omega] at h₁; exact h₁
  · rw [show buS₁ u₁ r₁ = 1 by omega] at h₁; exact h₁
  · rw [show buS₁ u₁ r₁ = 0 by omega] at h₁; exact h₁
theorem s_bytesFor {u₁ : Nat} {d₁ : Int} {Q₁ : Int32 → Prop} (hu₁ : u₁ < 100000) (hd₁ : -1000 ≤ d₁ ∧ d₁ ≤ 1000) (h₁ : Q₁ (nI (bfS₁ u₁ d₁))) : w_X4_bytesFor (nI u₁) (zIn₁ d₁) K₁ N₁ I₁ L₁ R₁ Q₁ := by
  delta w_X4_bytesFor
  rw [show (-4 : Int32) = zIn₁ (-4) from rfl, show (7 : Int32) = zIn₁ 7 from rfl, show (20 : Int32) = nI 20 from rfl, show (19 : Int32) = nI 19 from rfl, show (4 : Int32) = nI 4 from rfl, show (1 : Int32) = nI 1 from rfl, zI_lt (by omega) (by omega), zI_le (by omega) (by omega), nIz₁ 1, zI_le (by omega) (by omega), ← nIz₁ 1]
  rw [bfS₁] at h₁
  refine ⟨fun q₁ => s_bytesUp hu₁ (by decide) ?_, fun q₁ => ⟨fun q2₁ => ⟨fun q3₁ => s_bytesUp hu₁ (by decide) ?_, fun q3₁ => s_bytesUp hu₁ (by decide) ?_⟩, fun q2₁ => s_bytesUp hu₁ (by decide) ?_⟩⟩
  · rw [if_neg (by omega)] at h₁; rw [addN]; exact h₁
  · rw [if_pos (by omega), if_neg (by omega)] at h₁; rw [addN]; exact h₁
  · rw [if_pos (by omega), if_pos (by omega)] at h₁; rw [addN]; exact h₁
  · rw [if_neg (by omega)] at h₁; rw [addN]; exact h₁
theorem bfS_lt (u₁ : Nat) (d₁ : Int) : 1 ≤ bfS₁ u₁ d₁ ∧ bfS₁ u₁ d₁ ≤ 6 := by
  obtain ⟨r₁, b₁, h1₁, h2₁⟩ := bfS_e u₁ d₁
  omega
theorem s_leastUp {u₁ n₁ : Nat} {d₁ : Int} {Q₁ : Int32 → Prop} (hu₁ : u₁ < 100000) (hd₁ : -1000 ≤ d₁ ∧ d₁ ≤ 1000) (hn₁ : n₁ < 1000)
    (h1₁ : ∀ k₁, k₁ ≤ u₁ → k₁ ≤ 255 → 2 + bfS₁ (u₁ - k₁) d₁ = n₁ → (∀ i₁, i₁ < k₁ → 2 + bfS₁ (u₁ - i₁) d₁ ≠ n₁) → Q₁ (nI k₁))
    (h2₁ : (∀ k₁, k₁ ≤ u₁ → k₁ ≤ 255 → 2 + bfS₁ (u₁ - k₁) d₁ ≠ n₁) → Q₁ (-1)) : w_X4_leastUp (nI u₁) (zIn₁ d₁) (nI n₁) K₁ N₁ I₁ L₁ R₁ Q₁ := by
  delta w_X4_leastUp w_X4_leastUp_2
  refine ⟨fun n1₁ y0₁ y1₁ y2₁ y3₁ => y0₁ = nI u₁ ∧ y1₁ = zIn₁ d₁ ∧ y2₁ = nI n₁ ∧ ∃ k₁, y3₁ = nI k₁ ∧ k₁ ≤ 256 ∧ n1₁ = 256 - k₁ ∧ ∀ i₁, i₁ < k₁ → 2 + bfS₁ (u₁ - i₁) d₁ ≠ n₁, ⟨256, rfl, rfl, rfl, 0, rfl, by decide, rfl, fun i₁ hi₁ => absurd hi₁ (Nat.not_lt_zero i₁)⟩, ?_⟩
  rintro n1₁ y0₁ y1₁ y2₁ y3₁ ⟨rfl, rfl, rfl, k₁, rfl, hk₁, rfl, hs₁⟩
  rw [ltN (by omega) (by omega), show (255 : Int32) = nI 255 from rfl, ltN (by omega) (by omega)]
  refine ⟨fun q₁ => h2₁ (fun i₁ _ _ => hs₁ i₁ (by omega)), fun q₁ => ⟨fun q2₁ => h2₁ (fun i₁ _ _ => hs₁ i₁ (by omega)), fun q2₁ => ?_⟩⟩
  rw [subN (by omega)]
  refine s_bytesFor (by omega) hd₁ ?_
  have := bfS_lt (u₁ - k₁) d₁
  rw [show (2 : Int32) = nI 2 from rfl, addN, eqN (by omega) (by omega)]
  refine ⟨fun q3₁ v2₁ g2₁ => ⟨256 - (k₁ + 1), by omega, rfl, rfl, rfl, k₁ + 1, by rw [g2₁, nI_1], by omega, rfl, fun i₁ hi₁ => ?_⟩, fun q3₁ => h1₁ k₁ (by omega) (by omega) q3₁ hs₁⟩
  by_cases e₁ : i₁ = k₁
  · rw [e₁]; exact q3₁
  · exact hs₁ i₁ (by omega)
theorem s_mostRest {u₁ n₁ : Nat} {Q₁ : Int32 → Prop} (hu₁ : u₁ < 100000) (hn₁ : n₁ < 1000)
    (h1₁ : ∀ c₁ : Int, -4 ≤ c₁ → c₁ ≤ 7 → 3 + bfS₁ u₁ c₁ = n₁ → (∀ k₁ : Int, c₁ < k₁ → k₁ ≤ 7 → 3 + bfS₁ u₁ k₁ ≠ n₁) → Q₁ (zIn₁ c₁))
    (h2₁ : (∀ k₁ : Int, -4 ≤ k₁ → k₁ ≤ 7 → 3 + bfS₁ u₁ k₁ ≠ n₁) → Q₁ (zIn₁ (-5))) : w_X4_mostRest (nI u₁) (nI n₁) K₁ N₁ I₁ L₁ R₁ Q₁ := by
  delta w_X4_mostRest w_X4_mostRest_5
  refine ⟨fun n1₁ y0₁ y1₁ y2₁ y3₁ => y0₁ = nI u₁ ∧ y1₁ = nI n₁ ∧ ∃ i₁ : Nat, y2₁ = zIn₁ (7 - (i₁ : Int)) ∧ y3₁ = nI i₁ ∧ i₁ ≤ 12 ∧ n1₁ = 12 - i₁ ∧ ∀ k₁ : Int, 7 - (i₁ : Int) < k₁ → k₁ ≤ 7 → 3 + bfS₁ u₁ k₁ ≠ n₁, ⟨12, rfl, rfl, 0, rfl, rfl, by decide, rfl, fun k₁ a₁ b₁ => by omega⟩, ?_⟩
  rintro n1₁ y0₁ y1₁ y2₁ y3₁ ⟨rfl, rfl, i₁, rfl, rfl, hi₁, rfl, hs₁⟩
  rw [show (12 : Int32) = nI 12 from rfl, leN (by omega) (by omega)]
  refine ⟨fun q₁ => ?_, fun q₁ => s_bytesFor hu₁ (by omega) ?_⟩
  · have e₁ : 7 - (i₁ : Int) = -5 := by omega
    rw [e₁] at hs₁ ⊢
    exact h2₁ (fun k₁ a₁ b₁ => hs₁ k₁ (by omega) b₁)
  · have := bfS_lt u₁ (7 - (i₁ : Int))
    rw [show (3 : Int32) = nI 3 from rfl, addN, eqN (by omega) (by omega)]
    refine ⟨fun q3₁ => h1₁ _ (by omega) (by omega) q3₁ hs₁, fun q3₁ v2₁ g2₁ v3₁ g3₁ => ⟨12 - (i₁ + 1), by omega, rfl, rfl, i₁ + 1, ?_, by rw [g3₁, nI_1], by omega, rfl, fun k₁ a₁ b₁ => ?_⟩⟩
    · rw [g2₁, show (-1 : Int32) = zIn₁ (-1) from rfl, zI_add]
      exact congrArg zIn₁ (by omega)
    · by_cases e₁ : k₁ = 7 - (i₁ : Int)
      · rw [e₁]; exact q3₁
      · exact hs₁ k₁ (by omega) b₁
end PK₁
