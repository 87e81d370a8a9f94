/-! ===== the class remembers its machine itself ===== -/
section UN₁
variable {K₁ N₁ : MK} {I₁ : MI} {L₁ : ML} {R₁ : MR} {c₁ s₁ x₁ : Nat} {V₁ : Nat → Int32}
theorem s_remMac {n₁ : Nat} {p₁ : Nat → Nat} {S₁ : Nat → Int32} {Q₁ : MI → ML → MR → Prop} (hX₁ : PDL K₁ N₁ R₁ x₁) (hH₁ : HIS₁ R₁ x₁ p₁) (hm₁ : HM₁ K₁ N₁ R₁ x₁) (hD₁ : HD₁ I₁ x₁ p₁ n₁ S₁) (hV₁ : MACD I₁ (x₁ + 19) V₁) (e₁ : I₁ x₁ 5 = nI n₁) (hn₁ : n₁ ≤ 8)
    (h₁ : ∀ J₁ R'₁ p'₁, (∀ b₁, b₁ ≠ x₁ + 27 → R'₁ b₁ = R₁ b₁) → HIS₁ R'₁ x₁ p'₁ → J₁ x₁ 5 = nI (shN₁ n₁) → (∀ S'₁, SH₁ n₁ S₁ V₁ S'₁ → HD₁ J₁ x₁ p'₁ (shN₁ n₁) S'₁) → (∀ y₁, y₁ ≠ 5 → J₁ x₁ y₁ = I₁ x₁ y₁) → (∀ b₁, b₁ ≠ x₁ → b₁ < x₁ + 86 ∨ x₁ + 118 ≤ b₁ → J₁ b₁ = I₁ b₁) → Q₁ J₁ L₁ R'₁) : w_X11_remember x₁ (x₁ + 19) K₁ N₁ I₁ L₁ R₁ Q₁ := by
  delta w_X11_remember
  refine ⟨hX₁.k, _, hX₁.r_history, hX₁.his_k, ?_⟩
  rw [e₁, hX₁.his_n]
  refine ⟨fun f₁ => ?_, fun f₁ => ?_⟩
  · rw [ltN (by omega) (by omega)] at f₁
    obtain ⟨pn₁, rn₁⟩ := hH₁.1 n₁ f₁
    rw [ix_nI (by omega)]
    refine ⟨(vp_nI (by omega)).mpr f₁, _, rn₁, (hm₁ _ pn₁).1, s_copyFrom (hm₁ _ pn₁) hX₁.mac hV₁ (by omega) (fun J₁ gJ₁ gb₁ I8₁ g8₁ => h₁ I8₁ R₁ p₁ (fun b₁ _ => rfl) hH₁ ?_ (fun S'₁ hS₁ => ?_) (fun y₁ hy₁ => ?_) (fun b₁ q1₁ q2₁ => ?_))⟩
    · rw [g8₁, mup_at, gb₁ x₁ (by omega) (by omega) (by omega) (by omega), e₁, nI_1, shN₁, if_pos f₁]
    · rw [shN₁, if_pos f₁]
      intro k₁ hk₁
      have w8₁ : ∀ b₁, b₁ ≠ x₁ → I8₁ b₁ = J₁ b₁ := fun b₁ hb₁ => by rw [g8₁, mup_ne hb₁]
      by_cases q₁ : k₁ = n₁
      · subst q₁
        refine MACD_cg (MACD_fr gJ₁ (fun b₁ hb₁ => w8₁ b₁ (by omega))) (fun j₁ hj₁ => (hS₁.1 f₁).2 j₁ hj₁)
      · have pk₁ := (hH₁.1 k₁ (by omega)).1
        have ne₁ : p₁ k₁ ≠ p₁ n₁ := fun z₁ => q₁ (hH₁.2 k₁ n₁ (by omega) f₁ z₁)
        refine MACD_cg (MACD_fr (hD₁ k₁ (by omega)) (fun b₁ hb₁ => ?_)) (fun j₁ hj₁ => (hS₁.1 f₁).1 _ (by omega))
        rw [w8₁ b₁ (by omega), gb₁ b₁ (by omega) (by omega) (by omega) (by omega)]
    · rw [g8₁, mup_k hy₁, gb₁ x₁ (by omega) (by omega) (by omega) (by omega)]
    · rw [g8₁, mup_ne q1₁, gb₁ b₁ (by omega) (by omega) (by omega) (by omega)]
  · rw [ltN (by omega) (by omega)] at f₁
    have n8₁ : n₁ = 8 := by omega
    subst n8₁
    obtain ⟨p0₁, r0₁⟩ := hH₁.1 0 (by decide)
    refine ⟨vp_c (by decide) (by decide), _, r0₁, ?_⟩
    delta w_X11_remember_21
    refine ⟨fun n1₁ y0₁ y1₁ y2₁ y3₁ I1₁ L1₁ R1₁ => y0₁ = x₁ ∧ y1₁ = x₁ + 19 ∧ y2₁ = x₁ + 86 + 4 * p₁ 0 ∧ I1₁ = I₁ ∧ L1₁ = L₁ ∧ ∃ i₁, 1 ≤ i₁ ∧ i₁ ≤ 8 ∧ n1₁ = 8 - i₁ ∧ y3₁ = nI i₁ ∧ (∀ k₁, k₁ + 1 < i₁ → R1₁ (x₁ + 27) k₁ = some (x₁ + 86 + 4 * p₁ (k₁ + 1))) ∧ (∀ k₁, k₁ < 8 → i₁ ≤ k₁ + 1 → R1₁ (x₁ + 27) k₁ = some (x₁ + 86 + 4 * p₁ k₁)) ∧ (∀ b₁, b₁ ≠ x₁ + 27 → R1₁ b₁ = R₁ b₁), ⟨7, rfl, rfl, rfl, rfl, rfl, 1, by omega, by omega, rfl, rfl, fun k₁ hk₁ => absurd hk₁ (by omega), fun k₁ hk₁ _ => (hH₁.1 k₁ hk₁).2, fun b₁ _ => rfl⟩, ?_⟩
    rintro n1₁ y0₁ y1₁ y2₁ y3₁ I1₁ L1₁ R1₁ ⟨rfl, rfl, rfl, rfl, rfl, i₁, h1₁, h8₁, rfl, rfl, q1₁, q2₁, q3₁⟩
    refine ⟨hX₁.k, y0₁ + 27, by rw [q3₁ y0₁ (by omega)]; exact hX₁.r_history, hX₁.his_k, ?_⟩
    rw [hX₁.his_n, show nI 8 - 1 = nI 7 from rfl]
    refine ⟨fun g₁ => ?_, fun g₁ => ?_⟩
    · rw [leN (by omega) (by omega)] at g₁
      have i8₁ : i₁ = 8 := by omega
      subst i8₁
      refine ⟨(vp_nI (by omega)).mpr (by omega), (hm₁ _ p0₁).1, fun R16₁ g16₁ I17₁ g17₁ => ⟨y0₁ + 27, by rw [g16₁, mup_ne (by omega), q3₁ y0₁ (by omega)]; exact hX₁.r_history, hX₁.his_k, ?_⟩⟩
      have e17₁ : I17₁ y0₁ 5 = nI 7 := by rw [g17₁, mup_at, e₁]; rfl
      have f17₁ : ∀ b₁, b₁ ≠ y0₁ → I17₁ b₁ = I1₁ b₁ := fun b₁ hb₁ => by rw [g17₁, mup_ne hb₁]
      rw [ix_nI (by omega)] at g16₁
      have f16₁ : ∀ b₁, b₁ ≠ y0₁ + 27 → R16₁ b₁ = R₁ b₁ := fun b₁ hb₁ => by rw [g16₁, mup_ne hb₁, q3₁ b₁ hb₁]
      rw [e17₁, hX₁.his_n, ix_nI (by omega)]
      refine ⟨(vp_nI (by omega)).mpr (by omega), y0₁ + 86 + 4 * p₁ 0, by rw [g16₁, mup_at], (hm₁ _ p0₁).1, s_copyFrom (MAL_R (hm₁ _ p0₁) (f16₁ _ (by omega))) (MAL_R hX₁.mac (f16₁ _ (by omega))) (MACD_fr hV₁ (fun b₁ hb₁ => f17₁ b₁ (by omega))) (by omega) (fun J₁ gJ₁ gb₁ I24₁ g24₁ => h₁ I24₁ R16₁ (fun k₁ => p₁ (if k₁ = 7 then 0 else k₁ + 1)) f16₁ ⟨fun k₁ hk₁ => ?_, fun a₁ b₁ ha₁ hb₁ z₁ => ?_⟩ ?_ (fun S'₁ hS₁ => ?_) (fun y₁ hy₁ => ?_) (fun b₁ u1₁ u2₁ => ?_))⟩
      · by_cases z₁ : k₁ = 7
        · rw [z₁]; exact ⟨p0₁, by rw [g16₁, mup_at]; rfl⟩
        · show p₁ (if k₁ = 7 then 0 else k₁ + 1) < 8 ∧ R16₁ (y0₁ + 27) k₁ = some (y0₁ + 86 + 4 * p₁ (if k₁ = 7 then 0 else k₁ + 1))
          rw [if_neg z₁]; exact ⟨(hH₁.1 (k₁ + 1) (by omega)).1, by rw [g16₁, mup_k z₁]; exact q1₁ k₁ (by omega)⟩
      · have := hH₁.2 _ _ (by split <;> omega) (by split <;> omega) z₁
        split at this <;> split at this <;> omega
      · rw [g24₁, mup_at, gb₁ y0₁ (by omega) (by omega) (by omega) (by omega), e17₁, nI_1, shN₁, if_neg (by omega)]
      · rw [shN₁, if_neg (by omega)]
        intro k₁ hk₁
        have w24₁ : ∀ b₁, b₁ ≠ y0₁ → I24₁ b₁ = J₁ b₁ := fun b₁ hb₁ => by rw [g24₁, mup_ne hb₁]
        by_cases z₁ : k₁ = 7
        · subst z₁
          show MACD I24₁ (y0₁ + 86 + 4 * p₁ (if 7 = 7 then 0 else 7 + 1)) _
          rw [if_pos rfl]
          exact MACD_cg (MACD_fr gJ₁ (fun b₁ hb₁ => w24₁ b₁ (by omega))) (fun j₁ hj₁ => (hS₁.2 rfl).2 j₁ hj₁)
        · show MACD I24₁ (y0₁ + 86 + 4 * p₁ (if k₁ = 7 then 0 else k₁ + 1)) _
          rw [if_neg z₁]
          have pk₁ := (hH₁.1 (k₁ + 1) (by omega)).1
          have ne₁ : p₁ (k₁ + 1) ≠ p₁ 0 := fun w₁ => absurd (hH₁.2 _ _ (by omega) (by omega) w₁) (by omega)
          refine MACD_cg (MACD_fr (hD₁ (k₁ + 1) (by omega)) (fun b₁ hb₁ => ?_)) (fun j₁ hj₁ => ?_)
          · rw [w24₁ b₁ (by omega), gb₁ b₁ (by omega) (by omega) (by omega) (by omega), f17₁ b₁ (by omega)]
          · show S'₁ (83 * k₁ + j₁) = S₁ (83 * (k₁ + 1) + j₁)
            rw [(hS₁.2 rfl).1 _ (by omega), show 83 * k₁ + j₁ + 83 = 83 * (k₁ + 1) + j₁ by omega]
      · rw [g24₁, mup_k hy₁, gb₁ y0₁ (by omega) (by omega) (by omega) (by omega), g17₁, mup_k hy₁]
      · rw [g24₁, mup_ne u1₁, gb₁ b₁ (by omega) (by omega) (by omega) (by omega), f17₁ b₁ u1₁]
    · rw [leN (by omega) (by omega)] at g₁
      obtain ⟨o₁, rfl⟩ : ∃ o₁, i₁ = o₁ + 1 := ⟨i₁ - 1, by omega⟩
      rw [nI_pred, ix_nI (by omega), ix_nI (by omega)]
      refine ⟨(vp_nI (by omega)).mpr (by omega), _, q2₁ (o₁ + 1) (by omega) (by omega), (vp_nI (by omega)).mpr (by omega), (hm₁ _ (hH₁.1 _ (by omega)).1).1, fun R29₁ g29₁ v30₁ gv₁ => ⟨8 - (o₁ + 2), by omega, rfl, rfl, rfl, rfl, rfl, o₁ + 2, by omega, by omega, rfl, by rw [gv₁, nI_1], fun k₁ hk₁ => ?_, fun k₁ hk₁ hk2₁ => ?_, fun b₁ hb₁ => ?_⟩⟩
      · rw [g29₁]
        by_cases z₁ : k₁ = o₁
        · rw [z₁, mup_at]
        · rw [mup_k z₁]; exact q1₁ k₁ (by omega)
      · rw [g29₁, mup_k (by omega)]; exact q2₁ k₁ hk₁ (by omega)
      · rw [g29₁, mup_ne hb₁]; exact q3₁ b₁ hb₁
end UN₁
