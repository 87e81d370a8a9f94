/-! ===== the class reads a token: advance, begin ===== -/
section UN₁
variable {K₁ N₁ : MK} {I₁ : MI} {L₁ : ML} {R₁ : MR} {t₁ n₁ lm₁ p₁ : Nat} {B₁ : Nat → Nat}
theorem s_advance {Q₁ : MI → ML → Prop} (hT₁ : TOC₁ K₁ N₁ R₁ t₁) (hb₁ : ∀ i₁, B₁ i₁ < 256) (h940 : n₁ ≤ 940) (hB₁ : TAP₁ I₁ (t₁ + 1) B₁ n₁) (hn₁ : I₁ t₁ 1 = nI n₁) (hl₁ : I₁ t₁ 2 = nI lm₁) (hlm₁ : lm₁ < 1000) (h3₁ : I₁ t₁ 3 = nI p₁) (hp₁ : p₁ ≤ n₁)
    (h₁ : ∀ J₁ M₁, TKC₁ J₁ M₁ t₁ B₁ n₁ lm₁ p₁ → frK₁ t₁ J₁ I₁ M₁ L₁ → Q₁ J₁ M₁) : w_X8_advance t₁ K₁ N₁ I₁ L₁ R₁ Q₁ := by
  delta w_X8_advance w_X8_advance_2
  refine ⟨fun n1₁ y0₁ y1₁ I1₁ L1₁ => y0₁ = t₁ ∧ L1₁ = L₁ ∧ ∃ i₁, p₁ + i₁ ≤ n₁ ∧ n1₁ = 1000 - i₁ ∧ y1₁ = nI i₁ ∧ skpS isBl B₁ n₁ (p₁ + i₁) = skpS isBl B₁ n₁ p₁ ∧ I1₁ t₁ 3 = nI (p₁ + i₁) ∧ (∀ b₁, b₁ ≠ t₁ → I1₁ b₁ = I₁ b₁) ∧ (∀ y₁, y₁ ≠ 3 → I1₁ t₁ y₁ = I₁ t₁ y₁), ⟨1000, rfl, rfl, 0, by omega, rfl, rfl, rfl, h3₁, fun _ _ => rfl, fun _ _ => rfl⟩, ?_⟩
  rintro n1₁ y0₁ y1₁ I1₁ L1₁ ⟨rfl, rfl, i₁, hi₁, rfl, rfl, hs₁, p3₁, f1₁, f2₁⟩
  have hT1₁ : TAP₁ I1₁ (y0₁ + 1) B₁ n₁ := fun j₁ hj₁ => by rw [f1₁ _ (by omega)]; exact hB₁ j₁ hj₁
  have hn1₁ : I1₁ y0₁ 1 = nI n₁ := by rw [f2₁ 1 (by decide)]; exact hn₁
  have hl1₁ : I1₁ y0₁ 2 = nI lm₁ := by rw [f2₁ 2 (by decide)]; exact hl₁
  have fin₁ : skpS isBl B₁ n₁ p₁ = p₁ + i₁ → w_X8_advance_39 y0₁ K₁ N₁ I1₁ L1₁ R₁ Q₁ := by
    intro e₁
    delta w_X8_advance_39
    have hge₁ := skp_ge (P₁ := isRn) (B₁ := B₁) (n₁ := n₁) (p₁ := p₁ + i₁)
    refine ⟨hT₁.1, fun I2₁ g2₁ => ?_⟩
    have k2₁ : ∀ y₁, y₁ ≠ 5 → I2₁ y0₁ y₁ = I1₁ y0₁ y₁ := fun y₁ hy₁ => by rw [g2₁, mup_k hy₁]
    have b2₁ : ∀ b₁, b₁ ≠ y0₁ → I2₁ b₁ = I1₁ b₁ := fun b₁ hb₁ => by rw [g2₁, mup_ne hb₁]
    have a5₁ : I2₁ y0₁ 5 = nI (p₁ + i₁) := by rw [g2₁, mup_at, p3₁]
    rw [k2₁ 1 (by decide), k2₁ 2 (by decide), k2₁ 3 (by decide), hn1₁, hl1₁, p3₁, leN (by omega) (by omega), ltN (by omega) (by omega)]
    have hT2₁ : TAP₁ I2₁ (y0₁ + 1) B₁ n₁ := fun j₁ hj₁ => by rw [b2₁ _ (by omega)]; exact hT1₁ j₁ hj₁
    have hn2₁ : I2₁ y0₁ 1 = nI n₁ := by rw [k2₁ 1 (by decide)]; exact hn1₁
    have p32₁ : I2₁ y0₁ 3 = nI (p₁ + i₁) := by rw [k2₁ 3 (by decide)]; exact p3₁
    have rest : ¬ (lm₁ < n₁ ∧ lm₁ ≤ p₁ + i₁) → w_X8_advance_85 y0₁ K₁ N₁ I2₁ L1₁ R₁ Q₁ := by
      intro nb₁
      have eS₁ : tkS₁ B₁ n₁ lm₁ p₁ = p₁ + i₁ := by rw [tkS₁, e₁, if_neg nb₁]
      delta w_X8_advance_85
      rw [p32₁, hn2₁, ltN (by omega) (by omega)]
      refine ⟨hT₁.1, fun z₁ => s_byteOf hT₁ hn2₁ h940 hT2₁ (by omega) (fun _ => s_goesOn (hb₁ _) ⟨fun y₁ => s_byteOf hT₁ hn2₁ h940 hT2₁ (by omega) (fun _ => ?_) (fun w₁ => absurd z₁ w₁), fun y₁ => ?_⟩) (fun w₁ => absurd z₁ w₁), fun z₁ I15₁ g15₁ => ?_⟩
      · intro I7₁ g7₁
        have a9₁ : I7₁ y0₁ 9 = nI (B₁ (p₁ + i₁)) := by rw [g7₁, mup_at]
        have eN₁ : tkN₁ B₁ n₁ lm₁ p₁ = p₁ + i₁ + 1 := by rw [tkN₁, e₁, if_neg nb₁, if_neg (by omega), if_neg (by rw [y₁]; decide)]
        have eG₁ : tkG₁ B₁ n₁ p₁ = B₁ (p₁ + i₁) := by rw [tkG₁, e₁]
        have done : ∀ (k₁ : Nat) (J₁ J2₁ : MI), tkK₁ B₁ n₁ lm₁ p₁ = k₁ → (k₁ = 3 ∨ k₁ = 4) → J₁ = mup I7₁ y0₁ 4 (nI k₁) → J2₁ = mup J₁ y0₁ 3 ((J₁ y0₁ 3) + 1) → Q₁ J2₁ L1₁ := fun k₁ J₁ J2₁ ek₁ hk₁ gJ₁ gJ2₁ => by
          have j3₁ : J₁ y0₁ 3 = nI (p₁ + i₁) := by rw [gJ₁, mup_k (by decide), g7₁, mup_k (by decide)]; exact p32₁
          have other : ∀ y₁, y₁ ≠ 3 → y₁ ≠ 4 → y₁ ≠ 9 → J2₁ y0₁ y₁ = I2₁ y0₁ y₁ := fun y₁ q1₁ q2₁ q3₁ => by rw [gJ2₁, mup_k q1₁, gJ₁, mup_k q2₁, g7₁, mup_k q3₁]
          refine h₁ J2₁ L1₁ ⟨?_, ?_, ?_, ?_, ?_, fun w₁ => ?_, fun w₁ => ?_, fun _ => ?_⟩ ⟨fun b₁ q₁ => by rw [gJ2₁, mup_ne q₁, gJ₁, mup_ne q₁, g7₁, mup_ne q₁, b2₁ b₁ q₁, f1₁ b₁ q₁], fun y₁ q1₁ q2₁ q3₁ _ _ q6₁ => by rw [other y₁ q1₁ q2₁ q6₁, k2₁ y₁ q3₁, f2₁ y₁ q1₁], fun _ _ => rfl⟩
          · rw [other 1 (by decide) (by decide) (by decide)]; exact hn2₁
          · rw [other 2 (by decide) (by decide) (by decide), k2₁ 2 (by decide)]; exact hl1₁
          · rw [gJ2₁, mup_at, j3₁, nI_1, eN₁]
          · rw [gJ2₁, mup_k (by decide), gJ₁, mup_at, ek₁]
          · rw [other 5 (by decide) (by decide) (by decide), a5₁, eS₁]
          · omega
          · omega
          · rw [gJ2₁, mup_k (by decide), gJ₁, mup_k (by decide), a9₁, eG₁]
        rw [a9₁]
        refine s_isSignByte (hb₁ _) ⟨fun w₁ I9₁ g9₁ I10₁ g10₁ => done 4 I9₁ I10₁ ?_ (Or.inr rfl) g9₁ g10₁, fun w₁ I11₁ g11₁ I12₁ g12₁ => done 3 I11₁ I12₁ ?_ (Or.inl rfl) g11₁ g12₁⟩
        · rw [tkK₁, e₁, if_neg nb₁, if_neg (by omega), if_neg (by rw [y₁]; decide), if_neg (by rw [w₁]; decide)]
        · rw [tkK₁, e₁, if_neg nb₁, if_neg (by omega), if_neg (by rw [y₁]; decide), if_pos w₁]
      · have hlt₁ : p₁ + i₁ < skpS isRn B₁ n₁ (p₁ + i₁) := by
          have g₁ := skp_go (P₁ := isRn) z₁ y₁
          have := skp_ge (P₁ := isRn) (B₁ := B₁) (n₁ := n₁) (p₁ := p₁ + i₁ + 1)
          omega
        have eE₁ : tkE₁ B₁ n₁ p₁ = skpS isRn B₁ n₁ (p₁ + i₁) := by rw [tkE₁, e₁]
        refine s_readRun hT₁ hb₁ h940 hT2₁ hn2₁ p32₁ hi₁ (fun J₁ M₁ j3₁ j4₁ jw₁ jd₁ j5₁ jf₁ => ?_) hlt₁
        have eK₁ : tkK₁ B₁ n₁ lm₁ p₁ = runK B₁ (p₁ + i₁) (skpS isRn B₁ n₁ (p₁ + i₁) - (p₁ + i₁)) := by rw [tkK₁, e₁, if_neg nb₁, if_neg (by omega), if_pos y₁, eE₁]
        have eN₁ : tkN₁ B₁ n₁ lm₁ p₁ = skpS isRn B₁ n₁ (p₁ + i₁) := by rw [tkN₁, e₁, if_neg nb₁, if_neg (by omega), if_pos y₁, eE₁]
        have eW₁ : tkW₁ B₁ n₁ p₁ = letsL B₁ (p₁ + i₁) (skpS isRn B₁ n₁ (p₁ + i₁) - (p₁ + i₁)) := by rw [tkW₁, e₁, eE₁]
        have eV₁ : tkV₁ B₁ n₁ p₁ = numV B₁ (p₁ + i₁) (skpS isRn B₁ n₁ (p₁ + i₁) - (p₁ + i₁)) := by rw [tkV₁, e₁, eE₁]
        refine h₁ J₁ M₁ ⟨?_, ?_, ?_, ?_, ?_, fun w₁ => ?_, fun w₁ => ?_, fun w₁ => ?_⟩ ⟨fun b₁ q₁ => by rw [jf₁.1 b₁ q₁, b2₁ b₁ q₁, f1₁ b₁ q₁], fun y₁ q1₁ q2₁ q3₁ q4₁ q5₁ q6₁ => by rw [jf₁.2.1 y₁ q1₁ q2₁ q3₁ q4₁ q5₁ q6₁, k2₁ y₁ q3₁, f2₁ y₁ q1₁], jf₁.2.2⟩
        · rw [jf₁.2.1 1 (by decide) (by decide) (by decide) (by decide) (by decide) (by decide)]; exact hn2₁
        · rw [jf₁.2.1 2 (by decide) (by decide) (by decide) (by decide) (by decide) (by decide), k2₁ 2 (by decide)]; exact hl1₁
        · rw [j3₁, eN₁]
        · rw [j4₁, eK₁]
        · rw [j5₁, a5₁, eS₁]
        · rw [eW₁]
          refine jw₁ (by rw [← eK₁]; exact w₁) (fun q₁ => ?_)
          have := congrArg List.length q₁
          rw [lets_len, List.length_nil] at this
          omega
        · rw [eV₁]; exact jd₁ (by rw [← eK₁]; exact w₁)
        · rw [eK₁, runK] at w₁
          split at w₁
          · omega
          · split at w₁ <;> omega
      · have eN₁ : tkN₁ B₁ n₁ lm₁ p₁ = p₁ + i₁ := by rw [tkN₁, e₁, if_neg nb₁, if_pos (by omega)]
        have eK₁ : tkK₁ B₁ n₁ lm₁ p₁ = 0 := by rw [tkK₁, e₁, if_neg nb₁, if_pos (by omega)]
        refine h₁ I15₁ L1₁ ⟨?_, ?_, ?_, ?_, ?_, fun w₁ => by omega, fun w₁ => by omega, fun w₁ => by omega⟩ ⟨fun b₁ q₁ => by rw [g15₁, mup_ne q₁, b2₁ b₁ q₁, f1₁ b₁ q₁], fun y₁ q1₁ q2₁ q3₁ _ _ _ => by rw [g15₁, mup_k q2₁, k2₁ y₁ q3₁, f2₁ y₁ q1₁], fun _ _ => rfl⟩
        · rw [g15₁, mup_k (by decide)]; exact hn2₁
        · rw [g15₁, mup_k (by decide), k2₁ 2 (by decide)]; exact hl1₁
        · rw [g15₁, mup_k (by decide), p32₁, eN₁]
        · rw [g15₁, mup_at, eK₁]; rfl
        · rw [g15₁, mup_k (by decide), a5₁, eS₁]
    refine ⟨fun z₁ => rest (by omega), fun z₁ => ⟨fun y₁ => rest (by omega), fun y₁ I16₁ g16₁ I17₁ g17₁ => ?_⟩⟩
    have nb₁ : lm₁ < n₁ ∧ lm₁ ≤ p₁ + i₁ := by omega
    refine h₁ I17₁ L1₁ ⟨?_, ?_, ?_, ?_, ?_, fun w₁ => ?_, fun w₁ => ?_, fun w₁ => ?_⟩ ⟨fun b₁ q₁ => by rw [g17₁, mup_ne q₁, g16₁, mup_ne q₁, b2₁ b₁ q₁, f1₁ b₁ q₁], fun y₁ q1₁ q2₁ q3₁ _ _ _ => by rw [g17₁, mup_k q2₁, g16₁, mup_k q3₁, k2₁ y₁ q3₁, f2₁ y₁ q1₁], fun _ _ => rfl⟩
    · rw [g17₁, mup_k (by decide), g16₁, mup_k (by decide)]; exact hn2₁
    · rw [g17₁, mup_k (by decide), g16₁, mup_k (by decide), k2₁ 2 (by decide)]; exact hl1₁
    · rw [g17₁, mup_k (by decide), g16₁, mup_k (by decide), p32₁, tkN₁, e₁, if_pos nb₁]
    · rw [g17₁, mup_at, tkK₁, e₁, if_pos nb₁]; rfl
    · rw [g17₁, mup_k (by decide), g16₁, mup_at, tkS₁, e₁, if_pos nb₁]
    · rw [tkK₁, e₁, if_pos nb₁] at w₁; omega
    · rw [tkK₁, e₁, if_pos nb₁] at w₁; omega
    · rw [tkK₁, e₁, if_pos nb₁] at w₁; omega
  rw [show (940 : Int32) = nI 940 from rfl, leN (by omega) (by omega)]
  refine ⟨fun z₁ => fin₁ (by rw [← hs₁, skp_no (by omega)]), fun z₁ => ⟨hT₁.1, ?_⟩⟩
  rw [p3₁]
  refine s_byteOf hT₁ hn1₁ h940 hT1₁ (by omega) (fun hq₁ => s_isBlank (hb₁ _) ⟨fun y₁ => fin₁ (by rw [← hs₁, skp_no (fun w₁ => by rw [w₁.2] at y₁; exact absurd y₁ (by decide))]), fun y₁ I21₁ g21₁ v22₁ g22₁ => ⟨1000 - (i₁ + 1), by omega, rfl, rfl, i₁ + 1, by omega, rfl, by rw [g22₁, nI_1], ?_, ?_, fun b₁ q₁ => by rw [g21₁, mup_ne q₁, f1₁ b₁ q₁], fun y₁ q₁ => by rw [g21₁, mup_k q₁, f2₁ y₁ q₁]⟩⟩) (fun hq₁ => ⟨fun y₁ => absurd y₁ (by decide), fun _ => ⟨fun _ => ⟨fun _ => fin₁ (by rw [← hs₁, skp_no (fun w₁ => hq₁ w₁.1)]), fun y₁ => absurd y₁ (by decide)⟩, fun y₁ => absurd y₁ (by decide)⟩⟩)
  · rw [← hs₁, skp_go hq₁ y₁, Nat.add_assoc]
  · rw [g21₁, mup_at, nI_1]; rfl
theorem s_begin {Q₁ : MI → ML → Prop} (hT₁ : TOC₁ K₁ N₁ R₁ t₁) (hb₁ : ∀ i₁, B₁ i₁ < 256) (h940 : n₁ ≤ 940) (hB₁ : TAP₁ I₁ (t₁ + 1) B₁ n₁) (hn₁ : I₁ t₁ 1 = nI n₁) (hlm₁ : lm₁ < 1000)
    (h₁ : ∀ J₁ M₁, TKC₁ J₁ M₁ t₁ B₁ n₁ lm₁ 0 → J₁ t₁ 10 = 0 → J₁ t₁ 11 = I₁ t₁ 11 → (∀ b₁, b₁ ≠ t₁ → J₁ b₁ = I₁ b₁) → (∀ b₁, b₁ ≠ t₁ → M₁ b₁ = L₁ b₁) → Q₁ J₁ M₁) : w_X8_begin t₁ (nI lm₁) K₁ N₁ I₁ L₁ R₁ Q₁ := by
  delta w_X8_begin
  refine ⟨hT₁.1, fun I2₁ g2₁ I3₁ g3₁ I4₁ g4₁ => ?_⟩
  have b4₁ : ∀ b₁, b₁ ≠ t₁ → I4₁ b₁ = I₁ b₁ := fun b₁ q₁ => by rw [g4₁, mup_ne q₁, g3₁, mup_ne q₁, g2₁, mup_ne q₁]
  refine s_advance hT₁ hb₁ h940 (fun j₁ hj₁ => by rw [b4₁ _ (by omega)]; exact hB₁ j₁ hj₁) ?_ ?_ hlm₁ ?_ (Nat.zero_le n₁) (fun J₁ M₁ g5₁ g6₁ => h₁ J₁ M₁ g5₁ ?_ ?_ (fun b₁ q₁ => by rw [g6₁.1 b₁ q₁, b4₁ b₁ q₁]) g6₁.2.2)
  · rw [g4₁, mup_k (by decide), g3₁, mup_k (by decide), g2₁, mup_k (by decide)]; exact hn₁
  · rw [g4₁, mup_k (by decide), g3₁, mup_k (by decide), g2₁, mup_at]
  · rw [g4₁, mup_at]; rfl
  · rw [g6₁.2.1 10 (by decide) (by decide) (by decide) (by decide) (by decide) (by decide), g4₁, mup_k (by decide), g3₁, mup_at]
  · rw [g6₁.2.1 11 (by decide) (by decide) (by decide) (by decide) (by decide) (by decide), g4₁, mup_k (by decide), g3₁, mup_k (by decide), g2₁, mup_k (by decide)]
end UN₁
