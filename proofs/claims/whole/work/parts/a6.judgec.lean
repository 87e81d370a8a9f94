/-! ===== a book judged: the class ===== -/
section BC₁
variable {K₁ N₁ : MK} {I₁ : MI} {L₁ : ML} {R₁ : MR} {x₁ : Nat} {U₁ V₁ : Nat → Int32} {W₁ : Nat → Int64} {ls₁ : List (Nat × Nat × Nat)}
theorem BKT_fr {J₁ : MI} (h₁ : BKT₁ I₁ x₁ ls₁) (e1₁ : J₁ (x₁ + 60) = I₁ (x₁ + 60)) (e2₁ : J₁ (x₁ + 62) = I₁ (x₁ + 62)) : BKT₁ J₁ x₁ ls₁ := ⟨h₁.1.fr e1₁, fun i₁ hi₁ => by rw [lnC₁, e2₁]; exact h₁.2 i₁ hi₁⟩
theorem s_judge {Q₁ : Int32 → MI → Prop} (hX₁ : PDL K₁ N₁ R₁ x₁) (hS₁ : BKT₁ I₁ x₁ ls₁) (hl₁ : ∀ l₁, l₁ ∈ ls₁ → lnW₁ l₁) (hV₁ : MACD I₁ (x₁ + 23) V₁) (hD₁ : UD I₁ L₁ (x₁ + 3) U₁ W₁) (hU₁ : WFc U₁) (hr₁ : WFr U₁) (hs₁ : WFs U₁) (hv₁ : WFv₁ U₁ V₁)
    (h₁ : ∀ J₁, MACD J₁ (x₁ + 23) (jgS₁ U₁ ls₁ V₁ 0).1 → J₁ (x₁ + 59) 1 = nI (jgS₁ U₁ ls₁ V₁ 0).2.1 → (∀ b₁, b₁ ≠ x₁ + 59 → b₁ < x₁ + 23 ∨ x₁ + 27 ≤ b₁ → J₁ b₁ = I₁ b₁) → Q₁ (jgS₁ U₁ ls₁ V₁ 0).2.2 J₁) : w_X0_judge (x₁ + 59) (x₁ + 3) (x₁ + 23) K₁ N₁ I₁ L₁ R₁ Q₁ := by
  have l40₁ := hS₁.1.2.2
  delta w_X0_judge w_X0_judge_7
  refine ⟨hX₁.bok, fun I2₁ g2₁ => ?_⟩
  have f2₁ : ∀ b₁, b₁ ≠ x₁ + 59 → I2₁ b₁ = I₁ b₁ := fun b₁ q₁ => by rw [g2₁, mup_ne q₁]
  refine ⟨fun n1₁ y0₁ y1₁ y2₁ y3₁ I1₁ => y0₁ = x₁ + 59 ∧ y1₁ = x₁ + 3 ∧ y2₁ = x₁ + 23 ∧ ∃ (i₁ : Nat) (V1₁ : Nat → Int32), y3₁ = nI i₁ ∧ i₁ ≤ ls₁.length ∧ n1₁ = ls₁.length - i₁ ∧ MACD I1₁ (x₁ + 23) V1₁ ∧ WFv₁ U₁ V1₁ ∧ I1₁ (x₁ + 59) 1 = nI i₁ ∧ (∀ b₁, b₁ ≠ x₁ + 59 → b₁ < x₁ + 23 ∨ x₁ + 27 ≤ b₁ → I1₁ b₁ = I₁ b₁) ∧ jgS₁ U₁ (ls₁.drop i₁) V1₁ i₁ = jgS₁ U₁ ls₁ V₁ 0, ⟨ls₁.length, rfl, rfl, rfl, 0, V₁, rfl, Nat.zero_le _, rfl, MACD_fr hV₁ (fun b₁ q₁ => f2₁ b₁ (by omega)), hv₁, by rw [g2₁, mup_at]; rfl, fun b₁ q₁ _ => f2₁ b₁ q₁, rfl⟩, ?_⟩
  rintro n1₁ y0₁ y1₁ y2₁ y3₁ I1₁ ⟨rfl, rfl, rfl, i₁, V1₁, rfl, hi₁, rfl, hV1₁, hv1₁, e59₁, fr₁, hE₁⟩
  have hS1₁ : BKT₁ I1₁ x₁ ls₁ := BKT_fr hS₁ (fr₁ _ (by omega) (by omega)) (fr₁ _ (by omega) (by omega))
  refine ⟨hX₁.bok, _, hX₁.bok_r, hX₁.bok_t.1, ?_⟩
  rw [hS1₁.1.2.1, leN (by omega) (by omega)]
  refine ⟨fun q₁ => ?_, fun q₁ => ?_⟩
  · rw [List.drop_eq_nil_of_le q₁, jgS₁] at hE₁
    obtain ⟨e1₁, e2₁, e3₁⟩ := pr3₁ hE₁.symm
    rw [e1₁, e2₁, e3₁] at h₁
    exact h₁ I1₁ hV1₁ e59₁ fr₁
  · rw [drop_g (d₁ := ((0, 0, 0) : Nat × Nat × Nat)) (show i₁ < ls₁.length by omega)] at hE₁
    generalize hle₁ : ls₁.getD i₁ (0, 0, 0) = l₁ at hE₁
    have hlw₁ : lnW₁ l₁ := by rw [← hle₁]; exact hl₁ _ (getD_mm (by omega))
    refine s_judgeLine hX₁ hS1₁ (by omega) hle₁ hlw₁ hV1₁ (UD_fr hD₁ (fun b₁ q1₁ q2₁ => fr₁ b₁ (by omega) (by omega))) hU₁ hr₁ hs₁ (fun z₁ => ⟨fun y₁ => absurd y₁ z₁, fun _ => ?_⟩) (fun z₁ J₁ g₁ b₁ => ⟨fun _ I8₁ g8₁ v9₁ g9₁ => ⟨ls₁.length - (i₁ + 1), by omega, rfl, rfl, rfl, i₁ + 1, jgN₁ U₁ V1₁ l₁, by rw [g9₁, nI_1], by omega, rfl, MACD_fr g₁ (fun b'₁ q₁ => by rw [g8₁, mup_ne (by omega)]), (jgN_v hU₁ hr₁ hv1₁ hlw₁ z₁).1, ?_, fun b'₁ q1₁ q2₁ => ?_, ?_⟩, fun y₁ => absurd rfl y₁⟩)
    · rw [jgS₁, if_pos z₁] at hE₁
      obtain ⟨e1₁, e2₁, e3₁⟩ := pr3₁ hE₁.symm
      rw [e1₁, e2₁, e3₁] at h₁
      exact h₁ I1₁ hV1₁ e59₁ fr₁
    · rw [g8₁, mup_at, b₁ _ (by omega), e59₁, nI_1]
    · rw [g8₁, mup_ne q1₁, b₁ b'₁ q2₁, fr₁ b'₁ q1₁ q2₁]
    · rw [jgS₁, if_neg (fun w₁ => w₁ z₁)] at hE₁
      exact hE₁
/-- what is told of a book: the class -/
def TLDC (J₁ : MI) (x₁ : Nat) (U₁ V₁ : Nat → Int32) (i₁ : Nat) (w₁ : Int32) : Prop := TD J₁ (x₁ + 83) 1 4 1 ∧ J₁ (x₁ + 85) 0 = w₁ ∧ J₁ (x₁ + 85) 1 = nI i₁ ∧ J₁ (x₁ + 85) 2 = V₁ 0 ∧ J₁ (x₁ + 85) 3 = thrB U₁ V₁ (V₁ 0) (ix (U₁ 4))
theorem s_tellBook {i₁ : Nat} {w₁ : Int32} {Q₁ : MI → ML → Prop} (hX₁ : PDL K₁ N₁ R₁ x₁) (hw₁ : I₁ (x₁ + 83) 0 = nI 4) (e59₁ : I₁ (x₁ + 59) 1 = nI i₁) (hV₁ : MACD I₁ (x₁ + 23) V₁) (hD₁ : UD I₁ L₁ (x₁ + 3) U₁ W₁) (hW₁ : WFU₁ U₁) (hm₁ : WFm₁ V₁)
    (h₁ : ∀ J₁ M₁, TLDC J₁ x₁ U₁ V₁ i₁ w₁ → (∀ b₁, b₁ ≠ x₁ + 28 → b₁ ≠ x₁ + 29 → b₁ ≠ x₁ + 83 → b₁ ≠ x₁ + 85 → J₁ b₁ = I₁ b₁) → (∀ b₁, b₁ ≠ x₁ + 84 → M₁ b₁ = L₁ b₁) → Q₁ J₁ M₁) : w_X11_tellBook x₁ w₁ K₁ N₁ I₁ L₁ R₁ Q₁ := by
  have tl₁ := hX₁.tol
  delta w_X11_tellBook
  refine ⟨hX₁.k, _, hX₁.r_told, tl₁.1, s_forget tl₁ (s_add (n₁ := 0) tl₁ ⟨?_, ?_, by decide⟩ (by decide) (s_put (n₁ := 1) (k₁ := 0) (c₁ := 0) tl₁ ⟨?_, ?_, by decide⟩ (by decide) (by decide) ⟨_, hX₁.r_book, hX₁.bok, ?_⟩))⟩
  · rw [mup_k (by decide)]; exact hw₁
  · rw [mup_at]; rfl
  · rw [mup_k (by decide), mup_k (by decide)]; exact hw₁
  · rw [mup_at]
  generalize hJ₁ : mup (mup (mup I₁ (x₁ + 83) 3 0) (x₁ + 83) 3 (nI (0 + 1))) (x₁ + 83 + 2) (0 * 4 + 0) w₁ = J₁
  generalize hM₁ : mup L₁ (x₁ + 83 + 1) 0 0 = M₁
  have fJ₁ : ∀ b₁, b₁ ≠ x₁ + 83 → b₁ ≠ x₁ + 85 → J₁ b₁ = I₁ b₁ := fun b₁ q1₁ q2₁ => by rw [← hJ₁, mup_ne (show b₁ ≠ x₁ + 83 + 2 from q2₁), mup_ne q1₁, mup_ne q1₁]
  have tJ₁ : TD J₁ (x₁ + 83) 1 4 1 := ⟨by rw [← hJ₁, mup_ne (by omega), mup_k (by decide), mup_k (by decide)]; exact hw₁, by rw [← hJ₁, mup_ne (by omega), mup_at], by decide⟩
  have jJ₁ : J₁ (x₁ + 85) 0 = w₁ := by rw [← hJ₁]; exact mup_at
  have fM₁ : ∀ b₁, b₁ ≠ x₁ + 84 → M₁ b₁ = L₁ b₁ := fun b₁ q₁ => by rw [← hM₁, mup_ne (show b₁ ≠ x₁ + 83 + 1 from q₁)]
  rw [fJ₁ _ (by omega) (by omega), e59₁]
  refine s_put (n₁ := 1) (k₁ := 0) (c₁ := 1) tl₁ tJ₁ (by decide) (by decide) ⟨_, hX₁.r_trial, hX₁.tri.1, ?_⟩
  generalize hJ2₁ : mup J₁ (x₁ + 83 + 2) (0 * 4 + 1) (nI i₁) = J2₁
  have fJ2₁ : ∀ b₁, b₁ ≠ x₁ + 85 → J2₁ b₁ = J₁ b₁ := fun b₁ q₁ => by rw [← hJ2₁, mup_ne (show b₁ ≠ x₁ + 83 + 2 from q₁)]
  have tJ2₁ : TD J2₁ (x₁ + 83) 1 4 1 := tJ₁.fr (fJ2₁ _ (by omega))
  have j2₁ : J2₁ (x₁ + 85) 0 = w₁ ∧ J2₁ (x₁ + 85) 1 = nI i₁ := by
    rw [← hJ2₁]
    refine ⟨?_, mup_at⟩
    rw [← jJ₁]
    exact mup_k (by decide)
  rw [fJ2₁ _ (by omega), fJ₁ _ (by omega) (by omega), hV₁.1]
  refine s_put (n₁ := 1) (k₁ := 0) (c₁ := 2) tl₁ tJ2₁ (by decide) (by decide) ⟨_, hX₁.r_finder, _, hX₁.r_unit, hX₁.fin, ?_⟩
  generalize hJ3₁ : mup J2₁ (x₁ + 83 + 2) (0 * 4 + 2) (V₁ 0) = J3₁
  have fJ3₁ : ∀ b₁, b₁ ≠ x₁ + 85 → J3₁ b₁ = J2₁ b₁ := fun b₁ q₁ => by rw [← hJ3₁, mup_ne (show b₁ ≠ x₁ + 83 + 2 from q₁)]
  have tJ3₁ : TD J3₁ (x₁ + 83) 1 4 1 := tJ2₁.fr (fJ3₁ _ (by omega))
  have j3₁ : J3₁ (x₁ + 85) 0 = w₁ ∧ J3₁ (x₁ + 85) 1 = nI i₁ ∧ J3₁ (x₁ + 85) 2 = V₁ 0 := by
    rw [← hJ3₁]
    refine ⟨?_, ?_, mup_at⟩
    · rw [← j2₁.1]; exact mup_k (by decide)
    · rw [← j2₁.2]; exact mup_k (by decide)
  have b3₁ : ∀ b₁, b₁ ≠ x₁ + 83 → b₁ ≠ x₁ + 85 → J3₁ b₁ = I₁ b₁ := fun b₁ q1₁ q2₁ => by rw [fJ3₁ b₁ q2₁, fJ2₁ b₁ q2₁, fJ₁ b₁ q1₁ q2₁]
  refine s_varsThere hX₁.fil hX₁.tri (MACD_fr hV₁ (fun b₁ q₁ => b3₁ b₁ (by omega) (by omega))) hm₁ (by omega) hX₁.un (by omega) ((UD_fr hD₁ (fun b₁ q1₁ q2₁ => b3₁ b₁ (by omega) (by omega))).fr (fun _ _ _ => rfl) (fun b₁ q1₁ q2₁ => fM₁ b₁ (by omega))) hW₁.1 hW₁.2.2.2.2.2.2.1 hW₁.2.2.2.2.1 hW₁.2.2.2.1 hW₁.2.2.2.2.2.2.2 (fun J4₁ f4₁ => ?_)
  have tJ4₁ : TD J4₁ (x₁ + 83) 1 4 1 := tJ3₁.fr (f4₁ _ (by omega) (by omega))
  refine s_put (n₁ := 1) (k₁ := 0) (c₁ := 3) tl₁ tJ4₁ (by decide) (by decide) ?_
  refine h₁ _ M₁ ⟨?_, ?_, ?_, ?_, mup_at⟩ (fun b₁ q1₁ q2₁ q3₁ q4₁ => ?_) fM₁
  · exact tJ4₁.fr (mup_ne (by omega))
  · rw [← j3₁.1, ← f4₁ (x₁ + 85) (by omega) (by omega)]; exact mup_k (by decide)
  · rw [← j3₁.2.1, ← f4₁ (x₁ + 85) (by omega) (by omega)]; exact mup_k (by decide)
  · rw [← j3₁.2.2, ← f4₁ (x₁ + 85) (by omega) (by omega)]; exact mup_k (by decide)
  · rw [mup_ne (show b₁ ≠ x₁ + 83 + 2 from q4₁), f4₁ b₁ q1₁ q2₁, b3₁ b₁ q3₁ q4₁]
end BC₁
