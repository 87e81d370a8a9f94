/-! ===== 'type', 'var' lines: the class ===== -/
section UN₁
variable {K₁ N₁ : MK} {I₁ : MI} {L₁ : ML} {R₁ : MR} {n₁ lm₁ p₁ x₁ u₁ : Nat} {B₁ : Nat → Nat} {U₁ : Nat → Int32} {NM₁ : Nat → List Nat}
theorem s_readType {Q₁ : Bool → MI → ML → Prop} (hX₁ : PDL K₁ N₁ R₁ x₁) (hS₁ : DSC₁ K₁ N₁ R₁ I₁ L₁ x₁ B₁ n₁ lm₁ U₁ NM₁ p₁)
    (hbad : ∀ k₁ pl₁, pType B₁ n₁ lm₁ U₁ NM₁ p₁ = .inl (k₁, pl₁) → ∀ J₁ M₁, flD₁ x₁ k₁ pl₁ J₁ → frD₁ x₁ J₁ I₁ M₁ L₁ → Q₁ false J₁ M₁)
    (hok₁ : ∀ U'₁ NM'₁ p'₁, pType B₁ n₁ lm₁ U₁ NM₁ p₁ = .inr (U'₁, NM'₁, p'₁) → ∀ J₁ M₁, DSC₁ K₁ N₁ R₁ J₁ M₁ x₁ B₁ n₁ lm₁ U'₁ NM'₁ p'₁ → frD₁ x₁ J₁ I₁ M₁ L₁ → J₁ (x₁ + 1) 10 = I₁ (x₁ + 1) 10 → Q₁ true J₁ M₁) : w_X10_readType (x₁ + 36) (x₁ + 1) K₁ N₁ I₁ L₁ R₁ Q₁ := by
  obtain ⟨hT₁, hD₁, hW₁, hN₁⟩ := hS₁
  have hU₁ := hW₁.1
  have n3₁ := hU₁.2.2.1.2
  have hu₁ := hX₁.urd_u
  have tt3₁ := hu₁.2.2.2.2.2.2.2.2.1
  have d3₁ := hD₁.2.2.2.1
  delta w_X10_readType
  refine ⟨hX₁.urd, _, hX₁.urd_r, hu₁.1, _, hu₁.2.2.2.1, tt3₁.1, fun v6₁ g6₁ => s_beginSort hT₁ tt3₁ d3₁.1 (fun e₁ J₁ f₁ => ⟨fun _ => ?_, fun y₁ => absurd y₁ (by decide)⟩) (fun e₁ J1₁ M1₁ t1₁ f1₁ => ⟨fun y₁ => absurd y₁ (by decide), fun _ => ?_⟩)⟩
  · exact hbad _ _ (by rw [pType, if_pos e₁]) J₁ L₁ (flD_f f₁) (frD_f f₁)
  rw [d3₁.1.2.1] at g6₁
  subst g6₁
  have d1₁ := UD_K hD₁ f1₁
  have hc₁ : ix (U₁ 3) < 6 := by omega
  refine s_readNewName (x₁ := x₁) hX₁ t1₁ d1₁ hN₁ tt3₁ d1₁.2.2.2.1.1 hc₁ (by omega) (fun e1₁ J₁ f₁ => ⟨fun _ => ?_, fun y₁ => absurd y₁ (by decide)⟩) (fun e1₁ e2₁ J₁ f₁ => ⟨fun _ => ?_, fun y₁ => absurd y₁ (by decide)⟩) (fun e1₁ e2₁ hw₁ J2₁ M2₁ tt₁ td₁ en₁ fb₁ fM₁ fn₁ f10₁ => ⟨fun y₁ => absurd y₁ (by decide), fun _ => ⟨hX₁.tok, ?_⟩⟩)
  · exact hbad _ _ (by rw [pType, if_neg e₁, pNew, if_pos e1₁]) J₁ M1₁ (flD_f f₁) (frD_t (frD_f f₁) (frD_K f1₁))
  · exact hbad _ _ (by rw [pType, if_neg e₁, pNew, if_neg (by rw [e1₁]; decide), if_pos e2₁]) J₁ M1₁ (flD_f f₁) (frD_t (frD_f f₁) (frD_K f1₁))
  have k1₁ : ¬ isNm B₁ n₁ lm₁ ((tkN₁ B₁ n₁ lm₁ (p₁))) = false := by rw [e1₁]; decide
  have k2₁ : ¬ tdN₁ U₁ NM₁ (tkW₁ B₁ n₁ ((tkN₁ B₁ n₁ lm₁ (p₁)))) = true := by rw [e2₁]; decide
  have fr2₁ : frD₁ x₁ J2₁ I₁ M2₁ L₁ := frD_t ⟨fun b₁ q1₁ q2₁ => fb₁ b₁ q1₁ (by omega), fun b₁ q1₁ q2₁ => fM₁ b₁ q1₁ (by omega), fun y₁ _ => by rw [fb₁ _ (by omega) (by omega)], fun b₁ q₁ => by
      by_cases z₁ : b₁ = x₁ + 44
      · rw [z₁]; exact td₁.1.trans d1₁.2.2.2.1.1.1.symm
      · rw [fb₁ b₁ (by omega) (by omega)]⟩ (frD_K f1₁)
  refine s_needsNumber (lo₁ := 0) (hi₁ := 15) tt₁ (by decide) (by decide) (fun e3₁ w3₁ v1₁ v2₁ e8₁ => ⟨fun _ v16₁ g16₁ => ?_, fun y₁ => absurd y₁ (by decide)⟩) (fun e3₁ J₁ f₁ => ⟨fun y₁ => absurd y₁ (by decide), fun _ => ?_⟩)
  case refine_2 => exact hbad _ _ (by rw [pType, if_neg e₁, pNew, if_neg k1₁, if_neg k2₁, pNum, if_pos e3₁]) J₁ M2₁ (flD_f f₁) (frD_t (frD_f f₁) fr2₁)
  rw [e8₁] at g16₁
  subst g16₁
  refine s_next tt₁ (fun J3₁ M3₁ t3₁ f3₁ => ?_)
  have fr3₁ := frD_t (frD_K f3₁) fr2₁
  rw [show (16 : Int32) - nI (tkV₁ B₁ n₁ ((tkN₁ B₁ n₁ lm₁ (tkN₁ B₁ n₁ lm₁ (p₁))))) = nI (16 - tkV₁ B₁ n₁ ((tkN₁ B₁ n₁ lm₁ (tkN₁ B₁ n₁ lm₁ (p₁))))) from by rw [show (16 : Int32) = nI 16 from rfl, subN (by omega)]]
  refine s_needsNumber (lo₁ := 1) t3₁ (by decide) (by omega) (fun e4₁ w4₁ v3₁ v4₁ e8'₁ => ⟨fun _ => ?_, fun y₁ => absurd y₁ (by decide)⟩) (fun e4₁ J₁ f₁ => ⟨fun y₁ => absurd y₁ (by decide), fun _ => ?_⟩)
  case refine_2 => exact hbad _ _ (by rw [pType, if_neg e₁, pNew, if_neg k1₁, if_neg k2₁, pNum, if_neg (fun z₁ => z₁ e3₁), pNum, if_pos e4₁]) J₁ M3₁ (flD_f f₁) (frD_t (frD_f f₁) fr3₁)
  have td3₁ := td₁.fr (f3₁.1 (x₁ + 37 + 7) (by omega))
  refine s_put (c₁ := 0) tt3₁ td3₁ (by omega) (by decide) ?_
  rw [mup_ne (by omega), e8'₁]
  refine s_put (n₁ := ix (U₁ 3) + 1) (c₁ := 1) tt3₁ (td3₁.fr (mup_ne (by omega))) (by omega) (by decide) ?_
  generalize hG₁ : mup (mup J3₁ (x₁ + 37 + 7 + 2) (ix (U₁ 3) * 3 + 0) (nI (tkV₁ B₁ n₁ ((tkN₁ B₁ n₁ lm₁ (tkN₁ B₁ n₁ lm₁ (p₁))))))) (x₁ + 37 + 7 + 2) (ix (U₁ 3) * 3 + 1) (nI (tkV₁ B₁ n₁ ((tkN₁ B₁ n₁ lm₁ (tkN₁ B₁ n₁ lm₁ (tkN₁ B₁ n₁ lm₁ (p₁))))))) = J4₁
  have b4₁ : ∀ b₁, b₁ ≠ x₁ + 37 + 7 + 2 → J4₁ b₁ = J3₁ b₁ := fun b₁ hb₁ => by rw [← hG₁, mup_ne hb₁, mup_ne hb₁]
  have c4₁ : ∀ j₁, j₁ ≠ ix (U₁ 3) * 3 + 0 → j₁ ≠ ix (U₁ 3) * 3 + 1 → J4₁ (x₁ + 37 + 7 + 2) j₁ = J3₁ (x₁ + 37 + 7 + 2) j₁ := fun j₁ q1₁ q2₁ => by rw [← hG₁, mup_k q2₁, mup_k q1₁]
  have e40₁ : J4₁ (x₁ + 37 + 7 + 2) (ix (U₁ 3) * 3 + 0) = nI (tkV₁ B₁ n₁ ((tkN₁ B₁ n₁ lm₁ (tkN₁ B₁ n₁ lm₁ (p₁))))) := by rw [← hG₁, mup_k (by omega), mup_at]
  have e41₁ : J4₁ (x₁ + 37 + 7 + 2) (ix (U₁ 3) * 3 + 1) = nI (tkV₁ B₁ n₁ ((tkN₁ B₁ n₁ lm₁ (tkN₁ B₁ n₁ lm₁ (tkN₁ B₁ n₁ lm₁ (p₁)))))) := by rw [← hG₁, mup_at]
  clear hG₁
  have t4₁ : TCS₁ K₁ N₁ R₁ J4₁ M3₁ (x₁ + 1) B₁ n₁ lm₁ ((tkN₁ B₁ n₁ lm₁ (tkN₁ B₁ n₁ lm₁ (tkN₁ B₁ n₁ lm₁ (p₁))))) := TCS_fr t3₁ (b4₁ _ (by omega)) (fun y₁ _ _ => by rw [b4₁ _ (by omega)]) rfl
  refine s_next t4₁ (fun J5₁ M5₁ t5₁ f5₁ => s_wordHere t5₁ ?_)
  have fr5₁ : frD₁ x₁ J5₁ I₁ M5₁ L₁ := frD_t (frD_K f5₁) (frD_t ⟨fun b₁ q1₁ q2₁ => b4₁ b₁ (by omega), fun _ _ _ => rfl, fun y₁ _ => by rw [b4₁ _ (by omega)], fun b₁ q₁ => by rw [b4₁ b₁ (by omega)]⟩ fr3₁)
  have td5₁ : TD J5₁ (x₁ + 37 + 7) 6 3 (ix (U₁ 3) + 1) := (td3₁.fr (b4₁ _ (by omega))).fr (f5₁.1 _ (by omega))
  have h6₁ : whS₁ B₁ n₁ lm₁ ((tkN₁ B₁ n₁ lm₁ (tkN₁ B₁ n₁ lm₁ (tkN₁ B₁ n₁ lm₁ (tkN₁ B₁ n₁ lm₁ (p₁)))))) = 6 ↔ isWd B₁ n₁ lm₁ ((tkN₁ B₁ n₁ lm₁ (tkN₁ B₁ n₁ lm₁ (tkN₁ B₁ n₁ lm₁ (tkN₁ B₁ n₁ lm₁ (p₁)))))) 4 = true := whS_iff (c₁ := 6) (by decide)
  have h7₁ : whS₁ B₁ n₁ lm₁ ((tkN₁ B₁ n₁ lm₁ (tkN₁ B₁ n₁ lm₁ (tkN₁ B₁ n₁ lm₁ (tkN₁ B₁ n₁ lm₁ (p₁)))))) = 7 ↔ isWd B₁ n₁ lm₁ ((tkN₁ B₁ n₁ lm₁ (tkN₁ B₁ n₁ lm₁ (tkN₁ B₁ n₁ lm₁ (tkN₁ B₁ n₁ lm₁ (p₁)))))) 28 = true := whS_iff (c₁ := 7) (by decide)
  have stp₁ : pType B₁ n₁ lm₁ U₁ NM₁ p₁ = if isWd B₁ n₁ lm₁ ((tkN₁ B₁ n₁ lm₁ (tkN₁ B₁ n₁ lm₁ (tkN₁ B₁ n₁ lm₁ (tkN₁ B₁ n₁ lm₁ (p₁)))))) 4 = true ∨ isWd B₁ n₁ lm₁ ((tkN₁ B₁ n₁ lm₁ (tkN₁ B₁ n₁ lm₁ (tkN₁ B₁ n₁ lm₁ (tkN₁ B₁ n₁ lm₁ (p₁)))))) 28 = true then .inr (tyU₁ U₁ (ix (U₁ 3)) (nI (tkV₁ B₁ n₁ ((tkN₁ B₁ n₁ lm₁ (tkN₁ B₁ n₁ lm₁ (p₁)))))) (nI (tkV₁ B₁ n₁ ((tkN₁ B₁ n₁ lm₁ (tkN₁ B₁ n₁ lm₁ (tkN₁ B₁ n₁ lm₁ (p₁))))))) (if isWd B₁ n₁ lm₁ ((tkN₁ B₁ n₁ lm₁ (tkN₁ B₁ n₁ lm₁ (tkN₁ B₁ n₁ lm₁ (tkN₁ B₁ n₁ lm₁ (p₁)))))) 28 = true then 1 else 0), nmU₁ NM₁ (10 + ix (U₁ 3)) (tkW₁ B₁ n₁ ((tkN₁ B₁ n₁ lm₁ (p₁)))), (tkN₁ B₁ n₁ lm₁ (tkN₁ B₁ n₁ lm₁ (tkN₁ B₁ n₁ lm₁ (tkN₁ B₁ n₁ lm₁ (tkN₁ B₁ n₁ lm₁ (p₁))))))) else .inl (1, tkS₁ B₁ n₁ lm₁ ((tkN₁ B₁ n₁ lm₁ (tkN₁ B₁ n₁ lm₁ (tkN₁ B₁ n₁ lm₁ (tkN₁ B₁ n₁ lm₁ (p₁))))))) := by
    rw [pType, if_neg e₁, pNew, if_neg k1₁, if_neg k2₁, pNum, if_neg (fun z₁ => z₁ e3₁), pNum, if_neg (fun z₁ => z₁ e4₁)]
  have last : ∀ s₁ : Nat, s₁ ≤ 1 → pType B₁ n₁ lm₁ U₁ NM₁ p₁ = .inr (tyU₁ U₁ (ix (U₁ 3)) (nI (tkV₁ B₁ n₁ ((tkN₁ B₁ n₁ lm₁ (tkN₁ B₁ n₁ lm₁ (p₁)))))) (nI (tkV₁ B₁ n₁ ((tkN₁ B₁ n₁ lm₁ (tkN₁ B₁ n₁ lm₁ (tkN₁ B₁ n₁ lm₁ (p₁))))))) (nI s₁), nmU₁ NM₁ (10 + ix (U₁ 3)) (tkW₁ B₁ n₁ ((tkN₁ B₁ n₁ lm₁ (p₁)))), (tkN₁ B₁ n₁ lm₁ (tkN₁ B₁ n₁ lm₁ (tkN₁ B₁ n₁ lm₁ (tkN₁ B₁ n₁ lm₁ (tkN₁ B₁ n₁ lm₁ (p₁))))))) → w_X7_put (x₁ + 37 + 7) (nI (ix (U₁ 3))) 2 (nI s₁) K₁ N₁ J5₁ M5₁ R₁ (fun I31₁ => K₁ (x₁ + 1) = 9 ∧ w_X8_advance (x₁ + 1) K₁ N₁ I31₁ M5₁ R₁ (fun I33₁ L34₁ => Q₁ true I33₁ L34₁)) := by
    intro s₁ hs1₁ hp₁
    refine s_put (c₁ := 2) tt3₁ td5₁ (by omega) (by decide) ⟨hX₁.tok, ?_⟩
    refine s_next (TCS_fr t5₁ (mup_ne (by omega)) (fun y₁ _ _ => by rw [mup_ne (by omega)]) rfl) (fun J₁ M₁ t6₁ f6₁ => hok₁ _ _ _ hp₁ J₁ M₁ ⟨t6₁, ?_, WFU_ty hW₁ hc₁ v3₁ (by omega) hs1₁, ?_⟩ (frD_t (frD_K f6₁) (frD_t ⟨fun b₁ q1₁ q2₁ => mup_ne (by omega), fun _ _ _ => rfl, fun y₁ _ => by rw [mup_ne (by omega)], fun b₁ q₁ => by rw [mup_ne (by omega)]⟩ fr5₁)) (by rw [frK_10 f6₁, mup_ne (by omega), frK_10 f5₁, b4₁ _ (by omega), frK_10 f3₁, f10₁, frK_10 f1₁]))
    · obtain ⟨a0₁, a1₁, a2₁, a3₁, a4₁, a5₁⟩ := d1₁
      have bJ₁ : ∀ b₁, b₁ ≠ x₁ + 1 → b₁ ≠ x₁ + 37 + 7 + 2 → b₁ ≠ x₁ + 37 + 7 → J₁ b₁ = J1₁ b₁ := fun b₁ q1₁ q2₁ q3₁ => by rw [f6₁.1 b₁ q1₁, mup_ne q2₁, f5₁.1 b₁ q1₁, b4₁ b₁ q2₁, f3₁.1 b₁ q1₁, fb₁ b₁ q1₁ q3₁]
      have bM₁ : ∀ b₁, b₁ ≠ x₁ + 1 → b₁ ≠ x₁ + 37 + 7 + 1 → M₁ b₁ = M1₁ b₁ := fun b₁ q1₁ q2₁ => by rw [f6₁.2.2 b₁ q1₁, f5₁.2.2 b₁ q1₁, f3₁.2.2 b₁ q1₁, fM₁ b₁ q1₁ q2₁]
      have eM₁ : M₁ (x₁ + 37 + 7 + 1) = M2₁ (x₁ + 37 + 7 + 1) := by rw [f6₁.2.2 _ (by omega), f5₁.2.2 _ (by omega), f3₁.2.2 _ (by omega)]
      have eo₁ : ∀ k₁, k₁ ≠ 3 → (k₁ < 96 ∨ 114 ≤ k₁) → tyU₁ U₁ (ix (U₁ 3)) (nI (tkV₁ B₁ n₁ ((tkN₁ B₁ n₁ lm₁ (tkN₁ B₁ n₁ lm₁ (p₁)))))) (nI (tkV₁ B₁ n₁ ((tkN₁ B₁ n₁ lm₁ (tkN₁ B₁ n₁ lm₁ (tkN₁ B₁ n₁ lm₁ (p₁))))))) (nI s₁) k₁ = U₁ k₁ := fun k₁ h1₁ h2₁ => by
        rw [tyU₁, vst_n h1₁, vst_n (by omega), vst_n (by omega), vst_n (by omega)]
      have e3'₁ : ix (tyU₁ U₁ (ix (U₁ 3)) (nI (tkV₁ B₁ n₁ ((tkN₁ B₁ n₁ lm₁ (tkN₁ B₁ n₁ lm₁ (p₁)))))) (nI (tkV₁ B₁ n₁ ((tkN₁ B₁ n₁ lm₁ (tkN₁ B₁ n₁ lm₁ (tkN₁ B₁ n₁ lm₁ (p₁))))))) (nI s₁) 3) = ix (U₁ 3) + 1 := by rw [tyU₁, vst_a, ix_nI (by omega)]
      refine ⟨by rw [bJ₁ _ (by omega) (by omega) (by omega), a0₁, eo₁ 0 (by decide) (by decide)], ?_, ?_, ⟨?_, fun k₁ hk₁ => ?_⟩, ?_, ?_⟩
      · exact UD1_cg (a1₁.fr (bJ₁ _ (by omega) (by omega) (by omega)) (bJ₁ _ (by omega) (by omega) (by omega))) hU₁.1.2 (eo₁ 1 (by decide) (by decide)) (fun k₁ q1₁ _ => eo₁ k₁ (by omega) (by omega))
      · exact UD2_cg (a2₁.fr (bJ₁ _ (by omega) (by omega) (by omega)) (bJ₁ _ (by omega) (by omega) (by omega)) (bM₁ _ (by omega) (by omega))) hU₁.2.1.2 (eo₁ 2 (by decide) (by decide)) (fun k₁ q1₁ _ => eo₁ k₁ (by omega) (by omega)) (fun k₁ q1₁ => eNM_n (by omega))
      · rw [e3'₁]
        exact (td5₁.fr (mup_ne (by omega))).fr (f6₁.1 _ (by omega))
      · rw [e3'₁] at hk₁
        rw [f6₁.1 (x₁ + 37 + 7 + 2) (by omega), eM₁]
        by_cases z₁ : k₁ = ix (U₁ 3)
        · subst z₁
          rw [eNM_a, mup_k (by omega), mup_k (by omega), mup_at, f5₁.1 _ (by omega), e40₁, e41₁, en₁, tyU₁, vst_n (by omega), vst_n (by omega), vst_n (by omega), vst_a, vst_n (by omega), vst_n (by omega), vst_a, vst_n (by omega), vst_a]
          exact ⟨rfl, rfl, rfl, nm_to hw₁⟩
        · have r3₁ := a3₁.2 k₁ (by omega)
          rw [eNM_n (by omega), mup_k (by omega), mup_k (by omega), mup_k (by omega), f5₁.1 _ (by omega), c4₁ _ (by omega) (by omega), c4₁ _ (by omega) (by omega), c4₁ _ (by omega) (by omega), f3₁.1 _ (by omega), fb₁ _ (by omega) (by omega), fn₁ k₁ z₁, tyU₁, vst_n (by omega), vst_n (by omega), vst_n (by omega), vst_n (by omega), vst_n (by omega), vst_n (by omega), vst_n (by omega), vst_n (by omega), vst_n (by omega), vst_n (by omega), vst_n (by omega), vst_n (by omega)]
          exact r3₁
      · exact UD4_cg (a4₁.fr (bJ₁ _ (by omega) (by omega) (by omega)) (bJ₁ _ (by omega) (by omega) (by omega)) (bM₁ _ (by omega) (by omega))) hU₁.2.2.2.1.2 (eo₁ 4 (by decide) (by decide)) (fun k₁ q1₁ _ => eo₁ k₁ (by omega) (by omega)) (fun k₁ q1₁ _ => eNM_n (by omega))
      · exact UD5_cg (a5₁.fr (bJ₁ _ (by omega) (by omega) (by omega)) (bJ₁ _ (by omega) (by omega) (by omega))) hU₁.2.2.2.2.1.2 (WFo_m hU₁.2.2.2.2.1.2 hW₁.2.2.2.2.2.2.2) (eo₁ 5 (by decide) (by decide)) (fun k₁ q1₁ _ => eo₁ k₁ (by omega) (by omega))
    · have n2₁ := hU₁.2.1.2
      refine ⟨fun k₁ hk₁ => ?_, fun k₁ hk₁ => ?_, fun k₁ hk₁ => ?_⟩
      · rw [tyU₁, vst_n (by decide), vst_n (by omega), vst_n (by omega), vst_n (by omega)] at hk₁
        rw [nmU_n (by omega)]; exact hN₁.1 k₁ hk₁
      · rw [tyU₁, vst_a, ix_nI (by omega)] at hk₁
        by_cases z₁ : k₁ = ix (U₁ 3)
        · rw [z₁, nmU_a]; exact hw₁
        · rw [nmU_n (by omega)]; exact hN₁.2.1 k₁ (by omega)
      · rw [tyU₁, vst_n (by decide), vst_n (by omega), vst_n (by omega), vst_n (by omega)] at hk₁
        rw [nmU_n (by omega)]; exact hN₁.2.2 k₁ hk₁
  refine ⟨fun z₁ => ?_, fun z₁ => ⟨fun y₁ => ?_, fun y₁ => s_failT (k₁ := 1) t5₁ (fun J₁ f₁ => ?_)⟩⟩
  · delta w_X10_readType_135
    have nz₁ : ¬ whS₁ B₁ n₁ lm₁ ((tkN₁ B₁ n₁ lm₁ (tkN₁ B₁ n₁ lm₁ (tkN₁ B₁ n₁ lm₁ (tkN₁ B₁ n₁ lm₁ (p₁)))))) = 7 := fun q₁ => by rw [z₁] at q₁; exact absurd q₁ (by decide)
    refine ⟨hX₁.urd, _, hX₁.urd_r, hu₁.1, _, hu₁.2.2.2.1, fun _ => ⟨tt3₁.1, last 0 (by decide) ?_⟩, fun q₁ => absurd q₁ nz₁⟩
    rw [stp₁, if_pos (Or.inl (h6₁.mp z₁)), if_neg (fun q₁ => nz₁ (h7₁.mpr q₁))]; rfl
  · delta w_X10_readType_135
    refine ⟨hX₁.urd, _, hX₁.urd_r, hu₁.1, _, hu₁.2.2.2.1, fun q₁ => absurd y₁ q₁, fun _ => ⟨tt3₁.1, last 1 (by decide) ?_⟩⟩
    rw [stp₁, if_pos (Or.inr (h7₁.mp y₁)), if_pos (h7₁.mp y₁)]; rfl
  · exact hbad _ _ (by rw [stp₁, if_neg (fun q₁ => q₁.elim (fun q₁ => z₁ (h6₁.mpr q₁)) (fun q₁ => y₁ (h7₁.mpr q₁)))]) J₁ M5₁ (flD_f f₁) (frD_t (frD_f f₁) fr5₁)
end UN₁
