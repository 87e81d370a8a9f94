/-! ===== a 'where' line: the reference ===== -/
section RG₁
variable {K₁ N₁ : MK} {I₁ : MI} {L₁ : ML} {R₁ : MR} {n₁ lm₁ p₁ c₁ d₁ m₁ w₁ : Nat} {B₁ : Nat → Nat} {U₁ : Nat → Int32} {NM₁ : Nat → List Nat}
theorem r_isRange {v₁ s₁ : Nat} {f₁ t₁ : Int32} {Q₁ : Bool → Prop} (hM₁ : MDL K₁ N₁ R₁ m₁) (hI₁ : I₁ (m₁ + 3) = U₁) (h5₁ : U₁ 5 = nI w₁) (hw₁ : w₁ < 16) (hv₁ : v₁ < 10) (es₁ : U₁ (114 + v₁) = nI s₁) (hs₁ : s₁ < 10)
    (h₁ : Q₁ ((!(decide (f₁ < U₁ (66 + s₁))) && decide (t₁ ≤ U₁ (76 + s₁))) && !(takB U₁ (nI v₁) f₁ t₁ w₁ 0))) : w_X12_isRange m₁ (nI v₁) f₁ t₁ K₁ N₁ I₁ L₁ R₁ Q₁ := by
  delta w_X12_isRange
  refine ⟨hM₁.k, _, hM₁.r15, hM₁.k3, by rw [hM₁.n3]; exact vp_cn (by omega) (by decide), fun v5₁ g5₁ => ?_⟩
  have g5₁ : v5₁ = nI s₁ := by rw [g5₁, ix_cn (by omega), hI₁, es₁]
  subst g5₁
  delta w_X12_isRange_14
  refine ⟨fun n1₁ y0₁ y1₁ y2₁ y3₁ y4₁ y5₁ => y0₁ = m₁ ∧ y1₁ = nI v₁ ∧ y2₁ = f₁ ∧ y3₁ = t₁ ∧ y4₁ = nI s₁ ∧ ∃ i₁, i₁ ≤ w₁ ∧ n1₁ = w₁ - i₁ ∧ y5₁ = nI i₁ ∧ takB U₁ (nI v₁) f₁ t₁ (w₁ - i₁) i₁ = takB U₁ (nI v₁) f₁ t₁ w₁ 0, ⟨w₁, rfl, rfl, rfl, rfl, rfl, 0, by omega, rfl, rfl, rfl⟩, ?_⟩
  rintro n1₁ y0₁ y1₁ y2₁ y3₁ y4₁ y5₁ ⟨rfl, rfl, rfl, rfl, rfl, i₁, hi₁, rfl, rfl, hB₁⟩
  refine ⟨hM₁.k, _, hM₁.r15, hM₁.k3, by rw [hM₁.n3]; exact vp_c (by decide) (by decide), ?_⟩
  rw [show ix (5 : Int32) = 5 from rfl, hI₁, h5₁, leN (by omega) (by omega), ix_cn (by omega), ix_cn (by omega), ix_cn (by omega), ix_cn (by omega), ix_cn (by omega), hM₁.n3]
  refine ⟨fun z₁ => ⟨vp_cn (by omega) (by decide), vp_cn (by omega) (by decide), r_isWithin ?_⟩, fun z₁ => ⟨vp_cn (by omega) (by decide), fun q₁ v14₁ g14₁ => ⟨w₁ - (i₁ + 1), by omega, rfl, rfl, rfl, rfl, rfl, i₁ + 1, by omega, rfl, by rw [g14₁, nI_1], ?_⟩, fun q₁ => ⟨vp_cn (by omega) (by decide), vp_cn (by omega) (by decide), r_areApart ⟨fun a₁ v18₁ g18₁ => ⟨w₁ - (i₁ + 1), by omega, rfl, rfl, rfl, rfl, rfl, i₁ + 1, by omega, rfl, by rw [g18₁, nI_1], ?_⟩, fun a₁ => ?_⟩⟩⟩⟩
  · rw [show w₁ - i₁ = 0 by omega, takB] at hB₁
    rw [← hB₁, Bool.not_false, Bool.and_true] at h₁; exact h₁
  · rw [show w₁ - i₁ = (w₁ - (i₁ + 1)) + 1 by omega, takB, if_neg (fun y₁ => q₁ y₁.1)] at hB₁; exact hB₁
  · rw [show w₁ - i₁ = (w₁ - (i₁ + 1)) + 1 by omega, takB, if_neg (fun y₁ => by rw [a₁] at y₁; exact absurd y₁.2 (by decide))] at hB₁; exact hB₁
  · rw [show w₁ - i₁ = (w₁ - (i₁ + 1)) + 1 by omega, takB, if_pos ⟨q₁, a₁⟩] at hB₁
    rw [← hB₁, Bool.not_true, Bool.and_false] at h₁; exact h₁
theorem r_readExpr {Q₁ : Bool → MI → ML → Prop} (hM₁ : MDL K₁ N₁ R₁ m₁) (hT₁ : TRS₁ I₁ L₁ m₁ B₁ n₁ lm₁ p₁) (hI₁ : I₁ (m₁ + 3) = U₁) (hw₁ : w₁ < 16)
    (hbad : ∀ k₁ pl₁, pExpr B₁ n₁ lm₁ NM₁ w₁ U₁ p₁ = .inl (k₁, pl₁) → ∀ J₁ M₁, flQ₁ m₁ k₁ pl₁ J₁ → frQ₁ m₁ J₁ I₁ M₁ L₁ → Q₁ false J₁ M₁)
    (hok₁ : ∀ U'₁ p'₁, pExpr B₁ n₁ lm₁ NM₁ w₁ U₁ p₁ = .inr (vst₁ U'₁ 5 (nI (w₁ + 1)), NM₁, p'₁) → U'₁ 5 = U₁ 5 → ∀ J₁ M₁, TRS₁ J₁ M₁ m₁ B₁ n₁ lm₁ p'₁ → J₁ (m₁ + 3) = U'₁ → (∀ b₁, b₁ ≠ m₁ → M₁ b₁ = L₁ b₁) → frQ₁ m₁ J₁ I₁ M₁ L₁ → J₁ m₁ 10 = I₁ m₁ 10 → Q₁ true J₁ M₁) : w_X12_readExpr m₁ (nI w₁) K₁ N₁ I₁ L₁ R₁ Q₁ := by
  have e198 : (198 : Int32) + nI w₁ = nI (198 + w₁) := by rw [show (198 : Int32) = nI 198 from rfl, addN]
  have e182 : (182 : Int32) + nI w₁ = nI (182 + w₁) := by rw [show (182 : Int32) = nI 182 from rfl, addN]
  have v198 : vp_in (nI (198 + w₁)) (N₁ (m₁ + 3)) := by rw [hM₁.n3]; exact (vp_nI (by omega)).mpr (by omega)
  have v182 : vp_in (nI (182 + w₁)) (N₁ (m₁ + 3)) := by rw [hM₁.n3]; exact (vp_nI (by omega)).mpr (by omega)
  delta w_X12_readExpr
  rw [e198, e182, ix_nI (by omega), ix_nI (by omega)]
  refine ⟨hM₁.k, fun I2₁ g2₁ => ⟨_, hM₁.r15, hM₁.k3, v198, fun I6₁ g6₁ => ?_⟩⟩
  have i6₁ : I6₁ (m₁ + 3) = vst₁ U₁ (198 + w₁) 0 := by rw [g6₁, mup_vst, g2₁, mup_ne (by omega), hI₁]
  have fr6₁ : frQ₁ m₁ I6₁ I₁ L₁ L₁ := frQ_t (frQ_3 (M₁ := L₁) g6₁) ⟨fun b₁ q1₁ _ => by rw [g2₁, mup_ne q1₁], fun _ _ _ => rfl, fun y₁ _ _ _ _ _ _ _ _ q9₁ => by rw [g2₁, mup_k q9₁]⟩
  have t6₁ : TRS₁ I6₁ L₁ m₁ B₁ n₁ lm₁ p₁ := TRS_3 (TRS_fr hT₁ (by rw [g2₁, mup_ne (by omega)]) (fun y₁ q1₁ q2₁ => by rw [g2₁, mup_k (by omega)]) rfl) g6₁
  have h610 : I6₁ m₁ 10 = I₁ m₁ 10 := by rw [g6₁, mup_ne (by omega), g2₁, mup_k (by decide)]
  have h625 : I6₁ m₁ 25 = nI 0 := by rw [g6₁, mup_ne (by omega), g2₁, mup_at]; rfl
  refine r_isWord (k₁ := 7) hM₁ t6₁ (by decide) ⟨fun z7₁ => ⟨v182, fun I9₁ g9₁ => ?_⟩, fun z7₁ => r_next hM₁ t6₁ (fun J1₁ M1₁ t1₁ f1₁ => ⟨v182, fun I34₁ g34₁ => ?_⟩)⟩
  · rw [pExpr, if_neg (by rw [z7₁]; decide)] at hbad hok₁
    have i9₁ : I9₁ (m₁ + 3) = vst₁ (vst₁ U₁ (198 + w₁) 0) (182 + w₁) 0 := by rw [g9₁, mup_vst, i6₁]
    have t9₁ := TRS_3 t6₁ g9₁
    have fr9₁ := frQ_t (frQ_3 (M₁ := L₁) g9₁) fr6₁
    have h910 : I9₁ m₁ 10 = I₁ m₁ 10 := by rw [g9₁, mup_ne (by omega), h610]
    have h925 : I9₁ m₁ 25 = nI 0 := by rw [g9₁, mup_ne (by omega), h625]
    refine r_isOp hM₁ t9₁ ⟨fun zo₁ => ?_, fun zo₁ => r_bad (k₁ := 1) hM₁ t9₁ (fun _ => rfl) (fun J₁ f₁ => ?_)⟩
    case refine_2 =>
      have o0₁ : opN₁ B₁ n₁ lm₁ p₁ = 0 := by simpa using zo₁
      exact hbad _ _ (by rw [if_pos o0₁]) J₁ L₁ (flQ_f f₁) (frQ_t (frQ_f f₁) fr9₁)
    have o0₁ : ¬ opN₁ B₁ n₁ lm₁ p₁ = 0 := by simpa using zo₁
    rw [if_neg o0₁] at hbad hok₁
    have u15₁ : vst₁ (vst₁ U₁ (198 + w₁) 0) (182 + w₁) 0 5 = U₁ 5 := by rw [vst_n (by omega), vst_n (by omega)]
    generalize vst₁ (vst₁ U₁ (198 + w₁) 0) (182 + w₁) 0 = U1₁ at i9₁ hbad hok₁ u15₁
    have u198 : U1₁ (198 + w₁) = nI 0 := by rw [← i9₁, g9₁, mup_k (by omega), g6₁, mup_at]; rfl
    delta w_X12_readExpr_81
    refine ⟨fun n1₁ y0₁ y1₁ I1₁ L1₁ => y0₁ = m₁ ∧ y1₁ = nI w₁ ∧ ∃ c1₁ d1₁ p1₁ U2₁, n1₁ = 9 - c1₁ ∧ c1₁ ≤ 8 ∧ d1₁ ≤ c1₁ ∧ TRS₁ I1₁ L1₁ m₁ B₁ n₁ lm₁ p1₁ ∧ I1₁ (m₁ + 3) = U2₁ ∧ I1₁ m₁ 25 = nI d1₁ ∧ U2₁ (198 + w₁) = nI c1₁ ∧ U2₁ 5 = U₁ 5 ∧ (∀ b₁, b₁ ≠ m₁ → L1₁ b₁ = L₁ b₁) ∧ frQ₁ m₁ I1₁ I₁ L1₁ L₁ ∧ I1₁ m₁ 10 = I₁ m₁ 10 ∧ pOps B₁ n₁ lm₁ NM₁ w₁ (9 - c1₁) U2₁ c1₁ d1₁ p1₁ = pOps B₁ n₁ lm₁ NM₁ w₁ 9 U1₁ 0 0 p₁, ⟨9, rfl, rfl, 0, 0, p₁, U1₁, rfl, by decide, by decide, t9₁, i9₁, h925, u198, u15₁, fun _ _ => rfl, fr9₁, h910, rfl⟩, ?_⟩
    rintro n1₁ y0₁ y1₁ I1₁ L1₁ ⟨rfl, rfl, c1₁, d1₁, p1₁, U2₁, rfl, hc1₁, hd1₁, t1₁, i1₁, h25₁, u2₁, u25₁, l1₁, f1₁, h10₁, hE₁⟩
    rw [e198, e182, ix_nI (by omega), ix_nI (by omega)]
    rw [show 9 - c1₁ = (9 - (c1₁ + 1)) + 1 by omega, pOps] at hE₁
    refine ⟨hM₁.k, r_isOp hM₁ t1₁ ⟨fun zo₁ => ?_, fun zo₁ => ?_⟩⟩
    · have o0₁ : opN₁ B₁ n₁ lm₁ p1₁ = 0 := by simpa using zo₁
      rw [if_pos o0₁] at hE₁
      refine r_isWord (k₁ := 32) hM₁ t1₁ (by decide) ⟨fun zv₁ => ⟨_, hM₁.r15, hM₁.k3, v182, fun I17₁ g17₁ => ?_⟩, fun zv₁ => ?_⟩
      · rw [if_pos zv₁] at hE₁
        refine r_next hM₁ (TRS_3 t1₁ g17₁) (fun J₁ M₁ t3₁ f3₁ => hok₁ _ _ hE₁.symm (by rw [vst_n (by omega)]; exact u25₁) J₁ M₁ t3₁ ?_ (fun b₁ q1₁ => by rw [f3₁.2.2 b₁ q1₁, l1₁ b₁ q1₁]) (frQ_t (frQ_V f3₁) (frQ_t (frQ_3 (M₁ := L1₁) g17₁) f1₁)) ?_)
        · rw [f3₁.1 _ (by omega), g17₁, mup_vst, i1₁]
        · rw [frV_10 f3₁, g17₁, mup_ne (by omega), h10₁]
      · rw [if_neg (by rw [zv₁]; decide)] at hE₁
        exact hok₁ _ _ hE₁.symm u25₁ I1₁ L1₁ t1₁ i1₁ l1₁ f1₁ h10₁
    · have o0₁ : ¬ opN₁ B₁ n₁ lm₁ p1₁ = 0 := by simpa using zo₁
      rw [if_neg o0₁] at hE₁
      refine ⟨_, hM₁.r15, hM₁.k3, v198, ?_⟩
      rw [i1₁, u2₁]
      refine ⟨fun z8₁ => ?_, fun z8₁ => ?_⟩ <;> rw [show (8 : Int32) = nI 8 from rfl, eqN (by omega) (by omega)] at z8₁
      · have ea₁ : (214 : Int32) + (8 : Int32) * nI w₁ + nI c1₁ = nI (214 + 8 * w₁ + c1₁) := by rw [show (8 : Int32) = nI 8 from rfl, mulN, show (214 : Int32) = nI 214 from rfl, addN, addN]
        rw [ea₁]
        refine r_readOp (c₁ := c1₁) hM₁ t1₁ i1₁ h25₁ (by omega) (by omega) (by omega) o0₁ (fun k₁ pl₁ hp₁ J₁ M₁ fl₁ fr₁ => ⟨fun q₁ => absurd q₁ (by decide), fun _ => ?_⟩) (fun r₁ p'₁ hp₁ hC₁ hO₁ J₁ M₁ t2₁ i2₁ h225 l2₁ f2₁ e10₁ => ⟨fun _ I26₁ g26₁ => ?_, fun q₁ => absurd q₁ (by decide)⟩)
        · exact hbad k₁ pl₁ (by rw [← hE₁, hp₁]) J₁ M₁ fl₁ (frQ_t fr₁ f1₁)
        · rw [hp₁] at hE₁
          rw [i2₁, vst_n (by omega), u2₁, nI_1] at g26₁
          have hd2₁ : opD₁ r₁ d1₁ ≤ c1₁ + 1 := by
            rw [opD₁]
            repeat' split
            all_goals omega
          refine ⟨9 - (c1₁ + 1), by omega, rfl, rfl, c1₁ + 1, opD₁ r₁ d1₁, p'₁, opsU U2₁ w₁ c1₁ r₁, rfl, by omega, hd2₁, TRS_3 t2₁ g26₁, ?_, ?_, ?_, ?_, fun b₁ q1₁ => by rw [l2₁ b₁ q1₁, l1₁ b₁ q1₁], frQ_t (frQ_3 (M₁ := M₁) g26₁) (frQ_t f2₁ f1₁), ?_, hE₁⟩
          · rw [g26₁, mup_vst, i2₁]; rfl
          · rw [g26₁, mup_ne (by omega)]; exact h225
          · rw [opsU, vst_a]
          · rw [opsU, vst_n (by omega), vst_n (by omega)]; exact u25₁
          · rw [g26₁, mup_ne (by omega), e10₁, h10₁]
      · refine r_bad (k₁ := 4) hM₁ t1₁ (fun y₁ => ?_) (fun J₁ f₁ => hbad _ _ (by rw [← hE₁, pOp₁, if_neg o0₁, if_pos z8₁]) J₁ L1₁ (flQ_f f₁) (frQ_t (frQ_f f₁) f1₁))
        rcases opN_or (B₁ := B₁) (n₁ := n₁) (lm₁ := lm₁) (p₁ := p1₁) with ⟨e₁, -⟩ | ⟨-, e₁⟩ | ⟨q₁, hq₁, -, e₁⟩
        · exact absurd e₁ o0₁
        · rw [e₁] at y₁; exact absurd y₁ (by decide)
        · rw [isWd_k e₁] at y₁; exact absurd y₁ (by decide)
  · rw [pExpr, if_pos z7₁, pNum] at hbad hok₁
    have i34₁ : I34₁ (m₁ + 3) = vst₁ (vst₁ U₁ (198 + w₁) 0) (182 + w₁) 2 := by rw [g34₁, mup_vst, f1₁.1 _ (by omega), i6₁]
    have t34₁ := TRS_3 t1₁ g34₁
    have fr34 := frQ_t (frQ_3 (M₁ := M1₁) g34₁) (frQ_t (frQ_V f1₁) fr6₁)
    refine r_readNumber (lo₁ := 0) (hi₁ := 7) hM₁ t34₁ (by decide) (by decide) (fun e0₁ k2₁ v1₁ v2₁ J2₁ M2₁ t2₁ e13₁ f2₁ => r_putU hM₁ (by omega) (fun J3₁ g3₁ => ?_)) (fun e0₁ J₁ f₁ => r_putN ?_)
    · rw [e13₁] at g3₁
      rw [if_neg (fun z₁ => z₁ e0₁)] at hok₁
      refine hok₁ _ _ rfl (by rw [vst_n (by omega), vst_n (by omega), vst_n (by omega)]) J3₁ M2₁ (TRS_3 t2₁ g3₁) ?_ (fun b₁ q1₁ => by rw [f2₁.2.2 b₁ q1₁, f1₁.2.2 b₁ q1₁]) (frQ_t (frQ_3 (M₁ := M2₁) g3₁) (frQ_t (frQ_N f2₁) fr34)) ?_
      · rw [g3₁, mup_vst, f2₁.1 _ (by omega), mup_ne (by omega), i34₁]
      · rw [g3₁, mup_ne (by omega), frV_10 f2₁, mup_k (by decide), g34₁, mup_ne (by omega), frV_10 f1₁, h610]
    · rw [if_pos e0₁] at hbad
      exact hbad _ _ rfl J₁ M1₁ (flQ_f f₁) (frQ_t (frQ_f f₁) fr34)
theorem r_readWhere {Q₁ : Bool → MI → ML → Prop} (hM₁ : MDL K₁ N₁ R₁ m₁) (hS₁ : DSR₁ I₁ L₁ m₁ B₁ n₁ lm₁ U₁ NM₁ p₁) (hW₁ : WFU₁ U₁) (hN₁ : NOK₁ U₁ NM₁) (hk₁ : tkK₁ B₁ n₁ lm₁ p₁ = 1)
    (hbad : ∀ k₁ pl₁, pWhere B₁ n₁ lm₁ U₁ NM₁ p₁ = .inl (k₁, pl₁) → ∀ J₁ M₁, flQ₁ m₁ k₁ pl₁ J₁ → frQ₁ m₁ J₁ I₁ M₁ L₁ → Q₁ false J₁ M₁)
    (hok₁ : ∀ U'₁ NM'₁ p'₁, pWhere B₁ n₁ lm₁ U₁ NM₁ p₁ = .inr (U'₁, NM'₁, p'₁) → NM'₁ = NM₁ → ∀ J₁ M₁, TRS₁ J₁ M₁ m₁ B₁ n₁ lm₁ p'₁ → J₁ (m₁ + 3) = U'₁ → M₁ (m₁ + 9) = L₁ (m₁ + 9) → frQ₁ m₁ J₁ I₁ M₁ L₁ → J₁ m₁ 10 = I₁ m₁ 10 → Q₁ true J₁ M₁) : w_X12_readWhere m₁ K₁ N₁ I₁ L₁ R₁ Q₁ := by
  obtain ⟨hT₁, hI₁, hR₁⟩ := hS₁
  have hU₁ := hW₁.1
  have n0₁ := hU₁.2.2.2.2.2.2
  have n2₁ := hU₁.2.1.2
  have n4₁ := hU₁.2.2.2.1.2
  have n5₁ := hU₁.2.2.2.2.1.2
  delta w_X12_readWhere
  refine ⟨hM₁.k, r_readFirst (a₁ := 5) (b₁ := 16) (c₁ := ix (U₁ 5)) hM₁ hT₁ (by decide) (by rw [hI₁]; exact hU₁.2.2.2.2.1.1) (by omega) (by decide) hk₁ (fun e₁ J₁ f₁ => ⟨fun y₁ => absurd y₁ (by decide), fun _ => ?_⟩) (fun e₁ J1₁ M1₁ t1₁ f1₁ => ⟨fun _ => ⟨_, hM₁.r15, hM₁.k3, by rw [hM₁.n3]; exact vp_c (by decide) (by decide), fun v8₁ g8₁ => ⟨by rw [hM₁.n3]; exact vp_c (by decide) (by decide), ?_⟩⟩, fun y₁ => absurd y₁ (by decide)⟩)⟩
  · exact hbad _ _ (by rw [pWhere, if_pos e₁]) J₁ L₁ (flQ_f f₁) (frQ_f f₁)
  obtain ⟨w₁, hw₁⟩ : ∃ w₁, ix (U₁ 5) = w₁ := ⟨_, rfl⟩
  have hc₁ : w₁ < 16 := by omega
  have i1₁ : J1₁ (m₁ + 3) = U₁ := by rw [f1₁.1 _ (by omega), hI₁]
  have u5₁ : U₁ 5 = nI w₁ := by rw [← hw₁]; exact hU₁.2.2.2.2.1.1
  have g8₁ : v8₁ = nI w₁ := by rw [g8₁, i1₁]; exact u5₁
  subst g8₁
  have e134 : (134 : Int32) + nI w₁ = nI (134 + w₁) := by rw [show (134 : Int32) = nI 134 from rfl, addN]
  have e150 : (150 : Int32) + nI w₁ = nI (150 + w₁) := by rw [show (150 : Int32) = nI 150 from rfl, addN]
  have e166 : (166 : Int32) + nI w₁ = nI (166 + w₁) := by rw [show (166 : Int32) = nI 166 from rfl, addN]
  rw [e134, e150, e166, ix_nI (by omega), ix_nI (by omega), ix_nI (by omega), i1₁, show ix (4 : Int32) = 4 from rfl, hU₁.2.2.2.1.1]
  refine r_readTold (b₁ := 16) (NM₁ := NM₁) hM₁ t1₁ (by omega) hN₁.2.2 (fun k₁ hk₁ => by rw [f1₁.2.2 _ (by omega)]; exact hR₁.2.2 k₁ hk₁) (fun e1₁ J₁ f₁ => r_putN ⟨fun _ => ?_, fun y₁ => absurd y₁ (by decide)⟩) (fun e1₁ e2₁ J₁ f₁ fr₁ => r_putN ⟨fun _ => ?_, fun y₁ => absurd y₁ (by decide)⟩) (fun e1₁ v₁ ev₁ hv₁ J2₁ M2₁ t2₁ e13₁ b2₁ l2₁ fr2' f210 => r_putU hM₁ (by omega) (fun J3₁ g3₁ => ⟨fun y₁ => absurd y₁ (by decide), fun _ => ⟨by rw [hM₁.n3]; exact vp_c (by decide) (by decide), ?_⟩⟩))
  · exact hbad _ _ (by rw [pWhere, if_neg e₁, pTold, if_pos e1₁]) J₁ M1₁ (flQ_f f₁) (frQ_t (frQ_f f₁) (frQ_V f1₁))
  · exact hbad _ _ (by rw [pWhere, if_neg e₁, pTold, if_neg (by rw [e1₁]; decide), if_pos e2₁]) J₁ M1₁ f₁ (frQ_t fr₁ (frQ_V f1₁))
  have k1₁ : ¬ isNm B₁ n₁ lm₁ ((tkN₁ B₁ n₁ lm₁ (p₁))) = false := by rw [e1₁]; decide
  have k2₁ : ¬ fndS NM₁ 16 (ix (U₁ 4)) (tkW₁ B₁ n₁ ((tkN₁ B₁ n₁ lm₁ (p₁)))) = -1 := by rw [ev₁]; exact m1_ne (by omega)
  rw [e13₁] at g3₁
  have i3₁ : J3₁ (m₁ + 3) = vst₁ U₁ (134 + w₁) (nI v₁) := by rw [g3₁, mup_vst, b2₁ _ (by omega), i1₁]
  have t3₁ := TRS_3 t2₁ g3₁
  have fr3₁ := frQ_t (frQ_3 (M₁ := M2₁) g3₁) (frQ_t fr2' (frQ_V f1₁))
  rw [show ix (0 : Int32) = 0 from rfl, i3₁, vst_n (show 0 ≠ 134 + w₁ by omega), show U₁ 0 - 1 = nI (ix (U₁ 0) - 1) from by rw [hU₁.2.2.2.2.2.1, show (1 : Int32) = nI 1 from rfl, subN (by omega), ix_nI (by omega)]]
  refine r_readNumber (lo₁ := 0) hM₁ t3₁ (by decide) (by omega) (fun e3₁ w3₁ v1₁ v2₁ J4₁ M4₁ t4₁ e134' f4₁ => r_putU hM₁ (by omega) (fun J5₁ g5₁ => ⟨fun y₁ => absurd y₁ (by decide), fun _ => ⟨by rw [hM₁.n3]; exact (vp_nI (by omega)).mpr (by omega), ?_⟩⟩)) (fun e3₁ J₁ f₁ => r_putN ⟨fun _ => ?_, fun y₁ => absurd y₁ (by decide)⟩)
  case refine_2 => exact hbad _ _ (by rw [pWhere, if_neg e₁, pTold, if_neg k1₁, if_neg k2₁, pNum, if_pos e3₁]) J₁ M2₁ (flQ_f f₁) (frQ_t (frQ_f f₁) fr3₁)
  rw [e134'] at g5₁
  have i5₁ : J5₁ (m₁ + 3) = vst₁ (vst₁ U₁ (134 + w₁) (nI v₁)) (150 + w₁) (nI (tkV₁ B₁ n₁ ((tkN₁ B₁ n₁ lm₁ (tkN₁ B₁ n₁ lm₁ (p₁)))))) := by rw [g5₁, mup_vst, f4₁.1 _ (by omega), mup_ne (by omega), i3₁]
  have t5₁ := TRS_3 t4₁ g5₁
  have fr5₁ := frQ_t (frQ_3 (M₁ := M4₁) g5₁) (frQ_t (frQ_N f4₁) fr3₁)
  rw [i5₁, vst_a, vst_n (show 0 ≠ 150 + w₁ by omega), vst_n (show 0 ≠ 134 + w₁ by omega), hU₁.2.2.2.2.2.1, nI_1]
  refine r_isNumber hM₁ t5₁ (by omega) (by omega) (fun e4₁ w4₁ v3₁ v4₁ e8₁ => ⟨fun _ => ⟨by rw [hM₁.n3]; exact (vp_nI (by omega)).mpr (by omega), ?_⟩, fun y₁ => absurd y₁ (by decide)⟩) (fun e4₁ J₁ f₁ => ⟨fun y₁ => absurd y₁ (by decide), fun _ => ?_⟩)
  case refine_2 => exact hbad _ _ (by rw [pWhere, if_neg e₁, pTold, if_neg k1₁, if_neg k2₁, pNum, if_neg (fun z₁ => z₁ e3₁), pNum, if_pos e4₁]) J₁ M4₁ (flQ_f f₁) (frQ_t (frQ_f f₁) fr5₁)
  rw [i5₁, vst_a, vst_n (show 134 + w₁ ≠ 150 + w₁ by omega), vst_a, e8₁]
  obtain ⟨s₁, es₁, hs₁⟩ := hW₁.2.2.2.2.2.1 v₁ hv₁
  have st₁ : ∀ k₁, rngS U₁ (nI v₁) (nI (tkV₁ B₁ n₁ ((tkN₁ B₁ n₁ lm₁ (tkN₁ B₁ n₁ lm₁ (p₁)))))) (nI (tkV₁ B₁ n₁ ((tkN₁ B₁ n₁ lm₁ (tkN₁ B₁ n₁ lm₁ (tkN₁ B₁ n₁ lm₁ (p₁))))))) = k₁ → pWhere B₁ n₁ lm₁ U₁ NM₁ p₁ = if k₁ = false then .inl (3, tkS₁ B₁ n₁ lm₁ ((tkN₁ B₁ n₁ lm₁ (tkN₁ B₁ n₁ lm₁ (tkN₁ B₁ n₁ lm₁ (p₁)))))) else pExpr B₁ n₁ lm₁ NM₁ w₁ (whU₁ U₁ w₁ (nI v₁) (nI (tkV₁ B₁ n₁ ((tkN₁ B₁ n₁ lm₁ (tkN₁ B₁ n₁ lm₁ (p₁)))))) (nI (tkV₁ B₁ n₁ ((tkN₁ B₁ n₁ lm₁ (tkN₁ B₁ n₁ lm₁ (tkN₁ B₁ n₁ lm₁ (p₁)))))))) ((tkN₁ B₁ n₁ lm₁ (tkN₁ B₁ n₁ lm₁ (tkN₁ B₁ n₁ lm₁ (tkN₁ B₁ n₁ lm₁ (p₁)))))) := fun k₁ hk₁ => by
    rw [pWhere, if_neg e₁, pTold, if_neg k1₁, if_neg k2₁, pNum, if_neg (fun z₁ => z₁ e3₁), pNum, if_neg (fun z₁ => z₁ e4₁), ev₁, hk₁, hw₁]
  have tkc₁ : ∀ f₁ i₁, i₁ + f₁ ≤ w₁ → takB (vst₁ (vst₁ U₁ (134 + w₁) (nI v₁)) (150 + w₁) (nI (tkV₁ B₁ n₁ ((tkN₁ B₁ n₁ lm₁ (tkN₁ B₁ n₁ lm₁ (p₁))))))) (nI v₁) (nI (tkV₁ B₁ n₁ ((tkN₁ B₁ n₁ lm₁ (tkN₁ B₁ n₁ lm₁ (p₁)))))) (nI (tkV₁ B₁ n₁ ((tkN₁ B₁ n₁ lm₁ (tkN₁ B₁ n₁ lm₁ (tkN₁ B₁ n₁ lm₁ (p₁))))))) f₁ i₁ = takB U₁ (nI v₁) (nI (tkV₁ B₁ n₁ ((tkN₁ B₁ n₁ lm₁ (tkN₁ B₁ n₁ lm₁ (p₁)))))) (nI (tkV₁ B₁ n₁ ((tkN₁ B₁ n₁ lm₁ (tkN₁ B₁ n₁ lm₁ (tkN₁ B₁ n₁ lm₁ (p₁))))))) f₁ i₁ := by
    intro f₁
    induction f₁ with
    | zero => intro i₁ _; rfl
    | succ f₁ ih₁ =>
      intro i₁ hi₁
      rw [takB, takB, ih₁ (i₁ + 1) (by omega), vst_n (by omega), vst_n (by omega), vst_n (by omega), vst_n (by omega), vst_n (by omega), vst_n (by omega)]
  refine r_isRange (s₁ := s₁) hM₁ i5₁ (by rw [vst_n (by omega), vst_n (by omega)]; exact u5₁) hc₁ (by omega) (by rw [vst_n (by omega), vst_n (by omega)]; exact es₁) (by omega) ?_
  rw [tkc₁ w₁ 0 (by omega), vst_n (show 66 + s₁ ≠ 150 + w₁ by omega), vst_n (show 66 + s₁ ≠ 134 + w₁ by omega), vst_n (show 76 + s₁ ≠ 150 + w₁ by omega), vst_n (show 76 + s₁ ≠ 134 + w₁ by omega)]
  have er₁ : ((!(decide (nI (tkV₁ B₁ n₁ ((tkN₁ B₁ n₁ lm₁ (tkN₁ B₁ n₁ lm₁ (p₁))))) < U₁ (66 + s₁))) && decide (nI (tkV₁ B₁ n₁ ((tkN₁ B₁ n₁ lm₁ (tkN₁ B₁ n₁ lm₁ (tkN₁ B₁ n₁ lm₁ (p₁)))))) ≤ U₁ (76 + s₁))) && !(takB U₁ (nI v₁) (nI (tkV₁ B₁ n₁ ((tkN₁ B₁ n₁ lm₁ (tkN₁ B₁ n₁ lm₁ (p₁)))))) (nI (tkV₁ B₁ n₁ ((tkN₁ B₁ n₁ lm₁ (tkN₁ B₁ n₁ lm₁ (tkN₁ B₁ n₁ lm₁ (p₁))))))) w₁ 0)) = rngS U₁ (nI v₁) (nI (tkV₁ B₁ n₁ ((tkN₁ B₁ n₁ lm₁ (tkN₁ B₁ n₁ lm₁ (p₁)))))) (nI (tkV₁ B₁ n₁ ((tkN₁ B₁ n₁ lm₁ (tkN₁ B₁ n₁ lm₁ (tkN₁ B₁ n₁ lm₁ (p₁))))))) := by
    rw [rngS, ix_nI (by omega), es₁, ix_nI (by omega), hw₁]
  rw [er₁]
  refine ⟨fun zr₁ => ⟨by rw [hM₁.n3]; exact (vp_nI (by omega)).mpr (by omega), fun I27₁ g27₁ => ?_⟩, fun zr₁ => r_bad (k₁ := 3) hM₁ t5₁ (fun y₁ => by rw [w4₁] at y₁; exact absurd y₁ (by decide)) (fun J₁ f₁ => ?_)⟩
  case refine_2 => exact hbad _ _ (by rw [st₁ false zr₁, if_pos rfl]) J₁ M4₁ (flQ_f f₁) (frQ_t (frQ_f f₁) fr5₁)
  have st₁ := st₁ true zr₁
  rw [if_neg (by decide)] at st₁
  have t27₁ := TRS_3 t5₁ g27₁
  have fr27 := frQ_t (frQ_3 (M₁ := M4₁) g27₁) fr5₁
  refine r_next hM₁ t27₁ (fun J6₁ M6₁ t6₁ f6₁ => ?_)
  have i6₁ : J6₁ (m₁ + 3) = whU₁ U₁ w₁ (nI v₁) (nI (tkV₁ B₁ n₁ ((tkN₁ B₁ n₁ lm₁ (tkN₁ B₁ n₁ lm₁ (p₁)))))) (nI (tkV₁ B₁ n₁ ((tkN₁ B₁ n₁ lm₁ (tkN₁ B₁ n₁ lm₁ (tkN₁ B₁ n₁ lm₁ (p₁))))))) := by rw [f6₁.1 _ (by omega), g27₁, mup_vst, i5₁]; rfl
  have fr6₁ := frQ_t (frQ_V f6₁) fr27
  refine r_readExpr (NM₁ := NM₁) hM₁ t6₁ i6₁ hc₁ (fun k₁ pl₁ hp₁ J₁ M₁ fl₁ fr₁ => ⟨fun q₁ => absurd q₁ (by decide), fun _ => ?_⟩) (fun U'₁ p'₁ hp₁ h5₁ J₁ M₁ tJ₁ iJ₁ lJ₁ fJ₁ h10₁ => ⟨fun _ I33₁ g33₁ => ?_, fun q₁ => absurd q₁ (by decide)⟩)
  · exact hbad k₁ pl₁ (by rw [st₁]; exact hp₁) J₁ M₁ fl₁ (frQ_t fr₁ fr6₁)
  · have u5'₁ : U'₁ 5 = nI w₁ := by rw [h5₁, whU₁, vst_n (by omega), vst_n (by omega), vst_n (by omega)]; exact u5₁
    rw [show ix (5 : Int32) = 5 from rfl, iJ₁, u5'₁, nI_1] at g33₁
    refine hok₁ _ _ _ (by rw [st₁]; exact hp₁) rfl I33₁ M₁ (TRS_3 tJ₁ g33₁) (by rw [g33₁, mup_vst, iJ₁]) ?_ (frQ_t (frQ_3 (M₁ := M₁) g33₁) (frQ_t fJ₁ fr6₁)) ?_
    · rw [lJ₁ _ (by omega), f6₁.2.2 _ (by omega), f4₁.2.2 _ (by omega), l2₁ _ (by omega), f1₁.2.2 _ (by omega)]
    · rw [g33₁, mup_ne (by omega), h10₁, frV_10 f6₁, g27₁, mup_ne (by omega), g5₁, mup_ne (by omega), frV_10 f4₁, mup_k (by decide), g3₁, mup_ne (by omega), f210, frV_10 f1₁]
end RG₁
