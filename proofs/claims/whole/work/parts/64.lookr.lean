/-! ===== the reference's wordAt, valueOf ===== -/
def frW₁ (m₁ : Nat) (J₁ I₁ : MI) : Prop := (∀ b₁, b₁ ≠ m₁ → b₁ ≠ m₁ + 14 → J₁ b₁ = I₁ b₁) ∧ ∀ y₁, y₁ ≠ 30 → y₁ ≠ 31 → J₁ m₁ y₁ = I₁ m₁ y₁
section RG₁
variable {K₁ N₁ : MK} {I₁ : MI} {L₁ : ML} {R₁ : MR} {m₁ : Nat}
theorem r_wordAt {w₁ : Nat} {Q₁ : Int32 → MI → Prop} (hM₁ : MDL K₁ N₁ R₁ m₁) (hU₁ : WFc (I₁ (m₁ + 2))) (ho₁ : WFo₁ (I₁ (m₁ + 2))) (hw₁ : w₁ < ix (I₁ (m₁ + 2) 5))
    (h₁ : ∀ J₁, frW₁ m₁ J₁ I₁ → J₁ m₁ 31 = (wrdS (I₁ (m₁ + 2)) (macV (I₁ (m₁ + 2))) w₁).1 → Q₁ (wrdS (I₁ (m₁ + 2)) (macV (I₁ (m₁ + 2))) w₁).2 J₁) : w_X12_wordAt m₁ (nI w₁) K₁ N₁ I₁ L₁ R₁ Q₁ := by
  delta w_X12_wordAt
  have n5₁ := hU₁.2.2.2.2.1.2
  refine ⟨hM₁.k, fun I2₁ g2₁ => ⟨_, hM₁.r14, hM₁.k2, by rw [hM₁.n2]; exact vp_cn (by omega) (by decide), ?_⟩⟩
  have u2₁ : I2₁ (m₁ + 2) = I₁ (m₁ + 2) := by rw [g2₁, mup_ne (by omega)]
  have a2₁ : I2₁ m₁ 31 = 0 := by rw [g2₁, mup_at]
  have f2₁ : frW₁ m₁ I2₁ I₁ := ⟨fun b₁ h1₁ h2₁ => by rw [g2₁, mup_ne h1₁], fun y₁ h1₁ h2₁ => by rw [g2₁, mup_k h2₁]⟩
  rw [u2₁, ix_cn (by omega), ix_cn (by omega)]
  refine ⟨fun k2₁ I6₁ g6₁ => ?_, fun k2₁ => ?_⟩
  · rcases ho₁ w₁ hw₁ with ⟨z₁, -⟩ | ⟨-, n₁, hn₁, en₁, D₁, D0₁, hs₁, hD1₁⟩
    · exact absurd z₁ k2₁
    have hle₁ := opW_le D0₁ (fun j₁ hj₁ => (hs₁ j₁ hj₁).2.2)
    delta w_X12_wordAt_46
    refine ⟨fun n1₁ y0₁ y1₁ y2₁ I1₁ => y0₁ = m₁ ∧ y1₁ = nI w₁ ∧ ∃ i₁ T₁, i₁ ≤ n₁ ∧ n1₁ = n₁ - i₁ ∧ y2₁ = nI i₁ ∧ STR₁ I1₁ m₁ T₁ (D₁ i₁) ∧ frW₁ m₁ I1₁ I₁ ∧ I1₁ m₁ 31 = 0 ∧ opsB (macV (I₁ (m₁ + 2))) (fun j₁ => I₁ (m₁ + 2) (214 + 8 * w₁ + j₁)) (n₁ - i₁) i₁ T₁ (D₁ i₁) = opsB (macV (I₁ (m₁ + 2))) (fun j₁ => I₁ (m₁ + 2) (214 + 8 * w₁ + j₁)) n₁ 0 (fun _ => 0) 0, ⟨n₁, rfl, rfl, 0, (fun _ => 0), by omega, rfl, rfl, ⟨by rw [D0₁, g6₁, mup_at]; rfl, fun j₁ hj₁ => absurd hj₁ (by omega)⟩, ⟨fun b₁ h1₁ h2₁ => by rw [g6₁, mup_ne h1₁, f2₁.1 b₁ h1₁ h2₁], fun y₁ h1₁ h2₁ => by rw [g6₁, mup_k h1₁, f2₁.2 y₁ h1₁ h2₁]⟩, by rw [g6₁, mup_k (by decide)]; exact a2₁, by rw [D0₁]; rfl⟩, ?_⟩
    rintro n1₁ y0₁ y1₁ y2₁ I1₁ ⟨rfl, rfl, i₁, T₁, hi₁, rfl, rfl, hS₁, hfr₁, h31₁, hB₁⟩
    have u1₁ : I1₁ (y0₁ + 2) = I₁ (y0₁ + 2) := hfr₁.1 _ (by omega) (by omega)
    refine ⟨hM₁.k, _, hM₁.r14, hM₁.k2, by rw [hM₁.n2]; exact vp_cn (by omega) (by decide), ?_⟩
    rw [u1₁, ix_cn (by omega), en₁, leN (by omega) (by omega)]
    refine ⟨fun e₁ => ⟨_, hM₁.r29, hM₁.k14, ?_⟩, fun e₁ => ?_⟩
    · have ei₁ : i₁ = n₁ := by omega
      subst ei₁
      obtain ⟨d₁, ed₁⟩ : ∃ d₁, D₁ i₁ = d₁ + 1 := ⟨D₁ i₁ - 1, by omega⟩
      rw [Nat.sub_self, ed₁] at hB₁
      rw [ed₁] at hS₁
      have := hle₁ i₁ (by omega)
      rw [hS₁.1, nI_pred, ix_nI (by omega), hM₁.n14, hS₁.2 d₁ (by omega)]
      refine ⟨(vp_nI (by omega)).mpr (by omega), fun v14₁ g14₁ => ⟨by rw [hM₁.n2]; exact vp_cn (by omega) (by decide), ?_⟩⟩
      have hB₁ : some v14₁ = opsB (macV (I₁ (y0₁ + 2))) (fun j₁ => I₁ (y0₁ + 2) (214 + 8 * w₁ + j₁)) i₁ 0 (fun _ => 0) 0 := by rw [← hB₁, g14₁]; rfl
      rw [ix_cn (by omega)]
      refine ⟨fun k1₁ => r_isIn ?_, fun k1₁ => ?_⟩
      · rw [show (63 : Int32) = nI 64 - 1 from by decide, isInB_pred rfl (by decide)]
        refine ⟨fun hi2₁ I17₁ g17₁ => ?_, fun hi2₁ => ?_⟩
        · have ws₁ : wrdS (I₁ (y0₁ + 2)) (macV (I₁ (y0₁ + 2))) w₁ = (3, 0) := by rw [wrdS, if_neg k2₁, en₁, ix_nI (by omega), ← hB₁]; simp only [hi2₁]; rw [if_neg k1₁]; rfl
          rw [ws₁] at h₁
          exact h₁ I17₁ ⟨fun b₁ h1₁ h2₁ => by rw [g17₁, mup_ne h1₁, hfr₁.1 b₁ h1₁ h2₁], fun y₁ h1₁ h2₁ => by rw [g17₁, mup_k h2₁, hfr₁.2 y₁ h1₁ h2₁]⟩ (by rw [g17₁, mup_at])
        · have ws₁ : wrdS (I₁ (y0₁ + 2)) (macV (I₁ (y0₁ + 2))) w₁ = (0, macV (I₁ (y0₁ + 2)) (19 + ix v14₁)) := by rw [wrdS, if_neg k2₁, en₁, ix_nI (by omega), ← hB₁]; simp only [hi2₁]; rw [if_neg k1₁]; rfl
          rw [ws₁] at h₁
          obtain ⟨j₁, hj₁, ej₁⟩ := inN_t hi2₁ (by decide)
          rw [ej₁, ix_cn (by omega), hM₁.n2]
          refine ⟨vp_cn (by omega) (by decide), ?_⟩
          rw [ej₁, ix_nI (by omega)] at h₁
          have := h₁ I1₁ hfr₁ h31₁
          rw [macV, show 342 + (19 + j₁) = 361 + j₁ by omega] at this
          exact this
      · have ws₁ : wrdS (I₁ (y0₁ + 2)) (macV (I₁ (y0₁ + 2))) w₁ = (0, v14₁ &&& 65535) := by rw [wrdS, if_neg k2₁, en₁, ix_nI (by omega), ← hB₁]; simp only []; rw [if_pos k1₁]
        rw [ws₁] at h₁
        exact h₁ I1₁ hfr₁ h31₁
    · have hin₁ : i₁ < n₁ := by omega
      have hdi₁ := hle₁ i₁ (by omega)
      obtain ⟨oc₁, ok₁, od₁⟩ := hs₁ i₁ hin₁
      have e9₁ : (214 : Int32) + (8 : Int32) * nI w₁ + nI i₁ = nI (214 + 8 * w₁ + i₁) := by rw [show (8 : Int32) = nI 8 from rfl, mulN, show (214 : Int32) = nI 214 from rfl, addN, addN]
      rw [e9₁, ix_nI (by omega), hM₁.n2]
      have hB2₁ : opsB (macV (I₁ (y0₁ + 2))) (fun j₁ => I₁ (y0₁ + 2) (214 + 8 * w₁ + j₁)) (n₁ - (i₁ + 1) + 1) i₁ T₁ (D₁ i₁) = opsB (macV (I₁ (y0₁ + 2))) (fun j₁ => I₁ (y0₁ + 2) (214 + 8 * w₁ + j₁)) n₁ 0 (fun _ => 0) 0 := by rw [show n₁ - (i₁ + 1) + 1 = n₁ - i₁ by omega]; exact hB₁
      rw [opsB] at hB2₁
      refine ⟨(vp_nI (by omega)).mpr (by omega), r_doOp hM₁ hS₁ (by omega) oc₁ ok₁ (fun z₁ J₁ g₁ => ⟨fun _ I22₁ g22₁ => ?_, fun y₁ => absurd y₁ (by decide)⟩) (fun z₁ J₁ g1₁ g3₁ => ⟨fun y₁ => absurd y₁ (by decide), fun _ v23₁ g23₁ => ?_⟩)⟩
      · rw [if_pos z₁] at hB2₁
        have ws₁ : wrdS (I₁ (y0₁ + 2)) (macV (I₁ (y0₁ + 2))) w₁ = (2, 0) := by rw [wrdS, if_neg k2₁, en₁, ix_nI (by omega), ← hB2₁]
        rw [ws₁] at h₁
        exact h₁ I22₁ ⟨fun b₁ h1₁ h2₁ => by rw [g22₁, mup_ne h1₁, g₁.1 b₁ h1₁ h2₁, hfr₁.1 b₁ h1₁ h2₁], fun y₁ h1₁ h2₁ => by rw [g22₁, mup_k h2₁, g₁.2 y₁ h1₁, hfr₁.2 y₁ h1₁ h2₁]⟩ (by rw [g22₁, mup_at])
      · rw [if_neg (by rw [z₁]; decide)] at hB2₁
        rw [u1₁] at g1₁
        rw [← od₁] at g1₁ hB2₁
        exact ⟨n₁ - (i₁ + 1), by omega, rfl, rfl, i₁ + 1, _, by omega, rfl, by rw [g23₁, nI_1], g1₁, ⟨fun b₁ h1₁ h2₁ => by rw [g3₁.1 b₁ h1₁ h2₁, hfr₁.1 b₁ h1₁ h2₁], fun y₁ h1₁ h2₁ => by rw [g3₁.2 y₁ h1₁, hfr₁.2 y₁ h1₁ h2₁]⟩, by rw [g3₁.2 31 (by decide)]; exact h31₁, hB2₁⟩
  · rcases ho₁ w₁ hw₁ with ⟨-, r₁, hr₁, er₁⟩ | ⟨k3₁, -⟩
    · rw [er₁, ix_cn (by omega), hM₁.n2]
      have ws₁ : wrdS (I₁ (m₁ + 2)) (macV (I₁ (m₁ + 2))) w₁ = (0, I₁ (m₁ + 2) (353 + r₁)) := by rw [wrdS, if_pos k2₁, er₁, ix_nI (by omega), macV, show 342 + (11 + r₁) = 353 + r₁ by omega]
      rw [ws₁] at h₁
      exact ⟨vp_cn (by omega) (by decide), vp_cn (by omega) (by decide), h₁ I2₁ f2₁ a2₁⟩
    · rw [k2₁] at k3₁; rcases k3₁ with k3₁ | k3₁ <;> exact absurd k3₁ (by decide)
theorem r_valueOf {v₁ a₁ : Int32} {Q₁ : Int32 → MI → Prop} (hM₁ : MDL K₁ N₁ R₁ m₁) (hU₁ : WFc (I₁ (m₁ + 2))) (hw₁ : WFw (I₁ (m₁ + 2))) (ht₁ : WFvt (I₁ (m₁ + 2))) (hT₁ : WFt₁ (I₁ (m₁ + 2))) (ho₁ : WFo₁ (I₁ (m₁ + 2))) (hv₁ : WFm₁ (macV (I₁ (m₁ + 2))))
    (h₁ : ∀ J₁ r₁, frW₁ m₁ J₁ I₁ → J₁ m₁ 31 = (lokS (I₁ (m₁ + 2)) (macV (I₁ (m₁ + 2))) v₁ a₁).1 → ((lokS (I₁ (m₁ + 2)) (macV (I₁ (m₁ + 2))) v₁ a₁).1 = 0 → r₁ = (lokS (I₁ (m₁ + 2)) (macV (I₁ (m₁ + 2))) v₁ a₁).2) → Q₁ r₁ J₁) : w_X12_valueOf m₁ v₁ a₁ K₁ N₁ I₁ L₁ R₁ Q₁ := by
  delta w_X12_valueOf
  have n5₁ := hU₁.2.2.2.2.1.2
  have n4₁ := hU₁.2.2.2.1.2
  have n3₁ := hU₁.2.2.1.2
  refine ⟨hM₁.k, r_whereOf hM₁ hU₁ hw₁ ⟨fun e₁ => ?_, fun e₁ I15₁ g15₁ => ?_⟩⟩
  · obtain ⟨w₁, -, hw5₁, e1₁⟩ := (whrB_or (I₁ (m₁ + 2)) v₁ a₁ (ix (I₁ (m₁ + 2) 5)) 0).resolve_left e₁
    have e1₁ : whrS (I₁ (m₁ + 2)) v₁ a₁ = nI w₁ := e1₁
    have hw5₁ : w₁ < ix (I₁ (m₁ + 2) 5) := by omega
    have ev₁ := (whrB_at (I₁ (m₁ + 2)) v₁ a₁ (ix (I₁ (m₁ + 2) 5)) 0 w₁ (by omega) (by omega) e1₁).1
    obtain ⟨v0₁, -, -, ev0₁, hv4₁, -⟩ := hw₁ w₁ hw5₁
    have ev1₁ : v₁ = nI v0₁ := by rw [← ev₁, ev0₁]
    subst ev1₁
    obtain ⟨t₁, et₁, ht3₁⟩ := ht₁ v0₁ hv4₁
    obtain ⟨f₁, b₁, s₁, ef₁, eb₁, es₁, hb₁, hfb₁, hs₁⟩ := hT₁ t₁ ht3₁
    rw [lokS, e1₁, if_neg (m1_ne (by omega)), ix_nI (by omega), bitS, ix_nI (by omega), et₁, ix_nI (by omega), eb₁, ef₁, es₁] at h₁
    rw [e1₁, ix_cn (by omega)]
    refine ⟨_, hM₁.r14, hM₁.k2, by rw [hM₁.n2]; exact vp_cn (by omega) (by decide), fun v6₁ g6₁ => ?_⟩
    have g6₁ : v6₁ = nI t₁ := g6₁.trans et₁
    subst g6₁
    rw [ix_cn (by omega), eb₁]
    refine ⟨by rw [hM₁.n2]; exact vp_cn (by omega) (by decide), fun v8₁ g8₁ => r_wordAt hM₁ hU₁ ho₁ hw5₁ (fun J₁ g₁ a31₁ => ⟨by rw [hM₁.n2]; exact vp_cn (by omega) (by decide), ?_⟩)⟩
    subst g8₁
    rw [ix_cn (by omega), ix_cn (by omega), g₁.1 (m₁ + 2) (by omega) (by omega), ef₁, es₁, hM₁.n2, show nI b₁ - 1 = nI (b₁ - 1) from subN (by omega)]
    refine fun v12₁ g12₁ => ⟨vp_cn (by omega) (by decide), ?_⟩
    have hq₁ : ∀ r₁, r₁ = bitT (nI f₁) (nI b₁) (nI s₁) (wrdS (I₁ (m₁ + 2)) (macV (I₁ (m₁ + 2))) w₁).2 → Q₁ r₁ J₁ := fun r₁ er₁ => by
      refine h₁ J₁ r₁ g₁ ?_ (fun z₁ => ?_)
      · rw [a31₁]; split
        · rename_i y₁; exact y₁
        · rfl
      · split
        · rw [er₁]
        · rename_i y₁; rw [if_neg y₁] at z₁; exact absurd z₁ y₁
    rw [bitT, ← g12₁, show nI b₁ - 1 = nI (b₁ - 1) from subN (by omega)] at hq₁
    delta w_X12_has
    refine ⟨fun z₁ => hq₁ _ ?_, fun z₁ => ⟨fun z2₁ => ⟨fun _ => hq₁ _ ?_, fun y₁ => absurd y₁ (by decide)⟩, fun z2₁ => ⟨fun y₁ => absurd y₁ (by decide), fun _ => hq₁ _ ?_⟩⟩⟩
    · rw [if_neg (fun y₁ => z₁ y₁.1)]
    · rw [if_neg (fun y₁ => z2₁ y₁.2)]
    · rw [if_pos ⟨z₁, z2₁⟩]
  · rw [lokS, if_pos e₁] at h₁
    exact h₁ I15₁ 0 ⟨fun b₁ h1₁ h2₁ => by rw [g15₁, mup_ne h1₁], fun y₁ h1₁ h2₁ => by rw [g15₁, mup_k h2₁]⟩ (by rw [g15₁, mup_at]) (fun z₁ => absurd z₁ (by decide))
end RG₁
