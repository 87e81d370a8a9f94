/-! ===== the reference: searches, sums, and the calls that ask for rows and scopes ===== -/
theorem le_pred {a₁ : Int32} {t₁ : Nat} (h1₁ : 1 ≤ t₁) (h2₁ : t₁ < 2147483648) : a₁ ≤ nI t₁ - 1 ↔ a₁ < nI t₁ := by
  rw [show (1 : Int32) = nI 1 from rfl, subN h1₁, Int32.le_iff_toInt_le, Int32.lt_iff_toInt_lt, nI_toInt h2₁, nI_toInt (by omega)]
  omega
theorem isInB_lt {a₁ f₁ : Int32} {t₁ : Nat} (h1₁ : 1 ≤ t₁) (h2₁ : t₁ < 2147483648) : isInB a₁ f₁ (nI t₁ - 1) = true ↔ f₁ ≤ a₁ ∧ a₁ < nI t₁ := by
  rw [isInB_iff, le_pred h1₁ h2₁]
section RG₁
variable {K₁ N₁ : MK} {I₁ : MI} {L₁ : ML} {R₁ : MR} {m₁ : Nat}
theorem r_whereOf {v₁ a₁ : Int32} {Q₁ : Int32 → Prop} (hM₁ : MDL K₁ N₁ R₁ m₁) (hU₁ : WFc (I₁ (m₁ + 2))) (hw₁ : WFw (I₁ (m₁ + 2))) (h₁ : Q₁ (whrS (I₁ (m₁ + 2)) v₁ a₁)) : w_X12_whereOf m₁ v₁ a₁ K₁ N₁ I₁ L₁ R₁ Q₁ := by
  delta w_X12_whereOf w_X12_whereOf_2
  have u5₁ := hU₁.2.2.2.2.1
  have hz₁ := hU₁.2.2.2.2.2.2
  refine ⟨fun n₁ x0₁ x1₁ x2₁ x3₁ => x0₁ = m₁ ∧ x1₁ = v₁ ∧ x2₁ = a₁ ∧ ∃ i₁, i₁ ≤ ix (I₁ (m₁ + 2) 5) ∧ n₁ = ix (I₁ (m₁ + 2) 5) - i₁ ∧ x3₁ = nI i₁ ∧ whrS (I₁ (m₁ + 2)) v₁ a₁ = whrB (I₁ (m₁ + 2)) v₁ a₁ (ix (I₁ (m₁ + 2) 5) - i₁) i₁, ⟨_, rfl, rfl, rfl, 0, Nat.zero_le _, rfl, rfl, rfl⟩, ?_⟩
  rintro n₁ x0₁ x1₁ x2₁ x3₁ ⟨rfl, rfl, rfl, i₁, hi₁, hm₁, rfl, hq₁⟩
  refine ⟨hM₁.k, _, hM₁.r14, hM₁.k2, by rw [hM₁.n2]; exact vp_c (by decide) (by decide), fun e₁ => ?_, fun e₁ => ?_⟩
  · rw [ix_c (by decide), u5₁.1, leN (by omega) (by omega)] at e₁
    rw [hq₁, show ix (I₁ (x0₁ + 2) 5) - i₁ = 0 by omega] at h₁; exact h₁
  · rw [ix_c (by decide), u5₁.1, leN (by omega) (by omega)] at e₁
    obtain ⟨c₁, f₁, t₁, h1₁, h2₁, h3₁, h4₁, h5₁, h6₁⟩ := hw₁ i₁ (by omega)
    rw [show ix (I₁ (x0₁ + 2) 5) - i₁ = (ix (I₁ (x0₁ + 2) 5) - (i₁ + 1)) + 1 by omega, whrB] at hq₁
    have back : ∀ {z₁ : Int32}, z₁ = nI i₁ + 1 → ¬ (I₁ (x0₁ + 2) (134 + i₁) = x1₁ ∧ I₁ (x0₁ + 2) (150 + i₁) ≤ x2₁ ∧ x2₁ < I₁ (x0₁ + 2) (166 + i₁)) → ∃ n1₁, n1₁ < n₁ ∧ (fun n₁ y0₁ y1₁ y2₁ y3₁ => y0₁ = x0₁ ∧ y1₁ = x1₁ ∧ y2₁ = x2₁ ∧ ∃ i₁, i₁ ≤ ix (I₁ (x0₁ + 2) 5) ∧ n₁ = ix (I₁ (x0₁ + 2) 5) - i₁ ∧ y3₁ = nI i₁ ∧ whrS (I₁ (x0₁ + 2)) x1₁ x2₁ = whrB (I₁ (x0₁ + 2)) x1₁ x2₁ (ix (I₁ (x0₁ + 2) 5) - i₁) i₁) n1₁ x0₁ x1₁ x2₁ z₁ := fun ev₁ g₁ => ⟨ix (I₁ (x0₁ + 2) 5) - (i₁ + 1), by omega, rfl, rfl, rfl, i₁ + 1, by omega, rfl, by rw [ev₁]; exact nI_1 i₁, by rw [if_neg g₁] at hq₁; exact hq₁⟩
    rw [hM₁.n2]
    rw [ix_cn (by omega), ix_cn (by omega), ix_cn (by omega)]
    refine ⟨vp_cn (by omega) (by decide), fun g₁ z₁ ev₁ => back ev₁ (fun y₁ => g₁ y₁.1), fun g₁ => ⟨vp_cn (by omega) (by decide), vp_cn (by omega) (by decide), r_isIn ?_⟩⟩
    rw [h4₁]
    have key₁ := isInB_lt (a₁ := x2₁) (f₁ := I₁ (x0₁ + 2) (150 + i₁)) (t₁ := t₁) (by omega) (by omega)
    refine ⟨fun g2₁ z₁ ev₁ => back ev₁ (fun y₁ => ?_), fun g2₁ => ?_⟩
    · rw [h4₁] at y₁
      rw [key₁.mpr y₁.2] at g2₁; cases g2₁
    · rw [if_pos ⟨g₁, by rw [h4₁]; exact key₁.mp g2₁⟩] at hq₁
      rw [hq₁] at h₁; exact h₁
theorem r_wheresOf {v₁ : Int32} {Q₁ : Int32 → Prop} (hM₁ : MDL K₁ N₁ R₁ m₁) (hU₁ : WFc (I₁ (m₁ + 2))) (h₁ : Q₁ (pcnt (I₁ (m₁ + 2)) v₁ (ix (I₁ (m₁ + 2) 5)))) : w_X12_wheresOf m₁ v₁ K₁ N₁ I₁ L₁ R₁ Q₁ := by
  delta w_X12_wheresOf w_X12_wheresOf_4
  have u5₁ := hU₁.2.2.2.2.1
  refine ⟨fun n₁ x0₁ x1₁ x2₁ x3₁ => x0₁ = m₁ ∧ x1₁ = v₁ ∧ ∃ i₁, i₁ ≤ ix (I₁ (m₁ + 2) 5) ∧ n₁ = ix (I₁ (m₁ + 2) 5) - i₁ ∧ x3₁ = nI i₁ ∧ x2₁ = pcnt (I₁ (m₁ + 2)) v₁ i₁, ⟨_, rfl, rfl, 0, Nat.zero_le _, rfl, rfl, rfl⟩, ?_⟩
  rintro n₁ x0₁ x1₁ x2₁ x3₁ ⟨rfl, rfl, i₁, hi₁, hm₁, rfl, rfl⟩
  refine ⟨hM₁.k, _, hM₁.r14, hM₁.k2, by rw [hM₁.n2]; exact vp_c (by decide) (by decide), fun e₁ => ?_, fun e₁ => ?_⟩
  · rw [ix_c (by decide), u5₁.1, leN (by omega) (by omega)] at e₁
    rw [show ix (I₁ (x0₁ + 2) 5) = i₁ by omega] at h₁; exact h₁
  · rw [ix_c (by decide), u5₁.1, leN (by omega) (by omega)] at e₁
    rw [hM₁.n2, ix_cn (by omega)]
    refine ⟨vp_cn (by omega) (by decide), fun g₁ z₁ ev₁ => ⟨ix (I₁ (x0₁ + 2) 5) - (i₁ + 1), by omega, rfl, rfl, i₁ + 1, by omega, rfl, by rw [ev₁]; exact nI_1 i₁, ?_⟩, fun g₁ y₁ ey₁ z₁ ev₁ => ⟨ix (I₁ (x0₁ + 2) 5) - (i₁ + 1), by omega, rfl, rfl, i₁ + 1, by omega, rfl, by rw [ev₁]; exact nI_1 i₁, ?_⟩⟩
    · rw [pcnt, if_neg g₁]
    · rw [pcnt, if_pos g₁, ey₁]
theorem r_isScope {s₁ : Int32} {Q₁ : Bool → Prop} (hM₁ : MDL K₁ N₁ R₁ m₁) (hU₁ : WFc (I₁ (m₁ + 2))) (h₁ : Q₁ (inN s₁ (ix (I₁ (m₁ + 2) 2)))) : w_X12_isScope m₁ s₁ K₁ N₁ I₁ L₁ R₁ Q₁ := by
  delta w_X12_isScope
  have u2₁ := hU₁.2.1
  refine ⟨hM₁.k, _, hM₁.r14, hM₁.k2, by rw [hM₁.n2]; exact vp_c (by decide) (by decide), r_isIn ?_⟩
  rw [ix_c (by decide), isInB_pred u2₁.1 (by omega)]; exact h₁
theorem r_isVar {s₁ : Int32} {Q₁ : Bool → Prop} (hM₁ : MDL K₁ N₁ R₁ m₁) (hU₁ : WFc (I₁ (m₁ + 2))) (h₁ : Q₁ (inN s₁ (ix (I₁ (m₁ + 2) 4)))) : w_X12_isVar m₁ s₁ K₁ N₁ I₁ L₁ R₁ Q₁ := by
  delta w_X12_isVar
  have u2₁ := hU₁.2.2.2.1
  refine ⟨hM₁.k, _, hM₁.r14, hM₁.k2, by rw [hM₁.n2]; exact vp_c (by decide) (by decide), r_isIn ?_⟩
  rw [ix_c (by decide), isInB_pred u2₁.1 (by omega)]; exact h₁
theorem r_outerOf {s₁ : Nat} {Q₁ : Int32 → Prop} (hM₁ : MDL K₁ N₁ R₁ m₁) (hU₁ : WFc (I₁ (m₁ + 2))) (hs₁ : s₁ < 10) (h₁ : Q₁ (nicS (I₁ (m₁ + 2)) (I₁ (m₁ + 2) (66 + s₁)) (nI s₁))) : w_X12_outerOf m₁ (nI s₁) K₁ N₁ I₁ L₁ R₁ Q₁ := by
  delta w_X12_outerOf
  refine ⟨hM₁.k, _, hM₁.r14, hM₁.k2, by rw [hM₁.n2]; exact vp_cn (by omega) (by decide), ?_⟩
  rw [ix_cn (by omega)]
  exact r_nextInChain hM₁ hU₁ (Or.inr ⟨s₁, hs₁, rfl⟩) h₁
theorem r_addressOf {line k₁ : Int32} {Q₁ : Int32 → MI → Prop} (hM₁ : MDL K₁ N₁ R₁ m₁) (hU₁ : WFc (I₁ (m₁ + 2))) (h₁ : Q₁ (adrS (I₁ (m₁ + 2)) line k₁) (mup I₁ m₁ 0 0)) : w_X12_addressOf m₁ line k₁ K₁ N₁ I₁ L₁ R₁ Q₁ := by
  delta w_X12_addressOf
  refine ⟨hM₁.k, fun I2₁ eI₁ => ?_⟩
  have g2₁ : I2₁ (m₁ + 2) = I₁ (m₁ + 2) := by rw [eI₁]; exact mup_ne (by omega)
  rw [← eI₁, ← g2₁] at h₁
  rw [← g2₁] at hU₁
  have u1₁ := hU₁.1
  delta w_X12_addressOf_10
  refine ⟨fun n₁ x0₁ x1₁ x2₁ x3₁ x4₁ J2₁ => x0₁ = m₁ ∧ x1₁ = line ∧ x2₁ = k₁ ∧ J2₁ = I2₁ ∧ ∃ i₁ c₁, i₁ ≤ ix (I2₁ (m₁ + 2) 1) ∧ n₁ = ix (I2₁ (m₁ + 2) 1) - i₁ ∧ x4₁ = nI i₁ ∧ x3₁ = nI c₁ ∧ adrS (I2₁ (m₁ + 2)) line k₁ = adrF (I2₁ (m₁ + 2)) line k₁ (ix (I2₁ (m₁ + 2) 1) - i₁) i₁ c₁, ⟨_, rfl, rfl, rfl, rfl, 0, 0, Nat.zero_le _, rfl, rfl, rfl, rfl⟩, ?_⟩
  rintro n₁ x0₁ x1₁ x2₁ x3₁ x4₁ J2₁ ⟨rfl, rfl, rfl, rfl, i₁, c₁, hi₁, hm₁, rfl, rfl, hq₁⟩
  refine ⟨hM₁.k, _, hM₁.r14, hM₁.k2, by rw [hM₁.n2]; exact vp_c (by decide) (by decide), fun e₁ => ?_, fun e₁ => ?_⟩
  · rw [ix_c (by decide), u1₁.1, leN (by omega) (by omega)] at e₁
    rw [hq₁, show ix (J2₁ (x0₁ + 2) 1) - i₁ = 0 by omega] at h₁; exact h₁
  · rw [ix_c (by decide), u1₁.1, leN (by omega) (by omega)] at e₁
    rw [show ix (J2₁ (x0₁ + 2) 1) - i₁ = (ix (J2₁ (x0₁ + 2) 1) - (i₁ + 1)) + 1 by omega, adrF] at hq₁
    rw [hM₁.n2, ix_cn (by omega), ix_cn (by omega)]
    refine ⟨vp_cn (by omega) (by decide), fun g₁ => ⟨fun g2₁ y₁ ey₁ z₁ ev₁ => ⟨ix (J2₁ (x0₁ + 2) 1) - (i₁ + 1), by omega, rfl, rfl, rfl, rfl, i₁ + 1, c₁ + 1, by omega, rfl, by rw [ev₁]; exact nI_1 i₁, by rw [ey₁]; exact nI_1 c₁, ?_⟩, fun g2₁ => ⟨vp_cn (by omega) (by decide), ?_⟩⟩, fun g₁ z₁ ev₁ => ⟨ix (J2₁ (x0₁ + 2) 1) - (i₁ + 1), by omega, rfl, rfl, rfl, rfl, i₁ + 1, c₁, by omega, rfl, by rw [ev₁]; exact nI_1 i₁, rfl, ?_⟩⟩
    · rw [if_pos g₁, if_neg g2₁] at hq₁; exact hq₁
    · rw [if_pos g₁, if_pos g2₁] at hq₁
      rw [hq₁] at h₁; exact h₁
    · rw [if_neg g₁] at hq₁; exact hq₁
theorem r_longest {Q₁ : Int32 → MI → Prop} (hM₁ : MDL K₁ N₁ R₁ m₁) (hU₁ : WFc (I₁ (m₁ + 2))) (h₁ : Q₁ (lgst (I₁ (m₁ + 2)) 250).1 (mup I₁ m₁ 0 0)) : w_X12_longest m₁ K₁ N₁ I₁ L₁ R₁ Q₁ := by
  delta w_X12_longest
  refine ⟨hM₁.k, fun I2₁ eI₁ => ?_⟩
  have g2₁ : I2₁ (m₁ + 2) = I₁ (m₁ + 2) := by rw [eI₁]; exact mup_ne (by omega)
  rw [← eI₁, ← g2₁] at h₁
  rw [← g2₁] at hU₁
  have u1₁ := hU₁.1
  delta w_X12_longest_11
  refine ⟨fun n₁ x0₁ x1₁ x2₁ x3₁ J2₁ => x0₁ = m₁ ∧ J2₁ = I2₁ ∧ ∃ l₁, l₁ ≤ 250 ∧ n₁ = 250 - l₁ ∧ x3₁ = nI (l₁ + 1) ∧ x1₁ = (lgst (I2₁ (m₁ + 2)) l₁).1 ∧ x2₁ = (lgst (I2₁ (m₁ + 2)) l₁).2, ⟨_, rfl, rfl, 0, Nat.zero_le _, rfl, rfl, rfl, rfl⟩, ?_⟩
  rintro n₁ x0₁ x1₁ x2₁ x3₁ J2₁ ⟨rfl, rfl, l₁, hl₁, hm₁, rfl, rfl, rfl⟩
  refine ⟨fun e₁ => ?_, fun e₁ => ?_⟩
  · rw [show (250 : Int32) = nI 250 from rfl, ltN (by omega) (by omega)] at e₁
    rw [show 250 = l₁ by omega] at h₁; exact h₁
  · rw [show (250 : Int32) = nI 250 from rfl, ltN (by omega) (by omega)] at e₁
    delta w_X12_longest_24
    refine ⟨fun n₁ y0₁ y1₁ y2₁ y3₁ y4₁ y5₁ J3₁ => y0₁ = x0₁ ∧ J3₁ = J2₁ ∧ y1₁ = (lgst (J2₁ (x0₁ + 2)) l₁).1 ∧ y2₁ = (lgst (J2₁ (x0₁ + 2)) l₁).2 ∧ y3₁ = nI (l₁ + 1) ∧ ∃ i₁, i₁ ≤ ix (J2₁ (x0₁ + 2) 1) ∧ n₁ = ix (J2₁ (x0₁ + 2) 1) - i₁ ∧ y5₁ = nI i₁ ∧ y4₁ = lsum (J2₁ (x0₁ + 2)) (nI (l₁ + 1)) i₁, ⟨_, rfl, rfl, rfl, rfl, rfl, 0, Nat.zero_le _, rfl, rfl, rfl⟩, ?_⟩
    rintro n2₁ y0₁ y1₁ y2₁ y3₁ y4₁ y5₁ J3₁ ⟨e0₁, eJ₁, e1₁, e2₁, e3₁, i₁, hi₁, hn2₁, e5₁, e4₁⟩
    subst e0₁; subst eJ₁; subst e3₁; subst e5₁
    refine ⟨hM₁.k, _, hM₁.r14, hM₁.k2, by rw [hM₁.n2]; exact vp_c (by decide) (by decide), fun g₁ => ?_, fun g₁ => ?_⟩
    · rw [ix_c (by decide), u1₁.1, leN (by omega) (by omega)] at g₁
      have ei₁ : ix (J3₁ (y0₁ + 2) 1) = i₁ := by omega
      refine ⟨fun g2₁ v₁ ev₁ => ⟨250 - (l₁ + 1), by omega, rfl, rfl, l₁ + 1, by omega, rfl, by rw [ev₁]; exact nI_1 _, ?_, ?_⟩, fun g2₁ v₁ ev₁ => ⟨250 - (l₁ + 1), by omega, rfl, rfl, l₁ + 1, by omega, rfl, by rw [ev₁]; exact nI_1 _, ?_, ?_⟩⟩
      · rw [e2₁, e4₁] at g2₁; rw [lgst, ei₁, if_pos g2₁]
      · rw [e2₁, e4₁] at g2₁; rw [lgst, ei₁, if_pos g2₁, e4₁]
      · rw [e2₁, e4₁] at g2₁; rw [lgst, ei₁, if_neg g2₁, e1₁]
      · rw [e2₁, e4₁] at g2₁; rw [lgst, ei₁, if_neg g2₁, e2₁]
    · rw [ix_c (by decide), u1₁.1, leN (by omega) (by omega)] at g₁
      rw [hM₁.n2, ix_cn (by omega), ix_cn (by omega)]
      refine ⟨vp_cn (by omega) (by decide), fun g2₁ v₁ ev₁ => ⟨ix (J3₁ (y0₁ + 2) 1) - (i₁ + 1), by omega, rfl, rfl, e1₁, e2₁, rfl, i₁ + 1, by omega, rfl, by rw [ev₁]; exact nI_1 i₁, ?_⟩, fun g2₁ => r_rowEnd hM₁ hU₁ (by omega) ⟨vp_cn (by omega) (by decide), fun w₁ ew₁ v₁ ev₁ => ⟨ix (J3₁ (y0₁ + 2) 1) - (i₁ + 1), by omega, rfl, rfl, e1₁, e2₁, rfl, i₁ + 1, by omega, rfl, by rw [ev₁]; exact nI_1 i₁, ?_⟩⟩⟩
      · rw [lsum, if_neg g2₁]; exact e4₁
      · rw [lsum, if_pos g2₁, ew₁, e4₁]
end RG₁
