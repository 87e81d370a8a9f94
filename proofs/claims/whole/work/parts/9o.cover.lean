/-! ===== value and cover: the reference's; the greatest common divisor ===== -/
section UN₁
variable {K₁ N₁ : MK} {I₁ : MI} {L₁ : ML} {R₁ : MR} {m₁ u₁ : Nat} {U₁ V₁ : Nat → Int32}
def vlN₁ (U₁ V₁ : Nat → Int32) (v₁ a₁ : Int32) : Prop := inN v₁ (ix (U₁ 4)) = true ∧ adr U₁ a₁ = true ∧ (lokS U₁ V₁ v₁ a₁).1 = 0
theorem whrB_in {v₁ a₁ : Int32} : ∀ f₁ i₁, whrB U₁ v₁ a₁ f₁ i₁ = -1 ∨ ∃ j₁, i₁ ≤ j₁ ∧ j₁ < i₁ + f₁ ∧ whrB U₁ v₁ a₁ f₁ i₁ = nI j₁ ∧ U₁ (134 + j₁) = v₁ ∧ U₁ (150 + j₁) ≤ a₁ ∧ a₁ < U₁ (166 + j₁)
  | 0, _ => Or.inl rfl
  | f₁ + 1, i₁ => by
    rw [whrB]
    split
    · rename_i z₁
      exact Or.inr ⟨i₁, Nat.le_refl _, by omega, rfl, z₁⟩
    · rcases whrB_in f₁ (i₁ + 1) with h₁ | ⟨j₁, h1₁, h2₁, h3₁, h4₁⟩
      · exact Or.inl h₁
      · exact Or.inr ⟨j₁, by omega, by omega, h3₁, h4₁⟩
/-- what is there has an address of the unit -/
theorem lok_adr (hU₁ : WFc U₁) (hw₁ : WFw U₁) {v₁ a₁ : Int32} (h₁ : (lokS U₁ V₁ v₁ a₁).1 = 0) : adr U₁ a₁ = true := by
  have hn₁ := hU₁.2.2.2.2.1.2
  have h0₁ := hU₁.2.2.2.2.2
  rcases whrB_in (U₁ := U₁) (v₁ := v₁) (a₁ := a₁) (ix (U₁ 5)) 0 with e₁ | ⟨j₁, -, hj₁, e₁, -, g1₁, g2₁⟩
  · rw [lokS, if_pos (show whrS U₁ v₁ a₁ = -1 from e₁)] at h₁
    exact absurd h₁ (by decide)
  · obtain ⟨q₁, f₁, t₁, -, -, ef₁, et₁, ht₁, h3₁⟩ := hw₁ j₁ (by omega)
    rw [ef₁] at g1₁
    rw [et₁] at g2₁
    have g0₁ : (0 : Int32) ≤ a₁ := Int32.le_trans (le0n (by omega)) g1₁
    obtain ⟨b₁, hb₁, rfl⟩ := nI_of (Int32.not_lt.mpr g0₁)
    rw [ltN hb₁ (by omega)] at g2₁
    exact adr_nI hU₁ (by omega)
theorem r_value {v₁ a₁ : Int32} {Q₁ : Int32 → MI → Prop} (hM₁ : MDL K₁ N₁ R₁ m₁) (hU₁ : WFc (I₁ (m₁ + 2))) (hw₁ : WFw (I₁ (m₁ + 2))) (ht₁ : WFvt (I₁ (m₁ + 2))) (hT₁ : WFt₁ (I₁ (m₁ + 2))) (ho₁ : WFo₁ (I₁ (m₁ + 2))) (hv₁ : WFm₁ (macV (I₁ (m₁ + 2))))
    (hno₁ : ¬ vlN₁ (I₁ (m₁ + 2)) (macV (I₁ (m₁ + 2))) v₁ a₁ → ∀ J₁, J₁ m₁ 0 = 1 → (∀ b₁, b₁ ≠ m₁ → b₁ ≠ m₁ + 14 → J₁ b₁ = I₁ b₁) → (∀ y₁, y₁ ≠ 0 → y₁ ≠ 30 → y₁ ≠ 31 → J₁ m₁ y₁ = I₁ m₁ y₁) → Q₁ 0 J₁)
    (h₁ : vlN₁ (I₁ (m₁ + 2)) (macV (I₁ (m₁ + 2))) v₁ a₁ → ∀ J₁, J₁ m₁ 0 = 0 → (∀ b₁, b₁ ≠ m₁ → b₁ ≠ m₁ + 14 → J₁ b₁ = I₁ b₁) → (∀ y₁, y₁ ≠ 0 → y₁ ≠ 30 → y₁ ≠ 31 → J₁ m₁ y₁ = I₁ m₁ y₁) → Q₁ (lokS (I₁ (m₁ + 2)) (macV (I₁ (m₁ + 2))) v₁ a₁).2 J₁) : w_X12_value m₁ v₁ a₁ K₁ N₁ I₁ L₁ R₁ Q₁ := by
  delta w_X12_value
  refine ⟨hM₁.k, fun I2₁ g2₁ => ?_⟩
  have f2₁ : ∀ b₁, b₁ ≠ m₁ → I2₁ b₁ = I₁ b₁ := fun b₁ hb₁ => by rw [g2₁, mup_ne hb₁]
  have u2₁ : I2₁ (m₁ + 2) = I₁ (m₁ + 2) := f2₁ _ (by omega)
  have x2₁ : ∀ y₁, y₁ ≠ 0 → I2₁ m₁ y₁ = I₁ m₁ y₁ := fun y₁ hy₁ => by rw [g2₁, mup_k hy₁]
  have ref₁ : ∀ J₁ : MI, (∀ b₁, b₁ ≠ m₁ → b₁ ≠ m₁ + 14 → J₁ b₁ = I₁ b₁) → (∀ y₁, y₁ ≠ 0 → y₁ ≠ 30 → y₁ ≠ 31 → J₁ m₁ y₁ = I₁ m₁ y₁) → ¬ vlN₁ (I₁ (m₁ + 2)) (macV (I₁ (m₁ + 2))) v₁ a₁ → w_X12_refuse m₁ K₁ N₁ J₁ L₁ R₁ (fun r₁ I5₁ => Q₁ r₁ I5₁) := fun J₁ j1₁ j2₁ z₁ => ⟨hM₁.k, fun I3₁ g3₁ => hno₁ z₁ I3₁ (by rw [g3₁, mup_at]) (fun b₁ h1₁ h2₁ => by rw [g3₁, mup_ne h1₁, j1₁ b₁ h1₁ h2₁]) (fun y₁ h1₁ h2₁ h3₁ => by rw [g3₁, mup_k h1₁, j2₁ y₁ h1₁ h2₁ h3₁])⟩
  refine r_isVar hM₁ (by rw [u2₁]; exact hU₁) ?_
  rw [u2₁]
  refine ⟨fun e₁ => ref₁ I2₁ (fun b₁ h1₁ _ => f2₁ b₁ h1₁) (fun y₁ h1₁ _ _ => x2₁ y₁ h1₁) (fun z₁ => by rw [z₁.1] at e₁; cases e₁), fun e₁ => r_isAddress hM₁ ?_⟩
  rw [u2₁]
  refine ⟨fun e2₁ => r_valueOf hM₁ (by rw [u2₁]; exact hU₁) (by rw [u2₁]; exact hw₁) (by rw [u2₁]; exact ht₁) (by rw [u2₁]; exact hT₁) (by rw [u2₁]; exact ho₁) (by rw [u2₁]; exact hv₁) (fun J₁ r₁ fr₁ e3₁ e4₁ => ?_), fun e2₁ => ref₁ I2₁ (fun b₁ h1₁ _ => f2₁ b₁ h1₁) (fun y₁ h1₁ _ _ => x2₁ y₁ h1₁) (fun z₁ => by rw [z₁.2.1] at e2₁; cases e2₁)⟩
  rw [u2₁] at e3₁ e4₁
  have fJ₁ : ∀ b₁, b₁ ≠ m₁ → b₁ ≠ m₁ + 14 → J₁ b₁ = I₁ b₁ := fun b₁ h1₁ h2₁ => by rw [fr₁.1 b₁ h1₁ h2₁, f2₁ b₁ h1₁]
  have xJ₁ : ∀ y₁, y₁ ≠ 0 → y₁ ≠ 30 → y₁ ≠ 31 → J₁ m₁ y₁ = I₁ m₁ y₁ := fun y₁ h1₁ h2₁ h3₁ => by rw [fr₁.2 y₁ h2₁ h3₁, x2₁ y₁ h1₁]
  rw [e3₁]
  refine ⟨fun z₁ => ref₁ J₁ fJ₁ xJ₁ (fun y₁ => z₁ y₁.2.2), fun z₁ => ?_⟩
  rw [e4₁ z₁]
  exact h₁ ⟨e₁, e2₁, z₁⟩ J₁ (by rw [fr₁.2 0 (by decide) (by decide), g2₁, mup_at]) fJ₁ xJ₁
/-- how many addresses a var's wheres have -/
theorem covB_n (hU₁ : WFc U₁) (hw₁ : WFw U₁) (v₁ : Int32) : ∀ k₁, k₁ ≤ ix (U₁ 5) → ∃ n₁, n₁ ≤ 256 * k₁ ∧ covB U₁ v₁ k₁ = nI n₁
  | 0, _ => ⟨0, by omega, rfl⟩
  | k₁ + 1, hk₁ => by
    have h0₁ := hU₁.2.2.2.2.2
    obtain ⟨n₁, hn₁, e₁⟩ := covB_n hU₁ hw₁ v₁ k₁ (by omega)
    obtain ⟨q₁, f₁, t₁, -, -, ef₁, et₁, ht₁, h3₁⟩ := hw₁ k₁ (by omega)
    rw [covB]
    split
    · rw [e₁, ef₁, et₁, subN (by omega), addN]
      exact ⟨n₁ + (t₁ - f₁), by omega, rfl⟩
    · exact ⟨n₁, by omega, e₁⟩
theorem s_commonDivisor {a₁ b₁ : Nat} {Q₁ : Int32 → Prop} (ha₁ : a₁ < 2147483648) (hb₁ : b₁ ≤ 900) (h₁ : Q₁ (nI (Nat.gcd a₁ b₁))) : w_X11_commonDivisor (nI a₁) (nI b₁) K₁ N₁ I₁ L₁ R₁ Q₁ := by
  delta w_X11_commonDivisor w_X11_commonDivisor_7
  refine ⟨fun n1₁ y2₁ y3₁ y4₁ => ∃ p₁ q₁ i₁, y2₁ = nI p₁ ∧ y3₁ = nI q₁ ∧ y4₁ = nI i₁ ∧ p₁ < 2147483648 ∧ q₁ + i₁ ≤ 900 ∧ n1₁ = q₁ ∧ Nat.gcd p₁ q₁ = Nat.gcd a₁ b₁, ⟨b₁, a₁, b₁, 0, rfl, rfl, rfl, ha₁, by omega, rfl, rfl⟩, ?_⟩
  rintro n1₁ y2₁ y3₁ y4₁ ⟨p₁, q₁, i₁, rfl, rfl, rfl, hp₁, hq₁, rfl, hg₁⟩
  rw [show (1000 : Int32) = nI 1000 from rfl, leN (by omega) (by omega), show (0 : Int32) = nI 0 from rfl, leN (by omega) (by omega), eqN (by omega) (by omega)]
  refine ⟨fun z₁ => by omega, fun _ => ⟨fun z₁ => ?_, fun z₁ => ⟨by omega, fun v2₁ g2₁ v3₁ g3₁ => ⟨p₁ % n1₁, Nat.mod_lt _ (by omega), n1₁, p₁ % n1₁, i₁ + 1, rfl, ?_, by rw [g3₁, nI_1], by omega, ?_, rfl, ?_⟩⟩⟩⟩
  · rw [show n1₁ = 0 by omega, Nat.gcd_zero_right] at hg₁
    rw [hg₁]; exact h₁
  · rw [g2₁, pk_rem hp₁ (by omega) (by omega)]
  · have := Nat.mod_lt p₁ (show n1₁ > 0 by omega)
    omega
  · rw [← hg₁, Nat.gcd_comm, ← Nat.gcd_rec, Nat.gcd_comm]
theorem r_common {a₁ b₁ : Nat} {Q₁ : Int32 → Prop} (ha₁ : a₁ < 2147483648) (hb₁ : b₁ < 2147483648) (h₁ : Q₁ (nI (Nat.gcd a₁ b₁))) : w_X12_common (nI a₁) (nI b₁) K₁ N₁ I₁ L₁ R₁ Q₁ := by
  delta w_X12_common w_X12_common_4
  refine ⟨fun n1₁ y2₁ y3₁ => ∃ p₁ q₁, y2₁ = nI p₁ ∧ y3₁ = nI q₁ ∧ p₁ < 2147483648 ∧ q₁ < 2147483648 ∧ n1₁ = q₁ ∧ Nat.gcd p₁ q₁ = Nat.gcd a₁ b₁, ⟨b₁, a₁, b₁, rfl, rfl, ha₁, hb₁, rfl, rfl⟩, ?_⟩
  rintro n1₁ y2₁ y3₁ ⟨p₁, q₁, rfl, rfl, hp₁, hq₁, rfl, hg₁⟩
  rw [show (0 : Int32) = nI 0 from rfl, eqN (by omega) (by omega)]
  refine ⟨fun z₁ => ?_, fun z₁ => ⟨z₁, fun v2₁ g2₁ => ⟨p₁ % n1₁, Nat.mod_lt _ (by omega), n1₁, p₁ % n1₁, rfl, ?_, hq₁, ?_, rfl, ?_⟩⟩⟩
  · rw [z₁, Nat.gcd_zero_right] at hg₁
    rw [hg₁]; exact h₁
  · rw [g2₁, pk_rem hp₁ (by omega) (by omega)]
  · have := Nat.mod_lt p₁ (show n1₁ > 0 by omega)
    omega
  · rw [← hg₁, Nat.gcd_comm, ← Nat.gcd_rec, Nat.gcd_comm]
/-- cover's answer -/
def cvA₁ (U₁ : Nat → Int32) (v₁ w₁ : Int32) : Int32 :=
  nI ((if w₁ = 0 then ix (covB U₁ v₁ (ix (U₁ 5))) else ix (widS U₁ (ix (U₁ (114 + ix v₁))))) / Nat.gcd (ix (covB U₁ v₁ (ix (U₁ 5)))) (ix (widS U₁ (ix (U₁ (114 + ix v₁))))))
theorem wid_n (hU₁ : WFc U₁) (hs₁ : WFs U₁) {s₁ : Nat} (h₁ : s₁ < ix (U₁ 2)) : ∃ n₁, 1 ≤ n₁ ∧ n₁ ≤ 256 ∧ widS U₁ s₁ = nI n₁ := by
  have h0₁ := hU₁.2.2.2.2.2
  obtain ⟨f₁, t₁, c₁, ef₁, et₁, -, h1₁, h2₁, -⟩ := hs₁ s₁ h₁
  exact ⟨t₁ - f₁, by omega, by omega, by rw [widS, ef₁, et₁, subN (by omega)]⟩
theorem r_cover {v₁ w₁ : Int32} {Q₁ : Int32 → MI → Prop} (hM₁ : MDL K₁ N₁ R₁ m₁) (hU₁ : WFc (I₁ (m₁ + 2))) (hs₁ : WFs (I₁ (m₁ + 2))) (hw₁ : WFw (I₁ (m₁ + 2))) (hvh₁ : WFvh (I₁ (m₁ + 2)))
    (hno₁ : ¬ (inN v₁ (ix (I₁ (m₁ + 2) 4)) = true ∧ inN w₁ 2 = true) → Q₁ 0 (mup (mup I₁ m₁ 0 0) m₁ 0 1))
    (h₁ : inN v₁ (ix (I₁ (m₁ + 2) 4)) = true → inN w₁ 2 = true → Q₁ (cvA₁ (I₁ (m₁ + 2)) v₁ w₁) (mup I₁ m₁ 0 0)) : w_X12_cover m₁ v₁ w₁ K₁ N₁ I₁ L₁ R₁ Q₁ := by
  delta w_X12_cover
  refine ⟨hM₁.k, fun I2₁ g2₁ => ?_⟩
  rw [← g2₁] at hno₁ h₁
  have u2₁ : I2₁ (m₁ + 2) = I₁ (m₁ + 2) := by rw [g2₁, mup_ne (by omega)]
  refine r_isVar hM₁ (by rw [u2₁]; exact hU₁) ?_
  rw [u2₁]
  refine ⟨fun e₁ => ⟨hM₁.k, fun I3₁ g3₁ => by rw [g3₁]; exact hno₁ (fun z₁ => by rw [z₁.1] at e₁; cases e₁)⟩, fun e₁ => r_isIn ?_⟩
  rw [show isInB w₁ 0 1 = inN w₁ 2 from isInB_lit 1 (by decide)]
  refine ⟨fun e2₁ => ?_, fun e2₁ => ⟨hM₁.k, fun I3₁ g3₁ => by rw [g3₁]; exact hno₁ (fun z₁ => by rw [z₁.2] at e2₁; cases e2₁)⟩⟩
  replace h₁ := h₁ e₁ e2₁
  have n4₁ := hU₁.2.2.2.1.2
  have n5₁ := hU₁.2.2.2.2.1
  have n2₁ := hU₁.2.1.2
  obtain ⟨k₁, hk₁, rfl⟩ := inN_t e₁ (by omega)
  obtain ⟨s₁, es₁, hs2₁⟩ := hvh₁ k₁ hk₁
  obtain ⟨q5₁, hq5₁⟩ : ∃ q₁, q₁ = ix (I₁ (m₁ + 2) 5) := ⟨_, rfl⟩
  rw [← hq5₁] at n5₁
  obtain ⟨A₁, hA₁, eA₁⟩ := covB_n hU₁ hw₁ (nI k₁) (ix (I₁ (m₁ + 2) 5)) (Nat.le_refl _)
  obtain ⟨B₁, hB1₁, hB2₁, eB₁⟩ := wid_n hU₁ hs₁ hs2₁
  rw [← hq5₁] at eA₁ hA₁
  rw [cvA₁, ix_nI (by omega), es₁, ix_nI (by omega), ← hq5₁, eA₁, eB₁, ix_nI (by omega), ix_nI (by omega)] at h₁
  delta w_X12_cover_32
  refine ⟨fun n1₁ y0₁ y1₁ y2₁ y3₁ y4₁ I1₁ => y0₁ = m₁ ∧ y1₁ = nI k₁ ∧ y2₁ = w₁ ∧ I1₁ = I2₁ ∧ ∃ i₁, i₁ ≤ q5₁ ∧ n1₁ = q5₁ - i₁ ∧ y4₁ = nI i₁ ∧ y3₁ = covB (I₁ (m₁ + 2)) (nI k₁) i₁, ⟨_, rfl, rfl, rfl, rfl, 0, Nat.zero_le _, rfl, rfl, rfl⟩, ?_⟩
  rintro n1₁ y0₁ y1₁ y2₁ y3₁ y4₁ I1₁ ⟨rfl, rfl, rfl, rfl, i₁, hi₁, rfl, rfl, rfl⟩
  refine ⟨hM₁.k, _, hM₁.r14, hM₁.k2, by rw [hM₁.n2]; exact vp_c (by decide) (by decide), ?_⟩
  rw [ix_c (by decide), u2₁, n5₁.1, leN (by omega) (by omega)]
  have gp₁ : 0 < Nat.gcd A₁ B₁ := Nat.gcd_pos_of_pos_right _ (by omega)
  have gl₁ : Nat.gcd A₁ B₁ ≤ B₁ := Nat.gcd_le_right _ (by omega)
  refine ⟨fun z₁ => ?_, fun z₁ => ?_⟩
  · rw [show i₁ = q5₁ by omega, eA₁]
    refine ⟨by rw [hM₁.n2]; exact vp_cn (by omega) (by decide), ?_⟩
    rw [ix_cn (by omega), es₁]
    refine r_widthOf hM₁ (by omega) ?_
    rw [u2₁, eB₁]
    delta w_X12_fraction
    refine ⟨fun f₁ => r_common (by omega) (by omega) ⟨?_, ?_⟩, fun f₁ => r_common (by omega) (by omega) ⟨?_, ?_⟩⟩
    · rw [show (0 : Int32) = nI 0 from rfl, eqN (by omega) (by omega)]; omega
    · rw [if_neg f₁] at h₁
      rw [pk_div (by omega) gp₁ (by omega)]; exact h₁
    · rw [show (0 : Int32) = nI 0 from rfl, eqN (by omega) (by omega)]; omega
    · rw [if_pos f₁] at h₁
      rw [pk_div (by omega) gp₁ (by omega)]; exact h₁
  · refine ⟨by rw [hM₁.n2]; exact vp_cn (by omega) (by decide), ?_⟩
    rw [ix_cn (by omega)]
    refine ⟨fun f₁ v15₁ g15₁ => ⟨_, Nat.sub_lt_sub_left (by omega) (Nat.lt_succ_self i₁), rfl, rfl, rfl, rfl, i₁ + 1, by omega, rfl, by rw [g15₁, nI_1], by rw [covB, if_neg f₁]⟩, fun f₁ => ⟨by rw [hM₁.n2]; exact vp_cn (by omega) (by decide), by rw [hM₁.n2]; exact vp_cn (by omega) (by decide), fun v18₁ g18₁ v19₁ g19₁ => ⟨_, Nat.sub_lt_sub_left (by omega) (Nat.lt_succ_self i₁), rfl, rfl, rfl, rfl, i₁ + 1, by omega, rfl, by rw [g19₁, nI_1], ?_⟩⟩⟩
    rw [g18₁, ix_cn (by omega), ix_cn (by omega), covB, if_pos f₁]
end UN₁
