/-! ===== odds: both sides ===== -/
def oddB (U₁ V₁ : Nat → Int32) (v₁ s₁ : Int32) : Nat → Nat
  | 0 => 0
  | i₁ + 1 => if (lokS U₁ (drI₁ U₁ V₁ (s₁ + nI i₁) 10).1 v₁ ((drI₁ U₁ V₁ (s₁ + nI i₁) 10).1 0)).1 = 0 then oddB U₁ V₁ v₁ s₁ i₁ + 1 else oddB U₁ V₁ v₁ s₁ i₁
section UN₁
variable {U₁ U'₁ V₁ : Nat → Int32}
theorem whrB_cg (g₁ : agU₁ U'₁ U₁) (v₁ a₁ : Int32) : ∀ f₁ i₁, i₁ + f₁ ≤ 16 → whrB U'₁ v₁ a₁ f₁ i₁ = whrB U₁ v₁ a₁ f₁ i₁
  | 0, _, _ => rfl
  | f₁ + 1, i₁, h₁ => by rw [whrB, whrB, g₁ (134 + i₁) (by omega), g₁ (150 + i₁) (by omega), g₁ (166 + i₁) (by omega), whrB_cg g₁ v₁ a₁ f₁ (i₁ + 1) (by omega)]
theorem opsB_cg {c₁ c'₁ : Nat → Int32} : ∀ f₁ i₁ (T₁ : Nat → Int32) (d₁ : Nat), (∀ j₁, j₁ < i₁ + f₁ → c'₁ j₁ = c₁ j₁) → opsB V₁ c'₁ f₁ i₁ T₁ d₁ = opsB V₁ c₁ f₁ i₁ T₁ d₁
  | 0, _, _, _, _ => by rw [opsB, opsB]
  | f₁ + 1, i₁, T₁, d₁, h₁ => by
    rw [opsB, opsB, h₁ i₁ (by omega), opsB_cg f₁ (i₁ + 1) _ _ (fun j₁ hj₁ => h₁ j₁ (by omega))]
theorem wrdS_cg (g₁ : agU₁ U'₁ U₁) (hU₁ : WFc U₁) (ho₁ : WFo₁ U₁) {w₁ : Nat} (hw₁ : w₁ < ix (U₁ 5)) : wrdS U'₁ V₁ w₁ = wrdS U₁ V₁ w₁ := by
  have n5₁ := hU₁.2.2.2.2.1.2
  rw [wrdS, wrdS, g₁ (182 + w₁) (by omega), g₁ (198 + w₁) (by omega)]
  rcases ho₁ w₁ hw₁ with ⟨k2₁, -⟩ | ⟨-, n₁, hn₁, en₁, -⟩
  · rw [if_pos k2₁, if_pos k2₁]
  · rw [en₁, ix_nI (by omega), opsB_cg n₁ 0 _ 0 (fun j₁ hj₁ => g₁ (214 + 8 * w₁ + j₁) (by omega))]
theorem lokS_cg (g₁ : agU₁ U'₁ U₁) (hU₁ : WFc U₁) (hw₁ : WFw U₁) (ht₁ : WFvt U₁) (ho₁ : WFo₁ U₁) (v₁ a₁ : Int32) : lokS U'₁ V₁ v₁ a₁ = lokS U₁ V₁ v₁ a₁ := by
  have n5₁ := hU₁.2.2.2.2.1.2
  have n4₁ := hU₁.2.2.2.1.2
  have n3₁ := hU₁.2.2.1.2
  have e0₁ : whrS U'₁ v₁ a₁ = whrS U₁ v₁ a₁ := by rw [whrS, whrS, g₁ 5 (by decide), whrB_cg g₁ v₁ a₁ _ 0 (by omega)]
  rw [lokS, lokS, e0₁]
  by_cases e₁ : whrS U₁ v₁ a₁ = -1
  · rw [if_pos e₁, if_pos e₁]
  · rw [if_neg e₁, if_neg e₁]
    obtain ⟨w₁, -, hw5₁, e1₁⟩ := (whrB_or U₁ v₁ a₁ (ix (U₁ 5)) 0).resolve_left e₁
    have e1₁ : whrS U₁ v₁ a₁ = nI w₁ := e1₁
    have hw5₁ : w₁ < ix (U₁ 5) := by omega
    have ev₁ := (whrB_at U₁ v₁ a₁ (ix (U₁ 5)) 0 w₁ (by omega) (by omega) e1₁).1
    obtain ⟨v0₁, -, -, ev0₁, hv4₁, -⟩ := hw₁ w₁ hw5₁
    have ev1₁ : v₁ = nI v0₁ := by rw [← ev₁, ev0₁]
    obtain ⟨t₁, et₁, ht3₁⟩ := ht₁ v0₁ hv4₁
    rw [e1₁, ix_nI (by omega), wrdS_cg g₁ hU₁ ho₁ hw5₁, bitS, bitS, ev1₁, ix_nI (by omega), g₁ (124 + v0₁) (by omega), et₁, ix_nI (by omega), g₁ (96 + t₁) (by omega), g₁ (102 + t₁) (by omega), g₁ (108 + t₁) (by omega)]
theorem WFm_of (h₁ : WFv₁ U₁ V₁) : WFm₁ V₁ := h₁.2.1
end UN₁
section UN₁
variable {K₁ N₁ : MK} {I₁ : MI} {L₁ : ML} {R₁ : MR} {x₁ : Nat} {U₁ V₁ : Nat → Int32} {W₁ : Nat → Int64}
theorem s_odds {v₁ k₁ s₁ : Int32} {Q₁ : Int32 → MI → Prop} (hX₁ : PDL K₁ N₁ R₁ x₁) (hV₁ : MACD I₁ (x₁ + 19) V₁) (hu₁ : UD I₁ L₁ (x₁ + 3) U₁ W₁) (hU₁ : WFc U₁) (hr₁ : WFr U₁) (hs₁ : WFs U₁) (hw₁ : WFw U₁) (ht₁ : WFvt U₁) (hT₁ : WFt₁ U₁) (ho₁ : WFo₁ U₁) (hv₁ : WFv₁ U₁ V₁)
    (hno₁ : (inN v₁ (ix (U₁ 4)) && isInB k₁ 1 30) = false → Q₁ (-1) I₁)
    (h₁ : ∀ n₁, inN v₁ (ix (U₁ 4)) = true → k₁ = nI n₁ → n₁ ≤ 30 → ∀ J₁, (∀ b₁, b₁ < x₁ + 23 ∨ x₁ + 27 ≤ b₁ → b₁ ≠ x₁ + 28 → b₁ ≠ x₁ + 29 → b₁ ≠ x₁ + 30 → J₁ b₁ = I₁ b₁) → Q₁ (nI (oddB U₁ V₁ v₁ s₁ n₁)) J₁) : w_X11_odds x₁ v₁ k₁ s₁ K₁ N₁ I₁ L₁ R₁ Q₁ := by
  delta w_X11_odds
  refine ⟨hX₁.k, _, hX₁.r_unit, hX₁.un.1, _, hX₁.un.2.2.2.2.1, hX₁.un.2.2.2.2.2.2.2.2.2.1.1, s_has hX₁.un.2.2.2.2.2.2.2.2.2.1 hu₁.2.2.2.2.1.1 ⟨fun e₁ => hno₁ (by rw [e₁]; rfl), fun e₁ => s_isIn ⟨fun z₁ => ?_, fun z₁ => hno₁ (by rw [e₁, z₁]; rfl)⟩⟩⟩
  obtain ⟨n₁, n1₁, n30₁, rfl⟩ := isIn_1 (n₁ := 30) (by decide) z₁
  have h₁ := h₁ n₁ e₁ rfl n30₁
  delta w_X11_odds_32
  refine ⟨fun n1₁ y0₁ y1₁ y2₁ y3₁ y4₁ y5₁ I1₁ => y0₁ = x₁ ∧ y1₁ = v₁ ∧ y2₁ = nI n₁ ∧ y3₁ = s₁ ∧ ∃ i₁, i₁ ≤ n₁ ∧ n1₁ = n₁ - i₁ ∧ y4₁ = nI (oddB U₁ V₁ v₁ s₁ i₁) ∧ y5₁ = nI i₁ ∧ (∀ b₁, b₁ < x₁ + 23 ∨ x₁ + 27 ≤ b₁ → b₁ ≠ x₁ + 28 → b₁ ≠ x₁ + 29 → b₁ ≠ x₁ + 30 → I1₁ b₁ = I₁ b₁), ⟨n₁, rfl, rfl, rfl, rfl, 0, by omega, rfl, by rw [oddB]; rfl, rfl, fun b₁ _ _ _ _ => rfl⟩, ?_⟩
  rintro n1₁ y0₁ y1₁ y2₁ y3₁ y4₁ y5₁ I1₁ ⟨rfl, rfl, rfl, rfl, i₁, hi₁, rfl, rfl, rfl, fr₁⟩
  rw [leN (by omega) (by omega)]
  refine ⟨fun e₁ => ?_, fun e₁ => ⟨hX₁.k, _, hX₁.r_trial, _, hX₁.r_machine, hX₁.tri.1, s_copyFrom hX₁.tri hX₁.mac (MACD_fr hV₁ (fun b₁ hb₁ => fr₁ b₁ (by omega) (by omega) (by omega) (by omega))) (by omega) (fun J1₁ g1₁ b1₁ => ⟨_, hX₁.r_draws, _, hX₁.r_unit, hX₁.dra, ?_⟩)⟩⟩
  · rw [show n₁ = i₁ by omega] at h₁; exact h₁ I1₁ fr₁
  · have c1₁ : ∀ b₁, b₁ < y0₁ + 23 ∨ y0₁ + 27 ≤ b₁ → b₁ ≠ y0₁ + 28 → b₁ ≠ y0₁ + 29 → b₁ ≠ y0₁ + 30 → J1₁ b₁ = I₁ b₁ := fun b₁ q1₁ q2₁ q3₁ q4₁ => by rw [b1₁ b₁ (by omega) (by omega) (by omega) (by omega), fr₁ b₁ q1₁ q2₁ q3₁ q4₁]
    refine s_doDeeds (n₁ := 10) hX₁.dra hX₁.tri hX₁.un (by omega) (by omega) g1₁ (UD_fr hu₁ (fun b₁ q1₁ q2₁ => c1₁ b₁ (by omega) (by omega) (by omega) (by omega))) hU₁ hr₁ hs₁ hv₁ (by decide) (fun J2₁ g2₁ b2₁ _ => ⟨_, hX₁.r_finder, hX₁.fin, ?_⟩)
    have c2₁ : ∀ b₁, b₁ < y0₁ + 23 ∨ y0₁ + 27 ≤ b₁ → b₁ ≠ y0₁ + 28 → b₁ ≠ y0₁ + 29 → b₁ ≠ y0₁ + 30 → J2₁ b₁ = I₁ b₁ := fun b₁ q1₁ q2₁ q3₁ q4₁ => by rw [b2₁ b₁ q4₁ (by omega), c1₁ b₁ q1₁ q2₁ q3₁ q4₁]
    have wv₁ := drI_v (s₁ := y3₁ + nI i₁) hU₁ hr₁ hv₁ 10
    rw [g2₁.1]
    refine s_look hX₁.fil hX₁.tri g2₁ wv₁.2.1 (by omega) hX₁.un (by omega) (UD_fr hu₁ (fun b₁ q1₁ q2₁ => c2₁ b₁ (by omega) (by omega) (by omega) (by omega))) hU₁ hw₁ ht₁ hT₁ ho₁ (fun J3₁ b3₁ _ => ?_)
    have c3₁ : ∀ b₁, b₁ < y0₁ + 23 ∨ y0₁ + 27 ≤ b₁ → b₁ ≠ y0₁ + 28 → b₁ ≠ y0₁ + 29 → b₁ ≠ y0₁ + 30 → J3₁ b₁ = I₁ b₁ := fun b₁ q1₁ q2₁ q3₁ q4₁ => by rw [b3₁ b₁ q2₁ q3₁, c2₁ b₁ q1₁ q2₁ q3₁ q4₁]
    refine ⟨fun z₁ v22₁ g22₁ => ⟨n₁ - (i₁ + 1), by omega, rfl, rfl, rfl, rfl, i₁ + 1, by omega, rfl, by rw [oddB, if_neg z₁], by rw [g22₁, nI_1], c3₁⟩, fun z₁ v23₁ g23₁ v24₁ g24₁ => ⟨n₁ - (i₁ + 1), by omega, rfl, rfl, rfl, rfl, i₁ + 1, by omega, rfl, by rw [oddB, if_pos z₁, g23₁, nI_1], by rw [g24₁, nI_1], c3₁⟩⟩
end UN₁
section RG₁
variable {K₁ N₁ : MK} {I₁ : MI} {L₁ : ML} {R₁ : MR} {m₁ : Nat}
theorem r_odds {v₁ k₁ s₁ : Int32} {Q₁ : Int32 → MI → Prop} (hM₁ : MDL K₁ N₁ R₁ m₁) (hU₁ : WFc (I₁ (m₁ + 2))) (hr₁ : WFr (I₁ (m₁ + 2))) (hw₁ : WFw (I₁ (m₁ + 2))) (ht₁ : WFvt (I₁ (m₁ + 2))) (hT₁ : WFt₁ (I₁ (m₁ + 2))) (ho₁ : WFo₁ (I₁ (m₁ + 2))) (hv₁ : WFv₁ (I₁ (m₁ + 2)) (macV (I₁ (m₁ + 2))))
    (wcg₁ : ∀ U'₁ : Nat → Int32, agU₁ U'₁ (I₁ (m₁ + 2)) → WFr U'₁ ∧ WFw U'₁ ∧ WFvt U'₁ ∧ WFt₁ U'₁ ∧ WFo₁ U'₁)
    (hno₁ : (inN v₁ (ix (I₁ (m₁ + 2) 4)) && isInB k₁ 1 30) = false → Q₁ (-1) (mup I₁ m₁ 0 0))
    (h₁ : ∀ n₁, inN v₁ (ix (I₁ (m₁ + 2) 4)) = true → k₁ = nI n₁ → n₁ ≤ 30 → ∀ J₁, J₁ (m₁ + 2) = I₁ (m₁ + 2) → (∀ y₁, y₁ ≠ 48 → y₁ ≠ 0 → y₁ ≠ 30 → y₁ ≠ 31 → J₁ m₁ y₁ = I₁ m₁ y₁) → (∀ z₁, z₁ ≠ m₁ → z₁ ≠ m₁ + 2 → z₁ ≠ m₁ + 7 → z₁ ≠ m₁ + 14 → J₁ z₁ = I₁ z₁) → Q₁ (nI (oddB (I₁ (m₁ + 2)) (macV (I₁ (m₁ + 2))) v₁ s₁ n₁)) J₁) : w_X12_odds m₁ v₁ k₁ s₁ K₁ N₁ I₁ L₁ R₁ Q₁ := by
  delta w_X12_odds
  refine ⟨hM₁.k, fun I2₁ g2₁ => ?_⟩
  have b2₁ : ∀ z₁, z₁ ≠ m₁ → I2₁ z₁ = I₁ z₁ := fun z₁ hz₁ => by rw [g2₁, mup_ne hz₁]
  have y2₁ : ∀ y₁, y₁ ≠ 0 → I2₁ m₁ y₁ = I₁ m₁ y₁ := fun y₁ hy₁ => by rw [g2₁, mup_k hy₁]
  have u2₁ : I2₁ (m₁ + 2) = I₁ (m₁ + 2) := b2₁ _ (by omega)
  rw [← g2₁] at hno₁
  refine r_isVar hM₁ (by rw [u2₁]; exact hU₁) ?_
  rw [u2₁]
  refine ⟨fun e₁ => hno₁ (by rw [e₁]; rfl), fun e₁ => r_isIn ⟨fun z₁ => ?_, fun z₁ => hno₁ (by rw [e₁, z₁]; rfl)⟩⟩
  obtain ⟨n₁, n1₁, n30₁, rfl⟩ := isIn_1 (n₁ := 30) (by decide) z₁
  have h₁ := h₁ n₁ e₁ rfl n30₁
  refine ⟨_, hM₁.r19, r_save (f₁ := 0) hM₁ (by omega) hM₁.k7 hM₁.n7 (by decide) (by decide) (fun I6₁ p1₁ _ p3₁ => ?_)⟩
  rw [u2₁] at p1₁
  delta w_X12_odds_40
  refine ⟨fun n1₁ y0₁ y1₁ y2₁ y3₁ y4₁ y5₁ I1₁ => y0₁ = m₁ ∧ y1₁ = v₁ ∧ y2₁ = nI n₁ ∧ y3₁ = s₁ ∧ ∃ i₁, i₁ ≤ n₁ ∧ n1₁ = n₁ - i₁ ∧ y4₁ = nI (oddB (I₁ (m₁ + 2)) (macV (I₁ (m₁ + 2))) v₁ s₁ i₁) ∧ y5₁ = nI i₁ ∧ I1₁ (m₁ + 2) = I₁ (m₁ + 2) ∧ (∀ j₁, j₁ < 83 → I1₁ (m₁ + 7) j₁ = macV (I₁ (m₁ + 2)) j₁) ∧ (∀ y₁, y₁ ≠ 48 → y₁ ≠ 0 → y₁ ≠ 30 → y₁ ≠ 31 → I1₁ m₁ y₁ = I₁ m₁ y₁) ∧ (∀ z₁, z₁ ≠ m₁ → z₁ ≠ m₁ + 2 → z₁ ≠ m₁ + 7 → z₁ ≠ m₁ + 14 → I1₁ z₁ = I₁ z₁), ⟨n₁, rfl, rfl, rfl, rfl, 0, by omega, rfl, by rw [oddB]; rfl, rfl, by rw [p3₁ _ (by omega), u2₁], fun j₁ hj₁ => by have := p1₁ j₁ hj₁; rw [Nat.zero_add] at this; exact this, fun y₁ _ h0₁ _ _ => by rw [p3₁ m₁ (by omega), y2₁ y₁ h0₁], fun z₁ h1₁ h2₁ h3₁ h4₁ => by rw [p3₁ z₁ h3₁, b2₁ z₁ h1₁]⟩, ?_⟩
  rintro n1₁ y0₁ y1₁ y2₁ y3₁ y4₁ y5₁ I1₁ ⟨rfl, rfl, rfl, rfl, i₁, hi₁, rfl, rfl, rfl, q1₁, q2₁, q3₁, q4₁⟩
  rw [leN (by omega) (by omega)]
  refine ⟨fun e₁ => ?_, fun e₁ => ⟨hM₁.k, r_drawDeeds (n₁ := 10) hM₁ (by rw [q1₁]; exact hU₁) (by rw [q1₁]; exact hr₁) (by rw [q1₁]; exact hv₁) (by decide) (fun I8₁ t1₁ t2₁ t3₁ => ?_)⟩⟩
  · rw [show n₁ = i₁ by omega] at h₁; exact h₁ I1₁ q1₁ q3₁ q4₁
  · rw [q1₁] at t1₁
    have wv₁ := drI_v (s₁ := y3₁ + nI i₁) hU₁ hr₁ hv₁ 10
    have ag₁ : agU₁ (I8₁ (y0₁ + 2)) (I₁ (y0₁ + 2)) := by rw [t1₁]; exact ovr_ag
    have mV₁ : macV (I8₁ (y0₁ + 2)) = (drI₁ (I₁ (y0₁ + 2)) (macV (I₁ (y0₁ + 2))) (y3₁ + nI i₁) 10).1 := by rw [t1₁]; exact mac_ovr2 (fun k₁ hk₁ => drI_hi hU₁ hr₁ hv₁ hk₁ 10)
    obtain ⟨-, c2₁, c3₁, c4₁, c5₁⟩ := wcg₁ _ ag₁
    delta w_X12_isThere
    refine ⟨hM₁.k, _, hM₁.r14, hM₁.k2, by rw [hM₁.n2]; exact vp_c (by decide) (by decide), r_valueOf hM₁ (WFc_cg ag₁ hU₁) c2₁ c3₁ c4₁ c5₁ (by rw [mV₁]; exact wv₁.2.1) (fun J₁ r₁ g₁ a31₁ _ => ?_)⟩
    have e0₁ : I8₁ (y0₁ + 2) (ix 342) = (drI₁ (I₁ (y0₁ + 2)) (macV (I₁ (y0₁ + 2))) (y3₁ + nI i₁) 10).1 0 := by rw [← mV₁]; rfl
    rw [e0₁, mV₁, lokS_cg ag₁ hU₁ hw₁ ht₁ ho₁] at a31₁
    rw [a31₁]
    have j7₁ : ∀ j₁, j₁ < 83 → J₁ (y0₁ + 7) (0 + j₁) = macV (I₁ (y0₁ + 2)) j₁ := fun j₁ hj₁ => by rw [Nat.zero_add, g₁.1 _ (by omega) (by omega), t3₁ _ (by omega) (by omega), q2₁ j₁ hj₁]
    have fin₁ : ∀ (P₁ : MI → Prop), (∀ J2₁, J2₁ (y0₁ + 2) = I₁ (y0₁ + 2) → (∀ j₁, j₁ < 83 → J2₁ (y0₁ + 7) j₁ = macV (I₁ (y0₁ + 2)) j₁) → (∀ y₁, y₁ ≠ 48 → y₁ ≠ 0 → y₁ ≠ 30 → y₁ ≠ 31 → J2₁ y0₁ y₁ = I₁ y0₁ y₁) → (∀ z₁, z₁ ≠ y0₁ → z₁ ≠ y0₁ + 2 → z₁ ≠ y0₁ + 7 → z₁ ≠ y0₁ + 14 → J2₁ z₁ = I₁ z₁) → P₁ J2₁) → w_X12_comeBack y0₁ (y0₁ + 7) 0 K₁ N₁ J₁ L₁ R₁ P₁ := by
      intro P₁ hP₁
      refine r_comeBack (f₁ := 0) hM₁ (by omega) hM₁.k7 hM₁.n7 (by decide) (by decide) (fun J2₁ g1₁ g2₁ => hP₁ J2₁ ?_ (fun j₁ hj₁ => ?_) (fun y₁ h1₁ h2₁ h3₁ h4₁ => ?_) (fun z₁ h1₁ h2₁ h3₁ h4₁ => ?_))
      · rw [g1₁, frW_U g₁, t1₁, ovr_ovr]
        exact ovr_id j7₁
      · rw [g2₁ _ (by omega)]
        have := j7₁ j₁ hj₁
        rw [Nat.zero_add] at this
        exact this
      · rw [g2₁ y0₁ (by omega), g₁.2 y₁ h3₁ h4₁, t2₁ y₁ h1₁, q3₁ y₁ h1₁ h2₁ h3₁ h4₁]
      · rw [g2₁ z₁ h2₁, g₁.1 z₁ h1₁ h4₁, t3₁ z₁ h1₁ h2₁, q4₁ z₁ h1₁ h2₁ h3₁ h4₁]
    refine ⟨fun z₁ => ⟨fun _ => ⟨_, hM₁.r19, fin₁ _ (fun J2₁ z1₁ z2₁ z3₁ z4₁ v13₁ g13₁ => ⟨n₁ - (i₁ + 1), by omega, rfl, rfl, rfl, rfl, i₁ + 1, by omega, rfl, by rw [oddB, if_neg z₁], by rw [g13₁, nI_1], z1₁, z2₁, z3₁, z4₁⟩)⟩, fun y₁ => absurd y₁ (by decide)⟩, fun z₁ => ⟨fun y₁ => absurd y₁ (by decide), fun _ v14₁ g14₁ => ⟨_, hM₁.r19, fin₁ _ (fun J2₁ z1₁ z2₁ z3₁ z4₁ v17₁ g17₁ => ⟨n₁ - (i₁ + 1), by omega, rfl, rfl, rfl, rfl, i₁ + 1, by omega, rfl, by rw [oddB, if_pos z₁, g14₁, nI_1], by rw [g17₁, nI_1], z1₁, z2₁, z3₁, z4₁⟩)⟩⟩⟩
end RG₁
