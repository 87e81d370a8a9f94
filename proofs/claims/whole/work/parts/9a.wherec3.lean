/-! ===== a 'where' line: the class ===== -/
section UN₁
variable {K₁ N₁ : MK} {I₁ : MI} {L₁ : ML} {R₁ : MR} {n₁ lm₁ p₁ x₁ c₁ d₁ w₁ u₁ : Nat} {B₁ : Nat → Nat} {U₁ : Nat → Int32} {NM₁ : Nat → List Nat}
theorem s_readOps {Q₁ : Bool → MI → ML → Prop} (hX₁ : PDL K₁ N₁ R₁ x₁) (hw₁ : w₁ < 16) (hT₁ : TCS₁ K₁ N₁ R₁ I₁ L₁ (x₁ + 1) B₁ n₁ lm₁ p₁) (hP₁ : PLC₁ I₁ x₁ w₁ 0 (fun j₁ => U₁ (214 + 8 * w₁ + j₁))) (hU0₁ : U₁ (182 + w₁) = 0) (h7₁ : isWd B₁ n₁ lm₁ p₁ 7 = false)
    (hbad : ∀ k₁ pl₁, pEnd B₁ n₁ lm₁ (if opN₁ B₁ n₁ lm₁ p₁ = 0 then .inl (1, tkS₁ B₁ n₁ lm₁ p₁) else pOps B₁ n₁ lm₁ NM₁ w₁ 9 U₁ 0 0 p₁) = .inl (k₁, pl₁) → ∀ J₁ M₁, flD₁ x₁ k₁ pl₁ J₁ → frO₁ x₁ w₁ J₁ I₁ M₁ L₁ → Q₁ false J₁ M₁)
    (hok₁ : ∀ U2₁ c2₁ k₁ p'₁, (if opN₁ B₁ n₁ lm₁ p₁ = 0 then .inl (1, tkS₁ B₁ n₁ lm₁ p₁) else pOps B₁ n₁ lm₁ NM₁ w₁ 9 U₁ 0 0 p₁) = .inr (vst₁ (vst₁ U2₁ (182 + w₁) (nI k₁)) 5 (nI (w₁ + 1)), NM₁, p'₁) → k₁ ≤ 1 → opW₁ (fun j₁ => U2₁ (214 + 8 * w₁ + j₁)) c2₁ → c2₁ ≤ 8 → opX₁ w₁ c2₁ U2₁ U₁ → ∀ J₁ M₁, TCS₁ K₁ N₁ R₁ J₁ M₁ (x₁ + 1) B₁ n₁ lm₁ p'₁ → PLC₁ J₁ x₁ w₁ c2₁ (fun j₁ => U2₁ (214 + 8 * w₁ + j₁)) → J₁ (x₁ + 52) (w₁ * 21 + 3) = nI k₁ → frO₁ x₁ w₁ J₁ I₁ M₁ L₁ → J₁ (x₁ + 1) 10 = I₁ (x₁ + 1) 10 → Q₁ true J₁ M₁) : w_X10_readOps (x₁ + 36) (x₁ + 1) (nI w₁) K₁ N₁ I₁ L₁ R₁ Q₁ := by
  have t5₁ := hX₁.urd_u.2.2.2.2.2.2.2.2.2.2
  delta w_X10_readOps
  refine ⟨hX₁.urd, fun I2₁ g2₁ => ⟨_, hX₁.urd_r, hX₁.urd_u.1, _, hX₁.urd_u.2.2.2.2.2.1, t5₁.1, ?_⟩⟩
  have hd2₁ : TD I2₁ (x₁ + 37 + 13) 16 21 (w₁ + 1) := TD.fr hP₁.1 (by rw [g2₁, mup_ne (by omega)])
  refine s_put (c₁ := 3) t5₁ hd2₁ (by omega) (by decide) ?_
  generalize hG₁ : mup I2₁ (x₁ + 37 + 13 + 2) (w₁ * 21 + 3) 0 = I3₁
  have b3₁ : ∀ b₁, b₁ ≠ x₁ + 36 → b₁ ≠ x₁ + 52 → I3₁ b₁ = I₁ b₁ := fun b₁ q1₁ q2₁ => by rw [← hG₁, mup_ne q2₁, g2₁, mup_ne q1₁]
  have c3₁ : ∀ y₁, y₁ ≠ w₁ * 21 + 3 → I3₁ (x₁ + 52) y₁ = I₁ (x₁ + 52) y₁ := fun y₁ hy₁ => by rw [← hG₁, show x₁ + 37 + 13 + 2 = x₁ + 52 from rfl, mup_k hy₁, g2₁, mup_ne (by omega)]
  have e3₁ : I3₁ (x₁ + 52) (w₁ * 21 + 3) = 0 := by rw [← hG₁]; exact mup_at
  have d3₁ : I3₁ (x₁ + 36) 2 = nI 0 := by rw [← hG₁, mup_ne (by omega), g2₁, mup_at]; rfl
  have y3₁ : ∀ y₁, y₁ ≠ 2 → I3₁ (x₁ + 36) y₁ = I₁ (x₁ + 36) y₁ := fun y₁ hy₁ => by rw [← hG₁, mup_ne (by omega), g2₁, mup_k hy₁]
  have f3₁ : frO₁ x₁ w₁ I3₁ I₁ L₁ L₁ := ⟨fun b₁ q1₁ q2₁ q3₁ => b3₁ b₁ q2₁ q3₁, fun _ _ => rfl, y3₁, fun y₁ hy₁ => c3₁ y₁ (by omega)⟩
  have t3₁ : TCS₁ K₁ N₁ R₁ I3₁ L₁ (x₁ + 1) B₁ n₁ lm₁ p₁ := TCS_fr hT₁ (b3₁ _ (by omega) (by omega)) (fun y₁ _ _ => by rw [b3₁ _ (by omega) (by omega)]) rfl
  have p3₁ : PLC₁ I3₁ x₁ w₁ 0 (fun j₁ => U₁ (214 + 8 * w₁ + j₁)) := ⟨TD.fr hP₁.1 (b3₁ _ (by omega) (by omega)), by rw [c3₁ _ (by omega)]; exact hP₁.2.1, fun j₁ hj₁ => absurd hj₁ (Nat.not_lt_zero j₁)⟩
  refine s_readOp hX₁ t3₁ p3₁ hw₁ (by decide) d3₁ (by decide) (fun k₁ pl₁ hp₁ J₁ M₁ fl₁ fr₁ => ⟨fun q₁ => absurd q₁ (by decide), fun _ => ?_⟩) (fun r₁ p'₁ hp₁ hC₁ hOK₁ hc₁ J₁ M₁ t2₁ p2₁ d2₁ f2₁ e10₁ e33₁ => ⟨fun _ => ?_, fun q₁ => absurd q₁ (by decide)⟩)
  · refine hbad k₁ pl₁ ?_ J₁ M₁ fl₁ (frO_t fr₁ f3₁)
    by_cases o0₁ : opN₁ B₁ n₁ lm₁ p₁ = 0
    · have hp0₁ := hp₁ (fun _ _ => .inl (0, 0))
      rw [pOp₁, if_pos o0₁] at hp0₁
      rw [if_pos o0₁, pEnd]; exact hp0₁
    · rw [if_neg o0₁, pOps, if_neg o0₁, hp₁]; rfl
  · have o0₁ : ¬ opN₁ B₁ n₁ lm₁ p₁ = 0 := fun o0₁ => by
      have hp0₁ := hp₁ (fun _ _ => .inr (U₁, NM₁, 0))
      rw [pOp₁, if_pos o0₁] at hp0₁
      cases hp0₁
    rw [if_neg o0₁, pOps, if_neg o0₁, hp₁] at hbad hok₁
    have e198 : opsU U₁ w₁ 0 r₁ (198 + w₁) = nI 1 := by rw [opsU, vst_a]
    refine s_opsLoop (U₁ := opsU U₁ w₁ 0 r₁) (NM₁ := NM₁) (c₁ := 1) (d₁ := opD₁ r₁ 0) hX₁ hw₁ t2₁ (by decide) (by decide) (PLC_cg p2₁ (fun j₁ hj₁ => opsU_c (by decide) hw₁)) (by rw [e33₁]; exact e3₁) d2₁ (opP_s (opP_0 (code := fun _ => 0)) (fun j₁ hj₁ => absurd hj₁ (Nat.not_lt_zero j₁)) (by rw [opsU_c (by decide) hw₁, if_pos rfl]) hC₁ hOK₁) (by rw [opsU, vst_n (by omega), vst_n (by omega)]; exact hU0₁) e198 (fun k₁ pl₁ hb₁ J2₁ M2₁ fl₁ fr₁ => hbad k₁ pl₁ hb₁ J2₁ M2₁ fl₁ (frO_t fr₁ (frO_t f2₁ f3₁))) (fun U2₁ c2₁ k₁ p2'₁ he₁ hk₁ hW₁ hc2₁ hx₁ J2₁ M2₁ t4₁ p4₁ e4₁ f4₁ e410 => hok₁ U2₁ c2₁ k₁ p2'₁ he₁ hk₁ hW₁ hc2₁ (opX_t hx₁ (opsU_x (by decide) hw₁)) J2₁ M2₁ t4₁ p4₁ e4₁ (frO_t f4₁ (frO_t f2₁ f3₁)) ?_)
    rw [e410, e10₁, b3₁ _ (by omega) (by omega)]
theorem s_readRegister {Q₁ : Bool → MI → ML → Prop} (hX₁ : PDL K₁ N₁ R₁ x₁) (hw₁ : w₁ < 16) (hT₁ : TCS₁ K₁ N₁ R₁ I₁ L₁ (x₁ + 1) B₁ n₁ lm₁ p₁) (hP₁ : PLC₁ I₁ x₁ w₁ 0 (fun j₁ => U₁ (214 + 8 * w₁ + j₁)))
    (hbad : nmS₁ B₁ n₁ lm₁ (tkN₁ B₁ n₁ lm₁ p₁) 0 7 ≠ 0 → ∀ J₁ M₁, flD₁ x₁ (nmS₁ B₁ n₁ lm₁ (tkN₁ B₁ n₁ lm₁ p₁) 0 7) (tkS₁ B₁ n₁ lm₁ (tkN₁ B₁ n₁ lm₁ p₁)) J₁ → frO₁ x₁ w₁ J₁ I₁ M₁ L₁ → Q₁ false J₁ M₁)
    (hok₁ : nmS₁ B₁ n₁ lm₁ (tkN₁ B₁ n₁ lm₁ p₁) 0 7 = 0 → tkV₁ B₁ n₁ (tkN₁ B₁ n₁ lm₁ p₁) ≤ 7 → ∀ J₁ M₁, TCS₁ K₁ N₁ R₁ J₁ M₁ (x₁ + 1) B₁ n₁ lm₁ (tkN₁ B₁ n₁ lm₁ (tkN₁ B₁ n₁ lm₁ p₁)) → TD J₁ (x₁ + 50) 16 21 (w₁ + 1) → J₁ (x₁ + 52) (w₁ * 21 + 3) = 1 → J₁ (x₁ + 52) (w₁ * 21 + 4) = 1 → J₁ (x₁ + 52) (w₁ * 21 + 5) = 10 → J₁ (x₁ + 52) (w₁ * 21 + 6) = nI (tkV₁ B₁ n₁ (tkN₁ B₁ n₁ lm₁ p₁)) → frO₁ x₁ w₁ J₁ I₁ M₁ L₁ → J₁ (x₁ + 1) 10 = I₁ (x₁ + 1) 10 → Q₁ true J₁ M₁) : w_X10_readRegister (x₁ + 36) (x₁ + 1) (nI w₁) K₁ N₁ I₁ L₁ R₁ Q₁ := by
  have t5₁ := hX₁.urd_u.2.2.2.2.2.2.2.2.2.2
  refine ⟨hX₁.tok, s_next hT₁ (fun J1₁ M1₁ t1₁ f1₁ => s_needsNumber (lo₁ := 0) (hi₁ := 7) t1₁ (by decide) (by decide) (fun e0₁ k2₁ v1₁ v2₁ e8₁ => ⟨fun _ => ⟨hX₁.urd, ?_⟩, fun y₁ => absurd y₁ (by decide)⟩) (fun e0₁ J₁ f₁ => ⟨fun y₁ => absurd y₁ (by decide), fun _ => hbad e0₁ J₁ M1₁ (flD_f f₁) (frO_t (frO_f f₁) (frO_K f1₁))⟩))⟩
  rw [e8₁]
  have hP1₁ : PLC₁ J1₁ x₁ w₁ 0 (fun j₁ => U₁ (214 + 8 * w₁ + j₁)) := by rw [PLC₁, TD, f1₁.1 (x₁ + 50) (by omega), f1₁.1 (x₁ + 52) (by omega)]; exact hP₁
  refine s_addOp (r₁ := nI (1000 + tkV₁ B₁ n₁ (tkN₁ B₁ n₁ lm₁ p₁))) hX₁ hP1₁ hw₁ (by decide) (Or.inr (Or.inl ⟨rfl, _, by omega, rfl, rfl⟩)) (fun J2₁ p2₁ f2₁ e36₁ e1₁ e3₁ => ⟨_, hX₁.urd_r, hX₁.urd_u.1, _, hX₁.urd_u.2.2.2.2.2.1, t5₁.1, ?_⟩)
  have hd2₁ : TD J2₁ (x₁ + 37 + 13) 16 21 (w₁ + 1) := p2₁.1
  have hr₁ := p2₁.2.2 0 (by decide)
  have hr₁ : opR (J2₁ (x₁ + 52) (w₁ * 21 + 5)) (J2₁ (x₁ + 52) (w₁ * 21 + 6)) (nI (1000 + tkV₁ B₁ n₁ (tkN₁ B₁ n₁ lm₁ p₁))) := hr₁
  have h56₁ : J2₁ (x₁ + 52) (w₁ * 21 + 5) = 10 ∧ J2₁ (x₁ + 52) (w₁ * 21 + 6) = nI (tkV₁ B₁ n₁ (tkN₁ B₁ n₁ lm₁ p₁)) := by
    rcases hr₁ with ⟨-, -, -, z₁⟩ | ⟨a₁, k₁, hk₁, b₁, e₁⟩ | ⟨q₁, hq₁, -, e₁⟩
    · rw [show (1000 : Int32) = nI 1000 from rfl, ltN (by omega) (by omega)] at z₁; omega
    · rw [eqN (by omega) (by omega)] at e₁
      exact ⟨a₁, by rw [b₁, show k₁ = tkV₁ B₁ n₁ (tkN₁ B₁ n₁ lm₁ p₁) by omega]⟩
    · rw [eqN (by omega) (by omega)] at e₁; omega
  refine s_put (c₁ := 3) t5₁ hd2₁ (by omega) (by decide) ?_
  have t2₁ : TCS₁ K₁ N₁ R₁ (mup J2₁ (x₁ + 37 + 13 + 2) (w₁ * 21 + 3) 1) M1₁ (x₁ + 1) B₁ n₁ lm₁ (tkN₁ B₁ n₁ lm₁ p₁) := TCS_fr t1₁ (by rw [mup_ne (by omega), f2₁.1 _ (by omega) (by omega) (by omega)]) (fun y₁ _ _ => by rw [mup_ne (by omega), e1₁]) rfl
  refine s_next t2₁ (fun J₁ M₁ t3₁ f3₁ => hok₁ e0₁ v2₁ J₁ M₁ t3₁ (TD.fr (TD.fr hd2₁ (mup_ne (by omega))) (f3₁.1 _ (by omega))) ?_ ?_ ?_ ?_ (frO_t (frO_K f3₁) (frO_t ⟨fun b₁ q1₁ q2₁ q3₁ => mup_ne (by omega), fun _ _ => rfl, fun y₁ _ => by rw [mup_ne (by omega)], fun y₁ hy₁ => mup_k (by omega)⟩ (frO_t f2₁ (frO_K f1₁)))) ?_)
  · rw [f3₁.1 _ (by omega)]; exact mup_at
  · rw [f3₁.1 _ (by omega)]; exact (mup_k (by omega)).trans p2₁.2.1
  · rw [f3₁.1 _ (by omega)]; exact (mup_k (by omega)).trans h56₁.1
  · rw [f3₁.1 _ (by omega)]; exact (mup_k (by omega)).trans h56₁.2
  · rw [frK_10 f3₁, mup_ne (by omega), e1₁, frK_10 f1₁]
theorem s_isPlaceTaken {v0₁ : Nat} {f₁ t₁ : Int32} {Q₁ : Bool → Prop} (hL₁ : UL K₁ N₁ R₁ u₁) (hU₁ : WFU₁ U₁) (hd2₁ : UD2₁ I₁ L₁ u₁ U₁ (eNM₁ NM₁)) (hd4₁ : UD4₁ I₁ L₁ u₁ U₁ (eNM₁ NM₁)) (hd₁ : TD I₁ (u₁ + 13) 16 21 (ix (U₁ 5) + 1)) (hv₁ : v0₁ < ix (U₁ 4))
    (hrow : ∀ k₁, k₁ < ix (U₁ 5) → I₁ (u₁ + 13 + 2) (k₁ * 21 + 0) = U₁ (150 + k₁) ∧ I₁ (u₁ + 13 + 2) (k₁ * 21 + 1) = U₁ (166 + k₁) ∧ I₁ (u₁ + 13 + 2) (k₁ * 21 + 2) = U₁ (134 + k₁)) (hlast : I₁ (u₁ + 13 + 2) (ix (U₁ 5) * 21 + 2) = -1) (h₁ : Q₁ (!(rngS U₁ (nI v0₁) f₁ t₁))) : w_X9_isPlaceTaken u₁ (nI v0₁) f₁ t₁ K₁ N₁ I₁ L₁ R₁ Q₁ := by
  have t2₁ := hL₁.2.2.2.2.2.2.2.1
  have t4₁ := hL₁.2.2.2.2.2.2.2.2.2.1
  have t5₁ := hL₁.2.2.2.2.2.2.2.2.2.2
  have n4₁ := hU₁.1.2.2.2.1.2
  have n2₁ := hU₁.1.2.1.2
  have hw₁ : ix (U₁ 5) + 1 ≤ 16 := hd₁.2.2
  obtain ⟨s₁, es₁, hs₁⟩ := hU₁.2.2.2.2.2.1 v0₁ hv₁
  have r4₁ := hd4₁.2 v0₁ hv₁
  have r2₁ := hd2₁.2 s₁ hs₁
  delta w_X9_isPlaceTaken
  refine ⟨hL₁.1, _, hL₁.2.2.2.2.1, t4₁.1, s_at t4₁ hd4₁.1 ?_⟩
  rw [show (0 : Int32) = nI 0 from rfl, tat_in hv₁ (by omega) (by omega) (by omega), r4₁.1, es₁]
  refine ⟨_, hL₁.2.2.1, t2₁.1, s_at t2₁ hd2₁.1 ?_⟩
  rw [tat_in hs₁ (by omega) (by omega) (by omega), r2₁.1]
  rw [rngS, ix_nI (by omega), es₁, ix_nI (by omega)] at h₁
  refine ⟨fun z₁ => ?_, fun z₁ => s_at t2₁ hd2₁.1 ?_⟩
  · rw [decide_eq_true z₁] at h₁; exact h₁
  rw [show (1 : Int32) = nI 1 from rfl, tat_in hs₁ (by omega) (by omega) (by omega), r2₁.2.1]
  refine ⟨fun y₁ => ?_, fun y₁ => ?_⟩
  case refine_2 => rw [decide_eq_false z₁, decide_eq_false y₁] at h₁; exact h₁
  rw [decide_eq_false z₁, decide_eq_true y₁, show (!false && true && !(takB U₁ (nI v0₁) f₁ t₁ (ix (U₁ 5)) 0)) = !(takB U₁ (nI v0₁) f₁ t₁ (ix (U₁ 5)) 0) from rfl, Bool.not_not] at h₁
  delta w_X9_isPlaceTaken_44
  refine ⟨fun n1₁ y0₁ y1₁ y2₁ y3₁ y5₁ => y0₁ = u₁ ∧ y1₁ = nI v0₁ ∧ y2₁ = f₁ ∧ y3₁ = t₁ ∧ ∃ i₁, i₁ ≤ ix (U₁ 5) + 1 ∧ n1₁ = ix (U₁ 5) + 1 - i₁ ∧ y5₁ = nI i₁ ∧ takB U₁ (nI v0₁) f₁ t₁ (ix (U₁ 5) - i₁) i₁ = takB U₁ (nI v0₁) f₁ t₁ (ix (U₁ 5)) 0, ⟨ix (U₁ 5) + 1, rfl, rfl, rfl, rfl, 0, by omega, rfl, rfl, rfl⟩, ?_⟩
  rintro n1₁ y0₁ y1₁ y2₁ y3₁ y5₁ ⟨rfl, rfl, rfl, rfl, i₁, hi₁, rfl, rfl, hB₁⟩
  refine ⟨hL₁.1, _, hL₁.2.2.2.2.2.1, t5₁.1, ?_⟩
  rw [hd₁.2.1, leN (by omega) (by omega)]
  refine ⟨fun q₁ => ?_, fun q₁ => s_at t5₁ hd₁ ?_⟩
  · rw [show ix (U₁ 5) - i₁ = 0 by omega, takB] at hB₁
    rw [← hB₁] at h₁; exact h₁
  rw [show (0 : Int32) = nI 0 from rfl, tat_in (by omega) (by omega) (by omega) (by omega)]
  have at2₁ : ∀ P₁ : Int32 → Prop, P₁ (I₁ (y0₁ + 13 + 2) (i₁ * 21 + 2)) → w_X7_at (y0₁ + 13) (nI i₁) 2 K₁ N₁ I₁ L₁ R₁ P₁ := fun P₁ hPP₁ => by
    refine s_at t5₁ hd₁ ?_
    rw [show (2 : Int32) = nI 2 from rfl, tat_in (by omega) (by omega) (by omega) (by omega)]; exact hPP₁
  have next : (I₁ (y0₁ + 13 + 2) (i₁ * 21 + 2) = nI v0₁ → (decide (y3₁ ≤ I₁ (y0₁ + 13 + 2) (i₁ * 21 + 0)) || !(decide (y2₁ < I₁ (y0₁ + 13 + 2) (i₁ * 21 + 1)))) = true) → takB U₁ (nI v0₁) y2₁ y3₁ (ix (U₁ 5) - (i₁ + 1)) (i₁ + 1) = takB U₁ (nI v0₁) y2₁ y3₁ (ix (U₁ 5)) 0 := fun e₁ => by
    by_cases z₁ : i₁ = ix (U₁ 5)
    · rw [show ix (U₁ 5) - i₁ = 0 by omega, takB] at hB₁
      rw [show ix (U₁ 5) - (i₁ + 1) = 0 by omega, takB]; exact hB₁
    · have r₁ := hrow i₁ (by omega)
      rw [show ix (U₁ 5) - i₁ = (ix (U₁ 5) - (i₁ + 1)) + 1 by omega, takB, if_neg] at hB₁
      · exact hB₁
      · rintro ⟨a₁, b₁⟩
        have := e₁ (by rw [r₁.2.2]; exact a₁)
        rw [r₁.1, r₁.2.1, b₁] at this
        exact absurd this (by decide)
  have yes₁ : I₁ (y0₁ + 13 + 2) (i₁ * 21 + 2) = nI v0₁ → (decide (y3₁ ≤ I₁ (y0₁ + 13 + 2) (i₁ * 21 + 0)) || !(decide (y2₁ < I₁ (y0₁ + 13 + 2) (i₁ * 21 + 1)))) = false → Q₁ true := fun e1₁ e2₁ => by
    by_cases z₁ : i₁ = ix (U₁ 5)
    · rw [z₁, hlast] at e1₁; exact absurd e1₁ (m1_ne' (by omega))
    · have r₁ := hrow i₁ (by omega)
      rw [show ix (U₁ 5) - i₁ = (ix (U₁ 5) - (i₁ + 1)) + 1 by omega, takB, if_pos ⟨by rw [← r₁.2.2]; exact e1₁, by rw [← r₁.1, ← r₁.2.1]; exact e2₁⟩] at hB₁
      rw [← hB₁] at h₁; exact h₁
  have s89₁ : ∀ s0₁ : Int32, (s0₁ = nI 1 ∨ s0₁ = nI 0) → ((decide (y3₁ ≤ I₁ (y0₁ + 13 + 2) (i₁ * 21 + 0)) || !(decide (y2₁ < I₁ (y0₁ + 13 + 2) (i₁ * 21 + 1)))) = true ↔ s0₁ = nI 1) → w_X9_isPlaceTaken_89 y0₁ (nI v0₁) y2₁ y3₁ (nI i₁) s0₁ K₁ N₁ I₁ L₁ R₁ (fun z0₁ z1₁ z2₁ z3₁ z4₁ => ∃ n1₁, n1₁ < ix (U₁ 5) + 1 - i₁ ∧ ((fun n1₁ y0'₁ y1'₁ y2'₁ y3'₁ y5₁ => y0'₁ = y0₁ ∧ y1'₁ = nI v0₁ ∧ y2'₁ = y2₁ ∧ y3'₁ = y3₁ ∧ ∃ i₁, i₁ ≤ ix (U₁ 5) + 1 ∧ n1₁ = ix (U₁ 5) + 1 - i₁ ∧ y5₁ = nI i₁ ∧ takB U₁ (nI v0₁) y2₁ y3₁ (ix (U₁ 5) - i₁) i₁ = takB U₁ (nI v0₁) y2₁ y3₁ (ix (U₁ 5)) 0 : Nat → Nat → Int32 → Int32 → Int32 → Int32 → Prop) n1₁ z0₁ z1₁ z2₁ z3₁ z4₁)) Q₁ := by
    intro s0₁ hs0₁ hap₁
    delta w_X9_isPlaceTaken_89
    have ap1₁ : s0₁ = nI 1 → (decide (y3₁ ≤ I₁ (y0₁ + 13 + 2) (i₁ * 21 + 0)) || !(decide (y2₁ < I₁ (y0₁ + 13 + 2) (i₁ * 21 + 1)))) = true := hap₁.mpr
    refine ⟨hL₁.1, _, hL₁.2.2.2.2.2.1, t5₁.1, at2₁ _ ⟨fun q1₁ v17₁ g17₁ => ⟨ix (U₁ 5) + 1 - (i₁ + 1), by omega, rfl, rfl, rfl, rfl, i₁ + 1, by omega, rfl, by rw [g17₁, nI_1], next (fun e₁ => absurd e₁ q1₁)⟩, fun q1₁ => ⟨fun q2₁ v18₁ g18₁ => ⟨ix (U₁ 5) + 1 - (i₁ + 1), by omega, rfl, rfl, rfl, rfl, i₁ + 1, by omega, rfl, by rw [g18₁, nI_1], next (fun _ => ?_)⟩, fun q2₁ => yes₁ q1₁ ?_⟩⟩⟩
    · rcases hs0₁ with e₁ | e₁
      · exact ap1₁ e₁
      · exact absurd e₁ q2₁
    · cases e₁ : (decide (y3₁ ≤ I₁ (y0₁ + 13 + 2) (i₁ * 21 + 0)) || !(decide (y2₁ < I₁ (y0₁ + 13 + 2) (i₁ * 21 + 1))))
      · rfl
      · rw [hap₁.mp e₁] at q2₁; exact absurd q2₁ (by decide)
  refine ⟨fun a₁ => ?_, fun a₁ => s_at t5₁ hd₁ ?_⟩
  · delta w_X9_isPlaceTaken_84
    exact s89₁ _ (Or.inl rfl) ⟨fun _ => rfl, fun _ => by rw [decide_eq_true a₁]; rfl⟩
  rw [show (1 : Int32) = nI 1 from rfl, tat_in (by omega) (by omega) (by omega) (by omega)]
  refine ⟨fun b₁ => s89₁ _ (Or.inr rfl) ⟨fun e₁ => ?_, fun e₁ => absurd e₁ (by decide)⟩, fun b₁ => ?_⟩
  · rw [decide_eq_false a₁, decide_eq_true b₁] at e₁; exact absurd e₁ (by decide)
  · delta w_X9_isPlaceTaken_84
    exact s89₁ _ (Or.inl rfl) ⟨fun _ => rfl, fun _ => by rw [decide_eq_false b₁]; exact Bool.or_true _⟩
end UN₁
