/-! ===== the ops, the register, the range of a 'where': the class ===== -/
/-- the ops so far, well formed -/
def opP₁ (code : Nat → Int32) (c₁ d₁ : Nat) : Prop := ∃ D₁ : Nat → Nat, D₁ 0 = 0 ∧ (∀ j₁, j₁ < c₁ → opC₁ (code j₁) ∧ opOK (code j₁) (D₁ j₁) ∧ D₁ (j₁ + 1) = opD₁ (code j₁) (D₁ j₁)) ∧ D₁ c₁ = d₁
theorem opP_0 {code : Nat → Int32} : opP₁ code 0 0 := ⟨fun _ => 0, rfl, fun j₁ hj₁ => absurd hj₁ (Nat.not_lt_zero j₁), rfl⟩
theorem opP_s {code code' : Nat → Int32} {c₁ d₁ : Nat} {r₁ : Int32} (h₁ : opP₁ code c₁ d₁) (e₁ : ∀ j₁, j₁ < c₁ → code' j₁ = code j₁) (ec₁ : code' c₁ = r₁) (hC₁ : opC₁ r₁) (hO₁ : opOK r₁ d₁) : opP₁ code' (c₁ + 1) (opD₁ r₁ d₁) := by
  obtain ⟨D₁, D0₁, hs₁, D1₁⟩ := h₁
  refine ⟨fun j₁ => if j₁ = c₁ + 1 then opD₁ r₁ d₁ else D₁ j₁, by show (if 0 = c₁ + 1 then opD₁ r₁ d₁ else D₁ 0) = 0; rw [if_neg (by omega)]; exact D0₁, fun j₁ hj₁ => ?_, by show (if c₁ + 1 = c₁ + 1 then opD₁ r₁ d₁ else D₁ (c₁ + 1)) = opD₁ r₁ d₁; rw [if_pos rfl]⟩
  show opC₁ (code' j₁) ∧ opOK (code' j₁) (if j₁ = c₁ + 1 then opD₁ r₁ d₁ else D₁ j₁) ∧ (if j₁ + 1 = c₁ + 1 then opD₁ r₁ d₁ else D₁ (j₁ + 1)) = opD₁ (code' j₁) (if j₁ = c₁ + 1 then opD₁ r₁ d₁ else D₁ j₁)
  rw [if_neg (show ¬ j₁ = c₁ + 1 by omega)]
  by_cases z₁ : j₁ = c₁
  · rw [z₁, if_pos rfl, ec₁, D1₁]; exact ⟨hC₁, hO₁, rfl⟩
  · rw [if_neg (show ¬ j₁ + 1 = c₁ + 1 by omega), e₁ j₁ (by omega)]; exact hs₁ j₁ (by omega)
theorem opP_le {code : Nat → Int32} {c₁ d₁ : Nat} (h₁ : opP₁ code c₁ d₁) : d₁ ≤ c₁ := by
  obtain ⟨D₁, D0₁, hs₁, D1₁⟩ := h₁
  rw [← D1₁]
  exact opW_le D0₁ (fun j₁ hj₁ => (hs₁ j₁ hj₁).2.2) c₁ (Nat.le_refl c₁)
theorem opP_pos {code : Nat → Int32} {c₁ d₁ : Nat} (h₁ : opP₁ code c₁ d₁) (hc₁ : 1 ≤ c₁) : 1 ≤ d₁ := by
  obtain ⟨D₁, D0₁, hs₁, D1₁⟩ := h₁
  obtain ⟨e₁, rfl⟩ : ∃ e₁, c₁ = e₁ + 1 := ⟨c₁ - 1, by omega⟩
  obtain ⟨h1₁, h2₁, h3₁⟩ := hs₁ e₁ (by omega)
  rw [← D1₁, h3₁, opD₁]
  rw [opOK] at h2₁
  split at h2₁
  · rename_i z₁; rw [if_pos z₁]; omega
  · rename_i z₁
    rw [if_neg z₁]
    split at h2₁
    · rename_i y₁; rw [if_neg (by rw [y₁]; decide), if_pos y₁]; exact h2₁
    · rename_i y₁
      split at h2₁
      · rename_i v₁; rw [if_pos v₁]; omega
      · rename_i v₁
        rw [if_neg v₁, if_neg y₁]
        split <;> omega
theorem opP_W {code : Nat → Int32} {c₁ d₁ : Nat} (h₁ : opP₁ code c₁ d₁) (hc₁ : 1 ≤ c₁) : opW₁ code c₁ := by
  have hd₁ := opP_pos h₁ hc₁
  obtain ⟨D₁, D0₁, hs₁, D1₁⟩ := h₁
  exact ⟨D₁, D0₁, hs₁, by rw [D1₁]; exact hd₁⟩
theorem vst_id {U₁ : Nat → Int32} {p₁ : Nat} {v₁ : Int32} (h₁ : U₁ p₁ = v₁) : vst₁ U₁ p₁ v₁ = U₁ := by
  funext j₁
  rw [vst₁]
  split
  · rename_i e₁; rw [e₁, h₁]
  · rfl
/-- what the ops' reading changes of the numbers -/
def opX₁ (w₁ c₁ : Nat) (U2₁ U₁ : Nat → Int32) : Prop := (∀ j₁, j₁ ≠ 198 + w₁ → (j₁ < 214 + 8 * w₁ ∨ 222 + 8 * w₁ ≤ j₁) → U2₁ j₁ = U₁ j₁) ∧ U2₁ (198 + w₁) = nI c₁
section UN₁
variable {K₁ N₁ : MK} {I₁ : MI} {L₁ : ML} {R₁ : MR} {n₁ lm₁ p₁ x₁ c₁ d₁ w₁ f₁ : Nat} {B₁ : Nat → Nat} {U₁ : Nat → Int32} {NM₁ : Nat → List Nat}
theorem PLC_cg {code code' : Nat → Int32} (h₁ : PLC₁ I₁ x₁ w₁ c₁ code) (e₁ : ∀ j₁, j₁ < c₁ → code' j₁ = code j₁) : PLC₁ I₁ x₁ w₁ c₁ code' := ⟨h₁.1, h₁.2.1, fun j₁ hj₁ => by rw [e₁ j₁ hj₁]; exact h₁.2.2 j₁ hj₁⟩
theorem opsU_c {r₁ : Int32} {j₁ : Nat} (hc₁ : c₁ < 8) (hw₁ : w₁ < 16) : opsU U₁ w₁ c₁ r₁ (214 + 8 * w₁ + j₁) = if j₁ = c₁ then r₁ else U₁ (214 + 8 * w₁ + j₁) := by
  rw [opsU, vst_n (by omega)]
  by_cases z₁ : j₁ = c₁
  · rw [if_pos z₁, z₁, vst_a]
  · rw [if_neg z₁, vst_n (by omega)]
theorem opsU_x {r₁ : Int32} (hc₁ : c₁ < 8) (hw₁ : w₁ < 16) : opX₁ w₁ (c₁ + 1) (opsU U₁ w₁ c₁ r₁) U₁ := ⟨fun j₁ h1₁ h2₁ => by rw [opsU, vst_n h1₁, vst_n (by omega)], by rw [opsU, vst_a]⟩
theorem opX_t {U2₁ U3₁ : Nat → Int32} {c2₁ c3₁ : Nat} (h₁ : opX₁ w₁ c3₁ U3₁ U2₁) (h2₁ : opX₁ w₁ c2₁ U2₁ U₁) : opX₁ w₁ c3₁ U3₁ U₁ := ⟨fun j₁ a₁ b₁ => by rw [h₁.1 j₁ a₁ b₁, h2₁.1 j₁ a₁ b₁], h₁.2⟩
/-- the ops behind the first -/
theorem s_opsLoop {Q₁ : Bool → MI → ML → Prop} (hX₁ : PDL K₁ N₁ R₁ x₁) (hw₁ : w₁ < 16) (hT₁ : TCS₁ K₁ N₁ R₁ I₁ L₁ (x₁ + 1) B₁ n₁ lm₁ p₁) (hc1₁ : 1 ≤ c₁) (hc8₁ : c₁ ≤ 8) (hP₁ : PLC₁ I₁ x₁ w₁ c₁ (fun j₁ => U₁ (214 + 8 * w₁ + j₁))) (h3₁ : I₁ (x₁ + 52) (w₁ * 21 + 3) = 0) (hd₁ : I₁ (x₁ + 36) 2 = nI d₁) (hO₁ : opP₁ (fun j₁ => U₁ (214 + 8 * w₁ + j₁)) c₁ d₁) (hU0₁ : U₁ (182 + w₁) = 0) (hUc₁ : U₁ (198 + w₁) = nI c₁)
    (hbad : ∀ k₁ pl₁, pEnd B₁ n₁ lm₁ (pOps B₁ n₁ lm₁ NM₁ w₁ (9 - c₁) U₁ c₁ d₁ p₁) = .inl (k₁, pl₁) → ∀ J₁ M₁, flD₁ x₁ k₁ pl₁ J₁ → frO₁ x₁ w₁ J₁ I₁ M₁ L₁ → Q₁ false J₁ M₁)
    (hok₁ : ∀ U2₁ c2₁ k₁ p'₁, pOps B₁ n₁ lm₁ NM₁ w₁ (9 - c₁) U₁ c₁ d₁ p₁ = .inr (vst₁ (vst₁ U2₁ (182 + w₁) (nI k₁)) 5 (nI (w₁ + 1)), NM₁, p'₁) → k₁ ≤ 1 → opW₁ (fun j₁ => U2₁ (214 + 8 * w₁ + j₁)) c2₁ → c2₁ ≤ 8 → opX₁ w₁ c2₁ U2₁ U₁ → ∀ J₁ M₁, TCS₁ K₁ N₁ R₁ J₁ M₁ (x₁ + 1) B₁ n₁ lm₁ p'₁ → PLC₁ J₁ x₁ w₁ c2₁ (fun j₁ => U2₁ (214 + 8 * w₁ + j₁)) → J₁ (x₁ + 52) (w₁ * 21 + 3) = nI k₁ → frO₁ x₁ w₁ J₁ I₁ M₁ L₁ → J₁ (x₁ + 1) 10 = I₁ (x₁ + 1) 10 → Q₁ true J₁ M₁) : w_X10_readOps_31 (x₁ + 36) (x₁ + 1) (nI w₁) (nI (c₁ - 1)) K₁ N₁ I₁ L₁ R₁ Q₁ := by
  have t5₁ := hX₁.urd_u.2.2.2.2.2.2.2.2.2.2
  delta w_X10_readOps_31
  refine ⟨fun n1₁ y0₁ y1₁ y2₁ y3₁ I1₁ L1₁ => y0₁ = x₁ + 36 ∧ y1₁ = x₁ + 1 ∧ y2₁ = nI w₁ ∧ ∃ c1₁ d1₁ p1₁ U1₁, n1₁ = 9 - c1₁ ∧ c₁ ≤ c1₁ ∧ c1₁ ≤ 8 ∧ y3₁ = nI (c1₁ - 1) ∧ TCS₁ K₁ N₁ R₁ I1₁ L1₁ (x₁ + 1) B₁ n₁ lm₁ p1₁ ∧ PLC₁ I1₁ x₁ w₁ c1₁ (fun j₁ => U1₁ (214 + 8 * w₁ + j₁)) ∧ I1₁ (x₁ + 52) (w₁ * 21 + 3) = 0 ∧ I1₁ (x₁ + 36) 2 = nI d1₁ ∧ opP₁ (fun j₁ => U1₁ (214 + 8 * w₁ + j₁)) c1₁ d1₁ ∧ opX₁ w₁ c1₁ U1₁ U₁ ∧ frO₁ x₁ w₁ I1₁ I₁ L1₁ L₁ ∧ I1₁ (x₁ + 1) 10 = I₁ (x₁ + 1) 10 ∧ pOps B₁ n₁ lm₁ NM₁ w₁ (9 - c1₁) U1₁ c1₁ d1₁ p1₁ = pOps B₁ n₁ lm₁ NM₁ w₁ (9 - c₁) U₁ c₁ d₁ p₁, ⟨9 - c₁, rfl, rfl, rfl, c₁, d₁, p₁, U₁, rfl, Nat.le_refl c₁, hc8₁, rfl, hT₁, hP₁, h3₁, hd₁, hO₁, ⟨fun _ _ _ => rfl, hUc₁⟩, frO_r, rfl, rfl⟩, ?_⟩
  rintro n1₁ y0₁ y1₁ y2₁ y3₁ I1₁ L1₁ ⟨rfl, rfl, rfl, c1₁, d1₁, p1₁, U1₁, rfl, hcc₁, hc18, rfl, hT1₁, hP1₁, h31₁, hd1₁, hO1₁, hX1₁, hf1₁, h10₁, hE₁⟩
  rw [show (8 : Int32) = nI 8 from rfl, ltN (by omega) (by omega)]
  refine ⟨fun z₁ => by omega, fun _ => ⟨hX₁.tok, s_isSign (c₁ := 59) hT1₁ (by decide) ⟨fun z₁ => ?_, fun z₁ => s_wordHere hT1₁ ⟨fun y₁ => ⟨hX₁.urd, ?_⟩, fun y₁ => ⟨hX₁.urd, _, hX₁.urd_r, hX₁.urd_u.1, _, hX₁.urd_u.2.2.2.2.2.1, t5₁.1, ?_⟩⟩⟩⟩⟩
  all_goals rw [show 9 - c1₁ = (9 - (c1₁ + 1)) + 1 by omega, pOps] at hE₁
  · have k3₁ : tkK₁ B₁ n₁ lm₁ p1₁ = 3 := by rw [isSn, Bool.and_eq_true, decide_eq_true_eq] at z₁; exact z₁.1
    have o0₁ : opN₁ B₁ n₁ lm₁ p1₁ = 0 := by
      rcases opN_or (B₁ := B₁) (n₁ := n₁) (lm₁ := lm₁) (p₁ := p1₁) with ⟨e₁, -⟩ | ⟨-, e₁⟩ | ⟨q₁, -, -, e₁⟩
      · exact e₁
      · rw [k3₁] at e₁; exact absurd e₁ (by decide)
      · have := isWd_k e₁; rw [k3₁] at this; exact absurd this (by decide)
    have nv₁ : ¬ isWd B₁ n₁ lm₁ p1₁ 32 = true := fun e₁ => by have := isWd_k e₁; rw [k3₁] at this; exact absurd this (by decide)
    rw [if_pos o0₁, if_neg nv₁] at hE₁
    refine hok₁ U1₁ c1₁ 0 p1₁ ?_ (by decide) (opP_W hO1₁ (by omega)) hc18 hX1₁ I1₁ L1₁ hT1₁ hP1₁ h31₁ hf1₁ h10₁
    rw [← hE₁, show nI 0 = 0 from rfl, vst_id (U₁ := U1₁) (p₁ := 182 + w₁) (v₁ := 0) (by rw [hX1₁.1 _ (by omega) (by omega)]; exact hU0₁)]
  · refine s_readOp hX₁ hT1₁ hP1₁ hw₁ hc18 hd1₁ (by have := opP_le hO1₁; omega) (fun k₁ pl₁ hp₁ J₁ M₁ fl₁ fr₁ => ⟨fun q₁ => absurd q₁ (by decide), fun _ => ?_⟩) (fun r₁ p'₁ hp₁ hC₁ hOK₁ hc₁ J₁ M₁ t2₁ p2₁ d2₁ f2₁ e10₁ e3₁ => ⟨fun _ v18₁ g18₁ => ?_, fun q₁ => absurd q₁ (by decide)⟩)
    · refine hbad k₁ pl₁ ?_ J₁ M₁ fl₁ (frO_t fr₁ hf1₁)
      rw [← hE₁]
      by_cases o0₁ : opN₁ B₁ n₁ lm₁ p1₁ = 0
      · have hp0₁ := hp₁ (fun _ _ => .inl (0, 0))
        rw [pOp₁, if_pos o0₁] at hp0₁
        have hv₁ : ¬ isWd B₁ n₁ lm₁ p1₁ 32 = true := fun e₁ => y₁ ((whS_iff (c₁ := 9) (by decide)).mpr e₁)
        rw [if_pos o0₁, if_neg hv₁, pEnd, if_neg (by rw [z₁]; decide)]
        exact hp0₁
      · rw [if_neg o0₁, hp₁]; rfl
    · have o0₁ : ¬ opN₁ B₁ n₁ lm₁ p1₁ = 0 := fun o0₁ => by
        have hp0₁ := hp₁ (fun _ _ => .inr (U₁, NM₁, 0))
        rw [pOp₁, if_pos o0₁] at hp0₁
        cases hp0₁
      rw [if_neg o0₁, hp₁] at hE₁
      refine ⟨9 - (c1₁ + 1), by omega, rfl, rfl, rfl, c1₁ + 1, opD₁ r₁ d1₁, p'₁, opsU U1₁ w₁ c1₁ r₁, rfl, by omega, by omega, by rw [g18₁, nI_1, show c1₁ - 1 + 1 = c1₁ + 1 - 1 by omega], t2₁, PLC_cg p2₁ (fun j₁ hj₁ => opsU_c hc₁ hw₁), by rw [e3₁]; exact h31₁, d2₁, opP_s hO1₁ (fun j₁ hj₁ => by rw [opsU_c hc₁ hw₁, if_neg (by omega)]) (by rw [opsU_c hc₁ hw₁, if_pos rfl]) hC₁ hOK₁, opX_t (opsU_x hc₁ hw₁) hX1₁, frO_t f2₁ hf1₁, by rw [e10₁]; exact h10₁, hE₁⟩
  · have v32₁ : isWd B₁ n₁ lm₁ p1₁ 32 = true := (whS_iff (c₁ := 9) (by decide)).mp y₁
    have o0₁ : opN₁ B₁ n₁ lm₁ p1₁ = 0 := by
      rcases opN_or (B₁ := B₁) (n₁ := n₁) (lm₁ := lm₁) (p₁ := p1₁) with ⟨e₁, -⟩ | ⟨-, e₁⟩ | ⟨q₁, hq₁, -, e₁⟩
      · exact e₁
      · rw [isWd_k v32₁] at e₁; exact absurd e₁ (by decide)
      · rw [isWd_n (by decide) (by omega) v32₁ (show 8 + q₁ ≠ 32 by omega)] at e₁; exact absurd e₁ (by decide)
    rw [if_pos o0₁, if_pos v32₁] at hE₁
    have hd1' : TD I1₁ (x₁ + 37 + 13) 16 21 (w₁ + 1) := hP1₁.1
    refine s_put (c₁ := 3) t5₁ hd1' (by omega) (by decide) ?_
    refine s_next (TCS_fr hT1₁ (mup_ne (by omega)) (fun y₁ _ _ => by rw [mup_ne (by omega)]) rfl) (fun J₁ M₁ t2₁ f2₁ => hok₁ U1₁ c1₁ 1 _ hE₁.symm (by decide) (opP_W hO1₁ (by omega)) hc18 hX1₁ J₁ M₁ t2₁ ⟨?_, ?_, fun j₁ hj₁ => ?_⟩ ?_ (frO_t (frO_K f2₁) (frO_t ⟨fun b₁ q1₁ q2₁ q3₁ => mup_ne (by omega), fun _ _ => rfl, fun y₁ _ => by rw [mup_ne (by omega)], fun y₁ hy₁ => mup_k (by omega)⟩ hf1₁)) ?_)
    · exact TD.fr (TD.fr hP1₁.1 (mup_ne (by omega))) (f2₁.1 _ (by omega))
    · rw [f2₁.1 _ (by omega)]
      exact (mup_k (by omega)).trans hP1₁.2.1
    · rw [f2₁.1 (x₁ + 52) (by omega)]
      show opR (mup I1₁ (x₁ + 52) (w₁ * 21 + 3) 1 (x₁ + 52) _) (mup I1₁ (x₁ + 52) (w₁ * 21 + 3) 1 (x₁ + 52) _) _
      rw [mup_k (by omega), mup_k (by omega)]; exact hP1₁.2.2 j₁ hj₁
    · rw [f2₁.1 _ (by omega)]; exact mup_at
    · rw [frK_10 f2₁, mup_ne (by omega)]; exact h10₁
end UN₁
