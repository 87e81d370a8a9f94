/-! ===== a sentence read: the class's one, the class's call ===== -/
section SC₁
variable {K₁ N₁ : MK} {I₁ : MI} {L₁ : ML} {R₁ : MR} {x₁ n₁ p₁ k₁ sc₁ : Nat} {B₁ : Nat → Nat} {NM₁ : Nat → List Nat}
theorem s_isFirst {w₁ : Int32} {Q₁ : Bool → Prop} (ht₁ : (w₁ = 7 ∨ w₁ = 9 ∨ w₁ = 27 ∨ w₁ = 28 ∨ w₁ = 29 ∨ w₁ = 30 ∨ w₁ = 31 ∨ w₁ = 32 ∨ w₁ = 33) → Q₁ true) (hf₁ : ¬ (w₁ = 7 ∨ w₁ = 9 ∨ w₁ = 27 ∨ w₁ = 28 ∨ w₁ = 29 ∨ w₁ = 30 ∨ w₁ = 31 ∨ w₁ = 32 ∨ w₁ = 33) → Q₁ false) : w_X6_isFirstWord w₁ K₁ N₁ I₁ L₁ R₁ Q₁ := by
  delta w_X6_isFirstWord
  exact ⟨fun e₁ => ht₁ (by rw [e₁]; decide), fun e7₁ => ⟨fun e₁ => hf₁ (by rw [e₁]; decide), fun e8₁ => ⟨fun e₁ => ht₁ (by rw [e₁]; decide), fun e9₁ => ⟨fun e₁ => hf₁ (by rw [e₁]; decide), fun e10₁ => ⟨fun e₁ => hf₁ (by rw [e₁]; decide), fun e11₁ => ⟨fun e₁ => hf₁ (by rw [e₁]; decide), fun e12₁ => ⟨fun e₁ => hf₁ (by rw [e₁]; decide), fun e13₁ => ⟨fun e₁ => hf₁ (by rw [e₁]; decide), fun e14₁ => ⟨fun e₁ => hf₁ (by rw [e₁]; decide), fun e15₁ => ⟨fun e₁ => hf₁ (by rw [e₁]; decide), fun e16₁ => ⟨fun e₁ => hf₁ (by rw [e₁]; decide), fun e17₁ => ⟨fun e₁ => hf₁ (by rw [e₁]; decide), fun e18₁ => ⟨fun e₁ => hf₁ (by rw [e₁]; decide), fun e19₁ => ⟨fun e₁ => hf₁ (by rw [e₁]; decide), fun e20₁ => ⟨fun e₁ => hf₁ (by rw [e₁]; decide), fun e21₁ => ⟨fun e₁ => hf₁ (by rw [e₁]; decide), fun e22₁ => ⟨fun e₁ => hf₁ (by rw [e₁]; decide), fun e23₁ => ⟨fun e₁ => hf₁ (by rw [e₁]; decide), fun e24₁ => ⟨fun e₁ => hf₁ (by rw [e₁]; decide), fun e25₁ => ⟨fun e₁ => hf₁ (by rw [e₁]; decide), fun e26₁ => ⟨fun e₁ => ht₁ (by rw [e₁]; decide), fun e27₁ => ⟨fun e₁ => ht₁ (by rw [e₁]; decide), fun e28₁ => ⟨fun e₁ => ht₁ (by rw [e₁]; decide), fun e29₁ => ⟨fun e₁ => ht₁ (by rw [e₁]; decide), fun e30₁ => ⟨fun e₁ => ht₁ (by rw [e₁]; decide), fun e31₁ => ⟨fun e₁ => ht₁ (by rw [e₁]; decide), fun e32₁ => ⟨fun e₁ => ht₁ (by rw [e₁]; decide), fun e33₁ => hf₁ (by simp only [e7₁, e9₁, e27₁, e28₁, e29₁, e30₁, e31₁, e32₁, e33₁, or_false, not_false_eq_true])⟩⟩⟩⟩⟩⟩⟩⟩⟩⟩⟩⟩⟩⟩⟩⟩⟩⟩⟩⟩⟩⟩⟩⟩⟩⟩⟩
theorem swK_w : (swK₁ B₁ n₁ 200 p₁ ≠ 0 → whS₁ B₁ n₁ 200 p₁ = nI (swK₁ B₁ n₁ 200 p₁) ∧ (swK₁ B₁ n₁ 200 p₁ = 7 ∨ swK₁ B₁ n₁ 200 p₁ = 9 ∨ (27 ≤ swK₁ B₁ n₁ 200 p₁ ∧ swK₁ B₁ n₁ 200 p₁ ≤ 33))) ∧ (swK₁ B₁ n₁ 200 p₁ = 0 → ¬ (whS₁ B₁ n₁ 200 p₁ = 7 ∨ whS₁ B₁ n₁ 200 p₁ = 9 ∨ whS₁ B₁ n₁ 200 p₁ = 27 ∨ whS₁ B₁ n₁ 200 p₁ = 28 ∨ whS₁ B₁ n₁ 200 p₁ = 29 ∨ whS₁ B₁ n₁ 200 p₁ = 30 ∨ whS₁ B₁ n₁ 200 p₁ = 31 ∨ whS₁ B₁ n₁ 200 p₁ = 32 ∨ whS₁ B₁ n₁ 200 p₁ = 33)) := by
  have w27₁ : whS₁ B₁ n₁ 200 p₁ = 27 ↔ isWd B₁ n₁ 200 p₁ 25 = true := whS_iff (c₁ := 27) (by decide)
  have w28₁ : whS₁ B₁ n₁ 200 p₁ = 28 ↔ isWd B₁ n₁ 200 p₁ 26 = true := whS_iff (c₁ := 28) (by decide)
  have w29₁ : whS₁ B₁ n₁ 200 p₁ = 29 ↔ isWd B₁ n₁ 200 p₁ 27 = true := whS_iff (c₁ := 29) (by decide)
  have w7₁ : whS₁ B₁ n₁ 200 p₁ = 7 ↔ isWd B₁ n₁ 200 p₁ 28 = true := whS_iff (c₁ := 7) (by decide)
  have w30₁ : whS₁ B₁ n₁ 200 p₁ = 30 ↔ isWd B₁ n₁ 200 p₁ 29 = true := whS_iff (c₁ := 30) (by decide)
  have w31₁ : whS₁ B₁ n₁ 200 p₁ = 31 ↔ isWd B₁ n₁ 200 p₁ 30 = true := whS_iff (c₁ := 31) (by decide)
  have w32₁ : whS₁ B₁ n₁ 200 p₁ = 32 ↔ isWd B₁ n₁ 200 p₁ 31 = true := whS_iff (c₁ := 32) (by decide)
  have w9₁ : whS₁ B₁ n₁ 200 p₁ = 9 ↔ isWd B₁ n₁ 200 p₁ 32 = true := whS_iff (c₁ := 9) (by decide)
  have w33₁ : whS₁ B₁ n₁ 200 p₁ = 33 ↔ isWd B₁ n₁ 200 p₁ 33 = true := whS_iff (c₁ := 33) (by decide)
  rw [w7₁, w9₁, w27₁, w28₁, w29₁, w30₁, w31₁, w32₁, w33₁, swK₁]
  by_cases h25₁ : isWd B₁ n₁ 200 p₁ 25 = true
  · rw [if_pos h25₁]; exact ⟨fun _ => ⟨w27₁.mpr h25₁, by decide⟩, fun z₁ => absurd z₁ (by decide)⟩
  by_cases h26₁ : isWd B₁ n₁ 200 p₁ 26 = true
  · rw [if_neg h25₁]; rw [if_pos h26₁]; exact ⟨fun _ => ⟨w28₁.mpr h26₁, by decide⟩, fun z₁ => absurd z₁ (by decide)⟩
  by_cases h27₁ : isWd B₁ n₁ 200 p₁ 27 = true
  · rw [if_neg h25₁]; rw [if_neg h26₁]; rw [if_pos h27₁]; exact ⟨fun _ => ⟨w29₁.mpr h27₁, by decide⟩, fun z₁ => absurd z₁ (by decide)⟩
  by_cases h28₁ : isWd B₁ n₁ 200 p₁ 28 = true
  · rw [if_neg h25₁]; rw [if_neg h26₁]; rw [if_neg h27₁]; rw [if_pos h28₁]; exact ⟨fun _ => ⟨w7₁.mpr h28₁, by decide⟩, fun z₁ => absurd z₁ (by decide)⟩
  by_cases h29₁ : isWd B₁ n₁ 200 p₁ 29 = true
  · rw [if_neg h25₁]; rw [if_neg h26₁]; rw [if_neg h27₁]; rw [if_neg h28₁]; rw [if_pos h29₁]; exact ⟨fun _ => ⟨w30₁.mpr h29₁, by decide⟩, fun z₁ => absurd z₁ (by decide)⟩
  by_cases h30₁ : isWd B₁ n₁ 200 p₁ 30 = true
  · rw [if_neg h25₁]; rw [if_neg h26₁]; rw [if_neg h27₁]; rw [if_neg h28₁]; rw [if_neg h29₁]; rw [if_pos h30₁]; exact ⟨fun _ => ⟨w31₁.mpr h30₁, by decide⟩, fun z₁ => absurd z₁ (by decide)⟩
  by_cases h31₁ : isWd B₁ n₁ 200 p₁ 31 = true
  · rw [if_neg h25₁]; rw [if_neg h26₁]; rw [if_neg h27₁]; rw [if_neg h28₁]; rw [if_neg h29₁]; rw [if_neg h30₁]; rw [if_pos h31₁]; exact ⟨fun _ => ⟨w32₁.mpr h31₁, by decide⟩, fun z₁ => absurd z₁ (by decide)⟩
  by_cases h32₁ : isWd B₁ n₁ 200 p₁ 32 = true
  · rw [if_neg h25₁]; rw [if_neg h26₁]; rw [if_neg h27₁]; rw [if_neg h28₁]; rw [if_neg h29₁]; rw [if_neg h30₁]; rw [if_neg h31₁]; rw [if_pos h32₁]; exact ⟨fun _ => ⟨w9₁.mpr h32₁, by decide⟩, fun z₁ => absurd z₁ (by decide)⟩
  by_cases h33₁ : isWd B₁ n₁ 200 p₁ 33 = true
  · rw [if_neg h25₁]; rw [if_neg h26₁]; rw [if_neg h27₁]; rw [if_neg h28₁]; rw [if_neg h29₁]; rw [if_neg h30₁]; rw [if_neg h31₁]; rw [if_neg h32₁]; rw [if_pos h33₁]; exact ⟨fun _ => ⟨w33₁.mpr h33₁, by decide⟩, fun z₁ => absurd z₁ (by decide)⟩
  rw [if_neg h25₁]; rw [if_neg h26₁]; rw [if_neg h27₁]; rw [if_neg h28₁]; rw [if_neg h29₁]; rw [if_neg h30₁]; rw [if_neg h31₁]; rw [if_neg h32₁]; rw [if_neg h33₁]; exact ⟨fun z₁ => absurd rfl z₁, fun _ => by simp only [h25₁, h26₁, h27₁, h28₁, h29₁, h30₁, h31₁, h32₁, h33₁, Bool.false_eq_true, or_self, not_false_eq_true]⟩
theorem s_one33 {d₁ : Nat} {b₁ : Bool} {l0₁ : List (Nat × Nat × Nat)} {Q₁ : Bool → MI → ML → Prop} {W₁ : Nat → Nat → Nat → Int32 → MK → MK → MI → ML → MR → (Bool → MI → ML → Prop) → Prop} (hX₁ : PDL K₁ N₁ R₁ x₁) (hd₁ : d₁ ≤ 8) (hW₁ : ∀ e₁, d₁ = e₁ + 1 → SONE K₁ N₁ R₁ x₁ B₁ n₁ NM₁ sc₁ W₁ e₁)
    (hS₁ : SNC₁ K₁ N₁ R₁ I₁ L₁ x₁ B₁ n₁ p₁ k₁ l0₁) (hN₁ : NMC₁ I₁ L₁ x₁ NM₁ sc₁) (hk₁ : k₁ ≤ 20) (hl₁ : l0₁.length ≤ 2 * k₁) (hb₁ : isSn B₁ n₁ 200 p₁ 40 = b₁) (h0₁ : b₁ = true ∨ swK₁ B₁ n₁ 200 p₁ ≠ 0)
    (hbad : ∀ e₁ pl₁, pOneD B₁ n₁ 200 NM₁ sc₁ d₁ k₁ p₁ = .inl (e₁, pl₁) → ∀ J₁ M₁, SNB₁ J₁ x₁ e₁ pl₁ → frSn x₁ J₁ I₁ M₁ L₁ → Q₁ false J₁ M₁)
    (hok₁ : ∀ l₁ k'₁ p'₁, pOneD B₁ n₁ 200 NM₁ sc₁ d₁ k₁ p₁ = .inr (l₁, k'₁, p'₁) → ∀ J₁ M₁, SNC₁ K₁ N₁ R₁ J₁ M₁ x₁ B₁ n₁ p'₁ k'₁ (l0₁ ++ l₁) → J₁ (x₁ + 1) 10 = I₁ (x₁ + 1) 10 → frSn x₁ J₁ I₁ M₁ L₁ → Q₁ true J₁ M₁) : w_X6_readOne_33 (w_X6_readCond W₁) W₁ (x₁ + 53) (x₁ + 1) (x₁ + 3) (nI (9 - d₁)) (whS₁ B₁ n₁ 200 p₁) b₁ K₁ N₁ I₁ L₁ R₁ Q₁ := by
  obtain ⟨sw1₁, sw0₁⟩ := swK_w (B₁ := B₁) (n₁ := n₁) (p₁ := p₁)
  have sp0₁ : ¬ (isSn B₁ n₁ 200 p₁ 40 = false ∧ swK₁ B₁ n₁ 200 p₁ = 0) := fun z₁ => by
    rcases h0₁ with h0₁ | h0₁
    · rw [hb₁, h0₁] at z₁; exact absurd z₁.1 (by decide)
    · exact h0₁ z₁.2
  delta w_X6_readOne_33
  rw [hS₁.2.2, show (20 : Int32) = nI 20 from rfl, leN (by omega) (by omega), show (8 : Int32) = nI 8 from rfl, leN (by omega) (by omega)]
  refine ⟨hX₁.srd, fun q₁ => ⟨hX₁.tok, s_failT (k₁ := 4) hS₁.1 (fun J₁ f₁ => hbad 4 (tkS₁ B₁ n₁ 200 p₁) ?_ J₁ L₁ (SNB_f hS₁ f₁) (frSn_f f₁))⟩, fun q₁ => ⟨fun q8₁ => ?_, fun q8₁ => ⟨hX₁.tok, s_failT (k₁ := 4) hS₁.1 (fun J₁ f₁ => hbad 4 (tkS₁ B₁ n₁ 200 p₁) ?_ J₁ L₁ (SNB_f hS₁ f₁) (frSn_f f₁))⟩⟩⟩
  · cases d₁ with
    | zero => rw [pOneD, if_neg sp0₁]
    | succ e₁ => rw [pOneD, if_neg sp0₁, if_pos (by omega)]
  rotate_left
  · cases d₁ with
    | zero => rw [pOneD, if_neg sp0₁]
    | succ e₁ => omega
  obtain ⟨e₁, rfl⟩ : ∃ e₁, d₁ = e₁ + 1 := ⟨d₁ - 1, by omega⟩
  have pok₁ := pOneD_ok (B₁ := B₁) (n₁ := n₁) (lm₁ := 200) (NM₁ := NM₁) (sc₁ := sc₁) e₁
  rw [pOneD, if_neg sp0₁, if_neg (by omega)] at hbad hok₁
  intro I8₁ g8₁
  have s8₁ : SNC₁ K₁ N₁ R₁ I8₁ L₁ x₁ B₁ n₁ p₁ (k₁ + 1) l0₁ := ⟨TCS_fr hS₁.1 (by rw [g8₁, mup_ne (by omega)]) (fun y₁ _ _ => by rw [g8₁, mup_ne (by omega)]) rfl, SED_fr hS₁.2.1 (fun a₁ q1₁ q2₁ => by rw [g8₁, mup_ne (by omega)]), by rw [g8₁, mup_at, nI_1]⟩
  have f8₁ : frSn x₁ I8₁ I₁ L₁ L₁ := ⟨fun a₁ _ q2₁ => by rw [g8₁, mup_ne (by omega)], fun _ _ => rfl⟩
  refine ⟨hX₁.tok, s_snext s8₁ (fun J₁ M₁ s9₁ j9₁ f9₁ => ?_)⟩
  have fr9₁ : frSn x₁ J₁ I₁ M₁ L₁ := frSn_t f9₁ f8₁
  have e9₁ : J₁ (x₁ + 1) 10 = I₁ (x₁ + 1) 10 := by rw [j9₁, g8₁, mup_ne (by omega)]
  have ed₁ : nI (9 - (e₁ + 1)) + 1 = nI (9 - e₁) := by rw [nI_1, show 9 - (e₁ + 1) + 1 = 9 - e₁ by omega]
  rw [ed₁]
  cases b₁ with
  | true =>
    refine ⟨fun y₁ => absurd y₁ (by decide), fun _ => ?_⟩
    rw [if_pos hb₁] at hbad hok₁
    refine s_cond hX₁ (hW₁ e₁ rfl) s9₁ (NMC_fr hN₁ fr9₁) (by omega) (by omega) (fun e'₁ pl₁ he₁ J2₁ M2₁ b2₁ f2₁ => ⟨fun _ => hbad e'₁ pl₁ (by rw [he₁]) J2₁ M2₁ b2₁ (frSn_t f2₁ fr9₁), fun y₁ => absurd y₁ (by decide)⟩) (fun l₁ k'₁ q₁ he₁ J2₁ M2₁ s2₁ j2₁ f2₁ => ⟨fun y₁ => absurd y₁ (by decide), fun _ => ?_⟩)
    rw [he₁] at hbad hok₁
    refine s_passSign (c₁ := 41) s2₁.1 (by decide) (fun es₁ J3₁ M3₁ t3₁ f3₁ => ⟨fun y₁ => absurd y₁ (by decide), fun _ => hok₁ l₁ k'₁ (tkN₁ B₁ n₁ 200 q₁) (by simp only [es₁, if_true]) J3₁ M3₁ ⟨t3₁, SED_fr s2₁.2.1 (fun a₁ q1₁ q2₁ => f3₁.1 a₁ (by omega)), by rw [f3₁.1 _ (by omega)]; exact s2₁.2.2⟩ (by rw [frK_10 f3₁, j2₁, e9₁]) (frSn_t (frSn_K f3₁) (frSn_t f2₁ fr9₁))⟩) (fun es₁ J3₁ f3₁ => ⟨fun _ => hbad 1 (tkS₁ B₁ n₁ 200 q₁) (by simp only [es₁, Bool.false_eq_true, if_false]) J3₁ M2₁ (SNB_f s2₁ f3₁) (frSn_t (frSn_f f3₁) (frSn_t f2₁ fr9₁)), fun y₁ => absurd y₁ (by decide)⟩)
  | false =>
    refine ⟨fun _ => ?_, fun y₁ => absurd y₁ (by decide)⟩
    rw [if_neg (by rw [hb₁]; decide)] at hbad hok₁
    have h0'₁ : swK₁ B₁ n₁ 200 p₁ ≠ 0 := h0₁.resolve_left (by decide)
    obtain ⟨ew₁, hsw₁⟩ := sw1₁ h0'₁
    rw [ew₁]
    generalize swK₁ B₁ n₁ 200 p₁ = c₁ at hbad hok₁ hsw₁
    have hlen : l0₁.length < 40 := by omega
    have leaf : (c₁ = 28 ∨ c₁ = 29 ∨ c₁ = 7) → ∃ b24₁ : Nat, R₁ (x₁ + 53) 0 = some b24₁ ∧ K₁ b24₁ = 6 ∧ w_X5_add b24₁ (nI c₁) (nI 0) (nI 0) K₁ N₁ J₁ M₁ R₁ (fun I26₁ => Q₁ true I26₁ M₁) := fun hc₁ => by
      have pl₁ : pLef B₁ n₁ 200 NM₁ sc₁ c₁ (tkN₁ B₁ n₁ 200 p₁) = .inr ([(c₁, 0, 0)], tkN₁ B₁ n₁ 200 p₁) := by rw [pLef, if_pos hc₁]
      rw [if_neg (by omega), pl₁] at hok₁
      exact ⟨_, hX₁.srd_r, hX₁.srd_s.1, s_sput (c₁ := c₁) (g₁ := 0) (v₁ := 0) hX₁ s9₁ hlen (fun J2₁ s2₁ e2₁ f2₁ => hok₁ [(c₁, 0, 0)] (k₁ + 1) (tkN₁ B₁ n₁ 200 p₁) rfl J2₁ M₁ s2₁ (by rw [e2₁, e9₁]) (frSn_t f2₁ fr9₁))⟩
    rw [show (27 : Int32) = nI 27 from rfl, show (28 : Int32) = nI 28 from rfl, show (29 : Int32) = nI 29 from rfl, show (7 : Int32) = nI 7 from rfl, show (30 : Int32) = nI 30 from rfl, eqN (by omega) (by omega), eqN (by omega) (by omega), eqN (by omega) (by omega), eqN (by omega) (by omega), eqN (by omega) (by omega)]
    refine ⟨fun a27₁ => ⟨fun a28₁ => leaf (by omega), fun a28₁ => ⟨fun a29₁ => leaf (by omega), fun a29₁ => ⟨fun a7₁ => ⟨fun a30₁ => ?_, fun a30₁ => ?_⟩, fun a7₁ => leaf (by omega)⟩⟩⟩, fun a27₁ => ?_⟩
    · rw [if_neg a27₁] at hbad hok₁
      exact s_snCmp (NM₁ := NM₁) (sc₁ := sc₁) hX₁ s9₁ hlen ⟨by omega, a30₁⟩ (fun e'₁ pl₁ he₁ J2₁ M2₁ b2₁ f2₁ => hbad e'₁ pl₁ (by rw [he₁]) J2₁ M2₁ b2₁ (frSn_t f2₁ fr9₁)) (fun l₁ q₁ he₁ J2₁ M2₁ s2₁ j2₁ f2₁ => hok₁ l₁ (k₁ + 1) q₁ (by rw [he₁]) J2₁ M2₁ s2₁ (by rw [j2₁, e9₁]) (frSn_t f2₁ fr9₁))
    · rw [if_neg a27₁, a30₁] at hbad hok₁
      exact s_snScope hX₁ s9₁ (NMC_fr hN₁ fr9₁) hlen (fun e'₁ pl₁ he₁ J2₁ M2₁ b2₁ f2₁ => hbad e'₁ pl₁ (by rw [he₁]) J2₁ M2₁ b2₁ (frSn_t f2₁ fr9₁)) (fun l₁ q₁ he₁ J2₁ M2₁ s2₁ j2₁ f2₁ => hok₁ l₁ (k₁ + 1) q₁ (by rw [he₁]) J2₁ M2₁ s2₁ (by rw [j2₁, e9₁]) (frSn_t f2₁ fr9₁))
    · rw [if_pos a27₁] at hbad hok₁
      refine hW₁ e₁ rfl J₁ M₁ (tkN₁ B₁ n₁ 200 p₁) (k₁ + 1) l0₁ _ s9₁ (NMC_fr hN₁ fr9₁) (by omega) (by omega) (fun e'₁ pl₁ he₁ J2₁ M2₁ b2₁ f2₁ => ⟨_, hX₁.srd_r, hX₁.srd_s.1, ?_⟩) (fun l₁ k'₁ q₁ he₁ J2₁ M2₁ s2₁ j2₁ f2₁ => ⟨_, hX₁.srd_r, hX₁.srd_s.1, ?_⟩)
      · obtain ⟨j10₁, j11₁, ll₁, sd₁⟩ := b2₁
        exact s_sadd (c₁ := 27) (g₁ := 0) (v₁ := 0) hX₁.srd_s sd₁ (fun J3₁ l3₁ s3₁ _ f3₁ => hbad e'₁ pl₁ (by rw [he₁]) J3₁ M2₁ ⟨by rw [f3₁ _ (by omega)]; exact j10₁, by rw [f3₁ _ (by omega)]; exact j11₁, l3₁, s3₁⟩ (frSn_t (frSn_a f3₁) (frSn_t f2₁ fr9₁)))
      · obtain ⟨o1₁, o2₁, o3₁⟩ := pok₁ _ _ _ _ _ (by omega) he₁
        exact s_sput (c₁ := 27) (g₁ := 0) (v₁ := 0) hX₁ s2₁ (by rw [List.length_append]; omega) (fun J3₁ s3₁ e3₁ f3₁ => hok₁ (l₁ ++ [(27, 0, 0)]) k'₁ q₁ (by rw [he₁]) J3₁ M2₁ (by rw [← List.append_assoc]; exact s3₁) (by rw [e3₁, j2₁, e9₁]) (frSn_t f3₁ (frSn_t f2₁ fr9₁)))
theorem s_one {d₁ : Nat} {W₁ : Nat → Nat → Nat → Int32 → MK → MK → MI → ML → MR → (Bool → MI → ML → Prop) → Prop} (hX₁ : PDL K₁ N₁ R₁ x₁) (hd₁ : d₁ ≤ 8) (hW₁ : ∀ e₁, d₁ = e₁ + 1 → SONE K₁ N₁ R₁ x₁ B₁ n₁ NM₁ sc₁ W₁ e₁) : SONE K₁ N₁ R₁ x₁ B₁ n₁ NM₁ sc₁ (w_X6_readOne (w_X6_readCond W₁) W₁) d₁ := by
  intro I₁ L₁ p₁ k₁ l0₁ Q₁ hS₁ hN₁ hk₁ hl₁ hbad hok₁
  obtain ⟨sw1₁, sw0₁⟩ := swK_w (B₁ := B₁) (n₁ := n₁) (p₁ := p₁)
  delta w_X6_readOne
  refine ⟨hX₁.tok, s_wordHere hS₁.1 (s_isSign (c₁ := 40) hS₁.1 (by decide) ⟨fun yb₁ => s_one33 hX₁ hd₁ hW₁ hS₁ hN₁ hk₁ hl₁ rfl (Or.inl yb₁) hbad hok₁, fun nb₁ => s_isFirst (fun h₁ => ⟨fun _ => s_one33 hX₁ hd₁ hW₁ hS₁ hN₁ hk₁ hl₁ rfl (Or.inr (fun z₁ => sw0₁ z₁ h₁)) hbad hok₁, fun y₁ => absurd y₁ (by decide)⟩) (fun h₁ => ⟨fun y₁ => absurd y₁ (by decide), fun _ => s_failT (k₁ := 1) hS₁.1 (fun J₁ f₁ => hbad 1 (tkS₁ B₁ n₁ 200 p₁) ?_ J₁ L₁ (SNB_f hS₁ f₁) (frSn_f f₁))⟩)⟩)⟩
  have z₁ : swK₁ B₁ n₁ 200 p₁ = 0 := Decidable.byContradiction (fun z₁ => by
    obtain ⟨e₁, h3₁⟩ := sw1₁ z₁
    rw [e₁] at h₁
    have : swK₁ B₁ n₁ 200 p₁ = 7 ∨ swK₁ B₁ n₁ 200 p₁ = 9 ∨ swK₁ B₁ n₁ 200 p₁ = 27 ∨ swK₁ B₁ n₁ 200 p₁ = 28 ∨ swK₁ B₁ n₁ 200 p₁ = 29 ∨ swK₁ B₁ n₁ 200 p₁ = 30 ∨ swK₁ B₁ n₁ 200 p₁ = 31 ∨ swK₁ B₁ n₁ 200 p₁ = 32 ∨ swK₁ B₁ n₁ 200 p₁ = 33 := by omega
    rcases this with q₁ | q₁ | q₁ | q₁ | q₁ | q₁ | q₁ | q₁ | q₁ <;> (rw [q₁] at h₁; exact h₁ (by decide)))
  cases d₁ with
  | zero => rw [pOneD, if_pos ⟨nb₁, z₁⟩]
  | succ e₁ => rw [pOneD, if_pos ⟨nb₁, z₁⟩]
theorem s_oneD (hX₁ : PDL K₁ N₁ R₁ x₁) : ∀ e₁ d₁, d₁ ≤ 8 → d₁ < e₁ → SONE K₁ N₁ R₁ x₁ B₁ n₁ NM₁ sc₁ (wd_X6_readOne e₁) d₁
  | 0, d₁, _, h₁ => absurd h₁ (Nat.not_lt_zero d₁)
  | e₁ + 1, d₁, hd₁, h₁ => by
    rw [wd_X6_readOne]
    exact s_one hX₁ hd₁ (fun e'₁ he₁ => s_oneD hX₁ e₁ e'₁ (by omega) (by omega))
/-- what reading a sentence comes to -/
theorem s_readSentence {Q₁ : Int32 → MI → ML → Prop} (hX₁ : PDL K₁ N₁ R₁ x₁) (hb₁ : ∀ i₁, B₁ i₁ < 256) (h940 : n₁ ≤ 940) (hB₁ : TAP₁ I₁ (x₁ + 2) B₁ n₁) (hn₁ : I₁ (x₁ + 1) 1 = nI n₁) (hN₁ : NMC₁ I₁ L₁ x₁ NM₁ sc₁)
    (hbad : ∀ e₁ pl₁, pSen B₁ n₁ 200 NM₁ sc₁ = .inl (e₁, pl₁) → ∀ r₁ J₁ M₁, J₁ (x₁ + 1) 10 = nI e₁ → J₁ (x₁ + 1) 11 = nI pl₁ → frSn x₁ J₁ I₁ M₁ L₁ → Q₁ r₁ J₁ M₁)
    (hok₁ : ∀ l₁ k₁, pSen B₁ n₁ 200 NM₁ sc₁ = .inr (l₁, k₁) → ∀ J₁ M₁, SED₁ J₁ (x₁ + 54) l₁ → J₁ (x₁ + 1) 10 = 0 → frSn x₁ J₁ I₁ M₁ L₁ → Q₁ (nI k₁) J₁ M₁) : w_X6_readSentence (x₁ + 53) (x₁ + 1) (x₁ + 3) K₁ N₁ I₁ L₁ R₁ Q₁ := by
  delta w_X6_readSentence
  refine ⟨hX₁.srd, _, hX₁.srd_r, hX₁.srd_s.1, ?_⟩
  delta w_X5_forget
  refine ⟨hX₁.srd_s.1, fun I4₁ g4₁ I5₁ g5₁ => ⟨hX₁.tok, ?_⟩⟩
  have b5₁ : ∀ b₁, b₁ < x₁ + 53 ∨ x₁ + 54 < b₁ → I5₁ b₁ = I₁ b₁ := fun b₁ q₁ => by rw [g5₁, mup_ne (by omega), g4₁, mup_ne (by omega)]
  have s5₁ : SED₁ I5₁ (x₁ + 54) [] := ⟨by rw [g5₁, mup_ne (by omega), g4₁, mup_at]; rfl, Nat.zero_le _, fun i₁ hi₁ => absurd hi₁ (Nat.not_lt_zero i₁)⟩
  refine s_begin (lm₁ := 200) ⟨hX₁.tok, hX₁.tok_r, hX₁.tok_k, hX₁.tok_n⟩ hb₁ h940 (fun i₁ hi₁ => by show I5₁ (x₁ + 2) i₁ = _; rw [b5₁ _ (by omega)]; exact hB₁ i₁ hi₁) (by rw [b5₁ _ (by omega)]; exact hn₁) (by decide) (fun J2₁ M2₁ t2₁ e10₁ _ f2₁ l2₁ => ?_)
  have t0₁ : TCS₁ K₁ N₁ R₁ J2₁ M2₁ (x₁ + 1) B₁ n₁ 200 0 := ⟨⟨hX₁.tok, hX₁.tok_r, hX₁.tok_k, hX₁.tok_n⟩, hb₁, h940, by decide, Nat.zero_le _, fun i₁ hi₁ => by show J2₁ (x₁ + 2) i₁ = _; rw [f2₁ _ (by omega), b5₁ _ (by omega)]; exact hB₁ i₁ hi₁, t2₁⟩
  have S0₁ : SNC₁ K₁ N₁ R₁ J2₁ M2₁ x₁ B₁ n₁ 0 0 [] := ⟨t0₁, SED_fr s5₁ (fun b₁ q1₁ q2₁ => f2₁ b₁ (by omega)), by rw [f2₁ _ (by omega), g5₁, mup_at]; rfl⟩
  have g0₁ : frSn x₁ J2₁ I₁ M2₁ L₁ := ⟨fun b₁ q1₁ q2₁ => by rw [f2₁ b₁ q1₁, b5₁ b₁ (by omega)], fun b₁ q1₁ => l2₁ b₁ q1₁⟩
  have sp₁ : pSen B₁ n₁ 200 NM₁ sc₁ = match pCon B₁ n₁ 200 (pOneD B₁ n₁ 200 NM₁ sc₁ 8) 0 0 with
    | .inl e₁ => .inl e₁
    | .inr (l₁, k₁, p₁) => if tkK₁ B₁ n₁ 200 p₁ = 0 then .inr (l₁, k₁) else .inl (1, tkS₁ B₁ n₁ 200 p₁) := rfl
  rw [sp₁] at hbad hok₁
  delta wc_X6_readCond
  refine s_cond (d₁ := 8) hX₁ (s_oneD hX₁ 11 8 (by decide) (by decide)) S0₁ (NMC_fr hN₁ g0₁) (by decide) (Nat.zero_le _) (fun e₁ pl₁ he₁ J₁ M₁ b₁ f₁ => ⟨fun _ => hbad e₁ pl₁ (by rw [he₁]) _ J₁ M₁ b₁.1 b₁.2.1 (frSn_t f₁ g0₁), fun y₁ => absurd y₁ (by decide)⟩) (fun l₁ k₁ p₁ he₁ J₁ M₁ s₁ j₁ f₁ => ⟨fun y₁ => absurd y₁ (by decide), fun _ => ?_⟩)
  rw [he₁] at hbad hok₁
  have k4₁ : J₁ (x₁ + 1) 4 = nI (tkK₁ B₁ n₁ 200 p₁) := s₁.1.2.2.2.2.2.2.2.2.2.1
  have hk4₁ := tkK_le (B₁ := B₁) (n₁ := n₁) (lm₁ := 200) (p₁ := p₁)
  rw [k4₁, show (nI (tkK₁ B₁ n₁ 200 p₁) = 0) = (nI (tkK₁ B₁ n₁ 200 p₁) = nI 0) from rfl, eqN (by omega) (by omega), s₁.2.2]
  refine ⟨fun z₁ => hok₁ l₁ k₁ (by simp only [z₁, if_true]) J₁ M₁ (by have := s₁.2.1; rw [List.nil_append] at this; exact this) (by rw [j₁]; exact e10₁) (frSn_t f₁ g0₁), fun z₁ => s_failT (k₁ := 1) s₁.1 (fun J3₁ f3₁ => ?_)⟩
  · exact hbad 1 _ (by simp only [z₁, if_false]) _ J3₁ M₁ f3₁.1 f3₁.2.1 (frSn_t (frSn_f f3₁) (frSn_t f₁ g0₁))
end SC₁
