/-! ===== a 'size' line, a 'row' line: the class ===== -/
def DSC₁ (K₁ N₁ : MK) (R₁ : MR) (I₁ : MI) (L₁ : ML) (x₁ : Nat) (B₁ : Nat → Nat) (n₁ lm₁ : Nat) (U₁ : Nat → Int32) (NM₁ : Nat → List Nat) (p₁ : Nat) : Prop := TCS₁ K₁ N₁ R₁ I₁ L₁ (x₁ + 1) B₁ n₁ lm₁ p₁ ∧ UD I₁ L₁ (x₁ + 37) U₁ (eNM₁ NM₁) ∧ WFU₁ U₁ ∧ NOK₁ U₁ NM₁
/-- what reading a line leaves as it was -/
def frD₁ (x₁ : Nat) (J₁ I₁ : MI) (M₁ L₁ : ML) : Prop := (∀ b₁, b₁ ≠ x₁ + 1 → b₁ < x₁ + 36 ∨ x₁ + 52 < b₁ → J₁ b₁ = I₁ b₁) ∧ (∀ b₁, b₁ ≠ x₁ + 1 → b₁ < x₁ + 37 ∨ x₁ + 52 < b₁ → M₁ b₁ = L₁ b₁) ∧ (∀ y₁, y₁ ≠ 2 → J₁ (x₁ + 36) y₁ = I₁ (x₁ + 36) y₁) ∧ ∀ b₁, b₁ = x₁ + 38 ∨ b₁ = x₁ + 41 ∨ b₁ = x₁ + 44 ∨ b₁ = x₁ + 47 ∨ b₁ = x₁ + 50 → J₁ b₁ 0 = I₁ b₁ 0
def flD₁ (x₁ k₁ pl₁ : Nat) (J₁ : MI) : Prop := J₁ (x₁ + 1) 10 = nI k₁ ∧ J₁ (x₁ + 1) 11 = nI pl₁
section UN₁
variable {K₁ N₁ : MK} {I₁ : MI} {L₁ : ML} {R₁ : MR} {t₁ n₁ lm₁ p₁ x₁ g₁ u₁ tb₁ mm₁ w₁ c₁ : Nat} {B₁ : Nat → Nat} {U₁ : Nat → Int32} {NM₁ : Nat → List Nat}
theorem frD_r : frD₁ x₁ I₁ I₁ L₁ L₁ := ⟨fun _ _ _ => rfl, fun _ _ _ => rfl, fun _ _ => rfl, fun _ _ => rfl⟩
theorem frD_t {J₁ J'₁ : MI} {M₁ M'₁ : ML} (h₁ : frD₁ x₁ J'₁ J₁ M'₁ M₁) (h2₁ : frD₁ x₁ J₁ I₁ M₁ L₁) : frD₁ x₁ J'₁ I₁ M'₁ L₁ := ⟨fun b₁ q1₁ q2₁ => by rw [h₁.1 b₁ q1₁ q2₁, h2₁.1 b₁ q1₁ q2₁], fun b₁ q1₁ q2₁ => by rw [h₁.2.1 b₁ q1₁ q2₁, h2₁.2.1 b₁ q1₁ q2₁], fun y₁ hy₁ => by rw [h₁.2.2.1 y₁ hy₁, h2₁.2.2.1 y₁ hy₁], fun b₁ q₁ => by rw [h₁.2.2.2 b₁ q₁, h2₁.2.2.2 b₁ q₁]⟩
theorem frD_K {J₁ : MI} {M₁ : ML} (h₁ : frK₁ (x₁ + 1) J₁ I₁ M₁ L₁) : frD₁ x₁ J₁ I₁ M₁ L₁ := ⟨fun b₁ q1₁ _ => h₁.1 b₁ q1₁, fun b₁ q1₁ _ => h₁.2.2 b₁ q1₁, fun y₁ _ => by rw [h₁.1 (x₁ + 36) (by omega)], fun b₁ q₁ => by rw [h₁.1 b₁ (by omega)]⟩
theorem frD_f {J₁ : MI} {k₁ pl₁ : Nat} (h₁ : flC₁ (x₁ + 1) k₁ pl₁ J₁ I₁) : frD₁ x₁ J₁ I₁ L₁ L₁ := ⟨fun b₁ q1₁ _ => h₁.2.2.1 b₁ q1₁, fun _ _ _ => rfl, fun y₁ _ => by rw [h₁.2.2.1 (x₁ + 36) (by omega)], fun b₁ q₁ => by rw [h₁.2.2.1 b₁ (by omega)]⟩
theorem flD_f {J₁ : MI} {k₁ pl₁ : Nat} (h₁ : flC₁ (x₁ + 1) k₁ pl₁ J₁ I₁) : flD₁ x₁ k₁ pl₁ J₁ := ⟨h₁.1, h₁.2.1⟩
theorem frK_10 {J₁ : MI} {M₁ : ML} (h₁ : frK₁ t₁ J₁ I₁ M₁ L₁) : J₁ t₁ 10 = I₁ t₁ 10 := h₁.2.1 10 (by decide) (by decide) (by decide) (by decide) (by decide) (by decide)
theorem UD_K {J₁ : MI} {M₁ : ML} {W₁ : Nat → Int64} (h₁ : UD I₁ L₁ (x₁ + 37) U₁ W₁) (g₁ : frK₁ (x₁ + 1) J₁ I₁ M₁ L₁) : UD J₁ M₁ (x₁ + 37) U₁ W₁ := h₁.fr (fun a₁ h1₁ h2₁ => g₁.1 a₁ (by omega)) (fun a₁ h1₁ h2₁ => g₁.2.2 a₁ (by omega))
theorem s_beginSort {Q₁ : Bool → MI → ML → Prop} (hT₁ : TCS₁ K₁ N₁ R₁ I₁ L₁ t₁ B₁ n₁ lm₁ p₁) (hTb₁ : TL K₁ N₁ R₁ tb₁ mm₁ w₁) (hD₁ : TD I₁ tb₁ mm₁ w₁ c₁)
    (h1₁ : c₁ = mm₁ → ∀ J₁, flC₁ t₁ 4 (tkS₁ B₁ n₁ lm₁ p₁) J₁ I₁ → Q₁ false J₁ L₁) (h0₁ : c₁ ≠ mm₁ → ∀ J₁ M₁, TCS₁ K₁ N₁ R₁ J₁ M₁ t₁ B₁ n₁ lm₁ (tkN₁ B₁ n₁ lm₁ p₁) → frK₁ t₁ J₁ I₁ M₁ L₁ → Q₁ true J₁ M₁) : w_X10_beginSort g₁ t₁ tb₁ K₁ N₁ I₁ L₁ R₁ Q₁ := by
  refine ⟨hTb₁.1, s_isFull hTb₁ hD₁ ⟨fun z₁ => ⟨hT₁.1.1, s_next hT₁ (h0₁ (of_decide_eq_false z₁))⟩, fun z₁ => ⟨hT₁.1.1, s_failT (k₁ := 4) hT₁ (h1₁ (of_decide_eq_true z₁))⟩⟩⟩
theorem s_readSize {lines : Nat} {Q₁ : Bool → MI → ML → Prop} (hX₁ : PDL K₁ N₁ R₁ x₁) (hS₁ : DSC₁ K₁ N₁ R₁ I₁ L₁ x₁ B₁ n₁ lm₁ U₁ NM₁ p₁) (hl₁ : I₁ (x₁ + 36) 1 = nI lines) (hl2₁ : lines < 1000) (hz₁ : lines = 0 → ∀ k₁, 1 ≤ k₁ → k₁ < 6 → ix (U₁ k₁) = 0)
    (hbad : ∀ k₁ pl₁, pSize B₁ n₁ lm₁ lines U₁ NM₁ p₁ = .inl (k₁, pl₁) → ∀ J₁ M₁, flD₁ x₁ k₁ pl₁ J₁ → frD₁ x₁ J₁ I₁ M₁ L₁ → Q₁ false J₁ M₁)
    (hok₁ : ∀ U'₁ NM'₁ p'₁, pSize B₁ n₁ lm₁ lines U₁ NM₁ p₁ = .inr (U'₁, NM'₁, p'₁) → ∀ J₁ M₁, DSC₁ K₁ N₁ R₁ J₁ M₁ x₁ B₁ n₁ lm₁ U'₁ NM'₁ p'₁ → frD₁ x₁ J₁ I₁ M₁ L₁ → J₁ (x₁ + 1) 10 = I₁ (x₁ + 1) 10 → Q₁ true J₁ M₁) : w_X10_readSize (x₁ + 36) (x₁ + 1) K₁ N₁ I₁ L₁ R₁ Q₁ := by
  obtain ⟨hT₁, hD₁, hW₁, hN₁⟩ := hS₁
  delta w_X10_readSize
  rw [hl₁, show (0 : Int32) = nI 0 from rfl, leN (by omega) (by omega)]
  refine ⟨hX₁.urd, fun z₁ => ⟨hX₁.tok, s_next hT₁ (fun J1₁ M1₁ t1₁ f1₁ => s_needsNumber (lo₁ := 1) (hi₁ := 256) t1₁ (by decide) (by decide) (fun e0₁ k2₁ v1₁ v2₁ e8₁ => ⟨fun _ => ?_, fun y₁ => absurd y₁ (by decide)⟩) (fun e1₁ J2₁ f2₁ => ⟨fun y₁ => absurd y₁ (by decide), fun _ => ?_⟩))⟩, fun z₁ => ⟨hX₁.tok, s_failT (k₁ := 3) hT₁ (fun J₁ f₁ => ?_)⟩⟩
  · refine ⟨_, hX₁.urd_r, hX₁.urd_u.1, fun I9₁ g9₁ => ?_⟩
    rw [e8₁] at g9₁
    have t9₁ : TCS₁ K₁ N₁ R₁ I9₁ M1₁ (x₁ + 1) B₁ n₁ lm₁ (tkN₁ B₁ n₁ lm₁ p₁) := TCS_fr t1₁ (by rw [g9₁, mup_ne (by omega)]) (fun y₁ _ _ => by rw [g9₁, mup_ne (by omega)]) rfl
    refine s_next t9₁ (fun J₁ M₁ t3₁ f3₁ => hok₁ _ _ _ (by rw [pSize, if_neg (by omega), if_neg (fun q₁ => q₁ e0₁)]) J₁ M₁ ⟨t3₁, ?_, ?_, ?_⟩ (frD_t (frD_K f3₁) (frD_t ?_ (frD_K f1₁))) (by rw [frK_10 f3₁, g9₁, mup_ne (by omega), frK_10 f1₁]))
    · have u1₁ := UD_K hD₁ f1₁
      have n1₁ := hz₁ (by omega)
      have e0'₁ : J₁ (x₁ + 37) 0 = nI (tkV₁ B₁ n₁ (tkN₁ B₁ n₁ lm₁ p₁)) := by rw [f3₁.1 _ (by omega), g9₁, mup_at]
      have u2₁ : UD J₁ M₁ (x₁ + 37) (fun k₁ => if k₁ = 0 then J1₁ (x₁ + 37) 0 else U₁ k₁) (eNM₁ NM₁) → True := fun _ => trivial
      obtain ⟨a0₁, a1₁, a2₁, a3₁, a4₁, a5₁⟩ := u1₁
      have b9₁ : ∀ a₁, a₁ ≠ x₁ + 1 → a₁ ≠ x₁ + 37 → J₁ a₁ = J1₁ a₁ := fun a₁ q1₁ q2₁ => by rw [f3₁.1 a₁ q1₁, g9₁, mup_ne q2₁]
      have v0₁ : ∀ k₁, 1 ≤ k₁ → vst₁ U₁ 0 (nI (tkV₁ B₁ n₁ (tkN₁ B₁ n₁ lm₁ p₁))) k₁ = U₁ k₁ := fun k₁ hk₁ => vst_n (by omega)
      have cg₁ : ∀ k₁, k₁ ≠ 0 → vst₁ U₁ 0 (nI (tkV₁ B₁ n₁ (tkN₁ B₁ n₁ lm₁ p₁))) k₁ = U₁ k₁ := fun k₁ hk₁ => vst_n hk₁
      refine ⟨by rw [e0'₁, vst_a], ?_, ?_, ?_, ?_, ?_⟩
      · exact UD1_cg (a1₁.fr (b9₁ _ (by omega) (by omega)) (b9₁ _ (by omega) (by omega))) hW₁.1.1.2 (cg₁ 1 (by decide)) (fun k₁ q1₁ _ => cg₁ k₁ (by omega))
      · exact UD2_cg (a2₁.fr (b9₁ _ (by omega) (by omega)) (b9₁ _ (by omega) (by omega)) (f3₁.2.2 _ (by omega))) hW₁.1.2.1.2 (cg₁ 2 (by decide)) (fun k₁ q1₁ _ => cg₁ k₁ (by omega)) (fun _ _ => rfl)
      · exact UD3_cg (a3₁.fr (b9₁ _ (by omega) (by omega)) (b9₁ _ (by omega) (by omega)) (f3₁.2.2 _ (by omega))) hW₁.1.2.2.1.2 (cg₁ 3 (by decide)) (fun k₁ q1₁ _ => cg₁ k₁ (by omega)) (fun _ _ _ => rfl)
      · exact UD4_cg (a4₁.fr (b9₁ _ (by omega) (by omega)) (b9₁ _ (by omega) (by omega)) (f3₁.2.2 _ (by omega))) hW₁.1.2.2.2.1.2 (cg₁ 4 (by decide)) (fun k₁ q1₁ _ => cg₁ k₁ (by omega)) (fun _ _ _ => rfl)
      · exact UD5_cg (a5₁.fr (b9₁ _ (by omega) (by omega)) (b9₁ _ (by omega) (by omega))) hW₁.1.2.2.2.2.1.2 (WFo_m hW₁.1.2.2.2.2.1.2 hW₁.2.2.2.2.2.2.2) (cg₁ 5 (by decide)) (fun k₁ q1₁ _ => cg₁ k₁ (by omega))
    · have n1₁ := hz₁ (by omega)
      have cg₁ : ∀ k₁, k₁ ≠ 0 → vst₁ U₁ 0 (nI (tkV₁ B₁ n₁ (tkN₁ B₁ n₁ lm₁ p₁))) k₁ = U₁ k₁ := fun k₁ hk₁ => vst_n hk₁
      obtain ⟨c1₁, c2₁, c3₁, c4₁, c5₁, c0₁⟩ := hW₁.1
      have z1₁ := n1₁ 1 (by decide) (by decide)
      have z2₁ := n1₁ 2 (by decide) (by decide)
      have z3₁ := n1₁ 3 (by decide) (by decide)
      have z4₁ := n1₁ 4 (by decide) (by decide)
      have z5₁ := n1₁ 5 (by decide) (by decide)
      refine ⟨⟨?_, ?_, ?_, ?_, ?_, ?_⟩, ⟨fun i₁ j₁ _ hj₁ => ?_, fun k₁ hk₁ => ?_⟩, fun k₁ hk₁ => ?_, fun k₁ hk₁ => ?_, fun k₁ hk₁ => ?_, fun k₁ hk₁ => ?_, fun k₁ hk₁ => ?_, fun k₁ hk₁ => ?_⟩
      · rw [cg₁ 1 (by decide)]; exact c1₁
      · rw [cg₁ 2 (by decide)]; exact c2₁
      · rw [cg₁ 3 (by decide)]; exact c3₁
      · rw [cg₁ 4 (by decide)]; exact c4₁
      · rw [cg₁ 5 (by decide)]; exact c5₁
      · rw [vst_a, ix_nI (by omega)]; exact ⟨rfl, v1₁, v2₁⟩
      · rw [cg₁ 1 (by decide)] at hj₁; omega
      · rw [cg₁ 1 (by decide)] at hk₁; omega
      · rw [cg₁ 2 (by decide)] at hk₁; omega
      · rw [cg₁ 3 (by decide)] at hk₁; omega
      · rw [cg₁ 4 (by decide)] at hk₁; omega
      · rw [cg₁ 4 (by decide)] at hk₁; omega
      · rw [cg₁ 5 (by decide)] at hk₁; omega
      · rw [cg₁ 5 (by decide)] at hk₁; omega
    · rw [NOK₁, vst_n (by decide), vst_n (by decide), vst_n (by decide)]; exact hN₁
    · exact ⟨fun b₁ q1₁ q2₁ => by rw [g9₁, mup_ne (by omega)], fun _ _ _ => rfl, fun y₁ _ => by rw [g9₁, mup_ne (by omega)], fun b₁ q₁ => by rw [g9₁, mup_ne (by omega)]⟩
  · exact hbad _ _ (by rw [pSize, if_neg (by omega), if_pos e1₁]) J2₁ M1₁ (flD_f f2₁) (frD_t (frD_f f2₁) (frD_K f1₁))
  · exact hbad _ _ (by rw [pSize, if_pos (by omega)]) J₁ L₁ (flD_f f₁) (frD_f f₁)
/-- a row put in, by the class -/
theorem s_addRow {a₁ v₁ : Nat} {Q₁ : MI → ML → Prop} (hL₁ : UL K₁ N₁ R₁ u₁) (hD₁ : UD1₁ I₁ u₁ U₁) (hW₁ : WFU₁ U₁) (hn₁ : ix (U₁ 1) ≤ 29) (ha₁ : a₁ < ix (U₁ 0)) (hno₁ : rowAt U₁ a₁ = false)
    (h₁ : ∀ J₁ M₁, UD1₁ J₁ u₁ (insU U₁ (posS U₁ (nI a₁)) (ix (U₁ 1)) (nI a₁) (nI v₁)) → (∀ b₁, b₁ ≠ u₁ + 1 → b₁ ≠ u₁ + 1 + 2 → J₁ b₁ = I₁ b₁) → (∀ b₁, b₁ ≠ u₁ + 1 + 1 → M₁ b₁ = L₁ b₁) → Q₁ J₁ M₁) : w_X9_addRow u₁ (nI a₁) (nI v₁) K₁ N₁ I₁ L₁ R₁ Q₁ := by
  obtain ⟨q1₁, q2₁, q3₁⟩ := posS_p (U₁ := U₁) (a₁ := nI a₁)
  have n0₁ := hW₁.1.2.2.2.2.2.2.2
  obtain ⟨hU₁, hr₁, -⟩ := hW₁
  have hTb₁ := hL₁.2.2.2.2.2.2.1
  obtain ⟨hd₁, hrow⟩ := hD₁
  delta w_X9_addRow
  refine ⟨hL₁.1, _, hL₁.2.1, hTb₁.1, s_add hTb₁ hd₁ (by omega) ?_⟩
  rw [rowAt] at hno₁
  generalize hq₁ : posS U₁ (nI a₁) = q₁ at q1₁ q2₁ q3₁ hno₁ h₁
  have at2₁ : ∀ k₁, k₁ < ix (U₁ 1) → ∃ c₁, U₁ (6 + k₁) = nI c₁ ∧ c₁ < ix (U₁ 0) := fun k₁ hk₁ => (hr₁.2 k₁ hk₁).1
  have hrs₁ : ∀ i₁ j₁, i₁ < j₁ → j₁ < ix (U₁ 1) → U₁ (6 + i₁) < U₁ (6 + j₁) := hr₁.1
  clear hr₁ hU₁
  generalize hN₁ : ix (U₁ 1) = N1₁ at *
  have lo₁ : ∀ j₁, j₁ < N1₁ → (U₁ (6 + j₁) ≤ nI a₁ ↔ j₁ < q₁) := fun j₁ hj₁ => by
    obtain ⟨c₁, ec₁, hc₁⟩ := at2₁ j₁ hj₁
    constructor
    · intro z₁
      by_cases y₁ : j₁ < q₁
      · exact y₁
      · have g3₁ := q3₁ (by omega)
        obtain ⟨d₁, ed₁, hd₁⟩ := at2₁ q₁ (by omega)
        have hne₁ : ¬ d₁ = a₁ := fun w₁ => by
          rw [decide_eq_true (show q₁ < N1₁ by omega), decide_eq_true (show U₁ (6 + q₁) = nI a₁ by rw [ed₁, w₁])] at hno₁
          exact absurd hno₁ (by decide)
        rw [ed₁, ltN (by omega) (by omega)] at g3₁
        rw [ec₁, leN (by omega) (by omega)] at z₁
        by_cases e₁ : j₁ = q₁
        · rw [e₁, ed₁, eqN (by omega) (by omega)] at ec₁; omega
        · have := hrs₁ q₁ j₁ (by omega) (by omega)
          rw [ec₁, ed₁, ltN (by omega) (by omega)] at this; omega
    · intro y₁
      have := q2₁ j₁ y₁
      rw [ec₁, ltN (by omega) (by omega)] at this
      rw [ec₁, leN (by omega) (by omega)]; omega
  delta w_X9_addRow_12
  have hd9₁ : TD (mup I₁ (u₁ + 1) 3 (nI (N1₁ + 1))) (u₁ + 1) 30 2 (N1₁ + 1) := hd₁.many (by omega)
  refine ⟨fun n1₁ y0₁ y1₁ y2₁ y3₁ y4₁ I1₁ L1₁ => y0₁ = u₁ ∧ y1₁ = nI a₁ ∧ y2₁ = nI v₁ ∧ ∃ k₁, q₁ ≤ k₁ ∧ k₁ ≤ N1₁ ∧ n1₁ = k₁ ∧ y3₁ = nI k₁ ∧ y4₁ = nI (N1₁ - k₁) ∧ TD I1₁ (u₁ + 1) 30 2 (N1₁ + 1) ∧ (∀ j₁, j₁ < k₁ → I1₁ (u₁ + 1 + 2) (j₁ * 2 + 0) = U₁ (6 + j₁) ∧ I1₁ (u₁ + 1 + 2) (j₁ * 2 + 1) = U₁ (36 + j₁)) ∧ (∀ j₁, k₁ < j₁ → j₁ ≤ N1₁ → I1₁ (u₁ + 1 + 2) (j₁ * 2 + 0) = U₁ (6 + (j₁ - 1)) ∧ I1₁ (u₁ + 1 + 2) (j₁ * 2 + 1) = U₁ (36 + (j₁ - 1))) ∧ (∀ b₁, b₁ ≠ u₁ + 1 → b₁ ≠ u₁ + 1 + 2 → I1₁ b₁ = I₁ b₁) ∧ (∀ b₁, b₁ ≠ u₁ + 1 + 1 → L1₁ b₁ = L₁ b₁), ⟨N1₁, rfl, rfl, rfl, N1₁, q1₁, Nat.le_refl N1₁, rfl, rfl, by rw [Nat.sub_self]; rfl, hd9₁, fun j₁ hj₁ => by rw [mup_ne (by omega)]; exact hrow j₁ hj₁, fun j₁ h1₁ h2₁ => by omega, fun b₁ h1₁ _ => mup_ne h1₁, fun b₁ h1₁ => mup_ne h1₁⟩, ?_⟩
  rintro n1₁ y0₁ y1₁ y2₁ y3₁ y4₁ I1₁ L1₁ ⟨rfl, rfl, rfl, k₁, hk₁, hk2₁, rfl, rfl, rfl, hd1₁, lo1₁, hi1₁, f1₁, f2₁⟩
  have fin₁ : n1₁ = q₁ → w_X7_put (y0₁ + 1) (nI n1₁) 0 (nI a₁) K₁ N₁ I1₁ L1₁ R₁ (fun I10₁ => w_X7_put (y0₁ + 1) (nI n1₁) 1 (nI v₁) K₁ N₁ I10₁ L1₁ R₁ (fun I11₁ => Q₁ I11₁ L1₁)) := fun e₁ => by
    refine s_put (c₁ := 0) hTb₁ hd1₁ (by omega) (by decide) (s_put (n₁ := N1₁ + 1) (c₁ := 1) hTb₁ (hd1₁.fr (mup_ne (by omega))) (by omega) (by decide) (h₁ _ L1₁ ⟨?_, fun j₁ hj₁ => ?_⟩ (fun b₁ h1₁ h2₁ => by rw [mup_ne h2₁, mup_ne h2₁, f1₁ b₁ h1₁ h2₁]) f2₁))
    · rw [insU_1, ix_nI (by omega)]
      exact (hd1₁.fr (mup_ne (by omega))).fr (mup_ne (by omega))
    · rw [insU_1, ix_nI (by omega)] at hj₁
      rw [(insU_r hj₁ q1₁ (by omega)).1, (insU_r hj₁ q1₁ (by omega)).2]
      subst e₁
      by_cases j1₁ : j₁ < n1₁
      · rw [if_pos j1₁, if_pos j1₁, mup_k (by omega), mup_k (by omega), mup_k (by omega), mup_k (by omega)]; exact lo1₁ j₁ j1₁
      · rw [if_neg j1₁, if_neg j1₁]
        by_cases j2₁ : j₁ = n1₁
        · rw [if_pos j2₁, if_pos j2₁, j2₁, mup_k (by omega), mup_at, mup_at]; exact ⟨rfl, rfl⟩
        · rw [if_neg j2₁, if_neg j2₁, mup_k (by omega), mup_k (by omega), mup_k (by omega), mup_k (by omega)]; exact hi1₁ j₁ (by omega) (by omega)
  refine ⟨hL₁.1, _, hL₁.2.1, hTb₁.1, ?_⟩
  rw [hd1₁.2.1, leN (by omega) (by omega), show (0 : Int32) = nI 0 from rfl, leN (by omega) (by omega)]
  refine ⟨fun z₁ => absurd z₁ (by omega), fun _ => ⟨fun z₁ => fin₁ (by omega), fun z₁ => ?_⟩⟩
  obtain ⟨o₁, rfl⟩ : ∃ o₁, n1₁ = o₁ + 1 := ⟨n1₁ - 1, by omega⟩
  rw [nI_pred]
  refine s_at hTb₁ hd1₁ ?_
  rw [tat_in (by omega) (by omega) (by omega) (by omega), (lo1₁ o₁ (by omega)).1, lo₁ o₁ (by omega)]
  refine ⟨fun y₁ => fin₁ (by omega), fun y₁ => s_at hTb₁ hd1₁ ?_⟩
  rw [tat_in (by omega) (by omega) (by omega) (by omega), (lo1₁ o₁ (by omega)).1]
  have hd2₁ : ∀ (M2₁ : Int32), TD (mup I1₁ (y0₁ + 1 + 2) ((o₁ + 1) * 2 + 0) M2₁) (y0₁ + 1) 30 2 (N1₁ + 1) := fun M2₁ => hd1₁.fr (mup_ne (by omega))
  refine s_put (c₁ := 0) hTb₁ hd1₁ (by omega) (by decide) (s_at hTb₁ (hd2₁ _) ?_)
  rw [show (1 : Int32) = nI 1 from rfl, tat_in (by omega) (by omega) (by omega) (by omega), mup_k (by omega), (lo1₁ o₁ (by omega)).2]
  refine s_put (n₁ := N1₁ + 1) (c₁ := 1) hTb₁ (hd2₁ _) (by omega) (by decide) (fun v21₁ g21₁ v22₁ g22₁ => ⟨o₁, by omega, rfl, rfl, rfl, o₁, by omega, by omega, rfl, by rw [g21₁]; exact pk_m1 o₁, by rw [g22₁, addN, show N1₁ - (o₁ + 1) + 1 = N1₁ - o₁ by omega], (hd2₁ _).fr (mup_ne (by omega)), fun j₁ hj₁ => ?_, fun j₁ h1₁ h2₁ => ?_, fun b₁ h1₁ h2₁ => by rw [mup_ne h2₁, mup_ne h2₁, f1₁ b₁ h1₁ h2₁], f2₁⟩)
  · rw [mup_k (by omega), mup_k (by omega), mup_k (by omega), mup_k (by omega)]; exact lo1₁ j₁ (by omega)
  · by_cases e₁ : j₁ = o₁ + 1
    · rw [e₁, mup_k (by omega), mup_at, mup_at]; exact ⟨rfl, rfl⟩
    · rw [mup_k (by omega), mup_k (by omega), mup_k (by omega), mup_k (by omega)]; exact hi1₁ j₁ (by omega) h2₁
end UN₁
