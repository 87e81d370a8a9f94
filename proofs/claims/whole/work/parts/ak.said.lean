/-! ===== said: both sides ===== -/
def sdB₁ (P₁ : Nat → Bool) (k₁ : Int32) : Nat → Nat → Nat → Int32
  | 0, _, n₁ => if k₁ = -1 then nI n₁ else -1
  | f₁ + 1, p₁, n₁ => if P₁ p₁ = true then (if nI n₁ = k₁ then nI p₁ else sdB₁ P₁ k₁ f₁ (p₁ + 1) (n₁ + 1)) else sdB₁ P₁ k₁ f₁ (p₁ + 1) n₁
section UN₁
variable {K₁ N₁ : MK} {I₁ : MI} {L₁ : ML} {R₁ : MR} {x₁ : Nat} {U₁ V₁ : Nat → Int32} {W₁ : Nat → Int64} {l₁ : List (Nat × Nat × Nat)}
theorem s_saidK {k₁ : Int32} {Q₁ : Int32 → MI → Prop} (hX₁ : PDL K₁ N₁ R₁ x₁) (hS₁ : SED₁ I₁ (x₁ + 31) l₁) (hl₁ : ∀ e₁ ∈ l₁, enW₁ e₁) (hD₁ : UD I₁ L₁ (x₁ + 3) U₁ W₁) (hW₁ : WFU₁ U₁) (hV₁ : MACD I₁ (x₁ + 19) V₁) (hm₁ : WFm₁ V₁)
    (h₁ : ∀ J₁, frSd x₁ J₁ I₁ → Q₁ (if l₁.length = 0 then -1 else sdB₁ (fun v₁ => sayS U₁ V₁ v₁ l₁) k₁ (ix (U₁ 4)) 0 0) J₁) : w_X11_said x₁ k₁ K₁ N₁ I₁ L₁ R₁ Q₁ := by
  have n4₁ := hW₁.1.2.2.2.1.2
  have hL₁ := hX₁.un
  have l40₁ := hS₁.2.1
  delta w_X11_said
  refine ⟨hX₁.k, _, hX₁.r_sentence, hX₁.sen.1, ?_⟩
  rw [hS₁.1, show (nI l₁.length = 0) = (nI l₁.length = nI 0) from rfl, eqN (by omega) (by omega)]
  refine ⟨fun z₁ => ?_, fun z₁ => ?_⟩
  rotate_left
  · have := h₁ I₁ ⟨fun _ _ _ _ _ => rfl, fun _ _ => rfl⟩
    rw [if_pos z₁] at this; exact this
  rw [if_neg z₁] at h₁
  delta w_X11_said_16
  refine ⟨fun n1₁ y0₁ y1₁ y2₁ y3₁ I1₁ => y0₁ = x₁ ∧ y1₁ = k₁ ∧ ∃ v₁ n₁, v₁ ≤ ix (U₁ 4) ∧ n₁ ≤ v₁ ∧ n1₁ = ix (U₁ 4) - v₁ ∧ y2₁ = nI n₁ ∧ y3₁ = nI v₁ ∧ frSd x₁ I1₁ I₁ ∧ sdB₁ (fun v₁ => sayS U₁ V₁ v₁ l₁) k₁ (ix (U₁ 4) - v₁) v₁ n₁ = sdB₁ (fun v₁ => sayS U₁ V₁ v₁ l₁) k₁ (ix (U₁ 4)) 0 0, ⟨ix (U₁ 4), rfl, rfl, 0, 0, Nat.zero_le _, Nat.le_refl _, rfl, rfl, rfl, ⟨fun _ _ _ _ _ => rfl, fun _ _ => rfl⟩, rfl⟩, ?_⟩
  rintro n1₁ y0₁ y1₁ y2₁ y3₁ I1₁ ⟨e0₁, e1₁, v₁, n₁, hv₁, hn₁, e2₁, e3₁, e4₁, fr₁, hE₁⟩
  subst e0₁ e1₁ e2₁ e3₁ e4₁
  have hD1₁ : UD I1₁ L₁ (y0₁ + 3) U₁ W₁ := UD_fr hD₁ (fun b₁ q1₁ q2₁ => fr₁.1 b₁ (by omega) (by omega) (by omega) (by omega))
  refine ⟨hX₁.k, _, hX₁.r_unit, hL₁.1, _, hL₁.2.2.2.2.1, hL₁.2.2.2.2.2.2.2.2.2.1.1, ?_⟩
  rw [hD1₁.2.2.2.2.1.1.2.1, leN (by omega) (by omega)]
  refine ⟨fun q₁ => ?_, fun q₁ => ⟨_, hX₁.r_sentence, _, hX₁.r_machine, _, hX₁.r_finder, hX₁.sen.1, s_isSaidOf hX₁ (SED_sd hS₁ fr₁) hl₁ (by omega) hD1₁ hW₁ (MACD_fr hV₁ (fun b₁ q₁ => fr₁.1 b₁ (by omega) (by omega) (by omega) (by omega))) hm₁ (fun J₁ f₁ => ?_)⟩⟩
  · rw [show ix (U₁ 4) - v₁ = 0 by omega, sdB₁] at hE₁
    have hI₁ := h₁ I1₁ fr₁
    rw [← hE₁] at hI₁
    exact ⟨fun w₁ => by rw [if_neg w₁] at hI₁; exact hI₁, fun w₁ => by rw [if_pos w₁] at hI₁; exact hI₁⟩
  · rw [show ix (U₁ 4) - v₁ = (ix (U₁ 4) - (v₁ + 1)) + 1 by omega, sdB₁] at hE₁
    have fr2₁ := frSd_t f₁ fr₁
    refine ⟨fun w₁ v15₁ g15₁ => ⟨ix (U₁ 4) - (v₁ + 1), by omega, rfl, rfl, v₁ + 1, n₁, by omega, by omega, rfl, rfl, by rw [g15₁, nI_1], fr2₁, by rw [if_neg (by rw [w₁]; decide)] at hE₁; exact hE₁⟩, fun w₁ => ⟨fun w2₁ v16₁ g16₁ v17₁ g17₁ => ⟨ix (U₁ 4) - (v₁ + 1), by omega, rfl, rfl, v₁ + 1, n₁ + 1, by omega, by omega, rfl, by rw [g16₁, nI_1], by rw [g17₁, nI_1], fr2₁, by rw [if_pos w₁, if_neg w2₁] at hE₁; exact hE₁⟩, fun w2₁ => ?_⟩⟩
    rw [if_pos w₁, if_pos w2₁] at hE₁
    have hJ₁ := h₁ J₁ fr2₁
    rw [← hE₁] at hJ₁
    exact hJ₁
end UN₁
section RE₁
variable {K₁ N₁ : MK} {I₁ : MI} {L₁ : ML} {R₁ : MR} {m₁ : Nat} {U₁ : Nat → Int32} {l₁ : List (Nat × Nat × Nat)}
theorem r_saidK {k₁ : Int32} {Q₁ : Int32 → MI → Prop} (hM₁ : MDL K₁ N₁ R₁ m₁) (hI₁ : I₁ (m₁ + 2) = U₁) (hW₁ : WFU₁ U₁) (hm₁ : WFm₁ (macV U₁)) (ht₁ : U₁ 425 ≠ 0 → ∃ t₁, U₁ 426 = nI t₁ ∧ t₁ < 40 ∧ trE₁ (fun y₁ => U₁ (427 + y₁)) (t₁ + 1) l₁ t₁)
    (h₁ : ∀ J₁, frW₁ m₁ J₁ (mup I₁ m₁ 0 0) → Q₁ (if U₁ 425 = 0 then -1 else sdB₁ (fun v₁ => sayS U₁ (macV U₁) v₁ l₁) k₁ (ix (U₁ 4)) 0 0) J₁) : w_X12_said m₁ k₁ K₁ N₁ I₁ L₁ R₁ Q₁ := by
  have n4₁ := hW₁.1.2.2.2.1.2
  delta w_X12_said
  refine ⟨hM₁.k, fun I2₁ g2₁ => ?_⟩
  have u2₁ : I2₁ (m₁ + 2) = U₁ := by rw [g2₁, mup_ne (by omega)]; exact hI₁
  rw [← g2₁] at h₁
  refine ⟨_, hM₁.r14, hM₁.k2, by rw [hM₁.n2]; exact vp_c (by decide) (by decide), ?_⟩
  rw [u2₁, show ix (425 : Int32) = 425 from rfl]
  refine ⟨fun z₁ => ?_, fun z₁ => ?_⟩
  rotate_left
  · have := h₁ I2₁ frW_r
    rw [if_pos z₁] at this; exact this
  rw [if_neg z₁] at h₁
  obtain ⟨t₁, e426, ht40, htr₁⟩ := ht₁ z₁
  delta w_X12_said_22
  refine ⟨fun n1₁ y0₁ y1₁ y2₁ y3₁ I1₁ => y0₁ = m₁ ∧ y1₁ = k₁ ∧ ∃ v₁ n₁, v₁ ≤ ix (U₁ 4) ∧ n₁ ≤ v₁ ∧ n1₁ = ix (U₁ 4) - v₁ ∧ y2₁ = nI n₁ ∧ y3₁ = nI v₁ ∧ frW₁ m₁ I1₁ I2₁ ∧ sdB₁ (fun v₁ => sayS U₁ (macV U₁) v₁ l₁) k₁ (ix (U₁ 4) - v₁) v₁ n₁ = sdB₁ (fun v₁ => sayS U₁ (macV U₁) v₁ l₁) k₁ (ix (U₁ 4)) 0 0, ⟨ix (U₁ 4), rfl, rfl, 0, 0, Nat.zero_le _, Nat.le_refl _, rfl, rfl, rfl, frW_r, rfl⟩, ?_⟩
  rintro n1₁ y0₁ y1₁ y2₁ y3₁ I1₁ ⟨e0₁, e1₁, v₁, n₁, hv₁, hn₁, e2₁, e3₁, e4₁, fr₁, hE₁⟩
  subst e0₁ e1₁ e2₁ e3₁ e4₁
  have u1₁ : I1₁ (y0₁ + 2) = U₁ := by rw [frW_U fr₁]; exact u2₁
  refine ⟨hM₁.k, _, hM₁.r14, hM₁.k2, by rw [hM₁.n2]; exact vp_c (by decide) (by decide), ?_⟩
  rw [u1₁, show ix (4 : Int32) = 4 from rfl, show ix (426 : Int32) = 426 from rfl, e426]
  refine ⟨fun q₁ => ?_, fun q₁ => ⟨by rw [hM₁.n2]; exact vp_c (by decide) (by decide), ?_⟩⟩
  · rw [hW₁.1.2.2.2.1.1, leN (by omega) (by omega)] at q₁
    rw [show ix (U₁ 4) - v₁ = 0 by omega, sdB₁] at hE₁
    have hI₁ := h₁ I1₁ fr₁
    rw [← hE₁] at hI₁
    exact ⟨fun w₁ => by rw [if_neg w₁] at hI₁; exact hI₁, fun w₁ => by rw [if_pos w₁] at hI₁; exact hI₁⟩
  · rw [hW₁.1.2.2.2.1.1, leN (by omega) (by omega)] at q₁
    rw [show ix (U₁ 4) - v₁ = (ix (U₁ 4) - (v₁ + 1)) + 1 by omega, sdB₁] at hE₁
    obtain ⟨b₁, hb₁⟩ := trE_val (U₁ := U₁) (V₁ := macV U₁) (v₁ := v₁) (t₁ + 1) l₁ t₁ htr₁
    have eb₁ : sayS U₁ (macV U₁) v₁ l₁ = b₁ := by rw [sayS, hb₁]; rfl
    rw [eb₁] at hE₁
    delta wc_X12_holds
    refine r_holdsD hM₁ hW₁ hm₁ (by omega) (t₁ + 1) 40 l₁ t₁ b₁ I1₁ _ (by omega) (by omega) htr₁ hb₁ u1₁ (fun J₁ f₁ => ?_)
    have fr2₁ := frW_t f₁ fr₁
    refine ⟨fun w₁ => ⟨fun w2₁ v13₁ g13₁ v14₁ g14₁ => ⟨ix (U₁ 4) - (v₁ + 1), by omega, rfl, rfl, v₁ + 1, n₁ + 1, by omega, by omega, rfl, by rw [g13₁, nI_1], by rw [g14₁, nI_1], fr2₁, by rw [if_pos w₁, if_neg w2₁] at hE₁; exact hE₁⟩, fun w2₁ => ?_⟩, fun w₁ v15₁ g15₁ => ⟨ix (U₁ 4) - (v₁ + 1), by omega, rfl, rfl, v₁ + 1, n₁, by omega, by omega, rfl, rfl, by rw [g15₁, nI_1], fr2₁, by rw [if_neg (by rw [w₁]; decide)] at hE₁; exact hE₁⟩⟩
    rw [if_pos w₁, if_pos w2₁] at hE₁
    have hJ₁ := h₁ J₁ fr2₁
    rw [← hE₁] at hJ₁
    exact hJ₁
end RE₁
