/-! ===== what is asked of a token: the reference ===== -/
/-- the reference's tokens stand at p -/
def TRS₁ (I₁ : MI) (L₁ : ML) (m₁ : Nat) (B₁ : Nat → Nat) (n₁ lm₁ p₁ : Nat) : Prop := (∀ i₁, B₁ i₁ < 256) ∧ n₁ ≤ 940 ∧ lm₁ < 1000 ∧ p₁ ≤ n₁ ∧ TAP₁ I₁ (m₁ + 1) B₁ n₁ ∧ TKR₁ I₁ L₁ m₁ B₁ n₁ lm₁ p₁
def flR₁ (m₁ k₁ pl₁ : Nat) (J₁ I₁ : MI) : Prop := J₁ m₁ 10 = nI k₁ ∧ J₁ m₁ 11 = nI pl₁ ∧ (∀ b₁, b₁ ≠ m₁ → J₁ b₁ = I₁ b₁) ∧ ∀ y₁, y₁ ≠ 10 → y₁ ≠ 11 → J₁ m₁ y₁ = I₁ m₁ y₁
section UN₁
variable {B₁ : Nat → Nat} {n₁ lm₁ p₁ : Nat}
theorem krS_iff {k₁ j₁ : Nat} (hk₁ : k₁ ≤ 4) (h₁ : krS₁ k₁ = j₁) : (j₁ = 0 → k₁ = 0) ∧ (j₁ = 2 → k₁ = 1) ∧ (j₁ = 3 → k₁ = 2) ∧ (j₁ = 4 → k₁ = 3) ∧ (j₁ = 1 → k₁ = 4) := by
  subst h₁
  obtain rfl | rfl | rfl | rfl | rfl : k₁ = 0 ∨ k₁ = 1 ∨ k₁ = 2 ∨ k₁ = 3 ∨ k₁ = 4 := by omega
  all_goals decide
theorem krS_le (k₁ : Nat) : krS₁ k₁ ≤ 4 := by
  rw [krS₁]
  repeat' split
  all_goals omega
theorem kr_eq {j₁ k₁ : Nat} (hj₁ : j₁ = krS₁ k₁) (hk₁ : k₁ ≤ 4) : nI (krS₁ (tkK₁ B₁ n₁ lm₁ p₁)) = nI j₁ ↔ tkK₁ B₁ n₁ lm₁ p₁ = k₁ := by
  have h1₁ := krS_le (tkK₁ B₁ n₁ lm₁ p₁)
  have h2₁ := krS_le k₁
  have h3₁ := tkK_le (B₁ := B₁) (n₁ := n₁) (lm₁ := lm₁) (p₁ := p₁)
  subst hj₁
  rw [eqN (by omega) (by omega)]
  constructor
  · intro e₁
    obtain ⟨a0₁, a1₁, a2₁, a3₁, a4₁⟩ := krS_iff h3₁ e₁
    obtain rfl | rfl | rfl | rfl | rfl : k₁ = 0 ∨ k₁ = 1 ∨ k₁ = 2 ∨ k₁ = 3 ∨ k₁ = 4 := by omega
    · exact a0₁ rfl
    · exact a1₁ rfl
    · exact a2₁ rfl
    · exact a3₁ rfl
    · exact a4₁ rfl
  · intro e₁; rw [e₁]
end UN₁
section RG₁
variable {K₁ N₁ : MK} {I₁ : MI} {L₁ : ML} {R₁ : MR} {m₁ n₁ lm₁ p₁ : Nat} {B₁ : Nat → Nat}
theorem TRS_fr {J₁ : MI} {M₁ : ML} (h₁ : TRS₁ I₁ L₁ m₁ B₁ n₁ lm₁ p₁) (e1₁ : J₁ (m₁ + 1) = I₁ (m₁ + 1)) (e2₁ : ∀ y₁, 3 ≤ y₁ → y₁ ≤ 9 → J₁ m₁ y₁ = I₁ m₁ y₁) (e3₁ : M₁ m₁ = L₁ m₁) : TRS₁ J₁ M₁ m₁ B₁ n₁ lm₁ p₁ := by
  obtain ⟨h2₁, h3₁, h4₁, h5₁, h6₁, k1₁, k2₁, k3₁, k4₁, k5₁, k6₁, k7₁, k8₁⟩ := h₁
  refine ⟨h2₁, h3₁, h4₁, h5₁, fun i₁ hi₁ => by rw [e1₁]; exact h6₁ i₁ hi₁, ?_, ?_, ?_, ?_, ?_, fun w₁ => ?_, fun w₁ => ?_, fun w₁ => ?_⟩
  · rw [e2₁ 3 (by decide) (by decide)]; exact k1₁
  · rw [e2₁ 4 (by decide) (by decide)]; exact k2₁
  · rw [e2₁ 5 (by decide) (by decide)]; exact k3₁
  · rw [e2₁ 7 (by decide) (by decide)]; exact k4₁
  · rw [e2₁ 6 (by decide) (by decide)]; exact k5₁
  · rw [e3₁]; exact k6₁ w₁
  · rw [e2₁ 8 (by decide) (by decide)]; exact k7₁ w₁
  · rw [e2₁ 9 (by decide) (by decide)]; exact k8₁ w₁
theorem r_next {Q₁ : MI → ML → Prop} (hM₁ : MDL K₁ N₁ R₁ m₁) (hT₁ : TRS₁ I₁ L₁ m₁ B₁ n₁ lm₁ p₁) (h₁ : ∀ J₁ M₁, TRS₁ J₁ M₁ m₁ B₁ n₁ lm₁ (tkN₁ B₁ n₁ lm₁ p₁) → frV₁ m₁ J₁ I₁ M₁ L₁ → Q₁ J₁ M₁) : w_X12_go m₁ K₁ N₁ I₁ L₁ R₁ Q₁ := by
  obtain ⟨h2₁, h3₁, h4₁, h5₁, h6₁, k1₁, k2₁, k3₁, -⟩ := hT₁
  refine r_go hM₁ h2₁ h3₁ h6₁ k1₁ k2₁ h4₁ k3₁ (tkN_le h5₁) (fun J₁ M₁ g1₁ g2₁ => h₁ J₁ M₁ ⟨h2₁, h3₁, h4₁, tkN_le h5₁, fun i₁ hi₁ => by rw [g2₁.1 _ (by omega)]; exact h6₁ i₁ hi₁, g1₁⟩ g2₁)
theorem r_bad {k₁ : Nat} {Q₁ : Bool → MI → Prop} (hM₁ : MDL K₁ N₁ R₁ m₁) (hT₁ : TRS₁ I₁ L₁ m₁ B₁ n₁ lm₁ p₁) (hk₁ : tkK₁ B₁ n₁ lm₁ p₁ = 4 → k₁ = 1) (h₁ : ∀ J₁, flR₁ m₁ k₁ (tkS₁ B₁ n₁ lm₁ p₁) J₁ I₁ → Q₁ false J₁) : w_X12_bad m₁ (nI k₁) K₁ N₁ I₁ L₁ R₁ Q₁ := by
  obtain ⟨h2₁, h3₁, h4₁, h5₁, h6₁, k1₁, k2₁, k3₁, k4₁, k5₁, -⟩ := hT₁
  refine ⟨hM₁.k, ?_⟩
  rw [k4₁, show (nI (krS₁ (tkK₁ B₁ n₁ lm₁ p₁)) = 1) = (nI (krS₁ (tkK₁ B₁ n₁ lm₁ p₁)) = nI 1) from rfl, kr_eq (j₁ := 1) (k₁ := 4) rfl (by decide)]
  have fin₁ : ∀ (j₁ : Nat) (I2₁ I3₁ : MI), j₁ = k₁ → I2₁ = mup I₁ m₁ 10 (nI j₁) → I3₁ = mup I2₁ m₁ 11 (I2₁ m₁ 6) → Q₁ false I3₁ := fun j₁ I2₁ I3₁ ej₁ g2₁ g3₁ => by
    subst ej₁
    refine h₁ I3₁ ⟨by rw [g3₁, mup_k (by decide), g2₁, mup_at], ?_, fun b₁ q₁ => by rw [g3₁, mup_ne q₁, g2₁, mup_ne q₁], fun y₁ q1₁ q2₁ => by rw [g3₁, mup_k q2₁, g2₁, mup_k q1₁]⟩
    rw [g3₁, mup_at, g2₁, mup_k (by decide)]; exact k5₁
  exact ⟨fun _ I2₁ g2₁ I3₁ g3₁ => fin₁ k₁ I2₁ I3₁ rfl g2₁ g3₁, fun z₁ I2₁ g2₁ I3₁ g3₁ => fin₁ 1 I2₁ I3₁ (hk₁ z₁).symm g2₁ g3₁⟩
theorem r_isWord {k₁ : Nat} {Q₁ : Bool → Prop} (hM₁ : MDL K₁ N₁ R₁ m₁) (hT₁ : TRS₁ I₁ L₁ m₁ B₁ n₁ lm₁ p₁) (hk₁ : k₁ < 34) (h₁ : Q₁ (isWd B₁ n₁ lm₁ p₁ k₁)) : w_X12_isWord m₁ (nI k₁) K₁ N₁ I₁ L₁ R₁ Q₁ := by
  obtain ⟨h2₁, h3₁, h4₁, h5₁, h6₁, k1₁, k2₁, k3₁, k4₁, k5₁, k6₁, k7₁, k8₁⟩ := hT₁
  rw [isWd] at h₁
  refine ⟨hM₁.k, ?_⟩
  rw [k4₁, show (nI (krS₁ (tkK₁ B₁ n₁ lm₁ p₁)) = 2) = (nI (krS₁ (tkK₁ B₁ n₁ lm₁ p₁)) = nI 2) from rfl, kr_eq (j₁ := 2) (k₁ := 1) rfl (by decide)]
  refine ⟨fun z₁ => ?_, fun z₁ => r_wordOf hk₁ ?_⟩
  · rw [decide_eq_false z₁, Bool.false_and] at h₁; exact h₁
  · rw [lg_cmp_eq, k6₁ z₁, encB_27, enc_eq (by decide) (by decide) (tkW_ok z₁) (wdK_ok k₁ hk₁)]
    rw [decide_eq_true z₁, Bool.true_and] at h₁
    refine ⟨fun y₁ => ?_, fun y₁ => ?_⟩
    · rw [decide_eq_false y₁] at h₁; exact h₁
    · rw [decide_eq_true y₁] at h₁; exact h₁
theorem r_isSign {c₁ : Nat} {Q₁ : Bool → Prop} (hM₁ : MDL K₁ N₁ R₁ m₁) (hT₁ : TRS₁ I₁ L₁ m₁ B₁ n₁ lm₁ p₁) (hc₁ : c₁ < 256) (h₁ : Q₁ (isSn B₁ n₁ lm₁ p₁ c₁)) : w_X12_isSign m₁ (nI c₁) K₁ N₁ I₁ L₁ R₁ Q₁ := by
  obtain ⟨h2₁, h3₁, h4₁, h5₁, h6₁, k1₁, k2₁, k3₁, k4₁, k5₁, k6₁, k7₁, k8₁⟩ := hT₁
  have hg₁ : tkG₁ B₁ n₁ p₁ < 256 := h2₁ _
  rw [isSn] at h₁
  refine ⟨hM₁.k, ?_⟩
  rw [k4₁, show (nI (krS₁ (tkK₁ B₁ n₁ lm₁ p₁)) = 4) = (nI (krS₁ (tkK₁ B₁ n₁ lm₁ p₁)) = nI 4) from rfl, kr_eq (j₁ := 4) (k₁ := 3) rfl (by decide)]
  refine ⟨fun z₁ => ?_, fun z₁ => ?_⟩
  · rw [decide_eq_false z₁, Bool.false_and] at h₁; exact h₁
  · rw [k8₁ z₁, eqN (by omega) (by omega)]
    rw [decide_eq_true z₁, Bool.true_and] at h₁
    refine ⟨fun y₁ => ?_, fun y₁ => ?_⟩
    · rw [decide_eq_false y₁] at h₁; exact h₁
    · rw [decide_eq_true y₁] at h₁; exact h₁
theorem r_isName {Q₁ : Bool → Prop} (hM₁ : MDL K₁ N₁ R₁ m₁) (hT₁ : TRS₁ I₁ L₁ m₁ B₁ n₁ lm₁ p₁) (h₁ : Q₁ (isNm B₁ n₁ lm₁ p₁)) : w_X12_isName m₁ K₁ N₁ I₁ L₁ R₁ Q₁ := by
  obtain ⟨h2₁, h3₁, h4₁, h5₁, h6₁, k1₁, k2₁, k3₁, k4₁, k5₁, k6₁, k7₁, k8₁⟩ := hT₁
  rw [isNm] at h₁
  refine ⟨hM₁.k, ?_⟩
  rw [k4₁, show (nI (krS₁ (tkK₁ B₁ n₁ lm₁ p₁)) = 2) = (nI (krS₁ (tkK₁ B₁ n₁ lm₁ p₁)) = nI 2) from rfl, kr_eq (j₁ := 2) (k₁ := 1) rfl (by decide)]
  refine ⟨fun z₁ => ?_, fun z₁ => ?_⟩
  · delta w_X12_isName_12
    rw [decide_eq_true z₁, Bool.true_and] at h₁
    refine ⟨fun n1₁ y0₁ y1₁ => y0₁ = m₁ ∧ ∃ i₁, i₁ ≤ 34 ∧ n1₁ = 34 - i₁ ∧ y1₁ = nI i₁ ∧ ∀ k₁, k₁ < i₁ → tkW₁ B₁ n₁ p₁ ≠ wdK₁ k₁, ⟨34, rfl, 0, by omega, rfl, rfl, fun k₁ hk₁ => absurd hk₁ (Nat.not_lt_zero k₁)⟩, ?_⟩
    rintro n1₁ y0₁ y1₁ ⟨rfl, i₁, hi₁, rfl, rfl, hk₁⟩
    rw [show (33 : Int32) = nI 33 from rfl, ltN (by omega) (by omega)]
    refine ⟨fun y₁ => ?_, fun y₁ => ⟨hM₁.k, r_wordOf (by omega) ?_⟩⟩
    · rw [decide_eq_true (wix_no.mpr (fun k₁ q₁ => hk₁ k₁ (by omega)))] at h₁; exact h₁
    · rw [lg_cmp_eq, k6₁ z₁, encB_27, enc_eq (by decide) (by decide) (tkW_ok z₁) (wdK_ok i₁ (by omega))]
      refine ⟨fun w₁ v4₁ g4₁ => ⟨34 - (i₁ + 1), by omega, rfl, i₁ + 1, by omega, rfl, by rw [g4₁, nI_1], fun k₁ q₁ => ?_⟩, fun w₁ => ?_⟩
      · by_cases e₁ : k₁ = i₁
        · rw [e₁]; exact w₁
        · exact hk₁ k₁ (by omega)
      · rw [decide_eq_false (fun q₁ => wix_no.mp q₁ i₁ (by omega) w₁)] at h₁; exact h₁
  · rw [decide_eq_false z₁, Bool.false_and] at h₁; exact h₁
theorem r_isNumber {lo₁ hi₁ : Nat} {Q₁ : Bool → MI → Prop} (hM₁ : MDL K₁ N₁ R₁ m₁) (hT₁ : TRS₁ I₁ L₁ m₁ B₁ n₁ lm₁ p₁) (hlo₁ : lo₁ < 10000) (hhi₁ : hi₁ < 10000)
    (h0₁ : nmS₁ B₁ n₁ lm₁ p₁ lo₁ hi₁ = 0 → tkK₁ B₁ n₁ lm₁ p₁ = 2 → lo₁ ≤ tkV₁ B₁ n₁ p₁ → tkV₁ B₁ n₁ p₁ ≤ hi₁ → I₁ m₁ 8 = nI (tkV₁ B₁ n₁ p₁) → Q₁ true I₁) (h1₁ : nmS₁ B₁ n₁ lm₁ p₁ lo₁ hi₁ ≠ 0 → ∀ J₁, flR₁ m₁ (nmS₁ B₁ n₁ lm₁ p₁ lo₁ hi₁) (tkS₁ B₁ n₁ lm₁ p₁) J₁ I₁ → Q₁ false J₁) : w_X12_isNumber m₁ (nI lo₁) (nI hi₁) K₁ N₁ I₁ L₁ R₁ Q₁ := by
  have hT'₁ := hT₁
  obtain ⟨h2₁, h3₁, h4₁, h5₁, h6₁, k1₁, k2₁, k3₁, k4₁, k5₁, k6₁, k7₁, k8₁⟩ := hT₁
  rw [nmS₁] at h0₁ h1₁
  refine ⟨hM₁.k, ?_⟩
  rw [k4₁, show (nI (krS₁ (tkK₁ B₁ n₁ lm₁ p₁)) = 3) = (nI (krS₁ (tkK₁ B₁ n₁ lm₁ p₁)) = nI 3) from rfl, kr_eq (j₁ := 3) (k₁ := 2) rfl (by decide)]
  refine ⟨fun z₁ => r_isIn ?_, fun z₁ => ?_⟩
  · have hv₁ := tkV_lt z₁
    rw [if_pos z₁] at h0₁ h1₁
    rw [k7₁ z₁]
    refine ⟨fun y₁ => ?_, fun y₁ => r_bad (k₁ := 2) hM₁ hT'₁ (fun w₁ => by omega) (fun J₁ g₁ => ⟨fun _ => ?_, fun w₁ => absurd w₁ (by decide)⟩)⟩
    · rw [isInB_iff, leN (by omega) (by omega), leN (by omega) (by omega)] at y₁
      exact h0₁ (by rw [if_pos y₁]) z₁ y₁.1 y₁.2 (k7₁ z₁)
    · rw [isInB_f, leN (by omega) (by omega), leN (by omega) (by omega)] at y₁
      rw [if_neg y₁] at h1₁
      exact h1₁ (by decide) J₁ g₁
  · rw [if_neg z₁] at h1₁
    exact r_bad (k₁ := 1) hM₁ hT'₁ (fun _ => rfl) (h1₁ (by decide))
theorem r_readNumber {lo₁ hi₁ : Nat} {Q₁ : Bool → MI → ML → Prop} (hM₁ : MDL K₁ N₁ R₁ m₁) (hT₁ : TRS₁ I₁ L₁ m₁ B₁ n₁ lm₁ p₁) (hlo₁ : lo₁ < 10000) (hhi₁ : hi₁ < 10000)
    (h0₁ : nmS₁ B₁ n₁ lm₁ p₁ lo₁ hi₁ = 0 → tkK₁ B₁ n₁ lm₁ p₁ = 2 → lo₁ ≤ tkV₁ B₁ n₁ p₁ → tkV₁ B₁ n₁ p₁ ≤ hi₁ → ∀ J₁ M₁, TRS₁ J₁ M₁ m₁ B₁ n₁ lm₁ (tkN₁ B₁ n₁ lm₁ p₁) → J₁ m₁ 13 = nI (tkV₁ B₁ n₁ p₁) → frV₁ m₁ J₁ (mup I₁ m₁ 13 (nI (tkV₁ B₁ n₁ p₁))) M₁ L₁ → Q₁ true J₁ M₁) (h1₁ : nmS₁ B₁ n₁ lm₁ p₁ lo₁ hi₁ ≠ 0 → ∀ J₁, flR₁ m₁ (nmS₁ B₁ n₁ lm₁ p₁ lo₁ hi₁) (tkS₁ B₁ n₁ lm₁ p₁) J₁ I₁ → Q₁ false J₁ L₁) : w_X12_readNumber m₁ (nI lo₁) (nI hi₁) K₁ N₁ I₁ L₁ R₁ Q₁ := by
  have hT'₁ := hT₁
  obtain ⟨h2₁, h3₁, h4₁, h5₁, h6₁, k1₁, k2₁, k3₁, k4₁, k5₁, k6₁, k7₁, k8₁⟩ := hT₁
  rw [nmS₁] at h0₁ h1₁
  refine ⟨hM₁.k, ?_⟩
  rw [k4₁, show (nI (krS₁ (tkK₁ B₁ n₁ lm₁ p₁)) = 3) = (nI (krS₁ (tkK₁ B₁ n₁ lm₁ p₁)) = nI 3) from rfl, kr_eq (j₁ := 3) (k₁ := 2) rfl (by decide)]
  refine ⟨fun z₁ => r_isIn ?_, fun z₁ => ?_⟩
  · have hv₁ := tkV_lt z₁
    rw [if_pos z₁] at h0₁ h1₁
    rw [k7₁ z₁]
    refine ⟨fun y₁ I3₁ g3₁ => ?_, fun y₁ => r_bad (k₁ := 2) hM₁ hT'₁ (fun w₁ => by omega) ?_⟩
    · rw [isInB_iff, leN (by omega) (by omega), leN (by omega) (by omega)] at y₁
      refine r_next hM₁ (TRS_fr hT'₁ (by rw [g3₁, mup_ne (by omega)]) (fun y₁ q1₁ q2₁ => by rw [g3₁, mup_k (by omega)]) rfl) (fun J₁ M₁ g1₁ g2₁ => h0₁ (by rw [if_pos y₁]) z₁ y₁.1 y₁.2 J₁ M₁ g1₁ ?_ (by rw [← g3₁]; exact g2₁))
      rw [g2₁.2.1 13 (by decide) (by decide) (by decide) (by decide) (by decide), g3₁, mup_at]
    · rw [isInB_f, leN (by omega) (by omega), leN (by omega) (by omega)] at y₁
      rw [if_neg y₁] at h1₁
      exact h1₁ (by decide)
  · rw [if_neg z₁] at h1₁
    exact r_bad (k₁ := 1) hM₁ hT'₁ (fun _ => rfl) (h1₁ (by decide))
theorem r_readEnd {Q₁ : Bool → MI → ML → Prop} (hM₁ : MDL K₁ N₁ R₁ m₁) (hT₁ : TRS₁ I₁ L₁ m₁ B₁ n₁ lm₁ p₁)
    (h0₁ : isSn B₁ n₁ lm₁ p₁ 59 = true → ∀ J₁ M₁, TRS₁ J₁ M₁ m₁ B₁ n₁ lm₁ (tkN₁ B₁ n₁ lm₁ p₁) → frV₁ m₁ J₁ I₁ M₁ L₁ → Q₁ true J₁ M₁) (h1₁ : isSn B₁ n₁ lm₁ p₁ 59 = false → ∀ J₁, flR₁ m₁ 1 (tkS₁ B₁ n₁ lm₁ p₁) J₁ I₁ → Q₁ false J₁ L₁) : w_X12_readEnd m₁ K₁ N₁ I₁ L₁ R₁ Q₁ :=
  ⟨hM₁.k, r_isSign (c₁ := 59) hM₁ hT₁ (by decide) ⟨fun z₁ => r_next hM₁ hT₁ (h0₁ z₁), fun z₁ => r_bad (k₁ := 1) hM₁ hT₁ (fun _ => rfl) (h1₁ z₁)⟩⟩
theorem r_putU {a₁ : Nat} {Q₁ : Bool → MI → Prop} (hM₁ : MDL K₁ N₁ R₁ m₁) (ha₁ : a₁ < 342) (h₁ : ∀ J₁, J₁ = mup I₁ (m₁ + 3) a₁ (I₁ m₁ 13) → Q₁ true J₁) : w_X12_put m₁ (nI a₁) true K₁ N₁ I₁ L₁ R₁ Q₁ := by
  refine ⟨fun z₁ => absurd z₁ (by decide), fun _ => ⟨hM₁.k, _, hM₁.r15, hM₁.k3, by rw [hM₁.n3]; exact (vp_nI (by omega)).mpr (by omega), fun I5₁ g5₁ => h₁ I5₁ ?_⟩⟩
  rw [g5₁, ix_nI (by omega)]
theorem r_putN {a₁ : Int32} {Q₁ : Bool → MI → Prop} (h₁ : Q₁ false I₁) : w_X12_put m₁ a₁ false K₁ N₁ I₁ L₁ R₁ Q₁ :=
  ⟨fun _ => h₁, fun z₁ => absurd z₁ (by decide)⟩
end RG₁
