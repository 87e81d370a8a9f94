/-! ===== the class reads a token ===== -/
def TOC₁ (K₁ N₁ : MK) (R₁ : MR) (t₁ : Nat) : Prop := K₁ t₁ = 9 ∧ R₁ t₁ 0 = some (t₁ + 1) ∧ K₁ (t₁ + 1) = 14 ∧ N₁ (t₁ + 1) = 940
def TAP₁ (I₁ : MI) (b₁ : Nat) (B₁ : Nat → Nat) (n₁ : Nat) : Prop := ∀ i₁, i₁ < n₁ → I₁ b₁ i₁ = nI (B₁ i₁)
def TKC₁ (I₁ : MI) (L₁ : ML) (t₁ : Nat) (B₁ : Nat → Nat) (n₁ lm₁ p₁ : Nat) : Prop := I₁ t₁ 1 = nI n₁ ∧ I₁ t₁ 2 = nI lm₁ ∧ I₁ t₁ 3 = nI (tkN₁ B₁ n₁ lm₁ p₁) ∧ I₁ t₁ 4 = nI (tkK₁ B₁ n₁ lm₁ p₁) ∧ I₁ t₁ 5 = nI (tkS₁ B₁ n₁ lm₁ p₁) ∧ (tkK₁ B₁ n₁ lm₁ p₁ = 1 → L₁ t₁ 6 = encB 32 (tkW₁ B₁ n₁ p₁) ∧ I₁ t₁ 7 = wixS (tkW₁ B₁ n₁ p₁)) ∧ (tkK₁ B₁ n₁ lm₁ p₁ = 2 → I₁ t₁ 8 = nI (tkV₁ B₁ n₁ p₁)) ∧ (tkK₁ B₁ n₁ lm₁ p₁ = 3 → I₁ t₁ 9 = nI (tkG₁ B₁ n₁ p₁))
/-- what reading a token leaves as it was -/
def frK₁ (t₁ : Nat) (J₁ I₁ : MI) (M₁ L₁ : ML) : Prop := (∀ b₁, b₁ ≠ t₁ → J₁ b₁ = I₁ b₁) ∧ (∀ y₁, y₁ ≠ 3 → y₁ ≠ 4 → y₁ ≠ 5 → y₁ ≠ 7 → y₁ ≠ 8 → y₁ ≠ 9 → J₁ t₁ y₁ = I₁ t₁ y₁) ∧ ∀ b₁, b₁ ≠ t₁ → M₁ b₁ = L₁ b₁
theorem tkN_le {B₁ : Nat → Nat} {n₁ lm₁ p₁ : Nat} (h₁ : p₁ ≤ n₁) : tkN₁ B₁ n₁ lm₁ p₁ ≤ n₁ := by
  have h1₁ := skp_le (P₁ := isBl) (B₁ := B₁) h₁
  rw [tkN₁]
  split
  · exact h1₁
  · split
    · exact h1₁
    · split
      · exact skp_le h1₁
      · omega
section UN₁
variable {K₁ N₁ : MK} {I₁ : MI} {L₁ : ML} {R₁ : MR} {t₁ n₁ lm₁ p₁ : Nat} {B₁ : Nat → Nat}
theorem frK_r : frK₁ t₁ I₁ I₁ L₁ L₁ := ⟨fun _ _ => rfl, fun _ _ _ _ _ _ _ => rfl, fun _ _ => rfl⟩
theorem frK_t {J₁ J'₁ : MI} {M₁ M'₁ : ML} (h₁ : frK₁ t₁ J'₁ J₁ M'₁ M₁) (h2₁ : frK₁ t₁ J₁ I₁ M₁ L₁) : frK₁ t₁ J'₁ I₁ M'₁ L₁ := ⟨fun b₁ q₁ => by rw [h₁.1 b₁ q₁, h2₁.1 b₁ q₁], fun y₁ a₁ b₁ c₁ d₁ e₁ f₁ => by rw [h₁.2.1 y₁ a₁ b₁ c₁ d₁ e₁ f₁, h2₁.2.1 y₁ a₁ b₁ c₁ d₁ e₁ f₁], fun b₁ q₁ => by rw [h₁.2.2 b₁ q₁, h2₁.2.2 b₁ q₁]⟩
theorem s_byteOf {q₁ : Nat} {Q₁ : Int32 → Prop} (hT₁ : TOC₁ K₁ N₁ R₁ t₁) (hn₁ : I₁ t₁ 1 = nI n₁) (h940 : n₁ ≤ 940) (hB₁ : TAP₁ I₁ (t₁ + 1) B₁ n₁) (hq₁ : q₁ < 100000) (h1₁ : q₁ < n₁ → Q₁ (nI (B₁ q₁))) (h2₁ : ¬ q₁ < n₁ → Q₁ (-1)) : w_X8_byteOf t₁ (nI q₁) K₁ N₁ I₁ L₁ R₁ Q₁ := by
  refine ⟨fun z₁ => absurd z₁ (nlt0 (by omega)), fun _ => ⟨hT₁.1, ?_⟩⟩
  rw [hn₁, leN (by omega) (by omega), ix_nI (by omega)]
  refine ⟨fun z₁ => h2₁ (by omega), fun z₁ => ⟨_, hT₁.2.1, hT₁.2.2.1, by rw [hT₁.2.2.2]; exact (vp_nI (by omega)).mpr (by omega), ?_⟩⟩
  rw [hB₁ q₁ (by omega)]
  exact h1₁ (by omega)
theorem s_isBlank {c₁ : Nat} {Q₁ : Bool → Prop} (hc₁ : c₁ < 256) (h₁ : Q₁ (isBl c₁)) : w_X8_isBlank (nI c₁) K₁ N₁ I₁ L₁ R₁ Q₁ := by
  rw [isBl] at h₁
  refine ⟨fun z₁ => ?_, fun z₁ => ⟨fun y₁ => ?_, fun y₁ => ?_⟩⟩
  · rw [show (32 : Int32) = nI 32 from rfl, eqN (by omega) (by omega)] at z₁; subst z₁; exact h₁
  · rw [show (32 : Int32) = nI 32 from rfl, eqN (by omega) (by omega)] at z₁
    rw [show (10 : Int32) = nI 10 from rfl, eqN (by omega) (by omega)] at y₁
    rw [show (c₁ == 32) = false from beq_eq_false_iff_ne.mpr z₁, show (c₁ == 10) = false from beq_eq_false_iff_ne.mpr y₁] at h₁; exact h₁
  · rw [show (10 : Int32) = nI 10 from rfl, eqN (by omega) (by omega)] at y₁; subst y₁; exact h₁
theorem isRn_of {c₁ : Nat} (h₁ : (97 ≤ c₁ ∧ c₁ ≤ 122) ∨ (48 ≤ c₁ ∧ c₁ ≤ 57)) : isRn c₁ = true := by
  simp only [isRn, isLt, isDg, Bool.or_eq_true, Bool.and_eq_true, decide_eq_true_eq]; exact h₁
theorem isRn_no {c₁ : Nat} (h₁ : ¬ ((97 ≤ c₁ ∧ c₁ ≤ 122) ∨ (48 ≤ c₁ ∧ c₁ ≤ 57))) : isRn c₁ = false := by
  cases e₁ : isRn c₁
  · rfl
  · simp only [isRn, isLt, isDg, Bool.or_eq_true, Bool.and_eq_true, decide_eq_true_eq] at e₁; exact absurd e₁ h₁
theorem s_goesOn {c₁ : Nat} {Q₁ : Bool → Prop} (hc₁ : c₁ < 256) (h₁ : Q₁ (isRn c₁)) : w_X8_goesOn (nI c₁) K₁ N₁ I₁ L₁ R₁ Q₁ := by
  have l97₁ : nI c₁ < 97 ↔ c₁ < 97 := show nI c₁ < nI 97 ↔ _ from ltN (by omega) (by omega)
  have l48₁ : nI c₁ < 48 ↔ c₁ < 48 := show nI c₁ < nI 48 ↔ _ from ltN (by omega) (by omega)
  have l57₁ : (57 : Int32) < nI c₁ ↔ 57 < c₁ := show nI 57 < nI c₁ ↔ _ from ltN (by omega) (by omega)
  have l122 : nI c₁ ≤ 122 ↔ c₁ ≤ 122 := show nI c₁ ≤ nI 122 ↔ _ from leN (by omega) (by omega)
  delta w_X8_goesOn
  rw [l97₁, l48₁, l57₁, l122]
  refine ⟨fun z₁ => ⟨fun y₁ => ?_, fun y₁ => ⟨fun x₁ => ?_, fun x₁ => ?_⟩⟩, fun z₁ => ⟨fun y₁ => ?_, fun y₁ => ⟨fun x₁ => ?_, fun x₁ => ⟨fun w₁ => ?_, fun w₁ => ?_⟩⟩⟩⟩
  · rw [isRn_no (by omega)] at h₁; exact h₁
  · rw [isRn_no (by omega)] at h₁; exact h₁
  · rw [isRn_of (by omega)] at h₁; exact h₁
  · rw [isRn_of (by omega)] at h₁; exact h₁
  · omega
  · rw [isRn_no (by omega)] at h₁; exact h₁
  · omega
theorem s_isSignByte {c₁ : Nat} {Q₁ : Bool → Prop} (hc₁ : c₁ < 256) (h₁ : Q₁ (isSg c₁)) : w_X8_isSignByte (nI c₁) K₁ N₁ I₁ L₁ R₁ Q₁ := by
  have eqc₁ : ∀ k₁, k₁ < 256 → (nI c₁ = nI k₁ ↔ c₁ = k₁) := fun k₁ hk₁ => eqN (by omega) (by omega)
  rw [isSg] at h₁
  refine ⟨fun z₁ => ?_, fun z₁ => ⟨fun y₁ => ?_, fun y₁ => ⟨fun x₁ => ?_, fun x₁ => ⟨fun w₁ => ?_, fun w₁ => ⟨fun v₁ => ?_, fun v₁ => ⟨fun u₁ => ?_, fun u₁ => ?_⟩⟩⟩⟩⟩⟩
  · have z₁ := (eqc₁ 59 (by decide)).mp z₁; subst z₁; exact h₁
  · have y₁ := (eqc₁ 60 (by decide)).mp y₁; subst y₁; exact h₁
  · have x₁ := (eqc₁ 61 (by decide)).mp x₁; subst x₁; exact h₁
  · have w₁ := (eqc₁ 62 (by decide)).mp w₁; subst w₁; exact h₁
  · have v₁ := (eqc₁ 40 (by decide)).mp v₁; subst v₁; exact h₁
  · have n1₁ : c₁ ≠ 59 := fun e₁ => z₁ ((eqc₁ 59 (by decide)).mpr e₁)
    have n2₁ : c₁ ≠ 60 := fun e₁ => y₁ ((eqc₁ 60 (by decide)).mpr e₁)
    have n3₁ : c₁ ≠ 61 := fun e₁ => x₁ ((eqc₁ 61 (by decide)).mpr e₁)
    have n4₁ : c₁ ≠ 62 := fun e₁ => w₁ ((eqc₁ 62 (by decide)).mpr e₁)
    have n5₁ : c₁ ≠ 40 := fun e₁ => v₁ ((eqc₁ 40 (by decide)).mpr e₁)
    have n6₁ : c₁ ≠ 41 := fun e₁ => u₁ ((eqc₁ 41 (by decide)).mpr e₁)
    rw [show (c₁ == 59) = false from beq_eq_false_iff_ne.mpr n1₁, show (c₁ == 60) = false from beq_eq_false_iff_ne.mpr n2₁, show (c₁ == 61) = false from beq_eq_false_iff_ne.mpr n3₁, show (c₁ == 62) = false from beq_eq_false_iff_ne.mpr n4₁, show (c₁ == 40) = false from beq_eq_false_iff_ne.mpr n5₁, show (c₁ == 41) = false from beq_eq_false_iff_ne.mpr n6₁] at h₁
    exact h₁
  · have u₁ := (eqc₁ 41 (by decide)).mp u₁; subst u₁; exact h₁
/-- a run of letters and digits -/
theorem s_readRun {a₁ : Nat} {Q₁ : MI → ML → Prop} (hT₁ : TOC₁ K₁ N₁ R₁ t₁) (hb₁ : ∀ i₁, B₁ i₁ < 256) (h940 : n₁ ≤ 940) (hB₁ : TAP₁ I₁ (t₁ + 1) B₁ n₁) (hn₁ : I₁ t₁ 1 = nI n₁) (h3₁ : I₁ t₁ 3 = nI a₁) (ha₁ : a₁ ≤ n₁)
    (h₁ : ∀ J₁ M₁, J₁ t₁ 3 = nI (skpS isRn B₁ n₁ a₁) → J₁ t₁ 4 = nI (runK B₁ a₁ (skpS isRn B₁ n₁ a₁ - a₁)) → (runK B₁ a₁ (skpS isRn B₁ n₁ a₁ - a₁) = 1 → letsL B₁ a₁ (skpS isRn B₁ n₁ a₁ - a₁) ≠ [] → M₁ t₁ 6 = encB 32 (letsL B₁ a₁ (skpS isRn B₁ n₁ a₁ - a₁)) ∧ J₁ t₁ 7 = wixS (letsL B₁ a₁ (skpS isRn B₁ n₁ a₁ - a₁))) → (runK B₁ a₁ (skpS isRn B₁ n₁ a₁ - a₁) = 2 → J₁ t₁ 8 = nI (numV B₁ a₁ (skpS isRn B₁ n₁ a₁ - a₁))) → J₁ t₁ 5 = I₁ t₁ 5 → frK₁ t₁ J₁ I₁ M₁ L₁ → Q₁ J₁ M₁)
    (hne₁ : a₁ < skpS isRn B₁ n₁ a₁) : w_X8_readRun t₁ K₁ N₁ I₁ L₁ R₁ Q₁ := by
  delta w_X8_readRun
  refine ⟨hT₁.1, fun L2₁ g2₁ I3₁ g3₁ => ?_⟩
  delta w_X8_readRun_16
  have hE₁ := skp_le (P₁ := isRn) (B₁ := B₁) ha₁
  refine ⟨fun n1₁ y0₁ y1₁ y2₁ y3₁ I1₁ L1₁ => y0₁ = t₁ ∧ ∃ i₁ cl₁ cd₁, a₁ + i₁ ≤ n₁ ∧ n1₁ = 1000 - i₁ ∧ y1₁ = nI cl₁ ∧ y2₁ = nI cd₁ ∧ y3₁ = nI i₁ ∧ cl₁ + cd₁ = i₁ ∧ skpS isRn B₁ n₁ (a₁ + i₁) = skpS isRn B₁ n₁ a₁ ∧ I1₁ t₁ 3 = nI (a₁ + i₁) ∧ (cd₁ = 0 ↔ allL B₁ a₁ i₁ = true) ∧ (cl₁ = 0 ↔ allD B₁ a₁ i₁ = true) ∧ (cd₁ = 0 → L1₁ t₁ 6 = encB 32 (letsL B₁ a₁ i₁)) ∧ (cl₁ = 0 → I1₁ t₁ 8 = nI (numV B₁ a₁ i₁)) ∧ I1₁ t₁ 5 = I₁ t₁ 5 ∧ frK₁ t₁ I1₁ I₁ L1₁ L₁, ⟨1000, rfl, 0, 0, 0, by omega, rfl, rfl, rfl, rfl, rfl, rfl, by rw [g3₁, mup_k (by decide)]; exact h3₁, by simp [allL], by simp [allD], fun _ => by rw [g2₁, mup_at]; rfl, fun _ => by rw [g3₁, mup_at]; rfl, by rw [g3₁, mup_k (by decide)], ⟨fun b₁ q₁ => by rw [g3₁, mup_ne q₁], fun y₁ _ _ _ _ e₁ _ => by rw [g3₁, mup_k e₁], fun b₁ q₁ => by rw [g2₁, mup_ne q₁]⟩⟩, ?_⟩
  rintro n1₁ y0₁ y1₁ y2₁ y3₁ I1₁ L1₁ ⟨rfl, i₁, cl₁, cd₁, hi₁, rfl, rfl, rfl, rfl, hc₁, hs₁, p3₁, pd₁, pl₁, pL₁, pN₁, p5₁, hf₁⟩
  have fin₁ : skpS isRn B₁ n₁ a₁ = a₁ + i₁ → w_X8_readRun_115 y0₁ (nI cl₁) (nI cd₁) K₁ N₁ I1₁ L1₁ R₁ Q₁ := by
    intro e₁
    rw [e₁, show a₁ + i₁ - a₁ = i₁ by omega] at h₁
    delta w_X8_readRun_115
    have c0₁ : ∀ c₁ : Nat, c₁ ≤ 940 → (nI c₁ = 0 ↔ c₁ = 0) := fun c₁ hc₁ => show nI c₁ = nI 0 ↔ _ from eqN (by omega) (by omega)
    have c3₁ : (3 : Int32) < nI cd₁ ↔ 3 < cd₁ := show nI 3 < nI cd₁ ↔ _ from ltN (by omega) (by omega)
    have c7₁ : (7 : Int32) < nI cl₁ ↔ 7 < cl₁ := show nI 7 < nI cl₁ ↔ _ from ltN (by omega) (by omega)
    rw [c0₁ cl₁ (by omega), c0₁ cd₁ (by omega), c3₁, c7₁]
    have setK : ∀ k₁ : Nat, runK B₁ a₁ i₁ = k₁ → k₁ ≠ 1 → ∀ J₁ : MI, J₁ = mup I1₁ y0₁ 4 (nI k₁) → Q₁ J₁ L1₁ := fun k₁ ek₁ k1₁ J₁ gJ₁ => by
      refine h₁ J₁ L1₁ (by rw [gJ₁, mup_k (by decide)]; exact p3₁) (by rw [gJ₁, mup_at, ek₁]) (fun z₁ => absurd (ek₁.symm.trans z₁) k1₁) (fun z₁ => ?_) (by rw [gJ₁, mup_k (by decide)]; exact p5₁) (frK_t ⟨fun b₁ q₁ => by rw [gJ₁, mup_ne q₁], fun y₁ _ q₁ _ _ _ _ => by rw [gJ₁, mup_k q₁], fun _ _ => rfl⟩ hf₁)
      rw [gJ₁, mup_k (by decide)]
      refine pN₁ ?_
      rw [runK] at z₁
      split at z₁
      · exact absurd z₁ (by decide)
      · split at z₁
        · rename_i y₁; exact pl₁.mpr y₁.1
        · exact absurd z₁ (by decide)
    have bad₁ : ¬ (allL B₁ a₁ i₁ = true ∧ i₁ ≤ 7) → ¬ (allD B₁ a₁ i₁ = true ∧ i₁ ≤ 3) → runK B₁ a₁ i₁ = 4 := fun z1₁ z2₁ => by rw [runK, if_neg z1₁, if_neg z2₁]
    refine ⟨fun z₁ => ⟨fun y₁ => ⟨hT₁.1, setK 4 (bad₁ (fun x₁ => z₁ (pd₁.mpr x₁.1)) (fun x₁ => y₁ (pl₁.mpr x₁.1))) (by decide)⟩, fun y₁ => ⟨fun x₁ => ⟨hT₁.1, setK 4 (bad₁ (fun x₁ => z₁ (pd₁.mpr x₁.1)) (fun w₁ => by omega)) (by decide)⟩, fun x₁ => ⟨hT₁.1, setK 2 ?_ (by decide)⟩⟩⟩, fun z₁ => ⟨fun y₁ => ⟨fun x₁ => ⟨hT₁.1, setK 4 (bad₁ (fun w₁ => by omega) (fun w₁ => x₁ (pl₁.mpr w₁.1))) (by decide)⟩, fun x₁ => by omega⟩, fun y₁ => ⟨hT₁.1, fun I17₁ g17₁ => ?_⟩⟩⟩
    · rw [runK, if_neg (fun w₁ => z₁ (pd₁.mpr w₁.1)), if_pos ⟨pl₁.mp y₁, by omega⟩]
    · have e1₁ : runK B₁ a₁ i₁ = 1 := by rw [runK, if_pos ⟨pd₁.mp z₁, by omega⟩]
      have hne2 : letsL B₁ a₁ i₁ ≠ [] := fun w₁ => by
        have := congrArg List.length w₁
        rw [lets_len, List.length_nil] at this
        omega
      rw [pL₁ z₁]
      refine s_wordOf ⟨hne2, by rw [lets_len]; omega, lets_ok i₁ (pd₁.mp z₁)⟩ (fun I19₁ g19₁ => ?_)
      refine h₁ I19₁ L1₁ (by rw [g19₁, mup_k (by decide), g17₁, mup_k (by decide)]; exact p3₁) (by rw [g19₁, mup_k (by decide), g17₁, mup_at, e1₁]; rfl) (fun _ _ => ⟨pL₁ z₁, by rw [g19₁, mup_at]⟩) (fun w₁ => by rw [e1₁] at w₁; exact absurd w₁ (by decide)) (by rw [g19₁, mup_k (by decide), g17₁, mup_k (by decide)]; exact p5₁) (frK_t ⟨fun b₁ q₁ => by rw [g19₁, mup_ne q₁, g17₁, mup_ne q₁], fun y₁ _ q₁ _ w₁ _ _ => by rw [g19₁, mup_k w₁, g17₁, mup_k q₁], fun _ _ => rfl⟩ hf₁)
  have hT1₁ : TAP₁ I1₁ (y0₁ + 1) B₁ n₁ := fun j₁ hj₁ => by rw [hf₁.1 _ (by omega)]; exact hB₁ j₁ hj₁
  have hn1₁ : I1₁ y0₁ 1 = nI n₁ := by rw [hf₁.2.1 1 (by decide) (by decide) (by decide) (by decide) (by decide) (by decide)]; exact hn₁
  rw [show (940 : Int32) = nI 940 from rfl, leN (by omega) (by omega)]
  refine ⟨fun z₁ => fin₁ (by rw [← hs₁, skp_no (by omega)]), fun z₁ => ⟨hT₁.1, ?_⟩⟩
  rw [p3₁]
  refine s_byteOf hT₁ hn1₁ h940 hT1₁ (by omega) (fun hq₁ => s_goesOn (hb₁ _) ⟨fun y₁ => fin₁ (by rw [← hs₁, skp_no (fun w₁ => by rw [w₁.2] at y₁; exact absurd y₁ (by decide))]), fun y₁ => ?_⟩) (fun hq₁ => ⟨fun _ => ⟨fun _ => ⟨fun _ => fin₁ (by rw [← hs₁, skp_no (fun w₁ => hq₁ w₁.1)]), fun y₁ => absurd y₁ (by decide)⟩, fun y₁ => absurd (by decide) y₁⟩, fun y₁ => absurd (by decide) y₁⟩)
  have go₁ := hs₁
  rw [skp_go hq₁ y₁] at go₁
  refine s_byteOf hT₁ hn1₁ h940 hT1₁ (by omega) (fun _ => ?_) (fun w₁ => absurd hq₁ w₁)
  have hc6₁ := hb₁ (a₁ + i₁)
  have l97₁ : nI (B₁ (a₁ + i₁)) < 97 ↔ B₁ (a₁ + i₁) < 97 := show nI _ < nI 97 ↔ _ from ltN (by omega) (by omega)
  rw [l97₁]
  have lt₁ : isLt (B₁ (a₁ + i₁)) = decide (97 ≤ B₁ (a₁ + i₁)) := by
    cases e₁ : isLt (B₁ (a₁ + i₁))
    · by_cases q₁ : 97 ≤ B₁ (a₁ + i₁)
      · simp only [isRn, e₁, Bool.false_or, isDg, Bool.and_eq_true, decide_eq_true_eq] at y₁; omega
      · exact (decide_eq_false q₁).symm
    · simp only [isLt, Bool.and_eq_true, decide_eq_true_eq] at e₁; exact (decide_eq_true e₁.1).symm
  have ld₁ : isDg (B₁ (a₁ + i₁)) = decide (¬ 97 ≤ B₁ (a₁ + i₁)) := by
    cases e₁ : isDg (B₁ (a₁ + i₁))
    · by_cases q₁ : 97 ≤ B₁ (a₁ + i₁)
      · exact (decide_eq_false (fun w₁ => w₁ q₁)).symm
      · rw [decide_eq_false q₁] at lt₁
        simp only [isRn, lt₁, e₁, Bool.false_or] at y₁
        exact absurd y₁ (by decide)
    · simp only [isDg, Bool.and_eq_true, decide_eq_true_eq] at e₁; exact (decide_eq_true (by omega)).symm
  refine ⟨fun x₁ v24₁ g24₁ I25₁ g25₁ I26₁ g26₁ v27₁ g27₁ => ⟨1000 - (i₁ + 1), by omega, rfl, i₁ + 1, cl₁, cd₁ + 1, by omega, rfl, rfl, by rw [g24₁, nI_1], by rw [g27₁, nI_1], by omega, go₁, ?_, ?_, ?_, fun w₁ => by omega, fun w₁ => ?_, ?_, ?_⟩, fun x₁ v28₁ g28₁ L29₁ g29₁ I30₁ g30₁ v31₁ g31₁ => ⟨1000 - (i₁ + 1), by omega, rfl, i₁ + 1, cl₁ + 1, cd₁, by omega, rfl, by rw [g28₁, nI_1], rfl, by rw [g31₁, nI_1], by omega, go₁, ?_, ?_, ?_, fun w₁ => ?_, fun w₁ => by omega, ?_, ?_⟩⟩
  · rw [g26₁, mup_at, g25₁, mup_k (by decide), p3₁, nI_1]; rfl
  · rw [allL, lt₁, decide_eq_false (by omega), Bool.and_false]; exact ⟨fun w₁ => by omega, fun w₁ => absurd w₁ (by decide)⟩
  · rw [allD, ld₁, decide_eq_true (by omega), Bool.and_true]; exact pl₁
  · rw [g26₁, mup_k (by decide), g25₁, mup_at, pN₁ w₁, numV]
    have : 48 ≤ B₁ (a₁ + i₁) := by
      rw [decide_eq_true (show ¬ 97 ≤ B₁ (a₁ + i₁) by omega)] at ld₁
      simp only [isDg, Bool.and_eq_true, decide_eq_true_eq] at ld₁; exact ld₁.1
    rw [show (10 : Int32) = nI 10 from rfl, mulN, show (48 : Int32) = nI 48 from rfl, subN this, addN]
  · rw [g26₁, mup_k (by decide), g25₁, mup_k (by decide)]; exact p5₁
  · exact frK_t ⟨fun b₁ q₁ => by rw [g26₁, mup_ne q₁, g25₁, mup_ne q₁], fun y₁ q₁ _ _ _ w₁ _ => by rw [g26₁, mup_k q₁, g25₁, mup_k w₁], fun _ _ => rfl⟩ hf₁
  · rw [g30₁, mup_at, nI_1]; rfl
  · rw [allL, lt₁, decide_eq_true (by omega), Bool.and_true]; exact pd₁
  · rw [allD, ld₁, decide_eq_false (by omega), Bool.and_false]; exact ⟨fun w₁ => by omega, fun w₁ => absurd w₁ (by decide)⟩
  · rw [g29₁, mup_at, pL₁ w₁, letsL, encB_32, encB_32, encN_snoc, show (96 : Int32) = nI 96 from rfl, subN (by omega), nI_l (by omega), show (32 : Int64) = lN 32 from rfl, lN_mul, lN_add]
  · rw [g30₁, mup_k (by decide)]; exact p5₁
  · exact frK_t ⟨fun b₁ q₁ => by rw [g30₁, mup_ne q₁], fun y₁ q₁ _ _ _ _ _ => by rw [g30₁, mup_k q₁], fun b₁ q₁ => by rw [g29₁, mup_ne q₁]⟩ hf₁
end UN₁
