/-! ===== what is asked of a token: the class ===== -/
/-- the class's tokens stand at p -/
def TCS₁ (K₁ N₁ : MK) (R₁ : MR) (I₁ : MI) (L₁ : ML) (t₁ : Nat) (B₁ : Nat → Nat) (n₁ lm₁ p₁ : Nat) : Prop := TOC₁ K₁ N₁ R₁ t₁ ∧ (∀ i₁, B₁ i₁ < 256) ∧ n₁ ≤ 940 ∧ lm₁ < 1000 ∧ p₁ ≤ n₁ ∧ TAP₁ I₁ (t₁ + 1) B₁ n₁ ∧ TKC₁ I₁ L₁ t₁ B₁ n₁ lm₁ p₁
/-- a fault is told: its kind, its place -/
def flC₁ (t₁ k₁ pl₁ : Nat) (J₁ I₁ : MI) : Prop := J₁ t₁ 10 = nI k₁ ∧ J₁ t₁ 11 = nI pl₁ ∧ (∀ b₁, b₁ ≠ t₁ → J₁ b₁ = I₁ b₁) ∧ ∀ y₁, y₁ ≠ 10 → y₁ ≠ 11 → J₁ t₁ y₁ = I₁ t₁ y₁
/-- whether it is a number between two: 0, or the fault's kind -/
def nmS₁ (B₁ : Nat → Nat) (n₁ lm₁ p₁ lo₁ hi₁ : Nat) : Nat := if tkK₁ B₁ n₁ lm₁ p₁ = 2 then (if lo₁ ≤ tkV₁ B₁ n₁ p₁ ∧ tkV₁ B₁ n₁ p₁ ≤ hi₁ then 0 else 2) else 1
def isNm (B₁ : Nat → Nat) (n₁ lm₁ p₁ : Nat) : Bool := decide (tkK₁ B₁ n₁ lm₁ p₁ = 1) && decide (wixS (tkW₁ B₁ n₁ p₁) = -1)
def isSn (B₁ : Nat → Nat) (n₁ lm₁ p₁ c₁ : Nat) : Bool := decide (tkK₁ B₁ n₁ lm₁ p₁ = 3) && decide (tkG₁ B₁ n₁ p₁ = c₁)
def isWd (B₁ : Nat → Nat) (n₁ lm₁ p₁ k₁ : Nat) : Bool := decide (tkK₁ B₁ n₁ lm₁ p₁ = 1) && decide (tkW₁ B₁ n₁ p₁ = wdK₁ k₁)
def wpL₁ : List Nat := [0, 1, 2, 3, 5, 6, 4, 28, 7, 32, 8, 9, 10, 11, 12, 13, 14, 15, 16, 17, 18, 19, 20, 21, 22, 23, 24, 25, 26, 27, 29, 30, 31, 33]
/-- the word's number here, in the class's order -/
def whS₁ (B₁ : Nat → Nat) (n₁ lm₁ p₁ : Nat) : Int32 := if tkK₁ B₁ n₁ lm₁ p₁ = 1 then wixS (tkW₁ B₁ n₁ p₁) else -1
theorem wix_of : ∀ c₁, c₁ < 34 → wixS (wdK₁ (wpL₁.getD c₁ 0)) = nI c₁ := by
  have h₁ : ∀ c₁ : Fin 34, wixS (wdK₁ (wpL₁.getD c₁.1 0)) = nI c₁.1 := by decide +kernel
  exact fun c₁ hc₁ => h₁ ⟨c₁, hc₁⟩
theorem cwI_in {l₁ : List Nat} : ∀ (ws₁ : List (List Nat)) (i₁ : Nat), cwI₁ l₁ ws₁ i₁ = -1 ∨ l₁ ∈ ws₁
  | [], _ => Or.inl rfl
  | w₁ :: ws₁, i₁ => by
    rw [cwI₁]
    split
    · rename_i e₁; exact Or.inr (by rw [← e₁]; exact List.mem_cons_self)
    · exact (cwI_in ws₁ (i₁ + 1)).imp id (List.mem_cons_of_mem _)
theorem cwL_mem {l₁ : List Nat} (h₁ : l₁ ∈ cwL₁) : ∃ c₁, c₁ < 34 ∧ l₁ = wdK₁ (wpL₁.getD c₁ 0) := by
  rw [cwL₁, List.mem_map] at h₁
  obtain ⟨k₁, hk₁, rfl⟩ := h₁
  have : ∀ k₁ ∈ wpL₁, ∃ c₁ : Fin 34, k₁ = wpL₁.getD c₁.1 0 := by decide
  obtain ⟨c₁, e₁⟩ := this k₁ hk₁
  exact ⟨c₁.1, c₁.2, by rw [← e₁]⟩
theorem wix_iff {l₁ : List Nat} {c₁ : Nat} (hc₁ : c₁ < 34) : wixS l₁ = nI c₁ ↔ l₁ = wdK₁ (wpL₁.getD c₁ 0) := by
  constructor
  · intro e₁
    rcases cwI_in cwL₁ 0 (l₁ := l₁) with z₁ | z₁
    · have z₁ : wixS l₁ = -1 := z₁
      rw [z₁] at e₁
      exact absurd e₁ (m1_ne' (by omega))
    · obtain ⟨d₁, hd₁, rfl⟩ := cwL_mem z₁
      rw [wix_of d₁ hd₁, eqN (by omega) (by omega)] at e₁
      rw [e₁]
  · intro e₁
    rw [e₁]; exact wix_of c₁ hc₁
theorem wp_all : ∀ k₁, k₁ < 34 → ∃ c₁, c₁ < 34 ∧ wpL₁.getD c₁ 0 = k₁ := by
  have h₁ : ∀ k₁ : Fin 34, ∃ c₁ : Fin 34, wpL₁.getD c₁.1 0 = k₁.1 := by decide
  intro k₁ hk₁
  obtain ⟨c₁, e₁⟩ := h₁ ⟨k₁, hk₁⟩
  exact ⟨c₁.1, c₁.2, e₁⟩
theorem wix_no {l₁ : List Nat} : wixS l₁ = -1 ↔ ∀ k₁, k₁ < 34 → l₁ ≠ wdK₁ k₁ := by
  constructor
  · intro e₁ k₁ hk₁ z₁
    obtain ⟨c₁, hc₁, ec₁⟩ := wp_all k₁ hk₁
    rw [← ec₁] at z₁
    rw [(wix_iff hc₁).mpr z₁] at e₁
    exact absurd e₁ (m1_ne (by omega))
  · intro h₁
    rcases cwI_in cwL₁ 0 (l₁ := l₁) with z₁ | z₁
    · exact z₁
    · obtain ⟨d₁, hd₁, e₁⟩ := cwL_mem z₁
      have hw₁ : wpL₁.getD d₁ 0 < 34 := by
        have : ∀ d₁ : Fin 34, wpL₁.getD d₁.1 0 < 34 := by decide
        exact this ⟨d₁, hd₁⟩
      exact absurd e₁ (h₁ _ hw₁)
section UN₁
variable {B₁ : Nat → Nat} {n₁ lm₁ p₁ : Nat}
theorem whS_iff {c₁ : Nat} (hc₁ : c₁ < 34) : whS₁ B₁ n₁ lm₁ p₁ = nI c₁ ↔ isWd B₁ n₁ lm₁ p₁ (wpL₁.getD c₁ 0) = true := by
  rw [whS₁, isWd, Bool.and_eq_true, decide_eq_true_eq, decide_eq_true_eq]
  split
  · rename_i e₁; rw [wix_iff hc₁]; exact ⟨fun z₁ => ⟨e₁, z₁⟩, fun z₁ => z₁.2⟩
  · rename_i e₁; exact ⟨fun z₁ => absurd z₁ (m1_ne' (by omega)), fun z₁ => absurd z₁.1 e₁⟩
theorem whS_or : whS₁ B₁ n₁ lm₁ p₁ = -1 ∨ ∃ c₁, c₁ < 34 ∧ whS₁ B₁ n₁ lm₁ p₁ = nI c₁ := by
  rw [whS₁]
  split
  · rcases cwI_in cwL₁ 0 (l₁ := tkW₁ B₁ n₁ p₁) with z₁ | z₁
    · exact Or.inl z₁
    · obtain ⟨d₁, hd₁, e₁⟩ := cwL_mem z₁
      exact Or.inr ⟨d₁, hd₁, by rw [e₁]; exact wix_of d₁ hd₁⟩
  · exact Or.inl rfl
theorem numV_lt {a₁ : Nat} : ∀ k₁, allD B₁ a₁ k₁ = true → numV B₁ a₁ k₁ < 10 ^ k₁
  | 0, _ => by rw [numV]; decide
  | k₁ + 1, h₁ => by
    rw [allD, Bool.and_eq_true] at h₁
    have ih₁ := numV_lt k₁ h₁.1
    have hd₁ := h₁.2
    simp only [isDg, Bool.and_eq_true, decide_eq_true_eq] at hd₁
    rw [numV, Nat.pow_succ]; omega
theorem tkV_lt (h₁ : tkK₁ B₁ n₁ lm₁ p₁ = 2) : tkV₁ B₁ n₁ p₁ < 1000 := by
  rw [tkK₁] at h₁
  split at h₁
  · omega
  · split at h₁
    · omega
    · split at h₁
      · rw [runK] at h₁
        split at h₁
        · omega
        · split at h₁
          · rename_i z₁
            rw [tkV₁]
            exact Nat.lt_of_lt_of_le (numV_lt _ z₁.1) (Nat.pow_le_pow_right (by decide) z₁.2 : _ ≤ 10 ^ 3)
          · omega
      · split at h₁ <;> omega
theorem tkK_le : tkK₁ B₁ n₁ lm₁ p₁ ≤ 4 := by
  rw [tkK₁]
  split
  · omega
  · split
    · omega
    · split
      · rw [runK]; split
        · omega
        · split <;> omega
      · split <;> omega
theorem tkS_le (h₁ : p₁ ≤ n₁) : tkS₁ B₁ n₁ lm₁ p₁ ≤ n₁ := by
  have := skp_le (P₁ := isBl) (B₁ := B₁) h₁
  rw [tkS₁]
  split <;> omega
end UN₁
section UN₁
variable {K₁ N₁ : MK} {I₁ : MI} {L₁ : ML} {R₁ : MR} {t₁ n₁ lm₁ p₁ : Nat} {B₁ : Nat → Nat}
theorem TCS_fr {J₁ : MI} {M₁ : ML} (h₁ : TCS₁ K₁ N₁ R₁ I₁ L₁ t₁ B₁ n₁ lm₁ p₁) (e1₁ : J₁ (t₁ + 1) = I₁ (t₁ + 1)) (e2₁ : ∀ y₁, y₁ ≠ 10 → y₁ ≠ 11 → J₁ t₁ y₁ = I₁ t₁ y₁) (e3₁ : M₁ t₁ = L₁ t₁) : TCS₁ K₁ N₁ R₁ J₁ M₁ t₁ B₁ n₁ lm₁ p₁ := by
  obtain ⟨h1₁, h2₁, h3₁, h4₁, h5₁, h6₁, k1₁, k2₁, k3₁, k4₁, k5₁, k6₁, k7₁, k8₁⟩ := h₁
  refine ⟨h1₁, h2₁, h3₁, h4₁, h5₁, fun i₁ hi₁ => by rw [e1₁]; exact h6₁ i₁ hi₁, ?_, ?_, ?_, ?_, ?_, fun w₁ => ?_, fun w₁ => ?_, fun w₁ => ?_⟩
  · rw [e2₁ 1 (by decide) (by decide)]; exact k1₁
  · rw [e2₁ 2 (by decide) (by decide)]; exact k2₁
  · rw [e2₁ 3 (by decide) (by decide)]; exact k3₁
  · rw [e2₁ 4 (by decide) (by decide)]; exact k4₁
  · rw [e2₁ 5 (by decide) (by decide)]; exact k5₁
  · rw [e3₁, e2₁ 7 (by decide) (by decide)]; exact k6₁ w₁
  · rw [e2₁ 8 (by decide) (by decide)]; exact k7₁ w₁
  · rw [e2₁ 9 (by decide) (by decide)]; exact k8₁ w₁
theorem s_next {Q₁ : MI → ML → Prop} (hT₁ : TCS₁ K₁ N₁ R₁ I₁ L₁ t₁ B₁ n₁ lm₁ p₁) (h₁ : ∀ J₁ M₁, TCS₁ K₁ N₁ R₁ J₁ M₁ t₁ B₁ n₁ lm₁ (tkN₁ B₁ n₁ lm₁ p₁) → frK₁ t₁ J₁ I₁ M₁ L₁ → Q₁ J₁ M₁) : w_X8_advance t₁ K₁ N₁ I₁ L₁ R₁ Q₁ := by
  obtain ⟨h1₁, h2₁, h3₁, h4₁, h5₁, h6₁, k1₁, k2₁, k3₁, -⟩ := hT₁
  refine s_advance h1₁ h2₁ h3₁ h6₁ k1₁ k2₁ h4₁ k3₁ (tkN_le h5₁) (fun J₁ M₁ g1₁ g2₁ => h₁ J₁ M₁ ⟨h1₁, h2₁, h3₁, h4₁, tkN_le h5₁, fun i₁ hi₁ => by rw [g2₁.1 _ (by omega)]; exact h6₁ i₁ hi₁, g1₁⟩ g2₁)
theorem s_failT {k₁ : Nat} {Q₁ : Bool → MI → Prop} (hT₁ : TCS₁ K₁ N₁ R₁ I₁ L₁ t₁ B₁ n₁ lm₁ p₁) (h₁ : ∀ J₁, flC₁ t₁ k₁ (tkS₁ B₁ n₁ lm₁ p₁) J₁ I₁ → Q₁ false J₁) : w_X8_fail t₁ (nI k₁) K₁ N₁ I₁ L₁ R₁ Q₁ := by
  refine ⟨hT₁.1.1, fun I2₁ g2₁ I3₁ g3₁ => h₁ I3₁ ⟨by rw [g3₁, mup_k (by decide), g2₁, mup_at], ?_, fun b₁ q₁ => by rw [g3₁, mup_ne q₁, g2₁, mup_ne q₁], fun y₁ q1₁ q2₁ => by rw [g3₁, mup_k q2₁, g2₁, mup_k q1₁]⟩⟩
  rw [g3₁, mup_at, g2₁, mup_k (by decide)]
  exact hT₁.2.2.2.2.2.2.2.2.2.2.1
theorem s_wordHere {Q₁ : Int32 → Prop} (hT₁ : TCS₁ K₁ N₁ R₁ I₁ L₁ t₁ B₁ n₁ lm₁ p₁) (h₁ : Q₁ (whS₁ B₁ n₁ lm₁ p₁)) : w_X8_wordHere t₁ K₁ N₁ I₁ L₁ R₁ Q₁ := by
  obtain ⟨h1₁, h2₁, h3₁, h4₁, h5₁, h6₁, k1₁, k2₁, k3₁, k4₁, k5₁, k6₁, k7₁, k8₁⟩ := hT₁
  have := tkK_le (B₁ := B₁) (n₁ := n₁) (lm₁ := lm₁) (p₁ := p₁)
  rw [whS₁] at h₁
  refine ⟨h1₁.1, ?_⟩
  rw [k4₁, show (nI (tkK₁ B₁ n₁ lm₁ p₁) = 1) = (nI (tkK₁ B₁ n₁ lm₁ p₁) = nI 1) from rfl, eqN (by omega) (by omega)]
  refine ⟨fun z₁ => ?_, fun z₁ => ?_⟩
  · rw [if_neg z₁] at h₁; exact h₁
  · rw [if_pos z₁] at h₁; rw [(k6₁ z₁).2]; exact h₁
theorem s_isSign {c₁ : Nat} {Q₁ : Bool → Prop} (hT₁ : TCS₁ K₁ N₁ R₁ I₁ L₁ t₁ B₁ n₁ lm₁ p₁) (hc₁ : c₁ < 256) (h₁ : Q₁ (isSn B₁ n₁ lm₁ p₁ c₁)) : w_X8_isSign t₁ (nI c₁) K₁ N₁ I₁ L₁ R₁ Q₁ := by
  obtain ⟨h1₁, h2₁, h3₁, h4₁, h5₁, h6₁, k1₁, k2₁, k3₁, k4₁, k5₁, k6₁, k7₁, k8₁⟩ := hT₁
  have := tkK_le (B₁ := B₁) (n₁ := n₁) (lm₁ := lm₁) (p₁ := p₁)
  have hg₁ : tkG₁ B₁ n₁ p₁ < 256 := h2₁ _
  rw [isSn] at h₁
  refine ⟨h1₁.1, ?_⟩
  rw [k4₁, show (nI (tkK₁ B₁ n₁ lm₁ p₁) = 3) = (nI (tkK₁ B₁ n₁ lm₁ p₁) = nI 3) from rfl, eqN (by omega) (by omega)]
  refine ⟨fun z₁ => ?_, fun z₁ => ?_⟩
  · rw [decide_eq_false z₁, Bool.false_and] at h₁; exact h₁
  · rw [k8₁ z₁, eqN (by omega) (by omega)]
    rw [decide_eq_true z₁, Bool.true_and] at h₁
    refine ⟨fun y₁ => ?_, fun y₁ => ?_⟩
    · rw [decide_eq_false y₁] at h₁; exact h₁
    · rw [decide_eq_true y₁] at h₁; exact h₁
theorem s_needsNumber {lo₁ hi₁ : Nat} {Q₁ : Bool → MI → Prop} (hT₁ : TCS₁ K₁ N₁ R₁ I₁ L₁ t₁ B₁ n₁ lm₁ p₁) (hlo₁ : lo₁ < 10000) (hhi₁ : hi₁ < 10000)
    (h0₁ : nmS₁ B₁ n₁ lm₁ p₁ lo₁ hi₁ = 0 → tkK₁ B₁ n₁ lm₁ p₁ = 2 → lo₁ ≤ tkV₁ B₁ n₁ p₁ → tkV₁ B₁ n₁ p₁ ≤ hi₁ → I₁ t₁ 8 = nI (tkV₁ B₁ n₁ p₁) → Q₁ true I₁) (h1₁ : nmS₁ B₁ n₁ lm₁ p₁ lo₁ hi₁ ≠ 0 → ∀ J₁, flC₁ t₁ (nmS₁ B₁ n₁ lm₁ p₁ lo₁ hi₁) (tkS₁ B₁ n₁ lm₁ p₁) J₁ I₁ → Q₁ false J₁) : w_X8_needsNumber t₁ (nI lo₁) (nI hi₁) K₁ N₁ I₁ L₁ R₁ Q₁ := by
  have hT'₁ := hT₁
  obtain ⟨h1'₁, h2₁, h3₁, h4₁, h5₁, h6₁, k1₁, k2₁, k3₁, k4₁, k5₁, k6₁, k7₁, k8₁⟩ := hT₁
  have := tkK_le (B₁ := B₁) (n₁ := n₁) (lm₁ := lm₁) (p₁ := p₁)
  rw [nmS₁] at h0₁ h1₁
  refine ⟨h1'₁.1, ?_⟩
  rw [k4₁, show (nI (tkK₁ B₁ n₁ lm₁ p₁) = 2) = (nI (tkK₁ B₁ n₁ lm₁ p₁) = nI 2) from rfl, eqN (by omega) (by omega)]
  refine ⟨fun z₁ => ?_, fun z₁ => ?_⟩
  · have hv₁ := tkV_lt z₁
    rw [if_pos z₁] at h0₁ h1₁
    rw [k7₁ z₁, ltN (by omega) (by omega), leN (by omega) (by omega)]
    refine ⟨fun y₁ => s_failT (k₁ := 2) hT'₁ ?_, fun y₁ => ⟨fun x₁ => h0₁ (by rw [if_pos ⟨by omega, x₁⟩]) z₁ (by omega) x₁ (k7₁ z₁), fun x₁ => s_failT (k₁ := 2) hT'₁ ?_⟩⟩
    · rw [if_neg (fun w₁ => by omega)] at h1₁; exact h1₁ (by decide)
    · rw [if_neg (fun w₁ => by omega)] at h1₁; exact h1₁ (by decide)
  · rw [if_neg z₁] at h1₁
    exact s_failT (k₁ := 1) hT'₁ (h1₁ (by decide))
theorem s_needsName {Q₁ : Bool → MI → Prop} (hT₁ : TCS₁ K₁ N₁ R₁ I₁ L₁ t₁ B₁ n₁ lm₁ p₁)
    (h0₁ : isNm B₁ n₁ lm₁ p₁ = true → tkK₁ B₁ n₁ lm₁ p₁ = 1 → L₁ t₁ 6 = encB 32 (tkW₁ B₁ n₁ p₁) → Q₁ true I₁) (h1₁ : isNm B₁ n₁ lm₁ p₁ = false → ∀ J₁, flC₁ t₁ 1 (tkS₁ B₁ n₁ lm₁ p₁) J₁ I₁ → Q₁ false J₁) : w_X8_needsName t₁ K₁ N₁ I₁ L₁ R₁ Q₁ := by
  have hT'₁ := hT₁
  obtain ⟨h1'₁, h2₁, h3₁, h4₁, h5₁, h6₁, k1₁, k2₁, k3₁, k4₁, k5₁, k6₁, k7₁, k8₁⟩ := hT₁
  have := tkK_le (B₁ := B₁) (n₁ := n₁) (lm₁ := lm₁) (p₁ := p₁)
  rw [isNm] at h0₁ h1₁
  refine ⟨h1'₁.1, ?_⟩
  rw [k4₁, show (nI (tkK₁ B₁ n₁ lm₁ p₁) = 1) = (nI (tkK₁ B₁ n₁ lm₁ p₁) = nI 1) from rfl, eqN (by omega) (by omega)]
  refine ⟨fun z₁ => s_failT (k₁ := 1) hT'₁ (h1₁ (by rw [decide_eq_false z₁, Bool.false_and])), fun z₁ => ?_⟩
  rw [(k6₁ z₁).2]
  exact ⟨fun y₁ => h0₁ (by rw [decide_eq_true z₁, decide_eq_true y₁]; rfl) z₁ (k6₁ z₁).1, fun y₁ => s_failT (k₁ := 1) hT'₁ (h1₁ (by rw [decide_eq_false y₁, Bool.and_false]))⟩
theorem s_passSign {c₁ : Nat} {Q₁ : Bool → MI → ML → Prop} (hT₁ : TCS₁ K₁ N₁ R₁ I₁ L₁ t₁ B₁ n₁ lm₁ p₁) (hc₁ : c₁ < 256)
    (h0₁ : isSn B₁ n₁ lm₁ p₁ c₁ = true → ∀ J₁ M₁, TCS₁ K₁ N₁ R₁ J₁ M₁ t₁ B₁ n₁ lm₁ (tkN₁ B₁ n₁ lm₁ p₁) → frK₁ t₁ J₁ I₁ M₁ L₁ → Q₁ true J₁ M₁) (h1₁ : isSn B₁ n₁ lm₁ p₁ c₁ = false → ∀ J₁, flC₁ t₁ 1 (tkS₁ B₁ n₁ lm₁ p₁) J₁ I₁ → Q₁ false J₁ L₁) : w_X8_passSign t₁ (nI c₁) K₁ N₁ I₁ L₁ R₁ Q₁ := by
  refine ⟨hT₁.1.1, s_isSign hT₁ hc₁ ⟨fun z₁ => s_next hT₁ (h0₁ z₁), fun z₁ => s_failT (k₁ := 1) hT₁ (h1₁ z₁)⟩⟩
end UN₁
