/-! ===== tokens: what a text's bytes say ===== -/
def isBl (c₁ : Nat) : Bool := c₁ == 32 || c₁ == 10
def isLt (c₁ : Nat) : Bool := decide (97 ≤ c₁) && decide (c₁ ≤ 122)
def isDg (c₁ : Nat) : Bool := decide (48 ≤ c₁) && decide (c₁ ≤ 57)
def isRn (c₁ : Nat) : Bool := isLt c₁ || isDg c₁
def isSg (c₁ : Nat) : Bool := c₁ == 59 || c₁ == 60 || c₁ == 61 || c₁ == 62 || c₁ == 40 || c₁ == 41
/-- the first place from p on where P is not so -/
def skpB (P₁ : Nat → Bool) (B₁ : Nat → Nat) (n₁ : Nat) : Nat → Nat → Nat
  | 0, p₁ => p₁
  | f₁ + 1, p₁ => if p₁ < n₁ ∧ P₁ (B₁ p₁) = true then skpB P₁ B₁ n₁ f₁ (p₁ + 1) else p₁
def skpS (P₁ : Nat → Bool) (B₁ : Nat → Nat) (n₁ p₁ : Nat) : Nat := skpB P₁ B₁ n₁ (n₁ - p₁) p₁
def letsL (B₁ : Nat → Nat) (a₁ : Nat) : Nat → List Nat
  | 0 => []
  | k₁ + 1 => letsL B₁ a₁ k₁ ++ [B₁ (a₁ + k₁) - 96]
def numV (B₁ : Nat → Nat) (a₁ : Nat) : Nat → Nat
  | 0 => 0
  | k₁ + 1 => numV B₁ a₁ k₁ * 10 + (B₁ (a₁ + k₁) - 48)
def allL (B₁ : Nat → Nat) (a₁ : Nat) : Nat → Bool
  | 0 => true
  | k₁ + 1 => allL B₁ a₁ k₁ && isLt (B₁ (a₁ + k₁))
def allD (B₁ : Nat → Nat) (a₁ : Nat) : Nat → Bool
  | 0 => true
  | k₁ + 1 => allD B₁ a₁ k₁ && isDg (B₁ (a₁ + k₁))
section UN₁
variable {P₁ : Nat → Bool} {B₁ : Nat → Nat} {n₁ p₁ : Nat}
theorem skp_go (h₁ : p₁ < n₁) (h2₁ : P₁ (B₁ p₁) = true) : skpS P₁ B₁ n₁ p₁ = skpS P₁ B₁ n₁ (p₁ + 1) := by
  rw [skpS, show n₁ - p₁ = (n₁ - (p₁ + 1)) + 1 by omega, skpB, if_pos ⟨h₁, h2₁⟩, skpS]
theorem skp_no (h₁ : ¬ (p₁ < n₁ ∧ P₁ (B₁ p₁) = true)) : skpS P₁ B₁ n₁ p₁ = p₁ := by
  rw [skpS]
  rcases hd₁ : n₁ - p₁ with - | f₁
  · rfl
  · rw [skpB, if_neg h₁]
theorem skpB_in : ∀ f₁ p₁, p₁ ≤ skpB P₁ B₁ n₁ f₁ p₁ ∧ (p₁ ≤ n₁ → skpB P₁ B₁ n₁ f₁ p₁ ≤ n₁)
  | 0, p₁ => by rw [skpB]; omega
  | f₁ + 1, p₁ => by
    rw [skpB]
    split
    · have := skpB_in f₁ (p₁ + 1)
      omega
    · omega
theorem skp_ge : p₁ ≤ skpS P₁ B₁ n₁ p₁ := (skpB_in _ _).1
theorem skp_le (h₁ : p₁ ≤ n₁) : skpS P₁ B₁ n₁ p₁ ≤ n₁ := (skpB_in _ _).2 h₁
theorem skpB_all : ∀ f₁ p₁ j₁, p₁ ≤ j₁ → j₁ < skpB P₁ B₁ n₁ f₁ p₁ → P₁ (B₁ j₁) = true
  | 0, p₁, j₁, h₁, h2₁ => by rw [skpB] at h2₁; omega
  | f₁ + 1, p₁, j₁, h₁, h2₁ => by
    rw [skpB] at h2₁
    split at h2₁
    · rename_i z₁
      by_cases e₁ : j₁ = p₁
      · rw [e₁]; exact z₁.2
      · exact skpB_all f₁ (p₁ + 1) j₁ (by omega) h2₁
    · omega
theorem skp_all {j₁ : Nat} (h₁ : p₁ ≤ j₁) (h2₁ : j₁ < skpS P₁ B₁ n₁ p₁) : P₁ (B₁ j₁) = true := skpB_all _ _ _ h₁ h2₁
theorem skpB_end : ∀ f₁ p₁, n₁ - p₁ ≤ f₁ → ¬ (skpB P₁ B₁ n₁ f₁ p₁ < n₁ ∧ P₁ (B₁ (skpB P₁ B₁ n₁ f₁ p₁)) = true)
  | 0, p₁, h₁ => by rw [skpB]; omega
  | f₁ + 1, p₁, h₁ => by
    rw [skpB]
    split
    · exact skpB_end f₁ (p₁ + 1) (by omega)
    · assumption
theorem skp_end : ¬ (skpS P₁ B₁ n₁ p₁ < n₁ ∧ P₁ (B₁ (skpS P₁ B₁ n₁ p₁)) = true) := skpB_end _ _ (Nat.le_refl _)
end UN₁
/-- the token that stands at p or behind it: where it begins, where the next is looked for, its kind, letters, number, sign -/
def tkS₁ (B₁ : Nat → Nat) (n₁ lm₁ p₁ : Nat) : Nat := if lm₁ < n₁ ∧ lm₁ ≤ skpS isBl B₁ n₁ p₁ then lm₁ else skpS isBl B₁ n₁ p₁
def tkE₁ (B₁ : Nat → Nat) (n₁ p₁ : Nat) : Nat := skpS isRn B₁ n₁ (skpS isBl B₁ n₁ p₁)
def tkN₁ (B₁ : Nat → Nat) (n₁ lm₁ p₁ : Nat) : Nat := if lm₁ < n₁ ∧ lm₁ ≤ skpS isBl B₁ n₁ p₁ then skpS isBl B₁ n₁ p₁ else if n₁ ≤ skpS isBl B₁ n₁ p₁ then skpS isBl B₁ n₁ p₁ else if isRn (B₁ (skpS isBl B₁ n₁ p₁)) = true then tkE₁ B₁ n₁ p₁ else skpS isBl B₁ n₁ p₁ + 1
def runK (B₁ : Nat → Nat) (a₁ k₁ : Nat) : Nat := if allL B₁ a₁ k₁ = true ∧ k₁ ≤ 7 then 1 else if allD B₁ a₁ k₁ = true ∧ k₁ ≤ 3 then 2 else 4
def tkK₁ (B₁ : Nat → Nat) (n₁ lm₁ p₁ : Nat) : Nat := if lm₁ < n₁ ∧ lm₁ ≤ skpS isBl B₁ n₁ p₁ then 4 else if n₁ ≤ skpS isBl B₁ n₁ p₁ then 0 else if isRn (B₁ (skpS isBl B₁ n₁ p₁)) = true then runK B₁ (skpS isBl B₁ n₁ p₁) (tkE₁ B₁ n₁ p₁ - skpS isBl B₁ n₁ p₁) else if isSg (B₁ (skpS isBl B₁ n₁ p₁)) = true then 3 else 4
def tkW₁ (B₁ : Nat → Nat) (n₁ p₁ : Nat) : List Nat := letsL B₁ (skpS isBl B₁ n₁ p₁) (tkE₁ B₁ n₁ p₁ - skpS isBl B₁ n₁ p₁)
def tkV₁ (B₁ : Nat → Nat) (n₁ p₁ : Nat) : Nat := numV B₁ (skpS isBl B₁ n₁ p₁) (tkE₁ B₁ n₁ p₁ - skpS isBl B₁ n₁ p₁)
def tkG₁ (B₁ : Nat → Nat) (n₁ p₁ : Nat) : Nat := B₁ (skpS isBl B₁ n₁ p₁)
/-- the class's words, in its order -/
def cwL₁ : List (List Nat) := [0, 1, 2, 3, 5, 6, 4, 28, 7, 32, 8, 9, 10, 11, 12, 13, 14, 15, 16, 17, 18, 19, 20, 21, 22, 23, 24, 25, 26, 27, 29, 30, 31, 33].map wdK₁
def cwI₁ (l₁ : List Nat) : List (List Nat) → Nat → Int32
  | [], _ => -1
  | w₁ :: ws₁, i₁ => if w₁ = l₁ then nI i₁ else cwI₁ l₁ ws₁ (i₁ + 1)
def wixS (l₁ : List Nat) : Int32 := cwI₁ l₁ cwL₁ 0
section UN₁
variable {B₁ : Nat → Nat} {n₁ lm₁ p₁ a₁ : Nat}
theorem lets_len : ∀ k₁, (letsL B₁ a₁ k₁).length = k₁
  | 0 => rfl
  | k₁ + 1 => by rw [letsL, List.length_append, lets_len k₁]; rfl
theorem allL_at : ∀ k₁, allL B₁ a₁ k₁ = true → ∀ j₁, j₁ < k₁ → isLt (B₁ (a₁ + j₁)) = true
  | 0, _, j₁, hj₁ => absurd hj₁ (Nat.not_lt_zero j₁)
  | k₁ + 1, h₁, j₁, hj₁ => by
    rw [allL, Bool.and_eq_true] at h₁
    by_cases e₁ : j₁ = k₁
    · rw [e₁]; exact h₁.2
    · exact allL_at k₁ h₁.1 j₁ (by omega)
theorem lets_ok : ∀ k₁, allL B₁ a₁ k₁ = true → ∀ x₁ ∈ letsL B₁ a₁ k₁, 1 ≤ x₁ ∧ x₁ ≤ 26
  | 0, _, x₁, hx₁ => absurd hx₁ (by rw [letsL]; exact List.not_mem_nil)
  | k₁ + 1, h₁, x₁, hx₁ => by
    rw [allL, Bool.and_eq_true] at h₁
    rw [letsL, List.mem_append, List.mem_singleton] at hx₁
    rcases hx₁ with hx₁ | rfl
    · exact lets_ok k₁ h₁.1 x₁ hx₁
    · have := h₁.2
      rw [isLt, Bool.and_eq_true, decide_eq_true_eq, decide_eq_true_eq] at this
      omega
/-- a token that is a word has letters that are some -/
theorem tkW_ok (h₁ : tkK₁ B₁ n₁ lm₁ p₁ = 1) : wdOK (tkW₁ B₁ n₁ p₁) := by
  rw [tkK₁] at h₁
  split at h₁
  · omega
  · split at h₁
    · omega
    · split at h₁
      · rename_i z1₁ z2₁ z3₁
        rw [runK] at h₁
        split at h₁
        · rename_i z₁
          have hne₁ : skpS isBl B₁ n₁ p₁ < tkE₁ B₁ n₁ p₁ := by
            have h1₁ : skpS isBl B₁ n₁ p₁ < n₁ := by omega
            have := skp_go h1₁ z3₁
            have g₁ := skp_ge (P₁ := isRn) (B₁ := B₁) (n₁ := n₁) (p₁ := skpS isBl B₁ n₁ p₁ + 1)
            rw [tkE₁]; omega
          refine ⟨fun e₁ => ?_, by rw [tkW₁, lets_len]; exact z₁.2, lets_ok _ z₁.1⟩
          have := congrArg List.length e₁
          rw [tkW₁, lets_len, List.length_nil] at this
          omega
        · split at h₁ <;> omega
      · split at h₁ <;> omega
end UN₁
