/-! ===== a 'size' line, a 'row' line: what they come to ===== -/
/-- what a line comes to: a fault and its place, or the unit behind it and where the tokens stand -/
abbrev LRES : Type := Sum (Nat × Nat) ((Nat → Int32) × (Nat → List Nat) × Nat)
def posB (U₁ : Nat → Int32) (a₁ : Int32) : Nat → Nat → Nat
  | 0, k₁ => k₁
  | f₁ + 1, k₁ => if U₁ (6 + k₁) < a₁ then posB U₁ a₁ f₁ (k₁ + 1) else k₁
def posS (U₁ : Nat → Int32) (a₁ : Int32) : Nat := posB U₁ a₁ (ix (U₁ 1)) 0
def rowAt (U₁ : Nat → Int32) (a₁ : Nat) : Bool := decide (posS U₁ (nI a₁) < ix (U₁ 1)) && decide (U₁ (6 + posS U₁ (nI a₁)) = nI a₁)
/-- a row put in at q, of n rows -/
def insU (U₁ : Nat → Int32) (q₁ n₁ : Nat) (a₁ l₁ : Int32) (k₁ : Nat) : Int32 := if k₁ = 1 then nI (n₁ + 1) else if k₁ = 6 + q₁ then a₁ else if k₁ = 36 + q₁ then l₁ else if 6 + q₁ < k₁ ∧ k₁ ≤ 6 + n₁ then U₁ (k₁ - 1) else if 36 + q₁ < k₁ ∧ k₁ ≤ 36 + n₁ then U₁ (k₁ - 1) else U₁ k₁
def pSize (B₁ : Nat → Nat) (n₁ lm₁ lines : Nat) (U₁ : Nat → Int32) (NM₁ : Nat → List Nat) (p₁ : Nat) : LRES :=
  if 0 < lines then .inl (3, tkS₁ B₁ n₁ lm₁ p₁) else if nmS₁ B₁ n₁ lm₁ (tkN₁ B₁ n₁ lm₁ p₁) 1 256 ≠ 0 then .inl (nmS₁ B₁ n₁ lm₁ (tkN₁ B₁ n₁ lm₁ p₁) 1 256, tkS₁ B₁ n₁ lm₁ (tkN₁ B₁ n₁ lm₁ p₁)) else .inr (vst₁ U₁ 0 (nI (tkV₁ B₁ n₁ (tkN₁ B₁ n₁ lm₁ p₁))), NM₁, tkN₁ B₁ n₁ lm₁ (tkN₁ B₁ n₁ lm₁ p₁))
def pRow (B₁ : Nat → Nat) (n₁ lm₁ : Nat) (U₁ : Nat → Int32) (NM₁ : Nat → List Nat) (p₁ : Nat) : LRES :=
  if ix (U₁ 1) = 30 then .inl (4, tkS₁ B₁ n₁ lm₁ p₁)
  else if nmS₁ B₁ n₁ lm₁ (tkN₁ B₁ n₁ lm₁ p₁) 0 (ix (U₁ 0) - 1) ≠ 0 then .inl (nmS₁ B₁ n₁ lm₁ (tkN₁ B₁ n₁ lm₁ p₁) 0 (ix (U₁ 0) - 1), tkS₁ B₁ n₁ lm₁ (tkN₁ B₁ n₁ lm₁ p₁))
  else if rowAt U₁ (tkV₁ B₁ n₁ (tkN₁ B₁ n₁ lm₁ p₁)) = true then .inl (3, tkS₁ B₁ n₁ lm₁ (tkN₁ B₁ n₁ lm₁ p₁))
  else if nmS₁ B₁ n₁ lm₁ (tkN₁ B₁ n₁ lm₁ (tkN₁ B₁ n₁ lm₁ p₁)) 1 250 ≠ 0 then .inl (nmS₁ B₁ n₁ lm₁ (tkN₁ B₁ n₁ lm₁ (tkN₁ B₁ n₁ lm₁ p₁)) 1 250, tkS₁ B₁ n₁ lm₁ (tkN₁ B₁ n₁ lm₁ (tkN₁ B₁ n₁ lm₁ p₁)))
  else .inr (insU U₁ (posS U₁ (nI (tkV₁ B₁ n₁ (tkN₁ B₁ n₁ lm₁ p₁)))) (ix (U₁ 1)) (nI (tkV₁ B₁ n₁ (tkN₁ B₁ n₁ lm₁ p₁))) (nI (tkV₁ B₁ n₁ (tkN₁ B₁ n₁ lm₁ (tkN₁ B₁ n₁ lm₁ p₁)))), NM₁, tkN₁ B₁ n₁ lm₁ (tkN₁ B₁ n₁ lm₁ (tkN₁ B₁ n₁ lm₁ p₁)))
section UN₁
variable {U₁ : Nat → Int32} {a₁ : Int32}
theorem posB_p : ∀ f₁ k₁, k₁ ≤ posB U₁ a₁ f₁ k₁ ∧ posB U₁ a₁ f₁ k₁ ≤ k₁ + f₁ ∧ (∀ j₁, k₁ ≤ j₁ → j₁ < posB U₁ a₁ f₁ k₁ → U₁ (6 + j₁) < a₁) ∧ (posB U₁ a₁ f₁ k₁ < k₁ + f₁ → ¬ U₁ (6 + posB U₁ a₁ f₁ k₁) < a₁)
  | 0, k₁ => by rw [posB]; exact ⟨Nat.le_refl k₁, Nat.le_refl k₁, fun j₁ h1₁ h2₁ => by omega, fun h₁ => by omega⟩
  | f₁ + 1, k₁ => by
    rw [posB]
    split
    · rename_i z₁
      obtain ⟨h1₁, h2₁, h3₁, h4₁⟩ := posB_p f₁ (k₁ + 1)
      refine ⟨by omega, by omega, fun j₁ h5₁ h6₁ => ?_, fun h₁ => h4₁ (by omega)⟩
      by_cases e₁ : j₁ = k₁
      · rw [e₁]; exact z₁
      · exact h3₁ j₁ (by omega) h6₁
    · rename_i z₁
      exact ⟨Nat.le_refl k₁, by omega, fun j₁ h1₁ h2₁ => by omega, fun _ => z₁⟩
theorem posS_p : posS U₁ a₁ ≤ ix (U₁ 1) ∧ (∀ j₁, j₁ < posS U₁ a₁ → U₁ (6 + j₁) < a₁) ∧ (posS U₁ a₁ < ix (U₁ 1) → ¬ U₁ (6 + posS U₁ a₁) < a₁) := by
  obtain ⟨-, h2₁, h3₁, h4₁⟩ := posB_p (U₁ := U₁) (a₁ := a₁) (ix (U₁ 1)) 0
  exact ⟨by rw [Nat.zero_add] at h2₁; exact h2₁, fun j₁ hj₁ => h3₁ j₁ (Nat.zero_le j₁) hj₁, fun h₁ => h4₁ (by rw [Nat.zero_add]; exact h₁)⟩
/-- a row put in: the rows stay rows -/
theorem insU_r {q₁ n₁ : Nat} {k₁ : Nat} {l₁ : Int32} (hk₁ : k₁ < n₁ + 1) (hq₁ : q₁ ≤ n₁) (hn₁ : n₁ ≤ 29) : insU U₁ q₁ n₁ a₁ l₁ (6 + k₁) = (if k₁ < q₁ then U₁ (6 + k₁) else if k₁ = q₁ then a₁ else U₁ (6 + (k₁ - 1))) ∧ insU U₁ q₁ n₁ a₁ l₁ (36 + k₁) = (if k₁ < q₁ then U₁ (36 + k₁) else if k₁ = q₁ then l₁ else U₁ (36 + (k₁ - 1))) := by
  constructor
  · rw [insU, if_neg (by omega)]
    by_cases e₁ : k₁ = q₁
    · rw [if_pos (by omega), if_neg (by omega), if_pos e₁]
    · rw [if_neg (by omega), if_neg (by omega)]
      by_cases e2₁ : k₁ < q₁
      · rw [if_neg (by omega), if_neg (by omega), if_pos e2₁]
      · rw [if_pos (by omega), if_neg e2₁, if_neg e₁, show 6 + k₁ - 1 = 6 + (k₁ - 1) by omega]
  · rw [insU, if_neg (by omega), if_neg (by omega)]
    by_cases e₁ : k₁ = q₁
    · rw [if_pos (by omega), if_neg (by omega), if_pos e₁]
    · rw [if_neg (by omega), if_neg (by omega)]
      by_cases e2₁ : k₁ < q₁
      · rw [if_neg (by omega), if_pos e2₁]
      · rw [if_pos (by omega), if_neg e2₁, if_neg e₁, show 36 + k₁ - 1 = 36 + (k₁ - 1) by omega]
theorem insU_o {q₁ n₁ k₁ : Nat} {l₁ : Int32} (hq₁ : q₁ ≤ n₁) (hn₁ : n₁ ≤ 29) (h1₁ : k₁ ≠ 1) (h₁ : k₁ < 6 ∨ 66 ≤ k₁) : insU U₁ q₁ n₁ a₁ l₁ k₁ = U₁ k₁ := by
  rw [insU, if_neg h1₁, if_neg (by omega), if_neg (by omega), if_neg (by omega), if_neg (by omega)]
theorem insU_1 {q₁ n₁ : Nat} {l₁ : Int32} : insU U₁ q₁ n₁ a₁ l₁ 1 = nI (n₁ + 1) := by rw [insU, if_pos rfl]
theorem WFU_ins {b₁ v₁ : Nat} (h₁ : WFU₁ U₁) (hn₁ : ix (U₁ 1) ≤ 29) (hb₁ : b₁ < ix (U₁ 0)) (hno₁ : rowAt U₁ b₁ = false) (h1₁ : 1 ≤ v₁) (h2₁ : v₁ ≤ 250) : WFU₁ (insU U₁ (posS U₁ (nI b₁)) (ix (U₁ 1)) (nI b₁) (nI v₁)) := by
  obtain ⟨hU₁, hr₁, hs₁, hT₁, ht₁, hh₁, hw₁, ho₁⟩ := h₁
  obtain ⟨q1₁, q2₁, q3₁⟩ := posS_p (U₁ := U₁) (a₁ := nI b₁)
  have n0₁ := hU₁.2.2.2.2.2.2
  generalize hq₁ : posS U₁ (nI b₁) = q₁ at q1₁ q2₁ q3₁ hno₁ ⊢
  have e1₁ : ix (insU U₁ q₁ (ix (U₁ 1)) (nI b₁) (nI v₁) 1) = ix (U₁ 1) + 1 := by rw [insU_1, ix_nI (by omega)]
  have eo₁ : ∀ k₁, k₁ ≠ 1 → (k₁ < 6 ∨ 66 ≤ k₁) → insU U₁ q₁ (ix (U₁ 1)) (nI b₁) (nI v₁) k₁ = U₁ k₁ := fun k₁ h1₁ h2₁ => insU_o q1₁ hn₁ h1₁ h2₁
  have rr₁ := fun k₁ (hk₁ : k₁ < ix (U₁ 1) + 1) => insU_r (U₁ := U₁) (a₁ := nI b₁) (l₁ := nI v₁) hk₁ q1₁ hn₁
  have at2₁ : ∀ k₁, k₁ < ix (U₁ 1) → ∃ c₁, U₁ (6 + k₁) = nI c₁ ∧ c₁ < ix (U₁ 0) := fun k₁ hk₁ => (hr₁.2 k₁ hk₁).1
  have big₁ : ∀ k₁, q₁ ≤ k₁ → k₁ < ix (U₁ 1) → nI b₁ < U₁ (6 + k₁) := by
    intro k₁ hk₁ hk2₁
    have hq3₁ := q3₁ (by omega)
    obtain ⟨c₁, ec₁, hc₁⟩ := at2₁ q₁ (by omega)
    have hne₁ : U₁ (6 + q₁) ≠ nI b₁ := fun z₁ => by
      rw [rowAt, hq₁, decide_eq_true (show q₁ < ix (U₁ 1) by omega), decide_eq_true z₁] at hno₁
      exact absurd hno₁ (by decide)
    rw [ec₁, ltN (by omega) (by omega)] at hq3₁
    rw [ec₁, ne_eq, eqN (by omega) (by omega)] at hne₁
    have hlt₁ : nI b₁ < U₁ (6 + q₁) := by rw [ec₁, ltN (by omega) (by omega)]; omega
    by_cases e₁ : k₁ = q₁
    · rw [e₁]; exact hlt₁
    · obtain ⟨d₁, ed₁, hd₁⟩ := at2₁ k₁ hk2₁
      have := hr₁.1 q₁ k₁ (by omega) hk2₁
      rw [ec₁, ed₁, ltN (by omega) (by omega)] at this
      rw [ed₁, ltN (by omega) (by omega)]
      rw [ec₁, ltN (by omega) (by omega)] at hlt₁
      omega
  refine ⟨⟨⟨?_, ?_⟩, ?_⟩, ⟨?_, ?_⟩, ?_, ?_, ?_, ?_, ?_, ?_⟩
  · rw [e1₁, insU_1]
  · rw [e1₁]; omega
  · rw [eo₁ 0 (by decide) (by decide), eo₁ 2 (by decide) (by decide), eo₁ 3 (by decide) (by decide), eo₁ 4 (by decide) (by decide), eo₁ 5 (by decide) (by decide)]; exact hU₁.2
  · intro i₁ j₁ hij₁ hj₁
    rw [e1₁] at hj₁
    rw [(rr₁ i₁ (by omega)).1, (rr₁ j₁ hj₁).1]
    by_cases i1₁ : i₁ < q₁
    · rw [if_pos i1₁]
      by_cases j1₁ : j₁ < q₁
      · rw [if_pos j1₁]; exact hr₁.1 i₁ j₁ hij₁ (by omega)
      · rw [if_neg j1₁]
        by_cases j2₁ : j₁ = q₁
        · rw [if_pos j2₁]; exact q2₁ i₁ i1₁
        · rw [if_neg j2₁]; exact hr₁.1 i₁ (j₁ - 1) (by omega) (by omega)
    · rw [if_neg i1₁, if_neg (show ¬ j₁ < q₁ by omega), if_neg (show ¬ j₁ = q₁ by omega)]
      by_cases i2₁ : i₁ = q₁
      · rw [if_pos i2₁]; exact big₁ (j₁ - 1) (by omega) (by omega)
      · rw [if_neg i2₁]; exact hr₁.1 (i₁ - 1) (j₁ - 1) (by omega) (by omega)
  · intro k₁ hk₁
    rw [e1₁] at hk₁
    rw [(rr₁ k₁ hk₁).1, (rr₁ k₁ hk₁).2, eo₁ 0 (by decide) (by decide)]
    by_cases k1₁ : k₁ < q₁
    · rw [if_pos k1₁, if_pos k1₁]; exact hr₁.2 k₁ (by omega)
    · rw [if_neg k1₁, if_neg k1₁]
      by_cases k2₁ : k₁ = q₁
      · rw [if_pos k2₁, if_pos k2₁]; exact ⟨⟨b₁, rfl, hb₁⟩, v₁, rfl, h1₁, h2₁⟩
      · rw [if_neg k2₁, if_neg k2₁]; exact hr₁.2 (k₁ - 1) (by omega)
  · intro k₁ hk₁
    rw [eo₁ 2 (by decide) (by decide)] at hk₁
    have := hU₁.2.1.2
    rw [eo₁ (66 + k₁) (by omega) (by omega), eo₁ (76 + k₁) (by omega) (by omega), eo₁ (86 + k₁) (by omega) (by omega), eo₁ 0 (by decide) (by decide)]; exact hs₁ k₁ hk₁
  · intro k₁ hk₁
    rw [eo₁ 3 (by decide) (by decide)] at hk₁
    rw [eo₁ (96 + k₁) (by omega) (by omega), eo₁ (102 + k₁) (by omega) (by omega), eo₁ (108 + k₁) (by omega) (by omega)]; exact hT₁ k₁ hk₁
  · intro k₁ hk₁
    rw [eo₁ 4 (by decide) (by decide)] at hk₁
    rw [eo₁ (124 + k₁) (by omega) (by omega), eo₁ 3 (by decide) (by decide)]; exact ht₁ k₁ hk₁
  · intro k₁ hk₁
    rw [eo₁ 4 (by decide) (by decide)] at hk₁
    rw [eo₁ (114 + k₁) (by omega) (by omega), eo₁ 2 (by decide) (by decide)]; exact hh₁ k₁ hk₁
  · intro k₁ hk₁
    rw [eo₁ 5 (by decide) (by decide)] at hk₁
    rw [eo₁ (134 + k₁) (by omega) (by omega), eo₁ (150 + k₁) (by omega) (by omega), eo₁ (166 + k₁) (by omega) (by omega), eo₁ 4 (by decide) (by decide), eo₁ 0 (by decide) (by decide)]; exact hw₁ k₁ hk₁
  · intro k₁ hk₁
    rw [eo₁ 5 (by decide) (by decide)] at hk₁
    rw [eo₁ (182 + k₁) (by omega) (by omega), eo₁ (198 + k₁) (by omega) (by omega), show (fun j₁ => insU U₁ q₁ (ix (U₁ 1)) (nI b₁) (nI v₁) (214 + 8 * k₁ + j₁)) = (fun j₁ => U₁ (214 + 8 * k₁ + j₁)) from funext (fun j₁ => eo₁ _ (by omega) (by omega))]; exact ho₁ k₁ hk₁
/-- what rowOf finds of an address -/
theorem rowOf_pos {b₁ : Nat} (h₁ : WFU₁ U₁) (hb₁ : b₁ < ix (U₁ 0)) : rowOf U₁ (nI b₁) = if rowAt U₁ b₁ = true then nI (posS U₁ (nI b₁)) else preI (posS U₁ (nI b₁)) := by
  obtain ⟨hU₁, hr₁, -⟩ := h₁
  obtain ⟨q1₁, q2₁, q3₁⟩ := posS_p (U₁ := U₁) (a₁ := nI b₁)
  have n0₁ := hU₁.2.2.2.2.2.2
  have n1₁ := hU₁.1.2
  rw [rowAt]
  generalize posS U₁ (nI b₁) = q₁ at q1₁ q2₁ q3₁ ⊢
  have at2₁ : ∀ k₁, k₁ < ix (U₁ 1) → ∃ c₁, U₁ (6 + k₁) = nI c₁ ∧ c₁ < ix (U₁ 0) := fun k₁ hk₁ => (hr₁.2 k₁ hk₁).1
  have lo₁ : ∀ j₁, j₁ < q₁ → U₁ (6 + j₁) ≤ nI b₁ := fun j₁ hj₁ => by
    obtain ⟨c₁, ec₁, hc₁⟩ := at2₁ j₁ (by omega)
    have := q2₁ j₁ hj₁
    rw [ec₁, ltN (by omega) (by omega)] at this
    rw [ec₁, leN (by omega) (by omega)]; omega
  by_cases z₁ : q₁ < ix (U₁ 1) ∧ U₁ (6 + q₁) = nI b₁
  · rw [decide_eq_true z₁.1, decide_eq_true z₁.2]
    show rowB U₁ (nI b₁) (ix (U₁ 1)) = nI q₁
    rw [rowB_eq (i₁ := q₁ + 1) (fun j₁ hj₁ => ?_) (fun j₁ h1₁ h2₁ => ?_) (by omega)]; rfl
    · by_cases e₁ : j₁ = q₁
      · rw [e₁, z₁.2, leN (by omega) (by omega)]; exact Nat.le_refl b₁
      · exact lo₁ j₁ (by omega)
    · have := hr₁.1 q₁ j₁ (by omega) h2₁
      obtain ⟨c₁, ec₁, hc₁⟩ := at2₁ j₁ h2₁
      rw [z₁.2, ec₁, ltN (by omega) (by omega)] at this
      rw [ec₁, leN (by omega) (by omega)]; omega
  · have hf₁ : (decide (q₁ < ix (U₁ 1)) && decide (U₁ (6 + q₁) = nI b₁)) = false := by
      rw [Bool.and_eq_false_iff, decide_eq_false_iff_not, decide_eq_false_iff_not]
      by_cases y₁ : q₁ < ix (U₁ 1)
      · exact Or.inr (fun w₁ => z₁ ⟨y₁, w₁⟩)
      · exact Or.inl y₁
    rw [hf₁]
    show rowB U₁ (nI b₁) (ix (U₁ 1)) = preI q₁
    rw [rowB_eq (i₁ := q₁) lo₁ (fun j₁ h1₁ h2₁ => ?_) q1₁]
    have hq3₁ := q3₁ (by omega)
    obtain ⟨c₁, ec₁, hc₁⟩ := at2₁ q₁ (by omega)
    rw [ec₁, ltN (by omega) (by omega)] at hq3₁
    have hne₁ : c₁ ≠ b₁ := fun w₁ => z₁ ⟨by omega, by rw [ec₁, w₁]⟩
    by_cases e₁ : j₁ = q₁
    · rw [e₁, ec₁, leN (by omega) (by omega)]; omega
    · have := hr₁.1 q₁ j₁ (by omega) h2₁
      obtain ⟨d₁, ed₁, hd₁⟩ := at2₁ j₁ h2₁
      rw [ec₁, ed₁, ltN (by omega) (by omega)] at this
      rw [ed₁, leN (by omega) (by omega)]; omega
end UN₁
