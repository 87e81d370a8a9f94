/-! ===== a 'where' line: what it comes to ===== -/
/-- what op stands at p: 0 none, 1 a number, 2 'reg', 3 + q the op 1010 + q -/
def opN₁ (B₁ : Nat → Nat) (n₁ lm₁ p₁ : Nat) : Nat := if tkK₁ B₁ n₁ lm₁ p₁ = 2 then 1 else if isWd B₁ n₁ lm₁ p₁ 8 = true then 2 else if isWd B₁ n₁ lm₁ p₁ 9 = true then 3 else if isWd B₁ n₁ lm₁ p₁ 10 = true then 4 else if isWd B₁ n₁ lm₁ p₁ 11 = true then 5 else if isWd B₁ n₁ lm₁ p₁ 12 = true then 6 else if isWd B₁ n₁ lm₁ p₁ 13 = true then 7 else if isWd B₁ n₁ lm₁ p₁ 14 = true then 8 else 0
def opB₁ (r₁ : Int32) (d₁ : Nat) : Bool := if r₁ < 1010 then true else if r₁ = 1013 then decide (1 ≤ d₁) else if r₁ = 1014 then decide (1 ≤ d₁) else decide (2 ≤ d₁)
def pOp₁ (B₁ : Nat → Nat) (n₁ lm₁ c₁ d₁ p₁ : Nat) (k₁ : Int32 → Nat → LRES) : LRES :=
  if opN₁ B₁ n₁ lm₁ p₁ = 0 then .inl (1, tkS₁ B₁ n₁ lm₁ p₁) else if c₁ = 8 then .inl (4, tkS₁ B₁ n₁ lm₁ p₁) else if opN₁ B₁ n₁ lm₁ p₁ = 1 then k₁ (nI (tkV₁ B₁ n₁ p₁)) (tkN₁ B₁ n₁ lm₁ p₁)
  else if opN₁ B₁ n₁ lm₁ p₁ = 2 then pNum B₁ n₁ lm₁ (tkN₁ B₁ n₁ lm₁ p₁) 0 7 (k₁ (nI (1000 + tkV₁ B₁ n₁ (tkN₁ B₁ n₁ lm₁ p₁))) (tkN₁ B₁ n₁ lm₁ (tkN₁ B₁ n₁ lm₁ p₁)))
  else if opB₁ (nI (1007 + opN₁ B₁ n₁ lm₁ p₁)) d₁ = true then k₁ (nI (1007 + opN₁ B₁ n₁ lm₁ p₁)) (tkN₁ B₁ n₁ lm₁ p₁) else .inl (5, tkS₁ B₁ n₁ lm₁ p₁)
def opsU (U₁ : Nat → Int32) (w₁ c₁ : Nat) (r₁ : Int32) : Nat → Int32 := vst₁ (vst₁ U₁ (214 + 8 * w₁ + c₁) r₁) (198 + w₁) (nI (c₁ + 1))
def pOps (B₁ : Nat → Nat) (n₁ lm₁ : Nat) (NM₁ : Nat → List Nat) (w₁ : Nat) : Nat → (Nat → Int32) → Nat → Nat → Nat → LRES
  | 0, _, _, _, _ => .inl (0, 0)
  | f₁ + 1, U₁, c₁, d₁, p₁ => if opN₁ B₁ n₁ lm₁ p₁ = 0 then (if isWd B₁ n₁ lm₁ p₁ 32 = true then .inr (vst₁ (vst₁ U₁ (182 + w₁) 1) 5 (nI (w₁ + 1)), NM₁, tkN₁ B₁ n₁ lm₁ p₁) else .inr (vst₁ U₁ 5 (nI (w₁ + 1)), NM₁, p₁)) else pOp₁ B₁ n₁ lm₁ c₁ d₁ p₁ (fun r₁ p'₁ => pOps B₁ n₁ lm₁ NM₁ w₁ f₁ (opsU U₁ w₁ c₁ r₁) (c₁ + 1) (opD₁ r₁ d₁) p'₁)
def pExpr (B₁ : Nat → Nat) (n₁ lm₁ : Nat) (NM₁ : Nat → List Nat) (w₁ : Nat) (U₁ : Nat → Int32) (p₁ : Nat) : LRES :=
  if isWd B₁ n₁ lm₁ p₁ 7 = true then pNum B₁ n₁ lm₁ (tkN₁ B₁ n₁ lm₁ p₁) 0 7 (.inr (vst₁ (vst₁ (vst₁ (vst₁ U₁ (198 + w₁) 0) (182 + w₁) 2) (198 + w₁) (nI (tkV₁ B₁ n₁ (tkN₁ B₁ n₁ lm₁ p₁)))) 5 (nI (w₁ + 1)), NM₁, tkN₁ B₁ n₁ lm₁ (tkN₁ B₁ n₁ lm₁ p₁)))
  else if opN₁ B₁ n₁ lm₁ p₁ = 0 then .inl (1, tkS₁ B₁ n₁ lm₁ p₁) else pOps B₁ n₁ lm₁ NM₁ w₁ 9 (vst₁ (vst₁ U₁ (198 + w₁) 0) (182 + w₁) 0) 0 0 p₁
def takB (U₁ : Nat → Int32) (v₁ f₁ t₁ : Int32) : Nat → Nat → Bool
  | 0, _ => false
  | k₁ + 1, i₁ => if U₁ (134 + i₁) = v₁ ∧ (decide (t₁ ≤ U₁ (150 + i₁)) || !(decide (f₁ < U₁ (166 + i₁)))) = false then true else takB U₁ v₁ f₁ t₁ k₁ (i₁ + 1)
def rngS (U₁ : Nat → Int32) (v₁ f₁ t₁ : Int32) : Bool := (!(decide (f₁ < U₁ (66 + ix (U₁ (114 + ix v₁))))) && decide (t₁ ≤ U₁ (76 + ix (U₁ (114 + ix v₁))))) && !(takB U₁ v₁ f₁ t₁ (ix (U₁ 5)) 0)
def whU₁ (U₁ : Nat → Int32) (w₁ : Nat) (v₁ f₁ t₁ : Int32) : Nat → Int32 := vst₁ (vst₁ (vst₁ U₁ (134 + w₁) v₁) (150 + w₁) f₁) (166 + w₁) t₁
def pWhere (B₁ : Nat → Nat) (n₁ lm₁ : Nat) (U₁ : Nat → Int32) (NM₁ : Nat → List Nat) (p₁ : Nat) : LRES :=
  if ix (U₁ 5) = 16 then .inl (4, tkS₁ B₁ n₁ lm₁ p₁)
  else pTold B₁ n₁ lm₁ NM₁ 16 (ix (U₁ 4)) ((tkN₁ B₁ n₁ lm₁ (p₁))) (pNum B₁ n₁ lm₁ ((tkN₁ B₁ n₁ lm₁ (tkN₁ B₁ n₁ lm₁ (p₁)))) 0 (ix (U₁ 0) - 1) (pNum B₁ n₁ lm₁ ((tkN₁ B₁ n₁ lm₁ (tkN₁ B₁ n₁ lm₁ (tkN₁ B₁ n₁ lm₁ (p₁))))) (tkV₁ B₁ n₁ ((tkN₁ B₁ n₁ lm₁ (tkN₁ B₁ n₁ lm₁ (p₁)))) + 1) (ix (U₁ 0))
    (if rngS U₁ (fndS NM₁ 16 (ix (U₁ 4)) (tkW₁ B₁ n₁ ((tkN₁ B₁ n₁ lm₁ (p₁))))) (nI (tkV₁ B₁ n₁ ((tkN₁ B₁ n₁ lm₁ (tkN₁ B₁ n₁ lm₁ (p₁)))))) (nI (tkV₁ B₁ n₁ ((tkN₁ B₁ n₁ lm₁ (tkN₁ B₁ n₁ lm₁ (tkN₁ B₁ n₁ lm₁ (p₁))))))) = false then .inl (3, tkS₁ B₁ n₁ lm₁ ((tkN₁ B₁ n₁ lm₁ (tkN₁ B₁ n₁ lm₁ (tkN₁ B₁ n₁ lm₁ (p₁))))))
    else pExpr B₁ n₁ lm₁ NM₁ (ix (U₁ 5)) (whU₁ U₁ (ix (U₁ 5)) (fndS NM₁ 16 (ix (U₁ 4)) (tkW₁ B₁ n₁ ((tkN₁ B₁ n₁ lm₁ (p₁))))) (nI (tkV₁ B₁ n₁ ((tkN₁ B₁ n₁ lm₁ (tkN₁ B₁ n₁ lm₁ (p₁)))))) (nI (tkV₁ B₁ n₁ ((tkN₁ B₁ n₁ lm₁ (tkN₁ B₁ n₁ lm₁ (tkN₁ B₁ n₁ lm₁ (p₁)))))))) ((tkN₁ B₁ n₁ lm₁ (tkN₁ B₁ n₁ lm₁ (tkN₁ B₁ n₁ lm₁ (tkN₁ B₁ n₁ lm₁ (p₁)))))))))
/-- a line and the ';' behind it -/
def pEnd (B₁ : Nat → Nat) (n₁ lm₁ : Nat) : LRES → LRES
  | .inl e₁ => .inl e₁
  | .inr (U₁, NM₁, p₁) => if isSn B₁ n₁ lm₁ p₁ 59 = true then .inr (U₁, NM₁, tkN₁ B₁ n₁ lm₁ p₁) else .inl (1, tkS₁ B₁ n₁ lm₁ p₁)
section UN₁
variable {B₁ : Nat → Nat} {n₁ lm₁ p₁ : Nat} {U₁ U'₁ : Nat → Int32}
theorem opN_le : opN₁ B₁ n₁ lm₁ p₁ ≤ 8 := by
  rw [opN₁]
  repeat' split
  all_goals omega
theorem opB_iff {r₁ : Int32} {d₁ : Nat} : opB₁ r₁ d₁ = true ↔ opOK r₁ d₁ := by
  rw [opB₁, opOK]
  split
  · exact ⟨fun _ => trivial, fun _ => rfl⟩
  · split
    · exact decide_eq_true_iff
    · split
      · exact decide_eq_true_iff
      · exact decide_eq_true_iff
theorem isWd_eq {j₁ k₁ : Nat} (hj₁ : j₁ < 34) (hk₁ : k₁ < 34) (h1₁ : isWd B₁ n₁ lm₁ p₁ j₁ = true) (h2₁ : isWd B₁ n₁ lm₁ p₁ k₁ = true) : j₁ = k₁ := by
  rw [isWd, Bool.and_eq_true, decide_eq_true_eq, decide_eq_true_eq] at h1₁ h2₁
  have e₁ := h1₁.2.symm.trans h2₁.2
  have inj₁ : ∀ a₁ b₁ : Fin 34, wdK₁ a₁.1 = wdK₁ b₁.1 → a₁ = b₁ := by decide +kernel
  exact congrArg (fun z₁ : Fin 34 => z₁.1) (inj₁ ⟨j₁, hj₁⟩ ⟨k₁, hk₁⟩ e₁)
theorem opN_num (h₁ : tkK₁ B₁ n₁ lm₁ p₁ = 2) : opN₁ B₁ n₁ lm₁ p₁ = 1 := by rw [opN₁, if_pos h₁]
theorem isWd_k {k₁ : Nat} (h₁ : isWd B₁ n₁ lm₁ p₁ k₁ = true) : tkK₁ B₁ n₁ lm₁ p₁ = 1 := by
  rw [isWd, Bool.and_eq_true, decide_eq_true_eq] at h₁; exact h₁.1
theorem isWd_n {j₁ k₁ : Nat} (hj₁ : j₁ < 34) (hk₁ : k₁ < 34) (h1₁ : isWd B₁ n₁ lm₁ p₁ j₁ = true) (hne₁ : k₁ ≠ j₁) : isWd B₁ n₁ lm₁ p₁ k₁ = false := by
  cases e₁ : isWd B₁ n₁ lm₁ p₁ k₁
  · rfl
  · exact absurd (isWd_eq hk₁ hj₁ e₁ h1₁) hne₁
theorem opN_wd {q₁ : Nat} (hq₁ : q₁ < 7) (h₁ : isWd B₁ n₁ lm₁ p₁ (8 + q₁) = true) : opN₁ B₁ n₁ lm₁ p₁ = 2 + q₁ := by
  have nk₁ : ¬ tkK₁ B₁ n₁ lm₁ p₁ = 2 := by rw [isWd_k h₁]; decide
  have no₁ : ∀ k₁, k₁ < 34 → k₁ ≠ 8 + q₁ → ¬ isWd B₁ n₁ lm₁ p₁ k₁ = true := fun k₁ hk₁ hne₁ => by rw [isWd_n (by omega) hk₁ h₁ hne₁]; decide
  rw [opN₁, if_neg nk₁]
  obtain rfl | rfl | rfl | rfl | rfl | rfl | rfl : q₁ = 0 ∨ q₁ = 1 ∨ q₁ = 2 ∨ q₁ = 3 ∨ q₁ = 4 ∨ q₁ = 5 ∨ q₁ = 6 := by omega
  · rw [if_pos h₁]
  · rw [if_neg (no₁ 8 (by decide) (by decide)), if_pos h₁]
  · rw [if_neg (no₁ 8 (by decide) (by decide)), if_neg (no₁ 9 (by decide) (by decide)), if_pos h₁]
  · rw [if_neg (no₁ 8 (by decide) (by decide)), if_neg (no₁ 9 (by decide) (by decide)), if_neg (no₁ 10 (by decide) (by decide)), if_pos h₁]
  · rw [if_neg (no₁ 8 (by decide) (by decide)), if_neg (no₁ 9 (by decide) (by decide)), if_neg (no₁ 10 (by decide) (by decide)), if_neg (no₁ 11 (by decide) (by decide)), if_pos h₁]
  · rw [if_neg (no₁ 8 (by decide) (by decide)), if_neg (no₁ 9 (by decide) (by decide)), if_neg (no₁ 10 (by decide) (by decide)), if_neg (no₁ 11 (by decide) (by decide)), if_neg (no₁ 12 (by decide) (by decide)), if_pos h₁]
  · rw [if_neg (no₁ 8 (by decide) (by decide)), if_neg (no₁ 9 (by decide) (by decide)), if_neg (no₁ 10 (by decide) (by decide)), if_neg (no₁ 11 (by decide) (by decide)), if_neg (no₁ 12 (by decide) (by decide)), if_neg (no₁ 13 (by decide) (by decide)), if_pos h₁]
theorem opN_or : (opN₁ B₁ n₁ lm₁ p₁ = 0 ∧ tkK₁ B₁ n₁ lm₁ p₁ ≠ 2 ∧ ∀ q₁, q₁ < 7 → isWd B₁ n₁ lm₁ p₁ (8 + q₁) = false) ∨ (opN₁ B₁ n₁ lm₁ p₁ = 1 ∧ tkK₁ B₁ n₁ lm₁ p₁ = 2) ∨ ∃ q₁, q₁ < 7 ∧ opN₁ B₁ n₁ lm₁ p₁ = 2 + q₁ ∧ isWd B₁ n₁ lm₁ p₁ (8 + q₁) = true := by
  by_cases h2₁ : tkK₁ B₁ n₁ lm₁ p₁ = 2
  · exact Or.inr (Or.inl ⟨opN_num h2₁, h2₁⟩)
  · by_cases hq₁ : ∃ q₁, q₁ < 7 ∧ isWd B₁ n₁ lm₁ p₁ (8 + q₁) = true
    · obtain ⟨q₁, hq₁, h₁⟩ := hq₁
      exact Or.inr (Or.inr ⟨q₁, hq₁, opN_wd hq₁ h₁, h₁⟩)
    · have no₁ : ∀ q₁, q₁ < 7 → isWd B₁ n₁ lm₁ p₁ (8 + q₁) = false := fun q₁ hq2₁ => by
        cases e₁ : isWd B₁ n₁ lm₁ p₁ (8 + q₁)
        · rfl
        · exact absurd ⟨q₁, hq2₁, e₁⟩ hq₁
      refine Or.inl ⟨?_, h2₁, no₁⟩
      have a0₁ := no₁ 0 (by decide)
      have a1₁ := no₁ 1 (by decide)
      have a2₁ := no₁ 2 (by decide)
      have a3₁ := no₁ 3 (by decide)
      have a4₁ := no₁ 4 (by decide)
      have a5₁ := no₁ 5 (by decide)
      have a6₁ := no₁ 6 (by decide)
      rw [opN₁, if_neg h2₁, if_neg (by rw [a0₁]; decide), if_neg (by rw [a1₁]; decide), if_neg (by rw [a2₁]; decide), if_neg (by rw [a3₁]; decide), if_neg (by rw [a4₁]; decide), if_neg (by rw [a5₁]; decide), if_neg (by rw [a6₁]; decide)]
/-- a unit with one more 'where' -/
theorem WFU_wh {w₁ v₁ f₁ t₁ : Nat} (h₁ : WFU₁ U₁) (hw₁ : ix (U₁ 5) = w₁) (hc₁ : w₁ < 16) (e5₁ : U'₁ 5 = nI (w₁ + 1)) (eo₁ : ∀ k₁, k₁ ≠ 5 → k₁ ≠ 134 + w₁ → k₁ ≠ 150 + w₁ → k₁ ≠ 166 + w₁ → k₁ ≠ 182 + w₁ → k₁ ≠ 198 + w₁ → (k₁ < 214 + 8 * w₁ ∨ 222 + 8 * w₁ ≤ k₁) → U'₁ k₁ = U₁ k₁)
    (ev₁ : U'₁ (134 + w₁) = nI v₁) (hv₁ : v₁ < ix (U₁ 4)) (ef₁ : U'₁ (150 + w₁) = nI f₁) (et₁ : U'₁ (166 + w₁) = nI t₁) (hft₁ : f₁ < t₁) (ht₁ : t₁ ≤ ix (U₁ 0))
    (ho₁ : (U'₁ (182 + w₁) = 2 ∧ ∃ r₁, r₁ < 8 ∧ U'₁ (198 + w₁) = nI r₁) ∨ ((U'₁ (182 + w₁) = 0 ∨ U'₁ (182 + w₁) = 1) ∧ ∃ c₁, c₁ ≤ 8 ∧ U'₁ (198 + w₁) = nI c₁ ∧ opW₁ (fun j₁ => U'₁ (214 + 8 * w₁ + j₁)) c₁)) : WFU₁ U'₁ := by
  obtain ⟨hU₁, hr₁, hs₁, hT₁, htv₁, hh₁, hww₁, hoo₁⟩ := h₁
  have n1₁ := hU₁.1.2
  have n2₁ := hU₁.2.1.2
  have n3₁ := hU₁.2.2.1.2
  have n4₁ := hU₁.2.2.2.1.2
  have lo₁ : ∀ k₁, k₁ ≠ 5 → k₁ < 134 → U'₁ k₁ = U₁ k₁ := fun k₁ h1₁ h2₁ => eo₁ k₁ h1₁ (by omega) (by omega) (by omega) (by omega) (by omega) (by omega)
  refine ⟨⟨?_, ?_, ?_, ?_, ?_, ?_⟩, ⟨?_, ?_⟩, ?_, ?_, ?_, ?_, ?_, ?_⟩
  · rw [lo₁ 1 (by decide) (by decide)]; exact hU₁.1
  · rw [lo₁ 2 (by decide) (by decide)]; exact hU₁.2.1
  · rw [lo₁ 3 (by decide) (by decide)]; exact hU₁.2.2.1
  · rw [lo₁ 4 (by decide) (by decide)]; exact hU₁.2.2.2.1
  · rw [e5₁, ix_nI (by omega)]; exact ⟨rfl, by omega⟩
  · rw [lo₁ 0 (by decide) (by decide)]; exact hU₁.2.2.2.2.2
  · intro i₁ j₁ hij₁ hj₁
    rw [lo₁ 1 (by decide) (by decide)] at hj₁
    rw [lo₁ (6 + i₁) (by omega) (by omega), lo₁ (6 + j₁) (by omega) (by omega)]; exact hr₁.1 i₁ j₁ hij₁ hj₁
  · intro k₁ hk₁
    rw [lo₁ 1 (by decide) (by decide)] at hk₁
    rw [lo₁ (6 + k₁) (by omega) (by omega), lo₁ (36 + k₁) (by omega) (by omega), lo₁ 0 (by decide) (by decide)]; exact hr₁.2 k₁ hk₁
  · intro k₁ hk₁
    rw [lo₁ 2 (by decide) (by decide)] at hk₁
    rw [lo₁ 0 (by decide) (by decide), lo₁ (66 + k₁) (by omega) (by omega), lo₁ (76 + k₁) (by omega) (by omega), lo₁ (86 + k₁) (by omega) (by omega)]; exact hs₁ k₁ hk₁
  · intro k₁ hk₁
    rw [lo₁ 3 (by decide) (by decide)] at hk₁
    rw [lo₁ (96 + k₁) (by omega) (by omega), lo₁ (102 + k₁) (by omega) (by omega), lo₁ (108 + k₁) (by omega) (by omega)]; exact hT₁ k₁ hk₁
  · intro k₁ hk₁
    rw [lo₁ 4 (by decide) (by decide)] at hk₁
    rw [lo₁ (124 + k₁) (by omega) (by omega), lo₁ 3 (by decide) (by decide)]; exact htv₁ k₁ hk₁
  · intro k₁ hk₁
    rw [lo₁ 4 (by decide) (by decide)] at hk₁
    rw [lo₁ (114 + k₁) (by omega) (by omega), lo₁ 2 (by decide) (by decide)]; exact hh₁ k₁ hk₁
  · intro k₁ hk₁
    rw [e5₁, ix_nI (by omega)] at hk₁
    rw [lo₁ 4 (by decide) (by decide), lo₁ 0 (by decide) (by decide)]
    by_cases e₁ : k₁ = w₁
    · rw [e₁]; exact ⟨v₁, f₁, t₁, ev₁, hv₁, ef₁, et₁, hft₁, ht₁⟩
    · rw [eo₁ (134 + k₁) (by omega) (by omega) (by omega) (by omega) (by omega) (by omega) (by omega), eo₁ (150 + k₁) (by omega) (by omega) (by omega) (by omega) (by omega) (by omega) (by omega), eo₁ (166 + k₁) (by omega) (by omega) (by omega) (by omega) (by omega) (by omega) (by omega)]
      exact hww₁ k₁ (by omega)
  · intro k₁ hk₁
    rw [e5₁, ix_nI (by omega)] at hk₁
    by_cases e₁ : k₁ = w₁
    · rw [e₁]; exact ho₁
    · have hop₁ : (fun j₁ => U₁ (214 + 8 * k₁ + j₁)) = fun j₁ => U₁ (214 + 8 * k₁ + j₁) := rfl
      have := hoo₁ k₁ (by omega)
      rw [eo₁ (182 + k₁) (by omega) (by omega) (by omega) (by omega) (by omega) (by omega) (by omega), eo₁ (198 + k₁) (by omega) (by omega) (by omega) (by omega) (by omega) (by omega) (by omega)]
      rcases this with ⟨a₁, b₁⟩ | ⟨a₁, c₁, hc8₁, b₁, D₁, D0₁, Ds₁, D1₁⟩
      · exact Or.inl ⟨a₁, b₁⟩
      · refine Or.inr ⟨a₁, c₁, hc8₁, b₁, D₁, D0₁, fun j₁ hj₁ => ?_, D1₁⟩
        show opC₁ (U'₁ (214 + 8 * k₁ + j₁)) ∧ opOK (U'₁ (214 + 8 * k₁ + j₁)) (D₁ j₁) ∧ D₁ (j₁ + 1) = opD₁ (U'₁ (214 + 8 * k₁ + j₁)) (D₁ j₁)
        rw [eo₁ (214 + 8 * k₁ + j₁) (by omega) (by omega) (by omega) (by omega) (by omega) (by omega) (by omega)]
        exact Ds₁ j₁ hj₁
end UN₁
