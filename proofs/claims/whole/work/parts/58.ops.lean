/-! ===== the ops of a where: what they do with a stack ===== -/
def opD₁ (r₁ : Int32) (d₁ : Nat) : Nat := if r₁ < 1010 then d₁ + 1 else if r₁ = 1014 then d₁ + 1 else if r₁ = 1013 then d₁ else if r₁ = 1015 then d₁ else d₁ - 1
def opOK (r₁ : Int32) (d₁ : Nat) : Prop := if r₁ < 1010 then True else if r₁ = 1013 then 1 ≤ d₁ else if r₁ = 1014 then 1 ≤ d₁ else 2 ≤ d₁
/-- a 'load' of a place that is none -/
def opF₁ (r₁ : Int32) (T₁ : Nat → Int32) (d₁ : Nat) : Bool := decide (r₁ = 1013) && !(inN (T₁ (d₁ - 1)) 64)
def opT₁ (V₁ : Nat → Int32) (r₁ : Int32) (T₁ : Nat → Int32) (d₁ : Nat) : Nat → Int32 :=
  if r₁ < 1000 then vst₁ T₁ d₁ r₁ else if r₁ < 1010 then vst₁ T₁ d₁ (V₁ (11 + ix (r₁ - 1000))) else if r₁ = 1014 then vst₁ T₁ d₁ (T₁ (d₁ - 1)) else if r₁ = 1013 then vst₁ T₁ (d₁ - 1) (V₁ (19 + ix (T₁ (d₁ - 1)))) else if r₁ = 1015 then vst₁ (vst₁ T₁ (d₁ - 2) (T₁ (d₁ - 1))) (d₁ - 1) (T₁ (d₁ - 2)) else vst₁ T₁ (d₁ - 2) (if r₁ = 1010 then T₁ (d₁ - 2) + T₁ (d₁ - 1) else if r₁ = 1011 then T₁ (d₁ - 2) - T₁ (d₁ - 1) else T₁ (d₁ - 2) * T₁ (d₁ - 1))
/-- an op that is one -/
def opC₁ (r₁ : Int32) : Prop := (∃ k₁, k₁ < 1000 ∧ r₁ = nI k₁) ∨ (∃ k₁, k₁ < 8 ∧ r₁ = nI (1000 + k₁)) ∨ r₁ = 1010 ∨ r₁ = 1011 ∨ r₁ = 1012 ∨ r₁ = 1013 ∨ r₁ = 1014 ∨ r₁ = 1015
def opsB (V₁ code : Nat → Int32) : Nat → Nat → (Nat → Int32) → Nat → Option Int32
  | 0, _, T₁, d₁ => some (T₁ (d₁ - 1))
  | f₁ + 1, i₁, T₁, d₁ => if opF₁ (code i₁) T₁ d₁ = true then none else opsB V₁ code f₁ (i₁ + 1) (opT₁ V₁ (code i₁) T₁ d₁) (opD₁ (code i₁) d₁)
/-- a code of n ops that leaves something on the stack and never wants what isn't there -/
def opW₁ (code : Nat → Int32) (n₁ : Nat) : Prop := ∃ D₁ : Nat → Nat, D₁ 0 = 0 ∧ (∀ j₁, j₁ < n₁ → opC₁ (code j₁) ∧ opOK (code j₁) (D₁ j₁) ∧ D₁ (j₁ + 1) = opD₁ (code j₁) (D₁ j₁)) ∧ 1 ≤ D₁ n₁
section UN₁
variable {V₁ T₁ T'₁ : Nat → Int32} {d₁ : Nat}
theorem opn_lt {k₁ : Nat} (h₁ : k₁ < 1010) : nI k₁ < 1010 := show nI k₁ < nI 1010 from (ltN (by omega) (by omega)).mpr h₁
theorem opT_n {k₁ : Nat} (h₁ : k₁ < 1000) : opT₁ V₁ (nI k₁) T₁ d₁ = vst₁ T₁ d₁ (nI k₁) := by rw [opT₁, if_pos (show nI k₁ < 1000 from show nI k₁ < nI 1000 from (ltN (by omega) (by omega)).mpr h₁)]
theorem opD_n {k₁ : Nat} (h₁ : k₁ < 1000) : opD₁ (nI k₁) d₁ = d₁ + 1 := by rw [opD₁, if_pos (opn_lt (by omega))]
theorem opF_n {k₁ : Nat} (h₁ : k₁ < 1000) : opF₁ (nI k₁) T₁ d₁ = false := by
  rw [opF₁, decide_eq_false (show ¬ nI k₁ = 1013 from fun z₁ => by have z₁ : nI k₁ = nI 1013 := z₁; rw [eqN (by omega) (by omega)] at z₁; omega)]; rfl
theorem opT_r {k₁ : Nat} (h₁ : k₁ < 8) : opT₁ V₁ (nI (1000 + k₁)) T₁ d₁ = vst₁ T₁ d₁ (V₁ (11 + k₁)) := by
  rw [opT₁, if_neg (show ¬ nI (1000 + k₁) < 1000 from fun z₁ => by have z₁ : nI (1000 + k₁) < nI 1000 := z₁; rw [ltN (by omega) (by omega)] at z₁; omega), if_pos (opn_lt (by omega)), show nI (1000 + k₁) - 1000 = nI (1000 + k₁) - nI 1000 from rfl, subN (by omega), show 1000 + k₁ - 1000 = k₁ by omega, ix_nI (by omega)]
theorem opD_r {k₁ : Nat} (h₁ : k₁ < 8) : opD₁ (nI (1000 + k₁)) d₁ = d₁ + 1 := by rw [opD₁, if_pos (opn_lt (by omega))]
theorem opF_r {k₁ : Nat} (h₁ : k₁ < 8) : opF₁ (nI (1000 + k₁)) T₁ d₁ = false := by
  rw [opF₁, decide_eq_false (show ¬ nI (1000 + k₁) = 1013 from fun z₁ => by have z₁ : nI (1000 + k₁) = nI 1013 := z₁; rw [eqN (by omega) (by omega)] at z₁; omega)]; rfl
theorem opT_10 : opT₁ V₁ 1010 T₁ d₁ = vst₁ T₁ (d₁ - 2) (T₁ (d₁ - 2) + T₁ (d₁ - 1)) := by rw [opT₁, if_neg (by decide), if_neg (by decide), if_neg (by decide), if_neg (by decide), if_neg (by decide), if_pos rfl]
theorem opT_11 : opT₁ V₁ 1011 T₁ d₁ = vst₁ T₁ (d₁ - 2) (T₁ (d₁ - 2) - T₁ (d₁ - 1)) := by rw [opT₁, if_neg (by decide), if_neg (by decide), if_neg (by decide), if_neg (by decide), if_neg (by decide), if_neg (by decide), if_pos rfl]
theorem opT_12 : opT₁ V₁ 1012 T₁ d₁ = vst₁ T₁ (d₁ - 2) (T₁ (d₁ - 2) * T₁ (d₁ - 1)) := by rw [opT₁, if_neg (by decide), if_neg (by decide), if_neg (by decide), if_neg (by decide), if_neg (by decide), if_neg (by decide), if_neg (by decide)]
theorem opT_13 : opT₁ V₁ 1013 T₁ d₁ = vst₁ T₁ (d₁ - 1) (V₁ (19 + ix (T₁ (d₁ - 1)))) := by rw [opT₁, if_neg (by decide), if_neg (by decide), if_neg (by decide), if_pos rfl]
theorem opT_14 : opT₁ V₁ 1014 T₁ d₁ = vst₁ T₁ d₁ (T₁ (d₁ - 1)) := by rw [opT₁, if_neg (by decide), if_neg (by decide), if_pos rfl]
theorem opT_15 : opT₁ V₁ 1015 T₁ d₁ = vst₁ (vst₁ T₁ (d₁ - 2) (T₁ (d₁ - 1))) (d₁ - 1) (T₁ (d₁ - 2)) := by rw [opT₁, if_neg (by decide), if_neg (by decide), if_neg (by decide), if_neg (by decide), if_pos rfl]
theorem opF_o {r₁ : Int32} (h₁ : r₁ ≠ 1013) : opF₁ r₁ T₁ d₁ = false := by rw [opF₁, decide_eq_false h₁]; rfl
theorem opF_13 : opF₁ 1013 T₁ d₁ = !(inN (T₁ (d₁ - 1)) 64) := by rw [opF₁]; rfl
/-- the depth stays below the count -/
theorem opW_le {code : Nat → Int32} {n₁ : Nat} {D₁ : Nat → Nat} (h0₁ : D₁ 0 = 0) (h₁ : ∀ j₁, j₁ < n₁ → D₁ (j₁ + 1) = opD₁ (code j₁) (D₁ j₁)) : ∀ j₁, j₁ ≤ n₁ → D₁ j₁ ≤ j₁
  | 0, _ => by rw [h0₁]; omega
  | j₁ + 1, hj₁ => by
    have ih₁ := opW_le h0₁ h₁ j₁ (by omega)
    rw [h₁ j₁ (by omega), opD₁]
    repeat' split
    all_goals omega
end UN₁
