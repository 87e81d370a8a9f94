/-! ===== 'scope', 'type', 'var' lines: what they come to ===== -/
def cutP (f₁ t₁ lo₁ hi₁ : Int32) : Bool := !(decide (t₁ ≤ lo₁) || !(decide (f₁ < hi₁))) && !(!(decide (f₁ < lo₁)) && decide (t₁ ≤ hi₁)) && !(!(decide (lo₁ < f₁)) && !(decide (t₁ < hi₁)))
def cutG (lo₁ hi₁ : Nat → Int32) (f₁ t₁ : Int32) : Nat → Nat → Bool
  | 0, _ => false
  | k₁ + 1, i₁ => if cutP f₁ t₁ (lo₁ i₁) (hi₁ i₁) = true then true else cutG lo₁ hi₁ f₁ t₁ k₁ (i₁ + 1)
def cutS (U₁ : Nat → Int32) (f₁ t₁ : Int32) : Bool := cutG (fun i₁ => U₁ (66 + i₁)) (fun i₁ => U₁ (76 + i₁)) f₁ t₁ (ix (U₁ 2)) 0
def tdN₁ (U₁ : Nat → Int32) (NM₁ : Nat → List Nat) (w₁ : List Nat) : Bool := !(decide (fndS NM₁ 0 (ix (U₁ 2)) w₁ = -1)) || (!(decide (fndS NM₁ 10 (ix (U₁ 3)) w₁ = -1)) || !(decide (fndS NM₁ 16 (ix (U₁ 4)) w₁ = -1)))
def pNew (B₁ : Nat → Nat) (n₁ lm₁ : Nat) (U₁ : Nat → Int32) (NM₁ : Nat → List Nat) (p₁ : Nat) (k₁ : LRES) : LRES := if isNm B₁ n₁ lm₁ p₁ = false then .inl (1, tkS₁ B₁ n₁ lm₁ p₁) else if tdN₁ U₁ NM₁ (tkW₁ B₁ n₁ p₁) = true then .inl (3, tkS₁ B₁ n₁ lm₁ p₁) else k₁
def pNum (B₁ : Nat → Nat) (n₁ lm₁ p₁ lo₁ hi₁ : Nat) (k₁ : LRES) : LRES := if nmS₁ B₁ n₁ lm₁ p₁ lo₁ hi₁ ≠ 0 then .inl (nmS₁ B₁ n₁ lm₁ p₁ lo₁ hi₁, tkS₁ B₁ n₁ lm₁ p₁) else k₁
def pTold (B₁ : Nat → Nat) (n₁ lm₁ : Nat) (NM₁ : Nat → List Nat) (b₁ c₁ p₁ : Nat) (k₁ : LRES) : LRES := if isNm B₁ n₁ lm₁ p₁ = false then .inl (1, tkS₁ B₁ n₁ lm₁ p₁) else if fndS NM₁ b₁ c₁ (tkW₁ B₁ n₁ p₁) = -1 then .inl (3, tkS₁ B₁ n₁ lm₁ p₁) else k₁
def nmU₁ (NM₁ : Nat → List Nat) (k₁ : Nat) (w₁ : List Nat) (j₁ : Nat) : List Nat := if j₁ = k₁ then w₁ else NM₁ j₁
def scpU (U₁ : Nat → Int32) (c₁ : Nat) (f₁ t₁ l₁ : Int32) : Nat → Int32 := vst₁ (vst₁ (vst₁ (vst₁ U₁ (66 + c₁) f₁) (76 + c₁) t₁) (86 + c₁) l₁) 2 (nI (c₁ + 1))
def tyU₁ (U₁ : Nat → Int32) (c₁ : Nat) (f₁ b₁ s₁ : Int32) : Nat → Int32 := vst₁ (vst₁ (vst₁ (vst₁ U₁ (96 + c₁) f₁) (102 + c₁) b₁) (108 + c₁) s₁) 3 (nI (c₁ + 1))
def vaU₁ (U₁ : Nat → Int32) (c₁ : Nat) (s₁ t₁ : Int32) : Nat → Int32 := vst₁ (vst₁ (vst₁ U₁ (114 + c₁) s₁) (124 + c₁) t₁) 4 (nI (c₁ + 1))
def tkM₁ (B₁ : Nat → Nat) (n₁ lm₁ : Nat) : Nat → Nat → Nat
  | 0, p₁ => p₁
  | k₁ + 1, p₁ => tkN₁ B₁ n₁ lm₁ (tkM₁ B₁ n₁ lm₁ k₁ p₁)
def pScope (B₁ : Nat → Nat) (n₁ lm₁ : Nat) (U₁ : Nat → Int32) (NM₁ : Nat → List Nat) (p₁ : Nat) : LRES :=
  if ix (U₁ 2) = 10 then .inl (4, tkS₁ B₁ n₁ lm₁ p₁)
  else pNew B₁ n₁ lm₁ U₁ NM₁ ((tkN₁ B₁ n₁ lm₁ (p₁))) (pNum B₁ n₁ lm₁ ((tkN₁ B₁ n₁ lm₁ (tkN₁ B₁ n₁ lm₁ (p₁)))) 0 (ix (U₁ 0) - 1) (pNum B₁ n₁ lm₁ ((tkN₁ B₁ n₁ lm₁ (tkN₁ B₁ n₁ lm₁ (tkN₁ B₁ n₁ lm₁ (p₁))))) (tkV₁ B₁ n₁ ((tkN₁ B₁ n₁ lm₁ (tkN₁ B₁ n₁ lm₁ (p₁)))) + 1) (ix (U₁ 0))
    (if cutS U₁ (nI (tkV₁ B₁ n₁ ((tkN₁ B₁ n₁ lm₁ (tkN₁ B₁ n₁ lm₁ (p₁)))))) (nI (tkV₁ B₁ n₁ ((tkN₁ B₁ n₁ lm₁ (tkN₁ B₁ n₁ lm₁ (tkN₁ B₁ n₁ lm₁ (p₁))))))) = true then .inl (3, tkS₁ B₁ n₁ lm₁ ((tkN₁ B₁ n₁ lm₁ (tkN₁ B₁ n₁ lm₁ (tkN₁ B₁ n₁ lm₁ (p₁))))))
    else pNum B₁ n₁ lm₁ ((tkN₁ B₁ n₁ lm₁ (tkN₁ B₁ n₁ lm₁ (tkN₁ B₁ n₁ lm₁ (tkN₁ B₁ n₁ lm₁ (p₁)))))) 0 250 (.inr (scpU U₁ (ix (U₁ 2)) (nI (tkV₁ B₁ n₁ ((tkN₁ B₁ n₁ lm₁ (tkN₁ B₁ n₁ lm₁ (p₁)))))) (nI (tkV₁ B₁ n₁ ((tkN₁ B₁ n₁ lm₁ (tkN₁ B₁ n₁ lm₁ (tkN₁ B₁ n₁ lm₁ (p₁))))))) (nI (tkV₁ B₁ n₁ ((tkN₁ B₁ n₁ lm₁ (tkN₁ B₁ n₁ lm₁ (tkN₁ B₁ n₁ lm₁ (tkN₁ B₁ n₁ lm₁ (p₁)))))))), nmU₁ NM₁ (ix (U₁ 2)) (tkW₁ B₁ n₁ ((tkN₁ B₁ n₁ lm₁ (p₁)))), (tkN₁ B₁ n₁ lm₁ (tkN₁ B₁ n₁ lm₁ (tkN₁ B₁ n₁ lm₁ (tkN₁ B₁ n₁ lm₁ (tkN₁ B₁ n₁ lm₁ (p₁)))))))))))
def pType (B₁ : Nat → Nat) (n₁ lm₁ : Nat) (U₁ : Nat → Int32) (NM₁ : Nat → List Nat) (p₁ : Nat) : LRES :=
  if ix (U₁ 3) = 6 then .inl (4, tkS₁ B₁ n₁ lm₁ p₁)
  else pNew B₁ n₁ lm₁ U₁ NM₁ ((tkN₁ B₁ n₁ lm₁ (p₁))) (pNum B₁ n₁ lm₁ ((tkN₁ B₁ n₁ lm₁ (tkN₁ B₁ n₁ lm₁ (p₁)))) 0 15 (pNum B₁ n₁ lm₁ ((tkN₁ B₁ n₁ lm₁ (tkN₁ B₁ n₁ lm₁ (tkN₁ B₁ n₁ lm₁ (p₁))))) 1 (16 - tkV₁ B₁ n₁ ((tkN₁ B₁ n₁ lm₁ (tkN₁ B₁ n₁ lm₁ (p₁)))))
    (if isWd B₁ n₁ lm₁ ((tkN₁ B₁ n₁ lm₁ (tkN₁ B₁ n₁ lm₁ (tkN₁ B₁ n₁ lm₁ (tkN₁ B₁ n₁ lm₁ (p₁)))))) 4 = true ∨ isWd B₁ n₁ lm₁ ((tkN₁ B₁ n₁ lm₁ (tkN₁ B₁ n₁ lm₁ (tkN₁ B₁ n₁ lm₁ (tkN₁ B₁ n₁ lm₁ (p₁)))))) 28 = true then
      .inr (tyU₁ U₁ (ix (U₁ 3)) (nI (tkV₁ B₁ n₁ ((tkN₁ B₁ n₁ lm₁ (tkN₁ B₁ n₁ lm₁ (p₁)))))) (nI (tkV₁ B₁ n₁ ((tkN₁ B₁ n₁ lm₁ (tkN₁ B₁ n₁ lm₁ (tkN₁ B₁ n₁ lm₁ (p₁))))))) (if isWd B₁ n₁ lm₁ ((tkN₁ B₁ n₁ lm₁ (tkN₁ B₁ n₁ lm₁ (tkN₁ B₁ n₁ lm₁ (tkN₁ B₁ n₁ lm₁ (p₁)))))) 28 = true then 1 else 0), nmU₁ NM₁ (10 + ix (U₁ 3)) (tkW₁ B₁ n₁ ((tkN₁ B₁ n₁ lm₁ (p₁)))), (tkN₁ B₁ n₁ lm₁ (tkN₁ B₁ n₁ lm₁ (tkN₁ B₁ n₁ lm₁ (tkN₁ B₁ n₁ lm₁ (tkN₁ B₁ n₁ lm₁ (p₁)))))))
    else .inl (1, tkS₁ B₁ n₁ lm₁ ((tkN₁ B₁ n₁ lm₁ (tkN₁ B₁ n₁ lm₁ (tkN₁ B₁ n₁ lm₁ (tkN₁ B₁ n₁ lm₁ (p₁))))))))))
def pVar (B₁ : Nat → Nat) (n₁ lm₁ : Nat) (U₁ : Nat → Int32) (NM₁ : Nat → List Nat) (p₁ : Nat) : LRES :=
  if ix (U₁ 4) = 10 then .inl (4, tkS₁ B₁ n₁ lm₁ p₁)
  else pNew B₁ n₁ lm₁ U₁ NM₁ ((tkN₁ B₁ n₁ lm₁ (p₁))) (pTold B₁ n₁ lm₁ NM₁ 0 (ix (U₁ 2)) ((tkN₁ B₁ n₁ lm₁ (tkN₁ B₁ n₁ lm₁ (p₁)))) (pTold B₁ n₁ lm₁ NM₁ 10 (ix (U₁ 3)) ((tkN₁ B₁ n₁ lm₁ (tkN₁ B₁ n₁ lm₁ (tkN₁ B₁ n₁ lm₁ (p₁)))))
    (.inr (vaU₁ U₁ (ix (U₁ 4)) (fndS NM₁ 0 (ix (U₁ 2)) (tkW₁ B₁ n₁ ((tkN₁ B₁ n₁ lm₁ (tkN₁ B₁ n₁ lm₁ (p₁)))))) (fndS NM₁ 10 (ix (U₁ 3)) (tkW₁ B₁ n₁ ((tkN₁ B₁ n₁ lm₁ (tkN₁ B₁ n₁ lm₁ (tkN₁ B₁ n₁ lm₁ (p₁))))))), nmU₁ NM₁ (16 + ix (U₁ 4)) (tkW₁ B₁ n₁ ((tkN₁ B₁ n₁ lm₁ (p₁)))), (tkN₁ B₁ n₁ lm₁ (tkN₁ B₁ n₁ lm₁ (tkN₁ B₁ n₁ lm₁ (tkN₁ B₁ n₁ lm₁ (p₁)))))))))
section UN₁
variable {U₁ : Nat → Int32} {NM₁ : Nat → List Nat} {w₁ : List Nat}
theorem cutG_s {lo₁ hi₁ : Nat → Int32} {f₁ t₁ : Int32} {i₁ : Nat} : ∀ k₁, cutP f₁ t₁ (lo₁ (i₁ + k₁)) (hi₁ (i₁ + k₁)) = false → cutG lo₁ hi₁ f₁ t₁ (k₁ + 1) i₁ = cutG lo₁ hi₁ f₁ t₁ k₁ i₁
  | 0, h₁ => by rw [cutG, cutG]; rw [Nat.add_zero] at h₁; rw [h₁]; rfl
  | k₁ + 1, h₁ => by
    rw [cutG, cutG_s (i₁ := i₁ + 1) k₁ (by rw [show i₁ + 1 + k₁ = i₁ + (k₁ + 1) by omega]; exact h₁), cutG]
theorem cutG_cg {lo₁ hi₁ lo'₁ hi'₁ : Nat → Int32} {f₁ t₁ : Int32} : ∀ k₁ i₁, (∀ j₁, j₁ < i₁ + k₁ → lo'₁ j₁ = lo₁ j₁ ∧ hi'₁ j₁ = hi₁ j₁) → cutG lo'₁ hi'₁ f₁ t₁ k₁ i₁ = cutG lo₁ hi₁ f₁ t₁ k₁ i₁
  | 0, _, _ => rfl
  | k₁ + 1, i₁, h₁ => by rw [cutG, cutG, (h₁ i₁ (by omega)).1, (h₁ i₁ (by omega)).2, cutG_cg k₁ (i₁ + 1) (fun j₁ hj₁ => h₁ j₁ (by omega))]
theorem cutP_self {f₁ t₁ : Int32} : cutP f₁ t₁ f₁ t₁ = false := by
  rw [cutP, decide_eq_false (show ¬ f₁ < f₁ from Int32.not_lt.mpr (Int32.le_refl f₁)), decide_eq_true (show t₁ ≤ t₁ from Int32.le_refl t₁)]
  simp
theorem tkM_le {B₁ : Nat → Nat} {n₁ lm₁ p₁ : Nat} (h₁ : p₁ ≤ n₁) : ∀ k₁, tkM₁ B₁ n₁ lm₁ k₁ p₁ ≤ n₁
  | 0 => h₁
  | k₁ + 1 => tkN_le (tkM_le h₁ k₁)
theorem WFU_scp {f₁ t₁ l₁ : Nat} (h₁ : WFU₁ U₁) (hc₁ : ix (U₁ 2) < 10) (h1₁ : f₁ < t₁) (h2₁ : t₁ ≤ ix (U₁ 0)) (h3₁ : l₁ ≤ 250) : WFU₁ (scpU U₁ (ix (U₁ 2)) (nI f₁) (nI t₁) (nI l₁)) := by
  obtain ⟨hU₁, hr₁, hs₁, hT₁, ht₁, hh₁, hw₁, ho₁⟩ := h₁
  have n1₁ := hU₁.1.2
  have eo₁ : ∀ k₁, k₁ ≠ 2 → (k₁ < 66 ∨ 96 ≤ k₁) → scpU U₁ (ix (U₁ 2)) (nI f₁) (nI t₁) (nI l₁) k₁ = U₁ k₁ := fun k₁ h1₁ h2₁ => by
    rw [scpU, vst_n h1₁, vst_n (by omega), vst_n (by omega), vst_n (by omega)]
  have e2₁ : scpU U₁ (ix (U₁ 2)) (nI f₁) (nI t₁) (nI l₁) 2 = nI (ix (U₁ 2) + 1) := by rw [scpU, vst_a]
  refine ⟨⟨?_, ?_, ?_⟩, ⟨?_, ?_⟩, ?_, ?_, ?_, ?_, ?_, ?_⟩
  · rw [eo₁ 1 (by decide) (by decide)]; exact hU₁.1
  · rw [e2₁, ix_nI (by omega)]; exact ⟨rfl, by omega⟩
  · rw [eo₁ 0 (by decide) (by decide), eo₁ 3 (by decide) (by decide), eo₁ 4 (by decide) (by decide), eo₁ 5 (by decide) (by decide)]; exact hU₁.2.2
  · intro i₁ j₁ hij₁ hj₁
    rw [eo₁ 1 (by decide) (by decide)] at hj₁
    rw [eo₁ (6 + i₁) (by omega) (by omega), eo₁ (6 + j₁) (by omega) (by omega)]; exact hr₁.1 i₁ j₁ hij₁ hj₁
  · intro k₁ hk₁
    rw [eo₁ 1 (by decide) (by decide)] at hk₁
    rw [eo₁ (6 + k₁) (by omega) (by omega), eo₁ (36 + k₁) (by omega) (by omega), eo₁ 0 (by decide) (by decide)]; exact hr₁.2 k₁ hk₁
  · intro k₁ hk₁
    rw [e2₁, ix_nI (by omega)] at hk₁
    rw [eo₁ 0 (by decide) (by decide)]
    by_cases e₁ : k₁ = ix (U₁ 2)
    · refine ⟨f₁, t₁, l₁, ?_, ?_, ?_, h1₁, h2₁, h3₁⟩
      · rw [e₁, scpU, vst_n (by omega), vst_n (by omega), vst_n (by omega), vst_a]
      · rw [e₁, scpU, vst_n (by omega), vst_n (by omega), vst_a]
      · rw [e₁, scpU, vst_n (by omega), vst_a]
    · have := hs₁ k₁ (by omega)
      rw [scpU, vst_n (by omega), vst_n (by omega), vst_n (by omega), vst_n (by omega), vst_n (by omega), vst_n (by omega), vst_n (by omega), vst_n (by omega), vst_n (by omega), vst_n (by omega), vst_n (by omega), vst_n (by omega)]; exact this
  · intro k₁ hk₁
    rw [eo₁ 3 (by decide) (by decide)] at hk₁
    rw [eo₁ (96 + k₁) (by omega) (by omega), eo₁ (102 + k₁) (by omega) (by omega), eo₁ (108 + k₁) (by omega) (by omega)]; exact hT₁ k₁ hk₁
  · intro k₁ hk₁
    rw [eo₁ 4 (by decide) (by decide)] at hk₁
    rw [eo₁ (124 + k₁) (by omega) (by omega), eo₁ 3 (by decide) (by decide)]; exact ht₁ k₁ hk₁
  · intro k₁ hk₁
    rw [eo₁ 4 (by decide) (by decide)] at hk₁
    rw [eo₁ (114 + k₁) (by omega) (by omega), e2₁, ix_nI (by omega)]
    obtain ⟨s₁, es₁, h₁⟩ := hh₁ k₁ hk₁
    exact ⟨s₁, es₁, by omega⟩
  · intro k₁ hk₁
    rw [eo₁ 5 (by decide) (by decide)] at hk₁
    rw [eo₁ (134 + k₁) (by omega) (by omega), eo₁ (150 + k₁) (by omega) (by omega), eo₁ (166 + k₁) (by omega) (by omega), eo₁ 4 (by decide) (by decide), eo₁ 0 (by decide) (by decide)]; exact hw₁ k₁ hk₁
  · intro k₁ hk₁
    rw [eo₁ 5 (by decide) (by decide)] at hk₁
    rw [eo₁ (182 + k₁) (by omega) (by omega), eo₁ (198 + k₁) (by omega) (by omega), show (fun j₁ => scpU U₁ (ix (U₁ 2)) (nI f₁) (nI t₁) (nI l₁) (214 + 8 * k₁ + j₁)) = (fun j₁ => U₁ (214 + 8 * k₁ + j₁)) from funext (fun j₁ => eo₁ _ (by omega) (by omega))]; exact ho₁ k₁ hk₁
theorem WFU_ty {f₁ b₁ s₁ : Nat} (h₁ : WFU₁ U₁) (hc₁ : ix (U₁ 3) < 6) (h1₁ : 1 ≤ b₁) (h2₁ : f₁ + b₁ ≤ 16) (h3₁ : s₁ ≤ 1) : WFU₁ (tyU₁ U₁ (ix (U₁ 3)) (nI f₁) (nI b₁) (nI s₁)) := by
  obtain ⟨hU₁, hr₁, hs₁, hT₁, ht₁, hh₁, hw₁, ho₁⟩ := h₁
  have n1₁ := hU₁.1.2
  have n2₁ := hU₁.2.1.2
  have eo₁ : ∀ k₁, k₁ ≠ 3 → (k₁ < 96 ∨ 114 ≤ k₁) → tyU₁ U₁ (ix (U₁ 3)) (nI f₁) (nI b₁) (nI s₁) k₁ = U₁ k₁ := fun k₁ h1₁ h2₁ => by
    rw [tyU₁, vst_n h1₁, vst_n (by omega), vst_n (by omega), vst_n (by omega)]
  have e3₁ : tyU₁ U₁ (ix (U₁ 3)) (nI f₁) (nI b₁) (nI s₁) 3 = nI (ix (U₁ 3) + 1) := by rw [tyU₁, vst_a]
  refine ⟨⟨?_, ?_, ?_, ?_⟩, ⟨?_, ?_⟩, ?_, ?_, ?_, ?_, ?_, ?_⟩
  · rw [eo₁ 1 (by decide) (by decide)]; exact hU₁.1
  · rw [eo₁ 2 (by decide) (by decide)]; exact hU₁.2.1
  · rw [e3₁, ix_nI (by omega)]; exact ⟨rfl, by omega⟩
  · rw [eo₁ 0 (by decide) (by decide), eo₁ 4 (by decide) (by decide), eo₁ 5 (by decide) (by decide)]; exact hU₁.2.2.2
  · intro i₁ j₁ hij₁ hj₁
    rw [eo₁ 1 (by decide) (by decide)] at hj₁
    rw [eo₁ (6 + i₁) (by omega) (by omega), eo₁ (6 + j₁) (by omega) (by omega)]; exact hr₁.1 i₁ j₁ hij₁ hj₁
  · intro k₁ hk₁
    rw [eo₁ 1 (by decide) (by decide)] at hk₁
    rw [eo₁ (6 + k₁) (by omega) (by omega), eo₁ (36 + k₁) (by omega) (by omega), eo₁ 0 (by decide) (by decide)]; exact hr₁.2 k₁ hk₁
  · intro k₁ hk₁
    rw [eo₁ 2 (by decide) (by decide)] at hk₁
    rw [eo₁ 0 (by decide) (by decide), eo₁ (66 + k₁) (by omega) (by omega), eo₁ (76 + k₁) (by omega) (by omega), eo₁ (86 + k₁) (by omega) (by omega)]; exact hs₁ k₁ hk₁
  · intro k₁ hk₁
    rw [e3₁, ix_nI (by omega)] at hk₁
    by_cases e₁ : k₁ = ix (U₁ 3)
    · refine ⟨f₁, b₁, s₁, ?_, ?_, ?_, h1₁, h2₁, h3₁⟩
      · rw [e₁, tyU₁, vst_n (by omega), vst_n (by omega), vst_n (by omega), vst_a]
      · rw [e₁, tyU₁, vst_n (by omega), vst_n (by omega), vst_a]
      · rw [e₁, tyU₁, vst_n (by omega), vst_a]
    · have := hT₁ k₁ (by omega)
      rw [tyU₁, vst_n (by omega), vst_n (by omega), vst_n (by omega), vst_n (by omega), vst_n (by omega), vst_n (by omega), vst_n (by omega), vst_n (by omega), vst_n (by omega), vst_n (by omega), vst_n (by omega), vst_n (by omega)]; exact this
  · intro k₁ hk₁
    rw [eo₁ 4 (by decide) (by decide)] at hk₁
    rw [eo₁ (124 + k₁) (by omega) (by omega), e3₁, ix_nI (by omega)]
    obtain ⟨s₁, es₁, h₁⟩ := ht₁ k₁ hk₁
    exact ⟨s₁, es₁, by omega⟩
  · intro k₁ hk₁
    rw [eo₁ 4 (by decide) (by decide)] at hk₁
    rw [eo₁ (114 + k₁) (by omega) (by omega), eo₁ 2 (by decide) (by decide)]; exact hh₁ k₁ hk₁
  · intro k₁ hk₁
    rw [eo₁ 5 (by decide) (by decide)] at hk₁
    rw [eo₁ (134 + k₁) (by omega) (by omega), eo₁ (150 + k₁) (by omega) (by omega), eo₁ (166 + k₁) (by omega) (by omega), eo₁ 4 (by decide) (by decide), eo₁ 0 (by decide) (by decide)]; exact hw₁ k₁ hk₁
  · intro k₁ hk₁
    rw [eo₁ 5 (by decide) (by decide)] at hk₁
    rw [eo₁ (182 + k₁) (by omega) (by omega), eo₁ (198 + k₁) (by omega) (by omega), show (fun j₁ => tyU₁ U₁ (ix (U₁ 3)) (nI f₁) (nI b₁) (nI s₁) (214 + 8 * k₁ + j₁)) = (fun j₁ => U₁ (214 + 8 * k₁ + j₁)) from funext (fun j₁ => eo₁ _ (by omega) (by omega))]; exact ho₁ k₁ hk₁
theorem WFU_va {s₁ t₁ : Nat} (h₁ : WFU₁ U₁) (hc₁ : ix (U₁ 4) < 10) (h1₁ : s₁ < ix (U₁ 2)) (h2₁ : t₁ < ix (U₁ 3)) : WFU₁ (vaU₁ U₁ (ix (U₁ 4)) (nI s₁) (nI t₁)) := by
  obtain ⟨hU₁, hr₁, hs₁, hT₁, ht₁, hh₁, hw₁, ho₁⟩ := h₁
  have n1₁ := hU₁.1.2
  have n2₁ := hU₁.2.1.2
  have n3₁ := hU₁.2.2.1.2
  have eo₁ : ∀ k₁, k₁ ≠ 4 → (k₁ < 114 ∨ 134 ≤ k₁) → vaU₁ U₁ (ix (U₁ 4)) (nI s₁) (nI t₁) k₁ = U₁ k₁ := fun k₁ h1₁ h2₁ => by
    rw [vaU₁, vst_n h1₁, vst_n (by omega), vst_n (by omega)]
  have e4₁ : vaU₁ U₁ (ix (U₁ 4)) (nI s₁) (nI t₁) 4 = nI (ix (U₁ 4) + 1) := by rw [vaU₁, vst_a]
  refine ⟨⟨?_, ?_, ?_, ?_, ?_⟩, ⟨?_, ?_⟩, ?_, ?_, ?_, ?_, ?_, ?_⟩
  · rw [eo₁ 1 (by decide) (by decide)]; exact hU₁.1
  · rw [eo₁ 2 (by decide) (by decide)]; exact hU₁.2.1
  · rw [eo₁ 3 (by decide) (by decide)]; exact hU₁.2.2.1
  · rw [e4₁, ix_nI (by omega)]; exact ⟨rfl, by omega⟩
  · rw [eo₁ 0 (by decide) (by decide), eo₁ 5 (by decide) (by decide)]; exact hU₁.2.2.2.2
  · intro i₁ j₁ hij₁ hj₁
    rw [eo₁ 1 (by decide) (by decide)] at hj₁
    rw [eo₁ (6 + i₁) (by omega) (by omega), eo₁ (6 + j₁) (by omega) (by omega)]; exact hr₁.1 i₁ j₁ hij₁ hj₁
  · intro k₁ hk₁
    rw [eo₁ 1 (by decide) (by decide)] at hk₁
    rw [eo₁ (6 + k₁) (by omega) (by omega), eo₁ (36 + k₁) (by omega) (by omega), eo₁ 0 (by decide) (by decide)]; exact hr₁.2 k₁ hk₁
  · intro k₁ hk₁
    rw [eo₁ 2 (by decide) (by decide)] at hk₁
    rw [eo₁ 0 (by decide) (by decide), eo₁ (66 + k₁) (by omega) (by omega), eo₁ (76 + k₁) (by omega) (by omega), eo₁ (86 + k₁) (by omega) (by omega)]; exact hs₁ k₁ hk₁
  · intro k₁ hk₁
    rw [eo₁ 3 (by decide) (by decide)] at hk₁
    rw [eo₁ (96 + k₁) (by omega) (by omega), eo₁ (102 + k₁) (by omega) (by omega), eo₁ (108 + k₁) (by omega) (by omega)]; exact hT₁ k₁ hk₁
  · intro k₁ hk₁
    rw [e4₁, ix_nI (by omega)] at hk₁
    rw [eo₁ 3 (by decide) (by decide)]
    by_cases e₁ : k₁ = ix (U₁ 4)
    · exact ⟨t₁, by rw [e₁, vaU₁, vst_n (by omega), vst_a], h2₁⟩
    · rw [vaU₁, vst_n (by omega), vst_n (by omega), vst_n (by omega)]; exact ht₁ k₁ (by omega)
  · intro k₁ hk₁
    rw [e4₁, ix_nI (by omega)] at hk₁
    rw [eo₁ 2 (by decide) (by decide)]
    by_cases e₁ : k₁ = ix (U₁ 4)
    · exact ⟨s₁, by rw [e₁, vaU₁, vst_n (by omega), vst_n (by omega), vst_a], h1₁⟩
    · rw [vaU₁, vst_n (by omega), vst_n (by omega), vst_n (by omega)]; exact hh₁ k₁ (by omega)
  · intro k₁ hk₁
    rw [eo₁ 5 (by decide) (by decide)] at hk₁
    rw [eo₁ (134 + k₁) (by omega) (by omega), eo₁ (150 + k₁) (by omega) (by omega), eo₁ (166 + k₁) (by omega) (by omega), e4₁, ix_nI (by omega), eo₁ 0 (by decide) (by decide)]
    obtain ⟨v₁, f₁, t₁, a1₁, a2₁, a3₁⟩ := hw₁ k₁ hk₁
    exact ⟨v₁, f₁, t₁, a1₁, by omega, a3₁⟩
  · intro k₁ hk₁
    rw [eo₁ 5 (by decide) (by decide)] at hk₁
    rw [eo₁ (182 + k₁) (by omega) (by omega), eo₁ (198 + k₁) (by omega) (by omega), show (fun j₁ => vaU₁ U₁ (ix (U₁ 4)) (nI s₁) (nI t₁) (214 + 8 * k₁ + j₁)) = (fun j₁ => U₁ (214 + 8 * k₁ + j₁)) from funext (fun j₁ => eo₁ _ (by omega) (by omega))]; exact ho₁ k₁ hk₁
end UN₁
