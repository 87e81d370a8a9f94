/-! ===== a sentence: what it is ===== -/
abbrev SRES : Type := Sum (Nat × Nat) (List (Nat × Nat × Nat) × Nat × Nat)
/-- which first word it is, as the class numbers them; 0: none -/
def swK₁ (B₁ : Nat → Nat) (n₁ lm₁ p₁ : Nat) : Nat :=
  if isWd B₁ n₁ lm₁ p₁ 25 = true then 27 else if isWd B₁ n₁ lm₁ p₁ 26 = true then 28 else if isWd B₁ n₁ lm₁ p₁ 27 = true then 29 else if isWd B₁ n₁ lm₁ p₁ 28 = true then 7
  else if isWd B₁ n₁ lm₁ p₁ 29 = true then 30 else if isWd B₁ n₁ lm₁ p₁ 30 = true then 31 else if isWd B₁ n₁ lm₁ p₁ 31 = true then 32 else if isWd B₁ n₁ lm₁ p₁ 32 = true then 9 else if isWd B₁ n₁ lm₁ p₁ 33 = true then 33 else 0
def scL₁ : List Nat := [27, 28, 29, 7, 30, 31, 32, 9, 33]
def sgnS (B₁ : Nat → Nat) (n₁ lm₁ p₁ : Nat) : Nat := if isSn B₁ n₁ lm₁ p₁ 60 = true then 60 else if isSn B₁ n₁ lm₁ p₁ 61 = true then 61 else if isSn B₁ n₁ lm₁ p₁ 62 = true then 62 else 0
/-- what stands behind the word c of a one -/
def pLef (B₁ : Nat → Nat) (n₁ lm₁ : Nat) (NM₁ : Nat → List Nat) (sc₁ c₁ p₁ : Nat) : Sum (Nat × Nat) (List (Nat × Nat × Nat) × Nat) :=
  if c₁ = 28 ∨ c₁ = 29 ∨ c₁ = 7 then .inr ([(c₁, 0, 0)], p₁)
  else if c₁ = 30 then (if isNm B₁ n₁ lm₁ p₁ = false then .inl (1, tkS₁ B₁ n₁ lm₁ p₁) else if fndS NM₁ 0 sc₁ (tkW₁ B₁ n₁ p₁) = -1 then .inl (3, tkS₁ B₁ n₁ lm₁ p₁) else .inr ([(30, 0, ix (fndS NM₁ 0 sc₁ (tkW₁ B₁ n₁ p₁)))], tkN₁ B₁ n₁ lm₁ p₁))
  else if sgnS B₁ n₁ lm₁ p₁ = 0 then .inl (1, tkS₁ B₁ n₁ lm₁ p₁)
  else if nmS₁ B₁ n₁ lm₁ (tkN₁ B₁ n₁ lm₁ p₁) 0 999 ≠ 0 then .inl (nmS₁ B₁ n₁ lm₁ (tkN₁ B₁ n₁ lm₁ p₁) 0 999, tkS₁ B₁ n₁ lm₁ (tkN₁ B₁ n₁ lm₁ p₁))
  else .inr ([(c₁, sgnS B₁ n₁ lm₁ p₁, tkV₁ B₁ n₁ (tkN₁ B₁ n₁ lm₁ p₁))], tkN₁ B₁ n₁ lm₁ (tkN₁ B₁ n₁ lm₁ p₁))
def andL (B₁ : Nat → Nat) (n₁ lm₁ : Nat) (one₁ : Nat → Nat → SRES) : Nat → List (Nat × Nat × Nat) → Nat → Nat → SRES
  | 0, l₁, k₁, p₁ => .inr (l₁, k₁, p₁)
  | f₁ + 1, l₁, k₁, p₁ => if isWd B₁ n₁ lm₁ p₁ 24 = true then (match one₁ k₁ (tkN₁ B₁ n₁ lm₁ p₁) with
      | .inl e₁ => .inl e₁
      | .inr (l2₁, k2₁, p2₁) => andL B₁ n₁ lm₁ one₁ f₁ (l₁ ++ l2₁ ++ [(26, 0, 0)]) k2₁ p2₁) else .inr (l₁, k₁, p₁)
def allP (B₁ : Nat → Nat) (n₁ lm₁ : Nat) (one₁ : Nat → Nat → SRES) (k₁ p₁ : Nat) : SRES := match one₁ k₁ p₁ with
  | .inl e₁ => .inl e₁
  | .inr (l₁, k1₁, p1₁) => andL B₁ n₁ lm₁ one₁ 20 l₁ k1₁ p1₁
def orrL (B₁ : Nat → Nat) (n₁ lm₁ : Nat) (one₁ : Nat → Nat → SRES) : Nat → List (Nat × Nat × Nat) → Nat → Nat → SRES
  | 0, l₁, k₁, p₁ => .inr (l₁, k₁, p₁)
  | f₁ + 1, l₁, k₁, p₁ => if isWd B₁ n₁ lm₁ p₁ 23 = true then (match allP B₁ n₁ lm₁ one₁ k₁ (tkN₁ B₁ n₁ lm₁ p₁) with
      | .inl e₁ => .inl e₁
      | .inr (l2₁, k2₁, p2₁) => orrL B₁ n₁ lm₁ one₁ f₁ (l₁ ++ l2₁ ++ [(25, 0, 0)]) k2₁ p2₁) else .inr (l₁, k₁, p₁)
def pCon (B₁ : Nat → Nat) (n₁ lm₁ : Nat) (one₁ : Nat → Nat → SRES) (k₁ p₁ : Nat) : SRES := match allP B₁ n₁ lm₁ one₁ k₁ p₁ with
  | .inl e₁ => .inl e₁
  | .inr (l₁, k1₁, p1₁) => orrL B₁ n₁ lm₁ one₁ 20 l₁ k1₁ p1₁
def pOneD (B₁ : Nat → Nat) (n₁ lm₁ : Nat) (NM₁ : Nat → List Nat) (sc₁ : Nat) : Nat → Nat → Nat → SRES
  | 0, _, p₁ => if isSn B₁ n₁ lm₁ p₁ 40 = false ∧ swK₁ B₁ n₁ lm₁ p₁ = 0 then .inl (1, tkS₁ B₁ n₁ lm₁ p₁) else .inl (4, tkS₁ B₁ n₁ lm₁ p₁)
  | d₁ + 1, k₁, p₁ => if isSn B₁ n₁ lm₁ p₁ 40 = false ∧ swK₁ B₁ n₁ lm₁ p₁ = 0 then .inl (1, tkS₁ B₁ n₁ lm₁ p₁) else if k₁ = 20 then .inl (4, tkS₁ B₁ n₁ lm₁ p₁)
    else if isSn B₁ n₁ lm₁ p₁ 40 = true then (match pCon B₁ n₁ lm₁ (pOneD B₁ n₁ lm₁ NM₁ sc₁ d₁) (k₁ + 1) (tkN₁ B₁ n₁ lm₁ p₁) with
      | .inl e₁ => .inl e₁
      | .inr (l₁, k1₁, q₁) => if isSn B₁ n₁ lm₁ q₁ 41 = true then .inr (l₁, k1₁, tkN₁ B₁ n₁ lm₁ q₁) else .inl (1, tkS₁ B₁ n₁ lm₁ q₁))
    else if swK₁ B₁ n₁ lm₁ p₁ = 27 then (match pOneD B₁ n₁ lm₁ NM₁ sc₁ d₁ (k₁ + 1) (tkN₁ B₁ n₁ lm₁ p₁) with
      | .inl e₁ => .inl e₁
      | .inr (l₁, k1₁, q₁) => .inr (l₁ ++ [(27, 0, 0)], k1₁, q₁))
    else (match pLef B₁ n₁ lm₁ NM₁ sc₁ (swK₁ B₁ n₁ lm₁ p₁) (tkN₁ B₁ n₁ lm₁ p₁) with
      | .inl e₁ => .inl e₁
      | .inr (l₁, q₁) => .inr (l₁, k₁ + 1, q₁))
def pSen (B₁ : Nat → Nat) (n₁ lm₁ : Nat) (NM₁ : Nat → List Nat) (sc₁ : Nat) : Sum (Nat × Nat) (List (Nat × Nat × Nat) × Nat) := match pCon B₁ n₁ lm₁ (pOneD B₁ n₁ lm₁ NM₁ sc₁ 8) 0 0 with
  | .inl e₁ => .inl e₁
  | .inr (l₁, k₁, p₁) => if tkK₁ B₁ n₁ lm₁ p₁ = 0 then .inr (l₁, k₁) else .inl (1, tkS₁ B₁ n₁ lm₁ p₁)
/-- how many ones and entries come of a reader -/
def pOK₁ (one₁ : Nat → Nat → SRES) : Prop := ∀ k₁ p₁ l₁ k'₁ p'₁, k₁ ≤ 20 → one₁ k₁ p₁ = .inr (l₁, k'₁, p'₁) → k₁ < k'₁ ∧ k'₁ ≤ 20 ∧ l₁.length + 1 ≤ 2 * (k'₁ - k₁)
/-- a fault's kind -/
def pBD₁ (one₁ : Nat → Nat → SRES) : Prop := ∀ k₁ p₁ e₁ pl₁, one₁ k₁ p₁ = .inl (e₁, pl₁) → 1 ≤ e₁ ∧ e₁ ≤ 5
section SN₁
variable {B₁ : Nat → Nat} {n₁ lm₁ : Nat} {NM₁ : Nat → List Nat} {sc₁ : Nat} {one₁ : Nat → Nat → SRES}
theorem andL_ok (ho₁ : pOK₁ one₁) : ∀ (f₁ : Nat) (l₁ : List (Nat × Nat × Nat)) (k₁ p₁ k0₁ : Nat) (l'₁ : List (Nat × Nat × Nat)) (k'₁ p'₁ : Nat), k₁ ≤ 20 → k0₁ < k₁ → l₁.length + 1 ≤ 2 * (k₁ - k0₁) → andL B₁ n₁ lm₁ one₁ f₁ l₁ k₁ p₁ = .inr (l'₁, k'₁, p'₁) → k0₁ < k'₁ ∧ k'₁ ≤ 20 ∧ l'₁.length + 1 ≤ 2 * (k'₁ - k0₁)
  | 0, l₁, k₁, p₁, k0₁, l'₁, k'₁, p'₁, hk₁, h0₁, hl₁, h₁ => by
    rw [andL] at h₁
    injection h₁ with h₁; injection h₁ with h1₁ h2₁; injection h2₁ with h2₁ h3₁
    subst h1₁ h2₁
    exact ⟨h0₁, hk₁, hl₁⟩
  | f₁ + 1, l₁, k₁, p₁, k0₁, l'₁, k'₁, p'₁, hk₁, h0₁, hl₁, h₁ => by
    rw [andL] at h₁
    split at h₁
    · split at h₁
      · cases h₁
      · rename_i l2₁ k2₁ p2₁ e₁
        obtain ⟨q1₁, q2₁, q3₁⟩ := ho₁ _ _ _ _ _ hk₁ e₁
        exact andL_ok ho₁ f₁ _ k2₁ p2₁ k0₁ l'₁ k'₁ p'₁ q2₁ (by omega) (by rw [List.length_append, List.length_append, List.length_singleton]; omega) h₁
    · injection h₁ with h₁; injection h₁ with h1₁ h2₁; injection h2₁ with h2₁ h3₁
      subst h1₁ h2₁
      exact ⟨h0₁, hk₁, hl₁⟩
theorem allP_ok (ho₁ : pOK₁ one₁) : pOK₁ (allP B₁ n₁ lm₁ one₁) := fun k₁ p₁ l₁ k'₁ p'₁ hk₁ h₁ => by
  rw [allP] at h₁
  split at h₁
  · cases h₁
  · rename_i l1₁ k1₁ p1₁ e₁
    obtain ⟨q1₁, q2₁, q3₁⟩ := ho₁ _ _ _ _ _ hk₁ e₁
    exact andL_ok ho₁ 20 l1₁ k1₁ p1₁ k₁ l₁ k'₁ p'₁ q2₁ q1₁ q3₁ h₁
theorem orrL_ok (ho₁ : pOK₁ one₁) : ∀ (f₁ : Nat) (l₁ : List (Nat × Nat × Nat)) (k₁ p₁ k0₁ : Nat) (l'₁ : List (Nat × Nat × Nat)) (k'₁ p'₁ : Nat), k₁ ≤ 20 → k0₁ < k₁ → l₁.length + 1 ≤ 2 * (k₁ - k0₁) → orrL B₁ n₁ lm₁ one₁ f₁ l₁ k₁ p₁ = .inr (l'₁, k'₁, p'₁) → k0₁ < k'₁ ∧ k'₁ ≤ 20 ∧ l'₁.length + 1 ≤ 2 * (k'₁ - k0₁)
  | 0, l₁, k₁, p₁, k0₁, l'₁, k'₁, p'₁, hk₁, h0₁, hl₁, h₁ => by
    rw [orrL] at h₁
    injection h₁ with h₁; injection h₁ with h1₁ h2₁; injection h2₁ with h2₁ h3₁
    subst h1₁ h2₁
    exact ⟨h0₁, hk₁, hl₁⟩
  | f₁ + 1, l₁, k₁, p₁, k0₁, l'₁, k'₁, p'₁, hk₁, h0₁, hl₁, h₁ => by
    rw [orrL] at h₁
    split at h₁
    · split at h₁
      · cases h₁
      · rename_i l2₁ k2₁ p2₁ e₁
        obtain ⟨q1₁, q2₁, q3₁⟩ := allP_ok ho₁ _ _ _ _ _ hk₁ e₁
        exact orrL_ok ho₁ f₁ _ k2₁ p2₁ k0₁ l'₁ k'₁ p'₁ q2₁ (by omega) (by rw [List.length_append, List.length_append, List.length_singleton]; omega) h₁
    · injection h₁ with h₁; injection h₁ with h1₁ h2₁; injection h2₁ with h2₁ h3₁
      subst h1₁ h2₁
      exact ⟨h0₁, hk₁, hl₁⟩
theorem pCon_ok (ho₁ : pOK₁ one₁) : pOK₁ (pCon B₁ n₁ lm₁ one₁) := fun k₁ p₁ l₁ k'₁ p'₁ hk₁ h₁ => by
  rw [pCon] at h₁
  split at h₁
  · cases h₁
  · rename_i l1₁ k1₁ p1₁ e₁
    obtain ⟨q1₁, q2₁, q3₁⟩ := allP_ok ho₁ _ _ _ _ _ hk₁ e₁
    exact orrL_ok ho₁ 20 l1₁ k1₁ p1₁ k₁ l₁ k'₁ p'₁ q2₁ q1₁ q3₁ h₁
theorem pLef_1 {c₁ p₁ : Nat} {l₁ : List (Nat × Nat × Nat)} {q₁ : Nat} (h₁ : pLef B₁ n₁ lm₁ NM₁ sc₁ c₁ p₁ = .inr (l₁, q₁)) : l₁.length = 1 := by
  rw [pLef] at h₁
  repeat' split at h₁
  all_goals first | (cases h₁; done) | (injection h₁ with h₁; injection h₁ with h1₁ h2₁; rw [← h1₁]; rfl)
theorem pOneD_ok : ∀ d₁, pOK₁ (pOneD B₁ n₁ lm₁ NM₁ sc₁ d₁)
  | 0 => fun k₁ p₁ l₁ k'₁ p'₁ hk₁ h₁ => by
    rw [pOneD] at h₁
    split at h₁ <;> cases h₁
  | d₁ + 1 => fun k₁ p₁ l₁ k'₁ p'₁ hk₁ h₁ => by
    have ih₁ := pOneD_ok d₁
    rw [pOneD] at h₁
    split at h₁
    · cases h₁
    · split at h₁
      · cases h₁
      · split at h₁
        · split at h₁
          · cases h₁
          · rename_i l1₁ k1₁ q₁ e₁
            split at h₁
            · obtain ⟨q1₁, q2₁, q3₁⟩ := pCon_ok ih₁ _ _ _ _ _ (by omega) e₁
              injection h₁ with h₁; injection h₁ with h1₁ h2₁; injection h2₁ with h2₁ h3₁
              subst h1₁ h2₁
              exact ⟨by omega, q2₁, by omega⟩
            · cases h₁
        · split at h₁
          · split at h₁
            · cases h₁
            · rename_i l1₁ k1₁ q₁ e₁
              obtain ⟨q1₁, q2₁, q3₁⟩ := ih₁ _ _ _ _ _ (by omega) e₁
              injection h₁ with h₁; injection h₁ with h1₁ h2₁; injection h2₁ with h2₁ h3₁
              subst h1₁ h2₁
              exact ⟨by omega, q2₁, by rw [List.length_append, List.length_singleton]; omega⟩
          · split at h₁
            · cases h₁
            · rename_i l1₁ q₁ e₁
              have := pLef_1 e₁
              injection h₁ with h₁; injection h₁ with h1₁ h2₁; injection h2₁ with h2₁ h3₁
              subst h1₁ h2₁
              exact ⟨by omega, by omega, by omega⟩
theorem andL_bd (hb₁ : pBD₁ one₁) : ∀ (f₁ : Nat) (l₁ : List (Nat × Nat × Nat)) (k₁ p₁ e₁ pl₁ : Nat), andL B₁ n₁ lm₁ one₁ f₁ l₁ k₁ p₁ = .inl (e₁, pl₁) → 1 ≤ e₁ ∧ e₁ ≤ 5
  | 0, l₁, k₁, p₁, e₁, pl₁, h₁ => by rw [andL] at h₁; cases h₁
  | f₁ + 1, l₁, k₁, p₁, e₁, pl₁, h₁ => by
    rw [andL] at h₁
    split at h₁
    · split at h₁
      · rename_i z₁ q₁; rw [h₁] at q₁; exact hb₁ _ _ _ _ q₁
      · exact andL_bd hb₁ f₁ _ _ _ e₁ pl₁ h₁
    · cases h₁
theorem allP_bd (hb₁ : pBD₁ one₁) : pBD₁ (allP B₁ n₁ lm₁ one₁) := fun k₁ p₁ e₁ pl₁ h₁ => by
  rw [allP] at h₁
  split at h₁
  · rename_i z₁ q₁; rw [h₁] at q₁; exact hb₁ _ _ _ _ q₁
  · exact andL_bd hb₁ 20 _ _ _ e₁ pl₁ h₁
theorem orrL_bd (hb₁ : pBD₁ one₁) : ∀ (f₁ : Nat) (l₁ : List (Nat × Nat × Nat)) (k₁ p₁ e₁ pl₁ : Nat), orrL B₁ n₁ lm₁ one₁ f₁ l₁ k₁ p₁ = .inl (e₁, pl₁) → 1 ≤ e₁ ∧ e₁ ≤ 5
  | 0, l₁, k₁, p₁, e₁, pl₁, h₁ => by rw [orrL] at h₁; cases h₁
  | f₁ + 1, l₁, k₁, p₁, e₁, pl₁, h₁ => by
    rw [orrL] at h₁
    split at h₁
    · split at h₁
      · rename_i z₁ q₁; rw [h₁] at q₁; exact allP_bd hb₁ _ _ _ _ q₁
      · exact orrL_bd hb₁ f₁ _ _ _ e₁ pl₁ h₁
    · cases h₁
theorem pCon_bd (hb₁ : pBD₁ one₁) : pBD₁ (pCon B₁ n₁ lm₁ one₁) := fun k₁ p₁ e₁ pl₁ h₁ => by
  rw [pCon] at h₁
  split at h₁
  · rename_i z₁ q₁; rw [h₁] at q₁; exact allP_bd hb₁ _ _ _ _ q₁
  · exact orrL_bd hb₁ 20 _ _ _ e₁ pl₁ h₁
theorem inl_b {e₁ pl₁ a₁ b₁ : Nat} {α : Type} (h₁ : (Sum.inl (a₁, b₁) : Sum (Nat × Nat) α) = .inl (e₁, pl₁)) : a₁ = e₁ := by
  injection h₁ with h₁; injection h₁ with h1₁ h2₁
theorem pLef_bd {c₁ p₁ e₁ pl₁ : Nat} (h₁ : pLef B₁ n₁ lm₁ NM₁ sc₁ c₁ p₁ = .inl (e₁, pl₁)) : 1 ≤ e₁ ∧ e₁ ≤ 5 := by
  rw [pLef] at h₁
  have nb₁ := nmS_b (B₁ := B₁) (n₁ := n₁) (lm₁ := lm₁) (p₁ := tkN₁ B₁ n₁ lm₁ p₁) (lo₁ := 0) (hi₁ := 999)
  split at h₁
  · cases h₁
  · split at h₁
    · split at h₁
      · have := inl_b h₁; omega
      · split at h₁
        · have := inl_b h₁; omega
        · cases h₁
    · split at h₁
      · have := inl_b h₁; omega
      · split at h₁
        · have := inl_b h₁; omega
        · cases h₁
theorem pOneD_bd : ∀ d₁, pBD₁ (pOneD B₁ n₁ lm₁ NM₁ sc₁ d₁)
  | 0 => fun k₁ p₁ e₁ pl₁ h₁ => by
    rw [pOneD] at h₁
    split at h₁ <;> (have := inl_b h₁; omega)
  | d₁ + 1 => fun k₁ p₁ e₁ pl₁ h₁ => by
    have ih₁ := pOneD_bd d₁
    rw [pOneD] at h₁
    split at h₁
    · have := inl_b h₁; omega
    · split at h₁
      · have := inl_b h₁; omega
      · split at h₁
        · split at h₁
          · rename_i z₁ q₁; rw [h₁] at q₁; exact pCon_bd ih₁ _ _ _ _ q₁
          · split at h₁
            · cases h₁
            · have := inl_b h₁; omega
        · split at h₁
          · split at h₁
            · rename_i z₁ q₁; rw [h₁] at q₁; exact ih₁ _ _ _ _ q₁
            · cases h₁
          · split at h₁
            · rename_i z₁ q₁; injection h₁ with h₁; rw [h₁] at q₁; exact pLef_bd q₁
            · cases h₁
theorem pSen_bd {e₁ pl₁ : Nat} (h₁ : pSen B₁ n₁ lm₁ NM₁ sc₁ = .inl (e₁, pl₁)) : 1 ≤ e₁ ∧ e₁ ≤ 5 := by
  rw [pSen] at h₁
  split at h₁
  · rename_i z₁ q₁; injection h₁ with h₁; rw [h₁] at q₁; exact pCon_bd (pOneD_bd 8) _ _ _ _ q₁
  · split at h₁
    · cases h₁
    · have := inl_b h₁; omega
end SN₁
