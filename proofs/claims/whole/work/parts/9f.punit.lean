/-! ===== a unit's lines, one after the other ===== -/
def pLine (B₁ : Nat → Nat) (n₁ lm₁ lines : Nat) (U₁ : Nat → Int32) (NM₁ : Nat → List Nat) (p₁ : Nat) : LRES :=
  if isWd B₁ n₁ lm₁ p₁ 0 = true then pSize B₁ n₁ lm₁ lines U₁ NM₁ p₁ else if isWd B₁ n₁ lm₁ p₁ 1 = true then pRow B₁ n₁ lm₁ U₁ NM₁ p₁ else if isWd B₁ n₁ lm₁ p₁ 2 = true then pScope B₁ n₁ lm₁ U₁ NM₁ p₁
  else if isWd B₁ n₁ lm₁ p₁ 3 = true then pType B₁ n₁ lm₁ U₁ NM₁ p₁ else if isWd B₁ n₁ lm₁ p₁ 5 = true then pVar B₁ n₁ lm₁ U₁ NM₁ p₁ else if isWd B₁ n₁ lm₁ p₁ 6 = true then pWhere B₁ n₁ lm₁ U₁ NM₁ p₁ else .inl (1, tkS₁ B₁ n₁ lm₁ p₁)
/-- what the whole text comes to: a fault and its place, or the unit and how many lines -/
def pUnit (B₁ : Nat → Nat) (n₁ lm₁ : Nat) : Nat → Nat → (Nat → Int32) → (Nat → List Nat) → Nat → LRES
  | 0, _, _, _, _ => .inl (0, 0)
  | f₁ + 1, lines, U₁, NM₁, p₁ => if tkK₁ B₁ n₁ lm₁ p₁ = 0 then .inr (U₁, NM₁, lines) else match pEnd B₁ n₁ lm₁ (pLine B₁ n₁ lm₁ lines U₁ NM₁ p₁) with
    | .inl e₁ => .inl e₁
    | .inr (U'₁, NM'₁, p'₁) => pUnit B₁ n₁ lm₁ f₁ (lines + 1) U'₁ NM'₁ p'₁
section UN₁
variable {B₁ : Nat → Nat} {n₁ lm₁ p₁ : Nat} {U₁ : Nat → Int32} {NM₁ : Nat → List Nat}
theorem pWhere_ok {U'₁ : Nat → Int32} {NM'₁ : Nat → List Nat} {p'₁ : Nat} (hW₁ : WFU₁ U₁) (hN₁ : NOK₁ U₁ NM₁) (h₁ : pWhere B₁ n₁ lm₁ U₁ NM₁ p₁ = .inr (U'₁, NM'₁, p'₁)) : WFU₁ U'₁ ∧ NOK₁ U'₁ NM'₁ ∧ tkN₁ B₁ n₁ lm₁ p₁ ≤ p'₁ ∧ NM'₁ = NM₁ ∧ U'₁ 2 = U₁ 2 ∧ U'₁ 3 = U₁ 3 ∧ U'₁ 4 = U₁ 4 := by
  have n0₁ := hW₁.1.2.2.2.2.2.2
  have n4₁ := hW₁.1.2.2.2.1.2
  have n5₁ := hW₁.1.2.2.2.2.1.2
  rw [pWhere] at h₁
  split at h₁
  · cases h₁
  · obtain ⟨w₁, hw₁⟩ : ∃ w₁, ix (U₁ 5) = w₁ := ⟨_, rfl⟩
    have hc₁ : w₁ < 16 := by omega
    obtain ⟨⟨v₁, hv₁, ev₁⟩, h₁⟩ := pTold_r h₁
    obtain ⟨a1₁, h₁⟩ := pNum_r h₁
    obtain ⟨a2₁, h₁⟩ := pNum_r h₁
    obtain ⟨-, -, -⟩ := nmS_0 a1₁
    obtain ⟨-, v1₁, v2₁⟩ := nmS_0 a2₁
    split at h₁
    · cases h₁
    · rw [ev₁, hw₁] at h₁
      have wh_o : ∀ k₁, k₁ ≠ 134 + w₁ → k₁ ≠ 150 + w₁ → k₁ ≠ 166 + w₁ → whU₁ U₁ w₁ (nI v₁) (nI (tkV₁ B₁ n₁ ((tkN₁ B₁ n₁ lm₁ (tkN₁ B₁ n₁ lm₁ (p₁)))))) (nI (tkV₁ B₁ n₁ ((tkN₁ B₁ n₁ lm₁ (tkN₁ B₁ n₁ lm₁ (tkN₁ B₁ n₁ lm₁ (p₁))))))) k₁ = U₁ k₁ := fun k₁ q1₁ q2₁ q3₁ => by rw [whU₁, vst_n q3₁, vst_n q2₁, vst_n q1₁]
      have wh1₁ : whU₁ U₁ w₁ (nI v₁) (nI (tkV₁ B₁ n₁ ((tkN₁ B₁ n₁ lm₁ (tkN₁ B₁ n₁ lm₁ (p₁)))))) (nI (tkV₁ B₁ n₁ ((tkN₁ B₁ n₁ lm₁ (tkN₁ B₁ n₁ lm₁ (tkN₁ B₁ n₁ lm₁ (p₁))))))) (134 + w₁) = nI v₁ := by rw [whU₁, vst_n (by omega), vst_n (by omega), vst_a]
      have wh2₁ : whU₁ U₁ w₁ (nI v₁) (nI (tkV₁ B₁ n₁ ((tkN₁ B₁ n₁ lm₁ (tkN₁ B₁ n₁ lm₁ (p₁)))))) (nI (tkV₁ B₁ n₁ ((tkN₁ B₁ n₁ lm₁ (tkN₁ B₁ n₁ lm₁ (tkN₁ B₁ n₁ lm₁ (p₁))))))) (150 + w₁) = nI (tkV₁ B₁ n₁ ((tkN₁ B₁ n₁ lm₁ (tkN₁ B₁ n₁ lm₁ (p₁))))) := by rw [whU₁, vst_n (by omega), vst_a]
      have wh3₁ : whU₁ U₁ w₁ (nI v₁) (nI (tkV₁ B₁ n₁ ((tkN₁ B₁ n₁ lm₁ (tkN₁ B₁ n₁ lm₁ (p₁)))))) (nI (tkV₁ B₁ n₁ ((tkN₁ B₁ n₁ lm₁ (tkN₁ B₁ n₁ lm₁ (tkN₁ B₁ n₁ lm₁ (p₁))))))) (166 + w₁) = nI (tkV₁ B₁ n₁ ((tkN₁ B₁ n₁ lm₁ (tkN₁ B₁ n₁ lm₁ (tkN₁ B₁ n₁ lm₁ (p₁)))))) := by rw [whU₁, vst_a]
      generalize whU₁ U₁ w₁ (nI v₁) (nI (tkV₁ B₁ n₁ ((tkN₁ B₁ n₁ lm₁ (tkN₁ B₁ n₁ lm₁ (p₁)))))) (nI (tkV₁ B₁ n₁ ((tkN₁ B₁ n₁ lm₁ (tkN₁ B₁ n₁ lm₁ (tkN₁ B₁ n₁ lm₁ (p₁))))))) = U1₁ at h₁ wh_o wh1₁ wh2₁ wh3₁
      have go4₁ : tkN₁ B₁ n₁ lm₁ p₁ ≤ (tkN₁ B₁ n₁ lm₁ (tkN₁ B₁ n₁ lm₁ (tkN₁ B₁ n₁ lm₁ (tkN₁ B₁ n₁ lm₁ (p₁))))) := Nat.le_trans tkN_ge (Nat.le_trans tkN_ge tkN_ge)
      have fin₁ : ∀ U'₁ : Nat → Int32, U'₁ 5 = nI (w₁ + 1) → (∀ k₁, k₁ ≠ 5 → k₁ ≠ 134 + w₁ → k₁ ≠ 150 + w₁ → k₁ ≠ 166 + w₁ → k₁ ≠ 182 + w₁ → k₁ ≠ 198 + w₁ → (k₁ < 214 + 8 * w₁ ∨ 222 + 8 * w₁ ≤ k₁) → U'₁ k₁ = U₁ k₁) → U'₁ (134 + w₁) = nI v₁ → U'₁ (150 + w₁) = nI (tkV₁ B₁ n₁ ((tkN₁ B₁ n₁ lm₁ (tkN₁ B₁ n₁ lm₁ (p₁))))) → U'₁ (166 + w₁) = nI (tkV₁ B₁ n₁ ((tkN₁ B₁ n₁ lm₁ (tkN₁ B₁ n₁ lm₁ (tkN₁ B₁ n₁ lm₁ (p₁)))))) →
          ((U'₁ (182 + w₁) = 2 ∧ ∃ r₁, r₁ < 8 ∧ U'₁ (198 + w₁) = nI r₁) ∨ ((U'₁ (182 + w₁) = 0 ∨ U'₁ (182 + w₁) = 1) ∧ ∃ c₁, c₁ ≤ 8 ∧ U'₁ (198 + w₁) = nI c₁ ∧ opW₁ (fun j₁ => U'₁ (214 + 8 * w₁ + j₁)) c₁)) → WFU₁ U'₁ ∧ NOK₁ U'₁ NM₁ ∧ U'₁ 2 = U₁ 2 ∧ U'₁ 3 = U₁ 3 ∧ U'₁ 4 = U₁ 4 := fun U'₁ e5₁ eo₁ b1₁ b2₁ b3₁ hop₁ =>
        ⟨WFU_wh hW₁ hw₁ hc₁ e5₁ eo₁ b1₁ hv₁ b2₁ b3₁ (by omega) v2₁ hop₁, NOK_cg hN₁ (eo₁ 2 (by decide) (by omega) (by omega) (by omega) (by omega) (by omega) (by omega)) (eo₁ 3 (by decide) (by omega) (by omega) (by omega) (by omega) (by omega) (by omega)) (eo₁ 4 (by decide) (by omega) (by omega) (by omega) (by omega) (by omega) (by omega)), eo₁ 2 (by decide) (by omega) (by omega) (by omega) (by omega) (by omega) (by omega), eo₁ 3 (by decide) (by omega) (by omega) (by omega) (by omega) (by omega) (by omega), eo₁ 4 (by decide) (by omega) (by omega) (by omega) (by omega) (by omega) (by omega)⟩
      rw [pExpr] at h₁
      split at h₁
      · obtain ⟨a3₁, h₁⟩ := pNum_r h₁
        obtain ⟨-, -, v3₁⟩ := nmS_0 a3₁
        injection h₁ with h₁
        injection h₁ with h1₁ h2₁
        injection h2₁ with h2₁ h3₁
        have e182 : vst₁ (vst₁ (vst₁ (vst₁ U1₁ (198 + w₁) 0) (182 + w₁) 2) (198 + w₁) (nI (tkV₁ B₁ n₁ (tkN₁ B₁ n₁ lm₁ ((tkN₁ B₁ n₁ lm₁ (tkN₁ B₁ n₁ lm₁ (tkN₁ B₁ n₁ lm₁ (tkN₁ B₁ n₁ lm₁ (p₁)))))))))) 5 (nI (w₁ + 1)) (182 + w₁) = 2 := by rw [vst_n (by omega), vst_n (by omega), vst_a]
        have e198 : vst₁ (vst₁ (vst₁ (vst₁ U1₁ (198 + w₁) 0) (182 + w₁) 2) (198 + w₁) (nI (tkV₁ B₁ n₁ (tkN₁ B₁ n₁ lm₁ ((tkN₁ B₁ n₁ lm₁ (tkN₁ B₁ n₁ lm₁ (tkN₁ B₁ n₁ lm₁ (tkN₁ B₁ n₁ lm₁ (p₁)))))))))) 5 (nI (w₁ + 1)) (198 + w₁) = nI (tkV₁ B₁ n₁ (tkN₁ B₁ n₁ lm₁ ((tkN₁ B₁ n₁ lm₁ (tkN₁ B₁ n₁ lm₁ (tkN₁ B₁ n₁ lm₁ (tkN₁ B₁ n₁ lm₁ (p₁)))))))) := by rw [vst_n (by omega), vst_a]
        have eo₁ : ∀ j₁, j₁ ≠ 5 → j₁ ≠ 198 + w₁ → j₁ ≠ 182 + w₁ → vst₁ (vst₁ (vst₁ (vst₁ U1₁ (198 + w₁) 0) (182 + w₁) 2) (198 + w₁) (nI (tkV₁ B₁ n₁ (tkN₁ B₁ n₁ lm₁ ((tkN₁ B₁ n₁ lm₁ (tkN₁ B₁ n₁ lm₁ (tkN₁ B₁ n₁ lm₁ (tkN₁ B₁ n₁ lm₁ (p₁)))))))))) 5 (nI (w₁ + 1)) j₁ = U1₁ j₁ := fun j₁ q1₁ q2₁ q3₁ => by rw [vst_n q1₁, vst_n q2₁, vst_n q3₁, vst_n q2₁]
        rw [h1₁] at e182 e198 eo₁
        have e5₁ : U'₁ 5 = nI (w₁ + 1) := by rw [← h1₁, vst_a]
        obtain ⟨f1₁, f2₁⟩ := fin₁ U'₁ e5₁ (fun j₁ q1₁ q2₁ q3₁ q4₁ q5₁ q6₁ q7₁ => by rw [eo₁ j₁ q1₁ q6₁ q5₁, wh_o j₁ q2₁ q3₁ q4₁]) (by rw [eo₁ _ (by omega) (by omega) (by omega), wh1₁]) (by rw [eo₁ _ (by omega) (by omega) (by omega), wh2₁]) (by rw [eo₁ _ (by omega) (by omega) (by omega), wh3₁]) (Or.inl ⟨e182, _, by omega, e198⟩)
        subst h2₁ h3₁
        exact ⟨f1₁, f2₁.1, Nat.le_trans go4₁ (Nat.le_trans tkN_ge tkN_ge), rfl, f2₁.2⟩
      · split at h₁
        · cases h₁
        · rename_i o0₁
          obtain ⟨hnm₁, hp₁, U2₁, c2₁, k₁, hU'₁, hk₁, hop₁, hc2₁, hx₁⟩ := pOps_ok hc₁ 9 _ 0 0 _ U'₁ NM'₁ p'₁ (by decide) (Or.inr o0₁) opP_0 (by rw [vst_n (by omega), vst_a]; rfl) (by rw [vst_a]) h₁
          have x2₁ : ∀ j₁, j₁ ≠ 198 + w₁ → j₁ ≠ 182 + w₁ → (j₁ < 214 + 8 * w₁ ∨ 222 + 8 * w₁ ≤ j₁) → U2₁ j₁ = U1₁ j₁ := fun j₁ q1₁ q2₁ q3₁ => by rw [hx₁.1 j₁ q1₁ q3₁, vst_n q2₁, vst_n q1₁]
          have code2 : (fun j₁ => vst₁ (vst₁ U2₁ (182 + w₁) (nI k₁)) 5 (nI (w₁ + 1)) (214 + 8 * w₁ + j₁)) = fun j₁ => U2₁ (214 + 8 * w₁ + j₁) := funext (fun j₁ => by rw [vst_n (by omega), vst_n (by omega)])
          have e182 : vst₁ (vst₁ U2₁ (182 + w₁) (nI k₁)) 5 (nI (w₁ + 1)) (182 + w₁) = nI k₁ := by rw [vst_n (by omega), vst_a]
          have e198 : vst₁ (vst₁ U2₁ (182 + w₁) (nI k₁)) 5 (nI (w₁ + 1)) (198 + w₁) = nI c2₁ := by rw [vst_n (by omega), vst_n (by omega), hx₁.2]
          have kk₁ : nI k₁ = 0 ∨ nI k₁ = 1 := by
            obtain rfl | rfl : k₁ = 0 ∨ k₁ = 1 := by omega
            · exact Or.inl rfl
            · exact Or.inr rfl
          subst hnm₁
          obtain ⟨f1₁, f2₁⟩ := fin₁ (vst₁ (vst₁ U2₁ (182 + w₁) (nI k₁)) 5 (nI (w₁ + 1))) vst_a (fun j₁ q1₁ q2₁ q3₁ q4₁ q5₁ q6₁ q7₁ => by rw [vst_n q1₁, vst_n q5₁, x2₁ j₁ q6₁ q5₁ q7₁, wh_o j₁ q2₁ q3₁ q4₁]) (by rw [vst_n (by omega), vst_n (by omega), x2₁ _ (by omega) (by omega) (by omega), wh1₁]) (by rw [vst_n (by omega), vst_n (by omega), x2₁ _ (by omega) (by omega) (by omega), wh2₁]) (by rw [vst_n (by omega), vst_n (by omega), x2₁ _ (by omega) (by omega) (by omega), wh3₁]) (Or.inr ⟨by rw [e182]; exact kk₁, c2₁, hc2₁, e198, by rw [code2]; exact hop₁⟩)
          rw [← hU'₁] at f1₁ f2₁
          exact ⟨f1₁, f2₁.1, Nat.le_trans go4₁ hp₁, rfl, f2₁.2⟩
/-- a line read to its end: a unit again, at least two further on -/
theorem pLine_ok {lines : Nat} {U'₁ : Nat → Int32} {NM'₁ : Nat → List Nat} {p'₁ : Nat} (hW₁ : WFU₁ U₁) (hN₁ : NOK₁ U₁ NM₁) (hz₁ : lines = 0 → ∀ k₁, 1 ≤ k₁ → k₁ < 6 → ix (U₁ k₁) = 0) (h₁ : pEnd B₁ n₁ lm₁ (pLine B₁ n₁ lm₁ lines U₁ NM₁ p₁) = .inr (U'₁, NM'₁, p'₁)) : WFU₁ U'₁ ∧ NOK₁ U'₁ NM'₁ ∧ p₁ + 2 ≤ p'₁ ∧ p₁ < n₁ ∧ (lm₁ < n₁ → p₁ < lm₁) := by
  have key₁ : ∀ (r₁ : LRES), r₁ = pLine B₁ n₁ lm₁ lines U₁ NM₁ p₁ → pEnd B₁ n₁ lm₁ r₁ = .inr (U'₁, NM'₁, p'₁) → ∃ q₁, r₁ = .inr (U'₁, NM'₁, q₁) ∧ isSn B₁ n₁ lm₁ q₁ 59 = true ∧ p'₁ = tkN₁ B₁ n₁ lm₁ q₁ := by
    rintro (e₁ | ⟨U2₁, NM2₁, q₁⟩) _ h₁
    · rw [pEnd] at h₁; cases h₁
    · rw [pEnd] at h₁
      split at h₁
      · rename_i z₁
        injection h₁ with h₁
        injection h₁ with h1₁ h2₁
        injection h2₁ with h2₁ h3₁
        subst h1₁ h2₁ h3₁
        exact ⟨q₁, rfl, z₁, rfl⟩
      · cases h₁
  obtain ⟨q₁, hr₁, hs₁, rfl⟩ := key₁ _ rfl h₁
  have ks₁ : tkK₁ B₁ n₁ lm₁ q₁ = 3 := by rw [isSn, Bool.and_eq_true, decide_eq_true_eq] at hs₁; exact hs₁.1
  have g₁ := (tkN_gt (B₁ := B₁) (n₁ := n₁) (lm₁ := lm₁) (p₁ := q₁) (by omega) (by omega)).1
  have fin₁ : ∀ k₁, isWd B₁ n₁ lm₁ p₁ k₁ = true → (WFU₁ U'₁ ∧ NOK₁ U'₁ NM'₁ ∧ tkN₁ B₁ n₁ lm₁ p₁ ≤ q₁) → WFU₁ U'₁ ∧ NOK₁ U'₁ NM'₁ ∧ p₁ + 2 ≤ tkN₁ B₁ n₁ lm₁ q₁ ∧ p₁ < n₁ ∧ (lm₁ < n₁ → p₁ < lm₁) := fun k₁ hk₁ ⟨a₁, b₁, c₁⟩ => by
    have g2₁ := tkN_gt (B₁ := B₁) (n₁ := n₁) (lm₁ := lm₁) (p₁ := p₁) (by rw [isWd_k hk₁]; decide) (by rw [isWd_k hk₁]; decide)
    exact ⟨a₁, b₁, by omega, g2₁.2⟩
  rw [pLine] at hr₁
  split at hr₁
  · rename_i z₁; exact fin₁ 0 z₁ (pSize_ok hW₁ hN₁ hz₁ hr₁)
  · split at hr₁
    · rename_i z₁; exact fin₁ 1 z₁ (pRow_ok hW₁ hN₁ hr₁)
    · split at hr₁
      · rename_i z₁; exact fin₁ 2 z₁ (pScope_ok hW₁ hN₁ hr₁)
      · split at hr₁
        · rename_i z₁; exact fin₁ 3 z₁ (pType_ok hW₁ hN₁ hr₁)
        · split at hr₁
          · rename_i z₁; exact fin₁ 5 z₁ (pVar_ok hW₁ hN₁ hr₁)
          · split at hr₁
            · rename_i z₁
              obtain ⟨a₁, b₁, c₁, -⟩ := pWhere_ok hW₁ hN₁ hr₁
              exact fin₁ 6 z₁ ⟨a₁, b₁, c₁⟩
            · cases hr₁
end UN₁
