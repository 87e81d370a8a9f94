/-! ===== what is so of every machine; it stays so ===== -/
def WFv₁ (U₁ V₁ : Nat → Int32) : Prop := (∃ n₁, n₁ ≤ 8 ∧ V₁ 2 = nI n₁) ∧ WFm₁ V₁ ∧ adr U₁ (V₁ 0) = true
section UN₁
variable {U₁ U'₁ V₁ V'₁ : Nat → Int32}
theorem adr_nI (hU₁ : WFc U₁) {a₁ : Nat} (h₁ : a₁ < ix (U₁ 0)) : adr U₁ (nI a₁) = true := by
  rw [adr, isInB_pred hU₁.2.2.2.2.2.1 (by have := hU₁.2.2.2.2.2.2; omega)]
  exact inN_nI h₁ (by have := hU₁.2.2.2.2.2.2; omega)
theorem adr_in (hU₁ : WFc U₁) {a₁ : Int32} (h₁ : adr U₁ a₁ = true) : ∃ k₁, k₁ < ix (U₁ 0) ∧ a₁ = nI k₁ := by
  rw [adr, isInB_pred hU₁.2.2.2.2.2.1 (by have := hU₁.2.2.2.2.2.2; omega)] at h₁
  exact inN_t h₁ (by have := hU₁.2.2.2.2.2.2; omega)
theorem row_adr (hU₁ : WFc U₁) (hr₁ : WFr U₁) {j₁ : Nat} (h₁ : j₁ < ix (U₁ 1)) : adr U₁ (U₁ (6 + j₁)) = true := by
  obtain ⟨a₁, e₁, q₁⟩ := (hr₁.2 j₁ h₁).1
  rw [e₁]; exact adr_nI hU₁ q₁
theorem stepB_adr (hU₁ : WFc U₁) (hr₁ : WFr U₁) (l₁ s₁ : Int32) : ∀ f₁ i₁, i₁ + f₁ ≤ ix (U₁ 1) → stepB U₁ l₁ s₁ f₁ i₁ = -1 ∨ adr U₁ (stepB U₁ l₁ s₁ f₁ i₁) = true
  | 0, _, _ => Or.inl rfl
  | f₁ + 1, i₁, h₁ => by
    rw [stepB]
    split
    · exact Or.inr (row_adr hU₁ hr₁ (by omega))
    · split
      · exact stepB_adr hU₁ hr₁ l₁ s₁ f₁ (i₁ + 1) (by omega)
      · split
        · exact stepB_adr hU₁ hr₁ l₁ s₁ f₁ (i₁ + 1) (by omega)
        · exact Or.inr (row_adr hU₁ hr₁ (by omega))
theorem stepS_adr (hU₁ : WFc U₁) (hr₁ : WFr U₁) {a₁ : Int32} (h₁ : stepS U₁ a₁ ≠ -1) : adr U₁ (stepS U₁ a₁) = true := by
  have e₁ := (rowNx_eq hU₁ a₁).2
  exact (stepB_adr hU₁ hr₁ (lineOf U₁ a₁) (nicS U₁ a₁ (-1)) (ix (U₁ 1) - rowNx U₁ a₁) (rowNx U₁ a₁) (by omega)).resolve_left h₁
theorem runB_adr (hU₁ : WFc U₁) (hr₁ : WFr U₁) : ∀ f₁ i₁, i₁ + f₁ ≤ ix (U₁ 1) → runB U₁ V₁ f₁ i₁ = -1 ∨ adr U₁ (runB U₁ V₁ f₁ i₁) = true
  | 0, _, _ => Or.inl rfl
  | f₁ + 1, i₁, h₁ => by
    rw [runB]
    split
    · exact runB_adr hU₁ hr₁ f₁ (i₁ + 1) (by omega)
    · exact Or.inr (row_adr hU₁ hr₁ (by omega))
theorem runS_adr (hU₁ : WFc U₁) (hr₁ : WFr U₁) (h₁ : runS U₁ V₁ ≠ -1) : adr U₁ (runS U₁ V₁) = true := by
  have e₁ := (rowNx_eq hU₁ (V₁ 0)).2
  exact (runB_adr hU₁ hr₁ (ix (U₁ 1) - rowNx U₁ (V₁ 0)) (rowNx U₁ (V₁ 0)) (by omega)).resolve_left h₁
theorem WFv_at (h₁ : WFv₁ U₁ V₁) {t₁ : Int32} (ha₁ : adr U₁ t₁ = true) : WFv₁ U₁ (vst₁ (vst₁ V₁ 0 t₁) 1 (V₁ 1 + 1)) := by
  obtain ⟨⟨n₁, hn₁, e₁⟩, ⟨h1₁, h2₁⟩, h3₁⟩ := h₁
  refine ⟨⟨n₁, hn₁, by rw [vst_n (by decide), vst_n (by decide)]; exact e₁⟩, ⟨fun j₁ hj₁ => ?_, fun j₁ hj₁ => ?_⟩, by rw [vst_n (by decide), vst_a]; exact ha₁⟩
  · rw [vst_n (by omega), vst_n (by omega)]; exact h1₁ j₁ hj₁
  · rw [vst_n (by omega), vst_n (by omega)]; exact h2₁ j₁ hj₁
theorem WFv_dl {d₁ : Nat} {a₁ b₁ : Int32} (hU₁ : WFc U₁) (hr₁ : WFr U₁) (h₁ : WFv₁ U₁ V₁) (hd₁ : d₁ < 8) (ha₁ : dar₁ U₁ a₁ d₁) (hb₁ : d₁ < 2 → ∃ w₁, w₁ < 65536 ∧ b₁ = nI w₁) (hw₁ : dwS₁ U₁ V₁ a₁ b₁ d₁ = 0) : WFv₁ U₁ (dlS₁ U₁ V₁ a₁ b₁ d₁) := by
  have hh₁ := h₁
  obtain ⟨⟨n₁, hn₁, e₁⟩, ⟨h1₁, h2₁⟩, h3₁⟩ := h₁
  obtain rfl | rfl | rfl | rfl | rfl | rfl | rfl | rfl : d₁ = 0 ∨ d₁ = 1 ∨ d₁ = 2 ∨ d₁ = 3 ∨ d₁ = 4 ∨ d₁ = 5 ∨ d₁ = 6 ∨ d₁ = 7 := by omega
  · obtain ⟨k₁, hk₁, rfl⟩ := inN_t ha₁ (by decide)
    rw [dlS₁, chgS, ix_nI (by omega)]
    refine ⟨⟨n₁, hn₁, by rw [vst_n (by decide), vst_n (by omega)]; exact e₁⟩, ⟨fun j₁ hj₁ => ?_, fun j₁ hj₁ => ?_⟩, by rw [vst_n (by decide), vst_n (by omega)]; exact h3₁⟩
    · rw [vst_n (by omega)]
      by_cases q₁ : j₁ = k₁
      · rw [q₁, vst_a]; exact hb₁ (by decide)
      · rw [vst_n (by omega)]; exact h1₁ j₁ hj₁
    · rw [vst_n (by omega), vst_n (by omega)]; exact h2₁ j₁ hj₁
  · obtain ⟨k₁, hk₁, rfl⟩ := inN_t ha₁ (by decide)
    rw [dlS₁, chgS, ix_nI (by omega)]
    refine ⟨⟨n₁, hn₁, by rw [vst_n (by decide), vst_n (by omega)]; exact e₁⟩, ⟨fun j₁ hj₁ => ?_, fun j₁ hj₁ => ?_⟩, by rw [vst_n (by decide), vst_n (by omega)]; exact h3₁⟩
    · rw [vst_n (by omega), vst_n (by omega)]; exact h1₁ j₁ hj₁
    · rw [vst_n (by omega)]
      by_cases q₁ : j₁ = k₁
      · rw [q₁, vst_a]; exact hb₁ (by decide)
      · rw [vst_n (by omega)]; exact h2₁ j₁ hj₁
  · exact WFv_at hh₁ ha₁
  · rw [dwS₁, e₁] at hw₁
    have hn8₁ : n₁ < 8 := by
      rcases Nat.lt_or_ge n₁ 8 with q₁ | q₁
      · exact q₁
      · rw [show n₁ = 8 by omega] at hw₁
        split at hw₁
        · rw [if_pos (show nI 8 = 8 from rfl)] at hw₁; exact absurd hw₁ (by decide)
        · exact absurd hw₁ (by decide)
    rw [dlS₁, chgS, e₁, ix_nI (by omega), nI_1]
    refine ⟨⟨n₁ + 1, by omega, by rw [vst_n (by decide), vst_a]⟩, ⟨fun j₁ hj₁ => ?_, fun j₁ hj₁ => ?_⟩, by rw [vst_n (by decide), vst_n (by decide), vst_n (by omega)]; exact h3₁⟩
    · rw [vst_n (by omega), vst_n (by omega), vst_n (by omega)]; exact h1₁ j₁ hj₁
    · rw [vst_n (by omega), vst_n (by omega), vst_n (by omega)]; exact h2₁ j₁ hj₁
  · rw [dwS₁] at hw₁
    have ne₁ : stpS V₁ a₁ ≠ -1 := fun z₁ => by rw [if_pos z₁] at hw₁; exact absurd hw₁ (by decide)
    obtain ⟨j₁, -, hj₁, ej₁, -⟩ := (stpB_or V₁ a₁ (ix (V₁ 2)) 0).resolve_left ne₁
    have ej₁ : stpS V₁ a₁ = nI j₁ := ej₁
    rw [e₁, ix_nI (by omega)] at hj₁
    obtain ⟨p₁, rfl⟩ : ∃ p₁, n₁ = p₁ + 1 := ⟨n₁ - 1, by omega⟩
    rw [dlS₁, chgS, e₁, nI_pred, ej₁, ix_nI (by omega), ix_nI (by omega)]
    refine ⟨⟨p₁, by omega, by rw [vst_n (by decide), vst_n (by omega), vst_a]⟩, ⟨fun j₁ hj₁ => ?_, fun j₁ hj₁ => ?_⟩, by rw [vst_n (by decide), vst_n (by omega), vst_n (by decide)]; exact h3₁⟩
    · rw [vst_n (by omega), vst_n (by omega), vst_n (by omega)]; exact h1₁ j₁ hj₁
    · rw [vst_n (by omega), vst_n (by omega), vst_n (by omega)]; exact h2₁ j₁ hj₁
  · rw [dwS₁] at hw₁
    exact WFv_at hh₁ (stepS_adr hU₁ hr₁ (fun z₁ => by rw [if_pos z₁] at hw₁; exact absurd hw₁ (by decide)))
  · rw [dwS₁] at hw₁
    refine WFv_at hh₁ ?_
    split at hw₁
    · exact absurd hw₁ (by decide)
    · split at hw₁
      · assumption
      · exact absurd hw₁ (by decide)
  · have hw₁ : (if runS U₁ V₁ = -1 then (1 : Int32) else 0) = 0 := hw₁
    exact WFv_at hh₁ (runS_adr hU₁ hr₁ (fun z₁ => by rw [if_pos z₁] at hw₁; exact absurd hw₁ (by decide)))
/-- the block behind the machine's 83 stays -/
theorem dlS_hi {d₁ k₁ : Nat} {a₁ b₁ : Int32} (h₁ : WFv₁ U₁ V₁) (hd₁ : d₁ < 8) (ha₁ : dar₁ U₁ a₁ d₁) (hw₁ : dwS₁ U₁ V₁ a₁ b₁ d₁ = 0) (hk₁ : 83 ≤ k₁) : dlS₁ U₁ V₁ a₁ b₁ d₁ k₁ = V₁ k₁ := by
  obtain ⟨⟨n₁, hn₁, e₁⟩, -, -⟩ := h₁
  rw [dlS₁, vst_n (by omega)]
  obtain rfl | rfl | rfl | rfl | rfl | rfl | rfl | rfl : d₁ = 0 ∨ d₁ = 1 ∨ d₁ = 2 ∨ d₁ = 3 ∨ d₁ = 4 ∨ d₁ = 5 ∨ d₁ = 6 ∨ d₁ = 7 := by omega
  · obtain ⟨j₁, hj₁, rfl⟩ := inN_t ha₁ (by decide)
    rw [chgS, ix_nI (by omega), vst_n (by omega)]
  · obtain ⟨j₁, hj₁, rfl⟩ := inN_t ha₁ (by decide)
    rw [chgS, ix_nI (by omega), vst_n (by omega)]
  · rw [chgS, vst_n (by omega)]
  · rw [chgS, e₁, ix_nI (by omega), vst_n (by omega), vst_n (by omega)]
  · rw [dwS₁] at hw₁
    have ne₁ : stpS V₁ a₁ ≠ -1 := fun z₁ => by rw [if_pos z₁] at hw₁; exact absurd hw₁ (by decide)
    obtain ⟨j₁, -, hj₁, ej₁, -⟩ := (stpB_or V₁ a₁ (ix (V₁ 2)) 0).resolve_left ne₁
    have ej₁ : stpS V₁ a₁ = nI j₁ := ej₁
    rw [e₁, ix_nI (by omega)] at hj₁
    rw [chgS, ej₁, ix_nI (by omega), vst_n (by omega), vst_n (by omega)]
  · rw [chgS, vst_n (by omega)]
  · rw [chgS, vst_n (by omega)]
  · exact vst_n (by omega)
theorem dwS_cg (g₁ : agU₁ U'₁ U₁) (hU₁ : WFc U₁) (a₁ b₁ : Int32) (d₁ : Nat) : dwS₁ U'₁ V₁ a₁ b₁ d₁ = dwS₁ U₁ V₁ a₁ b₁ d₁ := by
  rw [dwS₁.eq_def, dwS₁.eq_def, stepS_cg g₁ hU₁, lvS_cg g₁ hU₁, adr_cg g₁, runS_cg g₁ hU₁ rfl (fun _ => rfl)]
theorem dlS_cg (g₁ : agU₁ U'₁ U₁) (hU₁ : WFc U₁) (a₁ b₁ : Int32) (d₁ : Nat) : dlS₁ U'₁ V₁ a₁ b₁ d₁ = dlS₁ U₁ V₁ a₁ b₁ d₁ := by
  rw [dlS₁, dlS₁, chgS.eq_def, chgS.eq_def, stepS_cg g₁ hU₁, lvS_cg g₁ hU₁, runS_cg g₁ hU₁ rfl (fun _ => rfl)]
theorem dar_cg (g₁ : agU₁ U'₁ U₁) (a₁ : Int32) (d₁ : Nat) : dar₁ U'₁ a₁ d₁ = dar₁ U₁ a₁ d₁ := by
  rw [dar₁.eq_def, dar₁.eq_def, adr_cg g₁]
theorem ovr_ovr {V2₁ : Nat → Int32} : ovr₁ (ovr₁ U₁ V₁) V2₁ = ovr₁ U₁ V2₁ := by
  funext k₁
  simp only [ovr₁]
  split <;> rfl
theorem mac_ovr2 (h₁ : ∀ k₁, 83 ≤ k₁ → V₁ k₁ = macV U₁ k₁) : macV (ovr₁ U₁ V₁) = V₁ := by
  funext k₁
  by_cases q₁ : k₁ < 83
  · exact mac_ovr q₁
  · rw [h₁ k₁ (by omega), macV, macV, ovr_hi (by omega)]
end UN₁
