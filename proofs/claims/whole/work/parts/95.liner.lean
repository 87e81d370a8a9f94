/-! ===== names read, scopes cut: the reference ===== -/
section RG₁
variable {K₁ N₁ : MK} {I₁ : MI} {L₁ : ML} {R₁ : MR} {n₁ lm₁ p₁ m₁ : Nat} {B₁ : Nat → Nat} {U₁ : Nat → Int32} {NM₁ : Nat → List Nat}
theorem r_readNew {slot : Nat} {Q₁ : Bool → MI → ML → Prop} (hM₁ : MDL K₁ N₁ R₁ m₁) (hS₁ : DSR₁ I₁ L₁ m₁ B₁ n₁ lm₁ U₁ NM₁ p₁) (hU₁ : WFc U₁) (hN₁ : NOK₁ U₁ NM₁) (hs₁ : slot < 26)
    (h1₁ : isNm B₁ n₁ lm₁ p₁ = false → ∀ J₁, flR₁ m₁ 1 (tkS₁ B₁ n₁ lm₁ p₁) J₁ I₁ → Q₁ false J₁ L₁) (h3₁ : isNm B₁ n₁ lm₁ p₁ = true → tdN₁ U₁ NM₁ (tkW₁ B₁ n₁ p₁) = true → ∀ J₁, flR₁ m₁ 3 (tkS₁ B₁ n₁ lm₁ p₁) J₁ I₁ → Q₁ false J₁ L₁)
    (h0₁ : isNm B₁ n₁ lm₁ p₁ = true → tdN₁ U₁ NM₁ (tkW₁ B₁ n₁ p₁) = false → wdOK (tkW₁ B₁ n₁ p₁) → ∀ J₁ M₁, TRS₁ J₁ M₁ m₁ B₁ n₁ lm₁ (tkN₁ B₁ n₁ lm₁ p₁) → J₁ (m₁ + 3) = U₁ → M₁ (m₁ + 9) slot = encB 27 (tkW₁ B₁ n₁ p₁) → (∀ k₁, k₁ ≠ slot → M₁ (m₁ + 9) k₁ = L₁ (m₁ + 9) k₁) → frQ₁ m₁ J₁ I₁ M₁ L₁ → J₁ m₁ 10 = I₁ m₁ 10 → Q₁ true J₁ M₁) : w_X12_readNew m₁ (nI slot) K₁ N₁ I₁ L₁ R₁ Q₁ := by
  obtain ⟨hT₁, hI₁, hR₁⟩ := hS₁
  have n2₁ := hU₁.2.1.2
  have n3₁ := hU₁.2.2.1.2
  have n4₁ := hU₁.2.2.2.1.2
  delta w_X12_readNew
  refine ⟨hM₁.k, r_isName hM₁ hT₁ ⟨fun e₁ => ⟨_, hM₁.r21, _, hM₁.r15, hM₁.k3, by rw [hM₁.n3]; exact vp_c (by decide) (by decide), ?_⟩, fun e₁ => r_bad (k₁ := 1) hM₁ hT₁ (fun _ => rfl) (h1₁ e₁)⟩⟩
  have kk₁ : tkK₁ B₁ n₁ lm₁ p₁ = 1 := by
    rw [isNm, Bool.and_eq_true, decide_eq_true_eq] at e₁; exact e₁.1
  have hw₁ := tkW_ok kk₁
  have e12₁ : L₁ m₁ 12 = encB 27 (tkW₁ B₁ n₁ p₁) := hT₁.2.2.2.2.2.2.2.2.2.2.1 kk₁
  have td₁ : tdN₁ U₁ NM₁ (tkW₁ B₁ n₁ p₁) = (!(decide (fndS NM₁ 0 (ix (U₁ 2)) (tkW₁ B₁ n₁ p₁) = -1)) || (!(decide (fndS NM₁ 10 (ix (U₁ 3)) (tkW₁ B₁ n₁ p₁) = -1)) || !(decide (fndS NM₁ 16 (ix (U₁ 4)) (tkW₁ B₁ n₁ p₁) = -1)))) := rfl
  have bad₁ : tdN₁ U₁ NM₁ (tkW₁ B₁ n₁ p₁) = true → w_X12_bad m₁ 3 K₁ N₁ I₁ L₁ R₁ (fun r8₁ I9₁ => Q₁ r8₁ I9₁ L₁) := fun z₁ => r_bad (k₁ := 3) hM₁ hT₁ (fun w₁ => by omega) (h3₁ e₁ z₁)
  have f2₁ : ∀ P₁ : Int32 → Prop, P₁ (fndS NM₁ 0 (ix (U₁ 2)) (tkW₁ B₁ n₁ p₁)) → w_X12_findIn (m₁ + 9) 0 (U₁ 2) (encB 27 (tkW₁ B₁ n₁ p₁)) K₁ N₁ I₁ L₁ R₁ P₁ := fun P₁ hP₁ => by
    rw [hU₁.2.1.1]
    exact r_findIn (b₁ := 0) hM₁.k9 hM₁.n9 (by omega) (by decide) hw₁ hN₁.1 hR₁.1 hP₁
  have f3₁ : ∀ P₁ : Int32 → Prop, P₁ (fndS NM₁ 10 (ix (U₁ 3)) (tkW₁ B₁ n₁ p₁)) → w_X12_findIn (m₁ + 9) 10 (U₁ 3) (encB 27 (tkW₁ B₁ n₁ p₁)) K₁ N₁ I₁ L₁ R₁ P₁ := fun P₁ hP₁ => by
    rw [hU₁.2.2.1.1]
    exact r_findIn (b₁ := 10) hM₁.k9 hM₁.n9 (by omega) (by decide) hw₁ hN₁.2.1 hR₁.2.1 hP₁
  have f4₁ : ∀ P₁ : Int32 → Prop, P₁ (fndS NM₁ 16 (ix (U₁ 4)) (tkW₁ B₁ n₁ p₁)) → w_X12_findIn (m₁ + 9) 16 (U₁ 4) (encB 27 (tkW₁ B₁ n₁ p₁)) K₁ N₁ I₁ L₁ R₁ P₁ := fun P₁ hP₁ => by
    rw [hU₁.2.2.2.1.1]
    exact r_findIn (b₁ := 16) hM₁.k9 hM₁.n9 (by omega) (by decide) hw₁ hN₁.2.2 hR₁.2.2 hP₁
  rw [hI₁, e12₁]
  refine f2₁ _ ⟨fun z₁ => bad₁ (by rw [td₁, decide_eq_false z₁]; rfl), fun z₁ => ⟨by rw [hM₁.n3]; exact vp_c (by decide) (by decide), f3₁ _ ⟨fun y₁ => ⟨by rw [hM₁.n3]; exact vp_c (by decide) (by decide), f4₁ _ ⟨fun q₁ => ⟨hM₁.k9, by rw [hM₁.n9]; exact (vp_nI (by omega)).mpr hs₁, fun L16₁ g16₁ => ?_⟩, fun q₁ => bad₁ (by rw [td₁, decide_eq_true z₁, decide_eq_true y₁, decide_eq_false q₁]; rfl)⟩⟩, fun y₁ => bad₁ (by rw [td₁, decide_eq_true z₁, decide_eq_false y₁]; rfl)⟩⟩⟩
  rw [ix_nI (by omega)] at g16₁
  refine r_next hM₁ (TRS_fr hT₁ rfl (fun _ _ _ => rfl) (by rw [g16₁, mup_ne (by omega)])) (fun J₁ M₁ t1₁ f1₁ => h0₁ e₁ (by rw [td₁, decide_eq_true z₁, decide_eq_true y₁, decide_eq_true q₁]; rfl) hw₁ J₁ M₁ t1₁ (by rw [f1₁.1 _ (by omega)]; exact hI₁) (by rw [f1₁.2.2 _ (by omega), g16₁, mup_at]) (fun k₁ hk₁ => by rw [f1₁.2.2 _ (by omega), g16₁, mup_k hk₁]) (frQ_t (frQ_V f1₁) ⟨fun _ _ _ => rfl, fun b₁ q1₁ q2₁ => by rw [g16₁, mup_ne q2₁], fun _ _ _ _ _ _ _ _ _ _ => rfl⟩) (frV_10 f1₁))
theorem r_readTold {b₁ c₁ : Nat} {Q₁ : Bool → MI → ML → Prop} (hM₁ : MDL K₁ N₁ R₁ m₁) (hT₁ : TRS₁ I₁ L₁ m₁ B₁ n₁ lm₁ p₁) (hbc₁ : b₁ + c₁ ≤ 26) (hok₁ : ∀ k₁, k₁ < c₁ → wdOK (NM₁ (b₁ + k₁))) (hNm₁ : ∀ k₁, k₁ < c₁ → L₁ (m₁ + 9) (b₁ + k₁) = encB 27 (NM₁ (b₁ + k₁)))
    (h1₁ : isNm B₁ n₁ lm₁ p₁ = false → ∀ J₁, flR₁ m₁ 1 (tkS₁ B₁ n₁ lm₁ p₁) J₁ I₁ → Q₁ false J₁ L₁) (h3₁ : isNm B₁ n₁ lm₁ p₁ = true → fndS NM₁ b₁ c₁ (tkW₁ B₁ n₁ p₁) = -1 → ∀ J₁, flQ₁ m₁ 3 (tkS₁ B₁ n₁ lm₁ p₁) J₁ → frQ₁ m₁ J₁ I₁ L₁ L₁ → Q₁ false J₁ L₁)
    (h0₁ : isNm B₁ n₁ lm₁ p₁ = true → ∀ k₁, fndS NM₁ b₁ c₁ (tkW₁ B₁ n₁ p₁) = nI k₁ → k₁ < c₁ → ∀ J₁ M₁, TRS₁ J₁ M₁ m₁ B₁ n₁ lm₁ (tkN₁ B₁ n₁ lm₁ p₁) → J₁ m₁ 13 = nI k₁ → (∀ b₁, b₁ ≠ m₁ → J₁ b₁ = I₁ b₁) → (∀ b₁, b₁ ≠ m₁ → M₁ b₁ = L₁ b₁) → frQ₁ m₁ J₁ I₁ M₁ L₁ → J₁ m₁ 10 = I₁ m₁ 10 → Q₁ true J₁ M₁) : w_X12_readTold m₁ (nI b₁) (nI c₁) K₁ N₁ I₁ L₁ R₁ Q₁ := by
  delta w_X12_readTold
  refine ⟨hM₁.k, r_isName hM₁ hT₁ ⟨fun e₁ => ⟨_, hM₁.r21, ?_⟩, fun e₁ => r_bad (k₁ := 1) hM₁ hT₁ (fun _ => rfl) (h1₁ e₁)⟩⟩
  have kk₁ : tkK₁ B₁ n₁ lm₁ p₁ = 1 := by
    rw [isNm, Bool.and_eq_true, decide_eq_true_eq] at e₁; exact e₁.1
  have hw₁ := tkW_ok kk₁
  have e12₁ : L₁ m₁ 12 = encB 27 (tkW₁ B₁ n₁ p₁) := hT₁.2.2.2.2.2.2.2.2.2.2.1 kk₁
  rw [e12₁]
  refine r_findIn hM₁.k9 hM₁.n9 hbc₁ (by decide) hw₁ hok₁ hNm₁ (fun I5₁ g5₁ => ?_)
  have e13₁ : I5₁ m₁ 13 = fndS NM₁ b₁ c₁ (tkW₁ B₁ n₁ p₁) := by rw [g5₁, mup_at]
  have b5₁ : ∀ z₁, z₁ ≠ m₁ → I5₁ z₁ = I₁ z₁ := fun z₁ hz₁ => by rw [g5₁, mup_ne hz₁]
  have t5₁ : TRS₁ I5₁ L₁ m₁ B₁ n₁ lm₁ p₁ := TRS_fr hT₁ (b5₁ _ (by omega)) (fun y₁ _ _ => by rw [g5₁, mup_k (by omega)]) rfl
  have fr5₁ : frQ₁ m₁ I5₁ I₁ L₁ L₁ := by rw [g5₁]; exact frQ_13
  rw [e13₁]
  refine ⟨fun z₁ => ?_, fun z₁ => r_bad (k₁ := 3) hM₁ t5₁ (fun w₁ => by omega) (fun J₁ f₁ => h3₁ e₁ z₁ J₁ (flQ_f f₁) (frQ_t (frQ_f f₁) fr5₁))⟩
  obtain ⟨k₁, hk₁, ek₁⟩ := (fndS_or NM₁ b₁ c₁ (tkW₁ B₁ n₁ p₁)).resolve_left z₁
  refine r_next hM₁ t5₁ (fun J₁ M₁ t6₁ f6₁ => h0₁ e₁ k₁ ek₁ hk₁ J₁ M₁ t6₁ (by rw [f6₁.2.1 13 (by decide) (by decide) (by decide) (by decide) (by decide), e13₁, ek₁]) (fun z₁ hz₁ => by rw [f6₁.1 z₁ hz₁, b5₁ z₁ hz₁]) f6₁.2.2 (frQ_t (frQ_V f6₁) fr5₁) (by rw [frV_10 f6₁, g5₁, mup_k (by decide)]))
theorem r_isWithin {f₁ t₁ lo₁ hi₁ : Int32} {Q₁ : Bool → Prop} (h₁ : Q₁ (!(decide (f₁ < lo₁)) && decide (t₁ ≤ hi₁))) : w_X12_isWithin f₁ t₁ lo₁ hi₁ K₁ N₁ I₁ L₁ R₁ Q₁ := by
  refine ⟨fun z₁ => ?_, fun z₁ => ⟨fun y₁ => ?_, fun y₁ => ?_⟩⟩
  · rw [decide_eq_true z₁] at h₁; exact h₁
  · rw [decide_eq_false z₁, decide_eq_false (Int32.not_le.mpr y₁)] at h₁; exact h₁
  · rw [decide_eq_false z₁, decide_eq_true (Int32.not_lt.mp y₁)] at h₁; exact h₁
theorem r_areApart {f₁ t₁ lo₁ hi₁ : Int32} {Q₁ : Bool → Prop} (h₁ : Q₁ (decide (t₁ ≤ lo₁) || !(decide (f₁ < hi₁)))) : w_X12_areApart f₁ t₁ lo₁ hi₁ K₁ N₁ I₁ L₁ R₁ Q₁ := by
  refine ⟨fun z₁ => ?_, fun z₁ => ⟨fun y₁ => ?_, fun y₁ => ?_⟩⟩
  · rw [decide_eq_true z₁] at h₁; exact h₁
  · rw [decide_eq_false z₁, decide_eq_true y₁] at h₁; exact h₁
  · rw [decide_eq_false z₁, decide_eq_false y₁] at h₁; exact h₁
theorem r_cutsScope {f₁ t₁ : Int32} {Q₁ : Bool → Prop} (hM₁ : MDL K₁ N₁ R₁ m₁) (hI₁ : I₁ (m₁ + 3) = U₁) (hU₁ : U₁ 2 = nI (ix (U₁ 2))) (hU2₁ : ix (U₁ 2) ≤ 10) (h₁ : Q₁ (cutS U₁ f₁ t₁)) : w_X12_cutsScope m₁ f₁ t₁ K₁ N₁ I₁ L₁ R₁ Q₁ := by
  delta w_X12_cutsScope w_X12_cutsScope_2
  refine ⟨fun n1₁ y0₁ y1₁ y2₁ y3₁ => y0₁ = m₁ ∧ y1₁ = f₁ ∧ y2₁ = t₁ ∧ ∃ i₁, i₁ ≤ ix (U₁ 2) ∧ n1₁ = ix (U₁ 2) - i₁ ∧ y3₁ = nI i₁ ∧ cutG (fun i₁ => U₁ (66 + i₁)) (fun i₁ => U₁ (76 + i₁)) f₁ t₁ (ix (U₁ 2) - i₁) i₁ = cutS U₁ f₁ t₁, ⟨ix (U₁ 2), rfl, rfl, rfl, 0, by omega, rfl, rfl, rfl⟩, ?_⟩
  rintro n1₁ y0₁ y1₁ y2₁ y3₁ ⟨rfl, rfl, rfl, i₁, hi1₁, rfl, rfl, hB₁⟩
  refine ⟨hM₁.k, _, hM₁.r15, hM₁.k3, by rw [hM₁.n3]; exact vp_c (by decide) (by decide), ?_⟩
  rw [show ix (2 : Int32) = 2 from rfl, hI₁]
  refine ⟨fun z₁ => ?_, fun z₁ => ⟨by rw [hU₁, leN (by omega) (by omega)] at z₁; rw [hM₁.n3]; exact vp_cn (by omega) (by decide), fun v6₁ g6₁ => ⟨by rw [hU₁, leN (by omega) (by omega)] at z₁; rw [hM₁.n3]; exact vp_cn (by omega) (by decide), fun v8₁ g8₁ => ?_⟩⟩⟩ <;> rw [hU₁, leN (by omega) (by omega)] at z₁
  · rw [show ix (U₁ 2) - i₁ = 0 by omega, cutG] at hB₁
    rw [← hB₁] at h₁; exact h₁
  rw [ix_cn (by omega)] at g6₁ g8₁
  rw [show ix (U₁ 2) - i₁ = (ix (U₁ 2) - (i₁ + 1)) + 1 by omega, cutG, ← g6₁, ← g8₁] at hB₁
  have next : cutP y1₁ y2₁ v6₁ v8₁ = false → ∀ v10₁ : Int32, v10₁ = nI i₁ + 1 → ∃ n1₁, n1₁ < ix (U₁ 2) - i₁ ∧ ((fun n1₁ y0'₁ y1'₁ y2'₁ y3₁ => y0'₁ = y0₁ ∧ y1'₁ = y1₁ ∧ y2'₁ = y2₁ ∧ ∃ i₁, i₁ ≤ ix (U₁ 2) ∧ n1₁ = ix (U₁ 2) - i₁ ∧ y3₁ = nI i₁ ∧ cutG (fun i₁ => U₁ (66 + i₁)) (fun i₁ => U₁ (76 + i₁)) y1₁ y2₁ (ix (U₁ 2) - i₁) i₁ = cutS U₁ y1₁ y2₁ : Nat → Nat → Int32 → Int32 → Int32 → Prop) n1₁ y0₁ y1₁ y2₁ v10₁) := fun e₁ v10₁ g10₁ => by
    rw [if_neg (by rw [e₁]; decide)] at hB₁
    exact ⟨ix (U₁ 2) - (i₁ + 1), by omega, rfl, rfl, rfl, i₁ + 1, by omega, rfl, by rw [g10₁, nI_1], hB₁⟩
  have key₁ : cutP y1₁ y2₁ v6₁ v8₁ = (!(decide (y2₁ ≤ v6₁) || !(decide (y1₁ < v8₁))) && !(!(decide (y1₁ < v6₁)) && decide (y2₁ ≤ v8₁)) && !(!(decide (v6₁ < y1₁)) && decide (v8₁ ≤ y2₁))) := by
    rw [cutP, show decide (v8₁ ≤ y2₁) = !(decide (y2₁ < v8₁)) from by
      by_cases q₁ : y2₁ < v8₁
      · rw [decide_eq_true q₁, decide_eq_false (Int32.not_le.mpr q₁)]; rfl
      · rw [decide_eq_false q₁, decide_eq_true (Int32.not_lt.mp q₁)]; rfl]
  refine r_isWithin ⟨fun a₁ => next (by rw [key₁, a₁]; simp), fun a₁ => r_isWithin ⟨fun b₁ => next (by rw [key₁, b₁]; simp), fun b₁ => r_areApart ⟨fun c₁ => next (by rw [key₁, c₁]; simp), fun c₁ => ?_⟩⟩⟩
  rw [if_pos (by rw [key₁, a₁, b₁, c₁]; rfl)] at hB₁
  rw [← hB₁] at h₁; exact h₁
end RG₁
