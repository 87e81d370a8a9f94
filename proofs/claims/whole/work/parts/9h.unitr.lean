/-! ===== a unit's text read: the reference ===== -/
section RG₁
variable {K₁ N₁ : MK} {I₁ : MI} {L₁ : ML} {R₁ : MR} {n₁ lm₁ m₁ : Nat} {B₁ : Nat → Nat} {U0₁ : Nat → Int32} {NM0₁ : Nat → List Nat}
theorem r_unitLoop {Q₁ : Int32 → MI → ML → Prop} (hM₁ : MDL K₁ N₁ R₁ m₁) (hS₁ : DSR₁ I₁ L₁ m₁ B₁ n₁ lm₁ U0₁ NM0₁ 0) (hW0₁ : WFU₁ U0₁) (hN0₁ : NOK₁ U0₁ NM0₁) (hz₁ : ∀ k₁, 1 ≤ k₁ → k₁ < 6 → ix (U0₁ k₁) = 0)
    (hbad : ∀ k₁ pl₁, pUnit B₁ n₁ lm₁ 500 0 U0₁ NM0₁ 0 = .inl (k₁, pl₁) → ∀ J₁ M₁, flQ₁ m₁ k₁ pl₁ J₁ → frQ₁ m₁ J₁ I₁ M₁ L₁ → Q₁ ((-1 : Int32) - nI pl₁) J₁ M₁)
    (hok₁ : ∀ U'₁ NM'₁ i₁, pUnit B₁ n₁ lm₁ 500 0 U0₁ NM0₁ 0 = .inr (U'₁, NM'₁, i₁) → WFU₁ U'₁ → NOK₁ U'₁ NM'₁ → ∀ J₁ M₁ p₁, DSR₁ J₁ M₁ m₁ B₁ n₁ lm₁ U'₁ NM'₁ p₁ → J₁ m₁ 10 = I₁ m₁ 10 → frQ₁ m₁ J₁ I₁ M₁ L₁ → w_X12_unit_77 m₁ (nI i₁) 0 K₁ N₁ J₁ M₁ R₁ Q₁) : w_X12_unit_40 m₁ 0 K₁ N₁ I₁ L₁ R₁ Q₁ := by
  delta w_X12_unit_40
  refine ⟨fun n1₁ y0₁ y1₁ I1₁ L1₁ => y0₁ = m₁ ∧ ∃ i₁ p₁ U₁ NM₁, n1₁ = 1000 - i₁ ∧ y1₁ = nI i₁ ∧ 2 * i₁ ≤ p₁ ∧ DSR₁ I1₁ L1₁ m₁ B₁ n₁ lm₁ U₁ NM₁ p₁ ∧ WFU₁ U₁ ∧ NOK₁ U₁ NM₁ ∧ (i₁ = 0 → ∀ k₁, 1 ≤ k₁ → k₁ < 6 → ix (U₁ k₁) = 0) ∧ I1₁ m₁ 10 = I₁ m₁ 10 ∧ frQ₁ m₁ I1₁ I₁ L1₁ L₁ ∧ pUnit B₁ n₁ lm₁ (500 - i₁) i₁ U₁ NM₁ p₁ = pUnit B₁ n₁ lm₁ 500 0 U0₁ NM0₁ 0, ⟨1000, rfl, 0, 0, U0₁, NM0₁, rfl, rfl, Nat.le_refl 0, hS₁, hW0₁, hN0₁, fun _ => hz₁, rfl, frQ_r, rfl⟩, ?_⟩
  rintro n1₁ y0₁ y1₁ I1₁ L1₁ ⟨rfl, i₁, p₁, U₁, NM₁, rfl, rfl, hip₁, hS1₁, hW₁, hN₁, hz1₁, hf10, hfr₁, hE₁⟩
  obtain ⟨hT₁, hI₁, hR₁⟩ := hS1₁
  have hpn₁ : p₁ ≤ n₁ := hT₁.2.2.2.1
  have h940 : n₁ ≤ 940 := hT₁.2.1
  have k4₁ : I1₁ y0₁ 7 = nI (krS₁ (tkK₁ B₁ n₁ lm₁ p₁)) := hT₁.2.2.2.2.2.2.2.2.1
  have hS1₁ : DSR₁ I1₁ L1₁ y0₁ B₁ n₁ lm₁ U₁ NM₁ p₁ := ⟨hT₁, hI₁, hR₁⟩
  rw [show 500 - i₁ = (500 - (i₁ + 1)) + 1 by omega, pUnit] at hE₁
  refine ⟨hM₁.k, ?_⟩
  rw [k4₁, show (nI (krS₁ (tkK₁ B₁ n₁ lm₁ p₁)) = 0) = (nI (krS₁ (tkK₁ B₁ n₁ lm₁ p₁)) = nI 0) from rfl, kr_eq (j₁ := 0) (k₁ := 0) rfl (by decide)]
  refine ⟨fun z₁ => ?_, fun z₁ => ?_⟩
  · rw [if_pos z₁] at hE₁
    exact hok₁ U₁ NM₁ i₁ hE₁.symm hW₁ hN₁ I1₁ L1₁ p₁ hS1₁ hf10 hfr₁
  rw [if_neg z₁] at hE₁
  have bad₁ : ∀ k₁ pl₁, pEnd B₁ n₁ lm₁ (pLine B₁ n₁ lm₁ i₁ U₁ NM₁ p₁) = .inl (k₁, pl₁) → ∀ J₁ M₁, flQ₁ y0₁ k₁ pl₁ J₁ → frQ₁ y0₁ J₁ I1₁ M₁ L1₁ → Q₁ ((-1 : Int32) - (J₁ y0₁ 11)) J₁ M₁ := fun k₁ pl₁ hp₁ J₁ M₁ fl₁ fr₁ => by
    rw [hp₁] at hE₁
    rw [fl₁.2]
    exact hbad k₁ pl₁ hE₁.symm J₁ M₁ fl₁ (frQ_t fr₁ hfr₁)
  have good : ∀ U'₁ NM'₁ p'₁, pLine B₁ n₁ lm₁ i₁ U₁ NM₁ p₁ = .inr (U'₁, NM'₁, p'₁) → ∀ J₁ M₁, DSR₁ J₁ M₁ y0₁ B₁ n₁ lm₁ U'₁ NM'₁ p'₁ → frQ₁ y0₁ J₁ I1₁ M₁ L1₁ → J₁ y0₁ 10 = I1₁ y0₁ 10 → (true = false → Q₁ ((-1 : Int32) - (J₁ y0₁ 11)) J₁ M₁) ∧ (true = true → w_X12_readEnd y0₁ K₁ N₁ J₁ M₁ R₁ (fun r34₁ I35₁ L36₁ => (r34₁ = true → ∀ v37₁ : Int32, v37₁ = nI i₁ + 1 → ∃ n1₁, n1₁ < 1000 - i₁ ∧ ((fun n1₁ y0'₁ y1₁ I1₁ L1₁ => y0'₁ = y0₁ ∧ ∃ i₁ p₁ U₁ NM₁, n1₁ = 1000 - i₁ ∧ y1₁ = nI i₁ ∧ 2 * i₁ ≤ p₁ ∧ DSR₁ I1₁ L1₁ y0₁ B₁ n₁ lm₁ U₁ NM₁ p₁ ∧ WFU₁ U₁ ∧ NOK₁ U₁ NM₁ ∧ (i₁ = 0 → ∀ k₁, 1 ≤ k₁ → k₁ < 6 → ix (U₁ k₁) = 0) ∧ I1₁ y0₁ 10 = I₁ y0₁ 10 ∧ frQ₁ y0₁ I1₁ I₁ L1₁ L₁ ∧ pUnit B₁ n₁ lm₁ (500 - i₁) i₁ U₁ NM₁ p₁ = pUnit B₁ n₁ lm₁ 500 0 U0₁ NM0₁ 0 : Nat → Nat → Int32 → MI → ML → Prop) n1₁ y0₁ v37₁ I35₁ L36₁)) ∧ (r34₁ = false → Q₁ ((-1 : Int32) - (I35₁ y0₁ 11)) I35₁ L36₁))) := by
    intro U'₁ NM'₁ p'₁ hp₁ J₁ M₁ hS2₁ fr₁ e10₁
    obtain ⟨hT2₁, hI2₁, hR2₁⟩ := hS2₁
    refine ⟨fun q₁ => absurd q₁ (by decide), fun _ => r_readEnd hM₁ hT2₁ (fun es₁ J3₁ M3₁ t3₁ f3₁ => ⟨fun _ v37₁ g37₁ => ?_, fun q₁ => absurd q₁ (by decide)⟩) (fun es₁ J3₁ f3₁ => ⟨fun q₁ => absurd q₁ (by decide), fun _ => ?_⟩)⟩
    · have he₁ : pEnd B₁ n₁ lm₁ (pLine B₁ n₁ lm₁ i₁ U₁ NM₁ p₁) = .inr (U'₁, NM'₁, tkN₁ B₁ n₁ lm₁ p'₁) := by rw [hp₁, pEnd, if_pos es₁]
      obtain ⟨w1₁, w2₁, h2₁, -⟩ := pLine_ok hW₁ hN₁ hz1₁ he₁
      rw [he₁] at hE₁
      exact ⟨1000 - (i₁ + 1), by omega, rfl, i₁ + 1, _, U'₁, NM'₁, rfl, by rw [g37₁, nI_1], by omega, ⟨t3₁, by rw [f3₁.1 _ (by omega), hI2₁], NRF_fr hR2₁ (f3₁.2.2 _ (by omega))⟩, w1₁, w2₁, fun q₁ => by omega, by rw [frV_10 f3₁, e10₁, hf10], frQ_t (frQ_V f3₁) (frQ_t fr₁ hfr₁), hE₁⟩
    · exact bad₁ 1 (tkS₁ B₁ n₁ lm₁ p'₁) (by rw [hp₁, pEnd, if_neg (by rw [es₁]; decide)]) J3₁ M₁ (flQ_f f3₁) (frQ_t (frQ_f f3₁) fr₁)
  have fls₁ : ∀ k₁ pl₁, pLine B₁ n₁ lm₁ i₁ U₁ NM₁ p₁ = .inl (k₁, pl₁) → ∀ J₁ M₁, flQ₁ y0₁ k₁ pl₁ J₁ → frQ₁ y0₁ J₁ I1₁ M₁ L1₁ → (false = false → Q₁ ((-1 : Int32) - (J₁ y0₁ 11)) J₁ M₁) ∧ (false = true → w_X12_readEnd y0₁ K₁ N₁ J₁ M₁ R₁ (fun r34₁ I35₁ L36₁ => (r34₁ = true → ∀ v37₁ : Int32, v37₁ = nI i₁ + 1 → ∃ n1₁, n1₁ < 1000 - i₁ ∧ ((fun n1₁ y0'₁ y1₁ I1₁ L1₁ => y0'₁ = y0₁ ∧ ∃ i₁ p₁ U₁ NM₁, n1₁ = 1000 - i₁ ∧ y1₁ = nI i₁ ∧ 2 * i₁ ≤ p₁ ∧ DSR₁ I1₁ L1₁ y0₁ B₁ n₁ lm₁ U₁ NM₁ p₁ ∧ WFU₁ U₁ ∧ NOK₁ U₁ NM₁ ∧ (i₁ = 0 → ∀ k₁, 1 ≤ k₁ → k₁ < 6 → ix (U₁ k₁) = 0) ∧ I1₁ y0₁ 10 = I₁ y0₁ 10 ∧ frQ₁ y0₁ I1₁ I₁ L1₁ L₁ ∧ pUnit B₁ n₁ lm₁ (500 - i₁) i₁ U₁ NM₁ p₁ = pUnit B₁ n₁ lm₁ 500 0 U0₁ NM0₁ 0 : Nat → Nat → Int32 → MI → ML → Prop) n1₁ y0₁ v37₁ I35₁ L36₁)) ∧ (r34₁ = false → Q₁ ((-1 : Int32) - (I35₁ y0₁ 11)) I35₁ L36₁))) := fun k₁ pl₁ hp₁ J₁ M₁ fl₁ fr₁ =>
    ⟨fun _ => bad₁ k₁ pl₁ (by rw [hp₁]; rfl) J₁ M₁ fl₁ fr₁, fun q₁ => absurd q₁ (by decide)⟩
  delta w_X12_readLine
  refine ⟨hM₁.k, r_isWord (k₁ := 0) hM₁ hT₁ (by decide) ⟨fun a0₁ => r_isWord (k₁ := 1) hM₁ hT₁ (by decide) ⟨fun a1₁ => r_isWord (k₁ := 2) hM₁ hT₁ (by decide) ⟨fun a2₁ => r_isWord (k₁ := 3) hM₁ hT₁ (by decide) ⟨fun a3₁ => r_isWord (k₁ := 5) hM₁ hT₁ (by decide) ⟨fun a4₁ => r_isWord (k₁ := 6) hM₁ hT₁ (by decide) ⟨fun a5₁ => r_bad (k₁ := 1) hM₁ hT₁ (fun _ => rfl) (fun J₁ f₁ => ?_), fun a5₁ => ?_⟩, fun a4₁ => ?_⟩, fun a3₁ => ?_⟩, fun a2₁ => ?_⟩, fun a1₁ => ?_⟩, fun a0₁ => ?_⟩⟩
  · have e₁ : pLine B₁ n₁ lm₁ i₁ U₁ NM₁ p₁ = .inl (1, tkS₁ B₁ n₁ lm₁ p₁) := by rw [pLine, if_neg (by rw [a0₁]; decide), if_neg (by rw [a1₁]; decide), if_neg (by rw [a2₁]; decide), if_neg (by rw [a3₁]; decide), if_neg (by rw [a4₁]; decide), if_neg (by rw [a5₁]; decide)]
    exact fls₁ _ _ e₁ J₁ L1₁ (flQ_f f₁) (frQ_f f₁)
  · have e₁ : pLine B₁ n₁ lm₁ i₁ U₁ NM₁ p₁ = pWhere B₁ n₁ lm₁ U₁ NM₁ p₁ := by rw [pLine, if_neg (by rw [a0₁]; decide), if_neg (by rw [a1₁]; decide), if_neg (by rw [a2₁]; decide), if_neg (by rw [a3₁]; decide), if_neg (by rw [a4₁]; decide), if_pos a5₁]
    refine r_readWhere hM₁ hS1₁ hW₁ hN₁ (isWd_k a5₁) (fun k₁ pl₁ hp₁ => fls₁ k₁ pl₁ (by rw [e₁]; exact hp₁)) (fun U'₁ NM'₁ p'₁ hp₁ hnm₁ J₁ M₁ tJ₁ iJ₁ mJ₁ fr₁ e10₁ => good U'₁ NM'₁ p'₁ (by rw [e₁]; exact hp₁) J₁ M₁ ⟨tJ₁, iJ₁, ?_⟩ fr₁ e10₁)
    obtain ⟨-, -, -, -, u2₁, u3₁, u4₁⟩ := pWhere_ok hW₁ hN₁ hp₁
    rw [hnm₁]
    exact NRF_cg (NRF_fr hR₁ mJ₁) u2₁ u3₁ u4₁
  · have e₁ : pLine B₁ n₁ lm₁ i₁ U₁ NM₁ p₁ = pVar B₁ n₁ lm₁ U₁ NM₁ p₁ := by rw [pLine, if_neg (by rw [a0₁]; decide), if_neg (by rw [a1₁]; decide), if_neg (by rw [a2₁]; decide), if_neg (by rw [a3₁]; decide), if_pos a4₁]
    exact r_readVar hM₁ hS1₁ hW₁ hN₁ (isWd_k a4₁) (fun k₁ pl₁ hp₁ => fls₁ k₁ pl₁ (by rw [e₁]; exact hp₁)) (fun U'₁ NM'₁ p'₁ hp₁ => good U'₁ NM'₁ p'₁ (by rw [e₁]; exact hp₁))
  · have e₁ : pLine B₁ n₁ lm₁ i₁ U₁ NM₁ p₁ = pType B₁ n₁ lm₁ U₁ NM₁ p₁ := by rw [pLine, if_neg (by rw [a0₁]; decide), if_neg (by rw [a1₁]; decide), if_neg (by rw [a2₁]; decide), if_pos a3₁]
    exact r_readType hM₁ hS1₁ hW₁ hN₁ (isWd_k a3₁) (fun k₁ pl₁ hp₁ => fls₁ k₁ pl₁ (by rw [e₁]; exact hp₁)) (fun U'₁ NM'₁ p'₁ hp₁ => good U'₁ NM'₁ p'₁ (by rw [e₁]; exact hp₁))
  · have e₁ : pLine B₁ n₁ lm₁ i₁ U₁ NM₁ p₁ = pScope B₁ n₁ lm₁ U₁ NM₁ p₁ := by rw [pLine, if_neg (by rw [a0₁]; decide), if_neg (by rw [a1₁]; decide), if_pos a2₁]
    exact r_readScope hM₁ hS1₁ hW₁ hN₁ (isWd_k a2₁) (fun k₁ pl₁ hp₁ => fls₁ k₁ pl₁ (by rw [e₁]; exact hp₁)) (fun U'₁ NM'₁ p'₁ hp₁ => good U'₁ NM'₁ p'₁ (by rw [e₁]; exact hp₁))
  · have e₁ : pLine B₁ n₁ lm₁ i₁ U₁ NM₁ p₁ = pRow B₁ n₁ lm₁ U₁ NM₁ p₁ := by rw [pLine, if_neg (by rw [a0₁]; decide), if_pos a1₁]
    exact r_readRow hM₁ hS1₁ hW₁ (isWd_k a1₁) (fun k₁ pl₁ hp₁ => fls₁ k₁ pl₁ (by rw [e₁]; exact hp₁)) (fun U'₁ NM'₁ p'₁ hp₁ => good U'₁ NM'₁ p'₁ (by rw [e₁]; exact hp₁))
  · have e₁ : pLine B₁ n₁ lm₁ i₁ U₁ NM₁ p₁ = pSize B₁ n₁ lm₁ i₁ U₁ NM₁ p₁ := by rw [pLine, if_pos a0₁]
    exact r_readSize hM₁ hS1₁ (by omega) (isWd_k a0₁) (fun k₁ pl₁ hp₁ => fls₁ k₁ pl₁ (by rw [e₁]; exact hp₁)) (fun U'₁ NM'₁ p'₁ hp₁ => good U'₁ NM'₁ p'₁ (by rw [e₁]; exact hp₁))
end RG₁
