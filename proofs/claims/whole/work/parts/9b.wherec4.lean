/-! ===== a 'where' line: the class, the whole of it ===== -/
section UN₁
variable {K₁ N₁ : MK} {I₁ : MI} {L₁ : ML} {R₁ : MR} {n₁ lm₁ p₁ x₁ c₁ d₁ w₁ u₁ : Nat} {B₁ : Nat → Nat} {U₁ U'₁ : Nat → Int32} {NM₁ : Nat → List Nat}
/-- the draft with one more place -/
theorem UD_wh {J₁ : MI} {M₁ : ML} (hD₁ : UD I₁ L₁ (x₁ + 37) U₁ (eNM₁ NM₁)) (hW₁ : WFU₁ U₁) (hw₁ : ix (U₁ 5) = w₁) (hc₁ : w₁ < 16) (e5₁ : U'₁ 5 = nI (w₁ + 1))
    (eo₁ : ∀ k₁, k₁ ≠ 5 → k₁ ≠ 134 + w₁ → k₁ ≠ 150 + w₁ → k₁ ≠ 166 + w₁ → k₁ ≠ 182 + w₁ → k₁ ≠ 198 + w₁ → (k₁ < 214 + 8 * w₁ ∨ 222 + 8 * w₁ ≤ k₁) → U'₁ k₁ = U₁ k₁)
    (bJ₁ : ∀ b₁, x₁ + 37 ≤ b₁ → b₁ < x₁ + 50 → J₁ b₁ = I₁ b₁) (bM₁ : ∀ b₁, x₁ + 37 ≤ b₁ → b₁ < x₁ + 50 → M₁ b₁ = L₁ b₁) (td₁ : TD J₁ (x₁ + 50) 16 21 (w₁ + 1)) (row₁ : ∀ y₁, y₁ < w₁ * 21 → J₁ (x₁ + 52) y₁ = I₁ (x₁ + 52) y₁)
    (r0₁ : J₁ (x₁ + 52) (w₁ * 21 + 0) = U'₁ (150 + w₁)) (r1₁ : J₁ (x₁ + 52) (w₁ * 21 + 1) = U'₁ (166 + w₁)) (r2₁ : J₁ (x₁ + 52) (w₁ * 21 + 2) = U'₁ (134 + w₁)) (rp₁ : plR (fun j₁ => J₁ (x₁ + 52) (w₁ * 21 + j₁)) (U'₁ (182 + w₁)) (U'₁ (198 + w₁)) (fun j₁ => U'₁ (214 + 8 * w₁ + j₁))) : UD J₁ M₁ (x₁ + 37) U'₁ (eNM₁ NM₁) := by
  have hU₁ := hW₁.1
  have n1₁ := hU₁.1.2
  have n2₁ := hU₁.2.1.2
  have n3₁ := hU₁.2.2.1.2
  have n4₁ := hU₁.2.2.2.1.2
  have lo₁ : ∀ k₁, k₁ ≠ 5 → k₁ < 134 → U'₁ k₁ = U₁ k₁ := fun k₁ h1₁ h2₁ => eo₁ k₁ h1₁ (by omega) (by omega) (by omega) (by omega) (by omega) (by omega)
  obtain ⟨a0₁, a1₁, a2₁, a3₁, a4₁, a5₁⟩ := hD₁
  refine ⟨by rw [bJ₁ _ (by omega) (by omega), a0₁, lo₁ 0 (by decide) (by decide)], ?_, ?_, ?_, ?_, ⟨?_, fun k₁ hk₁ => ?_⟩⟩
  · exact UD1_cg (a1₁.fr (bJ₁ _ (by omega) (by omega)) (bJ₁ _ (by omega) (by omega))) n1₁ (lo₁ 1 (by decide) (by decide)) (fun k₁ q1₁ q2₁ => lo₁ k₁ (by omega) (by omega))
  · exact UD2_cg (a2₁.fr (bJ₁ _ (by omega) (by omega)) (bJ₁ _ (by omega) (by omega)) (bM₁ _ (by omega) (by omega))) n2₁ (lo₁ 2 (by decide) (by decide)) (fun k₁ q1₁ q2₁ => lo₁ k₁ (by omega) (by omega)) (fun _ _ => rfl)
  · exact UD3_cg (a3₁.fr (bJ₁ _ (by omega) (by omega)) (bJ₁ _ (by omega) (by omega)) (bM₁ _ (by omega) (by omega))) n3₁ (lo₁ 3 (by decide) (by decide)) (fun k₁ q1₁ q2₁ => lo₁ k₁ (by omega) (by omega)) (fun _ _ _ => rfl)
  · exact UD4_cg (a4₁.fr (bJ₁ _ (by omega) (by omega)) (bJ₁ _ (by omega) (by omega)) (bM₁ _ (by omega) (by omega))) n4₁ (lo₁ 4 (by decide) (by decide)) (fun k₁ q1₁ q2₁ => lo₁ k₁ (by omega) (by omega)) (fun _ _ _ => rfl)
  · rw [e5₁, ix_nI (by omega)]; exact td₁
  · rw [e5₁, ix_nI (by omega)] at hk₁
    show J₁ (x₁ + 52) (k₁ * 21 + 0) = _ ∧ J₁ (x₁ + 52) (k₁ * 21 + 1) = _ ∧ J₁ (x₁ + 52) (k₁ * 21 + 2) = _ ∧ plR (fun j₁ => J₁ (x₁ + 52) (k₁ * 21 + j₁)) _ _ _
    by_cases z₁ : k₁ = w₁
    · rw [z₁]; exact ⟨r0₁, r1₁, r2₁, rp₁⟩
    · have r₁ := a5₁.2 k₁ (by omega)
      have hpl₁ : plR (fun j₁ => J₁ (x₁ + 52) (k₁ * 21 + j₁)) (U₁ (182 + k₁)) (U₁ (198 + k₁)) (fun j₁ => U'₁ (214 + 8 * k₁ + j₁)) := by
        have h1₁ := plR_cg (code' := fun j₁ => U'₁ (214 + 8 * k₁ + j₁)) r₁.2.2.2 (WFo_m hU₁.2.2.2.2.1.2 hW₁.2.2.2.2.2.2.2 k₁ (by omega)) (fun j₁ hj₁ => eo₁ (214 + 8 * k₁ + j₁) (by omega) (by omega) (by omega) (by omega) (by omega) (by omega) (by omega))
        rcases h1₁ with ⟨b1₁, b2₁, b3₁, b4₁, b5₁⟩ | ⟨b1₁, b2₁, b3₁, b4₁⟩
        · refine Or.inl ⟨b1₁, ?_, ?_, ?_, ?_⟩
          · show J₁ (x₁ + 52) (k₁ * 21 + 3) = 1; rw [row₁ _ (by omega)]; exact b2₁
          · show J₁ (x₁ + 52) (k₁ * 21 + 4) = 1; rw [row₁ _ (by omega)]; exact b3₁
          · show J₁ (x₁ + 52) (k₁ * 21 + 5) = 10; rw [row₁ _ (by omega)]; exact b4₁
          · show J₁ (x₁ + 52) (k₁ * 21 + 6) = _; rw [row₁ _ (by omega)]; exact b5₁
        · have h8₁ : ix (U₁ (198 + k₁)) ≤ 8 := by
            rcases WFo_m hU₁.2.2.2.2.1.2 hW₁.2.2.2.2.2.2.2 k₁ (by omega) with y₁ | y₁
            · rw [y₁] at b1₁; rcases b1₁ with b1₁ | b1₁ <;> exact absurd b1₁ (by decide)
            · exact y₁
          refine Or.inr ⟨b1₁, ?_, ?_, fun j₁ hj₁ => ?_⟩
          · show J₁ (x₁ + 52) (k₁ * 21 + 3) = _; rw [row₁ _ (by omega)]; exact b2₁
          · show J₁ (x₁ + 52) (k₁ * 21 + 4) = _; rw [row₁ _ (by omega)]; exact b3₁
          · show opR (J₁ (x₁ + 52) (k₁ * 21 + (5 + 2 * j₁))) (J₁ (x₁ + 52) (k₁ * 21 + (5 + 2 * j₁ + 1))) _
            rw [row₁ _ (by omega), row₁ _ (by omega)]; exact b4₁ j₁ hj₁
      rw [row₁ _ (by omega), row₁ _ (by omega), row₁ _ (by omega), eo₁ (150 + k₁) (by omega) (by omega) (by omega) (by omega) (by omega) (by omega) (by omega), eo₁ (166 + k₁) (by omega) (by omega) (by omega) (by omega) (by omega) (by omega) (by omega), eo₁ (134 + k₁) (by omega) (by omega) (by omega) (by omega) (by omega) (by omega) (by omega), eo₁ (182 + k₁) (by omega) (by omega) (by omega) (by omega) (by omega) (by omega) (by omega), eo₁ (198 + k₁) (by omega) (by omega) (by omega) (by omega) (by omega) (by omega) (by omega)]
      exact ⟨r₁.1, r₁.2.1, r₁.2.2.1, hpl₁⟩
theorem s_readPlace {Q₁ : Bool → MI → ML → Prop} (hX₁ : PDL K₁ N₁ R₁ x₁) (hS₁ : DSC₁ K₁ N₁ R₁ I₁ L₁ x₁ B₁ n₁ lm₁ U₁ NM₁ p₁)
    (hbad : ∀ k₁ pl₁, pEnd B₁ n₁ lm₁ (pWhere B₁ n₁ lm₁ U₁ NM₁ p₁) = .inl (k₁, pl₁) → ∀ J₁ M₁, flD₁ x₁ k₁ pl₁ J₁ → frD₁ x₁ J₁ I₁ M₁ L₁ → Q₁ false J₁ M₁)
    (hok₁ : ∀ U'₁ NM'₁ p'₁, pWhere B₁ n₁ lm₁ U₁ NM₁ p₁ = .inr (U'₁, NM'₁, p'₁) → ∀ J₁ M₁, DSC₁ K₁ N₁ R₁ J₁ M₁ x₁ B₁ n₁ lm₁ U'₁ NM'₁ p'₁ → frD₁ x₁ J₁ I₁ M₁ L₁ → J₁ (x₁ + 1) 10 = I₁ (x₁ + 1) 10 → Q₁ true J₁ M₁) : w_X10_readPlace (x₁ + 36) (x₁ + 1) K₁ N₁ I₁ L₁ R₁ Q₁ := by
  obtain ⟨hT₁, hD₁, hW₁, hN₁⟩ := hS₁
  have hU₁ := hW₁.1
  have n0₁ := hU₁.2.2.2.2.2.2
  have n4₁ := hU₁.2.2.2.1.2
  have n5₁ := hU₁.2.2.2.2.1.2
  have hu₁ := hX₁.urd_u
  have t4₁ := hu₁.2.2.2.2.2.2.2.2.2.1
  have t5₁ := hu₁.2.2.2.2.2.2.2.2.2.2
  have d5₁ := hD₁.2.2.2.2.2
  delta w_X10_readPlace
  refine ⟨hX₁.urd, _, hX₁.urd_r, hu₁.1, _, hu₁.2.2.2.2.2.1, s_beginSort hT₁ t5₁ d5₁.1 (fun e₁ J₁ f₁ => ⟨fun y₁ => absurd y₁ (by decide), fun _ => ?_⟩) (fun e₁ J1₁ M1₁ t1₁ f1₁ => ⟨fun _ => ⟨_, hu₁.2.2.2.2.1, ?_⟩, fun y₁ => absurd y₁ (by decide)⟩)⟩
  · exact hbad _ _ (by rw [pWhere, if_pos e₁]; rfl) J₁ L₁ (flD_f f₁) (frD_f f₁)
  have d1₁ := UD_K hD₁ f1₁
  obtain ⟨w₁, hw₁⟩ : ∃ w₁, ix (U₁ 5) = w₁ := ⟨_, rfl⟩
  have hc₁ : w₁ < 16 := by omega
  refine s_readToldName (b₁ := 16) (NM₁ := NM₁) t1₁ t4₁ d1₁.2.2.2.2.1.1 hN₁.2.2 (fun k₁ hk₁ => nm_of (hN₁.2.2 k₁ hk₁) (d1₁.2.2.2.2.1.2 k₁ hk₁).2.2) (fun e1₁ J₁ f₁ => ⟨fun y₁ => absurd rfl y₁, fun _ => ?_⟩) (fun e1₁ e2₁ J₁ f₁ => ⟨fun y₁ => absurd rfl y₁, fun _ => ?_⟩) (fun e1₁ v₁ ev₁ hv₁ J2₁ M2₁ t2₁ f2₁ => ⟨fun _ => ⟨t5₁.1, ?_⟩, fun y₁ => absurd y₁ (m1_ne (by omega))⟩)
  · exact hbad _ _ (by rw [pWhere, if_neg e₁, pTold, if_pos e1₁]; rfl) J₁ M1₁ (flD_f f₁) (frD_t (frD_f f₁) (frD_K f1₁))
  · exact hbad _ _ (by rw [pWhere, if_neg e₁, pTold, if_neg (by rw [e1₁]; decide), if_pos e2₁]; rfl) J₁ M1₁ (flD_f f₁) (frD_t (frD_f f₁) (frD_K f1₁))
  have k1₁ : ¬ isNm B₁ n₁ lm₁ ((tkN₁ B₁ n₁ lm₁ (p₁))) = false := by rw [e1₁]; decide
  have k2₁ : ¬ fndS NM₁ 16 (ix (U₁ 4)) (tkW₁ B₁ n₁ ((tkN₁ B₁ n₁ lm₁ (p₁)))) = -1 := by rw [ev₁]; exact m1_ne (by omega)
  have d2₁ := UD_K d1₁ f2₁
  have td2₁ : TD J2₁ (x₁ + 37 + 13) 16 21 w₁ := by have := d2₁.2.2.2.2.2.1; rw [hw₁] at this; exact this
  refine s_add t5₁ td2₁ hc₁ ?_
  have td3₁ : TD (mup J2₁ (x₁ + 37 + 13) 3 (nI (w₁ + 1))) (x₁ + 37 + 13) 16 21 (w₁ + 1) := td2₁.many (by omega)
  refine s_put (c₁ := 2) t5₁ td3₁ (by omega) (by decide) ?_
  generalize hG₁ : mup (mup J2₁ (x₁ + 37 + 13) 3 (nI (w₁ + 1))) (x₁ + 37 + 13 + 2) (w₁ * 21 + 2) (-1) = J3₁
  generalize hGM₁ : mup M2₁ (x₁ + 37 + 13 + 1) w₁ 0 = M3₁
  have b3₁ : ∀ b₁, b₁ ≠ x₁ + 50 → b₁ ≠ x₁ + 52 → J3₁ b₁ = J2₁ b₁ := fun b₁ q1₁ q2₁ => by rw [← hG₁, mup_ne q2₁, mup_ne q1₁]
  have l3₁ : ∀ b₁, b₁ ≠ x₁ + 51 → M3₁ b₁ = M2₁ b₁ := fun b₁ q1₁ => by rw [← hGM₁, mup_ne q1₁]
  have c3₁ : ∀ y₁, y₁ ≠ w₁ * 21 + 2 → J3₁ (x₁ + 52) y₁ = J2₁ (x₁ + 52) y₁ := fun y₁ hy₁ => by rw [← hG₁, show x₁ + 37 + 13 + 2 = x₁ + 52 from rfl, mup_k hy₁, mup_ne (by omega)]
  have e32₁ : J3₁ (x₁ + 52) (w₁ * 21 + 2) = -1 := by rw [← hG₁]; exact mup_at
  have td3' : TD J3₁ (x₁ + 37 + 13) 16 21 (w₁ + 1) := td3₁.fr (by rw [← hG₁, mup_ne (by omega)])
  clear hG₁ hGM₁
  have t3₁ : TCS₁ K₁ N₁ R₁ J3₁ M3₁ (x₁ + 1) B₁ n₁ lm₁ ((tkN₁ B₁ n₁ lm₁ (tkN₁ B₁ n₁ lm₁ (p₁)))) := TCS_fr t2₁ (b3₁ _ (by omega) (by omega)) (fun y₁ _ _ => by rw [b3₁ _ (by omega) (by omega)]) (l3₁ _ (by omega))
  have fr3₁ : frD₁ x₁ J3₁ I₁ M3₁ L₁ := frD_t ⟨fun b₁ q1₁ q2₁ => b3₁ b₁ (by omega) (by omega), fun b₁ q1₁ q2₁ => l3₁ b₁ (by omega), fun y₁ _ => by rw [b3₁ _ (by omega) (by omega)], fun b₁ q₁ => by
      by_cases z₁ : b₁ = x₁ + 50
      · rw [z₁]; exact td3'.1.trans td2₁.1.symm
      · rw [b3₁ b₁ (by omega) (by omega)]⟩ (frD_t (frD_K f2₁) (frD_K f1₁))
  have hS0₁ : J3₁ (x₁ + 37) 0 = nI (ix (U₁ 0)) := by rw [b3₁ _ (by omega) (by omega), d2₁.1]; exact hU₁.2.2.2.2.2.1
  refine s_readRange (x₁ := x₁) hX₁ t3₁ hS0₁ (by omega) (by omega) t5₁ td3' (by omega) (by decide) (by omega) (fun e3₁ J₁ f₁ => ⟨fun y₁ => absurd y₁ (by decide), fun _ => ?_⟩) (fun e3₁ e4₁ J₁ M₁ J3'₁ f₁ f3₁ => ⟨fun y₁ => absurd y₁ (by decide), fun _ => ?_⟩) (fun e3₁ e4₁ k3₁ v1₁ v2₁ J4₁ M4₁ tt4₁ td4₁ r0₁ r1₁ gb₁ gc₁ gM₁ g10₁ => ⟨fun _ => ?_, fun y₁ => absurd y₁ (by decide)⟩)
  · exact hbad _ _ (by rw [pWhere, if_neg e₁, pTold, if_neg k1₁, if_neg k2₁, pNum, if_pos e3₁]; rfl) J₁ M3₁ (flD_f f₁) (frD_t (frD_f f₁) fr3₁)
  · exact hbad _ _ (by rw [pWhere, if_neg e₁, pTold, if_neg k1₁, if_neg k2₁, pNum, if_neg (fun z₁ => z₁ e3₁), pNum, if_pos e4₁]; rfl) J3'₁ M₁ (flD_f f3₁) (frD_t (frD_f f3₁) (frD_t (frD_K f₁) fr3₁))
  have r0₁ : J4₁ (x₁ + 52) (w₁ * 21 + 0) = nI (tkV₁ B₁ n₁ ((tkN₁ B₁ n₁ lm₁ (tkN₁ B₁ n₁ lm₁ (p₁))))) := r0₁
  have r1₁ : J4₁ (x₁ + 52) (w₁ * 21 + 1) = nI (tkV₁ B₁ n₁ ((tkN₁ B₁ n₁ lm₁ (tkN₁ B₁ n₁ lm₁ (tkN₁ B₁ n₁ lm₁ (p₁)))))) := r1₁
  have gc₁ : ∀ j₁, j₁ ≠ w₁ * 21 + 0 → j₁ ≠ w₁ * 21 + 1 → J4₁ (x₁ + 52) j₁ = J3₁ (x₁ + 52) j₁ := gc₁
  have gb₁ : ∀ b₁, b₁ ≠ x₁ + 1 → b₁ ≠ x₁ + 52 → J4₁ b₁ = J3₁ b₁ := gb₁
  have fr4₁ : frD₁ x₁ J4₁ I₁ M4₁ L₁ := frD_t ⟨fun b₁ q1₁ q2₁ => gb₁ b₁ q1₁ (by omega), fun b₁ q1₁ _ => gM₁ b₁ q1₁, fun y₁ _ => by rw [gb₁ _ (by omega) (by omega)], fun b₁ q₁ => by rw [gb₁ b₁ (by omega) (by omega)]⟩ fr3₁
  refine s_at t5₁ td4₁ ?_
  rw [show (0 : Int32) = nI 0 from rfl, tat_in (by omega) (by omega) (by omega) (by omega), show x₁ + 37 + 13 + 2 = x₁ + 52 from rfl, r0₁]
  refine s_at t5₁ td4₁ ?_
  rw [show (1 : Int32) = nI 1 from rfl, tat_in (by omega) (by omega) (by omega) (by omega), show x₁ + 37 + 13 + 2 = x₁ + 52 from rfl, r1₁]
  have b4₁ : ∀ b₁, b₁ ≠ x₁ + 1 → b₁ ≠ x₁ + 50 → b₁ ≠ x₁ + 52 → J4₁ b₁ = J2₁ b₁ := fun b₁ q1₁ q2₁ q3₁ => by rw [gb₁ b₁ q1₁ q3₁, b3₁ b₁ q2₁ q3₁]
  have l4₁ : ∀ b₁, b₁ ≠ x₁ + 1 → b₁ ≠ x₁ + 51 → M4₁ b₁ = M2₁ b₁ := fun b₁ q1₁ q2₁ => by rw [gM₁ b₁ q1₁, l3₁ b₁ q2₁]
  have cell4 : ∀ y₁, y₁ < w₁ * 21 → J4₁ (x₁ + 52) y₁ = J2₁ (x₁ + 52) y₁ := fun y₁ hy₁ => by rw [gc₁ y₁ (by omega) (by omega), c3₁ y₁ (by omega)]
  refine s_isPlaceTaken (U₁ := U₁) (NM₁ := NM₁) hu₁ hW₁ (d2₁.2.2.1.fr (b4₁ _ (by omega) (by omega) (by omega)) (b4₁ _ (by omega) (by omega) (by omega)) (l4₁ _ (by omega) (by omega))) (d2₁.2.2.2.2.1.fr (b4₁ _ (by omega) (by omega) (by omega)) (b4₁ _ (by omega) (by omega) (by omega)) (l4₁ _ (by omega) (by omega))) (by rw [hw₁]; exact td4₁) hv₁ (fun k₁ hk₁ => ?_) ?_ ?_
  · have r₁ := d2₁.2.2.2.2.2.2 k₁ hk₁
    show J4₁ (x₁ + 52) _ = _ ∧ J4₁ (x₁ + 52) _ = _ ∧ J4₁ (x₁ + 52) _ = _
    rw [cell4 _ (by omega), cell4 _ (by omega), cell4 _ (by omega)]
    exact ⟨r₁.1, r₁.2.1, r₁.2.2.1⟩
  · show J4₁ (x₁ + 52) _ = _
    rw [hw₁, gc₁ _ (by omega) (by omega), e32₁]
  have st₁ : ∀ k₁, rngS U₁ (nI v₁) (nI (tkV₁ B₁ n₁ ((tkN₁ B₁ n₁ lm₁ (tkN₁ B₁ n₁ lm₁ (p₁)))))) (nI (tkV₁ B₁ n₁ ((tkN₁ B₁ n₁ lm₁ (tkN₁ B₁ n₁ lm₁ (tkN₁ B₁ n₁ lm₁ (p₁))))))) = k₁ → pWhere B₁ n₁ lm₁ U₁ NM₁ p₁ = if k₁ = false then .inl (3, tkS₁ B₁ n₁ lm₁ ((tkN₁ B₁ n₁ lm₁ (tkN₁ B₁ n₁ lm₁ (tkN₁ B₁ n₁ lm₁ (p₁)))))) else pExpr B₁ n₁ lm₁ NM₁ w₁ (whU₁ U₁ w₁ (nI v₁) (nI (tkV₁ B₁ n₁ ((tkN₁ B₁ n₁ lm₁ (tkN₁ B₁ n₁ lm₁ (p₁)))))) (nI (tkV₁ B₁ n₁ ((tkN₁ B₁ n₁ lm₁ (tkN₁ B₁ n₁ lm₁ (tkN₁ B₁ n₁ lm₁ (p₁)))))))) ((tkN₁ B₁ n₁ lm₁ (tkN₁ B₁ n₁ lm₁ (tkN₁ B₁ n₁ lm₁ (tkN₁ B₁ n₁ lm₁ (p₁)))))) := fun k₁ hk₁ => by
    rw [pWhere, if_neg e₁, pTold, if_neg k1₁, if_neg k2₁, pNum, if_neg (fun z₁ => z₁ e3₁), pNum, if_neg (fun z₁ => z₁ e4₁), ev₁, hk₁, hw₁]
  refine ⟨fun zr₁ => ?_, fun zr₁ => ⟨hX₁.tok, s_failT (k₁ := 3) tt4₁ (fun J₁ f₁ => ?_)⟩⟩
  case refine_2 =>
    have zr₁ : rngS U₁ (nI v₁) (nI (tkV₁ B₁ n₁ ((tkN₁ B₁ n₁ lm₁ (tkN₁ B₁ n₁ lm₁ (p₁)))))) (nI (tkV₁ B₁ n₁ ((tkN₁ B₁ n₁ lm₁ (tkN₁ B₁ n₁ lm₁ (tkN₁ B₁ n₁ lm₁ (p₁))))))) = false := by simpa using zr₁
    exact hbad _ _ (by rw [st₁ false zr₁, if_pos rfl]; rfl) J₁ M4₁ (flD_f f₁) (frD_t (frD_f f₁) fr4₁)
  have zr₁ : rngS U₁ (nI v₁) (nI (tkV₁ B₁ n₁ ((tkN₁ B₁ n₁ lm₁ (tkN₁ B₁ n₁ lm₁ (p₁)))))) (nI (tkV₁ B₁ n₁ ((tkN₁ B₁ n₁ lm₁ (tkN₁ B₁ n₁ lm₁ (tkN₁ B₁ n₁ lm₁ (p₁))))))) = true := by simpa using zr₁
  have st₁ := st₁ true zr₁
  rw [if_neg (by decide)] at st₁
  refine s_put (c₁ := 2) t5₁ td4₁ (by omega) (by decide) (s_put (n₁ := w₁ + 1) (c₁ := 4) t5₁ (td4₁.fr (mup_ne (by omega))) (by omega) (by decide) ⟨hX₁.tok, ?_⟩)
  generalize hG5₁ : mup (mup J4₁ (x₁ + 37 + 13 + 2) (w₁ * 21 + 2) (nI v₁)) (x₁ + 37 + 13 + 2) (w₁ * 21 + 4) (nI 0) = J5₁
  have b5₁ : ∀ b₁, b₁ ≠ x₁ + 52 → J5₁ b₁ = J4₁ b₁ := fun b₁ q₁ => by rw [← hG5₁, mup_ne q₁, mup_ne q₁]
  have c5₁ : ∀ y₁, y₁ ≠ w₁ * 21 + 2 → y₁ ≠ w₁ * 21 + 4 → J5₁ (x₁ + 52) y₁ = J4₁ (x₁ + 52) y₁ := fun y₁ q1₁ q2₁ => by rw [← hG5₁, show x₁ + 37 + 13 + 2 = x₁ + 52 from rfl, mup_k q2₁, mup_k q1₁]
  have e52₁ : J5₁ (x₁ + 52) (w₁ * 21 + 2) = nI v₁ := by rw [← hG5₁, show x₁ + 37 + 13 + 2 = x₁ + 52 from rfl, mup_k (by omega), mup_at]
  have e54₁ : J5₁ (x₁ + 52) (w₁ * 21 + 4) = nI 0 := by rw [← hG5₁]; exact mup_at
  clear hG5₁
  have tt5₁ : TCS₁ K₁ N₁ R₁ J5₁ M4₁ (x₁ + 1) B₁ n₁ lm₁ ((tkN₁ B₁ n₁ lm₁ (tkN₁ B₁ n₁ lm₁ (tkN₁ B₁ n₁ lm₁ (p₁))))) := TCS_fr tt4₁ (b5₁ _ (by omega)) (fun y₁ _ _ => by rw [b5₁ _ (by omega)]) rfl
  refine s_next tt5₁ (fun J6₁ M6₁ t6₁ f6₁ => s_wordHere t6₁ ?_)
  have b6₁ : ∀ b₁, b₁ ≠ x₁ + 1 → b₁ ≠ x₁ + 50 → b₁ ≠ x₁ + 52 → J6₁ b₁ = J2₁ b₁ := fun b₁ q1₁ q2₁ q3₁ => by rw [f6₁.1 b₁ q1₁, b5₁ b₁ q3₁, b4₁ b₁ q1₁ q2₁ q3₁]
  have l6₁ : ∀ b₁, b₁ ≠ x₁ + 1 → b₁ ≠ x₁ + 51 → M6₁ b₁ = M2₁ b₁ := fun b₁ q1₁ q2₁ => by rw [f6₁.2.2 b₁ q1₁, l4₁ b₁ q1₁ q2₁]
  have c6₁ : ∀ y₁, J6₁ (x₁ + 52) y₁ = J5₁ (x₁ + 52) y₁ := fun y₁ => by rw [f6₁.1 _ (by omega)]
  have td6₁ : TD J6₁ (x₁ + 50) 16 21 (w₁ + 1) := (td4₁.fr (b5₁ _ (by omega))).fr (f6₁.1 _ (by omega))
  have fr6₁ : frD₁ x₁ J6₁ I₁ M6₁ L₁ := frD_t (frD_K f6₁) (frD_t ⟨fun b₁ q1₁ q2₁ => b5₁ b₁ (by omega), fun _ _ _ => rfl, fun y₁ _ => by rw [b5₁ _ (by omega)], fun b₁ q₁ => by rw [b5₁ b₁ (by omega)]⟩ fr4₁)
  have h610 : J6₁ (x₁ + 1) 10 = I₁ (x₁ + 1) 10 := by rw [frK_10 f6₁, b5₁ _ (by omega), g10₁, b3₁ _ (by omega) (by omega), frK_10 f2₁, frK_10 f1₁]
  -- the₁ end of₁ it₁, for₁ either way₁
  have fin₁ : ∀ (U'₁ : Nat → Int32) (p'₁ : Nat) (J₁ : MI) (M₁ : ML), pWhere B₁ n₁ lm₁ U₁ NM₁ p₁ = .inr (U'₁, NM₁, p'₁) → TCS₁ K₁ N₁ R₁ J₁ M₁ (x₁ + 1) B₁ n₁ lm₁ p'₁ → frO₁ x₁ w₁ J₁ J6₁ M₁ M6₁ → TD J₁ (x₁ + 50) 16 21 (w₁ + 1) → U'₁ 5 = nI (w₁ + 1) → (∀ k₁, k₁ ≠ 5 → k₁ ≠ 134 + w₁ → k₁ ≠ 150 + w₁ → k₁ ≠ 166 + w₁ → k₁ ≠ 182 + w₁ → k₁ ≠ 198 + w₁ → (k₁ < 214 + 8 * w₁ ∨ 222 + 8 * w₁ ≤ k₁) → U'₁ k₁ = U₁ k₁) → U'₁ (134 + w₁) = nI v₁ → U'₁ (150 + w₁) = nI (tkV₁ B₁ n₁ ((tkN₁ B₁ n₁ lm₁ (tkN₁ B₁ n₁ lm₁ (p₁))))) → U'₁ (166 + w₁) = nI (tkV₁ B₁ n₁ ((tkN₁ B₁ n₁ lm₁ (tkN₁ B₁ n₁ lm₁ (tkN₁ B₁ n₁ lm₁ (p₁)))))) →
      ((U'₁ (182 + w₁) = 2 ∧ ∃ r₁, r₁ < 8 ∧ U'₁ (198 + w₁) = nI r₁) ∨ ((U'₁ (182 + w₁) = 0 ∨ U'₁ (182 + w₁) = 1) ∧ ∃ c₁, c₁ ≤ 8 ∧ U'₁ (198 + w₁) = nI c₁ ∧ opW₁ (fun j₁ => U'₁ (214 + 8 * w₁ + j₁)) c₁)) → plR (fun j₁ => J₁ (x₁ + 52) (w₁ * 21 + j₁)) (U'₁ (182 + w₁)) (U'₁ (198 + w₁)) (fun j₁ => U'₁ (214 + 8 * w₁ + j₁)) → J₁ (x₁ + 1) 10 = J6₁ (x₁ + 1) 10 → Q₁ true J₁ M₁ := by
    intro U'₁ p'₁ J₁ M₁ hp₁ ht₁ hf₁ td₁ e5'₁ eo'₁ a1₁ a2₁ a3₁ hop₁ hpl₁ h10₁
    have b2₁ : ∀ b₁, x₁ + 37 ≤ b₁ → b₁ < x₁ + 50 → J₁ b₁ = J2₁ b₁ := fun b₁ q1₁ q2₁ => by rw [hf₁.1 b₁ (by omega) (by omega) (by omega), b6₁ b₁ (by omega) (by omega) (by omega)]
    have l2₁ : ∀ b₁, x₁ + 37 ≤ b₁ → b₁ < x₁ + 50 → M₁ b₁ = M2₁ b₁ := fun b₁ q1₁ q2₁ => by rw [hf₁.2.1 b₁ (by omega), l6₁ b₁ (by omega) (by omega)]
    refine hok₁ U'₁ NM₁ p'₁ hp₁ J₁ M₁ ⟨ht₁, UD_wh d2₁ hW₁ hw₁ hc₁ e5'₁ eo'₁ b2₁ l2₁ td₁ (fun y₁ hy₁ => ?_) ?_ ?_ ?_ hpl₁, WFU_wh hW₁ hw₁ hc₁ e5'₁ eo'₁ a1₁ hv₁ a2₁ a3₁ (by omega) v2₁ hop₁, NOK_cg hN₁ (eo'₁ 2 (by decide) (by omega) (by omega) (by omega) (by omega) (by omega) (by omega)) (eo'₁ 3 (by decide) (by omega) (by omega) (by omega) (by omega) (by omega) (by omega)) (eo'₁ 4 (by decide) (by omega) (by omega) (by omega) (by omega) (by omega) (by omega))⟩ (frD_t (frO_D hf₁) fr6₁) (by rw [h10₁, h610])
    · rw [hf₁.2.2.2 y₁ (by omega), c6₁, c5₁ y₁ (by omega) (by omega), cell4 y₁ hy₁]
    · rw [hf₁.2.2.2 _ (by omega), c6₁, c5₁ _ (by omega) (by omega), r0₁, a2₁]
    · rw [hf₁.2.2.2 _ (by omega), c6₁, c5₁ _ (by omega) (by omega), r1₁, a3₁]
    · rw [hf₁.2.2.2 _ (by omega), c6₁, e52₁, a1₁]
  have wh_o : ∀ k₁, k₁ ≠ 134 + w₁ → k₁ ≠ 150 + w₁ → k₁ ≠ 166 + w₁ → whU₁ U₁ w₁ (nI v₁) (nI (tkV₁ B₁ n₁ ((tkN₁ B₁ n₁ lm₁ (tkN₁ B₁ n₁ lm₁ (p₁)))))) (nI (tkV₁ B₁ n₁ ((tkN₁ B₁ n₁ lm₁ (tkN₁ B₁ n₁ lm₁ (tkN₁ B₁ n₁ lm₁ (p₁))))))) k₁ = U₁ k₁ := fun k₁ q1₁ q2₁ q3₁ => by rw [whU₁, vst_n q3₁, vst_n q2₁, vst_n q1₁]
  have wh1₁ : whU₁ U₁ w₁ (nI v₁) (nI (tkV₁ B₁ n₁ ((tkN₁ B₁ n₁ lm₁ (tkN₁ B₁ n₁ lm₁ (p₁)))))) (nI (tkV₁ B₁ n₁ ((tkN₁ B₁ n₁ lm₁ (tkN₁ B₁ n₁ lm₁ (tkN₁ B₁ n₁ lm₁ (p₁))))))) (134 + w₁) = nI v₁ := by rw [whU₁, vst_n (by omega), vst_n (by omega), vst_a]
  have wh2₁ : whU₁ U₁ w₁ (nI v₁) (nI (tkV₁ B₁ n₁ ((tkN₁ B₁ n₁ lm₁ (tkN₁ B₁ n₁ lm₁ (p₁)))))) (nI (tkV₁ B₁ n₁ ((tkN₁ B₁ n₁ lm₁ (tkN₁ B₁ n₁ lm₁ (tkN₁ B₁ n₁ lm₁ (p₁))))))) (150 + w₁) = nI (tkV₁ B₁ n₁ ((tkN₁ B₁ n₁ lm₁ (tkN₁ B₁ n₁ lm₁ (p₁))))) := by rw [whU₁, vst_n (by omega), vst_a]
  have wh3₁ : whU₁ U₁ w₁ (nI v₁) (nI (tkV₁ B₁ n₁ ((tkN₁ B₁ n₁ lm₁ (tkN₁ B₁ n₁ lm₁ (p₁)))))) (nI (tkV₁ B₁ n₁ ((tkN₁ B₁ n₁ lm₁ (tkN₁ B₁ n₁ lm₁ (tkN₁ B₁ n₁ lm₁ (p₁))))))) (166 + w₁) = nI (tkV₁ B₁ n₁ ((tkN₁ B₁ n₁ lm₁ (tkN₁ B₁ n₁ lm₁ (tkN₁ B₁ n₁ lm₁ (p₁)))))) := by rw [whU₁, vst_a]
  generalize whU₁ U₁ w₁ (nI v₁) (nI (tkV₁ B₁ n₁ ((tkN₁ B₁ n₁ lm₁ (tkN₁ B₁ n₁ lm₁ (p₁)))))) (nI (tkV₁ B₁ n₁ ((tkN₁ B₁ n₁ lm₁ (tkN₁ B₁ n₁ lm₁ (tkN₁ B₁ n₁ lm₁ (p₁))))))) = U1₁ at st₁ wh_o wh1₁ wh2₁ wh3₁
  have pl0₁ : ∀ code : Nat → Int32, PLC₁ J6₁ x₁ w₁ 0 code := fun code => ⟨td6₁, by rw [c6₁, e54₁], fun j₁ hj₁ => absurd hj₁ (Nat.not_lt_zero j₁)⟩
  have h8₁ : whS₁ B₁ n₁ lm₁ ((tkN₁ B₁ n₁ lm₁ (tkN₁ B₁ n₁ lm₁ (tkN₁ B₁ n₁ lm₁ (tkN₁ B₁ n₁ lm₁ (p₁)))))) = nI 8 ↔ isWd B₁ n₁ lm₁ ((tkN₁ B₁ n₁ lm₁ (tkN₁ B₁ n₁ lm₁ (tkN₁ B₁ n₁ lm₁ (tkN₁ B₁ n₁ lm₁ (p₁)))))) 7 = true := whS_iff (c₁ := 8) (by decide)
  refine ⟨fun z₁ => ?_, fun z₁ => ?_⟩
  · have n7₁ : isWd B₁ n₁ lm₁ ((tkN₁ B₁ n₁ lm₁ (tkN₁ B₁ n₁ lm₁ (tkN₁ B₁ n₁ lm₁ (tkN₁ B₁ n₁ lm₁ (p₁)))))) 7 = false := by
      cases q₁ : isWd B₁ n₁ lm₁ ((tkN₁ B₁ n₁ lm₁ (tkN₁ B₁ n₁ lm₁ (tkN₁ B₁ n₁ lm₁ (tkN₁ B₁ n₁ lm₁ (p₁)))))) 7
      · rfl
      · exact absurd (h8₁.mpr q₁) z₁
    rw [pExpr, if_neg (by rw [n7₁]; decide)] at st₁
    refine s_readOps (U₁ := vst₁ (vst₁ U1₁ (198 + w₁) 0) (182 + w₁) 0) (NM₁ := NM₁) hX₁ hc₁ t6₁ (pl0₁ _) (by rw [vst_a]) n7₁ (fun k₁ pl₁ hb₁ J₁ M₁ fl₁ fr₁ => hbad k₁ pl₁ (by rw [st₁]; exact hb₁) J₁ M₁ fl₁ (frD_t (frO_D fr₁) fr6₁)) (fun U2₁ c2₁ k₁ p'₁ he₁ hk₁ hop₁ hc2₁ hx₁ J₁ M₁ tJ₁ pJ₁ e3J₁ fJ₁ h10₁ => ?_)
    have x2₁ : ∀ j₁, j₁ ≠ 198 + w₁ → j₁ ≠ 182 + w₁ → (j₁ < 214 + 8 * w₁ ∨ 222 + 8 * w₁ ≤ j₁) → U2₁ j₁ = U1₁ j₁ := fun j₁ q1₁ q2₁ q3₁ => by rw [hx₁.1 j₁ q1₁ q3₁, vst_n q2₁, vst_n q1₁]
    have code2 : (fun j₁ => vst₁ (vst₁ U2₁ (182 + w₁) (nI k₁)) 5 (nI (w₁ + 1)) (214 + 8 * w₁ + j₁)) = fun j₁ => U2₁ (214 + 8 * w₁ + j₁) := funext (fun j₁ => by rw [vst_n (by omega), vst_n (by omega)])
    have e182 : vst₁ (vst₁ U2₁ (182 + w₁) (nI k₁)) 5 (nI (w₁ + 1)) (182 + w₁) = nI k₁ := by rw [vst_n (by omega), vst_a]
    have e198 : vst₁ (vst₁ U2₁ (182 + w₁) (nI k₁)) 5 (nI (w₁ + 1)) (198 + w₁) = nI c2₁ := by rw [vst_n (by omega), vst_n (by omega), hx₁.2]
    have kk₁ : nI k₁ = 0 ∨ nI k₁ = 1 := by
      obtain rfl | rfl : k₁ = 0 ∨ k₁ = 1 := by omega
      · exact Or.inl rfl
      · exact Or.inr rfl
    refine fin₁ _ p'₁ J₁ M₁ (by rw [st₁]; exact he₁) tJ₁ fJ₁ pJ₁.1 vst_a (fun j₁ q1₁ q2₁ q3₁ q4₁ q5₁ q6₁ q7₁ => by rw [vst_n q1₁, vst_n q5₁, x2₁ j₁ q6₁ q5₁ q7₁, wh_o j₁ q2₁ q3₁ q4₁]) (by rw [vst_n (by omega), vst_n (by omega), x2₁ _ (by omega) (by omega) (by omega), wh1₁]) (by rw [vst_n (by omega), vst_n (by omega), x2₁ _ (by omega) (by omega) (by omega), wh2₁]) (by rw [vst_n (by omega), vst_n (by omega), x2₁ _ (by omega) (by omega) (by omega), wh3₁]) (Or.inr ⟨by rw [e182]; exact kk₁, c2₁, hc2₁, e198, by rw [code2]; exact hop₁⟩) ?_ h10₁
    rw [code2, e182, e198]
    refine Or.inr ⟨kk₁, e3J₁, pJ₁.2.1, fun j₁ hj₁ => ?_⟩
    rw [ix_nI (by omega)] at hj₁
    exact pJ₁.2.2 j₁ hj₁
  · have w7₁ := h8₁.mp z₁
    rw [pExpr, if_pos w7₁, pNum] at st₁
    refine s_readRegister (U₁ := U1₁) hX₁ hc₁ t6₁ (pl0₁ _) (fun e7₁ J₁ M₁ fl₁ fr₁ => hbad _ _ (by rw [st₁, if_pos e7₁]; rfl) J₁ M₁ fl₁ (frD_t (frO_D fr₁) fr6₁)) (fun e7₁ hr₁ J₁ M₁ tJ₁ tdJ₁ c3J₁ c4J₁ c5J₁ c6J₁ fJ₁ h10₁ => ?_)
    rw [if_neg (fun q₁ => q₁ e7₁)] at st₁
    have e182 : vst₁ (vst₁ (vst₁ (vst₁ U1₁ (198 + w₁) 0) (182 + w₁) 2) (198 + w₁) (nI (tkV₁ B₁ n₁ (tkN₁ B₁ n₁ lm₁ ((tkN₁ B₁ n₁ lm₁ (tkN₁ B₁ n₁ lm₁ (tkN₁ B₁ n₁ lm₁ (tkN₁ B₁ n₁ lm₁ (p₁)))))))))) 5 (nI (w₁ + 1)) (182 + w₁) = 2 := by rw [vst_n (by omega), vst_n (by omega), vst_a]
    have e198 : vst₁ (vst₁ (vst₁ (vst₁ U1₁ (198 + w₁) 0) (182 + w₁) 2) (198 + w₁) (nI (tkV₁ B₁ n₁ (tkN₁ B₁ n₁ lm₁ ((tkN₁ B₁ n₁ lm₁ (tkN₁ B₁ n₁ lm₁ (tkN₁ B₁ n₁ lm₁ (tkN₁ B₁ n₁ lm₁ (p₁)))))))))) 5 (nI (w₁ + 1)) (198 + w₁) = nI (tkV₁ B₁ n₁ (tkN₁ B₁ n₁ lm₁ ((tkN₁ B₁ n₁ lm₁ (tkN₁ B₁ n₁ lm₁ (tkN₁ B₁ n₁ lm₁ (tkN₁ B₁ n₁ lm₁ (p₁)))))))) := by rw [vst_n (by omega), vst_a]
    have eo₁ : ∀ j₁, j₁ ≠ 5 → j₁ ≠ 198 + w₁ → j₁ ≠ 182 + w₁ → vst₁ (vst₁ (vst₁ (vst₁ U1₁ (198 + w₁) 0) (182 + w₁) 2) (198 + w₁) (nI (tkV₁ B₁ n₁ (tkN₁ B₁ n₁ lm₁ ((tkN₁ B₁ n₁ lm₁ (tkN₁ B₁ n₁ lm₁ (tkN₁ B₁ n₁ lm₁ (tkN₁ B₁ n₁ lm₁ (p₁)))))))))) 5 (nI (w₁ + 1)) j₁ = U1₁ j₁ := fun j₁ q1₁ q2₁ q3₁ => by rw [vst_n q1₁, vst_n q2₁, vst_n q3₁, vst_n q2₁]
    refine fin₁ _ _ J₁ M₁ st₁ tJ₁ fJ₁ tdJ₁ vst_a (fun j₁ q1₁ q2₁ q3₁ q4₁ q5₁ q6₁ q7₁ => by rw [eo₁ j₁ q1₁ q6₁ q5₁, wh_o j₁ q2₁ q3₁ q4₁]) (by rw [eo₁ _ (by omega) (by omega) (by omega), wh1₁]) (by rw [eo₁ _ (by omega) (by omega) (by omega), wh2₁]) (by rw [eo₁ _ (by omega) (by omega) (by omega), wh3₁]) (Or.inl ⟨e182, _, by omega, e198⟩) ?_ h10₁
    rw [e182, e198]
    exact Or.inl ⟨rfl, c3J₁, c4J₁, c5J₁, c6J₁⟩
end UN₁
