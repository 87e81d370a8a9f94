/-! ===== 'var' lines: the class ===== -/
section UN₁
variable {K₁ N₁ : MK} {I₁ : MI} {L₁ : ML} {R₁ : MR} {n₁ lm₁ p₁ x₁ u₁ : Nat} {B₁ : Nat → Nat} {U₁ : Nat → Int32} {NM₁ : Nat → List Nat}
theorem s_readVar {Q₁ : Bool → MI → ML → Prop} (hX₁ : PDL K₁ N₁ R₁ x₁) (hS₁ : DSC₁ K₁ N₁ R₁ I₁ L₁ x₁ B₁ n₁ lm₁ U₁ NM₁ p₁)
    (hbad : ∀ k₁ pl₁, pVar B₁ n₁ lm₁ U₁ NM₁ p₁ = .inl (k₁, pl₁) → ∀ J₁ M₁, flD₁ x₁ k₁ pl₁ J₁ → frD₁ x₁ J₁ I₁ M₁ L₁ → Q₁ false J₁ M₁)
    (hok₁ : ∀ U'₁ NM'₁ p'₁, pVar B₁ n₁ lm₁ U₁ NM₁ p₁ = .inr (U'₁, NM'₁, p'₁) → ∀ J₁ M₁, DSC₁ K₁ N₁ R₁ J₁ M₁ x₁ B₁ n₁ lm₁ U'₁ NM'₁ p'₁ → frD₁ x₁ J₁ I₁ M₁ L₁ → J₁ (x₁ + 1) 10 = I₁ (x₁ + 1) 10 → Q₁ true J₁ M₁) : w_X10_readVar (x₁ + 36) (x₁ + 1) K₁ N₁ I₁ L₁ R₁ Q₁ := by
  obtain ⟨hT₁, hD₁, hW₁, hN₁⟩ := hS₁
  have hU₁ := hW₁.1
  have n4₁ := hU₁.2.2.2.1.2
  have n2₁ := hU₁.2.1.2
  have n3₁ := hU₁.2.2.1.2
  have hu₁ := hX₁.urd_u
  have t2₁ := hu₁.2.2.2.2.2.2.2.1
  have tt3₁ := hu₁.2.2.2.2.2.2.2.2.1
  have t4₁ := hu₁.2.2.2.2.2.2.2.2.2.1
  have d4₁ := hD₁.2.2.2.2.1
  delta w_X10_readVar
  refine ⟨hX₁.urd, _, hX₁.urd_r, hu₁.1, _, hu₁.2.2.2.2.1, t4₁.1, fun v6₁ g6₁ => s_beginSort hT₁ t4₁ d4₁.1 (fun e₁ J₁ f₁ => ⟨fun _ => ?_, fun y₁ => absurd y₁ (by decide)⟩) (fun e₁ J1₁ M1₁ t1₁ f1₁ => ⟨fun y₁ => absurd y₁ (by decide), fun _ => ?_⟩)⟩
  · exact hbad _ _ (by rw [pVar, if_pos e₁]) J₁ L₁ (flD_f f₁) (frD_f f₁)
  rw [d4₁.1.2.1] at g6₁
  subst g6₁
  have d1₁ := UD_K hD₁ f1₁
  have hc₁ : ix (U₁ 4) < 10 := by omega
  refine s_readNewName (x₁ := x₁) hX₁ t1₁ d1₁ hN₁ t4₁ d1₁.2.2.2.2.1.1 hc₁ (by omega) (fun e1₁ J₁ f₁ => ⟨fun y₁ => absurd y₁ (by decide), fun _ => ?_⟩) (fun e1₁ e2₁ J₁ f₁ => ⟨fun y₁ => absurd y₁ (by decide), fun _ => ?_⟩) (fun e1₁ e2₁ hw₁ J2₁ M2₁ tt₁ td₁ en₁ fb₁ fM₁ fn₁ f10₁ => ⟨fun _ => ⟨_, hu₁.2.2.1, ?_⟩, fun y₁ => absurd y₁ (by decide)⟩)
  · exact hbad _ _ (by rw [pVar, if_neg e₁, pNew, if_pos e1₁]) J₁ M1₁ (flD_f f₁) (frD_t (frD_f f₁) (frD_K f1₁))
  · exact hbad _ _ (by rw [pVar, if_neg e₁, pNew, if_neg (by rw [e1₁]; decide), if_pos e2₁]) J₁ M1₁ (flD_f f₁) (frD_t (frD_f f₁) (frD_K f1₁))
  have k1₁ : ¬ isNm B₁ n₁ lm₁ ((tkN₁ B₁ n₁ lm₁ (p₁))) = false := by rw [e1₁]; decide
  have k2₁ : ¬ tdN₁ U₁ NM₁ (tkW₁ B₁ n₁ ((tkN₁ B₁ n₁ lm₁ (p₁)))) = true := by rw [e2₁]; decide
  have fr2₁ : frD₁ x₁ J2₁ I₁ M2₁ L₁ := frD_t ⟨fun b₁ q1₁ q2₁ => fb₁ b₁ q1₁ (by omega), fun b₁ q1₁ q2₁ => fM₁ b₁ q1₁ (by omega), fun y₁ _ => by rw [fb₁ _ (by omega) (by omega)], fun b₁ q₁ => by
      by_cases z₁ : b₁ = x₁ + 47
      · rw [z₁]; exact td₁.1.trans d1₁.2.2.2.2.1.1.1.symm
      · rw [fb₁ b₁ (by omega) (by omega)]⟩ (frD_K f1₁)
  obtain ⟨a0₁, a1₁, a2₁, a3₁, a4₁, a5₁⟩ := d1₁
  refine s_readToldName (b₁ := 0) (NM₁ := NM₁) tt₁ t2₁ (a2₁.1.fr (fb₁ _ (by omega) (by omega))) hN₁.1 (fun k₁ hk₁ => by rw [fM₁ _ (by omega) (by omega), Nat.zero_add]; exact nm_of (by have := hN₁.1 k₁ hk₁; rw [Nat.zero_add] at this; exact this) (a2₁.2 k₁ hk₁).2.2.2.2) (fun e3₁ J₁ f₁ => ⟨fun y₁ => absurd rfl y₁, fun _ => ?_⟩) (fun e3₁ e4₁ J₁ f₁ => ⟨fun y₁ => absurd rfl y₁, fun _ => ?_⟩) (fun e3₁ s₁ es₁ hs₁ J3₁ M3₁ t3₁ f3₁ => ⟨fun _ => ⟨_, hu₁.2.2.2.1, ?_⟩, fun y₁ => absurd y₁ (m1_ne (by omega))⟩)
  · exact hbad _ _ (by rw [pVar, if_neg e₁, pNew, if_neg k1₁, if_neg k2₁, pTold, if_pos e3₁]) J₁ M2₁ (flD_f f₁) (frD_t (frD_f f₁) fr2₁)
  · exact hbad _ _ (by rw [pVar, if_neg e₁, pNew, if_neg k1₁, if_neg k2₁, pTold, if_neg (by rw [e3₁]; decide), if_pos e4₁]) J₁ M2₁ (flD_f f₁) (frD_t (frD_f f₁) fr2₁)
  have fr3₁ := frD_t (frD_K f3₁) fr2₁
  have k3₁ : ¬ isNm B₁ n₁ lm₁ ((tkN₁ B₁ n₁ lm₁ (tkN₁ B₁ n₁ lm₁ (p₁)))) = false := by rw [e3₁]; decide
  have k4₁ : ¬ fndS NM₁ 0 (ix (U₁ 2)) (tkW₁ B₁ n₁ ((tkN₁ B₁ n₁ lm₁ (tkN₁ B₁ n₁ lm₁ (p₁))))) = -1 := by rw [es₁]; exact m1_ne (by omega)
  have td3₁ := td₁.fr (f3₁.1 (x₁ + 37 + 10) (by omega))
  have puts : ∀ (J₁ : MI) (r₁ : Int32), TD J₁ (x₁ + 37 + 10) 10 2 (ix (U₁ 4) + 1) → ∀ P₁ : MI → Prop, P₁ (mup (mup J₁ (x₁ + 37 + 10 + 2) (ix (U₁ 4) * 2 + 0) (nI s₁)) (x₁ + 37 + 10 + 2) (ix (U₁ 4) * 2 + 1) r₁) → ∀ M₁ : ML, w_X7_put (x₁ + 37 + 10) (nI (ix (U₁ 4))) 0 (nI s₁) K₁ N₁ J₁ M₁ R₁ (fun I21₁ => w_X7_put (x₁ + 37 + 10) (nI (ix (U₁ 4))) 1 r₁ K₁ N₁ I21₁ M₁ R₁ P₁) := fun J₁ r₁ hd₁ P₁ hP₁ M₁ =>
    s_put (c₁ := 0) t4₁ hd₁ (by omega) (by decide) (s_put (n₁ := ix (U₁ 4) + 1) (c₁ := 1) t4₁ (hd₁.fr (mup_ne (by omega))) (by omega) (by decide) hP₁)
  have frP₁ : ∀ (J₁ : MI) (v₁ w₁ : Int32) (M₁ : ML), frD₁ x₁ (mup (mup J₁ (x₁ + 37 + 10 + 2) (ix (U₁ 4) * 2 + 0) v₁) (x₁ + 37 + 10 + 2) (ix (U₁ 4) * 2 + 1) w₁) J₁ M₁ M₁ := fun J₁ v₁ w₁ M₁ => ⟨fun b₁ q1₁ q2₁ => by rw [mup_ne (by omega), mup_ne (by omega)], fun _ _ _ => rfl, fun y₁ _ => by rw [mup_ne (by omega), mup_ne (by omega)], fun b₁ q₁ => by rw [mup_ne (by omega), mup_ne (by omega)]⟩
  have flP₁ : ∀ (J₁ : MI) (v₁ w₁ : Int32) (k₁ pl₁ : Nat), flD₁ x₁ k₁ pl₁ J₁ → flD₁ x₁ k₁ pl₁ (mup (mup J₁ (x₁ + 37 + 10 + 2) (ix (U₁ 4) * 2 + 0) v₁) (x₁ + 37 + 10 + 2) (ix (U₁ 4) * 2 + 1) w₁) := fun J₁ v₁ w₁ k₁ pl₁ h₁ => ⟨by rw [mup_ne (by omega), mup_ne (by omega)]; exact h₁.1, by rw [mup_ne (by omega), mup_ne (by omega)]; exact h₁.2⟩
  refine s_readToldName (b₁ := 10) (NM₁ := NM₁) t3₁ tt3₁ ((a3₁.1.fr (fb₁ _ (by omega) (by omega))).fr (f3₁.1 _ (by omega))) hN₁.2.1 (fun k₁ hk₁ => by rw [f3₁.2.2 _ (by omega), fM₁ _ (by omega) (by omega)]; exact nm_of (hN₁.2.1 k₁ hk₁) (a3₁.2 k₁ hk₁).2.2.2) (fun e5₁ J₁ f₁ => ?_) (fun e5₁ e6₁ J₁ f₁ => ?_) (fun e5₁ ty₁ ety₁ hty₁ J4₁ M4₁ t5₁ f4₁ => ?_)
  · refine puts J₁ (-1) (td3₁.fr (f₁.2.2.1 _ (by omega))) _ ⟨fun _ => ?_, fun y₁ => absurd rfl y₁⟩ M3₁
    exact hbad _ _ (by rw [pVar, if_neg e₁, pNew, if_neg k1₁, if_neg k2₁, pTold, if_neg k3₁, if_neg k4₁, pTold, if_pos e5₁]) _ M3₁ (flP₁ _ _ _ _ _ (flD_f f₁)) (frD_t (frP₁ _ _ _ _) (frD_t (frD_f f₁) fr3₁))
  · refine puts J₁ (-1) (td3₁.fr (f₁.2.2.1 _ (by omega))) _ ⟨fun _ => ?_, fun y₁ => absurd rfl y₁⟩ M3₁
    exact hbad _ _ (by rw [pVar, if_neg e₁, pNew, if_neg k1₁, if_neg k2₁, pTold, if_neg k3₁, if_neg k4₁, pTold, if_neg (by rw [e5₁]; decide), if_pos e6₁]) _ M3₁ (flP₁ _ _ _ _ _ (flD_f f₁)) (frD_t (frP₁ _ _ _ _) (frD_t (frD_f f₁) fr3₁))
  · refine puts J4₁ (nI ty₁) (td3₁.fr (f4₁.1 _ (by omega))) _ ⟨fun y₁ => absurd y₁ (m1_ne (by omega)), fun _ => ?_⟩ M4₁
    have hp₁ : pVar B₁ n₁ lm₁ U₁ NM₁ p₁ = .inr (vaU₁ U₁ (ix (U₁ 4)) (nI s₁) (nI ty₁), nmU₁ NM₁ (16 + ix (U₁ 4)) (tkW₁ B₁ n₁ ((tkN₁ B₁ n₁ lm₁ (p₁)))), (tkN₁ B₁ n₁ lm₁ (tkN₁ B₁ n₁ lm₁ (tkN₁ B₁ n₁ lm₁ (tkN₁ B₁ n₁ lm₁ (p₁)))))) := by
      rw [pVar, if_neg e₁, pNew, if_neg k1₁, if_neg k2₁, pTold, if_neg k3₁, if_neg k4₁, pTold, if_neg (by rw [e5₁]; decide), if_neg (by rw [ety₁]; exact m1_ne (by omega)), es₁, ety₁]
    refine hok₁ _ _ _ hp₁ _ M4₁ ⟨TCS_fr t5₁ (by rw [mup_ne (by omega), mup_ne (by omega)]) (fun y₁ _ _ => by rw [mup_ne (by omega), mup_ne (by omega)]) rfl, ?_, WFU_va hW₁ hc₁ hs₁ hty₁, ?_⟩ (frD_t (frP₁ _ _ _ _) (frD_t (frD_K f4₁) fr3₁)) (by rw [mup_ne (by omega), mup_ne (by omega), frK_10 f4₁, frK_10 f3₁, f10₁, frK_10 f1₁])
    · have bJ₁ : ∀ b₁, b₁ ≠ x₁ + 1 → b₁ ≠ x₁ + 37 + 10 + 2 → b₁ ≠ x₁ + 37 + 10 → mup (mup J4₁ (x₁ + 37 + 10 + 2) (ix (U₁ 4) * 2 + 0) (nI s₁)) (x₁ + 37 + 10 + 2) (ix (U₁ 4) * 2 + 1) (nI ty₁) b₁ = J1₁ b₁ := fun b₁ q1₁ q2₁ q3₁ => by rw [mup_ne q2₁, mup_ne q2₁, f4₁.1 b₁ q1₁, f3₁.1 b₁ q1₁, fb₁ b₁ q1₁ q3₁]
      have bM₁ : ∀ b₁, b₁ ≠ x₁ + 1 → b₁ ≠ x₁ + 37 + 10 + 1 → M4₁ b₁ = M1₁ b₁ := fun b₁ q1₁ q2₁ => by rw [f4₁.2.2 b₁ q1₁, f3₁.2.2 b₁ q1₁, fM₁ b₁ q1₁ q2₁]
      have eM₁ : M4₁ (x₁ + 37 + 10 + 1) = M2₁ (x₁ + 37 + 10 + 1) := by rw [f4₁.2.2 _ (by omega), f3₁.2.2 _ (by omega)]
      have eo₁ : ∀ k₁, k₁ ≠ 4 → (k₁ < 114 ∨ 134 ≤ k₁) → vaU₁ U₁ (ix (U₁ 4)) (nI s₁) (nI ty₁) k₁ = U₁ k₁ := fun k₁ h1₁ h2₁ => by
        rw [vaU₁, vst_n h1₁, vst_n (by omega), vst_n (by omega)]
      have e4'₁ : ix (vaU₁ U₁ (ix (U₁ 4)) (nI s₁) (nI ty₁) 4) = ix (U₁ 4) + 1 := by rw [vaU₁, vst_a, ix_nI (by omega)]
      refine ⟨by rw [bJ₁ _ (by omega) (by omega) (by omega), a0₁, eo₁ 0 (by decide) (by decide)], ?_, ?_, ?_, ⟨?_, fun k₁ hk₁ => ?_⟩, ?_⟩
      · exact UD1_cg (a1₁.fr (bJ₁ _ (by omega) (by omega) (by omega)) (bJ₁ _ (by omega) (by omega) (by omega))) hU₁.1.2 (eo₁ 1 (by decide) (by decide)) (fun k₁ q1₁ _ => eo₁ k₁ (by omega) (by omega))
      · exact UD2_cg (a2₁.fr (bJ₁ _ (by omega) (by omega) (by omega)) (bJ₁ _ (by omega) (by omega) (by omega)) (bM₁ _ (by omega) (by omega))) n2₁ (eo₁ 2 (by decide) (by decide)) (fun k₁ q1₁ _ => eo₁ k₁ (by omega) (by omega)) (fun k₁ q1₁ => eNM_n (by omega))
      · exact UD3_cg (a3₁.fr (bJ₁ _ (by omega) (by omega) (by omega)) (bJ₁ _ (by omega) (by omega) (by omega)) (bM₁ _ (by omega) (by omega))) n3₁ (eo₁ 3 (by decide) (by decide)) (fun k₁ q1₁ _ => eo₁ k₁ (by omega) (by omega)) (fun k₁ q1₁ _ => eNM_n (by omega))
      · rw [e4'₁]
        exact ((td3₁.fr (f4₁.1 _ (by omega))).fr (mup_ne (by omega))).fr (mup_ne (by omega))
      · rw [e4'₁] at hk₁
        rw [eM₁]
        by_cases z₁ : k₁ = ix (U₁ 4)
        · subst z₁
          rw [eNM_a, mup_k (by omega), mup_at, mup_at, en₁, vaU₁, vst_n (by omega), vst_n (by omega), vst_a, vst_n (by omega), vst_a]
          exact ⟨rfl, rfl, nm_to hw₁⟩
        · have r3₁ := a4₁.2 k₁ (by omega)
          rw [eNM_n (by omega), mup_k (by omega), mup_k (by omega), mup_k (by omega), mup_k (by omega), f4₁.1 _ (by omega), f3₁.1 _ (by omega), fb₁ _ (by omega) (by omega), fn₁ k₁ z₁, vaU₁, vst_n (by omega), vst_n (by omega), vst_n (by omega), vst_n (by omega), vst_n (by omega), vst_n (by omega)]
          exact r3₁
      · exact UD5_cg (a5₁.fr (bJ₁ _ (by omega) (by omega) (by omega)) (bJ₁ _ (by omega) (by omega) (by omega))) hU₁.2.2.2.2.1.2 (WFo_m hU₁.2.2.2.2.1.2 hW₁.2.2.2.2.2.2.2) (eo₁ 5 (by decide) (by decide)) (fun k₁ q1₁ _ => eo₁ k₁ (by omega) (by omega))
    · refine ⟨fun k₁ hk₁ => ?_, fun k₁ hk₁ => ?_, fun k₁ hk₁ => ?_⟩
      · rw [vaU₁, vst_n (by decide), vst_n (by omega), vst_n (by omega)] at hk₁
        rw [nmU_n (by omega)]; exact hN₁.1 k₁ hk₁
      · rw [vaU₁, vst_n (by decide), vst_n (by omega), vst_n (by omega)] at hk₁
        rw [nmU_n (by omega)]; exact hN₁.2.1 k₁ hk₁
      · rw [vaU₁, vst_a, ix_nI (by omega)] at hk₁
        by_cases z₁ : k₁ = ix (U₁ 4)
        · rw [z₁, nmU_a]; exact hw₁
        · rw [nmU_n (by omega)]; exact hN₁.2.2 k₁ (by omega)
end UN₁
