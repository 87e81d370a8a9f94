/-! ===== 'scope', 'type', 'var' lines: the class ===== -/
theorem eNM_n {NM₁ : Nat → List Nat} {k₁ j₁ : Nat} {w₁ : List Nat} (h₁ : j₁ ≠ k₁) : eNM₁ (nmU₁ NM₁ k₁ w₁) j₁ = eNM₁ NM₁ j₁ := by rw [eNM₁, eNM₁, nmU₁, if_neg h₁]
theorem eNM_a {NM₁ : Nat → List Nat} {k₁ : Nat} {w₁ : List Nat} : eNM₁ (nmU₁ NM₁ k₁ w₁) k₁ = encB 27 w₁ := by rw [eNM₁, nmU₁, if_pos rfl]
theorem nmU_n {NM₁ : Nat → List Nat} {k₁ j₁ : Nat} {w₁ : List Nat} (h₁ : j₁ ≠ k₁) : nmU₁ NM₁ k₁ w₁ j₁ = NM₁ j₁ := by rw [nmU₁, if_neg h₁]
theorem nmU_a {NM₁ : Nat → List Nat} {k₁ : Nat} {w₁ : List Nat} : nmU₁ NM₁ k₁ w₁ k₁ = w₁ := by rw [nmU₁, if_pos rfl]
section UN₁
variable {K₁ N₁ : MK} {I₁ : MI} {L₁ : ML} {R₁ : MR} {n₁ lm₁ p₁ x₁ u₁ : Nat} {B₁ : Nat → Nat} {U₁ : Nat → Int32} {NM₁ : Nat → List Nat}
theorem s_rankScope {k₁ : Nat} {f₁ v₁ : Int32} {Q₁ : MI → Prop} (hL₁ : UL K₁ N₁ R₁ u₁) {c₁ : Nat} (hd₁ : TD I₁ (u₁ + 4) 10 4 c₁) (hk₁ : k₁ < c₁) (e0₁ : I₁ (u₁ + 4 + 2) (k₁ * 4 + 0) = f₁) (e1₁ : I₁ (u₁ + 4 + 2) (k₁ * 4 + 1) = v₁)
    (h₁ : Q₁ (mup I₁ (u₁ + 4 + 2) (k₁ * 4 + 3) ((v₁ - f₁ + 1) * 10 - nI k₁))) : w_X9_rankScope u₁ (nI k₁) K₁ N₁ I₁ L₁ R₁ Q₁ := by
  have t2₁ := hL₁.2.2.2.2.2.2.2.1
  have hc₁ := hd₁.2.2
  refine ⟨hL₁.1, _, hL₁.2.2.1, t2₁.1, s_at t2₁ hd₁ ?_⟩
  rw [show (1 : Int32) = nI 1 from rfl, tat_in hk₁ (by omega) (by omega) (by omega), e1₁]
  refine s_at t2₁ hd₁ ?_
  rw [show (0 : Int32) = nI 0 from rfl, tat_in hk₁ (by omega) (by omega) (by omega), e0₁]
  intro v6₁ g6₁
  rw [g6₁]
  exact s_put (c₁ := 3) t2₁ hd₁ hk₁ (by decide) h₁
theorem s_readScope {Q₁ : Bool → MI → ML → Prop} (hX₁ : PDL K₁ N₁ R₁ x₁) (hS₁ : DSC₁ K₁ N₁ R₁ I₁ L₁ x₁ B₁ n₁ lm₁ U₁ NM₁ p₁)
    (hbad : ∀ k₁ pl₁, pScope B₁ n₁ lm₁ U₁ NM₁ p₁ = .inl (k₁, pl₁) → ∀ J₁ M₁, flD₁ x₁ k₁ pl₁ J₁ → frD₁ x₁ J₁ I₁ M₁ L₁ → Q₁ false J₁ M₁)
    (hok₁ : ∀ U'₁ NM'₁ p'₁, pScope B₁ n₁ lm₁ U₁ NM₁ p₁ = .inr (U'₁, NM'₁, p'₁) → ∀ J₁ M₁, DSC₁ K₁ N₁ R₁ J₁ M₁ x₁ B₁ n₁ lm₁ U'₁ NM'₁ p'₁ → frD₁ x₁ J₁ I₁ M₁ L₁ → J₁ (x₁ + 1) 10 = I₁ (x₁ + 1) 10 → Q₁ true J₁ M₁) : w_X10_readScope (x₁ + 36) (x₁ + 1) K₁ N₁ I₁ L₁ R₁ Q₁ := by
  obtain ⟨hT₁, hD₁, hW₁, hN₁⟩ := hS₁
  have hU₁ := hW₁.1
  have n0₁ := hU₁.2.2.2.2.2.2
  have n2₁ := hU₁.2.1.2
  have hu₁ := hX₁.urd_u
  have t2₁ := hu₁.2.2.2.2.2.2.2.1
  have d2₁ := hD₁.2.2.1
  delta w_X10_readScope
  refine ⟨hX₁.urd, _, hX₁.urd_r, hu₁.1, _, hu₁.2.2.1, t2₁.1, fun v6₁ g6₁ => s_beginSort hT₁ t2₁ d2₁.1 (fun e₁ J₁ f₁ => ⟨fun _ => ?_, fun y₁ => absurd y₁ (by decide)⟩) (fun e₁ J1₁ M1₁ t1₁ f1₁ => ⟨fun y₁ => absurd y₁ (by decide), fun _ => ?_⟩)⟩
  · exact hbad _ _ (by rw [pScope, if_pos e₁]) J₁ L₁ (flD_f f₁) (frD_f f₁)
  rw [d2₁.1.2.1] at g6₁
  subst g6₁
  have d1₁ := UD_K hD₁ f1₁
  have hc₁ : ix (U₁ 2) < 10 := by omega
  refine s_readNewName (x₁ := x₁) hX₁ t1₁ d1₁ hN₁ t2₁ d1₁.2.2.1.1 hc₁ (by omega) (fun e1₁ J₁ f₁ => ⟨fun _ => ?_, fun y₁ => absurd y₁ (by decide)⟩) (fun e1₁ e2₁ J₁ f₁ => ⟨fun _ => ?_, fun y₁ => absurd y₁ (by decide)⟩) (fun e1₁ e2₁ hw₁ J2₁ M2₁ tt₁ td₁ en₁ fb₁ fM₁ fn₁ f10₁ => ⟨fun y₁ => absurd y₁ (by decide), fun _ => ?_⟩)
  · exact hbad _ _ (by rw [pScope, if_neg e₁, pNew, if_pos e1₁]) J₁ M1₁ (flD_f f₁) (frD_t (frD_f f₁) (frD_K f1₁))
  · exact hbad _ _ (by rw [pScope, if_neg e₁, pNew, if_neg (by show ¬ isNm B₁ n₁ lm₁ (tkN₁ B₁ n₁ lm₁ p₁) = false; rw [e1₁]; decide), if_pos e2₁]) J₁ M1₁ (flD_f f₁) (frD_t (frD_f f₁) (frD_K f1₁))
  have k1₁ : ¬ isNm B₁ n₁ lm₁ ((tkN₁ B₁ n₁ lm₁ (p₁))) = false := by show ¬ isNm B₁ n₁ lm₁ (tkN₁ B₁ n₁ lm₁ p₁) = false; rw [e1₁]; decide
  have k2₁ : ¬ tdN₁ U₁ NM₁ (tkW₁ B₁ n₁ ((tkN₁ B₁ n₁ lm₁ (p₁)))) = true := by show ¬ tdN₁ U₁ NM₁ (tkW₁ B₁ n₁ (tkN₁ B₁ n₁ lm₁ p₁)) = true; rw [e2₁]; decide
  have fr2₁ : frD₁ x₁ J2₁ I₁ M2₁ L₁ := frD_t ⟨fun b₁ q1₁ q2₁ => fb₁ b₁ q1₁ (by omega), fun b₁ q1₁ q2₁ => fM₁ b₁ q1₁ (by omega), fun y₁ _ => by rw [fb₁ _ (by omega) (by omega)], fun b₁ q₁ => by
      by_cases z₁ : b₁ = x₁ + 41
      · rw [z₁]; exact td₁.1.trans d1₁.2.2.1.1.1.symm
      · rw [fb₁ b₁ (by omega) (by omega)]⟩ (frD_K f1₁)
  have hS0₁ : J2₁ (x₁ + 37) 0 = nI (ix (U₁ 0)) := by rw [fb₁ _ (by omega) (by omega), d1₁.1]; exact hU₁.2.2.2.2.2.1
  refine s_readRange (x₁ := x₁) hX₁ tt₁ hS0₁ (by omega) (by omega) t2₁ td₁ (by omega) (by decide) (by omega) (fun e3₁ J₁ f₁ => ⟨fun y₁ => absurd y₁ (by decide), fun _ => ?_⟩) (fun e3₁ e4₁ J₁ M₁ J3₁ f₁ f3₁ => ⟨fun y₁ => absurd y₁ (by decide), fun _ => ?_⟩) (fun e3₁ e4₁ k3₁ v1₁ v2₁ J3₁ M3₁ t3₁ td3₁ c0₁ c1₁ gb₁ gc₁ gM₁ g10₁ => ⟨fun _ => ?_, fun y₁ => absurd y₁ (by decide)⟩)
  · exact hbad _ _ (by rw [pScope, if_neg e₁, pNew, if_neg k1₁, if_neg k2₁, pNum, if_pos e3₁]) J₁ M2₁ (flD_f f₁) (frD_t (frD_f f₁) fr2₁)
  · exact hbad _ _ (by rw [pScope, if_neg e₁, pNew, if_neg k1₁, if_neg k2₁, pNum, if_neg (fun z₁ => z₁ e3₁), pNum, if_pos e4₁]) J3₁ M₁ (flD_f f3₁) (frD_t (frD_f f3₁) (frD_t (frD_K f₁) fr2₁))
  have fr3₁ : frD₁ x₁ J3₁ I₁ M3₁ L₁ := frD_t ⟨fun b₁ q1₁ q2₁ => gb₁ b₁ q1₁ (by omega), fun b₁ q1₁ _ => gM₁ b₁ q1₁, fun y₁ _ => by rw [gb₁ _ (by omega) (by omega)], fun b₁ q₁ => by rw [gb₁ b₁ (by omega) (by omega)]⟩ fr2₁
  refine s_at t2₁ td3₁ ?_
  rw [show (0 : Int32) = nI 0 from rfl, tat_in (by omega) (by omega) (by omega) (by omega), c0₁]
  refine s_at t2₁ td3₁ ?_
  rw [show (1 : Int32) = nI 1 from rfl, tat_in (by omega) (by omega) (by omega) (by omega), c1₁]
  have row3 : ∀ k₁, k₁ < ix (U₁ 2) → J3₁ (x₁ + 37 + 4 + 2) (k₁ * 4 + 0) = U₁ (66 + k₁) ∧ J3₁ (x₁ + 37 + 4 + 2) (k₁ * 4 + 1) = U₁ (76 + k₁) ∧ J3₁ (x₁ + 37 + 4 + 2) (k₁ * 4 + 2) = U₁ (86 + k₁) ∧ J3₁ (x₁ + 37 + 4 + 2) (k₁ * 4 + 3) = rnkS U₁ k₁ := fun k₁ hk₁ => by
    have := d1₁.2.2.1.2 k₁ hk₁
    rw [gc₁ _ (by omega) (by omega), gc₁ _ (by omega) (by omega), gc₁ _ (by omega) (by omega), gc₁ _ (by omega) (by omega), fb₁ _ (by omega) (by omega)]
    exact ⟨this.1, this.2.1, this.2.2.1, this.2.2.2.1⟩
  refine s_cutsScope (lo₁ := fun k₁ => if k₁ = ix (U₁ 2) then nI (tkV₁ B₁ n₁ (tkN₁ B₁ n₁ lm₁ (tkN₁ B₁ n₁ lm₁ p₁))) else U₁ (66 + k₁)) (hi₁ := fun k₁ => if k₁ = ix (U₁ 2) then nI (tkV₁ B₁ n₁ (tkN₁ B₁ n₁ lm₁ (tkN₁ B₁ n₁ lm₁ (tkN₁ B₁ n₁ lm₁ p₁)))) else U₁ (76 + k₁)) hu₁ td3₁ (fun k₁ hk₁ => ?_) ?_
  · by_cases z₁ : k₁ = ix (U₁ 2)
    · rw [if_pos z₁, if_pos z₁, z₁]; exact ⟨c0₁, c1₁⟩
    · rw [if_neg z₁, if_neg z₁]; exact ⟨(row3 k₁ (by omega)).1, (row3 k₁ (by omega)).2.1⟩
  rw [cutG_s _ (by rw [Nat.zero_add, if_pos rfl, if_pos rfl]; exact cutP_self), cutG_cg (lo₁ := fun i₁ => U₁ (66 + i₁)) (hi₁ := fun i₁ => U₁ (76 + i₁)) _ 0 (fun j₁ hj₁ => ⟨if_neg (by omega), if_neg (by omega)⟩)]
  have ecut : cutG (fun i₁ => U₁ (66 + i₁)) (fun i₁ => U₁ (76 + i₁)) (nI (tkV₁ B₁ n₁ (tkN₁ B₁ n₁ lm₁ (tkN₁ B₁ n₁ lm₁ p₁)))) (nI (tkV₁ B₁ n₁ (tkN₁ B₁ n₁ lm₁ (tkN₁ B₁ n₁ lm₁ (tkN₁ B₁ n₁ lm₁ p₁))))) (ix (U₁ 2)) 0 = cutS U₁ (nI (tkV₁ B₁ n₁ ((tkN₁ B₁ n₁ lm₁ (tkN₁ B₁ n₁ lm₁ (p₁)))))) (nI (tkV₁ B₁ n₁ ((tkN₁ B₁ n₁ lm₁ (tkN₁ B₁ n₁ lm₁ (tkN₁ B₁ n₁ lm₁ (p₁))))))) := rfl
  rw [ecut]
  have st₁ : ∀ k₁, cutS U₁ (nI (tkV₁ B₁ n₁ ((tkN₁ B₁ n₁ lm₁ (tkN₁ B₁ n₁ lm₁ (p₁)))))) (nI (tkV₁ B₁ n₁ ((tkN₁ B₁ n₁ lm₁ (tkN₁ B₁ n₁ lm₁ (tkN₁ B₁ n₁ lm₁ (p₁))))))) = k₁ → pScope B₁ n₁ lm₁ U₁ NM₁ p₁ = if k₁ = true then .inl (3, tkS₁ B₁ n₁ lm₁ ((tkN₁ B₁ n₁ lm₁ (tkN₁ B₁ n₁ lm₁ (tkN₁ B₁ n₁ lm₁ (p₁)))))) else pNum B₁ n₁ lm₁ ((tkN₁ B₁ n₁ lm₁ (tkN₁ B₁ n₁ lm₁ (tkN₁ B₁ n₁ lm₁ (tkN₁ B₁ n₁ lm₁ (p₁)))))) 0 250 (.inr (scpU U₁ (ix (U₁ 2)) (nI (tkV₁ B₁ n₁ ((tkN₁ B₁ n₁ lm₁ (tkN₁ B₁ n₁ lm₁ (p₁)))))) (nI (tkV₁ B₁ n₁ ((tkN₁ B₁ n₁ lm₁ (tkN₁ B₁ n₁ lm₁ (tkN₁ B₁ n₁ lm₁ (p₁))))))) (nI (tkV₁ B₁ n₁ ((tkN₁ B₁ n₁ lm₁ (tkN₁ B₁ n₁ lm₁ (tkN₁ B₁ n₁ lm₁ (tkN₁ B₁ n₁ lm₁ (p₁)))))))), nmU₁ NM₁ (ix (U₁ 2)) (tkW₁ B₁ n₁ ((tkN₁ B₁ n₁ lm₁ (p₁)))), (tkN₁ B₁ n₁ lm₁ (tkN₁ B₁ n₁ lm₁ (tkN₁ B₁ n₁ lm₁ (tkN₁ B₁ n₁ lm₁ (tkN₁ B₁ n₁ lm₁ (p₁)))))))) := fun k₁ hk₁ => by
    rw [pScope, if_neg e₁, pNew, if_neg k1₁, if_neg k2₁, pNum, if_neg (fun z₁ => z₁ e3₁), pNum, if_neg (fun z₁ => z₁ e4₁), hk₁]
  refine ⟨fun zc₁ => ⟨hX₁.tok, s_next t3₁ (fun J4₁ M4₁ t4₁ f4₁ => s_needsNumber (lo₁ := 0) (hi₁ := 250) t4₁ (by decide) (by decide) (fun e5₁ k5₁ v3₁ v4₁ e8₁ => ⟨fun _ => ?_, fun y₁ => absurd y₁ (by decide)⟩) (fun e5₁ J5₁ f5₁ => ⟨fun y₁ => absurd y₁ (by decide), fun _ => ?_⟩))⟩, fun zc₁ => ⟨hX₁.tok, s_failT (k₁ := 3) t3₁ (fun J₁ f₁ => ?_)⟩⟩
  · have td4₁ := td3₁.fr (f4₁.1 (x₁ + 37 + 4) (by omega))
    rw [e8₁]
    refine s_put (c₁ := 2) t2₁ td4₁ (by omega) (by decide) (s_rankScope (c₁ := ix (U₁ 2) + 1) (f₁ := nI (tkV₁ B₁ n₁ ((tkN₁ B₁ n₁ lm₁ (tkN₁ B₁ n₁ lm₁ (p₁)))))) (v₁ := nI (tkV₁ B₁ n₁ ((tkN₁ B₁ n₁ lm₁ (tkN₁ B₁ n₁ lm₁ (tkN₁ B₁ n₁ lm₁ (p₁))))))) hu₁ (td4₁.fr (mup_ne (by omega))) (by omega) (by rw [mup_k (by omega), f4₁.1 _ (by omega)]; exact c0₁) (by rw [mup_k (by omega), f4₁.1 _ (by omega)]; exact c1₁) ?_)
    generalize hG₁ : mup (mup J4₁ (x₁ + 37 + 4 + 2) (ix (U₁ 2) * 4 + 2) (nI (tkV₁ B₁ n₁ (tkN₁ B₁ n₁ lm₁ (tkN₁ B₁ n₁ lm₁ (tkN₁ B₁ n₁ lm₁ (tkN₁ B₁ n₁ lm₁ p₁))))))) (x₁ + 37 + 4 + 2) (ix (U₁ 2) * 4 + 3) ((nI (tkV₁ B₁ n₁ (tkN₁ B₁ n₁ lm₁ (tkN₁ B₁ n₁ lm₁ (tkN₁ B₁ n₁ lm₁ p₁)))) - nI (tkV₁ B₁ n₁ (tkN₁ B₁ n₁ lm₁ (tkN₁ B₁ n₁ lm₁ p₁))) + 1) * 10 - nI (ix (U₁ 2))) = J5₁
    have b5₁ : ∀ b₁, b₁ ≠ x₁ + 37 + 4 + 2 → J5₁ b₁ = J4₁ b₁ := fun b₁ hb₁ => by rw [← hG₁, mup_ne hb₁, mup_ne hb₁]
    have c5₁ : ∀ j₁, j₁ ≠ ix (U₁ 2) * 4 + 2 → j₁ ≠ ix (U₁ 2) * 4 + 3 → J5₁ (x₁ + 37 + 4 + 2) j₁ = J4₁ (x₁ + 37 + 4 + 2) j₁ := fun j₁ q1₁ q2₁ => by rw [← hG₁, mup_k q2₁, mup_k q1₁]
    have e52₁ : J5₁ (x₁ + 37 + 4 + 2) (ix (U₁ 2) * 4 + 2) = nI (tkV₁ B₁ n₁ ((tkN₁ B₁ n₁ lm₁ (tkN₁ B₁ n₁ lm₁ (tkN₁ B₁ n₁ lm₁ (tkN₁ B₁ n₁ lm₁ (p₁))))))) := by rw [← hG₁, mup_k (by omega), mup_at]
    have e53₁ : J5₁ (x₁ + 37 + 4 + 2) (ix (U₁ 2) * 4 + 3) = (nI (tkV₁ B₁ n₁ ((tkN₁ B₁ n₁ lm₁ (tkN₁ B₁ n₁ lm₁ (tkN₁ B₁ n₁ lm₁ (p₁)))))) - nI (tkV₁ B₁ n₁ ((tkN₁ B₁ n₁ lm₁ (tkN₁ B₁ n₁ lm₁ (p₁))))) + 1) * 10 - nI (ix (U₁ 2)) := by rw [← hG₁, mup_at]
    have t5₁ : TCS₁ K₁ N₁ R₁ J5₁ M4₁ (x₁ + 1) B₁ n₁ lm₁ (tkN₁ B₁ n₁ lm₁ (tkN₁ B₁ n₁ lm₁ (tkN₁ B₁ n₁ lm₁ (tkN₁ B₁ n₁ lm₁ p₁)))) := TCS_fr t4₁ (b5₁ _ (by omega)) (fun y₁ _ _ => by rw [b5₁ _ (by omega)]) rfl
    refine s_next t5₁ (fun J₁ M₁ t6₁ f6₁ => hok₁ _ _ _ (by rw [st₁ false zc₁, if_neg (by decide), pNum, if_neg (fun z₁ => z₁ e5₁)]) J₁ M₁ ⟨t6₁, ?_, WFU_scp hW₁ hc₁ v1₁ v2₁ v4₁, ?_⟩ (frD_t (frD_K f6₁) (frD_t ⟨fun b₁ q1₁ q2₁ => b5₁ b₁ (by omega), fun _ _ _ => rfl, fun y₁ _ => by rw [b5₁ _ (by omega)], fun b₁ q₁ => by rw [b5₁ b₁ (by omega)]⟩ (frD_t (frD_K f4₁) fr3₁))) (by rw [frK_10 f6₁, b5₁ _ (by omega), frK_10 f4₁, g10₁, f10₁, frK_10 f1₁]))
    · obtain ⟨a0₁, a1₁, a2₁, a3₁, a4₁, a5₁⟩ := d1₁
      have bJ₁ : ∀ b₁, b₁ ≠ x₁ + 1 → b₁ ≠ x₁ + 37 + 4 + 2 → b₁ ≠ x₁ + 37 + 4 → J₁ b₁ = J1₁ b₁ := fun b₁ q1₁ q2₁ q3₁ => by rw [f6₁.1 b₁ q1₁, b5₁ b₁ q2₁, f4₁.1 b₁ q1₁, gb₁ b₁ q1₁ q2₁, fb₁ b₁ q1₁ q3₁]
      have bM₁ : ∀ b₁, b₁ ≠ x₁ + 1 → b₁ ≠ x₁ + 37 + 4 + 1 → M₁ b₁ = M1₁ b₁ := fun b₁ q1₁ q2₁ => by rw [f6₁.2.2 b₁ q1₁, f4₁.2.2 b₁ q1₁, gM₁ b₁ q1₁, fM₁ b₁ q1₁ q2₁]
      have eo₁ : ∀ k₁, k₁ ≠ 2 → (k₁ < 66 ∨ 96 ≤ k₁) → scpU U₁ (ix (U₁ 2)) (nI (tkV₁ B₁ n₁ ((tkN₁ B₁ n₁ lm₁ (tkN₁ B₁ n₁ lm₁ (p₁)))))) (nI (tkV₁ B₁ n₁ ((tkN₁ B₁ n₁ lm₁ (tkN₁ B₁ n₁ lm₁ (tkN₁ B₁ n₁ lm₁ (p₁))))))) (nI (tkV₁ B₁ n₁ ((tkN₁ B₁ n₁ lm₁ (tkN₁ B₁ n₁ lm₁ (tkN₁ B₁ n₁ lm₁ (tkN₁ B₁ n₁ lm₁ (p₁)))))))) k₁ = U₁ k₁ := fun k₁ h1₁ h2₁ => by
        rw [scpU, vst_n h1₁, vst_n (by omega), vst_n (by omega), vst_n (by omega)]
      refine ⟨by rw [bJ₁ _ (by omega) (by omega) (by omega), a0₁, eo₁ 0 (by decide) (by decide)], ?_, ⟨?_, fun k₁ hk₁ => ?_⟩, ?_, ?_, ?_⟩
      · exact UD1_cg (a1₁.fr (bJ₁ _ (by omega) (by omega) (by omega)) (bJ₁ _ (by omega) (by omega) (by omega))) hU₁.1.2 (eo₁ 1 (by decide) (by decide)) (fun k₁ q1₁ _ => eo₁ k₁ (by omega) (by omega))
      · rw [show ix (scpU U₁ (ix (U₁ 2)) (nI (tkV₁ B₁ n₁ ((tkN₁ B₁ n₁ lm₁ (tkN₁ B₁ n₁ lm₁ (p₁)))))) (nI (tkV₁ B₁ n₁ ((tkN₁ B₁ n₁ lm₁ (tkN₁ B₁ n₁ lm₁ (tkN₁ B₁ n₁ lm₁ (p₁))))))) (nI (tkV₁ B₁ n₁ ((tkN₁ B₁ n₁ lm₁ (tkN₁ B₁ n₁ lm₁ (tkN₁ B₁ n₁ lm₁ (tkN₁ B₁ n₁ lm₁ (p₁)))))))) 2) = ix (U₁ 2) + 1 by rw [scpU, vst_a, ix_nI (by omega)]]
        exact (td4₁.fr (b5₁ _ (by omega))).fr (f6₁.1 _ (by omega))
      · rw [show ix (scpU U₁ (ix (U₁ 2)) (nI (tkV₁ B₁ n₁ ((tkN₁ B₁ n₁ lm₁ (tkN₁ B₁ n₁ lm₁ (p₁)))))) (nI (tkV₁ B₁ n₁ ((tkN₁ B₁ n₁ lm₁ (tkN₁ B₁ n₁ lm₁ (tkN₁ B₁ n₁ lm₁ (p₁))))))) (nI (tkV₁ B₁ n₁ ((tkN₁ B₁ n₁ lm₁ (tkN₁ B₁ n₁ lm₁ (tkN₁ B₁ n₁ lm₁ (tkN₁ B₁ n₁ lm₁ (p₁)))))))) 2) = ix (U₁ 2) + 1 by rw [scpU, vst_a, ix_nI (by omega)]] at hk₁
        rw [f6₁.1 (x₁ + 37 + 4 + 2) (by omega), rnkS, widS]
        by_cases z₁ : k₁ = ix (U₁ 2)
        · subst z₁
          rw [eNM_a, c5₁ _ (by omega) (by omega), c5₁ _ (by omega) (by omega), f4₁.1 _ (by omega), e52₁, e53₁, scpU, vst_n (by omega), vst_n (by omega), vst_n (by omega), vst_a, vst_n (by omega), vst_n (by omega), vst_a, vst_n (by omega), vst_a]
          refine ⟨c0₁, c1₁, rfl, rfl, ?_⟩
          rw [f6₁.2.2 _ (by omega), f4₁.2.2 _ (by omega), gM₁ _ (by omega), en₁]
          exact nm_to hw₁
        · have r3₁ := row3 k₁ (by omega)
          rw [eNM_n z₁, c5₁ _ (by omega) (by omega), c5₁ _ (by omega) (by omega), c5₁ _ (by omega) (by omega), c5₁ _ (by omega) (by omega), f4₁.1 _ (by omega), scpU, vst_n (by omega), vst_n (by omega), vst_n (by omega), vst_n (by omega), vst_n (by omega), vst_n (by omega), vst_n (by omega), vst_n (by omega), vst_n (by omega), vst_n (by omega), vst_n (by omega), vst_n (by omega)]
          refine ⟨r3₁.1, r3₁.2.1, r3₁.2.2.1, r3₁.2.2.2, ?_⟩
          rw [f6₁.2.2 _ (by omega), f4₁.2.2 _ (by omega), gM₁ _ (by omega), fn₁ k₁ z₁]
          exact (a2₁.2 k₁ (by omega)).2.2.2.2
      · exact UD3_cg (a3₁.fr (bJ₁ _ (by omega) (by omega) (by omega)) (bJ₁ _ (by omega) (by omega) (by omega)) (bM₁ _ (by omega) (by omega))) hU₁.2.2.1.2 (eo₁ 3 (by decide) (by decide)) (fun k₁ q1₁ _ => eo₁ k₁ (by omega) (by omega)) (fun k₁ q1₁ _ => eNM_n (by omega))
      · exact UD4_cg (a4₁.fr (bJ₁ _ (by omega) (by omega) (by omega)) (bJ₁ _ (by omega) (by omega) (by omega)) (bM₁ _ (by omega) (by omega))) hU₁.2.2.2.1.2 (eo₁ 4 (by decide) (by decide)) (fun k₁ q1₁ _ => eo₁ k₁ (by omega) (by omega)) (fun k₁ q1₁ _ => eNM_n (by omega))
      · exact UD5_cg (a5₁.fr (bJ₁ _ (by omega) (by omega) (by omega)) (bJ₁ _ (by omega) (by omega) (by omega))) hU₁.2.2.2.2.1.2 (WFo_m hU₁.2.2.2.2.1.2 hW₁.2.2.2.2.2.2.2) (eo₁ 5 (by decide) (by decide)) (fun k₁ q1₁ _ => eo₁ k₁ (by omega) (by omega))
    · have n3₁ := hU₁.2.2.1.2
      refine ⟨fun k₁ hk₁ => ?_, fun k₁ hk₁ => ?_, fun k₁ hk₁ => ?_⟩
      · rw [scpU, vst_a, ix_nI (by omega)] at hk₁
        by_cases z₁ : k₁ = ix (U₁ 2)
        · rw [Nat.zero_add, z₁, nmU_a]; exact hw₁
        · rw [nmU_n (by omega)]; exact hN₁.1 k₁ (by omega)
      · rw [scpU, vst_n (by decide), vst_n (by omega), vst_n (by omega), vst_n (by omega)] at hk₁
        rw [nmU_n (by omega)]; exact hN₁.2.1 k₁ hk₁
      · rw [scpU, vst_n (by decide), vst_n (by omega), vst_n (by omega), vst_n (by omega)] at hk₁
        rw [nmU_n (by omega)]; exact hN₁.2.2 k₁ hk₁
  · exact hbad _ _ (by rw [st₁ false zc₁, if_neg (by decide), pNum, if_pos e5₁]) J5₁ M4₁ (flD_f f5₁) (frD_t (frD_f f5₁) (frD_t (frD_K f4₁) fr3₁))
  · exact hbad _ _ (by rw [st₁ true zc₁, if_pos rfl]) J₁ M3₁ (flD_f f₁) (frD_t (frD_f f₁) fr3₁)
end UN₁
