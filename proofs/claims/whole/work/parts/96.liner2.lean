/-! ===== 'scope', 'type', 'var' lines: the reference ===== -/
section RG₁
variable {K₁ N₁ : MK} {I₁ : MI} {L₁ : ML} {R₁ : MR} {n₁ lm₁ p₁ m₁ : Nat} {B₁ : Nat → Nat} {U₁ : Nat → Int32} {NM₁ : Nat → List Nat}
theorem frQ_3 {J₁ : MI} {a₁ : Nat} {v₁ : Int32} {M₁ : ML} (h₁ : J₁ = mup I₁ (m₁ + 3) a₁ v₁) : frQ₁ m₁ J₁ I₁ M₁ M₁ := ⟨fun b₁ _ q2₁ => by rw [h₁, mup_ne q2₁], fun _ _ _ => rfl, fun y₁ _ _ _ _ _ _ _ _ _ => by rw [h₁, mup_ne (by omega)]⟩
theorem TRS_3 {J₁ : MI} {a₁ : Nat} {v₁ : Int32} (hT₁ : TRS₁ I₁ L₁ m₁ B₁ n₁ lm₁ p₁) (h₁ : J₁ = mup I₁ (m₁ + 3) a₁ v₁) : TRS₁ J₁ L₁ m₁ B₁ n₁ lm₁ p₁ := TRS_fr hT₁ (by rw [h₁, mup_ne (by omega)]) (fun y₁ _ _ => by rw [h₁, mup_ne (by omega)]) rfl
theorem frQ_N {J₁ : MI} {M₁ : ML} {v₁ : Int32} (h₁ : frV₁ m₁ J₁ (mup I₁ m₁ 13 v₁) M₁ L₁) : frQ₁ m₁ J₁ I₁ M₁ L₁ := frQ_t (frQ_V h₁) frQ_13
theorem r_readScope {Q₁ : Bool → MI → ML → Prop} (hM₁ : MDL K₁ N₁ R₁ m₁) (hS₁ : DSR₁ I₁ L₁ m₁ B₁ n₁ lm₁ U₁ NM₁ p₁) (hW₁ : WFU₁ U₁) (hN₁ : NOK₁ U₁ NM₁) (hk₁ : tkK₁ B₁ n₁ lm₁ p₁ = 1)
    (hbad : ∀ k₁ pl₁, pScope B₁ n₁ lm₁ U₁ NM₁ p₁ = .inl (k₁, pl₁) → ∀ J₁ M₁, flQ₁ m₁ k₁ pl₁ J₁ → frQ₁ m₁ J₁ I₁ M₁ L₁ → Q₁ false J₁ M₁)
    (hok₁ : ∀ U'₁ NM'₁ p'₁, pScope B₁ n₁ lm₁ U₁ NM₁ p₁ = .inr (U'₁, NM'₁, p'₁) → ∀ J₁ M₁, DSR₁ J₁ M₁ m₁ B₁ n₁ lm₁ U'₁ NM'₁ p'₁ → frQ₁ m₁ J₁ I₁ M₁ L₁ → J₁ m₁ 10 = I₁ m₁ 10 → Q₁ true J₁ M₁) : w_X12_readScope m₁ K₁ N₁ I₁ L₁ R₁ Q₁ := by
  obtain ⟨hT₁, hI₁, hR₁⟩ := hS₁
  have hU₁ := hW₁.1
  have n0₁ := hU₁.2.2.2.2.2.2
  have n2₁ := hU₁.2.1.2
  delta w_X12_readScope
  refine ⟨hM₁.k, r_readFirst (a₁ := 2) (b₁ := 10) (c₁ := ix (U₁ 2)) hM₁ hT₁ (by decide) (by rw [hI₁]; exact hU₁.2.1.1) (by omega) (by decide) hk₁ (fun e₁ J₁ f₁ => ⟨fun y₁ => absurd y₁ (by decide), fun _ => ?_⟩) (fun e₁ J1₁ M1₁ t1₁ f1₁ => ⟨fun _ => ⟨_, hM₁.r15, hM₁.k3, by rw [hM₁.n3]; exact vp_c (by decide) (by decide), fun v8₁ g8₁ => ?_⟩, fun y₁ => absurd y₁ (by decide)⟩)⟩
  · exact hbad _ _ (by rw [pScope, if_pos e₁]) J₁ L₁ (flQ_f f₁) (frQ_f f₁)
  have hc₁ : ix (U₁ 2) < 10 := by omega
  have i1₁ : J1₁ (m₁ + 3) = U₁ := by rw [f1₁.1 _ (by omega), hI₁]
  have g8₁ : v8₁ = nI (ix (U₁ 2)) := by rw [g8₁, i1₁]; exact hU₁.2.1.1
  subst g8₁
  refine r_readNew (slot := ix (U₁ 2)) hM₁ ⟨t1₁, i1₁, NRF_fr hR₁ (f1₁.2.2 _ (by omega))⟩ hU₁ hN₁ (by omega) (fun e1₁ J₁ f₁ => ⟨fun _ => ?_, fun y₁ => absurd y₁ (by decide)⟩) (fun e1₁ e2₁ J₁ f₁ => ⟨fun _ => ?_, fun y₁ => absurd y₁ (by decide)⟩) (fun e1₁ e2₁ hw₁ J2₁ M2₁ t2₁ i2₁ en₁ fn₁ fr2' f10₁ => ⟨fun y₁ => absurd y₁ (by decide), fun _ => ⟨by rw [hM₁.n3]; exact vp_c (by decide) (by decide), ?_⟩⟩)
  · exact hbad _ _ (by rw [pScope, if_neg e₁, pNew, if_pos e1₁]) J₁ M1₁ (flQ_f f₁) (frQ_t (frQ_f f₁) (frQ_V f1₁))
  · exact hbad _ _ (by rw [pScope, if_neg e₁, pNew, if_neg (by rw [e1₁]; decide), if_pos e2₁]) J₁ M1₁ (flQ_f f₁) (frQ_t (frQ_f f₁) (frQ_V f1₁))
  have k1₁ : ¬ isNm B₁ n₁ lm₁ ((tkN₁ B₁ n₁ lm₁ (p₁))) = false := by rw [e1₁]; decide
  have k2₁ : ¬ tdN₁ U₁ NM₁ (tkW₁ B₁ n₁ ((tkN₁ B₁ n₁ lm₁ (p₁)))) = true := by rw [e2₁]; decide
  have fr2₁ := frQ_t fr2' (frQ_V f1₁)
  rw [i2₁, show ix (0 : Int32) = 0 from rfl, show U₁ 0 - 1 = nI (ix (U₁ 0) - 1) from by rw [hU₁.2.2.2.2.2.1, show (1 : Int32) = nI 1 from rfl, subN (by omega), ix_nI (by omega)]]
  have e66₁ : (66 : Int32) + nI (ix (U₁ 2)) = nI (66 + ix (U₁ 2)) := by rw [show (66 : Int32) = nI 66 from rfl, addN]
  have e76₁ : (76 : Int32) + nI (ix (U₁ 2)) = nI (76 + ix (U₁ 2)) := by rw [show (76 : Int32) = nI 76 from rfl, addN]
  have e86₁ : (86 : Int32) + nI (ix (U₁ 2)) = nI (86 + ix (U₁ 2)) := by rw [show (86 : Int32) = nI 86 from rfl, addN]
  rw [e66₁, e76₁, e86₁, ix_nI (by omega), ix_nI (by omega)]
  refine r_readNumber (lo₁ := 0) hM₁ t2₁ (by decide) (by omega) (fun e3₁ w3₁ v1₁ v2₁ J3₁ M3₁ t3₁ e13₁ f3₁ => r_putU hM₁ (by omega) (fun J4₁ g4₁ => ⟨fun y₁ => absurd y₁ (by decide), fun _ => ⟨by rw [hM₁.n3]; exact (vp_nI (by omega)).mpr (by omega), ?_⟩⟩)) (fun e3₁ J₁ f₁ => r_putN ⟨fun _ => ?_, fun y₁ => absurd y₁ (by decide)⟩)
  case refine_2 => exact hbad _ _ (by rw [pScope, if_neg e₁, pNew, if_neg k1₁, if_neg k2₁, pNum, if_pos e3₁]) J₁ M2₁ (flQ_f f₁) (frQ_t (frQ_f f₁) fr2₁)
  rw [e13₁] at g4₁
  have i4₁ : J4₁ (m₁ + 3) = vst₁ U₁ (66 + ix (U₁ 2)) (nI (tkV₁ B₁ n₁ ((tkN₁ B₁ n₁ lm₁ (tkN₁ B₁ n₁ lm₁ (p₁)))))) := by rw [g4₁, mup_vst, f3₁.1 _ (by omega), mup_ne (by omega), i2₁]
  have t4₁ := TRS_3 t3₁ g4₁
  have fr4₁ := frQ_t (frQ_3 (M₁ := M3₁) g4₁) (frQ_t (frQ_N f3₁) fr2₁)
  rw [i4₁, vst_a, vst_n (show 0 ≠ 66 + ix (U₁ 2) by omega), hU₁.2.2.2.2.2.1, nI_1]
  refine r_isNumber hM₁ t4₁ (by omega) (by omega) (fun e4₁ w4₁ v3₁ v4₁ e8₁ => ⟨fun _ => ?_, fun y₁ => absurd y₁ (by decide)⟩) (fun e4₁ J₁ f₁ => ⟨fun y₁ => absurd y₁ (by decide), fun _ => ?_⟩)
  case refine_2 => exact hbad _ _ (by rw [pScope, if_neg e₁, pNew, if_neg k1₁, if_neg k2₁, pNum, if_neg (fun z₁ => z₁ e3₁), pNum, if_pos e4₁]) J₁ M3₁ (flQ_f f₁) (frQ_t (frQ_f f₁) fr4₁)
  rw [i4₁, vst_a, e8₁]
  have st₁ : ∀ k₁, cutS U₁ (nI (tkV₁ B₁ n₁ ((tkN₁ B₁ n₁ lm₁ (tkN₁ B₁ n₁ lm₁ (p₁)))))) (nI (tkV₁ B₁ n₁ ((tkN₁ B₁ n₁ lm₁ (tkN₁ B₁ n₁ lm₁ (tkN₁ B₁ n₁ lm₁ (p₁))))))) = k₁ → pScope B₁ n₁ lm₁ U₁ NM₁ p₁ = if k₁ = true then .inl (3, tkS₁ B₁ n₁ lm₁ ((tkN₁ B₁ n₁ lm₁ (tkN₁ B₁ n₁ lm₁ (tkN₁ B₁ n₁ lm₁ (p₁)))))) else pNum B₁ n₁ lm₁ ((tkN₁ B₁ n₁ lm₁ (tkN₁ B₁ n₁ lm₁ (tkN₁ B₁ n₁ lm₁ (tkN₁ B₁ n₁ lm₁ (p₁)))))) 0 250 (.inr (scpU U₁ (ix (U₁ 2)) (nI (tkV₁ B₁ n₁ ((tkN₁ B₁ n₁ lm₁ (tkN₁ B₁ n₁ lm₁ (p₁)))))) (nI (tkV₁ B₁ n₁ ((tkN₁ B₁ n₁ lm₁ (tkN₁ B₁ n₁ lm₁ (tkN₁ B₁ n₁ lm₁ (p₁))))))) (nI (tkV₁ B₁ n₁ ((tkN₁ B₁ n₁ lm₁ (tkN₁ B₁ n₁ lm₁ (tkN₁ B₁ n₁ lm₁ (tkN₁ B₁ n₁ lm₁ (p₁)))))))), nmU₁ NM₁ (ix (U₁ 2)) (tkW₁ B₁ n₁ ((tkN₁ B₁ n₁ lm₁ (p₁)))), (tkN₁ B₁ n₁ lm₁ (tkN₁ B₁ n₁ lm₁ (tkN₁ B₁ n₁ lm₁ (tkN₁ B₁ n₁ lm₁ (tkN₁ B₁ n₁ lm₁ (p₁)))))))) := fun k₁ hk₁ => by
    rw [pScope, if_neg e₁, pNew, if_neg k1₁, if_neg k2₁, pNum, if_neg (fun z₁ => z₁ e3₁), pNum, if_neg (fun z₁ => z₁ e4₁), hk₁]
  have c4₁ : cutS (vst₁ U₁ (66 + ix (U₁ 2)) (nI (tkV₁ B₁ n₁ ((tkN₁ B₁ n₁ lm₁ (tkN₁ B₁ n₁ lm₁ (p₁))))))) (nI (tkV₁ B₁ n₁ ((tkN₁ B₁ n₁ lm₁ (tkN₁ B₁ n₁ lm₁ (p₁)))))) (nI (tkV₁ B₁ n₁ ((tkN₁ B₁ n₁ lm₁ (tkN₁ B₁ n₁ lm₁ (tkN₁ B₁ n₁ lm₁ (p₁))))))) = cutS U₁ (nI (tkV₁ B₁ n₁ ((tkN₁ B₁ n₁ lm₁ (tkN₁ B₁ n₁ lm₁ (p₁)))))) (nI (tkV₁ B₁ n₁ ((tkN₁ B₁ n₁ lm₁ (tkN₁ B₁ n₁ lm₁ (tkN₁ B₁ n₁ lm₁ (p₁))))))) := by
    rw [cutS, cutS, vst_n (show 2 ≠ 66 + ix (U₁ 2) by omega)]
    exact cutG_cg _ 0 (fun j₁ hj₁ => ⟨vst_n (by omega), vst_n (by omega)⟩)
  refine r_cutsScope hM₁ i4₁ (by rw [vst_n (by omega)]; exact hU₁.2.1.1) (by rw [vst_n (by omega)]; exact n2₁) ?_
  rw [c4₁]
  refine ⟨fun zc₁ => ⟨by rw [hM₁.n3]; exact (vp_nI (by omega)).mpr (by omega), fun I23₁ g23₁ => ?_⟩, fun zc₁ => r_bad (k₁ := 3) hM₁ t4₁ (fun w₁ => by omega) (fun J₁ f₁ => ?_)⟩
  case refine_2 => exact hbad _ _ (by rw [st₁ true zc₁, if_pos rfl]) J₁ M3₁ (flQ_f f₁) (frQ_t (frQ_f f₁) fr4₁)
  have t23₁ := TRS_3 t4₁ g23₁
  have fr23 := frQ_t (frQ_3 (M₁ := M3₁) g23₁) fr4₁
  refine r_next hM₁ t23₁ (fun J5₁ M5₁ t5₁ f5₁ => r_readNumber (lo₁ := 0) (hi₁ := 250) hM₁ t5₁ (by decide) (by decide) (fun e5₁ w5₁ v5₁ v6₁ J6₁ M6₁ t6₁ e136 f6₁ => r_putU hM₁ (by omega) (fun J7₁ g7₁ => ⟨fun _ I31₁ g31₁ => ?_, fun y₁ => absurd y₁ (by decide)⟩)) (fun e5₁ J₁ f₁ => r_putN ⟨fun y₁ => absurd y₁ (by decide), fun _ => ?_⟩))
  case refine_2 => exact hbad _ _ (by rw [st₁ false zc₁, if_neg (by decide), pNum, if_pos e5₁]) J₁ M5₁ (flQ_f f₁) (frQ_t (frQ_f f₁) (frQ_t (frQ_V f5₁) fr23))
  rw [e136] at g7₁
  have i7₁ : J7₁ (m₁ + 3) = vst₁ (vst₁ (vst₁ U₁ (66 + ix (U₁ 2)) (nI (tkV₁ B₁ n₁ ((tkN₁ B₁ n₁ lm₁ (tkN₁ B₁ n₁ lm₁ (p₁))))))) (76 + ix (U₁ 2)) (nI (tkV₁ B₁ n₁ ((tkN₁ B₁ n₁ lm₁ (tkN₁ B₁ n₁ lm₁ (tkN₁ B₁ n₁ lm₁ (p₁)))))))) (86 + ix (U₁ 2)) (nI (tkV₁ B₁ n₁ ((tkN₁ B₁ n₁ lm₁ (tkN₁ B₁ n₁ lm₁ (tkN₁ B₁ n₁ lm₁ (tkN₁ B₁ n₁ lm₁ (p₁)))))))) := by
    rw [g7₁, mup_vst, f6₁.1 _ (by omega), mup_ne (by omega), f5₁.1 _ (by omega), g23₁, mup_vst, i4₁]
  rw [show ix (2 : Int32) = 2 from rfl, i7₁, vst_n (show 2 ≠ 86 + ix (U₁ 2) by omega), vst_n (show 2 ≠ 76 + ix (U₁ 2) by omega), vst_n (show 2 ≠ 66 + ix (U₁ 2) by omega), hU₁.2.1.1, nI_1] at g31₁
  have eM₁ : M6₁ (m₁ + 9) = M2₁ (m₁ + 9) := by rw [f6₁.2.2 _ (by omega), f5₁.2.2 _ (by omega), f3₁.2.2 _ (by omega)]
  refine hok₁ _ _ _ (by rw [st₁ false zc₁, if_neg (by decide), pNum, if_neg (fun z₁ => z₁ e5₁)]) I31₁ M6₁ ⟨TRS_3 (TRS_3 t6₁ g7₁) g31₁, by rw [g31₁, mup_vst, i7₁]; rfl, ?_⟩ (frQ_t (frQ_3 (M₁ := M6₁) g31₁) (frQ_t (frQ_3 (M₁ := M6₁) g7₁) (frQ_t (frQ_N f6₁) (frQ_t (frQ_V f5₁) fr23)))) ?_
  · refine ⟨fun k₁ hk₁ => ?_, fun k₁ hk₁ => ?_, fun k₁ hk₁ => ?_⟩
    · rw [scpU, vst_a, ix_nI (by omega)] at hk₁
      rw [eM₁]
      by_cases z₁ : k₁ = ix (U₁ 2)
      · rw [Nat.zero_add, z₁, nmU_a]; exact en₁
      · rw [nmU_n (by omega), fn₁ _ (by omega), f1₁.2.2 _ (by omega)]; exact hR₁.1 k₁ (by omega)
    · rw [scpU, vst_n (by decide), vst_n (by omega), vst_n (by omega), vst_n (by omega)] at hk₁
      have := hU₁.2.2.1.2
      rw [eM₁, nmU_n (by omega), fn₁ _ (by omega), f1₁.2.2 _ (by omega)]; exact hR₁.2.1 k₁ hk₁
    · rw [scpU, vst_n (by decide), vst_n (by omega), vst_n (by omega), vst_n (by omega)] at hk₁
      rw [eM₁, nmU_n (by omega), fn₁ _ (by omega), f1₁.2.2 _ (by omega)]; exact hR₁.2.2 k₁ hk₁
  · rw [g31₁, mup_ne (by omega), g7₁, mup_ne (by omega), frV_10 f6₁, mup_k (by decide), frV_10 f5₁, g23₁, mup_ne (by omega), g4₁, mup_ne (by omega), frV_10 f3₁, mup_k (by decide), f10₁, frV_10 f1₁]
theorem r_readType {Q₁ : Bool → MI → ML → Prop} (hM₁ : MDL K₁ N₁ R₁ m₁) (hS₁ : DSR₁ I₁ L₁ m₁ B₁ n₁ lm₁ U₁ NM₁ p₁) (hW₁ : WFU₁ U₁) (hN₁ : NOK₁ U₁ NM₁) (hk₁ : tkK₁ B₁ n₁ lm₁ p₁ = 1)
    (hbad : ∀ k₁ pl₁, pType B₁ n₁ lm₁ U₁ NM₁ p₁ = .inl (k₁, pl₁) → ∀ J₁ M₁, flQ₁ m₁ k₁ pl₁ J₁ → frQ₁ m₁ J₁ I₁ M₁ L₁ → Q₁ false J₁ M₁)
    (hok₁ : ∀ U'₁ NM'₁ p'₁, pType B₁ n₁ lm₁ U₁ NM₁ p₁ = .inr (U'₁, NM'₁, p'₁) → ∀ J₁ M₁, DSR₁ J₁ M₁ m₁ B₁ n₁ lm₁ U'₁ NM'₁ p'₁ → frQ₁ m₁ J₁ I₁ M₁ L₁ → J₁ m₁ 10 = I₁ m₁ 10 → Q₁ true J₁ M₁) : w_X12_readType m₁ K₁ N₁ I₁ L₁ R₁ Q₁ := by
  obtain ⟨hT₁, hI₁, hR₁⟩ := hS₁
  have hU₁ := hW₁.1
  have n3₁ := hU₁.2.2.1.2
  delta w_X12_readType
  refine ⟨hM₁.k, r_readFirst (a₁ := 3) (b₁ := 6) (c₁ := ix (U₁ 3)) hM₁ hT₁ (by decide) (by rw [hI₁]; exact hU₁.2.2.1.1) (by omega) (by decide) hk₁ (fun e₁ J₁ f₁ => ⟨fun y₁ => absurd y₁ (by decide), fun _ => ?_⟩) (fun e₁ J1₁ M1₁ t1₁ f1₁ => ⟨fun _ => ⟨_, hM₁.r15, hM₁.k3, by rw [hM₁.n3]; exact vp_c (by decide) (by decide), fun v8₁ g8₁ => ?_⟩, fun y₁ => absurd y₁ (by decide)⟩)⟩
  · exact hbad _ _ (by rw [pType, if_pos e₁]) J₁ L₁ (flQ_f f₁) (frQ_f f₁)
  have hc₁ : ix (U₁ 3) < 6 := by omega
  have i1₁ : J1₁ (m₁ + 3) = U₁ := by rw [f1₁.1 _ (by omega), hI₁]
  have g8₁ : v8₁ = nI (ix (U₁ 3)) := by rw [g8₁, i1₁]; exact hU₁.2.2.1.1
  subst g8₁
  have e10₁ : (10 : Int32) + nI (ix (U₁ 3)) = nI (10 + ix (U₁ 3)) := by rw [show (10 : Int32) = nI 10 from rfl, addN]
  have e96₁ : (96 : Int32) + nI (ix (U₁ 3)) = nI (96 + ix (U₁ 3)) := by rw [show (96 : Int32) = nI 96 from rfl, addN]
  have e102 : (102 : Int32) + nI (ix (U₁ 3)) = nI (102 + ix (U₁ 3)) := by rw [show (102 : Int32) = nI 102 from rfl, addN]
  rw [e10₁, e96₁, e102]
  refine r_readNew (slot := 10 + ix (U₁ 3)) hM₁ ⟨t1₁, i1₁, NRF_fr hR₁ (f1₁.2.2 _ (by omega))⟩ hU₁ hN₁ (by omega) (fun e1₁ J₁ f₁ => ⟨fun _ => ?_, fun y₁ => absurd y₁ (by decide)⟩) (fun e1₁ e2₁ J₁ f₁ => ⟨fun _ => ?_, fun y₁ => absurd y₁ (by decide)⟩) (fun e1₁ e2₁ hw₁ J2₁ M2₁ t2₁ i2₁ en₁ fn₁ fr2' f10₁ => ⟨fun y₁ => absurd y₁ (by decide), fun _ => ?_⟩)
  · exact hbad _ _ (by rw [pType, if_neg e₁, pNew, if_pos e1₁]) J₁ M1₁ (flQ_f f₁) (frQ_t (frQ_f f₁) (frQ_V f1₁))
  · exact hbad _ _ (by rw [pType, if_neg e₁, pNew, if_neg (by rw [e1₁]; decide), if_pos e2₁]) J₁ M1₁ (flQ_f f₁) (frQ_t (frQ_f f₁) (frQ_V f1₁))
  have k1₁ : ¬ isNm B₁ n₁ lm₁ ((tkN₁ B₁ n₁ lm₁ (p₁))) = false := by rw [e1₁]; decide
  have k2₁ : ¬ tdN₁ U₁ NM₁ (tkW₁ B₁ n₁ ((tkN₁ B₁ n₁ lm₁ (p₁)))) = true := by rw [e2₁]; decide
  have fr2₁ := frQ_t fr2' (frQ_V f1₁)
  refine r_readNumber (lo₁ := 0) (hi₁ := 15) hM₁ t2₁ (by decide) (by decide) (fun e3₁ w3₁ v1₁ v2₁ J3₁ M3₁ t3₁ e13₁ f3₁ => r_putU hM₁ (by omega) (fun J4₁ g4₁ => ⟨fun y₁ => absurd y₁ (by decide), fun _ => ⟨by rw [hM₁.n3]; exact (vp_nI (by omega)).mpr (by omega), ?_⟩⟩)) (fun e3₁ J₁ f₁ => r_putN ⟨fun _ => ?_, fun y₁ => absurd y₁ (by decide)⟩)
  case refine_2 => exact hbad _ _ (by rw [pType, if_neg e₁, pNew, if_neg k1₁, if_neg k2₁, pNum, if_pos e3₁]) J₁ M2₁ (flQ_f f₁) (frQ_t (frQ_f f₁) fr2₁)
  rw [e13₁] at g4₁
  have i4₁ : J4₁ (m₁ + 3) = vst₁ U₁ (96 + ix (U₁ 3)) (nI (tkV₁ B₁ n₁ ((tkN₁ B₁ n₁ lm₁ (tkN₁ B₁ n₁ lm₁ (p₁)))))) := by rw [g4₁, mup_vst, f3₁.1 _ (by omega), mup_ne (by omega), i2₁]
  have t4₁ := TRS_3 t3₁ g4₁
  have fr4₁ := frQ_t (frQ_3 (M₁ := M3₁) g4₁) (frQ_t (frQ_N f3₁) fr2₁)
  rw [i4₁, ix_nI (by omega), vst_a, show (16 : Int32) - nI (tkV₁ B₁ n₁ ((tkN₁ B₁ n₁ lm₁ (tkN₁ B₁ n₁ lm₁ (p₁))))) = nI (16 - tkV₁ B₁ n₁ ((tkN₁ B₁ n₁ lm₁ (tkN₁ B₁ n₁ lm₁ (p₁))))) from by rw [show (16 : Int32) = nI 16 from rfl, subN (by omega)]]
  refine r_readNumber (lo₁ := 1) hM₁ t4₁ (by decide) (by omega) (fun e4₁ w4₁ v3₁ v4₁ J5₁ M5₁ t5₁ e135 f5₁ => r_putU hM₁ (by omega) (fun J6₁ g6₁ => ⟨fun _ => ?_, fun y₁ => absurd y₁ (by decide)⟩)) (fun e4₁ J₁ f₁ => r_putN ⟨fun y₁ => absurd y₁ (by decide), fun _ => ?_⟩)
  case refine_2 => exact hbad _ _ (by rw [pType, if_neg e₁, pNew, if_neg k1₁, if_neg k2₁, pNum, if_neg (fun z₁ => z₁ e3₁), pNum, if_pos e4₁]) J₁ M3₁ (flQ_f f₁) (frQ_t (frQ_f f₁) fr4₁)
  rw [e135] at g6₁
  have i6₁ : J6₁ (m₁ + 3) = vst₁ (vst₁ U₁ (96 + ix (U₁ 3)) (nI (tkV₁ B₁ n₁ ((tkN₁ B₁ n₁ lm₁ (tkN₁ B₁ n₁ lm₁ (p₁))))))) (102 + ix (U₁ 3)) (nI (tkV₁ B₁ n₁ ((tkN₁ B₁ n₁ lm₁ (tkN₁ B₁ n₁ lm₁ (tkN₁ B₁ n₁ lm₁ (p₁))))))) := by rw [g6₁, mup_vst, f5₁.1 _ (by omega), mup_ne (by omega), i4₁]
  have t6₁ := TRS_3 t5₁ g6₁
  have fr6₁ := frQ_t (frQ_3 (M₁ := M5₁) g6₁) (frQ_t (frQ_N f5₁) fr4₁)
  have stp₁ : pType B₁ n₁ lm₁ U₁ NM₁ p₁ = if isWd B₁ n₁ lm₁ ((tkN₁ B₁ n₁ lm₁ (tkN₁ B₁ n₁ lm₁ (tkN₁ B₁ n₁ lm₁ (tkN₁ B₁ n₁ lm₁ (p₁)))))) 4 = true ∨ isWd B₁ n₁ lm₁ ((tkN₁ B₁ n₁ lm₁ (tkN₁ B₁ n₁ lm₁ (tkN₁ B₁ n₁ lm₁ (tkN₁ B₁ n₁ lm₁ (p₁)))))) 28 = true then .inr (tyU₁ U₁ (ix (U₁ 3)) (nI (tkV₁ B₁ n₁ ((tkN₁ B₁ n₁ lm₁ (tkN₁ B₁ n₁ lm₁ (p₁)))))) (nI (tkV₁ B₁ n₁ ((tkN₁ B₁ n₁ lm₁ (tkN₁ B₁ n₁ lm₁ (tkN₁ B₁ n₁ lm₁ (p₁))))))) (if isWd B₁ n₁ lm₁ ((tkN₁ B₁ n₁ lm₁ (tkN₁ B₁ n₁ lm₁ (tkN₁ B₁ n₁ lm₁ (tkN₁ B₁ n₁ lm₁ (p₁)))))) 28 = true then 1 else 0), nmU₁ NM₁ (10 + ix (U₁ 3)) (tkW₁ B₁ n₁ ((tkN₁ B₁ n₁ lm₁ (p₁)))), (tkN₁ B₁ n₁ lm₁ (tkN₁ B₁ n₁ lm₁ (tkN₁ B₁ n₁ lm₁ (tkN₁ B₁ n₁ lm₁ (tkN₁ B₁ n₁ lm₁ (p₁))))))) else .inl (1, tkS₁ B₁ n₁ lm₁ ((tkN₁ B₁ n₁ lm₁ (tkN₁ B₁ n₁ lm₁ (tkN₁ B₁ n₁ lm₁ (tkN₁ B₁ n₁ lm₁ (p₁))))))) := by
    rw [pType, if_neg e₁, pNew, if_neg k1₁, if_neg k2₁, pNum, if_neg (fun z₁ => z₁ e3₁), pNum, if_neg (fun z₁ => z₁ e4₁)]
  have last : ∀ s₁ : Nat, s₁ ≤ 1 → pType B₁ n₁ lm₁ U₁ NM₁ p₁ = .inr (tyU₁ U₁ (ix (U₁ 3)) (nI (tkV₁ B₁ n₁ ((tkN₁ B₁ n₁ lm₁ (tkN₁ B₁ n₁ lm₁ (p₁)))))) (nI (tkV₁ B₁ n₁ ((tkN₁ B₁ n₁ lm₁ (tkN₁ B₁ n₁ lm₁ (tkN₁ B₁ n₁ lm₁ (p₁))))))) (nI s₁), nmU₁ NM₁ (10 + ix (U₁ 3)) (tkW₁ B₁ n₁ ((tkN₁ B₁ n₁ lm₁ (p₁)))), (tkN₁ B₁ n₁ lm₁ (tkN₁ B₁ n₁ lm₁ (tkN₁ B₁ n₁ lm₁ (tkN₁ B₁ n₁ lm₁ (tkN₁ B₁ n₁ lm₁ (p₁))))))) → ∀ I29₁ : MI, I29₁ = mup J6₁ (m₁ + 3) (108 + ix (U₁ 3)) (nI s₁) → w_X12_go m₁ K₁ N₁ I29₁ M5₁ R₁ (fun I30₁ L31₁ => vp_in 3 (N₁ (m₁ + 3)) ∧ ∀ I33₁ : MI, I33₁ = mup I30₁ (m₁ + 3) (ix 3) ((I30₁ (m₁ + 3) (ix 3)) + 1) → Q₁ true I33₁ L31₁) := by
    intro s₁ hs1₁ hp₁ I29₁ g29₁
    refine r_next hM₁ (TRS_3 t6₁ g29₁) (fun J7₁ M7₁ t7₁ f7₁ => ⟨by rw [hM₁.n3]; exact vp_c (by decide) (by decide), fun I33₁ g33₁ => ?_⟩)
    have i7₁ : J7₁ (m₁ + 3) = vst₁ (vst₁ (vst₁ U₁ (96 + ix (U₁ 3)) (nI (tkV₁ B₁ n₁ ((tkN₁ B₁ n₁ lm₁ (tkN₁ B₁ n₁ lm₁ (p₁))))))) (102 + ix (U₁ 3)) (nI (tkV₁ B₁ n₁ ((tkN₁ B₁ n₁ lm₁ (tkN₁ B₁ n₁ lm₁ (tkN₁ B₁ n₁ lm₁ (p₁)))))))) (108 + ix (U₁ 3)) (nI s₁) := by rw [f7₁.1 _ (by omega), g29₁, mup_vst, i6₁]
    rw [show ix (3 : Int32) = 3 from rfl, i7₁, vst_n (show 3 ≠ 108 + ix (U₁ 3) by omega), vst_n (show 3 ≠ 102 + ix (U₁ 3) by omega), vst_n (show 3 ≠ 96 + ix (U₁ 3) by omega), hU₁.2.2.1.1, nI_1] at g33₁
    have eM₁ : M7₁ (m₁ + 9) = M2₁ (m₁ + 9) := by rw [f7₁.2.2 _ (by omega), f5₁.2.2 _ (by omega), f3₁.2.2 _ (by omega)]
    refine hok₁ _ _ _ hp₁ I33₁ M7₁ ⟨TRS_3 t7₁ g33₁, by rw [g33₁, mup_vst, i7₁]; rfl, ?_⟩ (frQ_t (frQ_3 (M₁ := M7₁) g33₁) (frQ_t (frQ_V f7₁) (frQ_t (frQ_3 (M₁ := M5₁) g29₁) fr6₁))) ?_
    · have := hU₁.2.1.2
      refine ⟨fun k₁ hk₁ => ?_, fun k₁ hk₁ => ?_, fun k₁ hk₁ => ?_⟩
      · rw [tyU₁, vst_n (by decide), vst_n (by omega), vst_n (by omega), vst_n (by omega)] at hk₁
        rw [eM₁, nmU_n (by omega), fn₁ _ (by omega), f1₁.2.2 _ (by omega)]; exact hR₁.1 k₁ hk₁
      · rw [tyU₁, vst_a, ix_nI (by omega)] at hk₁
        rw [eM₁]
        by_cases z₁ : k₁ = ix (U₁ 3)
        · rw [z₁, nmU_a]; exact en₁
        · rw [nmU_n (by omega), fn₁ _ (by omega), f1₁.2.2 _ (by omega)]; exact hR₁.2.1 k₁ (by omega)
      · rw [tyU₁, vst_n (by decide), vst_n (by omega), vst_n (by omega), vst_n (by omega)] at hk₁
        rw [eM₁, nmU_n (by omega), fn₁ _ (by omega), f1₁.2.2 _ (by omega)]; exact hR₁.2.2 k₁ hk₁
    · rw [g33₁, mup_ne (by omega), frV_10 f7₁, g29₁, mup_ne (by omega), g6₁, mup_ne (by omega), frV_10 f5₁, mup_k (by decide), g4₁, mup_ne (by omega), frV_10 f3₁, mup_k (by decide), f10₁, frV_10 f1₁]
  have e108 : (108 : Int32) + nI (ix (U₁ 3)) = nI (108 + ix (U₁ 3)) := by rw [show (108 : Int32) = nI 108 from rfl, addN]
  have go101 : isWd B₁ n₁ lm₁ ((tkN₁ B₁ n₁ lm₁ (tkN₁ B₁ n₁ lm₁ (tkN₁ B₁ n₁ lm₁ (tkN₁ B₁ n₁ lm₁ (p₁)))))) 4 = true ∨ isWd B₁ n₁ lm₁ ((tkN₁ B₁ n₁ lm₁ (tkN₁ B₁ n₁ lm₁ (tkN₁ B₁ n₁ lm₁ (tkN₁ B₁ n₁ lm₁ (p₁)))))) 28 = true → w_X12_readType_101 m₁ (nI (ix (U₁ 3))) K₁ N₁ J6₁ M5₁ R₁ Q₁ := by
    intro hor₁
    delta w_X12_readType_101
    rw [e108, ix_nI (by omega)]
    refine ⟨hM₁.k, _, hM₁.r15, r_isWord (k₁ := 28) hM₁ t6₁ (by decide) ⟨fun z₁ => ⟨hM₁.k3, by rw [hM₁.n3]; exact (vp_nI (by omega)).mpr (by omega), last 0 (by decide) ?_⟩, fun z₁ => ⟨hM₁.k3, by rw [hM₁.n3]; exact (vp_nI (by omega)).mpr (by omega), last 1 (by decide) ?_⟩⟩⟩
    · rw [stp₁, if_pos hor₁, if_neg (by rw [z₁]; decide)]; rfl
    · rw [stp₁, if_pos hor₁, if_pos z₁]; rfl
  refine r_isWord (k₁ := 4) hM₁ t6₁ (by decide) ⟨fun z₁ => go101 (Or.inl z₁), fun z₁ => r_isWord (k₁ := 28) hM₁ t6₁ (by decide) ⟨fun y₁ => go101 (Or.inr y₁), fun y₁ => r_bad (k₁ := 1) hM₁ t6₁ (fun _ => rfl) (fun J₁ f₁ => ?_)⟩⟩
  exact hbad _ _ (by rw [stp₁, if_neg (fun q₁ => q₁.elim (fun q₁ => by rw [z₁] at q₁; exact absurd q₁ (by decide)) (fun q₁ => by rw [y₁] at q₁; exact absurd q₁ (by decide)))]) J₁ M5₁ (flQ_f f₁) (frQ_t (frQ_f f₁) fr6₁)
theorem r_readVar {Q₁ : Bool → MI → ML → Prop} (hM₁ : MDL K₁ N₁ R₁ m₁) (hS₁ : DSR₁ I₁ L₁ m₁ B₁ n₁ lm₁ U₁ NM₁ p₁) (hW₁ : WFU₁ U₁) (hN₁ : NOK₁ U₁ NM₁) (hk₁ : tkK₁ B₁ n₁ lm₁ p₁ = 1)
    (hbad : ∀ k₁ pl₁, pVar B₁ n₁ lm₁ U₁ NM₁ p₁ = .inl (k₁, pl₁) → ∀ J₁ M₁, flQ₁ m₁ k₁ pl₁ J₁ → frQ₁ m₁ J₁ I₁ M₁ L₁ → Q₁ false J₁ M₁)
    (hok₁ : ∀ U'₁ NM'₁ p'₁, pVar B₁ n₁ lm₁ U₁ NM₁ p₁ = .inr (U'₁, NM'₁, p'₁) → ∀ J₁ M₁, DSR₁ J₁ M₁ m₁ B₁ n₁ lm₁ U'₁ NM'₁ p'₁ → frQ₁ m₁ J₁ I₁ M₁ L₁ → J₁ m₁ 10 = I₁ m₁ 10 → Q₁ true J₁ M₁) : w_X12_readVar m₁ K₁ N₁ I₁ L₁ R₁ Q₁ := by
  obtain ⟨hT₁, hI₁, hR₁⟩ := hS₁
  have hU₁ := hW₁.1
  have n2₁ := hU₁.2.1.2
  have n3₁ := hU₁.2.2.1.2
  have n4₁ := hU₁.2.2.2.1.2
  delta w_X12_readVar
  refine ⟨hM₁.k, r_readFirst (a₁ := 4) (b₁ := 10) (c₁ := ix (U₁ 4)) hM₁ hT₁ (by decide) (by rw [hI₁]; exact hU₁.2.2.2.1.1) (by omega) (by decide) hk₁ (fun e₁ J₁ f₁ => ⟨fun y₁ => absurd y₁ (by decide), fun _ => ?_⟩) (fun e₁ J1₁ M1₁ t1₁ f1₁ => ⟨fun _ => ⟨_, hM₁.r15, hM₁.k3, by rw [hM₁.n3]; exact vp_c (by decide) (by decide), fun v8₁ g8₁ => ?_⟩, fun y₁ => absurd y₁ (by decide)⟩)⟩
  · exact hbad _ _ (by rw [pVar, if_pos e₁]) J₁ L₁ (flQ_f f₁) (frQ_f f₁)
  have hc₁ : ix (U₁ 4) < 10 := by omega
  have i1₁ : J1₁ (m₁ + 3) = U₁ := by rw [f1₁.1 _ (by omega), hI₁]
  have g8₁ : v8₁ = nI (ix (U₁ 4)) := by rw [g8₁, i1₁]; exact hU₁.2.2.2.1.1
  subst g8₁
  have e16₁ : (16 : Int32) + nI (ix (U₁ 4)) = nI (16 + ix (U₁ 4)) := by rw [show (16 : Int32) = nI 16 from rfl, addN]
  have e114 : (114 : Int32) + nI (ix (U₁ 4)) = nI (114 + ix (U₁ 4)) := by rw [show (114 : Int32) = nI 114 from rfl, addN]
  have e124 : (124 : Int32) + nI (ix (U₁ 4)) = nI (124 + ix (U₁ 4)) := by rw [show (124 : Int32) = nI 124 from rfl, addN]
  rw [e16₁, e114, e124]
  refine r_readNew (slot := 16 + ix (U₁ 4)) hM₁ ⟨t1₁, i1₁, NRF_fr hR₁ (f1₁.2.2 _ (by omega))⟩ hU₁ hN₁ (by omega) (fun e1₁ J₁ f₁ => ⟨fun _ => ?_, fun y₁ => absurd y₁ (by decide)⟩) (fun e1₁ e2₁ J₁ f₁ => ⟨fun _ => ?_, fun y₁ => absurd y₁ (by decide)⟩) (fun e1₁ e2₁ hw₁ J2₁ M2₁ t2₁ i2₁ en₁ fn₁ fr2' f10₁ => ⟨fun y₁ => absurd y₁ (by decide), fun _ => ⟨by rw [hM₁.n3]; exact vp_c (by decide) (by decide), ?_⟩⟩)
  · exact hbad _ _ (by rw [pVar, if_neg e₁, pNew, if_pos e1₁]) J₁ M1₁ (flQ_f f₁) (frQ_t (frQ_f f₁) (frQ_V f1₁))
  · exact hbad _ _ (by rw [pVar, if_neg e₁, pNew, if_neg (by rw [e1₁]; decide), if_pos e2₁]) J₁ M1₁ (flQ_f f₁) (frQ_t (frQ_f f₁) (frQ_V f1₁))
  have k1₁ : ¬ isNm B₁ n₁ lm₁ ((tkN₁ B₁ n₁ lm₁ (p₁))) = false := by rw [e1₁]; decide
  have k2₁ : ¬ tdN₁ U₁ NM₁ (tkW₁ B₁ n₁ ((tkN₁ B₁ n₁ lm₁ (p₁)))) = true := by rw [e2₁]; decide
  have fr2₁ := frQ_t fr2' (frQ_V f1₁)
  have nm2₁ : ∀ k₁, k₁ < 16 → M2₁ (m₁ + 9) k₁ = L₁ (m₁ + 9) k₁ := fun k₁ hk₁ => by rw [fn₁ k₁ (by omega), f1₁.2.2 _ (by omega)]
  rw [i2₁, show ix (2 : Int32) = 2 from rfl, hU₁.2.1.1]
  refine r_readTold (b₁ := 0) (NM₁ := NM₁) hM₁ t2₁ (by omega) hN₁.1 (fun k₁ hk₁ => by rw [nm2₁ _ (by omega)]; exact hR₁.1 k₁ hk₁) (fun e3₁ J₁ f₁ => r_putN ⟨fun _ => ?_, fun y₁ => absurd y₁ (by decide)⟩) (fun e3₁ e4₁ J₁ f₁ fr₁ => r_putN ⟨fun _ => ?_, fun y₁ => absurd y₁ (by decide)⟩) (fun e3₁ s₁ es₁ hs₁ J3₁ M3₁ t3₁ e13₁ b3₁ l3₁ fr3' f310 => r_putU hM₁ (by omega) (fun J4₁ g4₁ => ⟨fun y₁ => absurd y₁ (by decide), fun _ => ⟨by rw [hM₁.n3]; exact vp_c (by decide) (by decide), ?_⟩⟩))
  · exact hbad _ _ (by rw [pVar, if_neg e₁, pNew, if_neg k1₁, if_neg k2₁, pTold, if_pos e3₁]) J₁ M2₁ (flQ_f f₁) (frQ_t (frQ_f f₁) fr2₁)
  · exact hbad _ _ (by rw [pVar, if_neg e₁, pNew, if_neg k1₁, if_neg k2₁, pTold, if_neg (by rw [e3₁]; decide), if_pos e4₁]) J₁ M2₁ f₁ (frQ_t fr₁ fr2₁)
  have k3₁ : ¬ isNm B₁ n₁ lm₁ ((tkN₁ B₁ n₁ lm₁ (tkN₁ B₁ n₁ lm₁ (p₁)))) = false := by rw [e3₁]; decide
  have k4₁ : ¬ fndS NM₁ 0 (ix (U₁ 2)) (tkW₁ B₁ n₁ ((tkN₁ B₁ n₁ lm₁ (tkN₁ B₁ n₁ lm₁ (p₁))))) = -1 := by rw [es₁]; exact m1_ne (by omega)
  rw [e13₁] at g4₁
  have i4₁ : J4₁ (m₁ + 3) = vst₁ U₁ (114 + ix (U₁ 4)) (nI s₁) := by rw [g4₁, mup_vst, b3₁ _ (by omega), i2₁]
  have t4₁ := TRS_3 t3₁ g4₁
  have fr4₁ := frQ_t (frQ_3 (M₁ := M3₁) g4₁) (frQ_t fr3' fr2₁)
  rw [show ix (3 : Int32) = 3 from rfl, i4₁, vst_n (show 3 ≠ 114 + ix (U₁ 4) by omega), hU₁.2.2.1.1]
  refine r_readTold (b₁ := 10) (NM₁ := NM₁) hM₁ t4₁ (by omega) hN₁.2.1 (fun k₁ hk₁ => by rw [l3₁ _ (by omega), nm2₁ _ (by omega)]; exact hR₁.2.1 k₁ hk₁) (fun e5₁ J₁ f₁ => r_putN ⟨fun y₁ => absurd y₁ (by decide), fun _ => ?_⟩) (fun e5₁ e6₁ J₁ f₁ fr₁ => r_putN ⟨fun y₁ => absurd y₁ (by decide), fun _ => ?_⟩) (fun e5₁ ty₁ ety₁ hty₁ J5₁ M5₁ t5₁ e135 b5₁ l5₁ fr5' f510 => r_putU hM₁ (by omega) (fun J6₁ g6₁ => ⟨fun _ I24₁ g24₁ => ?_, fun y₁ => absurd y₁ (by decide)⟩))
  · exact hbad _ _ (by rw [pVar, if_neg e₁, pNew, if_neg k1₁, if_neg k2₁, pTold, if_neg k3₁, if_neg k4₁, pTold, if_pos e5₁]) J₁ M3₁ (flQ_f f₁) (frQ_t (frQ_f f₁) fr4₁)
  · exact hbad _ _ (by rw [pVar, if_neg e₁, pNew, if_neg k1₁, if_neg k2₁, pTold, if_neg k3₁, if_neg k4₁, pTold, if_neg (by rw [e5₁]; decide), if_pos e6₁]) J₁ M3₁ f₁ (frQ_t fr₁ fr4₁)
  rw [e135] at g6₁
  have i6₁ : J6₁ (m₁ + 3) = vst₁ (vst₁ U₁ (114 + ix (U₁ 4)) (nI s₁)) (124 + ix (U₁ 4)) (nI ty₁) := by rw [g6₁, mup_vst, b5₁ _ (by omega), i4₁]
  rw [show ix (4 : Int32) = 4 from rfl, i6₁, vst_n (show 4 ≠ 124 + ix (U₁ 4) by omega), vst_n (show 4 ≠ 114 + ix (U₁ 4) by omega), hU₁.2.2.2.1.1, nI_1] at g24₁
  have eM₁ : M5₁ (m₁ + 9) = M2₁ (m₁ + 9) := by rw [l5₁ _ (by omega), l3₁ _ (by omega)]
  have hp₁ : pVar B₁ n₁ lm₁ U₁ NM₁ p₁ = .inr (vaU₁ U₁ (ix (U₁ 4)) (nI s₁) (nI ty₁), nmU₁ NM₁ (16 + ix (U₁ 4)) (tkW₁ B₁ n₁ ((tkN₁ B₁ n₁ lm₁ (p₁)))), (tkN₁ B₁ n₁ lm₁ (tkN₁ B₁ n₁ lm₁ (tkN₁ B₁ n₁ lm₁ (tkN₁ B₁ n₁ lm₁ (p₁)))))) := by
    rw [pVar, if_neg e₁, pNew, if_neg k1₁, if_neg k2₁, pTold, if_neg k3₁, if_neg k4₁, pTold, if_neg (by rw [e5₁]; decide), if_neg (by rw [ety₁]; exact m1_ne (by omega)), es₁, ety₁]
  refine hok₁ _ _ _ hp₁ I24₁ M5₁ ⟨TRS_3 (TRS_3 t5₁ g6₁) g24₁, by rw [g24₁, mup_vst, i6₁]; rfl, ?_⟩ (frQ_t (frQ_3 (M₁ := M5₁) g24₁) (frQ_t (frQ_3 (M₁ := M5₁) g6₁) (frQ_t fr5' fr4₁))) ?_
  · refine ⟨fun k₁ hk₁ => ?_, fun k₁ hk₁ => ?_, fun k₁ hk₁ => ?_⟩
    · rw [vaU₁, vst_n (by decide), vst_n (by omega), vst_n (by omega)] at hk₁
      rw [eM₁, nmU_n (by omega), nm2₁ _ (by omega)]; exact hR₁.1 k₁ hk₁
    · rw [vaU₁, vst_n (by decide), vst_n (by omega), vst_n (by omega)] at hk₁
      rw [eM₁, nmU_n (by omega), nm2₁ _ (by omega)]; exact hR₁.2.1 k₁ hk₁
    · rw [vaU₁, vst_a, ix_nI (by omega)] at hk₁
      rw [eM₁]
      by_cases z₁ : k₁ = ix (U₁ 4)
      · rw [z₁, nmU_a]; exact en₁
      · rw [nmU_n (by omega), fn₁ _ (by omega), f1₁.2.2 _ (by omega)]; exact hR₁.2.2 k₁ (by omega)
  · rw [g24₁, mup_ne (by omega), g6₁, mup_ne (by omega), f510, g4₁, mup_ne (by omega), f310, f10₁, frV_10 f1₁]
end RG₁
