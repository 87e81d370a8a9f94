/-! ===== the class's doOps, look ===== -/
theorem whrB_at (U₁ : Nat → Int32) (v₁ a₁ : Int32) : ∀ (f₁ i₁ j₁ : Nat), i₁ + f₁ ≤ 16 → j₁ < 16 → whrB U₁ v₁ a₁ f₁ i₁ = nI j₁ → U₁ (134 + j₁) = v₁ ∧ j₁ < i₁ + f₁
  | 0, _, j₁, _, hj₁, h₁ => absurd h₁ (m1_ne' (by omega))
  | f₁ + 1, i₁, j₁, hi₁, hj₁, h₁ => by
    rw [whrB] at h₁
    split at h₁
    · rename_i e₁
      rw [eqN (by omega) (by omega)] at h₁
      subst h₁
      exact ⟨e₁.1, by omega⟩
    · have := whrB_at U₁ v₁ a₁ f₁ (i₁ + 1) j₁ (by omega) hj₁ h₁
      exact ⟨this.1, by omega⟩
section UN₁
variable {K₁ N₁ : MK} {I₁ : MI} {L₁ : ML} {R₁ : MR} {f₁ c₁ u₁ : Nat} {U₁ V₁ : Nat → Int32} {W₁ : Nat → Int64}
theorem s_doOps {w₁ n₁ : Nat} {code : Nat → Int32} {Q₁ : Bool → MI → Prop} (hF₁ : FIL₁ K₁ N₁ R₁ f₁) (hC₁ : MAL K₁ N₁ R₁ c₁) (hV₁ : MACD I₁ c₁ V₁) (hv₁ : WFm₁ V₁) (hc₁ : c₁ + 3 < f₁) (hL₁ : UL K₁ N₁ R₁ u₁) (hf₁ : u₁ + 15 < f₁) (hD₁ : TD I₁ (u₁ + 13) 16 21 (ix (U₁ 5))) (hw₁ : w₁ < ix (U₁ 5)) (hn₁ : n₁ ≤ 8) (e4₁ : I₁ (u₁ + 13 + 2) (w₁ * 21 + 4) = nI n₁)
    (ho₁ : ∀ j₁, j₁ < n₁ → opR (I₁ (u₁ + 13 + 2) (w₁ * 21 + (5 + 2 * j₁))) (I₁ (u₁ + 13 + 2) (w₁ * 21 + (5 + 2 * j₁ + 1))) (code j₁)) (hW₁ : opW₁ code n₁)
    (h1₁ : opsB V₁ code n₁ 0 (fun _ => 0) 0 = none → ∀ J₁, frF₁ f₁ J₁ I₁ → Q₁ false J₁)
    (h0₁ : ∀ t₁, opsB V₁ code n₁ 0 (fun _ => 0) 0 = some t₁ → ∀ J₁ T₁ d₁, STK₁ J₁ f₁ T₁ (d₁ + 1) → d₁ < 8 → T₁ d₁ = t₁ → frF₁ f₁ J₁ I₁ → Q₁ true J₁) : w_X2_doOps f₁ u₁ c₁ (nI w₁) K₁ N₁ I₁ L₁ R₁ Q₁ := by
  have t5₁ := hL₁.2.2.2.2.2.2.2.2.2.2
  have h5₁ : ix (U₁ 5) ≤ 16 := hD₁.2.2
  have hw16 : w₁ < 16 := by omega
  obtain ⟨D₁, D0₁, hs₁, hD1₁⟩ := hW₁
  have hle₁ := opW_le D0₁ (fun j₁ hj₁ => (hs₁ j₁ hj₁).2.2)
  delta w_X2_doOps
  refine ⟨hF₁.1, fun I2₁ g2₁ => ⟨hL₁.1, _, hL₁.2.2.2.2.2.1, t5₁.1, ?_⟩⟩
  have f2₁ : frF₁ f₁ I2₁ I₁ := ⟨fun b₁ h3₁ h4₁ => by rw [g2₁, mup_ne h3₁], fun y₁ hy₁ => by rw [g2₁, mup_k hy₁]⟩
  have td₁ : ∀ J₁, frF₁ f₁ J₁ I₁ → TD J₁ (u₁ + 13) 16 21 (ix (U₁ 5)) := fun J₁ g₁ => by rw [TD, g₁.1 _ (by omega) (by omega)]; exact hD₁
  refine s_at t5₁ (td₁ I2₁ f2₁) ?_
  rw [show (4 : Int32) = nI 4 from rfl, tat_in hw₁ (by omega) (by omega) (by omega), f2₁.1 _ (by omega) (by omega), e4₁]
  delta w_X2_doOps_19
  refine ⟨fun n1₁ y0₁ y1₁ y2₁ y3₁ y4₁ y5₁ I1₁ => y0₁ = f₁ ∧ y1₁ = u₁ ∧ y2₁ = c₁ ∧ y3₁ = nI w₁ ∧ y4₁ = nI n₁ ∧ ∃ i₁ T₁, i₁ ≤ n₁ ∧ n1₁ = n₁ - i₁ ∧ y5₁ = nI i₁ ∧ STK₁ I1₁ f₁ T₁ (D₁ i₁) ∧ frF₁ f₁ I1₁ I₁ ∧ opsB V₁ code (n₁ - i₁) i₁ T₁ (D₁ i₁) = opsB V₁ code n₁ 0 (fun _ => 0) 0, ⟨n₁, rfl, rfl, rfl, rfl, rfl, 0, (fun _ => 0), by omega, rfl, rfl, ⟨by rw [D0₁, g2₁, mup_at]; rfl, fun j₁ hj₁ => absurd hj₁ (by omega)⟩, f2₁, by rw [D0₁]; rfl⟩, ?_⟩
  rintro n1₁ y0₁ y1₁ y2₁ y3₁ y4₁ y5₁ I1₁ ⟨rfl, rfl, rfl, rfl, rfl, i₁, T₁, hi₁, rfl, rfl, hS₁, hfr₁, hB₁⟩
  rw [leN (by omega) (by omega)]
  refine ⟨fun e₁ => ?_, fun e₁ => ⟨hL₁.1, _, hL₁.2.2.2.2.2.1, t5₁.1, s_at t5₁ (td₁ I1₁ hfr₁) ?_⟩⟩
  · have ei₁ : i₁ = n₁ := by omega
    subst ei₁
    obtain ⟨d₁, ed₁⟩ : ∃ d₁, D₁ i₁ = d₁ + 1 := ⟨D₁ i₁ - 1, by omega⟩
    rw [Nat.sub_self, ed₁] at hB₁
    rw [ed₁] at hS₁
    have := hle₁ i₁ (by omega)
    exact h0₁ (T₁ d₁) (by rw [← hB₁]; rfl) I1₁ T₁ d₁ hS₁ (by omega) rfl hfr₁
  · have e5₁ : (5 : Int32) + (2 : Int32) * nI i₁ = nI (5 + 2 * i₁) := by rw [show (2 : Int32) = nI 2 from rfl, mulN, show (5 : Int32) = nI 5 from rfl, addN]
    rw [e5₁, tat_in hw₁ (by omega) (by omega) (by omega), hfr₁.1 _ (by omega) (by omega)]
    refine s_at t5₁ (td₁ I1₁ hfr₁) ?_
    rw [nI_1, tat_in hw₁ (by omega) (by omega) (by omega), hfr₁.1 _ (by omega) (by omega)]
    have hin₁ : i₁ < n₁ := by omega
    have hdi₁ := hle₁ i₁ (by omega)
    obtain ⟨oc₁, ok₁, od₁⟩ := hs₁ i₁ hin₁
    have hB2₁ : opsB V₁ code (n₁ - (i₁ + 1) + 1) i₁ T₁ (D₁ i₁) = opsB V₁ code n₁ 0 (fun _ => 0) 0 := by rw [show n₁ - (i₁ + 1) + 1 = n₁ - i₁ by omega]; exact hB₁
    rw [opsB] at hB2₁
    refine ⟨hF₁.1, s_doOp hF₁ hC₁ (MACD_F hV₁ hc₁ hfr₁) hv₁ hc₁ (ho₁ i₁ hin₁) ok₁ (by omega) hS₁ (fun z₁ J₁ g₁ => ⟨fun y₁ => absurd y₁ (by decide), fun _ => ?_⟩) (fun z₁ J₁ g1₁ g3₁ => ⟨fun _ v15₁ g15₁ => ?_, fun y₁ => absurd y₁ (by decide)⟩)⟩
    · rw [if_pos z₁] at hB2₁
      exact h1₁ hB2₁.symm J₁ (frF_t g₁ hfr₁)
    · rw [if_neg (by rw [z₁]; decide)] at hB2₁
      rw [← od₁] at g1₁ hB2₁
      exact ⟨n₁ - (i₁ + 1), by omega, rfl, rfl, rfl, rfl, rfl, i₁ + 1, _, by omega, rfl, by rw [g15₁, nI_1], g1₁, frF_t g3₁ hfr₁, hB2₁⟩
theorem s_look {v₁ a₁ : Int32} {Q₁ : Int32 → MI → Prop} (hF₁ : FIL₁ K₁ N₁ R₁ f₁) (hC₁ : MAL K₁ N₁ R₁ c₁) (hV₁ : MACD I₁ c₁ V₁) (hv₁ : WFm₁ V₁) (hc₁ : c₁ + 3 < f₁) (hL₁ : UL K₁ N₁ R₁ u₁) (hf₁ : u₁ + 15 < f₁) (hD₁ : UD I₁ L₁ u₁ U₁ W₁) (hU₁ : WFc U₁) (hw₁ : WFw U₁) (ht₁ : WFvt U₁) (hT₁ : WFt₁ U₁) (ho₁ : WFo₁ U₁)
    (h₁ : ∀ J₁, (∀ b₁, b₁ ≠ f₁ → b₁ ≠ f₁ + 1 → J₁ b₁ = I₁ b₁) → ((lokS U₁ V₁ v₁ a₁).1 = 0 → J₁ f₁ 2 = (lokS U₁ V₁ v₁ a₁).2) → Q₁ (lokS U₁ V₁ v₁ a₁).1 J₁) : w_X2_look f₁ u₁ c₁ v₁ a₁ K₁ N₁ I₁ L₁ R₁ Q₁ := by
  delta w_X2_look
  have n5₁ := hU₁.2.2.2.2.1.2
  have n4₁ := hU₁.2.2.2.1.2
  have t5₁ := hL₁.2.2.2.2.2.2.2.2.2.2
  have d5₁ := hD₁.2.2.2.2.2
  have none : whrS U₁ v₁ a₁ = -1 → w_X2_look_20 f₁ u₁ c₁ v₁ (-1) K₁ N₁ I₁ L₁ R₁ Q₁ := fun e₁ => by
    delta w_X2_look_20
    rw [lokS, if_pos e₁] at h₁
    exact ⟨fun z₁ => absurd rfl z₁, fun _ => h₁ I₁ (fun _ _ _ => rfl) (fun z₁ => absurd z₁ (by decide))⟩
  refine ⟨hL₁.1, s_hasAddress hL₁ hD₁.1 hU₁ ⟨fun e₁ => none (whrS_noA hU₁ hw₁ e₁), fun e₁ => s_placeAt hL₁ d5₁ hU₁ ?_⟩⟩
  rcases whrB_or U₁ v₁ a₁ (ix (U₁ 5)) 0 with e1₁ | ⟨w₁, -, hw5₁, e1₁⟩
  · rw [show whrS U₁ v₁ a₁ = -1 from e1₁]; exact none e1₁
  have e1₁ : whrS U₁ v₁ a₁ = nI w₁ := e1₁
  have hw5₁ : w₁ < ix (U₁ 5) := by omega
  have ev₁ := (whrB_at U₁ v₁ a₁ (ix (U₁ 5)) 0 w₁ (by omega) (by omega) e1₁).1
  obtain ⟨v0₁, -, -, ev0₁, hv4₁, -⟩ := hw₁ w₁ hw5₁
  have ev1₁ : v₁ = nI v0₁ := by rw [← ev₁, ev0₁]
  rw [lokS, e1₁, if_neg (m1_ne (by omega)), ix_nI (by omega)] at h₁
  rw [e1₁]
  obtain ⟨q₁, hq₁, eq₁⟩ := wrdS_in hv₁ hw5₁ ho₁
  obtain ⟨-, -, -, pl₁⟩ := d5₁.2 w₁ hw5₁
  delta w_X2_look_20
  refine ⟨fun _ => ⟨hF₁.1, ?_⟩, fun z₁ => absurd z₁ (m1_ne (by omega))⟩
  have cell3 : ∀ J₁, frF₁ f₁ J₁ I₁ → ∀ P₁ : Int32 → Prop, P₁ (I₁ (u₁ + 13 + 2) (w₁ * 21 + 3)) → w_X7_at (u₁ + 13) (nI w₁) 3 K₁ N₁ J₁ L₁ R₁ P₁ := fun J₁ g₁ P₁ hp₁ => by
    refine s_at t5₁ (by rw [TD, g₁.1 _ (by omega) (by omega)]; exact d5₁.1) ?_
    rw [show (3 : Int32) = nI 3 from rfl, tat_in hw5₁ (by omega) (by omega) (by omega), g₁.1 _ (by omega) (by omega)]
    exact hp₁
  have fin₁ : ∀ J₁, frF₁ f₁ J₁ I₁ → (wrdS U₁ V₁ w₁).1 = 0 → w_X9_bitsOf u₁ v₁ (wrdS U₁ V₁ w₁).2 K₁ N₁ J₁ L₁ R₁ (fun r14₁ => ∀ I15₁ : MI, I15₁ = mup J₁ f₁ 2 r14₁ → Q₁ 0 I15₁) := fun J₁ g₁ z₁ => by
    rw [ev1₁, eq₁]
    refine s_bitsOf hL₁ (UD_fr hD₁ (fun b₁ h1₁ h2₁ => g₁.1 b₁ (by omega) (by omega))) hU₁ ht₁ hT₁ hv4₁ hq₁ (fun I15₁ g15₁ => ?_)
    rw [if_pos z₁] at h₁
    exact h₁ I15₁ (fun b₁ h1₁ h2₁ => by rw [g15₁, mup_ne h1₁, g₁.1 b₁ h1₁ h2₁]) (fun _ => by rw [g15₁, mup_at, ev1₁, eq₁])
  have qne₁ : (wrdS U₁ V₁ w₁).2 ≠ -1 := by rw [eq₁]; exact m1_ne (by omega)
  rcases ho₁ w₁ hw5₁ with ⟨k2₁, r₁, hr₁, er₁⟩ | ⟨k01₁, n₁, hn₁, en₁, hW₁⟩
  · rcases pl₁ with ⟨-, c3₁, c4₁, c5₁, c6₁⟩ | ⟨k3₁, -⟩
    · have ws₁ : wrdS U₁ V₁ w₁ = (0, V₁ (11 + r₁)) := by rw [wrdS, if_pos k2₁, er₁, ix_nI (by omega)]
      refine s_doOps (n₁ := 1) (code := fun _ => nI (1000 + r₁)) hF₁ hC₁ hV₁ hv₁ hc₁ hL₁ hf₁ d5₁.1 hw5₁ (by decide) c4₁ (fun j₁ hj₁ => ?_) ⟨fun j₁ => j₁, rfl, fun j₁ hj₁ => ⟨Or.inr (Or.inl ⟨r₁, hr₁, rfl⟩), ?_, by rw [opD_r hr₁]⟩, by decide⟩ (fun z₁ => ?_) (fun t₁ z₁ J₁ T₁ d₁ hS₁ hd₁ et₁ g₁ => ⟨fun _ => s_pop hF₁ hS₁ hd₁ (fun J7₁ _ g7₁ => ?_), fun y₁ => absurd y₁ (by decide)⟩)
      · obtain rfl : j₁ = 0 := by omega
        exact Or.inr (Or.inl ⟨c5₁, r₁, hr₁, by rw [← er₁]; exact c6₁, rfl⟩)
      · rw [opOK, if_pos (opn_lt (by omega))]; trivial
      · rw [opsB, if_neg (by rw [opF_r hr₁]; decide)] at z₁
        exact absurd z₁ (by rw [opsB]; exact fun y₁ => by cases y₁)
      · rw [opsB, if_neg (by rw [opF_r hr₁]; decide), opsB, opT_r hr₁, opD_r hr₁] at z₁
        have z₁ : V₁ (11 + r₁) = t₁ := Option.some.inj z₁
        rw [et₁]
        refine ⟨hL₁.1, _, hL₁.2.2.2.2.2.1, t5₁.1, cell3 J7₁ (frF_t g7₁ g₁) _ ⟨fun y₁ => absurd c3₁ y₁, fun _ v16₁ g16₁ => ?_⟩⟩
        rw [← z₁, show V₁ (11 + r₁) = (wrdS U₁ V₁ w₁).2 by rw [ws₁], eq₁, and_full hq₁, ← eq₁] at g16₁
        rw [g16₁]
        exact ⟨fun _ => fin₁ J7₁ (frF_t g7₁ g₁) (by rw [ws₁]), fun y₁ => absurd y₁ qne₁⟩
    · rw [k2₁] at k3₁; rcases k3₁ with k3₁ | k3₁ <;> exact absurd k3₁ (by decide)
  · rcases pl₁ with ⟨k2₁, -⟩ | ⟨-, c3₁, c4₁, c5₁⟩
    · rw [k2₁] at k01₁; rcases k01₁ with k3₁ | k3₁ <;> exact absurd k3₁ (by decide)
    · have k2₁ : ¬ U₁ (182 + w₁) = 2 := fun k2₁ => by rw [k2₁] at k01₁; rcases k01₁ with k3₁ | k3₁ <;> exact absurd k3₁ (by decide)
      rw [en₁, ix_nI (by omega)] at c5₁
      rw [en₁] at c4₁
      have c3₁ : I₁ (u₁ + 13 + 2) (w₁ * 21 + 3) = U₁ (182 + w₁) := c3₁
      refine s_doOps hF₁ hC₁ hV₁ hv₁ hc₁ hL₁ hf₁ d5₁.1 hw5₁ hn₁ c4₁ c5₁ hW₁ (fun z₁ J₁ g₁ => ⟨fun y₁ => absurd y₁ (by decide), fun _ => ?_⟩) (fun t₁ z₁ J₁ T₁ d₁ hS₁ hd₁ et₁ g₁ => ⟨fun _ => s_pop hF₁ hS₁ hd₁ (fun J7₁ _ g7₁ => ?_), fun y₁ => absurd y₁ (by decide)⟩)
      · have ws₁ : wrdS U₁ V₁ w₁ = (2, 0) := by rw [wrdS, if_neg k2₁, en₁, ix_nI (by omega), z₁]
        rw [ws₁, if_neg (by decide)] at h₁
        exact h₁ J₁ g₁.1 (fun y₁ => absurd y₁ (by decide))
      · rw [et₁]
        refine ⟨hL₁.1, _, hL₁.2.2.2.2.2.1, t5₁.1, cell3 J7₁ (frF_t g7₁ g₁) _ ⟨fun y₁ => ⟨hC₁.1, s_memoryAt hC₁ (MACD_F hV₁ hc₁ (frF_t g7₁ g₁)) ?_⟩, fun y₁ v16₁ g16₁ => ?_⟩⟩
        · rw [c3₁] at y₁
          cases hi₁ : inN t₁ 64
          · have ws₁ : wrdS U₁ V₁ w₁ = (3, 0) := by rw [wrdS, if_neg k2₁, en₁, ix_nI (by omega), z₁]; simp only [hi₁]; rw [if_neg y₁]; rfl
            rw [ws₁, if_neg (by decide)] at h₁
            rw [memS_no hi₁]
            exact ⟨fun y₁ => absurd rfl y₁, fun _ => h₁ J7₁ (fun b₁ h1₁ h2₁ => by rw [g7₁.1 b₁ h1₁ h2₁, g₁.1 b₁ h1₁ h2₁]) (fun y₁ => absurd y₁ (by decide))⟩
          · have ws₁ : wrdS U₁ V₁ w₁ = (0, V₁ (19 + ix t₁)) := by rw [wrdS, if_neg k2₁, en₁, ix_nI (by omega), z₁]; simp only [hi₁]; rw [if_neg y₁]; rfl
            rw [memS_in hi₁, show V₁ (19 + ix t₁) = (wrdS U₁ V₁ w₁).2 by rw [ws₁]]
            exact ⟨fun _ => fin₁ J7₁ (frF_t g7₁ g₁) (by rw [ws₁]), fun y₁ => absurd y₁ qne₁⟩
        · rw [c3₁] at y₁
          have ws₁ : wrdS U₁ V₁ w₁ = (0, t₁ &&& 65535) := by rw [wrdS, if_neg k2₁, en₁, ix_nI (by omega), z₁]; simp only []; rw [if_pos y₁]
          rw [g16₁, show t₁ &&& 65535 = (wrdS U₁ V₁ w₁).2 by rw [ws₁]]
          exact ⟨fun _ => fin₁ J7₁ (frF_t g7₁ g₁) (by rw [ws₁]), fun y₁ => absurd y₁ qne₁⟩
end UN₁
