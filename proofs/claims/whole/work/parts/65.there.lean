/-! ===== why, the vars that are there, now: both sides ===== -/
def thrB (U₁ V₁ : Nat → Int32) (a₁ : Int32) : Nat → Int32
  | 0 => 0
  | v₁ + 1 => if (lokS U₁ V₁ (nI v₁) a₁).1 = 0 then thrB U₁ V₁ a₁ v₁ ||| ((1 : Int32) <<< (nI v₁ &&& 31)) else thrB U₁ V₁ a₁ v₁
def whyS (U₁ V₁ : Nat → Int32) (v₁ a₁ : Int32) : Int32 := if inN v₁ (ix (U₁ 4)) = true then (if adr U₁ a₁ = true then (lokS U₁ V₁ v₁ a₁).1 else -1) else -1
def nowS (U₁ V₁ : Nat → Int32) (w₁ : Int32) : Int32 := if w₁ = 0 then V₁ 0 else if w₁ = 1 then lineOf U₁ (V₁ 0) else if w₁ = 2 then V₁ 2 else if w₁ = 3 then nicS U₁ (V₁ 0) (-1) else if w₁ = 4 then thrB U₁ V₁ (V₁ 0) (ix (U₁ 4)) else if w₁ = 5 then V₁ 1 else -1
section UN₁
variable {K₁ N₁ : MK} {I₁ : MI} {L₁ : ML} {R₁ : MR} {f₁ c₁ u₁ x₁ : Nat} {U₁ V₁ : Nat → Int32} {W₁ : Nat → Int64}
theorem s_varsThere {Q₁ : Int32 → MI → Prop} (hF₁ : FIL₁ K₁ N₁ R₁ f₁) (hC₁ : MAL K₁ N₁ R₁ c₁) (hV₁ : MACD I₁ c₁ V₁) (hv₁ : WFm₁ V₁) (hc₁ : c₁ + 3 < f₁) (hL₁ : UL K₁ N₁ R₁ u₁) (hf₁ : u₁ + 15 < f₁) (hD₁ : UD I₁ L₁ u₁ U₁ W₁) (hU₁ : WFc U₁) (hw₁ : WFw U₁) (ht₁ : WFvt U₁) (hT₁ : WFt₁ U₁) (ho₁ : WFo₁ U₁)
    (h₁ : ∀ J₁, (∀ b₁, b₁ ≠ f₁ → b₁ ≠ f₁ + 1 → J₁ b₁ = I₁ b₁) → Q₁ (thrB U₁ V₁ (V₁ 0) (ix (U₁ 4))) J₁) : w_X2_varsThere f₁ u₁ c₁ K₁ N₁ I₁ L₁ R₁ Q₁ := by
  delta w_X2_varsThere w_X2_varsThere_5
  have n4₁ := hU₁.2.2.2.1.2
  refine ⟨fun n1₁ y0₁ y1₁ y2₁ y3₁ y4₁ I1₁ => y0₁ = f₁ ∧ y1₁ = u₁ ∧ y2₁ = c₁ ∧ ∃ i₁, i₁ ≤ ix (U₁ 4) ∧ n1₁ = ix (U₁ 4) - i₁ ∧ y3₁ = thrB U₁ V₁ (V₁ 0) i₁ ∧ y4₁ = nI i₁ ∧ (∀ b₁, b₁ ≠ f₁ → b₁ ≠ f₁ + 1 → I1₁ b₁ = I₁ b₁), ⟨ix (U₁ 4), rfl, rfl, rfl, 0, by omega, rfl, rfl, rfl, fun b₁ _ _ => rfl⟩, ?_⟩
  rintro n1₁ y0₁ y1₁ y2₁ y3₁ y4₁ I1₁ ⟨rfl, rfl, rfl, i₁, hi₁, rfl, rfl, rfl, hfr₁⟩
  refine ⟨hL₁.1, _, hL₁.2.2.2.2.1, hL₁.2.2.2.2.2.2.2.2.2.1.1, ?_⟩
  rw [hfr₁ _ (by omega) (by omega), hD₁.2.2.2.2.1.1.2.1, leN (by omega) (by omega)]
  refine ⟨fun e₁ => ?_, fun e₁ => ⟨hC₁.1, hF₁.1, ?_⟩⟩
  · rw [show i₁ = ix (U₁ 4) by omega]; exact h₁ I1₁ hfr₁
  · rw [hfr₁ y2₁ (by omega) (by omega), hV₁.1]
    refine s_look hF₁ hC₁ (MACD_fr hV₁ (fun b₁ hb₁ => hfr₁ b₁ (by omega) (by omega))) hv₁ hc₁ hL₁ hf₁ (UD_fr hD₁ (fun b₁ h1₁ h2₁ => hfr₁ b₁ (by omega) (by omega))) hU₁ hw₁ ht₁ hT₁ ho₁ (fun J₁ g₁ _ => ⟨fun z₁ v8₁ g8₁ => ⟨_, by omega, rfl, rfl, rfl, i₁ + 1, by omega, rfl, by rw [thrB, if_neg z₁], by rw [g8₁, nI_1], fun b₁ h1₁ h2₁ => by rw [g₁ b₁ h1₁ h2₁, hfr₁ b₁ h1₁ h2₁]⟩, fun z₁ v9₁ g9₁ v10₁ g10₁ => ⟨_, by omega, rfl, rfl, rfl, i₁ + 1, by omega, rfl, by rw [thrB, if_pos z₁, g9₁], by rw [g10₁, nI_1], fun b₁ h1₁ h2₁ => by rw [g₁ b₁ h1₁ h2₁, hfr₁ b₁ h1₁ h2₁]⟩⟩)
theorem PDL.fil (hX₁ : PDL K₁ N₁ R₁ x₁) : FIL₁ K₁ N₁ R₁ (x₁ + 28) := ⟨hX₁.fin, hX₁.fin_r, hX₁.fin_k, hX₁.fin_n⟩
theorem s_why {v₁ a₁ : Int32} {Q₁ : Int32 → MI → Prop} (hX₁ : PDL K₁ N₁ R₁ x₁) (hV₁ : MACD I₁ (x₁ + 19) V₁) (hv₁ : WFm₁ V₁) (hD₁ : UD I₁ L₁ (x₁ + 3) U₁ W₁) (hU₁ : WFc U₁) (hw₁ : WFw U₁) (ht₁ : WFvt U₁) (hT₁ : WFt₁ U₁) (ho₁ : WFo₁ U₁)
    (h₁ : ∀ J₁, (∀ b₁, b₁ ≠ x₁ + 28 → b₁ ≠ x₁ + 29 → J₁ b₁ = I₁ b₁) → Q₁ (whyS U₁ V₁ v₁ a₁) J₁) : w_X11_why x₁ v₁ a₁ K₁ N₁ I₁ L₁ R₁ Q₁ := by
  delta w_X11_why
  rw [whyS] at h₁
  refine ⟨hX₁.k, _, hX₁.r_unit, hX₁.un.1, _, hX₁.un.2.2.2.2.1, hX₁.un.2.2.2.2.2.2.2.2.2.1.1, s_has hX₁.un.2.2.2.2.2.2.2.2.2.1 hD₁.2.2.2.2.1.1 ⟨fun e₁ => ?_, fun e₁ => s_hasAddress hX₁.un hD₁.1 hU₁ ⟨fun e2₁ => ⟨_, hX₁.r_finder, _, hX₁.r_machine, hX₁.fin, s_look hX₁.fil hX₁.mac hV₁ hv₁ (by omega) hX₁.un (by omega) hD₁ hU₁ hw₁ ht₁ hT₁ ho₁ (fun J₁ g₁ _ => ?_)⟩, fun e2₁ => ?_⟩⟩⟩
  · rw [if_neg (by rw [e₁]; decide)] at h₁; exact h₁ I₁ (fun b₁ _ _ => rfl)
  · rw [if_pos e₁, if_pos e2₁] at h₁; exact h₁ J₁ g₁
  · rw [if_pos e₁, if_neg (by rw [e2₁]; decide)] at h₁; exact h₁ I₁ (fun b₁ _ _ => rfl)
theorem s_now {w₁ : Int32} {Q₁ : Int32 → MI → Prop} (hX₁ : PDL K₁ N₁ R₁ x₁) (hA₁ : adr U₁ (V₁ 0) = true) (hV₁ : MACD I₁ (x₁ + 19) V₁) (hv₁ : WFm₁ V₁) (hD₁ : UD I₁ L₁ (x₁ + 3) U₁ W₁) (hU₁ : WFc U₁) (hr₁ : WFr U₁) (hs₁ : WFs U₁) (hw₁ : WFw U₁) (ht₁ : WFvt U₁) (hT₁ : WFt₁ U₁) (ho₁ : WFo₁ U₁)
    (h₁ : ∀ J₁, (∀ b₁, b₁ ≠ x₁ + 28 → b₁ ≠ x₁ + 29 → J₁ b₁ = I₁ b₁) → Q₁ (nowS U₁ V₁ w₁) J₁) : w_X11_now x₁ w₁ K₁ N₁ I₁ L₁ R₁ Q₁ := by
  delta w_X11_now
  have hI₁ := h₁ I₁ (fun b₁ _ _ => rfl)
  rw [nowS] at h₁ hI₁
  refine ⟨fun e0₁ => ⟨hX₁.k, _, hX₁.r_machine, hX₁.mac.1, ?_⟩, fun e0₁ => ⟨fun e1₁ => ⟨hX₁.k, _, hX₁.r_unit, _, hX₁.r_machine, hX₁.mac.1, hX₁.un.1, s_lineOf hX₁.un hD₁.1 hD₁.2.1 hU₁ hr₁ ?_⟩, fun e1₁ => ⟨fun e2₁ => ⟨hX₁.k, _, hX₁.r_machine, hX₁.mac.1, ?_⟩, fun e2₁ => ⟨fun e3₁ => ⟨hX₁.k, _, hX₁.r_unit, _, hX₁.r_machine, hX₁.mac.1, hX₁.un.1, s_scopeBehind hX₁.un hD₁.2.2.1 hU₁ hs₁ (Or.inl rfl) ?_⟩, fun e3₁ => ⟨fun e4₁ => ⟨hX₁.k, _, hX₁.r_finder, _, hX₁.r_unit, _, hX₁.r_machine, hX₁.fin, s_varsThere hX₁.fil hX₁.mac hV₁ hv₁ (by omega) hX₁.un (by omega) hD₁ hU₁ hw₁ ht₁ hT₁ ho₁ (fun J₁ g₁ => ?_)⟩, fun e4₁ => ⟨fun e5₁ => ⟨hX₁.k, _, hX₁.r_machine, hX₁.mac.1, ?_⟩, fun e5₁ => ?_⟩⟩⟩⟩⟩⟩
  · rw [if_pos e0₁] at hI₁; rw [hV₁.1]; exact hI₁
  · rw [if_neg e0₁, if_pos e1₁] at hI₁; rw [hV₁.1, if_pos hA₁]; exact hI₁
  · rw [if_neg e0₁, if_neg e1₁, if_pos e2₁] at hI₁; rw [hV₁.2.2.1]; exact hI₁
  · rw [if_neg e0₁, if_neg e1₁, if_neg e2₁, if_pos e3₁] at hI₁; rw [hV₁.1]; exact hI₁
  · rw [if_neg e0₁, if_neg e1₁, if_neg e2₁, if_neg e3₁, if_pos e4₁] at h₁; exact h₁ J₁ g₁
  · rw [if_neg e0₁, if_neg e1₁, if_neg e2₁, if_neg e3₁, if_neg e4₁, if_pos e5₁] at hI₁; rw [hV₁.2.1]; exact hI₁
  · rw [if_neg e0₁, if_neg e1₁, if_neg e2₁, if_neg e3₁, if_neg e4₁, if_neg e5₁] at hI₁; exact hI₁
end UN₁
section RG₁
variable {K₁ N₁ : MK} {I₁ : MI} {L₁ : ML} {R₁ : MR} {m₁ : Nat}
theorem frW_U {J₁ : MI} (g₁ : frW₁ m₁ J₁ I₁) : J₁ (m₁ + 2) = I₁ (m₁ + 2) := g₁.1 _ (by omega) (by omega)
theorem frW_t {J₁ J'₁ : MI} (g₁ : frW₁ m₁ J'₁ J₁) (g2₁ : frW₁ m₁ J₁ I₁) : frW₁ m₁ J'₁ I₁ := ⟨fun b₁ h1₁ h2₁ => by rw [g₁.1 b₁ h1₁ h2₁, g2₁.1 b₁ h1₁ h2₁], fun y₁ h1₁ h2₁ => by rw [g₁.2 y₁ h1₁ h2₁, g2₁.2 y₁ h1₁ h2₁]⟩
theorem r_thoseThere {Q₁ : Int32 → MI → Prop} (hM₁ : MDL K₁ N₁ R₁ m₁) (hU₁ : WFc (I₁ (m₁ + 2))) (hw₁ : WFw (I₁ (m₁ + 2))) (ht₁ : WFvt (I₁ (m₁ + 2))) (hT₁ : WFt₁ (I₁ (m₁ + 2))) (ho₁ : WFo₁ (I₁ (m₁ + 2))) (hv₁ : WFm₁ (macV (I₁ (m₁ + 2))))
    (h₁ : ∀ J₁, frW₁ m₁ J₁ I₁ → Q₁ (thrB (I₁ (m₁ + 2)) (macV (I₁ (m₁ + 2))) (macV (I₁ (m₁ + 2)) 0) (ix (I₁ (m₁ + 2) 4))) J₁) : w_X12_thoseThere m₁ K₁ N₁ I₁ L₁ R₁ Q₁ := by
  delta w_X12_thoseThere w_X12_thoseThere_4
  have n4₁ := hU₁.2.2.2.1.2
  refine ⟨fun n1₁ y0₁ y1₁ y2₁ I1₁ => y0₁ = m₁ ∧ ∃ i₁, i₁ ≤ ix (I₁ (m₁ + 2) 4) ∧ n1₁ = ix (I₁ (m₁ + 2) 4) - i₁ ∧ y1₁ = thrB (I₁ (m₁ + 2)) (macV (I₁ (m₁ + 2))) (macV (I₁ (m₁ + 2)) 0) i₁ ∧ y2₁ = nI i₁ ∧ frW₁ m₁ I1₁ I₁, ⟨ix (I₁ (m₁ + 2) 4), rfl, 0, by omega, rfl, rfl, rfl, ⟨fun b₁ _ _ => rfl, fun y₁ _ _ => rfl⟩⟩, ?_⟩
  rintro n1₁ y0₁ y1₁ y2₁ I1₁ ⟨rfl, i₁, hi₁, rfl, rfl, rfl, hfr₁⟩
  refine ⟨hM₁.k, _, hM₁.r14, hM₁.k2, by rw [hM₁.n2]; exact vp_c (by decide) (by decide), ?_⟩
  rw [frW_U hfr₁, ix_c (by decide)]
  refine ⟨fun e₁ => ?_, fun e₁ => ?_⟩ <;> rw [hU₁.2.2.2.1.1, leN (by omega) (by omega)] at e₁
  · rw [show ix (I₁ (y0₁ + 2) 4) = i₁ by omega] at h₁; exact h₁ I1₁ hfr₁
  · delta w_X12_isThere
    refine ⟨hM₁.k, _, hM₁.r14, hM₁.k2, by rw [hM₁.n2]; exact vp_c (by decide) (by decide), ?_⟩
    have e9₁ : I1₁ (y0₁ + 2) (ix 342) = macV (I₁ (y0₁ + 2)) 0 := by rw [frW_U hfr₁]; rfl
    rw [e9₁]
    refine r_valueOf hM₁ (by rw [frW_U hfr₁]; exact hU₁) (by rw [frW_U hfr₁]; exact hw₁) (by rw [frW_U hfr₁]; exact ht₁) (by rw [frW_U hfr₁]; exact hT₁) (by rw [frW_U hfr₁]; exact ho₁) (by rw [frW_U hfr₁]; exact hv₁) (fun J₁ r₁ g₁ a31₁ _ => ?_)
    rw [frW_U hfr₁] at a31₁
    rw [a31₁]
    refine ⟨fun z₁ => ⟨fun _ v7₁ g7₁ => ⟨ix (I₁ (y0₁ + 2) 4) - (i₁ + 1), by omega, rfl, i₁ + 1, by omega, rfl, by rw [thrB, if_neg z₁], by rw [g7₁, nI_1], frW_t g₁ hfr₁⟩, fun y₁ => absurd y₁ (by decide)⟩, fun z₁ => ⟨fun y₁ => absurd y₁ (by decide), fun _ v8₁ g8₁ v9₁ g9₁ => ⟨ix (I₁ (y0₁ + 2) 4) - (i₁ + 1), by omega, rfl, i₁ + 1, by omega, rfl, by rw [thrB, if_pos z₁, g8₁], by rw [g9₁, nI_1], frW_t g₁ hfr₁⟩⟩⟩
theorem r_why {v₁ a₁ : Int32} {Q₁ : Int32 → MI → Prop} (hM₁ : MDL K₁ N₁ R₁ m₁) (hU₁ : WFc (I₁ (m₁ + 2))) (hw₁ : WFw (I₁ (m₁ + 2))) (ht₁ : WFvt (I₁ (m₁ + 2))) (hT₁ : WFt₁ (I₁ (m₁ + 2))) (ho₁ : WFo₁ (I₁ (m₁ + 2))) (hv₁ : WFm₁ (macV (I₁ (m₁ + 2))))
    (h₁ : ∀ J₁, frW₁ m₁ J₁ (mup I₁ m₁ 0 0) → Q₁ (whyS (I₁ (m₁ + 2)) (macV (I₁ (m₁ + 2))) v₁ a₁) J₁) : w_X12_why m₁ v₁ a₁ K₁ N₁ I₁ L₁ R₁ Q₁ := by
  delta w_X12_why
  refine ⟨hM₁.k, fun I2₁ g2₁ => ?_⟩
  have u2₁ : I2₁ (m₁ + 2) = I₁ (m₁ + 2) := by rw [g2₁, mup_ne (by omega)]
  rw [← u2₁] at hU₁ hw₁ ht₁ hT₁ ho₁ hv₁ h₁
  rw [← g2₁, whyS] at h₁
  have h2₁ := h₁ I2₁ ⟨fun b₁ _ _ => rfl, fun y₁ _ _ => rfl⟩
  refine r_isVar hM₁ hU₁ ⟨fun e₁ => ?_, fun e₁ => r_isAddress hM₁ ⟨fun e2₁ => r_valueOf hM₁ hU₁ hw₁ ht₁ hT₁ ho₁ hv₁ (fun J₁ r₁ g₁ a31₁ _ => ?_), fun e2₁ => ?_⟩⟩
  · rw [if_neg (by rw [e₁]; decide)] at h2₁; exact h2₁
  · rw [if_pos e₁, if_pos e2₁] at h₁; rw [a31₁]; exact h₁ J₁ g₁
  · rw [if_pos e₁, if_neg (by rw [e2₁]; decide)] at h2₁; exact h2₁
theorem r_now {w₁ : Int32} {Q₁ : Int32 → MI → Prop} (hM₁ : MDL K₁ N₁ R₁ m₁) (hU₁ : WFc (I₁ (m₁ + 2))) (hw₁ : WFw (I₁ (m₁ + 2))) (ht₁ : WFvt (I₁ (m₁ + 2))) (hT₁ : WFt₁ (I₁ (m₁ + 2))) (ho₁ : WFo₁ (I₁ (m₁ + 2))) (hv₁ : WFm₁ (macV (I₁ (m₁ + 2))))
    (h₁ : ∀ J₁, frW₁ m₁ J₁ (mup I₁ m₁ 0 0) → Q₁ (nowS (I₁ (m₁ + 2)) (macV (I₁ (m₁ + 2))) w₁) J₁) : w_X12_now m₁ w₁ K₁ N₁ I₁ L₁ R₁ Q₁ := by
  delta w_X12_now
  refine ⟨hM₁.k, fun I2₁ g2₁ => ?_⟩
  have u2₁ : I2₁ (m₁ + 2) = I₁ (m₁ + 2) := by rw [g2₁, mup_ne (by omega)]
  rw [← u2₁] at hU₁ hw₁ ht₁ hT₁ ho₁ hv₁ h₁
  rw [← g2₁, nowS] at h₁
  have hI₁ := h₁ I2₁ ⟨fun b₁ _ _ => rfl, fun y₁ _ _ => rfl⟩
  refine ⟨fun e0₁ => ⟨_, hM₁.r14, hM₁.k2, by rw [hM₁.n2]; exact vp_c (by decide) (by decide), ?_⟩, fun e0₁ => ⟨fun e1₁ => ⟨_, hM₁.r14, hM₁.k2, by rw [hM₁.n2]; exact vp_c (by decide) (by decide), r_lineOf hM₁ hU₁ ?_⟩, fun e1₁ => ⟨fun e2₁ => ⟨_, hM₁.r14, hM₁.k2, by rw [hM₁.n2]; exact vp_c (by decide) (by decide), ?_⟩, fun e2₁ => ⟨fun e3₁ => ⟨_, hM₁.r14, hM₁.k2, by rw [hM₁.n2]; exact vp_c (by decide) (by decide), r_nextInChain hM₁ hU₁ (Or.inl rfl) ?_⟩, fun e3₁ => ⟨fun e4₁ => r_thoseThere hM₁ hU₁ hw₁ ht₁ hT₁ ho₁ hv₁ (fun J₁ g₁ => ?_), fun e4₁ => ⟨fun e5₁ => ⟨_, hM₁.r14, hM₁.k2, by rw [hM₁.n2]; exact vp_c (by decide) (by decide), ?_⟩, fun e5₁ => ?_⟩⟩⟩⟩⟩⟩
  · rw [if_pos e0₁] at hI₁; exact hI₁
  · rw [if_neg e0₁, if_pos e1₁] at hI₁; exact hI₁
  · rw [if_neg e0₁, if_neg e1₁, if_pos e2₁] at hI₁; exact hI₁
  · rw [if_neg e0₁, if_neg e1₁, if_neg e2₁, if_pos e3₁] at hI₁; exact hI₁
  · rw [if_neg e0₁, if_neg e1₁, if_neg e2₁, if_neg e3₁, if_pos e4₁] at h₁; exact h₁ J₁ g₁
  · rw [if_neg e0₁, if_neg e1₁, if_neg e2₁, if_neg e3₁, if_neg e4₁, if_pos e5₁] at hI₁; exact hI₁
  · rw [if_neg e0₁, if_neg e1₁, if_neg e2₁, if_neg e3₁, if_neg e4₁, if_neg e5₁] at hI₁; exact hI₁
end RG₁
