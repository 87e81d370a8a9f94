/-! ===== tag: both sides, the whole of it ===== -/
theorem tagL_len {l₁ s₁ : List Nat} {p₁ : Int32 × Int32} (hl₁ : l₁.length ≤ 7) (hs₁ : s₁.length ≤ 7) : (tagL l₁ s₁ p₁).length ≤ 28 := by
  have := outL_len (p₁ := p₁)
  rw [tagL, List.length_append, List.length_append, List.length_append, List.length_map, List.length_map]
  have : ([32, 105, 110, 32] : List Nat).length = 4 := rfl
  omega
section UN₁
variable {K₁ N₁ : MK} {I₁ : MI} {L₁ : ML} {R₁ : MR} {t₁ m₁ w₁ n₁ x₁ : Nat} {U₁ V₁ : Nat → Int32} {W₁ : Nat → Int64}
theorem s_nameOf {k₁ : Nat} {Q₁ : Int64 → Prop} (hT₁ : TL K₁ N₁ R₁ t₁ m₁ w₁) (hD₁ : TD I₁ t₁ m₁ w₁ n₁) (hk₁ : k₁ < n₁) (h₁ : Q₁ (L₁ (t₁ + 1) k₁)) : w_X7_nameOf t₁ (nI k₁) K₁ N₁ I₁ L₁ R₁ Q₁ := by
  obtain ⟨h1₁, h2₁, h3₁, h4₁, h5₁, h6₁, h7₁, h8₁, h9₁, h10₁⟩ := hT₁
  obtain ⟨d1₁, d2₁, d3₁⟩ := hD₁
  refine ⟨fun e₁ => absurd e₁ (nlt0 (by omega)), fun _ => ⟨h1₁, fun e₁ => ?_, fun _ => ⟨_, h2₁, h4₁, ?_, ?_⟩⟩⟩
  · rw [d2₁, leN (by omega) (by omega)] at e₁; omega
  · rw [h6₁]; exact (vp_nI (by omega)).mpr (by omega)
  · rw [ix_nI (by omega)]; exact h₁
/-- what tag leaves as it was in the class -/
def frG₁ (x₁ : Nat) (J₁ I₁ : MI) (M₁ L₁ : ML) : Prop := (∀ b₁, b₁ ≠ x₁ + 80 → b₁ ≠ x₁ + 82 → b₁ ≠ x₁ + 28 → b₁ ≠ x₁ + 29 → J₁ b₁ = I₁ b₁) ∧ ∀ b₁, b₁ ≠ x₁ + 81 → M₁ b₁ = L₁ b₁
theorem frG_U {J₁ : MI} {M₁ : ML} {u₁ : Nat} (h₁ : UD I₁ L₁ u₁ U₁ W₁) (g₁ : frG₁ x₁ J₁ I₁ M₁ L₁) (hu₁ : u₁ + 15 < x₁ + 28) : UD J₁ M₁ u₁ U₁ W₁ :=
  h₁.fr (fun a₁ h1₁ h2₁ => g₁.1 a₁ (by omega) (by omega) (by omega) (by omega)) (fun a₁ h1₁ h2₁ => g₁.2 a₁ (by omega))
theorem frG_t {J₁ J'₁ : MI} {M₁ M'₁ : ML} (h₁ : frT₁ x₁ J'₁ J₁ M'₁ M₁) (h2₁ : frG₁ x₁ J₁ I₁ M₁ L₁) : frG₁ x₁ J'₁ I₁ M'₁ L₁ := ⟨fun b₁ h3₁ h4₁ h5₁ h6₁ => by rw [h₁.1 b₁ h3₁ h4₁, h2₁.1 b₁ h3₁ h4₁ h5₁ h6₁], fun b₁ h3₁ => by rw [h₁.2 b₁ h3₁, h2₁.2 b₁ h3₁]⟩
theorem TXT_fr {J₁ : MI} {a₁ : List Nat} (h₁ : TXT₁ I₁ x₁ a₁) (e1₁ : J₁ (x₁ + 80) = I₁ (x₁ + 80)) (e2₁ : J₁ (x₁ + 82) = I₁ (x₁ + 82)) : TXT₁ J₁ x₁ a₁ := ⟨h₁.1.fr e1₁, fun i₁ hi₁ => by rw [e2₁]; exact h₁.2 i₁ hi₁⟩
theorem s_tag {k₁ q₁ : Nat} {l₁ s₁ : List Nat} {Q₁ : Int32 → MI → ML → Prop} (hX₁ : PDL K₁ N₁ R₁ x₁) (hV₁ : MACD I₁ (x₁ + 19) V₁) (hv₁ : WFm₁ V₁) (hD₁ : UD I₁ L₁ (x₁ + 3) U₁ W₁) (hU₁ : WFc U₁) (hw₁ : WFw U₁) (ht₁ : WFvt U₁) (hT₁ : WFt₁ U₁) (ho₁ : WFo₁ U₁)
    (hk₁ : k₁ < ix (U₁ 4)) (hq₁ : q₁ < ix (U₁ 2)) (eq₁ : U₁ (114 + k₁) = nI q₁) (hl₁ : wdOK l₁) (hs₁ : wdOK s₁) (el₁ : L₁ (x₁ + 14) k₁ = encB 32 l₁) (es₁ : L₁ (x₁ + 8) q₁ = encB 32 s₁) (h00₁ : I₁ (x₁ + 80) 0 = nI 1)
    (h₁ : ∀ J₁ M₁, TXT₁ J₁ x₁ (tagL l₁ s₁ (lokS U₁ V₁ (nI k₁) (V₁ 0))) → frG₁ x₁ J₁ I₁ M₁ L₁ → Q₁ (nI (tagL l₁ s₁ (lokS U₁ V₁ (nI k₁) (V₁ 0))).length) J₁ M₁) : w_X11_tag x₁ (nI k₁) K₁ N₁ I₁ L₁ R₁ Q₁ := by
  have n4₁ := hU₁.2.2.2.1.2
  have n2₁ := hU₁.2.1.2
  have hlen := tagL_len (p₁ := lokS U₁ V₁ (nI k₁) (V₁ 0)) hl₁.2.1 hs₁.2.1
  have hol₁ := outL_len (p₁ := lokS U₁ V₁ (nI k₁) (V₁ 0))
  have hl7₁ := hl₁.2.1
  have hs7₁ := hs₁.2.1
  have t4₁ := hX₁.un.2.2.2.2.2.2.2.2.2.1
  have t2₁ := hX₁.un.2.2.2.2.2.2.2.1
  delta w_X11_tag
  refine ⟨hX₁.k, _, hX₁.r_unit, hX₁.un.1, _, hX₁.un.2.2.2.2.1, t4₁.1, s_has t4₁ hD₁.2.2.2.2.1.1 ⟨fun _ => ⟨_, hX₁.r_tag, hX₁.tag.1, s_forget hX₁.tag ?_⟩, fun z₁ => ?_⟩⟩
  case refine_2 => rw [inN_nI hk₁ (by omega)] at z₁; exact absurd z₁ (by decide)
  have f0₁ : frG₁ x₁ (mup I₁ (x₁ + 80) 3 0) I₁ L₁ L₁ := ⟨fun b₁ h1₁ _ _ _ => mup_ne h1₁, fun _ _ => rfl⟩
  have x0₁ : TXT₁ (mup I₁ (x₁ + 80) 3 0) x₁ [] := ⟨⟨by rw [mup_k (by decide)]; exact h00₁, mup_at, by decide⟩, fun i₁ hi₁ => absurd hi₁ (Nat.not_lt_zero i₁)⟩
  generalize mup I₁ (x₁ + 80) 3 0 = I0₁ at f0₁ x0₁
  refine s_nameOf t4₁ (frG_U hD₁ f0₁ (by omega)).2.2.2.2.1.1 hk₁ ?_
  rw [show x₁ + 3 + 10 + 1 = x₁ + 14 by omega, el₁]
  refine s_tagName hX₁ hl₁ x0₁ (by rw [List.length_nil]; omega) (fun J1₁ M1₁ x1₁ g1₁ => ⟨_, hX₁.r_finder, _, hX₁.r_machine, hX₁.mac.1, hX₁.fin, ?_⟩)
  rw [List.nil_append] at x1₁
  have f1₁ := frG_t g1₁ f0₁
  rw [f1₁.1 (x₁ + 19) (by omega) (by omega) (by omega) (by omega), hV₁.1]
  refine s_look hX₁.fil hX₁.mac (MACD_fr hV₁ (fun b₁ hb₁ => f1₁.1 b₁ (by omega) (by omega) (by omega) (by omega))) hv₁ (by omega) hX₁.un (by omega) (frG_U hD₁ f1₁ (by omega)) hU₁ hw₁ ht₁ hT₁ ho₁ (fun J2₁ b2₁ a2₁ => ?_)
  have f2₁ : frG₁ x₁ J2₁ I₁ M1₁ L₁ := ⟨fun b₁ h1₁ h2₁ h3₁ h4₁ => by rw [b2₁ b₁ h3₁ h4₁, f1₁.1 b₁ h1₁ h2₁ h3₁ h4₁], f1₁.2⟩
  have x2₁ : TXT₁ J2₁ x₁ (l₁.map (fun y₁ => 96 + y₁)) := TXT_fr x1₁ (b2₁ _ (by omega) (by omega)) (b2₁ _ (by omega) (by omega))
  have last : ∀ J3₁ M3₁, TXT₁ J3₁ x₁ (l₁.map (fun y₁ => 96 + y₁) ++ outL (lokS U₁ V₁ (nI k₁) (V₁ 0))) → frG₁ x₁ J3₁ I₁ M3₁ L₁ → w_X11_tag_92 x₁ (nI k₁) K₁ N₁ J3₁ M3₁ R₁ Q₁ := by
    intro J3₁ M3₁ x3₁ f3₁
    delta w_X11_tag_92
    refine ⟨hX₁.k, s_tagText (s₁ := [32, 105, 110, 32]) hX₁ (by decide) rfl (by decide) x3₁ (by rw [List.length_append, List.length_map]; show _ + 4 ≤ 40; omega) (fun J4₁ M4₁ x4₁ g4₁ => ?_)⟩
    have f4₁ := frG_t g4₁ f3₁
    have u4₁ := frG_U hD₁ f4₁ (by omega)
    refine ⟨_, hX₁.r_unit, hX₁.un.1, _, hX₁.un.2.2.1, _, hX₁.un.2.2.2.2.1, t4₁.1, s_at t4₁ u4₁.2.2.2.2.1.1 ?_⟩
    rw [show (0 : Int32) = nI 0 from rfl, tat_in hk₁ (by omega) (by omega) (by omega), (u4₁.2.2.2.2.1.2 k₁ hk₁).1, eq₁]
    refine ⟨t2₁.1, s_nameOf t2₁ u4₁.2.2.1.1 hq₁ ?_⟩
    rw [show x₁ + 3 + 4 + 1 = x₁ + 8 by omega, f4₁.2 _ (by omega), es₁]
    refine s_tagName hX₁ hs₁ x4₁ (by rw [List.length_append, List.length_append, List.length_map]; show _ + 4 + _ ≤ 40; omega) (fun J5₁ M5₁ x5₁ g5₁ => ⟨_, hX₁.r_tag, hX₁.tag.1, ?_⟩)
    have x5₁ : TXT₁ J5₁ x₁ (tagL l₁ s₁ (lokS U₁ V₁ (nI k₁) (V₁ 0))) := x5₁
    rw [x5₁.1.2.1]
    exact h₁ J5₁ M5₁ x5₁ (frG_t g5₁ f4₁)
  refine ⟨fun z₁ => s_tagText (s₁ := [32, 105, 115, 32, 111, 117, 116]) hX₁ (by decide) rfl (by decide) x2₁ (by rw [List.length_map]; show _ + 7 ≤ 40; omega) (fun J3₁ M3₁ x3₁ g3₁ => last J3₁ M3₁ ?_ (frG_t g3₁ f2₁)), fun z₁ => s_tagText (s₁ := [32, 105, 115, 32]) hX₁ (by decide) rfl (by decide) x2₁ (by rw [List.length_map]; show _ + 4 ≤ 40; omega) (fun J3₁ M3₁ x3₁ g3₁ => ?_)⟩
  · rw [outL, if_neg z₁]; exact x3₁
  · rw [g3₁.1 (x₁ + 28) (by omega) (by omega), a2₁ z₁]
    have vok₁ := lokS_ok hU₁ hv₁ hw₁ ht₁ hT₁ ho₁ (nI k₁) (V₁ 0)
    rw [outL, if_pos z₁, List.length_append] at hol₁
    have hol₁ : 4 + (numL (lokS U₁ V₁ (nI k₁) (V₁ 0)).2).length ≤ 10 := hol₁
    refine s_tagNumber hX₁ vok₁ x3₁ (by rw [List.length_append, List.length_map]; show _ + 4 + _ ≤ 40; omega) (fun J4₁ M4₁ x4₁ g4₁ => last J4₁ M4₁ ?_ (frG_t g4₁ (frG_t g3₁ f2₁)))
    rw [outL, if_pos z₁, ← List.append_assoc]; exact x4₁
end UN₁
section RG₁
variable {K₁ N₁ : MK} {I₁ : MI} {L₁ : ML} {R₁ : MR} {m₁ : Nat}
theorem r_writeNext {l₁ t₁ : List Nat} {Q₁ : MI → Prop} (hM₁ : MDL K₁ N₁ R₁ m₁) (hl₁ : wdOK l₁) (hT₁ : TXR₁ I₁ m₁ t₁) (ht₁ : t₁.length + 1 + l₁.length ≤ 48) (h₁ : ∀ J₁, TXR₁ J₁ m₁ (t₁ ++ 32 :: l₁.map (fun y₁ => 96 + y₁)) → frS₁ m₁ J₁ I₁ → Q₁ J₁) : w_X12_writeNext m₁ (lN (encN 27 l₁)) K₁ N₁ I₁ L₁ R₁ Q₁ := by
  delta w_X12_writeNext
  refine ⟨hM₁.k, r_write (c₁ := 32) hM₁ hT₁ (by omega) (fun J₁ g1₁ g2₁ => ?_)⟩
  refine r_word hM₁ 9 l₁ _ J₁ _ hl₁.1 (by have := hl₁.2.1; omega) hl₁.2.1 hl₁.2.2 g1₁ (by rw [List.length_append, List.length_singleton]; omega) (fun J2₁ g3₁ g4₁ => h₁ J2₁ ?_ (frS_t g4₁ g2₁))
  rw [List.append_assoc] at g3₁; exact g3₁
/-- what tag leaves as it was in the reference -/
def frH₁ (m₁ : Nat) (J₁ I₁ : MI) : Prop := (∀ b₁, b₁ ≠ m₁ → b₁ ≠ m₁ + 22 → b₁ ≠ m₁ + 14 → J₁ b₁ = I₁ b₁) ∧ ∀ y₁, y₁ ≠ 47 → y₁ ≠ 30 → y₁ ≠ 31 → y₁ ≠ 0 → J₁ m₁ y₁ = I₁ m₁ y₁
theorem frH_t {J₁ J'₁ : MI} (h₁ : frS₁ m₁ J'₁ J₁) (h2₁ : frH₁ m₁ J₁ I₁) : frH₁ m₁ J'₁ I₁ := ⟨fun b₁ h3₁ h4₁ h5₁ => by rw [h₁.1 b₁ h3₁ h4₁, h2₁.1 b₁ h3₁ h4₁ h5₁], fun y₁ h3₁ h4₁ h5₁ h6₁ => by rw [h₁.2 y₁ h3₁, h2₁.2 y₁ h3₁ h4₁ h5₁ h6₁]⟩
theorem TXR_fr {J₁ : MI} {a₁ : List Nat} (h₁ : TXR₁ I₁ m₁ a₁) (e1₁ : J₁ m₁ 47 = I₁ m₁ 47) (e2₁ : J₁ (m₁ + 22) = I₁ (m₁ + 22)) : TXR₁ J₁ m₁ a₁ := ⟨by rw [e1₁]; exact h₁.1, fun i₁ hi₁ => by rw [e2₁]; exact h₁.2 i₁ hi₁⟩
theorem r_tag {k₁ q₁ : Nat} {l₁ s₁ : List Nat} {Q₁ : Int32 → MI → Prop} (hM₁ : MDL K₁ N₁ R₁ m₁) (hU₁ : WFc (I₁ (m₁ + 2))) (hw₁ : WFw (I₁ (m₁ + 2))) (ht₁ : WFvt (I₁ (m₁ + 2))) (hT₁ : WFt₁ (I₁ (m₁ + 2))) (ho₁ : WFo₁ (I₁ (m₁ + 2))) (hv₁ : WFm₁ (macV (I₁ (m₁ + 2))))
    (hk₁ : k₁ < ix (I₁ (m₁ + 2) 4)) (hq₁ : q₁ < ix (I₁ (m₁ + 2) 2)) (eq₁ : I₁ (m₁ + 2) (114 + k₁) = nI q₁) (hl₁ : wdOK l₁) (hs₁ : wdOK s₁) (el₁ : L₁ (m₁ + 8) (16 + k₁) = encB 27 l₁) (es₁ : L₁ (m₁ + 8) q₁ = encB 27 s₁)
    (h₁ : ∀ J₁, TXR₁ J₁ m₁ (tagL l₁ s₁ (lokS (I₁ (m₁ + 2)) (macV (I₁ (m₁ + 2))) (nI k₁) (macV (I₁ (m₁ + 2)) 0))) → frH₁ m₁ J₁ I₁ → Q₁ (nI (tagL l₁ s₁ (lokS (I₁ (m₁ + 2)) (macV (I₁ (m₁ + 2))) (nI k₁) (macV (I₁ (m₁ + 2)) 0))).length) J₁) : w_X12_tag m₁ (nI k₁) K₁ N₁ I₁ L₁ R₁ Q₁ := by
  have n4₁ := hU₁.2.2.2.1.2
  have n2₁ := hU₁.2.1.2
  have hlen := tagL_len (p₁ := lokS (I₁ (m₁ + 2)) (macV (I₁ (m₁ + 2))) (nI k₁) (macV (I₁ (m₁ + 2)) 0)) hl₁.2.1 hs₁.2.1
  have hol₁ := outL_len (p₁ := lokS (I₁ (m₁ + 2)) (macV (I₁ (m₁ + 2))) (nI k₁) (macV (I₁ (m₁ + 2)) 0))
  have hl7₁ := hl₁.2.1
  have hs7₁ := hs₁.2.1
  delta w_X12_tag
  refine ⟨hM₁.k, fun I2₁ g2₁ => ?_⟩
  have u2₁ : I2₁ (m₁ + 2) = I₁ (m₁ + 2) := by rw [g2₁, mup_ne (by omega)]
  refine r_isVar hM₁ (by rw [u2₁]; exact hU₁) ⟨fun _ I4₁ g4₁ => ⟨_, hM₁.r20, hM₁.k8, by rw [hM₁.n8]; exact vp_cn (by omega) (by decide), ?_⟩, fun z₁ => ?_⟩
  case refine_2 => rw [u2₁, inN_nI hk₁ (by omega)] at z₁; exact absurd z₁ (by decide)
  have f4₁ : frH₁ m₁ I4₁ I₁ := ⟨fun b₁ h1₁ _ _ => by rw [g4₁, mup_ne h1₁, g2₁, mup_ne h1₁], fun y₁ h1₁ _ _ h2₁ => by rw [g4₁, mup_k h1₁, g2₁, mup_k h2₁]⟩
  have x4₁ : TXR₁ I4₁ m₁ [] := ⟨by rw [g4₁, mup_at]; rfl, fun i₁ hi₁ => absurd hi₁ (Nat.not_lt_zero i₁)⟩
  rw [ix_cn (by omega), el₁, encB_27]
  refine r_word hM₁ 9 l₁ [] I4₁ _ hl₁.1 (by omega) hl₁.2.1 hl₁.2.2 x4₁ (by rw [List.length_nil]; omega) (fun J1₁ x1₁ g1₁ => ?_)
  rw [List.nil_append] at x1₁
  have f1₁ := frH_t g1₁ f4₁
  refine r_spelt ?_
  rw [show spS₁ 105 115 0 0 0 0 = lN (encN 27 [9, 19]) by decide +kernel]
  refine r_writeNext hM₁ ⟨by decide, by decide, by decide⟩ x1₁ (by rw [List.length_map]; show _ + 1 + 2 ≤ 48; omega) (fun J2₁ x2₁ g2b₁ => ⟨_, hM₁.r14, hM₁.k2, by rw [hM₁.n2]; exact vp_c (by decide) (by decide), ?_⟩)
  have f2₁ := frH_t g2b₁ f1₁
  have u5₁ : J2₁ (m₁ + 2) = I₁ (m₁ + 2) := f2₁.1 _ (by omega) (by omega) (by omega)
  rw [u5₁]
  have last : ∀ J3₁, TXR₁ J3₁ m₁ (l₁.map (fun y₁ => 96 + y₁) ++ outL (lokS (I₁ (m₁ + 2)) (macV (I₁ (m₁ + 2))) (nI k₁) (macV (I₁ (m₁ + 2)) 0))) → frH₁ m₁ J3₁ I₁ → w_X12_tag_112 m₁ (nI k₁) K₁ N₁ J3₁ L₁ R₁ Q₁ := by
    intro J3₁ x3₁ f3₁
    delta w_X12_tag_112
    refine r_wordOf (k₁ := 7) (by decide) ⟨hM₁.k, r_writeNext hM₁ (wdK_ok 7 (by decide)) x3₁ (by rw [List.length_append, List.length_map]; show _ + 1 + 2 ≤ 48; omega) (fun J4₁ x5₁ g5₁ => ⟨_, hM₁.r20, _, hM₁.r14, hM₁.k2, by rw [hM₁.n2]; exact vp_cn (by omega) (by decide), hM₁.k8, ?_⟩)⟩
    have f5₁ := frH_t g5₁ f3₁
    rw [f5₁.1 (m₁ + 2) (by omega) (by omega) (by omega), ix_cn (by omega), eq₁, ix_nI (by omega), es₁, encB_27]
    refine ⟨by rw [hM₁.n8]; exact (vp_nI (by omega)).mpr (by omega), r_writeNext hM₁ hs₁ x5₁ (by rw [List.length_append, List.length_append, List.length_map]; show _ + 3 + 1 + _ ≤ 48; omega) (fun J6₁ x6₁ g6₁ => ?_)⟩
    have x6₁ : TXR₁ J6₁ m₁ (tagL l₁ s₁ (lokS (I₁ (m₁ + 2)) (macV (I₁ (m₁ + 2))) (nI k₁) (macV (I₁ (m₁ + 2)) 0))) := by
      rw [List.append_assoc (_ ++ _)] at x6₁
      rw [tagL, List.append_assoc (_ ++ _)]; exact x6₁
    rw [x6₁.1]
    exact h₁ J6₁ x6₁ (frH_t g6₁ f5₁)
  have e0₁ : I₁ (m₁ + 2) (ix 342) = macV (I₁ (m₁ + 2)) 0 := rfl
  rw [e0₁]
  refine r_valueOf hM₁ (by rw [u5₁]; exact hU₁) (by rw [u5₁]; exact hw₁) (by rw [u5₁]; exact ht₁) (by rw [u5₁]; exact hT₁) (by rw [u5₁]; exact ho₁) (by rw [u5₁]; exact hv₁) (fun J3₁ r₁ g3₁ a31₁ er₁ => ?_)
  rw [u5₁] at a31₁ er₁
  rw [a31₁]
  have f3₁ : frH₁ m₁ J3₁ I₁ := ⟨fun b₁ h1₁ h2₁ h3₁ => by rw [g3₁.1 b₁ h1₁ h3₁, f2₁.1 b₁ h1₁ h2₁ h3₁], fun y₁ h1₁ h2₁ h3₁ h4₁ => by rw [g3₁.2 y₁ h2₁ h3₁, f2₁.2 y₁ h1₁ h2₁ h3₁ h4₁]⟩
  have x3₁ : TXR₁ J3₁ m₁ (l₁.map (fun y₁ => 96 + y₁) ++ [32, 105, 115]) := TXR_fr x2₁ (g3₁.2 _ (by decide) (by decide)) (g3₁.1 _ (by omega) (by omega))
  refine ⟨fun z₁ => ?_, fun z₁ => r_spelt ?_⟩
  · have er₁ := er₁ z₁
    have vok₁ := lokS_ok hU₁ hv₁ hw₁ ht₁ hT₁ ho₁ (nI k₁) (macV (I₁ (m₁ + 2)) 0)
    rw [← er₁] at vok₁
    rw [outL, if_pos z₁, ← er₁] at last hol₁
    obtain ⟨n₁, hn₁, en₁⟩ := vok₁
    have num₁ : ∀ (J5₁ : MI) (t₁ : List Nat) (n₁ : Nat), n₁ < 100000 → TXR₁ J5₁ m₁ t₁ → t₁.length ≤ 20 → (∀ J₁, TXR₁ J₁ m₁ (t₁ ++ numF n₁ 5) → frS₁ m₁ J₁ J5₁ → w_X12_tag_112 m₁ (nI k₁) K₁ N₁ J₁ L₁ R₁ Q₁) → wc_X12_writeNumber m₁ (nI n₁) K₁ N₁ J5₁ L₁ R₁ (fun I19₁ => w_X12_tag_112 m₁ (nI k₁) K₁ N₁ I19₁ L₁ R₁ Q₁) := by
      intro J5₁ t₁ n₁ hn₁ x5₁ h20₁ hq₁
      have hp₁ : numF n₁ 7 = numF n₁ 5 := by rw [numF_m (by show n₁ < 1000000; omega) (by decide), numF_m (by show n₁ < 100000; omega) (by decide)]
      have := numF_len n₁ 5
      exact r_numD hM₁ 7 n₁ t₁ J5₁ _ (by decide) (by decide) (by show n₁ < 10000000; omega) x5₁ (by rw [hp₁]; omega) (fun J6₁ g5₁ g6₁ => hq₁ J6₁ (by rw [hp₁] at g5₁; exact g5₁) g6₁)
    refine r_write (c₁ := 32) hM₁ x3₁ (by rw [List.length_append, List.length_map]; show _ + 3 < 48; omega) (fun J4₁ x5₁ g5₁ => ⟨fun y₁ => ?_, fun y₁ => ?_⟩)
    · rcases en₁ with e₁ | ⟨h1₁, e₁⟩
      · delta w_X12_tag_104 w_X12_size
        refine ⟨fun _ => ⟨hM₁.k, ?_⟩, fun y2₁ => absurd y₁ y2₁⟩
        rw [e₁]
        refine num₁ J4₁ _ n₁ hn₁ x5₁ (by rw [List.length_append, List.length_append, List.length_map]; show _ + 3 + 1 ≤ 20; omega) (fun J6₁ x6₁ g6₁ => last J6₁ ?_ (frH_t g6₁ (frH_t g5₁ f3₁)))
        rw [numL, if_pos y₁, e₁, ix_nI (by omega)]
        rw [List.append_assoc, List.append_assoc] at x6₁
        exact x6₁
      · rw [e₁] at y₁; exact absurd y₁ (nI_neg0 h1₁ (by omega))
    · rcases en₁ with e₁ | ⟨h1₁, e₁⟩
      · exact absurd (by rw [e₁, show (0 : Int32) = nI 0 from rfl, leN (by omega) (by omega)]; omega) y₁
      · refine r_write (c₁ := 45) hM₁ x5₁ (by rw [List.length_append, List.length_append, List.length_map]; show _ + 3 + 1 < 48; omega) (fun J5₁ x6₁ g6₁ => ?_)
        delta w_X12_tag_104 w_X12_size
        refine ⟨fun y2₁ => absurd y2₁ y₁, fun _ => ⟨hM₁.k, ?_⟩⟩
        rw [e₁, Int32.neg_neg]
        refine num₁ J5₁ _ n₁ hn₁ x6₁ (by rw [List.length_append, List.length_append, List.length_append, List.length_map]; show _ + 3 + 1 + 1 ≤ 20; omega) (fun J6₁ x7₁ g7₁ => last J6₁ ?_ (frH_t g7₁ (frH_t g6₁ (frH_t g5₁ f3₁))))
        rw [numL, if_neg y₁, e₁, Int32.neg_neg, ix_nI (by omega)]
        rw [List.append_assoc, List.append_assoc, List.append_assoc] at x7₁
        exact x7₁
  · rw [show spS₁ 111 117 116 0 0 0 = lN (encN 27 [15, 21, 20]) by decide +kernel]
    rw [outL, if_neg z₁] at last
    refine r_writeNext hM₁ ⟨by decide, by decide, by decide⟩ x3₁ (by rw [List.length_append, List.length_map]; show _ + 3 + 1 + 3 ≤ 48; omega) (fun J4₁ x5₁ g5₁ => last J4₁ ?_ (frH_t g5₁ f3₁))
    rw [List.append_assoc] at x5₁
    exact x5₁
end RG₁
