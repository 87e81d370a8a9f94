/-! ===== book: the reference judges ===== -/
section BR₁
variable {K₁ N₁ : MK} {I₁ : MI} {L₁ : ML} {R₁ : MR} {m₁ : Nat} {U₁ V₁ : Nat → Int32} {ls₁ : List (Nat × Nat × Nat)}
theorem r_goBy {i₁ : Nat} {l₁ : Nat × Nat × Nat} {Q₁ : Int32 → MI → Prop} (hM₁ : MDL K₁ N₁ R₁ m₁) (hi₁ : i₁ < 40) (hS₁ : lnR₁ I₁ m₁ i₁ l₁) (hl₁ : lnW₁ l₁) (hI₁ : I₁ (m₁ + 2) = ovr₁ U₁ V₁) (hU₁ : WFc U₁) (hv₁ : WFv₁ U₁ V₁) (hV₁ : ∀ k₁, 83 ≤ k₁ → V₁ k₁ = macV U₁ k₁)
    (hw₁ : jgL₁ U₁ V₁ l₁ ≠ 0 → Q₁ (jgL₁ U₁ V₁ l₁) I₁)
    (h0₁ : jgL₁ U₁ V₁ l₁ = 0 → ∀ J₁, J₁ (m₁ + 2) = ovr₁ U₁ (jgN₁ U₁ V₁ l₁) → (∀ b₁, b₁ ≠ m₁ + 2 → J₁ b₁ = I₁ b₁) → Q₁ 0 J₁) : w_X12_goBy m₁ (nI (3 * i₁)) K₁ N₁ I₁ L₁ R₁ Q₁ := by
  obtain ⟨s0₁, s1₁, s2₁⟩ := hS₁
  have d8₁ := hl₁.1
  have ag₁ : agU₁ (ovr₁ U₁ V₁) U₁ := ovr_ag
  have em₁ : macV (I₁ (m₁ + 2)) = V₁ := by rw [hI₁]; exact mac_ovr2 hV₁
  have hUI₁ : WFc (I₁ (m₁ + 2)) := by rw [hI₁]; exact WFc_cg ag₁ hU₁
  obtain ⟨k2₁, hk2₁, e2₁⟩ := hv₁.1
  have e344 : I₁ (m₁ + 2) 344 = nI k2₁ := by rw [hI₁, ovr₁, if_pos (by decide)]; exact e2₁
  delta w_X12_goBy
  refine ⟨hM₁.k, _, hM₁.r49, hM₁.k23, by rw [hM₁.n23]; exact (vp_nI (by omega)).mpr (by omega), ?_⟩
  rw [ix_nI (by omega), s0₁]
  rintro v5₁ rfl
  have s30₁ : (l₁.1 = 2 → adr U₁ (nI l₁.2.1) = true) → w_X12_goBy_30 m₁ (nI (3 * i₁)) (nI l₁.1) K₁ N₁ I₁ L₁ R₁ Q₁ := fun h2₁ => by
    have hda₁ : dar₁ (I₁ (m₁ + 2)) (nI l₁.2.1) l₁.1 := by rw [hI₁, dar_cg ag₁]; exact lnW_dar hl₁ h2₁
    have jl₁ : jgL₁ U₁ V₁ l₁ = if dwS₁ U₁ V₁ (nI l₁.2.1) (nI l₁.2.2) l₁.1 = 0 then 0 else nI (10 * l₁.1) + dwS₁ U₁ V₁ (nI l₁.2.1) (nI l₁.2.2) l₁.1 := by
      rw [jgL₁, if_neg (fun z₁ => by rw [h2₁ z₁.1] at z₁; exact absurd z₁.2 (by decide))]
    have edw₁ : dwS₁ (I₁ (m₁ + 2)) (macV (I₁ (m₁ + 2))) (nI l₁.2.1) (nI l₁.2.2) l₁.1 = dwS₁ U₁ V₁ (nI l₁.2.1) (nI l₁.2.2) l₁.1 := by rw [em₁, hI₁]; exact dwS_cg ag₁ hU₁ _ _ _
    delta w_X12_goBy_30
    rw [show (2 : Int32) = nI 2 from rfl, addN, nI_1]
    refine ⟨hM₁.k, _, hM₁.r49, hM₁.k23, by rw [hM₁.n23]; exact (vp_nI (by omega)).mpr (by omega), by rw [hM₁.n23]; exact (vp_nI (by omega)).mpr (by omega), ?_⟩
    rw [ix_nI (by omega), ix_nI (by omega), s1₁, s2₁]
    refine r_refusal hM₁ hUI₁ e344 hk2₁ d8₁ hda₁ ?_
    rw [edw₁]
    refine ⟨fun z₁ => r_live hM₁ hUI₁ e344 hk2₁ d8₁ hda₁ (by rw [edw₁]; exact z₁) (fun J₁ g₁ b₁ => h0₁ (by rw [jl₁, if_pos z₁]) J₁ ?_ b₁), fun z₁ => ?_⟩
    · rw [g₁, em₁, hI₁, ovr_ovr, dlS_cg ag₁ hU₁]; rfl
    · have e₁ : jgL₁ U₁ V₁ l₁ = nI (10 * l₁.1) + dwS₁ U₁ V₁ (nI l₁.2.1) (nI l₁.2.2) l₁.1 := by rw [jl₁, if_neg z₁]
      rw [e₁] at hw₁
      rw [show (10 : Int32) = nI 10 from rfl, mulN]
      exact hw₁ (jgL_w d8₁ ((dwS_v U₁ V₁ _ _ _).resolve_left z₁))
  rw [show (2 : Int32) = nI 2 from rfl, eqN (by omega) (by omega), nI_1]
  refine ⟨fun z₁ => s30₁ (fun y₁ => absurd y₁ z₁), fun z₁ => ⟨by rw [hM₁.n23]; exact (vp_nI (by omega)).mpr (by omega), r_isAddress hM₁ ?_⟩⟩
  rw [ix_nI (by omega), s1₁, hI₁, adr_cg ag₁]
  refine ⟨fun y₁ => s30₁ (fun _ => y₁), fun y₁ => ?_⟩
  have e₁ : jgL₁ U₁ V₁ l₁ = 29 := by rw [jgL₁, if_pos ⟨z₁, y₁⟩]
  rw [e₁] at hw₁
  exact hw₁ (by decide)
/-- what is told of a book: the reference -/
def TLDR (J₁ : MI) (m₁ : Nat) (U₁ V₁ : Nat → Int32) (i₁ : Nat) (w₁ : Int32) : Prop := J₁ m₁ 52 ≠ 0 ∧ J₁ (m₁ + 24) 0 = w₁ ∧ J₁ (m₁ + 24) 1 = nI i₁ ∧ J₁ (m₁ + 24) 2 = V₁ 0 ∧ J₁ (m₁ + 24) 3 = thrB U₁ V₁ (V₁ 0) (ix (U₁ 4))
theorem r_judge {lv₁ : Int32} {Q₁ : Int32 → MI → ML → Prop} (hM₁ : MDL K₁ N₁ R₁ m₁) (hS₁ : BKR₁ I₁ m₁ ls₁) (h40₁ : ls₁.length ≤ 40) (hl₁ : ∀ l₁, l₁ ∈ ls₁ → lnW₁ l₁) (hI₁ : I₁ (m₁ + 2) = U₁) (hU₁ : WFc U₁) (hr₁ : WFr U₁) (hv₁ : WFv₁ U₁ (macV U₁))
    (h₁ : ∀ J₁, J₁ (m₁ + 2) = ovr₁ U₁ (jgS₁ U₁ ls₁ (macV U₁) 0).1 → (∀ b₁, b₁ ≠ m₁ + 2 → J₁ b₁ = I₁ b₁) → w_X12_book_108 m₁ lv₁ (nI (jgS₁ U₁ ls₁ (macV U₁) 0).2.1) (jgS₁ U₁ ls₁ (macV U₁) 0).2.2 K₁ N₁ J₁ L₁ R₁ Q₁) : w_X12_book_78 m₁ lv₁ 0 0 K₁ N₁ I₁ L₁ R₁ Q₁ := by
  delta w_X12_book_78
  refine ⟨fun n1₁ y0₁ y1₁ y2₁ y3₁ I1₁ L1₁ => y0₁ = m₁ ∧ y1₁ = lv₁ ∧ L1₁ = L₁ ∧ ∃ (i₁ : Nat) (V1₁ : Nat → Int32), y2₁ = nI i₁ ∧ i₁ ≤ ls₁.length ∧ I1₁ (m₁ + 2) = ovr₁ U₁ V1₁ ∧ WFv₁ U₁ V1₁ ∧ (∀ k₁, 83 ≤ k₁ → V1₁ k₁ = macV U₁ k₁) ∧ (∀ b₁, b₁ ≠ m₁ + 2 → I1₁ b₁ = I₁ b₁) ∧ ((y3₁ = 0 ∧ n1₁ = 2 * (ls₁.length - i₁) + 1 ∧ jgS₁ U₁ (ls₁.drop i₁) V1₁ i₁ = jgS₁ U₁ ls₁ (macV U₁) 0) ∨ (y3₁ ≠ 0 ∧ n1₁ = 2 * (ls₁.length - i₁) ∧ jgS₁ U₁ ls₁ (macV U₁) 0 = (V1₁, i₁, y3₁))), ⟨2 * (ls₁.length - 0) + 1, rfl, rfl, rfl, 0, macV U₁, rfl, Nat.zero_le _, by rw [ovr_mac]; exact hI₁, hv₁, fun _ _ => rfl, fun _ _ => rfl, Or.inl ⟨rfl, rfl, rfl⟩⟩, ?_⟩
  rintro n1₁ y0₁ y1₁ y2₁ y3₁ I1₁ L1₁ ⟨rfl, rfl, rfl, i₁, V1₁, rfl, hi₁, hI1₁, hv1₁, hV1₁, fr₁, hE₁⟩
  rw [fr₁ y0₁ (by omega), hS₁.1, leN (by omega) (by omega)]
  have done : jgS₁ U₁ ls₁ (macV U₁) 0 = (V1₁, i₁, y3₁) → w_X12_book_108 y0₁ y1₁ (nI i₁) y3₁ K₁ N₁ I1₁ L1₁ R₁ Q₁ := fun e₁ => by
    obtain ⟨e1₁, e2₁, e3₁⟩ := pr3₁ e₁
    rw [e1₁, e2₁, e3₁] at h₁
    exact h₁ I1₁ hI1₁ fr₁
  refine ⟨hM₁.k, fun q₁ => done ?_, fun q₁ => ⟨fun z₁ => done ?_, fun z₁ => ?_⟩⟩
  · rcases hE₁ with ⟨z₁, _, hE₁⟩ | ⟨_, _, hE₁⟩
    · rw [List.drop_eq_nil_of_le q₁, jgS₁] at hE₁
      rw [← hE₁, z₁]
    · exact hE₁
  · exact (hE₁.resolve_left (fun y₁ => z₁ y₁.1)).2.2
  · obtain ⟨-, rfl, hF₁⟩ := hE₁.resolve_right (fun y₁ => y₁.1 z₁)
    subst z₁
    rw [drop_g (d₁ := ((0, 0, 0) : Nat × Nat × Nat)) (show i₁ < ls₁.length by omega)] at hF₁
    have hs₁ := hS₁.2 i₁ (by omega)
    generalize hle₁ : ls₁.getD i₁ (0, 0, 0) = l₁ at hF₁ hs₁
    have hlw₁ : lnW₁ l₁ := by rw [← hle₁]; exact hl₁ _ (getD_mm (by omega))
    rw [show (3 : Int32) = nI 3 from rfl, mulN]
    refine r_goBy (i₁ := i₁) (l₁ := l₁) hM₁ (by omega) (by rw [lnR₁, fr₁ _ (by omega)]; exact hs₁) hlw₁ hI1₁ hU₁ hv1₁ hV1₁ (fun y₁ => ⟨fun _ => ⟨2 * (ls₁.length - i₁), by omega, rfl, rfl, rfl, i₁, V1₁, rfl, hi₁, hI1₁, hv1₁, hV1₁, fr₁, Or.inr ⟨y₁, rfl, ?_⟩⟩, fun z₁ => absurd z₁ y₁⟩) (fun y₁ J₁ g₁ b₁ => ⟨fun z₁ => absurd rfl z₁, fun _ v33₁ g33₁ => ⟨2 * (ls₁.length - (i₁ + 1)) + 1, by omega, rfl, rfl, rfl, i₁ + 1, jgN₁ U₁ V1₁ l₁, by rw [g33₁, nI_1], by omega, g₁, (jgN_v hU₁ hr₁ hv1₁ hlw₁ y₁).1, fun k₁ hk₁ => by rw [(jgN_v hU₁ hr₁ hv1₁ hlw₁ y₁).2 k₁ hk₁, hV1₁ k₁ hk₁], fun b'₁ q'₁ => by rw [b₁ b'₁ q'₁, fr₁ b'₁ q'₁], Or.inl ⟨rfl, rfl, ?_⟩⟩⟩)
    · rw [jgS₁, if_pos y₁] at hF₁
      exact hF₁.symm
    · rw [jgS₁, if_neg (fun w₁ => w₁ y₁)] at hF₁
      exact hF₁
end BR₁
