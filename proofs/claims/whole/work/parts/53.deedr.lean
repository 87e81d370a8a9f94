/-! ===== a deed, the reference's: refusal, live ===== -/
section RG₁
variable {K₁ N₁ : MK} {I₁ : MI} {L₁ : ML} {R₁ : MR} {m₁ : Nat}
theorem r_refusal {d₁ n₁ : Nat} {a₁ b₁ : Int32} {Q₁ : Int32 → Prop} (hM₁ : MDL K₁ N₁ R₁ m₁) (hU₁ : WFc (I₁ (m₁ + 2))) (e2₁ : I₁ (m₁ + 2) 344 = nI n₁) (hn₁ : n₁ ≤ 8) (hd₁ : d₁ < 8) (ha₁ : dar₁ (I₁ (m₁ + 2)) a₁ d₁)
    (h₁ : Q₁ (dwS₁ (I₁ (m₁ + 2)) (macV (I₁ (m₁ + 2))) a₁ b₁ d₁)) : w_X12_refusal m₁ (nI d₁) a₁ b₁ K₁ N₁ I₁ L₁ R₁ Q₁ := by
  have V2₁ : macV (I₁ (m₁ + 2)) 2 = nI n₁ := e2₁
  delta w_X12_refusal
  obtain rfl | rfl | rfl | rfl | rfl | rfl | rfl | rfl : d₁ = 0 ∨ d₁ = 1 ∨ d₁ = 2 ∨ d₁ = 3 ∨ d₁ = 4 ∨ d₁ = 5 ∨ d₁ = 6 ∨ d₁ = 7 := by omega
  · obtain ⟨j₁, hj₁, rfl⟩ := inN_t ha₁ (by decide)
    rw [dwS₁, ix_nI (by omega), macV, show 342 + (11 + j₁) = 353 + j₁ by omega] at h₁
    refine ⟨fun _ => ⟨hM₁.k, _, hM₁.r14, hM₁.k2, by rw [hM₁.n2]; exact vp_cn (by omega) (by decide), ?_⟩, fun e₁ => absurd rfl e₁⟩
    rw [ix_cn (by omega)]
    refine ⟨fun e₁ => ?_, fun e₁ => ?_⟩
    · rw [if_neg e₁] at h₁; exact h₁
    · rw [if_pos e₁] at h₁; exact h₁
  · obtain ⟨j₁, hj₁, rfl⟩ := inN_t ha₁ (by decide)
    rw [dwS₁, ix_nI (by omega), macV, show 342 + (19 + j₁) = 361 + j₁ by omega] at h₁
    refine ⟨fun e₁ => absurd e₁ (by decide), fun _ => ⟨fun _ => ⟨hM₁.k, _, hM₁.r14, hM₁.k2, by rw [hM₁.n2]; exact vp_cn (by omega) (by decide), ?_⟩, fun e₁ => absurd rfl e₁⟩⟩
    rw [ix_cn (by omega)]
    refine ⟨fun e₁ => ?_, fun e₁ => ?_⟩
    · rw [if_neg e₁] at h₁; exact h₁
    · rw [if_pos e₁] at h₁; exact h₁
  · rw [dwS₁, macV] at h₁
    refine ⟨fun e₁ => absurd e₁ (by decide), fun _ => ⟨fun e₁ => absurd e₁ (by decide), fun _ => ⟨fun _ => ⟨hM₁.k, _, hM₁.r14, hM₁.k2, by rw [hM₁.n2]; exact vp_c (by decide) (by decide), ?_⟩, fun e₁ => absurd rfl e₁⟩⟩⟩
    rw [ix_c (by decide)]
    refine ⟨fun e₁ => ?_, fun e₁ => ?_⟩
    · rw [if_neg e₁] at h₁; exact h₁
    · rw [if_pos e₁] at h₁; exact h₁
  · rw [dwS₁, V2₁] at h₁
    refine ⟨fun e₁ => absurd e₁ (by decide), fun _ => ⟨fun e₁ => absurd e₁ (by decide), fun _ => ⟨fun e₁ => absurd e₁ (by decide), fun _ => ⟨fun _ => ⟨hM₁.k, r_stopAt hM₁ e2₁ hn₁ ⟨fun e₁ => ⟨_, hM₁.r14, hM₁.k2, by rw [hM₁.n2]; exact vp_c (by decide) (by decide), ?_⟩, fun e₁ => ?_⟩⟩, fun e₁ => absurd rfl e₁⟩⟩⟩⟩
    · rw [if_pos e₁] at h₁
      rw [ix_c (by decide), e2₁]
      refine ⟨fun f₁ => ?_, fun f₁ => ?_⟩
      · rw [if_neg f₁] at h₁; exact h₁
      · rw [if_pos f₁] at h₁; exact h₁
    · rw [if_neg e₁] at h₁; exact h₁
  · rw [dwS₁] at h₁
    refine ⟨fun e₁ => absurd e₁ (by decide), fun _ => ⟨fun e₁ => absurd e₁ (by decide), fun _ => ⟨fun e₁ => absurd e₁ (by decide), fun _ => ⟨fun e₁ => absurd e₁ (by decide), fun _ => ⟨fun _ => ⟨hM₁.k, r_stopAt hM₁ e2₁ hn₁ ⟨fun e₁ => ?_, fun e₁ => ?_⟩⟩, fun e₁ => absurd rfl e₁⟩⟩⟩⟩⟩
    · rw [if_neg e₁] at h₁; exact h₁
    · rw [if_pos e₁] at h₁; exact h₁
  · rw [dwS₁, macV] at h₁
    refine ⟨fun e₁ => absurd e₁ (by decide), fun _ => ⟨fun e₁ => absurd e₁ (by decide), fun _ => ⟨fun e₁ => absurd e₁ (by decide), fun _ => ⟨fun e₁ => absurd e₁ (by decide), fun _ => ⟨fun e₁ => absurd e₁ (by decide), fun _ => ⟨fun _ => ⟨hM₁.k, r_stepTo hM₁ hU₁ ⟨fun e₁ => ?_, fun e₁ => ?_⟩⟩, fun e₁ => absurd rfl e₁⟩⟩⟩⟩⟩⟩
    · rw [if_neg e₁] at h₁; exact h₁
    · rw [if_pos e₁] at h₁; exact h₁
  · rw [dwS₁, macV] at h₁
    refine ⟨fun e₁ => absurd e₁ (by decide), fun _ => ⟨fun e₁ => absurd e₁ (by decide), fun _ => ⟨fun e₁ => absurd e₁ (by decide), fun _ => ⟨fun e₁ => absurd e₁ (by decide), fun _ => ⟨fun e₁ => absurd e₁ (by decide), fun _ => ⟨fun e₁ => absurd e₁ (by decide), fun _ => ⟨fun _ => ⟨hM₁.k, r_leaveTo hM₁ hU₁ ⟨fun e₁ => r_leaveTo hM₁ hU₁ (r_isAddress hM₁ ⟨fun f₁ => ?_, fun f₁ => ?_⟩), fun e₁ => ?_⟩⟩, fun e₁ => absurd rfl e₁⟩⟩⟩⟩⟩⟩⟩
    · rw [if_neg e₁, if_neg (by rw [f₁]; decide)] at h₁; exact h₁
    · rw [if_neg e₁, if_pos f₁] at h₁; exact h₁
    · rw [if_pos e₁] at h₁; exact h₁
  · have h₁ : Q₁ (if runS (I₁ (m₁ + 2)) (macV (I₁ (m₁ + 2))) = -1 then (1 : Int32) else 0) := h₁
    refine ⟨fun e₁ => absurd e₁ (by decide), fun _ => ⟨fun e₁ => absurd e₁ (by decide), fun _ => ⟨fun e₁ => absurd e₁ (by decide), fun _ => ⟨fun e₁ => absurd e₁ (by decide), fun _ => ⟨fun e₁ => absurd e₁ (by decide), fun _ => ⟨fun e₁ => absurd e₁ (by decide), fun _ => ⟨fun e₁ => absurd e₁ (by decide), fun _ => ⟨hM₁.k, r_runTo hM₁ hU₁ e2₁ hn₁ ⟨fun e₁ => ?_, fun e₁ => ?_⟩⟩⟩⟩⟩⟩⟩⟩⟩
    · rw [if_neg e₁] at h₁; exact h₁
    · rw [if_pos e₁] at h₁; exact h₁
/-- the deed done -/
theorem r_live {d₁ n₁ : Nat} {a₁ b₁ : Int32} {Q₁ : MI → Prop} (hM₁ : MDL K₁ N₁ R₁ m₁) (hU₁ : WFc (I₁ (m₁ + 2))) (e2₁ : I₁ (m₁ + 2) 344 = nI n₁) (hn₁ : n₁ ≤ 8) (hd₁ : d₁ < 8) (ha₁ : dar₁ (I₁ (m₁ + 2)) a₁ d₁) (hw₁ : dwS₁ (I₁ (m₁ + 2)) (macV (I₁ (m₁ + 2))) a₁ b₁ d₁ = 0)
    (h₁ : ∀ J₁, J₁ (m₁ + 2) = ovr₁ (I₁ (m₁ + 2)) (dlS₁ (I₁ (m₁ + 2)) (macV (I₁ (m₁ + 2))) a₁ b₁ d₁) → (∀ b₁, b₁ ≠ m₁ + 2 → J₁ b₁ = I₁ b₁) → Q₁ J₁) : w_X12_live m₁ (nI d₁) a₁ b₁ K₁ N₁ I₁ L₁ R₁ Q₁ := by
  have V2₁ : macV (I₁ (m₁ + 2)) 2 = nI n₁ := e2₁
  delta w_X12_live
  refine ⟨hM₁.k, _, hM₁.r14, hM₁.k2, by rw [hM₁.n2]; exact vp_c (by decide) (by decide), fun I5₁ g5₁ => ?_⟩
  rw [ix_c (by decide)] at g5₁
  have U5₁ : I5₁ (m₁ + 2) = vst₁ (I₁ (m₁ + 2)) 343 (I₁ (m₁ + 2) 343 + 1) := by rw [g5₁, mup_vst]
  have O5₁ : I5₁ (m₁ + 2) = ovr₁ (I₁ (m₁ + 2)) (vst₁ (macV (I₁ (m₁ + 2))) 1 (macV (I₁ (m₁ + 2)) 1 + 1)) := by
    rw [U5₁, ← ovr_vst (by decide), ovr_mac]; rfl
  have F5₁ : ∀ b₁, b₁ ≠ m₁ + 2 → I5₁ b₁ = I₁ b₁ := fun b₁ hb₁ => by rw [g5₁, mup_ne hb₁]
  have ag₁ : agU₁ (I5₁ (m₁ + 2)) (I₁ (m₁ + 2)) := by rw [O5₁]; exact ovr_ag
  have hU5₁ := WFc_cg ag₁ hU₁
  have a342 : I5₁ (m₁ + 2) 342 = macV (I₁ (m₁ + 2)) 0 := by rw [U5₁, vst_n (by decide)]; rfl
  have a344 : I5₁ (m₁ + 2) 344 = nI n₁ := by rw [U5₁, vst_n (by decide)]; exact e2₁
  have stp₁ : ∀ l₁, stpS (macV (I5₁ (m₁ + 2))) l₁ = stpS (macV (I₁ (m₁ + 2))) l₁ := fun l₁ => by
    refine stpS_cg ?_ (fun k₁ hk₁ => ?_) l₁
    · rw [macV, U5₁, vst_n (by decide), macV]
    · rw [macV, U5₁, vst_n (by omega), macV]
  have fin₁ : ∀ (p₁ : Nat) (v₁ : Int32) (J₁ : MI), p₁ < 83 → p₁ ≠ 1 → J₁ = mup I5₁ (m₁ + 2) (342 + p₁) v₁ → chgS (I₁ (m₁ + 2)) (macV (I₁ (m₁ + 2))) a₁ b₁ d₁ = vst₁ (macV (I₁ (m₁ + 2))) p₁ v₁ → Q₁ J₁ := by
    intro p₁ v₁ J₁ hp₁ h1₁ gJ₁ e₁
    refine h₁ J₁ ?_ (fun b₁ hb₁ => by rw [gJ₁, mup_ne hb₁, F5₁ b₁ hb₁])
    rw [gJ₁, mup_vst, O5₁, ovr_vst hp₁, dlS₁, e₁, vst_vst h1₁]
  have fin0 : ∀ (v₁ : Int32) (J₁ : MI), J₁ = mup I5₁ (m₁ + 2) (ix (342 : Int32)) v₁ → chgS (I₁ (m₁ + 2)) (macV (I₁ (m₁ + 2))) a₁ b₁ d₁ = vst₁ (macV (I₁ (m₁ + 2))) 0 v₁ → Q₁ J₁ := fun v₁ J₁ gJ₁ e₁ => fin₁ 0 v₁ J₁ (by decide) (by decide) (by rw [gJ₁, ix_c (by decide)]) e₁
  obtain rfl | rfl | rfl | rfl | rfl | rfl | rfl | rfl : d₁ = 0 ∨ d₁ = 1 ∨ d₁ = 2 ∨ d₁ = 3 ∨ d₁ = 4 ∨ d₁ = 5 ∨ d₁ = 6 ∨ d₁ = 7 := by omega
  · obtain ⟨j₁, hj₁, rfl⟩ := inN_t ha₁ (by decide)
    refine ⟨fun _ => ⟨by rw [hM₁.n2]; exact vp_cn (by omega) (by decide), fun J₁ gJ₁ => fin₁ (11 + j₁) b₁ J₁ (by omega) (by omega) ?_ ?_⟩, fun e₁ => absurd rfl e₁⟩
    · rw [gJ₁, ix_cn (by omega), show 342 + (11 + j₁) = 353 + j₁ by omega]
    · rw [chgS, ix_nI (by omega)]
  · obtain ⟨j₁, hj₁, rfl⟩ := inN_t ha₁ (by decide)
    refine ⟨fun e₁ => absurd e₁ (by decide), fun _ => ⟨fun _ => ⟨by rw [hM₁.n2]; exact vp_cn (by omega) (by decide), fun J₁ gJ₁ => fin₁ (19 + j₁) b₁ J₁ (by omega) (by omega) ?_ ?_⟩, fun e₁ => absurd rfl e₁⟩⟩
    · rw [gJ₁, ix_cn (by omega), show 342 + (19 + j₁) = 361 + j₁ by omega]
    · rw [chgS, ix_nI (by omega)]
  · exact ⟨fun e₁ => absurd e₁ (by decide), fun _ => ⟨fun e₁ => absurd e₁ (by decide), fun _ => ⟨fun _ => ⟨by rw [hM₁.n2]; exact vp_c (by decide) (by decide), fun J₁ gJ₁ => fin₁ 0 a₁ J₁ (by decide) (by decide) (by rw [gJ₁, ix_c (by decide)]) rfl⟩, fun e₁ => absurd rfl e₁⟩⟩⟩
  · rw [dwS₁, V2₁] at hw₁
    have hn8₁ : n₁ < 8 := by
      rcases Nat.lt_or_ge n₁ 8 with q₁ | q₁
      · exact q₁
      · rw [show n₁ = 8 by omega] at hw₁
        split at hw₁
        · rw [if_pos (show nI 8 = 8 from rfl)] at hw₁; exact absurd hw₁ (by decide)
        · exact absurd hw₁ (by decide)
    refine ⟨fun e₁ => absurd e₁ (by decide), fun _ => ⟨fun e₁ => absurd e₁ (by decide), fun _ => ⟨fun e₁ => absurd e₁ (by decide), fun _ => ⟨fun _ => ⟨by rw [hM₁.n2]; exact vp_c (by decide) (by decide), ?_⟩, fun e₁ => absurd rfl e₁⟩⟩⟩⟩
    rw [ix_c (by decide), a344, ix_cn (by omega)]
    refine ⟨by rw [hM₁.n2]; exact vp_cn (by omega) (by decide), fun J1₁ g1₁ J2₁ g2₁ => h₁ J2₁ ?_ (fun b₁ hb₁ => by rw [g2₁, mup_ne hb₁, g1₁, mup_ne hb₁, F5₁ b₁ hb₁])⟩
    have g3₁ : J1₁ (m₁ + 2) = ovr₁ (I₁ (m₁ + 2)) (vst₁ (vst₁ (macV (I₁ (m₁ + 2))) 1 (macV (I₁ (m₁ + 2)) 1 + 1)) (3 + n₁) a₁) := by
      rw [g1₁, mup_vst, O5₁, show 345 + n₁ = 342 + (3 + n₁) by omega, ovr_vst (by omega)]
    have g4₁ : J1₁ (m₁ + 2) 344 = nI n₁ := by rw [g1₁, mup_k (by omega), a344]
    rw [g2₁, mup_vst, g4₁, g3₁, nI_1, show (344 : Nat) = 342 + 2 from rfl, ovr_vst (by decide), dlS₁, chgS, V2₁, ix_nI (by omega), nI_1, vst_vst (p₁ := 2) (q₁ := 1) (by decide), vst_vst (p₁ := 3 + n₁) (q₁ := 1) (by omega)]
  · rw [dwS₁] at hw₁
    have ne₁ : stpS (macV (I₁ (m₁ + 2))) a₁ ≠ -1 := fun e₁ => by rw [if_pos e₁] at hw₁; exact absurd hw₁ (by decide)
    refine ⟨fun e₁ => absurd e₁ (by decide), fun _ => ⟨fun e₁ => absurd e₁ (by decide), fun _ => ⟨fun e₁ => absurd e₁ (by decide), fun _ => ⟨fun e₁ => absurd e₁ (by decide), fun _ => ⟨fun _ => r_stopAt hM₁ a344 hn₁ ?_, fun e₁ => absurd rfl e₁⟩⟩⟩⟩⟩
    obtain ⟨j₁, -, hj₁, ej₁, -⟩ := (stpB_or (macV (I₁ (m₁ + 2))) a₁ (ix (macV (I₁ (m₁ + 2)) 2)) 0).resolve_left ne₁
    have ej₁ : stpS (macV (I₁ (m₁ + 2))) a₁ = nI j₁ := ej₁
    rw [V2₁, ix_nI (by omega)] at hj₁
    obtain ⟨p₁, rfl⟩ : ∃ p₁, n₁ = p₁ + 1 := ⟨n₁ - 1, by omega⟩
    rw [stp₁, ej₁, ix_c (by decide), a344, nI_pred, ix_cn (by omega)]
    refine ⟨by rw [hM₁.n2]; exact vp_c (by decide) (by decide), fun J1₁ g1₁ => ?_⟩
    have g3₁ : J1₁ (m₁ + 2) = ovr₁ (I₁ (m₁ + 2)) (vst₁ (vst₁ (macV (I₁ (m₁ + 2))) 1 (macV (I₁ (m₁ + 2)) 1 + 1)) 2 (nI p₁)) := by
      rw [g1₁, mup_vst, O5₁, show (344 : Nat) = 342 + 2 from rfl, ovr_vst (by decide)]
    have g4₁ : J1₁ (m₁ + 2) 344 = nI p₁ := by rw [g1₁, mup_at]
    have g6₁ : J1₁ (m₁ + 2) (345 + p₁) = macV (I₁ (m₁ + 2)) (3 + p₁) := by
      rw [g1₁, mup_k (by omega), U5₁, vst_n (by omega), macV, show 342 + (3 + p₁) = 345 + p₁ by omega]
    rw [g4₁, ix_cn (by omega), g6₁]
    refine ⟨by rw [hM₁.n2]; exact vp_cn (by omega) (by decide), by rw [hM₁.n2]; exact vp_cn (by omega) (by decide), fun J2₁ g2₁ => h₁ J2₁ ?_ (fun b₁ hb₁ => by rw [g2₁, mup_ne hb₁, g1₁, mup_ne hb₁, F5₁ b₁ hb₁])⟩
    rw [g2₁, mup_vst, g3₁, show 345 + j₁ = 342 + (3 + j₁) by omega, ovr_vst (by omega), dlS₁, chgS, V2₁, ej₁, nI_pred, ix_nI (by omega), ix_nI (by omega), vst_vst (p₁ := 3 + j₁) (q₁ := 1) (by omega), vst_vst (p₁ := 2) (q₁ := 1) (by decide)]
  · refine ⟨fun e₁ => absurd e₁ (by decide), fun _ => ⟨fun e₁ => absurd e₁ (by decide), fun _ => ⟨fun e₁ => absurd e₁ (by decide), fun _ => ⟨fun e₁ => absurd e₁ (by decide), fun _ => ⟨fun e₁ => absurd e₁ (by decide), fun _ => ⟨fun e₁ => absurd rfl e₁, fun _ => r_stepTo hM₁ hU5₁ ⟨by rw [hM₁.n2]; exact vp_c (by decide) (by decide), fun J₁ gJ₁ => fin0 _ J₁ gJ₁ ?_⟩⟩⟩⟩⟩⟩⟩
    rw [chgS, a342, stepS_cg ag₁ hU₁]
  · refine ⟨fun e₁ => absurd e₁ (by decide), fun _ => ⟨fun e₁ => absurd e₁ (by decide), fun _ => ⟨fun e₁ => absurd e₁ (by decide), fun _ => ⟨fun e₁ => absurd e₁ (by decide), fun _ => ⟨fun e₁ => absurd e₁ (by decide), fun _ => ⟨fun _ => ⟨fun e₁ => absurd rfl e₁, fun _ => r_leaveTo hM₁ hU5₁ ⟨by rw [hM₁.n2]; exact vp_c (by decide) (by decide), fun J₁ gJ₁ => fin0 _ J₁ gJ₁ ?_⟩⟩, fun e₁ => absurd e₁ (by decide)⟩⟩⟩⟩⟩⟩
    rw [chgS, a342, lvS_cg ag₁ hU₁]
  · refine ⟨fun e₁ => absurd e₁ (by decide), fun _ => ⟨fun e₁ => absurd e₁ (by decide), fun _ => ⟨fun e₁ => absurd e₁ (by decide), fun _ => ⟨fun e₁ => absurd e₁ (by decide), fun _ => ⟨fun e₁ => absurd e₁ (by decide), fun _ => ⟨fun _ => ⟨fun _ => r_runTo hM₁ hU5₁ a344 hn₁ ⟨by rw [hM₁.n2]; exact vp_c (by decide) (by decide), fun J₁ gJ₁ => fin0 _ J₁ gJ₁ ?_⟩, fun e₁ => absurd e₁ (by decide)⟩, fun e₁ => absurd e₁ (by decide)⟩⟩⟩⟩⟩⟩
    show vst₁ (macV (I₁ (m₁ + 2))) 0 (runS (I₁ (m₁ + 2)) (macV (I₁ (m₁ + 2)))) = _
    rw [runS_cg ag₁ hU₁ (by rw [macV, a342]) stp₁]
end RG₁
