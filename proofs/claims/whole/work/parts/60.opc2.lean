/-! ===== one op on the class's stack ===== -/
/-- the machine's words -/
def WFm₁ (V₁ : Nat → Int32) : Prop := (∀ j₁, j₁ < 8 → ∃ w₁, w₁ < 65536 ∧ V₁ (11 + j₁) = nI w₁) ∧ ∀ j₁, j₁ < 64 → ∃ w₁, w₁ < 65536 ∧ V₁ (19 + j₁) = nI w₁
section UN₁
variable {K₁ N₁ : MK} {I₁ : MI} {L₁ : ML} {R₁ : MR} {f₁ c₁ d₁ : Nat} {V₁ T₁ T'₁ : Nat → Int32}
theorem MACD_F {J₁ : MI} (h₁ : MACD I₁ c₁ V₁) (hc₁ : c₁ + 3 < f₁) (g₁ : frF₁ f₁ J₁ I₁) : MACD J₁ c₁ V₁ := MACD_fr h₁ (fun b₁ hb₁ => g₁.1 b₁ (by omega) (by omega))
theorem memS_no {a₁ : Int32} (h₁ : inN a₁ 64 = false) : memS V₁ a₁ = -1 := by rw [memS, if_neg (by rw [h₁]; decide)]
theorem memS_in {a₁ : Int32} (h₁ : inN a₁ 64 = true) : memS V₁ a₁ = V₁ (19 + ix a₁) := by rw [memS, if_pos h₁]
theorem memS_ne {a₁ : Int32} (hv₁ : WFm₁ V₁) (h₁ : inN a₁ 64 = true) : memS V₁ a₁ ≠ -1 := by
  obtain ⟨j₁, hj₁, rfl⟩ := inN_t h₁ (by decide)
  obtain ⟨w₁, hw₁, e₁⟩ := hv₁.2 j₁ hj₁
  rw [memS_in h₁, ix_nI (by omega), e₁]
  exact m1_ne (by omega)
theorem s_doOp {o₁ n₁ r₁ : Int32} {Q₁ : Bool → MI → Prop} (hF₁ : FIL₁ K₁ N₁ R₁ f₁) (hC₁ : MAL K₁ N₁ R₁ c₁) (hV₁ : MACD I₁ c₁ V₁) (hv₁ : WFm₁ V₁) (hc₁ : c₁ + 3 < f₁) (hr₁ : opR o₁ n₁ r₁) (hk₁ : opOK r₁ d₁) (hd₁ : d₁ < 8) (hS₁ : STK₁ I₁ f₁ T₁ d₁)
    (h1₁ : opF₁ r₁ T₁ d₁ = true → ∀ J₁, frF₁ f₁ J₁ I₁ → Q₁ false J₁) (h0₁ : opF₁ r₁ T₁ d₁ = false → ∀ J₁, STK₁ J₁ f₁ (opT₁ V₁ r₁ T₁ d₁) (opD₁ r₁ d₁) → frF₁ f₁ J₁ I₁ → Q₁ true J₁) : w_X2_doOp f₁ c₁ o₁ n₁ K₁ N₁ I₁ L₁ R₁ Q₁ := by
  rcases hr₁ with ⟨rfl, rfl, l0₁, l1₁⟩ | ⟨rfl, k₁, hk8₁, rfl, rfl⟩ | ⟨q₁, hq₁, rfl, rfl⟩
  · obtain ⟨k₁, hk9₁, rfl⟩ := nI_of (Int32.not_lt.mpr l0₁)
    have l2₁ : k₁ < 1000 := by rwa [show (1000 : Int32) = nI 1000 from rfl, ltN (by omega) (by omega)] at l1₁
    rw [opT_n l2₁, opD_n l2₁] at h0₁
    refine s_need0 (by decide) ⟨fun e₁ => absurd e₁ (by decide), fun _ => ⟨fun e₁ => absurd e₁ (by decide), fun _ => ⟨fun e₁ => absurd e₁ (by decide), fun _ => ⟨fun e₁ => absurd e₁ (by decide), fun _ => ⟨fun e₁ => absurd e₁ (by decide), fun _ => ⟨fun e₁ => absurd e₁ (by decide), fun _ => ⟨fun _ => ⟨hF₁.1, s_push hF₁ hS₁ hd₁ (fun J₁ g1₁ g2₁ => h0₁ (opF_n l2₁) J₁ g1₁ g2₁)⟩, fun e₁ => absurd rfl e₁⟩⟩⟩⟩⟩⟩⟩
  · rw [opT_r hk8₁, opD_r hk8₁] at h0₁
    refine s_need0 (by decide) ⟨fun _ => ⟨hC₁.1, s_registerAt hC₁ hV₁ ⟨hF₁.1, s_push hF₁ hS₁ hd₁ (fun J₁ g1₁ g2₁ => h0₁ (opF_r hk8₁) J₁ ?_ g2₁)⟩⟩, fun e₁ => absurd rfl e₁⟩
    rw [regS, if_pos (show inN (nI k₁) 8 = true from inN_nI (by omega) (by decide)), ix_nI (by omega)] at g1₁
    exact g1₁
  · obtain rfl | rfl | rfl | rfl | rfl | rfl : q₁ = 0 ∨ q₁ = 1 ∨ q₁ = 2 ∨ q₁ = 3 ∨ q₁ = 4 ∨ q₁ = 5 := by omega
    · rw [show nI (1010 + 0) = 1010 from rfl] at h0₁ hk₁
      have hk₁ : 2 ≤ d₁ := hk₁
      obtain ⟨e₁, rfl⟩ : ∃ e₁, d₁ = e₁ + 2 := ⟨d₁ - 2, by omega⟩
      have h0₁ := h0₁ (opF_o (by decide))
      rw [opT_10, show opD₁ 1010 (e₁ + 2) = e₁ + 1 from rfl, show e₁ + 2 - 2 = e₁ from rfl, show e₁ + 2 - 1 = e₁ + 1 from rfl] at h0₁
      refine s_need2 hF₁ (by decide) hS₁ (by omega) (fun J₁ g1₁ g2₁ => ⟨fun e₁ => absurd e₁ (by decide), fun _ => ⟨fun _ => ⟨hF₁.1, s_push hF₁ g1₁ (by omega) (fun J2₁ g3₁ g4₁ => h0₁ J2₁ g3₁ (frF_t g4₁ g2₁))⟩, fun e₁ => absurd rfl e₁⟩⟩)
    · rw [show nI (1010 + 1) = 1011 from rfl] at h0₁ hk₁
      have hk₁ : 2 ≤ d₁ := hk₁
      obtain ⟨e₁, rfl⟩ : ∃ e₁, d₁ = e₁ + 2 := ⟨d₁ - 2, by omega⟩
      have h0₁ := h0₁ (opF_o (by decide))
      rw [opT_11, show opD₁ 1011 (e₁ + 2) = e₁ + 1 from rfl, show e₁ + 2 - 2 = e₁ from rfl, show e₁ + 2 - 1 = e₁ + 1 from rfl] at h0₁
      refine s_need2 hF₁ (by decide) hS₁ (by omega) (fun J₁ g1₁ g2₁ => ⟨fun e₁ => absurd e₁ (by decide), fun _ => ⟨fun e₁ => absurd e₁ (by decide), fun _ => ⟨fun _ => ⟨hF₁.1, s_push hF₁ g1₁ (by omega) (fun J2₁ g3₁ g4₁ => h0₁ J2₁ g3₁ (frF_t g4₁ g2₁))⟩, fun e₁ => absurd rfl e₁⟩⟩⟩)
    · rw [show nI (1010 + 2) = 1012 from rfl] at h0₁ hk₁
      have hk₁ : 2 ≤ d₁ := hk₁
      obtain ⟨e₁, rfl⟩ : ∃ e₁, d₁ = e₁ + 2 := ⟨d₁ - 2, by omega⟩
      have h0₁ := h0₁ (opF_o (by decide))
      rw [opT_12, show opD₁ 1012 (e₁ + 2) = e₁ + 1 from rfl, show e₁ + 2 - 2 = e₁ from rfl, show e₁ + 2 - 1 = e₁ + 1 from rfl] at h0₁
      refine s_need2 hF₁ (by decide) hS₁ (by omega) (fun J₁ g1₁ g2₁ => ⟨fun e₁ => absurd e₁ (by decide), fun _ => ⟨fun e₁ => absurd e₁ (by decide), fun _ => ⟨fun e₁ => absurd e₁ (by decide), fun _ => ⟨fun _ => ⟨hF₁.1, s_push hF₁ g1₁ (by omega) (fun J2₁ g3₁ g4₁ => h0₁ J2₁ g3₁ (frF_t g4₁ g2₁))⟩, fun e₁ => absurd rfl e₁⟩⟩⟩⟩)
    · rw [show nI (1010 + 3) = 1013 from rfl] at h0₁ h1₁ hk₁
      have hk₁ : 1 ≤ d₁ := hk₁
      obtain ⟨e₁, rfl⟩ : ∃ e₁, d₁ = e₁ + 1 := ⟨d₁ - 1, by omega⟩
      rw [opF_13, show e₁ + 1 - 1 = e₁ from rfl] at h0₁ h1₁
      rw [opT_13, show opD₁ 1013 (e₁ + 1) = e₁ + 1 from rfl, show e₁ + 1 - 1 = e₁ from rfl] at h0₁
      refine s_need1 hF₁ (by decide) hS₁ (by omega) (fun J₁ g1₁ g2₁ => ⟨fun e₁ => absurd e₁ (by decide), fun _ => ⟨fun e₁ => absurd e₁ (by decide), fun _ => ⟨fun e₁ => absurd e₁ (by decide), fun _ => ⟨fun e₁ => absurd e₁ (by decide), fun _ => ⟨fun _ => ⟨hC₁.1, s_memoryAt hC₁ (MACD_F hV₁ hc₁ g2₁) ⟨hF₁.1, s_push hF₁ g1₁ (by omega) (fun J2₁ g3₁ g4₁ => s_memoryAt hC₁ (MACD_F hV₁ hc₁ (frF_t g4₁ g2₁)) ⟨fun z₁ => ?_, fun z₁ => ?_⟩)⟩⟩, fun e₁ => absurd rfl e₁⟩⟩⟩⟩⟩)
      · have hi₁ : inN (T₁ e₁) 64 = false := by
          cases hi₁ : inN (T₁ e₁) 64
          · rfl
          · exact absurd z₁ (memS_ne hv₁ hi₁)
        exact h1₁ (by rw [hi₁]; rfl) J2₁ (frF_t g4₁ g2₁)
      · have hi₁ : inN (T₁ e₁) 64 = true := by
          cases hi₁ : inN (T₁ e₁) 64
          · exact absurd (memS_no hi₁) z₁
          · rfl
        rw [memS_in hi₁] at g3₁
        exact h0₁ (by rw [hi₁]; rfl) J2₁ g3₁ (frF_t g4₁ g2₁)
    · rw [show nI (1010 + 4) = 1014 from rfl] at h0₁ hk₁
      have hk₁ : 1 ≤ d₁ := hk₁
      obtain ⟨e₁, rfl⟩ : ∃ e₁, d₁ = e₁ + 1 := ⟨d₁ - 1, by omega⟩
      have h0₁ := h0₁ (opF_o (by decide))
      rw [opT_14, show opD₁ 1014 (e₁ + 1) = e₁ + 1 + 1 from rfl, show e₁ + 1 - 1 = e₁ from rfl] at h0₁
      refine s_need1 hF₁ (by decide) hS₁ (by omega) (fun J₁ g1₁ g2₁ => ⟨fun e₁ => absurd e₁ (by decide), fun _ => ⟨fun e₁ => absurd e₁ (by decide), fun _ => ⟨fun e₁ => absurd e₁ (by decide), fun _ => ⟨fun e₁ => absurd e₁ (by decide), fun _ => ⟨fun e₁ => absurd e₁ (by decide), fun _ => ⟨fun _ => ⟨hF₁.1, s_push hF₁ g1₁ (by omega) (fun J2₁ g3₁ g4₁ => s_push hF₁ g3₁ (by omega) (fun J3₁ g5₁ g6₁ => h0₁ J3₁ (STK_cg g5₁ (fun j₁ hj₁ => ?_)) (frF_t g6₁ (frF_t g4₁ g2₁))))⟩, fun e₁ => absurd rfl e₁⟩⟩⟩⟩⟩⟩)
      rw [vst₁, vst₁, vst₁]
      by_cases z₁ : j₁ = e₁ + 1
      · rw [if_pos z₁, if_pos z₁]
      · rw [if_neg z₁, if_neg z₁]
        by_cases z2₁ : j₁ = e₁
        · rw [if_pos z2₁, z2₁]
        · rw [if_neg z2₁]
    · rw [show nI (1010 + 5) = 1015 from rfl] at h0₁ hk₁
      have hk₁ : 2 ≤ d₁ := hk₁
      obtain ⟨e₁, rfl⟩ : ∃ e₁, d₁ = e₁ + 2 := ⟨d₁ - 2, by omega⟩
      have h0₁ := h0₁ (opF_o (by decide))
      rw [opT_15, show opD₁ 1015 (e₁ + 2) = e₁ + 2 from rfl, show e₁ + 2 - 2 = e₁ from rfl, show e₁ + 2 - 1 = e₁ + 1 from rfl] at h0₁
      refine s_need2 hF₁ (by decide) hS₁ (by omega) (fun J₁ g1₁ g2₁ => ⟨fun e₁ => absurd e₁ (by decide), fun _ => ⟨fun e₁ => absurd e₁ (by decide), fun _ => ⟨fun e₁ => absurd e₁ (by decide), fun _ => ⟨fun e₁ => absurd e₁ (by decide), fun _ => ⟨fun e₁ => absurd e₁ (by decide), fun _ => ⟨fun e₁ => absurd e₁ (by decide), fun _ => ⟨fun e₁ => absurd e₁ (by decide), fun _ => ⟨hF₁.1, ?_⟩⟩⟩⟩⟩⟩⟩⟩)
      exact s_push hF₁ g1₁ (by omega) (fun J2₁ g3₁ g4₁ => s_push hF₁ g3₁ (by omega) (fun J3₁ g5₁ g6₁ => h0₁ J3₁ g5₁ (frF_t g6₁ (frF_t g4₁ g2₁))))
end UN₁
