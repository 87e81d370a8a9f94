/-! ===== one op on the reference's stack ===== -/
def STR₁ (I₁ : MI) (m₁ : Nat) (T₁ : Nat → Int32) (d₁ : Nat) : Prop := I₁ m₁ 30 = nI d₁ ∧ ∀ j₁, j₁ < d₁ → I₁ (m₁ + 14) j₁ = T₁ j₁
def frR₁ (m₁ : Nat) (J₁ I₁ : MI) : Prop := (∀ b₁, b₁ ≠ m₁ → b₁ ≠ m₁ + 14 → J₁ b₁ = I₁ b₁) ∧ ∀ y₁, y₁ ≠ 30 → J₁ m₁ y₁ = I₁ m₁ y₁
section RG₁
variable {K₁ N₁ : MK} {I₁ : MI} {L₁ : ML} {R₁ : MR} {m₁ d₁ : Nat} {T₁ : Nat → Int32}
theorem frR_r : frR₁ m₁ I₁ I₁ := ⟨fun _ _ _ => rfl, fun _ _ => rfl⟩
theorem frR_t {J₁ J'₁ : MI} (h₁ : frR₁ m₁ J'₁ J₁) (h2₁ : frR₁ m₁ J₁ I₁) : frR₁ m₁ J'₁ I₁ := ⟨fun b₁ h3₁ h4₁ => by rw [h₁.1 b₁ h3₁ h4₁, h2₁.1 b₁ h3₁ h4₁], fun y₁ hy₁ => by rw [h₁.2 y₁ hy₁, h2₁.2 y₁ hy₁]⟩
theorem r_put {J₁ J2₁ : MI} {v₁ : Int32} {Q₁ : MI → Prop} (hd₁ : d₁ < 9) (hS₁ : STR₁ I₁ m₁ T₁ d₁) (g1₁ : J₁ = mup I₁ (m₁ + 14) d₁ v₁) (g2₁ : J2₁ = mup J₁ m₁ 30 (J₁ m₁ 30 + 1)) (h₁ : ∀ J₁, STR₁ J₁ m₁ (vst₁ T₁ d₁ v₁) (d₁ + 1) → frR₁ m₁ J₁ I₁ → Q₁ J₁) : Q₁ J2₁ := by
  refine h₁ J2₁ ⟨?_, fun j₁ hj₁ => ?_⟩ ⟨fun b₁ h1₁ h2₁ => ?_, fun y₁ hy₁ => ?_⟩
  · rw [g2₁, mup_at, g1₁, mup_ne (by omega), hS₁.1, nI_1]
  · rw [g2₁, mup_ne (by omega), g1₁, vst₁]
    by_cases q₁ : j₁ = d₁
    · rw [q₁, mup_at, if_pos rfl]
    · rw [mup_k q₁, if_neg q₁]; exact hS₁.2 j₁ (by omega)
  · rw [g2₁, mup_ne h1₁, g1₁, mup_ne h2₁]
  · rw [g2₁, mup_k hy₁, g1₁, mup_ne (by omega)]
theorem r_doTwo {r₁ : Int32} {Q₁ : MI → Prop} (hM₁ : MDL K₁ N₁ R₁ m₁) (hS₁ : STR₁ I₁ m₁ T₁ (d₁ + 2)) (hd₁ : d₁ + 2 ≤ 9) (hr₁ : r₁ = 1010 ∨ r₁ = 1011 ∨ r₁ = 1012 ∨ r₁ = 1015) (h₁ : ∀ J₁, STR₁ J₁ m₁ (opT₁ (macV (I₁ (m₁ + 2))) r₁ T₁ (d₁ + 2)) (opD₁ r₁ (d₁ + 2)) → frR₁ m₁ J₁ I₁ → Q₁ J₁) : w_X12_doTwo m₁ r₁ K₁ N₁ I₁ L₁ R₁ Q₁ := by
  delta w_X12_doTwo
  have e2₁ : nI (d₁ + 2) - 2 = nI d₁ := by rw [show (2 : Int32) = nI 2 from rfl, subN (by omega)]; rfl
  have e1₁ : nI (d₁ + 2) - 1 = nI (d₁ + 1) := nI_pred (d₁ + 1)
  rw [hS₁.1, e2₁, e1₁, ix_nI (by omega), ix_nI (by omega)]
  refine ⟨hM₁.k, _, hM₁.r29, hM₁.k14, by rw [hM₁.n14]; exact (vp_nI (by omega)).mpr (by omega), fun v5₁ g5₁ => ⟨by rw [hM₁.n14]; exact (vp_nI (by omega)).mpr (by omega), fun v7₁ g7₁ => ?_⟩⟩
  rw [hS₁.2 d₁ (by omega)] at g5₁
  rw [hS₁.2 (d₁ + 1) (by omega)] at g7₁
  have two₁ : ∀ v₁ : Int32, ∀ I8₁ : MI, I8₁ = mup I₁ m₁ 30 (nI (d₁ + 1)) → (∀ J₁, STR₁ J₁ m₁ (vst₁ T₁ d₁ v₁) (d₁ + 1) → frR₁ m₁ J₁ I₁ → Q₁ J₁) → vp_in ((I8₁ m₁ 30) - 1) (N₁ (m₁ + 14)) ∧ ∀ I10₁ : MI, I10₁ = mup I8₁ (m₁ + 14) (ix ((I8₁ m₁ 30) - 1)) v₁ → Q₁ I10₁ := by
    intro v₁ I8₁ g8₁ hq₁
    rw [show I8₁ m₁ 30 = nI (d₁ + 1) by rw [g8₁, mup_at], nI_pred, ix_nI (by omega), hM₁.n14]
    refine ⟨(vp_nI (by omega)).mpr (by omega), fun I10₁ g10₁ => hq₁ I10₁ ⟨?_, fun j₁ hj₁ => ?_⟩ ⟨fun b₁ h1₁ h2₁ => ?_, fun y₁ hy₁ => ?_⟩⟩
    · rw [g10₁, mup_ne (by omega), g8₁, mup_at]
    · rw [g10₁, vst₁]
      by_cases q₁ : j₁ = d₁
      · rw [q₁, mup_at, if_pos rfl]
      · rw [mup_k q₁, if_neg q₁, g8₁, mup_ne (by omega)]; exact hS₁.2 j₁ (by omega)
    · rw [g10₁, mup_ne h2₁, g8₁, mup_ne h1₁]
    · rw [g10₁, mup_ne (by omega), g8₁, mup_k hy₁]
  rcases hr₁ with rfl | rfl | rfl | rfl
  · rw [opT_10] at h₁
    exact ⟨fun _ I8₁ g8₁ => ⟨fun e₁ => absurd rfl e₁, fun _ => two₁ _ I8₁ g8₁ (by rw [g5₁, g7₁]; exact h₁)⟩, fun e₁ => absurd e₁ (by decide)⟩
  · rw [opT_11] at h₁
    exact ⟨fun _ I8₁ g8₁ => ⟨fun _ => ⟨fun e₁ => absurd rfl e₁, fun _ => two₁ _ I8₁ g8₁ (by rw [g5₁, g7₁]; exact h₁)⟩, fun e₁ => absurd e₁ (by decide)⟩, fun e₁ => absurd e₁ (by decide)⟩
  · rw [opT_12] at h₁
    exact ⟨fun _ I8₁ g8₁ => ⟨fun _ => ⟨fun _ => two₁ _ I8₁ g8₁ (by rw [g5₁, g7₁]; exact h₁), fun e₁ => absurd e₁ (by decide)⟩, fun e₁ => absurd e₁ (by decide)⟩, fun e₁ => absurd e₁ (by decide)⟩
  · rw [opT_15, show opD₁ 1015 (d₁ + 2) = d₁ + 2 from rfl, show d₁ + 2 - 2 = d₁ from rfl, show d₁ + 2 - 1 = d₁ + 1 from rfl] at h₁
    refine ⟨fun e₁ => absurd rfl e₁, fun _ I15₁ g15₁ => ?_⟩
    have f15₁ : I15₁ m₁ 30 = nI (d₁ + 2) := by rw [g15₁, mup_ne (by omega)]; exact hS₁.1
    rw [f15₁, e1₁, ix_nI (by omega), hM₁.n14]
    refine ⟨(vp_nI (by omega)).mpr (by omega), fun I17₁ g17₁ => h₁ I17₁ ⟨by rw [g17₁, mup_ne (by omega)]; exact f15₁, fun j₁ hj₁ => ?_⟩ ⟨fun b₁ h1₁ h2₁ => by rw [g17₁, mup_ne h2₁, g15₁, mup_ne h2₁], fun y₁ hy₁ => by rw [g17₁, mup_ne (by omega), g15₁, mup_ne (by omega)]⟩⟩
    rw [g17₁, vst₁, vst₁]
    by_cases q₁ : j₁ = d₁ + 1
    · rw [q₁, mup_at, if_pos rfl, g5₁]
    · rw [mup_k q₁, if_neg q₁, g15₁]
      by_cases q2₁ : j₁ = d₁
      · rw [q2₁, mup_at, if_pos rfl, g7₁]
      · rw [mup_k q2₁, if_neg q2₁]; exact hS₁.2 j₁ (by omega)
theorem r_doOp {r₁ : Int32} {Q₁ : Bool → MI → Prop} (hM₁ : MDL K₁ N₁ R₁ m₁) (hS₁ : STR₁ I₁ m₁ T₁ d₁) (hd₁ : d₁ < 9) (hc₁ : opC₁ r₁) (hk₁ : opOK r₁ d₁)
    (h1₁ : opF₁ r₁ T₁ d₁ = true → ∀ J₁, frR₁ m₁ J₁ I₁ → Q₁ false J₁) (h0₁ : opF₁ r₁ T₁ d₁ = false → ∀ J₁, STR₁ J₁ m₁ (opT₁ (macV (I₁ (m₁ + 2))) r₁ T₁ d₁) (opD₁ r₁ d₁) → frR₁ m₁ J₁ I₁ → Q₁ true J₁) : w_X12_doOp m₁ r₁ K₁ N₁ I₁ L₁ R₁ Q₁ := by
  delta w_X12_doOp
  rcases hc₁ with ⟨k₁, l2₁, rfl⟩ | ⟨k₁, hk8₁, rfl⟩ | hr₁
  · rw [opT_n l2₁, opD_n l2₁] at h0₁
    refine ⟨fun e₁ => ?_, fun _ => ⟨hM₁.k, _, hM₁.r29, fun e₁ => ?_, fun _ => ⟨hM₁.k14, ?_⟩⟩⟩
    · rw [show (1010 : Int32) = nI 1010 from rfl, leN (by omega) (by omega)] at e₁; omega
    · rw [show (1000 : Int32) = nI 1000 from rfl, leN (by omega) (by omega)] at e₁; omega
    · rw [hS₁.1, ix_nI (by omega), hM₁.n14]
      exact ⟨(vp_nI (by omega)).mpr hd₁, fun I30₁ g30₁ I31₁ g31₁ => r_put hd₁ hS₁ g30₁ g31₁ (h0₁ (opF_n l2₁))⟩
  · rw [opT_r hk8₁, opD_r hk8₁] at h0₁
    have e9₁ : (353 : Int32) + nI (1000 + k₁) - 1000 = nI (353 + k₁) := by rw [show (353 : Int32) = nI 353 from rfl, addN, show (1000 : Int32) = nI 1000 from rfl, subN (by omega), show 353 + (1000 + k₁) - 1000 = 353 + k₁ by omega]
    refine ⟨fun e₁ => ?_, fun _ => ⟨hM₁.k, _, hM₁.r29, fun _ => ⟨_, hM₁.r14, hM₁.k2, ?_⟩, fun e₁ => ?_⟩⟩
    · rw [show (1010 : Int32) = nI 1010 from rfl, leN (by omega) (by omega)] at e₁; omega
    · rw [hS₁.1, e9₁, ix_nI (by omega), ix_nI (by omega), hM₁.n2, hM₁.n14]
      exact ⟨(vp_nI (by omega)).mpr (by omega), hM₁.k14, (vp_nI (by omega)).mpr hd₁, fun I30₁ g30₁ I31₁ g31₁ => r_put hd₁ hS₁ (by rw [g30₁, macV, show 342 + (11 + k₁) = 353 + k₁ by omega]) g31₁ (h0₁ (opF_r hk8₁))⟩
    · rw [show (1000 : Int32) = nI 1000 from rfl, leN (by omega) (by omega)] at e₁; omega
  · rcases hr₁ with rfl | rfl | rfl | rfl | rfl | rfl
    · obtain ⟨e₁, rfl⟩ : ∃ e₁, d₁ = e₁ + 2 := ⟨d₁ - 2, by have hk₁ : 2 ≤ d₁ := hk₁; omega⟩
      exact ⟨fun _ => ⟨fun _ => ⟨fun e₁ => absurd e₁ (by decide), fun _ => ⟨hM₁.k, r_doTwo hM₁ hS₁ (by omega) (Or.inl rfl) (h0₁ (opF_o (by decide)))⟩⟩, fun e₁ => absurd e₁ (by decide)⟩, fun e₁ => absurd (by decide) e₁⟩
    · obtain ⟨e₁, rfl⟩ : ∃ e₁, d₁ = e₁ + 2 := ⟨d₁ - 2, by have hk₁ : 2 ≤ d₁ := hk₁; omega⟩
      exact ⟨fun _ => ⟨fun _ => ⟨fun e₁ => absurd e₁ (by decide), fun _ => ⟨hM₁.k, r_doTwo hM₁ hS₁ (by omega) (Or.inr (Or.inl rfl)) (h0₁ (opF_o (by decide)))⟩⟩, fun e₁ => absurd e₁ (by decide)⟩, fun e₁ => absurd (by decide) e₁⟩
    · obtain ⟨e₁, rfl⟩ : ∃ e₁, d₁ = e₁ + 2 := ⟨d₁ - 2, by have hk₁ : 2 ≤ d₁ := hk₁; omega⟩
      exact ⟨fun _ => ⟨fun _ => ⟨fun e₁ => absurd e₁ (by decide), fun _ => ⟨hM₁.k, r_doTwo hM₁ hS₁ (by omega) (Or.inr (Or.inr (Or.inl rfl))) (h0₁ (opF_o (by decide)))⟩⟩, fun e₁ => absurd e₁ (by decide)⟩, fun e₁ => absurd (by decide) e₁⟩
    · obtain ⟨e₁, rfl⟩ : ∃ e₁, d₁ = e₁ + 1 := ⟨d₁ - 1, by have hk₁ : 1 ≤ d₁ := hk₁; omega⟩
      rw [opF_13, show e₁ + 1 - 1 = e₁ from rfl] at h0₁ h1₁
      rw [opT_13, show opD₁ 1013 (e₁ + 1) = e₁ + 1 from rfl, show e₁ + 1 - 1 = e₁ from rfl] at h0₁
      refine ⟨fun _ => ⟨fun _ => ⟨fun _ => ⟨hM₁.k, _, hM₁.r29, hM₁.k14, ?_⟩, fun e₁ => absurd rfl e₁⟩, fun e₁ => absurd e₁ (by decide)⟩, fun e₁ => absurd (by decide) e₁⟩
      rw [hS₁.1, nI_pred, ix_nI (by omega), hM₁.n14, hS₁.2 e₁ (by omega)]
      refine ⟨(vp_nI (by omega)).mpr (by omega), r_isIn ?_⟩
      rw [show (63 : Int32) = nI 64 - 1 from by decide, isInB_pred rfl (by decide)]
      refine ⟨fun z₁ => ⟨_, hM₁.r14, hM₁.k2, ?_⟩, fun z₁ => h1₁ (by rw [z₁]; rfl) I₁ frR_r⟩
      obtain ⟨j₁, hj₁, ej₁⟩ := inN_t z₁ (by decide)
      rw [ej₁, hM₁.n2, ix_cn (by omega)]
      refine ⟨vp_cn (by omega) (by decide), fun I9₁ g9₁ => h0₁ (by rw [z₁]; rfl) I9₁ ⟨by rw [g9₁, mup_ne (by omega)]; exact hS₁.1, fun k₁ hk₁ => ?_⟩ ⟨fun b₁ q1₁ q2₁ => by rw [g9₁, mup_ne q2₁], fun y₁ hy₁ => by rw [g9₁, mup_ne (by omega)]⟩⟩
      rw [g9₁, vst₁]
      by_cases q₁ : k₁ = e₁
      · rw [q₁, mup_at, if_pos rfl, ej₁, ix_nI (by omega), macV, show 342 + (19 + j₁) = 361 + j₁ by omega]
      · rw [mup_k q₁, if_neg q₁]; exact hS₁.2 k₁ hk₁
    · obtain ⟨e₁, rfl⟩ : ∃ e₁, d₁ = e₁ + 1 := ⟨d₁ - 1, by have hk₁ : 1 ≤ d₁ := hk₁; omega⟩
      have h0₁ := h0₁ (opF_o (by decide))
      rw [opT_14, show opD₁ 1014 (e₁ + 1) = e₁ + 1 + 1 from rfl, show e₁ + 1 - 1 = e₁ from rfl] at h0₁
      refine ⟨fun _ => ⟨fun e₁ => absurd rfl e₁, fun _ => ⟨hM₁.k, _, hM₁.r29, hM₁.k14, ?_⟩⟩, fun e₁ => absurd (by decide) e₁⟩
      rw [hS₁.1, nI_pred, ix_nI (by omega), ix_nI (by omega), hM₁.n14, hS₁.2 e₁ (by omega)]
      exact ⟨(vp_nI (by omega)).mpr (by omega), (vp_nI (by omega)).mpr (by omega), fun I17₁ g17₁ I18₁ g18₁ => r_put hd₁ hS₁ g17₁ g18₁ h0₁⟩
    · obtain ⟨e₁, rfl⟩ : ∃ e₁, d₁ = e₁ + 2 := ⟨d₁ - 2, by have hk₁ : 2 ≤ d₁ := hk₁; omega⟩
      exact ⟨fun _ => ⟨fun _ => ⟨fun e₁ => absurd e₁ (by decide), fun _ => ⟨hM₁.k, r_doTwo hM₁ hS₁ (by omega) (Or.inr (Or.inr (Or.inr rfl))) (h0₁ (opF_o (by decide)))⟩⟩, fun e₁ => absurd e₁ (by decide)⟩, fun e₁ => absurd (by decide) e₁⟩
end RG₁
