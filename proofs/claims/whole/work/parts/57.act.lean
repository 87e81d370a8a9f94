/-! ===== act, undo: both sides ===== -/
section UN₁
variable {K₁ N₁ : MK} {I₁ : MI} {L₁ : ML} {R₁ : MR} {x₁ : Nat} {U₁ V₁ S₁ : Nat → Int32} {W₁ : Nat → Int64}
theorem UD_fr {J₁ : MI} {u₁ : Nat} (h₁ : UD I₁ L₁ u₁ U₁ W₁) (g₁ : ∀ b₁, u₁ ≤ b₁ → b₁ ≤ u₁ + 15 → J₁ b₁ = I₁ b₁) : UD J₁ L₁ u₁ U₁ W₁ := by
  rw [UD, UD1₁, UD2₁, UD3₁, UD4₁, UD5₁, TD, TD, TD, TD, TD, g₁ u₁ (by omega) (by omega), g₁ (u₁ + 1) (by omega) (by omega), g₁ (u₁ + 4) (by omega) (by omega), g₁ (u₁ + 7) (by omega) (by omega), g₁ (u₁ + 10) (by omega) (by omega), g₁ (u₁ + 13) (by omega) (by omega), g₁ (u₁ + 1 + 2) (by omega) (by omega), g₁ (u₁ + 4 + 2) (by omega) (by omega), g₁ (u₁ + 7 + 2) (by omega) (by omega), g₁ (u₁ + 10 + 2) (by omega) (by omega), g₁ (u₁ + 13 + 2) (by omega) (by omega)]
  exact h₁
theorem s_act {d₁ n₁ : Nat} {a₁ b₁ : Int32} {p₁ : Nat → Nat} {Q₁ : Int32 → MI → ML → MR → Prop} (hX₁ : PDL K₁ N₁ R₁ x₁) (hH₁ : HIS₁ R₁ x₁ p₁) (hm₁ : HM₁ K₁ N₁ R₁ x₁) (hD₁ : HD₁ I₁ x₁ p₁ n₁ S₁) (e₁ : I₁ x₁ 5 = nI n₁) (hn₁ : n₁ ≤ 8)
    (hV₁ : MACD I₁ (x₁ + 19) V₁) (hu₁ : UD I₁ L₁ (x₁ + 3) U₁ W₁) (hU₁ : WFc U₁) (hr₁ : WFr U₁) (hs₁ : WFs U₁) (hd₁ : d₁ < 8) (ha₁ : dar₁ U₁ a₁ d₁)
    (hw₁ : dwS₁ U₁ V₁ a₁ b₁ d₁ ≠ 0 → ∀ J₁, (∀ b₁, b₁ < x₁ + 23 ∨ x₁ + 27 ≤ b₁ → J₁ b₁ = I₁ b₁) → Q₁ (dwS₁ U₁ V₁ a₁ b₁ d₁) J₁ L₁ R₁)
    (h0₁ : dwS₁ U₁ V₁ a₁ b₁ d₁ = 0 → ∀ J₁ R'₁ p'₁, (∀ b₁, b₁ ≠ x₁ + 27 → R'₁ b₁ = R₁ b₁) → HIS₁ R'₁ x₁ p'₁ → J₁ x₁ 5 = nI (shN₁ n₁) → (∀ S'₁, SH₁ n₁ S₁ V₁ S'₁ → HD₁ J₁ x₁ p'₁ (shN₁ n₁) S'₁) → MACD J₁ (x₁ + 19) (dlS₁ U₁ V₁ a₁ b₁ d₁) → (∀ y₁, y₁ ≠ 5 → J₁ x₁ y₁ = I₁ x₁ y₁) → (∀ b₁, b₁ ≠ x₁ → b₁ < x₁ + 19 ∨ x₁ + 27 ≤ b₁ → b₁ < x₁ + 86 ∨ x₁ + 118 ≤ b₁ → J₁ b₁ = I₁ b₁) → Q₁ 0 J₁ L₁ R'₁) : w_X11_act x₁ (nI (17 + d₁)) a₁ b₁ K₁ N₁ I₁ L₁ R₁ Q₁ := by
  delta w_X11_act
  refine ⟨hX₁.k, _, hX₁.r_trial, _, hX₁.r_machine, hX₁.tri.1, s_copyFrom hX₁.tri hX₁.mac hV₁ (by omega) (fun J1₁ g1₁ b1₁ => ⟨_, hX₁.r_unit, hX₁.mac.1, s_perform hX₁.mac (MACD_fr hV₁ (fun b₁ hb₁ => b1₁ b₁ (by omega) (by omega) (by omega) (by omega))) hX₁.un (UD_fr hu₁ (fun b₁ h1₁ h2₁ => b1₁ b₁ (by omega) (by omega) (by omega) (by omega))) hU₁ hr₁ hs₁ hd₁ ha₁ (fun f₁ => ⟨fun _ => hw₁ f₁ J1₁ (fun b₁ hb₁ => b1₁ b₁ (by omega) (by omega) (by omega) (by omega)), fun z₁ => absurd z₁ f₁⟩) (fun f₁ J2₁ g2₁ b2₁ => ⟨fun z₁ => absurd rfl z₁, fun _ => ?_⟩)⟩)⟩
  have c2₁ : ∀ b₁, b₁ < x₁ + 19 ∨ x₁ + 27 ≤ b₁ → J2₁ b₁ = I₁ b₁ := fun b₁ hb₁ => by rw [b2₁ b₁ (by omega) (by omega) (by omega) (by omega), b1₁ b₁ (by omega) (by omega) (by omega) (by omega)]
  refine s_remember hX₁ hH₁ hm₁ (fun k₁ hk₁ => MACD_fr (hD₁ k₁ hk₁) (fun b₁ hb₁ => c2₁ b₁ (by omega))) (MACD_fr g1₁ (fun b₁ hb₁ => b2₁ b₁ (by omega) (by omega) (by omega) (by omega))) (by rw [c2₁ x₁ (by omega)]; exact e₁) hn₁ (fun J3₁ R3₁ p3₁ r3₁ q3₁ e3₁ d3₁ f3₁ b3₁ => h0₁ f₁ J3₁ R3₁ p3₁ r3₁ q3₁ e3₁ d3₁ (MACD_fr g2₁ (fun b₁ hb₁ => b3₁ b₁ (by omega) (by omega))) (fun y₁ hy₁ => by rw [f3₁ y₁ hy₁, c2₁ x₁ (by omega)]) (fun b₁ u1₁ u2₁ u3₁ => by rw [b3₁ b₁ u1₁ u3₁, c2₁ b₁ u2₁]))
theorem s_undo {n₁ : Nat} {p₁ : Nat → Nat} {Q₁ : Int32 → MI → Prop} (hX₁ : PDL K₁ N₁ R₁ x₁) (hH₁ : HIS₁ R₁ x₁ p₁) (hm₁ : HM₁ K₁ N₁ R₁ x₁) (hD₁ : HD₁ I₁ x₁ p₁ n₁ S₁) (e₁ : I₁ x₁ 5 = nI n₁) (hn₁ : n₁ ≤ 8)
    (hno₁ : n₁ = 0 → Q₁ (-1) I₁)
    (h₁ : ∀ o₁, n₁ = o₁ + 1 → ∀ J₁, J₁ x₁ 5 = nI o₁ → MACD J₁ (x₁ + 19) (fun j₁ => S₁ (83 * o₁ + j₁)) → (∀ y₁, y₁ ≠ 5 → J₁ x₁ y₁ = I₁ x₁ y₁) → (∀ b₁, b₁ ≠ x₁ → b₁ < x₁ + 19 ∨ x₁ + 23 ≤ b₁ → J₁ b₁ = I₁ b₁) → Q₁ (nI o₁) J₁) : w_X11_undo x₁ K₁ N₁ I₁ L₁ R₁ Q₁ := by
  delta w_X11_undo
  rw [e₁]
  refine ⟨hX₁.k, fun f₁ I2₁ g2₁ => ?_, fun f₁ => ?_⟩
  · rw [show (0 : Int32) = nI 0 from rfl, ltN (by omega) (by omega)] at f₁
    obtain ⟨o₁, rfl⟩ : ∃ o₁, n₁ = o₁ + 1 := ⟨n₁ - 1, by omega⟩
    rw [nI_pred] at g2₁
    obtain ⟨po₁, ro₁⟩ := hH₁.1 o₁ (by omega)
    have e2₁ : I2₁ x₁ 5 = nI o₁ := by rw [g2₁, mup_at]
    have f2₁ : ∀ b₁, b₁ ≠ x₁ → I2₁ b₁ = I₁ b₁ := fun b₁ hb₁ => by rw [g2₁, mup_ne hb₁]
    rw [e2₁, ix_nI (by omega)]
    refine ⟨_, hX₁.r_machine, _, hX₁.r_history, hX₁.his_k, by rw [hX₁.his_n]; exact (vp_nI (by omega)).mpr (by omega), _, ro₁, hX₁.mac.1, s_copyFrom hX₁.mac (hm₁ _ po₁) (MACD_fr (hD₁ o₁ (by omega)) (fun b₁ hb₁ => f2₁ b₁ (by omega))) (by omega) (fun J₁ gJ₁ gb₁ => ?_)⟩
    rw [gb₁ x₁ (by omega) (by omega) (by omega) (by omega), e2₁]
    exact h₁ o₁ rfl J₁ (by rw [gb₁ x₁ (by omega) (by omega) (by omega) (by omega), e2₁]) gJ₁ (fun y₁ hy₁ => by rw [gb₁ x₁ (by omega) (by omega) (by omega) (by omega), g2₁, mup_k hy₁]) (fun b₁ u1₁ u2₁ => by rw [gb₁ b₁ (by omega) (by omega) (by omega) (by omega), f2₁ b₁ u1₁])
  · rw [show (0 : Int32) = nI 0 from rfl, ltN (by omega) (by omega)] at f₁
    exact hno₁ (by omega)
end UN₁
section RG₁
variable {K₁ N₁ : MK} {I₁ : MI} {L₁ : ML} {R₁ : MR} {m₁ : Nat}
theorem r_act {d₁ n₁ k₁ : Nat} {a₁ b₁ : Int32} {Q₁ : Int32 → MI → Prop} (hM₁ : MDL K₁ N₁ R₁ m₁) (hU₁ : WFc (I₁ (m₁ + 2))) (e2₁ : I₁ (m₁ + 2) 344 = nI k₁) (hk₁ : k₁ ≤ 8) (e₁ : I₁ m₁ 24 = nI n₁) (hn₁ : n₁ ≤ 8) (hd₁ : d₁ < 8) (ha₁ : dar₁ (I₁ (m₁ + 2)) a₁ d₁)
    (hw₁ : dwS₁ (I₁ (m₁ + 2)) (macV (I₁ (m₁ + 2))) a₁ b₁ d₁ ≠ 0 → Q₁ (dwS₁ (I₁ (m₁ + 2)) (macV (I₁ (m₁ + 2))) a₁ b₁ d₁) I₁)
    (h0₁ : dwS₁ (I₁ (m₁ + 2)) (macV (I₁ (m₁ + 2))) a₁ b₁ d₁ = 0 → ∀ J₁, J₁ (m₁ + 2) = ovr₁ (I₁ (m₁ + 2)) (dlS₁ (I₁ (m₁ + 2)) (macV (I₁ (m₁ + 2))) a₁ b₁ d₁) → J₁ m₁ 24 = nI (shN₁ n₁) → SH₁ n₁ (I₁ (m₁ + 5)) (macV (I₁ (m₁ + 2))) (J₁ (m₁ + 5)) → (∀ y₁, y₁ ≠ 24 → J₁ m₁ y₁ = I₁ m₁ y₁) → (∀ b₁, b₁ ≠ m₁ → b₁ ≠ m₁ + 2 → b₁ ≠ m₁ + 5 → J₁ b₁ = I₁ b₁) → Q₁ 0 J₁) : w_X12_act m₁ (nI d₁) a₁ b₁ true K₁ N₁ I₁ L₁ R₁ Q₁ := by
  delta w_X12_act
  refine ⟨fun _ => ⟨hM₁.k, r_refusal hM₁ hU₁ e2₁ hk₁ hd₁ ha₁ ⟨fun f₁ => ?_, hw₁⟩⟩, fun z₁ => absurd z₁ (by decide)⟩
  refine r_snap hM₁ e₁ hn₁ (fun J1₁ e1₁ s1₁ f1₁ b1₁ => ?_)
  have g2₁ : J1₁ (m₁ + 2) = I₁ (m₁ + 2) := b1₁ _ (by omega) (by omega)
  refine r_live hM₁ (by rw [g2₁]; exact hU₁) (by rw [g2₁]; exact e2₁) hk₁ hd₁ (by rw [g2₁]; exact ha₁) (by rw [g2₁]; exact f₁) (fun J2₁ h2₁ b2₁ => ?_)
  rw [g2₁] at h2₁
  rw [f₁] at h0₁
  refine h0₁ rfl J2₁ h2₁ (by rw [b2₁ m₁ (by omega)]; exact e1₁) (by rw [b2₁ _ (by omega)]; exact s1₁) (fun y₁ hy₁ => by rw [b2₁ m₁ (by omega)]; exact f1₁ y₁ hy₁) (fun b₁ u1₁ u2₁ u3₁ => by rw [b2₁ b₁ u2₁, b1₁ b₁ u1₁ u3₁])
theorem r_actNo {a₁ b₁ c₁ : Int32} {Q₁ : Int32 → MI → Prop} (h₁ : Q₁ (-1) I₁) : w_X12_act m₁ c₁ a₁ b₁ false K₁ N₁ I₁ L₁ R₁ Q₁ := by
  delta w_X12_act
  exact ⟨fun z₁ => absurd z₁ (by decide), fun _ => h₁⟩
theorem r_undo {n₁ : Nat} {Q₁ : Int32 → MI → Prop} (hM₁ : MDL K₁ N₁ R₁ m₁) (e₁ : I₁ m₁ 24 = nI n₁) (hn₁ : n₁ ≤ 8)
    (hno₁ : n₁ = 0 → Q₁ (-1) (mup I₁ m₁ 0 0))
    (h₁ : ∀ o₁, n₁ = o₁ + 1 → ∀ J₁, J₁ m₁ 24 = nI o₁ → J₁ (m₁ + 2) = ovr₁ (I₁ (m₁ + 2)) (fun j₁ => I₁ (m₁ + 5) (83 * o₁ + j₁)) → (∀ y₁, y₁ ≠ 24 → y₁ ≠ 0 → J₁ m₁ y₁ = I₁ m₁ y₁) → (∀ b₁, b₁ ≠ m₁ → b₁ ≠ m₁ + 2 → J₁ b₁ = I₁ b₁) → Q₁ (nI o₁) J₁) : w_X12_undo m₁ K₁ N₁ I₁ L₁ R₁ Q₁ := by
  delta w_X12_undo
  refine ⟨hM₁.k, fun I2₁ g2₁ => ?_⟩
  have e0₁ : I2₁ m₁ 24 = nI n₁ := by rw [g2₁, mup_k (by decide)]; exact e₁
  rw [e0₁]
  refine ⟨fun f₁ I3₁ g3₁ => ?_, fun f₁ => ?_⟩
  · rw [show (0 : Int32) = nI 0 from rfl, eqN (by omega) (by omega)] at f₁
    obtain ⟨o₁, rfl⟩ : ∃ o₁, n₁ = o₁ + 1 := ⟨n₁ - 1, by omega⟩
    rw [nI_pred] at g3₁
    have e3₁ : I3₁ m₁ 24 = nI o₁ := by rw [g3₁, mup_at]
    have f3₁ : ∀ b₁, b₁ ≠ m₁ → I3₁ b₁ = I₁ b₁ := fun b₁ hb₁ => by rw [g3₁, mup_ne hb₁, g2₁, mup_ne hb₁]
    rw [e3₁, show (83 : Int32) = nI 83 from rfl, mulN]
    refine ⟨_, hM₁.r17, r_comeBack hM₁ (by omega) hM₁.k5 hM₁.n5 (by decide) (by omega) (fun J₁ gJ₁ gb₁ => ?_)⟩
    rw [gb₁ m₁ (by omega), e3₁]
    refine h₁ o₁ rfl J₁ (by rw [gb₁ m₁ (by omega), e3₁]) ?_ (fun y₁ h1₁ h2₁ => by rw [gb₁ m₁ (by omega), g3₁, mup_k h1₁, g2₁, mup_k h2₁]) (fun b₁ u1₁ u2₁ => by rw [gb₁ b₁ u2₁, f3₁ b₁ u1₁])
    rw [gJ₁, f3₁ _ (by omega), f3₁ _ (by omega)]
  · rw [show (0 : Int32) = nI 0 from rfl, eqN (by omega) (by omega)] at f₁
    rw [← g2₁] at hno₁
    exact hno₁ f₁
end RG₁
