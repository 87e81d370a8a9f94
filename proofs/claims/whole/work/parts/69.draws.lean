/-! ===== deeds drawn one after the other ===== -/
/-- after i deeds: the machine, the seed, how many were done -/
def drI₁ (U₁ V₁ : Nat → Int32) (s₁ : Int32) : Nat → (Nat → Int32) × Int32 × Nat
  | 0 => (V₁, s₁, 0)
  | i₁ + 1 => (dlD₁ U₁ (drI₁ U₁ V₁ s₁ i₁).1 (ddS₁ U₁ (drI₁ U₁ V₁ s₁ i₁).1 (drI₁ U₁ V₁ s₁ i₁).2.1), (ddS₁ U₁ (drI₁ U₁ V₁ s₁ i₁).1 (drI₁ U₁ V₁ s₁ i₁).2.1).2.2.2, if dwD₁ U₁ (drI₁ U₁ V₁ s₁ i₁).1 (ddS₁ U₁ (drI₁ U₁ V₁ s₁ i₁).1 (drI₁ U₁ V₁ s₁ i₁).2.1) = 0 then (drI₁ U₁ V₁ s₁ i₁).2.2 + 1 else (drI₁ U₁ V₁ s₁ i₁).2.2)
section UN₁
variable {U₁ U'₁ V₁ : Nat → Int32} {s₁ : Int32}
theorem pr3₁ {A₁ B₁ C₁ : Type} {p₁ : A₁ × B₁ × C₁} {a₁ : A₁} {b₁ : B₁} {c₁ : C₁} (h₁ : p₁ = (a₁, b₁, c₁)) : p₁.1 = a₁ ∧ p₁.2.1 = b₁ ∧ p₁.2.2 = c₁ := by subst h₁; exact ⟨rfl, rfl, rfl⟩
theorem drI_s {i₁ : Nat} : drI₁ U₁ V₁ s₁ (i₁ + 1) = (dlD₁ U₁ (drI₁ U₁ V₁ s₁ i₁).1 (ddS₁ U₁ (drI₁ U₁ V₁ s₁ i₁).1 (drI₁ U₁ V₁ s₁ i₁).2.1), (ddS₁ U₁ (drI₁ U₁ V₁ s₁ i₁).1 (drI₁ U₁ V₁ s₁ i₁).2.1).2.2.2, if dwD₁ U₁ (drI₁ U₁ V₁ s₁ i₁).1 (ddS₁ U₁ (drI₁ U₁ V₁ s₁ i₁).1 (drI₁ U₁ V₁ s₁ i₁).2.1) = 0 then (drI₁ U₁ V₁ s₁ i₁).2.2 + 1 else (drI₁ U₁ V₁ s₁ i₁).2.2) := by rw [drI₁]
theorem drI_a {i₁ : Nat} : (drI₁ U₁ V₁ s₁ (i₁ + 1)).1 = dlD₁ U₁ (drI₁ U₁ V₁ s₁ i₁).1 (ddS₁ U₁ (drI₁ U₁ V₁ s₁ i₁).1 (drI₁ U₁ V₁ s₁ i₁).2.1) := (pr3₁ drI_s).1
theorem drI_b {i₁ : Nat} : (drI₁ U₁ V₁ s₁ (i₁ + 1)).2.1 = (ddS₁ U₁ (drI₁ U₁ V₁ s₁ i₁).1 (drI₁ U₁ V₁ s₁ i₁).2.1).2.2.2 := (pr3₁ drI_s).2.1
theorem drI_c {i₁ : Nat} : (drI₁ U₁ V₁ s₁ (i₁ + 1)).2.2 = if dwD₁ U₁ (drI₁ U₁ V₁ s₁ i₁).1 (ddS₁ U₁ (drI₁ U₁ V₁ s₁ i₁).1 (drI₁ U₁ V₁ s₁ i₁).2.1) = 0 then (drI₁ U₁ V₁ s₁ i₁).2.2 + 1 else (drI₁ U₁ V₁ s₁ i₁).2.2 := (pr3₁ drI_s).2.2
theorem drI_v (hU₁ : WFc U₁) (hr₁ : WFr U₁) (h₁ : WFv₁ U₁ V₁) : ∀ i₁, WFv₁ U₁ (drI₁ U₁ V₁ s₁ i₁).1
  | 0 => h₁
  | i₁ + 1 => by rw [drI_a]; exact WFv_D hU₁ hr₁ (drI_v hU₁ hr₁ h₁ i₁) (ddS_ok hU₁ _)
theorem drI_hi (hU₁ : WFc U₁) (hr₁ : WFr U₁) (h₁ : WFv₁ U₁ V₁) {k₁ : Nat} (hk₁ : 83 ≤ k₁) : ∀ i₁, (drI₁ U₁ V₁ s₁ i₁).1 k₁ = V₁ k₁
  | 0 => rfl
  | i₁ + 1 => by rw [drI_a, dlD_hi (drI_v hU₁ hr₁ h₁ i₁) (ddS_ok hU₁ _) hk₁]; exact drI_hi hU₁ hr₁ h₁ hk₁ i₁
theorem drI_le : ∀ i₁, (drI₁ U₁ V₁ s₁ i₁).2.2 ≤ i₁
  | 0 => Nat.le_refl 0
  | i₁ + 1 => by
    have := drI_le i₁
    rw [drI_c]
    split <;> omega
theorem dlD_1 {p₁ : Nat × Int32 × Int32 × Int32} (hp₁ : daD₁ U₁ p₁) (hv₁ : WFv₁ U₁ V₁) : dlD₁ U₁ V₁ p₁ 1 = if dwD₁ U₁ V₁ p₁ = 0 then V₁ 1 + 1 else V₁ 1 := by
  rw [dlD₁]
  split
  · rw [dlS₁, vst_a]
  · rfl
theorem drI_1 (hU₁ : WFc U₁) (hr₁ : WFr U₁) (h₁ : WFv₁ U₁ V₁) : ∀ i₁, (drI₁ U₁ V₁ s₁ i₁).1 1 = V₁ 1 + nI (drI₁ U₁ V₁ s₁ i₁).2.2
  | 0 => by rw [drI₁]; show V₁ 1 = V₁ 1 + 0; rw [Int32.add_zero]
  | i₁ + 1 => by
    have ih₁ := drI_1 hU₁ hr₁ h₁ i₁
    rw [drI_a, drI_c, dlD_1 (ddS_ok hU₁ _) (drI_v hU₁ hr₁ h₁ i₁)]
    split
    · rw [ih₁, Int32.add_assoc, nI_1]
    · exact ih₁
theorem drI_z : ∀ i₁, (drI₁ U₁ V₁ s₁ i₁).2.2 = 0 → (drI₁ U₁ V₁ s₁ i₁).1 = V₁
  | 0, _ => rfl
  | i₁ + 1, e₁ => by
    rw [drI_c] at e₁
    rw [drI_a]
    by_cases z₁ : dwD₁ U₁ (drI₁ U₁ V₁ s₁ i₁).1 (ddS₁ U₁ (drI₁ U₁ V₁ s₁ i₁).1 (drI₁ U₁ V₁ s₁ i₁).2.1) = 0
    · rw [if_pos z₁] at e₁; omega
    · rw [if_neg z₁] at e₁
      rw [dlD₁, if_neg z₁]; exact drI_z i₁ e₁
end UN₁
section UN₁
variable {K₁ N₁ : MK} {I₁ : MI} {L₁ : ML} {R₁ : MR} {c₁ g₁ u₁ : Nat} {U₁ V₁ : Nat → Int32} {W₁ : Nat → Int64}
theorem s_doDeeds {n₁ : Nat} {s₁ : Int32} {Q₁ : Int32 → MI → Prop} (hg₁ : K₁ g₁ = 2) (hC₁ : MAL K₁ N₁ R₁ c₁) (hL₁ : UL K₁ N₁ R₁ u₁) (hcg₁ : c₁ + 3 < g₁) (huc₁ : u₁ + 15 < c₁) (hV₁ : MACD I₁ c₁ V₁) (hD₁ : UD I₁ L₁ u₁ U₁ W₁) (hU₁ : WFc U₁) (hr₁ : WFr U₁) (hs₁ : WFs U₁) (hv₁ : WFv₁ U₁ V₁) (hn₁ : n₁ < 1000)
    (h₁ : ∀ J₁, MACD J₁ c₁ (drI₁ U₁ V₁ s₁ n₁).1 → (∀ b₁, b₁ ≠ g₁ → b₁ < c₁ ∨ c₁ + 3 < b₁ → J₁ b₁ = I₁ b₁) → (∀ y₁, y₁ ≠ 0 → J₁ g₁ y₁ = I₁ g₁ y₁) → Q₁ (nI (drI₁ U₁ V₁ s₁ n₁).2.2) J₁) : w_X1_doDeeds g₁ u₁ c₁ (nI n₁) s₁ K₁ N₁ I₁ L₁ R₁ Q₁ := by
  delta w_X1_doDeeds
  refine ⟨hg₁, fun I2₁ g2₁ => ?_⟩
  delta w_X1_doDeeds_12
  refine ⟨fun n1₁ y0₁ y1₁ y2₁ y3₁ y5₁ y6₁ I1₁ => y0₁ = g₁ ∧ y1₁ = u₁ ∧ y2₁ = c₁ ∧ y3₁ = nI n₁ ∧ ∃ i₁, i₁ ≤ n₁ ∧ n1₁ = n₁ - i₁ ∧ y5₁ = nI (drI₁ U₁ V₁ s₁ i₁).2.2 ∧ y6₁ = nI i₁ ∧ MACD I1₁ c₁ (drI₁ U₁ V₁ s₁ i₁).1 ∧ I1₁ g₁ 0 = (drI₁ U₁ V₁ s₁ i₁).2.1 ∧ (∀ b₁, b₁ ≠ g₁ → b₁ < c₁ ∨ c₁ + 3 < b₁ → I1₁ b₁ = I₁ b₁) ∧ (∀ y₁, y₁ ≠ 0 → I1₁ g₁ y₁ = I₁ g₁ y₁), ⟨n₁, rfl, rfl, rfl, rfl, 0, by omega, rfl, rfl, rfl, MACD_fr hV₁ (fun b₁ hb₁ => by rw [g2₁, mup_ne (by omega)]), by rw [g2₁, mup_at]; rfl, fun b₁ h1₁ h2₁ => by rw [g2₁, mup_ne h1₁], fun y₁ hy₁ => by rw [g2₁, mup_k hy₁]⟩, ?_⟩
  rintro n1₁ y0₁ y1₁ y2₁ y3₁ y5₁ y6₁ I1₁ ⟨rfl, rfl, rfl, rfl, i₁, hi₁, rfl, rfl, rfl, p1₁, p2₁, p3₁, p4₁⟩
  rw [leN (by omega) (by omega)]
  refine ⟨fun e₁ => ?_, fun e₁ => ⟨hg₁, s_doDeed hg₁ hC₁ hL₁ hcg₁ huc₁ p1₁ (UD_fr hD₁ (fun b₁ h1₁ h2₁ => p3₁ b₁ (by omega) (by omega))) hU₁ hr₁ hs₁ (drI_v hU₁ hr₁ hv₁ i₁) (fun J₁ q1₁ q2₁ q3₁ q4₁ => ?_)⟩⟩
  · have ei₁ : i₁ = n₁ := by omega
    subst ei₁
    exact h₁ I1₁ p1₁ p3₁ p4₁
  · rw [p2₁] at q1₁ q2₁ ⊢
    have f1₁ : ∀ b₁, b₁ ≠ y0₁ → b₁ < y2₁ ∨ y2₁ + 3 < b₁ → J₁ b₁ = I₁ b₁ := fun b₁ h1₁ h2₁ => by rw [q3₁ b₁ h1₁ h2₁, p3₁ b₁ h1₁ h2₁]
    have f2₁ : ∀ y₁, y₁ ≠ 0 → J₁ y0₁ y₁ = I₁ y0₁ y₁ := fun y₁ hy₁ => by rw [q4₁ y₁ hy₁, p4₁ y₁ hy₁]
    refine ⟨fun z₁ v6₁ g6₁ => ⟨n₁ - (i₁ + 1), by omega, rfl, rfl, rfl, rfl, i₁ + 1, by omega, rfl, ?_, by rw [g6₁, nI_1], by rw [drI_a]; exact q1₁, by rw [drI_b]; exact q2₁, f1₁, f2₁⟩, fun z₁ v7₁ g7₁ v8₁ g8₁ => ⟨n₁ - (i₁ + 1), by omega, rfl, rfl, rfl, rfl, i₁ + 1, by omega, rfl, ?_, by rw [g8₁, nI_1], by rw [drI_a]; exact q1₁, by rw [drI_b]; exact q2₁, f1₁, f2₁⟩⟩
    · rw [drI_c, if_neg z₁]
    · rw [drI_c, g7₁, nI_1, if_pos z₁]
end UN₁
section RG₁
variable {K₁ N₁ : MK} {I₁ : MI} {L₁ : ML} {R₁ : MR} {m₁ : Nat}
theorem r_drawDeeds {n₁ : Nat} {s₁ : Int32} {Q₁ : MI → Prop} (hM₁ : MDL K₁ N₁ R₁ m₁) (hU₁ : WFc (I₁ (m₁ + 2))) (hr₁ : WFr (I₁ (m₁ + 2))) (hv₁ : WFv₁ (I₁ (m₁ + 2)) (macV (I₁ (m₁ + 2)))) (hn₁ : n₁ < 1000)
    (h₁ : ∀ J₁, J₁ (m₁ + 2) = ovr₁ (I₁ (m₁ + 2)) (drI₁ (I₁ (m₁ + 2)) (macV (I₁ (m₁ + 2))) s₁ n₁).1 → (∀ y₁, y₁ ≠ 48 → J₁ m₁ y₁ = I₁ m₁ y₁) → (∀ z₁, z₁ ≠ m₁ → z₁ ≠ m₁ + 2 → J₁ z₁ = I₁ z₁) → Q₁ J₁) : w_X12_drawDeeds m₁ (nI n₁) s₁ K₁ N₁ I₁ L₁ R₁ Q₁ := by
  delta w_X12_drawDeeds
  refine ⟨hM₁.k, fun I2₁ g2₁ => ?_⟩
  delta w_X12_drawDeeds_7
  refine ⟨fun n1₁ y0₁ y1₁ y3₁ I1₁ => y0₁ = m₁ ∧ y1₁ = nI n₁ ∧ ∃ i₁, i₁ ≤ n₁ ∧ n1₁ = n₁ - i₁ ∧ y3₁ = nI i₁ ∧ I1₁ (m₁ + 2) = ovr₁ (I₁ (m₁ + 2)) (drI₁ (I₁ (m₁ + 2)) (macV (I₁ (m₁ + 2))) s₁ i₁).1 ∧ I1₁ m₁ 48 = (drI₁ (I₁ (m₁ + 2)) (macV (I₁ (m₁ + 2))) s₁ i₁).2.1 ∧ (∀ y₁, y₁ ≠ 48 → I1₁ m₁ y₁ = I₁ m₁ y₁) ∧ (∀ z₁, z₁ ≠ m₁ → z₁ ≠ m₁ + 2 → I1₁ z₁ = I₁ z₁), ⟨n₁, rfl, rfl, 0, by omega, rfl, rfl, by rw [g2₁, mup_ne (by omega)]; exact ovr_mac.symm, by rw [g2₁, mup_at]; rfl, fun y₁ hy₁ => by rw [g2₁, mup_k hy₁], fun z₁ h1₁ h2₁ => by rw [g2₁, mup_ne h1₁]⟩, ?_⟩
  rintro n1₁ y0₁ y1₁ y3₁ I1₁ ⟨rfl, rfl, i₁, hi₁, rfl, rfl, p1₁, p2₁, p3₁, p4₁⟩
  rw [leN (by omega) (by omega)]
  refine ⟨fun e₁ => ?_, fun e₁ => ⟨hM₁.k, ?_⟩⟩
  · have ei₁ : i₁ = n₁ := by omega
    subst ei₁
    exact h₁ I1₁ p1₁ p3₁ p4₁
  · have ag₁ : agU₁ (I1₁ (y0₁ + 2)) (I₁ (y0₁ + 2)) := by rw [p1₁]; exact ovr_ag
    have mV₁ : macV (I1₁ (y0₁ + 2)) = (drI₁ (I₁ (y0₁ + 2)) (macV (I₁ (y0₁ + 2))) s₁ i₁).1 := by rw [p1₁]; exact mac_ovr2 (fun k₁ hk₁ => drI_hi hU₁ hr₁ hv₁ hk₁ i₁)
    have hv1₁ := drI_v (s₁ := s₁) hU₁ hr₁ hv₁ i₁
    have wv₁ : WFv₁ (I1₁ (y0₁ + 2)) (macV (I1₁ (y0₁ + 2))) := by
      rw [mV₁]; exact ⟨hv1₁.1, hv1₁.2.1, by rw [adr_cg ag₁]; exact hv1₁.2.2⟩
    refine r_drawsDeed hM₁ (WFc_cg ag₁ hU₁) wv₁ (fun J₁ q1₁ q2₁ q3₁ q4₁ v5₁ g5₁ => ⟨n₁ - (i₁ + 1), by omega, rfl, rfl, i₁ + 1, by omega, rfl, by rw [g5₁, nI_1], ?_, ?_, fun y₁ hy₁ => by rw [q3₁ y₁ hy₁, p3₁ y₁ hy₁], fun z₁ h1₁ h2₁ => by rw [q4₁ z₁ h1₁ h2₁, p4₁ z₁ h1₁ h2₁]⟩)
    · rw [q1₁, mV₁, p2₁, ddS_cg ag₁, dlD_cg ag₁ hU₁, p1₁, ovr_ovr, drI_a]
    · rw [q2₁, mV₁, p2₁, ddS_cg ag₁, drI_b]
end RG₁
