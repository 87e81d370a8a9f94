/-! ===== class and reference beside one another: acts, undo, draws ===== -/
section CA₁
variable {K₁ N₁ : MK} {I₁ J₁ : MI} {L₁ M₁ : ML} {R₁ R'₁ : MR} {x₁ m₁ : Nat} {a₁ b₁ c₁ : Int32} {U₁ V₁ V'₁ S₁ S'₁ : Nat → Int32}
variable {B₁ : Nat → Nat} {NM₁ : Nat → List Nat} {p₁ p'₁ : Nat → Nat} {l₁ : List (Nat × Nat × Nat)} {n₁ o₁ o'₁ nc₁ nt₁ np₁ nu₁ : Nat}
theorem WFv_bl (h₁ : WFv₁ U₁ V₁) (e₁ : ∀ k₁, k₁ < 83 → V'₁ k₁ = V₁ k₁) : WFv₁ U₁ V'₁ := by
  obtain ⟨⟨q₁, q1₁, q2₁⟩, ⟨w1₁, w2₁⟩, w3₁⟩ := h₁
  exact ⟨⟨q₁, q1₁, by rw [e₁ 2 (by decide)]; exact q2₁⟩, ⟨fun j₁ hj₁ => by rw [e₁ _ (by omega)]; exact w1₁ j₁ hj₁, fun j₁ hj₁ => by rw [e₁ _ (by omega)]; exact w2₁ j₁ hj₁⟩, by rw [e₁ 0 (by decide)]; exact w3₁⟩
theorem SH_wfv (ho₁ : o₁ ≤ 8) (h₁ : ∀ k₁, k₁ < o₁ → WFv₁ U₁ (fun j₁ => S₁ (83 * k₁ + j₁))) (hv₁ : WFv₁ U₁ V₁) (g₁ : SH₁ o₁ S₁ V₁ S'₁) : shN₁ o₁ ≤ 8 ∧ ∀ k₁, k₁ < shN₁ o₁ → WFv₁ U₁ (fun j₁ => S'₁ (83 * k₁ + j₁)) := by
  by_cases q₁ : o₁ < 8
  · obtain ⟨g1₁, g2₁⟩ := g₁.1 q₁
    rw [shN₁, if_pos q₁]
    refine ⟨by omega, fun k₁ hk₁ => ?_⟩
    by_cases e₁ : k₁ = o₁
    · rw [e₁]; exact WFv_bl hv₁ g2₁
    · exact WFv_bl (h₁ k₁ (by omega)) (fun j₁ hj₁ => g1₁ _ (by omega))
  · obtain ⟨g1₁, g2₁⟩ := g₁.2 (by omega)
    rw [shN₁, if_neg q₁]
    refine ⟨by omega, fun k₁ hk₁ => ?_⟩
    by_cases e₁ : k₁ = 7
    · rw [e₁]; exact WFv_bl hv₁ g2₁
    · exact WFv_bl (h₁ (k₁ + 1) (by omega)) (fun j₁ hj₁ => by rw [g1₁ _ (by omega)]; congr 1; omega)
/-- the cells that a deed, and what is remembered of it, may change -/
def acC₁ (x₁ m₁ b₁ : Nat) : Prop := b₁ = x₁ ∨ (x₁ + 19 ≤ b₁ ∧ b₁ ≤ x₁ + 26) ∨ b₁ = x₁ + 28 ∨ b₁ = x₁ + 29 ∨ b₁ = x₁ + 30 ∨ (x₁ + 86 ≤ b₁ ∧ b₁ < x₁ + 118) ∨ b₁ = m₁ ∨ b₁ = m₁ + 2 ∨ b₁ = m₁ + 5 ∨ b₁ = m₁ + 6 ∨ b₁ = m₁ + 7 ∨ b₁ = m₁ + 14
theorem CPL_act (h₁ : CP₁ K₁ N₁ I₁ L₁ R₁ x₁ m₁ B₁ n₁ NM₁ o₁ p₁ l₁ nc₁ nt₁ np₁ nu₁) (hR₁ : ∀ b₁, b₁ ≠ x₁ + 27 → R'₁ b₁ = R₁ b₁) (hH₁ : HIS₁ R'₁ x₁ p'₁) (jx₁ : J₁ x₁ 5 = nI o'₁) (ho₁ : o'₁ ≤ 8) (j24₁ : J₁ m₁ 24 = nI o'₁) (hHD₁ : HD₁ J₁ x₁ p'₁ o'₁ (J₁ (m₁ + 5))) (hVs₁ : ∀ k₁, k₁ < o'₁ → WFv₁ (I₁ (m₁ + 2)) (fun j₁ => J₁ (m₁ + 5) (83 * k₁ + j₁)))
    (jU₁ : J₁ (m₁ + 2) = ovr₁ (I₁ (m₁ + 2)) V'₁) (hV₁ : MACD J₁ (x₁ + 19) V'₁) (hv₁ : WFv₁ (I₁ (m₁ + 2)) V'₁) (jb₁ : ∀ b₁, ¬ acC₁ x₁ m₁ b₁ → J₁ b₁ = I₁ b₁) (jm₁ : ∀ y₁, y₁ = 2 ∨ y₁ = 10 ∨ y₁ = 28 ∨ y₁ = 35 ∨ y₁ = 43 ∨ y₁ = 47 ∨ y₁ = 52 → J₁ m₁ y₁ = I₁ m₁ y₁) : CPL₁ K₁ N₁ J₁ L₁ R'₁ x₁ m₁ := by
  obtain ⟨⟨s1₁, s2₁, s3₁, s4₁, s5₁, s6₁⟩, h2₁, h3₁, h4₁, h5₁, h6₁, h7₁, h8₁, h9₁, h10₁, h11₁, h12₁, h13₁⟩ := h₁
  have ag₁ : agU₁ (J₁ (m₁ + 2)) (I₁ (m₁ + 2)) := by rw [jU₁]; exact ovr_ag
  have mv₁ : ∀ k₁, k₁ < 83 → macV (J₁ (m₁ + 2)) k₁ = V'₁ k₁ := fun k₁ hk₁ => by rw [jU₁]; exact mac_ovr hk₁
  refine ⟨B₁, n₁, NM₁, o'₁, p'₁, l₁, nc₁, nt₁, np₁, nu₁, ⟨PDL_R s1₁ hR₁, MDL_R s2₁ (hR₁ _ (by omega)), HM_R s3₁ hR₁, hH₁, s5₁, s6₁⟩, ?_, ?_, ?_, ?_, ?_, ?_, ?_, ?_, ?_, ?_, ?_, ?_⟩
  · exact cTok_fr h2₁ (by rw [jb₁ _ (by unfold acC₁; omega)]) (by rw [jb₁ _ (by unfold acC₁; omega)]) (jm₁ _ (by decide)) (jm₁ _ (by decide)) (jb₁ _ (by unfold acC₁; omega)) (jb₁ _ (by unfold acC₁; omega))
  · exact cUni_fr h3₁ (fun b₁ q1₁ q2₁ => jb₁ b₁ (by unfold acC₁; omega)) (fun _ _ _ => rfl) ag₁ rfl
  · exact ⟨MACD_cg hV₁ mv₁, WFv_bl (WFv_ag ag₁ hv₁) mv₁⟩
  · exact ⟨ho₁, jx₁, j24₁, hHD₁, fun k₁ hk₁ => WFv_ag ag₁ (hVs₁ k₁ hk₁)⟩
  · exact cCha_fr h6₁ (jb₁ _ (by unfold acC₁; omega)) (jb₁ _ (by unfold acC₁; omega)) (jm₁ _ (by decide)) (jb₁ _ (by unfold acC₁; omega)) (jb₁ _ (by unfold acC₁; omega))
  · exact cTag_fr h7₁ (jb₁ _ (by unfold acC₁; omega)) (jb₁ _ (by unfold acC₁; omega)) (jm₁ _ (by decide)) (jb₁ _ (by unfold acC₁; omega))
  · exact cPak_fr h8₁ (jb₁ _ (by unfold acC₁; omega)) (jb₁ _ (by unfold acC₁; omega)) (jm₁ _ (by decide)) (jb₁ _ (by unfold acC₁; omega))
  · exact cUnp_fr h9₁ (by rw [jb₁ _ (by unfold acC₁; omega)]) (jb₁ _ (by unfold acC₁; omega)) (jb₁ _ (by unfold acC₁; omega)) (jm₁ _ (by decide)) (jb₁ _ (by unfold acC₁; omega)) (jb₁ _ (by unfold acC₁; omega))
  · exact cTol_fr h10₁ (jb₁ _ (by unfold acC₁; omega)) (jb₁ _ (by unfold acC₁; omega)) (jm₁ _ (by decide)) (jb₁ _ (by unfold acC₁; omega))
  · exact cSen_fr h11₁ (by rw [jb₁ _ (by unfold acC₁; omega)]) (fun b₁ q1₁ q2₁ => jb₁ b₁ (by unfold acC₁; omega)) (fun y₁ q1₁ q2₁ => by rw [jU₁, ovr₁, if_neg (by omega)])
  · exact cKep_fr h12₁ (fun b₁ q1₁ q2₁ => jb₁ b₁ (by unfold acC₁; omega)) (fun _ _ _ => rfl) (jb₁ _ (by unfold acC₁; omega)) (jb₁ _ (by unfold acC₁; omega)) (jb₁ _ (by unfold acC₁; omega)) rfl
  · exact cMis_fr h13₁ (fun b₁ q1₁ q2₁ => jb₁ b₁ (by unfold acC₁; omega)) (by rw [jb₁ _ (by unfold acC₁; omega)])
theorem HD_fr (h₁ : HD₁ I₁ x₁ p₁ o₁ S₁) (hp₁ : ∀ k₁, k₁ < 8 → p₁ k₁ < 8) (ho₁ : o₁ ≤ 8) (e₁ : ∀ b₁, x₁ + 86 ≤ b₁ → b₁ < x₁ + 118 → J₁ b₁ = I₁ b₁) : HD₁ J₁ x₁ p₁ o₁ S₁ := fun k₁ hk₁ => by
  have := hp₁ k₁ (by omega)
  exact MACD_fr (h₁ k₁ hk₁) (fun b₁ q₁ => e₁ b₁ (by omega) (by omega))
/-- an act that may be tried: the same on both sides -/
theorem cs_actG {d₁ : Nat} {Q₁ : Int32 → MI → ML → MR → Prop} (h₁ : CPL₁ K₁ N₁ I₁ L₁ R₁ x₁ m₁) (hd₁ : d₁ < 8) (ha₁ : dar₁ (I₁ (m₁ + 2)) a₁ d₁) (hb₁ : d₁ < 2 → ∃ w₁, w₁ < 65536 ∧ b₁ = nI w₁)
    (hQ₁ : ∀ r₁ I1₁ L1₁ R1₁, MDL K₁ N₁ R1₁ m₁ → I1₁ (m₁ + 2) = I₁ (m₁ + 2) → (∀ I2₁, I2₁ = mup I1₁ m₁ 0 0 → ∀ Q2₁ : Int32 → MI → Prop, (∀ J₁, CPL₁ K₁ N₁ J₁ L1₁ R1₁ x₁ m₁ → Q2₁ r₁ J₁) → w_X12_act m₁ (nI d₁) a₁ b₁ true K₁ N₁ I2₁ L1₁ R1₁ Q2₁) → Q₁ r₁ I1₁ L1₁ R1₁) : w_X11_act x₁ (nI (17 + d₁)) a₁ b₁ K₁ N₁ I₁ L₁ R₁ Q₁ := by
  obtain ⟨hX₁, hM₁, hx₁, ⟨W₁, hu₁⟩, hW₁, hV₁, hv₁⟩ := cpG₁ h₁
  have hC₁ := h₁
  obtain ⟨B₁, n₁, NM₁, o₁, p₁, l₁, nc₁, nt₁, np₁, nu₁, hCP₁⟩ := hC₁
  have hCP' := hCP₁
  obtain ⟨⟨s1₁, s2₁, s3₁, s4₁, s5₁, s6₁⟩, h2₁, h3₁, h4₁, ⟨h5₁, h6₁, h7₁, h8₁, h9₁⟩, -⟩ := hCP₁
  obtain ⟨k2₁, hk2₁, ek2₁⟩ := hv₁.1
  refine s_act hX₁ s4₁ s3₁ h8₁ h6₁ h5₁ hV₁ hu₁ hW₁.1 hW₁.2.1 hW₁.2.2.1 hd₁ ha₁ (fun z₁ J1₁ f1₁ => hQ₁ _ J1₁ L₁ R₁ hM₁ (f1₁ _ (by omega)) (fun I2₁ g2₁ Q2₁ kk₁ => ?_)) (fun z₁ J1₁ R1₁ p1₁ r1₁ hH1₁ e1₁ d1₁ m1₁ y1₁ b1₁ => hQ₁ _ J1₁ L₁ R1₁ (MDL_R hM₁ (r1₁ _ (by omega))) (b1₁ _ (by omega) (by omega) (by omega)) (fun I2₁ g2₁ Q2₁ kk₁ => ?_))
  · have u2₁ : I2₁ (m₁ + 2) = I₁ (m₁ + 2) := by rw [g2₁, mup_ne (by omega), f1₁ _ (by omega)]
    have c1₁ : CPL₁ K₁ N₁ J1₁ L₁ R₁ x₁ m₁ := CPL_q h₁ (fun b₁ q₁ => f1₁ b₁ (by unfold qtC₁ at q₁; omega)) (by rw [f1₁ _ (by omega)]) (fun y₁ hy₁ => by rw [f1₁ _ (by omega)])
    have c2₁ : CPL₁ K₁ N₁ I2₁ L₁ R₁ x₁ m₁ := by rw [g2₁]; exact CPL_0 c1₁
    refine r_act hM₁ (by rw [u2₁]; exact hW₁.1) (k₁ := k2₁) (by rw [u2₁]; exact ek2₁) hk2₁ (n₁ := o₁) (by rw [g2₁, mup_k (by decide), f1₁ _ (by omega)]; exact h7₁) h5₁ hd₁ (by rw [u2₁]; exact ha₁) (fun _ => by rw [u2₁]; exact kk₁ I2₁ c2₁) (fun y₁ => ?_)
    rw [u2₁] at y₁; exact absurd y₁ z₁
  · have hM1₁ : MDL K₁ N₁ R1₁ m₁ := MDL_R hM₁ (r1₁ _ (by omega))
    have b2₁ : ∀ b₁, b₁ ≠ m₁ → I2₁ b₁ = J1₁ b₁ := fun b₁ q₁ => by rw [g2₁, mup_ne q₁]
    have y2₁ : ∀ y₁, y₁ ≠ 0 → I2₁ m₁ y₁ = I₁ m₁ y₁ := fun y₁ q₁ => by rw [g2₁, mup_k q₁, b1₁ _ (by omega) (by omega) (by omega)]
    have u2₁ : I2₁ (m₁ + 2) = I₁ (m₁ + 2) := by rw [b2₁ _ (by omega), b1₁ _ (by omega) (by omega) (by omega)]
    have u5₁ : I2₁ (m₁ + 5) = I₁ (m₁ + 5) := by rw [b2₁ _ (by omega), b1₁ _ (by omega) (by omega) (by omega)]
    refine r_act hM1₁ (by rw [u2₁]; exact hW₁.1) (k₁ := k2₁) (by rw [u2₁]; exact ek2₁) hk2₁ (n₁ := o₁) (by rw [y2₁ 24 (by decide)]; exact h7₁) h5₁ hd₁ (by rw [u2₁]; exact ha₁) (fun y₁ => ?_) (fun _ J2₁ q1₁ q2₁ q3₁ q4₁ q5₁ => kk₁ J2₁ ?_)
    · rw [u2₁] at y₁; exact absurd z₁ y₁
    rw [u2₁] at q1₁ q3₁
    rw [u5₁] at q3₁
    obtain ⟨w1₁, w2₁⟩ := SH_wfv h5₁ h9₁ hv₁ q3₁
    have hp1₁ := hH1₁.1
    refine CPL_act (o'₁ := shN₁ o₁) (p'₁ := p1₁) (V'₁ := dlS₁ (I₁ (m₁ + 2)) (macV (I₁ (m₁ + 2))) a₁ b₁ d₁) hCP' r1₁ hH1₁ (by rw [q5₁ _ (by omega) (by omega) (by omega), b2₁ _ (by omega)]; exact e1₁) w1₁ q2₁ ?_ w2₁ q1₁ ?_ (WFv_dl hW₁.1 hW₁.2.1 hv₁ hd₁ ha₁ hb₁ z₁) (fun b₁ q₁ => ?_) (fun y₁ hy₁ => by rw [q4₁ y₁ (by omega), y2₁ y₁ (by omega)])
    · exact HD_fr (d1₁ _ q3₁) (fun k₁ hk₁ => (hp1₁ k₁ hk₁).1) w1₁ (fun b₁ z1₁ z2₁ => by rw [q5₁ _ (by omega) (by omega) (by omega), b2₁ _ (by omega)])
    · exact MACD_fr m1₁ (fun b₁ z1₁ => by rw [q5₁ _ (by omega) (by omega) (by omega), b2₁ _ (by omega)])
    · unfold acC₁ at q₁
      rw [q5₁ _ (by omega) (by omega) (by omega), b2₁ _ (by omega), b1₁ _ (by omega) (by omega) (by omega)]
theorem r_actN {d₁ : Int32} {Q₁ : Int32 → MI → Prop} (h₁ : Q₁ (-1) I₁) : w_X12_act m₁ d₁ a₁ b₁ false K₁ N₁ I₁ L₁ R₁ Q₁ := ⟨fun y₁ => absurd y₁ (by decide), fun _ => h₁⟩
theorem cs_set (h₁ : CPL₁ K₁ N₁ I₁ L₁ R₁ x₁ m₁) : w_X11_set x₁ a₁ b₁ K₁ N₁ I₁ L₁ R₁ (fun r₁ I1₁ L1₁ R1₁ => w_X12_set m₁ a₁ b₁ K₁ N₁ I1₁ L1₁ R1₁ (fun r2₁ J₁ => r₁ = r2₁ ∧ CPL₁ K₁ N₁ J₁ L1₁ R1₁ x₁ m₁)) := by
  obtain ⟨hX₁, hM₁, hx₁, -⟩ := cpG₁ h₁
  delta w_X11_set w_X12_set
  refine s_isIn ⟨fun z1₁ => ⟨hM₁.k, fun I2₁ g2₁ => r_isIn ⟨fun _ => r_actN ⟨rfl, by rw [g2₁]; exact CPL_0 h₁⟩, fun y₁ => absurd (z1₁.symm.trans y₁) (by decide)⟩⟩, fun z1₁ => s_isIn ⟨fun z2₁ => ⟨hM₁.k, fun I2₁ g2₁ => r_isIn ⟨fun y₁ => absurd (z1₁.symm.trans y₁) (by decide), fun _ => r_isIn ⟨fun _ => r_actN ⟨rfl, by rw [g2₁]; exact CPL_0 h₁⟩, fun y₁ => absurd (z2₁.symm.trans y₁) (by decide)⟩⟩⟩, fun z2₁ => ⟨hX₁.k, ?_⟩⟩⟩
  obtain ⟨w₁, hw₁, ew₁⟩ := inN_t (show inN b₁ 65536 = true by rw [← isInB_lit 65535 (by decide)]; exact z2₁) (by decide)
  exact cs_actG (d₁ := 0) h₁ (by decide) (show inN a₁ 8 = true by rw [← isInB_lit 7 (by decide)]; exact z1₁) (fun _ => ⟨w₁, hw₁, ew₁⟩) (fun r₁ I1₁ L1₁ R1₁ hM1₁ _ hh₁ => ⟨hM1₁.k, fun I2₁ g2₁ => r_isIn ⟨fun y₁ => absurd (z1₁.symm.trans y₁) (by decide), fun _ => r_isIn ⟨fun y₁ => absurd (z2₁.symm.trans y₁) (by decide), fun _ => hh₁ I2₁ g2₁ _ (fun J₁ c₁ => ⟨rfl, c₁⟩)⟩⟩⟩)
theorem cs_poke (h₁ : CPL₁ K₁ N₁ I₁ L₁ R₁ x₁ m₁) : w_X11_poke x₁ a₁ b₁ K₁ N₁ I₁ L₁ R₁ (fun r₁ I1₁ L1₁ R1₁ => w_X12_poke m₁ a₁ b₁ K₁ N₁ I1₁ L1₁ R1₁ (fun r2₁ J₁ => r₁ = r2₁ ∧ CPL₁ K₁ N₁ J₁ L1₁ R1₁ x₁ m₁)) := by
  obtain ⟨hX₁, hM₁, hx₁, -⟩ := cpG₁ h₁
  delta w_X11_poke w_X12_poke
  refine s_isIn ⟨fun z1₁ => ⟨hM₁.k, fun I2₁ g2₁ => r_isIn ⟨fun _ => r_actN ⟨rfl, by rw [g2₁]; exact CPL_0 h₁⟩, fun y₁ => absurd (z1₁.symm.trans y₁) (by decide)⟩⟩, fun z1₁ => s_isIn ⟨fun z2₁ => ⟨hM₁.k, fun I2₁ g2₁ => r_isIn ⟨fun y₁ => absurd (z1₁.symm.trans y₁) (by decide), fun _ => r_isIn ⟨fun _ => r_actN ⟨rfl, by rw [g2₁]; exact CPL_0 h₁⟩, fun y₁ => absurd (z2₁.symm.trans y₁) (by decide)⟩⟩⟩, fun z2₁ => ⟨hX₁.k, ?_⟩⟩⟩
  obtain ⟨w₁, hw₁, ew₁⟩ := inN_t (show inN b₁ 65536 = true by rw [← isInB_lit 65535 (by decide)]; exact z2₁) (by decide)
  exact cs_actG (d₁ := 1) h₁ (by decide) (show inN a₁ 64 = true by rw [← isInB_lit 63 (by decide)]; exact z1₁) (fun _ => ⟨w₁, hw₁, ew₁⟩) (fun r₁ I1₁ L1₁ R1₁ hM1₁ _ hh₁ => ⟨hM1₁.k, fun I2₁ g2₁ => r_isIn ⟨fun y₁ => absurd (z1₁.symm.trans y₁) (by decide), fun _ => r_isIn ⟨fun y₁ => absurd (z2₁.symm.trans y₁) (by decide), fun _ => hh₁ I2₁ g2₁ _ (fun J₁ c₁ => ⟨rfl, c₁⟩)⟩⟩⟩)
theorem cs_go (h₁ : CPL₁ K₁ N₁ I₁ L₁ R₁ x₁ m₁) : w_X11_go x₁ a₁ K₁ N₁ I₁ L₁ R₁ (fun r₁ I1₁ L1₁ R1₁ => w_X12_go_ m₁ a₁ K₁ N₁ I1₁ L1₁ R1₁ (fun r2₁ J₁ => r₁ = r2₁ ∧ CPL₁ K₁ N₁ J₁ L1₁ R1₁ x₁ m₁)) := by
  obtain ⟨hX₁, hM₁, hx₁, ⟨W₁, hu₁⟩, hW₁, -⟩ := cpG₁ h₁
  delta w_X11_go w_X12_go_
  refine ⟨hX₁.k, _, hX₁.r_unit, hX₁.un.1, s_hasAddress hX₁.un hu₁.1 hW₁.1 ⟨fun z1₁ => ⟨hM₁.k, fun I2₁ g2₁ => r_isAddress hM₁ ?_⟩, fun z1₁ => ?_⟩⟩
  · rw [show I2₁ (m₁ + 2) = I₁ (m₁ + 2) by rw [g2₁, mup_ne (by omega)], z1₁]
    exact r_actN ⟨rfl, by rw [g2₁]; exact CPL_0 h₁⟩
  · exact cs_actG (d₁ := 2) h₁ (by decide) z1₁ (fun y₁ => absurd y₁ (by decide)) (fun r₁ I1₁ L1₁ R1₁ hM1₁ u₁ hh₁ => ⟨hM1₁.k, fun I2₁ g2₁ => r_isAddress hM1₁ (by rw [show I2₁ (m₁ + 2) = I₁ (m₁ + 2) by rw [g2₁, mup_ne (by omega), u₁], z1₁]; exact hh₁ I2₁ g2₁ _ (fun J₁ c₁ => ⟨rfl, c₁⟩))⟩)
theorem cs_stop (h₁ : CPL₁ K₁ N₁ I₁ L₁ R₁ x₁ m₁) : w_X11_stop x₁ a₁ K₁ N₁ I₁ L₁ R₁ (fun r₁ I1₁ L1₁ R1₁ => w_X12_stop m₁ a₁ K₁ N₁ I1₁ L1₁ R1₁ (fun r2₁ J₁ => r₁ = r2₁ ∧ CPL₁ K₁ N₁ J₁ L1₁ R1₁ x₁ m₁)) := by
  obtain ⟨hX₁, hM₁, hx₁, -⟩ := cpG₁ h₁
  delta w_X11_stop w_X12_stop
  refine s_isIn ⟨fun z1₁ => ⟨hM₁.k, fun I2₁ g2₁ => r_isIn ?_⟩, fun z1₁ => ⟨hX₁.k, ?_⟩⟩
  · rw [z1₁]; exact r_actN ⟨rfl, by rw [g2₁]; exact CPL_0 h₁⟩
  · exact cs_actG (d₁ := 3) h₁ (by decide) trivial (fun y₁ => absurd y₁ (by decide)) (fun r₁ I1₁ L1₁ R1₁ hM1₁ u₁ hh₁ => ⟨hM1₁.k, fun I2₁ g2₁ => r_isIn (by rw [z1₁]; exact hh₁ I2₁ g2₁ _ (fun J₁ c₁ => ⟨rfl, c₁⟩))⟩)
theorem cs_clear (h₁ : CPL₁ K₁ N₁ I₁ L₁ R₁ x₁ m₁) : w_X11_clear x₁ a₁ K₁ N₁ I₁ L₁ R₁ (fun r₁ I1₁ L1₁ R1₁ => w_X12_clear m₁ a₁ K₁ N₁ I1₁ L1₁ R1₁ (fun r2₁ J₁ => r₁ = r2₁ ∧ CPL₁ K₁ N₁ J₁ L1₁ R1₁ x₁ m₁)) := by
  obtain ⟨hX₁, hM₁, hx₁, -⟩ := cpG₁ h₁
  delta w_X11_clear w_X12_clear
  refine s_isIn ⟨fun z1₁ => ⟨hM₁.k, fun I2₁ g2₁ => r_isIn ?_⟩, fun z1₁ => ⟨hX₁.k, ?_⟩⟩
  · rw [z1₁]; exact r_actN ⟨rfl, by rw [g2₁]; exact CPL_0 h₁⟩
  · exact cs_actG (d₁ := 4) h₁ (by decide) trivial (fun y₁ => absurd y₁ (by decide)) (fun r₁ I1₁ L1₁ R1₁ hM1₁ u₁ hh₁ => ⟨hM1₁.k, fun I2₁ g2₁ => r_isIn (by rw [z1₁]; exact hh₁ I2₁ g2₁ _ (fun J₁ c₁ => ⟨rfl, c₁⟩))⟩)
theorem cs_step (h₁ : CPL₁ K₁ N₁ I₁ L₁ R₁ x₁ m₁) : w_X11_step x₁ K₁ N₁ I₁ L₁ R₁ (fun r₁ I1₁ L1₁ R1₁ => w_X12_step m₁ K₁ N₁ I1₁ L1₁ R1₁ (fun r2₁ J₁ => r₁ = r2₁ ∧ CPL₁ K₁ N₁ J₁ L1₁ R1₁ x₁ m₁)) := by
  obtain ⟨hX₁, hM₁, hx₁, -⟩ := cpG₁ h₁
  delta w_X11_step w_X12_step
  exact ⟨hX₁.k, cs_actG (d₁ := 5) h₁ (by decide) trivial (fun y₁ => absurd y₁ (by decide)) (fun r₁ I1₁ L1₁ R1₁ hM1₁ u₁ hh₁ => ⟨hM1₁.k, fun I2₁ g2₁ => hh₁ I2₁ g2₁ _ (fun J₁ c₁ => ⟨rfl, c₁⟩)⟩)⟩
theorem cs_leave (h₁ : CPL₁ K₁ N₁ I₁ L₁ R₁ x₁ m₁) : w_X11_leave x₁ K₁ N₁ I₁ L₁ R₁ (fun r₁ I1₁ L1₁ R1₁ => w_X12_leave m₁ K₁ N₁ I1₁ L1₁ R1₁ (fun r2₁ J₁ => r₁ = r2₁ ∧ CPL₁ K₁ N₁ J₁ L1₁ R1₁ x₁ m₁)) := by
  obtain ⟨hX₁, hM₁, hx₁, -⟩ := cpG₁ h₁
  delta w_X11_leave w_X12_leave
  exact ⟨hX₁.k, cs_actG (d₁ := 6) h₁ (by decide) trivial (fun y₁ => absurd y₁ (by decide)) (fun r₁ I1₁ L1₁ R1₁ hM1₁ u₁ hh₁ => ⟨hM1₁.k, fun I2₁ g2₁ => hh₁ I2₁ g2₁ _ (fun J₁ c₁ => ⟨rfl, c₁⟩)⟩)⟩
theorem cs_run (h₁ : CPL₁ K₁ N₁ I₁ L₁ R₁ x₁ m₁) : w_X11_run x₁ K₁ N₁ I₁ L₁ R₁ (fun r₁ I1₁ L1₁ R1₁ => w_X12_run m₁ K₁ N₁ I1₁ L1₁ R1₁ (fun r2₁ J₁ => r₁ = r2₁ ∧ CPL₁ K₁ N₁ J₁ L1₁ R1₁ x₁ m₁)) := by
  obtain ⟨hX₁, hM₁, hx₁, -⟩ := cpG₁ h₁
  delta w_X11_run w_X12_run
  exact ⟨hX₁.k, cs_actG (d₁ := 7) h₁ (by decide) trivial (fun y₁ => absurd y₁ (by decide)) (fun r₁ I1₁ L1₁ R1₁ hM1₁ u₁ hh₁ => ⟨hM1₁.k, fun I2₁ g2₁ => hh₁ I2₁ g2₁ _ (fun J₁ c₁ => ⟨rfl, c₁⟩)⟩)⟩
theorem cs_undo (h₁ : CPL₁ K₁ N₁ I₁ L₁ R₁ x₁ m₁) : w_X11_undo x₁ K₁ N₁ I₁ L₁ R₁ (fun r₁ I1₁ => w_X12_undo m₁ K₁ N₁ I1₁ L₁ R₁ (fun r2₁ J₁ => r₁ = r2₁ ∧ CPL₁ K₁ N₁ J₁ L₁ R₁ x₁ m₁)) := by
  obtain ⟨hX₁, hM₁, hx₁, -⟩ := cpG₁ h₁
  have hC₁ := h₁
  obtain ⟨B₁, n₁, NM₁, o₁, p₁, l₁, nc₁, nt₁, np₁, nu₁, hCP₁⟩ := hC₁
  have hCP' := hCP₁
  obtain ⟨⟨s1₁, s2₁, s3₁, s4₁, s5₁, s6₁⟩, h2₁, h3₁, h4₁, ⟨h5₁, h6₁, h7₁, h8₁, h9₁⟩, -⟩ := hCP₁
  have hp₁ := s4₁.1
  refine s_undo hX₁ s4₁ s3₁ h8₁ h6₁ h5₁ (fun z₁ => r_undo hM₁ h7₁ h5₁ (fun _ => ⟨rfl, CPL_0 h₁⟩) (fun k₁ q₁ => absurd q₁ (by omega))) (fun k₁ e₁ J1₁ e1₁ m1₁ y1₁ b1₁ => ?_)
  subst e₁
  have u2₁ : J1₁ (m₁ + 2) = I₁ (m₁ + 2) := b1₁ _ (by omega) (by omega)
  have u5₁ : J1₁ (m₁ + 5) = I₁ (m₁ + 5) := b1₁ _ (by omega) (by omega)
  refine r_undo hM₁ (n₁ := k₁ + 1) (by rw [b1₁ _ (by omega) (by omega)]; exact h7₁) h5₁ (fun q₁ => absurd q₁ (by omega)) (fun k2₁ q₁ J2₁ e2₁ j2₁ y2₁ b2₁ => ?_)
  have ek₁ : k₁ = k2₁ := by omega
  subst ek₁
  rw [u2₁, u5₁] at j2₁
  refine ⟨rfl, CPL_act (R'₁ := R₁) (p'₁ := p₁) (o'₁ := k₁) hCP' (fun _ _ => rfl) s4₁ (by rw [b2₁ _ (by omega) (by omega)]; exact e1₁) (by omega) e2₁ (fun k3₁ hk3₁ => ?_) (fun k3₁ hk3₁ => ?_) j2₁ (MACD_fr m1₁ (fun b₁ z1₁ => by rw [b2₁ _ (by omega) (by omega)])) (h9₁ k₁ (by omega)) (fun b₁ q₁ => ?_) (fun y₁ hy₁ => by rw [y2₁ y₁ (by omega) (by omega), b1₁ _ (by omega) (by omega)])⟩
  · have := (hp₁ k3₁ (by omega)).1
    rw [b2₁ _ (by omega) (by omega), u5₁]
    exact MACD_fr (h8₁ k3₁ (by omega)) (fun b₁ z1₁ => by rw [b2₁ _ (by omega) (by omega), b1₁ _ (by omega) (by omega)])
  · rw [b2₁ _ (by omega) (by omega), u5₁]; exact h9₁ k3₁ (by omega)
  · unfold acC₁ at q₁
    rw [b2₁ _ (by omega) (by omega), b1₁ _ (by omega) (by omega)]
theorem cs_drawn (h₁ : CPL₁ K₁ N₁ I₁ L₁ R₁ x₁ m₁) : w_X11_drawn x₁ a₁ b₁ K₁ N₁ I₁ L₁ R₁ (fun r₁ I1₁ L1₁ R1₁ => w_X12_drawn m₁ a₁ b₁ K₁ N₁ I1₁ L1₁ R1₁ (fun r2₁ J₁ => r₁ = r2₁ ∧ CPL₁ K₁ N₁ J₁ L1₁ R1₁ x₁ m₁)) := by
  obtain ⟨hX₁, hM₁, hx₁, ⟨W₁, hu₁⟩, hW₁, hV₁, hv₁⟩ := cpG₁ h₁
  have hC₁ := h₁
  obtain ⟨B₁, n₁, NM₁, o₁, p₁, l₁, nc₁, nt₁, np₁, nu₁, hCP₁⟩ := hC₁
  have hCP' := hCP₁
  obtain ⟨⟨s1₁, s2₁, s3₁, s4₁, s5₁, s6₁⟩, h2₁, h3₁, h4₁, ⟨h5₁, h6₁, h7₁, h8₁, h9₁⟩, -⟩ := hCP₁
  have hp₁ := s4₁.1
  cases hz₁ : isInB a₁ 1 60 with
  | false =>
    delta w_X11_drawn w_X12_drawn
    exact s_isIn ⟨fun y₁ => absurd (hz₁.symm.trans y₁) (by decide), fun _ => ⟨hM₁.k, fun I2₁ g2₁ => r_isIn ⟨fun y₁ => absurd (hz₁.symm.trans y₁) (by decide), fun _ => ⟨rfl, by rw [g2₁]; exact CPL_0 h₁⟩⟩⟩⟩
  | true =>
    refine s_drawn (s₁ := b₁) hX₁ s4₁ s3₁ h8₁ h6₁ h5₁ hV₁ hu₁ hW₁.1 hW₁.2.1 hW₁.2.2.1 hv₁ (fun z₁ => absurd (hz₁.symm.trans z₁) (by decide)) (fun k₁ ek₁ hk₁ ez₁ J1₁ m1₁ b1₁ => ?_) (fun k₁ dd₁ ek₁ hk₁ ez₁ J1₁ R1₁ p1₁ r1₁ hH1₁ e1₁ d1₁ m1₁ y1₁ b1₁ => ?_)
    · have u2₁ : J1₁ (m₁ + 2) = I₁ (m₁ + 2) := b1₁ _ (by omega) (by omega)
      refine r_drawn hM₁ (by rw [u2₁]; exact hW₁.1) (by rw [u2₁]; exact hW₁.2.1) (by rw [u2₁]; exact hv₁) (o₁ := o₁) (by rw [b1₁ _ (by omega) (by omega)]; exact h7₁) h5₁ (fun z₁ => absurd (hz₁.symm.trans z₁) (by decide)) (fun k2₁ ek2₁ hk2₁ ez2₁ J2₁ j2₁ y2₁ b2₁ => ⟨rfl, ?_⟩) (fun k2₁ dd₁ ek2₁ hk2₁ ez2₁ J2₁ _ _ _ _ _ => ?_)
      · have j5₁ : J2₁ (m₁ + 5) = I₁ (m₁ + 5) := by rw [b2₁ _ (by omega) (by omega) (by omega) (by omega), b1₁ _ (by omega) (by omega)]
        have c1₁ : ∀ b₁, ¬ acC₁ x₁ m₁ b₁ → J2₁ b₁ = I₁ b₁ := fun b₁ q₁ => by
          unfold acC₁ at q₁
          rw [b2₁ b₁ (by omega) (by omega) (by omega) (by omega), b1₁ b₁ (by omega) (by omega)]
        refine CPL_act (R'₁ := R₁) (p'₁ := p₁) (o'₁ := o₁) (V'₁ := macV (I₁ (m₁ + 2))) hCP' (fun _ _ => rfl) s4₁ (by rw [b2₁ _ (by omega) (by omega) (by omega) (by omega), b1₁ _ (by omega) (by omega)]; exact h6₁) h5₁ (by rw [y2₁ 24 (by decide) (by decide), b1₁ _ (by omega) (by omega)]; exact h7₁) ?_ (fun k3₁ hk3₁ => by rw [j5₁]; exact h9₁ k3₁ hk3₁) (by rw [j2₁, u2₁, ovr_mac]) (MACD_fr m1₁ (fun b₁ z1₁ => by rw [b2₁ _ (by omega) (by omega) (by omega) (by omega)])) hv₁ c1₁ (fun y₁ hy₁ => by rw [y2₁ y₁ (by omega) (by omega), b1₁ _ (by omega) (by omega)])
        rw [j5₁]
        exact HD_fr h8₁ (fun k₁ hk₁ => (hp₁ k₁ hk₁).1) h5₁ (fun b₁ z1₁ z2₁ => by rw [b2₁ _ (by omega) (by omega) (by omega) (by omega), b1₁ _ (by omega) (by omega)])
      · have e₁ : k₁ = k2₁ := nI_inj (by omega) (by omega) (ek₁.symm.trans ek2₁)
        rw [u2₁, ← e₁, ez₁] at ez2₁; omega
    · have hM1₁ : MDL K₁ N₁ R1₁ m₁ := MDL_R hM₁ (r1₁ _ (by omega))
      have u2₁ : J1₁ (m₁ + 2) = I₁ (m₁ + 2) := b1₁ _ (by omega) (by omega) (by omega) (by omega)
      have u5₁ : J1₁ (m₁ + 5) = I₁ (m₁ + 5) := b1₁ _ (by omega) (by omega) (by omega) (by omega)
      have um₁ : ∀ y₁, J1₁ m₁ y₁ = I₁ m₁ y₁ := fun y₁ => by rw [b1₁ _ (by omega) (by omega) (by omega) (by omega)]
      refine r_drawn hM1₁ (by rw [u2₁]; exact hW₁.1) (by rw [u2₁]; exact hW₁.2.1) (by rw [u2₁]; exact hv₁) (o₁ := o₁) (by rw [um₁]; exact h7₁) h5₁ (fun z₁ => absurd (hz₁.symm.trans z₁) (by decide)) (fun k2₁ ek2₁ hk2₁ ez2₁ J2₁ j2₁ y2₁ b2₁ => ?_) (fun k2₁ d2₁ ek2₁ hk2₁ ez2₁ J2₁ q1₁ q2₁ q3₁ q4₁ q5₁ => ?_)
      · have e₁ : k₁ = k2₁ := nI_inj (by omega) (by omega) (ek₁.symm.trans ek2₁)
        rw [u2₁, ← e₁, ez₁] at ez2₁; omega
      · have e₁ : k₁ = k2₁ := nI_inj (by omega) (by omega) (ek₁.symm.trans ek2₁)
        rw [u2₁, ← e₁, ez₁] at ez2₁
        have e2₁ : dd₁ = d2₁ := by omega
        subst e₁ e2₁
        rw [u2₁] at q1₁ q3₁
        rw [u5₁] at q3₁
        obtain ⟨w1₁, w2₁⟩ := SH_wfv h5₁ h9₁ hv₁ q3₁
        have hp1₁ := hH1₁.1
        have b2₁ : ∀ b₁, b₁ ≠ m₁ → b₁ ≠ m₁ + 2 → b₁ ≠ m₁ + 5 → b₁ ≠ m₁ + 6 → b₁ ≠ m₁ + 7 → J2₁ b₁ = J1₁ b₁ := q5₁
        refine ⟨rfl, CPL_act (o'₁ := shN₁ o₁) (p'₁ := p1₁) (V'₁ := (drI₁ (I₁ (m₁ + 2)) (macV (I₁ (m₁ + 2))) b₁ k₁).1) hCP' r1₁ hH1₁ (by rw [b2₁ _ (by omega) (by omega) (by omega) (by omega) (by omega)]; exact e1₁) w1₁ q2₁ ?_ w2₁ q1₁ ?_ (drI_v hW₁.1 hW₁.2.1 hv₁ k₁) (fun b₁ q₁ => ?_) (fun y₁ hy₁ => by rw [q4₁ y₁ (by omega) (by omega) (by omega), um₁])⟩
        · exact HD_fr (d1₁ _ q3₁) (fun k₁ hk₁ => (hp1₁ k₁ hk₁).1) w1₁ (fun b₁ z1₁ z2₁ => by rw [b2₁ _ (by omega) (by omega) (by omega) (by omega) (by omega)])
        · exact MACD_fr m1₁ (fun b₁ z1₁ => by rw [b2₁ _ (by omega) (by omega) (by omega) (by omega) (by omega)])
        · unfold acC₁ at q₁
          rw [b2₁ _ (by omega) (by omega) (by omega) (by omega) (by omega), b1₁ _ (by omega) (by omega) (by omega) (by omega)]
end CA₁
