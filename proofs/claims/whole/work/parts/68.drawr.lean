/-! ===== a deed drawn, the reference's ===== -/
section RG₁
variable {K₁ N₁ : MK} {I₁ : MI} {L₁ : ML} {R₁ : MR} {m₁ : Nat}
theorem r_doIf {d₁ : Nat} {a₁ b₁ s₁ : Int32} {Q₁ : MI → Prop} (hM₁ : MDL K₁ N₁ R₁ m₁) (hU₁ : WFc (I₁ (m₁ + 2))) (hv₁ : WFv₁ (I₁ (m₁ + 2)) (macV (I₁ (m₁ + 2)))) (hp₁ : daD₁ (I₁ (m₁ + 2)) (d₁, a₁, b₁, s₁))
    (h₁ : ∀ J₁, J₁ (m₁ + 2) = ovr₁ (I₁ (m₁ + 2)) (dlD₁ (I₁ (m₁ + 2)) (macV (I₁ (m₁ + 2))) (d₁, a₁, b₁, s₁)) → (∀ z₁, z₁ ≠ m₁ + 2 → J₁ z₁ = I₁ z₁) → Q₁ J₁) : w_X12_doIf m₁ (nI d₁) a₁ b₁ K₁ N₁ I₁ L₁ R₁ Q₁ := by
  obtain ⟨⟨n₁, hn₁, e2₁⟩, -, -⟩ := hv₁
  delta w_X12_doIf
  refine ⟨hM₁.k, r_refusal hM₁ hU₁ e2₁ hn₁ hp₁.1 hp₁.2.1 ⟨fun z₁ => h₁ I₁ ?_ (fun _ _ => rfl), fun z₁ => r_live hM₁ hU₁ e2₁ hn₁ hp₁.1 hp₁.2.1 z₁ (fun J₁ g1₁ g2₁ => h₁ J₁ ?_ g2₁)⟩⟩
  · rw [show dlD₁ (I₁ (m₁ + 2)) (macV (I₁ (m₁ + 2))) (d₁, a₁, b₁, s₁) = macV (I₁ (m₁ + 2)) from if_neg z₁, ovr_mac]
  · rw [show dlD₁ (I₁ (m₁ + 2)) (macV (I₁ (m₁ + 2))) (d₁, a₁, b₁, s₁) = dlS₁ (I₁ (m₁ + 2)) (macV (I₁ (m₁ + 2))) a₁ b₁ d₁ from if_pos z₁]; exact g1₁
theorem r_draw {n₁ : Nat} {Q₁ : Int32 → MI → Prop} (hM₁ : MDL K₁ N₁ R₁ m₁) (hn₁ : 0 < n₁) (hn2₁ : n₁ < 2147483648) (h₁ : ∀ J₁, J₁ = mup I₁ m₁ 48 (drsS (I₁ m₁ 48)) → Q₁ (nI (drvN (I₁ m₁ 48) n₁)) J₁) : w_X12_draw m₁ (nI n₁) K₁ N₁ I₁ L₁ R₁ Q₁ := by
  delta w_X12_draw
  refine ⟨hM₁.k, fun I2₁ g2₁ => ?_⟩
  have e2₁ : I2₁ m₁ 48 = drsS (I₁ m₁ 48) := by rw [g2₁, mup_at]; rfl
  rw [e2₁, drv_eq _ hn₁ hn2₁]
  refine ⟨fun z₁ => ?_, h₁ I2₁ (by rw [g2₁]; rfl)⟩
  rw [show (0 : Int32) = nI 0 from rfl, eqN (by omega) (by omega)] at z₁; omega
theorem r_d114 {k₁ : Nat} {Q₁ : MI → Prop} (hk₁ : k₁ < 7) (h₁ : Q₁ I₁) : w_X12_drawsDeed_114 m₁ (nI k₁) K₁ N₁ I₁ L₁ R₁ Q₁ := by
  delta w_X12_drawsDeed_114
  refine ⟨fun _ => h₁, fun z₁ => ?_⟩
  rw [show (7 : Int32) = nI 7 from rfl, eqN (by omega) (by omega)] at z₁; omega
theorem r_d100 {k₁ : Nat} {Q₁ : MI → Prop} (hk₁ : k₁ < 6) (h₁ : Q₁ I₁) : w_X12_drawsDeed_100 m₁ (nI k₁) K₁ N₁ I₁ L₁ R₁ Q₁ := by
  delta w_X12_drawsDeed_100
  refine ⟨fun _ => r_d114 (by omega) h₁, fun z₁ => ?_⟩
  rw [show (6 : Int32) = nI 6 from rfl, eqN (by omega) (by omega)] at z₁; omega
theorem r_d87 {k₁ : Nat} {Q₁ : MI → Prop} (hk₁ : k₁ < 5) (h₁ : Q₁ I₁) : w_X12_drawsDeed_87 m₁ (nI k₁) K₁ N₁ I₁ L₁ R₁ Q₁ := by
  delta w_X12_drawsDeed_87
  refine ⟨fun _ => r_d100 (by omega) h₁, fun z₁ => ?_⟩
  rw [show (5 : Int32) = nI 5 from rfl, eqN (by omega) (by omega)] at z₁; omega
theorem r_d70 {k₁ : Nat} {Q₁ : MI → Prop} (hk₁ : k₁ < 3) (h₁ : Q₁ I₁) : w_X12_drawsDeed_70 m₁ (nI k₁) K₁ N₁ I₁ L₁ R₁ Q₁ := by
  delta w_X12_drawsDeed_70
  refine ⟨fun z₁ => ?_, fun _ => ⟨fun _ => r_d87 (by omega) h₁, fun z₁ => ?_⟩⟩
  · rw [show (3 : Int32) = nI 3 from rfl, eqN (by omega) (by omega)] at z₁; omega
  · rw [show (4 : Int32) = nI 4 from rfl, eqN (by omega) (by omega)] at z₁; omega
theorem r_d49 {k₁ : Nat} {Q₁ : MI → Prop} (hk₁ : k₁ < 2) (h₁ : Q₁ I₁) : w_X12_drawsDeed_49 m₁ (nI k₁) K₁ N₁ I₁ L₁ R₁ Q₁ := by
  delta w_X12_drawsDeed_49
  refine ⟨fun _ => r_d70 (by omega) h₁, fun z₁ => ?_⟩
  rw [show (2 : Int32) = nI 2 from rfl, eqN (by omega) (by omega)] at z₁; omega
theorem r_drawsDeed {Q₁ : MI → Prop} (hM₁ : MDL K₁ N₁ R₁ m₁) (hU₁ : WFc (I₁ (m₁ + 2))) (hv₁ : WFv₁ (I₁ (m₁ + 2)) (macV (I₁ (m₁ + 2))))
    (h₁ : ∀ J₁, J₁ (m₁ + 2) = ovr₁ (I₁ (m₁ + 2)) (dlD₁ (I₁ (m₁ + 2)) (macV (I₁ (m₁ + 2))) (ddS₁ (I₁ (m₁ + 2)) (macV (I₁ (m₁ + 2))) (I₁ m₁ 48))) → J₁ m₁ 48 = (ddS₁ (I₁ (m₁ + 2)) (macV (I₁ (m₁ + 2))) (I₁ m₁ 48)).2.2.2 → (∀ y₁, y₁ ≠ 48 → J₁ m₁ y₁ = I₁ m₁ y₁) → (∀ z₁, z₁ ≠ m₁ → z₁ ≠ m₁ + 2 → J₁ z₁ = I₁ z₁) → Q₁ J₁) : w_X12_drawsDeed m₁ K₁ N₁ I₁ L₁ R₁ Q₁ := by
  have h8₁ := drv_lt (I₁ m₁ 48) (n₁ := 8) (by decide)
  have ok₁ := ddS_ok (V₁ := macV (I₁ (m₁ + 2))) hU₁ (I₁ m₁ 48)
  rw [ddS₁] at h₁ ok₁
  have go₁ : ∀ (d₁ : Nat) (a₁ b₁ s2₁ : Int32) (J₁ : MI), (∀ b₁, b₁ ≠ m₁ → J₁ b₁ = I₁ b₁) → (∀ y₁, y₁ ≠ 48 → J₁ m₁ y₁ = I₁ m₁ y₁) → J₁ m₁ 48 = s2₁ → ddK₁ (I₁ (m₁ + 2)) (macV (I₁ (m₁ + 2))) (I₁ m₁ 48) (drvN (I₁ m₁ 48) 8) = (d₁, a₁, b₁, s2₁) → ∀ P₁ : MI → Prop, (∀ J₁, Q₁ J₁ → P₁ J₁) → w_X12_doIf m₁ (nI d₁) a₁ b₁ K₁ N₁ J₁ L₁ R₁ P₁ := by
    intro d₁ a₁ b₁ s2₁ J₁ f1₁ f2₁ f3₁ e₁ P₁ hP₁
    rw [e₁] at h₁ ok₁
    have u1₁ : J₁ (m₁ + 2) = I₁ (m₁ + 2) := f1₁ _ (by omega)
    rw [← u1₁] at h₁ ok₁ hU₁ hv₁
    exact r_doIf hM₁ hU₁ hv₁ ok₁ (fun J2₁ g1₁ g2₁ => hP₁ J2₁ (h₁ J2₁ g1₁ (by rw [g2₁ m₁ (by omega)]; exact f3₁) (fun y₁ hy₁ => by rw [g2₁ m₁ (by omega), f2₁ y₁ hy₁]) (fun z₁ h1₁ h2₁ => by rw [g2₁ z₁ h2₁, f1₁ z₁ h1₁])))
  delta w_X12_drawsDeed
  refine ⟨hM₁.k, r_draw (n₁ := 8) hM₁ (by decide) (by decide) (fun J₁ g1₁ => ?_)⟩
  have a1₁ : J₁ m₁ 48 = drsS (I₁ m₁ 48) := by rw [g1₁, mup_at]
  have f1₁ : ∀ b₁, b₁ ≠ m₁ → J₁ b₁ = I₁ b₁ := fun b₁ hb₁ => by rw [g1₁, mup_ne hb₁]
  have y1₁ : ∀ y₁, y₁ ≠ 48 → J₁ m₁ y₁ = I₁ m₁ y₁ := fun y₁ hy₁ => by rw [g1₁, mup_k hy₁]
  have two₁ : ∀ (n1₁ n2₁ : Nat), 0 < n1₁ → n1₁ < 2147483648 → 0 < n2₁ → n2₁ < 2147483648 → ∀ P₁ : Int32 → Int32 → MI → Prop, (∀ J2₁, J2₁ m₁ 48 = drsS (drsS (drsS (I₁ m₁ 48))) → (∀ b₁, b₁ ≠ m₁ → J2₁ b₁ = I₁ b₁) → (∀ y₁, y₁ ≠ 48 → J2₁ m₁ y₁ = I₁ m₁ y₁) → P₁ (nI (drvN (drsS (I₁ m₁ 48)) n1₁)) (nI (drvN (drsS (drsS (I₁ m₁ 48))) n2₁)) J2₁) → w_X12_draw m₁ (nI n1₁) K₁ N₁ J₁ L₁ R₁ (fun r4₁ I5₁ => w_X12_draw m₁ (nI n2₁) K₁ N₁ I5₁ L₁ R₁ (fun r6₁ I7₁ => P₁ r4₁ r6₁ I7₁)) := by
    intro n1₁ n2₁ p1₁ p2₁ p3₁ p4₁ P₁ hp₁
    refine r_draw hM₁ p1₁ p2₁ (fun J2₁ g2₁ => r_draw hM₁ p3₁ p4₁ (fun J3₁ g3₁ => ?_))
    have a2₁ : J2₁ m₁ 48 = drsS (drsS (I₁ m₁ 48)) := by rw [g2₁, mup_at, a1₁]
    rw [a1₁, a2₁]
    rw [a2₁] at g3₁
    exact hp₁ J3₁ (by rw [g3₁, mup_at]) (fun b₁ hb₁ => by rw [g3₁, mup_ne hb₁, g2₁, mup_ne hb₁, f1₁ b₁ hb₁]) (fun y₁ hy₁ => by rw [g3₁, mup_k hy₁, g2₁, mup_k hy₁, y1₁ y₁ hy₁])
  obtain q₁ | q₁ | q₁ | q₁ | q₁ | q₁ | q₁ | q₁ : drvN (I₁ m₁ 48) 8 = 0 ∨ drvN (I₁ m₁ 48) 8 = 1 ∨ drvN (I₁ m₁ 48) 8 = 2 ∨ drvN (I₁ m₁ 48) 8 = 3 ∨ drvN (I₁ m₁ 48) 8 = 4 ∨ drvN (I₁ m₁ 48) 8 = 5 ∨ drvN (I₁ m₁ 48) 8 = 6 ∨ drvN (I₁ m₁ 48) 8 = 7 := by omega
  all_goals rw [q₁]
  all_goals rw [q₁] at go₁
  · refine ⟨fun z₁ => absurd z₁ (by decide), fun _ => ⟨fun z₁ => absurd rfl z₁, fun _ => ?_⟩⟩
    delta w_X12_drawsDeed_24
    refine ⟨hM₁.k, ?_⟩
    have t₁ := two₁ 8 1000 (by decide) (by decide) (by decide) (by decide) (fun r4₁ r6₁ I7₁ => K₁ m₁ = 13 ∧ w_X12_doIf m₁ 0 r4₁ r6₁ K₁ N₁ I7₁ L₁ R₁ (fun I31₁ => w_X12_drawsDeed_49 m₁ (nI 0) K₁ N₁ I31₁ L₁ R₁ Q₁)) (fun J2₁ a2₁ f2₁ y2₁ => ⟨hM₁.k, go₁ 0 _ _ _ J2₁ f2₁ y2₁ a2₁ rfl _ (fun J3₁ hq₁ => r_d49 (by decide) hq₁)⟩)
    revert t₁
    delta w_X12_draw
    rintro ⟨-, t₁⟩
    refine ⟨hM₁.k, fun I2₁ g2₁ => ⟨(t₁ I2₁ g2₁).1, ⟨fun z₁ => absurd rfl z₁, fun _ => ?_⟩⟩⟩
    exact ⟨hM₁.k, (t₁ I2₁ g2₁).2⟩
  · refine ⟨fun z₁ => absurd z₁ (by decide), fun _ => ⟨fun _ => ?_, fun z₁ => absurd z₁ (by decide)⟩⟩
    delta w_X12_drawsDeed_24
    refine ⟨hM₁.k, ?_⟩
    have t₁ := two₁ 64 1000 (by decide) (by decide) (by decide) (by decide) (fun r4₁ r6₁ I7₁ => K₁ m₁ = 13 ∧ w_X12_doIf m₁ 1 r4₁ r6₁ K₁ N₁ I7₁ L₁ R₁ (fun I31₁ => w_X12_drawsDeed_49 m₁ (nI 1) K₁ N₁ I31₁ L₁ R₁ Q₁)) (fun J2₁ a2₁ f2₁ y2₁ => ⟨hM₁.k, go₁ 1 _ _ _ J2₁ f2₁ y2₁ a2₁ rfl _ (fun J3₁ hq₁ => r_d49 (by decide) hq₁)⟩)
    revert t₁
    delta w_X12_draw
    rintro ⟨-, t₁⟩
    refine ⟨hM₁.k, fun I2₁ g2₁ => ⟨(t₁ I2₁ g2₁).1, ⟨fun _ => ?_, fun z₁ => absurd z₁ (by decide)⟩⟩⟩
    exact ⟨hM₁.k, (t₁ I2₁ g2₁).2⟩
  · refine ⟨fun _ => ?_, fun z₁ => absurd (by decide) z₁⟩
    delta w_X12_drawsDeed_49
    refine ⟨fun z₁ => absurd rfl z₁, fun _ => ⟨hM₁.k, _, hM₁.r14, hM₁.k2, by rw [hM₁.n2]; exact vp_c (by decide) (by decide), ?_⟩⟩
    rw [show ix (0 : Int32) = 0 from rfl, f1₁ (m₁ + 2) (by omega), hU₁.2.2.2.2.2.1]
    have n0₁ := hU₁.2.2.2.2.2
    refine r_draw hM₁ (by omega) (by omega) (fun J2₁ g2₁ => ?_)
    rw [a1₁]
    rw [a1₁] at g2₁
    exact go₁ 2 _ _ _ J2₁ (fun b₁ hb₁ => by rw [g2₁, mup_ne hb₁, f1₁ b₁ hb₁]) (fun y₁ hy₁ => by rw [g2₁, mup_k hy₁, y1₁ y₁ hy₁]) (by rw [g2₁, mup_at]) rfl _ (fun J3₁ hq₁ => r_d70 (by decide) hq₁)
  · refine ⟨fun _ => ?_, fun z₁ => absurd (by decide) z₁⟩
    delta w_X12_drawsDeed_49
    refine ⟨fun _ => ?_, fun z₁ => absurd z₁ (by decide)⟩
    delta w_X12_drawsDeed_70
    refine ⟨fun _ => ?_, fun z₁ => absurd rfl z₁⟩
    exact ⟨hM₁.k, go₁ 5 _ _ _ J₁ f1₁ y1₁ a1₁ rfl _ (fun J3₁ hq₁ => r_d87 (by decide) hq₁)⟩
  · refine ⟨fun _ => ?_, fun z₁ => absurd (by decide) z₁⟩
    delta w_X12_drawsDeed_49
    refine ⟨fun _ => ?_, fun z₁ => absurd z₁ (by decide)⟩
    delta w_X12_drawsDeed_70
    refine ⟨fun z₁ => absurd z₁ (by decide), fun _ => ⟨fun z₁ => absurd rfl z₁, fun _ => ?_⟩⟩
    exact ⟨hM₁.k, go₁ 5 _ _ _ J₁ f1₁ y1₁ a1₁ rfl _ (fun J3₁ hq₁ => r_d87 (by decide) hq₁)⟩
  · refine ⟨fun _ => ?_, fun z₁ => absurd (by decide) z₁⟩
    delta w_X12_drawsDeed_49
    refine ⟨fun _ => ?_, fun z₁ => absurd z₁ (by decide)⟩
    delta w_X12_drawsDeed_70
    refine ⟨fun z₁ => absurd z₁ (by decide), fun _ => ⟨fun _ => ?_, fun z₁ => absurd z₁ (by decide)⟩⟩
    exact ⟨fun z₁ => absurd rfl z₁, fun _ => ⟨hM₁.k, go₁ 6 _ _ _ J₁ f1₁ y1₁ a1₁ rfl _ (fun J3₁ hq₁ => r_d100 (by decide) hq₁)⟩⟩
  · refine ⟨fun _ => ?_, fun z₁ => absurd (by decide) z₁⟩
    delta w_X12_drawsDeed_49
    refine ⟨fun _ => ?_, fun z₁ => absurd z₁ (by decide)⟩
    delta w_X12_drawsDeed_70
    refine ⟨fun z₁ => absurd z₁ (by decide), fun _ => ⟨fun _ => ?_, fun z₁ => absurd z₁ (by decide)⟩⟩
    exact ⟨fun _ => ⟨fun z₁ => absurd rfl z₁, fun _ => ⟨hM₁.k, go₁ 7 _ _ _ J₁ f1₁ y1₁ a1₁ rfl _ (fun J3₁ hq₁ => r_d114 (by decide) hq₁)⟩⟩, fun z₁ => absurd z₁ (by decide)⟩
  · refine ⟨fun _ => ?_, fun z₁ => absurd (by decide) z₁⟩
    delta w_X12_drawsDeed_49
    refine ⟨fun _ => ?_, fun z₁ => absurd z₁ (by decide)⟩
    delta w_X12_drawsDeed_70
    refine ⟨fun z₁ => absurd z₁ (by decide), fun _ => ⟨fun _ => ?_, fun z₁ => absurd z₁ (by decide)⟩⟩
    refine ⟨fun _ => ⟨fun _ => ⟨fun z₁ => absurd rfl z₁, fun _ => ⟨hM₁.k, r_draw (n₁ := 250) hM₁ (by decide) (by decide) (fun J2₁ g2₁ v9₁ g9₁ => ?_)⟩⟩, fun z₁ => absurd z₁ (by decide)⟩, fun z₁ => absurd z₁ (by decide)⟩
    rw [a1₁] at g2₁ g9₁
    rw [nI_1] at g9₁
    subst g9₁
    have f2₁ : ∀ b₁, b₁ ≠ m₁ → J2₁ b₁ = I₁ b₁ := fun b₁ hb₁ => by rw [g2₁, mup_ne hb₁, f1₁ b₁ hb₁]
    have y2₁ : ∀ y₁, y₁ ≠ 48 → J2₁ m₁ y₁ = I₁ m₁ y₁ := fun y₁ hy₁ => by rw [g2₁, mup_k hy₁, y1₁ y₁ hy₁]
    have a2₁ : J2₁ m₁ 48 = drsS (drsS (I₁ m₁ 48)) := by rw [g2₁, mup_at]
    obtain ⟨n₁, hn₁, e2₁⟩ := hv₁.1
    refine r_stopAt (n₁ := n₁) hM₁ (by rw [f2₁ _ (by omega)]; exact e2₁) hn₁ ?_
    rw [f2₁ _ (by omega)]
    refine ⟨fun z₁ => ?_, fun z₁ => ?_⟩
    · exact go₁ 4 _ _ _ J2₁ f2₁ y2₁ a2₁ (by simp only [ddK₁]; rw [if_neg z₁]) _ (fun _ hq₁ => hq₁)
    · exact go₁ 3 _ _ _ J2₁ f2₁ y2₁ a2₁ (by simp only [ddK₁]; rw [if_pos z₁]) _ (fun _ hq₁ => hq₁)
end RG₁
