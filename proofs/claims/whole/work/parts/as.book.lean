/-! ===== class and reference beside one another: book, image, restore ===== -/
section CB₁
variable {K₁ N₁ : MK} {I₁ J₁ : MI} {L₁ M₁ : ML} {R₁ : MR} {x₁ m₁ : Nat} {a₁ b₁ c₁ d₁ e₁ : Int32}
theorem lv_in (hz₁ : isInB a₁ 0 1 = true) : a₁ = 0 ∨ a₁ = 1 := by
  rw [show isInB a₁ 0 1 = inN a₁ 2 from isInB_lit 1 (by decide)] at hz₁
  obtain ⟨j₁, hj₁, rfl⟩ := inN_t hz₁ (by decide)
  rcases (show j₁ = 0 ∨ j₁ = 1 by omega) with rfl | rfl
  · exact Or.inl rfl
  · exact Or.inr rfl
theorem lv_out (h0₁ : a₁ ≠ 0) (h1₁ : a₁ ≠ 1) : isInB a₁ 0 1 = false := by
  cases hz₁ : isInB a₁ 0 1
  · rfl
  · rcases lv_in hz₁ with z₁ | z₁
    · exact absurd z₁ h0₁
    · exact absurd z₁ h1₁
theorem tol_eq {U₁ V₁ : Nat → Int32} {i₁ : Nat} {w₁ : Int32} (h1₁ : TLDC J₁ x₁ U₁ V₁ i₁ w₁) (h2₁ : TLDR J₁ m₁ U₁ V₁ i₁ w₁) : cTol J₁ x₁ m₁ := by
  obtain ⟨a1₁, a2₁, a3₁, a4₁, a5₁⟩ := h1₁
  obtain ⟨b1₁, b2₁, b3₁, b4₁, b5₁⟩ := h2₁
  refine Or.inr ⟨a1₁, b1₁, fun j₁ hj₁ => ?_⟩
  rcases (show j₁ = 0 ∨ j₁ = 1 ∨ j₁ = 2 ∨ j₁ = 3 by omega) with rfl | rfl | rfl | rfl
  · rw [a2₁, b2₁]
  · rw [a3₁, b3₁]
  · rw [a4₁, b4₁]
  · rw [a5₁, b5₁]
theorem cTol_0 (h₁ : cTol I₁ x₁ m₁) : I₁ (x₁ + 83) 0 = nI 4 := by
  rcases h₁ with ⟨h₁, -⟩ | ⟨h₁, -⟩
  · exact h₁.1
  · exact h₁.1
theorem cs_book (h₁ : CPL₁ K₁ N₁ I₁ L₁ R₁ x₁ m₁) : w_X11_book x₁ a₁ K₁ N₁ I₁ L₁ R₁ (fun r₁ I1₁ L1₁ R1₁ => w_X12_book m₁ a₁ K₁ N₁ I1₁ L1₁ R1₁ (fun r2₁ J₁ M₁ => r₁ = r2₁ ∧ CPL₁ K₁ N₁ J₁ M₁ R1₁ x₁ m₁)) := by
  obtain ⟨hX₁, hM₁, hx₁, ⟨W₁, hu₁⟩, hW₁, hV₁, hv₁⟩ := cpG₁ h₁
  have hC₁ := h₁
  obtain ⟨B₁, n₁, NM₁, o₁, p₁, l₁, nc₁, nt₁, np₁, nu₁, h1₁, h2₁, h3₁, h4₁, h5₁, h6₁, h7₁, h8₁, h9₁, h10₁, h11₁, h12₁, h13₁⟩ := hC₁
  have hp₁ := h1₁.2.2.2.1.1
  obtain ⟨t1₁, t2₁, t3₁, t4₁, t5₁, t6₁, t7₁⟩ := h2₁
  obtain ⟨s1₁, s2₁, s3₁, s4₁, s5₁, s6₁⟩ := h1₁
  have h5'₁ := h5₁
  obtain ⟨v1₁, v2₁, v3₁, v4₁, v5₁⟩ := h5₁
  refine s_book (lv₁ := a₁) hX₁ t3₁ t2₁ t5₁ t1₁ h13₁.2 (cTol_0 h10₁) s4₁ s3₁ v4₁ v2₁ v1₁ hV₁ hu₁ hW₁ hv₁ (fun z0₁ z1₁ => ?_) (fun h01₁ k₁ pl₁ ep₁ k1₁ k5₁ J1₁ M1₁ j10₁ j1₁ f1₁ => ?_) (fun ls₁ ep₁ lw₁ l40₁ hst₁ J1₁ M1₁ tl₁ j10₁ j1₁ f1₁ => ?_) (fun ls₁ ep₁ lw₁ l40₁ hlv₁ hi₁ J1₁ M1₁ R1₁ p1₁ tl₁ j10₁ j1₁ r1₁ hH1₁ e1₁ d1₁ mc₁ f1₁ => ?_)
  · have hz₁ := lv_out z0₁ z1₁
    refine r_book hM₁ t4₁ t2₁ t6₁ t1₁ v3₁ v1₁ rfl hW₁ hv₁ (fun _ => ⟨rfl, CPL_0 h₁⟩) (fun y₁ => absurd (hz₁.symm.trans y₁) (by decide)) (fun y₁ => absurd (hz₁.symm.trans y₁) (by decide)) (fun ls₁ ep₁ hl₁ => absurd hl₁ z1₁)
  · have hz₁ : isInB a₁ 0 1 = true := by rcases h01₁ with z₁ | z₁ <;> (rw [z₁]; decide)
    have m1₁ : ∀ b₁, m₁ ≤ b₁ → J1₁ b₁ = I₁ b₁ := fun b₁ q₁ => f1₁.1 b₁ (by omega) (by omega) (by omega)
    have ml₁ : ∀ b₁, m₁ ≤ b₁ → M1₁ b₁ = L₁ b₁ := fun b₁ q₁ => f1₁.2.1 b₁ (by omega) (by omega)
    refine r_book (U₁ := I₁ (m₁ + 2)) hM₁ (by rw [m1₁ _ (Nat.le_refl _)]; exact t4₁) t2₁ (fun i₁ hi₁ => by rw [m1₁ _ (by omega)]; exact t6₁ i₁ hi₁) t1₁ (by rw [m1₁ _ (Nat.le_refl _)]; exact v3₁) v1₁ (m1₁ _ (by omega)) hW₁ hv₁ (fun y₁ => absurd (hz₁.symm.trans y₁) (by decide)) (fun _ k2₁ pl2₁ ep2₁ J2₁ M2₁ q10₁ q2₁ b2₁ y2₁ l2₁ => ?_) (fun _ ls₁ ep2₁ => absurd (ep₁.symm.trans ep2₁) (fun w₁ => nomatch w₁)) (fun ls₁ ep2₁ => absurd (ep₁.symm.trans ep2₁) (fun w₁ => nomatch w₁))
    have e9₁ := Sum.inl.inj (ep₁.symm.trans ep2₁)
    obtain ⟨e1₁, e2₁⟩ := Prod.mk.inj e9₁
    subst e1₁ e2₁
    have g₁ : ∀ b₁, b₁ ≠ x₁ + 1 → b₁ ≠ x₁ + 60 → b₁ ≠ x₁ + 62 → b₁ ≠ m₁ → b₁ ≠ m₁ + 23 → J2₁ b₁ = I₁ b₁ := fun b₁ z1₁ z2₁ z3₁ z4₁ z5₁ => by rw [b2₁ b₁ z4₁ z5₁, f1₁.1 b₁ z1₁ z2₁ z3₁]
    have gm₁ : ∀ y₁, 13 < y₁ → y₁ ≠ 51 → J2₁ m₁ y₁ = I₁ m₁ y₁ := fun y₁ z1₁ z2₁ => by rw [y2₁ y₁ z1₁ z2₁, m1₁ _ (Nat.le_refl _)]
    have gl₁ : ∀ b₁, b₁ ≠ x₁ + 1 → b₁ ≠ x₁ + 61 → b₁ ≠ m₁ → M2₁ b₁ = L₁ b₁ := fun b₁ z1₁ z2₁ z3₁ => by rw [l2₁ b₁ z3₁, f1₁.2.1 b₁ z1₁ z2₁]
    have h5₁ := h5'₁
    refine ⟨rfl, B₁, 0, NM₁, o₁, p₁, l₁, nc₁, nt₁, np₁, nu₁, ⟨s1₁, s2₁, s3₁, s4₁, s5₁, s6₁⟩, ?_, ?_, ?_, ?_, ?_, ?_, ?_, ?_, ?_, ?_, ?_, ?_⟩
    · refine ⟨t1₁, by omega, by rw [b2₁ _ (by omega) (by omega)]; exact j1₁, q2₁, fun i₁ hi₁ => absurd hi₁ (Nat.not_lt_zero i₁), fun i₁ hi₁ => absurd hi₁ (Nat.not_lt_zero i₁), ?_⟩
      rw [b2₁ _ (by omega) (by omega), j10₁, q10₁]
    · exact cUni_fr h3₁ (fun b₁ q1₁ q2₁ => g₁ b₁ (by omega) (by omega) (by omega) (by omega) (by omega) ) (fun b₁ q1₁ q2₁ => gl₁ b₁ (by omega) (by omega) (by omega) ) (ag_r (g₁ _ (by omega) (by omega) (by omega) (by omega) (by omega) )) (gl₁ _ (by omega) (by omega) (by omega) )
    · exact cMac_fr h4₁ (fun b₁ q1₁ q2₁ => g₁ b₁ (by omega) (by omega) (by omega) (by omega) (by omega) ) (g₁ _ (by omega) (by omega) (by omega) (by omega) (by omega) )
    · exact cHis_fr h5₁ (fun k₁ hk₁ => (hp₁ k₁ hk₁).1) (by rw [g₁ _ (by omega) (by omega) (by omega) (by omega) (by omega) ]) (gm₁ _ (by decide) (by decide) ) (g₁ _ (by omega) (by omega) (by omega) (by omega) (by omega) ) (fun b₁ q1₁ q2₁ => g₁ b₁ (by omega) (by omega) (by omega) (by omega) (by omega) ) (ag_r (g₁ _ (by omega) (by omega) (by omega) (by omega) (by omega) ))
    · exact cCha_fr h6₁ (g₁ _ (by omega) (by omega) (by omega) (by omega) (by omega) ) (g₁ _ (by omega) (by omega) (by omega) (by omega) (by omega) ) (gm₁ _ (by decide) (by decide) ) (g₁ _ (by omega) (by omega) (by omega) (by omega) (by omega) ) (g₁ _ (by omega) (by omega) (by omega) (by omega) (by omega) )
    · exact cTag_fr h7₁ (g₁ _ (by omega) (by omega) (by omega) (by omega) (by omega) ) (g₁ _ (by omega) (by omega) (by omega) (by omega) (by omega) ) (gm₁ _ (by decide) (by decide) ) (g₁ _ (by omega) (by omega) (by omega) (by omega) (by omega) )
    · exact cPak_fr h8₁ (g₁ _ (by omega) (by omega) (by omega) (by omega) (by omega) ) (g₁ _ (by omega) (by omega) (by omega) (by omega) (by omega) ) (gm₁ _ (by decide) (by decide) ) (g₁ _ (by omega) (by omega) (by omega) (by omega) (by omega) )
    · exact cUnp_fr h9₁ (by rw [g₁ _ (by omega) (by omega) (by omega) (by omega) (by omega) ]) (g₁ _ (by omega) (by omega) (by omega) (by omega) (by omega) ) (g₁ _ (by omega) (by omega) (by omega) (by omega) (by omega) ) (gm₁ _ (by decide) (by decide) ) (g₁ _ (by omega) (by omega) (by omega) (by omega) (by omega) ) (g₁ _ (by omega) (by omega) (by omega) (by omega) (by omega) )
    · exact cTol_fr h10₁ (g₁ _ (by omega) (by omega) (by omega) (by omega) (by omega) ) (g₁ _ (by omega) (by omega) (by omega) (by omega) (by omega) ) (gm₁ _ (by decide) (by decide) ) (g₁ _ (by omega) (by omega) (by omega) (by omega) (by omega) )
    · exact cSen_fr h11₁ (by rw [g₁ _ (by omega) (by omega) (by omega) (by omega) (by omega) ]) (fun b₁ q1₁ q2₁ => g₁ b₁ (by omega) (by omega) (by omega) (by omega) (by omega) ) (fun y₁ _ _ => by rw [g₁ _ (by omega) (by omega) (by omega) (by omega) (by omega) ])
    · exact cKep_fr h12₁ (fun b₁ q1₁ q2₁ => g₁ b₁ (by omega) (by omega) (by omega) (by omega) (by omega) ) (fun b₁ q1₁ q2₁ => gl₁ b₁ (by omega) (by omega) (by omega) ) (g₁ _ (by omega) (by omega) (by omega) (by omega) (by omega) ) (g₁ _ (by omega) (by omega) (by omega) (by omega) (by omega) ) (g₁ _ (by omega) (by omega) (by omega) (by omega) (by omega) ) (gl₁ _ (by omega) (by omega) (by omega) )
    · exact cMis_fr h13₁ (fun b₁ q1₁ q2₁ => g₁ b₁ (by omega) (by omega) (by omega) (by omega) (by omega)) (by rw [b2₁ _ (by omega) (by omega)]; exact f1₁.2.2)
  · have hz₁ : isInB a₁ 0 1 = true := by rcases hst₁ with z₁ | z₁ <;> (first | (rw [z₁]; decide) | (rw [z₁.1]; decide))
    have m1₁ : ∀ b₁, m₁ ≤ b₁ → J1₁ b₁ = I₁ b₁ := fun b₁ q₁ => f1₁.1 b₁ (by omega) (by omega) (by omega) (by omega) (by omega) (by omega) (by omega)
    have ml₁ : ∀ b₁, m₁ ≤ b₁ → M1₁ b₁ = L₁ b₁ := fun b₁ q₁ => f1₁.2.1 b₁ (by omega) (by omega) (by omega)
    refine r_book (U₁ := I₁ (m₁ + 2)) hM₁ (by rw [m1₁ _ (Nat.le_refl _)]; exact t4₁) t2₁ (fun i₁ hi₁ => by rw [m1₁ _ (by omega)]; exact t6₁ i₁ hi₁) t1₁ (by rw [m1₁ _ (Nat.le_refl _)]; exact v3₁) v1₁ (m1₁ _ (by omega)) hW₁ hv₁ (fun y₁ => absurd (hz₁.symm.trans y₁) (by decide)) (fun _ k2₁ pl2₁ ep2₁ => absurd (ep₁.symm.trans ep2₁) (fun w₁ => nomatch w₁)) (fun _ ls2₁ ep2₁ hst2 J2₁ M2₁ u2₁ tr₁ q24₁ q5₁ q10₁ q2₁ f2₁ => ?_) (fun ls2₁ ep2₁ hl₁ hi2₁ => ?_)
    rotate_left
    · have e9₁ := Sum.inr.inj (ep₁.symm.trans ep2₁)
      subst e9₁
      rcases hst₁ with z₁ | z₁
      · rw [z₁] at hl₁; exact absurd hl₁ (by decide)
      · exact absurd z₁.2 hi2₁
    have e9₁ := Sum.inr.inj (ep₁.symm.trans ep2₁)
    subst e9₁
    have c₁ : ∀ b₁, b₁ < m₁ → J2₁ b₁ = J1₁ b₁ := fun b₁ q₁ => f2₁.1 b₁ (by omega) (by omega) (by omega) (by omega) (by omega) (by omega) (by omega) (by omega)
    have g₁ : ∀ b₁, b₁ ≠ x₁ + 1 → b₁ < x₁ + 23 ∨ x₁ + 29 < b₁ → b₁ ≠ x₁ + 59 → b₁ ≠ x₁ + 60 → b₁ ≠ x₁ + 62 → b₁ ≠ x₁ + 83 → b₁ ≠ x₁ + 85 → b₁ ≠ m₁ → b₁ ≠ m₁ + 6 → b₁ ≠ m₁ + 7 → b₁ ≠ m₁ + 14 → b₁ ≠ m₁ + 23 → b₁ ≠ m₁ + 24 → J2₁ b₁ = I₁ b₁ := fun b₁ z1₁ z2₁ z3₁ z4₁ z5₁ z6₁ z7₁ z8₁ z9₁ z10₁ z11₁ z12₁ z13₁ => by
      by_cases e₁ : b₁ = m₁ + 2
      · rw [e₁, u2₁]
      · by_cases e2₁ : b₁ = m₁ + 5
        · rw [e2₁, q5₁, m1₁ _ (by omega)]
        · rw [f2₁.1 b₁ z8₁ e₁ e2₁ z9₁ z10₁ z11₁ z12₁ z13₁, f1₁.1 b₁ z1₁ z2₁ z3₁ z4₁ z5₁ z6₁ z7₁]
    have gm₁ : ∀ y₁, 13 < y₁ → y₁ ≠ 30 → y₁ ≠ 31 → y₁ ≠ 51 → y₁ ≠ 52 → J2₁ m₁ y₁ = I₁ m₁ y₁ := fun y₁ z1₁ z2₁ z3₁ z4₁ z5₁ => by
      by_cases e₁ : y₁ = 24
      · rw [e₁, q24₁]; exact v3₁.symm
      · rw [f2₁.2.1 y₁ z1₁ e₁ z2₁ z3₁ z4₁ z5₁, m1₁ _ (Nat.le_refl _)]
    have gl₁ : ∀ b₁, b₁ ≠ x₁ + 1 → b₁ ≠ x₁ + 61 → b₁ ≠ x₁ + 84 → b₁ ≠ m₁ → M2₁ b₁ = L₁ b₁ := fun b₁ z1₁ z2₁ z3₁ z4₁ => by rw [f2₁.2.2 b₁ z4₁, f1₁.2.1 b₁ z1₁ z2₁ z3₁]
    have h5₁ := h5'₁
    refine ⟨rfl, B₁, 0, NM₁, o₁, p₁, l₁, nc₁, nt₁, np₁, nu₁, ⟨s1₁, s2₁, s3₁, s4₁, s5₁, s6₁⟩, ?_, ?_, ?_, ?_, ?_, ?_, ?_, ?_, ?_, ?_, ?_, ?_⟩
    · refine ⟨t1₁, by omega, by rw [c₁ _ (by omega)]; exact j1₁, q2₁, fun i₁ hi₁ => absurd hi₁ (Nat.not_lt_zero i₁), fun i₁ hi₁ => absurd hi₁ (Nat.not_lt_zero i₁), ?_⟩
      rw [c₁ _ (by omega), j10₁, q10₁]
    · exact cUni_fr h3₁ (fun b₁ q1₁ q2₁ => g₁ b₁ (by omega) (by omega) (by omega) (by omega) (by omega) (by omega) (by omega) (by omega) (by omega) (by omega) (by omega) (by omega) (by omega) ) (fun b₁ q1₁ q2₁ => gl₁ b₁ (by omega) (by omega) (by omega) (by omega) ) (ag_r (g₁ _ (by omega) (by omega) (by omega) (by omega) (by omega) (by omega) (by omega) (by omega) (by omega) (by omega) (by omega) (by omega) (by omega) )) (gl₁ _ (by omega) (by omega) (by omega) (by omega) )
    · exact cMac_fr h4₁ (fun b₁ q1₁ q2₁ => g₁ b₁ (by omega) (by omega) (by omega) (by omega) (by omega) (by omega) (by omega) (by omega) (by omega) (by omega) (by omega) (by omega) (by omega) ) (g₁ _ (by omega) (by omega) (by omega) (by omega) (by omega) (by omega) (by omega) (by omega) (by omega) (by omega) (by omega) (by omega) (by omega) )
    · exact cHis_fr h5₁ (fun k₁ hk₁ => (hp₁ k₁ hk₁).1) (by rw [g₁ _ (by omega) (by omega) (by omega) (by omega) (by omega) (by omega) (by omega) (by omega) (by omega) (by omega) (by omega) (by omega) (by omega) ]) (gm₁ _ (by decide) (by decide) (by decide) (by decide) (by decide) ) (g₁ _ (by omega) (by omega) (by omega) (by omega) (by omega) (by omega) (by omega) (by omega) (by omega) (by omega) (by omega) (by omega) (by omega) ) (fun b₁ q1₁ q2₁ => g₁ b₁ (by omega) (by omega) (by omega) (by omega) (by omega) (by omega) (by omega) (by omega) (by omega) (by omega) (by omega) (by omega) (by omega) ) (ag_r (g₁ _ (by omega) (by omega) (by omega) (by omega) (by omega) (by omega) (by omega) (by omega) (by omega) (by omega) (by omega) (by omega) (by omega) ))
    · exact cCha_fr h6₁ (g₁ _ (by omega) (by omega) (by omega) (by omega) (by omega) (by omega) (by omega) (by omega) (by omega) (by omega) (by omega) (by omega) (by omega) ) (g₁ _ (by omega) (by omega) (by omega) (by omega) (by omega) (by omega) (by omega) (by omega) (by omega) (by omega) (by omega) (by omega) (by omega) ) (gm₁ _ (by decide) (by decide) (by decide) (by decide) (by decide) ) (g₁ _ (by omega) (by omega) (by omega) (by omega) (by omega) (by omega) (by omega) (by omega) (by omega) (by omega) (by omega) (by omega) (by omega) ) (g₁ _ (by omega) (by omega) (by omega) (by omega) (by omega) (by omega) (by omega) (by omega) (by omega) (by omega) (by omega) (by omega) (by omega) )
    · exact cTag_fr h7₁ (g₁ _ (by omega) (by omega) (by omega) (by omega) (by omega) (by omega) (by omega) (by omega) (by omega) (by omega) (by omega) (by omega) (by omega) ) (g₁ _ (by omega) (by omega) (by omega) (by omega) (by omega) (by omega) (by omega) (by omega) (by omega) (by omega) (by omega) (by omega) (by omega) ) (gm₁ _ (by decide) (by decide) (by decide) (by decide) (by decide) ) (g₁ _ (by omega) (by omega) (by omega) (by omega) (by omega) (by omega) (by omega) (by omega) (by omega) (by omega) (by omega) (by omega) (by omega) )
    · exact cPak_fr h8₁ (g₁ _ (by omega) (by omega) (by omega) (by omega) (by omega) (by omega) (by omega) (by omega) (by omega) (by omega) (by omega) (by omega) (by omega) ) (g₁ _ (by omega) (by omega) (by omega) (by omega) (by omega) (by omega) (by omega) (by omega) (by omega) (by omega) (by omega) (by omega) (by omega) ) (gm₁ _ (by decide) (by decide) (by decide) (by decide) (by decide) ) (g₁ _ (by omega) (by omega) (by omega) (by omega) (by omega) (by omega) (by omega) (by omega) (by omega) (by omega) (by omega) (by omega) (by omega) )
    · exact cUnp_fr h9₁ (by rw [g₁ _ (by omega) (by omega) (by omega) (by omega) (by omega) (by omega) (by omega) (by omega) (by omega) (by omega) (by omega) (by omega) (by omega) ]) (g₁ _ (by omega) (by omega) (by omega) (by omega) (by omega) (by omega) (by omega) (by omega) (by omega) (by omega) (by omega) (by omega) (by omega) ) (g₁ _ (by omega) (by omega) (by omega) (by omega) (by omega) (by omega) (by omega) (by omega) (by omega) (by omega) (by omega) (by omega) (by omega) ) (gm₁ _ (by decide) (by decide) (by decide) (by decide) (by decide) ) (g₁ _ (by omega) (by omega) (by omega) (by omega) (by omega) (by omega) (by omega) (by omega) (by omega) (by omega) (by omega) (by omega) (by omega) ) (g₁ _ (by omega) (by omega) (by omega) (by omega) (by omega) (by omega) (by omega) (by omega) (by omega) (by omega) (by omega) (by omega) (by omega) )
    · refine tol_eq (U₁ := I₁ (m₁ + 2)) ?_ tr₁
      rw [TLDC, c₁ _ (by omega)]
      exact ⟨TD_ag tl₁.1 (c₁ _ (by omega)), tl₁.2⟩
    · exact cSen_fr h11₁ (by rw [g₁ _ (by omega) (by omega) (by omega) (by omega) (by omega) (by omega) (by omega) (by omega) (by omega) (by omega) (by omega) (by omega) (by omega) ]) (fun b₁ q1₁ q2₁ => g₁ b₁ (by omega) (by omega) (by omega) (by omega) (by omega) (by omega) (by omega) (by omega) (by omega) (by omega) (by omega) (by omega) (by omega) ) (fun y₁ _ _ => by rw [g₁ _ (by omega) (by omega) (by omega) (by omega) (by omega) (by omega) (by omega) (by omega) (by omega) (by omega) (by omega) (by omega) (by omega) ])
    · exact cKep_fr h12₁ (fun b₁ q1₁ q2₁ => g₁ b₁ (by omega) (by omega) (by omega) (by omega) (by omega) (by omega) (by omega) (by omega) (by omega) (by omega) (by omega) (by omega) (by omega) ) (fun b₁ q1₁ q2₁ => gl₁ b₁ (by omega) (by omega) (by omega) (by omega) ) (g₁ _ (by omega) (by omega) (by omega) (by omega) (by omega) (by omega) (by omega) (by omega) (by omega) (by omega) (by omega) (by omega) (by omega) ) (g₁ _ (by omega) (by omega) (by omega) (by omega) (by omega) (by omega) (by omega) (by omega) (by omega) (by omega) (by omega) (by omega) (by omega) ) (g₁ _ (by omega) (by omega) (by omega) (by omega) (by omega) (by omega) (by omega) (by omega) (by omega) (by omega) (by omega) (by omega) (by omega) ) (gl₁ _ (by omega) (by omega) (by omega) (by omega) )
    · exact cMis_fr h13₁ (fun b₁ q1₁ q2₁ => g₁ b₁ (by omega) (by omega) (by omega) (by omega) (by omega) (by omega) (by omega) (by omega) (by omega) (by omega) (by omega) (by omega) (by omega) ) (by rw [c₁ _ (by omega)]; exact f1₁.2.2)
  · have hz₁ : isInB a₁ 0 1 = true := by rw [hlv₁]; decide
    have hM1₁ : MDL K₁ N₁ R1₁ m₁ := MDL_R hM₁ (r1₁ _ (by omega))
    have m1₁ : ∀ b₁, m₁ ≤ b₁ → J1₁ b₁ = I₁ b₁ := fun b₁ q₁ => f1₁.1 b₁ (by omega) (by omega) (by omega) (by omega) (by omega) (by omega) (by omega) (by omega) (by omega)
    have ml₁ : ∀ b₁, m₁ ≤ b₁ → M1₁ b₁ = L₁ b₁ := fun b₁ q₁ => f1₁.2.1 b₁ (by omega) (by omega) (by omega)
    refine r_book (U₁ := I₁ (m₁ + 2)) hM1₁ (by rw [m1₁ _ (Nat.le_refl _)]; exact t4₁) t2₁ (fun i₁ hi₁ => by rw [m1₁ _ (by omega)]; exact t6₁ i₁ hi₁) t1₁ (by rw [m1₁ _ (Nat.le_refl _)]; exact v3₁) v1₁ (m1₁ _ (by omega)) hW₁ hv₁ (fun y₁ => absurd (hz₁.symm.trans y₁) (by decide)) (fun _ k2₁ pl2₁ ep2₁ => absurd (ep₁.symm.trans ep2₁) (fun w₁ => nomatch w₁)) (fun _ ls2₁ ep2₁ hst2 => ?_) (fun ls2₁ ep2₁ hl₁ hi2₁ J2₁ M2₁ u2₁ tr₁ q24₁ q5₁ q10₁ q2₁ f2₁ => ?_)
    · have e9₁ := Sum.inr.inj (ep₁.symm.trans ep2₁)
      subst e9₁
      rcases hst2 with z₁ | z₁
      · exact absurd hlv₁ z₁
      · exact absurd z₁ hi₁
    have e9₁ := Sum.inr.inj (ep₁.symm.trans ep2₁)
    subst e9₁
    rw [m1₁ _ (by omega)] at q5₁
    obtain ⟨jv₁, jhi₁, -, -⟩ := jgS_w (ls₁ := ls₁) (V₁ := macV (I₁ (m₁ + 2))) (i₁ := 0) hW₁.1 hW₁.2.1 hv₁ lw₁
    generalize hr₁ : jgS₁ (I₁ (m₁ + 2)) ls₁ (macV (I₁ (m₁ + 2))) 0 = r₁ at *
    obtain ⟨V'₁, i₁, w₁⟩ := r₁
    obtain ⟨w1₁, w2₁⟩ := SH_wfv v1₁ v5₁ hv₁ q5₁
    have c₁ : ∀ b₁, b₁ < m₁ → J2₁ b₁ = J1₁ b₁ := fun b₁ q₁ => f2₁.1 b₁ (by omega) (by omega) (by omega) (by omega) (by omega) (by omega) (by omega) (by omega)
    have hp1₁ := hH1₁.1
    have ag₁ : agU₁ (J2₁ (m₁ + 2)) (I₁ (m₁ + 2)) := by rw [u2₁]; exact ovr_ag
    have mv₁ : ∀ k₁, k₁ < 83 → macV (J2₁ (m₁ + 2)) k₁ = V'₁ k₁ := fun k₁ hk₁ => by rw [u2₁]; exact mac_ovr hk₁
    have g₁ : ∀ b₁, b₁ ≠ x₁ → b₁ ≠ x₁ + 1 → b₁ < x₁ + 19 ∨ x₁ + 29 < b₁ → b₁ ≠ x₁ + 59 → b₁ ≠ x₁ + 60 → b₁ ≠ x₁ + 62 → b₁ ≠ x₁ + 83 → b₁ ≠ x₁ + 85 → b₁ < x₁ + 86 ∨ x₁ + 118 ≤ b₁ → b₁ ≠ m₁ → b₁ ≠ m₁ + 2 → b₁ ≠ m₁ + 5 → b₁ ≠ m₁ + 6 → b₁ ≠ m₁ + 7 → b₁ ≠ m₁ + 14 → b₁ ≠ m₁ + 23 → b₁ ≠ m₁ + 24 → J2₁ b₁ = I₁ b₁ := fun b₁ z1₁ z2₁ z3₁ z4₁ z5₁ z6₁ z7₁ z8₁ z9₁ y1₁ y2₁ y3₁ y4₁ y5₁ y6₁ y7₁ y8₁ => by rw [f2₁.1 b₁ y1₁ y2₁ y3₁ y4₁ y5₁ y6₁ y7₁ y8₁, f1₁.1 b₁ z1₁ z2₁ z3₁ z4₁ z5₁ z6₁ z7₁ z8₁ z9₁]
    have gm₁ : ∀ y₁, 13 < y₁ → y₁ ≠ 24 → y₁ ≠ 30 → y₁ ≠ 31 → y₁ ≠ 51 → y₁ ≠ 52 → J2₁ m₁ y₁ = I₁ m₁ y₁ := fun y₁ z1₁ e₁ z2₁ z3₁ z4₁ z5₁ => by rw [f2₁.2.1 y₁ z1₁ e₁ z2₁ z3₁ z4₁ z5₁, m1₁ _ (Nat.le_refl _)]
    have gl₁ : ∀ b₁, b₁ ≠ x₁ + 1 → b₁ ≠ x₁ + 61 → b₁ ≠ x₁ + 84 → b₁ ≠ m₁ → M2₁ b₁ = L₁ b₁ := fun b₁ z1₁ z2₁ z3₁ z4₁ => by rw [f2₁.2.2 b₁ z4₁, f1₁.2.1 b₁ z1₁ z2₁ z3₁]
    refine ⟨rfl, B₁, 0, NM₁, shN₁ o₁, p1₁, l₁, nc₁, nt₁, np₁, nu₁, ⟨PDL_R s1₁ r1₁, hM1₁, HM_R s3₁ r1₁, hH1₁, s5₁, s6₁⟩, ?_, ?_, ?_, ?_, ?_, ?_, ?_, ?_, ?_, ?_, ?_, ?_⟩
    · refine ⟨t1₁, by omega, by rw [c₁ _ (by omega)]; exact j1₁, q2₁, fun i₁ hi₁ => absurd hi₁ (Nat.not_lt_zero i₁), fun i₁ hi₁ => absurd hi₁ (Nat.not_lt_zero i₁), ?_⟩
      rw [c₁ _ (by omega), j10₁, q10₁]
    · exact cUni_fr h3₁ (fun b₁ q1₁ q2₁ => g₁ b₁ (by omega) (by omega) (by omega) (by omega) (by omega) (by omega) (by omega) (by omega) (by omega) (by omega) (by omega) (by omega) (by omega) (by omega) (by omega) (by omega) (by omega) ) (fun b₁ q1₁ q2₁ => gl₁ b₁ (by omega) (by omega) (by omega) (by omega)) ag₁ (gl₁ _ (by omega) (by omega) (by omega) (by omega))
    · exact ⟨MACD_cg (MACD_fr mc₁ (fun b₁ q₁ => c₁ b₁ (by omega))) mv₁, WFv_bl (WFv_ag ag₁ jv₁) mv₁⟩
    · exact ⟨w1₁, by rw [c₁ _ (by omega)]; exact e1₁, q24₁, HD_fr (d1₁ _ q5₁) (fun k₁ hk₁ => (hp1₁ k₁ hk₁).1) w1₁ (fun b₁ z1₁ z2₁ => c₁ b₁ (by omega)), fun k₁ hk₁ => WFv_ag ag₁ (w2₁ k₁ hk₁)⟩
    · exact cCha_fr h6₁ (g₁ _ (by omega) (by omega) (by omega) (by omega) (by omega) (by omega) (by omega) (by omega) (by omega) (by omega) (by omega) (by omega) (by omega) (by omega) (by omega) (by omega) (by omega) ) (g₁ _ (by omega) (by omega) (by omega) (by omega) (by omega) (by omega) (by omega) (by omega) (by omega) (by omega) (by omega) (by omega) (by omega) (by omega) (by omega) (by omega) (by omega) ) (gm₁ _ (by decide) (by decide) (by decide) (by decide) (by decide) (by decide) ) (g₁ _ (by omega) (by omega) (by omega) (by omega) (by omega) (by omega) (by omega) (by omega) (by omega) (by omega) (by omega) (by omega) (by omega) (by omega) (by omega) (by omega) (by omega) ) (g₁ _ (by omega) (by omega) (by omega) (by omega) (by omega) (by omega) (by omega) (by omega) (by omega) (by omega) (by omega) (by omega) (by omega) (by omega) (by omega) (by omega) (by omega) )
    · exact cTag_fr h7₁ (g₁ _ (by omega) (by omega) (by omega) (by omega) (by omega) (by omega) (by omega) (by omega) (by omega) (by omega) (by omega) (by omega) (by omega) (by omega) (by omega) (by omega) (by omega) ) (g₁ _ (by omega) (by omega) (by omega) (by omega) (by omega) (by omega) (by omega) (by omega) (by omega) (by omega) (by omega) (by omega) (by omega) (by omega) (by omega) (by omega) (by omega) ) (gm₁ _ (by decide) (by decide) (by decide) (by decide) (by decide) (by decide) ) (g₁ _ (by omega) (by omega) (by omega) (by omega) (by omega) (by omega) (by omega) (by omega) (by omega) (by omega) (by omega) (by omega) (by omega) (by omega) (by omega) (by omega) (by omega) )
    · exact cPak_fr h8₁ (g₁ _ (by omega) (by omega) (by omega) (by omega) (by omega) (by omega) (by omega) (by omega) (by omega) (by omega) (by omega) (by omega) (by omega) (by omega) (by omega) (by omega) (by omega) ) (g₁ _ (by omega) (by omega) (by omega) (by omega) (by omega) (by omega) (by omega) (by omega) (by omega) (by omega) (by omega) (by omega) (by omega) (by omega) (by omega) (by omega) (by omega) ) (gm₁ _ (by decide) (by decide) (by decide) (by decide) (by decide) (by decide) ) (g₁ _ (by omega) (by omega) (by omega) (by omega) (by omega) (by omega) (by omega) (by omega) (by omega) (by omega) (by omega) (by omega) (by omega) (by omega) (by omega) (by omega) (by omega) )
    · exact cUnp_fr h9₁ (by rw [g₁ _ (by omega) (by omega) (by omega) (by omega) (by omega) (by omega) (by omega) (by omega) (by omega) (by omega) (by omega) (by omega) (by omega) (by omega) (by omega) (by omega) (by omega) ]) (g₁ _ (by omega) (by omega) (by omega) (by omega) (by omega) (by omega) (by omega) (by omega) (by omega) (by omega) (by omega) (by omega) (by omega) (by omega) (by omega) (by omega) (by omega) ) (g₁ _ (by omega) (by omega) (by omega) (by omega) (by omega) (by omega) (by omega) (by omega) (by omega) (by omega) (by omega) (by omega) (by omega) (by omega) (by omega) (by omega) (by omega) ) (gm₁ _ (by decide) (by decide) (by decide) (by decide) (by decide) (by decide) ) (g₁ _ (by omega) (by omega) (by omega) (by omega) (by omega) (by omega) (by omega) (by omega) (by omega) (by omega) (by omega) (by omega) (by omega) (by omega) (by omega) (by omega) (by omega) ) (g₁ _ (by omega) (by omega) (by omega) (by omega) (by omega) (by omega) (by omega) (by omega) (by omega) (by omega) (by omega) (by omega) (by omega) (by omega) (by omega) (by omega) (by omega) )
    · refine tol_eq (U₁ := I₁ (m₁ + 2)) ?_ tr₁
      rw [TLDC, c₁ _ (by omega)]
      exact ⟨TD_ag tl₁.1 (c₁ _ (by omega)), tl₁.2⟩
    · exact cSen_fr h11₁ (by rw [g₁ _ (by omega) (by omega) (by omega) (by omega) (by omega) (by omega) (by omega) (by omega) (by omega) (by omega) (by omega) (by omega) (by omega) (by omega) (by omega) (by omega) (by omega) ]) (fun b₁ q1₁ q2₁ => g₁ b₁ (by omega) (by omega) (by omega) (by omega) (by omega) (by omega) (by omega) (by omega) (by omega) (by omega) (by omega) (by omega) (by omega) (by omega) (by omega) (by omega) (by omega) ) (fun y₁ z1₁ z2₁ => by rw [u2₁, ovr₁, if_neg (by omega)])
    · exact cKep_fr h12₁ (fun b₁ q1₁ q2₁ => g₁ b₁ (by omega) (by omega) (by omega) (by omega) (by omega) (by omega) (by omega) (by omega) (by omega) (by omega) (by omega) (by omega) (by omega) (by omega) (by omega) (by omega) (by omega) ) (fun b₁ q1₁ q2₁ => gl₁ b₁ (by omega) (by omega) (by omega) (by omega) ) (g₁ _ (by omega) (by omega) (by omega) (by omega) (by omega) (by omega) (by omega) (by omega) (by omega) (by omega) (by omega) (by omega) (by omega) (by omega) (by omega) (by omega) (by omega) ) (g₁ _ (by omega) (by omega) (by omega) (by omega) (by omega) (by omega) (by omega) (by omega) (by omega) (by omega) (by omega) (by omega) (by omega) (by omega) (by omega) (by omega) (by omega) ) (g₁ _ (by omega) (by omega) (by omega) (by omega) (by omega) (by omega) (by omega) (by omega) (by omega) (by omega) (by omega) (by omega) (by omega) (by omega) (by omega) (by omega) (by omega) ) (gl₁ _ (by omega) (by omega) (by omega) (by omega) )
    · exact cMis_fr h13₁ (fun b₁ q1₁ q2₁ => g₁ b₁ (by omega) (by omega) (by omega) (by omega) (by omega) (by omega) (by omega) (by omega) (by omega) (by omega) (by omega) (by omega) (by omega) (by omega) (by omega) (by omega) (by omega) ) (by rw [c₁ _ (by omega)]; exact f1₁.2.2.1)
theorem cs_image (h₁ : CPL₁ K₁ N₁ I₁ L₁ R₁ x₁ m₁) : w_X11_image x₁ a₁ K₁ N₁ I₁ L₁ R₁ (fun r₁ I1₁ L1₁ => w_X12_image m₁ a₁ K₁ N₁ I1₁ L1₁ R₁ (fun r2₁ J₁ M₁ => r₁ = r2₁ ∧ CPL₁ K₁ N₁ J₁ M₁ R₁ x₁ m₁)) := by
  obtain ⟨hX₁, hM₁, hx₁, ⟨W₁, hu₁⟩, hW₁, hV₁, hv₁⟩ := cpG₁ h₁
  have hC₁ := h₁
  obtain ⟨B₁, n₁, NM₁, o₁, p₁, l₁, nc₁, nt₁, np₁, nu₁, h1₁, h2₁, h3₁, h4₁, h5₁, h6₁, h7₁, h8₁, h9₁, h10₁, h11₁, h12₁, h13₁⟩ := hC₁
  have hp₁ := h1₁.2.2.2.1.1
  refine s_image hX₁ h3₁.1 hW₁ hV₁ h11₁.1 (fun j₁ hj₁ => (h12₁ j₁ hj₁).1) (fun z₁ => r_image hM₁ (fun _ => ⟨rfl, CPL_0 h₁⟩) (fun j₁ e₁ hj₁ => absurd (inN_nI hj₁ (by decide)) (by rw [← e₁, z₁]; decide))) (fun j₁ ej₁ hj₁ J1₁ M1₁ ud₁ mc₁ sd₁ z76₁ y76₁ b1₁ l1₁ => ?_)
  have a1₁ : x₁ + 118 ≤ kuA₁ x₁ j₁ := by rw [kuA₁]; omega
  have a2₁ : kuA₁ x₁ j₁ + 24 < x₁ + 168 := by rw [kuA₁]; omega
  have a3₁ : kmA₁ x₁ j₁ = kuA₁ x₁ j₁ + 16 := by rw [kuA₁, kmA₁]; omega
  have a4₁ : ksA₁ x₁ j₁ = kuA₁ x₁ j₁ + 20 := by rw [kuA₁, ksA₁]; omega
  have m1₁ : ∀ b₁, m₁ ≤ b₁ → J1₁ b₁ = I₁ b₁ := fun b₁ q₁ => b1₁ b₁ (by omega) (by omega)
  have ml₁ : ∀ b₁, m₁ ≤ b₁ → M1₁ b₁ = L₁ b₁ := fun b₁ q₁ => l1₁ b₁ (by omega)
  refine r_image hM₁ (fun z₁ => absurd (inN_nI hj₁ (by decide)) (by rw [← ej₁, z₁]; decide)) (fun j2₁ ej2₁ hj2₁ J2₁ M2₁ p1₁ p2₁ z11₁ y11₁ y0₁ b2₁ n1₁ n2₁ l2₁ => ?_)
  have e9₁ : j₁ = j2₁ := nI_inj (by omega) (by omega) (ej₁.symm.trans ej2₁)
  subst e9₁
  have c₁ : ∀ b₁, b₁ < m₁ → J2₁ b₁ = J1₁ b₁ := fun b₁ q₁ => b2₁ b₁ (by omega) (by omega) (by omega)
  have cl₁ : ∀ b₁, b₁ < m₁ → M2₁ b₁ = M1₁ b₁ := fun b₁ q₁ => l2₁ b₁ (by omega)
  have g₁ : ∀ b₁, b₁ ≠ x₁ + 76 → b₁ < kuA₁ x₁ j₁ ∨ kuA₁ x₁ j₁ + 24 < b₁ → b₁ ≠ m₁ → b₁ ≠ m₁ + 4 → b₁ ≠ m₁ + 11 → J2₁ b₁ = I₁ b₁ := fun b₁ z1₁ z2₁ z3₁ z4₁ z5₁ => by rw [b2₁ b₁ z3₁ z4₁ z5₁, b1₁ b₁ z1₁ z2₁]
  have gm₁ : ∀ y₁, y₁ ≠ 0 → J2₁ m₁ y₁ = I₁ m₁ y₁ := fun y₁ q₁ => by rw [y0₁ y₁ q₁, m1₁ _ (Nat.le_refl _)]
  have gl₁ : ∀ b₁, b₁ < kuA₁ x₁ j₁ ∨ kuA₁ x₁ j₁ + 15 < b₁ → b₁ ≠ m₁ + 10 → M2₁ b₁ = L₁ b₁ := fun b₁ z1₁ z2₁ => by rw [l2₁ b₁ z2₁, l1₁ b₁ z1₁]
  have k1₁ : kOne J2₁ M2₁ x₁ j₁ (kpT₁ J2₁ m₁ j₁) (kpN₁ M2₁ m₁ j₁) := by
    have e₁ : ∀ y₁, y₁ < 667 → kpT₁ J2₁ m₁ j₁ y₁ = I₁ (m₁ + 2) y₁ := fun y₁ hy₁ => by rw [kpT₁, p1₁ y₁ hy₁, m1₁ _ (by omega)]
    have f₁ : ∀ y₁, y₁ < 26 → kpN₁ M2₁ m₁ j₁ y₁ = L₁ (m₁ + 8) y₁ := fun y₁ hy₁ => by rw [kpN₁, n1₁ y₁ hy₁, ml₁ _ (by omega)]
    exact kOne_fr (I₁ := J1₁) (L₁ := M1₁) (T₁ := I₁ (m₁ + 2)) (F₁ := L₁ (m₁ + 8)) ⟨NM₁, l₁, ud₁, hW₁, h3₁.2.2.1, h3₁.2.2.2, mc₁, hv₁, sd₁, h11₁.2⟩ (fun b₁ z1₁ z2₁ => c₁ b₁ (by omega)) (fun b₁ z1₁ z2₁ => cl₁ b₁ (by omega)) e₁ f₁
  refine ⟨rfl, B₁, n₁, NM₁, o₁, p₁, l₁, nc₁, nt₁, np₁, nu₁, h1₁, ?_, ?_, ?_, ?_, ?_, ?_, ?_, ?_, ?_, ?_, ?_, ?_⟩
  · exact cTok_fr h2₁ (by rw [g₁ _ (by omega) (by omega) (by omega) (by omega) (by omega) ]) (by rw [g₁ _ (by omega) (by omega) (by omega) (by omega) (by omega) ]) (gm₁ _ (by decide) ) (gm₁ _ (by decide) ) (g₁ _ (by omega) (by omega) (by omega) (by omega) (by omega) ) (g₁ _ (by omega) (by omega) (by omega) (by omega) (by omega) )
  · exact cUni_fr h3₁ (fun b₁ q1₁ q2₁ => g₁ b₁ (by omega) (by omega) (by omega) (by omega) (by omega) ) (fun b₁ q1₁ q2₁ => gl₁ b₁ (by omega) (by omega) ) (ag_r (g₁ _ (by omega) (by omega) (by omega) (by omega) (by omega) )) (gl₁ _ (by omega) (by omega) )
  · exact cMac_fr h4₁ (fun b₁ q1₁ q2₁ => g₁ b₁ (by omega) (by omega) (by omega) (by omega) (by omega) ) (g₁ _ (by omega) (by omega) (by omega) (by omega) (by omega) )
  · exact cHis_fr h5₁ (fun k₁ hk₁ => (hp₁ k₁ hk₁).1) (by rw [g₁ _ (by omega) (by omega) (by omega) (by omega) (by omega) ]) (gm₁ _ (by decide) ) (g₁ _ (by omega) (by omega) (by omega) (by omega) (by omega) ) (fun b₁ q1₁ q2₁ => g₁ b₁ (by omega) (by omega) (by omega) (by omega) (by omega) ) (ag_r (g₁ _ (by omega) (by omega) (by omega) (by omega) (by omega) ))
  · exact cCha_fr h6₁ (g₁ _ (by omega) (by omega) (by omega) (by omega) (by omega) ) (g₁ _ (by omega) (by omega) (by omega) (by omega) (by omega) ) (gm₁ _ (by decide) ) (g₁ _ (by omega) (by omega) (by omega) (by omega) (by omega) ) (g₁ _ (by omega) (by omega) (by omega) (by omega) (by omega) )
  · exact cTag_fr h7₁ (g₁ _ (by omega) (by omega) (by omega) (by omega) (by omega) ) (g₁ _ (by omega) (by omega) (by omega) (by omega) (by omega) ) (gm₁ _ (by decide) ) (g₁ _ (by omega) (by omega) (by omega) (by omega) (by omega) )
  · exact cPak_fr h8₁ (g₁ _ (by omega) (by omega) (by omega) (by omega) (by omega) ) (g₁ _ (by omega) (by omega) (by omega) (by omega) (by omega) ) (gm₁ _ (by decide) ) (g₁ _ (by omega) (by omega) (by omega) (by omega) (by omega) )
  · exact cUnp_fr h9₁ (by rw [g₁ _ (by omega) (by omega) (by omega) (by omega) (by omega) ]) (g₁ _ (by omega) (by omega) (by omega) (by omega) (by omega) ) (g₁ _ (by omega) (by omega) (by omega) (by omega) (by omega) ) (gm₁ _ (by decide) ) (g₁ _ (by omega) (by omega) (by omega) (by omega) (by omega) ) (g₁ _ (by omega) (by omega) (by omega) (by omega) (by omega) )
  · exact cTol_fr h10₁ (g₁ _ (by omega) (by omega) (by omega) (by omega) (by omega) ) (g₁ _ (by omega) (by omega) (by omega) (by omega) (by omega) ) (gm₁ _ (by decide) ) (g₁ _ (by omega) (by omega) (by omega) (by omega) (by omega) )
  · exact cSen_fr h11₁ (by rw [g₁ _ (by omega) (by omega) (by omega) (by omega) (by omega) ]) (fun b₁ q1₁ q2₁ => g₁ b₁ (by omega) (by omega) (by omega) (by omega) (by omega) ) (fun y₁ _ _ => by rw [g₁ _ (by omega) (by omega) (by omega) (by omega) (by omega) ])
  · intro i₁ hi₁
    by_cases e₁ : i₁ = j₁
    · subst e₁
      refine ⟨?_, ?_, fun _ => k1₁⟩
      · obtain ⟨q1₁, q2₁, q3₁, -⟩ := k1₁
        exact UD_wd q3₁
      · rw [c₁ _ (by omega), z76₁, z11₁]
    · have q1₁ : kuA₁ x₁ i₁ + 24 < kuA₁ x₁ j₁ ∨ kuA₁ x₁ j₁ + 24 < kuA₁ x₁ i₁ := by rw [kuA₁, kuA₁]; omega
      have q2₁ : x₁ + 118 ≤ kuA₁ x₁ i₁ := by rw [kuA₁]; omega
      have q3₁ : kuA₁ x₁ i₁ + 24 < x₁ + 168 := by rw [kuA₁]; omega
      exact kOne_fr2 h12₁ hi₁ (fun b₁ w1₁ w2₁ => g₁ b₁ (by omega) (by omega) (by omega) (by omega) (by omega)) (fun b₁ w1₁ w2₁ => gl₁ b₁ (by omega) (by omega)) (by rw [c₁ _ (by omega)]; exact y76₁ i₁ e₁) (by rw [y11₁ i₁ e₁, m1₁ _ (by omega)]) (fun y₁ hy₁ => by rw [p2₁ _ (by omega), m1₁ _ (by omega)]) (fun y₁ hy₁ => by rw [n2₁ _ (by omega), ml₁ _ (by omega)])
  · exact cMis_fr h13₁ (fun b₁ q1₁ q2₁ => g₁ b₁ (by omega) (by omega) (by omega) (by omega) (by omega) ) (by rw [g₁ _ (by omega) (by omega) (by omega) (by omega) (by omega) ])
theorem s_restoreJ {j₁ : Nat} {Q₁ : Bool → MI → ML → Prop} {U₁ V₁ : Nat → Int32} {W₁ : Nat → Int64} {l₁ : List (Nat × Nat × Nat)} (hX₁ : PDL K₁ N₁ R₁ x₁) (hwd₁ : UWd₁ I₁ (x₁ + 3)) (hj₁ : j₁ < 2) (e2₁ : I₁ (x₁ + 76) j₁ ≠ 0) (hu₁ : UD I₁ L₁ (kuA₁ x₁ j₁) U₁ W₁) (hW₁ : WFU₁ U₁) (hV₁ : MACD I₁ (kmA₁ x₁ j₁) V₁) (hS₁ : SED₁ I₁ (ksA₁ x₁ j₁) l₁)
    (h₁ : ∀ J₁ M₁, UD J₁ M₁ (x₁ + 3) U₁ W₁ → MACD J₁ (x₁ + 19) V₁ → SED₁ J₁ (x₁ + 31) l₁ → J₁ x₁ 5 = 0 → (∀ y₁, y₁ ≠ 5 → J₁ x₁ y₁ = I₁ x₁ y₁) → (∀ b₁, b₁ ≠ x₁ → b₁ < x₁ + 3 ∨ x₁ + 22 < b₁ → b₁ < x₁ + 31 ∨ x₁ + 34 < b₁ → J₁ b₁ = I₁ b₁) → (∀ b₁, b₁ < x₁ + 3 ∨ x₁ + 18 < b₁ → M₁ b₁ = L₁ b₁) → Q₁ true J₁ M₁) : w_X11_restore x₁ (nI j₁) K₁ N₁ I₁ L₁ R₁ Q₁ := by
  delta w_X11_restore
  refine ⟨hX₁.k, _, hX₁.r_kept, hX₁.kk_k, s_isIn ?_⟩
  rw [isInB_pred (by rw [hX₁.kk_n]) (by decide), inN_nI hj₁ (by decide)]
  refine ⟨fun e₁ => absurd e₁ (by decide), fun e₁ => ?_⟩
  rw [ix_nI (by omega)]
  refine ⟨by rw [hX₁.kk_n]; exact (vp_nI (by omega)).mpr hj₁, fun _ => ?_, fun z₁ => absurd z₁ e2₁⟩
  have a1₁ : x₁ + 118 ≤ kuA₁ x₁ j₁ := by rw [kuA₁]; omega
  have a2₁ : kmA₁ x₁ j₁ = kuA₁ x₁ j₁ + 16 := by rw [kuA₁, kmA₁]; omega
  have a3₁ : ksA₁ x₁ j₁ = kuA₁ x₁ j₁ + 20 := by rw [kuA₁, ksA₁]; omega
  refine ⟨_, hX₁.r_unit, _, hX₁.r_keptUnits, hX₁.ku_k, by rw [hX₁.ku_n]; exact (vp_nI (by omega)).mpr hj₁, _, (hX₁.ku hj₁).1, hX₁.un.1, s_ucopy hX₁.un (hX₁.ku hj₁).2 hu₁ hW₁ hwd₁ (by omega) (fun J1₁ M1₁ d1₁ f1₁ l1₁ => ⟨_, hX₁.r_machine, _, hX₁.r_keptMachines, hX₁.km_k, by rw [hX₁.km_n]; exact (vp_nI (by omega)).mpr hj₁, _, (hX₁.km hj₁).1, hX₁.mac.1, s_copyFrom hX₁.mac (hX₁.km hj₁).2 (MACD_fr hV₁ (fun b₁ hb₁ => f1₁ b₁ (by omega))) (by omega) (fun J2₁ d2₁ f2₁ => ⟨_, hX₁.r_sentence, _, hX₁.r_keptSentences, hX₁.ks_k, by rw [hX₁.ks_n]; exact (vp_nI (by omega)).mpr hj₁, _, (hX₁.ks hj₁).1, hX₁.sen.1, s_scopy hX₁.sen (hX₁.ks hj₁).2 (SED_fr hS₁ (fun b₁ h1₁ h2₁ => by rw [f2₁ b₁ (by omega) (by omega) (by omega) (by omega), f1₁ b₁ (by omega)])) (by omega) (fun J3₁ d3₁ f3₁ J4₁ g4₁ => ?_)⟩)⟩)⟩
  have f4₁ : ∀ b₁, b₁ ≠ x₁ → J4₁ b₁ = J3₁ b₁ := fun b₁ hb₁ => by rw [g4₁, mup_ne hb₁]
  refine h₁ J4₁ M1₁ (UD_fr d1₁ (fun b₁ h1₁ h2₁ => by rw [f4₁ b₁ (by omega), f3₁ b₁ (by omega) (by omega) (by omega) (by omega), f2₁ b₁ (by omega) (by omega) (by omega) (by omega)])) (MACD_fr d2₁ (fun b₁ hb₁ => by rw [f4₁ b₁ (by omega), f3₁ b₁ (by omega) (by omega) (by omega) (by omega)])) (SED_fr d3₁ (fun b₁ h1₁ h2₁ => f4₁ b₁ (by omega))) ?_ (fun y₁ hy₁ => ?_) (fun b₁ h1₁ h2₁ h3₁ => ?_) (fun b₁ hb₁ => l1₁ b₁ (by omega))
  · rw [g4₁, mup_at]
  · rw [g4₁, mup_k hy₁, f3₁ _ (by omega) (by omega) (by omega) (by omega), f2₁ _ (by omega) (by omega) (by omega) (by omega), f1₁ _ (by omega)]
  · rw [f4₁ b₁ h1₁, f3₁ b₁ (by omega) (by omega) (by omega) (by omega), f2₁ b₁ (by omega) (by omega) (by omega) (by omega), f1₁ b₁ (by omega)]
theorem cs_restore (h₁ : CPL₁ K₁ N₁ I₁ L₁ R₁ x₁ m₁) : w_X11_restore x₁ a₁ K₁ N₁ I₁ L₁ R₁ (fun r₁ I1₁ L1₁ => w_X12_restore m₁ a₁ K₁ N₁ I1₁ L1₁ R₁ (fun r2₁ J₁ M₁ => r₁ = r2₁ ∧ CPL₁ K₁ N₁ J₁ M₁ R₁ x₁ m₁)) := by
  obtain ⟨hX₁, hM₁, hx₁, ⟨W₁, hu₁⟩, hW₁, hV₁, hv₁⟩ := cpG₁ h₁
  have hC₁ := h₁
  obtain ⟨B₁, n₁, NM₁, o₁, p₁, l₁, nc₁, nt₁, np₁, nu₁, h1₁, h2₁, h3₁, h4₁, h5₁, h6₁, h7₁, h8₁, h9₁, h10₁, h11₁, h12₁, h13₁⟩ := hC₁
  have hp₁ := h1₁.2.2.2.1.1
  have hk₁ : ∀ j₁, j₁ < 2 → I₁ (x₁ + 76) j₁ ≠ 0 → ∃ U₁ W₁ V₁ l₁, UD I₁ L₁ (kuA₁ x₁ j₁) U₁ W₁ ∧ WFU₁ U₁ ∧ MACD I₁ (kmA₁ x₁ j₁) V₁ ∧ SED₁ I₁ (ksA₁ x₁ j₁) l₁ := fun j₁ hj₁ hz₁ => by
    obtain ⟨NM₁, l₁, k1₁, k2₁, k3₁, k4₁, k5₁, k6₁, k7₁, k8₁⟩ := (h12₁ j₁ hj₁).2.2 hz₁
    exact ⟨_, _, _, _, k1₁, k2₁, k5₁, k7₁⟩
  by_cases hz₁ : inN a₁ 2 = true
  · obtain ⟨j₁, hj₁, rfl⟩ := inN_t hz₁ (by decide)
    obtain ⟨w1₁, w2₁, w3₁⟩ := h12₁ j₁ hj₁
    by_cases hz2₁ : I₁ (x₁ + 76) j₁ = 0
    · refine s_restore hX₁ (UD_wd hu₁) (fun z₁ => absurd hz₁ (by rw [z₁]; decide)) (fun j2₁ e₁ hj2₁ _ => ?_) hk₁ (fun j2₁ U₁ W₁ V₁ l₁ e₁ hj2₁ hne₁ => ?_)
      · refine r_restore hM₁ (fun z₁ => absurd hz₁ (by rw [z₁]; decide)) (fun j3₁ e3₁ hj3₁ _ => ⟨rfl, CPL_0 h₁⟩) (fun j3₁ e3₁ hj3₁ hne₁ => ?_)
        have e9₁ : j₁ = j3₁ := nI_inj (by omega) (by omega) e3₁
        subst e9₁
        exact absurd hz2₁ (w2₁.mpr hne₁)
      · have e9₁ : j₁ = j2₁ := nI_inj (by omega) (by omega) e₁
        subst e9₁
        exact absurd hz2₁ hne₁
    · obtain ⟨NM'₁, l'₁, k1₁, k2₁, k3₁, k4₁, k5₁, k6₁, k7₁, k8₁⟩ := w3₁ hz2₁
      refine s_restoreJ hX₁ (UD_wd hu₁) hj₁ hz2₁ k1₁ k2₁ k5₁ k7₁ (fun J1₁ M1₁ ud₁ mc₁ sd₁ z5₁ y5₁ b1₁ l1₁ => ?_)
      have m1₁ : ∀ b₁, m₁ ≤ b₁ → J1₁ b₁ = I₁ b₁ := fun b₁ q₁ => b1₁ b₁ (by omega) (by omega) (by omega)
      have ml₁ : ∀ b₁, m₁ ≤ b₁ → M1₁ b₁ = L₁ b₁ := fun b₁ q₁ => l1₁ b₁ (by omega)
      refine r_restore hM₁ (fun z₁ => absurd hz₁ (by rw [z₁]; decide)) (fun j3₁ e3₁ hj3₁ hzz₁ => ?_) (fun j3₁ e3₁ hj3₁ hne₁ J2₁ M2₁ p1₁ p2₁ q24₁ y2₁ b2₁ n1₁ l2₁ => ?_)
      · have e9₁ : j₁ = j3₁ := nI_inj (by omega) (by omega) e3₁
        subst e9₁
        rw [m1₁ _ (by omega)] at hzz₁
        exact absurd hzz₁ (w2₁.mp hz2₁)
      have e9₁ : j₁ = j3₁ := nI_inj (by omega) (by omega) e3₁
      subst e9₁
      have uT₁ : ∀ y₁, y₁ < 667 → J2₁ (m₁ + 2) y₁ = kpT₁ I₁ m₁ j₁ y₁ := fun y₁ hy₁ => by rw [p1₁ y₁ hy₁, m1₁ _ (by omega)]; rfl
      have nT₁ : ∀ y₁, y₁ < 26 → M2₁ (m₁ + 8) y₁ = kpN₁ L₁ m₁ j₁ y₁ := fun y₁ hy₁ => by rw [n1₁ y₁ hy₁, ml₁ _ (by omega)]; rfl
      have ag₁ : agU₁ (J2₁ (m₁ + 2)) (kpT₁ I₁ m₁ j₁) := fun k₁ hk₁ => uT₁ k₁ (by omega)
      have mv₁ : ∀ k₁, k₁ < 83 → macV (J2₁ (m₁ + 2)) k₁ = macV (kpT₁ I₁ m₁ j₁) k₁ := fun k₁ hk₁ => uT₁ (342 + k₁) (by omega)
      have n2₁ := k2₁.1.2.1.2
      have n3₁ := k2₁.1.2.2.1.2
      have n4₁ := k2₁.1.2.2.2.1.2
      have c₁ : ∀ b₁, b₁ < m₁ → J2₁ b₁ = J1₁ b₁ := fun b₁ q₁ => b2₁ b₁ (by omega) (by omega)
      have cl₁ : ∀ b₁, b₁ < m₁ → M2₁ b₁ = M1₁ b₁ := fun b₁ q₁ => l2₁ b₁ (by omega)
      have g₁ : ∀ b₁, b₁ ≠ x₁ → b₁ < x₁ + 3 ∨ x₁ + 22 < b₁ → b₁ < x₁ + 31 ∨ x₁ + 34 < b₁ → b₁ ≠ m₁ → b₁ ≠ m₁ + 2 → J2₁ b₁ = I₁ b₁ := fun b₁ z1₁ z2₁ z3₁ z4₁ z5₁ => by rw [b2₁ b₁ z4₁ z5₁, b1₁ b₁ z1₁ z2₁ z3₁]
      have gm₁ : ∀ y₁, y₁ ≠ 0 → y₁ ≠ 24 → J2₁ m₁ y₁ = I₁ m₁ y₁ := fun y₁ z1₁ z2₁ => by rw [y2₁ y₁ z1₁ z2₁, m1₁ _ (Nat.le_refl _)]
      have gl₁ : ∀ b₁, b₁ < x₁ + 3 ∨ x₁ + 18 < b₁ → b₁ ≠ m₁ + 8 → M2₁ b₁ = L₁ b₁ := fun b₁ z1₁ z2₁ => by rw [l2₁ b₁ z2₁, l1₁ b₁ z1₁]
      refine ⟨rfl, B₁, n₁, NM'₁, 0, p₁, l'₁, nc₁, nt₁, np₁, nu₁, h1₁, ?_, ?_, ?_, ?_, ?_, ?_, ?_, ?_, ?_, ?_, ?_, ?_⟩
      · exact cTok_fr h2₁ (by rw [g₁ _ (by omega) (by omega) (by omega) (by omega) (by omega) ]) (by rw [g₁ _ (by omega) (by omega) (by omega) (by omega) (by omega) ]) (gm₁ _ (by decide) (by decide) ) (gm₁ _ (by decide) (by decide) ) (g₁ _ (by omega) (by omega) (by omega) (by omega) (by omega) ) (g₁ _ (by omega) (by omega) (by omega) (by omega) (by omega) )
      · refine ⟨UD_ag ag₁ k2₁ (ud₁.fr (fun q₁ z1₁ z2₁ => c₁ q₁ (by omega)) (fun q₁ z1₁ z2₁ => cl₁ q₁ (by omega))), WFU_ag ag₁ k2₁, NOK_cg k3₁ (ag₁ 2 (by decide)) (ag₁ 3 (by decide)) (ag₁ 4 (by decide)), ⟨fun k₁ hk₁ => ?_, fun k₁ hk₁ => ?_, fun k₁ hk₁ => ?_⟩⟩
        · rw [ag₁ 2 (by decide)] at hk₁
          rw [nT₁ _ (by omega)]; exact k4₁.1 k₁ hk₁
        · rw [ag₁ 3 (by decide)] at hk₁
          rw [nT₁ _ (by omega)]; exact k4₁.2.1 k₁ hk₁
        · rw [ag₁ 4 (by decide)] at hk₁
          rw [nT₁ _ (by omega)]; exact k4₁.2.2 k₁ hk₁
      · exact ⟨MACD_cg (MACD_fr mc₁ (fun q₁ z₁ => c₁ q₁ (by omega))) mv₁, WFv_bl (WFv_ag ag₁ k6₁) mv₁⟩
      · exact ⟨by decide, by rw [c₁ _ (by omega)]; exact z5₁, q24₁, fun k₁ hk₁ => absurd hk₁ (Nat.not_lt_zero k₁), fun k₁ hk₁ => absurd hk₁ (Nat.not_lt_zero k₁)⟩
      · exact cCha_fr h6₁ (g₁ _ (by omega) (by omega) (by omega) (by omega) (by omega) ) (g₁ _ (by omega) (by omega) (by omega) (by omega) (by omega) ) (gm₁ _ (by decide) (by decide) ) (g₁ _ (by omega) (by omega) (by omega) (by omega) (by omega) ) (g₁ _ (by omega) (by omega) (by omega) (by omega) (by omega) )
      · exact cTag_fr h7₁ (g₁ _ (by omega) (by omega) (by omega) (by omega) (by omega) ) (g₁ _ (by omega) (by omega) (by omega) (by omega) (by omega) ) (gm₁ _ (by decide) (by decide) ) (g₁ _ (by omega) (by omega) (by omega) (by omega) (by omega) )
      · exact cPak_fr h8₁ (g₁ _ (by omega) (by omega) (by omega) (by omega) (by omega) ) (g₁ _ (by omega) (by omega) (by omega) (by omega) (by omega) ) (gm₁ _ (by decide) (by decide) ) (g₁ _ (by omega) (by omega) (by omega) (by omega) (by omega) )
      · exact cUnp_fr h9₁ (by rw [g₁ _ (by omega) (by omega) (by omega) (by omega) (by omega) ]) (g₁ _ (by omega) (by omega) (by omega) (by omega) (by omega) ) (g₁ _ (by omega) (by omega) (by omega) (by omega) (by omega) ) (gm₁ _ (by decide) (by decide) ) (g₁ _ (by omega) (by omega) (by omega) (by omega) (by omega) ) (g₁ _ (by omega) (by omega) (by omega) (by omega) (by omega) )
      · exact cTol_fr h10₁ (g₁ _ (by omega) (by omega) (by omega) (by omega) (by omega) ) (g₁ _ (by omega) (by omega) (by omega) (by omega) (by omega) ) (gm₁ _ (by decide) (by decide) ) (g₁ _ (by omega) (by omega) (by omega) (by omega) (by omega) )
      · exact ⟨SED_fr sd₁ (fun b₁ z1₁ z2₁ => c₁ b₁ (by omega)), sCpl_fr k8₁ (fun y₁ z1₁ z2₁ => uT₁ y₁ z2₁)⟩
      · exact cKep_fr h12₁ (fun b₁ q1₁ q2₁ => g₁ b₁ (by omega) (by omega) (by omega) (by omega) (by omega) ) (fun b₁ q1₁ q2₁ => gl₁ b₁ (by omega) (by omega) ) (g₁ _ (by omega) (by omega) (by omega) (by omega) (by omega) ) (g₁ _ (by omega) (by omega) (by omega) (by omega) (by omega) ) (g₁ _ (by omega) (by omega) (by omega) (by omega) (by omega) ) (gl₁ _ (by omega) (by omega) )
      · exact cMis_fr h13₁ (fun b₁ q1₁ q2₁ => g₁ b₁ (by omega) (by omega) (by omega) (by omega) (by omega) ) (by rw [g₁ _ (by omega) (by omega) (by omega) (by omega) (by omega) ])
  · have hz'₁ : inN a₁ 2 = false := Bool.eq_false_iff.mpr hz₁
    exact s_restore hX₁ (UD_wd hu₁) (fun _ => r_restore hM₁ (fun _ => ⟨rfl, CPL_0 h₁⟩) (fun j₁ e₁ hj₁ _ => absurd (inN_nI hj₁ (by decide)) (by rw [← e₁]; exact hz₁)) (fun j₁ e₁ hj₁ => absurd (inN_nI hj₁ (by decide)) (by rw [← e₁]; exact hz₁))) (fun j₁ e₁ hj₁ _ => absurd (inN_nI hj₁ (by decide)) (by rw [← e₁]; exact hz₁)) hk₁ (fun j₁ U₁ W₁ V₁ l₁ e₁ hj₁ => absurd (inN_nI hj₁ (by decide)) (by rw [← e₁]; exact hz₁))
end CB₁
