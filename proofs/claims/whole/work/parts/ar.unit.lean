/-! ===== class and reference beside one another: unit, sentence, book ===== -/
section CU₁
variable {K₁ N₁ : MK} {I₁ J₁ : MI} {L₁ M₁ : ML} {R₁ : MR} {x₁ m₁ : Nat} {a₁ b₁ c₁ d₁ e₁ : Int32}
theorem NMN_m {NM₁ : Nat → List Nat} {sc₁ : Nat} (h₁ : NMN₁ I₁ L₁ m₁ NM₁ sc₁) (e₁ : J₁ (m₁ + 2) = I₁ (m₁ + 2)) (f₁ : M₁ (m₁ + 8) = L₁ (m₁ + 8)) : NMN₁ J₁ M₁ m₁ NM₁ sc₁ := by
  rw [NMN₁, e₁, f₁]; exact h₁
theorem cs_unit (h₁ : CPL₁ K₁ N₁ I₁ L₁ R₁ x₁ m₁) : w_X11_unit x₁ K₁ N₁ I₁ L₁ R₁ (fun r₁ I1₁ L1₁ => w_X12_unit m₁ K₁ N₁ I1₁ L1₁ R₁ (fun r2₁ J₁ M₁ => r₁ = r2₁ ∧ CPL₁ K₁ N₁ J₁ M₁ R₁ x₁ m₁)) := by
  obtain ⟨hX₁, hM₁, hx₁, ⟨W₁, hu₁⟩, hW₁, hV₁, hv₁⟩ := cpG₁ h₁
  have hC₁ := h₁
  obtain ⟨B₁, n₁, NM₁, o₁, p₁, l₁, nc₁, nt₁, np₁, nu₁, h1₁, h2₁, h3₁, h4₁, h5₁, h6₁, h7₁, h8₁, h9₁, h10₁, h11₁, h12₁, h13₁⟩ := hC₁
  have hp₁ := h1₁.2.2.2.1.1
  obtain ⟨t1₁, t2₁, t3₁, t4₁, t5₁, t6₁, t7₁⟩ := h2₁
  refine s_unit (T₁ := I₁ (m₁ + 3)) (NM0₁ := NM₁) hX₁ t1₁ t2₁ t5₁ t3₁ h13₁.1 (UD_wd hu₁) (fun k₁ pl₁ ep₁ k1₁ k5₁ J1₁ M1₁ j10₁ j1₁ w1₁ b1₁ l1₁ => ?_) (fun U'₁ NM'₁ i₁ ep₁ wU₁ nK₁ J1₁ M1₁ ud₁ mc₁ z31₁ z5₁ j10₁ j1₁ w1₁ f1₁ => ?_)
  · have m1₁ : ∀ b₁, m₁ ≤ b₁ → J1₁ b₁ = I₁ b₁ := fun b₁ q₁ => b1₁ b₁ (by omega) (by omega)
    have ml₁ : ∀ b₁, m₁ ≤ b₁ → M1₁ b₁ = L₁ b₁ := fun b₁ q₁ => l1₁ b₁ (by omega) (by omega)
    refine r_unit (NM0₁ := NM₁) hM₁ t1₁ t2₁ (fun i₁ hi₁ => by rw [m1₁ _ (by omega)]; exact t6₁ i₁ hi₁) (by rw [m1₁ _ (Nat.le_refl _)]; exact t4₁) (fun k2₁ pl2₁ ep2₁ J2₁ M2₁ q10₁ q2₁ u2₁ n2₁ q24₁ f2₁ => ?_) (fun U2₁ NM2₁ i2₁ ep2₁ _ _ J2₁ M2₁ _ _ _ _ _ _ => ?_)
    rotate_left
    · rw [m1₁ _ (by omega)] at ep2₁
      exact absurd (ep₁.symm.trans ep2₁) (fun w₁ => nomatch w₁)
    rw [m1₁ _ (by omega)] at ep2₁
    have e9₁ := Sum.inl.inj (ep₁.symm.trans ep2₁)
    obtain ⟨e1₁, e2₁⟩ := Prod.mk.inj e9₁
    subst e1₁ e2₁
    have u2'₁ : J2₁ (m₁ + 2) = I₁ (m₁ + 2) := by rw [u2₁, m1₁ _ (by omega)]
    have g₁ : ∀ b₁, b₁ ≠ x₁ + 1 → b₁ < x₁ + 36 ∨ x₁ + 52 < b₁ → b₁ ≠ m₁ → b₁ ≠ m₁ + 3 → J2₁ b₁ = I₁ b₁ := fun b₁ z1₁ z2₁ z3₁ z4₁ => by
      by_cases e₁ : b₁ = m₁ + 2
      · rw [e₁]; exact u2'₁
      · rw [f2₁.1 b₁ z3₁ e₁ z4₁, b1₁ b₁ z1₁ z2₁]
    have gm₁ : ∀ y₁, 14 ≤ y₁ → y₁ ≠ 25 → J2₁ m₁ y₁ = I₁ m₁ y₁ := fun y₁ z1₁ z2₁ => by
      by_cases e₁ : y₁ = 24
      · rw [e₁, q24₁, m1₁ _ (Nat.le_refl _)]
      · rw [f2₁.2.2 y₁ z1₁ e₁ z2₁, m1₁ _ (Nat.le_refl _)]
    have gl₁ : ∀ b₁, b₁ ≠ x₁ + 1 → b₁ < x₁ + 37 ∨ x₁ + 52 < b₁ → b₁ ≠ m₁ → b₁ ≠ m₁ + 9 → M2₁ b₁ = L₁ b₁ := fun b₁ z1₁ z2₁ z3₁ z4₁ => by
      by_cases e₁ : b₁ = m₁ + 8
      · rw [e₁, n2₁, ml₁ _ (by omega)]
      · rw [f2₁.2.1 b₁ z3₁ e₁ z4₁, l1₁ b₁ z1₁ z2₁]
    refine ⟨rfl, B₁, 0, NM₁, o₁, p₁, l₁, nc₁, nt₁, np₁, nu₁, h1₁, ?_, ?_, ?_, ?_, ?_, ?_, ?_, ?_, ?_, ?_, ?_, ?_⟩
    · refine ⟨t1₁, by omega, by rw [f2₁.1 _ (by omega) (by omega) (by omega)]; exact j1₁, q2₁, fun i₁ hi₁ => absurd hi₁ (Nat.not_lt_zero i₁), fun i₁ hi₁ => absurd hi₁ (Nat.not_lt_zero i₁), ?_⟩
      rw [f2₁.1 _ (by omega) (by omega) (by omega), j10₁, q10₁]
    · exact cUni_fr h3₁ (fun b₁ q1₁ q2₁ => g₁ b₁ (by omega) (by omega) (by omega) (by omega) ) (fun b₁ q1₁ q2₁ => gl₁ b₁ (by omega) (by omega) (by omega) (by omega) ) (ag_r (g₁ _ (by omega) (by omega) (by omega) (by omega) )) (gl₁ _ (by omega) (by omega) (by omega) (by omega) )
    · exact cMac_fr h4₁ (fun b₁ q1₁ q2₁ => g₁ b₁ (by omega) (by omega) (by omega) (by omega) ) (g₁ _ (by omega) (by omega) (by omega) (by omega) )
    · exact cHis_fr h5₁ (fun k₁ hk₁ => (hp₁ k₁ hk₁).1) (by rw [g₁ _ (by omega) (by omega) (by omega) (by omega) ]) (gm₁ _ (by decide) (by decide) ) (g₁ _ (by omega) (by omega) (by omega) (by omega) ) (fun b₁ q1₁ q2₁ => g₁ b₁ (by omega) (by omega) (by omega) (by omega) ) (ag_r (g₁ _ (by omega) (by omega) (by omega) (by omega) ))
    · exact cCha_fr h6₁ (g₁ _ (by omega) (by omega) (by omega) (by omega) ) (g₁ _ (by omega) (by omega) (by omega) (by omega) ) (gm₁ _ (by decide) (by decide) ) (g₁ _ (by omega) (by omega) (by omega) (by omega) ) (g₁ _ (by omega) (by omega) (by omega) (by omega) )
    · exact cTag_fr h7₁ (g₁ _ (by omega) (by omega) (by omega) (by omega) ) (g₁ _ (by omega) (by omega) (by omega) (by omega) ) (gm₁ _ (by decide) (by decide) ) (g₁ _ (by omega) (by omega) (by omega) (by omega) )
    · exact cPak_fr h8₁ (g₁ _ (by omega) (by omega) (by omega) (by omega) ) (g₁ _ (by omega) (by omega) (by omega) (by omega) ) (gm₁ _ (by decide) (by decide) ) (g₁ _ (by omega) (by omega) (by omega) (by omega) )
    · exact cUnp_fr h9₁ (by rw [g₁ _ (by omega) (by omega) (by omega) (by omega) ]) (g₁ _ (by omega) (by omega) (by omega) (by omega) ) (g₁ _ (by omega) (by omega) (by omega) (by omega) ) (gm₁ _ (by decide) (by decide) ) (g₁ _ (by omega) (by omega) (by omega) (by omega) ) (g₁ _ (by omega) (by omega) (by omega) (by omega) )
    · exact cTol_fr h10₁ (g₁ _ (by omega) (by omega) (by omega) (by omega) ) (g₁ _ (by omega) (by omega) (by omega) (by omega) ) (gm₁ _ (by decide) (by decide) ) (g₁ _ (by omega) (by omega) (by omega) (by omega) )
    · exact cSen_fr h11₁ (by rw [g₁ _ (by omega) (by omega) (by omega) (by omega) ]) (fun b₁ q1₁ q2₁ => g₁ b₁ (by omega) (by omega) (by omega) (by omega) ) (fun y₁ _ _ => by rw [g₁ _ (by omega) (by omega) (by omega) (by omega) ])
    · exact cKep_fr h12₁ (fun b₁ q1₁ q2₁ => g₁ b₁ (by omega) (by omega) (by omega) (by omega) ) (fun b₁ q1₁ q2₁ => gl₁ b₁ (by omega) (by omega) (by omega) (by omega) ) (g₁ _ (by omega) (by omega) (by omega) (by omega) ) (g₁ _ (by omega) (by omega) (by omega) (by omega) ) (g₁ _ (by omega) (by omega) (by omega) (by omega) ) (gl₁ _ (by omega) (by omega) (by omega) (by omega) )
    · exact ⟨UWd_fr w1₁ (fun b₁ z1₁ z2₁ => f2₁.1 b₁ (by omega) (by omega) (by omega)), by rw [g₁ _ (by omega) (by omega) (by omega) (by omega)]; exact h13₁.2⟩
  · have m1₁ : ∀ b₁, m₁ ≤ b₁ → J1₁ b₁ = I₁ b₁ := fun b₁ q₁ => f1₁.1 b₁ (by omega) (by omega) (by omega) (by omega) (by omega)
    have ml₁ : ∀ b₁, m₁ ≤ b₁ → M1₁ b₁ = L₁ b₁ := fun b₁ q₁ => f1₁.2.2 b₁ (by omega) (by omega) (by omega)
    refine r_unit (NM0₁ := NM₁) hM₁ t1₁ t2₁ (fun i₁ hi₁ => by rw [m1₁ _ (by omega)]; exact t6₁ i₁ hi₁) (by rw [m1₁ _ (Nat.le_refl _)]; exact t4₁) (fun k2₁ pl2₁ ep2₁ J2₁ M2₁ _ _ _ _ _ _ => ?_) (fun U2₁ NM2₁ i2₁ ep2₁ _ _ J2₁ M2₁ u2₁ n2₁ q24₁ q10₁ q2₁ f2₁ => ?_)
    · rw [m1₁ _ (by omega)] at ep2₁
      exact absurd (ep₁.symm.trans ep2₁) (fun w₁ => nomatch w₁)
    rw [m1₁ _ (by omega)] at ep2₁
    have e9₁ := Sum.inr.inj (ep₁.symm.trans ep2₁)
    obtain ⟨e1₁, e2₁⟩ := Prod.mk.inj e9₁
    obtain ⟨e2₁, e3₁⟩ := Prod.mk.inj e2₁
    subst e1₁ e2₁ e3₁
    rw [m1₁ _ (by omega)] at u2₁
    have ag₁ : agU₁ (J2₁ (m₁ + 2)) U'₁ := fun k₁ hk₁ => by rw [u2₁, nuU₁, if_pos hk₁]
    have zz₁ : ∀ k₁, 342 ≤ k₁ → k₁ < 667 → J2₁ (m₁ + 2) k₁ = 0 := fun k₁ k1₁ k2₁ => by rw [u2₁, nuU₁, if_neg (by omega), if_pos k2₁]
    have c₁ : ∀ b₁, b₁ < m₁ → J2₁ b₁ = J1₁ b₁ := fun b₁ q₁ => f2₁.1 b₁ (by omega) (by omega) (by omega)
    have cl₁ : ∀ b₁, b₁ < m₁ → M2₁ b₁ = M1₁ b₁ := fun b₁ q₁ => f2₁.2.1 b₁ (by omega) (by omega) (by omega)
    have g₁ : ∀ b₁, b₁ ≠ x₁ → b₁ ≠ x₁ + 1 → b₁ < x₁ + 3 ∨ x₁ + 22 < b₁ → b₁ ≠ x₁ + 31 → b₁ < x₁ + 36 ∨ x₁ + 52 < b₁ → b₁ ≠ m₁ → b₁ ≠ m₁ + 2 → b₁ ≠ m₁ + 3 → J2₁ b₁ = I₁ b₁ := fun b₁ z1₁ z2₁ z3₁ z4₁ z5₁ z6₁ z7₁ z8₁ => by rw [f2₁.1 b₁ z6₁ z7₁ z8₁, f1₁.1 b₁ z1₁ z2₁ z3₁ z4₁ z5₁]
    have gm₁ : ∀ y₁, 14 ≤ y₁ → y₁ ≠ 24 → y₁ ≠ 25 → J2₁ m₁ y₁ = I₁ m₁ y₁ := fun y₁ z1₁ z2₁ z3₁ => by rw [f2₁.2.2 y₁ z1₁ z2₁ z3₁, m1₁ _ (Nat.le_refl _)]
    have gl₁ : ∀ b₁, b₁ ≠ x₁ + 1 → b₁ < x₁ + 3 ∨ x₁ + 18 < b₁ → b₁ < x₁ + 37 ∨ x₁ + 52 < b₁ → b₁ ≠ m₁ → b₁ ≠ m₁ + 8 → b₁ ≠ m₁ + 9 → M2₁ b₁ = L₁ b₁ := fun b₁ z1₁ z2₁ z3₁ z4₁ z5₁ z6₁ => by rw [f2₁.2.1 b₁ z4₁ z5₁ z6₁, f1₁.2.2 b₁ z1₁ z2₁ z3₁]
    refine ⟨rfl, B₁, 0, NM'₁, 0, p₁, [], nc₁, nt₁, np₁, nu₁, h1₁, ?_, ?_, ?_, ?_, ?_, ?_, ?_, ?_, ?_, ?_, ?_, ?_⟩
    · refine ⟨t1₁, by omega, by rw [c₁ _ (by omega)]; exact j1₁, q2₁, fun i₁ hi₁ => absurd hi₁ (Nat.not_lt_zero i₁), fun i₁ hi₁ => absurd hi₁ (Nat.not_lt_zero i₁), ?_⟩
      rw [c₁ _ (by omega), j10₁, q10₁]
    · exact ⟨UD_ag ag₁ wU₁ (ud₁.fr (fun q₁ z1₁ z2₁ => c₁ q₁ (by omega)) (fun q₁ z1₁ z2₁ => cl₁ q₁ (by omega))), WFU_ag ag₁ wU₁, NOK_cg nK₁ (ag₁ 2 (by decide)) (ag₁ 3 (by decide)) (ag₁ 4 (by decide)), NRF_cg n2₁ (ag₁ 2 (by decide)) (ag₁ 3 (by decide)) (ag₁ 4 (by decide))⟩
    · refine ⟨MACD_cg (MACD_fr mc₁ (fun q₁ z₁ => c₁ q₁ (by omega))) (fun k₁ hk₁ => zz₁ (342 + k₁) (by omega) (by omega)), ⟨0, by decide, zz₁ _ (by decide) (by decide)⟩, ⟨fun j₁ hj₁ => ⟨0, by decide, zz₁ (342 + (11 + j₁)) (by omega) (by omega)⟩, fun j₁ hj₁ => ⟨0, by decide, zz₁ (342 + (19 + j₁)) (by omega) (by omega)⟩⟩, ?_⟩
      rw [show macV (J2₁ (m₁ + 2)) 0 = nI 0 from zz₁ _ (by decide) (by decide), adr_cg ag₁]
      exact adr_nI wU₁.1 (by have := wU₁.1.2.2.2.2.2.2.1; omega)
    · exact ⟨by decide, by rw [c₁ _ (by omega)]; exact z5₁, q24₁, fun k₁ hk₁ => absurd hk₁ (Nat.not_lt_zero k₁), fun k₁ hk₁ => absurd hk₁ (Nat.not_lt_zero k₁)⟩
    · exact cCha_fr h6₁ (g₁ _ (by omega) (by omega) (by omega) (by omega) (by omega) (by omega) (by omega) (by omega) ) (g₁ _ (by omega) (by omega) (by omega) (by omega) (by omega) (by omega) (by omega) (by omega) ) (gm₁ _ (by decide) (by decide) (by decide) ) (g₁ _ (by omega) (by omega) (by omega) (by omega) (by omega) (by omega) (by omega) (by omega) ) (g₁ _ (by omega) (by omega) (by omega) (by omega) (by omega) (by omega) (by omega) (by omega) )
    · exact cTag_fr h7₁ (g₁ _ (by omega) (by omega) (by omega) (by omega) (by omega) (by omega) (by omega) (by omega) ) (g₁ _ (by omega) (by omega) (by omega) (by omega) (by omega) (by omega) (by omega) (by omega) ) (gm₁ _ (by decide) (by decide) (by decide) ) (g₁ _ (by omega) (by omega) (by omega) (by omega) (by omega) (by omega) (by omega) (by omega) )
    · exact cPak_fr h8₁ (g₁ _ (by omega) (by omega) (by omega) (by omega) (by omega) (by omega) (by omega) (by omega) ) (g₁ _ (by omega) (by omega) (by omega) (by omega) (by omega) (by omega) (by omega) (by omega) ) (gm₁ _ (by decide) (by decide) (by decide) ) (g₁ _ (by omega) (by omega) (by omega) (by omega) (by omega) (by omega) (by omega) (by omega) )
    · exact cUnp_fr h9₁ (by rw [g₁ _ (by omega) (by omega) (by omega) (by omega) (by omega) (by omega) (by omega) (by omega) ]) (g₁ _ (by omega) (by omega) (by omega) (by omega) (by omega) (by omega) (by omega) (by omega) ) (g₁ _ (by omega) (by omega) (by omega) (by omega) (by omega) (by omega) (by omega) (by omega) ) (gm₁ _ (by decide) (by decide) (by decide) ) (g₁ _ (by omega) (by omega) (by omega) (by omega) (by omega) (by omega) (by omega) (by omega) ) (g₁ _ (by omega) (by omega) (by omega) (by omega) (by omega) (by omega) (by omega) (by omega) )
    · exact cTol_fr h10₁ (g₁ _ (by omega) (by omega) (by omega) (by omega) (by omega) (by omega) (by omega) (by omega) ) (g₁ _ (by omega) (by omega) (by omega) (by omega) (by omega) (by omega) (by omega) (by omega) ) (gm₁ _ (by decide) (by decide) (by decide) ) (g₁ _ (by omega) (by omega) (by omega) (by omega) (by omega) (by omega) (by omega) (by omega) )
    · exact ⟨⟨by rw [c₁ _ (by omega)]; exact z31₁, by decide, fun i₁ hi₁ => absurd hi₁ (Nat.not_lt_zero i₁)⟩, Or.inl ⟨zz₁ _ (by decide) (by decide), rfl⟩⟩
    · exact cKep_fr h12₁ (fun b₁ q1₁ q2₁ => g₁ b₁ (by omega) (by omega) (by omega) (by omega) (by omega) (by omega) (by omega) (by omega) ) (fun b₁ q1₁ q2₁ => gl₁ b₁ (by omega) (by omega) (by omega) (by omega) (by omega) (by omega) ) (g₁ _ (by omega) (by omega) (by omega) (by omega) (by omega) (by omega) (by omega) (by omega) ) (g₁ _ (by omega) (by omega) (by omega) (by omega) (by omega) (by omega) (by omega) (by omega) ) (g₁ _ (by omega) (by omega) (by omega) (by omega) (by omega) (by omega) (by omega) (by omega) ) (gl₁ _ (by omega) (by omega) (by omega) (by omega) (by omega) (by omega) )
    · exact ⟨UWd_fr w1₁ (fun b₁ z1₁ z2₁ => c₁ b₁ (by omega)), by rw [g₁ _ (by omega) (by omega) (by omega) (by omega) (by omega) (by omega) (by omega) (by omega)]; exact h13₁.2⟩
theorem cs_sentence (h₁ : CPL₁ K₁ N₁ I₁ L₁ R₁ x₁ m₁) : w_X11_sentence x₁ K₁ N₁ I₁ L₁ R₁ (fun r₁ I1₁ L1₁ => w_X12_sentence m₁ K₁ N₁ I1₁ L1₁ R₁ (fun r2₁ J₁ M₁ => r₁ = r2₁ ∧ CPL₁ K₁ N₁ J₁ M₁ R₁ x₁ m₁)) := by
  obtain ⟨hX₁, hM₁, hx₁, ⟨W₁, hu₁⟩, hW₁, hV₁, hv₁⟩ := cpG₁ h₁
  have hC₁ := h₁
  obtain ⟨B₁, n₁, NM₁, o₁, p₁, l₁, nc₁, nt₁, np₁, nu₁, h1₁, h2₁, h3₁, h4₁, h5₁, h6₁, h7₁, h8₁, h9₁, h10₁, h11₁, h12₁, h13₁⟩ := hC₁
  have hp₁ := h1₁.2.2.2.1.1
  obtain ⟨t1₁, t2₁, t3₁, t4₁, t5₁, t6₁, t7₁⟩ := h2₁
  have n2₁ := hW₁.1.2.1
  have hN1₁ : NMC₁ I₁ L₁ x₁ NM₁ (ix (I₁ (m₁ + 2) 2)) := ⟨hu₁.2.2.1.1, h3₁.2.2.1.1, fun j₁ hj₁ => nm_of (h3₁.2.2.1.1 j₁ hj₁) (by rw [Nat.zero_add]; exact hu2₁ h3₁.1 hj₁)⟩
  have hN2₁ : NMN₁ I₁ L₁ m₁ NM₁ (ix (I₁ (m₁ + 2) 2)) := ⟨n2₁.1, n2₁.2, h3₁.2.2.1.1, h3₁.2.2.2.1⟩
  refine s_sentence hX₁ t1₁ t2₁ t5₁ t3₁ hN1₁ (fun k₁ pl₁ ep₁ k1₁ k5₁ J1₁ M1₁ j10₁ j1₁ f1₁ => ?_) (fun l1₁ k₁ ep₁ J1₁ M1₁ sd₁ j10₁ j1₁ b1₁ gl1₁ => ?_)
  · have m1₁ : ∀ b₁, m₁ ≤ b₁ → J1₁ b₁ = I₁ b₁ := fun b₁ q₁ => f1₁.1 b₁ (by omega) (by omega)
    have ml₁ : ∀ b₁, m₁ ≤ b₁ → M1₁ b₁ = L₁ b₁ := fun b₁ q₁ => f1₁.2 b₁ (by omega)
    refine r_sentence hM₁ t1₁ t2₁ (fun i₁ hi₁ => by rw [m1₁ _ (by omega)]; exact t6₁ i₁ hi₁) (by rw [m1₁ _ (Nat.le_refl _)]; exact t4₁) (NMN_m hN2₁ (m1₁ _ (by omega)) (ml₁ _ (by omega))) (fun k2₁ pl2₁ ep2₁ J2₁ M2₁ q10₁ q2₁ u2₁ f2₁ => ?_) (fun l2₁ k2₁ ep2₁ J2₁ M2₁ t₁ _ _ _ _ _ _ _ _ => absurd (ep₁.symm.trans ep2₁) (fun w₁ => nomatch w₁))
    have e9₁ := Sum.inl.inj (ep₁.symm.trans ep2₁)
    obtain ⟨e1₁, e2₁⟩ := Prod.mk.inj e9₁
    subst e1₁ e2₁
    have g₁ : ∀ b₁, b₁ ≠ x₁ + 1 → b₁ < x₁ + 53 ∨ x₁ + 57 < b₁ → b₁ ≠ m₁ → b₁ ≠ m₁ + 25 → J2₁ b₁ = I₁ b₁ := fun b₁ z1₁ z2₁ z3₁ z4₁ => by
      by_cases e₁ : b₁ = m₁ + 2
      · rw [e₁, u2₁, m1₁ _ (by omega)]
      · rw [f2₁.1 b₁ z3₁ e₁ z4₁, f1₁.1 b₁ z1₁ z2₁]
    have gm₁ : ∀ y₁, 13 < y₁ → y₁ ≠ 54 → y₁ ≠ 55 → y₁ ≠ 56 → y₁ ≠ 57 → J2₁ m₁ y₁ = I₁ m₁ y₁ := fun y₁ z1₁ z2₁ z3₁ z4₁ z5₁ => by rw [f2₁.2.1 y₁ z1₁ z2₁ z3₁ z4₁ z5₁, m1₁ _ (Nat.le_refl _)]
    have gl₁ : ∀ b₁, b₁ ≠ x₁ + 1 → b₁ ≠ m₁ → M2₁ b₁ = L₁ b₁ := fun b₁ z1₁ z2₁ => by rw [f2₁.2.2 b₁ z2₁, f1₁.2 b₁ z1₁]
    refine ⟨rfl, B₁, 0, NM₁, o₁, p₁, l₁, nc₁, nt₁, np₁, nu₁, h1₁, ?_, ?_, ?_, ?_, ?_, ?_, ?_, ?_, ?_, ?_, ?_, ?_⟩
    · refine ⟨t1₁, by omega, by rw [f2₁.1 _ (by omega) (by omega) (by omega)]; exact j1₁, q2₁, fun i₁ hi₁ => absurd hi₁ (Nat.not_lt_zero i₁), fun i₁ hi₁ => absurd hi₁ (Nat.not_lt_zero i₁), ?_⟩
      rw [f2₁.1 _ (by omega) (by omega) (by omega), j10₁, q10₁]
    · exact cUni_fr h3₁ (fun b₁ q1₁ q2₁ => g₁ b₁ (by omega) (by omega) (by omega) (by omega) ) (fun b₁ q1₁ q2₁ => gl₁ b₁ (by omega) (by omega) ) (ag_r (g₁ _ (by omega) (by omega) (by omega) (by omega) )) (gl₁ _ (by omega) (by omega) )
    · exact cMac_fr h4₁ (fun b₁ q1₁ q2₁ => g₁ b₁ (by omega) (by omega) (by omega) (by omega) ) (g₁ _ (by omega) (by omega) (by omega) (by omega) )
    · exact cHis_fr h5₁ (fun k₁ hk₁ => (hp₁ k₁ hk₁).1) (by rw [g₁ _ (by omega) (by omega) (by omega) (by omega) ]) (gm₁ _ (by decide) (by decide) (by decide) (by decide) (by decide) ) (g₁ _ (by omega) (by omega) (by omega) (by omega) ) (fun b₁ q1₁ q2₁ => g₁ b₁ (by omega) (by omega) (by omega) (by omega) ) (ag_r (g₁ _ (by omega) (by omega) (by omega) (by omega) ))
    · exact cCha_fr h6₁ (g₁ _ (by omega) (by omega) (by omega) (by omega) ) (g₁ _ (by omega) (by omega) (by omega) (by omega) ) (gm₁ _ (by decide) (by decide) (by decide) (by decide) (by decide) ) (g₁ _ (by omega) (by omega) (by omega) (by omega) ) (g₁ _ (by omega) (by omega) (by omega) (by omega) )
    · exact cTag_fr h7₁ (g₁ _ (by omega) (by omega) (by omega) (by omega) ) (g₁ _ (by omega) (by omega) (by omega) (by omega) ) (gm₁ _ (by decide) (by decide) (by decide) (by decide) (by decide) ) (g₁ _ (by omega) (by omega) (by omega) (by omega) )
    · exact cPak_fr h8₁ (g₁ _ (by omega) (by omega) (by omega) (by omega) ) (g₁ _ (by omega) (by omega) (by omega) (by omega) ) (gm₁ _ (by decide) (by decide) (by decide) (by decide) (by decide) ) (g₁ _ (by omega) (by omega) (by omega) (by omega) )
    · exact cUnp_fr h9₁ (by rw [g₁ _ (by omega) (by omega) (by omega) (by omega) ]) (g₁ _ (by omega) (by omega) (by omega) (by omega) ) (g₁ _ (by omega) (by omega) (by omega) (by omega) ) (gm₁ _ (by decide) (by decide) (by decide) (by decide) (by decide) ) (g₁ _ (by omega) (by omega) (by omega) (by omega) ) (g₁ _ (by omega) (by omega) (by omega) (by omega) )
    · exact cTol_fr h10₁ (g₁ _ (by omega) (by omega) (by omega) (by omega) ) (g₁ _ (by omega) (by omega) (by omega) (by omega) ) (gm₁ _ (by decide) (by decide) (by decide) (by decide) (by decide) ) (g₁ _ (by omega) (by omega) (by omega) (by omega) )
    · exact cSen_fr h11₁ (by rw [g₁ _ (by omega) (by omega) (by omega) (by omega) ]) (fun b₁ q1₁ q2₁ => g₁ b₁ (by omega) (by omega) (by omega) (by omega) ) (fun y₁ _ _ => by rw [g₁ _ (by omega) (by omega) (by omega) (by omega) ])
    · exact cKep_fr h12₁ (fun b₁ q1₁ q2₁ => g₁ b₁ (by omega) (by omega) (by omega) (by omega) ) (fun b₁ q1₁ q2₁ => gl₁ b₁ (by omega) (by omega) ) (g₁ _ (by omega) (by omega) (by omega) (by omega) ) (g₁ _ (by omega) (by omega) (by omega) (by omega) ) (g₁ _ (by omega) (by omega) (by omega) (by omega) ) (gl₁ _ (by omega) (by omega) )
    · exact cMis_fr h13₁ (fun b₁ q1₁ q2₁ => g₁ b₁ (by omega) (by omega) (by omega) (by omega) ) (by rw [g₁ _ (by omega) (by omega) (by omega) (by omega) ])
  · have m1₁ : ∀ b₁, m₁ ≤ b₁ → J1₁ b₁ = I₁ b₁ := fun b₁ q₁ => b1₁ b₁ (by omega) (by omega) (by omega)
    have ml₁ : ∀ b₁, m₁ ≤ b₁ → M1₁ b₁ = L₁ b₁ := fun b₁ q₁ => gl1₁ b₁ (by omega)
    refine r_sentence hM₁ t1₁ t2₁ (fun i₁ hi₁ => by rw [m1₁ _ (by omega)]; exact t6₁ i₁ hi₁) (by rw [m1₁ _ (Nat.le_refl _)]; exact t4₁) (NMN_m hN2₁ (m1₁ _ (by omega)) (ml₁ _ (by omega))) (fun k2₁ pl2₁ ep2₁ J2₁ M2₁ _ _ _ _ => absurd (ep₁.symm.trans ep2₁) (fun w₁ => nomatch w₁)) (fun l2₁ k2₁ ep2₁ J2₁ M2₁ t₁ u2₁ a1₁ a2₁ a3₁ a4₁ q10₁ q2₁ f2₁ => ?_)
    have e9₁ := Sum.inr.inj (ep₁.symm.trans ep2₁)
    obtain ⟨e1₁, e2₁⟩ := Prod.mk.inj e9₁
    subst e1₁ e2₁
    have uu₁ : ∀ y₁, y₁ < 425 ∨ 667 ≤ y₁ → J2₁ (m₁ + 2) y₁ = I₁ (m₁ + 2) y₁ := fun y₁ hy₁ => by rw [u2₁ y₁ hy₁, m1₁ _ (by omega)]
    have ag₁ : agU₁ (J2₁ (m₁ + 2)) (I₁ (m₁ + 2)) := fun k₁ hk₁ => uu₁ k₁ (by omega)
    have c₁ : ∀ b₁, b₁ < m₁ → J2₁ b₁ = J1₁ b₁ := fun b₁ q₁ => f2₁.1 b₁ (by omega) (by omega) (by omega)
    have mv₁ : ∀ k₁, k₁ < 83 → macV (J2₁ (m₁ + 2)) k₁ = macV (I₁ (m₁ + 2)) k₁ := fun k₁ hk₁ => uu₁ (342 + k₁) (by omega)
    have g₁ : ∀ b₁, b₁ ≠ x₁ + 1 → b₁ < x₁ + 31 ∨ x₁ + 34 < b₁ → b₁ < x₁ + 53 ∨ x₁ + 57 < b₁ → b₁ ≠ m₁ → b₁ ≠ m₁ + 2 → b₁ ≠ m₁ + 25 → J2₁ b₁ = I₁ b₁ := fun b₁ z1₁ z2₁ z3₁ z4₁ z5₁ z6₁ => by rw [f2₁.1 b₁ z4₁ z5₁ z6₁, b1₁ b₁ z1₁ z2₁ z3₁]
    have gm₁ : ∀ y₁, 13 < y₁ → y₁ ≠ 54 → y₁ ≠ 55 → y₁ ≠ 56 → y₁ ≠ 57 → J2₁ m₁ y₁ = I₁ m₁ y₁ := fun y₁ z1₁ z2₁ z3₁ z4₁ z5₁ => by rw [f2₁.2.1 y₁ z1₁ z2₁ z3₁ z4₁ z5₁, m1₁ _ (Nat.le_refl _)]
    have gl₁ : ∀ b₁, b₁ ≠ x₁ + 1 → b₁ ≠ m₁ → M2₁ b₁ = L₁ b₁ := fun b₁ z1₁ z2₁ => by rw [f2₁.2.2 b₁ z2₁, gl1₁ b₁ z1₁]
    refine ⟨rfl, B₁, 0, NM₁, o₁, p₁, l1₁, nc₁, nt₁, np₁, nu₁, h1₁, ?_, ?_, ?_, ?_, ?_, ?_, ?_, ?_, ?_, ?_, ?_, ?_⟩
    · refine ⟨t1₁, by omega, by rw [c₁ _ (by omega)]; exact j1₁, q2₁, fun i₁ hi₁ => absurd hi₁ (Nat.not_lt_zero i₁), fun i₁ hi₁ => absurd hi₁ (Nat.not_lt_zero i₁), ?_⟩
      rw [c₁ _ (by omega), j10₁, q10₁]
    · exact cUni_fr h3₁ (fun b₁ q1₁ q2₁ => g₁ b₁ (by omega) (by omega) (by omega) (by omega) (by omega) (by omega)) (fun b₁ q1₁ q2₁ => gl₁ b₁ (by omega) (by omega)) ag₁ (gl₁ _ (by omega) (by omega))
    · exact ⟨MACD_cg (MACD_fr hV₁ (fun b₁ q₁ => g₁ b₁ (by omega) (by omega) (by omega) (by omega) (by omega) (by omega))) mv₁, WFv_bl (WFv_ag ag₁ hv₁) mv₁⟩
    · exact cHis_fr h5₁ (fun k₁ hk₁ => (hp₁ k₁ hk₁).1) (by rw [g₁ _ (by omega) (by omega) (by omega) (by omega) (by omega) (by omega)]) (gm₁ _ (by decide) (by decide) (by decide) (by decide) (by decide)) (g₁ _ (by omega) (by omega) (by omega) (by omega) (by omega) (by omega)) (fun b₁ q1₁ q2₁ => g₁ b₁ (by omega) (by omega) (by omega) (by omega) (by omega) (by omega)) ag₁
    · exact cCha_fr h6₁ (g₁ _ (by omega) (by omega) (by omega) (by omega) (by omega) (by omega) ) (g₁ _ (by omega) (by omega) (by omega) (by omega) (by omega) (by omega) ) (gm₁ _ (by decide) (by decide) (by decide) (by decide) (by decide) ) (g₁ _ (by omega) (by omega) (by omega) (by omega) (by omega) (by omega) ) (g₁ _ (by omega) (by omega) (by omega) (by omega) (by omega) (by omega) )
    · exact cTag_fr h7₁ (g₁ _ (by omega) (by omega) (by omega) (by omega) (by omega) (by omega) ) (g₁ _ (by omega) (by omega) (by omega) (by omega) (by omega) (by omega) ) (gm₁ _ (by decide) (by decide) (by decide) (by decide) (by decide) ) (g₁ _ (by omega) (by omega) (by omega) (by omega) (by omega) (by omega) )
    · exact cPak_fr h8₁ (g₁ _ (by omega) (by omega) (by omega) (by omega) (by omega) (by omega) ) (g₁ _ (by omega) (by omega) (by omega) (by omega) (by omega) (by omega) ) (gm₁ _ (by decide) (by decide) (by decide) (by decide) (by decide) ) (g₁ _ (by omega) (by omega) (by omega) (by omega) (by omega) (by omega) )
    · exact cUnp_fr h9₁ (by rw [g₁ _ (by omega) (by omega) (by omega) (by omega) (by omega) (by omega) ]) (g₁ _ (by omega) (by omega) (by omega) (by omega) (by omega) (by omega) ) (g₁ _ (by omega) (by omega) (by omega) (by omega) (by omega) (by omega) ) (gm₁ _ (by decide) (by decide) (by decide) (by decide) (by decide) ) (g₁ _ (by omega) (by omega) (by omega) (by omega) (by omega) (by omega) ) (g₁ _ (by omega) (by omega) (by omega) (by omega) (by omega) (by omega) )
    · exact cTol_fr h10₁ (g₁ _ (by omega) (by omega) (by omega) (by omega) (by omega) (by omega) ) (g₁ _ (by omega) (by omega) (by omega) (by omega) (by omega) (by omega) ) (gm₁ _ (by decide) (by decide) (by decide) (by decide) (by decide) ) (g₁ _ (by omega) (by omega) (by omega) (by omega) (by omega) (by omega) )
    · exact ⟨SED_fr sd₁ (fun b₁ z1₁ z2₁ => c₁ b₁ (by omega)), Or.inr ⟨by rw [a1₁]; decide, t₁, a2₁, a3₁, a4₁⟩⟩
    · exact cKep_fr h12₁ (fun b₁ q1₁ q2₁ => g₁ b₁ (by omega) (by omega) (by omega) (by omega) (by omega) (by omega) ) (fun b₁ q1₁ q2₁ => gl₁ b₁ (by omega) (by omega) ) (g₁ _ (by omega) (by omega) (by omega) (by omega) (by omega) (by omega) ) (g₁ _ (by omega) (by omega) (by omega) (by omega) (by omega) (by omega) ) (g₁ _ (by omega) (by omega) (by omega) (by omega) (by omega) (by omega) ) (gl₁ _ (by omega) (by omega) )
    · exact cMis_fr h13₁ (fun b₁ q1₁ q2₁ => g₁ b₁ (by omega) (by omega) (by omega) (by omega) (by omega) (by omega) ) (by rw [g₁ _ (by omega) (by omega) (by omega) (by omega) (by omega) (by omega) ])
end CU₁
