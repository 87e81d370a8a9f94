/-! ===== class and reference beside one another: the tape, chains, programs, tags ===== -/
section CM₁
variable {K₁ N₁ : MK} {I₁ J₁ : MI} {L₁ M₁ : ML} {R₁ : MR} {x₁ m₁ : Nat} {a₁ b₁ c₁ d₁ e₁ : Int32}
theorem hu4₁ {U₁ : Nat → Int32} {W₁ : Nat → Int64} {k₁ : Nat} (h₁ : UD I₁ L₁ (x₁ + 3) U₁ W₁) (hk₁ : k₁ < ix (U₁ 4)) : nmR (L₁ (x₁ + 14) k₁) (W₁ (16 + k₁)) := (h₁.2.2.2.2.1.2 k₁ hk₁).2.2
theorem hu2₁ {U₁ : Nat → Int32} {W₁ : Nat → Int64} {k₁ : Nat} (h₁ : UD I₁ L₁ (x₁ + 3) U₁ W₁) (hk₁ : k₁ < ix (U₁ 2)) : nmR (L₁ (x₁ + 8) k₁) (W₁ k₁) := (h₁.2.2.1.2 k₁ hk₁).2.2.2.2
theorem cs_feed (h₁ : CPL₁ K₁ N₁ I₁ L₁ R₁ x₁ m₁) : w_X11_feed x₁ a₁ b₁ c₁ d₁ e₁ K₁ N₁ I₁ L₁ R₁ (fun r₁ I1₁ => w_X12_feed m₁ a₁ b₁ c₁ d₁ e₁ K₁ N₁ I1₁ L₁ R₁ (fun r2₁ J₁ => r₁ = r2₁ ∧ CPL₁ K₁ N₁ J₁ L₁ R₁ x₁ m₁)) := by
  obtain ⟨hX₁, hM₁, hx₁, -⟩ := cpG₁ h₁
  have hC₁ := h₁
  obtain ⟨B₁, n₁, NM₁, o₁, p₁, l₁, nc₁, nt₁, np₁, nu₁, h1₁, ⟨t1₁, t2₁, t3₁, t4₁, t5₁, t6₁, t7₁⟩, h3₁, h4₁, h5₁, h6₁, h7₁, h8₁, h9₁, h10₁, h11₁, h12₁, h13₁⟩ := hC₁
  have hp₁ := h1₁.2.2.2.1.1
  refine s_feed hX₁ t3₁ t2₁ t5₁ (fun z₁ => r_feed hM₁ t4₁ t2₁ t6₁ (fun _ => ⟨rfl, CPL_0 h₁⟩) (fun y₁ => absurd y₁ z₁)) (fun z₁ J1₁ e1₁ tp1₁ b1₁ y1₁ => ?_)
  have m1₁ : ∀ b₁, m₁ ≤ b₁ → J1₁ b₁ = I₁ b₁ := fun b₁ q₁ => b1₁ b₁ (by omega) (by omega)
  refine r_feed hM₁ (by rw [m1₁ _ (Nat.le_refl _)]; exact t4₁) t2₁ (fun i₁ hi₁ => by rw [m1₁ _ (by omega)]; exact t6₁ i₁ hi₁) (fun y₁ => absurd z₁ y₁) (fun _ J2₁ e2₁ tp2₁ b2₁ y2₁ => ⟨rfl, ?_⟩)
  have g₁ : ∀ b₁, b₁ ≠ x₁ + 1 → b₁ ≠ x₁ + 2 → b₁ ≠ m₁ → b₁ ≠ m₁ + 1 → J2₁ b₁ = I₁ b₁ := fun b₁ q1₁ q2₁ q3₁ q4₁ => by rw [b2₁ b₁ q3₁ q4₁, b1₁ b₁ q1₁ q2₁]
  have gm₁ : ∀ y₁, y₁ ≠ 2 → y₁ ≠ 0 → J2₁ m₁ y₁ = I₁ m₁ y₁ := fun y₁ q1₁ q2₁ => by rw [y2₁ y₁ q1₁ q2₁, m1₁ _ (Nat.le_refl _)]
  refine ⟨fdB₁ B₁ n₁ a₁ b₁ c₁ d₁ e₁, n₁ + 20, NM₁, o₁, p₁, l₁, nc₁, nt₁, np₁, nu₁, h1₁, ⟨?_, z₁, ?_, e2₁, ?_, tp2₁, ?_⟩, ?_, ?_, ?_, ?_, ?_, ?_, ?_, ?_, ?_, ?_, ?_⟩
  · exact apB_lt (apB_lt (apB_lt (apB_lt (apB_lt t1₁))))
  · rw [b2₁ _ (by omega) (by omega)]; exact e1₁
  · intro i₁ hi₁
    rw [b2₁ _ (by omega) (by omega)]; exact tp1₁ i₁ hi₁
  · rw [b2₁ _ (by omega) (by omega), y1₁ 10 (by decide), gm₁ 10 (by decide) (by decide)]; exact t7₁
  · exact cUni_fr h3₁ (fun b₁ q1₁ q2₁ => g₁ b₁ (by omega) (by omega) (by omega) (by omega)) (fun _ _ _ => rfl) (ag_r (g₁ _ (by omega) (by omega) (by omega) (by omega))) rfl
  · exact cMac_fr h4₁ (fun b₁ q1₁ q2₁ => g₁ b₁ (by omega) (by omega) (by omega) (by omega)) (g₁ _ (by omega) (by omega) (by omega) (by omega))
  · exact cHis_fr h5₁ (fun k₁ hk₁ => (hp₁ k₁ hk₁).1) (by rw [g₁ _ (by omega) (by omega) (by omega) (by omega)]) (gm₁ _ (by decide) (by decide)) (g₁ _ (by omega) (by omega) (by omega) (by omega)) (fun b₁ q1₁ q2₁ => g₁ b₁ (by omega) (by omega) (by omega) (by omega)) (ag_r (g₁ _ (by omega) (by omega) (by omega) (by omega)))
  · exact cCha_fr h6₁ (g₁ _ (by omega) (by omega) (by omega) (by omega)) (g₁ _ (by omega) (by omega) (by omega) (by omega)) (gm₁ _ (by decide) (by decide)) (g₁ _ (by omega) (by omega) (by omega) (by omega)) (g₁ _ (by omega) (by omega) (by omega) (by omega))
  · exact cTag_fr h7₁ (g₁ _ (by omega) (by omega) (by omega) (by omega)) (g₁ _ (by omega) (by omega) (by omega) (by omega)) (gm₁ _ (by decide) (by decide)) (g₁ _ (by omega) (by omega) (by omega) (by omega))
  · exact cPak_fr h8₁ (g₁ _ (by omega) (by omega) (by omega) (by omega)) (g₁ _ (by omega) (by omega) (by omega) (by omega)) (gm₁ _ (by decide) (by decide)) (g₁ _ (by omega) (by omega) (by omega) (by omega))
  · exact cUnp_fr h9₁ (by rw [g₁ _ (by omega) (by omega) (by omega) (by omega)]) (g₁ _ (by omega) (by omega) (by omega) (by omega)) (g₁ _ (by omega) (by omega) (by omega) (by omega)) (gm₁ _ (by decide) (by decide)) (g₁ _ (by omega) (by omega) (by omega) (by omega)) (g₁ _ (by omega) (by omega) (by omega) (by omega))
  · exact cTol_fr h10₁ (g₁ _ (by omega) (by omega) (by omega) (by omega)) (g₁ _ (by omega) (by omega) (by omega) (by omega)) (gm₁ _ (by decide) (by decide)) (g₁ _ (by omega) (by omega) (by omega) (by omega))
  · exact cSen_fr h11₁ (by rw [g₁ _ (by omega) (by omega) (by omega) (by omega)]) (fun b₁ q1₁ q2₁ => g₁ b₁ (by omega) (by omega) (by omega) (by omega)) (fun y₁ _ _ => by rw [g₁ _ (by omega) (by omega) (by omega) (by omega)])
  · exact cKep_fr h12₁ (fun b₁ q1₁ q2₁ => g₁ b₁ (by omega) (by omega) (by omega) (by omega)) (fun _ _ _ => rfl) (g₁ _ (by omega) (by omega) (by omega) (by omega)) (g₁ _ (by omega) (by omega) (by omega) (by omega)) (g₁ _ (by omega) (by omega) (by omega) (by omega)) rfl
  · exact cMis_fr h13₁ (fun b₁ q1₁ q2₁ => g₁ b₁ (by omega) (by omega) (by omega) (by omega)) (by rw [g₁ _ (by omega) (by omega) (by omega) (by omega)])
theorem cs_end (h₁ : CPL₁ K₁ N₁ I₁ L₁ R₁ x₁ m₁) : w_X11_end x₁ a₁ K₁ N₁ I₁ L₁ R₁ (fun r₁ I1₁ => w_X12_end m₁ a₁ K₁ N₁ I1₁ L₁ R₁ (fun r2₁ J₁ => r₁ = r2₁ ∧ CPL₁ K₁ N₁ J₁ L₁ R₁ x₁ m₁)) := by
  obtain ⟨hX₁, hM₁, hx₁, ⟨W₁, hu₁⟩, hW₁, hV₁, hv₁⟩ := cpG₁ h₁
  have hC₁ := h₁
  obtain ⟨B₁, n₁, NM₁, o₁, p₁, l₁, nc₁, nt₁, np₁, nu₁, h1₁, h2₁, h3₁, h4₁, h5₁, h6₁, h7₁, h8₁, h9₁, h10₁, h11₁, h12₁, h13₁⟩ := hC₁
  have hp₁ := h1₁.2.2.2.1.1
  obtain ⟨t1₁, t2₁, t3₁, t4₁, t5₁, t6₁, t7₁⟩ := h2₁
  refine s_end hX₁ t3₁ t2₁ (fun z₁ => r_end hM₁ t4₁ t2₁ (fun _ => ⟨rfl, CPL_0 h₁⟩) (fun j₁ e₁ y₁ => absurd y₁ (z₁ j₁ e₁))) (fun j₁ e₁ hj₁ => ?_)
  have m1₁ : ∀ b₁, b₁ ≠ x₁ + 1 → mup I₁ (x₁ + 1) 1 (nI j₁) b₁ = I₁ b₁ := fun b₁ q₁ => mup_ne q₁
  have y1₁ : ∀ y₁, y₁ ≠ 1 → mup I₁ (x₁ + 1) 1 (nI j₁) (x₁ + 1) y₁ = I₁ (x₁ + 1) y₁ := fun y₁ q₁ => mup_k q₁
  have e1₁ : mup I₁ (x₁ + 1) 1 (nI j₁) (x₁ + 1) 1 = nI j₁ := mup_at
  generalize mup I₁ (x₁ + 1) 1 (nI j₁) = J1₁ at m1₁ y1₁ e1₁
  refine r_end hM₁ (by rw [m1₁ _ (by omega)]; exact t4₁) t2₁ (fun z₁ => absurd hj₁ (z₁ j₁ e₁)) (fun j2₁ e2₁ hj2₁ => ⟨rfl, ?_⟩)
  have ej₁ : j₁ = j2₁ := by
    rw [e₁] at e2₁
    rw [eqN (by omega) (by omega)] at e2₁; exact e2₁
  subst ej₁
  have b2₁ : ∀ b₁, b₁ ≠ m₁ → mup (mup J1₁ m₁ 0 0) m₁ 2 (nI j₁) b₁ = J1₁ b₁ := fun b₁ q₁ => by rw [mup_ne q₁, mup_ne q₁]
  have y2₁ : ∀ y₁, y₁ ≠ 2 → y₁ ≠ 0 → mup (mup J1₁ m₁ 0 0) m₁ 2 (nI j₁) m₁ y₁ = J1₁ m₁ y₁ := fun y₁ q1₁ q2₁ => by rw [mup_k q1₁, mup_k q2₁]
  have e3₁ : mup (mup J1₁ m₁ 0 0) m₁ 2 (nI j₁) m₁ 2 = nI j₁ := mup_at
  generalize mup (mup J1₁ m₁ 0 0) m₁ 2 (nI j₁) = J2₁ at b2₁ y2₁ e3₁
  have g₁ : ∀ b₁, b₁ ≠ x₁ + 1 → b₁ ≠ m₁ → J2₁ b₁ = I₁ b₁ := fun b₁ q1₁ q2₁ => by rw [b2₁ b₁ q2₁, m1₁ b₁ q1₁]
  have gm₁ : ∀ y₁, y₁ ≠ 2 → y₁ ≠ 0 → J2₁ m₁ y₁ = I₁ m₁ y₁ := fun y₁ q1₁ q2₁ => by rw [y2₁ y₁ q1₁ q2₁, m1₁ _ (by omega)]
  refine ⟨B₁, j₁, NM₁, o₁, p₁, l₁, nc₁, nt₁, np₁, nu₁, h1₁, ?_, ?_, ?_, ?_, ?_, ?_, ?_, ?_, ?_, ?_, ?_, ?_⟩
  · refine ⟨t1₁, by omega, by rw [b2₁ _ (by omega)]; exact e1₁, e3₁, fun i₁ hi₁ => ?_, fun i₁ hi₁ => ?_, ?_⟩
    · rw [g₁ _ (by omega) (by omega)]; exact t5₁ i₁ (by omega)
    · rw [g₁ _ (by omega) (by omega)]; exact t6₁ i₁ (by omega)
    · rw [b2₁ _ (by omega), y1₁ 10 (by decide), gm₁ 10 (by decide) (by decide)]; exact t7₁
  · exact cUni_fr h3₁ (fun b₁ q1₁ q2₁ => g₁ b₁ (by omega) (by omega) ) (fun _ _ _ => rfl) (ag_r (g₁ _ (by omega) (by omega) )) rfl
  · exact cMac_fr h4₁ (fun b₁ q1₁ q2₁ => g₁ b₁ (by omega) (by omega) ) (g₁ _ (by omega) (by omega) )
  · exact cHis_fr h5₁ (fun k₁ hk₁ => (hp₁ k₁ hk₁).1) (by rw [g₁ _ (by omega) (by omega) ]) (gm₁ _ (by decide) (by decide) ) (g₁ _ (by omega) (by omega) ) (fun b₁ q1₁ q2₁ => g₁ b₁ (by omega) (by omega) ) (ag_r (g₁ _ (by omega) (by omega) ))
  · exact cCha_fr h6₁ (g₁ _ (by omega) (by omega) ) (g₁ _ (by omega) (by omega) ) (gm₁ _ (by decide) (by decide) ) (g₁ _ (by omega) (by omega) ) (g₁ _ (by omega) (by omega) )
  · exact cTag_fr h7₁ (g₁ _ (by omega) (by omega) ) (g₁ _ (by omega) (by omega) ) (gm₁ _ (by decide) (by decide) ) (g₁ _ (by omega) (by omega) )
  · exact cPak_fr h8₁ (g₁ _ (by omega) (by omega) ) (g₁ _ (by omega) (by omega) ) (gm₁ _ (by decide) (by decide) ) (g₁ _ (by omega) (by omega) )
  · exact cUnp_fr h9₁ (by rw [g₁ _ (by omega) (by omega) ]) (g₁ _ (by omega) (by omega) ) (g₁ _ (by omega) (by omega) ) (gm₁ _ (by decide) (by decide) ) (g₁ _ (by omega) (by omega) ) (g₁ _ (by omega) (by omega) )
  · exact cTol_fr h10₁ (g₁ _ (by omega) (by omega) ) (g₁ _ (by omega) (by omega) ) (gm₁ _ (by decide) (by decide) ) (g₁ _ (by omega) (by omega) )
  · exact cSen_fr h11₁ (by rw [g₁ _ (by omega) (by omega) ]) (fun b₁ q1₁ q2₁ => g₁ b₁ (by omega) (by omega) ) (fun y₁ _ _ => by rw [g₁ _ (by omega) (by omega) ])
  · exact cKep_fr h12₁ (fun b₁ q1₁ q2₁ => g₁ b₁ (by omega) (by omega) ) (fun _ _ _ => rfl) (g₁ _ (by omega) (by omega) ) (g₁ _ (by omega) (by omega) ) (g₁ _ (by omega) (by omega) ) rfl
  · exact cMis_fr h13₁ (fun b₁ q1₁ q2₁ => g₁ b₁ (by omega) (by omega) ) (by rw [g₁ _ (by omega) (by omega) ])
theorem cs_chain (h₁ : CPL₁ K₁ N₁ I₁ L₁ R₁ x₁ m₁) : w_X11_chain x₁ a₁ K₁ N₁ I₁ L₁ R₁ (fun r₁ I1₁ L1₁ => w_X12_chain m₁ a₁ K₁ N₁ I1₁ L1₁ R₁ (fun r2₁ J₁ => r₁ = r2₁ ∧ CPL₁ K₁ N₁ J₁ L1₁ R₁ x₁ m₁)) := by
  obtain ⟨hX₁, hM₁, hx₁, ⟨W₁, hu₁⟩, hW₁, hV₁, hv₁⟩ := cpG₁ h₁
  have hC₁ := h₁
  obtain ⟨B₁, n₁, NM₁, o₁, p₁, l₁, nc₁, nt₁, np₁, nu₁, h1₁, h2₁, h3₁, h4₁, h5₁, h6₁, h7₁, h8₁, h9₁, h10₁, h11₁, h12₁, h13₁⟩ := hC₁
  have hp₁ := h1₁.2.2.2.1.1
  refine s_chain hX₁ hu₁ hW₁.1 hW₁.2.1 hW₁.2.2.1 h6₁.2.1 (fun z₁ => r_chain hM₁ hW₁.1 hW₁.2.2.1 (fun _ => ⟨rfl, CPL_0 h₁⟩) (fun y₁ => absurd (z₁.symm.trans y₁) (by decide))) (fun z₁ J1₁ M1₁ k₁ hk₁ e1₁ e2₁ td₁ ce₁ b1₁ gl₁ => ?_)
  have u1₁ : J1₁ (m₁ + 2) = I₁ (m₁ + 2) := b1₁ _ (by omega) (by omega)
  refine r_chain hM₁ (by rw [u1₁]; exact hW₁.1) (by rw [u1₁]; exact hW₁.2.2.1) (fun y₁ => ?_) (fun _ J2₁ k2₁ ch₁ b2₁ => ?_)
  · rw [u1₁] at y₁; exact absurd (z₁.symm.trans y₁) (by decide)
  rw [u1₁] at ch₁
  obtain ⟨q1₁, q2₁, q3₁, q4₁, q5₁⟩ := ch₁
  have ek₁ : k₁ = k2₁ := by
    rcases Nat.lt_trichotomy k₁ k2₁ with w₁ | w₁ | w₁
    · exact absurd e1₁ (q3₁ k₁ w₁)
    · exact w₁
    · exact absurd q2₁ (e2₁ k2₁ w₁)
  subst ek₁
  have g₁ : ∀ b₁, b₁ ≠ x₁ + 77 → b₁ ≠ x₁ + 79 → b₁ ≠ m₁ → b₁ ≠ m₁ + 12 → b₁ ≠ m₁ + 13 → J2₁ b₁ = I₁ b₁ := fun b₁ z1₁ z2₁ z3₁ z4₁ z5₁ => by
    rw [← b1₁ b₁ z1₁ z2₁]
    funext y₁
    exact b2₁ b₁ y₁ z4₁ z5₁ (fun w₁ => z3₁ w₁.1)
  have gm₁ : ∀ y₁, y₁ ≠ 28 → y₁ ≠ 0 → J2₁ m₁ y₁ = I₁ m₁ y₁ := fun y₁ z1₁ z2₁ => by rw [b2₁ m₁ y₁ (by omega) (by omega) (fun w₁ => w₁.2.elim z1₁ z2₁), b1₁ _ (by omega) (by omega)]
  have b77₁ : ∀ b₁, b₁ = x₁ + 77 ∨ b₁ = x₁ + 77 + 2 → J2₁ b₁ = J1₁ b₁ := fun b₁ q₁ => by
    funext y₁
    exact b2₁ b₁ y₁ (by omega) (by omega) (fun w₁ => by omega)
  refine ⟨rfl, B₁, n₁, NM₁, o₁, p₁, l₁, k₁, nt₁, np₁, nu₁, h1₁, ?_, ?_, ?_, ?_, ?_, ?_, ?_, ?_, ?_, ?_, ?_, ?_⟩
  · exact cTok_fr h2₁ (by rw [g₁ _ (by omega) (by omega) (by omega) (by omega) (by omega) ]) (by rw [g₁ _ (by omega) (by omega) (by omega) (by omega) (by omega) ]) (gm₁ _ (by decide) (by decide) ) (gm₁ _ (by decide) (by decide) ) (g₁ _ (by omega) (by omega) (by omega) (by omega) (by omega) ) (g₁ _ (by omega) (by omega) (by omega) (by omega) (by omega) )
  · exact cUni_fr h3₁ (fun b₁ q1₁ q2₁ => g₁ b₁ (by omega) (by omega) (by omega) (by omega) (by omega) ) (fun b₁ q1₁ q2₁ => gl₁ b₁ (by omega) ) (ag_r (g₁ _ (by omega) (by omega) (by omega) (by omega) (by omega) )) (gl₁ _ (by omega) )
  · exact cMac_fr h4₁ (fun b₁ q1₁ q2₁ => g₁ b₁ (by omega) (by omega) (by omega) (by omega) (by omega) ) (g₁ _ (by omega) (by omega) (by omega) (by omega) (by omega) )
  · exact cHis_fr h5₁ (fun k₁ hk₁ => (hp₁ k₁ hk₁).1) (by rw [g₁ _ (by omega) (by omega) (by omega) (by omega) (by omega) ]) (gm₁ _ (by decide) (by decide) ) (g₁ _ (by omega) (by omega) (by omega) (by omega) (by omega) ) (fun b₁ q1₁ q2₁ => g₁ b₁ (by omega) (by omega) (by omega) (by omega) (by omega) ) (ag_r (g₁ _ (by omega) (by omega) (by omega) (by omega) (by omega) ))
  · refine ⟨hk₁, TD_ag td₁ (b77₁ _ (Or.inl rfl)), q4₁, fun j₁ hj₁ => ?_⟩
    rw [b77₁ _ (Or.inr rfl), (ce₁ j₁ hj₁).1, (ce₁ j₁ hj₁).2, (q5₁ j₁ hj₁).1, (q5₁ j₁ hj₁).2]
    exact ⟨rfl, rfl⟩
  · exact cTag_fr h7₁ (g₁ _ (by omega) (by omega) (by omega) (by omega) (by omega) ) (g₁ _ (by omega) (by omega) (by omega) (by omega) (by omega) ) (gm₁ _ (by decide) (by decide) ) (g₁ _ (by omega) (by omega) (by omega) (by omega) (by omega) )
  · exact cPak_fr h8₁ (g₁ _ (by omega) (by omega) (by omega) (by omega) (by omega) ) (g₁ _ (by omega) (by omega) (by omega) (by omega) (by omega) ) (gm₁ _ (by decide) (by decide) ) (g₁ _ (by omega) (by omega) (by omega) (by omega) (by omega) )
  · exact cUnp_fr h9₁ (by rw [g₁ _ (by omega) (by omega) (by omega) (by omega) (by omega) ]) (g₁ _ (by omega) (by omega) (by omega) (by omega) (by omega) ) (g₁ _ (by omega) (by omega) (by omega) (by omega) (by omega) ) (gm₁ _ (by decide) (by decide) ) (g₁ _ (by omega) (by omega) (by omega) (by omega) (by omega) ) (g₁ _ (by omega) (by omega) (by omega) (by omega) (by omega) )
  · exact cTol_fr h10₁ (g₁ _ (by omega) (by omega) (by omega) (by omega) (by omega) ) (g₁ _ (by omega) (by omega) (by omega) (by omega) (by omega) ) (gm₁ _ (by decide) (by decide) ) (g₁ _ (by omega) (by omega) (by omega) (by omega) (by omega) )
  · exact cSen_fr h11₁ (by rw [g₁ _ (by omega) (by omega) (by omega) (by omega) (by omega) ]) (fun b₁ q1₁ q2₁ => g₁ b₁ (by omega) (by omega) (by omega) (by omega) (by omega) ) (fun y₁ _ _ => by rw [g₁ _ (by omega) (by omega) (by omega) (by omega) (by omega) ])
  · exact cKep_fr h12₁ (fun b₁ q1₁ q2₁ => g₁ b₁ (by omega) (by omega) (by omega) (by omega) (by omega) ) (fun b₁ q1₁ q2₁ => gl₁ b₁ (by omega) ) (g₁ _ (by omega) (by omega) (by omega) (by omega) (by omega) ) (g₁ _ (by omega) (by omega) (by omega) (by omega) (by omega) ) (g₁ _ (by omega) (by omega) (by omega) (by omega) (by omega) ) (gl₁ _ (by omega) )
  · exact cMis_fr h13₁ (fun b₁ q1₁ q2₁ => g₁ b₁ (by omega) (by omega) (by omega) (by omega) (by omega) ) (by rw [g₁ _ (by omega) (by omega) (by omega) (by omega) (by omega) ])
theorem cs_packed (h₁ : CPL₁ K₁ N₁ I₁ L₁ R₁ x₁ m₁) : w_X11_packed x₁ K₁ N₁ I₁ L₁ R₁ (fun r₁ I1₁ L1₁ => w_X12_packed m₁ K₁ N₁ I1₁ L1₁ R₁ (fun r2₁ J₁ => r₁ = r2₁ ∧ CPL₁ K₁ N₁ J₁ L1₁ R₁ x₁ m₁)) := by
  obtain ⟨hX₁, hM₁, hx₁, ⟨W₁, hu₁⟩, hW₁, hV₁, hv₁⟩ := cpG₁ h₁
  have hC₁ := h₁
  obtain ⟨B₁, n₁, NM₁, o₁, p₁, l₁, nc₁, nt₁, np₁, nu₁, h1₁, h2₁, h3₁, h4₁, h5₁, h6₁, h7₁, h8₁, h9₁, h10₁, h11₁, h12₁, h13₁⟩ := hC₁
  have hp₁ := h1₁.2.2.2.1.1
  refine s_packed hX₁ hu₁.2.1 hW₁.1 hW₁.2.1 h8₁.2.1.1 (fun J1₁ M1₁ ps₁ f1₁ => ?_)
  have u1₁ : J1₁ (m₁ + 2) = I₁ (m₁ + 2) := f1₁.1 _ (by omega) (by omega) (by omega)
  refine r_packed hM₁ u1₁ hW₁.1 hW₁.2.1 (fun J2₁ rp₁ b2₁ y2₁ => ⟨rfl, ?_⟩)
  have g₁ : ∀ b₁, b₁ ≠ x₁ + 63 → b₁ ≠ x₁ + 64 → b₁ ≠ x₁ + 66 → b₁ ≠ m₁ → b₁ ≠ m₁ + 15 → b₁ ≠ m₁ + 16 → b₁ ≠ m₁ + 17 → J2₁ b₁ = I₁ b₁ := fun b₁ z1₁ z2₁ z3₁ z4₁ z5₁ z6₁ z7₁ => by rw [b2₁ b₁ z4₁ z5₁ z6₁ z7₁, f1₁.1 b₁ z1₁ z2₁ z3₁]
  have gm₁ : ∀ y₁, y₁ ≠ 0 → y₁ ≠ 35 → y₁ ≠ 36 → y₁ ≠ 37 → J2₁ m₁ y₁ = I₁ m₁ y₁ := fun y₁ z1₁ z2₁ z3₁ z4₁ => by rw [y2₁ y₁ z1₁ z2₁ z3₁ z4₁, f1₁.1 _ (by omega) (by omega) (by omega)]
  have gl₁ := f1₁.2
  refine ⟨B₁, n₁, NM₁, o₁, p₁, l₁, nc₁, nt₁, (pkS₁ (I₁ (m₁ + 2))).length, nu₁, h1₁, ?_, ?_, ?_, ?_, ?_, ?_, ?_, ?_, ?_, ?_, ?_, ?_⟩
  · exact cTok_fr h2₁ (by rw [g₁ _ (by omega) (by omega) (by omega) (by omega) (by omega) (by omega) (by omega) ]) (by rw [g₁ _ (by omega) (by omega) (by omega) (by omega) (by omega) (by omega) (by omega) ]) (gm₁ _ (by decide) (by decide) (by decide) (by decide) ) (gm₁ _ (by decide) (by decide) (by decide) (by decide) ) (g₁ _ (by omega) (by omega) (by omega) (by omega) (by omega) (by omega) (by omega) ) (g₁ _ (by omega) (by omega) (by omega) (by omega) (by omega) (by omega) (by omega) )
  · exact cUni_fr h3₁ (fun b₁ q1₁ q2₁ => g₁ b₁ (by omega) (by omega) (by omega) (by omega) (by omega) (by omega) (by omega) ) (fun b₁ q1₁ q2₁ => gl₁ b₁ (by omega) ) (ag_r (g₁ _ (by omega) (by omega) (by omega) (by omega) (by omega) (by omega) (by omega) )) (gl₁ _ (by omega) )
  · exact cMac_fr h4₁ (fun b₁ q1₁ q2₁ => g₁ b₁ (by omega) (by omega) (by omega) (by omega) (by omega) (by omega) (by omega) ) (g₁ _ (by omega) (by omega) (by omega) (by omega) (by omega) (by omega) (by omega) )
  · exact cHis_fr h5₁ (fun k₁ hk₁ => (hp₁ k₁ hk₁).1) (by rw [g₁ _ (by omega) (by omega) (by omega) (by omega) (by omega) (by omega) (by omega) ]) (gm₁ _ (by decide) (by decide) (by decide) (by decide) ) (g₁ _ (by omega) (by omega) (by omega) (by omega) (by omega) (by omega) (by omega) ) (fun b₁ q1₁ q2₁ => g₁ b₁ (by omega) (by omega) (by omega) (by omega) (by omega) (by omega) (by omega) ) (ag_r (g₁ _ (by omega) (by omega) (by omega) (by omega) (by omega) (by omega) (by omega) ))
  · exact cCha_fr h6₁ (g₁ _ (by omega) (by omega) (by omega) (by omega) (by omega) (by omega) (by omega) ) (g₁ _ (by omega) (by omega) (by omega) (by omega) (by omega) (by omega) (by omega) ) (gm₁ _ (by decide) (by decide) (by decide) (by decide) ) (g₁ _ (by omega) (by omega) (by omega) (by omega) (by omega) (by omega) (by omega) ) (g₁ _ (by omega) (by omega) (by omega) (by omega) (by omega) (by omega) (by omega) )
  · exact cTag_fr h7₁ (g₁ _ (by omega) (by omega) (by omega) (by omega) (by omega) (by omega) (by omega) ) (g₁ _ (by omega) (by omega) (by omega) (by omega) (by omega) (by omega) (by omega) ) (gm₁ _ (by decide) (by decide) (by decide) (by decide) ) (g₁ _ (by omega) (by omega) (by omega) (by omega) (by omega) (by omega) (by omega) )
  · refine ⟨ps₁.1.2.2, TD_ag ps₁.1 (b2₁ _ (by omega) (by omega) (by omega) (by omega)), rp₁.1, fun j₁ hj₁ => ?_⟩
    rw [b2₁ _ (by omega) (by omega) (by omega) (by omega), ps₁.2 j₁ hj₁]
    exact (rp₁.2 j₁ hj₁).symm
  · exact cUnp_fr h9₁ (by rw [g₁ _ (by omega) (by omega) (by omega) (by omega) (by omega) (by omega) (by omega) ]) (g₁ _ (by omega) (by omega) (by omega) (by omega) (by omega) (by omega) (by omega) ) (g₁ _ (by omega) (by omega) (by omega) (by omega) (by omega) (by omega) (by omega) ) (gm₁ _ (by decide) (by decide) (by decide) (by decide) ) (g₁ _ (by omega) (by omega) (by omega) (by omega) (by omega) (by omega) (by omega) ) (g₁ _ (by omega) (by omega) (by omega) (by omega) (by omega) (by omega) (by omega) )
  · exact cTol_fr h10₁ (g₁ _ (by omega) (by omega) (by omega) (by omega) (by omega) (by omega) (by omega) ) (g₁ _ (by omega) (by omega) (by omega) (by omega) (by omega) (by omega) (by omega) ) (gm₁ _ (by decide) (by decide) (by decide) (by decide) ) (g₁ _ (by omega) (by omega) (by omega) (by omega) (by omega) (by omega) (by omega) )
  · exact cSen_fr h11₁ (by rw [g₁ _ (by omega) (by omega) (by omega) (by omega) (by omega) (by omega) (by omega) ]) (fun b₁ q1₁ q2₁ => g₁ b₁ (by omega) (by omega) (by omega) (by omega) (by omega) (by omega) (by omega) ) (fun y₁ _ _ => by rw [g₁ _ (by omega) (by omega) (by omega) (by omega) (by omega) (by omega) (by omega) ])
  · exact cKep_fr h12₁ (fun b₁ q1₁ q2₁ => g₁ b₁ (by omega) (by omega) (by omega) (by omega) (by omega) (by omega) (by omega) ) (fun b₁ q1₁ q2₁ => gl₁ b₁ (by omega) ) (g₁ _ (by omega) (by omega) (by omega) (by omega) (by omega) (by omega) (by omega) ) (g₁ _ (by omega) (by omega) (by omega) (by omega) (by omega) (by omega) (by omega) ) (g₁ _ (by omega) (by omega) (by omega) (by omega) (by omega) (by omega) (by omega) ) (gl₁ _ (by omega) )
  · exact cMis_fr h13₁ (fun b₁ q1₁ q2₁ => g₁ b₁ (by omega) (by omega) (by omega) (by omega) (by omega) (by omega) (by omega) ) (by rw [g₁ _ (by omega) (by omega) (by omega) (by omega) (by omega) (by omega) (by omega) ])
theorem cs_unpacked (h₁ : CPL₁ K₁ N₁ I₁ L₁ R₁ x₁ m₁) : w_X11_unpacked x₁ K₁ N₁ I₁ L₁ R₁ (fun r₁ I1₁ L1₁ => w_X12_unpacked m₁ K₁ N₁ I1₁ L1₁ R₁ (fun r2₁ J₁ => r₁ = r2₁ ∧ CPL₁ K₁ N₁ J₁ L1₁ R₁ x₁ m₁)) := by
  obtain ⟨hX₁, hM₁, hx₁, ⟨W₁, hu₁⟩, hW₁, hV₁, hv₁⟩ := cpG₁ h₁
  have hC₁ := h₁
  obtain ⟨B₁, n₁, NM₁, o₁, p₁, l₁, nc₁, nt₁, np₁, nu₁, h1₁, h2₁, h3₁, h4₁, h5₁, h6₁, h7₁, h8₁, h9₁, h10₁, h11₁, h12₁, h13₁⟩ := hC₁
  have hp₁ := h1₁.2.2.2.1.1
  obtain ⟨t1₁, t2₁, t3₁, t4₁, t5₁, t6₁, t7₁⟩ := h2₁
  obtain ⟨v1₁, v2₁, v3₁, v4₁, v5₁⟩ := h9₁
  refine s_unpacked hX₁ t3₁ t2₁ t5₁ t1₁ v2₁ v3₁.1 (fun pl₁ ep₁ J1₁ M1₁ w2₁ w67₁ w69₁ e1₁ f1₁ => ?_) (fun rs₁ ep₁ J1₁ M1₁ rw1₁ w2₁ e1₁ f1₁ => ?_)
  · have m1₁ : ∀ b₁, m₁ ≤ b₁ → J1₁ b₁ = I₁ b₁ := fun b₁ q₁ => f1₁.1 b₁ (by omega) (by omega)
    refine r_unpacked hM₁ (by rw [m1₁ _ (Nat.le_refl _)]; exact t4₁) t2₁ (fun i₁ hi₁ => by rw [m1₁ _ (by omega)]; exact t6₁ i₁ hi₁) t1₁ (fun pl2₁ ep2₁ J2₁ e2₁ f2₁ j20₁ j21₁ j43₁ => ?_) (fun rs2₁ ep2₁ J2₁ _ _ _ _ => ?_)
    rotate_left
    · exact absurd (ep₁.symm.trans ep2₁) (fun w₁ => nomatch w₁)
    have e9₁ := Sum.inl.inj (ep₁.symm.trans ep2₁)
    subst e9₁
    have g₁ : ∀ b₁, b₁ ≠ x₁ + 1 → b₁ < x₁ + 63 ∨ x₁ + 72 < b₁ ∨ b₁ = x₁ + 64 ∨ b₁ = x₁ + 66 → b₁ ≠ m₁ → b₁ ≠ m₁ + 18 → b₁ ≠ m₁ + 19 → b₁ ≠ m₁ + 20 → b₁ ≠ m₁ + 21 → J2₁ b₁ = I₁ b₁ := fun b₁ z1₁ z2₁ z3₁ z4₁ z5₁ z6₁ z7₁ => by rw [f2₁.1 b₁ z3₁ z4₁ z5₁ z6₁ z7₁, f1₁.1 b₁ z1₁ z2₁]
    have gm₁ : ∀ y₁, y₁ ≠ 0 → y₁ ≠ 2 → y₁ ≠ 42 → y₁ ≠ 43 → y₁ ≠ 44 → y₁ ≠ 45 → J2₁ m₁ y₁ = I₁ m₁ y₁ := fun y₁ z1₁ z2₁ z3₁ z4₁ z5₁ z6₁ => by rw [f2₁.2 y₁ z1₁ z2₁ z3₁ z4₁ z5₁ z6₁, m1₁ _ (Nat.le_refl _)]
    have gl₁ : ∀ b₁, b₁ ≠ x₁ + 68 → b₁ ≠ x₁ + 71 → M1₁ b₁ = L₁ b₁ := f1₁.2.2
    refine ⟨rfl, B₁, 0, NM₁, o₁, p₁, l₁, nc₁, nt₁, np₁, nu₁, h1₁, ?_, ?_, ?_, ?_, ?_, ?_, ?_, ?_, ?_, ?_, ?_, ?_⟩
    · refine ⟨t1₁, by omega, by rw [f2₁.1 _ (by omega) (by omega) (by omega) (by omega) (by omega), e1₁]; rfl, e2₁, fun i₁ hi₁ => absurd hi₁ (Nat.not_lt_zero i₁), fun i₁ hi₁ => absurd hi₁ (Nat.not_lt_zero i₁), ?_⟩
      rw [f2₁.1 _ (by omega) (by omega) (by omega) (by omega) (by omega), f1₁.2.1 10 (by decide), gm₁ 10 (by decide) (by decide) (by decide) (by decide) (by decide) (by decide)]; exact t7₁
    · exact cUni_fr h3₁ (fun b₁ q1₁ q2₁ => g₁ b₁ (by omega) (by omega) (by omega) (by omega) (by omega) (by omega) (by omega) ) (fun b₁ q1₁ q2₁ => gl₁ b₁ (by omega) (by omega) ) (ag_r (g₁ _ (by omega) (by omega) (by omega) (by omega) (by omega) (by omega) (by omega) )) (gl₁ _ (by omega) (by omega) )
    · exact cMac_fr h4₁ (fun b₁ q1₁ q2₁ => g₁ b₁ (by omega) (by omega) (by omega) (by omega) (by omega) (by omega) (by omega) ) (g₁ _ (by omega) (by omega) (by omega) (by omega) (by omega) (by omega) (by omega) )
    · exact cHis_fr h5₁ (fun k₁ hk₁ => (hp₁ k₁ hk₁).1) (by rw [g₁ _ (by omega) (by omega) (by omega) (by omega) (by omega) (by omega) (by omega) ]) (gm₁ _ (by decide) (by decide) (by decide) (by decide) (by decide) (by decide) ) (g₁ _ (by omega) (by omega) (by omega) (by omega) (by omega) (by omega) (by omega) ) (fun b₁ q1₁ q2₁ => g₁ b₁ (by omega) (by omega) (by omega) (by omega) (by omega) (by omega) (by omega) ) (ag_r (g₁ _ (by omega) (by omega) (by omega) (by omega) (by omega) (by omega) (by omega) ))
    · exact cCha_fr h6₁ (g₁ _ (by omega) (by omega) (by omega) (by omega) (by omega) (by omega) (by omega) ) (g₁ _ (by omega) (by omega) (by omega) (by omega) (by omega) (by omega) (by omega) ) (gm₁ _ (by decide) (by decide) (by decide) (by decide) (by decide) (by decide) ) (g₁ _ (by omega) (by omega) (by omega) (by omega) (by omega) (by omega) (by omega) ) (g₁ _ (by omega) (by omega) (by omega) (by omega) (by omega) (by omega) (by omega) )
    · exact cTag_fr h7₁ (g₁ _ (by omega) (by omega) (by omega) (by omega) (by omega) (by omega) (by omega) ) (g₁ _ (by omega) (by omega) (by omega) (by omega) (by omega) (by omega) (by omega) ) (gm₁ _ (by decide) (by decide) (by decide) (by decide) (by decide) (by decide) ) (g₁ _ (by omega) (by omega) (by omega) (by omega) (by omega) (by omega) (by omega) )
    · exact cPak_fr h8₁ (g₁ _ (by omega) (by omega) (by omega) (by omega) (by omega) (by omega) (by omega) ) (g₁ _ (by omega) (by omega) (by omega) (by omega) (by omega) (by omega) (by omega) ) (gm₁ _ (by decide) (by decide) (by decide) (by decide) (by decide) (by decide) ) (g₁ _ (by omega) (by omega) (by omega) (by omega) (by omega) (by omega) (by omega) )
    · have c₁ : ∀ b₁, b₁ < m₁ → J2₁ b₁ = J1₁ b₁ := fun b₁ q₁ => f2₁.1 b₁ (by omega) (by omega) (by omega) (by omega) (by omega)
      refine cUnp_fr (I₁ := I₁) ⟨v1₁, v2₁, v3₁, v4₁, v5₁⟩ (by rw [c₁ _ (by omega), w2₁, v2₁]) (by rw [c₁ _ (by omega), w67₁]) (by rw [c₁ _ (by omega)]; exact w69₁) (by rw [j43₁, m1₁ _ (Nat.le_refl _)]) (by rw [j20₁, m1₁ _ (by omega)]) (by rw [j21₁, m1₁ _ (by omega)])
    · exact cTol_fr h10₁ (g₁ _ (by omega) (by omega) (by omega) (by omega) (by omega) (by omega) (by omega) ) (g₁ _ (by omega) (by omega) (by omega) (by omega) (by omega) (by omega) (by omega) ) (gm₁ _ (by decide) (by decide) (by decide) (by decide) (by decide) (by decide) ) (g₁ _ (by omega) (by omega) (by omega) (by omega) (by omega) (by omega) (by omega) )
    · exact cSen_fr h11₁ (by rw [g₁ _ (by omega) (by omega) (by omega) (by omega) (by omega) (by omega) (by omega) ]) (fun b₁ q1₁ q2₁ => g₁ b₁ (by omega) (by omega) (by omega) (by omega) (by omega) (by omega) (by omega) ) (fun y₁ _ _ => by rw [g₁ _ (by omega) (by omega) (by omega) (by omega) (by omega) (by omega) (by omega) ])
    · exact cKep_fr h12₁ (fun b₁ q1₁ q2₁ => g₁ b₁ (by omega) (by omega) (by omega) (by omega) (by omega) (by omega) (by omega) ) (fun b₁ q1₁ q2₁ => gl₁ b₁ (by omega) (by omega) ) (g₁ _ (by omega) (by omega) (by omega) (by omega) (by omega) (by omega) (by omega) ) (g₁ _ (by omega) (by omega) (by omega) (by omega) (by omega) (by omega) (by omega) ) (g₁ _ (by omega) (by omega) (by omega) (by omega) (by omega) (by omega) (by omega) ) (gl₁ _ (by omega) (by omega) )
    · exact cMis_fr h13₁ (fun b₁ q1₁ q2₁ => g₁ b₁ (by omega) (by omega) (by omega) (by omega) (by omega) (by omega) (by omega) ) (by rw [g₁ _ (by omega) (by omega) (by omega) (by omega) (by omega) (by omega) (by omega) ])
  · have m1₁ : ∀ b₁, m₁ ≤ b₁ → J1₁ b₁ = I₁ b₁ := fun b₁ q₁ => f1₁.1 b₁ (by omega) (by omega)
    refine r_unpacked hM₁ (by rw [m1₁ _ (Nat.le_refl _)]; exact t4₁) t2₁ (fun i₁ hi₁ => by rw [m1₁ _ (by omega)]; exact t6₁ i₁ hi₁) t1₁ (fun pl2₁ ep2₁ J2₁ _ _ _ _ _ => ?_) (fun rs2₁ ep2₁ J2₁ rr₁ j43₁ e2₁ f2₁ => ?_)
    · exact absurd (ep₁.symm.trans ep2₁) (fun w₁ => nomatch w₁)
    have e9₁ := Sum.inr.inj (ep₁.symm.trans ep2₁)
    subst e9₁
    have g₁ : ∀ b₁, b₁ ≠ x₁ + 1 → b₁ < x₁ + 63 ∨ x₁ + 72 < b₁ ∨ b₁ = x₁ + 64 ∨ b₁ = x₁ + 66 → b₁ ≠ m₁ → b₁ ≠ m₁ + 18 → b₁ ≠ m₁ + 19 → b₁ ≠ m₁ + 20 → b₁ ≠ m₁ + 21 → J2₁ b₁ = I₁ b₁ := fun b₁ z1₁ z2₁ z3₁ z4₁ z5₁ z6₁ z7₁ => by rw [f2₁.1 b₁ z3₁ z4₁ z5₁ z6₁ z7₁, f1₁.1 b₁ z1₁ z2₁]
    have gm₁ : ∀ y₁, y₁ ≠ 0 → y₁ ≠ 2 → y₁ ≠ 42 → y₁ ≠ 43 → y₁ ≠ 44 → y₁ ≠ 45 → J2₁ m₁ y₁ = I₁ m₁ y₁ := fun y₁ z1₁ z2₁ z3₁ z4₁ z5₁ z6₁ => by rw [f2₁.2 y₁ z1₁ z2₁ z3₁ z4₁ z5₁ z6₁, m1₁ _ (Nat.le_refl _)]
    have gl₁ : ∀ b₁, b₁ ≠ x₁ + 68 → b₁ ≠ x₁ + 71 → M1₁ b₁ = L₁ b₁ := f1₁.2.2
    refine ⟨rfl, B₁, 0, NM₁, o₁, p₁, l₁, nc₁, nt₁, np₁, rs₁.length, h1₁, ?_, ?_, ?_, ?_, ?_, ?_, ?_, ?_, ?_, ?_, ?_, ?_⟩
    · refine ⟨t1₁, by omega, by rw [f2₁.1 _ (by omega) (by omega) (by omega) (by omega) (by omega), e1₁]; rfl, e2₁, fun i₁ hi₁ => absurd hi₁ (Nat.not_lt_zero i₁), fun i₁ hi₁ => absurd hi₁ (Nat.not_lt_zero i₁), ?_⟩
      rw [f2₁.1 _ (by omega) (by omega) (by omega) (by omega) (by omega), f1₁.2.1 10 (by decide), gm₁ 10 (by decide) (by decide) (by decide) (by decide) (by decide) (by decide)]; exact t7₁
    · exact cUni_fr h3₁ (fun b₁ q1₁ q2₁ => g₁ b₁ (by omega) (by omega) (by omega) (by omega) (by omega) (by omega) (by omega) ) (fun b₁ q1₁ q2₁ => gl₁ b₁ (by omega) (by omega) ) (ag_r (g₁ _ (by omega) (by omega) (by omega) (by omega) (by omega) (by omega) (by omega) )) (gl₁ _ (by omega) (by omega) )
    · exact cMac_fr h4₁ (fun b₁ q1₁ q2₁ => g₁ b₁ (by omega) (by omega) (by omega) (by omega) (by omega) (by omega) (by omega) ) (g₁ _ (by omega) (by omega) (by omega) (by omega) (by omega) (by omega) (by omega) )
    · exact cHis_fr h5₁ (fun k₁ hk₁ => (hp₁ k₁ hk₁).1) (by rw [g₁ _ (by omega) (by omega) (by omega) (by omega) (by omega) (by omega) (by omega) ]) (gm₁ _ (by decide) (by decide) (by decide) (by decide) (by decide) (by decide) ) (g₁ _ (by omega) (by omega) (by omega) (by omega) (by omega) (by omega) (by omega) ) (fun b₁ q1₁ q2₁ => g₁ b₁ (by omega) (by omega) (by omega) (by omega) (by omega) (by omega) (by omega) ) (ag_r (g₁ _ (by omega) (by omega) (by omega) (by omega) (by omega) (by omega) (by omega) ))
    · exact cCha_fr h6₁ (g₁ _ (by omega) (by omega) (by omega) (by omega) (by omega) (by omega) (by omega) ) (g₁ _ (by omega) (by omega) (by omega) (by omega) (by omega) (by omega) (by omega) ) (gm₁ _ (by decide) (by decide) (by decide) (by decide) (by decide) (by decide) ) (g₁ _ (by omega) (by omega) (by omega) (by omega) (by omega) (by omega) (by omega) ) (g₁ _ (by omega) (by omega) (by omega) (by omega) (by omega) (by omega) (by omega) )
    · exact cTag_fr h7₁ (g₁ _ (by omega) (by omega) (by omega) (by omega) (by omega) (by omega) (by omega) ) (g₁ _ (by omega) (by omega) (by omega) (by omega) (by omega) (by omega) (by omega) ) (gm₁ _ (by decide) (by decide) (by decide) (by decide) (by decide) (by decide) ) (g₁ _ (by omega) (by omega) (by omega) (by omega) (by omega) (by omega) (by omega) )
    · exact cPak_fr h8₁ (g₁ _ (by omega) (by omega) (by omega) (by omega) (by omega) (by omega) (by omega) ) (g₁ _ (by omega) (by omega) (by omega) (by omega) (by omega) (by omega) (by omega) ) (gm₁ _ (by decide) (by decide) (by decide) (by decide) (by decide) (by decide) ) (g₁ _ (by omega) (by omega) (by omega) (by omega) (by omega) (by omega) (by omega) )
    · have c₁ : ∀ b₁, b₁ < m₁ → J2₁ b₁ = J1₁ b₁ := fun b₁ q₁ => f2₁.1 b₁ (by omega) (by omega) (by omega) (by omega) (by omega)
      refine ⟨rr₁.1, by rw [c₁ _ (by omega)]; exact w2₁, TD_ag rw1₁.1 (c₁ _ (by omega)), j43₁, fun j₁ hj₁ => ?_⟩
      rw [c₁ _ (by omega), (rw1₁.2 j₁ hj₁).1, (rw1₁.2 j₁ hj₁).2, (rr₁.2 j₁ hj₁).1, (rr₁.2 j₁ hj₁).2]
      exact ⟨rfl, rfl⟩
    · exact cTol_fr h10₁ (g₁ _ (by omega) (by omega) (by omega) (by omega) (by omega) (by omega) (by omega) ) (g₁ _ (by omega) (by omega) (by omega) (by omega) (by omega) (by omega) (by omega) ) (gm₁ _ (by decide) (by decide) (by decide) (by decide) (by decide) (by decide) ) (g₁ _ (by omega) (by omega) (by omega) (by omega) (by omega) (by omega) (by omega) )
    · exact cSen_fr h11₁ (by rw [g₁ _ (by omega) (by omega) (by omega) (by omega) (by omega) (by omega) (by omega) ]) (fun b₁ q1₁ q2₁ => g₁ b₁ (by omega) (by omega) (by omega) (by omega) (by omega) (by omega) (by omega) ) (fun y₁ _ _ => by rw [g₁ _ (by omega) (by omega) (by omega) (by omega) (by omega) (by omega) (by omega) ])
    · exact cKep_fr h12₁ (fun b₁ q1₁ q2₁ => g₁ b₁ (by omega) (by omega) (by omega) (by omega) (by omega) (by omega) (by omega) ) (fun b₁ q1₁ q2₁ => gl₁ b₁ (by omega) (by omega) ) (g₁ _ (by omega) (by omega) (by omega) (by omega) (by omega) (by omega) (by omega) ) (g₁ _ (by omega) (by omega) (by omega) (by omega) (by omega) (by omega) (by omega) ) (g₁ _ (by omega) (by omega) (by omega) (by omega) (by omega) (by omega) (by omega) ) (gl₁ _ (by omega) (by omega) )
    · exact cMis_fr h13₁ (fun b₁ q1₁ q2₁ => g₁ b₁ (by omega) (by omega) (by omega) (by omega) (by omega) (by omega) (by omega) ) (by rw [g₁ _ (by omega) (by omega) (by omega) (by omega) (by omega) (by omega) (by omega) ])
theorem s_tag0 {U₁ : Nat → Int32} {W₁ : Nat → Int64} {Q₁ : Int32 → MI → ML → Prop} (hX₁ : PDL K₁ N₁ R₁ x₁) (hu₁ : UD I₁ L₁ (x₁ + 3) U₁ W₁) (hz₁ : inN a₁ (ix (U₁ 4)) = false) (h₁ : Q₁ (-1) I₁ L₁) : w_X11_tag x₁ a₁ K₁ N₁ I₁ L₁ R₁ Q₁ := by
  delta w_X11_tag
  refine ⟨hX₁.k, _, hX₁.r_unit, hX₁.un.1, _, hX₁.un.2.2.2.2.1, hX₁.un.2.2.2.2.2.2.2.2.2.1.1, s_has hX₁.un.2.2.2.2.2.2.2.2.2.1 hu₁.2.2.2.2.1.1 ⟨fun e₁ => absurd (hz₁.symm.trans e₁) (by decide), fun e₁ => h₁⟩⟩
theorem r_tag0 {Q₁ : Int32 → MI → Prop} (hM₁ : MDL K₁ N₁ R₁ m₁) (hU₁ : WFc (I₁ (m₁ + 2))) (hz₁ : inN a₁ (ix (I₁ (m₁ + 2) 4)) = false) (h₁ : Q₁ (-1) (mup I₁ m₁ 0 0)) : w_X12_tag m₁ a₁ K₁ N₁ I₁ L₁ R₁ Q₁ := by
  delta w_X12_tag
  refine ⟨hM₁.k, fun I2₁ g2₁ => ?_⟩
  have u2₁ : I2₁ (m₁ + 2) = I₁ (m₁ + 2) := by rw [g2₁, mup_ne (by omega)]
  rw [← g2₁] at h₁
  refine r_isVar hM₁ (by rw [u2₁]; exact hU₁) ?_
  rw [u2₁]
  exact ⟨fun e₁ => absurd (hz₁.symm.trans e₁) (by decide), fun e₁ => h₁⟩
theorem cs_tag (h₁ : CPL₁ K₁ N₁ I₁ L₁ R₁ x₁ m₁) : w_X11_tag x₁ a₁ K₁ N₁ I₁ L₁ R₁ (fun r₁ I1₁ L1₁ => w_X12_tag m₁ a₁ K₁ N₁ I1₁ L1₁ R₁ (fun r2₁ J₁ => r₁ = r2₁ ∧ CPL₁ K₁ N₁ J₁ L1₁ R₁ x₁ m₁)) := by
  obtain ⟨hX₁, hM₁, hx₁, ⟨W₁, hu₁⟩, hW₁, hV₁, hv₁⟩ := cpG₁ h₁
  have hC₁ := h₁
  obtain ⟨B₁, n₁, NM₁, o₁, p₁, l₁, nc₁, nt₁, np₁, nu₁, h1₁, h2₁, h3₁, h4₁, h5₁, h6₁, h7₁, h8₁, h9₁, h10₁, h11₁, h12₁, h13₁⟩ := hC₁
  have hp₁ := h1₁.2.2.2.1.1
  cases hz₁ : inN a₁ (ix (I₁ (m₁ + 2) 4)) with
  | false => exact s_tag0 hX₁ hu₁ hz₁ (r_tag0 hM₁ hW₁.1 hz₁ ⟨rfl, CPL_0 h₁⟩)
  | true =>
  have n4₁ := hW₁.1.2.2.2.1.2
  obtain ⟨k₁, hk₁, rfl⟩ := inN_t hz₁ (by omega)
  obtain ⟨q₁, eq₁, hq₁⟩ := hW₁.2.2.2.2.2.1 k₁ hk₁
  obtain ⟨n1₁, n2₁, n3₁⟩ := h3₁.2.2.1
  obtain ⟨r1₁, r2₁, r3₁⟩ := h3₁.2.2.2
  have c1₁ : L₁ (x₁ + 14) k₁ = encB 32 (NM₁ (16 + k₁)) := nm_of (n3₁ k₁ hk₁) (hu4₁ h3₁.1 hk₁)
  have c2₁ : L₁ (x₁ + 8) q₁ = encB 32 (NM₁ (0 + q₁)) := nm_of (n1₁ q₁ hq₁) (by rw [Nat.zero_add]; exact hu2₁ h3₁.1 hq₁)
  refine s_tag hX₁ hV₁ hv₁.2.1 hu₁ hW₁.1 hW₁.2.2.2.2.2.2.1 hW₁.2.2.2.2.1 hW₁.2.2.2.1 hW₁.2.2.2.2.2.2.2 hk₁ hq₁ eq₁ (n3₁ k₁ hk₁) (n1₁ q₁ hq₁) c1₁ c2₁ h7₁.2.1.1 (fun J1₁ M1₁ tx₁ f1₁ => ?_)
  have u1₁ : J1₁ (m₁ + 2) = I₁ (m₁ + 2) := f1₁.1 _ (by omega) (by omega) (by omega) (by omega)
  have ul₁ : M1₁ (m₁ + 8) = L₁ (m₁ + 8) := f1₁.2 _ (by omega)
  refine r_tag hM₁ (by rw [u1₁]; exact hW₁.1) (by rw [u1₁]; exact hW₁.2.2.2.2.2.2.1) (by rw [u1₁]; exact hW₁.2.2.2.2.1) (by rw [u1₁]; exact hW₁.2.2.2.1) (by rw [u1₁]; exact hW₁.2.2.2.2.2.2.2) (by rw [u1₁]; exact hv₁.2.1) (by rw [u1₁]; exact hk₁) (by rw [u1₁]; exact hq₁) (by rw [u1₁]; exact eq₁) (n3₁ k₁ hk₁) (n1₁ q₁ hq₁) (by rw [ul₁]; exact r3₁ k₁ hk₁) (by rw [ul₁]; have := r1₁ q₁ hq₁; rw [Nat.zero_add] at this ⊢; exact this) (fun J2₁ tr₁ f2₁ => ?_)
  rw [u1₁] at tr₁
  have hlen := tagL_len (p₁ := lokS (I₁ (m₁ + 2)) (macV (I₁ (m₁ + 2))) (nI k₁) (macV (I₁ (m₁ + 2)) 0)) (n3₁ k₁ hk₁).2.1 (n1₁ q₁ hq₁).2.1
  have g₁ : ∀ b₁, b₁ ≠ x₁ + 80 → b₁ ≠ x₁ + 82 → b₁ ≠ x₁ + 28 → b₁ ≠ x₁ + 29 → b₁ ≠ m₁ → b₁ ≠ m₁ + 22 → b₁ ≠ m₁ + 14 → J2₁ b₁ = I₁ b₁ := fun b₁ z1₁ z2₁ z3₁ z4₁ z5₁ z6₁ z7₁ => by rw [f2₁.1 b₁ z5₁ z6₁ z7₁, f1₁.1 b₁ z1₁ z2₁ z3₁ z4₁]
  have gm₁ : ∀ y₁, y₁ ≠ 47 → y₁ ≠ 30 → y₁ ≠ 31 → y₁ ≠ 0 → J2₁ m₁ y₁ = I₁ m₁ y₁ := fun y₁ z1₁ z2₁ z3₁ z4₁ => by rw [f2₁.2 y₁ z1₁ z2₁ z3₁ z4₁, f1₁.1 _ (by omega) (by omega) (by omega) (by omega)]
  have gl₁ := f1₁.2
  refine ⟨by rw [u1₁], B₁, n₁, NM₁, o₁, p₁, l₁, nc₁, (tagL (NM₁ (16 + k₁)) (NM₁ (0 + q₁)) (lokS (I₁ (m₁ + 2)) (macV (I₁ (m₁ + 2))) (nI k₁) (macV (I₁ (m₁ + 2)) 0))).length, np₁, nu₁, h1₁, ?_, ?_, ?_, ?_, ?_, ?_, ?_, ?_, ?_, ?_, ?_, ?_⟩
  · exact cTok_fr h2₁ (by rw [g₁ _ (by omega) (by omega) (by omega) (by omega) (by omega) (by omega) (by omega) ]) (by rw [g₁ _ (by omega) (by omega) (by omega) (by omega) (by omega) (by omega) (by omega) ]) (gm₁ _ (by decide) (by decide) (by decide) (by decide) ) (gm₁ _ (by decide) (by decide) (by decide) (by decide) ) (g₁ _ (by omega) (by omega) (by omega) (by omega) (by omega) (by omega) (by omega) ) (g₁ _ (by omega) (by omega) (by omega) (by omega) (by omega) (by omega) (by omega) )
  · exact cUni_fr h3₁ (fun b₁ q1₁ q2₁ => g₁ b₁ (by omega) (by omega) (by omega) (by omega) (by omega) (by omega) (by omega) ) (fun b₁ q1₁ q2₁ => gl₁ b₁ (by omega) ) (ag_r (g₁ _ (by omega) (by omega) (by omega) (by omega) (by omega) (by omega) (by omega) )) (gl₁ _ (by omega) )
  · exact cMac_fr h4₁ (fun b₁ q1₁ q2₁ => g₁ b₁ (by omega) (by omega) (by omega) (by omega) (by omega) (by omega) (by omega) ) (g₁ _ (by omega) (by omega) (by omega) (by omega) (by omega) (by omega) (by omega) )
  · exact cHis_fr h5₁ (fun k₁ hk₁ => (hp₁ k₁ hk₁).1) (by rw [g₁ _ (by omega) (by omega) (by omega) (by omega) (by omega) (by omega) (by omega) ]) (gm₁ _ (by decide) (by decide) (by decide) (by decide) ) (g₁ _ (by omega) (by omega) (by omega) (by omega) (by omega) (by omega) (by omega) ) (fun b₁ q1₁ q2₁ => g₁ b₁ (by omega) (by omega) (by omega) (by omega) (by omega) (by omega) (by omega) ) (ag_r (g₁ _ (by omega) (by omega) (by omega) (by omega) (by omega) (by omega) (by omega) ))
  · exact cCha_fr h6₁ (g₁ _ (by omega) (by omega) (by omega) (by omega) (by omega) (by omega) (by omega) ) (g₁ _ (by omega) (by omega) (by omega) (by omega) (by omega) (by omega) (by omega) ) (gm₁ _ (by decide) (by decide) (by decide) (by decide) ) (g₁ _ (by omega) (by omega) (by omega) (by omega) (by omega) (by omega) (by omega) ) (g₁ _ (by omega) (by omega) (by omega) (by omega) (by omega) (by omega) (by omega) )
  · refine ⟨by omega, TD_ag tx₁.1 (f2₁.1 _ (by omega) (by omega) (by omega)), tr₁.1, fun j₁ hj₁ => ?_⟩
    rw [f2₁.1 _ (by omega) (by omega) (by omega), tx₁.2 j₁ hj₁, tr₁.2 j₁ hj₁]
  · exact cPak_fr h8₁ (g₁ _ (by omega) (by omega) (by omega) (by omega) (by omega) (by omega) (by omega) ) (g₁ _ (by omega) (by omega) (by omega) (by omega) (by omega) (by omega) (by omega) ) (gm₁ _ (by decide) (by decide) (by decide) (by decide) ) (g₁ _ (by omega) (by omega) (by omega) (by omega) (by omega) (by omega) (by omega) )
  · exact cUnp_fr h9₁ (by rw [g₁ _ (by omega) (by omega) (by omega) (by omega) (by omega) (by omega) (by omega) ]) (g₁ _ (by omega) (by omega) (by omega) (by omega) (by omega) (by omega) (by omega) ) (g₁ _ (by omega) (by omega) (by omega) (by omega) (by omega) (by omega) (by omega) ) (gm₁ _ (by decide) (by decide) (by decide) (by decide) ) (g₁ _ (by omega) (by omega) (by omega) (by omega) (by omega) (by omega) (by omega) ) (g₁ _ (by omega) (by omega) (by omega) (by omega) (by omega) (by omega) (by omega) )
  · exact cTol_fr h10₁ (g₁ _ (by omega) (by omega) (by omega) (by omega) (by omega) (by omega) (by omega) ) (g₁ _ (by omega) (by omega) (by omega) (by omega) (by omega) (by omega) (by omega) ) (gm₁ _ (by decide) (by decide) (by decide) (by decide) ) (g₁ _ (by omega) (by omega) (by omega) (by omega) (by omega) (by omega) (by omega) )
  · exact cSen_fr h11₁ (by rw [g₁ _ (by omega) (by omega) (by omega) (by omega) (by omega) (by omega) (by omega) ]) (fun b₁ q1₁ q2₁ => g₁ b₁ (by omega) (by omega) (by omega) (by omega) (by omega) (by omega) (by omega) ) (fun y₁ _ _ => by rw [g₁ _ (by omega) (by omega) (by omega) (by omega) (by omega) (by omega) (by omega) ])
  · exact cKep_fr h12₁ (fun b₁ q1₁ q2₁ => g₁ b₁ (by omega) (by omega) (by omega) (by omega) (by omega) (by omega) (by omega) ) (fun b₁ q1₁ q2₁ => gl₁ b₁ (by omega) ) (g₁ _ (by omega) (by omega) (by omega) (by omega) (by omega) (by omega) (by omega) ) (g₁ _ (by omega) (by omega) (by omega) (by omega) (by omega) (by omega) (by omega) ) (g₁ _ (by omega) (by omega) (by omega) (by omega) (by omega) (by omega) (by omega) ) (gl₁ _ (by omega) )
  · exact cMis_fr h13₁ (fun b₁ q1₁ q2₁ => g₁ b₁ (by omega) (by omega) (by omega) (by omega) (by omega) (by omega) (by omega) ) (by rw [g₁ _ (by omega) (by omega) (by omega) (by omega) (by omega) (by omega) (by omega) ])
end CM₁
