/-! ===== value and cover beside the reference ===== -/
section CV₁
variable {K₁ N₁ N1₁ : MK} {I₁ J₁ : MI} {L₁ L1₁ : ML} {R₁ : MR} {x₁ m₁ : Nat} {a₁ b₁ : Int32}
theorem UD_L {u₁ : Nat} {U₁ : Nat → Int32} {W₁ : Nat → Int64} (h₁ : UD I₁ L₁ u₁ U₁ W₁) (f₁ : ∀ b₁, u₁ ≤ b₁ → b₁ ≤ u₁ + 15 → L1₁ b₁ = L₁ b₁) : UD I₁ L1₁ u₁ U₁ W₁ := by
  obtain ⟨h0₁, h1₁, h2₁, h3₁, h4₁, h5₁⟩ := h₁
  refine ⟨h0₁, h1₁, ?_, ?_, ?_, h5₁⟩
  · rw [UD2₁, f₁ _ (by omega) (by omega)]; exact h2₁
  · rw [UD3₁, f₁ _ (by omega) (by omega)]; exact h3₁
  · rw [UD4₁, f₁ _ (by omega) (by omega)]; exact h4₁
/-- the heap has grown, another array has been written -/
theorem CPL_n (h₁ : CPL₁ K₁ N₁ I₁ L₁ R₁ x₁ m₁) (e₁ : ∀ b₁, b₁ ≠ 0 → N1₁ b₁ = N₁ b₁) (f₁ : ∀ b₁, b₁ ≤ m₁ + 25 → L1₁ b₁ = L₁ b₁) : CPL₁ K₁ N1₁ I₁ L1₁ R₁ x₁ m₁ := by
  obtain ⟨-, -, hxm₁, -⟩ := cpG₁ h₁
  obtain ⟨B₁, n₁, NM₁, o₁, p₁, l₁, nc₁, nt₁, np₁, nu₁, h1₁, h2₁, h3₁, h4₁, h5₁, h6₁, h7₁, h8₁, h9₁, h10₁, h11₁, h12₁, h13₁⟩ := h₁
  obtain ⟨q1₁, q2₁, q3₁, q4₁, q5₁, q6₁⟩ := h1₁
  refine ⟨B₁, n₁, NM₁, o₁, p₁, l₁, nc₁, nt₁, np₁, nu₁, ⟨PDL_N q1₁ (fun b₁ hb₁ => e₁ b₁ (by omega)), MDL_N q2₁ (fun b₁ hb₁ => e₁ b₁ (by omega)), HM_N q3₁ (fun b₁ hb₁ => e₁ b₁ (by omega)), q4₁, q5₁, q6₁⟩, h2₁, ?_, h4₁, h5₁, h6₁, h7₁, h8₁, h9₁, h10₁, h11₁, ?_, h13₁⟩
  · obtain ⟨g1₁, g2₁, g3₁, g4₁⟩ := h3₁
    refine ⟨UD_L g1₁ (fun b₁ hb₁ hc₁ => f₁ b₁ (by omega)), g2₁, g3₁, ?_⟩
    rw [NRF₁, f₁ _ (by omega)]
    exact g4₁
  · intro j₁ hj₁
    obtain ⟨g1₁, g2₁, g3₁⟩ := h12₁ j₁ hj₁
    refine ⟨g1₁, g2₁, fun hk₁ => ?_⟩
    obtain ⟨NM2₁, l2₁, k1₁, k2₁, k3₁, k4₁, k5₁, k6₁, k7₁, k8₁⟩ := g3₁ hk₁
    refine ⟨NM2₁, l2₁, UD_L k1₁ (fun b₁ hb₁ hc₁ => f₁ b₁ (by rw [kuA₁] at hc₁; omega)), k2₁, k3₁, ?_, k5₁, k6₁, k7₁, k8₁⟩
    rw [show kpN₁ L1₁ m₁ j₁ = kpN₁ L₁ m₁ j₁ from by funext y₁; rw [kpN₁, kpN₁, f₁ _ (by omega)]]
    exact k4₁
theorem cs_value (h₁ : CPL₁ K₁ N₁ I₁ L₁ R₁ x₁ m₁) : w_X7_has (x₁ + 3 + 10) a₁ K₁ N₁ I₁ L₁ R₁ (fun r₁ => (r₁ = false → CPL₁ K₁ N₁ I₁ L₁ R₁ x₁ m₁ ∧ ¬ vlN₁ (I₁ (m₁ + 2)) (macV (I₁ (m₁ + 2))) a₁ b₁) ∧ (r₁ = true → w_X2_look (x₁ + 28) (x₁ + 3) (x₁ + 19) a₁ b₁ K₁ N₁ I₁ L₁ R₁ (fun v₁ J₁ => (¬ v₁ = 0 → CPL₁ K₁ N₁ J₁ L₁ R₁ x₁ m₁ ∧ ¬ vlN₁ (J₁ (m₁ + 2)) (macV (J₁ (m₁ + 2))) a₁ b₁) ∧ (v₁ = 0 → CPL₁ K₁ N₁ J₁ L₁ R₁ x₁ m₁ ∧ vlN₁ (J₁ (m₁ + 2)) (macV (J₁ (m₁ + 2))) a₁ b₁ ∧ J₁ (x₁ + 28) 2 = (lokS (J₁ (m₁ + 2)) (macV (J₁ (m₁ + 2))) a₁ b₁).2)))) := by
  have h'₁ := h₁
  obtain ⟨hX₁, hM₁, hxm₁, ⟨W₁, hD₁⟩, hW₁, hV₁, hv₁⟩ := cpG₁ h₁
  refine s_has hX₁.un.2.2.2.2.2.2.2.2.2.1 hD₁.2.2.2.2.1.1 ⟨fun e₁ => ⟨h'₁, fun z₁ => by rw [z₁.1] at e₁; cases e₁⟩, fun e₁ => ?_⟩
  refine s_look hX₁.fil hX₁.mac hV₁ hv₁.2.1 (by omega) hX₁.un (by omega) hD₁ hW₁.1 hW₁.2.2.2.2.2.2.1 hW₁.2.2.2.2.1 hW₁.2.2.2.1 hW₁.2.2.2.2.2.2.2 (fun J₁ g₁ e0₁ => ?_)
  obtain ⟨h1₁, u₁⟩ := CPL_f h'₁ g₁
  refine ⟨fun z₁ => ⟨h1₁, ?_⟩, fun z₁ => ⟨h1₁, ?_, ?_⟩⟩
  · rw [u₁]; exact fun y₁ => z₁ y₁.2.2
  · rw [u₁]; exact ⟨e₁, lok_adr hW₁.1 hW₁.2.2.2.2.2.2.1 z₁, z₁⟩
  · rw [u₁]; exact e0₁ z₁
theorem csr_value (h₁ : CPL₁ K₁ N₁ I₁ L₁ R₁ x₁ m₁) {Q₁ : Int32 → MI → Prop} (hno₁ : ¬ vlN₁ (I₁ (m₁ + 2)) (macV (I₁ (m₁ + 2))) a₁ b₁ → ∀ J₁, J₁ m₁ 0 = 1 → CPL₁ K₁ N₁ J₁ L₁ R₁ x₁ m₁ → Q₁ 0 J₁) (hok₁ : vlN₁ (I₁ (m₁ + 2)) (macV (I₁ (m₁ + 2))) a₁ b₁ → ∀ J₁, J₁ m₁ 0 = 0 → CPL₁ K₁ N₁ J₁ L₁ R₁ x₁ m₁ → Q₁ (lokS (I₁ (m₁ + 2)) (macV (I₁ (m₁ + 2))) a₁ b₁).2 J₁) : w_X12_value m₁ a₁ b₁ K₁ N₁ I₁ L₁ R₁ Q₁ := by
  have h'₁ := h₁
  obtain ⟨hX₁, hM₁, hxm₁, ⟨W₁, hD₁⟩, hW₁, hV₁, hv₁⟩ := cpG₁ h₁
  have fr₁ : ∀ J₁ : MI, (∀ b₁, b₁ ≠ m₁ → b₁ ≠ m₁ + 14 → J₁ b₁ = I₁ b₁) → (∀ y₁, y₁ ≠ 0 → y₁ ≠ 30 → y₁ ≠ 31 → J₁ m₁ y₁ = I₁ m₁ y₁) → CPL₁ K₁ N₁ J₁ L₁ R₁ x₁ m₁ := fun J₁ j1₁ j2₁ =>
    CPL_q h'₁ (fun b₁ q₁ => j1₁ b₁ (by unfold qtC₁ at q₁; omega) (by unfold qtC₁ at q₁; omega)) (by rw [j1₁ _ (by omega) (by omega)]) (fun y₁ hy₁ => j2₁ y₁ (by omega) (by omega) (by omega))
  exact r_value hM₁ hW₁.1 hW₁.2.2.2.2.2.2.1 hW₁.2.2.2.2.1 hW₁.2.2.2.1 hW₁.2.2.2.2.2.2.2 hv₁.2.1 (fun z₁ J₁ e₁ j1₁ j2₁ => hno₁ z₁ J₁ e₁ (fr₁ J₁ j1₁ j2₁)) (fun z₁ J₁ e₁ j1₁ j2₁ => hok₁ z₁ J₁ e₁ (fr₁ J₁ j1₁ j2₁))
theorem s_scopeLength {u₁ s₁ : Nat} {U₁ : Nat → Int32} {W₁ : Nat → Int64} {Q₁ : Int32 → Prop} (hL₁ : UL K₁ N₁ R₁ u₁) (hD₁ : UD2₁ I₁ L₁ u₁ U₁ W₁) (hU₁ : WFc U₁) (hs₁ : s₁ < ix (U₁ 2)) (h₁ : Q₁ (widS U₁ s₁)) : w_X9_scopeLength u₁ (nI s₁) K₁ N₁ I₁ L₁ R₁ Q₁ := by
  have n2₁ := hU₁.2.1.2
  refine ⟨hL₁.1, _, hL₁.2.2.1, hL₁.2.2.2.2.2.2.2.1.1, s_at hL₁.2.2.2.2.2.2.2.1 hD₁.1 (s_at hL₁.2.2.2.2.2.2.2.1 hD₁.1 ?_)⟩
  rw [show (1 : Int32) = nI 1 from rfl, show (0 : Int32) = nI 0 from rfl, tat_in hs₁ (by decide) (by omega) (by decide), tat_in hs₁ (by decide) (by omega) (by decide), (hD₁.2 s₁ hs₁).1, (hD₁.2 s₁ hs₁).2.1]
  exact h₁
theorem cs_cover (h₁ : CPL₁ K₁ N₁ I₁ L₁ R₁ x₁ m₁) : w_X7_has (x₁ + 3 + 10) a₁ K₁ N₁ I₁ L₁ R₁ (fun r₁ => (r₁ = false → CPL₁ K₁ N₁ I₁ L₁ R₁ x₁ m₁ ∧ ¬ (inN a₁ (ix (I₁ (m₁ + 2) 4)) = true ∧ inN b₁ 2 = true)) ∧ (r₁ = true → (¬ b₁ = 0 → ¬ b₁ = 1 → CPL₁ K₁ N₁ I₁ L₁ R₁ x₁ m₁ ∧ ¬ (inN a₁ (ix (I₁ (m₁ + 2) 4)) = true ∧ inN b₁ 2 = true)) ∧ (b₁ = 0 ∨ b₁ = 1 → w_X9_covered (x₁ + 3) a₁ K₁ N₁ I₁ L₁ R₁ (fun c₁ => w_X7_at (x₁ + 3 + 10) a₁ 0 K₁ N₁ I₁ L₁ R₁ (fun s₁ => w_X9_scopeLength (x₁ + 3) s₁ K₁ N₁ I₁ L₁ R₁ (fun d₁ => w_X11_commonDivisor c₁ d₁ K₁ N₁ I₁ L₁ R₁ (fun g₁ => (b₁ = 0 → (g₁ ≤ 0 → CPL₁ K₁ N₁ I₁ L₁ R₁ x₁ m₁ ∧ (inN a₁ (ix (I₁ (m₁ + 2) 4)) = true ∧ inN b₁ 2 = true) ∧ c₁ = cvA₁ (I₁ (m₁ + 2)) a₁ b₁) ∧ (¬ g₁ ≤ 0 → CPL₁ K₁ N₁ I₁ L₁ R₁ x₁ m₁ ∧ (inN a₁ (ix (I₁ (m₁ + 2) 4)) = true ∧ inN b₁ 2 = true) ∧ c₁ / g₁ = cvA₁ (I₁ (m₁ + 2)) a₁ b₁)) ∧ (¬ b₁ = 0 → (g₁ ≤ 0 → CPL₁ K₁ N₁ I₁ L₁ R₁ x₁ m₁ ∧ (inN a₁ (ix (I₁ (m₁ + 2) 4)) = true ∧ inN b₁ 2 = true) ∧ d₁ = cvA₁ (I₁ (m₁ + 2)) a₁ b₁) ∧ (¬ g₁ ≤ 0 → CPL₁ K₁ N₁ I₁ L₁ R₁ x₁ m₁ ∧ (inN a₁ (ix (I₁ (m₁ + 2) 4)) = true ∧ inN b₁ 2 = true) ∧ d₁ / g₁ = cvA₁ (I₁ (m₁ + 2)) a₁ b₁)))))))))  := by
  have h'₁ := h₁
  obtain ⟨hX₁, hM₁, hxm₁, ⟨W₁, hD₁⟩, hW₁, hV₁, hv₁⟩ := cpG₁ h₁
  have hU₁ := hW₁.1
  have n4₁ := hU₁.2.2.2.1.2
  have n5₁ := hU₁.2.2.2.2.1.2
  have n2₁ := hU₁.2.1.2
  refine s_has hX₁.un.2.2.2.2.2.2.2.2.2.1 hD₁.2.2.2.2.1.1 ⟨fun e₁ => ⟨h'₁, fun z₁ => by rw [z₁.1] at e₁; cases e₁⟩, fun e₁ => ⟨fun z1₁ z2₁ => ⟨h'₁, fun z₁ => ?_⟩, fun hb₁ => ?_⟩⟩
  · obtain ⟨k₁, hk₁, rfl⟩ := inN_t z₁.2 (by decide)
    rcases (show k₁ = 0 ∨ k₁ = 1 by omega) with rfl | rfl
    · exact z1₁ rfl
    · exact z2₁ rfl
  have hb2₁ : inN b₁ 2 = true := by rcases hb₁ with rfl | rfl <;> decide
  refine s_covered hX₁.un hD₁.2.2.2.2.2 hU₁ ?_
  obtain ⟨k₁, hk₁, rfl⟩ := inN_t e₁ (by omega)
  obtain ⟨s₁, es₁, hs2₁⟩ := hW₁.2.2.2.2.2.1 k₁ hk₁
  obtain ⟨A₁, hA₁, eA₁⟩ := covB_n hU₁ hW₁.2.2.2.2.2.2.1 (nI k₁) (ix (I₁ (m₁ + 2) 5)) (Nat.le_refl _)
  obtain ⟨B₁, hB1₁, hB2₁, eB₁⟩ := wid_n hU₁ hW₁.2.2.1 hs2₁
  refine s_at hX₁.un.2.2.2.2.2.2.2.2.2.1 hD₁.2.2.2.2.1.1 ?_
  rw [show (0 : Int32) = nI 0 from rfl, tat_in hk₁ (by decide) (by omega) (by decide), (hD₁.2.2.2.2.1.2 k₁ hk₁).1, es₁]
  refine s_scopeLength hX₁.un hD₁.2.2.1 hU₁ hs2₁ ?_
  rw [eA₁, eB₁]
  have gp₁ : 0 < Nat.gcd A₁ B₁ := Nat.gcd_pos_of_pos_right _ (by omega)
  have gl₁ : Nat.gcd A₁ B₁ ≤ B₁ := Nat.gcd_le_right _ (by omega)
  refine s_commonDivisor (by omega) (by omega) ?_
  have hg₁ : ¬ nI (Nat.gcd A₁ B₁) ≤ nI 0 := by rw [leN (by omega) (by omega)]; omega
  have ev₁ : cvA₁ (I₁ (m₁ + 2)) (nI k₁) b₁ = nI ((if b₁ = 0 then A₁ else B₁) / Nat.gcd A₁ B₁) := by
    rw [cvA₁, eA₁, ix_nI (by omega), ix_nI (by omega), es₁, ix_nI (by omega), eB₁, ix_nI (by omega)]
  refine ⟨fun z₁ => ⟨fun y₁ => absurd y₁ hg₁, fun _ => ⟨h'₁, ⟨e₁, hb2₁⟩, ?_⟩⟩, fun z₁ => ⟨fun y₁ => absurd y₁ hg₁, fun _ => ⟨h'₁, ⟨e₁, hb2₁⟩, ?_⟩⟩⟩
  · rw [ev₁, if_pos (show b₁ = 0 from z₁), pk_div (by omega) gp₁ (by omega)]
  · rw [ev₁, if_neg (show ¬ b₁ = 0 from z₁), pk_div (by omega) gp₁ (by omega)]
theorem csr_cover (h₁ : CPL₁ K₁ N₁ I₁ L₁ R₁ x₁ m₁) {Q₁ : Int32 → MI → Prop} (hno₁ : ¬ (inN a₁ (ix (I₁ (m₁ + 2) 4)) = true ∧ inN b₁ 2 = true) → ∀ J₁, J₁ m₁ 0 = 1 → CPL₁ K₁ N₁ J₁ L₁ R₁ x₁ m₁ → Q₁ 0 J₁) (hok₁ : (inN a₁ (ix (I₁ (m₁ + 2) 4)) = true ∧ inN b₁ 2 = true) → ∀ J₁, J₁ m₁ 0 = 0 → CPL₁ K₁ N₁ J₁ L₁ R₁ x₁ m₁ → Q₁ (cvA₁ (I₁ (m₁ + 2)) a₁ b₁) J₁) : w_X12_cover m₁ a₁ b₁ K₁ N₁ I₁ L₁ R₁ Q₁ := by
  have h'₁ := h₁
  obtain ⟨hX₁, hM₁, hxm₁, ⟨W₁, hD₁⟩, hW₁, hV₁, hv₁⟩ := cpG₁ h₁
  have fr₁ : ∀ J₁ : MI, (∀ b₁, b₁ ≠ m₁ → J₁ b₁ = I₁ b₁) → (∀ y₁, y₁ ≠ 0 → J₁ m₁ y₁ = I₁ m₁ y₁) → CPL₁ K₁ N₁ J₁ L₁ R₁ x₁ m₁ := fun J₁ j1₁ j2₁ =>
    CPL_q h'₁ (fun b₁ q₁ => j1₁ b₁ (by unfold qtC₁ at q₁; omega)) (by rw [j1₁ _ (by omega)]) (fun y₁ hy₁ => j2₁ y₁ (by omega))
  exact r_cover hM₁ hW₁.1 hW₁.2.2.1 hW₁.2.2.2.2.2.2.1 hW₁.2.2.2.2.2.1 (fun z₁ => hno₁ z₁ _ mup_at (fr₁ _ (fun b₁ hb₁ => by rw [mup_ne hb₁, mup_ne hb₁]) (fun y₁ hy₁ => by rw [mup_k hy₁, mup_k hy₁]))) (fun z1₁ z2₁ => hok₁ ⟨z1₁, z2₁⟩ _ mup_at (fr₁ _ (fun b₁ hb₁ => mup_ne hb₁) (fun y₁ hy₁ => mup_k hy₁)))
end CV₁
