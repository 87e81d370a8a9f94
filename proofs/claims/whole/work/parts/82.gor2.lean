/-! ===== the reference reads a token: go, begin ===== -/
section RG₁
variable {K₁ N₁ : MK} {I₁ : MI} {L₁ : ML} {R₁ : MR} {m₁ n₁ lm₁ p₁ : Nat} {B₁ : Nat → Nat}
theorem r_go {Q₁ : MI → ML → Prop} (hM₁ : MDL K₁ N₁ R₁ m₁) (hb₁ : ∀ i₁, B₁ i₁ < 256) (h940 : n₁ ≤ 940) (hB₁ : TAP₁ I₁ (m₁ + 1) B₁ n₁) (hn₁ : I₁ m₁ 3 = nI n₁) (hl₁ : I₁ m₁ 4 = nI lm₁) (hlm₁ : lm₁ < 1000) (h5₁ : I₁ m₁ 5 = nI p₁) (hp₁ : p₁ ≤ n₁)
    (h₁ : ∀ J₁ M₁, TKR₁ J₁ M₁ m₁ B₁ n₁ lm₁ p₁ → frV₁ m₁ J₁ I₁ M₁ L₁ → Q₁ J₁ M₁) : w_X12_go m₁ K₁ N₁ I₁ L₁ R₁ Q₁ := by
  delta w_X12_go w_X12_go_0
  refine ⟨fun n1₁ y0₁ I1₁ L1₁ => y0₁ = m₁ ∧ L1₁ = L₁ ∧ ∃ i₁, p₁ + i₁ ≤ n₁ ∧ n1₁ = 1000 - i₁ ∧ skpS isBl B₁ n₁ (p₁ + i₁) = skpS isBl B₁ n₁ p₁ ∧ I1₁ m₁ 5 = nI (p₁ + i₁) ∧ (∀ b₁, b₁ ≠ m₁ → I1₁ b₁ = I₁ b₁) ∧ (∀ y₁, y₁ ≠ 5 → I1₁ m₁ y₁ = I₁ m₁ y₁), ⟨1000, rfl, rfl, 0, by omega, rfl, rfl, h5₁, fun _ _ => rfl, fun _ _ => rfl⟩, ?_⟩
  rintro n1₁ y0₁ I1₁ L1₁ ⟨rfl, rfl, i₁, hi₁, rfl, hs₁, p5₁, f1₁, f2₁⟩
  have hT1₁ : TAP₁ I1₁ (y0₁ + 1) B₁ n₁ := fun j₁ hj₁ => by rw [f1₁ _ (by omega)]; exact hB₁ j₁ hj₁
  have hn1₁ : I1₁ y0₁ 3 = nI n₁ := by rw [f2₁ 3 (by decide)]; exact hn₁
  have hl1₁ : I1₁ y0₁ 4 = nI lm₁ := by rw [f2₁ 4 (by decide)]; exact hl₁
  have fin₁ : skpS isBl B₁ n₁ p₁ = p₁ + i₁ → w_X12_go_52 y0₁ K₁ N₁ I1₁ L1₁ R₁ Q₁ := by
    intro e₁
    have hge₁ := skp_ge (P₁ := isRn) (B₁ := B₁) (n₁ := n₁) (p₁ := p₁ + i₁)
    delta w_X12_go_52
    refine ⟨hM₁.k, fun I3₁ g3₁ => ?_⟩
    have k3₁ : ∀ y₁, y₁ ≠ 6 → I3₁ y0₁ y₁ = I1₁ y0₁ y₁ := fun y₁ hy₁ => by rw [g3₁, mup_k hy₁]
    have b3₁ : ∀ b₁, b₁ ≠ y0₁ → I3₁ b₁ = I₁ b₁ := fun b₁ hb₁ => by rw [g3₁, mup_ne hb₁, f1₁ b₁ hb₁]
    have a6₁ : I3₁ y0₁ 6 = nI (p₁ + i₁) := by rw [g3₁, mup_at, p5₁]
    rw [k3₁ 3 (by decide), k3₁ 4 (by decide), hn1₁, hl1₁, a6₁, leN (by omega) (by omega), ltN (by omega) (by omega)]
    have hT3₁ : TAP₁ I3₁ (y0₁ + 1) B₁ n₁ := fun j₁ hj₁ => by rw [b3₁ _ (by omega)]; exact hB₁ j₁ hj₁
    have p53₁ : I3₁ y0₁ 5 = nI (p₁ + i₁) := by rw [k3₁ 5 (by decide)]; exact p5₁
    have hn3₁ : I3₁ y0₁ 3 = nI n₁ := by rw [k3₁ 3 (by decide)]; exact hn1₁
    have hl3₁ : I3₁ y0₁ 4 = nI lm₁ := by rw [k3₁ 4 (by decide)]; exact hl1₁
    have fr3₁ : ∀ y₁, y₁ ≠ 5 → y₁ ≠ 6 → I3₁ y0₁ y₁ = I₁ y0₁ y₁ := fun y₁ q1₁ q2₁ => by rw [k3₁ y₁ q2₁, f2₁ y₁ q1₁]
    have rest : ¬ (lm₁ < n₁ ∧ lm₁ ≤ p₁ + i₁) → w_X12_go_96 y0₁ K₁ N₁ I3₁ L1₁ R₁ Q₁ := by
      intro nb₁
      have eS₁ : tkS₁ B₁ n₁ lm₁ p₁ = p₁ + i₁ := by rw [tkS₁, e₁, if_neg nb₁]
      delta w_X12_go_96
      rw [p53₁, hn3₁, ltN (by omega) (by omega), ix_nI (by omega)]
      refine ⟨hM₁.k, fun z₁ => ⟨_, hM₁.r1, hM₁.k1, by rw [hM₁.n1]; exact (vp_nI (by omega)).mpr (by omega), fun v8₁ g8₁ => ?_⟩, fun z₁ I62₁ g62₁ => ?_⟩
      · rw [hT3₁ _ z₁] at g8₁
        subst g8₁
        have run₁ : isRn (B₁ (p₁ + i₁)) = true → ∀ (L11₁ : ML) (I12₁ : MI), L11₁ = mup L1₁ y0₁ 12 0 → I12₁ = mup I3₁ y0₁ 8 0 → w_X12_go_215 y0₁ (isLt (B₁ (p₁ + i₁))) 1 K₁ N₁ I12₁ L11₁ R₁ Q₁ := by
          intro y₁ L11₁ I12₁ g11₁ g12₁
          have hlt₁ : p₁ + i₁ < skpS isRn B₁ n₁ (p₁ + i₁) := by
            have g₁ := skp_go (P₁ := isRn) z₁ y₁
            have := skp_ge (P₁ := isRn) (B₁ := B₁) (n₁ := n₁) (p₁ := p₁ + i₁ + 1)
            omega
          have eE₁ : tkE₁ B₁ n₁ p₁ = skpS isRn B₁ n₁ (p₁ + i₁) := by rw [tkE₁, e₁]
          have eK₁ : tkK₁ B₁ n₁ lm₁ p₁ = runK B₁ (p₁ + i₁) (skpS isRn B₁ n₁ (p₁ + i₁) - (p₁ + i₁)) := by rw [tkK₁, e₁, if_neg nb₁, if_neg (by omega), if_pos y₁, eE₁]
          have eN₁ : tkN₁ B₁ n₁ lm₁ p₁ = skpS isRn B₁ n₁ (p₁ + i₁) := by rw [tkN₁, e₁, if_neg nb₁, if_neg (by omega), if_pos y₁, eE₁]
          have eW₁ : tkW₁ B₁ n₁ p₁ = letsL B₁ (p₁ + i₁) (skpS isRn B₁ n₁ (p₁ + i₁) - (p₁ + i₁)) := by rw [tkW₁, e₁, eE₁]
          have eV₁ : tkV₁ B₁ n₁ p₁ = numV B₁ (p₁ + i₁) (skpS isRn B₁ n₁ (p₁ + i₁) - (p₁ + i₁)) := by rw [tkV₁, e₁, eE₁]
          refine r_run hM₁ hb₁ h940 (fun j₁ hj₁ => by rw [g12₁, mup_ne (by omega)]; exact hT3₁ j₁ hj₁) (by rw [g12₁, mup_k (by decide)]; exact hn3₁) (by rw [g12₁, mup_k (by decide)]; exact p53₁) (by rw [g12₁, mup_k (by decide)]; exact a6₁) z₁ (by rw [g12₁, mup_at]) (by rw [g11₁, mup_at]) y₁ (fun J₁ M₁ j5₁ j7₁ jw₁ jd₁ jf1₁ jf2₁ jf3₁ => ?_)
          have fy₁ : ∀ y₁, y₁ ≠ 5 → y₁ ≠ 7 → y₁ ≠ 8 → J₁ y0₁ y₁ = I3₁ y0₁ y₁ := fun y₁ q1₁ q2₁ q3₁ => by rw [jf2₁ y₁ q1₁ q2₁ q3₁, g12₁, mup_k q3₁]
          refine h₁ J₁ M₁ ⟨?_, ?_, ?_, ?_, ?_, fun w₁ => ?_, fun w₁ => ?_, fun w₁ => ?_⟩ ⟨fun b₁ q₁ => by rw [jf1₁ b₁ q₁, g12₁, mup_ne q₁, b3₁ b₁ q₁], fun y₁ q1₁ q2₁ q3₁ q4₁ _ => by rw [fy₁ y₁ q1₁ q3₁ q4₁, fr3₁ y₁ q1₁ q2₁], fun b₁ q₁ => by rw [jf3₁ b₁ q₁, g11₁, mup_ne q₁]⟩
          · rw [fy₁ 3 (by decide) (by decide) (by decide)]; exact hn3₁
          · rw [fy₁ 4 (by decide) (by decide) (by decide)]; exact hl3₁
          · rw [j5₁, eN₁]
          · rw [j7₁, eK₁]
          · rw [fy₁ 6 (by decide) (by decide) (by decide), a6₁, eS₁]
          · rw [eW₁]; exact jw₁ (by rw [← eK₁]; exact w₁)
          · rw [eV₁]; exact jd₁ (by rw [← eK₁]; exact w₁)
          · rw [eK₁, runK] at w₁
            split at w₁
            · omega
            · split at w₁ <;> omega
        refine r_isLetter (hb₁ _) ⟨fun y₁ => r_isLetter (hb₁ _) (fun L11₁ g11₁ I12₁ g12₁ => run₁ (by rw [isRn, y₁]; rfl) L11₁ I12₁ g11₁ g12₁), fun y₁ => r_isDigit (hb₁ _) ⟨fun w₁ => r_isLetter (hb₁ _) (fun L11₁ g11₁ I12₁ g12₁ => run₁ (by rw [isRn, w₁]; exact Bool.or_true _) L11₁ I12₁ g11₁ g12₁), fun w₁ => ?_⟩⟩
        have nr₁ : isRn (B₁ (p₁ + i₁)) = false := by rw [isRn, y₁, w₁]; rfl
        have eN₁ : tkN₁ B₁ n₁ lm₁ p₁ = p₁ + i₁ + 1 := by rw [tkN₁, e₁, if_neg nb₁, if_neg (by omega), if_neg (by rw [nr₁]; decide)]
        have eG₁ : tkG₁ B₁ n₁ p₁ = B₁ (p₁ + i₁) := by rw [tkG₁, e₁]
        have done : ∀ k₁ : Nat, tkK₁ B₁ n₁ lm₁ p₁ = k₁ → (k₁ = 3 ∨ k₁ = 4) → ∀ I41₁ : MI, I41₁ = mup I3₁ y0₁ 7 (nI (krS₁ k₁)) → ∀ I42₁ : MI, I42₁ = mup I41₁ y0₁ 9 (nI (B₁ (p₁ + i₁))) → ∀ I43₁ : MI, I43₁ = mup I42₁ y0₁ 5 ((I42₁ y0₁ 5) + 1) → Q₁ I43₁ L1₁ := by
          intro k₁ ek₁ hk₁ J1₁ g1₁ J2₁ g2₁ J3₁ g4₁
          have fy₁ : ∀ y₁, y₁ ≠ 7 → y₁ ≠ 9 → y₁ ≠ 5 → J3₁ y0₁ y₁ = I3₁ y0₁ y₁ := fun y₁ q1₁ q2₁ q3₁ => by rw [g4₁, mup_k q3₁, g2₁, mup_k q2₁, g1₁, mup_k q1₁]
          refine h₁ J3₁ L1₁ ⟨?_, ?_, ?_, ?_, ?_, fun w₁ => by omega, fun w₁ => by omega, fun _ => ?_⟩ ⟨fun b₁ q₁ => by rw [g4₁, mup_ne q₁, g2₁, mup_ne q₁, g1₁, mup_ne q₁, b3₁ b₁ q₁], fun y₁ q1₁ q2₁ q3₁ _ q5₁ => by rw [fy₁ y₁ q3₁ q5₁ q1₁, fr3₁ y₁ q1₁ q2₁], fun _ _ => rfl⟩
          · rw [fy₁ 3 (by decide) (by decide) (by decide)]; exact hn3₁
          · rw [fy₁ 4 (by decide) (by decide) (by decide)]; exact hl3₁
          · rw [g4₁, mup_at, g2₁, mup_k (by decide), g1₁, mup_k (by decide), p53₁, nI_1, eN₁]
          · rw [g4₁, mup_k (by decide), g2₁, mup_k (by decide), g1₁, mup_at, ek₁]
          · rw [fy₁ 6 (by decide) (by decide) (by decide), a6₁, eS₁]
          · rw [g4₁, mup_k (by decide), g2₁, mup_at, eG₁]
        have eqc₁ : ∀ k₁, k₁ < 256 → (nI (B₁ (p₁ + i₁)) = nI k₁ ↔ B₁ (p₁ + i₁) = k₁) := fun k₁ hk₁ => eqN (by have := hb₁ (p₁ + i₁); omega) (by omega)
        have kS₁ : isSg (B₁ (p₁ + i₁)) = true → tkK₁ B₁ n₁ lm₁ p₁ = 3 := fun q₁ => by rw [tkK₁, e₁, if_neg nb₁, if_neg (by omega), if_neg (by rw [nr₁]; decide), if_pos q₁]
        have d3₁ := fun q₁ => done 3 (kS₁ q₁) (Or.inl rfl)
        refine ⟨fun z1₁ => d3₁ (by rw [(eqc₁ 59 (by decide)).mp z1₁]; rfl), fun z1₁ => ⟨fun z2₁ => d3₁ (by rw [(eqc₁ 60 (by decide)).mp z2₁]; rfl), fun z2₁ => ⟨fun z3₁ => d3₁ (by rw [(eqc₁ 61 (by decide)).mp z3₁]; rfl), fun z3₁ => ⟨fun z4₁ => d3₁ (by rw [(eqc₁ 62 (by decide)).mp z4₁]; rfl), fun z4₁ => ⟨fun z5₁ => d3₁ (by rw [(eqc₁ 40 (by decide)).mp z5₁]; rfl), fun z5₁ => ⟨fun z6₁ => done 4 ?_ (Or.inr rfl), fun z6₁ => d3₁ (by rw [(eqc₁ 41 (by decide)).mp z6₁]; rfl)⟩⟩⟩⟩⟩⟩
        rw [tkK₁, e₁, if_neg nb₁, if_neg (by omega), if_neg (by rw [nr₁]; decide), if_neg]
        intro q₁
        simp only [isSg, Bool.or_eq_true, beq_iff_eq] at q₁
        rcases q₁ with ((((q₁ | q₁) | q₁) | q₁) | q₁) | q₁
        · exact z1₁ ((eqc₁ 59 (by decide)).mpr q₁)
        · exact z2₁ ((eqc₁ 60 (by decide)).mpr q₁)
        · exact z3₁ ((eqc₁ 61 (by decide)).mpr q₁)
        · exact z4₁ ((eqc₁ 62 (by decide)).mpr q₁)
        · exact z5₁ ((eqc₁ 40 (by decide)).mpr q₁)
        · exact z6₁ ((eqc₁ 41 (by decide)).mpr q₁)
      · have eN₁ : tkN₁ B₁ n₁ lm₁ p₁ = p₁ + i₁ := by rw [tkN₁, e₁, if_neg nb₁, if_pos (by omega)]
        have eK₁ : tkK₁ B₁ n₁ lm₁ p₁ = 0 := by rw [tkK₁, e₁, if_neg nb₁, if_pos (by omega)]
        refine h₁ I62₁ L1₁ ⟨?_, ?_, ?_, ?_, ?_, fun w₁ => by omega, fun w₁ => by omega, fun w₁ => by omega⟩ ⟨fun b₁ q₁ => by rw [g62₁, mup_ne q₁, b3₁ b₁ q₁], fun y₁ q1₁ q2₁ q3₁ _ _ => by rw [g62₁, mup_k q3₁, fr3₁ y₁ q1₁ q2₁], fun _ _ => rfl⟩
        · rw [g62₁, mup_k (by decide)]; exact hn3₁
        · rw [g62₁, mup_k (by decide)]; exact hl3₁
        · rw [g62₁, mup_k (by decide), p53₁, eN₁]
        · rw [g62₁, mup_at, eK₁]; rfl
        · rw [g62₁, mup_k (by decide), a6₁, eS₁]
    refine ⟨fun z₁ => rest (by omega), fun z₁ => ⟨fun y₁ => rest (by omega), fun y₁ I63₁ g63₁ I64₁ g64₁ => ?_⟩⟩
    have nb₁ : lm₁ < n₁ ∧ lm₁ ≤ p₁ + i₁ := by omega
    refine h₁ I64₁ L1₁ ⟨?_, ?_, ?_, ?_, ?_, fun w₁ => ?_, fun w₁ => ?_, fun w₁ => ?_⟩ ⟨fun b₁ q₁ => by rw [g64₁, mup_ne q₁, g63₁, mup_ne q₁, b3₁ b₁ q₁], fun y₁ q1₁ q2₁ q3₁ _ _ => by rw [g64₁, mup_k q3₁, g63₁, mup_k q2₁, fr3₁ y₁ q1₁ q2₁], fun _ _ => rfl⟩
    · rw [g64₁, mup_k (by decide), g63₁, mup_k (by decide)]; exact hn3₁
    · rw [g64₁, mup_k (by decide), g63₁, mup_k (by decide)]; exact hl3₁
    · rw [g64₁, mup_k (by decide), g63₁, mup_k (by decide), p53₁, tkN₁, e₁, if_pos nb₁]
    · rw [g64₁, mup_at, tkK₁, e₁, if_pos nb₁]; rfl
    · rw [g64₁, mup_k (by decide), g63₁, mup_at, tkS₁, e₁, if_pos nb₁]
    · rw [tkK₁, e₁, if_pos nb₁] at w₁; omega
    · rw [tkK₁, e₁, if_pos nb₁] at w₁; omega
    · rw [tkK₁, e₁, if_pos nb₁] at w₁; omega
  rw [hn1₁, p5₁, leN (by omega) (by omega), ix_nI (by omega)]
  refine ⟨hM₁.k, fun z₁ => fin₁ (by rw [← hs₁, skp_no (by omega)]), fun z₁ => ⟨_, hM₁.r1, hM₁.k1, by rw [hM₁.n1]; exact (vp_nI (by omega)).mpr (by omega), ?_⟩⟩
  have hq₁ : p₁ + i₁ < n₁ := by omega
  rw [hT1₁ _ hq₁]
  have hc6₁ := hb₁ (p₁ + i₁)
  have e32₁ : nI (B₁ (p₁ + i₁)) = 32 ↔ B₁ (p₁ + i₁) = 32 := show _ = nI 32 ↔ _ from eqN (by omega) (by omega)
  have e10₁ : nI (B₁ (p₁ + i₁)) = 10 ↔ B₁ (p₁ + i₁) = 10 := show _ = nI 10 ↔ _ from eqN (by omega) (by omega)
  rw [e32₁, e10₁]
  have next : isBl (B₁ (p₁ + i₁)) = true → ∀ I68₁ : MI, I68₁ = mup I1₁ y0₁ 5 (nI (p₁ + i₁) + 1) → ∃ n1₁, n1₁ < 1000 - i₁ ∧ ((fun n1₁ y0'₁ I1₁ L1'₁ => y0'₁ = y0₁ ∧ L1'₁ = L1₁ ∧ ∃ i₁, p₁ + i₁ ≤ n₁ ∧ n1₁ = 1000 - i₁ ∧ skpS isBl B₁ n₁ (p₁ + i₁) = skpS isBl B₁ n₁ p₁ ∧ I1₁ y0₁ 5 = nI (p₁ + i₁) ∧ (∀ b₁, b₁ ≠ y0₁ → I1₁ b₁ = I₁ b₁) ∧ (∀ y₁, y₁ ≠ 5 → I1₁ y0₁ y₁ = I₁ y0₁ y₁) : Nat → Nat → MI → ML → Prop) n1₁ y0₁ I68₁ L1₁) := fun w₁ I68₁ g68₁ =>
    ⟨1000 - (i₁ + 1), by omega, rfl, rfl, i₁ + 1, by omega, rfl, by rw [← hs₁, skp_go hq₁ w₁, Nat.add_assoc], by rw [g68₁, mup_at, nI_1]; rfl, fun b₁ q₁ => by rw [g68₁, mup_ne q₁, f1₁ b₁ q₁], fun y₁ q₁ => by rw [g68₁, mup_k q₁, f2₁ y₁ q₁]⟩
  refine ⟨fun w₁ => next (by rw [w₁]; rfl), fun w₁ => ⟨fun v₁ => fin₁ ?_, fun v₁ => next (by rw [v₁]; rfl)⟩⟩
  rw [← hs₁, skp_no]
  intro q₁
  have := q₁.2
  simp only [isBl, Bool.or_eq_true, beq_iff_eq] at this
  exact this.elim w₁ v₁
theorem r_begin {Q₁ : MI → ML → Prop} (hM₁ : MDL K₁ N₁ R₁ m₁) (hb₁ : ∀ i₁, B₁ i₁ < 256) (h940 : n₁ ≤ 940) (hB₁ : TAP₁ I₁ (m₁ + 1) B₁ n₁) (hn₁ : I₁ m₁ 2 = nI n₁) (hlm₁ : lm₁ < 1000)
    (h₁ : ∀ J₁ M₁, TKR₁ J₁ M₁ m₁ B₁ n₁ lm₁ 0 → J₁ m₁ 2 = 0 → J₁ m₁ 10 = 0 → (∀ y₁, y₁ ≠ 0 → y₁ ≠ 2 → y₁ ≠ 3 → y₁ ≠ 4 → y₁ ≠ 5 → y₁ ≠ 6 → y₁ ≠ 7 → y₁ ≠ 8 → y₁ ≠ 9 → y₁ ≠ 10 → J₁ m₁ y₁ = I₁ m₁ y₁) → (∀ b₁, b₁ ≠ m₁ → J₁ b₁ = I₁ b₁) → (∀ b₁, b₁ ≠ m₁ → M₁ b₁ = L₁ b₁) → Q₁ J₁ M₁) : w_X12_begin m₁ (nI lm₁) K₁ N₁ I₁ L₁ R₁ Q₁ := by
  delta w_X12_begin w_X12_take
  refine ⟨hM₁.k, fun I2₁ g2₁ => ⟨hM₁.k, fun v2₁ gv₁ I3₁ g3₁ I5₁ g5₁ I6₁ g6₁ I7₁ g7₁ I8₁ g8₁ => ?_⟩⟩
  have b8₁ : ∀ b₁, b₁ ≠ m₁ → I8₁ b₁ = I₁ b₁ := fun b₁ q₁ => by rw [g8₁, mup_ne q₁, g7₁, mup_ne q₁, g6₁, mup_ne q₁, g5₁, mup_ne q₁, g3₁, mup_ne q₁, g2₁, mup_ne q₁]
  have ev₁ : v2₁ = nI n₁ := by rw [gv₁, g2₁, mup_k (by decide)]; exact hn₁
  refine r_go hM₁ hb₁ h940 (fun j₁ hj₁ => by rw [b8₁ _ (by omega)]; exact hB₁ j₁ hj₁) ?_ ?_ hlm₁ ?_ (Nat.zero_le n₁) (fun J₁ M₁ t1₁ t2₁ => h₁ J₁ M₁ t1₁ ?_ ?_ (fun y₁ q0₁ q2₁ q3₁ q4₁ q5₁ q6₁ q7₁ q8₁ q9₁ q10₁ => ?_) (fun b₁ q₁ => by rw [t2₁.1 b₁ q₁, b8₁ b₁ q₁]) t2₁.2.2)
  · rw [g8₁, mup_k (by decide), g7₁, mup_k (by decide), g6₁, mup_k (by decide), g5₁, mup_at, ev₁]
  · rw [g8₁, mup_k (by decide), g7₁, mup_k (by decide), g6₁, mup_at]
  · rw [g8₁, mup_at]; rfl
  · rw [t2₁.2.1 2 (by decide) (by decide) (by decide) (by decide) (by decide), g8₁, mup_k (by decide), g7₁, mup_k (by decide), g6₁, mup_k (by decide), g5₁, mup_k (by decide), g3₁, mup_at]
  · rw [t2₁.2.1 10 (by decide) (by decide) (by decide) (by decide) (by decide), g8₁, mup_k (by decide), g7₁, mup_at]
  · rw [t2₁.2.1 y₁ q5₁ q6₁ q7₁ q8₁ q9₁, g8₁, mup_k q5₁, g7₁, mup_k q10₁, g6₁, mup_k q4₁, g5₁, mup_k q3₁, g3₁, mup_k q2₁, g2₁, mup_k q0₁]
end RG₁
