/-! ===== the chain of an address, one scope after another ===== -/
def seqS (U₁ : Nat → Int32) (a₁ : Int32) : Nat → Int32
  | 0 => nicS U₁ a₁ (-1)
  | k₁ + 1 => if seqS U₁ a₁ k₁ = -1 then -1 else nicS U₁ a₁ (seqS U₁ a₁ k₁)
def seqL (U₁ : Nat → Int32) (a₁ : Int32) : Nat → Int32
  | 0 => lineOf U₁ a₁
  | k₁ + 1 => U₁ (86 + ix (seqS U₁ a₁ k₁))
def cntR (U₁ : Nat → Int32) (s₁ : Nat) : Nat → Nat
  | 0 => 0
  | r₁ + 1 => (if rnkS U₁ s₁ < rnkS U₁ r₁ then 1 else 0) + cntR U₁ s₁ r₁
theorem cntR_le (U₁ : Nat → Int32) (s₁ n₁ : Nat) : cntR U₁ s₁ n₁ + (if s₁ < n₁ then 1 else 0) ≤ n₁ := by
  induction n₁ with
  | zero => simp [cntR]
  | succ n₁ ih₁ =>
    rw [cntR]
    by_cases e₁ : s₁ = n₁
    · subst e₁
      rw [if_neg (fun z₁ => Int32.lt_irrefl z₁), if_pos (by omega)]
      rw [if_neg (by omega)] at ih₁
      omega
    · by_cases c₁ : s₁ < n₁
      · rw [if_pos c₁] at ih₁
        rw [if_pos (show s₁ < n₁ + 1 by omega)]
        split <;> omega
      · rw [if_neg c₁] at ih₁
        rw [if_neg (show ¬ s₁ < n₁ + 1 by omega)]
        split <;> omega
theorem cntR_lt {U₁ : Nat → Int32} {s₁ t₁ : Nat} (h₁ : rnkS U₁ s₁ < rnkS U₁ t₁) (n₁ : Nat) : cntR U₁ t₁ n₁ + (if t₁ < n₁ then 1 else 0) ≤ cntR U₁ s₁ n₁ := by
  induction n₁ with
  | zero => simp [cntR]
  | succ n₁ ih₁ =>
    rw [cntR, cntR]
    by_cases e₁ : t₁ = n₁
    · subst e₁
      rw [if_neg (fun z₁ => Int32.lt_irrefl z₁), if_pos h₁, if_pos (by omega)]
      rw [if_neg (by omega)] at ih₁
      omega
    · have m1₁ : (if rnkS U₁ t₁ < rnkS U₁ n₁ then 1 else 0) ≤ (if rnkS U₁ s₁ < rnkS U₁ n₁ then 1 else 0) := by
        by_cases c₁ : rnkS U₁ t₁ < rnkS U₁ n₁
        · rw [if_pos c₁, if_pos (Int32.lt_trans h₁ c₁)]; omega
        · rw [if_neg c₁]; omega
      by_cases c₁ : t₁ < n₁
      · rw [if_pos c₁] at ih₁
        rw [if_pos (show t₁ < n₁ + 1 by omega)]; omega
      · rw [if_neg c₁] at ih₁
        rw [if_neg (show ¬ t₁ < n₁ + 1 by omega)]; omega
theorem nicB_prop {U₁ : Nat → Int32} {a₁ b₁ : Int32} (hs₁ : WFs U₁) (hU₁ : WFc U₁) (hb₁ : orN b₁ (ix (U₁ 2))) : ∀ (k₁ s₁ : Nat), k₁ ≤ ix (U₁ 2) → s₁ < 2147483648 → nicB U₁ a₁ b₁ k₁ = nI s₁ → s₁ < k₁ ∧ hasS U₁ s₁ a₁ = true ∧ (b₁ = -1 ∨ rnkS U₁ (ix b₁) < rnkS U₁ s₁)
  | 0, s₁, _, h2₁, h₁ => absurd h₁ (m1_ne' h2₁)
  | k₁ + 1, s₁, h1₁, h2₁, h₁ => by
    have hn₁ := hU₁.2.1.2
    rw [nicB_step hs₁ hU₁ (by omega) hb₁] at h₁
    split at h₁
    · rename_i c₁
      have e₁ : k₁ = s₁ := (eqN (by omega) h2₁).mp h₁
      subst e₁
      exact ⟨by omega, c₁.1, c₁.2.1⟩
    · obtain ⟨g1₁, g2₁⟩ := nicB_prop hs₁ hU₁ hb₁ k₁ s₁ (by omega) h2₁ h₁
      exact ⟨by omega, g2₁⟩
theorem seqS_or (U₁ : Nat → Int32) (a₁ : Int32) (k₁ : Nat) : orN (seqS U₁ a₁ k₁) (ix (U₁ 2)) := by
  cases k₁ with
  | zero => exact nicS_or U₁ a₁ (-1)
  | succ k₁ =>
    rw [seqS]
    split
    · exact Or.inl rfl
    · exact nicS_or U₁ a₁ _
theorem seqS_cnt {U₁ : Nat → Int32} {a₁ : Int32} (hs₁ : WFs U₁) (hU₁ : WFc U₁) : ∀ (k₁ s₁ : Nat), s₁ < ix (U₁ 2) → seqS U₁ a₁ k₁ = nI s₁ → k₁ + 1 + cntR U₁ s₁ (ix (U₁ 2)) ≤ ix (U₁ 2)
  | 0, s₁, h1₁, h₁ => by
    have := cntR_le U₁ s₁ (ix (U₁ 2))
    rw [if_pos h1₁] at this
    omega
  | k₁ + 1, s₁, h1₁, h₁ => by
    have hn₁ := hU₁.2.1.2
    rw [seqS] at h₁
    split at h₁
    · exact absurd h₁ (m1_ne' (by omega))
    · rename_i c₁
      rcases seqS_or U₁ a₁ k₁ with e₁ | ⟨t₁, ht₁, e₁⟩
      · exact absurd e₁ c₁
      · have ih₁ := seqS_cnt hs₁ hU₁ k₁ t₁ ht₁ e₁
        obtain ⟨-, -, g₁⟩ := nicB_prop hs₁ hU₁ (seqS_or U₁ a₁ k₁) _ s₁ (Nat.le_refl _) (by omega) h₁
        rw [e₁, ix_nI (by omega)] at g₁
        have g₁ := cntR_lt (g₁.resolve_left (m1_ne (by omega))) (ix (U₁ 2))
        rw [if_pos h1₁] at g₁
        omega
theorem seqS_lt {U₁ : Nat → Int32} {a₁ : Int32} (hs₁ : WFs U₁) (hU₁ : WFc U₁) {k₁ : Nat} (h₁ : seqS U₁ a₁ k₁ ≠ -1) : k₁ < ix (U₁ 2) := by
  rcases seqS_or U₁ a₁ k₁ with e₁ | ⟨t₁, ht₁, e₁⟩
  · exact absurd e₁ h₁
  · have := seqS_cnt hs₁ hU₁ k₁ t₁ ht₁ e₁; omega
/-- what is written down of a chain -/
def chOK (I₁ : MI) (a1₁ a2₁ : Nat) (c₁ : Int32) (U₁ : Nat → Int32) (a₁ : Int32) (n₁ : Nat) : Prop := n₁ ≤ 10 ∧ seqS U₁ a₁ n₁ = -1 ∧ (∀ j₁, j₁ < n₁ → seqS U₁ a₁ j₁ ≠ -1) ∧ c₁ = nI n₁ ∧ ∀ j₁, j₁ < n₁ → I₁ a1₁ j₁ = seqS U₁ a₁ j₁ ∧ I₁ a2₁ j₁ = seqL U₁ a₁ j₁
section RG₁
variable {K₁ N₁ : MK} {I₁ : MI} {L₁ : ML} {R₁ : MR} {m₁ : Nat}
theorem r_chain {a₁ : Int32} {Q₁ : Int32 → MI → Prop} (hM₁ : MDL K₁ N₁ R₁ m₁) (hU₁ : WFc (I₁ (m₁ + 2))) (hs₁ : WFs (I₁ (m₁ + 2)))
    (hno₁ : adr (I₁ (m₁ + 2)) a₁ = false → Q₁ (-1) (mup I₁ m₁ 0 0))
    (h₁ : adr (I₁ (m₁ + 2)) a₁ = true → ∀ I1₁ n₁, chOK I1₁ (m₁ + 12) (m₁ + 13) (I1₁ m₁ 28) (I₁ (m₁ + 2)) a₁ n₁ → (∀ b₁ y₁, b₁ ≠ m₁ + 12 → b₁ ≠ m₁ + 13 → ¬ (b₁ = m₁ ∧ (y₁ = 28 ∨ y₁ = 0)) → I1₁ b₁ y₁ = I₁ b₁ y₁) → Q₁ (nI n₁) I1₁) : w_X12_chain m₁ a₁ K₁ N₁ I₁ L₁ R₁ Q₁ := by
  delta w_X12_chain
  refine ⟨hM₁.k, fun I2₁ eI₁ => ?_⟩
  have g2₁ : I2₁ (m₁ + 2) = I₁ (m₁ + 2) := by rw [eI₁]; exact mup_ne (by omega)
  refine r_isAddress hM₁ ?_
  rw [g2₁]
  refine ⟨fun e₁ I4₁ eI4₁ => ?_, fun e₁ => by rw [eI₁]; exact hno₁ e₁⟩
  have h₁ := h₁ e₁
  have hn₁ := hU₁.2.1.2
  have g4₁ : I4₁ (m₁ + 2) = I₁ (m₁ + 2) := by rw [eI4₁, mup_ne (by omega), g2₁]
  refine r_lineOf hM₁ (by rw [g4₁]; exact hU₁) (r_nextInChain hM₁ (by rw [g4₁]; exact hU₁) (Or.inl rfl) ?_)
  rw [g4₁]
  delta w_X12_chain_33
  refine ⟨fun n₁ x0₁ x1₁ x2₁ x3₁ I5₁ => x0₁ = m₁ ∧ x1₁ = a₁ ∧ ∃ k₁, k₁ ≤ 10 ∧ n₁ = 10 - k₁ ∧ x3₁ = seqS (I₁ (m₁ + 2)) a₁ k₁ ∧ x2₁ = seqL (I₁ (m₁ + 2)) a₁ k₁ ∧ (∀ j₁, j₁ < k₁ → seqS (I₁ (m₁ + 2)) a₁ j₁ ≠ -1) ∧ I5₁ m₁ 28 = nI k₁ ∧ (∀ j₁, j₁ < k₁ → I5₁ (m₁ + 12) j₁ = seqS (I₁ (m₁ + 2)) a₁ j₁ ∧ I5₁ (m₁ + 13) j₁ = seqL (I₁ (m₁ + 2)) a₁ j₁) ∧ ∀ b₁ y₁, b₁ ≠ m₁ + 12 → b₁ ≠ m₁ + 13 → ¬ (b₁ = m₁ ∧ (y₁ = 28 ∨ y₁ = 0)) → I5₁ b₁ y₁ = I₁ b₁ y₁, ⟨10, rfl, rfl, 0, Nat.zero_le _, rfl, rfl, rfl, fun j₁ hj₁ => absurd hj₁ (Nat.not_lt_zero _), by rw [eI4₁]; exact mup_at, fun j₁ hj₁ => absurd hj₁ (Nat.not_lt_zero _), fun b₁ y₁ h1₁ h2₁ h3₁ => ?_⟩, ?_⟩
  · rw [eI4₁, eI₁, mup, mup, if_neg (fun z₁ => h3₁ ⟨z₁.1, Or.inl z₁.2⟩), if_neg (fun z₁ => h3₁ ⟨z₁.1, Or.inr z₁.2⟩)]
  · rintro n₁ x0₁ x1₁ x2₁ x3₁ I5₁ ⟨e0₁, e1₁, k₁, hk₁, hm₁, e3₁, e2₁, hall, hc₁, hw₁, hf₁⟩
    subst e0₁; subst e1₁
    have g5₁ : I5₁ (x0₁ + 2) = I₁ (x0₁ + 2) := by
      funext y₁; exact hf₁ (x0₁ + 2) y₁ (by omega) (by omega) (by omega)
    refine ⟨fun z₁ => ⟨hM₁.k, ?_⟩, fun z₁ => ?_⟩
    · rw [hc₁]
      exact h₁ I5₁ k₁ ⟨hk₁, by rw [← e3₁]; exact z₁, hall, hc₁, hw₁⟩ hf₁
    · have hlt₁ : k₁ < ix (I₁ (x0₁ + 2) 2) := seqS_lt hs₁ hU₁ (a₁ := x1₁) (by rw [← e3₁]; exact z₁)
      obtain ⟨t₁, ht₁, et₁⟩ : ∃ t₁, t₁ < ix (I₁ (x0₁ + 2) 2) ∧ seqS (I₁ (x0₁ + 2)) x1₁ k₁ = nI t₁ := (seqS_or (I₁ (x0₁ + 2)) x1₁ k₁).resolve_left (by rw [← e3₁]; exact z₁)
      have et3₁ : x3₁ = nI t₁ := e3₁.trans et₁
      refine ⟨hM₁.k, _, hM₁.r26, hM₁.k12, ?_, fun I6₁ e6₁ => ⟨_, hM₁.r27, hM₁.k13, ?_, fun I7₁ e7₁ => ⟨_, hM₁.r14, hM₁.k2, ?_, fun v₁ ev₁ I8₁ e8₁ => ?_⟩⟩⟩
      · rw [hc₁, hM₁.n12]; exact (vp_nI (by omega)).mpr (by omega)
      · rw [e6₁, mup_a (by omega), hc₁, hM₁.n13]; exact (vp_nI (by omega)).mpr (by omega)
      · rw [et3₁, hM₁.n2]; exact vp_cn (by omega) (by decide)
      · have c6₁ : I6₁ x0₁ 28 = nI k₁ := by rw [e6₁, mup_a (by omega), hc₁]
        have c7₁ : I7₁ x0₁ 28 = nI k₁ := by rw [e7₁, mup_a (by omega), c6₁]
        have g8₁ : I8₁ (x0₁ + 2) = I₁ (x0₁ + 2) := by
          rw [e8₁, mup_ne (by omega), e7₁, mup_ne (by omega), e6₁, mup_ne (by omega), g5₁]
        refine r_nextInChain hM₁ (by rw [g8₁]; exact hU₁) (Or.inr ⟨t₁, by omega, et3₁⟩) ?_
        rw [g8₁]
        refine ⟨10 - (k₁ + 1), by omega, rfl, rfl, k₁ + 1, by omega, rfl, ?_, ?_, ?_, ?_, ?_, ?_⟩
        · rw [seqS, if_neg (by rw [← e3₁]; exact z₁), e3₁]
        · have g7₁ : I7₁ (x0₁ + 2) = I₁ (x0₁ + 2) := by rw [e7₁, mup_ne (by omega), e6₁, mup_ne (by omega), g5₁]
          rw [ev₁, seqL, g7₁, et3₁, et₁, ix_cn (by omega), ix_nI (by omega)]
        · intro j₁ hj₁
          rcases Nat.eq_or_lt_of_le (Nat.le_of_lt_succ hj₁) with q₁ | q₁
          · rw [q₁, ← e3₁]; exact z₁
          · exact hall j₁ q₁
        · rw [e8₁, mup_at, c7₁]; exact nI_1 k₁
        · intro j₁ hj₁
          have q6₁ : I6₁ = mup I5₁ (x0₁ + 12) k₁ x3₁ := by rw [e6₁, hc₁, ix_nI (by omega)]
          have q7₁ : I7₁ = mup I6₁ (x0₁ + 13) k₁ x2₁ := by rw [e7₁, c6₁, ix_nI (by omega)]
          rw [e8₁, mup_a (by omega), mup_a (by omega), q7₁, mup_a (show x0₁ + 12 ≠ x0₁ + 13 by omega), q6₁]
          rcases Nat.eq_or_lt_of_le (Nat.le_of_lt_succ hj₁) with q₁ | q₁
          · rw [q₁, mup_at, mup_at, e3₁, e2₁]; exact ⟨rfl, rfl⟩
          · rw [mup_k (by omega), mup_k (by omega), mup_a (by omega)]; exact hw₁ j₁ q₁
        · intro b₁ y₁ h1₁ h2₁ h3₁
          rw [e8₁, mup, if_neg (fun q₁ => h3₁ ⟨q₁.1, Or.inl q₁.2⟩), e7₁, mup_a h2₁, e6₁, mup_a h1₁]
          exact hf₁ b₁ y₁ h1₁ h2₁ h3₁
end RG₁
