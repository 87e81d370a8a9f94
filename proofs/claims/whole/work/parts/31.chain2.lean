/-! ===== the class's chain ===== -/
section UN₁
variable {K₁ N₁ : MK} {I₁ : MI} {L₁ : ML} {R₁ : MR} {x₁ n0₁ : Nat} {U₁ : Nat → Int32} {W₁ : Nat → Int64}
theorem s_chain {a₁ : Int32} {Q₁ : Int32 → MI → ML → Prop} (hX₁ : PDL K₁ N₁ R₁ x₁) (hD₁ : UD I₁ L₁ (x₁ + 3) U₁ W₁) (hU₁ : WFc U₁) (hr₁ : WFr U₁) (hs₁ : WFs U₁) (hC₁ : TD I₁ (x₁ + 77) 10 2 n0₁)
    (hno₁ : adr U₁ a₁ = false → Q₁ (-1) I₁ L₁)
    (h₁ : adr U₁ a₁ = true → ∀ I1₁ L1₁ n₁, n₁ ≤ 10 → seqS U₁ a₁ n₁ = -1 → (∀ j₁, j₁ < n₁ → seqS U₁ a₁ j₁ ≠ -1) → TD I1₁ (x₁ + 77) 10 2 n₁ → (∀ j₁, j₁ < n₁ → I1₁ (x₁ + 77 + 2) (j₁ * 2 + 0) = seqS U₁ a₁ j₁ ∧ I1₁ (x₁ + 77 + 2) (j₁ * 2 + 1) = seqL U₁ a₁ j₁) → (∀ b₁, b₁ ≠ x₁ + 77 → b₁ ≠ x₁ + 77 + 2 → I1₁ b₁ = I₁ b₁) → (∀ b₁, b₁ ≠ x₁ + 77 + 1 → L1₁ b₁ = L₁ b₁) → Q₁ (nI n₁) I1₁ L1₁) : w_X11_chain x₁ a₁ K₁ N₁ I₁ L₁ R₁ Q₁ := by
  have hn₁ := hU₁.2.1.2
  have hL₁ := hX₁.un
  have hT₁ := hX₁.cha
  refine ⟨hX₁.k, _, hX₁.r_unit, hL₁.1, s_hasAddress hL₁ hD₁.1 hU₁ ⟨fun e₁ => ⟨_, hX₁.r_chain, hT₁.1, s_forget hT₁ ?_⟩, hno₁⟩⟩
  have h₁ := h₁ e₁
  have f0₁ : ∀ b₁, b₁ ≠ x₁ + 77 → b₁ ≠ x₁ + 77 + 2 → mup I₁ (x₁ + 77) 3 0 b₁ = I₁ b₁ := fun b₁ h1₁ _ => mup_ne h1₁
  have fD₁ : ∀ {I1₁ : MI} {L1₁ : ML}, (∀ b₁, b₁ ≠ x₁ + 77 → b₁ ≠ x₁ + 77 + 2 → I1₁ b₁ = I₁ b₁) → (∀ b₁, b₁ ≠ x₁ + 77 + 1 → L1₁ b₁ = L₁ b₁) → UD I1₁ L1₁ (x₁ + 3) U₁ W₁ := fun g1₁ g2₁ => hD₁.fr (fun b₁ h1₁ h2₁ => g1₁ b₁ (by omega) (by omega)) (fun b₁ h1₁ h2₁ => g2₁ b₁ (by omega))
  have d0₁ := fD₁ f0₁ (fun b₁ _ => rfl)
  refine s_lineOf hL₁ d0₁.1 d0₁.2.1 hU₁ hr₁ ?_
  rw [if_pos e₁]
  refine s_scopeBehind hL₁ d0₁.2.2.1 hU₁ hs₁ (Or.inl rfl) ?_
  delta w_X11_chain_42
  refine ⟨fun n₁ x0₁ x1₁ x2₁ x3₁ x4₁ I5₁ L5₁ => x0₁ = x₁ ∧ x1₁ = a₁ ∧ ∃ k₁, k₁ ≤ 10 ∧ n₁ = 10 - k₁ ∧ x4₁ = nI k₁ ∧ x3₁ = seqS U₁ a₁ k₁ ∧ x2₁ = seqL U₁ a₁ k₁ ∧ (∀ j₁, j₁ < k₁ → seqS U₁ a₁ j₁ ≠ -1) ∧ TD I5₁ (x₁ + 77) 10 2 k₁ ∧ (∀ j₁, j₁ < k₁ → I5₁ (x₁ + 77 + 2) (j₁ * 2 + 0) = seqS U₁ a₁ j₁ ∧ I5₁ (x₁ + 77 + 2) (j₁ * 2 + 1) = seqL U₁ a₁ j₁) ∧ (∀ b₁, b₁ ≠ x₁ + 77 → b₁ ≠ x₁ + 77 + 2 → I5₁ b₁ = I₁ b₁) ∧ (∀ b₁, b₁ ≠ x₁ + 77 + 1 → L5₁ b₁ = L₁ b₁), ⟨10, rfl, rfl, 0, Nat.zero_le _, rfl, rfl, rfl, rfl, fun j₁ hj₁ => absurd hj₁ (Nat.not_lt_zero _), hC₁.many (Nat.zero_le _), fun j₁ hj₁ => absurd hj₁ (Nat.not_lt_zero _), f0₁, fun b₁ _ => rfl⟩, ?_⟩
  rintro n₁ x0₁ x1₁ x2₁ x3₁ x4₁ I5₁ L5₁ ⟨e0₁, e1₁, k₁, hk₁, hm₁, e4₁, e3₁, e2₁, hall, hd₁, hw₁, fI₁, fL₁⟩
  subst e0₁; subst e1₁; subst e4₁
  have fin₁ : seqS U₁ x1₁ k₁ = -1 → Q₁ (I5₁ (x0₁ + 77) 3) I5₁ L5₁ := fun z₁ => by
    rw [hd₁.2.1]; exact h₁ I5₁ L5₁ k₁ hk₁ z₁ hall hd₁ hw₁ fI₁ fL₁
  refine ⟨fun g₁ => ⟨hX₁.k, _, hX₁.r_chain, hT₁.1, fin₁ ?_⟩, fun g₁ => ⟨fun z₁ => ⟨hX₁.k, _, hX₁.r_chain, hT₁.1, fin₁ (by rw [← e3₁]; exact z₁)⟩, fun z₁ => ⟨hX₁.k, _, hX₁.r_chain, hT₁.1, ?_⟩⟩⟩
  · rw [show (10 : Int32) = nI 10 from rfl, leN (by omega) (by omega)] at g₁
    refine Classical.byContradiction fun q₁ => ?_
    have := seqS_lt hs₁ hU₁ q₁
    omega
  · rw [show (10 : Int32) = nI 10 from rfl, leN (by omega) (by omega)] at g₁
    obtain ⟨t₁, ht₁, et₁⟩ : ∃ t₁, t₁ < ix (U₁ 2) ∧ seqS U₁ x1₁ k₁ = nI t₁ := (seqS_or U₁ x1₁ k₁).resolve_left (by rw [← e3₁]; exact z₁)
    have et3₁ : x3₁ = nI t₁ := e3₁.trans et₁
    refine s_add hT₁ hd₁ (by omega) ?_
    have hd1₁ : TD (mup I5₁ (x0₁ + 77) 3 (nI (k₁ + 1))) (x0₁ + 77) 10 2 (k₁ + 1) := hd₁.many (by omega)
    refine s_put (k₁ := k₁) (c₁ := 0) hT₁ hd1₁ (by omega) (by omega) ?_
    have hd2₁ : TD (mup (mup I5₁ (x0₁ + 77) 3 (nI (k₁ + 1))) (x0₁ + 77 + 2) (k₁ * 2 + 0) x3₁) (x0₁ + 77) 10 2 (k₁ + 1) := hd1₁.fr (mup_ne (by omega))
    refine s_put (k₁ := k₁) (c₁ := 1) hT₁ hd2₁ (by omega) (by omega) ?_
    generalize eI₁ : mup (mup (mup I5₁ (x0₁ + 77) 3 (nI (k₁ + 1))) (x0₁ + 77 + 2) (k₁ * 2 + 0) x3₁) (x0₁ + 77 + 2) (k₁ * 2 + 1) x2₁ = I6₁
    generalize eL₁ : mup L5₁ (x0₁ + 77 + 1) k₁ 0 = L6₁
    have fI6₁ : ∀ b₁, b₁ ≠ x0₁ + 77 → b₁ ≠ x0₁ + 77 + 2 → I6₁ b₁ = I₁ b₁ := fun b₁ h1₁ h2₁ => by rw [← eI₁, mup_ne h2₁, mup_ne h2₁, mup_ne h1₁]; exact fI₁ b₁ h1₁ h2₁
    have fL6₁ : ∀ b₁, b₁ ≠ x0₁ + 77 + 1 → L6₁ b₁ = L₁ b₁ := fun b₁ h1₁ => by rw [← eL₁, mup_ne h1₁]; exact fL₁ b₁ h1₁
    have d6₁ := fD₁ fI6₁ fL6₁
    refine ⟨_, hX₁.r_unit, hL₁.1, _, hL₁.2.2.1, hL₁.2.2.2.2.2.2.2.1.1, s_at hL₁.2.2.2.2.2.2.2.1 d6₁.2.2.1.1 (s_scopeBehind hL₁ d6₁.2.2.1 hU₁ hs₁ ?_ ?_)⟩
    · rw [et3₁]; exact Or.inr ⟨t₁, ht₁, rfl⟩
    · intro v₁ ev₁
      refine ⟨10 - (k₁ + 1), by omega, rfl, rfl, k₁ + 1, by omega, rfl, by rw [ev₁]; exact nI_1 k₁, ?_, ?_, ?_, ?_, ?_, fI6₁, fL6₁⟩
      · rw [seqS, if_neg (by rw [← e3₁]; exact z₁), e3₁]
      · rw [et3₁, show (2 : Int32) = nI 2 from rfl, tat_in ht₁ (by omega) (by omega) (by omega), (d6₁.2.2.1.2 t₁ ht₁).2.2.1, seqL, et₁, ix_nI (by omega)]
      · intro j₁ hj₁
        rcases Nat.eq_or_lt_of_le (Nat.le_of_lt_succ hj₁) with q₁ | q₁
        · rw [q₁, ← e3₁]; exact z₁
        · exact hall j₁ q₁
      · rw [← eI₁]; exact hd2₁.fr (mup_ne (by omega))
      · intro j₁ hj₁
        rw [← eI₁]
        rcases Nat.eq_or_lt_of_le (Nat.le_of_lt_succ hj₁) with q₁ | q₁
        · rw [q₁, mup_k (show k₁ * 2 + 0 ≠ k₁ * 2 + 1 by omega), mup_at, mup_at, e3₁, e2₁]; exact ⟨rfl, rfl⟩
        · rw [mup_k (show j₁ * 2 + 0 ≠ k₁ * 2 + 1 by omega), mup_k (show j₁ * 2 + 0 ≠ k₁ * 2 + 0 by omega), mup_k (show j₁ * 2 + 1 ≠ k₁ * 2 + 1 by omega), mup_k (show j₁ * 2 + 1 ≠ k₁ * 2 + 0 by omega), mup_a (by omega), mup_a (by omega)]
          exact hw₁ j₁ q₁
end UN₁
