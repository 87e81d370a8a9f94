/-! ===== a book read: the class ===== -/
section BK₁
variable {B₁ : Nat → Nat} {n₁ lm₁ p₁ : Nat}
theorem nmS_b {lo₁ hi₁ : Nat} : nmS₁ B₁ n₁ lm₁ p₁ lo₁ hi₁ ≤ 2 := by rw [nmS₁]; split; (split <;> omega); omega
theorem bNum_b {lo₁ hi₁ : Nat} {kk₁ : Nat → Nat → BRES} (h₁ : ∀ a₁ q₁ k₁ pl₁, kk₁ a₁ q₁ = .inl (k₁, pl₁) → 1 ≤ k₁ ∧ k₁ ≤ 5) {k₁ pl₁ : Nat} (e₁ : bNum B₁ n₁ lm₁ p₁ lo₁ hi₁ kk₁ = .inl (k₁, pl₁)) : 1 ≤ k₁ ∧ k₁ ≤ 5 := by
  have := nmS_b (B₁ := B₁) (n₁ := n₁) (lm₁ := lm₁) (p₁ := p₁) (lo₁ := lo₁) (hi₁ := hi₁)
  rw [bNum] at e₁
  split at e₁
  · injection e₁ with e₁
    injection e₁ with e1₁ e2₁
    omega
  · exact h₁ _ _ _ _ e₁
theorem pBkL_b {cnt₁ k₁ pl₁ : Nat} (e₁ : pBkL B₁ n₁ lm₁ cnt₁ p₁ = .inl (k₁, pl₁)) : 1 ≤ k₁ ∧ k₁ ≤ 5 := by
  rw [pBkL] at e₁
  split at e₁
  · injection e₁ with e₁; injection e₁ with e1₁ e2₁; omega
  · split at e₁
    · injection e₁ with e₁; injection e₁ with e1₁ e2₁; omega
    · split at e₁
      · exact bNum_b (fun a₁ q₁ k₁ pl₁ e₁ => bNum_b (fun _ _ _ _ e₁ => by cases e₁) e₁) e₁
      · split at e₁
        · exact bNum_b (fun _ _ _ _ e₁ => by cases e₁) e₁
        · cases e₁
theorem bNum_r {lo₁ hi₁ : Nat} {kk₁ : Nat → Nat → BRES} {z₁ : (Nat × Nat × Nat) × Nat} (e₁ : bNum B₁ n₁ lm₁ p₁ lo₁ hi₁ kk₁ = .inr z₁) : nmS₁ B₁ n₁ lm₁ p₁ lo₁ hi₁ = 0 ∧ kk₁ (tkV₁ B₁ n₁ p₁) (tkN₁ B₁ n₁ lm₁ p₁) = .inr z₁ := by
  rw [bNum] at e₁
  split at e₁
  · cases e₁
  · rename_i w₁
    exact ⟨Decidable.byContradiction w₁, e₁⟩
theorem pBkL_w {cnt₁ q₁ : Nat} {l₁ : Nat × Nat × Nat} (e₁ : pBkL B₁ n₁ lm₁ cnt₁ p₁ = .inr (l₁, q₁)) : lnW₁ l₁ ∧ cnt₁ ≠ 40 := by
  rw [pBkL] at e₁
  split at e₁
  · cases e₁
  · rename_i h8₁
    have k8₁ : bkK₁ B₁ n₁ lm₁ p₁ ≤ 8 := by rw [bkK₁]; (repeat' split) <;> omega
    split at e₁
    · cases e₁
    · rename_i h40₁
      refine ⟨?_, h40₁⟩
      split at e₁
      · obtain ⟨e1₁, e₁⟩ := bNum_r e₁
        obtain ⟨e2₁, e₁⟩ := bNum_r e₁
        obtain ⟨-, v1₁, v2₁⟩ := nmS_0 e1₁
        obtain ⟨-, v3₁, v4₁⟩ := nmS_0 e2₁
        injection e₁ with e₁
        injection e₁ with e3₁ e4₁
        rw [← e3₁]
        refine ⟨by show bkK₁ B₁ n₁ lm₁ p₁ < 8; omega, fun z₁ => ?_, fun z₁ => ?_, ?_, v4₁⟩
        · rw [if_pos z₁] at v2₁; show tkV₁ B₁ n₁ (tkN₁ B₁ n₁ lm₁ p₁) < 8; omega
        · rw [if_neg (by rw [show bkK₁ B₁ n₁ lm₁ p₁ = 1 from z₁]; decide)] at v2₁; show tkV₁ B₁ n₁ (tkN₁ B₁ n₁ lm₁ p₁) < 64; omega
        · show tkV₁ B₁ n₁ (tkN₁ B₁ n₁ lm₁ p₁) ≤ 999; split at v2₁ <;> omega
      · rename_i h2₁
        split at e₁
        · obtain ⟨e1₁, e₁⟩ := bNum_r e₁
          obtain ⟨-, v1₁, v2₁⟩ := nmS_0 e1₁
          injection e₁ with e₁
          injection e₁ with e3₁ e4₁
          rw [← e3₁]
          refine ⟨by show bkK₁ B₁ n₁ lm₁ p₁ < 8; omega, fun z₁ => ?_, fun z₁ => ?_, ?_, Nat.zero_le 999⟩
          · exact absurd (show bkK₁ B₁ n₁ lm₁ p₁ = 0 from z₁) (by omega)
          · exact absurd (show bkK₁ B₁ n₁ lm₁ p₁ = 1 from z₁) (by omega)
          · show tkV₁ B₁ n₁ (tkN₁ B₁ n₁ lm₁ p₁) ≤ 999; split at v2₁ <;> omega
        · injection e₁ with e₁
          injection e₁ with e3₁ e4₁
          rw [← e3₁]
          refine ⟨by show bkK₁ B₁ n₁ lm₁ p₁ < 8; omega, fun z₁ => ?_, fun z₁ => ?_, Nat.zero_le 999, Nat.zero_le 999⟩
          · exact absurd (show bkK₁ B₁ n₁ lm₁ p₁ = 0 from z₁) (by omega)
          · exact absurd (show bkK₁ B₁ n₁ lm₁ p₁ = 1 from z₁) (by omega)
theorem pBok_w : ∀ (f₁ : Nat) (ls₁ : List (Nat × Nat × Nat)) (p₁ : Nat) (ls'₁ : List (Nat × Nat × Nat)), ls₁.length ≤ 40 → (∀ l₁, l₁ ∈ ls₁ → lnW₁ l₁) → pBok B₁ n₁ lm₁ f₁ ls₁ p₁ = .inr ls'₁ → ls'₁.length ≤ 40 ∧ ∀ l₁, l₁ ∈ ls'₁ → lnW₁ l₁
  | 0, _, _, _, _, _, h₁ => by cases h₁
  | f₁ + 1, ls₁, p₁, ls'₁, h40₁, hw₁, h₁ => by
    rw [pBok] at h₁
    split at h₁
    · injection h₁ with h₁
      subst h₁
      exact ⟨h40₁, hw₁⟩
    · split at h₁
      · cases h₁
      · rename_i l₁ q₁ e₁
        obtain ⟨w1₁, w2₁⟩ := pBkL_w e₁
        split at h₁
        · refine pBok_w f₁ _ _ ls'₁ (by rw [List.length_append, List.length_singleton]; omega) (fun l'₁ hl₁ => ?_) h₁
          rw [List.mem_append, List.mem_singleton] at hl₁
          rcases hl₁ with hl₁ | hl₁
          · exact hw₁ l'₁ hl₁
          · rw [hl₁]; exact w1₁
        · cases h₁
end BK₁
section BC₁
variable {K₁ N₁ : MK} {I₁ : MI} {L₁ : ML} {R₁ : MR} {x₁ n₁ : Nat} {B₁ : Nat → Nat}
theorem s_bookLines {Q₁ : MI → ML → Prop} (hX₁ : PDL K₁ N₁ R₁ x₁) (hn₁ : I₁ (x₁ + 1) 1 = nI n₁) (h940 : n₁ ≤ 940) (hB₁ : TAP₁ I₁ (x₁ + 2) B₁ n₁) (hb₁ : ∀ i₁, B₁ i₁ < 256) (hw₁ : I₁ (x₁ + 60) 0 = nI 3)
    (hbad : ∀ k₁ pl₁, pBok B₁ n₁ 400 42 [] 0 = .inl (k₁, pl₁) → 1 ≤ k₁ → k₁ ≤ 5 → ∀ J₁ M₁, J₁ (x₁ + 1) 10 = nI k₁ → J₁ (x₁ + 1) 11 = nI pl₁ → frBk x₁ J₁ I₁ M₁ L₁ → Q₁ J₁ M₁)
    (hok₁ : ∀ ls₁, pBok B₁ n₁ 400 42 [] 0 = .inr ls₁ → ∀ J₁ M₁, BKT₁ J₁ x₁ ls₁ → J₁ (x₁ + 1) 10 = 0 → frBk x₁ J₁ I₁ M₁ L₁ → Q₁ J₁ M₁) : w_X0_readLines (x₁ + 59) (x₁ + 1) K₁ N₁ I₁ L₁ R₁ Q₁ := by
  delta w_X0_readLines
  refine ⟨hX₁.bok, _, hX₁.bok_r, hX₁.bok_t.1, s_forget hX₁.bok_t ⟨hX₁.tok, ?_⟩⟩
  have f4₁ : ∀ b₁, b₁ ≠ x₁ + 60 → mup I₁ (x₁ + 60) 3 0 b₁ = I₁ b₁ := fun b₁ q₁ => mup_ne q₁
  have w4₁ : mup I₁ (x₁ + 60) 3 0 (x₁ + 60) 0 = nI 3 := by rw [mup_k (by decide)]; exact hw₁
  have c4₁ : mup I₁ (x₁ + 60) 3 0 (x₁ + 60) 3 = nI 0 := by rw [mup_at]; rfl
  generalize mup I₁ (x₁ + 60) 3 0 = I4₁ at f4₁ w4₁ c4₁
  refine s_begin (lm₁ := 400) ⟨hX₁.tok, hX₁.tok_r, hX₁.tok_k, hX₁.tok_n⟩ hb₁ h940 (fun i₁ hi₁ => by show I4₁ (x₁ + 2) i₁ = _; rw [f4₁ _ (by omega)]; exact hB₁ i₁ hi₁) (by rw [f4₁ _ (by omega)]; exact hn₁) (by decide) (fun J2₁ M2₁ t2₁ e10₁ _ f2₁ l2₁ => ?_)
  have t0₁ : TCS₁ K₁ N₁ R₁ J2₁ M2₁ (x₁ + 1) B₁ n₁ 400 0 := ⟨⟨hX₁.tok, hX₁.tok_r, hX₁.tok_k, hX₁.tok_n⟩, hb₁, h940, by decide, Nat.zero_le _, fun i₁ hi₁ => by show J2₁ (x₁ + 2) i₁ = _; rw [f2₁ _ (by omega), f4₁ _ (by omega)]; exact hB₁ i₁ hi₁, t2₁⟩
  have g0₁ : frBk x₁ J2₁ I₁ M2₁ L₁ := ⟨fun b₁ q1₁ q2₁ _ => by rw [f2₁ b₁ q1₁, f4₁ b₁ q2₁], fun b₁ q1₁ _ => l2₁ b₁ q1₁, by rw [f2₁ _ (by omega), w4₁, hw₁]⟩
  have b0₁ : BKT₁ J2₁ x₁ [] := ⟨⟨by rw [f2₁ _ (by omega)]; exact w4₁, by rw [f2₁ _ (by omega)]; exact c4₁, Nat.zero_le _⟩, fun i₁ hi₁ => absurd hi₁ (Nat.not_lt_zero i₁)⟩
  delta w_X0_readLines_16
  refine ⟨fun n1₁ y0₁ y1₁ y2₁ I1₁ L1₁ => y0₁ = x₁ + 59 ∧ y1₁ = x₁ + 1 ∧ ∃ (p₁ : Nat) (ls₁ : List (Nat × Nat × Nat)), y2₁ = nI ls₁.length ∧ ls₁.length ≤ 40 ∧ n1₁ = 42 - ls₁.length ∧ TCS₁ K₁ N₁ R₁ I1₁ L1₁ (x₁ + 1) B₁ n₁ 400 p₁ ∧ BKT₁ I1₁ x₁ ls₁ ∧ I1₁ (x₁ + 1) 10 = 0 ∧ frBk x₁ I1₁ I₁ L1₁ L₁ ∧ pBok B₁ n₁ 400 (42 - ls₁.length) ls₁ p₁ = pBok B₁ n₁ 400 42 [] 0, ⟨42, rfl, rfl, 0, [], rfl, Nat.zero_le _, rfl, t0₁, b0₁, e10₁, g0₁, rfl⟩, ?_⟩
  rintro n1₁ y0₁ y1₁ y2₁ I1₁ L1₁ ⟨rfl, rfl, p₁, ls₁, rfl, hl₁, rfl, hT₁, hS₁, e0₁, fr₁, hE₁⟩
  obtain ⟨f₁, hf₁⟩ : ∃ f₁, 42 - ls₁.length = f₁ + 1 := ⟨41 - ls₁.length, by omega⟩
  rw [hf₁, pBok] at hE₁
  have k4₁ : I1₁ (x₁ + 1) 4 = nI (tkK₁ B₁ n₁ 400 p₁) := hT₁.2.2.2.2.2.2.2.2.2.1
  have hk4₁ := tkK_le (B₁ := B₁) (n₁ := n₁) (lm₁ := 400) (p₁ := p₁)
  rw [show (400 : Int32) = nI 400 from rfl, leN (by omega) (by omega), k4₁, show (nI (tkK₁ B₁ n₁ 400 p₁) = 0) = (nI (tkK₁ B₁ n₁ 400 p₁) = nI 0) from rfl, eqN (by omega) (by omega)]
  refine ⟨fun z₁ => by omega, fun _ => ⟨hX₁.tok, fun z₁ => ?_, fun z₁ => ⟨hX₁.bok, ?_⟩⟩⟩
  · rw [if_pos z₁] at hE₁
    exact hok₁ ls₁ hE₁.symm I1₁ L1₁ hS₁ e0₁ fr₁
  rw [if_neg z₁] at hE₁
  refine s_bookLine hX₁ hT₁ hS₁ (fun k₁ pl₁ e₁ J₁ M₁ j10₁ j11₁ g₁ => ⟨fun _ => ?_, fun y₁ => absurd y₁ (by decide)⟩) (fun l₁ q₁ e₁ J₁ M₁ t₁ s₁ g₁ j10₁ => ⟨fun y₁ => absurd y₁ (by decide), fun _ => ?_⟩)
  · rw [e₁] at hE₁
    obtain ⟨q1₁, q2₁⟩ := pBkL_b e₁
    exact hbad k₁ pl₁ hE₁.symm q1₁ q2₁ J₁ M₁ j10₁ j11₁ (frBk_t g₁ fr₁)
  · rw [e₁] at hE₁
    have l40₁ := (pBkL_w e₁).2
    have ll₁ : (ls₁ ++ [l₁]).length = ls₁.length + 1 := by rw [List.length_append, List.length_singleton]
    refine s_passSign (c₁ := 59) t₁ (by decide) (fun es₁ J3₁ M3₁ t3₁ f3₁ => ⟨fun _ v16₁ g16₁ => ⟨42 - (ls₁.length + 1), by omega, rfl, rfl, tkN₁ B₁ n₁ 400 q₁, ls₁ ++ [l₁], by rw [g16₁, ll₁, nI_1], by omega, by rw [ll₁], t3₁, ⟨by have := s₁.1; rw [ll₁] at this ⊢; exact this.fr (f3₁.1 _ (by omega)), fun i₁ hi₁ => by rw [lnC₁, f3₁.1 _ (by omega)]; exact s₁.2 i₁ hi₁⟩, by rw [frK_10 f3₁, j10₁, e0₁], frBk_t (frBk_K f3₁) (frBk_t g₁ fr₁), ?_⟩, fun y₁ => absurd y₁ (by decide)⟩) (fun es₁ J3₁ f3₁ => ⟨fun y₁ => absurd y₁ (by decide), fun _ => ?_⟩)
    · simp only [es₁, if_true] at hE₁
      rw [ll₁, show 42 - (ls₁.length + 1) = f₁ by omega]
      exact hE₁
    · simp only [es₁, Bool.false_eq_true, if_false] at hE₁
      exact hbad 1 _ hE₁.symm (by decide) (by decide) J3₁ M₁ f3₁.1 f3₁.2.1 (frBk_t (frBk_f f3₁) (frBk_t g₁ fr₁))
end BC₁
