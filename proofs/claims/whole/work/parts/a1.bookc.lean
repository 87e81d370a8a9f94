/-! ===== a book's line read: the class ===== -/
section BC₁
variable {K₁ N₁ : MK} {I₁ : MI} {L₁ : ML} {R₁ : MR} {x₁ n₁ lm₁ p₁ : Nat} {B₁ : Nat → Nat} {ls₁ : List (Nat × Nat × Nat)}
/-- a line begun -/
def BKP₁ (I₁ : MI) (x₁ : Nat) (ls₁ : List (Nat × Nat × Nat)) (k₁ : Nat) : Prop := TD I₁ (x₁ + 60) 40 3 (ls₁.length + 1) ∧ (∀ i₁, i₁ < ls₁.length → lnC₁ I₁ x₁ i₁ (ls₁.getD i₁ (0, 0, 0))) ∧ I₁ (x₁ + 62) (ls₁.length * 3 + 0) = nI (17 + k₁)
theorem BKP_e {k₁ : Nat} {J₁ : MI} (h₁ : BKP₁ I₁ x₁ ls₁ k₁) (e1₁ : J₁ (x₁ + 60) = I₁ (x₁ + 60)) (e2₁ : J₁ (x₁ + 62) = I₁ (x₁ + 62)) : BKP₁ J₁ x₁ ls₁ k₁ := ⟨h₁.1.fr e1₁, fun i₁ hi₁ => by rw [lnC₁, e2₁]; exact h₁.2.1 i₁ hi₁, by rw [e2₁]; exact h₁.2.2⟩
theorem BKP_put {k₁ c₁ : Nat} {v₁ : Int32} {J₁ : MI} (h₁ : BKP₁ I₁ x₁ ls₁ k₁) (hc₁ : 1 ≤ c₁ ∧ c₁ < 3) (e1₁ : J₁ (x₁ + 60) = I₁ (x₁ + 60)) (e2₁ : J₁ (x₁ + 62) = mup I₁ (x₁ + 62) (ls₁.length * 3 + c₁) v₁ (x₁ + 62)) : BKP₁ J₁ x₁ ls₁ k₁ := by
  refine ⟨h₁.1.fr e1₁, fun i₁ hi₁ => ?_, ?_⟩
  · rw [lnC₁, e2₁, mup_k (by omega), mup_k (by omega), mup_k (by omega)]; exact h₁.2.1 i₁ hi₁
  · rw [e2₁, mup_k (by omega)]; exact h₁.2.2
theorem BKT_sn {k₁ a₁ b₁ : Nat} (h₁ : BKP₁ I₁ x₁ ls₁ k₁) (h1₁ : k₁ < 5 → I₁ (x₁ + 62) (ls₁.length * 3 + 1) = nI a₁) (h2₁ : k₁ < 2 → I₁ (x₁ + 62) (ls₁.length * 3 + 2) = nI b₁) : BKT₁ I₁ x₁ (ls₁ ++ [(k₁, a₁, b₁)]) := by
  refine ⟨by rw [List.length_append]; exact h₁.1, fun i₁ hi₁ => ?_⟩
  rw [List.length_append, List.length_singleton] at hi₁
  rw [getD_sn _ _ _ _ hi₁]
  by_cases q₁ : i₁ = ls₁.length
  · rw [if_pos q₁, q₁]; exact ⟨h₁.2.2, h1₁, h2₁⟩
  · rw [if_neg q₁]; exact h₁.2.1 i₁ (by omega)
theorem s_bookLine {Q₁ : Bool → MI → ML → Prop} (hX₁ : PDL K₁ N₁ R₁ x₁) (hT₁ : TCS₁ K₁ N₁ R₁ I₁ L₁ (x₁ + 1) B₁ n₁ lm₁ p₁) (hS₁ : BKT₁ I₁ x₁ ls₁)
    (hbad : ∀ k₁ pl₁, pBkL B₁ n₁ lm₁ ls₁.length p₁ = .inl (k₁, pl₁) → ∀ J₁ M₁, J₁ (x₁ + 1) 10 = nI k₁ → J₁ (x₁ + 1) 11 = nI pl₁ → frBk x₁ J₁ I₁ M₁ L₁ → Q₁ false J₁ M₁)
    (hok₁ : ∀ l₁ q₁, pBkL B₁ n₁ lm₁ ls₁.length p₁ = .inr (l₁, q₁) → ∀ J₁ M₁, TCS₁ K₁ N₁ R₁ J₁ M₁ (x₁ + 1) B₁ n₁ lm₁ q₁ → BKT₁ J₁ x₁ (ls₁ ++ [l₁]) → frBk x₁ J₁ I₁ M₁ L₁ → J₁ (x₁ + 1) 10 = I₁ (x₁ + 1) 10 → Q₁ true J₁ M₁) : w_X0_readLine (x₁ + 59) (x₁ + 1) K₁ N₁ I₁ L₁ R₁ Q₁ := by
  have d₁ := hS₁.1
  have lc₁ := hS₁.1.2.2
  have wd₁ : ∀ k₁, k₁ < 8 → (whS₁ B₁ n₁ lm₁ p₁ = nI (17 + k₁) ↔ isWd B₁ n₁ lm₁ p₁ (15 + k₁) = true) := fun k₁ hk₁ => by
    have e₁ := whS_iff (B₁ := B₁) (n₁ := n₁) (lm₁ := lm₁) (p₁ := p₁) (c₁ := 17 + k₁) (by omega)
    have e2₁ : wpL₁.getD (17 + k₁) 0 = 15 + k₁ := by
      have : k₁ = 0 ∨ k₁ = 1 ∨ k₁ = 2 ∨ k₁ = 3 ∨ k₁ = 4 ∨ k₁ = 5 ∨ k₁ = 6 ∨ k₁ = 7 := by omega
      rcases this with rfl | rfl | rfl | rfl | rfl | rfl | rfl | rfl <;> rfl
    rw [e2₁] at e₁
    exact e₁
  have bad1 : (∀ k₁, k₁ < 8 → whS₁ B₁ n₁ lm₁ p₁ ≠ nI (17 + k₁)) → w_X8_fail (x₁ + 1) 1 K₁ N₁ I₁ L₁ R₁ (fun r3₁ I4₁ => Q₁ r3₁ I4₁ L₁) := fun h₁ =>
    s_failT (k₁ := 1) hT₁ (fun J₁ f₁ => hbad 1 _ (by rw [pBkL, if_pos (bkK_n (fun k₁ hk₁ z₁ => h₁ k₁ hk₁ ((wd₁ k₁ hk₁).mpr z₁)))]) J₁ L₁ f₁.1 f₁.2.1 (frBk_f f₁))
  delta w_X0_readLine
  refine ⟨hX₁.tok, s_wordHere hT₁ ?_⟩
  rcases whS_or (B₁ := B₁) (n₁ := n₁) (lm₁ := lm₁) (p₁ := p₁) with e₁ | ⟨c₁, hc₁, e₁⟩
  · rw [e₁] at bad1 ⊢
    exact ⟨fun _ => bad1 (fun k₁ hk₁ => m1_ne' (by omega)), fun z₁ => absurd (by decide) z₁⟩
  rw [e₁] at bad1 wd₁ ⊢
  rw [show (17 : Int32) = nI 17 from rfl, ltN (by omega) (by omega), show (24 : Int32) = nI 24 from rfl, leN (by omega) (by omega)]
  refine ⟨fun z₁ => bad1 (fun k₁ hk₁ => by rw [Ne, eqN (by omega) (by omega)]; omega), fun z₁ => ⟨fun z2₁ => ?_, fun z2₁ => bad1 (fun k₁ hk₁ => by rw [Ne, eqN (by omega) (by omega)]; omega)⟩⟩
  obtain ⟨k₁, rfl⟩ : ∃ k₁, c₁ = 17 + k₁ := ⟨c₁ - 17, by omega⟩
  have hk₁ : k₁ < 8 := by omega
  have ek₁ : bkK₁ B₁ n₁ lm₁ p₁ = k₁ := bkK_s hk₁ ((wd₁ k₁ hk₁).mp rfl)
  refine ⟨hX₁.bok, _, hX₁.bok_r, hX₁.bok_t.1, s_isFull hX₁.bok_t d₁ ⟨fun z4₁ => ?_, fun z4₁ => ?_⟩⟩
  rotate_left
  · have l4₁ : ls₁.length = 40 := of_decide_eq_true z4₁
    exact s_failT (k₁ := 4) hT₁ (fun J₁ f₁ => hbad 4 _ (by rw [pBkL, if_neg (by omega), if_pos l4₁]) J₁ L₁ f₁.1 f₁.2.1 (frBk_f f₁))
  have l4₁ : ls₁.length < 40 := by have := of_decide_eq_false z4₁; omega
  have sp₁ : pBkL B₁ n₁ lm₁ ls₁.length p₁ = if k₁ < 2 then bNum B₁ n₁ lm₁ (tkN₁ B₁ n₁ lm₁ p₁) 0 (if k₁ = 0 then 7 else 63) (fun a₁ q₁ => bNum B₁ n₁ lm₁ q₁ 0 999 (fun b₁ q'₁ => .inr ((k₁, a₁, b₁), q'₁)))
      else if k₁ < 5 then bNum B₁ n₁ lm₁ (tkN₁ B₁ n₁ lm₁ p₁) (if k₁ = 2 then 0 else 1) (if k₁ = 2 then 999 else 250) (fun a₁ q₁ => .inr ((k₁, a₁, 0), q₁)) else .inr ((k₁, 0, 0), tkN₁ B₁ n₁ lm₁ p₁) := by
    rw [pBkL, if_neg (by omega), if_neg (by omega), ek₁]
  rw [sp₁] at hbad hok₁
  refine s_add hX₁.bok_t d₁ l4₁ (s_put (n₁ := ls₁.length + 1) (k₁ := ls₁.length) (c₁ := 0) hX₁.bok_t ⟨?_, ?_, ?_⟩ (by omega) (by decide) ?_)
  · rw [mup_k (by decide)]; exact d₁.1
  · rw [mup_at]
  · omega
  generalize hI12 : mup (mup I₁ (x₁ + 60) 3 (nI (ls₁.length + 1))) (x₁ + 60 + 2) (ls₁.length * 3 + 0) (nI (17 + k₁)) = I12₁
  generalize hL12 : mup L₁ (x₁ + 60 + 1) ls₁.length 0 = L12₁
  have b12₁ : ∀ b₁, b₁ ≠ x₁ + 60 → b₁ ≠ x₁ + 62 → I12₁ b₁ = I₁ b₁ := fun b₁ q1₁ q2₁ => by rw [← hI12, mup_ne (show b₁ ≠ x₁ + 60 + 2 from q2₁), mup_ne q1₁]
  have m12₁ : ∀ b₁, b₁ ≠ x₁ + 61 → L12₁ b₁ = L₁ b₁ := fun b₁ q1₁ => by rw [← hL12, mup_ne (show b₁ ≠ x₁ + 60 + 1 from q1₁)]
  have o12₁ : ∀ y₁, y₁ < ls₁.length * 3 → I12₁ (x₁ + 62) y₁ = I₁ (x₁ + 62) y₁ := fun y₁ hy₁ => by rw [← hI12, mup_k (by omega), mup_ne (by omega)]
  have p12₁ : BKP₁ I12₁ x₁ ls₁ k₁ := by
    refine ⟨⟨?_, ?_, by omega⟩, fun i₁ hi₁ => ?_, ?_⟩
    · rw [← hI12, mup_ne (by omega), mup_k (by decide)]; exact d₁.1
    · rw [← hI12, mup_ne (by omega), mup_at]
    · rw [lnC₁, o12₁ _ (by omega), o12₁ _ (by omega), o12₁ _ (by omega)]; exact hS₁.2 i₁ hi₁
    · rw [← hI12, mup_at]
  have f12₁ : frBk x₁ I12₁ I₁ L12₁ L₁ := ⟨fun b₁ _ q1₁ q2₁ => b12₁ b₁ q1₁ q2₁, fun b₁ _ q₁ => m12₁ b₁ q₁, by rw [← hI12, mup_ne (by omega), mup_k (by decide)]⟩
  have t12₁ : TCS₁ K₁ N₁ R₁ I12₁ L12₁ (x₁ + 1) B₁ n₁ lm₁ p₁ := TCS_fr hT₁ (b12₁ _ (by omega) (by omega)) (fun y₁ _ _ => by rw [b12₁ _ (by omega) (by omega)]) (m12₁ _ (by omega))
  refine s_next t12₁ (fun I13₁ M13₁ t13₁ f13₁ => ?_)
  have p13₁ : BKP₁ I13₁ x₁ ls₁ k₁ := BKP_e p12₁ (f13₁.1 _ (by omega)) (f13₁.1 _ (by omega))
  have g13₁ : frBk x₁ I13₁ I₁ M13₁ L₁ := frBk_t (frBk_K f13₁) f12₁
  have z13₁ : I13₁ (x₁ + 1) 10 = I₁ (x₁ + 1) 10 := by rw [frK_10 f13₁, b12₁ _ (by omega) (by omega)]
  -- one₁ number
  have one₁ : ∀ lo₁ hi₁ : Nat, (lo₁ < 10000) → (hi₁ < 10000) → (2 ≤ k₁ → k₁ < 5 → lo₁ = (if k₁ = 2 then 0 else 1) → hi₁ = (if k₁ = 2 then 999 else 250) → w_X0_readNumber (x₁ + 59) (x₁ + 1) 1 (nI lo₁) (nI hi₁) K₁ N₁ I13₁ M13₁ R₁ (fun r27₁ I28₁ L29₁ => Q₁ r27₁ I28₁ L29₁)) := fun lo₁ hi₁ hlo₁ hhi₁ k2₁ k5₁ elo₁ ehi₁ => by
    rw [if_neg (by omega), if_pos k5₁, ← elo₁, ← ehi₁, bNum] at hbad hok₁
    refine s_bookNum (j₁ := ls₁.length) (c₁ := 1) hX₁ t13₁ p13₁.1 (by decide) hlo₁ hhi₁ (fun z₁ J₁ M₁ t₁ e1₁ e2₁ fr₁ e10₁ => ?_) (fun z₁ J₁ e10₁ e11₁ fr₁ => ?_)
    · rw [if_neg (fun w₁ => w₁ z₁)] at hok₁
      exact hok₁ _ _ rfl J₁ M₁ t₁ (BKT_sn (BKP_put p13₁ (by decide) e1₁ e2₁) (fun _ => by rw [e2₁, mup_at]) (fun w₁ => by omega)) (frBk_t fr₁ g13₁) (by rw [e10₁, z13₁])
    · rw [if_pos z₁] at hbad
      exact hbad _ _ rfl J₁ M13₁ e10₁ e11₁ (frBk_t fr₁ g13₁)
  have two₁ : ∀ hi₁ : Nat, (hi₁ < 10000) → (k₁ < 2 → hi₁ = (if k₁ = 0 then 7 else 63) → w_X0_readNumber (x₁ + 59) (x₁ + 1) 1 (nI 0) (nI hi₁) K₁ N₁ I13₁ M13₁ R₁ (fun r15₁ I16₁ L17₁ => (r15₁ = false → Q₁ false I16₁ L17₁) ∧ (r15₁ = true → w_X0_readNumber (x₁ + 59) (x₁ + 1) 2 0 999 K₁ N₁ I16₁ L17₁ R₁ (fun r18₁ I19₁ L20₁ => (r18₁ = false → Q₁ false I19₁ L20₁) ∧ (r18₁ = true → Q₁ true I19₁ L20₁))))) := fun hi₁ hhi₁ k2₁ ehi₁ => by
    rw [if_pos k2₁, ← ehi₁, bNum] at hbad hok₁
    refine s_bookNum (j₁ := ls₁.length) (c₁ := 1) hX₁ t13₁ p13₁.1 (by decide) (by decide) hhi₁ (fun z₁ J₁ M₁ t₁ e1₁ e2₁ fr₁ e10₁ => ⟨fun y₁ => absurd y₁ (by decide), fun _ => ?_⟩) (fun z₁ J₁ e10₁ e11₁ fr₁ => ⟨fun _ => ?_, fun y₁ => absurd y₁ (by decide)⟩)
    · rw [if_neg (fun w₁ => w₁ z₁), bNum] at hok₁ hbad
      have p14₁ := BKP_put p13₁ (by decide) e1₁ e2₁
      refine s_bookNum (j₁ := ls₁.length) (c₁ := 2) (lo₁ := 0) (hi₁ := 999) hX₁ t₁ p14₁.1 (by decide) (by decide) (by decide) (fun z2₁ J2₁ M2₁ t2₁ e3₁ e4₁ fr2₁ e102 => ⟨fun y₁ => absurd y₁ (by decide), fun _ => ?_⟩) (fun z2₁ J2₁ e102 e112 fr2₁ => ⟨fun _ => ?_, fun y₁ => absurd y₁ (by decide)⟩)
      · rw [if_neg (fun w₁ => w₁ z2₁)] at hok₁
        exact hok₁ _ _ rfl J2₁ M2₁ t2₁ (BKT_sn (BKP_put p14₁ (by decide) e3₁ e4₁) (fun _ => by rw [e4₁, mup_k (by omega), e2₁, mup_at]) (fun _ => by rw [e4₁, mup_at])) (frBk_t fr2₁ (frBk_t fr₁ g13₁)) (by rw [e102, e10₁, z13₁])
      · rw [if_pos z2₁] at hbad
        exact hbad _ _ rfl J2₁ M₁ e102 e112 (frBk_t fr2₁ (frBk_t fr₁ g13₁))
    · rw [if_pos z₁] at hbad
      exact hbad _ _ rfl J₁ M13₁ e10₁ e11₁ (frBk_t fr₁ g13₁)
  rw [show (18 : Int32) = nI 18 from rfl, show (19 : Int32) = nI 19 from rfl, show (20 : Int32) = nI 20 from rfl, show (21 : Int32) = nI 21 from rfl, eqN (by omega) (by omega), eqN (by omega) (by omega), eqN (by omega) (by omega), eqN (by omega) (by omega), eqN (by omega) (by omega)]
  refine ⟨fun c0₁ => two₁ 7 (by decide) (by omega) (by rw [if_pos (by omega)]), fun c0₁ => ⟨fun c1₁ => two₁ 63 (by decide) (by omega) (by rw [if_neg (by omega)]), fun c1₁ => ⟨fun c2₁ => one₁ 0 999 (by decide) (by decide) (by omega) (by omega) (by rw [if_pos (by omega)]) (by rw [if_pos (by omega)]), fun c2₁ => ⟨fun c3₁ => one₁ 1 250 (by decide) (by decide) (by omega) (by omega) (by rw [if_neg (by omega)]) (by rw [if_neg (by omega)]), fun c3₁ => ⟨fun c4₁ => one₁ 1 250 (by decide) (by decide) (by omega) (by omega) (by rw [if_neg (by omega)]) (by rw [if_neg (by omega)]), fun c4₁ => ?_⟩⟩⟩⟩⟩
  rw [if_neg (by omega), if_neg (by omega)] at hok₁
  exact hok₁ _ _ rfl I13₁ M13₁ t13₁ (BKT_sn p13₁ (fun w₁ => by omega) (fun w₁ => by omega)) g13₁ z13₁
end BC₁
