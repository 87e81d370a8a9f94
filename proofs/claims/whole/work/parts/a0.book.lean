/-! ===== a book's lines: what they are ===== -/
abbrev BRES : Type := Sum (Nat × Nat) ((Nat × Nat × Nat) × Nat)
section BK₁
variable {B₁ : Nat → Nat} {n₁ lm₁ p₁ : Nat}
/-- which deed the word is; 8: none -/
def bkK₁ (B₁ : Nat → Nat) (n₁ lm₁ p₁ : Nat) : Nat :=
  if isWd B₁ n₁ lm₁ p₁ 15 = true then 0 else if isWd B₁ n₁ lm₁ p₁ 16 = true then 1 else if isWd B₁ n₁ lm₁ p₁ 17 = true then 2 else if isWd B₁ n₁ lm₁ p₁ 18 = true then 3
  else if isWd B₁ n₁ lm₁ p₁ 19 = true then 4 else if isWd B₁ n₁ lm₁ p₁ 20 = true then 5 else if isWd B₁ n₁ lm₁ p₁ 21 = true then 6 else if isWd B₁ n₁ lm₁ p₁ 22 = true then 7 else 8
theorem bkK_s {k₁ : Nat} (hk₁ : k₁ < 8) (h₁ : isWd B₁ n₁ lm₁ p₁ (15 + k₁) = true) : bkK₁ B₁ n₁ lm₁ p₁ = k₁ := by
  have no₁ : ∀ j₁, j₁ < 8 → j₁ ≠ k₁ → ¬ isWd B₁ n₁ lm₁ p₁ (15 + j₁) = true := fun j₁ hj₁ hne₁ z₁ => hne₁ (by have := isWd_eq (by omega) (by omega) z₁ h₁; omega)
  have n0₁ := no₁ 0 (by decide)
  have n1₁ := no₁ 1 (by decide)
  have n2₁ := no₁ 2 (by decide)
  have n3₁ := no₁ 3 (by decide)
  have n4₁ := no₁ 4 (by decide)
  have n5₁ := no₁ 5 (by decide)
  have n6₁ := no₁ 6 (by decide)
  rw [bkK₁]
  have e₁ : k₁ = 0 ∨ k₁ = 1 ∨ k₁ = 2 ∨ k₁ = 3 ∨ k₁ = 4 ∨ k₁ = 5 ∨ k₁ = 6 ∨ k₁ = 7 := by omega
  rcases e₁ with rfl | rfl | rfl | rfl | rfl | rfl | rfl | rfl
  · rw [if_pos h₁]
  · rw [if_neg (n0₁ (by decide)), if_pos h₁]
  · rw [if_neg (n0₁ (by decide)), if_neg (n1₁ (by decide)), if_pos h₁]
  · rw [if_neg (n0₁ (by decide)), if_neg (n1₁ (by decide)), if_neg (n2₁ (by decide)), if_pos h₁]
  · rw [if_neg (n0₁ (by decide)), if_neg (n1₁ (by decide)), if_neg (n2₁ (by decide)), if_neg (n3₁ (by decide)), if_pos h₁]
  · rw [if_neg (n0₁ (by decide)), if_neg (n1₁ (by decide)), if_neg (n2₁ (by decide)), if_neg (n3₁ (by decide)), if_neg (n4₁ (by decide)), if_pos h₁]
  · rw [if_neg (n0₁ (by decide)), if_neg (n1₁ (by decide)), if_neg (n2₁ (by decide)), if_neg (n3₁ (by decide)), if_neg (n4₁ (by decide)), if_neg (n5₁ (by decide)), if_pos h₁]
  · rw [if_neg (n0₁ (by decide)), if_neg (n1₁ (by decide)), if_neg (n2₁ (by decide)), if_neg (n3₁ (by decide)), if_neg (n4₁ (by decide)), if_neg (n5₁ (by decide)), if_neg (n6₁ (by decide)), if_pos h₁]
theorem bkK_n (h₁ : ∀ k₁, k₁ < 8 → ¬ isWd B₁ n₁ lm₁ p₁ (15 + k₁) = true) : bkK₁ B₁ n₁ lm₁ p₁ = 8 := by
  rw [bkK₁, if_neg (h₁ 0 (by decide)), if_neg (h₁ 1 (by decide)), if_neg (h₁ 2 (by decide)), if_neg (h₁ 3 (by decide)), if_neg (h₁ 4 (by decide)), if_neg (h₁ 5 (by decide)), if_neg (h₁ 6 (by decide)), if_neg (h₁ 7 (by decide))]
def bNum (B₁ : Nat → Nat) (n₁ lm₁ p₁ lo₁ hi₁ : Nat) (kk₁ : Nat → Nat → BRES) : BRES := if nmS₁ B₁ n₁ lm₁ p₁ lo₁ hi₁ ≠ 0 then .inl (nmS₁ B₁ n₁ lm₁ p₁ lo₁ hi₁, tkS₁ B₁ n₁ lm₁ p₁) else kk₁ (tkV₁ B₁ n₁ p₁) (tkN₁ B₁ n₁ lm₁ p₁)
/-- one line: the deed, its numbers, the place behind it -/
def pBkL (B₁ : Nat → Nat) (n₁ lm₁ cnt₁ p₁ : Nat) : BRES :=
  if bkK₁ B₁ n₁ lm₁ p₁ = 8 then .inl (1, tkS₁ B₁ n₁ lm₁ p₁) else if cnt₁ = 40 then .inl (4, tkS₁ B₁ n₁ lm₁ p₁)
  else if bkK₁ B₁ n₁ lm₁ p₁ < 2 then bNum B₁ n₁ lm₁ (tkN₁ B₁ n₁ lm₁ p₁) 0 (if bkK₁ B₁ n₁ lm₁ p₁ = 0 then 7 else 63) (fun a₁ q₁ => bNum B₁ n₁ lm₁ q₁ 0 999 (fun b₁ q'₁ => .inr ((bkK₁ B₁ n₁ lm₁ p₁, a₁, b₁), q'₁)))
  else if bkK₁ B₁ n₁ lm₁ p₁ < 5 then bNum B₁ n₁ lm₁ (tkN₁ B₁ n₁ lm₁ p₁) (if bkK₁ B₁ n₁ lm₁ p₁ = 2 then 0 else 1) (if bkK₁ B₁ n₁ lm₁ p₁ = 2 then 999 else 250) (fun a₁ q₁ => .inr ((bkK₁ B₁ n₁ lm₁ p₁, a₁, 0), q₁))
  else .inr ((bkK₁ B₁ n₁ lm₁ p₁, 0, 0), tkN₁ B₁ n₁ lm₁ p₁)
def pBok (B₁ : Nat → Nat) (n₁ lm₁ : Nat) : Nat → List (Nat × Nat × Nat) → Nat → Sum (Nat × Nat) (List (Nat × Nat × Nat))
  | 0, _, _ => .inl (0, 0)
  | f₁ + 1, ls₁, p₁ => if tkK₁ B₁ n₁ lm₁ p₁ = 0 then .inr ls₁ else match pBkL B₁ n₁ lm₁ ls₁.length p₁ with
    | .inl e₁ => .inl e₁
    | .inr (l₁, q₁) => if isSn B₁ n₁ lm₁ q₁ 59 = true then pBok B₁ n₁ lm₁ f₁ (ls₁ ++ [l₁]) (tkN₁ B₁ n₁ lm₁ q₁) else .inl (1, tkS₁ B₁ n₁ lm₁ q₁)
/-- what is so of a line -/
def lnW₁ (l₁ : Nat × Nat × Nat) : Prop := l₁.1 < 8 ∧ (l₁.1 = 0 → l₁.2.1 < 8) ∧ (l₁.1 = 1 → l₁.2.1 < 64) ∧ l₁.2.1 ≤ 999 ∧ l₁.2.2 ≤ 999
end BK₁
/-! ===== a book's lines read: the class ===== -/
def lnC₁ (I₁ : MI) (x₁ i₁ : Nat) (l₁ : Nat × Nat × Nat) : Prop := I₁ (x₁ + 62) (i₁ * 3 + 0) = nI (17 + l₁.1) ∧ (l₁.1 < 5 → I₁ (x₁ + 62) (i₁ * 3 + 1) = nI l₁.2.1) ∧ (l₁.1 < 2 → I₁ (x₁ + 62) (i₁ * 3 + 2) = nI l₁.2.2)
def BKT₁ (I₁ : MI) (x₁ : Nat) (ls₁ : List (Nat × Nat × Nat)) : Prop := TD I₁ (x₁ + 60) 40 3 ls₁.length ∧ ∀ i₁, i₁ < ls₁.length → lnC₁ I₁ x₁ i₁ (ls₁.getD i₁ (0, 0, 0))
def frBk (x₁ : Nat) (J₁ I₁ : MI) (M₁ L₁ : ML) : Prop := (∀ b₁, b₁ ≠ x₁ + 1 → b₁ ≠ x₁ + 60 → b₁ ≠ x₁ + 62 → J₁ b₁ = I₁ b₁) ∧ (∀ b₁, b₁ ≠ x₁ + 1 → b₁ ≠ x₁ + 61 → M₁ b₁ = L₁ b₁) ∧ J₁ (x₁ + 60) 0 = I₁ (x₁ + 60) 0
section BC₁
variable {K₁ N₁ : MK} {I₁ : MI} {L₁ : ML} {R₁ : MR} {x₁ n₁ lm₁ p₁ : Nat} {B₁ : Nat → Nat}
theorem frBk_r : frBk x₁ I₁ I₁ L₁ L₁ := ⟨fun _ _ _ _ => rfl, fun _ _ _ => rfl, rfl⟩
theorem frBk_t {J₁ J'₁ : MI} {M₁ M'₁ : ML} (h₁ : frBk x₁ J'₁ J₁ M'₁ M₁) (h2₁ : frBk x₁ J₁ I₁ M₁ L₁) : frBk x₁ J'₁ I₁ M'₁ L₁ := ⟨fun b₁ h3₁ h4₁ h5₁ => by rw [h₁.1 b₁ h3₁ h4₁ h5₁, h2₁.1 b₁ h3₁ h4₁ h5₁], fun b₁ h3₁ h4₁ => by rw [h₁.2.1 b₁ h3₁ h4₁, h2₁.2.1 b₁ h3₁ h4₁], by rw [h₁.2.2, h2₁.2.2]⟩
theorem frBk_K {J₁ : MI} {M₁ : ML} (h₁ : frK₁ (x₁ + 1) J₁ I₁ M₁ L₁) : frBk x₁ J₁ I₁ M₁ L₁ := ⟨fun b₁ q₁ _ _ => h₁.1 b₁ q₁, fun b₁ q₁ _ => h₁.2.2 b₁ q₁, by rw [h₁.1 _ (by omega)]⟩
theorem frBk_f {J₁ : MI} {k₁ pl₁ : Nat} (h₁ : flC₁ (x₁ + 1) k₁ pl₁ J₁ I₁) : frBk x₁ J₁ I₁ L₁ L₁ := ⟨fun b₁ q₁ _ _ => h₁.2.2.1 b₁ q₁, fun _ _ _ => rfl, by rw [h₁.2.2.1 _ (by omega)]⟩
theorem s_bookNum {j₁ c₁ lo₁ hi₁ : Nat} {Q₁ : Bool → MI → ML → Prop} (hX₁ : PDL K₁ N₁ R₁ x₁) (hT₁ : TCS₁ K₁ N₁ R₁ I₁ L₁ (x₁ + 1) B₁ n₁ lm₁ p₁) (hD₁ : TD I₁ (x₁ + 60) 40 3 (j₁ + 1)) (hc₁ : c₁ < 3) (hlo₁ : lo₁ < 10000) (hhi₁ : hi₁ < 10000)
    (h0₁ : nmS₁ B₁ n₁ lm₁ p₁ lo₁ hi₁ = 0 → ∀ J₁ M₁, TCS₁ K₁ N₁ R₁ J₁ M₁ (x₁ + 1) B₁ n₁ lm₁ (tkN₁ B₁ n₁ lm₁ p₁) → J₁ (x₁ + 60) = I₁ (x₁ + 60) → J₁ (x₁ + 62) = mup I₁ (x₁ + 62) (j₁ * 3 + c₁) (nI (tkV₁ B₁ n₁ p₁)) (x₁ + 62) → frBk x₁ J₁ I₁ M₁ L₁ → J₁ (x₁ + 1) 10 = I₁ (x₁ + 1) 10 → Q₁ true J₁ M₁)
    (h1₁ : nmS₁ B₁ n₁ lm₁ p₁ lo₁ hi₁ ≠ 0 → ∀ J₁, J₁ (x₁ + 1) 10 = nI (nmS₁ B₁ n₁ lm₁ p₁ lo₁ hi₁) → J₁ (x₁ + 1) 11 = nI (tkS₁ B₁ n₁ lm₁ p₁) → frBk x₁ J₁ I₁ L₁ L₁ → Q₁ false J₁ L₁) : w_X0_readNumber (x₁ + 59) (x₁ + 1) (nI c₁) (nI lo₁) (nI hi₁) K₁ N₁ I₁ L₁ R₁ Q₁ := by
  delta w_X0_readNumber
  refine ⟨hX₁.tok, s_needsNumber hT₁ hlo₁ hhi₁ (fun z₁ _ _ _ e8₁ => ⟨fun _ => ⟨hX₁.bok, _, hX₁.bok_r, hX₁.bok_t.1, ?_⟩, fun y₁ => absurd y₁ (by decide)⟩) (fun z₁ J₁ f₁ => ⟨fun y₁ => absurd y₁ (by decide), fun _ => h1₁ z₁ J₁ f₁.1 f₁.2.1 (frBk_f f₁)⟩)⟩
  rw [hD₁.2.1, nI_pred, e8₁]
  refine s_put hX₁.bok_t hD₁ (Nat.lt_succ_self j₁) hc₁ ?_
  generalize hI7₁ : mup I₁ (x₁ + 62) (j₁ * 3 + c₁) (nI (tkV₁ B₁ n₁ p₁)) = I7₁
  have f7₁ : ∀ b₁, b₁ ≠ x₁ + 62 → I7₁ b₁ = I₁ b₁ := fun b₁ q₁ => by rw [← hI7₁, mup_ne q₁]
  have hT7₁ : TCS₁ K₁ N₁ R₁ I7₁ L₁ (x₁ + 1) B₁ n₁ lm₁ p₁ := TCS_fr hT₁ (f7₁ _ (by omega)) (fun y₁ _ _ => by rw [f7₁ _ (by omega)]) rfl
  refine s_next hT7₁ (fun J₁ M₁ t₁ f₁ => h0₁ z₁ J₁ M₁ t₁ ?_ ?_ ?_ ?_)
  · rw [f₁.1 _ (by omega), f7₁ _ (by omega)]
  · rw [f₁.1 _ (by omega), hI7₁]
  · exact frBk_t (frBk_K f₁) ⟨fun b₁ _ _ q₁ => f7₁ b₁ q₁, fun _ _ _ => rfl, by rw [f7₁ _ (by omega)]⟩
  · rw [frK_10 f₁, f7₁ _ (by omega)]
end BC₁
