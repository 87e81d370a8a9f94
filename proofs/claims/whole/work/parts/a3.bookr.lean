/-! ===== a book's lines read: the reference ===== -/
section BR₁
variable {K₁ N₁ : MK} {I₁ : MI} {L₁ : ML} {R₁ : MR} {n₁ lm₁ p₁ m₁ : Nat} {B₁ : Nat → Nat} {ls₁ : List (Nat × Nat × Nat)}
def lnR₁ (I₁ : MI) (m₁ i₁ : Nat) (l₁ : Nat × Nat × Nat) : Prop := I₁ (m₁ + 23) (3 * i₁) = nI l₁.1 ∧ I₁ (m₁ + 23) (3 * i₁ + 1) = nI l₁.2.1 ∧ I₁ (m₁ + 23) (3 * i₁ + 2) = nI l₁.2.2
def BKR₁ (I₁ : MI) (m₁ : Nat) (ls₁ : List (Nat × Nat × Nat)) : Prop := I₁ m₁ 51 = nI ls₁.length ∧ ∀ i₁, i₁ < ls₁.length → lnR₁ I₁ m₁ i₁ (ls₁.getD i₁ (0, 0, 0))
def frBr (m₁ : Nat) (J₁ I₁ : MI) (M₁ L₁ : ML) : Prop := (∀ b₁, b₁ ≠ m₁ → b₁ ≠ m₁ + 23 → J₁ b₁ = I₁ b₁) ∧ (∀ y₁, y₁ < 5 ∨ 13 < y₁ → y₁ ≠ 51 → J₁ m₁ y₁ = I₁ m₁ y₁) ∧ ∀ b₁, b₁ ≠ m₁ → M₁ b₁ = L₁ b₁
theorem frBr_r : frBr m₁ I₁ I₁ L₁ L₁ := ⟨fun _ _ _ => rfl, fun _ _ _ => rfl, fun _ _ => rfl⟩
theorem frBr_t {J₁ J'₁ : MI} {M₁ M'₁ : ML} (h₁ : frBr m₁ J'₁ J₁ M'₁ M₁) (h2₁ : frBr m₁ J₁ I₁ M₁ L₁) : frBr m₁ J'₁ I₁ M'₁ L₁ := ⟨fun b₁ h3₁ h4₁ => by rw [h₁.1 b₁ h3₁ h4₁, h2₁.1 b₁ h3₁ h4₁], fun b₁ h3₁ h4₁ => by rw [h₁.2.1 b₁ h3₁ h4₁, h2₁.2.1 b₁ h3₁ h4₁], fun b₁ h3₁ => by rw [h₁.2.2 b₁ h3₁, h2₁.2.2 b₁ h3₁]⟩
theorem frBr_V {J₁ : MI} {M₁ : ML} (h₁ : frV₁ m₁ J₁ I₁ M₁ L₁) : frBr m₁ J₁ I₁ M₁ L₁ := ⟨fun b₁ q₁ _ => h₁.1 b₁ q₁, fun y₁ q₁ _ => h₁.2.1 y₁ (by omega) (by omega) (by omega) (by omega) (by omega), h₁.2.2⟩
theorem frBr_f {J₁ : MI} {k₁ pl₁ : Nat} (h₁ : flR₁ m₁ k₁ pl₁ J₁ I₁) : frBr m₁ J₁ I₁ L₁ L₁ := ⟨fun b₁ q₁ _ => h₁.2.2.1 b₁ q₁, fun y₁ q₁ _ => h₁.2.2.2 y₁ (by omega) (by omega), fun _ _ => rfl⟩
theorem frBr_13 {v₁ : Int32} : frBr m₁ (mup I₁ m₁ 13 v₁) I₁ L₁ L₁ := ⟨fun b₁ q₁ _ => mup_ne q₁, fun y₁ q₁ _ => mup_k (by omega), fun _ _ => rfl⟩
theorem frBr_a {J₁ : MI} {a₁ : Nat} {v₁ : Int32} (h₁ : J₁ = mup I₁ (m₁ + 23) a₁ v₁) : frBr m₁ J₁ I₁ L₁ L₁ := ⟨fun b₁ q1₁ q2₁ => by rw [h₁, mup_ne q2₁], fun y₁ q1₁ q2₁ => by rw [h₁, mup_ne (by omega)], fun _ _ => rfl⟩
theorem TRS_a {J₁ : MI} {a₁ : Nat} {v₁ : Int32} (hT₁ : TRS₁ I₁ L₁ m₁ B₁ n₁ lm₁ p₁) (h₁ : J₁ = mup I₁ (m₁ + 23) a₁ v₁) : TRS₁ J₁ L₁ m₁ B₁ n₁ lm₁ p₁ := TRS_fr hT₁ (by rw [h₁, mup_ne (by omega)]) (fun y₁ _ _ => by rw [h₁, mup_ne (by omega)]) rfl
/-- a number of a line, kept -/
theorem r_bookNum {lo₁ hi₁ a₁ : Nat} {Q₁ : Bool → MI → ML → Prop} (hM₁ : MDL K₁ N₁ R₁ m₁) (hT₁ : TRS₁ I₁ L₁ m₁ B₁ n₁ lm₁ p₁) (hlo₁ : lo₁ < 10000) (hhi₁ : hi₁ < 10000) (ha₁ : a₁ < 120)
    (h0₁ : nmS₁ B₁ n₁ lm₁ p₁ lo₁ hi₁ = 0 → ∀ J₁ M₁, TRS₁ J₁ M₁ m₁ B₁ n₁ lm₁ (tkN₁ B₁ n₁ lm₁ p₁) → J₁ (m₁ + 23) = mup I₁ (m₁ + 23) a₁ (nI (tkV₁ B₁ n₁ p₁)) (m₁ + 23) → frBr m₁ J₁ I₁ M₁ L₁ → J₁ m₁ 51 = I₁ m₁ 51 → J₁ m₁ 10 = I₁ m₁ 10 → Q₁ true J₁ M₁)
    (h1₁ : nmS₁ B₁ n₁ lm₁ p₁ lo₁ hi₁ ≠ 0 → ∀ J₁, J₁ m₁ 10 = nI (nmS₁ B₁ n₁ lm₁ p₁ lo₁ hi₁) → J₁ m₁ 11 = nI (tkS₁ B₁ n₁ lm₁ p₁) → frBr m₁ J₁ I₁ L₁ L₁ → Q₁ false J₁ L₁) : w_X12_readNumber m₁ (nI lo₁) (nI hi₁) K₁ N₁ I₁ L₁ R₁ (fun r13₁ I14₁ L15₁ => w_X12_keep m₁ (nI a₁) r13₁ K₁ N₁ I14₁ L15₁ R₁ (fun r16₁ I17₁ => Q₁ r16₁ I17₁ L15₁)) := by
  delta w_X12_keep
  refine r_readNumber hM₁ hT₁ hlo₁ hhi₁ (fun z₁ _ _ _ J₁ M₁ t₁ e13₁ f₁ => ⟨fun y₁ => absurd y₁ (by decide), fun _ => ⟨hM₁.k, _, hM₁.r49, hM₁.k23, by rw [hM₁.n23]; exact (vp_nI (by omega)).mpr ha₁, fun I5₁ g5₁ => ?_⟩⟩) (fun z₁ J₁ f₁ => ⟨fun _ => h1₁ z₁ J₁ f₁.1 f₁.2.1 (frBr_f f₁), fun y₁ => absurd y₁ (by decide)⟩)
  rw [e13₁, ix_nI (by omega)] at g5₁
  refine h0₁ z₁ I5₁ M₁ (TRS_a t₁ g5₁) ?_ (frBr_t (frBr_a g5₁) (frBr_t (frBr_V f₁) frBr_13)) ?_ ?_
  · rw [g5₁]
    rw [mup_vst, mup_vst, f₁.1 _ (by omega), mup_ne (by omega)]
  · rw [g5₁, mup_ne (by omega), f₁.2.1 51 (by decide) (by decide) (by decide) (by decide) (by decide), mup_k (by decide)]
  · rw [g5₁, mup_ne (by omega), frV_10 f₁, mup_k (by decide)]
theorem r_bookLine {Q₁ : Bool → MI → ML → Prop} (hM₁ : MDL K₁ N₁ R₁ m₁) (hT₁ : TRS₁ I₁ L₁ m₁ B₁ n₁ lm₁ p₁) (hS₁ : BKR₁ I₁ m₁ ls₁) (h40₁ : ls₁.length ≤ 40)
    (hbad : ∀ k₁ pl₁, (pBkL B₁ n₁ lm₁ ls₁.length p₁ = .inl (k₁, pl₁) ∨ ∃ l₁ q₁, pBkL B₁ n₁ lm₁ ls₁.length p₁ = .inr (l₁, q₁) ∧ isSn B₁ n₁ lm₁ q₁ 59 = false ∧ k₁ = 1 ∧ pl₁ = tkS₁ B₁ n₁ lm₁ q₁) → ∀ J₁ M₁, J₁ m₁ 10 = nI k₁ → J₁ m₁ 11 = nI pl₁ → frBr m₁ J₁ I₁ M₁ L₁ → Q₁ false J₁ M₁)
    (hok₁ : ∀ l₁ q₁, pBkL B₁ n₁ lm₁ ls₁.length p₁ = .inr (l₁, q₁) → isSn B₁ n₁ lm₁ q₁ 59 = true → ∀ J₁ M₁, TRS₁ J₁ M₁ m₁ B₁ n₁ lm₁ (tkN₁ B₁ n₁ lm₁ q₁) → J₁ m₁ 51 = nI ls₁.length → (∀ i₁, i₁ < ls₁.length + 1 → lnR₁ J₁ m₁ i₁ ((ls₁ ++ [l₁]).getD i₁ (0, 0, 0))) → frBr m₁ J₁ I₁ M₁ L₁ → J₁ m₁ 10 = I₁ m₁ 10 → Q₁ true J₁ M₁) : w_X12_readBookLine m₁ K₁ N₁ I₁ L₁ R₁ Q₁ := by
  delta w_X12_readBookLine w_X12_readBookLine_4
  refine ⟨fun n1₁ y0₁ y1₁ y2₁ I1₁ L1₁ => y0₁ = m₁ ∧ I1₁ = I₁ ∧ L1₁ = L₁ ∧ ∃ i₁, y2₁ = nI i₁ ∧ i₁ ≤ 8 ∧ n1₁ = 8 - i₁ ∧ ((y1₁ = -1 ∧ ∀ k₁, k₁ < i₁ → ¬ isWd B₁ n₁ lm₁ p₁ (15 + k₁) = true) ∨ ∃ k₁, k₁ < i₁ ∧ y1₁ = nI k₁ ∧ isWd B₁ n₁ lm₁ p₁ (15 + k₁) = true), ⟨8, rfl, rfl, rfl, 0, rfl, by decide, rfl, Or.inl ⟨rfl, fun k₁ hk₁ => absurd hk₁ (Nat.not_lt_zero k₁)⟩⟩, ?_⟩
  rintro n1₁ y0₁ y1₁ y2₁ I1₁ L1₁ ⟨rfl, rfl, rfl, i₁, rfl, hi₁, rfl, hy₁⟩
  rw [show (7 : Int32) = nI 7 from rfl, ltN (by omega) (by omega), show (15 : Int32) = nI 15 from rfl, addN]
  refine ⟨fun q₁ => ?_, fun q₁ => ⟨hM₁.k, r_isWord hM₁ hT₁ (by omega) ⟨fun w₁ v66₁ g66₁ => ⟨8 - (i₁ + 1), by omega, rfl, rfl, rfl, i₁ + 1, by rw [g66₁, nI_1], by omega, rfl, ?_⟩, fun w₁ v67₁ g67₁ => ⟨8 - (i₁ + 1), by omega, rfl, rfl, rfl, i₁ + 1, by rw [g67₁, nI_1], by omega, rfl, Or.inr ⟨i₁, by omega, rfl, w₁⟩⟩⟩⟩⟩
  rotate_left
  · rcases hy₁ with ⟨hy₁, hn₁⟩ | ⟨k₁, hk₁, hy₁, hw₁⟩
    · refine Or.inl ⟨hy₁, fun k₁ hk₁ => ?_⟩
      by_cases e₁ : k₁ = i₁
      · rw [e₁, w₁]; decide
      · exact hn₁ k₁ (by omega)
    · exact Or.inr ⟨k₁, by omega, hy₁, hw₁⟩
  have e8₁ : i₁ = 8 := by omega
  subst e8₁
  rcases hy₁ with ⟨rfl, hn₁⟩ | ⟨k₁, hk₁, rfl, hw₁⟩
  · refine ⟨fun z₁ => absurd rfl z₁, fun _ => ⟨hM₁.k, r_bad (k₁ := 1) hM₁ hT₁ (fun _ => rfl) (fun J₁ f₁ => hbad 1 _ (Or.inl (by rw [pBkL, if_pos (bkK_n hn₁)])) J₁ L1₁ f₁.1 f₁.2.1 (frBr_f f₁))⟩⟩
  have ek₁ : bkK₁ B₁ n₁ lm₁ p₁ = k₁ := bkK_s hk₁ hw₁
  have kw₁ : tkK₁ B₁ n₁ lm₁ p₁ = 1 := isWd_k hw₁
  rw [hS₁.1, show (40 : Int32) = nI 40 from rfl, eqN (by omega) (by omega)]
  refine ⟨fun _ => ⟨hM₁.k, fun z₁ => ?_, fun z₁ => r_bad (k₁ := 4) hM₁ hT₁ (fun w₁ => by omega) (fun J₁ f₁ => hbad 4 _ (Or.inl (by rw [pBkL, if_neg (by omega), if_pos z₁])) J₁ L1₁ f₁.1 f₁.2.1 (frBr_f f₁))⟩, fun z₁ => absurd z₁ (m1_ne (by omega))⟩
  have sp₁ : pBkL B₁ n₁ lm₁ ls₁.length p₁ = if k₁ < 2 then bNum B₁ n₁ lm₁ (tkN₁ B₁ n₁ lm₁ p₁) 0 (if k₁ = 0 then 7 else 63) (fun a₁ q₁ => bNum B₁ n₁ lm₁ q₁ 0 999 (fun b₁ q'₁ => .inr ((k₁, a₁, b₁), q'₁)))
      else if k₁ < 5 then bNum B₁ n₁ lm₁ (tkN₁ B₁ n₁ lm₁ p₁) (if k₁ = 2 then 0 else 1) (if k₁ = 2 then 999 else 250) (fun a₁ q₁ => .inr ((k₁, a₁, 0), q₁)) else .inr ((k₁, 0, 0), tkN₁ B₁ n₁ lm₁ p₁) := by
    rw [pBkL, if_neg (by omega), if_neg (by omega), ek₁]
  rw [sp₁] at hbad hok₁
  rw [show (3 : Int32) = nI 3 from rfl, mulN]
  rintro v2₁ rfl
  rw [show (2 : Int32) = nI 2 from rfl, nI_1, addN]
  refine ⟨_, hM₁.r49, hM₁.k23, by rw [hM₁.n23]; exact (vp_nI (by omega)).mpr (by omega), fun I6₁ g6₁ => ⟨by rw [hM₁.n23]; exact (vp_nI (by omega)).mpr (by omega), fun I8₁ g8₁ => ⟨by rw [hM₁.n23]; exact (vp_nI (by omega)).mpr (by omega), fun I10₁ g10₁ => ?_⟩⟩⟩
  rw [ix_nI (by omega)] at g6₁ g8₁ g10₁
  have fr10 : frBr y0₁ I10₁ I1₁ L1₁ L1₁ := frBr_t (frBr_a g10₁) (frBr_t (frBr_a g8₁) (frBr_a g6₁))
  have t10₁ : TRS₁ I10₁ L1₁ y0₁ B₁ n₁ lm₁ p₁ := TRS_a (TRS_a (TRS_a hT₁ g6₁) g8₁) g10₁
  have b10₁ : ∀ b₁, b₁ ≠ y0₁ + 23 → I10₁ b₁ = I1₁ b₁ := fun b₁ q₁ => by rw [g10₁, mup_ne q₁, g8₁, mup_ne q₁, g6₁, mup_ne q₁]
  have c10₁ : I10₁ (y0₁ + 23) (3 * ls₁.length) = nI k₁ ∧ I10₁ (y0₁ + 23) (3 * ls₁.length + 1) = nI 0 ∧ I10₁ (y0₁ + 23) (3 * ls₁.length + 2) = nI 0 ∧ ∀ y₁, y₁ < 3 * ls₁.length → I10₁ (y0₁ + 23) y₁ = I1₁ (y0₁ + 23) y₁ := by
    refine ⟨?_, ?_, ?_, fun y₁ hy₁ => ?_⟩
    · rw [g10₁, mup_k (by omega), g8₁, mup_k (by omega), g6₁, mup_at]
    · rw [g10₁, mup_k (by omega), g8₁, mup_at]; rfl
    · rw [g10₁, mup_at]; rfl
    · rw [g10₁, mup_k (by omega), g8₁, mup_k (by omega), g6₁, mup_k (by omega)]
  -- the₁ lines there, with the₁ new₁ one₁
  have lines : ∀ (J₁ : MI) (a₁ b₁ : Nat), J₁ (y0₁ + 23) (3 * ls₁.length) = nI k₁ → J₁ (y0₁ + 23) (3 * ls₁.length + 1) = nI a₁ → J₁ (y0₁ + 23) (3 * ls₁.length + 2) = nI b₁ → (∀ y₁, y₁ < 3 * ls₁.length → J₁ (y0₁ + 23) y₁ = I1₁ (y0₁ + 23) y₁) → ∀ i₁, i₁ < ls₁.length + 1 → lnR₁ J₁ y0₁ i₁ ((ls₁ ++ [(k₁, a₁, b₁)]).getD i₁ (0, 0, 0)) := fun J₁ a₁ b₁ h1₁ h2₁ h3₁ h4₁ i₁ hi₁ => by
    rw [getD_sn _ _ _ _ hi₁]
    by_cases q₁ : i₁ = ls₁.length
    · rw [if_pos q₁, q₁]; exact ⟨h1₁, h2₁, h3₁⟩
    · rw [if_neg q₁, lnR₁, h4₁ _ (by omega), h4₁ _ (by omega), h4₁ _ (by omega)]; exact hS₁.2 i₁ (by omega)
  refine r_next hM₁ t10₁ (fun I11₁ M11₁ t11₁ f11₁ => ?_)
  have fr11 : frBr y0₁ I11₁ I1₁ M11₁ L1₁ := frBr_t (frBr_V f11₁) fr10
  have e11₁ : I11₁ (y0₁ + 23) = I10₁ (y0₁ + 23) := f11₁.1 _ (by omega)
  have c51₁ : I11₁ y0₁ 51 = nI ls₁.length := by rw [f11₁.2.1 51 (by decide) (by decide) (by decide) (by decide) (by decide), b10₁ _ (by omega)]; exact hS₁.1
  have c_10 : I11₁ y0₁ 10 = I1₁ y0₁ 10 := by rw [frV_10 f11₁, b10₁ _ (by omega)]
  have fin₁ : ∀ (l₁ : Nat × Nat × Nat) (q₁ : Nat) (J₁ : MI) (M₁ : ML), TRS₁ J₁ M₁ y0₁ B₁ n₁ lm₁ q₁ → (∀ i₁, i₁ < ls₁.length + 1 → lnR₁ J₁ y0₁ i₁ ((ls₁ ++ [l₁]).getD i₁ (0, 0, 0))) → frBr y0₁ J₁ I1₁ M₁ L1₁ → J₁ y0₁ 51 = nI ls₁.length → J₁ y0₁ 10 = I1₁ y0₁ 10 → (if k₁ < 2 then bNum B₁ n₁ lm₁ (tkN₁ B₁ n₁ lm₁ p₁) 0 (if k₁ = 0 then 7 else 63) (fun a₁ q₁ => bNum B₁ n₁ lm₁ q₁ 0 999 (fun b₁ q'₁ => .inr ((k₁, a₁, b₁), q'₁)))
      else if k₁ < 5 then bNum B₁ n₁ lm₁ (tkN₁ B₁ n₁ lm₁ p₁) (if k₁ = 2 then 0 else 1) (if k₁ = 2 then 999 else 250) (fun a₁ q₁ => .inr ((k₁, a₁, 0), q₁)) else .inr ((k₁, 0, 0), tkN₁ B₁ n₁ lm₁ p₁) : BRES) = .inr (l₁, q₁) → w_X12_readEnd y0₁ K₁ N₁ J₁ M₁ R₁ (fun r23₁ I24₁ L25₁ => (r23₁ = false → Q₁ false I24₁ L25₁) ∧ (r23₁ = true → Q₁ true I24₁ L25₁)) := fun l₁ q₁ J₁ M₁ t₁ hl₁ fr₁ k51₁ k10₁ e₁ => by
    refine r_readEnd hM₁ t₁ (fun es₁ J3₁ M3₁ t3₁ f3₁ => ⟨fun y₁ => absurd y₁ (by decide), fun _ => hok₁ l₁ q₁ e₁ es₁ J3₁ M3₁ t3₁ ?_ (fun i₁ hi₁ => by rw [lnR₁, f3₁.1 _ (by omega)]; exact hl₁ i₁ hi₁) (frBr_t (frBr_V f3₁) fr₁) (by rw [frV_10 f3₁, k10₁])⟩) (fun es₁ J3₁ f3₁ => ⟨fun _ => hbad 1 _ (Or.inr ⟨l₁, q₁, e₁, es₁, rfl, rfl⟩) J3₁ M₁ f3₁.1 f3₁.2.1 (frBr_t (frBr_f f3₁) fr₁), fun y₁ => absurd y₁ (by decide)⟩)
    rw [f3₁.2.1 51 (by decide) (by decide) (by decide) (by decide) (by decide)]; exact k51₁
  have one₁ : ∀ lo₁ hi₁ : Nat, (lo₁ < 10000) → (hi₁ < 10000) → (2 ≤ k₁ → k₁ < 5 → lo₁ = (if k₁ = 2 then 0 else 1) → hi₁ = (if k₁ = 2 then 999 else 250) → w_X12_readNumber y0₁ (nI lo₁) (nI hi₁) K₁ N₁ I11₁ M11₁ R₁ (fun r39₁ I40₁ L41₁ => w_X12_keep y0₁ (nI (ls₁.length * 3 + 1)) r39₁ K₁ N₁ I40₁ L41₁ R₁ (fun r42₁ I43₁ => (r42₁ = false → Q₁ false I43₁ L41₁) ∧ (r42₁ = true → w_X12_readEnd y0₁ K₁ N₁ I43₁ L41₁ R₁ (fun r44₁ I45₁ L46₁ => (r44₁ = false → Q₁ false I45₁ L46₁) ∧ (r44₁ = true → Q₁ true I45₁ L46₁)))))) := fun lo₁ hi₁ hlo₁ hhi₁ k2₁ k5₁ elo₁ ehi₁ => by
    refine r_bookNum hM₁ t11₁ hlo₁ hhi₁ (by omega) (fun z₁ J₁ M₁ t₁ e₁ fr₁ e51₁ e10₁ => ⟨fun y₁ => absurd y₁ (by decide), fun _ => ?_⟩) (fun z₁ J₁ j10₁ j11₁ fr₁ => ⟨fun _ => ?_, fun y₁ => absurd y₁ (by decide)⟩)
    · refine fin₁ (k₁, _, 0) _ J₁ M₁ t₁ (lines J₁ _ 0 ?_ ?_ ?_ (fun y₁ hy₁ => ?_)) (frBr_t fr₁ fr11) (by rw [e51₁, c51₁]) (by rw [e10₁, c_10]) (by rw [if_neg (by omega), if_pos k5₁, ← elo₁, ← ehi₁, bNum, if_neg (fun w₁ => w₁ z₁)])
      · rw [e₁, mup_k (by omega), e11₁]; exact c10₁.1
      · rw [e₁, Nat.mul_comm 3, mup_at]
      · rw [e₁, mup_k (by omega), e11₁]; exact c10₁.2.2.1
      · rw [e₁, mup_k (by omega), e11₁]; exact c10₁.2.2.2 y₁ hy₁
    · exact hbad _ _ (Or.inl (by rw [if_neg (by omega), if_pos k5₁, ← elo₁, ← ehi₁, bNum, if_pos z₁])) J₁ M11₁ j10₁ j11₁ (frBr_t fr₁ fr11)
  have two₁ : ∀ hi₁ : Nat, (hi₁ < 10000) → (k₁ < 2 → hi₁ = (if k₁ = 0 then 7 else 63) → w_X12_readNumber y0₁ (nI 0) (nI hi₁) K₁ N₁ I11₁ M11₁ R₁ (fun r13₁ I14₁ L15₁ => w_X12_keep y0₁ (nI (ls₁.length * 3 + 1)) r13₁ K₁ N₁ I14₁ L15₁ R₁ (fun r16₁ I17₁ => (r16₁ = false → Q₁ false I17₁ L15₁) ∧ (r16₁ = true → w_X12_readNumber y0₁ (nI 0) (nI 999) K₁ N₁ I17₁ L15₁ R₁ (fun r18₁ I19₁ L20₁ => w_X12_keep y0₁ (nI (ls₁.length * 3 + 2)) r18₁ K₁ N₁ I19₁ L20₁ R₁ (fun r21₁ I22₁ => (r21₁ = false → Q₁ false I22₁ L20₁) ∧ (r21₁ = true → w_X12_readEnd y0₁ K₁ N₁ I22₁ L20₁ R₁ (fun r23₁ I24₁ L25₁ => (r23₁ = false → Q₁ false I24₁ L25₁) ∧ (r23₁ = true → Q₁ true I24₁ L25₁))))))))) := fun hi₁ hhi₁ k2₁ ehi₁ => by
    refine r_bookNum hM₁ t11₁ (by decide) hhi₁ (by omega) (fun z₁ J₁ M₁ t₁ e₁ fr₁ e51₁ e10₁ => ⟨fun y₁ => absurd y₁ (by decide), fun _ => ?_⟩) (fun z₁ J₁ j10₁ j11₁ fr₁ => ⟨fun _ => ?_, fun y₁ => absurd y₁ (by decide)⟩)
    · refine r_bookNum hM₁ t₁ (by decide) (by decide) (by omega) (fun z2₁ J2₁ M2₁ t2₁ e2₁ fr2₁ e512 e102 => ⟨fun y₁ => absurd y₁ (by decide), fun _ => ?_⟩) (fun z2₁ J2₁ j10₁ j11₁ fr2₁ => ⟨fun _ => ?_, fun y₁ => absurd y₁ (by decide)⟩)
      · refine fin₁ (k₁, _, _) _ J2₁ M2₁ t2₁ (lines J2₁ _ _ ?_ ?_ ?_ (fun y₁ hy₁ => ?_)) (frBr_t fr2₁ (frBr_t fr₁ fr11)) (by rw [e512, e51₁, c51₁]) (by rw [e102, e10₁, c_10]) (by rw [if_pos k2₁, ← ehi₁, bNum, if_neg (fun w₁ => w₁ z₁), bNum, if_neg (fun w₁ => w₁ z2₁)])
        · rw [e2₁, mup_k (by omega), e₁, mup_k (by omega), e11₁]; exact c10₁.1
        · rw [e2₁, mup_k (by omega), e₁, Nat.mul_comm 3, mup_at]
        · rw [e2₁, Nat.mul_comm 3, mup_at]
        · rw [e2₁, mup_k (by omega), e₁, mup_k (by omega), e11₁]; exact c10₁.2.2.2 y₁ hy₁
      · exact hbad _ _ (Or.inl (by rw [if_pos k2₁, ← ehi₁, bNum, if_neg (fun w₁ => w₁ z₁), bNum, if_pos z2₁])) J2₁ M₁ j10₁ j11₁ (frBr_t fr2₁ (frBr_t fr₁ fr11))
    · exact hbad _ _ (Or.inl (by rw [if_pos k2₁, ← ehi₁, bNum, if_pos z₁])) J₁ M11₁ j10₁ j11₁ (frBr_t fr₁ fr11)
  delta w_X12_readBookLine_255
  rw [show (0 : Int32) = nI 0 from rfl, show (4 : Int32) = nI 4 from rfl, nI_1, Nat.mul_comm 3, eqN (by omega) (by omega), show (1 : Int32) = nI 1 from rfl, eqN (by omega) (by omega), eqN (by omega) (by omega), eqN (by omega) (by omega), eqN (by omega) (by omega)]
  refine ⟨fun c0₁ => two₁ 7 (by decide) (by omega) (by rw [if_pos (by omega)]), fun c0₁ => ⟨fun c1₁ => two₁ 63 (by decide) (by omega) (by rw [if_neg (by omega)]), fun c1₁ => ⟨fun c2₁ => one₁ 0 999 (by decide) (by decide) (by omega) (by omega) (by rw [if_pos (by omega)]) (by rw [if_pos (by omega)]), fun c2₁ => ⟨fun c3₁ => ⟨hM₁.k, one₁ 1 250 (by decide) (by decide) (by omega) (by omega) (by rw [if_neg (by omega)]) (by rw [if_neg (by omega)])⟩, fun c3₁ => ⟨fun c4₁ => ⟨hM₁.k, one₁ 1 250 (by decide) (by decide) (by omega) (by omega) (by rw [if_neg (by omega)]) (by rw [if_neg (by omega)])⟩, fun c4₁ => ?_⟩⟩⟩⟩⟩
  have e₁ : (if k₁ < 2 then bNum B₁ n₁ lm₁ (tkN₁ B₁ n₁ lm₁ p₁) 0 (if k₁ = 0 then 7 else 63) (fun a₁ q₁ => bNum B₁ n₁ lm₁ q₁ 0 999 (fun b₁ q'₁ => .inr ((k₁, a₁, b₁), q'₁)))
      else if k₁ < 5 then bNum B₁ n₁ lm₁ (tkN₁ B₁ n₁ lm₁ p₁) (if k₁ = 2 then 0 else 1) (if k₁ = 2 then 999 else 250) (fun a₁ q₁ => .inr ((k₁, a₁, 0), q₁)) else .inr ((k₁, 0, 0), tkN₁ B₁ n₁ lm₁ p₁) : BRES) = .inr ((k₁, 0, 0), tkN₁ B₁ n₁ lm₁ p₁) := by rw [if_neg (by omega), if_neg (by omega)]
  have hl₁ := lines I11₁ 0 0 (by rw [e11₁]; exact c10₁.1) (by rw [e11₁]; exact c10₁.2.1) (by rw [e11₁]; exact c10₁.2.2.1) (fun y₁ hy₁ => by rw [e11₁]; exact c10₁.2.2.2 y₁ hy₁)
  refine r_readEnd hM₁ t11₁ (fun es₁ J3₁ M3₁ t3₁ f3₁ => hok₁ _ _ e₁ es₁ J3₁ M3₁ t3₁ ?_ (fun i₁ hi₁ => by rw [lnR₁, f3₁.1 _ (by omega)]; exact hl₁ i₁ hi₁) (frBr_t (frBr_V f3₁) fr11) (by rw [frV_10 f3₁, c_10])) (fun es₁ J3₁ f3₁ => hbad 1 _ (Or.inr ⟨_, _, e₁, es₁, rfl, rfl⟩) J3₁ M11₁ f3₁.1 f3₁.2.1 (frBr_t (frBr_f f3₁) fr11))
  rw [f3₁.2.1 51 (by decide) (by decide) (by decide) (by decide) (by decide)]; exact c51₁
end BR₁
