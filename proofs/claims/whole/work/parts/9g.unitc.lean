/-! ===== a unit's text read: the class ===== -/
/-- a fault's kind -/
def bad5 (r₁ : LRES) : Prop := ∀ k₁ pl₁, r₁ = .inl (k₁, pl₁) → 1 ≤ k₁ ∧ k₁ ≤ 5
section UN₁
variable {B₁ : Nat → Nat} {n₁ lm₁ p₁ : Nat} {U₁ : Nat → Int32} {NM₁ : Nat → List Nat}
theorem bad5_l {k₁ pl₁ : Nat} (h1₁ : 1 ≤ k₁) (h2₁ : k₁ ≤ 5) : bad5 (.inl (k₁, pl₁)) := fun k'₁ pl'₁ h₁ => by
  injection h₁ with h₁
  injection h₁ with h3₁ h4₁
  omega
theorem bad5_r {z₁ : (Nat → Int32) × (Nat → List Nat) × Nat} : bad5 (.inr z₁) := fun _ _ h₁ => by cases h₁
theorem bad5_i {c₁ : Prop} [Decidable c₁] {a₁ b₁ : LRES} (h1₁ : bad5 a₁) (h2₁ : bad5 b₁) : bad5 (if c₁ then a₁ else b₁) := by
  split
  · exact h1₁
  · exact h2₁
theorem bad5_num {lo₁ hi₁ : Nat} {k₁ : LRES} (h₁ : bad5 k₁) : bad5 (pNum B₁ n₁ lm₁ p₁ lo₁ hi₁ k₁) := by
  rw [pNum]
  split
  · rename_i z₁
    have : nmS₁ B₁ n₁ lm₁ p₁ lo₁ hi₁ ≤ 2 := by rw [nmS₁]; split; (split <;> omega); omega
    exact bad5_l (by omega) (by omega)
  · exact h₁
theorem bad5_new {k₁ : LRES} (h₁ : bad5 k₁) : bad5 (pNew B₁ n₁ lm₁ U₁ NM₁ p₁ k₁) := bad5_i (bad5_l (by decide) (by decide)) (bad5_i (bad5_l (by decide) (by decide)) h₁)
theorem bad5_told {b₁ c₁ : Nat} {k₁ : LRES} (h₁ : bad5 k₁) : bad5 (pTold B₁ n₁ lm₁ NM₁ b₁ c₁ p₁ k₁) := bad5_i (bad5_l (by decide) (by decide)) (bad5_i (bad5_l (by decide) (by decide)) h₁)
theorem bad5_op {c₁ d₁ : Nat} {kk₁ : Int32 → Nat → LRES} (h₁ : ∀ r₁ q₁, bad5 (kk₁ r₁ q₁)) : bad5 (pOp₁ B₁ n₁ lm₁ c₁ d₁ p₁ kk₁) :=
  bad5_i (bad5_l (by decide) (by decide)) (bad5_i (bad5_l (by decide) (by decide)) (bad5_i (h₁ _ _) (bad5_i (bad5_num (h₁ _ _)) (bad5_i (h₁ _ _) (bad5_l (by decide) (by decide))))))
theorem bad5_ops {w₁ : Nat} : ∀ (f₁ : Nat) (U₁ : Nat → Int32) (c₁ d₁ p₁ : Nat), c₁ + f₁ = 9 → bad5 (pOps B₁ n₁ lm₁ NM₁ w₁ f₁ U₁ c₁ d₁ p₁) ∨ f₁ = 0
  | 0, _, _, _, _, _ => Or.inr rfl
  | f₁ + 1, U₁, c₁, d₁, p₁, h₁ => by
    refine Or.inl ?_
    rw [pOps]
    split
    · exact bad5_i bad5_r bad5_r
    · rename_i o0₁
      rcases f₁ with - | f₁
      · rw [pOp₁, if_neg o0₁, if_pos (show c₁ = 8 by omega)]; exact bad5_l (by decide) (by decide)
      · exact bad5_op (fun r₁ q₁ => (bad5_ops (f₁ + 1) _ _ _ _ (by omega)).resolve_right (by omega))
theorem bad5_line {lines : Nat} : bad5 (pLine B₁ n₁ lm₁ lines U₁ NM₁ p₁) := by
  refine bad5_i ?_ (bad5_i ?_ (bad5_i ?_ (bad5_i ?_ (bad5_i ?_ (bad5_i ?_ (bad5_l (by decide) (by decide)))))))
  · rw [pSize]
    refine bad5_i (bad5_l (by decide) (by decide)) ?_
    exact bad5_num (k₁ := .inr (vst₁ U₁ 0 (nI (tkV₁ B₁ n₁ (tkN₁ B₁ n₁ lm₁ p₁))), NM₁, tkN₁ B₁ n₁ lm₁ (tkN₁ B₁ n₁ lm₁ p₁))) bad5_r
  · rw [pRow]
    refine bad5_i (bad5_l (by decide) (by decide)) ?_
    refine bad5_num (k₁ := if rowAt U₁ (tkV₁ B₁ n₁ (tkN₁ B₁ n₁ lm₁ p₁)) = true then .inl (3, tkS₁ B₁ n₁ lm₁ (tkN₁ B₁ n₁ lm₁ p₁)) else pNum B₁ n₁ lm₁ (tkN₁ B₁ n₁ lm₁ (tkN₁ B₁ n₁ lm₁ p₁)) 1 250 (.inr (insU U₁ (posS U₁ (nI (tkV₁ B₁ n₁ (tkN₁ B₁ n₁ lm₁ p₁)))) (ix (U₁ 1)) (nI (tkV₁ B₁ n₁ (tkN₁ B₁ n₁ lm₁ p₁))) (nI (tkV₁ B₁ n₁ (tkN₁ B₁ n₁ lm₁ (tkN₁ B₁ n₁ lm₁ p₁)))), NM₁, tkN₁ B₁ n₁ lm₁ (tkN₁ B₁ n₁ lm₁ (tkN₁ B₁ n₁ lm₁ p₁))))) ?_
    exact bad5_i (bad5_l (by decide) (by decide)) (bad5_num bad5_r)
  · rw [pScope]
    exact bad5_i (bad5_l (by decide) (by decide)) (bad5_new (bad5_num (bad5_num (bad5_i (bad5_l (by decide) (by decide)) (bad5_num bad5_r)))))
  · rw [pType]
    exact bad5_i (bad5_l (by decide) (by decide)) (bad5_new (bad5_num (bad5_num (bad5_i bad5_r (bad5_l (by decide) (by decide))))))
  · rw [pVar]
    exact bad5_i (bad5_l (by decide) (by decide)) (bad5_new (bad5_told (bad5_told bad5_r)))
  · rw [pWhere]
    refine bad5_i (bad5_l (by decide) (by decide)) (bad5_told (bad5_num (bad5_num (bad5_i (bad5_l (by decide) (by decide)) ?_))))
    rw [pExpr]
    exact bad5_i (bad5_num bad5_r) (bad5_i (bad5_l (by decide) (by decide)) ((bad5_ops 9 _ _ _ _ rfl).resolve_right (by decide)))
theorem bad5_end {r₁ : LRES} (h₁ : bad5 r₁) : bad5 (pEnd B₁ n₁ lm₁ r₁) := by
  rcases r₁ with e₁ | ⟨U2₁, NM2₁, q₁⟩
  · exact h₁
  · exact bad5_i bad5_r (bad5_l (by decide) (by decide))
end UN₁
/-- what reading a unit leaves as it was -/
def frU₁ (x₁ : Nat) (J₁ I₁ : MI) (M₁ L₁ : ML) : Prop := (∀ b₁, b₁ ≠ x₁ + 1 → b₁ < x₁ + 36 ∨ x₁ + 52 < b₁ → J₁ b₁ = I₁ b₁) ∧ (∀ b₁, b₁ ≠ x₁ + 1 → b₁ < x₁ + 37 ∨ x₁ + 52 < b₁ → M₁ b₁ = L₁ b₁) ∧ ∀ b₁, b₁ = x₁ + 38 ∨ b₁ = x₁ + 41 ∨ b₁ = x₁ + 44 ∨ b₁ = x₁ + 47 ∨ b₁ = x₁ + 50 → J₁ b₁ 0 = I₁ b₁ 0
section UN₁
variable {K₁ N₁ : MK} {I₁ : MI} {L₁ : ML} {R₁ : MR} {n₁ lm₁ x₁ : Nat} {B₁ : Nat → Nat} {U0₁ : Nat → Int32} {NM0₁ : Nat → List Nat}
theorem s_unitLoop {Q₁ : Int32 → MI → ML → Prop} (hX₁ : PDL K₁ N₁ R₁ x₁) (hS₁ : DSC₁ K₁ N₁ R₁ I₁ L₁ x₁ B₁ n₁ lm₁ U0₁ NM0₁ 0) (hz₁ : ∀ k₁, 1 ≤ k₁ → k₁ < 6 → ix (U0₁ k₁) = 0) (h1₁ : I₁ (x₁ + 36) 1 = 0) (h10₁ : I₁ (x₁ + 1) 10 = 0)
    (hbad : ∀ k₁ pl₁, pUnit B₁ n₁ lm₁ 500 0 U0₁ NM0₁ 0 = .inl (k₁, pl₁) → 1 ≤ k₁ → k₁ ≤ 5 → ∀ J₁ M₁ r₁, flD₁ x₁ k₁ pl₁ J₁ → frU₁ x₁ J₁ I₁ M₁ L₁ → Q₁ r₁ J₁ M₁)
    (hok₁ : ∀ U'₁ NM'₁ i₁, pUnit B₁ n₁ lm₁ 500 0 U0₁ NM0₁ 0 = .inr (U'₁, NM'₁, i₁) → ∀ J₁ M₁ p₁, DSC₁ K₁ N₁ R₁ J₁ M₁ x₁ B₁ n₁ lm₁ U'₁ NM'₁ p₁ → J₁ (x₁ + 1) 10 = 0 → frU₁ x₁ J₁ I₁ M₁ L₁ → Q₁ (nI i₁) J₁ M₁) : w_X10_readUnit_21 (x₁ + 36) (x₁ + 1) 0 K₁ N₁ I₁ L₁ R₁ Q₁ := by
  delta w_X10_readUnit_21
  refine ⟨fun n1₁ y0₁ y1₁ y2₁ I1₁ L1₁ => y0₁ = x₁ + 36 ∧ y1₁ = x₁ + 1 ∧ ∃ i₁ p₁ U₁ NM₁, n1₁ = 1000 - i₁ ∧ y2₁ = nI i₁ ∧ 2 * i₁ ≤ p₁ ∧ DSC₁ K₁ N₁ R₁ I1₁ L1₁ x₁ B₁ n₁ lm₁ U₁ NM₁ p₁ ∧ (i₁ = 0 → ∀ k₁, 1 ≤ k₁ → k₁ < 6 → ix (U₁ k₁) = 0) ∧ I1₁ (x₁ + 36) 1 = nI i₁ ∧ I1₁ (x₁ + 1) 10 = 0 ∧ frU₁ x₁ I1₁ I₁ L1₁ L₁ ∧ pUnit B₁ n₁ lm₁ (500 - i₁) i₁ U₁ NM₁ p₁ = pUnit B₁ n₁ lm₁ 500 0 U0₁ NM0₁ 0, ⟨1000, rfl, rfl, 0, 0, U0₁, NM0₁, rfl, rfl, Nat.le_refl 0, hS₁, fun _ => hz₁, h1₁, h10₁, ⟨fun _ _ _ => rfl, fun _ _ _ => rfl, fun _ _ => rfl⟩, rfl⟩, ?_⟩
  rintro n1₁ y0₁ y1₁ y2₁ I1₁ L1₁ ⟨rfl, rfl, i₁, p₁, U₁, NM₁, rfl, rfl, hip₁, hS1₁, hz1₁, hl₁, hf10, hfr₁, hE₁⟩
  obtain ⟨hT₁, hD₁, hW₁, hN₁⟩ := hS1₁
  have hpn₁ : p₁ ≤ n₁ := hT₁.2.2.2.2.1
  have h940 : n₁ ≤ 940 := hT₁.2.2.1
  have k4₁ : I1₁ (x₁ + 1) 4 = nI (tkK₁ B₁ n₁ lm₁ p₁) := hT₁.2.2.2.2.2.2.2.2.2.1
  have hk4₁ := tkK_le (B₁ := B₁) (n₁ := n₁) (lm₁ := lm₁) (p₁ := p₁)
  rw [show 500 - i₁ = (500 - (i₁ + 1)) + 1 by omega, pUnit] at hE₁
  rw [show (900 : Int32) = nI 900 from rfl, leN (by omega) (by omega), k4₁, show (nI (tkK₁ B₁ n₁ lm₁ p₁) = 0) = (nI (tkK₁ B₁ n₁ lm₁ p₁) = nI 0) from rfl, eqN (by omega) (by omega)]
  refine ⟨fun z₁ => by omega, fun _ => ⟨hX₁.tok, fun z₁ => ⟨hX₁.urd, ?_⟩, fun z₁ => s_wordHere hT₁ ?_⟩⟩
  · rw [if_pos z₁] at hE₁
    rw [hl₁]
    exact hok₁ U₁ NM₁ i₁ hE₁.symm I1₁ L1₁ p₁ ⟨hT₁, hD₁, hW₁, hN₁⟩ hf10 hfr₁
  rw [if_neg z₁] at hE₁
  have frDU : ∀ {J₁ : MI} {M₁ : ML}, frD₁ x₁ J₁ I1₁ M₁ L1₁ → frU₁ x₁ J₁ I₁ M₁ L₁ := fun g₁ => ⟨fun b₁ q1₁ q2₁ => by rw [g₁.1 b₁ q1₁ q2₁, hfr₁.1 b₁ q1₁ q2₁], fun b₁ q1₁ q2₁ => by rw [g₁.2.1 b₁ q1₁ q2₁, hfr₁.2.1 b₁ q1₁ q2₁], fun b₁ q₁ => by rw [g₁.2.2.2 b₁ q₁, hfr₁.2.2 b₁ q₁]⟩
  -- a₁ line that is₁ none
  have bad₁ : ∀ k₁ pl₁, pEnd B₁ n₁ lm₁ (pLine B₁ n₁ lm₁ i₁ U₁ NM₁ p₁) = .inl (k₁, pl₁) → ∀ J₁ M₁ r₁, flD₁ x₁ k₁ pl₁ J₁ → frD₁ x₁ J₁ I1₁ M₁ L1₁ → Q₁ r₁ J₁ M₁ := fun k₁ pl₁ hp₁ J₁ M₁ r₁ fl₁ fr₁ => by
    rw [hp₁] at hE₁
    obtain ⟨b1₁, b2₁⟩ := bad5_end bad5_line k₁ pl₁ hp₁
    exact hbad k₁ pl₁ hE₁.symm b1₁ b2₁ J₁ M₁ r₁ fl₁ (frDU fr₁)
  -- a₁ line read
  have good : ∀ U'₁ NM'₁ p'₁, pLine B₁ n₁ lm₁ i₁ U₁ NM₁ p₁ = .inr (U'₁, NM'₁, p'₁) → ∀ J₁ M₁, DSC₁ K₁ N₁ R₁ J₁ M₁ x₁ B₁ n₁ lm₁ U'₁ NM'₁ p'₁ → frD₁ x₁ J₁ I1₁ M₁ L1₁ → J₁ (x₁ + 1) 10 = I1₁ (x₁ + 1) 10 → w_X10_readUnit_136 (x₁ + 36) (x₁ + 1) (nI i₁) true K₁ N₁ J₁ M₁ R₁ (fun y0₁ y1₁ y2₁ y3₁ y4₁ => ∃ n1₁, n1₁ < 1000 - i₁ ∧ ((fun n1₁ y0₁ y1₁ y2₁ I1₁ L1₁ => y0₁ = x₁ + 36 ∧ y1₁ = x₁ + 1 ∧ ∃ i₁ p₁ U₁ NM₁, n1₁ = 1000 - i₁ ∧ y2₁ = nI i₁ ∧ 2 * i₁ ≤ p₁ ∧ DSC₁ K₁ N₁ R₁ I1₁ L1₁ x₁ B₁ n₁ lm₁ U₁ NM₁ p₁ ∧ (i₁ = 0 → ∀ k₁, 1 ≤ k₁ → k₁ < 6 → ix (U₁ k₁) = 0) ∧ I1₁ (x₁ + 36) 1 = nI i₁ ∧ I1₁ (x₁ + 1) 10 = 0 ∧ frU₁ x₁ I1₁ I₁ L1₁ L₁ ∧ pUnit B₁ n₁ lm₁ (500 - i₁) i₁ U₁ NM₁ p₁ = pUnit B₁ n₁ lm₁ 500 0 U0₁ NM0₁ 0 : Nat → Nat → Nat → Int32 → MI → ML → Prop) n1₁ y0₁ y1₁ y2₁ y3₁ y4₁)) Q₁ := by
    intro U'₁ NM'₁ p'₁ hp₁ J₁ M₁ hS2₁ fr₁ e10₁
    obtain ⟨hT2₁, hD2₁, hW2₁, hN2₁⟩ := hS2₁
    delta w_X10_readUnit_136
    refine ⟨fun q₁ => absurd q₁ (by decide), fun _ => ⟨hX₁.tok, s_passSign (c₁ := 59) hT2₁ (by decide) (fun es₁ J3₁ M3₁ t3₁ f3₁ => ⟨fun _ => ⟨hX₁.urd, fun I23₁ g23₁ v24₁ g24₁ => ?_⟩, fun q₁ => absurd q₁ (by decide)⟩) (fun es₁ J3₁ f3₁ => ⟨fun q₁ => absurd q₁ (by decide), fun _ => ⟨hX₁.urd, ?_⟩⟩)⟩⟩
    · have he₁ : pEnd B₁ n₁ lm₁ (pLine B₁ n₁ lm₁ i₁ U₁ NM₁ p₁) = .inr (U'₁, NM'₁, tkN₁ B₁ n₁ lm₁ p'₁) := by rw [hp₁, pEnd, if_pos es₁]
      have hl2₁ : J3₁ (x₁ + 36) 1 = nI i₁ := by rw [f3₁.1 _ (by omega), fr₁.2.2.1 1 (by decide), hl₁]
      rw [hl2₁, nI_1] at g23₁
      obtain ⟨-, -, h2₁, -⟩ := pLine_ok hW₁ hN₁ hz1₁ he₁
      rw [he₁] at hE₁
      have b23₁ : ∀ b₁, b₁ ≠ x₁ + 36 → I23₁ b₁ = J3₁ b₁ := fun b₁ q₁ => by rw [g23₁, mup_ne q₁]
      refine ⟨1000 - (i₁ + 1), by omega, rfl, rfl, i₁ + 1, _, U'₁, NM'₁, rfl, by rw [g24₁, nI_1], by omega, ⟨TCS_fr t3₁ (b23₁ _ (by omega)) (fun y₁ _ _ => by rw [b23₁ _ (by omega)]) rfl, (UD_K hD2₁ f3₁).fr (fun a₁ q1₁ q2₁ => b23₁ a₁ (by omega)) (fun _ _ _ => rfl), hW2₁, hN2₁⟩, fun q₁ => by omega, by rw [g23₁, mup_at], ?_, ?_, hE₁⟩
      · rw [b23₁ _ (by omega), frK_10 f3₁, e10₁, hf10]
      · have g₁ := frDU (frD_t (frD_K f3₁) fr₁)
        exact ⟨fun b₁ q1₁ q2₁ => by rw [b23₁ b₁ (by omega), g₁.1 b₁ q1₁ q2₁], g₁.2.1, fun b₁ q₁ => by rw [b23₁ b₁ (by omega), g₁.2.2 b₁ q₁]⟩
    · exact bad₁ 1 (tkS₁ B₁ n₁ lm₁ p'₁) (by rw [hp₁, pEnd, if_neg (by rw [es₁]; decide)]) J3₁ M₁ _ (flD_f f3₁) (frD_t (frD_f f3₁) fr₁)
  have fls₁ : ∀ J₁ M₁, (∃ k₁ pl₁, pEnd B₁ n₁ lm₁ (pLine B₁ n₁ lm₁ i₁ U₁ NM₁ p₁) = .inl (k₁, pl₁) ∧ flD₁ x₁ k₁ pl₁ J₁) → frD₁ x₁ J₁ I1₁ M₁ L1₁ → w_X10_readUnit_136 (x₁ + 36) (x₁ + 1) (nI i₁) false K₁ N₁ J₁ M₁ R₁ (fun y0₁ y1₁ y2₁ y3₁ y4₁ => ∃ n1₁, n1₁ < 1000 - i₁ ∧ ((fun n1₁ y0₁ y1₁ y2₁ I1₁ L1₁ => y0₁ = x₁ + 36 ∧ y1₁ = x₁ + 1 ∧ ∃ i₁ p₁ U₁ NM₁, n1₁ = 1000 - i₁ ∧ y2₁ = nI i₁ ∧ 2 * i₁ ≤ p₁ ∧ DSC₁ K₁ N₁ R₁ I1₁ L1₁ x₁ B₁ n₁ lm₁ U₁ NM₁ p₁ ∧ (i₁ = 0 → ∀ k₁, 1 ≤ k₁ → k₁ < 6 → ix (U₁ k₁) = 0) ∧ I1₁ (x₁ + 36) 1 = nI i₁ ∧ I1₁ (x₁ + 1) 10 = 0 ∧ frU₁ x₁ I1₁ I₁ L1₁ L₁ ∧ pUnit B₁ n₁ lm₁ (500 - i₁) i₁ U₁ NM₁ p₁ = pUnit B₁ n₁ lm₁ 500 0 U0₁ NM0₁ 0 : Nat → Nat → Nat → Int32 → MI → ML → Prop) n1₁ y0₁ y1₁ y2₁ y3₁ y4₁)) Q₁ := fun J₁ M₁ ⟨k₁, pl₁, hp₁, fl₁⟩ fr₁ => by
    delta w_X10_readUnit_136
    exact ⟨fun _ => ⟨hX₁.urd, bad₁ k₁ pl₁ hp₁ J₁ M₁ _ fl₁ fr₁⟩, fun q₁ => absurd q₁ (by decide)⟩
  have wh₁ : ∀ c₁ : Nat, c₁ < 34 → (whS₁ B₁ n₁ lm₁ p₁ = nI c₁ ↔ isWd B₁ n₁ lm₁ p₁ (wpL₁.getD c₁ 0) = true) := fun c₁ hc₁ => whS_iff hc₁
  have w0₁ : whS₁ B₁ n₁ lm₁ p₁ = 0 ↔ isWd B₁ n₁ lm₁ p₁ 0 = true := wh₁ 0 (by decide)
  have w1₁ : whS₁ B₁ n₁ lm₁ p₁ = 1 ↔ isWd B₁ n₁ lm₁ p₁ 1 = true := wh₁ 1 (by decide)
  have w2₁ : whS₁ B₁ n₁ lm₁ p₁ = 2 ↔ isWd B₁ n₁ lm₁ p₁ 2 = true := wh₁ 2 (by decide)
  have w3₁ : whS₁ B₁ n₁ lm₁ p₁ = 3 ↔ isWd B₁ n₁ lm₁ p₁ 3 = true := wh₁ 3 (by decide)
  have w4₁ : whS₁ B₁ n₁ lm₁ p₁ = 4 ↔ isWd B₁ n₁ lm₁ p₁ 5 = true := wh₁ 4 (by decide)
  have w5₁ : whS₁ B₁ n₁ lm₁ p₁ = 5 ↔ isWd B₁ n₁ lm₁ p₁ 6 = true := wh₁ 5 (by decide)
  have hS1₁ : DSC₁ K₁ N₁ R₁ I1₁ L1₁ x₁ B₁ n₁ lm₁ U₁ NM₁ p₁ := ⟨hT₁, hD₁, hW₁, hN₁⟩
  rw [w0₁, w1₁, w2₁, w3₁, w4₁, w5₁]
  refine ⟨fun a0₁ => ⟨hX₁.urd, ?_⟩, fun a0₁ => ⟨fun a1₁ => ⟨hX₁.urd, ?_⟩, fun a1₁ => ⟨fun a2₁ => ⟨hX₁.urd, ?_⟩, fun a2₁ => ⟨fun a3₁ => ⟨hX₁.urd, ?_⟩, fun a3₁ => ⟨fun a4₁ => ⟨hX₁.urd, ?_⟩, fun a4₁ => ⟨fun a5₁ => ⟨hX₁.urd, ?_⟩, fun a5₁ => s_failT (k₁ := 1) hT₁ (fun J₁ f₁ => ?_)⟩⟩⟩⟩⟩⟩
  · have e₁ : pLine B₁ n₁ lm₁ i₁ U₁ NM₁ p₁ = pSize B₁ n₁ lm₁ i₁ U₁ NM₁ p₁ := by rw [pLine, if_pos a0₁]
    exact s_readSize hX₁ hS1₁ hl₁ (by omega) hz1₁ (fun k₁ pl₁ hp₁ J₁ M₁ fl₁ fr₁ => fls₁ J₁ M₁ ⟨k₁, pl₁, by rw [e₁, hp₁]; rfl, fl₁⟩ fr₁) (fun U'₁ NM'₁ p'₁ hp₁ => good U'₁ NM'₁ p'₁ (by rw [e₁]; exact hp₁))
  · have e₁ : pLine B₁ n₁ lm₁ i₁ U₁ NM₁ p₁ = pRow B₁ n₁ lm₁ U₁ NM₁ p₁ := by rw [pLine, if_neg a0₁, if_pos a1₁]
    exact s_readRow hX₁ hS1₁ (fun k₁ pl₁ hp₁ J₁ M₁ fl₁ fr₁ => fls₁ J₁ M₁ ⟨k₁, pl₁, by rw [e₁, hp₁]; rfl, fl₁⟩ fr₁) (fun U'₁ NM'₁ p'₁ hp₁ => good U'₁ NM'₁ p'₁ (by rw [e₁]; exact hp₁))
  · have e₁ : pLine B₁ n₁ lm₁ i₁ U₁ NM₁ p₁ = pScope B₁ n₁ lm₁ U₁ NM₁ p₁ := by rw [pLine, if_neg a0₁, if_neg a1₁, if_pos a2₁]
    exact s_readScope hX₁ hS1₁ (fun k₁ pl₁ hp₁ J₁ M₁ fl₁ fr₁ => fls₁ J₁ M₁ ⟨k₁, pl₁, by rw [e₁, hp₁]; rfl, fl₁⟩ fr₁) (fun U'₁ NM'₁ p'₁ hp₁ => good U'₁ NM'₁ p'₁ (by rw [e₁]; exact hp₁))
  · have e₁ : pLine B₁ n₁ lm₁ i₁ U₁ NM₁ p₁ = pType B₁ n₁ lm₁ U₁ NM₁ p₁ := by rw [pLine, if_neg a0₁, if_neg a1₁, if_neg a2₁, if_pos a3₁]
    exact s_readType hX₁ hS1₁ (fun k₁ pl₁ hp₁ J₁ M₁ fl₁ fr₁ => fls₁ J₁ M₁ ⟨k₁, pl₁, by rw [e₁, hp₁]; rfl, fl₁⟩ fr₁) (fun U'₁ NM'₁ p'₁ hp₁ => good U'₁ NM'₁ p'₁ (by rw [e₁]; exact hp₁))
  · have e₁ : pLine B₁ n₁ lm₁ i₁ U₁ NM₁ p₁ = pVar B₁ n₁ lm₁ U₁ NM₁ p₁ := by rw [pLine, if_neg a0₁, if_neg a1₁, if_neg a2₁, if_neg a3₁, if_pos a4₁]
    exact s_readVar hX₁ hS1₁ (fun k₁ pl₁ hp₁ J₁ M₁ fl₁ fr₁ => fls₁ J₁ M₁ ⟨k₁, pl₁, by rw [e₁, hp₁]; rfl, fl₁⟩ fr₁) (fun U'₁ NM'₁ p'₁ hp₁ => good U'₁ NM'₁ p'₁ (by rw [e₁]; exact hp₁))
  · have e₁ : pLine B₁ n₁ lm₁ i₁ U₁ NM₁ p₁ = pWhere B₁ n₁ lm₁ U₁ NM₁ p₁ := by rw [pLine, if_neg a0₁, if_neg a1₁, if_neg a2₁, if_neg a3₁, if_neg a4₁, if_pos a5₁]
    exact s_readPlace hX₁ hS1₁ (fun k₁ pl₁ hp₁ J₁ M₁ fl₁ fr₁ => fls₁ J₁ M₁ ⟨k₁, pl₁, by rw [e₁]; exact hp₁, fl₁⟩ fr₁) (fun U'₁ NM'₁ p'₁ hp₁ => good U'₁ NM'₁ p'₁ (by rw [e₁]; exact hp₁))
  · have e₁ : pLine B₁ n₁ lm₁ i₁ U₁ NM₁ p₁ = .inl (1, tkS₁ B₁ n₁ lm₁ p₁) := by rw [pLine, if_neg a0₁, if_neg a1₁, if_neg a2₁, if_neg a3₁, if_neg a4₁, if_neg a5₁]
    exact fls₁ J₁ L1₁ ⟨1, tkS₁ B₁ n₁ lm₁ p₁, by rw [e₁]; rfl, flD_f f₁⟩ (frD_f f₁)
end UN₁
