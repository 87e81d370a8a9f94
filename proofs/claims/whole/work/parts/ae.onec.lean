/-! ===== a sentence read: the class's one, the class's call ===== -/
section SC₁
variable {K₁ N₁ : MK} {I₁ : MI} {L₁ : ML} {R₁ : MR} {x₁ n₁ p₁ k₁ sc₁ : Nat} {B₁ : Nat → Nat} {NM₁ : Nat → List Nat}
theorem s_isFirst {w₁ : Int32} {Q₁ : Bool → Prop} (ht₁ : (w₁ = 7 ∨ w₁ = 9 ∨ w₁ = 27 ∨ w₁ = 28 ∨ w₁ = 29 ∨ w₁ = 30 ∨ w₁ = 31 ∨ w₁ = 32 ∨ w₁ = 33) → Q₁ true) (hf₁ : ¬ (w₁ = 7 ∨ w₁ = 9 ∨ w₁ = 27 ∨ w₁ = 28 ∨ w₁ = 29 ∨ w₁ = 30 ∨ w₁ = 31 ∨ w₁ = 32 ∨ w₁ = 33) → Q₁ false) : w_X6_isFirstWord w₁ K₁ N₁ I₁ L₁ R₁ Q₁ := by
  delta w_X6_isFirstWord
  exact ⟨fun e₁ => ht₁ (by rw [e₁]; decide), fun e7₁ => ⟨fun e₁ => hf₁ (by rw [e₁]; decide), fun e8₁ => ⟨fun e₁ => ht₁ (by rw [e₁]; decide), fun e9₁ => ⟨fun e₁ => hf₁ (by rw [e₁]; decide), fun e10₁ => ⟨fun e₁ => hf₁ (by rw [e₁]; decide), fun e11₁ => ⟨fun e₁ => hf₁ (by rw [e₁]; decide), fun e12₁ => ⟨fun e₁ => hf₁ (by rw [e₁]; decide), fun e13₁ => ⟨fun e₁ => hf₁ (by rw [e₁]; decide), fun e14₁ => ⟨fun e₁ => hf₁ (by rw [e₁]; decide), fun e15₁ => ⟨fun e₁ => hf₁ (by rw [e₁]; decide), fun e16₁ => ⟨fun e₁ => hf₁ (by rw [e₁]; decide), fun e17₁ => ⟨fun e₁ => hf₁ (by rw [e₁]; decide), fun e18₁ => ⟨fun e₁ => hf₁ (by rw [e₁]; decide), fun e19₁ => ⟨fun e₁ => hf₁ (by rw [e₁]; decide), fun e20₁ => ⟨fun e₁ => hf₁ (by rw [e₁]; decide), fun e21₁ => ⟨fun e₁ => hf₁ (by rw [e₁]; decide), fun e22₁ => ⟨fun e₁ => hf₁ (by rw [e₁]; decide), fun e23₁ => ⟨fun e₁ => hf₁ (by rw [e₁]; decide), fun e24₁ => ⟨fun e₁ => hf₁ (by rw [e₁]; decide), fun e25₁ => ⟨fun e₁ => hf₁ (by rw [e₁]; decide), fun e26₁ => ⟨fun e₁ => ht₁ (by rw [e₁]; decide), fun e27₁ => ⟨fun e₁ => ht₁ (by rw [e₁]; decide), fun e28₁ => ⟨fun e₁ => ht₁ (by rw [e₁]; decide), fun e29₁ => ⟨fun e₁ => ht₁ (by rw [e₁]; decide), fun e30₁ => ⟨fun e₁ => ht₁ (by rw [e₁]; decide), fun e31₁ => ⟨fun e₁ => ht₁ (by rw [e₁]; decide), fun e32₁ => ⟨fun e₁ => ht₁ (by rw [e₁]; decide), fun e33₁ => hf₁ (by simp only [e7₁, e9₁, e27₁, e28₁, e29₁, e30₁, e31₁, e32₁, e33₁, or_false, not_false_eq_true])⟩⟩⟩⟩⟩⟩⟩⟩⟩⟩⟩⟩⟩⟩⟩⟩⟩⟩⟩⟩⟩⟩⟩⟩⟩⟩⟩
theorem swK_w : (swK₁ B₁ n₁ 200 p₁ ≠ 0 → whS₁ B₁ n₁ 200 p₁ = nI (swK₁ B₁ n₁ 200 p₁) ∧ (swK₁ B₁ n₁ 200 p₁ = 7 ∨ swK₁ B₁ n₁ 200 p₁ = 9 ∨ (27 ≤ swK₁ B₁ n₁ 200 p₁ ∧ swK₁ B₁ n₁ 200 p₁ ≤ 33))) ∧ (swK₁ B₁ n₁ 200 p₁ = 0 → ¬ (whS₁ B₁ n₁ 200 p₁ = 7 ∨ whS₁ B₁ n₁ 200 p₁ = 9 ∨ whS₁ B₁ n₁ 200 p₁ = 27 ∨ whS₁ B₁ n₁ 200 p₁ = 28 ∨ whS₁ B₁ n₁ 200 p₁ = 29 ∨ whS₁ B₁ n₁ 200 p₁ = 30 ∨ whS₁ B₁ n₁ 200 p₁ = 31 ∨ whS₁ B₁ n₁ 200 p₁ = 32 ∨ whS₁ B₁ n₁ 200 p₁ = 33)) := by
  have w27₁ : whS₁ B₁ n₁ 200 p₁ = 27 ↔ isWd B₁ n₁ 200 p₁ 25 = true := whS_iff (c₁ := 27) (by decide)
  have w28₁ : whS₁ B₁ n₁ 200 p₁ = 28 ↔ isWd B₁ n₁ 200 p₁ 26 = true := whS_iff (c₁ := 28) (by decide)
  have w29₁ : whS₁ B₁ n₁ 200 p₁ = 29 ↔ isWd B₁ n₁ 200 p₁ 27 = true := whS_iff (c₁ := 29) (by decide)
  have w7₁ : whS₁ B₁ n₁ 200 p₁ = 7 ↔ isWd B₁ n₁ 200 p₁ 28 = true := whS_iff (c₁ := 7) (by decide)
  have w30₁ : whS₁ B₁ n₁ 200 p₁ = 30 ↔ isWd B₁ n₁ 200 p₁ 29 = true := whS_iff (c₁ := 30) (by decide)
  have w31₁ : whS₁ B₁ n₁ 200 p₁ = 31 ↔ isWd B₁ n₁ 200 p₁ 30 = true := whS_iff (c₁ := 31) (by decide)
  have w32₁ : whS₁ B₁ n₁ 200 p₁ = 32 ↔ isWd B₁ n₁ 200 p₁ 31 = true := whS_iff (c₁ := 32) (by decide)
  have w9₁ : whS₁ B₁ n₁ 200 p₁ = 9 ↔ isWd B₁ n₁ 200 p₁ 32 = true := whS_iff (c₁ := 9) (by decide)
  have w33₁ : whS₁ B₁ n₁ 200 p₁ = 33 ↔ isWd B₁ n₁ 200 p₁ 33 = true := whS_iff (c₁ := 33) (by decide)
  rw [w7₁, w9₁, w27₁, w28₁, w29₁, w30₁, w31₁, w32₁, w33₁, swK₁]
  by_cases h25₁ : isWd B₁ n₁ 200 p₁ 25 = true
  · rw [if_pos h25₁]; exact ⟨fun _ => ⟨w27₁.mpr h25₁, by decide⟩, fun z₁ => absurd z₁ (by decide)⟩
  by_cases h26₁ : isWd B₁ n₁ 200 p₁ 26 = true
  · rw [if_neg h25₁]; rw [if_pos h26₁]; exact ⟨fun _ => ⟨w28₁.mpr h26₁, by decide⟩, fun z₁ => absurd z₁ (by decide)⟩
  by_cases h27₁ : isWd B₁ n₁ 200 p₁ 27 = true
  · rw [if_neg h25₁]; rw [if_neg h26₁]; rw [if_pos h27₁]; exact ⟨fun _ => ⟨w29₁.mpr h27₁, by decide⟩, fun z₁ => absurd z₁ (by decide)⟩
  by_cases h28₁ : isWd B₁ n₁ 200 p₁ 28 = true
  · rw [if_neg h25₁]; rw [if_neg h26₁]; rw [if_neg h27₁]; rw [if_pos h28₁]; exact ⟨fun _ => ⟨w7₁.mpr h28₁, by decide⟩, fun z₁ => absurd z₁ (by decide)⟩
  by_cases h29₁ : isWd B₁ n₁ 200 p₁ 29 = true
  · rw [if_neg h25₁]; rw [if_neg h26₁]; rw [if_neg h27₁]; rw [if_neg h28₁]; rw [if_pos h29₁]; exact ⟨fun _ => ⟨w30₁.mpr h29₁, by decide⟩, fun z₁ => absurd z₁ (by decide)⟩
  by_cases h30₁ : isWd B₁ n₁ 200 p₁ 30 = true
  · rw [if_neg h25₁]; rw [if_neg h26₁]; rw [if_neg h27₁]; rw [if_neg h28₁]; rw [if_neg h29₁]; rw [if_pos h30₁]; exact ⟨fun _ => ⟨w31₁.mpr h30₁, by decide⟩, fun z₁ => absurd z₁ (by decide)⟩
  by_cases h31₁ : isWd B₁ n₁ 200 p₁ 31 = true
  · rw [if_neg h25₁]; rw [if_neg h26₁]; rw [if_neg h27₁]; rw [if_neg h28₁]; rw [if_neg h29₁]; rw [if_neg h30₁]; rw [if_pos h31₁]; exact ⟨fun _ => ⟨w32₁.mpr h31₁, by decide⟩, fun z₁ => absurd z₁ (by decide)⟩
  by_cases h32₁ : isWd B₁ n₁ 200 p₁ 32 = true
  · rw [if_neg h25₁]; rw [if_neg h26₁]; rw [if_neg h27₁]; rw [if_neg h28₁]; rw [if_neg h29₁]; rw [if_neg h30₁]; rw [if_neg h31₁]; rw [if_pos h32₁]; exact ⟨fun _ => ⟨w9₁.mpr h32₁, by decide⟩, fun z₁ => absurd z₁ (by decide)⟩
  by_cases h33₁ : isWd B₁ n₁ 200 p₁ 33 = true
  · rw [if_neg h25₁]; rw [if_neg h26₁]; rw [if_neg h27₁]; rw [if_neg h28₁]; rw [if_neg h29₁]; rw [if_neg h30₁]; rw [if_neg h31₁]; rw [if_neg h32₁]; rw [if_pos h33₁]; exact ⟨fun _ => ⟨w33₁.mpr h33₁, by decide⟩, fun z₁ => absurd z₁ (by decide)⟩
  rw [if_neg h25₁]; rw [if_neg h26₁]; rw [if_neg h27₁]; rw [if_neg h28₁]; rw [if_neg h29₁]; rw [if_neg h30₁]; rw [if_neg h31₁]; rw [if_neg h32₁]; rw [if_neg h33₁]; exact ⟨fun z₁ => absurd rfl z₁, fun _ => by simp only [h25₁, h26₁, h27₁, h28₁, h29₁, h30₁, h31₁, h32₁, h33₁, or_false, not_false_eq_true]⟩
theorem s_one {d₁ : Nat} {W₁ : Nat → Nat → Nat → Int32 → MK → MK → MI → ML → MR → (Bool → MI → ML → Prop) → Prop} (hX₁ : PDL K₁ N₁ R₁ x₁) (hd₁ : d₁ ≤ 8) (hW₁ : ∀ e₁, d₁ = e₁ + 1 → SONE K₁ N₁ R₁ x₁ B₁ n₁ NM₁ sc₁ W₁ e₁) : SONE K₁ N₁ R₁ x₁ B₁ n₁ NM₁ sc₁ (w_X6_readOne (w_X6_readCond W₁) W₁) d₁ := by
  intro I₁ L₁ p₁ k₁ l0₁ Q₁ hS₁ hN₁ hk₁ hl₁ hbad hok₁
  obtain ⟨sw1₁, sw0₁⟩ := swK_w (B₁ := B₁) (n₁ := n₁) (p₁ := p₁)
  delta w_X6_readOne
  refine ⟨hX₁.tok, s_wordHere hS₁.1 (s_isSign (c₁ := 40) hS₁.1 (by decide) ⟨fun yb₁ => ?_, fun nb₁ => s_isFirst (fun h₁ => ⟨fun _ => ?_, fun y₁ => absurd y₁ (by decide)⟩) (fun h₁ => ⟨fun y₁ => absurd y₁ (by decide), fun _ => s_failT (k₁ := 1) hS₁.1 (fun J₁ f₁ => hbad 1 (tkS₁ B₁ n₁ 200 p₁) ?_ J₁ L₁ (SNB_f hS₁ f₁) (frSn_f f₁))⟩)⟩)⟩
  rotate_right
  · have z₁ : swK₁ B₁ n₁ 200 p₁ = 0 := Decidable.byContradiction (fun z₁ => by
      obtain ⟨e₁, h3₁⟩ := sw1₁ z₁
      rw [e₁] at h₁
      have : swK₁ B₁ n₁ 200 p₁ = 7 ∨ swK₁ B₁ n₁ 200 p₁ = 9 ∨ swK₁ B₁ n₁ 200 p₁ = 27 ∨ swK₁ B₁ n₁ 200 p₁ = 28 ∨ swK₁ B₁ n₁ 200 p₁ = 29 ∨ swK₁ B₁ n₁ 200 p₁ = 30 ∨ swK₁ B₁ n₁ 200 p₁ = 31 ∨ swK₁ B₁ n₁ 200 p₁ = 32 ∨ swK₁ B₁ n₁ 200 p₁ = 33 := by omega
      rcases this with q₁ | q₁ | q₁ | q₁ | q₁ | q₁ | q₁ | q₁ | q₁ <;> (rw [q₁] at h₁; exact h₁ (by decide)))
    cases d₁ with
    | zero => rw [pOneD, if_pos ⟨nb₁, z₁⟩]
    | succ e₁ => rw [pOneD, if_pos ⟨nb₁, z₁⟩]
  all_goals sorry
end SC₁
