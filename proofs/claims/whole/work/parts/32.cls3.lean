/-! ===== the class's scope, var, chainAt, chainLine ===== -/
def scopeS (U₁ : Nat → Int32) (s₁ w₁ : Int32) : Int32 := if inN s₁ (ix (U₁ 2)) = true then (if w₁ = 0 then U₁ (66 + ix s₁) else if w₁ = 1 then U₁ (76 + ix s₁) else if w₁ = 2 then U₁ (86 + ix s₁) else if w₁ = 3 then nicS U₁ (U₁ (66 + ix s₁)) s₁ else if w₁ = 4 then vbits U₁ s₁ (ix (U₁ 4)) else -1) else -1
def varSp (U₁ : Nat → Int32) (v₁ w₁ : Int32) : Int32 := if inN v₁ (ix (U₁ 4)) = true then (if w₁ = 0 then U₁ (114 + ix v₁) else if w₁ = 1 then U₁ (124 + ix v₁) else if w₁ = 2 then pcnt U₁ v₁ (ix (U₁ 5)) else if w₁ = 3 then U₁ (96 + ix (U₁ (124 + ix v₁))) else if w₁ = 4 then U₁ (102 + ix (U₁ (124 + ix v₁))) else if w₁ = 5 then U₁ (108 + ix (U₁ (124 + ix v₁))) else -1) else -1
/-- each var's type is a type -/
def WFvt (U₁ : Nat → Int32) : Prop := ∀ k₁, k₁ < ix (U₁ 4) → ∃ t₁, U₁ (124 + k₁) = nI t₁ ∧ t₁ < ix (U₁ 3)
section UN₁
variable {K₁ N₁ : MK} {I₁ : MI} {L₁ : ML} {R₁ : MR} {x₁ n0₁ : Nat} {U₁ : Nat → Int32} {W₁ : Nat → Int64}
theorem s_chainAt {k₁ : Int32} {Q₁ : Int32 → Prop} (hX₁ : PDL K₁ N₁ R₁ x₁) (hC₁ : TD I₁ (x₁ + 77) 10 2 n0₁) (h₁ : Q₁ (tat I₁ (x₁ + 77) 2 n0₁ k₁ 0)) : w_X11_chainAt x₁ k₁ K₁ N₁ I₁ L₁ R₁ Q₁ :=
  ⟨hX₁.k, _, hX₁.r_chain, hX₁.cha.1, s_at hX₁.cha hC₁ h₁⟩
theorem s_chainLine {k₁ : Int32} {Q₁ : Int32 → Prop} (hX₁ : PDL K₁ N₁ R₁ x₁) (hC₁ : TD I₁ (x₁ + 77) 10 2 n0₁) (h₁ : Q₁ (tat I₁ (x₁ + 77) 2 n0₁ k₁ 1)) : w_X11_chainLine x₁ k₁ K₁ N₁ I₁ L₁ R₁ Q₁ :=
  ⟨hX₁.k, _, hX₁.r_chain, hX₁.cha.1, s_at hX₁.cha hC₁ h₁⟩
theorem s_scope {s₁ w₁ : Int32} {Q₁ : Int32 → Prop} (hX₁ : PDL K₁ N₁ R₁ x₁) (hD₁ : UD I₁ L₁ (x₁ + 3) U₁ W₁) (hU₁ : WFc U₁) (hs₁ : WFs U₁) (h₁ : Q₁ (scopeS U₁ s₁ w₁)) : w_X11_scope x₁ s₁ w₁ K₁ N₁ I₁ L₁ R₁ Q₁ := by
  have hn₁ := hU₁.2.1.2
  have hL₁ := hX₁.un
  have hT₁ := hL₁.2.2.2.2.2.2.2.1
  have hd₁ := hD₁.2.2.1.1
  have hv₁ := hD₁.2.2.1.2
  refine ⟨hX₁.k, _, hX₁.r_unit, hL₁.1, _, hL₁.2.2.1, hT₁.1, s_has hT₁ hd₁ ⟨fun e₁ => ?_, fun e₁ => ?_⟩⟩
  · rw [scopeS, if_pos e₁] at h₁
    obtain ⟨j₁, hj₁, rfl⟩ := inN_t e₁ (by omega)
    rw [ix_nI (by omega)] at h₁
    refine ⟨fun e0₁ => s_at hT₁ hd₁ ?_, fun e0₁ => ⟨fun e1₁ => s_at hT₁ hd₁ ?_, fun e1₁ => ⟨fun e2₁ => s_at hT₁ hd₁ ?_, fun e2₁ => ⟨fun e3₁ => s_at hT₁ hd₁ ?_, fun e3₁ => ⟨fun e4₁ => s_varsOf hL₁ hD₁.2.2.2.2.1 hU₁ ?_, fun e4₁ => ?_⟩⟩⟩⟩⟩
    · rw [if_pos e0₁] at h₁
      rw [show (0 : Int32) = nI 0 from rfl, tat_in hj₁ (by omega) (by omega) (by omega), (hv₁ j₁ hj₁).1]; exact h₁
    · rw [if_neg e0₁, if_pos e1₁] at h₁
      rw [show (1 : Int32) = nI 1 from rfl, tat_in hj₁ (by omega) (by omega) (by omega), (hv₁ j₁ hj₁).2.1]; exact h₁
    · rw [if_neg e0₁, if_neg e1₁, if_pos e2₁] at h₁
      rw [show (2 : Int32) = nI 2 from rfl, tat_in hj₁ (by omega) (by omega) (by omega), (hv₁ j₁ hj₁).2.2.1]; exact h₁
    · rw [if_neg e0₁, if_neg e1₁, if_neg e2₁, if_pos e3₁] at h₁
      rw [show (0 : Int32) = nI 0 from rfl, tat_in hj₁ (by omega) (by omega) (by omega), (hv₁ j₁ hj₁).1]
      exact s_scopeBehind hL₁ hD₁.2.2.1 hU₁ hs₁ (Or.inr ⟨j₁, hj₁, rfl⟩) h₁
    · rw [if_neg e0₁, if_neg e1₁, if_neg e2₁, if_neg e3₁, if_pos e4₁] at h₁; exact h₁
    · rw [if_neg e0₁, if_neg e1₁, if_neg e2₁, if_neg e3₁, if_neg e4₁] at h₁; exact h₁
  · rw [scopeS, if_neg (by rw [e₁]; decide)] at h₁; exact h₁
theorem s_var {v₁ w₁ : Int32} {Q₁ : Int32 → Prop} (hX₁ : PDL K₁ N₁ R₁ x₁) (hD₁ : UD I₁ L₁ (x₁ + 3) U₁ W₁) (hU₁ : WFc U₁) (ht₁ : WFvt U₁) (h₁ : Q₁ (varSp U₁ v₁ w₁)) : w_X11_var x₁ v₁ w₁ K₁ N₁ I₁ L₁ R₁ Q₁ := by
  have hn₁ := hU₁.2.2.2.1.2
  have hn3₁ := hU₁.2.2.1.2
  have hL₁ := hX₁.un
  have hT₁ := hL₁.2.2.2.2.2.2.2.2.2.1
  have hS₁ := hL₁.2.2.2.2.2.2.2.2.1
  have hd₁ := hD₁.2.2.2.2.1.1
  have hv₁ := hD₁.2.2.2.2.1.2
  have hd3₁ := hD₁.2.2.2.1.1
  have hv3₁ := hD₁.2.2.2.1.2
  refine ⟨hX₁.k, _, hX₁.r_unit, hL₁.1, _, hL₁.2.2.2.2.1, hT₁.1, s_has hT₁ hd₁ ⟨fun e₁ => ?_, fun e₁ => ?_⟩⟩
  · rw [varSp, if_pos e₁] at h₁
    obtain ⟨j₁, hj₁, rfl⟩ := inN_t e₁ (by omega)
    obtain ⟨t₁, et₁, hlt₁⟩ := ht₁ j₁ hj₁
    rw [ix_nI (by omega), et₁, ix_nI (by omega)] at h₁
    refine s_at hT₁ hd₁ ?_
    rw [show tat I₁ (x₁ + 3 + 10) 2 (ix (U₁ 4)) (nI j₁) 1 = nI t₁ from (show tat I₁ (x₁ + 3 + 10) 2 (ix (U₁ 4)) (nI j₁) (nI 1) = I₁ (x₁ + 3 + 10 + 2) (j₁ * 2 + 1) from tat_in hj₁ (by omega) (by omega) (by omega)).trans ((hv₁ j₁ hj₁).2.1.trans et₁)]
    refine ⟨fun e0₁ => s_at hT₁ hd₁ ?_, fun e0₁ => ⟨fun e1₁ => ?_, fun e1₁ => ⟨fun e2₁ => s_placesOf hL₁ hD₁.2.2.2.2.2 hU₁ ?_, fun e2₁ => ⟨fun e3₁ => ⟨_, hL₁.2.2.2.1, hS₁.1, s_at hS₁ hd3₁ ?_⟩, fun e3₁ => ⟨fun e4₁ => ⟨_, hL₁.2.2.2.1, hS₁.1, s_at hS₁ hd3₁ ?_⟩, fun e4₁ => ⟨fun e5₁ => ⟨_, hL₁.2.2.2.1, hS₁.1, s_at hS₁ hd3₁ ?_⟩, fun e5₁ => ?_⟩⟩⟩⟩⟩⟩
    · rw [if_pos e0₁] at h₁
      rw [show (0 : Int32) = nI 0 from rfl, tat_in hj₁ (by omega) (by omega) (by omega), (hv₁ j₁ hj₁).1]; exact h₁
    · rw [if_neg e0₁, if_pos e1₁] at h₁; exact h₁
    · rw [if_neg e0₁, if_neg e1₁, if_pos e2₁] at h₁; exact h₁
    · rw [if_neg e0₁, if_neg e1₁, if_neg e2₁, if_pos e3₁] at h₁
      rw [show (0 : Int32) = nI 0 from rfl, tat_in hlt₁ (by omega) (by omega) (by omega), (hv3₁ t₁ hlt₁).1]; exact h₁
    · rw [if_neg e0₁, if_neg e1₁, if_neg e2₁, if_neg e3₁, if_pos e4₁] at h₁
      rw [show (1 : Int32) = nI 1 from rfl, tat_in hlt₁ (by omega) (by omega) (by omega), (hv3₁ t₁ hlt₁).2.1]; exact h₁
    · rw [if_neg e0₁, if_neg e1₁, if_neg e2₁, if_neg e3₁, if_neg e4₁, if_pos e5₁] at h₁
      rw [show (2 : Int32) = nI 2 from rfl, tat_in hlt₁ (by omega) (by omega) (by omega), (hv3₁ t₁ hlt₁).2.2.1]; exact h₁
    · rw [if_neg e0₁, if_neg e1₁, if_neg e2₁, if_neg e3₁, if_neg e4₁, if_neg e5₁] at h₁; exact h₁
  · rw [varSp, if_neg (by rw [e₁]; decide)] at h₁; exact h₁
end UN₁
