/-! ===== the class's stack, and one op on it ===== -/
def FIL₁ (K₁ N₁ : MK) (R₁ : MR) (f₁ : Nat) : Prop := K₁ f₁ = 3 ∧ R₁ f₁ 0 = some (f₁ + 1) ∧ K₁ (f₁ + 1) = 14 ∧ N₁ (f₁ + 1) = 8
def STK₁ (I₁ : MI) (f₁ : Nat) (T₁ : Nat → Int32) (d₁ : Nat) : Prop := I₁ f₁ 1 = nI d₁ ∧ ∀ j₁, j₁ < d₁ → I₁ (f₁ + 1) j₁ = T₁ j₁
def frF₁ (f₁ : Nat) (J₁ I₁ : MI) : Prop := (∀ b₁, b₁ ≠ f₁ → b₁ ≠ f₁ + 1 → J₁ b₁ = I₁ b₁) ∧ ∀ y₁, y₁ ≠ 1 → J₁ f₁ y₁ = I₁ f₁ y₁
def ndS₁ (o₁ : Int32) : Int32 := if o₁ = 10 then 0 else if o₁ = 11 then 2 else if o₁ = 12 then 2 else if o₁ = 13 then 2 else if o₁ = 14 then 1 else if o₁ = 15 then 1 else if o₁ = 16 then 2 else if o₁ = 100 then 0 else -1
section UN₁
variable {K₁ N₁ : MK} {I₁ : MI} {L₁ : ML} {R₁ : MR} {f₁ c₁ d₁ : Nat} {V₁ T₁ T'₁ : Nat → Int32}
theorem frF_r : frF₁ f₁ I₁ I₁ := ⟨fun _ _ _ => rfl, fun _ _ => rfl⟩
theorem frF_t {J₁ J'₁ : MI} (h₁ : frF₁ f₁ J'₁ J₁) (h2₁ : frF₁ f₁ J₁ I₁) : frF₁ f₁ J'₁ I₁ := ⟨fun b₁ h3₁ h4₁ => by rw [h₁.1 b₁ h3₁ h4₁, h2₁.1 b₁ h3₁ h4₁], fun y₁ hy₁ => by rw [h₁.2 y₁ hy₁, h2₁.2 y₁ hy₁]⟩
theorem STK_cg (h₁ : STK₁ I₁ f₁ T₁ d₁) (e₁ : ∀ j₁, j₁ < d₁ → T'₁ j₁ = T₁ j₁) : STK₁ I₁ f₁ T'₁ d₁ := ⟨h₁.1, fun j₁ hj₁ => by rw [e₁ j₁ hj₁]; exact h₁.2 j₁ hj₁⟩
theorem s_needsOf {o₁ : Int32} {Q₁ : Int32 → Prop} (h₁ : Q₁ (ndS₁ o₁)) : w_X10_needsOf o₁ K₁ N₁ I₁ L₁ R₁ Q₁ := by
  rw [ndS₁] at h₁
  refine ⟨fun e₁ => ?_, fun e₁ => ⟨fun e2₁ => ?_, fun e2₁ => ⟨fun e3₁ => ?_, fun e3₁ => ⟨fun e4₁ => ?_, fun e4₁ => ⟨fun e5₁ => ?_, fun e5₁ => ⟨fun e6₁ => ?_, fun e6₁ => ⟨fun e7₁ => ?_, fun e7₁ => ⟨fun e8₁ => ?_, fun e8₁ => ?_⟩⟩⟩⟩⟩⟩⟩⟩
  · rw [if_pos e₁] at h₁; exact h₁
  · rw [if_neg e₁, if_pos e2₁] at h₁; exact h₁
  · rw [if_neg e₁, if_neg e2₁, if_pos e3₁] at h₁; exact h₁
  · rw [if_neg e₁, if_neg e2₁, if_neg e3₁, if_pos e4₁] at h₁; exact h₁
  · rw [if_neg e₁, if_neg e2₁, if_neg e3₁, if_neg e4₁, if_pos e5₁] at h₁; exact h₁
  · rw [if_neg e₁, if_neg e2₁, if_neg e3₁, if_neg e4₁, if_neg e5₁, if_pos e6₁] at h₁; exact h₁
  · rw [if_neg e₁, if_neg e2₁, if_neg e3₁, if_neg e4₁, if_neg e5₁, if_neg e6₁, if_pos e7₁] at h₁; exact h₁
  · rw [if_neg e₁, if_neg e2₁, if_neg e3₁, if_neg e4₁, if_neg e5₁, if_neg e6₁, if_neg e7₁, if_pos e8₁] at h₁; exact h₁
  · rw [if_neg e₁, if_neg e2₁, if_neg e3₁, if_neg e4₁, if_neg e5₁, if_neg e6₁, if_neg e7₁, if_neg e8₁] at h₁; exact h₁
theorem s_push {v₁ : Int32} {Q₁ : MI → Prop} (hF₁ : FIL₁ K₁ N₁ R₁ f₁) (hS₁ : STK₁ I₁ f₁ T₁ d₁) (hd₁ : d₁ < 8) (h₁ : ∀ J₁, STK₁ J₁ f₁ (vst₁ T₁ d₁ v₁) (d₁ + 1) → frF₁ f₁ J₁ I₁ → Q₁ J₁) : w_X2_push f₁ v₁ K₁ N₁ I₁ L₁ R₁ Q₁ := by
  delta w_X2_push
  refine ⟨hF₁.1, _, hF₁.2.1, hF₁.2.2.1, ?_⟩
  rw [hF₁.2.2.2, hS₁.1, ix_nI (by omega)]
  refine ⟨fun e₁ => ?_, fun e₁ => ⟨(vp_nI (by omega)).mpr hd₁, fun I5₁ g5₁ I6₁ g6₁ => h₁ I6₁ ⟨?_, fun j₁ hj₁ => ?_⟩ ⟨fun b₁ h1₁ h2₁ => ?_, fun y₁ hy₁ => ?_⟩⟩⟩
  · rw [leN (by omega) (by omega)] at e₁; omega
  · rw [g6₁, mup_at, g5₁, mup_ne (by omega), hS₁.1, nI_1]
  · rw [g6₁, mup_ne (by omega), g5₁, vst₁]
    by_cases q₁ : j₁ = d₁
    · rw [q₁, mup_at, if_pos rfl]
    · rw [mup_k q₁, if_neg q₁]; exact hS₁.2 j₁ (by omega)
  · rw [g6₁, mup_ne h1₁, g5₁, mup_ne h2₁]
  · rw [g6₁, mup_k hy₁, g5₁, mup_ne (by omega)]
theorem s_pop {Q₁ : Int32 → MI → Prop} (hF₁ : FIL₁ K₁ N₁ R₁ f₁) (hS₁ : STK₁ I₁ f₁ T₁ (d₁ + 1)) (hd₁ : d₁ < 8) (h₁ : ∀ J₁, STK₁ J₁ f₁ T₁ d₁ → frF₁ f₁ J₁ I₁ → Q₁ (T₁ d₁) J₁) : w_X2_pop f₁ K₁ N₁ I₁ L₁ R₁ Q₁ := by
  delta w_X2_pop
  rw [hS₁.1, nI_pred]
  refine ⟨hF₁.1, fun e₁ I2₁ g2₁ => ⟨_, hF₁.2.1, hF₁.2.2.1, ?_⟩, fun e₁ => ?_⟩
  · have e2₁ : I2₁ f₁ 1 = nI d₁ := by rw [g2₁, mup_at]
    have f2₁ : I2₁ (f₁ + 1) = I₁ (f₁ + 1) := by rw [g2₁, mup_ne (by omega)]
    rw [e2₁, hF₁.2.2.2, ix_nI (by omega), f2₁, hS₁.2 d₁ (by omega)]
    exact ⟨(vp_nI (by omega)).mpr hd₁, h₁ I2₁ ⟨e2₁, fun j₁ hj₁ => by rw [f2₁]; exact hS₁.2 j₁ (by omega)⟩ ⟨fun b₁ h1₁ h2₁ => by rw [g2₁, mup_ne h1₁], fun y₁ hy₁ => by rw [g2₁, mup_k hy₁]⟩⟩
  · exact absurd ((ltN (by omega) (by omega)).mpr (Nat.succ_pos d₁)) e₁
theorem s_need0 {o₁ n₁ : Int32} {Q₁ : Bool → MI → Prop} (ho₁ : ndS₁ o₁ = 0) (h₁ : w_X2_doOp_33 f₁ c₁ o₁ n₁ 0 0 K₁ N₁ I₁ L₁ R₁ Q₁) : w_X2_doOp f₁ c₁ o₁ n₁ K₁ N₁ I₁ L₁ R₁ Q₁ := by
  delta w_X2_doOp
  refine s_needsOf ?_
  rw [ho₁]
  refine ⟨fun _ => ?_, fun e₁ => absurd (by decide) e₁⟩
  delta w_X2_doOp_15
  refine s_needsOf ?_
  rw [ho₁]
  exact ⟨fun _ => h₁, fun e₁ => absurd (by decide) e₁⟩
theorem s_need1 {o₁ n₁ : Int32} {Q₁ : Bool → MI → Prop} (hF₁ : FIL₁ K₁ N₁ R₁ f₁) (ho₁ : ndS₁ o₁ = 1) (hS₁ : STK₁ I₁ f₁ T₁ (d₁ + 1)) (hd₁ : d₁ < 8) (h₁ : ∀ J₁, STK₁ J₁ f₁ T₁ d₁ → frF₁ f₁ J₁ I₁ → w_X2_doOp_33 f₁ c₁ o₁ n₁ (T₁ d₁) 0 K₁ N₁ J₁ L₁ R₁ Q₁) : w_X2_doOp f₁ c₁ o₁ n₁ K₁ N₁ I₁ L₁ R₁ Q₁ := by
  delta w_X2_doOp
  refine s_needsOf ?_
  rw [ho₁]
  refine ⟨fun e₁ => absurd e₁ (by decide), fun _ => ⟨hF₁.1, s_pop hF₁ hS₁ hd₁ (fun J₁ g1₁ g2₁ => ?_)⟩⟩
  delta w_X2_doOp_15
  refine s_needsOf ?_
  rw [ho₁]
  exact ⟨fun _ => h₁ J₁ g1₁ g2₁, fun e₁ => absurd (by decide) e₁⟩
theorem s_need2 {o₁ n₁ : Int32} {Q₁ : Bool → MI → Prop} (hF₁ : FIL₁ K₁ N₁ R₁ f₁) (ho₁ : ndS₁ o₁ = 2) (hS₁ : STK₁ I₁ f₁ T₁ (d₁ + 2)) (hd₁ : d₁ + 1 < 8) (h₁ : ∀ J₁, STK₁ J₁ f₁ T₁ d₁ → frF₁ f₁ J₁ I₁ → w_X2_doOp_33 f₁ c₁ o₁ n₁ (T₁ (d₁ + 1)) (T₁ d₁) K₁ N₁ J₁ L₁ R₁ Q₁) : w_X2_doOp f₁ c₁ o₁ n₁ K₁ N₁ I₁ L₁ R₁ Q₁ := by
  delta w_X2_doOp
  refine s_needsOf ?_
  rw [ho₁]
  refine ⟨fun e₁ => absurd e₁ (by decide), fun _ => ⟨hF₁.1, s_pop hF₁ hS₁ hd₁ (fun J₁ g1₁ g2₁ => ?_)⟩⟩
  delta w_X2_doOp_15
  refine s_needsOf ?_
  rw [ho₁]
  exact ⟨fun e₁ => absurd e₁ (by decide), fun _ => ⟨hF₁.1, s_pop hF₁ g1₁ (by omega) (fun J2₁ g3₁ g4₁ => h₁ J2₁ g3₁ (frF_t g4₁ g2₁))⟩⟩
end UN₁
