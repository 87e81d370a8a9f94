/-! ===== an op read: the class ===== -/
def ndN₁ (q₁ : Nat) : Nat := if q₁ = 4 then 1 else if q₁ = 5 then 1 else 2
def grS₁ (o₁ : Int32) : Int32 := if o₁ = 10 then 1 else if o₁ = 14 then 0 else if o₁ = 15 then 1 else if o₁ = 16 then 0 else if o₁ = 100 then 1 else -1
theorem nd_q {q₁ : Nat} (h1₁ : 1 ≤ q₁) (h2₁ : q₁ < 7) : ndS₁ (nI (10 + q₁)) = nI (ndN₁ q₁) := by
  obtain rfl | rfl | rfl | rfl | rfl | rfl : q₁ = 1 ∨ q₁ = 2 ∨ q₁ = 3 ∨ q₁ = 4 ∨ q₁ = 5 ∨ q₁ = 6 := by omega
  all_goals decide
theorem ok_q {q₁ d₁ : Nat} (h1₁ : 1 ≤ q₁) (h2₁ : q₁ < 7) : opOK (nI (1009 + q₁)) d₁ ↔ ndN₁ q₁ ≤ d₁ := by
  obtain rfl | rfl | rfl | rfl | rfl | rfl : q₁ = 1 ∨ q₁ = 2 ∨ q₁ = 3 ∨ q₁ = 4 ∨ q₁ = 5 ∨ q₁ = 6 := by omega
  all_goals exact Iff.rfl
theorem gr_q {q₁ d₁ : Nat} (h1₁ : 1 ≤ q₁) (h2₁ : q₁ < 7) (hd₁ : ndN₁ q₁ ≤ d₁) : nI d₁ + grS₁ (nI (10 + q₁)) = nI (opD₁ (nI (1009 + q₁)) d₁) := by
  have m1₁ : ∀ d₁, 1 ≤ d₁ → nI d₁ + (-1) = nI (d₁ - 1) := fun d₁ h₁ => by
    obtain ⟨e₁, rfl⟩ : ∃ e₁, d₁ = e₁ + 1 := ⟨d₁ - 1, by omega⟩
    exact pk_m1 e₁
  obtain rfl | rfl | rfl | rfl | rfl | rfl : q₁ = 1 ∨ q₁ = 2 ∨ q₁ = 3 ∨ q₁ = 4 ∨ q₁ = 5 ∨ q₁ = 6 := by omega
  · exact m1₁ d₁ (Nat.le_trans (show 1 ≤ ndN₁ 1 by decide) hd₁)
  · exact m1₁ d₁ (Nat.le_trans (show 1 ≤ ndN₁ 2 by decide) hd₁)
  · exact m1₁ d₁ (Nat.le_trans (show 1 ≤ ndN₁ 3 by decide) hd₁)
  · show nI d₁ + 0 = nI d₁; rw [Int32.add_zero]
  · exact nI_1 d₁
  · show nI d₁ + 0 = nI d₁; rw [Int32.add_zero]
theorem wp_op : ∀ c₁, c₁ < 34 → (10 ≤ c₁ ∧ c₁ ≤ 16 → wpL₁.getD c₁ 0 = c₁ - 2) ∧ (¬ (10 ≤ c₁ ∧ c₁ ≤ 16) → ndS₁ (nI c₁) = -1) := by
  have h₁ : ∀ c₁ : Fin 34, (10 ≤ c₁.1 ∧ c₁.1 ≤ 16 → wpL₁.getD c₁.1 0 = c₁.1 - 2) ∧ (¬ (10 ≤ c₁.1 ∧ c₁.1 ≤ 16) → ndS₁ (nI c₁.1) = -1) := by decide
  exact fun c₁ hc₁ => h₁ ⟨c₁, hc₁⟩
section UN₁
variable {K₁ N₁ : MK} {I₁ : MI} {L₁ : ML} {R₁ : MR} {n₁ lm₁ p₁ x₁ c₁ d₁ w₁ : Nat} {B₁ : Nat → Nat} {U₁ : Nat → Int32} {NM₁ : Nat → List Nat}
theorem s_growthOf {o₁ : Int32} {Q₁ : Int32 → Prop} (h₁ : Q₁ (grS₁ o₁)) : w_X10_growthOf o₁ K₁ N₁ I₁ L₁ R₁ Q₁ := by
  rw [grS₁] at h₁
  refine ⟨fun e₁ => ?_, fun e₁ => ⟨fun e2₁ => ?_, fun e2₁ => ⟨fun e3₁ => ?_, fun e3₁ => ⟨fun e4₁ => ?_, fun e4₁ => ⟨fun e5₁ => ?_, fun e5₁ => ?_⟩⟩⟩⟩⟩
  · rw [if_pos e₁] at h₁; exact h₁
  · rw [if_neg e₁, if_pos e2₁] at h₁; exact h₁
  · rw [if_neg e₁, if_neg e2₁, if_pos e3₁] at h₁; exact h₁
  · rw [if_neg e₁, if_neg e2₁, if_neg e3₁, if_pos e4₁] at h₁; exact h₁
  · rw [if_neg e₁, if_neg e2₁, if_neg e3₁, if_neg e4₁, if_pos e5₁] at h₁; exact h₁
  · rw [if_neg e₁, if_neg e2₁, if_neg e3₁, if_neg e4₁, if_neg e5₁] at h₁; exact h₁
/-- the draft's place w, c ops read -/
def PLC₁ (I₁ : MI) (x₁ w₁ c₁ : Nat) (code : Nat → Int32) : Prop := TD I₁ (x₁ + 50) 16 21 (w₁ + 1) ∧ I₁ (x₁ + 52) (w₁ * 21 + 4) = nI c₁ ∧ ∀ j₁, j₁ < c₁ → opR (I₁ (x₁ + 52) (w₁ * 21 + (5 + 2 * j₁))) (I₁ (x₁ + 52) (w₁ * 21 + (5 + 2 * j₁ + 1))) (code j₁)
/-- what the ops' reading leaves as it was -/
def frO₁ (x₁ w₁ : Nat) (J₁ I₁ : MI) (M₁ L₁ : ML) : Prop := (∀ b₁, b₁ ≠ x₁ + 1 → b₁ ≠ x₁ + 36 → b₁ ≠ x₁ + 52 → J₁ b₁ = I₁ b₁) ∧ (∀ b₁, b₁ ≠ x₁ + 1 → M₁ b₁ = L₁ b₁) ∧ (∀ y₁, y₁ ≠ 2 → J₁ (x₁ + 36) y₁ = I₁ (x₁ + 36) y₁) ∧ ∀ y₁, y₁ < w₁ * 21 + 3 ∨ w₁ * 21 + 21 ≤ y₁ → J₁ (x₁ + 52) y₁ = I₁ (x₁ + 52) y₁
theorem frO_r : frO₁ x₁ w₁ I₁ I₁ L₁ L₁ := ⟨fun _ _ _ _ => rfl, fun _ _ => rfl, fun _ _ => rfl, fun _ _ => rfl⟩
theorem frO_t {J₁ J'₁ : MI} {M₁ M'₁ : ML} (h₁ : frO₁ x₁ w₁ J'₁ J₁ M'₁ M₁) (h2₁ : frO₁ x₁ w₁ J₁ I₁ M₁ L₁) : frO₁ x₁ w₁ J'₁ I₁ M'₁ L₁ := ⟨fun b₁ q1₁ q2₁ q3₁ => by rw [h₁.1 b₁ q1₁ q2₁ q3₁, h2₁.1 b₁ q1₁ q2₁ q3₁], fun b₁ q1₁ => by rw [h₁.2.1 b₁ q1₁, h2₁.2.1 b₁ q1₁], fun y₁ hy₁ => by rw [h₁.2.2.1 y₁ hy₁, h2₁.2.2.1 y₁ hy₁], fun y₁ hy₁ => by rw [h₁.2.2.2 y₁ hy₁, h2₁.2.2.2 y₁ hy₁]⟩
theorem frO_K {J₁ : MI} {M₁ : ML} (h₁ : frK₁ (x₁ + 1) J₁ I₁ M₁ L₁) : frO₁ x₁ w₁ J₁ I₁ M₁ L₁ := ⟨fun b₁ q1₁ _ _ => h₁.1 b₁ q1₁, fun b₁ q1₁ => h₁.2.2 b₁ q1₁, fun y₁ _ => by rw [h₁.1 _ (by omega)], fun y₁ _ => by rw [h₁.1 _ (by omega)]⟩
theorem frO_f {J₁ : MI} {k₁ pl₁ : Nat} (h₁ : flC₁ (x₁ + 1) k₁ pl₁ J₁ I₁) : frO₁ x₁ w₁ J₁ I₁ L₁ L₁ := ⟨fun b₁ q1₁ _ _ => h₁.2.2.1 b₁ q1₁, fun _ _ => rfl, fun y₁ _ => by rw [h₁.2.2.1 _ (by omega)], fun y₁ _ => by rw [h₁.2.2.1 _ (by omega)]⟩
theorem frO_D {J₁ : MI} {M₁ : ML} (h₁ : frO₁ x₁ w₁ J₁ I₁ M₁ L₁) : frD₁ x₁ J₁ I₁ M₁ L₁ := ⟨fun b₁ q1₁ q2₁ => h₁.1 b₁ q1₁ (by omega) (by omega), fun b₁ q1₁ _ => h₁.2.1 b₁ q1₁, h₁.2.2.1, fun b₁ q₁ => by rw [h₁.1 b₁ (by omega) (by omega) (by omega)]⟩
theorem s_addOp {o₁ v₁ : Int32} {code : Nat → Int32} {r₁ : Int32} {Q₁ : MI → Prop} (hX₁ : PDL K₁ N₁ R₁ x₁) (hP₁ : PLC₁ I₁ x₁ w₁ c₁ code) (hw₁ : w₁ < 16) (hc₁ : c₁ < 8) (hr₁ : opR o₁ v₁ r₁)
    (h₁ : ∀ J₁, PLC₁ J₁ x₁ w₁ (c₁ + 1) (fun j₁ => if j₁ = c₁ then r₁ else code j₁) → frO₁ x₁ w₁ J₁ I₁ L₁ L₁ → J₁ (x₁ + 36) = I₁ (x₁ + 36) → J₁ (x₁ + 1) = I₁ (x₁ + 1) → J₁ (x₁ + 52) (w₁ * 21 + 3) = I₁ (x₁ + 52) (w₁ * 21 + 3) → Q₁ J₁) : w_X10_addOp (x₁ + 36) (nI w₁) o₁ v₁ K₁ N₁ I₁ L₁ R₁ Q₁ := by
  have t5₁ := hX₁.urd_u.2.2.2.2.2.2.2.2.2.2
  obtain ⟨hd₁, e4₁, hop₁⟩ := hP₁
  have hd₁ : TD I₁ (x₁ + 37 + 13) 16 21 (w₁ + 1) := hd₁
  refine ⟨hX₁.urd, _, hX₁.urd_r, hX₁.urd_u.1, _, hX₁.urd_u.2.2.2.2.2.1, t5₁.1, s_at t5₁ hd₁ ?_⟩
  rw [show (4 : Int32) = nI 4 from rfl, tat_in (by omega) (by omega) (by omega) (by omega), show x₁ + 37 + 13 + 2 = x₁ + 52 from rfl, e4₁]
  have e5₁ : (5 : Int32) + (2 : Int32) * nI c₁ = nI (5 + 2 * c₁) := by rw [show (2 : Int32) = nI 2 from rfl, mulN, show (5 : Int32) = nI 5 from rfl, addN]
  rw [e5₁, nI_1, nI_1]
  have td₁ : ∀ (J₁ : MI) (a₁ : Nat) (z₁ : Int32), TD J₁ (x₁ + 37 + 13) 16 21 (w₁ + 1) → TD (mup J₁ (x₁ + 37 + 13 + 2) a₁ z₁) (x₁ + 37 + 13) 16 21 (w₁ + 1) := fun J₁ a₁ z₁ h₁ => h₁.fr (mup_ne (by omega))
  refine s_put t5₁ hd₁ (by omega) (by omega) (s_put t5₁ (td₁ _ _ _ hd₁) (by omega) (by omega) (s_put t5₁ (td₁ _ _ _ (td₁ _ _ _ hd₁)) (by omega) (by omega) (h₁ _ ⟨td₁ _ _ _ (td₁ _ _ _ (td₁ _ _ _ hd₁)), ?_, fun j₁ hj₁ => ?_⟩ ⟨fun b₁ q1₁ q2₁ q3₁ => ?_, fun _ _ => rfl, fun y₁ _ => ?_, fun y₁ hy₁ => ?_⟩ ?_ ?_ ?_)))
  · show mup _ (x₁ + 52) _ _ (x₁ + 52) _ = _
    rw [mup_at]
  · show opR (mup (mup (mup I₁ (x₁ + 52) (w₁ * 21 + (5 + 2 * c₁)) o₁) (x₁ + 52) (w₁ * 21 + (5 + 2 * c₁ + 1)) v₁) (x₁ + 52) (w₁ * 21 + 4) (nI (c₁ + 1)) (x₁ + 52) (w₁ * 21 + (5 + 2 * j₁))) (mup (mup (mup I₁ (x₁ + 52) (w₁ * 21 + (5 + 2 * c₁)) o₁) (x₁ + 52) (w₁ * 21 + (5 + 2 * c₁ + 1)) v₁) (x₁ + 52) (w₁ * 21 + 4) (nI (c₁ + 1)) (x₁ + 52) (w₁ * 21 + (5 + 2 * j₁ + 1))) (if j₁ = c₁ then r₁ else code j₁)
    by_cases z₁ : j₁ = c₁
    · rw [if_pos z₁, z₁, mup_k (by omega), mup_k (by omega), mup_at, mup_k (by omega), mup_at]; exact hr₁
    · rw [if_neg z₁, mup_k (by omega), mup_k (by omega), mup_k (by omega), mup_k (by omega), mup_k (by omega), mup_k (by omega)]; exact hop₁ j₁ (by omega)
  · rw [mup_ne (by omega), mup_ne (by omega), mup_ne (by omega)]
  · rw [mup_ne (by omega), mup_ne (by omega), mup_ne (by omega)]
  · show mup (mup (mup I₁ (x₁ + 52) _ o₁) (x₁ + 52) _ v₁) (x₁ + 52) _ _ (x₁ + 52) y₁ = _
    rw [mup_k (by omega), mup_k (by omega), mup_k (by omega)]
  · rw [mup_ne (by omega), mup_ne (by omega), mup_ne (by omega)]
  · rw [mup_ne (by omega), mup_ne (by omega), mup_ne (by omega)]
  · show mup (mup (mup I₁ (x₁ + 52) _ o₁) (x₁ + 52) _ v₁) (x₁ + 52) _ _ (x₁ + 52) _ = _
    rw [mup_k (by omega), mup_k (by omega), mup_k (by omega)]
theorem s_readOp {code : Nat → Int32} {Q₁ : Bool → MI → ML → Prop} (hX₁ : PDL K₁ N₁ R₁ x₁) (hT₁ : TCS₁ K₁ N₁ R₁ I₁ L₁ (x₁ + 1) B₁ n₁ lm₁ p₁) (hP₁ : PLC₁ I₁ x₁ w₁ c₁ code) (hw₁ : w₁ < 16) (hc₁ : c₁ ≤ 8) (hd₁ : I₁ (x₁ + 36) 2 = nI d₁) (hd8₁ : d₁ ≤ 8)
    (hbad : ∀ k₁ pl₁, (∀ kk₁, pOp₁ B₁ n₁ lm₁ c₁ d₁ p₁ kk₁ = .inl (k₁, pl₁)) → ∀ J₁ M₁, flD₁ x₁ k₁ pl₁ J₁ → frO₁ x₁ w₁ J₁ I₁ M₁ L₁ → Q₁ false J₁ M₁)
    (hok₁ : ∀ r₁ p'₁, (∀ kk₁, pOp₁ B₁ n₁ lm₁ c₁ d₁ p₁ kk₁ = kk₁ r₁ p'₁) → opC₁ r₁ → opOK r₁ d₁ → c₁ < 8 → ∀ J₁ M₁, TCS₁ K₁ N₁ R₁ J₁ M₁ (x₁ + 1) B₁ n₁ lm₁ p'₁ → PLC₁ J₁ x₁ w₁ (c₁ + 1) (fun j₁ => if j₁ = c₁ then r₁ else code j₁) → J₁ (x₁ + 36) 2 = nI (opD₁ r₁ d₁) → frO₁ x₁ w₁ J₁ I₁ M₁ L₁ → J₁ (x₁ + 1) 10 = I₁ (x₁ + 1) 10 → J₁ (x₁ + 52) (w₁ * 21 + 3) = I₁ (x₁ + 52) (w₁ * 21 + 3) → Q₁ true J₁ M₁) : w_X10_readOp (x₁ + 36) (x₁ + 1) (nI w₁) K₁ N₁ I₁ L₁ R₁ Q₁ := by
  have t5₁ := hX₁.urd_u.2.2.2.2.2.2.2.2.2.2
  have h4₁ : I₁ (x₁ + 1) 4 = nI (tkK₁ B₁ n₁ lm₁ p₁) := hT₁.2.2.2.2.2.2.2.2.2.1
  have hk4₁ := tkK_le (B₁ := B₁) (n₁ := n₁) (lm₁ := lm₁) (p₁ := p₁)
  -- the₁ op's own₁ writing, at the₁ token p1₁ whose number is₁ v₁
  have w96₁ : ∀ (o₁ : Int32) (r₁ : Int32) (I1₁ : MI) (L1₁ : ML) (p1₁ : Nat), TCS₁ K₁ N₁ R₁ I1₁ L1₁ (x₁ + 1) B₁ n₁ lm₁ p1₁ → frK₁ (x₁ + 1) I1₁ I₁ L1₁ L₁ ∨ (I1₁ = I₁ ∧ L1₁ = L₁) → opR o₁ (I1₁ (x₁ + 1) 8) r₁ → nI d₁ + grS₁ o₁ = nI (opD₁ r₁ d₁) → (∀ kk₁, pOp₁ B₁ n₁ lm₁ c₁ d₁ p₁ kk₁ = kk₁ r₁ (tkN₁ B₁ n₁ lm₁ p1₁)) → opC₁ r₁ → opOK r₁ d₁ → c₁ < 8 → w_X10_readOp_96 (x₁ + 36) (x₁ + 1) (nI w₁) o₁ K₁ N₁ I1₁ L1₁ R₁ Q₁ := by
    intro o₁ r₁ I1₁ L1₁ p1₁ t1₁ hf₁ hr₁ hg₁ hp₁ hC₁ hO₁ hc8₁
    have b1₁ : ∀ b₁, b₁ ≠ x₁ + 1 → I1₁ b₁ = I₁ b₁ := fun b₁ hb₁ => by
      rcases hf₁ with hf₁ | ⟨e₁, -⟩
      · exact hf₁.1 b₁ hb₁
      · rw [e₁]
    have fr1₁ : frO₁ x₁ w₁ I1₁ I₁ L1₁ L₁ := by
      rcases hf₁ with hf₁ | ⟨e1₁, e2₁⟩
      · exact frO_K hf₁
      · rw [e1₁, e2₁]; exact frO_r
    have a10₁ : I1₁ (x₁ + 1) 10 = I₁ (x₁ + 1) 10 := by
      rcases hf₁ with hf₁ | ⟨e1₁, -⟩
      · exact frK_10 hf₁
      · rw [e1₁]
    have hP1₁ : PLC₁ I1₁ x₁ w₁ c₁ code := by
      rw [PLC₁, TD, b1₁ (x₁ + 50) (by omega), b1₁ (x₁ + 52) (by omega)]; exact hP₁
    delta w_X10_readOp_96
    refine ⟨hX₁.tok, hX₁.urd, s_addOp hX₁ hP1₁ hw₁ hc8₁ hr₁ (fun J2₁ p2₁ f2₁ e36₁ e1₁ e3₁ => s_growthOf (fun I14₁ g14₁ => ?_))⟩
    have e2₁ : J2₁ (x₁ + 36) 2 = nI d₁ := by rw [e36₁, b1₁ _ (by omega)]; exact hd₁
    rw [e2₁, hg₁] at g14₁
    have t14₁ : TCS₁ K₁ N₁ R₁ I14₁ L1₁ (x₁ + 1) B₁ n₁ lm₁ p1₁ := TCS_fr t1₁ (by rw [g14₁, mup_ne (by omega), f2₁.1 _ (by omega) (by omega) (by omega)]) (fun y₁ _ _ => by rw [g14₁, mup_ne (by omega), e1₁]) rfl
    refine s_next t14₁ (fun J₁ M₁ t3₁ f3₁ => hok₁ r₁ _ hp₁ hC₁ hO₁ hc8₁ J₁ M₁ t3₁ ?_ ?_ (frO_t (frO_K f3₁) (frO_t ⟨fun b₁ q1₁ q2₁ q3₁ => by rw [g14₁, mup_ne q2₁], fun _ _ => rfl, fun y₁ hy₁ => by rw [g14₁, mup_k hy₁], fun y₁ _ => by rw [g14₁, mup_ne (by omega)]⟩ (frO_t f2₁ fr1₁))) ?_ ?_)
    · rw [PLC₁, TD, f3₁.1 (x₁ + 50) (by omega), f3₁.1 (x₁ + 52) (by omega), g14₁, mup_ne (by omega), mup_ne (by omega)]; exact p2₁
    · rw [f3₁.1 _ (by omega), g14₁, mup_at]
    · rw [frK_10 f3₁, g14₁, mup_ne (by omega), e1₁, a10₁]
    · rw [f3₁.1 _ (by omega), g14₁, mup_ne (by omega), e3₁, b1₁ _ (by omega)]
  have at4₁ : ∀ P₁ : Int32 → Prop, P₁ (nI c₁) → w_X7_at (x₁ + 50) (nI w₁) 4 K₁ N₁ I₁ L₁ R₁ P₁ := fun P₁ hPP₁ => by
    refine s_at t5₁ hP₁.1 ?_
    rw [show (4 : Int32) = nI 4 from rfl, tat_in (by omega) (by omega) (by omega) (by omega)]
    show P₁ (I₁ (x₁ + 52) (w₁ * 21 + 4))
    rw [hP₁.2.1]; exact hPP₁
  have none17 : opN₁ B₁ n₁ lm₁ p₁ = 0 → ∀ o₁ : Int32, ndS₁ o₁ = -1 → w_X10_readOp_17 (x₁ + 36) (x₁ + 1) (nI w₁) o₁ K₁ N₁ I₁ L₁ R₁ Q₁ := fun e₁ o₁ ho₁ => by
    delta w_X10_readOp_17
    refine s_needsOf ?_
    rw [ho₁]
    exact ⟨fun z₁ => absurd rfl z₁, fun _ => ⟨hX₁.tok, s_failT (k₁ := 1) hT₁ (fun J₁ f₁ => hbad _ _ (fun kk₁ => by rw [pOp₁, if_pos e₁]) J₁ L₁ (flD_f f₁) (frO_f f₁))⟩⟩
  have n0₁ : ∀ q₁ : Nat, opN₁ B₁ n₁ lm₁ p₁ = q₁ → q₁ ≠ 0 → ∀ (o₁ : Int32) (nd₁ : Nat), ndS₁ o₁ = nI nd₁ → nd₁ ≤ 2 → (c₁ < 8 → nd₁ ≤ d₁ → ¬ o₁ = 10 → w_X10_readOp_96 (x₁ + 36) (x₁ + 1) (nI w₁) o₁ K₁ N₁ I₁ L₁ R₁ Q₁) → (c₁ < 8 → o₁ = 10 → w_X8_advance (x₁ + 1) K₁ N₁ I₁ L₁ R₁ (fun I18₁ L19₁ => w_X8_needsNumber (x₁ + 1) 0 7 K₁ N₁ I18₁ L19₁ R₁ (fun r20₁ I21₁ => (r20₁ = true → w_X10_readOp_96 (x₁ + 36) (x₁ + 1) (nI w₁) o₁ K₁ N₁ I21₁ L19₁ R₁ Q₁) ∧ (r20₁ = false → Q₁ false I21₁ L19₁)))) → (c₁ < 8 → ¬ nd₁ ≤ d₁ → ∀ kk₁, pOp₁ B₁ n₁ lm₁ c₁ d₁ p₁ kk₁ = .inl (5, tkS₁ B₁ n₁ lm₁ p₁)) → w_X10_readOp_17 (x₁ + 36) (x₁ + 1) (nI w₁) o₁ K₁ N₁ I₁ L₁ R₁ Q₁ := by
    intro q₁ eq₁ hq₁ o₁ nd₁ ho₁ hnd₁ k1₁ k2₁ k3₁
    delta w_X10_readOp_17
    refine s_needsOf ?_
    rw [ho₁]
    refine ⟨fun _ => ⟨hX₁.urd, _, hX₁.urd_r, hX₁.urd_u.1, _, hX₁.urd_u.2.2.2.2.2.1, t5₁.1, at4₁ _ ?_⟩, fun z₁ => absurd z₁ (m1_ne (by omega))⟩
    rw [show (8 : Int32) = nI 8 from rfl, ltN (by omega) (by omega), hd₁, leN (by omega) (by omega)]
    refine ⟨fun z₁ => ⟨fun y₁ => ⟨fun v₁ => k1₁ z₁ y₁ v₁, fun v₁ => ⟨hX₁.tok, k2₁ z₁ v₁⟩⟩, fun y₁ => ⟨hX₁.tok, s_failT (k₁ := 5) hT₁ (fun J₁ f₁ => hbad _ _ (k3₁ z₁ y₁) J₁ L₁ (flD_f f₁) (frO_f f₁))⟩⟩, fun z₁ => ⟨hX₁.tok, s_failT (k₁ := 4) hT₁ (fun J₁ f₁ => hbad _ _ (fun kk₁ => by rw [pOp₁, if_neg (by rw [eq₁]; exact hq₁), if_pos (show c₁ = 8 by omega)]) J₁ L₁ (flD_f f₁) (frO_f f₁))⟩⟩
  delta w_X10_readOp
  refine ⟨hX₁.tok, ?_⟩
  rw [h4₁, show (nI (tkK₁ B₁ n₁ lm₁ p₁) = 2) = (nI (tkK₁ B₁ n₁ lm₁ p₁) = nI 2) from rfl, eqN (by omega) (by omega)]
  rcases opN_or (B₁ := B₁) (n₁ := n₁) (lm₁ := lm₁) (p₁ := p₁) with ⟨e₁, h2₁, hno₁⟩ | ⟨e₁, h2₁⟩ | ⟨q₁, hq₁, e₁, hwd₁⟩
  · refine ⟨fun _ => s_wordHere hT₁ (none17 e₁ _ ?_), fun z₁ => absurd z₁ h2₁⟩
    rcases whS_or (B₁ := B₁) (n₁ := n₁) (lm₁ := lm₁) (p₁ := p₁) with z₁ | ⟨k₁, hk₁, z₁⟩
    · rw [z₁]; decide
    · rw [z₁]
      refine (wp_op k₁ hk₁).2 (fun y₁ => ?_)
      have a₁ := (whS_iff hk₁).mp z₁
      rw [(wp_op k₁ hk₁).1 y₁] at a₁
      have b₁ := hno₁ (k₁ - 10) (by omega)
      rw [show 8 + (k₁ - 10) = k₁ - 2 by omega, a₁] at b₁
      exact absurd b₁ (by decide)
  · refine ⟨fun z₁ => absurd h2₁ z₁, fun _ => n0₁ 1 e₁ (by decide) 100 0 (by decide) (by decide) (fun hc8₁ _ _ => ?_) (fun _ z₁ => absurd z₁ (by decide)) (fun _ z₁ => absurd (Nat.zero_le d₁) z₁)⟩
    have hv₁ := tkV_lt h2₁
    have e8₁ : I₁ (x₁ + 1) 8 = nI (tkV₁ B₁ n₁ p₁) := hT₁.2.2.2.2.2.2.2.2.2.2.2.2.1 h2₁
    refine w96₁ 100 (nI (tkV₁ B₁ n₁ p₁)) I₁ L₁ p₁ hT₁ (Or.inr ⟨rfl, rfl⟩) (Or.inl ⟨rfl, e8₁, ?_, ?_⟩) ?_ (fun kk₁ => by rw [pOp₁, if_neg (by rw [e₁]; decide), if_neg (by omega), if_pos e₁]) (Or.inl ⟨_, hv₁, rfl⟩) ?_ hc8₁
    · rw [show (0 : Int32) = nI 0 from rfl, leN (by omega) (by omega)]; omega
    · rw [show (1000 : Int32) = nI 1000 from rfl, ltN (by omega) (by omega)]; exact hv₁
    · rw [opD_n hv₁]; exact nI_1 d₁
    · rw [opOK, if_pos (opn_lt (by omega))]; trivial
  · have hwh₁ : whS₁ B₁ n₁ lm₁ p₁ = nI (10 + q₁) := by
      have hb₁ : wpL₁.getD (10 + q₁) 0 = 8 + q₁ := by rw [(wp_op (10 + q₁) (by omega)).1 (by omega)]; omega
      exact (whS_iff (by omega)).mpr (by rw [hb₁]; exact hwd₁)
    have h2₁ : ¬ tkK₁ B₁ n₁ lm₁ p₁ = 2 := by rw [isWd_k hwd₁]; decide
    refine ⟨fun _ => s_wordHere hT₁ ?_, fun z₁ => absurd z₁ h2₁⟩
    rw [hwh₁]
    rcases q₁ with - | q₁
    · refine n0₁ 2 e₁ (by decide) (nI (10 + 0)) 0 (by decide) (by decide) (fun _ _ z₁ => absurd rfl z₁) (fun hc8₁ _ => s_next hT₁ (fun J1₁ M1₁ t1₁ f1₁ => s_needsNumber (lo₁ := 0) (hi₁ := 7) t1₁ (by decide) (by decide) (fun e0₁ k2₁ v1₁ v2₁ e8₁ => ⟨fun _ => ?_, fun y₁ => absurd y₁ (by decide)⟩) (fun e0₁ J₁ f₁ => ⟨fun y₁ => absurd y₁ (by decide), fun _ => ?_⟩))) (fun _ z₁ => absurd (Nat.zero_le d₁) z₁)
      · refine w96₁ (nI (10 + 0)) (nI (1000 + tkV₁ B₁ n₁ (tkN₁ B₁ n₁ lm₁ p₁))) J1₁ M1₁ _ t1₁ (Or.inl f1₁) (Or.inr (Or.inl ⟨rfl, _, by omega, e8₁, rfl⟩)) ?_ (fun kk₁ => by rw [pOp₁, if_neg (by rw [e₁]; decide), if_neg (by omega), if_neg (by rw [e₁]; decide), if_pos e₁, pNum, if_neg (fun z₁ => z₁ e0₁)]) (Or.inr (Or.inl ⟨_, by omega, rfl⟩)) ?_ hc8₁
        · rw [opD_r (by omega)]; exact nI_1 d₁
        · rw [opOK, if_pos (opn_lt (by omega))]; trivial
      · exact hbad _ _ (fun kk₁ => by rw [pOp₁, if_neg (by rw [e₁]; decide), if_neg (by omega), if_neg (by rw [e₁]; decide), if_pos e₁, pNum, if_pos e0₁]) J₁ M1₁ (flD_f f₁) (frO_t (frO_f f₁) (frO_K f1₁))
    · have h10₁ : nI (10 + (q₁ + 1)) = 10 ↔ False := by
        rw [show (10 : Int32) = nI 10 from rfl, eqN (by omega) (by omega)]
        exact ⟨fun z₁ => by omega, fun z₁ => z₁.elim⟩
      have hn1₁ : opN₁ B₁ n₁ lm₁ p₁ ≠ 1 := by rw [e₁]; omega
      have hn2₁ : opN₁ B₁ n₁ lm₁ p₁ ≠ 2 := by rw [e₁]; omega
      have er₁ : 1007 + opN₁ B₁ n₁ lm₁ p₁ = 1009 + (q₁ + 1) := by rw [e₁]; omega
      have okq₁ := ok_q (q₁ := q₁ + 1) (d₁ := d₁) (by omega) hq₁
      have hnd₁ : ndN₁ (q₁ + 1) ≤ 2 := by
        rw [ndN₁]
        split
        · decide
        · split <;> decide
      refine n0₁ (2 + (q₁ + 1)) e₁ (by omega) (nI (10 + (q₁ + 1))) (ndN₁ (q₁ + 1)) (nd_q (by omega) hq₁) hnd₁ (fun hc8₁ hnd2 _ => ?_) (fun _ z₁ => absurd z₁ h10₁.mp) (fun hc8₁ z₁ kk₁ => ?_)
      · refine w96₁ (nI (10 + (q₁ + 1))) (nI (1009 + (q₁ + 1))) I₁ L₁ p₁ hT₁ (Or.inr ⟨rfl, rfl⟩) (Or.inr (Or.inr ⟨q₁, by omega, by rw [show 10 + (q₁ + 1) = 11 + q₁ by omega], by rw [show 1009 + (q₁ + 1) = 1010 + q₁ by omega]⟩)) (gr_q (by omega) hq₁ hnd2) (fun kk₁ => ?_) ?_ (okq₁.mpr hnd2) hc8₁
        · rw [pOp₁, if_neg (by rw [e₁]; omega), if_neg (by omega), if_neg hn1₁, if_neg hn2₁, er₁, if_pos (opB_iff.mpr (okq₁.mpr hnd2))]
        · obtain rfl | rfl | rfl | rfl | rfl | rfl : q₁ = 0 ∨ q₁ = 1 ∨ q₁ = 2 ∨ q₁ = 3 ∨ q₁ = 4 ∨ q₁ = 5 := by omega
          · exact Or.inr (Or.inr (Or.inl rfl))
          · exact Or.inr (Or.inr (Or.inr (Or.inl rfl)))
          · exact Or.inr (Or.inr (Or.inr (Or.inr (Or.inl rfl))))
          · exact Or.inr (Or.inr (Or.inr (Or.inr (Or.inr (Or.inl rfl)))))
          · exact Or.inr (Or.inr (Or.inr (Or.inr (Or.inr (Or.inr (Or.inl rfl))))))
          · exact Or.inr (Or.inr (Or.inr (Or.inr (Or.inr (Or.inr (Or.inr rfl))))))
      · rw [pOp₁, if_neg (by rw [e₁]; omega), if_neg (by omega), if_neg hn1₁, if_neg hn2₁, er₁, if_neg (fun y₁ => z₁ (okq₁.mp (opB_iff.mp y₁)))]
end UN₁
