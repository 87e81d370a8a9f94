/-! ===== unit: the class ===== -/
/-- the unit with no line -/
def emU₁ (T₁ : Nat → Int32) (k₁ : Nat) : Int32 := if k₁ = 0 then 256 else if k₁ < 342 then 0 else T₁ k₁
theorem emU_k {T₁ : Nat → Int32} {k₁ : Nat} (h₁ : 1 ≤ k₁) (h2₁ : k₁ < 342) : emU₁ T₁ k₁ = 0 := by rw [emU₁, if_neg (by omega), if_pos h2₁]
theorem WFU_em {T₁ : Nat → Int32} : WFU₁ (emU₁ T₁) := by
  have e0₁ : emU₁ T₁ 0 = nI 256 := rfl
  have z₁ : ∀ k₁, 1 ≤ k₁ → k₁ < 342 → emU₁ T₁ k₁ = nI 0 := fun k₁ h1₁ h2₁ => emU_k h1₁ h2₁
  refine ⟨⟨?_, ?_, ?_, ?_, ?_, ?_⟩, ⟨fun i₁ j₁ _ hj₁ => ?_, fun k₁ hk₁ => ?_⟩, fun k₁ hk₁ => ?_, fun k₁ hk₁ => ?_, fun k₁ hk₁ => ?_, fun k₁ hk₁ => ?_, fun k₁ hk₁ => ?_, fun k₁ hk₁ => ?_⟩
  · rw [z₁ 1 (by decide) (by decide)]; exact ⟨rfl, by decide⟩
  · rw [z₁ 2 (by decide) (by decide)]; exact ⟨rfl, by decide⟩
  · rw [z₁ 3 (by decide) (by decide)]; exact ⟨rfl, by decide⟩
  · rw [z₁ 4 (by decide) (by decide)]; exact ⟨rfl, by decide⟩
  · rw [z₁ 5 (by decide) (by decide)]; exact ⟨rfl, by decide⟩
  · rw [e0₁, ix_nI (by decide)]; exact ⟨rfl, by decide, by decide⟩
  · rw [z₁ 1 (by decide) (by decide), ix_nI (by decide)] at hj₁; omega
  · rw [z₁ 1 (by decide) (by decide), ix_nI (by decide)] at hk₁; omega
  · rw [z₁ 2 (by decide) (by decide), ix_nI (by decide)] at hk₁; omega
  · rw [z₁ 3 (by decide) (by decide), ix_nI (by decide)] at hk₁; omega
  · rw [z₁ 4 (by decide) (by decide), ix_nI (by decide)] at hk₁; omega
  · rw [z₁ 4 (by decide) (by decide), ix_nI (by decide)] at hk₁; omega
  · rw [z₁ 5 (by decide) (by decide), ix_nI (by decide)] at hk₁; omega
  · rw [z₁ 5 (by decide) (by decide), ix_nI (by decide)] at hk₁; omega
theorem emU_z {T₁ : Nat → Int32} : ∀ k₁, 1 ≤ k₁ → k₁ < 6 → ix (emU₁ T₁ k₁) = 0 := fun k₁ h1₁ h2₁ => by rw [emU_k h1₁ (by omega)]; rfl
theorem NOK_em {T₁ : Nat → Int32} {NM₁ : Nat → List Nat} : NOK₁ (emU₁ T₁) NM₁ := ⟨fun k₁ hk₁ => by rw [emU_z 2 (by decide) (by decide)] at hk₁; omega, fun k₁ hk₁ => by rw [emU_z 3 (by decide) (by decide)] at hk₁; omega, fun k₁ hk₁ => by rw [emU_z 4 (by decide) (by decide)] at hk₁; omega⟩
section UN₁
variable {K₁ N₁ : MK} {I₁ : MI} {L₁ : ML} {R₁ : MR} {u₁ n₁ x₁ : Nat} {B₁ : Nat → Nat} {T₁ : Nat → Int32} {W₁ : Nat → Int64}
theorem s_makeEmpty {Q₁ : MI → Prop} (hL₁ : UL K₁ N₁ R₁ u₁) (hw₁ : UWd₁ I₁ u₁) (h₁ : ∀ J₁, UD J₁ L₁ u₁ (emU₁ T₁) W₁ → (∀ b₁, b₁ < u₁ ∨ u₁ + 13 < b₁ → J₁ b₁ = I₁ b₁) → Q₁ J₁) : w_X9_makeEmpty u₁ K₁ N₁ I₁ L₁ R₁ Q₁ := by
  obtain ⟨k0₁, r1₁, r2₁, r3₁, r4₁, r5₁, a1₁, a2₁, a3₁, a4₁, a5₁⟩ := hL₁
  obtain ⟨e1₁, e2₁, e3₁, e4₁, e5₁⟩ := hw₁
  delta w_X9_makeEmpty
  refine ⟨k0₁, fun I2₁ g2₁ => ⟨_, r1₁, a1₁.1, s_forget a1₁ ⟨_, r2₁, a2₁.1, s_forget a2₁ ⟨_, r3₁, a3₁.1, s_forget a3₁ ⟨_, r4₁, a4₁.1, s_forget a4₁ ⟨_, r5₁, a5₁.1, s_forget a5₁ ?_⟩⟩⟩⟩⟩⟩
  have z1₁ : ix (emU₁ T₁ 1) = 0 := emU_z 1 (by decide) (by decide)
  have z2₁ : ix (emU₁ T₁ 2) = 0 := emU_z 2 (by decide) (by decide)
  have z3₁ : ix (emU₁ T₁ 3) = 0 := emU_z 3 (by decide) (by decide)
  have z4₁ : ix (emU₁ T₁ 4) = 0 := emU_z 4 (by decide) (by decide)
  have z5₁ : ix (emU₁ T₁ 5) = 0 := emU_z 5 (by decide) (by decide)
  refine h₁ _ ⟨?_, ⟨⟨?_, ?_, ?_⟩, fun k₁ hk₁ => ?_⟩, ⟨⟨?_, ?_, ?_⟩, fun k₁ hk₁ => ?_⟩, ⟨⟨?_, ?_, ?_⟩, fun k₁ hk₁ => ?_⟩, ⟨⟨?_, ?_, ?_⟩, fun k₁ hk₁ => ?_⟩, ⟨⟨?_, ?_, ?_⟩, fun k₁ hk₁ => ?_⟩⟩ (fun b₁ hb₁ => ?_)
  · rw [mup_ne (by omega), mup_ne (by omega), mup_ne (by omega), mup_ne (by omega), mup_ne (by omega), g2₁, mup_at]; rfl
  · rw [mup_ne (by omega), mup_ne (by omega), mup_ne (by omega), mup_ne (by omega), mup_k (by decide), g2₁, mup_ne (by omega)]; exact e1₁
  · rw [mup_ne (by omega), mup_ne (by omega), mup_ne (by omega), mup_ne (by omega), mup_at, z1₁]; rfl
  · rw [z1₁]; decide
  · omega
  · rw [mup_ne (by omega), mup_ne (by omega), mup_ne (by omega), mup_k (by decide), mup_ne (by omega), g2₁, mup_ne (by omega)]; exact e2₁
  · rw [mup_ne (by omega), mup_ne (by omega), mup_ne (by omega), mup_at, z2₁]; rfl
  · rw [z2₁]; decide
  · omega
  · rw [mup_ne (by omega), mup_ne (by omega), mup_k (by decide), mup_ne (by omega), mup_ne (by omega), g2₁, mup_ne (by omega)]; exact e3₁
  · rw [mup_ne (by omega), mup_ne (by omega), mup_at, z3₁]; rfl
  · rw [z3₁]; decide
  · omega
  · rw [mup_ne (by omega), mup_k (by decide), mup_ne (by omega), mup_ne (by omega), mup_ne (by omega), g2₁, mup_ne (by omega)]; exact e4₁
  · rw [mup_ne (by omega), mup_at, z4₁]; rfl
  · rw [z4₁]; decide
  · omega
  · rw [mup_k (by decide), mup_ne (by omega), mup_ne (by omega), mup_ne (by omega), mup_ne (by omega), g2₁, mup_ne (by omega)]; exact e5₁
  · rw [mup_at, z5₁]; rfl
  · rw [z5₁]; decide
  · omega
  · rw [mup_ne (by omega), mup_ne (by omega), mup_ne (by omega), mup_ne (by omega), mup_ne (by omega), g2₁, mup_ne (by omega)]
/-- what unit leaves as it was -/
def frN₁ (x₁ : Nat) (J₁ I₁ : MI) (M₁ L₁ : ML) : Prop := (∀ b₁, b₁ ≠ x₁ → b₁ ≠ x₁ + 1 → b₁ < x₁ + 3 ∨ x₁ + 22 < b₁ → b₁ ≠ x₁ + 31 → b₁ < x₁ + 36 ∨ x₁ + 52 < b₁ → J₁ b₁ = I₁ b₁) ∧ (∀ y₁, y₁ ≠ 5 → J₁ x₁ y₁ = I₁ x₁ y₁) ∧ ∀ b₁, b₁ ≠ x₁ + 1 → b₁ < x₁ + 3 ∨ x₁ + 18 < b₁ → b₁ < x₁ + 37 ∨ x₁ + 52 < b₁ → M₁ b₁ = L₁ b₁
theorem s_unit {NM0₁ : Nat → List Nat} {Q₁ : Int32 → MI → ML → Prop} (hX₁ : PDL K₁ N₁ R₁ x₁) (hb₁ : ∀ i₁, B₁ i₁ < 256) (h940 : n₁ ≤ 940) (hB₁ : TAP₁ I₁ (x₁ + 2) B₁ n₁) (hn₁ : I₁ (x₁ + 1) 1 = nI n₁) (hw1₁ : UWd₁ I₁ (x₁ + 37)) (hw2₁ : UWd₁ I₁ (x₁ + 3))
    (hbad : ∀ k₁ pl₁, pUnit B₁ n₁ 900 500 0 (emU₁ T₁) NM0₁ 0 = .inl (k₁, pl₁) → 1 ≤ k₁ → k₁ ≤ 5 → ∀ J₁ M₁, J₁ (x₁ + 1) 10 = nI k₁ → J₁ (x₁ + 1) 1 = 0 → UWd₁ J₁ (x₁ + 37) → (∀ b₁, b₁ ≠ x₁ + 1 → b₁ < x₁ + 36 ∨ x₁ + 52 < b₁ → J₁ b₁ = I₁ b₁) → (∀ b₁, b₁ ≠ x₁ + 1 → b₁ < x₁ + 37 ∨ x₁ + 52 < b₁ → M₁ b₁ = L₁ b₁) → Q₁ ((-1 : Int32) - nI pl₁) J₁ M₁)
    (hok₁ : ∀ U'₁ NM'₁ i₁, pUnit B₁ n₁ 900 500 0 (emU₁ T₁) NM0₁ 0 = .inr (U'₁, NM'₁, i₁) → WFU₁ U'₁ → NOK₁ U'₁ NM'₁ → ∀ J₁ M₁, UD J₁ M₁ (x₁ + 3) U'₁ (eNM₁ NM'₁) → MACD J₁ (x₁ + 19) (fun _ => 0) → J₁ (x₁ + 31) 0 = 0 → J₁ x₁ 5 = 0 → J₁ (x₁ + 1) 10 = 0 → J₁ (x₁ + 1) 1 = 0 → UWd₁ J₁ (x₁ + 37) → frN₁ x₁ J₁ I₁ M₁ L₁ → Q₁ (nI i₁) J₁ M₁) : w_X11_unit x₁ K₁ N₁ I₁ L₁ R₁ Q₁ := by
  delta w_X11_unit
  refine ⟨hX₁.k, _, hX₁.r_unitReader, _, hX₁.r_tokens, hX₁.urd, ?_⟩
  delta w_X10_readUnit
  refine ⟨hX₁.urd, _, hX₁.urd_r, hX₁.urd_u.1, s_makeEmpty (T₁ := T₁) (W₁ := eNM₁ NM0₁) hX₁.urd_u hw1₁ (fun J1₁ d1₁ f1₁ I5₁ g5₁ => ⟨hX₁.tok, ?_⟩)⟩
  have b5₁ : ∀ b₁, b₁ < x₁ + 36 ∨ x₁ + 50 < b₁ → I5₁ b₁ = I₁ b₁ := fun b₁ hb₁ => by rw [g5₁, mup_ne (by omega), f1₁ b₁ (by omega)]
  have d5₁ : UD I5₁ L₁ (x₁ + 37) (emU₁ T₁) (eNM₁ NM0₁) := d1₁.fr (fun a₁ q1₁ q2₁ => by rw [g5₁, mup_ne (by omega)]) (fun _ _ _ => rfl)
  refine s_begin (lm₁ := 900) ⟨hX₁.tok, hX₁.tok_r, hX₁.tok_k, hX₁.tok_n⟩ hb₁ h940 (fun i₁ hi₁ => by show I5₁ (x₁ + 2) i₁ = _; rw [b5₁ _ (by omega)]; exact hB₁ i₁ hi₁) (by rw [b5₁ _ (by omega)]; exact hn₁) (by decide) (fun J2₁ M2₁ t2₁ e10₁ _ f2₁ l2₁ => ?_)
  have tcs₁ : TCS₁ K₁ N₁ R₁ J2₁ M2₁ (x₁ + 1) B₁ n₁ 900 0 := ⟨⟨hX₁.tok, hX₁.tok_r, hX₁.tok_k, hX₁.tok_n⟩, hb₁, h940, by decide, Nat.zero_le n₁, fun i₁ hi₁ => by show J2₁ (x₁ + 2) i₁ = _; rw [f2₁ _ (by omega), b5₁ _ (by omega)]; exact hB₁ i₁ hi₁, t2₁⟩
  have d2₁ : UD J2₁ M2₁ (x₁ + 37) (emU₁ T₁) (eNM₁ NM0₁) := d5₁.fr (fun a₁ q1₁ q2₁ => f2₁ a₁ (by omega)) (fun a₁ q1₁ q2₁ => l2₁ a₁ (by omega))
  have fr2₁ : ∀ {J₁ : MI} {M₁ : ML}, frU₁ x₁ J₁ J2₁ M₁ M2₁ → (∀ b₁, b₁ ≠ x₁ + 1 → b₁ < x₁ + 36 ∨ x₁ + 52 < b₁ → J₁ b₁ = I₁ b₁) ∧ (∀ b₁, b₁ ≠ x₁ + 1 → b₁ < x₁ + 37 ∨ x₁ + 52 < b₁ → M₁ b₁ = L₁ b₁) ∧ UWd₁ J₁ (x₁ + 37) := fun g₁ =>
    ⟨fun b₁ q1₁ q2₁ => by rw [g₁.1 b₁ q1₁ q2₁, f2₁ b₁ q1₁, b5₁ b₁ (by omega)], fun b₁ q1₁ q2₁ => by rw [g₁.2.1 b₁ q1₁ q2₁, l2₁ b₁ q1₁], by
      have w2₁ := UD_wd d2₁
      refine ⟨?_, ?_, ?_, ?_, ?_⟩
      · rw [g₁.2.2 _ (by omega)]; exact w2₁.1
      · rw [g₁.2.2 _ (by omega)]; exact w2₁.2.1
      · rw [g₁.2.2 _ (by omega)]; exact w2₁.2.2.1
      · rw [g₁.2.2 _ (by omega)]; exact w2₁.2.2.2.1
      · rw [g₁.2.2 _ (by omega)]; exact w2₁.2.2.2.2⟩
  have wdk₁ : ∀ {J₁ J'₁ : MI}, UWd₁ J₁ (x₁ + 37) → (∀ b₁, x₁ + 37 ≤ b₁ → b₁ ≤ x₁ + 52 → J'₁ b₁ = J₁ b₁) → UWd₁ J'₁ (x₁ + 37) := fun g₁ e₁ => by
    rw [UWd₁, e₁ _ (by omega) (by omega), e₁ _ (by omega) (by omega), e₁ _ (by omega) (by omega), e₁ _ (by omega) (by omega), e₁ _ (by omega) (by omega)]; exact g₁
  refine s_unitLoop (U0₁ := emU₁ T₁) (NM0₁ := NM0₁) hX₁ ⟨tcs₁, d2₁, WFU_em, NOK_em⟩ emU_z (by rw [f2₁ _ (by omega), g5₁, mup_at]) e10₁ (fun k₁ pl₁ hp₁ k1₁ k5₁ J₁ M₁ r₁ fl₁ fr₁ => ⟨hX₁.tok, fun I9₁ g9₁ => ?_⟩) (fun U'₁ NM'₁ i₁ hp₁ J₁ M₁ p₁ hS₁ h10₁ fr₁ => ⟨hX₁.tok, fun I9₁ g9₁ => ?_⟩)
  · obtain ⟨c1₁, c2₁, c3₁⟩ := fr2₁ fr₁
    have a10₁ : I9₁ (x₁ + 1) 10 = nI k₁ := by rw [g9₁, mup_k (by decide)]; exact fl₁.1
    have a11₁ : I9₁ (x₁ + 1) 11 = nI pl₁ := by rw [g9₁, mup_k (by decide)]; exact fl₁.2
    rw [a10₁, a11₁]
    refine ⟨fun z₁ => ?_, fun _ => hbad k₁ pl₁ hp₁ k1₁ k5₁ I9₁ M₁ a10₁ (by rw [g9₁, mup_at]) (wdk₁ c3₁ (fun b₁ q1₁ q2₁ => by rw [g9₁, mup_ne (by omega)])) (fun b₁ q1₁ q2₁ => by rw [g9₁, mup_ne q1₁, c1₁ b₁ q1₁ q2₁]) c2₁⟩
    rw [show (0 : Int32) = nI 0 from rfl, eqN (by omega) (by omega)] at z₁; omega
  · obtain ⟨c1₁, c2₁, c3₁⟩ := fr2₁ fr₁
    obtain ⟨hT₁, hD₁, hW₁, hN₁⟩ := hS₁
    have a10₁ : I9₁ (x₁ + 1) 10 = 0 := by rw [g9₁, mup_k (by decide)]; exact h10₁
    have b9₁ : ∀ b₁, b₁ ≠ x₁ + 1 → I9₁ b₁ = J₁ b₁ := fun b₁ hb₁ => by rw [g9₁, mup_ne hb₁]
    refine ⟨fun _ => ⟨_, hX₁.r_unit, _, hX₁.urd_r, hX₁.un.1, ?_⟩, fun z₁ => absurd a10₁ z₁⟩
    have hw2' : UWd₁ I9₁ (x₁ + 3) := by
      rw [UWd₁, b9₁ _ (by omega), b9₁ _ (by omega), b9₁ _ (by omega), b9₁ _ (by omega), b9₁ _ (by omega), c1₁ _ (by omega) (by omega), c1₁ _ (by omega) (by omega), c1₁ _ (by omega) (by omega), c1₁ _ (by omega) (by omega), c1₁ _ (by omega) (by omega)]; exact hw2₁
    refine s_ucopy hX₁.un hX₁.urd_u (hD₁.fr (fun a₁ q1₁ q2₁ => b9₁ a₁ (by omega)) (fun _ _ _ => rfl)) hW₁ hw2' (by omega) (fun J3₁ M3₁ d3₁ f3₁ l3₁ => ⟨_, hX₁.r_machine, hX₁.mac.1, s_makeNew hX₁.mac (fun J4₁ m4₁ f4₁ => ⟨_, hX₁.r_sentence, hX₁.sen.1, ?_⟩)⟩)
    delta w_X5_forget
    refine ⟨hX₁.sen.1, fun I20₁ g20₁ I21₁ g21₁ => ?_⟩
    have b21₁ : ∀ b₁, b₁ ≠ x₁ → b₁ ≠ x₁ + 31 → I21₁ b₁ = J4₁ b₁ := fun b₁ q1₁ q2₁ => by rw [g21₁, mup_ne q1₁, g20₁, mup_ne q2₁]
    refine hok₁ U'₁ NM'₁ i₁ hp₁ hW₁ hN₁ I21₁ M3₁ ?_ ?_ ?_ ?_ ?_ ?_ ?_ ⟨fun b₁ q1₁ q2₁ q3₁ q4₁ q5₁ => ?_, fun y₁ hy₁ => ?_, fun b₁ q1₁ q2₁ q3₁ => ?_⟩
    · exact d3₁.fr (fun a₁ q1₁ q2₁ => by rw [b21₁ a₁ (by omega) (by omega), f4₁ a₁ (by omega) (by omega) (by omega)]) (fun _ _ _ => rfl)
    · exact MACD_fr m4₁ (fun b₁ hb₁ => b21₁ b₁ (by omega) (by omega))
    · rw [g21₁, mup_ne (by omega), g20₁, mup_at]
    · rw [g21₁, mup_at]
    · rw [b21₁ _ (by omega) (by omega), f4₁ _ (by omega) (by omega) (by omega), f3₁ _ (by omega)]; exact a10₁
    · rw [b21₁ _ (by omega) (by omega), f4₁ _ (by omega) (by omega) (by omega), f3₁ _ (by omega), g9₁, mup_at]
    · exact wdk₁ c3₁ (fun b₁ q1₁ q2₁ => by rw [b21₁ b₁ (by omega) (by omega), f4₁ b₁ (by omega) (by omega) (by omega), f3₁ b₁ (by omega), b9₁ b₁ (by omega)])
    · rw [b21₁ b₁ q1₁ q4₁, f4₁ b₁ (by omega) (by omega) (by omega), f3₁ b₁ (by omega), b9₁ b₁ q2₁, c1₁ b₁ q2₁ q5₁]
    · rw [g21₁, mup_k hy₁, g20₁, mup_ne (by omega), f4₁ _ (by omega) (by omega) (by omega), f3₁ _ (by omega), b9₁ _ (by omega), c1₁ _ (by omega) (by omega)]
    · rw [l3₁ b₁ (by omega), c2₁ b₁ q1₁ q3₁]
end UN₁
