/-! ===== book: the class's call ===== -/
/-- what book leaves as it was -/
def frBo (x₁ : Nat) (J₁ I₁ : MI) (M₁ L₁ : ML) : Prop := (∀ b₁, b₁ ≠ x₁ + 1 → b₁ < x₁ + 23 ∨ x₁ + 29 < b₁ → b₁ ≠ x₁ + 59 → b₁ ≠ x₁ + 60 → b₁ ≠ x₁ + 62 → b₁ ≠ x₁ + 83 → b₁ ≠ x₁ + 85 → J₁ b₁ = I₁ b₁) ∧ (∀ b₁, b₁ ≠ x₁ + 1 → b₁ ≠ x₁ + 61 → b₁ ≠ x₁ + 84 → M₁ b₁ = L₁ b₁) ∧ J₁ (x₁ + 60) 0 = I₁ (x₁ + 60) 0
/-- the same of a book that was lived -/
def frBv (x₁ : Nat) (J₁ I₁ : MI) (M₁ L₁ : ML) : Prop := (∀ b₁, b₁ ≠ x₁ → b₁ ≠ x₁ + 1 → b₁ < x₁ + 19 ∨ x₁ + 29 < b₁ → b₁ ≠ x₁ + 59 → b₁ ≠ x₁ + 60 → b₁ ≠ x₁ + 62 → b₁ ≠ x₁ + 83 → b₁ ≠ x₁ + 85 → b₁ < x₁ + 86 ∨ x₁ + 118 ≤ b₁ → J₁ b₁ = I₁ b₁) ∧ (∀ b₁, b₁ ≠ x₁ + 1 → b₁ ≠ x₁ + 61 → b₁ ≠ x₁ + 84 → M₁ b₁ = L₁ b₁) ∧ J₁ (x₁ + 60) 0 = I₁ (x₁ + 60) 0 ∧ ∀ y₁, y₁ ≠ 5 → J₁ x₁ y₁ = I₁ x₁ y₁
def boA₁ (r₁ : (Nat → Int32) × Nat × Int32) : Int32 := if r₁.2.2 = 0 then -1 else nI r₁.2.1
section BC₁
variable {K₁ N₁ : MK} {I₁ : MI} {L₁ : ML} {R₁ : MR} {x₁ n₁ o₁ : Nat} {B₁ : Nat → Nat} {U₁ V₁ S₁ : Nat → Int32} {W₁ : Nat → Int64} {p₁ : Nat → Nat}
theorem s_book {lv₁ : Int32} {Q₁ : Int32 → MI → ML → MR → Prop} (hX₁ : PDL K₁ N₁ R₁ x₁) (hn₁ : I₁ (x₁ + 1) 1 = nI n₁) (h940 : n₁ ≤ 940) (hB₁ : TAP₁ I₁ (x₁ + 2) B₁ n₁) (hb₁ : ∀ i₁, B₁ i₁ < 256) (hw₁ : I₁ (x₁ + 60) 0 = nI 3) (hw2₁ : I₁ (x₁ + 83) 0 = nI 4)
    (hH₁ : HIS₁ R₁ x₁ p₁) (hm₁ : HM₁ K₁ N₁ R₁ x₁) (hD₁ : HD₁ I₁ x₁ p₁ o₁ S₁) (e₁ : I₁ x₁ 5 = nI o₁) (ho₁ : o₁ ≤ 8) (hV₁ : MACD I₁ (x₁ + 19) V₁) (hu₁ : UD I₁ L₁ (x₁ + 3) U₁ W₁) (hW₁ : WFU₁ U₁) (hv₁ : WFv₁ U₁ V₁)
    (hno₁ : lv₁ ≠ 0 → lv₁ ≠ 1 → Q₁ (-1000) I₁ L₁ R₁)
    (hbad : (lv₁ = 0 ∨ lv₁ = 1) → ∀ k₁ pl₁, pBok B₁ n₁ 400 42 [] 0 = .inl (k₁, pl₁) → 1 ≤ k₁ → k₁ ≤ 5 → ∀ J₁ M₁, J₁ (x₁ + 1) 10 = nI k₁ → J₁ (x₁ + 1) 1 = 0 → frBk x₁ J₁ I₁ M₁ L₁ → Q₁ ((-2 : Int32) - nI pl₁) J₁ M₁ R₁)
    (hst₁ : ∀ ls₁, pBok B₁ n₁ 400 42 [] 0 = .inr ls₁ → (∀ l₁, l₁ ∈ ls₁ → lnW₁ l₁) → ls₁.length ≤ 40 → (lv₁ = 0 ∨ lv₁ = 1 ∧ (jgS₁ U₁ ls₁ V₁ 0).2.1 = 0) → ∀ J₁ M₁, TLDC J₁ x₁ U₁ (jgS₁ U₁ ls₁ V₁ 0).1 (jgS₁ U₁ ls₁ V₁ 0).2.1 (jgS₁ U₁ ls₁ V₁ 0).2.2 → J₁ (x₁ + 1) 10 = 0 → J₁ (x₁ + 1) 1 = 0 → frBo x₁ J₁ I₁ M₁ L₁ → Q₁ (boA₁ (jgS₁ U₁ ls₁ V₁ 0)) J₁ M₁ R₁)
    (hlv₁ : ∀ ls₁, pBok B₁ n₁ 400 42 [] 0 = .inr ls₁ → (∀ l₁, l₁ ∈ ls₁ → lnW₁ l₁) → ls₁.length ≤ 40 → lv₁ = 1 → (jgS₁ U₁ ls₁ V₁ 0).2.1 ≠ 0 → ∀ J₁ M₁ R'₁ p'₁, TLDC J₁ x₁ U₁ (jgS₁ U₁ ls₁ V₁ 0).1 (jgS₁ U₁ ls₁ V₁ 0).2.1 (jgS₁ U₁ ls₁ V₁ 0).2.2 → J₁ (x₁ + 1) 10 = 0 → J₁ (x₁ + 1) 1 = 0 → (∀ b₁, b₁ ≠ x₁ + 27 → R'₁ b₁ = R₁ b₁) → HIS₁ R'₁ x₁ p'₁ → J₁ x₁ 5 = nI (shN₁ o₁) → (∀ S'₁, SH₁ o₁ S₁ V₁ S'₁ → HD₁ J₁ x₁ p'₁ (shN₁ o₁) S'₁) → MACD J₁ (x₁ + 19) (jgS₁ U₁ ls₁ V₁ 0).1 → frBv x₁ J₁ I₁ M₁ L₁ → Q₁ (boA₁ (jgS₁ U₁ ls₁ V₁ 0)) J₁ M₁ R'₁) : w_X11_book x₁ lv₁ K₁ N₁ I₁ L₁ R₁ Q₁ := by
  have main : (lv₁ = 0 ∨ lv₁ = 1) → w_X11_book_13 x₁ lv₁ K₁ N₁ I₁ L₁ R₁ Q₁ := fun h01₁ => by
    delta w_X11_book_13
    refine ⟨hX₁.k, _, hX₁.r_book, _, hX₁.r_tokens, hX₁.bok, s_bookLines hX₁ hn₁ h940 hB₁ hb₁ hw₁ (fun k₁ pl₁ ep₁ k1₁ k5₁ J₁ M₁ j10₁ j11₁ fr₁ => ⟨hX₁.tok, fun I8₁ g8₁ => ?_⟩) (fun ls₁ ep₁ J₁ M₁ bk₁ j10₁ fr₁ => ⟨hX₁.tok, fun I8₁ g8₁ => ?_⟩)⟩
    · have b8₁ : ∀ b₁, b₁ ≠ x₁ + 1 → I8₁ b₁ = J₁ b₁ := fun b₁ q₁ => by rw [g8₁, mup_ne q₁]
      have a10₁ : I8₁ (x₁ + 1) 10 = nI k₁ := by rw [g8₁, mup_k (by decide)]; exact j10₁
      have a11₁ : I8₁ (x₁ + 1) 11 = nI pl₁ := by rw [g8₁, mup_k (by decide)]; exact j11₁
      rw [a10₁, a11₁]
      refine ⟨fun z₁ => ?_, fun _ => hbad h01₁ k₁ pl₁ ep₁ k1₁ k5₁ I8₁ M₁ a10₁ (by rw [g8₁, mup_at]) ⟨fun b₁ q1₁ q2₁ q3₁ => by rw [b8₁ b₁ q1₁, fr₁.1 b₁ q1₁ q2₁ q3₁], fr₁.2.1, by rw [b8₁ _ (by omega), fr₁.2.2]⟩⟩
      rw [show (0 : Int32) = nI 0 from rfl, eqN (by omega) (by omega)] at z₁; omega
    · have b8₁ : ∀ b₁, b₁ ≠ x₁ + 1 → b₁ ≠ x₁ + 60 → b₁ ≠ x₁ + 62 → I8₁ b₁ = I₁ b₁ := fun b₁ q1₁ q2₁ q3₁ => by rw [g8₁, mup_ne q1₁, fr₁.1 b₁ q1₁ q2₁ q3₁]
      have a10₁ : I8₁ (x₁ + 1) 10 = 0 := by rw [g8₁, mup_k (by decide)]; exact j10₁
      have a1₁ : I8₁ (x₁ + 1) 1 = 0 := by rw [g8₁, mup_at]
      obtain ⟨l40₁, lw₁⟩ := pBok_w 42 [] 0 ls₁ (Nat.zero_le _) (fun l₁ h₁ => by cases h₁) ep₁
      have bk8₁ : BKT₁ I8₁ x₁ ls₁ := BKT_fr bk₁ (by rw [g8₁, mup_ne (by omega)]) (by rw [g8₁, mup_ne (by omega)])
      have w60₁ : I8₁ (x₁ + 60) 0 = I₁ (x₁ + 60) 0 := by rw [g8₁, mup_ne (by omega)]; exact fr₁.2.2
      rw [a10₁]
      refine ⟨fun _ => ⟨_, hX₁.r_trial, _, hX₁.r_machine, hX₁.tri.1, s_copyFrom hX₁.tri hX₁.mac (MACD_fr hV₁ (fun b₁ q₁ => b8₁ b₁ (by omega) (by omega) (by omega))) (by omega) (fun J9₁ c9₁ f9₁ => ⟨_, hX₁.r_unit, ?_⟩)⟩, fun z₁ => absurd rfl z₁⟩
      have b9₁ : ∀ b₁, b₁ ≠ x₁ + 1 → b₁ ≠ x₁ + 60 → b₁ ≠ x₁ + 62 → b₁ < x₁ + 23 ∨ x₁ + 27 ≤ b₁ → J9₁ b₁ = I₁ b₁ := fun b₁ q1₁ q2₁ q3₁ q4₁ => by rw [f9₁ b₁ (by omega) (by omega) (by omega) (by omega), b8₁ b₁ q1₁ q2₁ q3₁]
      have u9₁ : UD J9₁ M₁ (x₁ + 3) U₁ W₁ := (UD_fr hu₁ (fun b₁ q1₁ q2₁ => b9₁ b₁ (by omega) (by omega) (by omega) (by omega))).fr (fun _ _ _ => rfl) (fun b₁ q1₁ q2₁ => fr₁.2.1 b₁ (by omega) (by omega))
      refine s_judge hX₁ (BKT_fr bk8₁ (f9₁ _ (by omega) (by omega) (by omega) (by omega)) (f9₁ _ (by omega) (by omega) (by omega) (by omega))) lw₁ c9₁ u9₁ hW₁.1 hW₁.2.1 hW₁.2.2.1 hv₁ (fun J10₁ c10₁ e10₁ f10₁ => ?_)
      obtain ⟨jv₁, jhi₁, j0₁, jle₁⟩ := jgS_w (ls₁ := ls₁) (V₁ := V₁) (i₁ := 0) hW₁.1 hW₁.2.1 hv₁ lw₁
      have hst' := hst₁ ls₁ ep₁ lw₁ l40₁
      have hlv' := hlv₁ ls₁ ep₁ lw₁ l40₁
      generalize hr₁ : jgS₁ U₁ ls₁ V₁ 0 = r₁ at *
      obtain ⟨V'₁, i₁, w₁⟩ := r₁
      have i40₁ : i₁ ≤ 0 + ls₁.length := jle₁
      have b10₁ : ∀ b₁, b₁ ≠ x₁ + 1 → b₁ ≠ x₁ + 60 → b₁ ≠ x₁ + 62 → b₁ ≠ x₁ + 59 → b₁ < x₁ + 23 ∨ x₁ + 27 ≤ b₁ → J10₁ b₁ = I₁ b₁ := fun b₁ q1₁ q2₁ q3₁ q4₁ q5₁ => by rw [f10₁ b₁ q4₁ q5₁, b9₁ b₁ q1₁ q2₁ q3₁ q5₁]
      have u10₁ : UD J10₁ M₁ (x₁ + 3) U₁ W₁ := (UD_fr hu₁ (fun b₁ q1₁ q2₁ => b10₁ b₁ (by omega) (by omega) (by omega) (by omega) (by omega))).fr (fun _ _ _ => rfl) (fun b₁ q1₁ q2₁ => fr₁.2.1 b₁ (by omega) (by omega))
      have t10₁ : J10₁ (x₁ + 1) = I8₁ (x₁ + 1) := by rw [f10₁ _ (by omega) (by omega), f9₁ _ (by omega) (by omega) (by omega) (by omega)]
      refine s_tellBook (i₁ := i₁) hX₁ (by rw [b10₁ _ (by omega) (by omega) (by omega) (by omega) (by omega)]; exact hw2₁) e10₁ c10₁ u10₁ hW₁ jv₁.2.1 (fun J16₁ M16₁ tl₁ f16₁ m16₁ => ?_)
      have e59₁ : J16₁ (x₁ + 59) 1 = nI i₁ := by rw [f16₁ _ (by omega) (by omega) (by omega) (by omega)]; exact e10₁
      have fr16 : frBo x₁ J16₁ I₁ M16₁ L₁ := by
        refine ⟨fun b₁ q1₁ q2₁ q3₁ q4₁ q5₁ q6₁ q7₁ => ?_, fun b₁ q1₁ q2₁ q3₁ => by rw [m16₁ b₁ q3₁, fr₁.2.1 b₁ q1₁ q2₁], ?_⟩
        · rw [f16₁ b₁ (by omega) (by omega) q6₁ q7₁, b10₁ b₁ q1₁ q4₁ q5₁ q3₁ (by omega)]
        · rw [f16₁ _ (by omega) (by omega) (by omega) (by omega), f10₁ _ (by omega) (by omega), f9₁ _ (by omega) (by omega) (by omega) (by omega), w60₁]
      have z16₁ : J16₁ (x₁ + 1) 10 = 0 := by rw [f16₁ _ (by omega) (by omega) (by omega) (by omega), t10₁]; exact a10₁
      have y16₁ : J16₁ (x₁ + 1) 1 = 0 := by rw [f16₁ _ (by omega) (by omega) (by omega) (by omega), t10₁]; exact a1₁
      have stay : (lv₁ = 0 ∨ lv₁ = 1 ∧ i₁ = 0) → (¬ w₁ = 0 → Q₁ (J16₁ (x₁ + 59) 1) J16₁ M16₁ R₁) ∧ (w₁ = 0 → Q₁ (-1) J16₁ M16₁ R₁) := fun h₁ => by
        have q₁ := hst' h₁ J16₁ M16₁ tl₁ z16₁ y16₁ fr16
        rw [e59₁]
        exact ⟨fun z₁ => by rw [boA₁, if_neg z₁] at q₁; exact q₁, fun z₁ => by rw [boA₁, if_pos z₁] at q₁; exact q₁⟩
      rw [e59₁] at stay ⊢
      rw [show (0 : Int32) = nI 0 from rfl, leN (by omega) (by omega), show nI 0 = (0 : Int32) from rfl]
      refine ⟨fun z₁ => stay (Or.inl (h01₁.resolve_right z₁)), fun z₁ => ⟨fun z2₁ => stay (Or.inr ⟨z₁, by omega⟩), fun z2₁ => ?_⟩⟩
      have c16₁ : MACD J16₁ (x₁ + 19) V₁ := MACD_fr hV₁ (fun b₁ q₁ => fr16.1 b₁ (by omega) (by omega) (by omega) (by omega) (by omega) (by omega) (by omega))
      have d16₁ : MACD J16₁ (x₁ + 23) V'₁ := MACD_fr c10₁ (fun b₁ q₁ => f16₁ b₁ (by omega) (by omega) (by omega) (by omega))
      refine s_remMac (S₁ := S₁) hX₁ hH₁ hm₁ (fun k₁ hk₁ => ?_) c16₁ (by rw [fr16.1 x₁ (by omega) (by omega) (by omega) (by omega) (by omega) (by omega) (by omega)]; exact e₁) ho₁ (fun J18₁ R'₁ p'₁ r18₁ h18₁ e18₁ d18₁ y18₁ f18₁ => ?_)
      · have pk₁ := (hH₁.1 k₁ (by omega)).1
        exact MACD_fr (hD₁ k₁ hk₁) (fun b₁ q₁ => fr16.1 b₁ (by omega) (by omega) (by omega) (by omega) (by omega) (by omega) (by omega))
      have r2₁ : R'₁ x₁ 2 = some (x₁ + 19) := by rw [r18₁ _ (by omega)]; exact hX₁.r_machine
      have r3₁ : R'₁ x₁ 3 = some (x₁ + 23) := by rw [r18₁ _ (by omega)]; exact hX₁.r_trial
      have r11₁ : R'₁ x₁ 11 = some (x₁ + 59) := by rw [r18₁ _ (by omega)]; exact hX₁.r_book
      refine ⟨_, r2₁, _, r3₁, hX₁.mac.1, s_copyFrom (MAL_R hX₁.mac (r18₁ _ (by omega))) (MAL_R hX₁.tri (r18₁ _ (by omega))) (MACD_fr d16₁ (fun b₁ q₁ => f18₁ b₁ (by omega) (by omega))) (by omega) (fun J24₁ c24₁ f24₁ => ?_)⟩
      have b24₁ : ∀ b₁, b₁ ≠ x₁ → b₁ < x₁ + 19 ∨ x₁ + 23 ≤ b₁ → b₁ < x₁ + 86 ∨ x₁ + 118 ≤ b₁ → J24₁ b₁ = J16₁ b₁ := fun b₁ q1₁ q2₁ q3₁ => by rw [f24₁ b₁ (by omega) (by omega) (by omega) (by omega), f18₁ b₁ q1₁ q3₁]
      have e24₁ : J24₁ (x₁ + 59) 1 = nI i₁ := by rw [b24₁ _ (by omega) (by omega) (by omega)]; exact e59₁
      have tl24 : TLDC J24₁ x₁ U₁ V'₁ i₁ w₁ := by
        rw [TLDC, b24₁ _ (by omega) (by omega) (by omega)]
        exact ⟨tl₁.1.fr (b24₁ _ (by omega) (by omega) (by omega)), tl₁.2⟩
      have q₁ := hlv' z₁ (show i₁ ≠ 0 by omega) J24₁ M16₁ R'₁ p'₁ tl24 (by rw [b24₁ _ (by omega) (by omega) (by omega)]; exact z16₁) (by rw [b24₁ _ (by omega) (by omega) (by omega)]; exact y16₁) r18₁ h18₁ (by rw [f24₁ _ (by omega) (by omega) (by omega) (by omega)]; exact e18₁) (fun S'₁ hS₁ k₁ hk₁ => MACD_fr (d18₁ S'₁ hS₁ k₁ hk₁) (fun b₁ q₁ => f24₁ b₁ (by omega) (by omega) (by omega) (by omega))) c24₁ ⟨fun b₁ q1₁ q2₁ q3₁ q4₁ q5₁ q6₁ q7₁ q8₁ q9₁ => ?_, fr16.2.1, ?_, fun y₁ hy₁ => ?_⟩
      · refine ⟨fun z₁ => ⟨_, r11₁, hX₁.bok, ?_⟩, fun z₁ => ?_⟩
        · rw [boA₁, if_neg z₁] at q₁; rw [e24₁]; exact q₁
        · rw [boA₁, if_pos z₁] at q₁; exact q₁
      · rw [b24₁ b₁ q1₁ (by omega) q9₁, fr16.1 b₁ q2₁ (by omega) q4₁ q5₁ q6₁ q7₁ q8₁]
      · rw [b24₁ _ (by omega) (by omega) (by omega)]; exact fr16.2.2
      · rw [f24₁ _ (by omega) (by omega) (by omega) (by omega), y18₁ y₁ hy₁, fr16.1 x₁ (by omega) (by omega) (by omega) (by omega) (by omega) (by omega) (by omega)]
  delta w_X11_book
  exact ⟨fun z₁ => main (Or.inl z₁), fun z₁ => ⟨fun z2₁ => main (Or.inr z2₁), fun z2₁ => hno₁ z₁ z2₁⟩⟩
end BC₁
