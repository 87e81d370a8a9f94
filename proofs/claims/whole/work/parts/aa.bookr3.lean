/-! ===== book: the reference's call ===== -/
section BR₁
variable {K₁ N₁ : MK} {I₁ : MI} {L₁ : ML} {R₁ : MR} {m₁ n₁ o₁ : Nat} {B₁ : Nat → Nat} {U₁ V₁ : Nat → Int32}
def frBw (m₁ : Nat) (J₁ I₁ : MI) : Prop := (∀ b₁, b₁ ≠ m₁ → b₁ ≠ m₁ + 2 → b₁ ≠ m₁ + 5 → b₁ ≠ m₁ + 6 → b₁ ≠ m₁ + 14 → b₁ ≠ m₁ + 24 → J₁ b₁ = I₁ b₁) ∧ ∀ y₁, y₁ ≠ 24 → y₁ ≠ 30 → y₁ ≠ 31 → y₁ ≠ 52 → J₁ m₁ y₁ = I₁ m₁ y₁
theorem r_bookTell {lv₁ w₁ : Int32} {i₁ : Nat} {Q₁ : Int32 → MI → ML → Prop} (hM₁ : MDL K₁ N₁ R₁ m₁) (hI₁ : I₁ (m₁ + 2) = ovr₁ U₁ V₁) (h7₁ : ∀ j₁, j₁ < 83 → I₁ (m₁ + 7) j₁ = macV U₁ j₁) (hW₁ : WFU₁ U₁) (hv₁ : WFv₁ U₁ V₁) (hV₁ : ∀ k₁, 83 ≤ k₁ → V₁ k₁ = macV U₁ k₁) (e₁ : I₁ m₁ 24 = nI o₁) (ho₁ : o₁ ≤ 8) (hi₁ : i₁ < 1000)
    (hst₁ : (lv₁ ≠ 1 ∨ i₁ = 0) → ∀ J₁, J₁ (m₁ + 2) = U₁ → TLDR J₁ m₁ U₁ V₁ i₁ w₁ → J₁ m₁ 24 = nI o₁ → J₁ (m₁ + 5) = I₁ (m₁ + 5) → frBw m₁ J₁ I₁ → Q₁ (if w₁ = 0 then -1 else nI i₁) J₁ L₁)
    (hlv₁ : lv₁ = 1 → i₁ ≠ 0 → ∀ J₁, J₁ (m₁ + 2) = ovr₁ U₁ V₁ → TLDR J₁ m₁ U₁ V₁ i₁ w₁ → J₁ m₁ 24 = nI (shN₁ o₁) → SH₁ o₁ (I₁ (m₁ + 5)) (macV U₁) (J₁ (m₁ + 5)) → frBw m₁ J₁ I₁ → Q₁ (if w₁ = 0 then -1 else nI i₁) J₁ L₁) : w_X12_book_108 m₁ lv₁ (nI i₁) w₁ K₁ N₁ I₁ L₁ R₁ Q₁ := by
  have ag₁ : agU₁ (ovr₁ U₁ V₁) U₁ := ovr_ag
  have hW'₁ : WFU₁ (ovr₁ U₁ V₁) := WFU_ag ag₁ hW₁
  delta w_X12_book_108
  refine ⟨hM₁.k, _, hM₁.r50, hM₁.k24, by rw [hM₁.n24]; exact vp_c (by decide) (by decide), fun I15₁ g15₁ => ⟨by rw [hM₁.n24]; exact vp_c (by decide) (by decide), fun I17₁ g17₁ => ⟨_, hM₁.r14, hM₁.k2, by rw [hM₁.n2]; exact vp_c (by decide) (by decide), by rw [hM₁.n24]; exact vp_c (by decide) (by decide), fun I22₁ g22₁ => ?_⟩⟩⟩
  have b17₁ : ∀ b₁, b₁ ≠ m₁ + 24 → I17₁ b₁ = I₁ b₁ := fun b₁ q₁ => by rw [g17₁, mup_ne q₁, g15₁, mup_ne q₁]
  have b22₁ : ∀ b₁, b₁ ≠ m₁ + 24 → I22₁ b₁ = I₁ b₁ := fun b₁ q₁ => by rw [g22₁, mup_ne q₁, b17₁ b₁ q₁]
  rw [b17₁ _ (by omega), hI₁, show ovr₁ U₁ V₁ (ix 342) = V₁ 0 from rfl] at g22₁
  have c22₁ : I22₁ (m₁ + 24) 0 = w₁ ∧ I22₁ (m₁ + 24) 1 = nI i₁ ∧ I22₁ (m₁ + 24) 2 = V₁ 0 := by
    rw [show ix (2 : Int32) = 2 from rfl] at g22₁
    rw [show ix (1 : Int32) = 1 from rfl] at g17₁
    rw [show ix (0 : Int32) = 0 from rfl] at g15₁
    refine ⟨?_, ?_, ?_⟩
    · rw [g22₁, mup_k (by decide), g17₁, mup_k (by decide), g15₁, mup_at]
    · rw [g22₁, mup_k (by decide), g17₁, mup_at]
    · rw [g22₁, mup_at]
  have eU₁ : I22₁ (m₁ + 2) = ovr₁ U₁ V₁ := by rw [b22₁ _ (by omega), hI₁]
  have em₁ : macV (I22₁ (m₁ + 2)) = V₁ := by rw [eU₁]; exact mac_ovr2 hV₁
  refine r_thoseThere hM₁ (by rw [eU₁]; exact hW'₁.1) (by rw [eU₁]; exact hW'₁.2.2.2.2.2.2.1) (by rw [eU₁]; exact hW'₁.2.2.2.2.1) (by rw [eU₁]; exact hW'₁.2.2.2.1) (by rw [eU₁]; exact hW'₁.2.2.2.2.2.2.2) (by rw [em₁]; exact hv₁.2.1) (fun I24₁ f24₁ => ⟨by rw [hM₁.n24]; exact vp_c (by decide) (by decide), fun I26₁ g26₁ I27₁ g27₁ => ?_⟩)
  rw [em₁, eU₁, thrB_ag ag₁ hW₁, show ovr₁ U₁ V₁ 4 = U₁ 4 from rfl, show ix (3 : Int32) = 3 from rfl] at g26₁
  have b27₁ : ∀ b₁, b₁ ≠ m₁ → b₁ ≠ m₁ + 14 → b₁ ≠ m₁ + 24 → I27₁ b₁ = I₁ b₁ := fun b₁ q1₁ q2₁ q3₁ => by rw [g27₁, mup_ne q1₁, g26₁, mup_ne q3₁, f24₁.1 b₁ q1₁ q2₁, b22₁ b₁ q3₁]
  have y27₁ : ∀ y₁, y₁ ≠ 30 → y₁ ≠ 31 → y₁ ≠ 52 → I27₁ m₁ y₁ = I₁ m₁ y₁ := fun y₁ q1₁ q2₁ q3₁ => by rw [g27₁, mup_k q3₁, g26₁, mup_ne (by omega), f24₁.2 y₁ q1₁ q2₁, b22₁ _ (by omega)]
  have t27₁ : TLDR I27₁ m₁ U₁ V₁ i₁ w₁ := by
    have e24₁ : I24₁ (m₁ + 24) = I22₁ (m₁ + 24) := f24₁.1 _ (by omega) (by omega)
    refine ⟨?_, ?_, ?_, ?_, ?_⟩
    · rw [g27₁, mup_at]; exact fun z₁ => absurd z₁ (by decide)
    · rw [g27₁, mup_ne (by omega), g26₁, mup_k (by decide), e24₁]; exact c22₁.1
    · rw [g27₁, mup_ne (by omega), g26₁, mup_k (by decide), e24₁]; exact c22₁.2.1
    · rw [g27₁, mup_ne (by omega), g26₁, mup_k (by decide), e24₁]; exact c22₁.2.2
    · rw [g27₁, mup_ne (by omega), g26₁, mup_at]
  have U27₁ : I27₁ (m₁ + 2) = ovr₁ U₁ V₁ := by rw [b27₁ _ (by omega) (by omega) (by omega), hI₁]
  have h7'₁ : ∀ j₁, j₁ < 83 → I27₁ (m₁ + 7) j₁ = macV U₁ j₁ := fun j₁ hj₁ => by rw [b27₁ _ (by omega) (by omega) (by omega)]; exact h7₁ j₁ hj₁
  have tk₁ : ∀ J₁, J₁ m₁ 52 = I27₁ m₁ 52 → J₁ (m₁ + 24) = I27₁ (m₁ + 24) → TLDR J₁ m₁ U₁ V₁ i₁ w₁ := fun J₁ e1₁ e2₁ => by rw [TLDR, e1₁, e2₁]; exact t27₁
  have no₁ : (lv₁ ≠ 1 ∨ i₁ = 0) → w_X12_stay m₁ false K₁ N₁ I27₁ L₁ R₁ (fun I28₁ => (¬ w₁ = 0 → Q₁ (nI i₁) I28₁ L₁) ∧ (w₁ = 0 → Q₁ (-1) I28₁ L₁)) := fun hc₁ => by
    refine r_stayNo hM₁ h7'₁ (fun J₁ j1₁ j2₁ => ?_)
    have q₁ := hst₁ hc₁ J₁ (by rw [j1₁, U27₁, ovr_ovr, ovr_mac]) (tk₁ J₁ (by rw [j2₁ _ (by omega) (by omega)]) (j2₁ _ (by omega) (by omega))) (by rw [j2₁ _ (by omega) (by omega), y27₁ 24 (by decide) (by decide) (by decide)]; exact e₁) (by rw [j2₁ _ (by omega) (by omega), b27₁ _ (by omega) (by omega) (by omega)]) ⟨fun b₁ q1₁ q2₁ q3₁ q4₁ q5₁ q6₁ => by rw [j2₁ b₁ q2₁ q4₁, b27₁ b₁ q1₁ q5₁ q6₁], fun y₁ q1₁ q2₁ q3₁ q4₁ => by rw [j2₁ _ (by omega) (by omega), y27₁ y₁ q2₁ q3₁ q4₁]⟩
    exact ⟨fun z₁ => by rw [if_neg z₁] at q₁; exact q₁, fun z₁ => by rw [if_pos z₁] at q₁; exact q₁⟩
  rw [show (nI i₁ ≤ (0 : Int32)) = (nI i₁ ≤ nI 0) from rfl, leN (by omega) (by omega)]
  refine ⟨fun z₁ => no₁ (Or.inl z₁), fun z₁ => ⟨fun z2₁ => no₁ (Or.inr (by omega)), fun z2₁ => ?_⟩⟩
  refine r_stayYes hM₁ (by rw [y27₁ 24 (by decide) (by decide) (by decide)]; exact e₁) ho₁ h7'₁ (fun J₁ j1₁ j2₁ j3₁ j4₁ j5₁ => ?_)
  have q₁ := hlv₁ z₁ (by omega) J₁ (by rw [j1₁, U27₁]) (tk₁ J₁ (j4₁ 52 (by decide)) (j5₁ _ (by omega) (by omega) (by omega) (by omega))) j2₁ (by rw [b27₁ _ (by omega) (by omega) (by omega)] at j3₁; exact j3₁) ⟨fun b₁ q1₁ q2₁ q3₁ q4₁ q5₁ q6₁ => by rw [j5₁ b₁ q1₁ q2₁ q3₁ q4₁, b27₁ b₁ q1₁ q5₁ q6₁], fun y₁ q1₁ q2₁ q3₁ q4₁ => by rw [j4₁ y₁ q1₁, y27₁ y₁ q2₁ q3₁ q4₁]⟩
  exact ⟨fun z₁ => by rw [if_neg z₁] at q₁; exact q₁, fun z₁ => by rw [if_pos z₁] at q₁; exact q₁⟩
/-- what book leaves as it was -/
def frBq (m₁ : Nat) (J₁ I₁ : MI) (M₁ L₁ : ML) : Prop := (∀ b₁, b₁ ≠ m₁ → b₁ ≠ m₁ + 2 → b₁ ≠ m₁ + 5 → b₁ ≠ m₁ + 6 → b₁ ≠ m₁ + 7 → b₁ ≠ m₁ + 14 → b₁ ≠ m₁ + 23 → b₁ ≠ m₁ + 24 → J₁ b₁ = I₁ b₁) ∧ (∀ y₁, 13 < y₁ → y₁ ≠ 24 → y₁ ≠ 30 → y₁ ≠ 31 → y₁ ≠ 51 → y₁ ≠ 52 → J₁ m₁ y₁ = I₁ m₁ y₁) ∧ ∀ b₁, b₁ ≠ m₁ → M₁ b₁ = L₁ b₁
theorem r_book {lv₁ : Int32} {Q₁ : Int32 → MI → ML → Prop} (hM₁ : MDL K₁ N₁ R₁ m₁) (hn₁ : I₁ m₁ 2 = nI n₁) (h940 : n₁ ≤ 940) (hB₁ : TAP₁ I₁ (m₁ + 1) B₁ n₁) (hb₁ : ∀ i₁, B₁ i₁ < 256) (e₁ : I₁ m₁ 24 = nI o₁) (ho₁ : o₁ ≤ 8) (hI₁ : I₁ (m₁ + 2) = U₁) (hW₁ : WFU₁ U₁) (hv₁ : WFv₁ U₁ (macV U₁))
    (hno₁ : isInB lv₁ 0 1 = false → Q₁ (-1000) (mup I₁ m₁ 0 0) L₁)
    (hbad : isInB lv₁ 0 1 = true → ∀ k₁ pl₁, pBok B₁ n₁ 400 42 [] 0 = .inl (k₁, pl₁) → ∀ J₁ M₁, J₁ m₁ 10 = nI k₁ → J₁ m₁ 2 = 0 → (∀ b₁, b₁ ≠ m₁ → b₁ ≠ m₁ + 23 → J₁ b₁ = I₁ b₁) → (∀ y₁, 13 < y₁ → y₁ ≠ 51 → J₁ m₁ y₁ = I₁ m₁ y₁) → (∀ b₁, b₁ ≠ m₁ → M₁ b₁ = L₁ b₁) → Q₁ ((-2 : Int32) - nI pl₁) J₁ M₁)
    (hst₁ : isInB lv₁ 0 1 = true → ∀ ls₁, pBok B₁ n₁ 400 42 [] 0 = .inr ls₁ → (lv₁ ≠ 1 ∨ (jgS₁ U₁ ls₁ (macV U₁) 0).2.1 = 0) → ∀ J₁ M₁, J₁ (m₁ + 2) = U₁ → TLDR J₁ m₁ U₁ (jgS₁ U₁ ls₁ (macV U₁) 0).1 (jgS₁ U₁ ls₁ (macV U₁) 0).2.1 (jgS₁ U₁ ls₁ (macV U₁) 0).2.2 → J₁ m₁ 24 = nI o₁ → J₁ (m₁ + 5) = I₁ (m₁ + 5) → J₁ m₁ 10 = 0 → J₁ m₁ 2 = 0 → frBq m₁ J₁ I₁ M₁ L₁ → Q₁ (boA₁ (jgS₁ U₁ ls₁ (macV U₁) 0)) J₁ M₁)
    (hlv₁ : ∀ ls₁, pBok B₁ n₁ 400 42 [] 0 = .inr ls₁ → lv₁ = 1 → (jgS₁ U₁ ls₁ (macV U₁) 0).2.1 ≠ 0 → ∀ J₁ M₁, J₁ (m₁ + 2) = ovr₁ U₁ (jgS₁ U₁ ls₁ (macV U₁) 0).1 → TLDR J₁ m₁ U₁ (jgS₁ U₁ ls₁ (macV U₁) 0).1 (jgS₁ U₁ ls₁ (macV U₁) 0).2.1 (jgS₁ U₁ ls₁ (macV U₁) 0).2.2 → J₁ m₁ 24 = nI (shN₁ o₁) → SH₁ o₁ (I₁ (m₁ + 5)) (macV U₁) (J₁ (m₁ + 5)) → J₁ m₁ 10 = 0 → J₁ m₁ 2 = 0 → frBq m₁ J₁ I₁ M₁ L₁ → Q₁ (boA₁ (jgS₁ U₁ ls₁ (macV U₁) 0)) J₁ M₁) : w_X12_book m₁ lv₁ K₁ N₁ I₁ L₁ R₁ Q₁ := by
  delta w_X12_book
  refine ⟨hM₁.k, fun I2₁ g2₁ => r_isIn ⟨fun h01₁ => ?_, fun z₁ => by rw [g2₁]; exact hno₁ z₁⟩⟩
  have b2₁ : ∀ b₁, b₁ ≠ m₁ → I2₁ b₁ = I₁ b₁ := fun b₁ q₁ => by rw [g2₁, mup_ne q₁]
  have y2₁ : ∀ y₁, y₁ ≠ 0 → I2₁ m₁ y₁ = I₁ m₁ y₁ := fun y₁ q₁ => by rw [g2₁, mup_k q₁]
  refine r_begin (lm₁ := 400) hM₁ hb₁ h940 (fun i₁ hi₁ => by rw [b2₁ _ (by omega)]; exact hB₁ i₁ hi₁) (by rw [y2₁ 2 (by decide)]; exact hn₁) (by decide) (fun I4₁ M4₁ t4₁ e2₁ e10₁ y4₁ b4₁ m4₁ I6₁ g6₁ => ?_)
  have b6₁ : ∀ b₁, b₁ ≠ m₁ → I6₁ b₁ = I₁ b₁ := fun b₁ q₁ => by rw [g6₁, mup_ne q₁, b4₁ b₁ q₁, b2₁ b₁ q₁]
  have y6₁ : ∀ y₁, 13 < y₁ → y₁ ≠ 51 → I6₁ m₁ y₁ = I₁ m₁ y₁ := fun y₁ q1₁ q2₁ => by rw [g6₁, mup_k q2₁, y4₁ y₁ (by omega) (by omega) (by omega) (by omega) (by omega) (by omega) (by omega) (by omega) (by omega) (by omega), y2₁ y₁ (by omega)]
  have t6₁ : TRS₁ I6₁ M4₁ m₁ B₁ n₁ 400 0 := TRS_fr (I₁ := I4₁) ⟨hb₁, h940, by decide, Nat.zero_le _, fun i₁ hi₁ => by rw [b4₁ _ (by omega), b2₁ _ (by omega)]; exact hB₁ i₁ hi₁, t4₁⟩ (by rw [g6₁, mup_ne (by omega)]) (fun y₁ q1₁ q2₁ => by rw [g6₁, mup_k (by omega)]) rfl
  delta w_X12_book_30
  refine ⟨fun n1₁ y0₁ y1₁ I1₁ L1₁ => y0₁ = m₁ ∧ y1₁ = lv₁ ∧ ∃ (p₁ : Nat) (ls₁ : List (Nat × Nat × Nat)), ls₁.length ≤ 40 ∧ n1₁ = 42 - ls₁.length ∧ TRS₁ I1₁ L1₁ m₁ B₁ n₁ 400 p₁ ∧ BKR₁ I1₁ m₁ ls₁ ∧ I1₁ m₁ 10 = 0 ∧ frBr m₁ I1₁ I6₁ L1₁ M4₁ ∧ pBok B₁ n₁ 400 (42 - ls₁.length) ls₁ p₁ = pBok B₁ n₁ 400 42 [] 0, ⟨42, rfl, rfl, 0, [], Nat.zero_le _, rfl, t6₁, ⟨by rw [g6₁, mup_at]; rfl, fun i₁ hi₁ => absurd hi₁ (Nat.not_lt_zero i₁)⟩, by rw [g6₁, mup_k (by decide)]; exact e10₁, frBr_r, rfl⟩, ?_⟩
  rintro n1₁ y0₁ y1₁ I1₁ L1₁ ⟨rfl, rfl, p₁, ls₁, h40₁, rfl, hT₁, hS₁, e0₁, fr₁, hE₁⟩
  obtain ⟨f₁, hf₁⟩ : ∃ f₁, 42 - ls₁.length = f₁ + 1 := ⟨41 - ls₁.length, by omega⟩
  rw [hf₁, pBok] at hE₁
  have k4₁ : I1₁ y0₁ 7 = nI (krS₁ (tkK₁ B₁ n₁ 400 p₁)) := hT₁.2.2.2.2.2.2.2.2.1
  have c2₁ : ∀ J₁ : MI, frBr y0₁ J₁ I6₁ L1₁ M4₁ → J₁ y0₁ 2 = 0 := fun J₁ g₁ => by rw [g₁.2.1 2 (by decide) (by decide), g6₁, mup_k (by decide)]; exact e2₁
  rw [k4₁, show (nI (krS₁ (tkK₁ B₁ n₁ 400 p₁)) = 0) = (nI (krS₁ (tkK₁ B₁ n₁ 400 p₁)) = nI 0) from rfl, kr_eq (j₁ := 0) (k₁ := 0) rfl (by decide)]
  refine ⟨hM₁.k, fun z₁ => ?_, fun z₁ => ?_⟩
  · rw [if_pos z₁] at hE₁
    obtain ⟨l40₁, lw₁⟩ := pBok_w 42 [] 0 ls₁ (Nat.zero_le _) (fun l₁ h₁ => by cases h₁) hE₁.symm
    have U1₁ : I1₁ (y0₁ + 2) = U₁ := by rw [fr₁.1 _ (by omega) (by omega), b6₁ _ (by omega), hI₁]
    refine ⟨_, hM₁.r19, r_save (f₁ := 0) hM₁ (by omega) hM₁.k7 hM₁.n7 (by decide) (by decide) (fun J9₁ s9₁ _ f9₁ => ?_)⟩
    have U9₁ : J9₁ (y0₁ + 2) = U₁ := by rw [f9₁ _ (by omega)]; exact U1₁
    refine r_judge hM₁ (ls₁ := ls₁) ⟨by rw [f9₁ _ (by omega)]; exact hS₁.1, fun i₁ hi₁ => by rw [lnR₁, f9₁ _ (by omega)]; exact hS₁.2 i₁ hi₁⟩ l40₁ lw₁ U9₁ hW₁.1 hW₁.2.1 hv₁ (fun J₁ jU₁ jf₁ => ?_)
    obtain ⟨jv₁, jhi₁, j0₁, jle₁⟩ := jgS_w (ls₁ := ls₁) (V₁ := macV U₁) (i₁ := 0) hW₁.1 hW₁.2.1 hv₁ lw₁
    have hst' := hst₁ h01₁ ls₁ hE₁.symm
    have hlv' := hlv₁ ls₁ hE₁.symm
    generalize hr₁ : jgS₁ U₁ ls₁ (macV U₁) 0 = r₁ at *
    obtain ⟨V'₁, i₁, w₁⟩ := r₁
    have i40₁ : i₁ ≤ 0 + ls₁.length := jle₁
    have bJ₁ : ∀ b₁, b₁ ≠ y0₁ → b₁ ≠ y0₁ + 2 → b₁ ≠ y0₁ + 7 → b₁ ≠ y0₁ + 23 → J₁ b₁ = I₁ b₁ := fun b₁ q1₁ q2₁ q3₁ q4₁ => by rw [jf₁ b₁ q2₁, f9₁ b₁ q3₁, fr₁.1 b₁ q1₁ q4₁, b6₁ b₁ q1₁]
    have eJ₁ : J₁ y0₁ = I1₁ y0₁ := by rw [jf₁ _ (by omega), f9₁ _ (by omega)]
    have yJ₁ : ∀ y₁, 13 < y₁ → y₁ ≠ 51 → J₁ y0₁ y₁ = I₁ y0₁ y₁ := fun y₁ q1₁ q2₁ => by rw [eJ₁, fr₁.2.1 y₁ (by omega) q2₁, y6₁ y₁ q1₁ q2₁]
    have fin₁ : ∀ J2₁, frBw y0₁ J2₁ J₁ → J2₁ y0₁ 10 = 0 ∧ J2₁ y0₁ 2 = 0 ∧ frBq y0₁ J2₁ I₁ L1₁ L₁ := fun J2₁ g₁ => ⟨by rw [g₁.2 10 (by decide) (by decide) (by decide) (by decide), eJ₁]; exact e0₁, by rw [g₁.2 2 (by decide) (by decide) (by decide) (by decide), eJ₁]; exact c2₁ I1₁ fr₁, fun b₁ q1₁ q2₁ q3₁ q4₁ q5₁ q6₁ q7₁ q8₁ => by rw [g₁.1 b₁ q1₁ q2₁ q3₁ q4₁ q6₁ q8₁, bJ₁ b₁ q1₁ q2₁ q5₁ q7₁], fun y₁ q1₁ q2₁ q3₁ q4₁ q5₁ q6₁ => by rw [g₁.2 y₁ q2₁ q3₁ q4₁ q6₁, yJ₁ y₁ q1₁ q5₁], fun b₁ q₁ => by rw [fr₁.2.2 b₁ q₁, m4₁ b₁ q₁]⟩
    refine r_bookTell (V₁ := V'₁) (U₁ := U₁) (o₁ := o₁) hM₁ jU₁ (fun j₁ hj₁ => ?_) hW₁ jv₁ jhi₁ (by rw [yJ₁ 24 (by decide) (by decide)]; exact e₁) ho₁ (by omega) (fun hc₁ J2₁ u2₁ t2₁ c24₁ c5₁ g₁ => ?_) (fun hc₁ hi₁ J2₁ u2₁ t2₁ c24₁ c5₁ g₁ => ?_)
    · rw [jf₁ _ (by omega)]
      have s₁ := s9₁ j₁ hj₁
      rw [U1₁, Nat.zero_add] at s₁
      exact s₁
    · obtain ⟨a1₁, a2₁, a3₁⟩ := fin₁ J2₁ g₁
      have q₁ := hst' hc₁ J2₁ L1₁ u2₁ t2₁ c24₁ (by rw [c5₁, bJ₁ _ (by omega) (by omega) (by omega) (by omega)]) a1₁ a2₁ a3₁
      rw [boA₁] at q₁; exact q₁
    · obtain ⟨a1₁, a2₁, a3₁⟩ := fin₁ J2₁ g₁
      rw [bJ₁ _ (by omega) (by omega) (by omega) (by omega)] at c5₁
      have q₁ := hlv' hc₁ hi₁ J2₁ L1₁ u2₁ t2₁ c24₁ c5₁ a1₁ a2₁ a3₁
      rw [boA₁] at q₁; exact q₁
  rw [if_neg z₁] at hE₁
  have bad₁ : ∀ k₁ pl₁, pBok B₁ n₁ 400 42 [] 0 = .inl (k₁, pl₁) → ∀ J₁ M₁, J₁ y0₁ 10 = nI k₁ → J₁ y0₁ 11 = nI pl₁ → frBr y0₁ J₁ I1₁ M₁ L1₁ → Q₁ ((-2 : Int32) - J₁ y0₁ 11) J₁ M₁ := fun k₁ pl₁ ep₁ J₁ M₁ j10₁ j11₁ g₁ => by
    have g2₁ := frBr_t g₁ fr₁
    rw [j11₁]
    exact hbad h01₁ k₁ pl₁ ep₁ J₁ M₁ j10₁ (by rw [g2₁.2.1 2 (by decide) (by decide), g6₁, mup_k (by decide)]; exact e2₁) (fun b₁ q1₁ q2₁ => by rw [g2₁.1 b₁ q1₁ q2₁, b6₁ b₁ q1₁]) (fun y₁ q1₁ q2₁ => by rw [g2₁.2.1 y₁ (by omega) q2₁, y6₁ y₁ q1₁ q2₁]) (fun b₁ q₁ => by rw [g2₁.2.2 b₁ q₁, m4₁ b₁ q₁])
  refine r_bookLine hM₁ hT₁ hS₁ h40₁ (fun k₁ pl₁ ep₁ J₁ M₁ j10₁ j11₁ g₁ => ⟨fun y₁ => absurd y₁ (by decide), fun _ => bad₁ k₁ pl₁ ?_ J₁ M₁ j10₁ j11₁ g₁⟩) (fun l₁ q₁ ep₁ es₁ J₁ M₁ t₁ j51₁ jl₁ g₁ j10₁ => ⟨fun _ I37₁ g37₁ => ⟨42 - (ls₁.length + 1), by omega, rfl, rfl, tkN₁ B₁ n₁ 400 q₁, ls₁ ++ [l₁], ?_, by rw [List.length_append, List.length_singleton], TRS_fr t₁ (by rw [g37₁, mup_ne (by omega)]) (fun y₁ q1₁ q2₁ => by rw [g37₁, mup_k (by omega)]) rfl, ⟨?_, fun i₁ hi₁ => ?_⟩, by rw [g37₁, mup_k (by decide), j10₁, e0₁], frBr_t ⟨fun b₁ q1₁ q2₁ => by rw [g37₁, mup_ne q1₁], fun y₁ q1₁ q2₁ => by rw [g37₁, mup_k q2₁], fun _ _ => rfl⟩ (frBr_t g₁ fr₁), ?_⟩, fun y₁ => absurd y₁ (by decide)⟩)
  · rcases ep₁ with ep₁ | ⟨l₁, q₁, ep₁, es₁, rfl, rfl⟩
    · rw [ep₁] at hE₁
      exact hE₁.symm
    · rw [ep₁] at hE₁
      simp only [es₁, Bool.false_eq_true, if_false] at hE₁
      exact hE₁.symm
  · have l40₁ := (pBkL_w ep₁).2
    rw [List.length_append, List.length_singleton]; omega
  · rw [g37₁, mup_at, j51₁, nI_1, List.length_append, List.length_singleton]
  · rw [List.length_append, List.length_singleton] at hi₁
    rw [lnR₁, g37₁, mup_ne (by omega)]
    exact jl₁ i₁ hi₁
  · rw [ep₁] at hE₁
    simp only [es₁, if_true] at hE₁
    rw [List.length_append, List.length_singleton, show 42 - (ls₁.length + 1) = f₁ by omega]
    exact hE₁
end BR₁
