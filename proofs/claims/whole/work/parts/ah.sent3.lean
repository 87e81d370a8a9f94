/-! ===== sentence: both sides ===== -/
section SC₁
variable {K₁ N₁ : MK} {I₁ : MI} {L₁ : ML} {R₁ : MR} {x₁ n₁ sc₁ : Nat} {B₁ : Nat → Nat} {NM₁ : Nat → List Nat}
theorem s_sentence {Q₁ : Int32 → MI → ML → Prop} (hX₁ : PDL K₁ N₁ R₁ x₁) (hb₁ : ∀ i₁, B₁ i₁ < 256) (h940 : n₁ ≤ 940) (hB₁ : TAP₁ I₁ (x₁ + 2) B₁ n₁) (hn₁ : I₁ (x₁ + 1) 1 = nI n₁) (hN₁ : NMC₁ I₁ L₁ x₁ NM₁ sc₁)
    (hbad : ∀ e₁ pl₁, pSen B₁ n₁ 200 NM₁ sc₁ = .inl (e₁, pl₁) → 1 ≤ e₁ → e₁ ≤ 5 → ∀ J₁ M₁, J₁ (x₁ + 1) 10 = nI e₁ → J₁ (x₁ + 1) 1 = 0 → frSn x₁ J₁ I₁ M₁ L₁ → Q₁ ((-1 : Int32) - nI pl₁) J₁ M₁)
    (hok₁ : ∀ l₁ k₁, pSen B₁ n₁ 200 NM₁ sc₁ = .inr (l₁, k₁) → ∀ J₁ M₁, SED₁ J₁ (x₁ + 31) l₁ → J₁ (x₁ + 1) 10 = 0 → J₁ (x₁ + 1) 1 = 0 → (∀ b₁, b₁ ≠ x₁ + 1 → b₁ < x₁ + 31 ∨ x₁ + 34 < b₁ → b₁ < x₁ + 53 ∨ x₁ + 57 < b₁ → J₁ b₁ = I₁ b₁) → (∀ b₁, b₁ ≠ x₁ + 1 → M₁ b₁ = L₁ b₁) → Q₁ (nI k₁) J₁ M₁) : w_X11_sentence x₁ K₁ N₁ I₁ L₁ R₁ Q₁ := by
  delta w_X11_sentence
  refine ⟨hX₁.k, _, hX₁.r_sentenceReader, _, hX₁.r_tokens, _, hX₁.r_unit, hX₁.srd, s_readSentence hX₁ hb₁ h940 hB₁ hn₁ hN₁ (fun e₁ pl₁ he₁ r₁ J₁ M₁ j10₁ j11₁ fr₁ => ⟨hX₁.tok, fun I10₁ g10₁ => ?_⟩) (fun l₁ k₁ he₁ J₁ M₁ sd₁ j10₁ fr₁ => ⟨hX₁.tok, fun I10₁ g10₁ => ?_⟩)⟩
  · obtain ⟨b1₁, b5₁⟩ := pSen_bd he₁
    have a10₁ : I10₁ (x₁ + 1) 10 = nI e₁ := by rw [g10₁, mup_k (by decide)]; exact j10₁
    have a11₁ : I10₁ (x₁ + 1) 11 = nI pl₁ := by rw [g10₁, mup_k (by decide)]; exact j11₁
    rw [a10₁, a11₁]
    refine ⟨fun z₁ => ?_, fun _ => hbad e₁ pl₁ he₁ b1₁ b5₁ I10₁ M₁ a10₁ (by rw [g10₁, mup_at]) ⟨fun b₁ q1₁ q2₁ => by rw [g10₁, mup_ne q1₁]; exact fr₁.1 b₁ q1₁ q2₁, fr₁.2⟩⟩
    rw [show (0 : Int32) = nI 0 from rfl, eqN (by omega) (by omega)] at z₁; omega
  · have a10₁ : I10₁ (x₁ + 1) 10 = 0 := by rw [g10₁, mup_k (by decide)]; exact j10₁
    rw [a10₁]
    refine ⟨fun _ => ⟨_, hX₁.r_sentence, _, hX₁.srd_r, hX₁.sen.1, s_scopy hX₁.sen hX₁.srd_s (SED_fr sd₁ (fun b₁ q1₁ q2₁ => by rw [g10₁, mup_ne (by omega)])) (by omega) (fun J2₁ d2₁ f2₁ => hok₁ l₁ k₁ he₁ J2₁ M₁ d2₁ (by rw [f2₁ _ (by omega) (by omega) (by omega) (by omega)]; exact a10₁) (by rw [f2₁ _ (by omega) (by omega) (by omega) (by omega), g10₁, mup_at]) (fun b₁ q1₁ q2₁ q3₁ => by rw [f2₁ b₁ (by omega) (by omega) (by omega) (by omega), g10₁, mup_ne q1₁]; exact fr₁.1 b₁ q1₁ q3₁) fr₁.2)⟩, fun z₁ => absurd rfl z₁⟩
end SC₁
section RS₁
variable {K₁ N₁ : MK} {I₁ : MI} {L₁ : ML} {R₁ : MR} {m₁ n₁ sc₁ : Nat} {B₁ : Nat → Nat} {NM₁ : Nat → List Nat}
/-- the sentence read stands in now -/
theorem r_sentEnd {k₁ : Nat} {T₁ : Nat → Int32} {Q₁ : Int32 → MI → ML → Prop} (hM₁ : MDL K₁ N₁ R₁ m₁) (h55₁ : I₁ m₁ 55 = nI k₁) (hT₁ : ∀ y₁, y₁ < 240 → I₁ (m₁ + 25) y₁ = T₁ y₁)
    (h₁ : ∀ J₁, (∀ y₁, y₁ < 427 ∨ 667 ≤ y₁ → J₁ (m₁ + 2) y₁ = I₁ (m₁ + 2) y₁) → (∀ y₁, y₁ < 240 → J₁ (m₁ + 2) (427 + y₁) = T₁ y₁) → (∀ b₁, b₁ ≠ m₁ + 2 → J₁ b₁ = I₁ b₁) → Q₁ (nI k₁) J₁ L₁) : w_X12_sentence_79 m₁ 0 K₁ N₁ I₁ L₁ R₁ Q₁ := by
  delta w_X12_sentence_79
  refine ⟨fun n1₁ y0₁ y1₁ I1₁ L1₁ => y0₁ = m₁ ∧ L1₁ = L₁ ∧ ∃ i₁, i₁ ≤ 240 ∧ n1₁ = 240 - i₁ ∧ y1₁ = nI i₁ ∧ (∀ y₁, y₁ < 427 ∨ 427 + i₁ ≤ y₁ → I1₁ (m₁ + 2) y₁ = I₁ (m₁ + 2) y₁) ∧ (∀ y₁, y₁ < i₁ → I1₁ (m₁ + 2) (427 + y₁) = T₁ y₁) ∧ (∀ b₁, b₁ ≠ m₁ + 2 → I1₁ b₁ = I₁ b₁), ⟨240, rfl, rfl, 0, by omega, rfl, rfl, fun _ _ => rfl, fun y₁ hy₁ => absurd hy₁ (Nat.not_lt_zero y₁), fun _ _ => rfl⟩, ?_⟩
  rintro n1₁ y0₁ y1₁ I1₁ L1₁ ⟨e0₁, e1₁, i₁, hi₁, e2₁, e3₁, c1₁, c2₁, c3₁⟩
  subst e0₁ e1₁ e2₁ e3₁
  rw [show (240 : Int32) = nI 240 from rfl, leN (by omega) (by omega)]
  refine ⟨fun q₁ => ⟨hM₁.k, ?_⟩, fun q₁ => ⟨hM₁.k, _, hM₁.r14, _, hM₁.r53, hM₁.k25, by rw [hM₁.n25]; exact (vp_nI (by omega)).mpr (by omega), hM₁.k2, ?_⟩⟩
  · have i240 : i₁ = 240 := by omega
    subst i240
    rw [c3₁ _ (by omega), h55₁]
    exact h₁ I1₁ (fun y₁ hy₁ => c1₁ y₁ (by omega)) c2₁ c3₁
  · rw [show (427 : Int32) = nI 427 from rfl, addN]
    refine ⟨by rw [hM₁.n2]; exact (vp_nI (by omega)).mpr (by omega), fun I24₁ g24₁ v25₁ g25₁ => ⟨240 - (i₁ + 1), by omega, rfl, rfl, i₁ + 1, by omega, rfl, by rw [g25₁, nI_1], fun y₁ hy₁ => ?_, fun y₁ hy₁ => ?_, fun b₁ hb₁ => ?_⟩⟩
    · rw [ix_nI (by omega)] at g24₁
      rw [g24₁, mup_k (by omega)]; exact c1₁ y₁ (by omega)
    · rw [ix_nI (by omega), ix_nI (by omega)] at g24₁
      by_cases q2₁ : y₁ = i₁
      · rw [g24₁, q2₁, mup_at, c3₁ _ (by omega)]; exact hT₁ i₁ (by omega)
      · rw [g24₁, mup_k (by omega)]; exact c2₁ y₁ (by omega)
    · rw [g24₁, mup_ne hb₁]; exact c3₁ b₁ hb₁
/-- what sentence leaves as it was -/
def frSq (m₁ : Nat) (J₁ I₁ : MI) (M₁ L₁ : ML) : Prop := (∀ b₁, b₁ ≠ m₁ → b₁ ≠ m₁ + 2 → b₁ ≠ m₁ + 25 → J₁ b₁ = I₁ b₁) ∧ (∀ y₁, 13 < y₁ → y₁ ≠ 54 → y₁ ≠ 55 → y₁ ≠ 56 → y₁ ≠ 57 → J₁ m₁ y₁ = I₁ m₁ y₁) ∧ ∀ b₁, b₁ ≠ m₁ → M₁ b₁ = L₁ b₁
theorem r_sentence {Q₁ : Int32 → MI → ML → Prop} (hM₁ : MDL K₁ N₁ R₁ m₁) (hb₁ : ∀ i₁, B₁ i₁ < 256) (h940 : n₁ ≤ 940) (hB₁ : TAP₁ I₁ (m₁ + 1) B₁ n₁) (hn₁ : I₁ m₁ 2 = nI n₁) (hN₁ : NMN₁ I₁ L₁ m₁ NM₁ sc₁)
    (hbad : ∀ e₁ pl₁, pSen B₁ n₁ 200 NM₁ sc₁ = .inl (e₁, pl₁) → ∀ J₁ M₁, J₁ m₁ 10 = nI e₁ → J₁ m₁ 2 = 0 → J₁ (m₁ + 2) = I₁ (m₁ + 2) → frSq m₁ J₁ I₁ M₁ L₁ → Q₁ ((-1 : Int32) - nI pl₁) J₁ M₁)
    (hok₁ : ∀ l₁ k₁, pSen B₁ n₁ 200 NM₁ sc₁ = .inr (l₁, k₁) → ∀ J₁ M₁ t₁, (∀ y₁, y₁ < 425 ∨ 667 ≤ y₁ → J₁ (m₁ + 2) y₁ = I₁ (m₁ + 2) y₁) → J₁ (m₁ + 2) 425 = 1 → J₁ (m₁ + 2) 426 = nI t₁ → t₁ < 40 → trE₁ (fun y₁ => J₁ (m₁ + 2) (427 + y₁)) (t₁ + 1) l₁ t₁ → J₁ m₁ 10 = 0 → J₁ m₁ 2 = 0 → frSq m₁ J₁ I₁ M₁ L₁ → Q₁ (nI k₁) J₁ M₁) : w_X12_sentence m₁ K₁ N₁ I₁ L₁ R₁ Q₁ := by
  delta w_X12_sentence
  refine ⟨hM₁.k, r_begin (lm₁ := 200) hM₁ hb₁ h940 hB₁ hn₁ (by decide) (fun J1₁ M1₁ t1₁ e2₁ e10₁ y1₁ b1₁ l1₁ I4₁ g4₁ I5₁ g5₁ I6₁ g6₁ => ?_)⟩
  have y6₁ : ∀ y₁, y₁ ≠ 54 → y₁ ≠ 55 → y₁ ≠ 56 → I6₁ m₁ y₁ = J1₁ m₁ y₁ := fun y₁ q1₁ q2₁ q3₁ => by rw [g6₁, mup_k q3₁, g5₁, mup_k q2₁, g4₁, mup_k q1₁]
  have b6₁ : ∀ b₁, b₁ ≠ m₁ → I6₁ b₁ = I₁ b₁ := fun b₁ q₁ => by rw [g6₁, mup_ne q₁, g5₁, mup_ne q₁, g4₁, mup_ne q₁, b1₁ b₁ q₁]
  have s6₁ : SRN₁ I6₁ M1₁ m₁ B₁ n₁ 0 0 0 8 := ⟨TRS_fr (I₁ := J1₁) ⟨hb₁, h940, by decide, Nat.zero_le _, fun i₁ hi₁ => by rw [b1₁ _ (by omega)]; exact hB₁ i₁ hi₁, t1₁⟩ (by rw [b6₁ _ (by omega), b1₁ _ (by omega)]) (fun y₁ _ _ => y6₁ y₁ (by omega) (by omega) (by omega)) rfl, by rw [g6₁, mup_k (by decide), g5₁, mup_k (by decide), g4₁, mup_at]; rfl, by rw [g6₁, mup_k (by decide), g5₁, mup_at]; rfl, by rw [g6₁, mup_at]; rfl⟩
  have hN6₁ : NMN₁ I6₁ M1₁ m₁ NM₁ sc₁ := ⟨by rw [b6₁ _ (by omega)]; exact hN₁.1, hN₁.2.1, hN₁.2.2.1, fun j₁ hj₁ => by rw [l1₁ _ (by omega)]; exact hN₁.2.2.2 j₁ hj₁⟩
  have fq₁ : ∀ {J₁ : MI} {M₁ : ML}, frSr m₁ J₁ I6₁ M₁ M1₁ → frSq m₁ J₁ I₁ M₁ L₁ ∧ J₁ m₁ 2 = 0 ∧ J₁ (m₁ + 2) = I₁ (m₁ + 2) := fun g₁ => ⟨⟨fun b₁ q1₁ _ q3₁ => by rw [g₁.1 b₁ q1₁ q3₁, b6₁ b₁ q1₁], fun y₁ q1₁ q2₁ q3₁ q4₁ q5₁ => by rw [g₁.2.1 y₁ (by omega) q2₁ q3₁ q4₁ q5₁, y6₁ y₁ q2₁ q3₁ q4₁, y1₁ y₁ (by omega) (by omega) (by omega) (by omega) (by omega) (by omega) (by omega) (by omega) (by omega) (by omega)], fun b₁ q₁ => by rw [g₁.2.2 b₁ q₁, l1₁ b₁ q₁]⟩, by rw [g₁.2.1 2 (by decide) (by decide) (by decide) (by decide) (by decide), y6₁ 2 (by decide) (by decide) (by decide)]; exact e2₁, by rw [g₁.1 _ (by omega) (by omega), b6₁ _ (by omega)]⟩
  have sp₁ : pSen B₁ n₁ 200 NM₁ sc₁ = match pCon B₁ n₁ 200 (pOneD B₁ n₁ 200 NM₁ sc₁ 8) 0 0 with
    | .inl e₁ => .inl e₁
    | .inr (l₁, k₁, p₁) => if tkK₁ B₁ n₁ 200 p₁ = 0 then .inr (l₁, k₁) else .inl (1, tkS₁ B₁ n₁ 200 p₁) := rfl
  rw [sp₁] at hbad hok₁
  delta wc_X12_readOr
  refine r_or hM₁ (r_and hM₁ (r_saidD hM₁ 10 8 (by decide) (by decide)) (pOneD_ok 8)) (allP_ok (pOneD_ok 8)) I6₁ M1₁ 0 0 0 _ s6₁ hN6₁ (by decide) (by decide) (fun e₁ pl₁ he₁ J₁ M₁ j10₁ j11₁ f₁ => ⟨fun y₁ => absurd y₁ (by decide), fun _ => ?_⟩) (fun l₁ k₁ p₁ he₁ J₁ M₁ t₁ s2₁ j57₁ ht₁ tr₁ c2₁ j10₁ f₁ => ⟨fun _ => ?_, fun y₁ => absurd y₁ (by decide)⟩)
  · obtain ⟨a1₁, a2₁, a3₁⟩ := fq₁ f₁
    rw [j11₁]
    exact hbad e₁ pl₁ (by rw [he₁]) J₁ M₁ j10₁ a2₁ a3₁ a1₁
  rw [he₁] at hbad hok₁
  obtain ⟨o1₁, o2₁, o3₁⟩ := pCon_ok (pOneD_ok 8) _ _ _ _ _ (by decide) he₁
  obtain ⟨a1₁, a2₁, a3₁⟩ := fq₁ f₁
  have k7₁ : J₁ m₁ 7 = nI (krS₁ (tkK₁ B₁ n₁ 200 p₁)) := s2₁.1.2.2.2.2.2.2.2.2.1
  rw [k7₁, show (nI (krS₁ (tkK₁ B₁ n₁ 200 p₁)) = 0) = (nI (krS₁ (tkK₁ B₁ n₁ 200 p₁)) = nI 0) from rfl, kr_eq (j₁ := 0) (k₁ := 0) rfl (by decide)]
  refine ⟨fun z₁ => ⟨_, hM₁.r14, hM₁.k2, by rw [hM₁.n2]; exact vp_c (by decide) (by decide), fun I13₁ g13₁ => ⟨by rw [hM₁.n2]; exact vp_c (by decide) (by decide), fun I15₁ g15₁ => ?_⟩⟩, fun z₁ => r_bad (k₁ := 1) hM₁ s2₁.1 (fun _ => rfl) (fun J3₁ f3₁ => ?_)⟩
  · rw [show ix (425 : Int32) = 425 from rfl] at g13₁
    rw [show ix (426 : Int32) = 426 from rfl, g13₁, mup_ne (by omega), j57₁, ← g13₁] at g15₁
    have b15₁ : ∀ b₁, b₁ ≠ m₁ + 2 → I15₁ b₁ = J₁ b₁ := fun b₁ q₁ => by rw [g15₁, mup_ne q₁, g13₁, mup_ne q₁]
    have n2₁ : ∀ y₁, y₁ ≠ 425 → y₁ ≠ 426 → I15₁ (m₁ + 2) y₁ = I₁ (m₁ + 2) y₁ := fun y₁ q1₁ q2₁ => by rw [g15₁, mup_k q2₁, g13₁, mup_k q1₁, a3₁]
    refine r_sentEnd (T₁ := fun y₁ => J₁ (m₁ + 25) y₁) hM₁ (by rw [b15₁ _ (by omega)]; exact s2₁.2.2.1) (fun y₁ _ => by rw [b15₁ _ (by omega)]) (fun J4₁ c4₁ d4₁ f4₁ => ?_)
    refine hok₁ l₁ k₁ (by simp only [z₁, if_true]) J4₁ M₁ t₁ (fun y₁ hy₁ => by rw [c4₁ y₁ (by omega), n2₁ y₁ (by omega) (by omega)]) (by rw [c4₁ _ (by omega), g15₁, mup_k (by decide), g13₁, mup_at]) (by rw [c4₁ _ (by omega), g15₁, mup_at]) (by omega) (trE_fr _ _ _ (fun y₁ hy₁ => d4₁ y₁ (by omega)) tr₁) ?_ ?_ ⟨fun b₁ q1₁ q2₁ q3₁ => by rw [f4₁ b₁ q2₁, b15₁ b₁ q2₁, a1₁.1 b₁ q1₁ q2₁ q3₁], fun y₁ q1₁ q2₁ q3₁ q4₁ q5₁ => by rw [f4₁ _ (by omega), b15₁ _ (by omega), a1₁.2.1 y₁ q1₁ q2₁ q3₁ q4₁ q5₁], a1₁.2.2⟩
    · rw [f4₁ _ (by omega), b15₁ _ (by omega), j10₁, y6₁ 10 (by decide) (by decide) (by decide)]; exact e10₁
    · rw [f4₁ _ (by omega), b15₁ _ (by omega)]; exact a2₁
  · obtain ⟨a4₁, a5₁, a6₁⟩ := fq₁ (frSr_t (frSr_f f3₁) f₁)
    rw [f3₁.2.1]
    exact hbad 1 _ (by simp only [z₁, if_false]) J3₁ M₁ f3₁.1 a5₁ a6₁ a4₁
end RS₁
