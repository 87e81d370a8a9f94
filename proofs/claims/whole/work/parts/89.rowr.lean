/-! ===== a 'size' line, a 'row' line: the reference ===== -/
def DSR₁ (I₁ : MI) (L₁ : ML) (m₁ : Nat) (B₁ : Nat → Nat) (n₁ lm₁ : Nat) (U₁ : Nat → Int32) (NM₁ : Nat → List Nat) (p₁ : Nat) : Prop := TRS₁ I₁ L₁ m₁ B₁ n₁ lm₁ p₁ ∧ I₁ (m₁ + 3) = U₁ ∧ NRF₁ L₁ (m₁ + 9) U₁ NM₁
def frQ₁ (m₁ : Nat) (J₁ I₁ : MI) (M₁ L₁ : ML) : Prop := (∀ b₁, b₁ ≠ m₁ → b₁ ≠ m₁ + 3 → J₁ b₁ = I₁ b₁) ∧ (∀ b₁, b₁ ≠ m₁ → b₁ ≠ m₁ + 9 → M₁ b₁ = L₁ b₁) ∧ ∀ y₁, y₁ ≠ 5 → y₁ ≠ 6 → y₁ ≠ 7 → y₁ ≠ 8 → y₁ ≠ 9 → y₁ ≠ 10 → y₁ ≠ 11 → y₁ ≠ 13 → y₁ ≠ 25 → J₁ m₁ y₁ = I₁ m₁ y₁
def flQ₁ (m₁ k₁ pl₁ : Nat) (J₁ : MI) : Prop := J₁ m₁ 10 = nI k₁ ∧ J₁ m₁ 11 = nI pl₁
section RG₁
variable {K₁ N₁ : MK} {I₁ : MI} {L₁ : ML} {R₁ : MR} {n₁ lm₁ p₁ m₁ : Nat} {B₁ : Nat → Nat} {U₁ : Nat → Int32} {NM₁ : Nat → List Nat}
theorem frQ_r : frQ₁ m₁ I₁ I₁ L₁ L₁ := ⟨fun _ _ _ => rfl, fun _ _ _ => rfl, fun _ _ _ _ _ _ _ _ _ _ => rfl⟩
theorem frQ_t {J₁ J'₁ : MI} {M₁ M'₁ : ML} (h₁ : frQ₁ m₁ J'₁ J₁ M'₁ M₁) (h2₁ : frQ₁ m₁ J₁ I₁ M₁ L₁) : frQ₁ m₁ J'₁ I₁ M'₁ L₁ := ⟨fun b₁ q1₁ q2₁ => by rw [h₁.1 b₁ q1₁ q2₁, h2₁.1 b₁ q1₁ q2₁], fun b₁ q1₁ q2₁ => by rw [h₁.2.1 b₁ q1₁ q2₁, h2₁.2.1 b₁ q1₁ q2₁], fun y₁ a1₁ a2₁ a3₁ a4₁ a5₁ a6₁ a7₁ a8₁ a9₁ => by rw [h₁.2.2 y₁ a1₁ a2₁ a3₁ a4₁ a5₁ a6₁ a7₁ a8₁ a9₁, h2₁.2.2 y₁ a1₁ a2₁ a3₁ a4₁ a5₁ a6₁ a7₁ a8₁ a9₁]⟩
theorem frQ_V {J₁ : MI} {M₁ : ML} (h₁ : frV₁ m₁ J₁ I₁ M₁ L₁) : frQ₁ m₁ J₁ I₁ M₁ L₁ := ⟨fun b₁ q1₁ _ => h₁.1 b₁ q1₁, fun b₁ q1₁ _ => h₁.2.2 b₁ q1₁, fun y₁ a1₁ a2₁ a3₁ a4₁ a5₁ _ _ _ _ => h₁.2.1 y₁ a1₁ a2₁ a3₁ a4₁ a5₁⟩
theorem frQ_f {J₁ : MI} {k₁ pl₁ : Nat} (h₁ : flR₁ m₁ k₁ pl₁ J₁ I₁) : frQ₁ m₁ J₁ I₁ L₁ L₁ := ⟨fun b₁ q1₁ _ => h₁.2.2.1 b₁ q1₁, fun _ _ _ => rfl, fun y₁ _ _ _ _ _ a6₁ a7₁ _ _ => h₁.2.2.2 y₁ a6₁ a7₁⟩
theorem frQ_13 {v₁ : Int32} : frQ₁ m₁ (mup I₁ m₁ 13 v₁) I₁ L₁ L₁ := ⟨fun b₁ q1₁ _ => mup_ne q1₁, fun _ _ _ => rfl, fun y₁ _ _ _ _ _ _ _ a8₁ _ => mup_k a8₁⟩
theorem flQ_f {J₁ : MI} {k₁ pl₁ : Nat} (h₁ : flR₁ m₁ k₁ pl₁ J₁ I₁) : flQ₁ m₁ k₁ pl₁ J₁ := ⟨h₁.1, h₁.2.1⟩
theorem frV_10 {J₁ : MI} {M₁ : ML} (h₁ : frV₁ m₁ J₁ I₁ M₁ L₁) : J₁ m₁ 10 = I₁ m₁ 10 := h₁.2.1 10 (by decide) (by decide) (by decide) (by decide) (by decide)
theorem NRF_fr {M₁ : ML} {b₁ : Nat} (h₁ : NRF₁ L₁ b₁ U₁ NM₁) (e₁ : M₁ b₁ = L₁ b₁) : NRF₁ M₁ b₁ U₁ NM₁ := by rw [NRF₁, e₁]; exact h₁
theorem NRF_cg {b₁ : Nat} {U'₁ : Nat → Int32} (h₁ : NRF₁ L₁ b₁ U₁ NM₁) (e2₁ : U'₁ 2 = U₁ 2) (e3₁ : U'₁ 3 = U₁ 3) (e4₁ : U'₁ 4 = U₁ 4) : NRF₁ L₁ b₁ U'₁ NM₁ := by rw [NRF₁, e2₁, e3₁, e4₁]; exact h₁
theorem r_readFirst {a₁ b₁ c₁ : Nat} {Q₁ : Bool → MI → ML → Prop} (hM₁ : MDL K₁ N₁ R₁ m₁) (hT₁ : TRS₁ I₁ L₁ m₁ B₁ n₁ lm₁ p₁) (ha₁ : a₁ < 342) (e₁ : I₁ (m₁ + 3) a₁ = nI c₁) (hc₁ : c₁ < 1000) (hb₁ : b₁ < 1000) (hk₁ : tkK₁ B₁ n₁ lm₁ p₁ = 1)
    (h1₁ : c₁ = b₁ → ∀ J₁, flR₁ m₁ 4 (tkS₁ B₁ n₁ lm₁ p₁) J₁ I₁ → Q₁ false J₁ L₁) (h0₁ : c₁ ≠ b₁ → ∀ J₁ M₁, TRS₁ J₁ M₁ m₁ B₁ n₁ lm₁ (tkN₁ B₁ n₁ lm₁ p₁) → frV₁ m₁ J₁ I₁ M₁ L₁ → Q₁ true J₁ M₁) : w_X12_readFirst m₁ (nI a₁) (nI b₁) K₁ N₁ I₁ L₁ R₁ Q₁ := by
  refine ⟨hM₁.k, _, hM₁.r15, hM₁.k3, by rw [hM₁.n3]; exact (vp_nI (by omega)).mpr (by omega), ?_⟩
  rw [ix_nI (by omega), e₁, eqN (by omega) (by omega)]
  exact ⟨fun z₁ => r_next hM₁ hT₁ (h0₁ z₁), fun z₁ => r_bad (k₁ := 4) hM₁ hT₁ (fun w₁ => by omega) (h1₁ z₁)⟩
theorem r_readSize {lines : Nat} {Q₁ : Bool → MI → ML → Prop} (hM₁ : MDL K₁ N₁ R₁ m₁) (hS₁ : DSR₁ I₁ L₁ m₁ B₁ n₁ lm₁ U₁ NM₁ p₁) (hl2₁ : lines < 1000) (hk₁ : tkK₁ B₁ n₁ lm₁ p₁ = 1)
    (hbad : ∀ k₁ pl₁, pSize B₁ n₁ lm₁ lines U₁ NM₁ p₁ = .inl (k₁, pl₁) → ∀ J₁ M₁, flQ₁ m₁ k₁ pl₁ J₁ → frQ₁ m₁ J₁ I₁ M₁ L₁ → Q₁ false J₁ M₁)
    (hok₁ : ∀ U'₁ NM'₁ p'₁, pSize B₁ n₁ lm₁ lines U₁ NM₁ p₁ = .inr (U'₁, NM'₁, p'₁) → ∀ J₁ M₁, DSR₁ J₁ M₁ m₁ B₁ n₁ lm₁ U'₁ NM'₁ p'₁ → frQ₁ m₁ J₁ I₁ M₁ L₁ → J₁ m₁ 10 = I₁ m₁ 10 → Q₁ true J₁ M₁) : w_X12_readSize m₁ (nI lines) K₁ N₁ I₁ L₁ R₁ Q₁ := by
  obtain ⟨hT₁, hI₁, hN₁⟩ := hS₁
  delta w_X12_readSize
  rw [show (0 : Int32) = nI 0 from rfl, leN (by omega) (by omega)]
  refine ⟨fun z₁ => ⟨hM₁.k, r_next hM₁ hT₁ (fun J1₁ M1₁ t1₁ f1₁ => r_readNumber (lo₁ := 1) (hi₁ := 256) hM₁ t1₁ (by decide) (by decide) (fun e0₁ k2₁ v1₁ v2₁ J2₁ M2₁ t2₁ e13₁ f2₁ => r_putU hM₁ (by decide) (fun J3₁ g3₁ => ?_)) (fun e1₁ J2₁ f2₁ => r_putN ?_))⟩, fun z₁ => ⟨hM₁.k, r_bad (k₁ := 3) hM₁ hT₁ (fun w₁ => by omega) (fun J₁ f₁ => ?_)⟩⟩
  · rw [e13₁] at g3₁
    refine hok₁ _ _ _ (by rw [pSize, if_neg (by omega), if_neg (fun q₁ => q₁ e0₁)]) J3₁ M2₁ ⟨TRS_fr t2₁ (by rw [g3₁, mup_ne (by omega)]) (fun y₁ _ _ => by rw [g3₁, mup_ne (by omega)]) rfl, ?_, ?_⟩ (frQ_t (frQ_t ?_ (frQ_V f2₁)) (frQ_t frQ_13 (frQ_V f1₁))) ?_
    · rw [g3₁, mup_vst, f2₁.1 _ (by omega), mup_ne (by omega), f1₁.1 _ (by omega), hI₁]
    · exact NRF_cg (NRF_fr hN₁ (by rw [f2₁.2.2 _ (by omega), f1₁.2.2 _ (by omega)])) (vst_n (by decide)) (vst_n (by decide)) (vst_n (by decide))
    · exact ⟨fun b₁ q1₁ q2₁ => by rw [g3₁, mup_ne q2₁], fun _ _ _ => rfl, fun y₁ _ _ _ _ _ _ _ _ _ => by rw [g3₁, mup_ne (by omega)]⟩
    · rw [g3₁, mup_ne (by omega), frV_10 f2₁, mup_k (by decide), frV_10 f1₁]
  · exact hbad _ _ (by rw [pSize, if_neg (by omega), if_pos e1₁]) J2₁ M1₁ (flQ_f f2₁) (frQ_t (frQ_f f2₁) (frQ_V f1₁))
  · exact hbad _ _ (by rw [pSize, if_pos (by omega)]) J₁ L₁ (flQ_f f₁) (frQ_f f₁)
/-- rows shifted up from k on -/
def shU₁ (U₁ : Nat → Int32) (k₁ n₁ : Nat) (j₁ : Nat) : Int32 := if 6 + k₁ < j₁ ∧ j₁ ≤ 6 + n₁ then U₁ (j₁ - 1) else if 36 + k₁ < j₁ ∧ j₁ ≤ 36 + n₁ then U₁ (j₁ - 1) else U₁ j₁
theorem r_insert {q₁ n1₁ : Nat} {a₁ l₁ : Int32} {Q₁ : Bool → MI → ML → Prop} (hM₁ : MDL K₁ N₁ R₁ m₁) (hI₁ : I₁ (m₁ + 3) = U₁) (h1₁ : U₁ 1 = nI n1₁) (hq₁ : q₁ ≤ n1₁) (hn₁ : n1₁ ≤ 29) (e13₁ : I₁ m₁ 13 = l₁)
    (h₁ : ∀ J₁, J₁ (m₁ + 3) = insU U₁ q₁ n1₁ a₁ l₁ → (∀ b₁, b₁ ≠ m₁ + 3 → J₁ b₁ = I₁ b₁) → Q₁ true J₁ L₁) : w_X12_readRow_123 m₁ (nI q₁) a₁ (nI n1₁) K₁ N₁ I₁ L₁ R₁ Q₁ := by
  delta w_X12_readRow_123
  refine ⟨fun s1₁ y0₁ y1₁ y2₁ y3₁ I1₁ L1₁ => y0₁ = m₁ ∧ y1₁ = nI q₁ ∧ y2₁ = a₁ ∧ L1₁ = L₁ ∧ ∃ k₁, q₁ ≤ k₁ ∧ k₁ ≤ n1₁ ∧ s1₁ = k₁ ∧ y3₁ = nI k₁ ∧ I1₁ (m₁ + 3) = shU₁ U₁ k₁ n1₁ ∧ (∀ b₁, b₁ ≠ m₁ + 3 → I1₁ b₁ = I₁ b₁), ⟨n1₁, rfl, rfl, rfl, rfl, n1₁, hq₁, Nat.le_refl _, rfl, rfl, ?_, fun _ _ => rfl⟩, ?_⟩
  · rw [hI₁]
    funext j₁
    rw [shU₁, if_neg (by omega), if_neg (by omega)]
  rintro s1₁ y0₁ y1₁ y2₁ y3₁ I1₁ L1₁ ⟨rfl, rfl, rfl, rfl, k₁, hk₁, hk2₁, rfl, rfl, hS₁, f1₁⟩
  rw [leN (by omega) (by omega)]
  refine ⟨fun z₁ => ⟨hM₁.k, _, hM₁.r15, hM₁.k3, by rw [hM₁.n3]; exact vp_cn (by omega) (by decide), fun I33₁ g33₁ => ⟨by rw [hM₁.n3]; exact vp_cn (by omega) (by decide), fun I35₁ g35₁ => ⟨by rw [hM₁.n3]; exact vp_c (by decide) (by decide), fun I37₁ g37₁ => h₁ I37₁ ?_ (fun b₁ hb₁ => by rw [g37₁, mup_ne hb₁, g35₁, mup_ne hb₁, g33₁, mup_ne hb₁, f1₁ b₁ hb₁])⟩⟩⟩, fun z₁ => ⟨hM₁.k, _, hM₁.r15, hM₁.k3, ?_⟩⟩
  · have ek₁ : s1₁ = q₁ := by omega
    subst ek₁
    rw [ix_cn (by omega)] at g33₁ g35₁
    have a13₁ : I33₁ y0₁ 13 = l₁ := by rw [g33₁, mup_ne (by omega), f1₁ _ (by omega)]; exact e13₁
    rw [a13₁] at g35₁
    have v1₁ : I35₁ (y0₁ + 3) (ix 1) = nI n1₁ := by
      rw [show ix (1 : Int32) = 1 from rfl, g35₁, mup_k (by omega), g33₁, mup_k (by omega), hS₁, shU₁, if_neg (by omega), if_neg (by omega)]; exact h1₁
    rw [v1₁, nI_1, show ix (1 : Int32) = 1 from rfl] at g37₁
    rw [g37₁, mup_vst, g35₁, mup_vst, g33₁, mup_vst, hS₁]
    funext j₁
    rw [vst₁, vst₁, vst₁, insU, shU₁]
    by_cases j1₁ : j₁ = 1
    · rw [if_pos j1₁, if_pos j1₁]
    · rw [if_neg j1₁, if_neg j1₁]
      by_cases j6₁ : j₁ = 6 + s1₁
      · rw [if_neg (by omega), if_pos j6₁, if_pos j6₁]
      · by_cases j36₁ : j₁ = 36 + s1₁
        · rw [if_pos j36₁, if_neg j6₁, if_pos j36₁]
        · rw [if_neg j36₁, if_neg j6₁, if_neg j6₁, if_neg j36₁]
  · have e6₁ : (6 : Int32) + nI s1₁ - 1 = nI (6 + s1₁ - 1) := by rw [show (6 : Int32) = nI 6 from rfl, addN, show (1 : Int32) = nI 1 from rfl, subN (by omega)]
    have e36₁ : (36 : Int32) + nI s1₁ - 1 = nI (36 + s1₁ - 1) := by rw [show (36 : Int32) = nI 36 from rfl, addN, show (1 : Int32) = nI 1 from rfl, subN (by omega)]
    rw [e6₁, e36₁, hM₁.n3, ix_nI (by omega), ix_nI (by omega), ix_cn (by omega), ix_cn (by omega)]
    refine ⟨(vp_nI (by omega)).mpr (by omega), vp_cn (by omega) (by decide), fun I43₁ g43₁ => ⟨(vp_nI (by omega)).mpr (by omega), vp_cn (by omega) (by decide), fun I46₁ g46₁ v47₁ g47₁ => ?_⟩⟩
    obtain ⟨o₁, rfl⟩ : ∃ o₁, s1₁ = o₁ + 1 := ⟨s1₁ - 1, by omega⟩
    refine ⟨o₁, by omega, rfl, rfl, rfl, rfl, o₁, by omega, by omega, rfl, by rw [g47₁]; exact pk_m1 o₁, ?_, fun b₁ hb₁ => by rw [g46₁, mup_ne hb₁, g43₁, mup_ne hb₁, f1₁ b₁ hb₁]⟩
    rw [g46₁, mup_vst, g43₁, mup_vst, vst_n (show 36 + (o₁ + 1) - 1 ≠ 6 + (o₁ + 1) by omega), hS₁]
    funext j₁
    rw [vst₁, vst₁, shU₁, shU₁, shU₁, shU₁]
    by_cases j36₁ : j₁ = 36 + (o₁ + 1)
    · rw [if_pos j36₁, if_neg (by omega), if_neg (by omega), if_neg (by omega), if_pos (by omega), j36₁]
    · rw [if_neg j36₁]
      by_cases j6₁ : j₁ = 6 + (o₁ + 1)
      · rw [if_pos j6₁, if_neg (by omega), if_neg (by omega), if_pos (by omega), j6₁]
      · rw [if_neg j6₁]
        by_cases a1₁ : 6 + (o₁ + 1) < j₁ ∧ j₁ ≤ 6 + n1₁
        · rw [if_pos a1₁, if_pos (by omega)]
        · rw [if_neg a1₁]
          by_cases a2₁ : 36 + (o₁ + 1) < j₁ ∧ j₁ ≤ 36 + n1₁
          · rw [if_pos a2₁, if_neg (by omega), if_pos (by omega)]
          · rw [if_neg a2₁, if_neg (by omega), if_neg (by omega)]
theorem r_readRow {Q₁ : Bool → MI → ML → Prop} (hM₁ : MDL K₁ N₁ R₁ m₁) (hS₁ : DSR₁ I₁ L₁ m₁ B₁ n₁ lm₁ U₁ NM₁ p₁) (hW₁ : WFU₁ U₁) (hk₁ : tkK₁ B₁ n₁ lm₁ p₁ = 1)
    (hbad : ∀ k₁ pl₁, pRow B₁ n₁ lm₁ U₁ NM₁ p₁ = .inl (k₁, pl₁) → ∀ J₁ M₁, flQ₁ m₁ k₁ pl₁ J₁ → frQ₁ m₁ J₁ I₁ M₁ L₁ → Q₁ false J₁ M₁)
    (hok₁ : ∀ U'₁ NM'₁ p'₁, pRow B₁ n₁ lm₁ U₁ NM₁ p₁ = .inr (U'₁, NM'₁, p'₁) → ∀ J₁ M₁, DSR₁ J₁ M₁ m₁ B₁ n₁ lm₁ U'₁ NM'₁ p'₁ → frQ₁ m₁ J₁ I₁ M₁ L₁ → J₁ m₁ 10 = I₁ m₁ 10 → Q₁ true J₁ M₁) : w_X12_readRow m₁ K₁ N₁ I₁ L₁ R₁ Q₁ := by
  obtain ⟨hT₁, hI₁, hN₁⟩ := hS₁
  have hU₁ := hW₁.1
  have n0₁ := hU₁.2.2.2.2.2.2
  have n1₁ := hU₁.1.2
  delta w_X12_readRow
  refine ⟨hM₁.k, r_readFirst (a₁ := 1) (b₁ := 30) (c₁ := ix (U₁ 1)) hM₁ hT₁ (by decide) (by rw [hI₁]; exact hU₁.1.1) (by omega) (by decide) hk₁ (fun e₁ J₁ f₁ => ⟨fun _ => ?_, fun y₁ => absurd y₁ (by decide)⟩) (fun e₁ J1₁ M1₁ t1₁ f1₁ => ⟨fun y₁ => absurd y₁ (by decide), fun _ => ⟨_, hM₁.r15, hM₁.k3, by rw [hM₁.n3]; exact vp_c (by decide) (by decide), ?_⟩⟩)⟩
  · exact hbad _ _ (by rw [pRow, if_pos e₁]) J₁ L₁ (flQ_f f₁) (frQ_f f₁)
  have i1₁ : J1₁ (m₁ + 3) = U₁ := by rw [f1₁.1 _ (by omega), hI₁]
  rw [show ix (0 : Int32) = 0 from rfl, i1₁, show U₁ 0 - 1 = nI (ix (U₁ 0) - 1) from by rw [hU₁.2.2.2.2.2.1, show (1 : Int32) = nI 1 from rfl, subN (by omega), ix_nI (by omega)]]
  refine r_isNumber (lo₁ := 0) hM₁ t1₁ (by decide) (by omega) (fun e0₁ k2₁ v1₁ v2₁ e8₁ => ⟨fun _ => ?_, fun y₁ => absurd y₁ (by decide)⟩) (fun e1₁ J2₁ f2₁ => ⟨fun y₁ => absurd y₁ (by decide), fun _ => ?_⟩)
  · have ha₁ : tkV₁ B₁ n₁ (tkN₁ B₁ n₁ lm₁ p₁) < ix (U₁ 0) := by omega
    obtain ⟨q1₁, q2₁, q3₁⟩ := posS_p (U₁ := U₁) (a₁ := nI (tkV₁ B₁ n₁ (tkN₁ B₁ n₁ lm₁ p₁)))
    have hrow : rowAt U₁ (tkV₁ B₁ n₁ (tkN₁ B₁ n₁ lm₁ p₁)) = (decide (posS U₁ (nI (tkV₁ B₁ n₁ (tkN₁ B₁ n₁ lm₁ p₁))) < ix (U₁ 1)) && decide (U₁ (6 + posS U₁ (nI (tkV₁ B₁ n₁ (tkN₁ B₁ n₁ lm₁ p₁)))) = nI (tkV₁ B₁ n₁ (tkN₁ B₁ n₁ lm₁ p₁)))) := rfl
    have hpos : posS U₁ (nI (tkV₁ B₁ n₁ (tkN₁ B₁ n₁ lm₁ p₁))) = posB U₁ (nI (tkV₁ B₁ n₁ (tkN₁ B₁ n₁ lm₁ p₁))) (ix (U₁ 1)) 0 := rfl
    generalize hqe₁ : posS U₁ (nI (tkV₁ B₁ n₁ (tkN₁ B₁ n₁ lm₁ p₁))) = q₁ at q1₁ q2₁ q3₁ hrow hpos
    have at2₁ : ∀ k₁, k₁ < ix (U₁ 1) → ∃ c₁, U₁ (6 + k₁) = nI c₁ ∧ c₁ < ix (U₁ 0) := fun k₁ hk₁ => (hW₁.2.1.2 k₁ hk₁).1
    have hv₁ := tkV_lt k2₁
    have last : rowAt U₁ (tkV₁ B₁ n₁ (tkN₁ B₁ n₁ lm₁ p₁)) = false → w_X12_readRow_94 m₁ (nI q₁) K₁ N₁ J1₁ M1₁ R₁ Q₁ := by
      intro hno₁
      delta w_X12_readRow_94
      refine ⟨hM₁.k, fun v19₁ g19₁ => r_next hM₁ t1₁ (fun J3₁ M3₁ t3₁ f3₁ => r_readNumber (lo₁ := 1) (hi₁ := 250) hM₁ t3₁ (by decide) (by decide) (fun e0'₁ k2'₁ v1'₁ v2'₁ J4₁ M4₁ t4₁ e13₁ f4₁ => ⟨fun _ => ⟨_, hM₁.r15, hM₁.k3, by rw [hM₁.n3]; exact vp_c (by decide) (by decide), fun v28₁ g28₁ => ?_⟩, fun y₁ => absurd y₁ (by decide)⟩) (fun e1₁ J4₁ f4₁ => ⟨fun y₁ => absurd y₁ (by decide), fun _ => ?_⟩))⟩
      · have i4₁ : J4₁ (m₁ + 3) = U₁ := by rw [f4₁.1 _ (by omega), mup_ne (by omega), f3₁.1 _ (by omega), i1₁]
        have g28₁ : v28₁ = nI (ix (U₁ 1)) := by rw [g28₁, i4₁]; exact hU₁.1.1
        subst g28₁
        rw [e8₁] at g19₁
        subst g19₁
        refine r_insert hM₁ i4₁ hU₁.1.1 q1₁ (by omega) e13₁ (fun J5₁ j5₁ b5₁ => hok₁ _ _ _ (by rw [pRow, if_neg e₁, if_neg (fun z₁ => z₁ e0₁), if_neg (by rw [hno₁]; decide), if_neg (fun z₁ => z₁ e0'₁)]) J5₁ M4₁ ⟨TRS_fr t4₁ (b5₁ _ (by omega)) (fun y₁ _ _ => by rw [b5₁ _ (by omega)]) rfl, by rw [j5₁, hqe₁], ?_⟩ (frQ_t ⟨fun b₁ _ q2₁ => b5₁ b₁ q2₁, fun _ _ _ => rfl, fun y₁ _ _ _ _ _ _ _ _ _ => by rw [b5₁ _ (by omega)]⟩ (frQ_t (frQ_V f4₁) (frQ_t frQ_13 (frQ_t (frQ_V f3₁) (frQ_V f1₁))))) ?_)
        · exact NRF_cg (NRF_fr hN₁ (by rw [f4₁.2.2 _ (by omega), f3₁.2.2 _ (by omega), f1₁.2.2 _ (by omega)])) (insU_o (hqe₁ ▸ q1₁) (by omega) (by decide) (by decide)) (insU_o (hqe₁ ▸ q1₁) (by omega) (by decide) (by decide)) (insU_o (hqe₁ ▸ q1₁) (by omega) (by decide) (by decide))
        · rw [b5₁ _ (by omega), frV_10 f4₁, mup_k (by decide), frV_10 f3₁, frV_10 f1₁]
      · exact hbad _ _ (by rw [pRow, if_neg e₁, if_neg (fun z₁ => z₁ e0₁), if_neg (by rw [hno₁]; decide), if_pos e1₁]) J4₁ M3₁ (flQ_f f4₁) (frQ_t (frQ_f f4₁) (frQ_t (frQ_V f3₁) (frQ_V f1₁)))
    have chk₁ : w_X12_readRow_62 m₁ (nI q₁) K₁ N₁ J1₁ M1₁ R₁ Q₁ := by
      delta w_X12_readRow_62
      refine ⟨hM₁.k, _, hM₁.r15, hM₁.k3, by rw [hM₁.n3]; exact vp_c (by decide) (by decide), ?_⟩
      rw [show ix (1 : Int32) = 1 from rfl, i1₁, hU₁.1.1, leN (by omega) (by omega), ix_cn (by omega), e8₁, hM₁.n3]
      refine ⟨fun z₁ => last ?_, fun z₁ => ⟨vp_cn (by omega) (by decide), fun y₁ => last ?_, fun y₁ => r_bad (k₁ := 3) hM₁ t1₁ (fun w₁ => by omega) (fun J2₁ f2₁ => ?_)⟩⟩
      · rw [hrow, decide_eq_false (by omega), Bool.false_and]
      · rw [hrow, decide_eq_false y₁, Bool.and_false]
      · exact hbad _ _ (by rw [pRow, if_neg e₁, if_neg (fun z₁ => z₁ e0₁), if_pos (by rw [hrow, decide_eq_true (show q₁ < ix (U₁ 1) by omega), decide_eq_true y₁]; rfl)]) J2₁ M1₁ (flQ_f f2₁) (frQ_t (frQ_f f2₁) (frQ_V f1₁))
    delta w_X12_readRow_30
    refine ⟨fun s1₁ y0₁ y1₁ I1₁ L1₁ => y0₁ = m₁ ∧ I1₁ = J1₁ ∧ L1₁ = M1₁ ∧ ∃ k₁, k₁ ≤ ix (U₁ 1) ∧ s1₁ = ix (U₁ 1) - k₁ ∧ y1₁ = nI k₁ ∧ posB U₁ (nI (tkV₁ B₁ n₁ (tkN₁ B₁ n₁ lm₁ p₁))) (ix (U₁ 1) - k₁) k₁ = q₁, ⟨ix (U₁ 1), rfl, rfl, rfl, 0, Nat.zero_le _, rfl, rfl, hpos.symm⟩, ?_⟩
    rintro s1₁ y0₁ y1₁ I1₁ L1₁ ⟨rfl, rfl, rfl, k₁, hk1₁, rfl, rfl, hB₁⟩
    refine ⟨hM₁.k, _, hM₁.r15, hM₁.k3, by rw [hM₁.n3]; exact vp_c (by decide) (by decide), ?_⟩
    rw [show ix (1 : Int32) = 1 from rfl, i1₁, ix_cn (by omega), e8₁, hM₁.n3]
    refine ⟨fun z₁ => ?_, fun z₁ => ⟨vp_cn ?_ (by decide), fun y₁ => ?_, fun y₁ v52₁ g52₁ => ⟨ix (U₁ 1) - (k₁ + 1), ?_, rfl, rfl, rfl, k₁ + 1, ?_, rfl, by rw [g52₁, nI_1], ?_⟩⟩⟩ <;> rw [hU₁.1.1, leN (by omega) (by omega)] at z₁
    · rw [show ix (U₁ 1) - k₁ = 0 by omega, posB] at hB₁
      rw [hB₁]; exact chk₁
    · omega
    · obtain ⟨c₁, ec₁, hc₁⟩ := at2₁ k₁ (by omega)
      rw [ec₁, leN (by omega) (by omega)] at y₁
      rw [show ix (U₁ 1) - k₁ = (ix (U₁ 1) - (k₁ + 1)) + 1 by omega, posB, if_neg (by rw [ec₁, ltN (by omega) (by omega)]; omega)] at hB₁
      rw [hB₁]; exact chk₁
    · omega
    · omega
    · obtain ⟨c₁, ec₁, hc₁⟩ := at2₁ k₁ (by omega)
      rw [ec₁, leN (by omega) (by omega)] at y₁
      rw [show ix (U₁ 1) - k₁ = (ix (U₁ 1) - (k₁ + 1)) + 1 by omega, posB, if_pos (by rw [ec₁, ltN (by omega) (by omega)]; omega)] at hB₁
      exact hB₁
  · exact hbad _ _ (by rw [pRow, if_neg e₁, if_pos e1₁]) J2₁ M1₁ (flQ_f f2₁) (frQ_t (frQ_f f2₁) (frQ_V f1₁))
end RG₁
