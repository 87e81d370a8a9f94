/-! ===== the class's Unit: its cells, what they hold, its readings ===== -/
def UL (K₁ N₁ : MK) (R₁ : MR) (u₁ : Nat) : Prop := K₁ u₁ = 10 ∧ R₁ u₁ 1 = some (u₁ + 1) ∧ R₁ u₁ 2 = some (u₁ + 4) ∧ R₁ u₁ 3 = some (u₁ + 7) ∧ R₁ u₁ 4 = some (u₁ + 10) ∧ R₁ u₁ 5 = some (u₁ + 13) ∧ TL K₁ N₁ R₁ (u₁ + 1) 30 2 ∧ TL K₁ N₁ R₁ (u₁ + 4) 10 4 ∧ TL K₁ N₁ R₁ (u₁ + 7) 6 3 ∧ TL K₁ N₁ R₁ (u₁ + 10) 10 2 ∧ TL K₁ N₁ R₁ (u₁ + 13) 16 21
def encB (b₁ : Int64) (l₁ : List Nat) : Int64 := l₁.foldl (fun v₁ x₁ => v₁ * b₁ + Int64.ofNat x₁) 0
def nmR (c₁ r₁ : Int64) : Prop := ∃ l₁ : List Nat, (l₁ ≠ [] ∧ l₁.length ≤ 7 ∧ ∀ x₁ ∈ l₁, 1 ≤ x₁ ∧ x₁ ≤ 26) ∧ c₁ = encB 32 l₁ ∧ r₁ = encB 27 l₁
def rnkS (U₁ : Nat → Int32) (s₁ : Nat) : Int32 := (widS U₁ s₁ + 1) * 10 - nI s₁
/-- one op, in the class's two numbers and in the reference's one -/
def opR (o₁ n₁ r₁ : Int32) : Prop := (o₁ = 100 ∧ n₁ = r₁ ∧ 0 ≤ r₁ ∧ r₁ < 1000) ∨ (o₁ = 10 ∧ ∃ k₁, k₁ < 8 ∧ n₁ = nI k₁ ∧ r₁ = nI (1000 + k₁)) ∨ (∃ q₁, q₁ < 6 ∧ o₁ = nI (11 + q₁) ∧ r₁ = nI (1010 + q₁))
def plR (c₁ : Nat → Int32) (kind many : Int32) (code : Nat → Int32) : Prop := (kind = 2 ∧ c₁ 3 = 1 ∧ c₁ 4 = 1 ∧ c₁ 5 = 10 ∧ c₁ 6 = many) ∨ ((kind = 0 ∨ kind = 1) ∧ c₁ 3 = kind ∧ c₁ 4 = many ∧ ∀ j₁, j₁ < ix many → opR (c₁ (5 + 2 * j₁)) (c₁ (5 + 2 * j₁ + 1)) (code j₁))
def UD1₁ (I₁ : MI) (u₁ : Nat) (U₁ : Nat → Int32) : Prop := TD I₁ (u₁ + 1) 30 2 (ix (U₁ 1)) ∧ ∀ k₁, k₁ < ix (U₁ 1) → I₁ (u₁ + 1 + 2) (k₁ * 2 + 0) = U₁ (6 + k₁) ∧ I₁ (u₁ + 1 + 2) (k₁ * 2 + 1) = U₁ (36 + k₁)
def UD2₁ (I₁ : MI) (L₁ : ML) (u₁ : Nat) (U₁ : Nat → Int32) (W₁ : Nat → Int64) : Prop := TD I₁ (u₁ + 4) 10 4 (ix (U₁ 2)) ∧ ∀ k₁, k₁ < ix (U₁ 2) → I₁ (u₁ + 4 + 2) (k₁ * 4 + 0) = U₁ (66 + k₁) ∧ I₁ (u₁ + 4 + 2) (k₁ * 4 + 1) = U₁ (76 + k₁) ∧ I₁ (u₁ + 4 + 2) (k₁ * 4 + 2) = U₁ (86 + k₁) ∧ I₁ (u₁ + 4 + 2) (k₁ * 4 + 3) = rnkS U₁ k₁ ∧ nmR (L₁ (u₁ + 4 + 1) k₁) (W₁ k₁)
def UD3₁ (I₁ : MI) (L₁ : ML) (u₁ : Nat) (U₁ : Nat → Int32) (W₁ : Nat → Int64) : Prop := TD I₁ (u₁ + 7) 6 3 (ix (U₁ 3)) ∧ ∀ k₁, k₁ < ix (U₁ 3) → I₁ (u₁ + 7 + 2) (k₁ * 3 + 0) = U₁ (96 + k₁) ∧ I₁ (u₁ + 7 + 2) (k₁ * 3 + 1) = U₁ (102 + k₁) ∧ I₁ (u₁ + 7 + 2) (k₁ * 3 + 2) = U₁ (108 + k₁) ∧ nmR (L₁ (u₁ + 7 + 1) k₁) (W₁ (10 + k₁))
def UD4₁ (I₁ : MI) (L₁ : ML) (u₁ : Nat) (U₁ : Nat → Int32) (W₁ : Nat → Int64) : Prop := TD I₁ (u₁ + 10) 10 2 (ix (U₁ 4)) ∧ ∀ k₁, k₁ < ix (U₁ 4) → I₁ (u₁ + 10 + 2) (k₁ * 2 + 0) = U₁ (114 + k₁) ∧ I₁ (u₁ + 10 + 2) (k₁ * 2 + 1) = U₁ (124 + k₁) ∧ nmR (L₁ (u₁ + 10 + 1) k₁) (W₁ (16 + k₁))
def UD5₁ (I₁ : MI) (u₁ : Nat) (U₁ : Nat → Int32) : Prop := TD I₁ (u₁ + 13) 16 21 (ix (U₁ 5)) ∧ ∀ k₁, k₁ < ix (U₁ 5) → I₁ (u₁ + 13 + 2) (k₁ * 21 + 0) = U₁ (150 + k₁) ∧ I₁ (u₁ + 13 + 2) (k₁ * 21 + 1) = U₁ (166 + k₁) ∧ I₁ (u₁ + 13 + 2) (k₁ * 21 + 2) = U₁ (134 + k₁) ∧ plR (fun j₁ => I₁ (u₁ + 13 + 2) (k₁ * 21 + j₁)) (U₁ (182 + k₁)) (U₁ (198 + k₁)) (fun j₁ => U₁ (214 + 8 * k₁ + j₁))
def UD (I₁ : MI) (L₁ : ML) (u₁ : Nat) (U₁ : Nat → Int32) (W₁ : Nat → Int64) : Prop := I₁ u₁ 0 = U₁ 0 ∧ UD1₁ I₁ u₁ U₁ ∧ UD2₁ I₁ L₁ u₁ U₁ W₁ ∧ UD3₁ I₁ L₁ u₁ U₁ W₁ ∧ UD4₁ I₁ L₁ u₁ U₁ W₁ ∧ UD5₁ I₁ u₁ U₁
/-- rows by address -/
def WFr (U₁ : Nat → Int32) : Prop := (∀ i₁ j₁, i₁ < j₁ → j₁ < ix (U₁ 1) → U₁ (6 + i₁) < U₁ (6 + j₁)) ∧ ∀ k₁, k₁ < ix (U₁ 1) → (∃ a₁, U₁ (6 + k₁) = nI a₁ ∧ a₁ < ix (U₁ 0)) ∧ ∃ l₁, U₁ (36 + k₁) = nI l₁ ∧ 1 ≤ l₁ ∧ l₁ ≤ 250
/-- scopes -/
def WFs (U₁ : Nat → Int32) : Prop := ∀ k₁, k₁ < ix (U₁ 2) → ∃ f₁ t₁ c₁, U₁ (66 + k₁) = nI f₁ ∧ U₁ (76 + k₁) = nI t₁ ∧ U₁ (86 + k₁) = nI c₁ ∧ f₁ < t₁ ∧ t₁ ≤ ix (U₁ 0) ∧ c₁ ≤ 250
def preI : Nat → Int32
  | 0 => -1
  | i₁ + 1 => nI i₁
theorem rowB_eq {U₁ : Nat → Int32} {a₁ : Int32} {i₁ n₁ : Nat} (h1₁ : ∀ j₁, j₁ < i₁ → U₁ (6 + j₁) ≤ a₁) (h2₁ : ∀ j₁, i₁ ≤ j₁ → j₁ < n₁ → ¬ U₁ (6 + j₁) ≤ a₁) (hi₁ : i₁ ≤ n₁) : rowB U₁ a₁ n₁ = preI i₁ := by
  induction n₁ with
  | zero => rw [show i₁ = 0 by omega]; rfl
  | succ n₁ ih₁ =>
    rw [rowB]
    by_cases e₁ : i₁ = n₁ + 1
    · rw [if_pos (h1₁ n₁ (by omega)), e₁]; rfl
    · rw [if_neg (h2₁ n₁ (by omega) (by omega))]
      exact ih₁ (fun j₁ g1₁ g2₁ => h2₁ j₁ g1₁ (by omega)) (by omega)
section UN₁
variable {K₁ N₁ : MK} {I₁ : MI} {L₁ : ML} {R₁ : MR} {u₁ : Nat} {U₁ : Nat → Int32} {W₁ : Nat → Int64}
theorem s_hasAddress {a₁ : Int32} {Q₁ : Bool → Prop} (hL₁ : UL K₁ N₁ R₁ u₁) (h0₁ : I₁ u₁ 0 = U₁ 0) (hU₁ : WFc U₁) (h₁ : Q₁ (adr U₁ a₁)) : w_X9_hasAddress u₁ a₁ K₁ N₁ I₁ L₁ R₁ Q₁ := by
  rw [adr, isInB_pred hU₁.2.2.2.2.2.1 (by have := hU₁.2.2.2.2.2.2; omega)] at h₁
  have hu₁ := hU₁.2.2.2.2.2.1
  refine ⟨fun e₁ => ?_, fun e₁ => ⟨hL₁.1, fun e2₁ => ?_, fun e2₁ => ?_⟩⟩
  · rw [show inN a₁ (ix (U₁ 0)) = false by simp only [inN, Bool.and_eq_false_iff, decide_eq_false_iff_not]; exact Or.inl (Int32.not_le.mpr e₁)] at h₁; exact h₁
  · rw [h0₁, hu₁] at e2₁
    rw [show inN a₁ (ix (U₁ 0)) = false by simp only [inN, Bool.and_eq_false_iff, decide_eq_false_iff_not]; exact Or.inr (Int32.not_lt.mpr e2₁)] at h₁; exact h₁
  · rw [h0₁, hu₁] at e2₁
    rw [show inN a₁ (ix (U₁ 0)) = true by simp only [inN, Bool.and_eq_true, decide_eq_true_eq]; exact ⟨Int32.not_lt.mp e₁, Int32.not_le.mp e2₁⟩] at h₁; exact h₁
theorem s_rowOf {a₁ : Int32} {Q₁ : Int32 → Prop} (hL₁ : UL K₁ N₁ R₁ u₁) (hD₁ : UD1₁ I₁ u₁ U₁) (hU₁ : WFc U₁) (hr₁ : WFr U₁) (h₁ : Q₁ (rowOf U₁ a₁)) : w_X9_rowOf u₁ a₁ K₁ N₁ I₁ L₁ R₁ Q₁ := by
  delta w_X9_rowOf w_X9_rowOf_4
  have hn₁ := hU₁.1.2
  have hT₁ := hL₁.2.2.2.2.2.2.1
  obtain ⟨hd₁, hv₁⟩ := hD₁
  have mono : ∀ i₁ j₁, i₁ ≤ j₁ → j₁ < ix (U₁ 1) → U₁ (6 + i₁) ≤ U₁ (6 + j₁) := fun i₁ j₁ h1₁ h2₁ => by
    rcases Nat.eq_or_lt_of_le h1₁ with e₁ | e₁
    · rw [e₁]; exact Int32.le_refl _
    · exact Int32.le_of_lt (hr₁.1 i₁ j₁ e₁ h2₁)
  refine ⟨fun n₁ x0₁ x1₁ x2₁ x3₁ => x0₁ = u₁ ∧ x1₁ = a₁ ∧ ∃ i₁, i₁ ≤ ix (U₁ 1) ∧ n₁ = ix (U₁ 1) - i₁ ∧ x3₁ = nI i₁ ∧ x2₁ = preI i₁ ∧ ∀ j₁, j₁ < i₁ → U₁ (6 + j₁) ≤ a₁, ⟨_, rfl, rfl, 0, Nat.zero_le _, rfl, rfl, rfl, fun j₁ hj₁ => absurd hj₁ (Nat.not_lt_zero _)⟩, ?_⟩
  rintro n₁ x0₁ x1₁ x2₁ x3₁ ⟨rfl, rfl, i₁, hi₁, hm₁, rfl, rfl, hle₁⟩
  refine ⟨hL₁.1, _, hL₁.2.1, hT₁.1, fun e₁ => ?_, fun e₁ => ?_⟩
  · rw [hd₁.2.1, leN (by omega) (by omega)] at e₁
    rw [rowOf, rowB_eq (i₁ := i₁) hle₁ (fun j₁ h1₁ h2₁ => by omega) hi₁] at h₁
    exact h₁
  · rw [hd₁.2.1, leN (by omega) (by omega)] at e₁
    refine s_at hT₁ hd₁ ?_
    rw [show (0 : Int32) = nI 0 from rfl, tat_in (by omega) (by omega) (by omega) (by omega), (hv₁ i₁ (by omega)).1]
    refine ⟨fun g₁ => ?_, fun g₁ v₁ ev₁ => ⟨ix (U₁ 1) - (i₁ + 1), by omega, rfl, rfl, i₁ + 1, by omega, rfl, by rw [ev₁]; exact nI_1 i₁, rfl, fun j₁ hj₁ => ?_⟩⟩
    · rw [rowOf, rowB_eq (i₁ := i₁) hle₁ (fun j₁ h1₁ h2₁ h3₁ => Int32.not_lt.mpr (Int32.le_trans (mono i₁ j₁ h1₁ h2₁) h3₁) g₁) hi₁] at h₁
      exact h₁
    · rcases Nat.eq_or_lt_of_le (Nat.le_of_lt_succ hj₁) with e3₁ | e3₁
      · rw [e3₁]; exact Int32.not_lt.mp g₁
      · exact hle₁ j₁ e3₁
theorem s_lineOf {a₁ : Int32} {Q₁ : Int32 → Prop} (hL₁ : UL K₁ N₁ R₁ u₁) (h0₁ : I₁ u₁ 0 = U₁ 0) (hD₁ : UD1₁ I₁ u₁ U₁) (hU₁ : WFc U₁) (hr₁ : WFr U₁) (h₁ : Q₁ (if adr U₁ a₁ = true then lineOf U₁ a₁ else -1)) : w_X9_lineOf u₁ a₁ K₁ N₁ I₁ L₁ R₁ Q₁ := by
  have hn₁ := hU₁.1.2
  refine ⟨hL₁.1, s_hasAddress hL₁ h0₁ hU₁ ⟨fun e₁ => ?_, fun e₁ => ⟨_, hL₁.2.1, s_rowOf hL₁ hD₁ hU₁ hr₁ ⟨hL₁.2.2.2.2.2.2.1.1, s_at hL₁.2.2.2.2.2.2.1 hD₁.1 ?_⟩⟩⟩⟩
  · rw [e₁] at h₁; exact h₁
  · rw [if_pos e₁, lineOf] at h₁
    rcases rowB_or U₁ a₁ (ix (U₁ 1)) with e1₁ | ⟨j₁, hj₁, e1₁⟩
    · rw [show rowOf U₁ a₁ = -1 from e1₁] at h₁ ⊢
      rw [tat_m1]; exact h₁
    · rw [show rowOf U₁ a₁ = nI j₁ from e1₁] at h₁ ⊢
      rw [if_neg (m1_ne (by omega)), ix_nI (by omega)] at h₁
      rw [show (1 : Int32) = nI 1 from rfl, tat_in hj₁ (by omega) (by omega) (by omega), (hD₁.2 j₁ hj₁).2]; exact h₁
theorem hasS_iff {s₁ : Nat} {a₁ : Int32} (hs₁ : WFs U₁) (hU₁ : WFc U₁) (hk₁ : s₁ < ix (U₁ 2)) : hasS U₁ s₁ a₁ = (decide (U₁ (66 + s₁) ≤ a₁) && decide (a₁ < U₁ (76 + s₁))) := by
  obtain ⟨f₁, t₁, c₁, h1₁, h2₁, h3₁, h4₁, h5₁, h6₁⟩ := hs₁ s₁ hk₁
  have hz₁ := hU₁.2.2.2.2.2.2
  apply Bool.eq_iff_iff.mpr
  rw [hasS, isInB_iff, h2₁]
  simp only [Bool.and_eq_true, decide_eq_true_eq]
  constructor
  · rintro ⟨g1₁, g2₁⟩
    refine ⟨g1₁, ?_⟩
    rw [h1₁] at g1₁
    obtain ⟨j₁, hj₁, rfl⟩ := nI_of (show ¬ a₁ < 0 from Int32.not_lt.mpr (Int32.le_trans (le0n (by omega)) g1₁))
    rw [show (1 : Int32) = nI 1 from rfl, subN (by omega), leN hj₁ (by omega)] at g2₁
    rw [ltN hj₁ (by omega)]; omega
  · rintro ⟨g1₁, g2₁⟩
    refine ⟨g1₁, ?_⟩
    rw [h1₁] at g1₁
    obtain ⟨j₁, hj₁, rfl⟩ := nI_of (show ¬ a₁ < 0 from Int32.not_lt.mpr (Int32.le_trans (le0n (by omega)) g1₁))
    rw [ltN hj₁ (by omega)] at g2₁
    rw [show (1 : Int32) = nI 1 from rfl, subN (by omega), leN hj₁ (by omega)]; omega
theorem s_scopeHas {s₁ : Nat} {a₁ : Int32} {Q₁ : Bool → Prop} (hL₁ : UL K₁ N₁ R₁ u₁) (hD₁ : UD2₁ I₁ L₁ u₁ U₁ W₁) (hU₁ : WFc U₁) (hs₁ : WFs U₁) (hk₁ : s₁ < ix (U₁ 2)) (h₁ : Q₁ (hasS U₁ s₁ a₁)) : w_X9_scopeHas u₁ (nI s₁) a₁ K₁ N₁ I₁ L₁ R₁ Q₁ := by
  have hn₁ := hU₁.2.1.2
  have hT₁ := hL₁.2.2.2.2.2.2.2.1
  obtain ⟨hd₁, hv₁⟩ := hD₁
  obtain ⟨v0₁, v1₁, -⟩ := hv₁ s₁ hk₁
  rw [hasS_iff hs₁ hU₁ hk₁] at h₁
  refine ⟨hL₁.1, _, hL₁.2.2.1, hT₁.1, s_at hT₁ hd₁ ?_⟩
  rw [show (0 : Int32) = nI 0 from rfl, tat_in hk₁ (by omega) (by omega) (by omega), v0₁]
  refine ⟨fun e₁ => ?_, fun e₁ => s_at hT₁ hd₁ ?_⟩
  · rw [show decide (U₁ (66 + s₁) ≤ a₁) = false by simp only [decide_eq_false_iff_not]; exact Int32.not_le.mpr e₁] at h₁; exact h₁
  · rw [show decide (U₁ (66 + s₁) ≤ a₁) = true by simp only [decide_eq_true_eq]; exact Int32.not_lt.mp e₁] at h₁
    rw [show (1 : Int32) = nI 1 from rfl, tat_in hk₁ (by omega) (by omega) (by omega), v1₁]
    refine ⟨fun e2₁ => ?_, fun e2₁ => ?_⟩
    · rw [show decide (a₁ < U₁ (76 + s₁)) = false by simp only [decide_eq_false_iff_not]; exact Int32.not_lt.mpr e2₁] at h₁; exact h₁
    · rw [show decide (a₁ < U₁ (76 + s₁)) = true by simp only [decide_eq_true_eq]; exact Int32.not_le.mp e2₁] at h₁; exact h₁
theorem rnkS_eq {s₁ : Nat} (hs₁ : WFs U₁) (hU₁ : WFc U₁) (hk₁ : s₁ < ix (U₁ 2)) : ∃ w₁, 1 ≤ w₁ ∧ w₁ ≤ 256 ∧ widS U₁ s₁ = nI w₁ ∧ rnkS U₁ s₁ = nI ((w₁ + 1) * 10 - s₁) := by
  obtain ⟨f₁, t₁, c₁, h1₁, h2₁, h3₁, h4₁, h5₁, h6₁⟩ := hs₁ s₁ hk₁
  have hz₁ := hU₁.2.2.2.2.2.2
  have hn₁ := hU₁.2.1.2
  refine ⟨t₁ - f₁, by omega, by omega, ?_, ?_⟩
  · rw [widS, h1₁, h2₁, subN (by omega)]
  · rw [rnkS, widS, h1₁, h2₁, subN (by omega), show (1 : Int32) = nI 1 from rfl, addN, show (10 : Int32) = nI 10 from rfl, mulN, subN (by omega)]
theorem innS_iff {s₁ r₁ : Nat} (hs₁ : WFs U₁) (hU₁ : WFc U₁) (hk₁ : s₁ < ix (U₁ 2)) (hr₁ : r₁ < ix (U₁ 2)) : innS U₁ s₁ r₁ = true ↔ rnkS U₁ s₁ < rnkS U₁ r₁ := by
  obtain ⟨w₁, a1₁, a2₁, a3₁, a4₁⟩ := rnkS_eq hs₁ hU₁ hk₁
  obtain ⟨v₁, b1₁, b2₁, b3₁, b4₁⟩ := rnkS_eq hs₁ hU₁ hr₁
  have hn₁ := hU₁.2.1.2
  simp only [innS, Bool.or_eq_true, Bool.and_eq_true, decide_eq_true_eq]
  rw [a3₁, b3₁, a4₁, b4₁, ltN (by omega) (by omega), eqN (by omega) (by omega), ltN (by omega) (by omega)]
  omega
end UN₁
