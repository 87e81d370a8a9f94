/-! ===== numbers: literals and nI ===== -/
theorem o_nI (n : Nat) : (@OfNat.ofNat Int32 n _) = nI n := rfl
theorem m1_ne {n : Nat} (h : n < 2147483648) : ¬ nI n = -1 := by
  intro e
  have := congrArg Int32.toInt e
  rw [nI_toInt h] at this
  have : ((-1 : Int32)).toInt = -1 := by decide
  omega
theorem m1_ne' {n : Nat} (h : n < 2147483648) : ¬ (-1 : Int32) = nI n := fun e => m1_ne h e.symm
theorem ix_nI {n : Nat} (h : n < 2147483648) : ix (nI n) = n := nI_clamp h
theorem ix_o {n : Nat} (h : (@OfNat.ofNat Nat n _) < 2147483648) : ix (no_index (@OfNat.ofNat Int32 n _)) = (@OfNat.ofNat Nat n _) := nI_clamp h
theorem vp_nI {j n : Nat} (h : j < 2147483648) : vp_in (nI j) n ↔ j < n := by
  rw [vp_in_iff, nI_toInt h]; omega
theorem vp_o {j n : Nat} (h : (@OfNat.ofNat Nat j _) < 2147483648) : vp_in (no_index (@OfNat.ofNat Int32 j _)) n ↔ (@OfNat.ofNat Nat j _) < n := vp_nI h
theorem nlt0 {n : Nat} (h : n < 2147483648) : ¬ nI n < 0 := nI_pos h
theorem le0n {n : Nat} (h : n < 2147483648) : (0 : Int32) ≤ nI n := nI_pos' h
theorem ltN {a b : Nat} (ha : a < 2147483648) (hb : b < 2147483648) : nI a < nI b ↔ a < b := nI_ltI ha hb
theorem leN {a b : Nat} (ha : a < 2147483648) (hb : b < 2147483648) : nI a ≤ nI b ↔ a ≤ b := nI_leI ha hb
theorem eqN {a b : Nat} (ha : a < 2147483648) (hb : b < 2147483648) : nI a = nI b ↔ a = b := nI_eq ha hb
theorem ltNo {a b : Nat} (ha : a < 2147483648) (hb : (@OfNat.ofNat Nat b _) < 2147483648) : nI a < (no_index (@OfNat.ofNat Int32 b _)) ↔ a < (@OfNat.ofNat Nat b _) := nI_ltI ha hb
theorem leNo {a b : Nat} (ha : a < 2147483648) (hb : (@OfNat.ofNat Nat b _) < 2147483648) : nI a ≤ (no_index (@OfNat.ofNat Int32 b _)) ↔ a ≤ (@OfNat.ofNat Nat b _) := nI_leI ha hb
theorem eqNo {a b : Nat} (ha : a < 2147483648) (hb : (@OfNat.ofNat Nat b _) < 2147483648) : nI a = (no_index (@OfNat.ofNat Int32 b _)) ↔ a = (@OfNat.ofNat Nat b _) := nI_eq ha hb
theorem oltN {a b : Nat} (ha : (@OfNat.ofNat Nat a _) < 2147483648) (hb : b < 2147483648) : (no_index (@OfNat.ofNat Int32 a _)) < nI b ↔ (@OfNat.ofNat Nat a _) < b := nI_ltI ha hb
theorem oleN {a b : Nat} (ha : (@OfNat.ofNat Nat a _) < 2147483648) (hb : b < 2147483648) : (no_index (@OfNat.ofNat Int32 a _)) ≤ nI b ↔ (@OfNat.ofNat Nat a _) ≤ b := nI_leI ha hb
theorem oeqN {a b : Nat} (ha : (@OfNat.ofNat Nat a _) < 2147483648) (hb : b < 2147483648) : (no_index (@OfNat.ofNat Int32 a _)) = nI b ↔ (@OfNat.ofNat Nat a _) = b := nI_eq ha hb
theorem addN (a b : Nat) : nI a + nI b = nI (a + b) := nI_add a b
theorem addNo (a b : Nat) : nI a + (no_index (@OfNat.ofNat Int32 b _)) = nI (a + (@OfNat.ofNat Nat b _)) := nI_add a b
theorem addoN (a b : Nat) : (no_index (@OfNat.ofNat Int32 a _)) + nI b = nI ((@OfNat.ofNat Nat a _) + b) := nI_add a b
theorem mulN (a b : Nat) : nI a * nI b = nI (a * b) := pk_mul a b
theorem mulNo (a b : Nat) : nI a * (no_index (@OfNat.ofNat Int32 b _)) = nI (a * (@OfNat.ofNat Nat b _)) := pk_mul a b
theorem muloN (a b : Nat) : (no_index (@OfNat.ofNat Int32 a _)) * nI b = nI ((@OfNat.ofNat Nat a _) * b) := pk_mul a b
theorem subN {a b : Nat} (h : b ≤ a) : nI a - nI b = nI (a - b) := pk_sub h
theorem subNo {a b : Nat} (h : (@OfNat.ofNat Nat b _) ≤ a) : nI a - (no_index (@OfNat.ofNat Int32 b _)) = nI (a - (@OfNat.ofNat Nat b _)) := pk_sub h
theorem addm1 {a : Nat} (h : 1 ≤ a) : nI a + (-1) = nI (a - 1) := by
  obtain ⟨b, rfl⟩ : ∃ b, a = b + 1 := ⟨a - 1, by omega⟩
  exact pk_m1 b
theorem sub0m1 : nI 0 - 1 = -1 := by decide
theorem addm1_0 : nI 0 + (-1) = (-1 : Int32) := by decide
theorem m1_lt0 : (-1 : Int32) < 0 := by decide
theorem m1add1 : (-1 : Int32) + 1 = nI 0 := by decide
theorem m1_ltN {n : Nat} (h : n < 2147483648) : (-1 : Int32) < nI n := by
  rw [Int32.lt_iff_toInt_lt, nI_toInt h]
  have : ((-1 : Int32)).toInt = -1 := by decide
  omega
theorem N_ltm1 {n : Nat} (h : n < 2147483648) : ¬ nI n < -1 := by
  rw [Int32.lt_iff_toInt_lt, nI_toInt h]
  have : ((-1 : Int32)).toInt = -1 := by decide
  omega
theorem N_lem1 {n : Nat} (h : n < 2147483648) : ¬ nI n ≤ -1 := by
  rw [Int32.le_iff_toInt_le, nI_toInt h]
  have : ((-1 : Int32)).toInt = -1 := by decide
  omega
/-- every number is below 0, or a nI -/
theorem nI_or (x : Int32) : x < 0 ∨ ∃ j : Nat, j < 2147483648 ∧ x = nI j := by
  by_cases h : x < 0
  · exact Or.inl h
  · exact Or.inr (nI_of h)
theorem bi_t : bi true = 1 := rfl
theorem bi_f : bi false = 0 := rfl
/-! ===== memory ===== -/
theorem mup_s {α : Type} {M : Nat → Nat → α} {a k : Nat} {v : α} : mup M a k v a k = v := mup_at
theorem mup_a {α : Type} {M : Nat → Nat → α} {a k x y : Nat} {v : α} (h : x ≠ a) : mup M a k v x y = M x y := by simp [mup, h]
theorem mup_k {α : Type} {M : Nat → Nat → α} {a k x y : Nat} {v : α} (h : y ≠ k) : mup M a k v x y = M x y := by simp [mup, h]
/-- the loop rule, for a loop that counts up to a bound, and for one with a measure -/
theorem eSome {α : Type} {a : α} {P : α → Prop} (h : P a) : ∃ b, some a = some b ∧ P b := ⟨a, rfl, h⟩
/-! ===== Table ===== -/
/-- the cells of a Table: the object, names, numbers -/
def TL (K N : MK) (R : MR) (t m w : Nat) : Prop := K t = 8 ∧ R t 1 = some (t + 1) ∧ R t 2 = some (t + 2) ∧ K (t + 1) = 15 ∧ K (t + 2) = 14 ∧ N (t + 1) = m ∧ N (t + 2) = m * w ∧ m * w < 100000 ∧ m < 100000 ∧ w < 1000
/-- its width, and how many rows it has -/
def TD (I : MI) (t m w n : Nat) : Prop := I t 0 = nI w ∧ I t 3 = nI n ∧ n ≤ m
/-- what at() answers -/
def tat (I : MI) (t w n : Nat) (k c : Int32) : Int32 := if 0 ≤ k ∧ k < nI n ∧ 0 ≤ c ∧ c < nI w then I (t + 2) (ix k * w + ix c) else -1
theorem tat_in {I : MI} {t w n k c : Nat} (hk : k < n) (hc : c < w) (hn : n < 2147483648) (hw : w < 2147483648) : tat I t w n (nI k) (nI c) = I (t + 2) (k * w + c) := by
  rw [tat, if_pos ⟨le0n (by omega), (ltN (by omega) hn).mpr hk, le0n (by omega), (ltN (by omega) hw).mpr hc⟩, ix_nI (by omega), ix_nI (by omega)]
theorem tat_out {I : MI} {t w n k : Nat} {c : Int32} (hk : n ≤ k) (h : k < 2147483648) : tat I t w n (nI k) c = -1 := by
  rw [tat, if_neg]
  rintro ⟨-, h2, -⟩
  rw [ltN h (by omega)] at h2
  omega
theorem tat_neg {I : MI} {t w n : Nat} {k c : Int32} (hk : k < 0) : tat I t w n k c = -1 := by
  rw [tat, if_neg]
  rintro ⟨h2, -⟩
  exact absurd hk (Int32.not_lt.mpr h2)
theorem tat_m1 {I : MI} {t w n : Nat} {c : Int32} : tat I t w n (-1) c = -1 := tat_neg (by decide)
theorem s_at {K N : MK} {I : MI} {L : ML} {R : MR} {t m w n : Nat} {k c : Int32} {Q : Int32 → Prop} (hT : TL K N R t m w) (hD : TD I t m w n) (h : Q (tat I t w n k c)) : w_X7_at t k c K N I L R Q := by
  obtain ⟨h1, h2, h3, h4, h5, h6, h7, h8, h9, h10⟩ := hT
  obtain ⟨d1, d2, d3⟩ := hD
  simp only [w_X7_at, h1, h3, d1, d2, true_and, Option.some.injEq, exists_eq_left', h5, h7]
  have hneg : ∀ p : Prop, (¬ (0 ≤ k ∧ k < nI n ∧ 0 ≤ c ∧ c < nI w)) → Q (-1) := fun _ e => by rw [tat, if_neg e] at h; exact h
  refine ⟨fun e => hneg True (fun z => absurd e (Int32.not_lt.mpr z.1)), fun e1 => ⟨fun e => hneg True (fun z => absurd z.2.1 (Int32.not_lt.mpr e)), fun e2 => ⟨fun e => hneg True (fun z => absurd e (Int32.not_lt.mpr z.2.2.1)), fun e3 => ⟨fun e => hneg True (fun z => absurd z.2.2.2 (Int32.not_lt.mpr e)), fun e4 => ?_⟩⟩⟩⟩
  have g1 := Int32.not_le.mp e2
  have g2 := Int32.not_le.mp e4
  rw [tat, if_pos ⟨Int32.not_lt.mp e1, g1, Int32.not_lt.mp e3, g2⟩] at h
  obtain ⟨j, hj, rfl⟩ := nI_of e1
  obtain ⟨d, hd, rfl⟩ := nI_of e3
  rw [ltN hj (by omega)] at g1
  rw [ltN hd (by omega)] at g2
  have hjw : j * w + d < m * w := by
    have : (j + 1) * w ≤ m * w := Nat.mul_le_mul_right w (by omega)
    rw [Nat.add_mul] at this
    omega
  rw [mulN, addN, vp_nI (by omega), ix_nI (by omega)]
  rw [ix_nI hj, ix_nI hd] at h
  exact ⟨hjw, h⟩
