/-! ===== bits of words ===== -/
theorem ushr_eq {w₁ : Int32} {k₁ : Nat} (hw₁ : w₁.toBitVec.msb = false) (hk₁ : k₁ < 32) : ushr w₁ (nI k₁) = w₁ >>> (nI k₁ &&& 31) := by
  apply Int32.toBitVec_inj.mp
  rw [Int32.toBitVec_shiftRight]
  have h1₁ : ((nI k₁ &&& 31).toBitVec.smod 32).toNat = k₁ := by
    revert hk₁
    revert k₁
    decide
  rw [BitVec.sshiftRight', h1₁, BitVec.sshiftRight_eq_of_msb_false hw₁]
  simp only [ushr]
  show (w₁.toUInt32 >>> ((nI k₁).toUInt32 &&& Int32.toUInt32 31)).toBitVec = _
  rw [UInt32.toBitVec_shiftRight]
  have h2₁ : ((((nI k₁).toUInt32 &&& Int32.toUInt32 31).toBitVec % 32).toNat) = k₁ := by
    clear h1₁
    revert hk₁
    revert k₁
    decide
  rw [BitVec.ushiftRight_eq', h2₁]
  rfl
theorem nI_msb {w₁ : Nat} (h₁ : w₁ < 2147483648) : (nI w₁).toBitVec.msb = false := by
  show (BitVec.ofNat 32 w₁).msb = false
  rw [BitVec.msb_eq_false_iff_two_mul_lt, BitVec.toNat_ofNat]
  omega
theorem and_msb {a₁ b₁ : Int32} (h₁ : a₁.toBitVec.msb = false) : (a₁ &&& b₁).toBitVec.msb = false := by
  rw [Int32.toBitVec_and, BitVec.msb_and, h₁]; rfl
theorem sshr_msb {a₁ : Int32} {k₁ : Nat} (h₁ : a₁.toBitVec.msb = false) (hk₁ : k₁ < 32) : (a₁ >>> (nI k₁ &&& 31)).toBitVec.msb = false := by
  have h1₁ : ((nI k₁ &&& 31).toBitVec.smod 32).toNat = k₁ := by
    revert hk₁
    revert k₁
    decide
  rw [Int32.toBitVec_shiftRight, BitVec.sshiftRight', h1₁, BitVec.sshiftRight_eq_of_msb_false h₁, BitVec.msb_ushiftRight, h₁]
  simp
theorem and_full {k₁ : Nat} (h₁ : k₁ < 65536) : nI k₁ &&& 65535 = nI k₁ := by
  apply Int32.toBitVec_inj.mp
  rw [Int32.toBitVec_and]
  apply BitVec.eq_of_toNat_eq
  rw [BitVec.toNat_and]
  show (BitVec.ofNat 32 k₁).toNat &&& 65535 = (BitVec.ofNat 32 k₁).toNat
  rw [BitVec.toNat_ofNat, show (65535 : Nat) = 2 ^ 16 - 1 from rfl, Nat.and_two_pow_sub_one_eq_mod]
  omega
theorem and_nI (a₁ : Int32) : ∃ w₁, w₁ < 65536 ∧ a₁ &&& 65535 = nI w₁ := by
  refine ⟨a₁.toBitVec.toNat % 65536, Nat.mod_lt _ (by decide), ?_⟩
  apply Int32.toBitVec_inj.mp
  rw [Int32.toBitVec_and]
  apply BitVec.eq_of_toNat_eq
  rw [BitVec.toNat_and]
  show _ &&& 65535 = (BitVec.ofNat 32 _).toNat
  rw [BitVec.toNat_ofNat, show (65535 : Nat) = 2 ^ 16 - 1 from rfl, Nat.and_two_pow_sub_one_eq_mod]
  omega
/-- the types of a unit -/
def WFt₁ (U₁ : Nat → Int32) : Prop := ∀ k₁, k₁ < ix (U₁ 3) → ∃ f₁ b₁ s₁, U₁ (96 + k₁) = nI f₁ ∧ U₁ (102 + k₁) = nI b₁ ∧ U₁ (108 + k₁) = nI s₁ ∧ 1 ≤ b₁ ∧ f₁ + b₁ ≤ 16 ∧ s₁ ≤ 1
/-- the bits of a word that a var of this type has -/
def bitT (f₁ b₁ s₁ w₁ : Int32) : Int32 := if s₁ = 1 ∧ ((((w₁ >>> (f₁ &&& 31)) &&& (((1 : Int32) <<< (b₁ &&& 31)) - 1)) >>> ((b₁ - 1) &&& 31)) &&& 1) = 1 then ((w₁ >>> (f₁ &&& 31)) &&& (((1 : Int32) <<< (b₁ &&& 31)) - 1)) - ((1 : Int32) <<< (b₁ &&& 31)) else (w₁ >>> (f₁ &&& 31)) &&& (((1 : Int32) <<< (b₁ &&& 31)) - 1)
def bitS (U₁ : Nat → Int32) (v₁ w₁ : Int32) : Int32 := bitT (U₁ (96 + ix (U₁ (124 + ix v₁)))) (U₁ (102 + ix (U₁ (124 + ix v₁)))) (U₁ (108 + ix (U₁ (124 + ix v₁)))) w₁
/-- the word of a where, and why there is none -/
def wrdS (U₁ V₁ : Nat → Int32) (w₁ : Nat) : Int32 × Int32 :=
  if U₁ (182 + w₁) = 2 then (0, V₁ (11 + ix (U₁ (198 + w₁)))) else match opsB V₁ (fun j₁ => U₁ (214 + 8 * w₁ + j₁)) (ix (U₁ (198 + w₁))) 0 (fun _ => 0) 0 with
    | none => (2, 0)
    | some t₁ => if U₁ (182 + w₁) = 1 then (0, t₁ &&& 65535) else if inN t₁ 64 = true then (0, V₁ (19 + ix t₁)) else (3, 0)
/-- why a var has no value at an address, and its value -/
def lokS (U₁ V₁ : Nat → Int32) (v₁ a₁ : Int32) : Int32 × Int32 :=
  if whrS U₁ v₁ a₁ = -1 then (1, 0) else if (wrdS U₁ V₁ (ix (whrS U₁ v₁ a₁))).1 = 0 then (0, bitS U₁ v₁ (wrdS U₁ V₁ (ix (whrS U₁ v₁ a₁))).2) else ((wrdS U₁ V₁ (ix (whrS U₁ v₁ a₁))).1, 0)
/-- the ops of the wheres -/
def WFo₁ (U₁ : Nat → Int32) : Prop := ∀ k₁, k₁ < ix (U₁ 5) → (U₁ (182 + k₁) = 2 ∧ ∃ r₁, r₁ < 8 ∧ U₁ (198 + k₁) = nI r₁) ∨ ((U₁ (182 + k₁) = 0 ∨ U₁ (182 + k₁) = 1) ∧ ∃ n₁, n₁ ≤ 8 ∧ U₁ (198 + k₁) = nI n₁ ∧ opW₁ (fun j₁ => U₁ (214 + 8 * k₁ + j₁)) n₁)
/-- the word is a word -/
theorem wrdS_in {U₁ V₁ : Nat → Int32} {w₁ : Nat} (hv₁ : WFm₁ V₁) (hw₁ : w₁ < ix (U₁ 5)) (ho₁ : WFo₁ U₁) : ∃ q₁, q₁ < 65536 ∧ (wrdS U₁ V₁ w₁).2 = nI q₁ := by
  rw [wrdS]
  rcases ho₁ w₁ hw₁ with ⟨k2₁, r₁, hr₁, er₁⟩ | ⟨-, -⟩
  · rw [if_pos k2₁, er₁, ix_nI (by omega)]
    exact hv₁.1 r₁ hr₁
  · split
    · rename_i k2₁
      rcases ho₁ w₁ hw₁ with ⟨-, r₁, hr₁, er₁⟩ | ⟨k3₁, -⟩
      · rw [er₁, ix_nI (by omega)]; exact hv₁.1 r₁ hr₁
      · rw [k2₁] at k3₁; exact absurd k3₁ (by decide)
    · split
      · exact ⟨0, by decide, rfl⟩
      · split
        · exact and_nI _
        · split
          · rename_i hi₁
            obtain ⟨j₁, hj₁, e₁⟩ := inN_t hi₁ (by decide)
            rw [e₁, ix_nI (by omega)]
            exact hv₁.2 j₁ hj₁
          · exact ⟨0, by decide, rfl⟩
section UN₁
variable {K₁ N₁ : MK} {I₁ : MI} {L₁ : ML} {R₁ : MR} {u₁ : Nat} {U₁ : Nat → Int32} {W₁ : Nat → Int64}
theorem s_bitsOf {v₁ q₁ : Nat} {Q₁ : Int32 → Prop} (hL₁ : UL K₁ N₁ R₁ u₁) (hD₁ : UD I₁ L₁ u₁ U₁ W₁) (hU₁ : WFc U₁) (ht₁ : WFvt U₁) (hT₁ : WFt₁ U₁) (hv₁ : v₁ < ix (U₁ 4)) (hq₁ : q₁ < 65536) (h₁ : Q₁ (bitS U₁ (nI v₁) (nI q₁))) : w_X9_bitsOf u₁ (nI v₁) (nI q₁) K₁ N₁ I₁ L₁ R₁ Q₁ := by
  delta w_X9_bitsOf
  have n4₁ := hU₁.2.2.2.1.2
  have n3₁ := hU₁.2.2.1.2
  obtain ⟨t₁, et₁, ht3₁⟩ := ht₁ v₁ hv₁
  obtain ⟨f₁, b₁, s₁, ef₁, eb₁, es₁, hb₁, hfb₁, hs₁⟩ := hT₁ t₁ ht3₁
  have t4₁ := hL₁.2.2.2.2.2.2.2.2.2.1
  have t3₁ := hL₁.2.2.2.2.2.2.2.2.1
  have d4₁ := hD₁.2.2.2.2.1
  have d3₁ := hD₁.2.2.2.1
  rw [bitS, ix_nI (by omega), et₁, ix_nI (by omega), ef₁, eb₁, es₁] at h₁
  refine ⟨hL₁.1, _, hL₁.2.2.2.2.1, t4₁.1, s_at t4₁ d4₁.1 ?_⟩
  rw [show (1 : Int32) = nI 1 from rfl, tat_in hv₁ (by omega) (by omega) (by omega), (d4₁.2 v₁ hv₁).2.1, et₁]
  refine ⟨_, hL₁.2.2.2.1, t3₁.1, s_at t3₁ d3₁.1 ?_⟩
  rw [tat_in ht3₁ (by omega) (by omega) (by omega), (d3₁.2 t₁ ht3₁).2.1, eb₁]
  refine s_at t3₁ d3₁.1 ?_
  rw [show (0 : Int32) = nI 0 from rfl, tat_in ht3₁ (by omega) (by omega) (by omega), (d3₁.2 t₁ ht3₁).1, ef₁, ushr_eq (nI_msb (by omega)) (by omega)]
  intro v9₁ g9₁
  refine s_at t3₁ d3₁.1 ?_
  rw [show (2 : Int32) = nI 2 from rfl, tat_in ht3₁ (by omega) (by omega) (by omega), (d3₁.2 t₁ ht3₁).2.2.1, es₁]
  have m9₁ : v9₁.toBitVec.msb = false := by rw [g9₁]; exact and_msb (sshr_msb (nI_msb (by omega)) (by omega))
  have e1₁ : nI b₁ - nI 1 = nI (b₁ - 1) := subN (by omega)
  have g9₁ : v9₁ = (nI q₁ >>> (nI f₁ &&& 31)) &&& (((1 : Int32) <<< (nI b₁ &&& 31)) - 1) := g9₁
  rw [e1₁, ushr_eq m9₁ (by omega)]
  have h₁ : Q₁ (if nI s₁ = 1 ∧ ((v9₁ >>> (nI (b₁ - 1) &&& 31)) &&& 1) = 1 then v9₁ - ((1 : Int32) <<< (nI b₁ &&& 31)) else v9₁) := by
    rw [bitT, ← g9₁, show nI b₁ - 1 = nI (b₁ - 1) from e1₁] at h₁
    exact h₁
  refine ⟨fun e₁ => ?_, fun e₁ => ⟨fun e2₁ => ?_, fun e2₁ => ?_⟩⟩
  · rw [if_neg (fun z₁ => e₁ z₁.1)] at h₁; exact h₁
  · rw [if_neg (fun z₁ => e2₁ z₁.2)] at h₁; exact h₁
  · rw [if_pos ⟨e₁, e2₁⟩] at h₁; exact h₁
end UN₁
