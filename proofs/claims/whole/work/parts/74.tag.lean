/-! ===== tag: both sides ===== -/
def spB₁ (a₁ : Int32) (v₁ : Int64) : Int64 := if a₁ ≤ 0 then v₁ else (27 : Int64) * v₁ + Int32.toInt64 a₁ - 96
def spS₁ (a₁ b₁ c₁ d₁ e₁ f₁ : Int32) : Int64 := spB₁ f₁ (spB₁ e₁ (spB₁ d₁ (spB₁ c₁ ((27 : Int64) * (Int32.toInt64 a₁ - 96) + Int32.toInt64 b₁ - 96))))
theorem r_spelt {K₁ N₁ : MK} {I₁ : MI} {L₁ : ML} {R₁ : MR} {a₁ b₁ c₁ d₁ e₁ f₁ : Int32} {Q₁ : Int64 → Prop} (h₁ : Q₁ (spS₁ a₁ b₁ c₁ d₁ e₁ f₁)) : w_X12_spelt a₁ b₁ c₁ d₁ e₁ f₁ K₁ N₁ I₁ L₁ R₁ Q₁ := by
  delta w_X12_spelt w_X12_spelt_38 w_X12_spelt_57
  rw [spS₁] at h₁
  intro v1₁ g1₁
  subst g1₁
  generalize (27 : Int64) * (Int32.toInt64 a₁ - 96) + Int32.toInt64 b₁ - 96 = v₁ at h₁ ⊢
  refine ⟨fun z1₁ => ?_, fun z1₁ v6₁ g6₁ => ?_⟩
  · rw [show spB₁ c₁ v₁ = v₁ from if_pos z1₁] at h₁
    refine ⟨fun z2₁ => ?_, fun z2₁ v5₁ g5₁ => ?_⟩
    · rw [show spB₁ d₁ v₁ = v₁ from if_pos z2₁] at h₁
      refine ⟨fun z3₁ => ?_, fun z3₁ v3₁ g3₁ => ?_⟩
      · rw [show spB₁ e₁ v₁ = v₁ from if_pos z3₁] at h₁
        exact ⟨fun z4₁ => by rw [show spB₁ f₁ v₁ = v₁ from if_pos z4₁] at h₁; exact h₁, fun z4₁ v2₁ g2₁ => by rw [g2₁]; rw [spB₁, if_neg z4₁] at h₁; exact h₁⟩
      · rw [show spB₁ e₁ v₁ = v3₁ by rw [spB₁, if_neg z3₁, g3₁]] at h₁
        exact ⟨fun z4₁ => by rw [show spB₁ f₁ v3₁ = v3₁ from if_pos z4₁] at h₁; exact h₁, fun z4₁ v2₁ g2₁ => by rw [g2₁]; rw [spB₁, if_neg z4₁] at h₁; exact h₁⟩
    · rw [show spB₁ d₁ v₁ = v5₁ by rw [spB₁, if_neg z2₁, g5₁]] at h₁
      refine ⟨fun z3₁ => ?_, fun z3₁ v3₁ g3₁ => ?_⟩
      · rw [show spB₁ e₁ v5₁ = v5₁ from if_pos z3₁] at h₁
        exact ⟨fun z4₁ => by rw [show spB₁ f₁ v5₁ = v5₁ from if_pos z4₁] at h₁; exact h₁, fun z4₁ v2₁ g2₁ => by rw [g2₁]; rw [spB₁, if_neg z4₁] at h₁; exact h₁⟩
      · rw [show spB₁ e₁ v5₁ = v3₁ by rw [spB₁, if_neg z3₁, g3₁]] at h₁
        exact ⟨fun z4₁ => by rw [show spB₁ f₁ v3₁ = v3₁ from if_pos z4₁] at h₁; exact h₁, fun z4₁ v2₁ g2₁ => by rw [g2₁]; rw [spB₁, if_neg z4₁] at h₁; exact h₁⟩
  · rw [show spB₁ c₁ v₁ = v6₁ by rw [spB₁, if_neg z1₁, g6₁]] at h₁
    refine ⟨fun z2₁ => ?_, fun z2₁ v5₁ g5₁ => ?_⟩
    · rw [show spB₁ d₁ v6₁ = v6₁ from if_pos z2₁] at h₁
      refine ⟨fun z3₁ => ?_, fun z3₁ v3₁ g3₁ => ?_⟩
      · rw [show spB₁ e₁ v6₁ = v6₁ from if_pos z3₁] at h₁
        exact ⟨fun z4₁ => by rw [show spB₁ f₁ v6₁ = v6₁ from if_pos z4₁] at h₁; exact h₁, fun z4₁ v2₁ g2₁ => by rw [g2₁]; rw [spB₁, if_neg z4₁] at h₁; exact h₁⟩
      · rw [show spB₁ e₁ v6₁ = v3₁ by rw [spB₁, if_neg z3₁, g3₁]] at h₁
        exact ⟨fun z4₁ => by rw [show spB₁ f₁ v3₁ = v3₁ from if_pos z4₁] at h₁; exact h₁, fun z4₁ v2₁ g2₁ => by rw [g2₁]; rw [spB₁, if_neg z4₁] at h₁; exact h₁⟩
    · rw [show spB₁ d₁ v6₁ = v5₁ by rw [spB₁, if_neg z2₁, g5₁]] at h₁
      refine ⟨fun z3₁ => ?_, fun z3₁ v3₁ g3₁ => ?_⟩
      · rw [show spB₁ e₁ v5₁ = v5₁ from if_pos z3₁] at h₁
        exact ⟨fun z4₁ => by rw [show spB₁ f₁ v5₁ = v5₁ from if_pos z4₁] at h₁; exact h₁, fun z4₁ v2₁ g2₁ => by rw [g2₁]; rw [spB₁, if_neg z4₁] at h₁; exact h₁⟩
      · rw [show spB₁ e₁ v5₁ = v3₁ by rw [spB₁, if_neg z3₁, g3₁]] at h₁
        exact ⟨fun z4₁ => by rw [show spB₁ f₁ v3₁ = v3₁ from if_pos z4₁] at h₁; exact h₁, fun z4₁ v2₁ g2₁ => by rw [g2₁]; rw [spB₁, if_neg z4₁] at h₁; exact h₁⟩
/-- a value that is one -/
def valOK (v₁ : Int32) : Prop := ∃ n₁, n₁ < 100000 ∧ (v₁ = nI n₁ ∨ (1 ≤ n₁ ∧ v₁ = -nI n₁))
/-- its signs -/
def numL (v₁ : Int32) : List Nat := if 0 ≤ v₁ then numF (ix v₁) 5 else 45 :: numF (ix (-v₁)) 5
theorem numF_len (n₁ : Nat) : ∀ k₁, (numF n₁ k₁).length ≤ k₁
  | 0 => by rw [numF]; decide
  | k₁ + 1 => by
    have := numF_len n₁ k₁
    rw [numF, List.length_append]
    split
    · rw [List.length_singleton]; omega
    · rw [List.length_nil]; omega
theorem nI_neg0 {n₁ : Nat} (h1₁ : 1 ≤ n₁) (h₁ : n₁ < 2147483648) : ¬ (0 : Int32) ≤ -nI n₁ := by
  intro z₁
  rw [Int32.le_iff_toInt_le] at z₁
  have e0₁ : (0 : Int32).toInt = 0 := by decide
  have e1₁ : (-nI n₁).toInt = -(n₁ : Int) := by
    rw [Int32.toInt_neg, nI_toInt h₁]
    exact Int.bmod_eq_of_le (by omega) (by omega)
  omega
theorem bitT_ok {f₁ b₁ s₁ w₁ : Nat} (hb₁ : 1 ≤ b₁) (hf₁ : f₁ + b₁ ≤ 16) (hw₁ : w₁ < 65536) : valOK (bitT (nI f₁) (nI b₁) (nI s₁) (nI w₁)) := by
  have e1₁ : (1 : Int32) <<< (nI b₁ &&& 31) = nI (2 ^ b₁) := by
    have : b₁ ≤ 16 := by omega
    clear hf₁ hb₁
    revert this
    revert b₁
    decide
  have hp₁ : 2 ^ b₁ ≤ 2 ^ 16 := Nat.pow_le_pow_right (by decide) (by omega)
  have hp0₁ : 0 < 2 ^ b₁ := Nat.pow_pos (by decide)
  have e2₁ : nI (2 ^ b₁) - 1 = nI (2 ^ b₁ - 1) := by rw [show (1 : Int32) = nI 1 from rfl, subN (by omega)]
  have e4₁ : ∀ z₁ : Nat, nI z₁ &&& nI (2 ^ b₁ - 1) = nI (z₁ % 2 ^ b₁) := fun z₁ => by
    apply Int32.toBitVec_inj.mp
    rw [Int32.toBitVec_and]
    apply BitVec.eq_of_toNat_eq
    rw [BitVec.toNat_and]
    show (BitVec.ofNat 32 z₁).toNat &&& (BitVec.ofNat 32 (2 ^ b₁ - 1)).toNat = (BitVec.ofNat 32 (z₁ % 2 ^ b₁)).toNat
    rw [BitVec.toNat_ofNat, BitVec.toNat_ofNat, BitVec.toNat_ofNat, Nat.mod_eq_of_lt (show 2 ^ b₁ - 1 < 2 ^ 32 by omega), Nat.and_two_pow_sub_one_eq_mod, Nat.mod_mod_of_dvd z₁ (Nat.pow_dvd_pow 2 (by omega))]
    exact (Nat.mod_eq_of_lt (Nat.lt_trans (Nat.mod_lt _ hp0₁) (by omega))).symm
  have e3₁ : nI w₁ >>> (nI f₁ &&& 31) = nI (w₁ / 2 ^ f₁) := by
    rw [← ushr_eq (nI_msb (by omega)) (by omega)]
    apply Int32.toBitVec_inj.mp
    apply BitVec.eq_of_toNat_eq
    have h9₁ := pk_ushr (nI w₁) (nI f₁) f₁ (by
      have : f₁ < 32 := by omega
      clear hf₁
      revert this
      revert f₁
      decide)
    show ((nI w₁).toUInt32 >>> ((nI f₁).toUInt32 &&& Int32.toUInt32 31)).toInt32.toBitVec.toNat = _
    rw [h9₁]
    show (BitVec.ofNat 32 w₁).toNat / 2 ^ f₁ = (BitVec.ofNat 32 (w₁ / 2 ^ f₁)).toNat
    have : w₁ / 2 ^ f₁ ≤ w₁ := Nat.div_le_self _ _
    rw [BitVec.toNat_ofNat, BitVec.toNat_ofNat, Nat.mod_eq_of_lt (by omega), Nat.mod_eq_of_lt (Nat.lt_of_le_of_lt this (by omega))]
  rw [bitT, e1₁, e2₁, e3₁, e4₁]
  have hm₁ : w₁ / 2 ^ f₁ % 2 ^ b₁ < 2 ^ b₁ := Nat.mod_lt _ hp0₁
  split
  · refine ⟨2 ^ b₁ - w₁ / 2 ^ f₁ % 2 ^ b₁, by omega, Or.inr ⟨by omega, ?_⟩⟩
    rw [← subN (Nat.le_of_lt hm₁), Int32.neg_sub]
  · exact ⟨w₁ / 2 ^ f₁ % 2 ^ b₁, by omega, Or.inl rfl⟩
/-- each var's scope is a scope -/
def WFvh (U₁ : Nat → Int32) : Prop := ∀ k₁, k₁ < ix (U₁ 4) → ∃ s₁, U₁ (114 + k₁) = nI s₁ ∧ s₁ < ix (U₁ 2)
theorem lokS_ok {U₁ V₁ : Nat → Int32} (hU₁ : WFc U₁) (hv₁ : WFm₁ V₁) (hw₁ : WFw U₁) (ht₁ : WFvt U₁) (hT₁ : WFt₁ U₁) (ho₁ : WFo₁ U₁) (v₁ a₁ : Int32) : valOK (lokS U₁ V₁ v₁ a₁).2 := by
  have n5₁ := hU₁.2.2.2.2.1.2
  have n4₁ := hU₁.2.2.2.1.2
  have n3₁ := hU₁.2.2.1.2
  rw [lokS]
  split
  · exact ⟨0, by decide, Or.inl rfl⟩
  · rename_i e₁
    split
    · obtain ⟨w₁, -, hw5₁, e1₁⟩ := (whrB_or U₁ v₁ a₁ (ix (U₁ 5)) 0).resolve_left e₁
      have e1₁ : whrS U₁ v₁ a₁ = nI w₁ := e1₁
      have hw5₁ : w₁ < ix (U₁ 5) := by omega
      have ev₁ := (whrB_at U₁ v₁ a₁ (ix (U₁ 5)) 0 w₁ (by omega) (by omega) e1₁).1
      obtain ⟨v0₁, -, -, ev0₁, hv4₁, -⟩ := hw₁ w₁ hw5₁
      have ev1₁ : v₁ = nI v0₁ := by rw [← ev₁, ev0₁]
      obtain ⟨t₁, et₁, ht3₁⟩ := ht₁ v0₁ hv4₁
      obtain ⟨f₁, b₁, s₁, ef₁, eb₁, es₁, hb₁, hfb₁, hs₁⟩ := hT₁ t₁ ht3₁
      obtain ⟨q₁, hq₁, eq₁⟩ := wrdS_in hv₁ hw5₁ ho₁
      rw [e1₁, ix_nI (by omega), eq₁, bitS, ev1₁, ix_nI (by omega), et₁, ix_nI (by omega), ef₁, eb₁, es₁]
      exact bitT_ok hb₁ hfb₁ hq₁
    · exact ⟨0, by decide, Or.inl rfl⟩
/-- what is told of a value -/
def outL (p₁ : Int32 × Int32) : List Nat := if p₁.1 = 0 then [32, 105, 115, 32] ++ numL p₁.2 else [32, 105, 115, 32, 111, 117, 116]
def tagL (l₁ s₁ : List Nat) (p₁ : Int32 × Int32) : List Nat := l₁.map (fun y₁ => 96 + y₁) ++ outL p₁ ++ [32, 105, 110, 32] ++ s₁.map (fun y₁ => 96 + y₁)
theorem numL_len {v₁ : Int32} : (numL v₁).length ≤ 6 := by
  rw [numL]
  split
  · exact Nat.le_trans (numF_len _ _) (by decide)
  · rw [List.length_cons]; have := numF_len (ix (-v₁)) 5; omega
theorem outL_len {p₁ : Int32 × Int32} : (outL p₁).length ≤ 10 := by
  rw [outL]
  split
  · rw [List.length_append]; have := numL_len (v₁ := p₁.2); exact Nat.add_le_add (Nat.le_refl 4) this
  · decide
section UN₁
variable {K₁ N₁ : MK} {I₁ : MI} {L₁ : ML} {R₁ : MR} {x₁ : Nat} {U₁ V₁ : Nat → Int32} {W₁ : Nat → Int64}
theorem s_tagNumber {v₁ : Int32} {t₁ : List Nat} {Q₁ : MI → ML → Prop} (hX₁ : PDL K₁ N₁ R₁ x₁) (hv₁ : valOK v₁) (hT₁ : TXT₁ I₁ x₁ t₁) (ht₁ : t₁.length + (numL v₁).length ≤ 40) (h₁ : ∀ J₁ M₁, TXT₁ J₁ x₁ (t₁ ++ numL v₁) → frT₁ x₁ J₁ I₁ M₁ L₁ → Q₁ J₁ M₁) : w_X11_tagNumber x₁ v₁ K₁ N₁ I₁ L₁ R₁ Q₁ := by
  delta w_X11_tagNumber
  obtain ⟨n₁, hn₁, e₁⟩ := hv₁
  rw [numL] at ht₁ h₁
  refine ⟨fun z₁ => ⟨fun _ => ?_, fun z2₁ => absurd z₁ z2₁⟩, fun z₁ v15₁ g15₁ => ⟨fun z2₁ => absurd z2₁ z₁, fun _ => ⟨hX₁.k, s_tagByte hX₁ hT₁ (by rw [if_neg z₁, List.length_cons] at ht₁; omega) (fun J₁ M₁ g1₁ g2₁ => ?_)⟩⟩⟩
  · rw [if_pos z₁] at ht₁ h₁
    rcases e₁ with rfl | ⟨h1₁, rfl⟩
    · rw [ix_nI (by omega)] at ht₁ h₁
      exact s_num hX₁ hn₁ hT₁ ht₁ h₁
    · exact absurd z₁ (nI_neg0 h1₁ (by omega))
  · rw [if_neg z₁] at ht₁ h₁
    rcases e₁ with rfl | ⟨h1₁, rfl⟩
    · exact absurd (by rw [show (0 : Int32) = nI 0 from rfl, leN (by omega) (by omega)]; omega) z₁
    · rw [Int32.neg_neg] at g15₁
      subst g15₁
      rw [Int32.neg_neg, ix_nI (by omega)] at ht₁ h₁
      rw [List.length_cons] at ht₁
      refine s_num hX₁ hn₁ g1₁ (by rw [List.length_append, List.length_singleton]; omega) (fun J2₁ M2₁ g3₁ g4₁ => h₁ J2₁ M2₁ ?_ (frT_t g4₁ g2₁))
      rw [List.append_assoc] at g3₁; exact g3₁
end UN₁
