/-! ===== names as letters; texts ===== -/
theorem lushr_lN {n₁ k₁ : Nat} (hn₁ : n₁ < 2 ^ 63) (hk₁ : k₁ < 36) : lushr (lN n₁) (nI k₁) = lN (n₁ / 2 ^ k₁) := by
  apply Int64.toBitVec_inj.mp
  show ((lN n₁).toUInt64 >>> ((nI k₁).toInt64.toUInt64 &&& Int64.toUInt64 63)).toBitVec = BitVec.ofNat 64 (n₁ / 2 ^ k₁)
  rw [UInt64.toBitVec_shiftRight]
  have h2₁ : ((((nI k₁).toInt64.toUInt64 &&& Int64.toUInt64 63).toBitVec % 64).toNat) = k₁ := by
    revert hk₁
    revert k₁
    decide
  apply BitVec.eq_of_toNat_eq
  rw [BitVec.ushiftRight_eq', h2₁, BitVec.toNat_ushiftRight, Nat.shiftRight_eq_div_pow, BitVec.toNat_ofNat]
  show (BitVec.ofNat 64 n₁).toNat / 2 ^ k₁ = _
  rw [BitVec.toNat_ofNat, Nat.mod_eq_of_lt (by omega)]
  have : n₁ / 2 ^ k₁ ≤ n₁ := Nat.div_le_self _ _
  exact (Nat.mod_eq_of_lt (Nat.lt_of_le_of_lt this (by omega))).symm
theorem and_31 (n₁ : Nat) : nI n₁ &&& 31 = nI (n₁ % 32) := by
  apply Int32.toBitVec_inj.mp
  rw [Int32.toBitVec_and]
  apply BitVec.eq_of_toNat_eq
  rw [BitVec.toNat_and]
  show (BitVec.ofNat 32 n₁).toNat &&& 31 = (BitVec.ofNat 32 (n₁ % 32)).toNat
  rw [BitVec.toNat_ofNat, BitVec.toNat_ofNat, show (31 : Nat) = 2 ^ 5 - 1 from rfl, Nat.and_two_pow_sub_one_eq_mod]
  omega
/-- a word's letters as one number -/
def encN (b₁ : Nat) (l₁ : List Nat) : Nat := l₁.foldl (fun v₁ x₁ => v₁ * b₁ + x₁) 0
/-- letters that are some: 1 to 7, a to z -/
def wdOK (l₁ : List Nat) : Prop := l₁ ≠ [] ∧ l₁.length ≤ 7 ∧ ∀ x₁ ∈ l₁, 1 ≤ x₁ ∧ x₁ ≤ 26
theorem encB_eq {b₁ : Nat} : ∀ (l₁ : List Nat) (a₁ : Nat), l₁.foldl (fun v₁ x₁ => v₁ * lN b₁ + Int64.ofNat x₁) (lN a₁) = lN (l₁.foldl (fun v₁ x₁ => v₁ * b₁ + x₁) a₁)
  | [], _ => rfl
  | x₁ :: l₁, a₁ => by
    rw [List.foldl_cons, List.foldl_cons, lN_mul, show Int64.ofNat x₁ = lN x₁ from rfl, lN_add]
    exact encB_eq l₁ _
theorem encB_32 (l₁ : List Nat) : encB 32 l₁ = lN (encN 32 l₁) := encB_eq (b₁ := 32) l₁ 0
theorem encB_27 (l₁ : List Nat) : encB 27 l₁ = lN (encN 27 l₁) := encB_eq (b₁ := 27) l₁ 0
theorem encN_snoc (b₁ : Nat) (l₁ : List Nat) (x₁ : Nat) : encN b₁ (l₁ ++ [x₁]) = encN b₁ l₁ * b₁ + x₁ := by
  rw [encN, List.foldl_append]; rfl
theorem encN_lt {b₁ : Nat} : ∀ (n₁ : Nat) (l₁ : List Nat), l₁.length = n₁ → (∀ x₁ ∈ l₁, x₁ < b₁) → encN b₁ l₁ < b₁ ^ n₁
  | 0, l₁, h₁, _ => by rw [List.eq_nil_of_length_eq_zero h₁]; exact Nat.one_pos
  | n₁ + 1, l₁, h₁, hx₁ => by
    obtain ⟨l0₁, x₁, rfl⟩ : ∃ l0₁ x₁, l₁ = l0₁ ++ [x₁] := ⟨l₁.dropLast, l₁.getLast (by intro z₁; rw [z₁] at h₁; cases h₁), (List.dropLast_concat_getLast _).symm⟩
    have h0₁ : l0₁.length = n₁ := by rw [List.length_append, List.length_singleton] at h₁; omega
    have ih₁ := encN_lt n₁ l0₁ h0₁ (fun y₁ hy₁ => hx₁ y₁ (List.mem_append_left _ hy₁))
    have hxb₁ := hx₁ x₁ (List.mem_append_right _ (List.mem_singleton.mpr rfl))
    rw [encN_snoc, Nat.pow_succ]
    have : (encN b₁ l0₁ + 1) * b₁ ≤ b₁ ^ n₁ * b₁ := Nat.mul_le_mul_right b₁ ih₁
    rw [Nat.add_mul] at this
    omega
theorem encN_lt7 {b₁ : Nat} {l₁ : List Nat} (hb₁ : 27 ≤ b₁) (h₁ : wdOK l₁) : encN b₁ l₁ < b₁ ^ 7 := by
  refine Nat.lt_of_lt_of_le (encN_lt l₁.length l₁ rfl (fun x₁ hx₁ => ?_)) (Nat.pow_le_pow_right (by omega) h₁.2.1)
  have := h₁.2.2 x₁ hx₁
  omega
theorem encN_32 {l₁ : List Nat} (h₁ : wdOK l₁) : encN 32 l₁ < 34359738368 := encN_lt7 (by decide) h₁
theorem encN_27 {l₁ : List Nat} (h₁ : wdOK l₁) : encN 27 l₁ < 10460353203 := encN_lt7 (by decide) h₁
/-- the letters that are told from position k on down -/
def outF (c₁ : Nat) : Nat → List Nat
  | 0 => []
  | k₁ + 1 => (if 0 < c₁ / 2 ^ (5 * k₁) % 32 then [96 + c₁ / 2 ^ (5 * k₁) % 32] else []) ++ outF c₁ k₁
theorem outF_0 : ∀ k₁, outF 0 k₁ = []
  | 0 => rfl
  | k₁ + 1 => by rw [outF, Nat.zero_div, Nat.zero_mod, if_neg (by decide), outF_0 k₁]; rfl
theorem outF_s (c₁ : Nat) {x₁ : Nat} (hx₁ : x₁ < 32) : ∀ k₁, outF (c₁ * 32 + x₁) (k₁ + 1) = outF c₁ k₁ ++ (if 0 < x₁ then [96 + x₁] else [])
  | 0 => by
    rw [outF, outF, outF, Nat.mul_zero, Nat.pow_zero, Nat.div_one, Nat.mul_add_mod_self_right, Nat.mod_eq_of_lt hx₁, List.append_nil, List.nil_append]
  | k₁ + 1 => by
    rw [outF, outF_s c₁ hx₁ k₁, outF]
    have e₁ : (c₁ * 32 + x₁) / 2 ^ (5 * (k₁ + 1)) = c₁ / 2 ^ (5 * k₁) := by
      rw [show 5 * (k₁ + 1) = 5 + 5 * k₁ by omega, Nat.pow_add, ← Nat.div_div_eq_div_mul, show (2 : Nat) ^ 5 = 32 from rfl, Nat.mul_comm c₁ 32, Nat.mul_add_div (by decide), Nat.div_eq_of_lt hx₁, Nat.add_zero]
    rw [e₁, List.append_assoc]
theorem outF_w : ∀ (n₁ : Nat) (l₁ : List Nat) (k₁ : Nat), l₁.length = n₁ → n₁ ≤ k₁ → (∀ x₁ ∈ l₁, 1 ≤ x₁ ∧ x₁ ≤ 26) → outF (encN 32 l₁) k₁ = l₁.map (fun x₁ => 96 + x₁)
  | 0, l₁, k₁, h₁, _, _ => by rw [List.eq_nil_of_length_eq_zero h₁]; exact outF_0 k₁
  | n₁ + 1, l₁, k₁, h₁, hk₁, hx₁ => by
    obtain ⟨l0₁, x₁, rfl⟩ : ∃ l0₁ x₁, l₁ = l0₁ ++ [x₁] := ⟨l₁.dropLast, l₁.getLast (by intro z₁; rw [z₁] at h₁; cases h₁), (List.dropLast_concat_getLast _).symm⟩
    have h0₁ : l0₁.length = n₁ := by rw [List.length_append, List.length_singleton] at h₁; omega
    obtain ⟨o₁, rfl⟩ : ∃ o₁, k₁ = o₁ + 1 := ⟨k₁ - 1, by omega⟩
    have hxb₁ := hx₁ x₁ (List.mem_append_right _ (List.mem_singleton.mpr rfl))
    rw [encN_snoc, outF_s _ (by omega), outF_w n₁ l0₁ o₁ h0₁ (by omega) (fun y₁ hy₁ => hx₁ y₁ (List.mem_append_left _ hy₁)), if_pos (by omega), List.map_append]; rfl
/-- the class's text -/
def TXT₁ (I₁ : MI) (x₁ : Nat) (t₁ : List Nat) : Prop := TD I₁ (x₁ + 80) 40 1 t₁.length ∧ ∀ i₁, i₁ < t₁.length → I₁ (x₁ + 82) i₁ = nI (t₁.getD i₁ 0)
/-- the reference's text -/
def TXR₁ (I₁ : MI) (m₁ : Nat) (t₁ : List Nat) : Prop := I₁ m₁ 47 = nI t₁.length ∧ ∀ i₁, i₁ < t₁.length → I₁ (m₁ + 22) i₁ = nI (t₁.getD i₁ 0)
theorem getD_snoc (t₁ : List Nat) (c₁ i₁ : Nat) (h₁ : i₁ < t₁.length + 1) : (t₁ ++ [c₁]).getD i₁ 0 = if i₁ = t₁.length then c₁ else t₁.getD i₁ 0 := by
  rw [List.getD_eq_getElem?_getD, List.getD_eq_getElem?_getD]
  by_cases e₁ : i₁ = t₁.length
  · rw [if_pos e₁, e₁, List.getElem?_append_right (Nat.le_refl _), Nat.sub_self]; rfl
  · rw [if_neg e₁, List.getElem?_append_left (by omega)]
/-- what telling a byte leaves as it was -/
def frT₁ (x₁ : Nat) (J₁ I₁ : MI) (M₁ L₁ : ML) : Prop := (∀ b₁, b₁ ≠ x₁ + 80 → b₁ ≠ x₁ + 82 → J₁ b₁ = I₁ b₁) ∧ ∀ b₁, b₁ ≠ x₁ + 81 → M₁ b₁ = L₁ b₁
def frS₁ (m₁ : Nat) (J₁ I₁ : MI) : Prop := (∀ b₁, b₁ ≠ m₁ → b₁ ≠ m₁ + 22 → J₁ b₁ = I₁ b₁) ∧ ∀ y₁, y₁ ≠ 47 → J₁ m₁ y₁ = I₁ m₁ y₁
section UN₁
variable {K₁ N₁ : MK} {I₁ : MI} {L₁ : ML} {R₁ : MR} {x₁ : Nat}
theorem frT_r : frT₁ x₁ I₁ I₁ L₁ L₁ := ⟨fun _ _ _ => rfl, fun _ _ => rfl⟩
theorem frT_t {J₁ J'₁ : MI} {M₁ M'₁ : ML} (h₁ : frT₁ x₁ J'₁ J₁ M'₁ M₁) (h2₁ : frT₁ x₁ J₁ I₁ M₁ L₁) : frT₁ x₁ J'₁ I₁ M'₁ L₁ := ⟨fun b₁ h3₁ h4₁ => by rw [h₁.1 b₁ h3₁ h4₁, h2₁.1 b₁ h3₁ h4₁], fun b₁ h3₁ => by rw [h₁.2 b₁ h3₁, h2₁.2 b₁ h3₁]⟩
theorem s_tagByte {c₁ : Nat} {t₁ : List Nat} {Q₁ : MI → ML → Prop} (hX₁ : PDL K₁ N₁ R₁ x₁) (hT₁ : TXT₁ I₁ x₁ t₁) (ht₁ : t₁.length < 40) (h₁ : ∀ J₁ M₁, TXT₁ J₁ x₁ (t₁ ++ [c₁]) → frT₁ x₁ J₁ I₁ M₁ L₁ → Q₁ J₁ M₁) : w_X11_tagByte x₁ (nI c₁) K₁ N₁ I₁ L₁ R₁ Q₁ := by
  delta w_X11_tagByte
  obtain ⟨⟨d1₁, d2₁, d3₁⟩, hc₁⟩ := hT₁
  refine ⟨hX₁.k, _, hX₁.r_tag, hX₁.tag.1, s_add hX₁.tag ⟨d1₁, d2₁, d3₁⟩ ht₁ (s_put (n₁ := t₁.length + 1) (k₁ := t₁.length) (c₁ := 0) hX₁.tag ⟨?_, ?_, ?_⟩ (by omega) (by decide) (h₁ _ _ ⟨⟨?_, ?_, ?_⟩, fun i₁ hi₁ => ?_⟩ ⟨fun b₁ h1₁ h2₁ => ?_, fun b₁ h1₁ => ?_⟩))⟩
  · rw [mup_k (by decide)]; exact d1₁
  · rw [mup_at]
  · omega
  · rw [mup_ne (by omega), mup_k (by decide)]; exact d1₁
  · rw [mup_ne (by omega), mup_at, List.length_append]; rfl
  · rw [List.length_append, List.length_singleton]; omega
  · rw [List.length_append, List.length_singleton] at hi₁
    rw [getD_snoc t₁ c₁ i₁ hi₁]
    by_cases e₁ : i₁ = t₁.length
    · rw [if_pos e₁, e₁, show t₁.length * 1 + 0 = t₁.length by omega, show x₁ + 80 + 2 = x₁ + 82 from rfl, mup_at]
    · rw [if_neg e₁, show x₁ + 80 + 2 = x₁ + 82 from rfl, mup_k (by omega), mup_ne (by omega)]; exact hc₁ i₁ (by omega)
  · rw [mup_ne (by omega), mup_ne h1₁]
  · exact mup_ne h1₁
end UN₁
section RG₁
variable {K₁ N₁ : MK} {I₁ : MI} {L₁ : ML} {R₁ : MR} {m₁ : Nat}
theorem frS_r : frS₁ m₁ I₁ I₁ := ⟨fun _ _ _ => rfl, fun _ _ => rfl⟩
theorem frS_t {J₁ J'₁ : MI} (h₁ : frS₁ m₁ J'₁ J₁) (h2₁ : frS₁ m₁ J₁ I₁) : frS₁ m₁ J'₁ I₁ := ⟨fun b₁ h3₁ h4₁ => by rw [h₁.1 b₁ h3₁ h4₁, h2₁.1 b₁ h3₁ h4₁], fun y₁ hy₁ => by rw [h₁.2 y₁ hy₁, h2₁.2 y₁ hy₁]⟩
theorem r_write {c₁ : Nat} {t₁ : List Nat} {Q₁ : MI → Prop} (hM₁ : MDL K₁ N₁ R₁ m₁) (hT₁ : TXR₁ I₁ m₁ t₁) (ht₁ : t₁.length < 48) (h₁ : ∀ J₁, TXR₁ J₁ m₁ (t₁ ++ [c₁]) → frS₁ m₁ J₁ I₁ → Q₁ J₁) : w_X12_write m₁ (nI c₁) K₁ N₁ I₁ L₁ R₁ Q₁ := by
  delta w_X12_write
  obtain ⟨d1₁, hc₁⟩ := hT₁
  rw [d1₁, ix_nI (by omega)]
  refine ⟨hM₁.k, _, hM₁.r46, hM₁.k22, by rw [hM₁.n22]; exact (vp_nI (by omega)).mpr ht₁, fun I5₁ g5₁ I6₁ g6₁ => h₁ I6₁ ⟨?_, fun i₁ hi₁ => ?_⟩ ⟨fun b₁ h1₁ h2₁ => ?_, fun y₁ hy₁ => ?_⟩⟩
  · rw [g6₁, mup_at, g5₁, mup_ne (by omega), d1₁, nI_1, List.length_append]; rfl
  · rw [List.length_append, List.length_singleton] at hi₁
    rw [getD_snoc t₁ c₁ i₁ hi₁, g6₁, mup_ne (by omega), g5₁]
    by_cases e₁ : i₁ = t₁.length
    · rw [if_pos e₁, e₁, mup_at]
    · rw [if_neg e₁, mup_k (by omega)]; exact hc₁ i₁ (by omega)
  · rw [g6₁, mup_ne h1₁, g5₁, mup_ne h2₁]
  · rw [g6₁, mup_k hy₁, g5₁, mup_ne (by omega)]
end RG₁
