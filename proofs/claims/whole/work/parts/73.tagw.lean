/-! ===== names, words, numbers told: both sides ===== -/
/-- a number's signs, from 10^(k-1) on down -/
def numF (n₁ : Nat) : Nat → List Nat
  | 0 => []
  | k₁ + 1 => (if 10 ^ k₁ ≤ n₁ ∨ k₁ = 0 then [48 + n₁ / 10 ^ k₁ % 10] else []) ++ numF n₁ k₁
theorem numF_1 {n₁ : Nat} (h₁ : n₁ ≤ 9) : ∀ k₁, numF n₁ (k₁ + 1) = [48 + n₁]
  | 0 => by rw [numF, if_pos (Or.inr rfl), numF, Nat.pow_zero, Nat.div_one, Nat.mod_eq_of_lt (by omega)]; rfl
  | k₁ + 1 => by
    rw [numF, if_neg, numF_1 h₁ k₁]; rfl
    rintro (z₁ | z₁)
    · have : 10 ^ 1 ≤ 10 ^ (k₁ + 1) := Nat.pow_le_pow_right (by decide) (by omega)
      omega
    · omega
theorem numF_m {n₁ k₁ : Nat} (h₁ : n₁ < 10 ^ k₁) (hk₁ : 1 ≤ k₁) : numF n₁ (k₁ + 1) = numF n₁ k₁ := by
  rw [numF, if_neg, List.nil_append]
  rintro (z₁ | z₁) <;> omega
theorem numF_s {n₁ : Nat} (h₁ : 10 ≤ n₁) : ∀ k₁, numF n₁ (k₁ + 2) = numF (n₁ / 10) (k₁ + 1) ++ [48 + n₁ % 10]
  | 0 => by
    rw [numF, numF, numF, numF, numF, if_pos (Or.inl h₁), if_pos (Or.inr rfl), if_pos (Or.inr rfl), Nat.pow_zero, Nat.div_one, Nat.div_one, Nat.pow_one]; rfl
  | k₁ + 1 => by
    have e₁ : n₁ / 10 ^ (k₁ + 2) = n₁ / 10 / 10 ^ (k₁ + 1) := by rw [Nat.div_div_eq_div_mul, Nat.pow_succ 10 (k₁ + 1), Nat.mul_comm]
    have c₁ : (10 ^ (k₁ + 2) ≤ n₁ ∨ k₁ + 2 = 0) ↔ (10 ^ (k₁ + 1) ≤ n₁ / 10 ∨ k₁ + 1 = 0) := by
      rw [Nat.le_div_iff_mul_le (by decide), ← Nat.pow_succ]
      constructor <;> rintro (z₁ | z₁) <;> first | exact Or.inl z₁ | omega
    have e2₁ : (if 10 ^ (k₁ + 2) ≤ n₁ ∨ k₁ + 2 = 0 then [48 + n₁ / 10 ^ (k₁ + 2) % 10] else []) = (if 10 ^ (k₁ + 1) ≤ n₁ / 10 ∨ k₁ + 1 = 0 then [48 + n₁ / 10 / 10 ^ (k₁ + 1) % 10] else []) := by
      rw [e₁]
      by_cases z₁ : 10 ^ (k₁ + 2) ≤ n₁ ∨ k₁ + 2 = 0
      · rw [if_pos z₁, if_pos (c₁.mp z₁)]
      · rw [if_neg z₁, if_neg (fun y₁ => z₁ (c₁.mpr y₁))]
    have e3₁ : numF (n₁ / 10) (k₁ + 1 + 1) = (if 10 ^ (k₁ + 1) ≤ n₁ / 10 ∨ k₁ + 1 = 0 then [48 + n₁ / 10 / 10 ^ (k₁ + 1) % 10] else []) ++ numF (n₁ / 10) (k₁ + 1) := by rw [numF]
    rw [numF, numF_s h₁ k₁, e2₁, e3₁, List.append_assoc]
section UN₁
variable {K₁ N₁ : MK} {I₁ : MI} {L₁ : ML} {R₁ : MR} {x₁ : Nat}
theorem s_tagName {l₁ t₁ : List Nat} {Q₁ : MI → ML → Prop} (hX₁ : PDL K₁ N₁ R₁ x₁) (hl₁ : wdOK l₁) (hT₁ : TXT₁ I₁ x₁ t₁) (ht₁ : t₁.length + l₁.length ≤ 40) (h₁ : ∀ J₁ M₁, TXT₁ J₁ x₁ (t₁ ++ l₁.map (fun y₁ => 96 + y₁)) → frT₁ x₁ J₁ I₁ M₁ L₁ → Q₁ J₁ M₁) : w_X11_tagName x₁ (encB 32 l₁) K₁ N₁ I₁ L₁ R₁ Q₁ := by
  delta w_X11_tagName w_X11_tagName_3
  have hc₁ := encN_32 hl₁
  have ho₁ := outF_w l₁.length l₁ 7 rfl hl₁.2.1 hl₁.2.2
  rw [encB_32]
  refine ⟨fun n1₁ y0₁ y1₁ y3₁ I1₁ L1₁ => y0₁ = x₁ ∧ y1₁ = lN (encN 32 l₁) ∧ ∃ k₁ t1₁, k₁ ≤ 7 ∧ n1₁ = k₁ ∧ y3₁ = nI (5 * k₁) - 5 ∧ TXT₁ I1₁ x₁ t1₁ ∧ t1₁ ++ outF (encN 32 l₁) k₁ = t₁ ++ l₁.map (fun y₁ => 96 + y₁) ∧ frT₁ x₁ I1₁ I₁ L1₁ L₁, ⟨7, rfl, rfl, 7, t₁, by omega, rfl, rfl, hT₁, by rw [ho₁], frT_r⟩, ?_⟩
  rintro n1₁ y0₁ y1₁ y3₁ I1₁ L1₁ ⟨rfl, rfl, k₁, t1₁, hk₁, rfl, rfl, hT1₁, hout, hfr₁⟩
  rcases n1₁ with - | k₁
  · refine ⟨fun _ => ?_, fun z₁ => absurd (by decide) z₁⟩
    rw [outF, List.append_nil] at hout
    rw [hout] at hT1₁
    exact h₁ I1₁ L1₁ hT1₁ hfr₁
  · have e5₁ : nI (5 * (k₁ + 1)) - 5 = nI (5 * k₁) := by rw [show (5 : Int32) = nI 5 from rfl, subN (by omega), show 5 * (k₁ + 1) - 5 = 5 * k₁ by omega]
    have e6₁ : nI (5 * k₁) + (-5) = nI (5 * k₁) - 5 := (Int32.sub_eq_add_neg _ _).symm
    rw [e5₁, lushr_lN (Nat.lt_trans hc₁ (by decide)) (by omega), lN_i, and_31]
    have hb₁ : encN 32 l₁ / 2 ^ (5 * k₁) % 32 < 32 := Nat.mod_lt _ (by decide)
    rw [outF] at hout
    refine ⟨fun z₁ => ?_, fun _ v1₁ g1₁ => ?_⟩
    · rw [show (0 : Int32) = nI 0 from rfl, ltN (by omega) (by omega)] at z₁; omega
    subst g1₁
    rw [show (0 : Int32) = nI 0 from rfl, leN (by omega) (by omega)]
    refine ⟨fun z₁ v2₁ g2₁ => ⟨k₁, by omega, rfl, rfl, k₁, t1₁, by omega, rfl, by rw [g2₁, e6₁], hT1₁, ?_, hfr₁⟩, fun z₁ => ⟨hX₁.k, ?_⟩⟩
    · rw [if_neg (by omega), List.nil_append] at hout; exact hout
    · rw [if_pos (by omega)] at hout
      have hlen := congrArg List.length hout
      rw [List.length_append, List.length_append, List.length_append, List.length_map, List.length_singleton] at hlen
      rw [show (96 : Int32) = nI 96 from rfl, addN]
      refine s_tagByte hX₁ hT1₁ (by omega) (fun J₁ M₁ g3₁ g4₁ v6₁ g6₁ => ⟨k₁, by omega, rfl, rfl, k₁, _, by omega, rfl, by rw [g6₁, e6₁], g3₁, ?_, frT_t g4₁ hfr₁⟩)
      rw [List.append_assoc]; exact hout
theorem s_tagText {a₁ : Nat} {s₁ t₁ : List Nat} {Q₁ : MI → ML → Prop} (hX₁ : PDL K₁ N₁ R₁ x₁) (ha₁ : a₁ < 6) (hs₁ : z_ln.getD a₁ 0 = s₁.length) (hb₁ : ∀ i₁, i₁ < s₁.length → z_ch a₁ i₁ = nI (s₁.getD i₁ 0)) (hT₁ : TXT₁ I₁ x₁ t₁) (ht₁ : t₁.length + s₁.length ≤ 40) (h₁ : ∀ J₁ M₁, TXT₁ J₁ x₁ (t₁ ++ s₁) → frT₁ x₁ J₁ I₁ M₁ L₁ → Q₁ J₁ M₁) : w_X11_tagText x₁ a₁ K₁ N₁ I₁ L₁ R₁ Q₁ := by
  delta w_X11_tagText w_X11_tagText_2
  refine ⟨fun n1₁ y0₁ y1₁ y2₁ I1₁ L1₁ => y0₁ = x₁ ∧ y1₁ = a₁ ∧ ∃ i₁, i₁ ≤ s₁.length ∧ n1₁ = s₁.length - i₁ ∧ y2₁ = nI i₁ ∧ TXT₁ I1₁ x₁ (t₁ ++ s₁.take i₁) ∧ frT₁ x₁ I1₁ I₁ L1₁ L₁, ⟨s₁.length, rfl, rfl, 0, by omega, rfl, rfl, by rw [List.take_zero, List.append_nil]; exact hT₁, frT_r⟩, ?_⟩
  rintro n1₁ y0₁ y1₁ y2₁ I1₁ L1₁ ⟨rfl, rfl, i₁, hi₁, rfl, rfl, hT1₁, hfr₁⟩
  rw [hs₁, leN (by omega) (by omega)]
  refine ⟨ha₁, fun z₁ => ?_, fun z₁ => ⟨ha₁, (vp_nI (by omega)).mpr (by omega), hX₁.k, ?_⟩⟩
  · rw [show i₁ = s₁.length by omega, List.take_length] at hT1₁
    exact h₁ I1₁ L1₁ hT1₁ hfr₁
  · rw [ix_nI (by omega), hb₁ i₁ (by omega)]
    refine s_tagByte hX₁ hT1₁ (by rw [List.length_append, List.length_take]; omega) (fun J₁ M₁ g3₁ g4₁ v7₁ g7₁ => ⟨s₁.length - (i₁ + 1), by omega, rfl, rfl, i₁ + 1, by omega, rfl, by rw [g7₁, nI_1], ?_, frT_t g4₁ hfr₁⟩)
    rw [List.append_assoc] at g3₁
    rw [List.take_add_one, List.getElem?_eq_getElem (by omega)]
    rw [List.getD_eq_getElem?_getD, List.getElem?_eq_getElem (by omega)] at g3₁
    exact g3₁
theorem s_num {n₁ : Nat} {t₁ : List Nat} {Q₁ : MI → ML → Prop} (hX₁ : PDL K₁ N₁ R₁ x₁) (hn₁ : n₁ < 100000) (hT₁ : TXT₁ I₁ x₁ t₁) (ht₁ : t₁.length + (numF n₁ 5).length ≤ 40) (h₁ : ∀ J₁ M₁, TXT₁ J₁ x₁ (t₁ ++ numF n₁ 5) → frT₁ x₁ J₁ I₁ M₁ L₁ → Q₁ J₁ M₁) : w_X11_tagNumber_25 x₁ (nI n₁) 10000 K₁ N₁ I₁ L₁ R₁ Q₁ := by
  delta w_X11_tagNumber_25
  refine ⟨fun n1₁ y0₁ y2₁ y3₁ I1₁ L1₁ => y0₁ = x₁ ∧ y2₁ = nI n₁ ∧ ∃ k₁ t1₁, k₁ ≤ 5 ∧ n1₁ = k₁ ∧ y3₁ = nI (10 ^ k₁ / 10) ∧ TXT₁ I1₁ x₁ t1₁ ∧ t1₁ ++ numF n₁ k₁ = t₁ ++ numF n₁ 5 ∧ frT₁ x₁ I1₁ I₁ L1₁ L₁, ⟨5, rfl, rfl, 5, t₁, by omega, rfl, rfl, hT₁, rfl, frT_r⟩, ?_⟩
  rintro n1₁ y0₁ y2₁ y3₁ I1₁ L1₁ ⟨rfl, rfl, k₁, t1₁, hk₁, rfl, rfl, hT1₁, hout, hfr₁⟩
  rcases n1₁ with - | k₁
  · refine ⟨fun _ => ?_, fun z₁ => absurd (by decide) z₁⟩
    rw [numF, List.append_nil] at hout
    rw [hout] at hT1₁
    exact h₁ I1₁ L1₁ hT1₁ hfr₁
  · have e1₁ : 10 ^ (k₁ + 1) / 10 = 10 ^ k₁ := by rw [Nat.pow_succ, Nat.mul_div_cancel _ (by decide)]
    have hp₁ : 0 < 10 ^ k₁ := Nat.pow_pos (by decide)
    have hp2₁ : 10 ^ k₁ ≤ 10 ^ 4 := Nat.pow_le_pow_right (by decide) (by omega)
    have ed₁ : nI (10 ^ k₁) / 10 = nI (10 ^ k₁ / 10) := by rw [show (10 : Int32) = nI 10 from rfl, pk_div (by omega) (by decide) (by decide)]
    have em₁ : (48 : Int32) + (nI n₁ / nI (10 ^ k₁) - nI n₁ / nI (10 ^ k₁) / 10 * 10) = nI (48 + n₁ / 10 ^ k₁ % 10) := by
      have : n₁ / 10 ^ k₁ ≤ n₁ := Nat.div_le_self _ _
      rw [pk_div (by omega) hp₁ (by omega), show (10 : Int32) = nI 10 from rfl, pk_rem (by omega) (by decide) (by decide), show (48 : Int32) = nI 48 from rfl, addN]
    rw [numF] at hout
    have hlen := congrArg List.length hout
    rw [List.length_append, List.length_append, List.length_append] at hlen
    have tell : (10 ^ k₁ ≤ n₁ ∨ k₁ = 0) → w_X11_tagByte y0₁ (nI (48 + n₁ / 10 ^ k₁ % 10)) K₁ N₁ I1₁ L1₁ R₁ (fun I3₁ L4₁ => ∀ v5₁ : Int32, v5₁ = (nI (10 ^ k₁) / 10) → ∃ n1₁, n1₁ < k₁ + 1 ∧ ((fun n1₁ y0'₁ y2₁ y3₁ I1₁ L1₁ => y0'₁ = y0₁ ∧ y2₁ = nI n₁ ∧ ∃ k₁ t1₁, k₁ ≤ 5 ∧ n1₁ = k₁ ∧ y3₁ = nI (10 ^ k₁ / 10) ∧ TXT₁ I1₁ y0₁ t1₁ ∧ t1₁ ++ numF n₁ k₁ = t₁ ++ numF n₁ 5 ∧ frT₁ y0₁ I1₁ I₁ L1₁ L₁) : Nat → Nat → Int32 → Int32 → MI → ML → Prop) n1₁ y0₁ (nI n₁) v5₁ I3₁ L4₁) := fun z₁ => by
      rw [if_pos z₁] at hout hlen
      rw [List.length_singleton] at hlen
      refine s_tagByte hX₁ hT1₁ (by omega) (fun J₁ M₁ g3₁ g4₁ v5₁ g5₁ => ⟨k₁, by omega, rfl, rfl, k₁, _, by omega, rfl, by rw [g5₁, ed₁], g3₁, ?_, frT_t g4₁ hfr₁⟩)
      rw [List.append_assoc]; exact hout
    rw [e1₁, em₁]
    refine ⟨fun z₁ => ?_, fun _ => ⟨fun z₁ => ⟨fun y₁ => ?_, hX₁.k, tell (Or.inl ?_)⟩, fun z₁ => ⟨fun z2₁ v6₁ g6₁ => ⟨k₁, by omega, rfl, rfl, k₁, t1₁, by omega, rfl, by rw [g6₁, ed₁], hT1₁, ?_, hfr₁⟩, fun z2₁ => ⟨fun y₁ => ?_, hX₁.k, tell (Or.inr ?_)⟩⟩⟩⟩
    · rw [show (1 : Int32) = nI 1 from rfl, ltN (by omega) (by omega)] at z₁; omega
    · rw [show (0 : Int32) = nI 0 from rfl, eqN (by omega) (by omega)] at y₁; omega
    · rw [leN (by omega) (by omega)] at z₁; exact z₁
    · rw [leN (by omega) (by omega)] at z₁
      have hk0₁ : k₁ ≠ 0 := fun y₁ => z2₁ (by rw [y₁]; rfl)
      rw [if_neg (by omega), List.nil_append] at hout; exact hout
    · rw [show (0 : Int32) = nI 0 from rfl, eqN (by omega) (by omega)] at y₁; omega
    · rw [show (1 : Int32) = nI 1 from rfl, eqN (by omega) (by omega)] at z2₁
      rcases k₁ with - | k₁
      · rfl
      · have : 10 ^ 1 ≤ 10 ^ (k₁ + 1) := Nat.pow_le_pow_right (by decide) (by omega)
        omega
end UN₁
section RG₁
variable {K₁ N₁ : MK} {R₁ : MR} {L₁ : ML} {m₁ : Nat}
theorem r_word (hM₁ : MDL K₁ N₁ R₁ m₁) : ∀ (d₁ : Nat) (l₁ t₁ : List Nat) (I₁ : MI) (Q₁ : MI → Prop), l₁ ≠ [] → l₁.length ≤ d₁ → l₁.length ≤ 7 → (∀ x₁ ∈ l₁, 1 ≤ x₁ ∧ x₁ ≤ 26) → TXR₁ I₁ m₁ t₁ → t₁.length + l₁.length ≤ 48 → (∀ J₁, TXR₁ J₁ m₁ (t₁ ++ l₁.map (fun y₁ => 96 + y₁)) → frS₁ m₁ J₁ I₁ → Q₁ J₁) → wd_X12_writeWord d₁ m₁ (lN (encN 27 l₁)) K₁ N₁ I₁ L₁ R₁ Q₁
  | 0, l₁, t₁, I₁, Q₁, h0₁, h1₁, _, _, _, _, _ => absurd (List.eq_nil_of_length_eq_zero (by omega)) h0₁
  | d₁ + 1, l₁, t₁, I₁, Q₁, h0₁, h1₁, h7₁, hx₁, hT₁, ht₁, h₁ => by
    obtain ⟨l0₁, x₁, rfl⟩ : ∃ l0₁ x₁, l₁ = l0₁ ++ [x₁] := ⟨l₁.dropLast, l₁.getLast h0₁, (List.dropLast_concat_getLast _).symm⟩
    rw [List.length_append, List.length_singleton] at h1₁ h7₁ ht₁
    have hxb₁ := hx₁ x₁ (List.mem_append_right _ (List.mem_singleton.mpr rfl))
    have hx0₁ : ∀ y₁ ∈ l0₁, 1 ≤ y₁ ∧ y₁ ≤ 26 := fun y₁ hy₁ => hx₁ y₁ (List.mem_append_left _ hy₁)
    have hlt₁ : encN 27 l0₁ < 27 ^ 6 := Nat.lt_of_lt_of_le (encN_lt l0₁.length l0₁ rfl (fun y₁ hy₁ => by have := hx0₁ y₁ hy₁; omega)) (Nat.pow_le_pow_right (by decide) (by omega))
    rw [show (27 : Nat) ^ 6 = 387420489 from rfl] at hlt₁
    rw [encN_snoc]
    show w_X12_writeWord (wd_X12_writeWord d₁) m₁ _ K₁ N₁ I₁ L₁ R₁ Q₁
    have hdiv : (encN 27 l0₁ * 27 + x₁) / 27 = encN 27 l0₁ := by omega
    have hmod : (encN 27 l0₁ * 27 + x₁) % 27 = x₁ := by omega
    have e1₁ : (96 : Int32) + Int64.toInt32 (lN (encN 27 l0₁ * 27 + x₁) - lN (encN 27 l0₁ * 27 + x₁) / 27 * 27) = nI (96 + x₁) := by
      rw [show (27 : Int64) = lN 27 from rfl, pk_lRem (by omega) (by decide) (by decide), hmod, lN_i, show (96 : Int32) = nI 96 from rfl, addN]
    have e2₁ : lN (encN 27 l0₁ * 27 + x₁) / 27 = lN (encN 27 l0₁) := by rw [show (27 : Int64) = lN 27 from rfl, pk_lDiv (by omega) (by decide) (by decide), hdiv]
    delta w_X12_writeWord
    rw [e1₁, e2₁, lg_cmp_lt, show (27 : Int64) = lN 27 from rfl, pk_lLT (by omega) (by decide)]
    by_cases hl0₁ : l0₁ = []
    · subst hl0₁
      refine ⟨fun _ => ⟨hM₁.k, r_write hM₁ hT₁ (by omega) (fun J₁ g1₁ g2₁ => h₁ J₁ g1₁ g2₁)⟩, fun z₁ => absurd (show 0 * 27 + x₁ < 27 by omega) z₁⟩
    · have hge₁ : 1 ≤ encN 27 l0₁ := by
        obtain ⟨l1₁, y₁, rfl⟩ : ∃ l1₁ y₁, l0₁ = l1₁ ++ [y₁] := ⟨l0₁.dropLast, l0₁.getLast hl0₁, (List.dropLast_concat_getLast _).symm⟩
        have := hx0₁ y₁ (List.mem_append_right _ (List.mem_singleton.mpr rfl))
        rw [encN_snoc]; omega
      refine ⟨fun z₁ => absurd z₁ (by omega), fun _ => ⟨hM₁.k, r_word hM₁ d₁ l0₁ t₁ I₁ _ hl0₁ (by omega) (by omega) hx0₁ hT₁ (by omega) (fun J₁ g1₁ g2₁ => r_write hM₁ g1₁ (by rw [List.length_append, List.length_map]; omega) (fun J2₁ g3₁ g4₁ => h₁ J2₁ ?_ (frS_t g4₁ g2₁)))⟩⟩
      rw [List.map_append, ← List.append_assoc]; exact g3₁
theorem r_numD (hM₁ : MDL K₁ N₁ R₁ m₁) : ∀ (d₁ n₁ : Nat) (t₁ : List Nat) (I₁ : MI) (Q₁ : MI → Prop), 1 ≤ d₁ → d₁ ≤ 9 → n₁ < 10 ^ d₁ → TXR₁ I₁ m₁ t₁ → t₁.length + (numF n₁ d₁).length ≤ 48 → (∀ J₁, TXR₁ J₁ m₁ (t₁ ++ numF n₁ d₁) → frS₁ m₁ J₁ I₁ → Q₁ J₁) → wd_X12_writeNumber d₁ m₁ (nI n₁) K₁ N₁ I₁ L₁ R₁ Q₁
  | 0, _, _, _, _, h0₁, _, _, _, _, _ => absurd h0₁ (by decide)
  | d₁ + 1, n₁, t₁, I₁, Q₁, _, h9₁, hn₁, hT₁, ht₁, h₁ => by
    have hn9₁ : n₁ < 10 ^ 9 := Nat.lt_of_lt_of_le hn₁ (Nat.pow_le_pow_right (by decide) h9₁)
    rw [show (10 : Nat) ^ 9 = 1000000000 from rfl] at hn9₁
    show w_X12_writeNumber (wd_X12_writeNumber d₁) m₁ _ K₁ N₁ I₁ L₁ R₁ Q₁
    have e1₁ : (48 : Int32) + (nI n₁ - nI n₁ / 10 * 10) = nI (48 + n₁ % 10) := by
      rw [show (10 : Int32) = nI 10 from rfl, pk_rem (by omega) (by decide) (by decide), show (48 : Int32) = nI 48 from rfl, addN]
    have e2₁ : nI n₁ / 10 = nI (n₁ / 10) := by rw [show (10 : Int32) = nI 10 from rfl, pk_div (by omega) (by decide) (by decide)]
    delta w_X12_writeNumber
    rw [e1₁, e2₁, show (9 : Int32) = nI 9 from rfl, leN (by omega) (by omega)]
    refine ⟨fun z₁ => ⟨hM₁.k, ?_⟩, fun z₁ => ⟨hM₁.k, ?_⟩⟩
    · rw [numF_1 z₁] at h₁ ht₁
      rw [Nat.mod_eq_of_lt (by omega)]
      exact r_write hM₁ hT₁ (by rw [List.length_singleton] at ht₁; omega) (fun J₁ g1₁ g2₁ => h₁ J₁ g1₁ g2₁)
    · obtain ⟨e₁, rfl⟩ : ∃ e₁, d₁ = e₁ + 1 := ⟨d₁ - 1, by
        rcases d₁ with - | d₁
        · rw [Nat.zero_add, Nat.pow_one] at hn₁; omega
        · omega⟩
      rw [numF_s (by omega)] at h₁ ht₁
      rw [List.length_append, List.length_singleton] at ht₁
      refine r_numD hM₁ (e₁ + 1) (n₁ / 10) t₁ I₁ _ (by omega) (by omega) ?_ hT₁ (by omega) (fun J₁ g1₁ g2₁ => r_write hM₁ g1₁ (by rw [List.length_append]; omega) (fun J2₁ g3₁ g4₁ => h₁ J2₁ ?_ (frS_t g4₁ g2₁)))
      · rw [Nat.div_lt_iff_lt_mul (by decide), ← Nat.pow_succ]; exact hn₁
      · rw [← List.append_assoc]; exact g3₁
end RG₁
