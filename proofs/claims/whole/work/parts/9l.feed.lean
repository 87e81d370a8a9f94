/-! ===== feed, end, fault: both sides ===== -/
/-- a number's bytes, the greatest first -/
def byS₁ (w₁ : Int32) (j₁ : Nat) : Nat := w₁.toBitVec.toNat / 2 ^ (24 - 8 * j₁) % 256
def apB₁ (B₁ : Nat → Nat) (n₁ : Nat) (w₁ : Int32) (i₁ : Nat) : Nat := if i₁ < n₁ then B₁ i₁ else byS₁ w₁ (i₁ - n₁)
theorem apB_lt {B₁ : Nat → Nat} {n₁ : Nat} {w₁ : Int32} (h₁ : ∀ i₁, B₁ i₁ < 256) (i₁ : Nat) : apB₁ B₁ n₁ w₁ i₁ < 256 := by
  rw [apB₁]
  split
  · exact h₁ i₁
  · exact Nat.mod_lt _ (by decide)
theorem ushr_k (w₁ : Int32) {k₁ : Nat} (hk₁ : k₁ < 32) : ushr w₁ (nI k₁) = nI (w₁.toBitVec.toNat / 2 ^ k₁) := by
  apply Int32.toBitVec_inj.mp
  show (w₁.toUInt32 >>> ((nI k₁).toUInt32 &&& Int32.toUInt32 31)).toBitVec = BitVec.ofNat 32 (w₁.toBitVec.toNat / 2 ^ k₁)
  rw [UInt32.toBitVec_shiftRight]
  have h2₁ : ((((nI k₁).toUInt32 &&& Int32.toUInt32 31).toBitVec % 32).toNat) = k₁ := by
    revert hk₁
    revert k₁
    decide
  apply BitVec.eq_of_toNat_eq
  rw [BitVec.ushiftRight_eq', h2₁, BitVec.toNat_ushiftRight, Nat.shiftRight_eq_div_pow, BitVec.toNat_ofNat]
  have h3₁ := w₁.toBitVec.isLt
  have h4₁ : w₁.toBitVec.toNat / 2 ^ k₁ ≤ w₁.toBitVec.toNat := Nat.div_le_self _ _
  exact (Nat.mod_eq_of_lt (Nat.lt_of_le_of_lt h4₁ h3₁)).symm
theorem and_255 (n₁ : Nat) : nI n₁ &&& 255 = nI (n₁ % 256) := by
  apply Int32.toBitVec_inj.mp
  rw [Int32.toBitVec_and]
  apply BitVec.eq_of_toNat_eq
  rw [BitVec.toNat_and]
  show (BitVec.ofNat 32 n₁).toNat &&& 255 = (BitVec.ofNat 32 (n₁ % 256)).toNat
  rw [BitVec.toNat_ofNat, BitVec.toNat_ofNat, show (255 : Nat) = 2 ^ 8 - 1 from rfl, Nat.and_two_pow_sub_one_eq_mod]
  omega
section UN₁
variable {K₁ N₁ : MK} {I₁ : MI} {L₁ : ML} {R₁ : MR} {t₁ n₁ x₁ : Nat} {B₁ : Nat → Nat}
theorem s_putInt {w₁ : Int32} {Q₁ : MI → Prop} (hT₁ : TOC₁ K₁ N₁ R₁ t₁) (hn₁ : I₁ t₁ 1 = nI n₁) (h940 : n₁ + 4 ≤ 940) (hB₁ : TAP₁ I₁ (t₁ + 1) B₁ n₁)
    (h₁ : ∀ J₁, J₁ t₁ 1 = nI (n₁ + 4) → TAP₁ J₁ (t₁ + 1) (apB₁ B₁ n₁ w₁) (n₁ + 4) → (∀ b₁, b₁ ≠ t₁ → b₁ ≠ t₁ + 1 → J₁ b₁ = I₁ b₁) → (∀ y₁, y₁ ≠ 1 → J₁ t₁ y₁ = I₁ t₁ y₁) → Q₁ J₁) : w_X8_putInt t₁ w₁ K₁ N₁ I₁ L₁ R₁ Q₁ := by
  delta w_X8_putInt w_X8_putInt_3
  refine ⟨fun n1₁ y0₁ y1₁ y2₁ I1₁ => y0₁ = t₁ ∧ y1₁ = w₁ ∧ ∃ k₁, k₁ ≤ 4 ∧ n1₁ = k₁ ∧ y2₁ = nI (8 * k₁) - 8 ∧ I1₁ t₁ 1 = nI (n₁ + (4 - k₁)) ∧ TAP₁ I1₁ (t₁ + 1) (apB₁ B₁ n₁ w₁) (n₁ + (4 - k₁)) ∧ (∀ b₁, b₁ ≠ t₁ → b₁ ≠ t₁ + 1 → I1₁ b₁ = I₁ b₁) ∧ (∀ y₁, y₁ ≠ 1 → I1₁ t₁ y₁ = I₁ t₁ y₁), ⟨4, rfl, rfl, 4, by decide, rfl, rfl, hn₁, fun i₁ hi₁ => by rw [apB₁, if_pos (by omega)]; exact hB₁ i₁ (by omega), fun _ _ _ => rfl, fun _ _ => rfl⟩, ?_⟩
  rintro n1₁ y0₁ y1₁ y2₁ I1₁ ⟨rfl, rfl, k₁, hk₁, rfl, rfl, e1₁, hB1₁, f1₁, f2₁⟩
  rcases n1₁ with - | k₁
  · exact ⟨fun _ => h₁ I1₁ e1₁ hB1₁ f1₁ f2₁, fun z₁ => absurd (by decide) z₁⟩
  · have e5₁ : nI (8 * (k₁ + 1)) - 8 = nI (8 * k₁) := by rw [show (8 : Int32) = nI 8 from rfl, subN (by omega), show 8 * (k₁ + 1) - 8 = 8 * k₁ by omega]
    have e6₁ : nI (8 * k₁) + (-8) = nI (8 * k₁) - 8 := (Int32.sub_eq_add_neg _ _).symm
    rw [e5₁, e1₁, show (940 : Int32) = nI 940 from rfl, leN (by omega) (by omega), ix_nI (by omega), ushr_k y1₁ (by omega), and_255]
    refine ⟨fun z₁ => ?_, fun _ => ⟨hT₁.1, fun z₁ => by omega, fun z₁ => ⟨_, hT₁.2.1, hT₁.2.2.1, by rw [hT₁.2.2.2]; exact (vp_nI (by omega)).mpr (by omega), fun I6₁ g6₁ I7₁ g7₁ v8₁ g8₁ => ⟨k₁, by omega, rfl, rfl, k₁, by omega, rfl, by rw [g8₁, e6₁], ?_, fun i₁ hi₁ => ?_, fun b₁ q1₁ q2₁ => by rw [g7₁, mup_ne q1₁, g6₁, mup_ne q2₁, f1₁ b₁ q1₁ q2₁], fun y₁ hy₁ => by rw [g7₁, mup_k hy₁, g6₁, mup_ne (by omega), f2₁ y₁ hy₁]⟩⟩⟩⟩
    · rw [show (0 : Int32) = nI 0 from rfl, ltN (by omega) (by omega)] at z₁; omega
    · rw [g7₁, mup_at, g6₁, mup_ne (by omega), e1₁, nI_1, show n₁ + (4 - (k₁ + 1)) + 1 = n₁ + (4 - k₁) by omega]
    · rw [g7₁, mup_ne (by omega), g6₁]
      by_cases q₁ : i₁ = n₁ + (4 - (k₁ + 1))
      · rw [q₁, mup_at, apB₁, if_neg (by omega), byS₁, show 24 - 8 * (n₁ + (4 - (k₁ + 1)) - n₁) = 8 * k₁ by omega]
      · rw [mup_k q₁]; exact hB1₁ i₁ (by omega)
/-- five numbers put behind -/
def fdB₁ (B₁ : Nat → Nat) (n₁ : Nat) (a₁ b₁ c₁ d₁ e₁ : Int32) : Nat → Nat := apB₁ (apB₁ (apB₁ (apB₁ (apB₁ B₁ n₁ a₁) (n₁ + 4) b₁) (n₁ + 8) c₁) (n₁ + 12) d₁) (n₁ + 16) e₁
theorem PDL.toc (hX₁ : PDL K₁ N₁ R₁ x₁) : TOC₁ K₁ N₁ R₁ (x₁ + 1) := ⟨hX₁.tok, hX₁.tok_r, hX₁.tok_k, hX₁.tok_n⟩
theorem s_feed {a₁ b₁ c₁ d₁ e₁ : Int32} {Q₁ : Int32 → MI → Prop} (hX₁ : PDL K₁ N₁ R₁ x₁) (hn₁ : I₁ (x₁ + 1) 1 = nI n₁) (h940 : n₁ ≤ 940) (hB₁ : TAP₁ I₁ (x₁ + 2) B₁ n₁)
    (hno₁ : ¬ n₁ + 20 ≤ 940 → Q₁ (-1) I₁)
    (h₁ : n₁ + 20 ≤ 940 → ∀ J₁, J₁ (x₁ + 1) 1 = nI (n₁ + 20) → TAP₁ J₁ (x₁ + 2) (fdB₁ B₁ n₁ a₁ b₁ c₁ d₁ e₁) (n₁ + 20) → (∀ b₁, b₁ ≠ x₁ + 1 → b₁ ≠ x₁ + 2 → J₁ b₁ = I₁ b₁) → (∀ y₁, y₁ ≠ 1 → J₁ (x₁ + 1) y₁ = I₁ (x₁ + 1) y₁) → Q₁ (nI (n₁ + 20)) J₁) : w_X11_feed x₁ a₁ b₁ c₁ d₁ e₁ K₁ N₁ I₁ L₁ R₁ Q₁ := by
  delta w_X11_feed
  refine ⟨hX₁.k, _, hX₁.r_tokens, hX₁.tok, ?_⟩
  rw [hn₁, show (20 : Int32) = nI 20 from rfl, addN, show (940 : Int32) = nI 940 from rfl, leN (by omega) (by omega)]
  refine ⟨fun z₁ => ?_, hno₁⟩
  refine s_putInt hX₁.toc hn₁ (by omega) hB₁ (fun J1₁ a1₁ b1₁ c1₁ d1₁ => s_putInt hX₁.toc a1₁ (by omega) b1₁ (fun J2₁ a2₁ b2₁ c2₁ d2₁ => s_putInt hX₁.toc a2₁ (by omega) b2₁ (fun J3₁ a3₁ b3₁ c3₁ d3₁ => s_putInt hX₁.toc a3₁ (by omega) b3₁ (fun J4₁ a4₁ b4₁ c4₁ d4₁ => s_putInt hX₁.toc a4₁ (by omega) b4₁ (fun J5₁ a5₁ b5₁ c5₁ d5₁ => ?_)))))
  rw [a5₁]
  exact h₁ z₁ J5₁ a5₁ b5₁ (fun b₁ q1₁ q2₁ => by rw [c5₁ b₁ q1₁ q2₁, c4₁ b₁ q1₁ q2₁, c3₁ b₁ q1₁ q2₁, c2₁ b₁ q1₁ q2₁, c1₁ b₁ q1₁ q2₁]) (fun y₁ hy₁ => by rw [d5₁ y₁ hy₁, d4₁ y₁ hy₁, d3₁ y₁ hy₁, d2₁ y₁ hy₁, d1₁ y₁ hy₁])
theorem s_end {k₁ : Int32} {Q₁ : Bool → MI → Prop} (hX₁ : PDL K₁ N₁ R₁ x₁) (hn₁ : I₁ (x₁ + 1) 1 = nI n₁) (h940 : n₁ ≤ 940)
    (hno₁ : (∀ j₁, k₁ = nI j₁ → ¬ j₁ ≤ n₁) → Q₁ false I₁) (h₁ : ∀ j₁, k₁ = nI j₁ → j₁ ≤ n₁ → Q₁ true (mup I₁ (x₁ + 1) 1 (nI j₁))) : w_X11_end x₁ k₁ K₁ N₁ I₁ L₁ R₁ Q₁ := by
  delta w_X11_end
  refine ⟨fun z₁ => hno₁ (fun j₁ e₁ hj₁ => ?_), fun z₁ => ⟨hX₁.k, _, hX₁.r_tokens, hX₁.tok, ?_⟩⟩
  · rw [e₁] at z₁; exact absurd z₁ (nlt0 (by omega))
  · obtain ⟨j₁, hj₁, rfl⟩ := nI_of z₁
    rw [hn₁, leN hj₁ (by omega)]
    refine ⟨fun y₁ I4₁ g4₁ => by rw [g4₁]; exact h₁ j₁ rfl y₁, fun y₁ => hno₁ (fun i₁ e₁ hi₁ => ?_)⟩
    rw [eqN hj₁ (by omega)] at e₁
    omega
theorem s_fault {Q₁ : Int32 → Prop} (hX₁ : PDL K₁ N₁ R₁ x₁) (h₁ : Q₁ (I₁ (x₁ + 1) 10)) : w_X11_fault x₁ K₁ N₁ I₁ L₁ R₁ Q₁ := ⟨hX₁.k, _, hX₁.r_tokens, hX₁.tok, h₁⟩
end UN₁
section RG₁
variable {K₁ N₁ : MK} {I₁ : MI} {L₁ : ML} {R₁ : MR} {m₁ n₁ : Nat} {B₁ : Nat → Nat}
theorem r_come {w₁ : Int32} {Q₁ : MI → Prop} (hM₁ : MDL K₁ N₁ R₁ m₁) (hn₁ : I₁ m₁ 2 = nI n₁) (h940 : n₁ + 4 ≤ 940) (hB₁ : TAP₁ I₁ (m₁ + 1) B₁ n₁)
    (h₁ : ∀ J₁, J₁ m₁ 2 = nI (n₁ + 4) → TAP₁ J₁ (m₁ + 1) (apB₁ B₁ n₁ w₁) (n₁ + 4) → (∀ b₁, b₁ ≠ m₁ → b₁ ≠ m₁ + 1 → J₁ b₁ = I₁ b₁) → (∀ y₁, y₁ ≠ 2 → J₁ m₁ y₁ = I₁ m₁ y₁) → Q₁ J₁) : w_X12_come m₁ w₁ K₁ N₁ I₁ L₁ R₁ Q₁ := by
  delta w_X12_come w_X12_come_3
  refine ⟨fun n1₁ y0₁ y1₁ y2₁ I1₁ => y0₁ = m₁ ∧ y1₁ = w₁ ∧ ∃ k₁, k₁ ≤ 4 ∧ n1₁ = k₁ ∧ y2₁ = nI (8 * k₁) - 8 ∧ I1₁ m₁ 2 = nI (n₁ + (4 - k₁)) ∧ TAP₁ I1₁ (m₁ + 1) (apB₁ B₁ n₁ w₁) (n₁ + (4 - k₁)) ∧ (∀ b₁, b₁ ≠ m₁ → b₁ ≠ m₁ + 1 → I1₁ b₁ = I₁ b₁) ∧ (∀ y₁, y₁ ≠ 2 → I1₁ m₁ y₁ = I₁ m₁ y₁), ⟨4, rfl, rfl, 4, by decide, rfl, rfl, hn₁, fun i₁ hi₁ => by rw [apB₁, if_pos (by omega)]; exact hB₁ i₁ (by omega), fun _ _ _ => rfl, fun _ _ => rfl⟩, ?_⟩
  rintro n1₁ y0₁ y1₁ y2₁ I1₁ ⟨rfl, rfl, k₁, hk₁, rfl, rfl, e1₁, hB1₁, f1₁, f2₁⟩
  rcases n1₁ with - | k₁
  · exact ⟨fun _ => h₁ I1₁ e1₁ hB1₁ f1₁ f2₁, fun z₁ => absurd (by decide) z₁⟩
  · have e5₁ : nI (8 * (k₁ + 1)) - 8 = nI (8 * k₁) := by rw [show (8 : Int32) = nI 8 from rfl, subN (by omega), show 8 * (k₁ + 1) - 8 = 8 * k₁ by omega]
    have e6₁ : nI (8 * k₁) + (-8) = nI (8 * k₁) - 8 := (Int32.sub_eq_add_neg _ _).symm
    rw [e5₁, e1₁, ix_nI (by omega), ushr_k y1₁ (by omega), and_255]
    refine ⟨fun z₁ => ?_, fun _ => ⟨hM₁.k, _, hM₁.r1, hM₁.k1, by rw [hM₁.n1]; exact (vp_nI (by omega)).mpr (by omega), fun I6₁ g6₁ I7₁ g7₁ v8₁ g8₁ => ⟨k₁, by omega, rfl, rfl, k₁, by omega, rfl, by rw [g8₁, e6₁], ?_, fun i₁ hi₁ => ?_, fun b₁ q1₁ q2₁ => by rw [g7₁, mup_ne q1₁, g6₁, mup_ne q2₁, f1₁ b₁ q1₁ q2₁], fun y₁ hy₁ => by rw [g7₁, mup_k hy₁, g6₁, mup_ne (by omega), f2₁ y₁ hy₁]⟩⟩⟩
    · rw [show (0 : Int32) = nI 0 from rfl, ltN (by omega) (by omega)] at z₁; omega
    · rw [g7₁, mup_at, g6₁, mup_ne (by omega), e1₁, nI_1, show n₁ + (4 - (k₁ + 1)) + 1 = n₁ + (4 - k₁) by omega]
    · rw [g7₁, mup_ne (by omega), g6₁]
      by_cases q₁ : i₁ = n₁ + (4 - (k₁ + 1))
      · rw [q₁, mup_at, apB₁, if_neg (by omega), byS₁, show 24 - 8 * (n₁ + (4 - (k₁ + 1)) - n₁) = 8 * k₁ by omega]
      · rw [mup_k q₁]; exact hB1₁ i₁ (by omega)
theorem r_feed {a₁ b₁ c₁ d₁ e₁ : Int32} {Q₁ : Int32 → MI → Prop} (hM₁ : MDL K₁ N₁ R₁ m₁) (hn₁ : I₁ m₁ 2 = nI n₁) (h940 : n₁ ≤ 940) (hB₁ : TAP₁ I₁ (m₁ + 1) B₁ n₁)
    (hno₁ : ¬ n₁ + 20 ≤ 940 → Q₁ (-1) (mup I₁ m₁ 0 0))
    (h₁ : n₁ + 20 ≤ 940 → ∀ J₁, J₁ m₁ 2 = nI (n₁ + 20) → TAP₁ J₁ (m₁ + 1) (fdB₁ B₁ n₁ a₁ b₁ c₁ d₁ e₁) (n₁ + 20) → (∀ b₁, b₁ ≠ m₁ → b₁ ≠ m₁ + 1 → J₁ b₁ = I₁ b₁) → (∀ y₁, y₁ ≠ 2 → y₁ ≠ 0 → J₁ m₁ y₁ = I₁ m₁ y₁) → Q₁ (nI (n₁ + 20)) J₁) : w_X12_feed m₁ a₁ b₁ c₁ d₁ e₁ K₁ N₁ I₁ L₁ R₁ Q₁ := by
  delta w_X12_feed
  refine ⟨hM₁.k, fun I2₁ g2₁ => ?_⟩
  rw [← g2₁] at hno₁
  have hn2₁ : I2₁ m₁ 2 = nI n₁ := by rw [g2₁, mup_k (by decide)]; exact hn₁
  rw [hn2₁, show (20 : Int32) = nI 20 from rfl, addN, show (940 : Int32) = nI 940 from rfl, leN (by omega) (by omega)]
  refine ⟨fun z₁ => ?_, hno₁⟩
  refine r_come hM₁ hn2₁ (by omega) (fun i₁ hi₁ => by rw [g2₁, mup_ne (by omega)]; exact hB₁ i₁ hi₁) (fun J1₁ a1₁ b1₁ c1₁ d1₁ => r_come hM₁ a1₁ (by omega) b1₁ (fun J2₁ a2₁ b2₁ c2₁ d2₁ => r_come hM₁ a2₁ (by omega) b2₁ (fun J3₁ a3₁ b3₁ c3₁ d3₁ => r_come hM₁ a3₁ (by omega) b3₁ (fun J4₁ a4₁ b4₁ c4₁ d4₁ => r_come hM₁ a4₁ (by omega) b4₁ (fun J5₁ a5₁ b5₁ c5₁ d5₁ => ?_)))))
  rw [a5₁]
  exact h₁ z₁ J5₁ a5₁ b5₁ (fun b₁ q1₁ q2₁ => by rw [c5₁ b₁ q1₁ q2₁, c4₁ b₁ q1₁ q2₁, c3₁ b₁ q1₁ q2₁, c2₁ b₁ q1₁ q2₁, c1₁ b₁ q1₁ q2₁, g2₁, mup_ne q1₁]) (fun y₁ hy₁ h0₁ => by rw [d5₁ y₁ hy₁, d4₁ y₁ hy₁, d3₁ y₁ hy₁, d2₁ y₁ hy₁, d1₁ y₁ hy₁, g2₁, mup_k h0₁])
theorem r_end {k₁ : Int32} {Q₁ : Bool → MI → Prop} (hM₁ : MDL K₁ N₁ R₁ m₁) (hn₁ : I₁ m₁ 2 = nI n₁) (h940 : n₁ ≤ 940)
    (hno₁ : (∀ j₁, k₁ = nI j₁ → ¬ j₁ ≤ n₁) → Q₁ false (mup I₁ m₁ 0 0)) (h₁ : ∀ j₁, k₁ = nI j₁ → j₁ ≤ n₁ → Q₁ true (mup (mup I₁ m₁ 0 0) m₁ 2 (nI j₁))) : w_X12_end m₁ k₁ K₁ N₁ I₁ L₁ R₁ Q₁ := by
  delta w_X12_end
  refine ⟨hM₁.k, fun I2₁ g2₁ => ?_⟩
  rw [← g2₁] at hno₁ h₁
  have hn2₁ : I2₁ m₁ 2 = nI n₁ := by rw [g2₁, mup_k (by decide)]; exact hn₁
  refine ⟨fun z₁ => hno₁ (fun j₁ e₁ hj₁ => ?_), fun z₁ => ?_⟩
  · rw [e₁] at z₁; exact absurd z₁ (nlt0 (by omega))
  · obtain ⟨j₁, hj₁, rfl⟩ := nI_of z₁
    rw [hn2₁, leN hj₁ (by omega)]
    refine ⟨fun y₁ I4₁ g4₁ => by rw [g4₁]; exact h₁ j₁ rfl y₁, fun y₁ => hno₁ (fun i₁ e₁ hi₁ => ?_)⟩
    rw [eqN hj₁ (by omega)] at e₁
    omega
theorem r_fault {Q₁ : Int32 → MI → Prop} (hM₁ : MDL K₁ N₁ R₁ m₁) (h₁ : Q₁ (I₁ m₁ 10) (mup I₁ m₁ 0 0)) : w_X12_fault m₁ K₁ N₁ I₁ L₁ R₁ Q₁ := by
  delta w_X12_fault
  refine ⟨hM₁.k, fun I2₁ g2₁ => ?_⟩
  rw [g2₁, mup_k (by decide)]; exact h₁
end RG₁
