/-! ===== unpacked: the class's loop ===== -/
section UN₁
variable {K₁ N₁ : MK} {I₁ : MI} {L₁ : ML} {R₁ : MR} {x₁ n₁ : Nat} {B₁ : Nat → Nat}
/-- the state of an unpacking -/
def UST₁ (I₁ : MI) (x₁ a₁ : Nat) (l₁ : Int32) (rs₁ : List (Nat × Int32)) : Prop := RWT₁ I₁ (x₁ + 70) rs₁ ∧ I₁ (x₁ + 63) 3 = nI a₁ ∧ I₁ (x₁ + 63) 4 = l₁
theorem s_unpackOp {p₁ a₁ : Nat} {l₁ : Int32} {rs₁ : List (Nat × Int32)} {Q₁ : Bool → MI → ML → Prop} (hX₁ : PDL K₁ N₁ R₁ x₁) (hn₁ : I₁ (x₁ + 1) 1 = nI n₁) (h940 : n₁ ≤ 940) (hB₁ : TAP₁ I₁ (x₁ + 2) B₁ n₁) (hb₁ : ∀ i₁, B₁ i₁ < 256)
    (hS₁ : UST₁ I₁ x₁ a₁ l₁ rs₁) (ha₁ : a₁ < 256) (hrs₁ : ∀ i₁, i₁ < rs₁.length → (rs₁.getD i₁ (0, 0)).1 < 256) (hp₁ : p₁ < n₁) (h0₁ : B₁ p₁ ≠ 0) (h410 : ¬ (4 < B₁ p₁ ∧ B₁ p₁ < 10)) (h2₁ : B₁ p₁ = 2 → p₁ + 2 ≤ n₁) (h3₁ : B₁ p₁ = 3 → p₁ + 3 ≤ n₁)
    (hno₁ : upO₁ B₁ n₁ p₁ a₁ l₁ rs₁ = none → ∀ J₁ M₁, J₁ (x₁ + 70) = I₁ (x₁ + 70) → frUp x₁ J₁ I₁ M₁ L₁ → Q₁ false J₁ M₁)
    (h₁ : ∀ k₁ a'₁ l'₁ rs'₁, upO₁ B₁ n₁ p₁ a₁ l₁ rs₁ = some (k₁, a'₁, l'₁, rs'₁) → a'₁ < 256 → (∀ i₁, i₁ < rs'₁.length → (rs'₁.getD i₁ (0, 0)).1 < 256) → ∀ J₁ M₁, UST₁ J₁ x₁ a'₁ l'₁ rs'₁ → frUp x₁ J₁ I₁ M₁ L₁ → Q₁ true J₁ M₁) : w_X4_unpackOp (x₁ + 63) (x₁ + 1) (nI p₁) K₁ N₁ I₁ L₁ R₁ Q₁ := by
  have hbp₁ := hb₁ p₁
  have ap₁ : ∀ (a'₁ : Nat) (l'₁ : Int32), a'₁ < 256 → ∀ i₁, i₁ < (rs₁ ++ [(a'₁, l'₁)]).length → ((rs₁ ++ [(a'₁, l'₁)]).getD i₁ (0, 0)).1 < 256 := fun a'₁ l'₁ q₁ i₁ hi₁ => by
    rw [List.length_append, List.length_singleton] at hi₁
    rw [getD_sn _ _ _ _ hi₁]
    split
    · exact q₁
    · exact hrs₁ i₁ (by omega)
  obtain ⟨hT₁, e3₁, e4₁⟩ := hS₁
  delta w_X4_unpackOp
  refine ⟨hX₁.tok, s_byteOf hX₁.toc hn₁ h940 hB₁ (by omega) (fun _ => ?_) (fun z₁ => absurd hp₁ z₁)⟩
  rw [show (1 : Int32) = nI 1 from rfl, eqN (by omega) (by omega), show (2 : Int32) = nI 2 from rfl, eqN (by omega) (by omega), show (3 : Int32) = nI 3 from rfl, eqN (by omega) (by omega), show (4 : Int32) = nI 4 from rfl, eqN (by omega) (by omega)]
  refine ⟨fun b1₁ => ⟨fun b2₁ => ⟨fun b3₁ => ⟨fun b4₁ => ?_, fun b4₁ => ?_⟩, fun b3₁ => ?_⟩, fun b2₁ => ?_⟩, fun b1₁ => ?_⟩
  · have b10₁ : 10 ≤ B₁ p₁ := by omega
    refine ⟨hX₁.pak, fun I4₁ g4₁ I5₁ g5₁ => ?_⟩
    have ea₁ : (nI (B₁ p₁) - 10) / 12 = nI ((B₁ p₁ - 10) / 12) := by rw [show (10 : Int32) = nI 10 from rfl, subN b10₁, show (12 : Int32) = nI 12 from rfl, pk_div (by omega) (by decide) (by decide)]
    have el₁ : (nI (B₁ p₁) - 10) - (nI (B₁ p₁) - 10) / 12 * 12 + (-4) = nI ((B₁ p₁ - 10) % 12) - 4 := by rw [show (10 : Int32) = nI 10 from rfl, subN b10₁, show (12 : Int32) = nI 12 from rfl, pk_rem (by omega) (by decide) (by decide)]; exact (Int32.sub_eq_add_neg _ _).symm
    rw [ea₁, e3₁, addN] at g4₁
    have e44₁ : I4₁ (x₁ + 63) 4 = l₁ := by rw [g4₁, mup_k (by decide)]; exact e4₁
    have e54₁ : I5₁ (x₁ + 63) 4 = l₁ + (nI ((B₁ p₁ - 10) % 12) - 4) := by
      rw [g5₁, mup_at, e44₁, ← el₁]
      rfl
    have f5₁ : ∀ b₁, b₁ ≠ x₁ + 63 → I5₁ b₁ = I₁ b₁ := fun b₁ q₁ => by rw [g5₁, mup_ne q₁, g4₁, mup_ne q₁]
    have f5'₁ : frUp x₁ I5₁ I₁ L₁ L₁ := ⟨fun b₁ q₁ _ _ => f5₁ b₁ q₁, fun _ _ => rfl⟩
    have up₁ : upO₁ B₁ n₁ p₁ a₁ l₁ rs₁ = if a₁ + (B₁ p₁ - 10) / 12 < 256 ∧ okR₁ rs₁ (a₁ + (B₁ p₁ - 10) / 12) (l₁ + (nI ((B₁ p₁ - 10) % 12) - 4)) = true then some (1, a₁ + (B₁ p₁ - 10) / 12, l₁ + (nI ((B₁ p₁ - 10) % 12) - 4), rs₁ ++ [(a₁ + (B₁ p₁ - 10) / 12, l₁ + (nI ((B₁ p₁ - 10) % 12) - 4))]) else none := by
      rw [upO₁, if_neg b1₁, if_neg b2₁, if_neg b3₁, if_neg b4₁, if_neg (by omega)]
    refine s_unpackRow hX₁ (RWT_fr hT₁ (f5₁ _ (by omega)) (f5₁ _ (by omega))) (by rw [g5₁, mup_k (by decide), g4₁, mup_at]) e54₁ (by omega) hrs₁ (fun z₁ => ?_) (fun z1₁ z2₁ J₁ M₁ r1₁ r2₁ r3₁ => ?_)
    · exact hno₁ (by rw [up₁, if_neg z₁]) _ _ (f5₁ _ (by omega)) f5'₁
    · exact h₁ _ _ _ _ (by rw [up₁, if_pos ⟨z1₁, z2₁⟩]) z1₁ (ap₁ _ _ z1₁) _ _ ⟨r1₁, by rw [r2₁, g5₁, mup_k (by decide), g4₁, mup_at], by rw [r2₁, e54₁]⟩ (frUp_t r3₁ f5'₁)
  · refine ⟨hX₁.pak, fun I10₁ g10₁ => ?_⟩
    have up₁ : upO₁ B₁ n₁ p₁ a₁ l₁ rs₁ = if a₁ + 17 < 256 then some (1, a₁ + 17, l₁, rs₁) else none := by rw [upO₁, if_neg b1₁, if_neg b2₁, if_neg b3₁, if_pos b4₁]
    have e10₁ : I10₁ (x₁ + 63) 3 = nI (a₁ + 17) := by rw [g10₁, mup_at, e3₁, show (17 : Int32) = nI 17 from rfl, addN]
    have f10₁ : ∀ b₁, b₁ ≠ x₁ + 63 → I10₁ b₁ = I₁ b₁ := fun b₁ q₁ => by rw [g10₁, mup_ne q₁]
    rw [e10₁, show (255 : Int32) = nI 255 from rfl, ltN (by omega) (by omega)]
    refine ⟨fun z₁ => hno₁ (by rw [up₁, if_neg (by omega)]) _ _ (f10₁ _ (by omega)) ⟨fun b₁ q₁ _ _ => f10₁ b₁ q₁, fun _ _ => rfl⟩, fun z₁ => h₁ _ _ _ _ (by rw [up₁, if_pos (by omega)]) (by omega) hrs₁ _ _ ⟨RWT_fr hT₁ (f10₁ _ (by omega)) (f10₁ _ (by omega)), e10₁, by rw [g10₁, mup_k (by decide)]; exact e4₁⟩ ⟨fun b₁ q₁ _ _ => f10₁ b₁ q₁, fun _ _ => rfl⟩⟩
  · have h3'₁ := h3₁ b3₁
    rw [addN, addN]
    refine s_byteOf hX₁.toc hn₁ h940 hB₁ (by omega) (fun _ => s_byteOf hX₁.toc hn₁ h940 hB₁ (by omega) (fun _ v13₁ g13₁ => ⟨hX₁.pak, ?_⟩) (fun z₁ => by omega)) (fun z₁ => by omega)
    have q1₁ := hb₁ (p₁ + 1)
    have q2₁ := hb₁ (p₁ + 2)
    rw [show (256 : Int32) = nI 256 from rfl, mulN, addN] at g13₁
    have up₁ : upO₁ B₁ n₁ p₁ a₁ l₁ rs₁ = some (3, a₁, l₁ + sgS₁ (B₁ (p₁ + 1)) (B₁ (p₁ + 2)), rs₁) := by rw [upO₁, if_neg b1₁, if_neg b2₁, if_pos b3₁, if_pos (by omega)]
    have fin₁ : ∀ I15₁ : MI, I15₁ = mup I₁ (x₁ + 63) 4 (l₁ + sgS₁ (B₁ (p₁ + 1)) (B₁ (p₁ + 2))) → ((255 : Int32) < I15₁ (x₁ + 63) 3 → Q₁ false I15₁ L₁) ∧ (¬ (255 : Int32) < I15₁ (x₁ + 63) 3 → Q₁ true I15₁ L₁) := fun I15₁ g15₁ => by
      have f15₁ : ∀ b₁, b₁ ≠ x₁ + 63 → I15₁ b₁ = I₁ b₁ := fun b₁ q₁ => by rw [g15₁, mup_ne q₁]
      rw [g15₁, mup_k (by decide), e3₁, show (255 : Int32) = nI 255 from rfl, ltN (by omega) (by omega), ← g15₁]
      exact ⟨fun z₁ => by omega, fun z₁ => h₁ _ _ _ _ up₁ ha₁ hrs₁ _ _ ⟨RWT_fr hT₁ (f15₁ _ (by omega)) (f15₁ _ (by omega)), by rw [g15₁, mup_k (by decide)]; exact e3₁, by rw [g15₁, mup_at]⟩ ⟨fun b₁ q₁ _ _ => f15₁ b₁ q₁, fun _ _ => rfl⟩⟩
    rw [g13₁, show (32768 : Int32) = nI 32768 from rfl, ltN (by omega) (by omega)]
    refine ⟨fun z₁ I15₁ g15₁ => fin₁ I15₁ (by rw [g15₁, e4₁, sgS₁, if_neg (by omega)]), fun z₁ I15₁ g15₁ => fin₁ I15₁ (by rw [g15₁, e4₁, sgS₁, if_pos (by omega)])⟩
  · have h2'₁ := h2₁ b2₁
    rw [addN]
    refine ⟨hX₁.pak, s_byteOf hX₁.toc hn₁ h940 hB₁ (by omega) (fun _ I19₁ g19₁ => ?_) (fun z₁ => by omega)⟩
    have q1₁ := hb₁ (p₁ + 1)
    have up₁ : upO₁ B₁ n₁ p₁ a₁ l₁ rs₁ = if p₁ + 1 < n₁ ∧ a₁ + B₁ (p₁ + 1) < 256 then some (2, a₁ + B₁ (p₁ + 1), l₁, rs₁) else none := by rw [upO₁, if_neg b1₁, if_pos b2₁]
    have e19₁ : I19₁ (x₁ + 63) 3 = nI (a₁ + B₁ (p₁ + 1)) := by rw [g19₁, mup_at, e3₁, addN]
    have f19₁ : ∀ b₁, b₁ ≠ x₁ + 63 → I19₁ b₁ = I₁ b₁ := fun b₁ q₁ => by rw [g19₁, mup_ne q₁]
    rw [e19₁, show (255 : Int32) = nI 255 from rfl, ltN (by omega) (by omega)]
    refine ⟨fun z₁ => hno₁ (by rw [up₁, if_neg (by omega)]) _ _ (f19₁ _ (by omega)) ⟨fun b₁ q₁ _ _ => f19₁ b₁ q₁, fun _ _ => rfl⟩, fun z₁ => h₁ _ _ _ _ (by rw [up₁, if_pos ⟨by omega, by omega⟩]) (by omega) hrs₁ _ _ ⟨RWT_fr hT₁ (f19₁ _ (by omega)) (f19₁ _ (by omega)), e19₁, by rw [g19₁, mup_k (by decide)]; exact e4₁⟩ ⟨fun b₁ q₁ _ _ => f19₁ b₁ q₁, fun _ _ => rfl⟩⟩
  · have up₁ : upO₁ B₁ n₁ p₁ a₁ l₁ rs₁ = if okR₁ rs₁ a₁ l₁ = true then some (1, a₁, l₁, rs₁ ++ [(a₁, l₁)]) else none := by rw [upO₁, if_pos b1₁]
    refine ⟨hX₁.pak, s_unpackRow hX₁ hT₁ e3₁ e4₁ (by omega) hrs₁ (fun z₁ => hno₁ (by rw [up₁, if_neg (fun y₁ => z₁ ⟨ha₁, y₁⟩)]) _ _ rfl frUp_r) (fun z1₁ z2₁ J₁ M₁ r1₁ r2₁ r3₁ => h₁ _ _ _ _ (by rw [up₁, if_pos z2₁]) z1₁ (ap₁ _ _ z1₁) _ _ ⟨r1₁, by rw [r2₁]; exact e3₁, by rw [r2₁]; exact e4₁⟩ r3₁)⟩
/-- what unpacked leaves as it was -/
def frUq (x₁ : Nat) (J₁ I₁ : MI) (M₁ L₁ : ML) : Prop := (∀ b₁, b₁ ≠ x₁ + 1 → b₁ < x₁ + 63 ∨ x₁ + 72 < b₁ ∨ b₁ = x₁ + 64 ∨ b₁ = x₁ + 66 → J₁ b₁ = I₁ b₁) ∧ (∀ y₁, y₁ ≠ 1 → J₁ (x₁ + 1) y₁ = I₁ (x₁ + 1) y₁) ∧ ∀ b₁, b₁ ≠ x₁ + 68 → b₁ ≠ x₁ + 71 → M₁ b₁ = L₁ b₁
theorem s_unpack {Q₁ : Int32 → MI → ML → Prop} (hX₁ : PDL K₁ N₁ R₁ x₁) (hn₁ : I₁ (x₁ + 1) 1 = nI n₁) (h940 : n₁ ≤ 940) (hB₁ : TAP₁ I₁ (x₁ + 2) B₁ n₁) (hb₁ : ∀ i₁, B₁ i₁ < 256) (hw₁ : I₁ (x₁ + 70) 0 = nI 2) (hw2₁ : I₁ (x₁ + 67) 0 = nI 2)
    (hbad : ∀ pl₁, upS₁ B₁ n₁ (n₁ + 1) 0 0 1 [] = .inl pl₁ → pl₁ ≤ n₁ → ∀ J₁ M₁, J₁ (x₁ + 70) 0 = nI 2 → frUp x₁ J₁ I₁ M₁ L₁ → Q₁ (nI pl₁) J₁ M₁)
    (hok₁ : ∀ rs₁, upS₁ B₁ n₁ (n₁ + 1) 0 0 1 [] = .inr rs₁ → ∀ J₁ M₁, RWT₁ J₁ (x₁ + 67) rs₁ → J₁ (x₁ + 70) 0 = nI 2 → (∀ b₁, b₁ < x₁ + 63 ∨ x₁ + 72 < b₁ ∨ b₁ = x₁ + 64 ∨ b₁ = x₁ + 66 → J₁ b₁ = I₁ b₁) → (∀ b₁, b₁ ≠ x₁ + 68 → b₁ ≠ x₁ + 71 → M₁ b₁ = L₁ b₁) → Q₁ (-1) J₁ M₁) : w_X4_unpack (x₁ + 63) (x₁ + 1) K₁ N₁ I₁ L₁ R₁ Q₁ := by
  delta w_X4_unpack w_X4_unpack_21
  refine ⟨hX₁.pak, _, hX₁.pak_r2, hX₁.pak_t2.1, s_forget hX₁.pak_t2 (fun I5₁ g5₁ I6₁ g6₁ => ?_)⟩
  have f6₁ : ∀ b₁, b₁ ≠ x₁ + 63 → b₁ ≠ x₁ + 70 → I6₁ b₁ = I₁ b₁ := fun b₁ q1₁ q2₁ => by rw [g6₁, mup_ne q1₁, g5₁, mup_ne q1₁, mup_ne q2₁]
  refine ⟨fun n1₁ y0₁ y1₁ y2₁ y3₁ I1₁ L1₁ => y0₁ = x₁ + 63 ∧ y1₁ = x₁ + 1 ∧ ∃ p₁ i₁ a₁ l₁ rs₁, y2₁ = nI p₁ ∧ y3₁ = nI i₁ ∧ i₁ ≤ p₁ ∧ p₁ ≤ n₁ + 3 ∧ n1₁ = n₁ + 1 - i₁ ∧ i₁ ≤ n₁ ∧ UST₁ I1₁ x₁ a₁ l₁ rs₁ ∧ a₁ < 256 ∧ (∀ i₁, i₁ < rs₁.length → (rs₁.getD i₁ (0, 0)).1 < 256) ∧ frUp x₁ I1₁ I₁ L1₁ L₁ ∧ upS₁ B₁ n₁ (n₁ + 1 - i₁) p₁ a₁ l₁ rs₁ = upS₁ B₁ n₁ (n₁ + 1) 0 0 1 [], ⟨n₁ + 1, rfl, rfl, 0, 0, 0, 1, [], rfl, rfl, Nat.le_refl _, by omega, rfl, by omega, ⟨⟨⟨?_, ?_, by decide⟩, fun i₁ hi₁ => absurd hi₁ (Nat.not_lt_zero i₁)⟩, ?_, ?_⟩, by decide, fun i₁ hi₁ => absurd hi₁ (Nat.not_lt_zero i₁), ⟨fun b₁ q1₁ q2₁ _ => f6₁ b₁ q1₁ q2₁, fun _ _ => rfl⟩, rfl⟩, ?_⟩
  · rw [g6₁, mup_ne (by omega), g5₁, mup_ne (by omega), mup_k (by decide)]; exact hw₁
  · rw [g6₁, mup_ne (by omega), g5₁, mup_ne (by omega), mup_at]; rfl
  · rw [g6₁, mup_k (by decide), g5₁, mup_at]; rfl
  · rw [g6₁, mup_at]
  rintro n1₁ y0₁ y1₁ y2₁ y3₁ I1₁ L1₁ ⟨rfl, rfl, p₁, i₁, a₁, l₁, rs₁, rfl, rfl, hip₁, hpn₁, rfl, hin₁, hS₁, ha₁, hrs₁, hfr₁, hu₁⟩
  obtain ⟨o₁, ho₁⟩ : ∃ o₁, n₁ + 1 - i₁ = o₁ + 1 := ⟨n₁ - i₁, by omega⟩
  rw [ho₁, upS₁] at hu₁
  have w1₁ : I1₁ (x₁ + 70) 0 = nI 2 := hS₁.1.1.1
  have e1₁ : I1₁ (x₁ + 1) 1 = nI n₁ := by rw [hfr₁.1 (x₁ + 1) (by omega) (by omega) (by omega)]; exact hn₁
  have hB1₁ : TAP₁ I1₁ (x₁ + 2) B₁ n₁ := fun j₁ hj₁ => by rw [hfr₁.1 (x₁ + 2) (by omega) (by omega) (by omega)]; exact hB₁ j₁ hj₁
  have out₁ : n₁ ≤ p₁ → Q₁ (nI n₁) I1₁ L1₁ := fun z₁ => by
    rw [if_pos z₁] at hu₁
    exact hbad n₁ hu₁.symm (Nat.le_refl n₁) I1₁ L1₁ w1₁ hfr₁
  rw [e1₁, show (940 : Int32) = nI 940 from rfl, leN (by omega) (by omega), leN (by omega) (by omega)]
  refine ⟨fun z₁ => ⟨hX₁.tok, out₁ (by omega)⟩, fun z₁ => ⟨hX₁.tok, out₁, fun zp₁ => ?_⟩⟩
  rw [if_neg zp₁] at hu₁
  have hbp₁ := hb₁ p₁
  refine s_byteOf hX₁.toc e1₁ h940 hB1₁ (by omega) (fun _ => ?_) (fun z₁ => by omega)
  have go₁ : ∀ k₁ : Nat, 1 ≤ k₁ → k₁ ≤ 3 → B₁ p₁ ≠ 0 → (B₁ p₁ = 2 → k₁ = 2) → (B₁ p₁ = 3 → k₁ = 3) → (B₁ p₁ ≠ 2 → B₁ p₁ ≠ 3 → k₁ = 1) → w_X4_unpack_78 (x₁ + 63) (x₁ + 1) (nI p₁) (nI i₁) (nI (B₁ p₁)) (nI k₁) K₁ N₁ I1₁ L1₁ R₁ (fun y0₁ y1₁ y2₁ y3₁ y4₁ y5₁ => ∃ n1₁, n1₁ < n₁ + 1 - i₁ ∧ (fun n1₁ y0₁ y1₁ y2₁ y3₁ I1₁ L1₁ => y0₁ = x₁ + 63 ∧ y1₁ = x₁ + 1 ∧ ∃ p₁ i₁ a₁ l₁ rs₁, y2₁ = nI p₁ ∧ y3₁ = nI i₁ ∧ i₁ ≤ p₁ ∧ p₁ ≤ n₁ + 3 ∧ n1₁ = n₁ + 1 - i₁ ∧ i₁ ≤ n₁ ∧ UST₁ I1₁ x₁ a₁ l₁ rs₁ ∧ a₁ < 256 ∧ (∀ i₁, i₁ < rs₁.length → (rs₁.getD i₁ (0, 0)).1 < 256) ∧ frUp x₁ I1₁ I₁ L1₁ L₁ ∧ upS₁ B₁ n₁ (n₁ + 1 - i₁) p₁ a₁ l₁ rs₁ = upS₁ B₁ n₁ (n₁ + 1) 0 0 1 [] : Nat → Nat → Nat → Int32 → Int32 → MI → ML → Prop) n1₁ y0₁ y1₁ y2₁ y3₁ y4₁ y5₁) Q₁ := fun k₁ hk1₁ hk3₁ b0₁ k2₁ k3₁ kk₁ => by
    rw [if_neg b0₁] at hu₁
    have bad₁ : upO₁ B₁ n₁ p₁ a₁ l₁ rs₁ = none → ∀ J₁ M₁, frUp x₁ J₁ I1₁ M₁ L1₁ → J₁ (x₁ + 70) 0 = nI 2 → Q₁ (nI p₁) J₁ M₁ := fun z₁ J₁ M₁ fr₁ w₁ => by
      rw [z₁] at hu₁
      exact hbad p₁ hu₁.symm (by omega) J₁ M₁ w₁ (frUp_t fr₁ hfr₁)
    have to93 : ¬ (4 < B₁ p₁ ∧ B₁ p₁ < 10) → w_X4_unpack_93 (x₁ + 63) (x₁ + 1) (nI p₁) (nI i₁) (nI k₁) K₁ N₁ I1₁ L1₁ R₁ (fun y0₁ y1₁ y2₁ y3₁ y4₁ y5₁ => ∃ n1₁, n1₁ < n₁ + 1 - i₁ ∧ (fun n1₁ y0₁ y1₁ y2₁ y3₁ I1₁ L1₁ => y0₁ = x₁ + 63 ∧ y1₁ = x₁ + 1 ∧ ∃ p₁ i₁ a₁ l₁ rs₁, y2₁ = nI p₁ ∧ y3₁ = nI i₁ ∧ i₁ ≤ p₁ ∧ p₁ ≤ n₁ + 3 ∧ n1₁ = n₁ + 1 - i₁ ∧ i₁ ≤ n₁ ∧ UST₁ I1₁ x₁ a₁ l₁ rs₁ ∧ a₁ < 256 ∧ (∀ i₁, i₁ < rs₁.length → (rs₁.getD i₁ (0, 0)).1 < 256) ∧ frUp x₁ I1₁ I₁ L1₁ L₁ ∧ upS₁ B₁ n₁ (n₁ + 1 - i₁) p₁ a₁ l₁ rs₁ = upS₁ B₁ n₁ (n₁ + 1) 0 0 1 [] : Nat → Nat → Nat → Int32 → Int32 → MI → ML → Prop) n1₁ y0₁ y1₁ y2₁ y3₁ y4₁ y5₁) Q₁ := fun h410 => by
      delta w_X4_unpack_93
      rw [addN, e1₁, ltN (by omega) (by omega)]
      refine ⟨hX₁.tok, fun z2₁ => ?_, fun z2₁ => ⟨hX₁.pak, ?_⟩⟩
      · refine bad₁ ?_ I1₁ L1₁ frUp_r w1₁
        rw [upO₁]
        by_cases c2₁ : B₁ p₁ = 2
        · rw [if_neg (by omega), if_pos c2₁, if_neg (by have := k2₁ c2₁; omega)]
        · by_cases c3₁ : B₁ p₁ = 3
          · rw [if_neg (by omega), if_neg c2₁, if_pos c3₁, if_neg (by have := k3₁ c3₁; omega)]
          · have := kk₁ c2₁ c3₁; omega
      · refine s_unpackOp hX₁ e1₁ h940 hB1₁ hb₁ hS₁ ha₁ hrs₁ (by omega) b0₁ h410 (fun c₁ => by have := k2₁ c₁; omega) (fun c₁ => by have := k3₁ c₁; omega) (fun c₁ J₁ M₁ g70₁ fr₁ => ⟨fun q₁ => absurd q₁ (by decide), fun _ => bad₁ c₁ J₁ M₁ fr₁ (by rw [g70₁]; exact w1₁)⟩) (fun k'₁ a'₁ l'₁ rs'₁ c₁ ha'₁ hrs' J₁ M₁ st₁ fr₁ => ⟨fun _ v15₁ g15₁ v16₁ g16₁ => ⟨n₁ + 1 - (i₁ + 1), by omega, rfl, rfl, p₁ + k₁, i₁ + 1, a'₁, l'₁, rs'₁, g15₁, by rw [g16₁, nI_1], by omega, by omega, rfl, by omega, st₁, ha'₁, hrs', frUp_t fr₁ hfr₁, ?_⟩, fun q₁ => absurd q₁ (by decide)⟩)
        · have kk'₁ : k'₁ = k₁ := by
            rw [upO₁] at c₁
            by_cases c1₁ : B₁ p₁ = 1
            · rw [if_pos c1₁] at c₁
              have := kk₁ (by omega) (by omega)
              split at c₁
              · cases c₁; omega
              · cases c₁
            · rw [if_neg c1₁] at c₁
              by_cases c2₁ : B₁ p₁ = 2
              · rw [if_pos c2₁] at c₁
                have := k2₁ c2₁
                split at c₁
                · cases c₁; omega
                · cases c₁
              · rw [if_neg c2₁] at c₁
                by_cases c3₁ : B₁ p₁ = 3
                · rw [if_pos c3₁] at c₁
                  have := k3₁ c3₁
                  split at c₁
                  · cases c₁; omega
                  · cases c₁
                · rw [if_neg c3₁] at c₁
                  have := kk₁ c2₁ c3₁
                  split at c₁
                  · split at c₁
                    · cases c₁; omega
                    · cases c₁
                  · split at c₁
                    · cases c₁
                    · split at c₁
                      · cases c₁; omega
                      · cases c₁
          rw [c₁] at hu₁
          rw [show n₁ + 1 - (i₁ + 1) = o₁ by omega, ← kk'₁]
          exact hu₁
    delta w_X4_unpack_78
    rw [show (4 : Int32) = nI 4 from rfl, leN (by omega) (by omega), show (10 : Int32) = nI 10 from rfl, ltN (by omega) (by omega)]
    refine ⟨fun z4₁ => to93 (by omega), fun z4₁ => ⟨fun z10₁ => ?_, fun z10₁ => to93 (by omega)⟩⟩
    refine bad₁ ?_ I1₁ L1₁ frUp_r w1₁
    rw [upO₁, if_neg (by omega), if_neg (by omega), if_neg (by omega), if_neg (by omega), if_pos (by omega)]
  rw [show (0 : Int32) = nI 0 from rfl, eqN (by omega) (by omega), show (2 : Int32) = nI 2 from rfl, eqN (by omega) (by omega), show (3 : Int32) = nI 3 from rfl, eqN (by omega) (by omega)]
  refine ⟨fun b0₁ => ⟨fun b2₁ => ⟨fun b3₁ => go₁ 1 (by decide) (by decide) b0₁ (by omega) (by omega) (fun _ _ => rfl), fun b3₁ => go₁ 3 (by decide) (by decide) b0₁ (by omega) (fun _ => rfl) (by omega)⟩, fun b2₁ => go₁ 2 (by decide) (by decide) b0₁ (fun _ => rfl) (by omega) (by omega)⟩, fun b0₁ => ⟨hX₁.pak, ?_⟩⟩
  rw [if_pos b0₁] at hu₁
  delta w_X4_unpackEnd
  rw [e1₁, show (1 : Int32) = nI 1 from rfl, addN, leN (by omega) (by omega)]
  refine ⟨hX₁.tok, fun z₁ => ⟨hX₁.pak, _, hX₁.pak_r1, _, hX₁.pak_r2, hX₁.pak_t1.1, s_tcopy hX₁.pak_t1 hX₁.pak_t2 hS₁.1.1 (by omega) (fun J₁ M₁ j1₁ j2₁ j3₁ j4₁ j5₁ j6₁ => ?_)⟩, fun z₁ => ?_⟩
  · rw [if_neg (by omega)] at hu₁
    have hl₁ := hS₁.1.1.2.2
    refine hok₁ rs₁ hu₁.symm J₁ M₁ ⟨⟨?_, j1₁, hl₁⟩, fun i₁ hi₁ => ?_⟩ ?_ (fun b₁ hb₁ => ?_) (fun b₁ q1₁ q2₁ => ?_)
    · rw [j5₁ 0 (by decide), hfr₁.1 _ (by omega) (by omega) (by omega)]; exact hw2₁
    · rw [j2₁ _ (by omega), j2₁ _ (by omega)]; exact hS₁.1.2 i₁ hi₁
    · rw [j4₁ _ (by omega) (by omega)]; exact w1₁
    · rw [j4₁ b₁ (by omega) (by omega), hfr₁.1 b₁ (by omega) (by omega) (by omega)]
    · rw [j6₁ b₁ q1₁, hfr₁.2 b₁ q2₁]
  · rw [if_pos (by omega)] at hu₁
    exact hbad (p₁ + 1) hu₁.symm (by omega) I1₁ L1₁ w1₁ hfr₁
end UN₁
