/-! ===== unpacked: the reference's call ===== -/
section RG₁
variable {K₁ N₁ : MK} {I₁ : MI} {L₁ : ML} {R₁ : MR} {m₁ n₁ : Nat} {B₁ : Nat → Nat}
/-- what unpacked leaves as it was -/
def frVs (m₁ : Nat) (J₁ I₁ : MI) : Prop := (∀ b₁, b₁ ≠ m₁ → b₁ ≠ m₁ + 18 → b₁ ≠ m₁ + 19 → b₁ ≠ m₁ + 20 → b₁ ≠ m₁ + 21 → J₁ b₁ = I₁ b₁) ∧ ∀ y₁, y₁ ≠ 0 → y₁ ≠ 2 → y₁ ≠ 42 → y₁ ≠ 43 → y₁ ≠ 44 → y₁ ≠ 45 → J₁ m₁ y₁ = I₁ m₁ y₁
theorem r_unpCopy {a₁ : Nat} {l₁ : Int32} {rs₁ : List (Nat × Int32)} {Q₁ : Int32 → MI → Prop} (hM₁ : MDL K₁ N₁ R₁ m₁) (hS₁ : USR₁ I₁ m₁ a₁ l₁ rs₁)
    (h₁ : ∀ J₁, RWR₁ J₁ (m₁ + 20) (m₁ + 21) rs₁ → (∀ b₁, b₁ ≠ m₁ + 20 → b₁ ≠ m₁ + 21 → J₁ b₁ = I₁ b₁) → Q₁ (nI rs₁.length) J₁) : w_X12_unpacked_95 m₁ 0 K₁ N₁ I₁ L₁ R₁ Q₁ := by
  obtain ⟨⟨hl₁, hr₁⟩, e42₁, e44₁, e45₁⟩ := hS₁
  delta w_X12_unpacked_95
  refine ⟨fun n1₁ y0₁ y1₁ I1₁ => y0₁ = m₁ ∧ ∃ j₁, y1₁ = nI j₁ ∧ j₁ ≤ rs₁.length ∧ n1₁ = rs₁.length - j₁ ∧ (∀ b₁, b₁ ≠ m₁ + 20 → b₁ ≠ m₁ + 21 → I1₁ b₁ = I₁ b₁) ∧ ∀ i₁, i₁ < j₁ → I1₁ (m₁ + 20) i₁ = I₁ (m₁ + 18) i₁ ∧ I1₁ (m₁ + 21) i₁ = I₁ (m₁ + 19) i₁, ⟨rs₁.length, rfl, 0, rfl, Nat.zero_le _, rfl, fun _ _ _ => rfl, fun i₁ hi₁ => absurd hi₁ (Nat.not_lt_zero i₁)⟩, ?_⟩
  rintro n1₁ y0₁ y1₁ I1₁ ⟨rfl, j₁, rfl, hj₁, rfl, fr₁, hc₁⟩
  rw [fr₁ y0₁ (by omega) (by omega), e42₁, leN (by omega) (by omega)]
  refine ⟨hM₁.k, fun z₁ => ?_, fun z₁ => ?_⟩
  · refine h₁ I1₁ ⟨hl₁, fun i₁ hi₁ => ?_⟩ fr₁
    rw [(hc₁ i₁ (by omega)).1, (hc₁ i₁ (by omega)).2]
    exact hr₁ i₁ hi₁
  · refine ⟨_, hM₁.r40, _, hM₁.r38, hM₁.k18, by rw [hM₁.n18]; exact (vp_nI (by omega)).mpr (by omega), hM₁.k20, by rw [hM₁.n20]; exact (vp_nI (by omega)).mpr (by omega), fun I17₁ g17₁ => ⟨_, hM₁.r41, _, hM₁.r39, hM₁.k19, by rw [hM₁.n19]; exact (vp_nI (by omega)).mpr (by omega), hM₁.k21, by rw [hM₁.n21]; exact (vp_nI (by omega)).mpr (by omega), fun I24₁ g24₁ v25₁ g25₁ => ⟨rs₁.length - (j₁ + 1), by omega, rfl, j₁ + 1, by rw [g25₁, nI_1], by omega, rfl, fun b₁ q1₁ q2₁ => ?_, fun i₁ hi₁ => ?_⟩⟩⟩
    · rw [g24₁, mup_ne q2₁, g17₁, mup_ne q1₁]; exact fr₁ b₁ q1₁ q2₁
    · rw [ix_nI (by omega)] at g17₁ g24₁
      rw [g24₁, mup_ne (by omega), g17₁, mup_ne (show y0₁ + 19 ≠ y0₁ + 20 by omega), fr₁ (y0₁ + 18) (by omega) (by omega), fr₁ (y0₁ + 19) (by omega) (by omega)]
      by_cases q₁ : i₁ = j₁
      · rw [q₁, mup_at, mup_at]; exact ⟨rfl, rfl⟩
      · rw [mup_k q₁, mup_k q₁, mup_ne (by omega)]; exact hc₁ i₁ (by omega)
theorem r_unpacked {Q₁ : Int32 → MI → Prop} (hM₁ : MDL K₁ N₁ R₁ m₁) (hn₁ : I₁ m₁ 2 = nI n₁) (h940 : n₁ ≤ 940) (hB₁ : TAP₁ I₁ (m₁ + 1) B₁ n₁) (hb₁ : ∀ i₁, B₁ i₁ < 256)
    (hbad : ∀ pl₁, upS₁ B₁ n₁ (n₁ + 1) 0 0 1 [] = .inl pl₁ → ∀ J₁, J₁ m₁ 2 = 0 → frVs m₁ J₁ I₁ → J₁ (m₁ + 20) = I₁ (m₁ + 20) → J₁ (m₁ + 21) = I₁ (m₁ + 21) → J₁ m₁ 43 = I₁ m₁ 43 → Q₁ ((-1 : Int32) - nI pl₁) J₁)
    (hok₁ : ∀ rs₁, upS₁ B₁ n₁ (n₁ + 1) 0 0 1 [] = .inr rs₁ → ∀ J₁, RWR₁ J₁ (m₁ + 20) (m₁ + 21) rs₁ → J₁ m₁ 43 = nI rs₁.length → J₁ m₁ 2 = 0 → frVs m₁ J₁ I₁ → Q₁ (nI rs₁.length) J₁) : w_X12_unpacked m₁ K₁ N₁ I₁ L₁ R₁ Q₁ := by
  delta w_X12_unpacked w_X12_take
  refine ⟨hM₁.k, fun I2₁ g2₁ => ⟨hM₁.k, fun v3₁ g3₁ I4₁ g4₁ I5₁ g5₁ I6₁ g6₁ I7₁ g7₁ => ?_⟩⟩
  rw [g2₁, mup_k (by decide), hn₁] at g3₁
  subst g3₁
  have f7₁ : ∀ b₁, b₁ ≠ m₁ → I7₁ b₁ = I₁ b₁ := fun b₁ q₁ => by rw [g7₁, mup_ne q₁, g6₁, mup_ne q₁, g5₁, mup_ne q₁, g4₁, mup_ne q₁, g2₁, mup_ne q₁]
  have f7'₁ : ∀ y₁, y₁ ≠ 0 → y₁ ≠ 2 → y₁ ≠ 42 → y₁ ≠ 44 → y₁ ≠ 45 → I7₁ m₁ y₁ = I₁ m₁ y₁ := fun y₁ q1₁ q2₁ q3₁ q4₁ q5₁ => by rw [g7₁, mup_k q5₁, g6₁, mup_k q4₁, g5₁, mup_k q3₁, g4₁, mup_k q2₁, g2₁, mup_k q1₁]
  have z2₁ : I7₁ m₁ 2 = 0 := by rw [g7₁, mup_k (by decide), g6₁, mup_k (by decide), g5₁, mup_k (by decide), g4₁, mup_at]
  have z42₁ : I7₁ m₁ 42 = nI 0 := by rw [g7₁, mup_k (by decide), g6₁, mup_k (by decide), g5₁, mup_at]; rfl
  have z44₁ : I7₁ m₁ 44 = nI 0 := by rw [g7₁, mup_k (by decide), g6₁, mup_at]; rfl
  have z45₁ : I7₁ m₁ 45 = 1 := by rw [g7₁, mup_at]
  have bad₁ : ∀ pl₁, upS₁ B₁ n₁ (n₁ + 1) 0 0 1 [] = .inl pl₁ → ∀ J₁, frVr m₁ J₁ I7₁ → Q₁ ((-1 : Int32) - nI pl₁) J₁ := fun pl₁ e₁ J₁ fr₁ => by
    refine hbad pl₁ e₁ J₁ (by rw [fr₁.2 2 (by decide) (by decide) (by decide)]; exact z2₁) ⟨fun b₁ q1₁ q2₁ q3₁ _ _ => by rw [fr₁.1 b₁ q1₁ q2₁ q3₁, f7₁ b₁ q1₁], fun y₁ q1₁ q2₁ q3₁ _ q4₁ q5₁ => by rw [fr₁.2 y₁ q3₁ q4₁ q5₁, f7'₁ y₁ q1₁ q2₁ q3₁ q4₁ q5₁]⟩ (by rw [fr₁.1 _ (by omega) (by omega) (by omega), f7₁ _ (by omega)]) (by rw [fr₁.1 _ (by omega) (by omega) (by omega), f7₁ _ (by omega)]) (by rw [fr₁.2 43 (by decide) (by decide) (by decide), f7'₁ 43 (by decide) (by decide) (by decide) (by decide) (by decide)])
  delta w_X12_unpacked_27
  refine ⟨fun n1₁ y0₁ y1₁ y2₁ I1₁ => y0₁ = m₁ ∧ y1₁ = nI n₁ ∧ ∃ p₁ a₁ l₁ rs₁, y2₁ = nI p₁ ∧ p₁ ≤ n₁ ∧ n₁ + 1 ≤ p₁ + n1₁ ∧ USR₁ I1₁ m₁ a₁ l₁ rs₁ ∧ a₁ < 256 ∧ (∀ i₁, i₁ < rs₁.length → (rs₁.getD i₁ (0, 0)).1 < 256) ∧ frVr m₁ I1₁ I7₁ ∧ upS₁ B₁ n₁ n1₁ p₁ a₁ l₁ rs₁ = upS₁ B₁ n₁ (n₁ + 1) 0 0 1 [], ⟨n₁ + 1, rfl, rfl, 0, 0, 1, [], rfl, Nat.zero_le _, by omega, ⟨⟨Nat.zero_le _, fun i₁ hi₁ => absurd hi₁ (Nat.not_lt_zero i₁)⟩, z42₁, z44₁, z45₁⟩, by decide, fun i₁ hi₁ => absurd hi₁ (Nat.not_lt_zero i₁), frVr_r, rfl⟩, ?_⟩
  rintro n1₁ y0₁ y1₁ y2₁ I1₁ ⟨rfl, rfl, p₁, a₁, l₁, rs₁, rfl, hp₁, hf₁, hS₁, ha₁, hrs₁, fr₁, hu₁⟩
  obtain ⟨f₁, rfl⟩ : ∃ f₁, n1₁ = f₁ + 1 := ⟨n1₁ - 1, by omega⟩
  rw [upS₁] at hu₁
  have hB1₁ : TAP₁ I1₁ (y0₁ + 1) B₁ n₁ := fun j₁ hj₁ => by rw [fr₁.1 (y0₁ + 1) (by omega) (by omega) (by omega), f7₁ _ (by omega)]; exact hB₁ j₁ hj₁
  rw [leN (by omega) (by omega)]
  refine ⟨fun z₁ => ?_, fun z₁ => ⟨hM₁.k, _, hM₁.r1, hM₁.k1, by rw [hM₁.n1]; exact (vp_nI (by omega)).mpr (by omega), ?_⟩⟩
  · delta w_X12_unpacked_63
    rw [ltN (by omega) (by omega)]
    rw [if_pos z₁] at hu₁
    exact ⟨fun q₁ => by omega, fun _ => bad₁ n₁ hu₁.symm I1₁ fr₁⟩
  · rw [if_neg z₁] at hu₁
    have hbp₁ := hb₁ p₁
    rw [ix_nI (by omega), hB1₁ p₁ (by omega), show (0 : Int32) = nI 0 from rfl, eqN (by omega) (by omega)]
    refine ⟨fun b0₁ => ?_, fun b0₁ => ?_⟩
    · rw [if_pos b0₁] at hu₁
      delta w_X12_unpacked_63
      rw [ltN (by omega) (by omega), nI_1, leN (by omega) (by omega)]
      refine ⟨fun _ => ⟨fun q₁ => ⟨hM₁.k, fun I9₁ g9₁ => ?_⟩, fun q₁ => ?_⟩, fun q₁ => by omega⟩
      · rw [if_neg (by omega)] at hu₁
        obtain ⟨⟨hl₁, hr₁⟩, e42₁, e44₁, e45₁⟩ := hS₁
        have f9₁ : ∀ b₁, b₁ ≠ y0₁ → I9₁ b₁ = I1₁ b₁ := fun b₁ q₁ => by rw [g9₁, mup_ne q₁]
        refine r_unpCopy (a₁ := a₁) (l₁ := l₁) (rs₁ := rs₁) hM₁ ⟨⟨hl₁, by rw [f9₁ _ (by omega), f9₁ _ (by omega)]; exact hr₁⟩, by rw [g9₁, mup_k (by decide)]; exact e42₁, by rw [g9₁, mup_k (by decide)]; exact e44₁, by rw [g9₁, mup_k (by decide)]; exact e45₁⟩ (fun J₁ rw1₁ fj₁ => hok₁ rs₁ hu₁.symm J₁ rw1₁ ?_ ?_ ⟨fun b₁ q1₁ q2₁ q3₁ q4₁ q5₁ => ?_, fun y₁ q1₁ q2₁ q3₁ q4₁ q5₁ q6₁ => ?_⟩)
        · rw [fj₁ _ (by omega) (by omega), g9₁, mup_at, e42₁]
        · rw [fj₁ _ (by omega) (by omega), g9₁, mup_k (by decide), fr₁.2 2 (by decide) (by decide) (by decide)]; exact z2₁
        · rw [fj₁ b₁ q4₁ q5₁, f9₁ b₁ q1₁, fr₁.1 b₁ q1₁ q2₁ q3₁, f7₁ b₁ q1₁]
        · rw [fj₁ _ (by omega) (by omega), g9₁, mup_k q4₁, fr₁.2 y₁ q3₁ q5₁ q6₁, f7'₁ y₁ q1₁ q2₁ q3₁ q5₁ q6₁]
      · rw [if_pos (by omega)] at hu₁
        exact bad₁ (p₁ + 1) hu₁.symm I1₁ fr₁
    · rw [if_neg b0₁] at hu₁
      refine r_unpackOp hM₁ h940 hB1₁ hb₁ hS₁ ha₁ hrs₁ (by omega) b0₁ (fun c₁ J₁ fj₁ => ⟨fun q₁ => absurd rfl q₁, fun _ => ?_⟩) (fun k₁ a'₁ l'₁ rs'₁ c₁ k1₁ k3₁ pk₁ ha'₁ hrs' J₁ st₁ fj₁ => ⟨fun _ v32₁ g32₁ => ⟨f₁, Nat.lt_succ_self f₁, rfl, rfl, p₁ + k₁, a'₁, l'₁, rs'₁, by rw [g32₁, addN], pk₁, by omega, st₁, ha'₁, hrs', frVr_t fj₁ fr₁, ?_⟩, fun q₁ => ?_⟩)
      · rw [c₁] at hu₁
        exact bad₁ p₁ hu₁.symm J₁ (frVr_t fj₁ fr₁)
      · rw [c₁] at hu₁
        exact hu₁
      · rw [eqN (by omega) (by omega)] at q₁
        omega
end RG₁
