/-! ===== unit: the reference ===== -/
/-- a new unit, nothing done: U below 342, 0 to 667 -/
def nuU₁ (U₁ O₁ : Nat → Int32) (k₁ : Nat) : Int32 := if k₁ < 342 then U₁ k₁ else if k₁ < 667 then 0 else O₁ k₁
section RG₁
variable {K₁ N₁ : MK} {I₁ : MI} {L₁ : ML} {R₁ : MR} {n₁ m₁ : Nat} {B₁ : Nat → Nat} {U₁ : Nat → Int32} {NM₁ : Nat → List Nat}
theorem r_startSo {Q₁ : MI → Prop} (hM₁ : MDL K₁ N₁ R₁ m₁) (h₁ : ∀ J₁, J₁ (m₁ + 2) = nuU₁ (I₁ (m₁ + 2)) (I₁ (m₁ + 2)) → (∀ b₁, b₁ ≠ m₁ + 2 → J₁ b₁ = I₁ b₁) → Q₁ J₁) : w_X12_startSo m₁ K₁ N₁ I₁ L₁ R₁ Q₁ := by
  delta w_X12_startSo w_X12_startSo_4
  refine ⟨fun n1₁ y0₁ y1₁ I1₁ => y0₁ = m₁ ∧ ∃ i₁, 342 ≤ i₁ ∧ i₁ ≤ 667 ∧ n1₁ = 667 - i₁ ∧ y1₁ = nI i₁ ∧ (∀ k₁, I1₁ (m₁ + 2) k₁ = if 342 ≤ k₁ ∧ k₁ < i₁ then 0 else I₁ (m₁ + 2) k₁) ∧ (∀ b₁, b₁ ≠ m₁ + 2 → I1₁ b₁ = I₁ b₁), ⟨325, rfl, 342, by decide, by decide, rfl, rfl, fun k₁ => by rw [if_neg (by omega)], fun _ _ => rfl⟩, ?_⟩
  rintro n1₁ y0₁ y1₁ I1₁ ⟨rfl, i₁, hi0₁, hi₁, rfl, rfl, hz₁, hf₁⟩
  rw [show (667 : Int32) = nI 667 from rfl, leN (by omega) (by omega)]
  refine ⟨fun e₁ => h₁ I1₁ ?_ hf₁, fun e₁ => ⟨hM₁.k, _, hM₁.r14, hM₁.k2, by rw [hM₁.n2]; exact (vp_nI (by omega)).mpr (by omega), fun I5₁ g5₁ v6₁ g6₁ => ⟨667 - (i₁ + 1), by omega, rfl, i₁ + 1, by omega, by omega, rfl, by rw [g6₁, nI_1], fun k₁ => ?_, fun b₁ hb₁ => by rw [g5₁, mup_ne hb₁, hf₁ b₁ hb₁]⟩⟩⟩
  · funext k₁
    rw [hz₁ k₁, nuU₁]
    by_cases q₁ : k₁ < 342
    · rw [if_neg (by omega), if_pos q₁]
    · rw [if_neg q₁]
      by_cases q2₁ : k₁ < 667
      · rw [if_pos (by omega), if_pos q2₁]
      · rw [if_neg (by omega), if_neg q2₁]
  · rw [ix_nI (by omega)] at g5₁
    by_cases q₁ : k₁ = i₁
    · rw [g5₁, q₁, mup_at, if_pos (by omega)]
    · rw [g5₁, mup_k q₁, hz₁ k₁]
      by_cases q2₁ : 342 ≤ k₁ ∧ k₁ < i₁
      · rw [if_pos q2₁, if_pos (by omega)]
      · rw [if_neg q2₁, if_neg (by omega)]
/-- the unit read becomes the unit -/
theorem r_unitEnd {i₁ : Nat} {Q₁ : Int32 → MI → ML → Prop} (hM₁ : MDL K₁ N₁ R₁ m₁) (hI₁ : I₁ (m₁ + 3) = U₁) (hR₁ : NRF₁ L₁ (m₁ + 9) U₁ NM₁) (hU₁ : WFc U₁)
    (h₁ : ∀ J₁ M₁, J₁ (m₁ + 2) = nuU₁ U₁ (I₁ (m₁ + 2)) → NRF₁ M₁ (m₁ + 8) U₁ NM₁ → J₁ m₁ 24 = 0 → (∀ y₁, y₁ ≠ 24 → J₁ m₁ y₁ = I₁ m₁ y₁) → (∀ b₁, b₁ ≠ m₁ → b₁ ≠ m₁ + 2 → J₁ b₁ = I₁ b₁) → (∀ b₁, b₁ ≠ m₁ + 8 → M₁ b₁ = L₁ b₁) → Q₁ (nI i₁) J₁ M₁) : w_X12_unit_77 m₁ (nI i₁) 0 K₁ N₁ I₁ L₁ R₁ Q₁ := by
  delta w_X12_unit_77
  refine ⟨fun n1₁ y0₁ y1₁ y2₁ I1₁ L1₁ => y0₁ = m₁ ∧ y1₁ = nI i₁ ∧ L1₁ = L₁ ∧ ∃ j₁, j₁ ≤ 342 ∧ n1₁ = 342 - j₁ ∧ y2₁ = nI j₁ ∧ (∀ k₁, I1₁ (m₁ + 2) k₁ = if k₁ < j₁ then U₁ k₁ else I₁ (m₁ + 2) k₁) ∧ (∀ b₁, b₁ ≠ m₁ + 2 → I1₁ b₁ = I₁ b₁), ⟨342, rfl, rfl, rfl, 0, by decide, rfl, rfl, fun k₁ => by rw [if_neg (by omega)], fun _ _ => rfl⟩, ?_⟩
  rintro n1₁ y0₁ y1₁ y2₁ I1₁ L1₁ ⟨rfl, rfl, rfl, j₁, hj₁, rfl, rfl, hz₁, hf₁⟩
  rw [show (342 : Int32) = nI 342 from rfl, leN (by omega) (by omega)]
  refine ⟨fun e₁ => ?_, fun e₁ => ⟨hM₁.k, _, hM₁.r14, _, hM₁.r15, hM₁.k3, by rw [hM₁.n3]; exact (vp_nI (by omega)).mpr (by omega), hM₁.k2, by rw [hM₁.n2]; exact (vp_nI (by omega)).mpr (by omega), fun I29₁ g29₁ v30₁ g30₁ => ⟨342 - (j₁ + 1), by omega, rfl, rfl, rfl, j₁ + 1, by omega, rfl, by rw [g30₁, nI_1], fun k₁ => ?_, fun b₁ hb₁ => by rw [g29₁, mup_ne hb₁, hf₁ b₁ hb₁]⟩⟩⟩
  case refine_2 =>
    rw [ix_nI (by omega), hf₁ _ (by omega), hI₁] at g29₁
    by_cases q₁ : k₁ = j₁
    · rw [g29₁, q₁, mup_at, if_pos (by omega)]
    · rw [g29₁, mup_k q₁, hz₁ k₁]
      by_cases q2₁ : k₁ < j₁
      · rw [if_pos q2₁, if_pos (by omega)]
      · rw [if_neg q2₁, if_neg (by omega)]
  have j342 : j₁ = 342 := by omega
  subst j342
  delta w_X12_unit_104
  refine ⟨fun n1₁ z0₁ z1₁ z2₁ I2₁ L2₁ => z0₁ = y0₁ ∧ z1₁ = nI i₁ ∧ I2₁ = I1₁ ∧ ∃ j₁, j₁ ≤ 26 ∧ n1₁ = 26 - j₁ ∧ z2₁ = nI j₁ ∧ (∀ k₁, k₁ < j₁ → L2₁ (y0₁ + 8) k₁ = L1₁ (y0₁ + 9) k₁) ∧ (∀ b₁, b₁ ≠ y0₁ + 8 → L2₁ b₁ = L1₁ b₁), ⟨26, rfl, rfl, rfl, 0, by decide, rfl, rfl, fun k₁ hk₁ => absurd hk₁ (Nat.not_lt_zero k₁), fun _ _ => rfl⟩, ?_⟩
  rintro n1₁ z0₁ z1₁ z2₁ I2₁ L2₁ ⟨rfl, rfl, rfl, j₁, hj2₁, rfl, rfl, hy₁, hg₁⟩
  rw [show (26 : Int32) = nI 26 from rfl, leN (by omega) (by omega)]
  refine ⟨fun e₁ => ⟨hM₁.k, r_startSo hM₁ (fun J1₁ j1₁ f1₁ I12₁ g12₁ => ?_)⟩, fun e₁ => ⟨hM₁.k, _, hM₁.r20, _, hM₁.r21, hM₁.k9, by rw [hM₁.n9]; exact (vp_nI (by omega)).mpr (by omega), hM₁.k8, by rw [hM₁.n8]; exact (vp_nI (by omega)).mpr (by omega), fun L20₁ g20₁ v21₁ g21₁ => ⟨26 - (j₁ + 1), by omega, rfl, rfl, rfl, j₁ + 1, by omega, rfl, by rw [g21₁, nI_1], fun k₁ hk₁ => ?_, fun b₁ hb₁ => by rw [g20₁, mup_ne hb₁, hg₁ b₁ hb₁]⟩⟩⟩
  case refine_2 =>
    rw [ix_nI (by omega), hg₁ _ (by omega)] at g20₁
    by_cases q₁ : k₁ = j₁
    · rw [g20₁, q₁, mup_at]
    · rw [g20₁, mup_k q₁]; exact hy₁ k₁ (by omega)
  have n2₁ := hU₁.2.1.2
  have n3₁ := hU₁.2.2.1.2
  have n4₁ := hU₁.2.2.2.1.2
  refine h₁ I12₁ L2₁ ?_ ⟨fun k₁ hk₁ => ?_, fun k₁ hk₁ => ?_, fun k₁ hk₁ => ?_⟩ (by rw [g12₁, mup_at]) (fun y₁ hy2₁ => by rw [g12₁, mup_k hy2₁, f1₁ _ (by omega), hf₁ _ (by omega)]) (fun b₁ q1₁ q2₁ => by rw [g12₁, mup_ne q1₁, f1₁ b₁ q2₁, hf₁ b₁ q2₁]) hg₁
  · rw [g12₁, mup_ne (by omega), j1₁]
    funext k₁
    rw [nuU₁, nuU₁, hz₁ k₁]
    by_cases q₁ : k₁ < 342
    · rw [if_pos q₁, if_pos q₁, if_pos q₁]
    · rw [if_neg q₁, if_neg q₁]
      by_cases q2₁ : k₁ < 667
      · rw [if_pos q2₁, if_neg q₁]
      · rw [if_neg q2₁, if_neg q₁]
  · rw [hy₁ _ (by omega)]; exact hR₁.1 k₁ hk₁
  · rw [hy₁ _ (by omega)]; exact hR₁.2.1 k₁ hk₁
  · rw [hy₁ _ (by omega)]; exact hR₁.2.2 k₁ hk₁
/-- what unit leaves as it was -/
def frM₁ (m₁ : Nat) (J₁ I₁ : MI) (M₁ L₁ : ML) : Prop := (∀ b₁, b₁ ≠ m₁ → b₁ ≠ m₁ + 2 → b₁ ≠ m₁ + 3 → J₁ b₁ = I₁ b₁) ∧ (∀ b₁, b₁ ≠ m₁ → b₁ ≠ m₁ + 8 → b₁ ≠ m₁ + 9 → M₁ b₁ = L₁ b₁) ∧ ∀ y₁, 14 ≤ y₁ → y₁ ≠ 24 → y₁ ≠ 25 → J₁ m₁ y₁ = I₁ m₁ y₁
theorem r_unit {NM0₁ : Nat → List Nat} {Q₁ : Int32 → MI → ML → Prop} (hM₁ : MDL K₁ N₁ R₁ m₁) (hb₁ : ∀ i₁, B₁ i₁ < 256) (h940 : n₁ ≤ 940) (hB₁ : TAP₁ I₁ (m₁ + 1) B₁ n₁) (hn₁ : I₁ m₁ 2 = nI n₁)
    (hbad : ∀ k₁ pl₁, pUnit B₁ n₁ 900 500 0 (emU₁ (I₁ (m₁ + 3))) NM0₁ 0 = .inl (k₁, pl₁) → ∀ J₁ M₁, J₁ m₁ 10 = nI k₁ → J₁ m₁ 2 = 0 → J₁ (m₁ + 2) = I₁ (m₁ + 2) → M₁ (m₁ + 8) = L₁ (m₁ + 8) → J₁ m₁ 24 = I₁ m₁ 24 → frM₁ m₁ J₁ I₁ M₁ L₁ → Q₁ ((-1 : Int32) - nI pl₁) J₁ M₁)
    (hok₁ : ∀ U'₁ NM'₁ i₁, pUnit B₁ n₁ 900 500 0 (emU₁ (I₁ (m₁ + 3))) NM0₁ 0 = .inr (U'₁, NM'₁, i₁) → WFU₁ U'₁ → NOK₁ U'₁ NM'₁ → ∀ J₁ M₁, J₁ (m₁ + 2) = nuU₁ U'₁ (I₁ (m₁ + 2)) → NRF₁ M₁ (m₁ + 8) U'₁ NM'₁ → J₁ m₁ 24 = 0 → J₁ m₁ 10 = 0 → J₁ m₁ 2 = 0 → frM₁ m₁ J₁ I₁ M₁ L₁ → Q₁ (nI i₁) J₁ M₁) : w_X12_unit m₁ K₁ N₁ I₁ L₁ R₁ Q₁ := by
  delta w_X12_unit
  refine ⟨hM₁.k, r_begin (lm₁ := 900) hM₁ hb₁ h940 hB₁ hn₁ (by decide) (fun J1₁ M1₁ t1₁ e2₁ e10₁ y1₁ b1₁ l1₁ => ?_)⟩
  have trs₁ : TRS₁ J1₁ M1₁ m₁ B₁ n₁ 900 0 := ⟨hb₁, h940, by decide, Nat.zero_le n₁, fun i₁ hi₁ => by rw [b1₁ _ (by omega)]; exact hB₁ i₁ hi₁, t1₁⟩
  delta w_X12_unit_9
  refine ⟨fun n1₁ y0₁ y1₁ I1₁ L1₁ => y0₁ = m₁ ∧ L1₁ = M1₁ ∧ ∃ j₁, j₁ ≤ 342 ∧ n1₁ = 342 - j₁ ∧ y1₁ = nI j₁ ∧ (∀ k₁, I1₁ (m₁ + 3) k₁ = if k₁ < j₁ then 0 else I₁ (m₁ + 3) k₁) ∧ (∀ b₁, b₁ ≠ m₁ + 3 → I1₁ b₁ = J1₁ b₁), ⟨342, rfl, rfl, 0, by decide, rfl, rfl, fun k₁ => by rw [if_neg (by omega), b1₁ _ (by omega)], fun _ _ => rfl⟩, ?_⟩
  rintro n1₁ y0₁ y1'₁ I1₁ L1₁ ⟨rfl, rfl, j₁, hj₁, rfl, rfl, hz₁, hf₁⟩
  rw [show (342 : Int32) = nI 342 from rfl, leN (by omega) (by omega)]
  refine ⟨fun e₁ => ⟨hM₁.k, _, hM₁.r15, hM₁.k3, by rw [hM₁.n3]; exact vp_c (by decide) (by decide), fun I8₁ g8₁ => ?_⟩, fun e₁ => ⟨hM₁.k, _, hM₁.r15, hM₁.k3, by rw [hM₁.n3]; exact (vp_nI (by omega)).mpr (by omega), fun I42₁ g42₁ v43₁ g43₁ => ⟨342 - (j₁ + 1), by omega, rfl, rfl, j₁ + 1, by omega, rfl, by rw [g43₁, nI_1], fun k₁ => ?_, fun b₁ hb₁ => by rw [g42₁, mup_ne hb₁, hf₁ b₁ hb₁]⟩⟩⟩
  case refine_2 =>
    rw [ix_nI (by omega)] at g42₁
    by_cases q₁ : k₁ = j₁
    · rw [g42₁, q₁, mup_at, if_pos (by omega)]
    · rw [g42₁, mup_k q₁, hz₁ k₁]
      by_cases q2₁ : k₁ < j₁
      · rw [if_pos q2₁, if_pos (by omega)]
      · rw [if_neg q2₁, if_neg (by omega)]
  have j342 : j₁ = 342 := by omega
  subst j342
  rw [show ix (0 : Int32) = 0 from rfl] at g8₁
  have u8₁ : I8₁ (y0₁ + 3) = emU₁ (I₁ (y0₁ + 3)) := by
    rw [g8₁, mup_vst]
    funext k₁
    rw [vst₁, emU₁]
    by_cases q₁ : k₁ = 0
    · rw [if_pos q₁, if_pos q₁]
    · rw [if_neg q₁, if_neg q₁, hz₁ k₁]
  have b8₁ : ∀ b₁, b₁ ≠ y0₁ + 3 → I8₁ b₁ = J1₁ b₁ := fun b₁ hb₁ => by rw [g8₁, mup_ne hb₁, hf₁ b₁ hb₁]
  have tr8₁ : TRS₁ I8₁ L1₁ y0₁ B₁ n₁ 900 0 := TRS_fr trs₁ (b8₁ _ (by omega)) (fun y₁ _ _ => by rw [b8₁ _ (by omega)]) rfl
  have i10₁ : I8₁ y0₁ 10 = 0 := by rw [b8₁ _ (by omega)]; exact e10₁
  have frA₁ : ∀ {J₁ : MI} {M₁ : ML}, frQ₁ y0₁ J₁ I8₁ M₁ L1₁ → frM₁ y0₁ J₁ I₁ M₁ L₁ := fun g₁ => ⟨fun b₁ q1₁ q2₁ q3₁ => by rw [g₁.1 b₁ q1₁ q3₁, b8₁ b₁ q3₁, b1₁ b₁ q1₁], fun b₁ q1₁ q2₁ q3₁ => by rw [g₁.2.1 b₁ q1₁ q3₁, l1₁ b₁ q1₁], fun y₁ q1₁ q2₁ q3₁ => by rw [g₁.2.2 y₁ (by omega) (by omega) (by omega) (by omega) (by omega) (by omega) (by omega) (by omega) q3₁, b8₁ _ (by omega), y1₁ y₁ (by omega) (by omega) (by omega) (by omega) (by omega) (by omega) (by omega) (by omega) (by omega) (by omega)]⟩
  have fr2₁ : ∀ {J₁ : MI} {M₁ : ML}, frQ₁ y0₁ J₁ I8₁ M₁ L1₁ → J₁ y0₁ 2 = 0 := fun g₁ => by
    rw [g₁.2.2 2 (by decide) (by decide) (by decide) (by decide) (by decide) (by decide) (by decide) (by decide) (by decide), b8₁ _ (by omega)]; exact e2₁
  have fr24 : ∀ {J₁ : MI} {M₁ : ML}, frQ₁ y0₁ J₁ I8₁ M₁ L1₁ → J₁ y0₁ 24 = I₁ y0₁ 24 := fun g₁ => by
    rw [g₁.2.2 24 (by decide) (by decide) (by decide) (by decide) (by decide) (by decide) (by decide) (by decide) (by decide), b8₁ _ (by omega), y1₁ 24 (by decide) (by decide) (by decide) (by decide) (by decide) (by decide) (by decide) (by decide) (by decide) (by decide)]
  have now8 : ∀ {J₁ : MI} {M₁ : ML}, frQ₁ y0₁ J₁ I8₁ M₁ L1₁ → J₁ (y0₁ + 2) = I₁ (y0₁ + 2) := fun g₁ => by rw [g₁.1 _ (by omega) (by omega), b8₁ _ (by omega), b1₁ _ (by omega)]
  refine r_unitLoop (NM0₁ := NM0₁) hM₁ ⟨tr8₁, u8₁, fun k₁ hk₁ => ?_, fun k₁ hk₁ => ?_, fun k₁ hk₁ => ?_⟩ WFU_em NOK_em emU_z (fun k₁ pl₁ hp₁ J₁ M₁ fl₁ fr₁ => hbad k₁ pl₁ hp₁ J₁ M₁ fl₁.1 (fr2₁ fr₁) (now8 fr₁) ?_ (fr24 fr₁) (frA₁ fr₁)) (fun U'₁ NM'₁ i₁ hp₁ hW₁ hN₁ J₁ M₁ p₁ hS₁ h10₁ fr₁ => ?_)
  · rw [emU_z 2 (by decide) (by decide)] at hk₁; omega
  · rw [emU_z 3 (by decide) (by decide)] at hk₁; omega
  · rw [emU_z 4 (by decide) (by decide)] at hk₁; omega
  · rw [fr₁.2.1 _ (by omega) (by omega), l1₁ _ (by omega)]
  · obtain ⟨hT₁, hI₁, hR₁⟩ := hS₁
    refine r_unitEnd hM₁ hI₁ hR₁ hW₁.1 (fun J2₁ M2₁ c1₁ c2₁ c3₁ c4₁ c5₁ c6₁ => hok₁ U'₁ NM'₁ i₁ hp₁ hW₁ hN₁ J2₁ M2₁ ?_ c2₁ c3₁ ?_ ?_ ⟨fun b₁ q1₁ q2₁ q3₁ => ?_, fun b₁ q1₁ q2₁ q3₁ => ?_, fun y₁ q1₁ q2₁ q3₁ => ?_⟩)
    · rw [c1₁, now8 fr₁]
    · rw [c4₁ 10 (by decide), h10₁, i10₁]
    · rw [c4₁ 2 (by decide), fr2₁ fr₁]
    · rw [c5₁ b₁ q1₁ q2₁, (frA₁ fr₁).1 b₁ q1₁ q2₁ q3₁]
    · rw [c6₁ b₁ q2₁, (frA₁ fr₁).2.1 b₁ q1₁ q2₁ q3₁]
    · rw [c4₁ y₁ q2₁, (frA₁ fr₁).2.2 y₁ q1₁ q2₁ q3₁]
end RG₁
