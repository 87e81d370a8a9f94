/-! ===== names told: found among others, both sides ===== -/
def eNM₁ (NM₁ : Nat → List Nat) (k₁ : Nat) : Int64 := encB 27 (NM₁ k₁)
def fndB (NM₁ : Nat → List Nat) (b₁ : Nat) (w₁ : List Nat) : Nat → Nat → Int32
  | 0, _ => -1
  | f₁ + 1, k₁ => if NM₁ (b₁ + k₁) = w₁ then nI k₁ else fndB NM₁ b₁ w₁ f₁ (k₁ + 1)
def fndS (NM₁ : Nat → List Nat) (b₁ n₁ : Nat) (w₁ : List Nat) : Int32 := fndB NM₁ b₁ w₁ n₁ 0
/-- the names in use are some -/
def NOK₁ (U₁ : Nat → Int32) (NM₁ : Nat → List Nat) : Prop := (∀ k₁, k₁ < ix (U₁ 2) → wdOK (NM₁ (0 + k₁))) ∧ (∀ k₁, k₁ < ix (U₁ 3) → wdOK (NM₁ (10 + k₁))) ∧ ∀ k₁, k₁ < ix (U₁ 4) → wdOK (NM₁ (16 + k₁))
/-- the reference's names, at b -/
def NRF₁ (L₁ : ML) (b₁ : Nat) (U₁ : Nat → Int32) (NM₁ : Nat → List Nat) : Prop := (∀ k₁, k₁ < ix (U₁ 2) → L₁ b₁ (0 + k₁) = encB 27 (NM₁ (0 + k₁))) ∧ (∀ k₁, k₁ < ix (U₁ 3) → L₁ b₁ (10 + k₁) = encB 27 (NM₁ (10 + k₁))) ∧ ∀ k₁, k₁ < ix (U₁ 4) → L₁ b₁ (16 + k₁) = encB 27 (NM₁ (16 + k₁))
theorem fndB_or (NM₁ : Nat → List Nat) (b₁ : Nat) (w₁ : List Nat) : ∀ f₁ k₁, fndB NM₁ b₁ w₁ f₁ k₁ = -1 ∨ ∃ j₁, k₁ ≤ j₁ ∧ j₁ < k₁ + f₁ ∧ fndB NM₁ b₁ w₁ f₁ k₁ = nI j₁
  | 0, _ => Or.inl rfl
  | f₁ + 1, k₁ => by
    rw [fndB]
    split
    · exact Or.inr ⟨k₁, by omega, by omega, rfl⟩
    · rcases fndB_or NM₁ b₁ w₁ f₁ (k₁ + 1) with e₁ | ⟨j₁, h1₁, h2₁, e₁⟩
      · exact Or.inl e₁
      · exact Or.inr ⟨j₁, by omega, by omega, e₁⟩
theorem fndS_or (NM₁ : Nat → List Nat) (b₁ n₁ : Nat) (w₁ : List Nat) : orN (fndS NM₁ b₁ n₁ w₁) n₁ := by
  rcases fndB_or NM₁ b₁ w₁ n₁ 0 with e₁ | ⟨j₁, h1₁, h2₁, e₁⟩
  · exact Or.inl e₁
  · exact Or.inr ⟨j₁, by omega, e₁⟩
theorem nm_of {l₁ : List Nat} {c₁ : Int64} (hl₁ : wdOK l₁) (h₁ : nmR c₁ (encB 27 l₁)) : c₁ = encB 32 l₁ := by
  obtain ⟨r₁, hr₁, e1₁, e2₁⟩ := h₁
  rw [encB_27, encB_27] at e2₁
  rw [e1₁, (enc_eq (by decide) (by decide) hl₁ hr₁).mp e2₁]
theorem nm_to {l₁ : List Nat} (hl₁ : wdOK l₁) : nmR (encB 32 l₁) (encB 27 l₁) := ⟨l₁, hl₁, rfl, rfl⟩
section UN₁
variable {K₁ N₁ : MK} {I₁ : MI} {L₁ : ML} {R₁ : MR} {t₁ m₁ w₁ n₁ b₁ : Nat} {NM₁ : Nat → List Nat} {l₁ : List Nat}
theorem s_find {Q₁ : Int32 → Prop} (hT₁ : TL K₁ N₁ R₁ t₁ m₁ w₁) (hD₁ : TD I₁ t₁ m₁ w₁ n₁) (hl₁ : wdOK l₁) (hok₁ : ∀ k₁, k₁ < n₁ → wdOK (NM₁ (b₁ + k₁))) (hN₁ : ∀ k₁, k₁ < n₁ → L₁ (t₁ + 1) k₁ = encB 32 (NM₁ (b₁ + k₁))) (h₁ : Q₁ (fndS NM₁ b₁ n₁ l₁)) : w_X7_find t₁ (encB 32 l₁) K₁ N₁ I₁ L₁ R₁ Q₁ := by
  obtain ⟨h1₁, h2₁, h3₁, h4₁, h5₁, h6₁, h7₁, h8₁, h9₁, h10₁⟩ := hT₁
  obtain ⟨d1₁, d2₁, d3₁⟩ := hD₁
  delta w_X7_find w_X7_find_2
  refine ⟨fun n1₁ y0₁ y1₁ y3₁ => y0₁ = t₁ ∧ y1₁ = encB 32 l₁ ∧ ∃ i₁, i₁ ≤ n₁ ∧ n1₁ = n₁ - i₁ ∧ y3₁ = nI i₁ ∧ fndB NM₁ b₁ l₁ (n₁ - i₁) i₁ = fndS NM₁ b₁ n₁ l₁, ⟨n₁, rfl, rfl, 0, by omega, rfl, rfl, rfl⟩, ?_⟩
  rintro n1₁ y0₁ y1₁ y3₁ ⟨rfl, rfl, i₁, hi₁, rfl, rfl, hB₁⟩
  rw [d2₁, leN (by omega) (by omega)]
  refine ⟨h1₁, fun z₁ => ?_, fun z₁ => ⟨_, h2₁, h4₁, by rw [h6₁]; exact (vp_nI (by omega)).mpr (by omega), ?_⟩⟩
  · rw [show n₁ - i₁ = 0 by omega, fndB] at hB₁
    rw [hB₁]; exact h₁
  · rw [ix_nI (by omega), hN₁ i₁ (by omega), lg_cmp_eq, encB_32, encB_32, enc_eq (by decide) (by decide) (hok₁ i₁ (by omega)) hl₁]
    have hB2₁ : fndB NM₁ b₁ l₁ (n₁ - (i₁ + 1) + 1) i₁ = fndS NM₁ b₁ n₁ l₁ := by rw [show n₁ - (i₁ + 1) + 1 = n₁ - i₁ by omega]; exact hB₁
    rw [fndB] at hB2₁
    refine ⟨fun y₁ v5₁ g5₁ => ⟨n₁ - (i₁ + 1), by omega, rfl, rfl, i₁ + 1, by omega, rfl, by rw [g5₁, nI_1], ?_⟩, fun y₁ => ?_⟩
    · rw [if_neg y₁] at hB2₁; exact hB2₁
    · rw [if_pos y₁] at hB2₁; rw [hB2₁]; exact h₁
theorem r_findIn {c₁ : Nat} {Q₁ : Int32 → Prop} (hK₁ : K₁ c₁ = 15) (hN2₁ : N₁ c₁ = m₁) (hm₁ : b₁ + n₁ ≤ m₁) (hm2₁ : m₁ < 1000) (hl₁ : wdOK l₁) (hok₁ : ∀ k₁, k₁ < n₁ → wdOK (NM₁ (b₁ + k₁))) (hN₁ : ∀ k₁, k₁ < n₁ → L₁ c₁ (b₁ + k₁) = encB 27 (NM₁ (b₁ + k₁))) (h₁ : Q₁ (fndS NM₁ b₁ n₁ l₁)) : w_X12_findIn c₁ (nI b₁) (nI n₁) (encB 27 l₁) K₁ N₁ I₁ L₁ R₁ Q₁ := by
  delta w_X12_findIn w_X12_findIn_3
  refine ⟨fun n1₁ y0₁ y1₁ y2₁ y3₁ y5₁ => y0₁ = c₁ ∧ y1₁ = nI b₁ ∧ y2₁ = nI n₁ ∧ y3₁ = encB 27 l₁ ∧ ∃ i₁, i₁ ≤ n₁ ∧ n1₁ = n₁ - i₁ ∧ y5₁ = nI i₁ ∧ fndB NM₁ b₁ l₁ (n₁ - i₁) i₁ = fndS NM₁ b₁ n₁ l₁, ⟨n₁, rfl, rfl, rfl, rfl, 0, by omega, rfl, rfl, rfl⟩, ?_⟩
  rintro n1₁ y0₁ y1₁ y2₁ y3₁ y5₁ ⟨rfl, rfl, rfl, rfl, i₁, hi₁, rfl, rfl, hB₁⟩
  rw [leN (by omega) (by omega)]
  refine ⟨fun z₁ => ?_, fun z₁ => ⟨hK₁, ?_⟩⟩
  · rw [show n₁ - i₁ = 0 by omega, fndB] at hB₁
    rw [hB₁]; exact h₁
  · rw [addN, ix_nI (by omega), hN2₁, hN₁ i₁ (by omega), lg_cmp_eq, encB_27, encB_27, enc_eq (by decide) (by decide) (hok₁ i₁ (by omega)) hl₁]
    have hB2₁ : fndB NM₁ b₁ l₁ (n₁ - (i₁ + 1) + 1) i₁ = fndS NM₁ b₁ n₁ l₁ := by rw [show n₁ - (i₁ + 1) + 1 = n₁ - i₁ by omega]; exact hB₁
    rw [fndB] at hB2₁
    refine ⟨(vp_nI (by omega)).mpr (by omega), fun y₁ v5₁ g5₁ => ⟨n₁ - (i₁ + 1), by omega, rfl, rfl, rfl, rfl, i₁ + 1, by omega, rfl, by rw [g5₁, nI_1], ?_⟩, fun y₁ => ?_⟩
    · rw [if_neg y₁] at hB2₁; exact hB2₁
    · rw [if_pos y₁] at hB2₁; rw [hB2₁]; exact h₁
end UN₁
/-! ===== a unit's parts, other numbers changed ===== -/
section UN₁
variable {I₁ : MI} {L₁ : ML} {u₁ : Nat} {U₁ U'₁ : Nat → Int32} {W₁ W'₁ : Nat → Int64}
theorem UD1_cg (h₁ : UD1₁ I₁ u₁ U₁) (hn₁ : ix (U₁ 1) ≤ 30) (e1₁ : U'₁ 1 = U₁ 1) (e₁ : ∀ k₁, 6 ≤ k₁ → k₁ < 66 → U'₁ k₁ = U₁ k₁) : UD1₁ I₁ u₁ U'₁ := by
  rw [UD1₁, e1₁]
  exact ⟨h₁.1, fun k₁ hk₁ => by rw [e₁ (6 + k₁) (by omega) (by omega), e₁ (36 + k₁) (by omega) (by omega)]; exact h₁.2 k₁ hk₁⟩
theorem UD2_cg (h₁ : UD2₁ I₁ L₁ u₁ U₁ W₁) (hn₁ : ix (U₁ 2) ≤ 10) (e1₁ : U'₁ 2 = U₁ 2) (e₁ : ∀ k₁, 66 ≤ k₁ → k₁ < 96 → U'₁ k₁ = U₁ k₁) (eW₁ : ∀ k₁, k₁ < 10 → W'₁ k₁ = W₁ k₁) : UD2₁ I₁ L₁ u₁ U'₁ W'₁ := by
  rw [UD2₁, e1₁]
  exact ⟨h₁.1, fun k₁ hk₁ => by rw [rnkS, widS, e₁ (66 + k₁) (by omega) (by omega), e₁ (76 + k₁) (by omega) (by omega), e₁ (86 + k₁) (by omega) (by omega), eW₁ k₁ (by omega)]; exact h₁.2 k₁ hk₁⟩
theorem UD3_cg (h₁ : UD3₁ I₁ L₁ u₁ U₁ W₁) (hn₁ : ix (U₁ 3) ≤ 6) (e1₁ : U'₁ 3 = U₁ 3) (e₁ : ∀ k₁, 96 ≤ k₁ → k₁ < 114 → U'₁ k₁ = U₁ k₁) (eW₁ : ∀ k₁, 10 ≤ k₁ → k₁ < 16 → W'₁ k₁ = W₁ k₁) : UD3₁ I₁ L₁ u₁ U'₁ W'₁ := by
  rw [UD3₁, e1₁]
  exact ⟨h₁.1, fun k₁ hk₁ => by rw [e₁ (96 + k₁) (by omega) (by omega), e₁ (102 + k₁) (by omega) (by omega), e₁ (108 + k₁) (by omega) (by omega), eW₁ (10 + k₁) (by omega) (by omega)]; exact h₁.2 k₁ hk₁⟩
theorem UD4_cg (h₁ : UD4₁ I₁ L₁ u₁ U₁ W₁) (hn₁ : ix (U₁ 4) ≤ 10) (e1₁ : U'₁ 4 = U₁ 4) (e₁ : ∀ k₁, 114 ≤ k₁ → k₁ < 134 → U'₁ k₁ = U₁ k₁) (eW₁ : ∀ k₁, 16 ≤ k₁ → k₁ < 26 → W'₁ k₁ = W₁ k₁) : UD4₁ I₁ L₁ u₁ U'₁ W'₁ := by
  rw [UD4₁, e1₁]
  exact ⟨h₁.1, fun k₁ hk₁ => by rw [e₁ (114 + k₁) (by omega) (by omega), e₁ (124 + k₁) (by omega) (by omega), eW₁ (16 + k₁) (by omega) (by omega)]; exact h₁.2 k₁ hk₁⟩
theorem plR_cg {c₁ code code' : Nat → Int32} {kind many : Int32} (h₁ : plR c₁ kind many code) (hm₁ : kind = 2 ∨ ix many ≤ 8) (e₁ : ∀ j₁, j₁ < 8 → code' j₁ = code j₁) : plR c₁ kind many code' := by
  rcases h₁ with h₁ | ⟨h1₁, h2₁, h3₁, h4₁⟩
  · exact Or.inl h₁
  · refine Or.inr ⟨h1₁, h2₁, h3₁, fun j₁ hj₁ => ?_⟩
    rcases hm₁ with z₁ | z₁
    · rw [z₁] at h1₁; rcases h1₁ with y₁ | y₁ <;> exact absurd y₁ (by decide)
    · rw [e₁ j₁ (by omega)]; exact h4₁ j₁ hj₁
theorem UD5_cg (h₁ : UD5₁ I₁ u₁ U₁) (hn₁ : ix (U₁ 5) ≤ 16) (hm₁ : ∀ k₁, k₁ < ix (U₁ 5) → U₁ (182 + k₁) = 2 ∨ ix (U₁ (198 + k₁)) ≤ 8) (e1₁ : U'₁ 5 = U₁ 5) (e₁ : ∀ k₁, 134 ≤ k₁ → k₁ < 342 → U'₁ k₁ = U₁ k₁) : UD5₁ I₁ u₁ U'₁ := by
  rw [UD5₁, e1₁]
  refine ⟨h₁.1, fun k₁ hk₁ => ?_⟩
  obtain ⟨h1₁, h2₁, h3₁, h4₁⟩ := h₁.2 k₁ hk₁
  rw [e₁ (150 + k₁) (by omega) (by omega), e₁ (166 + k₁) (by omega) (by omega), e₁ (134 + k₁) (by omega) (by omega), e₁ (182 + k₁) (by omega) (by omega), e₁ (198 + k₁) (by omega) (by omega)]
  exact ⟨h1₁, h2₁, h3₁, plR_cg h4₁ (hm₁ k₁ hk₁) (fun j₁ hj₁ => e₁ (214 + 8 * k₁ + j₁) (by omega) (by omega))⟩
theorem WFo_m (hn₁ : ix (U₁ 5) ≤ 16) (h₁ : WFo₁ U₁) : ∀ k₁, k₁ < ix (U₁ 5) → U₁ (182 + k₁) = 2 ∨ ix (U₁ (198 + k₁)) ≤ 8 := fun k₁ hk₁ => by
  rcases h₁ k₁ hk₁ with ⟨h1₁, -⟩ | ⟨-, n₁, h2₁, h3₁, -⟩
  · exact Or.inl h1₁
  · right; rw [h3₁, ix_nI (by omega)]; exact h2₁
/-- what is so of every unit -/
def WFU₁ (U₁ : Nat → Int32) : Prop := WFc U₁ ∧ WFr U₁ ∧ WFs U₁ ∧ WFt₁ U₁ ∧ WFvt U₁ ∧ WFvh U₁ ∧ WFw U₁ ∧ WFo₁ U₁
end UN₁
