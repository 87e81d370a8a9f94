/-! ===== the class: its cells, and the calls that ask for rows ===== -/
def MAL (K₁ N₁ : MK) (R₁ : MR) (a₁ : Nat) : Prop := K₁ a₁ = 4 ∧ R₁ a₁ 0 = some (a₁ + 1) ∧ R₁ a₁ 1 = some (a₁ + 2) ∧ R₁ a₁ 2 = some (a₁ + 3) ∧ K₁ (a₁ + 1) = 14 ∧ N₁ (a₁ + 1) = 8 ∧ K₁ (a₁ + 2) = 14 ∧ N₁ (a₁ + 2) = 64 ∧ K₁ (a₁ + 3) = 14 ∧ N₁ (a₁ + 3) = 8
def SEL (K₁ N₁ : MK) (R₁ : MR) (a₁ : Nat) : Prop := K₁ a₁ = 6 ∧ R₁ a₁ 1 = some (a₁ + 1) ∧ R₁ a₁ 2 = some (a₁ + 2) ∧ R₁ a₁ 3 = some (a₁ + 3) ∧ R₁ a₁ 4 = some (a₁ + 4) ∧ K₁ (a₁ + 1) = 14 ∧ N₁ (a₁ + 1) = 40 ∧ K₁ (a₁ + 2) = 14 ∧ N₁ (a₁ + 2) = 40 ∧ K₁ (a₁ + 3) = 14 ∧ N₁ (a₁ + 3) = 40 ∧ K₁ (a₁ + 4) = 16 ∧ N₁ (a₁ + 4) = 40
/-- the cells of the class: the object at x, 167 cells behind it (the history apart) -/
def PDL (K₁ N₁ : MK) (R₁ : MR) (x₁ : Nat) : Prop := K₁ x₁ = 12 ∧ R₁ x₁ 0 = some (x₁ + 1) ∧ R₁ x₁ 1 = some (x₁ + 3) ∧ R₁ x₁ 2 = some (x₁ + 19) ∧ R₁ x₁ 3 = some (x₁ + 23) ∧ R₁ x₁ 4 = some (x₁ + 27) ∧ R₁ x₁ 6 = some (x₁ + 28) ∧ R₁ x₁ 7 = some (x₁ + 30) ∧ R₁ x₁ 8 = some (x₁ + 31) ∧ R₁ x₁ 9 = some (x₁ + 36) ∧ R₁ x₁ 10 = some (x₁ + 53) ∧ R₁ x₁ 11 = some (x₁ + 59) ∧ R₁ x₁ 12 = some (x₁ + 63) ∧ R₁ x₁ 13 = some (x₁ + 73) ∧ R₁ x₁ 14 = some (x₁ + 74) ∧ R₁ x₁ 15 = some (x₁ + 75) ∧ R₁ x₁ 16 = some (x₁ + 76) ∧ R₁ x₁ 17 = some (x₁ + 77) ∧ R₁ x₁ 18 = some (x₁ + 80) ∧ R₁ x₁ 19 = some (x₁ + 83) ∧ K₁ (x₁ + 1) = 9 ∧ R₁ (x₁ + 1) 0 = some (x₁ + 2) ∧ K₁ (x₁ + 2) = 14 ∧ N₁ (x₁ + 2) = 940 ∧ UL K₁ N₁ R₁ (x₁ + 3) ∧ MAL K₁ N₁ R₁ (x₁ + 19) ∧ MAL K₁ N₁ R₁ (x₁ + 23) ∧ K₁ (x₁ + 27) = 17 ∧ N₁ (x₁ + 27) = 8 ∧ K₁ (x₁ + 28) = 3 ∧ R₁ (x₁ + 28) 0 = some (x₁ + 29) ∧ K₁ (x₁ + 29) = 14 ∧ N₁ (x₁ + 29) = 8 ∧ K₁ (x₁ + 30) = 2 ∧ SEL K₁ N₁ R₁ (x₁ + 31) ∧ K₁ (x₁ + 36) = 11 ∧ R₁ (x₁ + 36) 0 = some (x₁ + 37) ∧ UL K₁ N₁ R₁ (x₁ + 37) ∧ K₁ (x₁ + 53) = 7 ∧ R₁ (x₁ + 53) 0 = some (x₁ + 54) ∧ SEL K₁ N₁ R₁ (x₁ + 54) ∧ K₁ (x₁ + 59) = 1 ∧ R₁ (x₁ + 59) 0 = some (x₁ + 60) ∧ TL K₁ N₁ R₁ (x₁ + 60) 40 3 ∧ K₁ (x₁ + 63) = 5 ∧ R₁ (x₁ + 63) 0 = some (x₁ + 64) ∧ R₁ (x₁ + 63) 1 = some (x₁ + 67) ∧ R₁ (x₁ + 63) 2 = some (x₁ + 70) ∧ TL K₁ N₁ R₁ (x₁ + 64) 181 1 ∧ TL K₁ N₁ R₁ (x₁ + 67) 30 2 ∧ TL K₁ N₁ R₁ (x₁ + 70) 30 2 ∧ K₁ (x₁ + 73) = 19 ∧ N₁ (x₁ + 73) = 2 ∧ R₁ (x₁ + 73) 0 = some (x₁ + 118) ∧ R₁ (x₁ + 73) 1 = some (x₁ + 143) ∧ K₁ (x₁ + 74) = 17 ∧ N₁ (x₁ + 74) = 2 ∧ R₁ (x₁ + 74) 0 = some (x₁ + 134) ∧ R₁ (x₁ + 74) 1 = some (x₁ + 159) ∧ K₁ (x₁ + 75) = 18 ∧ N₁ (x₁ + 75) = 2 ∧ R₁ (x₁ + 75) 0 = some (x₁ + 138) ∧ R₁ (x₁ + 75) 1 = some (x₁ + 163) ∧ K₁ (x₁ + 76) = 16 ∧ N₁ (x₁ + 76) = 2 ∧ UL K₁ N₁ R₁ (x₁ + 118) ∧ MAL K₁ N₁ R₁ (x₁ + 134) ∧ SEL K₁ N₁ R₁ (x₁ + 138) ∧ UL K₁ N₁ R₁ (x₁ + 143) ∧ MAL K₁ N₁ R₁ (x₁ + 159) ∧ SEL K₁ N₁ R₁ (x₁ + 163) ∧ TL K₁ N₁ R₁ (x₁ + 77) 10 2 ∧ TL K₁ N₁ R₁ (x₁ + 80) 40 1 ∧ TL K₁ N₁ R₁ (x₁ + 83) 1 4
theorem PDL.k {K₁ N₁ : MK} {R₁ : MR} {x₁ : Nat} (h₁ : PDL K₁ N₁ R₁ x₁) : K₁ x₁ = 12 := h₁.1
theorem PDL.r_tokens {K₁ N₁ : MK} {R₁ : MR} {x₁ : Nat} (h₁ : PDL K₁ N₁ R₁ x₁) : R₁ x₁ 0 = some (x₁ + 1) := h₁.2.1
theorem PDL.r_unit {K₁ N₁ : MK} {R₁ : MR} {x₁ : Nat} (h₁ : PDL K₁ N₁ R₁ x₁) : R₁ x₁ 1 = some (x₁ + 3) := h₁.2.2.1
theorem PDL.r_machine {K₁ N₁ : MK} {R₁ : MR} {x₁ : Nat} (h₁ : PDL K₁ N₁ R₁ x₁) : R₁ x₁ 2 = some (x₁ + 19) := h₁.2.2.2.1
theorem PDL.r_trial {K₁ N₁ : MK} {R₁ : MR} {x₁ : Nat} (h₁ : PDL K₁ N₁ R₁ x₁) : R₁ x₁ 3 = some (x₁ + 23) := h₁.2.2.2.2.1
theorem PDL.r_history {K₁ N₁ : MK} {R₁ : MR} {x₁ : Nat} (h₁ : PDL K₁ N₁ R₁ x₁) : R₁ x₁ 4 = some (x₁ + 27) := h₁.2.2.2.2.2.1
theorem PDL.r_finder {K₁ N₁ : MK} {R₁ : MR} {x₁ : Nat} (h₁ : PDL K₁ N₁ R₁ x₁) : R₁ x₁ 6 = some (x₁ + 28) := h₁.2.2.2.2.2.2.1
theorem PDL.r_draws {K₁ N₁ : MK} {R₁ : MR} {x₁ : Nat} (h₁ : PDL K₁ N₁ R₁ x₁) : R₁ x₁ 7 = some (x₁ + 30) := h₁.2.2.2.2.2.2.2.1
theorem PDL.r_sentence {K₁ N₁ : MK} {R₁ : MR} {x₁ : Nat} (h₁ : PDL K₁ N₁ R₁ x₁) : R₁ x₁ 8 = some (x₁ + 31) := h₁.2.2.2.2.2.2.2.2.1
theorem PDL.r_unitReader {K₁ N₁ : MK} {R₁ : MR} {x₁ : Nat} (h₁ : PDL K₁ N₁ R₁ x₁) : R₁ x₁ 9 = some (x₁ + 36) := h₁.2.2.2.2.2.2.2.2.2.1
theorem PDL.r_sentenceReader {K₁ N₁ : MK} {R₁ : MR} {x₁ : Nat} (h₁ : PDL K₁ N₁ R₁ x₁) : R₁ x₁ 10 = some (x₁ + 53) := h₁.2.2.2.2.2.2.2.2.2.2.1
theorem PDL.r_book {K₁ N₁ : MK} {R₁ : MR} {x₁ : Nat} (h₁ : PDL K₁ N₁ R₁ x₁) : R₁ x₁ 11 = some (x₁ + 59) := h₁.2.2.2.2.2.2.2.2.2.2.2.1
theorem PDL.r_packer {K₁ N₁ : MK} {R₁ : MR} {x₁ : Nat} (h₁ : PDL K₁ N₁ R₁ x₁) : R₁ x₁ 12 = some (x₁ + 63) := h₁.2.2.2.2.2.2.2.2.2.2.2.2.1
theorem PDL.r_keptUnits {K₁ N₁ : MK} {R₁ : MR} {x₁ : Nat} (h₁ : PDL K₁ N₁ R₁ x₁) : R₁ x₁ 13 = some (x₁ + 73) := h₁.2.2.2.2.2.2.2.2.2.2.2.2.2.1
theorem PDL.r_keptMachines {K₁ N₁ : MK} {R₁ : MR} {x₁ : Nat} (h₁ : PDL K₁ N₁ R₁ x₁) : R₁ x₁ 14 = some (x₁ + 74) := h₁.2.2.2.2.2.2.2.2.2.2.2.2.2.2.1
theorem PDL.r_keptSentences {K₁ N₁ : MK} {R₁ : MR} {x₁ : Nat} (h₁ : PDL K₁ N₁ R₁ x₁) : R₁ x₁ 15 = some (x₁ + 75) := h₁.2.2.2.2.2.2.2.2.2.2.2.2.2.2.2.1
theorem PDL.r_kept {K₁ N₁ : MK} {R₁ : MR} {x₁ : Nat} (h₁ : PDL K₁ N₁ R₁ x₁) : R₁ x₁ 16 = some (x₁ + 76) := h₁.2.2.2.2.2.2.2.2.2.2.2.2.2.2.2.2.1
theorem PDL.r_chain {K₁ N₁ : MK} {R₁ : MR} {x₁ : Nat} (h₁ : PDL K₁ N₁ R₁ x₁) : R₁ x₁ 17 = some (x₁ + 77) := h₁.2.2.2.2.2.2.2.2.2.2.2.2.2.2.2.2.2.1
theorem PDL.r_tag {K₁ N₁ : MK} {R₁ : MR} {x₁ : Nat} (h₁ : PDL K₁ N₁ R₁ x₁) : R₁ x₁ 18 = some (x₁ + 80) := h₁.2.2.2.2.2.2.2.2.2.2.2.2.2.2.2.2.2.2.1
theorem PDL.r_told {K₁ N₁ : MK} {R₁ : MR} {x₁ : Nat} (h₁ : PDL K₁ N₁ R₁ x₁) : R₁ x₁ 19 = some (x₁ + 83) := h₁.2.2.2.2.2.2.2.2.2.2.2.2.2.2.2.2.2.2.2.1
theorem PDL.tok {K₁ N₁ : MK} {R₁ : MR} {x₁ : Nat} (h₁ : PDL K₁ N₁ R₁ x₁) : K₁ (x₁ + 1) = 9 := h₁.2.2.2.2.2.2.2.2.2.2.2.2.2.2.2.2.2.2.2.2.1
theorem PDL.tok_r {K₁ N₁ : MK} {R₁ : MR} {x₁ : Nat} (h₁ : PDL K₁ N₁ R₁ x₁) : R₁ (x₁ + 1) 0 = some (x₁ + 2) := h₁.2.2.2.2.2.2.2.2.2.2.2.2.2.2.2.2.2.2.2.2.2.1
theorem PDL.tok_k {K₁ N₁ : MK} {R₁ : MR} {x₁ : Nat} (h₁ : PDL K₁ N₁ R₁ x₁) : K₁ (x₁ + 2) = 14 := h₁.2.2.2.2.2.2.2.2.2.2.2.2.2.2.2.2.2.2.2.2.2.2.1
theorem PDL.tok_n {K₁ N₁ : MK} {R₁ : MR} {x₁ : Nat} (h₁ : PDL K₁ N₁ R₁ x₁) : N₁ (x₁ + 2) = 940 := h₁.2.2.2.2.2.2.2.2.2.2.2.2.2.2.2.2.2.2.2.2.2.2.2.1
theorem PDL.un {K₁ N₁ : MK} {R₁ : MR} {x₁ : Nat} (h₁ : PDL K₁ N₁ R₁ x₁) : UL K₁ N₁ R₁ (x₁ + 3) := h₁.2.2.2.2.2.2.2.2.2.2.2.2.2.2.2.2.2.2.2.2.2.2.2.2.1
theorem PDL.mac {K₁ N₁ : MK} {R₁ : MR} {x₁ : Nat} (h₁ : PDL K₁ N₁ R₁ x₁) : MAL K₁ N₁ R₁ (x₁ + 19) := h₁.2.2.2.2.2.2.2.2.2.2.2.2.2.2.2.2.2.2.2.2.2.2.2.2.2.1
theorem PDL.tri {K₁ N₁ : MK} {R₁ : MR} {x₁ : Nat} (h₁ : PDL K₁ N₁ R₁ x₁) : MAL K₁ N₁ R₁ (x₁ + 23) := h₁.2.2.2.2.2.2.2.2.2.2.2.2.2.2.2.2.2.2.2.2.2.2.2.2.2.2.1
theorem PDL.his_k {K₁ N₁ : MK} {R₁ : MR} {x₁ : Nat} (h₁ : PDL K₁ N₁ R₁ x₁) : K₁ (x₁ + 27) = 17 := h₁.2.2.2.2.2.2.2.2.2.2.2.2.2.2.2.2.2.2.2.2.2.2.2.2.2.2.2.1
theorem PDL.his_n {K₁ N₁ : MK} {R₁ : MR} {x₁ : Nat} (h₁ : PDL K₁ N₁ R₁ x₁) : N₁ (x₁ + 27) = 8 := h₁.2.2.2.2.2.2.2.2.2.2.2.2.2.2.2.2.2.2.2.2.2.2.2.2.2.2.2.2.1
theorem PDL.fin {K₁ N₁ : MK} {R₁ : MR} {x₁ : Nat} (h₁ : PDL K₁ N₁ R₁ x₁) : K₁ (x₁ + 28) = 3 := h₁.2.2.2.2.2.2.2.2.2.2.2.2.2.2.2.2.2.2.2.2.2.2.2.2.2.2.2.2.2.1
theorem PDL.fin_r {K₁ N₁ : MK} {R₁ : MR} {x₁ : Nat} (h₁ : PDL K₁ N₁ R₁ x₁) : R₁ (x₁ + 28) 0 = some (x₁ + 29) := h₁.2.2.2.2.2.2.2.2.2.2.2.2.2.2.2.2.2.2.2.2.2.2.2.2.2.2.2.2.2.2.1
theorem PDL.fin_k {K₁ N₁ : MK} {R₁ : MR} {x₁ : Nat} (h₁ : PDL K₁ N₁ R₁ x₁) : K₁ (x₁ + 29) = 14 := h₁.2.2.2.2.2.2.2.2.2.2.2.2.2.2.2.2.2.2.2.2.2.2.2.2.2.2.2.2.2.2.2.1
theorem PDL.fin_n {K₁ N₁ : MK} {R₁ : MR} {x₁ : Nat} (h₁ : PDL K₁ N₁ R₁ x₁) : N₁ (x₁ + 29) = 8 := h₁.2.2.2.2.2.2.2.2.2.2.2.2.2.2.2.2.2.2.2.2.2.2.2.2.2.2.2.2.2.2.2.2.1
theorem PDL.dra {K₁ N₁ : MK} {R₁ : MR} {x₁ : Nat} (h₁ : PDL K₁ N₁ R₁ x₁) : K₁ (x₁ + 30) = 2 := h₁.2.2.2.2.2.2.2.2.2.2.2.2.2.2.2.2.2.2.2.2.2.2.2.2.2.2.2.2.2.2.2.2.2.1
theorem PDL.sen {K₁ N₁ : MK} {R₁ : MR} {x₁ : Nat} (h₁ : PDL K₁ N₁ R₁ x₁) : SEL K₁ N₁ R₁ (x₁ + 31) := h₁.2.2.2.2.2.2.2.2.2.2.2.2.2.2.2.2.2.2.2.2.2.2.2.2.2.2.2.2.2.2.2.2.2.2.1
theorem PDL.urd {K₁ N₁ : MK} {R₁ : MR} {x₁ : Nat} (h₁ : PDL K₁ N₁ R₁ x₁) : K₁ (x₁ + 36) = 11 := h₁.2.2.2.2.2.2.2.2.2.2.2.2.2.2.2.2.2.2.2.2.2.2.2.2.2.2.2.2.2.2.2.2.2.2.2.1
theorem PDL.urd_r {K₁ N₁ : MK} {R₁ : MR} {x₁ : Nat} (h₁ : PDL K₁ N₁ R₁ x₁) : R₁ (x₁ + 36) 0 = some (x₁ + 37) := h₁.2.2.2.2.2.2.2.2.2.2.2.2.2.2.2.2.2.2.2.2.2.2.2.2.2.2.2.2.2.2.2.2.2.2.2.2.1
theorem PDL.urd_u {K₁ N₁ : MK} {R₁ : MR} {x₁ : Nat} (h₁ : PDL K₁ N₁ R₁ x₁) : UL K₁ N₁ R₁ (x₁ + 37) := h₁.2.2.2.2.2.2.2.2.2.2.2.2.2.2.2.2.2.2.2.2.2.2.2.2.2.2.2.2.2.2.2.2.2.2.2.2.2.1
theorem PDL.srd {K₁ N₁ : MK} {R₁ : MR} {x₁ : Nat} (h₁ : PDL K₁ N₁ R₁ x₁) : K₁ (x₁ + 53) = 7 := h₁.2.2.2.2.2.2.2.2.2.2.2.2.2.2.2.2.2.2.2.2.2.2.2.2.2.2.2.2.2.2.2.2.2.2.2.2.2.2.1
theorem PDL.srd_r {K₁ N₁ : MK} {R₁ : MR} {x₁ : Nat} (h₁ : PDL K₁ N₁ R₁ x₁) : R₁ (x₁ + 53) 0 = some (x₁ + 54) := h₁.2.2.2.2.2.2.2.2.2.2.2.2.2.2.2.2.2.2.2.2.2.2.2.2.2.2.2.2.2.2.2.2.2.2.2.2.2.2.2.1
theorem PDL.srd_s {K₁ N₁ : MK} {R₁ : MR} {x₁ : Nat} (h₁ : PDL K₁ N₁ R₁ x₁) : SEL K₁ N₁ R₁ (x₁ + 54) := h₁.2.2.2.2.2.2.2.2.2.2.2.2.2.2.2.2.2.2.2.2.2.2.2.2.2.2.2.2.2.2.2.2.2.2.2.2.2.2.2.2.1
theorem PDL.bok {K₁ N₁ : MK} {R₁ : MR} {x₁ : Nat} (h₁ : PDL K₁ N₁ R₁ x₁) : K₁ (x₁ + 59) = 1 := h₁.2.2.2.2.2.2.2.2.2.2.2.2.2.2.2.2.2.2.2.2.2.2.2.2.2.2.2.2.2.2.2.2.2.2.2.2.2.2.2.2.2.1
theorem PDL.bok_r {K₁ N₁ : MK} {R₁ : MR} {x₁ : Nat} (h₁ : PDL K₁ N₁ R₁ x₁) : R₁ (x₁ + 59) 0 = some (x₁ + 60) := h₁.2.2.2.2.2.2.2.2.2.2.2.2.2.2.2.2.2.2.2.2.2.2.2.2.2.2.2.2.2.2.2.2.2.2.2.2.2.2.2.2.2.2.1
theorem PDL.bok_t {K₁ N₁ : MK} {R₁ : MR} {x₁ : Nat} (h₁ : PDL K₁ N₁ R₁ x₁) : TL K₁ N₁ R₁ (x₁ + 60) 40 3 := h₁.2.2.2.2.2.2.2.2.2.2.2.2.2.2.2.2.2.2.2.2.2.2.2.2.2.2.2.2.2.2.2.2.2.2.2.2.2.2.2.2.2.2.2.1
theorem PDL.pak {K₁ N₁ : MK} {R₁ : MR} {x₁ : Nat} (h₁ : PDL K₁ N₁ R₁ x₁) : K₁ (x₁ + 63) = 5 := h₁.2.2.2.2.2.2.2.2.2.2.2.2.2.2.2.2.2.2.2.2.2.2.2.2.2.2.2.2.2.2.2.2.2.2.2.2.2.2.2.2.2.2.2.2.1
theorem PDL.pak_r0 {K₁ N₁ : MK} {R₁ : MR} {x₁ : Nat} (h₁ : PDL K₁ N₁ R₁ x₁) : R₁ (x₁ + 63) 0 = some (x₁ + 64) := h₁.2.2.2.2.2.2.2.2.2.2.2.2.2.2.2.2.2.2.2.2.2.2.2.2.2.2.2.2.2.2.2.2.2.2.2.2.2.2.2.2.2.2.2.2.2.1
theorem PDL.pak_r1 {K₁ N₁ : MK} {R₁ : MR} {x₁ : Nat} (h₁ : PDL K₁ N₁ R₁ x₁) : R₁ (x₁ + 63) 1 = some (x₁ + 67) := h₁.2.2.2.2.2.2.2.2.2.2.2.2.2.2.2.2.2.2.2.2.2.2.2.2.2.2.2.2.2.2.2.2.2.2.2.2.2.2.2.2.2.2.2.2.2.2.1
theorem PDL.pak_r2 {K₁ N₁ : MK} {R₁ : MR} {x₁ : Nat} (h₁ : PDL K₁ N₁ R₁ x₁) : R₁ (x₁ + 63) 2 = some (x₁ + 70) := h₁.2.2.2.2.2.2.2.2.2.2.2.2.2.2.2.2.2.2.2.2.2.2.2.2.2.2.2.2.2.2.2.2.2.2.2.2.2.2.2.2.2.2.2.2.2.2.2.1
theorem PDL.pak_t0 {K₁ N₁ : MK} {R₁ : MR} {x₁ : Nat} (h₁ : PDL K₁ N₁ R₁ x₁) : TL K₁ N₁ R₁ (x₁ + 64) 181 1 := h₁.2.2.2.2.2.2.2.2.2.2.2.2.2.2.2.2.2.2.2.2.2.2.2.2.2.2.2.2.2.2.2.2.2.2.2.2.2.2.2.2.2.2.2.2.2.2.2.2.1
theorem PDL.pak_t1 {K₁ N₁ : MK} {R₁ : MR} {x₁ : Nat} (h₁ : PDL K₁ N₁ R₁ x₁) : TL K₁ N₁ R₁ (x₁ + 67) 30 2 := h₁.2.2.2.2.2.2.2.2.2.2.2.2.2.2.2.2.2.2.2.2.2.2.2.2.2.2.2.2.2.2.2.2.2.2.2.2.2.2.2.2.2.2.2.2.2.2.2.2.2.1
theorem PDL.pak_t2 {K₁ N₁ : MK} {R₁ : MR} {x₁ : Nat} (h₁ : PDL K₁ N₁ R₁ x₁) : TL K₁ N₁ R₁ (x₁ + 70) 30 2 := h₁.2.2.2.2.2.2.2.2.2.2.2.2.2.2.2.2.2.2.2.2.2.2.2.2.2.2.2.2.2.2.2.2.2.2.2.2.2.2.2.2.2.2.2.2.2.2.2.2.2.2.1
theorem PDL.ku_k {K₁ N₁ : MK} {R₁ : MR} {x₁ : Nat} (h₁ : PDL K₁ N₁ R₁ x₁) : K₁ (x₁ + 73) = 19 := h₁.2.2.2.2.2.2.2.2.2.2.2.2.2.2.2.2.2.2.2.2.2.2.2.2.2.2.2.2.2.2.2.2.2.2.2.2.2.2.2.2.2.2.2.2.2.2.2.2.2.2.2.1
theorem PDL.ku_n {K₁ N₁ : MK} {R₁ : MR} {x₁ : Nat} (h₁ : PDL K₁ N₁ R₁ x₁) : N₁ (x₁ + 73) = 2 := h₁.2.2.2.2.2.2.2.2.2.2.2.2.2.2.2.2.2.2.2.2.2.2.2.2.2.2.2.2.2.2.2.2.2.2.2.2.2.2.2.2.2.2.2.2.2.2.2.2.2.2.2.2.1
theorem PDL.ku_0 {K₁ N₁ : MK} {R₁ : MR} {x₁ : Nat} (h₁ : PDL K₁ N₁ R₁ x₁) : R₁ (x₁ + 73) 0 = some (x₁ + 118) := h₁.2.2.2.2.2.2.2.2.2.2.2.2.2.2.2.2.2.2.2.2.2.2.2.2.2.2.2.2.2.2.2.2.2.2.2.2.2.2.2.2.2.2.2.2.2.2.2.2.2.2.2.2.2.1
theorem PDL.ku_1 {K₁ N₁ : MK} {R₁ : MR} {x₁ : Nat} (h₁ : PDL K₁ N₁ R₁ x₁) : R₁ (x₁ + 73) 1 = some (x₁ + 143) := h₁.2.2.2.2.2.2.2.2.2.2.2.2.2.2.2.2.2.2.2.2.2.2.2.2.2.2.2.2.2.2.2.2.2.2.2.2.2.2.2.2.2.2.2.2.2.2.2.2.2.2.2.2.2.2.1
theorem PDL.km_k {K₁ N₁ : MK} {R₁ : MR} {x₁ : Nat} (h₁ : PDL K₁ N₁ R₁ x₁) : K₁ (x₁ + 74) = 17 := h₁.2.2.2.2.2.2.2.2.2.2.2.2.2.2.2.2.2.2.2.2.2.2.2.2.2.2.2.2.2.2.2.2.2.2.2.2.2.2.2.2.2.2.2.2.2.2.2.2.2.2.2.2.2.2.2.1
theorem PDL.km_n {K₁ N₁ : MK} {R₁ : MR} {x₁ : Nat} (h₁ : PDL K₁ N₁ R₁ x₁) : N₁ (x₁ + 74) = 2 := h₁.2.2.2.2.2.2.2.2.2.2.2.2.2.2.2.2.2.2.2.2.2.2.2.2.2.2.2.2.2.2.2.2.2.2.2.2.2.2.2.2.2.2.2.2.2.2.2.2.2.2.2.2.2.2.2.2.1
theorem PDL.km_0 {K₁ N₁ : MK} {R₁ : MR} {x₁ : Nat} (h₁ : PDL K₁ N₁ R₁ x₁) : R₁ (x₁ + 74) 0 = some (x₁ + 134) := h₁.2.2.2.2.2.2.2.2.2.2.2.2.2.2.2.2.2.2.2.2.2.2.2.2.2.2.2.2.2.2.2.2.2.2.2.2.2.2.2.2.2.2.2.2.2.2.2.2.2.2.2.2.2.2.2.2.2.1
theorem PDL.km_1 {K₁ N₁ : MK} {R₁ : MR} {x₁ : Nat} (h₁ : PDL K₁ N₁ R₁ x₁) : R₁ (x₁ + 74) 1 = some (x₁ + 159) := h₁.2.2.2.2.2.2.2.2.2.2.2.2.2.2.2.2.2.2.2.2.2.2.2.2.2.2.2.2.2.2.2.2.2.2.2.2.2.2.2.2.2.2.2.2.2.2.2.2.2.2.2.2.2.2.2.2.2.2.1
theorem PDL.ks_k {K₁ N₁ : MK} {R₁ : MR} {x₁ : Nat} (h₁ : PDL K₁ N₁ R₁ x₁) : K₁ (x₁ + 75) = 18 := h₁.2.2.2.2.2.2.2.2.2.2.2.2.2.2.2.2.2.2.2.2.2.2.2.2.2.2.2.2.2.2.2.2.2.2.2.2.2.2.2.2.2.2.2.2.2.2.2.2.2.2.2.2.2.2.2.2.2.2.2.1
theorem PDL.ks_n {K₁ N₁ : MK} {R₁ : MR} {x₁ : Nat} (h₁ : PDL K₁ N₁ R₁ x₁) : N₁ (x₁ + 75) = 2 := h₁.2.2.2.2.2.2.2.2.2.2.2.2.2.2.2.2.2.2.2.2.2.2.2.2.2.2.2.2.2.2.2.2.2.2.2.2.2.2.2.2.2.2.2.2.2.2.2.2.2.2.2.2.2.2.2.2.2.2.2.2.1
theorem PDL.ks_0 {K₁ N₁ : MK} {R₁ : MR} {x₁ : Nat} (h₁ : PDL K₁ N₁ R₁ x₁) : R₁ (x₁ + 75) 0 = some (x₁ + 138) := h₁.2.2.2.2.2.2.2.2.2.2.2.2.2.2.2.2.2.2.2.2.2.2.2.2.2.2.2.2.2.2.2.2.2.2.2.2.2.2.2.2.2.2.2.2.2.2.2.2.2.2.2.2.2.2.2.2.2.2.2.2.2.1
theorem PDL.ks_1 {K₁ N₁ : MK} {R₁ : MR} {x₁ : Nat} (h₁ : PDL K₁ N₁ R₁ x₁) : R₁ (x₁ + 75) 1 = some (x₁ + 163) := h₁.2.2.2.2.2.2.2.2.2.2.2.2.2.2.2.2.2.2.2.2.2.2.2.2.2.2.2.2.2.2.2.2.2.2.2.2.2.2.2.2.2.2.2.2.2.2.2.2.2.2.2.2.2.2.2.2.2.2.2.2.2.2.1
theorem PDL.kk_k {K₁ N₁ : MK} {R₁ : MR} {x₁ : Nat} (h₁ : PDL K₁ N₁ R₁ x₁) : K₁ (x₁ + 76) = 16 := h₁.2.2.2.2.2.2.2.2.2.2.2.2.2.2.2.2.2.2.2.2.2.2.2.2.2.2.2.2.2.2.2.2.2.2.2.2.2.2.2.2.2.2.2.2.2.2.2.2.2.2.2.2.2.2.2.2.2.2.2.2.2.2.2.1
theorem PDL.kk_n {K₁ N₁ : MK} {R₁ : MR} {x₁ : Nat} (h₁ : PDL K₁ N₁ R₁ x₁) : N₁ (x₁ + 76) = 2 := h₁.2.2.2.2.2.2.2.2.2.2.2.2.2.2.2.2.2.2.2.2.2.2.2.2.2.2.2.2.2.2.2.2.2.2.2.2.2.2.2.2.2.2.2.2.2.2.2.2.2.2.2.2.2.2.2.2.2.2.2.2.2.2.2.2.1
theorem PDL.u0 {K₁ N₁ : MK} {R₁ : MR} {x₁ : Nat} (h₁ : PDL K₁ N₁ R₁ x₁) : UL K₁ N₁ R₁ (x₁ + 118) := h₁.2.2.2.2.2.2.2.2.2.2.2.2.2.2.2.2.2.2.2.2.2.2.2.2.2.2.2.2.2.2.2.2.2.2.2.2.2.2.2.2.2.2.2.2.2.2.2.2.2.2.2.2.2.2.2.2.2.2.2.2.2.2.2.2.2.1
theorem PDL.m0 {K₁ N₁ : MK} {R₁ : MR} {x₁ : Nat} (h₁ : PDL K₁ N₁ R₁ x₁) : MAL K₁ N₁ R₁ (x₁ + 134) := h₁.2.2.2.2.2.2.2.2.2.2.2.2.2.2.2.2.2.2.2.2.2.2.2.2.2.2.2.2.2.2.2.2.2.2.2.2.2.2.2.2.2.2.2.2.2.2.2.2.2.2.2.2.2.2.2.2.2.2.2.2.2.2.2.2.2.2.1
theorem PDL.s0 {K₁ N₁ : MK} {R₁ : MR} {x₁ : Nat} (h₁ : PDL K₁ N₁ R₁ x₁) : SEL K₁ N₁ R₁ (x₁ + 138) := h₁.2.2.2.2.2.2.2.2.2.2.2.2.2.2.2.2.2.2.2.2.2.2.2.2.2.2.2.2.2.2.2.2.2.2.2.2.2.2.2.2.2.2.2.2.2.2.2.2.2.2.2.2.2.2.2.2.2.2.2.2.2.2.2.2.2.2.2.1
theorem PDL.u1 {K₁ N₁ : MK} {R₁ : MR} {x₁ : Nat} (h₁ : PDL K₁ N₁ R₁ x₁) : UL K₁ N₁ R₁ (x₁ + 143) := h₁.2.2.2.2.2.2.2.2.2.2.2.2.2.2.2.2.2.2.2.2.2.2.2.2.2.2.2.2.2.2.2.2.2.2.2.2.2.2.2.2.2.2.2.2.2.2.2.2.2.2.2.2.2.2.2.2.2.2.2.2.2.2.2.2.2.2.2.2.1
theorem PDL.m1 {K₁ N₁ : MK} {R₁ : MR} {x₁ : Nat} (h₁ : PDL K₁ N₁ R₁ x₁) : MAL K₁ N₁ R₁ (x₁ + 159) := h₁.2.2.2.2.2.2.2.2.2.2.2.2.2.2.2.2.2.2.2.2.2.2.2.2.2.2.2.2.2.2.2.2.2.2.2.2.2.2.2.2.2.2.2.2.2.2.2.2.2.2.2.2.2.2.2.2.2.2.2.2.2.2.2.2.2.2.2.2.2.1
theorem PDL.s1 {K₁ N₁ : MK} {R₁ : MR} {x₁ : Nat} (h₁ : PDL K₁ N₁ R₁ x₁) : SEL K₁ N₁ R₁ (x₁ + 163) := h₁.2.2.2.2.2.2.2.2.2.2.2.2.2.2.2.2.2.2.2.2.2.2.2.2.2.2.2.2.2.2.2.2.2.2.2.2.2.2.2.2.2.2.2.2.2.2.2.2.2.2.2.2.2.2.2.2.2.2.2.2.2.2.2.2.2.2.2.2.2.2.1
theorem PDL.cha {K₁ N₁ : MK} {R₁ : MR} {x₁ : Nat} (h₁ : PDL K₁ N₁ R₁ x₁) : TL K₁ N₁ R₁ (x₁ + 77) 10 2 := h₁.2.2.2.2.2.2.2.2.2.2.2.2.2.2.2.2.2.2.2.2.2.2.2.2.2.2.2.2.2.2.2.2.2.2.2.2.2.2.2.2.2.2.2.2.2.2.2.2.2.2.2.2.2.2.2.2.2.2.2.2.2.2.2.2.2.2.2.2.2.2.2.1
theorem PDL.tag {K₁ N₁ : MK} {R₁ : MR} {x₁ : Nat} (h₁ : PDL K₁ N₁ R₁ x₁) : TL K₁ N₁ R₁ (x₁ + 80) 40 1 := h₁.2.2.2.2.2.2.2.2.2.2.2.2.2.2.2.2.2.2.2.2.2.2.2.2.2.2.2.2.2.2.2.2.2.2.2.2.2.2.2.2.2.2.2.2.2.2.2.2.2.2.2.2.2.2.2.2.2.2.2.2.2.2.2.2.2.2.2.2.2.2.2.2.1
theorem PDL.tol {K₁ N₁ : MK} {R₁ : MR} {x₁ : Nat} (h₁ : PDL K₁ N₁ R₁ x₁) : TL K₁ N₁ R₁ (x₁ + 83) 1 4 := h₁.2.2.2.2.2.2.2.2.2.2.2.2.2.2.2.2.2.2.2.2.2.2.2.2.2.2.2.2.2.2.2.2.2.2.2.2.2.2.2.2.2.2.2.2.2.2.2.2.2.2.2.2.2.2.2.2.2.2.2.2.2.2.2.2.2.2.2.2.2.2.2.2.2

section UN₁
variable {K₁ N₁ : MK} {I₁ : MI} {L₁ : ML} {R₁ : MR} {u₁ x₁ : Nat} {U₁ : Nat → Int32} {W₁ : Nat → Int64}
theorem s_has {t₁ m₁ w₁ n₁ : Nat} {k₁ : Int32} {Q₁ : Bool → Prop} (hT₁ : TL K₁ N₁ R₁ t₁ m₁ w₁) (hD₁ : TD I₁ t₁ m₁ w₁ n₁) (h₁ : Q₁ (inN k₁ n₁)) : w_X7_has t₁ k₁ K₁ N₁ I₁ L₁ R₁ Q₁ := by
  refine ⟨fun e₁ => ?_, fun e₁ => ⟨hT₁.1, fun e2₁ => ?_, fun e2₁ => ?_⟩⟩
  · rw [show inN k₁ n₁ = false by simp only [inN, Bool.and_eq_false_iff, decide_eq_false_iff_not]; exact Or.inl (Int32.not_le.mpr e₁)] at h₁; exact h₁
  · rw [hD₁.2.1] at e2₁
    rw [show inN k₁ n₁ = false by simp only [inN, Bool.and_eq_false_iff, decide_eq_false_iff_not]; exact Or.inr (Int32.not_lt.mpr e2₁)] at h₁; exact h₁
  · rw [hD₁.2.1] at e2₁
    rw [show inN k₁ n₁ = true by simp only [inN, Bool.and_eq_true, decide_eq_true_eq]; exact ⟨Int32.not_lt.mp e₁, Int32.not_le.mp e2₁⟩] at h₁; exact h₁
theorem inN_false {k₁ n₁ : Nat} (h₁ : n₁ ≤ k₁) (hk₁ : k₁ < 2147483648) : inN (nI k₁) n₁ = false := by
  simp only [inN, Bool.and_eq_false_iff, decide_eq_false_iff_not]
  exact Or.inr (by rw [ltN hk₁ (by omega)]; omega)
theorem s_rowLength {k₁ : Nat} {Q₁ : Int32 → Prop} (hL₁ : UL K₁ N₁ R₁ u₁) (h0₁ : I₁ u₁ 0 = U₁ 0) (hD₁ : UD1₁ I₁ u₁ U₁) (hU₁ : WFc U₁) (hk₁ : k₁ < ix (U₁ 1)) (h₁ : Q₁ (rowEnd U₁ k₁ - U₁ (6 + k₁))) : w_X9_rowLength u₁ (nI k₁) K₁ N₁ I₁ L₁ R₁ Q₁ := by
  have hn₁ := hU₁.1.2
  have hT₁ := hL₁.2.2.2.2.2.2.1
  obtain ⟨hd₁, hv₁⟩ := hD₁
  have e0₁ : tat I₁ (u₁ + 1) 2 (ix (U₁ 1)) (nI k₁) 0 = U₁ (6 + k₁) := by rw [show (0 : Int32) = nI 0 from rfl, tat_in hk₁ (by omega) (by omega) (by omega), (hv₁ k₁ hk₁).1]
  rw [rowEnd] at h₁
  refine ⟨hL₁.1, _, hL₁.2.1, hT₁.1, s_has hT₁ hd₁ ?_⟩
  rw [show nI k₁ + 1 = nI (k₁ + 1) from nI_1 k₁]
  by_cases c₁ : k₁ + 1 = ix (U₁ 1)
  · rw [inN_false (by omega) (by omega)]
    rw [if_pos c₁] at h₁
    refine ⟨fun _ v₁ ev₁ => s_at hT₁ hd₁ ?_, fun g₁ => by cases g₁⟩
    rw [e0₁, ev₁, h0₁]; exact h₁
  · rw [inN_nI (by omega) (by omega)]
    rw [if_neg c₁] at h₁
    refine ⟨fun g₁ => (by cases g₁), fun _ => s_at hT₁ hd₁ (s_at hT₁ hd₁ ?_)⟩
    rw [e0₁, show (0 : Int32) = nI 0 from rfl, tat_in (by omega) (by omega) (by omega) (by omega), (hv₁ (k₁ + 1) (by omega)).1]
    exact h₁
theorem s_lineLength {line : Int32} {Q₁ : Int32 → Prop} (hL₁ : UL K₁ N₁ R₁ u₁) (h0₁ : I₁ u₁ 0 = U₁ 0) (hD₁ : UD1₁ I₁ u₁ U₁) (hU₁ : WFc U₁) (h₁ : Q₁ (lsum U₁ line (ix (U₁ 1)))) : w_X9_lineLength u₁ line K₁ N₁ I₁ L₁ R₁ Q₁ := by
  delta w_X9_lineLength w_X9_lineLength_4
  have hn₁ := hU₁.1.2
  have hT₁ := hL₁.2.2.2.2.2.2.1
  have hd₁ := hD₁.1
  have hv₁ := hD₁.2
  refine ⟨fun n₁ x0₁ x1₁ x2₁ x3₁ => x0₁ = u₁ ∧ x1₁ = line ∧ ∃ i₁, i₁ ≤ ix (U₁ 1) ∧ n₁ = ix (U₁ 1) - i₁ ∧ x3₁ = nI i₁ ∧ x2₁ = lsum U₁ line i₁, ⟨_, rfl, rfl, 0, Nat.zero_le _, rfl, rfl, rfl⟩, ?_⟩
  rintro n₁ x0₁ x1₁ x2₁ x3₁ ⟨rfl, rfl, i₁, hi₁, hm₁, rfl, rfl⟩
  refine ⟨hL₁.1, _, hL₁.2.1, hT₁.1, fun e₁ => ?_, fun e₁ => ?_⟩
  · rw [hd₁.2.1, leN (by omega) (by omega)] at e₁
    rw [show ix (U₁ 1) = i₁ by omega] at h₁; exact h₁
  · rw [hd₁.2.1, leN (by omega) (by omega)] at e₁
    refine s_at hT₁ hd₁ ?_
    rw [show (1 : Int32) = nI 1 from rfl, tat_in (by omega) (by omega) (by omega) (by omega), (hv₁ i₁ (by omega)).2]
    refine ⟨fun g₁ v₁ ev₁ => ⟨ix (U₁ 1) - (i₁ + 1), by omega, rfl, rfl, i₁ + 1, by omega, rfl, by rw [ev₁]; exact nI_1 i₁, ?_⟩, fun g₁ => s_rowLength hL₁ h0₁ hD₁ hU₁ (by omega) fun y₁ ey₁ v₁ ev₁ => ⟨ix (U₁ 1) - (i₁ + 1), by omega, rfl, rfl, i₁ + 1, by omega, rfl, by rw [ev₁]; exact nI_1 i₁, ?_⟩⟩
    · rw [lsum, if_neg g₁]
    · rw [lsum, if_pos g₁, ey₁]
theorem s_row {k₁ w₁ : Int32} {Q₁ : Int32 → Prop} (hX₁ : PDL K₁ N₁ R₁ x₁) (h0₁ : I₁ (x₁ + 3) 0 = U₁ 0) (hD₁ : UD1₁ I₁ (x₁ + 3) U₁) (hU₁ : WFc U₁) (h₁ : Q₁ (rowS U₁ k₁ w₁)) : w_X11_row x₁ k₁ w₁ K₁ N₁ I₁ L₁ R₁ Q₁ := by
  have hn₁ := hU₁.1.2
  have hL₁ := hX₁.un
  have hT₁ := hL₁.2.2.2.2.2.2.1
  have hd₁ := hD₁.1
  have hv₁ := hD₁.2
  refine ⟨hX₁.k, _, hX₁.r_unit, hL₁.1, _, hL₁.2.1, hT₁.1, s_has hT₁ hd₁ ⟨fun e₁ => ?_, fun e₁ => ?_⟩⟩
  · rw [rowS, if_pos e₁] at h₁
    obtain ⟨j₁, hj₁, rfl⟩ := inN_t e₁ (by omega)
    rw [ix_nI (by omega)] at h₁
    refine ⟨fun e0₁ => s_at hT₁ hd₁ ?_, fun e0₁ => ⟨fun e1₁ => s_at hT₁ hd₁ ?_, fun e1₁ => ⟨fun e2₁ => s_rowLength hL₁ h0₁ hD₁ hU₁ hj₁ ?_, fun e2₁ => ?_⟩⟩⟩
    · rw [if_pos e0₁] at h₁
      rw [show (0 : Int32) = nI 0 from rfl, tat_in hj₁ (by omega) (by omega) (by omega), (hv₁ j₁ hj₁).1]; exact h₁
    · rw [if_neg e0₁, if_pos e1₁] at h₁
      rw [show (1 : Int32) = nI 1 from rfl, tat_in hj₁ (by omega) (by omega) (by omega), (hv₁ j₁ hj₁).2]; exact h₁
    · rw [if_neg e0₁, if_neg e1₁, if_pos e2₁] at h₁; exact h₁
    · rw [if_neg e0₁, if_neg e1₁, if_neg e2₁] at h₁; exact h₁
  · rw [rowS, if_neg (by rw [e₁]; decide)] at h₁; exact h₁
theorem s_longest {Q₁ : Int32 → Prop} (hX₁ : PDL K₁ N₁ R₁ x₁) (h0₁ : I₁ (x₁ + 3) 0 = U₁ 0) (hD₁ : UD1₁ I₁ (x₁ + 3) U₁) (hU₁ : WFc U₁) (h₁ : Q₁ (lgst U₁ 250).1) : w_X11_longest x₁ K₁ N₁ I₁ L₁ R₁ Q₁ := by
  have hL₁ := hX₁.un
  delta w_X11_longest w_X11_longest_6
  refine ⟨fun n₁ x0₁ x1₁ x2₁ x3₁ => x0₁ = x₁ ∧ ∃ l₁, l₁ ≤ 250 ∧ n₁ = 250 - l₁ ∧ x3₁ = nI (l₁ + 1) ∧ x1₁ = (lgst U₁ l₁).1 ∧ x2₁ = (lgst U₁ l₁).2, ⟨_, rfl, 0, Nat.zero_le _, rfl, rfl, rfl, rfl⟩, ?_⟩
  rintro n₁ x0₁ x1₁ x2₁ x3₁ ⟨rfl, l₁, hl₁, hm₁, rfl, rfl, rfl⟩
  refine ⟨fun e₁ => ?_, fun e₁ => ?_⟩
  · rw [show (250 : Int32) = nI 250 from rfl, ltN (by omega) (by omega)] at e₁
    rw [show 250 = l₁ by omega] at h₁; exact h₁
  · rw [show (250 : Int32) = nI 250 from rfl, ltN (by omega) (by omega)] at e₁
    refine ⟨hX₁.k, _, hX₁.r_unit, hL₁.1, s_lineLength hL₁ h0₁ hD₁ hU₁ ⟨fun g₁ v₁ ev₁ => ⟨250 - (l₁ + 1), by omega, rfl, l₁ + 1, by omega, rfl, by rw [ev₁]; exact nI_1 _, ?_, ?_⟩, fun g₁ v₁ ev₁ => ⟨250 - (l₁ + 1), by omega, rfl, l₁ + 1, by omega, rfl, by rw [ev₁]; exact nI_1 _, ?_, ?_⟩⟩⟩
    · rw [lgst, if_neg (Int32.not_lt.mpr g₁)]
    · rw [lgst, if_neg (Int32.not_lt.mpr g₁)]
    · rw [lgst, if_pos (Int32.not_le.mp g₁)]
    · rw [lgst, if_pos (Int32.not_le.mp g₁)]
end UN₁
