/-! ===== the reference: its cells; its pure methods ===== -/
/-- the cells of the reference: the object and its arrays -/
def MDL (K₁ N₁ : MK) (R₁ : MR) (m₁ : Nat) : Prop := K₁ m₁ = 13 ∧ R₁ m₁ 1 = some (m₁ + 1) ∧ K₁ (m₁ + 1) = 14 ∧ N₁ (m₁ + 1) = 940 ∧ R₁ m₁ 14 = some (m₁ + 2) ∧ K₁ (m₁ + 2) = 14 ∧ N₁ (m₁ + 2) = 667 ∧ R₁ m₁ 15 = some (m₁ + 3) ∧ K₁ (m₁ + 3) = 14 ∧ N₁ (m₁ + 3) = 342 ∧ R₁ m₁ 16 = some (m₁ + 4) ∧ K₁ (m₁ + 4) = 14 ∧ N₁ (m₁ + 4) = 1334 ∧ R₁ m₁ 17 = some (m₁ + 5) ∧ K₁ (m₁ + 5) = 14 ∧ N₁ (m₁ + 5) = 664 ∧ R₁ m₁ 18 = some (m₁ + 6) ∧ K₁ (m₁ + 6) = 14 ∧ N₁ (m₁ + 6) = 83 ∧ R₁ m₁ 19 = some (m₁ + 7) ∧ K₁ (m₁ + 7) = 14 ∧ N₁ (m₁ + 7) = 83 ∧ R₁ m₁ 20 = some (m₁ + 8) ∧ K₁ (m₁ + 8) = 15 ∧ N₁ (m₁ + 8) = 26 ∧ R₁ m₁ 21 = some (m₁ + 9) ∧ K₁ (m₁ + 9) = 15 ∧ N₁ (m₁ + 9) = 26 ∧ R₁ m₁ 22 = some (m₁ + 10) ∧ K₁ (m₁ + 10) = 15 ∧ N₁ (m₁ + 10) = 52 ∧ R₁ m₁ 23 = some (m₁ + 11) ∧ K₁ (m₁ + 11) = 16 ∧ N₁ (m₁ + 11) = 2 ∧ R₁ m₁ 26 = some (m₁ + 12) ∧ K₁ (m₁ + 12) = 14 ∧ N₁ (m₁ + 12) = 10 ∧ R₁ m₁ 27 = some (m₁ + 13) ∧ K₁ (m₁ + 13) = 14 ∧ N₁ (m₁ + 13) = 10 ∧ R₁ m₁ 29 = some (m₁ + 14) ∧ K₁ (m₁ + 14) = 14 ∧ N₁ (m₁ + 14) = 9 ∧ R₁ m₁ 32 = some (m₁ + 15) ∧ K₁ (m₁ + 15) = 14 ∧ N₁ (m₁ + 15) = 256 ∧ R₁ m₁ 33 = some (m₁ + 16) ∧ K₁ (m₁ + 16) = 14 ∧ N₁ (m₁ + 16) = 24 ∧ R₁ m₁ 34 = some (m₁ + 17) ∧ K₁ (m₁ + 17) = 14 ∧ N₁ (m₁ + 17) = 24 ∧ R₁ m₁ 38 = some (m₁ + 18) ∧ K₁ (m₁ + 18) = 14 ∧ N₁ (m₁ + 18) = 30 ∧ R₁ m₁ 39 = some (m₁ + 19) ∧ K₁ (m₁ + 19) = 14 ∧ N₁ (m₁ + 19) = 30 ∧ R₁ m₁ 40 = some (m₁ + 20) ∧ K₁ (m₁ + 20) = 14 ∧ N₁ (m₁ + 20) = 30 ∧ R₁ m₁ 41 = some (m₁ + 21) ∧ K₁ (m₁ + 21) = 14 ∧ N₁ (m₁ + 21) = 30 ∧ R₁ m₁ 46 = some (m₁ + 22) ∧ K₁ (m₁ + 22) = 14 ∧ N₁ (m₁ + 22) = 48 ∧ R₁ m₁ 49 = some (m₁ + 23) ∧ K₁ (m₁ + 23) = 14 ∧ N₁ (m₁ + 23) = 120 ∧ R₁ m₁ 50 = some (m₁ + 24) ∧ K₁ (m₁ + 24) = 14 ∧ N₁ (m₁ + 24) = 4 ∧ R₁ m₁ 53 = some (m₁ + 25) ∧ K₁ (m₁ + 25) = 14 ∧ N₁ (m₁ + 25) = 240
theorem MDL.k {K₁ N₁ : MK} {R₁ : MR} {m₁ : Nat} (h₁ : MDL K₁ N₁ R₁ m₁) : K₁ m₁ = 13 := h₁.1
theorem MDL.r1 {K₁ N₁ : MK} {R₁ : MR} {m₁ : Nat} (h₁ : MDL K₁ N₁ R₁ m₁) : R₁ m₁ 1 = some (m₁ + 1) := h₁.2.1
theorem MDL.k1 {K₁ N₁ : MK} {R₁ : MR} {m₁ : Nat} (h₁ : MDL K₁ N₁ R₁ m₁) : K₁ (m₁ + 1) = 14 := h₁.2.2.1
theorem MDL.n1 {K₁ N₁ : MK} {R₁ : MR} {m₁ : Nat} (h₁ : MDL K₁ N₁ R₁ m₁) : N₁ (m₁ + 1) = 940 := h₁.2.2.2.1
theorem MDL.r14 {K₁ N₁ : MK} {R₁ : MR} {m₁ : Nat} (h₁ : MDL K₁ N₁ R₁ m₁) : R₁ m₁ 14 = some (m₁ + 2) := h₁.2.2.2.2.1
theorem MDL.k2 {K₁ N₁ : MK} {R₁ : MR} {m₁ : Nat} (h₁ : MDL K₁ N₁ R₁ m₁) : K₁ (m₁ + 2) = 14 := h₁.2.2.2.2.2.1
theorem MDL.n2 {K₁ N₁ : MK} {R₁ : MR} {m₁ : Nat} (h₁ : MDL K₁ N₁ R₁ m₁) : N₁ (m₁ + 2) = 667 := h₁.2.2.2.2.2.2.1
theorem MDL.r15 {K₁ N₁ : MK} {R₁ : MR} {m₁ : Nat} (h₁ : MDL K₁ N₁ R₁ m₁) : R₁ m₁ 15 = some (m₁ + 3) := h₁.2.2.2.2.2.2.2.1
theorem MDL.k3 {K₁ N₁ : MK} {R₁ : MR} {m₁ : Nat} (h₁ : MDL K₁ N₁ R₁ m₁) : K₁ (m₁ + 3) = 14 := h₁.2.2.2.2.2.2.2.2.1
theorem MDL.n3 {K₁ N₁ : MK} {R₁ : MR} {m₁ : Nat} (h₁ : MDL K₁ N₁ R₁ m₁) : N₁ (m₁ + 3) = 342 := h₁.2.2.2.2.2.2.2.2.2.1
theorem MDL.r16 {K₁ N₁ : MK} {R₁ : MR} {m₁ : Nat} (h₁ : MDL K₁ N₁ R₁ m₁) : R₁ m₁ 16 = some (m₁ + 4) := h₁.2.2.2.2.2.2.2.2.2.2.1
theorem MDL.k4 {K₁ N₁ : MK} {R₁ : MR} {m₁ : Nat} (h₁ : MDL K₁ N₁ R₁ m₁) : K₁ (m₁ + 4) = 14 := h₁.2.2.2.2.2.2.2.2.2.2.2.1
theorem MDL.n4 {K₁ N₁ : MK} {R₁ : MR} {m₁ : Nat} (h₁ : MDL K₁ N₁ R₁ m₁) : N₁ (m₁ + 4) = 1334 := h₁.2.2.2.2.2.2.2.2.2.2.2.2.1
theorem MDL.r17 {K₁ N₁ : MK} {R₁ : MR} {m₁ : Nat} (h₁ : MDL K₁ N₁ R₁ m₁) : R₁ m₁ 17 = some (m₁ + 5) := h₁.2.2.2.2.2.2.2.2.2.2.2.2.2.1
theorem MDL.k5 {K₁ N₁ : MK} {R₁ : MR} {m₁ : Nat} (h₁ : MDL K₁ N₁ R₁ m₁) : K₁ (m₁ + 5) = 14 := h₁.2.2.2.2.2.2.2.2.2.2.2.2.2.2.1
theorem MDL.n5 {K₁ N₁ : MK} {R₁ : MR} {m₁ : Nat} (h₁ : MDL K₁ N₁ R₁ m₁) : N₁ (m₁ + 5) = 664 := h₁.2.2.2.2.2.2.2.2.2.2.2.2.2.2.2.1
theorem MDL.r18 {K₁ N₁ : MK} {R₁ : MR} {m₁ : Nat} (h₁ : MDL K₁ N₁ R₁ m₁) : R₁ m₁ 18 = some (m₁ + 6) := h₁.2.2.2.2.2.2.2.2.2.2.2.2.2.2.2.2.1
theorem MDL.k6 {K₁ N₁ : MK} {R₁ : MR} {m₁ : Nat} (h₁ : MDL K₁ N₁ R₁ m₁) : K₁ (m₁ + 6) = 14 := h₁.2.2.2.2.2.2.2.2.2.2.2.2.2.2.2.2.2.1
theorem MDL.n6 {K₁ N₁ : MK} {R₁ : MR} {m₁ : Nat} (h₁ : MDL K₁ N₁ R₁ m₁) : N₁ (m₁ + 6) = 83 := h₁.2.2.2.2.2.2.2.2.2.2.2.2.2.2.2.2.2.2.1
theorem MDL.r19 {K₁ N₁ : MK} {R₁ : MR} {m₁ : Nat} (h₁ : MDL K₁ N₁ R₁ m₁) : R₁ m₁ 19 = some (m₁ + 7) := h₁.2.2.2.2.2.2.2.2.2.2.2.2.2.2.2.2.2.2.2.1
theorem MDL.k7 {K₁ N₁ : MK} {R₁ : MR} {m₁ : Nat} (h₁ : MDL K₁ N₁ R₁ m₁) : K₁ (m₁ + 7) = 14 := h₁.2.2.2.2.2.2.2.2.2.2.2.2.2.2.2.2.2.2.2.2.1
theorem MDL.n7 {K₁ N₁ : MK} {R₁ : MR} {m₁ : Nat} (h₁ : MDL K₁ N₁ R₁ m₁) : N₁ (m₁ + 7) = 83 := h₁.2.2.2.2.2.2.2.2.2.2.2.2.2.2.2.2.2.2.2.2.2.1
theorem MDL.r20 {K₁ N₁ : MK} {R₁ : MR} {m₁ : Nat} (h₁ : MDL K₁ N₁ R₁ m₁) : R₁ m₁ 20 = some (m₁ + 8) := h₁.2.2.2.2.2.2.2.2.2.2.2.2.2.2.2.2.2.2.2.2.2.2.1
theorem MDL.k8 {K₁ N₁ : MK} {R₁ : MR} {m₁ : Nat} (h₁ : MDL K₁ N₁ R₁ m₁) : K₁ (m₁ + 8) = 15 := h₁.2.2.2.2.2.2.2.2.2.2.2.2.2.2.2.2.2.2.2.2.2.2.2.1
theorem MDL.n8 {K₁ N₁ : MK} {R₁ : MR} {m₁ : Nat} (h₁ : MDL K₁ N₁ R₁ m₁) : N₁ (m₁ + 8) = 26 := h₁.2.2.2.2.2.2.2.2.2.2.2.2.2.2.2.2.2.2.2.2.2.2.2.2.1
theorem MDL.r21 {K₁ N₁ : MK} {R₁ : MR} {m₁ : Nat} (h₁ : MDL K₁ N₁ R₁ m₁) : R₁ m₁ 21 = some (m₁ + 9) := h₁.2.2.2.2.2.2.2.2.2.2.2.2.2.2.2.2.2.2.2.2.2.2.2.2.2.1
theorem MDL.k9 {K₁ N₁ : MK} {R₁ : MR} {m₁ : Nat} (h₁ : MDL K₁ N₁ R₁ m₁) : K₁ (m₁ + 9) = 15 := h₁.2.2.2.2.2.2.2.2.2.2.2.2.2.2.2.2.2.2.2.2.2.2.2.2.2.2.1
theorem MDL.n9 {K₁ N₁ : MK} {R₁ : MR} {m₁ : Nat} (h₁ : MDL K₁ N₁ R₁ m₁) : N₁ (m₁ + 9) = 26 := h₁.2.2.2.2.2.2.2.2.2.2.2.2.2.2.2.2.2.2.2.2.2.2.2.2.2.2.2.1
theorem MDL.r22 {K₁ N₁ : MK} {R₁ : MR} {m₁ : Nat} (h₁ : MDL K₁ N₁ R₁ m₁) : R₁ m₁ 22 = some (m₁ + 10) := h₁.2.2.2.2.2.2.2.2.2.2.2.2.2.2.2.2.2.2.2.2.2.2.2.2.2.2.2.2.1
theorem MDL.k10 {K₁ N₁ : MK} {R₁ : MR} {m₁ : Nat} (h₁ : MDL K₁ N₁ R₁ m₁) : K₁ (m₁ + 10) = 15 := h₁.2.2.2.2.2.2.2.2.2.2.2.2.2.2.2.2.2.2.2.2.2.2.2.2.2.2.2.2.2.1
theorem MDL.n10 {K₁ N₁ : MK} {R₁ : MR} {m₁ : Nat} (h₁ : MDL K₁ N₁ R₁ m₁) : N₁ (m₁ + 10) = 52 := h₁.2.2.2.2.2.2.2.2.2.2.2.2.2.2.2.2.2.2.2.2.2.2.2.2.2.2.2.2.2.2.1
theorem MDL.r23 {K₁ N₁ : MK} {R₁ : MR} {m₁ : Nat} (h₁ : MDL K₁ N₁ R₁ m₁) : R₁ m₁ 23 = some (m₁ + 11) := h₁.2.2.2.2.2.2.2.2.2.2.2.2.2.2.2.2.2.2.2.2.2.2.2.2.2.2.2.2.2.2.2.1
theorem MDL.k11 {K₁ N₁ : MK} {R₁ : MR} {m₁ : Nat} (h₁ : MDL K₁ N₁ R₁ m₁) : K₁ (m₁ + 11) = 16 := h₁.2.2.2.2.2.2.2.2.2.2.2.2.2.2.2.2.2.2.2.2.2.2.2.2.2.2.2.2.2.2.2.2.1
theorem MDL.n11 {K₁ N₁ : MK} {R₁ : MR} {m₁ : Nat} (h₁ : MDL K₁ N₁ R₁ m₁) : N₁ (m₁ + 11) = 2 := h₁.2.2.2.2.2.2.2.2.2.2.2.2.2.2.2.2.2.2.2.2.2.2.2.2.2.2.2.2.2.2.2.2.2.1
theorem MDL.r26 {K₁ N₁ : MK} {R₁ : MR} {m₁ : Nat} (h₁ : MDL K₁ N₁ R₁ m₁) : R₁ m₁ 26 = some (m₁ + 12) := h₁.2.2.2.2.2.2.2.2.2.2.2.2.2.2.2.2.2.2.2.2.2.2.2.2.2.2.2.2.2.2.2.2.2.2.1
theorem MDL.k12 {K₁ N₁ : MK} {R₁ : MR} {m₁ : Nat} (h₁ : MDL K₁ N₁ R₁ m₁) : K₁ (m₁ + 12) = 14 := h₁.2.2.2.2.2.2.2.2.2.2.2.2.2.2.2.2.2.2.2.2.2.2.2.2.2.2.2.2.2.2.2.2.2.2.2.1
theorem MDL.n12 {K₁ N₁ : MK} {R₁ : MR} {m₁ : Nat} (h₁ : MDL K₁ N₁ R₁ m₁) : N₁ (m₁ + 12) = 10 := h₁.2.2.2.2.2.2.2.2.2.2.2.2.2.2.2.2.2.2.2.2.2.2.2.2.2.2.2.2.2.2.2.2.2.2.2.2.1
theorem MDL.r27 {K₁ N₁ : MK} {R₁ : MR} {m₁ : Nat} (h₁ : MDL K₁ N₁ R₁ m₁) : R₁ m₁ 27 = some (m₁ + 13) := h₁.2.2.2.2.2.2.2.2.2.2.2.2.2.2.2.2.2.2.2.2.2.2.2.2.2.2.2.2.2.2.2.2.2.2.2.2.2.1
theorem MDL.k13 {K₁ N₁ : MK} {R₁ : MR} {m₁ : Nat} (h₁ : MDL K₁ N₁ R₁ m₁) : K₁ (m₁ + 13) = 14 := h₁.2.2.2.2.2.2.2.2.2.2.2.2.2.2.2.2.2.2.2.2.2.2.2.2.2.2.2.2.2.2.2.2.2.2.2.2.2.2.1
theorem MDL.n13 {K₁ N₁ : MK} {R₁ : MR} {m₁ : Nat} (h₁ : MDL K₁ N₁ R₁ m₁) : N₁ (m₁ + 13) = 10 := h₁.2.2.2.2.2.2.2.2.2.2.2.2.2.2.2.2.2.2.2.2.2.2.2.2.2.2.2.2.2.2.2.2.2.2.2.2.2.2.2.1
theorem MDL.r29 {K₁ N₁ : MK} {R₁ : MR} {m₁ : Nat} (h₁ : MDL K₁ N₁ R₁ m₁) : R₁ m₁ 29 = some (m₁ + 14) := h₁.2.2.2.2.2.2.2.2.2.2.2.2.2.2.2.2.2.2.2.2.2.2.2.2.2.2.2.2.2.2.2.2.2.2.2.2.2.2.2.2.1
theorem MDL.k14 {K₁ N₁ : MK} {R₁ : MR} {m₁ : Nat} (h₁ : MDL K₁ N₁ R₁ m₁) : K₁ (m₁ + 14) = 14 := h₁.2.2.2.2.2.2.2.2.2.2.2.2.2.2.2.2.2.2.2.2.2.2.2.2.2.2.2.2.2.2.2.2.2.2.2.2.2.2.2.2.2.1
theorem MDL.n14 {K₁ N₁ : MK} {R₁ : MR} {m₁ : Nat} (h₁ : MDL K₁ N₁ R₁ m₁) : N₁ (m₁ + 14) = 9 := h₁.2.2.2.2.2.2.2.2.2.2.2.2.2.2.2.2.2.2.2.2.2.2.2.2.2.2.2.2.2.2.2.2.2.2.2.2.2.2.2.2.2.2.1
theorem MDL.r32 {K₁ N₁ : MK} {R₁ : MR} {m₁ : Nat} (h₁ : MDL K₁ N₁ R₁ m₁) : R₁ m₁ 32 = some (m₁ + 15) := h₁.2.2.2.2.2.2.2.2.2.2.2.2.2.2.2.2.2.2.2.2.2.2.2.2.2.2.2.2.2.2.2.2.2.2.2.2.2.2.2.2.2.2.2.1
theorem MDL.k15 {K₁ N₁ : MK} {R₁ : MR} {m₁ : Nat} (h₁ : MDL K₁ N₁ R₁ m₁) : K₁ (m₁ + 15) = 14 := h₁.2.2.2.2.2.2.2.2.2.2.2.2.2.2.2.2.2.2.2.2.2.2.2.2.2.2.2.2.2.2.2.2.2.2.2.2.2.2.2.2.2.2.2.2.1
theorem MDL.n15 {K₁ N₁ : MK} {R₁ : MR} {m₁ : Nat} (h₁ : MDL K₁ N₁ R₁ m₁) : N₁ (m₁ + 15) = 256 := h₁.2.2.2.2.2.2.2.2.2.2.2.2.2.2.2.2.2.2.2.2.2.2.2.2.2.2.2.2.2.2.2.2.2.2.2.2.2.2.2.2.2.2.2.2.2.1
theorem MDL.r33 {K₁ N₁ : MK} {R₁ : MR} {m₁ : Nat} (h₁ : MDL K₁ N₁ R₁ m₁) : R₁ m₁ 33 = some (m₁ + 16) := h₁.2.2.2.2.2.2.2.2.2.2.2.2.2.2.2.2.2.2.2.2.2.2.2.2.2.2.2.2.2.2.2.2.2.2.2.2.2.2.2.2.2.2.2.2.2.2.1
theorem MDL.k16 {K₁ N₁ : MK} {R₁ : MR} {m₁ : Nat} (h₁ : MDL K₁ N₁ R₁ m₁) : K₁ (m₁ + 16) = 14 := h₁.2.2.2.2.2.2.2.2.2.2.2.2.2.2.2.2.2.2.2.2.2.2.2.2.2.2.2.2.2.2.2.2.2.2.2.2.2.2.2.2.2.2.2.2.2.2.2.1
theorem MDL.n16 {K₁ N₁ : MK} {R₁ : MR} {m₁ : Nat} (h₁ : MDL K₁ N₁ R₁ m₁) : N₁ (m₁ + 16) = 24 := h₁.2.2.2.2.2.2.2.2.2.2.2.2.2.2.2.2.2.2.2.2.2.2.2.2.2.2.2.2.2.2.2.2.2.2.2.2.2.2.2.2.2.2.2.2.2.2.2.2.1
theorem MDL.r34 {K₁ N₁ : MK} {R₁ : MR} {m₁ : Nat} (h₁ : MDL K₁ N₁ R₁ m₁) : R₁ m₁ 34 = some (m₁ + 17) := h₁.2.2.2.2.2.2.2.2.2.2.2.2.2.2.2.2.2.2.2.2.2.2.2.2.2.2.2.2.2.2.2.2.2.2.2.2.2.2.2.2.2.2.2.2.2.2.2.2.2.1
theorem MDL.k17 {K₁ N₁ : MK} {R₁ : MR} {m₁ : Nat} (h₁ : MDL K₁ N₁ R₁ m₁) : K₁ (m₁ + 17) = 14 := h₁.2.2.2.2.2.2.2.2.2.2.2.2.2.2.2.2.2.2.2.2.2.2.2.2.2.2.2.2.2.2.2.2.2.2.2.2.2.2.2.2.2.2.2.2.2.2.2.2.2.2.1
theorem MDL.n17 {K₁ N₁ : MK} {R₁ : MR} {m₁ : Nat} (h₁ : MDL K₁ N₁ R₁ m₁) : N₁ (m₁ + 17) = 24 := h₁.2.2.2.2.2.2.2.2.2.2.2.2.2.2.2.2.2.2.2.2.2.2.2.2.2.2.2.2.2.2.2.2.2.2.2.2.2.2.2.2.2.2.2.2.2.2.2.2.2.2.2.1
theorem MDL.r38 {K₁ N₁ : MK} {R₁ : MR} {m₁ : Nat} (h₁ : MDL K₁ N₁ R₁ m₁) : R₁ m₁ 38 = some (m₁ + 18) := h₁.2.2.2.2.2.2.2.2.2.2.2.2.2.2.2.2.2.2.2.2.2.2.2.2.2.2.2.2.2.2.2.2.2.2.2.2.2.2.2.2.2.2.2.2.2.2.2.2.2.2.2.2.1
theorem MDL.k18 {K₁ N₁ : MK} {R₁ : MR} {m₁ : Nat} (h₁ : MDL K₁ N₁ R₁ m₁) : K₁ (m₁ + 18) = 14 := h₁.2.2.2.2.2.2.2.2.2.2.2.2.2.2.2.2.2.2.2.2.2.2.2.2.2.2.2.2.2.2.2.2.2.2.2.2.2.2.2.2.2.2.2.2.2.2.2.2.2.2.2.2.2.1
theorem MDL.n18 {K₁ N₁ : MK} {R₁ : MR} {m₁ : Nat} (h₁ : MDL K₁ N₁ R₁ m₁) : N₁ (m₁ + 18) = 30 := h₁.2.2.2.2.2.2.2.2.2.2.2.2.2.2.2.2.2.2.2.2.2.2.2.2.2.2.2.2.2.2.2.2.2.2.2.2.2.2.2.2.2.2.2.2.2.2.2.2.2.2.2.2.2.2.1
theorem MDL.r39 {K₁ N₁ : MK} {R₁ : MR} {m₁ : Nat} (h₁ : MDL K₁ N₁ R₁ m₁) : R₁ m₁ 39 = some (m₁ + 19) := h₁.2.2.2.2.2.2.2.2.2.2.2.2.2.2.2.2.2.2.2.2.2.2.2.2.2.2.2.2.2.2.2.2.2.2.2.2.2.2.2.2.2.2.2.2.2.2.2.2.2.2.2.2.2.2.2.1
theorem MDL.k19 {K₁ N₁ : MK} {R₁ : MR} {m₁ : Nat} (h₁ : MDL K₁ N₁ R₁ m₁) : K₁ (m₁ + 19) = 14 := h₁.2.2.2.2.2.2.2.2.2.2.2.2.2.2.2.2.2.2.2.2.2.2.2.2.2.2.2.2.2.2.2.2.2.2.2.2.2.2.2.2.2.2.2.2.2.2.2.2.2.2.2.2.2.2.2.2.1
theorem MDL.n19 {K₁ N₁ : MK} {R₁ : MR} {m₁ : Nat} (h₁ : MDL K₁ N₁ R₁ m₁) : N₁ (m₁ + 19) = 30 := h₁.2.2.2.2.2.2.2.2.2.2.2.2.2.2.2.2.2.2.2.2.2.2.2.2.2.2.2.2.2.2.2.2.2.2.2.2.2.2.2.2.2.2.2.2.2.2.2.2.2.2.2.2.2.2.2.2.2.1
theorem MDL.r40 {K₁ N₁ : MK} {R₁ : MR} {m₁ : Nat} (h₁ : MDL K₁ N₁ R₁ m₁) : R₁ m₁ 40 = some (m₁ + 20) := h₁.2.2.2.2.2.2.2.2.2.2.2.2.2.2.2.2.2.2.2.2.2.2.2.2.2.2.2.2.2.2.2.2.2.2.2.2.2.2.2.2.2.2.2.2.2.2.2.2.2.2.2.2.2.2.2.2.2.2.1
theorem MDL.k20 {K₁ N₁ : MK} {R₁ : MR} {m₁ : Nat} (h₁ : MDL K₁ N₁ R₁ m₁) : K₁ (m₁ + 20) = 14 := h₁.2.2.2.2.2.2.2.2.2.2.2.2.2.2.2.2.2.2.2.2.2.2.2.2.2.2.2.2.2.2.2.2.2.2.2.2.2.2.2.2.2.2.2.2.2.2.2.2.2.2.2.2.2.2.2.2.2.2.2.1
theorem MDL.n20 {K₁ N₁ : MK} {R₁ : MR} {m₁ : Nat} (h₁ : MDL K₁ N₁ R₁ m₁) : N₁ (m₁ + 20) = 30 := h₁.2.2.2.2.2.2.2.2.2.2.2.2.2.2.2.2.2.2.2.2.2.2.2.2.2.2.2.2.2.2.2.2.2.2.2.2.2.2.2.2.2.2.2.2.2.2.2.2.2.2.2.2.2.2.2.2.2.2.2.2.1
theorem MDL.r41 {K₁ N₁ : MK} {R₁ : MR} {m₁ : Nat} (h₁ : MDL K₁ N₁ R₁ m₁) : R₁ m₁ 41 = some (m₁ + 21) := h₁.2.2.2.2.2.2.2.2.2.2.2.2.2.2.2.2.2.2.2.2.2.2.2.2.2.2.2.2.2.2.2.2.2.2.2.2.2.2.2.2.2.2.2.2.2.2.2.2.2.2.2.2.2.2.2.2.2.2.2.2.2.1
theorem MDL.k21 {K₁ N₁ : MK} {R₁ : MR} {m₁ : Nat} (h₁ : MDL K₁ N₁ R₁ m₁) : K₁ (m₁ + 21) = 14 := h₁.2.2.2.2.2.2.2.2.2.2.2.2.2.2.2.2.2.2.2.2.2.2.2.2.2.2.2.2.2.2.2.2.2.2.2.2.2.2.2.2.2.2.2.2.2.2.2.2.2.2.2.2.2.2.2.2.2.2.2.2.2.2.1
theorem MDL.n21 {K₁ N₁ : MK} {R₁ : MR} {m₁ : Nat} (h₁ : MDL K₁ N₁ R₁ m₁) : N₁ (m₁ + 21) = 30 := h₁.2.2.2.2.2.2.2.2.2.2.2.2.2.2.2.2.2.2.2.2.2.2.2.2.2.2.2.2.2.2.2.2.2.2.2.2.2.2.2.2.2.2.2.2.2.2.2.2.2.2.2.2.2.2.2.2.2.2.2.2.2.2.2.1
theorem MDL.r46 {K₁ N₁ : MK} {R₁ : MR} {m₁ : Nat} (h₁ : MDL K₁ N₁ R₁ m₁) : R₁ m₁ 46 = some (m₁ + 22) := h₁.2.2.2.2.2.2.2.2.2.2.2.2.2.2.2.2.2.2.2.2.2.2.2.2.2.2.2.2.2.2.2.2.2.2.2.2.2.2.2.2.2.2.2.2.2.2.2.2.2.2.2.2.2.2.2.2.2.2.2.2.2.2.2.2.1
theorem MDL.k22 {K₁ N₁ : MK} {R₁ : MR} {m₁ : Nat} (h₁ : MDL K₁ N₁ R₁ m₁) : K₁ (m₁ + 22) = 14 := h₁.2.2.2.2.2.2.2.2.2.2.2.2.2.2.2.2.2.2.2.2.2.2.2.2.2.2.2.2.2.2.2.2.2.2.2.2.2.2.2.2.2.2.2.2.2.2.2.2.2.2.2.2.2.2.2.2.2.2.2.2.2.2.2.2.2.1
theorem MDL.n22 {K₁ N₁ : MK} {R₁ : MR} {m₁ : Nat} (h₁ : MDL K₁ N₁ R₁ m₁) : N₁ (m₁ + 22) = 48 := h₁.2.2.2.2.2.2.2.2.2.2.2.2.2.2.2.2.2.2.2.2.2.2.2.2.2.2.2.2.2.2.2.2.2.2.2.2.2.2.2.2.2.2.2.2.2.2.2.2.2.2.2.2.2.2.2.2.2.2.2.2.2.2.2.2.2.2.1
theorem MDL.r49 {K₁ N₁ : MK} {R₁ : MR} {m₁ : Nat} (h₁ : MDL K₁ N₁ R₁ m₁) : R₁ m₁ 49 = some (m₁ + 23) := h₁.2.2.2.2.2.2.2.2.2.2.2.2.2.2.2.2.2.2.2.2.2.2.2.2.2.2.2.2.2.2.2.2.2.2.2.2.2.2.2.2.2.2.2.2.2.2.2.2.2.2.2.2.2.2.2.2.2.2.2.2.2.2.2.2.2.2.2.1
theorem MDL.k23 {K₁ N₁ : MK} {R₁ : MR} {m₁ : Nat} (h₁ : MDL K₁ N₁ R₁ m₁) : K₁ (m₁ + 23) = 14 := h₁.2.2.2.2.2.2.2.2.2.2.2.2.2.2.2.2.2.2.2.2.2.2.2.2.2.2.2.2.2.2.2.2.2.2.2.2.2.2.2.2.2.2.2.2.2.2.2.2.2.2.2.2.2.2.2.2.2.2.2.2.2.2.2.2.2.2.2.2.1
theorem MDL.n23 {K₁ N₁ : MK} {R₁ : MR} {m₁ : Nat} (h₁ : MDL K₁ N₁ R₁ m₁) : N₁ (m₁ + 23) = 120 := h₁.2.2.2.2.2.2.2.2.2.2.2.2.2.2.2.2.2.2.2.2.2.2.2.2.2.2.2.2.2.2.2.2.2.2.2.2.2.2.2.2.2.2.2.2.2.2.2.2.2.2.2.2.2.2.2.2.2.2.2.2.2.2.2.2.2.2.2.2.2.1
theorem MDL.r50 {K₁ N₁ : MK} {R₁ : MR} {m₁ : Nat} (h₁ : MDL K₁ N₁ R₁ m₁) : R₁ m₁ 50 = some (m₁ + 24) := h₁.2.2.2.2.2.2.2.2.2.2.2.2.2.2.2.2.2.2.2.2.2.2.2.2.2.2.2.2.2.2.2.2.2.2.2.2.2.2.2.2.2.2.2.2.2.2.2.2.2.2.2.2.2.2.2.2.2.2.2.2.2.2.2.2.2.2.2.2.2.2.1
theorem MDL.k24 {K₁ N₁ : MK} {R₁ : MR} {m₁ : Nat} (h₁ : MDL K₁ N₁ R₁ m₁) : K₁ (m₁ + 24) = 14 := h₁.2.2.2.2.2.2.2.2.2.2.2.2.2.2.2.2.2.2.2.2.2.2.2.2.2.2.2.2.2.2.2.2.2.2.2.2.2.2.2.2.2.2.2.2.2.2.2.2.2.2.2.2.2.2.2.2.2.2.2.2.2.2.2.2.2.2.2.2.2.2.2.1
theorem MDL.n24 {K₁ N₁ : MK} {R₁ : MR} {m₁ : Nat} (h₁ : MDL K₁ N₁ R₁ m₁) : N₁ (m₁ + 24) = 4 := h₁.2.2.2.2.2.2.2.2.2.2.2.2.2.2.2.2.2.2.2.2.2.2.2.2.2.2.2.2.2.2.2.2.2.2.2.2.2.2.2.2.2.2.2.2.2.2.2.2.2.2.2.2.2.2.2.2.2.2.2.2.2.2.2.2.2.2.2.2.2.2.2.2.1
theorem MDL.r53 {K₁ N₁ : MK} {R₁ : MR} {m₁ : Nat} (h₁ : MDL K₁ N₁ R₁ m₁) : R₁ m₁ 53 = some (m₁ + 25) := h₁.2.2.2.2.2.2.2.2.2.2.2.2.2.2.2.2.2.2.2.2.2.2.2.2.2.2.2.2.2.2.2.2.2.2.2.2.2.2.2.2.2.2.2.2.2.2.2.2.2.2.2.2.2.2.2.2.2.2.2.2.2.2.2.2.2.2.2.2.2.2.2.2.2.1
theorem MDL.k25 {K₁ N₁ : MK} {R₁ : MR} {m₁ : Nat} (h₁ : MDL K₁ N₁ R₁ m₁) : K₁ (m₁ + 25) = 14 := h₁.2.2.2.2.2.2.2.2.2.2.2.2.2.2.2.2.2.2.2.2.2.2.2.2.2.2.2.2.2.2.2.2.2.2.2.2.2.2.2.2.2.2.2.2.2.2.2.2.2.2.2.2.2.2.2.2.2.2.2.2.2.2.2.2.2.2.2.2.2.2.2.2.2.2.1
theorem MDL.n25 {K₁ N₁ : MK} {R₁ : MR} {m₁ : Nat} (h₁ : MDL K₁ N₁ R₁ m₁) : N₁ (m₁ + 25) = 240 := h₁.2.2.2.2.2.2.2.2.2.2.2.2.2.2.2.2.2.2.2.2.2.2.2.2.2.2.2.2.2.2.2.2.2.2.2.2.2.2.2.2.2.2.2.2.2.2.2.2.2.2.2.2.2.2.2.2.2.2.2.2.2.2.2.2.2.2.2.2.2.2.2.2.2.2.2

def WFc (U₁ : Nat → Int32) : Prop := (U₁ 1 = nI (ix (U₁ 1)) ∧ ix (U₁ 1) ≤ 30) ∧ (U₁ 2 = nI (ix (U₁ 2)) ∧ ix (U₁ 2) ≤ 10) ∧ (U₁ 3 = nI (ix (U₁ 3)) ∧ ix (U₁ 3) ≤ 6) ∧ (U₁ 4 = nI (ix (U₁ 4)) ∧ ix (U₁ 4) ≤ 10) ∧ (U₁ 5 = nI (ix (U₁ 5)) ∧ ix (U₁ 5) ≤ 16) ∧ (U₁ 0 = nI (ix (U₁ 0)) ∧ 1 ≤ ix (U₁ 0) ∧ ix (U₁ 0) ≤ 256)
def isInB (a₁ lo₁ hi₁ : Int32) : Bool := !(decide (a₁ < lo₁)) && !(decide (hi₁ < a₁))
theorem isInB_iff {a₁ lo₁ hi₁ : Int32} : isInB a₁ lo₁ hi₁ = true ↔ lo₁ ≤ a₁ ∧ a₁ ≤ hi₁ := by
  simp [isInB, Int32.not_lt]
theorem isInB_f {a₁ lo₁ hi₁ : Int32} : isInB a₁ lo₁ hi₁ = false ↔ ¬ (lo₁ ≤ a₁ ∧ a₁ ≤ hi₁) := by
  rw [← isInB_iff]; simp
theorem r_isIn {K₁ N₁ : MK} {I₁ : MI} {L₁ : ML} {R₁ : MR} {a₁ lo₁ hi₁ : Int32} {Q₁ : Bool → Prop} (h₁ : Q₁ (isInB a₁ lo₁ hi₁)) : w_X12_isIn a₁ lo₁ hi₁ K₁ N₁ I₁ L₁ R₁ Q₁ := by
  refine ⟨fun e₁ => ?_, fun e₁ => ⟨fun e2₁ => ?_, fun e2₁ => ?_⟩⟩
  · rwa [show isInB a₁ lo₁ hi₁ = false by simp [isInB, e₁]] at h₁
  · rwa [show isInB a₁ lo₁ hi₁ = false by simp [isInB, e2₁]] at h₁
  · rwa [show isInB a₁ lo₁ hi₁ = true by simp [isInB, e₁, e2₁]] at h₁
def adr (U₁ : Nat → Int32) (a₁ : Int32) : Bool := isInB a₁ 0 (U₁ 0 - 1)
def rowB (U₁ : Nat → Int32) (a₁ : Int32) : Nat → Int32
  | 0 => -1
  | k₁ + 1 => if U₁ (6 + k₁) ≤ a₁ then nI k₁ else rowB U₁ a₁ k₁
def rowOf (U₁ : Nat → Int32) (a₁ : Int32) : Int32 := rowB U₁ a₁ (ix (U₁ 1))
def lineOf (U₁ : Nat → Int32) (a₁ : Int32) : Int32 := if rowOf U₁ a₁ = -1 then -1 else U₁ (36 + ix (rowOf U₁ a₁))
theorem rowB_or (U₁ : Nat → Int32) (a₁ : Int32) (k₁ : Nat) : rowB U₁ a₁ k₁ = -1 ∨ ∃ j₁, j₁ < k₁ ∧ rowB U₁ a₁ k₁ = nI j₁ := by
  induction k₁ with
  | zero => exact Or.inl rfl
  | succ k₁ ih₁ =>
    rw [rowB]
    split
    · exact Or.inr ⟨k₁, by omega, rfl⟩
    · rcases ih₁ with h₁ | ⟨j₁, h1₁, h2₁⟩
      · exact Or.inl h₁
      · exact Or.inr ⟨j₁, by omega, h2₁⟩
section RF₁
variable {K₁ N₁ : MK} {I₁ : MI} {L₁ : ML} {R₁ : MR} {m₁ : Nat}
theorem r_isAddress {a₁ : Int32} {Q₁ : Bool → Prop} (hM₁ : MDL K₁ N₁ R₁ m₁) (h₁ : Q₁ (adr (I₁ (m₁ + 2)) a₁)) : w_X12_isAddress m₁ a₁ K₁ N₁ I₁ L₁ R₁ Q₁ := by
  delta w_X12_isAddress
  simp (disch := omega) only [hM₁.k, hM₁.r14, hM₁.k2, hM₁.n2, true_and, and_true, Option.some.injEq, exists_eq_left', exists_eq_left, Nat.reduceLT, Nat.not_lt_zero, Nat.zero_le, Nat.reduceLeDiff, Nat.reduceEqDiff, Nat.reduceAdd, Nat.reduceMul, vp_nI, vp_o, ix_nI, ix_o, addN, addNo, addoN, mulN, mulNo, muloN, nlt0, m1_ne, m1_ne', ltN, leN, eqN, ltNo, leNo, eqNo, oltN, oleN, oeqN, not_false_eq_true, not_true_eq_false, false_implies, true_implies, true_and, and_true, forall_const, implies_true]
  exact r_isIn h₁
theorem r_rowOf {a₁ : Int32} {Q₁ : Int32 → Prop} (hM₁ : MDL K₁ N₁ R₁ m₁) (hU₁ : WFc (I₁ (m₁ + 2))) (h₁ : Q₁ (rowOf (I₁ (m₁ + 2)) a₁)) : w_X12_rowOf m₁ a₁ K₁ N₁ I₁ L₁ R₁ Q₁ := by
  delta w_X12_rowOf
  obtain ⟨⟨u1₁, u1b₁⟩, -⟩ := hU₁
  simp (disch := omega) only [hM₁.k, hM₁.r14, hM₁.k2, hM₁.n2, true_and, and_true, Option.some.injEq, exists_eq_left', exists_eq_left, Nat.reduceLT, Nat.not_lt_zero, Nat.zero_le, Nat.reduceLeDiff, Nat.reduceEqDiff, Nat.reduceAdd, Nat.reduceMul, vp_nI, vp_o, ix_nI, ix_o, addN, addNo, addoN, mulN, mulNo, muloN, nlt0, m1_ne, m1_ne', ltN, leN, eqN, ltNo, leNo, eqNo, oltN, oleN, oeqN, not_false_eq_true, not_true_eq_false, false_implies, true_implies, true_and, and_true, forall_const, implies_true]
  intro v₁ ev₁
  refine ⟨fun n₁ x0₁ x1₁ x2₁ => x0₁ = m₁ ∧ x1₁ = a₁ ∧ n₁ ≤ 30 ∧ rowB (I₁ (m₁ + 2)) a₁ n₁ = rowOf (I₁ (m₁ + 2)) a₁ ∧ (n₁ = 0 → x2₁ = -1) ∧ (∀ j₁, n₁ = j₁ + 1 → x2₁ = nI j₁), ⟨ix (I₁ (m₁ + 2) 1), rfl, rfl, u1b₁, rfl, fun e₁ => ?_, fun j₁ e₁ => ?_⟩, ?_⟩
  · rw [ev₁, u1₁, e₁]; rfl
  · rw [ev₁, u1₁, e₁]; exact nI_pred j₁
  · rintro n₁ x0₁ x1₁ x2₁ ⟨rfl, rfl, hk₁, hb₁, h0₁, hj₁⟩
    cases n₁ with
    | zero =>
      have e₁ := h0₁ rfl
      subst e₁
      refine ⟨fun _ => by rw [show (-1 : Int32) = rowOf (I₁ (x0₁ + 2)) x1₁ from hb₁]; exact h₁, fun e₁ => absurd (by decide) e₁⟩
    | succ k₁ =>
      have e₁ := hj₁ k₁ rfl
      subst e₁
      simp (disch := omega) only [hM₁.k, hM₁.r14, hM₁.k2, hM₁.n2, true_and, and_true, Option.some.injEq, exists_eq_left', exists_eq_left, Nat.reduceLT, Nat.not_lt_zero, Nat.zero_le, Nat.reduceLeDiff, Nat.reduceEqDiff, Nat.reduceAdd, Nat.reduceMul, vp_nI, vp_o, ix_nI, ix_o, addN, addNo, addoN, mulN, mulNo, muloN, nlt0, m1_ne, m1_ne', ltN, leN, eqN, ltNo, leNo, eqNo, oltN, oleN, oeqN, not_false_eq_true, not_true_eq_false, false_implies, true_implies, true_and, and_true, forall_const, implies_true]
      refine ⟨by omega, fun e₁ => ?_, fun e₁ v₁ ev₁ => ⟨k₁, by omega, by omega, ?_, fun z₁ => ?_, fun j₁ z₁ => ?_⟩⟩
      · rw [rowB, if_pos e₁] at hb₁; rw [hb₁]; exact h₁
      · rw [rowB, if_neg e₁] at hb₁; exact hb₁
      · rw [ev₁, z₁]; decide
      · rw [ev₁, z₁]; exact pk_m1 j₁
theorem r_lineOf {a₁ : Int32} {Q₁ : Int32 → Prop} (hM₁ : MDL K₁ N₁ R₁ m₁) (hU₁ : WFc (I₁ (m₁ + 2))) (h₁ : Q₁ (lineOf (I₁ (m₁ + 2)) a₁)) : w_X12_lineOf m₁ a₁ K₁ N₁ I₁ L₁ R₁ Q₁ := by
  delta w_X12_lineOf
  simp (disch := omega) only [hM₁.k, hM₁.r14, hM₁.k2, hM₁.n2, true_and, and_true, Option.some.injEq, exists_eq_left', exists_eq_left, Nat.reduceLT, Nat.not_lt_zero, Nat.zero_le, Nat.reduceLeDiff, Nat.reduceEqDiff, Nat.reduceAdd, Nat.reduceMul, vp_nI, vp_o, ix_nI, ix_o, addN, addNo, addoN, mulN, mulNo, muloN, nlt0, m1_ne, m1_ne', ltN, leN, eqN, ltNo, leNo, eqNo, oltN, oleN, oeqN, not_false_eq_true, not_true_eq_false, false_implies, true_implies, true_and, and_true, forall_const, implies_true]
  refine r_rowOf hM₁ hU₁ ⟨fun e₁ => ?_, fun e₁ => ?_⟩
  · refine r_rowOf hM₁ hU₁ ?_
    rw [lineOf, if_neg e₁] at h₁
    rcases rowB_or (I₁ (m₁ + 2)) a₁ (ix (I₁ (m₁ + 2) 1)) with e1₁ | ⟨j₁, hj₁, e1₁⟩
    · exact absurd e1₁ e₁
    · rw [show rowOf (I₁ (m₁ + 2)) a₁ = nI j₁ from e1₁] at h₁ ⊢
      have := hU₁.1.2
      rw [ix_nI (by omega)] at h₁
      simp (disch := omega) only [Nat.reduceLT, Nat.not_lt_zero, Nat.zero_le, Nat.reduceLeDiff, Nat.reduceEqDiff, Nat.reduceAdd, Nat.reduceMul, vp_nI, vp_o, ix_nI, ix_o, addN, addNo, addoN, mulN, mulNo, muloN, nlt0, m1_ne, m1_ne', ltN, leN, eqN, ltNo, leNo, eqNo, oltN, oleN, oeqN, not_false_eq_true, not_true_eq_false, false_implies, true_implies, true_and, and_true, forall_const, implies_true]
      exact ⟨by omega, h₁⟩
  · rw [lineOf, if_pos e₁] at h₁; exact h₁
def inN (k₁ : Int32) (n₁ : Nat) : Bool := decide (0 ≤ k₁) && decide (k₁ < nI n₁)
theorem inN_t {k₁ : Int32} {n₁ : Nat} (h₁ : inN k₁ n₁ = true) (hn₁ : n₁ < 2147483648) : ∃ j₁, j₁ < n₁ ∧ k₁ = nI j₁ := by
  simp only [inN, Bool.and_eq_true, decide_eq_true_eq] at h₁
  obtain ⟨j₁, hj₁, rfl⟩ := nI_of (Int32.not_lt.mpr h₁.1)
  rw [ltN hj₁ hn₁] at h₁
  exact ⟨j₁, h₁.2, rfl⟩
theorem inN_nI {k₁ n₁ : Nat} (hk₁ : k₁ < n₁) (hn₁ : n₁ < 2147483648) : inN (nI k₁) n₁ = true := by
  simp only [inN, Bool.and_eq_true, decide_eq_true_eq]
  exact ⟨le0n (by omega), (ltN (by omega) hn₁).mpr hk₁⟩
theorem isInB_pred {k₁ c₁ : Int32} {n₁ : Nat} (hc₁ : c₁ = nI n₁) (hn₁ : n₁ < 2147483648) : isInB k₁ 0 (c₁ - 1) = inN k₁ n₁ := by
  subst hc₁
  apply Bool.eq_iff_iff.mpr
  rw [isInB_iff]
  simp only [inN, Bool.and_eq_true, decide_eq_true_eq]
  constructor
  · rintro ⟨h1₁, h2₁⟩
    refine ⟨h1₁, ?_⟩
    obtain ⟨j₁, hj₁, rfl⟩ := nI_of (Int32.not_lt.mpr h1₁)
    cases n₁ with
    | zero => exact absurd h2₁ (by rw [sub0m1]; exact N_lem1 hj₁)
    | succ n₁ =>
      rw [nI_pred, leN hj₁ (by omega)] at h2₁
      rw [ltN hj₁ hn₁]; omega
  · rintro ⟨h1₁, h2₁⟩
    refine ⟨h1₁, ?_⟩
    obtain ⟨j₁, hj₁, rfl⟩ := nI_of (Int32.not_lt.mpr h1₁)
    rw [ltN hj₁ hn₁] at h2₁
    cases n₁ with
    | zero => omega
    | succ n₁ =>
      rw [nI_pred, leN hj₁ (by omega)]; omega
end RF₁
