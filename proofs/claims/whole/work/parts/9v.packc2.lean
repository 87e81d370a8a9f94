/-! ===== packed: the class's row, the class's call ===== -/
section PK₁
variable {K₁ N₁ : MK} {I₁ : MI} {L₁ : ML} {R₁ : MR} {x₁ : Nat}
/-- how many steps are left, the last apart -/
def stS₁ (u₁ : Nat) (d₁ : Int) : Nat := (if -4 ≤ d₁ ∧ d₁ ≤ 7 then 0 else 1) + (if u₁ ≤ (if 1 < d₁ ∧ d₁ ≤ 7 then 19 else 20) then 0 else 1)
theorem stS_e (u₁ : Nat) (d₁ : Int) : ∃ a₁ b₁, stS₁ u₁ d₁ = a₁ + b₁ ∧ ((-4 ≤ d₁ ∧ d₁ ≤ 7 ∧ a₁ = 0) ∨ ((d₁ < -4 ∨ 7 < d₁) ∧ a₁ = 1)) ∧ ((1 < d₁ ∧ d₁ ≤ 7 ∧ ((u₁ ≤ 19 ∧ b₁ = 0) ∨ (19 < u₁ ∧ b₁ = 1))) ∨ ((d₁ ≤ 1 ∨ 7 < d₁) ∧ ((u₁ ≤ 20 ∧ b₁ = 0) ∨ (20 < u₁ ∧ b₁ = 1)))) := by
  refine ⟨_, _, rfl, ?_, ?_⟩
  · split <;> omega
  · split <;> split at * <;> omega
theorem pkW_len (u₁ : Nat) (d₁ : Int) : 1 ≤ (pkW₁ u₁ d₁).length ∧ (pkW₁ u₁ d₁).length ≤ 6 := by
  rcases pkW_sh u₁ d₁ with ⟨e₁, h₁, _⟩ | ⟨e₁, h₁, _⟩ | ⟨c₁, e₁, h₁, _⟩ | ⟨w₁, e₁, h₁, _⟩ | ⟨w₁, e₁, h₁, _⟩ | ⟨h₁, _⟩ <;> rw [h₁] <;> simp only [List.length_cons, List.length_nil] <;> omega
theorem s_packRow {u₁ : Nat} {d₁ : Int} {bs₁ : List Nat} {Q₁ : MI → ML → Prop} (hX₁ : PDL K₁ N₁ R₁ x₁) (hS₁ : PST₁ I₁ x₁ bs₁) (hl₁ : bs₁.length ≤ 174) (hu₁ : u₁ ≤ 255) (hd₁ : -249 ≤ d₁ ∧ d₁ ≤ 249)
    (h₁ : ∀ J₁ M₁, PST₁ J₁ x₁ (bs₁ ++ pkW₁ u₁ d₁) → frPk x₁ J₁ I₁ M₁ L₁ → Q₁ J₁ M₁) : w_X4_packRow (x₁ + 63) (nI u₁) (zIn₁ d₁) K₁ N₁ I₁ L₁ R₁ Q₁ := by
  have tot₁ := pkW_len u₁ d₁
  delta w_X4_packRow w_X4_packRow_8
  refine ⟨fun n1₁ y0₁ y1₁ y2₁ y3₁ I1₁ L1₁ => y0₁ = x₁ + 63 ∧ ∃ (u1₁ : Nat) (d1₁ : Int) (i₁ : Nat) (b1₁ : List Nat), y1₁ = nI u1₁ ∧ y2₁ = zIn₁ d1₁ ∧ y3₁ = nI i₁ ∧ u1₁ ≤ 255 ∧ -249 ≤ d1₁ ∧ d1₁ ≤ 249 ∧ PST₁ I1₁ x₁ b1₁ ∧ b1₁ ++ pkW₁ u1₁ d1₁ = bs₁ ++ pkW₁ u₁ d₁ ∧ i₁ + stS₁ u1₁ d1₁ ≤ 2 ∧ n1₁ = 6 - i₁ ∧ frPk x₁ I1₁ I₁ L1₁ L₁, ⟨6, rfl, u₁, d₁, 0, bs₁, rfl, rfl, rfl, hu₁, hd₁.1, hd₁.2, hS₁, rfl, ?_, rfl, frPk_r⟩, ?_⟩
  · obtain ⟨a₁, b₁, e1₁, e2₁, e3₁⟩ := stS_e u₁ d₁
    omega
  rintro n1₁ y0₁ y1₁ y2₁ y3₁ I1₁ L1₁ ⟨rfl, u1₁, d1₁, i₁, b1₁, rfl, rfl, rfl, hu1₁, hd1₁, hd2₁, hS1₁, hb₁, hi₁, rfl, fr₁⟩
  have len1 : b1₁.length + (pkW₁ u1₁ d1₁).length ≤ 180 := by
    have := congrArg List.length hb₁
    rw [List.length_append, List.length_append] at this
    omega
  have bf₁ := bfS_lt u1₁ d1₁
  rw [show (6 : Int32) = nI 6 from rfl, leN (by omega) (by omega)]
  refine ⟨fun q₁ => by omega, fun q₁ => s_bytesFor (by omega) (by omega) ?_⟩
  rw [show (1 : Int32) = nI 1 from rfl, eqN (by omega) (by omega)]
  refine ⟨fun c1₁ => ?_, fun c1₁ => ?_⟩
  · -- the₁ rest's form
    have s87₁ : ∀ (r₁ s₁ : Int32), ((∃ k₁, r₁ = nI k₁ ∧ k₁ ≤ u1₁ ∧ k₁ ≤ 255 ∧ 2 + bfS₁ (u1₁ - k₁) d1₁ = bfS₁ u1₁ d1₁ ∧ ∀ i₁, i₁ < k₁ → 2 + bfS₁ (u1₁ - i₁) d1₁ ≠ bfS₁ u1₁ d1₁) ∨ (r₁ = -1 ∧ (∀ k₁, k₁ ≤ u1₁ → k₁ ≤ 255 → 2 + bfS₁ (u1₁ - k₁) d1₁ ≠ bfS₁ u1₁ d1₁) ∧ ((∃ c₁ : Int, s₁ = zIn₁ c₁ ∧ -4 ≤ c₁ ∧ c₁ ≤ 7 ∧ 3 + bfS₁ u1₁ c₁ = bfS₁ u1₁ d1₁ ∧ (∀ k₁ : Int, c₁ < k₁ → k₁ ≤ 7 → 3 + bfS₁ u1₁ k₁ ≠ bfS₁ u1₁ d1₁)) ∨ (s₁ = zIn₁ (-5) ∧ ∀ k₁ : Int, -4 ≤ k₁ → k₁ ≤ 7 → 3 + bfS₁ u1₁ k₁ ≠ bfS₁ u1₁ d1₁)))) →
        w_X4_packRow_87 (x₁ + 63) (nI u1₁) (zIn₁ d1₁) (nI i₁) r₁ s₁ K₁ N₁ I1₁ L1₁ R₁ (fun y0₁ y1₁ y2₁ y3₁ y4₁ y5₁ => ∃ n1₁, n1₁ < 6 - i₁ ∧ (fun n1₁ y0₁ y1₁ y2₁ y3₁ I1₁ L1₁ => y0₁ = x₁ + 63 ∧ ∃ (u1₁ : Nat) (d1₁ : Int) (i₁ : Nat) (b1₁ : List Nat), y1₁ = nI u1₁ ∧ y2₁ = zIn₁ d1₁ ∧ y3₁ = nI i₁ ∧ u1₁ ≤ 255 ∧ -249 ≤ d1₁ ∧ d1₁ ≤ 249 ∧ PST₁ I1₁ x₁ b1₁ ∧ b1₁ ++ pkW₁ u1₁ d1₁ = bs₁ ++ pkW₁ u₁ d₁ ∧ i₁ + stS₁ u1₁ d1₁ ≤ 2 ∧ n1₁ = 6 - i₁ ∧ frPk x₁ I1₁ I₁ L1₁ L₁ : Nat → Nat → Int32 → Int32 → Int32 → MI → ML → Prop) n1₁ y0₁ y1₁ y2₁ y3₁ y4₁ y5₁) Q₁ := fun r₁ s₁ hr₁ => by
      obtain ⟨sa₁, sb₁, se₁, se1₁, se2₁⟩ := stS_e u1₁ d1₁
      obtain ⟨fr1₁, fb₁, fe1₁, fe2₁⟩ := bfS_e u1₁ d1₁
      delta w_X4_packRow_87
      rcases hr₁ with ⟨k₁, rfl, k1₁, k2₁, k3₁, k4₁⟩ | ⟨rfl, k2₁, hr₁⟩
      · have p2₁ := pk_2 k1₁ k3₁ k4₁
        rw [p2₁] at hb₁ len1
        have pl₁ := (pkW_len (u1₁ - k₁) d1₁).1
        simp only [List.length_cons] at len1
        refine ⟨fun z₁ => absurd z₁ (m1_ne (by omega)), fun _ => ⟨hX₁.pak, s_putByte (b₁ := 2) hX₁ hS1₁ (by omega) rfl (fun J₁ M₁ s2₁ f2₁ => s_putByte (b₁ := k₁) hX₁ s2₁ (by rw [List.length_append, List.length_singleton]; omega) rfl (fun J'₁ M'₁ s3₁ f3₁ v21₁ g21₁ v22₁ g22₁ => ⟨6 - (i₁ + 1), by omega, rfl, u1₁ - k₁, d1₁, i₁ + 1, b1₁ ++ [2] ++ [k₁], by rw [g21₁, subN k1₁], rfl, by rw [g22₁, nI_1], by omega, hd1₁, hd2₁, s3₁, ?_, ?_, rfl, frPk_t f3₁ (frPk_t f2₁ fr₁)⟩))⟩⟩
        · rw [← hb₁, List.append_assoc, List.append_assoc]; rfl
        · obtain ⟨ta₁, tb₁, te₁, te1₁, te2₁⟩ := stS_e (u1₁ - k₁) d1₁
          obtain ⟨gr₁, gb₁, ge1₁, ge2₁⟩ := bfS_e (u1₁ - k₁) d1₁
          omega
      · refine ⟨fun _ => ?_, fun z₁ => absurd rfl z₁⟩
        rcases hr₁ with ⟨c₁, rfl, c4₁, c7₁, c3₁, cn₁⟩ | ⟨rfl, cn₁⟩
        · have p3₁ := (pk_3 hu1₁ k2₁ ⟨c4₁, c7₁⟩ c3₁ cn₁).1
          have pn₁ := (pk_3 hu1₁ k2₁ ⟨c4₁, c7₁⟩ c3₁ cn₁).2
          rw [p3₁] at hb₁ len1
          have pl₁ := (pkW_len u1₁ c₁).1
          simp only [List.length_cons] at len1
          have hz₁ := zI_h (d₁ := d1₁ - c₁) (by omega)
          rw [show (-4 : Int32) = zIn₁ (-4) from rfl, zI_lt (by omega) (by omega), zI_sub]
          refine ⟨fun z₁ => by omega, fun _ => ⟨hX₁.pak, s_putByte (b₁ := 3) hX₁ hS1₁ (by omega) rfl (fun J₁ M₁ s2₁ f2₁ => s_putByte (b₁ := hiB₁ (d1₁ - c₁)) hX₁ s2₁ (by rw [List.length_append, List.length_singleton]; omega) hz₁.2.2 (fun J'₁ M'₁ s3₁ f3₁ => s_putByte (b₁ := loB₁ (d1₁ - c₁)) hX₁ s3₁ (by rw [List.length_append, List.length_append, List.length_singleton, List.length_singleton]; omega) hz₁.2.1 (fun J2₁ M2₁ s4₁ f4₁ v15₁ g15₁ => ⟨6 - (i₁ + 1), by omega, rfl, u1₁, c₁, i₁ + 1, b1₁ ++ [3] ++ [hiB₁ (d1₁ - c₁)] ++ [loB₁ (d1₁ - c₁)], rfl, rfl, by rw [g15₁, nI_1], hu1₁, by omega, by omega, s4₁, ?_, ?_, rfl, frPk_t f4₁ (frPk_t f3₁ (frPk_t f2₁ fr₁))⟩)))⟩⟩
          · rw [← hb₁, List.append_assoc, List.append_assoc, List.append_assoc]; rfl
          · obtain ⟨ta₁, tb₁, te₁, te1₁, te2₁⟩ := stS_e u1₁ c₁
            obtain ⟨gr₁, gb₁, ge1₁, ge2₁⟩ := bfS_e u1₁ c₁
            omega
        · obtain ⟨p4₁, q17₁, qa₁, qb₁, q3₁, q4₁⟩ := pk_4 hu1₁ k2₁ c1₁ cn₁
          rw [p4₁] at hb₁ len1
          have pl₁ := (pkW_len (u1₁ - 17) d1₁).1
          simp only [List.length_cons] at len1
          rw [show (-4 : Int32) = zIn₁ (-4) from rfl, zI_lt (by omega) (by omega)]
          refine ⟨fun _ => ⟨hX₁.pak, s_putByte (b₁ := 4) hX₁ hS1₁ (by omega) rfl (fun J₁ M₁ s2₁ f2₁ v6₁ g6₁ v7₁ g7₁ => ⟨6 - (i₁ + 1), by omega, rfl, u1₁ - 17, d1₁, i₁ + 1, b1₁ ++ [4], ?_, rfl, by rw [g7₁, nI_1], by omega, hd1₁, hd2₁, s2₁, ?_, ?_, rfl, frPk_t f2₁ fr₁⟩)⟩, fun z₁ => by omega⟩
          · rw [g6₁, nIz₁, nIz₁, show (-17 : Int32) = zIn₁ (-17) from rfl, zI_add]
            exact congrArg zIn₁ (by omega)
          · rw [← hb₁, List.append_assoc]; rfl
          · obtain ⟨ta₁, tb₁, te₁, te1₁, te2₁⟩ := stS_e (u1₁ - 17) d1₁
            split at q3₁ <;> split at q4₁ <;> omega
    refine s_leastUp (by omega) (by omega) (by omega) (fun k₁ k1₁ k2₁ k3₁ k4₁ => ⟨fun _ => s87₁ _ _ (Or.inl ⟨k₁, rfl, k1₁, k2₁, k3₁, k4₁⟩), fun z₁ => absurd z₁ (m1_ne (by omega))⟩) (fun hno₁ => ⟨fun z₁ => absurd rfl z₁, fun _ => s_mostRest (by omega) (by omega) (fun c₁ c4₁ c7₁ c3₁ cn₁ => s87₁ _ _ (Or.inr ⟨rfl, hno₁, Or.inl ⟨c₁, rfl, c4₁, c7₁, c3₁, cn₁⟩⟩)) (fun cn₁ => s87₁ _ _ (Or.inr ⟨rfl, hno₁, Or.inr ⟨rfl, cn₁⟩⟩))⟩)
  · have p1₁ := pk_1 c1₁
    obtain ⟨fr1₁, fb₁, fe1₁, fe2₁⟩ := bfS_e u1₁ d1₁
    have hv₁ : (((10 : Int32) + (nI u1₁ * 12)) + zIn₁ d1₁) - (-4) = nI (pkO₁ u1₁ d1₁) := by
      rw [← pkO_z u1₁ d1₁ (by omega), nIz₁, show (12 : Int32) = zIn₁ 12 from rfl, show (10 : Int32) = zIn₁ 10 from rfl, show (-4 : Int32) = zIn₁ (-4) from rfl, zI_mul, zI_add, zI_add, zI_sub]
      exact congrArg zIn₁ (by omega)
    have one₁ : ∀ b₁, pkW₁ u1₁ d1₁ = [b₁] → ∀ v₁, v₁ = nI b₁ → w_X4_putByte (x₁ + 63) v₁ K₁ N₁ I1₁ L1₁ R₁ Q₁ := fun b₁ e₁ v₁ hv₁ => by
      rw [e₁] at hb₁ len1
      exact s_putByte hX₁ hS1₁ (by simp only [List.length_cons] at len1; omega) hv₁ (fun J₁ M₁ s2₁ f2₁ => h₁ J₁ M₁ (by rw [← hb₁]; exact s2₁) (frPk_t f2₁ fr₁))
    rw [show (0 : Int32) = nI 0 from rfl, eqN (by omega) (by omega), nIz₁ 0, zI_eq (by omega) (by omega)]
    refine ⟨fun z₁ => ⟨hX₁.pak, one₁ _ (by rw [p1₁, if_neg (by omega)]) _ hv₁⟩, fun z₁ => ⟨fun z2₁ => ⟨hX₁.pak, one₁ _ (by rw [p1₁, if_neg (by omega)]) _ hv₁⟩, fun z2₁ => ⟨hX₁.pak, one₁ 1 (by rw [p1₁, if_pos (by omega)]) _ rfl⟩⟩⟩
/-- where the row before stands -/
def pvA₁ (U₁ : Nat → Int32) : Nat → Nat
  | 0 => 0
  | i₁ + 1 => ix (U₁ (6 + i₁))
def pvL₁ (U₁ : Nat → Int32) : Nat → Nat
  | 0 => 1
  | i₁ + 1 => ix (U₁ (36 + i₁))
/-- the bytes of the first rows -/
def pkA₁ (U₁ : Nat → Int32) : Nat → List Nat
  | 0 => []
  | i₁ + 1 => pkA₁ U₁ i₁ ++ pkW₁ (ix (U₁ (6 + i₁)) - pvA₁ U₁ i₁) ((ix (U₁ (36 + i₁)) : Int) - (pvL₁ U₁ i₁ : Int))
def pkS₁ (U₁ : Nat → Int32) : List Nat := pkA₁ U₁ (ix (U₁ 1)) ++ [0]
theorem pkA_len (U₁ : Nat → Int32) : ∀ i₁, (pkA₁ U₁ i₁).length ≤ 6 * i₁
  | 0 => Nat.le_refl _
  | i₁ + 1 => by
    have h1₁ := pkA_len U₁ i₁
    have h2₁ := (pkW_len (ix (U₁ (6 + i₁)) - pvA₁ U₁ i₁) ((ix (U₁ (36 + i₁)) : Int) - (pvL₁ U₁ i₁ : Int))).2
    rw [pkA₁, List.length_append]
    omega
theorem pkA_f {U₁ : Nat → Int32} (hU₁ : WFc U₁) (hR₁ : WFr U₁) {k₁ : Nat} (hk₁ : k₁ < ix (U₁ 1)) : U₁ (6 + k₁) = nI (ix (U₁ (6 + k₁))) ∧ ix (U₁ (6 + k₁)) < 256 ∧ pvA₁ U₁ k₁ ≤ ix (U₁ (6 + k₁)) ∧ U₁ (36 + k₁) = nI (ix (U₁ (36 + k₁))) ∧ 1 ≤ ix (U₁ (36 + k₁)) ∧ ix (U₁ (36 + k₁)) ≤ 250 ∧ 1 ≤ pvL₁ U₁ k₁ ∧ pvL₁ U₁ k₁ ≤ 250 := by
  have h0₁ := hU₁.2.2.2.2.2.2.2
  obtain ⟨⟨a₁, ea₁, ha₁⟩, l₁, el₁, l1₁, l2₁⟩ := hR₁.2 k₁ hk₁
  have ea'₁ : ix (U₁ (6 + k₁)) = a₁ := by rw [ea₁, ix_nI (by omega)]
  have el'₁ : ix (U₁ (36 + k₁)) = l₁ := by rw [el₁, ix_nI (by omega)]
  rw [ea'₁, el'₁]
  refine ⟨ea₁, by omega, ?_, el₁, l1₁, l2₁, ?_⟩
  · cases k₁ with
    | zero => exact Nat.zero_le _
    | succ k₁ =>
      have s₁ := hR₁.1 k₁ (k₁ + 1) (Nat.lt_succ_self k₁) hk₁
      obtain ⟨⟨b₁, eb₁, hb₁⟩, _⟩ := hR₁.2 k₁ (by omega)
      rw [ea₁, eb₁, ltN (by omega) (by omega)] at s₁
      rw [pvA₁, eb₁, ix_nI (by omega)]
      omega
  · cases k₁ with
    | zero => exact ⟨Nat.le_refl _, by rw [pvL₁]; decide⟩
    | succ k₁ =>
      obtain ⟨_, l'₁, el2₁, l3₁, l4₁⟩ := hR₁.2 k₁ (by omega)
      rw [pvL₁, el2₁, ix_nI (by omega)]
      exact ⟨l3₁, l4₁⟩
theorem pvA_lt {U₁ : Nat → Int32} (hU₁ : WFc U₁) (hR₁ : WFr U₁) {k₁ : Nat} (hk₁ : k₁ ≤ ix (U₁ 1)) : pvA₁ U₁ k₁ < 256 := by
  cases k₁ with
  | zero => rw [pvA₁]; decide
  | succ k₁ => rw [pvA₁]; exact (pkA_f hU₁ hR₁ (by omega)).2.1
/-- what packed leaves as it was -/
def frPq (x₁ : Nat) (J₁ I₁ : MI) (M₁ L₁ : ML) : Prop := (∀ b₁, b₁ ≠ x₁ + 63 → b₁ ≠ x₁ + 64 → b₁ ≠ x₁ + 66 → J₁ b₁ = I₁ b₁) ∧ ∀ b₁, b₁ ≠ x₁ + 65 → M₁ b₁ = L₁ b₁
theorem s_packed {U₁ : Nat → Int32} {Q₁ : Int32 → MI → ML → Prop} (hX₁ : PDL K₁ N₁ R₁ x₁) (hD₁ : UD1₁ I₁ (x₁ + 3) U₁) (hU₁ : WFc U₁) (hR₁ : WFr U₁) (hw₁ : I₁ (x₁ + 64) 0 = nI 1)
    (h₁ : ∀ J₁ M₁, PST₁ J₁ x₁ (pkS₁ U₁) → frPq x₁ J₁ I₁ M₁ L₁ → Q₁ (nI (pkS₁ U₁).length) J₁ M₁) : w_X11_packed x₁ K₁ N₁ I₁ L₁ R₁ Q₁ := by
  have hc₁ := hU₁.1.2
  delta w_X11_packed w_X4_pack
  refine ⟨hX₁.k, _, hX₁.r_packer, _, hX₁.r_unit, hX₁.un.1, _, hX₁.un.2.1, hX₁.pak, hX₁.pak, _, hX₁.pak_r0, hX₁.pak_t0.1, s_forget hX₁.pak_t0 (fun I5₁ g5₁ I6₁ g6₁ => ?_)⟩
  have f6₁ : ∀ b₁, b₁ ≠ x₁ + 63 → b₁ ≠ x₁ + 64 → I6₁ b₁ = I₁ b₁ := fun b₁ q1₁ q2₁ => by rw [g6₁, mup_ne q1₁, g5₁, mup_ne q1₁, mup_ne q2₁]
  delta w_X4_pack_19
  refine ⟨fun n1₁ y0₁ y1₁ y2₁ I1₁ L1₁ => y0₁ = x₁ + 63 ∧ y1₁ = x₁ + 3 + 1 ∧ ∃ i₁, y2₁ = nI i₁ ∧ i₁ ≤ ix (U₁ 1) ∧ n1₁ = ix (U₁ 1) - i₁ ∧ PST₁ I1₁ x₁ (pkA₁ U₁ i₁) ∧ I1₁ (x₁ + 63) 3 = nI (pvA₁ U₁ i₁) ∧ I1₁ (x₁ + 63) 4 = nI (pvL₁ U₁ i₁) ∧ frPq x₁ I1₁ I₁ L1₁ L₁, ⟨ix (U₁ 1), rfl, rfl, 0, rfl, Nat.zero_le _, rfl, ⟨⟨?_, ?_, Nat.zero_le _⟩, fun i₁ hi₁ => absurd hi₁ (Nat.not_lt_zero i₁)⟩, ?_, ?_, ⟨fun b₁ q1₁ q2₁ _ => f6₁ b₁ q1₁ q2₁, fun _ _ => rfl⟩⟩, ?_⟩
  · rw [g6₁, mup_ne (by omega), g5₁, mup_ne (by omega), mup_k (by decide)]; exact hw₁
  · rw [g6₁, mup_ne (by omega), g5₁, mup_ne (by omega), mup_at]; rfl
  · rw [g6₁, mup_k (by decide), g5₁, mup_at]; rfl
  · rw [g6₁, mup_at]; rfl
  rintro n1₁ y0₁ y1₁ y2₁ I1₁ L1₁ ⟨rfl, rfl, i₁, rfl, hi₁, rfl, hS₁, e3₁, e4₁, fr₁⟩
  have hD1₁ : UD1₁ I1₁ (x₁ + 3) U₁ := hD₁.fr (fr₁.1 _ (by omega) (by omega) (by omega)) (fr₁.1 _ (by omega) (by omega) (by omega))
  have al₁ := pkA_len U₁ i₁
  rw [hD1₁.1.2.1, leN (by omega) (by omega)]
  refine ⟨hX₁.un.2.2.2.2.2.2.1.1, fun q₁ => ⟨hX₁.pak, ?_⟩, fun q₁ => ?_⟩
  · have e₁ : i₁ = ix (U₁ 1) := by omega
    subst e₁
    refine s_putByte (b₁ := 0) hX₁ hS₁ (by omega) rfl (fun J₁ M₁ s2₁ f2₁ => ⟨_, hX₁.pak_r0, hX₁.pak_t0.1, ?_⟩)
    rw [s2₁.1.2.1]
    exact h₁ J₁ M₁ s2₁ ⟨fun b₁ q1₁ q2₁ q3₁ => by rw [f2₁.1 b₁ q2₁ q3₁, fr₁.1 b₁ q1₁ q2₁ q3₁], fun b₁ q1₁ => by rw [f2₁.2 b₁ q1₁, fr₁.2 b₁ q1₁]⟩
  · obtain ⟨ea₁, a1₁, a2₁, el₁, l1₁, l2₁, l3₁, l4₁⟩ := pkA_f hU₁ hR₁ (k₁ := i₁) (by omega)
    have rw2₁ := hD1₁.2 i₁ (by omega)
    refine s_at hX₁.un.2.2.2.2.2.2.1 hD1₁.1 (s_at hX₁.un.2.2.2.2.2.2.1 hD1₁.1 ⟨hX₁.pak, ?_⟩)
    rw [show (0 : Int32) = nI 0 from rfl, show (1 : Int32) = nI 1 from rfl, tat_in (by omega) (by decide) (by omega) (by decide), tat_in (by omega) (by decide) (by omega) (by decide), rw2₁.1, rw2₁.2, e3₁, e4₁]
    generalize hga₁ : ix (U₁ (6 + i₁)) = a₁ at *
    generalize hgl₁ : ix (U₁ (36 + i₁)) = l₁ at *
    rw [ea₁, el₁, subN a2₁, nIz₁ l₁, nIz₁ (pvL₁ U₁ i₁), zI_sub]
    refine s_packRow hX₁ hS₁ (by omega) (by omega) (by omega) (fun J₁ M₁ s2₁ f2₁ I16₁ g16₁ I17₁ g17₁ v18₁ g18₁ => ⟨ix (U₁ 1) - (i₁ + 1), by omega, rfl, rfl, i₁ + 1, by rw [g18₁]; exact addN i₁ 1, by omega, rfl, ⟨?_, ?_⟩, ?_, ?_, ⟨fun b₁ q1₁ q2₁ q3₁ => ?_, fun b₁ q1₁ => ?_⟩⟩)
    · rw [pkA₁, hga₁, hgl₁]
      have d₁ := s2₁.1
      exact ⟨by rw [g17₁, mup_ne (by omega), g16₁, mup_ne (by omega)]; exact d₁.1, by rw [g17₁, mup_ne (by omega), g16₁, mup_ne (by omega)]; exact d₁.2.1, d₁.2.2⟩
    · rw [pkA₁, hga₁, hgl₁, g17₁, mup_ne (by omega), g16₁, mup_ne (by omega)]; exact s2₁.2
    · rw [g17₁, mup_k (by decide), g16₁, mup_at, pvA₁, hga₁]
    · rw [g17₁, mup_at, pvL₁, hgl₁, nIz₁]
    · rw [g17₁, mup_ne q1₁, g16₁, mup_ne q1₁, f2₁.1 b₁ q2₁ q3₁, fr₁.1 b₁ q1₁ q2₁ q3₁]
    · rw [f2₁.2 b₁ q1₁, fr₁.2 b₁ q1₁]
end PK₁
