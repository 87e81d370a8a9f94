/-! ===== the class's wordOf ===== -/
theorem encN_inj {b₁ : Nat} (hb₁ : 27 ≤ b₁) : ∀ (k₁ : Nat) (l₁ r₁ : List Nat), l₁.length = k₁ → (∀ x₁ ∈ l₁, 1 ≤ x₁ ∧ x₁ ≤ 26) → (∀ x₁ ∈ r₁, 1 ≤ x₁ ∧ x₁ ≤ 26) → encN b₁ l₁ = encN b₁ r₁ → l₁ = r₁ := by
  have pos₁ : ∀ r₁ : List Nat, r₁ ≠ [] → (∀ x₁ ∈ r₁, 1 ≤ x₁ ∧ x₁ ≤ 26) → 1 ≤ encN b₁ r₁ := fun r₁ h0₁ hr₁ => by
    have e₁ : r₁ = r₁.dropLast ++ [r₁.getLast h0₁] := (List.dropLast_concat_getLast h0₁).symm
    have h1₁ := hr₁ _ (List.getLast_mem h0₁)
    rw [e₁, encN_snoc]; omega
  intro k₁
  induction k₁ with
  | zero =>
    intro l₁ r₁ hl₁ h1₁ h2₁ e₁
    have hl₁ := List.eq_nil_of_length_eq_zero hl₁
    subst hl₁
    by_cases h0₁ : r₁ = []
    · exact h0₁.symm
    · have := pos₁ r₁ h0₁ h2₁
      rw [← e₁] at this
      exact absurd (show 1 ≤ 0 from this) (by decide)
  | succ k₁ ih₁ =>
    intro l₁ r₁ hl₁ h1₁ h2₁ e₁
    have hl0₁ : l₁ ≠ [] := fun z₁ => by rw [z₁] at hl₁; cases hl₁
    have hr0₁ : r₁ ≠ [] := fun z₁ => by
      have := pos₁ l₁ hl0₁ h1₁
      rw [e₁, z₁] at this
      exact absurd (show 1 ≤ 0 from this) (by decide)
    have el₁ : l₁ = l₁.dropLast ++ [l₁.getLast hl0₁] := (List.dropLast_concat_getLast hl0₁).symm
    have er₁ : r₁ = r₁.dropLast ++ [r₁.getLast hr0₁] := (List.dropLast_concat_getLast hr0₁).symm
    have x1₁ := h1₁ _ (List.getLast_mem hl0₁)
    have x2₁ := h2₁ _ (List.getLast_mem hr0₁)
    rw [el₁, er₁, encN_snoc, encN_snoc] at e₁
    have m1₁ := congrArg (fun z₁ => z₁ % b₁) e₁
    have m1₁ : (encN b₁ l₁.dropLast * b₁ + l₁.getLast hl0₁) % b₁ = (encN b₁ r₁.dropLast * b₁ + r₁.getLast hr0₁) % b₁ := m1₁
    rw [Nat.mul_add_mod_self_right, Nat.mul_add_mod_self_right, Nat.mod_eq_of_lt (by omega), Nat.mod_eq_of_lt (by omega)] at m1₁
    have m2₁ : encN b₁ l₁.dropLast * b₁ = encN b₁ r₁.dropLast * b₁ := by omega
    have m3₁ := Nat.eq_of_mul_eq_mul_right (by omega) m2₁
    have := ih₁ l₁.dropLast r₁.dropLast (by rw [List.length_dropLast]; omega) (fun x₁ hx₁ => h1₁ x₁ (List.dropLast_subset l₁ hx₁)) (fun x₁ hx₁ => h2₁ x₁ (List.dropLast_subset r₁ hx₁)) m3₁
    rw [el₁, er₁, this, m1₁]
theorem enc_eq {b₁ : Nat} {l₁ r₁ : List Nat} (hb₁ : 27 ≤ b₁) (hb2₁ : b₁ ≤ 32) (hl₁ : wdOK l₁) (hr₁ : wdOK r₁) : lN (encN b₁ l₁) = lN (encN b₁ r₁) ↔ l₁ = r₁ := by
  have h7₁ : b₁ ^ 7 ≤ 32 ^ 7 := Nat.pow_le_pow_left hb2₁ 7
  have h1₁ := encN_lt7 hb₁ hl₁
  have h2₁ := encN_lt7 hb₁ hr₁
  rw [show (32 : Nat) ^ 7 = 34359738368 from rfl] at h7₁
  rw [pk_lEQ (by omega) (by omega)]
  exact ⟨fun e₁ => encN_inj hb₁ _ l₁ r₁ rfl hl₁.2.2 hr₁.2.2 e₁, fun e₁ => by rw [e₁]⟩
def wfB₁ (name : Int64) : List Int32 → Int64 → Int32 → Int32
  | [], _, _ => -1
  | c₁ :: cs₁, code, w₁ => if c₁ = 32 then (if code = name then w₁ else wfB₁ name cs₁ 0 (w₁ + 1)) else wfB₁ name cs₁ (code * 32 + Int32.toInt64 (c₁ - 96)) w₁
def byW₁ (l₁ : List Nat) : List Int32 := l₁.map (fun y₁ => nI (96 + y₁)) ++ [32]
theorem wfB_w {name : Int64} {rest : List Int32} {i₁ : Int32} : ∀ (l₁ : List Nat) (v₁ : Nat), (∀ x₁ ∈ l₁, 1 ≤ x₁ ∧ x₁ ≤ 26) → wfB₁ name (byW₁ l₁ ++ rest) (lN v₁) i₁ = if lN (l₁.foldl (fun v₁ x₁ => v₁ * 32 + x₁) v₁) = name then i₁ else wfB₁ name rest 0 (i₁ + 1)
  | [], v₁, _ => by rw [byW₁]; show wfB₁ name (32 :: rest) (lN v₁) i₁ = _; rw [wfB₁, if_pos rfl]; rfl
  | x₁ :: l₁, v₁, h₁ => by
    have hx₁ := h₁ x₁ (List.mem_cons_self)
    have ih₁ := wfB_w (name := name) (rest := rest) (i₁ := i₁) l₁ (v₁ * 32 + x₁) (fun y₁ hy₁ => h₁ y₁ (List.mem_cons_of_mem _ hy₁))
    rw [show byW₁ (x₁ :: l₁) ++ rest = nI (96 + x₁) :: (byW₁ l₁ ++ rest) from rfl, wfB₁, if_neg (show ¬ nI (96 + x₁) = 32 from fun z₁ => by rw [show (32 : Int32) = nI 32 from rfl, eqN (by omega) (by omega)] at z₁; omega), show (96 : Int32) = nI 96 from rfl, subN (by omega), show 96 + x₁ - 96 = x₁ by omega, nI_l (by omega), show (32 : Int64) = lN 32 from rfl, lN_mul, lN_add, ih₁]
    rfl
theorem wfB_all {l₁ : List Nat} (hl₁ : wdOK l₁) : ∀ (ws₁ : List (List Nat)) (i₁ : Nat), (∀ w₁ ∈ ws₁, wdOK w₁) → wfB₁ (lN (encN 32 l₁)) (ws₁.map byW₁).flatten 0 (nI i₁) = cwI₁ l₁ ws₁ i₁
  | [], i₁, _ => rfl
  | w₁ :: ws₁, i₁, h₁ => by
    have hw₁ := h₁ w₁ (List.mem_cons_self)
    have ih₁ := wfB_all hl₁ ws₁ (i₁ + 1) (fun y₁ hy₁ => h₁ y₁ (List.mem_cons_of_mem _ hy₁))
    rw [List.map_cons, List.flatten_cons]
    have e₁ := wfB_w (name := lN (encN 32 l₁)) (rest := (ws₁.map byW₁).flatten) (i₁ := nI i₁) w₁ 0 hw₁.2.2
    rw [show (0 : Int64) = lN 0 from rfl, e₁, cwI₁]
    show (if lN (encN 32 w₁) = lN (encN 32 l₁) then _ else _) = _
    by_cases z₁ : w₁ = l₁
    · rw [if_pos z₁, if_pos (by rw [z₁])]
    · rw [if_neg z₁, if_neg (fun y₁ => z₁ ((enc_eq (by decide) (by decide) hw₁ hl₁).mp y₁)), nI_1]; exact ih₁
theorem cwL_by : z_by.getD 0 [] = (cwL₁.map byW₁).flatten := by decide +kernel
theorem cwL_ok : ∀ w₁ ∈ cwL₁, wdOK w₁ := by
  intro w₁ hw₁
  rw [cwL₁, List.mem_map] at hw₁
  obtain ⟨k₁, hk₁, rfl⟩ := hw₁
  refine wdK_ok k₁ ?_
  have : ∀ k₁ ∈ ([0, 1, 2, 3, 5, 6, 4, 28, 7, 32, 8, 9, 10, 11, 12, 13, 14, 15, 16, 17, 18, 19, 20, 21, 22, 23, 24, 25, 26, 27, 29, 30, 31, 33] : List Nat), k₁ < 34 := by decide
  exact this k₁ hk₁
section UN₁
variable {K₁ N₁ : MK} {I₁ : MI} {L₁ : ML} {R₁ : MR}
theorem s_wordOf {l₁ : List Nat} {Q₁ : Int32 → Prop} (hl₁ : wdOK l₁) (h₁ : Q₁ (wixS l₁)) : w_X8_wordOf (encB 32 l₁) K₁ N₁ I₁ L₁ R₁ Q₁ := by
  delta w_X8_wordOf w_X8_wordOf_8
  have hlen : (z_by.getD 0 []).length = 174 := by decide +kernel
  have h0₁ : wfB₁ (encB 32 l₁) (z_by.getD 0 []) 0 0 = wixS l₁ := by rw [encB_32, cwL_by]; exact wfB_all hl₁ cwL₁ 0 cwL_ok
  have hch₁ : ∀ i₁, z_ch 0 i₁ = (z_by.getD 0 []).getD i₁ 0 := fun i₁ => rfl
  generalize z_by.getD 0 [] = bs₁ at hlen h0₁ hch₁
  refine ⟨fun n1₁ y0₁ y2₁ y4₁ y5₁ => y0₁ = encB 32 l₁ ∧ ∃ i₁, i₁ ≤ 174 ∧ n1₁ = 174 - i₁ ∧ y5₁ = nI i₁ ∧ wfB₁ (encB 32 l₁) (bs₁.drop i₁) y2₁ y4₁ = wixS l₁, ⟨174, rfl, 0, by omega, rfl, rfl, h0₁⟩, ?_⟩
  rintro n1₁ y0₁ y2₁ y4₁ y5₁ ⟨rfl, i₁, hi₁, rfl, rfl, hB₁⟩
  rw [show z_ln.getD 0 0 = 174 from rfl, leN (by omega) (by omega)]
  refine ⟨fun e₁ => ?_, fun e₁ => ⟨(vp_nI (by omega)).mpr (by omega), fun v2₁ g2₁ => ?_⟩⟩
  · rw [show i₁ = 174 by omega, ← hlen, List.drop_length, wfB₁] at hB₁
    rw [hB₁]; exact h₁
  · rw [ix_nI (by omega), hch₁, List.getD_eq_getElem?_getD, List.getElem?_eq_getElem (by omega)] at g2₁
    have g2₁ : v2₁ = bs₁[i₁] := g2₁
    rw [List.drop_eq_getElem_cons (by omega), ← g2₁, wfB₁] at hB₁
    refine ⟨fun z₁ => ⟨fun z2₁ v3₁ g3₁ v4₁ g4₁ => ⟨174 - (i₁ + 1), by omega, rfl, i₁ + 1, by omega, rfl, by rw [g4₁, nI_1], ?_⟩, fun z2₁ => ?_⟩, fun z₁ v5₁ g5₁ v6₁ g6₁ => ⟨174 - (i₁ + 1), by omega, rfl, i₁ + 1, by omega, rfl, by rw [g6₁, nI_1], ?_⟩⟩
    · rw [if_pos z₁, if_neg (fun y₁ => z2₁ ((lg_cmp_eq _ _).mpr y₁))] at hB₁
      rw [g3₁]; exact hB₁
    · rw [if_pos z₁, if_pos ((lg_cmp_eq _ _).mp z2₁)] at hB₁
      rw [hB₁]; exact h₁
    · rw [if_neg z₁] at hB₁
      rw [g5₁]; exact hB₁
end UN₁
