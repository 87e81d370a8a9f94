/-! ===== class and reference beside one another: calls that only look ===== -/
section CQ₁
variable {K₁ N₁ : MK} {I₁ J₁ : MI} {L₁ : ML} {R₁ : MR} {x₁ m₁ : Nat} {a₁ b₁ c₁ : Int32}
theorem cpG₁ (h₁ : CPL₁ K₁ N₁ I₁ L₁ R₁ x₁ m₁) : PDL K₁ N₁ R₁ x₁ ∧ MDL K₁ N₁ R₁ m₁ ∧ x₁ + 168 ≤ m₁ ∧ (∃ W₁, UD I₁ L₁ (x₁ + 3) (I₁ (m₁ + 2)) W₁) ∧ WFU₁ (I₁ (m₁ + 2)) ∧ MACD I₁ (x₁ + 19) (macV (I₁ (m₁ + 2))) ∧ WFv₁ (I₁ (m₁ + 2)) (macV (I₁ (m₁ + 2))) := by
  obtain ⟨B₁, n₁, NM₁, o₁, p₁, l₁, nc₁, nt₁, np₁, nu₁, h1₁, h2₁, h3₁, h4₁, h5₁⟩ := h₁
  exact ⟨h1₁.1, h1₁.2.1, h1₁.2.2.2.2.2, ⟨_, h3₁.1⟩, h3₁.2.1, h4₁.1, h4₁.2⟩
theorem CPL_0 (h₁ : CPL₁ K₁ N₁ I₁ L₁ R₁ x₁ m₁) : CPL₁ K₁ N₁ (mup I₁ m₁ 0 0) L₁ R₁ x₁ m₁ := by
  obtain ⟨-, -, hx₁, -⟩ := cpG₁ h₁
  exact CPL_q h₁ (fun b₁ q₁ => mup_ne (by unfold qtC₁ at q₁; omega)) (by rw [mup_ne (by omega)]) (fun y₁ hy₁ => mup_k (by omega))
theorem CPL_w (h₁ : CPL₁ K₁ N₁ I₁ L₁ R₁ x₁ m₁) (g₁ : frW₁ m₁ J₁ (mup I₁ m₁ 0 0)) : CPL₁ K₁ N₁ J₁ L₁ R₁ x₁ m₁ := by
  obtain ⟨-, -, hx₁, -⟩ := cpG₁ h₁
  have h0₁ := CPL_0 h₁
  exact CPL_q h0₁ (fun b₁ q₁ => g₁.1 b₁ (by unfold qtC₁ at q₁; omega) (by unfold qtC₁ at q₁; omega)) (by rw [g₁.1 _ (by omega) (by omega)]) (fun y₁ hy₁ => g₁.2 y₁ (by omega) (by omega))
/-- the class has looked -/
theorem CPL_f (h₁ : CPL₁ K₁ N₁ I₁ L₁ R₁ x₁ m₁) (g₁ : ∀ b₁, b₁ ≠ x₁ + 28 → b₁ ≠ x₁ + 29 → J₁ b₁ = I₁ b₁) : CPL₁ K₁ N₁ J₁ L₁ R₁ x₁ m₁ ∧ J₁ (m₁ + 2) = I₁ (m₁ + 2) := by
  obtain ⟨-, -, hx₁, -⟩ := cpG₁ h₁
  exact ⟨CPL_q h₁ (fun b₁ q₁ => g₁ b₁ (by unfold qtC₁ at q₁; omega) (by unfold qtC₁ at q₁; omega)) (by rw [g₁ _ (by omega) (by omega)]) (fun y₁ hy₁ => by rw [g₁ _ (by omega) (by omega)]), g₁ _ (by omega) (by omega)⟩
theorem cs_fault (h₁ : CPL₁ K₁ N₁ I₁ L₁ R₁ x₁ m₁) : w_X11_fault x₁ K₁ N₁ I₁ L₁ R₁ (fun r₁ => w_X12_fault m₁ K₁ N₁ I₁ L₁ R₁ (fun r2₁ J₁ => r₁ = r2₁ ∧ CPL₁ K₁ N₁ J₁ L₁ R₁ x₁ m₁)) := by
  have h'₁ := h₁
  obtain ⟨hX₁, hM₁, -⟩ := cpG₁ h₁
  obtain ⟨B₁, n₁, NM₁, o₁, p₁, l₁, nc₁, nt₁, np₁, nu₁, h1₁, h2₁, -⟩ := h'₁
  exact s_fault hX₁ (r_fault hM₁ ⟨h2₁.2.2.2.2.2.2, CPL_0 h₁⟩)
theorem cs_row (h₁ : CPL₁ K₁ N₁ I₁ L₁ R₁ x₁ m₁) : w_X11_row x₁ a₁ b₁ K₁ N₁ I₁ L₁ R₁ (fun r₁ => w_X12_row m₁ a₁ b₁ K₁ N₁ I₁ L₁ R₁ (fun r2₁ J₁ => r₁ = r2₁ ∧ CPL₁ K₁ N₁ J₁ L₁ R₁ x₁ m₁)) := by
  obtain ⟨hX₁, hM₁, -, ⟨W₁, hD₁⟩, hW₁, -⟩ := cpG₁ h₁
  exact s_row hX₁ hD₁.1 hD₁.2.1 hW₁.1 (r_row hM₁ hW₁.1 ⟨rfl, CPL_0 h₁⟩)
theorem cs_scope (h₁ : CPL₁ K₁ N₁ I₁ L₁ R₁ x₁ m₁) : w_X11_scope x₁ a₁ b₁ K₁ N₁ I₁ L₁ R₁ (fun r₁ => w_X12_scope m₁ a₁ b₁ K₁ N₁ I₁ L₁ R₁ (fun r2₁ J₁ => r₁ = r2₁ ∧ CPL₁ K₁ N₁ J₁ L₁ R₁ x₁ m₁)) := by
  obtain ⟨hX₁, hM₁, -, ⟨W₁, hD₁⟩, hW₁, -⟩ := cpG₁ h₁
  exact s_scope hX₁ hD₁ hW₁.1 hW₁.2.2.1 (r_scope hM₁ hW₁.1 ⟨rfl, CPL_0 h₁⟩)
theorem cs_var (h₁ : CPL₁ K₁ N₁ I₁ L₁ R₁ x₁ m₁) : w_X11_var x₁ a₁ b₁ K₁ N₁ I₁ L₁ R₁ (fun r₁ => w_X12_var m₁ a₁ b₁ K₁ N₁ I₁ L₁ R₁ (fun r2₁ J₁ => r₁ = r2₁ ∧ CPL₁ K₁ N₁ J₁ L₁ R₁ x₁ m₁)) := by
  obtain ⟨hX₁, hM₁, -, ⟨W₁, hD₁⟩, hW₁, -⟩ := cpG₁ h₁
  exact s_var hX₁ hD₁ hW₁.1 hW₁.2.2.2.2.1 (r_var hM₁ hW₁.1 hW₁.2.2.2.2.1 ⟨rfl, CPL_0 h₁⟩)
theorem cs_placeOf (h₁ : CPL₁ K₁ N₁ I₁ L₁ R₁ x₁ m₁) : w_X11_placeOf x₁ a₁ b₁ K₁ N₁ I₁ L₁ R₁ (fun r₁ => w_X12_placeOf m₁ a₁ b₁ K₁ N₁ I₁ L₁ R₁ (fun r2₁ J₁ => r₁ = r2₁ ∧ CPL₁ K₁ N₁ J₁ L₁ R₁ x₁ m₁)) := by
  obtain ⟨hX₁, hM₁, -, ⟨W₁, hD₁⟩, hW₁, -⟩ := cpG₁ h₁
  exact s_placeOf hX₁ hD₁.2.2.2.2.2 hW₁.1 (r_placeOf hM₁ hW₁.1 hW₁.2.2.2.2.2.2.1 ⟨rfl, CPL_0 h₁⟩)
theorem cs_lineAt (h₁ : CPL₁ K₁ N₁ I₁ L₁ R₁ x₁ m₁) : w_X11_lineAt x₁ a₁ K₁ N₁ I₁ L₁ R₁ (fun r₁ => w_X12_lineAt m₁ a₁ K₁ N₁ I₁ L₁ R₁ (fun r2₁ J₁ => r₁ = r2₁ ∧ CPL₁ K₁ N₁ J₁ L₁ R₁ x₁ m₁)) := by
  obtain ⟨hX₁, hM₁, -, ⟨W₁, hD₁⟩, hW₁, -⟩ := cpG₁ h₁
  exact s_lineAt hX₁ hD₁.1 hD₁.2.1 hW₁.1 hW₁.2.1 (r_lineAt hM₁ hW₁.1 ⟨rfl, CPL_0 h₁⟩)
theorem cs_addressOf (h₁ : CPL₁ K₁ N₁ I₁ L₁ R₁ x₁ m₁) : w_X11_addressOf x₁ a₁ b₁ K₁ N₁ I₁ L₁ R₁ (fun r₁ => w_X12_addressOf m₁ a₁ b₁ K₁ N₁ I₁ L₁ R₁ (fun r2₁ J₁ => r₁ = r2₁ ∧ CPL₁ K₁ N₁ J₁ L₁ R₁ x₁ m₁)) := by
  obtain ⟨hX₁, hM₁, -, ⟨W₁, hD₁⟩, hW₁, -⟩ := cpG₁ h₁
  exact s_addressOf hX₁ hD₁.2.1 hW₁.1 (r_addressOf hM₁ hW₁.1 ⟨rfl, CPL_0 h₁⟩)
theorem cs_longest (h₁ : CPL₁ K₁ N₁ I₁ L₁ R₁ x₁ m₁) : w_X11_longest x₁ K₁ N₁ I₁ L₁ R₁ (fun r₁ => w_X12_longest m₁ K₁ N₁ I₁ L₁ R₁ (fun r2₁ J₁ => r₁ = r2₁ ∧ CPL₁ K₁ N₁ J₁ L₁ R₁ x₁ m₁)) := by
  obtain ⟨hX₁, hM₁, -, ⟨W₁, hD₁⟩, hW₁, -⟩ := cpG₁ h₁
  exact s_longest hX₁ hD₁.1 hD₁.2.1 hW₁.1 (r_longest hM₁ hW₁.1 ⟨rfl, CPL_0 h₁⟩)
theorem cs_register (h₁ : CPL₁ K₁ N₁ I₁ L₁ R₁ x₁ m₁) : w_X11_register x₁ a₁ K₁ N₁ I₁ L₁ R₁ (fun r₁ => w_X12_register m₁ a₁ K₁ N₁ I₁ L₁ R₁ (fun r2₁ J₁ => r₁ = r2₁ ∧ CPL₁ K₁ N₁ J₁ L₁ R₁ x₁ m₁)) := by
  obtain ⟨hX₁, hM₁, -, -, -, hV₁, -⟩ := cpG₁ h₁
  exact s_register hX₁ hV₁ (r_register hM₁ ⟨rfl, CPL_0 h₁⟩)
theorem cs_memory (h₁ : CPL₁ K₁ N₁ I₁ L₁ R₁ x₁ m₁) : w_X11_memory x₁ a₁ K₁ N₁ I₁ L₁ R₁ (fun r₁ => w_X12_memory m₁ a₁ K₁ N₁ I₁ L₁ R₁ (fun r2₁ J₁ => r₁ = r2₁ ∧ CPL₁ K₁ N₁ J₁ L₁ R₁ x₁ m₁)) := by
  obtain ⟨hX₁, hM₁, -, -, -, hV₁, -⟩ := cpG₁ h₁
  exact s_memory hX₁ hV₁ (r_memory hM₁ ⟨rfl, CPL_0 h₁⟩)
theorem cs_count (h₁ : CPL₁ K₁ N₁ I₁ L₁ R₁ x₁ m₁) : w_X11_count x₁ a₁ K₁ N₁ I₁ L₁ R₁ (fun r₁ => w_X12_count m₁ a₁ K₁ N₁ I₁ L₁ R₁ (fun r2₁ J₁ => r₁ = r2₁ ∧ CPL₁ K₁ N₁ J₁ L₁ R₁ x₁ m₁)) := by
  have h'₁ := h₁
  obtain ⟨hX₁, hM₁, -, ⟨W₁, hD₁⟩, hW₁, -⟩ := cpG₁ h₁
  obtain ⟨B₁, n₁, NM₁, o₁, p₁, l₁, nc₁, nt₁, np₁, nu₁, h1₁, h2₁, -⟩ := h'₁
  exact s_count hX₁ hD₁ hW₁.1 (h2₁.2.2.1.trans h2₁.2.2.2.1.symm) (r_count hM₁ ⟨rfl, CPL_0 h₁⟩)
/-- a look at a table of one column, or two -/
theorem tat_eq {t₁ w₁ k₁ n₁ : Nat} {A₁ : Nat → Int32} {q₁ : Nat} (hq₁ : q₁ < w₁) (hw₁ : w₁ < 1000) (hn₁ : n₁ < 1000) (e₁ : ∀ j₁, j₁ < n₁ → I₁ (t₁ + 2) (j₁ * w₁ + q₁) = A₁ j₁) : tat I₁ t₁ w₁ n₁ a₁ (nI q₁) = if inN a₁ n₁ = true then A₁ (ix a₁) else -1 := by
  by_cases z₁ : inN a₁ n₁ = true
  · rw [if_pos z₁]
    obtain ⟨j₁, hj₁, rfl⟩ := inN_t z₁ (by omega)
    rw [tat_in hj₁ hq₁ (by omega) (by omega), ix_nI (by omega)]; exact e₁ j₁ hj₁
  · rw [if_neg z₁, tat, if_neg]
    rintro ⟨g1₁, g2₁, -⟩
    apply z₁
    rw [inN, Bool.and_eq_true, decide_eq_true_eq, decide_eq_true_eq]; exact ⟨g1₁, g2₁⟩
theorem cs_chainAt (h₁ : CPL₁ K₁ N₁ I₁ L₁ R₁ x₁ m₁) : w_X11_chainAt x₁ a₁ K₁ N₁ I₁ L₁ R₁ (fun r₁ => w_X12_chainAt m₁ a₁ K₁ N₁ I₁ L₁ R₁ (fun r2₁ J₁ => r₁ = r2₁ ∧ CPL₁ K₁ N₁ J₁ L₁ R₁ x₁ m₁)) := by
  have h'₁ := h₁
  obtain ⟨hX₁, hM₁, -⟩ := cpG₁ h₁
  obtain ⟨B₁, n₁, NM₁, o₁, p₁, l₁, nc₁, nt₁, np₁, nu₁, -, -, -, -, -, ⟨g1₁, g2₁, g3₁, g4₁⟩, -⟩ := h'₁
  exact s_chainAt hX₁ g2₁ (r_chainAt hM₁ g3₁ g1₁ ⟨tat_eq (k₁ := 0) (q₁ := 0) (by decide) (by decide) (by omega) (fun j₁ hj₁ => (g4₁ j₁ hj₁).1), CPL_0 h₁⟩)
theorem cs_chainLine (h₁ : CPL₁ K₁ N₁ I₁ L₁ R₁ x₁ m₁) : w_X11_chainLine x₁ a₁ K₁ N₁ I₁ L₁ R₁ (fun r₁ => w_X12_chainLine m₁ a₁ K₁ N₁ I₁ L₁ R₁ (fun r2₁ J₁ => r₁ = r2₁ ∧ CPL₁ K₁ N₁ J₁ L₁ R₁ x₁ m₁)) := by
  have h'₁ := h₁
  obtain ⟨hX₁, hM₁, -⟩ := cpG₁ h₁
  obtain ⟨B₁, n₁, NM₁, o₁, p₁, l₁, nc₁, nt₁, np₁, nu₁, -, -, -, -, -, ⟨g1₁, g2₁, g3₁, g4₁⟩, -⟩ := h'₁
  exact s_chainLine hX₁ g2₁ (r_chainLine hM₁ g3₁ g1₁ ⟨tat_eq (k₁ := 0) (q₁ := 1) (by decide) (by decide) (by omega) (fun j₁ hj₁ => (g4₁ j₁ hj₁).2), CPL_0 h₁⟩)
theorem cs_byteAt (h₁ : CPL₁ K₁ N₁ I₁ L₁ R₁ x₁ m₁) : w_X11_byteAt x₁ a₁ K₁ N₁ I₁ L₁ R₁ (fun r₁ => w_X12_byteAt m₁ a₁ K₁ N₁ I₁ L₁ R₁ (fun r2₁ J₁ => r₁ = r2₁ ∧ CPL₁ K₁ N₁ J₁ L₁ R₁ x₁ m₁)) := by
  have h'₁ := h₁
  obtain ⟨hX₁, hM₁, -⟩ := cpG₁ h₁
  obtain ⟨B₁, n₁, NM₁, o₁, p₁, l₁, nc₁, nt₁, np₁, nu₁, -, -, -, -, -, -, ⟨g1₁, g2₁, g3₁, g4₁⟩, -⟩ := h'₁
  exact s_byteAt hX₁ g2₁ (r_byteAt hM₁ g3₁ (by omega) ⟨tat_eq (k₁ := 0) (q₁ := 0) (by decide) (by decide) (by omega) (fun j₁ hj₁ => by rw [Nat.mul_one]; exact g4₁ j₁ hj₁), CPL_0 h₁⟩)
theorem cs_packedAt (h₁ : CPL₁ K₁ N₁ I₁ L₁ R₁ x₁ m₁) : w_X11_packedAt x₁ a₁ K₁ N₁ I₁ L₁ R₁ (fun r₁ => w_X12_packedAt m₁ a₁ K₁ N₁ I₁ L₁ R₁ (fun r2₁ J₁ => r₁ = r2₁ ∧ CPL₁ K₁ N₁ J₁ L₁ R₁ x₁ m₁)) := by
  have h'₁ := h₁
  obtain ⟨hX₁, hM₁, -⟩ := cpG₁ h₁
  obtain ⟨B₁, n₁, NM₁, o₁, p₁, l₁, nc₁, nt₁, np₁, nu₁, -, -, -, -, -, -, -, ⟨g1₁, g2₁, g3₁, g4₁⟩, -⟩ := h'₁
  exact s_packedAt hX₁ g2₁ (r_packedAt hM₁ g3₁ (by omega) ⟨tat_eq (k₁ := 0) (q₁ := 0) (by decide) (by decide) (by omega) (fun j₁ hj₁ => by rw [Nat.mul_one]; exact g4₁ j₁ hj₁), CPL_0 h₁⟩)
theorem cs_unpackedAt (h₁ : CPL₁ K₁ N₁ I₁ L₁ R₁ x₁ m₁) : w_X11_unpackedAt x₁ a₁ b₁ K₁ N₁ I₁ L₁ R₁ (fun r₁ => w_X12_unpackedAt m₁ a₁ b₁ K₁ N₁ I₁ L₁ R₁ (fun r2₁ J₁ => r₁ = r2₁ ∧ CPL₁ K₁ N₁ J₁ L₁ R₁ x₁ m₁)) := by
  have h'₁ := h₁
  obtain ⟨hX₁, hM₁, -⟩ := cpG₁ h₁
  obtain ⟨B₁, n₁, NM₁, o₁, p₁, l₁, nc₁, nt₁, np₁, nu₁, -, -, -, -, -, -, -, -, ⟨g1₁, g0₁, g2₁, g3₁, g4₁⟩, -⟩ := h'₁
  refine s_unpackedAt hX₁ g2₁ (r_unpackedAt hM₁ g3₁ (by omega) ⟨?_, CPL_0 h₁⟩)
  by_cases z₁ : inN b₁ 2 = true
  · obtain ⟨q₁, hq₁, rfl⟩ := inN_t z₁ (by decide)
    rcases (show q₁ = 0 ∨ q₁ = 1 by omega) with rfl | rfl
    · rw [tat_eq (k₁ := 0) (q₁ := 0) (by decide) (by decide) (by omega) (fun j₁ hj₁ => (g4₁ j₁ hj₁).1)]
      by_cases y₁ : inN a₁ nu₁ = true
      · rw [if_pos y₁, if_pos ⟨y₁, z₁⟩, if_pos (show nI 0 = 0 from rfl)]
      · rw [if_neg y₁, if_neg (fun w₁ => y₁ w₁.1)]
    · rw [tat_eq (k₁ := 0) (q₁ := 1) (by decide) (by decide) (by omega) (fun j₁ hj₁ => (g4₁ j₁ hj₁).2)]
      by_cases y₁ : inN a₁ nu₁ = true
      · rw [if_pos y₁, if_pos ⟨y₁, z₁⟩, if_neg (by decide)]
      · rw [if_neg y₁, if_neg (fun w₁ => y₁ w₁.1)]
  · rw [if_neg (fun w₁ => z₁ w₁.2), tat, if_neg]
    rintro ⟨-, -, g5₁, g6₁⟩
    apply z₁
    rw [inN, Bool.and_eq_true, decide_eq_true_eq, decide_eq_true_eq]; exact ⟨g5₁, g6₁⟩
theorem cs_told (h₁ : CPL₁ K₁ N₁ I₁ L₁ R₁ x₁ m₁) : w_X11_told x₁ a₁ K₁ N₁ I₁ L₁ R₁ (fun r₁ => w_X12_told m₁ a₁ K₁ N₁ I₁ L₁ R₁ (fun r2₁ J₁ => r₁ = r2₁ ∧ CPL₁ K₁ N₁ J₁ L₁ R₁ x₁ m₁)) := by
  have h'₁ := h₁
  obtain ⟨hX₁, hM₁, -⟩ := cpG₁ h₁
  obtain ⟨B₁, n₁, NM₁, o₁, p₁, l₁, nc₁, nt₁, np₁, nu₁, -, -, -, -, -, -, -, -, -, g₁, -⟩ := h'₁
  rcases g₁ with ⟨g1₁, g2₁⟩ | ⟨g1₁, g2₁, g3₁⟩
  · refine s_told hX₁ g1₁ (r_told hM₁ ⟨?_, CPL_0 h₁⟩)
    rw [if_pos g2₁, tat, if_neg (fun w₁ => absurd w₁.2.1 (by decide))]
  · refine s_told hX₁ g1₁ (r_told hM₁ ⟨?_, CPL_0 h₁⟩)
    rw [if_neg g2₁]
    by_cases z₁ : inN a₁ 4 = true
    · obtain ⟨j₁, hj₁, rfl⟩ := inN_t z₁ (by decide)
      rw [if_pos z₁, ix_nI (by omega), ← g3₁ j₁ hj₁]
      exact (show tat I₁ (x₁ + 83) 4 1 (nI 0) (nI j₁) = _ from tat_in (by decide) hj₁ (by decide) (by decide)).trans (by rw [Nat.zero_mul, Nat.zero_add])
    · rw [if_neg z₁, tat, if_neg]
      rintro ⟨-, -, g5₁, g6₁⟩
      apply z₁
      rw [inN, Bool.and_eq_true, decide_eq_true_eq, decide_eq_true_eq]; exact ⟨g5₁, g6₁⟩
theorem cs_why (h₁ : CPL₁ K₁ N₁ I₁ L₁ R₁ x₁ m₁) : w_X11_why x₁ a₁ b₁ K₁ N₁ I₁ L₁ R₁ (fun r₁ I1₁ => w_X12_why m₁ a₁ b₁ K₁ N₁ I1₁ L₁ R₁ (fun r2₁ J₁ => r₁ = r2₁ ∧ CPL₁ K₁ N₁ J₁ L₁ R₁ x₁ m₁)) := by
  obtain ⟨hX₁, hM₁, -, ⟨W₁, hD₁⟩, hW₁, hV₁, hv₁⟩ := cpG₁ h₁
  refine s_why hX₁ hV₁ hv₁.2.1 hD₁ hW₁.1 hW₁.2.2.2.2.2.2.1 hW₁.2.2.2.2.1 hW₁.2.2.2.1 hW₁.2.2.2.2.2.2.2 (fun J1₁ g1₁ => ?_)
  obtain ⟨h1₁, u₁⟩ := CPL_f h₁ g1₁
  obtain ⟨-, -, -, -, hW₁, hV₁, hv₁⟩ := cpG₁ h1₁
  exact r_why hM₁ hW₁.1 hW₁.2.2.2.2.2.2.1 hW₁.2.2.2.2.1 hW₁.2.2.2.1 hW₁.2.2.2.2.2.2.2 hv₁.2.1 (fun J2₁ g2₁ => ⟨by rw [u₁], CPL_w h1₁ g2₁⟩)
theorem cs_now (h₁ : CPL₁ K₁ N₁ I₁ L₁ R₁ x₁ m₁) : w_X11_now x₁ a₁ K₁ N₁ I₁ L₁ R₁ (fun r₁ I1₁ => w_X12_now m₁ a₁ K₁ N₁ I1₁ L₁ R₁ (fun r2₁ J₁ => r₁ = r2₁ ∧ CPL₁ K₁ N₁ J₁ L₁ R₁ x₁ m₁)) := by
  obtain ⟨hX₁, hM₁, -, ⟨W₁, hD₁⟩, hW₁, hV₁, hv₁⟩ := cpG₁ h₁
  refine s_now hX₁ hv₁.2.2 hV₁ hv₁.2.1 hD₁ hW₁.1 hW₁.2.1 hW₁.2.2.1 hW₁.2.2.2.2.2.2.1 hW₁.2.2.2.2.1 hW₁.2.2.2.1 hW₁.2.2.2.2.2.2.2 (fun J1₁ g1₁ => ?_)
  obtain ⟨h1₁, u₁⟩ := CPL_f h₁ g1₁
  obtain ⟨-, -, -, -, hW₁, hV₁, hv₁⟩ := cpG₁ h1₁
  exact r_now hM₁ hW₁.1 hW₁.2.2.2.2.2.2.1 hW₁.2.2.2.2.1 hW₁.2.2.2.1 hW₁.2.2.2.2.2.2.2 hv₁.2.1 (fun J2₁ g2₁ => ⟨by rw [u₁], CPL_w h1₁ g2₁⟩)
theorem s_odds0 {U₁ : Nat → Int32} {W₁ : Nat → Int64} {Q₁ : Int32 → MI → Prop} (hX₁ : PDL K₁ N₁ R₁ x₁) (hu₁ : UD I₁ L₁ (x₁ + 3) U₁ W₁) (hz₁ : (inN a₁ (ix (U₁ 4)) && isInB b₁ 1 30) = false) (h₁ : Q₁ (-1) I₁) : w_X11_odds x₁ a₁ b₁ c₁ K₁ N₁ I₁ L₁ R₁ Q₁ := by
  delta w_X11_odds
  refine ⟨hX₁.k, _, hX₁.r_unit, hX₁.un.1, _, hX₁.un.2.2.2.2.1, hX₁.un.2.2.2.2.2.2.2.2.2.1.1, s_has hX₁.un.2.2.2.2.2.2.2.2.2.1 hu₁.2.2.2.2.1.1 ⟨fun e₁ => h₁, fun e₁ => s_isIn ⟨fun z₁ => ?_, fun z₁ => h₁⟩⟩⟩
  rw [e₁, z₁] at hz₁; exact absurd hz₁ (by decide)
theorem r_odds0 {Q₁ : Int32 → MI → Prop} (hM₁ : MDL K₁ N₁ R₁ m₁) (hU₁ : WFc (I₁ (m₁ + 2))) (hz₁ : (inN a₁ (ix (I₁ (m₁ + 2) 4)) && isInB b₁ 1 30) = false) (h₁ : Q₁ (-1) (mup I₁ m₁ 0 0)) : w_X12_odds m₁ a₁ b₁ c₁ K₁ N₁ I₁ L₁ R₁ Q₁ := by
  delta w_X12_odds
  refine ⟨hM₁.k, fun I2₁ g2₁ => ?_⟩
  have u2₁ : I2₁ (m₁ + 2) = I₁ (m₁ + 2) := by rw [g2₁, mup_ne (by omega)]
  rw [← g2₁] at h₁
  refine r_isVar hM₁ (by rw [u2₁]; exact hU₁) ?_
  rw [u2₁]
  refine ⟨fun e₁ => h₁, fun e₁ => r_isIn ⟨fun z₁ => ?_, fun z₁ => h₁⟩⟩
  rw [e₁, z₁] at hz₁; exact absurd hz₁ (by decide)
theorem nI_inj {n₁ k₁ : Nat} (hn₁ : n₁ ≤ 100) (hk₁ : k₁ ≤ 100) (e₁ : nI n₁ = nI k₁) : n₁ = k₁ := by
  rw [eqN (by omega) (by omega)] at e₁; exact e₁
theorem cs_odds (h₁ : CPL₁ K₁ N₁ I₁ L₁ R₁ x₁ m₁) : w_X11_odds x₁ a₁ b₁ c₁ K₁ N₁ I₁ L₁ R₁ (fun r₁ I1₁ => w_X12_odds m₁ a₁ b₁ c₁ K₁ N₁ I1₁ L₁ R₁ (fun r2₁ J₁ => r₁ = r2₁ ∧ CPL₁ K₁ N₁ J₁ L₁ R₁ x₁ m₁)) := by
  obtain ⟨hX₁, hM₁, hx₁, ⟨W₁, hD₁⟩, hW₁, hV₁, hv₁⟩ := cpG₁ h₁
  have wcg₁ : ∀ {U₁ : Nat → Int32}, WFU₁ U₁ → ∀ U'₁ : Nat → Int32, agU₁ U'₁ U₁ → WFr U'₁ ∧ WFw U'₁ ∧ WFvt U'₁ ∧ WFt₁ U'₁ ∧ WFo₁ U'₁ := fun hW₁ U'₁ g₁ => by
    have q₁ := WFU_ag g₁ hW₁
    exact ⟨q₁.2.1, q₁.2.2.2.2.2.2.1, q₁.2.2.2.2.1, q₁.2.2.2.1, q₁.2.2.2.2.2.2.2⟩
  cases hz₁ : (inN a₁ (ix (I₁ (m₁ + 2) 4)) && isInB b₁ 1 30) with
  | false => exact s_odds0 hX₁ hD₁ hz₁ (r_odds0 hM₁ hW₁.1 hz₁ ⟨rfl, CPL_0 h₁⟩)
  | true =>
    refine s_odds hX₁ hV₁ hD₁ hW₁.1 hW₁.2.1 hW₁.2.2.1 hW₁.2.2.2.2.2.2.1 hW₁.2.2.2.2.1 hW₁.2.2.2.1 hW₁.2.2.2.2.2.2.2 hv₁ (fun z₁ => absurd (hz₁.symm.trans z₁) (by decide)) (fun n₁ hv1₁ hb₁ hn₁ J1₁ g1₁ => ?_)
    have h1₁ : CPL₁ K₁ N₁ J1₁ L₁ R₁ x₁ m₁ := CPL_q h₁ (fun b₁ q₁ => g1₁ b₁ (by unfold qtC₁ at q₁; omega) (by unfold qtC₁ at q₁; omega) (by unfold qtC₁ at q₁; omega) (by unfold qtC₁ at q₁; omega)) (by rw [g1₁ _ (by omega) (by omega) (by omega) (by omega)]) (fun y₁ hy₁ => by rw [g1₁ _ (by omega) (by omega) (by omega) (by omega)])
    have u₁ : J1₁ (m₁ + 2) = I₁ (m₁ + 2) := g1₁ _ (by omega) (by omega) (by omega) (by omega)
    obtain ⟨-, -, -, -, hW₁, hV₁, hv₁⟩ := cpG₁ h1₁
    refine r_odds hM₁ hW₁.1 hW₁.2.1 hW₁.2.2.2.2.2.2.1 hW₁.2.2.2.2.1 hW₁.2.2.2.1 hW₁.2.2.2.2.2.2.2 hv₁ (wcg₁ hW₁) (fun z₁ => ?_) (fun n2₁ _ hb2₁ hn2₁ J2₁ j2₁ y2₁ b2₁ => ⟨?_, ?_⟩)
    · rw [u₁, hz₁] at z₁; exact absurd z₁ (by decide)
    · have e₁ : n₁ = n2₁ := nI_inj (by omega) (by omega) (hb₁.symm.trans hb2₁)
      rw [u₁, e₁]
    · refine CPL_q h1₁ (fun b₁ q₁ => ?_) ?_ (fun y₁ hy₁ => y2₁ y₁ (by omega) (by omega) (by omega) (by omega))
      · by_cases e₁ : b₁ = m₁ + 2
        · rw [e₁]; exact j2₁
        · exact b2₁ b₁ (by unfold qtC₁ at q₁; omega) e₁ (by unfold qtC₁ at q₁; omega) (by unfold qtC₁ at q₁; omega)
      · rw [b2₁ _ (by omega) (by omega) (by omega) (by omega)]
theorem cs_said (h₁ : CPL₁ K₁ N₁ I₁ L₁ R₁ x₁ m₁) : w_X11_said x₁ a₁ K₁ N₁ I₁ L₁ R₁ (fun r₁ I1₁ => w_X12_said m₁ a₁ K₁ N₁ I1₁ L₁ R₁ (fun r2₁ J₁ => r₁ = r2₁ ∧ CPL₁ K₁ N₁ J₁ L₁ R₁ x₁ m₁)) := by
  have h'₁ := h₁
  obtain ⟨hX₁, hM₁, hx₁, ⟨W₁, hD₁⟩, hW₁, hV₁, hv₁⟩ := cpG₁ h₁
  obtain ⟨B₁, n₁, NM₁, o₁, p₁, l₁, nc₁, nt₁, np₁, nu₁, -, -, -, -, -, -, -, -, -, -, ⟨g1₁, g2₁⟩, -⟩ := h'₁
  obtain ⟨e1₁, e2₁⟩ := sCpl_en g2₁
  refine s_saidK hX₁ g1₁ e2₁ hD₁ hW₁ hV₁ hv₁.2.1 (fun J1₁ f1₁ => ?_)
  have h1₁ : CPL₁ K₁ N₁ J1₁ L₁ R₁ x₁ m₁ := CPL_q h₁ (fun b₁ q₁ => f1₁.1 b₁ (by unfold qtC₁ at q₁; omega) (by unfold qtC₁ at q₁; omega) (by unfold qtC₁ at q₁; omega) (by unfold qtC₁ at q₁; omega)) (f1₁.2 0 (by decide)) (fun y₁ hy₁ => by rw [f1₁.1 _ (by omega) (by omega) (by omega) (by omega)])
  have u₁ : J1₁ (m₁ + 2) = I₁ (m₁ + 2) := f1₁.1 _ (by omega) (by omega) (by omega) (by omega)
  refine r_saidK (l₁ := l₁) hM₁ u₁ hW₁ hv₁.2.1 (fun z₁ => ?_) (fun J2₁ f2₁ => ⟨?_, CPL_w h1₁ f2₁⟩)
  · rcases g2₁ with ⟨q₁, -⟩ | ⟨-, q₁⟩
    · exact absurd q₁ z₁
    · exact q₁
  · by_cases z₁ : I₁ (m₁ + 2) 425 = 0
    · rw [if_pos z₁, if_pos (e1₁.mp z₁)]
    · rw [if_neg z₁, if_neg (fun w₁ => z₁ (e1₁.mpr w₁))]
end CQ₁
