/-! ===== the reference's save and comeBack ===== -/
section RG₁
variable {K₁ N₁ : MK} {I₁ : MI} {L₁ : ML} {R₁ : MR} {m₁ : Nat}
theorem r_save {b₁ f₁ n₁ : Nat} {Q₁ : MI → Prop} (hM₁ : MDL K₁ N₁ R₁ m₁) (hb₁ : b₁ ≠ m₁ + 2) (hK₁ : K₁ b₁ = 14) (hN₁ : N₁ b₁ = n₁) (hn₁ : n₁ ≤ 2000) (hf₁ : f₁ + 83 ≤ n₁)
    (h₁ : ∀ J₁, (∀ j₁, j₁ < 83 → J₁ b₁ (f₁ + j₁) = macV (I₁ (m₁ + 2)) j₁) → (∀ y₁, y₁ < f₁ ∨ f₁ + 83 ≤ y₁ → J₁ b₁ y₁ = I₁ b₁ y₁) → (∀ z₁, z₁ ≠ b₁ → J₁ z₁ = I₁ z₁) → Q₁ J₁) : w_X12_save m₁ b₁ (nI f₁) K₁ N₁ I₁ L₁ R₁ Q₁ := by
  delta w_X12_save w_X12_save_2
  refine ⟨fun n1₁ y0₁ y1₁ y2₁ y3₁ I1₁ => y0₁ = m₁ ∧ y1₁ = b₁ ∧ y2₁ = nI f₁ ∧ ∃ i₁, i₁ ≤ 83 ∧ n1₁ = 83 - i₁ ∧ y3₁ = nI i₁ ∧ (∀ j₁, j₁ < i₁ → I1₁ b₁ (f₁ + j₁) = macV (I₁ (m₁ + 2)) j₁) ∧ (∀ y₁, y₁ < f₁ ∨ f₁ + i₁ ≤ y₁ → I1₁ b₁ y₁ = I₁ b₁ y₁) ∧ (∀ z₁, z₁ ≠ b₁ → I1₁ z₁ = I₁ z₁), ⟨83, rfl, rfl, rfl, 0, by omega, rfl, rfl, fun j₁ hj₁ => absurd hj₁ (by omega), fun y₁ _ => rfl, fun z₁ _ => rfl⟩, ?_⟩
  rintro n1₁ y0₁ y1₁ y2₁ y3₁ I1₁ ⟨rfl, rfl, rfl, i₁, hi₁, rfl, rfl, p1₁, p2₁, p3₁⟩
  refine ⟨fun e₁ => ?_, fun e₁ => ?_⟩
  · rw [show (83 : Int32) = nI 83 from rfl, leN (by omega) (by omega)] at e₁
    rw [show i₁ = 83 by omega] at p1₁ p2₁
    exact h₁ I1₁ p1₁ p2₁ p3₁
  · rw [show (83 : Int32) = nI 83 from rfl, leN (by omega) (by omega)] at e₁
    have e9₁ : (342 : Int32) + nI i₁ = nI (342 + i₁) := by rw [show (342 : Int32) = nI 342 from rfl, addN]
    rw [e9₁, addN]
    refine ⟨hM₁.k, _, hM₁.r14, hM₁.k2, by rw [hM₁.n2]; exact (vp_nI (by omega)).mpr (by omega), hK₁, by rw [hN₁]; exact (vp_nI (by omega)).mpr (by omega), fun I7₁ g7₁ v8₁ gv₁ => ⟨83 - (i₁ + 1), by omega, rfl, rfl, rfl, i₁ + 1, by omega, rfl, by rw [gv₁, nI_1], fun j₁ hj₁ => ?_, fun y₁ hy₁ => ?_, fun z₁ hz₁ => ?_⟩⟩
    · rw [ix_nI (by omega), ix_nI (by omega)] at g7₁
      rw [g7₁]
      by_cases q₁ : j₁ = i₁
      · rw [q₁, mup_at, p3₁ _ (Ne.symm hb₁), macV]
      · rw [mup_k (by omega)]; exact p1₁ j₁ (by omega)
    · rw [ix_nI (by omega), ix_nI (by omega)] at g7₁
      rw [g7₁, mup_k (by omega)]; exact p2₁ y₁ (by omega)
    · rw [g7₁, mup_ne hz₁]; exact p3₁ z₁ hz₁
theorem r_comeBack {b₁ f₁ n₁ : Nat} {Q₁ : MI → Prop} (hM₁ : MDL K₁ N₁ R₁ m₁) (hb₁ : b₁ ≠ m₁ + 2) (hK₁ : K₁ b₁ = 14) (hN₁ : N₁ b₁ = n₁) (hn₁ : n₁ ≤ 2000) (hf₁ : f₁ + 83 ≤ n₁)
    (h₁ : ∀ J₁, J₁ (m₁ + 2) = ovr₁ (I₁ (m₁ + 2)) (fun j₁ => I₁ b₁ (f₁ + j₁)) → (∀ z₁, z₁ ≠ m₁ + 2 → J₁ z₁ = I₁ z₁) → Q₁ J₁) : w_X12_comeBack m₁ b₁ (nI f₁) K₁ N₁ I₁ L₁ R₁ Q₁ := by
  delta w_X12_comeBack w_X12_comeBack_2
  refine ⟨fun n1₁ y0₁ y1₁ y2₁ y3₁ I1₁ => y0₁ = m₁ ∧ y1₁ = b₁ ∧ y2₁ = nI f₁ ∧ ∃ i₁, i₁ ≤ 83 ∧ n1₁ = 83 - i₁ ∧ y3₁ = nI i₁ ∧ (∀ j₁, j₁ < i₁ → I1₁ (m₁ + 2) (342 + j₁) = I₁ b₁ (f₁ + j₁)) ∧ (∀ y₁, y₁ < 342 ∨ 342 + i₁ ≤ y₁ → I1₁ (m₁ + 2) y₁ = I₁ (m₁ + 2) y₁) ∧ (∀ z₁, z₁ ≠ m₁ + 2 → I1₁ z₁ = I₁ z₁), ⟨83, rfl, rfl, rfl, 0, by omega, rfl, rfl, fun j₁ hj₁ => absurd hj₁ (by omega), fun y₁ _ => rfl, fun z₁ _ => rfl⟩, ?_⟩
  rintro n1₁ y0₁ y1₁ y2₁ y3₁ I1₁ ⟨rfl, rfl, rfl, i₁, hi₁, rfl, rfl, p1₁, p2₁, p3₁⟩
  refine ⟨fun e₁ => ?_, fun e₁ => ?_⟩
  · rw [show (83 : Int32) = nI 83 from rfl, leN (by omega) (by omega)] at e₁
    rw [show i₁ = 83 by omega] at p1₁ p2₁
    refine h₁ I1₁ (funext fun k₁ => ?_) p3₁
    rw [ovr₁]
    by_cases q₁ : 342 ≤ k₁ ∧ k₁ < 425
    · rw [if_pos q₁, ← p1₁ (k₁ - 342) (by omega), show 342 + (k₁ - 342) = k₁ by omega]
    · rw [if_neg q₁]; exact p2₁ k₁ (by omega)
  · rw [show (83 : Int32) = nI 83 from rfl, leN (by omega) (by omega)] at e₁
    have e9₁ : (342 : Int32) + nI i₁ = nI (342 + i₁) := by rw [show (342 : Int32) = nI 342 from rfl, addN]
    rw [e9₁, addN]
    refine ⟨hM₁.k, _, hM₁.r14, hK₁, by rw [hN₁]; exact (vp_nI (by omega)).mpr (by omega), hM₁.k2, by rw [hM₁.n2]; exact (vp_nI (by omega)).mpr (by omega), fun I7₁ g7₁ v8₁ gv₁ => ⟨83 - (i₁ + 1), by omega, rfl, rfl, rfl, i₁ + 1, by omega, rfl, by rw [gv₁, nI_1], fun j₁ hj₁ => ?_, fun y₁ hy₁ => ?_, fun z₁ hz₁ => ?_⟩⟩
    · rw [ix_nI (by omega), ix_nI (by omega)] at g7₁
      rw [g7₁]
      by_cases q₁ : j₁ = i₁
      · rw [q₁, mup_at, p3₁ _ hb₁]
      · rw [mup_k (by omega)]; exact p1₁ j₁ (by omega)
    · rw [ix_nI (by omega), ix_nI (by omega)] at g7₁
      rw [g7₁, mup_k (by omega)]; exact p2₁ y₁ (by omega)
    · rw [g7₁, mup_ne hz₁]; exact p3₁ z₁ hz₁
end RG₁
