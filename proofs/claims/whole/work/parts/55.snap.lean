/-! ===== the reference's snap; what the history holds ===== -/
/-- S' is the history S of n machines with V behind it; the oldest goes when there are 8 -/
def SH₁ (n₁ : Nat) (S₁ V₁ S'₁ : Nat → Int32) : Prop := (n₁ < 8 → (∀ y₁, y₁ < 83 * n₁ → S'₁ y₁ = S₁ y₁) ∧ ∀ j₁, j₁ < 83 → S'₁ (83 * n₁ + j₁) = V₁ j₁) ∧ (n₁ = 8 → (∀ y₁, y₁ < 581 → S'₁ y₁ = S₁ (y₁ + 83)) ∧ ∀ j₁, j₁ < 83 → S'₁ (581 + j₁) = V₁ j₁)
def shN₁ (n₁ : Nat) : Nat := if n₁ < 8 then n₁ + 1 else 8
section RG₁
variable {K₁ N₁ : MK} {I₁ : MI} {L₁ : ML} {R₁ : MR} {m₁ : Nat}
theorem r_snap {n₁ : Nat} {Q₁ : MI → Prop} (hM₁ : MDL K₁ N₁ R₁ m₁) (e₁ : I₁ m₁ 24 = nI n₁) (hn₁ : n₁ ≤ 8)
    (h₁ : ∀ J₁, J₁ m₁ 24 = nI (shN₁ n₁) → SH₁ n₁ (I₁ (m₁ + 5)) (macV (I₁ (m₁ + 2))) (J₁ (m₁ + 5)) → (∀ y₁, y₁ ≠ 24 → J₁ m₁ y₁ = I₁ m₁ y₁) → (∀ z₁, z₁ ≠ m₁ → z₁ ≠ m₁ + 5 → J₁ z₁ = I₁ z₁) → Q₁ J₁) : w_X12_snap m₁ K₁ N₁ I₁ L₁ R₁ Q₁ := by
  delta w_X12_snap
  rw [e₁]
  refine ⟨hM₁.k, fun f₁ => ⟨_, hM₁.r17, ?_⟩, fun f₁ => ?_⟩
  · rw [show (8 : Int32) = nI 8 from rfl, eqN (by omega) (by omega)] at f₁
    rw [show (83 : Int32) = nI 83 from rfl, mulN]
    refine r_save hM₁ (by omega) hM₁.k5 hM₁.n5 (by decide) (by omega) (fun J₁ p1₁ p2₁ p3₁ I4₁ g4₁ => h₁ I4₁ ?_ ⟨fun _ => ⟨fun y₁ hy₁ => ?_, fun j₁ hj₁ => ?_⟩, fun q₁ => by omega⟩ (fun y₁ hy₁ => ?_) (fun z₁ h1₁ h2₁ => ?_))
    · rw [g4₁, mup_at, p3₁ m₁ (by omega), e₁, nI_1, shN₁, if_pos (by omega)]
    · rw [g4₁, mup_ne (by omega)]; exact p2₁ y₁ (by omega)
    · rw [g4₁, mup_ne (by omega)]; exact p1₁ j₁ hj₁
    · rw [g4₁, mup_k hy₁, p3₁ m₁ (by omega)]
    · rw [g4₁, mup_ne h1₁, p3₁ z₁ h2₁]
  · rw [show (8 : Int32) = nI 8 from rfl, eqN (by omega) (by omega)] at f₁
    subst f₁
    delta w_X12_snap_11
    refine ⟨fun n1₁ y0₁ y1₁ I1₁ => y0₁ = m₁ ∧ ∃ i₁, i₁ ≤ 581 ∧ n1₁ = 581 - i₁ ∧ y1₁ = nI i₁ ∧ (∀ y₁, y₁ < i₁ → I1₁ (m₁ + 5) y₁ = I₁ (m₁ + 5) (y₁ + 83)) ∧ (∀ y₁, i₁ ≤ y₁ → I1₁ (m₁ + 5) y₁ = I₁ (m₁ + 5) y₁) ∧ (∀ z₁, z₁ ≠ m₁ + 5 → I1₁ z₁ = I₁ z₁), ⟨581, rfl, 0, by omega, rfl, rfl, fun y₁ hy₁ => absurd hy₁ (by omega), fun y₁ _ => rfl, fun z₁ _ => rfl⟩, ?_⟩
    rintro n1₁ y0₁ y1₁ I1₁ ⟨rfl, i₁, hi₁, rfl, rfl, p1₁, p2₁, p3₁⟩
    refine ⟨fun f₁ => ⟨hM₁.k, fun I6₁ g6₁ => ⟨_, hM₁.r17, ?_⟩⟩, fun f₁ => ?_⟩
    · rw [show (581 : Int32) = nI 581 from rfl, leN (by omega) (by omega)] at f₁
      rw [show i₁ = 581 by omega] at p1₁ p2₁
      have e6₁ : I6₁ y0₁ 24 = nI 7 := by rw [g6₁, mup_at, p3₁ y0₁ (by omega), e₁, show nI 8 = nI (7 + 1) from rfl, nI_pred]
      have o6₁ : ∀ z₁, z₁ ≠ y0₁ → I6₁ z₁ = I1₁ z₁ := fun z₁ hz₁ => by rw [g6₁, mup_ne hz₁]
      rw [e6₁, show (83 : Int32) = nI 83 from rfl, mulN]
      refine r_save hM₁ (by omega) hM₁.k5 hM₁.n5 (by decide) (by omega) (fun J₁ q1₁ q2₁ q3₁ I9₁ g9₁ => h₁ I9₁ ?_ ⟨fun q₁ => by omega, fun _ => ⟨fun y₁ hy₁ => ?_, fun j₁ hj₁ => ?_⟩⟩ (fun y₁ hy₁ => ?_) (fun z₁ h1₁ h2₁ => ?_))
      · rw [g9₁, mup_at, q3₁ y0₁ (by omega), e6₁, nI_1, shN₁, if_neg (by omega)]
      · rw [g9₁, mup_ne (by omega), q2₁ y₁ (by omega), o6₁ _ (by omega)]; exact p1₁ y₁ hy₁
      · rw [g9₁, mup_ne (by omega)]
        have := q1₁ j₁ hj₁
        rw [o6₁ _ (by omega), p3₁ _ (by omega)] at this
        exact this
      · rw [g9₁, mup_k hy₁, q3₁ y0₁ (by omega), g6₁, mup_k hy₁, p3₁ y0₁ (by omega)]
      · rw [g9₁, mup_ne h1₁, q3₁ z₁ h2₁, o6₁ z₁ h1₁, p3₁ z₁ h2₁]
    · rw [show (581 : Int32) = nI 581 from rfl, leN (by omega) (by omega)] at f₁
      have e9₁ : nI i₁ + (83 : Int32) = nI (i₁ + 83) := by rw [show (83 : Int32) = nI 83 from rfl, addN]
      rw [e9₁]
      refine ⟨hM₁.k, _, hM₁.r17, hM₁.k5, by rw [hM₁.n5]; exact (vp_nI (by omega)).mpr (by omega), by rw [hM₁.n5]; exact (vp_nI (by omega)).mpr (by omega), fun I15₁ g15₁ v16₁ gv₁ => ⟨581 - (i₁ + 1), by omega, rfl, i₁ + 1, by omega, rfl, by rw [gv₁, nI_1], fun y₁ hy₁ => ?_, fun y₁ hy₁ => ?_, fun z₁ hz₁ => ?_⟩⟩
      · rw [ix_nI (by omega), ix_nI (by omega)] at g15₁
        rw [g15₁]
        by_cases q₁ : y₁ = i₁
        · rw [q₁, mup_at]; exact p2₁ _ (by omega)
        · rw [mup_k q₁]; exact p1₁ y₁ (by omega)
      · rw [ix_nI (by omega), ix_nI (by omega)] at g15₁
        rw [g15₁, mup_k (by omega)]; exact p2₁ y₁ (by omega)
      · rw [g15₁, mup_ne hz₁]; exact p3₁ z₁ hz₁
end RG₁
