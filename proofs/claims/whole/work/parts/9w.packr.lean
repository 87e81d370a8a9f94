/-! ===== packed: the reference's ways ===== -/
section PR₁
variable {K₁ N₁ : MK} {I₁ : MI} {L₁ : ML} {R₁ : MR} {m₁ : Nat}
def LST₁ (I₁ : MI) (a₁ : Nat) (w₁ : List Nat) : Prop := ∀ i₁, i₁ < w₁.length → I₁ a₁ i₁ = nI (w₁.getD i₁ 0)
def RWY₁ (I₁ : MI) (m₁ : Nat) (w₁ : List Nat) : Prop := I₁ m₁ 36 = nI w₁.length ∧ LST₁ I₁ (m₁ + 16) w₁
def BST₁ (I₁ : MI) (m₁ : Nat) (w₁ : List Nat) : Prop := I₁ m₁ 37 = nI w₁.length ∧ LST₁ I₁ (m₁ + 17) w₁
def frLy (m₁ : Nat) (J₁ I₁ : MI) : Prop := (∀ b₁, b₁ ≠ m₁ → b₁ ≠ m₁ + 16 → J₁ b₁ = I₁ b₁) ∧ ∀ y₁, y₁ ≠ 36 → J₁ m₁ y₁ = I₁ m₁ y₁
def frWy (m₁ : Nat) (J₁ I₁ : MI) : Prop := (∀ b₁, b₁ ≠ m₁ → b₁ ≠ m₁ + 16 → b₁ ≠ m₁ + 17 → J₁ b₁ = I₁ b₁) ∧ ∀ y₁, y₁ ≠ 36 → y₁ ≠ 37 → J₁ m₁ y₁ = I₁ m₁ y₁
theorem frLy_r : frLy m₁ I₁ I₁ := ⟨fun _ _ _ => rfl, fun _ _ => rfl⟩
theorem frLy_t {J₁ J'₁ : MI} (h₁ : frLy m₁ J'₁ J₁) (h2₁ : frLy m₁ J₁ I₁) : frLy m₁ J'₁ I₁ := ⟨fun b₁ h3₁ h4₁ => by rw [h₁.1 b₁ h3₁ h4₁, h2₁.1 b₁ h3₁ h4₁], fun b₁ h3₁ => by rw [h₁.2 b₁ h3₁, h2₁.2 b₁ h3₁]⟩
theorem frWy_r : frWy m₁ I₁ I₁ := ⟨fun _ _ _ _ => rfl, fun _ _ _ => rfl⟩
theorem frWy_t {J₁ J'₁ : MI} (h₁ : frWy m₁ J'₁ J₁) (h2₁ : frWy m₁ J₁ I₁) : frWy m₁ J'₁ I₁ := ⟨fun b₁ h3₁ h4₁ h5₁ => by rw [h₁.1 b₁ h3₁ h4₁ h5₁, h2₁.1 b₁ h3₁ h4₁ h5₁], fun b₁ h3₁ h4₁ => by rw [h₁.2 b₁ h3₁ h4₁, h2₁.2 b₁ h3₁ h4₁]⟩
theorem frLy_w {J₁ : MI} (h₁ : frLy m₁ J₁ I₁) : frWy m₁ J₁ I₁ := ⟨fun b₁ q1₁ q2₁ _ => h₁.1 b₁ q1₁ q2₁, fun y₁ q1₁ _ => h₁.2 y₁ q1₁⟩
theorem LST_sn {J₁ : MI} {a₁ b₁ : Nat} {w₁ : List Nat} (h₁ : LST₁ I₁ a₁ w₁) (e₁ : J₁ a₁ = (mup I₁ a₁ w₁.length (nI b₁)) a₁) : LST₁ J₁ a₁ (w₁ ++ [b₁]) := fun i₁ hi₁ => by
  rw [List.length_append, List.length_singleton] at hi₁
  rw [getD_sn _ _ _ _ hi₁, e₁]
  by_cases q₁ : i₁ = w₁.length
  · rw [if_pos q₁, q₁, mup_at]
  · rw [if_neg q₁, mup_k q₁]
    exact h₁ i₁ (by omega)
theorem r_lay {w₁ : List Nat} {v₁ : Int32} {b₁ : Nat} {Q₁ : MI → Prop} (hM₁ : MDL K₁ N₁ R₁ m₁) (hS₁ : RWY₁ I₁ m₁ w₁) (hl₁ : w₁.length < 24) (hv₁ : v₁ = nI b₁)
    (h₁ : ∀ J₁, RWY₁ J₁ m₁ (w₁ ++ [b₁]) → frLy m₁ J₁ I₁ → Q₁ J₁) : w_X12_lay m₁ v₁ K₁ N₁ I₁ L₁ R₁ Q₁ := by
  obtain ⟨e₁, hw₁⟩ := hS₁
  delta w_X12_lay
  rw [e₁]
  refine ⟨hM₁.k, _, hM₁.r33, hM₁.k16, by rw [hM₁.n16]; exact (vp_nI (by omega)).mpr hl₁, fun I5₁ g5₁ I6₁ g6₁ => ?_⟩
  rw [ix_nI (by omega), hv₁] at g5₁
  have e5₁ : I5₁ m₁ 36 = nI w₁.length := by rw [g5₁, mup_ne (by omega)]; exact e₁
  rw [e5₁, nI_1] at g6₁
  refine h₁ I6₁ ⟨?_, LST_sn hw₁ (by rw [g6₁, mup_ne (by omega), g5₁])⟩ ⟨fun c₁ q1₁ q2₁ => ?_, fun y₁ q1₁ => ?_⟩
  · rw [g6₁, mup_at, List.length_append]; rfl
  · rw [g6₁, mup_ne q1₁, g5₁, mup_ne q2₁]
  · rw [g6₁, mup_k q1₁, g5₁, mup_ne (by omega)]
theorem drop_c {w₁ : List Nat} {i₁ : Nat} (h₁ : i₁ < w₁.length) : w₁.drop i₁ = w₁.getD i₁ 0 :: w₁.drop (i₁ + 1) := by
  rw [List.drop_eq_getElem_cons h₁, List.getD_eq_getElem?_getD, List.getElem?_eq_getElem h₁]; rfl
theorem r_isBetter {w₁ b₁ : List Nat} {Q₁ : Bool → Prop} (hM₁ : MDL K₁ N₁ R₁ m₁) (hw₁ : RWY₁ I₁ m₁ w₁) (hb₁ : BST₁ I₁ m₁ b₁) (lw₁ : w₁.length ≤ 24) (lb₁ : b₁.length ≤ 24) (ww₁ : ∀ i₁, w₁.getD i₁ 0 < 256) (wb₁ : ∀ i₁, b₁.getD i₁ 0 < 256)
    (h1₁ : b₁.length = 0 ∨ betP w₁ b₁ → Q₁ true) (h2₁ : ¬ (b₁.length = 0 ∨ betP w₁ b₁) → Q₁ false) : w_X12_isBetter m₁ K₁ N₁ I₁ L₁ R₁ Q₁ := by
  obtain ⟨e6₁, hw₁⟩ := hw₁
  obtain ⟨e7₁, hb₁⟩ := hb₁
  delta w_X12_isBetter
  rw [e6₁, e7₁, show (0 : Int32) = nI 0 from rfl, eqN (by omega) (by omega), leN (by omega) (by omega), eqN (by omega) (by omega)]
  refine ⟨hM₁.k, fun z₁ => ⟨fun _ => h1₁ (Or.inl z₁), fun y₁ => absurd z₁ y₁⟩, fun z₁ => ⟨fun el₁ => ?_, fun el₁ => ⟨fun y₁ => absurd y₁ z₁, fun _ => ⟨fun y₁ => h2₁ (fun q₁ => ?_), fun y₁ => h1₁ (Or.inr (Or.inl (by omega)))⟩⟩⟩⟩
  · delta w_X12_isBetter_44
    refine ⟨fun n1₁ y0₁ y1₁ => y0₁ = m₁ ∧ ∃ i₁, y1₁ = nI i₁ ∧ i₁ ≤ w₁.length ∧ n1₁ = w₁.length - i₁ ∧ (lexP (w₁.drop i₁) (b₁.drop i₁) ↔ lexP w₁ b₁), ⟨w₁.length, rfl, 0, rfl, Nat.zero_le _, rfl, Iff.rfl⟩, ?_⟩
    rintro n1₁ y0₁ y1₁ ⟨rfl, i₁, rfl, hi₁, rfl, hl₁⟩
    rw [e6₁, leN (by omega) (by omega)]
    refine ⟨hM₁.k, fun q₁ => h2₁ (fun q2₁ => ?_), fun q₁ => ⟨_, hM₁.r33, hM₁.k16, by rw [hM₁.n16]; exact (vp_nI (by omega)).mpr (by omega), _, hM₁.r34, hM₁.k17, by rw [hM₁.n17]; exact (vp_nI (by omega)).mpr (by omega), ?_⟩⟩
    · rw [List.drop_eq_nil_of_le (by omega), List.drop_eq_nil_of_le (by omega)] at hl₁
      rcases q2₁ with q2₁ | q2₁ | q2₁
      · exact z₁ q2₁
      · omega
      · exact hl₁.mpr q2₁.2
    · rw [drop_c (w₁ := w₁) (i₁ := i₁) (by omega), drop_c (w₁ := b₁) (i₁ := i₁) (by omega)] at hl₁
      have a1₁ := ww₁ i₁
      have a2₁ := wb₁ i₁
      rw [ix_nI (by omega), hw₁ i₁ (by omega), hb₁ i₁ (by omega), eqN (by omega) (by omega), leN (by omega) (by omega)]
      refine ⟨fun q2₁ v9₁ g9₁ => ⟨w₁.length - (i₁ + 1), by omega, rfl, i₁ + 1, by rw [g9₁, nI_1], by omega, rfl, ?_⟩, fun q2₁ => ⟨fun q3₁ => h2₁ (fun q4₁ => ?_), fun q3₁ => h1₁ (Or.inr (Or.inr ⟨el₁, hl₁.mp (Or.inl (by omega))⟩))⟩⟩
      · rw [← hl₁]
        exact ⟨fun y₁ => Or.inr ⟨q2₁, y₁⟩, fun y₁ => y₁.elim (fun y₁ => absurd y₁ (by omega)) (fun y₁ => y₁.2)⟩
      · rcases q4₁ with q4₁ | q4₁ | q4₁
        · exact z₁ q4₁
        · omega
        · rcases hl₁.mpr q4₁.2 with y₁ | y₁ <;> omega
  · rcases q₁ with q₁ | q₁ | q₁ <;> omega
/-- the way is set beside the best one -/
theorem r_wayEnd {w₁ b₁ : List Nat} {v₁ : Int32} {o₁ : Nat} {Q₁ : MI → Prop} (hM₁ : MDL K₁ N₁ R₁ m₁) (hw₁ : RWY₁ I₁ m₁ w₁) (hb₁ : BST₁ I₁ m₁ b₁) (lw₁ : w₁.length < 24) (lb₁ : b₁.length ≤ 24) (ww₁ : ∀ i₁, w₁.getD i₁ 0 < 256) (wb₁ : ∀ i₁, b₁.getD i₁ 0 < 256) (hv₁ : v₁ = nI o₁) (ho₁ : o₁ < 256)
    (h1₁ : b₁.length = 0 ∨ betP (w₁ ++ [o₁]) b₁ → ∀ J₁, BST₁ J₁ m₁ (w₁ ++ [o₁]) → frWy m₁ J₁ I₁ → Q₁ J₁) (h2₁ : ¬ (b₁.length = 0 ∨ betP (w₁ ++ [o₁]) b₁) → ∀ J₁, BST₁ J₁ m₁ b₁ → frWy m₁ J₁ I₁ → Q₁ J₁) :
    w_X12_lay m₁ v₁ K₁ N₁ I₁ L₁ R₁ (fun I4₁ => w_X12_isBetter m₁ K₁ N₁ I4₁ L₁ R₁ (fun r5₁ => (r5₁ = true → ∀ I6₁ : MI, I6₁ = mup I4₁ m₁ 37 (I4₁ m₁ 36) → w_X12_tryWay_95 m₁ 0 K₁ N₁ I6₁ L₁ R₁ Q₁) ∧ (r5₁ = false → Q₁ I4₁))) := by
  refine r_lay hM₁ hw₁ lw₁ hv₁ (fun J₁ s1₁ f1₁ => ?_)
  have hb1₁ : BST₁ J₁ m₁ b₁ := ⟨by rw [f1₁.2 37 (by decide)]; exact hb₁.1, fun i₁ hi₁ => by rw [f1₁.1 _ (by omega) (by omega)]; exact hb₁.2 i₁ hi₁⟩
  have ll₁ : (w₁ ++ [o₁]).length = w₁.length + 1 := by rw [List.length_append]; rfl
  have ww1₁ : ∀ i₁, (w₁ ++ [o₁]).getD i₁ 0 < 256 := fun i₁ => by
    by_cases q₁ : i₁ < w₁.length + 1
    · rw [getD_sn _ _ _ _ q₁]
      split
      · exact ho₁
      · exact ww₁ i₁
    · rw [List.getD_eq_getElem?_getD, List.getElem?_eq_none (by omega)]; decide
  refine r_isBetter hM₁ s1₁ hb1₁ (by omega) lb₁ ww1₁ wb₁ (fun q₁ => ⟨fun _ I6₁ g6₁ => ?_, fun y₁ => absurd y₁ (by decide)⟩) (fun q₁ => ⟨fun y₁ => absurd y₁ (by decide), fun _ => h2₁ q₁ J₁ hb1₁ (frLy_w f1₁)⟩)
  generalize hW₁ : w₁ ++ [o₁] = W₁ at *
  have f6₁ : ∀ b₁, b₁ ≠ m₁ → I6₁ b₁ = J₁ b₁ := fun b₁ q₁ => by rw [g6₁, mup_ne q₁]
  have e6₁ : I6₁ m₁ 36 = nI W₁.length := by rw [g6₁, mup_k (by decide)]; exact s1₁.1
  have e7₁ : I6₁ m₁ 37 = nI W₁.length := by rw [g6₁, mup_at]; exact s1₁.1
  delta w_X12_tryWay_95
  refine ⟨fun n1₁ y0₁ y1₁ I1₁ => y0₁ = m₁ ∧ ∃ j₁, y1₁ = nI j₁ ∧ j₁ ≤ W₁.length ∧ n1₁ = W₁.length - j₁ ∧ (∀ b₁, b₁ ≠ m₁ + 17 → I1₁ b₁ = I6₁ b₁) ∧ ∀ i₁, i₁ < j₁ → I1₁ (m₁ + 17) i₁ = nI (W₁.getD i₁ 0), ⟨W₁.length, rfl, 0, rfl, Nat.zero_le _, rfl, fun _ _ => rfl, fun i₁ hi₁ => absurd hi₁ (Nat.not_lt_zero i₁)⟩, ?_⟩
  rintro n1₁ y0₁ y1₁ I1₁ ⟨rfl, j₁, rfl, hj₁, rfl, fr₁, hc₁⟩
  rw [fr₁ y0₁ (by omega), e6₁, leN (by omega) (by omega)]
  refine ⟨hM₁.k, fun z₁ => ?_, fun z₁ => ⟨_, hM₁.r34, _, hM₁.r33, hM₁.k16, by rw [hM₁.n16]; exact (vp_nI (by omega)).mpr (by omega), hM₁.k17, by rw [hM₁.n17]; exact (vp_nI (by omega)).mpr (by omega), fun I14₁ g14₁ v15₁ g15₁ => ⟨W₁.length - (j₁ + 1), by omega, rfl, j₁ + 1, by rw [g15₁, nI_1], by omega, rfl, fun b₁ q1₁ => ?_, fun i₁ hi₁ => ?_⟩⟩⟩
  · refine h1₁ q₁ I1₁ ⟨by rw [fr₁ _ (by omega)]; exact e7₁, fun i₁ hi₁ => hc₁ i₁ (by omega)⟩ ⟨fun b₁ q1₁ q2₁ q3₁ => by rw [fr₁ b₁ q3₁, f6₁ b₁ q1₁, f1₁.1 b₁ q1₁ q2₁], fun y₁ q1₁ q2₁ => by rw [fr₁ _ (by omega), g6₁, mup_k q2₁, f1₁.2 y₁ q1₁]⟩
  · rw [g14₁, mup_ne q1₁]; exact fr₁ b₁ q1₁
  · rw [ix_nI (by omega), fr₁ (y0₁ + 16) (by omega), f6₁ _ (by omega), s1₁.2 j₁ (by omega)] at g14₁
    rw [g14₁]
    by_cases q₁ : i₁ = j₁
    · rw [q₁, mup_at]
    · rw [mup_k q₁]; exact hc₁ i₁ (by omega)
end PR₁
