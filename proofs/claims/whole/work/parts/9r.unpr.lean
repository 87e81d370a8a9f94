/-! ===== unpacked: the class's call; the reference ===== -/
section UN₁
variable {K₁ N₁ : MK} {I₁ : MI} {L₁ : ML} {R₁ : MR} {x₁ n₁ : Nat} {B₁ : Nat → Nat}
theorem s_unpacked {Q₁ : Int32 → MI → ML → Prop} (hX₁ : PDL K₁ N₁ R₁ x₁) (hn₁ : I₁ (x₁ + 1) 1 = nI n₁) (h940 : n₁ ≤ 940) (hB₁ : TAP₁ I₁ (x₁ + 2) B₁ n₁) (hb₁ : ∀ i₁, B₁ i₁ < 256) (hw₁ : I₁ (x₁ + 70) 0 = nI 2) (hw2₁ : I₁ (x₁ + 67) 0 = nI 2)
    (hbad : ∀ pl₁, upS₁ B₁ n₁ (n₁ + 1) 0 0 1 [] = .inl pl₁ → ∀ J₁ M₁, J₁ (x₁ + 70) 0 = nI 2 → J₁ (x₁ + 67) = I₁ (x₁ + 67) → J₁ (x₁ + 69) = I₁ (x₁ + 69) → J₁ (x₁ + 1) 1 = 0 → frUq x₁ J₁ I₁ M₁ L₁ → Q₁ ((-1 : Int32) - nI pl₁) J₁ M₁)
    (hok₁ : ∀ rs₁, upS₁ B₁ n₁ (n₁ + 1) 0 0 1 [] = .inr rs₁ → ∀ J₁ M₁, RWT₁ J₁ (x₁ + 67) rs₁ → J₁ (x₁ + 70) 0 = nI 2 → J₁ (x₁ + 1) 1 = 0 → frUq x₁ J₁ I₁ M₁ L₁ → Q₁ (nI rs₁.length) J₁ M₁) : w_X11_unpacked x₁ K₁ N₁ I₁ L₁ R₁ Q₁ := by
  delta w_X11_unpacked
  refine ⟨hX₁.k, _, hX₁.r_packer, _, hX₁.r_tokens, hX₁.pak, s_unpack hX₁ hn₁ h940 hB₁ hb₁ hw₁ hw2₁ (fun pl₁ e₁ hpl₁ J₁ M₁ j1₁ fr₁ => ⟨hX₁.tok, fun I9₁ g9₁ => ⟨fun _ => ?_, fun z₁ => absurd z₁ (m1_ne (by omega))⟩⟩) (fun rs₁ e₁ J₁ M₁ rw1₁ j1₁ f1₁ f2₁ => ⟨hX₁.tok, fun I9₁ g9₁ => ⟨fun z₁ => absurd rfl z₁, fun _ => ⟨_, hX₁.pak_r1, hX₁.pak_t1.1, ?_⟩⟩⟩)⟩
  · have f9₁ : ∀ b₁, b₁ ≠ x₁ + 1 → I9₁ b₁ = J₁ b₁ := fun b₁ q₁ => by rw [g9₁, mup_ne q₁]
    refine hbad pl₁ e₁ I9₁ M₁ (by rw [f9₁ _ (by omega)]; exact j1₁) (by rw [f9₁ _ (by omega), fr₁.1 _ (by omega) (by omega) (by omega)]) (by rw [f9₁ _ (by omega), fr₁.1 _ (by omega) (by omega) (by omega)]) (by rw [g9₁, mup_at]) ⟨fun b₁ q1₁ q2₁ => by rw [f9₁ b₁ q1₁, fr₁.1 b₁ (by omega) (by omega) (by omega)], fun y₁ hy₁ => by rw [g9₁, mup_k hy₁, fr₁.1 _ (by omega) (by omega) (by omega)], fun b₁ q1₁ q2₁ => fr₁.2 b₁ q2₁⟩
  · have f9₁ : ∀ b₁, b₁ ≠ x₁ + 1 → I9₁ b₁ = J₁ b₁ := fun b₁ q₁ => by rw [g9₁, mup_ne q₁]
    have r9₁ : RWT₁ I9₁ (x₁ + 67) rs₁ := RWT_fr rw1₁ (f9₁ _ (by omega)) (f9₁ _ (by omega))
    rw [r9₁.1.2.1]
    refine hok₁ rs₁ e₁ I9₁ M₁ r9₁ (by rw [f9₁ _ (by omega)]; exact j1₁) (by rw [g9₁, mup_at]) ⟨fun b₁ q1₁ q2₁ => by rw [f9₁ b₁ q1₁, f1₁ b₁ q2₁], fun y₁ hy₁ => by rw [g9₁, mup_k hy₁, f1₁ _ (by omega)], f2₁⟩
end UN₁
section RG₁
variable {K₁ N₁ : MK} {I₁ : MI} {L₁ : ML} {R₁ : MR} {m₁ n₁ : Nat} {B₁ : Nat → Nat}
/-- the reference's rows: two arrays -/
def RWR₁ (I₁ : MI) (a₁ b₁ : Nat) (rs₁ : List (Nat × Int32)) : Prop := rs₁.length ≤ 30 ∧ ∀ i₁, i₁ < rs₁.length → I₁ a₁ i₁ = nI (rs₁.getD i₁ (0, 0)).1 ∧ I₁ b₁ i₁ = (rs₁.getD i₁ (0, 0)).2
def USR₁ (I₁ : MI) (m₁ a₁ : Nat) (l₁ : Int32) (rs₁ : List (Nat × Int32)) : Prop := RWR₁ I₁ (m₁ + 18) (m₁ + 19) rs₁ ∧ I₁ m₁ 42 = nI rs₁.length ∧ I₁ m₁ 44 = nI a₁ ∧ I₁ m₁ 45 = l₁
def frVr (m₁ : Nat) (J₁ I₁ : MI) : Prop := (∀ b₁, b₁ ≠ m₁ → b₁ ≠ m₁ + 18 → b₁ ≠ m₁ + 19 → J₁ b₁ = I₁ b₁) ∧ ∀ y₁, y₁ ≠ 42 → y₁ ≠ 44 → y₁ ≠ 45 → J₁ m₁ y₁ = I₁ m₁ y₁
theorem frVr_r : frVr m₁ I₁ I₁ := ⟨fun _ _ _ _ => rfl, fun _ _ _ _ => rfl⟩
theorem frVr_t {J₁ J'₁ : MI} (h₁ : frVr m₁ J'₁ J₁) (h2₁ : frVr m₁ J₁ I₁) : frVr m₁ J'₁ I₁ := ⟨fun b₁ h3₁ h4₁ h5₁ => by rw [h₁.1 b₁ h3₁ h4₁ h5₁, h2₁.1 b₁ h3₁ h4₁ h5₁], fun b₁ h3₁ h4₁ h5₁ => by rw [h₁.2 b₁ h3₁ h4₁ h5₁, h2₁.2 b₁ h3₁ h4₁ h5₁]⟩
theorem r_addRow {a₁ : Nat} {l₁ : Int32} {rs₁ : List (Nat × Int32)} {Q₁ : Bool → MI → Prop} (hM₁ : MDL K₁ N₁ R₁ m₁) (hS₁ : USR₁ I₁ m₁ a₁ l₁ rs₁) (ha₁ : a₁ < 100000) (hrs₁ : ∀ i₁, i₁ < rs₁.length → (rs₁.getD i₁ (0, 0)).1 < 256)
    (hno₁ : okR₁ rs₁ a₁ l₁ = false → Q₁ false I₁)
    (h₁ : okR₁ rs₁ a₁ l₁ = true → ∀ J₁, USR₁ J₁ m₁ a₁ l₁ (rs₁ ++ [(a₁, l₁)]) → frVr m₁ J₁ I₁ → Q₁ true J₁) : w_X12_addRow m₁ K₁ N₁ I₁ L₁ R₁ Q₁ := by
  obtain ⟨⟨hl₁, hr₁⟩, e42₁, e44₁, e45₁⟩ := hS₁
  have go₁ : (rs₁.length = 0 ∨ (rs₁.getD (rs₁.length - 1) (0, 0)).1 < a₁) → rs₁.length < 30 → w_X12_addRow_34 m₁ K₁ N₁ I₁ L₁ R₁ Q₁ := fun hor₁ hln₁ => by
    have ok₁ : okR₁ rs₁ a₁ l₁ = isInB l₁ 1 250 := by
      rw [okR₁, decide_eq_true hln₁, Bool.true_and]
      rcases hor₁ with q₁ | q₁
      · rw [decide_eq_true q₁, Bool.true_or, Bool.true_and]
      · rw [decide_eq_true q₁, Bool.or_true, Bool.true_and]
    rw [ok₁] at hno₁ h₁
    delta w_X12_addRow_34
    refine ⟨hM₁.k, r_isIn ?_⟩
    rw [e45₁]
    refine ⟨fun e₁ => ?_, hno₁⟩
    rw [e42₁]
    refine ⟨_, hM₁.r38, hM₁.k18, by rw [hM₁.n18]; exact (vp_nI (by omega)).mpr hln₁, fun I7₁ g7₁ => ?_⟩
    have e427 : I7₁ m₁ 42 = nI rs₁.length := by rw [g7₁, mup_ne (by omega)]; exact e42₁
    rw [e427]
    refine ⟨_, hM₁.r39, hM₁.k19, by rw [hM₁.n19]; exact (vp_nI (by omega)).mpr hln₁, fun I11₁ g11₁ I12₁ g12₁ => ?_⟩
    rw [ix_nI (by omega)] at g7₁ g11₁
    refine h₁ e₁ I12₁ ⟨⟨?_, fun i₁ hi₁ => ?_⟩, ?_, ?_, ?_⟩ ⟨fun b₁ q1₁ q2₁ q3₁ => ?_, fun y₁ q1₁ q2₁ q3₁ => ?_⟩
    · rw [List.length_append, List.length_singleton]; exact hln₁
    · rw [List.length_append, List.length_singleton] at hi₁
      rw [getD_sn _ _ _ _ hi₁, g12₁, mup_ne (by omega), mup_ne (by omega), g11₁, mup_ne (by omega)]
      by_cases q₁ : i₁ = rs₁.length
      · rw [if_pos q₁, q₁, mup_at, g7₁, mup_at, e44₁, mup_ne (by omega), e45₁]
        exact ⟨rfl, rfl⟩
      · rw [if_neg q₁, mup_k q₁, g7₁, mup_k q₁, mup_ne (by omega)]
        exact hr₁ i₁ (by omega)
    · rw [g12₁, mup_at, g11₁, mup_ne (by omega), e427, nI_1, List.length_append]; rfl
    · rw [g12₁, mup_k (by decide), g11₁, mup_ne (by omega), g7₁, mup_ne (by omega)]; exact e44₁
    · rw [g12₁, mup_k (by decide), g11₁, mup_ne (by omega), g7₁, mup_ne (by omega)]; exact e45₁
    · rw [g12₁, mup_ne q1₁, g11₁, mup_ne q3₁, g7₁, mup_ne q2₁]
    · rw [g12₁, mup_k q1₁, g11₁, mup_ne (by omega), g7₁, mup_ne (by omega)]
  delta w_X12_addRow
  rw [e42₁, show (30 : Int32) = nI 30 from rfl, eqN (by omega) (by omega), show (0 : Int32) = nI 0 from rfl, leN (by omega) (by omega)]
  refine ⟨hM₁.k, fun z₁ => hno₁ (by rw [okR₁, decide_eq_false (by omega), Bool.false_and, Bool.false_and]), fun z₁ => ⟨fun z2₁ => go₁ (Or.inl (by omega)) (by omega), fun z2₁ => ?_⟩⟩
  obtain ⟨j₁, hj₁⟩ : ∃ j₁, rs₁.length = j₁ + 1 := ⟨rs₁.length - 1, by omega⟩
  have r2₁ := hrs₁ j₁ (by omega)
  rw [hj₁, nI_pred, ix_nI (by omega), e44₁]
  refine ⟨_, hM₁.r38, hM₁.k18, by rw [hM₁.n18]; exact (vp_nI (by omega)).mpr (by omega), ?_⟩
  rw [(hr₁ j₁ (by omega)).1, leN (by omega) (by omega)]
  refine ⟨fun y₁ => hno₁ ?_, fun y₁ => go₁ (Or.inr ?_) (by omega)⟩
  · rw [okR₁, hj₁, show j₁ + 1 - 1 = j₁ by omega, decide_eq_false (show ¬ j₁ + 1 = 0 by omega), decide_eq_false (show ¬ (rs₁.getD j₁ (0, 0)).1 < a₁ by omega), Bool.or_false, Bool.and_false, Bool.false_and]
  · rw [hj₁, show j₁ + 1 - 1 = j₁ by omega]; omega
theorem r_goesOn {a₁ k₁ : Nat} {l₁ : Int32} {rs₁ : List (Nat × Int32)} {Q₁ : Bool → MI → Prop} (hM₁ : MDL K₁ N₁ R₁ m₁) (hS₁ : USR₁ I₁ m₁ a₁ l₁ rs₁) (ha₁ : a₁ < 100000) (hk₁ : k₁ < 100000)
    (hno₁ : ¬ a₁ + k₁ < 256 → ∀ J₁, frVr m₁ J₁ I₁ → Q₁ false J₁)
    (h₁ : a₁ + k₁ < 256 → ∀ J₁, USR₁ J₁ m₁ (a₁ + k₁) l₁ rs₁ → frVr m₁ J₁ I₁ → Q₁ true J₁) : w_X12_goesOn m₁ (nI k₁) K₁ N₁ I₁ L₁ R₁ Q₁ := by
  obtain ⟨⟨hl₁, hr₁⟩, e42₁, e44₁, e45₁⟩ := hS₁
  delta w_X12_goesOn
  refine ⟨hM₁.k, fun I2₁ g2₁ => ?_⟩
  have f2₁ : frVr m₁ I2₁ I₁ := ⟨fun b₁ q1₁ _ _ => by rw [g2₁, mup_ne q1₁], fun y₁ _ q2₁ _ => by rw [g2₁, mup_k q2₁]⟩
  have e2₁ : I2₁ m₁ 44 = nI (a₁ + k₁) := by rw [g2₁, mup_at, e44₁, addN]
  rw [e2₁, show (256 : Int32) = nI 256 from rfl, leN (by omega) (by omega)]
  refine ⟨fun z₁ => hno₁ (by omega) I2₁ f2₁, fun z₁ => h₁ (by omega) I2₁ ⟨⟨hl₁, ?_⟩, ?_, e2₁, ?_⟩ f2₁⟩
  · rw [g2₁, mup_ne (by omega), mup_ne (by omega)]; exact hr₁
  · rw [g2₁, mup_k (by decide)]; exact e42₁
  · rw [g2₁, mup_k (by decide)]; exact e45₁
theorem r_unpackOp {p₁ a₁ : Nat} {l₁ : Int32} {rs₁ : List (Nat × Int32)} {Q₁ : Int32 → MI → Prop} (hM₁ : MDL K₁ N₁ R₁ m₁) (h940 : n₁ ≤ 940) (hB₁ : TAP₁ I₁ (m₁ + 1) B₁ n₁) (hb₁ : ∀ i₁, B₁ i₁ < 256)
    (hS₁ : USR₁ I₁ m₁ a₁ l₁ rs₁) (ha₁ : a₁ < 256) (hrs₁ : ∀ i₁, i₁ < rs₁.length → (rs₁.getD i₁ (0, 0)).1 < 256) (hp₁ : p₁ < n₁) (h0₁ : B₁ p₁ ≠ 0)
    (hno₁ : upO₁ B₁ n₁ p₁ a₁ l₁ rs₁ = none → ∀ J₁, frVr m₁ J₁ I₁ → Q₁ 0 J₁)
    (h₁ : ∀ k₁ a'₁ l'₁ rs'₁, upO₁ B₁ n₁ p₁ a₁ l₁ rs₁ = some (k₁, a'₁, l'₁, rs'₁) → 1 ≤ k₁ → k₁ ≤ 3 → p₁ + k₁ ≤ n₁ → a'₁ < 256 → (∀ i₁, i₁ < rs'₁.length → (rs'₁.getD i₁ (0, 0)).1 < 256) → ∀ J₁, USR₁ J₁ m₁ a'₁ l'₁ rs'₁ → frVr m₁ J₁ I₁ → Q₁ (nI k₁) J₁) : w_X12_unpackOp m₁ (nI p₁) (nI n₁) K₁ N₁ I₁ L₁ R₁ Q₁ := by
  have hbp₁ := hb₁ p₁
  have ap₁ : ∀ (a'₁ : Nat) (l'₁ : Int32), a'₁ < 256 → ∀ i₁, i₁ < (rs₁ ++ [(a'₁, l'₁)]).length → ((rs₁ ++ [(a'₁, l'₁)]).getD i₁ (0, 0)).1 < 256 := fun a'₁ l'₁ q₁ i₁ hi₁ => by
    rw [List.length_append, List.length_singleton] at hi₁
    rw [getD_sn _ _ _ _ hi₁]
    split
    · exact q₁
    · exact hrs₁ i₁ (by omega)
  delta w_X12_unpackOp
  refine ⟨hM₁.k, _, hM₁.r1, hM₁.k1, by rw [hM₁.n1]; exact (vp_nI (by omega)).mpr (by omega), fun v5₁ g5₁ => ?_⟩
  rw [ix_nI (by omega), hB₁ p₁ hp₁] at g5₁
  subst g5₁
  rw [show (1 : Int32) = nI 1 from rfl, eqN (by omega) (by omega), show (2 : Int32) = nI 2 from rfl, eqN (by omega) (by omega), show (3 : Int32) = nI 3 from rfl, eqN (by omega) (by omega), show (4 : Int32) = nI 4 from rfl, eqN (by omega) (by omega), show (10 : Int32) = nI 10 from rfl, ltN (by omega) (by omega), addN, leN (by omega) (by omega), addN, ltN (by omega) (by omega)]
  refine ⟨fun b1₁ => ?_, fun b1₁ => ⟨fun b2₁ => ⟨fun z₁ => hno₁ (by rw [upO₁, if_neg b1₁, if_pos b2₁, if_neg (by omega)]) I₁ frVr_r, fun z₁ => ⟨by rw [hM₁.n1]; exact (vp_nI (by omega)).mpr (by omega), ?_⟩⟩, fun b2₁ => ⟨fun b3₁ => ⟨fun z₁ => ⟨by rw [hM₁.n1]; exact (vp_nI (by omega)).mpr (by omega), by rw [hM₁.n1]; exact (vp_nI (by omega)).mpr (by omega), fun v13₁ g13₁ => ?_⟩, fun z₁ => hno₁ (by rw [upO₁, if_neg b1₁, if_neg b2₁, if_pos b3₁, if_neg z₁]) I₁ frVr_r⟩, fun b3₁ => ⟨fun b4₁ => ?_, fun b4₁ => ⟨fun z₁ => hno₁ (by rw [upO₁, if_neg b1₁, if_neg b2₁, if_neg b3₁, if_neg b4₁, if_pos z₁]) I₁ frVr_r, fun z₁ => ?_⟩⟩⟩⟩⟩
  · have up₁ : upO₁ B₁ n₁ p₁ a₁ l₁ rs₁ = if okR₁ rs₁ a₁ l₁ = true then some (1, a₁, l₁, rs₁ ++ [(a₁, l₁)]) else none := by rw [upO₁, if_pos b1₁]
    exact r_addRow hM₁ hS₁ (by omega) hrs₁ (fun z₁ => ⟨fun _ => hno₁ (by rw [up₁, if_neg (by rw [z₁]; decide)]) I₁ frVr_r, fun y₁ => absurd y₁ (by decide)⟩) (fun z₁ J₁ s₁ fr₁ => ⟨fun y₁ => absurd y₁ (by decide), fun _ => h₁ 1 _ _ _ (by rw [up₁, if_pos z₁]) (by decide) (by decide) (by omega) ha₁ (ap₁ _ _ ha₁) J₁ s₁ fr₁⟩)
  · have q1₁ := hb₁ (p₁ + 1)
    have up₁ : upO₁ B₁ n₁ p₁ a₁ l₁ rs₁ = if p₁ + 1 < n₁ ∧ a₁ + B₁ (p₁ + 1) < 256 then some (2, a₁ + B₁ (p₁ + 1), l₁, rs₁) else none := by rw [upO₁, if_neg b1₁, if_pos b2₁]
    rw [ix_nI (by omega), hB₁ (p₁ + 1) (by omega)]
    exact r_goesOn hM₁ hS₁ (by omega) (by omega) (fun y₁ J₁ fr₁ => ⟨fun _ => hno₁ (by rw [up₁, if_neg (fun w₁ => y₁ w₁.2)]) J₁ fr₁, fun w₁ => absurd w₁ (by decide)⟩) (fun y₁ J₁ s₁ fr₁ => ⟨fun w₁ => absurd w₁ (by decide), fun _ => h₁ 2 _ _ _ (by rw [up₁, if_pos ⟨by omega, y₁⟩]) (by decide) (by decide) (by omega) y₁ hrs₁ J₁ s₁ fr₁⟩)
  · have q1₁ := hb₁ (p₁ + 1)
    have q2₁ := hb₁ (p₁ + 2)
    obtain ⟨⟨hl₁, hr₁⟩, e42₁, e44₁, e45₁⟩ := hS₁
    rw [ix_nI (by omega), hB₁ (p₁ + 1) (by omega), ix_nI (by omega), hB₁ (p₁ + 2) (by omega), show (256 : Int32) = nI 256 from rfl, mulN, addN, Nat.mul_comm] at g13₁
    have up₁ : upO₁ B₁ n₁ p₁ a₁ l₁ rs₁ = some (3, a₁, l₁ + sgS₁ (B₁ (p₁ + 1)) (B₁ (p₁ + 2)), rs₁) := by rw [upO₁, if_neg b1₁, if_neg b2₁, if_pos b3₁, if_pos z₁]
    have fin₁ : ∀ I15₁ : MI, I15₁ = mup I₁ m₁ 45 (l₁ + sgS₁ (B₁ (p₁ + 1)) (B₁ (p₁ + 2))) → Q₁ (nI 3) I15₁ := fun I15₁ g15₁ =>
      h₁ 3 _ _ _ up₁ (by decide) (by decide) (by omega) ha₁ hrs₁ I15₁ ⟨⟨hl₁, by rw [g15₁, mup_ne (by omega), mup_ne (by omega)]; exact hr₁⟩, by rw [g15₁, mup_k (by decide)]; exact e42₁, by rw [g15₁, mup_k (by decide)]; exact e44₁, by rw [g15₁, mup_at]⟩ ⟨fun b₁ y1₁ _ _ => by rw [g15₁, mup_ne y1₁], fun y₁ _ _ y3₁ => by rw [g15₁, mup_k y3₁]⟩
    rw [g13₁, show (32768 : Int32) = nI 32768 from rfl, leN (by omega) (by omega), e45₁]
    exact ⟨fun z₁ I15₁ g15₁ => fin₁ I15₁ (by rw [g15₁, sgS₁, if_pos z₁]), fun z₁ I15₁ g15₁ => fin₁ I15₁ (by rw [g15₁, sgS₁, if_neg z₁])⟩
  · have up₁ : upO₁ B₁ n₁ p₁ a₁ l₁ rs₁ = if a₁ + 17 < 256 then some (1, a₁ + 17, l₁, rs₁) else none := by rw [upO₁, if_neg b1₁, if_neg b2₁, if_neg b3₁, if_pos b4₁]
    exact r_goesOn (k₁ := 17) hM₁ hS₁ (by omega) (by omega) (fun y₁ J₁ fr₁ => ⟨fun _ => hno₁ (by rw [up₁, if_neg y₁]) J₁ fr₁, fun w₁ => absurd w₁ (by decide)⟩) (fun y₁ J₁ s₁ fr₁ => ⟨fun w₁ => absurd w₁ (by decide), fun _ => h₁ 1 _ _ _ (by rw [up₁, if_pos y₁]) (by decide) (by decide) (by omega) y₁ hrs₁ J₁ s₁ fr₁⟩)
  · have b10₁ : 10 ≤ B₁ p₁ := by omega
    have up₁ : upO₁ B₁ n₁ p₁ a₁ l₁ rs₁ = if a₁ + (B₁ p₁ - 10) / 12 < 256 ∧ okR₁ rs₁ (a₁ + (B₁ p₁ - 10) / 12) (l₁ + (nI ((B₁ p₁ - 10) % 12) - 4)) = true then some (1, a₁ + (B₁ p₁ - 10) / 12, l₁ + (nI ((B₁ p₁ - 10) % 12) - 4), rs₁ ++ [(a₁ + (B₁ p₁ - 10) / 12, l₁ + (nI ((B₁ p₁ - 10) % 12) - 4))]) else none := by
      rw [upO₁, if_neg b1₁, if_neg b2₁, if_neg b3₁, if_neg b4₁, if_neg (by omega)]
    rw [subN b10₁, show (12 : Int32) = nI 12 from rfl, pk_rem (by omega) (by decide) (by decide), pk_div (by omega) (by decide) (by decide)]
    refine r_goesOn hM₁ hS₁ (by omega) (by omega) (fun y₁ J₁ fr₁ => ⟨fun w₁ => absurd w₁ (by decide), fun _ => hno₁ (by rw [up₁, if_neg (fun w₁ => y₁ w₁.1)]) J₁ fr₁⟩) (fun y₁ J₁ s₁ fr₁ => ⟨fun _ I20₁ g20₁ => ?_, fun w₁ => absurd w₁ (by decide)⟩)
    obtain ⟨⟨hl₁, hr₁⟩, e42₁, e44₁, e45₁⟩ := s₁
    rw [e45₁] at g20₁
    have f20₁ : frVr m₁ I20₁ J₁ := ⟨fun b₁ y1₁ _ _ => by rw [g20₁, mup_ne y1₁], fun y₁ _ _ y3₁ => by rw [g20₁, mup_k y3₁]⟩
    have s20₁ : USR₁ I20₁ m₁ (a₁ + (B₁ p₁ - 10) / 12) (l₁ + (nI ((B₁ p₁ - 10) % 12) - 4)) rs₁ := ⟨⟨hl₁, by rw [g20₁, mup_ne (by omega), mup_ne (by omega)]; exact hr₁⟩, by rw [g20₁, mup_k (by decide)]; exact e42₁, by rw [g20₁, mup_k (by decide)]; exact e44₁, by rw [g20₁, mup_at]; rfl⟩
    exact r_addRow hM₁ s20₁ (by omega) hrs₁ (fun z₁ => ⟨fun _ => hno₁ (by rw [up₁, if_neg (fun w₁ => by rw [w₁.2] at z₁; cases z₁)]) I20₁ (frVr_t f20₁ fr₁), fun w₁ => absurd w₁ (by decide)⟩) (fun z₁ J'₁ s'₁ fr'₁ => ⟨fun w₁ => absurd w₁ (by decide), fun _ => h₁ 1 _ _ _ (by rw [up₁, if_pos ⟨y₁, z₁⟩]) (by decide) (by decide) (by omega) y₁ (ap₁ _ _ y₁) J'₁ s'₁ (frVr_t fr'₁ (frVr_t f20₁ fr₁))⟩)
end RG₁
