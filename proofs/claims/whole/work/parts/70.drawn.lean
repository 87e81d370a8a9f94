/-! ===== drawn: both sides ===== -/
theorem s_isIn {K₁ N₁ : MK} {I₁ : MI} {L₁ : ML} {R₁ : MR} {a₁ lo₁ hi₁ : Int32} {Q₁ : Bool → Prop} (h₁ : Q₁ (isInB a₁ lo₁ hi₁)) : w_X11_isIn a₁ lo₁ hi₁ K₁ N₁ I₁ L₁ R₁ Q₁ := by
  refine ⟨fun e₁ => ?_, fun e₁ => ⟨fun e2₁ => ?_, fun e2₁ => ?_⟩⟩
  · rwa [show isInB a₁ lo₁ hi₁ = false by simp [isInB, e₁]] at h₁
  · rwa [show isInB a₁ lo₁ hi₁ = false by simp [isInB, e2₁]] at h₁
  · rwa [show isInB a₁ lo₁ hi₁ = true by simp [isInB, e₁, e2₁]] at h₁
theorem isIn_1 {a₁ : Int32} {n₁ : Nat} (hn₁ : n₁ < 2147483648) (h₁ : isInB a₁ 1 (nI n₁) = true) : ∃ k₁, 1 ≤ k₁ ∧ k₁ ≤ n₁ ∧ a₁ = nI k₁ := by
  rw [isInB_iff] at h₁
  obtain ⟨h1₁, h2₁⟩ := h₁
  have h0₁ : ¬ a₁ < 0 := fun z₁ => by
    rw [Int32.lt_iff_toInt_lt] at z₁
    rw [Int32.le_iff_toInt_le] at h1₁
    have e0₁ : (0 : Int32).toInt = 0 := by decide
    have e1₁ : (1 : Int32).toInt = 1 := by decide
    omega
  obtain ⟨k₁, hk₁, rfl⟩ := nI_of h0₁
  rw [show (1 : Int32) = nI 1 from rfl, leN (by omega) hk₁] at h1₁
  rw [leN hk₁ hn₁] at h2₁
  exact ⟨k₁, h1₁, h2₁, rfl⟩
section UN₁
variable {U₁ V₁ V'₁ : Nat → Int32}
theorem ovr_cg (h₁ : ∀ j₁, j₁ < 83 → V'₁ j₁ = V₁ j₁) : ovr₁ U₁ V'₁ = ovr₁ U₁ V₁ := by
  funext k₁
  simp only [ovr₁]
  split
  · exact h₁ _ (by omega)
  · rfl
theorem ovr_id (h₁ : ∀ j₁, j₁ < 83 → V₁ j₁ = macV U₁ j₁) : ovr₁ U₁ V₁ = U₁ := (ovr_cg h₁).trans ovr_mac
theorem SH_cg {n₁ : Nat} {S₁ S'₁ : Nat → Int32} (h₁ : SH₁ n₁ S₁ V₁ S'₁) (e₁ : ∀ j₁, j₁ < 83 → V'₁ j₁ = V₁ j₁) : SH₁ n₁ S₁ V'₁ S'₁ :=
  ⟨fun q₁ => ⟨(h₁.1 q₁).1, fun j₁ hj₁ => by rw [e₁ j₁ hj₁]; exact (h₁.1 q₁).2 j₁ hj₁⟩, fun q₁ => ⟨(h₁.2 q₁).1, fun j₁ hj₁ => by rw [e₁ j₁ hj₁]; exact (h₁.2 q₁).2 j₁ hj₁⟩⟩
end UN₁
section RG₁
variable {K₁ N₁ : MK} {I₁ : MI} {L₁ : ML} {R₁ : MR} {m₁ : Nat} {V₁ : Nat → Int32}
theorem r_stayYes {n₁ : Nat} {Q₁ : MI → Prop} (hM₁ : MDL K₁ N₁ R₁ m₁) (e₁ : I₁ m₁ 24 = nI n₁) (hn₁ : n₁ ≤ 8) (hV₁ : ∀ j₁, j₁ < 83 → I₁ (m₁ + 7) j₁ = V₁ j₁)
    (h₁ : ∀ J₁, J₁ (m₁ + 2) = I₁ (m₁ + 2) → J₁ m₁ 24 = nI (shN₁ n₁) → SH₁ n₁ (I₁ (m₁ + 5)) V₁ (J₁ (m₁ + 5)) → (∀ y₁, y₁ ≠ 24 → J₁ m₁ y₁ = I₁ m₁ y₁) → (∀ z₁, z₁ ≠ m₁ → z₁ ≠ m₁ + 2 → z₁ ≠ m₁ + 5 → z₁ ≠ m₁ + 6 → J₁ z₁ = I₁ z₁) → Q₁ J₁) : w_X12_stay m₁ true K₁ N₁ I₁ L₁ R₁ Q₁ := by
  delta w_X12_stay
  refine ⟨hM₁.k, _, hM₁.r18, r_save (f₁ := 0) hM₁ (by omega) hM₁.k6 hM₁.n6 (by decide) (by decide) (fun I3₁ p1₁ _ p3₁ => ⟨_, hM₁.r19, r_comeBack (f₁ := 0) hM₁ (by omega) hM₁.k7 hM₁.n7 (by decide) (by decide) (fun I5₁ q1₁ q2₁ => ⟨fun _ => ?_, fun z₁ => absurd z₁ (by decide)⟩)⟩)⟩
  have b5₁ : ∀ z₁, z₁ ≠ m₁ + 2 → z₁ ≠ m₁ + 6 → I5₁ z₁ = I₁ z₁ := fun z₁ h1₁ h2₁ => by rw [q2₁ z₁ h1₁, p3₁ z₁ h2₁]
  have m5₁ : ∀ j₁, j₁ < 83 → V₁ j₁ = macV (I5₁ (m₁ + 2)) j₁ := fun j₁ hj₁ => by
    rw [q1₁, mac_ovr hj₁, p3₁ _ (by omega), Nat.zero_add, hV₁ j₁ hj₁]
  refine r_snap hM₁ (by rw [b5₁ m₁ (by omega) (by omega)]; exact e₁) hn₁ (fun I6₁ e6₁ s6₁ f6₁ b6₁ => r_comeBack (f₁ := 0) hM₁ (by omega) hM₁.k6 hM₁.n6 (by decide) (by decide) (fun I7₁ g1₁ g2₁ => ?_))
  refine h₁ I7₁ ?_ (by rw [g2₁ m₁ (by omega)]; exact e6₁) ?_ (fun y₁ hy₁ => by rw [g2₁ m₁ (by omega), f6₁ y₁ hy₁, b5₁ m₁ (by omega) (by omega)]) (fun z₁ h1₁ h2₁ h3₁ h4₁ => by rw [g2₁ z₁ h2₁, b6₁ z₁ h1₁ h3₁, b5₁ z₁ h2₁ h4₁])
  · rw [g1₁, b6₁ _ (by omega) (by omega), q1₁, ovr_ovr, p3₁ _ (by omega)]
    refine ovr_id (fun j₁ hj₁ => ?_)
    rw [b6₁ _ (by omega) (by omega), q2₁ _ (by omega), p1₁ j₁ hj₁]
  · rw [g2₁ _ (by omega)]
    have s6₁ := SH_cg s6₁ m5₁
    rw [b5₁ _ (by omega) (by omega)] at s6₁
    exact s6₁
theorem r_stayNo {Q₁ : MI → Prop} (hM₁ : MDL K₁ N₁ R₁ m₁) (hV₁ : ∀ j₁, j₁ < 83 → I₁ (m₁ + 7) j₁ = V₁ j₁)
    (h₁ : ∀ J₁, J₁ (m₁ + 2) = ovr₁ (I₁ (m₁ + 2)) V₁ → (∀ z₁, z₁ ≠ m₁ + 2 → z₁ ≠ m₁ + 6 → J₁ z₁ = I₁ z₁) → Q₁ J₁) : w_X12_stay m₁ false K₁ N₁ I₁ L₁ R₁ Q₁ := by
  delta w_X12_stay
  refine ⟨hM₁.k, _, hM₁.r18, r_save (f₁ := 0) hM₁ (by omega) hM₁.k6 hM₁.n6 (by decide) (by decide) (fun I3₁ p1₁ _ p3₁ => ⟨_, hM₁.r19, r_comeBack (f₁ := 0) hM₁ (by omega) hM₁.k7 hM₁.n7 (by decide) (by decide) (fun I5₁ q1₁ q2₁ => ⟨fun z₁ => absurd z₁ (by decide), fun _ => ?_⟩)⟩)⟩
  refine h₁ I5₁ ?_ (fun z₁ h1₁ h2₁ => by rw [q2₁ z₁ h1₁, p3₁ z₁ h2₁])
  rw [q1₁, p3₁ _ (by omega)]
  exact ovr_cg (fun j₁ hj₁ => by rw [p3₁ _ (by omega), Nat.zero_add, hV₁ j₁ hj₁])
theorem r_drawn {k₁ s₁ : Int32} {o₁ : Nat} {Q₁ : Int32 → MI → Prop} (hM₁ : MDL K₁ N₁ R₁ m₁) (hU₁ : WFc (I₁ (m₁ + 2))) (hr₁ : WFr (I₁ (m₁ + 2))) (hv₁ : WFv₁ (I₁ (m₁ + 2)) (macV (I₁ (m₁ + 2)))) (e₁ : I₁ m₁ 24 = nI o₁) (ho₁ : o₁ ≤ 8)
    (hno₁ : isInB k₁ 1 60 = false → Q₁ (-1) (mup I₁ m₁ 0 0))
    (h1₁ : ∀ n₁, k₁ = nI n₁ → n₁ ≤ 60 → (drI₁ (I₁ (m₁ + 2)) (macV (I₁ (m₁ + 2))) s₁ n₁).2.2 = 0 → ∀ J₁, J₁ (m₁ + 2) = I₁ (m₁ + 2) → (∀ y₁, y₁ ≠ 48 → y₁ ≠ 0 → J₁ m₁ y₁ = I₁ m₁ y₁) → (∀ z₁, z₁ ≠ m₁ → z₁ ≠ m₁ + 2 → z₁ ≠ m₁ + 6 → z₁ ≠ m₁ + 7 → J₁ z₁ = I₁ z₁) → Q₁ 0 J₁)
    (h2₁ : ∀ n₁ d₁, k₁ = nI n₁ → n₁ ≤ 60 → (drI₁ (I₁ (m₁ + 2)) (macV (I₁ (m₁ + 2))) s₁ n₁).2.2 = d₁ + 1 → ∀ J₁, J₁ (m₁ + 2) = ovr₁ (I₁ (m₁ + 2)) (drI₁ (I₁ (m₁ + 2)) (macV (I₁ (m₁ + 2))) s₁ n₁).1 → J₁ m₁ 24 = nI (shN₁ o₁) → SH₁ o₁ (I₁ (m₁ + 5)) (macV (I₁ (m₁ + 2))) (J₁ (m₁ + 5)) → (∀ y₁, y₁ ≠ 48 → y₁ ≠ 24 → y₁ ≠ 0 → J₁ m₁ y₁ = I₁ m₁ y₁) → (∀ z₁, z₁ ≠ m₁ → z₁ ≠ m₁ + 2 → z₁ ≠ m₁ + 5 → z₁ ≠ m₁ + 6 → z₁ ≠ m₁ + 7 → J₁ z₁ = I₁ z₁) → Q₁ (nI (d₁ + 1)) J₁) : w_X12_drawn m₁ k₁ s₁ K₁ N₁ I₁ L₁ R₁ Q₁ := by
  delta w_X12_drawn
  refine ⟨hM₁.k, fun I2₁ g2₁ => r_isIn ⟨fun z₁ => ?_, fun z₁ => by rw [← g2₁] at hno₁; exact hno₁ z₁⟩⟩
  obtain ⟨n₁, n1₁, n60₁, rfl⟩ := isIn_1 (n₁ := 60) (by decide) z₁
  have b2₁ : ∀ z₁, z₁ ≠ m₁ → I2₁ z₁ = I₁ z₁ := fun z₁ hz₁ => by rw [g2₁, mup_ne hz₁]
  have y2₁ : ∀ y₁, y₁ ≠ 0 → I2₁ m₁ y₁ = I₁ m₁ y₁ := fun y₁ hy₁ => by rw [g2₁, mup_k hy₁]
  have u2₁ : I2₁ (m₁ + 2) = I₁ (m₁ + 2) := b2₁ _ (by omega)
  refine ⟨_, hM₁.r14, hM₁.k2, by rw [hM₁.n2]; exact vp_c (by decide) (by decide), fun v7₁ g7₁ => ⟨_, hM₁.r19, r_save (f₁ := 0) hM₁ (by omega) hM₁.k7 hM₁.n7 (by decide) (by decide) (fun I9₁ p1₁ _ p3₁ => ?_)⟩⟩
  have u9₁ : I9₁ (m₁ + 2) = I₁ (m₁ + 2) := by rw [p3₁ _ (by omega), u2₁]
  refine r_drawDeeds hM₁ (by rw [u9₁]; exact hU₁) (by rw [u9₁]; exact hr₁) (by rw [u9₁]; exact hv₁) (by omega) (fun I10₁ q1₁ q2₁ q3₁ v11₁ g11₁ => ?_)
  rw [u9₁] at q1₁
  have e7₁ : v7₁ = macV (I₁ (m₁ + 2)) 1 := by rw [g7₁, u2₁]; rfl
  have hle₁ := drI_le (U₁ := I₁ (m₁ + 2)) (V₁ := macV (I₁ (m₁ + 2))) (s₁ := s₁) n₁
  have e11₁ : v11₁ = nI (drI₁ (I₁ (m₁ + 2)) (macV (I₁ (m₁ + 2))) s₁ n₁).2.2 := by
    rw [g11₁, e7₁, q1₁, show ovr₁ (I₁ (m₁ + 2)) (drI₁ (I₁ (m₁ + 2)) (macV (I₁ (m₁ + 2))) s₁ n₁).1 (ix 343) = (drI₁ (I₁ (m₁ + 2)) (macV (I₁ (m₁ + 2))) s₁ n₁).1 1 from rfl, drI_1 hU₁ hr₁ hv₁, Int32.add_comm, Int32.add_sub_cancel]
  have h7₁ : ∀ j₁, j₁ < 83 → I10₁ (m₁ + 7) j₁ = macV (I₁ (m₁ + 2)) j₁ := fun j₁ hj₁ => by
    rw [q3₁ _ (by omega) (by omega)]
    have := p1₁ j₁ hj₁
    rw [Nat.zero_add, u2₁] at this
    exact this
  have b10₁ : ∀ z₁, z₁ ≠ m₁ → z₁ ≠ m₁ + 2 → z₁ ≠ m₁ + 7 → I10₁ z₁ = I₁ z₁ := fun z₁ a1₁ a2₁ a3₁ => by rw [q3₁ z₁ a1₁ a2₁, p3₁ z₁ a3₁, b2₁ z₁ a1₁]
  have y10₁ : ∀ y₁, y₁ ≠ 48 → y₁ ≠ 0 → I10₁ m₁ y₁ = I₁ m₁ y₁ := fun y₁ a1₁ a2₁ => by rw [q2₁ y₁ a1₁, p3₁ m₁ (by omega), y2₁ y₁ a2₁]
  rw [e11₁]
  rcases hd₁ : (drI₁ (I₁ (m₁ + 2)) (macV (I₁ (m₁ + 2))) s₁ n₁).2.2 with - | d₁
  · refine ⟨fun _ => r_stayNo hM₁ h7₁ (fun J₁ t1₁ t2₁ => h1₁ n₁ rfl n60₁ hd₁ J₁ ?_ (fun y₁ a1₁ a2₁ => by rw [t2₁ m₁ (by omega) (by omega), y10₁ y₁ a1₁ a2₁]) (fun z₁ a1₁ a2₁ a3₁ a4₁ => by rw [t2₁ z₁ a2₁ a3₁, b10₁ z₁ a1₁ a2₁ a4₁])), fun z₁ => absurd (by decide) z₁⟩
    rw [t1₁, q1₁, ovr_ovr, ovr_mac]
  · refine ⟨fun z₁ => ?_, fun _ => r_stayYes hM₁ (by rw [y10₁ 24 (by decide) (by decide)]; exact e₁) ho₁ h7₁ (fun J₁ t1₁ t2₁ t3₁ t4₁ t5₁ => h2₁ n₁ d₁ rfl n60₁ hd₁ J₁ (by rw [t1₁, q1₁]) t2₁ (by rw [b10₁ _ (by omega) (by omega) (by omega)] at t3₁; exact t3₁) (fun y₁ a1₁ a2₁ a3₁ => by rw [t4₁ y₁ a2₁, y10₁ y₁ a1₁ a3₁]) (fun z₁ a1₁ a2₁ a3₁ a4₁ a5₁ => by rw [t5₁ z₁ a1₁ a2₁ a3₁ a4₁, b10₁ z₁ a1₁ a2₁ a5₁]))⟩
    rw [show (0 : Int32) = nI 0 from rfl, leN (by omega) (by omega)] at z₁; omega
end RG₁
section UN₁
variable {K₁ N₁ : MK} {I₁ : MI} {L₁ : ML} {R₁ : MR} {x₁ : Nat} {U₁ V₁ S₁ : Nat → Int32} {W₁ : Nat → Int64}
theorem s_drawn {k₁ s₁ : Int32} {o₁ : Nat} {p₁ : Nat → Nat} {Q₁ : Int32 → MI → ML → MR → Prop} (hX₁ : PDL K₁ N₁ R₁ x₁) (hH₁ : HIS₁ R₁ x₁ p₁) (hm₁ : HM₁ K₁ N₁ R₁ x₁) (hD₁ : HD₁ I₁ x₁ p₁ o₁ S₁) (e₁ : I₁ x₁ 5 = nI o₁) (ho₁ : o₁ ≤ 8)
    (hV₁ : MACD I₁ (x₁ + 19) V₁) (hu₁ : UD I₁ L₁ (x₁ + 3) U₁ W₁) (hU₁ : WFc U₁) (hr₁ : WFr U₁) (hs₁ : WFs U₁) (hv₁ : WFv₁ U₁ V₁)
    (hno₁ : isInB k₁ 1 60 = false → Q₁ (-1) I₁ L₁ R₁)
    (h1₁ : ∀ n₁, k₁ = nI n₁ → n₁ ≤ 60 → (drI₁ U₁ V₁ s₁ n₁).2.2 = 0 → ∀ J₁, MACD J₁ (x₁ + 19) V₁ → (∀ b₁, b₁ < x₁ + 19 ∨ x₁ + 27 ≤ b₁ → b₁ ≠ x₁ + 30 → J₁ b₁ = I₁ b₁) → Q₁ 0 J₁ L₁ R₁)
    (h2₁ : ∀ n₁ d₁, k₁ = nI n₁ → n₁ ≤ 60 → (drI₁ U₁ V₁ s₁ n₁).2.2 = d₁ + 1 → ∀ J₁ R'₁ p'₁, (∀ b₁, b₁ ≠ x₁ + 27 → R'₁ b₁ = R₁ b₁) → HIS₁ R'₁ x₁ p'₁ → J₁ x₁ 5 = nI (shN₁ o₁) → (∀ S'₁, SH₁ o₁ S₁ V₁ S'₁ → HD₁ J₁ x₁ p'₁ (shN₁ o₁) S'₁) → MACD J₁ (x₁ + 19) (drI₁ U₁ V₁ s₁ n₁).1 → (∀ y₁, y₁ ≠ 5 → J₁ x₁ y₁ = I₁ x₁ y₁) → (∀ b₁, b₁ ≠ x₁ → b₁ < x₁ + 19 ∨ x₁ + 27 ≤ b₁ → b₁ ≠ x₁ + 30 → b₁ < x₁ + 86 ∨ x₁ + 118 ≤ b₁ → J₁ b₁ = I₁ b₁) → Q₁ (nI (d₁ + 1)) J₁ L₁ R'₁) : w_X11_drawn x₁ k₁ s₁ K₁ N₁ I₁ L₁ R₁ Q₁ := by
  delta w_X11_drawn
  refine s_isIn ⟨fun z₁ => ⟨hX₁.k, _, hX₁.r_trial, _, hX₁.r_machine, hX₁.tri.1, s_copyFrom hX₁.tri hX₁.mac hV₁ (by omega) (fun J1₁ g1₁ b1₁ => ⟨_, hX₁.r_draws, _, hX₁.r_unit, hX₁.dra, ?_⟩)⟩, hno₁⟩
  obtain ⟨n₁, n1₁, n60₁, rfl⟩ := isIn_1 (n₁ := 60) (by decide) z₁
  have c1₁ : ∀ b₁, b₁ < x₁ + 23 ∨ x₁ + 27 ≤ b₁ → J1₁ b₁ = I₁ b₁ := fun b₁ hb₁ => b1₁ b₁ (by omega) (by omega) (by omega) (by omega)
  have hle₁ := drI_le (U₁ := U₁) (V₁ := V₁) (s₁ := s₁) n₁
  refine s_doDeeds hX₁.dra hX₁.mac hX₁.un (by omega) (by omega) (MACD_fr hV₁ (fun b₁ hb₁ => c1₁ b₁ (by omega))) (UD_fr hu₁ (fun b₁ q1₁ q2₁ => c1₁ b₁ (by omega))) hU₁ hr₁ hs₁ hv₁ (by omega) (fun J2₁ g2₁ b2₁ _ => ?_)
  have c2₁ : ∀ b₁, b₁ < x₁ + 19 ∨ x₁ + 27 ≤ b₁ → b₁ ≠ x₁ + 30 → J2₁ b₁ = I₁ b₁ := fun b₁ q1₁ q2₁ => by rw [b2₁ b₁ q2₁ (by omega), c1₁ b₁ (by omega)]
  rcases hd₁ : (drI₁ U₁ V₁ s₁ n₁).2.2 with - | d₁
  · refine ⟨fun _ => h1₁ n₁ rfl n60₁ hd₁ J2₁ (by rw [drI_z n₁ hd₁] at g2₁; exact g2₁) c2₁, fun z₁ => absurd (by decide) z₁⟩
  · refine ⟨fun z₁ => ?_, fun _ => s_remember hX₁ hH₁ hm₁ (fun k₁ hk₁ => ?_) (MACD_fr g1₁ (fun b₁ hb₁ => b2₁ b₁ (by omega) (by omega))) (by rw [c2₁ x₁ (by omega) (by omega)]; exact e₁) ho₁ (fun J3₁ R3₁ p3₁ r3₁ q3₁ e3₁ d3₁ f3₁ b3₁ => h2₁ n₁ d₁ rfl n60₁ hd₁ J3₁ R3₁ p3₁ r3₁ q3₁ e3₁ d3₁ (MACD_fr g2₁ (fun b₁ hb₁ => b3₁ b₁ (by omega) (by omega))) (fun y₁ hy₁ => by rw [f3₁ y₁ hy₁, c2₁ x₁ (by omega) (by omega)]) (fun b₁ u1₁ u2₁ u3₁ u4₁ => by rw [b3₁ b₁ u1₁ u4₁, c2₁ b₁ u2₁ u3₁]))⟩
    · rw [show (0 : Int32) = nI 0 from rfl, leN (by omega) (by omega)] at z₁; omega
    · have pk₁ := (hH₁.1 k₁ (by omega)).1
      exact MACD_fr (hD₁ k₁ hk₁) (fun b₁ hb₁ => c2₁ b₁ (by omega) (by omega))
end UN₁
