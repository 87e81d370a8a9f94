/-! ===== an op read: the reference ===== -/
section RG₁
variable {K₁ N₁ : MK} {I₁ : MI} {L₁ : ML} {R₁ : MR} {n₁ lm₁ p₁ c₁ d₁ m₁ w₁ : Nat} {B₁ : Nat → Nat} {U₁ : Nat → Int32} {NM₁ : Nat → List Nat}
theorem r_isOp {Q₁ : Bool → Prop} (hM₁ : MDL K₁ N₁ R₁ m₁) (hT₁ : TRS₁ I₁ L₁ m₁ B₁ n₁ lm₁ p₁) (h₁ : Q₁ (!(decide (opN₁ B₁ n₁ lm₁ p₁ = 0)))) : w_X12_isOp m₁ K₁ N₁ I₁ L₁ R₁ Q₁ := by
  have k4₁ : I₁ m₁ 7 = nI (krS₁ (tkK₁ B₁ n₁ lm₁ p₁)) := hT₁.2.2.2.2.2.2.2.2.1
  refine ⟨hM₁.k, ?_⟩
  rw [k4₁, show (nI (krS₁ (tkK₁ B₁ n₁ lm₁ p₁)) = 3) = (nI (krS₁ (tkK₁ B₁ n₁ lm₁ p₁)) = nI 3) from rfl, kr_eq (j₁ := 3) (k₁ := 2) rfl (by decide)]
  rcases opN_or (B₁ := B₁) (n₁ := n₁) (lm₁ := lm₁) (p₁ := p₁) with ⟨e₁, h2₁, hno₁⟩ | ⟨e₁, h2₁⟩ | ⟨q₁, hq₁, e₁, hwd₁⟩
  · rw [decide_eq_true e₁] at h₁
    refine ⟨fun z₁ => absurd z₁ h2₁, fun _ => r_isWord (k₁ := 8) hM₁ hT₁ (by decide) ⟨fun _ => ?_, fun z₁ => absurd z₁ (by rw [hno₁ 0 (by decide)]; decide)⟩⟩
    delta w_X12_isOp_22
    refine ⟨fun n1₁ y0₁ y1₁ => y0₁ = m₁ ∧ ∃ i₁, 1 ≤ i₁ ∧ i₁ ≤ 7 ∧ n1₁ = 7 - i₁ ∧ y1₁ = nI (8 + i₁), ⟨6, rfl, 1, by omega, by omega, rfl, rfl⟩, ?_⟩
    rintro n1₁ y0₁ y1₁ ⟨rfl, i₁, h1₁, h7₁, rfl, rfl⟩
    rw [show (14 : Int32) = nI 14 from rfl, ltN (by omega) (by omega)]
    refine ⟨fun _ => h₁, fun z₁ => ⟨hM₁.k, r_isWord (k₁ := 8 + i₁) hM₁ hT₁ (by omega) ⟨fun _ v5₁ g5₁ => ⟨7 - (i₁ + 1), by omega, rfl, i₁ + 1, by omega, by omega, rfl, by rw [g5₁, nI_1]; rfl⟩, fun y₁ => absurd y₁ (by rw [hno₁ i₁ (by omega)]; decide)⟩⟩⟩
  · rw [decide_eq_false (show ¬ opN₁ B₁ n₁ lm₁ p₁ = 0 by omega)] at h₁
    exact ⟨fun _ => h₁, fun z₁ => absurd h2₁ z₁⟩
  · rw [decide_eq_false (show ¬ opN₁ B₁ n₁ lm₁ p₁ = 0 by omega)] at h₁
    have h2₁ : ¬ tkK₁ B₁ n₁ lm₁ p₁ = 2 := by rw [isWd_k hwd₁]; decide
    refine ⟨fun z₁ => absurd z₁ h2₁, fun _ => r_isWord (k₁ := 8) hM₁ hT₁ (by decide) ⟨fun z8₁ => ?_, fun _ => h₁⟩⟩
    have hq1₁ : 1 ≤ q₁ := by
      rcases q₁ with - | q₁
      · rw [show 8 + 0 = 8 from rfl, z8₁] at hwd₁; exact absurd hwd₁ (by decide)
      · omega
    delta w_X12_isOp_22
    refine ⟨fun n1₁ y0₁ y1₁ => y0₁ = m₁ ∧ ∃ i₁, 1 ≤ i₁ ∧ i₁ ≤ q₁ ∧ n1₁ = 7 - i₁ ∧ y1₁ = nI (8 + i₁), ⟨6, rfl, 1, by omega, by omega, rfl, rfl⟩, ?_⟩
    rintro n1₁ y0₁ y1₁ ⟨rfl, i₁, h1₁, h7₁, rfl, rfl⟩
    rw [show (14 : Int32) = nI 14 from rfl, ltN (by omega) (by omega)]
    refine ⟨fun z₁ => by omega, fun z₁ => ⟨hM₁.k, r_isWord (k₁ := 8 + i₁) hM₁ hT₁ (by omega) ⟨fun y₁ v5₁ g5₁ => ⟨7 - (i₁ + 1), by omega, rfl, i₁ + 1, by omega, ?_, rfl, by rw [g5₁, nI_1]; rfl⟩, fun _ => h₁⟩⟩⟩
    by_cases z2₁ : i₁ = q₁
    · rw [z2₁, hwd₁] at y₁; exact absurd y₁ (by decide)
    · omega
theorem r_readOp {a₁ : Nat} {Q₁ : Bool → MI → ML → Prop} (hM₁ : MDL K₁ N₁ R₁ m₁) (hT₁ : TRS₁ I₁ L₁ m₁ B₁ n₁ lm₁ p₁) (hI₁ : I₁ (m₁ + 3) = U₁) (h25₁ : I₁ m₁ 25 = nI d₁) (hd8₁ : d₁ ≤ 8) (ha₁ : a₁ < 342) (hc₁ : c₁ < 8) (ho₁ : opN₁ B₁ n₁ lm₁ p₁ ≠ 0)
    (hbad : ∀ k₁ pl₁, (∀ kk₁, pOp₁ B₁ n₁ lm₁ c₁ d₁ p₁ kk₁ = .inl (k₁, pl₁)) → ∀ J₁ M₁, flQ₁ m₁ k₁ pl₁ J₁ → frQ₁ m₁ J₁ I₁ M₁ L₁ → Q₁ false J₁ M₁)
    (hok₁ : ∀ r₁ p'₁, (∀ kk₁, pOp₁ B₁ n₁ lm₁ c₁ d₁ p₁ kk₁ = kk₁ r₁ p'₁) → opC₁ r₁ → opOK r₁ d₁ → ∀ J₁ M₁, TRS₁ J₁ M₁ m₁ B₁ n₁ lm₁ p'₁ → J₁ (m₁ + 3) = vst₁ U₁ a₁ r₁ → J₁ m₁ 25 = nI (opD₁ r₁ d₁) → (∀ b₁, b₁ ≠ m₁ → M₁ b₁ = L₁ b₁) → frQ₁ m₁ J₁ I₁ M₁ L₁ → J₁ m₁ 10 = I₁ m₁ 10 → Q₁ true J₁ M₁) : w_X12_readOp m₁ (nI a₁) K₁ N₁ I₁ L₁ R₁ Q₁ := by
  have k4₁ : I₁ m₁ 7 = nI (krS₁ (tkK₁ B₁ n₁ lm₁ p₁)) := hT₁.2.2.2.2.2.2.2.2.1
  have hc8₁ : ¬ c₁ = 8 := by omega
  -- a₁ number stored, the₁ stack s₁, and on₁
  have put₁ : ∀ (r₁ : Int32) (s₁ : Int32) (I1₁ I2₁ I3₁ : MI), (∀ kk₁, pOp₁ B₁ n₁ lm₁ c₁ d₁ p₁ kk₁ = kk₁ r₁ (tkN₁ B₁ n₁ lm₁ p₁)) → opC₁ r₁ → opOK r₁ d₁ → s₁ = nI (opD₁ r₁ d₁) → (I2₁ = mup I₁ m₁ 25 s₁ ∨ (I2₁ = I₁ ∧ I₁ m₁ 25 = s₁)) → I3₁ = mup I2₁ (m₁ + 3) a₁ r₁ → w_X12_go m₁ K₁ N₁ I3₁ L₁ R₁ (fun I11₁ L12₁ => Q₁ true I11₁ L12₁) := by
    intro r₁ s₁ I1₁ I2₁ I3₁ hp₁ hC₁ hO₁ hs₁ h2₁ h3₁
    have i2₁ : ∀ b₁, b₁ ≠ m₁ → I2₁ b₁ = I₁ b₁ := fun b₁ hb₁ => by
      rcases h2₁ with e₁ | ⟨e₁, -⟩
      · rw [e₁, mup_ne hb₁]
      · rw [e₁]
    have y2₁ : ∀ y₁, y₁ ≠ 25 → I2₁ m₁ y₁ = I₁ m₁ y₁ := fun y₁ hy₁ => by
      rcases h2₁ with e₁ | ⟨e₁, -⟩
      · rw [e₁, mup_k hy₁]
      · rw [e₁]
    have s2₁ : I2₁ m₁ 25 = s₁ := by
      rcases h2₁ with e₁ | ⟨e₁, z₁⟩
      · rw [e₁, mup_at]
      · rw [e₁, z₁]
    have t3₁ : TRS₁ I3₁ L₁ m₁ B₁ n₁ lm₁ p₁ := TRS_fr hT₁ (by rw [h3₁, mup_ne (by omega), i2₁ _ (by omega)]) (fun y₁ q1₁ q2₁ => by rw [h3₁, mup_ne (by omega), y2₁ y₁ (by omega)]) rfl
    have fr3₁ : frQ₁ m₁ I3₁ I₁ L₁ L₁ := ⟨fun b₁ q1₁ q2₁ => by rw [h3₁, mup_ne q2₁, i2₁ b₁ q1₁], fun _ _ _ => rfl, fun y₁ _ _ _ _ _ _ _ _ q9₁ => by rw [h3₁, mup_ne (by omega), y2₁ y₁ q9₁]⟩
    refine r_next hM₁ t3₁ (fun J₁ M₁ t4₁ f4₁ => hok₁ r₁ _ hp₁ hC₁ hO₁ J₁ M₁ t4₁ ?_ ?_ f4₁.2.2 (frQ_t (frQ_V f4₁) fr3₁) ?_)
    · rw [f4₁.1 _ (by omega), h3₁, mup_vst, i2₁ _ (by omega), hI₁]
    · rw [f4₁.2.1 25 (by decide) (by decide) (by decide) (by decide) (by decide), h3₁, mup_ne (by omega), s2₁, hs₁]
    · rw [frV_10 f4₁, h3₁, mup_ne (by omega), y2₁ 10 (by decide)]
  delta w_X12_readOp
  refine ⟨hM₁.k, ?_⟩
  rw [k4₁, show (nI (krS₁ (tkK₁ B₁ n₁ lm₁ p₁)) = 3) = (nI (krS₁ (tkK₁ B₁ n₁ lm₁ p₁)) = nI 3) from rfl, kr_eq (j₁ := 3) (k₁ := 2) rfl (by decide)]
  rcases opN_or (B₁ := B₁) (n₁ := n₁) (lm₁ := lm₁) (p₁ := p₁) with ⟨e₁, -⟩ | ⟨e₁, h2₁⟩ | ⟨q₁, hq₁, e₁, hwd₁⟩
  · exact absurd e₁ ho₁
  · have hv₁ := tkV_lt h2₁
    have e8₁ : I₁ m₁ 8 = nI (tkV₁ B₁ n₁ p₁) := hT₁.2.2.2.2.2.2.2.2.2.2.2.1 h2₁
    refine ⟨fun z₁ => absurd h2₁ z₁, fun _ => ⟨_, hM₁.r15, hM₁.k3, by rw [hM₁.n3]; exact (vp_nI (by omega)).mpr ha₁, fun I40₁ g40₁ I41₁ g41₁ => ?_⟩⟩
    rw [ix_nI (by omega), e8₁] at g40₁
    have e25₁ : I40₁ m₁ 25 = nI d₁ := by rw [g40₁, mup_ne (by omega)]; exact h25₁
    rw [e25₁, nI_1] at g41₁
    refine put₁ (nI (tkV₁ B₁ n₁ p₁)) (nI (d₁ + 1)) I₁ (mup I₁ m₁ 25 (nI (d₁ + 1))) I41₁ (fun kk₁ => by rw [pOp₁, if_neg (by rw [e₁]; decide), if_neg hc8₁, if_pos e₁]) (Or.inl ⟨_, hv₁, rfl⟩) (by rw [opOK, if_pos (opn_lt (by omega))]; trivial) (by rw [opD_n hv₁]) (Or.inl rfl) ?_
    rw [g41₁, g40₁]
    funext b₁ y₁
    by_cases b1₁ : b₁ = m₁
    · subst b1₁
      rw [mup_ne (show b₁ ≠ b₁ + 3 by omega)]
      by_cases y1₁ : y₁ = 25
      · rw [y1₁, mup_at, mup_at]
      · rw [mup_k y1₁, mup_k y1₁, mup_ne (by omega)]
    · rw [mup_ne b1₁]
      by_cases b2₁ : b₁ = m₁ + 3
      · subst b2₁
        by_cases y1₁ : y₁ = a₁
        · rw [y1₁, mup_at, mup_at]
        · rw [mup_k y1₁, mup_k y1₁, mup_ne (by omega)]
      · rw [mup_ne b2₁, mup_ne b2₁, mup_ne b1₁]
  · have h2₁ : ¬ tkK₁ B₁ n₁ lm₁ p₁ = 2 := by rw [isWd_k hwd₁]; decide
    refine ⟨fun _ => r_isWord (k₁ := 8) hM₁ hT₁ (by decide) ⟨fun z8₁ => ?_, fun z8₁ => ?_⟩, fun z₁ => absurd z₁ h2₁⟩
    · have hq1₁ : 1 ≤ q₁ := by
        rcases q₁ with - | q₁
        · rw [show 8 + 0 = 8 from rfl, z8₁] at hwd₁; exact absurd hwd₁ (by decide)
        · omega
      have hn1₁ : opN₁ B₁ n₁ lm₁ p₁ ≠ 1 := by rw [e₁]; omega
      have hn2₁ : opN₁ B₁ n₁ lm₁ p₁ ≠ 2 := by rw [e₁]; omega
      have er₁ : 1007 + opN₁ B₁ n₁ lm₁ p₁ = 1009 + q₁ := by rw [e₁]; omega
      have okq₁ := ok_q (d₁ := d₁) hq1₁ hq₁
      have hpk₁ : opOK (nI (1009 + q₁)) d₁ → ∀ kk₁, pOp₁ B₁ n₁ lm₁ c₁ d₁ p₁ kk₁ = kk₁ (nI (1009 + q₁)) (tkN₁ B₁ n₁ lm₁ p₁) := fun hO₁ kk₁ => by
        rw [pOp₁, if_neg ho₁, if_neg hc8₁, if_neg hn1₁, if_neg hn2₁, er₁, if_pos (opB_iff.mpr hO₁)]
      have hpb₁ : ¬ opOK (nI (1009 + q₁)) d₁ → ∀ kk₁, pOp₁ B₁ n₁ lm₁ c₁ d₁ p₁ kk₁ = .inl (5, tkS₁ B₁ n₁ lm₁ p₁) := fun hO₁ kk₁ => by
        rw [pOp₁, if_neg ho₁, if_neg hc8₁, if_neg hn1₁, if_neg hn2₁, er₁, if_neg (fun z₁ => hO₁ (opB_iff.mp z₁))]
      have hCq₁ : opC₁ (nI (1009 + q₁)) := by
        obtain rfl | rfl | rfl | rfl | rfl | rfl : q₁ = 1 ∨ q₁ = 2 ∨ q₁ = 3 ∨ q₁ = 4 ∨ q₁ = 5 ∨ q₁ = 6 := by omega
        · exact Or.inr (Or.inr (Or.inl rfl))
        · exact Or.inr (Or.inr (Or.inr (Or.inl rfl)))
        · exact Or.inr (Or.inr (Or.inr (Or.inr (Or.inl rfl))))
        · exact Or.inr (Or.inr (Or.inr (Or.inr (Or.inr (Or.inl rfl)))))
        · exact Or.inr (Or.inr (Or.inr (Or.inr (Or.inr (Or.inr (Or.inl rfl))))))
        · exact Or.inr (Or.inr (Or.inr (Or.inr (Or.inr (Or.inr (Or.inr rfl))))))
      have bad5 : ¬ ndN₁ q₁ ≤ d₁ → w_X12_bad m₁ 5 K₁ N₁ I₁ L₁ R₁ (fun r24₁ I25₁ => Q₁ r24₁ I25₁ L₁) := fun z₁ => r_bad (k₁ := 5) hM₁ hT₁ (fun y₁ => by rw [isWd_k hwd₁] at y₁; exact absurd y₁ (by decide)) (fun J₁ f₁ => hbad _ _ (hpb₁ (fun y₁ => z₁ (okq₁.mp y₁))) J₁ L₁ (flQ_f f₁) (frQ_f f₁))
      have vpa₁ : vp_in (nI a₁) (N₁ (m₁ + 3)) := by rw [hM₁.n3]; exact (vp_nI (by omega)).mpr ha₁
      have ixa₁ : ix (nI a₁) = a₁ := ix_nI (by omega)
      have stk2 : ∀ r₁ : Int32, ((2 : Int32) ≤ I₁ m₁ 25) = (2 ≤ d₁) := fun _ => by rw [h25₁]; exact propext (show nI 2 ≤ nI d₁ ↔ _ from leN (by omega) (by omega))
      have stk1 : ∀ r₁ : Int32, ((1 : Int32) ≤ I₁ m₁ 25) = (1 ≤ d₁) := fun _ => by rw [h25₁]; exact propext (show nI 1 ≤ nI d₁ ↔ _ from leN (by omega) (by omega))
      have m1₁ : ∀ d₁, 1 ≤ d₁ → nI d₁ - 1 = nI (d₁ - 1) := fun d₁ h₁ => by rw [show (1 : Int32) = nI 1 from rfl, subN h₁]
      have body : (nI (1009 + q₁) = 1013 → w_X12_readOp_124 m₁ (nI a₁) (nI (1009 + q₁)) K₁ N₁ I₁ L₁ R₁ Q₁) ∧ (¬ nI (1009 + q₁) = 1013 → (¬ nI (1009 + q₁) = 1014 → w_X12_readOp_129 m₁ (nI a₁) (nI (1009 + q₁)) 0 K₁ N₁ I₁ L₁ R₁ Q₁) ∧ (nI (1009 + q₁) = 1014 → w_X12_readOp_124 m₁ (nI a₁) (nI (1009 + q₁)) K₁ N₁ I₁ L₁ R₁ Q₁)) := by
        delta w_X12_readOp_124 w_X12_readOp_129 w_X12_readOp_143 w_X12_readOp_169
        rw [stk1 0, stk2 0, ixa₁]
        obtain rfl | rfl | rfl | rfl | rfl | rfl : q₁ = 1 ∨ q₁ = 2 ∨ q₁ = 3 ∨ q₁ = 4 ∨ q₁ = 5 ∨ q₁ = 6 := by omega
        · refine ⟨fun z₁ => absurd z₁ (by decide), fun _ => ⟨fun _ => ⟨hM₁.k, fun _ => ⟨fun z₁ => ⟨fun y₁ => absurd y₁ (by decide), fun _ => ⟨hM₁.k, fun I22₁ g22₁ => ⟨fun _ => ⟨hM₁.k, _, hM₁.r15, hM₁.k3, vpa₁, fun I10₁ g10₁ => ?_⟩, fun y₁ => absurd y₁ (by decide)⟩⟩⟩, fun z₁ => ⟨hM₁.k, bad5 z₁⟩⟩, fun y₁ => absurd rfl y₁⟩, fun z₁ => absurd z₁ (by decide)⟩⟩
          rw [h25₁, m1₁ d₁ (by omega)] at g22₁
          exact put₁ _ _ I₁ I22₁ I10₁ (hpk₁ (okq₁.mpr z₁)) hCq₁ (okq₁.mpr z₁) rfl (Or.inl g22₁) g10₁
        · refine ⟨fun z₁ => absurd z₁ (by decide), fun _ => ⟨fun _ => ⟨hM₁.k, fun _ => ⟨fun z₁ => ⟨fun y₁ => absurd y₁ (by decide), fun _ => ⟨hM₁.k, fun I22₁ g22₁ => ⟨fun _ => ⟨hM₁.k, _, hM₁.r15, hM₁.k3, vpa₁, fun I10₁ g10₁ => ?_⟩, fun y₁ => absurd y₁ (by decide)⟩⟩⟩, fun z₁ => ⟨hM₁.k, bad5 z₁⟩⟩, fun y₁ => absurd rfl y₁⟩, fun z₁ => absurd z₁ (by decide)⟩⟩
          rw [h25₁, m1₁ d₁ (by omega)] at g22₁
          exact put₁ _ _ I₁ I22₁ I10₁ (hpk₁ (okq₁.mpr z₁)) hCq₁ (okq₁.mpr z₁) rfl (Or.inl g22₁) g10₁
        · refine ⟨fun z₁ => absurd z₁ (by decide), fun _ => ⟨fun _ => ⟨hM₁.k, fun _ => ⟨fun z₁ => ⟨fun y₁ => absurd y₁ (by decide), fun _ => ⟨hM₁.k, fun I22₁ g22₁ => ⟨fun _ => ⟨hM₁.k, _, hM₁.r15, hM₁.k3, vpa₁, fun I10₁ g10₁ => ?_⟩, fun y₁ => absurd y₁ (by decide)⟩⟩⟩, fun z₁ => ⟨hM₁.k, bad5 z₁⟩⟩, fun y₁ => absurd rfl y₁⟩, fun z₁ => absurd z₁ (by decide)⟩⟩
          rw [h25₁, m1₁ d₁ (by omega)] at g22₁
          exact put₁ _ _ I₁ I22₁ I10₁ (hpk₁ (okq₁.mpr z₁)) hCq₁ (okq₁.mpr z₁) rfl (Or.inl g22₁) g10₁
        · refine ⟨fun _ => ⟨hM₁.k, fun y₁ => absurd y₁ (by decide), fun _ => ⟨fun z₁ => ⟨fun _ => ⟨fun _ => ⟨hM₁.k, _, hM₁.r15, hM₁.k3, vpa₁, fun I10₁ g10₁ => ?_⟩, fun y₁ => absurd y₁ (by decide)⟩, fun y₁ => absurd (by decide) y₁⟩, fun z₁ => ⟨hM₁.k, bad5 z₁⟩⟩⟩, fun z₁ => absurd rfl z₁⟩
          exact put₁ _ _ I₁ I₁ I10₁ (hpk₁ (okq₁.mpr z₁)) hCq₁ (okq₁.mpr z₁) rfl (Or.inr ⟨rfl, h25₁⟩) g10₁
        · refine ⟨fun z₁ => absurd z₁ (by decide), fun _ => ⟨fun y₁ => absurd rfl y₁, fun _ => ⟨hM₁.k, fun y₁ => absurd y₁ (by decide), fun _ => ⟨fun z₁ => ⟨fun _ => ⟨fun y₁ => absurd rfl y₁, fun _ => ⟨hM₁.k, fun I14₁ g14₁ => ⟨_, hM₁.r15, hM₁.k3, vpa₁, fun I18₁ g18₁ => ?_⟩⟩⟩, fun y₁ => absurd (by decide) y₁⟩, fun z₁ => ⟨hM₁.k, bad5 z₁⟩⟩⟩⟩⟩
          rw [h25₁, nI_1] at g14₁
          exact put₁ _ _ I₁ I14₁ I18₁ (hpk₁ (okq₁.mpr z₁)) hCq₁ (okq₁.mpr z₁) rfl (Or.inl g14₁) g18₁
        · refine ⟨fun z₁ => absurd z₁ (by decide), fun _ => ⟨fun _ => ⟨hM₁.k, fun _ => ⟨fun z₁ => ⟨fun _ => ⟨fun _ => ⟨hM₁.k, _, hM₁.r15, hM₁.k3, vpa₁, fun I10₁ g10₁ => ?_⟩, fun y₁ => absurd y₁ (by decide)⟩, fun y₁ => absurd (by decide) y₁⟩, fun z₁ => ⟨hM₁.k, bad5 z₁⟩⟩, fun y₁ => absurd rfl y₁⟩, fun z₁ => absurd z₁ (by decide)⟩⟩
          exact put₁ _ _ I₁ I₁ I10₁ (hpk₁ (okq₁.mpr z₁)) hCq₁ (okq₁.mpr z₁) rfl (Or.inr ⟨rfl, h25₁⟩) g10₁
      delta w_X12_readOp_89
      refine ⟨fun n1₁ y0₁ y1₁ y2₁ I1₁ L1₁ => y0₁ = m₁ ∧ y1₁ = nI a₁ ∧ I1₁ = I₁ ∧ L1₁ = L₁ ∧ ∃ i₁, 1 ≤ i₁ ∧ i₁ ≤ q₁ ∧ n1₁ = 7 - i₁ ∧ y2₁ = nI (1009 + i₁), ⟨6, rfl, rfl, rfl, rfl, 1, by omega, hq1₁, rfl, rfl⟩, ?_⟩
      rintro n1₁ y0₁ y1₁ y2₁ I1₁ L1₁ ⟨rfl, rfl, rfl, rfl, i₁, hi1₁, hiq₁, rfl, rfl⟩
      have ew₁ : (9 : Int32) + nI (1009 + i₁) - 1010 = nI (8 + i₁) := by rw [show (9 : Int32) = nI 9 from rfl, addN, show (1010 : Int32) = nI 1010 from rfl, subN (by omega), show 9 + (1009 + i₁) - 1010 = 8 + i₁ by omega]
      rw [ew₁]
      refine ⟨hM₁.k, r_isWord (k₁ := 8 + i₁) hM₁ hT₁ (by omega) ⟨fun y₁ => ?_, fun y₁ v26₁ g26₁ => ⟨7 - (i₁ + 1), by omega, rfl, rfl, rfl, rfl, i₁ + 1, by omega, ?_, rfl, by rw [g26₁, nI_1]; rfl⟩⟩⟩
      · have : 8 + i₁ = 8 + q₁ := isWd_eq (by omega) (by omega) y₁ hwd₁
        rw [show i₁ = q₁ by omega]; exact body
      · by_cases z2₁ : i₁ = q₁
        · rw [z2₁, hwd₁] at y₁; exact absurd y₁ (by decide)
        · omega
    · have hq0₁ : q₁ = 0 := by
        have := isWd_eq (by omega) (by decide) hwd₁ z8₁
        omega
      subst hq0₁
      refine r_next hM₁ hT₁ (fun J1₁ M1₁ t1₁ f1₁ I29₁ g29₁ => ?_)
      have e29₁ : J1₁ m₁ 25 = nI d₁ := by rw [f1₁.2.1 25 (by decide) (by decide) (by decide) (by decide) (by decide)]; exact h25₁
      rw [e29₁, nI_1] at g29₁
      have t29₁ : TRS₁ I29₁ M1₁ m₁ B₁ n₁ lm₁ (tkN₁ B₁ n₁ lm₁ p₁) := TRS_fr t1₁ (by rw [g29₁, mup_ne (by omega)]) (fun y₁ q1₁ q2₁ => by rw [g29₁, mup_k (by omega)]) rfl
      have fr29 : frQ₁ m₁ I29₁ I₁ M1₁ L₁ := frQ_t ⟨fun b₁ q1₁ q2₁ => by rw [g29₁, mup_ne q1₁], fun _ _ _ => rfl, fun y₁ _ _ _ _ _ _ _ _ q9₁ => by rw [g29₁, mup_k q9₁]⟩ (frQ_V f1₁)
      refine r_readNumber (lo₁ := 0) (hi₁ := 7) hM₁ t29₁ (by decide) (by decide) (fun e0₁ k2₁ v1₁ v2₁ J2₁ M2₁ t2₁ e13₁ f2₁ => ⟨fun _ => ⟨_, hM₁.r15, hM₁.k3, by rw [hM₁.n3]; exact (vp_nI (by omega)).mpr ha₁, fun I36₁ g36₁ => ?_⟩, fun y₁ => absurd y₁ (by decide)⟩) (fun e0₁ J₁ f₁ => ⟨fun y₁ => absurd y₁ (by decide), fun _ => ?_⟩)
      · rw [ix_nI (by omega), e13₁, show (1000 : Int32) = nI 1000 from rfl, addN] at g36₁
        refine hok₁ (nI (1000 + tkV₁ B₁ n₁ (tkN₁ B₁ n₁ lm₁ p₁))) _ (fun kk₁ => by rw [pOp₁, if_neg ho₁, if_neg hc8₁, if_neg (by rw [e₁]; decide), if_pos e₁, pNum, if_neg (fun z₁ => z₁ e0₁)]) (Or.inr (Or.inl ⟨_, by omega, rfl⟩)) (by rw [opOK, if_pos (opn_lt (by omega))]; trivial) I36₁ M2₁ (TRS_3 t2₁ g36₁) ?_ ?_ (fun b₁ q1₁ => by rw [f2₁.2.2 b₁ q1₁, f1₁.2.2 b₁ q1₁]) (frQ_t (frQ_3 (M₁ := M2₁) g36₁) (frQ_t (frQ_N f2₁) fr29)) ?_
        · rw [g36₁, mup_vst, f2₁.1 _ (by omega), mup_ne (by omega), g29₁, mup_ne (by omega), f1₁.1 _ (by omega), hI₁]
        · rw [opD_r (by omega), g36₁, mup_ne (by omega), f2₁.2.1 25 (by decide) (by decide) (by decide) (by decide) (by decide), mup_k (by decide), g29₁, mup_at]
        · rw [g36₁, mup_ne (by omega), frV_10 f2₁, mup_k (by decide), g29₁, mup_k (by decide), frV_10 f1₁]
      · exact hbad _ _ (fun kk₁ => by rw [pOp₁, if_neg ho₁, if_neg hc8₁, if_neg (by rw [e₁]; decide), if_pos e₁, pNum, if_pos e0₁]) J₁ M1₁ (flQ_f f₁) (frQ_t (frQ_f f₁) fr29)
end RG₁
