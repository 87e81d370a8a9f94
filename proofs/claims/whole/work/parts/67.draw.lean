/-! ===== a deed drawn: both sides ===== -/
def drsS (s₁ : Int32) : Int32 := s₁ * 1103515245 + 12345
def drvN (s₁ : Int32) (n₁ : Nat) : Nat := (drsS s₁).toBitVec.toNat / 256 % n₁
/-- the deed, its arguments, and the seed behind it -/
def ddK₁ (U₁ V₁ : Nat → Int32) (s₁ : Int32) : Nat → Nat × Int32 × Int32 × Int32
  | 0 => (0, nI (drvN (drsS s₁) 8), nI (drvN (drsS (drsS s₁)) 1000), drsS (drsS (drsS s₁)))
  | 1 => (1, nI (drvN (drsS s₁) 64), nI (drvN (drsS (drsS s₁)) 1000), drsS (drsS (drsS s₁)))
  | 2 => (2, nI (drvN (drsS s₁) (ix (U₁ 0))), 0, drsS (drsS s₁))
  | 3 => (5, 0, 0, drsS s₁)
  | 4 => (5, 0, 0, drsS s₁)
  | 5 => (6, 0, 0, drsS s₁)
  | 6 => (7, 0, 0, drsS s₁)
  | _ => (if stpS V₁ (nI (drvN (drsS s₁) 250 + 1)) = -1 then 3 else 4, nI (drvN (drsS s₁) 250 + 1), 0, drsS (drsS s₁))
def ddS₁ (U₁ V₁ : Nat → Int32) (s₁ : Int32) : Nat × Int32 × Int32 × Int32 := ddK₁ U₁ V₁ s₁ (drvN s₁ 8)
/-- what the deed drawn answers, and what it leaves -/
def dwD₁ (U₁ V₁ : Nat → Int32) (p₁ : Nat × Int32 × Int32 × Int32) : Int32 := dwS₁ U₁ V₁ p₁.2.1 p₁.2.2.1 p₁.1
def dlD₁ (U₁ V₁ : Nat → Int32) (p₁ : Nat × Int32 × Int32 × Int32) : Nat → Int32 := if dwD₁ U₁ V₁ p₁ = 0 then dlS₁ U₁ V₁ p₁.2.1 p₁.2.2.1 p₁.1 else V₁
def daD₁ (U₁ : Nat → Int32) (p₁ : Nat × Int32 × Int32 × Int32) : Prop := p₁.1 < 8 ∧ dar₁ U₁ p₁.2.1 p₁.1 ∧ (p₁.1 < 2 → ∃ w₁, w₁ < 65536 ∧ p₁.2.2.1 = nI w₁)
theorem ushr_8 (x₁ : Int32) : ushr x₁ 8 = nI (x₁.toBitVec.toNat / 256) := by
  apply Int32.toBitVec_inj.mp
  show (x₁.toUInt32 >>> ((8 : Int32).toUInt32 &&& Int32.toUInt32 31)).toBitVec = BitVec.ofNat 32 (x₁.toBitVec.toNat / 256)
  rw [UInt32.toBitVec_shiftRight]
  apply BitVec.eq_of_toNat_eq
  rw [BitVec.ushiftRight_eq', BitVec.toNat_ushiftRight, show ((((8 : Int32).toUInt32 &&& Int32.toUInt32 31).toBitVec % 32).toNat) = 8 from by decide, Nat.shiftRight_eq_div_pow, BitVec.toNat_ofNat]
  have := x₁.toBitVec.isLt
  show x₁.toBitVec.toNat / 256 = _
  omega
theorem drv_eq (s₁ : Int32) {n₁ : Nat} (h₁ : 0 < n₁) (h2₁ : n₁ < 2147483648) : ushr (drsS s₁) 8 - ushr (drsS s₁) 8 / nI n₁ * nI n₁ = nI (drvN s₁ n₁) := by
  rw [ushr_8, pk_rem (by have := (drsS s₁).toBitVec.isLt; omega) h₁ h2₁]; rfl
theorem drv_lt (s₁ : Int32) {n₁ : Nat} (h₁ : 0 < n₁) : drvN s₁ n₁ < n₁ := Nat.mod_lt _ h₁
section UN₁
variable {U₁ U'₁ V₁ : Nat → Int32}
theorem ddS_ok (hU₁ : WFc U₁) (s₁ : Int32) : daD₁ U₁ (ddS₁ U₁ V₁ s₁) := by
  have h8₁ := drv_lt s₁ (n₁ := 8) (by decide)
  rw [ddS₁]
  obtain q₁ | q₁ | q₁ | q₁ | q₁ | q₁ | q₁ | q₁ : drvN s₁ 8 = 0 ∨ drvN s₁ 8 = 1 ∨ drvN s₁ 8 = 2 ∨ drvN s₁ 8 = 3 ∨ drvN s₁ 8 = 4 ∨ drvN s₁ 8 = 5 ∨ drvN s₁ 8 = 6 ∨ drvN s₁ 8 = 7 := by omega
  all_goals rw [q₁]
  · exact ⟨show 0 < 8 by decide, inN_nI (drv_lt _ (by decide)) (by decide), fun _ => ⟨_, Nat.lt_trans (drv_lt _ (by decide)) (by decide), rfl⟩⟩
  · exact ⟨show 1 < 8 by decide, inN_nI (drv_lt _ (by decide)) (by decide), fun _ => ⟨_, Nat.lt_trans (drv_lt _ (by decide)) (by decide), rfl⟩⟩
  · exact ⟨show 2 < 8 by decide, adr_nI hU₁ (drv_lt _ (by have := hU₁.2.2.2.2.2.2; omega)), fun (z₁ : 2 < 2) => absurd z₁ (by decide)⟩
  · exact ⟨show 5 < 8 by decide, trivial, fun (z₁ : 5 < 2) => absurd z₁ (by decide)⟩
  · exact ⟨show 5 < 8 by decide, trivial, fun (z₁ : 5 < 2) => absurd z₁ (by decide)⟩
  · exact ⟨show 6 < 8 by decide, trivial, fun (z₁ : 6 < 2) => absurd z₁ (by decide)⟩
  · exact ⟨show 7 < 8 by decide, trivial, fun (z₁ : 7 < 2) => absurd z₁ (by decide)⟩
  · refine ⟨?_, ?_, ?_⟩ <;> show _ <;> simp only [ddK₁]
    · split <;> decide
    · split <;> trivial
    · split <;> exact fun z₁ => absurd z₁ (by decide)
theorem ddS_cg (g₁ : agU₁ U'₁ U₁) (s₁ : Int32) : ddS₁ U'₁ V₁ s₁ = ddS₁ U₁ V₁ s₁ := by
  rw [ddS₁, ddS₁, ddK₁.eq_def, ddK₁.eq_def, g₁ 0 (by decide)]
theorem dwD_cg (g₁ : agU₁ U'₁ U₁) (hU₁ : WFc U₁) (p₁ : Nat × Int32 × Int32 × Int32) : dwD₁ U'₁ V₁ p₁ = dwD₁ U₁ V₁ p₁ := by
  rw [dwD₁, dwD₁, dwS_cg g₁ hU₁]
theorem dlD_cg (g₁ : agU₁ U'₁ U₁) (hU₁ : WFc U₁) (p₁ : Nat × Int32 × Int32 × Int32) : dlD₁ U'₁ V₁ p₁ = dlD₁ U₁ V₁ p₁ := by
  rw [dlD₁, dlD₁, dwD_cg g₁ hU₁, dlS_cg g₁ hU₁]
theorem WFv_D (hU₁ : WFc U₁) (hr₁ : WFr U₁) (h₁ : WFv₁ U₁ V₁) {p₁ : Nat × Int32 × Int32 × Int32} (hp₁ : daD₁ U₁ p₁) : WFv₁ U₁ (dlD₁ U₁ V₁ p₁) := by
  rw [dlD₁]
  split
  · rename_i e₁
    exact WFv_dl hU₁ hr₁ h₁ hp₁.1 hp₁.2.1 hp₁.2.2 e₁
  · exact h₁
theorem dlD_hi {k₁ : Nat} (h₁ : WFv₁ U₁ V₁) {p₁ : Nat × Int32 × Int32 × Int32} (hp₁ : daD₁ U₁ p₁) (hk₁ : 83 ≤ k₁) : dlD₁ U₁ V₁ p₁ k₁ = V₁ k₁ := by
  rw [dlD₁]
  split
  · rename_i e₁
    exact dlS_hi h₁ hp₁.1 hp₁.2.1 e₁ hk₁
  · rfl
end UN₁
section UN₁
variable {K₁ N₁ : MK} {I₁ : MI} {L₁ : ML} {R₁ : MR} {c₁ g₁ u₁ : Nat} {U₁ V₁ : Nat → Int32} {W₁ : Nat → Int64}
theorem s_draw {n₁ : Nat} {Q₁ : Int32 → MI → Prop} (hg₁ : K₁ g₁ = 2) (hn₁ : 0 < n₁) (hn2₁ : n₁ < 2147483648) (h₁ : ∀ J₁, J₁ = mup I₁ g₁ 0 (drsS (I₁ g₁ 0)) → Q₁ (nI (drvN (I₁ g₁ 0) n₁)) J₁) : w_X1_draw g₁ (nI n₁) K₁ N₁ I₁ L₁ R₁ Q₁ := by
  delta w_X1_draw
  refine ⟨hg₁, fun I2₁ g2₁ => ?_⟩
  have e2₁ : I2₁ g₁ 0 = drsS (I₁ g₁ 0) := by rw [g2₁, mup_at]; rfl
  rw [e2₁, drv_eq _ hn₁ hn2₁]
  refine ⟨fun z₁ => ?_, fun _ => ⟨fun z₁ => ?_, h₁ I2₁ (by rw [g2₁]; rfl)⟩⟩
  · rw [show (0 : Int32) = nI 0 from rfl, leN (by omega) (by omega)] at z₁; omega
  · rw [show (0 : Int32) = nI 0 from rfl, eqN (by omega) (by omega)] at z₁; omega
theorem s_doDeed {Q₁ : Int32 → MI → Prop} (hg₁ : K₁ g₁ = 2) (hC₁ : MAL K₁ N₁ R₁ c₁) (hL₁ : UL K₁ N₁ R₁ u₁) (hcg₁ : c₁ + 3 < g₁) (huc₁ : u₁ + 15 < c₁) (hV₁ : MACD I₁ c₁ V₁) (hD₁ : UD I₁ L₁ u₁ U₁ W₁) (hU₁ : WFc U₁) (hr₁ : WFr U₁) (hs₁ : WFs U₁) (hv₁ : WFv₁ U₁ V₁)
    (h₁ : ∀ J₁, MACD J₁ c₁ (dlD₁ U₁ V₁ (ddS₁ U₁ V₁ (I₁ g₁ 0))) → J₁ g₁ 0 = (ddS₁ U₁ V₁ (I₁ g₁ 0)).2.2.2 → (∀ b₁, b₁ ≠ g₁ → b₁ < c₁ ∨ c₁ + 3 < b₁ → J₁ b₁ = I₁ b₁) → (∀ y₁, y₁ ≠ 0 → J₁ g₁ y₁ = I₁ g₁ y₁) → Q₁ (dwD₁ U₁ V₁ (ddS₁ U₁ V₁ (I₁ g₁ 0))) J₁) : w_X1_doDeed g₁ u₁ c₁ K₁ N₁ I₁ L₁ R₁ Q₁ := by
  have h8₁ := drv_lt (I₁ g₁ 0) (n₁ := 8) (by decide)
  have ok₁ := ddS_ok (V₁ := V₁) hU₁ (I₁ g₁ 0)
  have n0₁ := hU₁.2.2.2.2.2
  rw [ddS₁] at h₁ ok₁
  have frg₁ : ∀ J₁, (∀ b₁, b₁ ≠ g₁ → J₁ b₁ = I₁ b₁) → MACD J₁ c₁ V₁ ∧ UD J₁ L₁ u₁ U₁ W₁ := fun J₁ z₁ => ⟨MACD_fr hV₁ (fun b₁ hb₁ => z₁ b₁ (by omega)), UD_fr hD₁ (fun b₁ h1₁ h2₁ => z₁ b₁ (by omega))⟩
  have go₁ : ∀ (d₁ : Nat) (a₁ b₁ s2₁ : Int32) (J₁ : MI), (∀ b₁, b₁ ≠ g₁ → J₁ b₁ = I₁ b₁) → (∀ y₁, y₁ ≠ 0 → J₁ g₁ y₁ = I₁ g₁ y₁) → J₁ g₁ 0 = s2₁ → ddK₁ U₁ V₁ (I₁ g₁ 0) (drvN (I₁ g₁ 0) 8) = (d₁, a₁, b₁, s2₁) → w_X3_perform c₁ u₁ (nI (17 + d₁)) a₁ b₁ K₁ N₁ J₁ L₁ R₁ Q₁ := by
    intro d₁ a₁ b₁ s2₁ J₁ f1₁ f2₁ f3₁ e₁
    rw [e₁] at h₁ ok₁
    obtain ⟨o1₁, o2₁, o3₁⟩ := ok₁
    refine s_perform hC₁ (frg₁ J₁ f1₁).1 hL₁ (frg₁ J₁ f1₁).2 hU₁ hr₁ hs₁ o1₁ o2₁ (fun z₁ => ?_) (fun z₁ J2₁ g2₁ b2₁ => ?_)
    · have hh₁ := h₁ J₁
      rw [show dlD₁ U₁ V₁ (d₁, a₁, b₁, s2₁) = V₁ from if_neg z₁] at hh₁
      exact hh₁ (frg₁ J₁ f1₁).1 f3₁ (fun b₁ h1₁ h2₁ => f1₁ b₁ h1₁) f2₁
    · have hh₁ := h₁ J2₁
      rw [show dlD₁ U₁ V₁ (d₁, a₁, b₁, s2₁) = dlS₁ U₁ V₁ a₁ b₁ d₁ from if_pos z₁, show dwD₁ U₁ V₁ (d₁, a₁, b₁, s2₁) = 0 from z₁] at hh₁
      refine hh₁ g2₁ (by rw [b2₁ g₁ (by omega) (by omega) (by omega) (by omega)]; exact f3₁) (fun b₁ h1₁ h2₁ => by rw [b2₁ b₁ (by omega) (by omega) (by omega) (by omega), f1₁ b₁ h1₁]) (fun y₁ hy₁ => by rw [b2₁ g₁ (by omega) (by omega) (by omega) (by omega), f2₁ y₁ hy₁])
  delta w_X1_doDeed
  refine ⟨hg₁, s_draw (n₁ := 8) hg₁ (by decide) (by decide) (fun J₁ g1₁ => ?_)⟩
  have a1₁ : J₁ g₁ 0 = drsS (I₁ g₁ 0) := by rw [g1₁, mup_at]
  have f1₁ : ∀ b₁, b₁ ≠ g₁ → J₁ b₁ = I₁ b₁ := fun b₁ hb₁ => by rw [g1₁, mup_ne hb₁]
  have y1₁ : ∀ y₁, y₁ ≠ 0 → J₁ g₁ y₁ = I₁ g₁ y₁ := fun y₁ hy₁ => by rw [g1₁, mup_k hy₁]
  have two₁ : ∀ (n1₁ n2₁ : Nat), 0 < n1₁ → n1₁ < 2147483648 → 0 < n2₁ → n2₁ < 2147483648 → ∀ P₁ : Int32 → Int32 → MI → Prop, (∀ J2₁, J2₁ g₁ 0 = drsS (drsS (drsS (I₁ g₁ 0))) → (∀ b₁, b₁ ≠ g₁ → J2₁ b₁ = I₁ b₁) → (∀ y₁, y₁ ≠ 0 → J2₁ g₁ y₁ = I₁ g₁ y₁) → P₁ (nI (drvN (drsS (I₁ g₁ 0)) n1₁)) (nI (drvN (drsS (drsS (I₁ g₁ 0))) n2₁)) J2₁) → w_X1_draw g₁ (nI n1₁) K₁ N₁ J₁ L₁ R₁ (fun r4₁ I5₁ => w_X1_draw g₁ (nI n2₁) K₁ N₁ I5₁ L₁ R₁ (fun r6₁ I7₁ => P₁ r4₁ r6₁ I7₁)) := by
    intro n1₁ n2₁ p1₁ p2₁ p3₁ p4₁ P₁ hp₁
    refine s_draw hg₁ p1₁ p2₁ (fun J2₁ g2₁ => s_draw hg₁ p3₁ p4₁ (fun J3₁ g3₁ => ?_))
    have a2₁ : J2₁ g₁ 0 = drsS (drsS (I₁ g₁ 0)) := by rw [g2₁, mup_at, a1₁]
    rw [a1₁, a2₁]
    rw [a2₁] at g3₁
    exact hp₁ J3₁ (by rw [g3₁, mup_at]) (fun b₁ hb₁ => by rw [g3₁, mup_ne hb₁, g2₁, mup_ne hb₁, f1₁ b₁ hb₁]) (fun y₁ hy₁ => by rw [g3₁, mup_k hy₁, g2₁, mup_k hy₁, y1₁ y₁ hy₁])
  have n8₁ : ∀ {k₁ j₁ : Nat}, drvN (I₁ g₁ 0) 8 = k₁ → j₁ < 8 → nI (drvN (I₁ g₁ 0) 8) = nI j₁ → k₁ = j₁ := fun e₁ hj₁ z₁ => by rw [e₁, eqN (by omega) (by omega)] at z₁; exact z₁
  obtain q₁ | q₁ | q₁ | q₁ | q₁ | q₁ | q₁ | q₁ : drvN (I₁ g₁ 0) 8 = 0 ∨ drvN (I₁ g₁ 0) 8 = 1 ∨ drvN (I₁ g₁ 0) 8 = 2 ∨ drvN (I₁ g₁ 0) 8 = 3 ∨ drvN (I₁ g₁ 0) 8 = 4 ∨ drvN (I₁ g₁ 0) 8 = 5 ∨ drvN (I₁ g₁ 0) 8 = 6 ∨ drvN (I₁ g₁ 0) 8 = 7 := by omega
  all_goals rw [q₁]
  all_goals rw [q₁] at go₁
  · exact ⟨fun _ => two₁ 8 1000 (by decide) (by decide) (by decide) (by decide) _ (fun J2₁ a2₁ f2₁ y2₁ => ⟨hC₁.1, go₁ 0 _ _ _ J2₁ f2₁ y2₁ a2₁ rfl⟩), fun z₁ => absurd rfl z₁⟩
  · exact ⟨fun z₁ => absurd z₁ (by decide), fun _ => ⟨fun _ => two₁ 64 1000 (by decide) (by decide) (by decide) (by decide) _ (fun J2₁ a2₁ f2₁ y2₁ => ⟨hC₁.1, go₁ 1 _ _ _ J2₁ f2₁ y2₁ a2₁ rfl⟩), fun z₁ => absurd rfl z₁⟩⟩
  · refine ⟨fun z₁ => absurd z₁ (by decide), fun _ => ⟨fun z₁ => absurd z₁ (by decide), fun _ => ⟨fun _ => ⟨hL₁.1, ?_⟩, fun z₁ => absurd rfl z₁⟩⟩⟩
    rw [f1₁ u₁ (by omega), hD₁.1, n0₁.1]
    refine s_draw hg₁ (by omega) (by omega) (fun J2₁ g2₁ => ⟨hC₁.1, ?_⟩)
    rw [a1₁]
    rw [a1₁] at g2₁
    exact go₁ 2 _ _ _ J2₁ (fun b₁ hb₁ => by rw [g2₁, mup_ne hb₁, f1₁ b₁ hb₁]) (fun y₁ hy₁ => by rw [g2₁, mup_k hy₁, y1₁ y₁ hy₁]) (by rw [g2₁, mup_at]) rfl
  · exact ⟨fun z₁ => absurd z₁ (by decide), fun _ => ⟨fun z₁ => absurd z₁ (by decide), fun _ => ⟨fun z₁ => absurd z₁ (by decide), fun _ => ⟨fun _ => ⟨hC₁.1, go₁ 5 _ _ _ J₁ f1₁ y1₁ a1₁ rfl⟩, fun z₁ => absurd rfl z₁⟩⟩⟩⟩
  · exact ⟨fun z₁ => absurd z₁ (by decide), fun _ => ⟨fun z₁ => absurd z₁ (by decide), fun _ => ⟨fun z₁ => absurd z₁ (by decide), fun _ => ⟨fun z₁ => absurd z₁ (by decide), fun _ => ⟨fun _ => ⟨hC₁.1, go₁ 5 _ _ _ J₁ f1₁ y1₁ a1₁ rfl⟩, fun z₁ => absurd rfl z₁⟩⟩⟩⟩⟩
  · exact ⟨fun z₁ => absurd z₁ (by decide), fun _ => ⟨fun z₁ => absurd z₁ (by decide), fun _ => ⟨fun z₁ => absurd z₁ (by decide), fun _ => ⟨fun z₁ => absurd z₁ (by decide), fun _ => ⟨fun z₁ => absurd z₁ (by decide), fun _ => ⟨fun _ => ⟨hC₁.1, go₁ 6 _ _ _ J₁ f1₁ y1₁ a1₁ rfl⟩, fun z₁ => absurd rfl z₁⟩⟩⟩⟩⟩⟩
  · exact ⟨fun z₁ => absurd z₁ (by decide), fun _ => ⟨fun z₁ => absurd z₁ (by decide), fun _ => ⟨fun z₁ => absurd z₁ (by decide), fun _ => ⟨fun z₁ => absurd z₁ (by decide), fun _ => ⟨fun z₁ => absurd z₁ (by decide), fun _ => ⟨fun z₁ => absurd z₁ (by decide), fun _ => ⟨fun _ => ⟨hC₁.1, go₁ 7 _ _ _ J₁ f1₁ y1₁ a1₁ rfl⟩, fun z₁ => absurd rfl z₁⟩⟩⟩⟩⟩⟩⟩
  · refine ⟨fun z₁ => absurd z₁ (by decide), fun _ => ⟨fun z₁ => absurd z₁ (by decide), fun _ => ⟨fun z₁ => absurd z₁ (by decide), fun _ => ⟨fun z₁ => absurd z₁ (by decide), fun _ => ⟨fun z₁ => absurd z₁ (by decide), fun _ => ⟨fun z₁ => absurd z₁ (by decide), fun _ => ⟨fun z₁ => absurd z₁ (by decide), fun _ => s_draw (n₁ := 250) hg₁ (by decide) (by decide) (fun J2₁ g2₁ v38₁ g38₁ => ⟨hC₁.1, ?_⟩)⟩⟩⟩⟩⟩⟩⟩
    rw [a1₁] at g2₁ g38₁
    rw [nI_1] at g38₁
    subst g38₁
    have f2₁ : ∀ b₁, b₁ ≠ g₁ → J2₁ b₁ = I₁ b₁ := fun b₁ hb₁ => by rw [g2₁, mup_ne hb₁, f1₁ b₁ hb₁]
    have y2₁ : ∀ y₁, y₁ ≠ 0 → J2₁ g₁ y₁ = I₁ g₁ y₁ := fun y₁ hy₁ => by rw [g2₁, mup_k hy₁, y1₁ y₁ hy₁]
    have a2₁ : J2₁ g₁ 0 = drsS (drsS (I₁ g₁ 0)) := by rw [g2₁, mup_at]
    refine s_hasStop hC₁ (frg₁ J2₁ f2₁).1 ⟨fun z₁ => ?_, fun z₁ => ?_⟩
    · have z₁ := Decidable.not_not.mp (of_decide_eq_false z₁)
      exact go₁ 3 _ _ _ J2₁ f2₁ y2₁ a2₁ (by simp only [ddK₁]; rw [if_pos z₁])
    · have z₁ := of_decide_eq_true z₁
      exact go₁ 4 _ _ _ J2₁ f2₁ y2₁ a2₁ (by simp only [ddK₁]; rw [if_neg z₁])
end UN₁
