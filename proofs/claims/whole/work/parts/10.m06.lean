def w_X12_packed_16  (x0 : Nat) (x1 : Int32) (x2 : Int32) (x3 : Int32)  (K : MK) (N : MK) (I : MI) (L : ML) (R : MR)  (Q : Int32 → MI → Prop) : Prop := ∃ J : Nat → Nat → Int32 → Int32 → Int32 → MI → Prop, (∃ n, J n x0 x1 x2 x3 I) ∧ ∀ (n : Nat) (x0 : Nat) (x1 : Int32) (x2 : Int32) (x3 : Int32) (I : MI), J n x0 x1 x2 x3 I → K x0 = 13 ∧ ∃ b5 : Nat, R x0 14 = some b5 ∧ K b5 = 14 ∧ vp_in 1 (N b5) ∧ ((I b5 (ix 1)) ≤ x3 → ∃ b8 : Nat, R x0 32 = some b8 ∧ K b8 = 14 ∧ vp_in (I x0 35) (N b8) ∧ ∀ I11 : MI, I11 = mup I b8 (ix (I x0 35)) 0 → ∀ I12 : MI, I12 = mup I11 x0 35 ((I11 x0 35) + 1) → Q (I12 x0 35) I12) ∧ (¬ (I b5 (ix 1)) ≤ x3 → vp_in ((6 : Int32) + x3) (N b5) ∧ vp_in ((36 : Int32) + x3) (N b5) ∧ w_X12_packRow x0 ((I b5 (ix ((6 : Int32) + x3))) - x1) ((I b5 (ix ((36 : Int32) + x3))) - x2) K N I L R (fun I15 => ∀ v16 : Int32, v16 = (I15 b5 (ix ((6 : Int32) + x3))) → ∀ v17 : Int32, v17 = (I15 b5 (ix ((36 : Int32) + x3))) → ∀ v18 : Int32, v18 = x3 + 1 → ∃ n1, n1 < n ∧ J n1 x0 v16 v17 v18 I15))
def w_X12_packed  (a0 : Nat) (K : MK) (N : MK) (I : MI) (L : ML) (R : MR) (Q : Int32 → MI → Prop) : Prop := K a0 = 13 ∧ ∀ I2 : MI, I2 = mup I a0 0 0 → ∀ I3 : MI, I3 = mup I2 a0 35 0 → w_X12_packed_16 a0 0 1 0 K N I3 L R Q
set_option maxHeartbeats 4000000 in
set_option maxRecDepth 100000 in
theorem z_X12_packed_16 {X : ZX} {G : ZG}  {x0 : Nat} {x1 : Int32} {x2 : Int32} {x3 : Int32}  {K : MK} {N : MK} {I : MI} {L : ML} {R : MR}  {Q : Int32 → MI → Prop} (hC : ZOk X G RX12 cX12_packed 4 (some .int)) (hRm : X.2.2.2.1 = rm_X12_packed) (h : w_X12_packed_16 x0 x1 x2 x3 K N I L R  Q) : Z X G 4 0 0 (z_T X G (qIi K N L R Q) 0 0) K N I L R 16 [(0, .ref x0), (1, .int x1), (2, .int x2), (3, .int x3)] [] := by
  delta w_X12_packed_16 at h
  obtain ⟨J, ⟨n, h0⟩, hs⟩ := h
  have key : ∀ (n : Nat) (x0 : Nat) (x1 : Int32) (x2 : Int32) (x3 : Int32) (I : MI), J n x0 x1 x2 x3 I → Z X G 4 0 0 (z_T X G (qIi K N L R Q) 0 0) K N I L R 16 [(0, .ref x0), (1, .int x1), (2, .int x2), (3, .int x3)] [] := by
    intro n
    induction n using Nat.strongRecOn with
    | _ n ih =>
      intro x0 x1 x2 x3 I hJ
      have hC16 : ∀ (y0 : Nat) (y1 : Int32) (y2 : Int32) (y3 : Int32) (zI : MI), (∃ n1, n1 < n ∧ J n1 y0 y1 y2 y3 zI) → Z X G 4 0 0 (z_T X G (qIi K N L R Q) 0 0) K N zI L R 16 [(0, .ref y0), (1, .int y1), (2, .int y2), (3, .int y3)] [] := fun y0 y1 y2 y3 zI ⟨n1, hn1, hj⟩ => ih n1 hn1 y0 y1 y2 y3 zI hj
      have h := hs n x0 x1 x2 x3 I hJ
      refine z_iload_n hC (q := 3) dX12_packed_16 rfl rfl ?_
      refine z_aload_n hC (q := 0) dX12_packed_17 rfl rfl ?_
      obtain ⟨hk4, h⟩ := h
      obtain ⟨b5, hb5, h⟩ := h
      refine gf_RX12_98 hC dX12_packed_18 hk4 hb5 ?_
      refine z_iconst hC (v := 1) k_iconst_1 dX12_packed_21 ?_
      obtain ⟨hk6, h⟩ := h
      obtain ⟨hi7, h⟩ := h
      refine z_iaload hC hk6 hi7 dX12_packed_22 ?_
      refine z_icmp_ge hC (tgt := 78) dX12_packed_23 (by decide) (fun hc => ?_) (fun hc => ?_)
      · have h := h.1 hc
        refine z_aload_n hC (q := 0) dX12_packed_78 rfl rfl ?_
        obtain ⟨b8, hb8, h⟩ := h
        refine gf_RX12_139 hC dX12_packed_79 hk4 hb8 ?_
        refine z_aload_n hC (q := 0) dX12_packed_82 rfl rfl ?_
        refine gf_RX12_394 hC dX12_packed_83 hk4 ?_
        refine z_iconst hC (v := 0) k_iconst_0 dX12_packed_86 ?_
        obtain ⟨hk9, h⟩ := h
        obtain ⟨hi10, h⟩ := h
        refine z_iastore hC hk9 hi10 dX12_packed_87 ?_
        refine z_genI (fun I11 eI11 => ?_)
        have h := h I11 eI11
        refine z_aload_n hC (q := 0) dX12_packed_88 rfl rfl ?_
        refine z_dup hC rfl dX12_packed_89 ?_
        refine gf_RX12_394 hC dX12_packed_90 hk4 ?_
        refine z_iconst hC (v := 1) k_iconst_1 dX12_packed_93 ?_
        refine z_iadd hC dX12_packed_94 ?_
        refine pf_RX12_394 hC dX12_packed_95 hk4 ?_
        refine z_genI (fun I12 eI12 => ?_)
        have h := h I12 eI12
        refine z_aload_n hC (q := 0) dX12_packed_98 rfl rfl ?_
        refine gf_RX12_394 hC dX12_packed_99 hk4 ?_
        exact z_iret hC dX12_packed_102 ⟨_, rfl, rfl, rfl, rfl, rfl, h⟩
      · have h := h.2 hc
        refine z_aload_n hC (q := 0) dX12_packed_26 rfl rfl ?_
        refine z_aload_n hC (q := 0) dX12_packed_27 rfl rfl ?_
        refine gf_RX12_98 hC dX12_packed_28 hk4 hb5 ?_
        refine z_bipush hC (v := 6) k_bipush_6 dX12_packed_31 ?_
        refine z_iload_n hC (q := 3) dX12_packed_33 rfl rfl ?_
        refine z_iadd hC dX12_packed_34 ?_
        obtain ⟨hi13, h⟩ := h
        refine z_iaload hC hk6 hi13 dX12_packed_35 ?_
        refine z_iload_n hC (q := 1) dX12_packed_36 rfl rfl ?_
        refine z_isub hC dX12_packed_37 ?_
        refine z_aload_n hC (q := 0) dX12_packed_38 rfl rfl ?_
        refine gf_RX12_98 hC dX12_packed_39 hk4 hb5 ?_
        refine z_bipush hC (v := 36) k_bipush_36 dX12_packed_42 ?_
        refine z_iload_n hC (q := 3) dX12_packed_44 rfl rfl ?_
        refine z_iadd hC dX12_packed_45 ?_
        obtain ⟨hi14, h⟩ := h
        refine z_iaload hC hk6 hi14 dX12_packed_46 ?_
        refine z_iload_n hC (q := 2) dX12_packed_47 rfl rfl ?_
        refine z_isub hC dX12_packed_48 ?_
        refine cl_RX12_397 hC (c_X12_packRow _ G x0 ((I b5 (ix ((6 : Int32) + x3))) - x1) ((I b5 (ix ((36 : Int32) + x3))) - x2) K N I L R _ h) hk4 dX12_packed_49 (by rw [hRm]; exact ⟨Nat.le_of_ble_eq_true rfl, Nat.le_of_ble_eq_true rfl⟩) ⟨Nat.zero_le _, Nat.zero_le _⟩ (Nat.le_of_ble_eq_true rfl) (z_kIv (I := I) (fun I15 h => ?_))
        refine z_aload_n hC (q := 0) dX12_packed_52 rfl rfl ?_
        refine gf_RX12_98 hC dX12_packed_53 hk4 hb5 ?_
        refine z_bipush hC (v := 6) k_bipush_6 dX12_packed_56 ?_
        refine z_iload_n hC (q := 3) dX12_packed_58 rfl rfl ?_
        refine z_iadd hC dX12_packed_59 ?_
        refine z_iaload hC hk6 hi13 dX12_packed_60 ?_
        refine z_topi (fun v16 ev16 => ?_)
        have h := h v16 ev16
        refine z_istore_n hC (lv1 := [(1, .int v16), (0, .ref x0), (2, .int x2), (3, .int x3)]) dX12_packed_61 rfl (by decide) rfl ?_
        refine z_aload_n hC (q := 1) dX12_packed_62 rfl rfl ?_
        refine gf_RX12_98 hC dX12_packed_63 hk4 hb5 ?_
        refine z_bipush hC (v := 36) k_bipush_36 dX12_packed_66 ?_
        refine z_iload_n hC (q := 3) dX12_packed_68 rfl rfl ?_
        refine z_iadd hC dX12_packed_69 ?_
        refine z_iaload hC hk6 hi14 dX12_packed_70 ?_
        refine z_topi (fun v17 ev17 => ?_)
        have h := h v17 ev17
        refine z_istore_n hC (lv1 := [(2, .int v17), (1, .int v16), (0, .ref x0), (3, .int x3)]) dX12_packed_71 rfl (by decide) rfl ?_
        obtain ⟨v18, ev18⟩ : ∃ y : Int32, y = x3 + 1 := ⟨_, rfl⟩
        have h := h v18 ev18
        refine z_iinc hC (q := 3) (v := v18) (lv1 := [(3, .int v18), (2, .int v17), (1, .int v16), (0, .ref x0)]) dX12_packed_72 rfl (by rw [ev18, k_iinc_1]) (by decide) rfl ?_
        refine z_goto hC (tgt := 16) dX12_packed_75 (by decide) ?_
        exact z_sub [(0, .ref x0), (1, .int v16), (2, .int v17), (3, .int v18)] [3, 2, 1, 0] rfl (hC16 _ _ _ _ _ h)
  exact key n x0 x1 x2 x3 I h0
set_option maxHeartbeats 4000000 in
set_option maxRecDepth 100000 in
theorem c_X12_packed  (l : Launch) (G : ZG) (a0 : Nat) (K : MK) (N : MK) (I : MI) (L : ML) (R : MR) (Q : Int32 → MI → Prop) (h : w_X12_packed a0 K N I L R Q) : Met l yX12_packed (.code yX12_packed cX12_packed 4 (some .int) :: z_tbl) rm_X12_packed (z_Pc G [.ref a0] K N I L R) (z_Qc G (qIi K N L R Q)) 0 0 (z_A G) := by
  refine z_met (by decide) (Nat.le_of_ble_eq_true rfl) (fun X hX hRm hC0 hnm => ?_)
  subst hX
  have hC : ZOk X G RX12 cX12_packed 4 (some .int) := hC0
  show Z X G 4 0 0 _ K N I L R 0 [(0, .ref a0)] []
  delta w_X12_packed at h
  refine z_aload_n hC (q := 0) dX12_packed_0 rfl rfl ?_
  refine z_iconst hC (v := 0) k_iconst_0 dX12_packed_1 ?_
  obtain ⟨hk1, h⟩ := h
  refine pf_RX12_1 hC dX12_packed_2 hk1 ?_
  refine z_genI (fun I2 eI2 => ?_)
  have h := h I2 eI2
  refine z_aload_n hC (q := 0) dX12_packed_5 rfl rfl ?_
  refine z_iconst hC (v := 0) k_iconst_0 dX12_packed_6 ?_
  refine pf_RX12_394 hC dX12_packed_7 hk1 ?_
  refine z_genI (fun I3 eI3 => ?_)
  have h := h I3 eI3
  refine z_iconst hC (v := 0) k_iconst_0 dX12_packed_10 ?_
  refine z_istore_n hC (lv1 := [(1, .int 0), (0, .ref a0)]) dX12_packed_11 rfl (by decide) rfl ?_
  refine z_iconst hC (v := 1) k_iconst_1 dX12_packed_12 ?_
  refine z_istore_n hC (lv1 := [(2, .int 1), (1, .int 0), (0, .ref a0)]) dX12_packed_13 rfl (by decide) rfl ?_
  refine z_iconst hC (v := 0) k_iconst_0 dX12_packed_14 ?_
  refine z_istore_n hC (lv1 := [(3, .int 0), (2, .int 1), (1, .int 0), (0, .ref a0)]) dX12_packed_15 rfl (by decide) rfl ?_
  exact z_sub [(0, .ref a0), (1, .int 0), (2, .int 1), (3, .int 0)] [3, 2, 1, 0] rfl (z_X12_packed_16 hC hRm h)
def w_X12_packedAt  (a0 : Nat) (a1 : Int32) (K : MK) (N : MK) (I : MI) (L : ML) (R : MR) (Q : Int32 → MI → Prop) : Prop := K a0 = 13 ∧ ∀ I2 : MI, I2 = mup I a0 0 0 → w_X12_isIn a1 0 ((I2 a0 35) - 1) K N I2 L R (fun r3 => (r3 = false → Q (-1) I2) ∧ (r3 = true → ∃ b4 : Nat, R a0 32 = some b4 ∧ K b4 = 14 ∧ vp_in a1 (N b4) ∧ Q (I2 b4 (ix a1)) I2))
set_option maxHeartbeats 4000000 in
set_option maxRecDepth 100000 in
theorem c_X12_packedAt  (l : Launch) (G : ZG) (a0 : Nat) (a1 : Int32) (K : MK) (N : MK) (I : MI) (L : ML) (R : MR) (Q : Int32 → MI → Prop) (h : w_X12_packedAt a0 a1 K N I L R Q) : Met l yX12_packedAt (.code yX12_packedAt cX12_packedAt 2 (some .int) :: z_tbl) rm_X12_packedAt (z_Pc G [.ref a0, .int a1] K N I L R) (z_Qc G (qIi K N L R Q)) 0 0 (z_A G) := by
  refine z_met (by decide) (Nat.le_of_ble_eq_true rfl) (fun X hX hRm hC0 hnm => ?_)
  subst hX
  have hC : ZOk X G RX12 cX12_packedAt 2 (some .int) := hC0
  show Z X G 2 0 0 _ K N I L R 0 [(0, .ref a0), (1, .int a1)] []
  delta w_X12_packedAt at h
  refine z_aload_n hC (q := 0) dX12_packedAt_0 rfl rfl ?_
  refine z_iconst hC (v := 0) k_iconst_0 dX12_packedAt_1 ?_
  obtain ⟨hk1, h⟩ := h
  refine pf_RX12_1 hC dX12_packedAt_2 hk1 ?_
  refine z_genI (fun I2 eI2 => ?_)
  have h := h I2 eI2
  refine z_iload_n hC (q := 1) dX12_packedAt_5 rfl rfl ?_
  refine z_iconst hC (v := 0) k_iconst_0 dX12_packedAt_6 ?_
  refine z_aload_n hC (q := 0) dX12_packedAt_7 rfl rfl ?_
  refine gf_RX12_394 hC dX12_packedAt_8 hk1 ?_
  refine z_iconst hC (v := 1) k_iconst_1 dX12_packedAt_11 ?_
  refine z_isub hC dX12_packedAt_12 ?_
  refine cl_RX12_75 hC (c_X12_isIn _ G a1 0 ((I2 a0 35) - 1) K N I2 L R _ h) dX12_packedAt_13 (by rw [hRm]; exact ⟨Nat.le_of_ble_eq_true rfl, Nat.le_of_ble_eq_true rfl⟩) ⟨Nat.zero_le _, Nat.zero_le _⟩ (Nat.le_of_ble_eq_true rfl) (z_kPz (fun r3 h => ?_))
  refine z_ifz_eq hC (tgt := 28) dX12_packedAt_16 (by decide) (fun hc => ?_) (fun hc => ?_)
  · have h := h.1 hc
    refine z_iconst hC (v := (-1)) k_iconst_m1 dX12_packedAt_28 ?_
    exact z_iret hC dX12_packedAt_29 ⟨_, rfl, rfl, rfl, rfl, rfl, h⟩
  · have h := h.2 hc
    refine z_aload_n hC (q := 0) dX12_packedAt_19 rfl rfl ?_
    obtain ⟨b4, hb4, h⟩ := h
    refine gf_RX12_139 hC dX12_packedAt_20 hk1 hb4 ?_
    refine z_iload_n hC (q := 1) dX12_packedAt_23 rfl rfl ?_
    obtain ⟨hk5, h⟩ := h
    obtain ⟨hi6, h⟩ := h
    refine z_iaload hC hk5 hi6 dX12_packedAt_24 ?_
    refine z_goto hC (tgt := 29) dX12_packedAt_25 (by decide) ?_
    exact z_iret hC dX12_packedAt_29 ⟨_, rfl, rfl, rfl, rfl, rfl, h⟩
def w_X12_addRow_34  (x0 : Nat)  (K : MK) (N : MK) (I : MI) (L : ML) (R : MR)  (Q : Bool → MI → Prop) : Prop := K x0 = 13 ∧ w_X12_isIn (I x0 45) 1 250 K N I L R (fun r3 => (r3 = true → ∃ b4 : Nat, R x0 38 = some b4 ∧ K b4 = 14 ∧ vp_in (I x0 42) (N b4) ∧ ∀ I7 : MI, I7 = mup I b4 (ix (I x0 42)) (I x0 44) → ∃ b8 : Nat, R x0 39 = some b8 ∧ K b8 = 14 ∧ vp_in (I7 x0 42) (N b8) ∧ ∀ I11 : MI, I11 = mup I7 b8 (ix (I7 x0 42)) (I7 x0 45) → ∀ I12 : MI, I12 = mup I11 x0 42 ((I11 x0 42) + 1) → Q true I12) ∧ (r3 = false → Q false I))
def w_X12_addRow  (a0 : Nat) (K : MK) (N : MK) (I : MI) (L : ML) (R : MR) (Q : Bool → MI → Prop) : Prop := K a0 = 13 ∧ ((I a0 42) = 30 → Q false I) ∧ (¬ (I a0 42) = 30 → ((I a0 42) ≤ 0 → w_X12_addRow_34 a0 K N I L R Q) ∧ (¬ (I a0 42) ≤ 0 → ∃ b13 : Nat, R a0 38 = some b13 ∧ K b13 = 14 ∧ vp_in ((I a0 42) - 1) (N b13) ∧ ((I a0 44) ≤ (I b13 (ix ((I a0 42) - 1))) → Q false I) ∧ (¬ (I a0 44) ≤ (I b13 (ix ((I a0 42) - 1))) → w_X12_addRow_34 a0 K N I L R Q)))
set_option maxHeartbeats 4000000 in
set_option maxRecDepth 100000 in
theorem z_X12_addRow_34 {X : ZX} {G : ZG}  {x0 : Nat}  {K : MK} {N : MK} {I : MI} {L : ML} {R : MR}  {Q : Bool → MI → Prop} (hC : ZOk X G RX12 cX12_addRow 1 (some .boolean)) (hRm : X.2.2.2.1 = rm_X12_addRow) (h : w_X12_addRow_34 x0 K N I L R  Q) : Z X G 1 0 0 (z_T X G (qIz K N L R Q) 0 0) K N I L R 34 [(0, .ref x0)] [] := by
  delta w_X12_addRow_34 at h
  refine z_aload_n hC (q := 0) dX12_addRow_34 rfl rfl ?_
  obtain ⟨hk2, h⟩ := h
  refine gf_RX12_407 hC dX12_addRow_35 hk2 ?_
  refine z_iconst hC (v := 1) k_iconst_1 dX12_addRow_38 ?_
  refine z_sipush hC (v := 250) k_sipush_250 dX12_addRow_39 ?_
  refine cl_RX12_75 hC (c_X12_isIn _ G (I x0 45) 1 250 K N I L R _ h) dX12_addRow_42 (by rw [hRm]; exact ⟨Nat.le_of_ble_eq_true rfl, Nat.le_of_ble_eq_true rfl⟩) ⟨Nat.zero_le _, Nat.zero_le _⟩ (Nat.le_of_ble_eq_true rfl) (z_kPz (fun r3 h => ?_))
  refine z_ifz_ne hC (tgt := 50) dX12_addRow_45 (by decide) (fun hc => ?_) (fun hc => ?_)
  · have h := h.1 hc
    refine z_aload_n hC (q := 0) dX12_addRow_50 rfl rfl ?_
    obtain ⟨b4, hb4, h⟩ := h
    refine gf_RX12_148 hC dX12_addRow_51 hk2 hb4 ?_
    refine z_aload_n hC (q := 0) dX12_addRow_54 rfl rfl ?_
    refine gf_RX12_401 hC dX12_addRow_55 hk2 ?_
    refine z_aload_n hC (q := 0) dX12_addRow_58 rfl rfl ?_
    refine gf_RX12_404 hC dX12_addRow_59 hk2 ?_
    obtain ⟨hk5, h⟩ := h
    obtain ⟨hi6, h⟩ := h
    refine z_iastore hC hk5 hi6 dX12_addRow_62 ?_
    refine z_genI (fun I7 eI7 => ?_)
    have h := h I7 eI7
    refine z_aload_n hC (q := 0) dX12_addRow_63 rfl rfl ?_
    obtain ⟨b8, hb8, h⟩ := h
    refine gf_RX12_151 hC dX12_addRow_64 hk2 hb8 ?_
    refine z_aload_n hC (q := 0) dX12_addRow_67 rfl rfl ?_
    refine gf_RX12_401 hC dX12_addRow_68 hk2 ?_
    refine z_aload_n hC (q := 0) dX12_addRow_71 rfl rfl ?_
    refine gf_RX12_407 hC dX12_addRow_72 hk2 ?_
    obtain ⟨hk9, h⟩ := h
    obtain ⟨hi10, h⟩ := h
    refine z_iastore hC hk9 hi10 dX12_addRow_75 ?_
    refine z_genI (fun I11 eI11 => ?_)
    have h := h I11 eI11
    refine z_aload_n hC (q := 0) dX12_addRow_76 rfl rfl ?_
    refine z_dup hC rfl dX12_addRow_77 ?_
    refine gf_RX12_401 hC dX12_addRow_78 hk2 ?_
    refine z_iconst hC (v := 1) k_iconst_1 dX12_addRow_81 ?_
    refine z_iadd hC dX12_addRow_82 ?_
    refine pf_RX12_401 hC dX12_addRow_83 hk2 ?_
    refine z_genI (fun I12 eI12 => ?_)
    have h := h I12 eI12
    refine z_iconst hC (v := 1) k_iconst_1 dX12_addRow_86 ?_
    exact z_zret (b := true) hC dX12_addRow_87 rfl ⟨true, rfl, rfl, rfl, rfl, rfl, h⟩
  · have h := h.2 hc
    refine z_iconst hC (v := 0) k_iconst_0 dX12_addRow_48 ?_
    exact z_zret (b := false) hC dX12_addRow_49 rfl ⟨false, rfl, rfl, rfl, rfl, rfl, h⟩
set_option maxHeartbeats 4000000 in
set_option maxRecDepth 100000 in
theorem c_X12_addRow  (l : Launch) (G : ZG) (a0 : Nat) (K : MK) (N : MK) (I : MI) (L : ML) (R : MR) (Q : Bool → MI → Prop) (h : w_X12_addRow a0 K N I L R Q) : Met l yX12_addRow (.code yX12_addRow cX12_addRow 1 (some .boolean) :: z_tbl) rm_X12_addRow (z_Pc G [.ref a0] K N I L R) (z_Qc G (qIz K N L R Q)) 0 0 (z_A G) := by
  refine z_met (by decide) (Nat.le_of_ble_eq_true rfl) (fun X hX hRm hC0 hnm => ?_)
  subst hX
  have hC : ZOk X G RX12 cX12_addRow 1 (some .boolean) := hC0
  show Z X G 1 0 0 _ K N I L R 0 [(0, .ref a0)] []
  delta w_X12_addRow at h
  refine z_aload_n hC (q := 0) dX12_addRow_0 rfl rfl ?_
  obtain ⟨hk1, h⟩ := h
  refine gf_RX12_401 hC dX12_addRow_1 hk1 ?_
  refine z_bipush hC (v := 30) k_bipush_30 dX12_addRow_4 ?_
  refine z_icmp_eq hC (tgt := 48) dX12_addRow_6 (by decide) (fun hc => ?_) (fun hc => ?_)
  · have h := h.1 hc
    refine z_iconst hC (v := 0) k_iconst_0 dX12_addRow_48 ?_
    exact z_zret (b := false) hC dX12_addRow_49 rfl ⟨false, rfl, rfl, rfl, rfl, rfl, h⟩
  · have h := h.2 hc
    refine z_aload_n hC (q := 0) dX12_addRow_9 rfl rfl ?_
    refine gf_RX12_401 hC dX12_addRow_10 hk1 ?_
    refine z_if_le hC (tgt := 34) dX12_addRow_13 (by decide) (fun hc => ?_) (fun hc => ?_)
    · have h := h.1 hc
      exact z_sub [(0, .ref a0)] [0] rfl (z_X12_addRow_34 hC hRm h)
    · have h := h.2 hc
      refine z_aload_n hC (q := 0) dX12_addRow_16 rfl rfl ?_
      refine gf_RX12_404 hC dX12_addRow_17 hk1 ?_
      refine z_aload_n hC (q := 0) dX12_addRow_20 rfl rfl ?_
      obtain ⟨b13, hb13, h⟩ := h
      refine gf_RX12_148 hC dX12_addRow_21 hk1 hb13 ?_
      refine z_aload_n hC (q := 0) dX12_addRow_24 rfl rfl ?_
      refine gf_RX12_401 hC dX12_addRow_25 hk1 ?_
      refine z_iconst hC (v := 1) k_iconst_1 dX12_addRow_28 ?_
      refine z_isub hC dX12_addRow_29 ?_
      obtain ⟨hk14, h⟩ := h
      obtain ⟨hi15, h⟩ := h
      refine z_iaload hC hk14 hi15 dX12_addRow_30 ?_
      refine z_icmp_le hC (tgt := 48) dX12_addRow_31 (by decide) (fun hc => ?_) (fun hc => ?_)
      · have h := h.1 hc
        refine z_iconst hC (v := 0) k_iconst_0 dX12_addRow_48 ?_
        exact z_zret (b := false) hC dX12_addRow_49 rfl ⟨false, rfl, rfl, rfl, rfl, rfl, h⟩
      · have h := h.2 hc
        exact z_sub [(0, .ref a0)] [0] rfl (z_X12_addRow_34 hC hRm h)
def w_X12_goesOn  (a0 : Nat) (a1 : Int32) (K : MK) (N : MK) (I : MI) (L : ML) (R : MR) (Q : Bool → MI → Prop) : Prop := K a0 = 13 ∧ ∀ I2 : MI, I2 = mup I a0 44 ((I a0 44) + a1) → ((256 : Int32) ≤ (I2 a0 44) → Q false I2) ∧ (¬ (256 : Int32) ≤ (I2 a0 44) → Q true I2)
set_option maxHeartbeats 4000000 in
set_option maxRecDepth 100000 in
theorem c_X12_goesOn  (l : Launch) (G : ZG) (a0 : Nat) (a1 : Int32) (K : MK) (N : MK) (I : MI) (L : ML) (R : MR) (Q : Bool → MI → Prop) (h : w_X12_goesOn a0 a1 K N I L R Q) : Met l yX12_goesOn (.code yX12_goesOn cX12_goesOn 2 (some .boolean) :: z_tbl) rm_X12_goesOn (z_Pc G [.ref a0, .int a1] K N I L R) (z_Qc G (qIz K N L R Q)) 0 0 (z_A G) := by
  refine z_met (by decide) (Nat.le_of_ble_eq_true rfl) (fun X hX hRm hC0 hnm => ?_)
  subst hX
  have hC : ZOk X G RX12 cX12_goesOn 2 (some .boolean) := hC0
  show Z X G 2 0 0 _ K N I L R 0 [(0, .ref a0), (1, .int a1)] []
  delta w_X12_goesOn at h
  refine z_aload_n hC (q := 0) dX12_goesOn_0 rfl rfl ?_
  refine z_dup hC rfl dX12_goesOn_1 ?_
  obtain ⟨hk1, h⟩ := h
  refine gf_RX12_404 hC dX12_goesOn_2 hk1 ?_
  refine z_iload_n hC (q := 1) dX12_goesOn_5 rfl rfl ?_
  refine z_iadd hC dX12_goesOn_6 ?_
  refine pf_RX12_404 hC dX12_goesOn_7 hk1 ?_
  refine z_genI (fun I2 eI2 => ?_)
  have h := h I2 eI2
  refine z_aload_n hC (q := 0) dX12_goesOn_10 rfl rfl ?_
  refine gf_RX12_404 hC dX12_goesOn_11 hk1 ?_
  refine z_sipush hC (v := 256) k_sipush_256 dX12_goesOn_14 ?_
  refine z_icmp_ge hC (tgt := 24) dX12_goesOn_17 (by decide) (fun hc => ?_) (fun hc => ?_)
  · have h := h.1 hc
    refine z_iconst hC (v := 0) k_iconst_0 dX12_goesOn_24 ?_
    exact z_zret (b := false) hC dX12_goesOn_25 rfl ⟨false, rfl, rfl, rfl, rfl, rfl, h⟩
  · have h := h.2 hc
    refine z_iconst hC (v := 1) k_iconst_1 dX12_goesOn_20 ?_
    refine z_goto hC (tgt := 25) dX12_goesOn_21 (by decide) ?_
    exact z_zret (b := true) hC dX12_goesOn_25 rfl ⟨true, rfl, rfl, rfl, rfl, rfl, h⟩
def w_X12_unpackOp  (a0 : Nat) (a1 : Int32) (a2 : Int32) (K : MK) (N : MK) (I : MI) (L : ML) (R : MR) (Q : Int32 → MI → Prop) : Prop := K a0 = 13 ∧ ∃ b2 : Nat, R a0 1 = some b2 ∧ K b2 = 14 ∧ vp_in a1 (N b2) ∧ ∀ v5 : Int32, v5 = (I b2 (ix a1)) → (v5 = 1 → w_X12_addRow a0 K N I L R (fun r6 I7 => (r6 = false → Q 0 I7) ∧ (r6 = true → Q 1 I7))) ∧ (¬ v5 = 1 → (v5 = 2 → (a2 ≤ (a1 + 1) → Q 0 I) ∧ (¬ a2 ≤ (a1 + 1) → vp_in (a1 + 1) (N b2) ∧ w_X12_goesOn a0 (I b2 (ix (a1 + 1))) K N I L R (fun r9 I10 => (r9 = false → Q 0 I10) ∧ (r9 = true → Q 2 I10)))) ∧ (¬ v5 = 2 → (v5 = 3 → ((a1 + 2) < a2 → vp_in (a1 + 1) (N b2) ∧ vp_in (a1 + 2) (N b2) ∧ ∀ v13 : Int32, v13 = (((256 : Int32) * (I b2 (ix (a1 + 1)))) + (I b2 (ix (a1 + 2)))) → ((32768 : Int32) ≤ v13 → ∀ I14 : MI, I14 = mup I a0 45 ((I a0 45) + (v13 - 65536)) → Q 3 I14) ∧ (¬ (32768 : Int32) ≤ v13 → ∀ I15 : MI, I15 = mup I a0 45 ((I a0 45) + v13) → Q 3 I15)) ∧ (¬ (a1 + 2) < a2 → Q 0 I)) ∧ (¬ v5 = 3 → (v5 = 4 → w_X12_goesOn a0 17 K N I L R (fun r16 I17 => (r16 = false → Q 0 I17) ∧ (r16 = true → Q 1 I17))) ∧ (¬ v5 = 4 → (v5 < 10 → Q 0 I) ∧ (¬ v5 < 10 → w_X12_goesOn a0 ((v5 - 10) / 12) K N I L R (fun r18 I19 => (r18 = true → ∀ I20 : MI, I20 = mup I19 a0 45 ((I19 a0 45) + (((v5 - 10) - (v5 - 10) / 12 * 12) - 4)) → w_X12_addRow a0 K N I20 L R (fun r21 I22 => (r21 = false → Q 0 I22) ∧ (r21 = true → Q 1 I22))) ∧ (r18 = false → Q 0 I19)))))))
set_option maxHeartbeats 4000000 in
set_option maxRecDepth 100000 in
theorem c_X12_unpackOp  (l : Launch) (G : ZG) (a0 : Nat) (a1 : Int32) (a2 : Int32) (K : MK) (N : MK) (I : MI) (L : ML) (R : MR) (Q : Int32 → MI → Prop) (h : w_X12_unpackOp a0 a1 a2 K N I L R Q) : Met l yX12_unpackOp (.code yX12_unpackOp cX12_unpackOp 5 (some .int) :: z_tbl) rm_X12_unpackOp (z_Pc G [.ref a0, .int a1, .int a2] K N I L R) (z_Qc G (qIi K N L R Q)) 0 0 (z_A G) := by
  refine z_met (by decide) (Nat.le_of_ble_eq_true rfl) (fun X hX hRm hC0 hnm => ?_)
  subst hX
  have hC : ZOk X G RX12 cX12_unpackOp 5 (some .int) := hC0
  show Z X G 5 0 0 _ K N I L R 0 [(0, .ref a0), (1, .int a1), (2, .int a2)] []
  delta w_X12_unpackOp at h
  refine z_aload_n hC (q := 0) dX12_unpackOp_0 rfl rfl ?_
  obtain ⟨hk1, h⟩ := h
  obtain ⟨b2, hb2, h⟩ := h
  refine gf_RX12_7 hC dX12_unpackOp_1 hk1 hb2 ?_
  refine z_iload_n hC (q := 1) dX12_unpackOp_4 rfl rfl ?_
  obtain ⟨hk3, h⟩ := h
  obtain ⟨hi4, h⟩ := h
  refine z_iaload hC hk3 hi4 dX12_unpackOp_5 ?_
  refine z_topi (fun v5 ev5 => ?_)
  have h := h v5 ev5
  refine z_istore_n hC (lv1 := [(3, .int v5), (0, .ref a0), (1, .int a1), (2, .int a2)]) dX12_unpackOp_6 rfl (by decide) rfl ?_
  refine z_iload_n hC (q := 0) dX12_unpackOp_7 rfl rfl ?_
  by_cases hc0 : v5 = 1
  · have h := h.1 hc0
    refine z_tableIn hC (off := 32) (tgt := 40) 1 hc0 dX12_unpackOp_8 (by decide) (by decide) ?_
    refine z_aload_n hC (q := 1) dX12_unpackOp_40 rfl rfl ?_
    refine cl_RX12_410 hC (c_X12_addRow _ G a0 K N I L R _ h) hk1 dX12_unpackOp_41 (by rw [hRm]; exact ⟨Nat.le_of_ble_eq_true rfl, Nat.le_of_ble_eq_true rfl⟩) ⟨Nat.zero_le _, Nat.zero_le _⟩ (Nat.le_of_ble_eq_true rfl) (z_kIz (I := I) (fun r6 I7 h => ?_))
    refine z_ifz_eq hC (tgt := 51) dX12_unpackOp_44 (by decide) (fun hc => ?_) (fun hc => ?_)
    · have h := h.1 hc
      refine z_iconst hC (v := 0) k_iconst_0 dX12_unpackOp_51 ?_
      exact z_iret hC dX12_unpackOp_52 ⟨_, rfl, rfl, rfl, rfl, rfl, h⟩
    · have h := h.2 hc
      refine z_iconst hC (v := 1) k_iconst_1 dX12_unpackOp_47 ?_
      refine z_goto hC (tgt := 52) dX12_unpackOp_48 (by decide) ?_
      exact z_iret hC dX12_unpackOp_52 ⟨_, rfl, rfl, rfl, rfl, rfl, h⟩
  · have h := h.2 hc0
    by_cases hc1 : v5 = 2
    · have h := h.1 hc1
      refine z_tableIn hC (off := 45) (tgt := 53) 2 hc1 dX12_unpackOp_8 (by decide) (by decide) ?_
      refine z_iload_n hC (q := 2) dX12_unpackOp_53 rfl rfl ?_
      refine z_iconst hC (v := 1) k_iconst_1 dX12_unpackOp_54 ?_
      refine z_iadd hC dX12_unpackOp_55 ?_
      refine z_iload_n hC (q := 3) dX12_unpackOp_56 rfl rfl ?_
      refine z_icmp_ge hC (tgt := 79) dX12_unpackOp_57 (by decide) (fun hc => ?_) (fun hc => ?_)
      · have h := h.1 hc
        refine z_iconst hC (v := 0) k_iconst_0 dX12_unpackOp_79 ?_
        exact z_iret hC dX12_unpackOp_80 ⟨_, rfl, rfl, rfl, rfl, rfl, h⟩
      · have h := h.2 hc
        refine z_aload_n hC (q := 1) dX12_unpackOp_60 rfl rfl ?_
        refine z_aload_n hC (q := 1) dX12_unpackOp_61 rfl rfl ?_
        refine gf_RX12_7 hC dX12_unpackOp_62 hk1 hb2 ?_
        refine z_iload_n hC (q := 2) dX12_unpackOp_65 rfl rfl ?_
        refine z_iconst hC (v := 1) k_iconst_1 dX12_unpackOp_66 ?_
        refine z_iadd hC dX12_unpackOp_67 ?_
        obtain ⟨hi8, h⟩ := h
        refine z_iaload hC hk3 hi8 dX12_unpackOp_68 ?_
        refine cl_RX12_413 hC (c_X12_goesOn _ G a0 (I b2 (ix (a1 + 1))) K N I L R _ h) hk1 dX12_unpackOp_69 (by rw [hRm]; exact ⟨Nat.le_of_ble_eq_true rfl, Nat.le_of_ble_eq_true rfl⟩) ⟨Nat.zero_le _, Nat.zero_le _⟩ (Nat.le_of_ble_eq_true rfl) (z_kIz (I := I) (fun r9 I10 h => ?_))
        refine z_ifz_eq hC (tgt := 79) dX12_unpackOp_72 (by decide) (fun hc => ?_) (fun hc => ?_)
        · have h := h.1 hc
          refine z_iconst hC (v := 0) k_iconst_0 dX12_unpackOp_79 ?_
          exact z_iret hC dX12_unpackOp_80 ⟨_, rfl, rfl, rfl, rfl, rfl, h⟩
        · have h := h.2 hc
          refine z_iconst hC (v := 2) k_iconst_2 dX12_unpackOp_75 ?_
          refine z_goto hC (tgt := 80) dX12_unpackOp_76 (by decide) ?_
          exact z_iret hC dX12_unpackOp_80 ⟨_, rfl, rfl, rfl, rfl, rfl, h⟩
    · have h := h.2 hc1
      by_cases hc2 : v5 = 3
      · have h := h.1 hc2
        refine z_tableIn hC (off := 73) (tgt := 81) 3 hc2 dX12_unpackOp_8 (by decide) (by decide) ?_
        refine z_iload_n hC (q := 2) dX12_unpackOp_81 rfl rfl ?_
        refine z_iconst hC (v := 2) k_iconst_2 dX12_unpackOp_82 ?_
        refine z_iadd hC dX12_unpackOp_83 ?_
        refine z_iload_n hC (q := 3) dX12_unpackOp_84 rfl rfl ?_
        refine z_icmp_lt hC (tgt := 90) dX12_unpackOp_85 (by decide) (fun hc => ?_) (fun hc => ?_)
        · have h := h.1 hc
          refine z_sipush hC (v := 256) k_sipush_256 dX12_unpackOp_90 ?_
          refine z_aload_n hC (q := 1) dX12_unpackOp_93 rfl rfl ?_
          refine gf_RX12_7 hC dX12_unpackOp_94 hk1 hb2 ?_
          refine z_iload_n hC (q := 2) dX12_unpackOp_97 rfl rfl ?_
          refine z_iconst hC (v := 1) k_iconst_1 dX12_unpackOp_98 ?_
          refine z_iadd hC dX12_unpackOp_99 ?_
          obtain ⟨hi11, h⟩ := h
          refine z_iaload hC hk3 hi11 dX12_unpackOp_100 ?_
          refine z_imul hC dX12_unpackOp_101 ?_
          refine z_aload_n hC (q := 1) dX12_unpackOp_102 rfl rfl ?_
          refine gf_RX12_7 hC dX12_unpackOp_103 hk1 hb2 ?_
          refine z_iload_n hC (q := 2) dX12_unpackOp_106 rfl rfl ?_
          refine z_iconst hC (v := 2) k_iconst_2 dX12_unpackOp_107 ?_
          refine z_iadd hC dX12_unpackOp_108 ?_
          obtain ⟨hi12, h⟩ := h
          refine z_iaload hC hk3 hi12 dX12_unpackOp_109 ?_
          refine z_iadd hC dX12_unpackOp_110 ?_
          refine z_topi (fun v13 ev13 => ?_)
          have h := h v13 ev13
          refine z_istore hC (lv1 := [(4, .int v13), (3, .int v5), (0, .ref a0), (1, .int a1), (2, .int a2)]) dX12_unpackOp_111 (by decide) rfl ?_
          refine z_aload_n hC (q := 2) dX12_unpackOp_113 rfl rfl ?_
          refine z_dup hC rfl dX12_unpackOp_114 ?_
          refine gf_RX12_407 hC dX12_unpackOp_115 hk1 ?_
          refine z_iload hC (q := 0) dX12_unpackOp_118 rfl ?_
          refine z_ldcw hC cst_RX12_416 dX12_unpackOp_120 ?_
          refine z_icmp_ge hC (tgt := 131) dX12_unpackOp_123 (by decide) (fun hc => ?_) (fun hc => ?_)
          · have h := h.1 hc
            refine z_iload hC (q := 0) dX12_unpackOp_131 rfl ?_
            refine z_ldcw hC cst_RX12_417 dX12_unpackOp_133 ?_
            refine z_isub hC dX12_unpackOp_136 ?_
            refine z_iadd hC dX12_unpackOp_137 ?_
            refine pf_RX12_407 hC dX12_unpackOp_138 hk1 ?_
            refine z_genI (fun I14 eI14 => ?_)
            have h := h I14 eI14
            refine z_iconst hC (v := 3) k_iconst_3 dX12_unpackOp_141 ?_
            exact z_iret hC dX12_unpackOp_142 ⟨_, rfl, rfl, rfl, rfl, rfl, h⟩
          · have h := h.2 hc
            refine z_iload hC (q := 0) dX12_unpackOp_126 rfl ?_
            refine z_goto hC (tgt := 137) dX12_unpackOp_128 (by decide) ?_
            refine z_iadd hC dX12_unpackOp_137 ?_
            refine pf_RX12_407 hC dX12_unpackOp_138 hk1 ?_
            refine z_genI (fun I15 eI15 => ?_)
            have h := h I15 eI15
            refine z_iconst hC (v := 3) k_iconst_3 dX12_unpackOp_141 ?_
            exact z_iret hC dX12_unpackOp_142 ⟨_, rfl, rfl, rfl, rfl, rfl, h⟩
        · have h := h.2 hc
          refine z_iconst hC (v := 0) k_iconst_0 dX12_unpackOp_88 ?_
          exact z_iret hC dX12_unpackOp_89 ⟨_, rfl, rfl, rfl, rfl, rfl, h⟩
      · have h := h.2 hc2
        by_cases hc3 : v5 = 4
        · have h := h.1 hc3
          refine z_tableIn hC (off := 135) (tgt := 143) 4 hc3 dX12_unpackOp_8 (by decide) (by decide) ?_
          refine z_aload_n hC (q := 1) dX12_unpackOp_143 rfl rfl ?_
          refine z_bipush hC (v := 17) k_bipush_17 dX12_unpackOp_144 ?_
          refine cl_RX12_413 hC (c_X12_goesOn _ G a0 17 K N I L R _ h) hk1 dX12_unpackOp_146 (by rw [hRm]; exact ⟨Nat.le_of_ble_eq_true rfl, Nat.le_of_ble_eq_true rfl⟩) ⟨Nat.zero_le _, Nat.zero_le _⟩ (Nat.le_of_ble_eq_true rfl) (z_kIz (I := I) (fun r16 I17 h => ?_))
          refine z_ifz_eq hC (tgt := 156) dX12_unpackOp_149 (by decide) (fun hc => ?_) (fun hc => ?_)
          · have h := h.1 hc
            refine z_iconst hC (v := 0) k_iconst_0 dX12_unpackOp_156 ?_
            exact z_iret hC dX12_unpackOp_157 ⟨_, rfl, rfl, rfl, rfl, rfl, h⟩
          · have h := h.2 hc
            refine z_iconst hC (v := 1) k_iconst_1 dX12_unpackOp_152 ?_
            refine z_goto hC (tgt := 157) dX12_unpackOp_153 (by decide) ?_
            exact z_iret hC dX12_unpackOp_157 ⟨_, rfl, rfl, rfl, rfl, rfl, h⟩
        · have h := h.2 hc3
          have hout : v5.toInt < 1 ∨ 4 < v5.toInt := by
            have hc0 := z_nei hc0 (by decide : (1 : Int32).toInt = 1)
            have hc1 := z_nei hc1 (by decide : (2 : Int32).toInt = 2)
            have hc2 := z_nei hc2 (by decide : (3 : Int32).toInt = 3)
            have hc3 := z_nei hc3 (by decide : (4 : Int32).toInt = 4)
            omega
          refine z_tableOut hC (tgt := 158) dX12_unpackOp_8 hout (by decide) ?_
          refine z_iload_n hC (q := 0) dX12_unpackOp_158 rfl rfl ?_
          refine z_bipush hC (v := 10) k_bipush_10 dX12_unpackOp_159 ?_
          refine z_icmp_lt hC (tgt := 178) dX12_unpackOp_161 (by decide) (fun hc => ?_) (fun hc => ?_)
          · have h := h.1 hc
            refine z_iconst hC (v := 0) k_iconst_0 dX12_unpackOp_178 ?_
            exact z_iret hC dX12_unpackOp_179 ⟨_, rfl, rfl, rfl, rfl, rfl, h⟩
          · have h := h.2 hc
            refine z_aload_n hC (q := 1) dX12_unpackOp_164 rfl rfl ?_
            refine z_iload_n hC (q := 0) dX12_unpackOp_165 rfl rfl ?_
            refine z_bipush hC (v := 10) k_bipush_10 dX12_unpackOp_166 ?_
            refine z_isub hC dX12_unpackOp_168 ?_
            refine z_bipush hC (v := 12) k_bipush_12 dX12_unpackOp_169 ?_
            refine z_idiv hC (by decide) dX12_unpackOp_171 ?_
            refine cl_RX12_413 hC (c_X12_goesOn _ G a0 ((v5 - 10) / 12) K N I L R _ h) hk1 dX12_unpackOp_172 (by rw [hRm]; exact ⟨Nat.le_of_ble_eq_true rfl, Nat.le_of_ble_eq_true rfl⟩) ⟨Nat.zero_le _, Nat.zero_le _⟩ (Nat.le_of_ble_eq_true rfl) (z_kIz (I := I) (fun r18 I19 h => ?_))
            refine z_ifz_ne hC (tgt := 180) dX12_unpackOp_175 (by decide) (fun hc => ?_) (fun hc => ?_)
            · have h := h.1 hc
              refine z_aload_n hC (q := 1) dX12_unpackOp_180 rfl rfl ?_
              refine z_dup hC rfl dX12_unpackOp_181 ?_
              refine gf_RX12_407 hC dX12_unpackOp_182 hk1 ?_
              refine z_iload_n hC (q := 0) dX12_unpackOp_185 rfl rfl ?_
              refine z_bipush hC (v := 10) k_bipush_10 dX12_unpackOp_186 ?_
              refine z_isub hC dX12_unpackOp_188 ?_
              refine z_bipush hC (v := 12) k_bipush_12 dX12_unpackOp_189 ?_
              refine z_irem hC (by decide) dX12_unpackOp_191 ?_
              refine z_iconst hC (v := 4) k_iconst_4 dX12_unpackOp_192 ?_
              refine z_isub hC dX12_unpackOp_193 ?_
              refine z_iadd hC dX12_unpackOp_194 ?_
              refine pf_RX12_407 hC dX12_unpackOp_195 hk1 ?_
              refine z_genI (fun I20 eI20 => ?_)
              have h := h I20 eI20
              refine z_aload_n hC (q := 1) dX12_unpackOp_198 rfl rfl ?_
              refine cl_RX12_410 hC (c_X12_addRow _ G a0 K N I20 L R _ h) hk1 dX12_unpackOp_199 (by rw [hRm]; exact ⟨Nat.le_of_ble_eq_true rfl, Nat.le_of_ble_eq_true rfl⟩) ⟨Nat.zero_le _, Nat.zero_le _⟩ (Nat.le_of_ble_eq_true rfl) (z_kIz (I := I20) (fun r21 I22 h => ?_))
              refine z_ifz_eq hC (tgt := 209) dX12_unpackOp_202 (by decide) (fun hc => ?_) (fun hc => ?_)
              · have h := h.1 hc
                refine z_iconst hC (v := 0) k_iconst_0 dX12_unpackOp_209 ?_
                exact z_iret hC dX12_unpackOp_210 ⟨_, rfl, rfl, rfl, rfl, rfl, h⟩
              · have h := h.2 hc
                refine z_iconst hC (v := 1) k_iconst_1 dX12_unpackOp_205 ?_
                refine z_goto hC (tgt := 210) dX12_unpackOp_206 (by decide) ?_
                exact z_iret hC dX12_unpackOp_210 ⟨_, rfl, rfl, rfl, rfl, rfl, h⟩
            · have h := h.2 hc
              refine z_iconst hC (v := 0) k_iconst_0 dX12_unpackOp_178 ?_
              exact z_iret hC dX12_unpackOp_179 ⟨_, rfl, rfl, rfl, rfl, rfl, h⟩
def w_X12_unpacked_95  (x0 : Nat) (x3 : Int32)  (K : MK) (N : MK) (I : MI) (L : ML) (R : MR)  (Q : Int32 → MI → Prop) : Prop := ∃ J : Nat → Nat → Int32 → MI → Prop, (∃ n, J n x0 x3 I) ∧ ∀ (n : Nat) (x0 : Nat) (x3 : Int32) (I : MI), J n x0 x3 I → K x0 = 13 ∧ ((I x0 42) ≤ x3 → Q (I x0 42) I) ∧ (¬ (I x0 42) ≤ x3 → ∃ b11 : Nat, R x0 40 = some b11 ∧ ∃ b12 : Nat, R x0 38 = some b12 ∧ K b12 = 14 ∧ vp_in x3 (N b12) ∧ K b11 = 14 ∧ vp_in x3 (N b11) ∧ ∀ I17 : MI, I17 = mup I b11 (ix x3) (I b12 (ix x3)) → ∃ b18 : Nat, R x0 41 = some b18 ∧ ∃ b19 : Nat, R x0 39 = some b19 ∧ K b19 = 14 ∧ vp_in x3 (N b19) ∧ K b18 = 14 ∧ vp_in x3 (N b18) ∧ ∀ I24 : MI, I24 = mup I17 b18 (ix x3) (I17 b19 (ix x3)) → ∀ v25 : Int32, v25 = x3 + 1 → ∃ n1, n1 < n ∧ J n1 x0 v25 I24)
def w_X12_unpacked_63  (x0 : Nat) (x1 : Int32) (x2 : Int32)  (K : MK) (N : MK) (I : MI) (L : ML) (R : MR)  (Q : Int32 → MI → Prop) : Prop := (x2 < x1 → (x1 ≤ (x2 + 1) → K x0 = 13 ∧ ∀ I9 : MI, I9 = mup I x0 43 (I x0 42) → w_X12_unpacked_95 x0 0 K N I9 L R Q) ∧ (¬ x1 ≤ (x2 + 1) → Q ((-1 : Int32) - (x2 + 1)) I)) ∧ (¬ x2 < x1 → Q ((-1 : Int32) - x1) I)
def w_X12_unpacked_27  (x0 : Nat) (x1 : Int32) (x2 : Int32)  (K : MK) (N : MK) (I : MI) (L : ML) (R : MR)  (Q : Int32 → MI → Prop) : Prop := ∃ J : Nat → Nat → Int32 → Int32 → MI → Prop, (∃ n, J n x0 x1 x2 I) ∧ ∀ (n : Nat) (x0 : Nat) (x1 : Int32) (x2 : Int32) (I : MI), J n x0 x1 x2 I → (x1 ≤ x2 → w_X12_unpacked_63 x0 x1 x2 K N I L R Q) ∧ (¬ x1 ≤ x2 → K x0 = 13 ∧ ∃ b27 : Nat, R x0 1 = some b27 ∧ K b27 = 14 ∧ vp_in x2 (N b27) ∧ ((I b27 (ix x2)) = 0 → w_X12_unpacked_63 x0 x1 x2 K N I L R Q) ∧ (¬ (I b27 (ix x2)) = 0 → w_X12_unpackOp x0 x2 x1 K N I L R (fun r30 I31 => (¬ r30 = 0 → ∀ v32 : Int32, v32 = (x2 + r30) → ∃ n1, n1 < n ∧ J n1 x0 x1 v32 I31) ∧ (r30 = 0 → Q ((-1 : Int32) - x2) I31))))
def w_X12_unpacked  (a0 : Nat) (K : MK) (N : MK) (I : MI) (L : ML) (R : MR) (Q : Int32 → MI → Prop) : Prop := K a0 = 13 ∧ ∀ I2 : MI, I2 = mup I a0 0 0 → w_X12_take a0 K N I2 L R (fun r3 I4 => ∀ I5 : MI, I5 = mup I4 a0 42 0 → ∀ I6 : MI, I6 = mup I5 a0 44 0 → ∀ I7 : MI, I7 = mup I6 a0 45 1 → w_X12_unpacked_27 a0 r3 0 K N I7 L R Q)
set_option maxHeartbeats 4000000 in
set_option maxRecDepth 100000 in
theorem z_X12_unpacked_95 {X : ZX} {G : ZG}  {x0 : Nat} {x3 : Int32}  {K : MK} {N : MK} {I : MI} {L : ML} {R : MR}  {Q : Int32 → MI → Prop} (hC : ZOk X G RX12 cX12_unpacked 4 (some .int)) (hRm : X.2.2.2.1 = rm_X12_unpacked) (h : w_X12_unpacked_95 x0 x3 K N I L R  Q) : Z X G 4 0 0 (z_T X G (qIi K N L R Q) 0 0) K N I L R 95 [(0, .ref x0), (3, .int x3)] [] := by
  delta w_X12_unpacked_95 at h
  obtain ⟨J, ⟨n, h0⟩, hs⟩ := h
  have key : ∀ (n : Nat) (x0 : Nat) (x3 : Int32) (I : MI), J n x0 x3 I → Z X G 4 0 0 (z_T X G (qIi K N L R Q) 0 0) K N I L R 95 [(0, .ref x0), (3, .int x3)] [] := by
    intro n
    induction n using Nat.strongRecOn with
    | _ n ih =>
      intro x0 x3 I hJ
      have hC95 : ∀ (y0 : Nat) (y1 : Int32) (zI : MI), (∃ n1, n1 < n ∧ J n1 y0 y1 zI) → Z X G 4 0 0 (z_T X G (qIi K N L R Q) 0 0) K N zI L R 95 [(0, .ref y0), (3, .int y1)] [] := fun y0 y1 zI ⟨n1, hn1, hj⟩ => ih n1 hn1 y0 y1 zI hj
      have h := hs n x0 x3 I hJ
      refine z_iload_n hC (q := 1) dX12_unpacked_95 rfl rfl ?_
      refine z_aload_n hC (q := 0) dX12_unpacked_96 rfl rfl ?_
      obtain ⟨hk10, h⟩ := h
      refine gf_RX12_401 hC dX12_unpacked_97 hk10 ?_
      refine z_icmp_ge hC (tgt := 133) dX12_unpacked_100 (by decide) (fun hc => ?_) (fun hc => ?_)
      · have h := h.1 hc
        refine z_aload_n hC (q := 0) dX12_unpacked_133 rfl rfl ?_
        refine gf_RX12_401 hC dX12_unpacked_134 hk10 ?_
        exact z_iret hC dX12_unpacked_137 ⟨_, rfl, rfl, rfl, rfl, rfl, h⟩
      · have h := h.2 hc
        refine z_aload_n hC (q := 0) dX12_unpacked_103 rfl rfl ?_
        obtain ⟨b11, hb11, h⟩ := h
        refine gf_RX12_154 hC dX12_unpacked_104 hk10 hb11 ?_
        refine z_iload_n hC (q := 1) dX12_unpacked_107 rfl rfl ?_
        refine z_aload_n hC (q := 0) dX12_unpacked_108 rfl rfl ?_
        obtain ⟨b12, hb12, h⟩ := h
        refine gf_RX12_148 hC dX12_unpacked_109 hk10 hb12 ?_
        refine z_iload_n hC (q := 1) dX12_unpacked_112 rfl rfl ?_
        obtain ⟨hk13, h⟩ := h
        obtain ⟨hi14, h⟩ := h
        refine z_iaload hC hk13 hi14 dX12_unpacked_113 ?_
        obtain ⟨hk15, h⟩ := h
        obtain ⟨hi16, h⟩ := h
        refine z_iastore hC hk15 hi16 dX12_unpacked_114 ?_
        refine z_genI (fun I17 eI17 => ?_)
        have h := h I17 eI17
        refine z_aload_n hC (q := 0) dX12_unpacked_115 rfl rfl ?_
        obtain ⟨b18, hb18, h⟩ := h
        refine gf_RX12_157 hC dX12_unpacked_116 hk10 hb18 ?_
        refine z_iload_n hC (q := 1) dX12_unpacked_119 rfl rfl ?_
        refine z_aload_n hC (q := 0) dX12_unpacked_120 rfl rfl ?_
        obtain ⟨b19, hb19, h⟩ := h
        refine gf_RX12_151 hC dX12_unpacked_121 hk10 hb19 ?_
        refine z_iload_n hC (q := 1) dX12_unpacked_124 rfl rfl ?_
        obtain ⟨hk20, h⟩ := h
        obtain ⟨hi21, h⟩ := h
        refine z_iaload hC hk20 hi21 dX12_unpacked_125 ?_
        obtain ⟨hk22, h⟩ := h
        obtain ⟨hi23, h⟩ := h
        refine z_iastore hC hk22 hi23 dX12_unpacked_126 ?_
        refine z_genI (fun I24 eI24 => ?_)
        have h := h I24 eI24
        obtain ⟨v25, ev25⟩ : ∃ y : Int32, y = x3 + 1 := ⟨_, rfl⟩
        have h := h v25 ev25
        refine z_iinc hC (q := 1) (v := v25) (lv1 := [(3, .int v25), (0, .ref x0)]) dX12_unpacked_127 rfl (by rw [ev25, k_iinc_1]) (by decide) rfl ?_
        refine z_goto hC (tgt := 95) dX12_unpacked_130 (by decide) ?_
        exact z_sub [(0, .ref x0), (3, .int v25)] [1, 0] rfl (hC95 _ _ _ h)
  exact key n x0 x3 I h0
set_option maxHeartbeats 4000000 in
set_option maxRecDepth 100000 in
theorem z_X12_unpacked_63 {X : ZX} {G : ZG}  {x0 : Nat} {x1 : Int32} {x2 : Int32}  {K : MK} {N : MK} {I : MI} {L : ML} {R : MR}  {Q : Int32 → MI → Prop} (hC : ZOk X G RX12 cX12_unpacked 4 (some .int)) (hRm : X.2.2.2.1 = rm_X12_unpacked) (h : w_X12_unpacked_63 x0 x1 x2 K N I L R  Q) : Z X G 4 0 0 (z_T X G (qIi K N L R Q) 0 0) K N I L R 63 [(0, .ref x0), (1, .int x1), (2, .int x2)] [] := by
  delta w_X12_unpacked_63 at h
  refine z_iload_n hC (q := 2) dX12_unpacked_63 rfl rfl ?_
  refine z_iload_n hC (q := 1) dX12_unpacked_64 rfl rfl ?_
  refine z_icmp_lt hC (tgt := 72) dX12_unpacked_65 (by decide) (fun hc => ?_) (fun hc => ?_)
  · have h := h.1 hc
    refine z_iload_n hC (q := 2) dX12_unpacked_72 rfl rfl ?_
    refine z_iconst hC (v := 1) k_iconst_1 dX12_unpacked_73 ?_
    refine z_iadd hC dX12_unpacked_74 ?_
    refine z_iload_n hC (q := 1) dX12_unpacked_75 rfl rfl ?_
    refine z_icmp_ge hC (tgt := 85) dX12_unpacked_76 (by decide) (fun hc => ?_) (fun hc => ?_)
    · have h := h.1 hc
      refine z_aload_n hC (q := 0) dX12_unpacked_85 rfl rfl ?_
      refine z_aload_n hC (q := 0) dX12_unpacked_86 rfl rfl ?_
      obtain ⟨hk8, h⟩ := h
      refine gf_RX12_401 hC dX12_unpacked_87 hk8 ?_
      refine pf_RX12_421 hC dX12_unpacked_90 hk8 ?_
      refine z_genI (fun I9 eI9 => ?_)
      have h := h I9 eI9
      refine z_iconst hC (v := 0) k_iconst_0 dX12_unpacked_93 ?_
      refine z_istore_n hC (lv1 := [(3, .int 0), (0, .ref x0), (1, .int x1), (2, .int x2)]) dX12_unpacked_94 rfl (by decide) rfl ?_
      exact z_sub [(0, .ref x0), (3, .int 0)] [1, 0] rfl (z_X12_unpacked_95 hC hRm h)
    · have h := h.2 hc
      refine z_iconst hC (v := (-1)) k_iconst_m1 dX12_unpacked_79 ?_
      refine z_iload_n hC (q := 2) dX12_unpacked_80 rfl rfl ?_
      refine z_iconst hC (v := 1) k_iconst_1 dX12_unpacked_81 ?_
      refine z_iadd hC dX12_unpacked_82 ?_
      refine z_isub hC dX12_unpacked_83 ?_
      exact z_iret hC dX12_unpacked_84 ⟨_, rfl, rfl, rfl, rfl, rfl, h⟩
  · have h := h.2 hc
    refine z_iconst hC (v := (-1)) k_iconst_m1 dX12_unpacked_68 ?_
    refine z_iload_n hC (q := 1) dX12_unpacked_69 rfl rfl ?_
    refine z_isub hC dX12_unpacked_70 ?_
    exact z_iret hC dX12_unpacked_71 ⟨_, rfl, rfl, rfl, rfl, rfl, h⟩
set_option maxHeartbeats 4000000 in
set_option maxRecDepth 100000 in
theorem z_X12_unpacked_27 {X : ZX} {G : ZG}  {x0 : Nat} {x1 : Int32} {x2 : Int32}  {K : MK} {N : MK} {I : MI} {L : ML} {R : MR}  {Q : Int32 → MI → Prop} (hC : ZOk X G RX12 cX12_unpacked 4 (some .int)) (hRm : X.2.2.2.1 = rm_X12_unpacked) (h : w_X12_unpacked_27 x0 x1 x2 K N I L R  Q) : Z X G 4 0 0 (z_T X G (qIi K N L R Q) 0 0) K N I L R 27 [(0, .ref x0), (1, .int x1), (2, .int x2)] [] := by
  delta w_X12_unpacked_27 at h
  obtain ⟨J, ⟨n, h0⟩, hs⟩ := h
  have key : ∀ (n : Nat) (x0 : Nat) (x1 : Int32) (x2 : Int32) (I : MI), J n x0 x1 x2 I → Z X G 4 0 0 (z_T X G (qIi K N L R Q) 0 0) K N I L R 27 [(0, .ref x0), (1, .int x1), (2, .int x2)] [] := by
    intro n
    induction n using Nat.strongRecOn with
    | _ n ih =>
      intro x0 x1 x2 I hJ
      have hC27 : ∀ (y0 : Nat) (y1 : Int32) (y2 : Int32) (zI : MI), (∃ n1, n1 < n ∧ J n1 y0 y1 y2 zI) → Z X G 4 0 0 (z_T X G (qIi K N L R Q) 0 0) K N zI L R 27 [(0, .ref y0), (1, .int y1), (2, .int y2)] [] := fun y0 y1 y2 zI ⟨n1, hn1, hj⟩ => ih n1 hn1 y0 y1 y2 zI hj
      have h := hs n x0 x1 x2 I hJ
      refine z_iload_n hC (q := 2) dX12_unpacked_27 rfl rfl ?_
      refine z_iload_n hC (q := 1) dX12_unpacked_28 rfl rfl ?_
      refine z_icmp_ge hC (tgt := 63) dX12_unpacked_29 (by decide) (fun hc => ?_) (fun hc => ?_)
      · have h := h.1 hc
        exact z_sub [(0, .ref x0), (1, .int x1), (2, .int x2)] [0, 1, 2] rfl (z_X12_unpacked_63 hC hRm h)
      · have h := h.2 hc
        refine z_aload_n hC (q := 0) dX12_unpacked_32 rfl rfl ?_
        obtain ⟨hk26, h⟩ := h
        obtain ⟨b27, hb27, h⟩ := h
        refine gf_RX12_7 hC dX12_unpacked_33 hk26 hb27 ?_
        refine z_iload_n hC (q := 2) dX12_unpacked_36 rfl rfl ?_
        obtain ⟨hk28, h⟩ := h
        obtain ⟨hi29, h⟩ := h
        refine z_iaload hC hk28 hi29 dX12_unpacked_37 ?_
        refine z_if_eq hC (tgt := 63) dX12_unpacked_38 (by decide) (fun hc => ?_) (fun hc => ?_)
        · have h := h.1 hc
          exact z_sub [(0, .ref x0), (1, .int x1), (2, .int x2)] [0, 1, 2] rfl (z_X12_unpacked_63 hC hRm h)
        · have h := h.2 hc
          refine z_aload_n hC (q := 0) dX12_unpacked_41 rfl rfl ?_
          refine z_iload_n hC (q := 2) dX12_unpacked_42 rfl rfl ?_
          refine z_iload_n hC (q := 1) dX12_unpacked_43 rfl rfl ?_
          refine cl_RX12_418 hC (c_X12_unpackOp _ G x0 x2 x1 K N I L R _ h) hk26 dX12_unpacked_44 (by rw [hRm]; exact ⟨Nat.le_of_ble_eq_true rfl, Nat.le_of_ble_eq_true rfl⟩) ⟨Nat.zero_le _, Nat.zero_le _⟩ (Nat.le_of_ble_eq_true rfl) (z_kIi (I := I) (fun r30 I31 h => ?_))
          refine z_istore_n hC (lv1 := [(3, .int r30), (0, .ref x0), (1, .int x1), (2, .int x2)]) dX12_unpacked_47 rfl (by decide) rfl ?_
          refine z_iload_n hC (q := 0) dX12_unpacked_48 rfl rfl ?_
          refine z_if_ne hC (tgt := 56) dX12_unpacked_49 (by decide) (fun hc => ?_) (fun hc => ?_)
          · have h := h.1 hc
            refine z_iload_n hC (q := 3) dX12_unpacked_56 rfl rfl ?_
            refine z_iload_n hC (q := 0) dX12_unpacked_57 rfl rfl ?_
            refine z_iadd hC dX12_unpacked_58 ?_
            refine z_topi (fun v32 ev32 => ?_)
            have h := h v32 ev32
            refine z_istore_n hC (lv1 := [(2, .int v32), (3, .int r30), (0, .ref x0), (1, .int x1)]) dX12_unpacked_59 rfl (by decide) rfl ?_
            refine z_goto hC (tgt := 27) dX12_unpacked_60 (by decide) ?_
            exact z_sub [(0, .ref x0), (1, .int x1), (2, .int v32)] [2, 3, 0] rfl (hC27 _ _ _ _ h)
          · have h := h.2 hc
            refine z_iconst hC (v := (-1)) k_iconst_m1 dX12_unpacked_52 ?_
            refine z_iload_n hC (q := 3) dX12_unpacked_53 rfl rfl ?_
            refine z_isub hC dX12_unpacked_54 ?_
            exact z_iret hC dX12_unpacked_55 ⟨_, rfl, rfl, rfl, rfl, rfl, h⟩
  exact key n x0 x1 x2 I h0
set_option maxHeartbeats 4000000 in
set_option maxRecDepth 100000 in
theorem c_X12_unpacked  (l : Launch) (G : ZG) (a0 : Nat) (K : MK) (N : MK) (I : MI) (L : ML) (R : MR) (Q : Int32 → MI → Prop) (h : w_X12_unpacked a0 K N I L R Q) : Met l yX12_unpacked (.code yX12_unpacked cX12_unpacked 4 (some .int) :: z_tbl) rm_X12_unpacked (z_Pc G [.ref a0] K N I L R) (z_Qc G (qIi K N L R Q)) 0 0 (z_A G) := by
  refine z_met (by decide) (Nat.le_of_ble_eq_true rfl) (fun X hX hRm hC0 hnm => ?_)
  subst hX
  have hC : ZOk X G RX12 cX12_unpacked 4 (some .int) := hC0
  show Z X G 4 0 0 _ K N I L R 0 [(0, .ref a0)] []
  delta w_X12_unpacked at h
  refine z_aload_n hC (q := 0) dX12_unpacked_0 rfl rfl ?_
  refine z_iconst hC (v := 0) k_iconst_0 dX12_unpacked_1 ?_
  obtain ⟨hk1, h⟩ := h
  refine pf_RX12_1 hC dX12_unpacked_2 hk1 ?_
  refine z_genI (fun I2 eI2 => ?_)
  have h := h I2 eI2
  refine z_aload_n hC (q := 0) dX12_unpacked_5 rfl rfl ?_
  refine cl_RX12_89 hC (c_X12_take _ G a0 K N I2 L R _ h) hk1 dX12_unpacked_6 (by rw [hRm]; exact ⟨Nat.le_of_ble_eq_true rfl, Nat.le_of_ble_eq_true rfl⟩) ⟨Nat.zero_le _, Nat.zero_le _⟩ (Nat.le_of_ble_eq_true rfl) (z_kIi (I := I2) (fun r3 I4 h => ?_))
  refine z_istore_n hC (lv1 := [(1, .int r3), (0, .ref a0)]) dX12_unpacked_9 rfl (by decide) rfl ?_
  refine z_aload_n hC (q := 1) dX12_unpacked_10 rfl rfl ?_
  refine z_iconst hC (v := 0) k_iconst_0 dX12_unpacked_11 ?_
  refine pf_RX12_401 hC dX12_unpacked_12 hk1 ?_
  refine z_genI (fun I5 eI5 => ?_)
  have h := h I5 eI5
  refine z_aload_n hC (q := 1) dX12_unpacked_15 rfl rfl ?_
  refine z_iconst hC (v := 0) k_iconst_0 dX12_unpacked_16 ?_
  refine pf_RX12_404 hC dX12_unpacked_17 hk1 ?_
  refine z_genI (fun I6 eI6 => ?_)
  have h := h I6 eI6
  refine z_aload_n hC (q := 1) dX12_unpacked_20 rfl rfl ?_
  refine z_iconst hC (v := 1) k_iconst_1 dX12_unpacked_21 ?_
  refine pf_RX12_407 hC dX12_unpacked_22 hk1 ?_
  refine z_genI (fun I7 eI7 => ?_)
  have h := h I7 eI7
  refine z_iconst hC (v := 0) k_iconst_0 dX12_unpacked_25 ?_
  refine z_istore_n hC (lv1 := [(2, .int 0), (1, .int r3), (0, .ref a0)]) dX12_unpacked_26 rfl (by decide) rfl ?_
  exact z_sub [(0, .ref a0), (1, .int r3), (2, .int 0)] [2, 1, 0] rfl (z_X12_unpacked_27 hC hRm h)
def w_X12_unpackedAt  (a0 : Nat) (a1 : Int32) (a2 : Int32) (K : MK) (N : MK) (I : MI) (L : ML) (R : MR) (Q : Int32 → MI → Prop) : Prop := K a0 = 13 ∧ ∀ I2 : MI, I2 = mup I a0 0 0 → w_X12_isIn a1 0 ((I2 a0 43) - 1) K N I2 L R (fun r3 => (r3 = false → Q (-1) I2) ∧ (r3 = true → w_X12_isIn a2 0 1 K N I2 L R (fun r4 => (r4 = false → Q (-1) I2) ∧ (r4 = true → (¬ a2 = 0 → ∃ b5 : Nat, R a0 41 = some b5 ∧ K b5 = 14 ∧ vp_in a1 (N b5) ∧ Q (I2 b5 (ix a1)) I2) ∧ (a2 = 0 → ∃ b8 : Nat, R a0 40 = some b8 ∧ K b8 = 14 ∧ vp_in a1 (N b8) ∧ Q (I2 b8 (ix a1)) I2)))))
set_option maxHeartbeats 4000000 in
set_option maxRecDepth 100000 in
theorem c_X12_unpackedAt  (l : Launch) (G : ZG) (a0 : Nat) (a1 : Int32) (a2 : Int32) (K : MK) (N : MK) (I : MI) (L : ML) (R : MR) (Q : Int32 → MI → Prop) (h : w_X12_unpackedAt a0 a1 a2 K N I L R Q) : Met l yX12_unpackedAt (.code yX12_unpackedAt cX12_unpackedAt 3 (some .int) :: z_tbl) rm_X12_unpackedAt (z_Pc G [.ref a0, .int a1, .int a2] K N I L R) (z_Qc G (qIi K N L R Q)) 0 0 (z_A G) := by
  refine z_met (by decide) (Nat.le_of_ble_eq_true rfl) (fun X hX hRm hC0 hnm => ?_)
  subst hX
  have hC : ZOk X G RX12 cX12_unpackedAt 3 (some .int) := hC0
  show Z X G 3 0 0 _ K N I L R 0 [(0, .ref a0), (1, .int a1), (2, .int a2)] []
  delta w_X12_unpackedAt at h
  refine z_aload_n hC (q := 0) dX12_unpackedAt_0 rfl rfl ?_
  refine z_iconst hC (v := 0) k_iconst_0 dX12_unpackedAt_1 ?_
  obtain ⟨hk1, h⟩ := h
  refine pf_RX12_1 hC dX12_unpackedAt_2 hk1 ?_
  refine z_genI (fun I2 eI2 => ?_)
  have h := h I2 eI2
  refine z_iload_n hC (q := 1) dX12_unpackedAt_5 rfl rfl ?_
  refine z_iconst hC (v := 0) k_iconst_0 dX12_unpackedAt_6 ?_
  refine z_aload_n hC (q := 0) dX12_unpackedAt_7 rfl rfl ?_
  refine gf_RX12_421 hC dX12_unpackedAt_8 hk1 ?_
  refine z_iconst hC (v := 1) k_iconst_1 dX12_unpackedAt_11 ?_
  refine z_isub hC dX12_unpackedAt_12 ?_
  refine cl_RX12_75 hC (c_X12_isIn _ G a1 0 ((I2 a0 43) - 1) K N I2 L R _ h) dX12_unpackedAt_13 (by rw [hRm]; exact ⟨Nat.le_of_ble_eq_true rfl, Nat.le_of_ble_eq_true rfl⟩) ⟨Nat.zero_le _, Nat.zero_le _⟩ (Nat.le_of_ble_eq_true rfl) (z_kPz (fun r3 h => ?_))
  refine z_ifz_eq hC (tgt := 50) dX12_unpackedAt_16 (by decide) (fun hc => ?_) (fun hc => ?_)
  · have h := h.1 hc
    refine z_iconst hC (v := (-1)) k_iconst_m1 dX12_unpackedAt_50 ?_
    exact z_iret hC dX12_unpackedAt_51 ⟨_, rfl, rfl, rfl, rfl, rfl, h⟩
  · have h := h.2 hc
    refine z_iload_n hC (q := 2) dX12_unpackedAt_19 rfl rfl ?_
    refine z_iconst hC (v := 0) k_iconst_0 dX12_unpackedAt_20 ?_
    refine z_iconst hC (v := 1) k_iconst_1 dX12_unpackedAt_21 ?_
    refine cl_RX12_75 hC (c_X12_isIn _ G a2 0 1 K N I2 L R _ h) dX12_unpackedAt_22 (by rw [hRm]; exact ⟨Nat.le_of_ble_eq_true rfl, Nat.le_of_ble_eq_true rfl⟩) ⟨Nat.zero_le _, Nat.zero_le _⟩ (Nat.le_of_ble_eq_true rfl) (z_kPz (fun r4 h => ?_))
    refine z_ifz_eq hC (tgt := 50) dX12_unpackedAt_25 (by decide) (fun hc => ?_) (fun hc => ?_)
    · have h := h.1 hc
      refine z_iconst hC (v := (-1)) k_iconst_m1 dX12_unpackedAt_50 ?_
      exact z_iret hC dX12_unpackedAt_51 ⟨_, rfl, rfl, rfl, rfl, rfl, h⟩
    · have h := h.2 hc
      refine z_iload_n hC (q := 2) dX12_unpackedAt_28 rfl rfl ?_
      refine z_if_ne hC (tgt := 41) dX12_unpackedAt_29 (by decide) (fun hc => ?_) (fun hc => ?_)
      · have h := h.1 hc
        refine z_aload_n hC (q := 0) dX12_unpackedAt_41 rfl rfl ?_
        obtain ⟨b5, hb5, h⟩ := h
        refine gf_RX12_157 hC dX12_unpackedAt_42 hk1 hb5 ?_
        refine z_iload_n hC (q := 1) dX12_unpackedAt_45 rfl rfl ?_
        obtain ⟨hk6, h⟩ := h
        obtain ⟨hi7, h⟩ := h
        refine z_iaload hC hk6 hi7 dX12_unpackedAt_46 ?_
        refine z_goto hC (tgt := 51) dX12_unpackedAt_47 (by decide) ?_
        exact z_iret hC dX12_unpackedAt_51 ⟨_, rfl, rfl, rfl, rfl, rfl, h⟩
      · have h := h.2 hc
        refine z_aload_n hC (q := 0) dX12_unpackedAt_32 rfl rfl ?_
        obtain ⟨b8, hb8, h⟩ := h
        refine gf_RX12_154 hC dX12_unpackedAt_33 hk1 hb8 ?_
        refine z_iload_n hC (q := 1) dX12_unpackedAt_36 rfl rfl ?_
        obtain ⟨hk9, h⟩ := h
        obtain ⟨hi10, h⟩ := h
        refine z_iaload hC hk9 hi10 dX12_unpackedAt_37 ?_
        refine z_goto hC (tgt := 51) dX12_unpackedAt_38 (by decide) ?_
        exact z_iret hC dX12_unpackedAt_51 ⟨_, rfl, rfl, rfl, rfl, rfl, h⟩
def w_X12_write  (a0 : Nat) (a1 : Int32) (K : MK) (N : MK) (I : MI) (L : ML) (R : MR) (Q : MI → Prop) : Prop := K a0 = 13 ∧ ∃ b2 : Nat, R a0 46 = some b2 ∧ K b2 = 14 ∧ vp_in (I a0 47) (N b2) ∧ ∀ I5 : MI, I5 = mup I b2 (ix (I a0 47)) a1 → ∀ I6 : MI, I6 = mup I5 a0 47 ((I5 a0 47) + 1) → Q I6
set_option maxHeartbeats 4000000 in
set_option maxRecDepth 100000 in
theorem c_X12_write  (l : Launch) (G : ZG) (a0 : Nat) (a1 : Int32) (K : MK) (N : MK) (I : MI) (L : ML) (R : MR) (Q : MI → Prop) (h : w_X12_write a0 a1 K N I L R Q) : Met l yX12_write (.code yX12_write cX12_write 2 none :: z_tbl) rm_X12_write (z_Pc G [.ref a0, .int a1] K N I L R) (z_Qc G (qIv K N L R Q)) 0 0 (z_A G) := by
  refine z_met (by decide) (Nat.le_of_ble_eq_true rfl) (fun X hX hRm hC0 hnm => ?_)
  subst hX
  have hC : ZOk X G RX12 cX12_write 2 none := hC0
  show Z X G 2 0 0 _ K N I L R 0 [(0, .ref a0), (1, .int a1)] []
  delta w_X12_write at h
  refine z_aload_n hC (q := 0) dX12_write_0 rfl rfl ?_
  obtain ⟨hk1, h⟩ := h
  obtain ⟨b2, hb2, h⟩ := h
  refine gf_RX12_160 hC dX12_write_1 hk1 hb2 ?_
  refine z_aload_n hC (q := 0) dX12_write_4 rfl rfl ?_
  refine gf_RX12_424 hC dX12_write_5 hk1 ?_
  refine z_iload_n hC (q := 1) dX12_write_8 rfl rfl ?_
  obtain ⟨hk3, h⟩ := h
  obtain ⟨hi4, h⟩ := h
  refine z_iastore hC hk3 hi4 dX12_write_9 ?_
  refine z_genI (fun I5 eI5 => ?_)
  have h := h I5 eI5
  refine z_aload_n hC (q := 0) dX12_write_10 rfl rfl ?_
  refine z_dup hC rfl dX12_write_11 ?_
  refine gf_RX12_424 hC dX12_write_12 hk1 ?_
  refine z_iconst hC (v := 1) k_iconst_1 dX12_write_15 ?_
  refine z_iadd hC dX12_write_16 ?_
  refine pf_RX12_424 hC dX12_write_17 hk1 ?_
  refine z_genI (fun I6 eI6 => ?_)
  have h := h I6 eI6
  exact z_vret hC dX12_write_20 ⟨rfl, rfl, rfl, rfl, rfl, h⟩
def w_X12_byteAt  (a0 : Nat) (a1 : Int32) (K : MK) (N : MK) (I : MI) (L : ML) (R : MR) (Q : Int32 → MI → Prop) : Prop := K a0 = 13 ∧ ∀ I2 : MI, I2 = mup I a0 0 0 → w_X12_isIn a1 0 ((I2 a0 47) - 1) K N I2 L R (fun r3 => (r3 = false → Q (-1) I2) ∧ (r3 = true → ∃ b4 : Nat, R a0 46 = some b4 ∧ K b4 = 14 ∧ vp_in a1 (N b4) ∧ Q (I2 b4 (ix a1)) I2))
set_option maxHeartbeats 4000000 in
set_option maxRecDepth 100000 in
theorem c_X12_byteAt  (l : Launch) (G : ZG) (a0 : Nat) (a1 : Int32) (K : MK) (N : MK) (I : MI) (L : ML) (R : MR) (Q : Int32 → MI → Prop) (h : w_X12_byteAt a0 a1 K N I L R Q) : Met l yX12_byteAt (.code yX12_byteAt cX12_byteAt 2 (some .int) :: z_tbl) rm_X12_byteAt (z_Pc G [.ref a0, .int a1] K N I L R) (z_Qc G (qIi K N L R Q)) 0 0 (z_A G) := by
  refine z_met (by decide) (Nat.le_of_ble_eq_true rfl) (fun X hX hRm hC0 hnm => ?_)
  subst hX
  have hC : ZOk X G RX12 cX12_byteAt 2 (some .int) := hC0
  show Z X G 2 0 0 _ K N I L R 0 [(0, .ref a0), (1, .int a1)] []
  delta w_X12_byteAt at h
  refine z_aload_n hC (q := 0) dX12_byteAt_0 rfl rfl ?_
  refine z_iconst hC (v := 0) k_iconst_0 dX12_byteAt_1 ?_
  obtain ⟨hk1, h⟩ := h
  refine pf_RX12_1 hC dX12_byteAt_2 hk1 ?_
  refine z_genI (fun I2 eI2 => ?_)
  have h := h I2 eI2
  refine z_iload_n hC (q := 1) dX12_byteAt_5 rfl rfl ?_
  refine z_iconst hC (v := 0) k_iconst_0 dX12_byteAt_6 ?_
  refine z_aload_n hC (q := 0) dX12_byteAt_7 rfl rfl ?_
  refine gf_RX12_424 hC dX12_byteAt_8 hk1 ?_
  refine z_iconst hC (v := 1) k_iconst_1 dX12_byteAt_11 ?_
  refine z_isub hC dX12_byteAt_12 ?_
  refine cl_RX12_75 hC (c_X12_isIn _ G a1 0 ((I2 a0 47) - 1) K N I2 L R _ h) dX12_byteAt_13 (by rw [hRm]; exact ⟨Nat.le_of_ble_eq_true rfl, Nat.le_of_ble_eq_true rfl⟩) ⟨Nat.zero_le _, Nat.zero_le _⟩ (Nat.le_of_ble_eq_true rfl) (z_kPz (fun r3 h => ?_))
  refine z_ifz_eq hC (tgt := 28) dX12_byteAt_16 (by decide) (fun hc => ?_) (fun hc => ?_)
  · have h := h.1 hc
    refine z_iconst hC (v := (-1)) k_iconst_m1 dX12_byteAt_28 ?_
    exact z_iret hC dX12_byteAt_29 ⟨_, rfl, rfl, rfl, rfl, rfl, h⟩
  · have h := h.2 hc
    refine z_aload_n hC (q := 0) dX12_byteAt_19 rfl rfl ?_
    obtain ⟨b4, hb4, h⟩ := h
    refine gf_RX12_160 hC dX12_byteAt_20 hk1 hb4 ?_
    refine z_iload_n hC (q := 1) dX12_byteAt_23 rfl rfl ?_
    obtain ⟨hk5, h⟩ := h
    obtain ⟨hi6, h⟩ := h
    refine z_iaload hC hk5 hi6 dX12_byteAt_24 ?_
    refine z_goto hC (tgt := 29) dX12_byteAt_25 (by decide) ?_
    exact z_iret hC dX12_byteAt_29 ⟨_, rfl, rfl, rfl, rfl, rfl, h⟩
def w_X12_draw  (a0 : Nat) (a1 : Int32) (K : MK) (N : MK) (I : MI) (L : ML) (R : MR) (Q : Int32 → MI → Prop) : Prop := K a0 = 13 ∧ ∀ I2 : MI, I2 = mup I a0 48 (((I a0 48) * 1103515245) + 12345) → ¬ a1 = 0 ∧ Q ((ushr (I2 a0 48) 8) - (ushr (I2 a0 48) 8) / a1 * a1) I2
set_option maxHeartbeats 4000000 in
set_option maxRecDepth 100000 in
theorem c_X12_draw  (l : Launch) (G : ZG) (a0 : Nat) (a1 : Int32) (K : MK) (N : MK) (I : MI) (L : ML) (R : MR) (Q : Int32 → MI → Prop) (h : w_X12_draw a0 a1 K N I L R Q) : Met l yX12_draw (.code yX12_draw cX12_draw 2 (some .int) :: z_tbl) rm_X12_draw (z_Pc G [.ref a0, .int a1] K N I L R) (z_Qc G (qIi K N L R Q)) 0 0 (z_A G) := by
  refine z_met (by decide) (Nat.le_of_ble_eq_true rfl) (fun X hX hRm hC0 hnm => ?_)
  subst hX
  have hC : ZOk X G RX12 cX12_draw 2 (some .int) := hC0
  show Z X G 2 0 0 _ K N I L R 0 [(0, .ref a0), (1, .int a1)] []
  delta w_X12_draw at h
  refine z_aload_n hC (q := 0) dX12_draw_0 rfl rfl ?_
  refine z_aload_n hC (q := 0) dX12_draw_1 rfl rfl ?_
  obtain ⟨hk1, h⟩ := h
  refine gf_RX12_442 hC dX12_draw_2 hk1 ?_
  refine z_ldcw hC cst_RX12_445 dX12_draw_5 ?_
  refine z_imul hC dX12_draw_8 ?_
  refine z_sipush hC (v := 12345) k_sipush_12345 dX12_draw_9 ?_
  refine z_iadd hC dX12_draw_12 ?_
  refine pf_RX12_442 hC dX12_draw_13 hk1 ?_
  refine z_genI (fun I2 eI2 => ?_)
  have h := h I2 eI2
  refine z_aload_n hC (q := 0) dX12_draw_16 rfl rfl ?_
  refine gf_RX12_442 hC dX12_draw_17 hk1 ?_
  refine z_bipush hC (v := 8) k_bipush_8 dX12_draw_20 ?_
  refine z_iushr hC dX12_draw_22 ?_
  refine z_iload_n hC (q := 1) dX12_draw_23 rfl rfl ?_
  obtain ⟨hz3, h⟩ := h
  refine z_irem hC hz3 dX12_draw_24 ?_
  exact z_iret hC dX12_draw_25 ⟨_, rfl, rfl, rfl, rfl, rfl, h⟩
def w_X12_doIf  (a0 : Nat) (a1 : Int32) (a2 : Int32) (a3 : Int32) (K : MK) (N : MK) (I : MI) (L : ML) (R : MR) (Q : MI → Prop) : Prop := K a0 = 13 ∧ w_X12_refusal a0 a1 a2 a3 K N I L R (fun r2 => (¬ r2 = 0 → Q I) ∧ (r2 = 0 → w_X12_live a0 a1 a2 a3 K N I L R (fun I3 => Q I3)))
set_option maxHeartbeats 4000000 in
set_option maxRecDepth 100000 in
theorem c_X12_doIf  (l : Launch) (G : ZG) (a0 : Nat) (a1 : Int32) (a2 : Int32) (a3 : Int32) (K : MK) (N : MK) (I : MI) (L : ML) (R : MR) (Q : MI → Prop) (h : w_X12_doIf a0 a1 a2 a3 K N I L R Q) : Met l yX12_doIf (.code yX12_doIf cX12_doIf 4 none :: z_tbl) rm_X12_doIf (z_Pc G [.ref a0, .int a1, .int a2, .int a3] K N I L R) (z_Qc G (qIv K N L R Q)) 0 0 (z_A G) := by
  refine z_met (by decide) (Nat.le_of_ble_eq_true rfl) (fun X hX hRm hC0 hnm => ?_)
  subst hX
  have hC : ZOk X G RX12 cX12_doIf 4 none := hC0
  show Z X G 4 0 0 _ K N I L R 0 [(0, .ref a0), (1, .int a1), (2, .int a2), (3, .int a3)] []
  delta w_X12_doIf at h
  refine z_aload_n hC (q := 0) dX12_doIf_0 rfl rfl ?_
  refine z_iload_n hC (q := 1) dX12_doIf_1 rfl rfl ?_
  refine z_iload_n hC (q := 2) dX12_doIf_2 rfl rfl ?_
  refine z_iload_n hC (q := 3) dX12_doIf_3 rfl rfl ?_
  obtain ⟨hk1, h⟩ := h
  refine cl_RX12_358 hC (c_X12_refusal _ G a0 a1 a2 a3 K N I L R _ h) hk1 dX12_doIf_4 (by rw [hRm]; exact ⟨Nat.le_of_ble_eq_true rfl, Nat.le_of_ble_eq_true rfl⟩) ⟨Nat.zero_le _, Nat.zero_le _⟩ (Nat.le_of_ble_eq_true rfl) (z_kPi (fun r2 h => ?_))
  refine z_if_ne hC (tgt := 17) dX12_doIf_7 (by decide) (fun hc => ?_) (fun hc => ?_)
  · have h := h.1 hc
    exact z_vret hC dX12_doIf_17 ⟨rfl, rfl, rfl, rfl, rfl, h⟩
  · have h := h.2 hc
    refine z_aload_n hC (q := 0) dX12_doIf_10 rfl rfl ?_
    refine z_iload_n hC (q := 1) dX12_doIf_11 rfl rfl ?_
    refine z_iload_n hC (q := 2) dX12_doIf_12 rfl rfl ?_
    refine z_iload_n hC (q := 3) dX12_doIf_13 rfl rfl ?_
    refine cl_RX12_364 hC (c_X12_live _ G a0 a1 a2 a3 K N I L R _ h) hk1 dX12_doIf_14 (by rw [hRm]; exact ⟨Nat.le_of_ble_eq_true rfl, Nat.le_of_ble_eq_true rfl⟩) ⟨Nat.zero_le _, Nat.zero_le _⟩ (Nat.le_of_ble_eq_true rfl) (z_kIv (I := I) (fun I3 h => ?_))
    exact z_vret hC dX12_doIf_17 ⟨rfl, rfl, rfl, rfl, rfl, h⟩
def w_X12_drawsDeed_114  (x0 : Nat) (x1 : Int32)  (K : MK) (N : MK) (I : MI) (L : ML) (R : MR)  (Q : MI → Prop) : Prop := (¬ x1 = 7 → Q I) ∧ (x1 = 7 → K x0 = 13 ∧ w_X12_draw x0 250 K N I L R (fun r7 I8 => ∀ v9 : Int32, v9 = (r7 + 1) → w_X12_stopAt x0 v9 K N I8 L R (fun r10 => (¬ r10 = (-1) → w_X12_doIf x0 4 v9 0 K N I8 L R (fun I11 => Q I11)) ∧ (r10 = (-1) → w_X12_doIf x0 3 v9 0 K N I8 L R (fun I12 => Q I12)))))
def w_X12_drawsDeed_100  (x0 : Nat) (x1 : Int32)  (K : MK) (N : MK) (I : MI) (L : ML) (R : MR)  (Q : MI → Prop) : Prop := (¬ x1 = 6 → w_X12_drawsDeed_114 x0 x1 K N I L R Q) ∧ (x1 = 6 → K x0 = 13 ∧ w_X12_doIf x0 7 0 0 K N I L R (fun I14 => w_X12_drawsDeed_114 x0 x1 K N I14 L R Q))
def w_X12_drawsDeed_87  (x0 : Nat) (x1 : Int32)  (K : MK) (N : MK) (I : MI) (L : ML) (R : MR)  (Q : MI → Prop) : Prop := (¬ x1 = 5 → w_X12_drawsDeed_100 x0 x1 K N I L R Q) ∧ (x1 = 5 → K x0 = 13 ∧ w_X12_doIf x0 6 0 0 K N I L R (fun I16 => w_X12_drawsDeed_100 x0 x1 K N I16 L R Q))
def w_X12_drawsDeed_80  (x0 : Nat) (x1 : Int32)  (K : MK) (N : MK) (I : MI) (L : ML) (R : MR)  (Q : MI → Prop) : Prop := K x0 = 13 ∧ w_X12_doIf x0 5 0 0 K N I L R (fun I5 => w_X12_drawsDeed_87 x0 x1 K N I5 L R Q)
def w_X12_drawsDeed_70  (x0 : Nat) (x1 : Int32)  (K : MK) (N : MK) (I : MI) (L : ML) (R : MR)  (Q : MI → Prop) : Prop := (x1 = 3 → w_X12_drawsDeed_80 x0 x1 K N I L R Q) ∧ (¬ x1 = 3 → (¬ x1 = 4 → w_X12_drawsDeed_87 x0 x1 K N I L R Q) ∧ (x1 = 4 → w_X12_drawsDeed_80 x0 x1 K N I L R Q))
def w_X12_drawsDeed_49  (x0 : Nat) (x1 : Int32)  (K : MK) (N : MK) (I : MI) (L : ML) (R : MR)  (Q : MI → Prop) : Prop := (¬ x1 = 2 → w_X12_drawsDeed_70 x0 x1 K N I L R Q) ∧ (x1 = 2 → K x0 = 13 ∧ ∃ b18 : Nat, R x0 14 = some b18 ∧ K b18 = 14 ∧ vp_in 0 (N b18) ∧ w_X12_draw x0 (I b18 (ix 0)) K N I L R (fun r21 I22 => w_X12_doIf x0 2 r21 0 K N I22 L R (fun I23 => w_X12_drawsDeed_70 x0 x1 K N I23 L R Q)))
def w_X12_drawsDeed_38  (x0 : Nat) (x1 : Int32) (x2 : Int32) (s0 : Int32) (s1 : Nat) (K : MK) (N : MK) (I : MI) (L : ML) (R : MR)  (Q : MI → Prop) : Prop := K x0 = 13 ∧ w_X12_draw x0 1000 K N I L R (fun r28 I29 => K s1 = 13 ∧ w_X12_doIf s1 s0 x2 r28 K N I29 L R (fun I31 => w_X12_drawsDeed_49 x0 x1 K N I31 L R Q))
def w_X12_drawsDeed_24  (x0 : Nat) (x1 : Int32) (s0 : Int32) (s1 : Nat) (K : MK) (N : MK) (I : MI) (L : ML) (R : MR)  (Q : MI → Prop) : Prop := K s1 = 13 ∧ w_X12_draw s1 s0 K N I L R (fun r25 I26 => (¬ x1 = 0 → w_X12_drawsDeed_38 x0 x1 r25 1 x0 K N I26 L R Q) ∧ (x1 = 0 → w_X12_drawsDeed_38 x0 x1 r25 0 x0 K N I26 L R Q))
def w_X12_drawsDeed  (a0 : Nat) (K : MK) (N : MK) (I : MI) (L : ML) (R : MR) (Q : MI → Prop) : Prop := K a0 = 13 ∧ w_X12_draw a0 8 K N I L R (fun r2 I3 => ((2 : Int32) ≤ r2 → w_X12_drawsDeed_49 a0 r2 K N I3 L R Q) ∧ (¬ (2 : Int32) ≤ r2 → (¬ r2 = 0 → w_X12_drawsDeed_24 a0 r2 64 a0 K N I3 L R Q) ∧ (r2 = 0 → w_X12_drawsDeed_24 a0 r2 8 a0 K N I3 L R Q)))
set_option maxHeartbeats 4000000 in
set_option maxRecDepth 100000 in
theorem z_X12_drawsDeed_114 {X : ZX} {G : ZG}  {x0 : Nat} {x1 : Int32}  {K : MK} {N : MK} {I : MI} {L : ML} {R : MR}  {Q : MI → Prop} (hC : ZOk X G RX12 cX12_drawsDeed 3 none) (hRm : X.2.2.2.1 = rm_X12_drawsDeed) (h : w_X12_drawsDeed_114 x0 x1 K N I L R  Q) : Z X G 3 0 0 (z_T X G (qIv K N L R Q) 0 0) K N I L R 114 [(0, .ref x0), (1, .int x1)] [] := by
  delta w_X12_drawsDeed_114 at h
  refine z_iload_n hC (q := 1) dX12_drawsDeed_114 rfl rfl ?_
  refine z_bipush hC (v := 7) k_bipush_7 dX12_drawsDeed_115 ?_
  refine z_icmp_ne hC (tgt := 150) dX12_drawsDeed_117 (by decide) (fun hc => ?_) (fun hc => ?_)
  · have h := h.1 hc
    exact z_vret hC dX12_drawsDeed_150 ⟨rfl, rfl, rfl, rfl, rfl, h⟩
  · have h := h.2 hc
    refine z_aload_n hC (q := 0) dX12_drawsDeed_120 rfl rfl ?_
    refine z_sipush hC (v := 250) k_sipush_250 dX12_drawsDeed_121 ?_
    obtain ⟨hk6, h⟩ := h
    refine cl_RX12_446 hC (c_X12_draw _ G x0 250 K N I L R _ h) hk6 dX12_drawsDeed_124 (by rw [hRm]; exact ⟨Nat.le_of_ble_eq_true rfl, Nat.le_of_ble_eq_true rfl⟩) ⟨Nat.zero_le _, Nat.zero_le _⟩ (Nat.le_of_ble_eq_true rfl) (z_kIi (I := I) (fun r7 I8 h => ?_))
    refine z_iconst hC (v := 1) k_iconst_1 dX12_drawsDeed_127 ?_
    refine z_iadd hC dX12_drawsDeed_128 ?_
    refine z_topi (fun v9 ev9 => ?_)
    have h := h v9 ev9
    refine z_istore_n hC (lv1 := [(2, .int v9), (0, .ref x0), (1, .int x1)]) dX12_drawsDeed_129 rfl (by decide) rfl ?_
    refine z_aload_n hC (q := 1) dX12_drawsDeed_130 rfl rfl ?_
    refine z_aload_n hC (q := 1) dX12_drawsDeed_131 rfl rfl ?_
    refine z_iload_n hC (q := 0) dX12_drawsDeed_132 rfl rfl ?_
    refine cl_RX12_346 hC (c_X12_stopAt _ G x0 v9 K N I8 L R _ h) hk6 dX12_drawsDeed_133 (by rw [hRm]; exact ⟨Nat.le_of_ble_eq_true rfl, Nat.le_of_ble_eq_true rfl⟩) ⟨Nat.zero_le _, Nat.zero_le _⟩ (Nat.le_of_ble_eq_true rfl) (z_kPi (fun r10 h => ?_))
    refine z_iconst hC (v := (-1)) k_iconst_m1 dX12_drawsDeed_136 ?_
    refine z_icmp_ne hC (tgt := 144) dX12_drawsDeed_137 (by decide) (fun hc => ?_) (fun hc => ?_)
    · have h := h.1 hc
      refine z_iconst hC (v := 4) k_iconst_4 dX12_drawsDeed_144 ?_
      refine z_iload_n hC (q := 0) dX12_drawsDeed_145 rfl rfl ?_
      refine z_iconst hC (v := 0) k_iconst_0 dX12_drawsDeed_146 ?_
      refine cl_RX12_449 hC (c_X12_doIf _ G x0 4 v9 0 K N I8 L R _ h) hk6 dX12_drawsDeed_147 (by rw [hRm]; exact ⟨Nat.le_of_ble_eq_true rfl, Nat.le_of_ble_eq_true rfl⟩) ⟨Nat.zero_le _, Nat.zero_le _⟩ (Nat.le_of_ble_eq_true rfl) (z_kIv (I := I8) (fun I11 h => ?_))
      exact z_vret hC dX12_drawsDeed_150 ⟨rfl, rfl, rfl, rfl, rfl, h⟩
    · have h := h.2 hc
      refine z_iconst hC (v := 3) k_iconst_3 dX12_drawsDeed_140 ?_
      refine z_goto hC (tgt := 145) dX12_drawsDeed_141 (by decide) ?_
      refine z_iload_n hC (q := 0) dX12_drawsDeed_145 rfl rfl ?_
      refine z_iconst hC (v := 0) k_iconst_0 dX12_drawsDeed_146 ?_
      refine cl_RX12_449 hC (c_X12_doIf _ G x0 3 v9 0 K N I8 L R _ h) hk6 dX12_drawsDeed_147 (by rw [hRm]; exact ⟨Nat.le_of_ble_eq_true rfl, Nat.le_of_ble_eq_true rfl⟩) ⟨Nat.zero_le _, Nat.zero_le _⟩ (Nat.le_of_ble_eq_true rfl) (z_kIv (I := I8) (fun I12 h => ?_))
      exact z_vret hC dX12_drawsDeed_150 ⟨rfl, rfl, rfl, rfl, rfl, h⟩
set_option maxHeartbeats 4000000 in
set_option maxRecDepth 100000 in
theorem z_X12_drawsDeed_100 {X : ZX} {G : ZG}  {x0 : Nat} {x1 : Int32}  {K : MK} {N : MK} {I : MI} {L : ML} {R : MR}  {Q : MI → Prop} (hC : ZOk X G RX12 cX12_drawsDeed 3 none) (hRm : X.2.2.2.1 = rm_X12_drawsDeed) (h : w_X12_drawsDeed_100 x0 x1 K N I L R  Q) : Z X G 3 0 0 (z_T X G (qIv K N L R Q) 0 0) K N I L R 100 [(0, .ref x0), (1, .int x1)] [] := by
  delta w_X12_drawsDeed_100 at h
  refine z_iload_n hC (q := 1) dX12_drawsDeed_100 rfl rfl ?_
  refine z_bipush hC (v := 6) k_bipush_6 dX12_drawsDeed_101 ?_
  refine z_icmp_ne hC (tgt := 114) dX12_drawsDeed_103 (by decide) (fun hc => ?_) (fun hc => ?_)
  · have h := h.1 hc
    exact z_sub [(0, .ref x0), (1, .int x1)] [0, 1] rfl (z_X12_drawsDeed_114 hC hRm h)
  · have h := h.2 hc
    refine z_aload_n hC (q := 0) dX12_drawsDeed_106 rfl rfl ?_
    refine z_bipush hC (v := 7) k_bipush_7 dX12_drawsDeed_107 ?_
    refine z_iconst hC (v := 0) k_iconst_0 dX12_drawsDeed_109 ?_
    refine z_iconst hC (v := 0) k_iconst_0 dX12_drawsDeed_110 ?_
    obtain ⟨hk13, h⟩ := h
    refine cl_RX12_449 hC (c_X12_doIf _ G x0 7 0 0 K N I L R _ h) hk13 dX12_drawsDeed_111 (by rw [hRm]; exact ⟨Nat.le_of_ble_eq_true rfl, Nat.le_of_ble_eq_true rfl⟩) ⟨Nat.zero_le _, Nat.zero_le _⟩ (Nat.le_of_ble_eq_true rfl) (z_kIv (I := I) (fun I14 h => ?_))
    exact z_sub [(0, .ref x0), (1, .int x1)] [0, 1] rfl (z_X12_drawsDeed_114 hC hRm h)
set_option maxHeartbeats 4000000 in
set_option maxRecDepth 100000 in
theorem z_X12_drawsDeed_87 {X : ZX} {G : ZG}  {x0 : Nat} {x1 : Int32}  {K : MK} {N : MK} {I : MI} {L : ML} {R : MR}  {Q : MI → Prop} (hC : ZOk X G RX12 cX12_drawsDeed 3 none) (hRm : X.2.2.2.1 = rm_X12_drawsDeed) (h : w_X12_drawsDeed_87 x0 x1 K N I L R  Q) : Z X G 3 0 0 (z_T X G (qIv K N L R Q) 0 0) K N I L R 87 [(0, .ref x0), (1, .int x1)] [] := by
  delta w_X12_drawsDeed_87 at h
  refine z_iload_n hC (q := 1) dX12_drawsDeed_87 rfl rfl ?_
  refine z_iconst hC (v := 5) k_iconst_5 dX12_drawsDeed_88 ?_
  refine z_icmp_ne hC (tgt := 100) dX12_drawsDeed_89 (by decide) (fun hc => ?_) (fun hc => ?_)
  · have h := h.1 hc
    exact z_sub [(0, .ref x0), (1, .int x1)] [0, 1] rfl (z_X12_drawsDeed_100 hC hRm h)
  · have h := h.2 hc
    refine z_aload_n hC (q := 0) dX12_drawsDeed_92 rfl rfl ?_
    refine z_bipush hC (v := 6) k_bipush_6 dX12_drawsDeed_93 ?_
    refine z_iconst hC (v := 0) k_iconst_0 dX12_drawsDeed_95 ?_
    refine z_iconst hC (v := 0) k_iconst_0 dX12_drawsDeed_96 ?_
    obtain ⟨hk15, h⟩ := h
    refine cl_RX12_449 hC (c_X12_doIf _ G x0 6 0 0 K N I L R _ h) hk15 dX12_drawsDeed_97 (by rw [hRm]; exact ⟨Nat.le_of_ble_eq_true rfl, Nat.le_of_ble_eq_true rfl⟩) ⟨Nat.zero_le _, Nat.zero_le _⟩ (Nat.le_of_ble_eq_true rfl) (z_kIv (I := I) (fun I16 h => ?_))
    exact z_sub [(0, .ref x0), (1, .int x1)] [0, 1] rfl (z_X12_drawsDeed_100 hC hRm h)
set_option maxHeartbeats 4000000 in
set_option maxRecDepth 100000 in
theorem z_X12_drawsDeed_80 {X : ZX} {G : ZG}  {x0 : Nat} {x1 : Int32}  {K : MK} {N : MK} {I : MI} {L : ML} {R : MR}  {Q : MI → Prop} (hC : ZOk X G RX12 cX12_drawsDeed 3 none) (hRm : X.2.2.2.1 = rm_X12_drawsDeed) (h : w_X12_drawsDeed_80 x0 x1 K N I L R  Q) : Z X G 3 0 0 (z_T X G (qIv K N L R Q) 0 0) K N I L R 80 [(0, .ref x0), (1, .int x1)] [] := by
  delta w_X12_drawsDeed_80 at h
  refine z_aload_n hC (q := 0) dX12_drawsDeed_80 rfl rfl ?_
  refine z_iconst hC (v := 5) k_iconst_5 dX12_drawsDeed_81 ?_
  refine z_iconst hC (v := 0) k_iconst_0 dX12_drawsDeed_82 ?_
  refine z_iconst hC (v := 0) k_iconst_0 dX12_drawsDeed_83 ?_
  obtain ⟨hk4, h⟩ := h
  refine cl_RX12_449 hC (c_X12_doIf _ G x0 5 0 0 K N I L R _ h) hk4 dX12_drawsDeed_84 (by rw [hRm]; exact ⟨Nat.le_of_ble_eq_true rfl, Nat.le_of_ble_eq_true rfl⟩) ⟨Nat.zero_le _, Nat.zero_le _⟩ (Nat.le_of_ble_eq_true rfl) (z_kIv (I := I) (fun I5 h => ?_))
  exact z_sub [(0, .ref x0), (1, .int x1)] [0, 1] rfl (z_X12_drawsDeed_87 hC hRm h)
set_option maxHeartbeats 4000000 in
set_option maxRecDepth 100000 in
theorem z_X12_drawsDeed_70 {X : ZX} {G : ZG}  {x0 : Nat} {x1 : Int32}  {K : MK} {N : MK} {I : MI} {L : ML} {R : MR}  {Q : MI → Prop} (hC : ZOk X G RX12 cX12_drawsDeed 3 none) (hRm : X.2.2.2.1 = rm_X12_drawsDeed) (h : w_X12_drawsDeed_70 x0 x1 K N I L R  Q) : Z X G 3 0 0 (z_T X G (qIv K N L R Q) 0 0) K N I L R 70 [(0, .ref x0), (1, .int x1)] [] := by
  delta w_X12_drawsDeed_70 at h
  refine z_iload_n hC (q := 1) dX12_drawsDeed_70 rfl rfl ?_
  refine z_iconst hC (v := 3) k_iconst_3 dX12_drawsDeed_71 ?_
  refine z_icmp_eq hC (tgt := 80) dX12_drawsDeed_72 (by decide) (fun hc => ?_) (fun hc => ?_)
  · have h := h.1 hc
    exact z_sub [(0, .ref x0), (1, .int x1)] [0, 1] rfl (z_X12_drawsDeed_80 hC hRm h)
  · have h := h.2 hc
    refine z_iload_n hC (q := 1) dX12_drawsDeed_75 rfl rfl ?_
    refine z_iconst hC (v := 4) k_iconst_4 dX12_drawsDeed_76 ?_
    refine z_icmp_ne hC (tgt := 87) dX12_drawsDeed_77 (by decide) (fun hc => ?_) (fun hc => ?_)
    · have h := h.1 hc
      exact z_sub [(0, .ref x0), (1, .int x1)] [0, 1] rfl (z_X12_drawsDeed_87 hC hRm h)
    · have h := h.2 hc
      exact z_sub [(0, .ref x0), (1, .int x1)] [0, 1] rfl (z_X12_drawsDeed_80 hC hRm h)
set_option maxHeartbeats 4000000 in
set_option maxRecDepth 100000 in
theorem z_X12_drawsDeed_49 {X : ZX} {G : ZG}  {x0 : Nat} {x1 : Int32}  {K : MK} {N : MK} {I : MI} {L : ML} {R : MR}  {Q : MI → Prop} (hC : ZOk X G RX12 cX12_drawsDeed 3 none) (hRm : X.2.2.2.1 = rm_X12_drawsDeed) (h : w_X12_drawsDeed_49 x0 x1 K N I L R  Q) : Z X G 3 0 0 (z_T X G (qIv K N L R Q) 0 0) K N I L R 49 [(0, .ref x0), (1, .int x1)] [] := by
  delta w_X12_drawsDeed_49 at h
  refine z_iload_n hC (q := 1) dX12_drawsDeed_49 rfl rfl ?_
  refine z_iconst hC (v := 2) k_iconst_2 dX12_drawsDeed_50 ?_
  refine z_icmp_ne hC (tgt := 70) dX12_drawsDeed_51 (by decide) (fun hc => ?_) (fun hc => ?_)
  · have h := h.1 hc
    exact z_sub [(0, .ref x0), (1, .int x1)] [0, 1] rfl (z_X12_drawsDeed_70 hC hRm h)
  · have h := h.2 hc
    refine z_aload_n hC (q := 0) dX12_drawsDeed_54 rfl rfl ?_
    refine z_iconst hC (v := 2) k_iconst_2 dX12_drawsDeed_55 ?_
    refine z_aload_n hC (q := 0) dX12_drawsDeed_56 rfl rfl ?_
    refine z_aload_n hC (q := 0) dX12_drawsDeed_57 rfl rfl ?_
    obtain ⟨hk17, h⟩ := h
    obtain ⟨b18, hb18, h⟩ := h
    refine gf_RX12_98 hC dX12_drawsDeed_58 hk17 hb18 ?_
    refine z_iconst hC (v := 0) k_iconst_0 dX12_drawsDeed_61 ?_
    obtain ⟨hk19, h⟩ := h
    obtain ⟨hi20, h⟩ := h
    refine z_iaload hC hk19 hi20 dX12_drawsDeed_62 ?_
    refine cl_RX12_446 hC (c_X12_draw _ G x0 (I b18 (ix 0)) K N I L R _ h) hk17 dX12_drawsDeed_63 (by rw [hRm]; exact ⟨Nat.le_of_ble_eq_true rfl, Nat.le_of_ble_eq_true rfl⟩) ⟨Nat.zero_le _, Nat.zero_le _⟩ (Nat.le_of_ble_eq_true rfl) (z_kIi (I := I) (fun r21 I22 h => ?_))
    refine z_iconst hC (v := 0) k_iconst_0 dX12_drawsDeed_66 ?_
    refine cl_RX12_449 hC (c_X12_doIf _ G x0 2 r21 0 K N I22 L R _ h) hk17 dX12_drawsDeed_67 (by rw [hRm]; exact ⟨Nat.le_of_ble_eq_true rfl, Nat.le_of_ble_eq_true rfl⟩) ⟨Nat.zero_le _, Nat.zero_le _⟩ (Nat.le_of_ble_eq_true rfl) (z_kIv (I := I22) (fun I23 h => ?_))
    exact z_sub [(0, .ref x0), (1, .int x1)] [0, 1] rfl (z_X12_drawsDeed_70 hC hRm h)
set_option maxHeartbeats 4000000 in
set_option maxRecDepth 100000 in
theorem z_X12_drawsDeed_38 {X : ZX} {G : ZG}  {x0 : Nat} {x1 : Int32} {x2 : Int32} {s0 : Int32} {s1 : Nat} {K : MK} {N : MK} {I : MI} {L : ML} {R : MR}  {Q : MI → Prop} (hC : ZOk X G RX12 cX12_drawsDeed 3 none) (hRm : X.2.2.2.1 = rm_X12_drawsDeed) (h : w_X12_drawsDeed_38 x0 x1 x2 s0 s1 K N I L R  Q) : Z X G 3 0 0 (z_T X G (qIv K N L R Q) 0 0) K N I L R 38 [(0, .ref x0), (1, .int x1), (2, .int x2)] [.int s0, .ref s1] := by
  delta w_X12_drawsDeed_38 at h
  refine z_iload_n hC (q := 2) dX12_drawsDeed_38 rfl rfl ?_
  refine z_aload_n hC (q := 0) dX12_drawsDeed_39 rfl rfl ?_
  refine z_sipush hC (v := 1000) k_sipush_1000 dX12_drawsDeed_40 ?_
  obtain ⟨hk27, h⟩ := h
  refine cl_RX12_446 hC (c_X12_draw _ G x0 1000 K N I L R _ h) hk27 dX12_drawsDeed_43 (by rw [hRm]; exact ⟨Nat.le_of_ble_eq_true rfl, Nat.le_of_ble_eq_true rfl⟩) ⟨Nat.zero_le _, Nat.zero_le _⟩ (Nat.le_of_ble_eq_true rfl) (z_kIi (I := I) (fun r28 I29 h => ?_))
  obtain ⟨hk30, h⟩ := h
  refine cl_RX12_449 hC (c_X12_doIf _ G s1 s0 x2 r28 K N I29 L R _ h) hk30 dX12_drawsDeed_46 (by rw [hRm]; exact ⟨Nat.le_of_ble_eq_true rfl, Nat.le_of_ble_eq_true rfl⟩) ⟨Nat.zero_le _, Nat.zero_le _⟩ (Nat.le_of_ble_eq_true rfl) (z_kIv (I := I29) (fun I31 h => ?_))
  exact z_sub [(0, .ref x0), (1, .int x1)] [0, 1] rfl (z_X12_drawsDeed_49 hC hRm h)
set_option maxHeartbeats 4000000 in
set_option maxRecDepth 100000 in
theorem z_X12_drawsDeed_24 {X : ZX} {G : ZG}  {x0 : Nat} {x1 : Int32} {s0 : Int32} {s1 : Nat} {K : MK} {N : MK} {I : MI} {L : ML} {R : MR}  {Q : MI → Prop} (hC : ZOk X G RX12 cX12_drawsDeed 3 none) (hRm : X.2.2.2.1 = rm_X12_drawsDeed) (h : w_X12_drawsDeed_24 x0 x1 s0 s1 K N I L R  Q) : Z X G 3 0 0 (z_T X G (qIv K N L R Q) 0 0) K N I L R 24 [(0, .ref x0), (1, .int x1)] [.int s0, .ref s1] := by
  delta w_X12_drawsDeed_24 at h
  obtain ⟨hk24, h⟩ := h
  refine cl_RX12_446 hC (c_X12_draw _ G s1 s0 K N I L R _ h) hk24 dX12_drawsDeed_24 (by rw [hRm]; exact ⟨Nat.le_of_ble_eq_true rfl, Nat.le_of_ble_eq_true rfl⟩) ⟨Nat.zero_le _, Nat.zero_le _⟩ (Nat.le_of_ble_eq_true rfl) (z_kIi (I := I) (fun r25 I26 h => ?_))
  refine z_istore_n hC (lv1 := [(2, .int r25), (0, .ref x0), (1, .int x1)]) dX12_drawsDeed_27 rfl (by decide) rfl ?_
  refine z_aload_n hC (q := 1) dX12_drawsDeed_28 rfl rfl ?_
  refine z_iload_n hC (q := 2) dX12_drawsDeed_29 rfl rfl ?_
  refine z_if_ne hC (tgt := 37) dX12_drawsDeed_30 (by decide) (fun hc => ?_) (fun hc => ?_)
  · have h := h.1 hc
    refine z_iconst hC (v := 1) k_iconst_1 dX12_drawsDeed_37 ?_
    exact z_sub [(0, .ref x0), (1, .int x1), (2, .int r25)] [1, 2, 0] rfl (z_X12_drawsDeed_38 hC hRm h)
  · have h := h.2 hc
    refine z_iconst hC (v := 0) k_iconst_0 dX12_drawsDeed_33 ?_
    refine z_goto hC (tgt := 38) dX12_drawsDeed_34 (by decide) ?_
    exact z_sub [(0, .ref x0), (1, .int x1), (2, .int r25)] [1, 2, 0] rfl (z_X12_drawsDeed_38 hC hRm h)
set_option maxHeartbeats 4000000 in
set_option maxRecDepth 100000 in
theorem c_X12_drawsDeed  (l : Launch) (G : ZG) (a0 : Nat) (K : MK) (N : MK) (I : MI) (L : ML) (R : MR) (Q : MI → Prop) (h : w_X12_drawsDeed a0 K N I L R Q) : Met l yX12_drawsDeed (.code yX12_drawsDeed cX12_drawsDeed 3 none :: z_tbl) rm_X12_drawsDeed (z_Pc G [.ref a0] K N I L R) (z_Qc G (qIv K N L R Q)) 0 0 (z_A G) := by
  refine z_met (by decide) (Nat.le_of_ble_eq_true rfl) (fun X hX hRm hC0 hnm => ?_)
  subst hX
  have hC : ZOk X G RX12 cX12_drawsDeed 3 none := hC0
  show Z X G 3 0 0 _ K N I L R 0 [(0, .ref a0)] []
  delta w_X12_drawsDeed at h
  refine z_aload_n hC (q := 0) dX12_drawsDeed_0 rfl rfl ?_
  refine z_bipush hC (v := 8) k_bipush_8 dX12_drawsDeed_1 ?_
  obtain ⟨hk1, h⟩ := h
  refine cl_RX12_446 hC (c_X12_draw _ G a0 8 K N I L R _ h) hk1 dX12_drawsDeed_3 (by rw [hRm]; exact ⟨Nat.le_of_ble_eq_true rfl, Nat.le_of_ble_eq_true rfl⟩) ⟨Nat.zero_le _, Nat.zero_le _⟩ (Nat.le_of_ble_eq_true rfl) (z_kIi (I := I) (fun r2 I3 h => ?_))
  refine z_istore_n hC (lv1 := [(1, .int r2), (0, .ref a0)]) dX12_drawsDeed_6 rfl (by decide) rfl ?_
  refine z_iload_n hC (q := 0) dX12_drawsDeed_7 rfl rfl ?_
  refine z_iconst hC (v := 2) k_iconst_2 dX12_drawsDeed_8 ?_
  refine z_icmp_ge hC (tgt := 49) dX12_drawsDeed_9 (by decide) (fun hc => ?_) (fun hc => ?_)
  · have h := h.1 hc
    exact z_sub [(0, .ref a0), (1, .int r2)] [1, 0] rfl (z_X12_drawsDeed_49 hC hRm h)
  · have h := h.2 hc
    refine z_aload_n hC (q := 1) dX12_drawsDeed_12 rfl rfl ?_
    refine z_iload_n hC (q := 0) dX12_drawsDeed_13 rfl rfl ?_
    refine z_if_ne hC (tgt := 22) dX12_drawsDeed_14 (by decide) (fun hc => ?_) (fun hc => ?_)
    · have h := h.1 hc
      refine z_bipush hC (v := 64) k_bipush_64 dX12_drawsDeed_22 ?_
      exact z_sub [(0, .ref a0), (1, .int r2)] [1, 0] rfl (z_X12_drawsDeed_24 hC hRm h)
    · have h := h.2 hc
      refine z_bipush hC (v := 8) k_bipush_8 dX12_drawsDeed_17 ?_
      refine z_goto hC (tgt := 24) dX12_drawsDeed_19 (by decide) ?_
      exact z_sub [(0, .ref a0), (1, .int r2)] [1, 0] rfl (z_X12_drawsDeed_24 hC hRm h)
def w_X12_drawDeeds_7  (x0 : Nat) (x1 : Int32) (x3 : Int32)  (K : MK) (N : MK) (I : MI) (L : ML) (R : MR)  (Q : MI → Prop) : Prop := ∃ J : Nat → Nat → Int32 → Int32 → MI → Prop, (∃ n, J n x0 x1 x3 I) ∧ ∀ (n : Nat) (x0 : Nat) (x1 : Int32) (x3 : Int32) (I : MI), J n x0 x1 x3 I → (x1 ≤ x3 → Q I) ∧ (¬ x1 ≤ x3 → K x0 = 13 ∧ w_X12_drawsDeed x0 K N I L R (fun I4 => ∀ v5 : Int32, v5 = x3 + 1 → ∃ n1, n1 < n ∧ J n1 x0 x1 v5 I4))
def w_X12_drawDeeds  (a0 : Nat) (a1 : Int32) (a2 : Int32) (K : MK) (N : MK) (I : MI) (L : ML) (R : MR) (Q : MI → Prop) : Prop := K a0 = 13 ∧ ∀ I2 : MI, I2 = mup I a0 48 a2 → w_X12_drawDeeds_7 a0 a1 0 K N I2 L R Q
set_option maxHeartbeats 4000000 in
set_option maxRecDepth 100000 in
theorem z_X12_drawDeeds_7 {X : ZX} {G : ZG}  {x0 : Nat} {x1 : Int32} {x3 : Int32}  {K : MK} {N : MK} {I : MI} {L : ML} {R : MR}  {Q : MI → Prop} (hC : ZOk X G RX12 cX12_drawDeeds 4 none) (hRm : X.2.2.2.1 = rm_X12_drawDeeds) (h : w_X12_drawDeeds_7 x0 x1 x3 K N I L R  Q) : Z X G 4 0 0 (z_T X G (qIv K N L R Q) 0 0) K N I L R 7 [(0, .ref x0), (1, .int x1), (3, .int x3)] [] := by
  delta w_X12_drawDeeds_7 at h
  obtain ⟨J, ⟨n, h0⟩, hs⟩ := h
  have key : ∀ (n : Nat) (x0 : Nat) (x1 : Int32) (x3 : Int32) (I : MI), J n x0 x1 x3 I → Z X G 4 0 0 (z_T X G (qIv K N L R Q) 0 0) K N I L R 7 [(0, .ref x0), (1, .int x1), (3, .int x3)] [] := by
    intro n
    induction n using Nat.strongRecOn with
    | _ n ih =>
      intro x0 x1 x3 I hJ
      have hC7 : ∀ (y0 : Nat) (y1 : Int32) (y2 : Int32) (zI : MI), (∃ n1, n1 < n ∧ J n1 y0 y1 y2 zI) → Z X G 4 0 0 (z_T X G (qIv K N L R Q) 0 0) K N zI L R 7 [(0, .ref y0), (1, .int y1), (3, .int y2)] [] := fun y0 y1 y2 zI ⟨n1, hn1, hj⟩ => ih n1 hn1 y0 y1 y2 zI hj
      have h := hs n x0 x1 x3 I hJ
      refine z_iload_n hC (q := 2) dX12_drawDeeds_7 rfl rfl ?_
      refine z_iload_n hC (q := 1) dX12_drawDeeds_8 rfl rfl ?_
      refine z_icmp_ge hC (tgt := 22) dX12_drawDeeds_9 (by decide) (fun hc => ?_) (fun hc => ?_)
      · have h := h.1 hc
        exact z_vret hC dX12_drawDeeds_22 ⟨rfl, rfl, rfl, rfl, rfl, h⟩
      · have h := h.2 hc
        refine z_aload_n hC (q := 0) dX12_drawDeeds_12 rfl rfl ?_
        obtain ⟨hk3, h⟩ := h
        refine cl_RX12_452 hC (c_X12_drawsDeed _ G x0 K N I L R _ h) hk3 dX12_drawDeeds_13 (by rw [hRm]; exact ⟨Nat.le_of_ble_eq_true rfl, Nat.le_of_ble_eq_true rfl⟩) ⟨Nat.zero_le _, Nat.zero_le _⟩ (Nat.le_of_ble_eq_true rfl) (z_kIv (I := I) (fun I4 h => ?_))
        obtain ⟨v5, ev5⟩ : ∃ y : Int32, y = x3 + 1 := ⟨_, rfl⟩
        have h := h v5 ev5
        refine z_iinc hC (q := 2) (v := v5) (lv1 := [(3, .int v5), (0, .ref x0), (1, .int x1)]) dX12_drawDeeds_16 rfl (by rw [ev5, k_iinc_1]) (by decide) rfl ?_
        refine z_goto hC (tgt := 7) dX12_drawDeeds_19 (by decide) ?_
        exact z_sub [(0, .ref x0), (1, .int x1), (3, .int v5)] [1, 2, 0] rfl (hC7 _ _ _ _ h)
  exact key n x0 x1 x3 I h0
set_option maxHeartbeats 4000000 in
set_option maxRecDepth 100000 in
theorem c_X12_drawDeeds  (l : Launch) (G : ZG) (a0 : Nat) (a1 : Int32) (a2 : Int32) (K : MK) (N : MK) (I : MI) (L : ML) (R : MR) (Q : MI → Prop) (h : w_X12_drawDeeds a0 a1 a2 K N I L R Q) : Met l yX12_drawDeeds (.code yX12_drawDeeds cX12_drawDeeds 4 none :: z_tbl) rm_X12_drawDeeds (z_Pc G [.ref a0, .int a1, .int a2] K N I L R) (z_Qc G (qIv K N L R Q)) 0 0 (z_A G) := by
  refine z_met (by decide) (Nat.le_of_ble_eq_true rfl) (fun X hX hRm hC0 hnm => ?_)
  subst hX
  have hC : ZOk X G RX12 cX12_drawDeeds 4 none := hC0
  show Z X G 4 0 0 _ K N I L R 0 [(0, .ref a0), (1, .int a1), (2, .int a2)] []
  delta w_X12_drawDeeds at h
  refine z_aload_n hC (q := 0) dX12_drawDeeds_0 rfl rfl ?_
  refine z_iload_n hC (q := 2) dX12_drawDeeds_1 rfl rfl ?_
  obtain ⟨hk1, h⟩ := h
  refine pf_RX12_442 hC dX12_drawDeeds_2 hk1 ?_
  refine z_genI (fun I2 eI2 => ?_)
  have h := h I2 eI2
  refine z_iconst hC (v := 0) k_iconst_0 dX12_drawDeeds_5 ?_
  refine z_istore_n hC (lv1 := [(3, .int 0), (0, .ref a0), (1, .int a1), (2, .int a2)]) dX12_drawDeeds_6 rfl (by decide) rfl ?_
  exact z_sub [(0, .ref a0), (1, .int a1), (3, .int 0)] [1, 2, 0] rfl (z_X12_drawDeeds_7 hC hRm h)
def w_X12_stay  (a0 : Nat) (a1 : Bool) (K : MK) (N : MK) (I : MI) (L : ML) (R : MR) (Q : MI → Prop) : Prop := K a0 = 13 ∧ ∃ b2 : Nat, R a0 18 = some b2 ∧ w_X12_save a0 b2 0 K N I L R (fun I3 => ∃ b4 : Nat, R a0 19 = some b4 ∧ w_X12_comeBack a0 b4 0 K N I3 L R (fun I5 => (a1 = true → w_X12_snap a0 K N I5 L R (fun I6 => w_X12_comeBack a0 b2 0 K N I6 L R (fun I7 => Q I7))) ∧ (a1 = false → Q I5)))
set_option maxHeartbeats 4000000 in
set_option maxRecDepth 100000 in
theorem c_X12_stay  (l : Launch) (G : ZG) (a0 : Nat) (a1 : Bool) (K : MK) (N : MK) (I : MI) (L : ML) (R : MR) (Q : MI → Prop) (h : w_X12_stay a0 a1 K N I L R Q) : Met l yX12_stay (.code yX12_stay cX12_stay 2 none :: z_tbl) rm_X12_stay (z_Pc G [.ref a0, .int (bi a1)] K N I L R) (z_Qc G (qIv K N L R Q)) 0 0 (z_A G) := by
  refine z_met (by decide) (Nat.le_of_ble_eq_true rfl) (fun X hX hRm hC0 hnm => ?_)
  subst hX
  have hC : ZOk X G RX12 cX12_stay 2 none := hC0
  show Z X G 2 0 0 _ K N I L R 0 [(0, .ref a0), (1, .int (bi a1))] []
  delta w_X12_stay at h
  refine z_aload_n hC (q := 0) dX12_stay_0 rfl rfl ?_
  refine z_aload_n hC (q := 0) dX12_stay_1 rfl rfl ?_
  obtain ⟨hk1, h⟩ := h
  obtain ⟨b2, hb2, h⟩ := h
  refine gf_RX12_110 hC dX12_stay_2 hk1 hb2 ?_
  refine z_iconst hC (v := 0) k_iconst_0 dX12_stay_5 ?_
  refine cl_RX12_342 hC (c_X12_save _ G a0 b2 0 K N I L R _ h) hk1 dX12_stay_6 (by rw [hRm]; exact ⟨Nat.le_of_ble_eq_true rfl, Nat.le_of_ble_eq_true rfl⟩) ⟨Nat.zero_le _, Nat.zero_le _⟩ (Nat.le_of_ble_eq_true rfl) (z_kIv (I := I) (fun I3 h => ?_))
  refine z_aload_n hC (q := 0) dX12_stay_9 rfl rfl ?_
  refine z_aload_n hC (q := 0) dX12_stay_10 rfl rfl ?_
  obtain ⟨b4, hb4, h⟩ := h
  refine gf_RX12_113 hC dX12_stay_11 hk1 hb4 ?_
  refine z_iconst hC (v := 0) k_iconst_0 dX12_stay_14 ?_
  refine cl_RX12_372 hC (c_X12_comeBack _ G a0 b4 0 K N I3 L R _ h) hk1 dX12_stay_15 (by rw [hRm]; exact ⟨Nat.le_of_ble_eq_true rfl, Nat.le_of_ble_eq_true rfl⟩) ⟨Nat.zero_le _, Nat.zero_le _⟩ (Nat.le_of_ble_eq_true rfl) (z_kIv (I := I3) (fun I5 h => ?_))
  refine z_iload_n hC (q := 1) dX12_stay_18 rfl rfl ?_
  refine z_ifz_ne hC (tgt := 23) dX12_stay_19 (by decide) (fun hc => ?_) (fun hc => ?_)
  · have h := h.1 hc
    refine z_aload_n hC (q := 0) dX12_stay_23 rfl rfl ?_
    refine cl_RX12_361 hC (c_X12_snap _ G a0 K N I5 L R _ h) hk1 dX12_stay_24 (by rw [hRm]; exact ⟨Nat.le_of_ble_eq_true rfl, Nat.le_of_ble_eq_true rfl⟩) ⟨Nat.zero_le _, Nat.zero_le _⟩ (Nat.le_of_ble_eq_true rfl) (z_kIv (I := I5) (fun I6 h => ?_))
    refine z_aload_n hC (q := 0) dX12_stay_27 rfl rfl ?_
    refine z_aload_n hC (q := 0) dX12_stay_28 rfl rfl ?_
    refine gf_RX12_110 hC dX12_stay_29 hk1 hb2 ?_
    refine z_iconst hC (v := 0) k_iconst_0 dX12_stay_32 ?_
    refine cl_RX12_372 hC (c_X12_comeBack _ G a0 b2 0 K N I6 L R _ h) hk1 dX12_stay_33 (by rw [hRm]; exact ⟨Nat.le_of_ble_eq_true rfl, Nat.le_of_ble_eq_true rfl⟩) ⟨Nat.zero_le _, Nat.zero_le _⟩ (Nat.le_of_ble_eq_true rfl) (z_kIv (I := I6) (fun I7 h => ?_))
    exact z_vret hC dX12_stay_36 ⟨rfl, rfl, rfl, rfl, rfl, h⟩
  · have h := h.2 hc
    exact z_vret hC dX12_stay_22 ⟨rfl, rfl, rfl, rfl, rfl, h⟩
def w_X12_drawn  (a0 : Nat) (a1 : Int32) (a2 : Int32) (K : MK) (N : MK) (I : MI) (L : ML) (R : MR) (Q : Int32 → MI → Prop) : Prop := K a0 = 13 ∧ ∀ I2 : MI, I2 = mup I a0 0 0 → w_X12_isIn a1 1 60 K N I2 L R (fun r3 => (r3 = true → ∃ b4 : Nat, R a0 14 = some b4 ∧ K b4 = 14 ∧ vp_in 343 (N b4) ∧ ∀ v7 : Int32, v7 = (I2 b4 (ix 343)) → ∃ b8 : Nat, R a0 19 = some b8 ∧ w_X12_save a0 b8 0 K N I2 L R (fun I9 => w_X12_drawDeeds a0 a1 a2 K N I9 L R (fun I10 => ∀ v11 : Int32, v11 = ((I10 b4 (ix 343)) - v7) → (v11 ≤ 0 → w_X12_stay a0 false K N I10 L R (fun I12 => Q v11 I12)) ∧ (¬ v11 ≤ 0 → w_X12_stay a0 true K N I10 L R (fun I13 => Q v11 I13))))) ∧ (r3 = false → Q (-1) I2))
set_option maxHeartbeats 4000000 in
set_option maxRecDepth 100000 in
theorem c_X12_drawn  (l : Launch) (G : ZG) (a0 : Nat) (a1 : Int32) (a2 : Int32) (K : MK) (N : MK) (I : MI) (L : ML) (R : MR) (Q : Int32 → MI → Prop) (h : w_X12_drawn a0 a1 a2 K N I L R Q) : Met l yX12_drawn (.code yX12_drawn cX12_drawn 5 (some .int) :: z_tbl) rm_X12_drawn (z_Pc G [.ref a0, .int a1, .int a2] K N I L R) (z_Qc G (qIi K N L R Q)) 0 0 (z_A G) := by
  refine z_met (by decide) (Nat.le_of_ble_eq_true rfl) (fun X hX hRm hC0 hnm => ?_)
  subst hX
  have hC : ZOk X G RX12 cX12_drawn 5 (some .int) := hC0
  show Z X G 5 0 0 _ K N I L R 0 [(0, .ref a0), (1, .int a1), (2, .int a2)] []
  delta w_X12_drawn at h
  refine z_aload_n hC (q := 0) dX12_drawn_0 rfl rfl ?_
  refine z_iconst hC (v := 0) k_iconst_0 dX12_drawn_1 ?_
  obtain ⟨hk1, h⟩ := h
  refine pf_RX12_1 hC dX12_drawn_2 hk1 ?_
  refine z_genI (fun I2 eI2 => ?_)
  have h := h I2 eI2
  refine z_iload_n hC (q := 1) dX12_drawn_5 rfl rfl ?_
  refine z_iconst hC (v := 1) k_iconst_1 dX12_drawn_6 ?_
  refine z_bipush hC (v := 60) k_bipush_60 dX12_drawn_7 ?_
  refine cl_RX12_75 hC (c_X12_isIn _ G a1 1 60 K N I2 L R _ h) dX12_drawn_9 (by rw [hRm]; exact ⟨Nat.le_of_ble_eq_true rfl, Nat.le_of_ble_eq_true rfl⟩) ⟨Nat.zero_le _, Nat.zero_le _⟩ (Nat.le_of_ble_eq_true rfl) (z_kPz (fun r3 h => ?_))
  refine z_ifz_ne hC (tgt := 17) dX12_drawn_12 (by decide) (fun hc => ?_) (fun hc => ?_)
  · have h := h.1 hc
    refine z_aload_n hC (q := 0) dX12_drawn_17 rfl rfl ?_
    obtain ⟨b4, hb4, h⟩ := h
    refine gf_RX12_98 hC dX12_drawn_18 hk1 hb4 ?_
    refine z_sipush hC (v := 343) k_sipush_343 dX12_drawn_21 ?_
    obtain ⟨hk5, h⟩ := h
    obtain ⟨hi6, h⟩ := h
    refine z_iaload hC hk5 hi6 dX12_drawn_24 ?_
    refine z_topi (fun v7 ev7 => ?_)
    have h := h v7 ev7
    refine z_istore_n hC (lv1 := [(3, .int v7), (0, .ref a0), (1, .int a1), (2, .int a2)]) dX12_drawn_25 rfl (by decide) rfl ?_
    refine z_aload_n hC (q := 1) dX12_drawn_26 rfl rfl ?_
    refine z_aload_n hC (q := 1) dX12_drawn_27 rfl rfl ?_
    obtain ⟨b8, hb8, h⟩ := h
    refine gf_RX12_113 hC dX12_drawn_28 hk1 hb8 ?_
    refine z_iconst hC (v := 0) k_iconst_0 dX12_drawn_31 ?_
    refine cl_RX12_342 hC (c_X12_save _ G a0 b8 0 K N I2 L R _ h) hk1 dX12_drawn_32 (by rw [hRm]; exact ⟨Nat.le_of_ble_eq_true rfl, Nat.le_of_ble_eq_true rfl⟩) ⟨Nat.zero_le _, Nat.zero_le _⟩ (Nat.le_of_ble_eq_true rfl) (z_kIv (I := I2) (fun I9 h => ?_))
    refine z_aload_n hC (q := 1) dX12_drawn_35 rfl rfl ?_
    refine z_iload_n hC (q := 2) dX12_drawn_36 rfl rfl ?_
    refine z_iload_n hC (q := 3) dX12_drawn_37 rfl rfl ?_
    refine cl_RX12_455 hC (c_X12_drawDeeds _ G a0 a1 a2 K N I9 L R _ h) hk1 dX12_drawn_38 (by rw [hRm]; exact ⟨Nat.le_of_ble_eq_true rfl, Nat.le_of_ble_eq_true rfl⟩) ⟨Nat.zero_le _, Nat.zero_le _⟩ (Nat.le_of_ble_eq_true rfl) (z_kIv (I := I9) (fun I10 h => ?_))
    refine z_aload_n hC (q := 1) dX12_drawn_41 rfl rfl ?_
    refine gf_RX12_98 hC dX12_drawn_42 hk1 hb4 ?_
    refine z_sipush hC (v := 343) k_sipush_343 dX12_drawn_45 ?_
    refine z_iaload hC hk5 hi6 dX12_drawn_48 ?_
    refine z_iload_n hC (q := 0) dX12_drawn_49 rfl rfl ?_
    refine z_isub hC dX12_drawn_50 ?_
    refine z_topi (fun v11 ev11 => ?_)
    have h := h v11 ev11
    refine z_istore hC (lv1 := [(4, .int v11), (3, .int v7), (0, .ref a0), (1, .int a1), (2, .int a2)]) dX12_drawn_51 (by decide) rfl ?_
    refine z_aload_n hC (q := 2) dX12_drawn_53 rfl rfl ?_
    refine z_iload hC (q := 0) dX12_drawn_54 rfl ?_
    refine z_if_le hC (tgt := 63) dX12_drawn_56 (by decide) (fun hc => ?_) (fun hc => ?_)
    · have h := h.1 hc
      refine z_iconst hC (v := 0) k_iconst_0 dX12_drawn_63 ?_
      refine cl_RX12_458 hC (c_X12_stay _ G a0 false K N I10 L R _ h) hk1 dX12_drawn_64 (by rw [hRm]; exact ⟨Nat.le_of_ble_eq_true rfl, Nat.le_of_ble_eq_true rfl⟩) ⟨Nat.zero_le _, Nat.zero_le _⟩ (Nat.le_of_ble_eq_true rfl) (z_kIv (I := I10) (fun I12 h => ?_))
      refine z_iload hC (q := 0) dX12_drawn_67 rfl ?_
      exact z_iret hC dX12_drawn_69 ⟨_, rfl, rfl, rfl, rfl, rfl, h⟩
    · have h := h.2 hc
      refine z_iconst hC (v := 1) k_iconst_1 dX12_drawn_59 ?_
      refine z_goto hC (tgt := 64) dX12_drawn_60 (by decide) ?_
      refine cl_RX12_458 hC (c_X12_stay _ G a0 true K N I10 L R _ h) hk1 dX12_drawn_64 (by rw [hRm]; exact ⟨Nat.le_of_ble_eq_true rfl, Nat.le_of_ble_eq_true rfl⟩) ⟨Nat.zero_le _, Nat.zero_le _⟩ (Nat.le_of_ble_eq_true rfl) (z_kIv (I := I10) (fun I13 h => ?_))
      refine z_iload hC (q := 0) dX12_drawn_67 rfl ?_
      exact z_iret hC dX12_drawn_69 ⟨_, rfl, rfl, rfl, rfl, rfl, h⟩
  · have h := h.2 hc
    refine z_iconst hC (v := (-1)) k_iconst_m1 dX12_drawn_15 ?_
    exact z_iret hC dX12_drawn_16 ⟨_, rfl, rfl, rfl, rfl, rfl, h⟩
def w_X12_odds_40  (x0 : Nat) (x1 : Int32) (x2 : Int32) (x3 : Int32) (x4 : Int32) (x5 : Int32)  (K : MK) (N : MK) (I : MI) (L : ML) (R : MR)  (Q : Int32 → MI → Prop) : Prop := ∃ J : Nat → Nat → Int32 → Int32 → Int32 → Int32 → Int32 → MI → Prop, (∃ n, J n x0 x1 x2 x3 x4 x5 I) ∧ ∀ (n : Nat) (x0 : Nat) (x1 : Int32) (x2 : Int32) (x3 : Int32) (x4 : Int32) (x5 : Int32) (I : MI), J n x0 x1 x2 x3 x4 x5 I → (x2 ≤ x5 → Q x4 I) ∧ (¬ x2 ≤ x5 → K x0 = 13 ∧ w_X12_drawDeeds x0 10 (x3 + x5) K N I L R (fun I8 => w_X12_isThere x0 x1 K N I8 L R (fun r9 I10 => (r9 = false → ∃ b11 : Nat, R x0 19 = some b11 ∧ w_X12_comeBack x0 b11 0 K N I10 L R (fun I12 => ∀ v13 : Int32, v13 = x5 + 1 → ∃ n1, n1 < n ∧ J n1 x0 x1 x2 x3 x4 v13 I12)) ∧ (r9 = true → ∀ v14 : Int32, v14 = x4 + 1 → ∃ b15 : Nat, R x0 19 = some b15 ∧ w_X12_comeBack x0 b15 0 K N I10 L R (fun I16 => ∀ v17 : Int32, v17 = x5 + 1 → ∃ n1, n1 < n ∧ J n1 x0 x1 x2 x3 v14 v17 I16)))))
def w_X12_odds  (a0 : Nat) (a1 : Int32) (a2 : Int32) (a3 : Int32) (K : MK) (N : MK) (I : MI) (L : ML) (R : MR) (Q : Int32 → MI → Prop) : Prop := K a0 = 13 ∧ ∀ I2 : MI, I2 = mup I a0 0 0 → w_X12_isVar a0 a1 K N I2 L R (fun r3 => (r3 = false → Q (-1) I2) ∧ (r3 = true → w_X12_isIn a2 1 30 K N I2 L R (fun r4 => (r4 = true → ∃ b5 : Nat, R a0 19 = some b5 ∧ w_X12_save a0 b5 0 K N I2 L R (fun I6 => w_X12_odds_40 a0 a1 a2 a3 0 0 K N I6 L R Q)) ∧ (r4 = false → Q (-1) I2))))
set_option maxHeartbeats 4000000 in
set_option maxRecDepth 100000 in
theorem z_X12_odds_40 {X : ZX} {G : ZG}  {x0 : Nat} {x1 : Int32} {x2 : Int32} {x3 : Int32} {x4 : Int32} {x5 : Int32}  {K : MK} {N : MK} {I : MI} {L : ML} {R : MR}  {Q : Int32 → MI → Prop} (hC : ZOk X G RX12 cX12_odds 6 (some .int)) (hRm : X.2.2.2.1 = rm_X12_odds) (h : w_X12_odds_40 x0 x1 x2 x3 x4 x5 K N I L R  Q) : Z X G 6 0 0 (z_T X G (qIi K N L R Q) 0 0) K N I L R 40 [(0, .ref x0), (1, .int x1), (2, .int x2), (3, .int x3), (4, .int x4), (5, .int x5)] [] := by
  delta w_X12_odds_40 at h
  obtain ⟨J, ⟨n, h0⟩, hs⟩ := h
  have key : ∀ (n : Nat) (x0 : Nat) (x1 : Int32) (x2 : Int32) (x3 : Int32) (x4 : Int32) (x5 : Int32) (I : MI), J n x0 x1 x2 x3 x4 x5 I → Z X G 6 0 0 (z_T X G (qIi K N L R Q) 0 0) K N I L R 40 [(0, .ref x0), (1, .int x1), (2, .int x2), (3, .int x3), (4, .int x4), (5, .int x5)] [] := by
    intro n
    induction n using Nat.strongRecOn with
    | _ n ih =>
      intro x0 x1 x2 x3 x4 x5 I hJ
      have hC40 : ∀ (y0 : Nat) (y1 : Int32) (y2 : Int32) (y3 : Int32) (y4 : Int32) (y5 : Int32) (zI : MI), (∃ n1, n1 < n ∧ J n1 y0 y1 y2 y3 y4 y5 zI) → Z X G 6 0 0 (z_T X G (qIi K N L R Q) 0 0) K N zI L R 40 [(0, .ref y0), (1, .int y1), (2, .int y2), (3, .int y3), (4, .int y4), (5, .int y5)] [] := fun y0 y1 y2 y3 y4 y5 zI ⟨n1, hn1, hj⟩ => ih n1 hn1 y0 y1 y2 y3 y4 y5 zI hj
      have h := hs n x0 x1 x2 x3 x4 x5 I hJ
      refine z_iload hC (q := 5) dX12_odds_40 rfl ?_
      refine z_iload_n hC (q := 2) dX12_odds_42 rfl rfl ?_
      refine z_icmp_ge hC (tgt := 82) dX12_odds_43 (by decide) (fun hc => ?_) (fun hc => ?_)
      · have h := h.1 hc
        refine z_iload hC (q := 4) dX12_odds_82 rfl ?_
        exact z_iret hC dX12_odds_84 ⟨_, rfl, rfl, rfl, rfl, rfl, h⟩
      · have h := h.2 hc
        refine z_aload_n hC (q := 0) dX12_odds_46 rfl rfl ?_
        refine z_bipush hC (v := 10) k_bipush_10 dX12_odds_47 ?_
        refine z_iload_n hC (q := 3) dX12_odds_49 rfl rfl ?_
        refine z_iload hC (q := 5) dX12_odds_50 rfl ?_
        refine z_iadd hC dX12_odds_52 ?_
        obtain ⟨hk7, h⟩ := h
        refine cl_RX12_455 hC (c_X12_drawDeeds _ G x0 10 (x3 + x5) K N I L R _ h) hk7 dX12_odds_53 (by rw [hRm]; exact ⟨Nat.le_of_ble_eq_true rfl, Nat.le_of_ble_eq_true rfl⟩) ⟨Nat.zero_le _, Nat.zero_le _⟩ (Nat.le_of_ble_eq_true rfl) (z_kIv (I := I) (fun I8 h => ?_))
        refine z_aload_n hC (q := 0) dX12_odds_56 rfl rfl ?_
        refine z_iload_n hC (q := 1) dX12_odds_57 rfl rfl ?_
        refine cl_RX12_320 hC (c_X12_isThere _ G x0 x1 K N I8 L R _ h) hk7 dX12_odds_58 (by rw [hRm]; exact ⟨Nat.le_of_ble_eq_true rfl, Nat.le_of_ble_eq_true rfl⟩) ⟨Nat.zero_le _, Nat.zero_le _⟩ (Nat.le_of_ble_eq_true rfl) (z_kIz (I := I8) (fun r9 I10 h => ?_))
        refine z_ifz_eq hC (tgt := 67) dX12_odds_61 (by decide) (fun hc => ?_) (fun hc => ?_)
        · have h := h.1 hc
          refine z_aload_n hC (q := 0) dX12_odds_67 rfl rfl ?_
          refine z_aload_n hC (q := 0) dX12_odds_68 rfl rfl ?_
          obtain ⟨b11, hb11, h⟩ := h
          refine gf_RX12_113 hC dX12_odds_69 hk7 hb11 ?_
          refine z_iconst hC (v := 0) k_iconst_0 dX12_odds_72 ?_
          refine cl_RX12_372 hC (c_X12_comeBack _ G x0 b11 0 K N I10 L R _ h) hk7 dX12_odds_73 (by rw [hRm]; exact ⟨Nat.le_of_ble_eq_true rfl, Nat.le_of_ble_eq_true rfl⟩) ⟨Nat.zero_le _, Nat.zero_le _⟩ (Nat.le_of_ble_eq_true rfl) (z_kIv (I := I10) (fun I12 h => ?_))
          obtain ⟨v13, ev13⟩ : ∃ y : Int32, y = x5 + 1 := ⟨_, rfl⟩
          have h := h v13 ev13
          refine z_iinc hC (q := 5) (v := v13) (lv1 := [(5, .int v13), (0, .ref x0), (1, .int x1), (2, .int x2), (3, .int x3), (4, .int x4)]) dX12_odds_76 rfl (by rw [ev13, k_iinc_1]) (by decide) rfl ?_
          refine z_goto hC (tgt := 40) dX12_odds_79 (by decide) ?_
          exact z_sub [(0, .ref x0), (1, .int x1), (2, .int x2), (3, .int x3), (4, .int x4), (5, .int v13)] [1, 2, 3, 4, 5, 0] rfl (hC40 _ _ _ _ _ _ _ h)
        · have h := h.2 hc
          obtain ⟨v14, ev14⟩ : ∃ y : Int32, y = x4 + 1 := ⟨_, rfl⟩
          have h := h v14 ev14
          refine z_iinc hC (q := 4) (v := v14) (lv1 := [(4, .int v14), (0, .ref x0), (1, .int x1), (2, .int x2), (3, .int x3), (5, .int x5)]) dX12_odds_64 rfl (by rw [ev14, k_iinc_1]) (by decide) rfl ?_
          refine z_aload_n hC (q := 1) dX12_odds_67 rfl rfl ?_
          refine z_aload_n hC (q := 1) dX12_odds_68 rfl rfl ?_
          obtain ⟨b15, hb15, h⟩ := h
          refine gf_RX12_113 hC dX12_odds_69 hk7 hb15 ?_
          refine z_iconst hC (v := 0) k_iconst_0 dX12_odds_72 ?_
          refine cl_RX12_372 hC (c_X12_comeBack _ G x0 b15 0 K N I10 L R _ h) hk7 dX12_odds_73 (by rw [hRm]; exact ⟨Nat.le_of_ble_eq_true rfl, Nat.le_of_ble_eq_true rfl⟩) ⟨Nat.zero_le _, Nat.zero_le _⟩ (Nat.le_of_ble_eq_true rfl) (z_kIv (I := I10) (fun I16 h => ?_))
          obtain ⟨v17, ev17⟩ : ∃ y : Int32, y = x5 + 1 := ⟨_, rfl⟩
          have h := h v17 ev17
          refine z_iinc hC (q := 5) (v := v17) (lv1 := [(5, .int v17), (4, .int v14), (0, .ref x0), (1, .int x1), (2, .int x2), (3, .int x3)]) dX12_odds_76 rfl (by rw [ev17, k_iinc_1]) (by decide) rfl ?_
          refine z_goto hC (tgt := 40) dX12_odds_79 (by decide) ?_
          exact z_sub [(0, .ref x0), (1, .int x1), (2, .int x2), (3, .int x3), (4, .int v14), (5, .int v17)] [2, 3, 4, 5, 1, 0] rfl (hC40 _ _ _ _ _ _ _ h)
  exact key n x0 x1 x2 x3 x4 x5 I h0
set_option maxHeartbeats 4000000 in
set_option maxRecDepth 100000 in
theorem c_X12_odds  (l : Launch) (G : ZG) (a0 : Nat) (a1 : Int32) (a2 : Int32) (a3 : Int32) (K : MK) (N : MK) (I : MI) (L : ML) (R : MR) (Q : Int32 → MI → Prop) (h : w_X12_odds a0 a1 a2 a3 K N I L R Q) : Met l yX12_odds (.code yX12_odds cX12_odds 6 (some .int) :: z_tbl) rm_X12_odds (z_Pc G [.ref a0, .int a1, .int a2, .int a3] K N I L R) (z_Qc G (qIi K N L R Q)) 0 0 (z_A G) := by
  refine z_met (by decide) (Nat.le_of_ble_eq_true rfl) (fun X hX hRm hC0 hnm => ?_)
  subst hX
  have hC : ZOk X G RX12 cX12_odds 6 (some .int) := hC0
  show Z X G 6 0 0 _ K N I L R 0 [(0, .ref a0), (1, .int a1), (2, .int a2), (3, .int a3)] []
  delta w_X12_odds at h
  refine z_aload_n hC (q := 0) dX12_odds_0 rfl rfl ?_
  refine z_iconst hC (v := 0) k_iconst_0 dX12_odds_1 ?_
  obtain ⟨hk1, h⟩ := h
  refine pf_RX12_1 hC dX12_odds_2 hk1 ?_
  refine z_genI (fun I2 eI2 => ?_)
  have h := h I2 eI2
  refine z_aload_n hC (q := 0) dX12_odds_5 rfl rfl ?_
  refine z_iload_n hC (q := 1) dX12_odds_6 rfl rfl ?_
  refine cl_RX12_323 hC (c_X12_isVar _ G a0 a1 K N I2 L R _ h) hk1 dX12_odds_7 (by rw [hRm]; exact ⟨Nat.le_of_ble_eq_true rfl, Nat.le_of_ble_eq_true rfl⟩) ⟨Nat.zero_le _, Nat.zero_le _⟩ (Nat.le_of_ble_eq_true rfl) (z_kPz (fun r3 h => ?_))
  refine z_ifz_eq hC (tgt := 23) dX12_odds_10 (by decide) (fun hc => ?_) (fun hc => ?_)
  · have h := h.1 hc
    refine z_iconst hC (v := (-1)) k_iconst_m1 dX12_odds_23 ?_
    exact z_iret hC dX12_odds_24 ⟨_, rfl, rfl, rfl, rfl, rfl, h⟩
  · have h := h.2 hc
    refine z_iload_n hC (q := 2) dX12_odds_13 rfl rfl ?_
    refine z_iconst hC (v := 1) k_iconst_1 dX12_odds_14 ?_
    refine z_bipush hC (v := 30) k_bipush_30 dX12_odds_15 ?_
    refine cl_RX12_75 hC (c_X12_isIn _ G a2 1 30 K N I2 L R _ h) dX12_odds_17 (by rw [hRm]; exact ⟨Nat.le_of_ble_eq_true rfl, Nat.le_of_ble_eq_true rfl⟩) ⟨Nat.zero_le _, Nat.zero_le _⟩ (Nat.le_of_ble_eq_true rfl) (z_kPz (fun r4 h => ?_))
    refine z_ifz_ne hC (tgt := 25) dX12_odds_20 (by decide) (fun hc => ?_) (fun hc => ?_)
    · have h := h.1 hc
      refine z_aload_n hC (q := 0) dX12_odds_25 rfl rfl ?_
      refine z_aload_n hC (q := 0) dX12_odds_26 rfl rfl ?_
      obtain ⟨b5, hb5, h⟩ := h
      refine gf_RX12_113 hC dX12_odds_27 hk1 hb5 ?_
      refine z_iconst hC (v := 0) k_iconst_0 dX12_odds_30 ?_
      refine cl_RX12_342 hC (c_X12_save _ G a0 b5 0 K N I2 L R _ h) hk1 dX12_odds_31 (by rw [hRm]; exact ⟨Nat.le_of_ble_eq_true rfl, Nat.le_of_ble_eq_true rfl⟩) ⟨Nat.zero_le _, Nat.zero_le _⟩ (Nat.le_of_ble_eq_true rfl) (z_kIv (I := I2) (fun I6 h => ?_))
      refine z_iconst hC (v := 0) k_iconst_0 dX12_odds_34 ?_
      refine z_istore hC (lv1 := [(4, .int 0), (0, .ref a0), (1, .int a1), (2, .int a2), (3, .int a3)]) dX12_odds_35 (by decide) rfl ?_
      refine z_iconst hC (v := 0) k_iconst_0 dX12_odds_37 ?_
      refine z_istore hC (lv1 := [(5, .int 0), (4, .int 0), (0, .ref a0), (1, .int a1), (2, .int a2), (3, .int a3)]) dX12_odds_38 (by decide) rfl ?_
      exact z_sub [(0, .ref a0), (1, .int a1), (2, .int a2), (3, .int a3), (4, .int 0), (5, .int 0)] [2, 3, 4, 5, 1, 0] rfl (z_X12_odds_40 hC hRm h)
    · have h := h.2 hc
      refine z_iconst hC (v := (-1)) k_iconst_m1 dX12_odds_23 ?_
      exact z_iret hC dX12_odds_24 ⟨_, rfl, rfl, rfl, rfl, rfl, h⟩
def w_X12_keep  (a0 : Nat) (a1 : Int32) (a2 : Bool) (K : MK) (N : MK) (I : MI) (L : ML) (R : MR) (Q : Bool → MI → Prop) : Prop := (a2 = false → Q a2 I) ∧ (a2 = true → K a0 = 13 ∧ ∃ b2 : Nat, R a0 49 = some b2 ∧ K b2 = 14 ∧ vp_in a1 (N b2) ∧ ∀ I5 : MI, I5 = mup I b2 (ix a1) (I a0 13) → Q a2 I5)
set_option maxHeartbeats 4000000 in
set_option maxRecDepth 100000 in
theorem c_X12_keep  (l : Launch) (G : ZG) (a0 : Nat) (a1 : Int32) (a2 : Bool) (K : MK) (N : MK) (I : MI) (L : ML) (R : MR) (Q : Bool → MI → Prop) (h : w_X12_keep a0 a1 a2 K N I L R Q) : Met l yX12_keep (.code yX12_keep cX12_keep 3 (some .boolean) :: z_tbl) rm_X12_keep (z_Pc G [.ref a0, .int a1, .int (bi a2)] K N I L R) (z_Qc G (qIz K N L R Q)) 0 0 (z_A G) := by
  refine z_met (by decide) (Nat.le_of_ble_eq_true rfl) (fun X hX hRm hC0 hnm => ?_)
  subst hX
  have hC : ZOk X G RX12 cX12_keep 3 (some .boolean) := hC0
  show Z X G 3 0 0 _ K N I L R 0 [(0, .ref a0), (1, .int a1), (2, .int (bi a2))] []
  delta w_X12_keep at h
  refine z_iload_n hC (q := 2) dX12_keep_0 rfl rfl ?_
  refine z_ifz_eq hC (tgt := 14) dX12_keep_1 (by decide) (fun hc => ?_) (fun hc => ?_)
  · have h := h.1 hc
    refine z_iload_n hC (q := 2) dX12_keep_14 rfl rfl ?_
    exact z_zret (b := a2) hC dX12_keep_15 rfl ⟨a2, rfl, rfl, rfl, rfl, rfl, h⟩
  · have h := h.2 hc
    refine z_aload_n hC (q := 0) dX12_keep_4 rfl rfl ?_
    obtain ⟨hk1, h⟩ := h
    obtain ⟨b2, hb2, h⟩ := h
    refine gf_RX12_163 hC dX12_keep_5 hk1 hb2 ?_
    refine z_iload_n hC (q := 1) dX12_keep_8 rfl rfl ?_
    refine z_aload_n hC (q := 0) dX12_keep_9 rfl rfl ?_
    refine gf_RX12_79 hC dX12_keep_10 hk1 ?_
    obtain ⟨hk3, h⟩ := h
    obtain ⟨hi4, h⟩ := h
    refine z_iastore hC hk3 hi4 dX12_keep_13 ?_
    refine z_genI (fun I5 eI5 => ?_)
    have h := h I5 eI5
    refine z_iload_n hC (q := 2) dX12_keep_14 rfl rfl ?_
    exact z_zret (b := a2) hC dX12_keep_15 rfl ⟨a2, rfl, rfl, rfl, rfl, rfl, h⟩
def w_X12_readBookLine_255  (x0 : Nat) (x2 : Int32)  (K : MK) (N : MK) (I : MI) (L : ML) (R : MR)  (Q : Bool → MI → ML → Prop) : Prop := K x0 = 13 ∧ w_X12_readNumber x0 1 250 K N I L R (fun r48 I49 L50 => w_X12_keep x0 (x2 + 1) r48 K N I49 L50 R (fun r51 I52 => (r51 = false → Q false I52 L50) ∧ (r51 = true → w_X12_readEnd x0 K N I52 L50 R (fun r53 I54 L55 => (r53 = false → Q false I54 L55) ∧ (r53 = true → Q true I54 L55)))))
def w_X12_readBookLine_4  (x0 : Nat) (x1 : Int32) (x2 : Int32)  (K : MK) (N : MK) (I : MI) (L : ML) (R : MR)  (Q : Bool → MI → ML → Prop) : Prop := ∃ J : Nat → Nat → Int32 → Int32 → MI → ML → Prop, (∃ n, J n x0 x1 x2 I L) ∧ ∀ (n : Nat) (x0 : Nat) (x1 : Int32) (x2 : Int32) (I : MI) (L : ML), J n x0 x1 x2 I L → ((7 : Int32) < x2 → (¬ x1 = (-1) → K x0 = 13 ∧ (¬ (I x0 51) = 40 → ∀ v2 : Int32, v2 = ((3 : Int32) * (I x0 51)) → ∃ b3 : Nat, R x0 49 = some b3 ∧ K b3 = 14 ∧ vp_in v2 (N b3) ∧ ∀ I6 : MI, I6 = mup I b3 (ix v2) x1 → vp_in (v2 + 1) (N b3) ∧ ∀ I8 : MI, I8 = mup I6 b3 (ix (v2 + 1)) 0 → vp_in (v2 + 2) (N b3) ∧ ∀ I10 : MI, I10 = mup I8 b3 (ix (v2 + 2)) 0 → w_X12_go x0 K N I10 L R (fun I11 L12 => (x1 = 0 → w_X12_readNumber x0 0 7 K N I11 L12 R (fun r13 I14 L15 => w_X12_keep x0 (v2 + 1) r13 K N I14 L15 R (fun r16 I17 => (r16 = false → Q false I17 L15) ∧ (r16 = true → w_X12_readNumber x0 0 999 K N I17 L15 R (fun r18 I19 L20 => w_X12_keep x0 (v2 + 2) r18 K N I19 L20 R (fun r21 I22 => (r21 = false → Q false I22 L20) ∧ (r21 = true → w_X12_readEnd x0 K N I22 L20 R (fun r23 I24 L25 => (r23 = false → Q false I24 L25) ∧ (r23 = true → Q true I24 L25))))))))) ∧ (¬ x1 = 0 → (x1 = 1 → w_X12_readNumber x0 0 63 K N I11 L12 R (fun r26 I27 L28 => w_X12_keep x0 (v2 + 1) r26 K N I27 L28 R (fun r29 I30 => (r29 = false → Q false I30 L28) ∧ (r29 = true → w_X12_readNumber x0 0 999 K N I30 L28 R (fun r31 I32 L33 => w_X12_keep x0 (v2 + 2) r31 K N I32 L33 R (fun r34 I35 => (r34 = false → Q false I35 L33) ∧ (r34 = true → w_X12_readEnd x0 K N I35 L33 R (fun r36 I37 L38 => (r36 = false → Q false I37 L38) ∧ (r36 = true → Q true I37 L38))))))))) ∧ (¬ x1 = 1 → (x1 = 2 → w_X12_readNumber x0 0 999 K N I11 L12 R (fun r39 I40 L41 => w_X12_keep x0 (v2 + 1) r39 K N I40 L41 R (fun r42 I43 => (r42 = false → Q false I43 L41) ∧ (r42 = true → w_X12_readEnd x0 K N I43 L41 R (fun r44 I45 L46 => (r44 = false → Q false I45 L46) ∧ (r44 = true → Q true I45 L46)))))) ∧ (¬ x1 = 2 → (x1 = 3 → w_X12_readBookLine_255 x0 v2 K N I11 L12 R Q) ∧ (¬ x1 = 3 → (x1 = 4 → w_X12_readBookLine_255 x0 v2 K N I11 L12 R Q) ∧ (¬ x1 = 4 → w_X12_readEnd x0 K N I11 L12 R (fun r56 I57 L58 => Q r56 I57 L58)))))))) ∧ ((I x0 51) = 40 → w_X12_bad x0 4 K N I L R (fun r59 I60 => Q r59 I60 L))) ∧ (x1 = (-1) → K x0 = 13 ∧ w_X12_bad x0 1 K N I L R (fun r62 I63 => Q r62 I63 L))) ∧ (¬ (7 : Int32) < x2 → K x0 = 13 ∧ w_X12_isWord x0 ((15 : Int32) + x2) K N I L R (fun r65 => (r65 = false → ∀ v66 : Int32, v66 = x2 + 1 → ∃ n1, n1 < n ∧ J n1 x0 x1 v66 I L) ∧ (r65 = true → ∀ v67 : Int32, v67 = x2 + 1 → ∃ n1, n1 < n ∧ J n1 x0 x2 v67 I L)))
def w_X12_readBookLine  (a0 : Nat) (K : MK) (N : MK) (I : MI) (L : ML) (R : MR) (Q : Bool → MI → ML → Prop) : Prop := w_X12_readBookLine_4 a0 (-1) 0 K N I L R Q
set_option maxHeartbeats 4000000 in
set_option maxRecDepth 100000 in
theorem z_X12_readBookLine_255 {X : ZX} {G : ZG}  {x0 : Nat} {x2 : Int32}  {K : MK} {N : MK} {I : MI} {L : ML} {R : MR}  {Q : Bool → MI → ML → Prop} (hC : ZOk X G RX12 cX12_readBookLine 3 (some .boolean)) (hRm : X.2.2.2.1 = rm_X12_readBookLine) (h : w_X12_readBookLine_255 x0 x2 K N I L R  Q) : Z X G 3 0 0 (z_T X G (qLz K N R Q) 0 0) K N I L R 255 [(0, .ref x0), (2, .int x2)] [] := by
  delta w_X12_readBookLine_255 at h
  refine z_aload_n hC (q := 0) dX12_readBookLine_255 rfl rfl ?_
  refine z_iload_n hC (q := 1) dX12_readBookLine_256 rfl rfl ?_
  refine z_iconst hC (v := 1) k_iconst_1 dX12_readBookLine_257 ?_
  refine z_iadd hC dX12_readBookLine_258 ?_
  refine z_aload_n hC (q := 0) dX12_readBookLine_259 rfl rfl ?_
  refine z_iconst hC (v := 1) k_iconst_1 dX12_readBookLine_260 ?_
  refine z_sipush hC (v := 250) k_sipush_250 dX12_readBookLine_261 ?_
  obtain ⟨hk47, h⟩ := h
  refine cl_RX12_187 hC (c_X12_readNumber _ G x0 1 250 K N I L R _ h) hk47 dX12_readBookLine_264 (by rw [hRm]; exact ⟨Nat.le_of_ble_eq_true rfl, Nat.le_of_ble_eq_true rfl⟩) ⟨Nat.zero_le _, Nat.zero_le _⟩ (Nat.le_of_ble_eq_true rfl) (z_kLz (I := I) (L := L) (fun r48 I49 L50 h => ?_))
  refine cl_RX12_465 hC (c_X12_keep _ G x0 (x2 + 1) r48 K N I49 L50 R _ h) hk47 dX12_readBookLine_267 (by rw [hRm]; exact ⟨Nat.le_of_ble_eq_true rfl, Nat.le_of_ble_eq_true rfl⟩) ⟨Nat.zero_le _, Nat.zero_le _⟩ (Nat.le_of_ble_eq_true rfl) (z_kIz (I := I49) (fun r51 I52 h => ?_))
  refine z_ifz_eq hC (tgt := 284) dX12_readBookLine_270 (by decide) (fun hc => ?_) (fun hc => ?_)
  · have h := h.1 hc
    refine z_iconst hC (v := 0) k_iconst_0 dX12_readBookLine_284 ?_
    exact z_zret (b := false) hC dX12_readBookLine_285 rfl ⟨false, rfl, rfl, rfl, rfl, h⟩
  · have h := h.2 hc
    refine z_aload_n hC (q := 0) dX12_readBookLine_273 rfl rfl ?_
    refine cl_RX12_252 hC (c_X12_readEnd _ G x0 K N I52 L50 R _ h) hk47 dX12_readBookLine_274 (by rw [hRm]; exact ⟨Nat.le_of_ble_eq_true rfl, Nat.le_of_ble_eq_true rfl⟩) ⟨Nat.zero_le _, Nat.zero_le _⟩ (Nat.le_of_ble_eq_true rfl) (z_kLz (I := I52) (L := L50) (fun r53 I54 L55 h => ?_))
    refine z_ifz_eq hC (tgt := 284) dX12_readBookLine_277 (by decide) (fun hc => ?_) (fun hc => ?_)
    · have h := h.1 hc
      refine z_iconst hC (v := 0) k_iconst_0 dX12_readBookLine_284 ?_
      exact z_zret (b := false) hC dX12_readBookLine_285 rfl ⟨false, rfl, rfl, rfl, rfl, h⟩
    · have h := h.2 hc
      refine z_iconst hC (v := 1) k_iconst_1 dX12_readBookLine_280 ?_
      refine z_goto hC (tgt := 285) dX12_readBookLine_281 (by decide) ?_
      exact z_zret (b := true) hC dX12_readBookLine_285 rfl ⟨true, rfl, rfl, rfl, rfl, h⟩
set_option maxHeartbeats 4000000 in
set_option maxRecDepth 100000 in
theorem z_X12_readBookLine_4 {X : ZX} {G : ZG}  {x0 : Nat} {x1 : Int32} {x2 : Int32}  {K : MK} {N : MK} {I : MI} {L : ML} {R : MR}  {Q : Bool → MI → ML → Prop} (hC : ZOk X G RX12 cX12_readBookLine 3 (some .boolean)) (hRm : X.2.2.2.1 = rm_X12_readBookLine) (h : w_X12_readBookLine_4 x0 x1 x2 K N I L R  Q) : Z X G 3 0 0 (z_T X G (qLz K N R Q) 0 0) K N I L R 4 [(0, .ref x0), (1, .int x1), (2, .int x2)] [] := by
  delta w_X12_readBookLine_4 at h
  obtain ⟨J, ⟨n, h0⟩, hs⟩ := h
  have key : ∀ (n : Nat) (x0 : Nat) (x1 : Int32) (x2 : Int32) (I : MI) (L : ML), J n x0 x1 x2 I L → Z X G 3 0 0 (z_T X G (qLz K N R Q) 0 0) K N I L R 4 [(0, .ref x0), (1, .int x1), (2, .int x2)] [] := by
    intro n
    induction n using Nat.strongRecOn with
    | _ n ih =>
      intro x0 x1 x2 I L hJ
      have hC4 : ∀ (y0 : Nat) (y1 : Int32) (y2 : Int32) (zI : MI) (zL : ML), (∃ n1, n1 < n ∧ J n1 y0 y1 y2 zI zL) → Z X G 3 0 0 (z_T X G (qLz K N R Q) 0 0) K N zI zL R 4 [(0, .ref y0), (1, .int y1), (2, .int y2)] [] := fun y0 y1 y2 zI zL ⟨n1, hn1, hj⟩ => ih n1 hn1 y0 y1 y2 zI zL hj
      have h := hs n x0 x1 x2 I L hJ
      refine z_iload_n hC (q := 2) dX12_readBookLine_4 rfl rfl ?_
      refine z_bipush hC (v := 7) k_bipush_7 dX12_readBookLine_5 ?_
      refine z_icmp_gt hC (tgt := 29) dX12_readBookLine_7 (by decide) (fun hc => ?_) (fun hc => ?_)
      · have h := h.1 hc
        refine z_iload_n hC (q := 1) dX12_readBookLine_29 rfl rfl ?_
        refine z_iconst hC (v := (-1)) k_iconst_m1 dX12_readBookLine_30 ?_
        refine z_icmp_ne hC (tgt := 40) dX12_readBookLine_31 (by decide) (fun hc => ?_) (fun hc => ?_)
        · have h := h.1 hc
          refine z_aload_n hC (q := 0) dX12_readBookLine_40 rfl rfl ?_
          obtain ⟨hk1, h⟩ := h
          refine gf_RX12_462 hC dX12_readBookLine_41 hk1 ?_
          refine z_bipush hC (v := 40) k_bipush_40 dX12_readBookLine_44 ?_
          refine z_icmp_ne hC (tgt := 55) dX12_readBookLine_46 (by decide) (fun hc => ?_) (fun hc => ?_)
          · have h := h.1 hc
            refine z_iconst hC (v := 3) k_iconst_3 dX12_readBookLine_55 ?_
            refine z_aload_n hC (q := 0) dX12_readBookLine_56 rfl rfl ?_
            refine gf_RX12_462 hC dX12_readBookLine_57 hk1 ?_
            refine z_imul hC dX12_readBookLine_60 ?_
            refine z_topi (fun v2 ev2 => ?_)
            have h := h v2 ev2
            refine z_istore_n hC (lv1 := [(2, .int v2), (0, .ref x0), (1, .int x1)]) dX12_readBookLine_61 rfl (by decide) rfl ?_
            refine z_aload_n hC (q := 1) dX12_readBookLine_62 rfl rfl ?_
            obtain ⟨b3, hb3, h⟩ := h
            refine gf_RX12_163 hC dX12_readBookLine_63 hk1 hb3 ?_
            refine z_iload_n hC (q := 0) dX12_readBookLine_66 rfl rfl ?_
            refine z_iload_n hC (q := 2) dX12_readBookLine_67 rfl rfl ?_
            obtain ⟨hk4, h⟩ := h
            obtain ⟨hi5, h⟩ := h
            refine z_iastore hC hk4 hi5 dX12_readBookLine_68 ?_
            refine z_genI (fun I6 eI6 => ?_)
            have h := h I6 eI6
            refine z_aload_n hC (q := 1) dX12_readBookLine_69 rfl rfl ?_
            refine gf_RX12_163 hC dX12_readBookLine_70 hk1 hb3 ?_
            refine z_iload_n hC (q := 0) dX12_readBookLine_73 rfl rfl ?_
            refine z_iconst hC (v := 1) k_iconst_1 dX12_readBookLine_74 ?_
            refine z_iadd hC dX12_readBookLine_75 ?_
            refine z_iconst hC (v := 0) k_iconst_0 dX12_readBookLine_76 ?_
            obtain ⟨hi7, h⟩ := h
            refine z_iastore hC hk4 hi7 dX12_readBookLine_77 ?_
            refine z_genI (fun I8 eI8 => ?_)
            have h := h I8 eI8
            refine z_aload_n hC (q := 1) dX12_readBookLine_78 rfl rfl ?_
            refine gf_RX12_163 hC dX12_readBookLine_79 hk1 hb3 ?_
            refine z_iload_n hC (q := 0) dX12_readBookLine_82 rfl rfl ?_
            refine z_iconst hC (v := 2) k_iconst_2 dX12_readBookLine_83 ?_
            refine z_iadd hC dX12_readBookLine_84 ?_
            refine z_iconst hC (v := 0) k_iconst_0 dX12_readBookLine_85 ?_
            obtain ⟨hi9, h⟩ := h
            refine z_iastore hC hk4 hi9 dX12_readBookLine_86 ?_
            refine z_genI (fun I10 eI10 => ?_)
            have h := h I10 eI10
            refine z_aload_n hC (q := 1) dX12_readBookLine_87 rfl rfl ?_
            refine cl_RX12_82 hC (c_X12_go _ G x0 K N I10 L R _ h) hk1 dX12_readBookLine_88 (by rw [hRm]; exact ⟨Nat.le_of_ble_eq_true rfl, Nat.le_of_ble_eq_true rfl⟩) ⟨Nat.zero_le _, Nat.zero_le _⟩ (Nat.le_of_ble_eq_true rfl) (z_kLv (I := I10) (L := L) (fun I11 L12 h => ?_))
            refine z_iload_n hC (q := 2) dX12_readBookLine_91 rfl rfl ?_
            by_cases hc0 : x1 = 0
            · have h := h.1 hc0
              refine z_tableIn hC (off := 36) (tgt := 128) 0 hc0 dX12_readBookLine_92 (by decide) (by decide) ?_
              refine z_aload_n hC (q := 1) dX12_readBookLine_128 rfl rfl ?_
              refine z_iload_n hC (q := 0) dX12_readBookLine_129 rfl rfl ?_
              refine z_iconst hC (v := 1) k_iconst_1 dX12_readBookLine_130 ?_
              refine z_iadd hC dX12_readBookLine_131 ?_
              refine z_aload_n hC (q := 1) dX12_readBookLine_132 rfl rfl ?_
              refine z_iconst hC (v := 0) k_iconst_0 dX12_readBookLine_133 ?_
              refine z_bipush hC (v := 7) k_bipush_7 dX12_readBookLine_134 ?_
              refine cl_RX12_187 hC (c_X12_readNumber _ G x0 0 7 K N I11 L12 R _ h) hk1 dX12_readBookLine_136 (by rw [hRm]; exact ⟨Nat.le_of_ble_eq_true rfl, Nat.le_of_ble_eq_true rfl⟩) ⟨Nat.zero_le _, Nat.zero_le _⟩ (Nat.le_of_ble_eq_true rfl) (z_kLz (I := I11) (L := L12) (fun r13 I14 L15 h => ?_))
              refine cl_RX12_465 hC (c_X12_keep _ G x0 (v2 + 1) r13 K N I14 L15 R _ h) hk1 dX12_readBookLine_139 (by rw [hRm]; exact ⟨Nat.le_of_ble_eq_true rfl, Nat.le_of_ble_eq_true rfl⟩) ⟨Nat.zero_le _, Nat.zero_le _⟩ (Nat.le_of_ble_eq_true rfl) (z_kIz (I := I14) (fun r16 I17 h => ?_))
              refine z_ifz_eq hC (tgt := 174) dX12_readBookLine_142 (by decide) (fun hc => ?_) (fun hc => ?_)
              · have h := h.1 hc
                refine z_iconst hC (v := 0) k_iconst_0 dX12_readBookLine_174 ?_
                exact z_zret (b := false) hC dX12_readBookLine_175 rfl ⟨false, rfl, rfl, rfl, rfl, h⟩
              · have h := h.2 hc
                refine z_aload_n hC (q := 1) dX12_readBookLine_145 rfl rfl ?_
                refine z_iload_n hC (q := 0) dX12_readBookLine_146 rfl rfl ?_
                refine z_iconst hC (v := 2) k_iconst_2 dX12_readBookLine_147 ?_
                refine z_iadd hC dX12_readBookLine_148 ?_
                refine z_aload_n hC (q := 1) dX12_readBookLine_149 rfl rfl ?_
                refine z_iconst hC (v := 0) k_iconst_0 dX12_readBookLine_150 ?_
                refine z_sipush hC (v := 999) k_sipush_999 dX12_readBookLine_151 ?_
                refine cl_RX12_187 hC (c_X12_readNumber _ G x0 0 999 K N I17 L15 R _ h) hk1 dX12_readBookLine_154 (by rw [hRm]; exact ⟨Nat.le_of_ble_eq_true rfl, Nat.le_of_ble_eq_true rfl⟩) ⟨Nat.zero_le _, Nat.zero_le _⟩ (Nat.le_of_ble_eq_true rfl) (z_kLz (I := I17) (L := L15) (fun r18 I19 L20 h => ?_))
                refine cl_RX12_465 hC (c_X12_keep _ G x0 (v2 + 2) r18 K N I19 L20 R _ h) hk1 dX12_readBookLine_157 (by rw [hRm]; exact ⟨Nat.le_of_ble_eq_true rfl, Nat.le_of_ble_eq_true rfl⟩) ⟨Nat.zero_le _, Nat.zero_le _⟩ (Nat.le_of_ble_eq_true rfl) (z_kIz (I := I19) (fun r21 I22 h => ?_))
                refine z_ifz_eq hC (tgt := 174) dX12_readBookLine_160 (by decide) (fun hc => ?_) (fun hc => ?_)
                · have h := h.1 hc
                  refine z_iconst hC (v := 0) k_iconst_0 dX12_readBookLine_174 ?_
                  exact z_zret (b := false) hC dX12_readBookLine_175 rfl ⟨false, rfl, rfl, rfl, rfl, h⟩
                · have h := h.2 hc
                  refine z_aload_n hC (q := 1) dX12_readBookLine_163 rfl rfl ?_
                  refine cl_RX12_252 hC (c_X12_readEnd _ G x0 K N I22 L20 R _ h) hk1 dX12_readBookLine_164 (by rw [hRm]; exact ⟨Nat.le_of_ble_eq_true rfl, Nat.le_of_ble_eq_true rfl⟩) ⟨Nat.zero_le _, Nat.zero_le _⟩ (Nat.le_of_ble_eq_true rfl) (z_kLz (I := I22) (L := L20) (fun r23 I24 L25 h => ?_))
                  refine z_ifz_eq hC (tgt := 174) dX12_readBookLine_167 (by decide) (fun hc => ?_) (fun hc => ?_)
                  · have h := h.1 hc
                    refine z_iconst hC (v := 0) k_iconst_0 dX12_readBookLine_174 ?_
                    exact z_zret (b := false) hC dX12_readBookLine_175 rfl ⟨false, rfl, rfl, rfl, rfl, h⟩
                  · have h := h.2 hc
                    refine z_iconst hC (v := 1) k_iconst_1 dX12_readBookLine_170 ?_
                    refine z_goto hC (tgt := 175) dX12_readBookLine_171 (by decide) ?_
                    exact z_zret (b := true) hC dX12_readBookLine_175 rfl ⟨true, rfl, rfl, rfl, rfl, h⟩
            · have h := h.2 hc0
              by_cases hc1 : x1 = 1
              · have h := h.1 hc1
                refine z_tableIn hC (off := 84) (tgt := 176) 1 hc1 dX12_readBookLine_92 (by decide) (by decide) ?_
                refine z_aload_n hC (q := 1) dX12_readBookLine_176 rfl rfl ?_
                refine z_iload_n hC (q := 0) dX12_readBookLine_177 rfl rfl ?_
                refine z_iconst hC (v := 1) k_iconst_1 dX12_readBookLine_178 ?_
                refine z_iadd hC dX12_readBookLine_179 ?_
                refine z_aload_n hC (q := 1) dX12_readBookLine_180 rfl rfl ?_
                refine z_iconst hC (v := 0) k_iconst_0 dX12_readBookLine_181 ?_
                refine z_bipush hC (v := 63) k_bipush_63 dX12_readBookLine_182 ?_
                refine cl_RX12_187 hC (c_X12_readNumber _ G x0 0 63 K N I11 L12 R _ h) hk1 dX12_readBookLine_184 (by rw [hRm]; exact ⟨Nat.le_of_ble_eq_true rfl, Nat.le_of_ble_eq_true rfl⟩) ⟨Nat.zero_le _, Nat.zero_le _⟩ (Nat.le_of_ble_eq_true rfl) (z_kLz (I := I11) (L := L12) (fun r26 I27 L28 h => ?_))
                refine cl_RX12_465 hC (c_X12_keep _ G x0 (v2 + 1) r26 K N I27 L28 R _ h) hk1 dX12_readBookLine_187 (by rw [hRm]; exact ⟨Nat.le_of_ble_eq_true rfl, Nat.le_of_ble_eq_true rfl⟩) ⟨Nat.zero_le _, Nat.zero_le _⟩ (Nat.le_of_ble_eq_true rfl) (z_kIz (I := I27) (fun r29 I30 h => ?_))
                refine z_ifz_eq hC (tgt := 222) dX12_readBookLine_190 (by decide) (fun hc => ?_) (fun hc => ?_)
                · have h := h.1 hc
                  refine z_iconst hC (v := 0) k_iconst_0 dX12_readBookLine_222 ?_
                  exact z_zret (b := false) hC dX12_readBookLine_223 rfl ⟨false, rfl, rfl, rfl, rfl, h⟩
                · have h := h.2 hc
                  refine z_aload_n hC (q := 1) dX12_readBookLine_193 rfl rfl ?_
                  refine z_iload_n hC (q := 0) dX12_readBookLine_194 rfl rfl ?_
                  refine z_iconst hC (v := 2) k_iconst_2 dX12_readBookLine_195 ?_
                  refine z_iadd hC dX12_readBookLine_196 ?_
                  refine z_aload_n hC (q := 1) dX12_readBookLine_197 rfl rfl ?_
                  refine z_iconst hC (v := 0) k_iconst_0 dX12_readBookLine_198 ?_
                  refine z_sipush hC (v := 999) k_sipush_999 dX12_readBookLine_199 ?_
                  refine cl_RX12_187 hC (c_X12_readNumber _ G x0 0 999 K N I30 L28 R _ h) hk1 dX12_readBookLine_202 (by rw [hRm]; exact ⟨Nat.le_of_ble_eq_true rfl, Nat.le_of_ble_eq_true rfl⟩) ⟨Nat.zero_le _, Nat.zero_le _⟩ (Nat.le_of_ble_eq_true rfl) (z_kLz (I := I30) (L := L28) (fun r31 I32 L33 h => ?_))
                  refine cl_RX12_465 hC (c_X12_keep _ G x0 (v2 + 2) r31 K N I32 L33 R _ h) hk1 dX12_readBookLine_205 (by rw [hRm]; exact ⟨Nat.le_of_ble_eq_true rfl, Nat.le_of_ble_eq_true rfl⟩) ⟨Nat.zero_le _, Nat.zero_le _⟩ (Nat.le_of_ble_eq_true rfl) (z_kIz (I := I32) (fun r34 I35 h => ?_))
                  refine z_ifz_eq hC (tgt := 222) dX12_readBookLine_208 (by decide) (fun hc => ?_) (fun hc => ?_)
                  · have h := h.1 hc
                    refine z_iconst hC (v := 0) k_iconst_0 dX12_readBookLine_222 ?_
                    exact z_zret (b := false) hC dX12_readBookLine_223 rfl ⟨false, rfl, rfl, rfl, rfl, h⟩
                  · have h := h.2 hc
                    refine z_aload_n hC (q := 1) dX12_readBookLine_211 rfl rfl ?_
                    refine cl_RX12_252 hC (c_X12_readEnd _ G x0 K N I35 L33 R _ h) hk1 dX12_readBookLine_212 (by rw [hRm]; exact ⟨Nat.le_of_ble_eq_true rfl, Nat.le_of_ble_eq_true rfl⟩) ⟨Nat.zero_le _, Nat.zero_le _⟩ (Nat.le_of_ble_eq_true rfl) (z_kLz (I := I35) (L := L33) (fun r36 I37 L38 h => ?_))
                    refine z_ifz_eq hC (tgt := 222) dX12_readBookLine_215 (by decide) (fun hc => ?_) (fun hc => ?_)
                    · have h := h.1 hc
                      refine z_iconst hC (v := 0) k_iconst_0 dX12_readBookLine_222 ?_
                      exact z_zret (b := false) hC dX12_readBookLine_223 rfl ⟨false, rfl, rfl, rfl, rfl, h⟩
                    · have h := h.2 hc
                      refine z_iconst hC (v := 1) k_iconst_1 dX12_readBookLine_218 ?_
                      refine z_goto hC (tgt := 223) dX12_readBookLine_219 (by decide) ?_
                      exact z_zret (b := true) hC dX12_readBookLine_223 rfl ⟨true, rfl, rfl, rfl, rfl, h⟩
              · have h := h.2 hc1
                by_cases hc2 : x1 = 2
                · have h := h.1 hc2
                  refine z_tableIn hC (off := 132) (tgt := 224) 2 hc2 dX12_readBookLine_92 (by decide) (by decide) ?_
                  refine z_aload_n hC (q := 1) dX12_readBookLine_224 rfl rfl ?_
                  refine z_iload_n hC (q := 0) dX12_readBookLine_225 rfl rfl ?_
                  refine z_iconst hC (v := 1) k_iconst_1 dX12_readBookLine_226 ?_
                  refine z_iadd hC dX12_readBookLine_227 ?_
                  refine z_aload_n hC (q := 1) dX12_readBookLine_228 rfl rfl ?_
                  refine z_iconst hC (v := 0) k_iconst_0 dX12_readBookLine_229 ?_
                  refine z_sipush hC (v := 999) k_sipush_999 dX12_readBookLine_230 ?_
                  refine cl_RX12_187 hC (c_X12_readNumber _ G x0 0 999 K N I11 L12 R _ h) hk1 dX12_readBookLine_233 (by rw [hRm]; exact ⟨Nat.le_of_ble_eq_true rfl, Nat.le_of_ble_eq_true rfl⟩) ⟨Nat.zero_le _, Nat.zero_le _⟩ (Nat.le_of_ble_eq_true rfl) (z_kLz (I := I11) (L := L12) (fun r39 I40 L41 h => ?_))
                  refine cl_RX12_465 hC (c_X12_keep _ G x0 (v2 + 1) r39 K N I40 L41 R _ h) hk1 dX12_readBookLine_236 (by rw [hRm]; exact ⟨Nat.le_of_ble_eq_true rfl, Nat.le_of_ble_eq_true rfl⟩) ⟨Nat.zero_le _, Nat.zero_le _⟩ (Nat.le_of_ble_eq_true rfl) (z_kIz (I := I40) (fun r42 I43 h => ?_))
                  refine z_ifz_eq hC (tgt := 253) dX12_readBookLine_239 (by decide) (fun hc => ?_) (fun hc => ?_)
                  · have h := h.1 hc
                    refine z_iconst hC (v := 0) k_iconst_0 dX12_readBookLine_253 ?_
                    exact z_zret (b := false) hC dX12_readBookLine_254 rfl ⟨false, rfl, rfl, rfl, rfl, h⟩
                  · have h := h.2 hc
                    refine z_aload_n hC (q := 1) dX12_readBookLine_242 rfl rfl ?_
                    refine cl_RX12_252 hC (c_X12_readEnd _ G x0 K N I43 L41 R _ h) hk1 dX12_readBookLine_243 (by rw [hRm]; exact ⟨Nat.le_of_ble_eq_true rfl, Nat.le_of_ble_eq_true rfl⟩) ⟨Nat.zero_le _, Nat.zero_le _⟩ (Nat.le_of_ble_eq_true rfl) (z_kLz (I := I43) (L := L41) (fun r44 I45 L46 h => ?_))
                    refine z_ifz_eq hC (tgt := 253) dX12_readBookLine_246 (by decide) (fun hc => ?_) (fun hc => ?_)
                    · have h := h.1 hc
                      refine z_iconst hC (v := 0) k_iconst_0 dX12_readBookLine_253 ?_
                      exact z_zret (b := false) hC dX12_readBookLine_254 rfl ⟨false, rfl, rfl, rfl, rfl, h⟩
                    · have h := h.2 hc
                      refine z_iconst hC (v := 1) k_iconst_1 dX12_readBookLine_249 ?_
                      refine z_goto hC (tgt := 254) dX12_readBookLine_250 (by decide) ?_
                      exact z_zret (b := true) hC dX12_readBookLine_254 rfl ⟨true, rfl, rfl, rfl, rfl, h⟩
                · have h := h.2 hc2
                  by_cases hc3 : x1 = 3
                  · have h := h.1 hc3
                    refine z_tableIn hC (off := 163) (tgt := 255) 3 hc3 dX12_readBookLine_92 (by decide) (by decide) ?_
                    exact z_sub [(0, .ref x0), (2, .int v2)] [1, 0] rfl (z_X12_readBookLine_255 hC hRm h)
                  · have h := h.2 hc3
                    by_cases hc4 : x1 = 4
                    · have h := h.1 hc4
                      refine z_tableIn hC (off := 163) (tgt := 255) 4 hc4 dX12_readBookLine_92 (by decide) (by decide) ?_
                      exact z_sub [(0, .ref x0), (2, .int v2)] [1, 0] rfl (z_X12_readBookLine_255 hC hRm h)
                    · have h := h.2 hc4
                      have hout : x1.toInt < 0 ∨ 4 < x1.toInt := by
                        have hc0 := z_nei hc0 (by decide : (0 : Int32).toInt = 0)
                        have hc1 := z_nei hc1 (by decide : (1 : Int32).toInt = 1)
                        have hc2 := z_nei hc2 (by decide : (2 : Int32).toInt = 2)
                        have hc3 := z_nei hc3 (by decide : (3 : Int32).toInt = 3)
                        have hc4 := z_nei hc4 (by decide : (4 : Int32).toInt = 4)
                        omega
                      refine z_tableOut hC (tgt := 286) dX12_readBookLine_92 hout (by decide) ?_
                      refine z_aload_n hC (q := 1) dX12_readBookLine_286 rfl rfl ?_
                      refine cl_RX12_252 hC (c_X12_readEnd _ G x0 K N I11 L12 R _ h) hk1 dX12_readBookLine_287 (by rw [hRm]; exact ⟨Nat.le_of_ble_eq_true rfl, Nat.le_of_ble_eq_true rfl⟩) ⟨Nat.zero_le _, Nat.zero_le _⟩ (Nat.le_of_ble_eq_true rfl) (z_kLz (I := I11) (L := L12) (fun r56 I57 L58 h => ?_))
                      exact z_zret (b := r56) hC dX12_readBookLine_290 rfl ⟨r56, rfl, rfl, rfl, rfl, h⟩
          · have h := h.2 hc
            refine z_aload_n hC (q := 0) dX12_readBookLine_49 rfl rfl ?_
            refine z_iconst hC (v := 4) k_iconst_4 dX12_readBookLine_50 ?_
            refine cl_RX12_72 hC (c_X12_bad _ G x0 4 K N I L R _ h) hk1 dX12_readBookLine_51 (by rw [hRm]; exact ⟨Nat.le_of_ble_eq_true rfl, Nat.le_of_ble_eq_true rfl⟩) ⟨Nat.zero_le _, Nat.zero_le _⟩ (Nat.le_of_ble_eq_true rfl) (z_kIz (I := I) (fun r59 I60 h => ?_))
            exact z_zret (b := r59) hC dX12_readBookLine_54 rfl ⟨r59, rfl, rfl, rfl, rfl, h⟩
        · have h := h.2 hc
          refine z_aload_n hC (q := 0) dX12_readBookLine_34 rfl rfl ?_
          refine z_iconst hC (v := 1) k_iconst_1 dX12_readBookLine_35 ?_
          obtain ⟨hk61, h⟩ := h
          refine cl_RX12_72 hC (c_X12_bad _ G x0 1 K N I L R _ h) hk61 dX12_readBookLine_36 (by rw [hRm]; exact ⟨Nat.le_of_ble_eq_true rfl, Nat.le_of_ble_eq_true rfl⟩) ⟨Nat.zero_le _, Nat.zero_le _⟩ (Nat.le_of_ble_eq_true rfl) (z_kIz (I := I) (fun r62 I63 h => ?_))
          exact z_zret (b := r62) hC dX12_readBookLine_39 rfl ⟨r62, rfl, rfl, rfl, rfl, h⟩
      · have h := h.2 hc
        refine z_aload_n hC (q := 0) dX12_readBookLine_10 rfl rfl ?_
        refine z_bipush hC (v := 15) k_bipush_15 dX12_readBookLine_11 ?_
        refine z_iload_n hC (q := 2) dX12_readBookLine_13 rfl rfl ?_
        refine z_iadd hC dX12_readBookLine_14 ?_
        obtain ⟨hk64, h⟩ := h
        refine cl_RX12_207 hC (c_X12_isWord _ G x0 ((15 : Int32) + x2) K N I L R _ h) hk64 dX12_readBookLine_15 (by rw [hRm]; exact ⟨Nat.le_of_ble_eq_true rfl, Nat.le_of_ble_eq_true rfl⟩) ⟨Nat.zero_le _, Nat.zero_le _⟩ (Nat.le_of_ble_eq_true rfl) (z_kPz (fun r65 h => ?_))
        refine z_ifz_eq hC (tgt := 23) dX12_readBookLine_18 (by decide) (fun hc => ?_) (fun hc => ?_)
        · have h := h.1 hc
          obtain ⟨v66, ev66⟩ : ∃ y : Int32, y = x2 + 1 := ⟨_, rfl⟩
          have h := h v66 ev66
          refine z_iinc hC (q := 2) (v := v66) (lv1 := [(2, .int v66), (0, .ref x0), (1, .int x1)]) dX12_readBookLine_23 rfl (by rw [ev66, k_iinc_1]) (by decide) rfl ?_
          refine z_goto hC (tgt := 4) dX12_readBookLine_26 (by decide) ?_
          exact z_sub [(0, .ref x0), (1, .int x1), (2, .int v66)] [1, 2, 0] rfl (hC4 _ _ _ _ _ h)
        · have h := h.2 hc
          refine z_iload_n hC (q := 2) dX12_readBookLine_21 rfl rfl ?_
          refine z_istore_n hC (lv1 := [(1, .int x2), (0, .ref x0), (2, .int x2)]) dX12_readBookLine_22 rfl (by decide) rfl ?_
          obtain ⟨v67, ev67⟩ : ∃ y : Int32, y = x2 + 1 := ⟨_, rfl⟩
          have h := h v67 ev67
          refine z_iinc hC (q := 2) (v := v67) (lv1 := [(2, .int v67), (1, .int x2), (0, .ref x0)]) dX12_readBookLine_23 rfl (by rw [ev67, k_iinc_1]) (by decide) rfl ?_
          refine z_goto hC (tgt := 4) dX12_readBookLine_26 (by decide) ?_
          exact z_sub [(0, .ref x0), (1, .int x2), (2, .int v67)] [2, 1, 0] rfl (hC4 _ _ _ _ _ h)
  exact key n x0 x1 x2 I L h0
set_option maxHeartbeats 4000000 in
set_option maxRecDepth 100000 in
theorem c_X12_readBookLine  (l : Launch) (G : ZG) (a0 : Nat) (K : MK) (N : MK) (I : MI) (L : ML) (R : MR) (Q : Bool → MI → ML → Prop) (h : w_X12_readBookLine a0 K N I L R Q) : Met l yX12_readBookLine (.code yX12_readBookLine cX12_readBookLine 3 (some .boolean) :: z_tbl) rm_X12_readBookLine (z_Pc G [.ref a0] K N I L R) (z_Qc G (qLz K N R Q)) 0 0 (z_A G) := by
  refine z_met (by decide) (Nat.le_of_ble_eq_true rfl) (fun X hX hRm hC0 hnm => ?_)
  subst hX
  have hC : ZOk X G RX12 cX12_readBookLine 3 (some .boolean) := hC0
  show Z X G 3 0 0 _ K N I L R 0 [(0, .ref a0)] []
  delta w_X12_readBookLine at h
  refine z_iconst hC (v := (-1)) k_iconst_m1 dX12_readBookLine_0 ?_
  refine z_istore_n hC (lv1 := [(1, .int (-1)), (0, .ref a0)]) dX12_readBookLine_1 rfl (by decide) rfl ?_
  refine z_iconst hC (v := 0) k_iconst_0 dX12_readBookLine_2 ?_
  refine z_istore_n hC (lv1 := [(2, .int 0), (1, .int (-1)), (0, .ref a0)]) dX12_readBookLine_3 rfl (by decide) rfl ?_
  exact z_sub [(0, .ref a0), (1, .int (-1)), (2, .int 0)] [2, 1, 0] rfl (z_X12_readBookLine_4 hC hRm h)
def w_X12_goBy_30  (x0 : Nat) (x1 : Int32) (x2 : Int32)  (K : MK) (N : MK) (I : MI) (L : ML) (R : MR)  (Q : Int32 → MI → Prop) : Prop := K x0 = 13 ∧ ∃ b7 : Nat, R x0 49 = some b7 ∧ K b7 = 14 ∧ vp_in (x1 + 1) (N b7) ∧ vp_in (x1 + 2) (N b7) ∧ w_X12_refusal x0 x2 (I b7 (ix (x1 + 1))) (I b7 (ix (x1 + 2))) K N I L R (fun r11 => (r11 = 0 → w_X12_live x0 x2 (I b7 (ix (x1 + 1))) (I b7 (ix (x1 + 2))) K N I L R (fun I12 => Q 0 I12)) ∧ (¬ r11 = 0 → Q (((10 : Int32) * x2) + r11) I))
def w_X12_goBy  (a0 : Nat) (a1 : Int32) (K : MK) (N : MK) (I : MI) (L : ML) (R : MR) (Q : Int32 → MI → Prop) : Prop := K a0 = 13 ∧ ∃ b2 : Nat, R a0 49 = some b2 ∧ K b2 = 14 ∧ vp_in a1 (N b2) ∧ ∀ v5 : Int32, v5 = (I b2 (ix a1)) → (¬ v5 = 2 → w_X12_goBy_30 a0 a1 v5 K N I L R Q) ∧ (v5 = 2 → vp_in (a1 + 1) (N b2) ∧ w_X12_isAddress a0 (I b2 (ix (a1 + 1))) K N I L R (fun r14 => (r14 = true → w_X12_goBy_30 a0 a1 v5 K N I L R Q) ∧ (r14 = false → Q 29 I)))
set_option maxHeartbeats 4000000 in
set_option maxRecDepth 100000 in
theorem z_X12_goBy_30 {X : ZX} {G : ZG}  {x0 : Nat} {x1 : Int32} {x2 : Int32}  {K : MK} {N : MK} {I : MI} {L : ML} {R : MR}  {Q : Int32 → MI → Prop} (hC : ZOk X G RX12 cX12_goBy 4 (some .int)) (hRm : X.2.2.2.1 = rm_X12_goBy) (h : w_X12_goBy_30 x0 x1 x2 K N I L R  Q) : Z X G 4 0 0 (z_T X G (qIi K N L R Q) 0 0) K N I L R 30 [(0, .ref x0), (1, .int x1), (2, .int x2)] [] := by
  delta w_X12_goBy_30 at h
  refine z_aload_n hC (q := 0) dX12_goBy_30 rfl rfl ?_
  refine z_iload_n hC (q := 2) dX12_goBy_31 rfl rfl ?_
  refine z_aload_n hC (q := 0) dX12_goBy_32 rfl rfl ?_
  obtain ⟨hk6, h⟩ := h
  obtain ⟨b7, hb7, h⟩ := h
  refine gf_RX12_163 hC dX12_goBy_33 hk6 hb7 ?_
  refine z_iload_n hC (q := 1) dX12_goBy_36 rfl rfl ?_
  refine z_iconst hC (v := 1) k_iconst_1 dX12_goBy_37 ?_
  refine z_iadd hC dX12_goBy_38 ?_
  obtain ⟨hk8, h⟩ := h
  obtain ⟨hi9, h⟩ := h
  refine z_iaload hC hk8 hi9 dX12_goBy_39 ?_
  refine z_aload_n hC (q := 0) dX12_goBy_40 rfl rfl ?_
  refine gf_RX12_163 hC dX12_goBy_41 hk6 hb7 ?_
  refine z_iload_n hC (q := 1) dX12_goBy_44 rfl rfl ?_
  refine z_iconst hC (v := 2) k_iconst_2 dX12_goBy_45 ?_
  refine z_iadd hC dX12_goBy_46 ?_
  obtain ⟨hi10, h⟩ := h
  refine z_iaload hC hk8 hi10 dX12_goBy_47 ?_
  refine cl_RX12_358 hC (c_X12_refusal _ G x0 x2 (I b7 (ix (x1 + 1))) (I b7 (ix (x1 + 2))) K N I L R _ h) hk6 dX12_goBy_48 (by rw [hRm]; exact ⟨Nat.le_of_ble_eq_true rfl, Nat.le_of_ble_eq_true rfl⟩) ⟨Nat.zero_le _, Nat.zero_le _⟩ (Nat.le_of_ble_eq_true rfl) (z_kPi (fun r11 h => ?_))
  refine z_istore_n hC (lv1 := [(3, .int r11), (0, .ref x0), (1, .int x1), (2, .int x2)]) dX12_goBy_51 rfl (by decide) rfl ?_
  refine z_iload_n hC (q := 0) dX12_goBy_52 rfl rfl ?_
  refine z_if_eq hC (tgt := 63) dX12_goBy_53 (by decide) (fun hc => ?_) (fun hc => ?_)
  · have h := h.1 hc
    refine z_aload_n hC (q := 1) dX12_goBy_63 rfl rfl ?_
    refine z_iload_n hC (q := 3) dX12_goBy_64 rfl rfl ?_
    refine z_aload_n hC (q := 1) dX12_goBy_65 rfl rfl ?_
    refine gf_RX12_163 hC dX12_goBy_66 hk6 hb7 ?_
    refine z_iload_n hC (q := 2) dX12_goBy_69 rfl rfl ?_
    refine z_iconst hC (v := 1) k_iconst_1 dX12_goBy_70 ?_
    refine z_iadd hC dX12_goBy_71 ?_
    refine z_iaload hC hk8 hi9 dX12_goBy_72 ?_
    refine z_aload_n hC (q := 1) dX12_goBy_73 rfl rfl ?_
    refine gf_RX12_163 hC dX12_goBy_74 hk6 hb7 ?_
    refine z_iload_n hC (q := 2) dX12_goBy_77 rfl rfl ?_
    refine z_iconst hC (v := 2) k_iconst_2 dX12_goBy_78 ?_
    refine z_iadd hC dX12_goBy_79 ?_
    refine z_iaload hC hk8 hi10 dX12_goBy_80 ?_
    refine cl_RX12_364 hC (c_X12_live _ G x0 x2 (I b7 (ix (x1 + 1))) (I b7 (ix (x1 + 2))) K N I L R _ h) hk6 dX12_goBy_81 (by rw [hRm]; exact ⟨Nat.le_of_ble_eq_true rfl, Nat.le_of_ble_eq_true rfl⟩) ⟨Nat.zero_le _, Nat.zero_le _⟩ (Nat.le_of_ble_eq_true rfl) (z_kIv (I := I) (fun I12 h => ?_))
    refine z_iconst hC (v := 0) k_iconst_0 dX12_goBy_84 ?_
    exact z_iret hC dX12_goBy_85 ⟨_, rfl, rfl, rfl, rfl, rfl, h⟩
  · have h := h.2 hc
    refine z_bipush hC (v := 10) k_bipush_10 dX12_goBy_56 ?_
    refine z_iload_n hC (q := 3) dX12_goBy_58 rfl rfl ?_
    refine z_imul hC dX12_goBy_59 ?_
    refine z_iload_n hC (q := 0) dX12_goBy_60 rfl rfl ?_
    refine z_iadd hC dX12_goBy_61 ?_
    exact z_iret hC dX12_goBy_62 ⟨_, rfl, rfl, rfl, rfl, rfl, h⟩
set_option maxHeartbeats 4000000 in
set_option maxRecDepth 100000 in
theorem c_X12_goBy  (l : Launch) (G : ZG) (a0 : Nat) (a1 : Int32) (K : MK) (N : MK) (I : MI) (L : ML) (R : MR) (Q : Int32 → MI → Prop) (h : w_X12_goBy a0 a1 K N I L R Q) : Met l yX12_goBy (.code yX12_goBy cX12_goBy 4 (some .int) :: z_tbl) rm_X12_goBy (z_Pc G [.ref a0, .int a1] K N I L R) (z_Qc G (qIi K N L R Q)) 0 0 (z_A G) := by
  refine z_met (by decide) (Nat.le_of_ble_eq_true rfl) (fun X hX hRm hC0 hnm => ?_)
  subst hX
  have hC : ZOk X G RX12 cX12_goBy 4 (some .int) := hC0
  show Z X G 4 0 0 _ K N I L R 0 [(0, .ref a0), (1, .int a1)] []
  delta w_X12_goBy at h
  refine z_aload_n hC (q := 0) dX12_goBy_0 rfl rfl ?_
  obtain ⟨hk1, h⟩ := h
  obtain ⟨b2, hb2, h⟩ := h
  refine gf_RX12_163 hC dX12_goBy_1 hk1 hb2 ?_
  refine z_iload_n hC (q := 1) dX12_goBy_4 rfl rfl ?_
  obtain ⟨hk3, h⟩ := h
  obtain ⟨hi4, h⟩ := h
  refine z_iaload hC hk3 hi4 dX12_goBy_5 ?_
  refine z_topi (fun v5 ev5 => ?_)
  have h := h v5 ev5
  refine z_istore_n hC (lv1 := [(2, .int v5), (0, .ref a0), (1, .int a1)]) dX12_goBy_6 rfl (by decide) rfl ?_
  refine z_iload_n hC (q := 0) dX12_goBy_7 rfl rfl ?_
  refine z_iconst hC (v := 2) k_iconst_2 dX12_goBy_8 ?_
  refine z_icmp_ne hC (tgt := 30) dX12_goBy_9 (by decide) (fun hc => ?_) (fun hc => ?_)
  · have h := h.1 hc
    exact z_sub [(0, .ref a0), (1, .int a1), (2, .int v5)] [1, 2, 0] rfl (z_X12_goBy_30 hC hRm h)
  · have h := h.2 hc
    refine z_aload_n hC (q := 1) dX12_goBy_12 rfl rfl ?_
    refine z_aload_n hC (q := 1) dX12_goBy_13 rfl rfl ?_
    refine gf_RX12_163 hC dX12_goBy_14 hk1 hb2 ?_
    refine z_iload_n hC (q := 2) dX12_goBy_17 rfl rfl ?_
    refine z_iconst hC (v := 1) k_iconst_1 dX12_goBy_18 ?_
    refine z_iadd hC dX12_goBy_19 ?_
    obtain ⟨hi13, h⟩ := h
    refine z_iaload hC hk3 hi13 dX12_goBy_20 ?_
    refine cl_RX12_267 hC (c_X12_isAddress _ G a0 (I b2 (ix (a1 + 1))) K N I L R _ h) hk1 dX12_goBy_21 (by rw [hRm]; exact ⟨Nat.le_of_ble_eq_true rfl, Nat.le_of_ble_eq_true rfl⟩) ⟨Nat.zero_le _, Nat.zero_le _⟩ (Nat.le_of_ble_eq_true rfl) (z_kPz (fun r14 h => ?_))
    refine z_ifz_ne hC (tgt := 30) dX12_goBy_24 (by decide) (fun hc => ?_) (fun hc => ?_)
    · have h := h.1 hc
      exact z_sub [(0, .ref a0), (1, .int a1), (2, .int v5)] [1, 2, 0] rfl (z_X12_goBy_30 hC hRm h)
    · have h := h.2 hc
      refine z_bipush hC (v := 29) k_bipush_29 dX12_goBy_27 ?_
      exact z_iret hC dX12_goBy_29 ⟨_, rfl, rfl, rfl, rfl, rfl, h⟩
def w_X12_book_108  (x0 : Nat) (x1 : Int32) (x2 : Int32) (x3 : Int32)  (K : MK) (N : MK) (I : MI) (L : ML) (R : MR)  (Q : Int32 → MI → ML → Prop) : Prop := K x0 = 13 ∧ ∃ b12 : Nat, R x0 50 = some b12 ∧ K b12 = 14 ∧ vp_in 0 (N b12) ∧ ∀ I15 : MI, I15 = mup I b12 (ix 0) x3 → vp_in 1 (N b12) ∧ ∀ I17 : MI, I17 = mup I15 b12 (ix 1) x2 → ∃ b18 : Nat, R x0 14 = some b18 ∧ K b18 = 14 ∧ vp_in 342 (N b18) ∧ vp_in 2 (N b12) ∧ ∀ I22 : MI, I22 = mup I17 b12 (ix 2) (I17 b18 (ix 342)) → w_X12_thoseThere x0 K N I22 L R (fun r23 I24 => vp_in 3 (N b12) ∧ ∀ I26 : MI, I26 = mup I24 b12 (ix 3) r23 → ∀ I27 : MI, I27 = mup I26 x0 52 (bi true) → (¬ x1 = 1 → w_X12_stay x0 false K N I27 L R (fun I28 => (¬ x3 = 0 → Q x2 I28 L) ∧ (x3 = 0 → Q (-1) I28 L))) ∧ (x1 = 1 → (x2 ≤ 0 → w_X12_stay x0 false K N I27 L R (fun I29 => (¬ x3 = 0 → Q x2 I29 L) ∧ (x3 = 0 → Q (-1) I29 L))) ∧ (¬ x2 ≤ 0 → w_X12_stay x0 true K N I27 L R (fun I30 => (¬ x3 = 0 → Q x2 I30 L) ∧ (x3 = 0 → Q (-1) I30 L)))))
def w_X12_book_78  (x0 : Nat) (x1 : Int32) (x2 : Int32) (x3 : Int32)  (K : MK) (N : MK) (I : MI) (L : ML) (R : MR)  (Q : Int32 → MI → ML → Prop) : Prop := ∃ J : Nat → Nat → Int32 → Int32 → Int32 → MI → ML → Prop, (∃ n, J n x0 x1 x2 x3 I L) ∧ ∀ (n : Nat) (x0 : Nat) (x1 : Int32) (x2 : Int32) (x3 : Int32) (I : MI) (L : ML), J n x0 x1 x2 x3 I L → K x0 = 13 ∧ ((I x0 51) ≤ x2 → w_X12_book_108 x0 x1 x2 x3 K N I L R Q) ∧ (¬ (I x0 51) ≤ x2 → (¬ x3 = 0 → w_X12_book_108 x0 x1 x2 x3 K N I L R Q) ∧ (x3 = 0 → w_X12_goBy x0 ((3 : Int32) * x2) K N I L R (fun r31 I32 => (¬ r31 = 0 → ∃ n1, n1 < n ∧ J n1 x0 x1 x2 r31 I32 L) ∧ (r31 = 0 → ∀ v33 : Int32, v33 = x2 + 1 → ∃ n1, n1 < n ∧ J n1 x0 x1 v33 r31 I32 L))))
def w_X12_book_30  (x0 : Nat) (x1 : Int32)  (K : MK) (N : MK) (I : MI) (L : ML) (R : MR)  (Q : Int32 → MI → ML → Prop) : Prop := ∃ J : Nat → Nat → Int32 → MI → ML → Prop, (∃ n, J n x0 x1 I L) ∧ ∀ (n : Nat) (x0 : Nat) (x1 : Int32) (I : MI) (L : ML), J n x0 x1 I L → K x0 = 13 ∧ ((I x0 7) = 0 → ∃ b8 : Nat, R x0 19 = some b8 ∧ w_X12_save x0 b8 0 K N I L R (fun I9 => w_X12_book_78 x0 x1 0 0 K N I9 L R Q)) ∧ (¬ (I x0 7) = 0 → w_X12_readBookLine x0 K N I L R (fun r34 I35 L36 => (r34 = true → ∀ I37 : MI, I37 = mup I35 x0 51 ((I35 x0 51) + 1) → ∃ n1, n1 < n ∧ J n1 x0 x1 I37 L36) ∧ (r34 = false → Q ((-2 : Int32) - (I35 x0 11)) I35 L36)))
def w_X12_book  (a0 : Nat) (a1 : Int32) (K : MK) (N : MK) (I : MI) (L : ML) (R : MR) (Q : Int32 → MI → ML → Prop) : Prop := K a0 = 13 ∧ ∀ I2 : MI, I2 = mup I a0 0 0 → w_X12_isIn a1 0 1 K N I2 L R (fun r3 => (r3 = true → w_X12_begin a0 400 K N I2 L R (fun I4 L5 => ∀ I6 : MI, I6 = mup I4 a0 51 0 → w_X12_book_30 a0 a1 K N I6 L5 R Q)) ∧ (r3 = false → Q (-1000) I2 L))
set_option maxHeartbeats 4000000 in
set_option maxRecDepth 100000 in
theorem z_X12_book_108 {X : ZX} {G : ZG}  {x0 : Nat} {x1 : Int32} {x2 : Int32} {x3 : Int32}  {K : MK} {N : MK} {I : MI} {L : ML} {R : MR}  {Q : Int32 → MI → ML → Prop} (hC : ZOk X G RX12 cX12_book 4 (some .int)) (hRm : X.2.2.2.1 = rm_X12_book) (h : w_X12_book_108 x0 x1 x2 x3 K N I L R  Q) : Z X G 4 0 0 (z_T X G (qLi K N R Q) 0 0) K N I L R 108 [(0, .ref x0), (1, .int x1), (2, .int x2), (3, .int x3)] [] := by
  delta w_X12_book_108 at h
  refine z_aload_n hC (q := 0) dX12_book_108 rfl rfl ?_
  obtain ⟨hk11, h⟩ := h
  obtain ⟨b12, hb12, h⟩ := h
  refine gf_RX12_166 hC dX12_book_109 hk11 hb12 ?_
  refine z_iconst hC (v := 0) k_iconst_0 dX12_book_112 ?_
  refine z_iload_n hC (q := 3) dX12_book_113 rfl rfl ?_
  obtain ⟨hk13, h⟩ := h
  obtain ⟨hi14, h⟩ := h
  refine z_iastore hC hk13 hi14 dX12_book_114 ?_
  refine z_genI (fun I15 eI15 => ?_)
  have h := h I15 eI15
  refine z_aload_n hC (q := 0) dX12_book_115 rfl rfl ?_
  refine gf_RX12_166 hC dX12_book_116 hk11 hb12 ?_
  refine z_iconst hC (v := 1) k_iconst_1 dX12_book_119 ?_
  refine z_iload_n hC (q := 2) dX12_book_120 rfl rfl ?_
  obtain ⟨hi16, h⟩ := h
  refine z_iastore hC hk13 hi16 dX12_book_121 ?_
  refine z_genI (fun I17 eI17 => ?_)
  have h := h I17 eI17
  refine z_aload_n hC (q := 0) dX12_book_122 rfl rfl ?_
  refine gf_RX12_166 hC dX12_book_123 hk11 hb12 ?_
  refine z_iconst hC (v := 2) k_iconst_2 dX12_book_126 ?_
  refine z_aload_n hC (q := 0) dX12_book_127 rfl rfl ?_
  obtain ⟨b18, hb18, h⟩ := h
  refine gf_RX12_98 hC dX12_book_128 hk11 hb18 ?_
  refine z_sipush hC (v := 342) k_sipush_342 dX12_book_131 ?_
  obtain ⟨hk19, h⟩ := h
  obtain ⟨hi20, h⟩ := h
  refine z_iaload hC hk19 hi20 dX12_book_134 ?_
  obtain ⟨hi21, h⟩ := h
  refine z_iastore hC hk13 hi21 dX12_book_135 ?_
  refine z_genI (fun I22 eI22 => ?_)
  have h := h I22 eI22
  refine z_aload_n hC (q := 0) dX12_book_136 rfl rfl ?_
  refine gf_RX12_166 hC dX12_book_137 hk11 hb12 ?_
  refine z_iconst hC (v := 3) k_iconst_3 dX12_book_140 ?_
  refine z_aload_n hC (q := 0) dX12_book_141 rfl rfl ?_
  refine cl_RX12_332 hC (c_X12_thoseThere _ G x0 K N I22 L R _ h) hk11 dX12_book_142 (by rw [hRm]; exact ⟨Nat.le_of_ble_eq_true rfl, Nat.le_of_ble_eq_true rfl⟩) ⟨Nat.zero_le _, Nat.zero_le _⟩ (Nat.le_of_ble_eq_true rfl) (z_kIi (I := I22) (fun r23 I24 h => ?_))
  obtain ⟨hi25, h⟩ := h
  refine z_iastore hC hk13 hi25 dX12_book_145 ?_
  refine z_genI (fun I26 eI26 => ?_)
  have h := h I26 eI26
  refine z_aload_n hC (q := 0) dX12_book_146 rfl rfl ?_
  refine z_iconst hC (v := 1) k_iconst_1 dX12_book_147 ?_
  refine pf_RX12_474 hC dX12_book_148 hk11 (x := true) ?_
  refine z_genI (fun I27 eI27 => ?_)
  have h := h I27 eI27
  refine z_aload_n hC (q := 0) dX12_book_151 rfl rfl ?_
  refine z_iload_n hC (q := 1) dX12_book_152 rfl rfl ?_
  refine z_iconst hC (v := 1) k_iconst_1 dX12_book_153 ?_
  refine z_icmp_ne hC (tgt := 165) dX12_book_154 (by decide) (fun hc => ?_) (fun hc => ?_)
  · have h := h.1 hc
    refine z_iconst hC (v := 0) k_iconst_0 dX12_book_165 ?_
    refine cl_RX12_458 hC (c_X12_stay _ G x0 false K N I27 L R _ h) hk11 dX12_book_166 (by rw [hRm]; exact ⟨Nat.le_of_ble_eq_true rfl, Nat.le_of_ble_eq_true rfl⟩) ⟨Nat.zero_le _, Nat.zero_le _⟩ (Nat.le_of_ble_eq_true rfl) (z_kIv (I := I27) (fun I28 h => ?_))
    refine z_iload_n hC (q := 3) dX12_book_169 rfl rfl ?_
    refine z_if_ne hC (tgt := 177) dX12_book_170 (by decide) (fun hc => ?_) (fun hc => ?_)
    · have h := h.1 hc
      refine z_iload_n hC (q := 2) dX12_book_177 rfl rfl ?_
      exact z_iret hC dX12_book_178 ⟨_, rfl, rfl, rfl, rfl, h⟩
    · have h := h.2 hc
      refine z_iconst hC (v := (-1)) k_iconst_m1 dX12_book_173 ?_
      refine z_goto hC (tgt := 178) dX12_book_174 (by decide) ?_
      exact z_iret hC dX12_book_178 ⟨_, rfl, rfl, rfl, rfl, h⟩
  · have h := h.2 hc
    refine z_iload_n hC (q := 2) dX12_book_157 rfl rfl ?_
    refine z_if_le hC (tgt := 165) dX12_book_158 (by decide) (fun hc => ?_) (fun hc => ?_)
    · have h := h.1 hc
      refine z_iconst hC (v := 0) k_iconst_0 dX12_book_165 ?_
      refine cl_RX12_458 hC (c_X12_stay _ G x0 false K N I27 L R _ h) hk11 dX12_book_166 (by rw [hRm]; exact ⟨Nat.le_of_ble_eq_true rfl, Nat.le_of_ble_eq_true rfl⟩) ⟨Nat.zero_le _, Nat.zero_le _⟩ (Nat.le_of_ble_eq_true rfl) (z_kIv (I := I27) (fun I29 h => ?_))
      refine z_iload_n hC (q := 3) dX12_book_169 rfl rfl ?_
      refine z_if_ne hC (tgt := 177) dX12_book_170 (by decide) (fun hc => ?_) (fun hc => ?_)
      · have h := h.1 hc
        refine z_iload_n hC (q := 2) dX12_book_177 rfl rfl ?_
        exact z_iret hC dX12_book_178 ⟨_, rfl, rfl, rfl, rfl, h⟩
      · have h := h.2 hc
        refine z_iconst hC (v := (-1)) k_iconst_m1 dX12_book_173 ?_
        refine z_goto hC (tgt := 178) dX12_book_174 (by decide) ?_
        exact z_iret hC dX12_book_178 ⟨_, rfl, rfl, rfl, rfl, h⟩
    · have h := h.2 hc
      refine z_iconst hC (v := 1) k_iconst_1 dX12_book_161 ?_
      refine z_goto hC (tgt := 166) dX12_book_162 (by decide) ?_
      refine cl_RX12_458 hC (c_X12_stay _ G x0 true K N I27 L R _ h) hk11 dX12_book_166 (by rw [hRm]; exact ⟨Nat.le_of_ble_eq_true rfl, Nat.le_of_ble_eq_true rfl⟩) ⟨Nat.zero_le _, Nat.zero_le _⟩ (Nat.le_of_ble_eq_true rfl) (z_kIv (I := I27) (fun I30 h => ?_))
      refine z_iload_n hC (q := 3) dX12_book_169 rfl rfl ?_
      refine z_if_ne hC (tgt := 177) dX12_book_170 (by decide) (fun hc => ?_) (fun hc => ?_)
      · have h := h.1 hc
        refine z_iload_n hC (q := 2) dX12_book_177 rfl rfl ?_
        exact z_iret hC dX12_book_178 ⟨_, rfl, rfl, rfl, rfl, h⟩
      · have h := h.2 hc
        refine z_iconst hC (v := (-1)) k_iconst_m1 dX12_book_173 ?_
        refine z_goto hC (tgt := 178) dX12_book_174 (by decide) ?_
        exact z_iret hC dX12_book_178 ⟨_, rfl, rfl, rfl, rfl, h⟩
set_option maxHeartbeats 4000000 in
set_option maxRecDepth 100000 in
theorem z_X12_book_78 {X : ZX} {G : ZG}  {x0 : Nat} {x1 : Int32} {x2 : Int32} {x3 : Int32}  {K : MK} {N : MK} {I : MI} {L : ML} {R : MR}  {Q : Int32 → MI → ML → Prop} (hC : ZOk X G RX12 cX12_book 4 (some .int)) (hRm : X.2.2.2.1 = rm_X12_book) (h : w_X12_book_78 x0 x1 x2 x3 K N I L R  Q) : Z X G 4 0 0 (z_T X G (qLi K N R Q) 0 0) K N I L R 78 [(0, .ref x0), (1, .int x1), (2, .int x2), (3, .int x3)] [] := by
  delta w_X12_book_78 at h
  obtain ⟨J, ⟨n, h0⟩, hs⟩ := h
  have key : ∀ (n : Nat) (x0 : Nat) (x1 : Int32) (x2 : Int32) (x3 : Int32) (I : MI) (L : ML), J n x0 x1 x2 x3 I L → Z X G 4 0 0 (z_T X G (qLi K N R Q) 0 0) K N I L R 78 [(0, .ref x0), (1, .int x1), (2, .int x2), (3, .int x3)] [] := by
    intro n
    induction n using Nat.strongRecOn with
    | _ n ih =>
      intro x0 x1 x2 x3 I L hJ
      have hC78 : ∀ (y0 : Nat) (y1 : Int32) (y2 : Int32) (y3 : Int32) (zI : MI) (zL : ML), (∃ n1, n1 < n ∧ J n1 y0 y1 y2 y3 zI zL) → Z X G 4 0 0 (z_T X G (qLi K N R Q) 0 0) K N zI zL R 78 [(0, .ref y0), (1, .int y1), (2, .int y2), (3, .int y3)] [] := fun y0 y1 y2 y3 zI zL ⟨n1, hn1, hj⟩ => ih n1 hn1 y0 y1 y2 y3 zI zL hj
      have h := hs n x0 x1 x2 x3 I L hJ
      refine z_iload_n hC (q := 2) dX12_book_78 rfl rfl ?_
      refine z_aload_n hC (q := 0) dX12_book_79 rfl rfl ?_
      obtain ⟨hk10, h⟩ := h
      refine gf_RX12_462 hC dX12_book_80 hk10 ?_
      refine z_icmp_ge hC (tgt := 108) dX12_book_83 (by decide) (fun hc => ?_) (fun hc => ?_)
      · have h := h.1 hc
        exact z_sub [(0, .ref x0), (1, .int x1), (2, .int x2), (3, .int x3)] [0, 1, 2, 3] rfl (z_X12_book_108 hC hRm h)
      · have h := h.2 hc
        refine z_iload_n hC (q := 3) dX12_book_86 rfl rfl ?_
        refine z_if_ne hC (tgt := 108) dX12_book_87 (by decide) (fun hc => ?_) (fun hc => ?_)
        · have h := h.1 hc
          exact z_sub [(0, .ref x0), (1, .int x1), (2, .int x2), (3, .int x3)] [0, 1, 2, 3] rfl (z_X12_book_108 hC hRm h)
        · have h := h.2 hc
          refine z_aload_n hC (q := 0) dX12_book_90 rfl rfl ?_
          refine z_iconst hC (v := 3) k_iconst_3 dX12_book_91 ?_
          refine z_iload_n hC (q := 2) dX12_book_92 rfl rfl ?_
          refine z_imul hC dX12_book_93 ?_
          refine cl_RX12_471 hC (c_X12_goBy _ G x0 ((3 : Int32) * x2) K N I L R _ h) hk10 dX12_book_94 (by rw [hRm]; exact ⟨Nat.le_of_ble_eq_true rfl, Nat.le_of_ble_eq_true rfl⟩) ⟨Nat.zero_le _, Nat.zero_le _⟩ (Nat.le_of_ble_eq_true rfl) (z_kIi (I := I) (fun r31 I32 h => ?_))
          refine z_istore_n hC (lv1 := [(3, .int r31), (0, .ref x0), (1, .int x1), (2, .int x2)]) dX12_book_97 rfl (by decide) rfl ?_
          refine z_iload_n hC (q := 0) dX12_book_98 rfl rfl ?_
          refine z_if_ne hC (tgt := 78) dX12_book_99 (by decide) (fun hc => ?_) (fun hc => ?_)
          · have h := h.1 hc
            exact z_sub [(0, .ref x0), (1, .int x1), (2, .int x2), (3, .int r31)] [1, 2, 3, 0] rfl (hC78 _ _ _ _ _ _ h)
          · have h := h.2 hc
            obtain ⟨v33, ev33⟩ : ∃ y : Int32, y = x2 + 1 := ⟨_, rfl⟩
            have h := h v33 ev33
            refine z_iinc hC (q := 3) (v := v33) (lv1 := [(2, .int v33), (3, .int r31), (0, .ref x0), (1, .int x1)]) dX12_book_102 rfl (by rw [ev33, k_iinc_1]) (by decide) rfl ?_
            refine z_goto hC (tgt := 78) dX12_book_105 (by decide) ?_
            exact z_sub [(0, .ref x0), (1, .int x1), (2, .int v33), (3, .int r31)] [2, 3, 0, 1] rfl (hC78 _ _ _ _ _ _ h)
  exact key n x0 x1 x2 x3 I L h0
set_option maxHeartbeats 4000000 in
set_option maxRecDepth 100000 in
theorem z_X12_book_30 {X : ZX} {G : ZG}  {x0 : Nat} {x1 : Int32}  {K : MK} {N : MK} {I : MI} {L : ML} {R : MR}  {Q : Int32 → MI → ML → Prop} (hC : ZOk X G RX12 cX12_book 4 (some .int)) (hRm : X.2.2.2.1 = rm_X12_book) (h : w_X12_book_30 x0 x1 K N I L R  Q) : Z X G 4 0 0 (z_T X G (qLi K N R Q) 0 0) K N I L R 30 [(0, .ref x0), (1, .int x1)] [] := by
  delta w_X12_book_30 at h
  obtain ⟨J, ⟨n, h0⟩, hs⟩ := h
  have key : ∀ (n : Nat) (x0 : Nat) (x1 : Int32) (I : MI) (L : ML), J n x0 x1 I L → Z X G 4 0 0 (z_T X G (qLi K N R Q) 0 0) K N I L R 30 [(0, .ref x0), (1, .int x1)] [] := by
    intro n
    induction n using Nat.strongRecOn with
    | _ n ih =>
      intro x0 x1 I L hJ
      have hC30 : ∀ (y0 : Nat) (y1 : Int32) (zI : MI) (zL : ML), (∃ n1, n1 < n ∧ J n1 y0 y1 zI zL) → Z X G 4 0 0 (z_T X G (qLi K N R Q) 0 0) K N zI zL R 30 [(0, .ref y0), (1, .int y1)] [] := fun y0 y1 zI zL ⟨n1, hn1, hj⟩ => ih n1 hn1 y0 y1 zI zL hj
      have h := hs n x0 x1 I L hJ
      refine z_aload_n hC (q := 0) dX12_book_30 rfl rfl ?_
      obtain ⟨hk7, h⟩ := h
      refine gf_RX12_30 hC dX12_book_31 hk7 ?_
      refine z_if_eq hC (tgt := 65) dX12_book_34 (by decide) (fun hc => ?_) (fun hc => ?_)
      · have h := h.1 hc
        refine z_aload_n hC (q := 0) dX12_book_65 rfl rfl ?_
        refine z_aload_n hC (q := 0) dX12_book_66 rfl rfl ?_
        obtain ⟨b8, hb8, h⟩ := h
        refine gf_RX12_113 hC dX12_book_67 hk7 hb8 ?_
        refine z_iconst hC (v := 0) k_iconst_0 dX12_book_70 ?_
        refine cl_RX12_342 hC (c_X12_save _ G x0 b8 0 K N I L R _ h) hk7 dX12_book_71 (by rw [hRm]; exact ⟨Nat.le_of_ble_eq_true rfl, Nat.le_of_ble_eq_true rfl⟩) ⟨Nat.zero_le _, Nat.zero_le _⟩ (Nat.le_of_ble_eq_true rfl) (z_kIv (I := I) (fun I9 h => ?_))
        refine z_iconst hC (v := 0) k_iconst_0 dX12_book_74 ?_
        refine z_istore_n hC (lv1 := [(2, .int 0), (0, .ref x0), (1, .int x1)]) dX12_book_75 rfl (by decide) rfl ?_
        refine z_iconst hC (v := 0) k_iconst_0 dX12_book_76 ?_
        refine z_istore_n hC (lv1 := [(3, .int 0), (2, .int 0), (0, .ref x0), (1, .int x1)]) dX12_book_77 rfl (by decide) rfl ?_
        exact z_sub [(0, .ref x0), (1, .int x1), (2, .int 0), (3, .int 0)] [2, 3, 1, 0] rfl (z_X12_book_78 hC hRm h)
      · have h := h.2 hc
        refine z_aload_n hC (q := 0) dX12_book_37 rfl rfl ?_
        refine cl_RX12_468 hC (c_X12_readBookLine _ G x0 K N I L R _ h) hk7 dX12_book_38 (by rw [hRm]; exact ⟨Nat.le_of_ble_eq_true rfl, Nat.le_of_ble_eq_true rfl⟩) ⟨Nat.zero_le _, Nat.zero_le _⟩ (Nat.le_of_ble_eq_true rfl) (z_kLz (I := I) (L := L) (fun r34 I35 L36 h => ?_))
        refine z_ifz_ne hC (tgt := 52) dX12_book_41 (by decide) (fun hc => ?_) (fun hc => ?_)
        · have h := h.1 hc
          refine z_aload_n hC (q := 0) dX12_book_52 rfl rfl ?_
          refine z_dup hC rfl dX12_book_53 ?_
          refine gf_RX12_462 hC dX12_book_54 hk7 ?_
          refine z_iconst hC (v := 1) k_iconst_1 dX12_book_57 ?_
          refine z_iadd hC dX12_book_58 ?_
          refine pf_RX12_462 hC dX12_book_59 hk7 ?_
          refine z_genI (fun I37 eI37 => ?_)
          have h := h I37 eI37
          refine z_goto hC (tgt := 30) dX12_book_62 (by decide) ?_
          exact z_sub [(0, .ref x0), (1, .int x1)] [0, 1] rfl (hC30 _ _ _ _ h)
        · have h := h.2 hc
          refine z_bipush hC (v := (-2)) k_bipush_m2 dX12_book_44 ?_
          refine z_aload_n hC (q := 0) dX12_book_46 rfl rfl ?_
          refine gf_RX12_69 hC dX12_book_47 hk7 ?_
          refine z_isub hC dX12_book_50 ?_
          exact z_iret hC dX12_book_51 ⟨_, rfl, rfl, rfl, rfl, h⟩
  exact key n x0 x1 I L h0
set_option maxHeartbeats 4000000 in
set_option maxRecDepth 100000 in
theorem c_X12_book  (l : Launch) (G : ZG) (a0 : Nat) (a1 : Int32) (K : MK) (N : MK) (I : MI) (L : ML) (R : MR) (Q : Int32 → MI → ML → Prop) (h : w_X12_book a0 a1 K N I L R Q) : Met l yX12_book (.code yX12_book cX12_book 4 (some .int) :: z_tbl) rm_X12_book (z_Pc G [.ref a0, .int a1] K N I L R) (z_Qc G (qLi K N R Q)) 0 0 (z_A G) := by
  refine z_met (by decide) (Nat.le_of_ble_eq_true rfl) (fun X hX hRm hC0 hnm => ?_)
  subst hX
  have hC : ZOk X G RX12 cX12_book 4 (some .int) := hC0
  show Z X G 4 0 0 _ K N I L R 0 [(0, .ref a0), (1, .int a1)] []
  delta w_X12_book at h
  refine z_aload_n hC (q := 0) dX12_book_0 rfl rfl ?_
  refine z_iconst hC (v := 0) k_iconst_0 dX12_book_1 ?_
  obtain ⟨hk1, h⟩ := h
  refine pf_RX12_1 hC dX12_book_2 hk1 ?_
  refine z_genI (fun I2 eI2 => ?_)
  have h := h I2 eI2
  refine z_iload_n hC (q := 1) dX12_book_5 rfl rfl ?_
  refine z_iconst hC (v := 0) k_iconst_0 dX12_book_6 ?_
  refine z_iconst hC (v := 1) k_iconst_1 dX12_book_7 ?_
  refine cl_RX12_75 hC (c_X12_isIn _ G a1 0 1 K N I2 L R _ h) dX12_book_8 (by rw [hRm]; exact ⟨Nat.le_of_ble_eq_true rfl, Nat.le_of_ble_eq_true rfl⟩) ⟨Nat.zero_le _, Nat.zero_le _⟩ (Nat.le_of_ble_eq_true rfl) (z_kPz (fun r3 h => ?_))
  refine z_ifz_ne hC (tgt := 18) dX12_book_11 (by decide) (fun hc => ?_) (fun hc => ?_)
  · have h := h.1 hc
    refine z_aload_n hC (q := 0) dX12_book_18 rfl rfl ?_
    refine z_sipush hC (v := 400) k_sipush_400 dX12_book_19 ?_
    refine cl_RX12_246 hC (c_X12_begin _ G a0 400 K N I2 L R _ h) hk1 dX12_book_22 (by rw [hRm]; exact ⟨Nat.le_of_ble_eq_true rfl, Nat.le_of_ble_eq_true rfl⟩) ⟨Nat.zero_le _, Nat.zero_le _⟩ (Nat.le_of_ble_eq_true rfl) (z_kLv (I := I2) (L := L) (fun I4 L5 h => ?_))
    refine z_aload_n hC (q := 0) dX12_book_25 rfl rfl ?_
    refine z_iconst hC (v := 0) k_iconst_0 dX12_book_26 ?_
    refine pf_RX12_462 hC dX12_book_27 hk1 ?_
    refine z_genI (fun I6 eI6 => ?_)
    have h := h I6 eI6
    exact z_sub [(0, .ref a0), (1, .int a1)] [0, 1] rfl (z_X12_book_30 hC hRm h)
  · have h := h.2 hc
    refine z_sipush hC (v := (-1000)) k_sipush_m1000 dX12_book_14 ?_
    exact z_iret hC dX12_book_17 ⟨_, rfl, rfl, rfl, rfl, h⟩
def w_X12_told  (a0 : Nat) (a1 : Int32) (K : MK) (N : MK) (I : MI) (L : ML) (R : MR) (Q : Int32 → MI → Prop) : Prop := K a0 = 13 ∧ ∀ I2 : MI, I2 = mup I a0 0 0 → ((I2 a0 52) = 0 → Q (-1) I2) ∧ (¬ (I2 a0 52) = 0 → w_X12_isIn a1 0 3 K N I2 L R (fun r3 => (r3 = false → Q (-1) I2) ∧ (r3 = true → ∃ b4 : Nat, R a0 50 = some b4 ∧ K b4 = 14 ∧ vp_in a1 (N b4) ∧ Q (I2 b4 (ix a1)) I2)))
set_option maxHeartbeats 4000000 in
set_option maxRecDepth 100000 in
theorem c_X12_told  (l : Launch) (G : ZG) (a0 : Nat) (a1 : Int32) (K : MK) (N : MK) (I : MI) (L : ML) (R : MR) (Q : Int32 → MI → Prop) (h : w_X12_told a0 a1 K N I L R Q) : Met l yX12_told (.code yX12_told cX12_told 2 (some .int) :: z_tbl) rm_X12_told (z_Pc G [.ref a0, .int a1] K N I L R) (z_Qc G (qIi K N L R Q)) 0 0 (z_A G) := by
  refine z_met (by decide) (Nat.le_of_ble_eq_true rfl) (fun X hX hRm hC0 hnm => ?_)
  subst hX
  have hC : ZOk X G RX12 cX12_told 2 (some .int) := hC0
  show Z X G 2 0 0 _ K N I L R 0 [(0, .ref a0), (1, .int a1)] []
  delta w_X12_told at h
  refine z_aload_n hC (q := 0) dX12_told_0 rfl rfl ?_
  refine z_iconst hC (v := 0) k_iconst_0 dX12_told_1 ?_
  obtain ⟨hk1, h⟩ := h
  refine pf_RX12_1 hC dX12_told_2 hk1 ?_
  refine z_genI (fun I2 eI2 => ?_)
  have h := h I2 eI2
  refine z_aload_n hC (q := 0) dX12_told_5 rfl rfl ?_
  refine gf_RX12_474 hC dX12_told_6 hk1 ?_
  refine z_if_eq hC (tgt := 30) dX12_told_9 (by decide) (fun hc => ?_) (fun hc => ?_)
  · have h := h.1 hc
    refine z_iconst hC (v := (-1)) k_iconst_m1 dX12_told_30 ?_
    exact z_iret hC dX12_told_31 ⟨_, rfl, rfl, rfl, rfl, rfl, h⟩
  · have h := h.2 hc
    refine z_iload_n hC (q := 1) dX12_told_12 rfl rfl ?_
    refine z_iconst hC (v := 0) k_iconst_0 dX12_told_13 ?_
    refine z_iconst hC (v := 3) k_iconst_3 dX12_told_14 ?_
    refine cl_RX12_75 hC (c_X12_isIn _ G a1 0 3 K N I2 L R _ h) dX12_told_15 (by rw [hRm]; exact ⟨Nat.le_of_ble_eq_true rfl, Nat.le_of_ble_eq_true rfl⟩) ⟨Nat.zero_le _, Nat.zero_le _⟩ (Nat.le_of_ble_eq_true rfl) (z_kPz (fun r3 h => ?_))
    refine z_ifz_eq hC (tgt := 30) dX12_told_18 (by decide) (fun hc => ?_) (fun hc => ?_)
    · have h := h.1 hc
      refine z_iconst hC (v := (-1)) k_iconst_m1 dX12_told_30 ?_
      exact z_iret hC dX12_told_31 ⟨_, rfl, rfl, rfl, rfl, rfl, h⟩
    · have h := h.2 hc
      refine z_aload_n hC (q := 0) dX12_told_21 rfl rfl ?_
      obtain ⟨b4, hb4, h⟩ := h
      refine gf_RX12_166 hC dX12_told_22 hk1 hb4 ?_
      refine z_iload_n hC (q := 1) dX12_told_25 rfl rfl ?_
      obtain ⟨hk5, h⟩ := h
      obtain ⟨hi6, h⟩ := h
      refine z_iaload hC hk5 hi6 dX12_told_26 ?_
      refine z_goto hC (tgt := 31) dX12_told_27 (by decide) ?_
      exact z_iret hC dX12_told_31 ⟨_, rfl, rfl, rfl, rfl, rfl, h⟩
def w_X12_readScopeName  (a0 : Nat) (K : MK) (N : MK) (I : MI) (L : ML) (R : MR) (Q : Bool → MI → ML → Prop) : Prop := K a0 = 13 ∧ w_X12_isName a0 K N I L R (fun r2 => (r2 = true → ∃ b3 : Nat, R a0 20 = some b3 ∧ ∃ b4 : Nat, R a0 14 = some b4 ∧ K b4 = 14 ∧ vp_in 2 (N b4) ∧ w_X12_findIn b3 0 (I b4 (ix 2)) (L a0 12) K N I L R (fun r7 => ∀ I8 : MI, I8 = mup I a0 13 r7 → (¬ (I8 a0 13) = (-1) → w_X12_go a0 K N I8 L R (fun I9 L10 => Q true I9 L10)) ∧ ((I8 a0 13) = (-1) → w_X12_bad a0 3 K N I8 L R (fun r11 I12 => Q r11 I12 L)))) ∧ (r2 = false → w_X12_bad a0 1 K N I L R (fun r13 I14 => Q r13 I14 L)))
set_option maxHeartbeats 4000000 in
set_option maxRecDepth 100000 in
theorem c_X12_readScopeName  (l : Launch) (G : ZG) (a0 : Nat) (K : MK) (N : MK) (I : MI) (L : ML) (R : MR) (Q : Bool → MI → ML → Prop) (h : w_X12_readScopeName a0 K N I L R Q) : Met l yX12_readScopeName (.code yX12_readScopeName cX12_readScopeName 1 (some .boolean) :: z_tbl) rm_X12_readScopeName (z_Pc G [.ref a0] K N I L R) (z_Qc G (qLz K N R Q)) 0 0 (z_A G) := by
  refine z_met (by decide) (Nat.le_of_ble_eq_true rfl) (fun X hX hRm hC0 hnm => ?_)
  subst hX
  have hC : ZOk X G RX12 cX12_readScopeName 1 (some .boolean) := hC0
  show Z X G 1 0 0 _ K N I L R 0 [(0, .ref a0)] []
  delta w_X12_readScopeName at h
  refine z_aload_n hC (q := 0) dX12_readScopeName_0 rfl rfl ?_
  obtain ⟨hk1, h⟩ := h
  refine cl_RX12_172 hC (c_X12_isName _ G a0 K N I L R _ h) hk1 dX12_readScopeName_1 (by rw [hRm]; exact ⟨Nat.le_of_ble_eq_true rfl, Nat.le_of_ble_eq_true rfl⟩) ⟨Nat.zero_le _, Nat.zero_le _⟩ (Nat.le_of_ble_eq_true rfl) (z_kPz (fun r2 h => ?_))
  refine z_ifz_ne hC (tgt := 13) dX12_readScopeName_4 (by decide) (fun hc => ?_) (fun hc => ?_)
  · have h := h.1 hc
    refine z_aload_n hC (q := 0) dX12_readScopeName_13 rfl rfl ?_
    refine z_aload_n hC (q := 0) dX12_readScopeName_14 rfl rfl ?_
    obtain ⟨b3, hb3, h⟩ := h
    refine gf_RX12_116 hC dX12_readScopeName_15 hk1 hb3 ?_
    refine z_iconst hC (v := 0) k_iconst_0 dX12_readScopeName_18 ?_
    refine z_aload_n hC (q := 0) dX12_readScopeName_19 rfl rfl ?_
    obtain ⟨b4, hb4, h⟩ := h
    refine gf_RX12_98 hC dX12_readScopeName_20 hk1 hb4 ?_
    refine z_iconst hC (v := 2) k_iconst_2 dX12_readScopeName_23 ?_
    obtain ⟨hk5, h⟩ := h
    obtain ⟨hi6, h⟩ := h
    refine z_iaload hC hk5 hi6 dX12_readScopeName_24 ?_
    refine z_aload_n hC (q := 0) dX12_readScopeName_25 rfl rfl ?_
    refine gf_RX12_43 hC dX12_readScopeName_26 hk1 ?_
    refine cl_RX12_176 hC (c_X12_findIn _ G b3 0 (I b4 (ix 2)) (L a0 12) K N I L R _ h) dX12_readScopeName_29 (by rw [hRm]; exact ⟨Nat.le_of_ble_eq_true rfl, Nat.le_of_ble_eq_true rfl⟩) ⟨Nat.zero_le _, Nat.zero_le _⟩ (Nat.le_of_ble_eq_true rfl) (z_kPi (fun r7 h => ?_))
    refine pf_RX12_79 hC dX12_readScopeName_32 hk1 ?_
    refine z_genI (fun I8 eI8 => ?_)
    have h := h I8 eI8
    refine z_aload_n hC (q := 0) dX12_readScopeName_35 rfl rfl ?_
    refine gf_RX12_79 hC dX12_readScopeName_36 hk1 ?_
    refine z_iconst hC (v := (-1)) k_iconst_m1 dX12_readScopeName_39 ?_
    refine z_icmp_ne hC (tgt := 49) dX12_readScopeName_40 (by decide) (fun hc => ?_) (fun hc => ?_)
    · have h := h.1 hc
      refine z_aload_n hC (q := 0) dX12_readScopeName_49 rfl rfl ?_
      refine cl_RX12_82 hC (c_X12_go _ G a0 K N I8 L R _ h) hk1 dX12_readScopeName_50 (by rw [hRm]; exact ⟨Nat.le_of_ble_eq_true rfl, Nat.le_of_ble_eq_true rfl⟩) ⟨Nat.zero_le _, Nat.zero_le _⟩ (Nat.le_of_ble_eq_true rfl) (z_kLv (I := I8) (L := L) (fun I9 L10 h => ?_))
      refine z_iconst hC (v := 1) k_iconst_1 dX12_readScopeName_53 ?_
      exact z_zret (b := true) hC dX12_readScopeName_54 rfl ⟨true, rfl, rfl, rfl, rfl, h⟩
    · have h := h.2 hc
      refine z_aload_n hC (q := 0) dX12_readScopeName_43 rfl rfl ?_
      refine z_iconst hC (v := 3) k_iconst_3 dX12_readScopeName_44 ?_
      refine cl_RX12_72 hC (c_X12_bad _ G a0 3 K N I8 L R _ h) hk1 dX12_readScopeName_45 (by rw [hRm]; exact ⟨Nat.le_of_ble_eq_true rfl, Nat.le_of_ble_eq_true rfl⟩) ⟨Nat.zero_le _, Nat.zero_le _⟩ (Nat.le_of_ble_eq_true rfl) (z_kIz (I := I8) (fun r11 I12 h => ?_))
      exact z_zret (b := r11) hC dX12_readScopeName_48 rfl ⟨r11, rfl, rfl, rfl, rfl, h⟩
  · have h := h.2 hc
    refine z_aload_n hC (q := 0) dX12_readScopeName_7 rfl rfl ?_
    refine z_iconst hC (v := 1) k_iconst_1 dX12_readScopeName_8 ?_
    refine cl_RX12_72 hC (c_X12_bad _ G a0 1 K N I L R _ h) hk1 dX12_readScopeName_9 (by rw [hRm]; exact ⟨Nat.le_of_ble_eq_true rfl, Nat.le_of_ble_eq_true rfl⟩) ⟨Nat.zero_le _, Nat.zero_le _⟩ (Nat.le_of_ble_eq_true rfl) (z_kIz (I := I) (fun r13 I14 h => ?_))
    exact z_zret (b := r13) hC dX12_readScopeName_12 rfl ⟨r13, rfl, rfl, rfl, rfl, h⟩
def w_X12_isBehind_2  (x0 : Nat) (x1 : Int32) (x2 : Int32) (x3 : Int32)  (K : MK) (N : MK) (I : MI) (L : ML) (R : MR)  (Q : Bool → Prop) : Prop := ∃ J : Nat → Nat → Int32 → Int32 → Int32 → Prop, (∃ n, J n x0 x1 x2 x3) ∧ ∀ (n : Nat) (x0 : Nat) (x1 : Int32) (x2 : Int32) (x3 : Int32), J n x0 x1 x2 x3 → (x3 = (-1) → (¬ x3 = x2 → Q false) ∧ (x3 = x2 → Q true)) ∧ (¬ x3 = (-1) → (x3 = x2 → (¬ x3 = x2 → Q false) ∧ (x3 = x2 → Q true)) ∧ (¬ x3 = x2 → K x0 = 13 ∧ ∃ b2 : Nat, R x0 14 = some b2 ∧ K b2 = 14 ∧ vp_in ((66 : Int32) + x1) (N b2) ∧ w_X12_nextInChain x0 (I b2 (ix ((66 : Int32) + x1))) x3 K N I L R (fun r5 => ∃ n1, n1 < n ∧ J n1 x0 x1 x2 r5)))
def w_X12_isBehind  (a0 : Nat) (a1 : Int32) (a2 : Int32) (K : MK) (N : MK) (I : MI) (L : ML) (R : MR) (Q : Bool → Prop) : Prop := w_X12_isBehind_2 a0 a1 a2 a1 K N I L R Q
set_option maxHeartbeats 4000000 in
set_option maxRecDepth 100000 in
theorem z_X12_isBehind_2 {X : ZX} {G : ZG}  {x0 : Nat} {x1 : Int32} {x2 : Int32} {x3 : Int32}  {K : MK} {N : MK} {I : MI} {L : ML} {R : MR}  {Q : Bool → Prop} (hC : ZOk X G RX12 cX12_isBehind 4 (some .boolean)) (hRm : X.2.2.2.1 = rm_X12_isBehind) (h : w_X12_isBehind_2 x0 x1 x2 x3 K N I L R  Q) : Z X G 4 0 0 (z_T X G (qPz K N I L R Q) 0 0) K N I L R 2 [(0, .ref x0), (1, .int x1), (2, .int x2), (3, .int x3)] [] := by
  delta w_X12_isBehind_2 at h
  obtain ⟨J, ⟨n, h0⟩, hs⟩ := h
  have key : ∀ (n : Nat) (x0 : Nat) (x1 : Int32) (x2 : Int32) (x3 : Int32), J n x0 x1 x2 x3 → Z X G 4 0 0 (z_T X G (qPz K N I L R Q) 0 0) K N I L R 2 [(0, .ref x0), (1, .int x1), (2, .int x2), (3, .int x3)] [] := by
    intro n
    induction n using Nat.strongRecOn with
    | _ n ih =>
      intro x0 x1 x2 x3 hJ
      have hC2 : ∀ (y0 : Nat) (y1 : Int32) (y2 : Int32) (y3 : Int32) , (∃ n1, n1 < n ∧ J n1 y0 y1 y2 y3) → Z X G 4 0 0 (z_T X G (qPz K N I L R Q) 0 0) K N I L R 2 [(0, .ref y0), (1, .int y1), (2, .int y2), (3, .int y3)] [] := fun y0 y1 y2 y3 ⟨n1, hn1, hj⟩ => ih n1 hn1 y0 y1 y2 y3 hj
      have h := hs n x0 x1 x2 x3 hJ
      refine z_iload_n hC (q := 3) dX12_isBehind_2 rfl rfl ?_
      refine z_iconst hC (v := (-1)) k_iconst_m1 dX12_isBehind_3 ?_
      refine z_icmp_eq hC (tgt := 30) dX12_isBehind_4 (by decide) (fun hc => ?_) (fun hc => ?_)
      · have h := h.1 hc
        refine z_iload_n hC (q := 3) dX12_isBehind_30 rfl rfl ?_
        refine z_iload_n hC (q := 2) dX12_isBehind_31 rfl rfl ?_
        refine z_icmp_ne hC (tgt := 39) dX12_isBehind_32 (by decide) (fun hc => ?_) (fun hc => ?_)
        · have h := h.1 hc
          refine z_iconst hC (v := 0) k_iconst_0 dX12_isBehind_39 ?_
          exact z_zret (b := false) hC dX12_isBehind_40 rfl ⟨false, rfl, rfl, rfl, rfl, rfl, rfl, h⟩
        · have h := h.2 hc
          refine z_iconst hC (v := 1) k_iconst_1 dX12_isBehind_35 ?_
          refine z_goto hC (tgt := 40) dX12_isBehind_36 (by decide) ?_
          exact z_zret (b := true) hC dX12_isBehind_40 rfl ⟨true, rfl, rfl, rfl, rfl, rfl, rfl, h⟩
      · have h := h.2 hc
        refine z_iload_n hC (q := 3) dX12_isBehind_7 rfl rfl ?_
        refine z_iload_n hC (q := 2) dX12_isBehind_8 rfl rfl ?_
        refine z_icmp_eq hC (tgt := 30) dX12_isBehind_9 (by decide) (fun hc => ?_) (fun hc => ?_)
        · have h := h.1 hc
          refine z_iload_n hC (q := 3) dX12_isBehind_30 rfl rfl ?_
          refine z_iload_n hC (q := 2) dX12_isBehind_31 rfl rfl ?_
          refine z_icmp_ne hC (tgt := 39) dX12_isBehind_32 (by decide) (fun hc => ?_) (fun hc => ?_)
          · have h := h.1 hc
            refine z_iconst hC (v := 0) k_iconst_0 dX12_isBehind_39 ?_
            exact z_zret (b := false) hC dX12_isBehind_40 rfl ⟨false, rfl, rfl, rfl, rfl, rfl, rfl, h⟩
          · have h := h.2 hc
            refine z_iconst hC (v := 1) k_iconst_1 dX12_isBehind_35 ?_
            refine z_goto hC (tgt := 40) dX12_isBehind_36 (by decide) ?_
            exact z_zret (b := true) hC dX12_isBehind_40 rfl ⟨true, rfl, rfl, rfl, rfl, rfl, rfl, h⟩
        · have h := h.2 hc
          refine z_aload_n hC (q := 0) dX12_isBehind_12 rfl rfl ?_
          refine z_aload_n hC (q := 0) dX12_isBehind_13 rfl rfl ?_
          obtain ⟨hk1, h⟩ := h
          obtain ⟨b2, hb2, h⟩ := h
          refine gf_RX12_98 hC dX12_isBehind_14 hk1 hb2 ?_
          refine z_bipush hC (v := 66) k_bipush_66 dX12_isBehind_17 ?_
          refine z_iload_n hC (q := 1) dX12_isBehind_19 rfl rfl ?_
          refine z_iadd hC dX12_isBehind_20 ?_
          obtain ⟨hk3, h⟩ := h
          obtain ⟨hi4, h⟩ := h
          refine z_iaload hC hk3 hi4 dX12_isBehind_21 ?_
          refine z_iload_n hC (q := 3) dX12_isBehind_22 rfl rfl ?_
          refine cl_RX12_282 hC (c_X12_nextInChain _ G x0 (I b2 (ix ((66 : Int32) + x1))) x3 K N I L R _ h) hk1 dX12_isBehind_23 (by rw [hRm]; exact ⟨Nat.le_of_ble_eq_true rfl, Nat.le_of_ble_eq_true rfl⟩) ⟨Nat.zero_le _, Nat.zero_le _⟩ (Nat.le_of_ble_eq_true rfl) (z_kPi (fun r5 h => ?_))
          refine z_istore_n hC (lv1 := [(3, .int r5), (0, .ref x0), (1, .int x1), (2, .int x2)]) dX12_isBehind_26 rfl (by decide) rfl ?_
          refine z_goto hC (tgt := 2) dX12_isBehind_27 (by decide) ?_
          exact z_sub [(0, .ref x0), (1, .int x1), (2, .int x2), (3, .int r5)] [1, 2, 3, 0] rfl (hC2 _ _ _ _ h)
  exact key n x0 x1 x2 x3 h0
set_option maxHeartbeats 4000000 in
set_option maxRecDepth 100000 in
theorem c_X12_isBehind  (l : Launch) (G : ZG) (a0 : Nat) (a1 : Int32) (a2 : Int32) (K : MK) (N : MK) (I : MI) (L : ML) (R : MR) (Q : Bool → Prop) (h : w_X12_isBehind a0 a1 a2 K N I L R Q) : Met l yX12_isBehind (.code yX12_isBehind cX12_isBehind 4 (some .boolean) :: z_tbl) rm_X12_isBehind (z_Pc G [.ref a0, .int a1, .int a2] K N I L R) (z_Qc G (qPz K N I L R Q)) 0 0 (z_A G) := by
  refine z_met (by decide) (Nat.le_of_ble_eq_true rfl) (fun X hX hRm hC0 hnm => ?_)
  subst hX
  have hC : ZOk X G RX12 cX12_isBehind 4 (some .boolean) := hC0
  show Z X G 4 0 0 _ K N I L R 0 [(0, .ref a0), (1, .int a1), (2, .int a2)] []
  delta w_X12_isBehind at h
  refine z_iload_n hC (q := 1) dX12_isBehind_0 rfl rfl ?_
  refine z_istore_n hC (lv1 := [(3, .int a1), (0, .ref a0), (1, .int a1), (2, .int a2)]) dX12_isBehind_1 rfl (by decide) rfl ?_
  exact z_sub [(0, .ref a0), (1, .int a1), (2, .int a2), (3, .int a1)] [1, 2, 3, 0] rfl (z_X12_isBehind_2 hC hRm h)
def w_X12_saysOne  (a0 : Nat) (a1 : Int32) (a2 : Int32) (a3 : Int32) (a4 : Int32) (K : MK) (N : MK) (I : MI) (L : ML) (R : MR) (Q : Int32 → MI → Prop) : Prop := K a0 = 13 ∧ ∀ v2 : Int32, v2 = ((4 : Int32) * (I a0 54)) → ∃ b3 : Nat, R a0 53 = some b3 ∧ K b3 = 14 ∧ vp_in v2 (N b3) ∧ ∀ I6 : MI, I6 = mup I b3 (ix v2) a1 → vp_in (v2 + 1) (N b3) ∧ ∀ I8 : MI, I8 = mup I6 b3 (ix (v2 + 1)) a2 → vp_in (v2 + 2) (N b3) ∧ ∀ I10 : MI, I10 = mup I8 b3 (ix (v2 + 2)) a3 → vp_in (v2 + 3) (N b3) ∧ ∀ I12 : MI, I12 = mup I10 b3 (ix (v2 + 3)) a4 → ∀ I13 : MI, I13 = mup I12 a0 54 ((I12 a0 54) + 1) → Q ((I13 a0 54) - 1) I13
set_option maxHeartbeats 4000000 in
set_option maxRecDepth 100000 in
theorem c_X12_saysOne  (l : Launch) (G : ZG) (a0 : Nat) (a1 : Int32) (a2 : Int32) (a3 : Int32) (a4 : Int32) (K : MK) (N : MK) (I : MI) (L : ML) (R : MR) (Q : Int32 → MI → Prop) (h : w_X12_saysOne a0 a1 a2 a3 a4 K N I L R Q) : Met l yX12_saysOne (.code yX12_saysOne cX12_saysOne 6 (some .int) :: z_tbl) rm_X12_saysOne (z_Pc G [.ref a0, .int a1, .int a2, .int a3, .int a4] K N I L R) (z_Qc G (qIi K N L R Q)) 0 0 (z_A G) := by
  refine z_met (by decide) (Nat.le_of_ble_eq_true rfl) (fun X hX hRm hC0 hnm => ?_)
  subst hX
  have hC : ZOk X G RX12 cX12_saysOne 6 (some .int) := hC0
  show Z X G 6 0 0 _ K N I L R 0 [(0, .ref a0), (1, .int a1), (2, .int a2), (3, .int a3), (4, .int a4)] []
  delta w_X12_saysOne at h
  refine z_iconst hC (v := 4) k_iconst_4 dX12_saysOne_0 ?_
  refine z_aload_n hC (q := 0) dX12_saysOne_1 rfl rfl ?_
  obtain ⟨hk1, h⟩ := h
  refine gf_RX12_478 hC dX12_saysOne_2 hk1 ?_
  refine z_imul hC dX12_saysOne_5 ?_
  refine z_topi (fun v2 ev2 => ?_)
  have h := h v2 ev2
  refine z_istore hC (lv1 := [(5, .int v2), (0, .ref a0), (1, .int a1), (2, .int a2), (3, .int a3), (4, .int a4)]) dX12_saysOne_6 (by decide) rfl ?_
  refine z_aload_n hC (q := 1) dX12_saysOne_8 rfl rfl ?_
  obtain ⟨b3, hb3, h⟩ := h
  refine gf_RX12_169 hC dX12_saysOne_9 hk1 hb3 ?_
  refine z_iload hC (q := 0) dX12_saysOne_12 rfl ?_
  refine z_iload_n hC (q := 2) dX12_saysOne_14 rfl rfl ?_
  obtain ⟨hk4, h⟩ := h
  obtain ⟨hi5, h⟩ := h
  refine z_iastore hC hk4 hi5 dX12_saysOne_15 ?_
  refine z_genI (fun I6 eI6 => ?_)
  have h := h I6 eI6
  refine z_aload_n hC (q := 1) dX12_saysOne_16 rfl rfl ?_
  refine gf_RX12_169 hC dX12_saysOne_17 hk1 hb3 ?_
  refine z_iload hC (q := 0) dX12_saysOne_20 rfl ?_
  refine z_iconst hC (v := 1) k_iconst_1 dX12_saysOne_22 ?_
  refine z_iadd hC dX12_saysOne_23 ?_
  refine z_iload_n hC (q := 3) dX12_saysOne_24 rfl rfl ?_
  obtain ⟨hi7, h⟩ := h
  refine z_iastore hC hk4 hi7 dX12_saysOne_25 ?_
  refine z_genI (fun I8 eI8 => ?_)
  have h := h I8 eI8
  refine z_aload_n hC (q := 1) dX12_saysOne_26 rfl rfl ?_
  refine gf_RX12_169 hC dX12_saysOne_27 hk1 hb3 ?_
  refine z_iload hC (q := 0) dX12_saysOne_30 rfl ?_
  refine z_iconst hC (v := 2) k_iconst_2 dX12_saysOne_32 ?_
  refine z_iadd hC dX12_saysOne_33 ?_
  refine z_iload_n hC (q := 4) dX12_saysOne_34 rfl rfl ?_
  obtain ⟨hi9, h⟩ := h
  refine z_iastore hC hk4 hi9 dX12_saysOne_35 ?_
  refine z_genI (fun I10 eI10 => ?_)
  have h := h I10 eI10
  refine z_aload_n hC (q := 1) dX12_saysOne_36 rfl rfl ?_
  refine gf_RX12_169 hC dX12_saysOne_37 hk1 hb3 ?_
  refine z_iload hC (q := 0) dX12_saysOne_40 rfl ?_
  refine z_iconst hC (v := 3) k_iconst_3 dX12_saysOne_42 ?_
  refine z_iadd hC dX12_saysOne_43 ?_
  refine z_iload hC (q := 5) dX12_saysOne_44 rfl ?_
  obtain ⟨hi11, h⟩ := h
  refine z_iastore hC hk4 hi11 dX12_saysOne_46 ?_
  refine z_genI (fun I12 eI12 => ?_)
  have h := h I12 eI12
  refine z_aload_n hC (q := 1) dX12_saysOne_47 rfl rfl ?_
  refine z_dup hC rfl dX12_saysOne_48 ?_
  refine gf_RX12_478 hC dX12_saysOne_49 hk1 ?_
  refine z_iconst hC (v := 1) k_iconst_1 dX12_saysOne_52 ?_
  refine z_iadd hC dX12_saysOne_53 ?_
  refine pf_RX12_478 hC dX12_saysOne_54 hk1 ?_
  refine z_genI (fun I13 eI13 => ?_)
  have h := h I13 eI13
  refine z_aload_n hC (q := 1) dX12_saysOne_57 rfl rfl ?_
  refine gf_RX12_478 hC dX12_saysOne_58 hk1 ?_
  refine z_iconst hC (v := 1) k_iconst_1 dX12_saysOne_61 ?_
  refine z_isub hC dX12_saysOne_62 ?_
  exact z_iret hC dX12_saysOne_63 ⟨_, rfl, rfl, rfl, rfl, rfl, h⟩
def w_X12_readOf  (a0 : Nat) (a1 : Int32) (K : MK) (N : MK) (I : MI) (L : ML) (R : MR) (Q : Bool → MI → ML → Prop) : Prop := K a0 = 13 ∧ w_X12_readScopeName a0 K N I L R (fun r2 I3 L4 => (r2 = true → w_X12_saysOne a0 ((50 : Int32) + a1) (I3 a0 13) 0 0 K N I3 L4 R (fun r5 I6 => ∀ I7 : MI, I7 = mup I6 a0 57 r5 → Q true I7 L4)) ∧ (r2 = false → Q false I3 L4))
set_option maxHeartbeats 4000000 in
set_option maxRecDepth 100000 in
theorem c_X12_readOf  (l : Launch) (G : ZG) (a0 : Nat) (a1 : Int32) (K : MK) (N : MK) (I : MI) (L : ML) (R : MR) (Q : Bool → MI → ML → Prop) (h : w_X12_readOf a0 a1 K N I L R Q) : Met l yX12_readOf (.code yX12_readOf cX12_readOf 2 (some .boolean) :: z_tbl) rm_X12_readOf (z_Pc G [.ref a0, .int a1] K N I L R) (z_Qc G (qLz K N R Q)) 0 0 (z_A G) := by
  refine z_met (by decide) (Nat.le_of_ble_eq_true rfl) (fun X hX hRm hC0 hnm => ?_)
  subst hX
  have hC : ZOk X G RX12 cX12_readOf 2 (some .boolean) := hC0
  show Z X G 2 0 0 _ K N I L R 0 [(0, .ref a0), (1, .int a1)] []
  delta w_X12_readOf at h
  refine z_aload_n hC (q := 0) dX12_readOf_0 rfl rfl ?_
  obtain ⟨hk1, h⟩ := h
  refine cl_RX12_515 hC (c_X12_readScopeName _ G a0 K N I L R _ h) hk1 dX12_readOf_1 (by rw [hRm]; exact ⟨Nat.le_of_ble_eq_true rfl, Nat.le_of_ble_eq_true rfl⟩) ⟨Nat.zero_le _, Nat.zero_le _⟩ (Nat.le_of_ble_eq_true rfl) (z_kLz (I := I) (L := L) (fun r2 I3 L4 h => ?_))
  refine z_ifz_ne hC (tgt := 9) dX12_readOf_4 (by decide) (fun hc => ?_) (fun hc => ?_)
  · have h := h.1 hc
    refine z_aload_n hC (q := 0) dX12_readOf_9 rfl rfl ?_
    refine z_aload_n hC (q := 0) dX12_readOf_10 rfl rfl ?_
    refine z_bipush hC (v := 50) k_bipush_50 dX12_readOf_11 ?_
    refine z_iload_n hC (q := 1) dX12_readOf_13 rfl rfl ?_
    refine z_iadd hC dX12_readOf_14 ?_
    refine z_aload_n hC (q := 0) dX12_readOf_15 rfl rfl ?_
    refine gf_RX12_79 hC dX12_readOf_16 hk1 ?_
    refine z_iconst hC (v := 0) k_iconst_0 dX12_readOf_19 ?_
    refine z_iconst hC (v := 0) k_iconst_0 dX12_readOf_20 ?_
    refine cl_RX12_487 hC (c_X12_saysOne _ G a0 ((50 : Int32) + a1) (I3 a0 13) 0 0 K N I3 L4 R _ h) hk1 dX12_readOf_21 (by rw [hRm]; exact ⟨Nat.le_of_ble_eq_true rfl, Nat.le_of_ble_eq_true rfl⟩) ⟨Nat.zero_le _, Nat.zero_le _⟩ (Nat.le_of_ble_eq_true rfl) (z_kIi (I := I3) (fun r5 I6 h => ?_))
    refine pf_RX12_484 hC dX12_readOf_24 hk1 ?_
    refine z_genI (fun I7 eI7 => ?_)
    have h := h I7 eI7
    refine z_iconst hC (v := 1) k_iconst_1 dX12_readOf_27 ?_
    exact z_zret (b := true) hC dX12_readOf_28 rfl ⟨true, rfl, rfl, rfl, rfl, h⟩
  · have h := h.2 hc
    refine z_iconst hC (v := 0) k_iconst_0 dX12_readOf_7 ?_
    exact z_zret (b := false) hC dX12_readOf_8 rfl ⟨false, rfl, rfl, rfl, rfl, h⟩
def w_X12_readCompare_33  (x0 : Nat) (x1 : Int32)  (K : MK) (N : MK) (I : MI) (L : ML) (R : MR)  (Q : Bool → MI → ML → Prop) : Prop := K x0 = 13 ∧ ∀ v4 : Int32, v4 = (I x0 9) → w_X12_go x0 K N I L R (fun I5 L6 => w_X12_readNumber x0 0 999 K N I5 L6 R (fun r7 I8 L9 => (r7 = true → w_X12_saysOne x0 ((50 : Int32) + x1) 0 (I8 x0 13) v4 K N I8 L9 R (fun r10 I11 => ∀ I12 : MI, I12 = mup I11 x0 57 r10 → Q true I12 L9)) ∧ (r7 = false → Q false I8 L9)))
def w_X12_readCompare  (a0 : Nat) (a1 : Int32) (K : MK) (N : MK) (I : MI) (L : ML) (R : MR) (Q : Bool → MI → ML → Prop) : Prop := K a0 = 13 ∧ w_X12_isSign a0 60 K N I L R (fun r2 => (r2 = true → w_X12_readCompare_33 a0 a1 K N I L R Q) ∧ (r2 = false → w_X12_isSign a0 61 K N I L R (fun r13 => (r13 = true → w_X12_readCompare_33 a0 a1 K N I L R Q) ∧ (r13 = false → w_X12_isSign a0 62 K N I L R (fun r14 => (r14 = true → w_X12_readCompare_33 a0 a1 K N I L R Q) ∧ (r14 = false → w_X12_bad a0 1 K N I L R (fun r15 I16 => Q r15 I16 L)))))))
set_option maxHeartbeats 4000000 in
set_option maxRecDepth 100000 in
theorem z_X12_readCompare_33 {X : ZX} {G : ZG}  {x0 : Nat} {x1 : Int32}  {K : MK} {N : MK} {I : MI} {L : ML} {R : MR}  {Q : Bool → MI → ML → Prop} (hC : ZOk X G RX12 cX12_readCompare 3 (some .boolean)) (hRm : X.2.2.2.1 = rm_X12_readCompare) (h : w_X12_readCompare_33 x0 x1 K N I L R  Q) : Z X G 3 0 0 (z_T X G (qLz K N R Q) 0 0) K N I L R 33 [(0, .ref x0), (1, .int x1)] [] := by
  delta w_X12_readCompare_33 at h
  refine z_aload_n hC (q := 0) dX12_readCompare_33 rfl rfl ?_
  obtain ⟨hk3, h⟩ := h
  refine gf_RX12_40 hC dX12_readCompare_34 hk3 ?_
  refine z_topi (fun v4 ev4 => ?_)
  have h := h v4 ev4
  refine z_istore_n hC (lv1 := [(2, .int v4), (0, .ref x0), (1, .int x1)]) dX12_readCompare_37 rfl (by decide) rfl ?_
  refine z_aload_n hC (q := 1) dX12_readCompare_38 rfl rfl ?_
  refine cl_RX12_82 hC (c_X12_go _ G x0 K N I L R _ h) hk3 dX12_readCompare_39 (by rw [hRm]; exact ⟨Nat.le_of_ble_eq_true rfl, Nat.le_of_ble_eq_true rfl⟩) ⟨Nat.zero_le _, Nat.zero_le _⟩ (Nat.le_of_ble_eq_true rfl) (z_kLv (I := I) (L := L) (fun I5 L6 h => ?_))
  refine z_aload_n hC (q := 1) dX12_readCompare_42 rfl rfl ?_
  refine z_iconst hC (v := 0) k_iconst_0 dX12_readCompare_43 ?_
  refine z_sipush hC (v := 999) k_sipush_999 dX12_readCompare_44 ?_
  refine cl_RX12_187 hC (c_X12_readNumber _ G x0 0 999 K N I5 L6 R _ h) hk3 dX12_readCompare_47 (by rw [hRm]; exact ⟨Nat.le_of_ble_eq_true rfl, Nat.le_of_ble_eq_true rfl⟩) ⟨Nat.zero_le _, Nat.zero_le _⟩ (Nat.le_of_ble_eq_true rfl) (z_kLz (I := I5) (L := L6) (fun r7 I8 L9 h => ?_))
  refine z_ifz_ne hC (tgt := 55) dX12_readCompare_50 (by decide) (fun hc => ?_) (fun hc => ?_)
  · have h := h.1 hc
    refine z_aload_n hC (q := 1) dX12_readCompare_55 rfl rfl ?_
    refine z_aload_n hC (q := 1) dX12_readCompare_56 rfl rfl ?_
    refine z_bipush hC (v := 50) k_bipush_50 dX12_readCompare_57 ?_
    refine z_iload_n hC (q := 2) dX12_readCompare_59 rfl rfl ?_
    refine z_iadd hC dX12_readCompare_60 ?_
    refine z_iconst hC (v := 0) k_iconst_0 dX12_readCompare_61 ?_
    refine z_aload_n hC (q := 1) dX12_readCompare_62 rfl rfl ?_
    refine gf_RX12_79 hC dX12_readCompare_63 hk3 ?_
    refine z_iload_n hC (q := 0) dX12_readCompare_66 rfl rfl ?_
    refine cl_RX12_487 hC (c_X12_saysOne _ G x0 ((50 : Int32) + x1) 0 (I8 x0 13) v4 K N I8 L9 R _ h) hk3 dX12_readCompare_67 (by rw [hRm]; exact ⟨Nat.le_of_ble_eq_true rfl, Nat.le_of_ble_eq_true rfl⟩) ⟨Nat.zero_le _, Nat.zero_le _⟩ (Nat.le_of_ble_eq_true rfl) (z_kIi (I := I8) (fun r10 I11 h => ?_))
    refine pf_RX12_484 hC dX12_readCompare_70 hk3 ?_
    refine z_genI (fun I12 eI12 => ?_)
    have h := h I12 eI12
    refine z_iconst hC (v := 1) k_iconst_1 dX12_readCompare_73 ?_
    exact z_zret (b := true) hC dX12_readCompare_74 rfl ⟨true, rfl, rfl, rfl, rfl, h⟩
  · have h := h.2 hc
    refine z_iconst hC (v := 0) k_iconst_0 dX12_readCompare_53 ?_
    exact z_zret (b := false) hC dX12_readCompare_54 rfl ⟨false, rfl, rfl, rfl, rfl, h⟩
set_option maxHeartbeats 4000000 in
set_option maxRecDepth 100000 in
theorem c_X12_readCompare  (l : Launch) (G : ZG) (a0 : Nat) (a1 : Int32) (K : MK) (N : MK) (I : MI) (L : ML) (R : MR) (Q : Bool → MI → ML → Prop) (h : w_X12_readCompare a0 a1 K N I L R Q) : Met l yX12_readCompare (.code yX12_readCompare cX12_readCompare 3 (some .boolean) :: z_tbl) rm_X12_readCompare (z_Pc G [.ref a0, .int a1] K N I L R) (z_Qc G (qLz K N R Q)) 0 0 (z_A G) := by
  refine z_met (by decide) (Nat.le_of_ble_eq_true rfl) (fun X hX hRm hC0 hnm => ?_)
  subst hX
  have hC : ZOk X G RX12 cX12_readCompare 3 (some .boolean) := hC0
  show Z X G 3 0 0 _ K N I L R 0 [(0, .ref a0), (1, .int a1)] []
  delta w_X12_readCompare at h
  refine z_aload_n hC (q := 0) dX12_readCompare_0 rfl rfl ?_
  refine z_bipush hC (v := 60) k_bipush_60 dX12_readCompare_1 ?_
  obtain ⟨hk1, h⟩ := h
  refine cl_RX12_86 hC (c_X12_isSign _ G a0 60 K N I L R _ h) hk1 dX12_readCompare_3 (by rw [hRm]; exact ⟨Nat.le_of_ble_eq_true rfl, Nat.le_of_ble_eq_true rfl⟩) ⟨Nat.zero_le _, Nat.zero_le _⟩ (Nat.le_of_ble_eq_true rfl) (z_kPz (fun r2 h => ?_))
  refine z_ifz_ne hC (tgt := 33) dX12_readCompare_6 (by decide) (fun hc => ?_) (fun hc => ?_)
  · have h := h.1 hc
    exact z_sub [(0, .ref a0), (1, .int a1)] [0, 1] rfl (z_X12_readCompare_33 hC hRm h)
  · have h := h.2 hc
    refine z_aload_n hC (q := 0) dX12_readCompare_9 rfl rfl ?_
    refine z_bipush hC (v := 61) k_bipush_61 dX12_readCompare_10 ?_
    refine cl_RX12_86 hC (c_X12_isSign _ G a0 61 K N I L R _ h) hk1 dX12_readCompare_12 (by rw [hRm]; exact ⟨Nat.le_of_ble_eq_true rfl, Nat.le_of_ble_eq_true rfl⟩) ⟨Nat.zero_le _, Nat.zero_le _⟩ (Nat.le_of_ble_eq_true rfl) (z_kPz (fun r13 h => ?_))
    refine z_ifz_ne hC (tgt := 33) dX12_readCompare_15 (by decide) (fun hc => ?_) (fun hc => ?_)
    · have h := h.1 hc
      exact z_sub [(0, .ref a0), (1, .int a1)] [0, 1] rfl (z_X12_readCompare_33 hC hRm h)
    · have h := h.2 hc
      refine z_aload_n hC (q := 0) dX12_readCompare_18 rfl rfl ?_
      refine z_bipush hC (v := 62) k_bipush_62 dX12_readCompare_19 ?_
      refine cl_RX12_86 hC (c_X12_isSign _ G a0 62 K N I L R _ h) hk1 dX12_readCompare_21 (by rw [hRm]; exact ⟨Nat.le_of_ble_eq_true rfl, Nat.le_of_ble_eq_true rfl⟩) ⟨Nat.zero_le _, Nat.zero_le _⟩ (Nat.le_of_ble_eq_true rfl) (z_kPz (fun r14 h => ?_))
      refine z_ifz_ne hC (tgt := 33) dX12_readCompare_24 (by decide) (fun hc => ?_) (fun hc => ?_)
      · have h := h.1 hc
        exact z_sub [(0, .ref a0), (1, .int a1)] [0, 1] rfl (z_X12_readCompare_33 hC hRm h)
      · have h := h.2 hc
        refine z_aload_n hC (q := 0) dX12_readCompare_27 rfl rfl ?_
        refine z_iconst hC (v := 1) k_iconst_1 dX12_readCompare_28 ?_
        refine cl_RX12_72 hC (c_X12_bad _ G a0 1 K N I L R _ h) hk1 dX12_readCompare_29 (by rw [hRm]; exact ⟨Nat.le_of_ble_eq_true rfl, Nat.le_of_ble_eq_true rfl⟩) ⟨Nat.zero_le _, Nat.zero_le _⟩ (Nat.le_of_ble_eq_true rfl) (z_kIz (I := I) (fun r15 I16 h => ?_))
        exact z_zret (b := r15) hC dX12_readCompare_32 rfl ⟨r15, rfl, rfl, rfl, rfl, h⟩
def w_X12_image_51  (x0 : Nat) (x1 : Int32) (x2 : Int32)  (K : MK) (N : MK) (I : MI) (L : ML) (R : MR)  (Q : Bool → MI → ML → Prop) : Prop := ∃ J : Nat → Nat → Int32 → Int32 → MI → ML → Prop, (∃ n, J n x0 x1 x2 I L) ∧ ∀ (n : Nat) (x0 : Nat) (x1 : Int32) (x2 : Int32) (I : MI) (L : ML), J n x0 x1 x2 I L → ((26 : Int32) ≤ x2 → K x0 = 13 ∧ ∃ b5 : Nat, R x0 23 = some b5 ∧ K b5 = 16 ∧ vp_in x1 (N b5) ∧ ∀ I8 : MI, I8 = mup I b5 (ix x1) (vp_nar .boolean 1) → Q true I8 L) ∧ (¬ (26 : Int32) ≤ x2 → K x0 = 13 ∧ ∃ b10 : Nat, R x0 22 = some b10 ∧ ∃ b11 : Nat, R x0 20 = some b11 ∧ K b11 = 15 ∧ vp_in x2 (N b11) ∧ K b10 = 15 ∧ vp_in (((26 : Int32) * x1) + x2) (N b10) ∧ ∀ L16 : ML, L16 = mup L b10 (ix (((26 : Int32) * x1) + x2)) (L b11 (ix x2)) → ∀ v17 : Int32, v17 = x2 + 1 → ∃ n1, n1 < n ∧ J n1 x0 x1 v17 I L16)
def w_X12_image_18  (x0 : Nat) (x1 : Int32) (x2 : Int32)  (K : MK) (N : MK) (I : MI) (L : ML) (R : MR)  (Q : Bool → MI → ML → Prop) : Prop := ∃ J : Nat → Nat → Int32 → Int32 → MI → ML → Prop, (∃ n, J n x0 x1 x2 I L) ∧ ∀ (n : Nat) (x0 : Nat) (x1 : Int32) (x2 : Int32) (I : MI) (L : ML), J n x0 x1 x2 I L → ((667 : Int32) ≤ x2 → w_X12_image_51 x0 x1 0 K N I L R Q) ∧ (¬ (667 : Int32) ≤ x2 → K x0 = 13 ∧ ∃ b19 : Nat, R x0 16 = some b19 ∧ ∃ b20 : Nat, R x0 14 = some b20 ∧ K b20 = 14 ∧ vp_in x2 (N b20) ∧ K b19 = 14 ∧ vp_in (((667 : Int32) * x1) + x2) (N b19) ∧ ∀ I25 : MI, I25 = mup I b19 (ix (((667 : Int32) * x1) + x2)) (I b20 (ix x2)) → ∀ v26 : Int32, v26 = x2 + 1 → ∃ n1, n1 < n ∧ J n1 x0 x1 v26 I25 L)
def w_X12_image  (a0 : Nat) (a1 : Int32) (K : MK) (N : MK) (I : MI) (L : ML) (R : MR) (Q : Bool → MI → ML → Prop) : Prop := K a0 = 13 ∧ ∀ I2 : MI, I2 = mup I a0 0 0 → w_X12_isIn a1 0 1 K N I2 L R (fun r3 => (r3 = true → w_X12_image_18 a0 a1 0 K N I2 L R Q) ∧ (r3 = false → Q false I2 L))
set_option maxHeartbeats 4000000 in
set_option maxRecDepth 100000 in
theorem z_X12_image_51 {X : ZX} {G : ZG}  {x0 : Nat} {x1 : Int32} {x2 : Int32}  {K : MK} {N : MK} {I : MI} {L : ML} {R : MR}  {Q : Bool → MI → ML → Prop} (hC : ZOk X G RX12 cX12_image 3 (some .boolean)) (hRm : X.2.2.2.1 = rm_X12_image) (h : w_X12_image_51 x0 x1 x2 K N I L R  Q) : Z X G 3 0 0 (z_T X G (qLz K N R Q) 0 0) K N I L R 51 [(0, .ref x0), (1, .int x1), (2, .int x2)] [] := by
  delta w_X12_image_51 at h
  obtain ⟨J, ⟨n, h0⟩, hs⟩ := h
  have key : ∀ (n : Nat) (x0 : Nat) (x1 : Int32) (x2 : Int32) (I : MI) (L : ML), J n x0 x1 x2 I L → Z X G 3 0 0 (z_T X G (qLz K N R Q) 0 0) K N I L R 51 [(0, .ref x0), (1, .int x1), (2, .int x2)] [] := by
    intro n
    induction n using Nat.strongRecOn with
    | _ n ih =>
      intro x0 x1 x2 I L hJ
      have hC51 : ∀ (y0 : Nat) (y1 : Int32) (y2 : Int32) (zI : MI) (zL : ML), (∃ n1, n1 < n ∧ J n1 y0 y1 y2 zI zL) → Z X G 3 0 0 (z_T X G (qLz K N R Q) 0 0) K N zI zL R 51 [(0, .ref y0), (1, .int y1), (2, .int y2)] [] := fun y0 y1 y2 zI zL ⟨n1, hn1, hj⟩ => ih n1 hn1 y0 y1 y2 zI zL hj
      have h := hs n x0 x1 x2 I L hJ
      refine z_iload_n hC (q := 2) dX12_image_51 rfl rfl ?_
      refine z_bipush hC (v := 26) k_bipush_26 dX12_image_52 ?_
      refine z_icmp_ge hC (tgt := 80) dX12_image_54 (by decide) (fun hc => ?_) (fun hc => ?_)
      · have h := h.1 hc
        refine z_aload_n hC (q := 0) dX12_image_80 rfl rfl ?_
        obtain ⟨hk4, h⟩ := h
        obtain ⟨b5, hb5, h⟩ := h
        refine gf_RX12_126 hC dX12_image_81 hk4 hb5 ?_
        refine z_iload_n hC (q := 1) dX12_image_84 rfl rfl ?_
        refine z_iconst hC (v := 1) k_iconst_1 dX12_image_85 ?_
        obtain ⟨hk6, h⟩ := h
        obtain ⟨hi7, h⟩ := h
        refine z_zastore hC hk6 hi7 dX12_image_86 ?_
        refine z_genI (fun I8 eI8 => ?_)
        have h := h I8 eI8
        refine z_iconst hC (v := 1) k_iconst_1 dX12_image_87 ?_
        exact z_zret (b := true) hC dX12_image_88 rfl ⟨true, rfl, rfl, rfl, rfl, h⟩
      · have h := h.2 hc
        refine z_aload_n hC (q := 0) dX12_image_57 rfl rfl ?_
        obtain ⟨hk9, h⟩ := h
        obtain ⟨b10, hb10, h⟩ := h
        refine gf_RX12_123 hC dX12_image_58 hk9 hb10 ?_
        refine z_bipush hC (v := 26) k_bipush_26 dX12_image_61 ?_
        refine z_iload_n hC (q := 1) dX12_image_63 rfl rfl ?_
        refine z_imul hC dX12_image_64 ?_
        refine z_iload_n hC (q := 2) dX12_image_65 rfl rfl ?_
        refine z_iadd hC dX12_image_66 ?_
        refine z_aload_n hC (q := 0) dX12_image_67 rfl rfl ?_
        obtain ⟨b11, hb11, h⟩ := h
        refine gf_RX12_116 hC dX12_image_68 hk9 hb11 ?_
        refine z_iload_n hC (q := 2) dX12_image_71 rfl rfl ?_
        obtain ⟨hk12, h⟩ := h
        obtain ⟨hi13, h⟩ := h
        refine z_laload hC hk12 hi13 dX12_image_72 ?_
        obtain ⟨hk14, h⟩ := h
        obtain ⟨hi15, h⟩ := h
        refine z_lastore hC hk14 hi15 dX12_image_73 ?_
        refine z_genL (fun L16 eL16 => ?_)
        have h := h L16 eL16
        obtain ⟨v17, ev17⟩ : ∃ y : Int32, y = x2 + 1 := ⟨_, rfl⟩
        have h := h v17 ev17
        refine z_iinc hC (q := 2) (v := v17) (lv1 := [(2, .int v17), (0, .ref x0), (1, .int x1)]) dX12_image_74 rfl (by rw [ev17, k_iinc_1]) (by decide) rfl ?_
        refine z_goto hC (tgt := 51) dX12_image_77 (by decide) ?_
        exact z_sub [(0, .ref x0), (1, .int x1), (2, .int v17)] [1, 2, 0] rfl (hC51 _ _ _ _ _ h)
  exact key n x0 x1 x2 I L h0
set_option maxHeartbeats 4000000 in
set_option maxRecDepth 100000 in
theorem z_X12_image_18 {X : ZX} {G : ZG}  {x0 : Nat} {x1 : Int32} {x2 : Int32}  {K : MK} {N : MK} {I : MI} {L : ML} {R : MR}  {Q : Bool → MI → ML → Prop} (hC : ZOk X G RX12 cX12_image 3 (some .boolean)) (hRm : X.2.2.2.1 = rm_X12_image) (h : w_X12_image_18 x0 x1 x2 K N I L R  Q) : Z X G 3 0 0 (z_T X G (qLz K N R Q) 0 0) K N I L R 18 [(0, .ref x0), (1, .int x1), (2, .int x2)] [] := by
  delta w_X12_image_18 at h
  obtain ⟨J, ⟨n, h0⟩, hs⟩ := h
  have key : ∀ (n : Nat) (x0 : Nat) (x1 : Int32) (x2 : Int32) (I : MI) (L : ML), J n x0 x1 x2 I L → Z X G 3 0 0 (z_T X G (qLz K N R Q) 0 0) K N I L R 18 [(0, .ref x0), (1, .int x1), (2, .int x2)] [] := by
    intro n
    induction n using Nat.strongRecOn with
    | _ n ih =>
      intro x0 x1 x2 I L hJ
      have hC18 : ∀ (y0 : Nat) (y1 : Int32) (y2 : Int32) (zI : MI) (zL : ML), (∃ n1, n1 < n ∧ J n1 y0 y1 y2 zI zL) → Z X G 3 0 0 (z_T X G (qLz K N R Q) 0 0) K N zI zL R 18 [(0, .ref y0), (1, .int y1), (2, .int y2)] [] := fun y0 y1 y2 zI zL ⟨n1, hn1, hj⟩ => ih n1 hn1 y0 y1 y2 zI zL hj
      have h := hs n x0 x1 x2 I L hJ
      refine z_iload_n hC (q := 2) dX12_image_18 rfl rfl ?_
      refine z_sipush hC (v := 667) k_sipush_667 dX12_image_19 ?_
      refine z_icmp_ge hC (tgt := 49) dX12_image_22 (by decide) (fun hc => ?_) (fun hc => ?_)
      · have h := h.1 hc
        refine z_iconst hC (v := 0) k_iconst_0 dX12_image_49 ?_
        refine z_istore_n hC (lv1 := [(2, .int 0), (0, .ref x0), (1, .int x1)]) dX12_image_50 rfl (by decide) rfl ?_
        exact z_sub [(0, .ref x0), (1, .int x1), (2, .int 0)] [1, 2, 0] rfl (z_X12_image_51 hC hRm h)
      · have h := h.2 hc
        refine z_aload_n hC (q := 0) dX12_image_25 rfl rfl ?_
        obtain ⟨hk18, h⟩ := h
        obtain ⟨b19, hb19, h⟩ := h
        refine gf_RX12_104 hC dX12_image_26 hk18 hb19 ?_
        refine z_sipush hC (v := 667) k_sipush_667 dX12_image_29 ?_
        refine z_iload_n hC (q := 1) dX12_image_32 rfl rfl ?_
        refine z_imul hC dX12_image_33 ?_
        refine z_iload_n hC (q := 2) dX12_image_34 rfl rfl ?_
        refine z_iadd hC dX12_image_35 ?_
        refine z_aload_n hC (q := 0) dX12_image_36 rfl rfl ?_
        obtain ⟨b20, hb20, h⟩ := h
        refine gf_RX12_98 hC dX12_image_37 hk18 hb20 ?_
        refine z_iload_n hC (q := 2) dX12_image_40 rfl rfl ?_
        obtain ⟨hk21, h⟩ := h
        obtain ⟨hi22, h⟩ := h
        refine z_iaload hC hk21 hi22 dX12_image_41 ?_
        obtain ⟨hk23, h⟩ := h
        obtain ⟨hi24, h⟩ := h
        refine z_iastore hC hk23 hi24 dX12_image_42 ?_
        refine z_genI (fun I25 eI25 => ?_)
        have h := h I25 eI25
        obtain ⟨v26, ev26⟩ : ∃ y : Int32, y = x2 + 1 := ⟨_, rfl⟩
        have h := h v26 ev26
        refine z_iinc hC (q := 2) (v := v26) (lv1 := [(2, .int v26), (0, .ref x0), (1, .int x1)]) dX12_image_43 rfl (by rw [ev26, k_iinc_1]) (by decide) rfl ?_
        refine z_goto hC (tgt := 18) dX12_image_46 (by decide) ?_
        exact z_sub [(0, .ref x0), (1, .int x1), (2, .int v26)] [1, 2, 0] rfl (hC18 _ _ _ _ _ h)
  exact key n x0 x1 x2 I L h0
set_option maxHeartbeats 4000000 in
set_option maxRecDepth 100000 in
theorem c_X12_image  (l : Launch) (G : ZG) (a0 : Nat) (a1 : Int32) (K : MK) (N : MK) (I : MI) (L : ML) (R : MR) (Q : Bool → MI → ML → Prop) (h : w_X12_image a0 a1 K N I L R Q) : Met l yX12_image (.code yX12_image cX12_image 3 (some .boolean) :: z_tbl) rm_X12_image (z_Pc G [.ref a0, .int a1] K N I L R) (z_Qc G (qLz K N R Q)) 0 0 (z_A G) := by
  refine z_met (by decide) (Nat.le_of_ble_eq_true rfl) (fun X hX hRm hC0 hnm => ?_)
  subst hX
  have hC : ZOk X G RX12 cX12_image 3 (some .boolean) := hC0
  show Z X G 3 0 0 _ K N I L R 0 [(0, .ref a0), (1, .int a1)] []
  delta w_X12_image at h
  refine z_aload_n hC (q := 0) dX12_image_0 rfl rfl ?_
  refine z_iconst hC (v := 0) k_iconst_0 dX12_image_1 ?_
  obtain ⟨hk1, h⟩ := h
  refine pf_RX12_1 hC dX12_image_2 hk1 ?_
  refine z_genI (fun I2 eI2 => ?_)
  have h := h I2 eI2
  refine z_iload_n hC (q := 1) dX12_image_5 rfl rfl ?_
  refine z_iconst hC (v := 0) k_iconst_0 dX12_image_6 ?_
  refine z_iconst hC (v := 1) k_iconst_1 dX12_image_7 ?_
  refine cl_RX12_75 hC (c_X12_isIn _ G a1 0 1 K N I2 L R _ h) dX12_image_8 (by rw [hRm]; exact ⟨Nat.le_of_ble_eq_true rfl, Nat.le_of_ble_eq_true rfl⟩) ⟨Nat.zero_le _, Nat.zero_le _⟩ (Nat.le_of_ble_eq_true rfl) (z_kPz (fun r3 h => ?_))
  refine z_ifz_ne hC (tgt := 16) dX12_image_11 (by decide) (fun hc => ?_) (fun hc => ?_)
  · have h := h.1 hc
    refine z_iconst hC (v := 0) k_iconst_0 dX12_image_16 ?_
    refine z_istore_n hC (lv1 := [(2, .int 0), (0, .ref a0), (1, .int a1)]) dX12_image_17 rfl (by decide) rfl ?_
    exact z_sub [(0, .ref a0), (1, .int a1), (2, .int 0)] [1, 2, 0] rfl (z_X12_image_18 hC hRm h)
  · have h := h.2 hc
    refine z_iconst hC (v := 0) k_iconst_0 dX12_image_14 ?_
    exact z_zret (b := false) hC dX12_image_15 rfl ⟨false, rfl, rfl, rfl, rfl, h⟩
def w_X12_restore_60  (x0 : Nat) (x1 : Int32) (x2 : Int32)  (K : MK) (N : MK) (I : MI) (L : ML) (R : MR)  (Q : Bool → MI → ML → Prop) : Prop := ∃ J : Nat → Nat → Int32 → Int32 → MI → ML → Prop, (∃ n, J n x0 x1 x2 I L) ∧ ∀ (n : Nat) (x0 : Nat) (x1 : Int32) (x2 : Int32) (I : MI) (L : ML), J n x0 x1 x2 I L → ((26 : Int32) ≤ x2 → K x0 = 13 ∧ ∀ I8 : MI, I8 = mup I x0 24 0 → Q true I8 L) ∧ (¬ (26 : Int32) ≤ x2 → K x0 = 13 ∧ ∃ b10 : Nat, R x0 20 = some b10 ∧ ∃ b11 : Nat, R x0 22 = some b11 ∧ K b11 = 15 ∧ vp_in (((26 : Int32) * x1) + x2) (N b11) ∧ K b10 = 15 ∧ vp_in x2 (N b10) ∧ ∀ L16 : ML, L16 = mup L b10 (ix x2) (L b11 (ix (((26 : Int32) * x1) + x2))) → ∀ v17 : Int32, v17 = x2 + 1 → ∃ n1, n1 < n ∧ J n1 x0 x1 v17 I L16)
def w_X12_restore_27  (x0 : Nat) (x1 : Int32) (x2 : Int32)  (K : MK) (N : MK) (I : MI) (L : ML) (R : MR)  (Q : Bool → MI → ML → Prop) : Prop := ∃ J : Nat → Nat → Int32 → Int32 → MI → ML → Prop, (∃ n, J n x0 x1 x2 I L) ∧ ∀ (n : Nat) (x0 : Nat) (x1 : Int32) (x2 : Int32) (I : MI) (L : ML), J n x0 x1 x2 I L → ((667 : Int32) ≤ x2 → w_X12_restore_60 x0 x1 0 K N I L R Q) ∧ (¬ (667 : Int32) ≤ x2 → K x0 = 13 ∧ ∃ b19 : Nat, R x0 14 = some b19 ∧ ∃ b20 : Nat, R x0 16 = some b20 ∧ K b20 = 14 ∧ vp_in (((667 : Int32) * x1) + x2) (N b20) ∧ K b19 = 14 ∧ vp_in x2 (N b19) ∧ ∀ I25 : MI, I25 = mup I b19 (ix x2) (I b20 (ix (((667 : Int32) * x1) + x2))) → ∀ v26 : Int32, v26 = x2 + 1 → ∃ n1, n1 < n ∧ J n1 x0 x1 v26 I25 L)
def w_X12_restore  (a0 : Nat) (a1 : Int32) (K : MK) (N : MK) (I : MI) (L : ML) (R : MR) (Q : Bool → MI → ML → Prop) : Prop := K a0 = 13 ∧ ∀ I2 : MI, I2 = mup I a0 0 0 → w_X12_isIn a1 0 1 K N I2 L R (fun r3 => (r3 = false → Q false I2 L) ∧ (r3 = true → ∃ b4 : Nat, R a0 23 = some b4 ∧ K b4 = 16 ∧ vp_in a1 (N b4) ∧ (¬ (I2 b4 (ix a1)) = 0 → w_X12_restore_27 a0 a1 0 K N I2 L R Q) ∧ ((I2 b4 (ix a1)) = 0 → Q false I2 L)))
set_option maxHeartbeats 4000000 in
set_option maxRecDepth 100000 in
theorem z_X12_restore_60 {X : ZX} {G : ZG}  {x0 : Nat} {x1 : Int32} {x2 : Int32}  {K : MK} {N : MK} {I : MI} {L : ML} {R : MR}  {Q : Bool → MI → ML → Prop} (hC : ZOk X G RX12 cX12_restore 3 (some .boolean)) (hRm : X.2.2.2.1 = rm_X12_restore) (h : w_X12_restore_60 x0 x1 x2 K N I L R  Q) : Z X G 3 0 0 (z_T X G (qLz K N R Q) 0 0) K N I L R 60 [(0, .ref x0), (1, .int x1), (2, .int x2)] [] := by
  delta w_X12_restore_60 at h
  obtain ⟨J, ⟨n, h0⟩, hs⟩ := h
  have key : ∀ (n : Nat) (x0 : Nat) (x1 : Int32) (x2 : Int32) (I : MI) (L : ML), J n x0 x1 x2 I L → Z X G 3 0 0 (z_T X G (qLz K N R Q) 0 0) K N I L R 60 [(0, .ref x0), (1, .int x1), (2, .int x2)] [] := by
    intro n
    induction n using Nat.strongRecOn with
    | _ n ih =>
      intro x0 x1 x2 I L hJ
      have hC60 : ∀ (y0 : Nat) (y1 : Int32) (y2 : Int32) (zI : MI) (zL : ML), (∃ n1, n1 < n ∧ J n1 y0 y1 y2 zI zL) → Z X G 3 0 0 (z_T X G (qLz K N R Q) 0 0) K N zI zL R 60 [(0, .ref y0), (1, .int y1), (2, .int y2)] [] := fun y0 y1 y2 zI zL ⟨n1, hn1, hj⟩ => ih n1 hn1 y0 y1 y2 zI zL hj
      have h := hs n x0 x1 x2 I L hJ
      refine z_iload_n hC (q := 2) dX12_restore_60 rfl rfl ?_
      refine z_bipush hC (v := 26) k_bipush_26 dX12_restore_61 ?_
      refine z_icmp_ge hC (tgt := 89) dX12_restore_63 (by decide) (fun hc => ?_) (fun hc => ?_)
      · have h := h.1 hc
        refine z_aload_n hC (q := 0) dX12_restore_89 rfl rfl ?_
        refine z_iconst hC (v := 0) k_iconst_0 dX12_restore_90 ?_
        obtain ⟨hk7, h⟩ := h
        refine pf_RX12_258 hC dX12_restore_91 hk7 ?_
        refine z_genI (fun I8 eI8 => ?_)
        have h := h I8 eI8
        refine z_iconst hC (v := 1) k_iconst_1 dX12_restore_94 ?_
        exact z_zret (b := true) hC dX12_restore_95 rfl ⟨true, rfl, rfl, rfl, rfl, h⟩
      · have h := h.2 hc
        refine z_aload_n hC (q := 0) dX12_restore_66 rfl rfl ?_
        obtain ⟨hk9, h⟩ := h
        obtain ⟨b10, hb10, h⟩ := h
        refine gf_RX12_116 hC dX12_restore_67 hk9 hb10 ?_
        refine z_iload_n hC (q := 2) dX12_restore_70 rfl rfl ?_
        refine z_aload_n hC (q := 0) dX12_restore_71 rfl rfl ?_
        obtain ⟨b11, hb11, h⟩ := h
        refine gf_RX12_123 hC dX12_restore_72 hk9 hb11 ?_
        refine z_bipush hC (v := 26) k_bipush_26 dX12_restore_75 ?_
        refine z_iload_n hC (q := 1) dX12_restore_77 rfl rfl ?_
        refine z_imul hC dX12_restore_78 ?_
        refine z_iload_n hC (q := 2) dX12_restore_79 rfl rfl ?_
        refine z_iadd hC dX12_restore_80 ?_
        obtain ⟨hk12, h⟩ := h
        obtain ⟨hi13, h⟩ := h
        refine z_laload hC hk12 hi13 dX12_restore_81 ?_
        obtain ⟨hk14, h⟩ := h
        obtain ⟨hi15, h⟩ := h
        refine z_lastore hC hk14 hi15 dX12_restore_82 ?_
        refine z_genL (fun L16 eL16 => ?_)
        have h := h L16 eL16
        obtain ⟨v17, ev17⟩ : ∃ y : Int32, y = x2 + 1 := ⟨_, rfl⟩
        have h := h v17 ev17
        refine z_iinc hC (q := 2) (v := v17) (lv1 := [(2, .int v17), (0, .ref x0), (1, .int x1)]) dX12_restore_83 rfl (by rw [ev17, k_iinc_1]) (by decide) rfl ?_
        refine z_goto hC (tgt := 60) dX12_restore_86 (by decide) ?_
        exact z_sub [(0, .ref x0), (1, .int x1), (2, .int v17)] [1, 2, 0] rfl (hC60 _ _ _ _ _ h)
  exact key n x0 x1 x2 I L h0
set_option maxHeartbeats 4000000 in
set_option maxRecDepth 100000 in
theorem z_X12_restore_27 {X : ZX} {G : ZG}  {x0 : Nat} {x1 : Int32} {x2 : Int32}  {K : MK} {N : MK} {I : MI} {L : ML} {R : MR}  {Q : Bool → MI → ML → Prop} (hC : ZOk X G RX12 cX12_restore 3 (some .boolean)) (hRm : X.2.2.2.1 = rm_X12_restore) (h : w_X12_restore_27 x0 x1 x2 K N I L R  Q) : Z X G 3 0 0 (z_T X G (qLz K N R Q) 0 0) K N I L R 27 [(0, .ref x0), (1, .int x1), (2, .int x2)] [] := by
  delta w_X12_restore_27 at h
  obtain ⟨J, ⟨n, h0⟩, hs⟩ := h
  have key : ∀ (n : Nat) (x0 : Nat) (x1 : Int32) (x2 : Int32) (I : MI) (L : ML), J n x0 x1 x2 I L → Z X G 3 0 0 (z_T X G (qLz K N R Q) 0 0) K N I L R 27 [(0, .ref x0), (1, .int x1), (2, .int x2)] [] := by
    intro n
    induction n using Nat.strongRecOn with
    | _ n ih =>
      intro x0 x1 x2 I L hJ
      have hC27 : ∀ (y0 : Nat) (y1 : Int32) (y2 : Int32) (zI : MI) (zL : ML), (∃ n1, n1 < n ∧ J n1 y0 y1 y2 zI zL) → Z X G 3 0 0 (z_T X G (qLz K N R Q) 0 0) K N zI zL R 27 [(0, .ref y0), (1, .int y1), (2, .int y2)] [] := fun y0 y1 y2 zI zL ⟨n1, hn1, hj⟩ => ih n1 hn1 y0 y1 y2 zI zL hj
      have h := hs n x0 x1 x2 I L hJ
      refine z_iload_n hC (q := 2) dX12_restore_27 rfl rfl ?_
      refine z_sipush hC (v := 667) k_sipush_667 dX12_restore_28 ?_
      refine z_icmp_ge hC (tgt := 58) dX12_restore_31 (by decide) (fun hc => ?_) (fun hc => ?_)
      · have h := h.1 hc
        refine z_iconst hC (v := 0) k_iconst_0 dX12_restore_58 ?_
        refine z_istore_n hC (lv1 := [(2, .int 0), (0, .ref x0), (1, .int x1)]) dX12_restore_59 rfl (by decide) rfl ?_
        exact z_sub [(0, .ref x0), (1, .int x1), (2, .int 0)] [1, 2, 0] rfl (z_X12_restore_60 hC hRm h)
      · have h := h.2 hc
        refine z_aload_n hC (q := 0) dX12_restore_34 rfl rfl ?_
        obtain ⟨hk18, h⟩ := h
        obtain ⟨b19, hb19, h⟩ := h
        refine gf_RX12_98 hC dX12_restore_35 hk18 hb19 ?_
        refine z_iload_n hC (q := 2) dX12_restore_38 rfl rfl ?_
        refine z_aload_n hC (q := 0) dX12_restore_39 rfl rfl ?_
        obtain ⟨b20, hb20, h⟩ := h
        refine gf_RX12_104 hC dX12_restore_40 hk18 hb20 ?_
        refine z_sipush hC (v := 667) k_sipush_667 dX12_restore_43 ?_
        refine z_iload_n hC (q := 1) dX12_restore_46 rfl rfl ?_
        refine z_imul hC dX12_restore_47 ?_
        refine z_iload_n hC (q := 2) dX12_restore_48 rfl rfl ?_
        refine z_iadd hC dX12_restore_49 ?_
        obtain ⟨hk21, h⟩ := h
        obtain ⟨hi22, h⟩ := h
        refine z_iaload hC hk21 hi22 dX12_restore_50 ?_
        obtain ⟨hk23, h⟩ := h
        obtain ⟨hi24, h⟩ := h
        refine z_iastore hC hk23 hi24 dX12_restore_51 ?_
        refine z_genI (fun I25 eI25 => ?_)
        have h := h I25 eI25
        obtain ⟨v26, ev26⟩ : ∃ y : Int32, y = x2 + 1 := ⟨_, rfl⟩
        have h := h v26 ev26
        refine z_iinc hC (q := 2) (v := v26) (lv1 := [(2, .int v26), (0, .ref x0), (1, .int x1)]) dX12_restore_52 rfl (by rw [ev26, k_iinc_1]) (by decide) rfl ?_
        refine z_goto hC (tgt := 27) dX12_restore_55 (by decide) ?_
        exact z_sub [(0, .ref x0), (1, .int x1), (2, .int v26)] [1, 2, 0] rfl (hC27 _ _ _ _ _ h)
  exact key n x0 x1 x2 I L h0
set_option maxHeartbeats 4000000 in
set_option maxRecDepth 100000 in
theorem c_X12_restore  (l : Launch) (G : ZG) (a0 : Nat) (a1 : Int32) (K : MK) (N : MK) (I : MI) (L : ML) (R : MR) (Q : Bool → MI → ML → Prop) (h : w_X12_restore a0 a1 K N I L R Q) : Met l yX12_restore (.code yX12_restore cX12_restore 3 (some .boolean) :: z_tbl) rm_X12_restore (z_Pc G [.ref a0, .int a1] K N I L R) (z_Qc G (qLz K N R Q)) 0 0 (z_A G) := by
  refine z_met (by decide) (Nat.le_of_ble_eq_true rfl) (fun X hX hRm hC0 hnm => ?_)
  subst hX
  have hC : ZOk X G RX12 cX12_restore 3 (some .boolean) := hC0
  show Z X G 3 0 0 _ K N I L R 0 [(0, .ref a0), (1, .int a1)] []
  delta w_X12_restore at h
  refine z_aload_n hC (q := 0) dX12_restore_0 rfl rfl ?_
  refine z_iconst hC (v := 0) k_iconst_0 dX12_restore_1 ?_
  obtain ⟨hk1, h⟩ := h
  refine pf_RX12_1 hC dX12_restore_2 hk1 ?_
  refine z_genI (fun I2 eI2 => ?_)
  have h := h I2 eI2
  refine z_iload_n hC (q := 1) dX12_restore_5 rfl rfl ?_
  refine z_iconst hC (v := 0) k_iconst_0 dX12_restore_6 ?_
  refine z_iconst hC (v := 1) k_iconst_1 dX12_restore_7 ?_
  refine cl_RX12_75 hC (c_X12_isIn _ G a1 0 1 K N I2 L R _ h) dX12_restore_8 (by rw [hRm]; exact ⟨Nat.le_of_ble_eq_true rfl, Nat.le_of_ble_eq_true rfl⟩) ⟨Nat.zero_le _, Nat.zero_le _⟩ (Nat.le_of_ble_eq_true rfl) (z_kPz (fun r3 h => ?_))
  refine z_ifz_eq hC (tgt := 23) dX12_restore_11 (by decide) (fun hc => ?_) (fun hc => ?_)
  · have h := h.1 hc
    refine z_iconst hC (v := 0) k_iconst_0 dX12_restore_23 ?_
    exact z_zret (b := false) hC dX12_restore_24 rfl ⟨false, rfl, rfl, rfl, rfl, h⟩
  · have h := h.2 hc
    refine z_aload_n hC (q := 0) dX12_restore_14 rfl rfl ?_
    obtain ⟨b4, hb4, h⟩ := h
    refine gf_RX12_126 hC dX12_restore_15 hk1 hb4 ?_
    refine z_iload_n hC (q := 1) dX12_restore_18 rfl rfl ?_
    obtain ⟨hk5, h⟩ := h
    obtain ⟨hi6, h⟩ := h
    refine z_zaload hC hk5 hi6 dX12_restore_19 ?_
    refine z_if_ne hC (tgt := 25) dX12_restore_20 (by decide) (fun hc => ?_) (fun hc => ?_)
    · have h := h.1 hc
      refine z_iconst hC (v := 0) k_iconst_0 dX12_restore_25 ?_
      refine z_istore_n hC (lv1 := [(2, .int 0), (0, .ref a0), (1, .int a1)]) dX12_restore_26 rfl (by decide) rfl ?_
      exact z_sub [(0, .ref a0), (1, .int a1), (2, .int 0)] [1, 2, 0] rfl (z_X12_restore_27 hC hRm h)
    · have h := h.2 hc
      refine z_iconst hC (v := 0) k_iconst_0 dX12_restore_23 ?_
      exact z_zret (b := false) hC dX12_restore_24 rfl ⟨false, rfl, rfl, rfl, rfl, h⟩
def w_X12_count  (a0 : Nat) (a1 : Int32) (K : MK) (N : MK) (I : MI) (L : ML) (R : MR) (Q : Int32 → MI → Prop) : Prop := K a0 = 13 ∧ ∀ I2 : MI, I2 = mup I a0 0 0 → (a1 = 0 → ∃ b3 : Nat, R a0 14 = some b3 ∧ K b3 = 14 ∧ vp_in 0 (N b3) ∧ Q (I2 b3 (ix 0)) I2) ∧ (¬ a1 = 0 → (a1 = 1 → ∃ b6 : Nat, R a0 14 = some b6 ∧ K b6 = 14 ∧ vp_in 1 (N b6) ∧ Q (I2 b6 (ix 1)) I2) ∧ (¬ a1 = 1 → (a1 = 2 → ∃ b9 : Nat, R a0 14 = some b9 ∧ K b9 = 14 ∧ vp_in 2 (N b9) ∧ Q (I2 b9 (ix 2)) I2) ∧ (¬ a1 = 2 → (a1 = 3 → ∃ b12 : Nat, R a0 14 = some b12 ∧ K b12 = 14 ∧ vp_in 3 (N b12) ∧ Q (I2 b12 (ix 3)) I2) ∧ (¬ a1 = 3 → (a1 = 4 → ∃ b15 : Nat, R a0 14 = some b15 ∧ K b15 = 14 ∧ vp_in 4 (N b15) ∧ Q (I2 b15 (ix 4)) I2) ∧ (¬ a1 = 4 → (a1 = 5 → ∃ b18 : Nat, R a0 14 = some b18 ∧ K b18 = 14 ∧ vp_in 5 (N b18) ∧ Q (I2 b18 (ix 5)) I2) ∧ (¬ a1 = 5 → (a1 = 6 → Q (I2 a0 2) I2) ∧ (¬ a1 = 6 → Q (-1) I2)))))))
set_option maxHeartbeats 4000000 in
set_option maxRecDepth 100000 in
theorem c_X12_count  (l : Launch) (G : ZG) (a0 : Nat) (a1 : Int32) (K : MK) (N : MK) (I : MI) (L : ML) (R : MR) (Q : Int32 → MI → Prop) (h : w_X12_count a0 a1 K N I L R Q) : Met l yX12_count (.code yX12_count cX12_count 2 (some .int) :: z_tbl) rm_X12_count (z_Pc G [.ref a0, .int a1] K N I L R) (z_Qc G (qIi K N L R Q)) 0 0 (z_A G) := by
  refine z_met (by decide) (Nat.le_of_ble_eq_true rfl) (fun X hX hRm hC0 hnm => ?_)
  subst hX
  have hC : ZOk X G RX12 cX12_count 2 (some .int) := hC0
  show Z X G 2 0 0 _ K N I L R 0 [(0, .ref a0), (1, .int a1)] []
  delta w_X12_count at h
  refine z_aload_n hC (q := 0) dX12_count_0 rfl rfl ?_
  refine z_iconst hC (v := 0) k_iconst_0 dX12_count_1 ?_
  obtain ⟨hk1, h⟩ := h
  refine pf_RX12_1 hC dX12_count_2 hk1 ?_
  refine z_genI (fun I2 eI2 => ?_)
  have h := h I2 eI2
  refine z_iload_n hC (q := 1) dX12_count_5 rfl rfl ?_
  by_cases hc0 : a1 = 0
  · have h := h.1 hc0
    refine z_tableIn hC (off := 42) (tgt := 48) 0 hc0 dX12_count_6 (by decide) (by decide) ?_
    refine z_aload_n hC (q := 0) dX12_count_48 rfl rfl ?_
    obtain ⟨b3, hb3, h⟩ := h
    refine gf_RX12_98 hC dX12_count_49 hk1 hb3 ?_
    refine z_iconst hC (v := 0) k_iconst_0 dX12_count_52 ?_
    obtain ⟨hk4, h⟩ := h
    obtain ⟨hi5, h⟩ := h
    refine z_iaload hC hk4 hi5 dX12_count_53 ?_
    exact z_iret hC dX12_count_54 ⟨_, rfl, rfl, rfl, rfl, rfl, h⟩
  · have h := h.2 hc0
    by_cases hc1 : a1 = 1
    · have h := h.1 hc1
      refine z_tableIn hC (off := 49) (tgt := 55) 1 hc1 dX12_count_6 (by decide) (by decide) ?_
      refine z_aload_n hC (q := 0) dX12_count_55 rfl rfl ?_
      obtain ⟨b6, hb6, h⟩ := h
      refine gf_RX12_98 hC dX12_count_56 hk1 hb6 ?_
      refine z_iconst hC (v := 1) k_iconst_1 dX12_count_59 ?_
      obtain ⟨hk7, h⟩ := h
      obtain ⟨hi8, h⟩ := h
      refine z_iaload hC hk7 hi8 dX12_count_60 ?_
      exact z_iret hC dX12_count_61 ⟨_, rfl, rfl, rfl, rfl, rfl, h⟩
    · have h := h.2 hc1
      by_cases hc2 : a1 = 2
      · have h := h.1 hc2
        refine z_tableIn hC (off := 56) (tgt := 62) 2 hc2 dX12_count_6 (by decide) (by decide) ?_
        refine z_aload_n hC (q := 0) dX12_count_62 rfl rfl ?_
        obtain ⟨b9, hb9, h⟩ := h
        refine gf_RX12_98 hC dX12_count_63 hk1 hb9 ?_
        refine z_iconst hC (v := 2) k_iconst_2 dX12_count_66 ?_
        obtain ⟨hk10, h⟩ := h
        obtain ⟨hi11, h⟩ := h
        refine z_iaload hC hk10 hi11 dX12_count_67 ?_
        exact z_iret hC dX12_count_68 ⟨_, rfl, rfl, rfl, rfl, rfl, h⟩
      · have h := h.2 hc2
        by_cases hc3 : a1 = 3
        · have h := h.1 hc3
          refine z_tableIn hC (off := 63) (tgt := 69) 3 hc3 dX12_count_6 (by decide) (by decide) ?_
          refine z_aload_n hC (q := 0) dX12_count_69 rfl rfl ?_
          obtain ⟨b12, hb12, h⟩ := h
          refine gf_RX12_98 hC dX12_count_70 hk1 hb12 ?_
          refine z_iconst hC (v := 3) k_iconst_3 dX12_count_73 ?_
          obtain ⟨hk13, h⟩ := h
          obtain ⟨hi14, h⟩ := h
          refine z_iaload hC hk13 hi14 dX12_count_74 ?_
          exact z_iret hC dX12_count_75 ⟨_, rfl, rfl, rfl, rfl, rfl, h⟩
        · have h := h.2 hc3
          by_cases hc4 : a1 = 4
          · have h := h.1 hc4
            refine z_tableIn hC (off := 70) (tgt := 76) 4 hc4 dX12_count_6 (by decide) (by decide) ?_
            refine z_aload_n hC (q := 0) dX12_count_76 rfl rfl ?_
            obtain ⟨b15, hb15, h⟩ := h
            refine gf_RX12_98 hC dX12_count_77 hk1 hb15 ?_
            refine z_iconst hC (v := 4) k_iconst_4 dX12_count_80 ?_
            obtain ⟨hk16, h⟩ := h
            obtain ⟨hi17, h⟩ := h
            refine z_iaload hC hk16 hi17 dX12_count_81 ?_
            exact z_iret hC dX12_count_82 ⟨_, rfl, rfl, rfl, rfl, rfl, h⟩
          · have h := h.2 hc4
            by_cases hc5 : a1 = 5
            · have h := h.1 hc5
              refine z_tableIn hC (off := 77) (tgt := 83) 5 hc5 dX12_count_6 (by decide) (by decide) ?_
              refine z_aload_n hC (q := 0) dX12_count_83 rfl rfl ?_
              obtain ⟨b18, hb18, h⟩ := h
              refine gf_RX12_98 hC dX12_count_84 hk1 hb18 ?_
              refine z_iconst hC (v := 5) k_iconst_5 dX12_count_87 ?_
              obtain ⟨hk19, h⟩ := h
              obtain ⟨hi20, h⟩ := h
              refine z_iaload hC hk19 hi20 dX12_count_88 ?_
              exact z_iret hC dX12_count_89 ⟨_, rfl, rfl, rfl, rfl, rfl, h⟩
            · have h := h.2 hc5
              by_cases hc6 : a1 = 6
              · have h := h.1 hc6
                refine z_tableIn hC (off := 84) (tgt := 90) 6 hc6 dX12_count_6 (by decide) (by decide) ?_
                refine z_aload_n hC (q := 0) dX12_count_90 rfl rfl ?_
                refine gf_RX12_11 hC dX12_count_91 hk1 ?_
                exact z_iret hC dX12_count_94 ⟨_, rfl, rfl, rfl, rfl, rfl, h⟩
              · have h := h.2 hc6
                have hout : a1.toInt < 0 ∨ 6 < a1.toInt := by
                  have hc0 := z_nei hc0 (by decide : (0 : Int32).toInt = 0)
                  have hc1 := z_nei hc1 (by decide : (1 : Int32).toInt = 1)
                  have hc2 := z_nei hc2 (by decide : (2 : Int32).toInt = 2)
                  have hc3 := z_nei hc3 (by decide : (3 : Int32).toInt = 3)
                  have hc4 := z_nei hc4 (by decide : (4 : Int32).toInt = 4)
                  have hc5 := z_nei hc5 (by decide : (5 : Int32).toInt = 5)
                  have hc6 := z_nei hc6 (by decide : (6 : Int32).toInt = 6)
                  omega
                refine z_tableOut hC (tgt := 95) dX12_count_6 hout (by decide) ?_
                refine z_iconst hC (v := (-1)) k_iconst_m1 dX12_count_95 ?_
                exact z_iret hC dX12_count_96 ⟨_, rfl, rfl, rfl, rfl, rfl, h⟩
