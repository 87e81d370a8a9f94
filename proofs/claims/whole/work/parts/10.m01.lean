def w_X2_doOps_19  (x0 : Nat) (x1 : Nat) (x2 : Nat) (x3 : Int32) (x4 : Int32) (x5 : Int32)  (K : MK) (N : MK) (I : MI) (L : ML) (R : MR)  (Q : Bool → MI → Prop) : Prop := ∃ J : Nat → Nat → Nat → Nat → Int32 → Int32 → Int32 → MI → Prop, (∃ n, J n x0 x1 x2 x3 x4 x5 I) ∧ ∀ (n : Nat) (x0 : Nat) (x1 : Nat) (x2 : Nat) (x3 : Int32) (x4 : Int32) (x5 : Int32) (I : MI), J n x0 x1 x2 x3 x4 x5 I → (x4 ≤ x5 → Q true I) ∧ (¬ x4 ≤ x5 → K x1 = 10 ∧ ∃ b8 : Nat, R x1 5 = some b8 ∧ K b8 = 8 ∧ w_X7_at b8 x3 ((5 : Int32) + ((2 : Int32) * x5)) K N I L R (fun r10 => w_X7_at b8 x3 (((5 : Int32) + ((2 : Int32) * x5)) + 1) K N I L R (fun r11 => K x0 = 3 ∧ w_X2_doOp x0 x2 r10 r11 K N I L R (fun r13 I14 => (r13 = true → ∀ v15 : Int32, v15 = x5 + 1 → ∃ n1, n1 < n ∧ J n1 x0 x1 x2 x3 x4 v15 I14) ∧ (r13 = false → Q false I14)))))
def w_X2_doOps  (a0 : Nat) (a1 : Nat) (a2 : Nat) (a3 : Int32) (K : MK) (N : MK) (I : MI) (L : ML) (R : MR) (Q : Bool → MI → Prop) : Prop := K a0 = 3 ∧ ∀ I2 : MI, I2 = mup I a0 1 0 → K a1 = 10 ∧ ∃ b4 : Nat, R a1 5 = some b4 ∧ K b4 = 8 ∧ w_X7_at b4 a3 4 K N I2 L R (fun r6 => w_X2_doOps_19 a0 a1 a2 a3 r6 0 K N I2 L R Q)
set_option maxHeartbeats 4000000 in
set_option maxRecDepth 100000 in
theorem z_X2_doOps_19 {X : ZX} {G : ZG}  {x0 : Nat} {x1 : Nat} {x2 : Nat} {x3 : Int32} {x4 : Int32} {x5 : Int32}  {K : MK} {N : MK} {I : MI} {L : ML} {R : MR}  {Q : Bool → MI → Prop} (hC : ZOk X G RX2 cX2_doOps 8 (some .boolean)) (hRm : X.2.2.2.1 = rm_X2_doOps) (h : w_X2_doOps_19 x0 x1 x2 x3 x4 x5 K N I L R  Q) : Z X G 8 0 0 (z_T X G (qIz K N L R Q) 0 0) K N I L R 19 [(0, .ref x0), (1, .ref x1), (2, .ref x2), (3, .int x3), (4, .int x4), (5, .int x5)] [] := by
  delta w_X2_doOps_19 at h
  obtain ⟨J, ⟨n, h0⟩, hs⟩ := h
  have key : ∀ (n : Nat) (x0 : Nat) (x1 : Nat) (x2 : Nat) (x3 : Int32) (x4 : Int32) (x5 : Int32) (I : MI), J n x0 x1 x2 x3 x4 x5 I → Z X G 8 0 0 (z_T X G (qIz K N L R Q) 0 0) K N I L R 19 [(0, .ref x0), (1, .ref x1), (2, .ref x2), (3, .int x3), (4, .int x4), (5, .int x5)] [] := by
    intro n
    induction n using Nat.strongRecOn with
    | _ n ih =>
      intro x0 x1 x2 x3 x4 x5 I hJ
      have hC19 : ∀ (y0 : Nat) (y1 : Nat) (y2 : Nat) (y3 : Int32) (y4 : Int32) (y5 : Int32) (zI : MI), (∃ n1, n1 < n ∧ J n1 y0 y1 y2 y3 y4 y5 zI) → Z X G 8 0 0 (z_T X G (qIz K N L R Q) 0 0) K N zI L R 19 [(0, .ref y0), (1, .ref y1), (2, .ref y2), (3, .int y3), (4, .int y4), (5, .int y5)] [] := fun y0 y1 y2 y3 y4 y5 zI ⟨n1, hn1, hj⟩ => ih n1 hn1 y0 y1 y2 y3 y4 y5 zI hj
      have h := hs n x0 x1 x2 x3 x4 x5 I hJ
      refine z_iload hC (q := 5) dX2_doOps_19 rfl ?_
      refine z_iload hC (q := 4) dX2_doOps_21 rfl ?_
      refine z_icmp_ge hC (tgt := 80) dX2_doOps_23 (by decide) (fun hc => ?_) (fun hc => ?_)
      · have h := h.1 hc
        refine z_iconst hC (v := 1) k_iconst_1 dX2_doOps_80 ?_
        exact z_zret (b := true) hC dX2_doOps_81 rfl ⟨true, rfl, rfl, rfl, rfl, rfl, h⟩
      · have h := h.2 hc
        refine z_aload_n hC (q := 1) dX2_doOps_26 rfl rfl ?_
        obtain ⟨hk7, h⟩ := h
        obtain ⟨b8, hb8, h⟩ := h
        refine gf_RX2_40 hC dX2_doOps_27 hk7 hb8 ?_
        refine z_iload_n hC (q := 3) dX2_doOps_30 rfl rfl ?_
        refine z_iconst hC (v := 5) k_iconst_5 dX2_doOps_31 ?_
        refine z_iconst hC (v := 2) k_iconst_2 dX2_doOps_32 ?_
        refine z_iload hC (q := 5) dX2_doOps_33 rfl ?_
        refine z_imul hC dX2_doOps_35 ?_
        refine z_iadd hC dX2_doOps_36 ?_
        obtain ⟨hk9, h⟩ := h
        refine cl_RX2_44 hC (c_X7_at _ G b8 x3 ((5 : Int32) + ((2 : Int32) * x5)) K N I L R _ h) hk9 dX2_doOps_37 (by rw [hRm]; exact ⟨Nat.le_of_ble_eq_true rfl, Nat.le_of_ble_eq_true rfl⟩) ⟨Nat.zero_le _, Nat.zero_le _⟩ (Nat.le_of_ble_eq_true rfl) (z_kPi (fun r10 h => ?_))
        refine z_istore hC (lv1 := [(6, .int r10), (0, .ref x0), (1, .ref x1), (2, .ref x2), (3, .int x3), (4, .int x4), (5, .int x5)]) dX2_doOps_40 (by decide) rfl ?_
        refine z_aload_n hC (q := 2) dX2_doOps_42 rfl rfl ?_
        refine gf_RX2_40 hC dX2_doOps_43 hk7 hb8 ?_
        refine z_iload_n hC (q := 4) dX2_doOps_46 rfl rfl ?_
        refine z_iconst hC (v := 5) k_iconst_5 dX2_doOps_47 ?_
        refine z_iconst hC (v := 2) k_iconst_2 dX2_doOps_48 ?_
        refine z_iload hC (q := 6) dX2_doOps_49 rfl ?_
        refine z_imul hC dX2_doOps_51 ?_
        refine z_iadd hC dX2_doOps_52 ?_
        refine z_iconst hC (v := 1) k_iconst_1 dX2_doOps_53 ?_
        refine z_iadd hC dX2_doOps_54 ?_
        refine cl_RX2_44 hC (c_X7_at _ G b8 x3 (((5 : Int32) + ((2 : Int32) * x5)) + 1) K N I L R _ h) hk9 dX2_doOps_55 (by rw [hRm]; exact ⟨Nat.le_of_ble_eq_true rfl, Nat.le_of_ble_eq_true rfl⟩) ⟨Nat.zero_le _, Nat.zero_le _⟩ (Nat.le_of_ble_eq_true rfl) (z_kPi (fun r11 h => ?_))
        refine z_istore hC (lv1 := [(7, .int r11), (6, .int r10), (0, .ref x0), (1, .ref x1), (2, .ref x2), (3, .int x3), (4, .int x4), (5, .int x5)]) dX2_doOps_58 (by decide) rfl ?_
        refine z_aload_n hC (q := 2) dX2_doOps_60 rfl rfl ?_
        refine z_aload_n hC (q := 4) dX2_doOps_61 rfl rfl ?_
        refine z_iload hC (q := 1) dX2_doOps_62 rfl ?_
        refine z_iload hC (q := 0) dX2_doOps_64 rfl ?_
        obtain ⟨hk12, h⟩ := h
        refine cl_RX2_72 hC (c_X2_doOp _ G x0 x2 r10 r11 K N I L R _ h) hk12 dX2_doOps_66 (by rw [hRm]; exact ⟨Nat.le_of_ble_eq_true rfl, Nat.le_of_ble_eq_true rfl⟩) ⟨Nat.zero_le _, Nat.zero_le _⟩ (Nat.le_of_ble_eq_true rfl) (z_kIz (I := I) (fun r13 I14 h => ?_))
        refine z_ifz_ne hC (tgt := 74) dX2_doOps_69 (by decide) (fun hc => ?_) (fun hc => ?_)
        · have h := h.1 hc
          obtain ⟨v15, ev15⟩ : ∃ y : Int32, y = x5 + 1 := ⟨_, rfl⟩
          have h := h v15 ev15
          refine z_iinc hC (q := 7) (v := v15) (lv1 := [(5, .int v15), (7, .int r11), (6, .int r10), (0, .ref x0), (1, .ref x1), (2, .ref x2), (3, .int x3), (4, .int x4)]) dX2_doOps_74 rfl (by rw [ev15, k_iinc_1]) (by decide) rfl ?_
          refine z_goto hC (tgt := 19) dX2_doOps_77 (by decide) ?_
          exact z_sub [(0, .ref x0), (1, .ref x1), (2, .ref x2), (3, .int x3), (4, .int x4), (5, .int v15)] [3, 4, 5, 6, 7, 0] rfl (hC19 _ _ _ _ _ _ _ h)
        · have h := h.2 hc
          refine z_iconst hC (v := 0) k_iconst_0 dX2_doOps_72 ?_
          exact z_zret (b := false) hC dX2_doOps_73 rfl ⟨false, rfl, rfl, rfl, rfl, rfl, h⟩
  exact key n x0 x1 x2 x3 x4 x5 I h0
set_option maxHeartbeats 4000000 in
set_option maxRecDepth 100000 in
theorem c_X2_doOps  (l : Launch) (G : ZG) (a0 : Nat) (a1 : Nat) (a2 : Nat) (a3 : Int32) (K : MK) (N : MK) (I : MI) (L : ML) (R : MR) (Q : Bool → MI → Prop) (h : w_X2_doOps a0 a1 a2 a3 K N I L R Q) : Met l yX2_doOps (.code yX2_doOps cX2_doOps 8 (some .boolean) :: z_tbl) rm_X2_doOps (z_Pc G [.ref a0, .ref a1, .ref a2, .int a3] K N I L R) (z_Qc G (qIz K N L R Q)) 0 0 (z_A G) := by
  refine z_met (by decide) (Nat.le_of_ble_eq_true rfl) (fun X hX hRm hC0 hnm => ?_)
  subst hX
  have hC : ZOk X G RX2 cX2_doOps 8 (some .boolean) := hC0
  show Z X G 8 0 0 _ K N I L R 0 [(0, .ref a0), (1, .ref a1), (2, .ref a2), (3, .int a3)] []
  delta w_X2_doOps at h
  refine z_aload_n hC (q := 0) dX2_doOps_0 rfl rfl ?_
  refine z_iconst hC (v := 0) k_iconst_0 dX2_doOps_1 ?_
  obtain ⟨hk1, h⟩ := h
  refine pf_RX2_17 hC dX2_doOps_2 hk1 ?_
  refine z_genI (fun I2 eI2 => ?_)
  have h := h I2 eI2
  refine z_aload_n hC (q := 1) dX2_doOps_5 rfl rfl ?_
  obtain ⟨hk3, h⟩ := h
  obtain ⟨b4, hb4, h⟩ := h
  refine gf_RX2_40 hC dX2_doOps_6 hk3 hb4 ?_
  refine z_iload_n hC (q := 3) dX2_doOps_9 rfl rfl ?_
  refine z_iconst hC (v := 4) k_iconst_4 dX2_doOps_10 ?_
  obtain ⟨hk5, h⟩ := h
  refine cl_RX2_44 hC (c_X7_at _ G b4 a3 4 K N I2 L R _ h) hk5 dX2_doOps_11 (by rw [hRm]; exact ⟨Nat.le_of_ble_eq_true rfl, Nat.le_of_ble_eq_true rfl⟩) ⟨Nat.zero_le _, Nat.zero_le _⟩ (Nat.le_of_ble_eq_true rfl) (z_kPi (fun r6 h => ?_))
  refine z_istore hC (lv1 := [(4, .int r6), (0, .ref a0), (1, .ref a1), (2, .ref a2), (3, .int a3)]) dX2_doOps_14 (by decide) rfl ?_
  refine z_iconst hC (v := 0) k_iconst_0 dX2_doOps_16 ?_
  refine z_istore hC (lv1 := [(5, .int 0), (4, .int r6), (0, .ref a0), (1, .ref a1), (2, .ref a2), (3, .int a3)]) dX2_doOps_17 (by decide) rfl ?_
  exact z_sub [(0, .ref a0), (1, .ref a1), (2, .ref a2), (3, .int a3), (4, .int r6), (5, .int 0)] [2, 3, 4, 5, 1, 0] rfl (z_X2_doOps_19 hC hRm h)
def w_X9_bitsOf  (a0 : Nat) (a1 : Int32) (a2 : Int32) (K : MK) (N : MK) (I : MI) (L : ML) (R : MR) (Q : Int32 → Prop) : Prop := K a0 = 10 ∧ ∃ b2 : Nat, R a0 4 = some b2 ∧ K b2 = 8 ∧ w_X7_at b2 a1 1 K N I L R (fun r4 => ∃ b5 : Nat, R a0 3 = some b5 ∧ K b5 = 8 ∧ w_X7_at b5 r4 1 K N I L R (fun r7 => w_X7_at b5 r4 0 K N I L R (fun r8 => ∀ v9 : Int32, v9 = ((ushr a2 r8) &&& (((1 : Int32) <<< (r7 &&& 31)) - 1)) → w_X7_at b5 r4 2 K N I L R (fun r10 => (¬ r10 = 1 → Q v9) ∧ (r10 = 1 → (¬ ((ushr v9 (r7 - 1)) &&& 1) = 1 → Q v9) ∧ (((ushr v9 (r7 - 1)) &&& 1) = 1 → Q (v9 - ((1 : Int32) <<< (r7 &&& 31)))))))))
set_option maxHeartbeats 4000000 in
set_option maxRecDepth 100000 in
theorem c_X9_bitsOf  (l : Launch) (G : ZG) (a0 : Nat) (a1 : Int32) (a2 : Int32) (K : MK) (N : MK) (I : MI) (L : ML) (R : MR) (Q : Int32 → Prop) (h : w_X9_bitsOf a0 a1 a2 K N I L R Q) : Met l yX9_bitsOf (.code yX9_bitsOf cX9_bitsOf 7 (some .int) :: z_tbl) rm_X9_bitsOf (z_Pc G [.ref a0, .int a1, .int a2] K N I L R) (z_Qc G (qPi K N I L R Q)) 0 0 (z_A G) := by
  refine z_met (by decide) (Nat.le_of_ble_eq_true rfl) (fun X hX hRm hC0 hnm => ?_)
  subst hX
  have hC : ZOk X G RX9 cX9_bitsOf 7 (some .int) := hC0
  show Z X G 7 0 0 _ K N I L R 0 [(0, .ref a0), (1, .int a1), (2, .int a2)] []
  delta w_X9_bitsOf at h
  refine z_aload_n hC (q := 0) dX9_bitsOf_0 rfl rfl ?_
  obtain ⟨hk1, h⟩ := h
  obtain ⟨b2, hb2, h⟩ := h
  refine gf_RX9_30 hC dX9_bitsOf_1 hk1 hb2 ?_
  refine z_iload_n hC (q := 1) dX9_bitsOf_4 rfl rfl ?_
  refine z_iconst hC (v := 1) k_iconst_1 dX9_bitsOf_5 ?_
  obtain ⟨hk3, h⟩ := h
  refine cl_RX9_53 hC (c_X7_at _ G b2 a1 1 K N I L R _ h) hk3 dX9_bitsOf_6 (by rw [hRm]; exact ⟨Nat.le_of_ble_eq_true rfl, Nat.le_of_ble_eq_true rfl⟩) ⟨Nat.zero_le _, Nat.zero_le _⟩ (Nat.le_of_ble_eq_true rfl) (z_kPi (fun r4 h => ?_))
  refine z_istore_n hC (lv1 := [(3, .int r4), (0, .ref a0), (1, .int a1), (2, .int a2)]) dX9_bitsOf_9 rfl (by decide) rfl ?_
  refine z_aload_n hC (q := 1) dX9_bitsOf_10 rfl rfl ?_
  obtain ⟨b5, hb5, h⟩ := h
  refine gf_RX9_27 hC dX9_bitsOf_11 hk1 hb5 ?_
  refine z_iload_n hC (q := 0) dX9_bitsOf_14 rfl rfl ?_
  refine z_iconst hC (v := 1) k_iconst_1 dX9_bitsOf_15 ?_
  obtain ⟨hk6, h⟩ := h
  refine cl_RX9_53 hC (c_X7_at _ G b5 r4 1 K N I L R _ h) hk6 dX9_bitsOf_16 (by rw [hRm]; exact ⟨Nat.le_of_ble_eq_true rfl, Nat.le_of_ble_eq_true rfl⟩) ⟨Nat.zero_le _, Nat.zero_le _⟩ (Nat.le_of_ble_eq_true rfl) (z_kPi (fun r7 h => ?_))
  refine z_istore hC (lv1 := [(4, .int r7), (3, .int r4), (0, .ref a0), (1, .int a1), (2, .int a2)]) dX9_bitsOf_19 (by decide) rfl ?_
  refine z_iload_n hC (q := 4) dX9_bitsOf_21 rfl rfl ?_
  refine z_aload_n hC (q := 2) dX9_bitsOf_22 rfl rfl ?_
  refine gf_RX9_27 hC dX9_bitsOf_23 hk1 hb5 ?_
  refine z_iload_n hC (q := 1) dX9_bitsOf_26 rfl rfl ?_
  refine z_iconst hC (v := 0) k_iconst_0 dX9_bitsOf_27 ?_
  refine cl_RX9_53 hC (c_X7_at _ G b5 r4 0 K N I L R _ h) hk6 dX9_bitsOf_28 (by rw [hRm]; exact ⟨Nat.le_of_ble_eq_true rfl, Nat.le_of_ble_eq_true rfl⟩) ⟨Nat.zero_le _, Nat.zero_le _⟩ (Nat.le_of_ble_eq_true rfl) (z_kPi (fun r8 h => ?_))
  refine z_iushr hC dX9_bitsOf_31 ?_
  refine z_iconst hC (v := 1) k_iconst_1 dX9_bitsOf_32 ?_
  refine z_iload hC (q := 0) dX9_bitsOf_33 rfl ?_
  refine z_ishl hC dX9_bitsOf_35 ?_
  refine z_iconst hC (v := 1) k_iconst_1 dX9_bitsOf_36 ?_
  refine z_isub hC dX9_bitsOf_37 ?_
  refine z_iand hC dX9_bitsOf_38 ?_
  refine z_topi (fun v9 ev9 => ?_)
  have h := h v9 ev9
  refine z_istore hC (lv1 := [(5, .int v9), (4, .int r7), (3, .int r4), (0, .ref a0), (1, .int a1), (2, .int a2)]) dX9_bitsOf_39 (by decide) rfl ?_
  refine z_aload_n hC (q := 3) dX9_bitsOf_41 rfl rfl ?_
  refine gf_RX9_27 hC dX9_bitsOf_42 hk1 hb5 ?_
  refine z_iload_n hC (q := 2) dX9_bitsOf_45 rfl rfl ?_
  refine z_iconst hC (v := 2) k_iconst_2 dX9_bitsOf_46 ?_
  refine cl_RX9_53 hC (c_X7_at _ G b5 r4 2 K N I L R _ h) hk6 dX9_bitsOf_47 (by rw [hRm]; exact ⟨Nat.le_of_ble_eq_true rfl, Nat.le_of_ble_eq_true rfl⟩) ⟨Nat.zero_le _, Nat.zero_le _⟩ (Nat.le_of_ble_eq_true rfl) (z_kPi (fun r10 h => ?_))
  refine z_iconst hC (v := 1) k_iconst_1 dX9_bitsOf_50 ?_
  refine z_icmp_ne hC (tgt := 71) dX9_bitsOf_51 (by decide) (fun hc => ?_) (fun hc => ?_)
  · have h := h.1 hc
    refine z_iconst hC (v := 0) k_iconst_0 dX9_bitsOf_71 ?_
    refine z_istore hC (lv1 := [(6, .int 0), (5, .int v9), (4, .int r7), (3, .int r4), (0, .ref a0), (1, .int a1), (2, .int a2)]) dX9_bitsOf_72 (by decide) rfl ?_
    refine z_iload hC (q := 0) dX9_bitsOf_74 rfl ?_
    refine z_if_eq hC (tgt := 89) dX9_bitsOf_76 (by decide) (fun _ => ?_) (fun hc => absurd hc (by decide))
    refine z_iload hC (q := 1) dX9_bitsOf_89 rfl ?_
    exact z_iret hC dX9_bitsOf_91 ⟨_, rfl, rfl, rfl, rfl, rfl, rfl, h⟩
  · have h := h.2 hc
    refine z_iload hC (q := 0) dX9_bitsOf_54 rfl ?_
    refine z_iload hC (q := 1) dX9_bitsOf_56 rfl ?_
    refine z_iconst hC (v := 1) k_iconst_1 dX9_bitsOf_58 ?_
    refine z_isub hC dX9_bitsOf_59 ?_
    refine z_iushr hC dX9_bitsOf_60 ?_
    refine z_iconst hC (v := 1) k_iconst_1 dX9_bitsOf_61 ?_
    refine z_iand hC dX9_bitsOf_62 ?_
    refine z_iconst hC (v := 1) k_iconst_1 dX9_bitsOf_63 ?_
    refine z_icmp_ne hC (tgt := 71) dX9_bitsOf_64 (by decide) (fun hc => ?_) (fun hc => ?_)
    · have h := h.1 hc
      refine z_iconst hC (v := 0) k_iconst_0 dX9_bitsOf_71 ?_
      refine z_istore hC (lv1 := [(6, .int 0), (5, .int v9), (4, .int r7), (3, .int r4), (0, .ref a0), (1, .int a1), (2, .int a2)]) dX9_bitsOf_72 (by decide) rfl ?_
      refine z_iload hC (q := 0) dX9_bitsOf_74 rfl ?_
      refine z_if_eq hC (tgt := 89) dX9_bitsOf_76 (by decide) (fun _ => ?_) (fun hc => absurd hc (by decide))
      refine z_iload hC (q := 1) dX9_bitsOf_89 rfl ?_
      exact z_iret hC dX9_bitsOf_91 ⟨_, rfl, rfl, rfl, rfl, rfl, rfl, h⟩
    · have h := h.2 hc
      refine z_iconst hC (v := 1) k_iconst_1 dX9_bitsOf_67 ?_
      refine z_goto hC (tgt := 72) dX9_bitsOf_68 (by decide) ?_
      refine z_istore hC (lv1 := [(6, .int 1), (5, .int v9), (4, .int r7), (3, .int r4), (0, .ref a0), (1, .int a1), (2, .int a2)]) dX9_bitsOf_72 (by decide) rfl ?_
      refine z_iload hC (q := 0) dX9_bitsOf_74 rfl ?_
      refine z_if_eq hC (tgt := 89) dX9_bitsOf_76 (by decide) (fun hc => absurd hc (by decide)) (fun _ => ?_)
      refine z_iload hC (q := 1) dX9_bitsOf_79 rfl ?_
      refine z_iconst hC (v := 1) k_iconst_1 dX9_bitsOf_81 ?_
      refine z_iload hC (q := 2) dX9_bitsOf_82 rfl ?_
      refine z_ishl hC dX9_bitsOf_84 ?_
      refine z_isub hC dX9_bitsOf_85 ?_
      refine z_goto hC (tgt := 91) dX9_bitsOf_86 (by decide) ?_
      exact z_iret hC dX9_bitsOf_91 ⟨_, rfl, rfl, rfl, rfl, rfl, rfl, h⟩
def w_X2_look_20  (x0 : Nat) (x1 : Nat) (x2 : Nat) (x3 : Int32) (s0 : Int32) (K : MK) (N : MK) (I : MI) (L : ML) (R : MR)  (Q : Int32 → MI → Prop) : Prop := (¬ s0 = (-1) → K x0 = 3 ∧ w_X2_doOps x0 x1 x2 s0 K N I L R (fun r4 I5 => (r4 = true → w_X2_pop x0 K N I5 L R (fun r6 I7 => K x1 = 10 ∧ ∃ b9 : Nat, R x1 5 = some b9 ∧ K b9 = 8 ∧ w_X7_at b9 s0 3 K N I7 L R (fun r11 => (¬ r11 = 1 → K x2 = 4 ∧ w_X3_memoryAt x2 r6 K N I7 L R (fun r13 => (¬ r13 = (-1) → w_X9_bitsOf x1 x3 r13 K N I7 L R (fun r14 => ∀ I15 : MI, I15 = mup I7 x0 2 r14 → Q 0 I15)) ∧ (r13 = (-1) → Q 3 I7))) ∧ (r11 = 1 → ∀ v16 : Int32, v16 = (r6 &&& 65535) → (¬ v16 = (-1) → w_X9_bitsOf x1 x3 v16 K N I7 L R (fun r17 => ∀ I18 : MI, I18 = mup I7 x0 2 r17 → Q 0 I18)) ∧ (v16 = (-1) → Q 3 I7))))) ∧ (r4 = false → Q 2 I5))) ∧ (s0 = (-1) → Q 1 I)
def w_X2_look  (a0 : Nat) (a1 : Nat) (a2 : Nat) (a3 : Int32) (a4 : Int32) (K : MK) (N : MK) (I : MI) (L : ML) (R : MR) (Q : Int32 → MI → Prop) : Prop := K a1 = 10 ∧ w_X9_hasAddress a1 a4 K N I L R (fun r2 => (r2 = false → w_X2_look_20 a0 a1 a2 a3 (-1) K N I L R Q) ∧ (r2 = true → w_X9_placeAt a1 a3 a4 K N I L R (fun r19 => w_X2_look_20 a0 a1 a2 a3 r19 K N I L R Q)))
set_option maxHeartbeats 4000000 in
set_option maxRecDepth 100000 in
theorem z_X2_look_20 {X : ZX} {G : ZG}  {x0 : Nat} {x1 : Nat} {x2 : Nat} {x3 : Int32} {s0 : Int32} {K : MK} {N : MK} {I : MI} {L : ML} {R : MR}  {Q : Int32 → MI → Prop} (hC : ZOk X G RX2 cX2_look 9 (some .int)) (hRm : X.2.2.2.1 = rm_X2_look) (h : w_X2_look_20 x0 x1 x2 x3 s0 K N I L R  Q) : Z X G 9 0 0 (z_T X G (qIi K N L R Q) 0 0) K N I L R 20 [(0, .ref x0), (1, .ref x1), (2, .ref x2), (3, .int x3)] [.int s0] := by
  delta w_X2_look_20 at h
  refine z_istore hC (lv1 := [(5, .int s0), (0, .ref x0), (1, .ref x1), (2, .ref x2), (3, .int x3)]) dX2_look_20 (by decide) rfl ?_
  refine z_iload hC (q := 0) dX2_look_22 rfl ?_
  refine z_iconst hC (v := (-1)) k_iconst_m1 dX2_look_24 ?_
  refine z_icmp_ne hC (tgt := 30) dX2_look_25 (by decide) (fun hc => ?_) (fun hc => ?_)
  · have h := h.1 hc
    refine z_aload_n hC (q := 1) dX2_look_30 rfl rfl ?_
    refine z_aload_n hC (q := 2) dX2_look_31 rfl rfl ?_
    refine z_aload_n hC (q := 3) dX2_look_32 rfl rfl ?_
    refine z_iload hC (q := 0) dX2_look_33 rfl ?_
    obtain ⟨hk3, h⟩ := h
    refine cl_RX2_32 hC (c_X2_doOps _ G x0 x1 x2 s0 K N I L R _ h) hk3 dX2_look_35 (by rw [hRm]; exact ⟨Nat.le_of_ble_eq_true rfl, Nat.le_of_ble_eq_true rfl⟩) ⟨Nat.zero_le _, Nat.zero_le _⟩ (Nat.le_of_ble_eq_true rfl) (z_kIz (I := I) (fun r4 I5 h => ?_))
    refine z_ifz_ne hC (tgt := 43) dX2_look_38 (by decide) (fun hc => ?_) (fun hc => ?_)
    · have h := h.1 hc
      refine z_aload_n hC (q := 1) dX2_look_43 rfl rfl ?_
      refine cl_RX2_36 hC (c_X2_pop _ G x0 K N I5 L R _ h) hk3 dX2_look_44 (by rw [hRm]; exact ⟨Nat.le_of_ble_eq_true rfl, Nat.le_of_ble_eq_true rfl⟩) ⟨Nat.zero_le _, Nat.zero_le _⟩ (Nat.le_of_ble_eq_true rfl) (z_kIi (I := I5) (fun r6 I7 h => ?_))
      refine z_istore hC (lv1 := [(6, .int r6), (5, .int s0), (0, .ref x0), (1, .ref x1), (2, .ref x2), (3, .int x3)]) dX2_look_47 (by decide) rfl ?_
      refine z_aload_n hC (q := 3) dX2_look_49 rfl rfl ?_
      obtain ⟨hk8, h⟩ := h
      obtain ⟨b9, hb9, h⟩ := h
      refine gf_RX2_40 hC dX2_look_50 hk8 hb9 ?_
      refine z_iload hC (q := 1) dX2_look_53 rfl ?_
      refine z_iconst hC (v := 3) k_iconst_3 dX2_look_55 ?_
      obtain ⟨hk10, h⟩ := h
      refine cl_RX2_44 hC (c_X7_at _ G b9 s0 3 K N I7 L R _ h) hk10 dX2_look_56 (by rw [hRm]; exact ⟨Nat.le_of_ble_eq_true rfl, Nat.le_of_ble_eq_true rfl⟩) ⟨Nat.zero_le _, Nat.zero_le _⟩ (Nat.le_of_ble_eq_true rfl) (z_kPi (fun r11 h => ?_))
      refine z_iconst hC (v := 1) k_iconst_1 dX2_look_59 ?_
      refine z_icmp_ne hC (tgt := 67) dX2_look_60 (by decide) (fun hc => ?_) (fun hc => ?_)
      · have h := h.1 hc
        refine z_iconst hC (v := 0) k_iconst_0 dX2_look_67 ?_
        refine z_istore hC (lv1 := [(7, .int 0), (6, .int r6), (5, .int s0), (0, .ref x0), (1, .ref x1), (2, .ref x2), (3, .int x3)]) dX2_look_68 (by decide) rfl ?_
        refine z_iload hC (q := 0) dX2_look_70 rfl ?_
        refine z_if_eq hC (tgt := 83) dX2_look_72 (by decide) (fun _ => ?_) (fun hc => absurd hc (by decide))
        refine z_aload_n hC (q := 5) dX2_look_83 rfl rfl ?_
        refine z_iload hC (q := 1) dX2_look_84 rfl ?_
        obtain ⟨hk12, h⟩ := h
        refine cl_RX2_50 hC (c_X3_memoryAt _ G x2 r6 K N I7 L R _ h) hk12 dX2_look_86 (by rw [hRm]; exact ⟨Nat.le_of_ble_eq_true rfl, Nat.le_of_ble_eq_true rfl⟩) ⟨Nat.zero_le _, Nat.zero_le _⟩ (Nat.le_of_ble_eq_true rfl) (z_kPi (fun r13 h => ?_))
        refine z_istore hC (lv1 := [(8, .int r13), (7, .int 0), (6, .int r6), (5, .int s0), (0, .ref x0), (1, .ref x1), (2, .ref x2), (3, .int x3)]) dX2_look_89 (by decide) rfl ?_
        refine z_iload hC (q := 0) dX2_look_91 rfl ?_
        refine z_iconst hC (v := (-1)) k_iconst_m1 dX2_look_93 ?_
        refine z_icmp_ne hC (tgt := 99) dX2_look_94 (by decide) (fun hc => ?_) (fun hc => ?_)
        · have h := h.1 hc
          refine z_aload_n hC (q := 4) dX2_look_99 rfl rfl ?_
          refine z_aload_n hC (q := 5) dX2_look_100 rfl rfl ?_
          refine z_iload_n hC (q := 7) dX2_look_101 rfl rfl ?_
          refine z_iload hC (q := 0) dX2_look_102 rfl ?_
          refine cl_RX2_56 hC (c_X9_bitsOf _ G x1 x3 r13 K N I7 L R _ h) hk8 dX2_look_104 (by rw [hRm]; exact ⟨Nat.le_of_ble_eq_true rfl, Nat.le_of_ble_eq_true rfl⟩) ⟨Nat.zero_le _, Nat.zero_le _⟩ (Nat.le_of_ble_eq_true rfl) (z_kPi (fun r14 h => ?_))
          refine pf_RX2_21 hC dX2_look_107 hk3 ?_
          refine z_genI (fun I15 eI15 => ?_)
          have h := h I15 eI15
          refine z_iconst hC (v := 0) k_iconst_0 dX2_look_110 ?_
          exact z_iret hC dX2_look_111 ⟨_, rfl, rfl, rfl, rfl, rfl, h⟩
        · have h := h.2 hc
          refine z_iconst hC (v := 3) k_iconst_3 dX2_look_97 ?_
          exact z_iret hC dX2_look_98 ⟨_, rfl, rfl, rfl, rfl, rfl, h⟩
      · have h := h.2 hc
        refine z_iconst hC (v := 1) k_iconst_1 dX2_look_63 ?_
        refine z_goto hC (tgt := 68) dX2_look_64 (by decide) ?_
        refine z_istore hC (lv1 := [(7, .int 1), (6, .int r6), (5, .int s0), (0, .ref x0), (1, .ref x1), (2, .ref x2), (3, .int x3)]) dX2_look_68 (by decide) rfl ?_
        refine z_iload hC (q := 0) dX2_look_70 rfl ?_
        refine z_if_eq hC (tgt := 83) dX2_look_72 (by decide) (fun hc => absurd hc (by decide)) (fun _ => ?_)
        refine z_iload hC (q := 1) dX2_look_75 rfl ?_
        refine z_ldc hC cst_RX2_49 dX2_look_77 ?_
        refine z_iand hC dX2_look_79 ?_
        refine z_goto hC (tgt := 89) dX2_look_80 (by decide) ?_
        refine z_topi (fun v16 ev16 => ?_)
        have h := h v16 ev16
        refine z_istore hC (lv1 := [(8, .int v16), (7, .int 1), (6, .int r6), (5, .int s0), (0, .ref x0), (1, .ref x1), (2, .ref x2), (3, .int x3)]) dX2_look_89 (by decide) rfl ?_
        refine z_iload hC (q := 0) dX2_look_91 rfl ?_
        refine z_iconst hC (v := (-1)) k_iconst_m1 dX2_look_93 ?_
        refine z_icmp_ne hC (tgt := 99) dX2_look_94 (by decide) (fun hc => ?_) (fun hc => ?_)
        · have h := h.1 hc
          refine z_aload_n hC (q := 4) dX2_look_99 rfl rfl ?_
          refine z_aload_n hC (q := 5) dX2_look_100 rfl rfl ?_
          refine z_iload_n hC (q := 7) dX2_look_101 rfl rfl ?_
          refine z_iload hC (q := 0) dX2_look_102 rfl ?_
          refine cl_RX2_56 hC (c_X9_bitsOf _ G x1 x3 v16 K N I7 L R _ h) hk8 dX2_look_104 (by rw [hRm]; exact ⟨Nat.le_of_ble_eq_true rfl, Nat.le_of_ble_eq_true rfl⟩) ⟨Nat.zero_le _, Nat.zero_le _⟩ (Nat.le_of_ble_eq_true rfl) (z_kPi (fun r17 h => ?_))
          refine pf_RX2_21 hC dX2_look_107 hk3 ?_
          refine z_genI (fun I18 eI18 => ?_)
          have h := h I18 eI18
          refine z_iconst hC (v := 0) k_iconst_0 dX2_look_110 ?_
          exact z_iret hC dX2_look_111 ⟨_, rfl, rfl, rfl, rfl, rfl, h⟩
        · have h := h.2 hc
          refine z_iconst hC (v := 3) k_iconst_3 dX2_look_97 ?_
          exact z_iret hC dX2_look_98 ⟨_, rfl, rfl, rfl, rfl, rfl, h⟩
    · have h := h.2 hc
      refine z_iconst hC (v := 2) k_iconst_2 dX2_look_41 ?_
      exact z_iret hC dX2_look_42 ⟨_, rfl, rfl, rfl, rfl, rfl, h⟩
  · have h := h.2 hc
    refine z_iconst hC (v := 1) k_iconst_1 dX2_look_28 ?_
    exact z_iret hC dX2_look_29 ⟨_, rfl, rfl, rfl, rfl, rfl, h⟩
set_option maxHeartbeats 4000000 in
set_option maxRecDepth 100000 in
theorem c_X2_look  (l : Launch) (G : ZG) (a0 : Nat) (a1 : Nat) (a2 : Nat) (a3 : Int32) (a4 : Int32) (K : MK) (N : MK) (I : MI) (L : ML) (R : MR) (Q : Int32 → MI → Prop) (h : w_X2_look a0 a1 a2 a3 a4 K N I L R Q) : Met l yX2_look (.code yX2_look cX2_look 9 (some .int) :: z_tbl) rm_X2_look (z_Pc G [.ref a0, .ref a1, .ref a2, .int a3, .int a4] K N I L R) (z_Qc G (qIi K N L R Q)) 0 0 (z_A G) := by
  refine z_met (by decide) (Nat.le_of_ble_eq_true rfl) (fun X hX hRm hC0 hnm => ?_)
  subst hX
  have hC : ZOk X G RX2 cX2_look 9 (some .int) := hC0
  show Z X G 9 0 0 _ K N I L R 0 [(0, .ref a0), (1, .ref a1), (2, .ref a2), (3, .int a3), (4, .int a4)] []
  delta w_X2_look at h
  refine z_aload_n hC (q := 1) dX2_look_0 rfl rfl ?_
  refine z_iload hC (q := 4) dX2_look_1 rfl ?_
  obtain ⟨hk1, h⟩ := h
  refine cl_RX2_24 hC (c_X9_hasAddress _ G a1 a4 K N I L R _ h) hk1 dX2_look_3 (by rw [hRm]; exact ⟨Nat.le_of_ble_eq_true rfl, Nat.le_of_ble_eq_true rfl⟩) ⟨Nat.zero_le _, Nat.zero_le _⟩ (Nat.le_of_ble_eq_true rfl) (z_kPz (fun r2 h => ?_))
  refine z_ifz_eq hC (tgt := 19) dX2_look_6 (by decide) (fun hc => ?_) (fun hc => ?_)
  · have h := h.1 hc
    refine z_iconst hC (v := (-1)) k_iconst_m1 dX2_look_19 ?_
    exact z_sub [(0, .ref a0), (1, .ref a1), (2, .ref a2), (3, .int a3)] [0, 1, 2, 3] rfl (z_X2_look_20 hC hRm h)
  · have h := h.2 hc
    refine z_aload_n hC (q := 1) dX2_look_9 rfl rfl ?_
    refine z_iload_n hC (q := 3) dX2_look_10 rfl rfl ?_
    refine z_iload hC (q := 4) dX2_look_11 rfl ?_
    refine cl_RX2_28 hC (c_X9_placeAt _ G a1 a3 a4 K N I L R _ h) hk1 dX2_look_13 (by rw [hRm]; exact ⟨Nat.le_of_ble_eq_true rfl, Nat.le_of_ble_eq_true rfl⟩) ⟨Nat.zero_le _, Nat.zero_le _⟩ (Nat.le_of_ble_eq_true rfl) (z_kPi (fun r19 h => ?_))
    refine z_goto hC (tgt := 20) dX2_look_16 (by decide) ?_
    exact z_sub [(0, .ref a0), (1, .ref a1), (2, .ref a2), (3, .int a3)] [0, 1, 2, 3] rfl (z_X2_look_20 hC hRm h)
def w_X2_varsThere_5  (x0 : Nat) (x1 : Nat) (x2 : Nat) (x3 : Int32) (x4 : Int32)  (K : MK) (N : MK) (I : MI) (L : ML) (R : MR)  (Q : Int32 → MI → Prop) : Prop := ∃ J : Nat → Nat → Nat → Nat → Int32 → Int32 → MI → Prop, (∃ n, J n x0 x1 x2 x3 x4 I) ∧ ∀ (n : Nat) (x0 : Nat) (x1 : Nat) (x2 : Nat) (x3 : Int32) (x4 : Int32) (I : MI), J n x0 x1 x2 x3 x4 I → K x1 = 10 ∧ ∃ b2 : Nat, R x1 4 = some b2 ∧ K b2 = 8 ∧ ((I b2 3) ≤ x4 → Q x3 I) ∧ (¬ (I b2 3) ≤ x4 → K x2 = 4 ∧ K x0 = 3 ∧ w_X2_look x0 x1 x2 x4 (I x2 4) K N I L R (fun r6 I7 => (¬ r6 = 0 → ∀ v8 : Int32, v8 = x4 + 1 → ∃ n1, n1 < n ∧ J n1 x0 x1 x2 x3 v8 I7) ∧ (r6 = 0 → ∀ v9 : Int32, v9 = (x3 ||| ((1 : Int32) <<< (x4 &&& 31))) → ∀ v10 : Int32, v10 = x4 + 1 → ∃ n1, n1 < n ∧ J n1 x0 x1 x2 v9 v10 I7)))
def w_X2_varsThere  (a0 : Nat) (a1 : Nat) (a2 : Nat) (K : MK) (N : MK) (I : MI) (L : ML) (R : MR) (Q : Int32 → MI → Prop) : Prop := w_X2_varsThere_5 a0 a1 a2 0 0 K N I L R Q
set_option maxHeartbeats 4000000 in
set_option maxRecDepth 100000 in
theorem z_X2_varsThere_5 {X : ZX} {G : ZG}  {x0 : Nat} {x1 : Nat} {x2 : Nat} {x3 : Int32} {x4 : Int32}  {K : MK} {N : MK} {I : MI} {L : ML} {R : MR}  {Q : Int32 → MI → Prop} (hC : ZOk X G RX2 cX2_varsThere 5 (some .int)) (hRm : X.2.2.2.1 = rm_X2_varsThere) (h : w_X2_varsThere_5 x0 x1 x2 x3 x4 K N I L R  Q) : Z X G 5 0 0 (z_T X G (qIi K N L R Q) 0 0) K N I L R 5 [(0, .ref x0), (1, .ref x1), (2, .ref x2), (3, .int x3), (4, .int x4)] [] := by
  delta w_X2_varsThere_5 at h
  obtain ⟨J, ⟨n, h0⟩, hs⟩ := h
  have key : ∀ (n : Nat) (x0 : Nat) (x1 : Nat) (x2 : Nat) (x3 : Int32) (x4 : Int32) (I : MI), J n x0 x1 x2 x3 x4 I → Z X G 5 0 0 (z_T X G (qIi K N L R Q) 0 0) K N I L R 5 [(0, .ref x0), (1, .ref x1), (2, .ref x2), (3, .int x3), (4, .int x4)] [] := by
    intro n
    induction n using Nat.strongRecOn with
    | _ n ih =>
      intro x0 x1 x2 x3 x4 I hJ
      have hC5 : ∀ (y0 : Nat) (y1 : Nat) (y2 : Nat) (y3 : Int32) (y4 : Int32) (zI : MI), (∃ n1, n1 < n ∧ J n1 y0 y1 y2 y3 y4 zI) → Z X G 5 0 0 (z_T X G (qIi K N L R Q) 0 0) K N zI L R 5 [(0, .ref y0), (1, .ref y1), (2, .ref y2), (3, .int y3), (4, .int y4)] [] := fun y0 y1 y2 y3 y4 zI ⟨n1, hn1, hj⟩ => ih n1 hn1 y0 y1 y2 y3 y4 zI hj
      have h := hs n x0 x1 x2 x3 x4 I hJ
      refine z_iload hC (q := 4) dX2_varsThere_5 rfl ?_
      refine z_aload_n hC (q := 1) dX2_varsThere_7 rfl rfl ?_
      obtain ⟨hk1, h⟩ := h
      obtain ⟨b2, hb2, h⟩ := h
      refine gf_RX2_59 hC dX2_varsThere_8 hk1 hb2 ?_
      obtain ⟨hk3, h⟩ := h
      refine gf_RX2_62 hC dX2_varsThere_11 hk3 ?_
      refine z_icmp_ge hC (tgt := 45) dX2_varsThere_14 (by decide) (fun hc => ?_) (fun hc => ?_)
      · have h := h.1 hc
        refine z_iload_n hC (q := 3) dX2_varsThere_45 rfl rfl ?_
        exact z_iret hC dX2_varsThere_46 ⟨_, rfl, rfl, rfl, rfl, rfl, h⟩
      · have h := h.2 hc
        refine z_aload_n hC (q := 0) dX2_varsThere_17 rfl rfl ?_
        refine z_aload_n hC (q := 1) dX2_varsThere_18 rfl rfl ?_
        refine z_aload_n hC (q := 2) dX2_varsThere_19 rfl rfl ?_
        refine z_iload hC (q := 4) dX2_varsThere_20 rfl ?_
        refine z_aload_n hC (q := 2) dX2_varsThere_22 rfl rfl ?_
        obtain ⟨hk4, h⟩ := h
        refine gf_RX2_65 hC dX2_varsThere_23 hk4 ?_
        obtain ⟨hk5, h⟩ := h
        refine cl_RX2_68 hC (c_X2_look _ G x0 x1 x2 x4 (I x2 4) K N I L R _ h) hk5 dX2_varsThere_26 (by rw [hRm]; exact ⟨Nat.le_of_ble_eq_true rfl, Nat.le_of_ble_eq_true rfl⟩) ⟨Nat.zero_le _, Nat.zero_le _⟩ (Nat.le_of_ble_eq_true rfl) (z_kIi (I := I) (fun r6 I7 h => ?_))
        refine z_if_ne hC (tgt := 39) dX2_varsThere_29 (by decide) (fun hc => ?_) (fun hc => ?_)
        · have h := h.1 hc
          obtain ⟨v8, ev8⟩ : ∃ y : Int32, y = x4 + 1 := ⟨_, rfl⟩
          have h := h v8 ev8
          refine z_iinc hC (q := 4) (v := v8) (lv1 := [(4, .int v8), (0, .ref x0), (1, .ref x1), (2, .ref x2), (3, .int x3)]) dX2_varsThere_39 rfl (by rw [ev8, k_iinc_1]) (by decide) rfl ?_
          refine z_goto hC (tgt := 5) dX2_varsThere_42 (by decide) ?_
          exact z_sub [(0, .ref x0), (1, .ref x1), (2, .ref x2), (3, .int x3), (4, .int v8)] [1, 2, 3, 4, 0] rfl (hC5 _ _ _ _ _ _ h)
        · have h := h.2 hc
          refine z_iload_n hC (q := 3) dX2_varsThere_32 rfl rfl ?_
          refine z_iconst hC (v := 1) k_iconst_1 dX2_varsThere_33 ?_
          refine z_iload hC (q := 4) dX2_varsThere_34 rfl ?_
          refine z_ishl hC dX2_varsThere_36 ?_
          refine z_ior hC dX2_varsThere_37 ?_
          refine z_topi (fun v9 ev9 => ?_)
          have h := h v9 ev9
          refine z_istore_n hC (lv1 := [(3, .int v9), (0, .ref x0), (1, .ref x1), (2, .ref x2), (4, .int x4)]) dX2_varsThere_38 rfl (by decide) rfl ?_
          obtain ⟨v10, ev10⟩ : ∃ y : Int32, y = x4 + 1 := ⟨_, rfl⟩
          have h := h v10 ev10
          refine z_iinc hC (q := 4) (v := v10) (lv1 := [(4, .int v10), (3, .int v9), (0, .ref x0), (1, .ref x1), (2, .ref x2)]) dX2_varsThere_39 rfl (by rw [ev10, k_iinc_1]) (by decide) rfl ?_
          refine z_goto hC (tgt := 5) dX2_varsThere_42 (by decide) ?_
          exact z_sub [(0, .ref x0), (1, .ref x1), (2, .ref x2), (3, .int v9), (4, .int v10)] [2, 3, 4, 1, 0] rfl (hC5 _ _ _ _ _ _ h)
  exact key n x0 x1 x2 x3 x4 I h0
set_option maxHeartbeats 4000000 in
set_option maxRecDepth 100000 in
theorem c_X2_varsThere  (l : Launch) (G : ZG) (a0 : Nat) (a1 : Nat) (a2 : Nat) (K : MK) (N : MK) (I : MI) (L : ML) (R : MR) (Q : Int32 → MI → Prop) (h : w_X2_varsThere a0 a1 a2 K N I L R Q) : Met l yX2_varsThere (.code yX2_varsThere cX2_varsThere 5 (some .int) :: z_tbl) rm_X2_varsThere (z_Pc G [.ref a0, .ref a1, .ref a2] K N I L R) (z_Qc G (qIi K N L R Q)) 0 0 (z_A G) := by
  refine z_met (by decide) (Nat.le_of_ble_eq_true rfl) (fun X hX hRm hC0 hnm => ?_)
  subst hX
  have hC : ZOk X G RX2 cX2_varsThere 5 (some .int) := hC0
  show Z X G 5 0 0 _ K N I L R 0 [(0, .ref a0), (1, .ref a1), (2, .ref a2)] []
  delta w_X2_varsThere at h
  refine z_iconst hC (v := 0) k_iconst_0 dX2_varsThere_0 ?_
  refine z_istore_n hC (lv1 := [(3, .int 0), (0, .ref a0), (1, .ref a1), (2, .ref a2)]) dX2_varsThere_1 rfl (by decide) rfl ?_
  refine z_iconst hC (v := 0) k_iconst_0 dX2_varsThere_2 ?_
  refine z_istore hC (lv1 := [(4, .int 0), (3, .int 0), (0, .ref a0), (1, .ref a1), (2, .ref a2)]) dX2_varsThere_3 (by decide) rfl ?_
  exact z_sub [(0, .ref a0), (1, .ref a1), (2, .ref a2), (3, .int 0), (4, .int 0)] [2, 3, 4, 1, 0] rfl (z_X2_varsThere_5 hC hRm h)
def w_X3_makeNew_23  (x0 : Nat) (x1 : Int32)  (K : MK) (N : MK) (I : MI) (L : ML) (R : MR)  (Q : MI → Prop) : Prop := ∃ J : Nat → Nat → Int32 → MI → Prop, (∃ n, J n x0 x1 I) ∧ ∀ (n : Nat) (x0 : Nat) (x1 : Int32) (I : MI), J n x0 x1 I → ((64 : Int32) ≤ x1 → K x0 = 4 ∧ ∀ I2 : MI, I2 = mup I x0 3 0 → ∀ I3 : MI, I3 = mup I2 x0 4 0 → ∀ I4 : MI, I4 = mup I3 x0 5 0 → Q I4) ∧ (¬ (64 : Int32) ≤ x1 → K x0 = 4 ∧ ∃ b6 : Nat, R x0 1 = some b6 ∧ K b6 = 14 ∧ vp_in x1 (N b6) ∧ ∀ I9 : MI, I9 = mup I b6 (ix x1) 0 → ∀ v10 : Int32, v10 = x1 + 1 → ∃ n1, n1 < n ∧ J n1 x0 v10 I9)
def w_X3_makeNew_2  (x0 : Nat) (x1 : Int32)  (K : MK) (N : MK) (I : MI) (L : ML) (R : MR)  (Q : MI → Prop) : Prop := ∃ J : Nat → Nat → Int32 → MI → Prop, (∃ n, J n x0 x1 I) ∧ ∀ (n : Nat) (x0 : Nat) (x1 : Int32) (I : MI), J n x0 x1 I → ((8 : Int32) ≤ x1 → w_X3_makeNew_23 x0 0 K N I L R Q) ∧ (¬ (8 : Int32) ≤ x1 → K x0 = 4 ∧ ∃ b12 : Nat, R x0 0 = some b12 ∧ K b12 = 14 ∧ vp_in x1 (N b12) ∧ ∀ I15 : MI, I15 = mup I b12 (ix x1) 0 → ∀ v16 : Int32, v16 = x1 + 1 → ∃ n1, n1 < n ∧ J n1 x0 v16 I15)
def w_X3_makeNew  (a0 : Nat) (K : MK) (N : MK) (I : MI) (L : ML) (R : MR) (Q : MI → Prop) : Prop := w_X3_makeNew_2 a0 0 K N I L R Q
set_option maxHeartbeats 4000000 in
set_option maxRecDepth 100000 in
theorem z_X3_makeNew_23 {X : ZX} {G : ZG}  {x0 : Nat} {x1 : Int32}  {K : MK} {N : MK} {I : MI} {L : ML} {R : MR}  {Q : MI → Prop} (hC : ZOk X G RX3 cX3_makeNew 2 none) (hRm : X.2.2.2.1 = rm_X3_makeNew) (h : w_X3_makeNew_23 x0 x1 K N I L R  Q) : Z X G 2 0 0 (z_T X G (qIv K N L R Q) 0 0) K N I L R 23 [(0, .ref x0), (1, .int x1)] [] := by
  delta w_X3_makeNew_23 at h
  obtain ⟨J, ⟨n, h0⟩, hs⟩ := h
  have key : ∀ (n : Nat) (x0 : Nat) (x1 : Int32) (I : MI), J n x0 x1 I → Z X G 2 0 0 (z_T X G (qIv K N L R Q) 0 0) K N I L R 23 [(0, .ref x0), (1, .int x1)] [] := by
    intro n
    induction n using Nat.strongRecOn with
    | _ n ih =>
      intro x0 x1 I hJ
      have hC23 : ∀ (y0 : Nat) (y1 : Int32) (zI : MI), (∃ n1, n1 < n ∧ J n1 y0 y1 zI) → Z X G 2 0 0 (z_T X G (qIv K N L R Q) 0 0) K N zI L R 23 [(0, .ref y0), (1, .int y1)] [] := fun y0 y1 zI ⟨n1, hn1, hj⟩ => ih n1 hn1 y0 y1 zI hj
      have h := hs n x0 x1 I hJ
      refine z_iload_n hC (q := 1) dX3_makeNew_23 rfl rfl ?_
      refine z_bipush hC (v := 64) k_bipush_64 dX3_makeNew_24 ?_
      refine z_icmp_ge hC (tgt := 42) dX3_makeNew_26 (by decide) (fun hc => ?_) (fun hc => ?_)
      · have h := h.1 hc
        refine z_aload_n hC (q := 0) dX3_makeNew_42 rfl rfl ?_
        refine z_iconst hC (v := 0) k_iconst_0 dX3_makeNew_43 ?_
        obtain ⟨hk1, h⟩ := h
        refine pf_RX3_21 hC dX3_makeNew_44 hk1 ?_
        refine z_genI (fun I2 eI2 => ?_)
        have h := h I2 eI2
        refine z_aload_n hC (q := 0) dX3_makeNew_47 rfl rfl ?_
        refine z_iconst hC (v := 0) k_iconst_0 dX3_makeNew_48 ?_
        refine pf_RX3_25 hC dX3_makeNew_49 hk1 ?_
        refine z_genI (fun I3 eI3 => ?_)
        have h := h I3 eI3
        refine z_aload_n hC (q := 0) dX3_makeNew_52 rfl rfl ?_
        refine z_iconst hC (v := 0) k_iconst_0 dX3_makeNew_53 ?_
        refine pf_RX3_28 hC dX3_makeNew_54 hk1 ?_
        refine z_genI (fun I4 eI4 => ?_)
        have h := h I4 eI4
        exact z_vret hC dX3_makeNew_57 ⟨rfl, rfl, rfl, rfl, rfl, h⟩
      · have h := h.2 hc
        refine z_aload_n hC (q := 0) dX3_makeNew_29 rfl rfl ?_
        obtain ⟨hk5, h⟩ := h
        obtain ⟨b6, hb6, h⟩ := h
        refine gf_RX3_15 hC dX3_makeNew_30 hk5 hb6 ?_
        refine z_iload_n hC (q := 1) dX3_makeNew_33 rfl rfl ?_
        refine z_iconst hC (v := 0) k_iconst_0 dX3_makeNew_34 ?_
        obtain ⟨hk7, h⟩ := h
        obtain ⟨hi8, h⟩ := h
        refine z_iastore hC hk7 hi8 dX3_makeNew_35 ?_
        refine z_genI (fun I9 eI9 => ?_)
        have h := h I9 eI9
        obtain ⟨v10, ev10⟩ : ∃ y : Int32, y = x1 + 1 := ⟨_, rfl⟩
        have h := h v10 ev10
        refine z_iinc hC (q := 1) (v := v10) (lv1 := [(1, .int v10), (0, .ref x0)]) dX3_makeNew_36 rfl (by rw [ev10, k_iinc_1]) (by decide) rfl ?_
        refine z_goto hC (tgt := 23) dX3_makeNew_39 (by decide) ?_
        exact z_sub [(0, .ref x0), (1, .int v10)] [1, 0] rfl (hC23 _ _ _ h)
  exact key n x0 x1 I h0
set_option maxHeartbeats 4000000 in
set_option maxRecDepth 100000 in
theorem z_X3_makeNew_2 {X : ZX} {G : ZG}  {x0 : Nat} {x1 : Int32}  {K : MK} {N : MK} {I : MI} {L : ML} {R : MR}  {Q : MI → Prop} (hC : ZOk X G RX3 cX3_makeNew 2 none) (hRm : X.2.2.2.1 = rm_X3_makeNew) (h : w_X3_makeNew_2 x0 x1 K N I L R  Q) : Z X G 2 0 0 (z_T X G (qIv K N L R Q) 0 0) K N I L R 2 [(0, .ref x0), (1, .int x1)] [] := by
  delta w_X3_makeNew_2 at h
  obtain ⟨J, ⟨n, h0⟩, hs⟩ := h
  have key : ∀ (n : Nat) (x0 : Nat) (x1 : Int32) (I : MI), J n x0 x1 I → Z X G 2 0 0 (z_T X G (qIv K N L R Q) 0 0) K N I L R 2 [(0, .ref x0), (1, .int x1)] [] := by
    intro n
    induction n using Nat.strongRecOn with
    | _ n ih =>
      intro x0 x1 I hJ
      have hC2 : ∀ (y0 : Nat) (y1 : Int32) (zI : MI), (∃ n1, n1 < n ∧ J n1 y0 y1 zI) → Z X G 2 0 0 (z_T X G (qIv K N L R Q) 0 0) K N zI L R 2 [(0, .ref y0), (1, .int y1)] [] := fun y0 y1 zI ⟨n1, hn1, hj⟩ => ih n1 hn1 y0 y1 zI hj
      have h := hs n x0 x1 I hJ
      refine z_iload_n hC (q := 1) dX3_makeNew_2 rfl rfl ?_
      refine z_bipush hC (v := 8) k_bipush_8 dX3_makeNew_3 ?_
      refine z_icmp_ge hC (tgt := 21) dX3_makeNew_5 (by decide) (fun hc => ?_) (fun hc => ?_)
      · have h := h.1 hc
        refine z_iconst hC (v := 0) k_iconst_0 dX3_makeNew_21 ?_
        refine z_istore_n hC (lv1 := [(1, .int 0), (0, .ref x0)]) dX3_makeNew_22 rfl (by decide) rfl ?_
        exact z_sub [(0, .ref x0), (1, .int 0)] [1, 0] rfl (z_X3_makeNew_23 hC hRm h)
      · have h := h.2 hc
        refine z_aload_n hC (q := 0) dX3_makeNew_8 rfl rfl ?_
        obtain ⟨hk11, h⟩ := h
        obtain ⟨b12, hb12, h⟩ := h
        refine gf_RX3_11 hC dX3_makeNew_9 hk11 hb12 ?_
        refine z_iload_n hC (q := 1) dX3_makeNew_12 rfl rfl ?_
        refine z_iconst hC (v := 0) k_iconst_0 dX3_makeNew_13 ?_
        obtain ⟨hk13, h⟩ := h
        obtain ⟨hi14, h⟩ := h
        refine z_iastore hC hk13 hi14 dX3_makeNew_14 ?_
        refine z_genI (fun I15 eI15 => ?_)
        have h := h I15 eI15
        obtain ⟨v16, ev16⟩ : ∃ y : Int32, y = x1 + 1 := ⟨_, rfl⟩
        have h := h v16 ev16
        refine z_iinc hC (q := 1) (v := v16) (lv1 := [(1, .int v16), (0, .ref x0)]) dX3_makeNew_15 rfl (by rw [ev16, k_iinc_1]) (by decide) rfl ?_
        refine z_goto hC (tgt := 2) dX3_makeNew_18 (by decide) ?_
        exact z_sub [(0, .ref x0), (1, .int v16)] [1, 0] rfl (hC2 _ _ _ h)
  exact key n x0 x1 I h0
set_option maxHeartbeats 4000000 in
set_option maxRecDepth 100000 in
theorem c_X3_makeNew  (l : Launch) (G : ZG) (a0 : Nat) (K : MK) (N : MK) (I : MI) (L : ML) (R : MR) (Q : MI → Prop) (h : w_X3_makeNew a0 K N I L R Q) : Met l yX3_makeNew (.code yX3_makeNew cX3_makeNew 2 none :: z_tbl) rm_X3_makeNew (z_Pc G [.ref a0] K N I L R) (z_Qc G (qIv K N L R Q)) 0 0 (z_A G) := by
  refine z_met (by decide) (Nat.le_of_ble_eq_true rfl) (fun X hX hRm hC0 hnm => ?_)
  subst hX
  have hC : ZOk X G RX3 cX3_makeNew 2 none := hC0
  show Z X G 2 0 0 _ K N I L R 0 [(0, .ref a0)] []
  delta w_X3_makeNew at h
  refine z_iconst hC (v := 0) k_iconst_0 dX3_makeNew_0 ?_
  refine z_istore_n hC (lv1 := [(1, .int 0), (0, .ref a0)]) dX3_makeNew_1 rfl (by decide) rfl ?_
  exact z_sub [(0, .ref a0), (1, .int 0)] [1, 0] rfl (z_X3_makeNew_2 hC hRm h)
def w_X3_copyFrom  (a0 : Nat) (a1 : Nat) (K : MK) (N : MK) (I : MI) (L : ML) (R : MR) (Q : MI → Prop) : Prop := K a1 = 4 ∧ ∃ b2 : Nat, R a1 0 = some b2 ∧ K a0 = 4 ∧ ∃ b4 : Nat, R a0 0 = some b4 ∧ K b2 = 14 ∧ K b4 = 14 ∧ mcp_ok 0 0 8 (N b2) (N b4) ∧ ∀ I8 : MI, I8 = mcp I b2 (ix 0) b4 (ix 0) (ix 8) → ∃ b9 : Nat, R a1 1 = some b9 ∧ ∃ b10 : Nat, R a0 1 = some b10 ∧ K b9 = 14 ∧ K b10 = 14 ∧ mcp_ok 0 0 64 (N b9) (N b10) ∧ ∀ I14 : MI, I14 = mcp I8 b9 (ix 0) b10 (ix 0) (ix 64) → ∃ b15 : Nat, R a1 2 = some b15 ∧ ∃ b16 : Nat, R a0 2 = some b16 ∧ K b15 = 14 ∧ K b16 = 14 ∧ mcp_ok 0 0 8 (N b15) (N b16) ∧ ∀ I20 : MI, I20 = mcp I14 b15 (ix 0) b16 (ix 0) (ix 8) → ∀ I21 : MI, I21 = mup I20 a0 3 (I20 a1 3) → ∀ I22 : MI, I22 = mup I21 a0 4 (I21 a1 4) → ∀ I23 : MI, I23 = mup I22 a0 5 (I22 a1 5) → Q I23
set_option maxHeartbeats 4000000 in
set_option maxRecDepth 100000 in
theorem c_X3_copyFrom  (l : Launch) (G : ZG) (a0 : Nat) (a1 : Nat) (K : MK) (N : MK) (I : MI) (L : ML) (R : MR) (Q : MI → Prop) (h : w_X3_copyFrom a0 a1 K N I L R Q) : Met l yX3_copyFrom (.code yX3_copyFrom cX3_copyFrom 2 none :: z_tbl) rm_X3_copyFrom (z_Pc G [.ref a0, .ref a1] K N I L R) (z_Qc G (qIv K N L R Q)) 0 0 (z_A G) := by
  refine z_met (by decide) (Nat.le_of_ble_eq_true rfl) (fun X hX hRm hC0 hnm => ?_)
  subst hX
  have hC : ZOk X G RX3 cX3_copyFrom 2 none := hC0
  show Z X G 2 0 0 _ K N I L R 0 [(0, .ref a0), (1, .ref a1)] []
  delta w_X3_copyFrom at h
  refine z_aload_n hC (q := 1) dX3_copyFrom_0 rfl rfl ?_
  obtain ⟨hk1, h⟩ := h
  obtain ⟨b2, hb2, h⟩ := h
  refine gf_RX3_11 hC dX3_copyFrom_1 hk1 hb2 ?_
  refine z_iconst hC (v := 0) k_iconst_0 dX3_copyFrom_4 ?_
  refine z_aload_n hC (q := 0) dX3_copyFrom_5 rfl rfl ?_
  obtain ⟨hk3, h⟩ := h
  obtain ⟨b4, hb4, h⟩ := h
  refine gf_RX3_11 hC dX3_copyFrom_6 hk3 hb4 ?_
  refine z_iconst hC (v := 0) k_iconst_0 dX3_copyFrom_9 ?_
  refine z_bipush hC (v := 8) k_bipush_8 dX3_copyFrom_10 ?_
  obtain ⟨hk5, h⟩ := h
  obtain ⟨hk6, h⟩ := h
  obtain ⟨hcp7, h⟩ := h
  refine z_copy14 hC ml_RX3_31 dX3_copyFrom_12 hk5 hk6 hcp7 (by rw [hRm]; exact ⟨Nat.le_of_ble_eq_true rfl, Nat.le_of_ble_eq_true rfl⟩) (Nat.le_of_ble_eq_true rfl) ?_
  refine z_genI (fun I8 eI8 => ?_)
  have h := h I8 eI8
  refine z_aload_n hC (q := 1) dX3_copyFrom_15 rfl rfl ?_
  obtain ⟨b9, hb9, h⟩ := h
  refine gf_RX3_15 hC dX3_copyFrom_16 hk1 hb9 ?_
  refine z_iconst hC (v := 0) k_iconst_0 dX3_copyFrom_19 ?_
  refine z_aload_n hC (q := 0) dX3_copyFrom_20 rfl rfl ?_
  obtain ⟨b10, hb10, h⟩ := h
  refine gf_RX3_15 hC dX3_copyFrom_21 hk3 hb10 ?_
  refine z_iconst hC (v := 0) k_iconst_0 dX3_copyFrom_24 ?_
  refine z_bipush hC (v := 64) k_bipush_64 dX3_copyFrom_25 ?_
  obtain ⟨hk11, h⟩ := h
  obtain ⟨hk12, h⟩ := h
  obtain ⟨hcp13, h⟩ := h
  refine z_copy14 hC ml_RX3_31 dX3_copyFrom_27 hk11 hk12 hcp13 (by rw [hRm]; exact ⟨Nat.le_of_ble_eq_true rfl, Nat.le_of_ble_eq_true rfl⟩) (Nat.le_of_ble_eq_true rfl) ?_
  refine z_genI (fun I14 eI14 => ?_)
  have h := h I14 eI14
  refine z_aload_n hC (q := 1) dX3_copyFrom_30 rfl rfl ?_
  obtain ⟨b15, hb15, h⟩ := h
  refine gf_RX3_18 hC dX3_copyFrom_31 hk1 hb15 ?_
  refine z_iconst hC (v := 0) k_iconst_0 dX3_copyFrom_34 ?_
  refine z_aload_n hC (q := 0) dX3_copyFrom_35 rfl rfl ?_
  obtain ⟨b16, hb16, h⟩ := h
  refine gf_RX3_18 hC dX3_copyFrom_36 hk3 hb16 ?_
  refine z_iconst hC (v := 0) k_iconst_0 dX3_copyFrom_39 ?_
  refine z_bipush hC (v := 8) k_bipush_8 dX3_copyFrom_40 ?_
  obtain ⟨hk17, h⟩ := h
  obtain ⟨hk18, h⟩ := h
  obtain ⟨hcp19, h⟩ := h
  refine z_copy14 hC ml_RX3_31 dX3_copyFrom_42 hk17 hk18 hcp19 (by rw [hRm]; exact ⟨Nat.le_of_ble_eq_true rfl, Nat.le_of_ble_eq_true rfl⟩) (Nat.le_of_ble_eq_true rfl) ?_
  refine z_genI (fun I20 eI20 => ?_)
  have h := h I20 eI20
  refine z_aload_n hC (q := 0) dX3_copyFrom_45 rfl rfl ?_
  refine z_aload_n hC (q := 1) dX3_copyFrom_46 rfl rfl ?_
  refine gf_RX3_21 hC dX3_copyFrom_47 hk1 ?_
  refine pf_RX3_21 hC dX3_copyFrom_50 hk3 ?_
  refine z_genI (fun I21 eI21 => ?_)
  have h := h I21 eI21
  refine z_aload_n hC (q := 0) dX3_copyFrom_53 rfl rfl ?_
  refine z_aload_n hC (q := 1) dX3_copyFrom_54 rfl rfl ?_
  refine gf_RX3_25 hC dX3_copyFrom_55 hk1 ?_
  refine pf_RX3_25 hC dX3_copyFrom_58 hk3 ?_
  refine z_genI (fun I22 eI22 => ?_)
  have h := h I22 eI22
  refine z_aload_n hC (q := 0) dX3_copyFrom_61 rfl rfl ?_
  refine z_aload_n hC (q := 1) dX3_copyFrom_62 rfl rfl ?_
  refine gf_RX3_28 hC dX3_copyFrom_63 hk1 ?_
  refine pf_RX3_28 hC dX3_copyFrom_66 hk3 ?_
  refine z_genI (fun I23 eI23 => ?_)
  have h := h I23 eI23
  exact z_vret hC dX3_copyFrom_69 ⟨rfl, rfl, rfl, rfl, rfl, h⟩
def w_X4_bytesUp  (a0 : Int32) (a1 : Int32) (K : MK) (N : MK) (I : MI) (L : ML) (R : MR) (Q : Int32 → Prop) : Prop := (a1 < a0 → (a1 < (a0 - 17) → Q 2) ∧ (¬ a1 < (a0 - 17) → Q 1)) ∧ (¬ a1 < a0 → Q 0)
set_option maxHeartbeats 4000000 in
set_option maxRecDepth 100000 in
theorem c_X4_bytesUp  (l : Launch) (G : ZG) (a0 : Int32) (a1 : Int32) (K : MK) (N : MK) (I : MI) (L : ML) (R : MR) (Q : Int32 → Prop) (h : w_X4_bytesUp a0 a1 K N I L R Q) : Met l yX4_bytesUp (.code yX4_bytesUp cX4_bytesUp 2 (some .int) :: z_tbl) rm_X4_bytesUp (z_Pc G [.int a0, .int a1] K N I L R) (z_Qc G (qPi K N I L R Q)) 0 0 (z_A G) := by
  refine z_met (by decide) (Nat.le_of_ble_eq_true rfl) (fun X hX hRm hC0 hnm => ?_)
  subst hX
  have hC : ZOk X G RX4 cX4_bytesUp 2 (some .int) := hC0
  show Z X G 2 0 0 _ K N I L R 0 [(0, .int a0), (1, .int a1)] []
  delta w_X4_bytesUp at h
  refine z_iload_n hC (q := 0) dX4_bytesUp_0 rfl rfl ?_
  refine z_iload_n hC (q := 1) dX4_bytesUp_1 rfl rfl ?_
  refine z_icmp_gt hC (tgt := 7) dX4_bytesUp_2 (by decide) (fun hc => ?_) (fun hc => ?_)
  · have h := h.1 hc
    refine z_iload_n hC (q := 0) dX4_bytesUp_7 rfl rfl ?_
    refine z_bipush hC (v := 17) k_bipush_17 dX4_bytesUp_8 ?_
    refine z_isub hC dX4_bytesUp_10 ?_
    refine z_iload_n hC (q := 1) dX4_bytesUp_11 rfl rfl ?_
    refine z_icmp_gt hC (tgt := 19) dX4_bytesUp_12 (by decide) (fun hc => ?_) (fun hc => ?_)
    · have h := h.1 hc
      refine z_iconst hC (v := 2) k_iconst_2 dX4_bytesUp_19 ?_
      exact z_iret hC dX4_bytesUp_20 ⟨_, rfl, rfl, rfl, rfl, rfl, rfl, h⟩
    · have h := h.2 hc
      refine z_iconst hC (v := 1) k_iconst_1 dX4_bytesUp_15 ?_
      refine z_goto hC (tgt := 20) dX4_bytesUp_16 (by decide) ?_
      exact z_iret hC dX4_bytesUp_20 ⟨_, rfl, rfl, rfl, rfl, rfl, rfl, h⟩
  · have h := h.2 hc
    refine z_iconst hC (v := 0) k_iconst_0 dX4_bytesUp_5 ?_
    exact z_iret hC dX4_bytesUp_6 ⟨_, rfl, rfl, rfl, rfl, rfl, rfl, h⟩
def w_X4_bytesFor  (a0 : Int32) (a1 : Int32) (K : MK) (N : MK) (I : MI) (L : ML) (R : MR) (Q : Int32 → Prop) : Prop := (a1 < (-4) → w_X4_bytesUp a0 20 K N I L R (fun r1 => Q ((4 : Int32) + r1))) ∧ (¬ a1 < (-4) → (a1 ≤ 7 → (a1 ≤ 1 → w_X4_bytesUp a0 20 K N I L R (fun r2 => Q ((1 : Int32) + r2))) ∧ (¬ a1 ≤ 1 → w_X4_bytesUp a0 19 K N I L R (fun r3 => Q ((1 : Int32) + r3)))) ∧ (¬ a1 ≤ 7 → w_X4_bytesUp a0 20 K N I L R (fun r4 => Q ((4 : Int32) + r4))))
set_option maxHeartbeats 4000000 in
set_option maxRecDepth 100000 in
theorem c_X4_bytesFor  (l : Launch) (G : ZG) (a0 : Int32) (a1 : Int32) (K : MK) (N : MK) (I : MI) (L : ML) (R : MR) (Q : Int32 → Prop) (h : w_X4_bytesFor a0 a1 K N I L R Q) : Met l yX4_bytesFor (.code yX4_bytesFor cX4_bytesFor 2 (some .int) :: z_tbl) rm_X4_bytesFor (z_Pc G [.int a0, .int a1] K N I L R) (z_Qc G (qPi K N I L R Q)) 0 0 (z_A G) := by
  refine z_met (by decide) (Nat.le_of_ble_eq_true rfl) (fun X hX hRm hC0 hnm => ?_)
  subst hX
  have hC : ZOk X G RX4 cX4_bytesFor 2 (some .int) := hC0
  show Z X G 2 0 0 _ K N I L R 0 [(0, .int a0), (1, .int a1)] []
  delta w_X4_bytesFor at h
  refine z_iload_n hC (q := 1) dX4_bytesFor_0 rfl rfl ?_
  refine z_bipush hC (v := (-4)) k_bipush_m4 dX4_bytesFor_1 ?_
  refine z_icmp_lt hC (tgt := 12) dX4_bytesFor_3 (by decide) (fun hc => ?_) (fun hc => ?_)
  · have h := h.1 hc
    refine z_iconst hC (v := 4) k_iconst_4 dX4_bytesFor_12 ?_
    refine z_iload_n hC (q := 0) dX4_bytesFor_13 rfl rfl ?_
    refine z_bipush hC (v := 20) k_bipush_20 dX4_bytesFor_14 ?_
    refine cl_RX4_70 hC (c_X4_bytesUp _ G a0 20 K N I L R _ h) dX4_bytesFor_16 (by rw [hRm]; exact ⟨Nat.le_of_ble_eq_true rfl, Nat.le_of_ble_eq_true rfl⟩) ⟨Nat.zero_le _, Nat.zero_le _⟩ (Nat.le_of_ble_eq_true rfl) (z_kPi (fun r1 h => ?_))
    refine z_iadd hC dX4_bytesFor_19 ?_
    exact z_iret hC dX4_bytesFor_20 ⟨_, rfl, rfl, rfl, rfl, rfl, rfl, h⟩
  · have h := h.2 hc
    refine z_iload_n hC (q := 1) dX4_bytesFor_6 rfl rfl ?_
    refine z_bipush hC (v := 7) k_bipush_7 dX4_bytesFor_7 ?_
    refine z_icmp_le hC (tgt := 21) dX4_bytesFor_9 (by decide) (fun hc => ?_) (fun hc => ?_)
    · have h := h.1 hc
      refine z_iconst hC (v := 1) k_iconst_1 dX4_bytesFor_21 ?_
      refine z_iload_n hC (q := 0) dX4_bytesFor_22 rfl rfl ?_
      refine z_iload_n hC (q := 1) dX4_bytesFor_23 rfl rfl ?_
      refine z_iconst hC (v := 1) k_iconst_1 dX4_bytesFor_24 ?_
      refine z_icmp_le hC (tgt := 33) dX4_bytesFor_25 (by decide) (fun hc => ?_) (fun hc => ?_)
      · have h := h.1 hc
        refine z_bipush hC (v := 20) k_bipush_20 dX4_bytesFor_33 ?_
        refine cl_RX4_70 hC (c_X4_bytesUp _ G a0 20 K N I L R _ h) dX4_bytesFor_35 (by rw [hRm]; exact ⟨Nat.le_of_ble_eq_true rfl, Nat.le_of_ble_eq_true rfl⟩) ⟨Nat.zero_le _, Nat.zero_le _⟩ (Nat.le_of_ble_eq_true rfl) (z_kPi (fun r2 h => ?_))
        refine z_iadd hC dX4_bytesFor_38 ?_
        exact z_iret hC dX4_bytesFor_39 ⟨_, rfl, rfl, rfl, rfl, rfl, rfl, h⟩
      · have h := h.2 hc
        refine z_bipush hC (v := 19) k_bipush_19 dX4_bytesFor_28 ?_
        refine z_goto hC (tgt := 35) dX4_bytesFor_30 (by decide) ?_
        refine cl_RX4_70 hC (c_X4_bytesUp _ G a0 19 K N I L R _ h) dX4_bytesFor_35 (by rw [hRm]; exact ⟨Nat.le_of_ble_eq_true rfl, Nat.le_of_ble_eq_true rfl⟩) ⟨Nat.zero_le _, Nat.zero_le _⟩ (Nat.le_of_ble_eq_true rfl) (z_kPi (fun r3 h => ?_))
        refine z_iadd hC dX4_bytesFor_38 ?_
        exact z_iret hC dX4_bytesFor_39 ⟨_, rfl, rfl, rfl, rfl, rfl, rfl, h⟩
    · have h := h.2 hc
      refine z_iconst hC (v := 4) k_iconst_4 dX4_bytesFor_12 ?_
      refine z_iload_n hC (q := 0) dX4_bytesFor_13 rfl rfl ?_
      refine z_bipush hC (v := 20) k_bipush_20 dX4_bytesFor_14 ?_
      refine cl_RX4_70 hC (c_X4_bytesUp _ G a0 20 K N I L R _ h) dX4_bytesFor_16 (by rw [hRm]; exact ⟨Nat.le_of_ble_eq_true rfl, Nat.le_of_ble_eq_true rfl⟩) ⟨Nat.zero_le _, Nat.zero_le _⟩ (Nat.le_of_ble_eq_true rfl) (z_kPi (fun r4 h => ?_))
      refine z_iadd hC dX4_bytesFor_19 ?_
      exact z_iret hC dX4_bytesFor_20 ⟨_, rfl, rfl, rfl, rfl, rfl, rfl, h⟩
def w_X4_putByte  (a0 : Nat) (a1 : Int32) (K : MK) (N : MK) (I : MI) (L : ML) (R : MR) (Q : MI → ML → Prop) : Prop := K a0 = 5 ∧ ∃ b2 : Nat, R a0 0 = some b2 ∧ K b2 = 8 ∧ w_X7_add b2 0 K N I L R (fun r4 I5 L6 => w_X7_put b2 r4 0 a1 K N I5 L6 R (fun I7 => Q I7 L6))
set_option maxHeartbeats 4000000 in
set_option maxRecDepth 100000 in
theorem c_X4_putByte  (l : Launch) (G : ZG) (a0 : Nat) (a1 : Int32) (K : MK) (N : MK) (I : MI) (L : ML) (R : MR) (Q : MI → ML → Prop) (h : w_X4_putByte a0 a1 K N I L R Q) : Met l yX4_putByte (.code yX4_putByte cX4_putByte 2 none :: z_tbl) rm_X4_putByte (z_Pc G [.ref a0, .int a1] K N I L R) (z_Qc G (qLv K N R Q)) 0 0 (z_A G) := by
  refine z_met (by decide) (Nat.le_of_ble_eq_true rfl) (fun X hX hRm hC0 hnm => ?_)
  subst hX
  have hC : ZOk X G RX4 cX4_putByte 2 none := hC0
  show Z X G 2 0 0 _ K N I L R 0 [(0, .ref a0), (1, .int a1)] []
  delta w_X4_putByte at h
  refine z_aload_n hC (q := 0) dX4_putByte_0 rfl rfl ?_
  obtain ⟨hk1, h⟩ := h
  obtain ⟨b2, hb2, h⟩ := h
  refine gf_RX4_16 hC dX4_putByte_1 hk1 hb2 ?_
  refine z_aload_n hC (q := 0) dX4_putByte_4 rfl rfl ?_
  refine gf_RX4_16 hC dX4_putByte_5 hk1 hb2 ?_
  refine z_lconst hC (v := 0) k_lconst_0 dX4_putByte_8 ?_
  obtain ⟨hk3, h⟩ := h
  refine cl_RX4_52 hC (c_X7_add _ G b2 0 K N I L R _ h) hk3 dX4_putByte_9 (by rw [hRm]; exact ⟨Nat.le_of_ble_eq_true rfl, Nat.le_of_ble_eq_true rfl⟩) ⟨Nat.zero_le _, Nat.zero_le _⟩ (Nat.le_of_ble_eq_true rfl) (z_kLi (I := I) (L := L) (fun r4 I5 L6 h => ?_))
  refine z_iconst hC (v := 0) k_iconst_0 dX4_putByte_12 ?_
  refine z_iload_n hC (q := 1) dX4_putByte_13 rfl rfl ?_
  refine cl_RX4_56 hC (c_X7_put _ G b2 r4 0 a1 K N I5 L6 R _ h) hk3 dX4_putByte_14 (by rw [hRm]; exact ⟨Nat.le_of_ble_eq_true rfl, Nat.le_of_ble_eq_true rfl⟩) ⟨Nat.zero_le _, Nat.zero_le _⟩ (Nat.le_of_ble_eq_true rfl) (z_kIv (I := I5) (fun I7 h => ?_))
  exact z_vret hC dX4_putByte_17 ⟨rfl, rfl, rfl, rfl, h⟩
def w_X4_leastUp_2  (x0 : Int32) (x1 : Int32) (x2 : Int32) (x3 : Int32)  (K : MK) (N : MK) (I : MI) (L : ML) (R : MR)  (Q : Int32 → Prop) : Prop := ∃ J : Nat → Int32 → Int32 → Int32 → Int32 → Prop, (∃ n, J n x0 x1 x2 x3) ∧ ∀ (n : Nat) (x0 : Int32) (x1 : Int32) (x2 : Int32) (x3 : Int32), J n x0 x1 x2 x3 → (x0 < x3 → Q (-1)) ∧ (¬ x0 < x3 → ((255 : Int32) < x3 → Q (-1)) ∧ (¬ (255 : Int32) < x3 → w_X4_bytesFor (x0 - x3) x1 K N I L R (fun r1 => (¬ ((2 : Int32) + r1) = x2 → ∀ v2 : Int32, v2 = x3 + 1 → ∃ n1, n1 < n ∧ J n1 x0 x1 x2 v2) ∧ (((2 : Int32) + r1) = x2 → Q x3))))
def w_X4_leastUp  (a0 : Int32) (a1 : Int32) (a2 : Int32) (K : MK) (N : MK) (I : MI) (L : ML) (R : MR) (Q : Int32 → Prop) : Prop := w_X4_leastUp_2 a0 a1 a2 0 K N I L R Q
set_option maxHeartbeats 4000000 in
set_option maxRecDepth 100000 in
theorem z_X4_leastUp_2 {X : ZX} {G : ZG}  {x0 : Int32} {x1 : Int32} {x2 : Int32} {x3 : Int32}  {K : MK} {N : MK} {I : MI} {L : ML} {R : MR}  {Q : Int32 → Prop} (hC : ZOk X G RX4 cX4_leastUp 4 (some .int)) (hRm : X.2.2.2.1 = rm_X4_leastUp) (h : w_X4_leastUp_2 x0 x1 x2 x3 K N I L R  Q) : Z X G 4 0 0 (z_T X G (qPi K N I L R Q) 0 0) K N I L R 2 [(0, .int x0), (1, .int x1), (2, .int x2), (3, .int x3)] [] := by
  delta w_X4_leastUp_2 at h
  obtain ⟨J, ⟨n, h0⟩, hs⟩ := h
  have key : ∀ (n : Nat) (x0 : Int32) (x1 : Int32) (x2 : Int32) (x3 : Int32), J n x0 x1 x2 x3 → Z X G 4 0 0 (z_T X G (qPi K N I L R Q) 0 0) K N I L R 2 [(0, .int x0), (1, .int x1), (2, .int x2), (3, .int x3)] [] := by
    intro n
    induction n using Nat.strongRecOn with
    | _ n ih =>
      intro x0 x1 x2 x3 hJ
      have hC2 : ∀ (y0 : Int32) (y1 : Int32) (y2 : Int32) (y3 : Int32) , (∃ n1, n1 < n ∧ J n1 y0 y1 y2 y3) → Z X G 4 0 0 (z_T X G (qPi K N I L R Q) 0 0) K N I L R 2 [(0, .int y0), (1, .int y1), (2, .int y2), (3, .int y3)] [] := fun y0 y1 y2 y3 ⟨n1, hn1, hj⟩ => ih n1 hn1 y0 y1 y2 y3 hj
      have h := hs n x0 x1 x2 x3 hJ
      refine z_iload_n hC (q := 3) dX4_leastUp_2 rfl rfl ?_
      refine z_iload_n hC (q := 0) dX4_leastUp_3 rfl rfl ?_
      refine z_icmp_gt hC (tgt := 35) dX4_leastUp_4 (by decide) (fun hc => ?_) (fun hc => ?_)
      · have h := h.1 hc
        refine z_iconst hC (v := (-1)) k_iconst_m1 dX4_leastUp_35 ?_
        exact z_iret hC dX4_leastUp_36 ⟨_, rfl, rfl, rfl, rfl, rfl, rfl, h⟩
      · have h := h.2 hc
        refine z_iload_n hC (q := 3) dX4_leastUp_7 rfl rfl ?_
        refine z_sipush hC (v := 255) k_sipush_255 dX4_leastUp_8 ?_
        refine z_icmp_gt hC (tgt := 35) dX4_leastUp_11 (by decide) (fun hc => ?_) (fun hc => ?_)
        · have h := h.1 hc
          refine z_iconst hC (v := (-1)) k_iconst_m1 dX4_leastUp_35 ?_
          exact z_iret hC dX4_leastUp_36 ⟨_, rfl, rfl, rfl, rfl, rfl, rfl, h⟩
        · have h := h.2 hc
          refine z_iconst hC (v := 2) k_iconst_2 dX4_leastUp_14 ?_
          refine z_iload_n hC (q := 0) dX4_leastUp_15 rfl rfl ?_
          refine z_iload_n hC (q := 3) dX4_leastUp_16 rfl rfl ?_
          refine z_isub hC dX4_leastUp_17 ?_
          refine z_iload_n hC (q := 1) dX4_leastUp_18 rfl rfl ?_
          refine cl_RX4_60 hC (c_X4_bytesFor _ G (x0 - x3) x1 K N I L R _ h) dX4_leastUp_19 (by rw [hRm]; exact ⟨Nat.le_of_ble_eq_true rfl, Nat.le_of_ble_eq_true rfl⟩) ⟨Nat.zero_le _, Nat.zero_le _⟩ (Nat.le_of_ble_eq_true rfl) (z_kPi (fun r1 h => ?_))
          refine z_iadd hC dX4_leastUp_22 ?_
          refine z_iload_n hC (q := 2) dX4_leastUp_23 rfl rfl ?_
          refine z_icmp_ne hC (tgt := 29) dX4_leastUp_24 (by decide) (fun hc => ?_) (fun hc => ?_)
          · have h := h.1 hc
            obtain ⟨v2, ev2⟩ : ∃ y : Int32, y = x3 + 1 := ⟨_, rfl⟩
            have h := h v2 ev2
            refine z_iinc hC (q := 3) (v := v2) (lv1 := [(3, .int v2), (0, .int x0), (1, .int x1), (2, .int x2)]) dX4_leastUp_29 rfl (by rw [ev2, k_iinc_1]) (by decide) rfl ?_
            refine z_goto hC (tgt := 2) dX4_leastUp_32 (by decide) ?_
            exact z_sub [(0, .int x0), (1, .int x1), (2, .int x2), (3, .int v2)] [1, 2, 3, 0] rfl (hC2 _ _ _ _ h)
          · have h := h.2 hc
            refine z_iload_n hC (q := 3) dX4_leastUp_27 rfl rfl ?_
            exact z_iret hC dX4_leastUp_28 ⟨_, rfl, rfl, rfl, rfl, rfl, rfl, h⟩
  exact key n x0 x1 x2 x3 h0
set_option maxHeartbeats 4000000 in
set_option maxRecDepth 100000 in
theorem c_X4_leastUp  (l : Launch) (G : ZG) (a0 : Int32) (a1 : Int32) (a2 : Int32) (K : MK) (N : MK) (I : MI) (L : ML) (R : MR) (Q : Int32 → Prop) (h : w_X4_leastUp a0 a1 a2 K N I L R Q) : Met l yX4_leastUp (.code yX4_leastUp cX4_leastUp 4 (some .int) :: z_tbl) rm_X4_leastUp (z_Pc G [.int a0, .int a1, .int a2] K N I L R) (z_Qc G (qPi K N I L R Q)) 0 0 (z_A G) := by
  refine z_met (by decide) (Nat.le_of_ble_eq_true rfl) (fun X hX hRm hC0 hnm => ?_)
  subst hX
  have hC : ZOk X G RX4 cX4_leastUp 4 (some .int) := hC0
  show Z X G 4 0 0 _ K N I L R 0 [(0, .int a0), (1, .int a1), (2, .int a2)] []
  delta w_X4_leastUp at h
  refine z_iconst hC (v := 0) k_iconst_0 dX4_leastUp_0 ?_
  refine z_istore_n hC (lv1 := [(3, .int 0), (0, .int a0), (1, .int a1), (2, .int a2)]) dX4_leastUp_1 rfl (by decide) rfl ?_
  exact z_sub [(0, .int a0), (1, .int a1), (2, .int a2), (3, .int 0)] [1, 2, 3, 0] rfl (z_X4_leastUp_2 hC hRm h)
def w_X4_mostRest_5  (x0 : Int32) (x1 : Int32) (x2 : Int32) (x3 : Int32)  (K : MK) (N : MK) (I : MI) (L : ML) (R : MR)  (Q : Int32 → Prop) : Prop := ∃ J : Nat → Int32 → Int32 → Int32 → Int32 → Prop, (∃ n, J n x0 x1 x2 x3) ∧ ∀ (n : Nat) (x0 : Int32) (x1 : Int32) (x2 : Int32) (x3 : Int32), J n x0 x1 x2 x3 → ((12 : Int32) ≤ x3 → Q x2) ∧ (¬ (12 : Int32) ≤ x3 → w_X4_bytesFor x0 x2 K N I L R (fun r1 => (((3 : Int32) + r1) = x1 → Q x2) ∧ (¬ ((3 : Int32) + r1) = x1 → ∀ v2 : Int32, v2 = x2 + (-1) → ∀ v3 : Int32, v3 = x3 + 1 → ∃ n1, n1 < n ∧ J n1 x0 x1 v2 v3)))
def w_X4_mostRest  (a0 : Int32) (a1 : Int32) (K : MK) (N : MK) (I : MI) (L : ML) (R : MR) (Q : Int32 → Prop) : Prop := w_X4_mostRest_5 a0 a1 7 0 K N I L R Q
set_option maxHeartbeats 4000000 in
set_option maxRecDepth 100000 in
theorem z_X4_mostRest_5 {X : ZX} {G : ZG}  {x0 : Int32} {x1 : Int32} {x2 : Int32} {x3 : Int32}  {K : MK} {N : MK} {I : MI} {L : ML} {R : MR}  {Q : Int32 → Prop} (hC : ZOk X G RX4 cX4_mostRest 4 (some .int)) (hRm : X.2.2.2.1 = rm_X4_mostRest) (h : w_X4_mostRest_5 x0 x1 x2 x3 K N I L R  Q) : Z X G 4 0 0 (z_T X G (qPi K N I L R Q) 0 0) K N I L R 5 [(0, .int x0), (1, .int x1), (2, .int x2), (3, .int x3)] [] := by
  delta w_X4_mostRest_5 at h
  obtain ⟨J, ⟨n, h0⟩, hs⟩ := h
  have key : ∀ (n : Nat) (x0 : Int32) (x1 : Int32) (x2 : Int32) (x3 : Int32), J n x0 x1 x2 x3 → Z X G 4 0 0 (z_T X G (qPi K N I L R Q) 0 0) K N I L R 5 [(0, .int x0), (1, .int x1), (2, .int x2), (3, .int x3)] [] := by
    intro n
    induction n using Nat.strongRecOn with
    | _ n ih =>
      intro x0 x1 x2 x3 hJ
      have hC5 : ∀ (y0 : Int32) (y1 : Int32) (y2 : Int32) (y3 : Int32) , (∃ n1, n1 < n ∧ J n1 y0 y1 y2 y3) → Z X G 4 0 0 (z_T X G (qPi K N I L R Q) 0 0) K N I L R 5 [(0, .int y0), (1, .int y1), (2, .int y2), (3, .int y3)] [] := fun y0 y1 y2 y3 ⟨n1, hn1, hj⟩ => ih n1 hn1 y0 y1 y2 y3 hj
      have h := hs n x0 x1 x2 x3 hJ
      refine z_iload_n hC (q := 3) dX4_mostRest_5 rfl rfl ?_
      refine z_bipush hC (v := 12) k_bipush_12 dX4_mostRest_6 ?_
      refine z_icmp_ge hC (tgt := 31) dX4_mostRest_8 (by decide) (fun hc => ?_) (fun hc => ?_)
      · have h := h.1 hc
        refine z_iload_n hC (q := 2) dX4_mostRest_31 rfl rfl ?_
        exact z_iret hC dX4_mostRest_32 ⟨_, rfl, rfl, rfl, rfl, rfl, rfl, h⟩
      · have h := h.2 hc
        refine z_iconst hC (v := 3) k_iconst_3 dX4_mostRest_11 ?_
        refine z_iload_n hC (q := 0) dX4_mostRest_12 rfl rfl ?_
        refine z_iload_n hC (q := 2) dX4_mostRest_13 rfl rfl ?_
        refine cl_RX4_60 hC (c_X4_bytesFor _ G x0 x2 K N I L R _ h) dX4_mostRest_14 (by rw [hRm]; exact ⟨Nat.le_of_ble_eq_true rfl, Nat.le_of_ble_eq_true rfl⟩) ⟨Nat.zero_le _, Nat.zero_le _⟩ (Nat.le_of_ble_eq_true rfl) (z_kPi (fun r1 h => ?_))
        refine z_iadd hC dX4_mostRest_17 ?_
        refine z_iload_n hC (q := 1) dX4_mostRest_18 rfl rfl ?_
        refine z_icmp_eq hC (tgt := 31) dX4_mostRest_19 (by decide) (fun hc => ?_) (fun hc => ?_)
        · have h := h.1 hc
          refine z_iload_n hC (q := 2) dX4_mostRest_31 rfl rfl ?_
          exact z_iret hC dX4_mostRest_32 ⟨_, rfl, rfl, rfl, rfl, rfl, rfl, h⟩
        · have h := h.2 hc
          obtain ⟨v2, ev2⟩ : ∃ y : Int32, y = x2 + (-1) := ⟨_, rfl⟩
          have h := h v2 ev2
          refine z_iinc hC (q := 2) (v := v2) (lv1 := [(2, .int v2), (0, .int x0), (1, .int x1), (3, .int x3)]) dX4_mostRest_22 rfl (by rw [ev2, k_iinc_m1]) (by decide) rfl ?_
          obtain ⟨v3, ev3⟩ : ∃ y : Int32, y = x3 + 1 := ⟨_, rfl⟩
          have h := h v3 ev3
          refine z_iinc hC (q := 3) (v := v3) (lv1 := [(3, .int v3), (2, .int v2), (0, .int x0), (1, .int x1)]) dX4_mostRest_25 rfl (by rw [ev3, k_iinc_1]) (by decide) rfl ?_
          refine z_goto hC (tgt := 5) dX4_mostRest_28 (by decide) ?_
          exact z_sub [(0, .int x0), (1, .int x1), (2, .int v2), (3, .int v3)] [2, 3, 1, 0] rfl (hC5 _ _ _ _ h)
  exact key n x0 x1 x2 x3 h0
set_option maxHeartbeats 4000000 in
set_option maxRecDepth 100000 in
theorem c_X4_mostRest  (l : Launch) (G : ZG) (a0 : Int32) (a1 : Int32) (K : MK) (N : MK) (I : MI) (L : ML) (R : MR) (Q : Int32 → Prop) (h : w_X4_mostRest a0 a1 K N I L R Q) : Met l yX4_mostRest (.code yX4_mostRest cX4_mostRest 4 (some .int) :: z_tbl) rm_X4_mostRest (z_Pc G [.int a0, .int a1] K N I L R) (z_Qc G (qPi K N I L R Q)) 0 0 (z_A G) := by
  refine z_met (by decide) (Nat.le_of_ble_eq_true rfl) (fun X hX hRm hC0 hnm => ?_)
  subst hX
  have hC : ZOk X G RX4 cX4_mostRest 4 (some .int) := hC0
  show Z X G 4 0 0 _ K N I L R 0 [(0, .int a0), (1, .int a1)] []
  delta w_X4_mostRest at h
  refine z_bipush hC (v := 7) k_bipush_7 dX4_mostRest_0 ?_
  refine z_istore_n hC (lv1 := [(2, .int 7), (0, .int a0), (1, .int a1)]) dX4_mostRest_2 rfl (by decide) rfl ?_
  refine z_iconst hC (v := 0) k_iconst_0 dX4_mostRest_3 ?_
  refine z_istore_n hC (lv1 := [(3, .int 0), (2, .int 7), (0, .int a0), (1, .int a1)]) dX4_mostRest_4 rfl (by decide) rfl ?_
  exact z_sub [(0, .int a0), (1, .int a1), (2, .int 7), (3, .int 0)] [2, 3, 1, 0] rfl (z_X4_mostRest_5 hC hRm h)
def w_X4_packRow_87  (x0 : Nat) (x3 : Int32) (x4 : Int32) (x5 : Int32) (x7 : Int32) (s0 : Int32) (K : MK) (N : MK) (I : MI) (L : ML) (R : MR) (C8 : Nat → Int32 → Int32 → Int32 → MI → ML → Prop) (Q : MI → ML → Prop) : Prop := (x7 = (-1) → (s0 < (-4) → K x0 = 5 ∧ w_X4_putByte x0 4 K N I L R (fun I4 L5 => ∀ v6 : Int32, v6 = x3 + (-17) → ∀ v7 : Int32, v7 = x5 + 1 → C8 x0 v6 x4 v7 I4 L5)) ∧ (¬ s0 < (-4) → K x0 = 5 ∧ w_X4_putByte x0 3 K N I L R (fun I9 L10 => w_X4_putByte x0 ((ushr (x4 - s0) 8) &&& 255) K N I9 L10 R (fun I11 L12 => w_X4_putByte x0 ((x4 - s0) &&& 255) K N I11 L12 R (fun I13 L14 => ∀ v15 : Int32, v15 = x5 + 1 → C8 x0 x3 s0 v15 I13 L14))))) ∧ (¬ x7 = (-1) → K x0 = 5 ∧ w_X4_putByte x0 2 K N I L R (fun I17 L18 => w_X4_putByte x0 x7 K N I17 L18 R (fun I19 L20 => ∀ v21 : Int32, v21 = (x3 - x7) → ∀ v22 : Int32, v22 = x5 + 1 → C8 x0 v21 x4 v22 I19 L20)))
def w_X4_packRow_8  (x0 : Nat) (x3 : Int32) (x4 : Int32) (x5 : Int32)  (K : MK) (N : MK) (I : MI) (L : ML) (R : MR)  (Q : MI → ML → Prop) : Prop := ∃ J : Nat → Nat → Int32 → Int32 → Int32 → MI → ML → Prop, (∃ n, J n x0 x3 x4 x5 I L) ∧ ∀ (n : Nat) (x0 : Nat) (x3 : Int32) (x4 : Int32) (x5 : Int32) (I : MI) (L : ML), J n x0 x3 x4 x5 I L → ((6 : Int32) ≤ x5 → Q I L) ∧ (¬ (6 : Int32) ≤ x5 → w_X4_bytesFor x3 x4 K N I L R (fun r1 => (¬ r1 = 1 → w_X4_leastUp x3 x4 r1 K N I L R (fun r2 => (¬ r2 = (-1) → w_X4_packRow_87 x0 x3 x4 x5 r2 (-5) K N I L R (fun y0 y1 y2 y3 y4 y5 => ∃ n1, n1 < n ∧ J n1 y0 y1 y2 y3 y4 y5) Q) ∧ (r2 = (-1) → w_X4_mostRest x3 r1 K N I L R (fun r23 => w_X4_packRow_87 x0 x3 x4 x5 r2 r23 K N I L R (fun y0 y1 y2 y3 y4 y5 => ∃ n1, n1 < n ∧ J n1 y0 y1 y2 y3 y4 y5) Q)))) ∧ (r1 = 1 → (¬ x3 = 0 → K x0 = 5 ∧ w_X4_putByte x0 ((((10 : Int32) + (x3 * 12)) + x4) - (-4)) K N I L R (fun I25 L26 => Q I25 L26)) ∧ (x3 = 0 → (¬ x4 = 0 → K x0 = 5 ∧ w_X4_putByte x0 ((((10 : Int32) + (x3 * 12)) + x4) - (-4)) K N I L R (fun I28 L29 => Q I28 L29)) ∧ (x4 = 0 → K x0 = 5 ∧ w_X4_putByte x0 1 K N I L R (fun I31 L32 => Q I31 L32))))))
def w_X4_packRow  (a0 : Nat) (a1 : Int32) (a2 : Int32) (K : MK) (N : MK) (I : MI) (L : ML) (R : MR) (Q : MI → ML → Prop) : Prop := w_X4_packRow_8 a0 a1 a2 0 K N I L R Q
set_option maxHeartbeats 4000000 in
set_option maxRecDepth 100000 in
theorem z_X4_packRow_87 {X : ZX} {G : ZG}  {x0 : Nat} {x3 : Int32} {x4 : Int32} {x5 : Int32} {x7 : Int32} {s0 : Int32} {K : MK} {N : MK} {I : MI} {L : ML} {R : MR} {C8 : Nat → Int32 → Int32 → Int32 → MI → ML → Prop} {Q : MI → ML → Prop} (hC : ZOk X G RX4 cX4_packRow 9 none) (hRm : X.2.2.2.1 = rm_X4_packRow) (hC8 : ∀ (y0 : Nat) (y1 : Int32) (y2 : Int32) (y3 : Int32) (zI : MI) (zL : ML), C8 y0 y1 y2 y3 zI zL → Z X G 9 0 0 (z_T X G (qLv K N R Q) 0 0) K N zI zL R 8 [(0, .ref y0), (3, .int y1), (4, .int y2), (5, .int y3)] []) (h : w_X4_packRow_87 x0 x3 x4 x5 x7 s0 K N I L R C8 Q) : Z X G 9 0 0 (z_T X G (qLv K N R Q) 0 0) K N I L R 87 [(0, .ref x0), (3, .int x3), (4, .int x4), (5, .int x5), (7, .int x7)] [.int s0] := by
  delta w_X4_packRow_87 at h
  refine z_istore hC (lv1 := [(8, .int s0), (0, .ref x0), (3, .int x3), (4, .int x4), (5, .int x5), (7, .int x7)]) dX4_packRow_87 (by decide) rfl ?_
  refine z_iload hC (q := 5) dX4_packRow_89 rfl ?_
  refine z_iconst hC (v := (-1)) k_iconst_m1 dX4_packRow_91 ?_
  refine z_icmp_eq hC (tgt := 114) dX4_packRow_92 (by decide) (fun hc => ?_) (fun hc => ?_)
  · have h := h.1 hc
    refine z_iload hC (q := 0) dX4_packRow_114 rfl ?_
    refine z_bipush hC (v := (-4)) k_bipush_m4 dX4_packRow_116 ?_
    refine z_icmp_lt hC (tgt := 162) dX4_packRow_118 (by decide) (fun hc => ?_) (fun hc => ?_)
    · have h := h.1 hc
      refine z_aload_n hC (q := 1) dX4_packRow_162 rfl rfl ?_
      refine z_iconst hC (v := 4) k_iconst_4 dX4_packRow_163 ?_
      obtain ⟨hk3, h⟩ := h
      refine cl_RX4_48 hC (c_X4_putByte _ G x0 4 K N I L R _ h) hk3 dX4_packRow_164 (by rw [hRm]; exact ⟨Nat.le_of_ble_eq_true rfl, Nat.le_of_ble_eq_true rfl⟩) ⟨Nat.zero_le _, Nat.zero_le _⟩ (Nat.le_of_ble_eq_true rfl) (z_kLv (I := I) (L := L) (fun I4 L5 h => ?_))
      obtain ⟨v6, ev6⟩ : ∃ y : Int32, y = x3 + (-17) := ⟨_, rfl⟩
      have h := h v6 ev6
      refine z_iinc hC (q := 2) (v := v6) (lv1 := [(3, .int v6), (8, .int s0), (0, .ref x0), (4, .int x4), (5, .int x5), (7, .int x7)]) dX4_packRow_167 rfl (by rw [ev6, k_iinc_m17]) (by decide) rfl ?_
      obtain ⟨v7, ev7⟩ : ∃ y : Int32, y = x5 + 1 := ⟨_, rfl⟩
      have h := h v7 ev7
      refine z_iinc hC (q := 4) (v := v7) (lv1 := [(5, .int v7), (3, .int v6), (8, .int s0), (0, .ref x0), (4, .int x4), (7, .int x7)]) dX4_packRow_170 rfl (by rw [ev7, k_iinc_1]) (by decide) rfl ?_
      refine z_goto hC (tgt := 8) dX4_packRow_173 (by decide) ?_
      exact z_sub [(0, .ref x0), (3, .int v6), (4, .int x4), (5, .int v7)] [3, 1, 4, 0] rfl (hC8 _ _ _ _ _ _ h)
    · have h := h.2 hc
      refine z_aload_n hC (q := 1) dX4_packRow_121 rfl rfl ?_
      refine z_iconst hC (v := 3) k_iconst_3 dX4_packRow_122 ?_
      obtain ⟨hk8, h⟩ := h
      refine cl_RX4_48 hC (c_X4_putByte _ G x0 3 K N I L R _ h) hk8 dX4_packRow_123 (by rw [hRm]; exact ⟨Nat.le_of_ble_eq_true rfl, Nat.le_of_ble_eq_true rfl⟩) ⟨Nat.zero_le _, Nat.zero_le _⟩ (Nat.le_of_ble_eq_true rfl) (z_kLv (I := I) (L := L) (fun I9 L10 h => ?_))
      refine z_aload_n hC (q := 1) dX4_packRow_126 rfl rfl ?_
      refine z_iload hC (q := 3) dX4_packRow_127 rfl ?_
      refine z_iload hC (q := 0) dX4_packRow_129 rfl ?_
      refine z_isub hC dX4_packRow_131 ?_
      refine z_bipush hC (v := 8) k_bipush_8 dX4_packRow_132 ?_
      refine z_iushr hC dX4_packRow_134 ?_
      refine z_sipush hC (v := 255) k_sipush_255 dX4_packRow_135 ?_
      refine z_iand hC dX4_packRow_138 ?_
      refine cl_RX4_48 hC (c_X4_putByte _ G x0 ((ushr (x4 - s0) 8) &&& 255) K N I9 L10 R _ h) hk8 dX4_packRow_139 (by rw [hRm]; exact ⟨Nat.le_of_ble_eq_true rfl, Nat.le_of_ble_eq_true rfl⟩) ⟨Nat.zero_le _, Nat.zero_le _⟩ (Nat.le_of_ble_eq_true rfl) (z_kLv (I := I9) (L := L10) (fun I11 L12 h => ?_))
      refine z_aload_n hC (q := 1) dX4_packRow_142 rfl rfl ?_
      refine z_iload hC (q := 3) dX4_packRow_143 rfl ?_
      refine z_iload hC (q := 0) dX4_packRow_145 rfl ?_
      refine z_isub hC dX4_packRow_147 ?_
      refine z_sipush hC (v := 255) k_sipush_255 dX4_packRow_148 ?_
      refine z_iand hC dX4_packRow_151 ?_
      refine cl_RX4_48 hC (c_X4_putByte _ G x0 ((x4 - s0) &&& 255) K N I11 L12 R _ h) hk8 dX4_packRow_152 (by rw [hRm]; exact ⟨Nat.le_of_ble_eq_true rfl, Nat.le_of_ble_eq_true rfl⟩) ⟨Nat.zero_le _, Nat.zero_le _⟩ (Nat.le_of_ble_eq_true rfl) (z_kLv (I := I11) (L := L12) (fun I13 L14 h => ?_))
      refine z_iload hC (q := 0) dX4_packRow_155 rfl ?_
      refine z_istore hC (lv1 := [(4, .int s0), (8, .int s0), (0, .ref x0), (3, .int x3), (5, .int x5), (7, .int x7)]) dX4_packRow_157 (by decide) rfl ?_
      refine z_goto hC (tgt := 170) dX4_packRow_159 (by decide) ?_
      obtain ⟨v15, ev15⟩ : ∃ y : Int32, y = x5 + 1 := ⟨_, rfl⟩
      have h := h v15 ev15
      refine z_iinc hC (q := 4) (v := v15) (lv1 := [(5, .int v15), (4, .int s0), (8, .int s0), (0, .ref x0), (3, .int x3), (7, .int x7)]) dX4_packRow_170 rfl (by rw [ev15, k_iinc_1]) (by decide) rfl ?_
      refine z_goto hC (tgt := 8) dX4_packRow_173 (by decide) ?_
      exact z_sub [(0, .ref x0), (3, .int x3), (4, .int s0), (5, .int v15)] [3, 4, 1, 0] rfl (hC8 _ _ _ _ _ _ h)
  · have h := h.2 hc
    refine z_aload_n hC (q := 1) dX4_packRow_95 rfl rfl ?_
    refine z_iconst hC (v := 2) k_iconst_2 dX4_packRow_96 ?_
    obtain ⟨hk16, h⟩ := h
    refine cl_RX4_48 hC (c_X4_putByte _ G x0 2 K N I L R _ h) hk16 dX4_packRow_97 (by rw [hRm]; exact ⟨Nat.le_of_ble_eq_true rfl, Nat.le_of_ble_eq_true rfl⟩) ⟨Nat.zero_le _, Nat.zero_le _⟩ (Nat.le_of_ble_eq_true rfl) (z_kLv (I := I) (L := L) (fun I17 L18 h => ?_))
    refine z_aload_n hC (q := 1) dX4_packRow_100 rfl rfl ?_
    refine z_iload hC (q := 5) dX4_packRow_101 rfl ?_
    refine cl_RX4_48 hC (c_X4_putByte _ G x0 x7 K N I17 L18 R _ h) hk16 dX4_packRow_103 (by rw [hRm]; exact ⟨Nat.le_of_ble_eq_true rfl, Nat.le_of_ble_eq_true rfl⟩) ⟨Nat.zero_le _, Nat.zero_le _⟩ (Nat.le_of_ble_eq_true rfl) (z_kLv (I := I17) (L := L18) (fun I19 L20 h => ?_))
    refine z_iload_n hC (q := 2) dX4_packRow_106 rfl rfl ?_
    refine z_iload hC (q := 5) dX4_packRow_107 rfl ?_
    refine z_isub hC dX4_packRow_109 ?_
    refine z_topi (fun v21 ev21 => ?_)
    have h := h v21 ev21
    refine z_istore_n hC (lv1 := [(3, .int v21), (8, .int s0), (0, .ref x0), (4, .int x4), (5, .int x5), (7, .int x7)]) dX4_packRow_110 rfl (by decide) rfl ?_
    refine z_goto hC (tgt := 170) dX4_packRow_111 (by decide) ?_
    obtain ⟨v22, ev22⟩ : ∃ y : Int32, y = x5 + 1 := ⟨_, rfl⟩
    have h := h v22 ev22
    refine z_iinc hC (q := 4) (v := v22) (lv1 := [(5, .int v22), (3, .int v21), (8, .int s0), (0, .ref x0), (4, .int x4), (7, .int x7)]) dX4_packRow_170 rfl (by rw [ev22, k_iinc_1]) (by decide) rfl ?_
    refine z_goto hC (tgt := 8) dX4_packRow_173 (by decide) ?_
    exact z_sub [(0, .ref x0), (3, .int v21), (4, .int x4), (5, .int v22)] [3, 1, 4, 0] rfl (hC8 _ _ _ _ _ _ h)
set_option maxHeartbeats 4000000 in
set_option maxRecDepth 100000 in
theorem z_X4_packRow_8 {X : ZX} {G : ZG}  {x0 : Nat} {x3 : Int32} {x4 : Int32} {x5 : Int32}  {K : MK} {N : MK} {I : MI} {L : ML} {R : MR}  {Q : MI → ML → Prop} (hC : ZOk X G RX4 cX4_packRow 9 none) (hRm : X.2.2.2.1 = rm_X4_packRow) (h : w_X4_packRow_8 x0 x3 x4 x5 K N I L R  Q) : Z X G 9 0 0 (z_T X G (qLv K N R Q) 0 0) K N I L R 8 [(0, .ref x0), (3, .int x3), (4, .int x4), (5, .int x5)] [] := by
  delta w_X4_packRow_8 at h
  obtain ⟨J, ⟨n, h0⟩, hs⟩ := h
  have key : ∀ (n : Nat) (x0 : Nat) (x3 : Int32) (x4 : Int32) (x5 : Int32) (I : MI) (L : ML), J n x0 x3 x4 x5 I L → Z X G 9 0 0 (z_T X G (qLv K N R Q) 0 0) K N I L R 8 [(0, .ref x0), (3, .int x3), (4, .int x4), (5, .int x5)] [] := by
    intro n
    induction n using Nat.strongRecOn with
    | _ n ih =>
      intro x0 x3 x4 x5 I L hJ
      have hC8 : ∀ (y0 : Nat) (y1 : Int32) (y2 : Int32) (y3 : Int32) (zI : MI) (zL : ML), (∃ n1, n1 < n ∧ J n1 y0 y1 y2 y3 zI zL) → Z X G 9 0 0 (z_T X G (qLv K N R Q) 0 0) K N zI zL R 8 [(0, .ref y0), (3, .int y1), (4, .int y2), (5, .int y3)] [] := fun y0 y1 y2 y3 zI zL ⟨n1, hn1, hj⟩ => ih n1 hn1 y0 y1 y2 y3 zI zL hj
      have h := hs n x0 x3 x4 x5 I L hJ
      refine z_iload hC (q := 3) dX4_packRow_8 rfl ?_
      refine z_bipush hC (v := 6) k_bipush_6 dX4_packRow_10 ?_
      refine z_icmp_ge hC (tgt := 176) dX4_packRow_12 (by decide) (fun hc => ?_) (fun hc => ?_)
      · have h := h.1 hc
        exact z_vret hC dX4_packRow_176 ⟨rfl, rfl, rfl, rfl, h⟩
      · have h := h.2 hc
        refine z_iload_n hC (q := 1) dX4_packRow_15 rfl rfl ?_
        refine z_iload hC (q := 2) dX4_packRow_16 rfl ?_
        refine cl_RX4_60 hC (c_X4_bytesFor _ G x3 x4 K N I L R _ h) dX4_packRow_18 (by rw [hRm]; exact ⟨Nat.le_of_ble_eq_true rfl, Nat.le_of_ble_eq_true rfl⟩) ⟨Nat.zero_le _, Nat.zero_le _⟩ (Nat.le_of_ble_eq_true rfl) (z_kPi (fun r1 h => ?_))
        refine z_istore hC (lv1 := [(6, .int r1), (0, .ref x0), (3, .int x3), (4, .int x4), (5, .int x5)]) dX4_packRow_21 (by decide) rfl ?_
        refine z_iload hC (q := 0) dX4_packRow_23 rfl ?_
        refine z_iconst hC (v := 1) k_iconst_1 dX4_packRow_25 ?_
        refine z_icmp_ne hC (tgt := 60) dX4_packRow_26 (by decide) (fun hc => ?_) (fun hc => ?_)
        · have h := h.1 hc
          refine z_iload_n hC (q := 2) dX4_packRow_60 rfl rfl ?_
          refine z_iload hC (q := 3) dX4_packRow_61 rfl ?_
          refine z_iload hC (q := 0) dX4_packRow_63 rfl ?_
          refine cl_RX4_63 hC (c_X4_leastUp _ G x3 x4 r1 K N I L R _ h) dX4_packRow_65 (by rw [hRm]; exact ⟨Nat.le_of_ble_eq_true rfl, Nat.le_of_ble_eq_true rfl⟩) ⟨Nat.zero_le _, Nat.zero_le _⟩ (Nat.le_of_ble_eq_true rfl) (z_kPi (fun r2 h => ?_))
          refine z_istore hC (lv1 := [(7, .int r2), (6, .int r1), (0, .ref x0), (3, .int x3), (4, .int x4), (5, .int x5)]) dX4_packRow_68 (by decide) rfl ?_
          refine z_iload hC (q := 0) dX4_packRow_70 rfl ?_
          refine z_iconst hC (v := (-1)) k_iconst_m1 dX4_packRow_72 ?_
          refine z_icmp_ne hC (tgt := 85) dX4_packRow_73 (by decide) (fun hc => ?_) (fun hc => ?_)
          · have h := h.1 hc
            refine z_bipush hC (v := (-5)) k_bipush_m5 dX4_packRow_85 ?_
            exact z_sub [(0, .ref x0), (3, .int x3), (4, .int x4), (5, .int x5), (7, .int r2)] [2, 3, 4, 5, 0] rfl (z_X4_packRow_87 hC hRm hC8 h)
          · have h := h.2 hc
            refine z_iload_n hC (q := 3) dX4_packRow_76 rfl rfl ?_
            refine z_iload hC (q := 1) dX4_packRow_77 rfl ?_
            refine cl_RX4_67 hC (c_X4_mostRest _ G x3 r1 K N I L R _ h) dX4_packRow_79 (by rw [hRm]; exact ⟨Nat.le_of_ble_eq_true rfl, Nat.le_of_ble_eq_true rfl⟩) ⟨Nat.zero_le _, Nat.zero_le _⟩ (Nat.le_of_ble_eq_true rfl) (z_kPi (fun r23 h => ?_))
            refine z_goto hC (tgt := 87) dX4_packRow_82 (by decide) ?_
            exact z_sub [(0, .ref x0), (3, .int x3), (4, .int x4), (5, .int x5), (7, .int r2)] [2, 3, 4, 5, 0] rfl (z_X4_packRow_87 hC hRm hC8 h)
        · have h := h.2 hc
          refine z_aload_n hC (q := 1) dX4_packRow_29 rfl rfl ?_
          refine z_iload_n hC (q := 2) dX4_packRow_30 rfl rfl ?_
          refine z_if_ne hC (tgt := 43) dX4_packRow_31 (by decide) (fun hc => ?_) (fun hc => ?_)
          · have h := h.1 hc
            refine z_bipush hC (v := 10) k_bipush_10 dX4_packRow_43 ?_
            refine z_iload_n hC (q := 2) dX4_packRow_45 rfl rfl ?_
            refine z_bipush hC (v := 12) k_bipush_12 dX4_packRow_46 ?_
            refine z_imul hC dX4_packRow_48 ?_
            refine z_iadd hC dX4_packRow_49 ?_
            refine z_iload hC (q := 3) dX4_packRow_50 rfl ?_
            refine z_iadd hC dX4_packRow_52 ?_
            refine z_bipush hC (v := (-4)) k_bipush_m4 dX4_packRow_53 ?_
            refine z_isub hC dX4_packRow_55 ?_
            obtain ⟨hk24, h⟩ := h
            refine cl_RX4_48 hC (c_X4_putByte _ G x0 ((((10 : Int32) + (x3 * 12)) + x4) - (-4)) K N I L R _ h) hk24 dX4_packRow_56 (by rw [hRm]; exact ⟨Nat.le_of_ble_eq_true rfl, Nat.le_of_ble_eq_true rfl⟩) ⟨Nat.zero_le _, Nat.zero_le _⟩ (Nat.le_of_ble_eq_true rfl) (z_kLv (I := I) (L := L) (fun I25 L26 h => ?_))
            exact z_vret hC dX4_packRow_59 ⟨rfl, rfl, rfl, rfl, h⟩
          · have h := h.2 hc
            refine z_iload hC (q := 3) dX4_packRow_34 rfl ?_
            refine z_if_ne hC (tgt := 43) dX4_packRow_36 (by decide) (fun hc => ?_) (fun hc => ?_)
            · have h := h.1 hc
              refine z_bipush hC (v := 10) k_bipush_10 dX4_packRow_43 ?_
              refine z_iload_n hC (q := 2) dX4_packRow_45 rfl rfl ?_
              refine z_bipush hC (v := 12) k_bipush_12 dX4_packRow_46 ?_
              refine z_imul hC dX4_packRow_48 ?_
              refine z_iadd hC dX4_packRow_49 ?_
              refine z_iload hC (q := 3) dX4_packRow_50 rfl ?_
              refine z_iadd hC dX4_packRow_52 ?_
              refine z_bipush hC (v := (-4)) k_bipush_m4 dX4_packRow_53 ?_
              refine z_isub hC dX4_packRow_55 ?_
              obtain ⟨hk27, h⟩ := h
              refine cl_RX4_48 hC (c_X4_putByte _ G x0 ((((10 : Int32) + (x3 * 12)) + x4) - (-4)) K N I L R _ h) hk27 dX4_packRow_56 (by rw [hRm]; exact ⟨Nat.le_of_ble_eq_true rfl, Nat.le_of_ble_eq_true rfl⟩) ⟨Nat.zero_le _, Nat.zero_le _⟩ (Nat.le_of_ble_eq_true rfl) (z_kLv (I := I) (L := L) (fun I28 L29 h => ?_))
              exact z_vret hC dX4_packRow_59 ⟨rfl, rfl, rfl, rfl, h⟩
            · have h := h.2 hc
              refine z_iconst hC (v := 1) k_iconst_1 dX4_packRow_39 ?_
              refine z_goto hC (tgt := 56) dX4_packRow_40 (by decide) ?_
              obtain ⟨hk30, h⟩ := h
              refine cl_RX4_48 hC (c_X4_putByte _ G x0 1 K N I L R _ h) hk30 dX4_packRow_56 (by rw [hRm]; exact ⟨Nat.le_of_ble_eq_true rfl, Nat.le_of_ble_eq_true rfl⟩) ⟨Nat.zero_le _, Nat.zero_le _⟩ (Nat.le_of_ble_eq_true rfl) (z_kLv (I := I) (L := L) (fun I31 L32 h => ?_))
              exact z_vret hC dX4_packRow_59 ⟨rfl, rfl, rfl, rfl, h⟩
  exact key n x0 x3 x4 x5 I L h0
set_option maxHeartbeats 4000000 in
set_option maxRecDepth 100000 in
theorem c_X4_packRow  (l : Launch) (G : ZG) (a0 : Nat) (a1 : Int32) (a2 : Int32) (K : MK) (N : MK) (I : MI) (L : ML) (R : MR) (Q : MI → ML → Prop) (h : w_X4_packRow a0 a1 a2 K N I L R Q) : Met l yX4_packRow (.code yX4_packRow cX4_packRow 9 none :: z_tbl) rm_X4_packRow (z_Pc G [.ref a0, .int a1, .int a2] K N I L R) (z_Qc G (qLv K N R Q)) 0 0 (z_A G) := by
  refine z_met (by decide) (Nat.le_of_ble_eq_true rfl) (fun X hX hRm hC0 hnm => ?_)
  subst hX
  have hC : ZOk X G RX4 cX4_packRow 9 none := hC0
  show Z X G 9 0 0 _ K N I L R 0 [(0, .ref a0), (1, .int a1), (2, .int a2)] []
  delta w_X4_packRow at h
  refine z_iload_n hC (q := 1) dX4_packRow_0 rfl rfl ?_
  refine z_istore_n hC (lv1 := [(3, .int a1), (0, .ref a0), (1, .int a1), (2, .int a2)]) dX4_packRow_1 rfl (by decide) rfl ?_
  refine z_iload_n hC (q := 3) dX4_packRow_2 rfl rfl ?_
  refine z_istore hC (lv1 := [(4, .int a2), (3, .int a1), (0, .ref a0), (1, .int a1), (2, .int a2)]) dX4_packRow_3 (by decide) rfl ?_
  refine z_iconst hC (v := 0) k_iconst_0 dX4_packRow_5 ?_
  refine z_istore hC (lv1 := [(5, .int 0), (4, .int a2), (3, .int a1), (0, .ref a0), (1, .int a1), (2, .int a2)]) dX4_packRow_6 (by decide) rfl ?_
  exact z_sub [(0, .ref a0), (3, .int a1), (4, .int a2), (5, .int 0)] [3, 2, 1, 0] rfl (z_X4_packRow_8 hC hRm h)
def w_X4_pack_19  (x0 : Nat) (x1 : Nat) (x2 : Int32)  (K : MK) (N : MK) (I : MI) (L : ML) (R : MR)  (Q : MI → ML → Prop) : Prop := ∃ J : Nat → Nat → Nat → Int32 → MI → ML → Prop, (∃ n, J n x0 x1 x2 I L) ∧ ∀ (n : Nat) (x0 : Nat) (x1 : Nat) (x2 : Int32) (I : MI) (L : ML), J n x0 x1 x2 I L → K x1 = 8 ∧ ((I x1 3) ≤ x2 → K x0 = 5 ∧ w_X4_putByte x0 0 K N I L R (fun I9 L10 => Q I9 L10)) ∧ (¬ (I x1 3) ≤ x2 → w_X7_at x1 x2 0 K N I L R (fun r11 => w_X7_at x1 x2 1 K N I L R (fun r12 => K x0 = 5 ∧ w_X4_packRow x0 (r11 - (I x0 3)) (r12 - (I x0 4)) K N I L R (fun I14 L15 => ∀ I16 : MI, I16 = mup I14 x0 3 r11 → ∀ I17 : MI, I17 = mup I16 x0 4 r12 → ∀ v18 : Int32, v18 = x2 + 1 → ∃ n1, n1 < n ∧ J n1 x0 x1 v18 I17 L15))))
def w_X4_pack  (a0 : Nat) (a1 : Nat) (K : MK) (N : MK) (I : MI) (L : ML) (R : MR) (Q : MI → ML → Prop) : Prop := K a0 = 5 ∧ ∃ b2 : Nat, R a0 0 = some b2 ∧ K b2 = 8 ∧ w_X7_forget b2 K N I L R (fun I4 => ∀ I5 : MI, I5 = mup I4 a0 3 0 → ∀ I6 : MI, I6 = mup I5 a0 4 1 → w_X4_pack_19 a0 a1 0 K N I6 L R Q)
set_option maxHeartbeats 4000000 in
set_option maxRecDepth 100000 in
theorem z_X4_pack_19 {X : ZX} {G : ZG}  {x0 : Nat} {x1 : Nat} {x2 : Int32}  {K : MK} {N : MK} {I : MI} {L : ML} {R : MR}  {Q : MI → ML → Prop} (hC : ZOk X G RX4 cX4_pack 5 none) (hRm : X.2.2.2.1 = rm_X4_pack) (h : w_X4_pack_19 x0 x1 x2 K N I L R  Q) : Z X G 5 0 0 (z_T X G (qLv K N R Q) 0 0) K N I L R 19 [(0, .ref x0), (1, .ref x1), (2, .int x2)] [] := by
  delta w_X4_pack_19 at h
  obtain ⟨J, ⟨n, h0⟩, hs⟩ := h
  have key : ∀ (n : Nat) (x0 : Nat) (x1 : Nat) (x2 : Int32) (I : MI) (L : ML), J n x0 x1 x2 I L → Z X G 5 0 0 (z_T X G (qLv K N R Q) 0 0) K N I L R 19 [(0, .ref x0), (1, .ref x1), (2, .int x2)] [] := by
    intro n
    induction n using Nat.strongRecOn with
    | _ n ih =>
      intro x0 x1 x2 I L hJ
      have hC19 : ∀ (y0 : Nat) (y1 : Nat) (y2 : Int32) (zI : MI) (zL : ML), (∃ n1, n1 < n ∧ J n1 y0 y1 y2 zI zL) → Z X G 5 0 0 (z_T X G (qLv K N R Q) 0 0) K N zI zL R 19 [(0, .ref y0), (1, .ref y1), (2, .int y2)] [] := fun y0 y1 y2 zI zL ⟨n1, hn1, hj⟩ => ih n1 hn1 y0 y1 y2 zI zL hj
      have h := hs n x0 x1 x2 I L hJ
      refine z_iload_n hC (q := 2) dX4_pack_19 rfl rfl ?_
      refine z_aload_n hC (q := 1) dX4_pack_20 rfl rfl ?_
      obtain ⟨hk7, h⟩ := h
      refine gf_RX4_36 hC dX4_pack_21 hk7 ?_
      refine z_icmp_ge hC (tgt := 76) dX4_pack_24 (by decide) (fun hc => ?_) (fun hc => ?_)
      · have h := h.1 hc
        refine z_aload_n hC (q := 0) dX4_pack_76 rfl rfl ?_
        refine z_iconst hC (v := 0) k_iconst_0 dX4_pack_77 ?_
        obtain ⟨hk8, h⟩ := h
        refine cl_RX4_48 hC (c_X4_putByte _ G x0 0 K N I L R _ h) hk8 dX4_pack_78 (by rw [hRm]; exact ⟨Nat.le_of_ble_eq_true rfl, Nat.le_of_ble_eq_true rfl⟩) ⟨Nat.zero_le _, Nat.zero_le _⟩ (Nat.le_of_ble_eq_true rfl) (z_kLv (I := I) (L := L) (fun I9 L10 h => ?_))
        exact z_vret hC dX4_pack_81 ⟨rfl, rfl, rfl, rfl, h⟩
      · have h := h.2 hc
        refine z_aload_n hC (q := 1) dX4_pack_27 rfl rfl ?_
        refine z_iload_n hC (q := 2) dX4_pack_28 rfl rfl ?_
        refine z_iconst hC (v := 0) k_iconst_0 dX4_pack_29 ?_
        refine cl_RX4_41 hC (c_X7_at _ G x1 x2 0 K N I L R _ h) hk7 dX4_pack_30 (by rw [hRm]; exact ⟨Nat.le_of_ble_eq_true rfl, Nat.le_of_ble_eq_true rfl⟩) ⟨Nat.zero_le _, Nat.zero_le _⟩ (Nat.le_of_ble_eq_true rfl) (z_kPi (fun r11 h => ?_))
        refine z_istore_n hC (lv1 := [(3, .int r11), (0, .ref x0), (1, .ref x1), (2, .int x2)]) dX4_pack_33 rfl (by decide) rfl ?_
        refine z_aload_n hC (q := 2) dX4_pack_34 rfl rfl ?_
        refine z_iload_n hC (q := 3) dX4_pack_35 rfl rfl ?_
        refine z_iconst hC (v := 1) k_iconst_1 dX4_pack_36 ?_
        refine cl_RX4_41 hC (c_X7_at _ G x1 x2 1 K N I L R _ h) hk7 dX4_pack_37 (by rw [hRm]; exact ⟨Nat.le_of_ble_eq_true rfl, Nat.le_of_ble_eq_true rfl⟩) ⟨Nat.zero_le _, Nat.zero_le _⟩ (Nat.le_of_ble_eq_true rfl) (z_kPi (fun r12 h => ?_))
        refine z_istore hC (lv1 := [(4, .int r12), (3, .int r11), (0, .ref x0), (1, .ref x1), (2, .int x2)]) dX4_pack_40 (by decide) rfl ?_
        refine z_aload_n hC (q := 2) dX4_pack_42 rfl rfl ?_
        refine z_iload_n hC (q := 1) dX4_pack_43 rfl rfl ?_
        refine z_aload_n hC (q := 2) dX4_pack_44 rfl rfl ?_
        obtain ⟨hk13, h⟩ := h
        refine gf_RX4_26 hC dX4_pack_45 hk13 ?_
        refine z_isub hC dX4_pack_48 ?_
        refine z_iload hC (q := 0) dX4_pack_49 rfl ?_
        refine z_aload_n hC (q := 2) dX4_pack_51 rfl rfl ?_
        refine gf_RX4_30 hC dX4_pack_52 hk13 ?_
        refine z_isub hC dX4_pack_55 ?_
        refine cl_RX4_45 hC (c_X4_packRow _ G x0 (r11 - (I x0 3)) (r12 - (I x0 4)) K N I L R _ h) hk13 dX4_pack_56 (by rw [hRm]; exact ⟨Nat.le_of_ble_eq_true rfl, Nat.le_of_ble_eq_true rfl⟩) ⟨Nat.zero_le _, Nat.zero_le _⟩ (Nat.le_of_ble_eq_true rfl) (z_kLv (I := I) (L := L) (fun I14 L15 h => ?_))
        refine z_aload_n hC (q := 2) dX4_pack_59 rfl rfl ?_
        refine z_iload_n hC (q := 1) dX4_pack_60 rfl rfl ?_
        refine pf_RX4_26 hC dX4_pack_61 hk13 ?_
        refine z_genI (fun I16 eI16 => ?_)
        have h := h I16 eI16
        refine z_aload_n hC (q := 2) dX4_pack_64 rfl rfl ?_
        refine z_iload hC (q := 0) dX4_pack_65 rfl ?_
        refine pf_RX4_30 hC dX4_pack_67 hk13 ?_
        refine z_genI (fun I17 eI17 => ?_)
        have h := h I17 eI17
        obtain ⟨v18, ev18⟩ : ∃ y : Int32, y = x2 + 1 := ⟨_, rfl⟩
        have h := h v18 ev18
        refine z_iinc hC (q := 4) (v := v18) (lv1 := [(2, .int v18), (4, .int r12), (3, .int r11), (0, .ref x0), (1, .ref x1)]) dX4_pack_70 rfl (by rw [ev18, k_iinc_1]) (by decide) rfl ?_
        refine z_goto hC (tgt := 19) dX4_pack_73 (by decide) ?_
        exact z_sub [(0, .ref x0), (1, .ref x1), (2, .int v18)] [3, 4, 0] rfl (hC19 _ _ _ _ _ h)
  exact key n x0 x1 x2 I L h0
set_option maxHeartbeats 4000000 in
set_option maxRecDepth 100000 in
theorem c_X4_pack  (l : Launch) (G : ZG) (a0 : Nat) (a1 : Nat) (K : MK) (N : MK) (I : MI) (L : ML) (R : MR) (Q : MI → ML → Prop) (h : w_X4_pack a0 a1 K N I L R Q) : Met l yX4_pack (.code yX4_pack cX4_pack 5 none :: z_tbl) rm_X4_pack (z_Pc G [.ref a0, .ref a1] K N I L R) (z_Qc G (qLv K N R Q)) 0 0 (z_A G) := by
  refine z_met (by decide) (Nat.le_of_ble_eq_true rfl) (fun X hX hRm hC0 hnm => ?_)
  subst hX
  have hC : ZOk X G RX4 cX4_pack 5 none := hC0
  show Z X G 5 0 0 _ K N I L R 0 [(0, .ref a0), (1, .ref a1)] []
  delta w_X4_pack at h
  refine z_aload_n hC (q := 0) dX4_pack_0 rfl rfl ?_
  obtain ⟨hk1, h⟩ := h
  obtain ⟨b2, hb2, h⟩ := h
  refine gf_RX4_16 hC dX4_pack_1 hk1 hb2 ?_
  obtain ⟨hk3, h⟩ := h
  refine cl_RX4_33 hC (c_X7_forget _ G b2 K N I L R _ h) hk3 dX4_pack_4 (by rw [hRm]; exact ⟨Nat.le_of_ble_eq_true rfl, Nat.le_of_ble_eq_true rfl⟩) ⟨Nat.zero_le _, Nat.zero_le _⟩ (Nat.le_of_ble_eq_true rfl) (z_kIv (I := I) (fun I4 h => ?_))
  refine z_aload_n hC (q := 0) dX4_pack_7 rfl rfl ?_
  refine z_iconst hC (v := 0) k_iconst_0 dX4_pack_8 ?_
  refine pf_RX4_26 hC dX4_pack_9 hk1 ?_
  refine z_genI (fun I5 eI5 => ?_)
  have h := h I5 eI5
  refine z_aload_n hC (q := 0) dX4_pack_12 rfl rfl ?_
  refine z_iconst hC (v := 1) k_iconst_1 dX4_pack_13 ?_
  refine pf_RX4_30 hC dX4_pack_14 hk1 ?_
  refine z_genI (fun I6 eI6 => ?_)
  have h := h I6 eI6
  refine z_iconst hC (v := 0) k_iconst_0 dX4_pack_17 ?_
  refine z_istore_n hC (lv1 := [(2, .int 0), (0, .ref a0), (1, .ref a1)]) dX4_pack_18 rfl (by decide) rfl ?_
  exact z_sub [(0, .ref a0), (1, .ref a1), (2, .int 0)] [1, 2, 0] rfl (z_X4_pack_19 hC hRm h)
def w_X7_copyFrom  (a0 : Nat) (a1 : Nat) (K : MK) (N : MK) (I : MI) (L : ML) (R : MR) (Q : MI → ML → Prop) : Prop := K a1 = 8 ∧ K a0 = 8 ∧ ∃ b3 : Nat, R a0 1 = some b3 ∧ K b3 = 15 ∧ ∀ I5 : MI, I5 = mup I a0 3 (imin (I a1 3) (nI (N b3))) → ∃ b6 : Nat, R a1 1 = some b6 ∧ K b6 = 15 ∧ mcp_ok 0 0 (imin (nI (N b3)) (nI (N b6))) (N b6) (N b3) ∧ ∀ L9 : ML, L9 = mcp L b6 (ix 0) b3 (ix 0) (ix (imin (nI (N b3)) (nI (N b6)))) → ∃ b10 : Nat, R a1 2 = some b10 ∧ ∃ b11 : Nat, R a0 2 = some b11 ∧ K b11 = 14 ∧ K b10 = 14 ∧ mcp_ok 0 0 (imin (nI (N b11)) (nI (N b10))) (N b10) (N b11) ∧ ∀ I15 : MI, I15 = mcp I5 b10 (ix 0) b11 (ix 0) (ix (imin (nI (N b11)) (nI (N b10)))) → Q I15 L9
set_option maxHeartbeats 4000000 in
set_option maxRecDepth 100000 in
theorem c_X7_copyFrom  (l : Launch) (G : ZG) (a0 : Nat) (a1 : Nat) (K : MK) (N : MK) (I : MI) (L : ML) (R : MR) (Q : MI → ML → Prop) (h : w_X7_copyFrom a0 a1 K N I L R Q) : Met l yX7_copyFrom (.code yX7_copyFrom cX7_copyFrom 2 none :: z_tbl) rm_X7_copyFrom (z_Pc G [.ref a0, .ref a1] K N I L R) (z_Qc G (qLv K N R Q)) 0 0 (z_A G) := by
  refine z_met (by decide) (Nat.le_of_ble_eq_true rfl) (fun X hX hRm hC0 hnm => ?_)
  subst hX
  have hC : ZOk X G RX7 cX7_copyFrom 2 none := hC0
  show Z X G 2 0 0 _ K N I L R 0 [(0, .ref a0), (1, .ref a1)] []
  delta w_X7_copyFrom at h
  refine z_aload_n hC (q := 0) dX7_copyFrom_0 rfl rfl ?_
  refine z_aload_n hC (q := 1) dX7_copyFrom_1 rfl rfl ?_
  obtain ⟨hk1, h⟩ := h
  refine gf_RX7_9 hC dX7_copyFrom_2 hk1 ?_
  refine z_aload_n hC (q := 0) dX7_copyFrom_5 rfl rfl ?_
  obtain ⟨hk2, h⟩ := h
  obtain ⟨b3, hb3, h⟩ := h
  refine gf_RX7_18 hC dX7_copyFrom_6 hk2 hb3 ?_
  obtain ⟨hk4, h⟩ := h
  refine z_alen15 hC hk4 dX7_copyFrom_9 ?_
  refine z_mmin hC ml_RX7_26 dX7_copyFrom_10 (by rw [hRm]; exact ⟨Nat.le_of_ble_eq_true rfl, Nat.le_of_ble_eq_true rfl⟩) ⟨Nat.zero_le _, Nat.zero_le _⟩ (Nat.le_of_ble_eq_true rfl) ?_
  refine pf_RX7_9 hC dX7_copyFrom_13 hk2 ?_
  refine z_genI (fun I5 eI5 => ?_)
  have h := h I5 eI5
  refine z_aload_n hC (q := 1) dX7_copyFrom_16 rfl rfl ?_
  obtain ⟨b6, hb6, h⟩ := h
  refine gf_RX7_18 hC dX7_copyFrom_17 hk1 hb6 ?_
  refine z_iconst hC (v := 0) k_iconst_0 dX7_copyFrom_20 ?_
  refine z_aload_n hC (q := 0) dX7_copyFrom_21 rfl rfl ?_
  refine gf_RX7_18 hC dX7_copyFrom_22 hk2 hb3 ?_
  refine z_iconst hC (v := 0) k_iconst_0 dX7_copyFrom_25 ?_
  refine z_aload_n hC (q := 0) dX7_copyFrom_26 rfl rfl ?_
  refine gf_RX7_18 hC dX7_copyFrom_27 hk2 hb3 ?_
  refine z_alen15 hC hk4 dX7_copyFrom_30 ?_
  refine z_aload_n hC (q := 1) dX7_copyFrom_31 rfl rfl ?_
  refine gf_RX7_18 hC dX7_copyFrom_32 hk1 hb6 ?_
  obtain ⟨hk7, h⟩ := h
  refine z_alen15 hC hk7 dX7_copyFrom_35 ?_
  refine z_mmin hC ml_RX7_26 dX7_copyFrom_36 (by rw [hRm]; exact ⟨Nat.le_of_ble_eq_true rfl, Nat.le_of_ble_eq_true rfl⟩) ⟨Nat.zero_le _, Nat.zero_le _⟩ (Nat.le_of_ble_eq_true rfl) ?_
  obtain ⟨hcp8, h⟩ := h
  refine z_copy15 hC ml_RX7_32 dX7_copyFrom_39 hk7 hk4 hcp8 (by rw [hRm]; exact ⟨Nat.le_of_ble_eq_true rfl, Nat.le_of_ble_eq_true rfl⟩) (Nat.le_of_ble_eq_true rfl) ?_
  refine z_genL (fun L9 eL9 => ?_)
  have h := h L9 eL9
  refine z_aload_n hC (q := 1) dX7_copyFrom_42 rfl rfl ?_
  obtain ⟨b10, hb10, h⟩ := h
  refine gf_RX7_22 hC dX7_copyFrom_43 hk1 hb10 ?_
  refine z_iconst hC (v := 0) k_iconst_0 dX7_copyFrom_46 ?_
  refine z_aload_n hC (q := 0) dX7_copyFrom_47 rfl rfl ?_
  obtain ⟨b11, hb11, h⟩ := h
  refine gf_RX7_22 hC dX7_copyFrom_48 hk2 hb11 ?_
  refine z_iconst hC (v := 0) k_iconst_0 dX7_copyFrom_51 ?_
  refine z_aload_n hC (q := 0) dX7_copyFrom_52 rfl rfl ?_
  refine gf_RX7_22 hC dX7_copyFrom_53 hk2 hb11 ?_
  obtain ⟨hk12, h⟩ := h
  refine z_alen14 hC hk12 dX7_copyFrom_56 ?_
  refine z_aload_n hC (q := 1) dX7_copyFrom_57 rfl rfl ?_
  refine gf_RX7_22 hC dX7_copyFrom_58 hk1 hb10 ?_
  obtain ⟨hk13, h⟩ := h
  refine z_alen14 hC hk13 dX7_copyFrom_61 ?_
  refine z_mmin hC ml_RX7_26 dX7_copyFrom_62 (by rw [hRm]; exact ⟨Nat.le_of_ble_eq_true rfl, Nat.le_of_ble_eq_true rfl⟩) ⟨Nat.zero_le _, Nat.zero_le _⟩ (Nat.le_of_ble_eq_true rfl) ?_
  obtain ⟨hcp14, h⟩ := h
  refine z_copy14 hC ml_RX7_32 dX7_copyFrom_65 hk13 hk12 hcp14 (by rw [hRm]; exact ⟨Nat.le_of_ble_eq_true rfl, Nat.le_of_ble_eq_true rfl⟩) (Nat.le_of_ble_eq_true rfl) ?_
  refine z_genI (fun I15 eI15 => ?_)
  have h := h I15 eI15
  exact z_vret hC dX7_copyFrom_68 ⟨rfl, rfl, rfl, rfl, h⟩
def w_X4_unpackEnd  (a0 : Nat) (a1 : Nat) (a2 : Int32) (K : MK) (N : MK) (I : MI) (L : ML) (R : MR) (Q : Int32 → MI → ML → Prop) : Prop := K a1 = 9 ∧ ((I a1 1) ≤ a2 → K a0 = 5 ∧ ∃ b3 : Nat, R a0 1 = some b3 ∧ ∃ b4 : Nat, R a0 2 = some b4 ∧ K b3 = 8 ∧ w_X7_copyFrom b3 b4 K N I L R (fun I6 L7 => Q (-1) I6 L7)) ∧ (¬ (I a1 1) ≤ a2 → Q a2 I L)
set_option maxHeartbeats 4000000 in
set_option maxRecDepth 100000 in
theorem c_X4_unpackEnd  (l : Launch) (G : ZG) (a0 : Nat) (a1 : Nat) (a2 : Int32) (K : MK) (N : MK) (I : MI) (L : ML) (R : MR) (Q : Int32 → MI → ML → Prop) (h : w_X4_unpackEnd a0 a1 a2 K N I L R Q) : Met l yX4_unpackEnd (.code yX4_unpackEnd cX4_unpackEnd 3 (some .int) :: z_tbl) rm_X4_unpackEnd (z_Pc G [.ref a0, .ref a1, .int a2] K N I L R) (z_Qc G (qLi K N R Q)) 0 0 (z_A G) := by
  refine z_met (by decide) (Nat.le_of_ble_eq_true rfl) (fun X hX hRm hC0 hnm => ?_)
  subst hX
  have hC : ZOk X G RX4 cX4_unpackEnd 3 (some .int) := hC0
  show Z X G 3 0 0 _ K N I L R 0 [(0, .ref a0), (1, .ref a1), (2, .int a2)] []
  delta w_X4_unpackEnd at h
  refine z_iload_n hC (q := 2) dX4_unpackEnd_0 rfl rfl ?_
  refine z_aload_n hC (q := 1) dX4_unpackEnd_1 rfl rfl ?_
  obtain ⟨hk1, h⟩ := h
  refine gf_RX4_75 hC dX4_unpackEnd_2 hk1 ?_
  refine z_icmp_ge hC (tgt := 10) dX4_unpackEnd_5 (by decide) (fun hc => ?_) (fun hc => ?_)
  · have h := h.1 hc
    refine z_aload_n hC (q := 0) dX4_unpackEnd_10 rfl rfl ?_
    obtain ⟨hk2, h⟩ := h
    obtain ⟨b3, hb3, h⟩ := h
    refine gf_RX4_20 hC dX4_unpackEnd_11 hk2 hb3 ?_
    refine z_aload_n hC (q := 0) dX4_unpackEnd_14 rfl rfl ?_
    obtain ⟨b4, hb4, h⟩ := h
    refine gf_RX4_23 hC dX4_unpackEnd_15 hk2 hb4 ?_
    obtain ⟨hk5, h⟩ := h
    refine cl_RX4_90 hC (c_X7_copyFrom _ G b3 b4 K N I L R _ h) hk5 dX4_unpackEnd_18 (by rw [hRm]; exact ⟨Nat.le_of_ble_eq_true rfl, Nat.le_of_ble_eq_true rfl⟩) ⟨Nat.zero_le _, Nat.zero_le _⟩ (Nat.le_of_ble_eq_true rfl) (z_kLv (I := I) (L := L) (fun I6 L7 h => ?_))
    refine z_iconst hC (v := (-1)) k_iconst_m1 dX4_unpackEnd_21 ?_
    exact z_iret hC dX4_unpackEnd_22 ⟨_, rfl, rfl, rfl, rfl, h⟩
  · have h := h.2 hc
    refine z_iload_n hC (q := 2) dX4_unpackEnd_8 rfl rfl ?_
    exact z_iret hC dX4_unpackEnd_9 ⟨_, rfl, rfl, rfl, rfl, h⟩
def w_X4_unpackRow_39  (x0 : Nat) (s0 : Int32) (K : MK) (N : MK) (I : MI) (L : ML) (R : MR)  (Q : Bool → MI → ML → Prop) : Prop := K x0 = 5 ∧ ((I x0 4) < 1 → (s0 = 0 → Q false I L) ∧ (¬ s0 = 0 → Q false I L)) ∧ (¬ (I x0 4) < 1 → ((250 : Int32) < (I x0 4) → (s0 = 0 → Q false I L) ∧ (¬ s0 = 0 → Q false I L)) ∧ (¬ (250 : Int32) < (I x0 4) → (s0 = 0 → Q false I L) ∧ (¬ s0 = 0 → ((255 : Int32) < (I x0 3) → Q false I L) ∧ (¬ (255 : Int32) < (I x0 3) → ∃ b5 : Nat, R x0 2 = some b5 ∧ K b5 = 8 ∧ w_X7_isFull b5 K N I L R (fun r7 => (r7 = false → w_X7_add b5 0 K N I L R (fun r8 I9 L10 => w_X7_put b5 r8 0 (I9 x0 3) K N I9 L10 R (fun I11 => w_X7_put b5 r8 1 (I11 x0 4) K N I11 L10 R (fun I12 => Q true I12 L10)))) ∧ (r7 = true → Q false I L))))))
def w_X4_unpackRow_34  (x0 : Nat)  (K : MK) (N : MK) (I : MI) (L : ML) (R : MR)  (Q : Bool → MI → ML → Prop) : Prop := w_X4_unpackRow_39 x0 1 K N I L R Q
def w_X4_unpackRow  (a0 : Nat) (K : MK) (N : MK) (I : MI) (L : ML) (R : MR) (Q : Bool → MI → ML → Prop) : Prop := K a0 = 5 ∧ ∃ b2 : Nat, R a0 2 = some b2 ∧ K b2 = 8 ∧ ((I b2 3) = 0 → w_X4_unpackRow_34 a0 K N I L R Q) ∧ (¬ (I b2 3) = 0 → w_X7_at b2 ((I b2 3) - 1) 0 K N I L R (fun r13 => ((I a0 3) ≤ r13 → w_X4_unpackRow_39 a0 0 K N I L R Q) ∧ (¬ (I a0 3) ≤ r13 → w_X4_unpackRow_34 a0 K N I L R Q)))
set_option maxHeartbeats 4000000 in
set_option maxRecDepth 100000 in
theorem z_X4_unpackRow_39 {X : ZX} {G : ZG}  {x0 : Nat} {s0 : Int32} {K : MK} {N : MK} {I : MI} {L : ML} {R : MR}  {Q : Bool → MI → ML → Prop} (hC : ZOk X G RX4 cX4_unpackRow 4 (some .boolean)) (hRm : X.2.2.2.1 = rm_X4_unpackRow) (h : w_X4_unpackRow_39 x0 s0 K N I L R  Q) : Z X G 4 0 0 (z_T X G (qLz K N R Q) 0 0) K N I L R 39 [(0, .ref x0)] [.int s0] := by
  delta w_X4_unpackRow_39 at h
  refine z_istore_n hC (lv1 := [(1, .int s0), (0, .ref x0)]) dX4_unpackRow_39 rfl (by decide) rfl ?_
  refine z_aload_n hC (q := 1) dX4_unpackRow_40 rfl rfl ?_
  obtain ⟨hk4, h⟩ := h
  refine gf_RX4_30 hC dX4_unpackRow_41 hk4 ?_
  refine z_iconst hC (v := 1) k_iconst_1 dX4_unpackRow_44 ?_
  refine z_icmp_lt hC (tgt := 62) dX4_unpackRow_45 (by decide) (fun hc => ?_) (fun hc => ?_)
  · have h := h.1 hc
    refine z_iconst hC (v := 0) k_iconst_0 dX4_unpackRow_62 ?_
    refine z_istore_n hC (lv1 := [(2, .int 0), (1, .int s0), (0, .ref x0)]) dX4_unpackRow_63 rfl (by decide) rfl ?_
    refine z_iload_n hC (q := 1) dX4_unpackRow_64 rfl rfl ?_
    refine z_if_eq hC (tgt := 92) dX4_unpackRow_65 (by decide) (fun hc => ?_) (fun hc => ?_)
    · have h := h.1 hc
      refine z_iconst hC (v := 0) k_iconst_0 dX4_unpackRow_92 ?_
      exact z_zret (b := false) hC dX4_unpackRow_93 rfl ⟨false, rfl, rfl, rfl, rfl, h⟩
    · have h := h.2 hc
      refine z_iload_n hC (q := 0) dX4_unpackRow_68 rfl rfl ?_
      refine z_if_eq hC (tgt := 92) dX4_unpackRow_69 (by decide) (fun _ => ?_) (fun hc => absurd hc (by decide))
      refine z_iconst hC (v := 0) k_iconst_0 dX4_unpackRow_92 ?_
      exact z_zret (b := false) hC dX4_unpackRow_93 rfl ⟨false, rfl, rfl, rfl, rfl, h⟩
  · have h := h.2 hc
    refine z_aload_n hC (q := 1) dX4_unpackRow_48 rfl rfl ?_
    refine gf_RX4_30 hC dX4_unpackRow_49 hk4 ?_
    refine z_sipush hC (v := 250) k_sipush_250 dX4_unpackRow_52 ?_
    refine z_icmp_gt hC (tgt := 62) dX4_unpackRow_55 (by decide) (fun hc => ?_) (fun hc => ?_)
    · have h := h.1 hc
      refine z_iconst hC (v := 0) k_iconst_0 dX4_unpackRow_62 ?_
      refine z_istore_n hC (lv1 := [(2, .int 0), (1, .int s0), (0, .ref x0)]) dX4_unpackRow_63 rfl (by decide) rfl ?_
      refine z_iload_n hC (q := 1) dX4_unpackRow_64 rfl rfl ?_
      refine z_if_eq hC (tgt := 92) dX4_unpackRow_65 (by decide) (fun hc => ?_) (fun hc => ?_)
      · have h := h.1 hc
        refine z_iconst hC (v := 0) k_iconst_0 dX4_unpackRow_92 ?_
        exact z_zret (b := false) hC dX4_unpackRow_93 rfl ⟨false, rfl, rfl, rfl, rfl, h⟩
      · have h := h.2 hc
        refine z_iload_n hC (q := 0) dX4_unpackRow_68 rfl rfl ?_
        refine z_if_eq hC (tgt := 92) dX4_unpackRow_69 (by decide) (fun _ => ?_) (fun hc => absurd hc (by decide))
        refine z_iconst hC (v := 0) k_iconst_0 dX4_unpackRow_92 ?_
        exact z_zret (b := false) hC dX4_unpackRow_93 rfl ⟨false, rfl, rfl, rfl, rfl, h⟩
    · have h := h.2 hc
      refine z_iconst hC (v := 1) k_iconst_1 dX4_unpackRow_58 ?_
      refine z_goto hC (tgt := 63) dX4_unpackRow_59 (by decide) ?_
      refine z_istore_n hC (lv1 := [(2, .int 1), (1, .int s0), (0, .ref x0)]) dX4_unpackRow_63 rfl (by decide) rfl ?_
      refine z_iload_n hC (q := 1) dX4_unpackRow_64 rfl rfl ?_
      refine z_if_eq hC (tgt := 92) dX4_unpackRow_65 (by decide) (fun hc => ?_) (fun hc => ?_)
      · have h := h.1 hc
        refine z_iconst hC (v := 0) k_iconst_0 dX4_unpackRow_92 ?_
        exact z_zret (b := false) hC dX4_unpackRow_93 rfl ⟨false, rfl, rfl, rfl, rfl, h⟩
      · have h := h.2 hc
        refine z_iload_n hC (q := 0) dX4_unpackRow_68 rfl rfl ?_
        refine z_if_eq hC (tgt := 92) dX4_unpackRow_69 (by decide) (fun hc => absurd hc (by decide)) (fun _ => ?_)
        refine z_aload_n hC (q := 2) dX4_unpackRow_72 rfl rfl ?_
        refine gf_RX4_26 hC dX4_unpackRow_73 hk4 ?_
        refine z_sipush hC (v := 255) k_sipush_255 dX4_unpackRow_76 ?_
        refine z_icmp_gt hC (tgt := 92) dX4_unpackRow_79 (by decide) (fun hc => ?_) (fun hc => ?_)
        · have h := h.1 hc
          refine z_iconst hC (v := 0) k_iconst_0 dX4_unpackRow_92 ?_
          exact z_zret (b := false) hC dX4_unpackRow_93 rfl ⟨false, rfl, rfl, rfl, rfl, h⟩
        · have h := h.2 hc
          refine z_aload_n hC (q := 2) dX4_unpackRow_82 rfl rfl ?_
          obtain ⟨b5, hb5, h⟩ := h
          refine gf_RX4_23 hC dX4_unpackRow_83 hk4 hb5 ?_
          obtain ⟨hk6, h⟩ := h
          refine cl_RX4_100 hC (c_X7_isFull _ G b5 K N I L R _ h) hk6 dX4_unpackRow_86 (by rw [hRm]; exact ⟨Nat.le_of_ble_eq_true rfl, Nat.le_of_ble_eq_true rfl⟩) ⟨Nat.zero_le _, Nat.zero_le _⟩ (Nat.le_of_ble_eq_true rfl) (z_kPz (fun r7 h => ?_))
          refine z_ifz_eq hC (tgt := 94) dX4_unpackRow_89 (by decide) (fun hc => ?_) (fun hc => ?_)
          · have h := h.1 hc
            refine z_aload_n hC (q := 2) dX4_unpackRow_94 rfl rfl ?_
            refine gf_RX4_23 hC dX4_unpackRow_95 hk4 hb5 ?_
            refine z_lconst hC (v := 0) k_lconst_0 dX4_unpackRow_98 ?_
            refine cl_RX4_52 hC (c_X7_add _ G b5 0 K N I L R _ h) hk6 dX4_unpackRow_99 (by rw [hRm]; exact ⟨Nat.le_of_ble_eq_true rfl, Nat.le_of_ble_eq_true rfl⟩) ⟨Nat.zero_le _, Nat.zero_le _⟩ (Nat.le_of_ble_eq_true rfl) (z_kLi (I := I) (L := L) (fun r8 I9 L10 h => ?_))
            refine z_istore_n hC (lv1 := [(3, .int r8), (2, .int 1), (1, .int s0), (0, .ref x0)]) dX4_unpackRow_102 rfl (by decide) rfl ?_
            refine z_aload_n hC (q := 3) dX4_unpackRow_103 rfl rfl ?_
            refine gf_RX4_23 hC dX4_unpackRow_104 hk4 hb5 ?_
            refine z_iload_n hC (q := 0) dX4_unpackRow_107 rfl rfl ?_
            refine z_iconst hC (v := 0) k_iconst_0 dX4_unpackRow_108 ?_
            refine z_aload_n hC (q := 3) dX4_unpackRow_109 rfl rfl ?_
            refine gf_RX4_26 hC dX4_unpackRow_110 hk4 ?_
            refine cl_RX4_56 hC (c_X7_put _ G b5 r8 0 (I9 x0 3) K N I9 L10 R _ h) hk6 dX4_unpackRow_113 (by rw [hRm]; exact ⟨Nat.le_of_ble_eq_true rfl, Nat.le_of_ble_eq_true rfl⟩) ⟨Nat.zero_le _, Nat.zero_le _⟩ (Nat.le_of_ble_eq_true rfl) (z_kIv (I := I9) (fun I11 h => ?_))
            refine z_aload_n hC (q := 3) dX4_unpackRow_116 rfl rfl ?_
            refine gf_RX4_23 hC dX4_unpackRow_117 hk4 hb5 ?_
            refine z_iload_n hC (q := 0) dX4_unpackRow_120 rfl rfl ?_
            refine z_iconst hC (v := 1) k_iconst_1 dX4_unpackRow_121 ?_
            refine z_aload_n hC (q := 3) dX4_unpackRow_122 rfl rfl ?_
            refine gf_RX4_30 hC dX4_unpackRow_123 hk4 ?_
            refine cl_RX4_56 hC (c_X7_put _ G b5 r8 1 (I11 x0 4) K N I11 L10 R _ h) hk6 dX4_unpackRow_126 (by rw [hRm]; exact ⟨Nat.le_of_ble_eq_true rfl, Nat.le_of_ble_eq_true rfl⟩) ⟨Nat.zero_le _, Nat.zero_le _⟩ (Nat.le_of_ble_eq_true rfl) (z_kIv (I := I11) (fun I12 h => ?_))
            refine z_iconst hC (v := 1) k_iconst_1 dX4_unpackRow_129 ?_
            exact z_zret (b := true) hC dX4_unpackRow_130 rfl ⟨true, rfl, rfl, rfl, rfl, h⟩
          · have h := h.2 hc
            refine z_iconst hC (v := 0) k_iconst_0 dX4_unpackRow_92 ?_
            exact z_zret (b := false) hC dX4_unpackRow_93 rfl ⟨false, rfl, rfl, rfl, rfl, h⟩
set_option maxHeartbeats 4000000 in
set_option maxRecDepth 100000 in
theorem z_X4_unpackRow_34 {X : ZX} {G : ZG}  {x0 : Nat}  {K : MK} {N : MK} {I : MI} {L : ML} {R : MR}  {Q : Bool → MI → ML → Prop} (hC : ZOk X G RX4 cX4_unpackRow 4 (some .boolean)) (hRm : X.2.2.2.1 = rm_X4_unpackRow) (h : w_X4_unpackRow_34 x0 K N I L R  Q) : Z X G 4 0 0 (z_T X G (qLz K N R Q) 0 0) K N I L R 34 [(0, .ref x0)] [] := by
  delta w_X4_unpackRow_34 at h
  refine z_iconst hC (v := 1) k_iconst_1 dX4_unpackRow_34 ?_
  refine z_goto hC (tgt := 39) dX4_unpackRow_35 (by decide) ?_
  exact z_sub [(0, .ref x0)] [0] rfl (z_X4_unpackRow_39 hC hRm h)
set_option maxHeartbeats 4000000 in
set_option maxRecDepth 100000 in
theorem c_X4_unpackRow  (l : Launch) (G : ZG) (a0 : Nat) (K : MK) (N : MK) (I : MI) (L : ML) (R : MR) (Q : Bool → MI → ML → Prop) (h : w_X4_unpackRow a0 K N I L R Q) : Met l yX4_unpackRow (.code yX4_unpackRow cX4_unpackRow 4 (some .boolean) :: z_tbl) rm_X4_unpackRow (z_Pc G [.ref a0] K N I L R) (z_Qc G (qLz K N R Q)) 0 0 (z_A G) := by
  refine z_met (by decide) (Nat.le_of_ble_eq_true rfl) (fun X hX hRm hC0 hnm => ?_)
  subst hX
  have hC : ZOk X G RX4 cX4_unpackRow 4 (some .boolean) := hC0
  show Z X G 4 0 0 _ K N I L R 0 [(0, .ref a0)] []
  delta w_X4_unpackRow at h
  refine z_aload_n hC (q := 0) dX4_unpackRow_0 rfl rfl ?_
  obtain ⟨hk1, h⟩ := h
  obtain ⟨b2, hb2, h⟩ := h
  refine gf_RX4_23 hC dX4_unpackRow_1 hk1 hb2 ?_
  obtain ⟨hk3, h⟩ := h
  refine gf_RX4_36 hC dX4_unpackRow_4 hk3 ?_
  refine z_if_eq hC (tgt := 34) dX4_unpackRow_7 (by decide) (fun hc => ?_) (fun hc => ?_)
  · have h := h.1 hc
    exact z_sub [(0, .ref a0)] [0] rfl (z_X4_unpackRow_34 hC hRm h)
  · have h := h.2 hc
    refine z_aload_n hC (q := 0) dX4_unpackRow_10 rfl rfl ?_
    refine gf_RX4_26 hC dX4_unpackRow_11 hk1 ?_
    refine z_aload_n hC (q := 0) dX4_unpackRow_14 rfl rfl ?_
    refine gf_RX4_23 hC dX4_unpackRow_15 hk1 hb2 ?_
    refine z_aload_n hC (q := 0) dX4_unpackRow_18 rfl rfl ?_
    refine gf_RX4_23 hC dX4_unpackRow_19 hk1 hb2 ?_
    refine gf_RX4_36 hC dX4_unpackRow_22 hk3 ?_
    refine z_iconst hC (v := 1) k_iconst_1 dX4_unpackRow_25 ?_
    refine z_isub hC dX4_unpackRow_26 ?_
    refine z_iconst hC (v := 0) k_iconst_0 dX4_unpackRow_27 ?_
    refine cl_RX4_41 hC (c_X7_at _ G b2 ((I b2 3) - 1) 0 K N I L R _ h) hk3 dX4_unpackRow_28 (by rw [hRm]; exact ⟨Nat.le_of_ble_eq_true rfl, Nat.le_of_ble_eq_true rfl⟩) ⟨Nat.zero_le _, Nat.zero_le _⟩ (Nat.le_of_ble_eq_true rfl) (z_kPi (fun r13 h => ?_))
    refine z_icmp_le hC (tgt := 38) dX4_unpackRow_31 (by decide) (fun hc => ?_) (fun hc => ?_)
    · have h := h.1 hc
      refine z_iconst hC (v := 0) k_iconst_0 dX4_unpackRow_38 ?_
      exact z_sub [(0, .ref a0)] [0] rfl (z_X4_unpackRow_39 hC hRm h)
    · have h := h.2 hc
      exact z_sub [(0, .ref a0)] [0] rfl (z_X4_unpackRow_34 hC hRm h)
def w_X4_unpackOp  (a0 : Nat) (a1 : Nat) (a2 : Int32) (K : MK) (N : MK) (I : MI) (L : ML) (R : MR) (Q : Bool → MI → ML → Prop) : Prop := K a1 = 9 ∧ w_X8_byteOf a1 a2 K N I L R (fun r2 => (¬ r2 = 1 → (¬ r2 = 2 → (¬ r2 = 3 → (¬ r2 = 4 → K a0 = 5 ∧ ∀ I4 : MI, I4 = mup I a0 3 ((I a0 3) + ((r2 - 10) / 12)) → ∀ I5 : MI, I5 = mup I4 a0 4 ((I4 a0 4) + (((r2 - 10) - (r2 - 10) / 12 * 12) + (-4))) → w_X4_unpackRow a0 K N I5 L R (fun r6 I7 L8 => Q r6 I7 L8)) ∧ (r2 = 4 → K a0 = 5 ∧ ∀ I10 : MI, I10 = mup I a0 3 ((I a0 3) + 17) → ((255 : Int32) < (I10 a0 3) → Q false I10 L) ∧ (¬ (255 : Int32) < (I10 a0 3) → Q true I10 L))) ∧ (r2 = 3 → w_X8_byteOf a1 (a2 + 1) K N I L R (fun r11 => w_X8_byteOf a1 (a2 + 2) K N I L R (fun r12 => ∀ v13 : Int32, v13 = ((r11 * 256) + r12) → K a0 = 5 ∧ (v13 < 32768 → ∀ I15 : MI, I15 = mup I a0 4 ((I a0 4) + v13) → ((255 : Int32) < (I15 a0 3) → Q false I15 L) ∧ (¬ (255 : Int32) < (I15 a0 3) → Q true I15 L)) ∧ (¬ v13 < 32768 → ∀ I16 : MI, I16 = mup I a0 4 ((I a0 4) + (v13 - 65536)) → ((255 : Int32) < (I16 a0 3) → Q false I16 L) ∧ (¬ (255 : Int32) < (I16 a0 3) → Q true I16 L)))))) ∧ (r2 = 2 → K a0 = 5 ∧ w_X8_byteOf a1 (a2 + 1) K N I L R (fun r18 => ∀ I19 : MI, I19 = mup I a0 3 ((I a0 3) + r18) → ((255 : Int32) < (I19 a0 3) → Q false I19 L) ∧ (¬ (255 : Int32) < (I19 a0 3) → Q true I19 L)))) ∧ (r2 = 1 → K a0 = 5 ∧ w_X4_unpackRow a0 K N I L R (fun r21 I22 L23 => Q r21 I22 L23)))
set_option maxHeartbeats 4000000 in
set_option maxRecDepth 100000 in
theorem c_X4_unpackOp  (l : Launch) (G : ZG) (a0 : Nat) (a1 : Nat) (a2 : Int32) (K : MK) (N : MK) (I : MI) (L : ML) (R : MR) (Q : Bool → MI → ML → Prop) (h : w_X4_unpackOp a0 a1 a2 K N I L R Q) : Met l yX4_unpackOp (.code yX4_unpackOp cX4_unpackOp 5 (some .boolean) :: z_tbl) rm_X4_unpackOp (z_Pc G [.ref a0, .ref a1, .int a2] K N I L R) (z_Qc G (qLz K N R Q)) 0 0 (z_A G) := by
  refine z_met (by decide) (Nat.le_of_ble_eq_true rfl) (fun X hX hRm hC0 hnm => ?_)
  subst hX
  have hC : ZOk X G RX4 cX4_unpackOp 5 (some .boolean) := hC0
  show Z X G 5 0 0 _ K N I L R 0 [(0, .ref a0), (1, .ref a1), (2, .int a2)] []
  delta w_X4_unpackOp at h
  refine z_aload_n hC (q := 1) dX4_unpackOp_0 rfl rfl ?_
  refine z_iload_n hC (q := 2) dX4_unpackOp_1 rfl rfl ?_
  obtain ⟨hk1, h⟩ := h
  refine cl_RX4_78 hC (c_X8_byteOf _ G a1 a2 K N I L R _ h) hk1 dX4_unpackOp_2 (by rw [hRm]; exact ⟨Nat.le_of_ble_eq_true rfl, Nat.le_of_ble_eq_true rfl⟩) ⟨Nat.zero_le _, Nat.zero_le _⟩ (Nat.le_of_ble_eq_true rfl) (z_kPi (fun r2 h => ?_))
  refine z_istore_n hC (lv1 := [(3, .int r2), (0, .ref a0), (1, .ref a1), (2, .int a2)]) dX4_unpackOp_5 rfl (by decide) rfl ?_
  refine z_iload_n hC (q := 0) dX4_unpackOp_6 rfl rfl ?_
  refine z_iconst hC (v := 1) k_iconst_1 dX4_unpackOp_7 ?_
  refine z_icmp_ne hC (tgt := 16) dX4_unpackOp_8 (by decide) (fun hc => ?_) (fun hc => ?_)
  · have h := h.1 hc
    refine z_iload_n hC (q := 0) dX4_unpackOp_16 rfl rfl ?_
    refine z_iconst hC (v := 2) k_iconst_2 dX4_unpackOp_17 ?_
    refine z_icmp_ne hC (tgt := 40) dX4_unpackOp_18 (by decide) (fun hc => ?_) (fun hc => ?_)
    · have h := h.1 hc
      refine z_iload_n hC (q := 0) dX4_unpackOp_40 rfl rfl ?_
      refine z_iconst hC (v := 3) k_iconst_3 dX4_unpackOp_41 ?_
      refine z_icmp_ne hC (tgt := 95) dX4_unpackOp_42 (by decide) (fun hc => ?_) (fun hc => ?_)
      · have h := h.1 hc
        refine z_iload_n hC (q := 0) dX4_unpackOp_95 rfl rfl ?_
        refine z_iconst hC (v := 4) k_iconst_4 dX4_unpackOp_96 ?_
        refine z_icmp_ne hC (tgt := 114) dX4_unpackOp_97 (by decide) (fun hc => ?_) (fun hc => ?_)
        · have h := h.1 hc
          refine z_aload_n hC (q := 1) dX4_unpackOp_114 rfl rfl ?_
          refine z_dup hC rfl dX4_unpackOp_115 ?_
          obtain ⟨hk3, h⟩ := h
          refine gf_RX4_26 hC dX4_unpackOp_116 hk3 ?_
          refine z_iload_n hC (q := 0) dX4_unpackOp_119 rfl rfl ?_
          refine z_bipush hC (v := 10) k_bipush_10 dX4_unpackOp_120 ?_
          refine z_isub hC dX4_unpackOp_122 ?_
          refine z_bipush hC (v := 12) k_bipush_12 dX4_unpackOp_123 ?_
          refine z_idiv hC (by decide) dX4_unpackOp_125 ?_
          refine z_iadd hC dX4_unpackOp_126 ?_
          refine pf_RX4_26 hC dX4_unpackOp_127 hk3 ?_
          refine z_genI (fun I4 eI4 => ?_)
          have h := h I4 eI4
          refine z_aload_n hC (q := 1) dX4_unpackOp_130 rfl rfl ?_
          refine z_dup hC rfl dX4_unpackOp_131 ?_
          refine gf_RX4_30 hC dX4_unpackOp_132 hk3 ?_
          refine z_iload_n hC (q := 0) dX4_unpackOp_135 rfl rfl ?_
          refine z_bipush hC (v := 10) k_bipush_10 dX4_unpackOp_136 ?_
          refine z_isub hC dX4_unpackOp_138 ?_
          refine z_bipush hC (v := 12) k_bipush_12 dX4_unpackOp_139 ?_
          refine z_irem hC (by decide) dX4_unpackOp_141 ?_
          refine z_bipush hC (v := (-4)) k_bipush_m4 dX4_unpackOp_142 ?_
          refine z_iadd hC dX4_unpackOp_144 ?_
          refine z_iadd hC dX4_unpackOp_145 ?_
          refine pf_RX4_30 hC dX4_unpackOp_146 hk3 ?_
          refine z_genI (fun I5 eI5 => ?_)
          have h := h I5 eI5
          refine z_aload_n hC (q := 1) dX4_unpackOp_149 rfl rfl ?_
          refine cl_RX4_94 hC (c_X4_unpackRow _ G a0 K N I5 L R _ h) hk3 dX4_unpackOp_150 (by rw [hRm]; exact ⟨Nat.le_of_ble_eq_true rfl, Nat.le_of_ble_eq_true rfl⟩) ⟨Nat.zero_le _, Nat.zero_le _⟩ (Nat.le_of_ble_eq_true rfl) (z_kLz (I := I5) (L := L) (fun r6 I7 L8 h => ?_))
          exact z_zret (b := r6) hC dX4_unpackOp_153 rfl ⟨r6, rfl, rfl, rfl, rfl, h⟩
        · have h := h.2 hc
          refine z_aload_n hC (q := 1) dX4_unpackOp_100 rfl rfl ?_
          refine z_dup hC rfl dX4_unpackOp_101 ?_
          obtain ⟨hk9, h⟩ := h
          refine gf_RX4_26 hC dX4_unpackOp_102 hk9 ?_
          refine z_bipush hC (v := 17) k_bipush_17 dX4_unpackOp_105 ?_
          refine z_iadd hC dX4_unpackOp_107 ?_
          refine pf_RX4_26 hC dX4_unpackOp_108 hk9 ?_
          refine z_genI (fun I10 eI10 => ?_)
          have h := h I10 eI10
          refine z_goto hC (tgt := 154) dX4_unpackOp_111 (by decide) ?_
          refine z_aload_n hC (q := 1) dX4_unpackOp_154 rfl rfl ?_
          refine gf_RX4_26 hC dX4_unpackOp_155 hk9 ?_
          refine z_sipush hC (v := 255) k_sipush_255 dX4_unpackOp_158 ?_
          refine z_icmp_gt hC (tgt := 168) dX4_unpackOp_161 (by decide) (fun hc => ?_) (fun hc => ?_)
          · have h := h.1 hc
            refine z_iconst hC (v := 0) k_iconst_0 dX4_unpackOp_168 ?_
            exact z_zret (b := false) hC dX4_unpackOp_169 rfl ⟨false, rfl, rfl, rfl, rfl, h⟩
          · have h := h.2 hc
            refine z_iconst hC (v := 1) k_iconst_1 dX4_unpackOp_164 ?_
            refine z_goto hC (tgt := 169) dX4_unpackOp_165 (by decide) ?_
            exact z_zret (b := true) hC dX4_unpackOp_169 rfl ⟨true, rfl, rfl, rfl, rfl, h⟩
      · have h := h.2 hc
        refine z_aload_n hC (q := 2) dX4_unpackOp_45 rfl rfl ?_
        refine z_iload_n hC (q := 3) dX4_unpackOp_46 rfl rfl ?_
        refine z_iconst hC (v := 1) k_iconst_1 dX4_unpackOp_47 ?_
        refine z_iadd hC dX4_unpackOp_48 ?_
        refine cl_RX4_78 hC (c_X8_byteOf _ G a1 (a2 + 1) K N I L R _ h) hk1 dX4_unpackOp_49 (by rw [hRm]; exact ⟨Nat.le_of_ble_eq_true rfl, Nat.le_of_ble_eq_true rfl⟩) ⟨Nat.zero_le _, Nat.zero_le _⟩ (Nat.le_of_ble_eq_true rfl) (z_kPi (fun r11 h => ?_))
        refine z_sipush hC (v := 256) k_sipush_256 dX4_unpackOp_52 ?_
        refine z_imul hC dX4_unpackOp_55 ?_
        refine z_aload_n hC (q := 2) dX4_unpackOp_56 rfl rfl ?_
        refine z_iload_n hC (q := 3) dX4_unpackOp_57 rfl rfl ?_
        refine z_iconst hC (v := 2) k_iconst_2 dX4_unpackOp_58 ?_
        refine z_iadd hC dX4_unpackOp_59 ?_
        refine cl_RX4_78 hC (c_X8_byteOf _ G a1 (a2 + 2) K N I L R _ h) hk1 dX4_unpackOp_60 (by rw [hRm]; exact ⟨Nat.le_of_ble_eq_true rfl, Nat.le_of_ble_eq_true rfl⟩) ⟨Nat.zero_le _, Nat.zero_le _⟩ (Nat.le_of_ble_eq_true rfl) (z_kPi (fun r12 h => ?_))
        refine z_iadd hC dX4_unpackOp_63 ?_
        refine z_topi (fun v13 ev13 => ?_)
        have h := h v13 ev13
        refine z_istore hC (lv1 := [(4, .int v13), (3, .int r2), (0, .ref a0), (1, .ref a1), (2, .int a2)]) dX4_unpackOp_64 (by decide) rfl ?_
        refine z_aload_n hC (q := 2) dX4_unpackOp_66 rfl rfl ?_
        refine z_dup hC rfl dX4_unpackOp_67 ?_
        obtain ⟨hk14, h⟩ := h
        refine gf_RX4_30 hC dX4_unpackOp_68 hk14 ?_
        refine z_iload hC (q := 0) dX4_unpackOp_71 rfl ?_
        refine z_ldc hC cst_RX4_98 dX4_unpackOp_73 ?_
        refine z_icmp_lt hC (tgt := 86) dX4_unpackOp_75 (by decide) (fun hc => ?_) (fun hc => ?_)
        · have h := h.1 hc
          refine z_iload hC (q := 0) dX4_unpackOp_86 rfl ?_
          refine z_iadd hC dX4_unpackOp_88 ?_
          refine pf_RX4_30 hC dX4_unpackOp_89 hk14 ?_
          refine z_genI (fun I15 eI15 => ?_)
          have h := h I15 eI15
          refine z_goto hC (tgt := 154) dX4_unpackOp_92 (by decide) ?_
          refine z_aload_n hC (q := 2) dX4_unpackOp_154 rfl rfl ?_
          refine gf_RX4_26 hC dX4_unpackOp_155 hk14 ?_
          refine z_sipush hC (v := 255) k_sipush_255 dX4_unpackOp_158 ?_
          refine z_icmp_gt hC (tgt := 168) dX4_unpackOp_161 (by decide) (fun hc => ?_) (fun hc => ?_)
          · have h := h.1 hc
            refine z_iconst hC (v := 0) k_iconst_0 dX4_unpackOp_168 ?_
            exact z_zret (b := false) hC dX4_unpackOp_169 rfl ⟨false, rfl, rfl, rfl, rfl, h⟩
          · have h := h.2 hc
            refine z_iconst hC (v := 1) k_iconst_1 dX4_unpackOp_164 ?_
            refine z_goto hC (tgt := 169) dX4_unpackOp_165 (by decide) ?_
            exact z_zret (b := true) hC dX4_unpackOp_169 rfl ⟨true, rfl, rfl, rfl, rfl, h⟩
        · have h := h.2 hc
          refine z_iload hC (q := 0) dX4_unpackOp_78 rfl ?_
          refine z_ldc hC cst_RX4_99 dX4_unpackOp_80 ?_
          refine z_isub hC dX4_unpackOp_82 ?_
          refine z_goto hC (tgt := 88) dX4_unpackOp_83 (by decide) ?_
          refine z_iadd hC dX4_unpackOp_88 ?_
          refine pf_RX4_30 hC dX4_unpackOp_89 hk14 ?_
          refine z_genI (fun I16 eI16 => ?_)
          have h := h I16 eI16
          refine z_goto hC (tgt := 154) dX4_unpackOp_92 (by decide) ?_
          refine z_aload_n hC (q := 2) dX4_unpackOp_154 rfl rfl ?_
          refine gf_RX4_26 hC dX4_unpackOp_155 hk14 ?_
          refine z_sipush hC (v := 255) k_sipush_255 dX4_unpackOp_158 ?_
          refine z_icmp_gt hC (tgt := 168) dX4_unpackOp_161 (by decide) (fun hc => ?_) (fun hc => ?_)
          · have h := h.1 hc
            refine z_iconst hC (v := 0) k_iconst_0 dX4_unpackOp_168 ?_
            exact z_zret (b := false) hC dX4_unpackOp_169 rfl ⟨false, rfl, rfl, rfl, rfl, h⟩
          · have h := h.2 hc
            refine z_iconst hC (v := 1) k_iconst_1 dX4_unpackOp_164 ?_
            refine z_goto hC (tgt := 169) dX4_unpackOp_165 (by decide) ?_
            exact z_zret (b := true) hC dX4_unpackOp_169 rfl ⟨true, rfl, rfl, rfl, rfl, h⟩
    · have h := h.2 hc
      refine z_aload_n hC (q := 1) dX4_unpackOp_21 rfl rfl ?_
      refine z_dup hC rfl dX4_unpackOp_22 ?_
      obtain ⟨hk17, h⟩ := h
      refine gf_RX4_26 hC dX4_unpackOp_23 hk17 ?_
      refine z_aload_n hC (q := 2) dX4_unpackOp_26 rfl rfl ?_
      refine z_iload_n hC (q := 3) dX4_unpackOp_27 rfl rfl ?_
      refine z_iconst hC (v := 1) k_iconst_1 dX4_unpackOp_28 ?_
      refine z_iadd hC dX4_unpackOp_29 ?_
      refine cl_RX4_78 hC (c_X8_byteOf _ G a1 (a2 + 1) K N I L R _ h) hk1 dX4_unpackOp_30 (by rw [hRm]; exact ⟨Nat.le_of_ble_eq_true rfl, Nat.le_of_ble_eq_true rfl⟩) ⟨Nat.zero_le _, Nat.zero_le _⟩ (Nat.le_of_ble_eq_true rfl) (z_kPi (fun r18 h => ?_))
      refine z_iadd hC dX4_unpackOp_33 ?_
      refine pf_RX4_26 hC dX4_unpackOp_34 hk17 ?_
      refine z_genI (fun I19 eI19 => ?_)
      have h := h I19 eI19
      refine z_goto hC (tgt := 154) dX4_unpackOp_37 (by decide) ?_
      refine z_aload_n hC (q := 1) dX4_unpackOp_154 rfl rfl ?_
      refine gf_RX4_26 hC dX4_unpackOp_155 hk17 ?_
      refine z_sipush hC (v := 255) k_sipush_255 dX4_unpackOp_158 ?_
      refine z_icmp_gt hC (tgt := 168) dX4_unpackOp_161 (by decide) (fun hc => ?_) (fun hc => ?_)
      · have h := h.1 hc
        refine z_iconst hC (v := 0) k_iconst_0 dX4_unpackOp_168 ?_
        exact z_zret (b := false) hC dX4_unpackOp_169 rfl ⟨false, rfl, rfl, rfl, rfl, h⟩
      · have h := h.2 hc
        refine z_iconst hC (v := 1) k_iconst_1 dX4_unpackOp_164 ?_
        refine z_goto hC (tgt := 169) dX4_unpackOp_165 (by decide) ?_
        exact z_zret (b := true) hC dX4_unpackOp_169 rfl ⟨true, rfl, rfl, rfl, rfl, h⟩
  · have h := h.2 hc
    refine z_aload_n hC (q := 1) dX4_unpackOp_11 rfl rfl ?_
    obtain ⟨hk20, h⟩ := h
    refine cl_RX4_94 hC (c_X4_unpackRow _ G a0 K N I L R _ h) hk20 dX4_unpackOp_12 (by rw [hRm]; exact ⟨Nat.le_of_ble_eq_true rfl, Nat.le_of_ble_eq_true rfl⟩) ⟨Nat.zero_le _, Nat.zero_le _⟩ (Nat.le_of_ble_eq_true rfl) (z_kLz (I := I) (L := L) (fun r21 I22 L23 h => ?_))
    exact z_zret (b := r21) hC dX4_unpackOp_15 rfl ⟨r21, rfl, rfl, rfl, rfl, h⟩
def w_X4_unpack_93  (x0 : Nat) (x1 : Nat) (x2 : Int32) (x3 : Int32) (x5 : Int32)  (K : MK) (N : MK) (I : MI) (L : ML) (R : MR) (C21 : Nat → Nat → Int32 → Int32 → MI → ML → Prop) (Q : Int32 → MI → ML → Prop) : Prop := K x1 = 9 ∧ ((I x1 1) < (x2 + x5) → Q x2 I L) ∧ (¬ (I x1 1) < (x2 + x5) → K x0 = 5 ∧ w_X4_unpackOp x0 x1 x2 K N I L R (fun r12 I13 L14 => (r12 = true → ∀ v15 : Int32, v15 = (x2 + x5) → ∀ v16 : Int32, v16 = x3 + 1 → C21 x0 x1 v15 v16 I13 L14) ∧ (r12 = false → Q x2 I13 L14)))
def w_X4_unpack_78  (x0 : Nat) (x1 : Nat) (x2 : Int32) (x3 : Int32) (x4 : Int32) (s0 : Int32) (K : MK) (N : MK) (I : MI) (L : ML) (R : MR) (C21 : Nat → Nat → Int32 → Int32 → MI → ML → Prop) (Q : Int32 → MI → ML → Prop) : Prop := (x4 ≤ 4 → w_X4_unpack_93 x0 x1 x2 x3 s0 K N I L R C21 Q) ∧ (¬ x4 ≤ 4 → (x4 < 10 → Q x2 I L) ∧ (¬ x4 < 10 → w_X4_unpack_93 x0 x1 x2 x3 s0 K N I L R C21 Q))
def w_X4_unpack_21  (x0 : Nat) (x1 : Nat) (x2 : Int32) (x3 : Int32)  (K : MK) (N : MK) (I : MI) (L : ML) (R : MR)  (Q : Int32 → MI → ML → Prop) : Prop := ∃ J : Nat → Nat → Nat → Int32 → Int32 → MI → ML → Prop, (∃ n, J n x0 x1 x2 x3 I L) ∧ ∀ (n : Nat) (x0 : Nat) (x1 : Nat) (x2 : Int32) (x3 : Int32) (I : MI) (L : ML), J n x0 x1 x2 x3 I L → ((940 : Int32) ≤ x3 → K x1 = 9 ∧ Q (I x1 1) I L) ∧ (¬ (940 : Int32) ≤ x3 → K x1 = 9 ∧ ((I x1 1) ≤ x2 → Q (I x1 1) I L) ∧ (¬ (I x1 1) ≤ x2 → w_X8_byteOf x1 x2 K N I L R (fun r9 => (¬ r9 = 0 → (¬ r9 = 2 → (¬ r9 = 3 → w_X4_unpack_78 x0 x1 x2 x3 r9 1 K N I L R (fun y0 y1 y2 y3 y4 y5 => ∃ n1, n1 < n ∧ J n1 y0 y1 y2 y3 y4 y5) Q) ∧ (r9 = 3 → w_X4_unpack_78 x0 x1 x2 x3 r9 3 K N I L R (fun y0 y1 y2 y3 y4 y5 => ∃ n1, n1 < n ∧ J n1 y0 y1 y2 y3 y4 y5) Q)) ∧ (r9 = 2 → w_X4_unpack_78 x0 x1 x2 x3 r9 2 K N I L R (fun y0 y1 y2 y3 y4 y5 => ∃ n1, n1 < n ∧ J n1 y0 y1 y2 y3 y4 y5) Q)) ∧ (r9 = 0 → K x0 = 5 ∧ w_X4_unpackEnd x0 x1 (x2 + 1) K N I L R (fun r18 I19 L20 => Q r18 I19 L20)))))
def w_X4_unpack  (a0 : Nat) (a1 : Nat) (K : MK) (N : MK) (I : MI) (L : ML) (R : MR) (Q : Int32 → MI → ML → Prop) : Prop := K a0 = 5 ∧ ∃ b2 : Nat, R a0 2 = some b2 ∧ K b2 = 8 ∧ w_X7_forget b2 K N I L R (fun I4 => ∀ I5 : MI, I5 = mup I4 a0 3 0 → ∀ I6 : MI, I6 = mup I5 a0 4 1 → w_X4_unpack_21 a0 a1 0 0 K N I6 L R Q)
set_option maxHeartbeats 4000000 in
set_option maxRecDepth 100000 in
theorem z_X4_unpack_93 {X : ZX} {G : ZG}  {x0 : Nat} {x1 : Nat} {x2 : Int32} {x3 : Int32} {x5 : Int32}  {K : MK} {N : MK} {I : MI} {L : ML} {R : MR} {C21 : Nat → Nat → Int32 → Int32 → MI → ML → Prop} {Q : Int32 → MI → ML → Prop} (hC : ZOk X G RX4 cX4_unpack 6 (some .int)) (hRm : X.2.2.2.1 = rm_X4_unpack) (hC21 : ∀ (y0 : Nat) (y1 : Nat) (y2 : Int32) (y3 : Int32) (zI : MI) (zL : ML), C21 y0 y1 y2 y3 zI zL → Z X G 6 0 0 (z_T X G (qLi K N R Q) 0 0) K N zI zL R 21 [(0, .ref y0), (1, .ref y1), (2, .int y2), (3, .int y3)] []) (h : w_X4_unpack_93 x0 x1 x2 x3 x5 K N I L R C21 Q) : Z X G 6 0 0 (z_T X G (qLi K N R Q) 0 0) K N I L R 93 [(0, .ref x0), (1, .ref x1), (2, .int x2), (3, .int x3), (5, .int x5)] [] := by
  delta w_X4_unpack_93 at h
  refine z_iload_n hC (q := 2) dX4_unpack_93 rfl rfl ?_
  refine z_iload hC (q := 4) dX4_unpack_94 rfl ?_
  refine z_iadd hC dX4_unpack_96 ?_
  refine z_aload_n hC (q := 1) dX4_unpack_97 rfl rfl ?_
  obtain ⟨hk10, h⟩ := h
  refine gf_RX4_75 hC dX4_unpack_98 hk10 ?_
  refine z_icmp_gt hC (tgt := 113) dX4_unpack_101 (by decide) (fun hc => ?_) (fun hc => ?_)
  · have h := h.1 hc
    refine z_iload_n hC (q := 2) dX4_unpack_113 rfl rfl ?_
    exact z_iret hC dX4_unpack_114 ⟨_, rfl, rfl, rfl, rfl, h⟩
  · have h := h.2 hc
    refine z_aload_n hC (q := 0) dX4_unpack_104 rfl rfl ?_
    refine z_aload_n hC (q := 1) dX4_unpack_105 rfl rfl ?_
    refine z_iload_n hC (q := 2) dX4_unpack_106 rfl rfl ?_
    obtain ⟨hk11, h⟩ := h
    refine cl_RX4_86 hC (c_X4_unpackOp _ G x0 x1 x2 K N I L R _ h) hk11 dX4_unpack_107 (by rw [hRm]; exact ⟨Nat.le_of_ble_eq_true rfl, Nat.le_of_ble_eq_true rfl⟩) ⟨Nat.zero_le _, Nat.zero_le _⟩ (Nat.le_of_ble_eq_true rfl) (z_kLz (I := I) (L := L) (fun r12 I13 L14 h => ?_))
    refine z_ifz_ne hC (tgt := 115) dX4_unpack_110 (by decide) (fun hc => ?_) (fun hc => ?_)
    · have h := h.1 hc
      refine z_iload_n hC (q := 2) dX4_unpack_115 rfl rfl ?_
      refine z_iload hC (q := 4) dX4_unpack_116 rfl ?_
      refine z_iadd hC dX4_unpack_118 ?_
      refine z_topi (fun v15 ev15 => ?_)
      have h := h v15 ev15
      refine z_istore_n hC (lv1 := [(2, .int v15), (0, .ref x0), (1, .ref x1), (3, .int x3), (5, .int x5)]) dX4_unpack_119 rfl (by decide) rfl ?_
      obtain ⟨v16, ev16⟩ : ∃ y : Int32, y = x3 + 1 := ⟨_, rfl⟩
      have h := h v16 ev16
      refine z_iinc hC (q := 3) (v := v16) (lv1 := [(3, .int v16), (2, .int v15), (0, .ref x0), (1, .ref x1), (5, .int x5)]) dX4_unpack_120 rfl (by rw [ev16, k_iinc_1]) (by decide) rfl ?_
      refine z_goto hC (tgt := 21) dX4_unpack_123 (by decide) ?_
      exact z_sub [(0, .ref x0), (1, .ref x1), (2, .int v15), (3, .int v16)] [2, 3, 1, 0] rfl (hC21 _ _ _ _ _ _ h)
    · have h := h.2 hc
      refine z_iload_n hC (q := 2) dX4_unpack_113 rfl rfl ?_
      exact z_iret hC dX4_unpack_114 ⟨_, rfl, rfl, rfl, rfl, h⟩
set_option maxHeartbeats 4000000 in
set_option maxRecDepth 100000 in
theorem z_X4_unpack_78 {X : ZX} {G : ZG}  {x0 : Nat} {x1 : Nat} {x2 : Int32} {x3 : Int32} {x4 : Int32} {s0 : Int32} {K : MK} {N : MK} {I : MI} {L : ML} {R : MR} {C21 : Nat → Nat → Int32 → Int32 → MI → ML → Prop} {Q : Int32 → MI → ML → Prop} (hC : ZOk X G RX4 cX4_unpack 6 (some .int)) (hRm : X.2.2.2.1 = rm_X4_unpack) (hC21 : ∀ (y0 : Nat) (y1 : Nat) (y2 : Int32) (y3 : Int32) (zI : MI) (zL : ML), C21 y0 y1 y2 y3 zI zL → Z X G 6 0 0 (z_T X G (qLi K N R Q) 0 0) K N zI zL R 21 [(0, .ref y0), (1, .ref y1), (2, .int y2), (3, .int y3)] []) (h : w_X4_unpack_78 x0 x1 x2 x3 x4 s0 K N I L R C21 Q) : Z X G 6 0 0 (z_T X G (qLi K N R Q) 0 0) K N I L R 78 [(0, .ref x0), (1, .ref x1), (2, .int x2), (3, .int x3), (4, .int x4)] [.int s0] := by
  delta w_X4_unpack_78 at h
  refine z_istore hC (lv1 := [(5, .int s0), (0, .ref x0), (1, .ref x1), (2, .int x2), (3, .int x3), (4, .int x4)]) dX4_unpack_78 (by decide) rfl ?_
  refine z_iload hC (q := 5) dX4_unpack_80 rfl ?_
  refine z_iconst hC (v := 4) k_iconst_4 dX4_unpack_82 ?_
  refine z_icmp_le hC (tgt := 93) dX4_unpack_83 (by decide) (fun hc => ?_) (fun hc => ?_)
  · have h := h.1 hc
    exact z_sub [(0, .ref x0), (1, .ref x1), (2, .int x2), (3, .int x3), (5, .int s0)] [1, 2, 3, 4, 0] rfl (z_X4_unpack_93 hC hRm hC21 h)
  · have h := h.2 hc
    refine z_iload hC (q := 5) dX4_unpack_86 rfl ?_
    refine z_bipush hC (v := 10) k_bipush_10 dX4_unpack_88 ?_
    refine z_icmp_lt hC (tgt := 113) dX4_unpack_90 (by decide) (fun hc => ?_) (fun hc => ?_)
    · have h := h.1 hc
      refine z_iload_n hC (q := 3) dX4_unpack_113 rfl rfl ?_
      exact z_iret hC dX4_unpack_114 ⟨_, rfl, rfl, rfl, rfl, h⟩
    · have h := h.2 hc
      exact z_sub [(0, .ref x0), (1, .ref x1), (2, .int x2), (3, .int x3), (5, .int s0)] [1, 2, 3, 4, 0] rfl (z_X4_unpack_93 hC hRm hC21 h)
set_option maxHeartbeats 4000000 in
set_option maxRecDepth 100000 in
theorem z_X4_unpack_21 {X : ZX} {G : ZG}  {x0 : Nat} {x1 : Nat} {x2 : Int32} {x3 : Int32}  {K : MK} {N : MK} {I : MI} {L : ML} {R : MR}  {Q : Int32 → MI → ML → Prop} (hC : ZOk X G RX4 cX4_unpack 6 (some .int)) (hRm : X.2.2.2.1 = rm_X4_unpack) (h : w_X4_unpack_21 x0 x1 x2 x3 K N I L R  Q) : Z X G 6 0 0 (z_T X G (qLi K N R Q) 0 0) K N I L R 21 [(0, .ref x0), (1, .ref x1), (2, .int x2), (3, .int x3)] [] := by
  delta w_X4_unpack_21 at h
  obtain ⟨J, ⟨n, h0⟩, hs⟩ := h
  have key : ∀ (n : Nat) (x0 : Nat) (x1 : Nat) (x2 : Int32) (x3 : Int32) (I : MI) (L : ML), J n x0 x1 x2 x3 I L → Z X G 6 0 0 (z_T X G (qLi K N R Q) 0 0) K N I L R 21 [(0, .ref x0), (1, .ref x1), (2, .int x2), (3, .int x3)] [] := by
    intro n
    induction n using Nat.strongRecOn with
    | _ n ih =>
      intro x0 x1 x2 x3 I L hJ
      have hC21 : ∀ (y0 : Nat) (y1 : Nat) (y2 : Int32) (y3 : Int32) (zI : MI) (zL : ML), (∃ n1, n1 < n ∧ J n1 y0 y1 y2 y3 zI zL) → Z X G 6 0 0 (z_T X G (qLi K N R Q) 0 0) K N zI zL R 21 [(0, .ref y0), (1, .ref y1), (2, .int y2), (3, .int y3)] [] := fun y0 y1 y2 y3 zI zL ⟨n1, hn1, hj⟩ => ih n1 hn1 y0 y1 y2 y3 zI zL hj
      have h := hs n x0 x1 x2 x3 I L hJ
      refine z_iload_n hC (q := 3) dX4_unpack_21 rfl rfl ?_
      refine z_sipush hC (v := 940) k_sipush_940 dX4_unpack_22 ?_
      refine z_icmp_ge hC (tgt := 126) dX4_unpack_25 (by decide) (fun hc => ?_) (fun hc => ?_)
      · have h := h.1 hc
        refine z_aload_n hC (q := 1) dX4_unpack_126 rfl rfl ?_
        obtain ⟨hk7, h⟩ := h
        refine gf_RX4_75 hC dX4_unpack_127 hk7 ?_
        exact z_iret hC dX4_unpack_130 ⟨_, rfl, rfl, rfl, rfl, h⟩
      · have h := h.2 hc
        refine z_iload_n hC (q := 2) dX4_unpack_28 rfl rfl ?_
        refine z_aload_n hC (q := 1) dX4_unpack_29 rfl rfl ?_
        obtain ⟨hk8, h⟩ := h
        refine gf_RX4_75 hC dX4_unpack_30 hk8 ?_
        refine z_icmp_ge hC (tgt := 126) dX4_unpack_33 (by decide) (fun hc => ?_) (fun hc => ?_)
        · have h := h.1 hc
          refine z_aload_n hC (q := 1) dX4_unpack_126 rfl rfl ?_
          refine gf_RX4_75 hC dX4_unpack_127 hk8 ?_
          exact z_iret hC dX4_unpack_130 ⟨_, rfl, rfl, rfl, rfl, h⟩
        · have h := h.2 hc
          refine z_aload_n hC (q := 1) dX4_unpack_36 rfl rfl ?_
          refine z_iload_n hC (q := 2) dX4_unpack_37 rfl rfl ?_
          refine cl_RX4_78 hC (c_X8_byteOf _ G x1 x2 K N I L R _ h) hk8 dX4_unpack_38 (by rw [hRm]; exact ⟨Nat.le_of_ble_eq_true rfl, Nat.le_of_ble_eq_true rfl⟩) ⟨Nat.zero_le _, Nat.zero_le _⟩ (Nat.le_of_ble_eq_true rfl) (z_kPi (fun r9 h => ?_))
          refine z_istore hC (lv1 := [(4, .int r9), (0, .ref x0), (1, .ref x1), (2, .int x2), (3, .int x3)]) dX4_unpack_41 (by decide) rfl ?_
          refine z_iload hC (q := 0) dX4_unpack_43 rfl ?_
          refine z_if_ne hC (tgt := 57) dX4_unpack_45 (by decide) (fun hc => ?_) (fun hc => ?_)
          · have h := h.1 hc
            refine z_iload hC (q := 0) dX4_unpack_57 rfl ?_
            refine z_iconst hC (v := 2) k_iconst_2 dX4_unpack_59 ?_
            refine z_icmp_ne hC (tgt := 67) dX4_unpack_60 (by decide) (fun hc => ?_) (fun hc => ?_)
            · have h := h.1 hc
              refine z_iload hC (q := 0) dX4_unpack_67 rfl ?_
              refine z_iconst hC (v := 3) k_iconst_3 dX4_unpack_69 ?_
              refine z_icmp_ne hC (tgt := 77) dX4_unpack_70 (by decide) (fun hc => ?_) (fun hc => ?_)
              · have h := h.1 hc
                refine z_iconst hC (v := 1) k_iconst_1 dX4_unpack_77 ?_
                exact z_sub [(0, .ref x0), (1, .ref x1), (2, .int x2), (3, .int x3), (4, .int r9)] [1, 2, 3, 4, 0] rfl (z_X4_unpack_78 hC hRm hC21 h)
              · have h := h.2 hc
                refine z_iconst hC (v := 3) k_iconst_3 dX4_unpack_73 ?_
                refine z_goto hC (tgt := 78) dX4_unpack_74 (by decide) ?_
                exact z_sub [(0, .ref x0), (1, .ref x1), (2, .int x2), (3, .int x3), (4, .int r9)] [1, 2, 3, 4, 0] rfl (z_X4_unpack_78 hC hRm hC21 h)
            · have h := h.2 hc
              refine z_iconst hC (v := 2) k_iconst_2 dX4_unpack_63 ?_
              refine z_goto hC (tgt := 78) dX4_unpack_64 (by decide) ?_
              exact z_sub [(0, .ref x0), (1, .ref x1), (2, .int x2), (3, .int x3), (4, .int r9)] [1, 2, 3, 4, 0] rfl (z_X4_unpack_78 hC hRm hC21 h)
          · have h := h.2 hc
            refine z_aload_n hC (q := 1) dX4_unpack_48 rfl rfl ?_
            refine z_aload_n hC (q := 2) dX4_unpack_49 rfl rfl ?_
            refine z_iload_n hC (q := 3) dX4_unpack_50 rfl rfl ?_
            refine z_iconst hC (v := 1) k_iconst_1 dX4_unpack_51 ?_
            refine z_iadd hC dX4_unpack_52 ?_
            obtain ⟨hk17, h⟩ := h
            refine cl_RX4_82 hC (c_X4_unpackEnd _ G x0 x1 (x2 + 1) K N I L R _ h) hk17 dX4_unpack_53 (by rw [hRm]; exact ⟨Nat.le_of_ble_eq_true rfl, Nat.le_of_ble_eq_true rfl⟩) ⟨Nat.zero_le _, Nat.zero_le _⟩ (Nat.le_of_ble_eq_true rfl) (z_kLi (I := I) (L := L) (fun r18 I19 L20 h => ?_))
            exact z_iret hC dX4_unpack_56 ⟨_, rfl, rfl, rfl, rfl, h⟩
  exact key n x0 x1 x2 x3 I L h0
set_option maxHeartbeats 4000000 in
set_option maxRecDepth 100000 in
theorem c_X4_unpack  (l : Launch) (G : ZG) (a0 : Nat) (a1 : Nat) (K : MK) (N : MK) (I : MI) (L : ML) (R : MR) (Q : Int32 → MI → ML → Prop) (h : w_X4_unpack a0 a1 K N I L R Q) : Met l yX4_unpack (.code yX4_unpack cX4_unpack 6 (some .int) :: z_tbl) rm_X4_unpack (z_Pc G [.ref a0, .ref a1] K N I L R) (z_Qc G (qLi K N R Q)) 0 0 (z_A G) := by
  refine z_met (by decide) (Nat.le_of_ble_eq_true rfl) (fun X hX hRm hC0 hnm => ?_)
  subst hX
  have hC : ZOk X G RX4 cX4_unpack 6 (some .int) := hC0
  show Z X G 6 0 0 _ K N I L R 0 [(0, .ref a0), (1, .ref a1)] []
  delta w_X4_unpack at h
  refine z_aload_n hC (q := 0) dX4_unpack_0 rfl rfl ?_
  obtain ⟨hk1, h⟩ := h
  obtain ⟨b2, hb2, h⟩ := h
  refine gf_RX4_23 hC dX4_unpack_1 hk1 hb2 ?_
  obtain ⟨hk3, h⟩ := h
  refine cl_RX4_33 hC (c_X7_forget _ G b2 K N I L R _ h) hk3 dX4_unpack_4 (by rw [hRm]; exact ⟨Nat.le_of_ble_eq_true rfl, Nat.le_of_ble_eq_true rfl⟩) ⟨Nat.zero_le _, Nat.zero_le _⟩ (Nat.le_of_ble_eq_true rfl) (z_kIv (I := I) (fun I4 h => ?_))
  refine z_aload_n hC (q := 0) dX4_unpack_7 rfl rfl ?_
  refine z_iconst hC (v := 0) k_iconst_0 dX4_unpack_8 ?_
  refine pf_RX4_26 hC dX4_unpack_9 hk1 ?_
  refine z_genI (fun I5 eI5 => ?_)
  have h := h I5 eI5
  refine z_aload_n hC (q := 0) dX4_unpack_12 rfl rfl ?_
  refine z_iconst hC (v := 1) k_iconst_1 dX4_unpack_13 ?_
  refine pf_RX4_30 hC dX4_unpack_14 hk1 ?_
  refine z_genI (fun I6 eI6 => ?_)
  have h := h I6 eI6
  refine z_iconst hC (v := 0) k_iconst_0 dX4_unpack_17 ?_
  refine z_istore_n hC (lv1 := [(2, .int 0), (0, .ref a0), (1, .ref a1)]) dX4_unpack_18 rfl (by decide) rfl ?_
  refine z_iconst hC (v := 0) k_iconst_0 dX4_unpack_19 ?_
  refine z_istore_n hC (lv1 := [(3, .int 0), (2, .int 0), (0, .ref a0), (1, .ref a1)]) dX4_unpack_20 rfl (by decide) rfl ?_
  exact z_sub [(0, .ref a0), (1, .ref a1), (2, .int 0), (3, .int 0)] [2, 3, 1, 0] rfl (z_X4_unpack_21 hC hRm h)
def w_X5_forget  (a0 : Nat) (K : MK) (N : MK) (I : MI) (L : ML) (R : MR) (Q : MI → Prop) : Prop := K a0 = 6 ∧ ∀ I2 : MI, I2 = mup I a0 0 0 → Q I2
set_option maxHeartbeats 4000000 in
set_option maxRecDepth 100000 in
theorem c_X5_forget  (l : Launch) (G : ZG) (a0 : Nat) (K : MK) (N : MK) (I : MI) (L : ML) (R : MR) (Q : MI → Prop) (h : w_X5_forget a0 K N I L R Q) : Met l yX5_forget (.code yX5_forget cX5_forget 1 none :: z_tbl) rm_X5_forget (z_Pc G [.ref a0] K N I L R) (z_Qc G (qIv K N L R Q)) 0 0 (z_A G) := by
  refine z_met (by decide) (Nat.le_of_ble_eq_true rfl) (fun X hX hRm hC0 hnm => ?_)
  subst hX
  have hC : ZOk X G RX5 cX5_forget 1 none := hC0
  show Z X G 1 0 0 _ K N I L R 0 [(0, .ref a0)] []
  delta w_X5_forget at h
  refine z_aload_n hC (q := 0) dX5_forget_0 rfl rfl ?_
  refine z_iconst hC (v := 0) k_iconst_0 dX5_forget_1 ?_
  obtain ⟨hk1, h⟩ := h
  refine pf_RX5_9 hC dX5_forget_2 hk1 ?_
  refine z_genI (fun I2 eI2 => ?_)
  have h := h I2 eI2
  exact z_vret hC dX5_forget_5 ⟨rfl, rfl, rfl, rfl, rfl, h⟩
def w_X5_copyFrom  (a0 : Nat) (a1 : Nat) (K : MK) (N : MK) (I : MI) (L : ML) (R : MR) (Q : MI → Prop) : Prop := K a1 = 6 ∧ K a0 = 6 ∧ ∀ I3 : MI, I3 = mup I a0 0 (I a1 0) → ∃ b4 : Nat, R a1 1 = some b4 ∧ ∃ b5 : Nat, R a0 1 = some b5 ∧ K b4 = 14 ∧ K b5 = 14 ∧ mcp_ok 0 0 40 (N b4) (N b5) ∧ ∀ I9 : MI, I9 = mcp I3 b4 (ix 0) b5 (ix 0) (ix 40) → ∃ b10 : Nat, R a1 2 = some b10 ∧ ∃ b11 : Nat, R a0 2 = some b11 ∧ K b10 = 14 ∧ K b11 = 14 ∧ mcp_ok 0 0 40 (N b10) (N b11) ∧ ∀ I15 : MI, I15 = mcp I9 b10 (ix 0) b11 (ix 0) (ix 40) → ∃ b16 : Nat, R a1 3 = some b16 ∧ ∃ b17 : Nat, R a0 3 = some b17 ∧ K b16 = 14 ∧ K b17 = 14 ∧ mcp_ok 0 0 40 (N b16) (N b17) ∧ ∀ I21 : MI, I21 = mcp I15 b16 (ix 0) b17 (ix 0) (ix 40) → Q I21
set_option maxHeartbeats 4000000 in
set_option maxRecDepth 100000 in
theorem c_X5_copyFrom  (l : Launch) (G : ZG) (a0 : Nat) (a1 : Nat) (K : MK) (N : MK) (I : MI) (L : ML) (R : MR) (Q : MI → Prop) (h : w_X5_copyFrom a0 a1 K N I L R Q) : Met l yX5_copyFrom (.code yX5_copyFrom cX5_copyFrom 2 none :: z_tbl) rm_X5_copyFrom (z_Pc G [.ref a0, .ref a1] K N I L R) (z_Qc G (qIv K N L R Q)) 0 0 (z_A G) := by
  refine z_met (by decide) (Nat.le_of_ble_eq_true rfl) (fun X hX hRm hC0 hnm => ?_)
  subst hX
  have hC : ZOk X G RX5 cX5_copyFrom 2 none := hC0
  show Z X G 2 0 0 _ K N I L R 0 [(0, .ref a0), (1, .ref a1)] []
  delta w_X5_copyFrom at h
  refine z_aload_n hC (q := 0) dX5_copyFrom_0 rfl rfl ?_
  refine z_aload_n hC (q := 1) dX5_copyFrom_1 rfl rfl ?_
  obtain ⟨hk1, h⟩ := h
  refine gf_RX5_9 hC dX5_copyFrom_2 hk1 ?_
  obtain ⟨hk2, h⟩ := h
  refine pf_RX5_9 hC dX5_copyFrom_5 hk2 ?_
  refine z_genI (fun I3 eI3 => ?_)
  have h := h I3 eI3
  refine z_aload_n hC (q := 1) dX5_copyFrom_8 rfl rfl ?_
  obtain ⟨b4, hb4, h⟩ := h
  refine gf_RX5_15 hC dX5_copyFrom_9 hk1 hb4 ?_
  refine z_iconst hC (v := 0) k_iconst_0 dX5_copyFrom_12 ?_
  refine z_aload_n hC (q := 0) dX5_copyFrom_13 rfl rfl ?_
  obtain ⟨b5, hb5, h⟩ := h
  refine gf_RX5_15 hC dX5_copyFrom_14 hk2 hb5 ?_
  refine z_iconst hC (v := 0) k_iconst_0 dX5_copyFrom_17 ?_
  refine z_bipush hC (v := 40) k_bipush_40 dX5_copyFrom_18 ?_
  obtain ⟨hk6, h⟩ := h
  obtain ⟨hk7, h⟩ := h
  obtain ⟨hcp8, h⟩ := h
  refine z_copy14 hC ml_RX5_32 dX5_copyFrom_20 hk6 hk7 hcp8 (by rw [hRm]; exact ⟨Nat.le_of_ble_eq_true rfl, Nat.le_of_ble_eq_true rfl⟩) (Nat.le_of_ble_eq_true rfl) ?_
  refine z_genI (fun I9 eI9 => ?_)
  have h := h I9 eI9
  refine z_aload_n hC (q := 1) dX5_copyFrom_23 rfl rfl ?_
  obtain ⟨b10, hb10, h⟩ := h
  refine gf_RX5_19 hC dX5_copyFrom_24 hk1 hb10 ?_
  refine z_iconst hC (v := 0) k_iconst_0 dX5_copyFrom_27 ?_
  refine z_aload_n hC (q := 0) dX5_copyFrom_28 rfl rfl ?_
  obtain ⟨b11, hb11, h⟩ := h
  refine gf_RX5_19 hC dX5_copyFrom_29 hk2 hb11 ?_
  refine z_iconst hC (v := 0) k_iconst_0 dX5_copyFrom_32 ?_
  refine z_bipush hC (v := 40) k_bipush_40 dX5_copyFrom_33 ?_
  obtain ⟨hk12, h⟩ := h
  obtain ⟨hk13, h⟩ := h
  obtain ⟨hcp14, h⟩ := h
  refine z_copy14 hC ml_RX5_32 dX5_copyFrom_35 hk12 hk13 hcp14 (by rw [hRm]; exact ⟨Nat.le_of_ble_eq_true rfl, Nat.le_of_ble_eq_true rfl⟩) (Nat.le_of_ble_eq_true rfl) ?_
  refine z_genI (fun I15 eI15 => ?_)
  have h := h I15 eI15
  refine z_aload_n hC (q := 1) dX5_copyFrom_38 rfl rfl ?_
  obtain ⟨b16, hb16, h⟩ := h
  refine gf_RX5_22 hC dX5_copyFrom_39 hk1 hb16 ?_
  refine z_iconst hC (v := 0) k_iconst_0 dX5_copyFrom_42 ?_
  refine z_aload_n hC (q := 0) dX5_copyFrom_43 rfl rfl ?_
  obtain ⟨b17, hb17, h⟩ := h
  refine gf_RX5_22 hC dX5_copyFrom_44 hk2 hb17 ?_
  refine z_iconst hC (v := 0) k_iconst_0 dX5_copyFrom_47 ?_
  refine z_bipush hC (v := 40) k_bipush_40 dX5_copyFrom_48 ?_
  obtain ⟨hk18, h⟩ := h
  obtain ⟨hk19, h⟩ := h
  obtain ⟨hcp20, h⟩ := h
  refine z_copy14 hC ml_RX5_32 dX5_copyFrom_50 hk18 hk19 hcp20 (by rw [hRm]; exact ⟨Nat.le_of_ble_eq_true rfl, Nat.le_of_ble_eq_true rfl⟩) (Nat.le_of_ble_eq_true rfl) ?_
  refine z_genI (fun I21 eI21 => ?_)
  have h := h I21 eI21
  exact z_vret hC dX5_copyFrom_53 ⟨rfl, rfl, rfl, rfl, rfl, h⟩
def w_X5_add  (a0 : Nat) (a1 : Int32) (a2 : Int32) (a3 : Int32) (K : MK) (N : MK) (I : MI) (L : ML) (R : MR) (Q : MI → Prop) : Prop := K a0 = 6 ∧ ((40 : Int32) ≤ (I a0 0) → Q I) ∧ (¬ (40 : Int32) ≤ (I a0 0) → ∃ b2 : Nat, R a0 1 = some b2 ∧ K b2 = 14 ∧ vp_in (I a0 0) (N b2) ∧ ∀ I5 : MI, I5 = mup I b2 (ix (I a0 0)) a1 → ∃ b6 : Nat, R a0 2 = some b6 ∧ K b6 = 14 ∧ vp_in (I5 a0 0) (N b6) ∧ ∀ I9 : MI, I9 = mup I5 b6 (ix (I5 a0 0)) a2 → ∃ b10 : Nat, R a0 3 = some b10 ∧ K b10 = 14 ∧ vp_in (I9 a0 0) (N b10) ∧ ∀ I13 : MI, I13 = mup I9 b10 (ix (I9 a0 0)) a3 → ∀ I14 : MI, I14 = mup I13 a0 0 ((I13 a0 0) + 1) → Q I14)
set_option maxHeartbeats 4000000 in
set_option maxRecDepth 100000 in
theorem c_X5_add  (l : Launch) (G : ZG) (a0 : Nat) (a1 : Int32) (a2 : Int32) (a3 : Int32) (K : MK) (N : MK) (I : MI) (L : ML) (R : MR) (Q : MI → Prop) (h : w_X5_add a0 a1 a2 a3 K N I L R Q) : Met l yX5_add (.code yX5_add cX5_add 4 none :: z_tbl) rm_X5_add (z_Pc G [.ref a0, .int a1, .int a2, .int a3] K N I L R) (z_Qc G (qIv K N L R Q)) 0 0 (z_A G) := by
  refine z_met (by decide) (Nat.le_of_ble_eq_true rfl) (fun X hX hRm hC0 hnm => ?_)
  subst hX
  have hC : ZOk X G RX5 cX5_add 4 none := hC0
  show Z X G 4 0 0 _ K N I L R 0 [(0, .ref a0), (1, .int a1), (2, .int a2), (3, .int a3)] []
  delta w_X5_add at h
  refine z_aload_n hC (q := 0) dX5_add_0 rfl rfl ?_
  obtain ⟨hk1, h⟩ := h
  refine gf_RX5_9 hC dX5_add_1 hk1 ?_
  refine z_bipush hC (v := 40) k_bipush_40 dX5_add_4 ?_
  refine z_icmp_ge hC (tgt := 49) dX5_add_6 (by decide) (fun hc => ?_) (fun hc => ?_)
  · have h := h.1 hc
    exact z_vret hC dX5_add_49 ⟨rfl, rfl, rfl, rfl, rfl, h⟩
  · have h := h.2 hc
    refine z_aload_n hC (q := 0) dX5_add_9 rfl rfl ?_
    obtain ⟨b2, hb2, h⟩ := h
    refine gf_RX5_15 hC dX5_add_10 hk1 hb2 ?_
    refine z_aload_n hC (q := 0) dX5_add_13 rfl rfl ?_
    refine gf_RX5_9 hC dX5_add_14 hk1 ?_
    refine z_iload_n hC (q := 1) dX5_add_17 rfl rfl ?_
    obtain ⟨hk3, h⟩ := h
    obtain ⟨hi4, h⟩ := h
    refine z_iastore hC hk3 hi4 dX5_add_18 ?_
    refine z_genI (fun I5 eI5 => ?_)
    have h := h I5 eI5
    refine z_aload_n hC (q := 0) dX5_add_19 rfl rfl ?_
    obtain ⟨b6, hb6, h⟩ := h
    refine gf_RX5_19 hC dX5_add_20 hk1 hb6 ?_
    refine z_aload_n hC (q := 0) dX5_add_23 rfl rfl ?_
    refine gf_RX5_9 hC dX5_add_24 hk1 ?_
    refine z_iload_n hC (q := 2) dX5_add_27 rfl rfl ?_
    obtain ⟨hk7, h⟩ := h
    obtain ⟨hi8, h⟩ := h
    refine z_iastore hC hk7 hi8 dX5_add_28 ?_
    refine z_genI (fun I9 eI9 => ?_)
    have h := h I9 eI9
    refine z_aload_n hC (q := 0) dX5_add_29 rfl rfl ?_
    obtain ⟨b10, hb10, h⟩ := h
    refine gf_RX5_22 hC dX5_add_30 hk1 hb10 ?_
    refine z_aload_n hC (q := 0) dX5_add_33 rfl rfl ?_
    refine gf_RX5_9 hC dX5_add_34 hk1 ?_
    refine z_iload_n hC (q := 3) dX5_add_37 rfl rfl ?_
    obtain ⟨hk11, h⟩ := h
    obtain ⟨hi12, h⟩ := h
    refine z_iastore hC hk11 hi12 dX5_add_38 ?_
    refine z_genI (fun I13 eI13 => ?_)
    have h := h I13 eI13
    refine z_aload_n hC (q := 0) dX5_add_39 rfl rfl ?_
    refine z_dup hC rfl dX5_add_40 ?_
    refine gf_RX5_9 hC dX5_add_41 hk1 ?_
    refine z_iconst hC (v := 1) k_iconst_1 dX5_add_44 ?_
    refine z_iadd hC dX5_add_45 ?_
    refine pf_RX5_9 hC dX5_add_46 hk1 ?_
    refine z_genI (fun I14 eI14 => ?_)
    have h := h I14 eI14
    exact z_vret hC dX5_add_49 ⟨rfl, rfl, rfl, rfl, rfl, h⟩
def w_X5_pop  (a0 : Nat) (K : MK) (N : MK) (I : MI) (L : ML) (R : MR) (Q : Bool → MI → Prop) : Prop := K a0 = 6 ∧ ((0 : Int32) < (I a0 5) → ∀ I2 : MI, I2 = mup I a0 5 ((I a0 5) - 1) → ∃ b3 : Nat, R a0 4 = some b3 ∧ K b3 = 16 ∧ vp_in (I2 a0 5) (N b3) ∧ ∃ b6 : Bool, (I2 b3 (ix (I2 a0 5))) = bi b6 ∧ Q b6 I2) ∧ (¬ (0 : Int32) < (I a0 5) → Q false I)
set_option maxHeartbeats 4000000 in
set_option maxRecDepth 100000 in
theorem c_X5_pop  (l : Launch) (G : ZG) (a0 : Nat) (K : MK) (N : MK) (I : MI) (L : ML) (R : MR) (Q : Bool → MI → Prop) (h : w_X5_pop a0 K N I L R Q) : Met l yX5_pop (.code yX5_pop cX5_pop 1 (some .boolean) :: z_tbl) rm_X5_pop (z_Pc G [.ref a0] K N I L R) (z_Qc G (qIz K N L R Q)) 0 0 (z_A G) := by
  refine z_met (by decide) (Nat.le_of_ble_eq_true rfl) (fun X hX hRm hC0 hnm => ?_)
  subst hX
  have hC : ZOk X G RX5 cX5_pop 1 (some .boolean) := hC0
  show Z X G 1 0 0 _ K N I L R 0 [(0, .ref a0)] []
  delta w_X5_pop at h
  refine z_aload_n hC (q := 0) dX5_pop_0 rfl rfl ?_
  obtain ⟨hk1, h⟩ := h
  refine gf_RX5_29 hC dX5_pop_1 hk1 ?_
  refine z_if_gt hC (tgt := 9) dX5_pop_4 (by decide) (fun hc => ?_) (fun hc => ?_)
  · have h := h.1 hc
    refine z_aload_n hC (q := 0) dX5_pop_9 rfl rfl ?_
    refine z_dup hC rfl dX5_pop_10 ?_
    refine gf_RX5_29 hC dX5_pop_11 hk1 ?_
    refine z_iconst hC (v := 1) k_iconst_1 dX5_pop_14 ?_
    refine z_isub hC dX5_pop_15 ?_
    refine pf_RX5_29 hC dX5_pop_16 hk1 ?_
    refine z_genI (fun I2 eI2 => ?_)
    have h := h I2 eI2
    refine z_aload_n hC (q := 0) dX5_pop_19 rfl rfl ?_
    obtain ⟨b3, hb3, h⟩ := h
    refine gf_RX5_25 hC dX5_pop_20 hk1 hb3 ?_
    refine z_aload_n hC (q := 0) dX5_pop_23 rfl rfl ?_
    refine gf_RX5_29 hC dX5_pop_24 hk1 ?_
    obtain ⟨hk4, h⟩ := h
    obtain ⟨hi5, h⟩ := h
    refine z_zaload hC hk4 hi5 dX5_pop_27 ?_
    obtain ⟨b6, hxb6, h⟩ := h
    exact z_zret (b := b6) hC dX5_pop_28 hxb6 ⟨b6, rfl, rfl, rfl, rfl, rfl, h⟩
  · have h := h.2 hc
    refine z_iconst hC (v := 0) k_iconst_0 dX5_pop_7 ?_
    exact z_zret (b := false) hC dX5_pop_8 rfl ⟨false, rfl, rfl, rfl, rfl, rfl, h⟩
def w_X5_push  (a0 : Nat) (a1 : Bool) (K : MK) (N : MK) (I : MI) (L : ML) (R : MR) (Q : MI → Prop) : Prop := K a0 = 6 ∧ ((40 : Int32) ≤ (I a0 5) → Q I) ∧ (¬ (40 : Int32) ≤ (I a0 5) → ∃ b2 : Nat, R a0 4 = some b2 ∧ K b2 = 16 ∧ vp_in (I a0 5) (N b2) ∧ ∀ I5 : MI, I5 = mup I b2 (ix (I a0 5)) (vp_nar .boolean (bi a1)) → ∀ I6 : MI, I6 = mup I5 a0 5 ((I5 a0 5) + 1) → Q I6)
set_option maxHeartbeats 4000000 in
set_option maxRecDepth 100000 in
theorem c_X5_push  (l : Launch) (G : ZG) (a0 : Nat) (a1 : Bool) (K : MK) (N : MK) (I : MI) (L : ML) (R : MR) (Q : MI → Prop) (h : w_X5_push a0 a1 K N I L R Q) : Met l yX5_push (.code yX5_push cX5_push 2 none :: z_tbl) rm_X5_push (z_Pc G [.ref a0, .int (bi a1)] K N I L R) (z_Qc G (qIv K N L R Q)) 0 0 (z_A G) := by
  refine z_met (by decide) (Nat.le_of_ble_eq_true rfl) (fun X hX hRm hC0 hnm => ?_)
  subst hX
  have hC : ZOk X G RX5 cX5_push 2 none := hC0
  show Z X G 2 0 0 _ K N I L R 0 [(0, .ref a0), (1, .int (bi a1))] []
  delta w_X5_push at h
  refine z_aload_n hC (q := 0) dX5_push_0 rfl rfl ?_
  obtain ⟨hk1, h⟩ := h
  refine gf_RX5_29 hC dX5_push_1 hk1 ?_
  refine z_bipush hC (v := 40) k_bipush_40 dX5_push_4 ?_
  refine z_icmp_ge hC (tgt := 29) dX5_push_6 (by decide) (fun hc => ?_) (fun hc => ?_)
  · have h := h.1 hc
    exact z_vret hC dX5_push_29 ⟨rfl, rfl, rfl, rfl, rfl, h⟩
  · have h := h.2 hc
    refine z_aload_n hC (q := 0) dX5_push_9 rfl rfl ?_
    obtain ⟨b2, hb2, h⟩ := h
    refine gf_RX5_25 hC dX5_push_10 hk1 hb2 ?_
    refine z_aload_n hC (q := 0) dX5_push_13 rfl rfl ?_
    refine gf_RX5_29 hC dX5_push_14 hk1 ?_
    refine z_iload_n hC (q := 1) dX5_push_17 rfl rfl ?_
    obtain ⟨hk3, h⟩ := h
    obtain ⟨hi4, h⟩ := h
    refine z_zastore hC hk3 hi4 dX5_push_18 ?_
    refine z_genI (fun I5 eI5 => ?_)
    have h := h I5 eI5
    refine z_aload_n hC (q := 0) dX5_push_19 rfl rfl ?_
    refine z_dup hC rfl dX5_push_20 ?_
    refine gf_RX5_29 hC dX5_push_21 hk1 ?_
    refine z_iconst hC (v := 1) k_iconst_1 dX5_push_24 ?_
    refine z_iadd hC dX5_push_25 ?_
    refine pf_RX5_29 hC dX5_push_26 hk1 ?_
    refine z_genI (fun I6 eI6 => ?_)
    have h := h I6 eI6
    exact z_vret hC dX5_push_29 ⟨rfl, rfl, rfl, rfl, rfl, h⟩
def w_X9_isWithin_5  (x0 : Nat) (x1 : Int32) (x2 : Int32) (x3 : Int32) (x4 : Int32)  (K : MK) (N : MK) (I : MI) (L : ML) (R : MR)  (Q : Bool → Prop) : Prop := ∃ J : Nat → Nat → Int32 → Int32 → Int32 → Int32 → Prop, (∃ n, J n x0 x1 x2 x3 x4) ∧ ∀ (n : Nat) (x0 : Nat) (x1 : Int32) (x2 : Int32) (x3 : Int32) (x4 : Int32), J n x0 x1 x2 x3 x4 → ((10 : Int32) ≤ x4 → Q false) ∧ (¬ (10 : Int32) ≤ x4 → (x3 = (-1) → Q false) ∧ (¬ x3 = (-1) → (¬ x3 = x2 → K x0 = 10 ∧ ∃ b2 : Nat, R x0 2 = some b2 ∧ K b2 = 8 ∧ w_X7_at b2 x1 0 K N I L R (fun r4 => w_X9_scopeBehind x0 r4 x3 K N I L R (fun r5 => ∀ v6 : Int32, v6 = x4 + 1 → ∃ n1, n1 < n ∧ J n1 x0 x1 x2 r5 v6))) ∧ (x3 = x2 → Q true)))
def w_X9_isWithin  (a0 : Nat) (a1 : Int32) (a2 : Int32) (K : MK) (N : MK) (I : MI) (L : ML) (R : MR) (Q : Bool → Prop) : Prop := w_X9_isWithin_5 a0 a1 a2 a1 0 K N I L R Q
set_option maxHeartbeats 4000000 in
set_option maxRecDepth 100000 in
theorem z_X9_isWithin_5 {X : ZX} {G : ZG}  {x0 : Nat} {x1 : Int32} {x2 : Int32} {x3 : Int32} {x4 : Int32}  {K : MK} {N : MK} {I : MI} {L : ML} {R : MR}  {Q : Bool → Prop} (hC : ZOk X G RX9 cX9_isWithin 5 (some .boolean)) (hRm : X.2.2.2.1 = rm_X9_isWithin) (h : w_X9_isWithin_5 x0 x1 x2 x3 x4 K N I L R  Q) : Z X G 5 0 0 (z_T X G (qPz K N I L R Q) 0 0) K N I L R 5 [(0, .ref x0), (1, .int x1), (2, .int x2), (3, .int x3), (4, .int x4)] [] := by
  delta w_X9_isWithin_5 at h
  obtain ⟨J, ⟨n, h0⟩, hs⟩ := h
  have key : ∀ (n : Nat) (x0 : Nat) (x1 : Int32) (x2 : Int32) (x3 : Int32) (x4 : Int32), J n x0 x1 x2 x3 x4 → Z X G 5 0 0 (z_T X G (qPz K N I L R Q) 0 0) K N I L R 5 [(0, .ref x0), (1, .int x1), (2, .int x2), (3, .int x3), (4, .int x4)] [] := by
    intro n
    induction n using Nat.strongRecOn with
    | _ n ih =>
      intro x0 x1 x2 x3 x4 hJ
      have hC5 : ∀ (y0 : Nat) (y1 : Int32) (y2 : Int32) (y3 : Int32) (y4 : Int32) , (∃ n1, n1 < n ∧ J n1 y0 y1 y2 y3 y4) → Z X G 5 0 0 (z_T X G (qPz K N I L R Q) 0 0) K N I L R 5 [(0, .ref y0), (1, .int y1), (2, .int y2), (3, .int y3), (4, .int y4)] [] := fun y0 y1 y2 y3 y4 ⟨n1, hn1, hj⟩ => ih n1 hn1 y0 y1 y2 y3 y4 hj
      have h := hs n x0 x1 x2 x3 x4 hJ
      refine z_iload hC (q := 4) dX9_isWithin_5 rfl ?_
      refine z_bipush hC (v := 10) k_bipush_10 dX9_isWithin_7 ?_
      refine z_icmp_ge hC (tgt := 45) dX9_isWithin_9 (by decide) (fun hc => ?_) (fun hc => ?_)
      · have h := h.1 hc
        refine z_iconst hC (v := 0) k_iconst_0 dX9_isWithin_45 ?_
        exact z_zret (b := false) hC dX9_isWithin_46 rfl ⟨false, rfl, rfl, rfl, rfl, rfl, rfl, h⟩
      · have h := h.2 hc
        refine z_iload_n hC (q := 3) dX9_isWithin_12 rfl rfl ?_
        refine z_iconst hC (v := (-1)) k_iconst_m1 dX9_isWithin_13 ?_
        refine z_icmp_eq hC (tgt := 45) dX9_isWithin_14 (by decide) (fun hc => ?_) (fun hc => ?_)
        · have h := h.1 hc
          refine z_iconst hC (v := 0) k_iconst_0 dX9_isWithin_45 ?_
          exact z_zret (b := false) hC dX9_isWithin_46 rfl ⟨false, rfl, rfl, rfl, rfl, rfl, rfl, h⟩
        · have h := h.2 hc
          refine z_iload_n hC (q := 3) dX9_isWithin_17 rfl rfl ?_
          refine z_iload_n hC (q := 2) dX9_isWithin_18 rfl rfl ?_
          refine z_icmp_ne hC (tgt := 24) dX9_isWithin_19 (by decide) (fun hc => ?_) (fun hc => ?_)
          · have h := h.1 hc
            refine z_aload_n hC (q := 0) dX9_isWithin_24 rfl rfl ?_
            refine z_aload_n hC (q := 0) dX9_isWithin_25 rfl rfl ?_
            obtain ⟨hk1, h⟩ := h
            obtain ⟨b2, hb2, h⟩ := h
            refine gf_RX9_24 hC dX9_isWithin_26 hk1 hb2 ?_
            refine z_iload_n hC (q := 1) dX9_isWithin_29 rfl rfl ?_
            refine z_iconst hC (v := 0) k_iconst_0 dX9_isWithin_30 ?_
            obtain ⟨hk3, h⟩ := h
            refine cl_RX9_53 hC (c_X7_at _ G b2 x1 0 K N I L R _ h) hk3 dX9_isWithin_31 (by rw [hRm]; exact ⟨Nat.le_of_ble_eq_true rfl, Nat.le_of_ble_eq_true rfl⟩) ⟨Nat.zero_le _, Nat.zero_le _⟩ (Nat.le_of_ble_eq_true rfl) (z_kPi (fun r4 h => ?_))
            refine z_iload_n hC (q := 3) dX9_isWithin_34 rfl rfl ?_
            refine cl_RX9_79 hC (c_X9_scopeBehind _ G x0 r4 x3 K N I L R _ h) hk1 dX9_isWithin_35 (by rw [hRm]; exact ⟨Nat.le_of_ble_eq_true rfl, Nat.le_of_ble_eq_true rfl⟩) ⟨Nat.zero_le _, Nat.zero_le _⟩ (Nat.le_of_ble_eq_true rfl) (z_kPi (fun r5 h => ?_))
            refine z_istore_n hC (lv1 := [(3, .int r5), (0, .ref x0), (1, .int x1), (2, .int x2), (4, .int x4)]) dX9_isWithin_38 rfl (by decide) rfl ?_
            obtain ⟨v6, ev6⟩ : ∃ y : Int32, y = x4 + 1 := ⟨_, rfl⟩
            have h := h v6 ev6
            refine z_iinc hC (q := 4) (v := v6) (lv1 := [(4, .int v6), (3, .int r5), (0, .ref x0), (1, .int x1), (2, .int x2)]) dX9_isWithin_39 rfl (by rw [ev6, k_iinc_1]) (by decide) rfl ?_
            refine z_goto hC (tgt := 5) dX9_isWithin_42 (by decide) ?_
            exact z_sub [(0, .ref x0), (1, .int x1), (2, .int x2), (3, .int r5), (4, .int v6)] [2, 3, 4, 1, 0] rfl (hC5 _ _ _ _ _ h)
          · have h := h.2 hc
            refine z_iconst hC (v := 1) k_iconst_1 dX9_isWithin_22 ?_
            exact z_zret (b := true) hC dX9_isWithin_23 rfl ⟨true, rfl, rfl, rfl, rfl, rfl, rfl, h⟩
  exact key n x0 x1 x2 x3 x4 h0
set_option maxHeartbeats 4000000 in
set_option maxRecDepth 100000 in
theorem c_X9_isWithin  (l : Launch) (G : ZG) (a0 : Nat) (a1 : Int32) (a2 : Int32) (K : MK) (N : MK) (I : MI) (L : ML) (R : MR) (Q : Bool → Prop) (h : w_X9_isWithin a0 a1 a2 K N I L R Q) : Met l yX9_isWithin (.code yX9_isWithin cX9_isWithin 5 (some .boolean) :: z_tbl) rm_X9_isWithin (z_Pc G [.ref a0, .int a1, .int a2] K N I L R) (z_Qc G (qPz K N I L R Q)) 0 0 (z_A G) := by
  refine z_met (by decide) (Nat.le_of_ble_eq_true rfl) (fun X hX hRm hC0 hnm => ?_)
  subst hX
  have hC : ZOk X G RX9 cX9_isWithin 5 (some .boolean) := hC0
  show Z X G 5 0 0 _ K N I L R 0 [(0, .ref a0), (1, .int a1), (2, .int a2)] []
  delta w_X9_isWithin at h
  refine z_iload_n hC (q := 1) dX9_isWithin_0 rfl rfl ?_
  refine z_istore_n hC (lv1 := [(3, .int a1), (0, .ref a0), (1, .int a1), (2, .int a2)]) dX9_isWithin_1 rfl (by decide) rfl ?_
  refine z_iconst hC (v := 0) k_iconst_0 dX9_isWithin_2 ?_
  refine z_istore hC (lv1 := [(4, .int 0), (3, .int a1), (0, .ref a0), (1, .int a1), (2, .int a2)]) dX9_isWithin_3 (by decide) rfl ?_
  exact z_sub [(0, .ref a0), (1, .int a1), (2, .int a2), (3, .int a1), (4, .int 0)] [2, 3, 4, 1, 0] rfl (z_X9_isWithin_5 hC hRm h)
def w_X5_isSo  (a0 : Nat) (a1 : Int32) (a2 : Int32) (K : MK) (N : MK) (I : MI) (L : ML) (R : MR) (Q : Bool → Prop) : Prop := K a0 = 6 ∧ ∃ b2 : Nat, R a0 2 = some b2 ∧ K b2 = 14 ∧ vp_in a2 (N b2) ∧ (¬ (I b2 (ix a2)) = 60 → (¬ (I b2 (ix a2)) = 62 → ∃ b5 : Nat, R a0 3 = some b5 ∧ K b5 = 14 ∧ vp_in a2 (N b5) ∧ (¬ a1 = (I b5 (ix a2)) → Q false) ∧ (a1 = (I b5 (ix a2)) → Q true)) ∧ ((I b2 (ix a2)) = 62 → ∃ b8 : Nat, R a0 3 = some b8 ∧ K b8 = 14 ∧ vp_in a2 (N b8) ∧ (a1 ≤ (I b8 (ix a2)) → Q false) ∧ (¬ a1 ≤ (I b8 (ix a2)) → Q true))) ∧ ((I b2 (ix a2)) = 60 → ∃ b11 : Nat, R a0 3 = some b11 ∧ K b11 = 14 ∧ vp_in a2 (N b11) ∧ ((I b11 (ix a2)) ≤ a1 → Q false) ∧ (¬ (I b11 (ix a2)) ≤ a1 → Q true))
set_option maxHeartbeats 4000000 in
set_option maxRecDepth 100000 in
theorem c_X5_isSo  (l : Launch) (G : ZG) (a0 : Nat) (a1 : Int32) (a2 : Int32) (K : MK) (N : MK) (I : MI) (L : ML) (R : MR) (Q : Bool → Prop) (h : w_X5_isSo a0 a1 a2 K N I L R Q) : Met l yX5_isSo (.code yX5_isSo cX5_isSo 3 (some .boolean) :: z_tbl) rm_X5_isSo (z_Pc G [.ref a0, .int a1, .int a2] K N I L R) (z_Qc G (qPz K N I L R Q)) 0 0 (z_A G) := by
  refine z_met (by decide) (Nat.le_of_ble_eq_true rfl) (fun X hX hRm hC0 hnm => ?_)
  subst hX
  have hC : ZOk X G RX5 cX5_isSo 3 (some .boolean) := hC0
  show Z X G 3 0 0 _ K N I L R 0 [(0, .ref a0), (1, .int a1), (2, .int a2)] []
  delta w_X5_isSo at h
  refine z_aload_n hC (q := 0) dX5_isSo_0 rfl rfl ?_
  obtain ⟨hk1, h⟩ := h
  obtain ⟨b2, hb2, h⟩ := h
  refine gf_RX5_19 hC dX5_isSo_1 hk1 hb2 ?_
  refine z_iload_n hC (q := 2) dX5_isSo_4 rfl rfl ?_
  obtain ⟨hk3, h⟩ := h
  obtain ⟨hi4, h⟩ := h
  refine z_iaload hC hk3 hi4 dX5_isSo_5 ?_
  refine z_bipush hC (v := 60) k_bipush_60 dX5_isSo_6 ?_
  refine z_icmp_ne hC (tgt := 27) dX5_isSo_8 (by decide) (fun hc => ?_) (fun hc => ?_)
  · have h := h.1 hc
    refine z_aload_n hC (q := 0) dX5_isSo_27 rfl rfl ?_
    refine gf_RX5_19 hC dX5_isSo_28 hk1 hb2 ?_
    refine z_iload_n hC (q := 2) dX5_isSo_31 rfl rfl ?_
    refine z_iaload hC hk3 hi4 dX5_isSo_32 ?_
    refine z_bipush hC (v := 62) k_bipush_62 dX5_isSo_33 ?_
    refine z_icmp_ne hC (tgt := 56) dX5_isSo_35 (by decide) (fun hc => ?_) (fun hc => ?_)
    · have h := h.1 hc
      refine z_iload_n hC (q := 1) dX5_isSo_56 rfl rfl ?_
      refine z_aload_n hC (q := 0) dX5_isSo_57 rfl rfl ?_
      obtain ⟨b5, hb5, h⟩ := h
      refine gf_RX5_22 hC dX5_isSo_58 hk1 hb5 ?_
      refine z_iload_n hC (q := 2) dX5_isSo_61 rfl rfl ?_
      obtain ⟨hk6, h⟩ := h
      obtain ⟨hi7, h⟩ := h
      refine z_iaload hC hk6 hi7 dX5_isSo_62 ?_
      refine z_icmp_ne hC (tgt := 70) dX5_isSo_63 (by decide) (fun hc => ?_) (fun hc => ?_)
      · have h := h.1 hc
        refine z_iconst hC (v := 0) k_iconst_0 dX5_isSo_70 ?_
        exact z_zret (b := false) hC dX5_isSo_71 rfl ⟨false, rfl, rfl, rfl, rfl, rfl, rfl, h⟩
      · have h := h.2 hc
        refine z_iconst hC (v := 1) k_iconst_1 dX5_isSo_66 ?_
        refine z_goto hC (tgt := 71) dX5_isSo_67 (by decide) ?_
        exact z_zret (b := true) hC dX5_isSo_71 rfl ⟨true, rfl, rfl, rfl, rfl, rfl, rfl, h⟩
    · have h := h.2 hc
      refine z_iload_n hC (q := 1) dX5_isSo_38 rfl rfl ?_
      refine z_aload_n hC (q := 0) dX5_isSo_39 rfl rfl ?_
      obtain ⟨b8, hb8, h⟩ := h
      refine gf_RX5_22 hC dX5_isSo_40 hk1 hb8 ?_
      refine z_iload_n hC (q := 2) dX5_isSo_43 rfl rfl ?_
      obtain ⟨hk9, h⟩ := h
      obtain ⟨hi10, h⟩ := h
      refine z_iaload hC hk9 hi10 dX5_isSo_44 ?_
      refine z_icmp_le hC (tgt := 52) dX5_isSo_45 (by decide) (fun hc => ?_) (fun hc => ?_)
      · have h := h.1 hc
        refine z_iconst hC (v := 0) k_iconst_0 dX5_isSo_52 ?_
        refine z_goto hC (tgt := 71) dX5_isSo_53 (by decide) ?_
        exact z_zret (b := false) hC dX5_isSo_71 rfl ⟨false, rfl, rfl, rfl, rfl, rfl, rfl, h⟩
      · have h := h.2 hc
        refine z_iconst hC (v := 1) k_iconst_1 dX5_isSo_48 ?_
        refine z_goto hC (tgt := 71) dX5_isSo_49 (by decide) ?_
        exact z_zret (b := true) hC dX5_isSo_71 rfl ⟨true, rfl, rfl, rfl, rfl, rfl, rfl, h⟩
  · have h := h.2 hc
    refine z_iload_n hC (q := 1) dX5_isSo_11 rfl rfl ?_
    refine z_aload_n hC (q := 0) dX5_isSo_12 rfl rfl ?_
    obtain ⟨b11, hb11, h⟩ := h
    refine gf_RX5_22 hC dX5_isSo_13 hk1 hb11 ?_
    refine z_iload_n hC (q := 2) dX5_isSo_16 rfl rfl ?_
    obtain ⟨hk12, h⟩ := h
    obtain ⟨hi13, h⟩ := h
    refine z_iaload hC hk12 hi13 dX5_isSo_17 ?_
    refine z_icmp_ge hC (tgt := 25) dX5_isSo_18 (by decide) (fun hc => ?_) (fun hc => ?_)
    · have h := h.1 hc
      refine z_iconst hC (v := 0) k_iconst_0 dX5_isSo_25 ?_
      exact z_zret (b := false) hC dX5_isSo_26 rfl ⟨false, rfl, rfl, rfl, rfl, rfl, rfl, h⟩
    · have h := h.2 hc
      refine z_iconst hC (v := 1) k_iconst_1 dX5_isSo_21 ?_
      refine z_goto hC (tgt := 26) dX5_isSo_22 (by decide) ?_
      exact z_zret (b := true) hC dX5_isSo_26 rfl ⟨true, rfl, rfl, rfl, rfl, rfl, rfl, h⟩
def w_X9_placesOf_4  (x0 : Nat) (x1 : Int32) (x2 : Int32) (x3 : Int32)  (K : MK) (N : MK) (I : MI) (L : ML) (R : MR)  (Q : Int32 → Prop) : Prop := ∃ J : Nat → Nat → Int32 → Int32 → Int32 → Prop, (∃ n, J n x0 x1 x2 x3) ∧ ∀ (n : Nat) (x0 : Nat) (x1 : Int32) (x2 : Int32) (x3 : Int32), J n x0 x1 x2 x3 → K x0 = 10 ∧ ∃ b2 : Nat, R x0 5 = some b2 ∧ K b2 = 8 ∧ ((I b2 3) ≤ x3 → Q x2) ∧ (¬ (I b2 3) ≤ x3 → w_X7_at b2 x3 2 K N I L R (fun r4 => (¬ r4 = x1 → ∀ v5 : Int32, v5 = x3 + 1 → ∃ n1, n1 < n ∧ J n1 x0 x1 x2 v5) ∧ (r4 = x1 → ∀ v6 : Int32, v6 = x2 + 1 → ∀ v7 : Int32, v7 = x3 + 1 → ∃ n1, n1 < n ∧ J n1 x0 x1 v6 v7)))
def w_X9_placesOf  (a0 : Nat) (a1 : Int32) (K : MK) (N : MK) (I : MI) (L : ML) (R : MR) (Q : Int32 → Prop) : Prop := w_X9_placesOf_4 a0 a1 0 0 K N I L R Q
set_option maxHeartbeats 4000000 in
set_option maxRecDepth 100000 in
theorem z_X9_placesOf_4 {X : ZX} {G : ZG}  {x0 : Nat} {x1 : Int32} {x2 : Int32} {x3 : Int32}  {K : MK} {N : MK} {I : MI} {L : ML} {R : MR}  {Q : Int32 → Prop} (hC : ZOk X G RX9 cX9_placesOf 4 (some .int)) (hRm : X.2.2.2.1 = rm_X9_placesOf) (h : w_X9_placesOf_4 x0 x1 x2 x3 K N I L R  Q) : Z X G 4 0 0 (z_T X G (qPi K N I L R Q) 0 0) K N I L R 4 [(0, .ref x0), (1, .int x1), (2, .int x2), (3, .int x3)] [] := by
  delta w_X9_placesOf_4 at h
  obtain ⟨J, ⟨n, h0⟩, hs⟩ := h
  have key : ∀ (n : Nat) (x0 : Nat) (x1 : Int32) (x2 : Int32) (x3 : Int32), J n x0 x1 x2 x3 → Z X G 4 0 0 (z_T X G (qPi K N I L R Q) 0 0) K N I L R 4 [(0, .ref x0), (1, .int x1), (2, .int x2), (3, .int x3)] [] := by
    intro n
    induction n using Nat.strongRecOn with
    | _ n ih =>
      intro x0 x1 x2 x3 hJ
      have hC4 : ∀ (y0 : Nat) (y1 : Int32) (y2 : Int32) (y3 : Int32) , (∃ n1, n1 < n ∧ J n1 y0 y1 y2 y3) → Z X G 4 0 0 (z_T X G (qPi K N I L R Q) 0 0) K N I L R 4 [(0, .ref y0), (1, .int y1), (2, .int y2), (3, .int y3)] [] := fun y0 y1 y2 y3 ⟨n1, hn1, hj⟩ => ih n1 hn1 y0 y1 y2 y3 hj
      have h := hs n x0 x1 x2 x3 hJ
      refine z_iload_n hC (q := 3) dX9_placesOf_4 rfl rfl ?_
      refine z_aload_n hC (q := 0) dX9_placesOf_5 rfl rfl ?_
      obtain ⟨hk1, h⟩ := h
      obtain ⟨b2, hb2, h⟩ := h
      refine gf_RX9_33 hC dX9_placesOf_6 hk1 hb2 ?_
      obtain ⟨hk3, h⟩ := h
      refine gf_RX9_50 hC dX9_placesOf_9 hk3 ?_
      refine z_icmp_ge hC (tgt := 37) dX9_placesOf_12 (by decide) (fun hc => ?_) (fun hc => ?_)
      · have h := h.1 hc
        refine z_iload_n hC (q := 2) dX9_placesOf_37 rfl rfl ?_
        exact z_iret hC dX9_placesOf_38 ⟨_, rfl, rfl, rfl, rfl, rfl, rfl, h⟩
      · have h := h.2 hc
        refine z_aload_n hC (q := 0) dX9_placesOf_15 rfl rfl ?_
        refine gf_RX9_33 hC dX9_placesOf_16 hk1 hb2 ?_
        refine z_iload_n hC (q := 3) dX9_placesOf_19 rfl rfl ?_
        refine z_iconst hC (v := 2) k_iconst_2 dX9_placesOf_20 ?_
        refine cl_RX9_53 hC (c_X7_at _ G b2 x3 2 K N I L R _ h) hk3 dX9_placesOf_21 (by rw [hRm]; exact ⟨Nat.le_of_ble_eq_true rfl, Nat.le_of_ble_eq_true rfl⟩) ⟨Nat.zero_le _, Nat.zero_le _⟩ (Nat.le_of_ble_eq_true rfl) (z_kPi (fun r4 h => ?_))
        refine z_iload_n hC (q := 1) dX9_placesOf_24 rfl rfl ?_
        refine z_icmp_ne hC (tgt := 31) dX9_placesOf_25 (by decide) (fun hc => ?_) (fun hc => ?_)
        · have h := h.1 hc
          obtain ⟨v5, ev5⟩ : ∃ y : Int32, y = x3 + 1 := ⟨_, rfl⟩
          have h := h v5 ev5
          refine z_iinc hC (q := 3) (v := v5) (lv1 := [(3, .int v5), (0, .ref x0), (1, .int x1), (2, .int x2)]) dX9_placesOf_31 rfl (by rw [ev5, k_iinc_1]) (by decide) rfl ?_
          refine z_goto hC (tgt := 4) dX9_placesOf_34 (by decide) ?_
          exact z_sub [(0, .ref x0), (1, .int x1), (2, .int x2), (3, .int v5)] [1, 2, 3, 0] rfl (hC4 _ _ _ _ h)
        · have h := h.2 hc
          obtain ⟨v6, ev6⟩ : ∃ y : Int32, y = x2 + 1 := ⟨_, rfl⟩
          have h := h v6 ev6
          refine z_iinc hC (q := 2) (v := v6) (lv1 := [(2, .int v6), (0, .ref x0), (1, .int x1), (3, .int x3)]) dX9_placesOf_28 rfl (by rw [ev6, k_iinc_1]) (by decide) rfl ?_
          obtain ⟨v7, ev7⟩ : ∃ y : Int32, y = x3 + 1 := ⟨_, rfl⟩
          have h := h v7 ev7
          refine z_iinc hC (q := 3) (v := v7) (lv1 := [(3, .int v7), (2, .int v6), (0, .ref x0), (1, .int x1)]) dX9_placesOf_31 rfl (by rw [ev7, k_iinc_1]) (by decide) rfl ?_
          refine z_goto hC (tgt := 4) dX9_placesOf_34 (by decide) ?_
          exact z_sub [(0, .ref x0), (1, .int x1), (2, .int v6), (3, .int v7)] [2, 3, 1, 0] rfl (hC4 _ _ _ _ h)
  exact key n x0 x1 x2 x3 h0
set_option maxHeartbeats 4000000 in
set_option maxRecDepth 100000 in
theorem c_X9_placesOf  (l : Launch) (G : ZG) (a0 : Nat) (a1 : Int32) (K : MK) (N : MK) (I : MI) (L : ML) (R : MR) (Q : Int32 → Prop) (h : w_X9_placesOf a0 a1 K N I L R Q) : Met l yX9_placesOf (.code yX9_placesOf cX9_placesOf 4 (some .int) :: z_tbl) rm_X9_placesOf (z_Pc G [.ref a0, .int a1] K N I L R) (z_Qc G (qPi K N I L R Q)) 0 0 (z_A G) := by
  refine z_met (by decide) (Nat.le_of_ble_eq_true rfl) (fun X hX hRm hC0 hnm => ?_)
  subst hX
  have hC : ZOk X G RX9 cX9_placesOf 4 (some .int) := hC0
  show Z X G 4 0 0 _ K N I L R 0 [(0, .ref a0), (1, .int a1)] []
  delta w_X9_placesOf at h
  refine z_iconst hC (v := 0) k_iconst_0 dX9_placesOf_0 ?_
  refine z_istore_n hC (lv1 := [(2, .int 0), (0, .ref a0), (1, .int a1)]) dX9_placesOf_1 rfl (by decide) rfl ?_
  refine z_iconst hC (v := 0) k_iconst_0 dX9_placesOf_2 ?_
  refine z_istore_n hC (lv1 := [(3, .int 0), (2, .int 0), (0, .ref a0), (1, .int a1)]) dX9_placesOf_3 rfl (by decide) rfl ?_
  exact z_sub [(0, .ref a0), (1, .int a1), (2, .int 0), (3, .int 0)] [2, 3, 1, 0] rfl (z_X9_placesOf_4 hC hRm h)
def w_X5_isOne  (a0 : Nat) (a1 : Nat) (a2 : Nat) (a3 : Nat) (a4 : Int32) (a5 : Int32) (K : MK) (N : MK) (I : MI) (L : ML) (R : MR) (Q : Bool → MI → Prop) : Prop := K a1 = 10 ∧ ∃ b2 : Nat, R a1 4 = some b2 ∧ K b2 = 8 ∧ w_X7_at b2 a4 0 K N I L R (fun r4 => w_X7_at b2 a4 1 K N I L R (fun r5 => K a0 = 6 ∧ ∃ b7 : Nat, R a0 1 = some b7 ∧ K b7 = 14 ∧ vp_in a5 (N b7) ∧ ((I b7 (ix a5)) = 7 → ∃ b10 : Nat, R a1 3 = some b10 ∧ K b10 = 8 ∧ w_X7_at b10 r5 2 K N I L R (fun r12 => (¬ r12 = 1 → Q false I) ∧ (r12 = 1 → Q true I))) ∧ (¬ (I b7 (ix a5)) = 7 → ((I b7 (ix a5)) = 9 → K a2 = 4 ∧ K a3 = 3 ∧ w_X2_look a3 a1 a2 a4 (I a2 4) K N I L R (fun r15 I16 => (¬ r15 = 0 → Q false I16) ∧ (r15 = 0 → w_X5_isSo a0 (I16 a3 2) a5 K N I16 L R (fun r17 => (r17 = false → Q false I16) ∧ (r17 = true → Q true I16))))) ∧ (¬ (I b7 (ix a5)) = 9 → ((I b7 (ix a5)) = 28 → K a2 = 4 ∧ K a3 = 3 ∧ w_X2_look a3 a1 a2 a4 (I a2 4) K N I L R (fun r20 I21 => (¬ r20 = 0 → Q false I21) ∧ (r20 = 0 → Q true I21))) ∧ (¬ (I b7 (ix a5)) = 28 → ((I b7 (ix a5)) = 29 → K a2 = 4 ∧ w_X9_scopeHas a1 r4 (I a2 4) K N I L R (fun r23 => Q r23 I)) ∧ (¬ (I b7 (ix a5)) = 29 → ((I b7 (ix a5)) = 30 → ∃ b24 : Nat, R a0 3 = some b24 ∧ K b24 = 14 ∧ vp_in a5 (N b24) ∧ w_X9_isWithin a1 r4 (I b24 (ix a5)) K N I L R (fun r27 => Q r27 I)) ∧ (¬ (I b7 (ix a5)) = 30 → ((I b7 (ix a5)) = 31 → ∃ b28 : Nat, R a1 3 = some b28 ∧ K b28 = 8 ∧ w_X7_at b28 r5 1 K N I L R (fun r30 => w_X5_isSo a0 r30 a5 K N I L R (fun r31 => Q r31 I))) ∧ (¬ (I b7 (ix a5)) = 31 → ((I b7 (ix a5)) = 32 → w_X9_placesOf a1 a4 K N I L R (fun r32 => w_X5_isSo a0 r32 a5 K N I L R (fun r33 => Q r33 I))) ∧ (¬ (I b7 (ix a5)) = 32 → w_X5_isSo a0 a4 a5 K N I L R (fun r34 => Q r34 I))))))))))
set_option maxHeartbeats 4000000 in
set_option maxRecDepth 100000 in
theorem c_X5_isOne  (l : Launch) (G : ZG) (a0 : Nat) (a1 : Nat) (a2 : Nat) (a3 : Nat) (a4 : Int32) (a5 : Int32) (K : MK) (N : MK) (I : MI) (L : ML) (R : MR) (Q : Bool → MI → Prop) (h : w_X5_isOne a0 a1 a2 a3 a4 a5 K N I L R Q) : Met l yX5_isOne (.code yX5_isOne cX5_isOne 8 (some .boolean) :: z_tbl) rm_X5_isOne (z_Pc G [.ref a0, .ref a1, .ref a2, .ref a3, .int a4, .int a5] K N I L R) (z_Qc G (qIz K N L R Q)) 0 0 (z_A G) := by
  refine z_met (by decide) (Nat.le_of_ble_eq_true rfl) (fun X hX hRm hC0 hnm => ?_)
  subst hX
  have hC : ZOk X G RX5 cX5_isOne 8 (some .boolean) := hC0
  show Z X G 8 0 0 _ K N I L R 0 [(0, .ref a0), (1, .ref a1), (2, .ref a2), (3, .ref a3), (4, .int a4), (5, .int a5)] []
  delta w_X5_isOne at h
  refine z_aload_n hC (q := 1) dX5_isOne_0 rfl rfl ?_
  obtain ⟨hk1, h⟩ := h
  obtain ⟨b2, hb2, h⟩ := h
  refine gf_RX5_50 hC dX5_isOne_1 hk1 hb2 ?_
  refine z_iload hC (q := 4) dX5_isOne_4 rfl ?_
  refine z_iconst hC (v := 0) k_iconst_0 dX5_isOne_6 ?_
  obtain ⟨hk3, h⟩ := h
  refine cl_RX5_56 hC (c_X7_at _ G b2 a4 0 K N I L R _ h) hk3 dX5_isOne_7 (by rw [hRm]; exact ⟨Nat.le_of_ble_eq_true rfl, Nat.le_of_ble_eq_true rfl⟩) ⟨Nat.zero_le _, Nat.zero_le _⟩ (Nat.le_of_ble_eq_true rfl) (z_kPi (fun r4 h => ?_))
  refine z_istore hC (lv1 := [(6, .int r4), (0, .ref a0), (1, .ref a1), (2, .ref a2), (3, .ref a3), (4, .int a4), (5, .int a5)]) dX5_isOne_10 (by decide) rfl ?_
  refine z_aload_n hC (q := 2) dX5_isOne_12 rfl rfl ?_
  refine gf_RX5_50 hC dX5_isOne_13 hk1 hb2 ?_
  refine z_iload hC (q := 5) dX5_isOne_16 rfl ?_
  refine z_iconst hC (v := 1) k_iconst_1 dX5_isOne_18 ?_
  refine cl_RX5_56 hC (c_X7_at _ G b2 a4 1 K N I L R _ h) hk3 dX5_isOne_19 (by rw [hRm]; exact ⟨Nat.le_of_ble_eq_true rfl, Nat.le_of_ble_eq_true rfl⟩) ⟨Nat.zero_le _, Nat.zero_le _⟩ (Nat.le_of_ble_eq_true rfl) (z_kPi (fun r5 h => ?_))
  refine z_istore hC (lv1 := [(7, .int r5), (6, .int r4), (0, .ref a0), (1, .ref a1), (2, .ref a2), (3, .ref a3), (4, .int a4), (5, .int a5)]) dX5_isOne_22 (by decide) rfl ?_
  refine z_aload_n hC (q := 2) dX5_isOne_24 rfl rfl ?_
  obtain ⟨hk6, h⟩ := h
  obtain ⟨b7, hb7, h⟩ := h
  refine gf_RX5_15 hC dX5_isOne_25 hk6 hb7 ?_
  refine z_iload hC (q := 7) dX5_isOne_28 rfl ?_
  obtain ⟨hk8, h⟩ := h
  obtain ⟨hi9, h⟩ := h
  refine z_iaload hC hk8 hi9 dX5_isOne_30 ?_
  by_cases hc0 : (I b7 (ix a5)) = 7
  · have h := h.1 hc0
    refine z_lookup hC (off := 97) (tgt := 128) dX5_isOne_31 (by decide) (by rw [hc0]; decide) (by decide) ?_
    refine z_aload_n hC (q := 3) dX5_isOne_128 rfl rfl ?_
    obtain ⟨b10, hb10, h⟩ := h
    refine gf_RX5_77 hC dX5_isOne_129 hk1 hb10 ?_
    refine z_iload hC (q := 0) dX5_isOne_132 rfl ?_
    refine z_iconst hC (v := 2) k_iconst_2 dX5_isOne_134 ?_
    obtain ⟨hk11, h⟩ := h
    refine cl_RX5_56 hC (c_X7_at _ G b10 r5 2 K N I L R _ h) hk11 dX5_isOne_135 (by rw [hRm]; exact ⟨Nat.le_of_ble_eq_true rfl, Nat.le_of_ble_eq_true rfl⟩) ⟨Nat.zero_le _, Nat.zero_le _⟩ (Nat.le_of_ble_eq_true rfl) (z_kPi (fun r12 h => ?_))
    refine z_iconst hC (v := 1) k_iconst_1 dX5_isOne_138 ?_
    refine z_icmp_ne hC (tgt := 146) dX5_isOne_139 (by decide) (fun hc => ?_) (fun hc => ?_)
    · have h := h.1 hc
      refine z_iconst hC (v := 0) k_iconst_0 dX5_isOne_146 ?_
      exact z_zret (b := false) hC dX5_isOne_147 rfl ⟨false, rfl, rfl, rfl, rfl, rfl, h⟩
    · have h := h.2 hc
      refine z_iconst hC (v := 1) k_iconst_1 dX5_isOne_142 ?_
      refine z_goto hC (tgt := 147) dX5_isOne_143 (by decide) ?_
      exact z_zret (b := true) hC dX5_isOne_147 rfl ⟨true, rfl, rfl, rfl, rfl, rfl, h⟩
  · have h := h.2 hc0
    by_cases hc1 : (I b7 (ix a5)) = 9
    · have h := h.1 hc1
      refine z_lookup hC (off := 161) (tgt := 192) dX5_isOne_31 (by decide) (by rw [hc1]; decide) (by decide) ?_
      refine z_aload_n hC (q := 5) dX5_isOne_192 rfl rfl ?_
      refine z_aload_n hC (q := 3) dX5_isOne_193 rfl rfl ?_
      refine z_aload_n hC (q := 4) dX5_isOne_194 rfl rfl ?_
      refine z_iload hC (q := 6) dX5_isOne_195 rfl ?_
      refine z_aload_n hC (q := 4) dX5_isOne_197 rfl rfl ?_
      obtain ⟨hk13, h⟩ := h
      refine gf_RX5_62 hC dX5_isOne_198 hk13 ?_
      obtain ⟨hk14, h⟩ := h
      refine cl_RX5_67 hC (c_X2_look _ G a3 a1 a2 a4 (I a2 4) K N I L R _ h) hk14 dX5_isOne_201 (by rw [hRm]; exact ⟨Nat.le_of_ble_eq_true rfl, Nat.le_of_ble_eq_true rfl⟩) ⟨Nat.zero_le _, Nat.zero_le _⟩ (Nat.le_of_ble_eq_true rfl) (z_kIi (I := I) (fun r15 I16 h => ?_))
      refine z_if_ne hC (tgt := 224) dX5_isOne_204 (by decide) (fun hc => ?_) (fun hc => ?_)
      · have h := h.1 hc
        refine z_iconst hC (v := 0) k_iconst_0 dX5_isOne_224 ?_
        exact z_zret (b := false) hC dX5_isOne_225 rfl ⟨false, rfl, rfl, rfl, rfl, rfl, h⟩
      · have h := h.2 hc
        refine z_aload_n hC (q := 2) dX5_isOne_207 rfl rfl ?_
        refine z_aload_n hC (q := 5) dX5_isOne_208 rfl rfl ?_
        refine gf_RX5_90 hC dX5_isOne_209 hk14 ?_
        refine z_iload hC (q := 7) dX5_isOne_212 rfl ?_
        refine cl_RX5_83 hC (c_X5_isSo _ G a0 (I16 a3 2) a5 K N I16 L R _ h) hk6 dX5_isOne_214 (by rw [hRm]; exact ⟨Nat.le_of_ble_eq_true rfl, Nat.le_of_ble_eq_true rfl⟩) ⟨Nat.zero_le _, Nat.zero_le _⟩ (Nat.le_of_ble_eq_true rfl) (z_kPz (fun r17 h => ?_))
        refine z_ifz_eq hC (tgt := 224) dX5_isOne_217 (by decide) (fun hc => ?_) (fun hc => ?_)
        · have h := h.1 hc
          refine z_iconst hC (v := 0) k_iconst_0 dX5_isOne_224 ?_
          exact z_zret (b := false) hC dX5_isOne_225 rfl ⟨false, rfl, rfl, rfl, rfl, rfl, h⟩
        · have h := h.2 hc
          refine z_iconst hC (v := 1) k_iconst_1 dX5_isOne_220 ?_
          refine z_goto hC (tgt := 225) dX5_isOne_221 (by decide) ?_
          exact z_zret (b := true) hC dX5_isOne_225 rfl ⟨true, rfl, rfl, rfl, rfl, rfl, h⟩
    · have h := h.2 hc1
      by_cases hc2 : (I b7 (ix a5)) = 28
      · have h := h.1 hc2
        refine z_lookup hC (off := 65) (tgt := 96) dX5_isOne_31 (by decide) (by rw [hc2]; decide) (by decide) ?_
        refine z_aload_n hC (q := 5) dX5_isOne_96 rfl rfl ?_
        refine z_aload_n hC (q := 3) dX5_isOne_97 rfl rfl ?_
        refine z_aload_n hC (q := 4) dX5_isOne_98 rfl rfl ?_
        refine z_iload hC (q := 6) dX5_isOne_99 rfl ?_
        refine z_aload_n hC (q := 4) dX5_isOne_101 rfl rfl ?_
        obtain ⟨hk18, h⟩ := h
        refine gf_RX5_62 hC dX5_isOne_102 hk18 ?_
        obtain ⟨hk19, h⟩ := h
        refine cl_RX5_67 hC (c_X2_look _ G a3 a1 a2 a4 (I a2 4) K N I L R _ h) hk19 dX5_isOne_105 (by rw [hRm]; exact ⟨Nat.le_of_ble_eq_true rfl, Nat.le_of_ble_eq_true rfl⟩) ⟨Nat.zero_le _, Nat.zero_le _⟩ (Nat.le_of_ble_eq_true rfl) (z_kIi (I := I) (fun r20 I21 h => ?_))
        refine z_if_ne hC (tgt := 115) dX5_isOne_108 (by decide) (fun hc => ?_) (fun hc => ?_)
        · have h := h.1 hc
          refine z_iconst hC (v := 0) k_iconst_0 dX5_isOne_115 ?_
          exact z_zret (b := false) hC dX5_isOne_116 rfl ⟨false, rfl, rfl, rfl, rfl, rfl, h⟩
        · have h := h.2 hc
          refine z_iconst hC (v := 1) k_iconst_1 dX5_isOne_111 ?_
          refine z_goto hC (tgt := 116) dX5_isOne_112 (by decide) ?_
          exact z_zret (b := true) hC dX5_isOne_116 rfl ⟨true, rfl, rfl, rfl, rfl, rfl, h⟩
      · have h := h.2 hc2
        by_cases hc3 : (I b7 (ix a5)) = 29
        · have h := h.1 hc3
          refine z_lookup hC (off := 86) (tgt := 117) dX5_isOne_31 (by decide) (by rw [hc3]; decide) (by decide) ?_
          refine z_aload_n hC (q := 3) dX5_isOne_117 rfl rfl ?_
          refine z_iload hC (q := 1) dX5_isOne_118 rfl ?_
          refine z_aload_n hC (q := 4) dX5_isOne_120 rfl rfl ?_
          obtain ⟨hk22, h⟩ := h
          refine gf_RX5_62 hC dX5_isOne_121 hk22 ?_
          refine cl_RX5_73 hC (c_X9_scopeHas _ G a1 r4 (I a2 4) K N I L R _ h) hk1 dX5_isOne_124 (by rw [hRm]; exact ⟨Nat.le_of_ble_eq_true rfl, Nat.le_of_ble_eq_true rfl⟩) ⟨Nat.zero_le _, Nat.zero_le _⟩ (Nat.le_of_ble_eq_true rfl) (z_kPz (fun r23 h => ?_))
          exact z_zret (b := r23) hC dX5_isOne_127 rfl ⟨r23, rfl, rfl, rfl, rfl, rfl, h⟩
        · have h := h.2 hc3
          by_cases hc4 : (I b7 (ix a5)) = 30
          · have h := h.1 hc4
            refine z_lookup hC (off := 117) (tgt := 148) dX5_isOne_31 (by decide) (by rw [hc4]; decide) (by decide) ?_
            refine z_aload_n hC (q := 3) dX5_isOne_148 rfl rfl ?_
            refine z_iload hC (q := 1) dX5_isOne_149 rfl ?_
            refine z_aload_n hC (q := 2) dX5_isOne_151 rfl rfl ?_
            obtain ⟨b24, hb24, h⟩ := h
            refine gf_RX5_22 hC dX5_isOne_152 hk6 hb24 ?_
            refine z_iload hC (q := 7) dX5_isOne_155 rfl ?_
            obtain ⟨hk25, h⟩ := h
            obtain ⟨hi26, h⟩ := h
            refine z_iaload hC hk25 hi26 dX5_isOne_157 ?_
            refine cl_RX5_80 hC (c_X9_isWithin _ G a1 r4 (I b24 (ix a5)) K N I L R _ h) hk1 dX5_isOne_158 (by rw [hRm]; exact ⟨Nat.le_of_ble_eq_true rfl, Nat.le_of_ble_eq_true rfl⟩) ⟨Nat.zero_le _, Nat.zero_le _⟩ (Nat.le_of_ble_eq_true rfl) (z_kPz (fun r27 h => ?_))
            exact z_zret (b := r27) hC dX5_isOne_161 rfl ⟨r27, rfl, rfl, rfl, rfl, rfl, h⟩
          · have h := h.2 hc4
            by_cases hc5 : (I b7 (ix a5)) = 31
            · have h := h.1 hc5
              refine z_lookup hC (off := 131) (tgt := 162) dX5_isOne_31 (by decide) (by rw [hc5]; decide) (by decide) ?_
              refine z_aload_n hC (q := 2) dX5_isOne_162 rfl rfl ?_
              refine z_aload_n hC (q := 3) dX5_isOne_163 rfl rfl ?_
              obtain ⟨b28, hb28, h⟩ := h
              refine gf_RX5_77 hC dX5_isOne_164 hk1 hb28 ?_
              refine z_iload hC (q := 0) dX5_isOne_167 rfl ?_
              refine z_iconst hC (v := 1) k_iconst_1 dX5_isOne_169 ?_
              obtain ⟨hk29, h⟩ := h
              refine cl_RX5_56 hC (c_X7_at _ G b28 r5 1 K N I L R _ h) hk29 dX5_isOne_170 (by rw [hRm]; exact ⟨Nat.le_of_ble_eq_true rfl, Nat.le_of_ble_eq_true rfl⟩) ⟨Nat.zero_le _, Nat.zero_le _⟩ (Nat.le_of_ble_eq_true rfl) (z_kPi (fun r30 h => ?_))
              refine z_iload hC (q := 7) dX5_isOne_173 rfl ?_
              refine cl_RX5_83 hC (c_X5_isSo _ G a0 r30 a5 K N I L R _ h) hk6 dX5_isOne_175 (by rw [hRm]; exact ⟨Nat.le_of_ble_eq_true rfl, Nat.le_of_ble_eq_true rfl⟩) ⟨Nat.zero_le _, Nat.zero_le _⟩ (Nat.le_of_ble_eq_true rfl) (z_kPz (fun r31 h => ?_))
              exact z_zret (b := r31) hC dX5_isOne_178 rfl ⟨r31, rfl, rfl, rfl, rfl, rfl, h⟩
            · have h := h.2 hc5
              by_cases hc6 : (I b7 (ix a5)) = 32
              · have h := h.1 hc6
                refine z_lookup hC (off := 148) (tgt := 179) dX5_isOne_31 (by decide) (by rw [hc6]; decide) (by decide) ?_
                refine z_aload_n hC (q := 2) dX5_isOne_179 rfl rfl ?_
                refine z_aload_n hC (q := 3) dX5_isOne_180 rfl rfl ?_
                refine z_iload hC (q := 6) dX5_isOne_181 rfl ?_
                refine cl_RX5_86 hC (c_X9_placesOf _ G a1 a4 K N I L R _ h) hk1 dX5_isOne_183 (by rw [hRm]; exact ⟨Nat.le_of_ble_eq_true rfl, Nat.le_of_ble_eq_true rfl⟩) ⟨Nat.zero_le _, Nat.zero_le _⟩ (Nat.le_of_ble_eq_true rfl) (z_kPi (fun r32 h => ?_))
                refine z_iload hC (q := 7) dX5_isOne_186 rfl ?_
                refine cl_RX5_83 hC (c_X5_isSo _ G a0 r32 a5 K N I L R _ h) hk6 dX5_isOne_188 (by rw [hRm]; exact ⟨Nat.le_of_ble_eq_true rfl, Nat.le_of_ble_eq_true rfl⟩) ⟨Nat.zero_le _, Nat.zero_le _⟩ (Nat.le_of_ble_eq_true rfl) (z_kPz (fun r33 h => ?_))
                exact z_zret (b := r33) hC dX5_isOne_191 rfl ⟨r33, rfl, rfl, rfl, rfl, rfl, h⟩
              · have h := h.2 hc6
                have hout : Op.lookupswitch.offset [(7, 97), (9, 161), (28, 65), (29, 86), (30, 117), (31, 131), (32, 148)] 195 (I b7 (ix a5)).toInt = 195 := z_lkOut (by intro q hq; simp only [List.mem_cons, List.not_mem_nil, or_false] at hq; rcases hq with rfl | rfl | rfl | rfl | rfl | rfl | rfl <;> first | exact z_nei hc0 (by decide) | exact z_nei hc1 (by decide) | exact z_nei hc2 (by decide) | exact z_nei hc3 (by decide) | exact z_nei hc4 (by decide) | exact z_nei hc5 (by decide) | exact z_nei hc6 (by decide))
                refine z_lookup hC (tgt := 226) dX5_isOne_31 (by decide) hout (by decide) ?_
                refine z_aload_n hC (q := 2) dX5_isOne_226 rfl rfl ?_
                refine z_iload hC (q := 6) dX5_isOne_227 rfl ?_
                refine z_iload hC (q := 7) dX5_isOne_229 rfl ?_
                refine cl_RX5_83 hC (c_X5_isSo _ G a0 a4 a5 K N I L R _ h) hk6 dX5_isOne_231 (by rw [hRm]; exact ⟨Nat.le_of_ble_eq_true rfl, Nat.le_of_ble_eq_true rfl⟩) ⟨Nat.zero_le _, Nat.zero_le _⟩ (Nat.le_of_ble_eq_true rfl) (z_kPz (fun r34 h => ?_))
                exact z_zret (b := r34) hC dX5_isOne_234 rfl ⟨r34, rfl, rfl, rfl, rfl, rfl, h⟩
def w_X5_isSaidOf_79  (x0 : Nat) (x1 : Nat) (x2 : Nat) (x3 : Nat) (x4 : Int32) (x5 : Int32)  (K : MK) (N : MK) (I : MI) (L : ML) (R : MR) (C8 : Nat → Nat → Nat → Nat → Int32 → Int32 → MI → Prop) (Q : Bool → MI → Prop) : Prop := K x0 = 6 ∧ w_X5_pop x0 K N I L R (fun r12 I13 => w_X5_pop x0 K N I13 L R (fun r14 I15 => ∃ b16 : Nat, R x0 1 = some b16 ∧ K b16 = 14 ∧ vp_in x5 (N b16) ∧ (¬ (I15 b16 (ix x5)) = 26 → (r14 = true → w_X5_push x0 true K N I15 L R (fun I19 => ∀ v20 : Int32, v20 = x5 + 1 → C8 x0 x1 x2 x3 x4 v20 I19)) ∧ (r14 = false → (r12 = false → w_X5_push x0 false K N I15 L R (fun I21 => ∀ v22 : Int32, v22 = x5 + 1 → C8 x0 x1 x2 x3 x4 v22 I21)) ∧ (r12 = true → w_X5_push x0 true K N I15 L R (fun I23 => ∀ v24 : Int32, v24 = x5 + 1 → C8 x0 x1 x2 x3 x4 v24 I23)))) ∧ ((I15 b16 (ix x5)) = 26 → (r14 = false → w_X5_push x0 false K N I15 L R (fun I25 => ∀ v26 : Int32, v26 = x5 + 1 → C8 x0 x1 x2 x3 x4 v26 I25)) ∧ (r14 = true → (r12 = false → w_X5_push x0 false K N I15 L R (fun I27 => ∀ v28 : Int32, v28 = x5 + 1 → C8 x0 x1 x2 x3 x4 v28 I27)) ∧ (r12 = true → w_X5_push x0 true K N I15 L R (fun I29 => ∀ v30 : Int32, v30 = x5 + 1 → C8 x0 x1 x2 x3 x4 v30 I29))))))
def w_X5_isSaidOf_8  (x0 : Nat) (x1 : Nat) (x2 : Nat) (x3 : Nat) (x4 : Int32) (x5 : Int32)  (K : MK) (N : MK) (I : MI) (L : ML) (R : MR)  (Q : Bool → MI → Prop) : Prop := ∃ J : Nat → Nat → Nat → Nat → Nat → Int32 → Int32 → MI → Prop, (∃ n, J n x0 x1 x2 x3 x4 x5 I) ∧ ∀ (n : Nat) (x0 : Nat) (x1 : Nat) (x2 : Nat) (x3 : Nat) (x4 : Int32) (x5 : Int32) (I : MI), J n x0 x1 x2 x3 x4 x5 I → K x0 = 6 ∧ ((I x0 0) ≤ x5 → w_X5_pop x0 K N I L R (fun r4 I5 => Q r4 I5)) ∧ (¬ (I x0 0) ≤ x5 → ((40 : Int32) ≤ x5 → w_X5_pop x0 K N I L R (fun r6 I7 => Q r6 I7)) ∧ (¬ (40 : Int32) ≤ x5 → ∃ b8 : Nat, R x0 1 = some b8 ∧ K b8 = 14 ∧ vp_in x5 (N b8) ∧ (¬ (I b8 (ix x5)) = 27 → ((I b8 (ix x5)) = 26 → w_X5_isSaidOf_79 x0 x1 x2 x3 x4 x5 K N I L R (fun y0 y1 y2 y3 y4 y5 y6 => ∃ n1, n1 < n ∧ J n1 y0 y1 y2 y3 y4 y5 y6) Q) ∧ (¬ (I b8 (ix x5)) = 26 → (¬ (I b8 (ix x5)) = 25 → w_X5_isOne x0 x1 x2 x3 x4 x5 K N I L R (fun r31 I32 => w_X5_push x0 r31 K N I32 L R (fun I33 => ∀ v34 : Int32, v34 = x5 + 1 → ∃ n1, n1 < n ∧ J n1 x0 x1 x2 x3 x4 v34 I33))) ∧ ((I b8 (ix x5)) = 25 → w_X5_isSaidOf_79 x0 x1 x2 x3 x4 x5 K N I L R (fun y0 y1 y2 y3 y4 y5 y6 => ∃ n1, n1 < n ∧ J n1 y0 y1 y2 y3 y4 y5 y6) Q))) ∧ ((I b8 (ix x5)) = 27 → w_X5_pop x0 K N I L R (fun r35 I36 => (r35 = true → w_X5_push x0 false K N I36 L R (fun I37 => ∀ v38 : Int32, v38 = x5 + 1 → ∃ n1, n1 < n ∧ J n1 x0 x1 x2 x3 x4 v38 I37)) ∧ (r35 = false → w_X5_push x0 true K N I36 L R (fun I39 => ∀ v40 : Int32, v40 = x5 + 1 → ∃ n1, n1 < n ∧ J n1 x0 x1 x2 x3 x4 v40 I39))))))
def w_X5_isSaidOf  (a0 : Nat) (a1 : Nat) (a2 : Nat) (a3 : Nat) (a4 : Int32) (K : MK) (N : MK) (I : MI) (L : ML) (R : MR) (Q : Bool → MI → Prop) : Prop := K a0 = 6 ∧ ∀ I2 : MI, I2 = mup I a0 5 0 → w_X5_isSaidOf_8 a0 a1 a2 a3 a4 0 K N I2 L R Q
set_option maxHeartbeats 4000000 in
set_option maxRecDepth 100000 in
theorem z_X5_isSaidOf_79 {X : ZX} {G : ZG}  {x0 : Nat} {x1 : Nat} {x2 : Nat} {x3 : Nat} {x4 : Int32} {x5 : Int32}  {K : MK} {N : MK} {I : MI} {L : ML} {R : MR} {C8 : Nat → Nat → Nat → Nat → Int32 → Int32 → MI → Prop} {Q : Bool → MI → Prop} (hC : ZOk X G RX5 cX5_isSaidOf 8 (some .boolean)) (hRm : X.2.2.2.1 = rm_X5_isSaidOf) (hC8 : ∀ (y0 : Nat) (y1 : Nat) (y2 : Nat) (y3 : Nat) (y4 : Int32) (y5 : Int32) (zI : MI), C8 y0 y1 y2 y3 y4 y5 zI → Z X G 8 0 0 (z_T X G (qIz K N L R Q) 0 0) K N zI L R 8 [(0, .ref y0), (1, .ref y1), (2, .ref y2), (3, .ref y3), (4, .int y4), (5, .int y5)] []) (h : w_X5_isSaidOf_79 x0 x1 x2 x3 x4 x5 K N I L R C8 Q) : Z X G 8 0 0 (z_T X G (qIz K N L R Q) 0 0) K N I L R 79 [(0, .ref x0), (1, .ref x1), (2, .ref x2), (3, .ref x3), (4, .int x4), (5, .int x5)] [] := by
  delta w_X5_isSaidOf_79 at h
  refine z_aload_n hC (q := 0) dX5_isSaidOf_79 rfl rfl ?_
  obtain ⟨hk11, h⟩ := h
  refine cl_RX5_38 hC (c_X5_pop _ G x0 K N I L R _ h) hk11 dX5_isSaidOf_80 (by rw [hRm]; exact ⟨Nat.le_of_ble_eq_true rfl, Nat.le_of_ble_eq_true rfl⟩) ⟨Nat.zero_le _, Nat.zero_le _⟩ (Nat.le_of_ble_eq_true rfl) (z_kIz (I := I) (fun r12 I13 h => ?_))
  refine z_istore hC (lv1 := [(6, .int (bi r12)), (0, .ref x0), (1, .ref x1), (2, .ref x2), (3, .ref x3), (4, .int x4), (5, .int x5)]) dX5_isSaidOf_83 (by decide) rfl ?_
  refine z_aload_n hC (q := 1) dX5_isSaidOf_85 rfl rfl ?_
  refine cl_RX5_38 hC (c_X5_pop _ G x0 K N I13 L R _ h) hk11 dX5_isSaidOf_86 (by rw [hRm]; exact ⟨Nat.le_of_ble_eq_true rfl, Nat.le_of_ble_eq_true rfl⟩) ⟨Nat.zero_le _, Nat.zero_le _⟩ (Nat.le_of_ble_eq_true rfl) (z_kIz (I := I13) (fun r14 I15 h => ?_))
  refine z_istore hC (lv1 := [(7, .int (bi r14)), (6, .int (bi r12)), (0, .ref x0), (1, .ref x1), (2, .ref x2), (3, .ref x3), (4, .int x4), (5, .int x5)]) dX5_isSaidOf_89 (by decide) rfl ?_
  refine z_aload_n hC (q := 2) dX5_isSaidOf_91 rfl rfl ?_
  refine z_aload_n hC (q := 2) dX5_isSaidOf_92 rfl rfl ?_
  obtain ⟨b16, hb16, h⟩ := h
  refine gf_RX5_15 hC dX5_isSaidOf_93 hk11 hb16 ?_
  refine z_iload hC (q := 7) dX5_isSaidOf_96 rfl ?_
  obtain ⟨hk17, h⟩ := h
  obtain ⟨hi18, h⟩ := h
  refine z_iaload hC hk17 hi18 dX5_isSaidOf_98 ?_
  refine z_bipush hC (v := 26) k_bipush_26 dX5_isSaidOf_99 ?_
  refine z_icmp_ne hC (tgt := 122) dX5_isSaidOf_101 (by decide) (fun hc => ?_) (fun hc => ?_)
  · have h := h.1 hc
    refine z_iload hC (q := 0) dX5_isSaidOf_122 rfl ?_
    refine z_ifz_ne hC (tgt := 132) dX5_isSaidOf_124 (by decide) (fun hc => ?_) (fun hc => ?_)
    · have h := h.1 hc
      refine z_iconst hC (v := 1) k_iconst_1 dX5_isSaidOf_132 ?_
      refine z_goto hC (tgt := 137) dX5_isSaidOf_133 (by decide) ?_
      refine cl_RX5_42 hC (c_X5_push _ G x0 true K N I15 L R _ h) hk11 dX5_isSaidOf_137 (by rw [hRm]; exact ⟨Nat.le_of_ble_eq_true rfl, Nat.le_of_ble_eq_true rfl⟩) ⟨Nat.zero_le _, Nat.zero_le _⟩ (Nat.le_of_ble_eq_true rfl) (z_kIv (I := I15) (fun I19 h => ?_))
      refine z_goto hC (tgt := 158) dX5_isSaidOf_140 (by decide) ?_
      obtain ⟨v20, ev20⟩ : ∃ y : Int32, y = x5 + 1 := ⟨_, rfl⟩
      have h := h v20 ev20
      refine z_iinc hC (q := 7) (v := v20) (lv1 := [(5, .int v20), (7, .int (bi r14)), (6, .int (bi r12)), (0, .ref x0), (1, .ref x1), (2, .ref x2), (3, .ref x3), (4, .int x4)]) dX5_isSaidOf_158 rfl (by rw [ev20, k_iinc_1]) (by decide) rfl ?_
      refine z_goto hC (tgt := 8) dX5_isSaidOf_161 (by decide) ?_
      exact z_sub [(0, .ref x0), (1, .ref x1), (2, .ref x2), (3, .ref x3), (4, .int x4), (5, .int v20)] [3, 4, 5, 6, 7, 0] rfl (hC8 _ _ _ _ _ _ _ h)
    · have h := h.2 hc
      refine z_iload hC (q := 1) dX5_isSaidOf_127 rfl ?_
      refine z_ifz_eq hC (tgt := 136) dX5_isSaidOf_129 (by decide) (fun hc => ?_) (fun hc => ?_)
      · have h := h.1 hc
        refine z_iconst hC (v := 0) k_iconst_0 dX5_isSaidOf_136 ?_
        refine cl_RX5_42 hC (c_X5_push _ G x0 false K N I15 L R _ h) hk11 dX5_isSaidOf_137 (by rw [hRm]; exact ⟨Nat.le_of_ble_eq_true rfl, Nat.le_of_ble_eq_true rfl⟩) ⟨Nat.zero_le _, Nat.zero_le _⟩ (Nat.le_of_ble_eq_true rfl) (z_kIv (I := I15) (fun I21 h => ?_))
        refine z_goto hC (tgt := 158) dX5_isSaidOf_140 (by decide) ?_
        obtain ⟨v22, ev22⟩ : ∃ y : Int32, y = x5 + 1 := ⟨_, rfl⟩
        have h := h v22 ev22
        refine z_iinc hC (q := 7) (v := v22) (lv1 := [(5, .int v22), (7, .int (bi r14)), (6, .int (bi r12)), (0, .ref x0), (1, .ref x1), (2, .ref x2), (3, .ref x3), (4, .int x4)]) dX5_isSaidOf_158 rfl (by rw [ev22, k_iinc_1]) (by decide) rfl ?_
        refine z_goto hC (tgt := 8) dX5_isSaidOf_161 (by decide) ?_
        exact z_sub [(0, .ref x0), (1, .ref x1), (2, .ref x2), (3, .ref x3), (4, .int x4), (5, .int v22)] [3, 4, 5, 6, 7, 0] rfl (hC8 _ _ _ _ _ _ _ h)
      · have h := h.2 hc
        refine z_iconst hC (v := 1) k_iconst_1 dX5_isSaidOf_132 ?_
        refine z_goto hC (tgt := 137) dX5_isSaidOf_133 (by decide) ?_
        refine cl_RX5_42 hC (c_X5_push _ G x0 true K N I15 L R _ h) hk11 dX5_isSaidOf_137 (by rw [hRm]; exact ⟨Nat.le_of_ble_eq_true rfl, Nat.le_of_ble_eq_true rfl⟩) ⟨Nat.zero_le _, Nat.zero_le _⟩ (Nat.le_of_ble_eq_true rfl) (z_kIv (I := I15) (fun I23 h => ?_))
        refine z_goto hC (tgt := 158) dX5_isSaidOf_140 (by decide) ?_
        obtain ⟨v24, ev24⟩ : ∃ y : Int32, y = x5 + 1 := ⟨_, rfl⟩
        have h := h v24 ev24
        refine z_iinc hC (q := 7) (v := v24) (lv1 := [(5, .int v24), (7, .int (bi r14)), (6, .int (bi r12)), (0, .ref x0), (1, .ref x1), (2, .ref x2), (3, .ref x3), (4, .int x4)]) dX5_isSaidOf_158 rfl (by rw [ev24, k_iinc_1]) (by decide) rfl ?_
        refine z_goto hC (tgt := 8) dX5_isSaidOf_161 (by decide) ?_
        exact z_sub [(0, .ref x0), (1, .ref x1), (2, .ref x2), (3, .ref x3), (4, .int x4), (5, .int v24)] [3, 4, 5, 6, 7, 0] rfl (hC8 _ _ _ _ _ _ _ h)
  · have h := h.2 hc
    refine z_iload hC (q := 0) dX5_isSaidOf_104 rfl ?_
    refine z_ifz_eq hC (tgt := 118) dX5_isSaidOf_106 (by decide) (fun hc => ?_) (fun hc => ?_)
    · have h := h.1 hc
      refine z_iconst hC (v := 0) k_iconst_0 dX5_isSaidOf_118 ?_
      refine z_goto hC (tgt := 137) dX5_isSaidOf_119 (by decide) ?_
      refine cl_RX5_42 hC (c_X5_push _ G x0 false K N I15 L R _ h) hk11 dX5_isSaidOf_137 (by rw [hRm]; exact ⟨Nat.le_of_ble_eq_true rfl, Nat.le_of_ble_eq_true rfl⟩) ⟨Nat.zero_le _, Nat.zero_le _⟩ (Nat.le_of_ble_eq_true rfl) (z_kIv (I := I15) (fun I25 h => ?_))
      refine z_goto hC (tgt := 158) dX5_isSaidOf_140 (by decide) ?_
      obtain ⟨v26, ev26⟩ : ∃ y : Int32, y = x5 + 1 := ⟨_, rfl⟩
      have h := h v26 ev26
      refine z_iinc hC (q := 7) (v := v26) (lv1 := [(5, .int v26), (7, .int (bi r14)), (6, .int (bi r12)), (0, .ref x0), (1, .ref x1), (2, .ref x2), (3, .ref x3), (4, .int x4)]) dX5_isSaidOf_158 rfl (by rw [ev26, k_iinc_1]) (by decide) rfl ?_
      refine z_goto hC (tgt := 8) dX5_isSaidOf_161 (by decide) ?_
      exact z_sub [(0, .ref x0), (1, .ref x1), (2, .ref x2), (3, .ref x3), (4, .int x4), (5, .int v26)] [3, 4, 5, 6, 7, 0] rfl (hC8 _ _ _ _ _ _ _ h)
    · have h := h.2 hc
      refine z_iload hC (q := 1) dX5_isSaidOf_109 rfl ?_
      refine z_ifz_eq hC (tgt := 118) dX5_isSaidOf_111 (by decide) (fun hc => ?_) (fun hc => ?_)
      · have h := h.1 hc
        refine z_iconst hC (v := 0) k_iconst_0 dX5_isSaidOf_118 ?_
        refine z_goto hC (tgt := 137) dX5_isSaidOf_119 (by decide) ?_
        refine cl_RX5_42 hC (c_X5_push _ G x0 false K N I15 L R _ h) hk11 dX5_isSaidOf_137 (by rw [hRm]; exact ⟨Nat.le_of_ble_eq_true rfl, Nat.le_of_ble_eq_true rfl⟩) ⟨Nat.zero_le _, Nat.zero_le _⟩ (Nat.le_of_ble_eq_true rfl) (z_kIv (I := I15) (fun I27 h => ?_))
        refine z_goto hC (tgt := 158) dX5_isSaidOf_140 (by decide) ?_
        obtain ⟨v28, ev28⟩ : ∃ y : Int32, y = x5 + 1 := ⟨_, rfl⟩
        have h := h v28 ev28
        refine z_iinc hC (q := 7) (v := v28) (lv1 := [(5, .int v28), (7, .int (bi r14)), (6, .int (bi r12)), (0, .ref x0), (1, .ref x1), (2, .ref x2), (3, .ref x3), (4, .int x4)]) dX5_isSaidOf_158 rfl (by rw [ev28, k_iinc_1]) (by decide) rfl ?_
        refine z_goto hC (tgt := 8) dX5_isSaidOf_161 (by decide) ?_
        exact z_sub [(0, .ref x0), (1, .ref x1), (2, .ref x2), (3, .ref x3), (4, .int x4), (5, .int v28)] [3, 4, 5, 6, 7, 0] rfl (hC8 _ _ _ _ _ _ _ h)
      · have h := h.2 hc
        refine z_iconst hC (v := 1) k_iconst_1 dX5_isSaidOf_114 ?_
        refine z_goto hC (tgt := 137) dX5_isSaidOf_115 (by decide) ?_
        refine cl_RX5_42 hC (c_X5_push _ G x0 true K N I15 L R _ h) hk11 dX5_isSaidOf_137 (by rw [hRm]; exact ⟨Nat.le_of_ble_eq_true rfl, Nat.le_of_ble_eq_true rfl⟩) ⟨Nat.zero_le _, Nat.zero_le _⟩ (Nat.le_of_ble_eq_true rfl) (z_kIv (I := I15) (fun I29 h => ?_))
        refine z_goto hC (tgt := 158) dX5_isSaidOf_140 (by decide) ?_
        obtain ⟨v30, ev30⟩ : ∃ y : Int32, y = x5 + 1 := ⟨_, rfl⟩
        have h := h v30 ev30
        refine z_iinc hC (q := 7) (v := v30) (lv1 := [(5, .int v30), (7, .int (bi r14)), (6, .int (bi r12)), (0, .ref x0), (1, .ref x1), (2, .ref x2), (3, .ref x3), (4, .int x4)]) dX5_isSaidOf_158 rfl (by rw [ev30, k_iinc_1]) (by decide) rfl ?_
        refine z_goto hC (tgt := 8) dX5_isSaidOf_161 (by decide) ?_
        exact z_sub [(0, .ref x0), (1, .ref x1), (2, .ref x2), (3, .ref x3), (4, .int x4), (5, .int v30)] [3, 4, 5, 6, 7, 0] rfl (hC8 _ _ _ _ _ _ _ h)
set_option maxHeartbeats 4000000 in
set_option maxRecDepth 100000 in
theorem z_X5_isSaidOf_8 {X : ZX} {G : ZG}  {x0 : Nat} {x1 : Nat} {x2 : Nat} {x3 : Nat} {x4 : Int32} {x5 : Int32}  {K : MK} {N : MK} {I : MI} {L : ML} {R : MR}  {Q : Bool → MI → Prop} (hC : ZOk X G RX5 cX5_isSaidOf 8 (some .boolean)) (hRm : X.2.2.2.1 = rm_X5_isSaidOf) (h : w_X5_isSaidOf_8 x0 x1 x2 x3 x4 x5 K N I L R  Q) : Z X G 8 0 0 (z_T X G (qIz K N L R Q) 0 0) K N I L R 8 [(0, .ref x0), (1, .ref x1), (2, .ref x2), (3, .ref x3), (4, .int x4), (5, .int x5)] [] := by
  delta w_X5_isSaidOf_8 at h
  obtain ⟨J, ⟨n, h0⟩, hs⟩ := h
  have key : ∀ (n : Nat) (x0 : Nat) (x1 : Nat) (x2 : Nat) (x3 : Nat) (x4 : Int32) (x5 : Int32) (I : MI), J n x0 x1 x2 x3 x4 x5 I → Z X G 8 0 0 (z_T X G (qIz K N L R Q) 0 0) K N I L R 8 [(0, .ref x0), (1, .ref x1), (2, .ref x2), (3, .ref x3), (4, .int x4), (5, .int x5)] [] := by
    intro n
    induction n using Nat.strongRecOn with
    | _ n ih =>
      intro x0 x1 x2 x3 x4 x5 I hJ
      have hC8 : ∀ (y0 : Nat) (y1 : Nat) (y2 : Nat) (y3 : Nat) (y4 : Int32) (y5 : Int32) (zI : MI), (∃ n1, n1 < n ∧ J n1 y0 y1 y2 y3 y4 y5 zI) → Z X G 8 0 0 (z_T X G (qIz K N L R Q) 0 0) K N zI L R 8 [(0, .ref y0), (1, .ref y1), (2, .ref y2), (3, .ref y3), (4, .int y4), (5, .int y5)] [] := fun y0 y1 y2 y3 y4 y5 zI ⟨n1, hn1, hj⟩ => ih n1 hn1 y0 y1 y2 y3 y4 y5 zI hj
      have h := hs n x0 x1 x2 x3 x4 x5 I hJ
      refine z_iload hC (q := 5) dX5_isSaidOf_8 rfl ?_
      refine z_aload_n hC (q := 0) dX5_isSaidOf_10 rfl rfl ?_
      obtain ⟨hk3, h⟩ := h
      refine gf_RX5_9 hC dX5_isSaidOf_11 hk3 ?_
      refine z_icmp_ge hC (tgt := 164) dX5_isSaidOf_14 (by decide) (fun hc => ?_) (fun hc => ?_)
      · have h := h.1 hc
        refine z_aload_n hC (q := 0) dX5_isSaidOf_164 rfl rfl ?_
        refine cl_RX5_38 hC (c_X5_pop _ G x0 K N I L R _ h) hk3 dX5_isSaidOf_165 (by rw [hRm]; exact ⟨Nat.le_of_ble_eq_true rfl, Nat.le_of_ble_eq_true rfl⟩) ⟨Nat.zero_le _, Nat.zero_le _⟩ (Nat.le_of_ble_eq_true rfl) (z_kIz (I := I) (fun r4 I5 h => ?_))
        exact z_zret (b := r4) hC dX5_isSaidOf_168 rfl ⟨r4, rfl, rfl, rfl, rfl, rfl, h⟩
      · have h := h.2 hc
        refine z_iload hC (q := 5) dX5_isSaidOf_17 rfl ?_
        refine z_bipush hC (v := 40) k_bipush_40 dX5_isSaidOf_19 ?_
        refine z_icmp_ge hC (tgt := 164) dX5_isSaidOf_21 (by decide) (fun hc => ?_) (fun hc => ?_)
        · have h := h.1 hc
          refine z_aload_n hC (q := 0) dX5_isSaidOf_164 rfl rfl ?_
          refine cl_RX5_38 hC (c_X5_pop _ G x0 K N I L R _ h) hk3 dX5_isSaidOf_165 (by rw [hRm]; exact ⟨Nat.le_of_ble_eq_true rfl, Nat.le_of_ble_eq_true rfl⟩) ⟨Nat.zero_le _, Nat.zero_le _⟩ (Nat.le_of_ble_eq_true rfl) (z_kIz (I := I) (fun r6 I7 h => ?_))
          exact z_zret (b := r6) hC dX5_isSaidOf_168 rfl ⟨r6, rfl, rfl, rfl, rfl, rfl, h⟩
        · have h := h.2 hc
          refine z_aload_n hC (q := 0) dX5_isSaidOf_24 rfl rfl ?_
          obtain ⟨b8, hb8, h⟩ := h
          refine gf_RX5_15 hC dX5_isSaidOf_25 hk3 hb8 ?_
          refine z_iload hC (q := 5) dX5_isSaidOf_28 rfl ?_
          obtain ⟨hk9, h⟩ := h
          obtain ⟨hi10, h⟩ := h
          refine z_iaload hC hk9 hi10 dX5_isSaidOf_30 ?_
          refine z_bipush hC (v := 27) k_bipush_27 dX5_isSaidOf_31 ?_
          refine z_icmp_ne hC (tgt := 55) dX5_isSaidOf_33 (by decide) (fun hc => ?_) (fun hc => ?_)
          · have h := h.1 hc
            refine z_aload_n hC (q := 0) dX5_isSaidOf_55 rfl rfl ?_
            refine gf_RX5_15 hC dX5_isSaidOf_56 hk3 hb8 ?_
            refine z_iload hC (q := 5) dX5_isSaidOf_59 rfl ?_
            refine z_iaload hC hk9 hi10 dX5_isSaidOf_61 ?_
            refine z_bipush hC (v := 26) k_bipush_26 dX5_isSaidOf_62 ?_
            refine z_icmp_eq hC (tgt := 79) dX5_isSaidOf_64 (by decide) (fun hc => ?_) (fun hc => ?_)
            · have h := h.1 hc
              exact z_sub [(0, .ref x0), (1, .ref x1), (2, .ref x2), (3, .ref x3), (4, .int x4), (5, .int x5)] [0, 1, 2, 3, 4, 5] rfl (z_X5_isSaidOf_79 hC hRm hC8 h)
            · have h := h.2 hc
              refine z_aload_n hC (q := 0) dX5_isSaidOf_67 rfl rfl ?_
              refine gf_RX5_15 hC dX5_isSaidOf_68 hk3 hb8 ?_
              refine z_iload hC (q := 5) dX5_isSaidOf_71 rfl ?_
              refine z_iaload hC hk9 hi10 dX5_isSaidOf_73 ?_
              refine z_bipush hC (v := 25) k_bipush_25 dX5_isSaidOf_74 ?_
              refine z_icmp_ne hC (tgt := 143) dX5_isSaidOf_76 (by decide) (fun hc => ?_) (fun hc => ?_)
              · have h := h.1 hc
                refine z_aload_n hC (q := 0) dX5_isSaidOf_143 rfl rfl ?_
                refine z_aload_n hC (q := 0) dX5_isSaidOf_144 rfl rfl ?_
                refine z_aload_n hC (q := 1) dX5_isSaidOf_145 rfl rfl ?_
                refine z_aload_n hC (q := 2) dX5_isSaidOf_146 rfl rfl ?_
                refine z_aload_n hC (q := 3) dX5_isSaidOf_147 rfl rfl ?_
                refine z_iload hC (q := 4) dX5_isSaidOf_148 rfl ?_
                refine z_iload hC (q := 5) dX5_isSaidOf_150 rfl ?_
                refine cl_RX5_46 hC (c_X5_isOne _ G x0 x1 x2 x3 x4 x5 K N I L R _ h) hk3 dX5_isSaidOf_152 (by rw [hRm]; exact ⟨Nat.le_of_ble_eq_true rfl, Nat.le_of_ble_eq_true rfl⟩) ⟨Nat.zero_le _, Nat.zero_le _⟩ (Nat.le_of_ble_eq_true rfl) (z_kIz (I := I) (fun r31 I32 h => ?_))
                refine cl_RX5_42 hC (c_X5_push _ G x0 r31 K N I32 L R _ h) hk3 dX5_isSaidOf_155 (by rw [hRm]; exact ⟨Nat.le_of_ble_eq_true rfl, Nat.le_of_ble_eq_true rfl⟩) ⟨Nat.zero_le _, Nat.zero_le _⟩ (Nat.le_of_ble_eq_true rfl) (z_kIv (I := I32) (fun I33 h => ?_))
                obtain ⟨v34, ev34⟩ : ∃ y : Int32, y = x5 + 1 := ⟨_, rfl⟩
                have h := h v34 ev34
                refine z_iinc hC (q := 5) (v := v34) (lv1 := [(5, .int v34), (0, .ref x0), (1, .ref x1), (2, .ref x2), (3, .ref x3), (4, .int x4)]) dX5_isSaidOf_158 rfl (by rw [ev34, k_iinc_1]) (by decide) rfl ?_
                refine z_goto hC (tgt := 8) dX5_isSaidOf_161 (by decide) ?_
                exact z_sub [(0, .ref x0), (1, .ref x1), (2, .ref x2), (3, .ref x3), (4, .int x4), (5, .int v34)] [1, 2, 3, 4, 5, 0] rfl (hC8 _ _ _ _ _ _ _ h)
              · have h := h.2 hc
                exact z_sub [(0, .ref x0), (1, .ref x1), (2, .ref x2), (3, .ref x3), (4, .int x4), (5, .int x5)] [0, 1, 2, 3, 4, 5] rfl (z_X5_isSaidOf_79 hC hRm hC8 h)
          · have h := h.2 hc
            refine z_aload_n hC (q := 0) dX5_isSaidOf_36 rfl rfl ?_
            refine z_aload_n hC (q := 0) dX5_isSaidOf_37 rfl rfl ?_
            refine cl_RX5_38 hC (c_X5_pop _ G x0 K N I L R _ h) hk3 dX5_isSaidOf_38 (by rw [hRm]; exact ⟨Nat.le_of_ble_eq_true rfl, Nat.le_of_ble_eq_true rfl⟩) ⟨Nat.zero_le _, Nat.zero_le _⟩ (Nat.le_of_ble_eq_true rfl) (z_kIz (I := I) (fun r35 I36 h => ?_))
            refine z_ifz_ne hC (tgt := 48) dX5_isSaidOf_41 (by decide) (fun hc => ?_) (fun hc => ?_)
            · have h := h.1 hc
              refine z_iconst hC (v := 0) k_iconst_0 dX5_isSaidOf_48 ?_
              refine cl_RX5_42 hC (c_X5_push _ G x0 false K N I36 L R _ h) hk3 dX5_isSaidOf_49 (by rw [hRm]; exact ⟨Nat.le_of_ble_eq_true rfl, Nat.le_of_ble_eq_true rfl⟩) ⟨Nat.zero_le _, Nat.zero_le _⟩ (Nat.le_of_ble_eq_true rfl) (z_kIv (I := I36) (fun I37 h => ?_))
              refine z_goto hC (tgt := 158) dX5_isSaidOf_52 (by decide) ?_
              obtain ⟨v38, ev38⟩ : ∃ y : Int32, y = x5 + 1 := ⟨_, rfl⟩
              have h := h v38 ev38
              refine z_iinc hC (q := 5) (v := v38) (lv1 := [(5, .int v38), (0, .ref x0), (1, .ref x1), (2, .ref x2), (3, .ref x3), (4, .int x4)]) dX5_isSaidOf_158 rfl (by rw [ev38, k_iinc_1]) (by decide) rfl ?_
              refine z_goto hC (tgt := 8) dX5_isSaidOf_161 (by decide) ?_
              exact z_sub [(0, .ref x0), (1, .ref x1), (2, .ref x2), (3, .ref x3), (4, .int x4), (5, .int v38)] [1, 2, 3, 4, 5, 0] rfl (hC8 _ _ _ _ _ _ _ h)
            · have h := h.2 hc
              refine z_iconst hC (v := 1) k_iconst_1 dX5_isSaidOf_44 ?_
              refine z_goto hC (tgt := 49) dX5_isSaidOf_45 (by decide) ?_
              refine cl_RX5_42 hC (c_X5_push _ G x0 true K N I36 L R _ h) hk3 dX5_isSaidOf_49 (by rw [hRm]; exact ⟨Nat.le_of_ble_eq_true rfl, Nat.le_of_ble_eq_true rfl⟩) ⟨Nat.zero_le _, Nat.zero_le _⟩ (Nat.le_of_ble_eq_true rfl) (z_kIv (I := I36) (fun I39 h => ?_))
              refine z_goto hC (tgt := 158) dX5_isSaidOf_52 (by decide) ?_
              obtain ⟨v40, ev40⟩ : ∃ y : Int32, y = x5 + 1 := ⟨_, rfl⟩
              have h := h v40 ev40
              refine z_iinc hC (q := 5) (v := v40) (lv1 := [(5, .int v40), (0, .ref x0), (1, .ref x1), (2, .ref x2), (3, .ref x3), (4, .int x4)]) dX5_isSaidOf_158 rfl (by rw [ev40, k_iinc_1]) (by decide) rfl ?_
              refine z_goto hC (tgt := 8) dX5_isSaidOf_161 (by decide) ?_
              exact z_sub [(0, .ref x0), (1, .ref x1), (2, .ref x2), (3, .ref x3), (4, .int x4), (5, .int v40)] [1, 2, 3, 4, 5, 0] rfl (hC8 _ _ _ _ _ _ _ h)
  exact key n x0 x1 x2 x3 x4 x5 I h0
set_option maxHeartbeats 4000000 in
set_option maxRecDepth 100000 in
theorem c_X5_isSaidOf  (l : Launch) (G : ZG) (a0 : Nat) (a1 : Nat) (a2 : Nat) (a3 : Nat) (a4 : Int32) (K : MK) (N : MK) (I : MI) (L : ML) (R : MR) (Q : Bool → MI → Prop) (h : w_X5_isSaidOf a0 a1 a2 a3 a4 K N I L R Q) : Met l yX5_isSaidOf (.code yX5_isSaidOf cX5_isSaidOf 8 (some .boolean) :: z_tbl) rm_X5_isSaidOf (z_Pc G [.ref a0, .ref a1, .ref a2, .ref a3, .int a4] K N I L R) (z_Qc G (qIz K N L R Q)) 0 0 (z_A G) := by
  refine z_met (by decide) (Nat.le_of_ble_eq_true rfl) (fun X hX hRm hC0 hnm => ?_)
  subst hX
  have hC : ZOk X G RX5 cX5_isSaidOf 8 (some .boolean) := hC0
  show Z X G 8 0 0 _ K N I L R 0 [(0, .ref a0), (1, .ref a1), (2, .ref a2), (3, .ref a3), (4, .int a4)] []
  delta w_X5_isSaidOf at h
  refine z_aload_n hC (q := 0) dX5_isSaidOf_0 rfl rfl ?_
  refine z_iconst hC (v := 0) k_iconst_0 dX5_isSaidOf_1 ?_
  obtain ⟨hk1, h⟩ := h
  refine pf_RX5_29 hC dX5_isSaidOf_2 hk1 ?_
  refine z_genI (fun I2 eI2 => ?_)
  have h := h I2 eI2
  refine z_iconst hC (v := 0) k_iconst_0 dX5_isSaidOf_5 ?_
  refine z_istore hC (lv1 := [(5, .int 0), (0, .ref a0), (1, .ref a1), (2, .ref a2), (3, .ref a3), (4, .int a4)]) dX5_isSaidOf_6 (by decide) rfl ?_
  exact z_sub [(0, .ref a0), (1, .ref a1), (2, .ref a2), (3, .ref a3), (4, .int a4), (5, .int 0)] [1, 2, 3, 4, 5, 0] rfl (z_X5_isSaidOf_8 hC hRm h)
def w_X6_isFirstWord  (a0 : Int32) (K : MK) (N : MK) (I : MI) (L : ML) (R : MR) (Q : Bool → Prop) : Prop := (a0 = 7 → Q true) ∧ (¬ a0 = 7 → (a0 = 8 → Q false) ∧ (¬ a0 = 8 → (a0 = 9 → Q true) ∧ (¬ a0 = 9 → (a0 = 10 → Q false) ∧ (¬ a0 = 10 → (a0 = 11 → Q false) ∧ (¬ a0 = 11 → (a0 = 12 → Q false) ∧ (¬ a0 = 12 → (a0 = 13 → Q false) ∧ (¬ a0 = 13 → (a0 = 14 → Q false) ∧ (¬ a0 = 14 → (a0 = 15 → Q false) ∧ (¬ a0 = 15 → (a0 = 16 → Q false) ∧ (¬ a0 = 16 → (a0 = 17 → Q false) ∧ (¬ a0 = 17 → (a0 = 18 → Q false) ∧ (¬ a0 = 18 → (a0 = 19 → Q false) ∧ (¬ a0 = 19 → (a0 = 20 → Q false) ∧ (¬ a0 = 20 → (a0 = 21 → Q false) ∧ (¬ a0 = 21 → (a0 = 22 → Q false) ∧ (¬ a0 = 22 → (a0 = 23 → Q false) ∧ (¬ a0 = 23 → (a0 = 24 → Q false) ∧ (¬ a0 = 24 → (a0 = 25 → Q false) ∧ (¬ a0 = 25 → (a0 = 26 → Q false) ∧ (¬ a0 = 26 → (a0 = 27 → Q true) ∧ (¬ a0 = 27 → (a0 = 28 → Q true) ∧ (¬ a0 = 28 → (a0 = 29 → Q true) ∧ (¬ a0 = 29 → (a0 = 30 → Q true) ∧ (¬ a0 = 30 → (a0 = 31 → Q true) ∧ (¬ a0 = 31 → (a0 = 32 → Q true) ∧ (¬ a0 = 32 → (a0 = 33 → Q true) ∧ (¬ a0 = 33 → Q false)))))))))))))))))))))))))))
set_option maxHeartbeats 4000000 in
set_option maxRecDepth 100000 in
theorem c_X6_isFirstWord  (l : Launch) (G : ZG) (a0 : Int32) (K : MK) (N : MK) (I : MI) (L : ML) (R : MR) (Q : Bool → Prop) (h : w_X6_isFirstWord a0 K N I L R Q) : Met l yX6_isFirstWord (.code yX6_isFirstWord cX6_isFirstWord 1 (some .boolean) :: z_tbl) rm_X6_isFirstWord (z_Pc G [.int a0] K N I L R) (z_Qc G (qPz K N I L R Q)) 0 0 (z_A G) := by
  refine z_met (by decide) (Nat.le_of_ble_eq_true rfl) (fun X hX hRm hC0 hnm => ?_)
  subst hX
  have hC : ZOk X G RX6 cX6_isFirstWord 1 (some .boolean) := hC0
  show Z X G 1 0 0 _ K N I L R 0 [(0, .int a0)] []
  delta w_X6_isFirstWord at h
  refine z_iload_n hC (q := 0) dX6_isFirstWord_0 rfl rfl ?_
  by_cases hc0 : a0 = 7
  · have h := h.1 hc0
    refine z_tableIn hC (off := 123) (tgt := 124) 7 hc0 dX6_isFirstWord_1 (by decide) (by decide) ?_
    refine z_iconst hC (v := 1) k_iconst_1 dX6_isFirstWord_124 ?_
    exact z_zret (b := true) hC dX6_isFirstWord_125 rfl ⟨true, rfl, rfl, rfl, rfl, rfl, rfl, h⟩
  · have h := h.2 hc0
    by_cases hc1 : a0 = 8
    · have h := h.1 hc1
      refine z_tableIn hC (off := 125) (tgt := 126) 8 hc1 dX6_isFirstWord_1 (by decide) (by decide) ?_
      refine z_iconst hC (v := 0) k_iconst_0 dX6_isFirstWord_126 ?_
      exact z_zret (b := false) hC dX6_isFirstWord_127 rfl ⟨false, rfl, rfl, rfl, rfl, rfl, rfl, h⟩
    · have h := h.2 hc1
      by_cases hc2 : a0 = 9
      · have h := h.1 hc2
        refine z_tableIn hC (off := 123) (tgt := 124) 9 hc2 dX6_isFirstWord_1 (by decide) (by decide) ?_
        refine z_iconst hC (v := 1) k_iconst_1 dX6_isFirstWord_124 ?_
        exact z_zret (b := true) hC dX6_isFirstWord_125 rfl ⟨true, rfl, rfl, rfl, rfl, rfl, rfl, h⟩
      · have h := h.2 hc2
        by_cases hc3 : a0 = 10
        · have h := h.1 hc3
          refine z_tableIn hC (off := 125) (tgt := 126) 10 hc3 dX6_isFirstWord_1 (by decide) (by decide) ?_
          refine z_iconst hC (v := 0) k_iconst_0 dX6_isFirstWord_126 ?_
          exact z_zret (b := false) hC dX6_isFirstWord_127 rfl ⟨false, rfl, rfl, rfl, rfl, rfl, rfl, h⟩
        · have h := h.2 hc3
          by_cases hc4 : a0 = 11
          · have h := h.1 hc4
            refine z_tableIn hC (off := 125) (tgt := 126) 11 hc4 dX6_isFirstWord_1 (by decide) (by decide) ?_
            refine z_iconst hC (v := 0) k_iconst_0 dX6_isFirstWord_126 ?_
            exact z_zret (b := false) hC dX6_isFirstWord_127 rfl ⟨false, rfl, rfl, rfl, rfl, rfl, rfl, h⟩
          · have h := h.2 hc4
            by_cases hc5 : a0 = 12
            · have h := h.1 hc5
              refine z_tableIn hC (off := 125) (tgt := 126) 12 hc5 dX6_isFirstWord_1 (by decide) (by decide) ?_
              refine z_iconst hC (v := 0) k_iconst_0 dX6_isFirstWord_126 ?_
              exact z_zret (b := false) hC dX6_isFirstWord_127 rfl ⟨false, rfl, rfl, rfl, rfl, rfl, rfl, h⟩
            · have h := h.2 hc5
              by_cases hc6 : a0 = 13
              · have h := h.1 hc6
                refine z_tableIn hC (off := 125) (tgt := 126) 13 hc6 dX6_isFirstWord_1 (by decide) (by decide) ?_
                refine z_iconst hC (v := 0) k_iconst_0 dX6_isFirstWord_126 ?_
                exact z_zret (b := false) hC dX6_isFirstWord_127 rfl ⟨false, rfl, rfl, rfl, rfl, rfl, rfl, h⟩
              · have h := h.2 hc6
                by_cases hc7 : a0 = 14
                · have h := h.1 hc7
                  refine z_tableIn hC (off := 125) (tgt := 126) 14 hc7 dX6_isFirstWord_1 (by decide) (by decide) ?_
                  refine z_iconst hC (v := 0) k_iconst_0 dX6_isFirstWord_126 ?_
                  exact z_zret (b := false) hC dX6_isFirstWord_127 rfl ⟨false, rfl, rfl, rfl, rfl, rfl, rfl, h⟩
                · have h := h.2 hc7
                  by_cases hc8 : a0 = 15
                  · have h := h.1 hc8
                    refine z_tableIn hC (off := 125) (tgt := 126) 15 hc8 dX6_isFirstWord_1 (by decide) (by decide) ?_
                    refine z_iconst hC (v := 0) k_iconst_0 dX6_isFirstWord_126 ?_
                    exact z_zret (b := false) hC dX6_isFirstWord_127 rfl ⟨false, rfl, rfl, rfl, rfl, rfl, rfl, h⟩
                  · have h := h.2 hc8
                    by_cases hc9 : a0 = 16
                    · have h := h.1 hc9
                      refine z_tableIn hC (off := 125) (tgt := 126) 16 hc9 dX6_isFirstWord_1 (by decide) (by decide) ?_
                      refine z_iconst hC (v := 0) k_iconst_0 dX6_isFirstWord_126 ?_
                      exact z_zret (b := false) hC dX6_isFirstWord_127 rfl ⟨false, rfl, rfl, rfl, rfl, rfl, rfl, h⟩
                    · have h := h.2 hc9
                      by_cases hc10 : a0 = 17
                      · have h := h.1 hc10
                        refine z_tableIn hC (off := 125) (tgt := 126) 17 hc10 dX6_isFirstWord_1 (by decide) (by decide) ?_
                        refine z_iconst hC (v := 0) k_iconst_0 dX6_isFirstWord_126 ?_
                        exact z_zret (b := false) hC dX6_isFirstWord_127 rfl ⟨false, rfl, rfl, rfl, rfl, rfl, rfl, h⟩
                      · have h := h.2 hc10
                        by_cases hc11 : a0 = 18
                        · have h := h.1 hc11
                          refine z_tableIn hC (off := 125) (tgt := 126) 18 hc11 dX6_isFirstWord_1 (by decide) (by decide) ?_
                          refine z_iconst hC (v := 0) k_iconst_0 dX6_isFirstWord_126 ?_
                          exact z_zret (b := false) hC dX6_isFirstWord_127 rfl ⟨false, rfl, rfl, rfl, rfl, rfl, rfl, h⟩
                        · have h := h.2 hc11
                          by_cases hc12 : a0 = 19
                          · have h := h.1 hc12
                            refine z_tableIn hC (off := 125) (tgt := 126) 19 hc12 dX6_isFirstWord_1 (by decide) (by decide) ?_
                            refine z_iconst hC (v := 0) k_iconst_0 dX6_isFirstWord_126 ?_
                            exact z_zret (b := false) hC dX6_isFirstWord_127 rfl ⟨false, rfl, rfl, rfl, rfl, rfl, rfl, h⟩
                          · have h := h.2 hc12
                            by_cases hc13 : a0 = 20
                            · have h := h.1 hc13
                              refine z_tableIn hC (off := 125) (tgt := 126) 20 hc13 dX6_isFirstWord_1 (by decide) (by decide) ?_
                              refine z_iconst hC (v := 0) k_iconst_0 dX6_isFirstWord_126 ?_
                              exact z_zret (b := false) hC dX6_isFirstWord_127 rfl ⟨false, rfl, rfl, rfl, rfl, rfl, rfl, h⟩
                            · have h := h.2 hc13
                              by_cases hc14 : a0 = 21
                              · have h := h.1 hc14
                                refine z_tableIn hC (off := 125) (tgt := 126) 21 hc14 dX6_isFirstWord_1 (by decide) (by decide) ?_
                                refine z_iconst hC (v := 0) k_iconst_0 dX6_isFirstWord_126 ?_
                                exact z_zret (b := false) hC dX6_isFirstWord_127 rfl ⟨false, rfl, rfl, rfl, rfl, rfl, rfl, h⟩
                              · have h := h.2 hc14
                                by_cases hc15 : a0 = 22
                                · have h := h.1 hc15
                                  refine z_tableIn hC (off := 125) (tgt := 126) 22 hc15 dX6_isFirstWord_1 (by decide) (by decide) ?_
                                  refine z_iconst hC (v := 0) k_iconst_0 dX6_isFirstWord_126 ?_
                                  exact z_zret (b := false) hC dX6_isFirstWord_127 rfl ⟨false, rfl, rfl, rfl, rfl, rfl, rfl, h⟩
                                · have h := h.2 hc15
                                  by_cases hc16 : a0 = 23
                                  · have h := h.1 hc16
                                    refine z_tableIn hC (off := 125) (tgt := 126) 23 hc16 dX6_isFirstWord_1 (by decide) (by decide) ?_
                                    refine z_iconst hC (v := 0) k_iconst_0 dX6_isFirstWord_126 ?_
                                    exact z_zret (b := false) hC dX6_isFirstWord_127 rfl ⟨false, rfl, rfl, rfl, rfl, rfl, rfl, h⟩
                                  · have h := h.2 hc16
                                    by_cases hc17 : a0 = 24
                                    · have h := h.1 hc17
                                      refine z_tableIn hC (off := 125) (tgt := 126) 24 hc17 dX6_isFirstWord_1 (by decide) (by decide) ?_
                                      refine z_iconst hC (v := 0) k_iconst_0 dX6_isFirstWord_126 ?_
                                      exact z_zret (b := false) hC dX6_isFirstWord_127 rfl ⟨false, rfl, rfl, rfl, rfl, rfl, rfl, h⟩
                                    · have h := h.2 hc17
                                      by_cases hc18 : a0 = 25
                                      · have h := h.1 hc18
                                        refine z_tableIn hC (off := 125) (tgt := 126) 25 hc18 dX6_isFirstWord_1 (by decide) (by decide) ?_
                                        refine z_iconst hC (v := 0) k_iconst_0 dX6_isFirstWord_126 ?_
                                        exact z_zret (b := false) hC dX6_isFirstWord_127 rfl ⟨false, rfl, rfl, rfl, rfl, rfl, rfl, h⟩
                                      · have h := h.2 hc18
                                        by_cases hc19 : a0 = 26
                                        · have h := h.1 hc19
                                          refine z_tableIn hC (off := 125) (tgt := 126) 26 hc19 dX6_isFirstWord_1 (by decide) (by decide) ?_
                                          refine z_iconst hC (v := 0) k_iconst_0 dX6_isFirstWord_126 ?_
                                          exact z_zret (b := false) hC dX6_isFirstWord_127 rfl ⟨false, rfl, rfl, rfl, rfl, rfl, rfl, h⟩
                                        · have h := h.2 hc19
                                          by_cases hc20 : a0 = 27
                                          · have h := h.1 hc20
                                            refine z_tableIn hC (off := 123) (tgt := 124) 27 hc20 dX6_isFirstWord_1 (by decide) (by decide) ?_
                                            refine z_iconst hC (v := 1) k_iconst_1 dX6_isFirstWord_124 ?_
                                            exact z_zret (b := true) hC dX6_isFirstWord_125 rfl ⟨true, rfl, rfl, rfl, rfl, rfl, rfl, h⟩
                                          · have h := h.2 hc20
                                            by_cases hc21 : a0 = 28
                                            · have h := h.1 hc21
                                              refine z_tableIn hC (off := 123) (tgt := 124) 28 hc21 dX6_isFirstWord_1 (by decide) (by decide) ?_
                                              refine z_iconst hC (v := 1) k_iconst_1 dX6_isFirstWord_124 ?_
                                              exact z_zret (b := true) hC dX6_isFirstWord_125 rfl ⟨true, rfl, rfl, rfl, rfl, rfl, rfl, h⟩
                                            · have h := h.2 hc21
                                              by_cases hc22 : a0 = 29
                                              · have h := h.1 hc22
                                                refine z_tableIn hC (off := 123) (tgt := 124) 29 hc22 dX6_isFirstWord_1 (by decide) (by decide) ?_
                                                refine z_iconst hC (v := 1) k_iconst_1 dX6_isFirstWord_124 ?_
                                                exact z_zret (b := true) hC dX6_isFirstWord_125 rfl ⟨true, rfl, rfl, rfl, rfl, rfl, rfl, h⟩
                                              · have h := h.2 hc22
                                                by_cases hc23 : a0 = 30
                                                · have h := h.1 hc23
                                                  refine z_tableIn hC (off := 123) (tgt := 124) 30 hc23 dX6_isFirstWord_1 (by decide) (by decide) ?_
                                                  refine z_iconst hC (v := 1) k_iconst_1 dX6_isFirstWord_124 ?_
                                                  exact z_zret (b := true) hC dX6_isFirstWord_125 rfl ⟨true, rfl, rfl, rfl, rfl, rfl, rfl, h⟩
                                                · have h := h.2 hc23
                                                  by_cases hc24 : a0 = 31
                                                  · have h := h.1 hc24
                                                    refine z_tableIn hC (off := 123) (tgt := 124) 31 hc24 dX6_isFirstWord_1 (by decide) (by decide) ?_
                                                    refine z_iconst hC (v := 1) k_iconst_1 dX6_isFirstWord_124 ?_
                                                    exact z_zret (b := true) hC dX6_isFirstWord_125 rfl ⟨true, rfl, rfl, rfl, rfl, rfl, rfl, h⟩
                                                  · have h := h.2 hc24
                                                    by_cases hc25 : a0 = 32
                                                    · have h := h.1 hc25
                                                      refine z_tableIn hC (off := 123) (tgt := 124) 32 hc25 dX6_isFirstWord_1 (by decide) (by decide) ?_
                                                      refine z_iconst hC (v := 1) k_iconst_1 dX6_isFirstWord_124 ?_
                                                      exact z_zret (b := true) hC dX6_isFirstWord_125 rfl ⟨true, rfl, rfl, rfl, rfl, rfl, rfl, h⟩
                                                    · have h := h.2 hc25
                                                      by_cases hc26 : a0 = 33
                                                      · have h := h.1 hc26
                                                        refine z_tableIn hC (off := 123) (tgt := 124) 33 hc26 dX6_isFirstWord_1 (by decide) (by decide) ?_
                                                        refine z_iconst hC (v := 1) k_iconst_1 dX6_isFirstWord_124 ?_
                                                        exact z_zret (b := true) hC dX6_isFirstWord_125 rfl ⟨true, rfl, rfl, rfl, rfl, rfl, rfl, h⟩
                                                      · have h := h.2 hc26
                                                        have hout : a0.toInt < 7 ∨ 33 < a0.toInt := by
                                                          have hc0 := z_nei hc0 (by decide : (7 : Int32).toInt = 7)
                                                          have hc1 := z_nei hc1 (by decide : (8 : Int32).toInt = 8)
                                                          have hc2 := z_nei hc2 (by decide : (9 : Int32).toInt = 9)
                                                          have hc3 := z_nei hc3 (by decide : (10 : Int32).toInt = 10)
                                                          have hc4 := z_nei hc4 (by decide : (11 : Int32).toInt = 11)
                                                          have hc5 := z_nei hc5 (by decide : (12 : Int32).toInt = 12)
                                                          have hc6 := z_nei hc6 (by decide : (13 : Int32).toInt = 13)
                                                          have hc7 := z_nei hc7 (by decide : (14 : Int32).toInt = 14)
                                                          have hc8 := z_nei hc8 (by decide : (15 : Int32).toInt = 15)
                                                          have hc9 := z_nei hc9 (by decide : (16 : Int32).toInt = 16)
                                                          have hc10 := z_nei hc10 (by decide : (17 : Int32).toInt = 17)
                                                          have hc11 := z_nei hc11 (by decide : (18 : Int32).toInt = 18)
                                                          have hc12 := z_nei hc12 (by decide : (19 : Int32).toInt = 19)
                                                          have hc13 := z_nei hc13 (by decide : (20 : Int32).toInt = 20)
                                                          have hc14 := z_nei hc14 (by decide : (21 : Int32).toInt = 21)
                                                          have hc15 := z_nei hc15 (by decide : (22 : Int32).toInt = 22)
                                                          have hc16 := z_nei hc16 (by decide : (23 : Int32).toInt = 23)
                                                          have hc17 := z_nei hc17 (by decide : (24 : Int32).toInt = 24)
                                                          have hc18 := z_nei hc18 (by decide : (25 : Int32).toInt = 25)
                                                          have hc19 := z_nei hc19 (by decide : (26 : Int32).toInt = 26)
                                                          have hc20 := z_nei hc20 (by decide : (27 : Int32).toInt = 27)
                                                          have hc21 := z_nei hc21 (by decide : (28 : Int32).toInt = 28)
                                                          have hc22 := z_nei hc22 (by decide : (29 : Int32).toInt = 29)
                                                          have hc23 := z_nei hc23 (by decide : (30 : Int32).toInt = 30)
                                                          have hc24 := z_nei hc24 (by decide : (31 : Int32).toInt = 31)
                                                          have hc25 := z_nei hc25 (by decide : (32 : Int32).toInt = 32)
                                                          have hc26 := z_nei hc26 (by decide : (33 : Int32).toInt = 33)
                                                          omega
                                                        refine z_tableOut hC (tgt := 126) dX6_isFirstWord_1 hout (by decide) ?_
                                                        refine z_iconst hC (v := 0) k_iconst_0 dX6_isFirstWord_126 ?_
                                                        exact z_zret (b := false) hC dX6_isFirstWord_127 rfl ⟨false, rfl, rfl, rfl, rfl, rfl, rfl, h⟩
def w_X8_needsName  (a0 : Nat) (K : MK) (N : MK) (I : MI) (L : ML) (R : MR) (Q : Bool → MI → Prop) : Prop := K a0 = 9 ∧ (¬ (I a0 4) = 1 → w_X8_fail a0 1 K N I L R (fun r2 I3 => Q r2 I3)) ∧ ((I a0 4) = 1 → ((I a0 7) = (-1) → Q true I) ∧ (¬ (I a0 7) = (-1) → w_X8_fail a0 1 K N I L R (fun r4 I5 => Q r4 I5)))
set_option maxHeartbeats 4000000 in
set_option maxRecDepth 100000 in
theorem c_X8_needsName  (l : Launch) (G : ZG) (a0 : Nat) (K : MK) (N : MK) (I : MI) (L : ML) (R : MR) (Q : Bool → MI → Prop) (h : w_X8_needsName a0 K N I L R Q) : Met l yX8_needsName (.code yX8_needsName cX8_needsName 1 (some .boolean) :: z_tbl) rm_X8_needsName (z_Pc G [.ref a0] K N I L R) (z_Qc G (qIz K N L R Q)) 0 0 (z_A G) := by
  refine z_met (by decide) (Nat.le_of_ble_eq_true rfl) (fun X hX hRm hC0 hnm => ?_)
  subst hX
  have hC : ZOk X G RX8 cX8_needsName 1 (some .boolean) := hC0
  show Z X G 1 0 0 _ K N I L R 0 [(0, .ref a0)] []
  delta w_X8_needsName at h
  refine z_aload_n hC (q := 0) dX8_needsName_0 rfl rfl ?_
  obtain ⟨hk1, h⟩ := h
  refine gf_RX8_25 hC dX8_needsName_1 hk1 ?_
  refine z_iconst hC (v := 1) k_iconst_1 dX8_needsName_4 ?_
  refine z_icmp_ne hC (tgt := 16) dX8_needsName_5 (by decide) (fun hc => ?_) (fun hc => ?_)
  · have h := h.1 hc
    refine z_aload_n hC (q := 0) dX8_needsName_16 rfl rfl ?_
    refine z_iconst hC (v := 1) k_iconst_1 dX8_needsName_17 ?_
    refine cl_RX8_87 hC (c_X8_fail _ G a0 1 K N I L R _ h) hk1 dX8_needsName_18 (by rw [hRm]; exact ⟨Nat.le_of_ble_eq_true rfl, Nat.le_of_ble_eq_true rfl⟩) ⟨Nat.zero_le _, Nat.zero_le _⟩ (Nat.le_of_ble_eq_true rfl) (z_kIz (I := I) (fun r2 I3 h => ?_))
    exact z_zret (b := r2) hC dX8_needsName_21 rfl ⟨r2, rfl, rfl, rfl, rfl, rfl, h⟩
  · have h := h.2 hc
    refine z_aload_n hC (q := 0) dX8_needsName_8 rfl rfl ?_
    refine gf_RX8_35 hC dX8_needsName_9 hk1 ?_
    refine z_iconst hC (v := (-1)) k_iconst_m1 dX8_needsName_12 ?_
    refine z_icmp_eq hC (tgt := 22) dX8_needsName_13 (by decide) (fun hc => ?_) (fun hc => ?_)
    · have h := h.1 hc
      refine z_iconst hC (v := 1) k_iconst_1 dX8_needsName_22 ?_
      exact z_zret (b := true) hC dX8_needsName_23 rfl ⟨true, rfl, rfl, rfl, rfl, rfl, h⟩
    · have h := h.2 hc
      refine z_aload_n hC (q := 0) dX8_needsName_16 rfl rfl ?_
      refine z_iconst hC (v := 1) k_iconst_1 dX8_needsName_17 ?_
      refine cl_RX8_87 hC (c_X8_fail _ G a0 1 K N I L R _ h) hk1 dX8_needsName_18 (by rw [hRm]; exact ⟨Nat.le_of_ble_eq_true rfl, Nat.le_of_ble_eq_true rfl⟩) ⟨Nat.zero_le _, Nat.zero_le _⟩ (Nat.le_of_ble_eq_true rfl) (z_kIz (I := I) (fun r4 I5 h => ?_))
      exact z_zret (b := r4) hC dX8_needsName_21 rfl ⟨r4, rfl, rfl, rfl, rfl, rfl, h⟩
def w_X7_find_2  (x0 : Nat) (x1 : Int64) (x3 : Int32)  (K : MK) (N : MK) (I : MI) (L : ML) (R : MR)  (Q : Int32 → Prop) : Prop := ∃ J : Nat → Nat → Int64 → Int32 → Prop, (∃ n, J n x0 x1 x3) ∧ ∀ (n : Nat) (x0 : Nat) (x1 : Int64) (x3 : Int32), J n x0 x1 x3 → K x0 = 8 ∧ ((I x0 3) ≤ x3 → Q (-1)) ∧ (¬ (I x0 3) ≤ x3 → ∃ b2 : Nat, R x0 1 = some b2 ∧ K b2 = 15 ∧ vp_in x3 (N b2) ∧ (¬ (lg_cmp (L b2 (ix x3)) x1) = 0 → ∀ v5 : Int32, v5 = x3 + 1 → ∃ n1, n1 < n ∧ J n1 x0 x1 v5) ∧ ((lg_cmp (L b2 (ix x3)) x1) = 0 → Q x3))
def w_X7_find  (a0 : Nat) (a1 : Int64) (K : MK) (N : MK) (I : MI) (L : ML) (R : MR) (Q : Int32 → Prop) : Prop := w_X7_find_2 a0 a1 0 K N I L R Q
set_option maxHeartbeats 4000000 in
set_option maxRecDepth 100000 in
theorem z_X7_find_2 {X : ZX} {G : ZG}  {x0 : Nat} {x1 : Int64} {x3 : Int32}  {K : MK} {N : MK} {I : MI} {L : ML} {R : MR}  {Q : Int32 → Prop} (hC : ZOk X G RX7 cX7_find 4 (some .int)) (hRm : X.2.2.2.1 = rm_X7_find) (h : w_X7_find_2 x0 x1 x3 K N I L R  Q) : Z X G 4 0 0 (z_T X G (qPi K N I L R Q) 0 0) K N I L R 2 [(0, .ref x0), (1, .long x1), (3, .int x3)] [] := by
  delta w_X7_find_2 at h
  obtain ⟨J, ⟨n, h0⟩, hs⟩ := h
  have key : ∀ (n : Nat) (x0 : Nat) (x1 : Int64) (x3 : Int32), J n x0 x1 x3 → Z X G 4 0 0 (z_T X G (qPi K N I L R Q) 0 0) K N I L R 2 [(0, .ref x0), (1, .long x1), (3, .int x3)] [] := by
    intro n
    induction n using Nat.strongRecOn with
    | _ n ih =>
      intro x0 x1 x3 hJ
      have hC2 : ∀ (y0 : Nat) (y1 : Int64) (y2 : Int32) , (∃ n1, n1 < n ∧ J n1 y0 y1 y2) → Z X G 4 0 0 (z_T X G (qPi K N I L R Q) 0 0) K N I L R 2 [(0, .ref y0), (1, .long y1), (3, .int y2)] [] := fun y0 y1 y2 ⟨n1, hn1, hj⟩ => ih n1 hn1 y0 y1 y2 hj
      have h := hs n x0 x1 x3 hJ
      refine z_iload_n hC (q := 2) dX7_find_2 rfl rfl ?_
      refine z_aload_n hC (q := 0) dX7_find_3 rfl rfl ?_
      obtain ⟨hk1, h⟩ := h
      refine gf_RX7_9 hC dX7_find_4 hk1 ?_
      refine z_icmp_ge hC (tgt := 29) dX7_find_7 (by decide) (fun hc => ?_) (fun hc => ?_)
      · have h := h.1 hc
        refine z_iconst hC (v := (-1)) k_iconst_m1 dX7_find_29 ?_
        exact z_iret hC dX7_find_30 ⟨_, rfl, rfl, rfl, rfl, rfl, rfl, h⟩
      · have h := h.2 hc
        refine z_aload_n hC (q := 0) dX7_find_10 rfl rfl ?_
        obtain ⟨b2, hb2, h⟩ := h
        refine gf_RX7_18 hC dX7_find_11 hk1 hb2 ?_
        refine z_iload_n hC (q := 2) dX7_find_14 rfl rfl ?_
        obtain ⟨hk3, h⟩ := h
        obtain ⟨hi4, h⟩ := h
        refine z_laload hC hk3 hi4 dX7_find_15 ?_
        refine z_lload_n hC (q := 1) dX7_find_16 rfl rfl ?_
        refine z_lcmp hC dX7_find_17 ?_
        refine z_if_ne hC (tgt := 23) dX7_find_18 (by decide) (fun hc => ?_) (fun hc => ?_)
        · have h := h.1 hc
          obtain ⟨v5, ev5⟩ : ∃ y : Int32, y = x3 + 1 := ⟨_, rfl⟩
          have h := h v5 ev5
          refine z_iinc hC (q := 2) (v := v5) (lv1 := [(3, .int v5), (0, .ref x0), (1, .long x1)]) dX7_find_23 rfl (by rw [ev5, k_iinc_1]) (by decide) rfl ?_
          refine z_goto hC (tgt := 2) dX7_find_26 (by decide) ?_
          exact z_sub [(0, .ref x0), (1, .long x1), (3, .int v5)] [1, 2, 0] rfl (hC2 _ _ _ h)
        · have h := h.2 hc
          refine z_iload_n hC (q := 2) dX7_find_21 rfl rfl ?_
          exact z_iret hC dX7_find_22 ⟨_, rfl, rfl, rfl, rfl, rfl, rfl, h⟩
  exact key n x0 x1 x3 h0
set_option maxHeartbeats 4000000 in
set_option maxRecDepth 100000 in
theorem c_X7_find  (l : Launch) (G : ZG) (a0 : Nat) (a1 : Int64) (K : MK) (N : MK) (I : MI) (L : ML) (R : MR) (Q : Int32 → Prop) (h : w_X7_find a0 a1 K N I L R Q) : Met l yX7_find (.code yX7_find cX7_find 4 (some .int) :: z_tbl) rm_X7_find (z_Pc G [.ref a0, .long a1] K N I L R) (z_Qc G (qPi K N I L R Q)) 0 0 (z_A G) := by
  refine z_met (by decide) (Nat.le_of_ble_eq_true rfl) (fun X hX hRm hC0 hnm => ?_)
  subst hX
  have hC : ZOk X G RX7 cX7_find 4 (some .int) := hC0
  show Z X G 4 0 0 _ K N I L R 0 [(0, .ref a0), (1, .long a1)] []
  delta w_X7_find at h
  refine z_iconst hC (v := 0) k_iconst_0 dX7_find_0 ?_
  refine z_istore_n hC (lv1 := [(3, .int 0), (0, .ref a0), (1, .long a1)]) dX7_find_1 rfl (by decide) rfl ?_
  exact z_sub [(0, .ref a0), (1, .long a1), (3, .int 0)] [1, 2, 0] rfl (z_X7_find_2 hC hRm h)
def w_X6_readScopeName  (a0 : Nat) (a1 : Nat) (a2 : Nat) (K : MK) (N : MK) (I : MI) (L : ML) (R : MR) (Q : Bool → MI → ML → Prop) : Prop := K a1 = 9 ∧ w_X8_needsName a1 K N I L R (fun r2 I3 => (r2 = true → K a2 = 10 ∧ ∃ b5 : Nat, R a2 2 = some b5 ∧ K b5 = 8 ∧ w_X7_find b5 (L a1 6) K N I3 L R (fun r7 => (¬ r7 = (-1) → K a0 = 7 ∧ ∃ b9 : Nat, R a0 0 = some b9 ∧ K b9 = 6 ∧ w_X5_add b9 30 0 r7 K N I3 L R (fun I11 => w_X8_advance a1 K N I11 L R (fun I12 L13 => Q true I12 L13))) ∧ (r7 = (-1) → w_X8_fail a1 3 K N I3 L R (fun r14 I15 => Q r14 I15 L)))) ∧ (r2 = false → Q false I3 L))
set_option maxHeartbeats 4000000 in
set_option maxRecDepth 100000 in
theorem c_X6_readScopeName  (l : Launch) (G : ZG) (a0 : Nat) (a1 : Nat) (a2 : Nat) (K : MK) (N : MK) (I : MI) (L : ML) (R : MR) (Q : Bool → MI → ML → Prop) (h : w_X6_readScopeName a0 a1 a2 K N I L R Q) : Met l yX6_readScopeName (.code yX6_readScopeName cX6_readScopeName 4 (some .boolean) :: z_tbl) rm_X6_readScopeName (z_Pc G [.ref a0, .ref a1, .ref a2] K N I L R) (z_Qc G (qLz K N R Q)) 0 0 (z_A G) := by
  refine z_met (by decide) (Nat.le_of_ble_eq_true rfl) (fun X hX hRm hC0 hnm => ?_)
  subst hX
  have hC : ZOk X G RX6 cX6_readScopeName 4 (some .boolean) := hC0
  show Z X G 4 0 0 _ K N I L R 0 [(0, .ref a0), (1, .ref a1), (2, .ref a2)] []
  delta w_X6_readScopeName at h
  refine z_aload_n hC (q := 1) dX6_readScopeName_0 rfl rfl ?_
  obtain ⟨hk1, h⟩ := h
  refine cl_RX6_74 hC (c_X8_needsName _ G a1 K N I L R _ h) hk1 dX6_readScopeName_1 (by rw [hRm]; exact ⟨Nat.le_of_ble_eq_true rfl, Nat.le_of_ble_eq_true rfl⟩) ⟨Nat.zero_le _, Nat.zero_le _⟩ (Nat.le_of_ble_eq_true rfl) (z_kIz (I := I) (fun r2 I3 h => ?_))
  refine z_ifz_ne hC (tgt := 9) dX6_readScopeName_4 (by decide) (fun hc => ?_) (fun hc => ?_)
  · have h := h.1 hc
    refine z_aload_n hC (q := 2) dX6_readScopeName_9 rfl rfl ?_
    obtain ⟨hk4, h⟩ := h
    obtain ⟨b5, hb5, h⟩ := h
    refine gf_RX6_78 hC dX6_readScopeName_10 hk4 hb5 ?_
    refine z_aload_n hC (q := 1) dX6_readScopeName_13 rfl rfl ?_
    refine gf_RX6_84 hC dX6_readScopeName_14 hk1 ?_
    obtain ⟨hk6, h⟩ := h
    refine cl_RX6_88 hC (c_X7_find _ G b5 (L a1 6) K N I3 L R _ h) hk6 dX6_readScopeName_17 (by rw [hRm]; exact ⟨Nat.le_of_ble_eq_true rfl, Nat.le_of_ble_eq_true rfl⟩) ⟨Nat.zero_le _, Nat.zero_le _⟩ (Nat.le_of_ble_eq_true rfl) (z_kPi (fun r7 h => ?_))
    refine z_istore_n hC (lv1 := [(3, .int r7), (0, .ref a0), (1, .ref a1), (2, .ref a2)]) dX6_readScopeName_20 rfl (by decide) rfl ?_
    refine z_iload_n hC (q := 0) dX6_readScopeName_21 rfl rfl ?_
    refine z_iconst hC (v := (-1)) k_iconst_m1 dX6_readScopeName_22 ?_
    refine z_icmp_ne hC (tgt := 32) dX6_readScopeName_23 (by decide) (fun hc => ?_) (fun hc => ?_)
    · have h := h.1 hc
      refine z_aload_n hC (q := 1) dX6_readScopeName_32 rfl rfl ?_
      obtain ⟨hk8, h⟩ := h
      obtain ⟨b9, hb9, h⟩ := h
      refine gf_RX6_12 hC dX6_readScopeName_33 hk8 hb9 ?_
      refine z_bipush hC (v := 30) k_bipush_30 dX6_readScopeName_36 ?_
      refine z_iconst hC (v := 0) k_iconst_0 dX6_readScopeName_38 ?_
      refine z_iload_n hC (q := 0) dX6_readScopeName_39 rfl rfl ?_
      obtain ⟨hk10, h⟩ := h
      refine cl_RX6_45 hC (c_X5_add _ G b9 30 0 r7 K N I3 L R _ h) hk10 dX6_readScopeName_40 (by rw [hRm]; exact ⟨Nat.le_of_ble_eq_true rfl, Nat.le_of_ble_eq_true rfl⟩) ⟨Nat.zero_le _, Nat.zero_le _⟩ (Nat.le_of_ble_eq_true rfl) (z_kIv (I := I3) (fun I11 h => ?_))
      refine z_aload_n hC (q := 2) dX6_readScopeName_43 rfl rfl ?_
      refine cl_RX6_53 hC (c_X8_advance _ G a1 K N I11 L R _ h) hk1 dX6_readScopeName_44 (by rw [hRm]; exact ⟨Nat.le_of_ble_eq_true rfl, Nat.le_of_ble_eq_true rfl⟩) ⟨Nat.zero_le _, Nat.zero_le _⟩ (Nat.le_of_ble_eq_true rfl) (z_kLv (I := I11) (L := L) (fun I12 L13 h => ?_))
      refine z_iconst hC (v := 1) k_iconst_1 dX6_readScopeName_47 ?_
      exact z_zret (b := true) hC dX6_readScopeName_48 rfl ⟨true, rfl, rfl, rfl, rfl, h⟩
    · have h := h.2 hc
      refine z_aload_n hC (q := 2) dX6_readScopeName_26 rfl rfl ?_
      refine z_iconst hC (v := 3) k_iconst_3 dX6_readScopeName_27 ?_
      refine cl_RX6_38 hC (c_X8_fail _ G a1 3 K N I3 L R _ h) hk1 dX6_readScopeName_28 (by rw [hRm]; exact ⟨Nat.le_of_ble_eq_true rfl, Nat.le_of_ble_eq_true rfl⟩) ⟨Nat.zero_le _, Nat.zero_le _⟩ (Nat.le_of_ble_eq_true rfl) (z_kIz (I := I3) (fun r14 I15 h => ?_))
      exact z_zret (b := r14) hC dX6_readScopeName_31 rfl ⟨r14, rfl, rfl, rfl, rfl, h⟩
  · have h := h.2 hc
    refine z_iconst hC (v := 0) k_iconst_0 dX6_readScopeName_7 ?_
    exact z_zret (b := false) hC dX6_readScopeName_8 rfl ⟨false, rfl, rfl, rfl, rfl, h⟩
def w_X6_readCompared_33  (x0 : Nat) (x1 : Nat) (x2 : Int32)  (K : MK) (N : MK) (I : MI) (L : ML) (R : MR)  (Q : Bool → MI → ML → Prop) : Prop := K x1 = 9 ∧ ∀ v4 : Int32, v4 = (I x1 9) → w_X8_advance x1 K N I L R (fun I5 L6 => w_X8_needsNumber x1 0 999 K N I5 L6 R (fun r7 I8 => (r7 = true → K x0 = 7 ∧ ∃ b10 : Nat, R x0 0 = some b10 ∧ K b10 = 6 ∧ w_X5_add b10 x2 v4 (I8 x1 8) K N I8 L6 R (fun I12 => w_X8_advance x1 K N I12 L6 R (fun I13 L14 => Q true I13 L14))) ∧ (r7 = false → Q false I8 L6)))
def w_X6_readCompared  (a0 : Nat) (a1 : Nat) (a2 : Int32) (K : MK) (N : MK) (I : MI) (L : ML) (R : MR) (Q : Bool → MI → ML → Prop) : Prop := K a1 = 9 ∧ w_X8_isSign a1 60 K N I L R (fun r2 => (r2 = true → w_X6_readCompared_33 a0 a1 a2 K N I L R Q) ∧ (r2 = false → w_X8_isSign a1 61 K N I L R (fun r15 => (r15 = true → w_X6_readCompared_33 a0 a1 a2 K N I L R Q) ∧ (r15 = false → w_X8_isSign a1 62 K N I L R (fun r16 => (r16 = true → w_X6_readCompared_33 a0 a1 a2 K N I L R Q) ∧ (r16 = false → w_X8_fail a1 1 K N I L R (fun r17 I18 => Q r17 I18 L)))))))
set_option maxHeartbeats 4000000 in
set_option maxRecDepth 100000 in
theorem z_X6_readCompared_33 {X : ZX} {G : ZG}  {x0 : Nat} {x1 : Nat} {x2 : Int32}  {K : MK} {N : MK} {I : MI} {L : ML} {R : MR}  {Q : Bool → MI → ML → Prop} (hC : ZOk X G RX6 cX6_readCompared 4 (some .boolean)) (hRm : X.2.2.2.1 = rm_X6_readCompared) (h : w_X6_readCompared_33 x0 x1 x2 K N I L R  Q) : Z X G 4 0 0 (z_T X G (qLz K N R Q) 0 0) K N I L R 33 [(0, .ref x0), (1, .ref x1), (2, .int x2)] [] := by
  delta w_X6_readCompared_33 at h
  refine z_aload_n hC (q := 1) dX6_readCompared_33 rfl rfl ?_
  obtain ⟨hk3, h⟩ := h
  refine gf_RX6_94 hC dX6_readCompared_34 hk3 ?_
  refine z_topi (fun v4 ev4 => ?_)
  have h := h v4 ev4
  refine z_istore_n hC (lv1 := [(3, .int v4), (0, .ref x0), (1, .ref x1), (2, .int x2)]) dX6_readCompared_37 rfl (by decide) rfl ?_
  refine z_aload_n hC (q := 2) dX6_readCompared_38 rfl rfl ?_
  refine cl_RX6_53 hC (c_X8_advance _ G x1 K N I L R _ h) hk3 dX6_readCompared_39 (by rw [hRm]; exact ⟨Nat.le_of_ble_eq_true rfl, Nat.le_of_ble_eq_true rfl⟩) ⟨Nat.zero_le _, Nat.zero_le _⟩ (Nat.le_of_ble_eq_true rfl) (z_kLv (I := I) (L := L) (fun I5 L6 h => ?_))
  refine z_aload_n hC (q := 2) dX6_readCompared_42 rfl rfl ?_
  refine z_iconst hC (v := 0) k_iconst_0 dX6_readCompared_43 ?_
  refine z_sipush hC (v := 999) k_sipush_999 dX6_readCompared_44 ?_
  refine cl_RX6_99 hC (c_X8_needsNumber _ G x1 0 999 K N I5 L6 R _ h) hk3 dX6_readCompared_47 (by rw [hRm]; exact ⟨Nat.le_of_ble_eq_true rfl, Nat.le_of_ble_eq_true rfl⟩) ⟨Nat.zero_le _, Nat.zero_le _⟩ (Nat.le_of_ble_eq_true rfl) (z_kIz (I := I5) (fun r7 I8 h => ?_))
  refine z_ifz_ne hC (tgt := 55) dX6_readCompared_50 (by decide) (fun hc => ?_) (fun hc => ?_)
  · have h := h.1 hc
    refine z_aload_n hC (q := 1) dX6_readCompared_55 rfl rfl ?_
    obtain ⟨hk9, h⟩ := h
    obtain ⟨b10, hb10, h⟩ := h
    refine gf_RX6_12 hC dX6_readCompared_56 hk9 hb10 ?_
    refine z_iload_n hC (q := 3) dX6_readCompared_59 rfl rfl ?_
    refine z_iload_n hC (q := 0) dX6_readCompared_60 rfl rfl ?_
    refine z_aload_n hC (q := 2) dX6_readCompared_61 rfl rfl ?_
    refine gf_RX6_103 hC dX6_readCompared_62 hk3 ?_
    obtain ⟨hk11, h⟩ := h
    refine cl_RX6_45 hC (c_X5_add _ G b10 x2 v4 (I8 x1 8) K N I8 L6 R _ h) hk11 dX6_readCompared_65 (by rw [hRm]; exact ⟨Nat.le_of_ble_eq_true rfl, Nat.le_of_ble_eq_true rfl⟩) ⟨Nat.zero_le _, Nat.zero_le _⟩ (Nat.le_of_ble_eq_true rfl) (z_kIv (I := I8) (fun I12 h => ?_))
    refine z_aload_n hC (q := 2) dX6_readCompared_68 rfl rfl ?_
    refine cl_RX6_53 hC (c_X8_advance _ G x1 K N I12 L6 R _ h) hk3 dX6_readCompared_69 (by rw [hRm]; exact ⟨Nat.le_of_ble_eq_true rfl, Nat.le_of_ble_eq_true rfl⟩) ⟨Nat.zero_le _, Nat.zero_le _⟩ (Nat.le_of_ble_eq_true rfl) (z_kLv (I := I12) (L := L6) (fun I13 L14 h => ?_))
    refine z_iconst hC (v := 1) k_iconst_1 dX6_readCompared_72 ?_
    exact z_zret (b := true) hC dX6_readCompared_73 rfl ⟨true, rfl, rfl, rfl, rfl, h⟩
  · have h := h.2 hc
    refine z_iconst hC (v := 0) k_iconst_0 dX6_readCompared_53 ?_
    exact z_zret (b := false) hC dX6_readCompared_54 rfl ⟨false, rfl, rfl, rfl, rfl, h⟩
set_option maxHeartbeats 4000000 in
set_option maxRecDepth 100000 in
theorem c_X6_readCompared  (l : Launch) (G : ZG) (a0 : Nat) (a1 : Nat) (a2 : Int32) (K : MK) (N : MK) (I : MI) (L : ML) (R : MR) (Q : Bool → MI → ML → Prop) (h : w_X6_readCompared a0 a1 a2 K N I L R Q) : Met l yX6_readCompared (.code yX6_readCompared cX6_readCompared 4 (some .boolean) :: z_tbl) rm_X6_readCompared (z_Pc G [.ref a0, .ref a1, .int a2] K N I L R) (z_Qc G (qLz K N R Q)) 0 0 (z_A G) := by
  refine z_met (by decide) (Nat.le_of_ble_eq_true rfl) (fun X hX hRm hC0 hnm => ?_)
  subst hX
  have hC : ZOk X G RX6 cX6_readCompared 4 (some .boolean) := hC0
  show Z X G 4 0 0 _ K N I L R 0 [(0, .ref a0), (1, .ref a1), (2, .int a2)] []
  delta w_X6_readCompared at h
  refine z_aload_n hC (q := 1) dX6_readCompared_0 rfl rfl ?_
  refine z_bipush hC (v := 60) k_bipush_60 dX6_readCompared_1 ?_
  obtain ⟨hk1, h⟩ := h
  refine cl_RX6_56 hC (c_X8_isSign _ G a1 60 K N I L R _ h) hk1 dX6_readCompared_3 (by rw [hRm]; exact ⟨Nat.le_of_ble_eq_true rfl, Nat.le_of_ble_eq_true rfl⟩) ⟨Nat.zero_le _, Nat.zero_le _⟩ (Nat.le_of_ble_eq_true rfl) (z_kPz (fun r2 h => ?_))
  refine z_ifz_ne hC (tgt := 33) dX6_readCompared_6 (by decide) (fun hc => ?_) (fun hc => ?_)
  · have h := h.1 hc
    exact z_sub [(0, .ref a0), (1, .ref a1), (2, .int a2)] [0, 1, 2] rfl (z_X6_readCompared_33 hC hRm h)
  · have h := h.2 hc
    refine z_aload_n hC (q := 1) dX6_readCompared_9 rfl rfl ?_
    refine z_bipush hC (v := 61) k_bipush_61 dX6_readCompared_10 ?_
    refine cl_RX6_56 hC (c_X8_isSign _ G a1 61 K N I L R _ h) hk1 dX6_readCompared_12 (by rw [hRm]; exact ⟨Nat.le_of_ble_eq_true rfl, Nat.le_of_ble_eq_true rfl⟩) ⟨Nat.zero_le _, Nat.zero_le _⟩ (Nat.le_of_ble_eq_true rfl) (z_kPz (fun r15 h => ?_))
    refine z_ifz_ne hC (tgt := 33) dX6_readCompared_15 (by decide) (fun hc => ?_) (fun hc => ?_)
    · have h := h.1 hc
      exact z_sub [(0, .ref a0), (1, .ref a1), (2, .int a2)] [0, 1, 2] rfl (z_X6_readCompared_33 hC hRm h)
    · have h := h.2 hc
      refine z_aload_n hC (q := 1) dX6_readCompared_18 rfl rfl ?_
      refine z_bipush hC (v := 62) k_bipush_62 dX6_readCompared_19 ?_
      refine cl_RX6_56 hC (c_X8_isSign _ G a1 62 K N I L R _ h) hk1 dX6_readCompared_21 (by rw [hRm]; exact ⟨Nat.le_of_ble_eq_true rfl, Nat.le_of_ble_eq_true rfl⟩) ⟨Nat.zero_le _, Nat.zero_le _⟩ (Nat.le_of_ble_eq_true rfl) (z_kPz (fun r16 h => ?_))
      refine z_ifz_ne hC (tgt := 33) dX6_readCompared_24 (by decide) (fun hc => ?_) (fun hc => ?_)
      · have h := h.1 hc
        exact z_sub [(0, .ref a0), (1, .ref a1), (2, .int a2)] [0, 1, 2] rfl (z_X6_readCompared_33 hC hRm h)
      · have h := h.2 hc
        refine z_aload_n hC (q := 1) dX6_readCompared_27 rfl rfl ?_
        refine z_iconst hC (v := 1) k_iconst_1 dX6_readCompared_28 ?_
        refine cl_RX6_38 hC (c_X8_fail _ G a1 1 K N I L R _ h) hk1 dX6_readCompared_29 (by rw [hRm]; exact ⟨Nat.le_of_ble_eq_true rfl, Nat.le_of_ble_eq_true rfl⟩) ⟨Nat.zero_le _, Nat.zero_le _⟩ (Nat.le_of_ble_eq_true rfl) (z_kIz (I := I) (fun r17 I18 h => ?_))
        exact z_zret (b := r17) hC dX6_readCompared_32 rfl ⟨r17, rfl, rfl, rfl, rfl, h⟩
def w_X7_has  (a0 : Nat) (a1 : Int32) (K : MK) (N : MK) (I : MI) (L : ML) (R : MR) (Q : Bool → Prop) : Prop := (a1 < 0 → Q false) ∧ (¬ a1 < 0 → K a0 = 8 ∧ ((I a0 3) ≤ a1 → Q false) ∧ (¬ (I a0 3) ≤ a1 → Q true))
set_option maxHeartbeats 4000000 in
set_option maxRecDepth 100000 in
theorem c_X7_has  (l : Launch) (G : ZG) (a0 : Nat) (a1 : Int32) (K : MK) (N : MK) (I : MI) (L : ML) (R : MR) (Q : Bool → Prop) (h : w_X7_has a0 a1 K N I L R Q) : Met l yX7_has (.code yX7_has cX7_has 2 (some .boolean) :: z_tbl) rm_X7_has (z_Pc G [.ref a0, .int a1] K N I L R) (z_Qc G (qPz K N I L R Q)) 0 0 (z_A G) := by
  refine z_met (by decide) (Nat.le_of_ble_eq_true rfl) (fun X hX hRm hC0 hnm => ?_)
  subst hX
  have hC : ZOk X G RX7 cX7_has 2 (some .boolean) := hC0
  show Z X G 2 0 0 _ K N I L R 0 [(0, .ref a0), (1, .int a1)] []
  delta w_X7_has at h
  refine z_iload_n hC (q := 1) dX7_has_0 rfl rfl ?_
  refine z_if_lt hC (tgt := 16) dX7_has_1 (by decide) (fun hc => ?_) (fun hc => ?_)
  · have h := h.1 hc
    refine z_iconst hC (v := 0) k_iconst_0 dX7_has_16 ?_
    exact z_zret (b := false) hC dX7_has_17 rfl ⟨false, rfl, rfl, rfl, rfl, rfl, rfl, h⟩
  · have h := h.2 hc
    refine z_iload_n hC (q := 1) dX7_has_4 rfl rfl ?_
    refine z_aload_n hC (q := 0) dX7_has_5 rfl rfl ?_
    obtain ⟨hk1, h⟩ := h
    refine gf_RX7_9 hC dX7_has_6 hk1 ?_
    refine z_icmp_ge hC (tgt := 16) dX7_has_9 (by decide) (fun hc => ?_) (fun hc => ?_)
    · have h := h.1 hc
      refine z_iconst hC (v := 0) k_iconst_0 dX7_has_16 ?_
      exact z_zret (b := false) hC dX7_has_17 rfl ⟨false, rfl, rfl, rfl, rfl, rfl, rfl, h⟩
    · have h := h.2 hc
      refine z_iconst hC (v := 1) k_iconst_1 dX7_has_12 ?_
      refine z_goto hC (tgt := 17) dX7_has_13 (by decide) ?_
      exact z_zret (b := true) hC dX7_has_17 rfl ⟨true, rfl, rfl, rfl, rfl, rfl, rfl, h⟩
def w_X7_nameOf  (a0 : Nat) (a1 : Int32) (K : MK) (N : MK) (I : MI) (L : ML) (R : MR) (Q : Int64 → Prop) : Prop := (a1 < 0 → Q 0) ∧ (¬ a1 < 0 → K a0 = 8 ∧ ((I a0 3) ≤ a1 → Q 0) ∧ (¬ (I a0 3) ≤ a1 → ∃ b2 : Nat, R a0 1 = some b2 ∧ K b2 = 15 ∧ vp_in a1 (N b2) ∧ Q (L b2 (ix a1))))
set_option maxHeartbeats 4000000 in
set_option maxRecDepth 100000 in
theorem c_X7_nameOf  (l : Launch) (G : ZG) (a0 : Nat) (a1 : Int32) (K : MK) (N : MK) (I : MI) (L : ML) (R : MR) (Q : Int64 → Prop) (h : w_X7_nameOf a0 a1 K N I L R Q) : Met l yX7_nameOf (.code yX7_nameOf cX7_nameOf 2 (some .long) :: z_tbl) rm_X7_nameOf (z_Pc G [.ref a0, .int a1] K N I L R) (z_Qc G (qPl K N I L R Q)) 0 0 (z_A G) := by
  refine z_met (by decide) (Nat.le_of_ble_eq_true rfl) (fun X hX hRm hC0 hnm => ?_)
  subst hX
  have hC : ZOk X G RX7 cX7_nameOf 2 (some .long) := hC0
  show Z X G 2 0 0 _ K N I L R 0 [(0, .ref a0), (1, .int a1)] []
  delta w_X7_nameOf at h
  refine z_iload_n hC (q := 1) dX7_nameOf_0 rfl rfl ?_
  refine z_if_lt hC (tgt := 21) dX7_nameOf_1 (by decide) (fun hc => ?_) (fun hc => ?_)
  · have h := h.1 hc
    refine z_lconst hC (v := 0) k_lconst_0 dX7_nameOf_21 ?_
    exact z_lret hC dX7_nameOf_22 ⟨_, rfl, rfl, rfl, rfl, rfl, rfl, h⟩
  · have h := h.2 hc
    refine z_iload_n hC (q := 1) dX7_nameOf_4 rfl rfl ?_
    refine z_aload_n hC (q := 0) dX7_nameOf_5 rfl rfl ?_
    obtain ⟨hk1, h⟩ := h
    refine gf_RX7_9 hC dX7_nameOf_6 hk1 ?_
    refine z_icmp_ge hC (tgt := 21) dX7_nameOf_9 (by decide) (fun hc => ?_) (fun hc => ?_)
    · have h := h.1 hc
      refine z_lconst hC (v := 0) k_lconst_0 dX7_nameOf_21 ?_
      exact z_lret hC dX7_nameOf_22 ⟨_, rfl, rfl, rfl, rfl, rfl, rfl, h⟩
    · have h := h.2 hc
      refine z_aload_n hC (q := 0) dX7_nameOf_12 rfl rfl ?_
      obtain ⟨b2, hb2, h⟩ := h
      refine gf_RX7_18 hC dX7_nameOf_13 hk1 hb2 ?_
      refine z_iload_n hC (q := 1) dX7_nameOf_16 rfl rfl ?_
      obtain ⟨hk3, h⟩ := h
      obtain ⟨hi4, h⟩ := h
      refine z_laload hC hk3 hi4 dX7_nameOf_17 ?_
      refine z_goto hC (tgt := 22) dX7_nameOf_18 (by decide) ?_
      exact z_lret hC dX7_nameOf_22 ⟨_, rfl, rfl, rfl, rfl, rfl, rfl, h⟩
def w_X8_putInt_3  (x0 : Nat) (x1 : Int32) (x2 : Int32)  (K : MK) (N : MK) (I : MI) (L : ML) (R : MR)  (Q : MI → Prop) : Prop := ∃ J : Nat → Nat → Int32 → Int32 → MI → Prop, (∃ n, J n x0 x1 x2 I) ∧ ∀ (n : Nat) (x0 : Nat) (x1 : Int32) (x2 : Int32) (I : MI), J n x0 x1 x2 I → (x2 < 0 → Q I) ∧ (¬ x2 < 0 → K x0 = 9 ∧ ((940 : Int32) ≤ (I x0 1) → ∀ v2 : Int32, v2 = x2 + (-8) → ∃ n1, n1 < n ∧ J n1 x0 x1 v2 I) ∧ (¬ (940 : Int32) ≤ (I x0 1) → ∃ b3 : Nat, R x0 0 = some b3 ∧ K b3 = 14 ∧ vp_in (I x0 1) (N b3) ∧ ∀ I6 : MI, I6 = mup I b3 (ix (I x0 1)) ((ushr x1 x2) &&& 255) → ∀ I7 : MI, I7 = mup I6 x0 1 ((I6 x0 1) + 1) → ∀ v8 : Int32, v8 = x2 + (-8) → ∃ n1, n1 < n ∧ J n1 x0 x1 v8 I7))
def w_X8_putInt  (a0 : Nat) (a1 : Int32) (K : MK) (N : MK) (I : MI) (L : ML) (R : MR) (Q : MI → Prop) : Prop := w_X8_putInt_3 a0 a1 24 K N I L R Q
set_option maxHeartbeats 4000000 in
set_option maxRecDepth 100000 in
theorem z_X8_putInt_3 {X : ZX} {G : ZG}  {x0 : Nat} {x1 : Int32} {x2 : Int32}  {K : MK} {N : MK} {I : MI} {L : ML} {R : MR}  {Q : MI → Prop} (hC : ZOk X G RX8 cX8_putInt 3 none) (hRm : X.2.2.2.1 = rm_X8_putInt) (h : w_X8_putInt_3 x0 x1 x2 K N I L R  Q) : Z X G 3 0 0 (z_T X G (qIv K N L R Q) 0 0) K N I L R 3 [(0, .ref x0), (1, .int x1), (2, .int x2)] [] := by
  delta w_X8_putInt_3 at h
  obtain ⟨J, ⟨n, h0⟩, hs⟩ := h
  have key : ∀ (n : Nat) (x0 : Nat) (x1 : Int32) (x2 : Int32) (I : MI), J n x0 x1 x2 I → Z X G 3 0 0 (z_T X G (qIv K N L R Q) 0 0) K N I L R 3 [(0, .ref x0), (1, .int x1), (2, .int x2)] [] := by
    intro n
    induction n using Nat.strongRecOn with
    | _ n ih =>
      intro x0 x1 x2 I hJ
      have hC3 : ∀ (y0 : Nat) (y1 : Int32) (y2 : Int32) (zI : MI), (∃ n1, n1 < n ∧ J n1 y0 y1 y2 zI) → Z X G 3 0 0 (z_T X G (qIv K N L R Q) 0 0) K N zI L R 3 [(0, .ref y0), (1, .int y1), (2, .int y2)] [] := fun y0 y1 y2 zI ⟨n1, hn1, hj⟩ => ih n1 hn1 y0 y1 y2 zI hj
      have h := hs n x0 x1 x2 I hJ
      refine z_iload_n hC (q := 2) dX8_putInt_3 rfl rfl ?_
      refine z_if_lt hC (tgt := 49) dX8_putInt_4 (by decide) (fun hc => ?_) (fun hc => ?_)
      · have h := h.1 hc
        exact z_vret hC dX8_putInt_49 ⟨rfl, rfl, rfl, rfl, rfl, h⟩
      · have h := h.2 hc
        refine z_aload_n hC (q := 0) dX8_putInt_7 rfl rfl ?_
        obtain ⟨hk1, h⟩ := h
        refine gf_RX8_15 hC dX8_putInt_8 hk1 ?_
        refine z_sipush hC (v := 940) k_sipush_940 dX8_putInt_11 ?_
        refine z_icmp_ge hC (tgt := 43) dX8_putInt_14 (by decide) (fun hc => ?_) (fun hc => ?_)
        · have h := h.1 hc
          obtain ⟨v2, ev2⟩ : ∃ y : Int32, y = x2 + (-8) := ⟨_, rfl⟩
          have h := h v2 ev2
          refine z_iinc hC (q := 2) (v := v2) (lv1 := [(2, .int v2), (0, .ref x0), (1, .int x1)]) dX8_putInt_43 rfl (by rw [ev2, k_iinc_m8]) (by decide) rfl ?_
          refine z_goto hC (tgt := 3) dX8_putInt_46 (by decide) ?_
          exact z_sub [(0, .ref x0), (1, .int x1), (2, .int v2)] [1, 2, 0] rfl (hC3 _ _ _ _ h)
        · have h := h.2 hc
          refine z_aload_n hC (q := 0) dX8_putInt_17 rfl rfl ?_
          obtain ⟨b3, hb3, h⟩ := h
          refine gf_RX8_11 hC dX8_putInt_18 hk1 hb3 ?_
          refine z_aload_n hC (q := 0) dX8_putInt_21 rfl rfl ?_
          refine gf_RX8_15 hC dX8_putInt_22 hk1 ?_
          refine z_iload_n hC (q := 1) dX8_putInt_25 rfl rfl ?_
          refine z_iload_n hC (q := 2) dX8_putInt_26 rfl rfl ?_
          refine z_iushr hC dX8_putInt_27 ?_
          refine z_sipush hC (v := 255) k_sipush_255 dX8_putInt_28 ?_
          refine z_iand hC dX8_putInt_31 ?_
          obtain ⟨hk4, h⟩ := h
          obtain ⟨hi5, h⟩ := h
          refine z_iastore hC hk4 hi5 dX8_putInt_32 ?_
          refine z_genI (fun I6 eI6 => ?_)
          have h := h I6 eI6
          refine z_aload_n hC (q := 0) dX8_putInt_33 rfl rfl ?_
          refine z_dup hC rfl dX8_putInt_34 ?_
          refine gf_RX8_15 hC dX8_putInt_35 hk1 ?_
          refine z_iconst hC (v := 1) k_iconst_1 dX8_putInt_38 ?_
          refine z_iadd hC dX8_putInt_39 ?_
          refine pf_RX8_15 hC dX8_putInt_40 hk1 ?_
          refine z_genI (fun I7 eI7 => ?_)
          have h := h I7 eI7
          obtain ⟨v8, ev8⟩ : ∃ y : Int32, y = x2 + (-8) := ⟨_, rfl⟩
          have h := h v8 ev8
          refine z_iinc hC (q := 2) (v := v8) (lv1 := [(2, .int v8), (0, .ref x0), (1, .int x1)]) dX8_putInt_43 rfl (by rw [ev8, k_iinc_m8]) (by decide) rfl ?_
          refine z_goto hC (tgt := 3) dX8_putInt_46 (by decide) ?_
          exact z_sub [(0, .ref x0), (1, .int x1), (2, .int v8)] [1, 2, 0] rfl (hC3 _ _ _ _ h)
  exact key n x0 x1 x2 I h0
set_option maxHeartbeats 4000000 in
set_option maxRecDepth 100000 in
theorem c_X8_putInt  (l : Launch) (G : ZG) (a0 : Nat) (a1 : Int32) (K : MK) (N : MK) (I : MI) (L : ML) (R : MR) (Q : MI → Prop) (h : w_X8_putInt a0 a1 K N I L R Q) : Met l yX8_putInt (.code yX8_putInt cX8_putInt 3 none :: z_tbl) rm_X8_putInt (z_Pc G [.ref a0, .int a1] K N I L R) (z_Qc G (qIv K N L R Q)) 0 0 (z_A G) := by
  refine z_met (by decide) (Nat.le_of_ble_eq_true rfl) (fun X hX hRm hC0 hnm => ?_)
  subst hX
  have hC : ZOk X G RX8 cX8_putInt 3 none := hC0
  show Z X G 3 0 0 _ K N I L R 0 [(0, .ref a0), (1, .int a1)] []
  delta w_X8_putInt at h
  refine z_bipush hC (v := 24) k_bipush_24 dX8_putInt_0 ?_
  refine z_istore_n hC (lv1 := [(2, .int 24), (0, .ref a0), (1, .int a1)]) dX8_putInt_2 rfl (by decide) rfl ?_
  exact z_sub [(0, .ref a0), (1, .int a1), (2, .int 24)] [1, 2, 0] rfl (z_X8_putInt_3 hC hRm h)
def w_X9_makeEmpty  (a0 : Nat) (K : MK) (N : MK) (I : MI) (L : ML) (R : MR) (Q : MI → Prop) : Prop := K a0 = 10 ∧ ∀ I2 : MI, I2 = mup I a0 0 256 → ∃ b3 : Nat, R a0 1 = some b3 ∧ K b3 = 8 ∧ w_X7_forget b3 K N I2 L R (fun I5 => ∃ b6 : Nat, R a0 2 = some b6 ∧ K b6 = 8 ∧ w_X7_forget b6 K N I5 L R (fun I8 => ∃ b9 : Nat, R a0 3 = some b9 ∧ K b9 = 8 ∧ w_X7_forget b9 K N I8 L R (fun I11 => ∃ b12 : Nat, R a0 4 = some b12 ∧ K b12 = 8 ∧ w_X7_forget b12 K N I11 L R (fun I14 => ∃ b15 : Nat, R a0 5 = some b15 ∧ K b15 = 8 ∧ w_X7_forget b15 K N I14 L R (fun I17 => Q I17)))))
set_option maxHeartbeats 4000000 in
set_option maxRecDepth 100000 in
theorem c_X9_makeEmpty  (l : Launch) (G : ZG) (a0 : Nat) (K : MK) (N : MK) (I : MI) (L : ML) (R : MR) (Q : MI → Prop) (h : w_X9_makeEmpty a0 K N I L R Q) : Met l yX9_makeEmpty (.code yX9_makeEmpty cX9_makeEmpty 1 none :: z_tbl) rm_X9_makeEmpty (z_Pc G [.ref a0] K N I L R) (z_Qc G (qIv K N L R Q)) 0 0 (z_A G) := by
  refine z_met (by decide) (Nat.le_of_ble_eq_true rfl) (fun X hX hRm hC0 hnm => ?_)
  subst hX
  have hC : ZOk X G RX9 cX9_makeEmpty 1 none := hC0
  show Z X G 1 0 0 _ K N I L R 0 [(0, .ref a0)] []
  delta w_X9_makeEmpty at h
  refine z_aload_n hC (q := 0) dX9_makeEmpty_0 rfl rfl ?_
  refine z_sipush hC (v := 256) k_sipush_256 dX9_makeEmpty_1 ?_
  obtain ⟨hk1, h⟩ := h
  refine pf_RX9_11 hC dX9_makeEmpty_4 hk1 ?_
  refine z_genI (fun I2 eI2 => ?_)
  have h := h I2 eI2
  refine z_aload_n hC (q := 0) dX9_makeEmpty_7 rfl rfl ?_
  obtain ⟨b3, hb3, h⟩ := h
  refine gf_RX9_20 hC dX9_makeEmpty_8 hk1 hb3 ?_
  obtain ⟨hk4, h⟩ := h
  refine cl_RX9_36 hC (c_X7_forget _ G b3 K N I2 L R _ h) hk4 dX9_makeEmpty_11 (by rw [hRm]; exact ⟨Nat.le_of_ble_eq_true rfl, Nat.le_of_ble_eq_true rfl⟩) ⟨Nat.zero_le _, Nat.zero_le _⟩ (Nat.le_of_ble_eq_true rfl) (z_kIv (I := I2) (fun I5 h => ?_))
  refine z_aload_n hC (q := 0) dX9_makeEmpty_14 rfl rfl ?_
  obtain ⟨b6, hb6, h⟩ := h
  refine gf_RX9_24 hC dX9_makeEmpty_15 hk1 hb6 ?_
  obtain ⟨hk7, h⟩ := h
  refine cl_RX9_36 hC (c_X7_forget _ G b6 K N I5 L R _ h) hk7 dX9_makeEmpty_18 (by rw [hRm]; exact ⟨Nat.le_of_ble_eq_true rfl, Nat.le_of_ble_eq_true rfl⟩) ⟨Nat.zero_le _, Nat.zero_le _⟩ (Nat.le_of_ble_eq_true rfl) (z_kIv (I := I5) (fun I8 h => ?_))
  refine z_aload_n hC (q := 0) dX9_makeEmpty_21 rfl rfl ?_
  obtain ⟨b9, hb9, h⟩ := h
  refine gf_RX9_27 hC dX9_makeEmpty_22 hk1 hb9 ?_
  obtain ⟨hk10, h⟩ := h
  refine cl_RX9_36 hC (c_X7_forget _ G b9 K N I8 L R _ h) hk10 dX9_makeEmpty_25 (by rw [hRm]; exact ⟨Nat.le_of_ble_eq_true rfl, Nat.le_of_ble_eq_true rfl⟩) ⟨Nat.zero_le _, Nat.zero_le _⟩ (Nat.le_of_ble_eq_true rfl) (z_kIv (I := I8) (fun I11 h => ?_))
  refine z_aload_n hC (q := 0) dX9_makeEmpty_28 rfl rfl ?_
  obtain ⟨b12, hb12, h⟩ := h
  refine gf_RX9_30 hC dX9_makeEmpty_29 hk1 hb12 ?_
  obtain ⟨hk13, h⟩ := h
  refine cl_RX9_36 hC (c_X7_forget _ G b12 K N I11 L R _ h) hk13 dX9_makeEmpty_32 (by rw [hRm]; exact ⟨Nat.le_of_ble_eq_true rfl, Nat.le_of_ble_eq_true rfl⟩) ⟨Nat.zero_le _, Nat.zero_le _⟩ (Nat.le_of_ble_eq_true rfl) (z_kIv (I := I11) (fun I14 h => ?_))
  refine z_aload_n hC (q := 0) dX9_makeEmpty_35 rfl rfl ?_
  obtain ⟨b15, hb15, h⟩ := h
  refine gf_RX9_33 hC dX9_makeEmpty_36 hk1 hb15 ?_
  obtain ⟨hk16, h⟩ := h
  refine cl_RX9_36 hC (c_X7_forget _ G b15 K N I14 L R _ h) hk16 dX9_makeEmpty_39 (by rw [hRm]; exact ⟨Nat.le_of_ble_eq_true rfl, Nat.le_of_ble_eq_true rfl⟩) ⟨Nat.zero_le _, Nat.zero_le _⟩ (Nat.le_of_ble_eq_true rfl) (z_kIv (I := I14) (fun I17 h => ?_))
  exact z_vret hC dX9_makeEmpty_42 ⟨rfl, rfl, rfl, rfl, rfl, h⟩
def w_X9_copyFrom  (a0 : Nat) (a1 : Nat) (K : MK) (N : MK) (I : MI) (L : ML) (R : MR) (Q : MI → ML → Prop) : Prop := K a1 = 10 ∧ K a0 = 10 ∧ ∀ I3 : MI, I3 = mup I a0 0 (I a1 0) → ∃ b4 : Nat, R a0 1 = some b4 ∧ ∃ b5 : Nat, R a1 1 = some b5 ∧ K b4 = 8 ∧ w_X7_copyFrom b4 b5 K N I3 L R (fun I7 L8 => ∃ b9 : Nat, R a0 2 = some b9 ∧ ∃ b10 : Nat, R a1 2 = some b10 ∧ K b9 = 8 ∧ w_X7_copyFrom b9 b10 K N I7 L8 R (fun I12 L13 => ∃ b14 : Nat, R a0 3 = some b14 ∧ ∃ b15 : Nat, R a1 3 = some b15 ∧ K b14 = 8 ∧ w_X7_copyFrom b14 b15 K N I12 L13 R (fun I17 L18 => ∃ b19 : Nat, R a0 4 = some b19 ∧ ∃ b20 : Nat, R a1 4 = some b20 ∧ K b19 = 8 ∧ w_X7_copyFrom b19 b20 K N I17 L18 R (fun I22 L23 => ∃ b24 : Nat, R a0 5 = some b24 ∧ ∃ b25 : Nat, R a1 5 = some b25 ∧ K b24 = 8 ∧ w_X7_copyFrom b24 b25 K N I22 L23 R (fun I27 L28 => Q I27 L28)))))
set_option maxHeartbeats 4000000 in
set_option maxRecDepth 100000 in
theorem c_X9_copyFrom  (l : Launch) (G : ZG) (a0 : Nat) (a1 : Nat) (K : MK) (N : MK) (I : MI) (L : ML) (R : MR) (Q : MI → ML → Prop) (h : w_X9_copyFrom a0 a1 K N I L R Q) : Met l yX9_copyFrom (.code yX9_copyFrom cX9_copyFrom 2 none :: z_tbl) rm_X9_copyFrom (z_Pc G [.ref a0, .ref a1] K N I L R) (z_Qc G (qLv K N R Q)) 0 0 (z_A G) := by
  refine z_met (by decide) (Nat.le_of_ble_eq_true rfl) (fun X hX hRm hC0 hnm => ?_)
  subst hX
  have hC : ZOk X G RX9 cX9_copyFrom 2 none := hC0
  show Z X G 2 0 0 _ K N I L R 0 [(0, .ref a0), (1, .ref a1)] []
  delta w_X9_copyFrom at h
  refine z_aload_n hC (q := 0) dX9_copyFrom_0 rfl rfl ?_
  refine z_aload_n hC (q := 1) dX9_copyFrom_1 rfl rfl ?_
  obtain ⟨hk1, h⟩ := h
  refine gf_RX9_11 hC dX9_copyFrom_2 hk1 ?_
  obtain ⟨hk2, h⟩ := h
  refine pf_RX9_11 hC dX9_copyFrom_5 hk2 ?_
  refine z_genI (fun I3 eI3 => ?_)
  have h := h I3 eI3
  refine z_aload_n hC (q := 0) dX9_copyFrom_8 rfl rfl ?_
  obtain ⟨b4, hb4, h⟩ := h
  refine gf_RX9_20 hC dX9_copyFrom_9 hk2 hb4 ?_
  refine z_aload_n hC (q := 1) dX9_copyFrom_12 rfl rfl ?_
  obtain ⟨b5, hb5, h⟩ := h
  refine gf_RX9_20 hC dX9_copyFrom_13 hk1 hb5 ?_
  obtain ⟨hk6, h⟩ := h
  refine cl_RX9_39 hC (c_X7_copyFrom _ G b4 b5 K N I3 L R _ h) hk6 dX9_copyFrom_16 (by rw [hRm]; exact ⟨Nat.le_of_ble_eq_true rfl, Nat.le_of_ble_eq_true rfl⟩) ⟨Nat.zero_le _, Nat.zero_le _⟩ (Nat.le_of_ble_eq_true rfl) (z_kLv (I := I3) (L := L) (fun I7 L8 h => ?_))
  refine z_aload_n hC (q := 0) dX9_copyFrom_19 rfl rfl ?_
  obtain ⟨b9, hb9, h⟩ := h
  refine gf_RX9_24 hC dX9_copyFrom_20 hk2 hb9 ?_
  refine z_aload_n hC (q := 1) dX9_copyFrom_23 rfl rfl ?_
  obtain ⟨b10, hb10, h⟩ := h
  refine gf_RX9_24 hC dX9_copyFrom_24 hk1 hb10 ?_
  obtain ⟨hk11, h⟩ := h
  refine cl_RX9_39 hC (c_X7_copyFrom _ G b9 b10 K N I7 L8 R _ h) hk11 dX9_copyFrom_27 (by rw [hRm]; exact ⟨Nat.le_of_ble_eq_true rfl, Nat.le_of_ble_eq_true rfl⟩) ⟨Nat.zero_le _, Nat.zero_le _⟩ (Nat.le_of_ble_eq_true rfl) (z_kLv (I := I7) (L := L8) (fun I12 L13 h => ?_))
  refine z_aload_n hC (q := 0) dX9_copyFrom_30 rfl rfl ?_
  obtain ⟨b14, hb14, h⟩ := h
  refine gf_RX9_27 hC dX9_copyFrom_31 hk2 hb14 ?_
  refine z_aload_n hC (q := 1) dX9_copyFrom_34 rfl rfl ?_
  obtain ⟨b15, hb15, h⟩ := h
  refine gf_RX9_27 hC dX9_copyFrom_35 hk1 hb15 ?_
  obtain ⟨hk16, h⟩ := h
  refine cl_RX9_39 hC (c_X7_copyFrom _ G b14 b15 K N I12 L13 R _ h) hk16 dX9_copyFrom_38 (by rw [hRm]; exact ⟨Nat.le_of_ble_eq_true rfl, Nat.le_of_ble_eq_true rfl⟩) ⟨Nat.zero_le _, Nat.zero_le _⟩ (Nat.le_of_ble_eq_true rfl) (z_kLv (I := I12) (L := L13) (fun I17 L18 h => ?_))
  refine z_aload_n hC (q := 0) dX9_copyFrom_41 rfl rfl ?_
  obtain ⟨b19, hb19, h⟩ := h
  refine gf_RX9_30 hC dX9_copyFrom_42 hk2 hb19 ?_
  refine z_aload_n hC (q := 1) dX9_copyFrom_45 rfl rfl ?_
  obtain ⟨b20, hb20, h⟩ := h
  refine gf_RX9_30 hC dX9_copyFrom_46 hk1 hb20 ?_
  obtain ⟨hk21, h⟩ := h
  refine cl_RX9_39 hC (c_X7_copyFrom _ G b19 b20 K N I17 L18 R _ h) hk21 dX9_copyFrom_49 (by rw [hRm]; exact ⟨Nat.le_of_ble_eq_true rfl, Nat.le_of_ble_eq_true rfl⟩) ⟨Nat.zero_le _, Nat.zero_le _⟩ (Nat.le_of_ble_eq_true rfl) (z_kLv (I := I17) (L := L18) (fun I22 L23 h => ?_))
  refine z_aload_n hC (q := 0) dX9_copyFrom_52 rfl rfl ?_
  obtain ⟨b24, hb24, h⟩ := h
  refine gf_RX9_33 hC dX9_copyFrom_53 hk2 hb24 ?_
  refine z_aload_n hC (q := 1) dX9_copyFrom_56 rfl rfl ?_
  obtain ⟨b25, hb25, h⟩ := h
  refine gf_RX9_33 hC dX9_copyFrom_57 hk1 hb25 ?_
  obtain ⟨hk26, h⟩ := h
  refine cl_RX9_39 hC (c_X7_copyFrom _ G b24 b25 K N I22 L23 R _ h) hk26 dX9_copyFrom_60 (by rw [hRm]; exact ⟨Nat.le_of_ble_eq_true rfl, Nat.le_of_ble_eq_true rfl⟩) ⟨Nat.zero_le _, Nat.zero_le _⟩ (Nat.le_of_ble_eq_true rfl) (z_kLv (I := I22) (L := L23) (fun I27 L28 h => ?_))
  exact z_vret hC dX9_copyFrom_63 ⟨rfl, rfl, rfl, rfl, h⟩
def w_X9_isNameTold  (a0 : Nat) (a1 : Int64) (K : MK) (N : MK) (I : MI) (L : ML) (R : MR) (Q : Bool → Prop) : Prop := K a0 = 10 ∧ ∃ b2 : Nat, R a0 2 = some b2 ∧ K b2 = 8 ∧ w_X7_find b2 a1 K N I L R (fun r4 => (¬ r4 = (-1) → Q true) ∧ (r4 = (-1) → ∃ b5 : Nat, R a0 3 = some b5 ∧ K b5 = 8 ∧ w_X7_find b5 a1 K N I L R (fun r7 => (¬ r7 = (-1) → Q true) ∧ (r7 = (-1) → ∃ b8 : Nat, R a0 4 = some b8 ∧ K b8 = 8 ∧ w_X7_find b8 a1 K N I L R (fun r10 => (r10 = (-1) → Q false) ∧ (¬ r10 = (-1) → Q true))))))
set_option maxHeartbeats 4000000 in
set_option maxRecDepth 100000 in
theorem c_X9_isNameTold  (l : Launch) (G : ZG) (a0 : Nat) (a1 : Int64) (K : MK) (N : MK) (I : MI) (L : ML) (R : MR) (Q : Bool → Prop) (h : w_X9_isNameTold a0 a1 K N I L R Q) : Met l yX9_isNameTold (.code yX9_isNameTold cX9_isNameTold 3 (some .boolean) :: z_tbl) rm_X9_isNameTold (z_Pc G [.ref a0, .long a1] K N I L R) (z_Qc G (qPz K N I L R Q)) 0 0 (z_A G) := by
  refine z_met (by decide) (Nat.le_of_ble_eq_true rfl) (fun X hX hRm hC0 hnm => ?_)
  subst hX
  have hC : ZOk X G RX9 cX9_isNameTold 3 (some .boolean) := hC0
  show Z X G 3 0 0 _ K N I L R 0 [(0, .ref a0), (1, .long a1)] []
  delta w_X9_isNameTold at h
  refine z_aload_n hC (q := 0) dX9_isNameTold_0 rfl rfl ?_
  obtain ⟨hk1, h⟩ := h
  obtain ⟨b2, hb2, h⟩ := h
  refine gf_RX9_24 hC dX9_isNameTold_1 hk1 hb2 ?_
  refine z_lload_n hC (q := 1) dX9_isNameTold_4 rfl rfl ?_
  obtain ⟨hk3, h⟩ := h
  refine cl_RX9_43 hC (c_X7_find _ G b2 a1 K N I L R _ h) hk3 dX9_isNameTold_5 (by rw [hRm]; exact ⟨Nat.le_of_ble_eq_true rfl, Nat.le_of_ble_eq_true rfl⟩) ⟨Nat.zero_le _, Nat.zero_le _⟩ (Nat.le_of_ble_eq_true rfl) (z_kPi (fun r4 h => ?_))
  refine z_iconst hC (v := (-1)) k_iconst_m1 dX9_isNameTold_8 ?_
  refine z_icmp_ne hC (tgt := 36) dX9_isNameTold_9 (by decide) (fun hc => ?_) (fun hc => ?_)
  · have h := h.1 hc
    refine z_iconst hC (v := 1) k_iconst_1 dX9_isNameTold_36 ?_
    refine z_goto hC (tgt := 41) dX9_isNameTold_37 (by decide) ?_
    exact z_zret (b := true) hC dX9_isNameTold_41 rfl ⟨true, rfl, rfl, rfl, rfl, rfl, rfl, h⟩
  · have h := h.2 hc
    refine z_aload_n hC (q := 0) dX9_isNameTold_12 rfl rfl ?_
    obtain ⟨b5, hb5, h⟩ := h
    refine gf_RX9_27 hC dX9_isNameTold_13 hk1 hb5 ?_
    refine z_lload_n hC (q := 1) dX9_isNameTold_16 rfl rfl ?_
    obtain ⟨hk6, h⟩ := h
    refine cl_RX9_43 hC (c_X7_find _ G b5 a1 K N I L R _ h) hk6 dX9_isNameTold_17 (by rw [hRm]; exact ⟨Nat.le_of_ble_eq_true rfl, Nat.le_of_ble_eq_true rfl⟩) ⟨Nat.zero_le _, Nat.zero_le _⟩ (Nat.le_of_ble_eq_true rfl) (z_kPi (fun r7 h => ?_))
    refine z_iconst hC (v := (-1)) k_iconst_m1 dX9_isNameTold_20 ?_
    refine z_icmp_ne hC (tgt := 36) dX9_isNameTold_21 (by decide) (fun hc => ?_) (fun hc => ?_)
    · have h := h.1 hc
      refine z_iconst hC (v := 1) k_iconst_1 dX9_isNameTold_36 ?_
      refine z_goto hC (tgt := 41) dX9_isNameTold_37 (by decide) ?_
      exact z_zret (b := true) hC dX9_isNameTold_41 rfl ⟨true, rfl, rfl, rfl, rfl, rfl, rfl, h⟩
    · have h := h.2 hc
      refine z_aload_n hC (q := 0) dX9_isNameTold_24 rfl rfl ?_
      obtain ⟨b8, hb8, h⟩ := h
      refine gf_RX9_30 hC dX9_isNameTold_25 hk1 hb8 ?_
      refine z_lload_n hC (q := 1) dX9_isNameTold_28 rfl rfl ?_
      obtain ⟨hk9, h⟩ := h
      refine cl_RX9_43 hC (c_X7_find _ G b8 a1 K N I L R _ h) hk9 dX9_isNameTold_29 (by rw [hRm]; exact ⟨Nat.le_of_ble_eq_true rfl, Nat.le_of_ble_eq_true rfl⟩) ⟨Nat.zero_le _, Nat.zero_le _⟩ (Nat.le_of_ble_eq_true rfl) (z_kPi (fun r10 h => ?_))
      refine z_iconst hC (v := (-1)) k_iconst_m1 dX9_isNameTold_32 ?_
      refine z_icmp_eq hC (tgt := 40) dX9_isNameTold_33 (by decide) (fun hc => ?_) (fun hc => ?_)
      · have h := h.1 hc
        refine z_iconst hC (v := 0) k_iconst_0 dX9_isNameTold_40 ?_
        exact z_zret (b := false) hC dX9_isNameTold_41 rfl ⟨false, rfl, rfl, rfl, rfl, rfl, rfl, h⟩
      · have h := h.2 hc
        refine z_iconst hC (v := 1) k_iconst_1 dX9_isNameTold_36 ?_
        refine z_goto hC (tgt := 41) dX9_isNameTold_37 (by decide) ?_
        exact z_zret (b := true) hC dX9_isNameTold_41 rfl ⟨true, rfl, rfl, rfl, rfl, rfl, rfl, h⟩
def w_X9_addRow_12  (x0 : Nat) (x1 : Int32) (x2 : Int32) (x3 : Int32) (x4 : Int32)  (K : MK) (N : MK) (I : MI) (L : ML) (R : MR)  (Q : MI → ML → Prop) : Prop := ∃ J : Nat → Nat → Int32 → Int32 → Int32 → Int32 → MI → ML → Prop, (∃ n, J n x0 x1 x2 x3 x4 I L) ∧ ∀ (n : Nat) (x0 : Nat) (x1 : Int32) (x2 : Int32) (x3 : Int32) (x4 : Int32) (I : MI) (L : ML), J n x0 x1 x2 x3 x4 I L → K x0 = 10 ∧ ∃ b8 : Nat, R x0 1 = some b8 ∧ K b8 = 8 ∧ ((I b8 3) ≤ x4 → w_X7_put b8 x3 0 x1 K N I L R (fun I10 => w_X7_put b8 x3 1 x2 K N I10 L R (fun I11 => Q I11 L))) ∧ (¬ (I b8 3) ≤ x4 → (x3 ≤ 0 → w_X7_put b8 x3 0 x1 K N I L R (fun I12 => w_X7_put b8 x3 1 x2 K N I12 L R (fun I13 => Q I13 L))) ∧ (¬ x3 ≤ 0 → w_X7_at b8 (x3 - 1) 0 K N I L R (fun r14 => (r14 ≤ x1 → w_X7_put b8 x3 0 x1 K N I L R (fun I15 => w_X7_put b8 x3 1 x2 K N I15 L R (fun I16 => Q I16 L))) ∧ (¬ r14 ≤ x1 → w_X7_at b8 (x3 - 1) 0 K N I L R (fun r17 => w_X7_put b8 x3 0 r17 K N I L R (fun I18 => w_X7_at b8 (x3 - 1) 1 K N I18 L R (fun r19 => w_X7_put b8 x3 1 r19 K N I18 L R (fun I20 => ∀ v21 : Int32, v21 = x3 + (-1) → ∀ v22 : Int32, v22 = x4 + 1 → ∃ n1, n1 < n ∧ J n1 x0 x1 x2 v21 v22 I20 L))))))))
def w_X9_addRow  (a0 : Nat) (a1 : Int32) (a2 : Int32) (K : MK) (N : MK) (I : MI) (L : ML) (R : MR) (Q : MI → ML → Prop) : Prop := K a0 = 10 ∧ ∃ b2 : Nat, R a0 1 = some b2 ∧ K b2 = 8 ∧ w_X7_add b2 0 K N I L R (fun r4 I5 L6 => w_X9_addRow_12 a0 a1 a2 r4 0 K N I5 L6 R Q)
set_option maxHeartbeats 4000000 in
set_option maxRecDepth 100000 in
theorem z_X9_addRow_12 {X : ZX} {G : ZG}  {x0 : Nat} {x1 : Int32} {x2 : Int32} {x3 : Int32} {x4 : Int32}  {K : MK} {N : MK} {I : MI} {L : ML} {R : MR}  {Q : MI → ML → Prop} (hC : ZOk X G RX9 cX9_addRow 5 none) (hRm : X.2.2.2.1 = rm_X9_addRow) (h : w_X9_addRow_12 x0 x1 x2 x3 x4 K N I L R  Q) : Z X G 5 0 0 (z_T X G (qLv K N R Q) 0 0) K N I L R 12 [(0, .ref x0), (1, .int x1), (2, .int x2), (3, .int x3), (4, .int x4)] [] := by
  delta w_X9_addRow_12 at h
  obtain ⟨J, ⟨n, h0⟩, hs⟩ := h
  have key : ∀ (n : Nat) (x0 : Nat) (x1 : Int32) (x2 : Int32) (x3 : Int32) (x4 : Int32) (I : MI) (L : ML), J n x0 x1 x2 x3 x4 I L → Z X G 5 0 0 (z_T X G (qLv K N R Q) 0 0) K N I L R 12 [(0, .ref x0), (1, .int x1), (2, .int x2), (3, .int x3), (4, .int x4)] [] := by
    intro n
    induction n using Nat.strongRecOn with
    | _ n ih =>
      intro x0 x1 x2 x3 x4 I L hJ
      have hC12 : ∀ (y0 : Nat) (y1 : Int32) (y2 : Int32) (y3 : Int32) (y4 : Int32) (zI : MI) (zL : ML), (∃ n1, n1 < n ∧ J n1 y0 y1 y2 y3 y4 zI zL) → Z X G 5 0 0 (z_T X G (qLv K N R Q) 0 0) K N zI zL R 12 [(0, .ref y0), (1, .int y1), (2, .int y2), (3, .int y3), (4, .int y4)] [] := fun y0 y1 y2 y3 y4 zI zL ⟨n1, hn1, hj⟩ => ih n1 hn1 y0 y1 y2 y3 y4 zI zL hj
      have h := hs n x0 x1 x2 x3 x4 I L hJ
      refine z_iload hC (q := 4) dX9_addRow_12 rfl ?_
      refine z_aload_n hC (q := 0) dX9_addRow_14 rfl rfl ?_
      obtain ⟨hk7, h⟩ := h
      obtain ⟨b8, hb8, h⟩ := h
      refine gf_RX9_20 hC dX9_addRow_15 hk7 hb8 ?_
      obtain ⟨hk9, h⟩ := h
      refine gf_RX9_50 hC dX9_addRow_18 hk9 ?_
      refine z_icmp_ge hC (tgt := 92) dX9_addRow_21 (by decide) (fun hc => ?_) (fun hc => ?_)
      · have h := h.1 hc
        refine z_aload_n hC (q := 0) dX9_addRow_92 rfl rfl ?_
        refine gf_RX9_20 hC dX9_addRow_93 hk7 hb8 ?_
        refine z_iload_n hC (q := 3) dX9_addRow_96 rfl rfl ?_
        refine z_iconst hC (v := 0) k_iconst_0 dX9_addRow_97 ?_
        refine z_iload_n hC (q := 1) dX9_addRow_98 rfl rfl ?_
        refine cl_RX9_57 hC (c_X7_put _ G b8 x3 0 x1 K N I L R _ h) hk9 dX9_addRow_99 (by rw [hRm]; exact ⟨Nat.le_of_ble_eq_true rfl, Nat.le_of_ble_eq_true rfl⟩) ⟨Nat.zero_le _, Nat.zero_le _⟩ (Nat.le_of_ble_eq_true rfl) (z_kIv (I := I) (fun I10 h => ?_))
        refine z_aload_n hC (q := 0) dX9_addRow_102 rfl rfl ?_
        refine gf_RX9_20 hC dX9_addRow_103 hk7 hb8 ?_
        refine z_iload_n hC (q := 3) dX9_addRow_106 rfl rfl ?_
        refine z_iconst hC (v := 1) k_iconst_1 dX9_addRow_107 ?_
        refine z_iload_n hC (q := 2) dX9_addRow_108 rfl rfl ?_
        refine cl_RX9_57 hC (c_X7_put _ G b8 x3 1 x2 K N I10 L R _ h) hk9 dX9_addRow_109 (by rw [hRm]; exact ⟨Nat.le_of_ble_eq_true rfl, Nat.le_of_ble_eq_true rfl⟩) ⟨Nat.zero_le _, Nat.zero_le _⟩ (Nat.le_of_ble_eq_true rfl) (z_kIv (I := I10) (fun I11 h => ?_))
        exact z_vret hC dX9_addRow_112 ⟨rfl, rfl, rfl, rfl, h⟩
      · have h := h.2 hc
        refine z_iload_n hC (q := 3) dX9_addRow_24 rfl rfl ?_
        refine z_if_le hC (tgt := 92) dX9_addRow_25 (by decide) (fun hc => ?_) (fun hc => ?_)
        · have h := h.1 hc
          refine z_aload_n hC (q := 0) dX9_addRow_92 rfl rfl ?_
          refine gf_RX9_20 hC dX9_addRow_93 hk7 hb8 ?_
          refine z_iload_n hC (q := 3) dX9_addRow_96 rfl rfl ?_
          refine z_iconst hC (v := 0) k_iconst_0 dX9_addRow_97 ?_
          refine z_iload_n hC (q := 1) dX9_addRow_98 rfl rfl ?_
          refine cl_RX9_57 hC (c_X7_put _ G b8 x3 0 x1 K N I L R _ h) hk9 dX9_addRow_99 (by rw [hRm]; exact ⟨Nat.le_of_ble_eq_true rfl, Nat.le_of_ble_eq_true rfl⟩) ⟨Nat.zero_le _, Nat.zero_le _⟩ (Nat.le_of_ble_eq_true rfl) (z_kIv (I := I) (fun I12 h => ?_))
          refine z_aload_n hC (q := 0) dX9_addRow_102 rfl rfl ?_
          refine gf_RX9_20 hC dX9_addRow_103 hk7 hb8 ?_
          refine z_iload_n hC (q := 3) dX9_addRow_106 rfl rfl ?_
          refine z_iconst hC (v := 1) k_iconst_1 dX9_addRow_107 ?_
          refine z_iload_n hC (q := 2) dX9_addRow_108 rfl rfl ?_
          refine cl_RX9_57 hC (c_X7_put _ G b8 x3 1 x2 K N I12 L R _ h) hk9 dX9_addRow_109 (by rw [hRm]; exact ⟨Nat.le_of_ble_eq_true rfl, Nat.le_of_ble_eq_true rfl⟩) ⟨Nat.zero_le _, Nat.zero_le _⟩ (Nat.le_of_ble_eq_true rfl) (z_kIv (I := I12) (fun I13 h => ?_))
          exact z_vret hC dX9_addRow_112 ⟨rfl, rfl, rfl, rfl, h⟩
        · have h := h.2 hc
          refine z_aload_n hC (q := 0) dX9_addRow_28 rfl rfl ?_
          refine gf_RX9_20 hC dX9_addRow_29 hk7 hb8 ?_
          refine z_iload_n hC (q := 3) dX9_addRow_32 rfl rfl ?_
          refine z_iconst hC (v := 1) k_iconst_1 dX9_addRow_33 ?_
          refine z_isub hC dX9_addRow_34 ?_
          refine z_iconst hC (v := 0) k_iconst_0 dX9_addRow_35 ?_
          refine cl_RX9_53 hC (c_X7_at _ G b8 (x3 - 1) 0 K N I L R _ h) hk9 dX9_addRow_36 (by rw [hRm]; exact ⟨Nat.le_of_ble_eq_true rfl, Nat.le_of_ble_eq_true rfl⟩) ⟨Nat.zero_le _, Nat.zero_le _⟩ (Nat.le_of_ble_eq_true rfl) (z_kPi (fun r14 h => ?_))
          refine z_iload_n hC (q := 1) dX9_addRow_39 rfl rfl ?_
          refine z_icmp_le hC (tgt := 92) dX9_addRow_40 (by decide) (fun hc => ?_) (fun hc => ?_)
          · have h := h.1 hc
            refine z_aload_n hC (q := 0) dX9_addRow_92 rfl rfl ?_
            refine gf_RX9_20 hC dX9_addRow_93 hk7 hb8 ?_
            refine z_iload_n hC (q := 3) dX9_addRow_96 rfl rfl ?_
            refine z_iconst hC (v := 0) k_iconst_0 dX9_addRow_97 ?_
            refine z_iload_n hC (q := 1) dX9_addRow_98 rfl rfl ?_
            refine cl_RX9_57 hC (c_X7_put _ G b8 x3 0 x1 K N I L R _ h) hk9 dX9_addRow_99 (by rw [hRm]; exact ⟨Nat.le_of_ble_eq_true rfl, Nat.le_of_ble_eq_true rfl⟩) ⟨Nat.zero_le _, Nat.zero_le _⟩ (Nat.le_of_ble_eq_true rfl) (z_kIv (I := I) (fun I15 h => ?_))
            refine z_aload_n hC (q := 0) dX9_addRow_102 rfl rfl ?_
            refine gf_RX9_20 hC dX9_addRow_103 hk7 hb8 ?_
            refine z_iload_n hC (q := 3) dX9_addRow_106 rfl rfl ?_
            refine z_iconst hC (v := 1) k_iconst_1 dX9_addRow_107 ?_
            refine z_iload_n hC (q := 2) dX9_addRow_108 rfl rfl ?_
            refine cl_RX9_57 hC (c_X7_put _ G b8 x3 1 x2 K N I15 L R _ h) hk9 dX9_addRow_109 (by rw [hRm]; exact ⟨Nat.le_of_ble_eq_true rfl, Nat.le_of_ble_eq_true rfl⟩) ⟨Nat.zero_le _, Nat.zero_le _⟩ (Nat.le_of_ble_eq_true rfl) (z_kIv (I := I15) (fun I16 h => ?_))
            exact z_vret hC dX9_addRow_112 ⟨rfl, rfl, rfl, rfl, h⟩
          · have h := h.2 hc
            refine z_aload_n hC (q := 0) dX9_addRow_43 rfl rfl ?_
            refine gf_RX9_20 hC dX9_addRow_44 hk7 hb8 ?_
            refine z_iload_n hC (q := 3) dX9_addRow_47 rfl rfl ?_
            refine z_iconst hC (v := 0) k_iconst_0 dX9_addRow_48 ?_
            refine z_aload_n hC (q := 0) dX9_addRow_49 rfl rfl ?_
            refine gf_RX9_20 hC dX9_addRow_50 hk7 hb8 ?_
            refine z_iload_n hC (q := 3) dX9_addRow_53 rfl rfl ?_
            refine z_iconst hC (v := 1) k_iconst_1 dX9_addRow_54 ?_
            refine z_isub hC dX9_addRow_55 ?_
            refine z_iconst hC (v := 0) k_iconst_0 dX9_addRow_56 ?_
            refine cl_RX9_53 hC (c_X7_at _ G b8 (x3 - 1) 0 K N I L R _ h) hk9 dX9_addRow_57 (by rw [hRm]; exact ⟨Nat.le_of_ble_eq_true rfl, Nat.le_of_ble_eq_true rfl⟩) ⟨Nat.zero_le _, Nat.zero_le _⟩ (Nat.le_of_ble_eq_true rfl) (z_kPi (fun r17 h => ?_))
            refine cl_RX9_57 hC (c_X7_put _ G b8 x3 0 r17 K N I L R _ h) hk9 dX9_addRow_60 (by rw [hRm]; exact ⟨Nat.le_of_ble_eq_true rfl, Nat.le_of_ble_eq_true rfl⟩) ⟨Nat.zero_le _, Nat.zero_le _⟩ (Nat.le_of_ble_eq_true rfl) (z_kIv (I := I) (fun I18 h => ?_))
            refine z_aload_n hC (q := 0) dX9_addRow_63 rfl rfl ?_
            refine gf_RX9_20 hC dX9_addRow_64 hk7 hb8 ?_
            refine z_iload_n hC (q := 3) dX9_addRow_67 rfl rfl ?_
            refine z_iconst hC (v := 1) k_iconst_1 dX9_addRow_68 ?_
            refine z_aload_n hC (q := 0) dX9_addRow_69 rfl rfl ?_
            refine gf_RX9_20 hC dX9_addRow_70 hk7 hb8 ?_
            refine z_iload_n hC (q := 3) dX9_addRow_73 rfl rfl ?_
            refine z_iconst hC (v := 1) k_iconst_1 dX9_addRow_74 ?_
            refine z_isub hC dX9_addRow_75 ?_
            refine z_iconst hC (v := 1) k_iconst_1 dX9_addRow_76 ?_
            refine cl_RX9_53 hC (c_X7_at _ G b8 (x3 - 1) 1 K N I18 L R _ h) hk9 dX9_addRow_77 (by rw [hRm]; exact ⟨Nat.le_of_ble_eq_true rfl, Nat.le_of_ble_eq_true rfl⟩) ⟨Nat.zero_le _, Nat.zero_le _⟩ (Nat.le_of_ble_eq_true rfl) (z_kPi (fun r19 h => ?_))
            refine cl_RX9_57 hC (c_X7_put _ G b8 x3 1 r19 K N I18 L R _ h) hk9 dX9_addRow_80 (by rw [hRm]; exact ⟨Nat.le_of_ble_eq_true rfl, Nat.le_of_ble_eq_true rfl⟩) ⟨Nat.zero_le _, Nat.zero_le _⟩ (Nat.le_of_ble_eq_true rfl) (z_kIv (I := I18) (fun I20 h => ?_))
            obtain ⟨v21, ev21⟩ : ∃ y : Int32, y = x3 + (-1) := ⟨_, rfl⟩
            have h := h v21 ev21
            refine z_iinc hC (q := 3) (v := v21) (lv1 := [(3, .int v21), (0, .ref x0), (1, .int x1), (2, .int x2), (4, .int x4)]) dX9_addRow_83 rfl (by rw [ev21, k_iinc_m1]) (by decide) rfl ?_
            obtain ⟨v22, ev22⟩ : ∃ y : Int32, y = x4 + 1 := ⟨_, rfl⟩
            have h := h v22 ev22
            refine z_iinc hC (q := 4) (v := v22) (lv1 := [(4, .int v22), (3, .int v21), (0, .ref x0), (1, .int x1), (2, .int x2)]) dX9_addRow_86 rfl (by rw [ev22, k_iinc_1]) (by decide) rfl ?_
            refine z_goto hC (tgt := 12) dX9_addRow_89 (by decide) ?_
            exact z_sub [(0, .ref x0), (1, .int x1), (2, .int x2), (3, .int v21), (4, .int v22)] [2, 3, 4, 1, 0] rfl (hC12 _ _ _ _ _ _ _ h)
  exact key n x0 x1 x2 x3 x4 I L h0
set_option maxHeartbeats 4000000 in
set_option maxRecDepth 100000 in
theorem c_X9_addRow  (l : Launch) (G : ZG) (a0 : Nat) (a1 : Int32) (a2 : Int32) (K : MK) (N : MK) (I : MI) (L : ML) (R : MR) (Q : MI → ML → Prop) (h : w_X9_addRow a0 a1 a2 K N I L R Q) : Met l yX9_addRow (.code yX9_addRow cX9_addRow 5 none :: z_tbl) rm_X9_addRow (z_Pc G [.ref a0, .int a1, .int a2] K N I L R) (z_Qc G (qLv K N R Q)) 0 0 (z_A G) := by
  refine z_met (by decide) (Nat.le_of_ble_eq_true rfl) (fun X hX hRm hC0 hnm => ?_)
  subst hX
  have hC : ZOk X G RX9 cX9_addRow 5 none := hC0
  show Z X G 5 0 0 _ K N I L R 0 [(0, .ref a0), (1, .int a1), (2, .int a2)] []
  delta w_X9_addRow at h
  refine z_aload_n hC (q := 0) dX9_addRow_0 rfl rfl ?_
  obtain ⟨hk1, h⟩ := h
  obtain ⟨b2, hb2, h⟩ := h
  refine gf_RX9_20 hC dX9_addRow_1 hk1 hb2 ?_
  refine z_lconst hC (v := 0) k_lconst_0 dX9_addRow_4 ?_
  obtain ⟨hk3, h⟩ := h
  refine cl_RX9_47 hC (c_X7_add _ G b2 0 K N I L R _ h) hk3 dX9_addRow_5 (by rw [hRm]; exact ⟨Nat.le_of_ble_eq_true rfl, Nat.le_of_ble_eq_true rfl⟩) ⟨Nat.zero_le _, Nat.zero_le _⟩ (Nat.le_of_ble_eq_true rfl) (z_kLi (I := I) (L := L) (fun r4 I5 L6 h => ?_))
  refine z_istore_n hC (lv1 := [(3, .int r4), (0, .ref a0), (1, .int a1), (2, .int a2)]) dX9_addRow_8 rfl (by decide) rfl ?_
  refine z_iconst hC (v := 0) k_iconst_0 dX9_addRow_9 ?_
  refine z_istore hC (lv1 := [(4, .int 0), (3, .int r4), (0, .ref a0), (1, .int a1), (2, .int a2)]) dX9_addRow_10 (by decide) rfl ?_
  exact z_sub [(0, .ref a0), (1, .int a1), (2, .int a2), (3, .int r4), (4, .int 0)] [2, 3, 4, 1, 0] rfl (z_X9_addRow_12 hC hRm h)
