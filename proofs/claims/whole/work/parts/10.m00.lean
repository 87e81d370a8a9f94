def w_X7_forget  (a0 : Nat) (K : MK) (N : MK) (I : MI) (L : ML) (R : MR) (Q : MI → Prop) : Prop := K a0 = 8 ∧ ∀ I2 : MI, I2 = mup I a0 3 0 → Q I2
set_option maxHeartbeats 4000000 in
set_option maxRecDepth 100000 in
theorem c_X7_forget  (l : Launch) (G : ZG) (a0 : Nat) (K : MK) (N : MK) (I : MI) (L : ML) (R : MR) (Q : MI → Prop) (h : w_X7_forget a0 K N I L R Q) : Met l yX7_forget (.code yX7_forget cX7_forget 1 none :: z_tbl) rm_X7_forget (z_Pc G [.ref a0] K N I L R) (z_Qc G (qIv K N L R Q)) 0 0 (z_A G) := by
  refine z_met (by decide) (Nat.le_of_ble_eq_true rfl) (fun X hX hRm hC0 hnm => ?_)
  subst hX
  have hC : ZOk X G RX7 cX7_forget 1 none := hC0
  show Z X G 1 0 0 _ K N I L R 0 [(0, .ref a0)] []
  delta w_X7_forget at h
  refine z_aload_n hC (q := 0) dX7_forget_0 rfl rfl ?_
  refine z_iconst hC (v := 0) k_iconst_0 dX7_forget_1 ?_
  obtain ⟨hk1, h⟩ := h
  refine pf_RX7_9 hC dX7_forget_2 hk1 ?_
  refine z_genI (fun I2 eI2 => ?_)
  have h := h I2 eI2
  exact z_vret hC dX7_forget_5 ⟨rfl, rfl, rfl, rfl, rfl, h⟩
def w_X8_byteOf  (a0 : Nat) (a1 : Int32) (K : MK) (N : MK) (I : MI) (L : ML) (R : MR) (Q : Int32 → Prop) : Prop := (a1 < 0 → Q (-1)) ∧ (¬ a1 < 0 → K a0 = 9 ∧ ((I a0 1) ≤ a1 → Q (-1)) ∧ (¬ (I a0 1) ≤ a1 → ∃ b2 : Nat, R a0 0 = some b2 ∧ K b2 = 14 ∧ vp_in a1 (N b2) ∧ Q (I b2 (ix a1))))
set_option maxHeartbeats 4000000 in
set_option maxRecDepth 100000 in
theorem c_X8_byteOf  (l : Launch) (G : ZG) (a0 : Nat) (a1 : Int32) (K : MK) (N : MK) (I : MI) (L : ML) (R : MR) (Q : Int32 → Prop) (h : w_X8_byteOf a0 a1 K N I L R Q) : Met l yX8_byteOf (.code yX8_byteOf cX8_byteOf 2 (some .int) :: z_tbl) rm_X8_byteOf (z_Pc G [.ref a0, .int a1] K N I L R) (z_Qc G (qPi K N I L R Q)) 0 0 (z_A G) := by
  refine z_met (by decide) (Nat.le_of_ble_eq_true rfl) (fun X hX hRm hC0 hnm => ?_)
  subst hX
  have hC : ZOk X G RX8 cX8_byteOf 2 (some .int) := hC0
  show Z X G 2 0 0 _ K N I L R 0 [(0, .ref a0), (1, .int a1)] []
  delta w_X8_byteOf at h
  refine z_iload_n hC (q := 1) dX8_byteOf_0 rfl rfl ?_
  refine z_if_lt hC (tgt := 21) dX8_byteOf_1 (by decide) (fun hc => ?_) (fun hc => ?_)
  · have h := h.1 hc
    refine z_iconst hC (v := (-1)) k_iconst_m1 dX8_byteOf_21 ?_
    exact z_iret hC dX8_byteOf_22 ⟨_, rfl, rfl, rfl, rfl, rfl, rfl, h⟩
  · have h := h.2 hc
    refine z_iload_n hC (q := 1) dX8_byteOf_4 rfl rfl ?_
    refine z_aload_n hC (q := 0) dX8_byteOf_5 rfl rfl ?_
    obtain ⟨hk1, h⟩ := h
    refine gf_RX8_15 hC dX8_byteOf_6 hk1 ?_
    refine z_icmp_ge hC (tgt := 21) dX8_byteOf_9 (by decide) (fun hc => ?_) (fun hc => ?_)
    · have h := h.1 hc
      refine z_iconst hC (v := (-1)) k_iconst_m1 dX8_byteOf_21 ?_
      exact z_iret hC dX8_byteOf_22 ⟨_, rfl, rfl, rfl, rfl, rfl, rfl, h⟩
    · have h := h.2 hc
      refine z_aload_n hC (q := 0) dX8_byteOf_12 rfl rfl ?_
      obtain ⟨b2, hb2, h⟩ := h
      refine gf_RX8_11 hC dX8_byteOf_13 hk1 hb2 ?_
      refine z_iload_n hC (q := 1) dX8_byteOf_16 rfl rfl ?_
      obtain ⟨hk3, h⟩ := h
      obtain ⟨hi4, h⟩ := h
      refine z_iaload hC hk3 hi4 dX8_byteOf_17 ?_
      refine z_goto hC (tgt := 22) dX8_byteOf_18 (by decide) ?_
      exact z_iret hC dX8_byteOf_22 ⟨_, rfl, rfl, rfl, rfl, rfl, rfl, h⟩
def w_X8_isBlank  (a0 : Int32) (K : MK) (N : MK) (I : MI) (L : ML) (R : MR) (Q : Bool → Prop) : Prop := (a0 = 32 → Q true) ∧ (¬ a0 = 32 → (¬ a0 = 10 → Q false) ∧ (a0 = 10 → Q true))
set_option maxHeartbeats 4000000 in
set_option maxRecDepth 100000 in
theorem c_X8_isBlank  (l : Launch) (G : ZG) (a0 : Int32) (K : MK) (N : MK) (I : MI) (L : ML) (R : MR) (Q : Bool → Prop) (h : w_X8_isBlank a0 K N I L R Q) : Met l yX8_isBlank (.code yX8_isBlank cX8_isBlank 1 (some .boolean) :: z_tbl) rm_X8_isBlank (z_Pc G [.int a0] K N I L R) (z_Qc G (qPz K N I L R Q)) 0 0 (z_A G) := by
  refine z_met (by decide) (Nat.le_of_ble_eq_true rfl) (fun X hX hRm hC0 hnm => ?_)
  subst hX
  have hC : ZOk X G RX8 cX8_isBlank 1 (some .boolean) := hC0
  show Z X G 1 0 0 _ K N I L R 0 [(0, .int a0)] []
  delta w_X8_isBlank at h
  refine z_iload_n hC (q := 0) dX8_isBlank_0 rfl rfl ?_
  refine z_bipush hC (v := 32) k_bipush_32 dX8_isBlank_1 ?_
  refine z_icmp_eq hC (tgt := 12) dX8_isBlank_3 (by decide) (fun hc => ?_) (fun hc => ?_)
  · have h := h.1 hc
    refine z_iconst hC (v := 1) k_iconst_1 dX8_isBlank_12 ?_
    refine z_goto hC (tgt := 17) dX8_isBlank_13 (by decide) ?_
    exact z_zret (b := true) hC dX8_isBlank_17 rfl ⟨true, rfl, rfl, rfl, rfl, rfl, rfl, h⟩
  · have h := h.2 hc
    refine z_iload_n hC (q := 0) dX8_isBlank_6 rfl rfl ?_
    refine z_bipush hC (v := 10) k_bipush_10 dX8_isBlank_7 ?_
    refine z_icmp_ne hC (tgt := 16) dX8_isBlank_9 (by decide) (fun hc => ?_) (fun hc => ?_)
    · have h := h.1 hc
      refine z_iconst hC (v := 0) k_iconst_0 dX8_isBlank_16 ?_
      exact z_zret (b := false) hC dX8_isBlank_17 rfl ⟨false, rfl, rfl, rfl, rfl, rfl, rfl, h⟩
    · have h := h.2 hc
      refine z_iconst hC (v := 1) k_iconst_1 dX8_isBlank_12 ?_
      refine z_goto hC (tgt := 17) dX8_isBlank_13 (by decide) ?_
      exact z_zret (b := true) hC dX8_isBlank_17 rfl ⟨true, rfl, rfl, rfl, rfl, rfl, rfl, h⟩
def w_X8_goesOn  (a0 : Int32) (K : MK) (N : MK) (I : MI) (L : ML) (R : MR) (Q : Bool → Prop) : Prop := (a0 < 97 → (a0 < 48 → Q false) ∧ (¬ a0 < 48 → ((57 : Int32) < a0 → Q false) ∧ (¬ (57 : Int32) < a0 → Q true))) ∧ (¬ a0 < 97 → (a0 ≤ 122 → Q true) ∧ (¬ a0 ≤ 122 → (a0 < 48 → Q false) ∧ (¬ a0 < 48 → ((57 : Int32) < a0 → Q false) ∧ (¬ (57 : Int32) < a0 → Q true))))
set_option maxHeartbeats 4000000 in
set_option maxRecDepth 100000 in
theorem c_X8_goesOn  (l : Launch) (G : ZG) (a0 : Int32) (K : MK) (N : MK) (I : MI) (L : ML) (R : MR) (Q : Bool → Prop) (h : w_X8_goesOn a0 K N I L R Q) : Met l yX8_goesOn (.code yX8_goesOn cX8_goesOn 1 (some .boolean) :: z_tbl) rm_X8_goesOn (z_Pc G [.int a0] K N I L R) (z_Qc G (qPz K N I L R Q)) 0 0 (z_A G) := by
  refine z_met (by decide) (Nat.le_of_ble_eq_true rfl) (fun X hX hRm hC0 hnm => ?_)
  subst hX
  have hC : ZOk X G RX8 cX8_goesOn 1 (some .boolean) := hC0
  show Z X G 1 0 0 _ K N I L R 0 [(0, .int a0)] []
  delta w_X8_goesOn at h
  refine z_iload_n hC (q := 0) dX8_goesOn_0 rfl rfl ?_
  refine z_bipush hC (v := 97) k_bipush_97 dX8_goesOn_1 ?_
  refine z_icmp_lt hC (tgt := 12) dX8_goesOn_3 (by decide) (fun hc => ?_) (fun hc => ?_)
  · have h := h.1 hc
    refine z_iload_n hC (q := 0) dX8_goesOn_12 rfl rfl ?_
    refine z_bipush hC (v := 48) k_bipush_48 dX8_goesOn_13 ?_
    refine z_icmp_lt hC (tgt := 28) dX8_goesOn_15 (by decide) (fun hc => ?_) (fun hc => ?_)
    · have h := h.1 hc
      refine z_iconst hC (v := 0) k_iconst_0 dX8_goesOn_28 ?_
      exact z_zret (b := false) hC dX8_goesOn_29 rfl ⟨false, rfl, rfl, rfl, rfl, rfl, rfl, h⟩
    · have h := h.2 hc
      refine z_iload_n hC (q := 0) dX8_goesOn_18 rfl rfl ?_
      refine z_bipush hC (v := 57) k_bipush_57 dX8_goesOn_19 ?_
      refine z_icmp_gt hC (tgt := 28) dX8_goesOn_21 (by decide) (fun hc => ?_) (fun hc => ?_)
      · have h := h.1 hc
        refine z_iconst hC (v := 0) k_iconst_0 dX8_goesOn_28 ?_
        exact z_zret (b := false) hC dX8_goesOn_29 rfl ⟨false, rfl, rfl, rfl, rfl, rfl, rfl, h⟩
      · have h := h.2 hc
        refine z_iconst hC (v := 1) k_iconst_1 dX8_goesOn_24 ?_
        refine z_goto hC (tgt := 29) dX8_goesOn_25 (by decide) ?_
        exact z_zret (b := true) hC dX8_goesOn_29 rfl ⟨true, rfl, rfl, rfl, rfl, rfl, rfl, h⟩
  · have h := h.2 hc
    refine z_iload_n hC (q := 0) dX8_goesOn_6 rfl rfl ?_
    refine z_bipush hC (v := 122) k_bipush_122 dX8_goesOn_7 ?_
    refine z_icmp_le hC (tgt := 24) dX8_goesOn_9 (by decide) (fun hc => ?_) (fun hc => ?_)
    · have h := h.1 hc
      refine z_iconst hC (v := 1) k_iconst_1 dX8_goesOn_24 ?_
      refine z_goto hC (tgt := 29) dX8_goesOn_25 (by decide) ?_
      exact z_zret (b := true) hC dX8_goesOn_29 rfl ⟨true, rfl, rfl, rfl, rfl, rfl, rfl, h⟩
    · have h := h.2 hc
      refine z_iload_n hC (q := 0) dX8_goesOn_12 rfl rfl ?_
      refine z_bipush hC (v := 48) k_bipush_48 dX8_goesOn_13 ?_
      refine z_icmp_lt hC (tgt := 28) dX8_goesOn_15 (by decide) (fun hc => ?_) (fun hc => ?_)
      · have h := h.1 hc
        refine z_iconst hC (v := 0) k_iconst_0 dX8_goesOn_28 ?_
        exact z_zret (b := false) hC dX8_goesOn_29 rfl ⟨false, rfl, rfl, rfl, rfl, rfl, rfl, h⟩
      · have h := h.2 hc
        refine z_iload_n hC (q := 0) dX8_goesOn_18 rfl rfl ?_
        refine z_bipush hC (v := 57) k_bipush_57 dX8_goesOn_19 ?_
        refine z_icmp_gt hC (tgt := 28) dX8_goesOn_21 (by decide) (fun hc => ?_) (fun hc => ?_)
        · have h := h.1 hc
          refine z_iconst hC (v := 0) k_iconst_0 dX8_goesOn_28 ?_
          exact z_zret (b := false) hC dX8_goesOn_29 rfl ⟨false, rfl, rfl, rfl, rfl, rfl, rfl, h⟩
        · have h := h.2 hc
          refine z_iconst hC (v := 1) k_iconst_1 dX8_goesOn_24 ?_
          refine z_goto hC (tgt := 29) dX8_goesOn_25 (by decide) ?_
          exact z_zret (b := true) hC dX8_goesOn_29 rfl ⟨true, rfl, rfl, rfl, rfl, rfl, rfl, h⟩
def w_X8_wordOf_8  (x0 : Int64) (x2 : Int64) (x4 : Int32) (x5 : Int32)  (K : MK) (N : MK) (I : MI) (L : ML) (R : MR)  (Q : Int32 → Prop) : Prop := ∃ J : Nat → Int64 → Int64 → Int32 → Int32 → Prop, (∃ n, J n x0 x2 x4 x5) ∧ ∀ (n : Nat) (x0 : Int64) (x2 : Int64) (x4 : Int32) (x5 : Int32), J n x0 x2 x4 x5 → ((nI (z_ln.getD 0 0)) ≤ x5 → Q (-1)) ∧ (¬ (nI (z_ln.getD 0 0)) ≤ x5 → vp_in x5 (z_ln.getD 0 0) ∧ ∀ v2 : Int32, v2 = (z_ch 0 (ix x5)) → (v2 = 32 → (¬ (lg_cmp x2 x0) = 0 → ∀ v3 : Int32, v3 = x4 + 1 → ∀ v4 : Int32, v4 = x5 + 1 → ∃ n1, n1 < n ∧ J n1 x0 0 v3 v4) ∧ ((lg_cmp x2 x0) = 0 → Q x4)) ∧ (¬ v2 = 32 → ∀ v5 : Int64, v5 = ((x2 * 32) + (Int32.toInt64 (v2 - 96))) → ∀ v6 : Int32, v6 = x5 + 1 → ∃ n1, n1 < n ∧ J n1 x0 v5 x4 v6))
def w_X8_wordOf  (a0 : Int64) (K : MK) (N : MK) (I : MI) (L : ML) (R : MR) (Q : Int32 → Prop) : Prop := w_X8_wordOf_8 a0 0 0 0 K N I L R Q
set_option maxHeartbeats 4000000 in
set_option maxRecDepth 100000 in
theorem z_X8_wordOf_8 {X : ZX} {G : ZG}  {x0 : Int64} {x2 : Int64} {x4 : Int32} {x5 : Int32}  {K : MK} {N : MK} {I : MI} {L : ML} {R : MR}  {Q : Int32 → Prop} (hC : ZOk X G RX8 cX8_wordOf 7 (some .int)) (hRm : X.2.2.2.1 = rm_X8_wordOf) (h : w_X8_wordOf_8 x0 x2 x4 x5 K N I L R  Q) : Z X G 7 0 0 (z_T X G (qPi K N I L R Q) 0 0) K N I L R 8 [(0, .long x0), (2, .long x2), (4, .int x4), (5, .int x5)] [] := by
  delta w_X8_wordOf_8 at h
  obtain ⟨J, ⟨n, h0⟩, hs⟩ := h
  have key : ∀ (n : Nat) (x0 : Int64) (x2 : Int64) (x4 : Int32) (x5 : Int32), J n x0 x2 x4 x5 → Z X G 7 0 0 (z_T X G (qPi K N I L R Q) 0 0) K N I L R 8 [(0, .long x0), (2, .long x2), (4, .int x4), (5, .int x5)] [] := by
    intro n
    induction n using Nat.strongRecOn with
    | _ n ih =>
      intro x0 x2 x4 x5 hJ
      have hC8 : ∀ (y0 : Int64) (y1 : Int64) (y2 : Int32) (y3 : Int32) , (∃ n1, n1 < n ∧ J n1 y0 y1 y2 y3) → Z X G 7 0 0 (z_T X G (qPi K N I L R Q) 0 0) K N I L R 8 [(0, .long y0), (2, .long y1), (4, .int y2), (5, .int y3)] [] := fun y0 y1 y2 y3 ⟨n1, hn1, hj⟩ => ih n1 hn1 y0 y1 y2 y3 hj
      have h := hs n x0 x2 x4 x5 hJ
      refine z_iload hC (q := 3) dX8_wordOf_8 rfl ?_
      refine z_ldcS0 hC dX8_wordOf_10 ?_
      refine z_slen hC ml_RX8_78 (by decide) dX8_wordOf_12 (by rw [hRm]; exact ⟨Nat.le_of_ble_eq_true rfl, Nat.le_of_ble_eq_true rfl⟩) ⟨Nat.zero_le _, Nat.zero_le _⟩ (Nat.le_of_ble_eq_true rfl) ?_
      refine z_icmp_ge hC (tgt := 70) dX8_wordOf_15 (by decide) (fun hc => ?_) (fun hc => ?_)
      · have h := h.1 hc
        refine z_iconst hC (v := (-1)) k_iconst_m1 dX8_wordOf_70 ?_
        exact z_iret hC dX8_wordOf_71 ⟨_, rfl, rfl, rfl, rfl, rfl, rfl, h⟩
      · have h := h.2 hc
        refine z_ldcS0 hC dX8_wordOf_18 ?_
        refine z_iload hC (q := 3) dX8_wordOf_20 rfl ?_
        obtain ⟨hi1, h⟩ := h
        refine z_schar hC ml_RX8_83 (by decide) hi1 dX8_wordOf_22 (by rw [hRm]; exact ⟨Nat.le_of_ble_eq_true rfl, Nat.le_of_ble_eq_true rfl⟩) ⟨Nat.zero_le _, Nat.zero_le _⟩ (Nat.le_of_ble_eq_true rfl) ?_
        refine z_topi (fun v2 ev2 => ?_)
        have h := h v2 ev2
        refine z_istore hC (lv1 := [(6, .int v2), (0, .long x0), (2, .long x2), (4, .int x4), (5, .int x5)]) dX8_wordOf_25 (by decide) rfl ?_
        refine z_iload hC (q := 0) dX8_wordOf_27 rfl ?_
        refine z_bipush hC (v := 32) k_bipush_32 dX8_wordOf_29 ?_
        refine z_icmp_eq hC (tgt := 50) dX8_wordOf_31 (by decide) (fun hc => ?_) (fun hc => ?_)
        · have h := h.1 hc
          refine z_lload_n hC (q := 2) dX8_wordOf_50 rfl rfl ?_
          refine z_lload_n hC (q := 1) dX8_wordOf_51 rfl rfl ?_
          refine z_lcmp hC dX8_wordOf_52 ?_
          refine z_if_ne hC (tgt := 59) dX8_wordOf_53 (by decide) (fun hc => ?_) (fun hc => ?_)
          · have h := h.1 hc
            refine z_lconst hC (v := 0) k_lconst_0 dX8_wordOf_59 ?_
            refine z_lstore_n hC (lv1 := [(2, .long 0), (6, .int v2), (0, .long x0), (4, .int x4), (5, .int x5)]) dX8_wordOf_60 rfl (by decide) rfl ?_
            obtain ⟨v3, ev3⟩ : ∃ y : Int32, y = x4 + 1 := ⟨_, rfl⟩
            have h := h v3 ev3
            refine z_iinc hC (q := 3) (v := v3) (lv1 := [(4, .int v3), (2, .long 0), (6, .int v2), (0, .long x0), (5, .int x5)]) dX8_wordOf_61 rfl (by rw [ev3, k_iinc_1]) (by decide) rfl ?_
            obtain ⟨v4, ev4⟩ : ∃ y : Int32, y = x5 + 1 := ⟨_, rfl⟩
            have h := h v4 ev4
            refine z_iinc hC (q := 4) (v := v4) (lv1 := [(5, .int v4), (4, .int v3), (2, .long 0), (6, .int v2), (0, .long x0)]) dX8_wordOf_64 rfl (by rw [ev4, k_iinc_1]) (by decide) rfl ?_
            refine z_goto hC (tgt := 8) dX8_wordOf_67 (by decide) ?_
            exact z_sub [(0, .long x0), (2, .long 0), (4, .int v3), (5, .int v4)] [4, 2, 1, 0] rfl (hC8 _ _ _ _ h)
          · have h := h.2 hc
            refine z_iload hC (q := 3) dX8_wordOf_56 rfl ?_
            exact z_iret hC dX8_wordOf_58 ⟨_, rfl, rfl, rfl, rfl, rfl, rfl, h⟩
        · have h := h.2 hc
          refine z_lload_n hC (q := 2) dX8_wordOf_34 rfl rfl ?_
          refine z_ldc2 hC cst_RX8_70 dX8_wordOf_35 ?_
          refine z_lmul hC dX8_wordOf_38 ?_
          refine z_iload hC (q := 0) dX8_wordOf_39 rfl ?_
          refine z_bipush hC (v := 96) k_bipush_96 dX8_wordOf_41 ?_
          refine z_isub hC dX8_wordOf_43 ?_
          refine z_i2l hC dX8_wordOf_44 ?_
          refine z_ladd hC dX8_wordOf_45 ?_
          refine z_topl (fun v5 ev5 => ?_)
          have h := h v5 ev5
          refine z_lstore_n hC (lv1 := [(2, .long v5), (6, .int v2), (0, .long x0), (4, .int x4), (5, .int x5)]) dX8_wordOf_46 rfl (by decide) rfl ?_
          refine z_goto hC (tgt := 64) dX8_wordOf_47 (by decide) ?_
          obtain ⟨v6, ev6⟩ : ∃ y : Int32, y = x5 + 1 := ⟨_, rfl⟩
          have h := h v6 ev6
          refine z_iinc hC (q := 4) (v := v6) (lv1 := [(5, .int v6), (2, .long v5), (6, .int v2), (0, .long x0), (4, .int x4)]) dX8_wordOf_64 rfl (by rw [ev6, k_iinc_1]) (by decide) rfl ?_
          refine z_goto hC (tgt := 8) dX8_wordOf_67 (by decide) ?_
          exact z_sub [(0, .long x0), (2, .long v5), (4, .int x4), (5, .int v6)] [3, 1, 4, 0] rfl (hC8 _ _ _ _ h)
  exact key n x0 x2 x4 x5 h0
set_option maxHeartbeats 4000000 in
set_option maxRecDepth 100000 in
theorem c_X8_wordOf  (l : Launch) (G : ZG) (a0 : Int64) (K : MK) (N : MK) (I : MI) (L : ML) (R : MR) (Q : Int32 → Prop) (h : w_X8_wordOf a0 K N I L R Q) : Met l yX8_wordOf (.code yX8_wordOf cX8_wordOf 7 (some .int) :: z_tbl) rm_X8_wordOf (z_Pc G [.long a0] K N I L R) (z_Qc G (qPi K N I L R Q)) 0 0 (z_A G) := by
  refine z_met (by decide) (Nat.le_of_ble_eq_true rfl) (fun X hX hRm hC0 hnm => ?_)
  subst hX
  have hC : ZOk X G RX8 cX8_wordOf 7 (some .int) := hC0
  show Z X G 7 0 0 _ K N I L R 0 [(0, .long a0)] []
  delta w_X8_wordOf at h
  refine z_lconst hC (v := 0) k_lconst_0 dX8_wordOf_0 ?_
  refine z_lstore_n hC (lv1 := [(2, .long 0), (0, .long a0)]) dX8_wordOf_1 rfl (by decide) rfl ?_
  refine z_iconst hC (v := 0) k_iconst_0 dX8_wordOf_2 ?_
  refine z_istore hC (lv1 := [(4, .int 0), (2, .long 0), (0, .long a0)]) dX8_wordOf_3 (by decide) rfl ?_
  refine z_iconst hC (v := 0) k_iconst_0 dX8_wordOf_5 ?_
  refine z_istore hC (lv1 := [(5, .int 0), (4, .int 0), (2, .long 0), (0, .long a0)]) dX8_wordOf_6 (by decide) rfl ?_
  exact z_sub [(0, .long a0), (2, .long 0), (4, .int 0), (5, .int 0)] [3, 2, 1, 0] rfl (z_X8_wordOf_8 hC hRm h)
def w_X8_readRun_115  (x0 : Nat) (x1 : Int32) (x2 : Int32)  (K : MK) (N : MK) (I : MI) (L : ML) (R : MR)  (Q : MI → ML → Prop) : Prop := (¬ x2 = 0 → (¬ x1 = 0 → K x0 = 9 ∧ ∀ I5 : MI, I5 = mup I x0 4 4 → Q I5 L) ∧ (x1 = 0 → ((3 : Int32) < x2 → K x0 = 9 ∧ ∀ I7 : MI, I7 = mup I x0 4 4 → Q I7 L) ∧ (¬ (3 : Int32) < x2 → K x0 = 9 ∧ ∀ I9 : MI, I9 = mup I x0 4 2 → Q I9 L))) ∧ (x2 = 0 → ((7 : Int32) < x1 → (¬ x1 = 0 → K x0 = 9 ∧ ∀ I11 : MI, I11 = mup I x0 4 4 → Q I11 L) ∧ (x1 = 0 → ((3 : Int32) < x2 → K x0 = 9 ∧ ∀ I13 : MI, I13 = mup I x0 4 4 → Q I13 L) ∧ (¬ (3 : Int32) < x2 → K x0 = 9 ∧ ∀ I15 : MI, I15 = mup I x0 4 2 → Q I15 L))) ∧ (¬ (7 : Int32) < x1 → K x0 = 9 ∧ ∀ I17 : MI, I17 = mup I x0 4 1 → w_X8_wordOf (L x0 6) K N I17 L R (fun r18 => ∀ I19 : MI, I19 = mup I17 x0 7 r18 → Q I19 L)))
def w_X8_readRun_16  (x0 : Nat) (x1 : Int32) (x2 : Int32) (x3 : Int32)  (K : MK) (N : MK) (I : MI) (L : ML) (R : MR)  (Q : MI → ML → Prop) : Prop := ∃ J : Nat → Nat → Int32 → Int32 → Int32 → MI → ML → Prop, (∃ n, J n x0 x1 x2 x3 I L) ∧ ∀ (n : Nat) (x0 : Nat) (x1 : Int32) (x2 : Int32) (x3 : Int32) (I : MI) (L : ML), J n x0 x1 x2 x3 I L → ((940 : Int32) ≤ x3 → w_X8_readRun_115 x0 x1 x2 K N I L R Q) ∧ (¬ (940 : Int32) ≤ x3 → K x0 = 9 ∧ w_X8_byteOf x0 (I x0 3) K N I L R (fun r21 => w_X8_goesOn r21 K N I L R (fun r22 => (r22 = false → w_X8_readRun_115 x0 x1 x2 K N I L R Q) ∧ (r22 = true → w_X8_byteOf x0 (I x0 3) K N I L R (fun r23 => (r23 < 97 → ∀ v24 : Int32, v24 = x2 + 1 → ∀ I25 : MI, I25 = mup I x0 8 (((I x0 8) * 10) + (r23 - 48)) → ∀ I26 : MI, I26 = mup I25 x0 3 ((I25 x0 3) + 1) → ∀ v27 : Int32, v27 = x3 + 1 → ∃ n1, n1 < n ∧ J n1 x0 x1 v24 v27 I26 L) ∧ (¬ r23 < 97 → ∀ v28 : Int32, v28 = x1 + 1 → ∀ L29 : ML, L29 = mup L x0 6 (((L x0 6) * 32) + (Int32.toInt64 (r23 - 96))) → ∀ I30 : MI, I30 = mup I x0 3 ((I x0 3) + 1) → ∀ v31 : Int32, v31 = x3 + 1 → ∃ n1, n1 < n ∧ J n1 x0 v28 x2 v31 I30 L29))))))
def w_X8_readRun  (a0 : Nat) (K : MK) (N : MK) (I : MI) (L : ML) (R : MR) (Q : MI → ML → Prop) : Prop := K a0 = 9 ∧ ∀ L2 : ML, L2 = mup L a0 6 0 → ∀ I3 : MI, I3 = mup I a0 8 0 → w_X8_readRun_16 a0 0 0 0 K N I3 L2 R Q
set_option maxHeartbeats 4000000 in
set_option maxRecDepth 100000 in
theorem z_X8_readRun_115 {X : ZX} {G : ZG}  {x0 : Nat} {x1 : Int32} {x2 : Int32}  {K : MK} {N : MK} {I : MI} {L : ML} {R : MR}  {Q : MI → ML → Prop} (hC : ZOk X G RX8 cX8_readRun 5 none) (hRm : X.2.2.2.1 = rm_X8_readRun) (h : w_X8_readRun_115 x0 x1 x2 K N I L R  Q) : Z X G 5 0 0 (z_T X G (qLv K N R Q) 0 0) K N I L R 115 [(0, .ref x0), (1, .int x1), (2, .int x2)] [] := by
  delta w_X8_readRun_115 at h
  refine z_iload_n hC (q := 2) dX8_readRun_115 rfl rfl ?_
  refine z_if_ne hC (tgt := 144) dX8_readRun_116 (by decide) (fun hc => ?_) (fun hc => ?_)
  · have h := h.1 hc
    refine z_aload_n hC (q := 0) dX8_readRun_144 rfl rfl ?_
    refine z_iload_n hC (q := 1) dX8_readRun_145 rfl rfl ?_
    refine z_if_ne hC (tgt := 158) dX8_readRun_146 (by decide) (fun hc => ?_) (fun hc => ?_)
    · have h := h.1 hc
      refine z_iconst hC (v := 4) k_iconst_4 dX8_readRun_158 ?_
      obtain ⟨hk4, h⟩ := h
      refine pf_RX8_25 hC dX8_readRun_159 hk4 ?_
      refine z_genI (fun I5 eI5 => ?_)
      have h := h I5 eI5
      exact z_vret hC dX8_readRun_162 ⟨rfl, rfl, rfl, rfl, h⟩
    · have h := h.2 hc
      refine z_iload_n hC (q := 2) dX8_readRun_149 rfl rfl ?_
      refine z_iconst hC (v := 3) k_iconst_3 dX8_readRun_150 ?_
      refine z_icmp_gt hC (tgt := 158) dX8_readRun_151 (by decide) (fun hc => ?_) (fun hc => ?_)
      · have h := h.1 hc
        refine z_iconst hC (v := 4) k_iconst_4 dX8_readRun_158 ?_
        obtain ⟨hk6, h⟩ := h
        refine pf_RX8_25 hC dX8_readRun_159 hk6 ?_
        refine z_genI (fun I7 eI7 => ?_)
        have h := h I7 eI7
        exact z_vret hC dX8_readRun_162 ⟨rfl, rfl, rfl, rfl, h⟩
      · have h := h.2 hc
        refine z_iconst hC (v := 2) k_iconst_2 dX8_readRun_154 ?_
        refine z_goto hC (tgt := 159) dX8_readRun_155 (by decide) ?_
        obtain ⟨hk8, h⟩ := h
        refine pf_RX8_25 hC dX8_readRun_159 hk8 ?_
        refine z_genI (fun I9 eI9 => ?_)
        have h := h I9 eI9
        exact z_vret hC dX8_readRun_162 ⟨rfl, rfl, rfl, rfl, h⟩
  · have h := h.2 hc
    refine z_iload_n hC (q := 1) dX8_readRun_119 rfl rfl ?_
    refine z_bipush hC (v := 7) k_bipush_7 dX8_readRun_120 ?_
    refine z_icmp_gt hC (tgt := 144) dX8_readRun_122 (by decide) (fun hc => ?_) (fun hc => ?_)
    · have h := h.1 hc
      refine z_aload_n hC (q := 0) dX8_readRun_144 rfl rfl ?_
      refine z_iload_n hC (q := 1) dX8_readRun_145 rfl rfl ?_
      refine z_if_ne hC (tgt := 158) dX8_readRun_146 (by decide) (fun hc => ?_) (fun hc => ?_)
      · have h := h.1 hc
        refine z_iconst hC (v := 4) k_iconst_4 dX8_readRun_158 ?_
        obtain ⟨hk10, h⟩ := h
        refine pf_RX8_25 hC dX8_readRun_159 hk10 ?_
        refine z_genI (fun I11 eI11 => ?_)
        have h := h I11 eI11
        exact z_vret hC dX8_readRun_162 ⟨rfl, rfl, rfl, rfl, h⟩
      · have h := h.2 hc
        refine z_iload_n hC (q := 2) dX8_readRun_149 rfl rfl ?_
        refine z_iconst hC (v := 3) k_iconst_3 dX8_readRun_150 ?_
        refine z_icmp_gt hC (tgt := 158) dX8_readRun_151 (by decide) (fun hc => ?_) (fun hc => ?_)
        · have h := h.1 hc
          refine z_iconst hC (v := 4) k_iconst_4 dX8_readRun_158 ?_
          obtain ⟨hk12, h⟩ := h
          refine pf_RX8_25 hC dX8_readRun_159 hk12 ?_
          refine z_genI (fun I13 eI13 => ?_)
          have h := h I13 eI13
          exact z_vret hC dX8_readRun_162 ⟨rfl, rfl, rfl, rfl, h⟩
        · have h := h.2 hc
          refine z_iconst hC (v := 2) k_iconst_2 dX8_readRun_154 ?_
          refine z_goto hC (tgt := 159) dX8_readRun_155 (by decide) ?_
          obtain ⟨hk14, h⟩ := h
          refine pf_RX8_25 hC dX8_readRun_159 hk14 ?_
          refine z_genI (fun I15 eI15 => ?_)
          have h := h I15 eI15
          exact z_vret hC dX8_readRun_162 ⟨rfl, rfl, rfl, rfl, h⟩
    · have h := h.2 hc
      refine z_aload_n hC (q := 0) dX8_readRun_125 rfl rfl ?_
      refine z_iconst hC (v := 1) k_iconst_1 dX8_readRun_126 ?_
      obtain ⟨hk16, h⟩ := h
      refine pf_RX8_25 hC dX8_readRun_127 hk16 ?_
      refine z_genI (fun I17 eI17 => ?_)
      have h := h I17 eI17
      refine z_aload_n hC (q := 0) dX8_readRun_130 rfl rfl ?_
      refine z_aload_n hC (q := 0) dX8_readRun_131 rfl rfl ?_
      refine gf_RX8_31 hC dX8_readRun_132 hk16 ?_
      refine cl_RX8_72 hC (c_X8_wordOf _ G (L x0 6) K N I17 L R _ h) dX8_readRun_135 (by rw [hRm]; exact ⟨Nat.le_of_ble_eq_true rfl, Nat.le_of_ble_eq_true rfl⟩) ⟨Nat.zero_le _, Nat.zero_le _⟩ (Nat.le_of_ble_eq_true rfl) (z_kPi (fun r18 h => ?_))
      refine pf_RX8_35 hC dX8_readRun_138 hk16 ?_
      refine z_genI (fun I19 eI19 => ?_)
      have h := h I19 eI19
      refine z_goto hC (tgt := 162) dX8_readRun_141 (by decide) ?_
      exact z_vret hC dX8_readRun_162 ⟨rfl, rfl, rfl, rfl, h⟩
set_option maxHeartbeats 4000000 in
set_option maxRecDepth 100000 in
theorem z_X8_readRun_16 {X : ZX} {G : ZG}  {x0 : Nat} {x1 : Int32} {x2 : Int32} {x3 : Int32}  {K : MK} {N : MK} {I : MI} {L : ML} {R : MR}  {Q : MI → ML → Prop} (hC : ZOk X G RX8 cX8_readRun 5 none) (hRm : X.2.2.2.1 = rm_X8_readRun) (h : w_X8_readRun_16 x0 x1 x2 x3 K N I L R  Q) : Z X G 5 0 0 (z_T X G (qLv K N R Q) 0 0) K N I L R 16 [(0, .ref x0), (1, .int x1), (2, .int x2), (3, .int x3)] [] := by
  delta w_X8_readRun_16 at h
  obtain ⟨J, ⟨n, h0⟩, hs⟩ := h
  have key : ∀ (n : Nat) (x0 : Nat) (x1 : Int32) (x2 : Int32) (x3 : Int32) (I : MI) (L : ML), J n x0 x1 x2 x3 I L → Z X G 5 0 0 (z_T X G (qLv K N R Q) 0 0) K N I L R 16 [(0, .ref x0), (1, .int x1), (2, .int x2), (3, .int x3)] [] := by
    intro n
    induction n using Nat.strongRecOn with
    | _ n ih =>
      intro x0 x1 x2 x3 I L hJ
      have hC16 : ∀ (y0 : Nat) (y1 : Int32) (y2 : Int32) (y3 : Int32) (zI : MI) (zL : ML), (∃ n1, n1 < n ∧ J n1 y0 y1 y2 y3 zI zL) → Z X G 5 0 0 (z_T X G (qLv K N R Q) 0 0) K N zI zL R 16 [(0, .ref y0), (1, .int y1), (2, .int y2), (3, .int y3)] [] := fun y0 y1 y2 y3 zI zL ⟨n1, hn1, hj⟩ => ih n1 hn1 y0 y1 y2 y3 zI zL hj
      have h := hs n x0 x1 x2 x3 I L hJ
      refine z_iload_n hC (q := 3) dX8_readRun_16 rfl rfl ?_
      refine z_sipush hC (v := 940) k_sipush_940 dX8_readRun_17 ?_
      refine z_icmp_ge hC (tgt := 115) dX8_readRun_20 (by decide) (fun hc => ?_) (fun hc => ?_)
      · have h := h.1 hc
        exact z_sub [(0, .ref x0), (1, .int x1), (2, .int x2)] [0, 1, 2] rfl (z_X8_readRun_115 hC hRm h)
      · have h := h.2 hc
        refine z_aload_n hC (q := 0) dX8_readRun_23 rfl rfl ?_
        refine z_aload_n hC (q := 0) dX8_readRun_24 rfl rfl ?_
        obtain ⟨hk20, h⟩ := h
        refine gf_RX8_22 hC dX8_readRun_25 hk20 ?_
        refine cl_RX8_53 hC (c_X8_byteOf _ G x0 (I x0 3) K N I L R _ h) hk20 dX8_readRun_28 (by rw [hRm]; exact ⟨Nat.le_of_ble_eq_true rfl, Nat.le_of_ble_eq_true rfl⟩) ⟨Nat.zero_le _, Nat.zero_le _⟩ (Nat.le_of_ble_eq_true rfl) (z_kPi (fun r21 h => ?_))
        refine cl_RX8_61 hC (c_X8_goesOn _ G r21 K N I L R _ h) dX8_readRun_31 (by rw [hRm]; exact ⟨Nat.le_of_ble_eq_true rfl, Nat.le_of_ble_eq_true rfl⟩) ⟨Nat.zero_le _, Nat.zero_le _⟩ (Nat.le_of_ble_eq_true rfl) (z_kPz (fun r22 h => ?_))
        refine z_ifz_eq hC (tgt := 115) dX8_readRun_34 (by decide) (fun hc => ?_) (fun hc => ?_)
        · have h := h.1 hc
          exact z_sub [(0, .ref x0), (1, .int x1), (2, .int x2)] [0, 1, 2] rfl (z_X8_readRun_115 hC hRm h)
        · have h := h.2 hc
          refine z_aload_n hC (q := 0) dX8_readRun_37 rfl rfl ?_
          refine z_aload_n hC (q := 0) dX8_readRun_38 rfl rfl ?_
          refine gf_RX8_22 hC dX8_readRun_39 hk20 ?_
          refine cl_RX8_53 hC (c_X8_byteOf _ G x0 (I x0 3) K N I L R _ h) hk20 dX8_readRun_42 (by rw [hRm]; exact ⟨Nat.le_of_ble_eq_true rfl, Nat.le_of_ble_eq_true rfl⟩) ⟨Nat.zero_le _, Nat.zero_le _⟩ (Nat.le_of_ble_eq_true rfl) (z_kPi (fun r23 h => ?_))
          refine z_istore hC (lv1 := [(4, .int r23), (0, .ref x0), (1, .int x1), (2, .int x2), (3, .int x3)]) dX8_readRun_45 (by decide) rfl ?_
          refine z_iload hC (q := 0) dX8_readRun_47 rfl ?_
          refine z_bipush hC (v := 97) k_bipush_97 dX8_readRun_49 ?_
          refine z_icmp_lt hC (tgt := 79) dX8_readRun_51 (by decide) (fun hc => ?_) (fun hc => ?_)
          · have h := h.1 hc
            obtain ⟨v24, ev24⟩ : ∃ y : Int32, y = x2 + 1 := ⟨_, rfl⟩
            have h := h v24 ev24
            refine z_iinc hC (q := 3) (v := v24) (lv1 := [(2, .int v24), (4, .int r23), (0, .ref x0), (1, .int x1), (3, .int x3)]) dX8_readRun_79 rfl (by rw [ev24, k_iinc_1]) (by decide) rfl ?_
            refine z_aload_n hC (q := 2) dX8_readRun_82 rfl rfl ?_
            refine z_aload_n hC (q := 2) dX8_readRun_83 rfl rfl ?_
            refine gf_RX8_38 hC dX8_readRun_84 hk20 ?_
            refine z_bipush hC (v := 10) k_bipush_10 dX8_readRun_87 ?_
            refine z_imul hC dX8_readRun_89 ?_
            refine z_iload hC (q := 1) dX8_readRun_90 rfl ?_
            refine z_bipush hC (v := 48) k_bipush_48 dX8_readRun_92 ?_
            refine z_isub hC dX8_readRun_94 ?_
            refine z_iadd hC dX8_readRun_95 ?_
            refine pf_RX8_38 hC dX8_readRun_96 hk20 ?_
            refine z_genI (fun I25 eI25 => ?_)
            have h := h I25 eI25
            refine z_aload_n hC (q := 2) dX8_readRun_99 rfl rfl ?_
            refine z_dup hC rfl dX8_readRun_100 ?_
            refine gf_RX8_22 hC dX8_readRun_101 hk20 ?_
            refine z_iconst hC (v := 1) k_iconst_1 dX8_readRun_104 ?_
            refine z_iadd hC dX8_readRun_105 ?_
            refine pf_RX8_22 hC dX8_readRun_106 hk20 ?_
            refine z_genI (fun I26 eI26 => ?_)
            have h := h I26 eI26
            obtain ⟨v27, ev27⟩ : ∃ y : Int32, y = x3 + 1 := ⟨_, rfl⟩
            have h := h v27 ev27
            refine z_iinc hC (q := 4) (v := v27) (lv1 := [(3, .int v27), (2, .int v24), (4, .int r23), (0, .ref x0), (1, .int x1)]) dX8_readRun_109 rfl (by rw [ev27, k_iinc_1]) (by decide) rfl ?_
            refine z_goto hC (tgt := 16) dX8_readRun_112 (by decide) ?_
            exact z_sub [(0, .ref x0), (1, .int x1), (2, .int v24), (3, .int v27)] [3, 4, 1, 0] rfl (hC16 _ _ _ _ _ _ h)
          · have h := h.2 hc
            obtain ⟨v28, ev28⟩ : ∃ y : Int32, y = x1 + 1 := ⟨_, rfl⟩
            have h := h v28 ev28
            refine z_iinc hC (q := 2) (v := v28) (lv1 := [(1, .int v28), (4, .int r23), (0, .ref x0), (2, .int x2), (3, .int x3)]) dX8_readRun_54 rfl (by rw [ev28, k_iinc_1]) (by decide) rfl ?_
            refine z_aload_n hC (q := 2) dX8_readRun_57 rfl rfl ?_
            refine z_aload_n hC (q := 2) dX8_readRun_58 rfl rfl ?_
            refine gf_RX8_31 hC dX8_readRun_59 hk20 ?_
            refine z_ldc2 hC cst_RX8_70 dX8_readRun_62 ?_
            refine z_lmul hC dX8_readRun_65 ?_
            refine z_iload hC (q := 1) dX8_readRun_66 rfl ?_
            refine z_bipush hC (v := 96) k_bipush_96 dX8_readRun_68 ?_
            refine z_isub hC dX8_readRun_70 ?_
            refine z_i2l hC dX8_readRun_71 ?_
            refine z_ladd hC dX8_readRun_72 ?_
            refine pf_RX8_31 hC dX8_readRun_73 hk20 ?_
            refine z_genL (fun L29 eL29 => ?_)
            have h := h L29 eL29
            refine z_goto hC (tgt := 99) dX8_readRun_76 (by decide) ?_
            refine z_aload_n hC (q := 2) dX8_readRun_99 rfl rfl ?_
            refine z_dup hC rfl dX8_readRun_100 ?_
            refine gf_RX8_22 hC dX8_readRun_101 hk20 ?_
            refine z_iconst hC (v := 1) k_iconst_1 dX8_readRun_104 ?_
            refine z_iadd hC dX8_readRun_105 ?_
            refine pf_RX8_22 hC dX8_readRun_106 hk20 ?_
            refine z_genI (fun I30 eI30 => ?_)
            have h := h I30 eI30
            obtain ⟨v31, ev31⟩ : ∃ y : Int32, y = x3 + 1 := ⟨_, rfl⟩
            have h := h v31 ev31
            refine z_iinc hC (q := 4) (v := v31) (lv1 := [(3, .int v31), (1, .int v28), (4, .int r23), (0, .ref x0), (2, .int x2)]) dX8_readRun_109 rfl (by rw [ev31, k_iinc_1]) (by decide) rfl ?_
            refine z_goto hC (tgt := 16) dX8_readRun_112 (by decide) ?_
            exact z_sub [(0, .ref x0), (1, .int v28), (2, .int x2), (3, .int v31)] [3, 1, 4, 0] rfl (hC16 _ _ _ _ _ _ h)
  exact key n x0 x1 x2 x3 I L h0
set_option maxHeartbeats 4000000 in
set_option maxRecDepth 100000 in
theorem c_X8_readRun  (l : Launch) (G : ZG) (a0 : Nat) (K : MK) (N : MK) (I : MI) (L : ML) (R : MR) (Q : MI → ML → Prop) (h : w_X8_readRun a0 K N I L R Q) : Met l yX8_readRun (.code yX8_readRun cX8_readRun 5 none :: z_tbl) rm_X8_readRun (z_Pc G [.ref a0] K N I L R) (z_Qc G (qLv K N R Q)) 0 0 (z_A G) := by
  refine z_met (by decide) (Nat.le_of_ble_eq_true rfl) (fun X hX hRm hC0 hnm => ?_)
  subst hX
  have hC : ZOk X G RX8 cX8_readRun 5 none := hC0
  show Z X G 5 0 0 _ K N I L R 0 [(0, .ref a0)] []
  delta w_X8_readRun at h
  refine z_iconst hC (v := 0) k_iconst_0 dX8_readRun_0 ?_
  refine z_istore_n hC (lv1 := [(1, .int 0), (0, .ref a0)]) dX8_readRun_1 rfl (by decide) rfl ?_
  refine z_iconst hC (v := 0) k_iconst_0 dX8_readRun_2 ?_
  refine z_istore_n hC (lv1 := [(2, .int 0), (1, .int 0), (0, .ref a0)]) dX8_readRun_3 rfl (by decide) rfl ?_
  refine z_aload_n hC (q := 2) dX8_readRun_4 rfl rfl ?_
  refine z_lconst hC (v := 0) k_lconst_0 dX8_readRun_5 ?_
  obtain ⟨hk1, h⟩ := h
  refine pf_RX8_31 hC dX8_readRun_6 hk1 ?_
  refine z_genL (fun L2 eL2 => ?_)
  have h := h L2 eL2
  refine z_aload_n hC (q := 2) dX8_readRun_9 rfl rfl ?_
  refine z_iconst hC (v := 0) k_iconst_0 dX8_readRun_10 ?_
  refine pf_RX8_38 hC dX8_readRun_11 hk1 ?_
  refine z_genI (fun I3 eI3 => ?_)
  have h := h I3 eI3
  refine z_iconst hC (v := 0) k_iconst_0 dX8_readRun_14 ?_
  refine z_istore_n hC (lv1 := [(3, .int 0), (2, .int 0), (1, .int 0), (0, .ref a0)]) dX8_readRun_15 rfl (by decide) rfl ?_
  exact z_sub [(0, .ref a0), (1, .int 0), (2, .int 0), (3, .int 0)] [3, 2, 1, 0] rfl (z_X8_readRun_16 hC hRm h)
def w_X8_isSignByte  (a0 : Int32) (K : MK) (N : MK) (I : MI) (L : ML) (R : MR) (Q : Bool → Prop) : Prop := (a0 = 59 → Q true) ∧ (¬ a0 = 59 → (a0 = 60 → Q true) ∧ (¬ a0 = 60 → (a0 = 61 → Q true) ∧ (¬ a0 = 61 → (a0 = 62 → Q true) ∧ (¬ a0 = 62 → (a0 = 40 → Q true) ∧ (¬ a0 = 40 → (¬ a0 = 41 → Q false) ∧ (a0 = 41 → Q true))))))
set_option maxHeartbeats 4000000 in
set_option maxRecDepth 100000 in
theorem c_X8_isSignByte  (l : Launch) (G : ZG) (a0 : Int32) (K : MK) (N : MK) (I : MI) (L : ML) (R : MR) (Q : Bool → Prop) (h : w_X8_isSignByte a0 K N I L R Q) : Met l yX8_isSignByte (.code yX8_isSignByte cX8_isSignByte 1 (some .boolean) :: z_tbl) rm_X8_isSignByte (z_Pc G [.int a0] K N I L R) (z_Qc G (qPz K N I L R Q)) 0 0 (z_A G) := by
  refine z_met (by decide) (Nat.le_of_ble_eq_true rfl) (fun X hX hRm hC0 hnm => ?_)
  subst hX
  have hC : ZOk X G RX8 cX8_isSignByte 1 (some .boolean) := hC0
  show Z X G 1 0 0 _ K N I L R 0 [(0, .int a0)] []
  delta w_X8_isSignByte at h
  refine z_iload_n hC (q := 0) dX8_isSignByte_0 rfl rfl ?_
  refine z_bipush hC (v := 59) k_bipush_59 dX8_isSignByte_1 ?_
  refine z_icmp_eq hC (tgt := 36) dX8_isSignByte_3 (by decide) (fun hc => ?_) (fun hc => ?_)
  · have h := h.1 hc
    refine z_iconst hC (v := 1) k_iconst_1 dX8_isSignByte_36 ?_
    refine z_goto hC (tgt := 41) dX8_isSignByte_37 (by decide) ?_
    exact z_zret (b := true) hC dX8_isSignByte_41 rfl ⟨true, rfl, rfl, rfl, rfl, rfl, rfl, h⟩
  · have h := h.2 hc
    refine z_iload_n hC (q := 0) dX8_isSignByte_6 rfl rfl ?_
    refine z_bipush hC (v := 60) k_bipush_60 dX8_isSignByte_7 ?_
    refine z_icmp_eq hC (tgt := 36) dX8_isSignByte_9 (by decide) (fun hc => ?_) (fun hc => ?_)
    · have h := h.1 hc
      refine z_iconst hC (v := 1) k_iconst_1 dX8_isSignByte_36 ?_
      refine z_goto hC (tgt := 41) dX8_isSignByte_37 (by decide) ?_
      exact z_zret (b := true) hC dX8_isSignByte_41 rfl ⟨true, rfl, rfl, rfl, rfl, rfl, rfl, h⟩
    · have h := h.2 hc
      refine z_iload_n hC (q := 0) dX8_isSignByte_12 rfl rfl ?_
      refine z_bipush hC (v := 61) k_bipush_61 dX8_isSignByte_13 ?_
      refine z_icmp_eq hC (tgt := 36) dX8_isSignByte_15 (by decide) (fun hc => ?_) (fun hc => ?_)
      · have h := h.1 hc
        refine z_iconst hC (v := 1) k_iconst_1 dX8_isSignByte_36 ?_
        refine z_goto hC (tgt := 41) dX8_isSignByte_37 (by decide) ?_
        exact z_zret (b := true) hC dX8_isSignByte_41 rfl ⟨true, rfl, rfl, rfl, rfl, rfl, rfl, h⟩
      · have h := h.2 hc
        refine z_iload_n hC (q := 0) dX8_isSignByte_18 rfl rfl ?_
        refine z_bipush hC (v := 62) k_bipush_62 dX8_isSignByte_19 ?_
        refine z_icmp_eq hC (tgt := 36) dX8_isSignByte_21 (by decide) (fun hc => ?_) (fun hc => ?_)
        · have h := h.1 hc
          refine z_iconst hC (v := 1) k_iconst_1 dX8_isSignByte_36 ?_
          refine z_goto hC (tgt := 41) dX8_isSignByte_37 (by decide) ?_
          exact z_zret (b := true) hC dX8_isSignByte_41 rfl ⟨true, rfl, rfl, rfl, rfl, rfl, rfl, h⟩
        · have h := h.2 hc
          refine z_iload_n hC (q := 0) dX8_isSignByte_24 rfl rfl ?_
          refine z_bipush hC (v := 40) k_bipush_40 dX8_isSignByte_25 ?_
          refine z_icmp_eq hC (tgt := 36) dX8_isSignByte_27 (by decide) (fun hc => ?_) (fun hc => ?_)
          · have h := h.1 hc
            refine z_iconst hC (v := 1) k_iconst_1 dX8_isSignByte_36 ?_
            refine z_goto hC (tgt := 41) dX8_isSignByte_37 (by decide) ?_
            exact z_zret (b := true) hC dX8_isSignByte_41 rfl ⟨true, rfl, rfl, rfl, rfl, rfl, rfl, h⟩
          · have h := h.2 hc
            refine z_iload_n hC (q := 0) dX8_isSignByte_30 rfl rfl ?_
            refine z_bipush hC (v := 41) k_bipush_41 dX8_isSignByte_31 ?_
            refine z_icmp_ne hC (tgt := 40) dX8_isSignByte_33 (by decide) (fun hc => ?_) (fun hc => ?_)
            · have h := h.1 hc
              refine z_iconst hC (v := 0) k_iconst_0 dX8_isSignByte_40 ?_
              exact z_zret (b := false) hC dX8_isSignByte_41 rfl ⟨false, rfl, rfl, rfl, rfl, rfl, rfl, h⟩
            · have h := h.2 hc
              refine z_iconst hC (v := 1) k_iconst_1 dX8_isSignByte_36 ?_
              refine z_goto hC (tgt := 41) dX8_isSignByte_37 (by decide) ?_
              exact z_zret (b := true) hC dX8_isSignByte_41 rfl ⟨true, rfl, rfl, rfl, rfl, rfl, rfl, h⟩
def w_X8_advance_85  (x0 : Nat)  (K : MK) (N : MK) (I : MI) (L : ML) (R : MR)  (Q : MI → ML → Prop) : Prop := K x0 = 9 ∧ ((I x0 3) < (I x0 1) → w_X8_byteOf x0 (I x0 3) K N I L R (fun r4 => w_X8_goesOn r4 K N I L R (fun r5 => (r5 = false → w_X8_byteOf x0 (I x0 3) K N I L R (fun r6 => ∀ I7 : MI, I7 = mup I x0 9 r6 → w_X8_isSignByte (I7 x0 9) K N I7 L R (fun r8 => (r8 = false → ∀ I9 : MI, I9 = mup I7 x0 4 4 → ∀ I10 : MI, I10 = mup I9 x0 3 ((I9 x0 3) + 1) → Q I10 L) ∧ (r8 = true → ∀ I11 : MI, I11 = mup I7 x0 4 3 → ∀ I12 : MI, I12 = mup I11 x0 3 ((I11 x0 3) + 1) → Q I12 L)))) ∧ (r5 = true → w_X8_readRun x0 K N I L R (fun I13 L14 => Q I13 L14))))) ∧ (¬ (I x0 3) < (I x0 1) → ∀ I15 : MI, I15 = mup I x0 4 0 → Q I15 L)
def w_X8_advance_39  (x0 : Nat)  (K : MK) (N : MK) (I : MI) (L : ML) (R : MR)  (Q : MI → ML → Prop) : Prop := K x0 = 9 ∧ ∀ I2 : MI, I2 = mup I x0 5 (I x0 3) → ((I2 x0 1) ≤ (I2 x0 2) → w_X8_advance_85 x0 K N I2 L R Q) ∧ (¬ (I2 x0 1) ≤ (I2 x0 2) → ((I2 x0 3) < (I2 x0 2) → w_X8_advance_85 x0 K N I2 L R Q) ∧ (¬ (I2 x0 3) < (I2 x0 2) → ∀ I16 : MI, I16 = mup I2 x0 5 (I2 x0 2) → ∀ I17 : MI, I17 = mup I16 x0 4 4 → Q I17 L))
def w_X8_advance_2  (x0 : Nat) (x1 : Int32)  (K : MK) (N : MK) (I : MI) (L : ML) (R : MR)  (Q : MI → ML → Prop) : Prop := ∃ J : Nat → Nat → Int32 → MI → ML → Prop, (∃ n, J n x0 x1 I L) ∧ ∀ (n : Nat) (x0 : Nat) (x1 : Int32) (I : MI) (L : ML), J n x0 x1 I L → ((940 : Int32) ≤ x1 → w_X8_advance_39 x0 K N I L R Q) ∧ (¬ (940 : Int32) ≤ x1 → K x0 = 9 ∧ w_X8_byteOf x0 (I x0 3) K N I L R (fun r19 => w_X8_isBlank r19 K N I L R (fun r20 => (r20 = false → w_X8_advance_39 x0 K N I L R Q) ∧ (r20 = true → ∀ I21 : MI, I21 = mup I x0 3 ((I x0 3) + 1) → ∀ v22 : Int32, v22 = x1 + 1 → ∃ n1, n1 < n ∧ J n1 x0 v22 I21 L))))
def w_X8_advance  (a0 : Nat) (K : MK) (N : MK) (I : MI) (L : ML) (R : MR) (Q : MI → ML → Prop) : Prop := w_X8_advance_2 a0 0 K N I L R Q
set_option maxHeartbeats 4000000 in
set_option maxRecDepth 100000 in
theorem z_X8_advance_85 {X : ZX} {G : ZG}  {x0 : Nat}  {K : MK} {N : MK} {I : MI} {L : ML} {R : MR}  {Q : MI → ML → Prop} (hC : ZOk X G RX8 cX8_advance 2 none) (hRm : X.2.2.2.1 = rm_X8_advance) (h : w_X8_advance_85 x0 K N I L R  Q) : Z X G 2 0 0 (z_T X G (qLv K N R Q) 0 0) K N I L R 85 [(0, .ref x0)] [] := by
  delta w_X8_advance_85 at h
  refine z_aload_n hC (q := 0) dX8_advance_85 rfl rfl ?_
  obtain ⟨hk3, h⟩ := h
  refine gf_RX8_22 hC dX8_advance_86 hk3 ?_
  refine z_aload_n hC (q := 0) dX8_advance_89 rfl rfl ?_
  refine gf_RX8_15 hC dX8_advance_90 hk3 ?_
  refine z_icmp_lt hC (tgt := 104) dX8_advance_93 (by decide) (fun hc => ?_) (fun hc => ?_)
  · have h := h.1 hc
    refine z_aload_n hC (q := 0) dX8_advance_104 rfl rfl ?_
    refine z_aload_n hC (q := 0) dX8_advance_105 rfl rfl ?_
    refine gf_RX8_22 hC dX8_advance_106 hk3 ?_
    refine cl_RX8_53 hC (c_X8_byteOf _ G x0 (I x0 3) K N I L R _ h) hk3 dX8_advance_109 (by rw [hRm]; exact ⟨Nat.le_of_ble_eq_true rfl, Nat.le_of_ble_eq_true rfl⟩) ⟨Nat.zero_le _, Nat.zero_le _⟩ (Nat.le_of_ble_eq_true rfl) (z_kPi (fun r4 h => ?_))
    refine cl_RX8_61 hC (c_X8_goesOn _ G r4 K N I L R _ h) dX8_advance_112 (by rw [hRm]; exact ⟨Nat.le_of_ble_eq_true rfl, Nat.le_of_ble_eq_true rfl⟩) ⟨Nat.zero_le _, Nat.zero_le _⟩ (Nat.le_of_ble_eq_true rfl) (z_kPz (fun r5 h => ?_))
    refine z_ifz_eq hC (tgt := 125) dX8_advance_115 (by decide) (fun hc => ?_) (fun hc => ?_)
    · have h := h.1 hc
      refine z_aload_n hC (q := 0) dX8_advance_125 rfl rfl ?_
      refine z_aload_n hC (q := 0) dX8_advance_126 rfl rfl ?_
      refine z_aload_n hC (q := 0) dX8_advance_127 rfl rfl ?_
      refine gf_RX8_22 hC dX8_advance_128 hk3 ?_
      refine cl_RX8_53 hC (c_X8_byteOf _ G x0 (I x0 3) K N I L R _ h) hk3 dX8_advance_131 (by rw [hRm]; exact ⟨Nat.le_of_ble_eq_true rfl, Nat.le_of_ble_eq_true rfl⟩) ⟨Nat.zero_le _, Nat.zero_le _⟩ (Nat.le_of_ble_eq_true rfl) (z_kPi (fun r6 h => ?_))
      refine pf_RX8_41 hC dX8_advance_134 hk3 ?_
      refine z_genI (fun I7 eI7 => ?_)
      have h := h I7 eI7
      refine z_aload_n hC (q := 0) dX8_advance_137 rfl rfl ?_
      refine z_aload_n hC (q := 0) dX8_advance_138 rfl rfl ?_
      refine gf_RX8_41 hC dX8_advance_139 hk3 ?_
      refine cl_RX8_67 hC (c_X8_isSignByte _ G (I7 x0 9) K N I7 L R _ h) dX8_advance_142 (by rw [hRm]; exact ⟨Nat.le_of_ble_eq_true rfl, Nat.le_of_ble_eq_true rfl⟩) ⟨Nat.zero_le _, Nat.zero_le _⟩ (Nat.le_of_ble_eq_true rfl) (z_kPz (fun r8 h => ?_))
      refine z_ifz_eq hC (tgt := 152) dX8_advance_145 (by decide) (fun hc => ?_) (fun hc => ?_)
      · have h := h.1 hc
        refine z_iconst hC (v := 4) k_iconst_4 dX8_advance_152 ?_
        refine pf_RX8_25 hC dX8_advance_153 hk3 ?_
        refine z_genI (fun I9 eI9 => ?_)
        have h := h I9 eI9
        refine z_aload_n hC (q := 0) dX8_advance_156 rfl rfl ?_
        refine z_dup hC rfl dX8_advance_157 ?_
        refine gf_RX8_22 hC dX8_advance_158 hk3 ?_
        refine z_iconst hC (v := 1) k_iconst_1 dX8_advance_161 ?_
        refine z_iadd hC dX8_advance_162 ?_
        refine pf_RX8_22 hC dX8_advance_163 hk3 ?_
        refine z_genI (fun I10 eI10 => ?_)
        have h := h I10 eI10
        exact z_vret hC dX8_advance_166 ⟨rfl, rfl, rfl, rfl, h⟩
      · have h := h.2 hc
        refine z_iconst hC (v := 3) k_iconst_3 dX8_advance_148 ?_
        refine z_goto hC (tgt := 153) dX8_advance_149 (by decide) ?_
        refine pf_RX8_25 hC dX8_advance_153 hk3 ?_
        refine z_genI (fun I11 eI11 => ?_)
        have h := h I11 eI11
        refine z_aload_n hC (q := 0) dX8_advance_156 rfl rfl ?_
        refine z_dup hC rfl dX8_advance_157 ?_
        refine gf_RX8_22 hC dX8_advance_158 hk3 ?_
        refine z_iconst hC (v := 1) k_iconst_1 dX8_advance_161 ?_
        refine z_iadd hC dX8_advance_162 ?_
        refine pf_RX8_22 hC dX8_advance_163 hk3 ?_
        refine z_genI (fun I12 eI12 => ?_)
        have h := h I12 eI12
        exact z_vret hC dX8_advance_166 ⟨rfl, rfl, rfl, rfl, h⟩
    · have h := h.2 hc
      refine z_aload_n hC (q := 0) dX8_advance_118 rfl rfl ?_
      refine cl_RX8_64 hC (c_X8_readRun _ G x0 K N I L R _ h) hk3 dX8_advance_119 (by rw [hRm]; exact ⟨Nat.le_of_ble_eq_true rfl, Nat.le_of_ble_eq_true rfl⟩) ⟨Nat.zero_le _, Nat.zero_le _⟩ (Nat.le_of_ble_eq_true rfl) (z_kLv (I := I) (L := L) (fun I13 L14 h => ?_))
      refine z_goto hC (tgt := 166) dX8_advance_122 (by decide) ?_
      exact z_vret hC dX8_advance_166 ⟨rfl, rfl, rfl, rfl, h⟩
  · have h := h.2 hc
    refine z_aload_n hC (q := 0) dX8_advance_96 rfl rfl ?_
    refine z_iconst hC (v := 0) k_iconst_0 dX8_advance_97 ?_
    refine pf_RX8_25 hC dX8_advance_98 hk3 ?_
    refine z_genI (fun I15 eI15 => ?_)
    have h := h I15 eI15
    refine z_goto hC (tgt := 166) dX8_advance_101 (by decide) ?_
    exact z_vret hC dX8_advance_166 ⟨rfl, rfl, rfl, rfl, h⟩
set_option maxHeartbeats 4000000 in
set_option maxRecDepth 100000 in
theorem z_X8_advance_39 {X : ZX} {G : ZG}  {x0 : Nat}  {K : MK} {N : MK} {I : MI} {L : ML} {R : MR}  {Q : MI → ML → Prop} (hC : ZOk X G RX8 cX8_advance 2 none) (hRm : X.2.2.2.1 = rm_X8_advance) (h : w_X8_advance_39 x0 K N I L R  Q) : Z X G 2 0 0 (z_T X G (qLv K N R Q) 0 0) K N I L R 39 [(0, .ref x0)] [] := by
  delta w_X8_advance_39 at h
  refine z_aload_n hC (q := 0) dX8_advance_39 rfl rfl ?_
  refine z_aload_n hC (q := 0) dX8_advance_40 rfl rfl ?_
  obtain ⟨hk1, h⟩ := h
  refine gf_RX8_22 hC dX8_advance_41 hk1 ?_
  refine pf_RX8_28 hC dX8_advance_44 hk1 ?_
  refine z_genI (fun I2 eI2 => ?_)
  have h := h I2 eI2
  refine z_aload_n hC (q := 0) dX8_advance_47 rfl rfl ?_
  refine gf_RX8_15 hC dX8_advance_48 hk1 ?_
  refine z_aload_n hC (q := 0) dX8_advance_51 rfl rfl ?_
  refine gf_RX8_19 hC dX8_advance_52 hk1 ?_
  refine z_icmp_le hC (tgt := 85) dX8_advance_55 (by decide) (fun hc => ?_) (fun hc => ?_)
  · have h := h.1 hc
    exact z_sub [(0, .ref x0)] [0] rfl (z_X8_advance_85 hC hRm h)
  · have h := h.2 hc
    refine z_aload_n hC (q := 0) dX8_advance_58 rfl rfl ?_
    refine gf_RX8_22 hC dX8_advance_59 hk1 ?_
    refine z_aload_n hC (q := 0) dX8_advance_62 rfl rfl ?_
    refine gf_RX8_19 hC dX8_advance_63 hk1 ?_
    refine z_icmp_lt hC (tgt := 85) dX8_advance_66 (by decide) (fun hc => ?_) (fun hc => ?_)
    · have h := h.1 hc
      exact z_sub [(0, .ref x0)] [0] rfl (z_X8_advance_85 hC hRm h)
    · have h := h.2 hc
      refine z_aload_n hC (q := 0) dX8_advance_69 rfl rfl ?_
      refine z_aload_n hC (q := 0) dX8_advance_70 rfl rfl ?_
      refine gf_RX8_19 hC dX8_advance_71 hk1 ?_
      refine pf_RX8_28 hC dX8_advance_74 hk1 ?_
      refine z_genI (fun I16 eI16 => ?_)
      have h := h I16 eI16
      refine z_aload_n hC (q := 0) dX8_advance_77 rfl rfl ?_
      refine z_iconst hC (v := 4) k_iconst_4 dX8_advance_78 ?_
      refine pf_RX8_25 hC dX8_advance_79 hk1 ?_
      refine z_genI (fun I17 eI17 => ?_)
      have h := h I17 eI17
      refine z_goto hC (tgt := 166) dX8_advance_82 (by decide) ?_
      exact z_vret hC dX8_advance_166 ⟨rfl, rfl, rfl, rfl, h⟩
set_option maxHeartbeats 4000000 in
set_option maxRecDepth 100000 in
theorem z_X8_advance_2 {X : ZX} {G : ZG}  {x0 : Nat} {x1 : Int32}  {K : MK} {N : MK} {I : MI} {L : ML} {R : MR}  {Q : MI → ML → Prop} (hC : ZOk X G RX8 cX8_advance 2 none) (hRm : X.2.2.2.1 = rm_X8_advance) (h : w_X8_advance_2 x0 x1 K N I L R  Q) : Z X G 2 0 0 (z_T X G (qLv K N R Q) 0 0) K N I L R 2 [(0, .ref x0), (1, .int x1)] [] := by
  delta w_X8_advance_2 at h
  obtain ⟨J, ⟨n, h0⟩, hs⟩ := h
  have key : ∀ (n : Nat) (x0 : Nat) (x1 : Int32) (I : MI) (L : ML), J n x0 x1 I L → Z X G 2 0 0 (z_T X G (qLv K N R Q) 0 0) K N I L R 2 [(0, .ref x0), (1, .int x1)] [] := by
    intro n
    induction n using Nat.strongRecOn with
    | _ n ih =>
      intro x0 x1 I L hJ
      have hC2 : ∀ (y0 : Nat) (y1 : Int32) (zI : MI) (zL : ML), (∃ n1, n1 < n ∧ J n1 y0 y1 zI zL) → Z X G 2 0 0 (z_T X G (qLv K N R Q) 0 0) K N zI zL R 2 [(0, .ref y0), (1, .int y1)] [] := fun y0 y1 zI zL ⟨n1, hn1, hj⟩ => ih n1 hn1 y0 y1 zI zL hj
      have h := hs n x0 x1 I L hJ
      refine z_iload_n hC (q := 1) dX8_advance_2 rfl rfl ?_
      refine z_sipush hC (v := 940) k_sipush_940 dX8_advance_3 ?_
      refine z_icmp_ge hC (tgt := 39) dX8_advance_6 (by decide) (fun hc => ?_) (fun hc => ?_)
      · have h := h.1 hc
        exact z_sub [(0, .ref x0)] [0] rfl (z_X8_advance_39 hC hRm h)
      · have h := h.2 hc
        refine z_aload_n hC (q := 0) dX8_advance_9 rfl rfl ?_
        refine z_aload_n hC (q := 0) dX8_advance_10 rfl rfl ?_
        obtain ⟨hk18, h⟩ := h
        refine gf_RX8_22 hC dX8_advance_11 hk18 ?_
        refine cl_RX8_53 hC (c_X8_byteOf _ G x0 (I x0 3) K N I L R _ h) hk18 dX8_advance_14 (by rw [hRm]; exact ⟨Nat.le_of_ble_eq_true rfl, Nat.le_of_ble_eq_true rfl⟩) ⟨Nat.zero_le _, Nat.zero_le _⟩ (Nat.le_of_ble_eq_true rfl) (z_kPi (fun r19 h => ?_))
        refine cl_RX8_57 hC (c_X8_isBlank _ G r19 K N I L R _ h) dX8_advance_17 (by rw [hRm]; exact ⟨Nat.le_of_ble_eq_true rfl, Nat.le_of_ble_eq_true rfl⟩) ⟨Nat.zero_le _, Nat.zero_le _⟩ (Nat.le_of_ble_eq_true rfl) (z_kPz (fun r20 h => ?_))
        refine z_ifz_eq hC (tgt := 39) dX8_advance_20 (by decide) (fun hc => ?_) (fun hc => ?_)
        · have h := h.1 hc
          exact z_sub [(0, .ref x0)] [0] rfl (z_X8_advance_39 hC hRm h)
        · have h := h.2 hc
          refine z_aload_n hC (q := 0) dX8_advance_23 rfl rfl ?_
          refine z_dup hC rfl dX8_advance_24 ?_
          refine gf_RX8_22 hC dX8_advance_25 hk18 ?_
          refine z_iconst hC (v := 1) k_iconst_1 dX8_advance_28 ?_
          refine z_iadd hC dX8_advance_29 ?_
          refine pf_RX8_22 hC dX8_advance_30 hk18 ?_
          refine z_genI (fun I21 eI21 => ?_)
          have h := h I21 eI21
          obtain ⟨v22, ev22⟩ : ∃ y : Int32, y = x1 + 1 := ⟨_, rfl⟩
          have h := h v22 ev22
          refine z_iinc hC (q := 1) (v := v22) (lv1 := [(1, .int v22), (0, .ref x0)]) dX8_advance_33 rfl (by rw [ev22, k_iinc_1]) (by decide) rfl ?_
          refine z_goto hC (tgt := 2) dX8_advance_36 (by decide) ?_
          exact z_sub [(0, .ref x0), (1, .int v22)] [1, 0] rfl (hC2 _ _ _ _ h)
  exact key n x0 x1 I L h0
set_option maxHeartbeats 4000000 in
set_option maxRecDepth 100000 in
theorem c_X8_advance  (l : Launch) (G : ZG) (a0 : Nat) (K : MK) (N : MK) (I : MI) (L : ML) (R : MR) (Q : MI → ML → Prop) (h : w_X8_advance a0 K N I L R Q) : Met l yX8_advance (.code yX8_advance cX8_advance 2 none :: z_tbl) rm_X8_advance (z_Pc G [.ref a0] K N I L R) (z_Qc G (qLv K N R Q)) 0 0 (z_A G) := by
  refine z_met (by decide) (Nat.le_of_ble_eq_true rfl) (fun X hX hRm hC0 hnm => ?_)
  subst hX
  have hC : ZOk X G RX8 cX8_advance 2 none := hC0
  show Z X G 2 0 0 _ K N I L R 0 [(0, .ref a0)] []
  delta w_X8_advance at h
  refine z_iconst hC (v := 0) k_iconst_0 dX8_advance_0 ?_
  refine z_istore_n hC (lv1 := [(1, .int 0), (0, .ref a0)]) dX8_advance_1 rfl (by decide) rfl ?_
  exact z_sub [(0, .ref a0), (1, .int 0)] [1, 0] rfl (z_X8_advance_2 hC hRm h)
def w_X8_begin  (a0 : Nat) (a1 : Int32) (K : MK) (N : MK) (I : MI) (L : ML) (R : MR) (Q : MI → ML → Prop) : Prop := K a0 = 9 ∧ ∀ I2 : MI, I2 = mup I a0 2 a1 → ∀ I3 : MI, I3 = mup I2 a0 10 0 → ∀ I4 : MI, I4 = mup I3 a0 3 0 → w_X8_advance a0 K N I4 L R (fun I5 L6 => Q I5 L6)
set_option maxHeartbeats 4000000 in
set_option maxRecDepth 100000 in
theorem c_X8_begin  (l : Launch) (G : ZG) (a0 : Nat) (a1 : Int32) (K : MK) (N : MK) (I : MI) (L : ML) (R : MR) (Q : MI → ML → Prop) (h : w_X8_begin a0 a1 K N I L R Q) : Met l yX8_begin (.code yX8_begin cX8_begin 2 none :: z_tbl) rm_X8_begin (z_Pc G [.ref a0, .int a1] K N I L R) (z_Qc G (qLv K N R Q)) 0 0 (z_A G) := by
  refine z_met (by decide) (Nat.le_of_ble_eq_true rfl) (fun X hX hRm hC0 hnm => ?_)
  subst hX
  have hC : ZOk X G RX8 cX8_begin 2 none := hC0
  show Z X G 2 0 0 _ K N I L R 0 [(0, .ref a0), (1, .int a1)] []
  delta w_X8_begin at h
  refine z_aload_n hC (q := 0) dX8_begin_0 rfl rfl ?_
  refine z_iload_n hC (q := 1) dX8_begin_1 rfl rfl ?_
  obtain ⟨hk1, h⟩ := h
  refine pf_RX8_19 hC dX8_begin_2 hk1 ?_
  refine z_genI (fun I2 eI2 => ?_)
  have h := h I2 eI2
  refine z_aload_n hC (q := 0) dX8_begin_5 rfl rfl ?_
  refine z_iconst hC (v := 0) k_iconst_0 dX8_begin_6 ?_
  refine pf_RX8_44 hC dX8_begin_7 hk1 ?_
  refine z_genI (fun I3 eI3 => ?_)
  have h := h I3 eI3
  refine z_aload_n hC (q := 0) dX8_begin_10 rfl rfl ?_
  refine z_iconst hC (v := 0) k_iconst_0 dX8_begin_11 ?_
  refine pf_RX8_22 hC dX8_begin_12 hk1 ?_
  refine z_genI (fun I4 eI4 => ?_)
  have h := h I4 eI4
  refine z_aload_n hC (q := 0) dX8_begin_15 rfl rfl ?_
  refine cl_RX8_50 hC (c_X8_advance _ G a0 K N I4 L R _ h) hk1 dX8_begin_16 (by rw [hRm]; exact ⟨Nat.le_of_ble_eq_true rfl, Nat.le_of_ble_eq_true rfl⟩) ⟨Nat.zero_le _, Nat.zero_le _⟩ (Nat.le_of_ble_eq_true rfl) (z_kLv (I := I4) (L := L) (fun I5 L6 h => ?_))
  exact z_vret hC dX8_begin_19 ⟨rfl, rfl, rfl, rfl, h⟩
def w_X8_wordHere  (a0 : Nat) (K : MK) (N : MK) (I : MI) (L : ML) (R : MR) (Q : Int32 → Prop) : Prop := K a0 = 9 ∧ (¬ (I a0 4) = 1 → Q (-1)) ∧ ((I a0 4) = 1 → Q (I a0 7))
set_option maxHeartbeats 4000000 in
set_option maxRecDepth 100000 in
theorem c_X8_wordHere  (l : Launch) (G : ZG) (a0 : Nat) (K : MK) (N : MK) (I : MI) (L : ML) (R : MR) (Q : Int32 → Prop) (h : w_X8_wordHere a0 K N I L R Q) : Met l yX8_wordHere (.code yX8_wordHere cX8_wordHere 1 (some .int) :: z_tbl) rm_X8_wordHere (z_Pc G [.ref a0] K N I L R) (z_Qc G (qPi K N I L R Q)) 0 0 (z_A G) := by
  refine z_met (by decide) (Nat.le_of_ble_eq_true rfl) (fun X hX hRm hC0 hnm => ?_)
  subst hX
  have hC : ZOk X G RX8 cX8_wordHere 1 (some .int) := hC0
  show Z X G 1 0 0 _ K N I L R 0 [(0, .ref a0)] []
  delta w_X8_wordHere at h
  refine z_aload_n hC (q := 0) dX8_wordHere_0 rfl rfl ?_
  obtain ⟨hk1, h⟩ := h
  refine gf_RX8_25 hC dX8_wordHere_1 hk1 ?_
  refine z_iconst hC (v := 1) k_iconst_1 dX8_wordHere_4 ?_
  refine z_icmp_ne hC (tgt := 15) dX8_wordHere_5 (by decide) (fun hc => ?_) (fun hc => ?_)
  · have h := h.1 hc
    refine z_iconst hC (v := (-1)) k_iconst_m1 dX8_wordHere_15 ?_
    exact z_iret hC dX8_wordHere_16 ⟨_, rfl, rfl, rfl, rfl, rfl, rfl, h⟩
  · have h := h.2 hc
    refine z_aload_n hC (q := 0) dX8_wordHere_8 rfl rfl ?_
    refine gf_RX8_35 hC dX8_wordHere_9 hk1 ?_
    refine z_goto hC (tgt := 16) dX8_wordHere_12 (by decide) ?_
    exact z_iret hC dX8_wordHere_16 ⟨_, rfl, rfl, rfl, rfl, rfl, rfl, h⟩
def w_X8_fail  (a0 : Nat) (a1 : Int32) (K : MK) (N : MK) (I : MI) (L : ML) (R : MR) (Q : Bool → MI → Prop) : Prop := K a0 = 9 ∧ ∀ I2 : MI, I2 = mup I a0 10 a1 → ∀ I3 : MI, I3 = mup I2 a0 11 (I2 a0 5) → Q false I3
set_option maxHeartbeats 4000000 in
set_option maxRecDepth 100000 in
theorem c_X8_fail  (l : Launch) (G : ZG) (a0 : Nat) (a1 : Int32) (K : MK) (N : MK) (I : MI) (L : ML) (R : MR) (Q : Bool → MI → Prop) (h : w_X8_fail a0 a1 K N I L R Q) : Met l yX8_fail (.code yX8_fail cX8_fail 2 (some .boolean) :: z_tbl) rm_X8_fail (z_Pc G [.ref a0, .int a1] K N I L R) (z_Qc G (qIz K N L R Q)) 0 0 (z_A G) := by
  refine z_met (by decide) (Nat.le_of_ble_eq_true rfl) (fun X hX hRm hC0 hnm => ?_)
  subst hX
  have hC : ZOk X G RX8 cX8_fail 2 (some .boolean) := hC0
  show Z X G 2 0 0 _ K N I L R 0 [(0, .ref a0), (1, .int a1)] []
  delta w_X8_fail at h
  refine z_aload_n hC (q := 0) dX8_fail_0 rfl rfl ?_
  refine z_iload_n hC (q := 1) dX8_fail_1 rfl rfl ?_
  obtain ⟨hk1, h⟩ := h
  refine pf_RX8_44 hC dX8_fail_2 hk1 ?_
  refine z_genI (fun I2 eI2 => ?_)
  have h := h I2 eI2
  refine z_aload_n hC (q := 0) dX8_fail_5 rfl rfl ?_
  refine z_aload_n hC (q := 0) dX8_fail_6 rfl rfl ?_
  refine gf_RX8_28 hC dX8_fail_7 hk1 ?_
  refine pf_RX8_47 hC dX8_fail_10 hk1 ?_
  refine z_genI (fun I3 eI3 => ?_)
  have h := h I3 eI3
  refine z_iconst hC (v := 0) k_iconst_0 dX8_fail_13 ?_
  exact z_zret (b := false) hC dX8_fail_14 rfl ⟨false, rfl, rfl, rfl, rfl, rfl, h⟩
def w_X7_isFull  (a0 : Nat) (K : MK) (N : MK) (I : MI) (L : ML) (R : MR) (Q : Bool → Prop) : Prop := K a0 = 8 ∧ ∃ b2 : Nat, R a0 1 = some b2 ∧ K b2 = 15 ∧ ((I a0 3) < (nI (N b2)) → Q false) ∧ (¬ (I a0 3) < (nI (N b2)) → Q true)
set_option maxHeartbeats 4000000 in
set_option maxRecDepth 100000 in
theorem c_X7_isFull  (l : Launch) (G : ZG) (a0 : Nat) (K : MK) (N : MK) (I : MI) (L : ML) (R : MR) (Q : Bool → Prop) (h : w_X7_isFull a0 K N I L R Q) : Met l yX7_isFull (.code yX7_isFull cX7_isFull 1 (some .boolean) :: z_tbl) rm_X7_isFull (z_Pc G [.ref a0] K N I L R) (z_Qc G (qPz K N I L R Q)) 0 0 (z_A G) := by
  refine z_met (by decide) (Nat.le_of_ble_eq_true rfl) (fun X hX hRm hC0 hnm => ?_)
  subst hX
  have hC : ZOk X G RX7 cX7_isFull 1 (some .boolean) := hC0
  show Z X G 1 0 0 _ K N I L R 0 [(0, .ref a0)] []
  delta w_X7_isFull at h
  refine z_aload_n hC (q := 0) dX7_isFull_0 rfl rfl ?_
  obtain ⟨hk1, h⟩ := h
  refine gf_RX7_9 hC dX7_isFull_1 hk1 ?_
  refine z_aload_n hC (q := 0) dX7_isFull_4 rfl rfl ?_
  obtain ⟨b2, hb2, h⟩ := h
  refine gf_RX7_18 hC dX7_isFull_5 hk1 hb2 ?_
  obtain ⟨hk3, h⟩ := h
  refine z_alen15 hC hk3 dX7_isFull_8 ?_
  refine z_icmp_lt hC (tgt := 16) dX7_isFull_9 (by decide) (fun hc => ?_) (fun hc => ?_)
  · have h := h.1 hc
    refine z_iconst hC (v := 0) k_iconst_0 dX7_isFull_16 ?_
    exact z_zret (b := false) hC dX7_isFull_17 rfl ⟨false, rfl, rfl, rfl, rfl, rfl, rfl, h⟩
  · have h := h.2 hc
    refine z_iconst hC (v := 1) k_iconst_1 dX7_isFull_12 ?_
    refine z_goto hC (tgt := 17) dX7_isFull_13 (by decide) ?_
    exact z_zret (b := true) hC dX7_isFull_17 rfl ⟨true, rfl, rfl, rfl, rfl, rfl, rfl, h⟩
def w_X7_add  (a0 : Nat) (a1 : Int64) (K : MK) (N : MK) (I : MI) (L : ML) (R : MR) (Q : Int32 → MI → ML → Prop) : Prop := K a0 = 8 ∧ ∃ b2 : Nat, R a0 1 = some b2 ∧ K b2 = 15 ∧ ((I a0 3) < (nI (N b2)) → vp_in (I a0 3) (N b2) ∧ ∀ L5 : ML, L5 = mup L b2 (ix (I a0 3)) a1 → ∀ I6 : MI, I6 = mup I a0 3 ((I a0 3) + 1) → Q ((I6 a0 3) - 1) I6 L5) ∧ (¬ (I a0 3) < (nI (N b2)) → Q (-1) I L)
set_option maxHeartbeats 4000000 in
set_option maxRecDepth 100000 in
theorem c_X7_add  (l : Launch) (G : ZG) (a0 : Nat) (a1 : Int64) (K : MK) (N : MK) (I : MI) (L : ML) (R : MR) (Q : Int32 → MI → ML → Prop) (h : w_X7_add a0 a1 K N I L R Q) : Met l yX7_add (.code yX7_add cX7_add 3 (some .int) :: z_tbl) rm_X7_add (z_Pc G [.ref a0, .long a1] K N I L R) (z_Qc G (qLi K N R Q)) 0 0 (z_A G) := by
  refine z_met (by decide) (Nat.le_of_ble_eq_true rfl) (fun X hX hRm hC0 hnm => ?_)
  subst hX
  have hC : ZOk X G RX7 cX7_add 3 (some .int) := hC0
  show Z X G 3 0 0 _ K N I L R 0 [(0, .ref a0), (1, .long a1)] []
  delta w_X7_add at h
  refine z_aload_n hC (q := 0) dX7_add_0 rfl rfl ?_
  obtain ⟨hk1, h⟩ := h
  refine gf_RX7_9 hC dX7_add_1 hk1 ?_
  refine z_aload_n hC (q := 0) dX7_add_4 rfl rfl ?_
  obtain ⟨b2, hb2, h⟩ := h
  refine gf_RX7_18 hC dX7_add_5 hk1 hb2 ?_
  obtain ⟨hk3, h⟩ := h
  refine z_alen15 hC hk3 dX7_add_8 ?_
  refine z_icmp_lt hC (tgt := 14) dX7_add_9 (by decide) (fun hc => ?_) (fun hc => ?_)
  · have h := h.1 hc
    refine z_aload_n hC (q := 0) dX7_add_14 rfl rfl ?_
    refine gf_RX7_18 hC dX7_add_15 hk1 hb2 ?_
    refine z_aload_n hC (q := 0) dX7_add_18 rfl rfl ?_
    refine gf_RX7_9 hC dX7_add_19 hk1 ?_
    refine z_lload_n hC (q := 1) dX7_add_22 rfl rfl ?_
    obtain ⟨hi4, h⟩ := h
    refine z_lastore hC hk3 hi4 dX7_add_23 ?_
    refine z_genL (fun L5 eL5 => ?_)
    have h := h L5 eL5
    refine z_aload_n hC (q := 0) dX7_add_24 rfl rfl ?_
    refine z_dup hC rfl dX7_add_25 ?_
    refine gf_RX7_9 hC dX7_add_26 hk1 ?_
    refine z_iconst hC (v := 1) k_iconst_1 dX7_add_29 ?_
    refine z_iadd hC dX7_add_30 ?_
    refine pf_RX7_9 hC dX7_add_31 hk1 ?_
    refine z_genI (fun I6 eI6 => ?_)
    have h := h I6 eI6
    refine z_aload_n hC (q := 0) dX7_add_34 rfl rfl ?_
    refine gf_RX7_9 hC dX7_add_35 hk1 ?_
    refine z_iconst hC (v := 1) k_iconst_1 dX7_add_38 ?_
    refine z_isub hC dX7_add_39 ?_
    exact z_iret hC dX7_add_40 ⟨_, rfl, rfl, rfl, rfl, h⟩
  · have h := h.2 hc
    refine z_iconst hC (v := (-1)) k_iconst_m1 dX7_add_12 ?_
    exact z_iret hC dX7_add_13 ⟨_, rfl, rfl, rfl, rfl, h⟩
def w_X7_put  (a0 : Nat) (a1 : Int32) (a2 : Int32) (a3 : Int32) (K : MK) (N : MK) (I : MI) (L : ML) (R : MR) (Q : MI → Prop) : Prop := (a1 < 0 → Q I) ∧ (¬ a1 < 0 → K a0 = 8 ∧ ((I a0 3) ≤ a1 → Q I) ∧ (¬ (I a0 3) ≤ a1 → (a2 < 0 → Q I) ∧ (¬ a2 < 0 → ((I a0 0) ≤ a2 → Q I) ∧ (¬ (I a0 0) ≤ a2 → ∃ b2 : Nat, R a0 2 = some b2 ∧ K b2 = 14 ∧ vp_in ((a1 * (I a0 0)) + a2) (N b2) ∧ ∀ I5 : MI, I5 = mup I b2 (ix ((a1 * (I a0 0)) + a2)) a3 → Q I5))))
set_option maxHeartbeats 4000000 in
set_option maxRecDepth 100000 in
theorem c_X7_put  (l : Launch) (G : ZG) (a0 : Nat) (a1 : Int32) (a2 : Int32) (a3 : Int32) (K : MK) (N : MK) (I : MI) (L : ML) (R : MR) (Q : MI → Prop) (h : w_X7_put a0 a1 a2 a3 K N I L R Q) : Met l yX7_put (.code yX7_put cX7_put 4 none :: z_tbl) rm_X7_put (z_Pc G [.ref a0, .int a1, .int a2, .int a3] K N I L R) (z_Qc G (qIv K N L R Q)) 0 0 (z_A G) := by
  refine z_met (by decide) (Nat.le_of_ble_eq_true rfl) (fun X hX hRm hC0 hnm => ?_)
  subst hX
  have hC : ZOk X G RX7 cX7_put 4 none := hC0
  show Z X G 4 0 0 _ K N I L R 0 [(0, .ref a0), (1, .int a1), (2, .int a2), (3, .int a3)] []
  delta w_X7_put at h
  refine z_iload_n hC (q := 1) dX7_put_0 rfl rfl ?_
  refine z_if_lt hC (tgt := 38) dX7_put_1 (by decide) (fun hc => ?_) (fun hc => ?_)
  · have h := h.1 hc
    exact z_vret hC dX7_put_38 ⟨rfl, rfl, rfl, rfl, rfl, h⟩
  · have h := h.2 hc
    refine z_iload_n hC (q := 1) dX7_put_4 rfl rfl ?_
    refine z_aload_n hC (q := 0) dX7_put_5 rfl rfl ?_
    obtain ⟨hk1, h⟩ := h
    refine gf_RX7_9 hC dX7_put_6 hk1 ?_
    refine z_icmp_ge hC (tgt := 38) dX7_put_9 (by decide) (fun hc => ?_) (fun hc => ?_)
    · have h := h.1 hc
      exact z_vret hC dX7_put_38 ⟨rfl, rfl, rfl, rfl, rfl, h⟩
    · have h := h.2 hc
      refine z_iload_n hC (q := 2) dX7_put_12 rfl rfl ?_
      refine z_if_lt hC (tgt := 38) dX7_put_13 (by decide) (fun hc => ?_) (fun hc => ?_)
      · have h := h.1 hc
        exact z_vret hC dX7_put_38 ⟨rfl, rfl, rfl, rfl, rfl, h⟩
      · have h := h.2 hc
        refine z_iload_n hC (q := 2) dX7_put_16 rfl rfl ?_
        refine z_aload_n hC (q := 0) dX7_put_17 rfl rfl ?_
        refine gf_RX7_15 hC dX7_put_18 hk1 ?_
        refine z_icmp_ge hC (tgt := 38) dX7_put_21 (by decide) (fun hc => ?_) (fun hc => ?_)
        · have h := h.1 hc
          exact z_vret hC dX7_put_38 ⟨rfl, rfl, rfl, rfl, rfl, h⟩
        · have h := h.2 hc
          refine z_aload_n hC (q := 0) dX7_put_24 rfl rfl ?_
          obtain ⟨b2, hb2, h⟩ := h
          refine gf_RX7_22 hC dX7_put_25 hk1 hb2 ?_
          refine z_iload_n hC (q := 1) dX7_put_28 rfl rfl ?_
          refine z_aload_n hC (q := 0) dX7_put_29 rfl rfl ?_
          refine gf_RX7_15 hC dX7_put_30 hk1 ?_
          refine z_imul hC dX7_put_33 ?_
          refine z_iload_n hC (q := 2) dX7_put_34 rfl rfl ?_
          refine z_iadd hC dX7_put_35 ?_
          refine z_iload_n hC (q := 3) dX7_put_36 rfl rfl ?_
          obtain ⟨hk3, h⟩ := h
          obtain ⟨hi4, h⟩ := h
          refine z_iastore hC hk3 hi4 dX7_put_37 ?_
          refine z_genI (fun I5 eI5 => ?_)
          have h := h I5 eI5
          exact z_vret hC dX7_put_38 ⟨rfl, rfl, rfl, rfl, rfl, h⟩
def w_X8_needsNumber  (a0 : Nat) (a1 : Int32) (a2 : Int32) (K : MK) (N : MK) (I : MI) (L : ML) (R : MR) (Q : Bool → MI → Prop) : Prop := K a0 = 9 ∧ ((I a0 4) = 2 → ((I a0 8) < a1 → w_X8_fail a0 2 K N I L R (fun r2 I3 => Q r2 I3)) ∧ (¬ (I a0 8) < a1 → ((I a0 8) ≤ a2 → Q true I) ∧ (¬ (I a0 8) ≤ a2 → w_X8_fail a0 2 K N I L R (fun r4 I5 => Q r4 I5)))) ∧ (¬ (I a0 4) = 2 → w_X8_fail a0 1 K N I L R (fun r6 I7 => Q r6 I7))
set_option maxHeartbeats 4000000 in
set_option maxRecDepth 100000 in
theorem c_X8_needsNumber  (l : Launch) (G : ZG) (a0 : Nat) (a1 : Int32) (a2 : Int32) (K : MK) (N : MK) (I : MI) (L : ML) (R : MR) (Q : Bool → MI → Prop) (h : w_X8_needsNumber a0 a1 a2 K N I L R Q) : Met l yX8_needsNumber (.code yX8_needsNumber cX8_needsNumber 3 (some .boolean) :: z_tbl) rm_X8_needsNumber (z_Pc G [.ref a0, .int a1, .int a2] K N I L R) (z_Qc G (qIz K N L R Q)) 0 0 (z_A G) := by
  refine z_met (by decide) (Nat.le_of_ble_eq_true rfl) (fun X hX hRm hC0 hnm => ?_)
  subst hX
  have hC : ZOk X G RX8 cX8_needsNumber 3 (some .boolean) := hC0
  show Z X G 3 0 0 _ K N I L R 0 [(0, .ref a0), (1, .int a1), (2, .int a2)] []
  delta w_X8_needsNumber at h
  refine z_aload_n hC (q := 0) dX8_needsNumber_0 rfl rfl ?_
  obtain ⟨hk1, h⟩ := h
  refine gf_RX8_25 hC dX8_needsNumber_1 hk1 ?_
  refine z_iconst hC (v := 2) k_iconst_2 dX8_needsNumber_4 ?_
  refine z_icmp_eq hC (tgt := 14) dX8_needsNumber_5 (by decide) (fun hc => ?_) (fun hc => ?_)
  · have h := h.1 hc
    refine z_aload_n hC (q := 0) dX8_needsNumber_14 rfl rfl ?_
    refine gf_RX8_38 hC dX8_needsNumber_15 hk1 ?_
    refine z_iload_n hC (q := 1) dX8_needsNumber_18 rfl rfl ?_
    refine z_icmp_lt hC (tgt := 30) dX8_needsNumber_19 (by decide) (fun hc => ?_) (fun hc => ?_)
    · have h := h.1 hc
      refine z_aload_n hC (q := 0) dX8_needsNumber_30 rfl rfl ?_
      refine z_iconst hC (v := 2) k_iconst_2 dX8_needsNumber_31 ?_
      refine cl_RX8_87 hC (c_X8_fail _ G a0 2 K N I L R _ h) hk1 dX8_needsNumber_32 (by rw [hRm]; exact ⟨Nat.le_of_ble_eq_true rfl, Nat.le_of_ble_eq_true rfl⟩) ⟨Nat.zero_le _, Nat.zero_le _⟩ (Nat.le_of_ble_eq_true rfl) (z_kIz (I := I) (fun r2 I3 h => ?_))
      exact z_zret (b := r2) hC dX8_needsNumber_35 rfl ⟨r2, rfl, rfl, rfl, rfl, rfl, h⟩
    · have h := h.2 hc
      refine z_aload_n hC (q := 0) dX8_needsNumber_22 rfl rfl ?_
      refine gf_RX8_38 hC dX8_needsNumber_23 hk1 ?_
      refine z_iload_n hC (q := 2) dX8_needsNumber_26 rfl rfl ?_
      refine z_icmp_le hC (tgt := 36) dX8_needsNumber_27 (by decide) (fun hc => ?_) (fun hc => ?_)
      · have h := h.1 hc
        refine z_iconst hC (v := 1) k_iconst_1 dX8_needsNumber_36 ?_
        exact z_zret (b := true) hC dX8_needsNumber_37 rfl ⟨true, rfl, rfl, rfl, rfl, rfl, h⟩
      · have h := h.2 hc
        refine z_aload_n hC (q := 0) dX8_needsNumber_30 rfl rfl ?_
        refine z_iconst hC (v := 2) k_iconst_2 dX8_needsNumber_31 ?_
        refine cl_RX8_87 hC (c_X8_fail _ G a0 2 K N I L R _ h) hk1 dX8_needsNumber_32 (by rw [hRm]; exact ⟨Nat.le_of_ble_eq_true rfl, Nat.le_of_ble_eq_true rfl⟩) ⟨Nat.zero_le _, Nat.zero_le _⟩ (Nat.le_of_ble_eq_true rfl) (z_kIz (I := I) (fun r4 I5 h => ?_))
        exact z_zret (b := r4) hC dX8_needsNumber_35 rfl ⟨r4, rfl, rfl, rfl, rfl, rfl, h⟩
  · have h := h.2 hc
    refine z_aload_n hC (q := 0) dX8_needsNumber_8 rfl rfl ?_
    refine z_iconst hC (v := 1) k_iconst_1 dX8_needsNumber_9 ?_
    refine cl_RX8_87 hC (c_X8_fail _ G a0 1 K N I L R _ h) hk1 dX8_needsNumber_10 (by rw [hRm]; exact ⟨Nat.le_of_ble_eq_true rfl, Nat.le_of_ble_eq_true rfl⟩) ⟨Nat.zero_le _, Nat.zero_le _⟩ (Nat.le_of_ble_eq_true rfl) (z_kIz (I := I) (fun r6 I7 h => ?_))
    exact z_zret (b := r6) hC dX8_needsNumber_13 rfl ⟨r6, rfl, rfl, rfl, rfl, rfl, h⟩
def w_X0_readNumber  (a0 : Nat) (a1 : Nat) (a2 : Int32) (a3 : Int32) (a4 : Int32) (K : MK) (N : MK) (I : MI) (L : ML) (R : MR) (Q : Bool → MI → ML → Prop) : Prop := K a1 = 9 ∧ w_X8_needsNumber a1 a3 a4 K N I L R (fun r2 I3 => (r2 = true → K a0 = 1 ∧ ∃ b5 : Nat, R a0 0 = some b5 ∧ K b5 = 8 ∧ w_X7_put b5 ((I3 b5 3) - 1) a2 (I3 a1 8) K N I3 L R (fun I7 => w_X8_advance a1 K N I7 L R (fun I8 L9 => Q true I8 L9))) ∧ (r2 = false → Q false I3 L))
set_option maxHeartbeats 4000000 in
set_option maxRecDepth 100000 in
theorem c_X0_readNumber  (l : Launch) (G : ZG) (a0 : Nat) (a1 : Nat) (a2 : Int32) (a3 : Int32) (a4 : Int32) (K : MK) (N : MK) (I : MI) (L : ML) (R : MR) (Q : Bool → MI → ML → Prop) (h : w_X0_readNumber a0 a1 a2 a3 a4 K N I L R Q) : Met l yX0_readNumber (.code yX0_readNumber cX0_readNumber 5 (some .boolean) :: z_tbl) rm_X0_readNumber (z_Pc G [.ref a0, .ref a1, .int a2, .int a3, .int a4] K N I L R) (z_Qc G (qLz K N R Q)) 0 0 (z_A G) := by
  refine z_met (by decide) (Nat.le_of_ble_eq_true rfl) (fun X hX hRm hC0 hnm => ?_)
  subst hX
  have hC : ZOk X G RX0 cX0_readNumber 5 (some .boolean) := hC0
  show Z X G 5 0 0 _ K N I L R 0 [(0, .ref a0), (1, .ref a1), (2, .int a2), (3, .int a3), (4, .int a4)] []
  delta w_X0_readNumber at h
  refine z_aload_n hC (q := 1) dX0_readNumber_0 rfl rfl ?_
  refine z_iload_n hC (q := 3) dX0_readNumber_1 rfl rfl ?_
  refine z_iload hC (q := 4) dX0_readNumber_2 rfl ?_
  obtain ⟨hk1, h⟩ := h
  refine cl_RX0_73 hC (c_X8_needsNumber _ G a1 a3 a4 K N I L R _ h) hk1 dX0_readNumber_4 (by rw [hRm]; exact ⟨Nat.le_of_ble_eq_true rfl, Nat.le_of_ble_eq_true rfl⟩) ⟨Nat.zero_le _, Nat.zero_le _⟩ (Nat.le_of_ble_eq_true rfl) (z_kIz (I := I) (fun r2 I3 h => ?_))
  refine z_ifz_ne hC (tgt := 12) dX0_readNumber_7 (by decide) (fun hc => ?_) (fun hc => ?_)
  · have h := h.1 hc
    refine z_aload_n hC (q := 0) dX0_readNumber_12 rfl rfl ?_
    obtain ⟨hk4, h⟩ := h
    obtain ⟨b5, hb5, h⟩ := h
    refine gf_RX0_14 hC dX0_readNumber_13 hk4 hb5 ?_
    refine z_aload_n hC (q := 0) dX0_readNumber_16 rfl rfl ?_
    refine gf_RX0_14 hC dX0_readNumber_17 hk4 hb5 ?_
    obtain ⟨hk6, h⟩ := h
    refine gf_RX0_77 hC dX0_readNumber_20 hk6 ?_
    refine z_iconst hC (v := 1) k_iconst_1 dX0_readNumber_23 ?_
    refine z_isub hC dX0_readNumber_24 ?_
    refine z_iload_n hC (q := 2) dX0_readNumber_25 rfl rfl ?_
    refine z_aload_n hC (q := 1) dX0_readNumber_26 rfl rfl ?_
    refine gf_RX0_80 hC dX0_readNumber_27 hk1 ?_
    refine cl_RX0_60 hC (c_X7_put _ G b5 ((I3 b5 3) - 1) a2 (I3 a1 8) K N I3 L R _ h) hk6 dX0_readNumber_30 (by rw [hRm]; exact ⟨Nat.le_of_ble_eq_true rfl, Nat.le_of_ble_eq_true rfl⟩) ⟨Nat.zero_le _, Nat.zero_le _⟩ (Nat.le_of_ble_eq_true rfl) (z_kIv (I := I3) (fun I7 h => ?_))
    refine z_aload_n hC (q := 1) dX0_readNumber_33 rfl rfl ?_
    refine cl_RX0_64 hC (c_X8_advance _ G a1 K N I7 L R _ h) hk1 dX0_readNumber_34 (by rw [hRm]; exact ⟨Nat.le_of_ble_eq_true rfl, Nat.le_of_ble_eq_true rfl⟩) ⟨Nat.zero_le _, Nat.zero_le _⟩ (Nat.le_of_ble_eq_true rfl) (z_kLv (I := I7) (L := L) (fun I8 L9 h => ?_))
    refine z_iconst hC (v := 1) k_iconst_1 dX0_readNumber_37 ?_
    exact z_zret (b := true) hC dX0_readNumber_38 rfl ⟨true, rfl, rfl, rfl, rfl, h⟩
  · have h := h.2 hc
    refine z_iconst hC (v := 0) k_iconst_0 dX0_readNumber_10 ?_
    exact z_zret (b := false) hC dX0_readNumber_11 rfl ⟨false, rfl, rfl, rfl, rfl, h⟩
def w_X0_readLine  (a0 : Nat) (a1 : Nat) (K : MK) (N : MK) (I : MI) (L : ML) (R : MR) (Q : Bool → MI → ML → Prop) : Prop := K a1 = 9 ∧ w_X8_wordHere a1 K N I L R (fun r2 => (r2 < 17 → w_X8_fail a1 1 K N I L R (fun r3 I4 => Q r3 I4 L)) ∧ (¬ r2 < 17 → (r2 ≤ 24 → K a0 = 1 ∧ ∃ b6 : Nat, R a0 0 = some b6 ∧ K b6 = 8 ∧ w_X7_isFull b6 K N I L R (fun r8 => (r8 = false → w_X7_add b6 0 K N I L R (fun r9 I10 L11 => w_X7_put b6 r9 0 r2 K N I10 L11 R (fun I12 => w_X8_advance a1 K N I12 L11 R (fun I13 L14 => (r2 = 17 → w_X0_readNumber a0 a1 1 0 7 K N I13 L14 R (fun r15 I16 L17 => (r15 = false → Q false I16 L17) ∧ (r15 = true → w_X0_readNumber a0 a1 2 0 999 K N I16 L17 R (fun r18 I19 L20 => (r18 = false → Q false I19 L20) ∧ (r18 = true → Q true I19 L20))))) ∧ (¬ r2 = 17 → (r2 = 18 → w_X0_readNumber a0 a1 1 0 63 K N I13 L14 R (fun r21 I22 L23 => (r21 = false → Q false I22 L23) ∧ (r21 = true → w_X0_readNumber a0 a1 2 0 999 K N I22 L23 R (fun r24 I25 L26 => (r24 = false → Q false I25 L26) ∧ (r24 = true → Q true I25 L26))))) ∧ (¬ r2 = 18 → (r2 = 19 → w_X0_readNumber a0 a1 1 0 999 K N I13 L14 R (fun r27 I28 L29 => Q r27 I28 L29)) ∧ (¬ r2 = 19 → (r2 = 20 → w_X0_readNumber a0 a1 1 1 250 K N I13 L14 R (fun r30 I31 L32 => Q r30 I31 L32)) ∧ (¬ r2 = 20 → (r2 = 21 → w_X0_readNumber a0 a1 1 1 250 K N I13 L14 R (fun r33 I34 L35 => Q r33 I34 L35)) ∧ (¬ r2 = 21 → Q true I13 L14))))))))) ∧ (r8 = true → w_X8_fail a1 4 K N I L R (fun r36 I37 => Q r36 I37 L)))) ∧ (¬ r2 ≤ 24 → w_X8_fail a1 1 K N I L R (fun r38 I39 => Q r38 I39 L))))
set_option maxHeartbeats 4000000 in
set_option maxRecDepth 100000 in
theorem c_X0_readLine  (l : Launch) (G : ZG) (a0 : Nat) (a1 : Nat) (K : MK) (N : MK) (I : MI) (L : ML) (R : MR) (Q : Bool → MI → ML → Prop) (h : w_X0_readLine a0 a1 K N I L R Q) : Met l yX0_readLine (.code yX0_readLine cX0_readLine 4 (some .boolean) :: z_tbl) rm_X0_readLine (z_Pc G [.ref a0, .ref a1] K N I L R) (z_Qc G (qLz K N R Q)) 0 0 (z_A G) := by
  refine z_met (by decide) (Nat.le_of_ble_eq_true rfl) (fun X hX hRm hC0 hnm => ?_)
  subst hX
  have hC : ZOk X G RX0 cX0_readLine 4 (some .boolean) := hC0
  show Z X G 4 0 0 _ K N I L R 0 [(0, .ref a0), (1, .ref a1)] []
  delta w_X0_readLine at h
  refine z_aload_n hC (q := 1) dX0_readLine_0 rfl rfl ?_
  obtain ⟨hk1, h⟩ := h
  refine cl_RX0_44 hC (c_X8_wordHere _ G a1 K N I L R _ h) hk1 dX0_readLine_1 (by rw [hRm]; exact ⟨Nat.le_of_ble_eq_true rfl, Nat.le_of_ble_eq_true rfl⟩) ⟨Nat.zero_le _, Nat.zero_le _⟩ (Nat.le_of_ble_eq_true rfl) (z_kPi (fun r2 h => ?_))
  refine z_istore_n hC (lv1 := [(2, .int r2), (0, .ref a0), (1, .ref a1)]) dX0_readLine_4 rfl (by decide) rfl ?_
  refine z_iload_n hC (q := 0) dX0_readLine_5 rfl rfl ?_
  refine z_bipush hC (v := 17) k_bipush_17 dX0_readLine_6 ?_
  refine z_icmp_lt hC (tgt := 17) dX0_readLine_8 (by decide) (fun hc => ?_) (fun hc => ?_)
  · have h := h.1 hc
    refine z_aload_n hC (q := 2) dX0_readLine_17 rfl rfl ?_
    refine z_iconst hC (v := 1) k_iconst_1 dX0_readLine_18 ?_
    refine cl_RX0_48 hC (c_X8_fail _ G a1 1 K N I L R _ h) hk1 dX0_readLine_19 (by rw [hRm]; exact ⟨Nat.le_of_ble_eq_true rfl, Nat.le_of_ble_eq_true rfl⟩) ⟨Nat.zero_le _, Nat.zero_le _⟩ (Nat.le_of_ble_eq_true rfl) (z_kIz (I := I) (fun r3 I4 h => ?_))
    exact z_zret (b := r3) hC dX0_readLine_22 rfl ⟨r3, rfl, rfl, rfl, rfl, h⟩
  · have h := h.2 hc
    refine z_iload_n hC (q := 0) dX0_readLine_11 rfl rfl ?_
    refine z_bipush hC (v := 24) k_bipush_24 dX0_readLine_12 ?_
    refine z_icmp_le hC (tgt := 23) dX0_readLine_14 (by decide) (fun hc => ?_) (fun hc => ?_)
    · have h := h.1 hc
      refine z_aload_n hC (q := 1) dX0_readLine_23 rfl rfl ?_
      obtain ⟨hk5, h⟩ := h
      obtain ⟨b6, hb6, h⟩ := h
      refine gf_RX0_14 hC dX0_readLine_24 hk5 hb6 ?_
      obtain ⟨hk7, h⟩ := h
      refine cl_RX0_52 hC (c_X7_isFull _ G b6 K N I L R _ h) hk7 dX0_readLine_27 (by rw [hRm]; exact ⟨Nat.le_of_ble_eq_true rfl, Nat.le_of_ble_eq_true rfl⟩) ⟨Nat.zero_le _, Nat.zero_le _⟩ (Nat.le_of_ble_eq_true rfl) (z_kPz (fun r8 h => ?_))
      refine z_ifz_eq hC (tgt := 39) dX0_readLine_30 (by decide) (fun hc => ?_) (fun hc => ?_)
      · have h := h.1 hc
        refine z_aload_n hC (q := 1) dX0_readLine_39 rfl rfl ?_
        refine gf_RX0_14 hC dX0_readLine_40 hk5 hb6 ?_
        refine z_lconst hC (v := 0) k_lconst_0 dX0_readLine_43 ?_
        refine cl_RX0_56 hC (c_X7_add _ G b6 0 K N I L R _ h) hk7 dX0_readLine_44 (by rw [hRm]; exact ⟨Nat.le_of_ble_eq_true rfl, Nat.le_of_ble_eq_true rfl⟩) ⟨Nat.zero_le _, Nat.zero_le _⟩ (Nat.le_of_ble_eq_true rfl) (z_kLi (I := I) (L := L) (fun r9 I10 L11 h => ?_))
        refine z_istore_n hC (lv1 := [(3, .int r9), (2, .int r2), (0, .ref a0), (1, .ref a1)]) dX0_readLine_47 rfl (by decide) rfl ?_
        refine z_aload_n hC (q := 2) dX0_readLine_48 rfl rfl ?_
        refine gf_RX0_14 hC dX0_readLine_49 hk5 hb6 ?_
        refine z_iload_n hC (q := 0) dX0_readLine_52 rfl rfl ?_
        refine z_iconst hC (v := 0) k_iconst_0 dX0_readLine_53 ?_
        refine z_iload_n hC (q := 1) dX0_readLine_54 rfl rfl ?_
        refine cl_RX0_60 hC (c_X7_put _ G b6 r9 0 r2 K N I10 L11 R _ h) hk7 dX0_readLine_55 (by rw [hRm]; exact ⟨Nat.le_of_ble_eq_true rfl, Nat.le_of_ble_eq_true rfl⟩) ⟨Nat.zero_le _, Nat.zero_le _⟩ (Nat.le_of_ble_eq_true rfl) (z_kIv (I := I10) (fun I12 h => ?_))
        refine z_aload_n hC (q := 3) dX0_readLine_58 rfl rfl ?_
        refine cl_RX0_64 hC (c_X8_advance _ G a1 K N I12 L11 R _ h) hk1 dX0_readLine_59 (by rw [hRm]; exact ⟨Nat.le_of_ble_eq_true rfl, Nat.le_of_ble_eq_true rfl⟩) ⟨Nat.zero_le _, Nat.zero_le _⟩ (Nat.le_of_ble_eq_true rfl) (z_kLv (I := I12) (L := L11) (fun I13 L14 h => ?_))
        refine z_iload_n hC (q := 1) dX0_readLine_62 rfl rfl ?_
        by_cases hc0 : r2 = 17
        · have h := h.1 hc0
          refine z_tableIn hC (off := 33) (tgt := 96) 17 hc0 dX0_readLine_63 (by decide) (by decide) ?_
          refine z_aload_n hC (q := 2) dX0_readLine_96 rfl rfl ?_
          refine z_aload_n hC (q := 3) dX0_readLine_97 rfl rfl ?_
          refine z_iconst hC (v := 1) k_iconst_1 dX0_readLine_98 ?_
          refine z_iconst hC (v := 0) k_iconst_0 dX0_readLine_99 ?_
          refine z_bipush hC (v := 7) k_bipush_7 dX0_readLine_100 ?_
          refine cl_RX0_69 hC (c_X0_readNumber _ G a0 a1 1 0 7 K N I13 L14 R _ h) hk5 dX0_readLine_102 (by rw [hRm]; exact ⟨Nat.le_of_ble_eq_true rfl, Nat.le_of_ble_eq_true rfl⟩) ⟨Nat.zero_le _, Nat.zero_le _⟩ (Nat.le_of_ble_eq_true rfl) (z_kLz (I := I13) (L := L14) (fun r15 I16 L17 h => ?_))
          refine z_ifz_eq hC (tgt := 125) dX0_readLine_105 (by decide) (fun hc => ?_) (fun hc => ?_)
          · have h := h.1 hc
            refine z_iconst hC (v := 0) k_iconst_0 dX0_readLine_125 ?_
            exact z_zret (b := false) hC dX0_readLine_126 rfl ⟨false, rfl, rfl, rfl, rfl, h⟩
          · have h := h.2 hc
            refine z_aload_n hC (q := 2) dX0_readLine_108 rfl rfl ?_
            refine z_aload_n hC (q := 3) dX0_readLine_109 rfl rfl ?_
            refine z_iconst hC (v := 2) k_iconst_2 dX0_readLine_110 ?_
            refine z_iconst hC (v := 0) k_iconst_0 dX0_readLine_111 ?_
            refine z_sipush hC (v := 999) k_sipush_999 dX0_readLine_112 ?_
            refine cl_RX0_69 hC (c_X0_readNumber _ G a0 a1 2 0 999 K N I16 L17 R _ h) hk5 dX0_readLine_115 (by rw [hRm]; exact ⟨Nat.le_of_ble_eq_true rfl, Nat.le_of_ble_eq_true rfl⟩) ⟨Nat.zero_le _, Nat.zero_le _⟩ (Nat.le_of_ble_eq_true rfl) (z_kLz (I := I16) (L := L17) (fun r18 I19 L20 h => ?_))
            refine z_ifz_eq hC (tgt := 125) dX0_readLine_118 (by decide) (fun hc => ?_) (fun hc => ?_)
            · have h := h.1 hc
              refine z_iconst hC (v := 0) k_iconst_0 dX0_readLine_125 ?_
              exact z_zret (b := false) hC dX0_readLine_126 rfl ⟨false, rfl, rfl, rfl, rfl, h⟩
            · have h := h.2 hc
              refine z_iconst hC (v := 1) k_iconst_1 dX0_readLine_121 ?_
              refine z_goto hC (tgt := 126) dX0_readLine_122 (by decide) ?_
              exact z_zret (b := true) hC dX0_readLine_126 rfl ⟨true, rfl, rfl, rfl, rfl, h⟩
        · have h := h.2 hc0
          by_cases hc1 : r2 = 18
          · have h := h.1 hc1
            refine z_tableIn hC (off := 64) (tgt := 127) 18 hc1 dX0_readLine_63 (by decide) (by decide) ?_
            refine z_aload_n hC (q := 2) dX0_readLine_127 rfl rfl ?_
            refine z_aload_n hC (q := 3) dX0_readLine_128 rfl rfl ?_
            refine z_iconst hC (v := 1) k_iconst_1 dX0_readLine_129 ?_
            refine z_iconst hC (v := 0) k_iconst_0 dX0_readLine_130 ?_
            refine z_bipush hC (v := 63) k_bipush_63 dX0_readLine_131 ?_
            refine cl_RX0_69 hC (c_X0_readNumber _ G a0 a1 1 0 63 K N I13 L14 R _ h) hk5 dX0_readLine_133 (by rw [hRm]; exact ⟨Nat.le_of_ble_eq_true rfl, Nat.le_of_ble_eq_true rfl⟩) ⟨Nat.zero_le _, Nat.zero_le _⟩ (Nat.le_of_ble_eq_true rfl) (z_kLz (I := I13) (L := L14) (fun r21 I22 L23 h => ?_))
            refine z_ifz_eq hC (tgt := 156) dX0_readLine_136 (by decide) (fun hc => ?_) (fun hc => ?_)
            · have h := h.1 hc
              refine z_iconst hC (v := 0) k_iconst_0 dX0_readLine_156 ?_
              exact z_zret (b := false) hC dX0_readLine_157 rfl ⟨false, rfl, rfl, rfl, rfl, h⟩
            · have h := h.2 hc
              refine z_aload_n hC (q := 2) dX0_readLine_139 rfl rfl ?_
              refine z_aload_n hC (q := 3) dX0_readLine_140 rfl rfl ?_
              refine z_iconst hC (v := 2) k_iconst_2 dX0_readLine_141 ?_
              refine z_iconst hC (v := 0) k_iconst_0 dX0_readLine_142 ?_
              refine z_sipush hC (v := 999) k_sipush_999 dX0_readLine_143 ?_
              refine cl_RX0_69 hC (c_X0_readNumber _ G a0 a1 2 0 999 K N I22 L23 R _ h) hk5 dX0_readLine_146 (by rw [hRm]; exact ⟨Nat.le_of_ble_eq_true rfl, Nat.le_of_ble_eq_true rfl⟩) ⟨Nat.zero_le _, Nat.zero_le _⟩ (Nat.le_of_ble_eq_true rfl) (z_kLz (I := I22) (L := L23) (fun r24 I25 L26 h => ?_))
              refine z_ifz_eq hC (tgt := 156) dX0_readLine_149 (by decide) (fun hc => ?_) (fun hc => ?_)
              · have h := h.1 hc
                refine z_iconst hC (v := 0) k_iconst_0 dX0_readLine_156 ?_
                exact z_zret (b := false) hC dX0_readLine_157 rfl ⟨false, rfl, rfl, rfl, rfl, h⟩
              · have h := h.2 hc
                refine z_iconst hC (v := 1) k_iconst_1 dX0_readLine_152 ?_
                refine z_goto hC (tgt := 157) dX0_readLine_153 (by decide) ?_
                exact z_zret (b := true) hC dX0_readLine_157 rfl ⟨true, rfl, rfl, rfl, rfl, h⟩
          · have h := h.2 hc1
            by_cases hc2 : r2 = 19
            · have h := h.1 hc2
              refine z_tableIn hC (off := 95) (tgt := 158) 19 hc2 dX0_readLine_63 (by decide) (by decide) ?_
              refine z_aload_n hC (q := 2) dX0_readLine_158 rfl rfl ?_
              refine z_aload_n hC (q := 3) dX0_readLine_159 rfl rfl ?_
              refine z_iconst hC (v := 1) k_iconst_1 dX0_readLine_160 ?_
              refine z_iconst hC (v := 0) k_iconst_0 dX0_readLine_161 ?_
              refine z_sipush hC (v := 999) k_sipush_999 dX0_readLine_162 ?_
              refine cl_RX0_69 hC (c_X0_readNumber _ G a0 a1 1 0 999 K N I13 L14 R _ h) hk5 dX0_readLine_165 (by rw [hRm]; exact ⟨Nat.le_of_ble_eq_true rfl, Nat.le_of_ble_eq_true rfl⟩) ⟨Nat.zero_le _, Nat.zero_le _⟩ (Nat.le_of_ble_eq_true rfl) (z_kLz (I := I13) (L := L14) (fun r27 I28 L29 h => ?_))
              exact z_zret (b := r27) hC dX0_readLine_168 rfl ⟨r27, rfl, rfl, rfl, rfl, h⟩
            · have h := h.2 hc2
              by_cases hc3 : r2 = 20
              · have h := h.1 hc3
                refine z_tableIn hC (off := 106) (tgt := 169) 20 hc3 dX0_readLine_63 (by decide) (by decide) ?_
                refine z_aload_n hC (q := 2) dX0_readLine_169 rfl rfl ?_
                refine z_aload_n hC (q := 3) dX0_readLine_170 rfl rfl ?_
                refine z_iconst hC (v := 1) k_iconst_1 dX0_readLine_171 ?_
                refine z_iconst hC (v := 1) k_iconst_1 dX0_readLine_172 ?_
                refine z_sipush hC (v := 250) k_sipush_250 dX0_readLine_173 ?_
                refine cl_RX0_69 hC (c_X0_readNumber _ G a0 a1 1 1 250 K N I13 L14 R _ h) hk5 dX0_readLine_176 (by rw [hRm]; exact ⟨Nat.le_of_ble_eq_true rfl, Nat.le_of_ble_eq_true rfl⟩) ⟨Nat.zero_le _, Nat.zero_le _⟩ (Nat.le_of_ble_eq_true rfl) (z_kLz (I := I13) (L := L14) (fun r30 I31 L32 h => ?_))
                exact z_zret (b := r30) hC dX0_readLine_179 rfl ⟨r30, rfl, rfl, rfl, rfl, h⟩
              · have h := h.2 hc3
                by_cases hc4 : r2 = 21
                · have h := h.1 hc4
                  refine z_tableIn hC (off := 106) (tgt := 169) 21 hc4 dX0_readLine_63 (by decide) (by decide) ?_
                  refine z_aload_n hC (q := 2) dX0_readLine_169 rfl rfl ?_
                  refine z_aload_n hC (q := 3) dX0_readLine_170 rfl rfl ?_
                  refine z_iconst hC (v := 1) k_iconst_1 dX0_readLine_171 ?_
                  refine z_iconst hC (v := 1) k_iconst_1 dX0_readLine_172 ?_
                  refine z_sipush hC (v := 250) k_sipush_250 dX0_readLine_173 ?_
                  refine cl_RX0_69 hC (c_X0_readNumber _ G a0 a1 1 1 250 K N I13 L14 R _ h) hk5 dX0_readLine_176 (by rw [hRm]; exact ⟨Nat.le_of_ble_eq_true rfl, Nat.le_of_ble_eq_true rfl⟩) ⟨Nat.zero_le _, Nat.zero_le _⟩ (Nat.le_of_ble_eq_true rfl) (z_kLz (I := I13) (L := L14) (fun r33 I34 L35 h => ?_))
                  exact z_zret (b := r33) hC dX0_readLine_179 rfl ⟨r33, rfl, rfl, rfl, rfl, h⟩
                · have h := h.2 hc4
                  have hout : r2.toInt < 17 ∨ 21 < r2.toInt := by
                    have hc0 := z_nei hc0 (by decide : (17 : Int32).toInt = 17)
                    have hc1 := z_nei hc1 (by decide : (18 : Int32).toInt = 18)
                    have hc2 := z_nei hc2 (by decide : (19 : Int32).toInt = 19)
                    have hc3 := z_nei hc3 (by decide : (20 : Int32).toInt = 20)
                    have hc4 := z_nei hc4 (by decide : (21 : Int32).toInt = 21)
                    omega
                  refine z_tableOut hC (tgt := 180) dX0_readLine_63 hout (by decide) ?_
                  refine z_iconst hC (v := 1) k_iconst_1 dX0_readLine_180 ?_
                  exact z_zret (b := true) hC dX0_readLine_181 rfl ⟨true, rfl, rfl, rfl, rfl, h⟩
      · have h := h.2 hc
        refine z_aload_n hC (q := 2) dX0_readLine_33 rfl rfl ?_
        refine z_iconst hC (v := 4) k_iconst_4 dX0_readLine_34 ?_
        refine cl_RX0_48 hC (c_X8_fail _ G a1 4 K N I L R _ h) hk1 dX0_readLine_35 (by rw [hRm]; exact ⟨Nat.le_of_ble_eq_true rfl, Nat.le_of_ble_eq_true rfl⟩) ⟨Nat.zero_le _, Nat.zero_le _⟩ (Nat.le_of_ble_eq_true rfl) (z_kIz (I := I) (fun r36 I37 h => ?_))
        exact z_zret (b := r36) hC dX0_readLine_38 rfl ⟨r36, rfl, rfl, rfl, rfl, h⟩
    · have h := h.2 hc
      refine z_aload_n hC (q := 2) dX0_readLine_17 rfl rfl ?_
      refine z_iconst hC (v := 1) k_iconst_1 dX0_readLine_18 ?_
      refine cl_RX0_48 hC (c_X8_fail _ G a1 1 K N I L R _ h) hk1 dX0_readLine_19 (by rw [hRm]; exact ⟨Nat.le_of_ble_eq_true rfl, Nat.le_of_ble_eq_true rfl⟩) ⟨Nat.zero_le _, Nat.zero_le _⟩ (Nat.le_of_ble_eq_true rfl) (z_kIz (I := I) (fun r38 I39 h => ?_))
      exact z_zret (b := r38) hC dX0_readLine_22 rfl ⟨r38, rfl, rfl, rfl, rfl, h⟩
def w_X8_isSign  (a0 : Nat) (a1 : Int32) (K : MK) (N : MK) (I : MI) (L : ML) (R : MR) (Q : Bool → Prop) : Prop := K a0 = 9 ∧ (¬ (I a0 4) = 3 → Q false) ∧ ((I a0 4) = 3 → (¬ (I a0 9) = a1 → Q false) ∧ ((I a0 9) = a1 → Q true))
set_option maxHeartbeats 4000000 in
set_option maxRecDepth 100000 in
theorem c_X8_isSign  (l : Launch) (G : ZG) (a0 : Nat) (a1 : Int32) (K : MK) (N : MK) (I : MI) (L : ML) (R : MR) (Q : Bool → Prop) (h : w_X8_isSign a0 a1 K N I L R Q) : Met l yX8_isSign (.code yX8_isSign cX8_isSign 2 (some .boolean) :: z_tbl) rm_X8_isSign (z_Pc G [.ref a0, .int a1] K N I L R) (z_Qc G (qPz K N I L R Q)) 0 0 (z_A G) := by
  refine z_met (by decide) (Nat.le_of_ble_eq_true rfl) (fun X hX hRm hC0 hnm => ?_)
  subst hX
  have hC : ZOk X G RX8 cX8_isSign 2 (some .boolean) := hC0
  show Z X G 2 0 0 _ K N I L R 0 [(0, .ref a0), (1, .int a1)] []
  delta w_X8_isSign at h
  refine z_aload_n hC (q := 0) dX8_isSign_0 rfl rfl ?_
  obtain ⟨hk1, h⟩ := h
  refine gf_RX8_25 hC dX8_isSign_1 hk1 ?_
  refine z_iconst hC (v := 3) k_iconst_3 dX8_isSign_4 ?_
  refine z_icmp_ne hC (tgt := 20) dX8_isSign_5 (by decide) (fun hc => ?_) (fun hc => ?_)
  · have h := h.1 hc
    refine z_iconst hC (v := 0) k_iconst_0 dX8_isSign_20 ?_
    exact z_zret (b := false) hC dX8_isSign_21 rfl ⟨false, rfl, rfl, rfl, rfl, rfl, rfl, h⟩
  · have h := h.2 hc
    refine z_aload_n hC (q := 0) dX8_isSign_8 rfl rfl ?_
    refine gf_RX8_41 hC dX8_isSign_9 hk1 ?_
    refine z_iload_n hC (q := 1) dX8_isSign_12 rfl rfl ?_
    refine z_icmp_ne hC (tgt := 20) dX8_isSign_13 (by decide) (fun hc => ?_) (fun hc => ?_)
    · have h := h.1 hc
      refine z_iconst hC (v := 0) k_iconst_0 dX8_isSign_20 ?_
      exact z_zret (b := false) hC dX8_isSign_21 rfl ⟨false, rfl, rfl, rfl, rfl, rfl, rfl, h⟩
    · have h := h.2 hc
      refine z_iconst hC (v := 1) k_iconst_1 dX8_isSign_16 ?_
      refine z_goto hC (tgt := 21) dX8_isSign_17 (by decide) ?_
      exact z_zret (b := true) hC dX8_isSign_21 rfl ⟨true, rfl, rfl, rfl, rfl, rfl, rfl, h⟩
def w_X8_passSign  (a0 : Nat) (a1 : Int32) (K : MK) (N : MK) (I : MI) (L : ML) (R : MR) (Q : Bool → MI → ML → Prop) : Prop := K a0 = 9 ∧ w_X8_isSign a0 a1 K N I L R (fun r2 => (r2 = true → w_X8_advance a0 K N I L R (fun I3 L4 => Q true I3 L4)) ∧ (r2 = false → w_X8_fail a0 1 K N I L R (fun r5 I6 => Q r5 I6 L)))
set_option maxHeartbeats 4000000 in
set_option maxRecDepth 100000 in
theorem c_X8_passSign  (l : Launch) (G : ZG) (a0 : Nat) (a1 : Int32) (K : MK) (N : MK) (I : MI) (L : ML) (R : MR) (Q : Bool → MI → ML → Prop) (h : w_X8_passSign a0 a1 K N I L R Q) : Met l yX8_passSign (.code yX8_passSign cX8_passSign 2 (some .boolean) :: z_tbl) rm_X8_passSign (z_Pc G [.ref a0, .int a1] K N I L R) (z_Qc G (qLz K N R Q)) 0 0 (z_A G) := by
  refine z_met (by decide) (Nat.le_of_ble_eq_true rfl) (fun X hX hRm hC0 hnm => ?_)
  subst hX
  have hC : ZOk X G RX8 cX8_passSign 2 (some .boolean) := hC0
  show Z X G 2 0 0 _ K N I L R 0 [(0, .ref a0), (1, .int a1)] []
  delta w_X8_passSign at h
  refine z_aload_n hC (q := 0) dX8_passSign_0 rfl rfl ?_
  refine z_iload_n hC (q := 1) dX8_passSign_1 rfl rfl ?_
  obtain ⟨hk1, h⟩ := h
  refine cl_RX8_90 hC (c_X8_isSign _ G a0 a1 K N I L R _ h) hk1 dX8_passSign_2 (by rw [hRm]; exact ⟨Nat.le_of_ble_eq_true rfl, Nat.le_of_ble_eq_true rfl⟩) ⟨Nat.zero_le _, Nat.zero_le _⟩ (Nat.le_of_ble_eq_true rfl) (z_kPz (fun r2 h => ?_))
  refine z_ifz_ne hC (tgt := 14) dX8_passSign_5 (by decide) (fun hc => ?_) (fun hc => ?_)
  · have h := h.1 hc
    refine z_aload_n hC (q := 0) dX8_passSign_14 rfl rfl ?_
    refine cl_RX8_50 hC (c_X8_advance _ G a0 K N I L R _ h) hk1 dX8_passSign_15 (by rw [hRm]; exact ⟨Nat.le_of_ble_eq_true rfl, Nat.le_of_ble_eq_true rfl⟩) ⟨Nat.zero_le _, Nat.zero_le _⟩ (Nat.le_of_ble_eq_true rfl) (z_kLv (I := I) (L := L) (fun I3 L4 h => ?_))
    refine z_iconst hC (v := 1) k_iconst_1 dX8_passSign_18 ?_
    exact z_zret (b := true) hC dX8_passSign_19 rfl ⟨true, rfl, rfl, rfl, rfl, h⟩
  · have h := h.2 hc
    refine z_aload_n hC (q := 0) dX8_passSign_8 rfl rfl ?_
    refine z_iconst hC (v := 1) k_iconst_1 dX8_passSign_9 ?_
    refine cl_RX8_87 hC (c_X8_fail _ G a0 1 K N I L R _ h) hk1 dX8_passSign_10 (by rw [hRm]; exact ⟨Nat.le_of_ble_eq_true rfl, Nat.le_of_ble_eq_true rfl⟩) ⟨Nat.zero_le _, Nat.zero_le _⟩ (Nat.le_of_ble_eq_true rfl) (z_kIz (I := I) (fun r5 I6 h => ?_))
    exact z_zret (b := r5) hC dX8_passSign_13 rfl ⟨r5, rfl, rfl, rfl, rfl, h⟩
def w_X0_readLines_16  (x0 : Nat) (x1 : Nat) (x2 : Int32)  (K : MK) (N : MK) (I : MI) (L : ML) (R : MR)  (Q : MI → ML → Prop) : Prop := ∃ J : Nat → Nat → Nat → Int32 → MI → ML → Prop, (∃ n, J n x0 x1 x2 I L) ∧ ∀ (n : Nat) (x0 : Nat) (x1 : Nat) (x2 : Int32) (I : MI) (L : ML), J n x0 x1 x2 I L → ((400 : Int32) ≤ x2 → Q I L) ∧ (¬ (400 : Int32) ≤ x2 → K x1 = 9 ∧ ((I x1 4) = 0 → Q I L) ∧ (¬ (I x1 4) = 0 → K x0 = 1 ∧ w_X0_readLine x0 x1 K N I L R (fun r10 I11 L12 => (r10 = false → Q I11 L12) ∧ (r10 = true → w_X8_passSign x1 59 K N I11 L12 R (fun r13 I14 L15 => (r13 = true → ∀ v16 : Int32, v16 = x2 + 1 → ∃ n1, n1 < n ∧ J n1 x0 x1 v16 I14 L15) ∧ (r13 = false → Q I14 L15))))))
def w_X0_readLines  (a0 : Nat) (a1 : Nat) (K : MK) (N : MK) (I : MI) (L : ML) (R : MR) (Q : MI → ML → Prop) : Prop := K a0 = 1 ∧ ∃ b2 : Nat, R a0 0 = some b2 ∧ K b2 = 8 ∧ w_X7_forget b2 K N I L R (fun I4 => K a1 = 9 ∧ w_X8_begin a1 400 K N I4 L R (fun I6 L7 => w_X0_readLines_16 a0 a1 0 K N I6 L7 R Q))
set_option maxHeartbeats 4000000 in
set_option maxRecDepth 100000 in
theorem z_X0_readLines_16 {X : ZX} {G : ZG}  {x0 : Nat} {x1 : Nat} {x2 : Int32}  {K : MK} {N : MK} {I : MI} {L : ML} {R : MR}  {Q : MI → ML → Prop} (hC : ZOk X G RX0 cX0_readLines 3 none) (hRm : X.2.2.2.1 = rm_X0_readLines) (h : w_X0_readLines_16 x0 x1 x2 K N I L R  Q) : Z X G 3 0 0 (z_T X G (qLv K N R Q) 0 0) K N I L R 16 [(0, .ref x0), (1, .ref x1), (2, .int x2)] [] := by
  delta w_X0_readLines_16 at h
  obtain ⟨J, ⟨n, h0⟩, hs⟩ := h
  have key : ∀ (n : Nat) (x0 : Nat) (x1 : Nat) (x2 : Int32) (I : MI) (L : ML), J n x0 x1 x2 I L → Z X G 3 0 0 (z_T X G (qLv K N R Q) 0 0) K N I L R 16 [(0, .ref x0), (1, .ref x1), (2, .int x2)] [] := by
    intro n
    induction n using Nat.strongRecOn with
    | _ n ih =>
      intro x0 x1 x2 I L hJ
      have hC16 : ∀ (y0 : Nat) (y1 : Nat) (y2 : Int32) (zI : MI) (zL : ML), (∃ n1, n1 < n ∧ J n1 y0 y1 y2 zI zL) → Z X G 3 0 0 (z_T X G (qLv K N R Q) 0 0) K N zI zL R 16 [(0, .ref y0), (1, .ref y1), (2, .int y2)] [] := fun y0 y1 y2 zI zL ⟨n1, hn1, hj⟩ => ih n1 hn1 y0 y1 y2 zI zL hj
      have h := hs n x0 x1 x2 I L hJ
      refine z_iload_n hC (q := 2) dX0_readLines_16 rfl rfl ?_
      refine z_sipush hC (v := 400) k_sipush_400 dX0_readLines_17 ?_
      refine z_icmp_ge hC (tgt := 54) dX0_readLines_20 (by decide) (fun hc => ?_) (fun hc => ?_)
      · have h := h.1 hc
        exact z_vret hC dX0_readLines_54 ⟨rfl, rfl, rfl, rfl, h⟩
      · have h := h.2 hc
        refine z_aload_n hC (q := 1) dX0_readLines_23 rfl rfl ?_
        obtain ⟨hk8, h⟩ := h
        refine gf_RX0_33 hC dX0_readLines_24 hk8 ?_
        refine z_if_eq hC (tgt := 54) dX0_readLines_27 (by decide) (fun hc => ?_) (fun hc => ?_)
        · have h := h.1 hc
          exact z_vret hC dX0_readLines_54 ⟨rfl, rfl, rfl, rfl, h⟩
        · have h := h.2 hc
          refine z_aload_n hC (q := 0) dX0_readLines_30 rfl rfl ?_
          refine z_aload_n hC (q := 1) dX0_readLines_31 rfl rfl ?_
          obtain ⟨hk9, h⟩ := h
          refine cl_RX0_36 hC (c_X0_readLine _ G x0 x1 K N I L R _ h) hk9 dX0_readLines_32 (by rw [hRm]; exact ⟨Nat.le_of_ble_eq_true rfl, Nat.le_of_ble_eq_true rfl⟩) ⟨Nat.zero_le _, Nat.zero_le _⟩ (Nat.le_of_ble_eq_true rfl) (z_kLz (I := I) (L := L) (fun r10 I11 L12 h => ?_))
          refine z_ifz_eq hC (tgt := 47) dX0_readLines_35 (by decide) (fun hc => ?_) (fun hc => ?_)
          · have h := h.1 hc
            exact z_vret hC dX0_readLines_47 ⟨rfl, rfl, rfl, rfl, h⟩
          · have h := h.2 hc
            refine z_aload_n hC (q := 1) dX0_readLines_38 rfl rfl ?_
            refine z_bipush hC (v := 59) k_bipush_59 dX0_readLines_39 ?_
            refine cl_RX0_40 hC (c_X8_passSign _ G x1 59 K N I11 L12 R _ h) hk8 dX0_readLines_41 (by rw [hRm]; exact ⟨Nat.le_of_ble_eq_true rfl, Nat.le_of_ble_eq_true rfl⟩) ⟨Nat.zero_le _, Nat.zero_le _⟩ (Nat.le_of_ble_eq_true rfl) (z_kLz (I := I11) (L := L12) (fun r13 I14 L15 h => ?_))
            refine z_ifz_ne hC (tgt := 48) dX0_readLines_44 (by decide) (fun hc => ?_) (fun hc => ?_)
            · have h := h.1 hc
              obtain ⟨v16, ev16⟩ : ∃ y : Int32, y = x2 + 1 := ⟨_, rfl⟩
              have h := h v16 ev16
              refine z_iinc hC (q := 2) (v := v16) (lv1 := [(2, .int v16), (0, .ref x0), (1, .ref x1)]) dX0_readLines_48 rfl (by rw [ev16, k_iinc_1]) (by decide) rfl ?_
              refine z_goto hC (tgt := 16) dX0_readLines_51 (by decide) ?_
              exact z_sub [(0, .ref x0), (1, .ref x1), (2, .int v16)] [1, 2, 0] rfl (hC16 _ _ _ _ _ h)
            · have h := h.2 hc
              exact z_vret hC dX0_readLines_47 ⟨rfl, rfl, rfl, rfl, h⟩
  exact key n x0 x1 x2 I L h0
set_option maxHeartbeats 4000000 in
set_option maxRecDepth 100000 in
theorem c_X0_readLines  (l : Launch) (G : ZG) (a0 : Nat) (a1 : Nat) (K : MK) (N : MK) (I : MI) (L : ML) (R : MR) (Q : MI → ML → Prop) (h : w_X0_readLines a0 a1 K N I L R Q) : Met l yX0_readLines (.code yX0_readLines cX0_readLines 3 none :: z_tbl) rm_X0_readLines (z_Pc G [.ref a0, .ref a1] K N I L R) (z_Qc G (qLv K N R Q)) 0 0 (z_A G) := by
  refine z_met (by decide) (Nat.le_of_ble_eq_true rfl) (fun X hX hRm hC0 hnm => ?_)
  subst hX
  have hC : ZOk X G RX0 cX0_readLines 3 none := hC0
  show Z X G 3 0 0 _ K N I L R 0 [(0, .ref a0), (1, .ref a1)] []
  delta w_X0_readLines at h
  refine z_aload_n hC (q := 0) dX0_readLines_0 rfl rfl ?_
  obtain ⟨hk1, h⟩ := h
  obtain ⟨b2, hb2, h⟩ := h
  refine gf_RX0_14 hC dX0_readLines_1 hk1 hb2 ?_
  obtain ⟨hk3, h⟩ := h
  refine cl_RX0_24 hC (c_X7_forget _ G b2 K N I L R _ h) hk3 dX0_readLines_4 (by rw [hRm]; exact ⟨Nat.le_of_ble_eq_true rfl, Nat.le_of_ble_eq_true rfl⟩) ⟨Nat.zero_le _, Nat.zero_le _⟩ (Nat.le_of_ble_eq_true rfl) (z_kIv (I := I) (fun I4 h => ?_))
  refine z_aload_n hC (q := 1) dX0_readLines_7 rfl rfl ?_
  refine z_sipush hC (v := 400) k_sipush_400 dX0_readLines_8 ?_
  obtain ⟨hk5, h⟩ := h
  refine cl_RX0_27 hC (c_X8_begin _ G a1 400 K N I4 L R _ h) hk5 dX0_readLines_11 (by rw [hRm]; exact ⟨Nat.le_of_ble_eq_true rfl, Nat.le_of_ble_eq_true rfl⟩) ⟨Nat.zero_le _, Nat.zero_le _⟩ (Nat.le_of_ble_eq_true rfl) (z_kLv (I := I4) (L := L) (fun I6 L7 h => ?_))
  refine z_iconst hC (v := 0) k_iconst_0 dX0_readLines_14 ?_
  refine z_istore_n hC (lv1 := [(2, .int 0), (0, .ref a0), (1, .ref a1)]) dX0_readLines_15 rfl (by decide) rfl ?_
  exact z_sub [(0, .ref a0), (1, .ref a1), (2, .int 0)] [1, 2, 0] rfl (z_X0_readLines_16 hC hRm h)
def w_X7_at  (a0 : Nat) (a1 : Int32) (a2 : Int32) (K : MK) (N : MK) (I : MI) (L : ML) (R : MR) (Q : Int32 → Prop) : Prop := (a1 < 0 → Q (-1)) ∧ (¬ a1 < 0 → K a0 = 8 ∧ ((I a0 3) ≤ a1 → Q (-1)) ∧ (¬ (I a0 3) ≤ a1 → (a2 < 0 → Q (-1)) ∧ (¬ a2 < 0 → ((I a0 0) ≤ a2 → Q (-1)) ∧ (¬ (I a0 0) ≤ a2 → ∃ b2 : Nat, R a0 2 = some b2 ∧ K b2 = 14 ∧ vp_in ((a1 * (I a0 0)) + a2) (N b2) ∧ Q (I b2 (ix ((a1 * (I a0 0)) + a2)))))))
set_option maxHeartbeats 4000000 in
set_option maxRecDepth 100000 in
theorem c_X7_at  (l : Launch) (G : ZG) (a0 : Nat) (a1 : Int32) (a2 : Int32) (K : MK) (N : MK) (I : MI) (L : ML) (R : MR) (Q : Int32 → Prop) (h : w_X7_at a0 a1 a2 K N I L R Q) : Met l yX7_at (.code yX7_at cX7_at 4 (some .int) :: z_tbl) rm_X7_at (z_Pc G [.ref a0, .int a1, .int a2] K N I L R) (z_Qc G (qPi K N I L R Q)) 0 0 (z_A G) := by
  refine z_met (by decide) (Nat.le_of_ble_eq_true rfl) (fun X hX hRm hC0 hnm => ?_)
  subst hX
  have hC : ZOk X G RX7 cX7_at 4 (some .int) := hC0
  show Z X G 4 0 0 _ K N I L R 0 [(0, .ref a0), (1, .int a1), (2, .int a2)] []
  delta w_X7_at at h
  refine z_iload_n hC (q := 1) dX7_at_0 rfl rfl ?_
  refine z_if_lt hC (tgt := 28) dX7_at_1 (by decide) (fun hc => ?_) (fun hc => ?_)
  · have h := h.1 hc
    refine z_iconst hC (v := 0) k_iconst_0 dX7_at_28 ?_
    refine z_istore_n hC (lv1 := [(3, .int 0), (0, .ref a0), (1, .int a1), (2, .int a2)]) dX7_at_29 rfl (by decide) rfl ?_
    refine z_iload_n hC (q := 0) dX7_at_30 rfl rfl ?_
    refine z_if_eq hC (tgt := 50) dX7_at_31 (by decide) (fun _ => ?_) (fun hc => absurd hc (by decide))
    refine z_iconst hC (v := (-1)) k_iconst_m1 dX7_at_50 ?_
    exact z_iret hC dX7_at_51 ⟨_, rfl, rfl, rfl, rfl, rfl, rfl, h⟩
  · have h := h.2 hc
    refine z_iload_n hC (q := 1) dX7_at_4 rfl rfl ?_
    refine z_aload_n hC (q := 0) dX7_at_5 rfl rfl ?_
    obtain ⟨hk1, h⟩ := h
    refine gf_RX7_9 hC dX7_at_6 hk1 ?_
    refine z_icmp_ge hC (tgt := 28) dX7_at_9 (by decide) (fun hc => ?_) (fun hc => ?_)
    · have h := h.1 hc
      refine z_iconst hC (v := 0) k_iconst_0 dX7_at_28 ?_
      refine z_istore_n hC (lv1 := [(3, .int 0), (0, .ref a0), (1, .int a1), (2, .int a2)]) dX7_at_29 rfl (by decide) rfl ?_
      refine z_iload_n hC (q := 0) dX7_at_30 rfl rfl ?_
      refine z_if_eq hC (tgt := 50) dX7_at_31 (by decide) (fun _ => ?_) (fun hc => absurd hc (by decide))
      refine z_iconst hC (v := (-1)) k_iconst_m1 dX7_at_50 ?_
      exact z_iret hC dX7_at_51 ⟨_, rfl, rfl, rfl, rfl, rfl, rfl, h⟩
    · have h := h.2 hc
      refine z_iload_n hC (q := 2) dX7_at_12 rfl rfl ?_
      refine z_if_lt hC (tgt := 28) dX7_at_13 (by decide) (fun hc => ?_) (fun hc => ?_)
      · have h := h.1 hc
        refine z_iconst hC (v := 0) k_iconst_0 dX7_at_28 ?_
        refine z_istore_n hC (lv1 := [(3, .int 0), (0, .ref a0), (1, .int a1), (2, .int a2)]) dX7_at_29 rfl (by decide) rfl ?_
        refine z_iload_n hC (q := 0) dX7_at_30 rfl rfl ?_
        refine z_if_eq hC (tgt := 50) dX7_at_31 (by decide) (fun _ => ?_) (fun hc => absurd hc (by decide))
        refine z_iconst hC (v := (-1)) k_iconst_m1 dX7_at_50 ?_
        exact z_iret hC dX7_at_51 ⟨_, rfl, rfl, rfl, rfl, rfl, rfl, h⟩
      · have h := h.2 hc
        refine z_iload_n hC (q := 2) dX7_at_16 rfl rfl ?_
        refine z_aload_n hC (q := 0) dX7_at_17 rfl rfl ?_
        refine gf_RX7_15 hC dX7_at_18 hk1 ?_
        refine z_icmp_ge hC (tgt := 28) dX7_at_21 (by decide) (fun hc => ?_) (fun hc => ?_)
        · have h := h.1 hc
          refine z_iconst hC (v := 0) k_iconst_0 dX7_at_28 ?_
          refine z_istore_n hC (lv1 := [(3, .int 0), (0, .ref a0), (1, .int a1), (2, .int a2)]) dX7_at_29 rfl (by decide) rfl ?_
          refine z_iload_n hC (q := 0) dX7_at_30 rfl rfl ?_
          refine z_if_eq hC (tgt := 50) dX7_at_31 (by decide) (fun _ => ?_) (fun hc => absurd hc (by decide))
          refine z_iconst hC (v := (-1)) k_iconst_m1 dX7_at_50 ?_
          exact z_iret hC dX7_at_51 ⟨_, rfl, rfl, rfl, rfl, rfl, rfl, h⟩
        · have h := h.2 hc
          refine z_iconst hC (v := 1) k_iconst_1 dX7_at_24 ?_
          refine z_goto hC (tgt := 29) dX7_at_25 (by decide) ?_
          refine z_istore_n hC (lv1 := [(3, .int 1), (0, .ref a0), (1, .int a1), (2, .int a2)]) dX7_at_29 rfl (by decide) rfl ?_
          refine z_iload_n hC (q := 0) dX7_at_30 rfl rfl ?_
          refine z_if_eq hC (tgt := 50) dX7_at_31 (by decide) (fun hc => absurd hc (by decide)) (fun _ => ?_)
          refine z_aload_n hC (q := 1) dX7_at_34 rfl rfl ?_
          obtain ⟨b2, hb2, h⟩ := h
          refine gf_RX7_22 hC dX7_at_35 hk1 hb2 ?_
          refine z_iload_n hC (q := 2) dX7_at_38 rfl rfl ?_
          refine z_aload_n hC (q := 1) dX7_at_39 rfl rfl ?_
          refine gf_RX7_15 hC dX7_at_40 hk1 ?_
          refine z_imul hC dX7_at_43 ?_
          refine z_iload_n hC (q := 3) dX7_at_44 rfl rfl ?_
          refine z_iadd hC dX7_at_45 ?_
          obtain ⟨hk3, h⟩ := h
          obtain ⟨hi4, h⟩ := h
          refine z_iaload hC hk3 hi4 dX7_at_46 ?_
          refine z_goto hC (tgt := 51) dX7_at_47 (by decide) ?_
          exact z_iret hC dX7_at_51 ⟨_, rfl, rfl, rfl, rfl, rfl, rfl, h⟩
def w_X9_hasAddress  (a0 : Nat) (a1 : Int32) (K : MK) (N : MK) (I : MI) (L : ML) (R : MR) (Q : Bool → Prop) : Prop := (a1 < 0 → Q false) ∧ (¬ a1 < 0 → K a0 = 10 ∧ ((I a0 0) ≤ a1 → Q false) ∧ (¬ (I a0 0) ≤ a1 → Q true))
set_option maxHeartbeats 4000000 in
set_option maxRecDepth 100000 in
theorem c_X9_hasAddress  (l : Launch) (G : ZG) (a0 : Nat) (a1 : Int32) (K : MK) (N : MK) (I : MI) (L : ML) (R : MR) (Q : Bool → Prop) (h : w_X9_hasAddress a0 a1 K N I L R Q) : Met l yX9_hasAddress (.code yX9_hasAddress cX9_hasAddress 2 (some .boolean) :: z_tbl) rm_X9_hasAddress (z_Pc G [.ref a0, .int a1] K N I L R) (z_Qc G (qPz K N I L R Q)) 0 0 (z_A G) := by
  refine z_met (by decide) (Nat.le_of_ble_eq_true rfl) (fun X hX hRm hC0 hnm => ?_)
  subst hX
  have hC : ZOk X G RX9 cX9_hasAddress 2 (some .boolean) := hC0
  show Z X G 2 0 0 _ K N I L R 0 [(0, .ref a0), (1, .int a1)] []
  delta w_X9_hasAddress at h
  refine z_iload_n hC (q := 1) dX9_hasAddress_0 rfl rfl ?_
  refine z_if_lt hC (tgt := 16) dX9_hasAddress_1 (by decide) (fun hc => ?_) (fun hc => ?_)
  · have h := h.1 hc
    refine z_iconst hC (v := 0) k_iconst_0 dX9_hasAddress_16 ?_
    exact z_zret (b := false) hC dX9_hasAddress_17 rfl ⟨false, rfl, rfl, rfl, rfl, rfl, rfl, h⟩
  · have h := h.2 hc
    refine z_iload_n hC (q := 1) dX9_hasAddress_4 rfl rfl ?_
    refine z_aload_n hC (q := 0) dX9_hasAddress_5 rfl rfl ?_
    obtain ⟨hk1, h⟩ := h
    refine gf_RX9_11 hC dX9_hasAddress_6 hk1 ?_
    refine z_icmp_ge hC (tgt := 16) dX9_hasAddress_9 (by decide) (fun hc => ?_) (fun hc => ?_)
    · have h := h.1 hc
      refine z_iconst hC (v := 0) k_iconst_0 dX9_hasAddress_16 ?_
      exact z_zret (b := false) hC dX9_hasAddress_17 rfl ⟨false, rfl, rfl, rfl, rfl, rfl, rfl, h⟩
    · have h := h.2 hc
      refine z_iconst hC (v := 1) k_iconst_1 dX9_hasAddress_12 ?_
      refine z_goto hC (tgt := 17) dX9_hasAddress_13 (by decide) ?_
      exact z_zret (b := true) hC dX9_hasAddress_17 rfl ⟨true, rfl, rfl, rfl, rfl, rfl, rfl, h⟩
def w_X3_write  (a0 : Nat) (a1 : Int32) (a2 : Int32) (K : MK) (N : MK) (I : MI) (L : ML) (R : MR) (Q : Int32 → MI → Prop) : Prop := (a1 < 0 → Q (-1) I) ∧ (¬ a1 < 0 → K a0 = 14 ∧ (a1 < (nI (N a0)) → vp_in a1 (N a0) ∧ (¬ (I a0 (ix a1)) = a2 → ∀ I3 : MI, I3 = mup I a0 (ix a1) a2 → Q 0 I3) ∧ ((I a0 (ix a1)) = a2 → Q 1 I)) ∧ (¬ a1 < (nI (N a0)) → Q (-1) I))
set_option maxHeartbeats 4000000 in
set_option maxRecDepth 100000 in
theorem c_X3_write  (l : Launch) (G : ZG) (a0 : Nat) (a1 : Int32) (a2 : Int32) (K : MK) (N : MK) (I : MI) (L : ML) (R : MR) (Q : Int32 → MI → Prop) (h : w_X3_write a0 a1 a2 K N I L R Q) : Met l yX3_write (.code yX3_write cX3_write 3 (some .int) :: z_tbl) rm_X3_write (z_Pc G [.ref a0, .int a1, .int a2] K N I L R) (z_Qc G (qIi K N L R Q)) 0 0 (z_A G) := by
  refine z_met (by decide) (Nat.le_of_ble_eq_true rfl) (fun X hX hRm hC0 hnm => ?_)
  subst hX
  have hC : ZOk X G RX3 cX3_write 3 (some .int) := hC0
  show Z X G 3 0 0 _ K N I L R 0 [(0, .ref a0), (1, .int a1), (2, .int a2)] []
  delta w_X3_write at h
  refine z_iload_n hC (q := 1) dX3_write_0 rfl rfl ?_
  refine z_if_lt hC (tgt := 10) dX3_write_1 (by decide) (fun hc => ?_) (fun hc => ?_)
  · have h := h.1 hc
    refine z_iconst hC (v := (-1)) k_iconst_m1 dX3_write_10 ?_
    exact z_iret hC dX3_write_11 ⟨_, rfl, rfl, rfl, rfl, rfl, h⟩
  · have h := h.2 hc
    refine z_iload_n hC (q := 1) dX3_write_4 rfl rfl ?_
    refine z_aload_n hC (q := 0) dX3_write_5 rfl rfl ?_
    obtain ⟨hk1, h⟩ := h
    refine z_alen14 hC hk1 dX3_write_6 ?_
    refine z_icmp_lt hC (tgt := 12) dX3_write_7 (by decide) (fun hc => ?_) (fun hc => ?_)
    · have h := h.1 hc
      refine z_aload_n hC (q := 0) dX3_write_12 rfl rfl ?_
      refine z_iload_n hC (q := 1) dX3_write_13 rfl rfl ?_
      obtain ⟨hi2, h⟩ := h
      refine z_iaload hC hk1 hi2 dX3_write_14 ?_
      refine z_iload_n hC (q := 2) dX3_write_15 rfl rfl ?_
      refine z_icmp_ne hC (tgt := 21) dX3_write_16 (by decide) (fun hc => ?_) (fun hc => ?_)
      · have h := h.1 hc
        refine z_aload_n hC (q := 0) dX3_write_21 rfl rfl ?_
        refine z_iload_n hC (q := 1) dX3_write_22 rfl rfl ?_
        refine z_iload_n hC (q := 2) dX3_write_23 rfl rfl ?_
        refine z_iastore hC hk1 hi2 dX3_write_24 ?_
        refine z_genI (fun I3 eI3 => ?_)
        have h := h I3 eI3
        refine z_iconst hC (v := 0) k_iconst_0 dX3_write_25 ?_
        exact z_iret hC dX3_write_26 ⟨_, rfl, rfl, rfl, rfl, rfl, h⟩
      · have h := h.2 hc
        refine z_iconst hC (v := 1) k_iconst_1 dX3_write_19 ?_
        exact z_iret hC dX3_write_20 ⟨_, rfl, rfl, rfl, rfl, rfl, h⟩
    · have h := h.2 hc
      refine z_iconst hC (v := (-1)) k_iconst_m1 dX3_write_10 ?_
      exact z_iret hC dX3_write_11 ⟨_, rfl, rfl, rfl, rfl, rfl, h⟩
def w_X3_moveTo  (a0 : Nat) (a1 : Int32) (K : MK) (N : MK) (I : MI) (L : ML) (R : MR) (Q : Int32 → MI → Prop) : Prop := (¬ a1 = (-1) → K a0 = 4 ∧ ∀ I2 : MI, I2 = mup I a0 4 a1 → Q 0 I2) ∧ (a1 = (-1) → Q 1 I)
set_option maxHeartbeats 4000000 in
set_option maxRecDepth 100000 in
theorem c_X3_moveTo  (l : Launch) (G : ZG) (a0 : Nat) (a1 : Int32) (K : MK) (N : MK) (I : MI) (L : ML) (R : MR) (Q : Int32 → MI → Prop) (h : w_X3_moveTo a0 a1 K N I L R Q) : Met l yX3_moveTo (.code yX3_moveTo cX3_moveTo 2 (some .int) :: z_tbl) rm_X3_moveTo (z_Pc G [.ref a0, .int a1] K N I L R) (z_Qc G (qIi K N L R Q)) 0 0 (z_A G) := by
  refine z_met (by decide) (Nat.le_of_ble_eq_true rfl) (fun X hX hRm hC0 hnm => ?_)
  subst hX
  have hC : ZOk X G RX3 cX3_moveTo 2 (some .int) := hC0
  show Z X G 2 0 0 _ K N I L R 0 [(0, .ref a0), (1, .int a1)] []
  delta w_X3_moveTo at h
  refine z_iload_n hC (q := 1) dX3_moveTo_0 rfl rfl ?_
  refine z_iconst hC (v := (-1)) k_iconst_m1 dX3_moveTo_1 ?_
  refine z_icmp_ne hC (tgt := 7) dX3_moveTo_2 (by decide) (fun hc => ?_) (fun hc => ?_)
  · have h := h.1 hc
    refine z_aload_n hC (q := 0) dX3_moveTo_7 rfl rfl ?_
    refine z_iload_n hC (q := 1) dX3_moveTo_8 rfl rfl ?_
    obtain ⟨hk1, h⟩ := h
    refine pf_RX3_25 hC dX3_moveTo_9 hk1 ?_
    refine z_genI (fun I2 eI2 => ?_)
    have h := h I2 eI2
    refine z_iconst hC (v := 0) k_iconst_0 dX3_moveTo_12 ?_
    exact z_iret hC dX3_moveTo_13 ⟨_, rfl, rfl, rfl, rfl, rfl, h⟩
  · have h := h.2 hc
    refine z_iconst hC (v := 1) k_iconst_1 dX3_moveTo_5 ?_
    exact z_iret hC dX3_moveTo_6 ⟨_, rfl, rfl, rfl, rfl, rfl, h⟩
def w_X3_stopOf_2  (x0 : Nat) (x1 : Int32) (x2 : Int32)  (K : MK) (N : MK) (I : MI) (L : ML) (R : MR)  (Q : Int32 → Prop) : Prop := ∃ J : Nat → Nat → Int32 → Int32 → Prop, (∃ n, J n x0 x1 x2) ∧ ∀ (n : Nat) (x0 : Nat) (x1 : Int32) (x2 : Int32), J n x0 x1 x2 → K x0 = 4 ∧ ((I x0 3) ≤ x2 → Q (-1)) ∧ (¬ (I x0 3) ≤ x2 → ((8 : Int32) ≤ x2 → Q (-1)) ∧ (¬ (8 : Int32) ≤ x2 → ∃ b2 : Nat, R x0 2 = some b2 ∧ K b2 = 14 ∧ vp_in x2 (N b2) ∧ (¬ (I b2 (ix x2)) = x1 → ∀ v5 : Int32, v5 = x2 + 1 → ∃ n1, n1 < n ∧ J n1 x0 x1 v5) ∧ ((I b2 (ix x2)) = x1 → Q x2)))
def w_X3_stopOf  (a0 : Nat) (a1 : Int32) (K : MK) (N : MK) (I : MI) (L : ML) (R : MR) (Q : Int32 → Prop) : Prop := w_X3_stopOf_2 a0 a1 0 K N I L R Q
set_option maxHeartbeats 4000000 in
set_option maxRecDepth 100000 in
theorem z_X3_stopOf_2 {X : ZX} {G : ZG}  {x0 : Nat} {x1 : Int32} {x2 : Int32}  {K : MK} {N : MK} {I : MI} {L : ML} {R : MR}  {Q : Int32 → Prop} (hC : ZOk X G RX3 cX3_stopOf 3 (some .int)) (hRm : X.2.2.2.1 = rm_X3_stopOf) (h : w_X3_stopOf_2 x0 x1 x2 K N I L R  Q) : Z X G 3 0 0 (z_T X G (qPi K N I L R Q) 0 0) K N I L R 2 [(0, .ref x0), (1, .int x1), (2, .int x2)] [] := by
  delta w_X3_stopOf_2 at h
  obtain ⟨J, ⟨n, h0⟩, hs⟩ := h
  have key : ∀ (n : Nat) (x0 : Nat) (x1 : Int32) (x2 : Int32), J n x0 x1 x2 → Z X G 3 0 0 (z_T X G (qPi K N I L R Q) 0 0) K N I L R 2 [(0, .ref x0), (1, .int x1), (2, .int x2)] [] := by
    intro n
    induction n using Nat.strongRecOn with
    | _ n ih =>
      intro x0 x1 x2 hJ
      have hC2 : ∀ (y0 : Nat) (y1 : Int32) (y2 : Int32) , (∃ n1, n1 < n ∧ J n1 y0 y1 y2) → Z X G 3 0 0 (z_T X G (qPi K N I L R Q) 0 0) K N I L R 2 [(0, .ref y0), (1, .int y1), (2, .int y2)] [] := fun y0 y1 y2 ⟨n1, hn1, hj⟩ => ih n1 hn1 y0 y1 y2 hj
      have h := hs n x0 x1 x2 hJ
      refine z_iload_n hC (q := 2) dX3_stopOf_2 rfl rfl ?_
      refine z_aload_n hC (q := 0) dX3_stopOf_3 rfl rfl ?_
      obtain ⟨hk1, h⟩ := h
      refine gf_RX3_21 hC dX3_stopOf_4 hk1 ?_
      refine z_icmp_ge hC (tgt := 34) dX3_stopOf_7 (by decide) (fun hc => ?_) (fun hc => ?_)
      · have h := h.1 hc
        refine z_iconst hC (v := (-1)) k_iconst_m1 dX3_stopOf_34 ?_
        exact z_iret hC dX3_stopOf_35 ⟨_, rfl, rfl, rfl, rfl, rfl, rfl, h⟩
      · have h := h.2 hc
        refine z_iload_n hC (q := 2) dX3_stopOf_10 rfl rfl ?_
        refine z_bipush hC (v := 8) k_bipush_8 dX3_stopOf_11 ?_
        refine z_icmp_ge hC (tgt := 34) dX3_stopOf_13 (by decide) (fun hc => ?_) (fun hc => ?_)
        · have h := h.1 hc
          refine z_iconst hC (v := (-1)) k_iconst_m1 dX3_stopOf_34 ?_
          exact z_iret hC dX3_stopOf_35 ⟨_, rfl, rfl, rfl, rfl, rfl, rfl, h⟩
        · have h := h.2 hc
          refine z_aload_n hC (q := 0) dX3_stopOf_16 rfl rfl ?_
          obtain ⟨b2, hb2, h⟩ := h
          refine gf_RX3_18 hC dX3_stopOf_17 hk1 hb2 ?_
          refine z_iload_n hC (q := 2) dX3_stopOf_20 rfl rfl ?_
          obtain ⟨hk3, h⟩ := h
          obtain ⟨hi4, h⟩ := h
          refine z_iaload hC hk3 hi4 dX3_stopOf_21 ?_
          refine z_iload_n hC (q := 1) dX3_stopOf_22 rfl rfl ?_
          refine z_icmp_ne hC (tgt := 28) dX3_stopOf_23 (by decide) (fun hc => ?_) (fun hc => ?_)
          · have h := h.1 hc
            obtain ⟨v5, ev5⟩ : ∃ y : Int32, y = x2 + 1 := ⟨_, rfl⟩
            have h := h v5 ev5
            refine z_iinc hC (q := 2) (v := v5) (lv1 := [(2, .int v5), (0, .ref x0), (1, .int x1)]) dX3_stopOf_28 rfl (by rw [ev5, k_iinc_1]) (by decide) rfl ?_
            refine z_goto hC (tgt := 2) dX3_stopOf_31 (by decide) ?_
            exact z_sub [(0, .ref x0), (1, .int x1), (2, .int v5)] [1, 2, 0] rfl (hC2 _ _ _ h)
          · have h := h.2 hc
            refine z_iload_n hC (q := 2) dX3_stopOf_26 rfl rfl ?_
            exact z_iret hC dX3_stopOf_27 ⟨_, rfl, rfl, rfl, rfl, rfl, rfl, h⟩
  exact key n x0 x1 x2 h0
set_option maxHeartbeats 4000000 in
set_option maxRecDepth 100000 in
theorem c_X3_stopOf  (l : Launch) (G : ZG) (a0 : Nat) (a1 : Int32) (K : MK) (N : MK) (I : MI) (L : ML) (R : MR) (Q : Int32 → Prop) (h : w_X3_stopOf a0 a1 K N I L R Q) : Met l yX3_stopOf (.code yX3_stopOf cX3_stopOf 3 (some .int) :: z_tbl) rm_X3_stopOf (z_Pc G [.ref a0, .int a1] K N I L R) (z_Qc G (qPi K N I L R Q)) 0 0 (z_A G) := by
  refine z_met (by decide) (Nat.le_of_ble_eq_true rfl) (fun X hX hRm hC0 hnm => ?_)
  subst hX
  have hC : ZOk X G RX3 cX3_stopOf 3 (some .int) := hC0
  show Z X G 3 0 0 _ K N I L R 0 [(0, .ref a0), (1, .int a1)] []
  delta w_X3_stopOf at h
  refine z_iconst hC (v := 0) k_iconst_0 dX3_stopOf_0 ?_
  refine z_istore_n hC (lv1 := [(2, .int 0), (0, .ref a0), (1, .int a1)]) dX3_stopOf_1 rfl (by decide) rfl ?_
  exact z_sub [(0, .ref a0), (1, .int a1), (2, .int 0)] [1, 2, 0] rfl (z_X3_stopOf_2 hC hRm h)
def w_X3_hasStop  (a0 : Nat) (a1 : Int32) (K : MK) (N : MK) (I : MI) (L : ML) (R : MR) (Q : Bool → Prop) : Prop := K a0 = 4 ∧ w_X3_stopOf a0 a1 K N I L R (fun r2 => (r2 = (-1) → Q false) ∧ (¬ r2 = (-1) → Q true))
set_option maxHeartbeats 4000000 in
set_option maxRecDepth 100000 in
theorem c_X3_hasStop  (l : Launch) (G : ZG) (a0 : Nat) (a1 : Int32) (K : MK) (N : MK) (I : MI) (L : ML) (R : MR) (Q : Bool → Prop) (h : w_X3_hasStop a0 a1 K N I L R Q) : Met l yX3_hasStop (.code yX3_hasStop cX3_hasStop 2 (some .boolean) :: z_tbl) rm_X3_hasStop (z_Pc G [.ref a0, .int a1] K N I L R) (z_Qc G (qPz K N I L R Q)) 0 0 (z_A G) := by
  refine z_met (by decide) (Nat.le_of_ble_eq_true rfl) (fun X hX hRm hC0 hnm => ?_)
  subst hX
  have hC : ZOk X G RX3 cX3_hasStop 2 (some .boolean) := hC0
  show Z X G 2 0 0 _ K N I L R 0 [(0, .ref a0), (1, .int a1)] []
  delta w_X3_hasStop at h
  refine z_aload_n hC (q := 0) dX3_hasStop_0 rfl rfl ?_
  refine z_iload_n hC (q := 1) dX3_hasStop_1 rfl rfl ?_
  obtain ⟨hk1, h⟩ := h
  refine cl_RX3_63 hC (c_X3_stopOf _ G a0 a1 K N I L R _ h) hk1 dX3_hasStop_2 (by rw [hRm]; exact ⟨Nat.le_of_ble_eq_true rfl, Nat.le_of_ble_eq_true rfl⟩) ⟨Nat.zero_le _, Nat.zero_le _⟩ (Nat.le_of_ble_eq_true rfl) (z_kPi (fun r2 h => ?_))
  refine z_iconst hC (v := (-1)) k_iconst_m1 dX3_hasStop_5 ?_
  refine z_icmp_eq hC (tgt := 13) dX3_hasStop_6 (by decide) (fun hc => ?_) (fun hc => ?_)
  · have h := h.1 hc
    refine z_iconst hC (v := 0) k_iconst_0 dX3_hasStop_13 ?_
    exact z_zret (b := false) hC dX3_hasStop_14 rfl ⟨false, rfl, rfl, rfl, rfl, rfl, rfl, h⟩
  · have h := h.2 hc
    refine z_iconst hC (v := 1) k_iconst_1 dX3_hasStop_9 ?_
    refine z_goto hC (tgt := 14) dX3_hasStop_10 (by decide) ?_
    exact z_zret (b := true) hC dX3_hasStop_14 rfl ⟨true, rfl, rfl, rfl, rfl, rfl, rfl, h⟩
def w_X3_addStop  (a0 : Nat) (a1 : Int32) (K : MK) (N : MK) (I : MI) (L : ML) (R : MR) (Q : Int32 → MI → Prop) : Prop := K a0 = 4 ∧ w_X3_hasStop a0 a1 K N I L R (fun r2 => (r2 = false → ((I a0 3) < 8 → ∃ b3 : Nat, R a0 2 = some b3 ∧ K b3 = 14 ∧ vp_in (I a0 3) (N b3) ∧ ∀ I6 : MI, I6 = mup I b3 (ix (I a0 3)) a1 → ∀ I7 : MI, I7 = mup I6 a0 3 ((I6 a0 3) + 1) → Q 0 I7) ∧ (¬ (I a0 3) < 8 → Q 2 I)) ∧ (r2 = true → Q 1 I))
set_option maxHeartbeats 4000000 in
set_option maxRecDepth 100000 in
theorem c_X3_addStop  (l : Launch) (G : ZG) (a0 : Nat) (a1 : Int32) (K : MK) (N : MK) (I : MI) (L : ML) (R : MR) (Q : Int32 → MI → Prop) (h : w_X3_addStop a0 a1 K N I L R Q) : Met l yX3_addStop (.code yX3_addStop cX3_addStop 2 (some .int) :: z_tbl) rm_X3_addStop (z_Pc G [.ref a0, .int a1] K N I L R) (z_Qc G (qIi K N L R Q)) 0 0 (z_A G) := by
  refine z_met (by decide) (Nat.le_of_ble_eq_true rfl) (fun X hX hRm hC0 hnm => ?_)
  subst hX
  have hC : ZOk X G RX3 cX3_addStop 2 (some .int) := hC0
  show Z X G 2 0 0 _ K N I L R 0 [(0, .ref a0), (1, .int a1)] []
  delta w_X3_addStop at h
  refine z_aload_n hC (q := 0) dX3_addStop_0 rfl rfl ?_
  refine z_iload_n hC (q := 1) dX3_addStop_1 rfl rfl ?_
  obtain ⟨hk1, h⟩ := h
  refine cl_RX3_66 hC (c_X3_hasStop _ G a0 a1 K N I L R _ h) hk1 dX3_addStop_2 (by rw [hRm]; exact ⟨Nat.le_of_ble_eq_true rfl, Nat.le_of_ble_eq_true rfl⟩) ⟨Nat.zero_le _, Nat.zero_le _⟩ (Nat.le_of_ble_eq_true rfl) (z_kPz (fun r2 h => ?_))
  refine z_ifz_eq hC (tgt := 10) dX3_addStop_5 (by decide) (fun hc => ?_) (fun hc => ?_)
  · have h := h.1 hc
    refine z_aload_n hC (q := 0) dX3_addStop_10 rfl rfl ?_
    refine gf_RX3_21 hC dX3_addStop_11 hk1 ?_
    refine z_bipush hC (v := 8) k_bipush_8 dX3_addStop_14 ?_
    refine z_icmp_lt hC (tgt := 21) dX3_addStop_16 (by decide) (fun hc => ?_) (fun hc => ?_)
    · have h := h.1 hc
      refine z_aload_n hC (q := 0) dX3_addStop_21 rfl rfl ?_
      obtain ⟨b3, hb3, h⟩ := h
      refine gf_RX3_18 hC dX3_addStop_22 hk1 hb3 ?_
      refine z_aload_n hC (q := 0) dX3_addStop_25 rfl rfl ?_
      refine gf_RX3_21 hC dX3_addStop_26 hk1 ?_
      refine z_iload_n hC (q := 1) dX3_addStop_29 rfl rfl ?_
      obtain ⟨hk4, h⟩ := h
      obtain ⟨hi5, h⟩ := h
      refine z_iastore hC hk4 hi5 dX3_addStop_30 ?_
      refine z_genI (fun I6 eI6 => ?_)
      have h := h I6 eI6
      refine z_aload_n hC (q := 0) dX3_addStop_31 rfl rfl ?_
      refine z_dup hC rfl dX3_addStop_32 ?_
      refine gf_RX3_21 hC dX3_addStop_33 hk1 ?_
      refine z_iconst hC (v := 1) k_iconst_1 dX3_addStop_36 ?_
      refine z_iadd hC dX3_addStop_37 ?_
      refine pf_RX3_21 hC dX3_addStop_38 hk1 ?_
      refine z_genI (fun I7 eI7 => ?_)
      have h := h I7 eI7
      refine z_iconst hC (v := 0) k_iconst_0 dX3_addStop_41 ?_
      exact z_iret hC dX3_addStop_42 ⟨_, rfl, rfl, rfl, rfl, rfl, h⟩
    · have h := h.2 hc
      refine z_iconst hC (v := 2) k_iconst_2 dX3_addStop_19 ?_
      exact z_iret hC dX3_addStop_20 ⟨_, rfl, rfl, rfl, rfl, rfl, h⟩
  · have h := h.2 hc
    refine z_iconst hC (v := 1) k_iconst_1 dX3_addStop_8 ?_
    exact z_iret hC dX3_addStop_9 ⟨_, rfl, rfl, rfl, rfl, rfl, h⟩
def w_X3_dropStop  (a0 : Nat) (a1 : Int32) (K : MK) (N : MK) (I : MI) (L : ML) (R : MR) (Q : Int32 → MI → Prop) : Prop := K a0 = 4 ∧ w_X3_stopOf a0 a1 K N I L R (fun r2 => (¬ r2 = (-1) → ∀ I3 : MI, I3 = mup I a0 3 ((I a0 3) - 1) → ∃ b4 : Nat, R a0 2 = some b4 ∧ K b4 = 14 ∧ vp_in (I3 a0 3) (N b4) ∧ vp_in r2 (N b4) ∧ ∀ I8 : MI, I8 = mup I3 b4 (ix r2) (I3 b4 (ix (I3 a0 3))) → Q 0 I8) ∧ (r2 = (-1) → Q 1 I))
set_option maxHeartbeats 4000000 in
set_option maxRecDepth 100000 in
theorem c_X3_dropStop  (l : Launch) (G : ZG) (a0 : Nat) (a1 : Int32) (K : MK) (N : MK) (I : MI) (L : ML) (R : MR) (Q : Int32 → MI → Prop) (h : w_X3_dropStop a0 a1 K N I L R Q) : Met l yX3_dropStop (.code yX3_dropStop cX3_dropStop 3 (some .int) :: z_tbl) rm_X3_dropStop (z_Pc G [.ref a0, .int a1] K N I L R) (z_Qc G (qIi K N L R Q)) 0 0 (z_A G) := by
  refine z_met (by decide) (Nat.le_of_ble_eq_true rfl) (fun X hX hRm hC0 hnm => ?_)
  subst hX
  have hC : ZOk X G RX3 cX3_dropStop 3 (some .int) := hC0
  show Z X G 3 0 0 _ K N I L R 0 [(0, .ref a0), (1, .int a1)] []
  delta w_X3_dropStop at h
  refine z_aload_n hC (q := 0) dX3_dropStop_0 rfl rfl ?_
  refine z_iload_n hC (q := 1) dX3_dropStop_1 rfl rfl ?_
  obtain ⟨hk1, h⟩ := h
  refine cl_RX3_63 hC (c_X3_stopOf _ G a0 a1 K N I L R _ h) hk1 dX3_dropStop_2 (by rw [hRm]; exact ⟨Nat.le_of_ble_eq_true rfl, Nat.le_of_ble_eq_true rfl⟩) ⟨Nat.zero_le _, Nat.zero_le _⟩ (Nat.le_of_ble_eq_true rfl) (z_kPi (fun r2 h => ?_))
  refine z_istore_n hC (lv1 := [(2, .int r2), (0, .ref a0), (1, .int a1)]) dX3_dropStop_5 rfl (by decide) rfl ?_
  refine z_iload_n hC (q := 0) dX3_dropStop_6 rfl rfl ?_
  refine z_iconst hC (v := (-1)) k_iconst_m1 dX3_dropStop_7 ?_
  refine z_icmp_ne hC (tgt := 13) dX3_dropStop_8 (by decide) (fun hc => ?_) (fun hc => ?_)
  · have h := h.1 hc
    refine z_aload_n hC (q := 1) dX3_dropStop_13 rfl rfl ?_
    refine z_dup hC rfl dX3_dropStop_14 ?_
    refine gf_RX3_21 hC dX3_dropStop_15 hk1 ?_
    refine z_iconst hC (v := 1) k_iconst_1 dX3_dropStop_18 ?_
    refine z_isub hC dX3_dropStop_19 ?_
    refine pf_RX3_21 hC dX3_dropStop_20 hk1 ?_
    refine z_genI (fun I3 eI3 => ?_)
    have h := h I3 eI3
    refine z_aload_n hC (q := 1) dX3_dropStop_23 rfl rfl ?_
    obtain ⟨b4, hb4, h⟩ := h
    refine gf_RX3_18 hC dX3_dropStop_24 hk1 hb4 ?_
    refine z_iload_n hC (q := 0) dX3_dropStop_27 rfl rfl ?_
    refine z_aload_n hC (q := 1) dX3_dropStop_28 rfl rfl ?_
    refine gf_RX3_18 hC dX3_dropStop_29 hk1 hb4 ?_
    refine z_aload_n hC (q := 1) dX3_dropStop_32 rfl rfl ?_
    refine gf_RX3_21 hC dX3_dropStop_33 hk1 ?_
    obtain ⟨hk5, h⟩ := h
    obtain ⟨hi6, h⟩ := h
    refine z_iaload hC hk5 hi6 dX3_dropStop_36 ?_
    obtain ⟨hi7, h⟩ := h
    refine z_iastore hC hk5 hi7 dX3_dropStop_37 ?_
    refine z_genI (fun I8 eI8 => ?_)
    have h := h I8 eI8
    refine z_iconst hC (v := 0) k_iconst_0 dX3_dropStop_38 ?_
    exact z_iret hC dX3_dropStop_39 ⟨_, rfl, rfl, rfl, rfl, rfl, h⟩
  · have h := h.2 hc
    refine z_iconst hC (v := 1) k_iconst_1 dX3_dropStop_11 ?_
    exact z_iret hC dX3_dropStop_12 ⟨_, rfl, rfl, rfl, rfl, rfl, h⟩
def w_X9_rowOf_4  (x0 : Nat) (x1 : Int32) (x2 : Int32) (x3 : Int32)  (K : MK) (N : MK) (I : MI) (L : ML) (R : MR)  (Q : Int32 → Prop) : Prop := ∃ J : Nat → Nat → Int32 → Int32 → Int32 → Prop, (∃ n, J n x0 x1 x2 x3) ∧ ∀ (n : Nat) (x0 : Nat) (x1 : Int32) (x2 : Int32) (x3 : Int32), J n x0 x1 x2 x3 → K x0 = 10 ∧ ∃ b2 : Nat, R x0 1 = some b2 ∧ K b2 = 8 ∧ ((I b2 3) ≤ x3 → Q x2) ∧ (¬ (I b2 3) ≤ x3 → w_X7_at b2 x3 0 K N I L R (fun r4 => (x1 < r4 → Q x2) ∧ (¬ x1 < r4 → ∀ v5 : Int32, v5 = x3 + 1 → ∃ n1, n1 < n ∧ J n1 x0 x1 x3 v5)))
def w_X9_rowOf  (a0 : Nat) (a1 : Int32) (K : MK) (N : MK) (I : MI) (L : ML) (R : MR) (Q : Int32 → Prop) : Prop := w_X9_rowOf_4 a0 a1 (-1) 0 K N I L R Q
set_option maxHeartbeats 4000000 in
set_option maxRecDepth 100000 in
theorem z_X9_rowOf_4 {X : ZX} {G : ZG}  {x0 : Nat} {x1 : Int32} {x2 : Int32} {x3 : Int32}  {K : MK} {N : MK} {I : MI} {L : ML} {R : MR}  {Q : Int32 → Prop} (hC : ZOk X G RX9 cX9_rowOf 4 (some .int)) (hRm : X.2.2.2.1 = rm_X9_rowOf) (h : w_X9_rowOf_4 x0 x1 x2 x3 K N I L R  Q) : Z X G 4 0 0 (z_T X G (qPi K N I L R Q) 0 0) K N I L R 4 [(0, .ref x0), (1, .int x1), (2, .int x2), (3, .int x3)] [] := by
  delta w_X9_rowOf_4 at h
  obtain ⟨J, ⟨n, h0⟩, hs⟩ := h
  have key : ∀ (n : Nat) (x0 : Nat) (x1 : Int32) (x2 : Int32) (x3 : Int32), J n x0 x1 x2 x3 → Z X G 4 0 0 (z_T X G (qPi K N I L R Q) 0 0) K N I L R 4 [(0, .ref x0), (1, .int x1), (2, .int x2), (3, .int x3)] [] := by
    intro n
    induction n using Nat.strongRecOn with
    | _ n ih =>
      intro x0 x1 x2 x3 hJ
      have hC4 : ∀ (y0 : Nat) (y1 : Int32) (y2 : Int32) (y3 : Int32) , (∃ n1, n1 < n ∧ J n1 y0 y1 y2 y3) → Z X G 4 0 0 (z_T X G (qPi K N I L R Q) 0 0) K N I L R 4 [(0, .ref y0), (1, .int y1), (2, .int y2), (3, .int y3)] [] := fun y0 y1 y2 y3 ⟨n1, hn1, hj⟩ => ih n1 hn1 y0 y1 y2 y3 hj
      have h := hs n x0 x1 x2 x3 hJ
      refine z_iload_n hC (q := 3) dX9_rowOf_4 rfl rfl ?_
      refine z_aload_n hC (q := 0) dX9_rowOf_5 rfl rfl ?_
      obtain ⟨hk1, h⟩ := h
      obtain ⟨b2, hb2, h⟩ := h
      refine gf_RX9_20 hC dX9_rowOf_6 hk1 hb2 ?_
      obtain ⟨hk3, h⟩ := h
      refine gf_RX9_50 hC dX9_rowOf_9 hk3 ?_
      refine z_icmp_ge hC (tgt := 36) dX9_rowOf_12 (by decide) (fun hc => ?_) (fun hc => ?_)
      · have h := h.1 hc
        refine z_iload_n hC (q := 2) dX9_rowOf_36 rfl rfl ?_
        exact z_iret hC dX9_rowOf_37 ⟨_, rfl, rfl, rfl, rfl, rfl, rfl, h⟩
      · have h := h.2 hc
        refine z_aload_n hC (q := 0) dX9_rowOf_15 rfl rfl ?_
        refine gf_RX9_20 hC dX9_rowOf_16 hk1 hb2 ?_
        refine z_iload_n hC (q := 3) dX9_rowOf_19 rfl rfl ?_
        refine z_iconst hC (v := 0) k_iconst_0 dX9_rowOf_20 ?_
        refine cl_RX9_53 hC (c_X7_at _ G b2 x3 0 K N I L R _ h) hk3 dX9_rowOf_21 (by rw [hRm]; exact ⟨Nat.le_of_ble_eq_true rfl, Nat.le_of_ble_eq_true rfl⟩) ⟨Nat.zero_le _, Nat.zero_le _⟩ (Nat.le_of_ble_eq_true rfl) (z_kPi (fun r4 h => ?_))
        refine z_iload_n hC (q := 1) dX9_rowOf_24 rfl rfl ?_
        refine z_icmp_gt hC (tgt := 36) dX9_rowOf_25 (by decide) (fun hc => ?_) (fun hc => ?_)
        · have h := h.1 hc
          refine z_iload_n hC (q := 2) dX9_rowOf_36 rfl rfl ?_
          exact z_iret hC dX9_rowOf_37 ⟨_, rfl, rfl, rfl, rfl, rfl, rfl, h⟩
        · have h := h.2 hc
          refine z_iload_n hC (q := 3) dX9_rowOf_28 rfl rfl ?_
          refine z_istore_n hC (lv1 := [(2, .int x3), (0, .ref x0), (1, .int x1), (3, .int x3)]) dX9_rowOf_29 rfl (by decide) rfl ?_
          obtain ⟨v5, ev5⟩ : ∃ y : Int32, y = x3 + 1 := ⟨_, rfl⟩
          have h := h v5 ev5
          refine z_iinc hC (q := 3) (v := v5) (lv1 := [(3, .int v5), (2, .int x3), (0, .ref x0), (1, .int x1)]) dX9_rowOf_30 rfl (by rw [ev5, k_iinc_1]) (by decide) rfl ?_
          refine z_goto hC (tgt := 4) dX9_rowOf_33 (by decide) ?_
          exact z_sub [(0, .ref x0), (1, .int x1), (2, .int x3), (3, .int v5)] [2, 3, 1, 0] rfl (hC4 _ _ _ _ h)
  exact key n x0 x1 x2 x3 h0
set_option maxHeartbeats 4000000 in
set_option maxRecDepth 100000 in
theorem c_X9_rowOf  (l : Launch) (G : ZG) (a0 : Nat) (a1 : Int32) (K : MK) (N : MK) (I : MI) (L : ML) (R : MR) (Q : Int32 → Prop) (h : w_X9_rowOf a0 a1 K N I L R Q) : Met l yX9_rowOf (.code yX9_rowOf cX9_rowOf 4 (some .int) :: z_tbl) rm_X9_rowOf (z_Pc G [.ref a0, .int a1] K N I L R) (z_Qc G (qPi K N I L R Q)) 0 0 (z_A G) := by
  refine z_met (by decide) (Nat.le_of_ble_eq_true rfl) (fun X hX hRm hC0 hnm => ?_)
  subst hX
  have hC : ZOk X G RX9 cX9_rowOf 4 (some .int) := hC0
  show Z X G 4 0 0 _ K N I L R 0 [(0, .ref a0), (1, .int a1)] []
  delta w_X9_rowOf at h
  refine z_iconst hC (v := (-1)) k_iconst_m1 dX9_rowOf_0 ?_
  refine z_istore_n hC (lv1 := [(2, .int (-1)), (0, .ref a0), (1, .int a1)]) dX9_rowOf_1 rfl (by decide) rfl ?_
  refine z_iconst hC (v := 0) k_iconst_0 dX9_rowOf_2 ?_
  refine z_istore_n hC (lv1 := [(3, .int 0), (2, .int (-1)), (0, .ref a0), (1, .int a1)]) dX9_rowOf_3 rfl (by decide) rfl ?_
  exact z_sub [(0, .ref a0), (1, .int a1), (2, .int (-1)), (3, .int 0)] [2, 3, 1, 0] rfl (z_X9_rowOf_4 hC hRm h)
def w_X9_scopeHas  (a0 : Nat) (a1 : Int32) (a2 : Int32) (K : MK) (N : MK) (I : MI) (L : ML) (R : MR) (Q : Bool → Prop) : Prop := K a0 = 10 ∧ ∃ b2 : Nat, R a0 2 = some b2 ∧ K b2 = 8 ∧ w_X7_at b2 a1 0 K N I L R (fun r4 => (a2 < r4 → Q false) ∧ (¬ a2 < r4 → w_X7_at b2 a1 1 K N I L R (fun r5 => (r5 ≤ a2 → Q false) ∧ (¬ r5 ≤ a2 → Q true))))
set_option maxHeartbeats 4000000 in
set_option maxRecDepth 100000 in
theorem c_X9_scopeHas  (l : Launch) (G : ZG) (a0 : Nat) (a1 : Int32) (a2 : Int32) (K : MK) (N : MK) (I : MI) (L : ML) (R : MR) (Q : Bool → Prop) (h : w_X9_scopeHas a0 a1 a2 K N I L R Q) : Met l yX9_scopeHas (.code yX9_scopeHas cX9_scopeHas 3 (some .boolean) :: z_tbl) rm_X9_scopeHas (z_Pc G [.ref a0, .int a1, .int a2] K N I L R) (z_Qc G (qPz K N I L R Q)) 0 0 (z_A G) := by
  refine z_met (by decide) (Nat.le_of_ble_eq_true rfl) (fun X hX hRm hC0 hnm => ?_)
  subst hX
  have hC : ZOk X G RX9 cX9_scopeHas 3 (some .boolean) := hC0
  show Z X G 3 0 0 _ K N I L R 0 [(0, .ref a0), (1, .int a1), (2, .int a2)] []
  delta w_X9_scopeHas at h
  refine z_aload_n hC (q := 0) dX9_scopeHas_0 rfl rfl ?_
  obtain ⟨hk1, h⟩ := h
  obtain ⟨b2, hb2, h⟩ := h
  refine gf_RX9_24 hC dX9_scopeHas_1 hk1 hb2 ?_
  refine z_iload_n hC (q := 1) dX9_scopeHas_4 rfl rfl ?_
  refine z_iconst hC (v := 0) k_iconst_0 dX9_scopeHas_5 ?_
  obtain ⟨hk3, h⟩ := h
  refine cl_RX9_53 hC (c_X7_at _ G b2 a1 0 K N I L R _ h) hk3 dX9_scopeHas_6 (by rw [hRm]; exact ⟨Nat.le_of_ble_eq_true rfl, Nat.le_of_ble_eq_true rfl⟩) ⟨Nat.zero_le _, Nat.zero_le _⟩ (Nat.le_of_ble_eq_true rfl) (z_kPi (fun r4 h => ?_))
  refine z_iload_n hC (q := 2) dX9_scopeHas_9 rfl rfl ?_
  refine z_icmp_gt hC (tgt := 30) dX9_scopeHas_10 (by decide) (fun hc => ?_) (fun hc => ?_)
  · have h := h.1 hc
    refine z_iconst hC (v := 0) k_iconst_0 dX9_scopeHas_30 ?_
    exact z_zret (b := false) hC dX9_scopeHas_31 rfl ⟨false, rfl, rfl, rfl, rfl, rfl, rfl, h⟩
  · have h := h.2 hc
    refine z_iload_n hC (q := 2) dX9_scopeHas_13 rfl rfl ?_
    refine z_aload_n hC (q := 0) dX9_scopeHas_14 rfl rfl ?_
    refine gf_RX9_24 hC dX9_scopeHas_15 hk1 hb2 ?_
    refine z_iload_n hC (q := 1) dX9_scopeHas_18 rfl rfl ?_
    refine z_iconst hC (v := 1) k_iconst_1 dX9_scopeHas_19 ?_
    refine cl_RX9_53 hC (c_X7_at _ G b2 a1 1 K N I L R _ h) hk3 dX9_scopeHas_20 (by rw [hRm]; exact ⟨Nat.le_of_ble_eq_true rfl, Nat.le_of_ble_eq_true rfl⟩) ⟨Nat.zero_le _, Nat.zero_le _⟩ (Nat.le_of_ble_eq_true rfl) (z_kPi (fun r5 h => ?_))
    refine z_icmp_ge hC (tgt := 30) dX9_scopeHas_23 (by decide) (fun hc => ?_) (fun hc => ?_)
    · have h := h.1 hc
      refine z_iconst hC (v := 0) k_iconst_0 dX9_scopeHas_30 ?_
      exact z_zret (b := false) hC dX9_scopeHas_31 rfl ⟨false, rfl, rfl, rfl, rfl, rfl, rfl, h⟩
    · have h := h.2 hc
      refine z_iconst hC (v := 1) k_iconst_1 dX9_scopeHas_26 ?_
      refine z_goto hC (tgt := 31) dX9_scopeHas_27 (by decide) ?_
      exact z_zret (b := true) hC dX9_scopeHas_31 rfl ⟨true, rfl, rfl, rfl, rfl, rfl, rfl, h⟩
def w_X9_scopeBehind_64  (x0 : Nat) (x1 : Int32) (x3 : Int32) (x4 : Int32) (x5 : Int32) (x6 : Int32) (s0 : Int32) (K : MK) (N : MK) (I : MI) (L : ML) (R : MR) (C16 : Nat → Int32 → Int32 → Int32 → Int32 → Prop) (Q : Int32 → Prop) : Prop := K x0 = 10 ∧ w_X9_scopeHas x0 x5 x1 K N I L R (fun r10 => (r10 = false → ∀ v11 : Int32, v11 = x5 + 1 → C16 x0 x1 x3 x4 v11) ∧ (r10 = true → (x6 ≤ x4 → ∀ v12 : Int32, v12 = x5 + 1 → C16 x0 x1 x3 x4 v12) ∧ (¬ x6 ≤ x4 → (s0 = 0 → ∀ v13 : Int32, v13 = x5 + 1 → C16 x0 x1 x3 x4 v13) ∧ (¬ s0 = 0 → ∀ v14 : Int32, v14 = x5 + 1 → C16 x0 x1 x5 x4 v14))))
def w_X9_scopeBehind_59  (x0 : Nat) (x1 : Int32) (x3 : Int32) (x4 : Int32) (x5 : Int32) (x6 : Int32)  (K : MK) (N : MK) (I : MI) (L : ML) (R : MR) (C16 : Nat → Int32 → Int32 → Int32 → Int32 → Prop) (Q : Int32 → Prop) : Prop := w_X9_scopeBehind_64 x0 x1 x3 x4 x5 x6 1 K N I L R C16 Q
def w_X9_scopeBehind_16  (x0 : Nat) (x1 : Int32) (x3 : Int32) (x4 : Int32) (x5 : Int32)  (K : MK) (N : MK) (I : MI) (L : ML) (R : MR)  (Q : Int32 → Prop) : Prop := ∃ J : Nat → Nat → Int32 → Int32 → Int32 → Int32 → Prop, (∃ n, J n x0 x1 x3 x4 x5) ∧ ∀ (n : Nat) (x0 : Nat) (x1 : Int32) (x3 : Int32) (x4 : Int32) (x5 : Int32), J n x0 x1 x3 x4 x5 → K x0 = 10 ∧ ∃ b6 : Nat, R x0 2 = some b6 ∧ K b6 = 8 ∧ ((I b6 3) ≤ x5 → Q x3) ∧ (¬ (I b6 3) ≤ x5 → w_X7_at b6 x5 3 K N I L R (fun r8 => (x3 = (-1) → w_X9_scopeBehind_59 x0 x1 x3 x4 x5 r8 K N I L R (fun y0 y1 y2 y3 y4 => ∃ n1, n1 < n ∧ J n1 y0 y1 y2 y3 y4) Q) ∧ (¬ x3 = (-1) → w_X7_at b6 x3 3 K N I L R (fun r15 => (r15 ≤ r8 → w_X9_scopeBehind_64 x0 x1 x3 x4 x5 r8 0 K N I L R (fun y0 y1 y2 y3 y4 => ∃ n1, n1 < n ∧ J n1 y0 y1 y2 y3 y4) Q) ∧ (¬ r15 ≤ r8 → w_X9_scopeBehind_59 x0 x1 x3 x4 x5 r8 K N I L R (fun y0 y1 y2 y3 y4 => ∃ n1, n1 < n ∧ J n1 y0 y1 y2 y3 y4) Q)))))
def w_X9_scopeBehind  (a0 : Nat) (a1 : Int32) (a2 : Int32) (K : MK) (N : MK) (I : MI) (L : ML) (R : MR) (Q : Int32 → Prop) : Prop := K a0 = 10 ∧ ∃ b2 : Nat, R a0 2 = some b2 ∧ K b2 = 8 ∧ w_X7_at b2 a2 3 K N I L R (fun r4 => w_X9_scopeBehind_16 a0 a1 (-1) r4 0 K N I L R Q)
set_option maxHeartbeats 4000000 in
set_option maxRecDepth 100000 in
theorem z_X9_scopeBehind_64 {X : ZX} {G : ZG}  {x0 : Nat} {x1 : Int32} {x3 : Int32} {x4 : Int32} {x5 : Int32} {x6 : Int32} {s0 : Int32} {K : MK} {N : MK} {I : MI} {L : ML} {R : MR} {C16 : Nat → Int32 → Int32 → Int32 → Int32 → Prop} {Q : Int32 → Prop} (hC : ZOk X G RX9 cX9_scopeBehind 8 (some .int)) (hRm : X.2.2.2.1 = rm_X9_scopeBehind) (hC16 : ∀ (y0 : Nat) (y1 : Int32) (y2 : Int32) (y3 : Int32) (y4 : Int32) , C16 y0 y1 y2 y3 y4 → Z X G 8 0 0 (z_T X G (qPi K N I L R Q) 0 0) K N I L R 16 [(0, .ref y0), (1, .int y1), (3, .int y2), (4, .int y3), (5, .int y4)] []) (h : w_X9_scopeBehind_64 x0 x1 x3 x4 x5 x6 s0 K N I L R C16 Q) : Z X G 8 0 0 (z_T X G (qPi K N I L R Q) 0 0) K N I L R 64 [(0, .ref x0), (1, .int x1), (3, .int x3), (4, .int x4), (5, .int x5), (6, .int x6)] [.int s0] := by
  delta w_X9_scopeBehind_64 at h
  refine z_istore hC (lv1 := [(7, .int s0), (0, .ref x0), (1, .int x1), (3, .int x3), (4, .int x4), (5, .int x5), (6, .int x6)]) dX9_scopeBehind_64 (by decide) rfl ?_
  refine z_aload_n hC (q := 1) dX9_scopeBehind_66 rfl rfl ?_
  refine z_iload hC (q := 5) dX9_scopeBehind_67 rfl ?_
  refine z_iload_n hC (q := 2) dX9_scopeBehind_69 rfl rfl ?_
  obtain ⟨hk9, h⟩ := h
  refine cl_RX9_75 hC (c_X9_scopeHas _ G x0 x5 x1 K N I L R _ h) hk9 dX9_scopeBehind_70 (by rw [hRm]; exact ⟨Nat.le_of_ble_eq_true rfl, Nat.le_of_ble_eq_true rfl⟩) ⟨Nat.zero_le _, Nat.zero_le _⟩ (Nat.le_of_ble_eq_true rfl) (z_kPz (fun r10 h => ?_))
  refine z_ifz_eq hC (tgt := 91) dX9_scopeBehind_73 (by decide) (fun hc => ?_) (fun hc => ?_)
  · have h := h.1 hc
    obtain ⟨v11, ev11⟩ : ∃ y : Int32, y = x5 + 1 := ⟨_, rfl⟩
    have h := h v11 ev11
    refine z_iinc hC (q := 5) (v := v11) (lv1 := [(5, .int v11), (7, .int s0), (0, .ref x0), (1, .int x1), (3, .int x3), (4, .int x4), (6, .int x6)]) dX9_scopeBehind_91 rfl (by rw [ev11, k_iinc_1]) (by decide) rfl ?_
    refine z_goto hC (tgt := 16) dX9_scopeBehind_94 (by decide) ?_
    exact z_sub [(0, .ref x0), (1, .int x1), (3, .int x3), (4, .int x4), (5, .int v11)] [2, 3, 4, 5, 0] rfl (hC16 _ _ _ _ _ h)
  · have h := h.2 hc
    refine z_iload hC (q := 6) dX9_scopeBehind_76 rfl ?_
    refine z_iload hC (q := 4) dX9_scopeBehind_78 rfl ?_
    refine z_icmp_le hC (tgt := 91) dX9_scopeBehind_80 (by decide) (fun hc => ?_) (fun hc => ?_)
    · have h := h.1 hc
      obtain ⟨v12, ev12⟩ : ∃ y : Int32, y = x5 + 1 := ⟨_, rfl⟩
      have h := h v12 ev12
      refine z_iinc hC (q := 5) (v := v12) (lv1 := [(5, .int v12), (7, .int s0), (0, .ref x0), (1, .int x1), (3, .int x3), (4, .int x4), (6, .int x6)]) dX9_scopeBehind_91 rfl (by rw [ev12, k_iinc_1]) (by decide) rfl ?_
      refine z_goto hC (tgt := 16) dX9_scopeBehind_94 (by decide) ?_
      exact z_sub [(0, .ref x0), (1, .int x1), (3, .int x3), (4, .int x4), (5, .int v12)] [2, 3, 4, 5, 0] rfl (hC16 _ _ _ _ _ h)
    · have h := h.2 hc
      refine z_iload hC (q := 0) dX9_scopeBehind_83 rfl ?_
      refine z_if_eq hC (tgt := 91) dX9_scopeBehind_85 (by decide) (fun hc => ?_) (fun hc => ?_)
      · have h := h.1 hc
        obtain ⟨v13, ev13⟩ : ∃ y : Int32, y = x5 + 1 := ⟨_, rfl⟩
        have h := h v13 ev13
        refine z_iinc hC (q := 5) (v := v13) (lv1 := [(5, .int v13), (7, .int s0), (0, .ref x0), (1, .int x1), (3, .int x3), (4, .int x4), (6, .int x6)]) dX9_scopeBehind_91 rfl (by rw [ev13, k_iinc_1]) (by decide) rfl ?_
        refine z_goto hC (tgt := 16) dX9_scopeBehind_94 (by decide) ?_
        exact z_sub [(0, .ref x0), (1, .int x1), (3, .int x3), (4, .int x4), (5, .int v13)] [2, 3, 4, 5, 0] rfl (hC16 _ _ _ _ _ h)
      · have h := h.2 hc
        refine z_iload hC (q := 5) dX9_scopeBehind_88 rfl ?_
        refine z_istore_n hC (lv1 := [(3, .int x5), (7, .int s0), (0, .ref x0), (1, .int x1), (4, .int x4), (5, .int x5), (6, .int x6)]) dX9_scopeBehind_90 rfl (by decide) rfl ?_
        obtain ⟨v14, ev14⟩ : ∃ y : Int32, y = x5 + 1 := ⟨_, rfl⟩
        have h := h v14 ev14
        refine z_iinc hC (q := 5) (v := v14) (lv1 := [(5, .int v14), (3, .int x5), (7, .int s0), (0, .ref x0), (1, .int x1), (4, .int x4), (6, .int x6)]) dX9_scopeBehind_91 rfl (by rw [ev14, k_iinc_1]) (by decide) rfl ?_
        refine z_goto hC (tgt := 16) dX9_scopeBehind_94 (by decide) ?_
        exact z_sub [(0, .ref x0), (1, .int x1), (3, .int x5), (4, .int x4), (5, .int v14)] [3, 4, 1, 5, 0] rfl (hC16 _ _ _ _ _ h)
set_option maxHeartbeats 4000000 in
set_option maxRecDepth 100000 in
theorem z_X9_scopeBehind_59 {X : ZX} {G : ZG}  {x0 : Nat} {x1 : Int32} {x3 : Int32} {x4 : Int32} {x5 : Int32} {x6 : Int32}  {K : MK} {N : MK} {I : MI} {L : ML} {R : MR} {C16 : Nat → Int32 → Int32 → Int32 → Int32 → Prop} {Q : Int32 → Prop} (hC : ZOk X G RX9 cX9_scopeBehind 8 (some .int)) (hRm : X.2.2.2.1 = rm_X9_scopeBehind) (hC16 : ∀ (y0 : Nat) (y1 : Int32) (y2 : Int32) (y3 : Int32) (y4 : Int32) , C16 y0 y1 y2 y3 y4 → Z X G 8 0 0 (z_T X G (qPi K N I L R Q) 0 0) K N I L R 16 [(0, .ref y0), (1, .int y1), (3, .int y2), (4, .int y3), (5, .int y4)] []) (h : w_X9_scopeBehind_59 x0 x1 x3 x4 x5 x6 K N I L R C16 Q) : Z X G 8 0 0 (z_T X G (qPi K N I L R Q) 0 0) K N I L R 59 [(0, .ref x0), (1, .int x1), (3, .int x3), (4, .int x4), (5, .int x5), (6, .int x6)] [] := by
  delta w_X9_scopeBehind_59 at h
  refine z_iconst hC (v := 1) k_iconst_1 dX9_scopeBehind_59 ?_
  refine z_goto hC (tgt := 64) dX9_scopeBehind_60 (by decide) ?_
  exact z_sub [(0, .ref x0), (1, .int x1), (3, .int x3), (4, .int x4), (5, .int x5), (6, .int x6)] [0, 1, 2, 3, 4, 5] rfl (z_X9_scopeBehind_64 hC hRm hC16 h)
set_option maxHeartbeats 4000000 in
set_option maxRecDepth 100000 in
theorem z_X9_scopeBehind_16 {X : ZX} {G : ZG}  {x0 : Nat} {x1 : Int32} {x3 : Int32} {x4 : Int32} {x5 : Int32}  {K : MK} {N : MK} {I : MI} {L : ML} {R : MR}  {Q : Int32 → Prop} (hC : ZOk X G RX9 cX9_scopeBehind 8 (some .int)) (hRm : X.2.2.2.1 = rm_X9_scopeBehind) (h : w_X9_scopeBehind_16 x0 x1 x3 x4 x5 K N I L R  Q) : Z X G 8 0 0 (z_T X G (qPi K N I L R Q) 0 0) K N I L R 16 [(0, .ref x0), (1, .int x1), (3, .int x3), (4, .int x4), (5, .int x5)] [] := by
  delta w_X9_scopeBehind_16 at h
  obtain ⟨J, ⟨n, h0⟩, hs⟩ := h
  have key : ∀ (n : Nat) (x0 : Nat) (x1 : Int32) (x3 : Int32) (x4 : Int32) (x5 : Int32), J n x0 x1 x3 x4 x5 → Z X G 8 0 0 (z_T X G (qPi K N I L R Q) 0 0) K N I L R 16 [(0, .ref x0), (1, .int x1), (3, .int x3), (4, .int x4), (5, .int x5)] [] := by
    intro n
    induction n using Nat.strongRecOn with
    | _ n ih =>
      intro x0 x1 x3 x4 x5 hJ
      have hC16 : ∀ (y0 : Nat) (y1 : Int32) (y2 : Int32) (y3 : Int32) (y4 : Int32) , (∃ n1, n1 < n ∧ J n1 y0 y1 y2 y3 y4) → Z X G 8 0 0 (z_T X G (qPi K N I L R Q) 0 0) K N I L R 16 [(0, .ref y0), (1, .int y1), (3, .int y2), (4, .int y3), (5, .int y4)] [] := fun y0 y1 y2 y3 y4 ⟨n1, hn1, hj⟩ => ih n1 hn1 y0 y1 y2 y3 y4 hj
      have h := hs n x0 x1 x3 x4 x5 hJ
      refine z_iload hC (q := 4) dX9_scopeBehind_16 rfl ?_
      refine z_aload_n hC (q := 0) dX9_scopeBehind_18 rfl rfl ?_
      obtain ⟨hk5, h⟩ := h
      obtain ⟨b6, hb6, h⟩ := h
      refine gf_RX9_24 hC dX9_scopeBehind_19 hk5 hb6 ?_
      obtain ⟨hk7, h⟩ := h
      refine gf_RX9_50 hC dX9_scopeBehind_22 hk7 ?_
      refine z_icmp_ge hC (tgt := 97) dX9_scopeBehind_25 (by decide) (fun hc => ?_) (fun hc => ?_)
      · have h := h.1 hc
        refine z_iload_n hC (q := 2) dX9_scopeBehind_97 rfl rfl ?_
        exact z_iret hC dX9_scopeBehind_98 ⟨_, rfl, rfl, rfl, rfl, rfl, rfl, h⟩
      · have h := h.2 hc
        refine z_aload_n hC (q := 0) dX9_scopeBehind_28 rfl rfl ?_
        refine gf_RX9_24 hC dX9_scopeBehind_29 hk5 hb6 ?_
        refine z_iload hC (q := 4) dX9_scopeBehind_32 rfl ?_
        refine z_iconst hC (v := 3) k_iconst_3 dX9_scopeBehind_34 ?_
        refine cl_RX9_53 hC (c_X7_at _ G b6 x5 3 K N I L R _ h) hk7 dX9_scopeBehind_35 (by rw [hRm]; exact ⟨Nat.le_of_ble_eq_true rfl, Nat.le_of_ble_eq_true rfl⟩) ⟨Nat.zero_le _, Nat.zero_le _⟩ (Nat.le_of_ble_eq_true rfl) (z_kPi (fun r8 h => ?_))
        refine z_istore hC (lv1 := [(6, .int r8), (0, .ref x0), (1, .int x1), (3, .int x3), (4, .int x4), (5, .int x5)]) dX9_scopeBehind_38 (by decide) rfl ?_
        refine z_iload_n hC (q := 3) dX9_scopeBehind_40 rfl rfl ?_
        refine z_iconst hC (v := (-1)) k_iconst_m1 dX9_scopeBehind_41 ?_
        refine z_icmp_eq hC (tgt := 59) dX9_scopeBehind_42 (by decide) (fun hc => ?_) (fun hc => ?_)
        · have h := h.1 hc
          exact z_sub [(0, .ref x0), (1, .int x1), (3, .int x3), (4, .int x4), (5, .int x5), (6, .int r8)] [1, 2, 3, 4, 5, 0] rfl (z_X9_scopeBehind_59 hC hRm hC16 h)
        · have h := h.2 hc
          refine z_iload hC (q := 0) dX9_scopeBehind_45 rfl ?_
          refine z_aload_n hC (q := 1) dX9_scopeBehind_47 rfl rfl ?_
          refine gf_RX9_24 hC dX9_scopeBehind_48 hk5 hb6 ?_
          refine z_iload_n hC (q := 3) dX9_scopeBehind_51 rfl rfl ?_
          refine z_iconst hC (v := 3) k_iconst_3 dX9_scopeBehind_52 ?_
          refine cl_RX9_53 hC (c_X7_at _ G b6 x3 3 K N I L R _ h) hk7 dX9_scopeBehind_53 (by rw [hRm]; exact ⟨Nat.le_of_ble_eq_true rfl, Nat.le_of_ble_eq_true rfl⟩) ⟨Nat.zero_le _, Nat.zero_le _⟩ (Nat.le_of_ble_eq_true rfl) (z_kPi (fun r15 h => ?_))
          refine z_icmp_ge hC (tgt := 63) dX9_scopeBehind_56 (by decide) (fun hc => ?_) (fun hc => ?_)
          · have h := h.1 hc
            refine z_iconst hC (v := 0) k_iconst_0 dX9_scopeBehind_63 ?_
            exact z_sub [(0, .ref x0), (1, .int x1), (3, .int x3), (4, .int x4), (5, .int x5), (6, .int r8)] [1, 2, 3, 4, 5, 0] rfl (z_X9_scopeBehind_64 hC hRm hC16 h)
          · have h := h.2 hc
            exact z_sub [(0, .ref x0), (1, .int x1), (3, .int x3), (4, .int x4), (5, .int x5), (6, .int r8)] [1, 2, 3, 4, 5, 0] rfl (z_X9_scopeBehind_59 hC hRm hC16 h)
  exact key n x0 x1 x3 x4 x5 h0
set_option maxHeartbeats 4000000 in
set_option maxRecDepth 100000 in
theorem c_X9_scopeBehind  (l : Launch) (G : ZG) (a0 : Nat) (a1 : Int32) (a2 : Int32) (K : MK) (N : MK) (I : MI) (L : ML) (R : MR) (Q : Int32 → Prop) (h : w_X9_scopeBehind a0 a1 a2 K N I L R Q) : Met l yX9_scopeBehind (.code yX9_scopeBehind cX9_scopeBehind 8 (some .int) :: z_tbl) rm_X9_scopeBehind (z_Pc G [.ref a0, .int a1, .int a2] K N I L R) (z_Qc G (qPi K N I L R Q)) 0 0 (z_A G) := by
  refine z_met (by decide) (Nat.le_of_ble_eq_true rfl) (fun X hX hRm hC0 hnm => ?_)
  subst hX
  have hC : ZOk X G RX9 cX9_scopeBehind 8 (some .int) := hC0
  show Z X G 8 0 0 _ K N I L R 0 [(0, .ref a0), (1, .int a1), (2, .int a2)] []
  delta w_X9_scopeBehind at h
  refine z_iconst hC (v := (-1)) k_iconst_m1 dX9_scopeBehind_0 ?_
  refine z_istore_n hC (lv1 := [(3, .int (-1)), (0, .ref a0), (1, .int a1), (2, .int a2)]) dX9_scopeBehind_1 rfl (by decide) rfl ?_
  refine z_aload_n hC (q := 1) dX9_scopeBehind_2 rfl rfl ?_
  obtain ⟨hk1, h⟩ := h
  obtain ⟨b2, hb2, h⟩ := h
  refine gf_RX9_24 hC dX9_scopeBehind_3 hk1 hb2 ?_
  refine z_iload_n hC (q := 3) dX9_scopeBehind_6 rfl rfl ?_
  refine z_iconst hC (v := 3) k_iconst_3 dX9_scopeBehind_7 ?_
  obtain ⟨hk3, h⟩ := h
  refine cl_RX9_53 hC (c_X7_at _ G b2 a2 3 K N I L R _ h) hk3 dX9_scopeBehind_8 (by rw [hRm]; exact ⟨Nat.le_of_ble_eq_true rfl, Nat.le_of_ble_eq_true rfl⟩) ⟨Nat.zero_le _, Nat.zero_le _⟩ (Nat.le_of_ble_eq_true rfl) (z_kPi (fun r4 h => ?_))
  refine z_istore hC (lv1 := [(4, .int r4), (3, .int (-1)), (0, .ref a0), (1, .int a1), (2, .int a2)]) dX9_scopeBehind_11 (by decide) rfl ?_
  refine z_iconst hC (v := 0) k_iconst_0 dX9_scopeBehind_13 ?_
  refine z_istore hC (lv1 := [(5, .int 0), (4, .int r4), (3, .int (-1)), (0, .ref a0), (1, .int a1), (2, .int a2)]) dX9_scopeBehind_14 (by decide) rfl ?_
  exact z_sub [(0, .ref a0), (1, .int a1), (3, .int (-1)), (4, .int r4), (5, .int 0)] [3, 4, 2, 1, 0] rfl (z_X9_scopeBehind_16 hC hRm h)
def w_X9_stepTo_71  (x0 : Nat) (x3 : Int32) (x4 : Int32) (x5 : Int32) (s0 : Int32) (K : MK) (N : MK) (I : MI) (L : ML) (R : MR) (C29 : Nat → Int32 → Int32 → Int32 → Prop) (Q : Int32 → Prop) : Prop := K x0 = 10 ∧ ∃ b12 : Nat, R x0 1 = some b12 ∧ K b12 = 8 ∧ w_X7_at b12 x5 1 K N I L R (fun r14 => (¬ r14 = x3 → w_X7_at b12 x5 0 K N I L R (fun r15 => Q r15)) ∧ (r14 = x3 → (s0 = 0 → ∀ v16 : Int32, v16 = x5 + 1 → C29 x0 x3 x4 v16) ∧ (¬ s0 = 0 → w_X7_at b12 x5 0 K N I L R (fun r17 => Q r17))))
def w_X9_stepTo_70  (x0 : Nat) (x3 : Int32) (x4 : Int32) (x5 : Int32)  (K : MK) (N : MK) (I : MI) (L : ML) (R : MR) (C29 : Nat → Int32 → Int32 → Int32 → Prop) (Q : Int32 → Prop) : Prop := w_X9_stepTo_71 x0 x3 x4 x5 0 K N I L R C29 Q
def w_X9_stepTo_29  (x0 : Nat) (x3 : Int32) (x4 : Int32) (x5 : Int32)  (K : MK) (N : MK) (I : MI) (L : ML) (R : MR)  (Q : Int32 → Prop) : Prop := ∃ J : Nat → Nat → Int32 → Int32 → Int32 → Prop, (∃ n, J n x0 x3 x4 x5) ∧ ∀ (n : Nat) (x0 : Nat) (x3 : Int32) (x4 : Int32) (x5 : Int32), J n x0 x3 x4 x5 → K x0 = 10 ∧ ∃ b9 : Nat, R x0 1 = some b9 ∧ K b9 = 8 ∧ ((I b9 3) ≤ x5 → Q (-1)) ∧ (¬ (I b9 3) ≤ x5 → (x4 = (-1) → w_X9_stepTo_70 x0 x3 x4 x5 K N I L R (fun y0 y1 y2 y3 => ∃ n1, n1 < n ∧ J n1 y0 y1 y2 y3) Q) ∧ (¬ x4 = (-1) → w_X7_at b9 x5 0 K N I L R (fun r18 => w_X9_scopeHas x0 x4 r18 K N I L R (fun r19 => (r19 = true → w_X9_stepTo_70 x0 x3 x4 x5 K N I L R (fun y0 y1 y2 y3 => ∃ n1, n1 < n ∧ J n1 y0 y1 y2 y3) Q) ∧ (r19 = false → w_X9_stepTo_71 x0 x3 x4 x5 1 K N I L R (fun y0 y1 y2 y3 => ∃ n1, n1 < n ∧ J n1 y0 y1 y2 y3) Q)))))
def w_X9_stepTo  (a0 : Nat) (a1 : Int32) (K : MK) (N : MK) (I : MI) (L : ML) (R : MR) (Q : Int32 → Prop) : Prop := K a0 = 10 ∧ w_X9_rowOf a0 a1 K N I L R (fun r2 => ∃ b3 : Nat, R a0 1 = some b3 ∧ K b3 = 8 ∧ w_X7_at b3 r2 1 K N I L R (fun r5 => w_X9_scopeBehind a0 a1 (-1) K N I L R (fun r6 => ∀ v7 : Int32, v7 = (r2 + 1) → w_X9_stepTo_29 a0 r5 r6 v7 K N I L R Q)))
set_option maxHeartbeats 4000000 in
set_option maxRecDepth 100000 in
theorem z_X9_stepTo_71 {X : ZX} {G : ZG}  {x0 : Nat} {x3 : Int32} {x4 : Int32} {x5 : Int32} {s0 : Int32} {K : MK} {N : MK} {I : MI} {L : ML} {R : MR} {C29 : Nat → Int32 → Int32 → Int32 → Prop} {Q : Int32 → Prop} (hC : ZOk X G RX9 cX9_stepTo 7 (some .int)) (hRm : X.2.2.2.1 = rm_X9_stepTo) (hC29 : ∀ (y0 : Nat) (y1 : Int32) (y2 : Int32) (y3 : Int32) , C29 y0 y1 y2 y3 → Z X G 7 0 0 (z_T X G (qPi K N I L R Q) 0 0) K N I L R 29 [(0, .ref y0), (3, .int y1), (4, .int y2), (5, .int y3)] []) (h : w_X9_stepTo_71 x0 x3 x4 x5 s0 K N I L R C29 Q) : Z X G 7 0 0 (z_T X G (qPi K N I L R Q) 0 0) K N I L R 71 [(0, .ref x0), (3, .int x3), (4, .int x4), (5, .int x5)] [.int s0] := by
  delta w_X9_stepTo_71 at h
  refine z_istore hC (lv1 := [(6, .int s0), (0, .ref x0), (3, .int x3), (4, .int x4), (5, .int x5)]) dX9_stepTo_71 (by decide) rfl ?_
  refine z_aload_n hC (q := 1) dX9_stepTo_73 rfl rfl ?_
  obtain ⟨hk11, h⟩ := h
  obtain ⟨b12, hb12, h⟩ := h
  refine gf_RX9_20 hC dX9_stepTo_74 hk11 hb12 ?_
  refine z_iload hC (q := 4) dX9_stepTo_77 rfl ?_
  refine z_iconst hC (v := 1) k_iconst_1 dX9_stepTo_79 ?_
  obtain ⟨hk13, h⟩ := h
  refine cl_RX9_53 hC (c_X7_at _ G b12 x5 1 K N I L R _ h) hk13 dX9_stepTo_80 (by rw [hRm]; exact ⟨Nat.le_of_ble_eq_true rfl, Nat.le_of_ble_eq_true rfl⟩) ⟨Nat.zero_le _, Nat.zero_le _⟩ (Nat.le_of_ble_eq_true rfl) (z_kPi (fun r14 h => ?_))
  refine z_iload_n hC (q := 2) dX9_stepTo_83 rfl rfl ?_
  refine z_icmp_ne hC (tgt := 92) dX9_stepTo_84 (by decide) (fun hc => ?_) (fun hc => ?_)
  · have h := h.1 hc
    refine z_aload_n hC (q := 1) dX9_stepTo_92 rfl rfl ?_
    refine gf_RX9_20 hC dX9_stepTo_93 hk11 hb12 ?_
    refine z_iload hC (q := 4) dX9_stepTo_96 rfl ?_
    refine z_iconst hC (v := 0) k_iconst_0 dX9_stepTo_98 ?_
    refine cl_RX9_53 hC (c_X7_at _ G b12 x5 0 K N I L R _ h) hk13 dX9_stepTo_99 (by rw [hRm]; exact ⟨Nat.le_of_ble_eq_true rfl, Nat.le_of_ble_eq_true rfl⟩) ⟨Nat.zero_le _, Nat.zero_le _⟩ (Nat.le_of_ble_eq_true rfl) (z_kPi (fun r15 h => ?_))
    exact z_iret hC dX9_stepTo_102 ⟨_, rfl, rfl, rfl, rfl, rfl, rfl, h⟩
  · have h := h.2 hc
    refine z_iload hC (q := 0) dX9_stepTo_87 rfl ?_
    refine z_if_eq hC (tgt := 103) dX9_stepTo_89 (by decide) (fun hc => ?_) (fun hc => ?_)
    · have h := h.1 hc
      obtain ⟨v16, ev16⟩ : ∃ y : Int32, y = x5 + 1 := ⟨_, rfl⟩
      have h := h v16 ev16
      refine z_iinc hC (q := 4) (v := v16) (lv1 := [(5, .int v16), (6, .int s0), (0, .ref x0), (3, .int x3), (4, .int x4)]) dX9_stepTo_103 rfl (by rw [ev16, k_iinc_1]) (by decide) rfl ?_
      refine z_goto hC (tgt := 29) dX9_stepTo_106 (by decide) ?_
      exact z_sub [(0, .ref x0), (3, .int x3), (4, .int x4), (5, .int v16)] [2, 3, 4, 0] rfl (hC29 _ _ _ _ h)
    · have h := h.2 hc
      refine z_aload_n hC (q := 1) dX9_stepTo_92 rfl rfl ?_
      refine gf_RX9_20 hC dX9_stepTo_93 hk11 hb12 ?_
      refine z_iload hC (q := 4) dX9_stepTo_96 rfl ?_
      refine z_iconst hC (v := 0) k_iconst_0 dX9_stepTo_98 ?_
      refine cl_RX9_53 hC (c_X7_at _ G b12 x5 0 K N I L R _ h) hk13 dX9_stepTo_99 (by rw [hRm]; exact ⟨Nat.le_of_ble_eq_true rfl, Nat.le_of_ble_eq_true rfl⟩) ⟨Nat.zero_le _, Nat.zero_le _⟩ (Nat.le_of_ble_eq_true rfl) (z_kPi (fun r17 h => ?_))
      exact z_iret hC dX9_stepTo_102 ⟨_, rfl, rfl, rfl, rfl, rfl, rfl, h⟩
set_option maxHeartbeats 4000000 in
set_option maxRecDepth 100000 in
theorem z_X9_stepTo_70 {X : ZX} {G : ZG}  {x0 : Nat} {x3 : Int32} {x4 : Int32} {x5 : Int32}  {K : MK} {N : MK} {I : MI} {L : ML} {R : MR} {C29 : Nat → Int32 → Int32 → Int32 → Prop} {Q : Int32 → Prop} (hC : ZOk X G RX9 cX9_stepTo 7 (some .int)) (hRm : X.2.2.2.1 = rm_X9_stepTo) (hC29 : ∀ (y0 : Nat) (y1 : Int32) (y2 : Int32) (y3 : Int32) , C29 y0 y1 y2 y3 → Z X G 7 0 0 (z_T X G (qPi K N I L R Q) 0 0) K N I L R 29 [(0, .ref y0), (3, .int y1), (4, .int y2), (5, .int y3)] []) (h : w_X9_stepTo_70 x0 x3 x4 x5 K N I L R C29 Q) : Z X G 7 0 0 (z_T X G (qPi K N I L R Q) 0 0) K N I L R 70 [(0, .ref x0), (3, .int x3), (4, .int x4), (5, .int x5)] [] := by
  delta w_X9_stepTo_70 at h
  refine z_iconst hC (v := 0) k_iconst_0 dX9_stepTo_70 ?_
  exact z_sub [(0, .ref x0), (3, .int x3), (4, .int x4), (5, .int x5)] [0, 1, 2, 3] rfl (z_X9_stepTo_71 hC hRm hC29 h)
set_option maxHeartbeats 4000000 in
set_option maxRecDepth 100000 in
theorem z_X9_stepTo_29 {X : ZX} {G : ZG}  {x0 : Nat} {x3 : Int32} {x4 : Int32} {x5 : Int32}  {K : MK} {N : MK} {I : MI} {L : ML} {R : MR}  {Q : Int32 → Prop} (hC : ZOk X G RX9 cX9_stepTo 7 (some .int)) (hRm : X.2.2.2.1 = rm_X9_stepTo) (h : w_X9_stepTo_29 x0 x3 x4 x5 K N I L R  Q) : Z X G 7 0 0 (z_T X G (qPi K N I L R Q) 0 0) K N I L R 29 [(0, .ref x0), (3, .int x3), (4, .int x4), (5, .int x5)] [] := by
  delta w_X9_stepTo_29 at h
  obtain ⟨J, ⟨n, h0⟩, hs⟩ := h
  have key : ∀ (n : Nat) (x0 : Nat) (x3 : Int32) (x4 : Int32) (x5 : Int32), J n x0 x3 x4 x5 → Z X G 7 0 0 (z_T X G (qPi K N I L R Q) 0 0) K N I L R 29 [(0, .ref x0), (3, .int x3), (4, .int x4), (5, .int x5)] [] := by
    intro n
    induction n using Nat.strongRecOn with
    | _ n ih =>
      intro x0 x3 x4 x5 hJ
      have hC29 : ∀ (y0 : Nat) (y1 : Int32) (y2 : Int32) (y3 : Int32) , (∃ n1, n1 < n ∧ J n1 y0 y1 y2 y3) → Z X G 7 0 0 (z_T X G (qPi K N I L R Q) 0 0) K N I L R 29 [(0, .ref y0), (3, .int y1), (4, .int y2), (5, .int y3)] [] := fun y0 y1 y2 y3 ⟨n1, hn1, hj⟩ => ih n1 hn1 y0 y1 y2 y3 hj
      have h := hs n x0 x3 x4 x5 hJ
      refine z_iload hC (q := 3) dX9_stepTo_29 rfl ?_
      refine z_aload_n hC (q := 0) dX9_stepTo_31 rfl rfl ?_
      obtain ⟨hk8, h⟩ := h
      obtain ⟨b9, hb9, h⟩ := h
      refine gf_RX9_20 hC dX9_stepTo_32 hk8 hb9 ?_
      obtain ⟨hk10, h⟩ := h
      refine gf_RX9_50 hC dX9_stepTo_35 hk10 ?_
      refine z_icmp_ge hC (tgt := 109) dX9_stepTo_38 (by decide) (fun hc => ?_) (fun hc => ?_)
      · have h := h.1 hc
        refine z_iconst hC (v := (-1)) k_iconst_m1 dX9_stepTo_109 ?_
        exact z_iret hC dX9_stepTo_110 ⟨_, rfl, rfl, rfl, rfl, rfl, rfl, h⟩
      · have h := h.2 hc
        refine z_iload hC (q := 2) dX9_stepTo_41 rfl ?_
        refine z_iconst hC (v := (-1)) k_iconst_m1 dX9_stepTo_43 ?_
        refine z_icmp_eq hC (tgt := 70) dX9_stepTo_44 (by decide) (fun hc => ?_) (fun hc => ?_)
        · have h := h.1 hc
          exact z_sub [(0, .ref x0), (3, .int x3), (4, .int x4), (5, .int x5)] [0, 1, 2, 3] rfl (z_X9_stepTo_70 hC hRm hC29 h)
        · have h := h.2 hc
          refine z_aload_n hC (q := 0) dX9_stepTo_47 rfl rfl ?_
          refine z_iload hC (q := 2) dX9_stepTo_48 rfl ?_
          refine z_aload_n hC (q := 0) dX9_stepTo_50 rfl rfl ?_
          refine gf_RX9_20 hC dX9_stepTo_51 hk8 hb9 ?_
          refine z_iload hC (q := 3) dX9_stepTo_54 rfl ?_
          refine z_iconst hC (v := 0) k_iconst_0 dX9_stepTo_56 ?_
          refine cl_RX9_53 hC (c_X7_at _ G b9 x5 0 K N I L R _ h) hk10 dX9_stepTo_57 (by rw [hRm]; exact ⟨Nat.le_of_ble_eq_true rfl, Nat.le_of_ble_eq_true rfl⟩) ⟨Nat.zero_le _, Nat.zero_le _⟩ (Nat.le_of_ble_eq_true rfl) (z_kPi (fun r18 h => ?_))
          refine cl_RX9_75 hC (c_X9_scopeHas _ G x0 x4 r18 K N I L R _ h) hk8 dX9_stepTo_60 (by rw [hRm]; exact ⟨Nat.le_of_ble_eq_true rfl, Nat.le_of_ble_eq_true rfl⟩) ⟨Nat.zero_le _, Nat.zero_le _⟩ (Nat.le_of_ble_eq_true rfl) (z_kPz (fun r19 h => ?_))
          refine z_ifz_ne hC (tgt := 70) dX9_stepTo_63 (by decide) (fun hc => ?_) (fun hc => ?_)
          · have h := h.1 hc
            exact z_sub [(0, .ref x0), (3, .int x3), (4, .int x4), (5, .int x5)] [0, 1, 2, 3] rfl (z_X9_stepTo_70 hC hRm hC29 h)
          · have h := h.2 hc
            refine z_iconst hC (v := 1) k_iconst_1 dX9_stepTo_66 ?_
            refine z_goto hC (tgt := 71) dX9_stepTo_67 (by decide) ?_
            exact z_sub [(0, .ref x0), (3, .int x3), (4, .int x4), (5, .int x5)] [0, 1, 2, 3] rfl (z_X9_stepTo_71 hC hRm hC29 h)
  exact key n x0 x3 x4 x5 h0
set_option maxHeartbeats 4000000 in
set_option maxRecDepth 100000 in
theorem c_X9_stepTo  (l : Launch) (G : ZG) (a0 : Nat) (a1 : Int32) (K : MK) (N : MK) (I : MI) (L : ML) (R : MR) (Q : Int32 → Prop) (h : w_X9_stepTo a0 a1 K N I L R Q) : Met l yX9_stepTo (.code yX9_stepTo cX9_stepTo 7 (some .int) :: z_tbl) rm_X9_stepTo (z_Pc G [.ref a0, .int a1] K N I L R) (z_Qc G (qPi K N I L R Q)) 0 0 (z_A G) := by
  refine z_met (by decide) (Nat.le_of_ble_eq_true rfl) (fun X hX hRm hC0 hnm => ?_)
  subst hX
  have hC : ZOk X G RX9 cX9_stepTo 7 (some .int) := hC0
  show Z X G 7 0 0 _ K N I L R 0 [(0, .ref a0), (1, .int a1)] []
  delta w_X9_stepTo at h
  refine z_aload_n hC (q := 0) dX9_stepTo_0 rfl rfl ?_
  refine z_iload_n hC (q := 1) dX9_stepTo_1 rfl rfl ?_
  obtain ⟨hk1, h⟩ := h
  refine cl_RX9_65 hC (c_X9_rowOf _ G a0 a1 K N I L R _ h) hk1 dX9_stepTo_2 (by rw [hRm]; exact ⟨Nat.le_of_ble_eq_true rfl, Nat.le_of_ble_eq_true rfl⟩) ⟨Nat.zero_le _, Nat.zero_le _⟩ (Nat.le_of_ble_eq_true rfl) (z_kPi (fun r2 h => ?_))
  refine z_istore_n hC (lv1 := [(2, .int r2), (0, .ref a0), (1, .int a1)]) dX9_stepTo_5 rfl (by decide) rfl ?_
  refine z_aload_n hC (q := 1) dX9_stepTo_6 rfl rfl ?_
  obtain ⟨b3, hb3, h⟩ := h
  refine gf_RX9_20 hC dX9_stepTo_7 hk1 hb3 ?_
  refine z_iload_n hC (q := 0) dX9_stepTo_10 rfl rfl ?_
  refine z_iconst hC (v := 1) k_iconst_1 dX9_stepTo_11 ?_
  obtain ⟨hk4, h⟩ := h
  refine cl_RX9_53 hC (c_X7_at _ G b3 r2 1 K N I L R _ h) hk4 dX9_stepTo_12 (by rw [hRm]; exact ⟨Nat.le_of_ble_eq_true rfl, Nat.le_of_ble_eq_true rfl⟩) ⟨Nat.zero_le _, Nat.zero_le _⟩ (Nat.le_of_ble_eq_true rfl) (z_kPi (fun r5 h => ?_))
  refine z_istore_n hC (lv1 := [(3, .int r5), (2, .int r2), (0, .ref a0), (1, .int a1)]) dX9_stepTo_15 rfl (by decide) rfl ?_
  refine z_aload_n hC (q := 2) dX9_stepTo_16 rfl rfl ?_
  refine z_iload_n hC (q := 3) dX9_stepTo_17 rfl rfl ?_
  refine z_iconst hC (v := (-1)) k_iconst_m1 dX9_stepTo_18 ?_
  refine cl_RX9_79 hC (c_X9_scopeBehind _ G a0 a1 (-1) K N I L R _ h) hk1 dX9_stepTo_19 (by rw [hRm]; exact ⟨Nat.le_of_ble_eq_true rfl, Nat.le_of_ble_eq_true rfl⟩) ⟨Nat.zero_le _, Nat.zero_le _⟩ (Nat.le_of_ble_eq_true rfl) (z_kPi (fun r6 h => ?_))
  refine z_istore hC (lv1 := [(4, .int r6), (3, .int r5), (2, .int r2), (0, .ref a0), (1, .int a1)]) dX9_stepTo_22 (by decide) rfl ?_
  refine z_iload_n hC (q := 2) dX9_stepTo_24 rfl rfl ?_
  refine z_iconst hC (v := 1) k_iconst_1 dX9_stepTo_25 ?_
  refine z_iadd hC dX9_stepTo_26 ?_
  refine z_topi (fun v7 ev7 => ?_)
  have h := h v7 ev7
  refine z_istore hC (lv1 := [(5, .int v7), (4, .int r6), (3, .int r5), (2, .int r2), (0, .ref a0), (1, .int a1)]) dX9_stepTo_27 (by decide) rfl ?_
  exact z_sub [(0, .ref a0), (3, .int r5), (4, .int r6), (5, .int v7)] [4, 2, 1, 0] rfl (z_X9_stepTo_29 hC hRm h)
def w_X3_leaveScope  (a0 : Nat) (a1 : Nat) (K : MK) (N : MK) (I : MI) (L : ML) (R : MR) (Q : Int32 → MI → Prop) : Prop := K a0 = 4 ∧ K a1 = 10 ∧ w_X9_scopeBehind a1 (I a0 4) (-1) K N I L R (fun r3 => (¬ r3 = (-1) → ∃ b4 : Nat, R a1 2 = some b4 ∧ K b4 = 8 ∧ w_X7_at b4 r3 1 K N I L R (fun r6 => w_X9_hasAddress a1 r6 K N I L R (fun r7 => (r7 = false → Q 2 I) ∧ (r7 = true → w_X3_moveTo a0 r6 K N I L R (fun r8 I9 => Q r8 I9))))) ∧ (r3 = (-1) → Q 1 I))
set_option maxHeartbeats 4000000 in
set_option maxRecDepth 100000 in
theorem c_X3_leaveScope  (l : Launch) (G : ZG) (a0 : Nat) (a1 : Nat) (K : MK) (N : MK) (I : MI) (L : ML) (R : MR) (Q : Int32 → MI → Prop) (h : w_X3_leaveScope a0 a1 K N I L R Q) : Met l yX3_leaveScope (.code yX3_leaveScope cX3_leaveScope 4 (some .int) :: z_tbl) rm_X3_leaveScope (z_Pc G [.ref a0, .ref a1] K N I L R) (z_Qc G (qIi K N L R Q)) 0 0 (z_A G) := by
  refine z_met (by decide) (Nat.le_of_ble_eq_true rfl) (fun X hX hRm hC0 hnm => ?_)
  subst hX
  have hC : ZOk X G RX3 cX3_leaveScope 4 (some .int) := hC0
  show Z X G 4 0 0 _ K N I L R 0 [(0, .ref a0), (1, .ref a1)] []
  delta w_X3_leaveScope at h
  refine z_aload_n hC (q := 1) dX3_leaveScope_0 rfl rfl ?_
  refine z_aload_n hC (q := 0) dX3_leaveScope_1 rfl rfl ?_
  obtain ⟨hk1, h⟩ := h
  refine gf_RX3_25 hC dX3_leaveScope_2 hk1 ?_
  refine z_iconst hC (v := (-1)) k_iconst_m1 dX3_leaveScope_5 ?_
  obtain ⟨hk2, h⟩ := h
  refine cl_RX3_70 hC (c_X9_scopeBehind _ G a1 (I a0 4) (-1) K N I L R _ h) hk2 dX3_leaveScope_6 (by rw [hRm]; exact ⟨Nat.le_of_ble_eq_true rfl, Nat.le_of_ble_eq_true rfl⟩) ⟨Nat.zero_le _, Nat.zero_le _⟩ (Nat.le_of_ble_eq_true rfl) (z_kPi (fun r3 h => ?_))
  refine z_istore_n hC (lv1 := [(2, .int r3), (0, .ref a0), (1, .ref a1)]) dX3_leaveScope_9 rfl (by decide) rfl ?_
  refine z_iload_n hC (q := 0) dX3_leaveScope_10 rfl rfl ?_
  refine z_iconst hC (v := (-1)) k_iconst_m1 dX3_leaveScope_11 ?_
  refine z_icmp_ne hC (tgt := 17) dX3_leaveScope_12 (by decide) (fun hc => ?_) (fun hc => ?_)
  · have h := h.1 hc
    refine z_aload_n hC (q := 2) dX3_leaveScope_17 rfl rfl ?_
    obtain ⟨b4, hb4, h⟩ := h
    refine gf_RX3_74 hC dX3_leaveScope_18 hk2 hb4 ?_
    refine z_iload_n hC (q := 0) dX3_leaveScope_21 rfl rfl ?_
    refine z_iconst hC (v := 1) k_iconst_1 dX3_leaveScope_22 ?_
    obtain ⟨hk5, h⟩ := h
    refine cl_RX3_78 hC (c_X7_at _ G b4 r3 1 K N I L R _ h) hk5 dX3_leaveScope_23 (by rw [hRm]; exact ⟨Nat.le_of_ble_eq_true rfl, Nat.le_of_ble_eq_true rfl⟩) ⟨Nat.zero_le _, Nat.zero_le _⟩ (Nat.le_of_ble_eq_true rfl) (z_kPi (fun r6 h => ?_))
    refine z_istore_n hC (lv1 := [(3, .int r6), (2, .int r3), (0, .ref a0), (1, .ref a1)]) dX3_leaveScope_26 rfl (by decide) rfl ?_
    refine z_aload_n hC (q := 3) dX3_leaveScope_27 rfl rfl ?_
    refine z_iload_n hC (q := 0) dX3_leaveScope_28 rfl rfl ?_
    refine cl_RX3_83 hC (c_X9_hasAddress _ G a1 r6 K N I L R _ h) hk2 dX3_leaveScope_29 (by rw [hRm]; exact ⟨Nat.le_of_ble_eq_true rfl, Nat.le_of_ble_eq_true rfl⟩) ⟨Nat.zero_le _, Nat.zero_le _⟩ (Nat.le_of_ble_eq_true rfl) (z_kPz (fun r7 h => ?_))
    refine z_ifz_eq hC (tgt := 43) dX3_leaveScope_32 (by decide) (fun hc => ?_) (fun hc => ?_)
    · have h := h.1 hc
      refine z_iconst hC (v := 2) k_iconst_2 dX3_leaveScope_43 ?_
      exact z_iret hC dX3_leaveScope_44 ⟨_, rfl, rfl, rfl, rfl, rfl, h⟩
    · have h := h.2 hc
      refine z_aload_n hC (q := 2) dX3_leaveScope_35 rfl rfl ?_
      refine z_iload_n hC (q := 0) dX3_leaveScope_36 rfl rfl ?_
      refine cl_RX3_41 hC (c_X3_moveTo _ G a0 r6 K N I L R _ h) hk1 dX3_leaveScope_37 (by rw [hRm]; exact ⟨Nat.le_of_ble_eq_true rfl, Nat.le_of_ble_eq_true rfl⟩) ⟨Nat.zero_le _, Nat.zero_le _⟩ (Nat.le_of_ble_eq_true rfl) (z_kIi (I := I) (fun r8 I9 h => ?_))
      refine z_goto hC (tgt := 44) dX3_leaveScope_40 (by decide) ?_
      exact z_iret hC dX3_leaveScope_44 ⟨_, rfl, rfl, rfl, rfl, rfl, h⟩
  · have h := h.2 hc
    refine z_iconst hC (v := 1) k_iconst_1 dX3_leaveScope_15 ?_
    exact z_iret hC dX3_leaveScope_16 ⟨_, rfl, rfl, rfl, rfl, rfl, h⟩
def w_X3_stoppingRow_11  (x0 : Nat) (x1 : Nat) (x2 : Int32)  (K : MK) (N : MK) (I : MI) (L : ML) (R : MR)  (Q : Int32 → Prop) : Prop := ∃ J : Nat → Nat → Nat → Int32 → Prop, (∃ n, J n x0 x1 x2) ∧ ∀ (n : Nat) (x0 : Nat) (x1 : Nat) (x2 : Int32), J n x0 x1 x2 → K x1 = 10 ∧ ∃ b6 : Nat, R x1 1 = some b6 ∧ K b6 = 8 ∧ ((I b6 3) ≤ x2 → Q (-1)) ∧ (¬ (I b6 3) ≤ x2 → w_X7_at b6 x2 1 K N I L R (fun r8 => K x0 = 4 ∧ w_X3_hasStop x0 r8 K N I L R (fun r10 => (r10 = false → ∀ v11 : Int32, v11 = x2 + 1 → ∃ n1, n1 < n ∧ J n1 x0 x1 v11) ∧ (r10 = true → w_X7_at b6 x2 0 K N I L R (fun r12 => Q r12)))))
def w_X3_stoppingRow  (a0 : Nat) (a1 : Nat) (K : MK) (N : MK) (I : MI) (L : ML) (R : MR) (Q : Int32 → Prop) : Prop := K a0 = 4 ∧ K a1 = 10 ∧ w_X9_rowOf a1 (I a0 4) K N I L R (fun r3 => ∀ v4 : Int32, v4 = (r3 + 1) → w_X3_stoppingRow_11 a0 a1 v4 K N I L R Q)
set_option maxHeartbeats 4000000 in
set_option maxRecDepth 100000 in
theorem z_X3_stoppingRow_11 {X : ZX} {G : ZG}  {x0 : Nat} {x1 : Nat} {x2 : Int32}  {K : MK} {N : MK} {I : MI} {L : ML} {R : MR}  {Q : Int32 → Prop} (hC : ZOk X G RX3 cX3_stoppingRow 3 (some .int)) (hRm : X.2.2.2.1 = rm_X3_stoppingRow) (h : w_X3_stoppingRow_11 x0 x1 x2 K N I L R  Q) : Z X G 3 0 0 (z_T X G (qPi K N I L R Q) 0 0) K N I L R 11 [(0, .ref x0), (1, .ref x1), (2, .int x2)] [] := by
  delta w_X3_stoppingRow_11 at h
  obtain ⟨J, ⟨n, h0⟩, hs⟩ := h
  have key : ∀ (n : Nat) (x0 : Nat) (x1 : Nat) (x2 : Int32), J n x0 x1 x2 → Z X G 3 0 0 (z_T X G (qPi K N I L R Q) 0 0) K N I L R 11 [(0, .ref x0), (1, .ref x1), (2, .int x2)] [] := by
    intro n
    induction n using Nat.strongRecOn with
    | _ n ih =>
      intro x0 x1 x2 hJ
      have hC11 : ∀ (y0 : Nat) (y1 : Nat) (y2 : Int32) , (∃ n1, n1 < n ∧ J n1 y0 y1 y2) → Z X G 3 0 0 (z_T X G (qPi K N I L R Q) 0 0) K N I L R 11 [(0, .ref y0), (1, .ref y1), (2, .int y2)] [] := fun y0 y1 y2 ⟨n1, hn1, hj⟩ => ih n1 hn1 y0 y1 y2 hj
      have h := hs n x0 x1 x2 hJ
      refine z_iload_n hC (q := 2) dX3_stoppingRow_11 rfl rfl ?_
      refine z_aload_n hC (q := 1) dX3_stoppingRow_12 rfl rfl ?_
      obtain ⟨hk5, h⟩ := h
      obtain ⟨b6, hb6, h⟩ := h
      refine gf_RX3_89 hC dX3_stoppingRow_13 hk5 hb6 ?_
      obtain ⟨hk7, h⟩ := h
      refine gf_RX3_92 hC dX3_stoppingRow_16 hk7 ?_
      refine z_icmp_ge hC (tgt := 54) dX3_stoppingRow_19 (by decide) (fun hc => ?_) (fun hc => ?_)
      · have h := h.1 hc
        refine z_iconst hC (v := (-1)) k_iconst_m1 dX3_stoppingRow_54 ?_
        exact z_iret hC dX3_stoppingRow_55 ⟨_, rfl, rfl, rfl, rfl, rfl, rfl, h⟩
      · have h := h.2 hc
        refine z_aload_n hC (q := 0) dX3_stoppingRow_22 rfl rfl ?_
        refine z_aload_n hC (q := 1) dX3_stoppingRow_23 rfl rfl ?_
        refine gf_RX3_89 hC dX3_stoppingRow_24 hk5 hb6 ?_
        refine z_iload_n hC (q := 2) dX3_stoppingRow_27 rfl rfl ?_
        refine z_iconst hC (v := 1) k_iconst_1 dX3_stoppingRow_28 ?_
        refine cl_RX3_78 hC (c_X7_at _ G b6 x2 1 K N I L R _ h) hk7 dX3_stoppingRow_29 (by rw [hRm]; exact ⟨Nat.le_of_ble_eq_true rfl, Nat.le_of_ble_eq_true rfl⟩) ⟨Nat.zero_le _, Nat.zero_le _⟩ (Nat.le_of_ble_eq_true rfl) (z_kPi (fun r8 h => ?_))
        obtain ⟨hk9, h⟩ := h
        refine cl_RX3_66 hC (c_X3_hasStop _ G x0 r8 K N I L R _ h) hk9 dX3_stoppingRow_32 (by rw [hRm]; exact ⟨Nat.le_of_ble_eq_true rfl, Nat.le_of_ble_eq_true rfl⟩) ⟨Nat.zero_le _, Nat.zero_le _⟩ (Nat.le_of_ble_eq_true rfl) (z_kPz (fun r10 h => ?_))
        refine z_ifz_eq hC (tgt := 48) dX3_stoppingRow_35 (by decide) (fun hc => ?_) (fun hc => ?_)
        · have h := h.1 hc
          obtain ⟨v11, ev11⟩ : ∃ y : Int32, y = x2 + 1 := ⟨_, rfl⟩
          have h := h v11 ev11
          refine z_iinc hC (q := 2) (v := v11) (lv1 := [(2, .int v11), (0, .ref x0), (1, .ref x1)]) dX3_stoppingRow_48 rfl (by rw [ev11, k_iinc_1]) (by decide) rfl ?_
          refine z_goto hC (tgt := 11) dX3_stoppingRow_51 (by decide) ?_
          exact z_sub [(0, .ref x0), (1, .ref x1), (2, .int v11)] [1, 2, 0] rfl (hC11 _ _ _ h)
        · have h := h.2 hc
          refine z_aload_n hC (q := 1) dX3_stoppingRow_38 rfl rfl ?_
          refine gf_RX3_89 hC dX3_stoppingRow_39 hk5 hb6 ?_
          refine z_iload_n hC (q := 2) dX3_stoppingRow_42 rfl rfl ?_
          refine z_iconst hC (v := 0) k_iconst_0 dX3_stoppingRow_43 ?_
          refine cl_RX3_78 hC (c_X7_at _ G b6 x2 0 K N I L R _ h) hk7 dX3_stoppingRow_44 (by rw [hRm]; exact ⟨Nat.le_of_ble_eq_true rfl, Nat.le_of_ble_eq_true rfl⟩) ⟨Nat.zero_le _, Nat.zero_le _⟩ (Nat.le_of_ble_eq_true rfl) (z_kPi (fun r12 h => ?_))
          exact z_iret hC dX3_stoppingRow_47 ⟨_, rfl, rfl, rfl, rfl, rfl, rfl, h⟩
  exact key n x0 x1 x2 h0
set_option maxHeartbeats 4000000 in
set_option maxRecDepth 100000 in
theorem c_X3_stoppingRow  (l : Launch) (G : ZG) (a0 : Nat) (a1 : Nat) (K : MK) (N : MK) (I : MI) (L : ML) (R : MR) (Q : Int32 → Prop) (h : w_X3_stoppingRow a0 a1 K N I L R Q) : Met l yX3_stoppingRow (.code yX3_stoppingRow cX3_stoppingRow 3 (some .int) :: z_tbl) rm_X3_stoppingRow (z_Pc G [.ref a0, .ref a1] K N I L R) (z_Qc G (qPi K N I L R Q)) 0 0 (z_A G) := by
  refine z_met (by decide) (Nat.le_of_ble_eq_true rfl) (fun X hX hRm hC0 hnm => ?_)
  subst hX
  have hC : ZOk X G RX3 cX3_stoppingRow 3 (some .int) := hC0
  show Z X G 3 0 0 _ K N I L R 0 [(0, .ref a0), (1, .ref a1)] []
  delta w_X3_stoppingRow at h
  refine z_aload_n hC (q := 1) dX3_stoppingRow_0 rfl rfl ?_
  refine z_aload_n hC (q := 0) dX3_stoppingRow_1 rfl rfl ?_
  obtain ⟨hk1, h⟩ := h
  refine gf_RX3_25 hC dX3_stoppingRow_2 hk1 ?_
  obtain ⟨hk2, h⟩ := h
  refine cl_RX3_86 hC (c_X9_rowOf _ G a1 (I a0 4) K N I L R _ h) hk2 dX3_stoppingRow_5 (by rw [hRm]; exact ⟨Nat.le_of_ble_eq_true rfl, Nat.le_of_ble_eq_true rfl⟩) ⟨Nat.zero_le _, Nat.zero_le _⟩ (Nat.le_of_ble_eq_true rfl) (z_kPi (fun r3 h => ?_))
  refine z_iconst hC (v := 1) k_iconst_1 dX3_stoppingRow_8 ?_
  refine z_iadd hC dX3_stoppingRow_9 ?_
  refine z_topi (fun v4 ev4 => ?_)
  have h := h v4 ev4
  refine z_istore_n hC (lv1 := [(2, .int v4), (0, .ref a0), (1, .ref a1)]) dX3_stoppingRow_10 rfl (by decide) rfl ?_
  exact z_sub [(0, .ref a0), (1, .ref a1), (2, .int v4)] [1, 2, 0] rfl (z_X3_stoppingRow_11 hC hRm h)
def w_X3_perform  (a0 : Nat) (a1 : Nat) (a2 : Int32) (a3 : Int32) (a4 : Int32) (K : MK) (N : MK) (I : MI) (L : ML) (R : MR) (Q : Int32 → MI → Prop) : Prop := (a2 = 17 → K a0 = 4 ∧ ∃ b2 : Nat, R a0 0 = some b2 ∧ w_X3_write b2 a3 a4 K N I L R (fun r3 I4 => (¬ r3 = 0 → Q r3 I4) ∧ (r3 = 0 → ∀ I5 : MI, I5 = mup I4 a0 5 ((I4 a0 5) + 1) → Q r3 I5))) ∧ (¬ a2 = 17 → (a2 = 18 → K a0 = 4 ∧ ∃ b7 : Nat, R a0 1 = some b7 ∧ w_X3_write b7 a3 a4 K N I L R (fun r8 I9 => (¬ r8 = 0 → Q r8 I9) ∧ (r8 = 0 → ∀ I10 : MI, I10 = mup I9 a0 5 ((I9 a0 5) + 1) → Q r8 I10))) ∧ (¬ a2 = 18 → (a2 = 19 → K a0 = 4 ∧ (¬ a3 = (I a0 4) → w_X3_moveTo a0 a3 K N I L R (fun r12 I13 => (¬ r12 = 0 → Q r12 I13) ∧ (r12 = 0 → ∀ I14 : MI, I14 = mup I13 a0 5 ((I13 a0 5) + 1) → Q r12 I14))) ∧ (a3 = (I a0 4) → w_X3_moveTo a0 (-1) K N I L R (fun r15 I16 => (¬ r15 = 0 → Q r15 I16) ∧ (r15 = 0 → ∀ I17 : MI, I17 = mup I16 a0 5 ((I16 a0 5) + 1) → Q r15 I17)))) ∧ (¬ a2 = 19 → (a2 = 20 → K a0 = 4 ∧ w_X3_addStop a0 a3 K N I L R (fun r19 I20 => (¬ r19 = 0 → Q r19 I20) ∧ (r19 = 0 → ∀ I21 : MI, I21 = mup I20 a0 5 ((I20 a0 5) + 1) → Q r19 I21))) ∧ (¬ a2 = 20 → (a2 = 21 → K a0 = 4 ∧ w_X3_dropStop a0 a3 K N I L R (fun r23 I24 => (¬ r23 = 0 → Q r23 I24) ∧ (r23 = 0 → ∀ I25 : MI, I25 = mup I24 a0 5 ((I24 a0 5) + 1) → Q r23 I25))) ∧ (¬ a2 = 21 → (a2 = 22 → K a0 = 4 ∧ K a1 = 10 ∧ w_X9_stepTo a1 (I a0 4) K N I L R (fun r28 => w_X3_moveTo a0 r28 K N I L R (fun r29 I30 => (¬ r29 = 0 → Q r29 I30) ∧ (r29 = 0 → ∀ I31 : MI, I31 = mup I30 a0 5 ((I30 a0 5) + 1) → Q r29 I31)))) ∧ (¬ a2 = 22 → (a2 = 23 → K a0 = 4 ∧ w_X3_leaveScope a0 a1 K N I L R (fun r33 I34 => (¬ r33 = 0 → Q r33 I34) ∧ (r33 = 0 → ∀ I35 : MI, I35 = mup I34 a0 5 ((I34 a0 5) + 1) → Q r33 I35))) ∧ (¬ a2 = 23 → K a0 = 4 ∧ w_X3_stoppingRow a0 a1 K N I L R (fun r37 => w_X3_moveTo a0 r37 K N I L R (fun r38 I39 => (¬ r38 = 0 → Q r38 I39) ∧ (r38 = 0 → ∀ I40 : MI, I40 = mup I39 a0 5 ((I39 a0 5) + 1) → Q r38 I40))))))))))
set_option maxHeartbeats 4000000 in
set_option maxRecDepth 100000 in
theorem c_X3_perform  (l : Launch) (G : ZG) (a0 : Nat) (a1 : Nat) (a2 : Int32) (a3 : Int32) (a4 : Int32) (K : MK) (N : MK) (I : MI) (L : ML) (R : MR) (Q : Int32 → MI → Prop) (h : w_X3_perform a0 a1 a2 a3 a4 K N I L R Q) : Met l yX3_perform (.code yX3_perform cX3_perform 6 (some .int) :: z_tbl) rm_X3_perform (z_Pc G [.ref a0, .ref a1, .int a2, .int a3, .int a4] K N I L R) (z_Qc G (qIi K N L R Q)) 0 0 (z_A G) := by
  refine z_met (by decide) (Nat.le_of_ble_eq_true rfl) (fun X hX hRm hC0 hnm => ?_)
  subst hX
  have hC : ZOk X G RX3 cX3_perform 6 (some .int) := hC0
  show Z X G 6 0 0 _ K N I L R 0 [(0, .ref a0), (1, .ref a1), (2, .int a2), (3, .int a3), (4, .int a4)] []
  delta w_X3_perform at h
  refine z_iload_n hC (q := 2) dX3_perform_0 rfl rfl ?_
  by_cases hc0 : a2 = 17
  · have h := h.1 hc0
    refine z_tableIn hC (off := 43) (tgt := 44) 17 hc0 dX3_perform_1 (by decide) (by decide) ?_
    refine z_aload_n hC (q := 0) dX3_perform_44 rfl rfl ?_
    obtain ⟨hk1, h⟩ := h
    obtain ⟨b2, hb2, h⟩ := h
    refine gf_RX3_11 hC dX3_perform_45 hk1 hb2 ?_
    refine z_iload_n hC (q := 3) dX3_perform_48 rfl rfl ?_
    refine z_iload hC (q := 4) dX3_perform_49 rfl ?_
    refine cl_RX3_37 hC (c_X3_write _ G b2 a3 a4 K N I L R _ h) dX3_perform_51 (by rw [hRm]; exact ⟨Nat.le_of_ble_eq_true rfl, Nat.le_of_ble_eq_true rfl⟩) ⟨Nat.zero_le _, Nat.zero_le _⟩ (Nat.le_of_ble_eq_true rfl) (z_kIi (I := I) (fun r3 I4 h => ?_))
    refine z_istore hC (lv1 := [(5, .int r3), (0, .ref a0), (1, .ref a1), (2, .int a2), (3, .int a3), (4, .int a4)]) dX3_perform_54 (by decide) rfl ?_
    refine z_goto hC (tgt := 154) dX3_perform_56 (by decide) ?_
    refine z_iload hC (q := 0) dX3_perform_154 rfl ?_
    refine z_if_ne hC (tgt := 169) dX3_perform_156 (by decide) (fun hc => ?_) (fun hc => ?_)
    · have h := h.1 hc
      refine z_iload hC (q := 0) dX3_perform_169 rfl ?_
      exact z_iret hC dX3_perform_171 ⟨_, rfl, rfl, rfl, rfl, rfl, h⟩
    · have h := h.2 hc
      refine z_aload_n hC (q := 1) dX3_perform_159 rfl rfl ?_
      refine z_dup hC rfl dX3_perform_160 ?_
      refine gf_RX3_28 hC dX3_perform_161 hk1 ?_
      refine z_iconst hC (v := 1) k_iconst_1 dX3_perform_164 ?_
      refine z_iadd hC dX3_perform_165 ?_
      refine pf_RX3_28 hC dX3_perform_166 hk1 ?_
      refine z_genI (fun I5 eI5 => ?_)
      have h := h I5 eI5
      refine z_iload hC (q := 0) dX3_perform_169 rfl ?_
      exact z_iret hC dX3_perform_171 ⟨_, rfl, rfl, rfl, rfl, rfl, h⟩
  · have h := h.2 hc0
    by_cases hc1 : a2 = 18
    · have h := h.1 hc1
      refine z_tableIn hC (off := 58) (tgt := 59) 18 hc1 dX3_perform_1 (by decide) (by decide) ?_
      refine z_aload_n hC (q := 0) dX3_perform_59 rfl rfl ?_
      obtain ⟨hk6, h⟩ := h
      obtain ⟨b7, hb7, h⟩ := h
      refine gf_RX3_15 hC dX3_perform_60 hk6 hb7 ?_
      refine z_iload_n hC (q := 3) dX3_perform_63 rfl rfl ?_
      refine z_iload hC (q := 4) dX3_perform_64 rfl ?_
      refine cl_RX3_37 hC (c_X3_write _ G b7 a3 a4 K N I L R _ h) dX3_perform_66 (by rw [hRm]; exact ⟨Nat.le_of_ble_eq_true rfl, Nat.le_of_ble_eq_true rfl⟩) ⟨Nat.zero_le _, Nat.zero_le _⟩ (Nat.le_of_ble_eq_true rfl) (z_kIi (I := I) (fun r8 I9 h => ?_))
      refine z_istore hC (lv1 := [(5, .int r8), (0, .ref a0), (1, .ref a1), (2, .int a2), (3, .int a3), (4, .int a4)]) dX3_perform_69 (by decide) rfl ?_
      refine z_goto hC (tgt := 154) dX3_perform_71 (by decide) ?_
      refine z_iload hC (q := 0) dX3_perform_154 rfl ?_
      refine z_if_ne hC (tgt := 169) dX3_perform_156 (by decide) (fun hc => ?_) (fun hc => ?_)
      · have h := h.1 hc
        refine z_iload hC (q := 0) dX3_perform_169 rfl ?_
        exact z_iret hC dX3_perform_171 ⟨_, rfl, rfl, rfl, rfl, rfl, h⟩
      · have h := h.2 hc
        refine z_aload_n hC (q := 1) dX3_perform_159 rfl rfl ?_
        refine z_dup hC rfl dX3_perform_160 ?_
        refine gf_RX3_28 hC dX3_perform_161 hk6 ?_
        refine z_iconst hC (v := 1) k_iconst_1 dX3_perform_164 ?_
        refine z_iadd hC dX3_perform_165 ?_
        refine pf_RX3_28 hC dX3_perform_166 hk6 ?_
        refine z_genI (fun I10 eI10 => ?_)
        have h := h I10 eI10
        refine z_iload hC (q := 0) dX3_perform_169 rfl ?_
        exact z_iret hC dX3_perform_171 ⟨_, rfl, rfl, rfl, rfl, rfl, h⟩
    · have h := h.2 hc1
      by_cases hc2 : a2 = 19
      · have h := h.1 hc2
        refine z_tableIn hC (off := 73) (tgt := 74) 19 hc2 dX3_perform_1 (by decide) (by decide) ?_
        refine z_aload_n hC (q := 0) dX3_perform_74 rfl rfl ?_
        refine z_iload_n hC (q := 3) dX3_perform_75 rfl rfl ?_
        refine z_aload_n hC (q := 0) dX3_perform_76 rfl rfl ?_
        obtain ⟨hk11, h⟩ := h
        refine gf_RX3_25 hC dX3_perform_77 hk11 ?_
        refine z_icmp_ne hC (tgt := 87) dX3_perform_80 (by decide) (fun hc => ?_) (fun hc => ?_)
        · have h := h.1 hc
          refine z_iload_n hC (q := 3) dX3_perform_87 rfl rfl ?_
          refine cl_RX3_41 hC (c_X3_moveTo _ G a0 a3 K N I L R _ h) hk11 dX3_perform_88 (by rw [hRm]; exact ⟨Nat.le_of_ble_eq_true rfl, Nat.le_of_ble_eq_true rfl⟩) ⟨Nat.zero_le _, Nat.zero_le _⟩ (Nat.le_of_ble_eq_true rfl) (z_kIi (I := I) (fun r12 I13 h => ?_))
          refine z_istore hC (lv1 := [(5, .int r12), (0, .ref a0), (1, .ref a1), (2, .int a2), (3, .int a3), (4, .int a4)]) dX3_perform_91 (by decide) rfl ?_
          refine z_goto hC (tgt := 154) dX3_perform_93 (by decide) ?_
          refine z_iload hC (q := 0) dX3_perform_154 rfl ?_
          refine z_if_ne hC (tgt := 169) dX3_perform_156 (by decide) (fun hc => ?_) (fun hc => ?_)
          · have h := h.1 hc
            refine z_iload hC (q := 0) dX3_perform_169 rfl ?_
            exact z_iret hC dX3_perform_171 ⟨_, rfl, rfl, rfl, rfl, rfl, h⟩
          · have h := h.2 hc
            refine z_aload_n hC (q := 1) dX3_perform_159 rfl rfl ?_
            refine z_dup hC rfl dX3_perform_160 ?_
            refine gf_RX3_28 hC dX3_perform_161 hk11 ?_
            refine z_iconst hC (v := 1) k_iconst_1 dX3_perform_164 ?_
            refine z_iadd hC dX3_perform_165 ?_
            refine pf_RX3_28 hC dX3_perform_166 hk11 ?_
            refine z_genI (fun I14 eI14 => ?_)
            have h := h I14 eI14
            refine z_iload hC (q := 0) dX3_perform_169 rfl ?_
            exact z_iret hC dX3_perform_171 ⟨_, rfl, rfl, rfl, rfl, rfl, h⟩
        · have h := h.2 hc
          refine z_iconst hC (v := (-1)) k_iconst_m1 dX3_perform_83 ?_
          refine z_goto hC (tgt := 88) dX3_perform_84 (by decide) ?_
          refine cl_RX3_41 hC (c_X3_moveTo _ G a0 (-1) K N I L R _ h) hk11 dX3_perform_88 (by rw [hRm]; exact ⟨Nat.le_of_ble_eq_true rfl, Nat.le_of_ble_eq_true rfl⟩) ⟨Nat.zero_le _, Nat.zero_le _⟩ (Nat.le_of_ble_eq_true rfl) (z_kIi (I := I) (fun r15 I16 h => ?_))
          refine z_istore hC (lv1 := [(5, .int r15), (0, .ref a0), (1, .ref a1), (2, .int a2), (3, .int a3), (4, .int a4)]) dX3_perform_91 (by decide) rfl ?_
          refine z_goto hC (tgt := 154) dX3_perform_93 (by decide) ?_
          refine z_iload hC (q := 0) dX3_perform_154 rfl ?_
          refine z_if_ne hC (tgt := 169) dX3_perform_156 (by decide) (fun hc => ?_) (fun hc => ?_)
          · have h := h.1 hc
            refine z_iload hC (q := 0) dX3_perform_169 rfl ?_
            exact z_iret hC dX3_perform_171 ⟨_, rfl, rfl, rfl, rfl, rfl, h⟩
          · have h := h.2 hc
            refine z_aload_n hC (q := 1) dX3_perform_159 rfl rfl ?_
            refine z_dup hC rfl dX3_perform_160 ?_
            refine gf_RX3_28 hC dX3_perform_161 hk11 ?_
            refine z_iconst hC (v := 1) k_iconst_1 dX3_perform_164 ?_
            refine z_iadd hC dX3_perform_165 ?_
            refine pf_RX3_28 hC dX3_perform_166 hk11 ?_
            refine z_genI (fun I17 eI17 => ?_)
            have h := h I17 eI17
            refine z_iload hC (q := 0) dX3_perform_169 rfl ?_
            exact z_iret hC dX3_perform_171 ⟨_, rfl, rfl, rfl, rfl, rfl, h⟩
      · have h := h.2 hc2
        by_cases hc3 : a2 = 20
        · have h := h.1 hc3
          refine z_tableIn hC (off := 95) (tgt := 96) 20 hc3 dX3_perform_1 (by decide) (by decide) ?_
          refine z_aload_n hC (q := 0) dX3_perform_96 rfl rfl ?_
          refine z_iload_n hC (q := 3) dX3_perform_97 rfl rfl ?_
          obtain ⟨hk18, h⟩ := h
          refine cl_RX3_45 hC (c_X3_addStop _ G a0 a3 K N I L R _ h) hk18 dX3_perform_98 (by rw [hRm]; exact ⟨Nat.le_of_ble_eq_true rfl, Nat.le_of_ble_eq_true rfl⟩) ⟨Nat.zero_le _, Nat.zero_le _⟩ (Nat.le_of_ble_eq_true rfl) (z_kIi (I := I) (fun r19 I20 h => ?_))
          refine z_istore hC (lv1 := [(5, .int r19), (0, .ref a0), (1, .ref a1), (2, .int a2), (3, .int a3), (4, .int a4)]) dX3_perform_101 (by decide) rfl ?_
          refine z_goto hC (tgt := 154) dX3_perform_103 (by decide) ?_
          refine z_iload hC (q := 0) dX3_perform_154 rfl ?_
          refine z_if_ne hC (tgt := 169) dX3_perform_156 (by decide) (fun hc => ?_) (fun hc => ?_)
          · have h := h.1 hc
            refine z_iload hC (q := 0) dX3_perform_169 rfl ?_
            exact z_iret hC dX3_perform_171 ⟨_, rfl, rfl, rfl, rfl, rfl, h⟩
          · have h := h.2 hc
            refine z_aload_n hC (q := 1) dX3_perform_159 rfl rfl ?_
            refine z_dup hC rfl dX3_perform_160 ?_
            refine gf_RX3_28 hC dX3_perform_161 hk18 ?_
            refine z_iconst hC (v := 1) k_iconst_1 dX3_perform_164 ?_
            refine z_iadd hC dX3_perform_165 ?_
            refine pf_RX3_28 hC dX3_perform_166 hk18 ?_
            refine z_genI (fun I21 eI21 => ?_)
            have h := h I21 eI21
            refine z_iload hC (q := 0) dX3_perform_169 rfl ?_
            exact z_iret hC dX3_perform_171 ⟨_, rfl, rfl, rfl, rfl, rfl, h⟩
        · have h := h.2 hc3
          by_cases hc4 : a2 = 21
          · have h := h.1 hc4
            refine z_tableIn hC (off := 105) (tgt := 106) 21 hc4 dX3_perform_1 (by decide) (by decide) ?_
            refine z_aload_n hC (q := 0) dX3_perform_106 rfl rfl ?_
            refine z_iload_n hC (q := 3) dX3_perform_107 rfl rfl ?_
            obtain ⟨hk22, h⟩ := h
            refine cl_RX3_48 hC (c_X3_dropStop _ G a0 a3 K N I L R _ h) hk22 dX3_perform_108 (by rw [hRm]; exact ⟨Nat.le_of_ble_eq_true rfl, Nat.le_of_ble_eq_true rfl⟩) ⟨Nat.zero_le _, Nat.zero_le _⟩ (Nat.le_of_ble_eq_true rfl) (z_kIi (I := I) (fun r23 I24 h => ?_))
            refine z_istore hC (lv1 := [(5, .int r23), (0, .ref a0), (1, .ref a1), (2, .int a2), (3, .int a3), (4, .int a4)]) dX3_perform_111 (by decide) rfl ?_
            refine z_goto hC (tgt := 154) dX3_perform_113 (by decide) ?_
            refine z_iload hC (q := 0) dX3_perform_154 rfl ?_
            refine z_if_ne hC (tgt := 169) dX3_perform_156 (by decide) (fun hc => ?_) (fun hc => ?_)
            · have h := h.1 hc
              refine z_iload hC (q := 0) dX3_perform_169 rfl ?_
              exact z_iret hC dX3_perform_171 ⟨_, rfl, rfl, rfl, rfl, rfl, h⟩
            · have h := h.2 hc
              refine z_aload_n hC (q := 1) dX3_perform_159 rfl rfl ?_
              refine z_dup hC rfl dX3_perform_160 ?_
              refine gf_RX3_28 hC dX3_perform_161 hk22 ?_
              refine z_iconst hC (v := 1) k_iconst_1 dX3_perform_164 ?_
              refine z_iadd hC dX3_perform_165 ?_
              refine pf_RX3_28 hC dX3_perform_166 hk22 ?_
              refine z_genI (fun I25 eI25 => ?_)
              have h := h I25 eI25
              refine z_iload hC (q := 0) dX3_perform_169 rfl ?_
              exact z_iret hC dX3_perform_171 ⟨_, rfl, rfl, rfl, rfl, rfl, h⟩
          · have h := h.2 hc4
            by_cases hc5 : a2 = 22
            · have h := h.1 hc5
              refine z_tableIn hC (off := 115) (tgt := 116) 22 hc5 dX3_perform_1 (by decide) (by decide) ?_
              refine z_aload_n hC (q := 0) dX3_perform_116 rfl rfl ?_
              refine z_aload_n hC (q := 1) dX3_perform_117 rfl rfl ?_
              refine z_aload_n hC (q := 0) dX3_perform_118 rfl rfl ?_
              obtain ⟨hk26, h⟩ := h
              refine gf_RX3_25 hC dX3_perform_119 hk26 ?_
              obtain ⟨hk27, h⟩ := h
              refine cl_RX3_51 hC (c_X9_stepTo _ G a1 (I a0 4) K N I L R _ h) hk27 dX3_perform_122 (by rw [hRm]; exact ⟨Nat.le_of_ble_eq_true rfl, Nat.le_of_ble_eq_true rfl⟩) ⟨Nat.zero_le _, Nat.zero_le _⟩ (Nat.le_of_ble_eq_true rfl) (z_kPi (fun r28 h => ?_))
              refine cl_RX3_41 hC (c_X3_moveTo _ G a0 r28 K N I L R _ h) hk26 dX3_perform_125 (by rw [hRm]; exact ⟨Nat.le_of_ble_eq_true rfl, Nat.le_of_ble_eq_true rfl⟩) ⟨Nat.zero_le _, Nat.zero_le _⟩ (Nat.le_of_ble_eq_true rfl) (z_kIi (I := I) (fun r29 I30 h => ?_))
              refine z_istore hC (lv1 := [(5, .int r29), (0, .ref a0), (1, .ref a1), (2, .int a2), (3, .int a3), (4, .int a4)]) dX3_perform_128 (by decide) rfl ?_
              refine z_goto hC (tgt := 154) dX3_perform_130 (by decide) ?_
              refine z_iload hC (q := 0) dX3_perform_154 rfl ?_
              refine z_if_ne hC (tgt := 169) dX3_perform_156 (by decide) (fun hc => ?_) (fun hc => ?_)
              · have h := h.1 hc
                refine z_iload hC (q := 0) dX3_perform_169 rfl ?_
                exact z_iret hC dX3_perform_171 ⟨_, rfl, rfl, rfl, rfl, rfl, h⟩
              · have h := h.2 hc
                refine z_aload_n hC (q := 1) dX3_perform_159 rfl rfl ?_
                refine z_dup hC rfl dX3_perform_160 ?_
                refine gf_RX3_28 hC dX3_perform_161 hk26 ?_
                refine z_iconst hC (v := 1) k_iconst_1 dX3_perform_164 ?_
                refine z_iadd hC dX3_perform_165 ?_
                refine pf_RX3_28 hC dX3_perform_166 hk26 ?_
                refine z_genI (fun I31 eI31 => ?_)
                have h := h I31 eI31
                refine z_iload hC (q := 0) dX3_perform_169 rfl ?_
                exact z_iret hC dX3_perform_171 ⟨_, rfl, rfl, rfl, rfl, rfl, h⟩
            · have h := h.2 hc5
              by_cases hc6 : a2 = 23
              · have h := h.1 hc6
                refine z_tableIn hC (off := 132) (tgt := 133) 23 hc6 dX3_perform_1 (by decide) (by decide) ?_
                refine z_aload_n hC (q := 0) dX3_perform_133 rfl rfl ?_
                refine z_aload_n hC (q := 1) dX3_perform_134 rfl rfl ?_
                obtain ⟨hk32, h⟩ := h
                refine cl_RX3_56 hC (c_X3_leaveScope _ G a0 a1 K N I L R _ h) hk32 dX3_perform_135 (by rw [hRm]; exact ⟨Nat.le_of_ble_eq_true rfl, Nat.le_of_ble_eq_true rfl⟩) ⟨Nat.zero_le _, Nat.zero_le _⟩ (Nat.le_of_ble_eq_true rfl) (z_kIi (I := I) (fun r33 I34 h => ?_))
                refine z_istore hC (lv1 := [(5, .int r33), (0, .ref a0), (1, .ref a1), (2, .int a2), (3, .int a3), (4, .int a4)]) dX3_perform_138 (by decide) rfl ?_
                refine z_goto hC (tgt := 154) dX3_perform_140 (by decide) ?_
                refine z_iload hC (q := 0) dX3_perform_154 rfl ?_
                refine z_if_ne hC (tgt := 169) dX3_perform_156 (by decide) (fun hc => ?_) (fun hc => ?_)
                · have h := h.1 hc
                  refine z_iload hC (q := 0) dX3_perform_169 rfl ?_
                  exact z_iret hC dX3_perform_171 ⟨_, rfl, rfl, rfl, rfl, rfl, h⟩
                · have h := h.2 hc
                  refine z_aload_n hC (q := 1) dX3_perform_159 rfl rfl ?_
                  refine z_dup hC rfl dX3_perform_160 ?_
                  refine gf_RX3_28 hC dX3_perform_161 hk32 ?_
                  refine z_iconst hC (v := 1) k_iconst_1 dX3_perform_164 ?_
                  refine z_iadd hC dX3_perform_165 ?_
                  refine pf_RX3_28 hC dX3_perform_166 hk32 ?_
                  refine z_genI (fun I35 eI35 => ?_)
                  have h := h I35 eI35
                  refine z_iload hC (q := 0) dX3_perform_169 rfl ?_
                  exact z_iret hC dX3_perform_171 ⟨_, rfl, rfl, rfl, rfl, rfl, h⟩
              · have h := h.2 hc6
                have hout : a2.toInt < 17 ∨ 23 < a2.toInt := by
                  have hc0 := z_nei hc0 (by decide : (17 : Int32).toInt = 17)
                  have hc1 := z_nei hc1 (by decide : (18 : Int32).toInt = 18)
                  have hc2 := z_nei hc2 (by decide : (19 : Int32).toInt = 19)
                  have hc3 := z_nei hc3 (by decide : (20 : Int32).toInt = 20)
                  have hc4 := z_nei hc4 (by decide : (21 : Int32).toInt = 21)
                  have hc5 := z_nei hc5 (by decide : (22 : Int32).toInt = 22)
                  have hc6 := z_nei hc6 (by decide : (23 : Int32).toInt = 23)
                  omega
                refine z_tableOut hC (tgt := 143) dX3_perform_1 hout (by decide) ?_
                refine z_aload_n hC (q := 0) dX3_perform_143 rfl rfl ?_
                refine z_aload_n hC (q := 0) dX3_perform_144 rfl rfl ?_
                refine z_aload_n hC (q := 1) dX3_perform_145 rfl rfl ?_
                obtain ⟨hk36, h⟩ := h
                refine cl_RX3_60 hC (c_X3_stoppingRow _ G a0 a1 K N I L R _ h) hk36 dX3_perform_146 (by rw [hRm]; exact ⟨Nat.le_of_ble_eq_true rfl, Nat.le_of_ble_eq_true rfl⟩) ⟨Nat.zero_le _, Nat.zero_le _⟩ (Nat.le_of_ble_eq_true rfl) (z_kPi (fun r37 h => ?_))
                refine cl_RX3_41 hC (c_X3_moveTo _ G a0 r37 K N I L R _ h) hk36 dX3_perform_149 (by rw [hRm]; exact ⟨Nat.le_of_ble_eq_true rfl, Nat.le_of_ble_eq_true rfl⟩) ⟨Nat.zero_le _, Nat.zero_le _⟩ (Nat.le_of_ble_eq_true rfl) (z_kIi (I := I) (fun r38 I39 h => ?_))
                refine z_istore hC (lv1 := [(5, .int r38), (0, .ref a0), (1, .ref a1), (2, .int a2), (3, .int a3), (4, .int a4)]) dX3_perform_152 (by decide) rfl ?_
                refine z_iload hC (q := 0) dX3_perform_154 rfl ?_
                refine z_if_ne hC (tgt := 169) dX3_perform_156 (by decide) (fun hc => ?_) (fun hc => ?_)
                · have h := h.1 hc
                  refine z_iload hC (q := 0) dX3_perform_169 rfl ?_
                  exact z_iret hC dX3_perform_171 ⟨_, rfl, rfl, rfl, rfl, rfl, h⟩
                · have h := h.2 hc
                  refine z_aload_n hC (q := 1) dX3_perform_159 rfl rfl ?_
                  refine z_dup hC rfl dX3_perform_160 ?_
                  refine gf_RX3_28 hC dX3_perform_161 hk36 ?_
                  refine z_iconst hC (v := 1) k_iconst_1 dX3_perform_164 ?_
                  refine z_iadd hC dX3_perform_165 ?_
                  refine pf_RX3_28 hC dX3_perform_166 hk36 ?_
                  refine z_genI (fun I40 eI40 => ?_)
                  have h := h I40 eI40
                  refine z_iload hC (q := 0) dX3_perform_169 rfl ?_
                  exact z_iret hC dX3_perform_171 ⟨_, rfl, rfl, rfl, rfl, rfl, h⟩
def w_X0_judgeLine_41  (x0 : Nat) (x1 : Nat) (x2 : Nat) (x3 : Int32) (x4 : Int32) (x5 : Int32)  (K : MK) (N : MK) (I : MI) (L : ML) (R : MR)  (Q : Int32 → MI → Prop) : Prop := K x0 = 1 ∧ ∃ b7 : Nat, R x0 0 = some b7 ∧ K b7 = 8 ∧ w_X7_at b7 x3 2 K N I L R (fun r9 => K x2 = 4 ∧ w_X3_perform x2 x1 x4 x5 r9 K N I L R (fun r11 I12 => (¬ r11 = 0 → Q (((10 : Int32) * (x4 - 17)) + r11) I12) ∧ (r11 = 0 → Q 0 I12)))
def w_X0_judgeLine  (a0 : Nat) (a1 : Nat) (a2 : Nat) (a3 : Int32) (K : MK) (N : MK) (I : MI) (L : ML) (R : MR) (Q : Int32 → MI → Prop) : Prop := K a0 = 1 ∧ ∃ b2 : Nat, R a0 0 = some b2 ∧ K b2 = 8 ∧ w_X7_at b2 a3 0 K N I L R (fun r4 => w_X7_at b2 a3 1 K N I L R (fun r5 => (¬ r4 = 19 → w_X0_judgeLine_41 a0 a1 a2 a3 r4 r5 K N I L R Q) ∧ (r4 = 19 → K a1 = 10 ∧ w_X9_hasAddress a1 r5 K N I L R (fun r14 => (r14 = true → w_X0_judgeLine_41 a0 a1 a2 a3 r4 r5 K N I L R Q) ∧ (r14 = false → Q 29 I)))))
set_option maxHeartbeats 4000000 in
set_option maxRecDepth 100000 in
theorem z_X0_judgeLine_41 {X : ZX} {G : ZG}  {x0 : Nat} {x1 : Nat} {x2 : Nat} {x3 : Int32} {x4 : Int32} {x5 : Int32}  {K : MK} {N : MK} {I : MI} {L : ML} {R : MR}  {Q : Int32 → MI → Prop} (hC : ZOk X G RX0 cX0_judgeLine 7 (some .int)) (hRm : X.2.2.2.1 = rm_X0_judgeLine) (h : w_X0_judgeLine_41 x0 x1 x2 x3 x4 x5 K N I L R  Q) : Z X G 7 0 0 (z_T X G (qIi K N L R Q) 0 0) K N I L R 41 [(0, .ref x0), (1, .ref x1), (2, .ref x2), (3, .int x3), (4, .int x4), (5, .int x5)] [] := by
  delta w_X0_judgeLine_41 at h
  refine z_aload_n hC (q := 2) dX0_judgeLine_41 rfl rfl ?_
  refine z_aload_n hC (q := 1) dX0_judgeLine_42 rfl rfl ?_
  refine z_iload hC (q := 4) dX0_judgeLine_43 rfl ?_
  refine z_iload hC (q := 5) dX0_judgeLine_45 rfl ?_
  refine z_aload_n hC (q := 0) dX0_judgeLine_47 rfl rfl ?_
  obtain ⟨hk6, h⟩ := h
  obtain ⟨b7, hb7, h⟩ := h
  refine gf_RX0_14 hC dX0_judgeLine_48 hk6 hb7 ?_
  refine z_iload_n hC (q := 3) dX0_judgeLine_51 rfl rfl ?_
  refine z_iconst hC (v := 2) k_iconst_2 dX0_judgeLine_52 ?_
  obtain ⟨hk8, h⟩ := h
  refine cl_RX0_87 hC (c_X7_at _ G b7 x3 2 K N I L R _ h) hk8 dX0_judgeLine_53 (by rw [hRm]; exact ⟨Nat.le_of_ble_eq_true rfl, Nat.le_of_ble_eq_true rfl⟩) ⟨Nat.zero_le _, Nat.zero_le _⟩ (Nat.le_of_ble_eq_true rfl) (z_kPi (fun r9 h => ?_))
  obtain ⟨hk10, h⟩ := h
  refine cl_RX0_96 hC (c_X3_perform _ G x2 x1 x4 x5 r9 K N I L R _ h) hk10 dX0_judgeLine_56 (by rw [hRm]; exact ⟨Nat.le_of_ble_eq_true rfl, Nat.le_of_ble_eq_true rfl⟩) ⟨Nat.zero_le _, Nat.zero_le _⟩ (Nat.le_of_ble_eq_true rfl) (z_kIi (I := I) (fun r11 I12 h => ?_))
  refine z_istore hC (lv1 := [(6, .int r11), (0, .ref x0), (1, .ref x1), (2, .ref x2), (3, .int x3), (4, .int x4), (5, .int x5)]) dX0_judgeLine_59 (by decide) rfl ?_
  refine z_iload hC (q := 0) dX0_judgeLine_61 rfl ?_
  refine z_if_ne hC (tgt := 70) dX0_judgeLine_63 (by decide) (fun hc => ?_) (fun hc => ?_)
  · have h := h.1 hc
    refine z_bipush hC (v := 10) k_bipush_10 dX0_judgeLine_70 ?_
    refine z_iload hC (q := 5) dX0_judgeLine_72 rfl ?_
    refine z_bipush hC (v := 17) k_bipush_17 dX0_judgeLine_74 ?_
    refine z_isub hC dX0_judgeLine_76 ?_
    refine z_imul hC dX0_judgeLine_77 ?_
    refine z_iload hC (q := 0) dX0_judgeLine_78 rfl ?_
    refine z_iadd hC dX0_judgeLine_80 ?_
    exact z_iret hC dX0_judgeLine_81 ⟨_, rfl, rfl, rfl, rfl, rfl, h⟩
  · have h := h.2 hc
    refine z_iconst hC (v := 0) k_iconst_0 dX0_judgeLine_66 ?_
    refine z_goto hC (tgt := 81) dX0_judgeLine_67 (by decide) ?_
    exact z_iret hC dX0_judgeLine_81 ⟨_, rfl, rfl, rfl, rfl, rfl, h⟩
set_option maxHeartbeats 4000000 in
set_option maxRecDepth 100000 in
theorem c_X0_judgeLine  (l : Launch) (G : ZG) (a0 : Nat) (a1 : Nat) (a2 : Nat) (a3 : Int32) (K : MK) (N : MK) (I : MI) (L : ML) (R : MR) (Q : Int32 → MI → Prop) (h : w_X0_judgeLine a0 a1 a2 a3 K N I L R Q) : Met l yX0_judgeLine (.code yX0_judgeLine cX0_judgeLine 7 (some .int) :: z_tbl) rm_X0_judgeLine (z_Pc G [.ref a0, .ref a1, .ref a2, .int a3] K N I L R) (z_Qc G (qIi K N L R Q)) 0 0 (z_A G) := by
  refine z_met (by decide) (Nat.le_of_ble_eq_true rfl) (fun X hX hRm hC0 hnm => ?_)
  subst hX
  have hC : ZOk X G RX0 cX0_judgeLine 7 (some .int) := hC0
  show Z X G 7 0 0 _ K N I L R 0 [(0, .ref a0), (1, .ref a1), (2, .ref a2), (3, .int a3)] []
  delta w_X0_judgeLine at h
  refine z_aload_n hC (q := 0) dX0_judgeLine_0 rfl rfl ?_
  obtain ⟨hk1, h⟩ := h
  obtain ⟨b2, hb2, h⟩ := h
  refine gf_RX0_14 hC dX0_judgeLine_1 hk1 hb2 ?_
  refine z_iload_n hC (q := 3) dX0_judgeLine_4 rfl rfl ?_
  refine z_iconst hC (v := 0) k_iconst_0 dX0_judgeLine_5 ?_
  obtain ⟨hk3, h⟩ := h
  refine cl_RX0_87 hC (c_X7_at _ G b2 a3 0 K N I L R _ h) hk3 dX0_judgeLine_6 (by rw [hRm]; exact ⟨Nat.le_of_ble_eq_true rfl, Nat.le_of_ble_eq_true rfl⟩) ⟨Nat.zero_le _, Nat.zero_le _⟩ (Nat.le_of_ble_eq_true rfl) (z_kPi (fun r4 h => ?_))
  refine z_istore hC (lv1 := [(4, .int r4), (0, .ref a0), (1, .ref a1), (2, .ref a2), (3, .int a3)]) dX0_judgeLine_9 (by decide) rfl ?_
  refine z_aload_n hC (q := 1) dX0_judgeLine_11 rfl rfl ?_
  refine gf_RX0_14 hC dX0_judgeLine_12 hk1 hb2 ?_
  refine z_iload_n hC (q := 4) dX0_judgeLine_15 rfl rfl ?_
  refine z_iconst hC (v := 1) k_iconst_1 dX0_judgeLine_16 ?_
  refine cl_RX0_87 hC (c_X7_at _ G b2 a3 1 K N I L R _ h) hk3 dX0_judgeLine_17 (by rw [hRm]; exact ⟨Nat.le_of_ble_eq_true rfl, Nat.le_of_ble_eq_true rfl⟩) ⟨Nat.zero_le _, Nat.zero_le _⟩ (Nat.le_of_ble_eq_true rfl) (z_kPi (fun r5 h => ?_))
  refine z_istore hC (lv1 := [(5, .int r5), (4, .int r4), (0, .ref a0), (1, .ref a1), (2, .ref a2), (3, .int a3)]) dX0_judgeLine_20 (by decide) rfl ?_
  refine z_iload hC (q := 1) dX0_judgeLine_22 rfl ?_
  refine z_bipush hC (v := 19) k_bipush_19 dX0_judgeLine_24 ?_
  refine z_icmp_ne hC (tgt := 41) dX0_judgeLine_26 (by decide) (fun hc => ?_) (fun hc => ?_)
  · have h := h.1 hc
    exact z_sub [(0, .ref a0), (1, .ref a1), (2, .ref a2), (3, .int a3), (4, .int r4), (5, .int r5)] [2, 3, 4, 5, 1, 0] rfl (z_X0_judgeLine_41 hC hRm h)
  · have h := h.2 hc
    refine z_aload_n hC (q := 3) dX0_judgeLine_29 rfl rfl ?_
    refine z_iload hC (q := 0) dX0_judgeLine_30 rfl ?_
    obtain ⟨hk13, h⟩ := h
    refine cl_RX0_91 hC (c_X9_hasAddress _ G a1 r5 K N I L R _ h) hk13 dX0_judgeLine_32 (by rw [hRm]; exact ⟨Nat.le_of_ble_eq_true rfl, Nat.le_of_ble_eq_true rfl⟩) ⟨Nat.zero_le _, Nat.zero_le _⟩ (Nat.le_of_ble_eq_true rfl) (z_kPz (fun r14 h => ?_))
    refine z_ifz_ne hC (tgt := 41) dX0_judgeLine_35 (by decide) (fun hc => ?_) (fun hc => ?_)
    · have h := h.1 hc
      exact z_sub [(0, .ref a0), (1, .ref a1), (2, .ref a2), (3, .int a3), (4, .int r4), (5, .int r5)] [2, 3, 4, 5, 1, 0] rfl (z_X0_judgeLine_41 hC hRm h)
    · have h := h.2 hc
      refine z_bipush hC (v := 29) k_bipush_29 dX0_judgeLine_38 ?_
      exact z_iret hC dX0_judgeLine_40 ⟨_, rfl, rfl, rfl, rfl, rfl, h⟩
def w_X0_judge_7  (x0 : Nat) (x1 : Nat) (x2 : Nat) (x3 : Int32)  (K : MK) (N : MK) (I : MI) (L : ML) (R : MR)  (Q : Int32 → MI → Prop) : Prop := ∃ J : Nat → Nat → Nat → Nat → Int32 → MI → Prop, (∃ n, J n x0 x1 x2 x3 I) ∧ ∀ (n : Nat) (x0 : Nat) (x1 : Nat) (x2 : Nat) (x3 : Int32) (I : MI), J n x0 x1 x2 x3 I → K x0 = 1 ∧ ∃ b4 : Nat, R x0 0 = some b4 ∧ K b4 = 8 ∧ ((I b4 3) ≤ x3 → Q 0 I) ∧ (¬ (I b4 3) ≤ x3 → w_X0_judgeLine x0 x1 x2 x3 K N I L R (fun r6 I7 => (r6 = 0 → ∀ I8 : MI, I8 = mup I7 x0 1 ((I7 x0 1) + 1) → ∀ v9 : Int32, v9 = x3 + 1 → ∃ n1, n1 < n ∧ J n1 x0 x1 x2 v9 I8) ∧ (¬ r6 = 0 → Q r6 I7)))
def w_X0_judge  (a0 : Nat) (a1 : Nat) (a2 : Nat) (K : MK) (N : MK) (I : MI) (L : ML) (R : MR) (Q : Int32 → MI → Prop) : Prop := K a0 = 1 ∧ ∀ I2 : MI, I2 = mup I a0 1 0 → w_X0_judge_7 a0 a1 a2 0 K N I2 L R Q
set_option maxHeartbeats 4000000 in
set_option maxRecDepth 100000 in
theorem z_X0_judge_7 {X : ZX} {G : ZG}  {x0 : Nat} {x1 : Nat} {x2 : Nat} {x3 : Int32}  {K : MK} {N : MK} {I : MI} {L : ML} {R : MR}  {Q : Int32 → MI → Prop} (hC : ZOk X G RX0 cX0_judge 5 (some .int)) (hRm : X.2.2.2.1 = rm_X0_judge) (h : w_X0_judge_7 x0 x1 x2 x3 K N I L R  Q) : Z X G 5 0 0 (z_T X G (qIi K N L R Q) 0 0) K N I L R 7 [(0, .ref x0), (1, .ref x1), (2, .ref x2), (3, .int x3)] [] := by
  delta w_X0_judge_7 at h
  obtain ⟨J, ⟨n, h0⟩, hs⟩ := h
  have key : ∀ (n : Nat) (x0 : Nat) (x1 : Nat) (x2 : Nat) (x3 : Int32) (I : MI), J n x0 x1 x2 x3 I → Z X G 5 0 0 (z_T X G (qIi K N L R Q) 0 0) K N I L R 7 [(0, .ref x0), (1, .ref x1), (2, .ref x2), (3, .int x3)] [] := by
    intro n
    induction n using Nat.strongRecOn with
    | _ n ih =>
      intro x0 x1 x2 x3 I hJ
      have hC7 : ∀ (y0 : Nat) (y1 : Nat) (y2 : Nat) (y3 : Int32) (zI : MI), (∃ n1, n1 < n ∧ J n1 y0 y1 y2 y3 zI) → Z X G 5 0 0 (z_T X G (qIi K N L R Q) 0 0) K N zI L R 7 [(0, .ref y0), (1, .ref y1), (2, .ref y2), (3, .int y3)] [] := fun y0 y1 y2 y3 zI ⟨n1, hn1, hj⟩ => ih n1 hn1 y0 y1 y2 y3 zI hj
      have h := hs n x0 x1 x2 x3 I hJ
      refine z_iload_n hC (q := 3) dX0_judge_7 rfl rfl ?_
      refine z_aload_n hC (q := 0) dX0_judge_8 rfl rfl ?_
      obtain ⟨hk3, h⟩ := h
      obtain ⟨b4, hb4, h⟩ := h
      refine gf_RX0_14 hC dX0_judge_9 hk3 hb4 ?_
      obtain ⟨hk5, h⟩ := h
      refine gf_RX0_77 hC dX0_judge_12 hk5 ?_
      refine z_icmp_ge hC (tgt := 51) dX0_judge_15 (by decide) (fun hc => ?_) (fun hc => ?_)
      · have h := h.1 hc
        refine z_iconst hC (v := 0) k_iconst_0 dX0_judge_51 ?_
        exact z_iret hC dX0_judge_52 ⟨_, rfl, rfl, rfl, rfl, rfl, h⟩
      · have h := h.2 hc
        refine z_aload_n hC (q := 0) dX0_judge_18 rfl rfl ?_
        refine z_aload_n hC (q := 1) dX0_judge_19 rfl rfl ?_
        refine z_aload_n hC (q := 2) dX0_judge_20 rfl rfl ?_
        refine z_iload_n hC (q := 3) dX0_judge_21 rfl rfl ?_
        refine cl_RX0_83 hC (c_X0_judgeLine _ G x0 x1 x2 x3 K N I L R _ h) hk3 dX0_judge_22 (by rw [hRm]; exact ⟨Nat.le_of_ble_eq_true rfl, Nat.le_of_ble_eq_true rfl⟩) ⟨Nat.zero_le _, Nat.zero_le _⟩ (Nat.le_of_ble_eq_true rfl) (z_kIi (I := I) (fun r6 I7 h => ?_))
        refine z_istore hC (lv1 := [(4, .int r6), (0, .ref x0), (1, .ref x1), (2, .ref x2), (3, .int x3)]) dX0_judge_25 (by decide) rfl ?_
        refine z_iload hC (q := 0) dX0_judge_27 rfl ?_
        refine z_if_eq hC (tgt := 35) dX0_judge_29 (by decide) (fun hc => ?_) (fun hc => ?_)
        · have h := h.1 hc
          refine z_aload_n hC (q := 1) dX0_judge_35 rfl rfl ?_
          refine z_dup hC rfl dX0_judge_36 ?_
          refine gf_RX0_20 hC dX0_judge_37 hk3 ?_
          refine z_iconst hC (v := 1) k_iconst_1 dX0_judge_40 ?_
          refine z_iadd hC dX0_judge_41 ?_
          refine pf_RX0_20 hC dX0_judge_42 hk3 ?_
          refine z_genI (fun I8 eI8 => ?_)
          have h := h I8 eI8
          obtain ⟨v9, ev9⟩ : ∃ y : Int32, y = x3 + 1 := ⟨_, rfl⟩
          have h := h v9 ev9
          refine z_iinc hC (q := 4) (v := v9) (lv1 := [(3, .int v9), (4, .int r6), (0, .ref x0), (1, .ref x1), (2, .ref x2)]) dX0_judge_45 rfl (by rw [ev9, k_iinc_1]) (by decide) rfl ?_
          refine z_goto hC (tgt := 7) dX0_judge_48 (by decide) ?_
          exact z_sub [(0, .ref x0), (1, .ref x1), (2, .ref x2), (3, .int v9)] [2, 3, 4, 0] rfl (hC7 _ _ _ _ _ h)
        · have h := h.2 hc
          refine z_iload hC (q := 0) dX0_judge_32 rfl ?_
          exact z_iret hC dX0_judge_34 ⟨_, rfl, rfl, rfl, rfl, rfl, h⟩
  exact key n x0 x1 x2 x3 I h0
set_option maxHeartbeats 4000000 in
set_option maxRecDepth 100000 in
theorem c_X0_judge  (l : Launch) (G : ZG) (a0 : Nat) (a1 : Nat) (a2 : Nat) (K : MK) (N : MK) (I : MI) (L : ML) (R : MR) (Q : Int32 → MI → Prop) (h : w_X0_judge a0 a1 a2 K N I L R Q) : Met l yX0_judge (.code yX0_judge cX0_judge 5 (some .int) :: z_tbl) rm_X0_judge (z_Pc G [.ref a0, .ref a1, .ref a2] K N I L R) (z_Qc G (qIi K N L R Q)) 0 0 (z_A G) := by
  refine z_met (by decide) (Nat.le_of_ble_eq_true rfl) (fun X hX hRm hC0 hnm => ?_)
  subst hX
  have hC : ZOk X G RX0 cX0_judge 5 (some .int) := hC0
  show Z X G 5 0 0 _ K N I L R 0 [(0, .ref a0), (1, .ref a1), (2, .ref a2)] []
  delta w_X0_judge at h
  refine z_aload_n hC (q := 0) dX0_judge_0 rfl rfl ?_
  refine z_iconst hC (v := 0) k_iconst_0 dX0_judge_1 ?_
  obtain ⟨hk1, h⟩ := h
  refine pf_RX0_20 hC dX0_judge_2 hk1 ?_
  refine z_genI (fun I2 eI2 => ?_)
  have h := h I2 eI2
  refine z_iconst hC (v := 0) k_iconst_0 dX0_judge_5 ?_
  refine z_istore_n hC (lv1 := [(3, .int 0), (0, .ref a0), (1, .ref a1), (2, .ref a2)]) dX0_judge_6 rfl (by decide) rfl ?_
  exact z_sub [(0, .ref a0), (1, .ref a1), (2, .ref a2), (3, .int 0)] [1, 2, 3, 0] rfl (z_X0_judge_7 hC hRm h)
def w_X1_draw  (a0 : Nat) (a1 : Int32) (K : MK) (N : MK) (I : MI) (L : ML) (R : MR) (Q : Int32 → MI → Prop) : Prop := K a0 = 2 ∧ ∀ I2 : MI, I2 = mup I a0 0 (((I a0 0) * 1103515245) + 12345) → (a1 ≤ 0 → Q 0 I2) ∧ (¬ a1 ≤ 0 → ¬ a1 = 0 ∧ Q ((ushr (I2 a0 0) 8) - (ushr (I2 a0 0) 8) / a1 * a1) I2)
set_option maxHeartbeats 4000000 in
set_option maxRecDepth 100000 in
theorem c_X1_draw  (l : Launch) (G : ZG) (a0 : Nat) (a1 : Int32) (K : MK) (N : MK) (I : MI) (L : ML) (R : MR) (Q : Int32 → MI → Prop) (h : w_X1_draw a0 a1 K N I L R Q) : Met l yX1_draw (.code yX1_draw cX1_draw 2 (some .int) :: z_tbl) rm_X1_draw (z_Pc G [.ref a0, .int a1] K N I L R) (z_Qc G (qIi K N L R Q)) 0 0 (z_A G) := by
  refine z_met (by decide) (Nat.le_of_ble_eq_true rfl) (fun X hX hRm hC0 hnm => ?_)
  subst hX
  have hC : ZOk X G RX1 cX1_draw 2 (some .int) := hC0
  show Z X G 2 0 0 _ K N I L R 0 [(0, .ref a0), (1, .int a1)] []
  delta w_X1_draw at h
  refine z_aload_n hC (q := 0) dX1_draw_0 rfl rfl ?_
  refine z_aload_n hC (q := 0) dX1_draw_1 rfl rfl ?_
  obtain ⟨hk1, h⟩ := h
  refine gf_RX1_9 hC dX1_draw_2 hk1 ?_
  refine z_ldc hC cst_RX1_19 dX1_draw_5 ?_
  refine z_imul hC dX1_draw_7 ?_
  refine z_sipush hC (v := 12345) k_sipush_12345 dX1_draw_8 ?_
  refine z_iadd hC dX1_draw_11 ?_
  refine pf_RX1_9 hC dX1_draw_12 hk1 ?_
  refine z_genI (fun I2 eI2 => ?_)
  have h := h I2 eI2
  refine z_iload_n hC (q := 1) dX1_draw_15 rfl rfl ?_
  refine z_if_le hC (tgt := 31) dX1_draw_16 (by decide) (fun hc => ?_) (fun hc => ?_)
  · have h := h.1 hc
    refine z_iconst hC (v := 0) k_iconst_0 dX1_draw_31 ?_
    exact z_iret hC dX1_draw_32 ⟨_, rfl, rfl, rfl, rfl, rfl, h⟩
  · have h := h.2 hc
    refine z_aload_n hC (q := 0) dX1_draw_19 rfl rfl ?_
    refine gf_RX1_9 hC dX1_draw_20 hk1 ?_
    refine z_bipush hC (v := 8) k_bipush_8 dX1_draw_23 ?_
    refine z_iushr hC dX1_draw_25 ?_
    refine z_iload_n hC (q := 1) dX1_draw_26 rfl rfl ?_
    obtain ⟨hz3, h⟩ := h
    refine z_irem hC hz3 dX1_draw_27 ?_
    refine z_goto hC (tgt := 32) dX1_draw_28 (by decide) ?_
    exact z_iret hC dX1_draw_32 ⟨_, rfl, rfl, rfl, rfl, rfl, h⟩
def w_X1_doDeed  (a0 : Nat) (a1 : Nat) (a2 : Nat) (K : MK) (N : MK) (I : MI) (L : ML) (R : MR) (Q : Int32 → MI → Prop) : Prop := K a0 = 2 ∧ w_X1_draw a0 8 K N I L R (fun r2 I3 => (r2 = 0 → w_X1_draw a0 8 K N I3 L R (fun r4 I5 => w_X1_draw a0 1000 K N I5 L R (fun r6 I7 => K a2 = 4 ∧ w_X3_perform a2 a1 17 r4 r6 K N I7 L R (fun r9 I10 => Q r9 I10)))) ∧ (¬ r2 = 0 → (r2 = 1 → w_X1_draw a0 64 K N I3 L R (fun r11 I12 => w_X1_draw a0 1000 K N I12 L R (fun r13 I14 => K a2 = 4 ∧ w_X3_perform a2 a1 18 r11 r13 K N I14 L R (fun r16 I17 => Q r16 I17)))) ∧ (¬ r2 = 1 → (r2 = 2 → K a1 = 10 ∧ w_X1_draw a0 (I3 a1 0) K N I3 L R (fun r19 I20 => K a2 = 4 ∧ w_X3_perform a2 a1 19 r19 0 K N I20 L R (fun r22 I23 => Q r22 I23))) ∧ (¬ r2 = 2 → (r2 = 3 → K a2 = 4 ∧ w_X3_perform a2 a1 22 0 0 K N I3 L R (fun r25 I26 => Q r25 I26)) ∧ (¬ r2 = 3 → (r2 = 4 → K a2 = 4 ∧ w_X3_perform a2 a1 22 0 0 K N I3 L R (fun r28 I29 => Q r28 I29)) ∧ (¬ r2 = 4 → (r2 = 5 → K a2 = 4 ∧ w_X3_perform a2 a1 23 0 0 K N I3 L R (fun r31 I32 => Q r31 I32)) ∧ (¬ r2 = 5 → (r2 = 6 → K a2 = 4 ∧ w_X3_perform a2 a1 24 0 0 K N I3 L R (fun r34 I35 => Q r34 I35)) ∧ (¬ r2 = 6 → w_X1_draw a0 250 K N I3 L R (fun r36 I37 => ∀ v38 : Int32, v38 = (r36 + 1) → K a2 = 4 ∧ w_X3_hasStop a2 v38 K N I37 L R (fun r40 => (r40 = false → w_X3_perform a2 a1 20 v38 0 K N I37 L R (fun r41 I42 => Q r41 I42)) ∧ (r40 = true → w_X3_perform a2 a1 21 v38 0 K N I37 L R (fun r43 I44 => Q r43 I44))))))))))))
set_option maxHeartbeats 4000000 in
set_option maxRecDepth 100000 in
theorem c_X1_doDeed  (l : Launch) (G : ZG) (a0 : Nat) (a1 : Nat) (a2 : Nat) (K : MK) (N : MK) (I : MI) (L : ML) (R : MR) (Q : Int32 → MI → Prop) (h : w_X1_doDeed a0 a1 a2 K N I L R Q) : Met l yX1_doDeed (.code yX1_doDeed cX1_doDeed 6 (some .int) :: z_tbl) rm_X1_doDeed (z_Pc G [.ref a0, .ref a1, .ref a2] K N I L R) (z_Qc G (qIi K N L R Q)) 0 0 (z_A G) := by
  refine z_met (by decide) (Nat.le_of_ble_eq_true rfl) (fun X hX hRm hC0 hnm => ?_)
  subst hX
  have hC : ZOk X G RX1 cX1_doDeed 6 (some .int) := hC0
  show Z X G 6 0 0 _ K N I L R 0 [(0, .ref a0), (1, .ref a1), (2, .ref a2)] []
  delta w_X1_doDeed at h
  refine z_iconst hC (v := 0) k_iconst_0 dX1_doDeed_0 ?_
  refine z_istore hC (lv1 := [(4, .int 0), (0, .ref a0), (1, .ref a1), (2, .ref a2)]) dX1_doDeed_1 (by decide) rfl ?_
  refine z_iconst hC (v := 0) k_iconst_0 dX1_doDeed_3 ?_
  refine z_istore hC (lv1 := [(5, .int 0), (4, .int 0), (0, .ref a0), (1, .ref a1), (2, .ref a2)]) dX1_doDeed_4 (by decide) rfl ?_
  refine z_aload_n hC (q := 2) dX1_doDeed_6 rfl rfl ?_
  refine z_bipush hC (v := 8) k_bipush_8 dX1_doDeed_7 ?_
  obtain ⟨hk1, h⟩ := h
  refine cl_RX1_20 hC (c_X1_draw _ G a0 8 K N I L R _ h) hk1 dX1_doDeed_9 (by rw [hRm]; exact ⟨Nat.le_of_ble_eq_true rfl, Nat.le_of_ble_eq_true rfl⟩) ⟨Nat.zero_le _, Nat.zero_le _⟩ (Nat.le_of_ble_eq_true rfl) (z_kIi (I := I) (fun r2 I3 h => ?_))
  by_cases hc0 : r2 = 0
  · have h := h.1 hc0
    refine z_tableIn hC (off := 44) (tgt := 56) 0 hc0 dX1_doDeed_12 (by decide) (by decide) ?_
    refine z_bipush hC (v := 17) k_bipush_17 dX1_doDeed_56 ?_
    refine z_istore_n hC (lv1 := [(3, .int 17), (5, .int 0), (4, .int 0), (0, .ref a0), (1, .ref a1), (2, .ref a2)]) dX1_doDeed_58 rfl (by decide) rfl ?_
    refine z_aload_n hC (q := 3) dX1_doDeed_59 rfl rfl ?_
    refine z_bipush hC (v := 8) k_bipush_8 dX1_doDeed_60 ?_
    refine cl_RX1_20 hC (c_X1_draw _ G a0 8 K N I3 L R _ h) hk1 dX1_doDeed_62 (by rw [hRm]; exact ⟨Nat.le_of_ble_eq_true rfl, Nat.le_of_ble_eq_true rfl⟩) ⟨Nat.zero_le _, Nat.zero_le _⟩ (Nat.le_of_ble_eq_true rfl) (z_kIi (I := I3) (fun r4 I5 h => ?_))
    refine z_istore hC (lv1 := [(4, .int r4), (3, .int 17), (5, .int 0), (0, .ref a0), (1, .ref a1), (2, .ref a2)]) dX1_doDeed_65 (by decide) rfl ?_
    refine z_aload_n hC (q := 3) dX1_doDeed_67 rfl rfl ?_
    refine z_sipush hC (v := 1000) k_sipush_1000 dX1_doDeed_68 ?_
    refine cl_RX1_20 hC (c_X1_draw _ G a0 1000 K N I5 L R _ h) hk1 dX1_doDeed_71 (by rw [hRm]; exact ⟨Nat.le_of_ble_eq_true rfl, Nat.le_of_ble_eq_true rfl⟩) ⟨Nat.zero_le _, Nat.zero_le _⟩ (Nat.le_of_ble_eq_true rfl) (z_kIi (I := I5) (fun r6 I7 h => ?_))
    refine z_istore hC (lv1 := [(5, .int r6), (4, .int r4), (3, .int 17), (0, .ref a0), (1, .ref a1), (2, .ref a2)]) dX1_doDeed_74 (by decide) rfl ?_
    refine z_goto hC (tgt := 164) dX1_doDeed_76 (by decide) ?_
    refine z_aload_n hC (q := 5) dX1_doDeed_164 rfl rfl ?_
    refine z_aload_n hC (q := 4) dX1_doDeed_165 rfl rfl ?_
    refine z_iload_n hC (q := 2) dX1_doDeed_166 rfl rfl ?_
    refine z_iload hC (q := 1) dX1_doDeed_167 rfl ?_
    refine z_iload hC (q := 0) dX1_doDeed_169 rfl ?_
    obtain ⟨hk8, h⟩ := h
    refine cl_RX1_35 hC (c_X3_perform _ G a2 a1 17 r4 r6 K N I7 L R _ h) hk8 dX1_doDeed_171 (by rw [hRm]; exact ⟨Nat.le_of_ble_eq_true rfl, Nat.le_of_ble_eq_true rfl⟩) ⟨Nat.zero_le _, Nat.zero_le _⟩ (Nat.le_of_ble_eq_true rfl) (z_kIi (I := I7) (fun r9 I10 h => ?_))
    exact z_iret hC dX1_doDeed_174 ⟨_, rfl, rfl, rfl, rfl, rfl, h⟩
  · have h := h.2 hc0
    by_cases hc1 : r2 = 1
    · have h := h.1 hc1
      refine z_tableIn hC (off := 67) (tgt := 79) 1 hc1 dX1_doDeed_12 (by decide) (by decide) ?_
      refine z_bipush hC (v := 18) k_bipush_18 dX1_doDeed_79 ?_
      refine z_istore_n hC (lv1 := [(3, .int 18), (5, .int 0), (4, .int 0), (0, .ref a0), (1, .ref a1), (2, .ref a2)]) dX1_doDeed_81 rfl (by decide) rfl ?_
      refine z_aload_n hC (q := 3) dX1_doDeed_82 rfl rfl ?_
      refine z_bipush hC (v := 64) k_bipush_64 dX1_doDeed_83 ?_
      refine cl_RX1_20 hC (c_X1_draw _ G a0 64 K N I3 L R _ h) hk1 dX1_doDeed_85 (by rw [hRm]; exact ⟨Nat.le_of_ble_eq_true rfl, Nat.le_of_ble_eq_true rfl⟩) ⟨Nat.zero_le _, Nat.zero_le _⟩ (Nat.le_of_ble_eq_true rfl) (z_kIi (I := I3) (fun r11 I12 h => ?_))
      refine z_istore hC (lv1 := [(4, .int r11), (3, .int 18), (5, .int 0), (0, .ref a0), (1, .ref a1), (2, .ref a2)]) dX1_doDeed_88 (by decide) rfl ?_
      refine z_aload_n hC (q := 3) dX1_doDeed_90 rfl rfl ?_
      refine z_sipush hC (v := 1000) k_sipush_1000 dX1_doDeed_91 ?_
      refine cl_RX1_20 hC (c_X1_draw _ G a0 1000 K N I12 L R _ h) hk1 dX1_doDeed_94 (by rw [hRm]; exact ⟨Nat.le_of_ble_eq_true rfl, Nat.le_of_ble_eq_true rfl⟩) ⟨Nat.zero_le _, Nat.zero_le _⟩ (Nat.le_of_ble_eq_true rfl) (z_kIi (I := I12) (fun r13 I14 h => ?_))
      refine z_istore hC (lv1 := [(5, .int r13), (4, .int r11), (3, .int 18), (0, .ref a0), (1, .ref a1), (2, .ref a2)]) dX1_doDeed_97 (by decide) rfl ?_
      refine z_goto hC (tgt := 164) dX1_doDeed_99 (by decide) ?_
      refine z_aload_n hC (q := 5) dX1_doDeed_164 rfl rfl ?_
      refine z_aload_n hC (q := 4) dX1_doDeed_165 rfl rfl ?_
      refine z_iload_n hC (q := 2) dX1_doDeed_166 rfl rfl ?_
      refine z_iload hC (q := 1) dX1_doDeed_167 rfl ?_
      refine z_iload hC (q := 0) dX1_doDeed_169 rfl ?_
      obtain ⟨hk15, h⟩ := h
      refine cl_RX1_35 hC (c_X3_perform _ G a2 a1 18 r11 r13 K N I14 L R _ h) hk15 dX1_doDeed_171 (by rw [hRm]; exact ⟨Nat.le_of_ble_eq_true rfl, Nat.le_of_ble_eq_true rfl⟩) ⟨Nat.zero_le _, Nat.zero_le _⟩ (Nat.le_of_ble_eq_true rfl) (z_kIi (I := I14) (fun r16 I17 h => ?_))
      exact z_iret hC dX1_doDeed_174 ⟨_, rfl, rfl, rfl, rfl, rfl, h⟩
    · have h := h.2 hc1
      by_cases hc2 : r2 = 2
      · have h := h.1 hc2
        refine z_tableIn hC (off := 90) (tgt := 102) 2 hc2 dX1_doDeed_12 (by decide) (by decide) ?_
        refine z_bipush hC (v := 19) k_bipush_19 dX1_doDeed_102 ?_
        refine z_istore_n hC (lv1 := [(3, .int 19), (5, .int 0), (4, .int 0), (0, .ref a0), (1, .ref a1), (2, .ref a2)]) dX1_doDeed_104 rfl (by decide) rfl ?_
        refine z_aload_n hC (q := 3) dX1_doDeed_105 rfl rfl ?_
        refine z_aload_n hC (q := 4) dX1_doDeed_106 rfl rfl ?_
        obtain ⟨hk18, h⟩ := h
        refine gf_RX1_26 hC dX1_doDeed_107 hk18 ?_
        refine cl_RX1_20 hC (c_X1_draw _ G a0 (I3 a1 0) K N I3 L R _ h) hk1 dX1_doDeed_110 (by rw [hRm]; exact ⟨Nat.le_of_ble_eq_true rfl, Nat.le_of_ble_eq_true rfl⟩) ⟨Nat.zero_le _, Nat.zero_le _⟩ (Nat.le_of_ble_eq_true rfl) (z_kIi (I := I3) (fun r19 I20 h => ?_))
        refine z_istore hC (lv1 := [(4, .int r19), (3, .int 19), (5, .int 0), (0, .ref a0), (1, .ref a1), (2, .ref a2)]) dX1_doDeed_113 (by decide) rfl ?_
        refine z_goto hC (tgt := 164) dX1_doDeed_115 (by decide) ?_
        refine z_aload_n hC (q := 5) dX1_doDeed_164 rfl rfl ?_
        refine z_aload_n hC (q := 4) dX1_doDeed_165 rfl rfl ?_
        refine z_iload_n hC (q := 1) dX1_doDeed_166 rfl rfl ?_
        refine z_iload hC (q := 0) dX1_doDeed_167 rfl ?_
        refine z_iload hC (q := 2) dX1_doDeed_169 rfl ?_
        obtain ⟨hk21, h⟩ := h
        refine cl_RX1_35 hC (c_X3_perform _ G a2 a1 19 r19 0 K N I20 L R _ h) hk21 dX1_doDeed_171 (by rw [hRm]; exact ⟨Nat.le_of_ble_eq_true rfl, Nat.le_of_ble_eq_true rfl⟩) ⟨Nat.zero_le _, Nat.zero_le _⟩ (Nat.le_of_ble_eq_true rfl) (z_kIi (I := I20) (fun r22 I23 h => ?_))
        exact z_iret hC dX1_doDeed_174 ⟨_, rfl, rfl, rfl, rfl, rfl, h⟩
      · have h := h.2 hc2
        by_cases hc3 : r2 = 3
        · have h := h.1 hc3
          refine z_tableIn hC (off := 106) (tgt := 118) 3 hc3 dX1_doDeed_12 (by decide) (by decide) ?_
          refine z_bipush hC (v := 22) k_bipush_22 dX1_doDeed_118 ?_
          refine z_istore_n hC (lv1 := [(3, .int 22), (5, .int 0), (4, .int 0), (0, .ref a0), (1, .ref a1), (2, .ref a2)]) dX1_doDeed_120 rfl (by decide) rfl ?_
          refine z_goto hC (tgt := 164) dX1_doDeed_121 (by decide) ?_
          refine z_aload_n hC (q := 5) dX1_doDeed_164 rfl rfl ?_
          refine z_aload_n hC (q := 4) dX1_doDeed_165 rfl rfl ?_
          refine z_iload_n hC (q := 0) dX1_doDeed_166 rfl rfl ?_
          refine z_iload hC (q := 2) dX1_doDeed_167 rfl ?_
          refine z_iload hC (q := 1) dX1_doDeed_169 rfl ?_
          obtain ⟨hk24, h⟩ := h
          refine cl_RX1_35 hC (c_X3_perform _ G a2 a1 22 0 0 K N I3 L R _ h) hk24 dX1_doDeed_171 (by rw [hRm]; exact ⟨Nat.le_of_ble_eq_true rfl, Nat.le_of_ble_eq_true rfl⟩) ⟨Nat.zero_le _, Nat.zero_le _⟩ (Nat.le_of_ble_eq_true rfl) (z_kIi (I := I3) (fun r25 I26 h => ?_))
          exact z_iret hC dX1_doDeed_174 ⟨_, rfl, rfl, rfl, rfl, rfl, h⟩
        · have h := h.2 hc3
          by_cases hc4 : r2 = 4
          · have h := h.1 hc4
            refine z_tableIn hC (off := 106) (tgt := 118) 4 hc4 dX1_doDeed_12 (by decide) (by decide) ?_
            refine z_bipush hC (v := 22) k_bipush_22 dX1_doDeed_118 ?_
            refine z_istore_n hC (lv1 := [(3, .int 22), (5, .int 0), (4, .int 0), (0, .ref a0), (1, .ref a1), (2, .ref a2)]) dX1_doDeed_120 rfl (by decide) rfl ?_
            refine z_goto hC (tgt := 164) dX1_doDeed_121 (by decide) ?_
            refine z_aload_n hC (q := 5) dX1_doDeed_164 rfl rfl ?_
            refine z_aload_n hC (q := 4) dX1_doDeed_165 rfl rfl ?_
            refine z_iload_n hC (q := 0) dX1_doDeed_166 rfl rfl ?_
            refine z_iload hC (q := 2) dX1_doDeed_167 rfl ?_
            refine z_iload hC (q := 1) dX1_doDeed_169 rfl ?_
            obtain ⟨hk27, h⟩ := h
            refine cl_RX1_35 hC (c_X3_perform _ G a2 a1 22 0 0 K N I3 L R _ h) hk27 dX1_doDeed_171 (by rw [hRm]; exact ⟨Nat.le_of_ble_eq_true rfl, Nat.le_of_ble_eq_true rfl⟩) ⟨Nat.zero_le _, Nat.zero_le _⟩ (Nat.le_of_ble_eq_true rfl) (z_kIi (I := I3) (fun r28 I29 h => ?_))
            exact z_iret hC dX1_doDeed_174 ⟨_, rfl, rfl, rfl, rfl, rfl, h⟩
          · have h := h.2 hc4
            by_cases hc5 : r2 = 5
            · have h := h.1 hc5
              refine z_tableIn hC (off := 112) (tgt := 124) 5 hc5 dX1_doDeed_12 (by decide) (by decide) ?_
              refine z_bipush hC (v := 23) k_bipush_23 dX1_doDeed_124 ?_
              refine z_istore_n hC (lv1 := [(3, .int 23), (5, .int 0), (4, .int 0), (0, .ref a0), (1, .ref a1), (2, .ref a2)]) dX1_doDeed_126 rfl (by decide) rfl ?_
              refine z_goto hC (tgt := 164) dX1_doDeed_127 (by decide) ?_
              refine z_aload_n hC (q := 5) dX1_doDeed_164 rfl rfl ?_
              refine z_aload_n hC (q := 4) dX1_doDeed_165 rfl rfl ?_
              refine z_iload_n hC (q := 0) dX1_doDeed_166 rfl rfl ?_
              refine z_iload hC (q := 2) dX1_doDeed_167 rfl ?_
              refine z_iload hC (q := 1) dX1_doDeed_169 rfl ?_
              obtain ⟨hk30, h⟩ := h
              refine cl_RX1_35 hC (c_X3_perform _ G a2 a1 23 0 0 K N I3 L R _ h) hk30 dX1_doDeed_171 (by rw [hRm]; exact ⟨Nat.le_of_ble_eq_true rfl, Nat.le_of_ble_eq_true rfl⟩) ⟨Nat.zero_le _, Nat.zero_le _⟩ (Nat.le_of_ble_eq_true rfl) (z_kIi (I := I3) (fun r31 I32 h => ?_))
              exact z_iret hC dX1_doDeed_174 ⟨_, rfl, rfl, rfl, rfl, rfl, h⟩
            · have h := h.2 hc5
              by_cases hc6 : r2 = 6
              · have h := h.1 hc6
                refine z_tableIn hC (off := 118) (tgt := 130) 6 hc6 dX1_doDeed_12 (by decide) (by decide) ?_
                refine z_bipush hC (v := 24) k_bipush_24 dX1_doDeed_130 ?_
                refine z_istore_n hC (lv1 := [(3, .int 24), (5, .int 0), (4, .int 0), (0, .ref a0), (1, .ref a1), (2, .ref a2)]) dX1_doDeed_132 rfl (by decide) rfl ?_
                refine z_goto hC (tgt := 164) dX1_doDeed_133 (by decide) ?_
                refine z_aload_n hC (q := 5) dX1_doDeed_164 rfl rfl ?_
                refine z_aload_n hC (q := 4) dX1_doDeed_165 rfl rfl ?_
                refine z_iload_n hC (q := 0) dX1_doDeed_166 rfl rfl ?_
                refine z_iload hC (q := 2) dX1_doDeed_167 rfl ?_
                refine z_iload hC (q := 1) dX1_doDeed_169 rfl ?_
                obtain ⟨hk33, h⟩ := h
                refine cl_RX1_35 hC (c_X3_perform _ G a2 a1 24 0 0 K N I3 L R _ h) hk33 dX1_doDeed_171 (by rw [hRm]; exact ⟨Nat.le_of_ble_eq_true rfl, Nat.le_of_ble_eq_true rfl⟩) ⟨Nat.zero_le _, Nat.zero_le _⟩ (Nat.le_of_ble_eq_true rfl) (z_kIi (I := I3) (fun r34 I35 h => ?_))
                exact z_iret hC dX1_doDeed_174 ⟨_, rfl, rfl, rfl, rfl, rfl, h⟩
              · have h := h.2 hc6
                have hout : r2.toInt < 0 ∨ 6 < r2.toInt := by
                  have hc0 := z_nei hc0 (by decide : (0 : Int32).toInt = 0)
                  have hc1 := z_nei hc1 (by decide : (1 : Int32).toInt = 1)
                  have hc2 := z_nei hc2 (by decide : (2 : Int32).toInt = 2)
                  have hc3 := z_nei hc3 (by decide : (3 : Int32).toInt = 3)
                  have hc4 := z_nei hc4 (by decide : (4 : Int32).toInt = 4)
                  have hc5 := z_nei hc5 (by decide : (5 : Int32).toInt = 5)
                  have hc6 := z_nei hc6 (by decide : (6 : Int32).toInt = 6)
                  omega
                refine z_tableOut hC (tgt := 136) dX1_doDeed_12 hout (by decide) ?_
                refine z_aload_n hC (q := 2) dX1_doDeed_136 rfl rfl ?_
                refine z_sipush hC (v := 250) k_sipush_250 dX1_doDeed_137 ?_
                refine cl_RX1_20 hC (c_X1_draw _ G a0 250 K N I3 L R _ h) hk1 dX1_doDeed_140 (by rw [hRm]; exact ⟨Nat.le_of_ble_eq_true rfl, Nat.le_of_ble_eq_true rfl⟩) ⟨Nat.zero_le _, Nat.zero_le _⟩ (Nat.le_of_ble_eq_true rfl) (z_kIi (I := I3) (fun r36 I37 h => ?_))
                refine z_iconst hC (v := 1) k_iconst_1 dX1_doDeed_143 ?_
                refine z_iadd hC dX1_doDeed_144 ?_
                refine z_topi (fun v38 ev38 => ?_)
                have h := h v38 ev38
                refine z_istore hC (lv1 := [(4, .int v38), (5, .int 0), (0, .ref a0), (1, .ref a1), (2, .ref a2)]) dX1_doDeed_145 (by decide) rfl ?_
                refine z_aload_n hC (q := 4) dX1_doDeed_147 rfl rfl ?_
                refine z_iload hC (q := 0) dX1_doDeed_148 rfl ?_
                obtain ⟨hk39, h⟩ := h
                refine cl_RX1_31 hC (c_X3_hasStop _ G a2 v38 K N I37 L R _ h) hk39 dX1_doDeed_150 (by rw [hRm]; exact ⟨Nat.le_of_ble_eq_true rfl, Nat.le_of_ble_eq_true rfl⟩) ⟨Nat.zero_le _, Nat.zero_le _⟩ (Nat.le_of_ble_eq_true rfl) (z_kPz (fun r40 h => ?_))
                refine z_ifz_eq hC (tgt := 161) dX1_doDeed_153 (by decide) (fun hc => ?_) (fun hc => ?_)
                · have h := h.1 hc
                  refine z_bipush hC (v := 20) k_bipush_20 dX1_doDeed_161 ?_
                  refine z_istore_n hC (lv1 := [(3, .int 20), (4, .int v38), (5, .int 0), (0, .ref a0), (1, .ref a1), (2, .ref a2)]) dX1_doDeed_163 rfl (by decide) rfl ?_
                  refine z_aload_n hC (q := 5) dX1_doDeed_164 rfl rfl ?_
                  refine z_aload_n hC (q := 4) dX1_doDeed_165 rfl rfl ?_
                  refine z_iload_n hC (q := 0) dX1_doDeed_166 rfl rfl ?_
                  refine z_iload hC (q := 1) dX1_doDeed_167 rfl ?_
                  refine z_iload hC (q := 2) dX1_doDeed_169 rfl ?_
                  refine cl_RX1_35 hC (c_X3_perform _ G a2 a1 20 v38 0 K N I37 L R _ h) hk39 dX1_doDeed_171 (by rw [hRm]; exact ⟨Nat.le_of_ble_eq_true rfl, Nat.le_of_ble_eq_true rfl⟩) ⟨Nat.zero_le _, Nat.zero_le _⟩ (Nat.le_of_ble_eq_true rfl) (z_kIi (I := I37) (fun r41 I42 h => ?_))
                  exact z_iret hC dX1_doDeed_174 ⟨_, rfl, rfl, rfl, rfl, rfl, h⟩
                · have h := h.2 hc
                  refine z_bipush hC (v := 21) k_bipush_21 dX1_doDeed_156 ?_
                  refine z_goto hC (tgt := 163) dX1_doDeed_158 (by decide) ?_
                  refine z_istore_n hC (lv1 := [(3, .int 21), (4, .int v38), (5, .int 0), (0, .ref a0), (1, .ref a1), (2, .ref a2)]) dX1_doDeed_163 rfl (by decide) rfl ?_
                  refine z_aload_n hC (q := 5) dX1_doDeed_164 rfl rfl ?_
                  refine z_aload_n hC (q := 4) dX1_doDeed_165 rfl rfl ?_
                  refine z_iload_n hC (q := 0) dX1_doDeed_166 rfl rfl ?_
                  refine z_iload hC (q := 1) dX1_doDeed_167 rfl ?_
                  refine z_iload hC (q := 2) dX1_doDeed_169 rfl ?_
                  refine cl_RX1_35 hC (c_X3_perform _ G a2 a1 21 v38 0 K N I37 L R _ h) hk39 dX1_doDeed_171 (by rw [hRm]; exact ⟨Nat.le_of_ble_eq_true rfl, Nat.le_of_ble_eq_true rfl⟩) ⟨Nat.zero_le _, Nat.zero_le _⟩ (Nat.le_of_ble_eq_true rfl) (z_kIi (I := I37) (fun r43 I44 h => ?_))
                  exact z_iret hC dX1_doDeed_174 ⟨_, rfl, rfl, rfl, rfl, rfl, h⟩
def w_X1_doDeeds_12  (x0 : Nat) (x1 : Nat) (x2 : Nat) (x3 : Int32) (x5 : Int32) (x6 : Int32)  (K : MK) (N : MK) (I : MI) (L : ML) (R : MR)  (Q : Int32 → MI → Prop) : Prop := ∃ J : Nat → Nat → Nat → Nat → Int32 → Int32 → Int32 → MI → Prop, (∃ n, J n x0 x1 x2 x3 x5 x6 I) ∧ ∀ (n : Nat) (x0 : Nat) (x1 : Nat) (x2 : Nat) (x3 : Int32) (x5 : Int32) (x6 : Int32) (I : MI), J n x0 x1 x2 x3 x5 x6 I → (x3 ≤ x6 → Q x5 I) ∧ (¬ x3 ≤ x6 → K x0 = 2 ∧ w_X1_doDeed x0 x1 x2 K N I L R (fun r4 I5 => (¬ r4 = 0 → ∀ v6 : Int32, v6 = x6 + 1 → ∃ n1, n1 < n ∧ J n1 x0 x1 x2 x3 x5 v6 I5) ∧ (r4 = 0 → ∀ v7 : Int32, v7 = x5 + 1 → ∀ v8 : Int32, v8 = x6 + 1 → ∃ n1, n1 < n ∧ J n1 x0 x1 x2 x3 v7 v8 I5)))
def w_X1_doDeeds  (a0 : Nat) (a1 : Nat) (a2 : Nat) (a3 : Int32) (a4 : Int32) (K : MK) (N : MK) (I : MI) (L : ML) (R : MR) (Q : Int32 → MI → Prop) : Prop := K a0 = 2 ∧ ∀ I2 : MI, I2 = mup I a0 0 a4 → w_X1_doDeeds_12 a0 a1 a2 a3 0 0 K N I2 L R Q
set_option maxHeartbeats 4000000 in
set_option maxRecDepth 100000 in
theorem z_X1_doDeeds_12 {X : ZX} {G : ZG}  {x0 : Nat} {x1 : Nat} {x2 : Nat} {x3 : Int32} {x5 : Int32} {x6 : Int32}  {K : MK} {N : MK} {I : MI} {L : ML} {R : MR}  {Q : Int32 → MI → Prop} (hC : ZOk X G RX1 cX1_doDeeds 7 (some .int)) (hRm : X.2.2.2.1 = rm_X1_doDeeds) (h : w_X1_doDeeds_12 x0 x1 x2 x3 x5 x6 K N I L R  Q) : Z X G 7 0 0 (z_T X G (qIi K N L R Q) 0 0) K N I L R 12 [(0, .ref x0), (1, .ref x1), (2, .ref x2), (3, .int x3), (5, .int x5), (6, .int x6)] [] := by
  delta w_X1_doDeeds_12 at h
  obtain ⟨J, ⟨n, h0⟩, hs⟩ := h
  have key : ∀ (n : Nat) (x0 : Nat) (x1 : Nat) (x2 : Nat) (x3 : Int32) (x5 : Int32) (x6 : Int32) (I : MI), J n x0 x1 x2 x3 x5 x6 I → Z X G 7 0 0 (z_T X G (qIi K N L R Q) 0 0) K N I L R 12 [(0, .ref x0), (1, .ref x1), (2, .ref x2), (3, .int x3), (5, .int x5), (6, .int x6)] [] := by
    intro n
    induction n using Nat.strongRecOn with
    | _ n ih =>
      intro x0 x1 x2 x3 x5 x6 I hJ
      have hC12 : ∀ (y0 : Nat) (y1 : Nat) (y2 : Nat) (y3 : Int32) (y4 : Int32) (y5 : Int32) (zI : MI), (∃ n1, n1 < n ∧ J n1 y0 y1 y2 y3 y4 y5 zI) → Z X G 7 0 0 (z_T X G (qIi K N L R Q) 0 0) K N zI L R 12 [(0, .ref y0), (1, .ref y1), (2, .ref y2), (3, .int y3), (5, .int y4), (6, .int y5)] [] := fun y0 y1 y2 y3 y4 y5 zI ⟨n1, hn1, hj⟩ => ih n1 hn1 y0 y1 y2 y3 y4 y5 zI hj
      have h := hs n x0 x1 x2 x3 x5 x6 I hJ
      refine z_iload hC (q := 5) dX1_doDeeds_12 rfl ?_
      refine z_iload_n hC (q := 3) dX1_doDeeds_14 rfl rfl ?_
      refine z_icmp_ge hC (tgt := 36) dX1_doDeeds_15 (by decide) (fun hc => ?_) (fun hc => ?_)
      · have h := h.1 hc
        refine z_iload hC (q := 4) dX1_doDeeds_36 rfl ?_
        exact z_iret hC dX1_doDeeds_38 ⟨_, rfl, rfl, rfl, rfl, rfl, h⟩
      · have h := h.2 hc
        refine z_aload_n hC (q := 0) dX1_doDeeds_18 rfl rfl ?_
        refine z_aload_n hC (q := 1) dX1_doDeeds_19 rfl rfl ?_
        refine z_aload_n hC (q := 2) dX1_doDeeds_20 rfl rfl ?_
        obtain ⟨hk3, h⟩ := h
        refine cl_RX1_15 hC (c_X1_doDeed _ G x0 x1 x2 K N I L R _ h) hk3 dX1_doDeeds_21 (by rw [hRm]; exact ⟨Nat.le_of_ble_eq_true rfl, Nat.le_of_ble_eq_true rfl⟩) ⟨Nat.zero_le _, Nat.zero_le _⟩ (Nat.le_of_ble_eq_true rfl) (z_kIi (I := I) (fun r4 I5 h => ?_))
        refine z_if_ne hC (tgt := 30) dX1_doDeeds_24 (by decide) (fun hc => ?_) (fun hc => ?_)
        · have h := h.1 hc
          obtain ⟨v6, ev6⟩ : ∃ y : Int32, y = x6 + 1 := ⟨_, rfl⟩
          have h := h v6 ev6
          refine z_iinc hC (q := 5) (v := v6) (lv1 := [(6, .int v6), (0, .ref x0), (1, .ref x1), (2, .ref x2), (3, .int x3), (5, .int x5)]) dX1_doDeeds_30 rfl (by rw [ev6, k_iinc_1]) (by decide) rfl ?_
          refine z_goto hC (tgt := 12) dX1_doDeeds_33 (by decide) ?_
          exact z_sub [(0, .ref x0), (1, .ref x1), (2, .ref x2), (3, .int x3), (5, .int x5), (6, .int v6)] [1, 2, 3, 4, 5, 0] rfl (hC12 _ _ _ _ _ _ _ h)
        · have h := h.2 hc
          obtain ⟨v7, ev7⟩ : ∃ y : Int32, y = x5 + 1 := ⟨_, rfl⟩
          have h := h v7 ev7
          refine z_iinc hC (q := 4) (v := v7) (lv1 := [(5, .int v7), (0, .ref x0), (1, .ref x1), (2, .ref x2), (3, .int x3), (6, .int x6)]) dX1_doDeeds_27 rfl (by rw [ev7, k_iinc_1]) (by decide) rfl ?_
          obtain ⟨v8, ev8⟩ : ∃ y : Int32, y = x6 + 1 := ⟨_, rfl⟩
          have h := h v8 ev8
          refine z_iinc hC (q := 5) (v := v8) (lv1 := [(6, .int v8), (5, .int v7), (0, .ref x0), (1, .ref x1), (2, .ref x2), (3, .int x3)]) dX1_doDeeds_30 rfl (by rw [ev8, k_iinc_1]) (by decide) rfl ?_
          refine z_goto hC (tgt := 12) dX1_doDeeds_33 (by decide) ?_
          exact z_sub [(0, .ref x0), (1, .ref x1), (2, .ref x2), (3, .int x3), (5, .int v7), (6, .int v8)] [2, 3, 4, 5, 1, 0] rfl (hC12 _ _ _ _ _ _ _ h)
  exact key n x0 x1 x2 x3 x5 x6 I h0
set_option maxHeartbeats 4000000 in
set_option maxRecDepth 100000 in
theorem c_X1_doDeeds  (l : Launch) (G : ZG) (a0 : Nat) (a1 : Nat) (a2 : Nat) (a3 : Int32) (a4 : Int32) (K : MK) (N : MK) (I : MI) (L : ML) (R : MR) (Q : Int32 → MI → Prop) (h : w_X1_doDeeds a0 a1 a2 a3 a4 K N I L R Q) : Met l yX1_doDeeds (.code yX1_doDeeds cX1_doDeeds 7 (some .int) :: z_tbl) rm_X1_doDeeds (z_Pc G [.ref a0, .ref a1, .ref a2, .int a3, .int a4] K N I L R) (z_Qc G (qIi K N L R Q)) 0 0 (z_A G) := by
  refine z_met (by decide) (Nat.le_of_ble_eq_true rfl) (fun X hX hRm hC0 hnm => ?_)
  subst hX
  have hC : ZOk X G RX1 cX1_doDeeds 7 (some .int) := hC0
  show Z X G 7 0 0 _ K N I L R 0 [(0, .ref a0), (1, .ref a1), (2, .ref a2), (3, .int a3), (4, .int a4)] []
  delta w_X1_doDeeds at h
  refine z_aload_n hC (q := 0) dX1_doDeeds_0 rfl rfl ?_
  refine z_iload hC (q := 4) dX1_doDeeds_1 rfl ?_
  obtain ⟨hk1, h⟩ := h
  refine pf_RX1_9 hC dX1_doDeeds_3 hk1 ?_
  refine z_genI (fun I2 eI2 => ?_)
  have h := h I2 eI2
  refine z_iconst hC (v := 0) k_iconst_0 dX1_doDeeds_6 ?_
  refine z_istore hC (lv1 := [(5, .int 0), (0, .ref a0), (1, .ref a1), (2, .ref a2), (3, .int a3), (4, .int a4)]) dX1_doDeeds_7 (by decide) rfl ?_
  refine z_iconst hC (v := 0) k_iconst_0 dX1_doDeeds_9 ?_
  refine z_istore hC (lv1 := [(6, .int 0), (5, .int 0), (0, .ref a0), (1, .ref a1), (2, .ref a2), (3, .int a3), (4, .int a4)]) dX1_doDeeds_10 (by decide) rfl ?_
  exact z_sub [(0, .ref a0), (1, .ref a1), (2, .ref a2), (3, .int a3), (5, .int 0), (6, .int 0)] [2, 3, 4, 5, 1, 0] rfl (z_X1_doDeeds_12 hC hRm h)
def w_X9_placeAt_2  (x0 : Nat) (x1 : Int32) (x2 : Int32) (x3 : Int32)  (K : MK) (N : MK) (I : MI) (L : ML) (R : MR)  (Q : Int32 → Prop) : Prop := ∃ J : Nat → Nat → Int32 → Int32 → Int32 → Prop, (∃ n, J n x0 x1 x2 x3) ∧ ∀ (n : Nat) (x0 : Nat) (x1 : Int32) (x2 : Int32) (x3 : Int32), J n x0 x1 x2 x3 → K x0 = 10 ∧ ∃ b2 : Nat, R x0 5 = some b2 ∧ K b2 = 8 ∧ ((I b2 3) ≤ x3 → Q (-1)) ∧ (¬ (I b2 3) ≤ x3 → w_X7_at b2 x3 2 K N I L R (fun r4 => (¬ r4 = x1 → ∀ v5 : Int32, v5 = x3 + 1 → ∃ n1, n1 < n ∧ J n1 x0 x1 x2 v5) ∧ (r4 = x1 → w_X7_at b2 x3 0 K N I L R (fun r6 => (x2 < r6 → ∀ v7 : Int32, v7 = x3 + 1 → ∃ n1, n1 < n ∧ J n1 x0 x1 x2 v7) ∧ (¬ x2 < r6 → w_X7_at b2 x3 1 K N I L R (fun r8 => (r8 ≤ x2 → ∀ v9 : Int32, v9 = x3 + 1 → ∃ n1, n1 < n ∧ J n1 x0 x1 x2 v9) ∧ (¬ r8 ≤ x2 → Q x3)))))))
def w_X9_placeAt  (a0 : Nat) (a1 : Int32) (a2 : Int32) (K : MK) (N : MK) (I : MI) (L : ML) (R : MR) (Q : Int32 → Prop) : Prop := w_X9_placeAt_2 a0 a1 a2 0 K N I L R Q
set_option maxHeartbeats 4000000 in
set_option maxRecDepth 100000 in
theorem z_X9_placeAt_2 {X : ZX} {G : ZG}  {x0 : Nat} {x1 : Int32} {x2 : Int32} {x3 : Int32}  {K : MK} {N : MK} {I : MI} {L : ML} {R : MR}  {Q : Int32 → Prop} (hC : ZOk X G RX9 cX9_placeAt 4 (some .int)) (hRm : X.2.2.2.1 = rm_X9_placeAt) (h : w_X9_placeAt_2 x0 x1 x2 x3 K N I L R  Q) : Z X G 4 0 0 (z_T X G (qPi K N I L R Q) 0 0) K N I L R 2 [(0, .ref x0), (1, .int x1), (2, .int x2), (3, .int x3)] [] := by
  delta w_X9_placeAt_2 at h
  obtain ⟨J, ⟨n, h0⟩, hs⟩ := h
  have key : ∀ (n : Nat) (x0 : Nat) (x1 : Int32) (x2 : Int32) (x3 : Int32), J n x0 x1 x2 x3 → Z X G 4 0 0 (z_T X G (qPi K N I L R Q) 0 0) K N I L R 2 [(0, .ref x0), (1, .int x1), (2, .int x2), (3, .int x3)] [] := by
    intro n
    induction n using Nat.strongRecOn with
    | _ n ih =>
      intro x0 x1 x2 x3 hJ
      have hC2 : ∀ (y0 : Nat) (y1 : Int32) (y2 : Int32) (y3 : Int32) , (∃ n1, n1 < n ∧ J n1 y0 y1 y2 y3) → Z X G 4 0 0 (z_T X G (qPi K N I L R Q) 0 0) K N I L R 2 [(0, .ref y0), (1, .int y1), (2, .int y2), (3, .int y3)] [] := fun y0 y1 y2 y3 ⟨n1, hn1, hj⟩ => ih n1 hn1 y0 y1 y2 y3 hj
      have h := hs n x0 x1 x2 x3 hJ
      refine z_iload_n hC (q := 3) dX9_placeAt_2 rfl rfl ?_
      refine z_aload_n hC (q := 0) dX9_placeAt_3 rfl rfl ?_
      obtain ⟨hk1, h⟩ := h
      obtain ⟨b2, hb2, h⟩ := h
      refine gf_RX9_33 hC dX9_placeAt_4 hk1 hb2 ?_
      obtain ⟨hk3, h⟩ := h
      refine gf_RX9_50 hC dX9_placeAt_7 hk3 ?_
      refine z_icmp_ge hC (tgt := 60) dX9_placeAt_10 (by decide) (fun hc => ?_) (fun hc => ?_)
      · have h := h.1 hc
        refine z_iconst hC (v := (-1)) k_iconst_m1 dX9_placeAt_60 ?_
        exact z_iret hC dX9_placeAt_61 ⟨_, rfl, rfl, rfl, rfl, rfl, rfl, h⟩
      · have h := h.2 hc
        refine z_aload_n hC (q := 0) dX9_placeAt_13 rfl rfl ?_
        refine gf_RX9_33 hC dX9_placeAt_14 hk1 hb2 ?_
        refine z_iload_n hC (q := 3) dX9_placeAt_17 rfl rfl ?_
        refine z_iconst hC (v := 2) k_iconst_2 dX9_placeAt_18 ?_
        refine cl_RX9_53 hC (c_X7_at _ G b2 x3 2 K N I L R _ h) hk3 dX9_placeAt_19 (by rw [hRm]; exact ⟨Nat.le_of_ble_eq_true rfl, Nat.le_of_ble_eq_true rfl⟩) ⟨Nat.zero_le _, Nat.zero_le _⟩ (Nat.le_of_ble_eq_true rfl) (z_kPi (fun r4 h => ?_))
        refine z_iload_n hC (q := 1) dX9_placeAt_22 rfl rfl ?_
        refine z_icmp_ne hC (tgt := 54) dX9_placeAt_23 (by decide) (fun hc => ?_) (fun hc => ?_)
        · have h := h.1 hc
          obtain ⟨v5, ev5⟩ : ∃ y : Int32, y = x3 + 1 := ⟨_, rfl⟩
          have h := h v5 ev5
          refine z_iinc hC (q := 3) (v := v5) (lv1 := [(3, .int v5), (0, .ref x0), (1, .int x1), (2, .int x2)]) dX9_placeAt_54 rfl (by rw [ev5, k_iinc_1]) (by decide) rfl ?_
          refine z_goto hC (tgt := 2) dX9_placeAt_57 (by decide) ?_
          exact z_sub [(0, .ref x0), (1, .int x1), (2, .int x2), (3, .int v5)] [1, 2, 3, 0] rfl (hC2 _ _ _ _ h)
        · have h := h.2 hc
          refine z_aload_n hC (q := 0) dX9_placeAt_26 rfl rfl ?_
          refine gf_RX9_33 hC dX9_placeAt_27 hk1 hb2 ?_
          refine z_iload_n hC (q := 3) dX9_placeAt_30 rfl rfl ?_
          refine z_iconst hC (v := 0) k_iconst_0 dX9_placeAt_31 ?_
          refine cl_RX9_53 hC (c_X7_at _ G b2 x3 0 K N I L R _ h) hk3 dX9_placeAt_32 (by rw [hRm]; exact ⟨Nat.le_of_ble_eq_true rfl, Nat.le_of_ble_eq_true rfl⟩) ⟨Nat.zero_le _, Nat.zero_le _⟩ (Nat.le_of_ble_eq_true rfl) (z_kPi (fun r6 h => ?_))
          refine z_iload_n hC (q := 2) dX9_placeAt_35 rfl rfl ?_
          refine z_icmp_gt hC (tgt := 54) dX9_placeAt_36 (by decide) (fun hc => ?_) (fun hc => ?_)
          · have h := h.1 hc
            obtain ⟨v7, ev7⟩ : ∃ y : Int32, y = x3 + 1 := ⟨_, rfl⟩
            have h := h v7 ev7
            refine z_iinc hC (q := 3) (v := v7) (lv1 := [(3, .int v7), (0, .ref x0), (1, .int x1), (2, .int x2)]) dX9_placeAt_54 rfl (by rw [ev7, k_iinc_1]) (by decide) rfl ?_
            refine z_goto hC (tgt := 2) dX9_placeAt_57 (by decide) ?_
            exact z_sub [(0, .ref x0), (1, .int x1), (2, .int x2), (3, .int v7)] [1, 2, 3, 0] rfl (hC2 _ _ _ _ h)
          · have h := h.2 hc
            refine z_iload_n hC (q := 2) dX9_placeAt_39 rfl rfl ?_
            refine z_aload_n hC (q := 0) dX9_placeAt_40 rfl rfl ?_
            refine gf_RX9_33 hC dX9_placeAt_41 hk1 hb2 ?_
            refine z_iload_n hC (q := 3) dX9_placeAt_44 rfl rfl ?_
            refine z_iconst hC (v := 1) k_iconst_1 dX9_placeAt_45 ?_
            refine cl_RX9_53 hC (c_X7_at _ G b2 x3 1 K N I L R _ h) hk3 dX9_placeAt_46 (by rw [hRm]; exact ⟨Nat.le_of_ble_eq_true rfl, Nat.le_of_ble_eq_true rfl⟩) ⟨Nat.zero_le _, Nat.zero_le _⟩ (Nat.le_of_ble_eq_true rfl) (z_kPi (fun r8 h => ?_))
            refine z_icmp_ge hC (tgt := 54) dX9_placeAt_49 (by decide) (fun hc => ?_) (fun hc => ?_)
            · have h := h.1 hc
              obtain ⟨v9, ev9⟩ : ∃ y : Int32, y = x3 + 1 := ⟨_, rfl⟩
              have h := h v9 ev9
              refine z_iinc hC (q := 3) (v := v9) (lv1 := [(3, .int v9), (0, .ref x0), (1, .int x1), (2, .int x2)]) dX9_placeAt_54 rfl (by rw [ev9, k_iinc_1]) (by decide) rfl ?_
              refine z_goto hC (tgt := 2) dX9_placeAt_57 (by decide) ?_
              exact z_sub [(0, .ref x0), (1, .int x1), (2, .int x2), (3, .int v9)] [1, 2, 3, 0] rfl (hC2 _ _ _ _ h)
            · have h := h.2 hc
              refine z_iload_n hC (q := 3) dX9_placeAt_52 rfl rfl ?_
              exact z_iret hC dX9_placeAt_53 ⟨_, rfl, rfl, rfl, rfl, rfl, rfl, h⟩
  exact key n x0 x1 x2 x3 h0
set_option maxHeartbeats 4000000 in
set_option maxRecDepth 100000 in
theorem c_X9_placeAt  (l : Launch) (G : ZG) (a0 : Nat) (a1 : Int32) (a2 : Int32) (K : MK) (N : MK) (I : MI) (L : ML) (R : MR) (Q : Int32 → Prop) (h : w_X9_placeAt a0 a1 a2 K N I L R Q) : Met l yX9_placeAt (.code yX9_placeAt cX9_placeAt 4 (some .int) :: z_tbl) rm_X9_placeAt (z_Pc G [.ref a0, .int a1, .int a2] K N I L R) (z_Qc G (qPi K N I L R Q)) 0 0 (z_A G) := by
  refine z_met (by decide) (Nat.le_of_ble_eq_true rfl) (fun X hX hRm hC0 hnm => ?_)
  subst hX
  have hC : ZOk X G RX9 cX9_placeAt 4 (some .int) := hC0
  show Z X G 4 0 0 _ K N I L R 0 [(0, .ref a0), (1, .int a1), (2, .int a2)] []
  delta w_X9_placeAt at h
  refine z_iconst hC (v := 0) k_iconst_0 dX9_placeAt_0 ?_
  refine z_istore_n hC (lv1 := [(3, .int 0), (0, .ref a0), (1, .int a1), (2, .int a2)]) dX9_placeAt_1 rfl (by decide) rfl ?_
  exact z_sub [(0, .ref a0), (1, .int a1), (2, .int a2), (3, .int 0)] [1, 2, 3, 0] rfl (z_X9_placeAt_2 hC hRm h)
def w_X10_needsOf  (a0 : Int32) (K : MK) (N : MK) (I : MI) (L : ML) (R : MR) (Q : Int32 → Prop) : Prop := (a0 = 10 → Q 0) ∧ (¬ a0 = 10 → (a0 = 11 → Q 2) ∧ (¬ a0 = 11 → (a0 = 12 → Q 2) ∧ (¬ a0 = 12 → (a0 = 13 → Q 2) ∧ (¬ a0 = 13 → (a0 = 14 → Q 1) ∧ (¬ a0 = 14 → (a0 = 15 → Q 1) ∧ (¬ a0 = 15 → (a0 = 16 → Q 2) ∧ (¬ a0 = 16 → (a0 = 100 → Q 0) ∧ (¬ a0 = 100 → Q (-1)))))))))
set_option maxHeartbeats 4000000 in
set_option maxRecDepth 100000 in
theorem c_X10_needsOf  (l : Launch) (G : ZG) (a0 : Int32) (K : MK) (N : MK) (I : MI) (L : ML) (R : MR) (Q : Int32 → Prop) (h : w_X10_needsOf a0 K N I L R Q) : Met l yX10_needsOf (.code yX10_needsOf cX10_needsOf 1 (some .int) :: z_tbl) rm_X10_needsOf (z_Pc G [.int a0] K N I L R) (z_Qc G (qPi K N I L R Q)) 0 0 (z_A G) := by
  refine z_met (by decide) (Nat.le_of_ble_eq_true rfl) (fun X hX hRm hC0 hnm => ?_)
  subst hX
  have hC : ZOk X G RX10 cX10_needsOf 1 (some .int) := hC0
  show Z X G 1 0 0 _ K N I L R 0 [(0, .int a0)] []
  delta w_X10_needsOf at h
  refine z_iload_n hC (q := 0) dX10_needsOf_0 rfl rfl ?_
  by_cases hc0 : a0 = 10
  · have h := h.1 hc0
    refine z_lookup hC (off := 75) (tgt := 76) dX10_needsOf_1 (by decide) (by rw [hc0]; decide) (by decide) ?_
    refine z_iconst hC (v := 0) k_iconst_0 dX10_needsOf_76 ?_
    exact z_iret hC dX10_needsOf_77 ⟨_, rfl, rfl, rfl, rfl, rfl, rfl, h⟩
  · have h := h.2 hc0
    by_cases hc1 : a0 = 11
    · have h := h.1 hc1
      refine z_lookup hC (off := 79) (tgt := 80) dX10_needsOf_1 (by decide) (by rw [hc1]; decide) (by decide) ?_
      refine z_iconst hC (v := 2) k_iconst_2 dX10_needsOf_80 ?_
      exact z_iret hC dX10_needsOf_81 ⟨_, rfl, rfl, rfl, rfl, rfl, rfl, h⟩
    · have h := h.2 hc1
      by_cases hc2 : a0 = 12
      · have h := h.1 hc2
        refine z_lookup hC (off := 79) (tgt := 80) dX10_needsOf_1 (by decide) (by rw [hc2]; decide) (by decide) ?_
        refine z_iconst hC (v := 2) k_iconst_2 dX10_needsOf_80 ?_
        exact z_iret hC dX10_needsOf_81 ⟨_, rfl, rfl, rfl, rfl, rfl, rfl, h⟩
      · have h := h.2 hc2
        by_cases hc3 : a0 = 13
        · have h := h.1 hc3
          refine z_lookup hC (off := 79) (tgt := 80) dX10_needsOf_1 (by decide) (by rw [hc3]; decide) (by decide) ?_
          refine z_iconst hC (v := 2) k_iconst_2 dX10_needsOf_80 ?_
          exact z_iret hC dX10_needsOf_81 ⟨_, rfl, rfl, rfl, rfl, rfl, rfl, h⟩
        · have h := h.2 hc3
          by_cases hc4 : a0 = 14
          · have h := h.1 hc4
            refine z_lookup hC (off := 77) (tgt := 78) dX10_needsOf_1 (by decide) (by rw [hc4]; decide) (by decide) ?_
            refine z_iconst hC (v := 1) k_iconst_1 dX10_needsOf_78 ?_
            exact z_iret hC dX10_needsOf_79 ⟨_, rfl, rfl, rfl, rfl, rfl, rfl, h⟩
          · have h := h.2 hc4
            by_cases hc5 : a0 = 15
            · have h := h.1 hc5
              refine z_lookup hC (off := 77) (tgt := 78) dX10_needsOf_1 (by decide) (by rw [hc5]; decide) (by decide) ?_
              refine z_iconst hC (v := 1) k_iconst_1 dX10_needsOf_78 ?_
              exact z_iret hC dX10_needsOf_79 ⟨_, rfl, rfl, rfl, rfl, rfl, rfl, h⟩
            · have h := h.2 hc5
              by_cases hc6 : a0 = 16
              · have h := h.1 hc6
                refine z_lookup hC (off := 79) (tgt := 80) dX10_needsOf_1 (by decide) (by rw [hc6]; decide) (by decide) ?_
                refine z_iconst hC (v := 2) k_iconst_2 dX10_needsOf_80 ?_
                exact z_iret hC dX10_needsOf_81 ⟨_, rfl, rfl, rfl, rfl, rfl, rfl, h⟩
              · have h := h.2 hc6
                by_cases hc7 : a0 = 100
                · have h := h.1 hc7
                  refine z_lookup hC (off := 75) (tgt := 76) dX10_needsOf_1 (by decide) (by rw [hc7]; decide) (by decide) ?_
                  refine z_iconst hC (v := 0) k_iconst_0 dX10_needsOf_76 ?_
                  exact z_iret hC dX10_needsOf_77 ⟨_, rfl, rfl, rfl, rfl, rfl, rfl, h⟩
                · have h := h.2 hc7
                  have hout : Op.lookupswitch.offset [(10, 75), (11, 79), (12, 79), (13, 79), (14, 77), (15, 77), (16, 79), (100, 75)] 81 a0.toInt = 81 := z_lkOut (by intro q hq; simp only [List.mem_cons, List.not_mem_nil, or_false] at hq; rcases hq with rfl | rfl | rfl | rfl | rfl | rfl | rfl | rfl <;> first | exact z_nei hc0 (by decide) | exact z_nei hc1 (by decide) | exact z_nei hc2 (by decide) | exact z_nei hc3 (by decide) | exact z_nei hc4 (by decide) | exact z_nei hc5 (by decide) | exact z_nei hc6 (by decide) | exact z_nei hc7 (by decide))
                  refine z_lookup hC (tgt := 82) dX10_needsOf_1 (by decide) hout (by decide) ?_
                  refine z_iconst hC (v := (-1)) k_iconst_m1 dX10_needsOf_82 ?_
                  exact z_iret hC dX10_needsOf_83 ⟨_, rfl, rfl, rfl, rfl, rfl, rfl, h⟩
def w_X2_pop  (a0 : Nat) (K : MK) (N : MK) (I : MI) (L : ML) (R : MR) (Q : Int32 → MI → Prop) : Prop := K a0 = 3 ∧ ((0 : Int32) < (I a0 1) → ∀ I2 : MI, I2 = mup I a0 1 ((I a0 1) - 1) → ∃ b3 : Nat, R a0 0 = some b3 ∧ K b3 = 14 ∧ vp_in (I2 a0 1) (N b3) ∧ Q (I2 b3 (ix (I2 a0 1))) I2) ∧ (¬ (0 : Int32) < (I a0 1) → Q 0 I)
set_option maxHeartbeats 4000000 in
set_option maxRecDepth 100000 in
theorem c_X2_pop  (l : Launch) (G : ZG) (a0 : Nat) (K : MK) (N : MK) (I : MI) (L : ML) (R : MR) (Q : Int32 → MI → Prop) (h : w_X2_pop a0 K N I L R Q) : Met l yX2_pop (.code yX2_pop cX2_pop 1 (some .int) :: z_tbl) rm_X2_pop (z_Pc G [.ref a0] K N I L R) (z_Qc G (qIi K N L R Q)) 0 0 (z_A G) := by
  refine z_met (by decide) (Nat.le_of_ble_eq_true rfl) (fun X hX hRm hC0 hnm => ?_)
  subst hX
  have hC : ZOk X G RX2 cX2_pop 1 (some .int) := hC0
  show Z X G 1 0 0 _ K N I L R 0 [(0, .ref a0)] []
  delta w_X2_pop at h
  refine z_aload_n hC (q := 0) dX2_pop_0 rfl rfl ?_
  obtain ⟨hk1, h⟩ := h
  refine gf_RX2_17 hC dX2_pop_1 hk1 ?_
  refine z_if_gt hC (tgt := 9) dX2_pop_4 (by decide) (fun hc => ?_) (fun hc => ?_)
  · have h := h.1 hc
    refine z_aload_n hC (q := 0) dX2_pop_9 rfl rfl ?_
    refine z_dup hC rfl dX2_pop_10 ?_
    refine gf_RX2_17 hC dX2_pop_11 hk1 ?_
    refine z_iconst hC (v := 1) k_iconst_1 dX2_pop_14 ?_
    refine z_isub hC dX2_pop_15 ?_
    refine pf_RX2_17 hC dX2_pop_16 hk1 ?_
    refine z_genI (fun I2 eI2 => ?_)
    have h := h I2 eI2
    refine z_aload_n hC (q := 0) dX2_pop_19 rfl rfl ?_
    obtain ⟨b3, hb3, h⟩ := h
    refine gf_RX2_11 hC dX2_pop_20 hk1 hb3 ?_
    refine z_aload_n hC (q := 0) dX2_pop_23 rfl rfl ?_
    refine gf_RX2_17 hC dX2_pop_24 hk1 ?_
    obtain ⟨hk4, h⟩ := h
    obtain ⟨hi5, h⟩ := h
    refine z_iaload hC hk4 hi5 dX2_pop_27 ?_
    exact z_iret hC dX2_pop_28 ⟨_, rfl, rfl, rfl, rfl, rfl, h⟩
  · have h := h.2 hc
    refine z_iconst hC (v := 0) k_iconst_0 dX2_pop_7 ?_
    exact z_iret hC dX2_pop_8 ⟨_, rfl, rfl, rfl, rfl, rfl, h⟩
def w_X2_push  (a0 : Nat) (a1 : Int32) (K : MK) (N : MK) (I : MI) (L : ML) (R : MR) (Q : MI → Prop) : Prop := K a0 = 3 ∧ ∃ b2 : Nat, R a0 0 = some b2 ∧ K b2 = 14 ∧ ((nI (N b2)) ≤ (I a0 1) → Q I) ∧ (¬ (nI (N b2)) ≤ (I a0 1) → vp_in (I a0 1) (N b2) ∧ ∀ I5 : MI, I5 = mup I b2 (ix (I a0 1)) a1 → ∀ I6 : MI, I6 = mup I5 a0 1 ((I5 a0 1) + 1) → Q I6)
set_option maxHeartbeats 4000000 in
set_option maxRecDepth 100000 in
theorem c_X2_push  (l : Launch) (G : ZG) (a0 : Nat) (a1 : Int32) (K : MK) (N : MK) (I : MI) (L : ML) (R : MR) (Q : MI → Prop) (h : w_X2_push a0 a1 K N I L R Q) : Met l yX2_push (.code yX2_push cX2_push 2 none :: z_tbl) rm_X2_push (z_Pc G [.ref a0, .int a1] K N I L R) (z_Qc G (qIv K N L R Q)) 0 0 (z_A G) := by
  refine z_met (by decide) (Nat.le_of_ble_eq_true rfl) (fun X hX hRm hC0 hnm => ?_)
  subst hX
  have hC : ZOk X G RX2 cX2_push 2 none := hC0
  show Z X G 2 0 0 _ K N I L R 0 [(0, .ref a0), (1, .int a1)] []
  delta w_X2_push at h
  refine z_aload_n hC (q := 0) dX2_push_0 rfl rfl ?_
  obtain ⟨hk1, h⟩ := h
  refine gf_RX2_17 hC dX2_push_1 hk1 ?_
  refine z_aload_n hC (q := 0) dX2_push_4 rfl rfl ?_
  obtain ⟨b2, hb2, h⟩ := h
  refine gf_RX2_11 hC dX2_push_5 hk1 hb2 ?_
  obtain ⟨hk3, h⟩ := h
  refine z_alen14 hC hk3 dX2_push_8 ?_
  refine z_icmp_ge hC (tgt := 32) dX2_push_9 (by decide) (fun hc => ?_) (fun hc => ?_)
  · have h := h.1 hc
    exact z_vret hC dX2_push_32 ⟨rfl, rfl, rfl, rfl, rfl, h⟩
  · have h := h.2 hc
    refine z_aload_n hC (q := 0) dX2_push_12 rfl rfl ?_
    refine gf_RX2_11 hC dX2_push_13 hk1 hb2 ?_
    refine z_aload_n hC (q := 0) dX2_push_16 rfl rfl ?_
    refine gf_RX2_17 hC dX2_push_17 hk1 ?_
    refine z_iload_n hC (q := 1) dX2_push_20 rfl rfl ?_
    obtain ⟨hi4, h⟩ := h
    refine z_iastore hC hk3 hi4 dX2_push_21 ?_
    refine z_genI (fun I5 eI5 => ?_)
    have h := h I5 eI5
    refine z_aload_n hC (q := 0) dX2_push_22 rfl rfl ?_
    refine z_dup hC rfl dX2_push_23 ?_
    refine gf_RX2_17 hC dX2_push_24 hk1 ?_
    refine z_iconst hC (v := 1) k_iconst_1 dX2_push_27 ?_
    refine z_iadd hC dX2_push_28 ?_
    refine pf_RX2_17 hC dX2_push_29 hk1 ?_
    refine z_genI (fun I6 eI6 => ?_)
    have h := h I6 eI6
    exact z_vret hC dX2_push_32 ⟨rfl, rfl, rfl, rfl, rfl, h⟩
def w_X3_registerAt  (a0 : Nat) (a1 : Int32) (K : MK) (N : MK) (I : MI) (L : ML) (R : MR) (Q : Int32 → Prop) : Prop := (a1 < 0 → Q (-1)) ∧ (¬ a1 < 0 → ((8 : Int32) ≤ a1 → Q (-1)) ∧ (¬ (8 : Int32) ≤ a1 → K a0 = 4 ∧ ∃ b2 : Nat, R a0 0 = some b2 ∧ K b2 = 14 ∧ vp_in a1 (N b2) ∧ Q (I b2 (ix a1))))
set_option maxHeartbeats 4000000 in
set_option maxRecDepth 100000 in
theorem c_X3_registerAt  (l : Launch) (G : ZG) (a0 : Nat) (a1 : Int32) (K : MK) (N : MK) (I : MI) (L : ML) (R : MR) (Q : Int32 → Prop) (h : w_X3_registerAt a0 a1 K N I L R Q) : Met l yX3_registerAt (.code yX3_registerAt cX3_registerAt 2 (some .int) :: z_tbl) rm_X3_registerAt (z_Pc G [.ref a0, .int a1] K N I L R) (z_Qc G (qPi K N I L R Q)) 0 0 (z_A G) := by
  refine z_met (by decide) (Nat.le_of_ble_eq_true rfl) (fun X hX hRm hC0 hnm => ?_)
  subst hX
  have hC : ZOk X G RX3 cX3_registerAt 2 (some .int) := hC0
  show Z X G 2 0 0 _ K N I L R 0 [(0, .ref a0), (1, .int a1)] []
  delta w_X3_registerAt at h
  refine z_iload_n hC (q := 1) dX3_registerAt_0 rfl rfl ?_
  refine z_if_lt hC (tgt := 19) dX3_registerAt_1 (by decide) (fun hc => ?_) (fun hc => ?_)
  · have h := h.1 hc
    refine z_iconst hC (v := (-1)) k_iconst_m1 dX3_registerAt_19 ?_
    exact z_iret hC dX3_registerAt_20 ⟨_, rfl, rfl, rfl, rfl, rfl, rfl, h⟩
  · have h := h.2 hc
    refine z_iload_n hC (q := 1) dX3_registerAt_4 rfl rfl ?_
    refine z_bipush hC (v := 8) k_bipush_8 dX3_registerAt_5 ?_
    refine z_icmp_ge hC (tgt := 19) dX3_registerAt_7 (by decide) (fun hc => ?_) (fun hc => ?_)
    · have h := h.1 hc
      refine z_iconst hC (v := (-1)) k_iconst_m1 dX3_registerAt_19 ?_
      exact z_iret hC dX3_registerAt_20 ⟨_, rfl, rfl, rfl, rfl, rfl, rfl, h⟩
    · have h := h.2 hc
      refine z_aload_n hC (q := 0) dX3_registerAt_10 rfl rfl ?_
      obtain ⟨hk1, h⟩ := h
      obtain ⟨b2, hb2, h⟩ := h
      refine gf_RX3_11 hC dX3_registerAt_11 hk1 hb2 ?_
      refine z_iload_n hC (q := 1) dX3_registerAt_14 rfl rfl ?_
      obtain ⟨hk3, h⟩ := h
      obtain ⟨hi4, h⟩ := h
      refine z_iaload hC hk3 hi4 dX3_registerAt_15 ?_
      refine z_goto hC (tgt := 20) dX3_registerAt_16 (by decide) ?_
      exact z_iret hC dX3_registerAt_20 ⟨_, rfl, rfl, rfl, rfl, rfl, rfl, h⟩
def w_X3_memoryAt  (a0 : Nat) (a1 : Int32) (K : MK) (N : MK) (I : MI) (L : ML) (R : MR) (Q : Int32 → Prop) : Prop := (a1 < 0 → Q (-1)) ∧ (¬ a1 < 0 → ((64 : Int32) ≤ a1 → Q (-1)) ∧ (¬ (64 : Int32) ≤ a1 → K a0 = 4 ∧ ∃ b2 : Nat, R a0 1 = some b2 ∧ K b2 = 14 ∧ vp_in a1 (N b2) ∧ Q (I b2 (ix a1))))
set_option maxHeartbeats 4000000 in
set_option maxRecDepth 100000 in
theorem c_X3_memoryAt  (l : Launch) (G : ZG) (a0 : Nat) (a1 : Int32) (K : MK) (N : MK) (I : MI) (L : ML) (R : MR) (Q : Int32 → Prop) (h : w_X3_memoryAt a0 a1 K N I L R Q) : Met l yX3_memoryAt (.code yX3_memoryAt cX3_memoryAt 2 (some .int) :: z_tbl) rm_X3_memoryAt (z_Pc G [.ref a0, .int a1] K N I L R) (z_Qc G (qPi K N I L R Q)) 0 0 (z_A G) := by
  refine z_met (by decide) (Nat.le_of_ble_eq_true rfl) (fun X hX hRm hC0 hnm => ?_)
  subst hX
  have hC : ZOk X G RX3 cX3_memoryAt 2 (some .int) := hC0
  show Z X G 2 0 0 _ K N I L R 0 [(0, .ref a0), (1, .int a1)] []
  delta w_X3_memoryAt at h
  refine z_iload_n hC (q := 1) dX3_memoryAt_0 rfl rfl ?_
  refine z_if_lt hC (tgt := 19) dX3_memoryAt_1 (by decide) (fun hc => ?_) (fun hc => ?_)
  · have h := h.1 hc
    refine z_iconst hC (v := (-1)) k_iconst_m1 dX3_memoryAt_19 ?_
    exact z_iret hC dX3_memoryAt_20 ⟨_, rfl, rfl, rfl, rfl, rfl, rfl, h⟩
  · have h := h.2 hc
    refine z_iload_n hC (q := 1) dX3_memoryAt_4 rfl rfl ?_
    refine z_bipush hC (v := 64) k_bipush_64 dX3_memoryAt_5 ?_
    refine z_icmp_ge hC (tgt := 19) dX3_memoryAt_7 (by decide) (fun hc => ?_) (fun hc => ?_)
    · have h := h.1 hc
      refine z_iconst hC (v := (-1)) k_iconst_m1 dX3_memoryAt_19 ?_
      exact z_iret hC dX3_memoryAt_20 ⟨_, rfl, rfl, rfl, rfl, rfl, rfl, h⟩
    · have h := h.2 hc
      refine z_aload_n hC (q := 0) dX3_memoryAt_10 rfl rfl ?_
      obtain ⟨hk1, h⟩ := h
      obtain ⟨b2, hb2, h⟩ := h
      refine gf_RX3_15 hC dX3_memoryAt_11 hk1 hb2 ?_
      refine z_iload_n hC (q := 1) dX3_memoryAt_14 rfl rfl ?_
      obtain ⟨hk3, h⟩ := h
      obtain ⟨hi4, h⟩ := h
      refine z_iaload hC hk3 hi4 dX3_memoryAt_15 ?_
      refine z_goto hC (tgt := 20) dX3_memoryAt_16 (by decide) ?_
      exact z_iret hC dX3_memoryAt_20 ⟨_, rfl, rfl, rfl, rfl, rfl, rfl, h⟩
def w_X2_doOp_33  (x0 : Nat) (x1 : Nat) (x2 : Int32) (x3 : Int32) (x4 : Int32) (s0 : Int32) (K : MK) (N : MK) (I : MI) (L : ML) (R : MR)  (Q : Bool → MI → Prop) : Prop := (x2 = 10 → K x1 = 4 ∧ w_X3_registerAt x1 x3 K N I L R (fun r4 => K x0 = 3 ∧ w_X2_push x0 r4 K N I L R (fun I6 => Q true I6))) ∧ (¬ x2 = 10 → (x2 = 11 → K x0 = 3 ∧ w_X2_push x0 (s0 + x4) K N I L R (fun I8 => Q true I8)) ∧ (¬ x2 = 11 → (x2 = 12 → K x0 = 3 ∧ w_X2_push x0 (s0 - x4) K N I L R (fun I10 => Q true I10)) ∧ (¬ x2 = 12 → (x2 = 13 → K x0 = 3 ∧ w_X2_push x0 (s0 * x4) K N I L R (fun I12 => Q true I12)) ∧ (¬ x2 = 13 → (x2 = 14 → K x1 = 4 ∧ w_X3_memoryAt x1 x4 K N I L R (fun r14 => K x0 = 3 ∧ w_X2_push x0 r14 K N I L R (fun I16 => w_X3_memoryAt x1 x4 K N I16 L R (fun r17 => (r17 = (-1) → Q false I16) ∧ (¬ r17 = (-1) → Q true I16))))) ∧ (¬ x2 = 14 → (x2 = 15 → K x0 = 3 ∧ w_X2_push x0 x4 K N I L R (fun I19 => w_X2_push x0 x4 K N I19 L R (fun I20 => Q true I20))) ∧ (¬ x2 = 15 → (x2 = 100 → K x0 = 3 ∧ w_X2_push x0 x3 K N I L R (fun I22 => Q true I22)) ∧ (¬ x2 = 100 → K x0 = 3 ∧ w_X2_push x0 x4 K N I L R (fun I24 => w_X2_push x0 s0 K N I24 L R (fun I25 => Q true I25)))))))))
def w_X2_doOp_15  (x0 : Nat) (x1 : Nat) (x2 : Int32) (x3 : Int32) (s0 : Int32) (K : MK) (N : MK) (I : MI) (L : ML) (R : MR)  (Q : Bool → MI → Prop) : Prop := w_X10_needsOf x2 K N I L R (fun r2 => (r2 ≤ 1 → w_X2_doOp_33 x0 x1 x2 x3 s0 0 K N I L R Q) ∧ (¬ r2 ≤ 1 → K x0 = 3 ∧ w_X2_pop x0 K N I L R (fun r27 I28 => w_X2_doOp_33 x0 x1 x2 x3 s0 r27 K N I28 L R Q)))
def w_X2_doOp  (a0 : Nat) (a1 : Nat) (a2 : Int32) (a3 : Int32) (K : MK) (N : MK) (I : MI) (L : ML) (R : MR) (Q : Bool → MI → Prop) : Prop := w_X10_needsOf a2 K N I L R (fun r1 => (r1 ≤ 0 → w_X2_doOp_15 a0 a1 a2 a3 0 K N I L R Q) ∧ (¬ r1 ≤ 0 → K a0 = 3 ∧ w_X2_pop a0 K N I L R (fun r30 I31 => w_X2_doOp_15 a0 a1 a2 a3 r30 K N I31 L R Q)))
set_option maxHeartbeats 4000000 in
set_option maxRecDepth 100000 in
theorem z_X2_doOp_33 {X : ZX} {G : ZG}  {x0 : Nat} {x1 : Nat} {x2 : Int32} {x3 : Int32} {x4 : Int32} {s0 : Int32} {K : MK} {N : MK} {I : MI} {L : ML} {R : MR}  {Q : Bool → MI → Prop} (hC : ZOk X G RX2 cX2_doOp 6 (some .boolean)) (hRm : X.2.2.2.1 = rm_X2_doOp) (h : w_X2_doOp_33 x0 x1 x2 x3 x4 s0 K N I L R  Q) : Z X G 6 0 0 (z_T X G (qIz K N L R Q) 0 0) K N I L R 33 [(0, .ref x0), (1, .ref x1), (2, .int x2), (3, .int x3), (4, .int x4)] [.int s0] := by
  delta w_X2_doOp_33 at h
  refine z_istore hC (lv1 := [(5, .int s0), (0, .ref x0), (1, .ref x1), (2, .int x2), (3, .int x3), (4, .int x4)]) dX2_doOp_33 (by decide) rfl ?_
  refine z_iload_n hC (q := 3) dX2_doOp_35 rfl rfl ?_
  by_cases hc0 : x2 = 10
  · have h := h.1 hc0
    refine z_lookup hC (off := 76) (tgt := 112) dX2_doOp_36 (by decide) (by rw [hc0]; decide) (by decide) ?_
    refine z_aload_n hC (q := 1) dX2_doOp_112 rfl rfl ?_
    refine z_aload_n hC (q := 2) dX2_doOp_113 rfl rfl ?_
    refine z_iload_n hC (q := 4) dX2_doOp_114 rfl rfl ?_
    obtain ⟨hk3, h⟩ := h
    refine cl_RX2_85 hC (c_X3_registerAt _ G x1 x3 K N I L R _ h) hk3 dX2_doOp_115 (by rw [hRm]; exact ⟨Nat.le_of_ble_eq_true rfl, Nat.le_of_ble_eq_true rfl⟩) ⟨Nat.zero_le _, Nat.zero_le _⟩ (Nat.le_of_ble_eq_true rfl) (z_kPi (fun r4 h => ?_))
    obtain ⟨hk5, h⟩ := h
    refine cl_RX2_81 hC (c_X2_push _ G x0 r4 K N I L R _ h) hk5 dX2_doOp_118 (by rw [hRm]; exact ⟨Nat.le_of_ble_eq_true rfl, Nat.le_of_ble_eq_true rfl⟩) ⟨Nat.zero_le _, Nat.zero_le _⟩ (Nat.le_of_ble_eq_true rfl) (z_kIv (I := I) (fun I6 h => ?_))
    refine z_goto hC (tgt := 213) dX2_doOp_121 (by decide) ?_
    refine z_iconst hC (v := 1) k_iconst_1 dX2_doOp_213 ?_
    exact z_zret (b := true) hC dX2_doOp_214 rfl ⟨true, rfl, rfl, rfl, rfl, rfl, h⟩
  · have h := h.2 hc0
    by_cases hc1 : x2 = 11
    · have h := h.1 hc1
      refine z_lookup hC (off := 129) (tgt := 165) dX2_doOp_36 (by decide) (by rw [hc1]; decide) (by decide) ?_
      refine z_aload_n hC (q := 1) dX2_doOp_165 rfl rfl ?_
      refine z_iload hC (q := 0) dX2_doOp_166 rfl ?_
      refine z_iload hC (q := 5) dX2_doOp_168 rfl ?_
      refine z_iadd hC dX2_doOp_170 ?_
      obtain ⟨hk7, h⟩ := h
      refine cl_RX2_81 hC (c_X2_push _ G x0 (s0 + x4) K N I L R _ h) hk7 dX2_doOp_171 (by rw [hRm]; exact ⟨Nat.le_of_ble_eq_true rfl, Nat.le_of_ble_eq_true rfl⟩) ⟨Nat.zero_le _, Nat.zero_le _⟩ (Nat.le_of_ble_eq_true rfl) (z_kIv (I := I) (fun I8 h => ?_))
      refine z_goto hC (tgt := 213) dX2_doOp_174 (by decide) ?_
      refine z_iconst hC (v := 1) k_iconst_1 dX2_doOp_213 ?_
      exact z_zret (b := true) hC dX2_doOp_214 rfl ⟨true, rfl, rfl, rfl, rfl, rfl, h⟩
    · have h := h.2 hc1
      by_cases hc2 : x2 = 12
      · have h := h.1 hc2
        refine z_lookup hC (off := 141) (tgt := 177) dX2_doOp_36 (by decide) (by rw [hc2]; decide) (by decide) ?_
        refine z_aload_n hC (q := 1) dX2_doOp_177 rfl rfl ?_
        refine z_iload hC (q := 0) dX2_doOp_178 rfl ?_
        refine z_iload hC (q := 5) dX2_doOp_180 rfl ?_
        refine z_isub hC dX2_doOp_182 ?_
        obtain ⟨hk9, h⟩ := h
        refine cl_RX2_81 hC (c_X2_push _ G x0 (s0 - x4) K N I L R _ h) hk9 dX2_doOp_183 (by rw [hRm]; exact ⟨Nat.le_of_ble_eq_true rfl, Nat.le_of_ble_eq_true rfl⟩) ⟨Nat.zero_le _, Nat.zero_le _⟩ (Nat.le_of_ble_eq_true rfl) (z_kIv (I := I) (fun I10 h => ?_))
        refine z_goto hC (tgt := 213) dX2_doOp_186 (by decide) ?_
        refine z_iconst hC (v := 1) k_iconst_1 dX2_doOp_213 ?_
        exact z_zret (b := true) hC dX2_doOp_214 rfl ⟨true, rfl, rfl, rfl, rfl, rfl, h⟩
      · have h := h.2 hc2
        by_cases hc3 : x2 = 13
        · have h := h.1 hc3
          refine z_lookup hC (off := 153) (tgt := 189) dX2_doOp_36 (by decide) (by rw [hc3]; decide) (by decide) ?_
          refine z_aload_n hC (q := 1) dX2_doOp_189 rfl rfl ?_
          refine z_iload hC (q := 0) dX2_doOp_190 rfl ?_
          refine z_iload hC (q := 5) dX2_doOp_192 rfl ?_
          refine z_imul hC dX2_doOp_194 ?_
          obtain ⟨hk11, h⟩ := h
          refine cl_RX2_81 hC (c_X2_push _ G x0 (s0 * x4) K N I L R _ h) hk11 dX2_doOp_195 (by rw [hRm]; exact ⟨Nat.le_of_ble_eq_true rfl, Nat.le_of_ble_eq_true rfl⟩) ⟨Nat.zero_le _, Nat.zero_le _⟩ (Nat.le_of_ble_eq_true rfl) (z_kIv (I := I) (fun I12 h => ?_))
          refine z_goto hC (tgt := 213) dX2_doOp_198 (by decide) ?_
          refine z_iconst hC (v := 1) k_iconst_1 dX2_doOp_213 ?_
          exact z_zret (b := true) hC dX2_doOp_214 rfl ⟨true, rfl, rfl, rfl, rfl, rfl, h⟩
        · have h := h.2 hc3
          by_cases hc4 : x2 = 14
          · have h := h.1 hc4
            refine z_lookup hC (off := 88) (tgt := 124) dX2_doOp_36 (by decide) (by rw [hc4]; decide) (by decide) ?_
            refine z_aload_n hC (q := 1) dX2_doOp_124 rfl rfl ?_
            refine z_aload_n hC (q := 2) dX2_doOp_125 rfl rfl ?_
            refine z_iload hC (q := 5) dX2_doOp_126 rfl ?_
            obtain ⟨hk13, h⟩ := h
            refine cl_RX2_50 hC (c_X3_memoryAt _ G x1 x4 K N I L R _ h) hk13 dX2_doOp_128 (by rw [hRm]; exact ⟨Nat.le_of_ble_eq_true rfl, Nat.le_of_ble_eq_true rfl⟩) ⟨Nat.zero_le _, Nat.zero_le _⟩ (Nat.le_of_ble_eq_true rfl) (z_kPi (fun r14 h => ?_))
            obtain ⟨hk15, h⟩ := h
            refine cl_RX2_81 hC (c_X2_push _ G x0 r14 K N I L R _ h) hk15 dX2_doOp_131 (by rw [hRm]; exact ⟨Nat.le_of_ble_eq_true rfl, Nat.le_of_ble_eq_true rfl⟩) ⟨Nat.zero_le _, Nat.zero_le _⟩ (Nat.le_of_ble_eq_true rfl) (z_kIv (I := I) (fun I16 h => ?_))
            refine z_aload_n hC (q := 2) dX2_doOp_134 rfl rfl ?_
            refine z_iload hC (q := 5) dX2_doOp_135 rfl ?_
            refine cl_RX2_50 hC (c_X3_memoryAt _ G x1 x4 K N I16 L R _ h) hk13 dX2_doOp_137 (by rw [hRm]; exact ⟨Nat.le_of_ble_eq_true rfl, Nat.le_of_ble_eq_true rfl⟩) ⟨Nat.zero_le _, Nat.zero_le _⟩ (Nat.le_of_ble_eq_true rfl) (z_kPi (fun r17 h => ?_))
            refine z_iconst hC (v := (-1)) k_iconst_m1 dX2_doOp_140 ?_
            refine z_icmp_eq hC (tgt := 148) dX2_doOp_141 (by decide) (fun hc => ?_) (fun hc => ?_)
            · have h := h.1 hc
              refine z_iconst hC (v := 0) k_iconst_0 dX2_doOp_148 ?_
              exact z_zret (b := false) hC dX2_doOp_149 rfl ⟨false, rfl, rfl, rfl, rfl, rfl, h⟩
            · have h := h.2 hc
              refine z_iconst hC (v := 1) k_iconst_1 dX2_doOp_144 ?_
              refine z_goto hC (tgt := 149) dX2_doOp_145 (by decide) ?_
              exact z_zret (b := true) hC dX2_doOp_149 rfl ⟨true, rfl, rfl, rfl, rfl, rfl, h⟩
          · have h := h.2 hc4
            by_cases hc5 : x2 = 15
            · have h := h.1 hc5
              refine z_lookup hC (off := 114) (tgt := 150) dX2_doOp_36 (by decide) (by rw [hc5]; decide) (by decide) ?_
              refine z_aload_n hC (q := 1) dX2_doOp_150 rfl rfl ?_
              refine z_iload hC (q := 5) dX2_doOp_151 rfl ?_
              obtain ⟨hk18, h⟩ := h
              refine cl_RX2_81 hC (c_X2_push _ G x0 x4 K N I L R _ h) hk18 dX2_doOp_153 (by rw [hRm]; exact ⟨Nat.le_of_ble_eq_true rfl, Nat.le_of_ble_eq_true rfl⟩) ⟨Nat.zero_le _, Nat.zero_le _⟩ (Nat.le_of_ble_eq_true rfl) (z_kIv (I := I) (fun I19 h => ?_))
              refine z_aload_n hC (q := 1) dX2_doOp_156 rfl rfl ?_
              refine z_iload hC (q := 5) dX2_doOp_157 rfl ?_
              refine cl_RX2_81 hC (c_X2_push _ G x0 x4 K N I19 L R _ h) hk18 dX2_doOp_159 (by rw [hRm]; exact ⟨Nat.le_of_ble_eq_true rfl, Nat.le_of_ble_eq_true rfl⟩) ⟨Nat.zero_le _, Nat.zero_le _⟩ (Nat.le_of_ble_eq_true rfl) (z_kIv (I := I19) (fun I20 h => ?_))
              refine z_goto hC (tgt := 213) dX2_doOp_162 (by decide) ?_
              refine z_iconst hC (v := 1) k_iconst_1 dX2_doOp_213 ?_
              exact z_zret (b := true) hC dX2_doOp_214 rfl ⟨true, rfl, rfl, rfl, rfl, rfl, h⟩
            · have h := h.2 hc5
              by_cases hc6 : x2 = 100
              · have h := h.1 hc6
                refine z_lookup hC (off := 68) (tgt := 104) dX2_doOp_36 (by decide) (by rw [hc6]; decide) (by decide) ?_
                refine z_aload_n hC (q := 1) dX2_doOp_104 rfl rfl ?_
                refine z_iload_n hC (q := 4) dX2_doOp_105 rfl rfl ?_
                obtain ⟨hk21, h⟩ := h
                refine cl_RX2_81 hC (c_X2_push _ G x0 x3 K N I L R _ h) hk21 dX2_doOp_106 (by rw [hRm]; exact ⟨Nat.le_of_ble_eq_true rfl, Nat.le_of_ble_eq_true rfl⟩) ⟨Nat.zero_le _, Nat.zero_le _⟩ (Nat.le_of_ble_eq_true rfl) (z_kIv (I := I) (fun I22 h => ?_))
                refine z_goto hC (tgt := 213) dX2_doOp_109 (by decide) ?_
                refine z_iconst hC (v := 1) k_iconst_1 dX2_doOp_213 ?_
                exact z_zret (b := true) hC dX2_doOp_214 rfl ⟨true, rfl, rfl, rfl, rfl, rfl, h⟩
              · have h := h.2 hc6
                have hout : Op.lookupswitch.offset [(10, 76), (11, 129), (12, 141), (13, 153), (14, 88), (15, 114), (100, 68)] 165 x2.toInt = 165 := z_lkOut (by intro q hq; simp only [List.mem_cons, List.not_mem_nil, or_false] at hq; rcases hq with rfl | rfl | rfl | rfl | rfl | rfl | rfl <;> first | exact z_nei hc0 (by decide) | exact z_nei hc1 (by decide) | exact z_nei hc2 (by decide) | exact z_nei hc3 (by decide) | exact z_nei hc4 (by decide) | exact z_nei hc5 (by decide) | exact z_nei hc6 (by decide))
                refine z_lookup hC (tgt := 201) dX2_doOp_36 (by decide) hout (by decide) ?_
                refine z_aload_n hC (q := 1) dX2_doOp_201 rfl rfl ?_
                refine z_iload hC (q := 5) dX2_doOp_202 rfl ?_
                obtain ⟨hk23, h⟩ := h
                refine cl_RX2_81 hC (c_X2_push _ G x0 x4 K N I L R _ h) hk23 dX2_doOp_204 (by rw [hRm]; exact ⟨Nat.le_of_ble_eq_true rfl, Nat.le_of_ble_eq_true rfl⟩) ⟨Nat.zero_le _, Nat.zero_le _⟩ (Nat.le_of_ble_eq_true rfl) (z_kIv (I := I) (fun I24 h => ?_))
                refine z_aload_n hC (q := 1) dX2_doOp_207 rfl rfl ?_
                refine z_iload hC (q := 0) dX2_doOp_208 rfl ?_
                refine cl_RX2_81 hC (c_X2_push _ G x0 s0 K N I24 L R _ h) hk23 dX2_doOp_210 (by rw [hRm]; exact ⟨Nat.le_of_ble_eq_true rfl, Nat.le_of_ble_eq_true rfl⟩) ⟨Nat.zero_le _, Nat.zero_le _⟩ (Nat.le_of_ble_eq_true rfl) (z_kIv (I := I24) (fun I25 h => ?_))
                refine z_iconst hC (v := 1) k_iconst_1 dX2_doOp_213 ?_
                exact z_zret (b := true) hC dX2_doOp_214 rfl ⟨true, rfl, rfl, rfl, rfl, rfl, h⟩
set_option maxHeartbeats 4000000 in
set_option maxRecDepth 100000 in
theorem z_X2_doOp_15 {X : ZX} {G : ZG}  {x0 : Nat} {x1 : Nat} {x2 : Int32} {x3 : Int32} {s0 : Int32} {K : MK} {N : MK} {I : MI} {L : ML} {R : MR}  {Q : Bool → MI → Prop} (hC : ZOk X G RX2 cX2_doOp 6 (some .boolean)) (hRm : X.2.2.2.1 = rm_X2_doOp) (h : w_X2_doOp_15 x0 x1 x2 x3 s0 K N I L R  Q) : Z X G 6 0 0 (z_T X G (qIz K N L R Q) 0 0) K N I L R 15 [(0, .ref x0), (1, .ref x1), (2, .int x2), (3, .int x3)] [.int s0] := by
  delta w_X2_doOp_15 at h
  refine z_istore hC (lv1 := [(4, .int s0), (0, .ref x0), (1, .ref x1), (2, .int x2), (3, .int x3)]) dX2_doOp_15 (by decide) rfl ?_
  refine z_iload_n hC (q := 3) dX2_doOp_17 rfl rfl ?_
  refine cl_RX2_76 hC (c_X10_needsOf _ G x2 K N I L R _ h) dX2_doOp_18 (by rw [hRm]; exact ⟨Nat.le_of_ble_eq_true rfl, Nat.le_of_ble_eq_true rfl⟩) ⟨Nat.zero_le _, Nat.zero_le _⟩ (Nat.le_of_ble_eq_true rfl) (z_kPi (fun r2 h => ?_))
  refine z_iconst hC (v := 1) k_iconst_1 dX2_doOp_21 ?_
  refine z_icmp_le hC (tgt := 32) dX2_doOp_22 (by decide) (fun hc => ?_) (fun hc => ?_)
  · have h := h.1 hc
    refine z_iconst hC (v := 0) k_iconst_0 dX2_doOp_32 ?_
    exact z_sub [(0, .ref x0), (1, .ref x1), (2, .int x2), (3, .int x3), (4, .int s0)] [1, 2, 3, 4, 0] rfl (z_X2_doOp_33 hC hRm h)
  · have h := h.2 hc
    refine z_aload_n hC (q := 1) dX2_doOp_25 rfl rfl ?_
    obtain ⟨hk26, h⟩ := h
    refine cl_RX2_36 hC (c_X2_pop _ G x0 K N I L R _ h) hk26 dX2_doOp_26 (by rw [hRm]; exact ⟨Nat.le_of_ble_eq_true rfl, Nat.le_of_ble_eq_true rfl⟩) ⟨Nat.zero_le _, Nat.zero_le _⟩ (Nat.le_of_ble_eq_true rfl) (z_kIi (I := I) (fun r27 I28 h => ?_))
    refine z_goto hC (tgt := 33) dX2_doOp_29 (by decide) ?_
    exact z_sub [(0, .ref x0), (1, .ref x1), (2, .int x2), (3, .int x3), (4, .int s0)] [1, 2, 3, 4, 0] rfl (z_X2_doOp_33 hC hRm h)
set_option maxHeartbeats 4000000 in
set_option maxRecDepth 100000 in
theorem c_X2_doOp  (l : Launch) (G : ZG) (a0 : Nat) (a1 : Nat) (a2 : Int32) (a3 : Int32) (K : MK) (N : MK) (I : MI) (L : ML) (R : MR) (Q : Bool → MI → Prop) (h : w_X2_doOp a0 a1 a2 a3 K N I L R Q) : Met l yX2_doOp (.code yX2_doOp cX2_doOp 6 (some .boolean) :: z_tbl) rm_X2_doOp (z_Pc G [.ref a0, .ref a1, .int a2, .int a3] K N I L R) (z_Qc G (qIz K N L R Q)) 0 0 (z_A G) := by
  refine z_met (by decide) (Nat.le_of_ble_eq_true rfl) (fun X hX hRm hC0 hnm => ?_)
  subst hX
  have hC : ZOk X G RX2 cX2_doOp 6 (some .boolean) := hC0
  show Z X G 6 0 0 _ K N I L R 0 [(0, .ref a0), (1, .ref a1), (2, .int a2), (3, .int a3)] []
  delta w_X2_doOp at h
  refine z_iload_n hC (q := 2) dX2_doOp_0 rfl rfl ?_
  refine cl_RX2_76 hC (c_X10_needsOf _ G a2 K N I L R _ h) dX2_doOp_1 (by rw [hRm]; exact ⟨Nat.le_of_ble_eq_true rfl, Nat.le_of_ble_eq_true rfl⟩) ⟨Nat.zero_le _, Nat.zero_le _⟩ (Nat.le_of_ble_eq_true rfl) (z_kPi (fun r1 h => ?_))
  refine z_if_le hC (tgt := 14) dX2_doOp_4 (by decide) (fun hc => ?_) (fun hc => ?_)
  · have h := h.1 hc
    refine z_iconst hC (v := 0) k_iconst_0 dX2_doOp_14 ?_
    exact z_sub [(0, .ref a0), (1, .ref a1), (2, .int a2), (3, .int a3)] [0, 1, 2, 3] rfl (z_X2_doOp_15 hC hRm h)
  · have h := h.2 hc
    refine z_aload_n hC (q := 0) dX2_doOp_7 rfl rfl ?_
    obtain ⟨hk29, h⟩ := h
    refine cl_RX2_36 hC (c_X2_pop _ G a0 K N I L R _ h) hk29 dX2_doOp_8 (by rw [hRm]; exact ⟨Nat.le_of_ble_eq_true rfl, Nat.le_of_ble_eq_true rfl⟩) ⟨Nat.zero_le _, Nat.zero_le _⟩ (Nat.le_of_ble_eq_true rfl) (z_kIi (I := I) (fun r30 I31 h => ?_))
    refine z_goto hC (tgt := 15) dX2_doOp_11 (by decide) ?_
    exact z_sub [(0, .ref a0), (1, .ref a1), (2, .int a2), (3, .int a3)] [0, 1, 2, 3] rfl (z_X2_doOp_15 hC hRm h)
