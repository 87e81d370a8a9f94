def w_X12_bad  (a0 : Nat) (a1 : Int32) (K : MK) (N : MK) (I : MI) (L : ML) (R : MR) (Q : Bool → MI → Prop) : Prop := K a0 = 13 ∧ (¬ (I a0 7) = 1 → ∀ I2 : MI, I2 = mup I a0 10 a1 → ∀ I3 : MI, I3 = mup I2 a0 11 (I2 a0 6) → Q false I3) ∧ ((I a0 7) = 1 → ∀ I4 : MI, I4 = mup I a0 10 1 → ∀ I5 : MI, I5 = mup I4 a0 11 (I4 a0 6) → Q false I5)
set_option maxHeartbeats 4000000 in
set_option maxRecDepth 100000 in
theorem c_X12_bad  (l : Launch) (G : ZG) (a0 : Nat) (a1 : Int32) (K : MK) (N : MK) (I : MI) (L : ML) (R : MR) (Q : Bool → MI → Prop) (h : w_X12_bad a0 a1 K N I L R Q) : Met l yX12_bad (.code yX12_bad cX12_bad 2 (some .boolean) :: z_tbl) rm_X12_bad (z_Pc G [.ref a0, .int a1] K N I L R) (z_Qc G (qIz K N L R Q)) 0 0 (z_A G) := by
  refine z_met (by decide) (Nat.le_of_ble_eq_true rfl) (fun X hX hRm hC0 hnm => ?_)
  subst hX
  have hC : ZOk X G RX12 cX12_bad 2 (some .boolean) := hC0
  show Z X G 2 0 0 _ K N I L R 0 [(0, .ref a0), (1, .int a1)] []
  delta w_X12_bad at h
  refine z_aload_n hC (q := 0) dX12_bad_0 rfl rfl ?_
  refine z_aload_n hC (q := 0) dX12_bad_1 rfl rfl ?_
  obtain ⟨hk1, h⟩ := h
  refine gf_RX12_30 hC dX12_bad_2 hk1 ?_
  refine z_iconst hC (v := 1) k_iconst_1 dX12_bad_5 ?_
  refine z_icmp_ne hC (tgt := 13) dX12_bad_6 (by decide) (fun hc => ?_) (fun hc => ?_)
  · have h := h.1 hc
    refine z_iload_n hC (q := 1) dX12_bad_13 rfl rfl ?_
    refine pf_RX12_66 hC dX12_bad_14 hk1 ?_
    refine z_genI (fun I2 eI2 => ?_)
    have h := h I2 eI2
    refine z_aload_n hC (q := 0) dX12_bad_17 rfl rfl ?_
    refine z_aload_n hC (q := 0) dX12_bad_18 rfl rfl ?_
    refine gf_RX12_24 hC dX12_bad_19 hk1 ?_
    refine pf_RX12_69 hC dX12_bad_22 hk1 ?_
    refine z_genI (fun I3 eI3 => ?_)
    have h := h I3 eI3
    refine z_iconst hC (v := 0) k_iconst_0 dX12_bad_25 ?_
    exact z_zret (b := false) hC dX12_bad_26 rfl ⟨false, rfl, rfl, rfl, rfl, rfl, h⟩
  · have h := h.2 hc
    refine z_iconst hC (v := 1) k_iconst_1 dX12_bad_9 ?_
    refine z_goto hC (tgt := 14) dX12_bad_10 (by decide) ?_
    refine pf_RX12_66 hC dX12_bad_14 hk1 ?_
    refine z_genI (fun I4 eI4 => ?_)
    have h := h I4 eI4
    refine z_aload_n hC (q := 0) dX12_bad_17 rfl rfl ?_
    refine z_aload_n hC (q := 0) dX12_bad_18 rfl rfl ?_
    refine gf_RX12_24 hC dX12_bad_19 hk1 ?_
    refine pf_RX12_69 hC dX12_bad_22 hk1 ?_
    refine z_genI (fun I5 eI5 => ?_)
    have h := h I5 eI5
    refine z_iconst hC (v := 0) k_iconst_0 dX12_bad_25 ?_
    exact z_zret (b := false) hC dX12_bad_26 rfl ⟨false, rfl, rfl, rfl, rfl, rfl, h⟩
def w_X12_readNumber  (a0 : Nat) (a1 : Int32) (a2 : Int32) (K : MK) (N : MK) (I : MI) (L : ML) (R : MR) (Q : Bool → MI → ML → Prop) : Prop := K a0 = 13 ∧ ((I a0 7) = 3 → w_X12_isIn (I a0 8) a1 a2 K N I L R (fun r2 => (r2 = true → ∀ I3 : MI, I3 = mup I a0 13 (I a0 8) → w_X12_go a0 K N I3 L R (fun I4 L5 => Q true I4 L5)) ∧ (r2 = false → w_X12_bad a0 2 K N I L R (fun r6 I7 => Q r6 I7 L)))) ∧ (¬ (I a0 7) = 3 → w_X12_bad a0 1 K N I L R (fun r8 I9 => Q r8 I9 L))
set_option maxHeartbeats 4000000 in
set_option maxRecDepth 100000 in
theorem c_X12_readNumber  (l : Launch) (G : ZG) (a0 : Nat) (a1 : Int32) (a2 : Int32) (K : MK) (N : MK) (I : MI) (L : ML) (R : MR) (Q : Bool → MI → ML → Prop) (h : w_X12_readNumber a0 a1 a2 K N I L R Q) : Met l yX12_readNumber (.code yX12_readNumber cX12_readNumber 3 (some .boolean) :: z_tbl) rm_X12_readNumber (z_Pc G [.ref a0, .int a1, .int a2] K N I L R) (z_Qc G (qLz K N R Q)) 0 0 (z_A G) := by
  refine z_met (by decide) (Nat.le_of_ble_eq_true rfl) (fun X hX hRm hC0 hnm => ?_)
  subst hX
  have hC : ZOk X G RX12 cX12_readNumber 3 (some .boolean) := hC0
  show Z X G 3 0 0 _ K N I L R 0 [(0, .ref a0), (1, .int a1), (2, .int a2)] []
  delta w_X12_readNumber at h
  refine z_aload_n hC (q := 0) dX12_readNumber_0 rfl rfl ?_
  obtain ⟨hk1, h⟩ := h
  refine gf_RX12_30 hC dX12_readNumber_1 hk1 ?_
  refine z_iconst hC (v := 3) k_iconst_3 dX12_readNumber_4 ?_
  refine z_icmp_eq hC (tgt := 14) dX12_readNumber_5 (by decide) (fun hc => ?_) (fun hc => ?_)
  · have h := h.1 hc
    refine z_aload_n hC (q := 0) dX12_readNumber_14 rfl rfl ?_
    refine gf_RX12_47 hC dX12_readNumber_15 hk1 ?_
    refine z_iload_n hC (q := 1) dX12_readNumber_18 rfl rfl ?_
    refine z_iload_n hC (q := 2) dX12_readNumber_19 rfl rfl ?_
    refine cl_RX12_75 hC (c_X12_isIn _ G (I a0 8) a1 a2 K N I L R _ h) dX12_readNumber_20 (by rw [hRm]; exact ⟨Nat.le_of_ble_eq_true rfl, Nat.le_of_ble_eq_true rfl⟩) ⟨Nat.zero_le _, Nat.zero_le _⟩ (Nat.le_of_ble_eq_true rfl) (z_kPz (fun r2 h => ?_))
    refine z_ifz_ne hC (tgt := 32) dX12_readNumber_23 (by decide) (fun hc => ?_) (fun hc => ?_)
    · have h := h.1 hc
      refine z_aload_n hC (q := 0) dX12_readNumber_32 rfl rfl ?_
      refine z_aload_n hC (q := 0) dX12_readNumber_33 rfl rfl ?_
      refine gf_RX12_47 hC dX12_readNumber_34 hk1 ?_
      refine pf_RX12_79 hC dX12_readNumber_37 hk1 ?_
      refine z_genI (fun I3 eI3 => ?_)
      have h := h I3 eI3
      refine z_aload_n hC (q := 0) dX12_readNumber_40 rfl rfl ?_
      refine cl_RX12_82 hC (c_X12_go _ G a0 K N I3 L R _ h) hk1 dX12_readNumber_41 (by rw [hRm]; exact ⟨Nat.le_of_ble_eq_true rfl, Nat.le_of_ble_eq_true rfl⟩) ⟨Nat.zero_le _, Nat.zero_le _⟩ (Nat.le_of_ble_eq_true rfl) (z_kLv (I := I3) (L := L) (fun I4 L5 h => ?_))
      refine z_iconst hC (v := 1) k_iconst_1 dX12_readNumber_44 ?_
      exact z_zret (b := true) hC dX12_readNumber_45 rfl ⟨true, rfl, rfl, rfl, rfl, h⟩
    · have h := h.2 hc
      refine z_aload_n hC (q := 0) dX12_readNumber_26 rfl rfl ?_
      refine z_iconst hC (v := 2) k_iconst_2 dX12_readNumber_27 ?_
      refine cl_RX12_72 hC (c_X12_bad _ G a0 2 K N I L R _ h) hk1 dX12_readNumber_28 (by rw [hRm]; exact ⟨Nat.le_of_ble_eq_true rfl, Nat.le_of_ble_eq_true rfl⟩) ⟨Nat.zero_le _, Nat.zero_le _⟩ (Nat.le_of_ble_eq_true rfl) (z_kIz (I := I) (fun r6 I7 h => ?_))
      exact z_zret (b := r6) hC dX12_readNumber_31 rfl ⟨r6, rfl, rfl, rfl, rfl, h⟩
  · have h := h.2 hc
    refine z_aload_n hC (q := 0) dX12_readNumber_8 rfl rfl ?_
    refine z_iconst hC (v := 1) k_iconst_1 dX12_readNumber_9 ?_
    refine cl_RX12_72 hC (c_X12_bad _ G a0 1 K N I L R _ h) hk1 dX12_readNumber_10 (by rw [hRm]; exact ⟨Nat.le_of_ble_eq_true rfl, Nat.le_of_ble_eq_true rfl⟩) ⟨Nat.zero_le _, Nat.zero_le _⟩ (Nat.le_of_ble_eq_true rfl) (z_kIz (I := I) (fun r8 I9 h => ?_))
    exact z_zret (b := r8) hC dX12_readNumber_13 rfl ⟨r8, rfl, rfl, rfl, rfl, h⟩
def w_X12_readEnd  (a0 : Nat) (K : MK) (N : MK) (I : MI) (L : ML) (R : MR) (Q : Bool → MI → ML → Prop) : Prop := K a0 = 13 ∧ w_X12_isSign a0 59 K N I L R (fun r2 => (r2 = true → w_X12_go a0 K N I L R (fun I3 L4 => Q true I3 L4)) ∧ (r2 = false → w_X12_bad a0 1 K N I L R (fun r5 I6 => Q r5 I6 L)))
set_option maxHeartbeats 4000000 in
set_option maxRecDepth 100000 in
theorem c_X12_readEnd  (l : Launch) (G : ZG) (a0 : Nat) (K : MK) (N : MK) (I : MI) (L : ML) (R : MR) (Q : Bool → MI → ML → Prop) (h : w_X12_readEnd a0 K N I L R Q) : Met l yX12_readEnd (.code yX12_readEnd cX12_readEnd 1 (some .boolean) :: z_tbl) rm_X12_readEnd (z_Pc G [.ref a0] K N I L R) (z_Qc G (qLz K N R Q)) 0 0 (z_A G) := by
  refine z_met (by decide) (Nat.le_of_ble_eq_true rfl) (fun X hX hRm hC0 hnm => ?_)
  subst hX
  have hC : ZOk X G RX12 cX12_readEnd 1 (some .boolean) := hC0
  show Z X G 1 0 0 _ K N I L R 0 [(0, .ref a0)] []
  delta w_X12_readEnd at h
  refine z_aload_n hC (q := 0) dX12_readEnd_0 rfl rfl ?_
  refine z_bipush hC (v := 59) k_bipush_59 dX12_readEnd_1 ?_
  obtain ⟨hk1, h⟩ := h
  refine cl_RX12_86 hC (c_X12_isSign _ G a0 59 K N I L R _ h) hk1 dX12_readEnd_3 (by rw [hRm]; exact ⟨Nat.le_of_ble_eq_true rfl, Nat.le_of_ble_eq_true rfl⟩) ⟨Nat.zero_le _, Nat.zero_le _⟩ (Nat.le_of_ble_eq_true rfl) (z_kPz (fun r2 h => ?_))
  refine z_ifz_ne hC (tgt := 15) dX12_readEnd_6 (by decide) (fun hc => ?_) (fun hc => ?_)
  · have h := h.1 hc
    refine z_aload_n hC (q := 0) dX12_readEnd_15 rfl rfl ?_
    refine cl_RX12_82 hC (c_X12_go _ G a0 K N I L R _ h) hk1 dX12_readEnd_16 (by rw [hRm]; exact ⟨Nat.le_of_ble_eq_true rfl, Nat.le_of_ble_eq_true rfl⟩) ⟨Nat.zero_le _, Nat.zero_le _⟩ (Nat.le_of_ble_eq_true rfl) (z_kLv (I := I) (L := L) (fun I3 L4 h => ?_))
    refine z_iconst hC (v := 1) k_iconst_1 dX12_readEnd_19 ?_
    exact z_zret (b := true) hC dX12_readEnd_20 rfl ⟨true, rfl, rfl, rfl, rfl, h⟩
  · have h := h.2 hc
    refine z_aload_n hC (q := 0) dX12_readEnd_9 rfl rfl ?_
    refine z_iconst hC (v := 1) k_iconst_1 dX12_readEnd_10 ?_
    refine cl_RX12_72 hC (c_X12_bad _ G a0 1 K N I L R _ h) hk1 dX12_readEnd_11 (by rw [hRm]; exact ⟨Nat.le_of_ble_eq_true rfl, Nat.le_of_ble_eq_true rfl⟩) ⟨Nat.zero_le _, Nat.zero_le _⟩ (Nat.le_of_ble_eq_true rfl) (z_kIz (I := I) (fun r5 I6 h => ?_))
    exact z_zret (b := r5) hC dX12_readEnd_14 rfl ⟨r5, rfl, rfl, rfl, rfl, h⟩
def w_X12_begin  (a0 : Nat) (a1 : Int32) (K : MK) (N : MK) (I : MI) (L : ML) (R : MR) (Q : MI → ML → Prop) : Prop := K a0 = 13 ∧ ∀ I2 : MI, I2 = mup I a0 0 0 → w_X12_take a0 K N I2 L R (fun r3 I4 => ∀ I5 : MI, I5 = mup I4 a0 3 r3 → ∀ I6 : MI, I6 = mup I5 a0 4 a1 → ∀ I7 : MI, I7 = mup I6 a0 10 0 → ∀ I8 : MI, I8 = mup I7 a0 5 0 → w_X12_go a0 K N I8 L R (fun I9 L10 => Q I9 L10))
set_option maxHeartbeats 4000000 in
set_option maxRecDepth 100000 in
theorem c_X12_begin  (l : Launch) (G : ZG) (a0 : Nat) (a1 : Int32) (K : MK) (N : MK) (I : MI) (L : ML) (R : MR) (Q : MI → ML → Prop) (h : w_X12_begin a0 a1 K N I L R Q) : Met l yX12_begin (.code yX12_begin cX12_begin 2 none :: z_tbl) rm_X12_begin (z_Pc G [.ref a0, .int a1] K N I L R) (z_Qc G (qLv K N R Q)) 0 0 (z_A G) := by
  refine z_met (by decide) (Nat.le_of_ble_eq_true rfl) (fun X hX hRm hC0 hnm => ?_)
  subst hX
  have hC : ZOk X G RX12 cX12_begin 2 none := hC0
  show Z X G 2 0 0 _ K N I L R 0 [(0, .ref a0), (1, .int a1)] []
  delta w_X12_begin at h
  refine z_aload_n hC (q := 0) dX12_begin_0 rfl rfl ?_
  refine z_iconst hC (v := 0) k_iconst_0 dX12_begin_1 ?_
  obtain ⟨hk1, h⟩ := h
  refine pf_RX12_1 hC dX12_begin_2 hk1 ?_
  refine z_genI (fun I2 eI2 => ?_)
  have h := h I2 eI2
  refine z_aload_n hC (q := 0) dX12_begin_5 rfl rfl ?_
  refine z_aload_n hC (q := 0) dX12_begin_6 rfl rfl ?_
  refine cl_RX12_89 hC (c_X12_take _ G a0 K N I2 L R _ h) hk1 dX12_begin_7 (by rw [hRm]; exact ⟨Nat.le_of_ble_eq_true rfl, Nat.le_of_ble_eq_true rfl⟩) ⟨Nat.zero_le _, Nat.zero_le _⟩ (Nat.le_of_ble_eq_true rfl) (z_kIi (I := I2) (fun r3 I4 h => ?_))
  refine pf_RX12_18 hC dX12_begin_10 hk1 ?_
  refine z_genI (fun I5 eI5 => ?_)
  have h := h I5 eI5
  refine z_aload_n hC (q := 0) dX12_begin_13 rfl rfl ?_
  refine z_iload_n hC (q := 1) dX12_begin_14 rfl rfl ?_
  refine pf_RX12_27 hC dX12_begin_15 hk1 ?_
  refine z_genI (fun I6 eI6 => ?_)
  have h := h I6 eI6
  refine z_aload_n hC (q := 0) dX12_begin_18 rfl rfl ?_
  refine z_iconst hC (v := 0) k_iconst_0 dX12_begin_19 ?_
  refine pf_RX12_66 hC dX12_begin_20 hk1 ?_
  refine z_genI (fun I7 eI7 => ?_)
  have h := h I7 eI7
  refine z_aload_n hC (q := 0) dX12_begin_23 rfl rfl ?_
  refine z_iconst hC (v := 0) k_iconst_0 dX12_begin_24 ?_
  refine pf_RX12_21 hC dX12_begin_25 hk1 ?_
  refine z_genI (fun I8 eI8 => ?_)
  have h := h I8 eI8
  refine z_aload_n hC (q := 0) dX12_begin_28 rfl rfl ?_
  refine cl_RX12_82 hC (c_X12_go _ G a0 K N I8 L R _ h) hk1 dX12_begin_29 (by rw [hRm]; exact ⟨Nat.le_of_ble_eq_true rfl, Nat.le_of_ble_eq_true rfl⟩) ⟨Nat.zero_le _, Nat.zero_le _⟩ (Nat.le_of_ble_eq_true rfl) (z_kLv (I := I8) (L := L) (fun I9 L10 h => ?_))
  exact z_vret hC dX12_begin_32 ⟨rfl, rfl, rfl, rfl, h⟩
def w_X12_startSo_4  (x0 : Nat) (x1 : Int32)  (K : MK) (N : MK) (I : MI) (L : ML) (R : MR)  (Q : MI → Prop) : Prop := ∃ J : Nat → Nat → Int32 → MI → Prop, (∃ n, J n x0 x1 I) ∧ ∀ (n : Nat) (x0 : Nat) (x1 : Int32) (I : MI), J n x0 x1 I → ((667 : Int32) ≤ x1 → Q I) ∧ (¬ (667 : Int32) ≤ x1 → K x0 = 13 ∧ ∃ b2 : Nat, R x0 14 = some b2 ∧ K b2 = 14 ∧ vp_in x1 (N b2) ∧ ∀ I5 : MI, I5 = mup I b2 (ix x1) 0 → ∀ v6 : Int32, v6 = x1 + 1 → ∃ n1, n1 < n ∧ J n1 x0 v6 I5)
def w_X12_startSo  (a0 : Nat) (K : MK) (N : MK) (I : MI) (L : ML) (R : MR) (Q : MI → Prop) : Prop := w_X12_startSo_4 a0 342 K N I L R Q
set_option maxHeartbeats 4000000 in
set_option maxRecDepth 100000 in
theorem z_X12_startSo_4 {X : ZX} {G : ZG}  {x0 : Nat} {x1 : Int32}  {K : MK} {N : MK} {I : MI} {L : ML} {R : MR}  {Q : MI → Prop} (hC : ZOk X G RX12 cX12_startSo 2 none) (hRm : X.2.2.2.1 = rm_X12_startSo) (h : w_X12_startSo_4 x0 x1 K N I L R  Q) : Z X G 2 0 0 (z_T X G (qIv K N L R Q) 0 0) K N I L R 4 [(0, .ref x0), (1, .int x1)] [] := by
  delta w_X12_startSo_4 at h
  obtain ⟨J, ⟨n, h0⟩, hs⟩ := h
  have key : ∀ (n : Nat) (x0 : Nat) (x1 : Int32) (I : MI), J n x0 x1 I → Z X G 2 0 0 (z_T X G (qIv K N L R Q) 0 0) K N I L R 4 [(0, .ref x0), (1, .int x1)] [] := by
    intro n
    induction n using Nat.strongRecOn with
    | _ n ih =>
      intro x0 x1 I hJ
      have hC4 : ∀ (y0 : Nat) (y1 : Int32) (zI : MI), (∃ n1, n1 < n ∧ J n1 y0 y1 zI) → Z X G 2 0 0 (z_T X G (qIv K N L R Q) 0 0) K N zI L R 4 [(0, .ref y0), (1, .int y1)] [] := fun y0 y1 zI ⟨n1, hn1, hj⟩ => ih n1 hn1 y0 y1 zI hj
      have h := hs n x0 x1 I hJ
      refine z_iload_n hC (q := 1) dX12_startSo_4 rfl rfl ?_
      refine z_sipush hC (v := 667) k_sipush_667 dX12_startSo_5 ?_
      refine z_icmp_ge hC (tgt := 24) dX12_startSo_8 (by decide) (fun hc => ?_) (fun hc => ?_)
      · have h := h.1 hc
        exact z_vret hC dX12_startSo_24 ⟨rfl, rfl, rfl, rfl, rfl, h⟩
      · have h := h.2 hc
        refine z_aload_n hC (q := 0) dX12_startSo_11 rfl rfl ?_
        obtain ⟨hk1, h⟩ := h
        obtain ⟨b2, hb2, h⟩ := h
        refine gf_RX12_98 hC dX12_startSo_12 hk1 hb2 ?_
        refine z_iload_n hC (q := 1) dX12_startSo_15 rfl rfl ?_
        refine z_iconst hC (v := 0) k_iconst_0 dX12_startSo_16 ?_
        obtain ⟨hk3, h⟩ := h
        obtain ⟨hi4, h⟩ := h
        refine z_iastore hC hk3 hi4 dX12_startSo_17 ?_
        refine z_genI (fun I5 eI5 => ?_)
        have h := h I5 eI5
        obtain ⟨v6, ev6⟩ : ∃ y : Int32, y = x1 + 1 := ⟨_, rfl⟩
        have h := h v6 ev6
        refine z_iinc hC (q := 1) (v := v6) (lv1 := [(1, .int v6), (0, .ref x0)]) dX12_startSo_18 rfl (by rw [ev6, k_iinc_1]) (by decide) rfl ?_
        refine z_goto hC (tgt := 4) dX12_startSo_21 (by decide) ?_
        exact z_sub [(0, .ref x0), (1, .int v6)] [1, 0] rfl (hC4 _ _ _ h)
  exact key n x0 x1 I h0
set_option maxHeartbeats 4000000 in
set_option maxRecDepth 100000 in
theorem c_X12_startSo  (l : Launch) (G : ZG) (a0 : Nat) (K : MK) (N : MK) (I : MI) (L : ML) (R : MR) (Q : MI → Prop) (h : w_X12_startSo a0 K N I L R Q) : Met l yX12_startSo (.code yX12_startSo cX12_startSo 2 none :: z_tbl) rm_X12_startSo (z_Pc G [.ref a0] K N I L R) (z_Qc G (qIv K N L R Q)) 0 0 (z_A G) := by
  refine z_met (by decide) (Nat.le_of_ble_eq_true rfl) (fun X hX hRm hC0 hnm => ?_)
  subst hX
  have hC : ZOk X G RX12 cX12_startSo 2 none := hC0
  show Z X G 2 0 0 _ K N I L R 0 [(0, .ref a0)] []
  delta w_X12_startSo at h
  refine z_sipush hC (v := 342) k_sipush_342 dX12_startSo_0 ?_
  refine z_istore_n hC (lv1 := [(1, .int 342), (0, .ref a0)]) dX12_startSo_3 rfl (by decide) rfl ?_
  exact z_sub [(0, .ref a0), (1, .int 342)] [1, 0] rfl (z_X12_startSo_4 hC hRm h)
def w_X12_findIn_3  (x0 : Nat) (x1 : Int32) (x2 : Int32) (x3 : Int64) (x5 : Int32)  (K : MK) (N : MK) (I : MI) (L : ML) (R : MR)  (Q : Int32 → Prop) : Prop := ∃ J : Nat → Nat → Int32 → Int32 → Int64 → Int32 → Prop, (∃ n, J n x0 x1 x2 x3 x5) ∧ ∀ (n : Nat) (x0 : Nat) (x1 : Int32) (x2 : Int32) (x3 : Int64) (x5 : Int32), J n x0 x1 x2 x3 x5 → (x2 ≤ x5 → Q (-1)) ∧ (¬ x2 ≤ x5 → K x0 = 15 ∧ vp_in (x1 + x5) (N x0) ∧ (¬ (lg_cmp (L x0 (ix (x1 + x5))) x3) = 0 → ∀ v3 : Int32, v3 = x5 + 1 → ∃ n1, n1 < n ∧ J n1 x0 x1 x2 x3 v3) ∧ ((lg_cmp (L x0 (ix (x1 + x5))) x3) = 0 → Q x5))
def w_X12_findIn  (a0 : Nat) (a1 : Int32) (a2 : Int32) (a3 : Int64) (K : MK) (N : MK) (I : MI) (L : ML) (R : MR) (Q : Int32 → Prop) : Prop := w_X12_findIn_3 a0 a1 a2 a3 0 K N I L R Q
set_option maxHeartbeats 4000000 in
set_option maxRecDepth 100000 in
theorem z_X12_findIn_3 {X : ZX} {G : ZG}  {x0 : Nat} {x1 : Int32} {x2 : Int32} {x3 : Int64} {x5 : Int32}  {K : MK} {N : MK} {I : MI} {L : ML} {R : MR}  {Q : Int32 → Prop} (hC : ZOk X G RX12 cX12_findIn 6 (some .int)) (hRm : X.2.2.2.1 = rm_X12_findIn) (h : w_X12_findIn_3 x0 x1 x2 x3 x5 K N I L R  Q) : Z X G 6 0 0 (z_T X G (qPi K N I L R Q) 0 0) K N I L R 3 [(0, .ref x0), (1, .int x1), (2, .int x2), (3, .long x3), (5, .int x5)] [] := by
  delta w_X12_findIn_3 at h
  obtain ⟨J, ⟨n, h0⟩, hs⟩ := h
  have key : ∀ (n : Nat) (x0 : Nat) (x1 : Int32) (x2 : Int32) (x3 : Int64) (x5 : Int32), J n x0 x1 x2 x3 x5 → Z X G 6 0 0 (z_T X G (qPi K N I L R Q) 0 0) K N I L R 3 [(0, .ref x0), (1, .int x1), (2, .int x2), (3, .long x3), (5, .int x5)] [] := by
    intro n
    induction n using Nat.strongRecOn with
    | _ n ih =>
      intro x0 x1 x2 x3 x5 hJ
      have hC3 : ∀ (y0 : Nat) (y1 : Int32) (y2 : Int32) (y3 : Int64) (y4 : Int32) , (∃ n1, n1 < n ∧ J n1 y0 y1 y2 y3 y4) → Z X G 6 0 0 (z_T X G (qPi K N I L R Q) 0 0) K N I L R 3 [(0, .ref y0), (1, .int y1), (2, .int y2), (3, .long y3), (5, .int y4)] [] := fun y0 y1 y2 y3 y4 ⟨n1, hn1, hj⟩ => ih n1 hn1 y0 y1 y2 y3 y4 hj
      have h := hs n x0 x1 x2 x3 x5 hJ
      refine z_iload hC (q := 4) dX12_findIn_3 rfl ?_
      refine z_iload_n hC (q := 2) dX12_findIn_5 rfl rfl ?_
      refine z_icmp_ge hC (tgt := 29) dX12_findIn_6 (by decide) (fun hc => ?_) (fun hc => ?_)
      · have h := h.1 hc
        refine z_iconst hC (v := (-1)) k_iconst_m1 dX12_findIn_29 ?_
        exact z_iret hC dX12_findIn_30 ⟨_, rfl, rfl, rfl, rfl, rfl, rfl, h⟩
      · have h := h.2 hc
        refine z_aload_n hC (q := 0) dX12_findIn_9 rfl rfl ?_
        refine z_iload_n hC (q := 1) dX12_findIn_10 rfl rfl ?_
        refine z_iload hC (q := 4) dX12_findIn_11 rfl ?_
        refine z_iadd hC dX12_findIn_13 ?_
        obtain ⟨hk1, h⟩ := h
        obtain ⟨hi2, h⟩ := h
        refine z_laload hC hk1 hi2 dX12_findIn_14 ?_
        refine z_lload_n hC (q := 3) dX12_findIn_15 rfl rfl ?_
        refine z_lcmp hC dX12_findIn_16 ?_
        refine z_if_ne hC (tgt := 23) dX12_findIn_17 (by decide) (fun hc => ?_) (fun hc => ?_)
        · have h := h.1 hc
          obtain ⟨v3, ev3⟩ : ∃ y : Int32, y = x5 + 1 := ⟨_, rfl⟩
          have h := h v3 ev3
          refine z_iinc hC (q := 4) (v := v3) (lv1 := [(5, .int v3), (0, .ref x0), (1, .int x1), (2, .int x2), (3, .long x3)]) dX12_findIn_23 rfl (by rw [ev3, k_iinc_1]) (by decide) rfl ?_
          refine z_goto hC (tgt := 3) dX12_findIn_26 (by decide) ?_
          exact z_sub [(0, .ref x0), (1, .int x1), (2, .int x2), (3, .long x3), (5, .int v3)] [1, 2, 3, 4, 0] rfl (hC3 _ _ _ _ _ h)
        · have h := h.2 hc
          refine z_iload hC (q := 4) dX12_findIn_20 rfl ?_
          exact z_iret hC dX12_findIn_22 ⟨_, rfl, rfl, rfl, rfl, rfl, rfl, h⟩
  exact key n x0 x1 x2 x3 x5 h0
set_option maxHeartbeats 4000000 in
set_option maxRecDepth 100000 in
theorem c_X12_findIn  (l : Launch) (G : ZG) (a0 : Nat) (a1 : Int32) (a2 : Int32) (a3 : Int64) (K : MK) (N : MK) (I : MI) (L : ML) (R : MR) (Q : Int32 → Prop) (h : w_X12_findIn a0 a1 a2 a3 K N I L R Q) : Met l yX12_findIn (.code yX12_findIn cX12_findIn 6 (some .int) :: z_tbl) rm_X12_findIn (z_Pc G [.ref a0, .int a1, .int a2, .long a3] K N I L R) (z_Qc G (qPi K N I L R Q)) 0 0 (z_A G) := by
  refine z_met (by decide) (Nat.le_of_ble_eq_true rfl) (fun X hX hRm hC0 hnm => ?_)
  subst hX
  have hC : ZOk X G RX12 cX12_findIn 6 (some .int) := hC0
  show Z X G 6 0 0 _ K N I L R 0 [(0, .ref a0), (1, .int a1), (2, .int a2), (3, .long a3)] []
  delta w_X12_findIn at h
  refine z_iconst hC (v := 0) k_iconst_0 dX12_findIn_0 ?_
  refine z_istore hC (lv1 := [(5, .int 0), (0, .ref a0), (1, .int a1), (2, .int a2), (3, .long a3)]) dX12_findIn_1 (by decide) rfl ?_
  exact z_sub [(0, .ref a0), (1, .int a1), (2, .int a2), (3, .long a3), (5, .int 0)] [1, 2, 3, 4, 0] rfl (z_X12_findIn_3 hC hRm h)
def w_X12_readNew  (a0 : Nat) (a1 : Int32) (K : MK) (N : MK) (I : MI) (L : ML) (R : MR) (Q : Bool → MI → ML → Prop) : Prop := K a0 = 13 ∧ w_X12_isName a0 K N I L R (fun r2 => (r2 = true → ∃ b3 : Nat, R a0 21 = some b3 ∧ ∃ b4 : Nat, R a0 15 = some b4 ∧ K b4 = 14 ∧ vp_in 2 (N b4) ∧ w_X12_findIn b3 0 (I b4 (ix 2)) (L a0 12) K N I L R (fun r7 => (¬ r7 = (-1) → w_X12_bad a0 3 K N I L R (fun r8 I9 => Q r8 I9 L)) ∧ (r7 = (-1) → vp_in 3 (N b4) ∧ w_X12_findIn b3 10 (I b4 (ix 3)) (L a0 12) K N I L R (fun r11 => (r11 = (-1) → vp_in 4 (N b4) ∧ w_X12_findIn b3 16 (I b4 (ix 4)) (L a0 12) K N I L R (fun r13 => (r13 = (-1) → K b3 = 15 ∧ vp_in a1 (N b3) ∧ ∀ L16 : ML, L16 = mup L b3 (ix a1) (L a0 12) → w_X12_go a0 K N I L16 R (fun I17 L18 => Q true I17 L18)) ∧ (¬ r13 = (-1) → w_X12_bad a0 3 K N I L R (fun r19 I20 => Q r19 I20 L)))) ∧ (¬ r11 = (-1) → w_X12_bad a0 3 K N I L R (fun r21 I22 => Q r21 I22 L)))))) ∧ (r2 = false → w_X12_bad a0 1 K N I L R (fun r23 I24 => Q r23 I24 L)))
set_option maxHeartbeats 4000000 in
set_option maxRecDepth 100000 in
theorem c_X12_readNew  (l : Launch) (G : ZG) (a0 : Nat) (a1 : Int32) (K : MK) (N : MK) (I : MI) (L : ML) (R : MR) (Q : Bool → MI → ML → Prop) (h : w_X12_readNew a0 a1 K N I L R Q) : Met l yX12_readNew (.code yX12_readNew cX12_readNew 3 (some .boolean) :: z_tbl) rm_X12_readNew (z_Pc G [.ref a0, .int a1] K N I L R) (z_Qc G (qLz K N R Q)) 0 0 (z_A G) := by
  refine z_met (by decide) (Nat.le_of_ble_eq_true rfl) (fun X hX hRm hC0 hnm => ?_)
  subst hX
  have hC : ZOk X G RX12 cX12_readNew 3 (some .boolean) := hC0
  show Z X G 3 0 0 _ K N I L R 0 [(0, .ref a0), (1, .int a1)] []
  delta w_X12_readNew at h
  refine z_aload_n hC (q := 0) dX12_readNew_0 rfl rfl ?_
  obtain ⟨hk1, h⟩ := h
  refine cl_RX12_172 hC (c_X12_isName _ G a0 K N I L R _ h) hk1 dX12_readNew_1 (by rw [hRm]; exact ⟨Nat.le_of_ble_eq_true rfl, Nat.le_of_ble_eq_true rfl⟩) ⟨Nat.zero_le _, Nat.zero_le _⟩ (Nat.le_of_ble_eq_true rfl) (z_kPz (fun r2 h => ?_))
  refine z_ifz_ne hC (tgt := 13) dX12_readNew_4 (by decide) (fun hc => ?_) (fun hc => ?_)
  · have h := h.1 hc
    refine z_aload_n hC (q := 0) dX12_readNew_13 rfl rfl ?_
    obtain ⟨b3, hb3, h⟩ := h
    refine gf_RX12_120 hC dX12_readNew_14 hk1 hb3 ?_
    refine z_iconst hC (v := 0) k_iconst_0 dX12_readNew_17 ?_
    refine z_aload_n hC (q := 0) dX12_readNew_18 rfl rfl ?_
    obtain ⟨b4, hb4, h⟩ := h
    refine gf_RX12_101 hC dX12_readNew_19 hk1 hb4 ?_
    refine z_iconst hC (v := 2) k_iconst_2 dX12_readNew_22 ?_
    obtain ⟨hk5, h⟩ := h
    obtain ⟨hi6, h⟩ := h
    refine z_iaload hC hk5 hi6 dX12_readNew_23 ?_
    refine z_aload_n hC (q := 0) dX12_readNew_24 rfl rfl ?_
    refine gf_RX12_43 hC dX12_readNew_25 hk1 ?_
    refine cl_RX12_176 hC (c_X12_findIn _ G b3 0 (I b4 (ix 2)) (L a0 12) K N I L R _ h) dX12_readNew_28 (by rw [hRm]; exact ⟨Nat.le_of_ble_eq_true rfl, Nat.le_of_ble_eq_true rfl⟩) ⟨Nat.zero_le _, Nat.zero_le _⟩ (Nat.le_of_ble_eq_true rfl) (z_kPi (fun r7 h => ?_))
    refine z_iconst hC (v := (-1)) k_iconst_m1 dX12_readNew_31 ?_
    refine z_icmp_ne hC (tgt := 58) dX12_readNew_32 (by decide) (fun hc => ?_) (fun hc => ?_)
    · have h := h.1 hc
      refine z_iconst hC (v := 1) k_iconst_1 dX12_readNew_58 ?_
      refine z_goto hC (tgt := 63) dX12_readNew_59 (by decide) ?_
      refine z_istore_n hC (lv1 := [(2, .int 1), (0, .ref a0), (1, .int a1)]) dX12_readNew_63 rfl (by decide) rfl ?_
      refine z_iload_n hC (q := 0) dX12_readNew_64 rfl rfl ?_
      refine z_if_ne hC (tgt := 91) dX12_readNew_65 (by decide) (fun _ => ?_) (fun hc => absurd hc (by decide))
      refine z_aload_n hC (q := 1) dX12_readNew_91 rfl rfl ?_
      refine z_iconst hC (v := 3) k_iconst_3 dX12_readNew_92 ?_
      refine cl_RX12_72 hC (c_X12_bad _ G a0 3 K N I L R _ h) hk1 dX12_readNew_93 (by rw [hRm]; exact ⟨Nat.le_of_ble_eq_true rfl, Nat.le_of_ble_eq_true rfl⟩) ⟨Nat.zero_le _, Nat.zero_le _⟩ (Nat.le_of_ble_eq_true rfl) (z_kIz (I := I) (fun r8 I9 h => ?_))
      exact z_zret (b := r8) hC dX12_readNew_96 rfl ⟨r8, rfl, rfl, rfl, rfl, h⟩
    · have h := h.2 hc
      refine z_aload_n hC (q := 0) dX12_readNew_35 rfl rfl ?_
      refine gf_RX12_120 hC dX12_readNew_36 hk1 hb3 ?_
      refine z_bipush hC (v := 10) k_bipush_10 dX12_readNew_39 ?_
      refine z_aload_n hC (q := 0) dX12_readNew_41 rfl rfl ?_
      refine gf_RX12_101 hC dX12_readNew_42 hk1 hb4 ?_
      refine z_iconst hC (v := 3) k_iconst_3 dX12_readNew_45 ?_
      obtain ⟨hi10, h⟩ := h
      refine z_iaload hC hk5 hi10 dX12_readNew_46 ?_
      refine z_aload_n hC (q := 0) dX12_readNew_47 rfl rfl ?_
      refine gf_RX12_43 hC dX12_readNew_48 hk1 ?_
      refine cl_RX12_176 hC (c_X12_findIn _ G b3 10 (I b4 (ix 3)) (L a0 12) K N I L R _ h) dX12_readNew_51 (by rw [hRm]; exact ⟨Nat.le_of_ble_eq_true rfl, Nat.le_of_ble_eq_true rfl⟩) ⟨Nat.zero_le _, Nat.zero_le _⟩ (Nat.le_of_ble_eq_true rfl) (z_kPi (fun r11 h => ?_))
      refine z_iconst hC (v := (-1)) k_iconst_m1 dX12_readNew_54 ?_
      refine z_icmp_eq hC (tgt := 62) dX12_readNew_55 (by decide) (fun hc => ?_) (fun hc => ?_)
      · have h := h.1 hc
        refine z_iconst hC (v := 0) k_iconst_0 dX12_readNew_62 ?_
        refine z_istore_n hC (lv1 := [(2, .int 0), (0, .ref a0), (1, .int a1)]) dX12_readNew_63 rfl (by decide) rfl ?_
        refine z_iload_n hC (q := 0) dX12_readNew_64 rfl rfl ?_
        refine z_if_ne hC (tgt := 91) dX12_readNew_65 (by decide) (fun hc => absurd hc (by decide)) (fun _ => ?_)
        refine z_aload_n hC (q := 1) dX12_readNew_68 rfl rfl ?_
        refine gf_RX12_120 hC dX12_readNew_69 hk1 hb3 ?_
        refine z_bipush hC (v := 16) k_bipush_16 dX12_readNew_72 ?_
        refine z_aload_n hC (q := 1) dX12_readNew_74 rfl rfl ?_
        refine gf_RX12_101 hC dX12_readNew_75 hk1 hb4 ?_
        refine z_iconst hC (v := 4) k_iconst_4 dX12_readNew_78 ?_
        obtain ⟨hi12, h⟩ := h
        refine z_iaload hC hk5 hi12 dX12_readNew_79 ?_
        refine z_aload_n hC (q := 1) dX12_readNew_80 rfl rfl ?_
        refine gf_RX12_43 hC dX12_readNew_81 hk1 ?_
        refine cl_RX12_176 hC (c_X12_findIn _ G b3 16 (I b4 (ix 4)) (L a0 12) K N I L R _ h) dX12_readNew_84 (by rw [hRm]; exact ⟨Nat.le_of_ble_eq_true rfl, Nat.le_of_ble_eq_true rfl⟩) ⟨Nat.zero_le _, Nat.zero_le _⟩ (Nat.le_of_ble_eq_true rfl) (z_kPi (fun r13 h => ?_))
        refine z_iconst hC (v := (-1)) k_iconst_m1 dX12_readNew_87 ?_
        refine z_icmp_eq hC (tgt := 97) dX12_readNew_88 (by decide) (fun hc => ?_) (fun hc => ?_)
        · have h := h.1 hc
          refine z_aload_n hC (q := 1) dX12_readNew_97 rfl rfl ?_
          refine gf_RX12_120 hC dX12_readNew_98 hk1 hb3 ?_
          refine z_iload_n hC (q := 2) dX12_readNew_101 rfl rfl ?_
          refine z_aload_n hC (q := 1) dX12_readNew_102 rfl rfl ?_
          refine gf_RX12_43 hC dX12_readNew_103 hk1 ?_
          obtain ⟨hk14, h⟩ := h
          obtain ⟨hi15, h⟩ := h
          refine z_lastore hC hk14 hi15 dX12_readNew_106 ?_
          refine z_genL (fun L16 eL16 => ?_)
          have h := h L16 eL16
          refine z_aload_n hC (q := 1) dX12_readNew_107 rfl rfl ?_
          refine cl_RX12_82 hC (c_X12_go _ G a0 K N I L16 R _ h) hk1 dX12_readNew_108 (by rw [hRm]; exact ⟨Nat.le_of_ble_eq_true rfl, Nat.le_of_ble_eq_true rfl⟩) ⟨Nat.zero_le _, Nat.zero_le _⟩ (Nat.le_of_ble_eq_true rfl) (z_kLv (I := I) (L := L16) (fun I17 L18 h => ?_))
          refine z_iconst hC (v := 1) k_iconst_1 dX12_readNew_111 ?_
          exact z_zret (b := true) hC dX12_readNew_112 rfl ⟨true, rfl, rfl, rfl, rfl, h⟩
        · have h := h.2 hc
          refine z_aload_n hC (q := 1) dX12_readNew_91 rfl rfl ?_
          refine z_iconst hC (v := 3) k_iconst_3 dX12_readNew_92 ?_
          refine cl_RX12_72 hC (c_X12_bad _ G a0 3 K N I L R _ h) hk1 dX12_readNew_93 (by rw [hRm]; exact ⟨Nat.le_of_ble_eq_true rfl, Nat.le_of_ble_eq_true rfl⟩) ⟨Nat.zero_le _, Nat.zero_le _⟩ (Nat.le_of_ble_eq_true rfl) (z_kIz (I := I) (fun r19 I20 h => ?_))
          exact z_zret (b := r19) hC dX12_readNew_96 rfl ⟨r19, rfl, rfl, rfl, rfl, h⟩
      · have h := h.2 hc
        refine z_iconst hC (v := 1) k_iconst_1 dX12_readNew_58 ?_
        refine z_goto hC (tgt := 63) dX12_readNew_59 (by decide) ?_
        refine z_istore_n hC (lv1 := [(2, .int 1), (0, .ref a0), (1, .int a1)]) dX12_readNew_63 rfl (by decide) rfl ?_
        refine z_iload_n hC (q := 0) dX12_readNew_64 rfl rfl ?_
        refine z_if_ne hC (tgt := 91) dX12_readNew_65 (by decide) (fun _ => ?_) (fun hc => absurd hc (by decide))
        refine z_aload_n hC (q := 1) dX12_readNew_91 rfl rfl ?_
        refine z_iconst hC (v := 3) k_iconst_3 dX12_readNew_92 ?_
        refine cl_RX12_72 hC (c_X12_bad _ G a0 3 K N I L R _ h) hk1 dX12_readNew_93 (by rw [hRm]; exact ⟨Nat.le_of_ble_eq_true rfl, Nat.le_of_ble_eq_true rfl⟩) ⟨Nat.zero_le _, Nat.zero_le _⟩ (Nat.le_of_ble_eq_true rfl) (z_kIz (I := I) (fun r21 I22 h => ?_))
        exact z_zret (b := r21) hC dX12_readNew_96 rfl ⟨r21, rfl, rfl, rfl, rfl, h⟩
  · have h := h.2 hc
    refine z_aload_n hC (q := 0) dX12_readNew_7 rfl rfl ?_
    refine z_iconst hC (v := 1) k_iconst_1 dX12_readNew_8 ?_
    refine cl_RX12_72 hC (c_X12_bad _ G a0 1 K N I L R _ h) hk1 dX12_readNew_9 (by rw [hRm]; exact ⟨Nat.le_of_ble_eq_true rfl, Nat.le_of_ble_eq_true rfl⟩) ⟨Nat.zero_le _, Nat.zero_le _⟩ (Nat.le_of_ble_eq_true rfl) (z_kIz (I := I) (fun r23 I24 h => ?_))
    exact z_zret (b := r23) hC dX12_readNew_12 rfl ⟨r23, rfl, rfl, rfl, rfl, h⟩
def w_X12_readFirst  (a0 : Nat) (a1 : Int32) (a2 : Int32) (K : MK) (N : MK) (I : MI) (L : ML) (R : MR) (Q : Bool → MI → ML → Prop) : Prop := K a0 = 13 ∧ ∃ b2 : Nat, R a0 15 = some b2 ∧ K b2 = 14 ∧ vp_in a1 (N b2) ∧ (¬ (I b2 (ix a1)) = a2 → w_X12_go a0 K N I L R (fun I5 L6 => Q true I5 L6)) ∧ ((I b2 (ix a1)) = a2 → w_X12_bad a0 4 K N I L R (fun r7 I8 => Q r7 I8 L))
set_option maxHeartbeats 4000000 in
set_option maxRecDepth 100000 in
theorem c_X12_readFirst  (l : Launch) (G : ZG) (a0 : Nat) (a1 : Int32) (a2 : Int32) (K : MK) (N : MK) (I : MI) (L : ML) (R : MR) (Q : Bool → MI → ML → Prop) (h : w_X12_readFirst a0 a1 a2 K N I L R Q) : Met l yX12_readFirst (.code yX12_readFirst cX12_readFirst 3 (some .boolean) :: z_tbl) rm_X12_readFirst (z_Pc G [.ref a0, .int a1, .int a2] K N I L R) (z_Qc G (qLz K N R Q)) 0 0 (z_A G) := by
  refine z_met (by decide) (Nat.le_of_ble_eq_true rfl) (fun X hX hRm hC0 hnm => ?_)
  subst hX
  have hC : ZOk X G RX12 cX12_readFirst 3 (some .boolean) := hC0
  show Z X G 3 0 0 _ K N I L R 0 [(0, .ref a0), (1, .int a1), (2, .int a2)] []
  delta w_X12_readFirst at h
  refine z_aload_n hC (q := 0) dX12_readFirst_0 rfl rfl ?_
  obtain ⟨hk1, h⟩ := h
  obtain ⟨b2, hb2, h⟩ := h
  refine gf_RX12_101 hC dX12_readFirst_1 hk1 hb2 ?_
  refine z_iload_n hC (q := 1) dX12_readFirst_4 rfl rfl ?_
  obtain ⟨hk3, h⟩ := h
  obtain ⟨hi4, h⟩ := h
  refine z_iaload hC hk3 hi4 dX12_readFirst_5 ?_
  refine z_iload_n hC (q := 2) dX12_readFirst_6 rfl rfl ?_
  refine z_icmp_ne hC (tgt := 16) dX12_readFirst_7 (by decide) (fun hc => ?_) (fun hc => ?_)
  · have h := h.1 hc
    refine z_aload_n hC (q := 0) dX12_readFirst_16 rfl rfl ?_
    refine cl_RX12_82 hC (c_X12_go _ G a0 K N I L R _ h) hk1 dX12_readFirst_17 (by rw [hRm]; exact ⟨Nat.le_of_ble_eq_true rfl, Nat.le_of_ble_eq_true rfl⟩) ⟨Nat.zero_le _, Nat.zero_le _⟩ (Nat.le_of_ble_eq_true rfl) (z_kLv (I := I) (L := L) (fun I5 L6 h => ?_))
    refine z_iconst hC (v := 1) k_iconst_1 dX12_readFirst_20 ?_
    exact z_zret (b := true) hC dX12_readFirst_21 rfl ⟨true, rfl, rfl, rfl, rfl, h⟩
  · have h := h.2 hc
    refine z_aload_n hC (q := 0) dX12_readFirst_10 rfl rfl ?_
    refine z_iconst hC (v := 4) k_iconst_4 dX12_readFirst_11 ?_
    refine cl_RX12_72 hC (c_X12_bad _ G a0 4 K N I L R _ h) hk1 dX12_readFirst_12 (by rw [hRm]; exact ⟨Nat.le_of_ble_eq_true rfl, Nat.le_of_ble_eq_true rfl⟩) ⟨Nat.zero_le _, Nat.zero_le _⟩ (Nat.le_of_ble_eq_true rfl) (z_kIz (I := I) (fun r7 I8 h => ?_))
    exact z_zret (b := r7) hC dX12_readFirst_15 rfl ⟨r7, rfl, rfl, rfl, rfl, h⟩
def w_X12_put  (a0 : Nat) (a1 : Int32) (a2 : Bool) (K : MK) (N : MK) (I : MI) (L : ML) (R : MR) (Q : Bool → MI → Prop) : Prop := (a2 = false → Q a2 I) ∧ (a2 = true → K a0 = 13 ∧ ∃ b2 : Nat, R a0 15 = some b2 ∧ K b2 = 14 ∧ vp_in a1 (N b2) ∧ ∀ I5 : MI, I5 = mup I b2 (ix a1) (I a0 13) → Q a2 I5)
set_option maxHeartbeats 4000000 in
set_option maxRecDepth 100000 in
theorem c_X12_put  (l : Launch) (G : ZG) (a0 : Nat) (a1 : Int32) (a2 : Bool) (K : MK) (N : MK) (I : MI) (L : ML) (R : MR) (Q : Bool → MI → Prop) (h : w_X12_put a0 a1 a2 K N I L R Q) : Met l yX12_put (.code yX12_put cX12_put 3 (some .boolean) :: z_tbl) rm_X12_put (z_Pc G [.ref a0, .int a1, .int (bi a2)] K N I L R) (z_Qc G (qIz K N L R Q)) 0 0 (z_A G) := by
  refine z_met (by decide) (Nat.le_of_ble_eq_true rfl) (fun X hX hRm hC0 hnm => ?_)
  subst hX
  have hC : ZOk X G RX12 cX12_put 3 (some .boolean) := hC0
  show Z X G 3 0 0 _ K N I L R 0 [(0, .ref a0), (1, .int a1), (2, .int (bi a2))] []
  delta w_X12_put at h
  refine z_iload_n hC (q := 2) dX12_put_0 rfl rfl ?_
  refine z_ifz_eq hC (tgt := 14) dX12_put_1 (by decide) (fun hc => ?_) (fun hc => ?_)
  · have h := h.1 hc
    refine z_iload_n hC (q := 2) dX12_put_14 rfl rfl ?_
    exact z_zret (b := a2) hC dX12_put_15 rfl ⟨a2, rfl, rfl, rfl, rfl, rfl, h⟩
  · have h := h.2 hc
    refine z_aload_n hC (q := 0) dX12_put_4 rfl rfl ?_
    obtain ⟨hk1, h⟩ := h
    obtain ⟨b2, hb2, h⟩ := h
    refine gf_RX12_101 hC dX12_put_5 hk1 hb2 ?_
    refine z_iload_n hC (q := 1) dX12_put_8 rfl rfl ?_
    refine z_aload_n hC (q := 0) dX12_put_9 rfl rfl ?_
    refine gf_RX12_79 hC dX12_put_10 hk1 ?_
    obtain ⟨hk3, h⟩ := h
    obtain ⟨hi4, h⟩ := h
    refine z_iastore hC hk3 hi4 dX12_put_13 ?_
    refine z_genI (fun I5 eI5 => ?_)
    have h := h I5 eI5
    refine z_iload_n hC (q := 2) dX12_put_14 rfl rfl ?_
    exact z_zret (b := a2) hC dX12_put_15 rfl ⟨a2, rfl, rfl, rfl, rfl, rfl, h⟩
def w_X12_readTold  (a0 : Nat) (a1 : Int32) (a2 : Int32) (K : MK) (N : MK) (I : MI) (L : ML) (R : MR) (Q : Bool → MI → ML → Prop) : Prop := K a0 = 13 ∧ w_X12_isName a0 K N I L R (fun r2 => (r2 = true → ∃ b3 : Nat, R a0 21 = some b3 ∧ w_X12_findIn b3 a1 a2 (L a0 12) K N I L R (fun r4 => ∀ I5 : MI, I5 = mup I a0 13 r4 → (¬ (I5 a0 13) = (-1) → w_X12_go a0 K N I5 L R (fun I6 L7 => Q true I6 L7)) ∧ ((I5 a0 13) = (-1) → w_X12_bad a0 3 K N I5 L R (fun r8 I9 => Q r8 I9 L)))) ∧ (r2 = false → w_X12_bad a0 1 K N I L R (fun r10 I11 => Q r10 I11 L)))
set_option maxHeartbeats 4000000 in
set_option maxRecDepth 100000 in
theorem c_X12_readTold  (l : Launch) (G : ZG) (a0 : Nat) (a1 : Int32) (a2 : Int32) (K : MK) (N : MK) (I : MI) (L : ML) (R : MR) (Q : Bool → MI → ML → Prop) (h : w_X12_readTold a0 a1 a2 K N I L R Q) : Met l yX12_readTold (.code yX12_readTold cX12_readTold 3 (some .boolean) :: z_tbl) rm_X12_readTold (z_Pc G [.ref a0, .int a1, .int a2] K N I L R) (z_Qc G (qLz K N R Q)) 0 0 (z_A G) := by
  refine z_met (by decide) (Nat.le_of_ble_eq_true rfl) (fun X hX hRm hC0 hnm => ?_)
  subst hX
  have hC : ZOk X G RX12 cX12_readTold 3 (some .boolean) := hC0
  show Z X G 3 0 0 _ K N I L R 0 [(0, .ref a0), (1, .int a1), (2, .int a2)] []
  delta w_X12_readTold at h
  refine z_aload_n hC (q := 0) dX12_readTold_0 rfl rfl ?_
  obtain ⟨hk1, h⟩ := h
  refine cl_RX12_172 hC (c_X12_isName _ G a0 K N I L R _ h) hk1 dX12_readTold_1 (by rw [hRm]; exact ⟨Nat.le_of_ble_eq_true rfl, Nat.le_of_ble_eq_true rfl⟩) ⟨Nat.zero_le _, Nat.zero_le _⟩ (Nat.le_of_ble_eq_true rfl) (z_kPz (fun r2 h => ?_))
  refine z_ifz_ne hC (tgt := 13) dX12_readTold_4 (by decide) (fun hc => ?_) (fun hc => ?_)
  · have h := h.1 hc
    refine z_aload_n hC (q := 0) dX12_readTold_13 rfl rfl ?_
    refine z_aload_n hC (q := 0) dX12_readTold_14 rfl rfl ?_
    obtain ⟨b3, hb3, h⟩ := h
    refine gf_RX12_120 hC dX12_readTold_15 hk1 hb3 ?_
    refine z_iload_n hC (q := 1) dX12_readTold_18 rfl rfl ?_
    refine z_iload_n hC (q := 2) dX12_readTold_19 rfl rfl ?_
    refine z_aload_n hC (q := 0) dX12_readTold_20 rfl rfl ?_
    refine gf_RX12_43 hC dX12_readTold_21 hk1 ?_
    refine cl_RX12_176 hC (c_X12_findIn _ G b3 a1 a2 (L a0 12) K N I L R _ h) dX12_readTold_24 (by rw [hRm]; exact ⟨Nat.le_of_ble_eq_true rfl, Nat.le_of_ble_eq_true rfl⟩) ⟨Nat.zero_le _, Nat.zero_le _⟩ (Nat.le_of_ble_eq_true rfl) (z_kPi (fun r4 h => ?_))
    refine pf_RX12_79 hC dX12_readTold_27 hk1 ?_
    refine z_genI (fun I5 eI5 => ?_)
    have h := h I5 eI5
    refine z_aload_n hC (q := 0) dX12_readTold_30 rfl rfl ?_
    refine gf_RX12_79 hC dX12_readTold_31 hk1 ?_
    refine z_iconst hC (v := (-1)) k_iconst_m1 dX12_readTold_34 ?_
    refine z_icmp_ne hC (tgt := 44) dX12_readTold_35 (by decide) (fun hc => ?_) (fun hc => ?_)
    · have h := h.1 hc
      refine z_aload_n hC (q := 0) dX12_readTold_44 rfl rfl ?_
      refine cl_RX12_82 hC (c_X12_go _ G a0 K N I5 L R _ h) hk1 dX12_readTold_45 (by rw [hRm]; exact ⟨Nat.le_of_ble_eq_true rfl, Nat.le_of_ble_eq_true rfl⟩) ⟨Nat.zero_le _, Nat.zero_le _⟩ (Nat.le_of_ble_eq_true rfl) (z_kLv (I := I5) (L := L) (fun I6 L7 h => ?_))
      refine z_iconst hC (v := 1) k_iconst_1 dX12_readTold_48 ?_
      exact z_zret (b := true) hC dX12_readTold_49 rfl ⟨true, rfl, rfl, rfl, rfl, h⟩
    · have h := h.2 hc
      refine z_aload_n hC (q := 0) dX12_readTold_38 rfl rfl ?_
      refine z_iconst hC (v := 3) k_iconst_3 dX12_readTold_39 ?_
      refine cl_RX12_72 hC (c_X12_bad _ G a0 3 K N I5 L R _ h) hk1 dX12_readTold_40 (by rw [hRm]; exact ⟨Nat.le_of_ble_eq_true rfl, Nat.le_of_ble_eq_true rfl⟩) ⟨Nat.zero_le _, Nat.zero_le _⟩ (Nat.le_of_ble_eq_true rfl) (z_kIz (I := I5) (fun r8 I9 h => ?_))
      exact z_zret (b := r8) hC dX12_readTold_43 rfl ⟨r8, rfl, rfl, rfl, rfl, h⟩
  · have h := h.2 hc
    refine z_aload_n hC (q := 0) dX12_readTold_7 rfl rfl ?_
    refine z_iconst hC (v := 1) k_iconst_1 dX12_readTold_8 ?_
    refine cl_RX12_72 hC (c_X12_bad _ G a0 1 K N I L R _ h) hk1 dX12_readTold_9 (by rw [hRm]; exact ⟨Nat.le_of_ble_eq_true rfl, Nat.le_of_ble_eq_true rfl⟩) ⟨Nat.zero_le _, Nat.zero_le _⟩ (Nat.le_of_ble_eq_true rfl) (z_kIz (I := I) (fun r10 I11 h => ?_))
    exact z_zret (b := r10) hC dX12_readTold_12 rfl ⟨r10, rfl, rfl, rfl, rfl, h⟩
def w_X12_isNumber  (a0 : Nat) (a1 : Int32) (a2 : Int32) (K : MK) (N : MK) (I : MI) (L : ML) (R : MR) (Q : Bool → MI → Prop) : Prop := K a0 = 13 ∧ ((I a0 7) = 3 → w_X12_isIn (I a0 8) a1 a2 K N I L R (fun r2 => (r2 = true → Q true I) ∧ (r2 = false → w_X12_bad a0 2 K N I L R (fun r3 I4 => (r3 = false → Q false I4) ∧ (r3 = true → Q true I4))))) ∧ (¬ (I a0 7) = 3 → w_X12_bad a0 1 K N I L R (fun r5 I6 => Q r5 I6))
set_option maxHeartbeats 4000000 in
set_option maxRecDepth 100000 in
theorem c_X12_isNumber  (l : Launch) (G : ZG) (a0 : Nat) (a1 : Int32) (a2 : Int32) (K : MK) (N : MK) (I : MI) (L : ML) (R : MR) (Q : Bool → MI → Prop) (h : w_X12_isNumber a0 a1 a2 K N I L R Q) : Met l yX12_isNumber (.code yX12_isNumber cX12_isNumber 3 (some .boolean) :: z_tbl) rm_X12_isNumber (z_Pc G [.ref a0, .int a1, .int a2] K N I L R) (z_Qc G (qIz K N L R Q)) 0 0 (z_A G) := by
  refine z_met (by decide) (Nat.le_of_ble_eq_true rfl) (fun X hX hRm hC0 hnm => ?_)
  subst hX
  have hC : ZOk X G RX12 cX12_isNumber 3 (some .boolean) := hC0
  show Z X G 3 0 0 _ K N I L R 0 [(0, .ref a0), (1, .int a1), (2, .int a2)] []
  delta w_X12_isNumber at h
  refine z_aload_n hC (q := 0) dX12_isNumber_0 rfl rfl ?_
  obtain ⟨hk1, h⟩ := h
  refine gf_RX12_30 hC dX12_isNumber_1 hk1 ?_
  refine z_iconst hC (v := 3) k_iconst_3 dX12_isNumber_4 ?_
  refine z_icmp_eq hC (tgt := 14) dX12_isNumber_5 (by decide) (fun hc => ?_) (fun hc => ?_)
  · have h := h.1 hc
    refine z_aload_n hC (q := 0) dX12_isNumber_14 rfl rfl ?_
    refine gf_RX12_47 hC dX12_isNumber_15 hk1 ?_
    refine z_iload_n hC (q := 1) dX12_isNumber_18 rfl rfl ?_
    refine z_iload_n hC (q := 2) dX12_isNumber_19 rfl rfl ?_
    refine cl_RX12_75 hC (c_X12_isIn _ G (I a0 8) a1 a2 K N I L R _ h) dX12_isNumber_20 (by rw [hRm]; exact ⟨Nat.le_of_ble_eq_true rfl, Nat.le_of_ble_eq_true rfl⟩) ⟨Nat.zero_le _, Nat.zero_le _⟩ (Nat.le_of_ble_eq_true rfl) (z_kPz (fun r2 h => ?_))
    refine z_ifz_ne hC (tgt := 34) dX12_isNumber_23 (by decide) (fun hc => ?_) (fun hc => ?_)
    · have h := h.1 hc
      refine z_iconst hC (v := 1) k_iconst_1 dX12_isNumber_34 ?_
      refine z_goto hC (tgt := 39) dX12_isNumber_35 (by decide) ?_
      exact z_zret (b := true) hC dX12_isNumber_39 rfl ⟨true, rfl, rfl, rfl, rfl, rfl, h⟩
    · have h := h.2 hc
      refine z_aload_n hC (q := 0) dX12_isNumber_26 rfl rfl ?_
      refine z_iconst hC (v := 2) k_iconst_2 dX12_isNumber_27 ?_
      refine cl_RX12_72 hC (c_X12_bad _ G a0 2 K N I L R _ h) hk1 dX12_isNumber_28 (by rw [hRm]; exact ⟨Nat.le_of_ble_eq_true rfl, Nat.le_of_ble_eq_true rfl⟩) ⟨Nat.zero_le _, Nat.zero_le _⟩ (Nat.le_of_ble_eq_true rfl) (z_kIz (I := I) (fun r3 I4 h => ?_))
      refine z_ifz_eq hC (tgt := 38) dX12_isNumber_31 (by decide) (fun hc => ?_) (fun hc => ?_)
      · have h := h.1 hc
        refine z_iconst hC (v := 0) k_iconst_0 dX12_isNumber_38 ?_
        exact z_zret (b := false) hC dX12_isNumber_39 rfl ⟨false, rfl, rfl, rfl, rfl, rfl, h⟩
      · have h := h.2 hc
        refine z_iconst hC (v := 1) k_iconst_1 dX12_isNumber_34 ?_
        refine z_goto hC (tgt := 39) dX12_isNumber_35 (by decide) ?_
        exact z_zret (b := true) hC dX12_isNumber_39 rfl ⟨true, rfl, rfl, rfl, rfl, rfl, h⟩
  · have h := h.2 hc
    refine z_aload_n hC (q := 0) dX12_isNumber_8 rfl rfl ?_
    refine z_iconst hC (v := 1) k_iconst_1 dX12_isNumber_9 ?_
    refine cl_RX12_72 hC (c_X12_bad _ G a0 1 K N I L R _ h) hk1 dX12_isNumber_10 (by rw [hRm]; exact ⟨Nat.le_of_ble_eq_true rfl, Nat.le_of_ble_eq_true rfl⟩) ⟨Nat.zero_le _, Nat.zero_le _⟩ (Nat.le_of_ble_eq_true rfl) (z_kIz (I := I) (fun r5 I6 h => ?_))
    exact z_zret (b := r5) hC dX12_isNumber_13 rfl ⟨r5, rfl, rfl, rfl, rfl, rfl, h⟩
def w_X12_readRow_123  (x0 : Nat) (x1 : Int32) (x2 : Int32) (x3 : Int32)  (K : MK) (N : MK) (I : MI) (L : ML) (R : MR)  (Q : Bool → MI → ML → Prop) : Prop := ∃ J : Nat → Nat → Int32 → Int32 → Int32 → MI → ML → Prop, (∃ n, J n x0 x1 x2 x3 I L) ∧ ∀ (n : Nat) (x0 : Nat) (x1 : Int32) (x2 : Int32) (x3 : Int32) (I : MI) (L : ML), J n x0 x1 x2 x3 I L → (x3 ≤ x1 → K x0 = 13 ∧ ∃ b30 : Nat, R x0 15 = some b30 ∧ K b30 = 14 ∧ vp_in ((6 : Int32) + x1) (N b30) ∧ ∀ I33 : MI, I33 = mup I b30 (ix ((6 : Int32) + x1)) x2 → vp_in ((36 : Int32) + x1) (N b30) ∧ ∀ I35 : MI, I35 = mup I33 b30 (ix ((36 : Int32) + x1)) (I33 x0 13) → vp_in 1 (N b30) ∧ ∀ I37 : MI, I37 = mup I35 b30 (ix 1) ((I35 b30 (ix 1)) + 1) → Q true I37 L) ∧ (¬ x3 ≤ x1 → K x0 = 13 ∧ ∃ b39 : Nat, R x0 15 = some b39 ∧ K b39 = 14 ∧ vp_in (((6 : Int32) + x3) - 1) (N b39) ∧ vp_in ((6 : Int32) + x3) (N b39) ∧ ∀ I43 : MI, I43 = mup I b39 (ix ((6 : Int32) + x3)) (I b39 (ix (((6 : Int32) + x3) - 1))) → vp_in (((36 : Int32) + x3) - 1) (N b39) ∧ vp_in ((36 : Int32) + x3) (N b39) ∧ ∀ I46 : MI, I46 = mup I43 b39 (ix ((36 : Int32) + x3)) (I43 b39 (ix (((36 : Int32) + x3) - 1))) → ∀ v47 : Int32, v47 = x3 + (-1) → ∃ n1, n1 < n ∧ J n1 x0 x1 x2 v47 I46 L)
def w_X12_readRow_94  (x0 : Nat) (x1 : Int32)  (K : MK) (N : MK) (I : MI) (L : ML) (R : MR)  (Q : Bool → MI → ML → Prop) : Prop := K x0 = 13 ∧ ∀ v19 : Int32, v19 = (I x0 8) → w_X12_go x0 K N I L R (fun I20 L21 => w_X12_readNumber x0 1 250 K N I20 L21 R (fun r22 I23 L24 => (r22 = true → ∃ b25 : Nat, R x0 15 = some b25 ∧ K b25 = 14 ∧ vp_in 1 (N b25) ∧ ∀ v28 : Int32, v28 = (I23 b25 (ix 1)) → w_X12_readRow_123 x0 x1 v19 v28 K N I23 L24 R Q) ∧ (r22 = false → Q false I23 L24)))
def w_X12_readRow_62  (x0 : Nat) (x1 : Int32)  (K : MK) (N : MK) (I : MI) (L : ML) (R : MR)  (Q : Bool → MI → ML → Prop) : Prop := K x0 = 13 ∧ ∃ b15 : Nat, R x0 15 = some b15 ∧ K b15 = 14 ∧ vp_in 1 (N b15) ∧ ((I b15 (ix 1)) ≤ x1 → w_X12_readRow_94 x0 x1 K N I L R Q) ∧ (¬ (I b15 (ix 1)) ≤ x1 → vp_in ((6 : Int32) + x1) (N b15) ∧ (¬ (I b15 (ix ((6 : Int32) + x1))) = (I x0 8) → w_X12_readRow_94 x0 x1 K N I L R Q) ∧ ((I b15 (ix ((6 : Int32) + x1))) = (I x0 8) → w_X12_bad x0 3 K N I L R (fun r49 I50 => Q r49 I50 L)))
def w_X12_readRow_30  (x0 : Nat) (x1 : Int32)  (K : MK) (N : MK) (I : MI) (L : ML) (R : MR)  (Q : Bool → MI → ML → Prop) : Prop := ∃ J : Nat → Nat → Int32 → MI → ML → Prop, (∃ n, J n x0 x1 I L) ∧ ∀ (n : Nat) (x0 : Nat) (x1 : Int32) (I : MI) (L : ML), J n x0 x1 I L → K x0 = 13 ∧ ∃ b11 : Nat, R x0 15 = some b11 ∧ K b11 = 14 ∧ vp_in 1 (N b11) ∧ ((I b11 (ix 1)) ≤ x1 → w_X12_readRow_62 x0 x1 K N I L R Q) ∧ (¬ (I b11 (ix 1)) ≤ x1 → vp_in ((6 : Int32) + x1) (N b11) ∧ ((I x0 8) ≤ (I b11 (ix ((6 : Int32) + x1))) → w_X12_readRow_62 x0 x1 K N I L R Q) ∧ (¬ (I x0 8) ≤ (I b11 (ix ((6 : Int32) + x1))) → ∀ v52 : Int32, v52 = x1 + 1 → ∃ n1, n1 < n ∧ J n1 x0 v52 I L))
def w_X12_readRow  (a0 : Nat) (K : MK) (N : MK) (I : MI) (L : ML) (R : MR) (Q : Bool → MI → ML → Prop) : Prop := K a0 = 13 ∧ w_X12_readFirst a0 1 30 K N I L R (fun r2 I3 L4 => (r2 = false → Q false I3 L4) ∧ (r2 = true → ∃ b5 : Nat, R a0 15 = some b5 ∧ K b5 = 14 ∧ vp_in 0 (N b5) ∧ w_X12_isNumber a0 0 ((I3 b5 (ix 0)) - 1) K N I3 L4 R (fun r8 I9 => (r8 = true → w_X12_readRow_30 a0 0 K N I9 L4 R Q) ∧ (r8 = false → Q false I9 L4))))
set_option maxHeartbeats 4000000 in
set_option maxRecDepth 100000 in
theorem z_X12_readRow_123 {X : ZX} {G : ZG}  {x0 : Nat} {x1 : Int32} {x2 : Int32} {x3 : Int32}  {K : MK} {N : MK} {I : MI} {L : ML} {R : MR}  {Q : Bool → MI → ML → Prop} (hC : ZOk X G RX12 cX12_readRow 4 (some .boolean)) (hRm : X.2.2.2.1 = rm_X12_readRow) (h : w_X12_readRow_123 x0 x1 x2 x3 K N I L R  Q) : Z X G 4 0 0 (z_T X G (qLz K N R Q) 0 0) K N I L R 123 [(0, .ref x0), (1, .int x1), (2, .int x2), (3, .int x3)] [] := by
  delta w_X12_readRow_123 at h
  obtain ⟨J, ⟨n, h0⟩, hs⟩ := h
  have key : ∀ (n : Nat) (x0 : Nat) (x1 : Int32) (x2 : Int32) (x3 : Int32) (I : MI) (L : ML), J n x0 x1 x2 x3 I L → Z X G 4 0 0 (z_T X G (qLz K N R Q) 0 0) K N I L R 123 [(0, .ref x0), (1, .int x1), (2, .int x2), (3, .int x3)] [] := by
    intro n
    induction n using Nat.strongRecOn with
    | _ n ih =>
      intro x0 x1 x2 x3 I L hJ
      have hC123 : ∀ (y0 : Nat) (y1 : Int32) (y2 : Int32) (y3 : Int32) (zI : MI) (zL : ML), (∃ n1, n1 < n ∧ J n1 y0 y1 y2 y3 zI zL) → Z X G 4 0 0 (z_T X G (qLz K N R Q) 0 0) K N zI zL R 123 [(0, .ref y0), (1, .int y1), (2, .int y2), (3, .int y3)] [] := fun y0 y1 y2 y3 zI zL ⟨n1, hn1, hj⟩ => ih n1 hn1 y0 y1 y2 y3 zI zL hj
      have h := hs n x0 x1 x2 x3 I L hJ
      refine z_iload_n hC (q := 3) dX12_readRow_123 rfl rfl ?_
      refine z_iload_n hC (q := 1) dX12_readRow_124 rfl rfl ?_
      refine z_icmp_le hC (tgt := 174) dX12_readRow_125 (by decide) (fun hc => ?_) (fun hc => ?_)
      · have h := h.1 hc
        refine z_aload_n hC (q := 0) dX12_readRow_174 rfl rfl ?_
        obtain ⟨hk29, h⟩ := h
        obtain ⟨b30, hb30, h⟩ := h
        refine gf_RX12_101 hC dX12_readRow_175 hk29 hb30 ?_
        refine z_bipush hC (v := 6) k_bipush_6 dX12_readRow_178 ?_
        refine z_iload_n hC (q := 1) dX12_readRow_180 rfl rfl ?_
        refine z_iadd hC dX12_readRow_181 ?_
        refine z_iload_n hC (q := 2) dX12_readRow_182 rfl rfl ?_
        obtain ⟨hk31, h⟩ := h
        obtain ⟨hi32, h⟩ := h
        refine z_iastore hC hk31 hi32 dX12_readRow_183 ?_
        refine z_genI (fun I33 eI33 => ?_)
        have h := h I33 eI33
        refine z_aload_n hC (q := 0) dX12_readRow_184 rfl rfl ?_
        refine gf_RX12_101 hC dX12_readRow_185 hk29 hb30 ?_
        refine z_bipush hC (v := 36) k_bipush_36 dX12_readRow_188 ?_
        refine z_iload_n hC (q := 1) dX12_readRow_190 rfl rfl ?_
        refine z_iadd hC dX12_readRow_191 ?_
        refine z_aload_n hC (q := 0) dX12_readRow_192 rfl rfl ?_
        refine gf_RX12_79 hC dX12_readRow_193 hk29 ?_
        obtain ⟨hi34, h⟩ := h
        refine z_iastore hC hk31 hi34 dX12_readRow_196 ?_
        refine z_genI (fun I35 eI35 => ?_)
        have h := h I35 eI35
        refine z_aload_n hC (q := 0) dX12_readRow_197 rfl rfl ?_
        refine gf_RX12_101 hC dX12_readRow_198 hk29 hb30 ?_
        refine z_iconst hC (v := 1) k_iconst_1 dX12_readRow_201 ?_
        refine z_dup2 hC rfl rfl dX12_readRow_202 ?_
        obtain ⟨hi36, h⟩ := h
        refine z_iaload hC hk31 hi36 dX12_readRow_203 ?_
        refine z_iconst hC (v := 1) k_iconst_1 dX12_readRow_204 ?_
        refine z_iadd hC dX12_readRow_205 ?_
        refine z_iastore hC hk31 hi36 dX12_readRow_206 ?_
        refine z_genI (fun I37 eI37 => ?_)
        have h := h I37 eI37
        refine z_iconst hC (v := 1) k_iconst_1 dX12_readRow_207 ?_
        exact z_zret (b := true) hC dX12_readRow_208 rfl ⟨true, rfl, rfl, rfl, rfl, h⟩
      · have h := h.2 hc
        refine z_aload_n hC (q := 0) dX12_readRow_128 rfl rfl ?_
        obtain ⟨hk38, h⟩ := h
        obtain ⟨b39, hb39, h⟩ := h
        refine gf_RX12_101 hC dX12_readRow_129 hk38 hb39 ?_
        refine z_bipush hC (v := 6) k_bipush_6 dX12_readRow_132 ?_
        refine z_iload_n hC (q := 3) dX12_readRow_134 rfl rfl ?_
        refine z_iadd hC dX12_readRow_135 ?_
        refine z_aload_n hC (q := 0) dX12_readRow_136 rfl rfl ?_
        refine gf_RX12_101 hC dX12_readRow_137 hk38 hb39 ?_
        refine z_bipush hC (v := 6) k_bipush_6 dX12_readRow_140 ?_
        refine z_iload_n hC (q := 3) dX12_readRow_142 rfl rfl ?_
        refine z_iadd hC dX12_readRow_143 ?_
        refine z_iconst hC (v := 1) k_iconst_1 dX12_readRow_144 ?_
        refine z_isub hC dX12_readRow_145 ?_
        obtain ⟨hk40, h⟩ := h
        obtain ⟨hi41, h⟩ := h
        refine z_iaload hC hk40 hi41 dX12_readRow_146 ?_
        obtain ⟨hi42, h⟩ := h
        refine z_iastore hC hk40 hi42 dX12_readRow_147 ?_
        refine z_genI (fun I43 eI43 => ?_)
        have h := h I43 eI43
        refine z_aload_n hC (q := 0) dX12_readRow_148 rfl rfl ?_
        refine gf_RX12_101 hC dX12_readRow_149 hk38 hb39 ?_
        refine z_bipush hC (v := 36) k_bipush_36 dX12_readRow_152 ?_
        refine z_iload_n hC (q := 3) dX12_readRow_154 rfl rfl ?_
        refine z_iadd hC dX12_readRow_155 ?_
        refine z_aload_n hC (q := 0) dX12_readRow_156 rfl rfl ?_
        refine gf_RX12_101 hC dX12_readRow_157 hk38 hb39 ?_
        refine z_bipush hC (v := 36) k_bipush_36 dX12_readRow_160 ?_
        refine z_iload_n hC (q := 3) dX12_readRow_162 rfl rfl ?_
        refine z_iadd hC dX12_readRow_163 ?_
        refine z_iconst hC (v := 1) k_iconst_1 dX12_readRow_164 ?_
        refine z_isub hC dX12_readRow_165 ?_
        obtain ⟨hi44, h⟩ := h
        refine z_iaload hC hk40 hi44 dX12_readRow_166 ?_
        obtain ⟨hi45, h⟩ := h
        refine z_iastore hC hk40 hi45 dX12_readRow_167 ?_
        refine z_genI (fun I46 eI46 => ?_)
        have h := h I46 eI46
        obtain ⟨v47, ev47⟩ : ∃ y : Int32, y = x3 + (-1) := ⟨_, rfl⟩
        have h := h v47 ev47
        refine z_iinc hC (q := 3) (v := v47) (lv1 := [(3, .int v47), (0, .ref x0), (1, .int x1), (2, .int x2)]) dX12_readRow_168 rfl (by rw [ev47, k_iinc_m1]) (by decide) rfl ?_
        refine z_goto hC (tgt := 123) dX12_readRow_171 (by decide) ?_
        exact z_sub [(0, .ref x0), (1, .int x1), (2, .int x2), (3, .int v47)] [1, 2, 3, 0] rfl (hC123 _ _ _ _ _ _ h)
  exact key n x0 x1 x2 x3 I L h0
set_option maxHeartbeats 4000000 in
set_option maxRecDepth 100000 in
theorem z_X12_readRow_94 {X : ZX} {G : ZG}  {x0 : Nat} {x1 : Int32}  {K : MK} {N : MK} {I : MI} {L : ML} {R : MR}  {Q : Bool → MI → ML → Prop} (hC : ZOk X G RX12 cX12_readRow 4 (some .boolean)) (hRm : X.2.2.2.1 = rm_X12_readRow) (h : w_X12_readRow_94 x0 x1 K N I L R  Q) : Z X G 4 0 0 (z_T X G (qLz K N R Q) 0 0) K N I L R 94 [(0, .ref x0), (1, .int x1)] [] := by
  delta w_X12_readRow_94 at h
  refine z_aload_n hC (q := 0) dX12_readRow_94 rfl rfl ?_
  obtain ⟨hk18, h⟩ := h
  refine gf_RX12_47 hC dX12_readRow_95 hk18 ?_
  refine z_topi (fun v19 ev19 => ?_)
  have h := h v19 ev19
  refine z_istore_n hC (lv1 := [(2, .int v19), (0, .ref x0), (1, .int x1)]) dX12_readRow_98 rfl (by decide) rfl ?_
  refine z_aload_n hC (q := 1) dX12_readRow_99 rfl rfl ?_
  refine cl_RX12_82 hC (c_X12_go _ G x0 K N I L R _ h) hk18 dX12_readRow_100 (by rw [hRm]; exact ⟨Nat.le_of_ble_eq_true rfl, Nat.le_of_ble_eq_true rfl⟩) ⟨Nat.zero_le _, Nat.zero_le _⟩ (Nat.le_of_ble_eq_true rfl) (z_kLv (I := I) (L := L) (fun I20 L21 h => ?_))
  refine z_aload_n hC (q := 1) dX12_readRow_103 rfl rfl ?_
  refine z_iconst hC (v := 1) k_iconst_1 dX12_readRow_104 ?_
  refine z_sipush hC (v := 250) k_sipush_250 dX12_readRow_105 ?_
  refine cl_RX12_187 hC (c_X12_readNumber _ G x0 1 250 K N I20 L21 R _ h) hk18 dX12_readRow_108 (by rw [hRm]; exact ⟨Nat.le_of_ble_eq_true rfl, Nat.le_of_ble_eq_true rfl⟩) ⟨Nat.zero_le _, Nat.zero_le _⟩ (Nat.le_of_ble_eq_true rfl) (z_kLz (I := I20) (L := L21) (fun r22 I23 L24 h => ?_))
  refine z_ifz_ne hC (tgt := 116) dX12_readRow_111 (by decide) (fun hc => ?_) (fun hc => ?_)
  · have h := h.1 hc
    refine z_aload_n hC (q := 1) dX12_readRow_116 rfl rfl ?_
    obtain ⟨b25, hb25, h⟩ := h
    refine gf_RX12_101 hC dX12_readRow_117 hk18 hb25 ?_
    refine z_iconst hC (v := 1) k_iconst_1 dX12_readRow_120 ?_
    obtain ⟨hk26, h⟩ := h
    obtain ⟨hi27, h⟩ := h
    refine z_iaload hC hk26 hi27 dX12_readRow_121 ?_
    refine z_topi (fun v28 ev28 => ?_)
    have h := h v28 ev28
    refine z_istore_n hC (lv1 := [(3, .int v28), (2, .int v19), (0, .ref x0), (1, .int x1)]) dX12_readRow_122 rfl (by decide) rfl ?_
    exact z_sub [(0, .ref x0), (1, .int x1), (2, .int v19), (3, .int v28)] [2, 3, 1, 0] rfl (z_X12_readRow_123 hC hRm h)
  · have h := h.2 hc
    refine z_iconst hC (v := 0) k_iconst_0 dX12_readRow_114 ?_
    exact z_zret (b := false) hC dX12_readRow_115 rfl ⟨false, rfl, rfl, rfl, rfl, h⟩
set_option maxHeartbeats 4000000 in
set_option maxRecDepth 100000 in
theorem z_X12_readRow_62 {X : ZX} {G : ZG}  {x0 : Nat} {x1 : Int32}  {K : MK} {N : MK} {I : MI} {L : ML} {R : MR}  {Q : Bool → MI → ML → Prop} (hC : ZOk X G RX12 cX12_readRow 4 (some .boolean)) (hRm : X.2.2.2.1 = rm_X12_readRow) (h : w_X12_readRow_62 x0 x1 K N I L R  Q) : Z X G 4 0 0 (z_T X G (qLz K N R Q) 0 0) K N I L R 62 [(0, .ref x0), (1, .int x1)] [] := by
  delta w_X12_readRow_62 at h
  refine z_iload_n hC (q := 1) dX12_readRow_62 rfl rfl ?_
  refine z_aload_n hC (q := 0) dX12_readRow_63 rfl rfl ?_
  obtain ⟨hk14, h⟩ := h
  obtain ⟨b15, hb15, h⟩ := h
  refine gf_RX12_101 hC dX12_readRow_64 hk14 hb15 ?_
  refine z_iconst hC (v := 1) k_iconst_1 dX12_readRow_67 ?_
  obtain ⟨hk16, h⟩ := h
  obtain ⟨hi17, h⟩ := h
  refine z_iaload hC hk16 hi17 dX12_readRow_68 ?_
  refine z_icmp_ge hC (tgt := 94) dX12_readRow_69 (by decide) (fun hc => ?_) (fun hc => ?_)
  · have h := h.1 hc
    exact z_sub [(0, .ref x0), (1, .int x1)] [0, 1] rfl (z_X12_readRow_94 hC hRm h)
  · have h := h.2 hc
    refine z_aload_n hC (q := 0) dX12_readRow_72 rfl rfl ?_
    refine gf_RX12_101 hC dX12_readRow_73 hk14 hb15 ?_
    refine z_bipush hC (v := 6) k_bipush_6 dX12_readRow_76 ?_
    refine z_iload_n hC (q := 1) dX12_readRow_78 rfl rfl ?_
    refine z_iadd hC dX12_readRow_79 ?_
    obtain ⟨hi48, h⟩ := h
    refine z_iaload hC hk16 hi48 dX12_readRow_80 ?_
    refine z_aload_n hC (q := 0) dX12_readRow_81 rfl rfl ?_
    refine gf_RX12_47 hC dX12_readRow_82 hk14 ?_
    refine z_icmp_ne hC (tgt := 94) dX12_readRow_85 (by decide) (fun hc => ?_) (fun hc => ?_)
    · have h := h.1 hc
      exact z_sub [(0, .ref x0), (1, .int x1)] [0, 1] rfl (z_X12_readRow_94 hC hRm h)
    · have h := h.2 hc
      refine z_aload_n hC (q := 0) dX12_readRow_88 rfl rfl ?_
      refine z_iconst hC (v := 3) k_iconst_3 dX12_readRow_89 ?_
      refine cl_RX12_72 hC (c_X12_bad _ G x0 3 K N I L R _ h) hk14 dX12_readRow_90 (by rw [hRm]; exact ⟨Nat.le_of_ble_eq_true rfl, Nat.le_of_ble_eq_true rfl⟩) ⟨Nat.zero_le _, Nat.zero_le _⟩ (Nat.le_of_ble_eq_true rfl) (z_kIz (I := I) (fun r49 I50 h => ?_))
      exact z_zret (b := r49) hC dX12_readRow_93 rfl ⟨r49, rfl, rfl, rfl, rfl, h⟩
set_option maxHeartbeats 4000000 in
set_option maxRecDepth 100000 in
theorem z_X12_readRow_30 {X : ZX} {G : ZG}  {x0 : Nat} {x1 : Int32}  {K : MK} {N : MK} {I : MI} {L : ML} {R : MR}  {Q : Bool → MI → ML → Prop} (hC : ZOk X G RX12 cX12_readRow 4 (some .boolean)) (hRm : X.2.2.2.1 = rm_X12_readRow) (h : w_X12_readRow_30 x0 x1 K N I L R  Q) : Z X G 4 0 0 (z_T X G (qLz K N R Q) 0 0) K N I L R 30 [(0, .ref x0), (1, .int x1)] [] := by
  delta w_X12_readRow_30 at h
  obtain ⟨J, ⟨n, h0⟩, hs⟩ := h
  have key : ∀ (n : Nat) (x0 : Nat) (x1 : Int32) (I : MI) (L : ML), J n x0 x1 I L → Z X G 4 0 0 (z_T X G (qLz K N R Q) 0 0) K N I L R 30 [(0, .ref x0), (1, .int x1)] [] := by
    intro n
    induction n using Nat.strongRecOn with
    | _ n ih =>
      intro x0 x1 I L hJ
      have hC30 : ∀ (y0 : Nat) (y1 : Int32) (zI : MI) (zL : ML), (∃ n1, n1 < n ∧ J n1 y0 y1 zI zL) → Z X G 4 0 0 (z_T X G (qLz K N R Q) 0 0) K N zI zL R 30 [(0, .ref y0), (1, .int y1)] [] := fun y0 y1 zI zL ⟨n1, hn1, hj⟩ => ih n1 hn1 y0 y1 zI zL hj
      have h := hs n x0 x1 I L hJ
      refine z_iload_n hC (q := 1) dX12_readRow_30 rfl rfl ?_
      refine z_aload_n hC (q := 0) dX12_readRow_31 rfl rfl ?_
      obtain ⟨hk10, h⟩ := h
      obtain ⟨b11, hb11, h⟩ := h
      refine gf_RX12_101 hC dX12_readRow_32 hk10 hb11 ?_
      refine z_iconst hC (v := 1) k_iconst_1 dX12_readRow_35 ?_
      obtain ⟨hk12, h⟩ := h
      obtain ⟨hi13, h⟩ := h
      refine z_iaload hC hk12 hi13 dX12_readRow_36 ?_
      refine z_icmp_ge hC (tgt := 62) dX12_readRow_37 (by decide) (fun hc => ?_) (fun hc => ?_)
      · have h := h.1 hc
        exact z_sub [(0, .ref x0), (1, .int x1)] [0, 1] rfl (z_X12_readRow_62 hC hRm h)
      · have h := h.2 hc
        refine z_aload_n hC (q := 0) dX12_readRow_40 rfl rfl ?_
        refine gf_RX12_101 hC dX12_readRow_41 hk10 hb11 ?_
        refine z_bipush hC (v := 6) k_bipush_6 dX12_readRow_44 ?_
        refine z_iload_n hC (q := 1) dX12_readRow_46 rfl rfl ?_
        refine z_iadd hC dX12_readRow_47 ?_
        obtain ⟨hi51, h⟩ := h
        refine z_iaload hC hk12 hi51 dX12_readRow_48 ?_
        refine z_aload_n hC (q := 0) dX12_readRow_49 rfl rfl ?_
        refine gf_RX12_47 hC dX12_readRow_50 hk10 ?_
        refine z_icmp_ge hC (tgt := 62) dX12_readRow_53 (by decide) (fun hc => ?_) (fun hc => ?_)
        · have h := h.1 hc
          exact z_sub [(0, .ref x0), (1, .int x1)] [0, 1] rfl (z_X12_readRow_62 hC hRm h)
        · have h := h.2 hc
          obtain ⟨v52, ev52⟩ : ∃ y : Int32, y = x1 + 1 := ⟨_, rfl⟩
          have h := h v52 ev52
          refine z_iinc hC (q := 1) (v := v52) (lv1 := [(1, .int v52), (0, .ref x0)]) dX12_readRow_56 rfl (by rw [ev52, k_iinc_1]) (by decide) rfl ?_
          refine z_goto hC (tgt := 30) dX12_readRow_59 (by decide) ?_
          exact z_sub [(0, .ref x0), (1, .int v52)] [1, 0] rfl (hC30 _ _ _ _ h)
  exact key n x0 x1 I L h0
set_option maxHeartbeats 4000000 in
set_option maxRecDepth 100000 in
theorem c_X12_readRow  (l : Launch) (G : ZG) (a0 : Nat) (K : MK) (N : MK) (I : MI) (L : ML) (R : MR) (Q : Bool → MI → ML → Prop) (h : w_X12_readRow a0 K N I L R Q) : Met l yX12_readRow (.code yX12_readRow cX12_readRow 4 (some .boolean) :: z_tbl) rm_X12_readRow (z_Pc G [.ref a0] K N I L R) (z_Qc G (qLz K N R Q)) 0 0 (z_A G) := by
  refine z_met (by decide) (Nat.le_of_ble_eq_true rfl) (fun X hX hRm hC0 hnm => ?_)
  subst hX
  have hC : ZOk X G RX12 cX12_readRow 4 (some .boolean) := hC0
  show Z X G 4 0 0 _ K N I L R 0 [(0, .ref a0)] []
  delta w_X12_readRow at h
  refine z_aload_n hC (q := 0) dX12_readRow_0 rfl rfl ?_
  refine z_iconst hC (v := 1) k_iconst_1 dX12_readRow_1 ?_
  refine z_bipush hC (v := 30) k_bipush_30 dX12_readRow_2 ?_
  obtain ⟨hk1, h⟩ := h
  refine cl_RX12_180 hC (c_X12_readFirst _ G a0 1 30 K N I L R _ h) hk1 dX12_readRow_4 (by rw [hRm]; exact ⟨Nat.le_of_ble_eq_true rfl, Nat.le_of_ble_eq_true rfl⟩) ⟨Nat.zero_le _, Nat.zero_le _⟩ (Nat.le_of_ble_eq_true rfl) (z_kLz (I := I) (L := L) (fun r2 I3 L4 h => ?_))
  refine z_ifz_eq hC (tgt := 26) dX12_readRow_7 (by decide) (fun hc => ?_) (fun hc => ?_)
  · have h := h.1 hc
    refine z_iconst hC (v := 0) k_iconst_0 dX12_readRow_26 ?_
    exact z_zret (b := false) hC dX12_readRow_27 rfl ⟨false, rfl, rfl, rfl, rfl, h⟩
  · have h := h.2 hc
    refine z_aload_n hC (q := 0) dX12_readRow_10 rfl rfl ?_
    refine z_iconst hC (v := 0) k_iconst_0 dX12_readRow_11 ?_
    refine z_aload_n hC (q := 0) dX12_readRow_12 rfl rfl ?_
    obtain ⟨b5, hb5, h⟩ := h
    refine gf_RX12_101 hC dX12_readRow_13 hk1 hb5 ?_
    refine z_iconst hC (v := 0) k_iconst_0 dX12_readRow_16 ?_
    obtain ⟨hk6, h⟩ := h
    obtain ⟨hi7, h⟩ := h
    refine z_iaload hC hk6 hi7 dX12_readRow_17 ?_
    refine z_iconst hC (v := 1) k_iconst_1 dX12_readRow_18 ?_
    refine z_isub hC dX12_readRow_19 ?_
    refine cl_RX12_184 hC (c_X12_isNumber _ G a0 0 ((I3 b5 (ix 0)) - 1) K N I3 L4 R _ h) hk1 dX12_readRow_20 (by rw [hRm]; exact ⟨Nat.le_of_ble_eq_true rfl, Nat.le_of_ble_eq_true rfl⟩) ⟨Nat.zero_le _, Nat.zero_le _⟩ (Nat.le_of_ble_eq_true rfl) (z_kIz (I := I3) (fun r8 I9 h => ?_))
    refine z_ifz_ne hC (tgt := 28) dX12_readRow_23 (by decide) (fun hc => ?_) (fun hc => ?_)
    · have h := h.1 hc
      refine z_iconst hC (v := 0) k_iconst_0 dX12_readRow_28 ?_
      refine z_istore_n hC (lv1 := [(1, .int 0), (0, .ref a0)]) dX12_readRow_29 rfl (by decide) rfl ?_
      exact z_sub [(0, .ref a0), (1, .int 0)] [1, 0] rfl (z_X12_readRow_30 hC hRm h)
    · have h := h.2 hc
      refine z_iconst hC (v := 0) k_iconst_0 dX12_readRow_26 ?_
      exact z_zret (b := false) hC dX12_readRow_27 rfl ⟨false, rfl, rfl, rfl, rfl, h⟩
def w_X12_isWithin  (a0 : Int32) (a1 : Int32) (a2 : Int32) (a3 : Int32) (K : MK) (N : MK) (I : MI) (L : ML) (R : MR) (Q : Bool → Prop) : Prop := (a0 < a2 → Q false) ∧ (¬ a0 < a2 → (a3 < a1 → Q false) ∧ (¬ a3 < a1 → Q true))
set_option maxHeartbeats 4000000 in
set_option maxRecDepth 100000 in
theorem c_X12_isWithin  (l : Launch) (G : ZG) (a0 : Int32) (a1 : Int32) (a2 : Int32) (a3 : Int32) (K : MK) (N : MK) (I : MI) (L : ML) (R : MR) (Q : Bool → Prop) (h : w_X12_isWithin a0 a1 a2 a3 K N I L R Q) : Met l yX12_isWithin (.code yX12_isWithin cX12_isWithin 4 (some .boolean) :: z_tbl) rm_X12_isWithin (z_Pc G [.int a0, .int a1, .int a2, .int a3] K N I L R) (z_Qc G (qPz K N I L R Q)) 0 0 (z_A G) := by
  refine z_met (by decide) (Nat.le_of_ble_eq_true rfl) (fun X hX hRm hC0 hnm => ?_)
  subst hX
  have hC : ZOk X G RX12 cX12_isWithin 4 (some .boolean) := hC0
  show Z X G 4 0 0 _ K N I L R 0 [(0, .int a0), (1, .int a1), (2, .int a2), (3, .int a3)] []
  delta w_X12_isWithin at h
  refine z_iload_n hC (q := 0) dX12_isWithin_0 rfl rfl ?_
  refine z_iload_n hC (q := 2) dX12_isWithin_1 rfl rfl ?_
  refine z_icmp_lt hC (tgt := 14) dX12_isWithin_2 (by decide) (fun hc => ?_) (fun hc => ?_)
  · have h := h.1 hc
    refine z_iconst hC (v := 0) k_iconst_0 dX12_isWithin_14 ?_
    exact z_zret (b := false) hC dX12_isWithin_15 rfl ⟨false, rfl, rfl, rfl, rfl, rfl, rfl, h⟩
  · have h := h.2 hc
    refine z_iload_n hC (q := 1) dX12_isWithin_5 rfl rfl ?_
    refine z_iload_n hC (q := 3) dX12_isWithin_6 rfl rfl ?_
    refine z_icmp_gt hC (tgt := 14) dX12_isWithin_7 (by decide) (fun hc => ?_) (fun hc => ?_)
    · have h := h.1 hc
      refine z_iconst hC (v := 0) k_iconst_0 dX12_isWithin_14 ?_
      exact z_zret (b := false) hC dX12_isWithin_15 rfl ⟨false, rfl, rfl, rfl, rfl, rfl, rfl, h⟩
    · have h := h.2 hc
      refine z_iconst hC (v := 1) k_iconst_1 dX12_isWithin_10 ?_
      refine z_goto hC (tgt := 15) dX12_isWithin_11 (by decide) ?_
      exact z_zret (b := true) hC dX12_isWithin_15 rfl ⟨true, rfl, rfl, rfl, rfl, rfl, rfl, h⟩
def w_X12_areApart  (a0 : Int32) (a1 : Int32) (a2 : Int32) (a3 : Int32) (K : MK) (N : MK) (I : MI) (L : ML) (R : MR) (Q : Bool → Prop) : Prop := (a1 ≤ a2 → Q true) ∧ (¬ a1 ≤ a2 → (a0 < a3 → Q false) ∧ (¬ a0 < a3 → Q true))
set_option maxHeartbeats 4000000 in
set_option maxRecDepth 100000 in
theorem c_X12_areApart  (l : Launch) (G : ZG) (a0 : Int32) (a1 : Int32) (a2 : Int32) (a3 : Int32) (K : MK) (N : MK) (I : MI) (L : ML) (R : MR) (Q : Bool → Prop) (h : w_X12_areApart a0 a1 a2 a3 K N I L R Q) : Met l yX12_areApart (.code yX12_areApart cX12_areApart 4 (some .boolean) :: z_tbl) rm_X12_areApart (z_Pc G [.int a0, .int a1, .int a2, .int a3] K N I L R) (z_Qc G (qPz K N I L R Q)) 0 0 (z_A G) := by
  refine z_met (by decide) (Nat.le_of_ble_eq_true rfl) (fun X hX hRm hC0 hnm => ?_)
  subst hX
  have hC : ZOk X G RX12 cX12_areApart 4 (some .boolean) := hC0
  show Z X G 4 0 0 _ K N I L R 0 [(0, .int a0), (1, .int a1), (2, .int a2), (3, .int a3)] []
  delta w_X12_areApart at h
  refine z_iload_n hC (q := 1) dX12_areApart_0 rfl rfl ?_
  refine z_iload_n hC (q := 2) dX12_areApart_1 rfl rfl ?_
  refine z_icmp_le hC (tgt := 10) dX12_areApart_2 (by decide) (fun hc => ?_) (fun hc => ?_)
  · have h := h.1 hc
    refine z_iconst hC (v := 1) k_iconst_1 dX12_areApart_10 ?_
    refine z_goto hC (tgt := 15) dX12_areApart_11 (by decide) ?_
    exact z_zret (b := true) hC dX12_areApart_15 rfl ⟨true, rfl, rfl, rfl, rfl, rfl, rfl, h⟩
  · have h := h.2 hc
    refine z_iload_n hC (q := 3) dX12_areApart_5 rfl rfl ?_
    refine z_iload_n hC (q := 0) dX12_areApart_6 rfl rfl ?_
    refine z_icmp_gt hC (tgt := 14) dX12_areApart_7 (by decide) (fun hc => ?_) (fun hc => ?_)
    · have h := h.1 hc
      refine z_iconst hC (v := 0) k_iconst_0 dX12_areApart_14 ?_
      exact z_zret (b := false) hC dX12_areApart_15 rfl ⟨false, rfl, rfl, rfl, rfl, rfl, rfl, h⟩
    · have h := h.2 hc
      refine z_iconst hC (v := 1) k_iconst_1 dX12_areApart_10 ?_
      refine z_goto hC (tgt := 15) dX12_areApart_11 (by decide) ?_
      exact z_zret (b := true) hC dX12_areApart_15 rfl ⟨true, rfl, rfl, rfl, rfl, rfl, rfl, h⟩
def w_X12_cutsScope_2  (x0 : Nat) (x1 : Int32) (x2 : Int32) (x3 : Int32)  (K : MK) (N : MK) (I : MI) (L : ML) (R : MR)  (Q : Bool → Prop) : Prop := ∃ J : Nat → Nat → Int32 → Int32 → Int32 → Prop, (∃ n, J n x0 x1 x2 x3) ∧ ∀ (n : Nat) (x0 : Nat) (x1 : Int32) (x2 : Int32) (x3 : Int32), J n x0 x1 x2 x3 → K x0 = 13 ∧ ∃ b2 : Nat, R x0 15 = some b2 ∧ K b2 = 14 ∧ vp_in 2 (N b2) ∧ ((I b2 (ix 2)) ≤ x3 → Q false) ∧ (¬ (I b2 (ix 2)) ≤ x3 → vp_in ((66 : Int32) + x3) (N b2) ∧ ∀ v6 : Int32, v6 = (I b2 (ix ((66 : Int32) + x3))) → vp_in ((76 : Int32) + x3) (N b2) ∧ ∀ v8 : Int32, v8 = (I b2 (ix ((76 : Int32) + x3))) → w_X12_isWithin x1 x2 v6 v8 K N I L R (fun r9 => (r9 = true → ∀ v10 : Int32, v10 = x3 + 1 → ∃ n1, n1 < n ∧ J n1 x0 x1 x2 v10) ∧ (r9 = false → w_X12_isWithin v6 v8 x1 x2 K N I L R (fun r11 => (r11 = true → ∀ v12 : Int32, v12 = x3 + 1 → ∃ n1, n1 < n ∧ J n1 x0 x1 x2 v12) ∧ (r11 = false → w_X12_areApart x1 x2 v6 v8 K N I L R (fun r13 => (r13 = true → ∀ v14 : Int32, v14 = x3 + 1 → ∃ n1, n1 < n ∧ J n1 x0 x1 x2 v14) ∧ (r13 = false → Q true)))))))
def w_X12_cutsScope  (a0 : Nat) (a1 : Int32) (a2 : Int32) (K : MK) (N : MK) (I : MI) (L : ML) (R : MR) (Q : Bool → Prop) : Prop := w_X12_cutsScope_2 a0 a1 a2 0 K N I L R Q
set_option maxHeartbeats 4000000 in
set_option maxRecDepth 100000 in
theorem z_X12_cutsScope_2 {X : ZX} {G : ZG}  {x0 : Nat} {x1 : Int32} {x2 : Int32} {x3 : Int32}  {K : MK} {N : MK} {I : MI} {L : ML} {R : MR}  {Q : Bool → Prop} (hC : ZOk X G RX12 cX12_cutsScope 6 (some .boolean)) (hRm : X.2.2.2.1 = rm_X12_cutsScope) (h : w_X12_cutsScope_2 x0 x1 x2 x3 K N I L R  Q) : Z X G 6 0 0 (z_T X G (qPz K N I L R Q) 0 0) K N I L R 2 [(0, .ref x0), (1, .int x1), (2, .int x2), (3, .int x3)] [] := by
  delta w_X12_cutsScope_2 at h
  obtain ⟨J, ⟨n, h0⟩, hs⟩ := h
  have key : ∀ (n : Nat) (x0 : Nat) (x1 : Int32) (x2 : Int32) (x3 : Int32), J n x0 x1 x2 x3 → Z X G 6 0 0 (z_T X G (qPz K N I L R Q) 0 0) K N I L R 2 [(0, .ref x0), (1, .int x1), (2, .int x2), (3, .int x3)] [] := by
    intro n
    induction n using Nat.strongRecOn with
    | _ n ih =>
      intro x0 x1 x2 x3 hJ
      have hC2 : ∀ (y0 : Nat) (y1 : Int32) (y2 : Int32) (y3 : Int32) , (∃ n1, n1 < n ∧ J n1 y0 y1 y2 y3) → Z X G 6 0 0 (z_T X G (qPz K N I L R Q) 0 0) K N I L R 2 [(0, .ref y0), (1, .int y1), (2, .int y2), (3, .int y3)] [] := fun y0 y1 y2 y3 ⟨n1, hn1, hj⟩ => ih n1 hn1 y0 y1 y2 y3 hj
      have h := hs n x0 x1 x2 x3 hJ
      refine z_iload_n hC (q := 3) dX12_cutsScope_2 rfl rfl ?_
      refine z_aload_n hC (q := 0) dX12_cutsScope_3 rfl rfl ?_
      obtain ⟨hk1, h⟩ := h
      obtain ⟨b2, hb2, h⟩ := h
      refine gf_RX12_101 hC dX12_cutsScope_4 hk1 hb2 ?_
      refine z_iconst hC (v := 2) k_iconst_2 dX12_cutsScope_7 ?_
      obtain ⟨hk3, h⟩ := h
      obtain ⟨hi4, h⟩ := h
      refine z_iaload hC hk3 hi4 dX12_cutsScope_8 ?_
      refine z_icmp_ge hC (tgt := 78) dX12_cutsScope_9 (by decide) (fun hc => ?_) (fun hc => ?_)
      · have h := h.1 hc
        refine z_iconst hC (v := 0) k_iconst_0 dX12_cutsScope_78 ?_
        exact z_zret (b := false) hC dX12_cutsScope_79 rfl ⟨false, rfl, rfl, rfl, rfl, rfl, rfl, h⟩
      · have h := h.2 hc
        refine z_aload_n hC (q := 0) dX12_cutsScope_12 rfl rfl ?_
        refine gf_RX12_101 hC dX12_cutsScope_13 hk1 hb2 ?_
        refine z_bipush hC (v := 66) k_bipush_66 dX12_cutsScope_16 ?_
        refine z_iload_n hC (q := 3) dX12_cutsScope_18 rfl rfl ?_
        refine z_iadd hC dX12_cutsScope_19 ?_
        obtain ⟨hi5, h⟩ := h
        refine z_iaload hC hk3 hi5 dX12_cutsScope_20 ?_
        refine z_topi (fun v6 ev6 => ?_)
        have h := h v6 ev6
        refine z_istore hC (lv1 := [(4, .int v6), (0, .ref x0), (1, .int x1), (2, .int x2), (3, .int x3)]) dX12_cutsScope_21 (by decide) rfl ?_
        refine z_aload_n hC (q := 1) dX12_cutsScope_23 rfl rfl ?_
        refine gf_RX12_101 hC dX12_cutsScope_24 hk1 hb2 ?_
        refine z_bipush hC (v := 76) k_bipush_76 dX12_cutsScope_27 ?_
        refine z_iload_n hC (q := 4) dX12_cutsScope_29 rfl rfl ?_
        refine z_iadd hC dX12_cutsScope_30 ?_
        obtain ⟨hi7, h⟩ := h
        refine z_iaload hC hk3 hi7 dX12_cutsScope_31 ?_
        refine z_topi (fun v8 ev8 => ?_)
        have h := h v8 ev8
        refine z_istore hC (lv1 := [(5, .int v8), (4, .int v6), (0, .ref x0), (1, .int x1), (2, .int x2), (3, .int x3)]) dX12_cutsScope_32 (by decide) rfl ?_
        refine z_iload_n hC (q := 3) dX12_cutsScope_34 rfl rfl ?_
        refine z_iload_n hC (q := 4) dX12_cutsScope_35 rfl rfl ?_
        refine z_iload hC (q := 1) dX12_cutsScope_36 rfl ?_
        refine z_iload hC (q := 0) dX12_cutsScope_38 rfl ?_
        refine cl_RX12_190 hC (c_X12_isWithin _ G x1 x2 v6 v8 K N I L R _ h) dX12_cutsScope_40 (by rw [hRm]; exact ⟨Nat.le_of_ble_eq_true rfl, Nat.le_of_ble_eq_true rfl⟩) ⟨Nat.zero_le _, Nat.zero_le _⟩ (Nat.le_of_ble_eq_true rfl) (z_kPz (fun r9 h => ?_))
        refine z_ifz_ne hC (tgt := 72) dX12_cutsScope_43 (by decide) (fun hc => ?_) (fun hc => ?_)
        · have h := h.1 hc
          obtain ⟨v10, ev10⟩ : ∃ y : Int32, y = x3 + 1 := ⟨_, rfl⟩
          have h := h v10 ev10
          refine z_iinc hC (q := 5) (v := v10) (lv1 := [(3, .int v10), (5, .int v8), (4, .int v6), (0, .ref x0), (1, .int x1), (2, .int x2)]) dX12_cutsScope_72 rfl (by rw [ev10, k_iinc_1]) (by decide) rfl ?_
          refine z_goto hC (tgt := 2) dX12_cutsScope_75 (by decide) ?_
          exact z_sub [(0, .ref x0), (1, .int x1), (2, .int x2), (3, .int v10)] [3, 4, 5, 0] rfl (hC2 _ _ _ _ h)
        · have h := h.2 hc
          refine z_iload hC (q := 1) dX12_cutsScope_46 rfl ?_
          refine z_iload hC (q := 0) dX12_cutsScope_48 rfl ?_
          refine z_iload_n hC (q := 3) dX12_cutsScope_50 rfl rfl ?_
          refine z_iload_n hC (q := 4) dX12_cutsScope_51 rfl rfl ?_
          refine cl_RX12_190 hC (c_X12_isWithin _ G v6 v8 x1 x2 K N I L R _ h) dX12_cutsScope_52 (by rw [hRm]; exact ⟨Nat.le_of_ble_eq_true rfl, Nat.le_of_ble_eq_true rfl⟩) ⟨Nat.zero_le _, Nat.zero_le _⟩ (Nat.le_of_ble_eq_true rfl) (z_kPz (fun r11 h => ?_))
          refine z_ifz_ne hC (tgt := 72) dX12_cutsScope_55 (by decide) (fun hc => ?_) (fun hc => ?_)
          · have h := h.1 hc
            obtain ⟨v12, ev12⟩ : ∃ y : Int32, y = x3 + 1 := ⟨_, rfl⟩
            have h := h v12 ev12
            refine z_iinc hC (q := 5) (v := v12) (lv1 := [(3, .int v12), (5, .int v8), (4, .int v6), (0, .ref x0), (1, .int x1), (2, .int x2)]) dX12_cutsScope_72 rfl (by rw [ev12, k_iinc_1]) (by decide) rfl ?_
            refine z_goto hC (tgt := 2) dX12_cutsScope_75 (by decide) ?_
            exact z_sub [(0, .ref x0), (1, .int x1), (2, .int x2), (3, .int v12)] [3, 4, 5, 0] rfl (hC2 _ _ _ _ h)
          · have h := h.2 hc
            refine z_iload_n hC (q := 3) dX12_cutsScope_58 rfl rfl ?_
            refine z_iload_n hC (q := 4) dX12_cutsScope_59 rfl rfl ?_
            refine z_iload hC (q := 1) dX12_cutsScope_60 rfl ?_
            refine z_iload hC (q := 0) dX12_cutsScope_62 rfl ?_
            refine cl_RX12_194 hC (c_X12_areApart _ G x1 x2 v6 v8 K N I L R _ h) dX12_cutsScope_64 (by rw [hRm]; exact ⟨Nat.le_of_ble_eq_true rfl, Nat.le_of_ble_eq_true rfl⟩) ⟨Nat.zero_le _, Nat.zero_le _⟩ (Nat.le_of_ble_eq_true rfl) (z_kPz (fun r13 h => ?_))
            refine z_ifz_ne hC (tgt := 72) dX12_cutsScope_67 (by decide) (fun hc => ?_) (fun hc => ?_)
            · have h := h.1 hc
              obtain ⟨v14, ev14⟩ : ∃ y : Int32, y = x3 + 1 := ⟨_, rfl⟩
              have h := h v14 ev14
              refine z_iinc hC (q := 5) (v := v14) (lv1 := [(3, .int v14), (5, .int v8), (4, .int v6), (0, .ref x0), (1, .int x1), (2, .int x2)]) dX12_cutsScope_72 rfl (by rw [ev14, k_iinc_1]) (by decide) rfl ?_
              refine z_goto hC (tgt := 2) dX12_cutsScope_75 (by decide) ?_
              exact z_sub [(0, .ref x0), (1, .int x1), (2, .int x2), (3, .int v14)] [3, 4, 5, 0] rfl (hC2 _ _ _ _ h)
            · have h := h.2 hc
              refine z_iconst hC (v := 1) k_iconst_1 dX12_cutsScope_70 ?_
              exact z_zret (b := true) hC dX12_cutsScope_71 rfl ⟨true, rfl, rfl, rfl, rfl, rfl, rfl, h⟩
  exact key n x0 x1 x2 x3 h0
set_option maxHeartbeats 4000000 in
set_option maxRecDepth 100000 in
theorem c_X12_cutsScope  (l : Launch) (G : ZG) (a0 : Nat) (a1 : Int32) (a2 : Int32) (K : MK) (N : MK) (I : MI) (L : ML) (R : MR) (Q : Bool → Prop) (h : w_X12_cutsScope a0 a1 a2 K N I L R Q) : Met l yX12_cutsScope (.code yX12_cutsScope cX12_cutsScope 6 (some .boolean) :: z_tbl) rm_X12_cutsScope (z_Pc G [.ref a0, .int a1, .int a2] K N I L R) (z_Qc G (qPz K N I L R Q)) 0 0 (z_A G) := by
  refine z_met (by decide) (Nat.le_of_ble_eq_true rfl) (fun X hX hRm hC0 hnm => ?_)
  subst hX
  have hC : ZOk X G RX12 cX12_cutsScope 6 (some .boolean) := hC0
  show Z X G 6 0 0 _ K N I L R 0 [(0, .ref a0), (1, .int a1), (2, .int a2)] []
  delta w_X12_cutsScope at h
  refine z_iconst hC (v := 0) k_iconst_0 dX12_cutsScope_0 ?_
  refine z_istore_n hC (lv1 := [(3, .int 0), (0, .ref a0), (1, .int a1), (2, .int a2)]) dX12_cutsScope_1 rfl (by decide) rfl ?_
  exact z_sub [(0, .ref a0), (1, .int a1), (2, .int a2), (3, .int 0)] [1, 2, 3, 0] rfl (z_X12_cutsScope_2 hC hRm h)
def w_X12_readScope  (a0 : Nat) (K : MK) (N : MK) (I : MI) (L : ML) (R : MR) (Q : Bool → MI → ML → Prop) : Prop := K a0 = 13 ∧ w_X12_readFirst a0 2 10 K N I L R (fun r2 I3 L4 => (r2 = true → ∃ b5 : Nat, R a0 15 = some b5 ∧ K b5 = 14 ∧ vp_in 2 (N b5) ∧ ∀ v8 : Int32, v8 = (I3 b5 (ix 2)) → w_X12_readNew a0 v8 K N I3 L4 R (fun r9 I10 L11 => (r9 = false → Q false I10 L11) ∧ (r9 = true → vp_in 0 (N b5) ∧ w_X12_readNumber a0 0 ((I10 b5 (ix 0)) - 1) K N I10 L11 R (fun r13 I14 L15 => w_X12_put a0 ((66 : Int32) + v8) r13 K N I14 L15 R (fun r16 I17 => (r16 = false → Q false I17 L15) ∧ (r16 = true → vp_in ((66 : Int32) + v8) (N b5) ∧ w_X12_isNumber a0 ((I17 b5 (ix ((66 : Int32) + v8))) + 1) (I17 b5 (ix 0)) K N I17 L15 R (fun r19 I20 => (r19 = true → w_X12_cutsScope a0 (I20 b5 (ix ((66 : Int32) + v8))) (I20 a0 8) K N I20 L15 R (fun r21 => (r21 = false → vp_in ((76 : Int32) + v8) (N b5) ∧ ∀ I23 : MI, I23 = mup I20 b5 (ix ((76 : Int32) + v8)) (I20 a0 8) → w_X12_go a0 K N I23 L15 R (fun I24 L25 => w_X12_readNumber a0 0 250 K N I24 L25 R (fun r26 I27 L28 => w_X12_put a0 ((86 : Int32) + v8) r26 K N I27 L28 R (fun r29 I30 => (r29 = true → ∀ I31 : MI, I31 = mup I30 b5 (ix 2) ((I30 b5 (ix 2)) + 1) → Q true I31 L28) ∧ (r29 = false → Q false I30 L28))))) ∧ (r21 = true → w_X12_bad a0 3 K N I20 L15 R (fun r32 I33 => Q r32 I33 L15)))) ∧ (r19 = false → Q false I20 L15)))))))) ∧ (r2 = false → Q false I3 L4))
set_option maxHeartbeats 4000000 in
set_option maxRecDepth 100000 in
theorem c_X12_readScope  (l : Launch) (G : ZG) (a0 : Nat) (K : MK) (N : MK) (I : MI) (L : ML) (R : MR) (Q : Bool → MI → ML → Prop) (h : w_X12_readScope a0 K N I L R Q) : Met l yX12_readScope (.code yX12_readScope cX12_readScope 2 (some .boolean) :: z_tbl) rm_X12_readScope (z_Pc G [.ref a0] K N I L R) (z_Qc G (qLz K N R Q)) 0 0 (z_A G) := by
  refine z_met (by decide) (Nat.le_of_ble_eq_true rfl) (fun X hX hRm hC0 hnm => ?_)
  subst hX
  have hC : ZOk X G RX12 cX12_readScope 2 (some .boolean) := hC0
  show Z X G 2 0 0 _ K N I L R 0 [(0, .ref a0)] []
  delta w_X12_readScope at h
  refine z_aload_n hC (q := 0) dX12_readScope_0 rfl rfl ?_
  refine z_iconst hC (v := 2) k_iconst_2 dX12_readScope_1 ?_
  refine z_bipush hC (v := 10) k_bipush_10 dX12_readScope_2 ?_
  obtain ⟨hk1, h⟩ := h
  refine cl_RX12_180 hC (c_X12_readFirst _ G a0 2 10 K N I L R _ h) hk1 dX12_readScope_4 (by rw [hRm]; exact ⟨Nat.le_of_ble_eq_true rfl, Nat.le_of_ble_eq_true rfl⟩) ⟨Nat.zero_le _, Nat.zero_le _⟩ (Nat.le_of_ble_eq_true rfl) (z_kLz (I := I) (L := L) (fun r2 I3 L4 h => ?_))
  refine z_ifz_ne hC (tgt := 12) dX12_readScope_7 (by decide) (fun hc => ?_) (fun hc => ?_)
  · have h := h.1 hc
    refine z_aload_n hC (q := 0) dX12_readScope_12 rfl rfl ?_
    obtain ⟨b5, hb5, h⟩ := h
    refine gf_RX12_101 hC dX12_readScope_13 hk1 hb5 ?_
    refine z_iconst hC (v := 2) k_iconst_2 dX12_readScope_16 ?_
    obtain ⟨hk6, h⟩ := h
    obtain ⟨hi7, h⟩ := h
    refine z_iaload hC hk6 hi7 dX12_readScope_17 ?_
    refine z_topi (fun v8 ev8 => ?_)
    have h := h v8 ev8
    refine z_istore_n hC (lv1 := [(1, .int v8), (0, .ref a0)]) dX12_readScope_18 rfl (by decide) rfl ?_
    refine z_aload_n hC (q := 1) dX12_readScope_19 rfl rfl ?_
    refine z_iload_n hC (q := 0) dX12_readScope_20 rfl rfl ?_
    refine cl_RX12_197 hC (c_X12_readNew _ G a0 v8 K N I3 L4 R _ h) hk1 dX12_readScope_21 (by rw [hRm]; exact ⟨Nat.le_of_ble_eq_true rfl, Nat.le_of_ble_eq_true rfl⟩) ⟨Nat.zero_le _, Nat.zero_le _⟩ (Nat.le_of_ble_eq_true rfl) (z_kLz (I := I3) (L := L4) (fun r9 I10 L11 h => ?_))
    refine z_ifz_eq hC (tgt := 75) dX12_readScope_24 (by decide) (fun hc => ?_) (fun hc => ?_)
    · have h := h.1 hc
      refine z_iconst hC (v := 0) k_iconst_0 dX12_readScope_75 ?_
      exact z_zret (b := false) hC dX12_readScope_76 rfl ⟨false, rfl, rfl, rfl, rfl, h⟩
    · have h := h.2 hc
      refine z_aload_n hC (q := 1) dX12_readScope_27 rfl rfl ?_
      refine z_bipush hC (v := 66) k_bipush_66 dX12_readScope_28 ?_
      refine z_iload_n hC (q := 0) dX12_readScope_30 rfl rfl ?_
      refine z_iadd hC dX12_readScope_31 ?_
      refine z_aload_n hC (q := 1) dX12_readScope_32 rfl rfl ?_
      refine z_iconst hC (v := 0) k_iconst_0 dX12_readScope_33 ?_
      refine z_aload_n hC (q := 1) dX12_readScope_34 rfl rfl ?_
      refine gf_RX12_101 hC dX12_readScope_35 hk1 hb5 ?_
      refine z_iconst hC (v := 0) k_iconst_0 dX12_readScope_38 ?_
      obtain ⟨hi12, h⟩ := h
      refine z_iaload hC hk6 hi12 dX12_readScope_39 ?_
      refine z_iconst hC (v := 1) k_iconst_1 dX12_readScope_40 ?_
      refine z_isub hC dX12_readScope_41 ?_
      refine cl_RX12_187 hC (c_X12_readNumber _ G a0 0 ((I10 b5 (ix 0)) - 1) K N I10 L11 R _ h) hk1 dX12_readScope_42 (by rw [hRm]; exact ⟨Nat.le_of_ble_eq_true rfl, Nat.le_of_ble_eq_true rfl⟩) ⟨Nat.zero_le _, Nat.zero_le _⟩ (Nat.le_of_ble_eq_true rfl) (z_kLz (I := I10) (L := L11) (fun r13 I14 L15 h => ?_))
      refine cl_RX12_200 hC (c_X12_put _ G a0 ((66 : Int32) + v8) r13 K N I14 L15 R _ h) hk1 dX12_readScope_45 (by rw [hRm]; exact ⟨Nat.le_of_ble_eq_true rfl, Nat.le_of_ble_eq_true rfl⟩) ⟨Nat.zero_le _, Nat.zero_le _⟩ (Nat.le_of_ble_eq_true rfl) (z_kIz (I := I14) (fun r16 I17 h => ?_))
      refine z_ifz_eq hC (tgt := 75) dX12_readScope_48 (by decide) (fun hc => ?_) (fun hc => ?_)
      · have h := h.1 hc
        refine z_iconst hC (v := 0) k_iconst_0 dX12_readScope_75 ?_
        exact z_zret (b := false) hC dX12_readScope_76 rfl ⟨false, rfl, rfl, rfl, rfl, h⟩
      · have h := h.2 hc
        refine z_aload_n hC (q := 1) dX12_readScope_51 rfl rfl ?_
        refine z_aload_n hC (q := 1) dX12_readScope_52 rfl rfl ?_
        refine gf_RX12_101 hC dX12_readScope_53 hk1 hb5 ?_
        refine z_bipush hC (v := 66) k_bipush_66 dX12_readScope_56 ?_
        refine z_iload_n hC (q := 0) dX12_readScope_58 rfl rfl ?_
        refine z_iadd hC dX12_readScope_59 ?_
        obtain ⟨hi18, h⟩ := h
        refine z_iaload hC hk6 hi18 dX12_readScope_60 ?_
        refine z_iconst hC (v := 1) k_iconst_1 dX12_readScope_61 ?_
        refine z_iadd hC dX12_readScope_62 ?_
        refine z_aload_n hC (q := 1) dX12_readScope_63 rfl rfl ?_
        refine gf_RX12_101 hC dX12_readScope_64 hk1 hb5 ?_
        refine z_iconst hC (v := 0) k_iconst_0 dX12_readScope_67 ?_
        refine z_iaload hC hk6 hi12 dX12_readScope_68 ?_
        refine cl_RX12_184 hC (c_X12_isNumber _ G a0 ((I17 b5 (ix ((66 : Int32) + v8))) + 1) (I17 b5 (ix 0)) K N I17 L15 R _ h) hk1 dX12_readScope_69 (by rw [hRm]; exact ⟨Nat.le_of_ble_eq_true rfl, Nat.le_of_ble_eq_true rfl⟩) ⟨Nat.zero_le _, Nat.zero_le _⟩ (Nat.le_of_ble_eq_true rfl) (z_kIz (I := I17) (fun r19 I20 h => ?_))
        refine z_ifz_ne hC (tgt := 77) dX12_readScope_72 (by decide) (fun hc => ?_) (fun hc => ?_)
        · have h := h.1 hc
          refine z_aload_n hC (q := 1) dX12_readScope_77 rfl rfl ?_
          refine z_aload_n hC (q := 1) dX12_readScope_78 rfl rfl ?_
          refine gf_RX12_101 hC dX12_readScope_79 hk1 hb5 ?_
          refine z_bipush hC (v := 66) k_bipush_66 dX12_readScope_82 ?_
          refine z_iload_n hC (q := 0) dX12_readScope_84 rfl rfl ?_
          refine z_iadd hC dX12_readScope_85 ?_
          refine z_iaload hC hk6 hi18 dX12_readScope_86 ?_
          refine z_aload_n hC (q := 1) dX12_readScope_87 rfl rfl ?_
          refine gf_RX12_47 hC dX12_readScope_88 hk1 ?_
          refine cl_RX12_204 hC (c_X12_cutsScope _ G a0 (I20 b5 (ix ((66 : Int32) + v8))) (I20 a0 8) K N I20 L15 R _ h) hk1 dX12_readScope_91 (by rw [hRm]; exact ⟨Nat.le_of_ble_eq_true rfl, Nat.le_of_ble_eq_true rfl⟩) ⟨Nat.zero_le _, Nat.zero_le _⟩ (Nat.le_of_ble_eq_true rfl) (z_kPz (fun r21 h => ?_))
          refine z_ifz_eq hC (tgt := 103) dX12_readScope_94 (by decide) (fun hc => ?_) (fun hc => ?_)
          · have h := h.1 hc
            refine z_aload_n hC (q := 1) dX12_readScope_103 rfl rfl ?_
            refine gf_RX12_101 hC dX12_readScope_104 hk1 hb5 ?_
            refine z_bipush hC (v := 76) k_bipush_76 dX12_readScope_107 ?_
            refine z_iload_n hC (q := 0) dX12_readScope_109 rfl rfl ?_
            refine z_iadd hC dX12_readScope_110 ?_
            refine z_aload_n hC (q := 1) dX12_readScope_111 rfl rfl ?_
            refine gf_RX12_47 hC dX12_readScope_112 hk1 ?_
            obtain ⟨hi22, h⟩ := h
            refine z_iastore hC hk6 hi22 dX12_readScope_115 ?_
            refine z_genI (fun I23 eI23 => ?_)
            have h := h I23 eI23
            refine z_aload_n hC (q := 1) dX12_readScope_116 rfl rfl ?_
            refine cl_RX12_82 hC (c_X12_go _ G a0 K N I23 L15 R _ h) hk1 dX12_readScope_117 (by rw [hRm]; exact ⟨Nat.le_of_ble_eq_true rfl, Nat.le_of_ble_eq_true rfl⟩) ⟨Nat.zero_le _, Nat.zero_le _⟩ (Nat.le_of_ble_eq_true rfl) (z_kLv (I := I23) (L := L15) (fun I24 L25 h => ?_))
            refine z_aload_n hC (q := 1) dX12_readScope_120 rfl rfl ?_
            refine z_bipush hC (v := 86) k_bipush_86 dX12_readScope_121 ?_
            refine z_iload_n hC (q := 0) dX12_readScope_123 rfl rfl ?_
            refine z_iadd hC dX12_readScope_124 ?_
            refine z_aload_n hC (q := 1) dX12_readScope_125 rfl rfl ?_
            refine z_iconst hC (v := 0) k_iconst_0 dX12_readScope_126 ?_
            refine z_sipush hC (v := 250) k_sipush_250 dX12_readScope_127 ?_
            refine cl_RX12_187 hC (c_X12_readNumber _ G a0 0 250 K N I24 L25 R _ h) hk1 dX12_readScope_130 (by rw [hRm]; exact ⟨Nat.le_of_ble_eq_true rfl, Nat.le_of_ble_eq_true rfl⟩) ⟨Nat.zero_le _, Nat.zero_le _⟩ (Nat.le_of_ble_eq_true rfl) (z_kLz (I := I24) (L := L25) (fun r26 I27 L28 h => ?_))
            refine cl_RX12_200 hC (c_X12_put _ G a0 ((86 : Int32) + v8) r26 K N I27 L28 R _ h) hk1 dX12_readScope_133 (by rw [hRm]; exact ⟨Nat.le_of_ble_eq_true rfl, Nat.le_of_ble_eq_true rfl⟩) ⟨Nat.zero_le _, Nat.zero_le _⟩ (Nat.le_of_ble_eq_true rfl) (z_kIz (I := I27) (fun r29 I30 h => ?_))
            refine z_ifz_ne hC (tgt := 141) dX12_readScope_136 (by decide) (fun hc => ?_) (fun hc => ?_)
            · have h := h.1 hc
              refine z_aload_n hC (q := 1) dX12_readScope_141 rfl rfl ?_
              refine gf_RX12_101 hC dX12_readScope_142 hk1 hb5 ?_
              refine z_iconst hC (v := 2) k_iconst_2 dX12_readScope_145 ?_
              refine z_dup2 hC rfl rfl dX12_readScope_146 ?_
              refine z_iaload hC hk6 hi7 dX12_readScope_147 ?_
              refine z_iconst hC (v := 1) k_iconst_1 dX12_readScope_148 ?_
              refine z_iadd hC dX12_readScope_149 ?_
              refine z_iastore hC hk6 hi7 dX12_readScope_150 ?_
              refine z_genI (fun I31 eI31 => ?_)
              have h := h I31 eI31
              refine z_iconst hC (v := 1) k_iconst_1 dX12_readScope_151 ?_
              exact z_zret (b := true) hC dX12_readScope_152 rfl ⟨true, rfl, rfl, rfl, rfl, h⟩
            · have h := h.2 hc
              refine z_iconst hC (v := 0) k_iconst_0 dX12_readScope_139 ?_
              exact z_zret (b := false) hC dX12_readScope_140 rfl ⟨false, rfl, rfl, rfl, rfl, h⟩
          · have h := h.2 hc
            refine z_aload_n hC (q := 1) dX12_readScope_97 rfl rfl ?_
            refine z_iconst hC (v := 3) k_iconst_3 dX12_readScope_98 ?_
            refine cl_RX12_72 hC (c_X12_bad _ G a0 3 K N I20 L15 R _ h) hk1 dX12_readScope_99 (by rw [hRm]; exact ⟨Nat.le_of_ble_eq_true rfl, Nat.le_of_ble_eq_true rfl⟩) ⟨Nat.zero_le _, Nat.zero_le _⟩ (Nat.le_of_ble_eq_true rfl) (z_kIz (I := I20) (fun r32 I33 h => ?_))
            exact z_zret (b := r32) hC dX12_readScope_102 rfl ⟨r32, rfl, rfl, rfl, rfl, h⟩
        · have h := h.2 hc
          refine z_iconst hC (v := 0) k_iconst_0 dX12_readScope_75 ?_
          exact z_zret (b := false) hC dX12_readScope_76 rfl ⟨false, rfl, rfl, rfl, rfl, h⟩
  · have h := h.2 hc
    refine z_iconst hC (v := 0) k_iconst_0 dX12_readScope_10 ?_
    exact z_zret (b := false) hC dX12_readScope_11 rfl ⟨false, rfl, rfl, rfl, rfl, h⟩
def w_X12_readType_101  (x0 : Nat) (x1 : Int32)  (K : MK) (N : MK) (I : MI) (L : ML) (R : MR)  (Q : Bool → MI → ML → Prop) : Prop := K x0 = 13 ∧ ∃ b25 : Nat, R x0 15 = some b25 ∧ w_X12_isWord x0 28 K N I L R (fun r26 => (r26 = false → K b25 = 14 ∧ vp_in ((108 : Int32) + x1) (N b25) ∧ ∀ I29 : MI, I29 = mup I b25 (ix ((108 : Int32) + x1)) 0 → w_X12_go x0 K N I29 L R (fun I30 L31 => vp_in 3 (N b25) ∧ ∀ I33 : MI, I33 = mup I30 b25 (ix 3) ((I30 b25 (ix 3)) + 1) → Q true I33 L31)) ∧ (r26 = true → K b25 = 14 ∧ vp_in ((108 : Int32) + x1) (N b25) ∧ ∀ I36 : MI, I36 = mup I b25 (ix ((108 : Int32) + x1)) 1 → w_X12_go x0 K N I36 L R (fun I37 L38 => vp_in 3 (N b25) ∧ ∀ I40 : MI, I40 = mup I37 b25 (ix 3) ((I37 b25 (ix 3)) + 1) → Q true I40 L38)))
def w_X12_readType  (a0 : Nat) (K : MK) (N : MK) (I : MI) (L : ML) (R : MR) (Q : Bool → MI → ML → Prop) : Prop := K a0 = 13 ∧ w_X12_readFirst a0 3 6 K N I L R (fun r2 I3 L4 => (r2 = true → ∃ b5 : Nat, R a0 15 = some b5 ∧ K b5 = 14 ∧ vp_in 3 (N b5) ∧ ∀ v8 : Int32, v8 = (I3 b5 (ix 3)) → w_X12_readNew a0 ((10 : Int32) + v8) K N I3 L4 R (fun r9 I10 L11 => (r9 = false → Q false I10 L11) ∧ (r9 = true → w_X12_readNumber a0 0 15 K N I10 L11 R (fun r12 I13 L14 => w_X12_put a0 ((96 : Int32) + v8) r12 K N I13 L14 R (fun r15 I16 => (r15 = false → Q false I16 L14) ∧ (r15 = true → vp_in ((96 : Int32) + v8) (N b5) ∧ w_X12_readNumber a0 1 ((16 : Int32) - (I16 b5 (ix ((96 : Int32) + v8)))) K N I16 L14 R (fun r18 I19 L20 => w_X12_put a0 ((102 : Int32) + v8) r18 K N I19 L20 R (fun r21 I22 => (r21 = true → w_X12_isWord a0 4 K N I22 L20 R (fun r23 => (r23 = true → w_X12_readType_101 a0 v8 K N I22 L20 R Q) ∧ (r23 = false → w_X12_isWord a0 28 K N I22 L20 R (fun r41 => (r41 = true → w_X12_readType_101 a0 v8 K N I22 L20 R Q) ∧ (r41 = false → w_X12_bad a0 1 K N I22 L20 R (fun r42 I43 => Q r42 I43 L20)))))) ∧ (r21 = false → Q false I22 L20))))))))) ∧ (r2 = false → Q false I3 L4))
set_option maxHeartbeats 4000000 in
set_option maxRecDepth 100000 in
theorem z_X12_readType_101 {X : ZX} {G : ZG}  {x0 : Nat} {x1 : Int32}  {K : MK} {N : MK} {I : MI} {L : ML} {R : MR}  {Q : Bool → MI → ML → Prop} (hC : ZOk X G RX12 cX12_readType 2 (some .boolean)) (hRm : X.2.2.2.1 = rm_X12_readType) (h : w_X12_readType_101 x0 x1 K N I L R  Q) : Z X G 2 0 0 (z_T X G (qLz K N R Q) 0 0) K N I L R 101 [(0, .ref x0), (1, .int x1)] [] := by
  delta w_X12_readType_101 at h
  refine z_aload_n hC (q := 0) dX12_readType_101 rfl rfl ?_
  obtain ⟨hk24, h⟩ := h
  obtain ⟨b25, hb25, h⟩ := h
  refine gf_RX12_101 hC dX12_readType_102 hk24 hb25 ?_
  refine z_bipush hC (v := 108) k_bipush_108 dX12_readType_105 ?_
  refine z_iload_n hC (q := 1) dX12_readType_107 rfl rfl ?_
  refine z_iadd hC dX12_readType_108 ?_
  refine z_aload_n hC (q := 0) dX12_readType_109 rfl rfl ?_
  refine z_bipush hC (v := 28) k_bipush_28 dX12_readType_110 ?_
  refine cl_RX12_207 hC (c_X12_isWord _ G x0 28 K N I L R _ h) hk24 dX12_readType_112 (by rw [hRm]; exact ⟨Nat.le_of_ble_eq_true rfl, Nat.le_of_ble_eq_true rfl⟩) ⟨Nat.zero_le _, Nat.zero_le _⟩ (Nat.le_of_ble_eq_true rfl) (z_kPz (fun r26 h => ?_))
  refine z_ifz_eq hC (tgt := 122) dX12_readType_115 (by decide) (fun hc => ?_) (fun hc => ?_)
  · have h := h.1 hc
    refine z_iconst hC (v := 0) k_iconst_0 dX12_readType_122 ?_
    obtain ⟨hk27, h⟩ := h
    obtain ⟨hi28, h⟩ := h
    refine z_iastore hC hk27 hi28 dX12_readType_123 ?_
    refine z_genI (fun I29 eI29 => ?_)
    have h := h I29 eI29
    refine z_aload_n hC (q := 0) dX12_readType_124 rfl rfl ?_
    refine cl_RX12_82 hC (c_X12_go _ G x0 K N I29 L R _ h) hk24 dX12_readType_125 (by rw [hRm]; exact ⟨Nat.le_of_ble_eq_true rfl, Nat.le_of_ble_eq_true rfl⟩) ⟨Nat.zero_le _, Nat.zero_le _⟩ (Nat.le_of_ble_eq_true rfl) (z_kLv (I := I29) (L := L) (fun I30 L31 h => ?_))
    refine z_aload_n hC (q := 0) dX12_readType_128 rfl rfl ?_
    refine gf_RX12_101 hC dX12_readType_129 hk24 hb25 ?_
    refine z_iconst hC (v := 3) k_iconst_3 dX12_readType_132 ?_
    refine z_dup2 hC rfl rfl dX12_readType_133 ?_
    obtain ⟨hi32, h⟩ := h
    refine z_iaload hC hk27 hi32 dX12_readType_134 ?_
    refine z_iconst hC (v := 1) k_iconst_1 dX12_readType_135 ?_
    refine z_iadd hC dX12_readType_136 ?_
    refine z_iastore hC hk27 hi32 dX12_readType_137 ?_
    refine z_genI (fun I33 eI33 => ?_)
    have h := h I33 eI33
    refine z_iconst hC (v := 1) k_iconst_1 dX12_readType_138 ?_
    exact z_zret (b := true) hC dX12_readType_139 rfl ⟨true, rfl, rfl, rfl, rfl, h⟩
  · have h := h.2 hc
    refine z_iconst hC (v := 1) k_iconst_1 dX12_readType_118 ?_
    refine z_goto hC (tgt := 123) dX12_readType_119 (by decide) ?_
    obtain ⟨hk34, h⟩ := h
    obtain ⟨hi35, h⟩ := h
    refine z_iastore hC hk34 hi35 dX12_readType_123 ?_
    refine z_genI (fun I36 eI36 => ?_)
    have h := h I36 eI36
    refine z_aload_n hC (q := 0) dX12_readType_124 rfl rfl ?_
    refine cl_RX12_82 hC (c_X12_go _ G x0 K N I36 L R _ h) hk24 dX12_readType_125 (by rw [hRm]; exact ⟨Nat.le_of_ble_eq_true rfl, Nat.le_of_ble_eq_true rfl⟩) ⟨Nat.zero_le _, Nat.zero_le _⟩ (Nat.le_of_ble_eq_true rfl) (z_kLv (I := I36) (L := L) (fun I37 L38 h => ?_))
    refine z_aload_n hC (q := 0) dX12_readType_128 rfl rfl ?_
    refine gf_RX12_101 hC dX12_readType_129 hk24 hb25 ?_
    refine z_iconst hC (v := 3) k_iconst_3 dX12_readType_132 ?_
    refine z_dup2 hC rfl rfl dX12_readType_133 ?_
    obtain ⟨hi39, h⟩ := h
    refine z_iaload hC hk34 hi39 dX12_readType_134 ?_
    refine z_iconst hC (v := 1) k_iconst_1 dX12_readType_135 ?_
    refine z_iadd hC dX12_readType_136 ?_
    refine z_iastore hC hk34 hi39 dX12_readType_137 ?_
    refine z_genI (fun I40 eI40 => ?_)
    have h := h I40 eI40
    refine z_iconst hC (v := 1) k_iconst_1 dX12_readType_138 ?_
    exact z_zret (b := true) hC dX12_readType_139 rfl ⟨true, rfl, rfl, rfl, rfl, h⟩
set_option maxHeartbeats 4000000 in
set_option maxRecDepth 100000 in
theorem c_X12_readType  (l : Launch) (G : ZG) (a0 : Nat) (K : MK) (N : MK) (I : MI) (L : ML) (R : MR) (Q : Bool → MI → ML → Prop) (h : w_X12_readType a0 K N I L R Q) : Met l yX12_readType (.code yX12_readType cX12_readType 2 (some .boolean) :: z_tbl) rm_X12_readType (z_Pc G [.ref a0] K N I L R) (z_Qc G (qLz K N R Q)) 0 0 (z_A G) := by
  refine z_met (by decide) (Nat.le_of_ble_eq_true rfl) (fun X hX hRm hC0 hnm => ?_)
  subst hX
  have hC : ZOk X G RX12 cX12_readType 2 (some .boolean) := hC0
  show Z X G 2 0 0 _ K N I L R 0 [(0, .ref a0)] []
  delta w_X12_readType at h
  refine z_aload_n hC (q := 0) dX12_readType_0 rfl rfl ?_
  refine z_iconst hC (v := 3) k_iconst_3 dX12_readType_1 ?_
  refine z_bipush hC (v := 6) k_bipush_6 dX12_readType_2 ?_
  obtain ⟨hk1, h⟩ := h
  refine cl_RX12_180 hC (c_X12_readFirst _ G a0 3 6 K N I L R _ h) hk1 dX12_readType_4 (by rw [hRm]; exact ⟨Nat.le_of_ble_eq_true rfl, Nat.le_of_ble_eq_true rfl⟩) ⟨Nat.zero_le _, Nat.zero_le _⟩ (Nat.le_of_ble_eq_true rfl) (z_kLz (I := I) (L := L) (fun r2 I3 L4 h => ?_))
  refine z_ifz_ne hC (tgt := 12) dX12_readType_7 (by decide) (fun hc => ?_) (fun hc => ?_)
  · have h := h.1 hc
    refine z_aload_n hC (q := 0) dX12_readType_12 rfl rfl ?_
    obtain ⟨b5, hb5, h⟩ := h
    refine gf_RX12_101 hC dX12_readType_13 hk1 hb5 ?_
    refine z_iconst hC (v := 3) k_iconst_3 dX12_readType_16 ?_
    obtain ⟨hk6, h⟩ := h
    obtain ⟨hi7, h⟩ := h
    refine z_iaload hC hk6 hi7 dX12_readType_17 ?_
    refine z_topi (fun v8 ev8 => ?_)
    have h := h v8 ev8
    refine z_istore_n hC (lv1 := [(1, .int v8), (0, .ref a0)]) dX12_readType_18 rfl (by decide) rfl ?_
    refine z_aload_n hC (q := 1) dX12_readType_19 rfl rfl ?_
    refine z_bipush hC (v := 10) k_bipush_10 dX12_readType_20 ?_
    refine z_iload_n hC (q := 0) dX12_readType_22 rfl rfl ?_
    refine z_iadd hC dX12_readType_23 ?_
    refine cl_RX12_197 hC (c_X12_readNew _ G a0 ((10 : Int32) + v8) K N I3 L4 R _ h) hk1 dX12_readType_24 (by rw [hRm]; exact ⟨Nat.le_of_ble_eq_true rfl, Nat.le_of_ble_eq_true rfl⟩) ⟨Nat.zero_le _, Nat.zero_le _⟩ (Nat.le_of_ble_eq_true rfl) (z_kLz (I := I3) (L := L4) (fun r9 I10 L11 h => ?_))
    refine z_ifz_eq hC (tgt := 76) dX12_readType_27 (by decide) (fun hc => ?_) (fun hc => ?_)
    · have h := h.1 hc
      refine z_iconst hC (v := 0) k_iconst_0 dX12_readType_76 ?_
      exact z_zret (b := false) hC dX12_readType_77 rfl ⟨false, rfl, rfl, rfl, rfl, h⟩
    · have h := h.2 hc
      refine z_aload_n hC (q := 1) dX12_readType_30 rfl rfl ?_
      refine z_bipush hC (v := 96) k_bipush_96 dX12_readType_31 ?_
      refine z_iload_n hC (q := 0) dX12_readType_33 rfl rfl ?_
      refine z_iadd hC dX12_readType_34 ?_
      refine z_aload_n hC (q := 1) dX12_readType_35 rfl rfl ?_
      refine z_iconst hC (v := 0) k_iconst_0 dX12_readType_36 ?_
      refine z_bipush hC (v := 15) k_bipush_15 dX12_readType_37 ?_
      refine cl_RX12_187 hC (c_X12_readNumber _ G a0 0 15 K N I10 L11 R _ h) hk1 dX12_readType_39 (by rw [hRm]; exact ⟨Nat.le_of_ble_eq_true rfl, Nat.le_of_ble_eq_true rfl⟩) ⟨Nat.zero_le _, Nat.zero_le _⟩ (Nat.le_of_ble_eq_true rfl) (z_kLz (I := I10) (L := L11) (fun r12 I13 L14 h => ?_))
      refine cl_RX12_200 hC (c_X12_put _ G a0 ((96 : Int32) + v8) r12 K N I13 L14 R _ h) hk1 dX12_readType_42 (by rw [hRm]; exact ⟨Nat.le_of_ble_eq_true rfl, Nat.le_of_ble_eq_true rfl⟩) ⟨Nat.zero_le _, Nat.zero_le _⟩ (Nat.le_of_ble_eq_true rfl) (z_kIz (I := I13) (fun r15 I16 h => ?_))
      refine z_ifz_eq hC (tgt := 76) dX12_readType_45 (by decide) (fun hc => ?_) (fun hc => ?_)
      · have h := h.1 hc
        refine z_iconst hC (v := 0) k_iconst_0 dX12_readType_76 ?_
        exact z_zret (b := false) hC dX12_readType_77 rfl ⟨false, rfl, rfl, rfl, rfl, h⟩
      · have h := h.2 hc
        refine z_aload_n hC (q := 1) dX12_readType_48 rfl rfl ?_
        refine z_bipush hC (v := 102) k_bipush_102 dX12_readType_49 ?_
        refine z_iload_n hC (q := 0) dX12_readType_51 rfl rfl ?_
        refine z_iadd hC dX12_readType_52 ?_
        refine z_aload_n hC (q := 1) dX12_readType_53 rfl rfl ?_
        refine z_iconst hC (v := 1) k_iconst_1 dX12_readType_54 ?_
        refine z_bipush hC (v := 16) k_bipush_16 dX12_readType_55 ?_
        refine z_aload_n hC (q := 1) dX12_readType_57 rfl rfl ?_
        refine gf_RX12_101 hC dX12_readType_58 hk1 hb5 ?_
        refine z_bipush hC (v := 96) k_bipush_96 dX12_readType_61 ?_
        refine z_iload_n hC (q := 0) dX12_readType_63 rfl rfl ?_
        refine z_iadd hC dX12_readType_64 ?_
        obtain ⟨hi17, h⟩ := h
        refine z_iaload hC hk6 hi17 dX12_readType_65 ?_
        refine z_isub hC dX12_readType_66 ?_
        refine cl_RX12_187 hC (c_X12_readNumber _ G a0 1 ((16 : Int32) - (I16 b5 (ix ((96 : Int32) + v8)))) K N I16 L14 R _ h) hk1 dX12_readType_67 (by rw [hRm]; exact ⟨Nat.le_of_ble_eq_true rfl, Nat.le_of_ble_eq_true rfl⟩) ⟨Nat.zero_le _, Nat.zero_le _⟩ (Nat.le_of_ble_eq_true rfl) (z_kLz (I := I16) (L := L14) (fun r18 I19 L20 h => ?_))
        refine cl_RX12_200 hC (c_X12_put _ G a0 ((102 : Int32) + v8) r18 K N I19 L20 R _ h) hk1 dX12_readType_70 (by rw [hRm]; exact ⟨Nat.le_of_ble_eq_true rfl, Nat.le_of_ble_eq_true rfl⟩) ⟨Nat.zero_le _, Nat.zero_le _⟩ (Nat.le_of_ble_eq_true rfl) (z_kIz (I := I19) (fun r21 I22 h => ?_))
        refine z_ifz_ne hC (tgt := 78) dX12_readType_73 (by decide) (fun hc => ?_) (fun hc => ?_)
        · have h := h.1 hc
          refine z_aload_n hC (q := 1) dX12_readType_78 rfl rfl ?_
          refine z_iconst hC (v := 4) k_iconst_4 dX12_readType_79 ?_
          refine cl_RX12_207 hC (c_X12_isWord _ G a0 4 K N I22 L20 R _ h) hk1 dX12_readType_80 (by rw [hRm]; exact ⟨Nat.le_of_ble_eq_true rfl, Nat.le_of_ble_eq_true rfl⟩) ⟨Nat.zero_le _, Nat.zero_le _⟩ (Nat.le_of_ble_eq_true rfl) (z_kPz (fun r23 h => ?_))
          refine z_ifz_ne hC (tgt := 101) dX12_readType_83 (by decide) (fun hc => ?_) (fun hc => ?_)
          · have h := h.1 hc
            exact z_sub [(0, .ref a0), (1, .int v8)] [1, 0] rfl (z_X12_readType_101 hC hRm h)
          · have h := h.2 hc
            refine z_aload_n hC (q := 1) dX12_readType_86 rfl rfl ?_
            refine z_bipush hC (v := 28) k_bipush_28 dX12_readType_87 ?_
            refine cl_RX12_207 hC (c_X12_isWord _ G a0 28 K N I22 L20 R _ h) hk1 dX12_readType_89 (by rw [hRm]; exact ⟨Nat.le_of_ble_eq_true rfl, Nat.le_of_ble_eq_true rfl⟩) ⟨Nat.zero_le _, Nat.zero_le _⟩ (Nat.le_of_ble_eq_true rfl) (z_kPz (fun r41 h => ?_))
            refine z_ifz_ne hC (tgt := 101) dX12_readType_92 (by decide) (fun hc => ?_) (fun hc => ?_)
            · have h := h.1 hc
              exact z_sub [(0, .ref a0), (1, .int v8)] [1, 0] rfl (z_X12_readType_101 hC hRm h)
            · have h := h.2 hc
              refine z_aload_n hC (q := 1) dX12_readType_95 rfl rfl ?_
              refine z_iconst hC (v := 1) k_iconst_1 dX12_readType_96 ?_
              refine cl_RX12_72 hC (c_X12_bad _ G a0 1 K N I22 L20 R _ h) hk1 dX12_readType_97 (by rw [hRm]; exact ⟨Nat.le_of_ble_eq_true rfl, Nat.le_of_ble_eq_true rfl⟩) ⟨Nat.zero_le _, Nat.zero_le _⟩ (Nat.le_of_ble_eq_true rfl) (z_kIz (I := I22) (fun r42 I43 h => ?_))
              exact z_zret (b := r42) hC dX12_readType_100 rfl ⟨r42, rfl, rfl, rfl, rfl, h⟩
        · have h := h.2 hc
          refine z_iconst hC (v := 0) k_iconst_0 dX12_readType_76 ?_
          exact z_zret (b := false) hC dX12_readType_77 rfl ⟨false, rfl, rfl, rfl, rfl, h⟩
  · have h := h.2 hc
    refine z_iconst hC (v := 0) k_iconst_0 dX12_readType_10 ?_
    exact z_zret (b := false) hC dX12_readType_11 rfl ⟨false, rfl, rfl, rfl, rfl, h⟩
def w_X12_readVar  (a0 : Nat) (K : MK) (N : MK) (I : MI) (L : ML) (R : MR) (Q : Bool → MI → ML → Prop) : Prop := K a0 = 13 ∧ w_X12_readFirst a0 4 10 K N I L R (fun r2 I3 L4 => (r2 = true → ∃ b5 : Nat, R a0 15 = some b5 ∧ K b5 = 14 ∧ vp_in 4 (N b5) ∧ ∀ v8 : Int32, v8 = (I3 b5 (ix 4)) → w_X12_readNew a0 ((16 : Int32) + v8) K N I3 L4 R (fun r9 I10 L11 => (r9 = false → Q false I10 L11) ∧ (r9 = true → vp_in 2 (N b5) ∧ w_X12_readTold a0 0 (I10 b5 (ix 2)) K N I10 L11 R (fun r13 I14 L15 => w_X12_put a0 ((114 : Int32) + v8) r13 K N I14 L15 R (fun r16 I17 => (r16 = false → Q false I17 L15) ∧ (r16 = true → vp_in 3 (N b5) ∧ w_X12_readTold a0 10 (I17 b5 (ix 3)) K N I17 L15 R (fun r19 I20 L21 => w_X12_put a0 ((124 : Int32) + v8) r19 K N I20 L21 R (fun r22 I23 => (r22 = true → ∀ I24 : MI, I24 = mup I23 b5 (ix 4) ((I23 b5 (ix 4)) + 1) → Q true I24 L21) ∧ (r22 = false → Q false I23 L21))))))))) ∧ (r2 = false → Q false I3 L4))
set_option maxHeartbeats 4000000 in
set_option maxRecDepth 100000 in
theorem c_X12_readVar  (l : Launch) (G : ZG) (a0 : Nat) (K : MK) (N : MK) (I : MI) (L : ML) (R : MR) (Q : Bool → MI → ML → Prop) (h : w_X12_readVar a0 K N I L R Q) : Met l yX12_readVar (.code yX12_readVar cX12_readVar 2 (some .boolean) :: z_tbl) rm_X12_readVar (z_Pc G [.ref a0] K N I L R) (z_Qc G (qLz K N R Q)) 0 0 (z_A G) := by
  refine z_met (by decide) (Nat.le_of_ble_eq_true rfl) (fun X hX hRm hC0 hnm => ?_)
  subst hX
  have hC : ZOk X G RX12 cX12_readVar 2 (some .boolean) := hC0
  show Z X G 2 0 0 _ K N I L R 0 [(0, .ref a0)] []
  delta w_X12_readVar at h
  refine z_aload_n hC (q := 0) dX12_readVar_0 rfl rfl ?_
  refine z_iconst hC (v := 4) k_iconst_4 dX12_readVar_1 ?_
  refine z_bipush hC (v := 10) k_bipush_10 dX12_readVar_2 ?_
  obtain ⟨hk1, h⟩ := h
  refine cl_RX12_180 hC (c_X12_readFirst _ G a0 4 10 K N I L R _ h) hk1 dX12_readVar_4 (by rw [hRm]; exact ⟨Nat.le_of_ble_eq_true rfl, Nat.le_of_ble_eq_true rfl⟩) ⟨Nat.zero_le _, Nat.zero_le _⟩ (Nat.le_of_ble_eq_true rfl) (z_kLz (I := I) (L := L) (fun r2 I3 L4 h => ?_))
  refine z_ifz_ne hC (tgt := 12) dX12_readVar_7 (by decide) (fun hc => ?_) (fun hc => ?_)
  · have h := h.1 hc
    refine z_aload_n hC (q := 0) dX12_readVar_12 rfl rfl ?_
    obtain ⟨b5, hb5, h⟩ := h
    refine gf_RX12_101 hC dX12_readVar_13 hk1 hb5 ?_
    refine z_iconst hC (v := 4) k_iconst_4 dX12_readVar_16 ?_
    obtain ⟨hk6, h⟩ := h
    obtain ⟨hi7, h⟩ := h
    refine z_iaload hC hk6 hi7 dX12_readVar_17 ?_
    refine z_topi (fun v8 ev8 => ?_)
    have h := h v8 ev8
    refine z_istore_n hC (lv1 := [(1, .int v8), (0, .ref a0)]) dX12_readVar_18 rfl (by decide) rfl ?_
    refine z_aload_n hC (q := 1) dX12_readVar_19 rfl rfl ?_
    refine z_bipush hC (v := 16) k_bipush_16 dX12_readVar_20 ?_
    refine z_iload_n hC (q := 0) dX12_readVar_22 rfl rfl ?_
    refine z_iadd hC dX12_readVar_23 ?_
    refine cl_RX12_197 hC (c_X12_readNew _ G a0 ((16 : Int32) + v8) K N I3 L4 R _ h) hk1 dX12_readVar_24 (by rw [hRm]; exact ⟨Nat.le_of_ble_eq_true rfl, Nat.le_of_ble_eq_true rfl⟩) ⟨Nat.zero_le _, Nat.zero_le _⟩ (Nat.le_of_ble_eq_true rfl) (z_kLz (I := I3) (L := L4) (fun r9 I10 L11 h => ?_))
    refine z_ifz_eq hC (tgt := 75) dX12_readVar_27 (by decide) (fun hc => ?_) (fun hc => ?_)
    · have h := h.1 hc
      refine z_iconst hC (v := 0) k_iconst_0 dX12_readVar_75 ?_
      exact z_zret (b := false) hC dX12_readVar_76 rfl ⟨false, rfl, rfl, rfl, rfl, h⟩
    · have h := h.2 hc
      refine z_aload_n hC (q := 1) dX12_readVar_30 rfl rfl ?_
      refine z_bipush hC (v := 114) k_bipush_114 dX12_readVar_31 ?_
      refine z_iload_n hC (q := 0) dX12_readVar_33 rfl rfl ?_
      refine z_iadd hC dX12_readVar_34 ?_
      refine z_aload_n hC (q := 1) dX12_readVar_35 rfl rfl ?_
      refine z_iconst hC (v := 0) k_iconst_0 dX12_readVar_36 ?_
      refine z_aload_n hC (q := 1) dX12_readVar_37 rfl rfl ?_
      refine gf_RX12_101 hC dX12_readVar_38 hk1 hb5 ?_
      refine z_iconst hC (v := 2) k_iconst_2 dX12_readVar_41 ?_
      obtain ⟨hi12, h⟩ := h
      refine z_iaload hC hk6 hi12 dX12_readVar_42 ?_
      refine cl_RX12_210 hC (c_X12_readTold _ G a0 0 (I10 b5 (ix 2)) K N I10 L11 R _ h) hk1 dX12_readVar_43 (by rw [hRm]; exact ⟨Nat.le_of_ble_eq_true rfl, Nat.le_of_ble_eq_true rfl⟩) ⟨Nat.zero_le _, Nat.zero_le _⟩ (Nat.le_of_ble_eq_true rfl) (z_kLz (I := I10) (L := L11) (fun r13 I14 L15 h => ?_))
      refine cl_RX12_200 hC (c_X12_put _ G a0 ((114 : Int32) + v8) r13 K N I14 L15 R _ h) hk1 dX12_readVar_46 (by rw [hRm]; exact ⟨Nat.le_of_ble_eq_true rfl, Nat.le_of_ble_eq_true rfl⟩) ⟨Nat.zero_le _, Nat.zero_le _⟩ (Nat.le_of_ble_eq_true rfl) (z_kIz (I := I14) (fun r16 I17 h => ?_))
      refine z_ifz_eq hC (tgt := 75) dX12_readVar_49 (by decide) (fun hc => ?_) (fun hc => ?_)
      · have h := h.1 hc
        refine z_iconst hC (v := 0) k_iconst_0 dX12_readVar_75 ?_
        exact z_zret (b := false) hC dX12_readVar_76 rfl ⟨false, rfl, rfl, rfl, rfl, h⟩
      · have h := h.2 hc
        refine z_aload_n hC (q := 1) dX12_readVar_52 rfl rfl ?_
        refine z_bipush hC (v := 124) k_bipush_124 dX12_readVar_53 ?_
        refine z_iload_n hC (q := 0) dX12_readVar_55 rfl rfl ?_
        refine z_iadd hC dX12_readVar_56 ?_
        refine z_aload_n hC (q := 1) dX12_readVar_57 rfl rfl ?_
        refine z_bipush hC (v := 10) k_bipush_10 dX12_readVar_58 ?_
        refine z_aload_n hC (q := 1) dX12_readVar_60 rfl rfl ?_
        refine gf_RX12_101 hC dX12_readVar_61 hk1 hb5 ?_
        refine z_iconst hC (v := 3) k_iconst_3 dX12_readVar_64 ?_
        obtain ⟨hi18, h⟩ := h
        refine z_iaload hC hk6 hi18 dX12_readVar_65 ?_
        refine cl_RX12_210 hC (c_X12_readTold _ G a0 10 (I17 b5 (ix 3)) K N I17 L15 R _ h) hk1 dX12_readVar_66 (by rw [hRm]; exact ⟨Nat.le_of_ble_eq_true rfl, Nat.le_of_ble_eq_true rfl⟩) ⟨Nat.zero_le _, Nat.zero_le _⟩ (Nat.le_of_ble_eq_true rfl) (z_kLz (I := I17) (L := L15) (fun r19 I20 L21 h => ?_))
        refine cl_RX12_200 hC (c_X12_put _ G a0 ((124 : Int32) + v8) r19 K N I20 L21 R _ h) hk1 dX12_readVar_69 (by rw [hRm]; exact ⟨Nat.le_of_ble_eq_true rfl, Nat.le_of_ble_eq_true rfl⟩) ⟨Nat.zero_le _, Nat.zero_le _⟩ (Nat.le_of_ble_eq_true rfl) (z_kIz (I := I20) (fun r22 I23 h => ?_))
        refine z_ifz_ne hC (tgt := 77) dX12_readVar_72 (by decide) (fun hc => ?_) (fun hc => ?_)
        · have h := h.1 hc
          refine z_aload_n hC (q := 1) dX12_readVar_77 rfl rfl ?_
          refine gf_RX12_101 hC dX12_readVar_78 hk1 hb5 ?_
          refine z_iconst hC (v := 4) k_iconst_4 dX12_readVar_81 ?_
          refine z_dup2 hC rfl rfl dX12_readVar_82 ?_
          refine z_iaload hC hk6 hi7 dX12_readVar_83 ?_
          refine z_iconst hC (v := 1) k_iconst_1 dX12_readVar_84 ?_
          refine z_iadd hC dX12_readVar_85 ?_
          refine z_iastore hC hk6 hi7 dX12_readVar_86 ?_
          refine z_genI (fun I24 eI24 => ?_)
          have h := h I24 eI24
          refine z_iconst hC (v := 1) k_iconst_1 dX12_readVar_87 ?_
          exact z_zret (b := true) hC dX12_readVar_88 rfl ⟨true, rfl, rfl, rfl, rfl, h⟩
        · have h := h.2 hc
          refine z_iconst hC (v := 0) k_iconst_0 dX12_readVar_75 ?_
          exact z_zret (b := false) hC dX12_readVar_76 rfl ⟨false, rfl, rfl, rfl, rfl, h⟩
  · have h := h.2 hc
    refine z_iconst hC (v := 0) k_iconst_0 dX12_readVar_10 ?_
    exact z_zret (b := false) hC dX12_readVar_11 rfl ⟨false, rfl, rfl, rfl, rfl, h⟩
def w_X12_isRange_14  (x0 : Nat) (x1 : Int32) (x2 : Int32) (x3 : Int32) (x4 : Int32) (x5 : Int32)  (K : MK) (N : MK) (I : MI) (L : ML) (R : MR)  (Q : Bool → Prop) : Prop := ∃ J : Nat → Nat → Int32 → Int32 → Int32 → Int32 → Int32 → Prop, (∃ n, J n x0 x1 x2 x3 x4 x5) ∧ ∀ (n : Nat) (x0 : Nat) (x1 : Int32) (x2 : Int32) (x3 : Int32) (x4 : Int32) (x5 : Int32), J n x0 x1 x2 x3 x4 x5 → K x0 = 13 ∧ ∃ b7 : Nat, R x0 15 = some b7 ∧ K b7 = 14 ∧ vp_in 5 (N b7) ∧ ((I b7 (ix 5)) ≤ x5 → vp_in ((66 : Int32) + x4) (N b7) ∧ vp_in ((76 : Int32) + x4) (N b7) ∧ w_X12_isWithin x2 x3 (I b7 (ix ((66 : Int32) + x4))) (I b7 (ix ((76 : Int32) + x4))) K N I L R (fun r12 => Q r12)) ∧ (¬ (I b7 (ix 5)) ≤ x5 → vp_in ((134 : Int32) + x5) (N b7) ∧ (¬ (I b7 (ix ((134 : Int32) + x5))) = x1 → ∀ v14 : Int32, v14 = x5 + 1 → ∃ n1, n1 < n ∧ J n1 x0 x1 x2 x3 x4 v14) ∧ ((I b7 (ix ((134 : Int32) + x5))) = x1 → vp_in ((150 : Int32) + x5) (N b7) ∧ vp_in ((166 : Int32) + x5) (N b7) ∧ w_X12_areApart x2 x3 (I b7 (ix ((150 : Int32) + x5))) (I b7 (ix ((166 : Int32) + x5))) K N I L R (fun r17 => (r17 = true → ∀ v18 : Int32, v18 = x5 + 1 → ∃ n1, n1 < n ∧ J n1 x0 x1 x2 x3 x4 v18) ∧ (r17 = false → Q false))))
def w_X12_isRange  (a0 : Nat) (a1 : Int32) (a2 : Int32) (a3 : Int32) (K : MK) (N : MK) (I : MI) (L : ML) (R : MR) (Q : Bool → Prop) : Prop := K a0 = 13 ∧ ∃ b2 : Nat, R a0 15 = some b2 ∧ K b2 = 14 ∧ vp_in ((114 : Int32) + a1) (N b2) ∧ ∀ v5 : Int32, v5 = (I b2 (ix ((114 : Int32) + a1))) → w_X12_isRange_14 a0 a1 a2 a3 v5 0 K N I L R Q
set_option maxHeartbeats 4000000 in
set_option maxRecDepth 100000 in
theorem z_X12_isRange_14 {X : ZX} {G : ZG}  {x0 : Nat} {x1 : Int32} {x2 : Int32} {x3 : Int32} {x4 : Int32} {x5 : Int32}  {K : MK} {N : MK} {I : MI} {L : ML} {R : MR}  {Q : Bool → Prop} (hC : ZOk X G RX12 cX12_isRange 6 (some .boolean)) (hRm : X.2.2.2.1 = rm_X12_isRange) (h : w_X12_isRange_14 x0 x1 x2 x3 x4 x5 K N I L R  Q) : Z X G 6 0 0 (z_T X G (qPz K N I L R Q) 0 0) K N I L R 14 [(0, .ref x0), (1, .int x1), (2, .int x2), (3, .int x3), (4, .int x4), (5, .int x5)] [] := by
  delta w_X12_isRange_14 at h
  obtain ⟨J, ⟨n, h0⟩, hs⟩ := h
  have key : ∀ (n : Nat) (x0 : Nat) (x1 : Int32) (x2 : Int32) (x3 : Int32) (x4 : Int32) (x5 : Int32), J n x0 x1 x2 x3 x4 x5 → Z X G 6 0 0 (z_T X G (qPz K N I L R Q) 0 0) K N I L R 14 [(0, .ref x0), (1, .int x1), (2, .int x2), (3, .int x3), (4, .int x4), (5, .int x5)] [] := by
    intro n
    induction n using Nat.strongRecOn with
    | _ n ih =>
      intro x0 x1 x2 x3 x4 x5 hJ
      have hC14 : ∀ (y0 : Nat) (y1 : Int32) (y2 : Int32) (y3 : Int32) (y4 : Int32) (y5 : Int32) , (∃ n1, n1 < n ∧ J n1 y0 y1 y2 y3 y4 y5) → Z X G 6 0 0 (z_T X G (qPz K N I L R Q) 0 0) K N I L R 14 [(0, .ref y0), (1, .int y1), (2, .int y2), (3, .int y3), (4, .int y4), (5, .int y5)] [] := fun y0 y1 y2 y3 y4 y5 ⟨n1, hn1, hj⟩ => ih n1 hn1 y0 y1 y2 y3 y4 y5 hj
      have h := hs n x0 x1 x2 x3 x4 x5 hJ
      refine z_iload hC (q := 5) dX12_isRange_14 rfl ?_
      refine z_aload_n hC (q := 0) dX12_isRange_16 rfl rfl ?_
      obtain ⟨hk6, h⟩ := h
      obtain ⟨b7, hb7, h⟩ := h
      refine gf_RX12_101 hC dX12_isRange_17 hk6 hb7 ?_
      refine z_iconst hC (v := 5) k_iconst_5 dX12_isRange_20 ?_
      obtain ⟨hk8, h⟩ := h
      obtain ⟨hi9, h⟩ := h
      refine z_iaload hC hk8 hi9 dX12_isRange_21 ?_
      refine z_icmp_ge hC (tgt := 78) dX12_isRange_22 (by decide) (fun hc => ?_) (fun hc => ?_)
      · have h := h.1 hc
        refine z_iload_n hC (q := 2) dX12_isRange_78 rfl rfl ?_
        refine z_iload_n hC (q := 3) dX12_isRange_79 rfl rfl ?_
        refine z_aload_n hC (q := 0) dX12_isRange_80 rfl rfl ?_
        refine gf_RX12_101 hC dX12_isRange_81 hk6 hb7 ?_
        refine z_bipush hC (v := 66) k_bipush_66 dX12_isRange_84 ?_
        refine z_iload hC (q := 4) dX12_isRange_86 rfl ?_
        refine z_iadd hC dX12_isRange_88 ?_
        obtain ⟨hi10, h⟩ := h
        refine z_iaload hC hk8 hi10 dX12_isRange_89 ?_
        refine z_aload_n hC (q := 0) dX12_isRange_90 rfl rfl ?_
        refine gf_RX12_101 hC dX12_isRange_91 hk6 hb7 ?_
        refine z_bipush hC (v := 76) k_bipush_76 dX12_isRange_94 ?_
        refine z_iload hC (q := 4) dX12_isRange_96 rfl ?_
        refine z_iadd hC dX12_isRange_98 ?_
        obtain ⟨hi11, h⟩ := h
        refine z_iaload hC hk8 hi11 dX12_isRange_99 ?_
        refine cl_RX12_190 hC (c_X12_isWithin _ G x2 x3 (I b7 (ix ((66 : Int32) + x4))) (I b7 (ix ((76 : Int32) + x4))) K N I L R _ h) dX12_isRange_100 (by rw [hRm]; exact ⟨Nat.le_of_ble_eq_true rfl, Nat.le_of_ble_eq_true rfl⟩) ⟨Nat.zero_le _, Nat.zero_le _⟩ (Nat.le_of_ble_eq_true rfl) (z_kPz (fun r12 h => ?_))
        exact z_zret (b := r12) hC dX12_isRange_103 rfl ⟨r12, rfl, rfl, rfl, rfl, rfl, rfl, h⟩
      · have h := h.2 hc
        refine z_aload_n hC (q := 0) dX12_isRange_25 rfl rfl ?_
        refine gf_RX12_101 hC dX12_isRange_26 hk6 hb7 ?_
        refine z_sipush hC (v := 134) k_sipush_134 dX12_isRange_29 ?_
        refine z_iload hC (q := 5) dX12_isRange_32 rfl ?_
        refine z_iadd hC dX12_isRange_34 ?_
        obtain ⟨hi13, h⟩ := h
        refine z_iaload hC hk8 hi13 dX12_isRange_35 ?_
        refine z_iload_n hC (q := 1) dX12_isRange_36 rfl rfl ?_
        refine z_icmp_ne hC (tgt := 72) dX12_isRange_37 (by decide) (fun hc => ?_) (fun hc => ?_)
        · have h := h.1 hc
          obtain ⟨v14, ev14⟩ : ∃ y : Int32, y = x5 + 1 := ⟨_, rfl⟩
          have h := h v14 ev14
          refine z_iinc hC (q := 5) (v := v14) (lv1 := [(5, .int v14), (0, .ref x0), (1, .int x1), (2, .int x2), (3, .int x3), (4, .int x4)]) dX12_isRange_72 rfl (by rw [ev14, k_iinc_1]) (by decide) rfl ?_
          refine z_goto hC (tgt := 14) dX12_isRange_75 (by decide) ?_
          exact z_sub [(0, .ref x0), (1, .int x1), (2, .int x2), (3, .int x3), (4, .int x4), (5, .int v14)] [1, 2, 3, 4, 5, 0] rfl (hC14 _ _ _ _ _ _ h)
        · have h := h.2 hc
          refine z_iload_n hC (q := 2) dX12_isRange_40 rfl rfl ?_
          refine z_iload_n hC (q := 3) dX12_isRange_41 rfl rfl ?_
          refine z_aload_n hC (q := 0) dX12_isRange_42 rfl rfl ?_
          refine gf_RX12_101 hC dX12_isRange_43 hk6 hb7 ?_
          refine z_sipush hC (v := 150) k_sipush_150 dX12_isRange_46 ?_
          refine z_iload hC (q := 5) dX12_isRange_49 rfl ?_
          refine z_iadd hC dX12_isRange_51 ?_
          obtain ⟨hi15, h⟩ := h
          refine z_iaload hC hk8 hi15 dX12_isRange_52 ?_
          refine z_aload_n hC (q := 0) dX12_isRange_53 rfl rfl ?_
          refine gf_RX12_101 hC dX12_isRange_54 hk6 hb7 ?_
          refine z_sipush hC (v := 166) k_sipush_166 dX12_isRange_57 ?_
          refine z_iload hC (q := 5) dX12_isRange_60 rfl ?_
          refine z_iadd hC dX12_isRange_62 ?_
          obtain ⟨hi16, h⟩ := h
          refine z_iaload hC hk8 hi16 dX12_isRange_63 ?_
          refine cl_RX12_194 hC (c_X12_areApart _ G x2 x3 (I b7 (ix ((150 : Int32) + x5))) (I b7 (ix ((166 : Int32) + x5))) K N I L R _ h) dX12_isRange_64 (by rw [hRm]; exact ⟨Nat.le_of_ble_eq_true rfl, Nat.le_of_ble_eq_true rfl⟩) ⟨Nat.zero_le _, Nat.zero_le _⟩ (Nat.le_of_ble_eq_true rfl) (z_kPz (fun r17 h => ?_))
          refine z_ifz_ne hC (tgt := 72) dX12_isRange_67 (by decide) (fun hc => ?_) (fun hc => ?_)
          · have h := h.1 hc
            obtain ⟨v18, ev18⟩ : ∃ y : Int32, y = x5 + 1 := ⟨_, rfl⟩
            have h := h v18 ev18
            refine z_iinc hC (q := 5) (v := v18) (lv1 := [(5, .int v18), (0, .ref x0), (1, .int x1), (2, .int x2), (3, .int x3), (4, .int x4)]) dX12_isRange_72 rfl (by rw [ev18, k_iinc_1]) (by decide) rfl ?_
            refine z_goto hC (tgt := 14) dX12_isRange_75 (by decide) ?_
            exact z_sub [(0, .ref x0), (1, .int x1), (2, .int x2), (3, .int x3), (4, .int x4), (5, .int v18)] [1, 2, 3, 4, 5, 0] rfl (hC14 _ _ _ _ _ _ h)
          · have h := h.2 hc
            refine z_iconst hC (v := 0) k_iconst_0 dX12_isRange_70 ?_
            exact z_zret (b := false) hC dX12_isRange_71 rfl ⟨false, rfl, rfl, rfl, rfl, rfl, rfl, h⟩
  exact key n x0 x1 x2 x3 x4 x5 h0
set_option maxHeartbeats 4000000 in
set_option maxRecDepth 100000 in
theorem c_X12_isRange  (l : Launch) (G : ZG) (a0 : Nat) (a1 : Int32) (a2 : Int32) (a3 : Int32) (K : MK) (N : MK) (I : MI) (L : ML) (R : MR) (Q : Bool → Prop) (h : w_X12_isRange a0 a1 a2 a3 K N I L R Q) : Met l yX12_isRange (.code yX12_isRange cX12_isRange 6 (some .boolean) :: z_tbl) rm_X12_isRange (z_Pc G [.ref a0, .int a1, .int a2, .int a3] K N I L R) (z_Qc G (qPz K N I L R Q)) 0 0 (z_A G) := by
  refine z_met (by decide) (Nat.le_of_ble_eq_true rfl) (fun X hX hRm hC0 hnm => ?_)
  subst hX
  have hC : ZOk X G RX12 cX12_isRange 6 (some .boolean) := hC0
  show Z X G 6 0 0 _ K N I L R 0 [(0, .ref a0), (1, .int a1), (2, .int a2), (3, .int a3)] []
  delta w_X12_isRange at h
  refine z_aload_n hC (q := 0) dX12_isRange_0 rfl rfl ?_
  obtain ⟨hk1, h⟩ := h
  obtain ⟨b2, hb2, h⟩ := h
  refine gf_RX12_101 hC dX12_isRange_1 hk1 hb2 ?_
  refine z_bipush hC (v := 114) k_bipush_114 dX12_isRange_4 ?_
  refine z_iload_n hC (q := 1) dX12_isRange_6 rfl rfl ?_
  refine z_iadd hC dX12_isRange_7 ?_
  obtain ⟨hk3, h⟩ := h
  obtain ⟨hi4, h⟩ := h
  refine z_iaload hC hk3 hi4 dX12_isRange_8 ?_
  refine z_topi (fun v5 ev5 => ?_)
  have h := h v5 ev5
  refine z_istore hC (lv1 := [(4, .int v5), (0, .ref a0), (1, .int a1), (2, .int a2), (3, .int a3)]) dX12_isRange_9 (by decide) rfl ?_
  refine z_iconst hC (v := 0) k_iconst_0 dX12_isRange_11 ?_
  refine z_istore hC (lv1 := [(5, .int 0), (4, .int v5), (0, .ref a0), (1, .int a1), (2, .int a2), (3, .int a3)]) dX12_isRange_12 (by decide) rfl ?_
  exact z_sub [(0, .ref a0), (1, .int a1), (2, .int a2), (3, .int a3), (4, .int v5), (5, .int 0)] [2, 3, 4, 5, 1, 0] rfl (z_X12_isRange_14 hC hRm h)
def w_X12_isOp_22  (x0 : Nat) (x1 : Int32)  (K : MK) (N : MK) (I : MI) (L : ML) (R : MR)  (Q : Bool → Prop) : Prop := ∃ J : Nat → Nat → Int32 → Prop, (∃ n, J n x0 x1) ∧ ∀ (n : Nat) (x0 : Nat) (x1 : Int32), J n x0 x1 → ((14 : Int32) < x1 → Q false) ∧ (¬ (14 : Int32) < x1 → K x0 = 13 ∧ w_X12_isWord x0 x1 K N I L R (fun r4 => (r4 = false → ∀ v5 : Int32, v5 = x1 + 1 → ∃ n1, n1 < n ∧ J n1 x0 v5) ∧ (r4 = true → Q true)))
def w_X12_isOp  (a0 : Nat) (K : MK) (N : MK) (I : MI) (L : ML) (R : MR) (Q : Bool → Prop) : Prop := K a0 = 13 ∧ ((I a0 7) = 3 → Q true) ∧ (¬ (I a0 7) = 3 → w_X12_isWord a0 8 K N I L R (fun r2 => (r2 = false → w_X12_isOp_22 a0 9 K N I L R Q) ∧ (r2 = true → Q true)))
set_option maxHeartbeats 4000000 in
set_option maxRecDepth 100000 in
theorem z_X12_isOp_22 {X : ZX} {G : ZG}  {x0 : Nat} {x1 : Int32}  {K : MK} {N : MK} {I : MI} {L : ML} {R : MR}  {Q : Bool → Prop} (hC : ZOk X G RX12 cX12_isOp 2 (some .boolean)) (hRm : X.2.2.2.1 = rm_X12_isOp) (h : w_X12_isOp_22 x0 x1 K N I L R  Q) : Z X G 2 0 0 (z_T X G (qPz K N I L R Q) 0 0) K N I L R 22 [(0, .ref x0), (1, .int x1)] [] := by
  delta w_X12_isOp_22 at h
  obtain ⟨J, ⟨n, h0⟩, hs⟩ := h
  have key : ∀ (n : Nat) (x0 : Nat) (x1 : Int32), J n x0 x1 → Z X G 2 0 0 (z_T X G (qPz K N I L R Q) 0 0) K N I L R 22 [(0, .ref x0), (1, .int x1)] [] := by
    intro n
    induction n using Nat.strongRecOn with
    | _ n ih =>
      intro x0 x1 hJ
      have hC22 : ∀ (y0 : Nat) (y1 : Int32) , (∃ n1, n1 < n ∧ J n1 y0 y1) → Z X G 2 0 0 (z_T X G (qPz K N I L R Q) 0 0) K N I L R 22 [(0, .ref y0), (1, .int y1)] [] := fun y0 y1 ⟨n1, hn1, hj⟩ => ih n1 hn1 y0 y1 hj
      have h := hs n x0 x1 hJ
      refine z_iload_n hC (q := 1) dX12_isOp_22 rfl rfl ?_
      refine z_bipush hC (v := 14) k_bipush_14 dX12_isOp_23 ?_
      refine z_icmp_gt hC (tgt := 44) dX12_isOp_25 (by decide) (fun hc => ?_) (fun hc => ?_)
      · have h := h.1 hc
        refine z_iconst hC (v := 0) k_iconst_0 dX12_isOp_44 ?_
        exact z_zret (b := false) hC dX12_isOp_45 rfl ⟨false, rfl, rfl, rfl, rfl, rfl, rfl, h⟩
      · have h := h.2 hc
        refine z_aload_n hC (q := 0) dX12_isOp_28 rfl rfl ?_
        refine z_iload_n hC (q := 1) dX12_isOp_29 rfl rfl ?_
        obtain ⟨hk3, h⟩ := h
        refine cl_RX12_207 hC (c_X12_isWord _ G x0 x1 K N I L R _ h) hk3 dX12_isOp_30 (by rw [hRm]; exact ⟨Nat.le_of_ble_eq_true rfl, Nat.le_of_ble_eq_true rfl⟩) ⟨Nat.zero_le _, Nat.zero_le _⟩ (Nat.le_of_ble_eq_true rfl) (z_kPz (fun r4 h => ?_))
        refine z_ifz_eq hC (tgt := 38) dX12_isOp_33 (by decide) (fun hc => ?_) (fun hc => ?_)
        · have h := h.1 hc
          obtain ⟨v5, ev5⟩ : ∃ y : Int32, y = x1 + 1 := ⟨_, rfl⟩
          have h := h v5 ev5
          refine z_iinc hC (q := 1) (v := v5) (lv1 := [(1, .int v5), (0, .ref x0)]) dX12_isOp_38 rfl (by rw [ev5, k_iinc_1]) (by decide) rfl ?_
          refine z_goto hC (tgt := 22) dX12_isOp_41 (by decide) ?_
          exact z_sub [(0, .ref x0), (1, .int v5)] [1, 0] rfl (hC22 _ _ h)
        · have h := h.2 hc
          refine z_iconst hC (v := 1) k_iconst_1 dX12_isOp_36 ?_
          exact z_zret (b := true) hC dX12_isOp_37 rfl ⟨true, rfl, rfl, rfl, rfl, rfl, rfl, h⟩
  exact key n x0 x1 h0
set_option maxHeartbeats 4000000 in
set_option maxRecDepth 100000 in
theorem c_X12_isOp  (l : Launch) (G : ZG) (a0 : Nat) (K : MK) (N : MK) (I : MI) (L : ML) (R : MR) (Q : Bool → Prop) (h : w_X12_isOp a0 K N I L R Q) : Met l yX12_isOp (.code yX12_isOp cX12_isOp 2 (some .boolean) :: z_tbl) rm_X12_isOp (z_Pc G [.ref a0] K N I L R) (z_Qc G (qPz K N I L R Q)) 0 0 (z_A G) := by
  refine z_met (by decide) (Nat.le_of_ble_eq_true rfl) (fun X hX hRm hC0 hnm => ?_)
  subst hX
  have hC : ZOk X G RX12 cX12_isOp 2 (some .boolean) := hC0
  show Z X G 2 0 0 _ K N I L R 0 [(0, .ref a0)] []
  delta w_X12_isOp at h
  refine z_aload_n hC (q := 0) dX12_isOp_0 rfl rfl ?_
  obtain ⟨hk1, h⟩ := h
  refine gf_RX12_30 hC dX12_isOp_1 hk1 ?_
  refine z_iconst hC (v := 3) k_iconst_3 dX12_isOp_4 ?_
  refine z_icmp_eq hC (tgt := 17) dX12_isOp_5 (by decide) (fun hc => ?_) (fun hc => ?_)
  · have h := h.1 hc
    refine z_iconst hC (v := 1) k_iconst_1 dX12_isOp_17 ?_
    exact z_zret (b := true) hC dX12_isOp_18 rfl ⟨true, rfl, rfl, rfl, rfl, rfl, rfl, h⟩
  · have h := h.2 hc
    refine z_aload_n hC (q := 0) dX12_isOp_8 rfl rfl ?_
    refine z_bipush hC (v := 8) k_bipush_8 dX12_isOp_9 ?_
    refine cl_RX12_207 hC (c_X12_isWord _ G a0 8 K N I L R _ h) hk1 dX12_isOp_11 (by rw [hRm]; exact ⟨Nat.le_of_ble_eq_true rfl, Nat.le_of_ble_eq_true rfl⟩) ⟨Nat.zero_le _, Nat.zero_le _⟩ (Nat.le_of_ble_eq_true rfl) (z_kPz (fun r2 h => ?_))
    refine z_ifz_eq hC (tgt := 19) dX12_isOp_14 (by decide) (fun hc => ?_) (fun hc => ?_)
    · have h := h.1 hc
      refine z_bipush hC (v := 9) k_bipush_9 dX12_isOp_19 ?_
      refine z_istore_n hC (lv1 := [(1, .int 9), (0, .ref a0)]) dX12_isOp_21 rfl (by decide) rfl ?_
      exact z_sub [(0, .ref a0), (1, .int 9)] [1, 0] rfl (z_X12_isOp_22 hC hRm h)
    · have h := h.2 hc
      refine z_iconst hC (v := 1) k_iconst_1 dX12_isOp_17 ?_
      exact z_zret (b := true) hC dX12_isOp_18 rfl ⟨true, rfl, rfl, rfl, rfl, rfl, rfl, h⟩
def w_X12_readOp_169  (x0 : Nat) (x1 : Int32) (x2 : Int32)  (K : MK) (N : MK) (I : MI) (L : ML) (R : MR)  (Q : Bool → MI → ML → Prop) : Prop := (¬ x2 = 1014 → K x0 = 13 ∧ ∃ b7 : Nat, R x0 15 = some b7 ∧ K b7 = 14 ∧ vp_in x1 (N b7) ∧ ∀ I10 : MI, I10 = mup I b7 (ix x1) x2 → w_X12_go x0 K N I10 L R (fun I11 L12 => Q true I11 L12)) ∧ (x2 = 1014 → K x0 = 13 ∧ ∀ I14 : MI, I14 = mup I x0 25 ((I x0 25) + 1) → ∃ b15 : Nat, R x0 15 = some b15 ∧ K b15 = 14 ∧ vp_in x1 (N b15) ∧ ∀ I18 : MI, I18 = mup I14 b15 (ix x1) x2 → w_X12_go x0 K N I18 L R (fun I19 L20 => Q true I19 L20))
def w_X12_readOp_143  (x0 : Nat) (x1 : Int32) (x2 : Int32) (s0 : Int32) (s1 : Int32) (K : MK) (N : MK) (I : MI) (L : ML) (R : MR)  (Q : Bool → MI → ML → Prop) : Prop := (s0 ≤ s1 → ((1012 : Int32) < x2 → w_X12_readOp_169 x0 x1 x2 K N I L R Q) ∧ (¬ (1012 : Int32) < x2 → K x0 = 13 ∧ ∀ I22 : MI, I22 = mup I x0 25 ((I x0 25) - 1) → w_X12_readOp_169 x0 x1 x2 K N I22 L R Q)) ∧ (¬ s0 ≤ s1 → K x0 = 13 ∧ w_X12_bad x0 5 K N I L R (fun r24 I25 => Q r24 I25 L))
def w_X12_readOp_129  (x0 : Nat) (x1 : Int32) (x2 : Int32) (s0 : Int32) (K : MK) (N : MK) (I : MI) (L : ML) (R : MR)  (Q : Bool → MI → ML → Prop) : Prop := K x0 = 13 ∧ (s0 = 0 → w_X12_readOp_143 x0 x1 x2 2 (I x0 25) K N I L R Q) ∧ (¬ s0 = 0 → w_X12_readOp_143 x0 x1 x2 1 (I x0 25) K N I L R Q)
def w_X12_readOp_124  (x0 : Nat) (x1 : Int32) (x2 : Int32)  (K : MK) (N : MK) (I : MI) (L : ML) (R : MR)  (Q : Bool → MI → ML → Prop) : Prop := w_X12_readOp_129 x0 x1 x2 1 K N I L R Q
def w_X12_readOp_89  (x0 : Nat) (x1 : Int32) (x2 : Int32)  (K : MK) (N : MK) (I : MI) (L : ML) (R : MR)  (Q : Bool → MI → ML → Prop) : Prop := ∃ J : Nat → Nat → Int32 → Int32 → MI → ML → Prop, (∃ n, J n x0 x1 x2 I L) ∧ ∀ (n : Nat) (x0 : Nat) (x1 : Int32) (x2 : Int32) (I : MI) (L : ML), J n x0 x1 x2 I L → K x0 = 13 ∧ w_X12_isWord x0 (((9 : Int32) + x2) - 1010) K N I L R (fun r4 => (r4 = true → (x2 = 1013 → w_X12_readOp_124 x0 x1 x2 K N I L R Q) ∧ (¬ x2 = 1013 → (¬ x2 = 1014 → w_X12_readOp_129 x0 x1 x2 0 K N I L R Q) ∧ (x2 = 1014 → w_X12_readOp_124 x0 x1 x2 K N I L R Q))) ∧ (r4 = false → ∀ v26 : Int32, v26 = x2 + 1 → ∃ n1, n1 < n ∧ J n1 x0 x1 v26 I L))
def w_X12_readOp  (a0 : Nat) (a1 : Int32) (K : MK) (N : MK) (I : MI) (L : ML) (R : MR) (Q : Bool → MI → ML → Prop) : Prop := K a0 = 13 ∧ (¬ (I a0 7) = 3 → w_X12_isWord a0 8 K N I L R (fun r2 => (r2 = false → w_X12_readOp_89 a0 a1 1010 K N I L R Q) ∧ (r2 = true → w_X12_go a0 K N I L R (fun I27 L28 => ∀ I29 : MI, I29 = mup I27 a0 25 ((I27 a0 25) + 1) → w_X12_readNumber a0 0 7 K N I29 L28 R (fun r30 I31 L32 => (r30 = true → ∃ b33 : Nat, R a0 15 = some b33 ∧ K b33 = 14 ∧ vp_in a1 (N b33) ∧ ∀ I36 : MI, I36 = mup I31 b33 (ix a1) ((1000 : Int32) + (I31 a0 13)) → Q true I36 L32) ∧ (r30 = false → Q false I31 L32)))))) ∧ ((I a0 7) = 3 → ∃ b37 : Nat, R a0 15 = some b37 ∧ K b37 = 14 ∧ vp_in a1 (N b37) ∧ ∀ I40 : MI, I40 = mup I b37 (ix a1) (I a0 8) → ∀ I41 : MI, I41 = mup I40 a0 25 ((I40 a0 25) + 1) → w_X12_go a0 K N I41 L R (fun I42 L43 => Q true I42 L43))
set_option maxHeartbeats 4000000 in
set_option maxRecDepth 100000 in
theorem z_X12_readOp_169 {X : ZX} {G : ZG}  {x0 : Nat} {x1 : Int32} {x2 : Int32}  {K : MK} {N : MK} {I : MI} {L : ML} {R : MR}  {Q : Bool → MI → ML → Prop} (hC : ZOk X G RX12 cX12_readOp 4 (some .boolean)) (hRm : X.2.2.2.1 = rm_X12_readOp) (h : w_X12_readOp_169 x0 x1 x2 K N I L R  Q) : Z X G 4 0 0 (z_T X G (qLz K N R Q) 0 0) K N I L R 169 [(0, .ref x0), (1, .int x1), (2, .int x2)] [] := by
  delta w_X12_readOp_169 at h
  refine z_iload_n hC (q := 2) dX12_readOp_169 rfl rfl ?_
  refine z_sipush hC (v := 1014) k_sipush_1014 dX12_readOp_170 ?_
  refine z_icmp_ne hC (tgt := 186) dX12_readOp_173 (by decide) (fun hc => ?_) (fun hc => ?_)
  · have h := h.1 hc
    refine z_aload_n hC (q := 0) dX12_readOp_186 rfl rfl ?_
    obtain ⟨hk6, h⟩ := h
    obtain ⟨b7, hb7, h⟩ := h
    refine gf_RX12_101 hC dX12_readOp_187 hk6 hb7 ?_
    refine z_iload_n hC (q := 1) dX12_readOp_190 rfl rfl ?_
    refine z_iload_n hC (q := 2) dX12_readOp_191 rfl rfl ?_
    obtain ⟨hk8, h⟩ := h
    obtain ⟨hi9, h⟩ := h
    refine z_iastore hC hk8 hi9 dX12_readOp_192 ?_
    refine z_genI (fun I10 eI10 => ?_)
    have h := h I10 eI10
    refine z_aload_n hC (q := 0) dX12_readOp_193 rfl rfl ?_
    refine cl_RX12_82 hC (c_X12_go _ G x0 K N I10 L R _ h) hk6 dX12_readOp_194 (by rw [hRm]; exact ⟨Nat.le_of_ble_eq_true rfl, Nat.le_of_ble_eq_true rfl⟩) ⟨Nat.zero_le _, Nat.zero_le _⟩ (Nat.le_of_ble_eq_true rfl) (z_kLv (I := I10) (L := L) (fun I11 L12 h => ?_))
    refine z_iconst hC (v := 1) k_iconst_1 dX12_readOp_197 ?_
    exact z_zret (b := true) hC dX12_readOp_198 rfl ⟨true, rfl, rfl, rfl, rfl, h⟩
  · have h := h.2 hc
    refine z_aload_n hC (q := 0) dX12_readOp_176 rfl rfl ?_
    refine z_dup hC rfl dX12_readOp_177 ?_
    obtain ⟨hk13, h⟩ := h
    refine gf_RX12_219 hC dX12_readOp_178 hk13 ?_
    refine z_iconst hC (v := 1) k_iconst_1 dX12_readOp_181 ?_
    refine z_iadd hC dX12_readOp_182 ?_
    refine pf_RX12_219 hC dX12_readOp_183 hk13 ?_
    refine z_genI (fun I14 eI14 => ?_)
    have h := h I14 eI14
    refine z_aload_n hC (q := 0) dX12_readOp_186 rfl rfl ?_
    obtain ⟨b15, hb15, h⟩ := h
    refine gf_RX12_101 hC dX12_readOp_187 hk13 hb15 ?_
    refine z_iload_n hC (q := 1) dX12_readOp_190 rfl rfl ?_
    refine z_iload_n hC (q := 2) dX12_readOp_191 rfl rfl ?_
    obtain ⟨hk16, h⟩ := h
    obtain ⟨hi17, h⟩ := h
    refine z_iastore hC hk16 hi17 dX12_readOp_192 ?_
    refine z_genI (fun I18 eI18 => ?_)
    have h := h I18 eI18
    refine z_aload_n hC (q := 0) dX12_readOp_193 rfl rfl ?_
    refine cl_RX12_82 hC (c_X12_go _ G x0 K N I18 L R _ h) hk13 dX12_readOp_194 (by rw [hRm]; exact ⟨Nat.le_of_ble_eq_true rfl, Nat.le_of_ble_eq_true rfl⟩) ⟨Nat.zero_le _, Nat.zero_le _⟩ (Nat.le_of_ble_eq_true rfl) (z_kLv (I := I18) (L := L) (fun I19 L20 h => ?_))
    refine z_iconst hC (v := 1) k_iconst_1 dX12_readOp_197 ?_
    exact z_zret (b := true) hC dX12_readOp_198 rfl ⟨true, rfl, rfl, rfl, rfl, h⟩
set_option maxHeartbeats 4000000 in
set_option maxRecDepth 100000 in
theorem z_X12_readOp_143 {X : ZX} {G : ZG}  {x0 : Nat} {x1 : Int32} {x2 : Int32} {s0 : Int32} {s1 : Int32} {K : MK} {N : MK} {I : MI} {L : ML} {R : MR}  {Q : Bool → MI → ML → Prop} (hC : ZOk X G RX12 cX12_readOp 4 (some .boolean)) (hRm : X.2.2.2.1 = rm_X12_readOp) (h : w_X12_readOp_143 x0 x1 x2 s0 s1 K N I L R  Q) : Z X G 4 0 0 (z_T X G (qLz K N R Q) 0 0) K N I L R 143 [(0, .ref x0), (1, .int x1), (2, .int x2)] [.int s0, .int s1] := by
  delta w_X12_readOp_143 at h
  refine z_icmp_ge hC (tgt := 152) dX12_readOp_143 (by decide) (fun hc => ?_) (fun hc => ?_)
  · have h := h.1 hc
    refine z_iload_n hC (q := 2) dX12_readOp_152 rfl rfl ?_
    refine z_sipush hC (v := 1012) k_sipush_1012 dX12_readOp_153 ?_
    refine z_icmp_gt hC (tgt := 169) dX12_readOp_156 (by decide) (fun hc => ?_) (fun hc => ?_)
    · have h := h.1 hc
      exact z_sub [(0, .ref x0), (1, .int x1), (2, .int x2)] [0, 1, 2] rfl (z_X12_readOp_169 hC hRm h)
    · have h := h.2 hc
      refine z_aload_n hC (q := 0) dX12_readOp_159 rfl rfl ?_
      refine z_dup hC rfl dX12_readOp_160 ?_
      obtain ⟨hk21, h⟩ := h
      refine gf_RX12_219 hC dX12_readOp_161 hk21 ?_
      refine z_iconst hC (v := 1) k_iconst_1 dX12_readOp_164 ?_
      refine z_isub hC dX12_readOp_165 ?_
      refine pf_RX12_219 hC dX12_readOp_166 hk21 ?_
      refine z_genI (fun I22 eI22 => ?_)
      have h := h I22 eI22
      exact z_sub [(0, .ref x0), (1, .int x1), (2, .int x2)] [0, 1, 2] rfl (z_X12_readOp_169 hC hRm h)
  · have h := h.2 hc
    refine z_aload_n hC (q := 0) dX12_readOp_146 rfl rfl ?_
    refine z_iconst hC (v := 5) k_iconst_5 dX12_readOp_147 ?_
    obtain ⟨hk23, h⟩ := h
    refine cl_RX12_72 hC (c_X12_bad _ G x0 5 K N I L R _ h) hk23 dX12_readOp_148 (by rw [hRm]; exact ⟨Nat.le_of_ble_eq_true rfl, Nat.le_of_ble_eq_true rfl⟩) ⟨Nat.zero_le _, Nat.zero_le _⟩ (Nat.le_of_ble_eq_true rfl) (z_kIz (I := I) (fun r24 I25 h => ?_))
    exact z_zret (b := r24) hC dX12_readOp_151 rfl ⟨r24, rfl, rfl, rfl, rfl, h⟩
set_option maxHeartbeats 4000000 in
set_option maxRecDepth 100000 in
theorem z_X12_readOp_129 {X : ZX} {G : ZG}  {x0 : Nat} {x1 : Int32} {x2 : Int32} {s0 : Int32} {K : MK} {N : MK} {I : MI} {L : ML} {R : MR}  {Q : Bool → MI → ML → Prop} (hC : ZOk X G RX12 cX12_readOp 4 (some .boolean)) (hRm : X.2.2.2.1 = rm_X12_readOp) (h : w_X12_readOp_129 x0 x1 x2 s0 K N I L R  Q) : Z X G 4 0 0 (z_T X G (qLz K N R Q) 0 0) K N I L R 129 [(0, .ref x0), (1, .int x1), (2, .int x2)] [.int s0] := by
  delta w_X12_readOp_129 at h
  refine z_istore_n hC (lv1 := [(3, .int s0), (0, .ref x0), (1, .int x1), (2, .int x2)]) dX12_readOp_129 rfl (by decide) rfl ?_
  refine z_aload_n hC (q := 1) dX12_readOp_130 rfl rfl ?_
  obtain ⟨hk5, h⟩ := h
  refine gf_RX12_219 hC dX12_readOp_131 hk5 ?_
  refine z_iload_n hC (q := 0) dX12_readOp_134 rfl rfl ?_
  refine z_if_eq hC (tgt := 142) dX12_readOp_135 (by decide) (fun hc => ?_) (fun hc => ?_)
  · have h := h.1 hc
    refine z_iconst hC (v := 2) k_iconst_2 dX12_readOp_142 ?_
    exact z_sub [(0, .ref x0), (1, .int x1), (2, .int x2)] [1, 2, 3] rfl (z_X12_readOp_143 hC hRm h)
  · have h := h.2 hc
    refine z_iconst hC (v := 1) k_iconst_1 dX12_readOp_138 ?_
    refine z_goto hC (tgt := 143) dX12_readOp_139 (by decide) ?_
    exact z_sub [(0, .ref x0), (1, .int x1), (2, .int x2)] [1, 2, 3] rfl (z_X12_readOp_143 hC hRm h)
set_option maxHeartbeats 4000000 in
set_option maxRecDepth 100000 in
theorem z_X12_readOp_124 {X : ZX} {G : ZG}  {x0 : Nat} {x1 : Int32} {x2 : Int32}  {K : MK} {N : MK} {I : MI} {L : ML} {R : MR}  {Q : Bool → MI → ML → Prop} (hC : ZOk X G RX12 cX12_readOp 4 (some .boolean)) (hRm : X.2.2.2.1 = rm_X12_readOp) (h : w_X12_readOp_124 x0 x1 x2 K N I L R  Q) : Z X G 4 0 0 (z_T X G (qLz K N R Q) 0 0) K N I L R 124 [(0, .ref x0), (1, .int x1), (2, .int x2)] [] := by
  delta w_X12_readOp_124 at h
  refine z_iconst hC (v := 1) k_iconst_1 dX12_readOp_124 ?_
  refine z_goto hC (tgt := 129) dX12_readOp_125 (by decide) ?_
  exact z_sub [(0, .ref x0), (1, .int x1), (2, .int x2)] [0, 1, 2] rfl (z_X12_readOp_129 hC hRm h)
set_option maxHeartbeats 4000000 in
set_option maxRecDepth 100000 in
theorem z_X12_readOp_89 {X : ZX} {G : ZG}  {x0 : Nat} {x1 : Int32} {x2 : Int32}  {K : MK} {N : MK} {I : MI} {L : ML} {R : MR}  {Q : Bool → MI → ML → Prop} (hC : ZOk X G RX12 cX12_readOp 4 (some .boolean)) (hRm : X.2.2.2.1 = rm_X12_readOp) (h : w_X12_readOp_89 x0 x1 x2 K N I L R  Q) : Z X G 4 0 0 (z_T X G (qLz K N R Q) 0 0) K N I L R 89 [(0, .ref x0), (1, .int x1), (2, .int x2)] [] := by
  delta w_X12_readOp_89 at h
  obtain ⟨J, ⟨n, h0⟩, hs⟩ := h
  have key : ∀ (n : Nat) (x0 : Nat) (x1 : Int32) (x2 : Int32) (I : MI) (L : ML), J n x0 x1 x2 I L → Z X G 4 0 0 (z_T X G (qLz K N R Q) 0 0) K N I L R 89 [(0, .ref x0), (1, .int x1), (2, .int x2)] [] := by
    intro n
    induction n using Nat.strongRecOn with
    | _ n ih =>
      intro x0 x1 x2 I L hJ
      have hC89 : ∀ (y0 : Nat) (y1 : Int32) (y2 : Int32) (zI : MI) (zL : ML), (∃ n1, n1 < n ∧ J n1 y0 y1 y2 zI zL) → Z X G 4 0 0 (z_T X G (qLz K N R Q) 0 0) K N zI zL R 89 [(0, .ref y0), (1, .int y1), (2, .int y2)] [] := fun y0 y1 y2 zI zL ⟨n1, hn1, hj⟩ => ih n1 hn1 y0 y1 y2 zI zL hj
      have h := hs n x0 x1 x2 I L hJ
      refine z_aload_n hC (q := 0) dX12_readOp_89 rfl rfl ?_
      refine z_bipush hC (v := 9) k_bipush_9 dX12_readOp_90 ?_
      refine z_iload_n hC (q := 2) dX12_readOp_92 rfl rfl ?_
      refine z_iadd hC dX12_readOp_93 ?_
      refine z_sipush hC (v := 1010) k_sipush_1010 dX12_readOp_94 ?_
      refine z_isub hC dX12_readOp_97 ?_
      obtain ⟨hk3, h⟩ := h
      refine cl_RX12_207 hC (c_X12_isWord _ G x0 (((9 : Int32) + x2) - 1010) K N I L R _ h) hk3 dX12_readOp_98 (by rw [hRm]; exact ⟨Nat.le_of_ble_eq_true rfl, Nat.le_of_ble_eq_true rfl⟩) ⟨Nat.zero_le _, Nat.zero_le _⟩ (Nat.le_of_ble_eq_true rfl) (z_kPz (fun r4 h => ?_))
      refine z_ifz_ne hC (tgt := 110) dX12_readOp_101 (by decide) (fun hc => ?_) (fun hc => ?_)
      · have h := h.1 hc
        refine z_iload_n hC (q := 2) dX12_readOp_110 rfl rfl ?_
        refine z_sipush hC (v := 1013) k_sipush_1013 dX12_readOp_111 ?_
        refine z_icmp_eq hC (tgt := 124) dX12_readOp_114 (by decide) (fun hc => ?_) (fun hc => ?_)
        · have h := h.1 hc
          exact z_sub [(0, .ref x0), (1, .int x1), (2, .int x2)] [0, 1, 2] rfl (z_X12_readOp_124 hC hRm h)
        · have h := h.2 hc
          refine z_iload_n hC (q := 2) dX12_readOp_117 rfl rfl ?_
          refine z_sipush hC (v := 1014) k_sipush_1014 dX12_readOp_118 ?_
          refine z_icmp_ne hC (tgt := 128) dX12_readOp_121 (by decide) (fun hc => ?_) (fun hc => ?_)
          · have h := h.1 hc
            refine z_iconst hC (v := 0) k_iconst_0 dX12_readOp_128 ?_
            exact z_sub [(0, .ref x0), (1, .int x1), (2, .int x2)] [0, 1, 2] rfl (z_X12_readOp_129 hC hRm h)
          · have h := h.2 hc
            exact z_sub [(0, .ref x0), (1, .int x1), (2, .int x2)] [0, 1, 2] rfl (z_X12_readOp_124 hC hRm h)
      · have h := h.2 hc
        obtain ⟨v26, ev26⟩ : ∃ y : Int32, y = x2 + 1 := ⟨_, rfl⟩
        have h := h v26 ev26
        refine z_iinc hC (q := 2) (v := v26) (lv1 := [(2, .int v26), (0, .ref x0), (1, .int x1)]) dX12_readOp_104 rfl (by rw [ev26, k_iinc_1]) (by decide) rfl ?_
        refine z_goto hC (tgt := 89) dX12_readOp_107 (by decide) ?_
        exact z_sub [(0, .ref x0), (1, .int x1), (2, .int v26)] [1, 2, 0] rfl (hC89 _ _ _ _ _ h)
  exact key n x0 x1 x2 I L h0
set_option maxHeartbeats 4000000 in
set_option maxRecDepth 100000 in
theorem c_X12_readOp  (l : Launch) (G : ZG) (a0 : Nat) (a1 : Int32) (K : MK) (N : MK) (I : MI) (L : ML) (R : MR) (Q : Bool → MI → ML → Prop) (h : w_X12_readOp a0 a1 K N I L R Q) : Met l yX12_readOp (.code yX12_readOp cX12_readOp 4 (some .boolean) :: z_tbl) rm_X12_readOp (z_Pc G [.ref a0, .int a1] K N I L R) (z_Qc G (qLz K N R Q)) 0 0 (z_A G) := by
  refine z_met (by decide) (Nat.le_of_ble_eq_true rfl) (fun X hX hRm hC0 hnm => ?_)
  subst hX
  have hC : ZOk X G RX12 cX12_readOp 4 (some .boolean) := hC0
  show Z X G 4 0 0 _ K N I L R 0 [(0, .ref a0), (1, .int a1)] []
  delta w_X12_readOp at h
  refine z_aload_n hC (q := 0) dX12_readOp_0 rfl rfl ?_
  obtain ⟨hk1, h⟩ := h
  refine gf_RX12_30 hC dX12_readOp_1 hk1 ?_
  refine z_iconst hC (v := 3) k_iconst_3 dX12_readOp_4 ?_
  refine z_icmp_ne hC (tgt := 34) dX12_readOp_5 (by decide) (fun hc => ?_) (fun hc => ?_)
  · have h := h.1 hc
    refine z_aload_n hC (q := 0) dX12_readOp_34 rfl rfl ?_
    refine z_bipush hC (v := 8) k_bipush_8 dX12_readOp_35 ?_
    refine cl_RX12_207 hC (c_X12_isWord _ G a0 8 K N I L R _ h) hk1 dX12_readOp_37 (by rw [hRm]; exact ⟨Nat.le_of_ble_eq_true rfl, Nat.le_of_ble_eq_true rfl⟩) ⟨Nat.zero_le _, Nat.zero_le _⟩ (Nat.le_of_ble_eq_true rfl) (z_kPz (fun r2 h => ?_))
    refine z_ifz_eq hC (tgt := 85) dX12_readOp_40 (by decide) (fun hc => ?_) (fun hc => ?_)
    · have h := h.1 hc
      refine z_sipush hC (v := 1010) k_sipush_1010 dX12_readOp_85 ?_
      refine z_istore_n hC (lv1 := [(2, .int 1010), (0, .ref a0), (1, .int a1)]) dX12_readOp_88 rfl (by decide) rfl ?_
      exact z_sub [(0, .ref a0), (1, .int a1), (2, .int 1010)] [1, 2, 0] rfl (z_X12_readOp_89 hC hRm h)
    · have h := h.2 hc
      refine z_aload_n hC (q := 0) dX12_readOp_43 rfl rfl ?_
      refine cl_RX12_82 hC (c_X12_go _ G a0 K N I L R _ h) hk1 dX12_readOp_44 (by rw [hRm]; exact ⟨Nat.le_of_ble_eq_true rfl, Nat.le_of_ble_eq_true rfl⟩) ⟨Nat.zero_le _, Nat.zero_le _⟩ (Nat.le_of_ble_eq_true rfl) (z_kLv (I := I) (L := L) (fun I27 L28 h => ?_))
      refine z_aload_n hC (q := 0) dX12_readOp_47 rfl rfl ?_
      refine z_dup hC rfl dX12_readOp_48 ?_
      refine gf_RX12_219 hC dX12_readOp_49 hk1 ?_
      refine z_iconst hC (v := 1) k_iconst_1 dX12_readOp_52 ?_
      refine z_iadd hC dX12_readOp_53 ?_
      refine pf_RX12_219 hC dX12_readOp_54 hk1 ?_
      refine z_genI (fun I29 eI29 => ?_)
      have h := h I29 eI29
      refine z_aload_n hC (q := 0) dX12_readOp_57 rfl rfl ?_
      refine z_iconst hC (v := 0) k_iconst_0 dX12_readOp_58 ?_
      refine z_bipush hC (v := 7) k_bipush_7 dX12_readOp_59 ?_
      refine cl_RX12_187 hC (c_X12_readNumber _ G a0 0 7 K N I29 L28 R _ h) hk1 dX12_readOp_61 (by rw [hRm]; exact ⟨Nat.le_of_ble_eq_true rfl, Nat.le_of_ble_eq_true rfl⟩) ⟨Nat.zero_le _, Nat.zero_le _⟩ (Nat.le_of_ble_eq_true rfl) (z_kLz (I := I29) (L := L28) (fun r30 I31 L32 h => ?_))
      refine z_ifz_ne hC (tgt := 69) dX12_readOp_64 (by decide) (fun hc => ?_) (fun hc => ?_)
      · have h := h.1 hc
        refine z_aload_n hC (q := 0) dX12_readOp_69 rfl rfl ?_
        obtain ⟨b33, hb33, h⟩ := h
        refine gf_RX12_101 hC dX12_readOp_70 hk1 hb33 ?_
        refine z_iload_n hC (q := 1) dX12_readOp_73 rfl rfl ?_
        refine z_sipush hC (v := 1000) k_sipush_1000 dX12_readOp_74 ?_
        refine z_aload_n hC (q := 0) dX12_readOp_77 rfl rfl ?_
        refine gf_RX12_79 hC dX12_readOp_78 hk1 ?_
        refine z_iadd hC dX12_readOp_81 ?_
        obtain ⟨hk34, h⟩ := h
        obtain ⟨hi35, h⟩ := h
        refine z_iastore hC hk34 hi35 dX12_readOp_82 ?_
        refine z_genI (fun I36 eI36 => ?_)
        have h := h I36 eI36
        refine z_iconst hC (v := 1) k_iconst_1 dX12_readOp_83 ?_
        exact z_zret (b := true) hC dX12_readOp_84 rfl ⟨true, rfl, rfl, rfl, rfl, h⟩
      · have h := h.2 hc
        refine z_iconst hC (v := 0) k_iconst_0 dX12_readOp_67 ?_
        exact z_zret (b := false) hC dX12_readOp_68 rfl ⟨false, rfl, rfl, rfl, rfl, h⟩
  · have h := h.2 hc
    refine z_aload_n hC (q := 0) dX12_readOp_8 rfl rfl ?_
    obtain ⟨b37, hb37, h⟩ := h
    refine gf_RX12_101 hC dX12_readOp_9 hk1 hb37 ?_
    refine z_iload_n hC (q := 1) dX12_readOp_12 rfl rfl ?_
    refine z_aload_n hC (q := 0) dX12_readOp_13 rfl rfl ?_
    refine gf_RX12_47 hC dX12_readOp_14 hk1 ?_
    obtain ⟨hk38, h⟩ := h
    obtain ⟨hi39, h⟩ := h
    refine z_iastore hC hk38 hi39 dX12_readOp_17 ?_
    refine z_genI (fun I40 eI40 => ?_)
    have h := h I40 eI40
    refine z_aload_n hC (q := 0) dX12_readOp_18 rfl rfl ?_
    refine z_dup hC rfl dX12_readOp_19 ?_
    refine gf_RX12_219 hC dX12_readOp_20 hk1 ?_
    refine z_iconst hC (v := 1) k_iconst_1 dX12_readOp_23 ?_
    refine z_iadd hC dX12_readOp_24 ?_
    refine pf_RX12_219 hC dX12_readOp_25 hk1 ?_
    refine z_genI (fun I41 eI41 => ?_)
    have h := h I41 eI41
    refine z_aload_n hC (q := 0) dX12_readOp_28 rfl rfl ?_
    refine cl_RX12_82 hC (c_X12_go _ G a0 K N I41 L R _ h) hk1 dX12_readOp_29 (by rw [hRm]; exact ⟨Nat.le_of_ble_eq_true rfl, Nat.le_of_ble_eq_true rfl⟩) ⟨Nat.zero_le _, Nat.zero_le _⟩ (Nat.le_of_ble_eq_true rfl) (z_kLv (I := I41) (L := L) (fun I42 L43 h => ?_))
    refine z_iconst hC (v := 1) k_iconst_1 dX12_readOp_32 ?_
    exact z_zret (b := true) hC dX12_readOp_33 rfl ⟨true, rfl, rfl, rfl, rfl, h⟩
def w_X12_readExpr_81  (x0 : Nat) (x1 : Int32)  (K : MK) (N : MK) (I : MI) (L : ML) (R : MR)  (Q : Bool → MI → ML → Prop) : Prop := ∃ J : Nat → Nat → Int32 → MI → ML → Prop, (∃ n, J n x0 x1 I L) ∧ ∀ (n : Nat) (x0 : Nat) (x1 : Int32) (I : MI) (L : ML), J n x0 x1 I L → K x0 = 13 ∧ w_X12_isOp x0 K N I L R (fun r12 => (r12 = false → w_X12_isWord x0 32 K N I L R (fun r13 => (r13 = true → ∃ b14 : Nat, R x0 15 = some b14 ∧ K b14 = 14 ∧ vp_in ((182 : Int32) + x1) (N b14) ∧ ∀ I17 : MI, I17 = mup I b14 (ix ((182 : Int32) + x1)) 1 → w_X12_go x0 K N I17 L R (fun I18 L19 => Q true I18 L19)) ∧ (r13 = false → Q true I L))) ∧ (r12 = true → ∃ b20 : Nat, R x0 15 = some b20 ∧ K b20 = 14 ∧ vp_in ((198 : Int32) + x1) (N b20) ∧ (¬ (I b20 (ix ((198 : Int32) + x1))) = 8 → w_X12_readOp x0 (((214 : Int32) + ((8 : Int32) * x1)) + (I b20 (ix ((198 : Int32) + x1)))) K N I L R (fun r23 I24 L25 => (r23 = true → ∀ I26 : MI, I26 = mup I24 b20 (ix ((198 : Int32) + x1)) ((I24 b20 (ix ((198 : Int32) + x1))) + 1) → ∃ n1, n1 < n ∧ J n1 x0 x1 I26 L25) ∧ (r23 = false → Q false I24 L25))) ∧ ((I b20 (ix ((198 : Int32) + x1))) = 8 → w_X12_bad x0 4 K N I L R (fun r27 I28 => Q r27 I28 L))))
def w_X12_readExpr  (a0 : Nat) (a1 : Int32) (K : MK) (N : MK) (I : MI) (L : ML) (R : MR) (Q : Bool → MI → ML → Prop) : Prop := K a0 = 13 ∧ ∀ I2 : MI, I2 = mup I a0 25 0 → ∃ b3 : Nat, R a0 15 = some b3 ∧ K b3 = 14 ∧ vp_in ((198 : Int32) + a1) (N b3) ∧ ∀ I6 : MI, I6 = mup I2 b3 (ix ((198 : Int32) + a1)) 0 → w_X12_isWord a0 7 K N I6 L R (fun r7 => (r7 = false → vp_in ((182 : Int32) + a1) (N b3) ∧ ∀ I9 : MI, I9 = mup I6 b3 (ix ((182 : Int32) + a1)) 0 → w_X12_isOp a0 K N I9 L R (fun r10 => (r10 = true → w_X12_readExpr_81 a0 a1 K N I9 L R Q) ∧ (r10 = false → w_X12_bad a0 1 K N I9 L R (fun r29 I30 => Q r29 I30 L)))) ∧ (r7 = true → w_X12_go a0 K N I6 L R (fun I31 L32 => vp_in ((182 : Int32) + a1) (N b3) ∧ ∀ I34 : MI, I34 = mup I31 b3 (ix ((182 : Int32) + a1)) 2 → w_X12_readNumber a0 0 7 K N I34 L32 R (fun r35 I36 L37 => w_X12_put a0 ((198 : Int32) + a1) r35 K N I36 L37 R (fun r38 I39 => Q r38 I39 L37)))))
set_option maxHeartbeats 4000000 in
set_option maxRecDepth 100000 in
theorem z_X12_readExpr_81 {X : ZX} {G : ZG}  {x0 : Nat} {x1 : Int32}  {K : MK} {N : MK} {I : MI} {L : ML} {R : MR}  {Q : Bool → MI → ML → Prop} (hC : ZOk X G RX12 cX12_readExpr 2 (some .boolean)) (hRm : X.2.2.2.1 = rm_X12_readExpr) (h : w_X12_readExpr_81 x0 x1 K N I L R  Q) : Z X G 2 0 0 (z_T X G (qLz K N R Q) 0 0) K N I L R 81 [(0, .ref x0), (1, .int x1)] [] := by
  delta w_X12_readExpr_81 at h
  obtain ⟨J, ⟨n, h0⟩, hs⟩ := h
  have key : ∀ (n : Nat) (x0 : Nat) (x1 : Int32) (I : MI) (L : ML), J n x0 x1 I L → Z X G 2 0 0 (z_T X G (qLz K N R Q) 0 0) K N I L R 81 [(0, .ref x0), (1, .int x1)] [] := by
    intro n
    induction n using Nat.strongRecOn with
    | _ n ih =>
      intro x0 x1 I L hJ
      have hC81 : ∀ (y0 : Nat) (y1 : Int32) (zI : MI) (zL : ML), (∃ n1, n1 < n ∧ J n1 y0 y1 zI zL) → Z X G 2 0 0 (z_T X G (qLz K N R Q) 0 0) K N zI zL R 81 [(0, .ref y0), (1, .int y1)] [] := fun y0 y1 zI zL ⟨n1, hn1, hj⟩ => ih n1 hn1 y0 y1 zI zL hj
      have h := hs n x0 x1 I L hJ
      refine z_aload_n hC (q := 0) dX12_readExpr_81 rfl rfl ?_
      obtain ⟨hk11, h⟩ := h
      refine cl_RX12_222 hC (c_X12_isOp _ G x0 K N I L R _ h) hk11 dX12_readExpr_82 (by rw [hRm]; exact ⟨Nat.le_of_ble_eq_true rfl, Nat.le_of_ble_eq_true rfl⟩) ⟨Nat.zero_le _, Nat.zero_le _⟩ (Nat.le_of_ble_eq_true rfl) (z_kPz (fun r12 h => ?_))
      refine z_ifz_eq hC (tgt := 154) dX12_readExpr_85 (by decide) (fun hc => ?_) (fun hc => ?_)
      · have h := h.1 hc
        refine z_aload_n hC (q := 0) dX12_readExpr_154 rfl rfl ?_
        refine z_bipush hC (v := 32) k_bipush_32 dX12_readExpr_155 ?_
        refine cl_RX12_207 hC (c_X12_isWord _ G x0 32 K N I L R _ h) hk11 dX12_readExpr_157 (by rw [hRm]; exact ⟨Nat.le_of_ble_eq_true rfl, Nat.le_of_ble_eq_true rfl⟩) ⟨Nat.zero_le _, Nat.zero_le _⟩ (Nat.le_of_ble_eq_true rfl) (z_kPz (fun r13 h => ?_))
        refine z_ifz_ne hC (tgt := 165) dX12_readExpr_160 (by decide) (fun hc => ?_) (fun hc => ?_)
        · have h := h.1 hc
          refine z_aload_n hC (q := 0) dX12_readExpr_165 rfl rfl ?_
          obtain ⟨b14, hb14, h⟩ := h
          refine gf_RX12_101 hC dX12_readExpr_166 hk11 hb14 ?_
          refine z_sipush hC (v := 182) k_sipush_182 dX12_readExpr_169 ?_
          refine z_iload_n hC (q := 1) dX12_readExpr_172 rfl rfl ?_
          refine z_iadd hC dX12_readExpr_173 ?_
          refine z_iconst hC (v := 1) k_iconst_1 dX12_readExpr_174 ?_
          obtain ⟨hk15, h⟩ := h
          obtain ⟨hi16, h⟩ := h
          refine z_iastore hC hk15 hi16 dX12_readExpr_175 ?_
          refine z_genI (fun I17 eI17 => ?_)
          have h := h I17 eI17
          refine z_aload_n hC (q := 0) dX12_readExpr_176 rfl rfl ?_
          refine cl_RX12_82 hC (c_X12_go _ G x0 K N I17 L R _ h) hk11 dX12_readExpr_177 (by rw [hRm]; exact ⟨Nat.le_of_ble_eq_true rfl, Nat.le_of_ble_eq_true rfl⟩) ⟨Nat.zero_le _, Nat.zero_le _⟩ (Nat.le_of_ble_eq_true rfl) (z_kLv (I := I17) (L := L) (fun I18 L19 h => ?_))
          refine z_iconst hC (v := 1) k_iconst_1 dX12_readExpr_180 ?_
          exact z_zret (b := true) hC dX12_readExpr_181 rfl ⟨true, rfl, rfl, rfl, rfl, h⟩
        · have h := h.2 hc
          refine z_iconst hC (v := 1) k_iconst_1 dX12_readExpr_163 ?_
          exact z_zret (b := true) hC dX12_readExpr_164 rfl ⟨true, rfl, rfl, rfl, rfl, h⟩
      · have h := h.2 hc
        refine z_aload_n hC (q := 0) dX12_readExpr_88 rfl rfl ?_
        obtain ⟨b20, hb20, h⟩ := h
        refine gf_RX12_101 hC dX12_readExpr_89 hk11 hb20 ?_
        refine z_sipush hC (v := 198) k_sipush_198 dX12_readExpr_92 ?_
        refine z_iload_n hC (q := 1) dX12_readExpr_95 rfl rfl ?_
        refine z_iadd hC dX12_readExpr_96 ?_
        obtain ⟨hk21, h⟩ := h
        obtain ⟨hi22, h⟩ := h
        refine z_iaload hC hk21 hi22 dX12_readExpr_97 ?_
        refine z_bipush hC (v := 8) k_bipush_8 dX12_readExpr_98 ?_
        refine z_icmp_ne hC (tgt := 109) dX12_readExpr_100 (by decide) (fun hc => ?_) (fun hc => ?_)
        · have h := h.1 hc
          refine z_aload_n hC (q := 0) dX12_readExpr_109 rfl rfl ?_
          refine z_sipush hC (v := 214) k_sipush_214 dX12_readExpr_110 ?_
          refine z_bipush hC (v := 8) k_bipush_8 dX12_readExpr_113 ?_
          refine z_iload_n hC (q := 1) dX12_readExpr_115 rfl rfl ?_
          refine z_imul hC dX12_readExpr_116 ?_
          refine z_iadd hC dX12_readExpr_117 ?_
          refine z_aload_n hC (q := 0) dX12_readExpr_118 rfl rfl ?_
          refine gf_RX12_101 hC dX12_readExpr_119 hk11 hb20 ?_
          refine z_sipush hC (v := 198) k_sipush_198 dX12_readExpr_122 ?_
          refine z_iload_n hC (q := 1) dX12_readExpr_125 rfl rfl ?_
          refine z_iadd hC dX12_readExpr_126 ?_
          refine z_iaload hC hk21 hi22 dX12_readExpr_127 ?_
          refine z_iadd hC dX12_readExpr_128 ?_
          refine cl_RX12_225 hC (c_X12_readOp _ G x0 (((214 : Int32) + ((8 : Int32) * x1)) + (I b20 (ix ((198 : Int32) + x1)))) K N I L R _ h) hk11 dX12_readExpr_129 (by rw [hRm]; exact ⟨Nat.le_of_ble_eq_true rfl, Nat.le_of_ble_eq_true rfl⟩) ⟨Nat.zero_le _, Nat.zero_le _⟩ (Nat.le_of_ble_eq_true rfl) (z_kLz (I := I) (L := L) (fun r23 I24 L25 h => ?_))
          refine z_ifz_ne hC (tgt := 137) dX12_readExpr_132 (by decide) (fun hc => ?_) (fun hc => ?_)
          · have h := h.1 hc
            refine z_aload_n hC (q := 0) dX12_readExpr_137 rfl rfl ?_
            refine gf_RX12_101 hC dX12_readExpr_138 hk11 hb20 ?_
            refine z_sipush hC (v := 198) k_sipush_198 dX12_readExpr_141 ?_
            refine z_iload_n hC (q := 1) dX12_readExpr_144 rfl rfl ?_
            refine z_iadd hC dX12_readExpr_145 ?_
            refine z_dup2 hC rfl rfl dX12_readExpr_146 ?_
            refine z_iaload hC hk21 hi22 dX12_readExpr_147 ?_
            refine z_iconst hC (v := 1) k_iconst_1 dX12_readExpr_148 ?_
            refine z_iadd hC dX12_readExpr_149 ?_
            refine z_iastore hC hk21 hi22 dX12_readExpr_150 ?_
            refine z_genI (fun I26 eI26 => ?_)
            have h := h I26 eI26
            refine z_goto hC (tgt := 81) dX12_readExpr_151 (by decide) ?_
            exact z_sub [(0, .ref x0), (1, .int x1)] [0, 1] rfl (hC81 _ _ _ _ h)
          · have h := h.2 hc
            refine z_iconst hC (v := 0) k_iconst_0 dX12_readExpr_135 ?_
            exact z_zret (b := false) hC dX12_readExpr_136 rfl ⟨false, rfl, rfl, rfl, rfl, h⟩
        · have h := h.2 hc
          refine z_aload_n hC (q := 0) dX12_readExpr_103 rfl rfl ?_
          refine z_iconst hC (v := 4) k_iconst_4 dX12_readExpr_104 ?_
          refine cl_RX12_72 hC (c_X12_bad _ G x0 4 K N I L R _ h) hk11 dX12_readExpr_105 (by rw [hRm]; exact ⟨Nat.le_of_ble_eq_true rfl, Nat.le_of_ble_eq_true rfl⟩) ⟨Nat.zero_le _, Nat.zero_le _⟩ (Nat.le_of_ble_eq_true rfl) (z_kIz (I := I) (fun r27 I28 h => ?_))
          exact z_zret (b := r27) hC dX12_readExpr_108 rfl ⟨r27, rfl, rfl, rfl, rfl, h⟩
  exact key n x0 x1 I L h0
set_option maxHeartbeats 4000000 in
set_option maxRecDepth 100000 in
theorem c_X12_readExpr  (l : Launch) (G : ZG) (a0 : Nat) (a1 : Int32) (K : MK) (N : MK) (I : MI) (L : ML) (R : MR) (Q : Bool → MI → ML → Prop) (h : w_X12_readExpr a0 a1 K N I L R Q) : Met l yX12_readExpr (.code yX12_readExpr cX12_readExpr 2 (some .boolean) :: z_tbl) rm_X12_readExpr (z_Pc G [.ref a0, .int a1] K N I L R) (z_Qc G (qLz K N R Q)) 0 0 (z_A G) := by
  refine z_met (by decide) (Nat.le_of_ble_eq_true rfl) (fun X hX hRm hC0 hnm => ?_)
  subst hX
  have hC : ZOk X G RX12 cX12_readExpr 2 (some .boolean) := hC0
  show Z X G 2 0 0 _ K N I L R 0 [(0, .ref a0), (1, .int a1)] []
  delta w_X12_readExpr at h
  refine z_aload_n hC (q := 0) dX12_readExpr_0 rfl rfl ?_
  refine z_iconst hC (v := 0) k_iconst_0 dX12_readExpr_1 ?_
  obtain ⟨hk1, h⟩ := h
  refine pf_RX12_219 hC dX12_readExpr_2 hk1 ?_
  refine z_genI (fun I2 eI2 => ?_)
  have h := h I2 eI2
  refine z_aload_n hC (q := 0) dX12_readExpr_5 rfl rfl ?_
  obtain ⟨b3, hb3, h⟩ := h
  refine gf_RX12_101 hC dX12_readExpr_6 hk1 hb3 ?_
  refine z_sipush hC (v := 198) k_sipush_198 dX12_readExpr_9 ?_
  refine z_iload_n hC (q := 1) dX12_readExpr_12 rfl rfl ?_
  refine z_iadd hC dX12_readExpr_13 ?_
  refine z_iconst hC (v := 0) k_iconst_0 dX12_readExpr_14 ?_
  obtain ⟨hk4, h⟩ := h
  obtain ⟨hi5, h⟩ := h
  refine z_iastore hC hk4 hi5 dX12_readExpr_15 ?_
  refine z_genI (fun I6 eI6 => ?_)
  have h := h I6 eI6
  refine z_aload_n hC (q := 0) dX12_readExpr_16 rfl rfl ?_
  refine z_bipush hC (v := 7) k_bipush_7 dX12_readExpr_17 ?_
  refine cl_RX12_207 hC (c_X12_isWord _ G a0 7 K N I6 L R _ h) hk1 dX12_readExpr_19 (by rw [hRm]; exact ⟨Nat.le_of_ble_eq_true rfl, Nat.le_of_ble_eq_true rfl⟩) ⟨Nat.zero_le _, Nat.zero_le _⟩ (Nat.le_of_ble_eq_true rfl) (z_kPz (fun r7 h => ?_))
  refine z_ifz_eq hC (tgt := 57) dX12_readExpr_22 (by decide) (fun hc => ?_) (fun hc => ?_)
  · have h := h.1 hc
    refine z_aload_n hC (q := 0) dX12_readExpr_57 rfl rfl ?_
    refine gf_RX12_101 hC dX12_readExpr_58 hk1 hb3 ?_
    refine z_sipush hC (v := 182) k_sipush_182 dX12_readExpr_61 ?_
    refine z_iload_n hC (q := 1) dX12_readExpr_64 rfl rfl ?_
    refine z_iadd hC dX12_readExpr_65 ?_
    refine z_iconst hC (v := 0) k_iconst_0 dX12_readExpr_66 ?_
    obtain ⟨hi8, h⟩ := h
    refine z_iastore hC hk4 hi8 dX12_readExpr_67 ?_
    refine z_genI (fun I9 eI9 => ?_)
    have h := h I9 eI9
    refine z_aload_n hC (q := 0) dX12_readExpr_68 rfl rfl ?_
    refine cl_RX12_222 hC (c_X12_isOp _ G a0 K N I9 L R _ h) hk1 dX12_readExpr_69 (by rw [hRm]; exact ⟨Nat.le_of_ble_eq_true rfl, Nat.le_of_ble_eq_true rfl⟩) ⟨Nat.zero_le _, Nat.zero_le _⟩ (Nat.le_of_ble_eq_true rfl) (z_kPz (fun r10 h => ?_))
    refine z_ifz_ne hC (tgt := 81) dX12_readExpr_72 (by decide) (fun hc => ?_) (fun hc => ?_)
    · have h := h.1 hc
      exact z_sub [(0, .ref a0), (1, .int a1)] [0, 1] rfl (z_X12_readExpr_81 hC hRm h)
    · have h := h.2 hc
      refine z_aload_n hC (q := 0) dX12_readExpr_75 rfl rfl ?_
      refine z_iconst hC (v := 1) k_iconst_1 dX12_readExpr_76 ?_
      refine cl_RX12_72 hC (c_X12_bad _ G a0 1 K N I9 L R _ h) hk1 dX12_readExpr_77 (by rw [hRm]; exact ⟨Nat.le_of_ble_eq_true rfl, Nat.le_of_ble_eq_true rfl⟩) ⟨Nat.zero_le _, Nat.zero_le _⟩ (Nat.le_of_ble_eq_true rfl) (z_kIz (I := I9) (fun r29 I30 h => ?_))
      exact z_zret (b := r29) hC dX12_readExpr_80 rfl ⟨r29, rfl, rfl, rfl, rfl, h⟩
  · have h := h.2 hc
    refine z_aload_n hC (q := 0) dX12_readExpr_25 rfl rfl ?_
    refine cl_RX12_82 hC (c_X12_go _ G a0 K N I6 L R _ h) hk1 dX12_readExpr_26 (by rw [hRm]; exact ⟨Nat.le_of_ble_eq_true rfl, Nat.le_of_ble_eq_true rfl⟩) ⟨Nat.zero_le _, Nat.zero_le _⟩ (Nat.le_of_ble_eq_true rfl) (z_kLv (I := I6) (L := L) (fun I31 L32 h => ?_))
    refine z_aload_n hC (q := 0) dX12_readExpr_29 rfl rfl ?_
    refine gf_RX12_101 hC dX12_readExpr_30 hk1 hb3 ?_
    refine z_sipush hC (v := 182) k_sipush_182 dX12_readExpr_33 ?_
    refine z_iload_n hC (q := 1) dX12_readExpr_36 rfl rfl ?_
    refine z_iadd hC dX12_readExpr_37 ?_
    refine z_iconst hC (v := 2) k_iconst_2 dX12_readExpr_38 ?_
    obtain ⟨hi33, h⟩ := h
    refine z_iastore hC hk4 hi33 dX12_readExpr_39 ?_
    refine z_genI (fun I34 eI34 => ?_)
    have h := h I34 eI34
    refine z_aload_n hC (q := 0) dX12_readExpr_40 rfl rfl ?_
    refine z_sipush hC (v := 198) k_sipush_198 dX12_readExpr_41 ?_
    refine z_iload_n hC (q := 1) dX12_readExpr_44 rfl rfl ?_
    refine z_iadd hC dX12_readExpr_45 ?_
    refine z_aload_n hC (q := 0) dX12_readExpr_46 rfl rfl ?_
    refine z_iconst hC (v := 0) k_iconst_0 dX12_readExpr_47 ?_
    refine z_bipush hC (v := 7) k_bipush_7 dX12_readExpr_48 ?_
    refine cl_RX12_187 hC (c_X12_readNumber _ G a0 0 7 K N I34 L32 R _ h) hk1 dX12_readExpr_50 (by rw [hRm]; exact ⟨Nat.le_of_ble_eq_true rfl, Nat.le_of_ble_eq_true rfl⟩) ⟨Nat.zero_le _, Nat.zero_le _⟩ (Nat.le_of_ble_eq_true rfl) (z_kLz (I := I34) (L := L32) (fun r35 I36 L37 h => ?_))
    refine cl_RX12_200 hC (c_X12_put _ G a0 ((198 : Int32) + a1) r35 K N I36 L37 R _ h) hk1 dX12_readExpr_53 (by rw [hRm]; exact ⟨Nat.le_of_ble_eq_true rfl, Nat.le_of_ble_eq_true rfl⟩) ⟨Nat.zero_le _, Nat.zero_le _⟩ (Nat.le_of_ble_eq_true rfl) (z_kIz (I := I36) (fun r38 I39 h => ?_))
    exact z_zret (b := r38) hC dX12_readExpr_56 rfl ⟨r38, rfl, rfl, rfl, rfl, h⟩
def w_X12_readWhere  (a0 : Nat) (K : MK) (N : MK) (I : MI) (L : ML) (R : MR) (Q : Bool → MI → ML → Prop) : Prop := K a0 = 13 ∧ w_X12_readFirst a0 5 16 K N I L R (fun r2 I3 L4 => (r2 = true → ∃ b5 : Nat, R a0 15 = some b5 ∧ K b5 = 14 ∧ vp_in 5 (N b5) ∧ ∀ v8 : Int32, v8 = (I3 b5 (ix 5)) → vp_in 4 (N b5) ∧ w_X12_readTold a0 16 (I3 b5 (ix 4)) K N I3 L4 R (fun r10 I11 L12 => w_X12_put a0 ((134 : Int32) + v8) r10 K N I11 L12 R (fun r13 I14 => (r13 = false → Q false I14 L12) ∧ (r13 = true → vp_in 0 (N b5) ∧ w_X12_readNumber a0 0 ((I14 b5 (ix 0)) - 1) K N I14 L12 R (fun r16 I17 L18 => w_X12_put a0 ((150 : Int32) + v8) r16 K N I17 L18 R (fun r19 I20 => (r19 = false → Q false I20 L18) ∧ (r19 = true → vp_in ((150 : Int32) + v8) (N b5) ∧ w_X12_isNumber a0 ((I20 b5 (ix ((150 : Int32) + v8))) + 1) (I20 b5 (ix 0)) K N I20 L18 R (fun r22 I23 => (r22 = true → vp_in ((134 : Int32) + v8) (N b5) ∧ w_X12_isRange a0 (I23 b5 (ix ((134 : Int32) + v8))) (I23 b5 (ix ((150 : Int32) + v8))) (I23 a0 8) K N I23 L18 R (fun r25 => (r25 = true → vp_in ((166 : Int32) + v8) (N b5) ∧ ∀ I27 : MI, I27 = mup I23 b5 (ix ((166 : Int32) + v8)) (I23 a0 8) → w_X12_go a0 K N I27 L18 R (fun I28 L29 => w_X12_readExpr a0 v8 K N I28 L29 R (fun r30 I31 L32 => (r30 = true → ∀ I33 : MI, I33 = mup I31 b5 (ix 5) ((I31 b5 (ix 5)) + 1) → Q true I33 L32) ∧ (r30 = false → Q false I31 L32)))) ∧ (r25 = false → w_X12_bad a0 3 K N I23 L18 R (fun r34 I35 => Q r34 I35 L18)))) ∧ (r22 = false → Q false I23 L18))))))))) ∧ (r2 = false → Q false I3 L4))
set_option maxHeartbeats 4000000 in
set_option maxRecDepth 100000 in
theorem c_X12_readWhere  (l : Launch) (G : ZG) (a0 : Nat) (K : MK) (N : MK) (I : MI) (L : ML) (R : MR) (Q : Bool → MI → ML → Prop) (h : w_X12_readWhere a0 K N I L R Q) : Met l yX12_readWhere (.code yX12_readWhere cX12_readWhere 2 (some .boolean) :: z_tbl) rm_X12_readWhere (z_Pc G [.ref a0] K N I L R) (z_Qc G (qLz K N R Q)) 0 0 (z_A G) := by
  refine z_met (by decide) (Nat.le_of_ble_eq_true rfl) (fun X hX hRm hC0 hnm => ?_)
  subst hX
  have hC : ZOk X G RX12 cX12_readWhere 2 (some .boolean) := hC0
  show Z X G 2 0 0 _ K N I L R 0 [(0, .ref a0)] []
  delta w_X12_readWhere at h
  refine z_aload_n hC (q := 0) dX12_readWhere_0 rfl rfl ?_
  refine z_iconst hC (v := 5) k_iconst_5 dX12_readWhere_1 ?_
  refine z_bipush hC (v := 16) k_bipush_16 dX12_readWhere_2 ?_
  obtain ⟨hk1, h⟩ := h
  refine cl_RX12_180 hC (c_X12_readFirst _ G a0 5 16 K N I L R _ h) hk1 dX12_readWhere_4 (by rw [hRm]; exact ⟨Nat.le_of_ble_eq_true rfl, Nat.le_of_ble_eq_true rfl⟩) ⟨Nat.zero_le _, Nat.zero_le _⟩ (Nat.le_of_ble_eq_true rfl) (z_kLz (I := I) (L := L) (fun r2 I3 L4 h => ?_))
  refine z_ifz_ne hC (tgt := 12) dX12_readWhere_7 (by decide) (fun hc => ?_) (fun hc => ?_)
  · have h := h.1 hc
    refine z_aload_n hC (q := 0) dX12_readWhere_12 rfl rfl ?_
    obtain ⟨b5, hb5, h⟩ := h
    refine gf_RX12_101 hC dX12_readWhere_13 hk1 hb5 ?_
    refine z_iconst hC (v := 5) k_iconst_5 dX12_readWhere_16 ?_
    obtain ⟨hk6, h⟩ := h
    obtain ⟨hi7, h⟩ := h
    refine z_iaload hC hk6 hi7 dX12_readWhere_17 ?_
    refine z_topi (fun v8 ev8 => ?_)
    have h := h v8 ev8
    refine z_istore_n hC (lv1 := [(1, .int v8), (0, .ref a0)]) dX12_readWhere_18 rfl (by decide) rfl ?_
    refine z_aload_n hC (q := 1) dX12_readWhere_19 rfl rfl ?_
    refine z_sipush hC (v := 134) k_sipush_134 dX12_readWhere_20 ?_
    refine z_iload_n hC (q := 0) dX12_readWhere_23 rfl rfl ?_
    refine z_iadd hC dX12_readWhere_24 ?_
    refine z_aload_n hC (q := 1) dX12_readWhere_25 rfl rfl ?_
    refine z_bipush hC (v := 16) k_bipush_16 dX12_readWhere_26 ?_
    refine z_aload_n hC (q := 1) dX12_readWhere_28 rfl rfl ?_
    refine gf_RX12_101 hC dX12_readWhere_29 hk1 hb5 ?_
    refine z_iconst hC (v := 4) k_iconst_4 dX12_readWhere_32 ?_
    obtain ⟨hi9, h⟩ := h
    refine z_iaload hC hk6 hi9 dX12_readWhere_33 ?_
    refine cl_RX12_210 hC (c_X12_readTold _ G a0 16 (I3 b5 (ix 4)) K N I3 L4 R _ h) hk1 dX12_readWhere_34 (by rw [hRm]; exact ⟨Nat.le_of_ble_eq_true rfl, Nat.le_of_ble_eq_true rfl⟩) ⟨Nat.zero_le _, Nat.zero_le _⟩ (Nat.le_of_ble_eq_true rfl) (z_kLz (I := I3) (L := L4) (fun r10 I11 L12 h => ?_))
    refine cl_RX12_200 hC (c_X12_put _ G a0 ((134 : Int32) + v8) r10 K N I11 L12 R _ h) hk1 dX12_readWhere_37 (by rw [hRm]; exact ⟨Nat.le_of_ble_eq_true rfl, Nat.le_of_ble_eq_true rfl⟩) ⟨Nat.zero_le _, Nat.zero_le _⟩ (Nat.le_of_ble_eq_true rfl) (z_kIz (I := I11) (fun r13 I14 h => ?_))
    refine z_ifz_eq hC (tgt := 93) dX12_readWhere_40 (by decide) (fun hc => ?_) (fun hc => ?_)
    · have h := h.1 hc
      refine z_iconst hC (v := 0) k_iconst_0 dX12_readWhere_93 ?_
      exact z_zret (b := false) hC dX12_readWhere_94 rfl ⟨false, rfl, rfl, rfl, rfl, h⟩
    · have h := h.2 hc
      refine z_aload_n hC (q := 1) dX12_readWhere_43 rfl rfl ?_
      refine z_sipush hC (v := 150) k_sipush_150 dX12_readWhere_44 ?_
      refine z_iload_n hC (q := 0) dX12_readWhere_47 rfl rfl ?_
      refine z_iadd hC dX12_readWhere_48 ?_
      refine z_aload_n hC (q := 1) dX12_readWhere_49 rfl rfl ?_
      refine z_iconst hC (v := 0) k_iconst_0 dX12_readWhere_50 ?_
      refine z_aload_n hC (q := 1) dX12_readWhere_51 rfl rfl ?_
      refine gf_RX12_101 hC dX12_readWhere_52 hk1 hb5 ?_
      refine z_iconst hC (v := 0) k_iconst_0 dX12_readWhere_55 ?_
      obtain ⟨hi15, h⟩ := h
      refine z_iaload hC hk6 hi15 dX12_readWhere_56 ?_
      refine z_iconst hC (v := 1) k_iconst_1 dX12_readWhere_57 ?_
      refine z_isub hC dX12_readWhere_58 ?_
      refine cl_RX12_187 hC (c_X12_readNumber _ G a0 0 ((I14 b5 (ix 0)) - 1) K N I14 L12 R _ h) hk1 dX12_readWhere_59 (by rw [hRm]; exact ⟨Nat.le_of_ble_eq_true rfl, Nat.le_of_ble_eq_true rfl⟩) ⟨Nat.zero_le _, Nat.zero_le _⟩ (Nat.le_of_ble_eq_true rfl) (z_kLz (I := I14) (L := L12) (fun r16 I17 L18 h => ?_))
      refine cl_RX12_200 hC (c_X12_put _ G a0 ((150 : Int32) + v8) r16 K N I17 L18 R _ h) hk1 dX12_readWhere_62 (by rw [hRm]; exact ⟨Nat.le_of_ble_eq_true rfl, Nat.le_of_ble_eq_true rfl⟩) ⟨Nat.zero_le _, Nat.zero_le _⟩ (Nat.le_of_ble_eq_true rfl) (z_kIz (I := I17) (fun r19 I20 h => ?_))
      refine z_ifz_eq hC (tgt := 93) dX12_readWhere_65 (by decide) (fun hc => ?_) (fun hc => ?_)
      · have h := h.1 hc
        refine z_iconst hC (v := 0) k_iconst_0 dX12_readWhere_93 ?_
        exact z_zret (b := false) hC dX12_readWhere_94 rfl ⟨false, rfl, rfl, rfl, rfl, h⟩
      · have h := h.2 hc
        refine z_aload_n hC (q := 1) dX12_readWhere_68 rfl rfl ?_
        refine z_aload_n hC (q := 1) dX12_readWhere_69 rfl rfl ?_
        refine gf_RX12_101 hC dX12_readWhere_70 hk1 hb5 ?_
        refine z_sipush hC (v := 150) k_sipush_150 dX12_readWhere_73 ?_
        refine z_iload_n hC (q := 0) dX12_readWhere_76 rfl rfl ?_
        refine z_iadd hC dX12_readWhere_77 ?_
        obtain ⟨hi21, h⟩ := h
        refine z_iaload hC hk6 hi21 dX12_readWhere_78 ?_
        refine z_iconst hC (v := 1) k_iconst_1 dX12_readWhere_79 ?_
        refine z_iadd hC dX12_readWhere_80 ?_
        refine z_aload_n hC (q := 1) dX12_readWhere_81 rfl rfl ?_
        refine gf_RX12_101 hC dX12_readWhere_82 hk1 hb5 ?_
        refine z_iconst hC (v := 0) k_iconst_0 dX12_readWhere_85 ?_
        refine z_iaload hC hk6 hi15 dX12_readWhere_86 ?_
        refine cl_RX12_184 hC (c_X12_isNumber _ G a0 ((I20 b5 (ix ((150 : Int32) + v8))) + 1) (I20 b5 (ix 0)) K N I20 L18 R _ h) hk1 dX12_readWhere_87 (by rw [hRm]; exact ⟨Nat.le_of_ble_eq_true rfl, Nat.le_of_ble_eq_true rfl⟩) ⟨Nat.zero_le _, Nat.zero_le _⟩ (Nat.le_of_ble_eq_true rfl) (z_kIz (I := I20) (fun r22 I23 h => ?_))
        refine z_ifz_ne hC (tgt := 95) dX12_readWhere_90 (by decide) (fun hc => ?_) (fun hc => ?_)
        · have h := h.1 hc
          refine z_aload_n hC (q := 1) dX12_readWhere_95 rfl rfl ?_
          refine z_aload_n hC (q := 1) dX12_readWhere_96 rfl rfl ?_
          refine gf_RX12_101 hC dX12_readWhere_97 hk1 hb5 ?_
          refine z_sipush hC (v := 134) k_sipush_134 dX12_readWhere_100 ?_
          refine z_iload_n hC (q := 0) dX12_readWhere_103 rfl rfl ?_
          refine z_iadd hC dX12_readWhere_104 ?_
          obtain ⟨hi24, h⟩ := h
          refine z_iaload hC hk6 hi24 dX12_readWhere_105 ?_
          refine z_aload_n hC (q := 1) dX12_readWhere_106 rfl rfl ?_
          refine gf_RX12_101 hC dX12_readWhere_107 hk1 hb5 ?_
          refine z_sipush hC (v := 150) k_sipush_150 dX12_readWhere_110 ?_
          refine z_iload_n hC (q := 0) dX12_readWhere_113 rfl rfl ?_
          refine z_iadd hC dX12_readWhere_114 ?_
          refine z_iaload hC hk6 hi21 dX12_readWhere_115 ?_
          refine z_aload_n hC (q := 1) dX12_readWhere_116 rfl rfl ?_
          refine gf_RX12_47 hC dX12_readWhere_117 hk1 ?_
          refine cl_RX12_213 hC (c_X12_isRange _ G a0 (I23 b5 (ix ((134 : Int32) + v8))) (I23 b5 (ix ((150 : Int32) + v8))) (I23 a0 8) K N I23 L18 R _ h) hk1 dX12_readWhere_120 (by rw [hRm]; exact ⟨Nat.le_of_ble_eq_true rfl, Nat.le_of_ble_eq_true rfl⟩) ⟨Nat.zero_le _, Nat.zero_le _⟩ (Nat.le_of_ble_eq_true rfl) (z_kPz (fun r25 h => ?_))
          refine z_ifz_ne hC (tgt := 132) dX12_readWhere_123 (by decide) (fun hc => ?_) (fun hc => ?_)
          · have h := h.1 hc
            refine z_aload_n hC (q := 1) dX12_readWhere_132 rfl rfl ?_
            refine gf_RX12_101 hC dX12_readWhere_133 hk1 hb5 ?_
            refine z_sipush hC (v := 166) k_sipush_166 dX12_readWhere_136 ?_
            refine z_iload_n hC (q := 0) dX12_readWhere_139 rfl rfl ?_
            refine z_iadd hC dX12_readWhere_140 ?_
            refine z_aload_n hC (q := 1) dX12_readWhere_141 rfl rfl ?_
            refine gf_RX12_47 hC dX12_readWhere_142 hk1 ?_
            obtain ⟨hi26, h⟩ := h
            refine z_iastore hC hk6 hi26 dX12_readWhere_145 ?_
            refine z_genI (fun I27 eI27 => ?_)
            have h := h I27 eI27
            refine z_aload_n hC (q := 1) dX12_readWhere_146 rfl rfl ?_
            refine cl_RX12_82 hC (c_X12_go _ G a0 K N I27 L18 R _ h) hk1 dX12_readWhere_147 (by rw [hRm]; exact ⟨Nat.le_of_ble_eq_true rfl, Nat.le_of_ble_eq_true rfl⟩) ⟨Nat.zero_le _, Nat.zero_le _⟩ (Nat.le_of_ble_eq_true rfl) (z_kLv (I := I27) (L := L18) (fun I28 L29 h => ?_))
            refine z_aload_n hC (q := 1) dX12_readWhere_150 rfl rfl ?_
            refine z_iload_n hC (q := 0) dX12_readWhere_151 rfl rfl ?_
            refine cl_RX12_216 hC (c_X12_readExpr _ G a0 v8 K N I28 L29 R _ h) hk1 dX12_readWhere_152 (by rw [hRm]; exact ⟨Nat.le_of_ble_eq_true rfl, Nat.le_of_ble_eq_true rfl⟩) ⟨Nat.zero_le _, Nat.zero_le _⟩ (Nat.le_of_ble_eq_true rfl) (z_kLz (I := I28) (L := L29) (fun r30 I31 L32 h => ?_))
            refine z_ifz_ne hC (tgt := 160) dX12_readWhere_155 (by decide) (fun hc => ?_) (fun hc => ?_)
            · have h := h.1 hc
              refine z_aload_n hC (q := 1) dX12_readWhere_160 rfl rfl ?_
              refine gf_RX12_101 hC dX12_readWhere_161 hk1 hb5 ?_
              refine z_iconst hC (v := 5) k_iconst_5 dX12_readWhere_164 ?_
              refine z_dup2 hC rfl rfl dX12_readWhere_165 ?_
              refine z_iaload hC hk6 hi7 dX12_readWhere_166 ?_
              refine z_iconst hC (v := 1) k_iconst_1 dX12_readWhere_167 ?_
              refine z_iadd hC dX12_readWhere_168 ?_
              refine z_iastore hC hk6 hi7 dX12_readWhere_169 ?_
              refine z_genI (fun I33 eI33 => ?_)
              have h := h I33 eI33
              refine z_iconst hC (v := 1) k_iconst_1 dX12_readWhere_170 ?_
              exact z_zret (b := true) hC dX12_readWhere_171 rfl ⟨true, rfl, rfl, rfl, rfl, h⟩
            · have h := h.2 hc
              refine z_iconst hC (v := 0) k_iconst_0 dX12_readWhere_158 ?_
              exact z_zret (b := false) hC dX12_readWhere_159 rfl ⟨false, rfl, rfl, rfl, rfl, h⟩
          · have h := h.2 hc
            refine z_aload_n hC (q := 1) dX12_readWhere_126 rfl rfl ?_
            refine z_iconst hC (v := 3) k_iconst_3 dX12_readWhere_127 ?_
            refine cl_RX12_72 hC (c_X12_bad _ G a0 3 K N I23 L18 R _ h) hk1 dX12_readWhere_128 (by rw [hRm]; exact ⟨Nat.le_of_ble_eq_true rfl, Nat.le_of_ble_eq_true rfl⟩) ⟨Nat.zero_le _, Nat.zero_le _⟩ (Nat.le_of_ble_eq_true rfl) (z_kIz (I := I23) (fun r34 I35 h => ?_))
            exact z_zret (b := r34) hC dX12_readWhere_131 rfl ⟨r34, rfl, rfl, rfl, rfl, h⟩
        · have h := h.2 hc
          refine z_iconst hC (v := 0) k_iconst_0 dX12_readWhere_93 ?_
          exact z_zret (b := false) hC dX12_readWhere_94 rfl ⟨false, rfl, rfl, rfl, rfl, h⟩
  · have h := h.2 hc
    refine z_iconst hC (v := 0) k_iconst_0 dX12_readWhere_10 ?_
    exact z_zret (b := false) hC dX12_readWhere_11 rfl ⟨false, rfl, rfl, rfl, rfl, h⟩
def w_X12_readSize  (a0 : Nat) (a1 : Int32) (K : MK) (N : MK) (I : MI) (L : ML) (R : MR) (Q : Bool → MI → ML → Prop) : Prop := (a1 ≤ 0 → K a0 = 13 ∧ w_X12_go a0 K N I L R (fun I2 L3 => w_X12_readNumber a0 1 256 K N I2 L3 R (fun r4 I5 L6 => w_X12_put a0 0 r4 K N I5 L6 R (fun r7 I8 => Q r7 I8 L6)))) ∧ (¬ a1 ≤ 0 → K a0 = 13 ∧ w_X12_bad a0 3 K N I L R (fun r10 I11 => Q r10 I11 L))
set_option maxHeartbeats 4000000 in
set_option maxRecDepth 100000 in
theorem c_X12_readSize  (l : Launch) (G : ZG) (a0 : Nat) (a1 : Int32) (K : MK) (N : MK) (I : MI) (L : ML) (R : MR) (Q : Bool → MI → ML → Prop) (h : w_X12_readSize a0 a1 K N I L R Q) : Met l yX12_readSize (.code yX12_readSize cX12_readSize 2 (some .boolean) :: z_tbl) rm_X12_readSize (z_Pc G [.ref a0, .int a1] K N I L R) (z_Qc G (qLz K N R Q)) 0 0 (z_A G) := by
  refine z_met (by decide) (Nat.le_of_ble_eq_true rfl) (fun X hX hRm hC0 hnm => ?_)
  subst hX
  have hC : ZOk X G RX12 cX12_readSize 2 (some .boolean) := hC0
  show Z X G 2 0 0 _ K N I L R 0 [(0, .ref a0), (1, .int a1)] []
  delta w_X12_readSize at h
  refine z_iload_n hC (q := 1) dX12_readSize_0 rfl rfl ?_
  refine z_if_le hC (tgt := 10) dX12_readSize_1 (by decide) (fun hc => ?_) (fun hc => ?_)
  · have h := h.1 hc
    refine z_aload_n hC (q := 0) dX12_readSize_10 rfl rfl ?_
    obtain ⟨hk1, h⟩ := h
    refine cl_RX12_82 hC (c_X12_go _ G a0 K N I L R _ h) hk1 dX12_readSize_11 (by rw [hRm]; exact ⟨Nat.le_of_ble_eq_true rfl, Nat.le_of_ble_eq_true rfl⟩) ⟨Nat.zero_le _, Nat.zero_le _⟩ (Nat.le_of_ble_eq_true rfl) (z_kLv (I := I) (L := L) (fun I2 L3 h => ?_))
    refine z_aload_n hC (q := 0) dX12_readSize_14 rfl rfl ?_
    refine z_iconst hC (v := 0) k_iconst_0 dX12_readSize_15 ?_
    refine z_aload_n hC (q := 0) dX12_readSize_16 rfl rfl ?_
    refine z_iconst hC (v := 1) k_iconst_1 dX12_readSize_17 ?_
    refine z_sipush hC (v := 256) k_sipush_256 dX12_readSize_18 ?_
    refine cl_RX12_187 hC (c_X12_readNumber _ G a0 1 256 K N I2 L3 R _ h) hk1 dX12_readSize_21 (by rw [hRm]; exact ⟨Nat.le_of_ble_eq_true rfl, Nat.le_of_ble_eq_true rfl⟩) ⟨Nat.zero_le _, Nat.zero_le _⟩ (Nat.le_of_ble_eq_true rfl) (z_kLz (I := I2) (L := L3) (fun r4 I5 L6 h => ?_))
    refine cl_RX12_200 hC (c_X12_put _ G a0 0 r4 K N I5 L6 R _ h) hk1 dX12_readSize_24 (by rw [hRm]; exact ⟨Nat.le_of_ble_eq_true rfl, Nat.le_of_ble_eq_true rfl⟩) ⟨Nat.zero_le _, Nat.zero_le _⟩ (Nat.le_of_ble_eq_true rfl) (z_kIz (I := I5) (fun r7 I8 h => ?_))
    exact z_zret (b := r7) hC dX12_readSize_27 rfl ⟨r7, rfl, rfl, rfl, rfl, h⟩
  · have h := h.2 hc
    refine z_aload_n hC (q := 0) dX12_readSize_4 rfl rfl ?_
    refine z_iconst hC (v := 3) k_iconst_3 dX12_readSize_5 ?_
    obtain ⟨hk9, h⟩ := h
    refine cl_RX12_72 hC (c_X12_bad _ G a0 3 K N I L R _ h) hk9 dX12_readSize_6 (by rw [hRm]; exact ⟨Nat.le_of_ble_eq_true rfl, Nat.le_of_ble_eq_true rfl⟩) ⟨Nat.zero_le _, Nat.zero_le _⟩ (Nat.le_of_ble_eq_true rfl) (z_kIz (I := I) (fun r10 I11 h => ?_))
    exact z_zret (b := r10) hC dX12_readSize_9 rfl ⟨r10, rfl, rfl, rfl, rfl, h⟩
def w_X12_readLine  (a0 : Nat) (a1 : Int32) (K : MK) (N : MK) (I : MI) (L : ML) (R : MR) (Q : Bool → MI → ML → Prop) : Prop := K a0 = 13 ∧ w_X12_isWord a0 0 K N I L R (fun r2 => (r2 = false → w_X12_isWord a0 1 K N I L R (fun r3 => (r3 = false → w_X12_isWord a0 2 K N I L R (fun r4 => (r4 = false → w_X12_isWord a0 3 K N I L R (fun r5 => (r5 = false → w_X12_isWord a0 5 K N I L R (fun r6 => (r6 = false → w_X12_isWord a0 6 K N I L R (fun r7 => (r7 = false → w_X12_bad a0 1 K N I L R (fun r8 I9 => Q r8 I9 L)) ∧ (r7 = true → w_X12_readWhere a0 K N I L R (fun r10 I11 L12 => Q r10 I11 L12)))) ∧ (r6 = true → w_X12_readVar a0 K N I L R (fun r13 I14 L15 => Q r13 I14 L15)))) ∧ (r5 = true → w_X12_readType a0 K N I L R (fun r16 I17 L18 => Q r16 I17 L18)))) ∧ (r4 = true → w_X12_readScope a0 K N I L R (fun r19 I20 L21 => Q r19 I20 L21)))) ∧ (r3 = true → w_X12_readRow a0 K N I L R (fun r22 I23 L24 => Q r22 I23 L24)))) ∧ (r2 = true → w_X12_readSize a0 a1 K N I L R (fun r25 I26 L27 => Q r25 I26 L27)))
set_option maxHeartbeats 4000000 in
set_option maxRecDepth 100000 in
theorem c_X12_readLine  (l : Launch) (G : ZG) (a0 : Nat) (a1 : Int32) (K : MK) (N : MK) (I : MI) (L : ML) (R : MR) (Q : Bool → MI → ML → Prop) (h : w_X12_readLine a0 a1 K N I L R Q) : Met l yX12_readLine (.code yX12_readLine cX12_readLine 2 (some .boolean) :: z_tbl) rm_X12_readLine (z_Pc G [.ref a0, .int a1] K N I L R) (z_Qc G (qLz K N R Q)) 0 0 (z_A G) := by
  refine z_met (by decide) (Nat.le_of_ble_eq_true rfl) (fun X hX hRm hC0 hnm => ?_)
  subst hX
  have hC : ZOk X G RX12 cX12_readLine 2 (some .boolean) := hC0
  show Z X G 2 0 0 _ K N I L R 0 [(0, .ref a0), (1, .int a1)] []
  delta w_X12_readLine at h
  refine z_aload_n hC (q := 0) dX12_readLine_0 rfl rfl ?_
  refine z_iconst hC (v := 0) k_iconst_0 dX12_readLine_1 ?_
  obtain ⟨hk1, h⟩ := h
  refine cl_RX12_207 hC (c_X12_isWord _ G a0 0 K N I L R _ h) hk1 dX12_readLine_2 (by rw [hRm]; exact ⟨Nat.le_of_ble_eq_true rfl, Nat.le_of_ble_eq_true rfl⟩) ⟨Nat.zero_le _, Nat.zero_le _⟩ (Nat.le_of_ble_eq_true rfl) (z_kPz (fun r2 h => ?_))
  refine z_ifz_eq hC (tgt := 14) dX12_readLine_5 (by decide) (fun hc => ?_) (fun hc => ?_)
  · have h := h.1 hc
    refine z_aload_n hC (q := 0) dX12_readLine_14 rfl rfl ?_
    refine z_iconst hC (v := 1) k_iconst_1 dX12_readLine_15 ?_
    refine cl_RX12_207 hC (c_X12_isWord _ G a0 1 K N I L R _ h) hk1 dX12_readLine_16 (by rw [hRm]; exact ⟨Nat.le_of_ble_eq_true rfl, Nat.le_of_ble_eq_true rfl⟩) ⟨Nat.zero_le _, Nat.zero_le _⟩ (Nat.le_of_ble_eq_true rfl) (z_kPz (fun r3 h => ?_))
    refine z_ifz_eq hC (tgt := 27) dX12_readLine_19 (by decide) (fun hc => ?_) (fun hc => ?_)
    · have h := h.1 hc
      refine z_aload_n hC (q := 0) dX12_readLine_27 rfl rfl ?_
      refine z_iconst hC (v := 2) k_iconst_2 dX12_readLine_28 ?_
      refine cl_RX12_207 hC (c_X12_isWord _ G a0 2 K N I L R _ h) hk1 dX12_readLine_29 (by rw [hRm]; exact ⟨Nat.le_of_ble_eq_true rfl, Nat.le_of_ble_eq_true rfl⟩) ⟨Nat.zero_le _, Nat.zero_le _⟩ (Nat.le_of_ble_eq_true rfl) (z_kPz (fun r4 h => ?_))
      refine z_ifz_eq hC (tgt := 40) dX12_readLine_32 (by decide) (fun hc => ?_) (fun hc => ?_)
      · have h := h.1 hc
        refine z_aload_n hC (q := 0) dX12_readLine_40 rfl rfl ?_
        refine z_iconst hC (v := 3) k_iconst_3 dX12_readLine_41 ?_
        refine cl_RX12_207 hC (c_X12_isWord _ G a0 3 K N I L R _ h) hk1 dX12_readLine_42 (by rw [hRm]; exact ⟨Nat.le_of_ble_eq_true rfl, Nat.le_of_ble_eq_true rfl⟩) ⟨Nat.zero_le _, Nat.zero_le _⟩ (Nat.le_of_ble_eq_true rfl) (z_kPz (fun r5 h => ?_))
        refine z_ifz_eq hC (tgt := 53) dX12_readLine_45 (by decide) (fun hc => ?_) (fun hc => ?_)
        · have h := h.1 hc
          refine z_aload_n hC (q := 0) dX12_readLine_53 rfl rfl ?_
          refine z_iconst hC (v := 5) k_iconst_5 dX12_readLine_54 ?_
          refine cl_RX12_207 hC (c_X12_isWord _ G a0 5 K N I L R _ h) hk1 dX12_readLine_55 (by rw [hRm]; exact ⟨Nat.le_of_ble_eq_true rfl, Nat.le_of_ble_eq_true rfl⟩) ⟨Nat.zero_le _, Nat.zero_le _⟩ (Nat.le_of_ble_eq_true rfl) (z_kPz (fun r6 h => ?_))
          refine z_ifz_eq hC (tgt := 66) dX12_readLine_58 (by decide) (fun hc => ?_) (fun hc => ?_)
          · have h := h.1 hc
            refine z_aload_n hC (q := 0) dX12_readLine_66 rfl rfl ?_
            refine z_bipush hC (v := 6) k_bipush_6 dX12_readLine_67 ?_
            refine cl_RX12_207 hC (c_X12_isWord _ G a0 6 K N I L R _ h) hk1 dX12_readLine_69 (by rw [hRm]; exact ⟨Nat.le_of_ble_eq_true rfl, Nat.le_of_ble_eq_true rfl⟩) ⟨Nat.zero_le _, Nat.zero_le _⟩ (Nat.le_of_ble_eq_true rfl) (z_kPz (fun r7 h => ?_))
            refine z_ifz_eq hC (tgt := 82) dX12_readLine_72 (by decide) (fun hc => ?_) (fun hc => ?_)
            · have h := h.1 hc
              refine z_aload_n hC (q := 0) dX12_readLine_82 rfl rfl ?_
              refine z_iconst hC (v := 1) k_iconst_1 dX12_readLine_83 ?_
              refine cl_RX12_72 hC (c_X12_bad _ G a0 1 K N I L R _ h) hk1 dX12_readLine_84 (by rw [hRm]; exact ⟨Nat.le_of_ble_eq_true rfl, Nat.le_of_ble_eq_true rfl⟩) ⟨Nat.zero_le _, Nat.zero_le _⟩ (Nat.le_of_ble_eq_true rfl) (z_kIz (I := I) (fun r8 I9 h => ?_))
              exact z_zret (b := r8) hC dX12_readLine_87 rfl ⟨r8, rfl, rfl, rfl, rfl, h⟩
            · have h := h.2 hc
              refine z_aload_n hC (q := 0) dX12_readLine_75 rfl rfl ?_
              refine cl_RX12_243 hC (c_X12_readWhere _ G a0 K N I L R _ h) hk1 dX12_readLine_76 (by rw [hRm]; exact ⟨Nat.le_of_ble_eq_true rfl, Nat.le_of_ble_eq_true rfl⟩) ⟨Nat.zero_le _, Nat.zero_le _⟩ (Nat.le_of_ble_eq_true rfl) (z_kLz (I := I) (L := L) (fun r10 I11 L12 h => ?_))
              refine z_goto hC (tgt := 87) dX12_readLine_79 (by decide) ?_
              exact z_zret (b := r10) hC dX12_readLine_87 rfl ⟨r10, rfl, rfl, rfl, rfl, h⟩
          · have h := h.2 hc
            refine z_aload_n hC (q := 0) dX12_readLine_61 rfl rfl ?_
            refine cl_RX12_240 hC (c_X12_readVar _ G a0 K N I L R _ h) hk1 dX12_readLine_62 (by rw [hRm]; exact ⟨Nat.le_of_ble_eq_true rfl, Nat.le_of_ble_eq_true rfl⟩) ⟨Nat.zero_le _, Nat.zero_le _⟩ (Nat.le_of_ble_eq_true rfl) (z_kLz (I := I) (L := L) (fun r13 I14 L15 h => ?_))
            exact z_zret (b := r13) hC dX12_readLine_65 rfl ⟨r13, rfl, rfl, rfl, rfl, h⟩
        · have h := h.2 hc
          refine z_aload_n hC (q := 0) dX12_readLine_48 rfl rfl ?_
          refine cl_RX12_237 hC (c_X12_readType _ G a0 K N I L R _ h) hk1 dX12_readLine_49 (by rw [hRm]; exact ⟨Nat.le_of_ble_eq_true rfl, Nat.le_of_ble_eq_true rfl⟩) ⟨Nat.zero_le _, Nat.zero_le _⟩ (Nat.le_of_ble_eq_true rfl) (z_kLz (I := I) (L := L) (fun r16 I17 L18 h => ?_))
          exact z_zret (b := r16) hC dX12_readLine_52 rfl ⟨r16, rfl, rfl, rfl, rfl, h⟩
      · have h := h.2 hc
        refine z_aload_n hC (q := 0) dX12_readLine_35 rfl rfl ?_
        refine cl_RX12_234 hC (c_X12_readScope _ G a0 K N I L R _ h) hk1 dX12_readLine_36 (by rw [hRm]; exact ⟨Nat.le_of_ble_eq_true rfl, Nat.le_of_ble_eq_true rfl⟩) ⟨Nat.zero_le _, Nat.zero_le _⟩ (Nat.le_of_ble_eq_true rfl) (z_kLz (I := I) (L := L) (fun r19 I20 L21 h => ?_))
        exact z_zret (b := r19) hC dX12_readLine_39 rfl ⟨r19, rfl, rfl, rfl, rfl, h⟩
    · have h := h.2 hc
      refine z_aload_n hC (q := 0) dX12_readLine_22 rfl rfl ?_
      refine cl_RX12_231 hC (c_X12_readRow _ G a0 K N I L R _ h) hk1 dX12_readLine_23 (by rw [hRm]; exact ⟨Nat.le_of_ble_eq_true rfl, Nat.le_of_ble_eq_true rfl⟩) ⟨Nat.zero_le _, Nat.zero_le _⟩ (Nat.le_of_ble_eq_true rfl) (z_kLz (I := I) (L := L) (fun r22 I23 L24 h => ?_))
      exact z_zret (b := r22) hC dX12_readLine_26 rfl ⟨r22, rfl, rfl, rfl, rfl, h⟩
  · have h := h.2 hc
    refine z_aload_n hC (q := 0) dX12_readLine_8 rfl rfl ?_
    refine z_iload_n hC (q := 1) dX12_readLine_9 rfl rfl ?_
    refine cl_RX12_228 hC (c_X12_readSize _ G a0 a1 K N I L R _ h) hk1 dX12_readLine_10 (by rw [hRm]; exact ⟨Nat.le_of_ble_eq_true rfl, Nat.le_of_ble_eq_true rfl⟩) ⟨Nat.zero_le _, Nat.zero_le _⟩ (Nat.le_of_ble_eq_true rfl) (z_kLz (I := I) (L := L) (fun r25 I26 L27 h => ?_))
    exact z_zret (b := r25) hC dX12_readLine_13 rfl ⟨r25, rfl, rfl, rfl, rfl, h⟩
def w_X12_unit_104  (x0 : Nat) (x1 : Int32) (x2 : Int32)  (K : MK) (N : MK) (I : MI) (L : ML) (R : MR)  (Q : Int32 → MI → ML → Prop) : Prop := ∃ J : Nat → Nat → Int32 → Int32 → MI → ML → Prop, (∃ n, J n x0 x1 x2 I L) ∧ ∀ (n : Nat) (x0 : Nat) (x1 : Int32) (x2 : Int32) (I : MI) (L : ML), J n x0 x1 x2 I L → ((26 : Int32) ≤ x2 → K x0 = 13 ∧ w_X12_startSo x0 K N I L R (fun I11 => ∀ I12 : MI, I12 = mup I11 x0 24 0 → Q x1 I12 L)) ∧ (¬ (26 : Int32) ≤ x2 → K x0 = 13 ∧ ∃ b14 : Nat, R x0 20 = some b14 ∧ ∃ b15 : Nat, R x0 21 = some b15 ∧ K b15 = 15 ∧ vp_in x2 (N b15) ∧ K b14 = 15 ∧ vp_in x2 (N b14) ∧ ∀ L20 : ML, L20 = mup L b14 (ix x2) (L b15 (ix x2)) → ∀ v21 : Int32, v21 = x2 + 1 → ∃ n1, n1 < n ∧ J n1 x0 x1 v21 I L20)
def w_X12_unit_77  (x0 : Nat) (x1 : Int32) (x2 : Int32)  (K : MK) (N : MK) (I : MI) (L : ML) (R : MR)  (Q : Int32 → MI → ML → Prop) : Prop := ∃ J : Nat → Nat → Int32 → Int32 → MI → ML → Prop, (∃ n, J n x0 x1 x2 I L) ∧ ∀ (n : Nat) (x0 : Nat) (x1 : Int32) (x2 : Int32) (I : MI) (L : ML), J n x0 x1 x2 I L → ((342 : Int32) ≤ x2 → w_X12_unit_104 x0 x1 0 K N I L R Q) ∧ (¬ (342 : Int32) ≤ x2 → K x0 = 13 ∧ ∃ b23 : Nat, R x0 14 = some b23 ∧ ∃ b24 : Nat, R x0 15 = some b24 ∧ K b24 = 14 ∧ vp_in x2 (N b24) ∧ K b23 = 14 ∧ vp_in x2 (N b23) ∧ ∀ I29 : MI, I29 = mup I b23 (ix x2) (I b24 (ix x2)) → ∀ v30 : Int32, v30 = x2 + 1 → ∃ n1, n1 < n ∧ J n1 x0 x1 v30 I29 L)
def w_X12_unit_40  (x0 : Nat) (x1 : Int32)  (K : MK) (N : MK) (I : MI) (L : ML) (R : MR)  (Q : Int32 → MI → ML → Prop) : Prop := ∃ J : Nat → Nat → Int32 → MI → ML → Prop, (∃ n, J n x0 x1 I L) ∧ ∀ (n : Nat) (x0 : Nat) (x1 : Int32) (I : MI) (L : ML), J n x0 x1 I L → K x0 = 13 ∧ ((I x0 7) = 0 → w_X12_unit_77 x0 x1 0 K N I L R Q) ∧ (¬ (I x0 7) = 0 → w_X12_readLine x0 x1 K N I L R (fun r31 I32 L33 => (r31 = false → Q ((-1 : Int32) - (I32 x0 11)) I32 L33) ∧ (r31 = true → w_X12_readEnd x0 K N I32 L33 R (fun r34 I35 L36 => (r34 = true → ∀ v37 : Int32, v37 = x1 + 1 → ∃ n1, n1 < n ∧ J n1 x0 v37 I35 L36) ∧ (r34 = false → Q ((-1 : Int32) - (I35 x0 11)) I35 L36)))))
def w_X12_unit_9  (x0 : Nat) (x1 : Int32)  (K : MK) (N : MK) (I : MI) (L : ML) (R : MR)  (Q : Int32 → MI → ML → Prop) : Prop := ∃ J : Nat → Nat → Int32 → MI → ML → Prop, (∃ n, J n x0 x1 I L) ∧ ∀ (n : Nat) (x0 : Nat) (x1 : Int32) (I : MI) (L : ML), J n x0 x1 I L → ((342 : Int32) ≤ x1 → K x0 = 13 ∧ ∃ b5 : Nat, R x0 15 = some b5 ∧ K b5 = 14 ∧ vp_in 0 (N b5) ∧ ∀ I8 : MI, I8 = mup I b5 (ix 0) 256 → w_X12_unit_40 x0 0 K N I8 L R Q) ∧ (¬ (342 : Int32) ≤ x1 → K x0 = 13 ∧ ∃ b39 : Nat, R x0 15 = some b39 ∧ K b39 = 14 ∧ vp_in x1 (N b39) ∧ ∀ I42 : MI, I42 = mup I b39 (ix x1) 0 → ∀ v43 : Int32, v43 = x1 + 1 → ∃ n1, n1 < n ∧ J n1 x0 v43 I42 L)
def w_X12_unit  (a0 : Nat) (K : MK) (N : MK) (I : MI) (L : ML) (R : MR) (Q : Int32 → MI → ML → Prop) : Prop := K a0 = 13 ∧ w_X12_begin a0 900 K N I L R (fun I2 L3 => w_X12_unit_9 a0 0 K N I2 L3 R Q)
set_option maxHeartbeats 4000000 in
set_option maxRecDepth 100000 in
theorem z_X12_unit_104 {X : ZX} {G : ZG}  {x0 : Nat} {x1 : Int32} {x2 : Int32}  {K : MK} {N : MK} {I : MI} {L : ML} {R : MR}  {Q : Int32 → MI → ML → Prop} (hC : ZOk X G RX12 cX12_unit 3 (some .int)) (hRm : X.2.2.2.1 = rm_X12_unit) (h : w_X12_unit_104 x0 x1 x2 K N I L R  Q) : Z X G 3 0 0 (z_T X G (qLi K N R Q) 0 0) K N I L R 104 [(0, .ref x0), (1, .int x1), (2, .int x2)] [] := by
  delta w_X12_unit_104 at h
  obtain ⟨J, ⟨n, h0⟩, hs⟩ := h
  have key : ∀ (n : Nat) (x0 : Nat) (x1 : Int32) (x2 : Int32) (I : MI) (L : ML), J n x0 x1 x2 I L → Z X G 3 0 0 (z_T X G (qLi K N R Q) 0 0) K N I L R 104 [(0, .ref x0), (1, .int x1), (2, .int x2)] [] := by
    intro n
    induction n using Nat.strongRecOn with
    | _ n ih =>
      intro x0 x1 x2 I L hJ
      have hC104 : ∀ (y0 : Nat) (y1 : Int32) (y2 : Int32) (zI : MI) (zL : ML), (∃ n1, n1 < n ∧ J n1 y0 y1 y2 zI zL) → Z X G 3 0 0 (z_T X G (qLi K N R Q) 0 0) K N zI zL R 104 [(0, .ref y0), (1, .int y1), (2, .int y2)] [] := fun y0 y1 y2 zI zL ⟨n1, hn1, hj⟩ => ih n1 hn1 y0 y1 y2 zI zL hj
      have h := hs n x0 x1 x2 I L hJ
      refine z_iload_n hC (q := 2) dX12_unit_104 rfl rfl ?_
      refine z_bipush hC (v := 26) k_bipush_26 dX12_unit_105 ?_
      refine z_icmp_ge hC (tgt := 128) dX12_unit_107 (by decide) (fun hc => ?_) (fun hc => ?_)
      · have h := h.1 hc
        refine z_aload_n hC (q := 0) dX12_unit_128 rfl rfl ?_
        obtain ⟨hk10, h⟩ := h
        refine cl_RX12_255 hC (c_X12_startSo _ G x0 K N I L R _ h) hk10 dX12_unit_129 (by rw [hRm]; exact ⟨Nat.le_of_ble_eq_true rfl, Nat.le_of_ble_eq_true rfl⟩) ⟨Nat.zero_le _, Nat.zero_le _⟩ (Nat.le_of_ble_eq_true rfl) (z_kIv (I := I) (fun I11 h => ?_))
        refine z_aload_n hC (q := 0) dX12_unit_132 rfl rfl ?_
        refine z_iconst hC (v := 0) k_iconst_0 dX12_unit_133 ?_
        refine pf_RX12_258 hC dX12_unit_134 hk10 ?_
        refine z_genI (fun I12 eI12 => ?_)
        have h := h I12 eI12
        refine z_iload_n hC (q := 1) dX12_unit_137 rfl rfl ?_
        exact z_iret hC dX12_unit_138 ⟨_, rfl, rfl, rfl, rfl, h⟩
      · have h := h.2 hc
        refine z_aload_n hC (q := 0) dX12_unit_110 rfl rfl ?_
        obtain ⟨hk13, h⟩ := h
        obtain ⟨b14, hb14, h⟩ := h
        refine gf_RX12_116 hC dX12_unit_111 hk13 hb14 ?_
        refine z_iload_n hC (q := 2) dX12_unit_114 rfl rfl ?_
        refine z_aload_n hC (q := 0) dX12_unit_115 rfl rfl ?_
        obtain ⟨b15, hb15, h⟩ := h
        refine gf_RX12_120 hC dX12_unit_116 hk13 hb15 ?_
        refine z_iload_n hC (q := 2) dX12_unit_119 rfl rfl ?_
        obtain ⟨hk16, h⟩ := h
        obtain ⟨hi17, h⟩ := h
        refine z_laload hC hk16 hi17 dX12_unit_120 ?_
        obtain ⟨hk18, h⟩ := h
        obtain ⟨hi19, h⟩ := h
        refine z_lastore hC hk18 hi19 dX12_unit_121 ?_
        refine z_genL (fun L20 eL20 => ?_)
        have h := h L20 eL20
        obtain ⟨v21, ev21⟩ : ∃ y : Int32, y = x2 + 1 := ⟨_, rfl⟩
        have h := h v21 ev21
        refine z_iinc hC (q := 2) (v := v21) (lv1 := [(2, .int v21), (0, .ref x0), (1, .int x1)]) dX12_unit_122 rfl (by rw [ev21, k_iinc_1]) (by decide) rfl ?_
        refine z_goto hC (tgt := 104) dX12_unit_125 (by decide) ?_
        exact z_sub [(0, .ref x0), (1, .int x1), (2, .int v21)] [1, 2, 0] rfl (hC104 _ _ _ _ _ h)
  exact key n x0 x1 x2 I L h0
set_option maxHeartbeats 4000000 in
set_option maxRecDepth 100000 in
theorem z_X12_unit_77 {X : ZX} {G : ZG}  {x0 : Nat} {x1 : Int32} {x2 : Int32}  {K : MK} {N : MK} {I : MI} {L : ML} {R : MR}  {Q : Int32 → MI → ML → Prop} (hC : ZOk X G RX12 cX12_unit 3 (some .int)) (hRm : X.2.2.2.1 = rm_X12_unit) (h : w_X12_unit_77 x0 x1 x2 K N I L R  Q) : Z X G 3 0 0 (z_T X G (qLi K N R Q) 0 0) K N I L R 77 [(0, .ref x0), (1, .int x1), (2, .int x2)] [] := by
  delta w_X12_unit_77 at h
  obtain ⟨J, ⟨n, h0⟩, hs⟩ := h
  have key : ∀ (n : Nat) (x0 : Nat) (x1 : Int32) (x2 : Int32) (I : MI) (L : ML), J n x0 x1 x2 I L → Z X G 3 0 0 (z_T X G (qLi K N R Q) 0 0) K N I L R 77 [(0, .ref x0), (1, .int x1), (2, .int x2)] [] := by
    intro n
    induction n using Nat.strongRecOn with
    | _ n ih =>
      intro x0 x1 x2 I L hJ
      have hC77 : ∀ (y0 : Nat) (y1 : Int32) (y2 : Int32) (zI : MI) (zL : ML), (∃ n1, n1 < n ∧ J n1 y0 y1 y2 zI zL) → Z X G 3 0 0 (z_T X G (qLi K N R Q) 0 0) K N zI zL R 77 [(0, .ref y0), (1, .int y1), (2, .int y2)] [] := fun y0 y1 y2 zI zL ⟨n1, hn1, hj⟩ => ih n1 hn1 y0 y1 y2 zI zL hj
      have h := hs n x0 x1 x2 I L hJ
      refine z_iload_n hC (q := 2) dX12_unit_77 rfl rfl ?_
      refine z_sipush hC (v := 342) k_sipush_342 dX12_unit_78 ?_
      refine z_icmp_ge hC (tgt := 102) dX12_unit_81 (by decide) (fun hc => ?_) (fun hc => ?_)
      · have h := h.1 hc
        refine z_iconst hC (v := 0) k_iconst_0 dX12_unit_102 ?_
        refine z_istore_n hC (lv1 := [(2, .int 0), (0, .ref x0), (1, .int x1)]) dX12_unit_103 rfl (by decide) rfl ?_
        exact z_sub [(0, .ref x0), (1, .int x1), (2, .int 0)] [1, 2, 0] rfl (z_X12_unit_104 hC hRm h)
      · have h := h.2 hc
        refine z_aload_n hC (q := 0) dX12_unit_84 rfl rfl ?_
        obtain ⟨hk22, h⟩ := h
        obtain ⟨b23, hb23, h⟩ := h
        refine gf_RX12_98 hC dX12_unit_85 hk22 hb23 ?_
        refine z_iload_n hC (q := 2) dX12_unit_88 rfl rfl ?_
        refine z_aload_n hC (q := 0) dX12_unit_89 rfl rfl ?_
        obtain ⟨b24, hb24, h⟩ := h
        refine gf_RX12_101 hC dX12_unit_90 hk22 hb24 ?_
        refine z_iload_n hC (q := 2) dX12_unit_93 rfl rfl ?_
        obtain ⟨hk25, h⟩ := h
        obtain ⟨hi26, h⟩ := h
        refine z_iaload hC hk25 hi26 dX12_unit_94 ?_
        obtain ⟨hk27, h⟩ := h
        obtain ⟨hi28, h⟩ := h
        refine z_iastore hC hk27 hi28 dX12_unit_95 ?_
        refine z_genI (fun I29 eI29 => ?_)
        have h := h I29 eI29
        obtain ⟨v30, ev30⟩ : ∃ y : Int32, y = x2 + 1 := ⟨_, rfl⟩
        have h := h v30 ev30
        refine z_iinc hC (q := 2) (v := v30) (lv1 := [(2, .int v30), (0, .ref x0), (1, .int x1)]) dX12_unit_96 rfl (by rw [ev30, k_iinc_1]) (by decide) rfl ?_
        refine z_goto hC (tgt := 77) dX12_unit_99 (by decide) ?_
        exact z_sub [(0, .ref x0), (1, .int x1), (2, .int v30)] [1, 2, 0] rfl (hC77 _ _ _ _ _ h)
  exact key n x0 x1 x2 I L h0
set_option maxHeartbeats 4000000 in
set_option maxRecDepth 100000 in
theorem z_X12_unit_40 {X : ZX} {G : ZG}  {x0 : Nat} {x1 : Int32}  {K : MK} {N : MK} {I : MI} {L : ML} {R : MR}  {Q : Int32 → MI → ML → Prop} (hC : ZOk X G RX12 cX12_unit 3 (some .int)) (hRm : X.2.2.2.1 = rm_X12_unit) (h : w_X12_unit_40 x0 x1 K N I L R  Q) : Z X G 3 0 0 (z_T X G (qLi K N R Q) 0 0) K N I L R 40 [(0, .ref x0), (1, .int x1)] [] := by
  delta w_X12_unit_40 at h
  obtain ⟨J, ⟨n, h0⟩, hs⟩ := h
  have key : ∀ (n : Nat) (x0 : Nat) (x1 : Int32) (I : MI) (L : ML), J n x0 x1 I L → Z X G 3 0 0 (z_T X G (qLi K N R Q) 0 0) K N I L R 40 [(0, .ref x0), (1, .int x1)] [] := by
    intro n
    induction n using Nat.strongRecOn with
    | _ n ih =>
      intro x0 x1 I L hJ
      have hC40 : ∀ (y0 : Nat) (y1 : Int32) (zI : MI) (zL : ML), (∃ n1, n1 < n ∧ J n1 y0 y1 zI zL) → Z X G 3 0 0 (z_T X G (qLi K N R Q) 0 0) K N zI zL R 40 [(0, .ref y0), (1, .int y1)] [] := fun y0 y1 zI zL ⟨n1, hn1, hj⟩ => ih n1 hn1 y0 y1 zI zL hj
      have h := hs n x0 x1 I L hJ
      refine z_aload_n hC (q := 0) dX12_unit_40 rfl rfl ?_
      obtain ⟨hk9, h⟩ := h
      refine gf_RX12_30 hC dX12_unit_41 hk9 ?_
      refine z_if_eq hC (tgt := 75) dX12_unit_44 (by decide) (fun hc => ?_) (fun hc => ?_)
      · have h := h.1 hc
        refine z_iconst hC (v := 0) k_iconst_0 dX12_unit_75 ?_
        refine z_istore_n hC (lv1 := [(2, .int 0), (0, .ref x0), (1, .int x1)]) dX12_unit_76 rfl (by decide) rfl ?_
        exact z_sub [(0, .ref x0), (1, .int x1), (2, .int 0)] [1, 2, 0] rfl (z_X12_unit_77 hC hRm h)
      · have h := h.2 hc
        refine z_aload_n hC (q := 0) dX12_unit_47 rfl rfl ?_
        refine z_iload_n hC (q := 1) dX12_unit_48 rfl rfl ?_
        refine cl_RX12_249 hC (c_X12_readLine _ G x0 x1 K N I L R _ h) hk9 dX12_unit_49 (by rw [hRm]; exact ⟨Nat.le_of_ble_eq_true rfl, Nat.le_of_ble_eq_true rfl⟩) ⟨Nat.zero_le _, Nat.zero_le _⟩ (Nat.le_of_ble_eq_true rfl) (z_kLz (I := I) (L := L) (fun r31 I32 L33 h => ?_))
        refine z_ifz_eq hC (tgt := 62) dX12_unit_52 (by decide) (fun hc => ?_) (fun hc => ?_)
        · have h := h.1 hc
          refine z_iconst hC (v := (-1)) k_iconst_m1 dX12_unit_62 ?_
          refine z_aload_n hC (q := 0) dX12_unit_63 rfl rfl ?_
          refine gf_RX12_69 hC dX12_unit_64 hk9 ?_
          refine z_isub hC dX12_unit_67 ?_
          exact z_iret hC dX12_unit_68 ⟨_, rfl, rfl, rfl, rfl, h⟩
        · have h := h.2 hc
          refine z_aload_n hC (q := 0) dX12_unit_55 rfl rfl ?_
          refine cl_RX12_252 hC (c_X12_readEnd _ G x0 K N I32 L33 R _ h) hk9 dX12_unit_56 (by rw [hRm]; exact ⟨Nat.le_of_ble_eq_true rfl, Nat.le_of_ble_eq_true rfl⟩) ⟨Nat.zero_le _, Nat.zero_le _⟩ (Nat.le_of_ble_eq_true rfl) (z_kLz (I := I32) (L := L33) (fun r34 I35 L36 h => ?_))
          refine z_ifz_ne hC (tgt := 69) dX12_unit_59 (by decide) (fun hc => ?_) (fun hc => ?_)
          · have h := h.1 hc
            obtain ⟨v37, ev37⟩ : ∃ y : Int32, y = x1 + 1 := ⟨_, rfl⟩
            have h := h v37 ev37
            refine z_iinc hC (q := 1) (v := v37) (lv1 := [(1, .int v37), (0, .ref x0)]) dX12_unit_69 rfl (by rw [ev37, k_iinc_1]) (by decide) rfl ?_
            refine z_goto hC (tgt := 40) dX12_unit_72 (by decide) ?_
            exact z_sub [(0, .ref x0), (1, .int v37)] [1, 0] rfl (hC40 _ _ _ _ h)
          · have h := h.2 hc
            refine z_iconst hC (v := (-1)) k_iconst_m1 dX12_unit_62 ?_
            refine z_aload_n hC (q := 0) dX12_unit_63 rfl rfl ?_
            refine gf_RX12_69 hC dX12_unit_64 hk9 ?_
            refine z_isub hC dX12_unit_67 ?_
            exact z_iret hC dX12_unit_68 ⟨_, rfl, rfl, rfl, rfl, h⟩
  exact key n x0 x1 I L h0
set_option maxHeartbeats 4000000 in
set_option maxRecDepth 100000 in
theorem z_X12_unit_9 {X : ZX} {G : ZG}  {x0 : Nat} {x1 : Int32}  {K : MK} {N : MK} {I : MI} {L : ML} {R : MR}  {Q : Int32 → MI → ML → Prop} (hC : ZOk X G RX12 cX12_unit 3 (some .int)) (hRm : X.2.2.2.1 = rm_X12_unit) (h : w_X12_unit_9 x0 x1 K N I L R  Q) : Z X G 3 0 0 (z_T X G (qLi K N R Q) 0 0) K N I L R 9 [(0, .ref x0), (1, .int x1)] [] := by
  delta w_X12_unit_9 at h
  obtain ⟨J, ⟨n, h0⟩, hs⟩ := h
  have key : ∀ (n : Nat) (x0 : Nat) (x1 : Int32) (I : MI) (L : ML), J n x0 x1 I L → Z X G 3 0 0 (z_T X G (qLi K N R Q) 0 0) K N I L R 9 [(0, .ref x0), (1, .int x1)] [] := by
    intro n
    induction n using Nat.strongRecOn with
    | _ n ih =>
      intro x0 x1 I L hJ
      have hC9 : ∀ (y0 : Nat) (y1 : Int32) (zI : MI) (zL : ML), (∃ n1, n1 < n ∧ J n1 y0 y1 zI zL) → Z X G 3 0 0 (z_T X G (qLi K N R Q) 0 0) K N zI zL R 9 [(0, .ref y0), (1, .int y1)] [] := fun y0 y1 zI zL ⟨n1, hn1, hj⟩ => ih n1 hn1 y0 y1 zI zL hj
      have h := hs n x0 x1 I L hJ
      refine z_iload_n hC (q := 1) dX12_unit_9 rfl rfl ?_
      refine z_sipush hC (v := 342) k_sipush_342 dX12_unit_10 ?_
      refine z_icmp_ge hC (tgt := 29) dX12_unit_13 (by decide) (fun hc => ?_) (fun hc => ?_)
      · have h := h.1 hc
        refine z_aload_n hC (q := 0) dX12_unit_29 rfl rfl ?_
        obtain ⟨hk4, h⟩ := h
        obtain ⟨b5, hb5, h⟩ := h
        refine gf_RX12_101 hC dX12_unit_30 hk4 hb5 ?_
        refine z_iconst hC (v := 0) k_iconst_0 dX12_unit_33 ?_
        refine z_sipush hC (v := 256) k_sipush_256 dX12_unit_34 ?_
        obtain ⟨hk6, h⟩ := h
        obtain ⟨hi7, h⟩ := h
        refine z_iastore hC hk6 hi7 dX12_unit_37 ?_
        refine z_genI (fun I8 eI8 => ?_)
        have h := h I8 eI8
        refine z_iconst hC (v := 0) k_iconst_0 dX12_unit_38 ?_
        refine z_istore_n hC (lv1 := [(1, .int 0), (0, .ref x0)]) dX12_unit_39 rfl (by decide) rfl ?_
        exact z_sub [(0, .ref x0), (1, .int 0)] [1, 0] rfl (z_X12_unit_40 hC hRm h)
      · have h := h.2 hc
        refine z_aload_n hC (q := 0) dX12_unit_16 rfl rfl ?_
        obtain ⟨hk38, h⟩ := h
        obtain ⟨b39, hb39, h⟩ := h
        refine gf_RX12_101 hC dX12_unit_17 hk38 hb39 ?_
        refine z_iload_n hC (q := 1) dX12_unit_20 rfl rfl ?_
        refine z_iconst hC (v := 0) k_iconst_0 dX12_unit_21 ?_
        obtain ⟨hk40, h⟩ := h
        obtain ⟨hi41, h⟩ := h
        refine z_iastore hC hk40 hi41 dX12_unit_22 ?_
        refine z_genI (fun I42 eI42 => ?_)
        have h := h I42 eI42
        obtain ⟨v43, ev43⟩ : ∃ y : Int32, y = x1 + 1 := ⟨_, rfl⟩
        have h := h v43 ev43
        refine z_iinc hC (q := 1) (v := v43) (lv1 := [(1, .int v43), (0, .ref x0)]) dX12_unit_23 rfl (by rw [ev43, k_iinc_1]) (by decide) rfl ?_
        refine z_goto hC (tgt := 9) dX12_unit_26 (by decide) ?_
        exact z_sub [(0, .ref x0), (1, .int v43)] [1, 0] rfl (hC9 _ _ _ _ h)
  exact key n x0 x1 I L h0
set_option maxHeartbeats 4000000 in
set_option maxRecDepth 100000 in
theorem c_X12_unit  (l : Launch) (G : ZG) (a0 : Nat) (K : MK) (N : MK) (I : MI) (L : ML) (R : MR) (Q : Int32 → MI → ML → Prop) (h : w_X12_unit a0 K N I L R Q) : Met l yX12_unit (.code yX12_unit cX12_unit 3 (some .int) :: z_tbl) rm_X12_unit (z_Pc G [.ref a0] K N I L R) (z_Qc G (qLi K N R Q)) 0 0 (z_A G) := by
  refine z_met (by decide) (Nat.le_of_ble_eq_true rfl) (fun X hX hRm hC0 hnm => ?_)
  subst hX
  have hC : ZOk X G RX12 cX12_unit 3 (some .int) := hC0
  show Z X G 3 0 0 _ K N I L R 0 [(0, .ref a0)] []
  delta w_X12_unit at h
  refine z_aload_n hC (q := 0) dX12_unit_0 rfl rfl ?_
  refine z_sipush hC (v := 900) k_sipush_900 dX12_unit_1 ?_
  obtain ⟨hk1, h⟩ := h
  refine cl_RX12_246 hC (c_X12_begin _ G a0 900 K N I L R _ h) hk1 dX12_unit_4 (by rw [hRm]; exact ⟨Nat.le_of_ble_eq_true rfl, Nat.le_of_ble_eq_true rfl⟩) ⟨Nat.zero_le _, Nat.zero_le _⟩ (Nat.le_of_ble_eq_true rfl) (z_kLv (I := I) (L := L) (fun I2 L3 h => ?_))
  refine z_iconst hC (v := 0) k_iconst_0 dX12_unit_7 ?_
  refine z_istore_n hC (lv1 := [(1, .int 0), (0, .ref a0)]) dX12_unit_8 rfl (by decide) rfl ?_
  exact z_sub [(0, .ref a0), (1, .int 0)] [1, 0] rfl (z_X12_unit_9 hC hRm h)
def w_X12_fault  (a0 : Nat) (K : MK) (N : MK) (I : MI) (L : ML) (R : MR) (Q : Int32 → MI → Prop) : Prop := K a0 = 13 ∧ ∀ I2 : MI, I2 = mup I a0 0 0 → Q (I2 a0 10) I2
set_option maxHeartbeats 4000000 in
set_option maxRecDepth 100000 in
theorem c_X12_fault  (l : Launch) (G : ZG) (a0 : Nat) (K : MK) (N : MK) (I : MI) (L : ML) (R : MR) (Q : Int32 → MI → Prop) (h : w_X12_fault a0 K N I L R Q) : Met l yX12_fault (.code yX12_fault cX12_fault 1 (some .int) :: z_tbl) rm_X12_fault (z_Pc G [.ref a0] K N I L R) (z_Qc G (qIi K N L R Q)) 0 0 (z_A G) := by
  refine z_met (by decide) (Nat.le_of_ble_eq_true rfl) (fun X hX hRm hC0 hnm => ?_)
  subst hX
  have hC : ZOk X G RX12 cX12_fault 1 (some .int) := hC0
  show Z X G 1 0 0 _ K N I L R 0 [(0, .ref a0)] []
  delta w_X12_fault at h
  refine z_aload_n hC (q := 0) dX12_fault_0 rfl rfl ?_
  refine z_iconst hC (v := 0) k_iconst_0 dX12_fault_1 ?_
  obtain ⟨hk1, h⟩ := h
  refine pf_RX12_1 hC dX12_fault_2 hk1 ?_
  refine z_genI (fun I2 eI2 => ?_)
  have h := h I2 eI2
  refine z_aload_n hC (q := 0) dX12_fault_5 rfl rfl ?_
  refine gf_RX12_66 hC dX12_fault_6 hk1 ?_
  exact z_iret hC dX12_fault_9 ⟨_, rfl, rfl, rfl, rfl, rfl, h⟩
def w_X12_isAddress  (a0 : Nat) (a1 : Int32) (K : MK) (N : MK) (I : MI) (L : ML) (R : MR) (Q : Bool → Prop) : Prop := K a0 = 13 ∧ ∃ b2 : Nat, R a0 14 = some b2 ∧ K b2 = 14 ∧ vp_in 0 (N b2) ∧ w_X12_isIn a1 0 ((I b2 (ix 0)) - 1) K N I L R (fun r5 => Q r5)
set_option maxHeartbeats 4000000 in
set_option maxRecDepth 100000 in
theorem c_X12_isAddress  (l : Launch) (G : ZG) (a0 : Nat) (a1 : Int32) (K : MK) (N : MK) (I : MI) (L : ML) (R : MR) (Q : Bool → Prop) (h : w_X12_isAddress a0 a1 K N I L R Q) : Met l yX12_isAddress (.code yX12_isAddress cX12_isAddress 2 (some .boolean) :: z_tbl) rm_X12_isAddress (z_Pc G [.ref a0, .int a1] K N I L R) (z_Qc G (qPz K N I L R Q)) 0 0 (z_A G) := by
  refine z_met (by decide) (Nat.le_of_ble_eq_true rfl) (fun X hX hRm hC0 hnm => ?_)
  subst hX
  have hC : ZOk X G RX12 cX12_isAddress 2 (some .boolean) := hC0
  show Z X G 2 0 0 _ K N I L R 0 [(0, .ref a0), (1, .int a1)] []
  delta w_X12_isAddress at h
  refine z_iload_n hC (q := 1) dX12_isAddress_0 rfl rfl ?_
  refine z_iconst hC (v := 0) k_iconst_0 dX12_isAddress_1 ?_
  refine z_aload_n hC (q := 0) dX12_isAddress_2 rfl rfl ?_
  obtain ⟨hk1, h⟩ := h
  obtain ⟨b2, hb2, h⟩ := h
  refine gf_RX12_98 hC dX12_isAddress_3 hk1 hb2 ?_
  refine z_iconst hC (v := 0) k_iconst_0 dX12_isAddress_6 ?_
  obtain ⟨hk3, h⟩ := h
  obtain ⟨hi4, h⟩ := h
  refine z_iaload hC hk3 hi4 dX12_isAddress_7 ?_
  refine z_iconst hC (v := 1) k_iconst_1 dX12_isAddress_8 ?_
  refine z_isub hC dX12_isAddress_9 ?_
  refine cl_RX12_75 hC (c_X12_isIn _ G a1 0 ((I b2 (ix 0)) - 1) K N I L R _ h) dX12_isAddress_10 (by rw [hRm]; exact ⟨Nat.le_of_ble_eq_true rfl, Nat.le_of_ble_eq_true rfl⟩) ⟨Nat.zero_le _, Nat.zero_le _⟩ (Nat.le_of_ble_eq_true rfl) (z_kPz (fun r5 h => ?_))
  exact z_zret (b := r5) hC dX12_isAddress_13 rfl ⟨r5, rfl, rfl, rfl, rfl, rfl, rfl, h⟩
def w_X12_rowOf_9  (x0 : Nat) (x1 : Int32) (x2 : Int32)  (K : MK) (N : MK) (I : MI) (L : ML) (R : MR)  (Q : Int32 → Prop) : Prop := ∃ J : Nat → Nat → Int32 → Int32 → Prop, (∃ n, J n x0 x1 x2) ∧ ∀ (n : Nat) (x0 : Nat) (x1 : Int32) (x2 : Int32), J n x0 x1 x2 → (x2 < 0 → Q x2) ∧ (¬ x2 < 0 → K x0 = 13 ∧ ∃ b7 : Nat, R x0 14 = some b7 ∧ K b7 = 14 ∧ vp_in ((6 : Int32) + x2) (N b7) ∧ ((I b7 (ix ((6 : Int32) + x2))) ≤ x1 → Q x2) ∧ (¬ (I b7 (ix ((6 : Int32) + x2))) ≤ x1 → ∀ v10 : Int32, v10 = x2 + (-1) → ∃ n1, n1 < n ∧ J n1 x0 x1 v10))
def w_X12_rowOf  (a0 : Nat) (a1 : Int32) (K : MK) (N : MK) (I : MI) (L : ML) (R : MR) (Q : Int32 → Prop) : Prop := K a0 = 13 ∧ ∃ b2 : Nat, R a0 14 = some b2 ∧ K b2 = 14 ∧ vp_in 1 (N b2) ∧ ∀ v5 : Int32, v5 = ((I b2 (ix 1)) - 1) → w_X12_rowOf_9 a0 a1 v5 K N I L R Q
set_option maxHeartbeats 4000000 in
set_option maxRecDepth 100000 in
theorem z_X12_rowOf_9 {X : ZX} {G : ZG}  {x0 : Nat} {x1 : Int32} {x2 : Int32}  {K : MK} {N : MK} {I : MI} {L : ML} {R : MR}  {Q : Int32 → Prop} (hC : ZOk X G RX12 cX12_rowOf 3 (some .int)) (hRm : X.2.2.2.1 = rm_X12_rowOf) (h : w_X12_rowOf_9 x0 x1 x2 K N I L R  Q) : Z X G 3 0 0 (z_T X G (qPi K N I L R Q) 0 0) K N I L R 9 [(0, .ref x0), (1, .int x1), (2, .int x2)] [] := by
  delta w_X12_rowOf_9 at h
  obtain ⟨J, ⟨n, h0⟩, hs⟩ := h
  have key : ∀ (n : Nat) (x0 : Nat) (x1 : Int32) (x2 : Int32), J n x0 x1 x2 → Z X G 3 0 0 (z_T X G (qPi K N I L R Q) 0 0) K N I L R 9 [(0, .ref x0), (1, .int x1), (2, .int x2)] [] := by
    intro n
    induction n using Nat.strongRecOn with
    | _ n ih =>
      intro x0 x1 x2 hJ
      have hC9 : ∀ (y0 : Nat) (y1 : Int32) (y2 : Int32) , (∃ n1, n1 < n ∧ J n1 y0 y1 y2) → Z X G 3 0 0 (z_T X G (qPi K N I L R Q) 0 0) K N I L R 9 [(0, .ref y0), (1, .int y1), (2, .int y2)] [] := fun y0 y1 y2 ⟨n1, hn1, hj⟩ => ih n1 hn1 y0 y1 y2 hj
      have h := hs n x0 x1 x2 hJ
      refine z_iload_n hC (q := 2) dX12_rowOf_9 rfl rfl ?_
      refine z_if_lt hC (tgt := 32) dX12_rowOf_10 (by decide) (fun hc => ?_) (fun hc => ?_)
      · have h := h.1 hc
        refine z_iload_n hC (q := 2) dX12_rowOf_32 rfl rfl ?_
        exact z_iret hC dX12_rowOf_33 ⟨_, rfl, rfl, rfl, rfl, rfl, rfl, h⟩
      · have h := h.2 hc
        refine z_aload_n hC (q := 0) dX12_rowOf_13 rfl rfl ?_
        obtain ⟨hk6, h⟩ := h
        obtain ⟨b7, hb7, h⟩ := h
        refine gf_RX12_98 hC dX12_rowOf_14 hk6 hb7 ?_
        refine z_bipush hC (v := 6) k_bipush_6 dX12_rowOf_17 ?_
        refine z_iload_n hC (q := 2) dX12_rowOf_19 rfl rfl ?_
        refine z_iadd hC dX12_rowOf_20 ?_
        obtain ⟨hk8, h⟩ := h
        obtain ⟨hi9, h⟩ := h
        refine z_iaload hC hk8 hi9 dX12_rowOf_21 ?_
        refine z_iload_n hC (q := 1) dX12_rowOf_22 rfl rfl ?_
        refine z_icmp_le hC (tgt := 32) dX12_rowOf_23 (by decide) (fun hc => ?_) (fun hc => ?_)
        · have h := h.1 hc
          refine z_iload_n hC (q := 2) dX12_rowOf_32 rfl rfl ?_
          exact z_iret hC dX12_rowOf_33 ⟨_, rfl, rfl, rfl, rfl, rfl, rfl, h⟩
        · have h := h.2 hc
          obtain ⟨v10, ev10⟩ : ∃ y : Int32, y = x2 + (-1) := ⟨_, rfl⟩
          have h := h v10 ev10
          refine z_iinc hC (q := 2) (v := v10) (lv1 := [(2, .int v10), (0, .ref x0), (1, .int x1)]) dX12_rowOf_26 rfl (by rw [ev10, k_iinc_m1]) (by decide) rfl ?_
          refine z_goto hC (tgt := 9) dX12_rowOf_29 (by decide) ?_
          exact z_sub [(0, .ref x0), (1, .int x1), (2, .int v10)] [1, 2, 0] rfl (hC9 _ _ _ h)
  exact key n x0 x1 x2 h0
set_option maxHeartbeats 4000000 in
set_option maxRecDepth 100000 in
theorem c_X12_rowOf  (l : Launch) (G : ZG) (a0 : Nat) (a1 : Int32) (K : MK) (N : MK) (I : MI) (L : ML) (R : MR) (Q : Int32 → Prop) (h : w_X12_rowOf a0 a1 K N I L R Q) : Met l yX12_rowOf (.code yX12_rowOf cX12_rowOf 3 (some .int) :: z_tbl) rm_X12_rowOf (z_Pc G [.ref a0, .int a1] K N I L R) (z_Qc G (qPi K N I L R Q)) 0 0 (z_A G) := by
  refine z_met (by decide) (Nat.le_of_ble_eq_true rfl) (fun X hX hRm hC0 hnm => ?_)
  subst hX
  have hC : ZOk X G RX12 cX12_rowOf 3 (some .int) := hC0
  show Z X G 3 0 0 _ K N I L R 0 [(0, .ref a0), (1, .int a1)] []
  delta w_X12_rowOf at h
  refine z_aload_n hC (q := 0) dX12_rowOf_0 rfl rfl ?_
  obtain ⟨hk1, h⟩ := h
  obtain ⟨b2, hb2, h⟩ := h
  refine gf_RX12_98 hC dX12_rowOf_1 hk1 hb2 ?_
  refine z_iconst hC (v := 1) k_iconst_1 dX12_rowOf_4 ?_
  obtain ⟨hk3, h⟩ := h
  obtain ⟨hi4, h⟩ := h
  refine z_iaload hC hk3 hi4 dX12_rowOf_5 ?_
  refine z_iconst hC (v := 1) k_iconst_1 dX12_rowOf_6 ?_
  refine z_isub hC dX12_rowOf_7 ?_
  refine z_topi (fun v5 ev5 => ?_)
  have h := h v5 ev5
  refine z_istore_n hC (lv1 := [(2, .int v5), (0, .ref a0), (1, .int a1)]) dX12_rowOf_8 rfl (by decide) rfl ?_
  exact z_sub [(0, .ref a0), (1, .int a1), (2, .int v5)] [1, 2, 0] rfl (z_X12_rowOf_9 hC hRm h)
def w_X12_lineOf  (a0 : Nat) (a1 : Int32) (K : MK) (N : MK) (I : MI) (L : ML) (R : MR) (Q : Int32 → Prop) : Prop := K a0 = 13 ∧ w_X12_rowOf a0 a1 K N I L R (fun r2 => (¬ r2 = (-1) → ∃ b3 : Nat, R a0 14 = some b3 ∧ w_X12_rowOf a0 a1 K N I L R (fun r4 => K b3 = 14 ∧ vp_in ((36 : Int32) + r4) (N b3) ∧ Q (I b3 (ix ((36 : Int32) + r4))))) ∧ (r2 = (-1) → Q (-1)))
set_option maxHeartbeats 4000000 in
set_option maxRecDepth 100000 in
theorem c_X12_lineOf  (l : Launch) (G : ZG) (a0 : Nat) (a1 : Int32) (K : MK) (N : MK) (I : MI) (L : ML) (R : MR) (Q : Int32 → Prop) (h : w_X12_lineOf a0 a1 K N I L R Q) : Met l yX12_lineOf (.code yX12_lineOf cX12_lineOf 2 (some .int) :: z_tbl) rm_X12_lineOf (z_Pc G [.ref a0, .int a1] K N I L R) (z_Qc G (qPi K N I L R Q)) 0 0 (z_A G) := by
  refine z_met (by decide) (Nat.le_of_ble_eq_true rfl) (fun X hX hRm hC0 hnm => ?_)
  subst hX
  have hC : ZOk X G RX12 cX12_lineOf 2 (some .int) := hC0
  show Z X G 2 0 0 _ K N I L R 0 [(0, .ref a0), (1, .int a1)] []
  delta w_X12_lineOf at h
  refine z_aload_n hC (q := 0) dX12_lineOf_0 rfl rfl ?_
  refine z_iload_n hC (q := 1) dX12_lineOf_1 rfl rfl ?_
  obtain ⟨hk1, h⟩ := h
  refine cl_RX12_261 hC (c_X12_rowOf _ G a0 a1 K N I L R _ h) hk1 dX12_lineOf_2 (by rw [hRm]; exact ⟨Nat.le_of_ble_eq_true rfl, Nat.le_of_ble_eq_true rfl⟩) ⟨Nat.zero_le _, Nat.zero_le _⟩ (Nat.le_of_ble_eq_true rfl) (z_kPi (fun r2 h => ?_))
  refine z_iconst hC (v := (-1)) k_iconst_m1 dX12_lineOf_5 ?_
  refine z_icmp_ne hC (tgt := 13) dX12_lineOf_6 (by decide) (fun hc => ?_) (fun hc => ?_)
  · have h := h.1 hc
    refine z_aload_n hC (q := 0) dX12_lineOf_13 rfl rfl ?_
    obtain ⟨b3, hb3, h⟩ := h
    refine gf_RX12_98 hC dX12_lineOf_14 hk1 hb3 ?_
    refine z_bipush hC (v := 36) k_bipush_36 dX12_lineOf_17 ?_
    refine z_aload_n hC (q := 0) dX12_lineOf_19 rfl rfl ?_
    refine z_iload_n hC (q := 1) dX12_lineOf_20 rfl rfl ?_
    refine cl_RX12_261 hC (c_X12_rowOf _ G a0 a1 K N I L R _ h) hk1 dX12_lineOf_21 (by rw [hRm]; exact ⟨Nat.le_of_ble_eq_true rfl, Nat.le_of_ble_eq_true rfl⟩) ⟨Nat.zero_le _, Nat.zero_le _⟩ (Nat.le_of_ble_eq_true rfl) (z_kPi (fun r4 h => ?_))
    refine z_iadd hC dX12_lineOf_24 ?_
    obtain ⟨hk5, h⟩ := h
    obtain ⟨hi6, h⟩ := h
    refine z_iaload hC hk5 hi6 dX12_lineOf_25 ?_
    exact z_iret hC dX12_lineOf_26 ⟨_, rfl, rfl, rfl, rfl, rfl, rfl, h⟩
  · have h := h.2 hc
    refine z_iconst hC (v := (-1)) k_iconst_m1 dX12_lineOf_9 ?_
    refine z_goto hC (tgt := 26) dX12_lineOf_10 (by decide) ?_
    exact z_iret hC dX12_lineOf_26 ⟨_, rfl, rfl, rfl, rfl, rfl, rfl, h⟩
def w_X12_rowEnd  (a0 : Nat) (a1 : Int32) (K : MK) (N : MK) (I : MI) (L : ML) (R : MR) (Q : Int32 → Prop) : Prop := K a0 = 13 ∧ ∃ b2 : Nat, R a0 14 = some b2 ∧ K b2 = 14 ∧ vp_in 1 (N b2) ∧ (¬ a1 = ((I b2 (ix 1)) - 1) → vp_in (((6 : Int32) + a1) + 1) (N b2) ∧ Q (I b2 (ix (((6 : Int32) + a1) + 1)))) ∧ (a1 = ((I b2 (ix 1)) - 1) → vp_in 0 (N b2) ∧ Q (I b2 (ix 0)))
set_option maxHeartbeats 4000000 in
set_option maxRecDepth 100000 in
theorem c_X12_rowEnd  (l : Launch) (G : ZG) (a0 : Nat) (a1 : Int32) (K : MK) (N : MK) (I : MI) (L : ML) (R : MR) (Q : Int32 → Prop) (h : w_X12_rowEnd a0 a1 K N I L R Q) : Met l yX12_rowEnd (.code yX12_rowEnd cX12_rowEnd 2 (some .int) :: z_tbl) rm_X12_rowEnd (z_Pc G [.ref a0, .int a1] K N I L R) (z_Qc G (qPi K N I L R Q)) 0 0 (z_A G) := by
  refine z_met (by decide) (Nat.le_of_ble_eq_true rfl) (fun X hX hRm hC0 hnm => ?_)
  subst hX
  have hC : ZOk X G RX12 cX12_rowEnd 2 (some .int) := hC0
  show Z X G 2 0 0 _ K N I L R 0 [(0, .ref a0), (1, .int a1)] []
  delta w_X12_rowEnd at h
  refine z_iload_n hC (q := 1) dX12_rowEnd_0 rfl rfl ?_
  refine z_aload_n hC (q := 0) dX12_rowEnd_1 rfl rfl ?_
  obtain ⟨hk1, h⟩ := h
  obtain ⟨b2, hb2, h⟩ := h
  refine gf_RX12_98 hC dX12_rowEnd_2 hk1 hb2 ?_
  refine z_iconst hC (v := 1) k_iconst_1 dX12_rowEnd_5 ?_
  obtain ⟨hk3, h⟩ := h
  obtain ⟨hi4, h⟩ := h
  refine z_iaload hC hk3 hi4 dX12_rowEnd_6 ?_
  refine z_iconst hC (v := 1) k_iconst_1 dX12_rowEnd_7 ?_
  refine z_isub hC dX12_rowEnd_8 ?_
  refine z_icmp_ne hC (tgt := 21) dX12_rowEnd_9 (by decide) (fun hc => ?_) (fun hc => ?_)
  · have h := h.1 hc
    refine z_aload_n hC (q := 0) dX12_rowEnd_21 rfl rfl ?_
    refine gf_RX12_98 hC dX12_rowEnd_22 hk1 hb2 ?_
    refine z_bipush hC (v := 6) k_bipush_6 dX12_rowEnd_25 ?_
    refine z_iload_n hC (q := 1) dX12_rowEnd_27 rfl rfl ?_
    refine z_iadd hC dX12_rowEnd_28 ?_
    refine z_iconst hC (v := 1) k_iconst_1 dX12_rowEnd_29 ?_
    refine z_iadd hC dX12_rowEnd_30 ?_
    obtain ⟨hi5, h⟩ := h
    refine z_iaload hC hk3 hi5 dX12_rowEnd_31 ?_
    exact z_iret hC dX12_rowEnd_32 ⟨_, rfl, rfl, rfl, rfl, rfl, rfl, h⟩
  · have h := h.2 hc
    refine z_aload_n hC (q := 0) dX12_rowEnd_12 rfl rfl ?_
    refine gf_RX12_98 hC dX12_rowEnd_13 hk1 hb2 ?_
    refine z_iconst hC (v := 0) k_iconst_0 dX12_rowEnd_16 ?_
    obtain ⟨hi6, h⟩ := h
    refine z_iaload hC hk3 hi6 dX12_rowEnd_17 ?_
    refine z_goto hC (tgt := 32) dX12_rowEnd_18 (by decide) ?_
    exact z_iret hC dX12_rowEnd_32 ⟨_, rfl, rfl, rfl, rfl, rfl, rfl, h⟩
def w_X12_row  (a0 : Nat) (a1 : Int32) (a2 : Int32) (K : MK) (N : MK) (I : MI) (L : ML) (R : MR) (Q : Int32 → MI → Prop) : Prop := K a0 = 13 ∧ ∀ I2 : MI, I2 = mup I a0 0 0 → ∃ b3 : Nat, R a0 14 = some b3 ∧ K b3 = 14 ∧ vp_in 1 (N b3) ∧ w_X12_isIn a1 0 ((I2 b3 (ix 1)) - 1) K N I2 L R (fun r6 => (r6 = true → (a2 = 0 → vp_in ((6 : Int32) + a1) (N b3) ∧ Q (I2 b3 (ix ((6 : Int32) + a1))) I2) ∧ (¬ a2 = 0 → (a2 = 1 → vp_in ((36 : Int32) + a1) (N b3) ∧ Q (I2 b3 (ix ((36 : Int32) + a1))) I2) ∧ (¬ a2 = 1 → (a2 = 2 → w_X12_rowEnd a0 a1 K N I2 L R (fun r9 => vp_in ((6 : Int32) + a1) (N b3) ∧ Q (r9 - (I2 b3 (ix ((6 : Int32) + a1)))) I2)) ∧ (¬ a2 = 2 → Q (-1) I2)))) ∧ (r6 = false → Q (-1) I2))
set_option maxHeartbeats 4000000 in
set_option maxRecDepth 100000 in
theorem c_X12_row  (l : Launch) (G : ZG) (a0 : Nat) (a1 : Int32) (a2 : Int32) (K : MK) (N : MK) (I : MI) (L : ML) (R : MR) (Q : Int32 → MI → Prop) (h : w_X12_row a0 a1 a2 K N I L R Q) : Met l yX12_row (.code yX12_row cX12_row 3 (some .int) :: z_tbl) rm_X12_row (z_Pc G [.ref a0, .int a1, .int a2] K N I L R) (z_Qc G (qIi K N L R Q)) 0 0 (z_A G) := by
  refine z_met (by decide) (Nat.le_of_ble_eq_true rfl) (fun X hX hRm hC0 hnm => ?_)
  subst hX
  have hC : ZOk X G RX12 cX12_row 3 (some .int) := hC0
  show Z X G 3 0 0 _ K N I L R 0 [(0, .ref a0), (1, .int a1), (2, .int a2)] []
  delta w_X12_row at h
  refine z_aload_n hC (q := 0) dX12_row_0 rfl rfl ?_
  refine z_iconst hC (v := 0) k_iconst_0 dX12_row_1 ?_
  obtain ⟨hk1, h⟩ := h
  refine pf_RX12_1 hC dX12_row_2 hk1 ?_
  refine z_genI (fun I2 eI2 => ?_)
  have h := h I2 eI2
  refine z_iload_n hC (q := 1) dX12_row_5 rfl rfl ?_
  refine z_iconst hC (v := 0) k_iconst_0 dX12_row_6 ?_
  refine z_aload_n hC (q := 0) dX12_row_7 rfl rfl ?_
  obtain ⟨b3, hb3, h⟩ := h
  refine gf_RX12_98 hC dX12_row_8 hk1 hb3 ?_
  refine z_iconst hC (v := 1) k_iconst_1 dX12_row_11 ?_
  obtain ⟨hk4, h⟩ := h
  obtain ⟨hi5, h⟩ := h
  refine z_iaload hC hk4 hi5 dX12_row_12 ?_
  refine z_iconst hC (v := 1) k_iconst_1 dX12_row_13 ?_
  refine z_isub hC dX12_row_14 ?_
  refine cl_RX12_75 hC (c_X12_isIn _ G a1 0 ((I2 b3 (ix 1)) - 1) K N I2 L R _ h) dX12_row_15 (by rw [hRm]; exact ⟨Nat.le_of_ble_eq_true rfl, Nat.le_of_ble_eq_true rfl⟩) ⟨Nat.zero_le _, Nat.zero_le _⟩ (Nat.le_of_ble_eq_true rfl) (z_kPz (fun r6 h => ?_))
  refine z_ifz_ne hC (tgt := 23) dX12_row_18 (by decide) (fun hc => ?_) (fun hc => ?_)
  · have h := h.1 hc
    refine z_iload_n hC (q := 2) dX12_row_23 rfl rfl ?_
    by_cases hc0 : a2 = 0
    · have h := h.1 hc0
      refine z_tableIn hC (off := 28) (tgt := 52) 0 hc0 dX12_row_24 (by decide) (by decide) ?_
      refine z_aload_n hC (q := 0) dX12_row_52 rfl rfl ?_
      refine gf_RX12_98 hC dX12_row_53 hk1 hb3 ?_
      refine z_bipush hC (v := 6) k_bipush_6 dX12_row_56 ?_
      refine z_iload_n hC (q := 1) dX12_row_58 rfl rfl ?_
      refine z_iadd hC dX12_row_59 ?_
      obtain ⟨hi7, h⟩ := h
      refine z_iaload hC hk4 hi7 dX12_row_60 ?_
      exact z_iret hC dX12_row_61 ⟨_, rfl, rfl, rfl, rfl, rfl, h⟩
    · have h := h.2 hc0
      by_cases hc1 : a2 = 1
      · have h := h.1 hc1
        refine z_tableIn hC (off := 38) (tgt := 62) 1 hc1 dX12_row_24 (by decide) (by decide) ?_
        refine z_aload_n hC (q := 0) dX12_row_62 rfl rfl ?_
        refine gf_RX12_98 hC dX12_row_63 hk1 hb3 ?_
        refine z_bipush hC (v := 36) k_bipush_36 dX12_row_66 ?_
        refine z_iload_n hC (q := 1) dX12_row_68 rfl rfl ?_
        refine z_iadd hC dX12_row_69 ?_
        obtain ⟨hi8, h⟩ := h
        refine z_iaload hC hk4 hi8 dX12_row_70 ?_
        exact z_iret hC dX12_row_71 ⟨_, rfl, rfl, rfl, rfl, rfl, h⟩
      · have h := h.2 hc1
        by_cases hc2 : a2 = 2
        · have h := h.1 hc2
          refine z_tableIn hC (off := 48) (tgt := 72) 2 hc2 dX12_row_24 (by decide) (by decide) ?_
          refine z_aload_n hC (q := 0) dX12_row_72 rfl rfl ?_
          refine z_iload_n hC (q := 1) dX12_row_73 rfl rfl ?_
          refine cl_RX12_264 hC (c_X12_rowEnd _ G a0 a1 K N I2 L R _ h) hk1 dX12_row_74 (by rw [hRm]; exact ⟨Nat.le_of_ble_eq_true rfl, Nat.le_of_ble_eq_true rfl⟩) ⟨Nat.zero_le _, Nat.zero_le _⟩ (Nat.le_of_ble_eq_true rfl) (z_kPi (fun r9 h => ?_))
          refine z_aload_n hC (q := 0) dX12_row_77 rfl rfl ?_
          refine gf_RX12_98 hC dX12_row_78 hk1 hb3 ?_
          refine z_bipush hC (v := 6) k_bipush_6 dX12_row_81 ?_
          refine z_iload_n hC (q := 1) dX12_row_83 rfl rfl ?_
          refine z_iadd hC dX12_row_84 ?_
          obtain ⟨hi10, h⟩ := h
          refine z_iaload hC hk4 hi10 dX12_row_85 ?_
          refine z_isub hC dX12_row_86 ?_
          exact z_iret hC dX12_row_87 ⟨_, rfl, rfl, rfl, rfl, rfl, h⟩
        · have h := h.2 hc2
          have hout : a2.toInt < 0 ∨ 2 < a2.toInt := by
            have hc0 := z_nei hc0 (by decide : (0 : Int32).toInt = 0)
            have hc1 := z_nei hc1 (by decide : (1 : Int32).toInt = 1)
            have hc2 := z_nei hc2 (by decide : (2 : Int32).toInt = 2)
            omega
          refine z_tableOut hC (tgt := 88) dX12_row_24 hout (by decide) ?_
          refine z_iconst hC (v := (-1)) k_iconst_m1 dX12_row_88 ?_
          exact z_iret hC dX12_row_89 ⟨_, rfl, rfl, rfl, rfl, rfl, h⟩
  · have h := h.2 hc
    refine z_iconst hC (v := (-1)) k_iconst_m1 dX12_row_21 ?_
    exact z_iret hC dX12_row_22 ⟨_, rfl, rfl, rfl, rfl, rfl, h⟩
def w_X12_lineAt  (a0 : Nat) (a1 : Int32) (K : MK) (N : MK) (I : MI) (L : ML) (R : MR) (Q : Int32 → MI → Prop) : Prop := K a0 = 13 ∧ ∀ I2 : MI, I2 = mup I a0 0 0 → w_X12_isAddress a0 a1 K N I2 L R (fun r3 => (r3 = false → Q (-1) I2) ∧ (r3 = true → w_X12_lineOf a0 a1 K N I2 L R (fun r4 => Q r4 I2)))
set_option maxHeartbeats 4000000 in
set_option maxRecDepth 100000 in
theorem c_X12_lineAt  (l : Launch) (G : ZG) (a0 : Nat) (a1 : Int32) (K : MK) (N : MK) (I : MI) (L : ML) (R : MR) (Q : Int32 → MI → Prop) (h : w_X12_lineAt a0 a1 K N I L R Q) : Met l yX12_lineAt (.code yX12_lineAt cX12_lineAt 2 (some .int) :: z_tbl) rm_X12_lineAt (z_Pc G [.ref a0, .int a1] K N I L R) (z_Qc G (qIi K N L R Q)) 0 0 (z_A G) := by
  refine z_met (by decide) (Nat.le_of_ble_eq_true rfl) (fun X hX hRm hC0 hnm => ?_)
  subst hX
  have hC : ZOk X G RX12 cX12_lineAt 2 (some .int) := hC0
  show Z X G 2 0 0 _ K N I L R 0 [(0, .ref a0), (1, .int a1)] []
  delta w_X12_lineAt at h
  refine z_aload_n hC (q := 0) dX12_lineAt_0 rfl rfl ?_
  refine z_iconst hC (v := 0) k_iconst_0 dX12_lineAt_1 ?_
  obtain ⟨hk1, h⟩ := h
  refine pf_RX12_1 hC dX12_lineAt_2 hk1 ?_
  refine z_genI (fun I2 eI2 => ?_)
  have h := h I2 eI2
  refine z_aload_n hC (q := 0) dX12_lineAt_5 rfl rfl ?_
  refine z_iload_n hC (q := 1) dX12_lineAt_6 rfl rfl ?_
  refine cl_RX12_267 hC (c_X12_isAddress _ G a0 a1 K N I2 L R _ h) hk1 dX12_lineAt_7 (by rw [hRm]; exact ⟨Nat.le_of_ble_eq_true rfl, Nat.le_of_ble_eq_true rfl⟩) ⟨Nat.zero_le _, Nat.zero_le _⟩ (Nat.le_of_ble_eq_true rfl) (z_kPz (fun r3 h => ?_))
  refine z_ifz_eq hC (tgt := 21) dX12_lineAt_10 (by decide) (fun hc => ?_) (fun hc => ?_)
  · have h := h.1 hc
    refine z_iconst hC (v := (-1)) k_iconst_m1 dX12_lineAt_21 ?_
    exact z_iret hC dX12_lineAt_22 ⟨_, rfl, rfl, rfl, rfl, rfl, h⟩
  · have h := h.2 hc
    refine z_aload_n hC (q := 0) dX12_lineAt_13 rfl rfl ?_
    refine z_iload_n hC (q := 1) dX12_lineAt_14 rfl rfl ?_
    refine cl_RX12_270 hC (c_X12_lineOf _ G a0 a1 K N I2 L R _ h) hk1 dX12_lineAt_15 (by rw [hRm]; exact ⟨Nat.le_of_ble_eq_true rfl, Nat.le_of_ble_eq_true rfl⟩) ⟨Nat.zero_le _, Nat.zero_le _⟩ (Nat.le_of_ble_eq_true rfl) (z_kPi (fun r4 h => ?_))
    refine z_goto hC (tgt := 22) dX12_lineAt_18 (by decide) ?_
    exact z_iret hC dX12_lineAt_22 ⟨_, rfl, rfl, rfl, rfl, rfl, h⟩
def w_X12_addressOf_10  (x0 : Nat) (x1 : Int32) (x2 : Int32) (x3 : Int32) (x4 : Int32)  (K : MK) (N : MK) (I : MI) (L : ML) (R : MR)  (Q : Int32 → MI → Prop) : Prop := ∃ J : Nat → Nat → Int32 → Int32 → Int32 → Int32 → MI → Prop, (∃ n, J n x0 x1 x2 x3 x4 I) ∧ ∀ (n : Nat) (x0 : Nat) (x1 : Int32) (x2 : Int32) (x3 : Int32) (x4 : Int32) (I : MI), J n x0 x1 x2 x3 x4 I → K x0 = 13 ∧ ∃ b4 : Nat, R x0 14 = some b4 ∧ K b4 = 14 ∧ vp_in 1 (N b4) ∧ ((I b4 (ix 1)) ≤ x4 → Q (-1) I) ∧ (¬ (I b4 (ix 1)) ≤ x4 → vp_in ((36 : Int32) + x4) (N b4) ∧ ((I b4 (ix ((36 : Int32) + x4))) = x1 → (¬ x3 = x2 → ∀ v8 : Int32, v8 = x3 + 1 → ∀ v9 : Int32, v9 = x4 + 1 → ∃ n1, n1 < n ∧ J n1 x0 x1 x2 v8 v9 I) ∧ (x3 = x2 → vp_in ((6 : Int32) + x4) (N b4) ∧ Q (I b4 (ix ((6 : Int32) + x4))) I)) ∧ (¬ (I b4 (ix ((36 : Int32) + x4))) = x1 → ∀ v11 : Int32, v11 = x4 + 1 → ∃ n1, n1 < n ∧ J n1 x0 x1 x2 x3 v11 I))
def w_X12_addressOf  (a0 : Nat) (a1 : Int32) (a2 : Int32) (K : MK) (N : MK) (I : MI) (L : ML) (R : MR) (Q : Int32 → MI → Prop) : Prop := K a0 = 13 ∧ ∀ I2 : MI, I2 = mup I a0 0 0 → w_X12_addressOf_10 a0 a1 a2 0 0 K N I2 L R Q
set_option maxHeartbeats 4000000 in
set_option maxRecDepth 100000 in
theorem z_X12_addressOf_10 {X : ZX} {G : ZG}  {x0 : Nat} {x1 : Int32} {x2 : Int32} {x3 : Int32} {x4 : Int32}  {K : MK} {N : MK} {I : MI} {L : ML} {R : MR}  {Q : Int32 → MI → Prop} (hC : ZOk X G RX12 cX12_addressOf 5 (some .int)) (hRm : X.2.2.2.1 = rm_X12_addressOf) (h : w_X12_addressOf_10 x0 x1 x2 x3 x4 K N I L R  Q) : Z X G 5 0 0 (z_T X G (qIi K N L R Q) 0 0) K N I L R 10 [(0, .ref x0), (1, .int x1), (2, .int x2), (3, .int x3), (4, .int x4)] [] := by
  delta w_X12_addressOf_10 at h
  obtain ⟨J, ⟨n, h0⟩, hs⟩ := h
  have key : ∀ (n : Nat) (x0 : Nat) (x1 : Int32) (x2 : Int32) (x3 : Int32) (x4 : Int32) (I : MI), J n x0 x1 x2 x3 x4 I → Z X G 5 0 0 (z_T X G (qIi K N L R Q) 0 0) K N I L R 10 [(0, .ref x0), (1, .int x1), (2, .int x2), (3, .int x3), (4, .int x4)] [] := by
    intro n
    induction n using Nat.strongRecOn with
    | _ n ih =>
      intro x0 x1 x2 x3 x4 I hJ
      have hC10 : ∀ (y0 : Nat) (y1 : Int32) (y2 : Int32) (y3 : Int32) (y4 : Int32) (zI : MI), (∃ n1, n1 < n ∧ J n1 y0 y1 y2 y3 y4 zI) → Z X G 5 0 0 (z_T X G (qIi K N L R Q) 0 0) K N zI L R 10 [(0, .ref y0), (1, .int y1), (2, .int y2), (3, .int y3), (4, .int y4)] [] := fun y0 y1 y2 y3 y4 zI ⟨n1, hn1, hj⟩ => ih n1 hn1 y0 y1 y2 y3 y4 zI hj
      have h := hs n x0 x1 x2 x3 x4 I hJ
      refine z_iload hC (q := 4) dX12_addressOf_10 rfl ?_
      refine z_aload_n hC (q := 0) dX12_addressOf_12 rfl rfl ?_
      obtain ⟨hk3, h⟩ := h
      obtain ⟨b4, hb4, h⟩ := h
      refine gf_RX12_98 hC dX12_addressOf_13 hk3 hb4 ?_
      refine z_iconst hC (v := 1) k_iconst_1 dX12_addressOf_16 ?_
      obtain ⟨hk5, h⟩ := h
      obtain ⟨hi6, h⟩ := h
      refine z_iaload hC hk5 hi6 dX12_addressOf_17 ?_
      refine z_icmp_ge hC (tgt := 63) dX12_addressOf_18 (by decide) (fun hc => ?_) (fun hc => ?_)
      · have h := h.1 hc
        refine z_iconst hC (v := (-1)) k_iconst_m1 dX12_addressOf_63 ?_
        exact z_iret hC dX12_addressOf_64 ⟨_, rfl, rfl, rfl, rfl, rfl, h⟩
      · have h := h.2 hc
        refine z_aload_n hC (q := 0) dX12_addressOf_21 rfl rfl ?_
        refine gf_RX12_98 hC dX12_addressOf_22 hk3 hb4 ?_
        refine z_bipush hC (v := 36) k_bipush_36 dX12_addressOf_25 ?_
        refine z_iload hC (q := 4) dX12_addressOf_27 rfl ?_
        refine z_iadd hC dX12_addressOf_29 ?_
        obtain ⟨hi7, h⟩ := h
        refine z_iaload hC hk5 hi7 dX12_addressOf_30 ?_
        refine z_iload_n hC (q := 1) dX12_addressOf_31 rfl rfl ?_
        refine z_icmp_eq hC (tgt := 38) dX12_addressOf_32 (by decide) (fun hc => ?_) (fun hc => ?_)
        · have h := h.1 hc
          refine z_iload_n hC (q := 3) dX12_addressOf_38 rfl rfl ?_
          refine z_iload_n hC (q := 2) dX12_addressOf_39 rfl rfl ?_
          refine z_icmp_ne hC (tgt := 54) dX12_addressOf_40 (by decide) (fun hc => ?_) (fun hc => ?_)
          · have h := h.1 hc
            obtain ⟨v8, ev8⟩ : ∃ y : Int32, y = x3 + 1 := ⟨_, rfl⟩
            have h := h v8 ev8
            refine z_iinc hC (q := 3) (v := v8) (lv1 := [(3, .int v8), (0, .ref x0), (1, .int x1), (2, .int x2), (4, .int x4)]) dX12_addressOf_54 rfl (by rw [ev8, k_iinc_1]) (by decide) rfl ?_
            obtain ⟨v9, ev9⟩ : ∃ y : Int32, y = x4 + 1 := ⟨_, rfl⟩
            have h := h v9 ev9
            refine z_iinc hC (q := 4) (v := v9) (lv1 := [(4, .int v9), (3, .int v8), (0, .ref x0), (1, .int x1), (2, .int x2)]) dX12_addressOf_57 rfl (by rw [ev9, k_iinc_1]) (by decide) rfl ?_
            refine z_goto hC (tgt := 10) dX12_addressOf_60 (by decide) ?_
            exact z_sub [(0, .ref x0), (1, .int x1), (2, .int x2), (3, .int v8), (4, .int v9)] [2, 3, 4, 1, 0] rfl (hC10 _ _ _ _ _ _ h)
          · have h := h.2 hc
            refine z_aload_n hC (q := 0) dX12_addressOf_43 rfl rfl ?_
            refine gf_RX12_98 hC dX12_addressOf_44 hk3 hb4 ?_
            refine z_bipush hC (v := 6) k_bipush_6 dX12_addressOf_47 ?_
            refine z_iload hC (q := 4) dX12_addressOf_49 rfl ?_
            refine z_iadd hC dX12_addressOf_51 ?_
            obtain ⟨hi10, h⟩ := h
            refine z_iaload hC hk5 hi10 dX12_addressOf_52 ?_
            exact z_iret hC dX12_addressOf_53 ⟨_, rfl, rfl, rfl, rfl, rfl, h⟩
        · have h := h.2 hc
          refine z_goto hC (tgt := 57) dX12_addressOf_35 (by decide) ?_
          obtain ⟨v11, ev11⟩ : ∃ y : Int32, y = x4 + 1 := ⟨_, rfl⟩
          have h := h v11 ev11
          refine z_iinc hC (q := 4) (v := v11) (lv1 := [(4, .int v11), (0, .ref x0), (1, .int x1), (2, .int x2), (3, .int x3)]) dX12_addressOf_57 rfl (by rw [ev11, k_iinc_1]) (by decide) rfl ?_
          refine z_goto hC (tgt := 10) dX12_addressOf_60 (by decide) ?_
          exact z_sub [(0, .ref x0), (1, .int x1), (2, .int x2), (3, .int x3), (4, .int v11)] [1, 2, 3, 4, 0] rfl (hC10 _ _ _ _ _ _ h)
  exact key n x0 x1 x2 x3 x4 I h0
set_option maxHeartbeats 4000000 in
set_option maxRecDepth 100000 in
theorem c_X12_addressOf  (l : Launch) (G : ZG) (a0 : Nat) (a1 : Int32) (a2 : Int32) (K : MK) (N : MK) (I : MI) (L : ML) (R : MR) (Q : Int32 → MI → Prop) (h : w_X12_addressOf a0 a1 a2 K N I L R Q) : Met l yX12_addressOf (.code yX12_addressOf cX12_addressOf 5 (some .int) :: z_tbl) rm_X12_addressOf (z_Pc G [.ref a0, .int a1, .int a2] K N I L R) (z_Qc G (qIi K N L R Q)) 0 0 (z_A G) := by
  refine z_met (by decide) (Nat.le_of_ble_eq_true rfl) (fun X hX hRm hC0 hnm => ?_)
  subst hX
  have hC : ZOk X G RX12 cX12_addressOf 5 (some .int) := hC0
  show Z X G 5 0 0 _ K N I L R 0 [(0, .ref a0), (1, .int a1), (2, .int a2)] []
  delta w_X12_addressOf at h
  refine z_aload_n hC (q := 0) dX12_addressOf_0 rfl rfl ?_
  refine z_iconst hC (v := 0) k_iconst_0 dX12_addressOf_1 ?_
  obtain ⟨hk1, h⟩ := h
  refine pf_RX12_1 hC dX12_addressOf_2 hk1 ?_
  refine z_genI (fun I2 eI2 => ?_)
  have h := h I2 eI2
  refine z_iconst hC (v := 0) k_iconst_0 dX12_addressOf_5 ?_
  refine z_istore_n hC (lv1 := [(3, .int 0), (0, .ref a0), (1, .int a1), (2, .int a2)]) dX12_addressOf_6 rfl (by decide) rfl ?_
  refine z_iconst hC (v := 0) k_iconst_0 dX12_addressOf_7 ?_
  refine z_istore hC (lv1 := [(4, .int 0), (3, .int 0), (0, .ref a0), (1, .int a1), (2, .int a2)]) dX12_addressOf_8 (by decide) rfl ?_
  exact z_sub [(0, .ref a0), (1, .int a1), (2, .int a2), (3, .int 0), (4, .int 0)] [2, 3, 4, 1, 0] rfl (z_X12_addressOf_10 hC hRm h)
def w_X12_longest_24  (x0 : Nat) (x1 : Int32) (x2 : Int32) (x3 : Int32) (x4 : Int32) (x5 : Int32)  (K : MK) (N : MK) (I : MI) (L : ML) (R : MR) (C11 : Nat → Int32 → Int32 → Int32 → MI → Prop) (Q : Int32 → MI → Prop) : Prop := ∃ J : Nat → Nat → Int32 → Int32 → Int32 → Int32 → Int32 → MI → Prop, (∃ n, J n x0 x1 x2 x3 x4 x5 I) ∧ ∀ (n : Nat) (x0 : Nat) (x1 : Int32) (x2 : Int32) (x3 : Int32) (x4 : Int32) (x5 : Int32) (I : MI), J n x0 x1 x2 x3 x4 x5 I → K x0 = 13 ∧ ∃ b4 : Nat, R x0 14 = some b4 ∧ K b4 = 14 ∧ vp_in 1 (N b4) ∧ ((I b4 (ix 1)) ≤ x5 → (x2 < x4 → ∀ v7 : Int32, v7 = x3 + 1 → C11 x0 x3 x4 v7 I) ∧ (¬ x2 < x4 → ∀ v8 : Int32, v8 = x3 + 1 → C11 x0 x1 x2 v8 I)) ∧ (¬ (I b4 (ix 1)) ≤ x5 → vp_in ((36 : Int32) + x5) (N b4) ∧ (¬ (I b4 (ix ((36 : Int32) + x5))) = x3 → ∀ v10 : Int32, v10 = x5 + 1 → ∃ n1, n1 < n ∧ J n1 x0 x1 x2 x3 x4 v10 I) ∧ ((I b4 (ix ((36 : Int32) + x5))) = x3 → w_X12_rowEnd x0 x5 K N I L R (fun r11 => vp_in ((6 : Int32) + x5) (N b4) ∧ ∀ v13 : Int32, v13 = (x4 + (r11 - (I b4 (ix ((6 : Int32) + x5))))) → ∀ v14 : Int32, v14 = x5 + 1 → ∃ n1, n1 < n ∧ J n1 x0 x1 x2 x3 v13 v14 I)))
def w_X12_longest_11  (x0 : Nat) (x1 : Int32) (x2 : Int32) (x3 : Int32)  (K : MK) (N : MK) (I : MI) (L : ML) (R : MR)  (Q : Int32 → MI → Prop) : Prop := ∃ J : Nat → Nat → Int32 → Int32 → Int32 → MI → Prop, (∃ n, J n x0 x1 x2 x3 I) ∧ ∀ (n : Nat) (x0 : Nat) (x1 : Int32) (x2 : Int32) (x3 : Int32) (I : MI), J n x0 x1 x2 x3 I → ((250 : Int32) < x3 → Q x1 I) ∧ (¬ (250 : Int32) < x3 → w_X12_longest_24 x0 x1 x2 x3 0 0 K N I L R (fun y0 y1 y2 y3 y4 => ∃ n1, n1 < n ∧ J n1 y0 y1 y2 y3 y4) Q)
def w_X12_longest  (a0 : Nat) (K : MK) (N : MK) (I : MI) (L : ML) (R : MR) (Q : Int32 → MI → Prop) : Prop := K a0 = 13 ∧ ∀ I2 : MI, I2 = mup I a0 0 0 → w_X12_longest_11 a0 (-1) 0 1 K N I2 L R Q
set_option maxHeartbeats 4000000 in
set_option maxRecDepth 100000 in
theorem z_X12_longest_24 {X : ZX} {G : ZG}  {x0 : Nat} {x1 : Int32} {x2 : Int32} {x3 : Int32} {x4 : Int32} {x5 : Int32}  {K : MK} {N : MK} {I : MI} {L : ML} {R : MR} {C11 : Nat → Int32 → Int32 → Int32 → MI → Prop} {Q : Int32 → MI → Prop} (hC : ZOk X G RX12 cX12_longest 6 (some .int)) (hRm : X.2.2.2.1 = rm_X12_longest) (hC11 : ∀ (y0 : Nat) (y1 : Int32) (y2 : Int32) (y3 : Int32) (zI : MI), C11 y0 y1 y2 y3 zI → Z X G 6 0 0 (z_T X G (qIi K N L R Q) 0 0) K N zI L R 11 [(0, .ref y0), (1, .int y1), (2, .int y2), (3, .int y3)] []) (h : w_X12_longest_24 x0 x1 x2 x3 x4 x5 K N I L R C11 Q) : Z X G 6 0 0 (z_T X G (qIi K N L R Q) 0 0) K N I L R 24 [(0, .ref x0), (1, .int x1), (2, .int x2), (3, .int x3), (4, .int x4), (5, .int x5)] [] := by
  delta w_X12_longest_24 at h
  obtain ⟨J, ⟨n, h0⟩, hs⟩ := h
  have key : ∀ (n : Nat) (x0 : Nat) (x1 : Int32) (x2 : Int32) (x3 : Int32) (x4 : Int32) (x5 : Int32) (I : MI), J n x0 x1 x2 x3 x4 x5 I → Z X G 6 0 0 (z_T X G (qIi K N L R Q) 0 0) K N I L R 24 [(0, .ref x0), (1, .int x1), (2, .int x2), (3, .int x3), (4, .int x4), (5, .int x5)] [] := by
    intro n
    induction n using Nat.strongRecOn with
    | _ n ih =>
      intro x0 x1 x2 x3 x4 x5 I hJ
      have hC24 : ∀ (y0 : Nat) (y1 : Int32) (y2 : Int32) (y3 : Int32) (y4 : Int32) (y5 : Int32) (zI : MI), (∃ n1, n1 < n ∧ J n1 y0 y1 y2 y3 y4 y5 zI) → Z X G 6 0 0 (z_T X G (qIi K N L R Q) 0 0) K N zI L R 24 [(0, .ref y0), (1, .int y1), (2, .int y2), (3, .int y3), (4, .int y4), (5, .int y5)] [] := fun y0 y1 y2 y3 y4 y5 zI ⟨n1, hn1, hj⟩ => ih n1 hn1 y0 y1 y2 y3 y4 y5 zI hj
      have h := hs n x0 x1 x2 x3 x4 x5 I hJ
      refine z_iload hC (q := 5) dX12_longest_24 rfl ?_
      refine z_aload_n hC (q := 0) dX12_longest_26 rfl rfl ?_
      obtain ⟨hk3, h⟩ := h
      obtain ⟨b4, hb4, h⟩ := h
      refine gf_RX12_98 hC dX12_longest_27 hk3 hb4 ?_
      refine z_iconst hC (v := 1) k_iconst_1 dX12_longest_30 ?_
      obtain ⟨hk5, h⟩ := h
      obtain ⟨hi6, h⟩ := h
      refine z_iaload hC hk5 hi6 dX12_longest_31 ?_
      refine z_icmp_ge hC (tgt := 77) dX12_longest_32 (by decide) (fun hc => ?_) (fun hc => ?_)
      · have h := h.1 hc
        refine z_iload hC (q := 4) dX12_longest_77 rfl ?_
        refine z_iload_n hC (q := 2) dX12_longest_79 rfl rfl ?_
        refine z_icmp_gt hC (tgt := 86) dX12_longest_80 (by decide) (fun hc => ?_) (fun hc => ?_)
        · have h := h.1 hc
          refine z_iload hC (q := 4) dX12_longest_86 rfl ?_
          refine z_istore_n hC (lv1 := [(2, .int x4), (0, .ref x0), (1, .int x1), (3, .int x3), (4, .int x4), (5, .int x5)]) dX12_longest_88 rfl (by decide) rfl ?_
          refine z_iload_n hC (q := 3) dX12_longest_89 rfl rfl ?_
          refine z_istore_n hC (lv1 := [(1, .int x3), (2, .int x4), (0, .ref x0), (3, .int x3), (4, .int x4), (5, .int x5)]) dX12_longest_90 rfl (by decide) rfl ?_
          obtain ⟨v7, ev7⟩ : ∃ y : Int32, y = x3 + 1 := ⟨_, rfl⟩
          have h := h v7 ev7
          refine z_iinc hC (q := 3) (v := v7) (lv1 := [(3, .int v7), (1, .int x3), (2, .int x4), (0, .ref x0), (4, .int x4), (5, .int x5)]) dX12_longest_91 rfl (by rw [ev7, k_iinc_1]) (by decide) rfl ?_
          refine z_goto hC (tgt := 11) dX12_longest_94 (by decide) ?_
          exact z_sub [(0, .ref x0), (1, .int x3), (2, .int x4), (3, .int v7)] [3, 1, 2, 0] rfl (hC11 _ _ _ _ _ h)
        · have h := h.2 hc
          refine z_goto hC (tgt := 91) dX12_longest_83 (by decide) ?_
          obtain ⟨v8, ev8⟩ : ∃ y : Int32, y = x3 + 1 := ⟨_, rfl⟩
          have h := h v8 ev8
          refine z_iinc hC (q := 3) (v := v8) (lv1 := [(3, .int v8), (0, .ref x0), (1, .int x1), (2, .int x2), (4, .int x4), (5, .int x5)]) dX12_longest_91 rfl (by rw [ev8, k_iinc_1]) (by decide) rfl ?_
          refine z_goto hC (tgt := 11) dX12_longest_94 (by decide) ?_
          exact z_sub [(0, .ref x0), (1, .int x1), (2, .int x2), (3, .int v8)] [1, 2, 3, 0] rfl (hC11 _ _ _ _ _ h)
      · have h := h.2 hc
        refine z_aload_n hC (q := 0) dX12_longest_35 rfl rfl ?_
        refine gf_RX12_98 hC dX12_longest_36 hk3 hb4 ?_
        refine z_bipush hC (v := 36) k_bipush_36 dX12_longest_39 ?_
        refine z_iload hC (q := 5) dX12_longest_41 rfl ?_
        refine z_iadd hC dX12_longest_43 ?_
        obtain ⟨hi9, h⟩ := h
        refine z_iaload hC hk5 hi9 dX12_longest_44 ?_
        refine z_iload_n hC (q := 3) dX12_longest_45 rfl rfl ?_
        refine z_icmp_ne hC (tgt := 71) dX12_longest_46 (by decide) (fun hc => ?_) (fun hc => ?_)
        · have h := h.1 hc
          obtain ⟨v10, ev10⟩ : ∃ y : Int32, y = x5 + 1 := ⟨_, rfl⟩
          have h := h v10 ev10
          refine z_iinc hC (q := 5) (v := v10) (lv1 := [(5, .int v10), (0, .ref x0), (1, .int x1), (2, .int x2), (3, .int x3), (4, .int x4)]) dX12_longest_71 rfl (by rw [ev10, k_iinc_1]) (by decide) rfl ?_
          refine z_goto hC (tgt := 24) dX12_longest_74 (by decide) ?_
          exact z_sub [(0, .ref x0), (1, .int x1), (2, .int x2), (3, .int x3), (4, .int x4), (5, .int v10)] [1, 2, 3, 4, 5, 0] rfl (hC24 _ _ _ _ _ _ _ h)
        · have h := h.2 hc
          refine z_iload hC (q := 4) dX12_longest_49 rfl ?_
          refine z_aload_n hC (q := 0) dX12_longest_51 rfl rfl ?_
          refine z_iload hC (q := 5) dX12_longest_52 rfl ?_
          refine cl_RX12_264 hC (c_X12_rowEnd _ G x0 x5 K N I L R _ h) hk3 dX12_longest_54 (by rw [hRm]; exact ⟨Nat.le_of_ble_eq_true rfl, Nat.le_of_ble_eq_true rfl⟩) ⟨Nat.zero_le _, Nat.zero_le _⟩ (Nat.le_of_ble_eq_true rfl) (z_kPi (fun r11 h => ?_))
          refine z_aload_n hC (q := 0) dX12_longest_57 rfl rfl ?_
          refine gf_RX12_98 hC dX12_longest_58 hk3 hb4 ?_
          refine z_bipush hC (v := 6) k_bipush_6 dX12_longest_61 ?_
          refine z_iload hC (q := 5) dX12_longest_63 rfl ?_
          refine z_iadd hC dX12_longest_65 ?_
          obtain ⟨hi12, h⟩ := h
          refine z_iaload hC hk5 hi12 dX12_longest_66 ?_
          refine z_isub hC dX12_longest_67 ?_
          refine z_iadd hC dX12_longest_68 ?_
          refine z_topi (fun v13 ev13 => ?_)
          have h := h v13 ev13
          refine z_istore hC (lv1 := [(4, .int v13), (0, .ref x0), (1, .int x1), (2, .int x2), (3, .int x3), (5, .int x5)]) dX12_longest_69 (by decide) rfl ?_
          obtain ⟨v14, ev14⟩ : ∃ y : Int32, y = x5 + 1 := ⟨_, rfl⟩
          have h := h v14 ev14
          refine z_iinc hC (q := 5) (v := v14) (lv1 := [(5, .int v14), (4, .int v13), (0, .ref x0), (1, .int x1), (2, .int x2), (3, .int x3)]) dX12_longest_71 rfl (by rw [ev14, k_iinc_1]) (by decide) rfl ?_
          refine z_goto hC (tgt := 24) dX12_longest_74 (by decide) ?_
          exact z_sub [(0, .ref x0), (1, .int x1), (2, .int x2), (3, .int x3), (4, .int v13), (5, .int v14)] [2, 3, 4, 5, 1, 0] rfl (hC24 _ _ _ _ _ _ _ h)
  exact key n x0 x1 x2 x3 x4 x5 I h0
set_option maxHeartbeats 4000000 in
set_option maxRecDepth 100000 in
theorem z_X12_longest_11 {X : ZX} {G : ZG}  {x0 : Nat} {x1 : Int32} {x2 : Int32} {x3 : Int32}  {K : MK} {N : MK} {I : MI} {L : ML} {R : MR}  {Q : Int32 → MI → Prop} (hC : ZOk X G RX12 cX12_longest 6 (some .int)) (hRm : X.2.2.2.1 = rm_X12_longest) (h : w_X12_longest_11 x0 x1 x2 x3 K N I L R  Q) : Z X G 6 0 0 (z_T X G (qIi K N L R Q) 0 0) K N I L R 11 [(0, .ref x0), (1, .int x1), (2, .int x2), (3, .int x3)] [] := by
  delta w_X12_longest_11 at h
  obtain ⟨J, ⟨n, h0⟩, hs⟩ := h
  have key : ∀ (n : Nat) (x0 : Nat) (x1 : Int32) (x2 : Int32) (x3 : Int32) (I : MI), J n x0 x1 x2 x3 I → Z X G 6 0 0 (z_T X G (qIi K N L R Q) 0 0) K N I L R 11 [(0, .ref x0), (1, .int x1), (2, .int x2), (3, .int x3)] [] := by
    intro n
    induction n using Nat.strongRecOn with
    | _ n ih =>
      intro x0 x1 x2 x3 I hJ
      have hC11 : ∀ (y0 : Nat) (y1 : Int32) (y2 : Int32) (y3 : Int32) (zI : MI), (∃ n1, n1 < n ∧ J n1 y0 y1 y2 y3 zI) → Z X G 6 0 0 (z_T X G (qIi K N L R Q) 0 0) K N zI L R 11 [(0, .ref y0), (1, .int y1), (2, .int y2), (3, .int y3)] [] := fun y0 y1 y2 y3 zI ⟨n1, hn1, hj⟩ => ih n1 hn1 y0 y1 y2 y3 zI hj
      have h := hs n x0 x1 x2 x3 I hJ
      refine z_iload_n hC (q := 3) dX12_longest_11 rfl rfl ?_
      refine z_sipush hC (v := 250) k_sipush_250 dX12_longest_12 ?_
      refine z_icmp_gt hC (tgt := 97) dX12_longest_15 (by decide) (fun hc => ?_) (fun hc => ?_)
      · have h := h.1 hc
        refine z_iload_n hC (q := 1) dX12_longest_97 rfl rfl ?_
        exact z_iret hC dX12_longest_98 ⟨_, rfl, rfl, rfl, rfl, rfl, h⟩
      · have h := h.2 hc
        refine z_iconst hC (v := 0) k_iconst_0 dX12_longest_18 ?_
        refine z_istore hC (lv1 := [(4, .int 0), (0, .ref x0), (1, .int x1), (2, .int x2), (3, .int x3)]) dX12_longest_19 (by decide) rfl ?_
        refine z_iconst hC (v := 0) k_iconst_0 dX12_longest_21 ?_
        refine z_istore hC (lv1 := [(5, .int 0), (4, .int 0), (0, .ref x0), (1, .int x1), (2, .int x2), (3, .int x3)]) dX12_longest_22 (by decide) rfl ?_
        exact z_sub [(0, .ref x0), (1, .int x1), (2, .int x2), (3, .int x3), (4, .int 0), (5, .int 0)] [2, 3, 4, 5, 1, 0] rfl (z_X12_longest_24 hC hRm hC11 h)
  exact key n x0 x1 x2 x3 I h0
set_option maxHeartbeats 4000000 in
set_option maxRecDepth 100000 in
theorem c_X12_longest  (l : Launch) (G : ZG) (a0 : Nat) (K : MK) (N : MK) (I : MI) (L : ML) (R : MR) (Q : Int32 → MI → Prop) (h : w_X12_longest a0 K N I L R Q) : Met l yX12_longest (.code yX12_longest cX12_longest 6 (some .int) :: z_tbl) rm_X12_longest (z_Pc G [.ref a0] K N I L R) (z_Qc G (qIi K N L R Q)) 0 0 (z_A G) := by
  refine z_met (by decide) (Nat.le_of_ble_eq_true rfl) (fun X hX hRm hC0 hnm => ?_)
  subst hX
  have hC : ZOk X G RX12 cX12_longest 6 (some .int) := hC0
  show Z X G 6 0 0 _ K N I L R 0 [(0, .ref a0)] []
  delta w_X12_longest at h
  refine z_aload_n hC (q := 0) dX12_longest_0 rfl rfl ?_
  refine z_iconst hC (v := 0) k_iconst_0 dX12_longest_1 ?_
  obtain ⟨hk1, h⟩ := h
  refine pf_RX12_1 hC dX12_longest_2 hk1 ?_
  refine z_genI (fun I2 eI2 => ?_)
  have h := h I2 eI2
  refine z_iconst hC (v := (-1)) k_iconst_m1 dX12_longest_5 ?_
  refine z_istore_n hC (lv1 := [(1, .int (-1)), (0, .ref a0)]) dX12_longest_6 rfl (by decide) rfl ?_
  refine z_iconst hC (v := 0) k_iconst_0 dX12_longest_7 ?_
  refine z_istore_n hC (lv1 := [(2, .int 0), (1, .int (-1)), (0, .ref a0)]) dX12_longest_8 rfl (by decide) rfl ?_
  refine z_iconst hC (v := 1) k_iconst_1 dX12_longest_9 ?_
  refine z_istore_n hC (lv1 := [(3, .int 1), (2, .int 0), (1, .int (-1)), (0, .ref a0)]) dX12_longest_10 rfl (by decide) rfl ?_
  exact z_sub [(0, .ref a0), (1, .int (-1)), (2, .int 0), (3, .int 1)] [3, 2, 1, 0] rfl (z_X12_longest_11 hC hRm h)
def w_X12_isScope  (a0 : Nat) (a1 : Int32) (K : MK) (N : MK) (I : MI) (L : ML) (R : MR) (Q : Bool → Prop) : Prop := K a0 = 13 ∧ ∃ b2 : Nat, R a0 14 = some b2 ∧ K b2 = 14 ∧ vp_in 2 (N b2) ∧ w_X12_isIn a1 0 ((I b2 (ix 2)) - 1) K N I L R (fun r5 => Q r5)
set_option maxHeartbeats 4000000 in
set_option maxRecDepth 100000 in
theorem c_X12_isScope  (l : Launch) (G : ZG) (a0 : Nat) (a1 : Int32) (K : MK) (N : MK) (I : MI) (L : ML) (R : MR) (Q : Bool → Prop) (h : w_X12_isScope a0 a1 K N I L R Q) : Met l yX12_isScope (.code yX12_isScope cX12_isScope 2 (some .boolean) :: z_tbl) rm_X12_isScope (z_Pc G [.ref a0, .int a1] K N I L R) (z_Qc G (qPz K N I L R Q)) 0 0 (z_A G) := by
  refine z_met (by decide) (Nat.le_of_ble_eq_true rfl) (fun X hX hRm hC0 hnm => ?_)
  subst hX
  have hC : ZOk X G RX12 cX12_isScope 2 (some .boolean) := hC0
  show Z X G 2 0 0 _ K N I L R 0 [(0, .ref a0), (1, .int a1)] []
  delta w_X12_isScope at h
  refine z_iload_n hC (q := 1) dX12_isScope_0 rfl rfl ?_
  refine z_iconst hC (v := 0) k_iconst_0 dX12_isScope_1 ?_
  refine z_aload_n hC (q := 0) dX12_isScope_2 rfl rfl ?_
  obtain ⟨hk1, h⟩ := h
  obtain ⟨b2, hb2, h⟩ := h
  refine gf_RX12_98 hC dX12_isScope_3 hk1 hb2 ?_
  refine z_iconst hC (v := 2) k_iconst_2 dX12_isScope_6 ?_
  obtain ⟨hk3, h⟩ := h
  obtain ⟨hi4, h⟩ := h
  refine z_iaload hC hk3 hi4 dX12_isScope_7 ?_
  refine z_iconst hC (v := 1) k_iconst_1 dX12_isScope_8 ?_
  refine z_isub hC dX12_isScope_9 ?_
  refine cl_RX12_75 hC (c_X12_isIn _ G a1 0 ((I b2 (ix 2)) - 1) K N I L R _ h) dX12_isScope_10 (by rw [hRm]; exact ⟨Nat.le_of_ble_eq_true rfl, Nat.le_of_ble_eq_true rfl⟩) ⟨Nat.zero_le _, Nat.zero_le _⟩ (Nat.le_of_ble_eq_true rfl) (z_kPz (fun r5 h => ?_))
  exact z_zret (b := r5) hC dX12_isScope_13 rfl ⟨r5, rfl, rfl, rfl, rfl, rfl, rfl, h⟩
def w_X12_isVar  (a0 : Nat) (a1 : Int32) (K : MK) (N : MK) (I : MI) (L : ML) (R : MR) (Q : Bool → Prop) : Prop := K a0 = 13 ∧ ∃ b2 : Nat, R a0 14 = some b2 ∧ K b2 = 14 ∧ vp_in 4 (N b2) ∧ w_X12_isIn a1 0 ((I b2 (ix 4)) - 1) K N I L R (fun r5 => Q r5)
set_option maxHeartbeats 4000000 in
set_option maxRecDepth 100000 in
theorem c_X12_isVar  (l : Launch) (G : ZG) (a0 : Nat) (a1 : Int32) (K : MK) (N : MK) (I : MI) (L : ML) (R : MR) (Q : Bool → Prop) (h : w_X12_isVar a0 a1 K N I L R Q) : Met l yX12_isVar (.code yX12_isVar cX12_isVar 2 (some .boolean) :: z_tbl) rm_X12_isVar (z_Pc G [.ref a0, .int a1] K N I L R) (z_Qc G (qPz K N I L R Q)) 0 0 (z_A G) := by
  refine z_met (by decide) (Nat.le_of_ble_eq_true rfl) (fun X hX hRm hC0 hnm => ?_)
  subst hX
  have hC : ZOk X G RX12 cX12_isVar 2 (some .boolean) := hC0
  show Z X G 2 0 0 _ K N I L R 0 [(0, .ref a0), (1, .int a1)] []
  delta w_X12_isVar at h
  refine z_iload_n hC (q := 1) dX12_isVar_0 rfl rfl ?_
  refine z_iconst hC (v := 0) k_iconst_0 dX12_isVar_1 ?_
  refine z_aload_n hC (q := 0) dX12_isVar_2 rfl rfl ?_
  obtain ⟨hk1, h⟩ := h
  obtain ⟨b2, hb2, h⟩ := h
  refine gf_RX12_98 hC dX12_isVar_3 hk1 hb2 ?_
  refine z_iconst hC (v := 4) k_iconst_4 dX12_isVar_6 ?_
  obtain ⟨hk3, h⟩ := h
  obtain ⟨hi4, h⟩ := h
  refine z_iaload hC hk3 hi4 dX12_isVar_7 ?_
  refine z_iconst hC (v := 1) k_iconst_1 dX12_isVar_8 ?_
  refine z_isub hC dX12_isVar_9 ?_
  refine cl_RX12_75 hC (c_X12_isIn _ G a1 0 ((I b2 (ix 4)) - 1) K N I L R _ h) dX12_isVar_10 (by rw [hRm]; exact ⟨Nat.le_of_ble_eq_true rfl, Nat.le_of_ble_eq_true rfl⟩) ⟨Nat.zero_le _, Nat.zero_le _⟩ (Nat.le_of_ble_eq_true rfl) (z_kPz (fun r5 h => ?_))
  exact z_zret (b := r5) hC dX12_isVar_13 rfl ⟨r5, rfl, rfl, rfl, rfl, rfl, rfl, h⟩
def w_X12_hasAddress  (a0 : Nat) (a1 : Int32) (a2 : Int32) (K : MK) (N : MK) (I : MI) (L : ML) (R : MR) (Q : Bool → Prop) : Prop := K a0 = 13 ∧ ∃ b2 : Nat, R a0 14 = some b2 ∧ K b2 = 14 ∧ vp_in ((66 : Int32) + a1) (N b2) ∧ vp_in ((76 : Int32) + a1) (N b2) ∧ w_X12_isIn a2 (I b2 (ix ((66 : Int32) + a1))) ((I b2 (ix ((76 : Int32) + a1))) - 1) K N I L R (fun r6 => Q r6)
set_option maxHeartbeats 4000000 in
set_option maxRecDepth 100000 in
theorem c_X12_hasAddress  (l : Launch) (G : ZG) (a0 : Nat) (a1 : Int32) (a2 : Int32) (K : MK) (N : MK) (I : MI) (L : ML) (R : MR) (Q : Bool → Prop) (h : w_X12_hasAddress a0 a1 a2 K N I L R Q) : Met l yX12_hasAddress (.code yX12_hasAddress cX12_hasAddress 3 (some .boolean) :: z_tbl) rm_X12_hasAddress (z_Pc G [.ref a0, .int a1, .int a2] K N I L R) (z_Qc G (qPz K N I L R Q)) 0 0 (z_A G) := by
  refine z_met (by decide) (Nat.le_of_ble_eq_true rfl) (fun X hX hRm hC0 hnm => ?_)
  subst hX
  have hC : ZOk X G RX12 cX12_hasAddress 3 (some .boolean) := hC0
  show Z X G 3 0 0 _ K N I L R 0 [(0, .ref a0), (1, .int a1), (2, .int a2)] []
  delta w_X12_hasAddress at h
  refine z_iload_n hC (q := 2) dX12_hasAddress_0 rfl rfl ?_
  refine z_aload_n hC (q := 0) dX12_hasAddress_1 rfl rfl ?_
  obtain ⟨hk1, h⟩ := h
  obtain ⟨b2, hb2, h⟩ := h
  refine gf_RX12_98 hC dX12_hasAddress_2 hk1 hb2 ?_
  refine z_bipush hC (v := 66) k_bipush_66 dX12_hasAddress_5 ?_
  refine z_iload_n hC (q := 1) dX12_hasAddress_7 rfl rfl ?_
  refine z_iadd hC dX12_hasAddress_8 ?_
  obtain ⟨hk3, h⟩ := h
  obtain ⟨hi4, h⟩ := h
  refine z_iaload hC hk3 hi4 dX12_hasAddress_9 ?_
  refine z_aload_n hC (q := 0) dX12_hasAddress_10 rfl rfl ?_
  refine gf_RX12_98 hC dX12_hasAddress_11 hk1 hb2 ?_
  refine z_bipush hC (v := 76) k_bipush_76 dX12_hasAddress_14 ?_
  refine z_iload_n hC (q := 1) dX12_hasAddress_16 rfl rfl ?_
  refine z_iadd hC dX12_hasAddress_17 ?_
  obtain ⟨hi5, h⟩ := h
  refine z_iaload hC hk3 hi5 dX12_hasAddress_18 ?_
  refine z_iconst hC (v := 1) k_iconst_1 dX12_hasAddress_19 ?_
  refine z_isub hC dX12_hasAddress_20 ?_
  refine cl_RX12_75 hC (c_X12_isIn _ G a2 (I b2 (ix ((66 : Int32) + a1))) ((I b2 (ix ((76 : Int32) + a1))) - 1) K N I L R _ h) dX12_hasAddress_21 (by rw [hRm]; exact ⟨Nat.le_of_ble_eq_true rfl, Nat.le_of_ble_eq_true rfl⟩) ⟨Nat.zero_le _, Nat.zero_le _⟩ (Nat.le_of_ble_eq_true rfl) (z_kPz (fun r6 h => ?_))
  exact z_zret (b := r6) hC dX12_hasAddress_24 rfl ⟨r6, rfl, rfl, rfl, rfl, rfl, rfl, h⟩
def w_X12_widthOf  (a0 : Nat) (a1 : Int32) (K : MK) (N : MK) (I : MI) (L : ML) (R : MR) (Q : Int32 → Prop) : Prop := K a0 = 13 ∧ ∃ b2 : Nat, R a0 14 = some b2 ∧ K b2 = 14 ∧ vp_in ((76 : Int32) + a1) (N b2) ∧ vp_in ((66 : Int32) + a1) (N b2) ∧ Q ((I b2 (ix ((76 : Int32) + a1))) - (I b2 (ix ((66 : Int32) + a1))))
set_option maxHeartbeats 4000000 in
set_option maxRecDepth 100000 in
theorem c_X12_widthOf  (l : Launch) (G : ZG) (a0 : Nat) (a1 : Int32) (K : MK) (N : MK) (I : MI) (L : ML) (R : MR) (Q : Int32 → Prop) (h : w_X12_widthOf a0 a1 K N I L R Q) : Met l yX12_widthOf (.code yX12_widthOf cX12_widthOf 2 (some .int) :: z_tbl) rm_X12_widthOf (z_Pc G [.ref a0, .int a1] K N I L R) (z_Qc G (qPi K N I L R Q)) 0 0 (z_A G) := by
  refine z_met (by decide) (Nat.le_of_ble_eq_true rfl) (fun X hX hRm hC0 hnm => ?_)
  subst hX
  have hC : ZOk X G RX12 cX12_widthOf 2 (some .int) := hC0
  show Z X G 2 0 0 _ K N I L R 0 [(0, .ref a0), (1, .int a1)] []
  delta w_X12_widthOf at h
  refine z_aload_n hC (q := 0) dX12_widthOf_0 rfl rfl ?_
  obtain ⟨hk1, h⟩ := h
  obtain ⟨b2, hb2, h⟩ := h
  refine gf_RX12_98 hC dX12_widthOf_1 hk1 hb2 ?_
  refine z_bipush hC (v := 76) k_bipush_76 dX12_widthOf_4 ?_
  refine z_iload_n hC (q := 1) dX12_widthOf_6 rfl rfl ?_
  refine z_iadd hC dX12_widthOf_7 ?_
  obtain ⟨hk3, h⟩ := h
  obtain ⟨hi4, h⟩ := h
  refine z_iaload hC hk3 hi4 dX12_widthOf_8 ?_
  refine z_aload_n hC (q := 0) dX12_widthOf_9 rfl rfl ?_
  refine gf_RX12_98 hC dX12_widthOf_10 hk1 hb2 ?_
  refine z_bipush hC (v := 66) k_bipush_66 dX12_widthOf_13 ?_
  refine z_iload_n hC (q := 1) dX12_widthOf_15 rfl rfl ?_
  refine z_iadd hC dX12_widthOf_16 ?_
  obtain ⟨hi5, h⟩ := h
  refine z_iaload hC hk3 hi5 dX12_widthOf_17 ?_
  refine z_isub hC dX12_widthOf_18 ?_
  exact z_iret hC dX12_widthOf_19 ⟨_, rfl, rfl, rfl, rfl, rfl, rfl, h⟩
def w_X12_isInner  (a0 : Nat) (a1 : Int32) (a2 : Int32) (K : MK) (N : MK) (I : MI) (L : ML) (R : MR) (Q : Bool → Prop) : Prop := K a0 = 13 ∧ w_X12_widthOf a0 a1 K N I L R (fun r2 => w_X12_widthOf a0 a2 K N I L R (fun r3 => (r2 < r3 → Q true) ∧ (¬ r2 < r3 → w_X12_widthOf a0 a1 K N I L R (fun r4 => w_X12_widthOf a0 a2 K N I L R (fun r5 => (¬ r4 = r5 → Q false) ∧ (r4 = r5 → (a1 ≤ a2 → Q false) ∧ (¬ a1 ≤ a2 → Q true)))))))
set_option maxHeartbeats 4000000 in
set_option maxRecDepth 100000 in
theorem c_X12_isInner  (l : Launch) (G : ZG) (a0 : Nat) (a1 : Int32) (a2 : Int32) (K : MK) (N : MK) (I : MI) (L : ML) (R : MR) (Q : Bool → Prop) (h : w_X12_isInner a0 a1 a2 K N I L R Q) : Met l yX12_isInner (.code yX12_isInner cX12_isInner 3 (some .boolean) :: z_tbl) rm_X12_isInner (z_Pc G [.ref a0, .int a1, .int a2] K N I L R) (z_Qc G (qPz K N I L R Q)) 0 0 (z_A G) := by
  refine z_met (by decide) (Nat.le_of_ble_eq_true rfl) (fun X hX hRm hC0 hnm => ?_)
  subst hX
  have hC : ZOk X G RX12 cX12_isInner 3 (some .boolean) := hC0
  show Z X G 3 0 0 _ K N I L R 0 [(0, .ref a0), (1, .int a1), (2, .int a2)] []
  delta w_X12_isInner at h
  refine z_aload_n hC (q := 0) dX12_isInner_0 rfl rfl ?_
  refine z_iload_n hC (q := 1) dX12_isInner_1 rfl rfl ?_
  obtain ⟨hk1, h⟩ := h
  refine cl_RX12_273 hC (c_X12_widthOf _ G a0 a1 K N I L R _ h) hk1 dX12_isInner_2 (by rw [hRm]; exact ⟨Nat.le_of_ble_eq_true rfl, Nat.le_of_ble_eq_true rfl⟩) ⟨Nat.zero_le _, Nat.zero_le _⟩ (Nat.le_of_ble_eq_true rfl) (z_kPi (fun r2 h => ?_))
  refine z_aload_n hC (q := 0) dX12_isInner_5 rfl rfl ?_
  refine z_iload_n hC (q := 2) dX12_isInner_6 rfl rfl ?_
  refine cl_RX12_273 hC (c_X12_widthOf _ G a0 a2 K N I L R _ h) hk1 dX12_isInner_7 (by rw [hRm]; exact ⟨Nat.le_of_ble_eq_true rfl, Nat.le_of_ble_eq_true rfl⟩) ⟨Nat.zero_le _, Nat.zero_le _⟩ (Nat.le_of_ble_eq_true rfl) (z_kPi (fun r3 h => ?_))
  refine z_icmp_lt hC (tgt := 31) dX12_isInner_10 (by decide) (fun hc => ?_) (fun hc => ?_)
  · have h := h.1 hc
    refine z_iconst hC (v := 1) k_iconst_1 dX12_isInner_31 ?_
    refine z_goto hC (tgt := 36) dX12_isInner_32 (by decide) ?_
    exact z_zret (b := true) hC dX12_isInner_36 rfl ⟨true, rfl, rfl, rfl, rfl, rfl, rfl, h⟩
  · have h := h.2 hc
    refine z_aload_n hC (q := 0) dX12_isInner_13 rfl rfl ?_
    refine z_iload_n hC (q := 1) dX12_isInner_14 rfl rfl ?_
    refine cl_RX12_273 hC (c_X12_widthOf _ G a0 a1 K N I L R _ h) hk1 dX12_isInner_15 (by rw [hRm]; exact ⟨Nat.le_of_ble_eq_true rfl, Nat.le_of_ble_eq_true rfl⟩) ⟨Nat.zero_le _, Nat.zero_le _⟩ (Nat.le_of_ble_eq_true rfl) (z_kPi (fun r4 h => ?_))
    refine z_aload_n hC (q := 0) dX12_isInner_18 rfl rfl ?_
    refine z_iload_n hC (q := 2) dX12_isInner_19 rfl rfl ?_
    refine cl_RX12_273 hC (c_X12_widthOf _ G a0 a2 K N I L R _ h) hk1 dX12_isInner_20 (by rw [hRm]; exact ⟨Nat.le_of_ble_eq_true rfl, Nat.le_of_ble_eq_true rfl⟩) ⟨Nat.zero_le _, Nat.zero_le _⟩ (Nat.le_of_ble_eq_true rfl) (z_kPi (fun r5 h => ?_))
    refine z_icmp_ne hC (tgt := 35) dX12_isInner_23 (by decide) (fun hc => ?_) (fun hc => ?_)
    · have h := h.1 hc
      refine z_iconst hC (v := 0) k_iconst_0 dX12_isInner_35 ?_
      exact z_zret (b := false) hC dX12_isInner_36 rfl ⟨false, rfl, rfl, rfl, rfl, rfl, rfl, h⟩
    · have h := h.2 hc
      refine z_iload_n hC (q := 1) dX12_isInner_26 rfl rfl ?_
      refine z_iload_n hC (q := 2) dX12_isInner_27 rfl rfl ?_
      refine z_icmp_le hC (tgt := 35) dX12_isInner_28 (by decide) (fun hc => ?_) (fun hc => ?_)
      · have h := h.1 hc
        refine z_iconst hC (v := 0) k_iconst_0 dX12_isInner_35 ?_
        exact z_zret (b := false) hC dX12_isInner_36 rfl ⟨false, rfl, rfl, rfl, rfl, rfl, rfl, h⟩
      · have h := h.2 hc
        refine z_iconst hC (v := 1) k_iconst_1 dX12_isInner_31 ?_
        refine z_goto hC (tgt := 36) dX12_isInner_32 (by decide) ?_
        exact z_zret (b := true) hC dX12_isInner_36 rfl ⟨true, rfl, rfl, rfl, rfl, rfl, rfl, h⟩
def w_X12_nextInChain_41  (x0 : Nat) (x1 : Int32) (x2 : Int32) (x3 : Int32) (x4 : Int32)  (K : MK) (N : MK) (I : MI) (L : ML) (R : MR) (C5 : Nat → Int32 → Int32 → Int32 → Int32 → Prop) (Q : Int32 → Prop) : Prop := (x3 = (-1) → ∀ v7 : Int32, v7 = x4 + 1 → C5 x0 x1 x2 x4 v7) ∧ (¬ x3 = (-1) → K x0 = 13 ∧ w_X12_isInner x0 x4 x3 K N I L R (fun r9 => (r9 = false → ∀ v10 : Int32, v10 = x4 + 1 → C5 x0 x1 x2 x3 v10) ∧ (r9 = true → ∀ v11 : Int32, v11 = x4 + 1 → C5 x0 x1 x2 x4 v11)))
def w_X12_nextInChain_5  (x0 : Nat) (x1 : Int32) (x2 : Int32) (x3 : Int32) (x4 : Int32)  (K : MK) (N : MK) (I : MI) (L : ML) (R : MR)  (Q : Int32 → Prop) : Prop := ∃ J : Nat → Nat → Int32 → Int32 → Int32 → Int32 → Prop, (∃ n, J n x0 x1 x2 x3 x4) ∧ ∀ (n : Nat) (x0 : Nat) (x1 : Int32) (x2 : Int32) (x3 : Int32) (x4 : Int32), J n x0 x1 x2 x3 x4 → K x0 = 13 ∧ ∃ b2 : Nat, R x0 14 = some b2 ∧ K b2 = 14 ∧ vp_in 2 (N b2) ∧ ((I b2 (ix 2)) ≤ x4 → Q x3) ∧ (¬ (I b2 (ix 2)) ≤ x4 → w_X12_hasAddress x0 x4 x1 K N I L R (fun r5 => (r5 = false → ∀ v6 : Int32, v6 = x4 + 1 → ∃ n1, n1 < n ∧ J n1 x0 x1 x2 x3 v6) ∧ (r5 = true → (x2 = (-1) → w_X12_nextInChain_41 x0 x1 x2 x3 x4 K N I L R (fun y0 y1 y2 y3 y4 => ∃ n1, n1 < n ∧ J n1 y0 y1 y2 y3 y4) Q) ∧ (¬ x2 = (-1) → w_X12_isInner x0 x2 x4 K N I L R (fun r12 => (r12 = false → ∀ v13 : Int32, v13 = x4 + 1 → ∃ n1, n1 < n ∧ J n1 x0 x1 x2 x3 v13) ∧ (r12 = true → w_X12_nextInChain_41 x0 x1 x2 x3 x4 K N I L R (fun y0 y1 y2 y3 y4 => ∃ n1, n1 < n ∧ J n1 y0 y1 y2 y3 y4) Q))))))
def w_X12_nextInChain  (a0 : Nat) (a1 : Int32) (a2 : Int32) (K : MK) (N : MK) (I : MI) (L : ML) (R : MR) (Q : Int32 → Prop) : Prop := w_X12_nextInChain_5 a0 a1 a2 (-1) 0 K N I L R Q
set_option maxHeartbeats 4000000 in
set_option maxRecDepth 100000 in
theorem z_X12_nextInChain_41 {X : ZX} {G : ZG}  {x0 : Nat} {x1 : Int32} {x2 : Int32} {x3 : Int32} {x4 : Int32}  {K : MK} {N : MK} {I : MI} {L : ML} {R : MR} {C5 : Nat → Int32 → Int32 → Int32 → Int32 → Prop} {Q : Int32 → Prop} (hC : ZOk X G RX12 cX12_nextInChain 5 (some .int)) (hRm : X.2.2.2.1 = rm_X12_nextInChain) (hC5 : ∀ (y0 : Nat) (y1 : Int32) (y2 : Int32) (y3 : Int32) (y4 : Int32) , C5 y0 y1 y2 y3 y4 → Z X G 5 0 0 (z_T X G (qPi K N I L R Q) 0 0) K N I L R 5 [(0, .ref y0), (1, .int y1), (2, .int y2), (3, .int y3), (4, .int y4)] []) (h : w_X12_nextInChain_41 x0 x1 x2 x3 x4 K N I L R C5 Q) : Z X G 5 0 0 (z_T X G (qPi K N I L R Q) 0 0) K N I L R 41 [(0, .ref x0), (1, .int x1), (2, .int x2), (3, .int x3), (4, .int x4)] [] := by
  delta w_X12_nextInChain_41 at h
  refine z_iload_n hC (q := 3) dX12_nextInChain_41 rfl rfl ?_
  refine z_iconst hC (v := (-1)) k_iconst_m1 dX12_nextInChain_42 ?_
  refine z_icmp_eq hC (tgt := 56) dX12_nextInChain_43 (by decide) (fun hc => ?_) (fun hc => ?_)
  · have h := h.1 hc
    refine z_iload hC (q := 4) dX12_nextInChain_56 rfl ?_
    refine z_istore_n hC (lv1 := [(3, .int x4), (0, .ref x0), (1, .int x1), (2, .int x2), (4, .int x4)]) dX12_nextInChain_58 rfl (by decide) rfl ?_
    obtain ⟨v7, ev7⟩ : ∃ y : Int32, y = x4 + 1 := ⟨_, rfl⟩
    have h := h v7 ev7
    refine z_iinc hC (q := 4) (v := v7) (lv1 := [(4, .int v7), (3, .int x4), (0, .ref x0), (1, .int x1), (2, .int x2)]) dX12_nextInChain_59 rfl (by rw [ev7, k_iinc_1]) (by decide) rfl ?_
    refine z_goto hC (tgt := 5) dX12_nextInChain_62 (by decide) ?_
    exact z_sub [(0, .ref x0), (1, .int x1), (2, .int x2), (3, .int x4), (4, .int v7)] [2, 3, 4, 1, 0] rfl (hC5 _ _ _ _ _ h)
  · have h := h.2 hc
    refine z_aload_n hC (q := 0) dX12_nextInChain_46 rfl rfl ?_
    refine z_iload hC (q := 4) dX12_nextInChain_47 rfl ?_
    refine z_iload_n hC (q := 3) dX12_nextInChain_49 rfl rfl ?_
    obtain ⟨hk8, h⟩ := h
    refine cl_RX12_279 hC (c_X12_isInner _ G x0 x4 x3 K N I L R _ h) hk8 dX12_nextInChain_50 (by rw [hRm]; exact ⟨Nat.le_of_ble_eq_true rfl, Nat.le_of_ble_eq_true rfl⟩) ⟨Nat.zero_le _, Nat.zero_le _⟩ (Nat.le_of_ble_eq_true rfl) (z_kPz (fun r9 h => ?_))
    refine z_ifz_eq hC (tgt := 59) dX12_nextInChain_53 (by decide) (fun hc => ?_) (fun hc => ?_)
    · have h := h.1 hc
      obtain ⟨v10, ev10⟩ : ∃ y : Int32, y = x4 + 1 := ⟨_, rfl⟩
      have h := h v10 ev10
      refine z_iinc hC (q := 4) (v := v10) (lv1 := [(4, .int v10), (0, .ref x0), (1, .int x1), (2, .int x2), (3, .int x3)]) dX12_nextInChain_59 rfl (by rw [ev10, k_iinc_1]) (by decide) rfl ?_
      refine z_goto hC (tgt := 5) dX12_nextInChain_62 (by decide) ?_
      exact z_sub [(0, .ref x0), (1, .int x1), (2, .int x2), (3, .int x3), (4, .int v10)] [1, 2, 3, 4, 0] rfl (hC5 _ _ _ _ _ h)
    · have h := h.2 hc
      refine z_iload hC (q := 4) dX12_nextInChain_56 rfl ?_
      refine z_istore_n hC (lv1 := [(3, .int x4), (0, .ref x0), (1, .int x1), (2, .int x2), (4, .int x4)]) dX12_nextInChain_58 rfl (by decide) rfl ?_
      obtain ⟨v11, ev11⟩ : ∃ y : Int32, y = x4 + 1 := ⟨_, rfl⟩
      have h := h v11 ev11
      refine z_iinc hC (q := 4) (v := v11) (lv1 := [(4, .int v11), (3, .int x4), (0, .ref x0), (1, .int x1), (2, .int x2)]) dX12_nextInChain_59 rfl (by rw [ev11, k_iinc_1]) (by decide) rfl ?_
      refine z_goto hC (tgt := 5) dX12_nextInChain_62 (by decide) ?_
      exact z_sub [(0, .ref x0), (1, .int x1), (2, .int x2), (3, .int x4), (4, .int v11)] [2, 3, 4, 1, 0] rfl (hC5 _ _ _ _ _ h)
set_option maxHeartbeats 4000000 in
set_option maxRecDepth 100000 in
theorem z_X12_nextInChain_5 {X : ZX} {G : ZG}  {x0 : Nat} {x1 : Int32} {x2 : Int32} {x3 : Int32} {x4 : Int32}  {K : MK} {N : MK} {I : MI} {L : ML} {R : MR}  {Q : Int32 → Prop} (hC : ZOk X G RX12 cX12_nextInChain 5 (some .int)) (hRm : X.2.2.2.1 = rm_X12_nextInChain) (h : w_X12_nextInChain_5 x0 x1 x2 x3 x4 K N I L R  Q) : Z X G 5 0 0 (z_T X G (qPi K N I L R Q) 0 0) K N I L R 5 [(0, .ref x0), (1, .int x1), (2, .int x2), (3, .int x3), (4, .int x4)] [] := by
  delta w_X12_nextInChain_5 at h
  obtain ⟨J, ⟨n, h0⟩, hs⟩ := h
  have key : ∀ (n : Nat) (x0 : Nat) (x1 : Int32) (x2 : Int32) (x3 : Int32) (x4 : Int32), J n x0 x1 x2 x3 x4 → Z X G 5 0 0 (z_T X G (qPi K N I L R Q) 0 0) K N I L R 5 [(0, .ref x0), (1, .int x1), (2, .int x2), (3, .int x3), (4, .int x4)] [] := by
    intro n
    induction n using Nat.strongRecOn with
    | _ n ih =>
      intro x0 x1 x2 x3 x4 hJ
      have hC5 : ∀ (y0 : Nat) (y1 : Int32) (y2 : Int32) (y3 : Int32) (y4 : Int32) , (∃ n1, n1 < n ∧ J n1 y0 y1 y2 y3 y4) → Z X G 5 0 0 (z_T X G (qPi K N I L R Q) 0 0) K N I L R 5 [(0, .ref y0), (1, .int y1), (2, .int y2), (3, .int y3), (4, .int y4)] [] := fun y0 y1 y2 y3 y4 ⟨n1, hn1, hj⟩ => ih n1 hn1 y0 y1 y2 y3 y4 hj
      have h := hs n x0 x1 x2 x3 x4 hJ
      refine z_iload hC (q := 4) dX12_nextInChain_5 rfl ?_
      refine z_aload_n hC (q := 0) dX12_nextInChain_7 rfl rfl ?_
      obtain ⟨hk1, h⟩ := h
      obtain ⟨b2, hb2, h⟩ := h
      refine gf_RX12_98 hC dX12_nextInChain_8 hk1 hb2 ?_
      refine z_iconst hC (v := 2) k_iconst_2 dX12_nextInChain_11 ?_
      obtain ⟨hk3, h⟩ := h
      obtain ⟨hi4, h⟩ := h
      refine z_iaload hC hk3 hi4 dX12_nextInChain_12 ?_
      refine z_icmp_ge hC (tgt := 65) dX12_nextInChain_13 (by decide) (fun hc => ?_) (fun hc => ?_)
      · have h := h.1 hc
        refine z_iload_n hC (q := 3) dX12_nextInChain_65 rfl rfl ?_
        exact z_iret hC dX12_nextInChain_66 ⟨_, rfl, rfl, rfl, rfl, rfl, rfl, h⟩
      · have h := h.2 hc
        refine z_aload_n hC (q := 0) dX12_nextInChain_16 rfl rfl ?_
        refine z_iload hC (q := 4) dX12_nextInChain_17 rfl ?_
        refine z_iload_n hC (q := 1) dX12_nextInChain_19 rfl rfl ?_
        refine cl_RX12_276 hC (c_X12_hasAddress _ G x0 x4 x1 K N I L R _ h) hk1 dX12_nextInChain_20 (by rw [hRm]; exact ⟨Nat.le_of_ble_eq_true rfl, Nat.le_of_ble_eq_true rfl⟩) ⟨Nat.zero_le _, Nat.zero_le _⟩ (Nat.le_of_ble_eq_true rfl) (z_kPz (fun r5 h => ?_))
        refine z_ifz_eq hC (tgt := 59) dX12_nextInChain_23 (by decide) (fun hc => ?_) (fun hc => ?_)
        · have h := h.1 hc
          obtain ⟨v6, ev6⟩ : ∃ y : Int32, y = x4 + 1 := ⟨_, rfl⟩
          have h := h v6 ev6
          refine z_iinc hC (q := 4) (v := v6) (lv1 := [(4, .int v6), (0, .ref x0), (1, .int x1), (2, .int x2), (3, .int x3)]) dX12_nextInChain_59 rfl (by rw [ev6, k_iinc_1]) (by decide) rfl ?_
          refine z_goto hC (tgt := 5) dX12_nextInChain_62 (by decide) ?_
          exact z_sub [(0, .ref x0), (1, .int x1), (2, .int x2), (3, .int x3), (4, .int v6)] [1, 2, 3, 4, 0] rfl (hC5 _ _ _ _ _ h)
        · have h := h.2 hc
          refine z_iload_n hC (q := 2) dX12_nextInChain_26 rfl rfl ?_
          refine z_iconst hC (v := (-1)) k_iconst_m1 dX12_nextInChain_27 ?_
          refine z_icmp_eq hC (tgt := 41) dX12_nextInChain_28 (by decide) (fun hc => ?_) (fun hc => ?_)
          · have h := h.1 hc
            exact z_sub [(0, .ref x0), (1, .int x1), (2, .int x2), (3, .int x3), (4, .int x4)] [0, 1, 2, 3, 4] rfl (z_X12_nextInChain_41 hC hRm hC5 h)
          · have h := h.2 hc
            refine z_aload_n hC (q := 0) dX12_nextInChain_31 rfl rfl ?_
            refine z_iload_n hC (q := 2) dX12_nextInChain_32 rfl rfl ?_
            refine z_iload hC (q := 4) dX12_nextInChain_33 rfl ?_
            refine cl_RX12_279 hC (c_X12_isInner _ G x0 x2 x4 K N I L R _ h) hk1 dX12_nextInChain_35 (by rw [hRm]; exact ⟨Nat.le_of_ble_eq_true rfl, Nat.le_of_ble_eq_true rfl⟩) ⟨Nat.zero_le _, Nat.zero_le _⟩ (Nat.le_of_ble_eq_true rfl) (z_kPz (fun r12 h => ?_))
            refine z_ifz_eq hC (tgt := 59) dX12_nextInChain_38 (by decide) (fun hc => ?_) (fun hc => ?_)
            · have h := h.1 hc
              obtain ⟨v13, ev13⟩ : ∃ y : Int32, y = x4 + 1 := ⟨_, rfl⟩
              have h := h v13 ev13
              refine z_iinc hC (q := 4) (v := v13) (lv1 := [(4, .int v13), (0, .ref x0), (1, .int x1), (2, .int x2), (3, .int x3)]) dX12_nextInChain_59 rfl (by rw [ev13, k_iinc_1]) (by decide) rfl ?_
              refine z_goto hC (tgt := 5) dX12_nextInChain_62 (by decide) ?_
              exact z_sub [(0, .ref x0), (1, .int x1), (2, .int x2), (3, .int x3), (4, .int v13)] [1, 2, 3, 4, 0] rfl (hC5 _ _ _ _ _ h)
            · have h := h.2 hc
              exact z_sub [(0, .ref x0), (1, .int x1), (2, .int x2), (3, .int x3), (4, .int x4)] [0, 1, 2, 3, 4] rfl (z_X12_nextInChain_41 hC hRm hC5 h)
  exact key n x0 x1 x2 x3 x4 h0
set_option maxHeartbeats 4000000 in
set_option maxRecDepth 100000 in
theorem c_X12_nextInChain  (l : Launch) (G : ZG) (a0 : Nat) (a1 : Int32) (a2 : Int32) (K : MK) (N : MK) (I : MI) (L : ML) (R : MR) (Q : Int32 → Prop) (h : w_X12_nextInChain a0 a1 a2 K N I L R Q) : Met l yX12_nextInChain (.code yX12_nextInChain cX12_nextInChain 5 (some .int) :: z_tbl) rm_X12_nextInChain (z_Pc G [.ref a0, .int a1, .int a2] K N I L R) (z_Qc G (qPi K N I L R Q)) 0 0 (z_A G) := by
  refine z_met (by decide) (Nat.le_of_ble_eq_true rfl) (fun X hX hRm hC0 hnm => ?_)
  subst hX
  have hC : ZOk X G RX12 cX12_nextInChain 5 (some .int) := hC0
  show Z X G 5 0 0 _ K N I L R 0 [(0, .ref a0), (1, .int a1), (2, .int a2)] []
  delta w_X12_nextInChain at h
  refine z_iconst hC (v := (-1)) k_iconst_m1 dX12_nextInChain_0 ?_
  refine z_istore_n hC (lv1 := [(3, .int (-1)), (0, .ref a0), (1, .int a1), (2, .int a2)]) dX12_nextInChain_1 rfl (by decide) rfl ?_
  refine z_iconst hC (v := 0) k_iconst_0 dX12_nextInChain_2 ?_
  refine z_istore hC (lv1 := [(4, .int 0), (3, .int (-1)), (0, .ref a0), (1, .int a1), (2, .int a2)]) dX12_nextInChain_3 (by decide) rfl ?_
  exact z_sub [(0, .ref a0), (1, .int a1), (2, .int a2), (3, .int (-1)), (4, .int 0)] [2, 3, 4, 1, 0] rfl (z_X12_nextInChain_5 hC hRm h)
def w_X12_outerOf  (a0 : Nat) (a1 : Int32) (K : MK) (N : MK) (I : MI) (L : ML) (R : MR) (Q : Int32 → Prop) : Prop := K a0 = 13 ∧ ∃ b2 : Nat, R a0 14 = some b2 ∧ K b2 = 14 ∧ vp_in ((66 : Int32) + a1) (N b2) ∧ w_X12_nextInChain a0 (I b2 (ix ((66 : Int32) + a1))) a1 K N I L R (fun r5 => Q r5)
set_option maxHeartbeats 4000000 in
set_option maxRecDepth 100000 in
theorem c_X12_outerOf  (l : Launch) (G : ZG) (a0 : Nat) (a1 : Int32) (K : MK) (N : MK) (I : MI) (L : ML) (R : MR) (Q : Int32 → Prop) (h : w_X12_outerOf a0 a1 K N I L R Q) : Met l yX12_outerOf (.code yX12_outerOf cX12_outerOf 2 (some .int) :: z_tbl) rm_X12_outerOf (z_Pc G [.ref a0, .int a1] K N I L R) (z_Qc G (qPi K N I L R Q)) 0 0 (z_A G) := by
  refine z_met (by decide) (Nat.le_of_ble_eq_true rfl) (fun X hX hRm hC0 hnm => ?_)
  subst hX
  have hC : ZOk X G RX12 cX12_outerOf 2 (some .int) := hC0
  show Z X G 2 0 0 _ K N I L R 0 [(0, .ref a0), (1, .int a1)] []
  delta w_X12_outerOf at h
  refine z_aload_n hC (q := 0) dX12_outerOf_0 rfl rfl ?_
  refine z_aload_n hC (q := 0) dX12_outerOf_1 rfl rfl ?_
  obtain ⟨hk1, h⟩ := h
  obtain ⟨b2, hb2, h⟩ := h
  refine gf_RX12_98 hC dX12_outerOf_2 hk1 hb2 ?_
  refine z_bipush hC (v := 66) k_bipush_66 dX12_outerOf_5 ?_
  refine z_iload_n hC (q := 1) dX12_outerOf_7 rfl rfl ?_
  refine z_iadd hC dX12_outerOf_8 ?_
  obtain ⟨hk3, h⟩ := h
  obtain ⟨hi4, h⟩ := h
  refine z_iaload hC hk3 hi4 dX12_outerOf_9 ?_
  refine z_iload_n hC (q := 1) dX12_outerOf_10 rfl rfl ?_
  refine cl_RX12_282 hC (c_X12_nextInChain _ G a0 (I b2 (ix ((66 : Int32) + a1))) a1 K N I L R _ h) hk1 dX12_outerOf_11 (by rw [hRm]; exact ⟨Nat.le_of_ble_eq_true rfl, Nat.le_of_ble_eq_true rfl⟩) ⟨Nat.zero_le _, Nat.zero_le _⟩ (Nat.le_of_ble_eq_true rfl) (z_kPi (fun r5 h => ?_))
  exact z_iret hC dX12_outerOf_14 ⟨_, rfl, rfl, rfl, rfl, rfl, rfl, h⟩
def w_X12_scope_93  (x0 : Nat) (x1 : Int32) (x3 : Int32) (x4 : Int32)  (K : MK) (N : MK) (I : MI) (L : ML) (R : MR)  (Q : Int32 → MI → Prop) : Prop := ∃ J : Nat → Nat → Int32 → Int32 → Int32 → MI → Prop, (∃ n, J n x0 x1 x3 x4 I) ∧ ∀ (n : Nat) (x0 : Nat) (x1 : Int32) (x3 : Int32) (x4 : Int32) (I : MI), J n x0 x1 x3 x4 I → K x0 = 13 ∧ ∃ b15 : Nat, R x0 14 = some b15 ∧ K b15 = 14 ∧ vp_in 4 (N b15) ∧ ((I b15 (ix 4)) ≤ x4 → Q x3 I) ∧ (¬ (I b15 (ix 4)) ≤ x4 → vp_in ((114 : Int32) + x4) (N b15) ∧ (¬ (I b15 (ix ((114 : Int32) + x4))) = x1 → ∀ v19 : Int32, v19 = x4 + 1 → ∃ n1, n1 < n ∧ J n1 x0 x1 x3 v19 I) ∧ ((I b15 (ix ((114 : Int32) + x4))) = x1 → ∀ v20 : Int32, v20 = (x3 ||| ((1 : Int32) <<< (x4 &&& 31))) → ∀ v21 : Int32, v21 = x4 + 1 → ∃ n1, n1 < n ∧ J n1 x0 x1 v20 v21 I))
def w_X12_scope  (a0 : Nat) (a1 : Int32) (a2 : Int32) (K : MK) (N : MK) (I : MI) (L : ML) (R : MR) (Q : Int32 → MI → Prop) : Prop := K a0 = 13 ∧ ∀ I2 : MI, I2 = mup I a0 0 0 → w_X12_isScope a0 a1 K N I2 L R (fun r3 => (r3 = true → (a2 = 0 → ∃ b4 : Nat, R a0 14 = some b4 ∧ K b4 = 14 ∧ vp_in ((66 : Int32) + a1) (N b4) ∧ Q (I2 b4 (ix ((66 : Int32) + a1))) I2) ∧ (¬ a2 = 0 → (a2 = 1 → ∃ b7 : Nat, R a0 14 = some b7 ∧ K b7 = 14 ∧ vp_in ((76 : Int32) + a1) (N b7) ∧ Q (I2 b7 (ix ((76 : Int32) + a1))) I2) ∧ (¬ a2 = 1 → (a2 = 2 → ∃ b10 : Nat, R a0 14 = some b10 ∧ K b10 = 14 ∧ vp_in ((86 : Int32) + a1) (N b10) ∧ Q (I2 b10 (ix ((86 : Int32) + a1))) I2) ∧ (¬ a2 = 2 → (a2 = 3 → w_X12_outerOf a0 a1 K N I2 L R (fun r13 => Q r13 I2)) ∧ (¬ a2 = 3 → (a2 = 4 → w_X12_scope_93 a0 a1 0 0 K N I2 L R Q) ∧ (¬ a2 = 4 → Q (-1) I2)))))) ∧ (r3 = false → Q (-1) I2))
set_option maxHeartbeats 4000000 in
set_option maxRecDepth 100000 in
theorem z_X12_scope_93 {X : ZX} {G : ZG}  {x0 : Nat} {x1 : Int32} {x3 : Int32} {x4 : Int32}  {K : MK} {N : MK} {I : MI} {L : ML} {R : MR}  {Q : Int32 → MI → Prop} (hC : ZOk X G RX12 cX12_scope 5 (some .int)) (hRm : X.2.2.2.1 = rm_X12_scope) (h : w_X12_scope_93 x0 x1 x3 x4 K N I L R  Q) : Z X G 5 0 0 (z_T X G (qIi K N L R Q) 0 0) K N I L R 93 [(0, .ref x0), (1, .int x1), (3, .int x3), (4, .int x4)] [] := by
  delta w_X12_scope_93 at h
  obtain ⟨J, ⟨n, h0⟩, hs⟩ := h
  have key : ∀ (n : Nat) (x0 : Nat) (x1 : Int32) (x3 : Int32) (x4 : Int32) (I : MI), J n x0 x1 x3 x4 I → Z X G 5 0 0 (z_T X G (qIi K N L R Q) 0 0) K N I L R 93 [(0, .ref x0), (1, .int x1), (3, .int x3), (4, .int x4)] [] := by
    intro n
    induction n using Nat.strongRecOn with
    | _ n ih =>
      intro x0 x1 x3 x4 I hJ
      have hC93 : ∀ (y0 : Nat) (y1 : Int32) (y2 : Int32) (y3 : Int32) (zI : MI), (∃ n1, n1 < n ∧ J n1 y0 y1 y2 y3 zI) → Z X G 5 0 0 (z_T X G (qIi K N L R Q) 0 0) K N zI L R 93 [(0, .ref y0), (1, .int y1), (3, .int y2), (4, .int y3)] [] := fun y0 y1 y2 y3 zI ⟨n1, hn1, hj⟩ => ih n1 hn1 y0 y1 y2 y3 zI hj
      have h := hs n x0 x1 x3 x4 I hJ
      refine z_iload hC (q := 3) dX12_scope_93 rfl ?_
      refine z_aload_n hC (q := 0) dX12_scope_95 rfl rfl ?_
      obtain ⟨hk14, h⟩ := h
      obtain ⟨b15, hb15, h⟩ := h
      refine gf_RX12_98 hC dX12_scope_96 hk14 hb15 ?_
      refine z_iconst hC (v := 4) k_iconst_4 dX12_scope_99 ?_
      obtain ⟨hk16, h⟩ := h
      obtain ⟨hi17, h⟩ := h
      refine z_iaload hC hk16 hi17 dX12_scope_100 ?_
      refine z_icmp_ge hC (tgt := 131) dX12_scope_101 (by decide) (fun hc => ?_) (fun hc => ?_)
      · have h := h.1 hc
        refine z_iload_n hC (q := 2) dX12_scope_131 rfl rfl ?_
        exact z_iret hC dX12_scope_132 ⟨_, rfl, rfl, rfl, rfl, rfl, h⟩
      · have h := h.2 hc
        refine z_aload_n hC (q := 0) dX12_scope_104 rfl rfl ?_
        refine gf_RX12_98 hC dX12_scope_105 hk14 hb15 ?_
        refine z_bipush hC (v := 114) k_bipush_114 dX12_scope_108 ?_
        refine z_iload hC (q := 3) dX12_scope_110 rfl ?_
        refine z_iadd hC dX12_scope_112 ?_
        obtain ⟨hi18, h⟩ := h
        refine z_iaload hC hk16 hi18 dX12_scope_113 ?_
        refine z_iload_n hC (q := 1) dX12_scope_114 rfl rfl ?_
        refine z_icmp_ne hC (tgt := 125) dX12_scope_115 (by decide) (fun hc => ?_) (fun hc => ?_)
        · have h := h.1 hc
          obtain ⟨v19, ev19⟩ : ∃ y : Int32, y = x4 + 1 := ⟨_, rfl⟩
          have h := h v19 ev19
          refine z_iinc hC (q := 3) (v := v19) (lv1 := [(4, .int v19), (0, .ref x0), (1, .int x1), (3, .int x3)]) dX12_scope_125 rfl (by rw [ev19, k_iinc_1]) (by decide) rfl ?_
          refine z_goto hC (tgt := 93) dX12_scope_128 (by decide) ?_
          exact z_sub [(0, .ref x0), (1, .int x1), (3, .int x3), (4, .int v19)] [1, 2, 3, 0] rfl (hC93 _ _ _ _ _ h)
        · have h := h.2 hc
          refine z_iload_n hC (q := 2) dX12_scope_118 rfl rfl ?_
          refine z_iconst hC (v := 1) k_iconst_1 dX12_scope_119 ?_
          refine z_iload hC (q := 3) dX12_scope_120 rfl ?_
          refine z_ishl hC dX12_scope_122 ?_
          refine z_ior hC dX12_scope_123 ?_
          refine z_topi (fun v20 ev20 => ?_)
          have h := h v20 ev20
          refine z_istore_n hC (lv1 := [(3, .int v20), (0, .ref x0), (1, .int x1), (4, .int x4)]) dX12_scope_124 rfl (by decide) rfl ?_
          obtain ⟨v21, ev21⟩ : ∃ y : Int32, y = x4 + 1 := ⟨_, rfl⟩
          have h := h v21 ev21
          refine z_iinc hC (q := 3) (v := v21) (lv1 := [(4, .int v21), (3, .int v20), (0, .ref x0), (1, .int x1)]) dX12_scope_125 rfl (by rw [ev21, k_iinc_1]) (by decide) rfl ?_
          refine z_goto hC (tgt := 93) dX12_scope_128 (by decide) ?_
          exact z_sub [(0, .ref x0), (1, .int x1), (3, .int v20), (4, .int v21)] [2, 3, 1, 0] rfl (hC93 _ _ _ _ _ h)
  exact key n x0 x1 x3 x4 I h0
set_option maxHeartbeats 4000000 in
set_option maxRecDepth 100000 in
theorem c_X12_scope  (l : Launch) (G : ZG) (a0 : Nat) (a1 : Int32) (a2 : Int32) (K : MK) (N : MK) (I : MI) (L : ML) (R : MR) (Q : Int32 → MI → Prop) (h : w_X12_scope a0 a1 a2 K N I L R Q) : Met l yX12_scope (.code yX12_scope cX12_scope 5 (some .int) :: z_tbl) rm_X12_scope (z_Pc G [.ref a0, .int a1, .int a2] K N I L R) (z_Qc G (qIi K N L R Q)) 0 0 (z_A G) := by
  refine z_met (by decide) (Nat.le_of_ble_eq_true rfl) (fun X hX hRm hC0 hnm => ?_)
  subst hX
  have hC : ZOk X G RX12 cX12_scope 5 (some .int) := hC0
  show Z X G 5 0 0 _ K N I L R 0 [(0, .ref a0), (1, .int a1), (2, .int a2)] []
  delta w_X12_scope at h
  refine z_aload_n hC (q := 0) dX12_scope_0 rfl rfl ?_
  refine z_iconst hC (v := 0) k_iconst_0 dX12_scope_1 ?_
  obtain ⟨hk1, h⟩ := h
  refine pf_RX12_1 hC dX12_scope_2 hk1 ?_
  refine z_genI (fun I2 eI2 => ?_)
  have h := h I2 eI2
  refine z_aload_n hC (q := 0) dX12_scope_5 rfl rfl ?_
  refine z_iload_n hC (q := 1) dX12_scope_6 rfl rfl ?_
  refine cl_RX12_286 hC (c_X12_isScope _ G a0 a1 K N I2 L R _ h) hk1 dX12_scope_7 (by rw [hRm]; exact ⟨Nat.le_of_ble_eq_true rfl, Nat.le_of_ble_eq_true rfl⟩) ⟨Nat.zero_le _, Nat.zero_le _⟩ (Nat.le_of_ble_eq_true rfl) (z_kPz (fun r3 h => ?_))
  refine z_ifz_ne hC (tgt := 15) dX12_scope_10 (by decide) (fun hc => ?_) (fun hc => ?_)
  · have h := h.1 hc
    refine z_iload_n hC (q := 2) dX12_scope_15 rfl rfl ?_
    by_cases hc0 : a2 = 0
    · have h := h.1 hc0
      refine z_tableIn hC (off := 36) (tgt := 52) 0 hc0 dX12_scope_16 (by decide) (by decide) ?_
      refine z_aload_n hC (q := 0) dX12_scope_52 rfl rfl ?_
      obtain ⟨b4, hb4, h⟩ := h
      refine gf_RX12_98 hC dX12_scope_53 hk1 hb4 ?_
      refine z_bipush hC (v := 66) k_bipush_66 dX12_scope_56 ?_
      refine z_iload_n hC (q := 1) dX12_scope_58 rfl rfl ?_
      refine z_iadd hC dX12_scope_59 ?_
      obtain ⟨hk5, h⟩ := h
      obtain ⟨hi6, h⟩ := h
      refine z_iaload hC hk5 hi6 dX12_scope_60 ?_
      exact z_iret hC dX12_scope_61 ⟨_, rfl, rfl, rfl, rfl, rfl, h⟩
    · have h := h.2 hc0
      by_cases hc1 : a2 = 1
      · have h := h.1 hc1
        refine z_tableIn hC (off := 46) (tgt := 62) 1 hc1 dX12_scope_16 (by decide) (by decide) ?_
        refine z_aload_n hC (q := 0) dX12_scope_62 rfl rfl ?_
        obtain ⟨b7, hb7, h⟩ := h
        refine gf_RX12_98 hC dX12_scope_63 hk1 hb7 ?_
        refine z_bipush hC (v := 76) k_bipush_76 dX12_scope_66 ?_
        refine z_iload_n hC (q := 1) dX12_scope_68 rfl rfl ?_
        refine z_iadd hC dX12_scope_69 ?_
        obtain ⟨hk8, h⟩ := h
        obtain ⟨hi9, h⟩ := h
        refine z_iaload hC hk8 hi9 dX12_scope_70 ?_
        exact z_iret hC dX12_scope_71 ⟨_, rfl, rfl, rfl, rfl, rfl, h⟩
      · have h := h.2 hc1
        by_cases hc2 : a2 = 2
        · have h := h.1 hc2
          refine z_tableIn hC (off := 56) (tgt := 72) 2 hc2 dX12_scope_16 (by decide) (by decide) ?_
          refine z_aload_n hC (q := 0) dX12_scope_72 rfl rfl ?_
          obtain ⟨b10, hb10, h⟩ := h
          refine gf_RX12_98 hC dX12_scope_73 hk1 hb10 ?_
          refine z_bipush hC (v := 86) k_bipush_86 dX12_scope_76 ?_
          refine z_iload_n hC (q := 1) dX12_scope_78 rfl rfl ?_
          refine z_iadd hC dX12_scope_79 ?_
          obtain ⟨hk11, h⟩ := h
          obtain ⟨hi12, h⟩ := h
          refine z_iaload hC hk11 hi12 dX12_scope_80 ?_
          exact z_iret hC dX12_scope_81 ⟨_, rfl, rfl, rfl, rfl, rfl, h⟩
        · have h := h.2 hc2
          by_cases hc3 : a2 = 3
          · have h := h.1 hc3
            refine z_tableIn hC (off := 66) (tgt := 82) 3 hc3 dX12_scope_16 (by decide) (by decide) ?_
            refine z_aload_n hC (q := 0) dX12_scope_82 rfl rfl ?_
            refine z_iload_n hC (q := 1) dX12_scope_83 rfl rfl ?_
            refine cl_RX12_289 hC (c_X12_outerOf _ G a0 a1 K N I2 L R _ h) hk1 dX12_scope_84 (by rw [hRm]; exact ⟨Nat.le_of_ble_eq_true rfl, Nat.le_of_ble_eq_true rfl⟩) ⟨Nat.zero_le _, Nat.zero_le _⟩ (Nat.le_of_ble_eq_true rfl) (z_kPi (fun r13 h => ?_))
            exact z_iret hC dX12_scope_87 ⟨_, rfl, rfl, rfl, rfl, rfl, h⟩
          · have h := h.2 hc3
            by_cases hc4 : a2 = 4
            · have h := h.1 hc4
              refine z_tableIn hC (off := 72) (tgt := 88) 4 hc4 dX12_scope_16 (by decide) (by decide) ?_
              refine z_iconst hC (v := 0) k_iconst_0 dX12_scope_88 ?_
              refine z_istore_n hC (lv1 := [(3, .int 0), (0, .ref a0), (1, .int a1), (2, .int a2)]) dX12_scope_89 rfl (by decide) rfl ?_
              refine z_iconst hC (v := 0) k_iconst_0 dX12_scope_90 ?_
              refine z_istore hC (lv1 := [(4, .int 0), (3, .int 0), (0, .ref a0), (1, .int a1), (2, .int a2)]) dX12_scope_91 (by decide) rfl ?_
              exact z_sub [(0, .ref a0), (1, .int a1), (3, .int 0), (4, .int 0)] [2, 3, 1, 0] rfl (z_X12_scope_93 hC hRm h)
            · have h := h.2 hc4
              have hout : a2.toInt < 0 ∨ 4 < a2.toInt := by
                have hc0 := z_nei hc0 (by decide : (0 : Int32).toInt = 0)
                have hc1 := z_nei hc1 (by decide : (1 : Int32).toInt = 1)
                have hc2 := z_nei hc2 (by decide : (2 : Int32).toInt = 2)
                have hc3 := z_nei hc3 (by decide : (3 : Int32).toInt = 3)
                have hc4 := z_nei hc4 (by decide : (4 : Int32).toInt = 4)
                omega
              refine z_tableOut hC (tgt := 133) dX12_scope_16 hout (by decide) ?_
              refine z_iconst hC (v := (-1)) k_iconst_m1 dX12_scope_133 ?_
              exact z_iret hC dX12_scope_134 ⟨_, rfl, rfl, rfl, rfl, rfl, h⟩
  · have h := h.2 hc
    refine z_iconst hC (v := (-1)) k_iconst_m1 dX12_scope_13 ?_
    exact z_iret hC dX12_scope_14 ⟨_, rfl, rfl, rfl, rfl, rfl, h⟩
