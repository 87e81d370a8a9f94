def w_X4_unpackEnd  (a0 : Nat) (a1 : Nat) (a2 : Int32) (K : MK) (N : MK) (I : MI) (L : ML) (R : MR) (Q : Int32 → MI → ML → Prop) : Prop := K a1 = 9 ∧ ((I a1 1) ≤ a2 → K a0 = 5 ∧ ∃ b3 : Nat, R a0 1 = some b3 ∧ ∃ b4 : Nat, R a0 2 = some b4 ∧ K b3 = 8 ∧ w_X7_copyFrom b3 b4 K N I L R (fun I6 L7 => Q (-1) I6 L7)) ∧ (¬ (I a1 1) ≤ a2 → Q a2 I L)
set_option maxHeartbeats 4000000 in
set_option maxRecDepth 100000 in
theorem c_X4_unpackEnd  (l : Launch) (G : ZG) (a0 : Nat) (a1 : Nat) (a2 : Int32) (K : MK) (N : MK) (I : MI) (L : ML) (R : MR) (Q : Int32 → MI → ML → Prop) (h : w_X4_unpackEnd a0 a1 a2 K N I L R Q) : Met l yX4_unpackEnd (.code yX4_unpackEnd cX4_unpackEnd 3 (some .int) :: z_tbl) rm_X4_unpackEnd (z_Pc G [.ref a0, .ref a1, .int a2] K N I L R) (z_Qc G (qLi K N R Q)) 0 0 (z_A G) := by
  refine z_met (by decide) (Nat.le_of_ble_eq_true rfl) (fun X hX hRm hC0 hnm => ?_)
  subst hX
  have hC : ZOk X G RX4 cX4_unpackEnd 3 (some .int) := hC0
  show Z X G 3 0 0 _ K N I L R 0 [(0, .ref a0), (1, .ref a1), (2, .int a2)] []
  delta w_X4_unpackEnd at h
  refine z_iload_n hC (q := 2) dX4_unpackEnd_0 rfl rfl ?_
  refine z_aload_n hC (q := 1) dX4_unpackEnd_1 rfl rfl ?_
  obtain ⟨hk1, h⟩ := h
  refine gf_RX4_75 hC dX4_unpackEnd_2 hk1 ?_
  refine z_icmp_ge hC (tgt := 10) dX4_unpackEnd_5 (by decide) (fun hc => ?_) (fun hc => ?_)
  · have h := h.1 hc
    refine z_aload_n hC (q := 0) dX4_unpackEnd_10 rfl rfl ?_
    obtain ⟨hk2, h⟩ := h
    obtain ⟨b3, hb3, h⟩ := h
    refine gf_RX4_20 hC dX4_unpackEnd_11 hk2 hb3 ?_
    refine z_aload_n hC (q := 0) dX4_unpackEnd_14 rfl rfl ?_
    obtain ⟨b4, hb4, h⟩ := h
    refine gf_RX4_23 hC dX4_unpackEnd_15 hk2 hb4 ?_
    obtain ⟨hk5, h⟩ := h
    refine cl_RX4_90 hC (c_X7_copyFrom _ G b3 b4 K N I L R _ h) hk5 dX4_unpackEnd_18 (by rw [hRm]; exact ⟨Nat.le_of_ble_eq_true rfl, Nat.le_of_ble_eq_true rfl⟩) ⟨Nat.zero_le _, Nat.zero_le _⟩ (Nat.le_of_ble_eq_true rfl) (z_kLv (I := I) (L := L) (fun I6 L7 h => ?_))
    refine z_iconst hC (v := (-1)) k_iconst_m1 dX4_unpackEnd_21 ?_
    exact z_iret hC dX4_unpackEnd_22 ⟨_, rfl, rfl, rfl, rfl, h⟩
  · have h := h.2 hc
    refine z_iload_n hC (q := 2) dX4_unpackEnd_8 rfl rfl ?_
    exact z_iret hC dX4_unpackEnd_9 ⟨_, rfl, rfl, rfl, rfl, h⟩
def w_X7_isFull  (a0 : Nat) (K : MK) (N : MK) (I : MI) (L : ML) (R : MR) (Q : Bool → Prop) : Prop := K a0 = 8 ∧ ∃ b2 : Nat, R a0 1 = some b2 ∧ K b2 = 15 ∧ ((I a0 3) < (nI (N b2)) → Q false) ∧ (¬ (I a0 3) < (nI (N b2)) → Q true)
set_option maxHeartbeats 4000000 in
set_option maxRecDepth 100000 in
theorem c_X7_isFull  (l : Launch) (G : ZG) (a0 : Nat) (K : MK) (N : MK) (I : MI) (L : ML) (R : MR) (Q : Bool → Prop) (h : w_X7_isFull a0 K N I L R Q) : Met l yX7_isFull (.code yX7_isFull cX7_isFull 1 (some .boolean) :: z_tbl) rm_X7_isFull (z_Pc G [.ref a0] K N I L R) (z_Qc G (qPz K N I L R Q)) 0 0 (z_A G) := by
  refine z_met (by decide) (Nat.le_of_ble_eq_true rfl) (fun X hX hRm hC0 hnm => ?_)
  subst hX
  have hC : ZOk X G RX7 cX7_isFull 1 (some .boolean) := hC0
  show Z X G 1 0 0 _ K N I L R 0 [(0, .ref a0)] []
  delta w_X7_isFull at h
  refine z_aload_n hC (q := 0) dX7_isFull_0 rfl rfl ?_
  obtain ⟨hk1, h⟩ := h
  refine gf_RX7_9 hC dX7_isFull_1 hk1 ?_
  refine z_aload_n hC (q := 0) dX7_isFull_4 rfl rfl ?_
  obtain ⟨b2, hb2, h⟩ := h
  refine gf_RX7_18 hC dX7_isFull_5 hk1 hb2 ?_
  obtain ⟨hk3, h⟩ := h
  refine z_alen15 hC hk3 dX7_isFull_8 ?_
  refine z_icmp_lt hC (tgt := 16) dX7_isFull_9 (by decide) (fun hc => ?_) (fun hc => ?_)
  · have h := h.1 hc
    refine z_iconst hC (v := 0) k_iconst_0 dX7_isFull_16 ?_
    exact z_zret (b := false) hC dX7_isFull_17 rfl ⟨false, rfl, rfl, rfl, rfl, rfl, rfl, h⟩
  · have h := h.2 hc
    refine z_iconst hC (v := 1) k_iconst_1 dX7_isFull_12 ?_
    refine z_goto hC (tgt := 17) dX7_isFull_13 (by decide) ?_
    exact z_zret (b := true) hC dX7_isFull_17 rfl ⟨true, rfl, rfl, rfl, rfl, rfl, rfl, h⟩
def w_X4_unpackRow_39  (x0 : Nat) (s0 : Int32) (K : MK) (N : MK) (I : MI) (L : ML) (R : MR)  (Q : Bool → MI → ML → Prop) : Prop := K x0 = 5 ∧ ((I x0 4) < 1 → (s0 = 0 → Q false I L) ∧ (¬ s0 = 0 → Q false I L)) ∧ (¬ (I x0 4) < 1 → ((250 : Int32) < (I x0 4) → (s0 = 0 → Q false I L) ∧ (¬ s0 = 0 → Q false I L)) ∧ (¬ (250 : Int32) < (I x0 4) → (s0 = 0 → Q false I L) ∧ (¬ s0 = 0 → ((255 : Int32) < (I x0 3) → Q false I L) ∧ (¬ (255 : Int32) < (I x0 3) → ∃ b5 : Nat, R x0 2 = some b5 ∧ K b5 = 8 ∧ w_X7_isFull b5 K N I L R (fun r7 => (r7 = false → w_X7_add b5 0 K N I L R (fun r8 I9 L10 => w_X7_put b5 r8 0 (I9 x0 3) K N I9 L10 R (fun I11 => w_X7_put b5 r8 1 (I11 x0 4) K N I11 L10 R (fun I12 => Q true I12 L10)))) ∧ (r7 = true → Q false I L))))))
def w_X4_unpackRow_34  (x0 : Nat)  (K : MK) (N : MK) (I : MI) (L : ML) (R : MR)  (Q : Bool → MI → ML → Prop) : Prop := w_X4_unpackRow_39 x0 1 K N I L R Q
def w_X4_unpackRow  (a0 : Nat) (K : MK) (N : MK) (I : MI) (L : ML) (R : MR) (Q : Bool → MI → ML → Prop) : Prop := K a0 = 5 ∧ ∃ b2 : Nat, R a0 2 = some b2 ∧ K b2 = 8 ∧ ((I b2 3) = 0 → w_X4_unpackRow_34 a0 K N I L R Q) ∧ (¬ (I b2 3) = 0 → w_X7_at b2 ((I b2 3) - 1) 0 K N I L R (fun r13 => ((I a0 3) ≤ r13 → w_X4_unpackRow_39 a0 0 K N I L R Q) ∧ (¬ (I a0 3) ≤ r13 → w_X4_unpackRow_34 a0 K N I L R Q)))
set_option maxHeartbeats 4000000 in
set_option maxRecDepth 100000 in
theorem z_X4_unpackRow_39 {X : ZX} {G : ZG}  {x0 : Nat} {s0 : Int32} {K : MK} {N : MK} {I : MI} {L : ML} {R : MR}  {Q : Bool → MI → ML → Prop} (hC : ZOk X G RX4 cX4_unpackRow 4 (some .boolean)) (hRm : X.2.2.2.1 = rm_X4_unpackRow) (h : w_X4_unpackRow_39 x0 s0 K N I L R  Q) : Z X G 4 0 0 (z_T X G (qLz K N R Q) 0 0) K N I L R 39 [(0, .ref x0)] [.int s0] := by
  delta w_X4_unpackRow_39 at h
  refine z_istore_n hC (lv1 := [(1, .int s0), (0, .ref x0)]) dX4_unpackRow_39 rfl (by decide) rfl ?_
  refine z_aload_n hC (q := 1) dX4_unpackRow_40 rfl rfl ?_
  obtain ⟨hk4, h⟩ := h
  refine gf_RX4_30 hC dX4_unpackRow_41 hk4 ?_
  refine z_iconst hC (v := 1) k_iconst_1 dX4_unpackRow_44 ?_
  refine z_icmp_lt hC (tgt := 62) dX4_unpackRow_45 (by decide) (fun hc => ?_) (fun hc => ?_)
  · have h := h.1 hc
    refine z_iconst hC (v := 0) k_iconst_0 dX4_unpackRow_62 ?_
    refine z_istore_n hC (lv1 := [(2, .int 0), (1, .int s0), (0, .ref x0)]) dX4_unpackRow_63 rfl (by decide) rfl ?_
    refine z_iload_n hC (q := 1) dX4_unpackRow_64 rfl rfl ?_
    refine z_if_eq hC (tgt := 92) dX4_unpackRow_65 (by decide) (fun hc => ?_) (fun hc => ?_)
    · have h := h.1 hc
      refine z_iconst hC (v := 0) k_iconst_0 dX4_unpackRow_92 ?_
      exact z_zret (b := false) hC dX4_unpackRow_93 rfl ⟨false, rfl, rfl, rfl, rfl, h⟩
    · have h := h.2 hc
      refine z_iload_n hC (q := 0) dX4_unpackRow_68 rfl rfl ?_
      refine z_if_eq hC (tgt := 92) dX4_unpackRow_69 (by decide) (fun _ => ?_) (fun hc => absurd hc (by decide))
      refine z_iconst hC (v := 0) k_iconst_0 dX4_unpackRow_92 ?_
      exact z_zret (b := false) hC dX4_unpackRow_93 rfl ⟨false, rfl, rfl, rfl, rfl, h⟩
  · have h := h.2 hc
    refine z_aload_n hC (q := 1) dX4_unpackRow_48 rfl rfl ?_
    refine gf_RX4_30 hC dX4_unpackRow_49 hk4 ?_
    refine z_sipush hC (v := 250) k_sipush_250 dX4_unpackRow_52 ?_
    refine z_icmp_gt hC (tgt := 62) dX4_unpackRow_55 (by decide) (fun hc => ?_) (fun hc => ?_)
    · have h := h.1 hc
      refine z_iconst hC (v := 0) k_iconst_0 dX4_unpackRow_62 ?_
      refine z_istore_n hC (lv1 := [(2, .int 0), (1, .int s0), (0, .ref x0)]) dX4_unpackRow_63 rfl (by decide) rfl ?_
      refine z_iload_n hC (q := 1) dX4_unpackRow_64 rfl rfl ?_
      refine z_if_eq hC (tgt := 92) dX4_unpackRow_65 (by decide) (fun hc => ?_) (fun hc => ?_)
      · have h := h.1 hc
        refine z_iconst hC (v := 0) k_iconst_0 dX4_unpackRow_92 ?_
        exact z_zret (b := false) hC dX4_unpackRow_93 rfl ⟨false, rfl, rfl, rfl, rfl, h⟩
      · have h := h.2 hc
        refine z_iload_n hC (q := 0) dX4_unpackRow_68 rfl rfl ?_
        refine z_if_eq hC (tgt := 92) dX4_unpackRow_69 (by decide) (fun _ => ?_) (fun hc => absurd hc (by decide))
        refine z_iconst hC (v := 0) k_iconst_0 dX4_unpackRow_92 ?_
        exact z_zret (b := false) hC dX4_unpackRow_93 rfl ⟨false, rfl, rfl, rfl, rfl, h⟩
    · have h := h.2 hc
      refine z_iconst hC (v := 1) k_iconst_1 dX4_unpackRow_58 ?_
      refine z_goto hC (tgt := 63) dX4_unpackRow_59 (by decide) ?_
      refine z_istore_n hC (lv1 := [(2, .int 1), (1, .int s0), (0, .ref x0)]) dX4_unpackRow_63 rfl (by decide) rfl ?_
      refine z_iload_n hC (q := 1) dX4_unpackRow_64 rfl rfl ?_
      refine z_if_eq hC (tgt := 92) dX4_unpackRow_65 (by decide) (fun hc => ?_) (fun hc => ?_)
      · have h := h.1 hc
        refine z_iconst hC (v := 0) k_iconst_0 dX4_unpackRow_92 ?_
        exact z_zret (b := false) hC dX4_unpackRow_93 rfl ⟨false, rfl, rfl, rfl, rfl, h⟩
      · have h := h.2 hc
        refine z_iload_n hC (q := 0) dX4_unpackRow_68 rfl rfl ?_
        refine z_if_eq hC (tgt := 92) dX4_unpackRow_69 (by decide) (fun hc => absurd hc (by decide)) (fun _ => ?_)
        refine z_aload_n hC (q := 2) dX4_unpackRow_72 rfl rfl ?_
        refine gf_RX4_26 hC dX4_unpackRow_73 hk4 ?_
        refine z_sipush hC (v := 255) k_sipush_255 dX4_unpackRow_76 ?_
        refine z_icmp_gt hC (tgt := 92) dX4_unpackRow_79 (by decide) (fun hc => ?_) (fun hc => ?_)
        · have h := h.1 hc
          refine z_iconst hC (v := 0) k_iconst_0 dX4_unpackRow_92 ?_
          exact z_zret (b := false) hC dX4_unpackRow_93 rfl ⟨false, rfl, rfl, rfl, rfl, h⟩
        · have h := h.2 hc
          refine z_aload_n hC (q := 2) dX4_unpackRow_82 rfl rfl ?_
          obtain ⟨b5, hb5, h⟩ := h
          refine gf_RX4_23 hC dX4_unpackRow_83 hk4 hb5 ?_
          obtain ⟨hk6, h⟩ := h
          refine cl_RX4_100 hC (c_X7_isFull _ G b5 K N I L R _ h) hk6 dX4_unpackRow_86 (by rw [hRm]; exact ⟨Nat.le_of_ble_eq_true rfl, Nat.le_of_ble_eq_true rfl⟩) ⟨Nat.zero_le _, Nat.zero_le _⟩ (Nat.le_of_ble_eq_true rfl) (z_kPz (fun r7 h => ?_))
          refine z_ifz_eq hC (tgt := 94) dX4_unpackRow_89 (by decide) (fun hc => ?_) (fun hc => ?_)
          · have h := h.1 hc
            refine z_aload_n hC (q := 2) dX4_unpackRow_94 rfl rfl ?_
            refine gf_RX4_23 hC dX4_unpackRow_95 hk4 hb5 ?_
            refine z_lconst hC (v := 0) k_lconst_0 dX4_unpackRow_98 ?_
            refine cl_RX4_52 hC (c_X7_add _ G b5 0 K N I L R _ h) hk6 dX4_unpackRow_99 (by rw [hRm]; exact ⟨Nat.le_of_ble_eq_true rfl, Nat.le_of_ble_eq_true rfl⟩) ⟨Nat.zero_le _, Nat.zero_le _⟩ (Nat.le_of_ble_eq_true rfl) (z_kLi (I := I) (L := L) (fun r8 I9 L10 h => ?_))
            refine z_istore_n hC (lv1 := [(3, .int r8), (2, .int 1), (1, .int s0), (0, .ref x0)]) dX4_unpackRow_102 rfl (by decide) rfl ?_
            refine z_aload_n hC (q := 3) dX4_unpackRow_103 rfl rfl ?_
            refine gf_RX4_23 hC dX4_unpackRow_104 hk4 hb5 ?_
            refine z_iload_n hC (q := 0) dX4_unpackRow_107 rfl rfl ?_
            refine z_iconst hC (v := 0) k_iconst_0 dX4_unpackRow_108 ?_
            refine z_aload_n hC (q := 3) dX4_unpackRow_109 rfl rfl ?_
            refine gf_RX4_26 hC dX4_unpackRow_110 hk4 ?_
            refine cl_RX4_56 hC (c_X7_put _ G b5 r8 0 (I9 x0 3) K N I9 L10 R _ h) hk6 dX4_unpackRow_113 (by rw [hRm]; exact ⟨Nat.le_of_ble_eq_true rfl, Nat.le_of_ble_eq_true rfl⟩) ⟨Nat.zero_le _, Nat.zero_le _⟩ (Nat.le_of_ble_eq_true rfl) (z_kIv (I := I9) (fun I11 h => ?_))
            refine z_aload_n hC (q := 3) dX4_unpackRow_116 rfl rfl ?_
            refine gf_RX4_23 hC dX4_unpackRow_117 hk4 hb5 ?_
            refine z_iload_n hC (q := 0) dX4_unpackRow_120 rfl rfl ?_
            refine z_iconst hC (v := 1) k_iconst_1 dX4_unpackRow_121 ?_
            refine z_aload_n hC (q := 3) dX4_unpackRow_122 rfl rfl ?_
            refine gf_RX4_30 hC dX4_unpackRow_123 hk4 ?_
            refine cl_RX4_56 hC (c_X7_put _ G b5 r8 1 (I11 x0 4) K N I11 L10 R _ h) hk6 dX4_unpackRow_126 (by rw [hRm]; exact ⟨Nat.le_of_ble_eq_true rfl, Nat.le_of_ble_eq_true rfl⟩) ⟨Nat.zero_le _, Nat.zero_le _⟩ (Nat.le_of_ble_eq_true rfl) (z_kIv (I := I11) (fun I12 h => ?_))
            refine z_iconst hC (v := 1) k_iconst_1 dX4_unpackRow_129 ?_
            exact z_zret (b := true) hC dX4_unpackRow_130 rfl ⟨true, rfl, rfl, rfl, rfl, h⟩
          · have h := h.2 hc
            refine z_iconst hC (v := 0) k_iconst_0 dX4_unpackRow_92 ?_
            exact z_zret (b := false) hC dX4_unpackRow_93 rfl ⟨false, rfl, rfl, rfl, rfl, h⟩
set_option maxHeartbeats 4000000 in
set_option maxRecDepth 100000 in
theorem z_X4_unpackRow_34 {X : ZX} {G : ZG}  {x0 : Nat}  {K : MK} {N : MK} {I : MI} {L : ML} {R : MR}  {Q : Bool → MI → ML → Prop} (hC : ZOk X G RX4 cX4_unpackRow 4 (some .boolean)) (hRm : X.2.2.2.1 = rm_X4_unpackRow) (h : w_X4_unpackRow_34 x0 K N I L R  Q) : Z X G 4 0 0 (z_T X G (qLz K N R Q) 0 0) K N I L R 34 [(0, .ref x0)] [] := by
  delta w_X4_unpackRow_34 at h
  refine z_iconst hC (v := 1) k_iconst_1 dX4_unpackRow_34 ?_
  refine z_goto hC (tgt := 39) dX4_unpackRow_35 (by decide) ?_
  exact z_sub [(0, .ref x0)] [0] rfl (z_X4_unpackRow_39 hC hRm h)
set_option maxHeartbeats 4000000 in
set_option maxRecDepth 100000 in
theorem c_X4_unpackRow  (l : Launch) (G : ZG) (a0 : Nat) (K : MK) (N : MK) (I : MI) (L : ML) (R : MR) (Q : Bool → MI → ML → Prop) (h : w_X4_unpackRow a0 K N I L R Q) : Met l yX4_unpackRow (.code yX4_unpackRow cX4_unpackRow 4 (some .boolean) :: z_tbl) rm_X4_unpackRow (z_Pc G [.ref a0] K N I L R) (z_Qc G (qLz K N R Q)) 0 0 (z_A G) := by
  refine z_met (by decide) (Nat.le_of_ble_eq_true rfl) (fun X hX hRm hC0 hnm => ?_)
  subst hX
  have hC : ZOk X G RX4 cX4_unpackRow 4 (some .boolean) := hC0
  show Z X G 4 0 0 _ K N I L R 0 [(0, .ref a0)] []
  delta w_X4_unpackRow at h
  refine z_aload_n hC (q := 0) dX4_unpackRow_0 rfl rfl ?_
  obtain ⟨hk1, h⟩ := h
  obtain ⟨b2, hb2, h⟩ := h
  refine gf_RX4_23 hC dX4_unpackRow_1 hk1 hb2 ?_
  obtain ⟨hk3, h⟩ := h
  refine gf_RX4_36 hC dX4_unpackRow_4 hk3 ?_
  refine z_if_eq hC (tgt := 34) dX4_unpackRow_7 (by decide) (fun hc => ?_) (fun hc => ?_)
  · have h := h.1 hc
    exact z_sub [(0, .ref a0)] [0] rfl (z_X4_unpackRow_34 hC hRm h)
  · have h := h.2 hc
    refine z_aload_n hC (q := 0) dX4_unpackRow_10 rfl rfl ?_
    refine gf_RX4_26 hC dX4_unpackRow_11 hk1 ?_
    refine z_aload_n hC (q := 0) dX4_unpackRow_14 rfl rfl ?_
    refine gf_RX4_23 hC dX4_unpackRow_15 hk1 hb2 ?_
    refine z_aload_n hC (q := 0) dX4_unpackRow_18 rfl rfl ?_
    refine gf_RX4_23 hC dX4_unpackRow_19 hk1 hb2 ?_
    refine gf_RX4_36 hC dX4_unpackRow_22 hk3 ?_
    refine z_iconst hC (v := 1) k_iconst_1 dX4_unpackRow_25 ?_
    refine z_isub hC dX4_unpackRow_26 ?_
    refine z_iconst hC (v := 0) k_iconst_0 dX4_unpackRow_27 ?_
    refine cl_RX4_41 hC (c_X7_at _ G b2 ((I b2 3) - 1) 0 K N I L R _ h) hk3 dX4_unpackRow_28 (by rw [hRm]; exact ⟨Nat.le_of_ble_eq_true rfl, Nat.le_of_ble_eq_true rfl⟩) ⟨Nat.zero_le _, Nat.zero_le _⟩ (Nat.le_of_ble_eq_true rfl) (z_kPi (fun r13 h => ?_))
    refine z_icmp_le hC (tgt := 38) dX4_unpackRow_31 (by decide) (fun hc => ?_) (fun hc => ?_)
    · have h := h.1 hc
      refine z_iconst hC (v := 0) k_iconst_0 dX4_unpackRow_38 ?_
      exact z_sub [(0, .ref a0)] [0] rfl (z_X4_unpackRow_39 hC hRm h)
    · have h := h.2 hc
      exact z_sub [(0, .ref a0)] [0] rfl (z_X4_unpackRow_34 hC hRm h)
def w_X4_unpackOp  (a0 : Nat) (a1 : Nat) (a2 : Int32) (K : MK) (N : MK) (I : MI) (L : ML) (R : MR) (Q : Bool → MI → ML → Prop) : Prop := K a1 = 9 ∧ w_X8_byteOf a1 a2 K N I L R (fun r2 => (¬ r2 = 1 → (¬ r2 = 2 → (¬ r2 = 3 → (¬ r2 = 4 → K a0 = 5 ∧ ∀ I4 : MI, I4 = mup I a0 3 ((I a0 3) + ((r2 - 10) / 12)) → ∀ I5 : MI, I5 = mup I4 a0 4 ((I4 a0 4) + (((r2 - 10) - (r2 - 10) / 12 * 12) + (-4))) → w_X4_unpackRow a0 K N I5 L R (fun r6 I7 L8 => Q r6 I7 L8)) ∧ (r2 = 4 → K a0 = 5 ∧ ∀ I10 : MI, I10 = mup I a0 3 ((I a0 3) + 17) → ((255 : Int32) < (I10 a0 3) → Q false I10 L) ∧ (¬ (255 : Int32) < (I10 a0 3) → Q true I10 L))) ∧ (r2 = 3 → w_X8_byteOf a1 (a2 + 1) K N I L R (fun r11 => w_X8_byteOf a1 (a2 + 2) K N I L R (fun r12 => ∀ v13 : Int32, v13 = ((r11 * 256) + r12) → K a0 = 5 ∧ (v13 < 32768 → ∀ I15 : MI, I15 = mup I a0 4 ((I a0 4) + v13) → ((255 : Int32) < (I15 a0 3) → Q false I15 L) ∧ (¬ (255 : Int32) < (I15 a0 3) → Q true I15 L)) ∧ (¬ v13 < 32768 → ∀ I16 : MI, I16 = mup I a0 4 ((I a0 4) + (v13 - 65536)) → ((255 : Int32) < (I16 a0 3) → Q false I16 L) ∧ (¬ (255 : Int32) < (I16 a0 3) → Q true I16 L)))))) ∧ (r2 = 2 → K a0 = 5 ∧ w_X8_byteOf a1 (a2 + 1) K N I L R (fun r18 => ∀ I19 : MI, I19 = mup I a0 3 ((I a0 3) + r18) → ((255 : Int32) < (I19 a0 3) → Q false I19 L) ∧ (¬ (255 : Int32) < (I19 a0 3) → Q true I19 L)))) ∧ (r2 = 1 → K a0 = 5 ∧ w_X4_unpackRow a0 K N I L R (fun r21 I22 L23 => Q r21 I22 L23)))
set_option maxHeartbeats 4000000 in
set_option maxRecDepth 100000 in
theorem c_X4_unpackOp  (l : Launch) (G : ZG) (a0 : Nat) (a1 : Nat) (a2 : Int32) (K : MK) (N : MK) (I : MI) (L : ML) (R : MR) (Q : Bool → MI → ML → Prop) (h : w_X4_unpackOp a0 a1 a2 K N I L R Q) : Met l yX4_unpackOp (.code yX4_unpackOp cX4_unpackOp 5 (some .boolean) :: z_tbl) rm_X4_unpackOp (z_Pc G [.ref a0, .ref a1, .int a2] K N I L R) (z_Qc G (qLz K N R Q)) 0 0 (z_A G) := by
  refine z_met (by decide) (Nat.le_of_ble_eq_true rfl) (fun X hX hRm hC0 hnm => ?_)
  subst hX
  have hC : ZOk X G RX4 cX4_unpackOp 5 (some .boolean) := hC0
  show Z X G 5 0 0 _ K N I L R 0 [(0, .ref a0), (1, .ref a1), (2, .int a2)] []
  delta w_X4_unpackOp at h
  refine z_aload_n hC (q := 1) dX4_unpackOp_0 rfl rfl ?_
  refine z_iload_n hC (q := 2) dX4_unpackOp_1 rfl rfl ?_
  obtain ⟨hk1, h⟩ := h
  refine cl_RX4_78 hC (c_X8_byteOf _ G a1 a2 K N I L R _ h) hk1 dX4_unpackOp_2 (by rw [hRm]; exact ⟨Nat.le_of_ble_eq_true rfl, Nat.le_of_ble_eq_true rfl⟩) ⟨Nat.zero_le _, Nat.zero_le _⟩ (Nat.le_of_ble_eq_true rfl) (z_kPi (fun r2 h => ?_))
  refine z_istore_n hC (lv1 := [(3, .int r2), (0, .ref a0), (1, .ref a1), (2, .int a2)]) dX4_unpackOp_5 rfl (by decide) rfl ?_
  refine z_iload_n hC (q := 0) dX4_unpackOp_6 rfl rfl ?_
  refine z_iconst hC (v := 1) k_iconst_1 dX4_unpackOp_7 ?_
  refine z_icmp_ne hC (tgt := 16) dX4_unpackOp_8 (by decide) (fun hc => ?_) (fun hc => ?_)
  · have h := h.1 hc
    refine z_iload_n hC (q := 0) dX4_unpackOp_16 rfl rfl ?_
    refine z_iconst hC (v := 2) k_iconst_2 dX4_unpackOp_17 ?_
    refine z_icmp_ne hC (tgt := 40) dX4_unpackOp_18 (by decide) (fun hc => ?_) (fun hc => ?_)
    · have h := h.1 hc
      refine z_iload_n hC (q := 0) dX4_unpackOp_40 rfl rfl ?_
      refine z_iconst hC (v := 3) k_iconst_3 dX4_unpackOp_41 ?_
      refine z_icmp_ne hC (tgt := 95) dX4_unpackOp_42 (by decide) (fun hc => ?_) (fun hc => ?_)
      · have h := h.1 hc
        refine z_iload_n hC (q := 0) dX4_unpackOp_95 rfl rfl ?_
        refine z_iconst hC (v := 4) k_iconst_4 dX4_unpackOp_96 ?_
        refine z_icmp_ne hC (tgt := 114) dX4_unpackOp_97 (by decide) (fun hc => ?_) (fun hc => ?_)
        · have h := h.1 hc
          refine z_aload_n hC (q := 1) dX4_unpackOp_114 rfl rfl ?_
          refine z_dup hC rfl dX4_unpackOp_115 ?_
          obtain ⟨hk3, h⟩ := h
          refine gf_RX4_26 hC dX4_unpackOp_116 hk3 ?_
          refine z_iload_n hC (q := 0) dX4_unpackOp_119 rfl rfl ?_
          refine z_bipush hC (v := 10) k_bipush_10 dX4_unpackOp_120 ?_
          refine z_isub hC dX4_unpackOp_122 ?_
          refine z_bipush hC (v := 12) k_bipush_12 dX4_unpackOp_123 ?_
          refine z_idiv hC (by decide) dX4_unpackOp_125 ?_
          refine z_iadd hC dX4_unpackOp_126 ?_
          refine pf_RX4_26 hC dX4_unpackOp_127 hk3 ?_
          refine z_genI (fun I4 eI4 => ?_)
          have h := h I4 eI4
          refine z_aload_n hC (q := 1) dX4_unpackOp_130 rfl rfl ?_
          refine z_dup hC rfl dX4_unpackOp_131 ?_
          refine gf_RX4_30 hC dX4_unpackOp_132 hk3 ?_
          refine z_iload_n hC (q := 0) dX4_unpackOp_135 rfl rfl ?_
          refine z_bipush hC (v := 10) k_bipush_10 dX4_unpackOp_136 ?_
          refine z_isub hC dX4_unpackOp_138 ?_
          refine z_bipush hC (v := 12) k_bipush_12 dX4_unpackOp_139 ?_
          refine z_irem hC (by decide) dX4_unpackOp_141 ?_
          refine z_bipush hC (v := (-4)) k_bipush_m4 dX4_unpackOp_142 ?_
          refine z_iadd hC dX4_unpackOp_144 ?_
          refine z_iadd hC dX4_unpackOp_145 ?_
          refine pf_RX4_30 hC dX4_unpackOp_146 hk3 ?_
          refine z_genI (fun I5 eI5 => ?_)
          have h := h I5 eI5
          refine z_aload_n hC (q := 1) dX4_unpackOp_149 rfl rfl ?_
          refine cl_RX4_94 hC (c_X4_unpackRow _ G a0 K N I5 L R _ h) hk3 dX4_unpackOp_150 (by rw [hRm]; exact ⟨Nat.le_of_ble_eq_true rfl, Nat.le_of_ble_eq_true rfl⟩) ⟨Nat.zero_le _, Nat.zero_le _⟩ (Nat.le_of_ble_eq_true rfl) (z_kLz (I := I5) (L := L) (fun r6 I7 L8 h => ?_))
          exact z_zret (b := r6) hC dX4_unpackOp_153 rfl ⟨r6, rfl, rfl, rfl, rfl, h⟩
        · have h := h.2 hc
          refine z_aload_n hC (q := 1) dX4_unpackOp_100 rfl rfl ?_
          refine z_dup hC rfl dX4_unpackOp_101 ?_
          obtain ⟨hk9, h⟩ := h
          refine gf_RX4_26 hC dX4_unpackOp_102 hk9 ?_
          refine z_bipush hC (v := 17) k_bipush_17 dX4_unpackOp_105 ?_
          refine z_iadd hC dX4_unpackOp_107 ?_
          refine pf_RX4_26 hC dX4_unpackOp_108 hk9 ?_
          refine z_genI (fun I10 eI10 => ?_)
          have h := h I10 eI10
          refine z_goto hC (tgt := 154) dX4_unpackOp_111 (by decide) ?_
          refine z_aload_n hC (q := 1) dX4_unpackOp_154 rfl rfl ?_
          refine gf_RX4_26 hC dX4_unpackOp_155 hk9 ?_
          refine z_sipush hC (v := 255) k_sipush_255 dX4_unpackOp_158 ?_
          refine z_icmp_gt hC (tgt := 168) dX4_unpackOp_161 (by decide) (fun hc => ?_) (fun hc => ?_)
          · have h := h.1 hc
            refine z_iconst hC (v := 0) k_iconst_0 dX4_unpackOp_168 ?_
            exact z_zret (b := false) hC dX4_unpackOp_169 rfl ⟨false, rfl, rfl, rfl, rfl, h⟩
          · have h := h.2 hc
            refine z_iconst hC (v := 1) k_iconst_1 dX4_unpackOp_164 ?_
            refine z_goto hC (tgt := 169) dX4_unpackOp_165 (by decide) ?_
            exact z_zret (b := true) hC dX4_unpackOp_169 rfl ⟨true, rfl, rfl, rfl, rfl, h⟩
      · have h := h.2 hc
        refine z_aload_n hC (q := 2) dX4_unpackOp_45 rfl rfl ?_
        refine z_iload_n hC (q := 3) dX4_unpackOp_46 rfl rfl ?_
        refine z_iconst hC (v := 1) k_iconst_1 dX4_unpackOp_47 ?_
        refine z_iadd hC dX4_unpackOp_48 ?_
        refine cl_RX4_78 hC (c_X8_byteOf _ G a1 (a2 + 1) K N I L R _ h) hk1 dX4_unpackOp_49 (by rw [hRm]; exact ⟨Nat.le_of_ble_eq_true rfl, Nat.le_of_ble_eq_true rfl⟩) ⟨Nat.zero_le _, Nat.zero_le _⟩ (Nat.le_of_ble_eq_true rfl) (z_kPi (fun r11 h => ?_))
        refine z_sipush hC (v := 256) k_sipush_256 dX4_unpackOp_52 ?_
        refine z_imul hC dX4_unpackOp_55 ?_
        refine z_aload_n hC (q := 2) dX4_unpackOp_56 rfl rfl ?_
        refine z_iload_n hC (q := 3) dX4_unpackOp_57 rfl rfl ?_
        refine z_iconst hC (v := 2) k_iconst_2 dX4_unpackOp_58 ?_
        refine z_iadd hC dX4_unpackOp_59 ?_
        refine cl_RX4_78 hC (c_X8_byteOf _ G a1 (a2 + 2) K N I L R _ h) hk1 dX4_unpackOp_60 (by rw [hRm]; exact ⟨Nat.le_of_ble_eq_true rfl, Nat.le_of_ble_eq_true rfl⟩) ⟨Nat.zero_le _, Nat.zero_le _⟩ (Nat.le_of_ble_eq_true rfl) (z_kPi (fun r12 h => ?_))
        refine z_iadd hC dX4_unpackOp_63 ?_
        refine z_topi (fun v13 ev13 => ?_)
        have h := h v13 ev13
        refine z_istore hC (lv1 := [(4, .int v13), (3, .int r2), (0, .ref a0), (1, .ref a1), (2, .int a2)]) dX4_unpackOp_64 (by decide) rfl ?_
        refine z_aload_n hC (q := 2) dX4_unpackOp_66 rfl rfl ?_
        refine z_dup hC rfl dX4_unpackOp_67 ?_
        obtain ⟨hk14, h⟩ := h
        refine gf_RX4_30 hC dX4_unpackOp_68 hk14 ?_
        refine z_iload hC (q := 0) dX4_unpackOp_71 rfl ?_
        refine z_ldc hC cst_RX4_98 dX4_unpackOp_73 ?_
        refine z_icmp_lt hC (tgt := 86) dX4_unpackOp_75 (by decide) (fun hc => ?_) (fun hc => ?_)
        · have h := h.1 hc
          refine z_iload hC (q := 0) dX4_unpackOp_86 rfl ?_
          refine z_iadd hC dX4_unpackOp_88 ?_
          refine pf_RX4_30 hC dX4_unpackOp_89 hk14 ?_
          refine z_genI (fun I15 eI15 => ?_)
          have h := h I15 eI15
          refine z_goto hC (tgt := 154) dX4_unpackOp_92 (by decide) ?_
          refine z_aload_n hC (q := 2) dX4_unpackOp_154 rfl rfl ?_
          refine gf_RX4_26 hC dX4_unpackOp_155 hk14 ?_
          refine z_sipush hC (v := 255) k_sipush_255 dX4_unpackOp_158 ?_
          refine z_icmp_gt hC (tgt := 168) dX4_unpackOp_161 (by decide) (fun hc => ?_) (fun hc => ?_)
          · have h := h.1 hc
            refine z_iconst hC (v := 0) k_iconst_0 dX4_unpackOp_168 ?_
            exact z_zret (b := false) hC dX4_unpackOp_169 rfl ⟨false, rfl, rfl, rfl, rfl, h⟩
          · have h := h.2 hc
            refine z_iconst hC (v := 1) k_iconst_1 dX4_unpackOp_164 ?_
            refine z_goto hC (tgt := 169) dX4_unpackOp_165 (by decide) ?_
            exact z_zret (b := true) hC dX4_unpackOp_169 rfl ⟨true, rfl, rfl, rfl, rfl, h⟩
        · have h := h.2 hc
          refine z_iload hC (q := 0) dX4_unpackOp_78 rfl ?_
          refine z_ldc hC cst_RX4_99 dX4_unpackOp_80 ?_
          refine z_isub hC dX4_unpackOp_82 ?_
          refine z_goto hC (tgt := 88) dX4_unpackOp_83 (by decide) ?_
          refine z_iadd hC dX4_unpackOp_88 ?_
          refine pf_RX4_30 hC dX4_unpackOp_89 hk14 ?_
          refine z_genI (fun I16 eI16 => ?_)
          have h := h I16 eI16
          refine z_goto hC (tgt := 154) dX4_unpackOp_92 (by decide) ?_
          refine z_aload_n hC (q := 2) dX4_unpackOp_154 rfl rfl ?_
          refine gf_RX4_26 hC dX4_unpackOp_155 hk14 ?_
          refine z_sipush hC (v := 255) k_sipush_255 dX4_unpackOp_158 ?_
          refine z_icmp_gt hC (tgt := 168) dX4_unpackOp_161 (by decide) (fun hc => ?_) (fun hc => ?_)
          · have h := h.1 hc
            refine z_iconst hC (v := 0) k_iconst_0 dX4_unpackOp_168 ?_
            exact z_zret (b := false) hC dX4_unpackOp_169 rfl ⟨false, rfl, rfl, rfl, rfl, h⟩
          · have h := h.2 hc
            refine z_iconst hC (v := 1) k_iconst_1 dX4_unpackOp_164 ?_
            refine z_goto hC (tgt := 169) dX4_unpackOp_165 (by decide) ?_
            exact z_zret (b := true) hC dX4_unpackOp_169 rfl ⟨true, rfl, rfl, rfl, rfl, h⟩
    · have h := h.2 hc
      refine z_aload_n hC (q := 1) dX4_unpackOp_21 rfl rfl ?_
      refine z_dup hC rfl dX4_unpackOp_22 ?_
      obtain ⟨hk17, h⟩ := h
      refine gf_RX4_26 hC dX4_unpackOp_23 hk17 ?_
      refine z_aload_n hC (q := 2) dX4_unpackOp_26 rfl rfl ?_
      refine z_iload_n hC (q := 3) dX4_unpackOp_27 rfl rfl ?_
      refine z_iconst hC (v := 1) k_iconst_1 dX4_unpackOp_28 ?_
      refine z_iadd hC dX4_unpackOp_29 ?_
      refine cl_RX4_78 hC (c_X8_byteOf _ G a1 (a2 + 1) K N I L R _ h) hk1 dX4_unpackOp_30 (by rw [hRm]; exact ⟨Nat.le_of_ble_eq_true rfl, Nat.le_of_ble_eq_true rfl⟩) ⟨Nat.zero_le _, Nat.zero_le _⟩ (Nat.le_of_ble_eq_true rfl) (z_kPi (fun r18 h => ?_))
      refine z_iadd hC dX4_unpackOp_33 ?_
      refine pf_RX4_26 hC dX4_unpackOp_34 hk17 ?_
      refine z_genI (fun I19 eI19 => ?_)
      have h := h I19 eI19
      refine z_goto hC (tgt := 154) dX4_unpackOp_37 (by decide) ?_
      refine z_aload_n hC (q := 1) dX4_unpackOp_154 rfl rfl ?_
      refine gf_RX4_26 hC dX4_unpackOp_155 hk17 ?_
      refine z_sipush hC (v := 255) k_sipush_255 dX4_unpackOp_158 ?_
      refine z_icmp_gt hC (tgt := 168) dX4_unpackOp_161 (by decide) (fun hc => ?_) (fun hc => ?_)
      · have h := h.1 hc
        refine z_iconst hC (v := 0) k_iconst_0 dX4_unpackOp_168 ?_
        exact z_zret (b := false) hC dX4_unpackOp_169 rfl ⟨false, rfl, rfl, rfl, rfl, h⟩
      · have h := h.2 hc
        refine z_iconst hC (v := 1) k_iconst_1 dX4_unpackOp_164 ?_
        refine z_goto hC (tgt := 169) dX4_unpackOp_165 (by decide) ?_
        exact z_zret (b := true) hC dX4_unpackOp_169 rfl ⟨true, rfl, rfl, rfl, rfl, h⟩
  · have h := h.2 hc
    refine z_aload_n hC (q := 1) dX4_unpackOp_11 rfl rfl ?_
    obtain ⟨hk20, h⟩ := h
    refine cl_RX4_94 hC (c_X4_unpackRow _ G a0 K N I L R _ h) hk20 dX4_unpackOp_12 (by rw [hRm]; exact ⟨Nat.le_of_ble_eq_true rfl, Nat.le_of_ble_eq_true rfl⟩) ⟨Nat.zero_le _, Nat.zero_le _⟩ (Nat.le_of_ble_eq_true rfl) (z_kLz (I := I) (L := L) (fun r21 I22 L23 h => ?_))
    exact z_zret (b := r21) hC dX4_unpackOp_15 rfl ⟨r21, rfl, rfl, rfl, rfl, h⟩
def w_X4_unpack_93  (x0 : Nat) (x1 : Nat) (x2 : Int32) (x3 : Int32) (x5 : Int32)  (K : MK) (N : MK) (I : MI) (L : ML) (R : MR) (C21 : Nat → Nat → Int32 → Int32 → MI → ML → Prop) (Q : Int32 → MI → ML → Prop) : Prop := K x1 = 9 ∧ ((I x1 1) < (x2 + x5) → Q x2 I L) ∧ (¬ (I x1 1) < (x2 + x5) → K x0 = 5 ∧ w_X4_unpackOp x0 x1 x2 K N I L R (fun r12 I13 L14 => (r12 = true → ∀ v15 : Int32, v15 = (x2 + x5) → ∀ v16 : Int32, v16 = x3 + 1 → C21 x0 x1 v15 v16 I13 L14) ∧ (r12 = false → Q x2 I13 L14)))
def w_X4_unpack_78  (x0 : Nat) (x1 : Nat) (x2 : Int32) (x3 : Int32) (x4 : Int32) (s0 : Int32) (K : MK) (N : MK) (I : MI) (L : ML) (R : MR) (C21 : Nat → Nat → Int32 → Int32 → MI → ML → Prop) (Q : Int32 → MI → ML → Prop) : Prop := (x4 ≤ 4 → w_X4_unpack_93 x0 x1 x2 x3 s0 K N I L R C21 Q) ∧ (¬ x4 ≤ 4 → (x4 < 10 → Q x2 I L) ∧ (¬ x4 < 10 → w_X4_unpack_93 x0 x1 x2 x3 s0 K N I L R C21 Q))
def w_X4_unpack_21  (x0 : Nat) (x1 : Nat) (x2 : Int32) (x3 : Int32)  (K : MK) (N : MK) (I : MI) (L : ML) (R : MR)  (Q : Int32 → MI → ML → Prop) : Prop := ∃ J : Nat → Nat → Nat → Int32 → Int32 → MI → ML → Prop, (∃ n, J n x0 x1 x2 x3 I L) ∧ ∀ (n : Nat) (x0 : Nat) (x1 : Nat) (x2 : Int32) (x3 : Int32) (I : MI) (L : ML), J n x0 x1 x2 x3 I L → ((940 : Int32) ≤ x3 → K x1 = 9 ∧ Q (I x1 1) I L) ∧ (¬ (940 : Int32) ≤ x3 → K x1 = 9 ∧ ((I x1 1) ≤ x2 → Q (I x1 1) I L) ∧ (¬ (I x1 1) ≤ x2 → w_X8_byteOf x1 x2 K N I L R (fun r9 => (¬ r9 = 0 → (¬ r9 = 2 → (¬ r9 = 3 → w_X4_unpack_78 x0 x1 x2 x3 r9 1 K N I L R (fun y0 y1 y2 y3 y4 y5 => ∃ n1, n1 < n ∧ J n1 y0 y1 y2 y3 y4 y5) Q) ∧ (r9 = 3 → w_X4_unpack_78 x0 x1 x2 x3 r9 3 K N I L R (fun y0 y1 y2 y3 y4 y5 => ∃ n1, n1 < n ∧ J n1 y0 y1 y2 y3 y4 y5) Q)) ∧ (r9 = 2 → w_X4_unpack_78 x0 x1 x2 x3 r9 2 K N I L R (fun y0 y1 y2 y3 y4 y5 => ∃ n1, n1 < n ∧ J n1 y0 y1 y2 y3 y4 y5) Q)) ∧ (r9 = 0 → K x0 = 5 ∧ w_X4_unpackEnd x0 x1 (x2 + 1) K N I L R (fun r18 I19 L20 => Q r18 I19 L20)))))
def w_X4_unpack  (a0 : Nat) (a1 : Nat) (K : MK) (N : MK) (I : MI) (L : ML) (R : MR) (Q : Int32 → MI → ML → Prop) : Prop := K a0 = 5 ∧ ∃ b2 : Nat, R a0 2 = some b2 ∧ K b2 = 8 ∧ w_X7_forget b2 K N I L R (fun I4 => ∀ I5 : MI, I5 = mup I4 a0 3 0 → ∀ I6 : MI, I6 = mup I5 a0 4 1 → w_X4_unpack_21 a0 a1 0 0 K N I6 L R Q)
set_option maxHeartbeats 4000000 in
set_option maxRecDepth 100000 in
theorem z_X4_unpack_93 {X : ZX} {G : ZG}  {x0 : Nat} {x1 : Nat} {x2 : Int32} {x3 : Int32} {x5 : Int32}  {K : MK} {N : MK} {I : MI} {L : ML} {R : MR} {C21 : Nat → Nat → Int32 → Int32 → MI → ML → Prop} {Q : Int32 → MI → ML → Prop} (hC : ZOk X G RX4 cX4_unpack 6 (some .int)) (hRm : X.2.2.2.1 = rm_X4_unpack) (hC21 : ∀ (y0 : Nat) (y1 : Nat) (y2 : Int32) (y3 : Int32) (zI : MI) (zL : ML), C21 y0 y1 y2 y3 zI zL → Z X G 6 0 0 (z_T X G (qLi K N R Q) 0 0) K N zI zL R 21 [(0, .ref y0), (1, .ref y1), (2, .int y2), (3, .int y3)] []) (h : w_X4_unpack_93 x0 x1 x2 x3 x5 K N I L R C21 Q) : Z X G 6 0 0 (z_T X G (qLi K N R Q) 0 0) K N I L R 93 [(0, .ref x0), (1, .ref x1), (2, .int x2), (3, .int x3), (5, .int x5)] [] := by
  delta w_X4_unpack_93 at h
  refine z_iload_n hC (q := 2) dX4_unpack_93 rfl rfl ?_
  refine z_iload hC (q := 4) dX4_unpack_94 rfl ?_
  refine z_iadd hC dX4_unpack_96 ?_
  refine z_aload_n hC (q := 1) dX4_unpack_97 rfl rfl ?_
  obtain ⟨hk10, h⟩ := h
  refine gf_RX4_75 hC dX4_unpack_98 hk10 ?_
  refine z_icmp_gt hC (tgt := 113) dX4_unpack_101 (by decide) (fun hc => ?_) (fun hc => ?_)
  · have h := h.1 hc
    refine z_iload_n hC (q := 2) dX4_unpack_113 rfl rfl ?_
    exact z_iret hC dX4_unpack_114 ⟨_, rfl, rfl, rfl, rfl, h⟩
  · have h := h.2 hc
    refine z_aload_n hC (q := 0) dX4_unpack_104 rfl rfl ?_
    refine z_aload_n hC (q := 1) dX4_unpack_105 rfl rfl ?_
    refine z_iload_n hC (q := 2) dX4_unpack_106 rfl rfl ?_
    obtain ⟨hk11, h⟩ := h
    refine cl_RX4_86 hC (c_X4_unpackOp _ G x0 x1 x2 K N I L R _ h) hk11 dX4_unpack_107 (by rw [hRm]; exact ⟨Nat.le_of_ble_eq_true rfl, Nat.le_of_ble_eq_true rfl⟩) ⟨Nat.zero_le _, Nat.zero_le _⟩ (Nat.le_of_ble_eq_true rfl) (z_kLz (I := I) (L := L) (fun r12 I13 L14 h => ?_))
    refine z_ifz_ne hC (tgt := 115) dX4_unpack_110 (by decide) (fun hc => ?_) (fun hc => ?_)
    · have h := h.1 hc
      refine z_iload_n hC (q := 2) dX4_unpack_115 rfl rfl ?_
      refine z_iload hC (q := 4) dX4_unpack_116 rfl ?_
      refine z_iadd hC dX4_unpack_118 ?_
      refine z_topi (fun v15 ev15 => ?_)
      have h := h v15 ev15
      refine z_istore_n hC (lv1 := [(2, .int v15), (0, .ref x0), (1, .ref x1), (3, .int x3), (5, .int x5)]) dX4_unpack_119 rfl (by decide) rfl ?_
      obtain ⟨v16, ev16⟩ : ∃ y : Int32, y = x3 + 1 := ⟨_, rfl⟩
      have h := h v16 ev16
      refine z_iinc hC (q := 3) (v := v16) (lv1 := [(3, .int v16), (2, .int v15), (0, .ref x0), (1, .ref x1), (5, .int x5)]) dX4_unpack_120 rfl (by rw [ev16, k_iinc_1]) (by decide) rfl ?_
      refine z_goto hC (tgt := 21) dX4_unpack_123 (by decide) ?_
      exact z_sub [(0, .ref x0), (1, .ref x1), (2, .int v15), (3, .int v16)] [2, 3, 1, 0] rfl (hC21 _ _ _ _ _ _ h)
    · have h := h.2 hc
      refine z_iload_n hC (q := 2) dX4_unpack_113 rfl rfl ?_
      exact z_iret hC dX4_unpack_114 ⟨_, rfl, rfl, rfl, rfl, h⟩
set_option maxHeartbeats 4000000 in
set_option maxRecDepth 100000 in
theorem z_X4_unpack_78 {X : ZX} {G : ZG}  {x0 : Nat} {x1 : Nat} {x2 : Int32} {x3 : Int32} {x4 : Int32} {s0 : Int32} {K : MK} {N : MK} {I : MI} {L : ML} {R : MR} {C21 : Nat → Nat → Int32 → Int32 → MI → ML → Prop} {Q : Int32 → MI → ML → Prop} (hC : ZOk X G RX4 cX4_unpack 6 (some .int)) (hRm : X.2.2.2.1 = rm_X4_unpack) (hC21 : ∀ (y0 : Nat) (y1 : Nat) (y2 : Int32) (y3 : Int32) (zI : MI) (zL : ML), C21 y0 y1 y2 y3 zI zL → Z X G 6 0 0 (z_T X G (qLi K N R Q) 0 0) K N zI zL R 21 [(0, .ref y0), (1, .ref y1), (2, .int y2), (3, .int y3)] []) (h : w_X4_unpack_78 x0 x1 x2 x3 x4 s0 K N I L R C21 Q) : Z X G 6 0 0 (z_T X G (qLi K N R Q) 0 0) K N I L R 78 [(0, .ref x0), (1, .ref x1), (2, .int x2), (3, .int x3), (4, .int x4)] [.int s0] := by
  delta w_X4_unpack_78 at h
  refine z_istore hC (lv1 := [(5, .int s0), (0, .ref x0), (1, .ref x1), (2, .int x2), (3, .int x3), (4, .int x4)]) dX4_unpack_78 (by decide) rfl ?_
  refine z_iload hC (q := 5) dX4_unpack_80 rfl ?_
  refine z_iconst hC (v := 4) k_iconst_4 dX4_unpack_82 ?_
  refine z_icmp_le hC (tgt := 93) dX4_unpack_83 (by decide) (fun hc => ?_) (fun hc => ?_)
  · have h := h.1 hc
    exact z_sub [(0, .ref x0), (1, .ref x1), (2, .int x2), (3, .int x3), (5, .int s0)] [1, 2, 3, 4, 0] rfl (z_X4_unpack_93 hC hRm hC21 h)
  · have h := h.2 hc
    refine z_iload hC (q := 5) dX4_unpack_86 rfl ?_
    refine z_bipush hC (v := 10) k_bipush_10 dX4_unpack_88 ?_
    refine z_icmp_lt hC (tgt := 113) dX4_unpack_90 (by decide) (fun hc => ?_) (fun hc => ?_)
    · have h := h.1 hc
      refine z_iload_n hC (q := 3) dX4_unpack_113 rfl rfl ?_
      exact z_iret hC dX4_unpack_114 ⟨_, rfl, rfl, rfl, rfl, h⟩
    · have h := h.2 hc
      exact z_sub [(0, .ref x0), (1, .ref x1), (2, .int x2), (3, .int x3), (5, .int s0)] [1, 2, 3, 4, 0] rfl (z_X4_unpack_93 hC hRm hC21 h)
set_option maxHeartbeats 4000000 in
set_option maxRecDepth 100000 in
theorem z_X4_unpack_21 {X : ZX} {G : ZG}  {x0 : Nat} {x1 : Nat} {x2 : Int32} {x3 : Int32}  {K : MK} {N : MK} {I : MI} {L : ML} {R : MR}  {Q : Int32 → MI → ML → Prop} (hC : ZOk X G RX4 cX4_unpack 6 (some .int)) (hRm : X.2.2.2.1 = rm_X4_unpack) (h : w_X4_unpack_21 x0 x1 x2 x3 K N I L R  Q) : Z X G 6 0 0 (z_T X G (qLi K N R Q) 0 0) K N I L R 21 [(0, .ref x0), (1, .ref x1), (2, .int x2), (3, .int x3)] [] := by
  delta w_X4_unpack_21 at h
  obtain ⟨J, ⟨n, h0⟩, hs⟩ := h
  have key : ∀ (n : Nat) (x0 : Nat) (x1 : Nat) (x2 : Int32) (x3 : Int32) (I : MI) (L : ML), J n x0 x1 x2 x3 I L → Z X G 6 0 0 (z_T X G (qLi K N R Q) 0 0) K N I L R 21 [(0, .ref x0), (1, .ref x1), (2, .int x2), (3, .int x3)] [] := by
    intro n
    induction n using Nat.strongRecOn with
    | _ n ih =>
      intro x0 x1 x2 x3 I L hJ
      have hC21 : ∀ (y0 : Nat) (y1 : Nat) (y2 : Int32) (y3 : Int32) (zI : MI) (zL : ML), (∃ n1, n1 < n ∧ J n1 y0 y1 y2 y3 zI zL) → Z X G 6 0 0 (z_T X G (qLi K N R Q) 0 0) K N zI zL R 21 [(0, .ref y0), (1, .ref y1), (2, .int y2), (3, .int y3)] [] := fun y0 y1 y2 y3 zI zL ⟨n1, hn1, hj⟩ => ih n1 hn1 y0 y1 y2 y3 zI zL hj
      have h := hs n x0 x1 x2 x3 I L hJ
      refine z_iload_n hC (q := 3) dX4_unpack_21 rfl rfl ?_
      refine z_sipush hC (v := 940) k_sipush_940 dX4_unpack_22 ?_
      refine z_icmp_ge hC (tgt := 126) dX4_unpack_25 (by decide) (fun hc => ?_) (fun hc => ?_)
      · have h := h.1 hc
        refine z_aload_n hC (q := 1) dX4_unpack_126 rfl rfl ?_
        obtain ⟨hk7, h⟩ := h
        refine gf_RX4_75 hC dX4_unpack_127 hk7 ?_
        exact z_iret hC dX4_unpack_130 ⟨_, rfl, rfl, rfl, rfl, h⟩
      · have h := h.2 hc
        refine z_iload_n hC (q := 2) dX4_unpack_28 rfl rfl ?_
        refine z_aload_n hC (q := 1) dX4_unpack_29 rfl rfl ?_
        obtain ⟨hk8, h⟩ := h
        refine gf_RX4_75 hC dX4_unpack_30 hk8 ?_
        refine z_icmp_ge hC (tgt := 126) dX4_unpack_33 (by decide) (fun hc => ?_) (fun hc => ?_)
        · have h := h.1 hc
          refine z_aload_n hC (q := 1) dX4_unpack_126 rfl rfl ?_
          refine gf_RX4_75 hC dX4_unpack_127 hk8 ?_
          exact z_iret hC dX4_unpack_130 ⟨_, rfl, rfl, rfl, rfl, h⟩
        · have h := h.2 hc
          refine z_aload_n hC (q := 1) dX4_unpack_36 rfl rfl ?_
          refine z_iload_n hC (q := 2) dX4_unpack_37 rfl rfl ?_
          refine cl_RX4_78 hC (c_X8_byteOf _ G x1 x2 K N I L R _ h) hk8 dX4_unpack_38 (by rw [hRm]; exact ⟨Nat.le_of_ble_eq_true rfl, Nat.le_of_ble_eq_true rfl⟩) ⟨Nat.zero_le _, Nat.zero_le _⟩ (Nat.le_of_ble_eq_true rfl) (z_kPi (fun r9 h => ?_))
          refine z_istore hC (lv1 := [(4, .int r9), (0, .ref x0), (1, .ref x1), (2, .int x2), (3, .int x3)]) dX4_unpack_41 (by decide) rfl ?_
          refine z_iload hC (q := 0) dX4_unpack_43 rfl ?_
          refine z_if_ne hC (tgt := 57) dX4_unpack_45 (by decide) (fun hc => ?_) (fun hc => ?_)
          · have h := h.1 hc
            refine z_iload hC (q := 0) dX4_unpack_57 rfl ?_
            refine z_iconst hC (v := 2) k_iconst_2 dX4_unpack_59 ?_
            refine z_icmp_ne hC (tgt := 67) dX4_unpack_60 (by decide) (fun hc => ?_) (fun hc => ?_)
            · have h := h.1 hc
              refine z_iload hC (q := 0) dX4_unpack_67 rfl ?_
              refine z_iconst hC (v := 3) k_iconst_3 dX4_unpack_69 ?_
              refine z_icmp_ne hC (tgt := 77) dX4_unpack_70 (by decide) (fun hc => ?_) (fun hc => ?_)
              · have h := h.1 hc
                refine z_iconst hC (v := 1) k_iconst_1 dX4_unpack_77 ?_
                exact z_sub [(0, .ref x0), (1, .ref x1), (2, .int x2), (3, .int x3), (4, .int r9)] [1, 2, 3, 4, 0] rfl (z_X4_unpack_78 hC hRm hC21 h)
              · have h := h.2 hc
                refine z_iconst hC (v := 3) k_iconst_3 dX4_unpack_73 ?_
                refine z_goto hC (tgt := 78) dX4_unpack_74 (by decide) ?_
                exact z_sub [(0, .ref x0), (1, .ref x1), (2, .int x2), (3, .int x3), (4, .int r9)] [1, 2, 3, 4, 0] rfl (z_X4_unpack_78 hC hRm hC21 h)
            · have h := h.2 hc
              refine z_iconst hC (v := 2) k_iconst_2 dX4_unpack_63 ?_
              refine z_goto hC (tgt := 78) dX4_unpack_64 (by decide) ?_
              exact z_sub [(0, .ref x0), (1, .ref x1), (2, .int x2), (3, .int x3), (4, .int r9)] [1, 2, 3, 4, 0] rfl (z_X4_unpack_78 hC hRm hC21 h)
          · have h := h.2 hc
            refine z_aload_n hC (q := 1) dX4_unpack_48 rfl rfl ?_
            refine z_aload_n hC (q := 2) dX4_unpack_49 rfl rfl ?_
            refine z_iload_n hC (q := 3) dX4_unpack_50 rfl rfl ?_
            refine z_iconst hC (v := 1) k_iconst_1 dX4_unpack_51 ?_
            refine z_iadd hC dX4_unpack_52 ?_
            obtain ⟨hk17, h⟩ := h
            refine cl_RX4_82 hC (c_X4_unpackEnd _ G x0 x1 (x2 + 1) K N I L R _ h) hk17 dX4_unpack_53 (by rw [hRm]; exact ⟨Nat.le_of_ble_eq_true rfl, Nat.le_of_ble_eq_true rfl⟩) ⟨Nat.zero_le _, Nat.zero_le _⟩ (Nat.le_of_ble_eq_true rfl) (z_kLi (I := I) (L := L) (fun r18 I19 L20 h => ?_))
            exact z_iret hC dX4_unpack_56 ⟨_, rfl, rfl, rfl, rfl, h⟩
  exact key n x0 x1 x2 x3 I L h0
set_option maxHeartbeats 4000000 in
set_option maxRecDepth 100000 in
theorem c_X4_unpack  (l : Launch) (G : ZG) (a0 : Nat) (a1 : Nat) (K : MK) (N : MK) (I : MI) (L : ML) (R : MR) (Q : Int32 → MI → ML → Prop) (h : w_X4_unpack a0 a1 K N I L R Q) : Met l yX4_unpack (.code yX4_unpack cX4_unpack 6 (some .int) :: z_tbl) rm_X4_unpack (z_Pc G [.ref a0, .ref a1] K N I L R) (z_Qc G (qLi K N R Q)) 0 0 (z_A G) := by
  refine z_met (by decide) (Nat.le_of_ble_eq_true rfl) (fun X hX hRm hC0 hnm => ?_)
  subst hX
  have hC : ZOk X G RX4 cX4_unpack 6 (some .int) := hC0
  show Z X G 6 0 0 _ K N I L R 0 [(0, .ref a0), (1, .ref a1)] []
  delta w_X4_unpack at h
  refine z_aload_n hC (q := 0) dX4_unpack_0 rfl rfl ?_
  obtain ⟨hk1, h⟩ := h
  obtain ⟨b2, hb2, h⟩ := h
  refine gf_RX4_23 hC dX4_unpack_1 hk1 hb2 ?_
  obtain ⟨hk3, h⟩ := h
  refine cl_RX4_33 hC (c_X7_forget _ G b2 K N I L R _ h) hk3 dX4_unpack_4 (by rw [hRm]; exact ⟨Nat.le_of_ble_eq_true rfl, Nat.le_of_ble_eq_true rfl⟩) ⟨Nat.zero_le _, Nat.zero_le _⟩ (Nat.le_of_ble_eq_true rfl) (z_kIv (I := I) (fun I4 h => ?_))
  refine z_aload_n hC (q := 0) dX4_unpack_7 rfl rfl ?_
  refine z_iconst hC (v := 0) k_iconst_0 dX4_unpack_8 ?_
  refine pf_RX4_26 hC dX4_unpack_9 hk1 ?_
  refine z_genI (fun I5 eI5 => ?_)
  have h := h I5 eI5
  refine z_aload_n hC (q := 0) dX4_unpack_12 rfl rfl ?_
  refine z_iconst hC (v := 1) k_iconst_1 dX4_unpack_13 ?_
  refine pf_RX4_30 hC dX4_unpack_14 hk1 ?_
  refine z_genI (fun I6 eI6 => ?_)
  have h := h I6 eI6
  refine z_iconst hC (v := 0) k_iconst_0 dX4_unpack_17 ?_
  refine z_istore_n hC (lv1 := [(2, .int 0), (0, .ref a0), (1, .ref a1)]) dX4_unpack_18 rfl (by decide) rfl ?_
  refine z_iconst hC (v := 0) k_iconst_0 dX4_unpack_19 ?_
  refine z_istore_n hC (lv1 := [(3, .int 0), (2, .int 0), (0, .ref a0), (1, .ref a1)]) dX4_unpack_20 rfl (by decide) rfl ?_
  exact z_sub [(0, .ref a0), (1, .ref a1), (2, .int 0), (3, .int 0)] [2, 3, 1, 0] rfl (z_X4_unpack_21 hC hRm h)
def w_X5_forget  (a0 : Nat) (K : MK) (N : MK) (I : MI) (L : ML) (R : MR) (Q : MI → Prop) : Prop := K a0 = 6 ∧ ∀ I2 : MI, I2 = mup I a0 0 0 → Q I2
set_option maxHeartbeats 4000000 in
set_option maxRecDepth 100000 in
theorem c_X5_forget  (l : Launch) (G : ZG) (a0 : Nat) (K : MK) (N : MK) (I : MI) (L : ML) (R : MR) (Q : MI → Prop) (h : w_X5_forget a0 K N I L R Q) : Met l yX5_forget (.code yX5_forget cX5_forget 1 none :: z_tbl) rm_X5_forget (z_Pc G [.ref a0] K N I L R) (z_Qc G (qIv K N L R Q)) 0 0 (z_A G) := by
  refine z_met (by decide) (Nat.le_of_ble_eq_true rfl) (fun X hX hRm hC0 hnm => ?_)
  subst hX
  have hC : ZOk X G RX5 cX5_forget 1 none := hC0
  show Z X G 1 0 0 _ K N I L R 0 [(0, .ref a0)] []
  delta w_X5_forget at h
  refine z_aload_n hC (q := 0) dX5_forget_0 rfl rfl ?_
  refine z_iconst hC (v := 0) k_iconst_0 dX5_forget_1 ?_
  obtain ⟨hk1, h⟩ := h
  refine pf_RX5_9 hC dX5_forget_2 hk1 ?_
  refine z_genI (fun I2 eI2 => ?_)
  have h := h I2 eI2
  exact z_vret hC dX5_forget_5 ⟨rfl, rfl, rfl, rfl, rfl, h⟩
def w_X5_copyFrom  (a0 : Nat) (a1 : Nat) (K : MK) (N : MK) (I : MI) (L : ML) (R : MR) (Q : MI → Prop) : Prop := K a1 = 6 ∧ K a0 = 6 ∧ ∀ I3 : MI, I3 = mup I a0 0 (I a1 0) → ∃ b4 : Nat, R a1 1 = some b4 ∧ ∃ b5 : Nat, R a0 1 = some b5 ∧ K b4 = 14 ∧ K b5 = 14 ∧ mcp_ok 0 0 40 (N b4) (N b5) ∧ ∀ I9 : MI, I9 = mcp I3 b4 (ix 0) b5 (ix 0) (ix 40) → ∃ b10 : Nat, R a1 2 = some b10 ∧ ∃ b11 : Nat, R a0 2 = some b11 ∧ K b10 = 14 ∧ K b11 = 14 ∧ mcp_ok 0 0 40 (N b10) (N b11) ∧ ∀ I15 : MI, I15 = mcp I9 b10 (ix 0) b11 (ix 0) (ix 40) → ∃ b16 : Nat, R a1 3 = some b16 ∧ ∃ b17 : Nat, R a0 3 = some b17 ∧ K b16 = 14 ∧ K b17 = 14 ∧ mcp_ok 0 0 40 (N b16) (N b17) ∧ ∀ I21 : MI, I21 = mcp I15 b16 (ix 0) b17 (ix 0) (ix 40) → Q I21
set_option maxHeartbeats 4000000 in
set_option maxRecDepth 100000 in
theorem c_X5_copyFrom  (l : Launch) (G : ZG) (a0 : Nat) (a1 : Nat) (K : MK) (N : MK) (I : MI) (L : ML) (R : MR) (Q : MI → Prop) (h : w_X5_copyFrom a0 a1 K N I L R Q) : Met l yX5_copyFrom (.code yX5_copyFrom cX5_copyFrom 2 none :: z_tbl) rm_X5_copyFrom (z_Pc G [.ref a0, .ref a1] K N I L R) (z_Qc G (qIv K N L R Q)) 0 0 (z_A G) := by
  refine z_met (by decide) (Nat.le_of_ble_eq_true rfl) (fun X hX hRm hC0 hnm => ?_)
  subst hX
  have hC : ZOk X G RX5 cX5_copyFrom 2 none := hC0
  show Z X G 2 0 0 _ K N I L R 0 [(0, .ref a0), (1, .ref a1)] []
  delta w_X5_copyFrom at h
  refine z_aload_n hC (q := 0) dX5_copyFrom_0 rfl rfl ?_
  refine z_aload_n hC (q := 1) dX5_copyFrom_1 rfl rfl ?_
  obtain ⟨hk1, h⟩ := h
  refine gf_RX5_9 hC dX5_copyFrom_2 hk1 ?_
  obtain ⟨hk2, h⟩ := h
  refine pf_RX5_9 hC dX5_copyFrom_5 hk2 ?_
  refine z_genI (fun I3 eI3 => ?_)
  have h := h I3 eI3
  refine z_aload_n hC (q := 1) dX5_copyFrom_8 rfl rfl ?_
  obtain ⟨b4, hb4, h⟩ := h
  refine gf_RX5_15 hC dX5_copyFrom_9 hk1 hb4 ?_
  refine z_iconst hC (v := 0) k_iconst_0 dX5_copyFrom_12 ?_
  refine z_aload_n hC (q := 0) dX5_copyFrom_13 rfl rfl ?_
  obtain ⟨b5, hb5, h⟩ := h
  refine gf_RX5_15 hC dX5_copyFrom_14 hk2 hb5 ?_
  refine z_iconst hC (v := 0) k_iconst_0 dX5_copyFrom_17 ?_
  refine z_bipush hC (v := 40) k_bipush_40 dX5_copyFrom_18 ?_
  obtain ⟨hk6, h⟩ := h
  obtain ⟨hk7, h⟩ := h
  obtain ⟨hcp8, h⟩ := h
  refine z_copy14 hC ml_RX5_32 dX5_copyFrom_20 hk6 hk7 hcp8 (by rw [hRm]; exact ⟨Nat.le_of_ble_eq_true rfl, Nat.le_of_ble_eq_true rfl⟩) (Nat.le_of_ble_eq_true rfl) ?_
  refine z_genI (fun I9 eI9 => ?_)
  have h := h I9 eI9
  refine z_aload_n hC (q := 1) dX5_copyFrom_23 rfl rfl ?_
  obtain ⟨b10, hb10, h⟩ := h
  refine gf_RX5_19 hC dX5_copyFrom_24 hk1 hb10 ?_
  refine z_iconst hC (v := 0) k_iconst_0 dX5_copyFrom_27 ?_
  refine z_aload_n hC (q := 0) dX5_copyFrom_28 rfl rfl ?_
  obtain ⟨b11, hb11, h⟩ := h
  refine gf_RX5_19 hC dX5_copyFrom_29 hk2 hb11 ?_
  refine z_iconst hC (v := 0) k_iconst_0 dX5_copyFrom_32 ?_
  refine z_bipush hC (v := 40) k_bipush_40 dX5_copyFrom_33 ?_
  obtain ⟨hk12, h⟩ := h
  obtain ⟨hk13, h⟩ := h
  obtain ⟨hcp14, h⟩ := h
  refine z_copy14 hC ml_RX5_32 dX5_copyFrom_35 hk12 hk13 hcp14 (by rw [hRm]; exact ⟨Nat.le_of_ble_eq_true rfl, Nat.le_of_ble_eq_true rfl⟩) (Nat.le_of_ble_eq_true rfl) ?_
  refine z_genI (fun I15 eI15 => ?_)
  have h := h I15 eI15
  refine z_aload_n hC (q := 1) dX5_copyFrom_38 rfl rfl ?_
  obtain ⟨b16, hb16, h⟩ := h
  refine gf_RX5_22 hC dX5_copyFrom_39 hk1 hb16 ?_
  refine z_iconst hC (v := 0) k_iconst_0 dX5_copyFrom_42 ?_
  refine z_aload_n hC (q := 0) dX5_copyFrom_43 rfl rfl ?_
  obtain ⟨b17, hb17, h⟩ := h
  refine gf_RX5_22 hC dX5_copyFrom_44 hk2 hb17 ?_
  refine z_iconst hC (v := 0) k_iconst_0 dX5_copyFrom_47 ?_
  refine z_bipush hC (v := 40) k_bipush_40 dX5_copyFrom_48 ?_
  obtain ⟨hk18, h⟩ := h
  obtain ⟨hk19, h⟩ := h
  obtain ⟨hcp20, h⟩ := h
  refine z_copy14 hC ml_RX5_32 dX5_copyFrom_50 hk18 hk19 hcp20 (by rw [hRm]; exact ⟨Nat.le_of_ble_eq_true rfl, Nat.le_of_ble_eq_true rfl⟩) (Nat.le_of_ble_eq_true rfl) ?_
  refine z_genI (fun I21 eI21 => ?_)
  have h := h I21 eI21
  exact z_vret hC dX5_copyFrom_53 ⟨rfl, rfl, rfl, rfl, rfl, h⟩
def w_X5_add  (a0 : Nat) (a1 : Int32) (a2 : Int32) (a3 : Int32) (K : MK) (N : MK) (I : MI) (L : ML) (R : MR) (Q : MI → Prop) : Prop := K a0 = 6 ∧ ((40 : Int32) ≤ (I a0 0) → Q I) ∧ (¬ (40 : Int32) ≤ (I a0 0) → ∃ b2 : Nat, R a0 1 = some b2 ∧ K b2 = 14 ∧ vp_in (I a0 0) (N b2) ∧ ∀ I5 : MI, I5 = mup I b2 (ix (I a0 0)) a1 → ∃ b6 : Nat, R a0 2 = some b6 ∧ K b6 = 14 ∧ vp_in (I5 a0 0) (N b6) ∧ ∀ I9 : MI, I9 = mup I5 b6 (ix (I5 a0 0)) a2 → ∃ b10 : Nat, R a0 3 = some b10 ∧ K b10 = 14 ∧ vp_in (I9 a0 0) (N b10) ∧ ∀ I13 : MI, I13 = mup I9 b10 (ix (I9 a0 0)) a3 → ∀ I14 : MI, I14 = mup I13 a0 0 ((I13 a0 0) + 1) → Q I14)
set_option maxHeartbeats 4000000 in
set_option maxRecDepth 100000 in
theorem c_X5_add  (l : Launch) (G : ZG) (a0 : Nat) (a1 : Int32) (a2 : Int32) (a3 : Int32) (K : MK) (N : MK) (I : MI) (L : ML) (R : MR) (Q : MI → Prop) (h : w_X5_add a0 a1 a2 a3 K N I L R Q) : Met l yX5_add (.code yX5_add cX5_add 4 none :: z_tbl) rm_X5_add (z_Pc G [.ref a0, .int a1, .int a2, .int a3] K N I L R) (z_Qc G (qIv K N L R Q)) 0 0 (z_A G) := by
  refine z_met (by decide) (Nat.le_of_ble_eq_true rfl) (fun X hX hRm hC0 hnm => ?_)
  subst hX
  have hC : ZOk X G RX5 cX5_add 4 none := hC0
  show Z X G 4 0 0 _ K N I L R 0 [(0, .ref a0), (1, .int a1), (2, .int a2), (3, .int a3)] []
  delta w_X5_add at h
  refine z_aload_n hC (q := 0) dX5_add_0 rfl rfl ?_
  obtain ⟨hk1, h⟩ := h
  refine gf_RX5_9 hC dX5_add_1 hk1 ?_
  refine z_bipush hC (v := 40) k_bipush_40 dX5_add_4 ?_
  refine z_icmp_ge hC (tgt := 49) dX5_add_6 (by decide) (fun hc => ?_) (fun hc => ?_)
  · have h := h.1 hc
    exact z_vret hC dX5_add_49 ⟨rfl, rfl, rfl, rfl, rfl, h⟩
  · have h := h.2 hc
    refine z_aload_n hC (q := 0) dX5_add_9 rfl rfl ?_
    obtain ⟨b2, hb2, h⟩ := h
    refine gf_RX5_15 hC dX5_add_10 hk1 hb2 ?_
    refine z_aload_n hC (q := 0) dX5_add_13 rfl rfl ?_
    refine gf_RX5_9 hC dX5_add_14 hk1 ?_
    refine z_iload_n hC (q := 1) dX5_add_17 rfl rfl ?_
    obtain ⟨hk3, h⟩ := h
    obtain ⟨hi4, h⟩ := h
    refine z_iastore hC hk3 hi4 dX5_add_18 ?_
    refine z_genI (fun I5 eI5 => ?_)
    have h := h I5 eI5
    refine z_aload_n hC (q := 0) dX5_add_19 rfl rfl ?_
    obtain ⟨b6, hb6, h⟩ := h
    refine gf_RX5_19 hC dX5_add_20 hk1 hb6 ?_
    refine z_aload_n hC (q := 0) dX5_add_23 rfl rfl ?_
    refine gf_RX5_9 hC dX5_add_24 hk1 ?_
    refine z_iload_n hC (q := 2) dX5_add_27 rfl rfl ?_
    obtain ⟨hk7, h⟩ := h
    obtain ⟨hi8, h⟩ := h
    refine z_iastore hC hk7 hi8 dX5_add_28 ?_
    refine z_genI (fun I9 eI9 => ?_)
    have h := h I9 eI9
    refine z_aload_n hC (q := 0) dX5_add_29 rfl rfl ?_
    obtain ⟨b10, hb10, h⟩ := h
    refine gf_RX5_22 hC dX5_add_30 hk1 hb10 ?_
    refine z_aload_n hC (q := 0) dX5_add_33 rfl rfl ?_
    refine gf_RX5_9 hC dX5_add_34 hk1 ?_
    refine z_iload_n hC (q := 3) dX5_add_37 rfl rfl ?_
    obtain ⟨hk11, h⟩ := h
    obtain ⟨hi12, h⟩ := h
    refine z_iastore hC hk11 hi12 dX5_add_38 ?_
    refine z_genI (fun I13 eI13 => ?_)
    have h := h I13 eI13
    refine z_aload_n hC (q := 0) dX5_add_39 rfl rfl ?_
    refine z_dup hC rfl dX5_add_40 ?_
    refine gf_RX5_9 hC dX5_add_41 hk1 ?_
    refine z_iconst hC (v := 1) k_iconst_1 dX5_add_44 ?_
    refine z_iadd hC dX5_add_45 ?_
    refine pf_RX5_9 hC dX5_add_46 hk1 ?_
    refine z_genI (fun I14 eI14 => ?_)
    have h := h I14 eI14
    exact z_vret hC dX5_add_49 ⟨rfl, rfl, rfl, rfl, rfl, h⟩
def w_X5_pop  (a0 : Nat) (K : MK) (N : MK) (I : MI) (L : ML) (R : MR) (Q : Bool → MI → Prop) : Prop := K a0 = 6 ∧ ((0 : Int32) < (I a0 5) → ∀ I2 : MI, I2 = mup I a0 5 ((I a0 5) - 1) → ∃ b3 : Nat, R a0 4 = some b3 ∧ K b3 = 16 ∧ vp_in (I2 a0 5) (N b3) ∧ ∃ b6 : Bool, (I2 b3 (ix (I2 a0 5))) = bi b6 ∧ Q b6 I2) ∧ (¬ (0 : Int32) < (I a0 5) → Q false I)
set_option maxHeartbeats 4000000 in
set_option maxRecDepth 100000 in
theorem c_X5_pop  (l : Launch) (G : ZG) (a0 : Nat) (K : MK) (N : MK) (I : MI) (L : ML) (R : MR) (Q : Bool → MI → Prop) (h : w_X5_pop a0 K N I L R Q) : Met l yX5_pop (.code yX5_pop cX5_pop 1 (some .boolean) :: z_tbl) rm_X5_pop (z_Pc G [.ref a0] K N I L R) (z_Qc G (qIz K N L R Q)) 0 0 (z_A G) := by
  refine z_met (by decide) (Nat.le_of_ble_eq_true rfl) (fun X hX hRm hC0 hnm => ?_)
  subst hX
  have hC : ZOk X G RX5 cX5_pop 1 (some .boolean) := hC0
  show Z X G 1 0 0 _ K N I L R 0 [(0, .ref a0)] []
  delta w_X5_pop at h
  refine z_aload_n hC (q := 0) dX5_pop_0 rfl rfl ?_
  obtain ⟨hk1, h⟩ := h
  refine gf_RX5_29 hC dX5_pop_1 hk1 ?_
  refine z_if_gt hC (tgt := 9) dX5_pop_4 (by decide) (fun hc => ?_) (fun hc => ?_)
  · have h := h.1 hc
    refine z_aload_n hC (q := 0) dX5_pop_9 rfl rfl ?_
    refine z_dup hC rfl dX5_pop_10 ?_
    refine gf_RX5_29 hC dX5_pop_11 hk1 ?_
    refine z_iconst hC (v := 1) k_iconst_1 dX5_pop_14 ?_
    refine z_isub hC dX5_pop_15 ?_
    refine pf_RX5_29 hC dX5_pop_16 hk1 ?_
    refine z_genI (fun I2 eI2 => ?_)
    have h := h I2 eI2
    refine z_aload_n hC (q := 0) dX5_pop_19 rfl rfl ?_
    obtain ⟨b3, hb3, h⟩ := h
    refine gf_RX5_25 hC dX5_pop_20 hk1 hb3 ?_
    refine z_aload_n hC (q := 0) dX5_pop_23 rfl rfl ?_
    refine gf_RX5_29 hC dX5_pop_24 hk1 ?_
    obtain ⟨hk4, h⟩ := h
    obtain ⟨hi5, h⟩ := h
    refine z_zaload hC hk4 hi5 dX5_pop_27 ?_
    obtain ⟨b6, hxb6, h⟩ := h
    exact z_zret (b := b6) hC dX5_pop_28 hxb6 ⟨b6, rfl, rfl, rfl, rfl, rfl, h⟩
  · have h := h.2 hc
    refine z_iconst hC (v := 0) k_iconst_0 dX5_pop_7 ?_
    exact z_zret (b := false) hC dX5_pop_8 rfl ⟨false, rfl, rfl, rfl, rfl, rfl, h⟩
def w_X5_push  (a0 : Nat) (a1 : Bool) (K : MK) (N : MK) (I : MI) (L : ML) (R : MR) (Q : MI → Prop) : Prop := K a0 = 6 ∧ ((40 : Int32) ≤ (I a0 5) → Q I) ∧ (¬ (40 : Int32) ≤ (I a0 5) → ∃ b2 : Nat, R a0 4 = some b2 ∧ K b2 = 16 ∧ vp_in (I a0 5) (N b2) ∧ ∀ I5 : MI, I5 = mup I b2 (ix (I a0 5)) (vp_nar .boolean (bi a1)) → ∀ I6 : MI, I6 = mup I5 a0 5 ((I5 a0 5) + 1) → Q I6)
set_option maxHeartbeats 4000000 in
set_option maxRecDepth 100000 in
theorem c_X5_push  (l : Launch) (G : ZG) (a0 : Nat) (a1 : Bool) (K : MK) (N : MK) (I : MI) (L : ML) (R : MR) (Q : MI → Prop) (h : w_X5_push a0 a1 K N I L R Q) : Met l yX5_push (.code yX5_push cX5_push 2 none :: z_tbl) rm_X5_push (z_Pc G [.ref a0, .int (bi a1)] K N I L R) (z_Qc G (qIv K N L R Q)) 0 0 (z_A G) := by
  refine z_met (by decide) (Nat.le_of_ble_eq_true rfl) (fun X hX hRm hC0 hnm => ?_)
  subst hX
  have hC : ZOk X G RX5 cX5_push 2 none := hC0
  show Z X G 2 0 0 _ K N I L R 0 [(0, .ref a0), (1, .int (bi a1))] []
  delta w_X5_push at h
  refine z_aload_n hC (q := 0) dX5_push_0 rfl rfl ?_
  obtain ⟨hk1, h⟩ := h
  refine gf_RX5_29 hC dX5_push_1 hk1 ?_
  refine z_bipush hC (v := 40) k_bipush_40 dX5_push_4 ?_
  refine z_icmp_ge hC (tgt := 29) dX5_push_6 (by decide) (fun hc => ?_) (fun hc => ?_)
  · have h := h.1 hc
    exact z_vret hC dX5_push_29 ⟨rfl, rfl, rfl, rfl, rfl, h⟩
  · have h := h.2 hc
    refine z_aload_n hC (q := 0) dX5_push_9 rfl rfl ?_
    obtain ⟨b2, hb2, h⟩ := h
    refine gf_RX5_25 hC dX5_push_10 hk1 hb2 ?_
    refine z_aload_n hC (q := 0) dX5_push_13 rfl rfl ?_
    refine gf_RX5_29 hC dX5_push_14 hk1 ?_
    refine z_iload_n hC (q := 1) dX5_push_17 rfl rfl ?_
    obtain ⟨hk3, h⟩ := h
    obtain ⟨hi4, h⟩ := h
    refine z_zastore hC hk3 hi4 dX5_push_18 ?_
    refine z_genI (fun I5 eI5 => ?_)
    have h := h I5 eI5
    refine z_aload_n hC (q := 0) dX5_push_19 rfl rfl ?_
    refine z_dup hC rfl dX5_push_20 ?_
    refine gf_RX5_29 hC dX5_push_21 hk1 ?_
    refine z_iconst hC (v := 1) k_iconst_1 dX5_push_24 ?_
    refine z_iadd hC dX5_push_25 ?_
    refine pf_RX5_29 hC dX5_push_26 hk1 ?_
    refine z_genI (fun I6 eI6 => ?_)
    have h := h I6 eI6
    exact z_vret hC dX5_push_29 ⟨rfl, rfl, rfl, rfl, rfl, h⟩
def w_X9_isWithin_5  (x0 : Nat) (x1 : Int32) (x2 : Int32) (x3 : Int32) (x4 : Int32)  (K : MK) (N : MK) (I : MI) (L : ML) (R : MR)  (Q : Bool → Prop) : Prop := ∃ J : Nat → Nat → Int32 → Int32 → Int32 → Int32 → Prop, (∃ n, J n x0 x1 x2 x3 x4) ∧ ∀ (n : Nat) (x0 : Nat) (x1 : Int32) (x2 : Int32) (x3 : Int32) (x4 : Int32), J n x0 x1 x2 x3 x4 → ((10 : Int32) ≤ x4 → Q false) ∧ (¬ (10 : Int32) ≤ x4 → (x3 = (-1) → Q false) ∧ (¬ x3 = (-1) → (¬ x3 = x2 → K x0 = 10 ∧ ∃ b2 : Nat, R x0 2 = some b2 ∧ K b2 = 8 ∧ w_X7_at b2 x1 0 K N I L R (fun r4 => w_X9_scopeBehind x0 r4 x3 K N I L R (fun r5 => ∀ v6 : Int32, v6 = x4 + 1 → ∃ n1, n1 < n ∧ J n1 x0 x1 x2 r5 v6))) ∧ (x3 = x2 → Q true)))
def w_X9_isWithin  (a0 : Nat) (a1 : Int32) (a2 : Int32) (K : MK) (N : MK) (I : MI) (L : ML) (R : MR) (Q : Bool → Prop) : Prop := w_X9_isWithin_5 a0 a1 a2 a1 0 K N I L R Q
set_option maxHeartbeats 4000000 in
set_option maxRecDepth 100000 in
theorem z_X9_isWithin_5 {X : ZX} {G : ZG}  {x0 : Nat} {x1 : Int32} {x2 : Int32} {x3 : Int32} {x4 : Int32}  {K : MK} {N : MK} {I : MI} {L : ML} {R : MR}  {Q : Bool → Prop} (hC : ZOk X G RX9 cX9_isWithin 5 (some .boolean)) (hRm : X.2.2.2.1 = rm_X9_isWithin) (h : w_X9_isWithin_5 x0 x1 x2 x3 x4 K N I L R  Q) : Z X G 5 0 0 (z_T X G (qPz K N I L R Q) 0 0) K N I L R 5 [(0, .ref x0), (1, .int x1), (2, .int x2), (3, .int x3), (4, .int x4)] [] := by
  delta w_X9_isWithin_5 at h
  obtain ⟨J, ⟨n, h0⟩, hs⟩ := h
  have key : ∀ (n : Nat) (x0 : Nat) (x1 : Int32) (x2 : Int32) (x3 : Int32) (x4 : Int32), J n x0 x1 x2 x3 x4 → Z X G 5 0 0 (z_T X G (qPz K N I L R Q) 0 0) K N I L R 5 [(0, .ref x0), (1, .int x1), (2, .int x2), (3, .int x3), (4, .int x4)] [] := by
    intro n
    induction n using Nat.strongRecOn with
    | _ n ih =>
      intro x0 x1 x2 x3 x4 hJ
      have hC5 : ∀ (y0 : Nat) (y1 : Int32) (y2 : Int32) (y3 : Int32) (y4 : Int32) , (∃ n1, n1 < n ∧ J n1 y0 y1 y2 y3 y4) → Z X G 5 0 0 (z_T X G (qPz K N I L R Q) 0 0) K N I L R 5 [(0, .ref y0), (1, .int y1), (2, .int y2), (3, .int y3), (4, .int y4)] [] := fun y0 y1 y2 y3 y4 ⟨n1, hn1, hj⟩ => ih n1 hn1 y0 y1 y2 y3 y4 hj
      have h := hs n x0 x1 x2 x3 x4 hJ
      refine z_iload hC (q := 4) dX9_isWithin_5 rfl ?_
      refine z_bipush hC (v := 10) k_bipush_10 dX9_isWithin_7 ?_
      refine z_icmp_ge hC (tgt := 45) dX9_isWithin_9 (by decide) (fun hc => ?_) (fun hc => ?_)
      · have h := h.1 hc
        refine z_iconst hC (v := 0) k_iconst_0 dX9_isWithin_45 ?_
        exact z_zret (b := false) hC dX9_isWithin_46 rfl ⟨false, rfl, rfl, rfl, rfl, rfl, rfl, h⟩
      · have h := h.2 hc
        refine z_iload_n hC (q := 3) dX9_isWithin_12 rfl rfl ?_
        refine z_iconst hC (v := (-1)) k_iconst_m1 dX9_isWithin_13 ?_
        refine z_icmp_eq hC (tgt := 45) dX9_isWithin_14 (by decide) (fun hc => ?_) (fun hc => ?_)
        · have h := h.1 hc
          refine z_iconst hC (v := 0) k_iconst_0 dX9_isWithin_45 ?_
          exact z_zret (b := false) hC dX9_isWithin_46 rfl ⟨false, rfl, rfl, rfl, rfl, rfl, rfl, h⟩
        · have h := h.2 hc
          refine z_iload_n hC (q := 3) dX9_isWithin_17 rfl rfl ?_
          refine z_iload_n hC (q := 2) dX9_isWithin_18 rfl rfl ?_
          refine z_icmp_ne hC (tgt := 24) dX9_isWithin_19 (by decide) (fun hc => ?_) (fun hc => ?_)
          · have h := h.1 hc
            refine z_aload_n hC (q := 0) dX9_isWithin_24 rfl rfl ?_
            refine z_aload_n hC (q := 0) dX9_isWithin_25 rfl rfl ?_
            obtain ⟨hk1, h⟩ := h
            obtain ⟨b2, hb2, h⟩ := h
            refine gf_RX9_24 hC dX9_isWithin_26 hk1 hb2 ?_
            refine z_iload_n hC (q := 1) dX9_isWithin_29 rfl rfl ?_
            refine z_iconst hC (v := 0) k_iconst_0 dX9_isWithin_30 ?_
            obtain ⟨hk3, h⟩ := h
            refine cl_RX9_53 hC (c_X7_at _ G b2 x1 0 K N I L R _ h) hk3 dX9_isWithin_31 (by rw [hRm]; exact ⟨Nat.le_of_ble_eq_true rfl, Nat.le_of_ble_eq_true rfl⟩) ⟨Nat.zero_le _, Nat.zero_le _⟩ (Nat.le_of_ble_eq_true rfl) (z_kPi (fun r4 h => ?_))
            refine z_iload_n hC (q := 3) dX9_isWithin_34 rfl rfl ?_
            refine cl_RX9_79 hC (c_X9_scopeBehind _ G x0 r4 x3 K N I L R _ h) hk1 dX9_isWithin_35 (by rw [hRm]; exact ⟨Nat.le_of_ble_eq_true rfl, Nat.le_of_ble_eq_true rfl⟩) ⟨Nat.zero_le _, Nat.zero_le _⟩ (Nat.le_of_ble_eq_true rfl) (z_kPi (fun r5 h => ?_))
            refine z_istore_n hC (lv1 := [(3, .int r5), (0, .ref x0), (1, .int x1), (2, .int x2), (4, .int x4)]) dX9_isWithin_38 rfl (by decide) rfl ?_
            obtain ⟨v6, ev6⟩ : ∃ y : Int32, y = x4 + 1 := ⟨_, rfl⟩
            have h := h v6 ev6
            refine z_iinc hC (q := 4) (v := v6) (lv1 := [(4, .int v6), (3, .int r5), (0, .ref x0), (1, .int x1), (2, .int x2)]) dX9_isWithin_39 rfl (by rw [ev6, k_iinc_1]) (by decide) rfl ?_
            refine z_goto hC (tgt := 5) dX9_isWithin_42 (by decide) ?_
            exact z_sub [(0, .ref x0), (1, .int x1), (2, .int x2), (3, .int r5), (4, .int v6)] [2, 3, 4, 1, 0] rfl (hC5 _ _ _ _ _ h)
          · have h := h.2 hc
            refine z_iconst hC (v := 1) k_iconst_1 dX9_isWithin_22 ?_
            exact z_zret (b := true) hC dX9_isWithin_23 rfl ⟨true, rfl, rfl, rfl, rfl, rfl, rfl, h⟩
  exact key n x0 x1 x2 x3 x4 h0
set_option maxHeartbeats 4000000 in
set_option maxRecDepth 100000 in
theorem c_X9_isWithin  (l : Launch) (G : ZG) (a0 : Nat) (a1 : Int32) (a2 : Int32) (K : MK) (N : MK) (I : MI) (L : ML) (R : MR) (Q : Bool → Prop) (h : w_X9_isWithin a0 a1 a2 K N I L R Q) : Met l yX9_isWithin (.code yX9_isWithin cX9_isWithin 5 (some .boolean) :: z_tbl) rm_X9_isWithin (z_Pc G [.ref a0, .int a1, .int a2] K N I L R) (z_Qc G (qPz K N I L R Q)) 0 0 (z_A G) := by
  refine z_met (by decide) (Nat.le_of_ble_eq_true rfl) (fun X hX hRm hC0 hnm => ?_)
  subst hX
  have hC : ZOk X G RX9 cX9_isWithin 5 (some .boolean) := hC0
  show Z X G 5 0 0 _ K N I L R 0 [(0, .ref a0), (1, .int a1), (2, .int a2)] []
  delta w_X9_isWithin at h
  refine z_iload_n hC (q := 1) dX9_isWithin_0 rfl rfl ?_
  refine z_istore_n hC (lv1 := [(3, .int a1), (0, .ref a0), (1, .int a1), (2, .int a2)]) dX9_isWithin_1 rfl (by decide) rfl ?_
  refine z_iconst hC (v := 0) k_iconst_0 dX9_isWithin_2 ?_
  refine z_istore hC (lv1 := [(4, .int 0), (3, .int a1), (0, .ref a0), (1, .int a1), (2, .int a2)]) dX9_isWithin_3 (by decide) rfl ?_
  exact z_sub [(0, .ref a0), (1, .int a1), (2, .int a2), (3, .int a1), (4, .int 0)] [2, 3, 4, 1, 0] rfl (z_X9_isWithin_5 hC hRm h)
def w_X5_isSo  (a0 : Nat) (a1 : Int32) (a2 : Int32) (K : MK) (N : MK) (I : MI) (L : ML) (R : MR) (Q : Bool → Prop) : Prop := K a0 = 6 ∧ ∃ b2 : Nat, R a0 2 = some b2 ∧ K b2 = 14 ∧ vp_in a2 (N b2) ∧ (¬ (I b2 (ix a2)) = 60 → (¬ (I b2 (ix a2)) = 62 → ∃ b5 : Nat, R a0 3 = some b5 ∧ K b5 = 14 ∧ vp_in a2 (N b5) ∧ (¬ a1 = (I b5 (ix a2)) → Q false) ∧ (a1 = (I b5 (ix a2)) → Q true)) ∧ ((I b2 (ix a2)) = 62 → ∃ b8 : Nat, R a0 3 = some b8 ∧ K b8 = 14 ∧ vp_in a2 (N b8) ∧ (a1 ≤ (I b8 (ix a2)) → Q false) ∧ (¬ a1 ≤ (I b8 (ix a2)) → Q true))) ∧ ((I b2 (ix a2)) = 60 → ∃ b11 : Nat, R a0 3 = some b11 ∧ K b11 = 14 ∧ vp_in a2 (N b11) ∧ ((I b11 (ix a2)) ≤ a1 → Q false) ∧ (¬ (I b11 (ix a2)) ≤ a1 → Q true))
set_option maxHeartbeats 4000000 in
set_option maxRecDepth 100000 in
theorem c_X5_isSo  (l : Launch) (G : ZG) (a0 : Nat) (a1 : Int32) (a2 : Int32) (K : MK) (N : MK) (I : MI) (L : ML) (R : MR) (Q : Bool → Prop) (h : w_X5_isSo a0 a1 a2 K N I L R Q) : Met l yX5_isSo (.code yX5_isSo cX5_isSo 3 (some .boolean) :: z_tbl) rm_X5_isSo (z_Pc G [.ref a0, .int a1, .int a2] K N I L R) (z_Qc G (qPz K N I L R Q)) 0 0 (z_A G) := by
  refine z_met (by decide) (Nat.le_of_ble_eq_true rfl) (fun X hX hRm hC0 hnm => ?_)
  subst hX
  have hC : ZOk X G RX5 cX5_isSo 3 (some .boolean) := hC0
  show Z X G 3 0 0 _ K N I L R 0 [(0, .ref a0), (1, .int a1), (2, .int a2)] []
  delta w_X5_isSo at h
  refine z_aload_n hC (q := 0) dX5_isSo_0 rfl rfl ?_
  obtain ⟨hk1, h⟩ := h
  obtain ⟨b2, hb2, h⟩ := h
  refine gf_RX5_19 hC dX5_isSo_1 hk1 hb2 ?_
  refine z_iload_n hC (q := 2) dX5_isSo_4 rfl rfl ?_
  obtain ⟨hk3, h⟩ := h
  obtain ⟨hi4, h⟩ := h
  refine z_iaload hC hk3 hi4 dX5_isSo_5 ?_
  refine z_bipush hC (v := 60) k_bipush_60 dX5_isSo_6 ?_
  refine z_icmp_ne hC (tgt := 27) dX5_isSo_8 (by decide) (fun hc => ?_) (fun hc => ?_)
  · have h := h.1 hc
    refine z_aload_n hC (q := 0) dX5_isSo_27 rfl rfl ?_
    refine gf_RX5_19 hC dX5_isSo_28 hk1 hb2 ?_
    refine z_iload_n hC (q := 2) dX5_isSo_31 rfl rfl ?_
    refine z_iaload hC hk3 hi4 dX5_isSo_32 ?_
    refine z_bipush hC (v := 62) k_bipush_62 dX5_isSo_33 ?_
    refine z_icmp_ne hC (tgt := 56) dX5_isSo_35 (by decide) (fun hc => ?_) (fun hc => ?_)
    · have h := h.1 hc
      refine z_iload_n hC (q := 1) dX5_isSo_56 rfl rfl ?_
      refine z_aload_n hC (q := 0) dX5_isSo_57 rfl rfl ?_
      obtain ⟨b5, hb5, h⟩ := h
      refine gf_RX5_22 hC dX5_isSo_58 hk1 hb5 ?_
      refine z_iload_n hC (q := 2) dX5_isSo_61 rfl rfl ?_
      obtain ⟨hk6, h⟩ := h
      obtain ⟨hi7, h⟩ := h
      refine z_iaload hC hk6 hi7 dX5_isSo_62 ?_
      refine z_icmp_ne hC (tgt := 70) dX5_isSo_63 (by decide) (fun hc => ?_) (fun hc => ?_)
      · have h := h.1 hc
        refine z_iconst hC (v := 0) k_iconst_0 dX5_isSo_70 ?_
        exact z_zret (b := false) hC dX5_isSo_71 rfl ⟨false, rfl, rfl, rfl, rfl, rfl, rfl, h⟩
      · have h := h.2 hc
        refine z_iconst hC (v := 1) k_iconst_1 dX5_isSo_66 ?_
        refine z_goto hC (tgt := 71) dX5_isSo_67 (by decide) ?_
        exact z_zret (b := true) hC dX5_isSo_71 rfl ⟨true, rfl, rfl, rfl, rfl, rfl, rfl, h⟩
    · have h := h.2 hc
      refine z_iload_n hC (q := 1) dX5_isSo_38 rfl rfl ?_
      refine z_aload_n hC (q := 0) dX5_isSo_39 rfl rfl ?_
      obtain ⟨b8, hb8, h⟩ := h
      refine gf_RX5_22 hC dX5_isSo_40 hk1 hb8 ?_
      refine z_iload_n hC (q := 2) dX5_isSo_43 rfl rfl ?_
      obtain ⟨hk9, h⟩ := h
      obtain ⟨hi10, h⟩ := h
      refine z_iaload hC hk9 hi10 dX5_isSo_44 ?_
      refine z_icmp_le hC (tgt := 52) dX5_isSo_45 (by decide) (fun hc => ?_) (fun hc => ?_)
      · have h := h.1 hc
        refine z_iconst hC (v := 0) k_iconst_0 dX5_isSo_52 ?_
        refine z_goto hC (tgt := 71) dX5_isSo_53 (by decide) ?_
        exact z_zret (b := false) hC dX5_isSo_71 rfl ⟨false, rfl, rfl, rfl, rfl, rfl, rfl, h⟩
      · have h := h.2 hc
        refine z_iconst hC (v := 1) k_iconst_1 dX5_isSo_48 ?_
        refine z_goto hC (tgt := 71) dX5_isSo_49 (by decide) ?_
        exact z_zret (b := true) hC dX5_isSo_71 rfl ⟨true, rfl, rfl, rfl, rfl, rfl, rfl, h⟩
  · have h := h.2 hc
    refine z_iload_n hC (q := 1) dX5_isSo_11 rfl rfl ?_
    refine z_aload_n hC (q := 0) dX5_isSo_12 rfl rfl ?_
    obtain ⟨b11, hb11, h⟩ := h
    refine gf_RX5_22 hC dX5_isSo_13 hk1 hb11 ?_
    refine z_iload_n hC (q := 2) dX5_isSo_16 rfl rfl ?_
    obtain ⟨hk12, h⟩ := h
    obtain ⟨hi13, h⟩ := h
    refine z_iaload hC hk12 hi13 dX5_isSo_17 ?_
    refine z_icmp_ge hC (tgt := 25) dX5_isSo_18 (by decide) (fun hc => ?_) (fun hc => ?_)
    · have h := h.1 hc
      refine z_iconst hC (v := 0) k_iconst_0 dX5_isSo_25 ?_
      exact z_zret (b := false) hC dX5_isSo_26 rfl ⟨false, rfl, rfl, rfl, rfl, rfl, rfl, h⟩
    · have h := h.2 hc
      refine z_iconst hC (v := 1) k_iconst_1 dX5_isSo_21 ?_
      refine z_goto hC (tgt := 26) dX5_isSo_22 (by decide) ?_
      exact z_zret (b := true) hC dX5_isSo_26 rfl ⟨true, rfl, rfl, rfl, rfl, rfl, rfl, h⟩
def w_X9_placesOf_4  (x0 : Nat) (x1 : Int32) (x2 : Int32) (x3 : Int32)  (K : MK) (N : MK) (I : MI) (L : ML) (R : MR)  (Q : Int32 → Prop) : Prop := ∃ J : Nat → Nat → Int32 → Int32 → Int32 → Prop, (∃ n, J n x0 x1 x2 x3) ∧ ∀ (n : Nat) (x0 : Nat) (x1 : Int32) (x2 : Int32) (x3 : Int32), J n x0 x1 x2 x3 → K x0 = 10 ∧ ∃ b2 : Nat, R x0 5 = some b2 ∧ K b2 = 8 ∧ ((I b2 3) ≤ x3 → Q x2) ∧ (¬ (I b2 3) ≤ x3 → w_X7_at b2 x3 2 K N I L R (fun r4 => (¬ r4 = x1 → ∀ v5 : Int32, v5 = x3 + 1 → ∃ n1, n1 < n ∧ J n1 x0 x1 x2 v5) ∧ (r4 = x1 → ∀ v6 : Int32, v6 = x2 + 1 → ∀ v7 : Int32, v7 = x3 + 1 → ∃ n1, n1 < n ∧ J n1 x0 x1 v6 v7)))
def w_X9_placesOf  (a0 : Nat) (a1 : Int32) (K : MK) (N : MK) (I : MI) (L : ML) (R : MR) (Q : Int32 → Prop) : Prop := w_X9_placesOf_4 a0 a1 0 0 K N I L R Q
set_option maxHeartbeats 4000000 in
set_option maxRecDepth 100000 in
theorem z_X9_placesOf_4 {X : ZX} {G : ZG}  {x0 : Nat} {x1 : Int32} {x2 : Int32} {x3 : Int32}  {K : MK} {N : MK} {I : MI} {L : ML} {R : MR}  {Q : Int32 → Prop} (hC : ZOk X G RX9 cX9_placesOf 4 (some .int)) (hRm : X.2.2.2.1 = rm_X9_placesOf) (h : w_X9_placesOf_4 x0 x1 x2 x3 K N I L R  Q) : Z X G 4 0 0 (z_T X G (qPi K N I L R Q) 0 0) K N I L R 4 [(0, .ref x0), (1, .int x1), (2, .int x2), (3, .int x3)] [] := by
  delta w_X9_placesOf_4 at h
  obtain ⟨J, ⟨n, h0⟩, hs⟩ := h
  have key : ∀ (n : Nat) (x0 : Nat) (x1 : Int32) (x2 : Int32) (x3 : Int32), J n x0 x1 x2 x3 → Z X G 4 0 0 (z_T X G (qPi K N I L R Q) 0 0) K N I L R 4 [(0, .ref x0), (1, .int x1), (2, .int x2), (3, .int x3)] [] := by
    intro n
    induction n using Nat.strongRecOn with
    | _ n ih =>
      intro x0 x1 x2 x3 hJ
      have hC4 : ∀ (y0 : Nat) (y1 : Int32) (y2 : Int32) (y3 : Int32) , (∃ n1, n1 < n ∧ J n1 y0 y1 y2 y3) → Z X G 4 0 0 (z_T X G (qPi K N I L R Q) 0 0) K N I L R 4 [(0, .ref y0), (1, .int y1), (2, .int y2), (3, .int y3)] [] := fun y0 y1 y2 y3 ⟨n1, hn1, hj⟩ => ih n1 hn1 y0 y1 y2 y3 hj
      have h := hs n x0 x1 x2 x3 hJ
      refine z_iload_n hC (q := 3) dX9_placesOf_4 rfl rfl ?_
      refine z_aload_n hC (q := 0) dX9_placesOf_5 rfl rfl ?_
      obtain ⟨hk1, h⟩ := h
      obtain ⟨b2, hb2, h⟩ := h
      refine gf_RX9_33 hC dX9_placesOf_6 hk1 hb2 ?_
      obtain ⟨hk3, h⟩ := h
      refine gf_RX9_50 hC dX9_placesOf_9 hk3 ?_
      refine z_icmp_ge hC (tgt := 37) dX9_placesOf_12 (by decide) (fun hc => ?_) (fun hc => ?_)
      · have h := h.1 hc
        refine z_iload_n hC (q := 2) dX9_placesOf_37 rfl rfl ?_
        exact z_iret hC dX9_placesOf_38 ⟨_, rfl, rfl, rfl, rfl, rfl, rfl, h⟩
      · have h := h.2 hc
        refine z_aload_n hC (q := 0) dX9_placesOf_15 rfl rfl ?_
        refine gf_RX9_33 hC dX9_placesOf_16 hk1 hb2 ?_
        refine z_iload_n hC (q := 3) dX9_placesOf_19 rfl rfl ?_
        refine z_iconst hC (v := 2) k_iconst_2 dX9_placesOf_20 ?_
        refine cl_RX9_53 hC (c_X7_at _ G b2 x3 2 K N I L R _ h) hk3 dX9_placesOf_21 (by rw [hRm]; exact ⟨Nat.le_of_ble_eq_true rfl, Nat.le_of_ble_eq_true rfl⟩) ⟨Nat.zero_le _, Nat.zero_le _⟩ (Nat.le_of_ble_eq_true rfl) (z_kPi (fun r4 h => ?_))
        refine z_iload_n hC (q := 1) dX9_placesOf_24 rfl rfl ?_
        refine z_icmp_ne hC (tgt := 31) dX9_placesOf_25 (by decide) (fun hc => ?_) (fun hc => ?_)
        · have h := h.1 hc
          obtain ⟨v5, ev5⟩ : ∃ y : Int32, y = x3 + 1 := ⟨_, rfl⟩
          have h := h v5 ev5
          refine z_iinc hC (q := 3) (v := v5) (lv1 := [(3, .int v5), (0, .ref x0), (1, .int x1), (2, .int x2)]) dX9_placesOf_31 rfl (by rw [ev5, k_iinc_1]) (by decide) rfl ?_
          refine z_goto hC (tgt := 4) dX9_placesOf_34 (by decide) ?_
          exact z_sub [(0, .ref x0), (1, .int x1), (2, .int x2), (3, .int v5)] [1, 2, 3, 0] rfl (hC4 _ _ _ _ h)
        · have h := h.2 hc
          obtain ⟨v6, ev6⟩ : ∃ y : Int32, y = x2 + 1 := ⟨_, rfl⟩
          have h := h v6 ev6
          refine z_iinc hC (q := 2) (v := v6) (lv1 := [(2, .int v6), (0, .ref x0), (1, .int x1), (3, .int x3)]) dX9_placesOf_28 rfl (by rw [ev6, k_iinc_1]) (by decide) rfl ?_
          obtain ⟨v7, ev7⟩ : ∃ y : Int32, y = x3 + 1 := ⟨_, rfl⟩
          have h := h v7 ev7
          refine z_iinc hC (q := 3) (v := v7) (lv1 := [(3, .int v7), (2, .int v6), (0, .ref x0), (1, .int x1)]) dX9_placesOf_31 rfl (by rw [ev7, k_iinc_1]) (by decide) rfl ?_
          refine z_goto hC (tgt := 4) dX9_placesOf_34 (by decide) ?_
          exact z_sub [(0, .ref x0), (1, .int x1), (2, .int v6), (3, .int v7)] [2, 3, 1, 0] rfl (hC4 _ _ _ _ h)
  exact key n x0 x1 x2 x3 h0
set_option maxHeartbeats 4000000 in
set_option maxRecDepth 100000 in
theorem c_X9_placesOf  (l : Launch) (G : ZG) (a0 : Nat) (a1 : Int32) (K : MK) (N : MK) (I : MI) (L : ML) (R : MR) (Q : Int32 → Prop) (h : w_X9_placesOf a0 a1 K N I L R Q) : Met l yX9_placesOf (.code yX9_placesOf cX9_placesOf 4 (some .int) :: z_tbl) rm_X9_placesOf (z_Pc G [.ref a0, .int a1] K N I L R) (z_Qc G (qPi K N I L R Q)) 0 0 (z_A G) := by
  refine z_met (by decide) (Nat.le_of_ble_eq_true rfl) (fun X hX hRm hC0 hnm => ?_)
  subst hX
  have hC : ZOk X G RX9 cX9_placesOf 4 (some .int) := hC0
  show Z X G 4 0 0 _ K N I L R 0 [(0, .ref a0), (1, .int a1)] []
  delta w_X9_placesOf at h
  refine z_iconst hC (v := 0) k_iconst_0 dX9_placesOf_0 ?_
  refine z_istore_n hC (lv1 := [(2, .int 0), (0, .ref a0), (1, .int a1)]) dX9_placesOf_1 rfl (by decide) rfl ?_
  refine z_iconst hC (v := 0) k_iconst_0 dX9_placesOf_2 ?_
  refine z_istore_n hC (lv1 := [(3, .int 0), (2, .int 0), (0, .ref a0), (1, .int a1)]) dX9_placesOf_3 rfl (by decide) rfl ?_
  exact z_sub [(0, .ref a0), (1, .int a1), (2, .int 0), (3, .int 0)] [2, 3, 1, 0] rfl (z_X9_placesOf_4 hC hRm h)
def w_X5_isOne  (a0 : Nat) (a1 : Nat) (a2 : Nat) (a3 : Nat) (a4 : Int32) (a5 : Int32) (K : MK) (N : MK) (I : MI) (L : ML) (R : MR) (Q : Bool → MI → Prop) : Prop := K a1 = 10 ∧ ∃ b2 : Nat, R a1 4 = some b2 ∧ K b2 = 8 ∧ w_X7_at b2 a4 0 K N I L R (fun r4 => w_X7_at b2 a4 1 K N I L R (fun r5 => K a0 = 6 ∧ ∃ b7 : Nat, R a0 1 = some b7 ∧ K b7 = 14 ∧ vp_in a5 (N b7) ∧ ((I b7 (ix a5)) = 7 → ∃ b10 : Nat, R a1 3 = some b10 ∧ K b10 = 8 ∧ w_X7_at b10 r5 2 K N I L R (fun r12 => (¬ r12 = 1 → Q false I) ∧ (r12 = 1 → Q true I))) ∧ (¬ (I b7 (ix a5)) = 7 → ((I b7 (ix a5)) = 9 → K a2 = 4 ∧ K a3 = 3 ∧ w_X2_look a3 a1 a2 a4 (I a2 4) K N I L R (fun r15 I16 => (¬ r15 = 0 → Q false I16) ∧ (r15 = 0 → w_X5_isSo a0 (I16 a3 2) a5 K N I16 L R (fun r17 => (r17 = false → Q false I16) ∧ (r17 = true → Q true I16))))) ∧ (¬ (I b7 (ix a5)) = 9 → ((I b7 (ix a5)) = 28 → K a2 = 4 ∧ K a3 = 3 ∧ w_X2_look a3 a1 a2 a4 (I a2 4) K N I L R (fun r20 I21 => (¬ r20 = 0 → Q false I21) ∧ (r20 = 0 → Q true I21))) ∧ (¬ (I b7 (ix a5)) = 28 → ((I b7 (ix a5)) = 29 → K a2 = 4 ∧ w_X9_scopeHas a1 r4 (I a2 4) K N I L R (fun r23 => Q r23 I)) ∧ (¬ (I b7 (ix a5)) = 29 → ((I b7 (ix a5)) = 30 → ∃ b24 : Nat, R a0 3 = some b24 ∧ K b24 = 14 ∧ vp_in a5 (N b24) ∧ w_X9_isWithin a1 r4 (I b24 (ix a5)) K N I L R (fun r27 => Q r27 I)) ∧ (¬ (I b7 (ix a5)) = 30 → ((I b7 (ix a5)) = 31 → ∃ b28 : Nat, R a1 3 = some b28 ∧ K b28 = 8 ∧ w_X7_at b28 r5 1 K N I L R (fun r30 => w_X5_isSo a0 r30 a5 K N I L R (fun r31 => Q r31 I))) ∧ (¬ (I b7 (ix a5)) = 31 → ((I b7 (ix a5)) = 32 → w_X9_placesOf a1 a4 K N I L R (fun r32 => w_X5_isSo a0 r32 a5 K N I L R (fun r33 => Q r33 I))) ∧ (¬ (I b7 (ix a5)) = 32 → w_X5_isSo a0 a4 a5 K N I L R (fun r34 => Q r34 I))))))))))
set_option maxHeartbeats 4000000 in
set_option maxRecDepth 100000 in
theorem c_X5_isOne  (l : Launch) (G : ZG) (a0 : Nat) (a1 : Nat) (a2 : Nat) (a3 : Nat) (a4 : Int32) (a5 : Int32) (K : MK) (N : MK) (I : MI) (L : ML) (R : MR) (Q : Bool → MI → Prop) (h : w_X5_isOne a0 a1 a2 a3 a4 a5 K N I L R Q) : Met l yX5_isOne (.code yX5_isOne cX5_isOne 8 (some .boolean) :: z_tbl) rm_X5_isOne (z_Pc G [.ref a0, .ref a1, .ref a2, .ref a3, .int a4, .int a5] K N I L R) (z_Qc G (qIz K N L R Q)) 0 0 (z_A G) := by
  refine z_met (by decide) (Nat.le_of_ble_eq_true rfl) (fun X hX hRm hC0 hnm => ?_)
  subst hX
  have hC : ZOk X G RX5 cX5_isOne 8 (some .boolean) := hC0
  show Z X G 8 0 0 _ K N I L R 0 [(0, .ref a0), (1, .ref a1), (2, .ref a2), (3, .ref a3), (4, .int a4), (5, .int a5)] []
  delta w_X5_isOne at h
  refine z_aload_n hC (q := 1) dX5_isOne_0 rfl rfl ?_
  obtain ⟨hk1, h⟩ := h
  obtain ⟨b2, hb2, h⟩ := h
  refine gf_RX5_50 hC dX5_isOne_1 hk1 hb2 ?_
  refine z_iload hC (q := 4) dX5_isOne_4 rfl ?_
  refine z_iconst hC (v := 0) k_iconst_0 dX5_isOne_6 ?_
  obtain ⟨hk3, h⟩ := h
  refine cl_RX5_56 hC (c_X7_at _ G b2 a4 0 K N I L R _ h) hk3 dX5_isOne_7 (by rw [hRm]; exact ⟨Nat.le_of_ble_eq_true rfl, Nat.le_of_ble_eq_true rfl⟩) ⟨Nat.zero_le _, Nat.zero_le _⟩ (Nat.le_of_ble_eq_true rfl) (z_kPi (fun r4 h => ?_))
  refine z_istore hC (lv1 := [(6, .int r4), (0, .ref a0), (1, .ref a1), (2, .ref a2), (3, .ref a3), (4, .int a4), (5, .int a5)]) dX5_isOne_10 (by decide) rfl ?_
  refine z_aload_n hC (q := 2) dX5_isOne_12 rfl rfl ?_
  refine gf_RX5_50 hC dX5_isOne_13 hk1 hb2 ?_
  refine z_iload hC (q := 5) dX5_isOne_16 rfl ?_
  refine z_iconst hC (v := 1) k_iconst_1 dX5_isOne_18 ?_
  refine cl_RX5_56 hC (c_X7_at _ G b2 a4 1 K N I L R _ h) hk3 dX5_isOne_19 (by rw [hRm]; exact ⟨Nat.le_of_ble_eq_true rfl, Nat.le_of_ble_eq_true rfl⟩) ⟨Nat.zero_le _, Nat.zero_le _⟩ (Nat.le_of_ble_eq_true rfl) (z_kPi (fun r5 h => ?_))
  refine z_istore hC (lv1 := [(7, .int r5), (6, .int r4), (0, .ref a0), (1, .ref a1), (2, .ref a2), (3, .ref a3), (4, .int a4), (5, .int a5)]) dX5_isOne_22 (by decide) rfl ?_
  refine z_aload_n hC (q := 2) dX5_isOne_24 rfl rfl ?_
  obtain ⟨hk6, h⟩ := h
  obtain ⟨b7, hb7, h⟩ := h
  refine gf_RX5_15 hC dX5_isOne_25 hk6 hb7 ?_
  refine z_iload hC (q := 7) dX5_isOne_28 rfl ?_
  obtain ⟨hk8, h⟩ := h
  obtain ⟨hi9, h⟩ := h
  refine z_iaload hC hk8 hi9 dX5_isOne_30 ?_
  by_cases hc0 : (I b7 (ix a5)) = 7
  · have h := h.1 hc0
    refine z_lookup hC (off := 97) (tgt := 128) dX5_isOne_31 (by decide) (by rw [hc0]; decide) (by decide) ?_
    refine z_aload_n hC (q := 3) dX5_isOne_128 rfl rfl ?_
    obtain ⟨b10, hb10, h⟩ := h
    refine gf_RX5_77 hC dX5_isOne_129 hk1 hb10 ?_
    refine z_iload hC (q := 0) dX5_isOne_132 rfl ?_
    refine z_iconst hC (v := 2) k_iconst_2 dX5_isOne_134 ?_
    obtain ⟨hk11, h⟩ := h
    refine cl_RX5_56 hC (c_X7_at _ G b10 r5 2 K N I L R _ h) hk11 dX5_isOne_135 (by rw [hRm]; exact ⟨Nat.le_of_ble_eq_true rfl, Nat.le_of_ble_eq_true rfl⟩) ⟨Nat.zero_le _, Nat.zero_le _⟩ (Nat.le_of_ble_eq_true rfl) (z_kPi (fun r12 h => ?_))
    refine z_iconst hC (v := 1) k_iconst_1 dX5_isOne_138 ?_
    refine z_icmp_ne hC (tgt := 146) dX5_isOne_139 (by decide) (fun hc => ?_) (fun hc => ?_)
    · have h := h.1 hc
      refine z_iconst hC (v := 0) k_iconst_0 dX5_isOne_146 ?_
      exact z_zret (b := false) hC dX5_isOne_147 rfl ⟨false, rfl, rfl, rfl, rfl, rfl, h⟩
    · have h := h.2 hc
      refine z_iconst hC (v := 1) k_iconst_1 dX5_isOne_142 ?_
      refine z_goto hC (tgt := 147) dX5_isOne_143 (by decide) ?_
      exact z_zret (b := true) hC dX5_isOne_147 rfl ⟨true, rfl, rfl, rfl, rfl, rfl, h⟩
  · have h := h.2 hc0
    by_cases hc1 : (I b7 (ix a5)) = 9
    · have h := h.1 hc1
      refine z_lookup hC (off := 161) (tgt := 192) dX5_isOne_31 (by decide) (by rw [hc1]; decide) (by decide) ?_
      refine z_aload_n hC (q := 5) dX5_isOne_192 rfl rfl ?_
      refine z_aload_n hC (q := 3) dX5_isOne_193 rfl rfl ?_
      refine z_aload_n hC (q := 4) dX5_isOne_194 rfl rfl ?_
      refine z_iload hC (q := 6) dX5_isOne_195 rfl ?_
      refine z_aload_n hC (q := 4) dX5_isOne_197 rfl rfl ?_
      obtain ⟨hk13, h⟩ := h
      refine gf_RX5_62 hC dX5_isOne_198 hk13 ?_
      obtain ⟨hk14, h⟩ := h
      refine cl_RX5_67 hC (c_X2_look _ G a3 a1 a2 a4 (I a2 4) K N I L R _ h) hk14 dX5_isOne_201 (by rw [hRm]; exact ⟨Nat.le_of_ble_eq_true rfl, Nat.le_of_ble_eq_true rfl⟩) ⟨Nat.zero_le _, Nat.zero_le _⟩ (Nat.le_of_ble_eq_true rfl) (z_kIi (I := I) (fun r15 I16 h => ?_))
      refine z_if_ne hC (tgt := 224) dX5_isOne_204 (by decide) (fun hc => ?_) (fun hc => ?_)
      · have h := h.1 hc
        refine z_iconst hC (v := 0) k_iconst_0 dX5_isOne_224 ?_
        exact z_zret (b := false) hC dX5_isOne_225 rfl ⟨false, rfl, rfl, rfl, rfl, rfl, h⟩
      · have h := h.2 hc
        refine z_aload_n hC (q := 2) dX5_isOne_207 rfl rfl ?_
        refine z_aload_n hC (q := 5) dX5_isOne_208 rfl rfl ?_
        refine gf_RX5_90 hC dX5_isOne_209 hk14 ?_
        refine z_iload hC (q := 7) dX5_isOne_212 rfl ?_
        refine cl_RX5_83 hC (c_X5_isSo _ G a0 (I16 a3 2) a5 K N I16 L R _ h) hk6 dX5_isOne_214 (by rw [hRm]; exact ⟨Nat.le_of_ble_eq_true rfl, Nat.le_of_ble_eq_true rfl⟩) ⟨Nat.zero_le _, Nat.zero_le _⟩ (Nat.le_of_ble_eq_true rfl) (z_kPz (fun r17 h => ?_))
        refine z_ifz_eq hC (tgt := 224) dX5_isOne_217 (by decide) (fun hc => ?_) (fun hc => ?_)
        · have h := h.1 hc
          refine z_iconst hC (v := 0) k_iconst_0 dX5_isOne_224 ?_
          exact z_zret (b := false) hC dX5_isOne_225 rfl ⟨false, rfl, rfl, rfl, rfl, rfl, h⟩
        · have h := h.2 hc
          refine z_iconst hC (v := 1) k_iconst_1 dX5_isOne_220 ?_
          refine z_goto hC (tgt := 225) dX5_isOne_221 (by decide) ?_
          exact z_zret (b := true) hC dX5_isOne_225 rfl ⟨true, rfl, rfl, rfl, rfl, rfl, h⟩
    · have h := h.2 hc1
      by_cases hc2 : (I b7 (ix a5)) = 28
      · have h := h.1 hc2
        refine z_lookup hC (off := 65) (tgt := 96) dX5_isOne_31 (by decide) (by rw [hc2]; decide) (by decide) ?_
        refine z_aload_n hC (q := 5) dX5_isOne_96 rfl rfl ?_
        refine z_aload_n hC (q := 3) dX5_isOne_97 rfl rfl ?_
        refine z_aload_n hC (q := 4) dX5_isOne_98 rfl rfl ?_
        refine z_iload hC (q := 6) dX5_isOne_99 rfl ?_
        refine z_aload_n hC (q := 4) dX5_isOne_101 rfl rfl ?_
        obtain ⟨hk18, h⟩ := h
        refine gf_RX5_62 hC dX5_isOne_102 hk18 ?_
        obtain ⟨hk19, h⟩ := h
        refine cl_RX5_67 hC (c_X2_look _ G a3 a1 a2 a4 (I a2 4) K N I L R _ h) hk19 dX5_isOne_105 (by rw [hRm]; exact ⟨Nat.le_of_ble_eq_true rfl, Nat.le_of_ble_eq_true rfl⟩) ⟨Nat.zero_le _, Nat.zero_le _⟩ (Nat.le_of_ble_eq_true rfl) (z_kIi (I := I) (fun r20 I21 h => ?_))
        refine z_if_ne hC (tgt := 115) dX5_isOne_108 (by decide) (fun hc => ?_) (fun hc => ?_)
        · have h := h.1 hc
          refine z_iconst hC (v := 0) k_iconst_0 dX5_isOne_115 ?_
          exact z_zret (b := false) hC dX5_isOne_116 rfl ⟨false, rfl, rfl, rfl, rfl, rfl, h⟩
        · have h := h.2 hc
          refine z_iconst hC (v := 1) k_iconst_1 dX5_isOne_111 ?_
          refine z_goto hC (tgt := 116) dX5_isOne_112 (by decide) ?_
          exact z_zret (b := true) hC dX5_isOne_116 rfl ⟨true, rfl, rfl, rfl, rfl, rfl, h⟩
      · have h := h.2 hc2
        by_cases hc3 : (I b7 (ix a5)) = 29
        · have h := h.1 hc3
          refine z_lookup hC (off := 86) (tgt := 117) dX5_isOne_31 (by decide) (by rw [hc3]; decide) (by decide) ?_
          refine z_aload_n hC (q := 3) dX5_isOne_117 rfl rfl ?_
          refine z_iload hC (q := 1) dX5_isOne_118 rfl ?_
          refine z_aload_n hC (q := 4) dX5_isOne_120 rfl rfl ?_
          obtain ⟨hk22, h⟩ := h
          refine gf_RX5_62 hC dX5_isOne_121 hk22 ?_
          refine cl_RX5_73 hC (c_X9_scopeHas _ G a1 r4 (I a2 4) K N I L R _ h) hk1 dX5_isOne_124 (by rw [hRm]; exact ⟨Nat.le_of_ble_eq_true rfl, Nat.le_of_ble_eq_true rfl⟩) ⟨Nat.zero_le _, Nat.zero_le _⟩ (Nat.le_of_ble_eq_true rfl) (z_kPz (fun r23 h => ?_))
          exact z_zret (b := r23) hC dX5_isOne_127 rfl ⟨r23, rfl, rfl, rfl, rfl, rfl, h⟩
        · have h := h.2 hc3
          by_cases hc4 : (I b7 (ix a5)) = 30
          · have h := h.1 hc4
            refine z_lookup hC (off := 117) (tgt := 148) dX5_isOne_31 (by decide) (by rw [hc4]; decide) (by decide) ?_
            refine z_aload_n hC (q := 3) dX5_isOne_148 rfl rfl ?_
            refine z_iload hC (q := 1) dX5_isOne_149 rfl ?_
            refine z_aload_n hC (q := 2) dX5_isOne_151 rfl rfl ?_
            obtain ⟨b24, hb24, h⟩ := h
            refine gf_RX5_22 hC dX5_isOne_152 hk6 hb24 ?_
            refine z_iload hC (q := 7) dX5_isOne_155 rfl ?_
            obtain ⟨hk25, h⟩ := h
            obtain ⟨hi26, h⟩ := h
            refine z_iaload hC hk25 hi26 dX5_isOne_157 ?_
            refine cl_RX5_80 hC (c_X9_isWithin _ G a1 r4 (I b24 (ix a5)) K N I L R _ h) hk1 dX5_isOne_158 (by rw [hRm]; exact ⟨Nat.le_of_ble_eq_true rfl, Nat.le_of_ble_eq_true rfl⟩) ⟨Nat.zero_le _, Nat.zero_le _⟩ (Nat.le_of_ble_eq_true rfl) (z_kPz (fun r27 h => ?_))
            exact z_zret (b := r27) hC dX5_isOne_161 rfl ⟨r27, rfl, rfl, rfl, rfl, rfl, h⟩
          · have h := h.2 hc4
            by_cases hc5 : (I b7 (ix a5)) = 31
            · have h := h.1 hc5
              refine z_lookup hC (off := 131) (tgt := 162) dX5_isOne_31 (by decide) (by rw [hc5]; decide) (by decide) ?_
              refine z_aload_n hC (q := 2) dX5_isOne_162 rfl rfl ?_
              refine z_aload_n hC (q := 3) dX5_isOne_163 rfl rfl ?_
              obtain ⟨b28, hb28, h⟩ := h
              refine gf_RX5_77 hC dX5_isOne_164 hk1 hb28 ?_
              refine z_iload hC (q := 0) dX5_isOne_167 rfl ?_
              refine z_iconst hC (v := 1) k_iconst_1 dX5_isOne_169 ?_
              obtain ⟨hk29, h⟩ := h
              refine cl_RX5_56 hC (c_X7_at _ G b28 r5 1 K N I L R _ h) hk29 dX5_isOne_170 (by rw [hRm]; exact ⟨Nat.le_of_ble_eq_true rfl, Nat.le_of_ble_eq_true rfl⟩) ⟨Nat.zero_le _, Nat.zero_le _⟩ (Nat.le_of_ble_eq_true rfl) (z_kPi (fun r30 h => ?_))
              refine z_iload hC (q := 7) dX5_isOne_173 rfl ?_
              refine cl_RX5_83 hC (c_X5_isSo _ G a0 r30 a5 K N I L R _ h) hk6 dX5_isOne_175 (by rw [hRm]; exact ⟨Nat.le_of_ble_eq_true rfl, Nat.le_of_ble_eq_true rfl⟩) ⟨Nat.zero_le _, Nat.zero_le _⟩ (Nat.le_of_ble_eq_true rfl) (z_kPz (fun r31 h => ?_))
              exact z_zret (b := r31) hC dX5_isOne_178 rfl ⟨r31, rfl, rfl, rfl, rfl, rfl, h⟩
            · have h := h.2 hc5
              by_cases hc6 : (I b7 (ix a5)) = 32
              · have h := h.1 hc6
                refine z_lookup hC (off := 148) (tgt := 179) dX5_isOne_31 (by decide) (by rw [hc6]; decide) (by decide) ?_
                refine z_aload_n hC (q := 2) dX5_isOne_179 rfl rfl ?_
                refine z_aload_n hC (q := 3) dX5_isOne_180 rfl rfl ?_
                refine z_iload hC (q := 6) dX5_isOne_181 rfl ?_
                refine cl_RX5_86 hC (c_X9_placesOf _ G a1 a4 K N I L R _ h) hk1 dX5_isOne_183 (by rw [hRm]; exact ⟨Nat.le_of_ble_eq_true rfl, Nat.le_of_ble_eq_true rfl⟩) ⟨Nat.zero_le _, Nat.zero_le _⟩ (Nat.le_of_ble_eq_true rfl) (z_kPi (fun r32 h => ?_))
                refine z_iload hC (q := 7) dX5_isOne_186 rfl ?_
                refine cl_RX5_83 hC (c_X5_isSo _ G a0 r32 a5 K N I L R _ h) hk6 dX5_isOne_188 (by rw [hRm]; exact ⟨Nat.le_of_ble_eq_true rfl, Nat.le_of_ble_eq_true rfl⟩) ⟨Nat.zero_le _, Nat.zero_le _⟩ (Nat.le_of_ble_eq_true rfl) (z_kPz (fun r33 h => ?_))
                exact z_zret (b := r33) hC dX5_isOne_191 rfl ⟨r33, rfl, rfl, rfl, rfl, rfl, h⟩
              · have h := h.2 hc6
                have hout : Op.lookupswitch.offset [(7, 97), (9, 161), (28, 65), (29, 86), (30, 117), (31, 131), (32, 148)] 195 (I b7 (ix a5)).toInt = 195 := z_lkOut (by intro q hq; simp only [List.mem_cons, List.not_mem_nil, or_false] at hq; rcases hq with rfl | rfl | rfl | rfl | rfl | rfl | rfl <;> first | exact z_nei hc0 (by decide) | exact z_nei hc1 (by decide) | exact z_nei hc2 (by decide) | exact z_nei hc3 (by decide) | exact z_nei hc4 (by decide) | exact z_nei hc5 (by decide) | exact z_nei hc6 (by decide))
                refine z_lookup hC (tgt := 226) dX5_isOne_31 (by decide) hout (by decide) ?_
                refine z_aload_n hC (q := 2) dX5_isOne_226 rfl rfl ?_
                refine z_iload hC (q := 6) dX5_isOne_227 rfl ?_
                refine z_iload hC (q := 7) dX5_isOne_229 rfl ?_
                refine cl_RX5_83 hC (c_X5_isSo _ G a0 a4 a5 K N I L R _ h) hk6 dX5_isOne_231 (by rw [hRm]; exact ⟨Nat.le_of_ble_eq_true rfl, Nat.le_of_ble_eq_true rfl⟩) ⟨Nat.zero_le _, Nat.zero_le _⟩ (Nat.le_of_ble_eq_true rfl) (z_kPz (fun r34 h => ?_))
                exact z_zret (b := r34) hC dX5_isOne_234 rfl ⟨r34, rfl, rfl, rfl, rfl, rfl, h⟩
def w_X5_isSaidOf_79  (x0 : Nat) (x1 : Nat) (x2 : Nat) (x3 : Nat) (x4 : Int32) (x5 : Int32)  (K : MK) (N : MK) (I : MI) (L : ML) (R : MR) (C8 : Nat → Nat → Nat → Nat → Int32 → Int32 → MI → Prop) (Q : Bool → MI → Prop) : Prop := K x0 = 6 ∧ w_X5_pop x0 K N I L R (fun r12 I13 => w_X5_pop x0 K N I13 L R (fun r14 I15 => ∃ b16 : Nat, R x0 1 = some b16 ∧ K b16 = 14 ∧ vp_in x5 (N b16) ∧ (¬ (I15 b16 (ix x5)) = 26 → (r14 = true → w_X5_push x0 true K N I15 L R (fun I19 => ∀ v20 : Int32, v20 = x5 + 1 → C8 x0 x1 x2 x3 x4 v20 I19)) ∧ (r14 = false → (r12 = false → w_X5_push x0 false K N I15 L R (fun I21 => ∀ v22 : Int32, v22 = x5 + 1 → C8 x0 x1 x2 x3 x4 v22 I21)) ∧ (r12 = true → w_X5_push x0 true K N I15 L R (fun I23 => ∀ v24 : Int32, v24 = x5 + 1 → C8 x0 x1 x2 x3 x4 v24 I23)))) ∧ ((I15 b16 (ix x5)) = 26 → (r14 = false → w_X5_push x0 false K N I15 L R (fun I25 => ∀ v26 : Int32, v26 = x5 + 1 → C8 x0 x1 x2 x3 x4 v26 I25)) ∧ (r14 = true → (r12 = false → w_X5_push x0 false K N I15 L R (fun I27 => ∀ v28 : Int32, v28 = x5 + 1 → C8 x0 x1 x2 x3 x4 v28 I27)) ∧ (r12 = true → w_X5_push x0 true K N I15 L R (fun I29 => ∀ v30 : Int32, v30 = x5 + 1 → C8 x0 x1 x2 x3 x4 v30 I29))))))
def w_X5_isSaidOf_8  (x0 : Nat) (x1 : Nat) (x2 : Nat) (x3 : Nat) (x4 : Int32) (x5 : Int32)  (K : MK) (N : MK) (I : MI) (L : ML) (R : MR)  (Q : Bool → MI → Prop) : Prop := ∃ J : Nat → Nat → Nat → Nat → Nat → Int32 → Int32 → MI → Prop, (∃ n, J n x0 x1 x2 x3 x4 x5 I) ∧ ∀ (n : Nat) (x0 : Nat) (x1 : Nat) (x2 : Nat) (x3 : Nat) (x4 : Int32) (x5 : Int32) (I : MI), J n x0 x1 x2 x3 x4 x5 I → K x0 = 6 ∧ ((I x0 0) ≤ x5 → w_X5_pop x0 K N I L R (fun r4 I5 => Q r4 I5)) ∧ (¬ (I x0 0) ≤ x5 → ((40 : Int32) ≤ x5 → w_X5_pop x0 K N I L R (fun r6 I7 => Q r6 I7)) ∧ (¬ (40 : Int32) ≤ x5 → ∃ b8 : Nat, R x0 1 = some b8 ∧ K b8 = 14 ∧ vp_in x5 (N b8) ∧ (¬ (I b8 (ix x5)) = 27 → ((I b8 (ix x5)) = 26 → w_X5_isSaidOf_79 x0 x1 x2 x3 x4 x5 K N I L R (fun y0 y1 y2 y3 y4 y5 y6 => ∃ n1, n1 < n ∧ J n1 y0 y1 y2 y3 y4 y5 y6) Q) ∧ (¬ (I b8 (ix x5)) = 26 → (¬ (I b8 (ix x5)) = 25 → w_X5_isOne x0 x1 x2 x3 x4 x5 K N I L R (fun r31 I32 => w_X5_push x0 r31 K N I32 L R (fun I33 => ∀ v34 : Int32, v34 = x5 + 1 → ∃ n1, n1 < n ∧ J n1 x0 x1 x2 x3 x4 v34 I33))) ∧ ((I b8 (ix x5)) = 25 → w_X5_isSaidOf_79 x0 x1 x2 x3 x4 x5 K N I L R (fun y0 y1 y2 y3 y4 y5 y6 => ∃ n1, n1 < n ∧ J n1 y0 y1 y2 y3 y4 y5 y6) Q))) ∧ ((I b8 (ix x5)) = 27 → w_X5_pop x0 K N I L R (fun r35 I36 => (r35 = true → w_X5_push x0 false K N I36 L R (fun I37 => ∀ v38 : Int32, v38 = x5 + 1 → ∃ n1, n1 < n ∧ J n1 x0 x1 x2 x3 x4 v38 I37)) ∧ (r35 = false → w_X5_push x0 true K N I36 L R (fun I39 => ∀ v40 : Int32, v40 = x5 + 1 → ∃ n1, n1 < n ∧ J n1 x0 x1 x2 x3 x4 v40 I39))))))
def w_X5_isSaidOf  (a0 : Nat) (a1 : Nat) (a2 : Nat) (a3 : Nat) (a4 : Int32) (K : MK) (N : MK) (I : MI) (L : ML) (R : MR) (Q : Bool → MI → Prop) : Prop := K a0 = 6 ∧ ∀ I2 : MI, I2 = mup I a0 5 0 → w_X5_isSaidOf_8 a0 a1 a2 a3 a4 0 K N I2 L R Q
set_option maxHeartbeats 4000000 in
set_option maxRecDepth 100000 in
theorem z_X5_isSaidOf_79 {X : ZX} {G : ZG}  {x0 : Nat} {x1 : Nat} {x2 : Nat} {x3 : Nat} {x4 : Int32} {x5 : Int32}  {K : MK} {N : MK} {I : MI} {L : ML} {R : MR} {C8 : Nat → Nat → Nat → Nat → Int32 → Int32 → MI → Prop} {Q : Bool → MI → Prop} (hC : ZOk X G RX5 cX5_isSaidOf 8 (some .boolean)) (hRm : X.2.2.2.1 = rm_X5_isSaidOf) (hC8 : ∀ (y0 : Nat) (y1 : Nat) (y2 : Nat) (y3 : Nat) (y4 : Int32) (y5 : Int32) (zI : MI), C8 y0 y1 y2 y3 y4 y5 zI → Z X G 8 0 0 (z_T X G (qIz K N L R Q) 0 0) K N zI L R 8 [(0, .ref y0), (1, .ref y1), (2, .ref y2), (3, .ref y3), (4, .int y4), (5, .int y5)] []) (h : w_X5_isSaidOf_79 x0 x1 x2 x3 x4 x5 K N I L R C8 Q) : Z X G 8 0 0 (z_T X G (qIz K N L R Q) 0 0) K N I L R 79 [(0, .ref x0), (1, .ref x1), (2, .ref x2), (3, .ref x3), (4, .int x4), (5, .int x5)] [] := by
  delta w_X5_isSaidOf_79 at h
  refine z_aload_n hC (q := 0) dX5_isSaidOf_79 rfl rfl ?_
  obtain ⟨hk11, h⟩ := h
  refine cl_RX5_38 hC (c_X5_pop _ G x0 K N I L R _ h) hk11 dX5_isSaidOf_80 (by rw [hRm]; exact ⟨Nat.le_of_ble_eq_true rfl, Nat.le_of_ble_eq_true rfl⟩) ⟨Nat.zero_le _, Nat.zero_le _⟩ (Nat.le_of_ble_eq_true rfl) (z_kIz (I := I) (fun r12 I13 h => ?_))
  refine z_istore hC (lv1 := [(6, .int (bi r12)), (0, .ref x0), (1, .ref x1), (2, .ref x2), (3, .ref x3), (4, .int x4), (5, .int x5)]) dX5_isSaidOf_83 (by decide) rfl ?_
  refine z_aload_n hC (q := 1) dX5_isSaidOf_85 rfl rfl ?_
  refine cl_RX5_38 hC (c_X5_pop _ G x0 K N I13 L R _ h) hk11 dX5_isSaidOf_86 (by rw [hRm]; exact ⟨Nat.le_of_ble_eq_true rfl, Nat.le_of_ble_eq_true rfl⟩) ⟨Nat.zero_le _, Nat.zero_le _⟩ (Nat.le_of_ble_eq_true rfl) (z_kIz (I := I13) (fun r14 I15 h => ?_))
  refine z_istore hC (lv1 := [(7, .int (bi r14)), (6, .int (bi r12)), (0, .ref x0), (1, .ref x1), (2, .ref x2), (3, .ref x3), (4, .int x4), (5, .int x5)]) dX5_isSaidOf_89 (by decide) rfl ?_
  refine z_aload_n hC (q := 2) dX5_isSaidOf_91 rfl rfl ?_
  refine z_aload_n hC (q := 2) dX5_isSaidOf_92 rfl rfl ?_
  obtain ⟨b16, hb16, h⟩ := h
  refine gf_RX5_15 hC dX5_isSaidOf_93 hk11 hb16 ?_
  refine z_iload hC (q := 7) dX5_isSaidOf_96 rfl ?_
  obtain ⟨hk17, h⟩ := h
  obtain ⟨hi18, h⟩ := h
  refine z_iaload hC hk17 hi18 dX5_isSaidOf_98 ?_
  refine z_bipush hC (v := 26) k_bipush_26 dX5_isSaidOf_99 ?_
  refine z_icmp_ne hC (tgt := 122) dX5_isSaidOf_101 (by decide) (fun hc => ?_) (fun hc => ?_)
  · have h := h.1 hc
    refine z_iload hC (q := 0) dX5_isSaidOf_122 rfl ?_
    refine z_ifz_ne hC (tgt := 132) dX5_isSaidOf_124 (by decide) (fun hc => ?_) (fun hc => ?_)
    · have h := h.1 hc
      refine z_iconst hC (v := 1) k_iconst_1 dX5_isSaidOf_132 ?_
      refine z_goto hC (tgt := 137) dX5_isSaidOf_133 (by decide) ?_
      refine cl_RX5_42 hC (c_X5_push _ G x0 true K N I15 L R _ h) hk11 dX5_isSaidOf_137 (by rw [hRm]; exact ⟨Nat.le_of_ble_eq_true rfl, Nat.le_of_ble_eq_true rfl⟩) ⟨Nat.zero_le _, Nat.zero_le _⟩ (Nat.le_of_ble_eq_true rfl) (z_kIv (I := I15) (fun I19 h => ?_))
      refine z_goto hC (tgt := 158) dX5_isSaidOf_140 (by decide) ?_
      obtain ⟨v20, ev20⟩ : ∃ y : Int32, y = x5 + 1 := ⟨_, rfl⟩
      have h := h v20 ev20
      refine z_iinc hC (q := 7) (v := v20) (lv1 := [(5, .int v20), (7, .int (bi r14)), (6, .int (bi r12)), (0, .ref x0), (1, .ref x1), (2, .ref x2), (3, .ref x3), (4, .int x4)]) dX5_isSaidOf_158 rfl (by rw [ev20, k_iinc_1]) (by decide) rfl ?_
      refine z_goto hC (tgt := 8) dX5_isSaidOf_161 (by decide) ?_
      exact z_sub [(0, .ref x0), (1, .ref x1), (2, .ref x2), (3, .ref x3), (4, .int x4), (5, .int v20)] [3, 4, 5, 6, 7, 0] rfl (hC8 _ _ _ _ _ _ _ h)
    · have h := h.2 hc
      refine z_iload hC (q := 1) dX5_isSaidOf_127 rfl ?_
      refine z_ifz_eq hC (tgt := 136) dX5_isSaidOf_129 (by decide) (fun hc => ?_) (fun hc => ?_)
      · have h := h.1 hc
        refine z_iconst hC (v := 0) k_iconst_0 dX5_isSaidOf_136 ?_
        refine cl_RX5_42 hC (c_X5_push _ G x0 false K N I15 L R _ h) hk11 dX5_isSaidOf_137 (by rw [hRm]; exact ⟨Nat.le_of_ble_eq_true rfl, Nat.le_of_ble_eq_true rfl⟩) ⟨Nat.zero_le _, Nat.zero_le _⟩ (Nat.le_of_ble_eq_true rfl) (z_kIv (I := I15) (fun I21 h => ?_))
        refine z_goto hC (tgt := 158) dX5_isSaidOf_140 (by decide) ?_
        obtain ⟨v22, ev22⟩ : ∃ y : Int32, y = x5 + 1 := ⟨_, rfl⟩
        have h := h v22 ev22
        refine z_iinc hC (q := 7) (v := v22) (lv1 := [(5, .int v22), (7, .int (bi r14)), (6, .int (bi r12)), (0, .ref x0), (1, .ref x1), (2, .ref x2), (3, .ref x3), (4, .int x4)]) dX5_isSaidOf_158 rfl (by rw [ev22, k_iinc_1]) (by decide) rfl ?_
        refine z_goto hC (tgt := 8) dX5_isSaidOf_161 (by decide) ?_
        exact z_sub [(0, .ref x0), (1, .ref x1), (2, .ref x2), (3, .ref x3), (4, .int x4), (5, .int v22)] [3, 4, 5, 6, 7, 0] rfl (hC8 _ _ _ _ _ _ _ h)
      · have h := h.2 hc
        refine z_iconst hC (v := 1) k_iconst_1 dX5_isSaidOf_132 ?_
        refine z_goto hC (tgt := 137) dX5_isSaidOf_133 (by decide) ?_
        refine cl_RX5_42 hC (c_X5_push _ G x0 true K N I15 L R _ h) hk11 dX5_isSaidOf_137 (by rw [hRm]; exact ⟨Nat.le_of_ble_eq_true rfl, Nat.le_of_ble_eq_true rfl⟩) ⟨Nat.zero_le _, Nat.zero_le _⟩ (Nat.le_of_ble_eq_true rfl) (z_kIv (I := I15) (fun I23 h => ?_))
        refine z_goto hC (tgt := 158) dX5_isSaidOf_140 (by decide) ?_
        obtain ⟨v24, ev24⟩ : ∃ y : Int32, y = x5 + 1 := ⟨_, rfl⟩
        have h := h v24 ev24
        refine z_iinc hC (q := 7) (v := v24) (lv1 := [(5, .int v24), (7, .int (bi r14)), (6, .int (bi r12)), (0, .ref x0), (1, .ref x1), (2, .ref x2), (3, .ref x3), (4, .int x4)]) dX5_isSaidOf_158 rfl (by rw [ev24, k_iinc_1]) (by decide) rfl ?_
        refine z_goto hC (tgt := 8) dX5_isSaidOf_161 (by decide) ?_
        exact z_sub [(0, .ref x0), (1, .ref x1), (2, .ref x2), (3, .ref x3), (4, .int x4), (5, .int v24)] [3, 4, 5, 6, 7, 0] rfl (hC8 _ _ _ _ _ _ _ h)
  · have h := h.2 hc
    refine z_iload hC (q := 0) dX5_isSaidOf_104 rfl ?_
    refine z_ifz_eq hC (tgt := 118) dX5_isSaidOf_106 (by decide) (fun hc => ?_) (fun hc => ?_)
    · have h := h.1 hc
      refine z_iconst hC (v := 0) k_iconst_0 dX5_isSaidOf_118 ?_
      refine z_goto hC (tgt := 137) dX5_isSaidOf_119 (by decide) ?_
      refine cl_RX5_42 hC (c_X5_push _ G x0 false K N I15 L R _ h) hk11 dX5_isSaidOf_137 (by rw [hRm]; exact ⟨Nat.le_of_ble_eq_true rfl, Nat.le_of_ble_eq_true rfl⟩) ⟨Nat.zero_le _, Nat.zero_le _⟩ (Nat.le_of_ble_eq_true rfl) (z_kIv (I := I15) (fun I25 h => ?_))
      refine z_goto hC (tgt := 158) dX5_isSaidOf_140 (by decide) ?_
      obtain ⟨v26, ev26⟩ : ∃ y : Int32, y = x5 + 1 := ⟨_, rfl⟩
      have h := h v26 ev26
      refine z_iinc hC (q := 7) (v := v26) (lv1 := [(5, .int v26), (7, .int (bi r14)), (6, .int (bi r12)), (0, .ref x0), (1, .ref x1), (2, .ref x2), (3, .ref x3), (4, .int x4)]) dX5_isSaidOf_158 rfl (by rw [ev26, k_iinc_1]) (by decide) rfl ?_
      refine z_goto hC (tgt := 8) dX5_isSaidOf_161 (by decide) ?_
      exact z_sub [(0, .ref x0), (1, .ref x1), (2, .ref x2), (3, .ref x3), (4, .int x4), (5, .int v26)] [3, 4, 5, 6, 7, 0] rfl (hC8 _ _ _ _ _ _ _ h)
    · have h := h.2 hc
      refine z_iload hC (q := 1) dX5_isSaidOf_109 rfl ?_
      refine z_ifz_eq hC (tgt := 118) dX5_isSaidOf_111 (by decide) (fun hc => ?_) (fun hc => ?_)
      · have h := h.1 hc
        refine z_iconst hC (v := 0) k_iconst_0 dX5_isSaidOf_118 ?_
        refine z_goto hC (tgt := 137) dX5_isSaidOf_119 (by decide) ?_
        refine cl_RX5_42 hC (c_X5_push _ G x0 false K N I15 L R _ h) hk11 dX5_isSaidOf_137 (by rw [hRm]; exact ⟨Nat.le_of_ble_eq_true rfl, Nat.le_of_ble_eq_true rfl⟩) ⟨Nat.zero_le _, Nat.zero_le _⟩ (Nat.le_of_ble_eq_true rfl) (z_kIv (I := I15) (fun I27 h => ?_))
        refine z_goto hC (tgt := 158) dX5_isSaidOf_140 (by decide) ?_
        obtain ⟨v28, ev28⟩ : ∃ y : Int32, y = x5 + 1 := ⟨_, rfl⟩
        have h := h v28 ev28
        refine z_iinc hC (q := 7) (v := v28) (lv1 := [(5, .int v28), (7, .int (bi r14)), (6, .int (bi r12)), (0, .ref x0), (1, .ref x1), (2, .ref x2), (3, .ref x3), (4, .int x4)]) dX5_isSaidOf_158 rfl (by rw [ev28, k_iinc_1]) (by decide) rfl ?_
        refine z_goto hC (tgt := 8) dX5_isSaidOf_161 (by decide) ?_
        exact z_sub [(0, .ref x0), (1, .ref x1), (2, .ref x2), (3, .ref x3), (4, .int x4), (5, .int v28)] [3, 4, 5, 6, 7, 0] rfl (hC8 _ _ _ _ _ _ _ h)
      · have h := h.2 hc
        refine z_iconst hC (v := 1) k_iconst_1 dX5_isSaidOf_114 ?_
        refine z_goto hC (tgt := 137) dX5_isSaidOf_115 (by decide) ?_
        refine cl_RX5_42 hC (c_X5_push _ G x0 true K N I15 L R _ h) hk11 dX5_isSaidOf_137 (by rw [hRm]; exact ⟨Nat.le_of_ble_eq_true rfl, Nat.le_of_ble_eq_true rfl⟩) ⟨Nat.zero_le _, Nat.zero_le _⟩ (Nat.le_of_ble_eq_true rfl) (z_kIv (I := I15) (fun I29 h => ?_))
        refine z_goto hC (tgt := 158) dX5_isSaidOf_140 (by decide) ?_
        obtain ⟨v30, ev30⟩ : ∃ y : Int32, y = x5 + 1 := ⟨_, rfl⟩
        have h := h v30 ev30
        refine z_iinc hC (q := 7) (v := v30) (lv1 := [(5, .int v30), (7, .int (bi r14)), (6, .int (bi r12)), (0, .ref x0), (1, .ref x1), (2, .ref x2), (3, .ref x3), (4, .int x4)]) dX5_isSaidOf_158 rfl (by rw [ev30, k_iinc_1]) (by decide) rfl ?_
        refine z_goto hC (tgt := 8) dX5_isSaidOf_161 (by decide) ?_
        exact z_sub [(0, .ref x0), (1, .ref x1), (2, .ref x2), (3, .ref x3), (4, .int x4), (5, .int v30)] [3, 4, 5, 6, 7, 0] rfl (hC8 _ _ _ _ _ _ _ h)
set_option maxHeartbeats 4000000 in
set_option maxRecDepth 100000 in
theorem z_X5_isSaidOf_8 {X : ZX} {G : ZG}  {x0 : Nat} {x1 : Nat} {x2 : Nat} {x3 : Nat} {x4 : Int32} {x5 : Int32}  {K : MK} {N : MK} {I : MI} {L : ML} {R : MR}  {Q : Bool → MI → Prop} (hC : ZOk X G RX5 cX5_isSaidOf 8 (some .boolean)) (hRm : X.2.2.2.1 = rm_X5_isSaidOf) (h : w_X5_isSaidOf_8 x0 x1 x2 x3 x4 x5 K N I L R  Q) : Z X G 8 0 0 (z_T X G (qIz K N L R Q) 0 0) K N I L R 8 [(0, .ref x0), (1, .ref x1), (2, .ref x2), (3, .ref x3), (4, .int x4), (5, .int x5)] [] := by
  delta w_X5_isSaidOf_8 at h
  obtain ⟨J, ⟨n, h0⟩, hs⟩ := h
  have key : ∀ (n : Nat) (x0 : Nat) (x1 : Nat) (x2 : Nat) (x3 : Nat) (x4 : Int32) (x5 : Int32) (I : MI), J n x0 x1 x2 x3 x4 x5 I → Z X G 8 0 0 (z_T X G (qIz K N L R Q) 0 0) K N I L R 8 [(0, .ref x0), (1, .ref x1), (2, .ref x2), (3, .ref x3), (4, .int x4), (5, .int x5)] [] := by
    intro n
    induction n using Nat.strongRecOn with
    | _ n ih =>
      intro x0 x1 x2 x3 x4 x5 I hJ
      have hC8 : ∀ (y0 : Nat) (y1 : Nat) (y2 : Nat) (y3 : Nat) (y4 : Int32) (y5 : Int32) (zI : MI), (∃ n1, n1 < n ∧ J n1 y0 y1 y2 y3 y4 y5 zI) → Z X G 8 0 0 (z_T X G (qIz K N L R Q) 0 0) K N zI L R 8 [(0, .ref y0), (1, .ref y1), (2, .ref y2), (3, .ref y3), (4, .int y4), (5, .int y5)] [] := fun y0 y1 y2 y3 y4 y5 zI ⟨n1, hn1, hj⟩ => ih n1 hn1 y0 y1 y2 y3 y4 y5 zI hj
      have h := hs n x0 x1 x2 x3 x4 x5 I hJ
      refine z_iload hC (q := 5) dX5_isSaidOf_8 rfl ?_
      refine z_aload_n hC (q := 0) dX5_isSaidOf_10 rfl rfl ?_
      obtain ⟨hk3, h⟩ := h
      refine gf_RX5_9 hC dX5_isSaidOf_11 hk3 ?_
      refine z_icmp_ge hC (tgt := 164) dX5_isSaidOf_14 (by decide) (fun hc => ?_) (fun hc => ?_)
      · have h := h.1 hc
        refine z_aload_n hC (q := 0) dX5_isSaidOf_164 rfl rfl ?_
        refine cl_RX5_38 hC (c_X5_pop _ G x0 K N I L R _ h) hk3 dX5_isSaidOf_165 (by rw [hRm]; exact ⟨Nat.le_of_ble_eq_true rfl, Nat.le_of_ble_eq_true rfl⟩) ⟨Nat.zero_le _, Nat.zero_le _⟩ (Nat.le_of_ble_eq_true rfl) (z_kIz (I := I) (fun r4 I5 h => ?_))
        exact z_zret (b := r4) hC dX5_isSaidOf_168 rfl ⟨r4, rfl, rfl, rfl, rfl, rfl, h⟩
      · have h := h.2 hc
        refine z_iload hC (q := 5) dX5_isSaidOf_17 rfl ?_
        refine z_bipush hC (v := 40) k_bipush_40 dX5_isSaidOf_19 ?_
        refine z_icmp_ge hC (tgt := 164) dX5_isSaidOf_21 (by decide) (fun hc => ?_) (fun hc => ?_)
        · have h := h.1 hc
          refine z_aload_n hC (q := 0) dX5_isSaidOf_164 rfl rfl ?_
          refine cl_RX5_38 hC (c_X5_pop _ G x0 K N I L R _ h) hk3 dX5_isSaidOf_165 (by rw [hRm]; exact ⟨Nat.le_of_ble_eq_true rfl, Nat.le_of_ble_eq_true rfl⟩) ⟨Nat.zero_le _, Nat.zero_le _⟩ (Nat.le_of_ble_eq_true rfl) (z_kIz (I := I) (fun r6 I7 h => ?_))
          exact z_zret (b := r6) hC dX5_isSaidOf_168 rfl ⟨r6, rfl, rfl, rfl, rfl, rfl, h⟩
        · have h := h.2 hc
          refine z_aload_n hC (q := 0) dX5_isSaidOf_24 rfl rfl ?_
          obtain ⟨b8, hb8, h⟩ := h
          refine gf_RX5_15 hC dX5_isSaidOf_25 hk3 hb8 ?_
          refine z_iload hC (q := 5) dX5_isSaidOf_28 rfl ?_
          obtain ⟨hk9, h⟩ := h
          obtain ⟨hi10, h⟩ := h
          refine z_iaload hC hk9 hi10 dX5_isSaidOf_30 ?_
          refine z_bipush hC (v := 27) k_bipush_27 dX5_isSaidOf_31 ?_
          refine z_icmp_ne hC (tgt := 55) dX5_isSaidOf_33 (by decide) (fun hc => ?_) (fun hc => ?_)
          · have h := h.1 hc
            refine z_aload_n hC (q := 0) dX5_isSaidOf_55 rfl rfl ?_
            refine gf_RX5_15 hC dX5_isSaidOf_56 hk3 hb8 ?_
            refine z_iload hC (q := 5) dX5_isSaidOf_59 rfl ?_
            refine z_iaload hC hk9 hi10 dX5_isSaidOf_61 ?_
            refine z_bipush hC (v := 26) k_bipush_26 dX5_isSaidOf_62 ?_
            refine z_icmp_eq hC (tgt := 79) dX5_isSaidOf_64 (by decide) (fun hc => ?_) (fun hc => ?_)
            · have h := h.1 hc
              exact z_sub [(0, .ref x0), (1, .ref x1), (2, .ref x2), (3, .ref x3), (4, .int x4), (5, .int x5)] [0, 1, 2, 3, 4, 5] rfl (z_X5_isSaidOf_79 hC hRm hC8 h)
            · have h := h.2 hc
              refine z_aload_n hC (q := 0) dX5_isSaidOf_67 rfl rfl ?_
              refine gf_RX5_15 hC dX5_isSaidOf_68 hk3 hb8 ?_
              refine z_iload hC (q := 5) dX5_isSaidOf_71 rfl ?_
              refine z_iaload hC hk9 hi10 dX5_isSaidOf_73 ?_
              refine z_bipush hC (v := 25) k_bipush_25 dX5_isSaidOf_74 ?_
              refine z_icmp_ne hC (tgt := 143) dX5_isSaidOf_76 (by decide) (fun hc => ?_) (fun hc => ?_)
              · have h := h.1 hc
                refine z_aload_n hC (q := 0) dX5_isSaidOf_143 rfl rfl ?_
                refine z_aload_n hC (q := 0) dX5_isSaidOf_144 rfl rfl ?_
                refine z_aload_n hC (q := 1) dX5_isSaidOf_145 rfl rfl ?_
                refine z_aload_n hC (q := 2) dX5_isSaidOf_146 rfl rfl ?_
                refine z_aload_n hC (q := 3) dX5_isSaidOf_147 rfl rfl ?_
                refine z_iload hC (q := 4) dX5_isSaidOf_148 rfl ?_
                refine z_iload hC (q := 5) dX5_isSaidOf_150 rfl ?_
                refine cl_RX5_46 hC (c_X5_isOne _ G x0 x1 x2 x3 x4 x5 K N I L R _ h) hk3 dX5_isSaidOf_152 (by rw [hRm]; exact ⟨Nat.le_of_ble_eq_true rfl, Nat.le_of_ble_eq_true rfl⟩) ⟨Nat.zero_le _, Nat.zero_le _⟩ (Nat.le_of_ble_eq_true rfl) (z_kIz (I := I) (fun r31 I32 h => ?_))
                refine cl_RX5_42 hC (c_X5_push _ G x0 r31 K N I32 L R _ h) hk3 dX5_isSaidOf_155 (by rw [hRm]; exact ⟨Nat.le_of_ble_eq_true rfl, Nat.le_of_ble_eq_true rfl⟩) ⟨Nat.zero_le _, Nat.zero_le _⟩ (Nat.le_of_ble_eq_true rfl) (z_kIv (I := I32) (fun I33 h => ?_))
                obtain ⟨v34, ev34⟩ : ∃ y : Int32, y = x5 + 1 := ⟨_, rfl⟩
                have h := h v34 ev34
                refine z_iinc hC (q := 5) (v := v34) (lv1 := [(5, .int v34), (0, .ref x0), (1, .ref x1), (2, .ref x2), (3, .ref x3), (4, .int x4)]) dX5_isSaidOf_158 rfl (by rw [ev34, k_iinc_1]) (by decide) rfl ?_
                refine z_goto hC (tgt := 8) dX5_isSaidOf_161 (by decide) ?_
                exact z_sub [(0, .ref x0), (1, .ref x1), (2, .ref x2), (3, .ref x3), (4, .int x4), (5, .int v34)] [1, 2, 3, 4, 5, 0] rfl (hC8 _ _ _ _ _ _ _ h)
              · have h := h.2 hc
                exact z_sub [(0, .ref x0), (1, .ref x1), (2, .ref x2), (3, .ref x3), (4, .int x4), (5, .int x5)] [0, 1, 2, 3, 4, 5] rfl (z_X5_isSaidOf_79 hC hRm hC8 h)
          · have h := h.2 hc
            refine z_aload_n hC (q := 0) dX5_isSaidOf_36 rfl rfl ?_
            refine z_aload_n hC (q := 0) dX5_isSaidOf_37 rfl rfl ?_
            refine cl_RX5_38 hC (c_X5_pop _ G x0 K N I L R _ h) hk3 dX5_isSaidOf_38 (by rw [hRm]; exact ⟨Nat.le_of_ble_eq_true rfl, Nat.le_of_ble_eq_true rfl⟩) ⟨Nat.zero_le _, Nat.zero_le _⟩ (Nat.le_of_ble_eq_true rfl) (z_kIz (I := I) (fun r35 I36 h => ?_))
            refine z_ifz_ne hC (tgt := 48) dX5_isSaidOf_41 (by decide) (fun hc => ?_) (fun hc => ?_)
            · have h := h.1 hc
              refine z_iconst hC (v := 0) k_iconst_0 dX5_isSaidOf_48 ?_
              refine cl_RX5_42 hC (c_X5_push _ G x0 false K N I36 L R _ h) hk3 dX5_isSaidOf_49 (by rw [hRm]; exact ⟨Nat.le_of_ble_eq_true rfl, Nat.le_of_ble_eq_true rfl⟩) ⟨Nat.zero_le _, Nat.zero_le _⟩ (Nat.le_of_ble_eq_true rfl) (z_kIv (I := I36) (fun I37 h => ?_))
              refine z_goto hC (tgt := 158) dX5_isSaidOf_52 (by decide) ?_
              obtain ⟨v38, ev38⟩ : ∃ y : Int32, y = x5 + 1 := ⟨_, rfl⟩
              have h := h v38 ev38
              refine z_iinc hC (q := 5) (v := v38) (lv1 := [(5, .int v38), (0, .ref x0), (1, .ref x1), (2, .ref x2), (3, .ref x3), (4, .int x4)]) dX5_isSaidOf_158 rfl (by rw [ev38, k_iinc_1]) (by decide) rfl ?_
              refine z_goto hC (tgt := 8) dX5_isSaidOf_161 (by decide) ?_
              exact z_sub [(0, .ref x0), (1, .ref x1), (2, .ref x2), (3, .ref x3), (4, .int x4), (5, .int v38)] [1, 2, 3, 4, 5, 0] rfl (hC8 _ _ _ _ _ _ _ h)
            · have h := h.2 hc
              refine z_iconst hC (v := 1) k_iconst_1 dX5_isSaidOf_44 ?_
              refine z_goto hC (tgt := 49) dX5_isSaidOf_45 (by decide) ?_
              refine cl_RX5_42 hC (c_X5_push _ G x0 true K N I36 L R _ h) hk3 dX5_isSaidOf_49 (by rw [hRm]; exact ⟨Nat.le_of_ble_eq_true rfl, Nat.le_of_ble_eq_true rfl⟩) ⟨Nat.zero_le _, Nat.zero_le _⟩ (Nat.le_of_ble_eq_true rfl) (z_kIv (I := I36) (fun I39 h => ?_))
              refine z_goto hC (tgt := 158) dX5_isSaidOf_52 (by decide) ?_
              obtain ⟨v40, ev40⟩ : ∃ y : Int32, y = x5 + 1 := ⟨_, rfl⟩
              have h := h v40 ev40
              refine z_iinc hC (q := 5) (v := v40) (lv1 := [(5, .int v40), (0, .ref x0), (1, .ref x1), (2, .ref x2), (3, .ref x3), (4, .int x4)]) dX5_isSaidOf_158 rfl (by rw [ev40, k_iinc_1]) (by decide) rfl ?_
              refine z_goto hC (tgt := 8) dX5_isSaidOf_161 (by decide) ?_
              exact z_sub [(0, .ref x0), (1, .ref x1), (2, .ref x2), (3, .ref x3), (4, .int x4), (5, .int v40)] [1, 2, 3, 4, 5, 0] rfl (hC8 _ _ _ _ _ _ _ h)
  exact key n x0 x1 x2 x3 x4 x5 I h0
set_option maxHeartbeats 4000000 in
set_option maxRecDepth 100000 in
theorem c_X5_isSaidOf  (l : Launch) (G : ZG) (a0 : Nat) (a1 : Nat) (a2 : Nat) (a3 : Nat) (a4 : Int32) (K : MK) (N : MK) (I : MI) (L : ML) (R : MR) (Q : Bool → MI → Prop) (h : w_X5_isSaidOf a0 a1 a2 a3 a4 K N I L R Q) : Met l yX5_isSaidOf (.code yX5_isSaidOf cX5_isSaidOf 8 (some .boolean) :: z_tbl) rm_X5_isSaidOf (z_Pc G [.ref a0, .ref a1, .ref a2, .ref a3, .int a4] K N I L R) (z_Qc G (qIz K N L R Q)) 0 0 (z_A G) := by
  refine z_met (by decide) (Nat.le_of_ble_eq_true rfl) (fun X hX hRm hC0 hnm => ?_)
  subst hX
  have hC : ZOk X G RX5 cX5_isSaidOf 8 (some .boolean) := hC0
  show Z X G 8 0 0 _ K N I L R 0 [(0, .ref a0), (1, .ref a1), (2, .ref a2), (3, .ref a3), (4, .int a4)] []
  delta w_X5_isSaidOf at h
  refine z_aload_n hC (q := 0) dX5_isSaidOf_0 rfl rfl ?_
  refine z_iconst hC (v := 0) k_iconst_0 dX5_isSaidOf_1 ?_
  obtain ⟨hk1, h⟩ := h
  refine pf_RX5_29 hC dX5_isSaidOf_2 hk1 ?_
  refine z_genI (fun I2 eI2 => ?_)
  have h := h I2 eI2
  refine z_iconst hC (v := 0) k_iconst_0 dX5_isSaidOf_5 ?_
  refine z_istore hC (lv1 := [(5, .int 0), (0, .ref a0), (1, .ref a1), (2, .ref a2), (3, .ref a3), (4, .int a4)]) dX5_isSaidOf_6 (by decide) rfl ?_
  exact z_sub [(0, .ref a0), (1, .ref a1), (2, .ref a2), (3, .ref a3), (4, .int a4), (5, .int 0)] [1, 2, 3, 4, 5, 0] rfl (z_X5_isSaidOf_8 hC hRm h)
def w_X6_isFirstWord  (a0 : Int32) (K : MK) (N : MK) (I : MI) (L : ML) (R : MR) (Q : Bool → Prop) : Prop := (a0 = 7 → Q true) ∧ (¬ a0 = 7 → (a0 = 8 → Q false) ∧ (¬ a0 = 8 → (a0 = 9 → Q true) ∧ (¬ a0 = 9 → (a0 = 10 → Q false) ∧ (¬ a0 = 10 → (a0 = 11 → Q false) ∧ (¬ a0 = 11 → (a0 = 12 → Q false) ∧ (¬ a0 = 12 → (a0 = 13 → Q false) ∧ (¬ a0 = 13 → (a0 = 14 → Q false) ∧ (¬ a0 = 14 → (a0 = 15 → Q false) ∧ (¬ a0 = 15 → (a0 = 16 → Q false) ∧ (¬ a0 = 16 → (a0 = 17 → Q false) ∧ (¬ a0 = 17 → (a0 = 18 → Q false) ∧ (¬ a0 = 18 → (a0 = 19 → Q false) ∧ (¬ a0 = 19 → (a0 = 20 → Q false) ∧ (¬ a0 = 20 → (a0 = 21 → Q false) ∧ (¬ a0 = 21 → (a0 = 22 → Q false) ∧ (¬ a0 = 22 → (a0 = 23 → Q false) ∧ (¬ a0 = 23 → (a0 = 24 → Q false) ∧ (¬ a0 = 24 → (a0 = 25 → Q false) ∧ (¬ a0 = 25 → (a0 = 26 → Q false) ∧ (¬ a0 = 26 → (a0 = 27 → Q true) ∧ (¬ a0 = 27 → (a0 = 28 → Q true) ∧ (¬ a0 = 28 → (a0 = 29 → Q true) ∧ (¬ a0 = 29 → (a0 = 30 → Q true) ∧ (¬ a0 = 30 → (a0 = 31 → Q true) ∧ (¬ a0 = 31 → (a0 = 32 → Q true) ∧ (¬ a0 = 32 → (a0 = 33 → Q true) ∧ (¬ a0 = 33 → Q false)))))))))))))))))))))))))))
set_option maxHeartbeats 4000000 in
set_option maxRecDepth 100000 in
theorem c_X6_isFirstWord  (l : Launch) (G : ZG) (a0 : Int32) (K : MK) (N : MK) (I : MI) (L : ML) (R : MR) (Q : Bool → Prop) (h : w_X6_isFirstWord a0 K N I L R Q) : Met l yX6_isFirstWord (.code yX6_isFirstWord cX6_isFirstWord 1 (some .boolean) :: z_tbl) rm_X6_isFirstWord (z_Pc G [.int a0] K N I L R) (z_Qc G (qPz K N I L R Q)) 0 0 (z_A G) := by
  refine z_met (by decide) (Nat.le_of_ble_eq_true rfl) (fun X hX hRm hC0 hnm => ?_)
  subst hX
  have hC : ZOk X G RX6 cX6_isFirstWord 1 (some .boolean) := hC0
  show Z X G 1 0 0 _ K N I L R 0 [(0, .int a0)] []
  delta w_X6_isFirstWord at h
  refine z_iload_n hC (q := 0) dX6_isFirstWord_0 rfl rfl ?_
  by_cases hc0 : a0 = 7
  · have h := h.1 hc0
    refine z_tableIn hC (off := 123) (tgt := 124) 7 hc0 dX6_isFirstWord_1 (by decide) (by decide) ?_
    refine z_iconst hC (v := 1) k_iconst_1 dX6_isFirstWord_124 ?_
    exact z_zret (b := true) hC dX6_isFirstWord_125 rfl ⟨true, rfl, rfl, rfl, rfl, rfl, rfl, h⟩
  · have h := h.2 hc0
    by_cases hc1 : a0 = 8
    · have h := h.1 hc1
      refine z_tableIn hC (off := 125) (tgt := 126) 8 hc1 dX6_isFirstWord_1 (by decide) (by decide) ?_
      refine z_iconst hC (v := 0) k_iconst_0 dX6_isFirstWord_126 ?_
      exact z_zret (b := false) hC dX6_isFirstWord_127 rfl ⟨false, rfl, rfl, rfl, rfl, rfl, rfl, h⟩
    · have h := h.2 hc1
      by_cases hc2 : a0 = 9
      · have h := h.1 hc2
        refine z_tableIn hC (off := 123) (tgt := 124) 9 hc2 dX6_isFirstWord_1 (by decide) (by decide) ?_
        refine z_iconst hC (v := 1) k_iconst_1 dX6_isFirstWord_124 ?_
        exact z_zret (b := true) hC dX6_isFirstWord_125 rfl ⟨true, rfl, rfl, rfl, rfl, rfl, rfl, h⟩
      · have h := h.2 hc2
        by_cases hc3 : a0 = 10
        · have h := h.1 hc3
          refine z_tableIn hC (off := 125) (tgt := 126) 10 hc3 dX6_isFirstWord_1 (by decide) (by decide) ?_
          refine z_iconst hC (v := 0) k_iconst_0 dX6_isFirstWord_126 ?_
          exact z_zret (b := false) hC dX6_isFirstWord_127 rfl ⟨false, rfl, rfl, rfl, rfl, rfl, rfl, h⟩
        · have h := h.2 hc3
          by_cases hc4 : a0 = 11
          · have h := h.1 hc4
            refine z_tableIn hC (off := 125) (tgt := 126) 11 hc4 dX6_isFirstWord_1 (by decide) (by decide) ?_
            refine z_iconst hC (v := 0) k_iconst_0 dX6_isFirstWord_126 ?_
            exact z_zret (b := false) hC dX6_isFirstWord_127 rfl ⟨false, rfl, rfl, rfl, rfl, rfl, rfl, h⟩
          · have h := h.2 hc4
            by_cases hc5 : a0 = 12
            · have h := h.1 hc5
              refine z_tableIn hC (off := 125) (tgt := 126) 12 hc5 dX6_isFirstWord_1 (by decide) (by decide) ?_
              refine z_iconst hC (v := 0) k_iconst_0 dX6_isFirstWord_126 ?_
              exact z_zret (b := false) hC dX6_isFirstWord_127 rfl ⟨false, rfl, rfl, rfl, rfl, rfl, rfl, h⟩
            · have h := h.2 hc5
              by_cases hc6 : a0 = 13
              · have h := h.1 hc6
                refine z_tableIn hC (off := 125) (tgt := 126) 13 hc6 dX6_isFirstWord_1 (by decide) (by decide) ?_
                refine z_iconst hC (v := 0) k_iconst_0 dX6_isFirstWord_126 ?_
                exact z_zret (b := false) hC dX6_isFirstWord_127 rfl ⟨false, rfl, rfl, rfl, rfl, rfl, rfl, h⟩
              · have h := h.2 hc6
                by_cases hc7 : a0 = 14
                · have h := h.1 hc7
                  refine z_tableIn hC (off := 125) (tgt := 126) 14 hc7 dX6_isFirstWord_1 (by decide) (by decide) ?_
                  refine z_iconst hC (v := 0) k_iconst_0 dX6_isFirstWord_126 ?_
                  exact z_zret (b := false) hC dX6_isFirstWord_127 rfl ⟨false, rfl, rfl, rfl, rfl, rfl, rfl, h⟩
                · have h := h.2 hc7
                  by_cases hc8 : a0 = 15
                  · have h := h.1 hc8
                    refine z_tableIn hC (off := 125) (tgt := 126) 15 hc8 dX6_isFirstWord_1 (by decide) (by decide) ?_
                    refine z_iconst hC (v := 0) k_iconst_0 dX6_isFirstWord_126 ?_
                    exact z_zret (b := false) hC dX6_isFirstWord_127 rfl ⟨false, rfl, rfl, rfl, rfl, rfl, rfl, h⟩
                  · have h := h.2 hc8
                    by_cases hc9 : a0 = 16
                    · have h := h.1 hc9
                      refine z_tableIn hC (off := 125) (tgt := 126) 16 hc9 dX6_isFirstWord_1 (by decide) (by decide) ?_
                      refine z_iconst hC (v := 0) k_iconst_0 dX6_isFirstWord_126 ?_
                      exact z_zret (b := false) hC dX6_isFirstWord_127 rfl ⟨false, rfl, rfl, rfl, rfl, rfl, rfl, h⟩
                    · have h := h.2 hc9
                      by_cases hc10 : a0 = 17
                      · have h := h.1 hc10
                        refine z_tableIn hC (off := 125) (tgt := 126) 17 hc10 dX6_isFirstWord_1 (by decide) (by decide) ?_
                        refine z_iconst hC (v := 0) k_iconst_0 dX6_isFirstWord_126 ?_
                        exact z_zret (b := false) hC dX6_isFirstWord_127 rfl ⟨false, rfl, rfl, rfl, rfl, rfl, rfl, h⟩
                      · have h := h.2 hc10
                        by_cases hc11 : a0 = 18
                        · have h := h.1 hc11
                          refine z_tableIn hC (off := 125) (tgt := 126) 18 hc11 dX6_isFirstWord_1 (by decide) (by decide) ?_
                          refine z_iconst hC (v := 0) k_iconst_0 dX6_isFirstWord_126 ?_
                          exact z_zret (b := false) hC dX6_isFirstWord_127 rfl ⟨false, rfl, rfl, rfl, rfl, rfl, rfl, h⟩
                        · have h := h.2 hc11
                          by_cases hc12 : a0 = 19
                          · have h := h.1 hc12
                            refine z_tableIn hC (off := 125) (tgt := 126) 19 hc12 dX6_isFirstWord_1 (by decide) (by decide) ?_
                            refine z_iconst hC (v := 0) k_iconst_0 dX6_isFirstWord_126 ?_
                            exact z_zret (b := false) hC dX6_isFirstWord_127 rfl ⟨false, rfl, rfl, rfl, rfl, rfl, rfl, h⟩
                          · have h := h.2 hc12
                            by_cases hc13 : a0 = 20
                            · have h := h.1 hc13
                              refine z_tableIn hC (off := 125) (tgt := 126) 20 hc13 dX6_isFirstWord_1 (by decide) (by decide) ?_
                              refine z_iconst hC (v := 0) k_iconst_0 dX6_isFirstWord_126 ?_
                              exact z_zret (b := false) hC dX6_isFirstWord_127 rfl ⟨false, rfl, rfl, rfl, rfl, rfl, rfl, h⟩
                            · have h := h.2 hc13
                              by_cases hc14 : a0 = 21
                              · have h := h.1 hc14
                                refine z_tableIn hC (off := 125) (tgt := 126) 21 hc14 dX6_isFirstWord_1 (by decide) (by decide) ?_
                                refine z_iconst hC (v := 0) k_iconst_0 dX6_isFirstWord_126 ?_
                                exact z_zret (b := false) hC dX6_isFirstWord_127 rfl ⟨false, rfl, rfl, rfl, rfl, rfl, rfl, h⟩
                              · have h := h.2 hc14
                                by_cases hc15 : a0 = 22
                                · have h := h.1 hc15
                                  refine z_tableIn hC (off := 125) (tgt := 126) 22 hc15 dX6_isFirstWord_1 (by decide) (by decide) ?_
                                  refine z_iconst hC (v := 0) k_iconst_0 dX6_isFirstWord_126 ?_
                                  exact z_zret (b := false) hC dX6_isFirstWord_127 rfl ⟨false, rfl, rfl, rfl, rfl, rfl, rfl, h⟩
                                · have h := h.2 hc15
                                  by_cases hc16 : a0 = 23
                                  · have h := h.1 hc16
                                    refine z_tableIn hC (off := 125) (tgt := 126) 23 hc16 dX6_isFirstWord_1 (by decide) (by decide) ?_
                                    refine z_iconst hC (v := 0) k_iconst_0 dX6_isFirstWord_126 ?_
                                    exact z_zret (b := false) hC dX6_isFirstWord_127 rfl ⟨false, rfl, rfl, rfl, rfl, rfl, rfl, h⟩
                                  · have h := h.2 hc16
                                    by_cases hc17 : a0 = 24
                                    · have h := h.1 hc17
                                      refine z_tableIn hC (off := 125) (tgt := 126) 24 hc17 dX6_isFirstWord_1 (by decide) (by decide) ?_
                                      refine z_iconst hC (v := 0) k_iconst_0 dX6_isFirstWord_126 ?_
                                      exact z_zret (b := false) hC dX6_isFirstWord_127 rfl ⟨false, rfl, rfl, rfl, rfl, rfl, rfl, h⟩
                                    · have h := h.2 hc17
                                      by_cases hc18 : a0 = 25
                                      · have h := h.1 hc18
                                        refine z_tableIn hC (off := 125) (tgt := 126) 25 hc18 dX6_isFirstWord_1 (by decide) (by decide) ?_
                                        refine z_iconst hC (v := 0) k_iconst_0 dX6_isFirstWord_126 ?_
                                        exact z_zret (b := false) hC dX6_isFirstWord_127 rfl ⟨false, rfl, rfl, rfl, rfl, rfl, rfl, h⟩
                                      · have h := h.2 hc18
                                        by_cases hc19 : a0 = 26
                                        · have h := h.1 hc19
                                          refine z_tableIn hC (off := 125) (tgt := 126) 26 hc19 dX6_isFirstWord_1 (by decide) (by decide) ?_
                                          refine z_iconst hC (v := 0) k_iconst_0 dX6_isFirstWord_126 ?_
                                          exact z_zret (b := false) hC dX6_isFirstWord_127 rfl ⟨false, rfl, rfl, rfl, rfl, rfl, rfl, h⟩
                                        · have h := h.2 hc19
                                          by_cases hc20 : a0 = 27
                                          · have h := h.1 hc20
                                            refine z_tableIn hC (off := 123) (tgt := 124) 27 hc20 dX6_isFirstWord_1 (by decide) (by decide) ?_
                                            refine z_iconst hC (v := 1) k_iconst_1 dX6_isFirstWord_124 ?_
                                            exact z_zret (b := true) hC dX6_isFirstWord_125 rfl ⟨true, rfl, rfl, rfl, rfl, rfl, rfl, h⟩
                                          · have h := h.2 hc20
                                            by_cases hc21 : a0 = 28
                                            · have h := h.1 hc21
                                              refine z_tableIn hC (off := 123) (tgt := 124) 28 hc21 dX6_isFirstWord_1 (by decide) (by decide) ?_
                                              refine z_iconst hC (v := 1) k_iconst_1 dX6_isFirstWord_124 ?_
                                              exact z_zret (b := true) hC dX6_isFirstWord_125 rfl ⟨true, rfl, rfl, rfl, rfl, rfl, rfl, h⟩
                                            · have h := h.2 hc21
                                              by_cases hc22 : a0 = 29
                                              · have h := h.1 hc22
                                                refine z_tableIn hC (off := 123) (tgt := 124) 29 hc22 dX6_isFirstWord_1 (by decide) (by decide) ?_
                                                refine z_iconst hC (v := 1) k_iconst_1 dX6_isFirstWord_124 ?_
                                                exact z_zret (b := true) hC dX6_isFirstWord_125 rfl ⟨true, rfl, rfl, rfl, rfl, rfl, rfl, h⟩
                                              · have h := h.2 hc22
                                                by_cases hc23 : a0 = 30
                                                · have h := h.1 hc23
                                                  refine z_tableIn hC (off := 123) (tgt := 124) 30 hc23 dX6_isFirstWord_1 (by decide) (by decide) ?_
                                                  refine z_iconst hC (v := 1) k_iconst_1 dX6_isFirstWord_124 ?_
                                                  exact z_zret (b := true) hC dX6_isFirstWord_125 rfl ⟨true, rfl, rfl, rfl, rfl, rfl, rfl, h⟩
                                                · have h := h.2 hc23
                                                  by_cases hc24 : a0 = 31
                                                  · have h := h.1 hc24
                                                    refine z_tableIn hC (off := 123) (tgt := 124) 31 hc24 dX6_isFirstWord_1 (by decide) (by decide) ?_
                                                    refine z_iconst hC (v := 1) k_iconst_1 dX6_isFirstWord_124 ?_
                                                    exact z_zret (b := true) hC dX6_isFirstWord_125 rfl ⟨true, rfl, rfl, rfl, rfl, rfl, rfl, h⟩
                                                  · have h := h.2 hc24
                                                    by_cases hc25 : a0 = 32
                                                    · have h := h.1 hc25
                                                      refine z_tableIn hC (off := 123) (tgt := 124) 32 hc25 dX6_isFirstWord_1 (by decide) (by decide) ?_
                                                      refine z_iconst hC (v := 1) k_iconst_1 dX6_isFirstWord_124 ?_
                                                      exact z_zret (b := true) hC dX6_isFirstWord_125 rfl ⟨true, rfl, rfl, rfl, rfl, rfl, rfl, h⟩
                                                    · have h := h.2 hc25
                                                      by_cases hc26 : a0 = 33
                                                      · have h := h.1 hc26
                                                        refine z_tableIn hC (off := 123) (tgt := 124) 33 hc26 dX6_isFirstWord_1 (by decide) (by decide) ?_
                                                        refine z_iconst hC (v := 1) k_iconst_1 dX6_isFirstWord_124 ?_
                                                        exact z_zret (b := true) hC dX6_isFirstWord_125 rfl ⟨true, rfl, rfl, rfl, rfl, rfl, rfl, h⟩
                                                      · have h := h.2 hc26
                                                        have hout : a0.toInt < 7 ∨ 33 < a0.toInt := by
                                                          have hc0 := z_nei hc0 (by decide : (7 : Int32).toInt = 7)
                                                          have hc1 := z_nei hc1 (by decide : (8 : Int32).toInt = 8)
                                                          have hc2 := z_nei hc2 (by decide : (9 : Int32).toInt = 9)
                                                          have hc3 := z_nei hc3 (by decide : (10 : Int32).toInt = 10)
                                                          have hc4 := z_nei hc4 (by decide : (11 : Int32).toInt = 11)
                                                          have hc5 := z_nei hc5 (by decide : (12 : Int32).toInt = 12)
                                                          have hc6 := z_nei hc6 (by decide : (13 : Int32).toInt = 13)
                                                          have hc7 := z_nei hc7 (by decide : (14 : Int32).toInt = 14)
                                                          have hc8 := z_nei hc8 (by decide : (15 : Int32).toInt = 15)
                                                          have hc9 := z_nei hc9 (by decide : (16 : Int32).toInt = 16)
                                                          have hc10 := z_nei hc10 (by decide : (17 : Int32).toInt = 17)
                                                          have hc11 := z_nei hc11 (by decide : (18 : Int32).toInt = 18)
                                                          have hc12 := z_nei hc12 (by decide : (19 : Int32).toInt = 19)
                                                          have hc13 := z_nei hc13 (by decide : (20 : Int32).toInt = 20)
                                                          have hc14 := z_nei hc14 (by decide : (21 : Int32).toInt = 21)
                                                          have hc15 := z_nei hc15 (by decide : (22 : Int32).toInt = 22)
                                                          have hc16 := z_nei hc16 (by decide : (23 : Int32).toInt = 23)
                                                          have hc17 := z_nei hc17 (by decide : (24 : Int32).toInt = 24)
                                                          have hc18 := z_nei hc18 (by decide : (25 : Int32).toInt = 25)
                                                          have hc19 := z_nei hc19 (by decide : (26 : Int32).toInt = 26)
                                                          have hc20 := z_nei hc20 (by decide : (27 : Int32).toInt = 27)
                                                          have hc21 := z_nei hc21 (by decide : (28 : Int32).toInt = 28)
                                                          have hc22 := z_nei hc22 (by decide : (29 : Int32).toInt = 29)
                                                          have hc23 := z_nei hc23 (by decide : (30 : Int32).toInt = 30)
                                                          have hc24 := z_nei hc24 (by decide : (31 : Int32).toInt = 31)
                                                          have hc25 := z_nei hc25 (by decide : (32 : Int32).toInt = 32)
                                                          have hc26 := z_nei hc26 (by decide : (33 : Int32).toInt = 33)
                                                          omega
                                                        refine z_tableOut hC (tgt := 126) dX6_isFirstWord_1 hout (by decide) ?_
                                                        refine z_iconst hC (v := 0) k_iconst_0 dX6_isFirstWord_126 ?_
                                                        exact z_zret (b := false) hC dX6_isFirstWord_127 rfl ⟨false, rfl, rfl, rfl, rfl, rfl, rfl, h⟩
def w_X7_has  (a0 : Nat) (a1 : Int32) (K : MK) (N : MK) (I : MI) (L : ML) (R : MR) (Q : Bool → Prop) : Prop := (a1 < 0 → Q false) ∧ (¬ a1 < 0 → K a0 = 8 ∧ ((I a0 3) ≤ a1 → Q false) ∧ (¬ (I a0 3) ≤ a1 → Q true))
set_option maxHeartbeats 4000000 in
set_option maxRecDepth 100000 in
theorem c_X7_has  (l : Launch) (G : ZG) (a0 : Nat) (a1 : Int32) (K : MK) (N : MK) (I : MI) (L : ML) (R : MR) (Q : Bool → Prop) (h : w_X7_has a0 a1 K N I L R Q) : Met l yX7_has (.code yX7_has cX7_has 2 (some .boolean) :: z_tbl) rm_X7_has (z_Pc G [.ref a0, .int a1] K N I L R) (z_Qc G (qPz K N I L R Q)) 0 0 (z_A G) := by
  refine z_met (by decide) (Nat.le_of_ble_eq_true rfl) (fun X hX hRm hC0 hnm => ?_)
  subst hX
  have hC : ZOk X G RX7 cX7_has 2 (some .boolean) := hC0
  show Z X G 2 0 0 _ K N I L R 0 [(0, .ref a0), (1, .int a1)] []
  delta w_X7_has at h
  refine z_iload_n hC (q := 1) dX7_has_0 rfl rfl ?_
  refine z_if_lt hC (tgt := 16) dX7_has_1 (by decide) (fun hc => ?_) (fun hc => ?_)
  · have h := h.1 hc
    refine z_iconst hC (v := 0) k_iconst_0 dX7_has_16 ?_
    exact z_zret (b := false) hC dX7_has_17 rfl ⟨false, rfl, rfl, rfl, rfl, rfl, rfl, h⟩
  · have h := h.2 hc
    refine z_iload_n hC (q := 1) dX7_has_4 rfl rfl ?_
    refine z_aload_n hC (q := 0) dX7_has_5 rfl rfl ?_
    obtain ⟨hk1, h⟩ := h
    refine gf_RX7_9 hC dX7_has_6 hk1 ?_
    refine z_icmp_ge hC (tgt := 16) dX7_has_9 (by decide) (fun hc => ?_) (fun hc => ?_)
    · have h := h.1 hc
      refine z_iconst hC (v := 0) k_iconst_0 dX7_has_16 ?_
      exact z_zret (b := false) hC dX7_has_17 rfl ⟨false, rfl, rfl, rfl, rfl, rfl, rfl, h⟩
    · have h := h.2 hc
      refine z_iconst hC (v := 1) k_iconst_1 dX7_has_12 ?_
      refine z_goto hC (tgt := 17) dX7_has_13 (by decide) ?_
      exact z_zret (b := true) hC dX7_has_17 rfl ⟨true, rfl, rfl, rfl, rfl, rfl, rfl, h⟩
def w_X7_nameOf  (a0 : Nat) (a1 : Int32) (K : MK) (N : MK) (I : MI) (L : ML) (R : MR) (Q : Int64 → Prop) : Prop := (a1 < 0 → Q 0) ∧ (¬ a1 < 0 → K a0 = 8 ∧ ((I a0 3) ≤ a1 → Q 0) ∧ (¬ (I a0 3) ≤ a1 → ∃ b2 : Nat, R a0 1 = some b2 ∧ K b2 = 15 ∧ vp_in a1 (N b2) ∧ Q (L b2 (ix a1))))
set_option maxHeartbeats 4000000 in
set_option maxRecDepth 100000 in
theorem c_X7_nameOf  (l : Launch) (G : ZG) (a0 : Nat) (a1 : Int32) (K : MK) (N : MK) (I : MI) (L : ML) (R : MR) (Q : Int64 → Prop) (h : w_X7_nameOf a0 a1 K N I L R Q) : Met l yX7_nameOf (.code yX7_nameOf cX7_nameOf 2 (some .long) :: z_tbl) rm_X7_nameOf (z_Pc G [.ref a0, .int a1] K N I L R) (z_Qc G (qPl K N I L R Q)) 0 0 (z_A G) := by
  refine z_met (by decide) (Nat.le_of_ble_eq_true rfl) (fun X hX hRm hC0 hnm => ?_)
  subst hX
  have hC : ZOk X G RX7 cX7_nameOf 2 (some .long) := hC0
  show Z X G 2 0 0 _ K N I L R 0 [(0, .ref a0), (1, .int a1)] []
  delta w_X7_nameOf at h
  refine z_iload_n hC (q := 1) dX7_nameOf_0 rfl rfl ?_
  refine z_if_lt hC (tgt := 21) dX7_nameOf_1 (by decide) (fun hc => ?_) (fun hc => ?_)
  · have h := h.1 hc
    refine z_lconst hC (v := 0) k_lconst_0 dX7_nameOf_21 ?_
    exact z_lret hC dX7_nameOf_22 ⟨_, rfl, rfl, rfl, rfl, rfl, rfl, h⟩
  · have h := h.2 hc
    refine z_iload_n hC (q := 1) dX7_nameOf_4 rfl rfl ?_
    refine z_aload_n hC (q := 0) dX7_nameOf_5 rfl rfl ?_
    obtain ⟨hk1, h⟩ := h
    refine gf_RX7_9 hC dX7_nameOf_6 hk1 ?_
    refine z_icmp_ge hC (tgt := 21) dX7_nameOf_9 (by decide) (fun hc => ?_) (fun hc => ?_)
    · have h := h.1 hc
      refine z_lconst hC (v := 0) k_lconst_0 dX7_nameOf_21 ?_
      exact z_lret hC dX7_nameOf_22 ⟨_, rfl, rfl, rfl, rfl, rfl, rfl, h⟩
    · have h := h.2 hc
      refine z_aload_n hC (q := 0) dX7_nameOf_12 rfl rfl ?_
      obtain ⟨b2, hb2, h⟩ := h
      refine gf_RX7_18 hC dX7_nameOf_13 hk1 hb2 ?_
      refine z_iload_n hC (q := 1) dX7_nameOf_16 rfl rfl ?_
      obtain ⟨hk3, h⟩ := h
      obtain ⟨hi4, h⟩ := h
      refine z_laload hC hk3 hi4 dX7_nameOf_17 ?_
      refine z_goto hC (tgt := 22) dX7_nameOf_18 (by decide) ?_
      exact z_lret hC dX7_nameOf_22 ⟨_, rfl, rfl, rfl, rfl, rfl, rfl, h⟩
def w_X7_find_2  (x0 : Nat) (x1 : Int64) (x3 : Int32)  (K : MK) (N : MK) (I : MI) (L : ML) (R : MR)  (Q : Int32 → Prop) : Prop := ∃ J : Nat → Nat → Int64 → Int32 → Prop, (∃ n, J n x0 x1 x3) ∧ ∀ (n : Nat) (x0 : Nat) (x1 : Int64) (x3 : Int32), J n x0 x1 x3 → K x0 = 8 ∧ ((I x0 3) ≤ x3 → Q (-1)) ∧ (¬ (I x0 3) ≤ x3 → ∃ b2 : Nat, R x0 1 = some b2 ∧ K b2 = 15 ∧ vp_in x3 (N b2) ∧ (¬ (lg_cmp (L b2 (ix x3)) x1) = 0 → ∀ v5 : Int32, v5 = x3 + 1 → ∃ n1, n1 < n ∧ J n1 x0 x1 v5) ∧ ((lg_cmp (L b2 (ix x3)) x1) = 0 → Q x3))
def w_X7_find  (a0 : Nat) (a1 : Int64) (K : MK) (N : MK) (I : MI) (L : ML) (R : MR) (Q : Int32 → Prop) : Prop := w_X7_find_2 a0 a1 0 K N I L R Q
set_option maxHeartbeats 4000000 in
set_option maxRecDepth 100000 in
theorem z_X7_find_2 {X : ZX} {G : ZG}  {x0 : Nat} {x1 : Int64} {x3 : Int32}  {K : MK} {N : MK} {I : MI} {L : ML} {R : MR}  {Q : Int32 → Prop} (hC : ZOk X G RX7 cX7_find 4 (some .int)) (hRm : X.2.2.2.1 = rm_X7_find) (h : w_X7_find_2 x0 x1 x3 K N I L R  Q) : Z X G 4 0 0 (z_T X G (qPi K N I L R Q) 0 0) K N I L R 2 [(0, .ref x0), (1, .long x1), (3, .int x3)] [] := by
  delta w_X7_find_2 at h
  obtain ⟨J, ⟨n, h0⟩, hs⟩ := h
  have key : ∀ (n : Nat) (x0 : Nat) (x1 : Int64) (x3 : Int32), J n x0 x1 x3 → Z X G 4 0 0 (z_T X G (qPi K N I L R Q) 0 0) K N I L R 2 [(0, .ref x0), (1, .long x1), (3, .int x3)] [] := by
    intro n
    induction n using Nat.strongRecOn with
    | _ n ih =>
      intro x0 x1 x3 hJ
      have hC2 : ∀ (y0 : Nat) (y1 : Int64) (y2 : Int32) , (∃ n1, n1 < n ∧ J n1 y0 y1 y2) → Z X G 4 0 0 (z_T X G (qPi K N I L R Q) 0 0) K N I L R 2 [(0, .ref y0), (1, .long y1), (3, .int y2)] [] := fun y0 y1 y2 ⟨n1, hn1, hj⟩ => ih n1 hn1 y0 y1 y2 hj
      have h := hs n x0 x1 x3 hJ
      refine z_iload_n hC (q := 2) dX7_find_2 rfl rfl ?_
      refine z_aload_n hC (q := 0) dX7_find_3 rfl rfl ?_
      obtain ⟨hk1, h⟩ := h
      refine gf_RX7_9 hC dX7_find_4 hk1 ?_
      refine z_icmp_ge hC (tgt := 29) dX7_find_7 (by decide) (fun hc => ?_) (fun hc => ?_)
      · have h := h.1 hc
        refine z_iconst hC (v := (-1)) k_iconst_m1 dX7_find_29 ?_
        exact z_iret hC dX7_find_30 ⟨_, rfl, rfl, rfl, rfl, rfl, rfl, h⟩
      · have h := h.2 hc
        refine z_aload_n hC (q := 0) dX7_find_10 rfl rfl ?_
        obtain ⟨b2, hb2, h⟩ := h
        refine gf_RX7_18 hC dX7_find_11 hk1 hb2 ?_
        refine z_iload_n hC (q := 2) dX7_find_14 rfl rfl ?_
        obtain ⟨hk3, h⟩ := h
        obtain ⟨hi4, h⟩ := h
        refine z_laload hC hk3 hi4 dX7_find_15 ?_
        refine z_lload_n hC (q := 1) dX7_find_16 rfl rfl ?_
        refine z_lcmp hC dX7_find_17 ?_
        refine z_if_ne hC (tgt := 23) dX7_find_18 (by decide) (fun hc => ?_) (fun hc => ?_)
        · have h := h.1 hc
          obtain ⟨v5, ev5⟩ : ∃ y : Int32, y = x3 + 1 := ⟨_, rfl⟩
          have h := h v5 ev5
          refine z_iinc hC (q := 2) (v := v5) (lv1 := [(3, .int v5), (0, .ref x0), (1, .long x1)]) dX7_find_23 rfl (by rw [ev5, k_iinc_1]) (by decide) rfl ?_
          refine z_goto hC (tgt := 2) dX7_find_26 (by decide) ?_
          exact z_sub [(0, .ref x0), (1, .long x1), (3, .int v5)] [1, 2, 0] rfl (hC2 _ _ _ h)
        · have h := h.2 hc
          refine z_iload_n hC (q := 2) dX7_find_21 rfl rfl ?_
          exact z_iret hC dX7_find_22 ⟨_, rfl, rfl, rfl, rfl, rfl, rfl, h⟩
  exact key n x0 x1 x3 h0
set_option maxHeartbeats 4000000 in
set_option maxRecDepth 100000 in
theorem c_X7_find  (l : Launch) (G : ZG) (a0 : Nat) (a1 : Int64) (K : MK) (N : MK) (I : MI) (L : ML) (R : MR) (Q : Int32 → Prop) (h : w_X7_find a0 a1 K N I L R Q) : Met l yX7_find (.code yX7_find cX7_find 4 (some .int) :: z_tbl) rm_X7_find (z_Pc G [.ref a0, .long a1] K N I L R) (z_Qc G (qPi K N I L R Q)) 0 0 (z_A G) := by
  refine z_met (by decide) (Nat.le_of_ble_eq_true rfl) (fun X hX hRm hC0 hnm => ?_)
  subst hX
  have hC : ZOk X G RX7 cX7_find 4 (some .int) := hC0
  show Z X G 4 0 0 _ K N I L R 0 [(0, .ref a0), (1, .long a1)] []
  delta w_X7_find at h
  refine z_iconst hC (v := 0) k_iconst_0 dX7_find_0 ?_
  refine z_istore_n hC (lv1 := [(3, .int 0), (0, .ref a0), (1, .long a1)]) dX7_find_1 rfl (by decide) rfl ?_
  exact z_sub [(0, .ref a0), (1, .long a1), (3, .int 0)] [1, 2, 0] rfl (z_X7_find_2 hC hRm h)
def w_X8_putInt_3  (x0 : Nat) (x1 : Int32) (x2 : Int32)  (K : MK) (N : MK) (I : MI) (L : ML) (R : MR)  (Q : MI → Prop) : Prop := ∃ J : Nat → Nat → Int32 → Int32 → MI → Prop, (∃ n, J n x0 x1 x2 I) ∧ ∀ (n : Nat) (x0 : Nat) (x1 : Int32) (x2 : Int32) (I : MI), J n x0 x1 x2 I → (x2 < 0 → Q I) ∧ (¬ x2 < 0 → K x0 = 9 ∧ ((940 : Int32) ≤ (I x0 1) → ∀ v2 : Int32, v2 = x2 + (-8) → ∃ n1, n1 < n ∧ J n1 x0 x1 v2 I) ∧ (¬ (940 : Int32) ≤ (I x0 1) → ∃ b3 : Nat, R x0 0 = some b3 ∧ K b3 = 14 ∧ vp_in (I x0 1) (N b3) ∧ ∀ I6 : MI, I6 = mup I b3 (ix (I x0 1)) ((ushr x1 x2) &&& 255) → ∀ I7 : MI, I7 = mup I6 x0 1 ((I6 x0 1) + 1) → ∀ v8 : Int32, v8 = x2 + (-8) → ∃ n1, n1 < n ∧ J n1 x0 x1 v8 I7))
def w_X8_putInt  (a0 : Nat) (a1 : Int32) (K : MK) (N : MK) (I : MI) (L : ML) (R : MR) (Q : MI → Prop) : Prop := w_X8_putInt_3 a0 a1 24 K N I L R Q
set_option maxHeartbeats 4000000 in
set_option maxRecDepth 100000 in
theorem z_X8_putInt_3 {X : ZX} {G : ZG}  {x0 : Nat} {x1 : Int32} {x2 : Int32}  {K : MK} {N : MK} {I : MI} {L : ML} {R : MR}  {Q : MI → Prop} (hC : ZOk X G RX8 cX8_putInt 3 none) (hRm : X.2.2.2.1 = rm_X8_putInt) (h : w_X8_putInt_3 x0 x1 x2 K N I L R  Q) : Z X G 3 0 0 (z_T X G (qIv K N L R Q) 0 0) K N I L R 3 [(0, .ref x0), (1, .int x1), (2, .int x2)] [] := by
  delta w_X8_putInt_3 at h
  obtain ⟨J, ⟨n, h0⟩, hs⟩ := h
  have key : ∀ (n : Nat) (x0 : Nat) (x1 : Int32) (x2 : Int32) (I : MI), J n x0 x1 x2 I → Z X G 3 0 0 (z_T X G (qIv K N L R Q) 0 0) K N I L R 3 [(0, .ref x0), (1, .int x1), (2, .int x2)] [] := by
    intro n
    induction n using Nat.strongRecOn with
    | _ n ih =>
      intro x0 x1 x2 I hJ
      have hC3 : ∀ (y0 : Nat) (y1 : Int32) (y2 : Int32) (zI : MI), (∃ n1, n1 < n ∧ J n1 y0 y1 y2 zI) → Z X G 3 0 0 (z_T X G (qIv K N L R Q) 0 0) K N zI L R 3 [(0, .ref y0), (1, .int y1), (2, .int y2)] [] := fun y0 y1 y2 zI ⟨n1, hn1, hj⟩ => ih n1 hn1 y0 y1 y2 zI hj
      have h := hs n x0 x1 x2 I hJ
      refine z_iload_n hC (q := 2) dX8_putInt_3 rfl rfl ?_
      refine z_if_lt hC (tgt := 49) dX8_putInt_4 (by decide) (fun hc => ?_) (fun hc => ?_)
      · have h := h.1 hc
        exact z_vret hC dX8_putInt_49 ⟨rfl, rfl, rfl, rfl, rfl, h⟩
      · have h := h.2 hc
        refine z_aload_n hC (q := 0) dX8_putInt_7 rfl rfl ?_
        obtain ⟨hk1, h⟩ := h
        refine gf_RX8_15 hC dX8_putInt_8 hk1 ?_
        refine z_sipush hC (v := 940) k_sipush_940 dX8_putInt_11 ?_
        refine z_icmp_ge hC (tgt := 43) dX8_putInt_14 (by decide) (fun hc => ?_) (fun hc => ?_)
        · have h := h.1 hc
          obtain ⟨v2, ev2⟩ : ∃ y : Int32, y = x2 + (-8) := ⟨_, rfl⟩
          have h := h v2 ev2
          refine z_iinc hC (q := 2) (v := v2) (lv1 := [(2, .int v2), (0, .ref x0), (1, .int x1)]) dX8_putInt_43 rfl (by rw [ev2, k_iinc_m8]) (by decide) rfl ?_
          refine z_goto hC (tgt := 3) dX8_putInt_46 (by decide) ?_
          exact z_sub [(0, .ref x0), (1, .int x1), (2, .int v2)] [1, 2, 0] rfl (hC3 _ _ _ _ h)
        · have h := h.2 hc
          refine z_aload_n hC (q := 0) dX8_putInt_17 rfl rfl ?_
          obtain ⟨b3, hb3, h⟩ := h
          refine gf_RX8_11 hC dX8_putInt_18 hk1 hb3 ?_
          refine z_aload_n hC (q := 0) dX8_putInt_21 rfl rfl ?_
          refine gf_RX8_15 hC dX8_putInt_22 hk1 ?_
          refine z_iload_n hC (q := 1) dX8_putInt_25 rfl rfl ?_
          refine z_iload_n hC (q := 2) dX8_putInt_26 rfl rfl ?_
          refine z_iushr hC dX8_putInt_27 ?_
          refine z_sipush hC (v := 255) k_sipush_255 dX8_putInt_28 ?_
          refine z_iand hC dX8_putInt_31 ?_
          obtain ⟨hk4, h⟩ := h
          obtain ⟨hi5, h⟩ := h
          refine z_iastore hC hk4 hi5 dX8_putInt_32 ?_
          refine z_genI (fun I6 eI6 => ?_)
          have h := h I6 eI6
          refine z_aload_n hC (q := 0) dX8_putInt_33 rfl rfl ?_
          refine z_dup hC rfl dX8_putInt_34 ?_
          refine gf_RX8_15 hC dX8_putInt_35 hk1 ?_
          refine z_iconst hC (v := 1) k_iconst_1 dX8_putInt_38 ?_
          refine z_iadd hC dX8_putInt_39 ?_
          refine pf_RX8_15 hC dX8_putInt_40 hk1 ?_
          refine z_genI (fun I7 eI7 => ?_)
          have h := h I7 eI7
          obtain ⟨v8, ev8⟩ : ∃ y : Int32, y = x2 + (-8) := ⟨_, rfl⟩
          have h := h v8 ev8
          refine z_iinc hC (q := 2) (v := v8) (lv1 := [(2, .int v8), (0, .ref x0), (1, .int x1)]) dX8_putInt_43 rfl (by rw [ev8, k_iinc_m8]) (by decide) rfl ?_
          refine z_goto hC (tgt := 3) dX8_putInt_46 (by decide) ?_
          exact z_sub [(0, .ref x0), (1, .int x1), (2, .int v8)] [1, 2, 0] rfl (hC3 _ _ _ _ h)
  exact key n x0 x1 x2 I h0
set_option maxHeartbeats 4000000 in
set_option maxRecDepth 100000 in
theorem c_X8_putInt  (l : Launch) (G : ZG) (a0 : Nat) (a1 : Int32) (K : MK) (N : MK) (I : MI) (L : ML) (R : MR) (Q : MI → Prop) (h : w_X8_putInt a0 a1 K N I L R Q) : Met l yX8_putInt (.code yX8_putInt cX8_putInt 3 none :: z_tbl) rm_X8_putInt (z_Pc G [.ref a0, .int a1] K N I L R) (z_Qc G (qIv K N L R Q)) 0 0 (z_A G) := by
  refine z_met (by decide) (Nat.le_of_ble_eq_true rfl) (fun X hX hRm hC0 hnm => ?_)
  subst hX
  have hC : ZOk X G RX8 cX8_putInt 3 none := hC0
  show Z X G 3 0 0 _ K N I L R 0 [(0, .ref a0), (1, .int a1)] []
  delta w_X8_putInt at h
  refine z_bipush hC (v := 24) k_bipush_24 dX8_putInt_0 ?_
  refine z_istore_n hC (lv1 := [(2, .int 24), (0, .ref a0), (1, .int a1)]) dX8_putInt_2 rfl (by decide) rfl ?_
  exact z_sub [(0, .ref a0), (1, .int a1), (2, .int 24)] [1, 2, 0] rfl (z_X8_putInt_3 hC hRm h)
def w_X8_isBlank  (a0 : Int32) (K : MK) (N : MK) (I : MI) (L : ML) (R : MR) (Q : Bool → Prop) : Prop := (a0 = 32 → Q true) ∧ (¬ a0 = 32 → (¬ a0 = 10 → Q false) ∧ (a0 = 10 → Q true))
set_option maxHeartbeats 4000000 in
set_option maxRecDepth 100000 in
theorem c_X8_isBlank  (l : Launch) (G : ZG) (a0 : Int32) (K : MK) (N : MK) (I : MI) (L : ML) (R : MR) (Q : Bool → Prop) (h : w_X8_isBlank a0 K N I L R Q) : Met l yX8_isBlank (.code yX8_isBlank cX8_isBlank 1 (some .boolean) :: z_tbl) rm_X8_isBlank (z_Pc G [.int a0] K N I L R) (z_Qc G (qPz K N I L R Q)) 0 0 (z_A G) := by
  refine z_met (by decide) (Nat.le_of_ble_eq_true rfl) (fun X hX hRm hC0 hnm => ?_)
  subst hX
  have hC : ZOk X G RX8 cX8_isBlank 1 (some .boolean) := hC0
  show Z X G 1 0 0 _ K N I L R 0 [(0, .int a0)] []
  delta w_X8_isBlank at h
  refine z_iload_n hC (q := 0) dX8_isBlank_0 rfl rfl ?_
  refine z_bipush hC (v := 32) k_bipush_32 dX8_isBlank_1 ?_
  refine z_icmp_eq hC (tgt := 12) dX8_isBlank_3 (by decide) (fun hc => ?_) (fun hc => ?_)
  · have h := h.1 hc
    refine z_iconst hC (v := 1) k_iconst_1 dX8_isBlank_12 ?_
    refine z_goto hC (tgt := 17) dX8_isBlank_13 (by decide) ?_
    exact z_zret (b := true) hC dX8_isBlank_17 rfl ⟨true, rfl, rfl, rfl, rfl, rfl, rfl, h⟩
  · have h := h.2 hc
    refine z_iload_n hC (q := 0) dX8_isBlank_6 rfl rfl ?_
    refine z_bipush hC (v := 10) k_bipush_10 dX8_isBlank_7 ?_
    refine z_icmp_ne hC (tgt := 16) dX8_isBlank_9 (by decide) (fun hc => ?_) (fun hc => ?_)
    · have h := h.1 hc
      refine z_iconst hC (v := 0) k_iconst_0 dX8_isBlank_16 ?_
      exact z_zret (b := false) hC dX8_isBlank_17 rfl ⟨false, rfl, rfl, rfl, rfl, rfl, rfl, h⟩
    · have h := h.2 hc
      refine z_iconst hC (v := 1) k_iconst_1 dX8_isBlank_12 ?_
      refine z_goto hC (tgt := 17) dX8_isBlank_13 (by decide) ?_
      exact z_zret (b := true) hC dX8_isBlank_17 rfl ⟨true, rfl, rfl, rfl, rfl, rfl, rfl, h⟩
def w_X8_goesOn  (a0 : Int32) (K : MK) (N : MK) (I : MI) (L : ML) (R : MR) (Q : Bool → Prop) : Prop := (a0 < 97 → (a0 < 48 → Q false) ∧ (¬ a0 < 48 → ((57 : Int32) < a0 → Q false) ∧ (¬ (57 : Int32) < a0 → Q true))) ∧ (¬ a0 < 97 → (a0 ≤ 122 → Q true) ∧ (¬ a0 ≤ 122 → (a0 < 48 → Q false) ∧ (¬ a0 < 48 → ((57 : Int32) < a0 → Q false) ∧ (¬ (57 : Int32) < a0 → Q true))))
set_option maxHeartbeats 4000000 in
set_option maxRecDepth 100000 in
theorem c_X8_goesOn  (l : Launch) (G : ZG) (a0 : Int32) (K : MK) (N : MK) (I : MI) (L : ML) (R : MR) (Q : Bool → Prop) (h : w_X8_goesOn a0 K N I L R Q) : Met l yX8_goesOn (.code yX8_goesOn cX8_goesOn 1 (some .boolean) :: z_tbl) rm_X8_goesOn (z_Pc G [.int a0] K N I L R) (z_Qc G (qPz K N I L R Q)) 0 0 (z_A G) := by
  refine z_met (by decide) (Nat.le_of_ble_eq_true rfl) (fun X hX hRm hC0 hnm => ?_)
  subst hX
  have hC : ZOk X G RX8 cX8_goesOn 1 (some .boolean) := hC0
  show Z X G 1 0 0 _ K N I L R 0 [(0, .int a0)] []
  delta w_X8_goesOn at h
  refine z_iload_n hC (q := 0) dX8_goesOn_0 rfl rfl ?_
  refine z_bipush hC (v := 97) k_bipush_97 dX8_goesOn_1 ?_
  refine z_icmp_lt hC (tgt := 12) dX8_goesOn_3 (by decide) (fun hc => ?_) (fun hc => ?_)
  · have h := h.1 hc
    refine z_iload_n hC (q := 0) dX8_goesOn_12 rfl rfl ?_
    refine z_bipush hC (v := 48) k_bipush_48 dX8_goesOn_13 ?_
    refine z_icmp_lt hC (tgt := 28) dX8_goesOn_15 (by decide) (fun hc => ?_) (fun hc => ?_)
    · have h := h.1 hc
      refine z_iconst hC (v := 0) k_iconst_0 dX8_goesOn_28 ?_
      exact z_zret (b := false) hC dX8_goesOn_29 rfl ⟨false, rfl, rfl, rfl, rfl, rfl, rfl, h⟩
    · have h := h.2 hc
      refine z_iload_n hC (q := 0) dX8_goesOn_18 rfl rfl ?_
      refine z_bipush hC (v := 57) k_bipush_57 dX8_goesOn_19 ?_
      refine z_icmp_gt hC (tgt := 28) dX8_goesOn_21 (by decide) (fun hc => ?_) (fun hc => ?_)
      · have h := h.1 hc
        refine z_iconst hC (v := 0) k_iconst_0 dX8_goesOn_28 ?_
        exact z_zret (b := false) hC dX8_goesOn_29 rfl ⟨false, rfl, rfl, rfl, rfl, rfl, rfl, h⟩
      · have h := h.2 hc
        refine z_iconst hC (v := 1) k_iconst_1 dX8_goesOn_24 ?_
        refine z_goto hC (tgt := 29) dX8_goesOn_25 (by decide) ?_
        exact z_zret (b := true) hC dX8_goesOn_29 rfl ⟨true, rfl, rfl, rfl, rfl, rfl, rfl, h⟩
  · have h := h.2 hc
    refine z_iload_n hC (q := 0) dX8_goesOn_6 rfl rfl ?_
    refine z_bipush hC (v := 122) k_bipush_122 dX8_goesOn_7 ?_
    refine z_icmp_le hC (tgt := 24) dX8_goesOn_9 (by decide) (fun hc => ?_) (fun hc => ?_)
    · have h := h.1 hc
      refine z_iconst hC (v := 1) k_iconst_1 dX8_goesOn_24 ?_
      refine z_goto hC (tgt := 29) dX8_goesOn_25 (by decide) ?_
      exact z_zret (b := true) hC dX8_goesOn_29 rfl ⟨true, rfl, rfl, rfl, rfl, rfl, rfl, h⟩
    · have h := h.2 hc
      refine z_iload_n hC (q := 0) dX8_goesOn_12 rfl rfl ?_
      refine z_bipush hC (v := 48) k_bipush_48 dX8_goesOn_13 ?_
      refine z_icmp_lt hC (tgt := 28) dX8_goesOn_15 (by decide) (fun hc => ?_) (fun hc => ?_)
      · have h := h.1 hc
        refine z_iconst hC (v := 0) k_iconst_0 dX8_goesOn_28 ?_
        exact z_zret (b := false) hC dX8_goesOn_29 rfl ⟨false, rfl, rfl, rfl, rfl, rfl, rfl, h⟩
      · have h := h.2 hc
        refine z_iload_n hC (q := 0) dX8_goesOn_18 rfl rfl ?_
        refine z_bipush hC (v := 57) k_bipush_57 dX8_goesOn_19 ?_
        refine z_icmp_gt hC (tgt := 28) dX8_goesOn_21 (by decide) (fun hc => ?_) (fun hc => ?_)
        · have h := h.1 hc
          refine z_iconst hC (v := 0) k_iconst_0 dX8_goesOn_28 ?_
          exact z_zret (b := false) hC dX8_goesOn_29 rfl ⟨false, rfl, rfl, rfl, rfl, rfl, rfl, h⟩
        · have h := h.2 hc
          refine z_iconst hC (v := 1) k_iconst_1 dX8_goesOn_24 ?_
          refine z_goto hC (tgt := 29) dX8_goesOn_25 (by decide) ?_
          exact z_zret (b := true) hC dX8_goesOn_29 rfl ⟨true, rfl, rfl, rfl, rfl, rfl, rfl, h⟩
def w_X8_isSignByte  (a0 : Int32) (K : MK) (N : MK) (I : MI) (L : ML) (R : MR) (Q : Bool → Prop) : Prop := (a0 = 59 → Q true) ∧ (¬ a0 = 59 → (a0 = 60 → Q true) ∧ (¬ a0 = 60 → (a0 = 61 → Q true) ∧ (¬ a0 = 61 → (a0 = 62 → Q true) ∧ (¬ a0 = 62 → (a0 = 40 → Q true) ∧ (¬ a0 = 40 → (¬ a0 = 41 → Q false) ∧ (a0 = 41 → Q true))))))
set_option maxHeartbeats 4000000 in
set_option maxRecDepth 100000 in
theorem c_X8_isSignByte  (l : Launch) (G : ZG) (a0 : Int32) (K : MK) (N : MK) (I : MI) (L : ML) (R : MR) (Q : Bool → Prop) (h : w_X8_isSignByte a0 K N I L R Q) : Met l yX8_isSignByte (.code yX8_isSignByte cX8_isSignByte 1 (some .boolean) :: z_tbl) rm_X8_isSignByte (z_Pc G [.int a0] K N I L R) (z_Qc G (qPz K N I L R Q)) 0 0 (z_A G) := by
  refine z_met (by decide) (Nat.le_of_ble_eq_true rfl) (fun X hX hRm hC0 hnm => ?_)
  subst hX
  have hC : ZOk X G RX8 cX8_isSignByte 1 (some .boolean) := hC0
  show Z X G 1 0 0 _ K N I L R 0 [(0, .int a0)] []
  delta w_X8_isSignByte at h
  refine z_iload_n hC (q := 0) dX8_isSignByte_0 rfl rfl ?_
  refine z_bipush hC (v := 59) k_bipush_59 dX8_isSignByte_1 ?_
  refine z_icmp_eq hC (tgt := 36) dX8_isSignByte_3 (by decide) (fun hc => ?_) (fun hc => ?_)
  · have h := h.1 hc
    refine z_iconst hC (v := 1) k_iconst_1 dX8_isSignByte_36 ?_
    refine z_goto hC (tgt := 41) dX8_isSignByte_37 (by decide) ?_
    exact z_zret (b := true) hC dX8_isSignByte_41 rfl ⟨true, rfl, rfl, rfl, rfl, rfl, rfl, h⟩
  · have h := h.2 hc
    refine z_iload_n hC (q := 0) dX8_isSignByte_6 rfl rfl ?_
    refine z_bipush hC (v := 60) k_bipush_60 dX8_isSignByte_7 ?_
    refine z_icmp_eq hC (tgt := 36) dX8_isSignByte_9 (by decide) (fun hc => ?_) (fun hc => ?_)
    · have h := h.1 hc
      refine z_iconst hC (v := 1) k_iconst_1 dX8_isSignByte_36 ?_
      refine z_goto hC (tgt := 41) dX8_isSignByte_37 (by decide) ?_
      exact z_zret (b := true) hC dX8_isSignByte_41 rfl ⟨true, rfl, rfl, rfl, rfl, rfl, rfl, h⟩
    · have h := h.2 hc
      refine z_iload_n hC (q := 0) dX8_isSignByte_12 rfl rfl ?_
      refine z_bipush hC (v := 61) k_bipush_61 dX8_isSignByte_13 ?_
      refine z_icmp_eq hC (tgt := 36) dX8_isSignByte_15 (by decide) (fun hc => ?_) (fun hc => ?_)
      · have h := h.1 hc
        refine z_iconst hC (v := 1) k_iconst_1 dX8_isSignByte_36 ?_
        refine z_goto hC (tgt := 41) dX8_isSignByte_37 (by decide) ?_
        exact z_zret (b := true) hC dX8_isSignByte_41 rfl ⟨true, rfl, rfl, rfl, rfl, rfl, rfl, h⟩
      · have h := h.2 hc
        refine z_iload_n hC (q := 0) dX8_isSignByte_18 rfl rfl ?_
        refine z_bipush hC (v := 62) k_bipush_62 dX8_isSignByte_19 ?_
        refine z_icmp_eq hC (tgt := 36) dX8_isSignByte_21 (by decide) (fun hc => ?_) (fun hc => ?_)
        · have h := h.1 hc
          refine z_iconst hC (v := 1) k_iconst_1 dX8_isSignByte_36 ?_
          refine z_goto hC (tgt := 41) dX8_isSignByte_37 (by decide) ?_
          exact z_zret (b := true) hC dX8_isSignByte_41 rfl ⟨true, rfl, rfl, rfl, rfl, rfl, rfl, h⟩
        · have h := h.2 hc
          refine z_iload_n hC (q := 0) dX8_isSignByte_24 rfl rfl ?_
          refine z_bipush hC (v := 40) k_bipush_40 dX8_isSignByte_25 ?_
          refine z_icmp_eq hC (tgt := 36) dX8_isSignByte_27 (by decide) (fun hc => ?_) (fun hc => ?_)
          · have h := h.1 hc
            refine z_iconst hC (v := 1) k_iconst_1 dX8_isSignByte_36 ?_
            refine z_goto hC (tgt := 41) dX8_isSignByte_37 (by decide) ?_
            exact z_zret (b := true) hC dX8_isSignByte_41 rfl ⟨true, rfl, rfl, rfl, rfl, rfl, rfl, h⟩
          · have h := h.2 hc
            refine z_iload_n hC (q := 0) dX8_isSignByte_30 rfl rfl ?_
            refine z_bipush hC (v := 41) k_bipush_41 dX8_isSignByte_31 ?_
            refine z_icmp_ne hC (tgt := 40) dX8_isSignByte_33 (by decide) (fun hc => ?_) (fun hc => ?_)
            · have h := h.1 hc
              refine z_iconst hC (v := 0) k_iconst_0 dX8_isSignByte_40 ?_
              exact z_zret (b := false) hC dX8_isSignByte_41 rfl ⟨false, rfl, rfl, rfl, rfl, rfl, rfl, h⟩
            · have h := h.2 hc
              refine z_iconst hC (v := 1) k_iconst_1 dX8_isSignByte_36 ?_
              refine z_goto hC (tgt := 41) dX8_isSignByte_37 (by decide) ?_
              exact z_zret (b := true) hC dX8_isSignByte_41 rfl ⟨true, rfl, rfl, rfl, rfl, rfl, rfl, h⟩
def w_X8_fail  (a0 : Nat) (a1 : Int32) (K : MK) (N : MK) (I : MI) (L : ML) (R : MR) (Q : Bool → MI → Prop) : Prop := K a0 = 9 ∧ ∀ I2 : MI, I2 = mup I a0 10 a1 → ∀ I3 : MI, I3 = mup I2 a0 11 (I2 a0 5) → Q false I3
set_option maxHeartbeats 4000000 in
set_option maxRecDepth 100000 in
theorem c_X8_fail  (l : Launch) (G : ZG) (a0 : Nat) (a1 : Int32) (K : MK) (N : MK) (I : MI) (L : ML) (R : MR) (Q : Bool → MI → Prop) (h : w_X8_fail a0 a1 K N I L R Q) : Met l yX8_fail (.code yX8_fail cX8_fail 2 (some .boolean) :: z_tbl) rm_X8_fail (z_Pc G [.ref a0, .int a1] K N I L R) (z_Qc G (qIz K N L R Q)) 0 0 (z_A G) := by
  refine z_met (by decide) (Nat.le_of_ble_eq_true rfl) (fun X hX hRm hC0 hnm => ?_)
  subst hX
  have hC : ZOk X G RX8 cX8_fail 2 (some .boolean) := hC0
  show Z X G 2 0 0 _ K N I L R 0 [(0, .ref a0), (1, .int a1)] []
  delta w_X8_fail at h
  refine z_aload_n hC (q := 0) dX8_fail_0 rfl rfl ?_
  refine z_iload_n hC (q := 1) dX8_fail_1 rfl rfl ?_
  obtain ⟨hk1, h⟩ := h
  refine pf_RX8_44 hC dX8_fail_2 hk1 ?_
  refine z_genI (fun I2 eI2 => ?_)
  have h := h I2 eI2
  refine z_aload_n hC (q := 0) dX8_fail_5 rfl rfl ?_
  refine z_aload_n hC (q := 0) dX8_fail_6 rfl rfl ?_
  refine gf_RX8_28 hC dX8_fail_7 hk1 ?_
  refine pf_RX8_47 hC dX8_fail_10 hk1 ?_
  refine z_genI (fun I3 eI3 => ?_)
  have h := h I3 eI3
  refine z_iconst hC (v := 0) k_iconst_0 dX8_fail_13 ?_
  exact z_zret (b := false) hC dX8_fail_14 rfl ⟨false, rfl, rfl, rfl, rfl, rfl, h⟩
def w_X8_wordHere  (a0 : Nat) (K : MK) (N : MK) (I : MI) (L : ML) (R : MR) (Q : Int32 → Prop) : Prop := K a0 = 9 ∧ (¬ (I a0 4) = 1 → Q (-1)) ∧ ((I a0 4) = 1 → Q (I a0 7))
set_option maxHeartbeats 4000000 in
set_option maxRecDepth 100000 in
theorem c_X8_wordHere  (l : Launch) (G : ZG) (a0 : Nat) (K : MK) (N : MK) (I : MI) (L : ML) (R : MR) (Q : Int32 → Prop) (h : w_X8_wordHere a0 K N I L R Q) : Met l yX8_wordHere (.code yX8_wordHere cX8_wordHere 1 (some .int) :: z_tbl) rm_X8_wordHere (z_Pc G [.ref a0] K N I L R) (z_Qc G (qPi K N I L R Q)) 0 0 (z_A G) := by
  refine z_met (by decide) (Nat.le_of_ble_eq_true rfl) (fun X hX hRm hC0 hnm => ?_)
  subst hX
  have hC : ZOk X G RX8 cX8_wordHere 1 (some .int) := hC0
  show Z X G 1 0 0 _ K N I L R 0 [(0, .ref a0)] []
  delta w_X8_wordHere at h
  refine z_aload_n hC (q := 0) dX8_wordHere_0 rfl rfl ?_
  obtain ⟨hk1, h⟩ := h
  refine gf_RX8_25 hC dX8_wordHere_1 hk1 ?_
  refine z_iconst hC (v := 1) k_iconst_1 dX8_wordHere_4 ?_
  refine z_icmp_ne hC (tgt := 15) dX8_wordHere_5 (by decide) (fun hc => ?_) (fun hc => ?_)
  · have h := h.1 hc
    refine z_iconst hC (v := (-1)) k_iconst_m1 dX8_wordHere_15 ?_
    exact z_iret hC dX8_wordHere_16 ⟨_, rfl, rfl, rfl, rfl, rfl, rfl, h⟩
  · have h := h.2 hc
    refine z_aload_n hC (q := 0) dX8_wordHere_8 rfl rfl ?_
    refine gf_RX8_35 hC dX8_wordHere_9 hk1 ?_
    refine z_goto hC (tgt := 16) dX8_wordHere_12 (by decide) ?_
    exact z_iret hC dX8_wordHere_16 ⟨_, rfl, rfl, rfl, rfl, rfl, rfl, h⟩
def w_X8_isSign  (a0 : Nat) (a1 : Int32) (K : MK) (N : MK) (I : MI) (L : ML) (R : MR) (Q : Bool → Prop) : Prop := K a0 = 9 ∧ (¬ (I a0 4) = 3 → Q false) ∧ ((I a0 4) = 3 → (¬ (I a0 9) = a1 → Q false) ∧ ((I a0 9) = a1 → Q true))
set_option maxHeartbeats 4000000 in
set_option maxRecDepth 100000 in
theorem c_X8_isSign  (l : Launch) (G : ZG) (a0 : Nat) (a1 : Int32) (K : MK) (N : MK) (I : MI) (L : ML) (R : MR) (Q : Bool → Prop) (h : w_X8_isSign a0 a1 K N I L R Q) : Met l yX8_isSign (.code yX8_isSign cX8_isSign 2 (some .boolean) :: z_tbl) rm_X8_isSign (z_Pc G [.ref a0, .int a1] K N I L R) (z_Qc G (qPz K N I L R Q)) 0 0 (z_A G) := by
  refine z_met (by decide) (Nat.le_of_ble_eq_true rfl) (fun X hX hRm hC0 hnm => ?_)
  subst hX
  have hC : ZOk X G RX8 cX8_isSign 2 (some .boolean) := hC0
  show Z X G 2 0 0 _ K N I L R 0 [(0, .ref a0), (1, .int a1)] []
  delta w_X8_isSign at h
  refine z_aload_n hC (q := 0) dX8_isSign_0 rfl rfl ?_
  obtain ⟨hk1, h⟩ := h
  refine gf_RX8_25 hC dX8_isSign_1 hk1 ?_
  refine z_iconst hC (v := 3) k_iconst_3 dX8_isSign_4 ?_
  refine z_icmp_ne hC (tgt := 20) dX8_isSign_5 (by decide) (fun hc => ?_) (fun hc => ?_)
  · have h := h.1 hc
    refine z_iconst hC (v := 0) k_iconst_0 dX8_isSign_20 ?_
    exact z_zret (b := false) hC dX8_isSign_21 rfl ⟨false, rfl, rfl, rfl, rfl, rfl, rfl, h⟩
  · have h := h.2 hc
    refine z_aload_n hC (q := 0) dX8_isSign_8 rfl rfl ?_
    refine gf_RX8_41 hC dX8_isSign_9 hk1 ?_
    refine z_iload_n hC (q := 1) dX8_isSign_12 rfl rfl ?_
    refine z_icmp_ne hC (tgt := 20) dX8_isSign_13 (by decide) (fun hc => ?_) (fun hc => ?_)
    · have h := h.1 hc
      refine z_iconst hC (v := 0) k_iconst_0 dX8_isSign_20 ?_
      exact z_zret (b := false) hC dX8_isSign_21 rfl ⟨false, rfl, rfl, rfl, rfl, rfl, rfl, h⟩
    · have h := h.2 hc
      refine z_iconst hC (v := 1) k_iconst_1 dX8_isSign_16 ?_
      refine z_goto hC (tgt := 21) dX8_isSign_17 (by decide) ?_
      exact z_zret (b := true) hC dX8_isSign_21 rfl ⟨true, rfl, rfl, rfl, rfl, rfl, rfl, h⟩
def w_X8_needsNumber  (a0 : Nat) (a1 : Int32) (a2 : Int32) (K : MK) (N : MK) (I : MI) (L : ML) (R : MR) (Q : Bool → MI → Prop) : Prop := K a0 = 9 ∧ ((I a0 4) = 2 → ((I a0 8) < a1 → w_X8_fail a0 2 K N I L R (fun r2 I3 => Q r2 I3)) ∧ (¬ (I a0 8) < a1 → ((I a0 8) ≤ a2 → Q true I) ∧ (¬ (I a0 8) ≤ a2 → w_X8_fail a0 2 K N I L R (fun r4 I5 => Q r4 I5)))) ∧ (¬ (I a0 4) = 2 → w_X8_fail a0 1 K N I L R (fun r6 I7 => Q r6 I7))
set_option maxHeartbeats 4000000 in
set_option maxRecDepth 100000 in
theorem c_X8_needsNumber  (l : Launch) (G : ZG) (a0 : Nat) (a1 : Int32) (a2 : Int32) (K : MK) (N : MK) (I : MI) (L : ML) (R : MR) (Q : Bool → MI → Prop) (h : w_X8_needsNumber a0 a1 a2 K N I L R Q) : Met l yX8_needsNumber (.code yX8_needsNumber cX8_needsNumber 3 (some .boolean) :: z_tbl) rm_X8_needsNumber (z_Pc G [.ref a0, .int a1, .int a2] K N I L R) (z_Qc G (qIz K N L R Q)) 0 0 (z_A G) := by
  refine z_met (by decide) (Nat.le_of_ble_eq_true rfl) (fun X hX hRm hC0 hnm => ?_)
  subst hX
  have hC : ZOk X G RX8 cX8_needsNumber 3 (some .boolean) := hC0
  show Z X G 3 0 0 _ K N I L R 0 [(0, .ref a0), (1, .int a1), (2, .int a2)] []
  delta w_X8_needsNumber at h
  refine z_aload_n hC (q := 0) dX8_needsNumber_0 rfl rfl ?_
  obtain ⟨hk1, h⟩ := h
  refine gf_RX8_25 hC dX8_needsNumber_1 hk1 ?_
  refine z_iconst hC (v := 2) k_iconst_2 dX8_needsNumber_4 ?_
  refine z_icmp_eq hC (tgt := 14) dX8_needsNumber_5 (by decide) (fun hc => ?_) (fun hc => ?_)
  · have h := h.1 hc
    refine z_aload_n hC (q := 0) dX8_needsNumber_14 rfl rfl ?_
    refine gf_RX8_38 hC dX8_needsNumber_15 hk1 ?_
    refine z_iload_n hC (q := 1) dX8_needsNumber_18 rfl rfl ?_
    refine z_icmp_lt hC (tgt := 30) dX8_needsNumber_19 (by decide) (fun hc => ?_) (fun hc => ?_)
    · have h := h.1 hc
      refine z_aload_n hC (q := 0) dX8_needsNumber_30 rfl rfl ?_
      refine z_iconst hC (v := 2) k_iconst_2 dX8_needsNumber_31 ?_
      refine cl_RX8_87 hC (c_X8_fail _ G a0 2 K N I L R _ h) hk1 dX8_needsNumber_32 (by rw [hRm]; exact ⟨Nat.le_of_ble_eq_true rfl, Nat.le_of_ble_eq_true rfl⟩) ⟨Nat.zero_le _, Nat.zero_le _⟩ (Nat.le_of_ble_eq_true rfl) (z_kIz (I := I) (fun r2 I3 h => ?_))
      exact z_zret (b := r2) hC dX8_needsNumber_35 rfl ⟨r2, rfl, rfl, rfl, rfl, rfl, h⟩
    · have h := h.2 hc
      refine z_aload_n hC (q := 0) dX8_needsNumber_22 rfl rfl ?_
      refine gf_RX8_38 hC dX8_needsNumber_23 hk1 ?_
      refine z_iload_n hC (q := 2) dX8_needsNumber_26 rfl rfl ?_
      refine z_icmp_le hC (tgt := 36) dX8_needsNumber_27 (by decide) (fun hc => ?_) (fun hc => ?_)
      · have h := h.1 hc
        refine z_iconst hC (v := 1) k_iconst_1 dX8_needsNumber_36 ?_
        exact z_zret (b := true) hC dX8_needsNumber_37 rfl ⟨true, rfl, rfl, rfl, rfl, rfl, h⟩
      · have h := h.2 hc
        refine z_aload_n hC (q := 0) dX8_needsNumber_30 rfl rfl ?_
        refine z_iconst hC (v := 2) k_iconst_2 dX8_needsNumber_31 ?_
        refine cl_RX8_87 hC (c_X8_fail _ G a0 2 K N I L R _ h) hk1 dX8_needsNumber_32 (by rw [hRm]; exact ⟨Nat.le_of_ble_eq_true rfl, Nat.le_of_ble_eq_true rfl⟩) ⟨Nat.zero_le _, Nat.zero_le _⟩ (Nat.le_of_ble_eq_true rfl) (z_kIz (I := I) (fun r4 I5 h => ?_))
        exact z_zret (b := r4) hC dX8_needsNumber_35 rfl ⟨r4, rfl, rfl, rfl, rfl, rfl, h⟩
  · have h := h.2 hc
    refine z_aload_n hC (q := 0) dX8_needsNumber_8 rfl rfl ?_
    refine z_iconst hC (v := 1) k_iconst_1 dX8_needsNumber_9 ?_
    refine cl_RX8_87 hC (c_X8_fail _ G a0 1 K N I L R _ h) hk1 dX8_needsNumber_10 (by rw [hRm]; exact ⟨Nat.le_of_ble_eq_true rfl, Nat.le_of_ble_eq_true rfl⟩) ⟨Nat.zero_le _, Nat.zero_le _⟩ (Nat.le_of_ble_eq_true rfl) (z_kIz (I := I) (fun r6 I7 h => ?_))
    exact z_zret (b := r6) hC dX8_needsNumber_13 rfl ⟨r6, rfl, rfl, rfl, rfl, rfl, h⟩
def w_X8_needsName  (a0 : Nat) (K : MK) (N : MK) (I : MI) (L : ML) (R : MR) (Q : Bool → MI → Prop) : Prop := K a0 = 9 ∧ (¬ (I a0 4) = 1 → w_X8_fail a0 1 K N I L R (fun r2 I3 => Q r2 I3)) ∧ ((I a0 4) = 1 → ((I a0 7) = (-1) → Q true I) ∧ (¬ (I a0 7) = (-1) → w_X8_fail a0 1 K N I L R (fun r4 I5 => Q r4 I5)))
set_option maxHeartbeats 4000000 in
set_option maxRecDepth 100000 in
theorem c_X8_needsName  (l : Launch) (G : ZG) (a0 : Nat) (K : MK) (N : MK) (I : MI) (L : ML) (R : MR) (Q : Bool → MI → Prop) (h : w_X8_needsName a0 K N I L R Q) : Met l yX8_needsName (.code yX8_needsName cX8_needsName 1 (some .boolean) :: z_tbl) rm_X8_needsName (z_Pc G [.ref a0] K N I L R) (z_Qc G (qIz K N L R Q)) 0 0 (z_A G) := by
  refine z_met (by decide) (Nat.le_of_ble_eq_true rfl) (fun X hX hRm hC0 hnm => ?_)
  subst hX
  have hC : ZOk X G RX8 cX8_needsName 1 (some .boolean) := hC0
  show Z X G 1 0 0 _ K N I L R 0 [(0, .ref a0)] []
  delta w_X8_needsName at h
  refine z_aload_n hC (q := 0) dX8_needsName_0 rfl rfl ?_
  obtain ⟨hk1, h⟩ := h
  refine gf_RX8_25 hC dX8_needsName_1 hk1 ?_
  refine z_iconst hC (v := 1) k_iconst_1 dX8_needsName_4 ?_
  refine z_icmp_ne hC (tgt := 16) dX8_needsName_5 (by decide) (fun hc => ?_) (fun hc => ?_)
  · have h := h.1 hc
    refine z_aload_n hC (q := 0) dX8_needsName_16 rfl rfl ?_
    refine z_iconst hC (v := 1) k_iconst_1 dX8_needsName_17 ?_
    refine cl_RX8_87 hC (c_X8_fail _ G a0 1 K N I L R _ h) hk1 dX8_needsName_18 (by rw [hRm]; exact ⟨Nat.le_of_ble_eq_true rfl, Nat.le_of_ble_eq_true rfl⟩) ⟨Nat.zero_le _, Nat.zero_le _⟩ (Nat.le_of_ble_eq_true rfl) (z_kIz (I := I) (fun r2 I3 h => ?_))
    exact z_zret (b := r2) hC dX8_needsName_21 rfl ⟨r2, rfl, rfl, rfl, rfl, rfl, h⟩
  · have h := h.2 hc
    refine z_aload_n hC (q := 0) dX8_needsName_8 rfl rfl ?_
    refine gf_RX8_35 hC dX8_needsName_9 hk1 ?_
    refine z_iconst hC (v := (-1)) k_iconst_m1 dX8_needsName_12 ?_
    refine z_icmp_eq hC (tgt := 22) dX8_needsName_13 (by decide) (fun hc => ?_) (fun hc => ?_)
    · have h := h.1 hc
      refine z_iconst hC (v := 1) k_iconst_1 dX8_needsName_22 ?_
      exact z_zret (b := true) hC dX8_needsName_23 rfl ⟨true, rfl, rfl, rfl, rfl, rfl, h⟩
    · have h := h.2 hc
      refine z_aload_n hC (q := 0) dX8_needsName_16 rfl rfl ?_
      refine z_iconst hC (v := 1) k_iconst_1 dX8_needsName_17 ?_
      refine cl_RX8_87 hC (c_X8_fail _ G a0 1 K N I L R _ h) hk1 dX8_needsName_18 (by rw [hRm]; exact ⟨Nat.le_of_ble_eq_true rfl, Nat.le_of_ble_eq_true rfl⟩) ⟨Nat.zero_le _, Nat.zero_le _⟩ (Nat.le_of_ble_eq_true rfl) (z_kIz (I := I) (fun r4 I5 h => ?_))
      exact z_zret (b := r4) hC dX8_needsName_21 rfl ⟨r4, rfl, rfl, rfl, rfl, rfl, h⟩
def w_X9_makeEmpty  (a0 : Nat) (K : MK) (N : MK) (I : MI) (L : ML) (R : MR) (Q : MI → Prop) : Prop := K a0 = 10 ∧ ∀ I2 : MI, I2 = mup I a0 0 256 → ∃ b3 : Nat, R a0 1 = some b3 ∧ K b3 = 8 ∧ w_X7_forget b3 K N I2 L R (fun I5 => ∃ b6 : Nat, R a0 2 = some b6 ∧ K b6 = 8 ∧ w_X7_forget b6 K N I5 L R (fun I8 => ∃ b9 : Nat, R a0 3 = some b9 ∧ K b9 = 8 ∧ w_X7_forget b9 K N I8 L R (fun I11 => ∃ b12 : Nat, R a0 4 = some b12 ∧ K b12 = 8 ∧ w_X7_forget b12 K N I11 L R (fun I14 => ∃ b15 : Nat, R a0 5 = some b15 ∧ K b15 = 8 ∧ w_X7_forget b15 K N I14 L R (fun I17 => Q I17)))))
set_option maxHeartbeats 4000000 in
set_option maxRecDepth 100000 in
theorem c_X9_makeEmpty  (l : Launch) (G : ZG) (a0 : Nat) (K : MK) (N : MK) (I : MI) (L : ML) (R : MR) (Q : MI → Prop) (h : w_X9_makeEmpty a0 K N I L R Q) : Met l yX9_makeEmpty (.code yX9_makeEmpty cX9_makeEmpty 1 none :: z_tbl) rm_X9_makeEmpty (z_Pc G [.ref a0] K N I L R) (z_Qc G (qIv K N L R Q)) 0 0 (z_A G) := by
  refine z_met (by decide) (Nat.le_of_ble_eq_true rfl) (fun X hX hRm hC0 hnm => ?_)
  subst hX
  have hC : ZOk X G RX9 cX9_makeEmpty 1 none := hC0
  show Z X G 1 0 0 _ K N I L R 0 [(0, .ref a0)] []
  delta w_X9_makeEmpty at h
  refine z_aload_n hC (q := 0) dX9_makeEmpty_0 rfl rfl ?_
  refine z_sipush hC (v := 256) k_sipush_256 dX9_makeEmpty_1 ?_
  obtain ⟨hk1, h⟩ := h
  refine pf_RX9_11 hC dX9_makeEmpty_4 hk1 ?_
  refine z_genI (fun I2 eI2 => ?_)
  have h := h I2 eI2
  refine z_aload_n hC (q := 0) dX9_makeEmpty_7 rfl rfl ?_
  obtain ⟨b3, hb3, h⟩ := h
  refine gf_RX9_20 hC dX9_makeEmpty_8 hk1 hb3 ?_
  obtain ⟨hk4, h⟩ := h
  refine cl_RX9_36 hC (c_X7_forget _ G b3 K N I2 L R _ h) hk4 dX9_makeEmpty_11 (by rw [hRm]; exact ⟨Nat.le_of_ble_eq_true rfl, Nat.le_of_ble_eq_true rfl⟩) ⟨Nat.zero_le _, Nat.zero_le _⟩ (Nat.le_of_ble_eq_true rfl) (z_kIv (I := I2) (fun I5 h => ?_))
  refine z_aload_n hC (q := 0) dX9_makeEmpty_14 rfl rfl ?_
  obtain ⟨b6, hb6, h⟩ := h
  refine gf_RX9_24 hC dX9_makeEmpty_15 hk1 hb6 ?_
  obtain ⟨hk7, h⟩ := h
  refine cl_RX9_36 hC (c_X7_forget _ G b6 K N I5 L R _ h) hk7 dX9_makeEmpty_18 (by rw [hRm]; exact ⟨Nat.le_of_ble_eq_true rfl, Nat.le_of_ble_eq_true rfl⟩) ⟨Nat.zero_le _, Nat.zero_le _⟩ (Nat.le_of_ble_eq_true rfl) (z_kIv (I := I5) (fun I8 h => ?_))
  refine z_aload_n hC (q := 0) dX9_makeEmpty_21 rfl rfl ?_
  obtain ⟨b9, hb9, h⟩ := h
  refine gf_RX9_27 hC dX9_makeEmpty_22 hk1 hb9 ?_
  obtain ⟨hk10, h⟩ := h
  refine cl_RX9_36 hC (c_X7_forget _ G b9 K N I8 L R _ h) hk10 dX9_makeEmpty_25 (by rw [hRm]; exact ⟨Nat.le_of_ble_eq_true rfl, Nat.le_of_ble_eq_true rfl⟩) ⟨Nat.zero_le _, Nat.zero_le _⟩ (Nat.le_of_ble_eq_true rfl) (z_kIv (I := I8) (fun I11 h => ?_))
  refine z_aload_n hC (q := 0) dX9_makeEmpty_28 rfl rfl ?_
  obtain ⟨b12, hb12, h⟩ := h
  refine gf_RX9_30 hC dX9_makeEmpty_29 hk1 hb12 ?_
  obtain ⟨hk13, h⟩ := h
  refine cl_RX9_36 hC (c_X7_forget _ G b12 K N I11 L R _ h) hk13 dX9_makeEmpty_32 (by rw [hRm]; exact ⟨Nat.le_of_ble_eq_true rfl, Nat.le_of_ble_eq_true rfl⟩) ⟨Nat.zero_le _, Nat.zero_le _⟩ (Nat.le_of_ble_eq_true rfl) (z_kIv (I := I11) (fun I14 h => ?_))
  refine z_aload_n hC (q := 0) dX9_makeEmpty_35 rfl rfl ?_
  obtain ⟨b15, hb15, h⟩ := h
  refine gf_RX9_33 hC dX9_makeEmpty_36 hk1 hb15 ?_
  obtain ⟨hk16, h⟩ := h
  refine cl_RX9_36 hC (c_X7_forget _ G b15 K N I14 L R _ h) hk16 dX9_makeEmpty_39 (by rw [hRm]; exact ⟨Nat.le_of_ble_eq_true rfl, Nat.le_of_ble_eq_true rfl⟩) ⟨Nat.zero_le _, Nat.zero_le _⟩ (Nat.le_of_ble_eq_true rfl) (z_kIv (I := I14) (fun I17 h => ?_))
  exact z_vret hC dX9_makeEmpty_42 ⟨rfl, rfl, rfl, rfl, rfl, h⟩
def w_X9_copyFrom  (a0 : Nat) (a1 : Nat) (K : MK) (N : MK) (I : MI) (L : ML) (R : MR) (Q : MI → ML → Prop) : Prop := K a1 = 10 ∧ K a0 = 10 ∧ ∀ I3 : MI, I3 = mup I a0 0 (I a1 0) → ∃ b4 : Nat, R a0 1 = some b4 ∧ ∃ b5 : Nat, R a1 1 = some b5 ∧ K b4 = 8 ∧ w_X7_copyFrom b4 b5 K N I3 L R (fun I7 L8 => ∃ b9 : Nat, R a0 2 = some b9 ∧ ∃ b10 : Nat, R a1 2 = some b10 ∧ K b9 = 8 ∧ w_X7_copyFrom b9 b10 K N I7 L8 R (fun I12 L13 => ∃ b14 : Nat, R a0 3 = some b14 ∧ ∃ b15 : Nat, R a1 3 = some b15 ∧ K b14 = 8 ∧ w_X7_copyFrom b14 b15 K N I12 L13 R (fun I17 L18 => ∃ b19 : Nat, R a0 4 = some b19 ∧ ∃ b20 : Nat, R a1 4 = some b20 ∧ K b19 = 8 ∧ w_X7_copyFrom b19 b20 K N I17 L18 R (fun I22 L23 => ∃ b24 : Nat, R a0 5 = some b24 ∧ ∃ b25 : Nat, R a1 5 = some b25 ∧ K b24 = 8 ∧ w_X7_copyFrom b24 b25 K N I22 L23 R (fun I27 L28 => Q I27 L28)))))
set_option maxHeartbeats 4000000 in
set_option maxRecDepth 100000 in
theorem c_X9_copyFrom  (l : Launch) (G : ZG) (a0 : Nat) (a1 : Nat) (K : MK) (N : MK) (I : MI) (L : ML) (R : MR) (Q : MI → ML → Prop) (h : w_X9_copyFrom a0 a1 K N I L R Q) : Met l yX9_copyFrom (.code yX9_copyFrom cX9_copyFrom 2 none :: z_tbl) rm_X9_copyFrom (z_Pc G [.ref a0, .ref a1] K N I L R) (z_Qc G (qLv K N R Q)) 0 0 (z_A G) := by
  refine z_met (by decide) (Nat.le_of_ble_eq_true rfl) (fun X hX hRm hC0 hnm => ?_)
  subst hX
  have hC : ZOk X G RX9 cX9_copyFrom 2 none := hC0
  show Z X G 2 0 0 _ K N I L R 0 [(0, .ref a0), (1, .ref a1)] []
  delta w_X9_copyFrom at h
  refine z_aload_n hC (q := 0) dX9_copyFrom_0 rfl rfl ?_
  refine z_aload_n hC (q := 1) dX9_copyFrom_1 rfl rfl ?_
  obtain ⟨hk1, h⟩ := h
  refine gf_RX9_11 hC dX9_copyFrom_2 hk1 ?_
  obtain ⟨hk2, h⟩ := h
  refine pf_RX9_11 hC dX9_copyFrom_5 hk2 ?_
  refine z_genI (fun I3 eI3 => ?_)
  have h := h I3 eI3
  refine z_aload_n hC (q := 0) dX9_copyFrom_8 rfl rfl ?_
  obtain ⟨b4, hb4, h⟩ := h
  refine gf_RX9_20 hC dX9_copyFrom_9 hk2 hb4 ?_
  refine z_aload_n hC (q := 1) dX9_copyFrom_12 rfl rfl ?_
  obtain ⟨b5, hb5, h⟩ := h
  refine gf_RX9_20 hC dX9_copyFrom_13 hk1 hb5 ?_
  obtain ⟨hk6, h⟩ := h
  refine cl_RX9_39 hC (c_X7_copyFrom _ G b4 b5 K N I3 L R _ h) hk6 dX9_copyFrom_16 (by rw [hRm]; exact ⟨Nat.le_of_ble_eq_true rfl, Nat.le_of_ble_eq_true rfl⟩) ⟨Nat.zero_le _, Nat.zero_le _⟩ (Nat.le_of_ble_eq_true rfl) (z_kLv (I := I3) (L := L) (fun I7 L8 h => ?_))
  refine z_aload_n hC (q := 0) dX9_copyFrom_19 rfl rfl ?_
  obtain ⟨b9, hb9, h⟩ := h
  refine gf_RX9_24 hC dX9_copyFrom_20 hk2 hb9 ?_
  refine z_aload_n hC (q := 1) dX9_copyFrom_23 rfl rfl ?_
  obtain ⟨b10, hb10, h⟩ := h
  refine gf_RX9_24 hC dX9_copyFrom_24 hk1 hb10 ?_
  obtain ⟨hk11, h⟩ := h
  refine cl_RX9_39 hC (c_X7_copyFrom _ G b9 b10 K N I7 L8 R _ h) hk11 dX9_copyFrom_27 (by rw [hRm]; exact ⟨Nat.le_of_ble_eq_true rfl, Nat.le_of_ble_eq_true rfl⟩) ⟨Nat.zero_le _, Nat.zero_le _⟩ (Nat.le_of_ble_eq_true rfl) (z_kLv (I := I7) (L := L8) (fun I12 L13 h => ?_))
  refine z_aload_n hC (q := 0) dX9_copyFrom_30 rfl rfl ?_
  obtain ⟨b14, hb14, h⟩ := h
  refine gf_RX9_27 hC dX9_copyFrom_31 hk2 hb14 ?_
  refine z_aload_n hC (q := 1) dX9_copyFrom_34 rfl rfl ?_
  obtain ⟨b15, hb15, h⟩ := h
  refine gf_RX9_27 hC dX9_copyFrom_35 hk1 hb15 ?_
  obtain ⟨hk16, h⟩ := h
  refine cl_RX9_39 hC (c_X7_copyFrom _ G b14 b15 K N I12 L13 R _ h) hk16 dX9_copyFrom_38 (by rw [hRm]; exact ⟨Nat.le_of_ble_eq_true rfl, Nat.le_of_ble_eq_true rfl⟩) ⟨Nat.zero_le _, Nat.zero_le _⟩ (Nat.le_of_ble_eq_true rfl) (z_kLv (I := I12) (L := L13) (fun I17 L18 h => ?_))
  refine z_aload_n hC (q := 0) dX9_copyFrom_41 rfl rfl ?_
  obtain ⟨b19, hb19, h⟩ := h
  refine gf_RX9_30 hC dX9_copyFrom_42 hk2 hb19 ?_
  refine z_aload_n hC (q := 1) dX9_copyFrom_45 rfl rfl ?_
  obtain ⟨b20, hb20, h⟩ := h
  refine gf_RX9_30 hC dX9_copyFrom_46 hk1 hb20 ?_
  obtain ⟨hk21, h⟩ := h
  refine cl_RX9_39 hC (c_X7_copyFrom _ G b19 b20 K N I17 L18 R _ h) hk21 dX9_copyFrom_49 (by rw [hRm]; exact ⟨Nat.le_of_ble_eq_true rfl, Nat.le_of_ble_eq_true rfl⟩) ⟨Nat.zero_le _, Nat.zero_le _⟩ (Nat.le_of_ble_eq_true rfl) (z_kLv (I := I17) (L := L18) (fun I22 L23 h => ?_))
  refine z_aload_n hC (q := 0) dX9_copyFrom_52 rfl rfl ?_
  obtain ⟨b24, hb24, h⟩ := h
  refine gf_RX9_33 hC dX9_copyFrom_53 hk2 hb24 ?_
  refine z_aload_n hC (q := 1) dX9_copyFrom_56 rfl rfl ?_
  obtain ⟨b25, hb25, h⟩ := h
  refine gf_RX9_33 hC dX9_copyFrom_57 hk1 hb25 ?_
  obtain ⟨hk26, h⟩ := h
  refine cl_RX9_39 hC (c_X7_copyFrom _ G b24 b25 K N I22 L23 R _ h) hk26 dX9_copyFrom_60 (by rw [hRm]; exact ⟨Nat.le_of_ble_eq_true rfl, Nat.le_of_ble_eq_true rfl⟩) ⟨Nat.zero_le _, Nat.zero_le _⟩ (Nat.le_of_ble_eq_true rfl) (z_kLv (I := I22) (L := L23) (fun I27 L28 h => ?_))
  exact z_vret hC dX9_copyFrom_63 ⟨rfl, rfl, rfl, rfl, h⟩
def w_X9_isNameTold  (a0 : Nat) (a1 : Int64) (K : MK) (N : MK) (I : MI) (L : ML) (R : MR) (Q : Bool → Prop) : Prop := K a0 = 10 ∧ ∃ b2 : Nat, R a0 2 = some b2 ∧ K b2 = 8 ∧ w_X7_find b2 a1 K N I L R (fun r4 => (¬ r4 = (-1) → Q true) ∧ (r4 = (-1) → ∃ b5 : Nat, R a0 3 = some b5 ∧ K b5 = 8 ∧ w_X7_find b5 a1 K N I L R (fun r7 => (¬ r7 = (-1) → Q true) ∧ (r7 = (-1) → ∃ b8 : Nat, R a0 4 = some b8 ∧ K b8 = 8 ∧ w_X7_find b8 a1 K N I L R (fun r10 => (r10 = (-1) → Q false) ∧ (¬ r10 = (-1) → Q true))))))
set_option maxHeartbeats 4000000 in
set_option maxRecDepth 100000 in
theorem c_X9_isNameTold  (l : Launch) (G : ZG) (a0 : Nat) (a1 : Int64) (K : MK) (N : MK) (I : MI) (L : ML) (R : MR) (Q : Bool → Prop) (h : w_X9_isNameTold a0 a1 K N I L R Q) : Met l yX9_isNameTold (.code yX9_isNameTold cX9_isNameTold 3 (some .boolean) :: z_tbl) rm_X9_isNameTold (z_Pc G [.ref a0, .long a1] K N I L R) (z_Qc G (qPz K N I L R Q)) 0 0 (z_A G) := by
  refine z_met (by decide) (Nat.le_of_ble_eq_true rfl) (fun X hX hRm hC0 hnm => ?_)
  subst hX
  have hC : ZOk X G RX9 cX9_isNameTold 3 (some .boolean) := hC0
  show Z X G 3 0 0 _ K N I L R 0 [(0, .ref a0), (1, .long a1)] []
  delta w_X9_isNameTold at h
  refine z_aload_n hC (q := 0) dX9_isNameTold_0 rfl rfl ?_
  obtain ⟨hk1, h⟩ := h
  obtain ⟨b2, hb2, h⟩ := h
  refine gf_RX9_24 hC dX9_isNameTold_1 hk1 hb2 ?_
  refine z_lload_n hC (q := 1) dX9_isNameTold_4 rfl rfl ?_
  obtain ⟨hk3, h⟩ := h
  refine cl_RX9_43 hC (c_X7_find _ G b2 a1 K N I L R _ h) hk3 dX9_isNameTold_5 (by rw [hRm]; exact ⟨Nat.le_of_ble_eq_true rfl, Nat.le_of_ble_eq_true rfl⟩) ⟨Nat.zero_le _, Nat.zero_le _⟩ (Nat.le_of_ble_eq_true rfl) (z_kPi (fun r4 h => ?_))
  refine z_iconst hC (v := (-1)) k_iconst_m1 dX9_isNameTold_8 ?_
  refine z_icmp_ne hC (tgt := 36) dX9_isNameTold_9 (by decide) (fun hc => ?_) (fun hc => ?_)
  · have h := h.1 hc
    refine z_iconst hC (v := 1) k_iconst_1 dX9_isNameTold_36 ?_
    refine z_goto hC (tgt := 41) dX9_isNameTold_37 (by decide) ?_
    exact z_zret (b := true) hC dX9_isNameTold_41 rfl ⟨true, rfl, rfl, rfl, rfl, rfl, rfl, h⟩
  · have h := h.2 hc
    refine z_aload_n hC (q := 0) dX9_isNameTold_12 rfl rfl ?_
    obtain ⟨b5, hb5, h⟩ := h
    refine gf_RX9_27 hC dX9_isNameTold_13 hk1 hb5 ?_
    refine z_lload_n hC (q := 1) dX9_isNameTold_16 rfl rfl ?_
    obtain ⟨hk6, h⟩ := h
    refine cl_RX9_43 hC (c_X7_find _ G b5 a1 K N I L R _ h) hk6 dX9_isNameTold_17 (by rw [hRm]; exact ⟨Nat.le_of_ble_eq_true rfl, Nat.le_of_ble_eq_true rfl⟩) ⟨Nat.zero_le _, Nat.zero_le _⟩ (Nat.le_of_ble_eq_true rfl) (z_kPi (fun r7 h => ?_))
    refine z_iconst hC (v := (-1)) k_iconst_m1 dX9_isNameTold_20 ?_
    refine z_icmp_ne hC (tgt := 36) dX9_isNameTold_21 (by decide) (fun hc => ?_) (fun hc => ?_)
    · have h := h.1 hc
      refine z_iconst hC (v := 1) k_iconst_1 dX9_isNameTold_36 ?_
      refine z_goto hC (tgt := 41) dX9_isNameTold_37 (by decide) ?_
      exact z_zret (b := true) hC dX9_isNameTold_41 rfl ⟨true, rfl, rfl, rfl, rfl, rfl, rfl, h⟩
    · have h := h.2 hc
      refine z_aload_n hC (q := 0) dX9_isNameTold_24 rfl rfl ?_
      obtain ⟨b8, hb8, h⟩ := h
      refine gf_RX9_30 hC dX9_isNameTold_25 hk1 hb8 ?_
      refine z_lload_n hC (q := 1) dX9_isNameTold_28 rfl rfl ?_
      obtain ⟨hk9, h⟩ := h
      refine cl_RX9_43 hC (c_X7_find _ G b8 a1 K N I L R _ h) hk9 dX9_isNameTold_29 (by rw [hRm]; exact ⟨Nat.le_of_ble_eq_true rfl, Nat.le_of_ble_eq_true rfl⟩) ⟨Nat.zero_le _, Nat.zero_le _⟩ (Nat.le_of_ble_eq_true rfl) (z_kPi (fun r10 h => ?_))
      refine z_iconst hC (v := (-1)) k_iconst_m1 dX9_isNameTold_32 ?_
      refine z_icmp_eq hC (tgt := 40) dX9_isNameTold_33 (by decide) (fun hc => ?_) (fun hc => ?_)
      · have h := h.1 hc
        refine z_iconst hC (v := 0) k_iconst_0 dX9_isNameTold_40 ?_
        exact z_zret (b := false) hC dX9_isNameTold_41 rfl ⟨false, rfl, rfl, rfl, rfl, rfl, rfl, h⟩
      · have h := h.2 hc
        refine z_iconst hC (v := 1) k_iconst_1 dX9_isNameTold_36 ?_
        refine z_goto hC (tgt := 41) dX9_isNameTold_37 (by decide) ?_
        exact z_zret (b := true) hC dX9_isNameTold_41 rfl ⟨true, rfl, rfl, rfl, rfl, rfl, rfl, h⟩
def w_X9_addRow_12  (x0 : Nat) (x1 : Int32) (x2 : Int32) (x3 : Int32) (x4 : Int32)  (K : MK) (N : MK) (I : MI) (L : ML) (R : MR)  (Q : MI → ML → Prop) : Prop := ∃ J : Nat → Nat → Int32 → Int32 → Int32 → Int32 → MI → ML → Prop, (∃ n, J n x0 x1 x2 x3 x4 I L) ∧ ∀ (n : Nat) (x0 : Nat) (x1 : Int32) (x2 : Int32) (x3 : Int32) (x4 : Int32) (I : MI) (L : ML), J n x0 x1 x2 x3 x4 I L → K x0 = 10 ∧ ∃ b8 : Nat, R x0 1 = some b8 ∧ K b8 = 8 ∧ ((I b8 3) ≤ x4 → w_X7_put b8 x3 0 x1 K N I L R (fun I10 => w_X7_put b8 x3 1 x2 K N I10 L R (fun I11 => Q I11 L))) ∧ (¬ (I b8 3) ≤ x4 → (x3 ≤ 0 → w_X7_put b8 x3 0 x1 K N I L R (fun I12 => w_X7_put b8 x3 1 x2 K N I12 L R (fun I13 => Q I13 L))) ∧ (¬ x3 ≤ 0 → w_X7_at b8 (x3 - 1) 0 K N I L R (fun r14 => (r14 ≤ x1 → w_X7_put b8 x3 0 x1 K N I L R (fun I15 => w_X7_put b8 x3 1 x2 K N I15 L R (fun I16 => Q I16 L))) ∧ (¬ r14 ≤ x1 → w_X7_at b8 (x3 - 1) 0 K N I L R (fun r17 => w_X7_put b8 x3 0 r17 K N I L R (fun I18 => w_X7_at b8 (x3 - 1) 1 K N I18 L R (fun r19 => w_X7_put b8 x3 1 r19 K N I18 L R (fun I20 => ∀ v21 : Int32, v21 = x3 + (-1) → ∀ v22 : Int32, v22 = x4 + 1 → ∃ n1, n1 < n ∧ J n1 x0 x1 x2 v21 v22 I20 L))))))))
def w_X9_addRow  (a0 : Nat) (a1 : Int32) (a2 : Int32) (K : MK) (N : MK) (I : MI) (L : ML) (R : MR) (Q : MI → ML → Prop) : Prop := K a0 = 10 ∧ ∃ b2 : Nat, R a0 1 = some b2 ∧ K b2 = 8 ∧ w_X7_add b2 0 K N I L R (fun r4 I5 L6 => w_X9_addRow_12 a0 a1 a2 r4 0 K N I5 L6 R Q)
set_option maxHeartbeats 4000000 in
set_option maxRecDepth 100000 in
theorem z_X9_addRow_12 {X : ZX} {G : ZG}  {x0 : Nat} {x1 : Int32} {x2 : Int32} {x3 : Int32} {x4 : Int32}  {K : MK} {N : MK} {I : MI} {L : ML} {R : MR}  {Q : MI → ML → Prop} (hC : ZOk X G RX9 cX9_addRow 5 none) (hRm : X.2.2.2.1 = rm_X9_addRow) (h : w_X9_addRow_12 x0 x1 x2 x3 x4 K N I L R  Q) : Z X G 5 0 0 (z_T X G (qLv K N R Q) 0 0) K N I L R 12 [(0, .ref x0), (1, .int x1), (2, .int x2), (3, .int x3), (4, .int x4)] [] := by
  delta w_X9_addRow_12 at h
  obtain ⟨J, ⟨n, h0⟩, hs⟩ := h
  have key : ∀ (n : Nat) (x0 : Nat) (x1 : Int32) (x2 : Int32) (x3 : Int32) (x4 : Int32) (I : MI) (L : ML), J n x0 x1 x2 x3 x4 I L → Z X G 5 0 0 (z_T X G (qLv K N R Q) 0 0) K N I L R 12 [(0, .ref x0), (1, .int x1), (2, .int x2), (3, .int x3), (4, .int x4)] [] := by
    intro n
    induction n using Nat.strongRecOn with
    | _ n ih =>
      intro x0 x1 x2 x3 x4 I L hJ
      have hC12 : ∀ (y0 : Nat) (y1 : Int32) (y2 : Int32) (y3 : Int32) (y4 : Int32) (zI : MI) (zL : ML), (∃ n1, n1 < n ∧ J n1 y0 y1 y2 y3 y4 zI zL) → Z X G 5 0 0 (z_T X G (qLv K N R Q) 0 0) K N zI zL R 12 [(0, .ref y0), (1, .int y1), (2, .int y2), (3, .int y3), (4, .int y4)] [] := fun y0 y1 y2 y3 y4 zI zL ⟨n1, hn1, hj⟩ => ih n1 hn1 y0 y1 y2 y3 y4 zI zL hj
      have h := hs n x0 x1 x2 x3 x4 I L hJ
      refine z_iload hC (q := 4) dX9_addRow_12 rfl ?_
      refine z_aload_n hC (q := 0) dX9_addRow_14 rfl rfl ?_
      obtain ⟨hk7, h⟩ := h
      obtain ⟨b8, hb8, h⟩ := h
      refine gf_RX9_20 hC dX9_addRow_15 hk7 hb8 ?_
      obtain ⟨hk9, h⟩ := h
      refine gf_RX9_50 hC dX9_addRow_18 hk9 ?_
      refine z_icmp_ge hC (tgt := 92) dX9_addRow_21 (by decide) (fun hc => ?_) (fun hc => ?_)
      · have h := h.1 hc
        refine z_aload_n hC (q := 0) dX9_addRow_92 rfl rfl ?_
        refine gf_RX9_20 hC dX9_addRow_93 hk7 hb8 ?_
        refine z_iload_n hC (q := 3) dX9_addRow_96 rfl rfl ?_
        refine z_iconst hC (v := 0) k_iconst_0 dX9_addRow_97 ?_
        refine z_iload_n hC (q := 1) dX9_addRow_98 rfl rfl ?_
        refine cl_RX9_57 hC (c_X7_put _ G b8 x3 0 x1 K N I L R _ h) hk9 dX9_addRow_99 (by rw [hRm]; exact ⟨Nat.le_of_ble_eq_true rfl, Nat.le_of_ble_eq_true rfl⟩) ⟨Nat.zero_le _, Nat.zero_le _⟩ (Nat.le_of_ble_eq_true rfl) (z_kIv (I := I) (fun I10 h => ?_))
        refine z_aload_n hC (q := 0) dX9_addRow_102 rfl rfl ?_
        refine gf_RX9_20 hC dX9_addRow_103 hk7 hb8 ?_
        refine z_iload_n hC (q := 3) dX9_addRow_106 rfl rfl ?_
        refine z_iconst hC (v := 1) k_iconst_1 dX9_addRow_107 ?_
        refine z_iload_n hC (q := 2) dX9_addRow_108 rfl rfl ?_
        refine cl_RX9_57 hC (c_X7_put _ G b8 x3 1 x2 K N I10 L R _ h) hk9 dX9_addRow_109 (by rw [hRm]; exact ⟨Nat.le_of_ble_eq_true rfl, Nat.le_of_ble_eq_true rfl⟩) ⟨Nat.zero_le _, Nat.zero_le _⟩ (Nat.le_of_ble_eq_true rfl) (z_kIv (I := I10) (fun I11 h => ?_))
        exact z_vret hC dX9_addRow_112 ⟨rfl, rfl, rfl, rfl, h⟩
      · have h := h.2 hc
        refine z_iload_n hC (q := 3) dX9_addRow_24 rfl rfl ?_
        refine z_if_le hC (tgt := 92) dX9_addRow_25 (by decide) (fun hc => ?_) (fun hc => ?_)
        · have h := h.1 hc
          refine z_aload_n hC (q := 0) dX9_addRow_92 rfl rfl ?_
          refine gf_RX9_20 hC dX9_addRow_93 hk7 hb8 ?_
          refine z_iload_n hC (q := 3) dX9_addRow_96 rfl rfl ?_
          refine z_iconst hC (v := 0) k_iconst_0 dX9_addRow_97 ?_
          refine z_iload_n hC (q := 1) dX9_addRow_98 rfl rfl ?_
          refine cl_RX9_57 hC (c_X7_put _ G b8 x3 0 x1 K N I L R _ h) hk9 dX9_addRow_99 (by rw [hRm]; exact ⟨Nat.le_of_ble_eq_true rfl, Nat.le_of_ble_eq_true rfl⟩) ⟨Nat.zero_le _, Nat.zero_le _⟩ (Nat.le_of_ble_eq_true rfl) (z_kIv (I := I) (fun I12 h => ?_))
          refine z_aload_n hC (q := 0) dX9_addRow_102 rfl rfl ?_
          refine gf_RX9_20 hC dX9_addRow_103 hk7 hb8 ?_
          refine z_iload_n hC (q := 3) dX9_addRow_106 rfl rfl ?_
          refine z_iconst hC (v := 1) k_iconst_1 dX9_addRow_107 ?_
          refine z_iload_n hC (q := 2) dX9_addRow_108 rfl rfl ?_
          refine cl_RX9_57 hC (c_X7_put _ G b8 x3 1 x2 K N I12 L R _ h) hk9 dX9_addRow_109 (by rw [hRm]; exact ⟨Nat.le_of_ble_eq_true rfl, Nat.le_of_ble_eq_true rfl⟩) ⟨Nat.zero_le _, Nat.zero_le _⟩ (Nat.le_of_ble_eq_true rfl) (z_kIv (I := I12) (fun I13 h => ?_))
          exact z_vret hC dX9_addRow_112 ⟨rfl, rfl, rfl, rfl, h⟩
        · have h := h.2 hc
          refine z_aload_n hC (q := 0) dX9_addRow_28 rfl rfl ?_
          refine gf_RX9_20 hC dX9_addRow_29 hk7 hb8 ?_
          refine z_iload_n hC (q := 3) dX9_addRow_32 rfl rfl ?_
          refine z_iconst hC (v := 1) k_iconst_1 dX9_addRow_33 ?_
          refine z_isub hC dX9_addRow_34 ?_
          refine z_iconst hC (v := 0) k_iconst_0 dX9_addRow_35 ?_
          refine cl_RX9_53 hC (c_X7_at _ G b8 (x3 - 1) 0 K N I L R _ h) hk9 dX9_addRow_36 (by rw [hRm]; exact ⟨Nat.le_of_ble_eq_true rfl, Nat.le_of_ble_eq_true rfl⟩) ⟨Nat.zero_le _, Nat.zero_le _⟩ (Nat.le_of_ble_eq_true rfl) (z_kPi (fun r14 h => ?_))
          refine z_iload_n hC (q := 1) dX9_addRow_39 rfl rfl ?_
          refine z_icmp_le hC (tgt := 92) dX9_addRow_40 (by decide) (fun hc => ?_) (fun hc => ?_)
          · have h := h.1 hc
            refine z_aload_n hC (q := 0) dX9_addRow_92 rfl rfl ?_
            refine gf_RX9_20 hC dX9_addRow_93 hk7 hb8 ?_
            refine z_iload_n hC (q := 3) dX9_addRow_96 rfl rfl ?_
            refine z_iconst hC (v := 0) k_iconst_0 dX9_addRow_97 ?_
            refine z_iload_n hC (q := 1) dX9_addRow_98 rfl rfl ?_
            refine cl_RX9_57 hC (c_X7_put _ G b8 x3 0 x1 K N I L R _ h) hk9 dX9_addRow_99 (by rw [hRm]; exact ⟨Nat.le_of_ble_eq_true rfl, Nat.le_of_ble_eq_true rfl⟩) ⟨Nat.zero_le _, Nat.zero_le _⟩ (Nat.le_of_ble_eq_true rfl) (z_kIv (I := I) (fun I15 h => ?_))
            refine z_aload_n hC (q := 0) dX9_addRow_102 rfl rfl ?_
            refine gf_RX9_20 hC dX9_addRow_103 hk7 hb8 ?_
            refine z_iload_n hC (q := 3) dX9_addRow_106 rfl rfl ?_
            refine z_iconst hC (v := 1) k_iconst_1 dX9_addRow_107 ?_
            refine z_iload_n hC (q := 2) dX9_addRow_108 rfl rfl ?_
            refine cl_RX9_57 hC (c_X7_put _ G b8 x3 1 x2 K N I15 L R _ h) hk9 dX9_addRow_109 (by rw [hRm]; exact ⟨Nat.le_of_ble_eq_true rfl, Nat.le_of_ble_eq_true rfl⟩) ⟨Nat.zero_le _, Nat.zero_le _⟩ (Nat.le_of_ble_eq_true rfl) (z_kIv (I := I15) (fun I16 h => ?_))
            exact z_vret hC dX9_addRow_112 ⟨rfl, rfl, rfl, rfl, h⟩
          · have h := h.2 hc
            refine z_aload_n hC (q := 0) dX9_addRow_43 rfl rfl ?_
            refine gf_RX9_20 hC dX9_addRow_44 hk7 hb8 ?_
            refine z_iload_n hC (q := 3) dX9_addRow_47 rfl rfl ?_
            refine z_iconst hC (v := 0) k_iconst_0 dX9_addRow_48 ?_
            refine z_aload_n hC (q := 0) dX9_addRow_49 rfl rfl ?_
            refine gf_RX9_20 hC dX9_addRow_50 hk7 hb8 ?_
            refine z_iload_n hC (q := 3) dX9_addRow_53 rfl rfl ?_
            refine z_iconst hC (v := 1) k_iconst_1 dX9_addRow_54 ?_
            refine z_isub hC dX9_addRow_55 ?_
            refine z_iconst hC (v := 0) k_iconst_0 dX9_addRow_56 ?_
            refine cl_RX9_53 hC (c_X7_at _ G b8 (x3 - 1) 0 K N I L R _ h) hk9 dX9_addRow_57 (by rw [hRm]; exact ⟨Nat.le_of_ble_eq_true rfl, Nat.le_of_ble_eq_true rfl⟩) ⟨Nat.zero_le _, Nat.zero_le _⟩ (Nat.le_of_ble_eq_true rfl) (z_kPi (fun r17 h => ?_))
            refine cl_RX9_57 hC (c_X7_put _ G b8 x3 0 r17 K N I L R _ h) hk9 dX9_addRow_60 (by rw [hRm]; exact ⟨Nat.le_of_ble_eq_true rfl, Nat.le_of_ble_eq_true rfl⟩) ⟨Nat.zero_le _, Nat.zero_le _⟩ (Nat.le_of_ble_eq_true rfl) (z_kIv (I := I) (fun I18 h => ?_))
            refine z_aload_n hC (q := 0) dX9_addRow_63 rfl rfl ?_
            refine gf_RX9_20 hC dX9_addRow_64 hk7 hb8 ?_
            refine z_iload_n hC (q := 3) dX9_addRow_67 rfl rfl ?_
            refine z_iconst hC (v := 1) k_iconst_1 dX9_addRow_68 ?_
            refine z_aload_n hC (q := 0) dX9_addRow_69 rfl rfl ?_
            refine gf_RX9_20 hC dX9_addRow_70 hk7 hb8 ?_
            refine z_iload_n hC (q := 3) dX9_addRow_73 rfl rfl ?_
            refine z_iconst hC (v := 1) k_iconst_1 dX9_addRow_74 ?_
            refine z_isub hC dX9_addRow_75 ?_
            refine z_iconst hC (v := 1) k_iconst_1 dX9_addRow_76 ?_
            refine cl_RX9_53 hC (c_X7_at _ G b8 (x3 - 1) 1 K N I18 L R _ h) hk9 dX9_addRow_77 (by rw [hRm]; exact ⟨Nat.le_of_ble_eq_true rfl, Nat.le_of_ble_eq_true rfl⟩) ⟨Nat.zero_le _, Nat.zero_le _⟩ (Nat.le_of_ble_eq_true rfl) (z_kPi (fun r19 h => ?_))
            refine cl_RX9_57 hC (c_X7_put _ G b8 x3 1 r19 K N I18 L R _ h) hk9 dX9_addRow_80 (by rw [hRm]; exact ⟨Nat.le_of_ble_eq_true rfl, Nat.le_of_ble_eq_true rfl⟩) ⟨Nat.zero_le _, Nat.zero_le _⟩ (Nat.le_of_ble_eq_true rfl) (z_kIv (I := I18) (fun I20 h => ?_))
            obtain ⟨v21, ev21⟩ : ∃ y : Int32, y = x3 + (-1) := ⟨_, rfl⟩
            have h := h v21 ev21
            refine z_iinc hC (q := 3) (v := v21) (lv1 := [(3, .int v21), (0, .ref x0), (1, .int x1), (2, .int x2), (4, .int x4)]) dX9_addRow_83 rfl (by rw [ev21, k_iinc_m1]) (by decide) rfl ?_
            obtain ⟨v22, ev22⟩ : ∃ y : Int32, y = x4 + 1 := ⟨_, rfl⟩
            have h := h v22 ev22
            refine z_iinc hC (q := 4) (v := v22) (lv1 := [(4, .int v22), (3, .int v21), (0, .ref x0), (1, .int x1), (2, .int x2)]) dX9_addRow_86 rfl (by rw [ev22, k_iinc_1]) (by decide) rfl ?_
            refine z_goto hC (tgt := 12) dX9_addRow_89 (by decide) ?_
            exact z_sub [(0, .ref x0), (1, .int x1), (2, .int x2), (3, .int v21), (4, .int v22)] [2, 3, 4, 1, 0] rfl (hC12 _ _ _ _ _ _ _ h)
  exact key n x0 x1 x2 x3 x4 I L h0
set_option maxHeartbeats 4000000 in
set_option maxRecDepth 100000 in
theorem c_X9_addRow  (l : Launch) (G : ZG) (a0 : Nat) (a1 : Int32) (a2 : Int32) (K : MK) (N : MK) (I : MI) (L : ML) (R : MR) (Q : MI → ML → Prop) (h : w_X9_addRow a0 a1 a2 K N I L R Q) : Met l yX9_addRow (.code yX9_addRow cX9_addRow 5 none :: z_tbl) rm_X9_addRow (z_Pc G [.ref a0, .int a1, .int a2] K N I L R) (z_Qc G (qLv K N R Q)) 0 0 (z_A G) := by
  refine z_met (by decide) (Nat.le_of_ble_eq_true rfl) (fun X hX hRm hC0 hnm => ?_)
  subst hX
  have hC : ZOk X G RX9 cX9_addRow 5 none := hC0
  show Z X G 5 0 0 _ K N I L R 0 [(0, .ref a0), (1, .int a1), (2, .int a2)] []
  delta w_X9_addRow at h
  refine z_aload_n hC (q := 0) dX9_addRow_0 rfl rfl ?_
  obtain ⟨hk1, h⟩ := h
  obtain ⟨b2, hb2, h⟩ := h
  refine gf_RX9_20 hC dX9_addRow_1 hk1 hb2 ?_
  refine z_lconst hC (v := 0) k_lconst_0 dX9_addRow_4 ?_
  obtain ⟨hk3, h⟩ := h
  refine cl_RX9_47 hC (c_X7_add _ G b2 0 K N I L R _ h) hk3 dX9_addRow_5 (by rw [hRm]; exact ⟨Nat.le_of_ble_eq_true rfl, Nat.le_of_ble_eq_true rfl⟩) ⟨Nat.zero_le _, Nat.zero_le _⟩ (Nat.le_of_ble_eq_true rfl) (z_kLi (I := I) (L := L) (fun r4 I5 L6 h => ?_))
  refine z_istore_n hC (lv1 := [(3, .int r4), (0, .ref a0), (1, .int a1), (2, .int a2)]) dX9_addRow_8 rfl (by decide) rfl ?_
  refine z_iconst hC (v := 0) k_iconst_0 dX9_addRow_9 ?_
  refine z_istore hC (lv1 := [(4, .int 0), (3, .int r4), (0, .ref a0), (1, .int a1), (2, .int a2)]) dX9_addRow_10 (by decide) rfl ?_
  exact z_sub [(0, .ref a0), (1, .int a1), (2, .int a2), (3, .int r4), (4, .int 0)] [2, 3, 4, 1, 0] rfl (z_X9_addRow_12 hC hRm h)
def w_X9_lineOf  (a0 : Nat) (a1 : Int32) (K : MK) (N : MK) (I : MI) (L : ML) (R : MR) (Q : Int32 → Prop) : Prop := K a0 = 10 ∧ w_X9_hasAddress a0 a1 K N I L R (fun r2 => (r2 = false → Q (-1)) ∧ (r2 = true → ∃ b3 : Nat, R a0 1 = some b3 ∧ w_X9_rowOf a0 a1 K N I L R (fun r4 => K b3 = 8 ∧ w_X7_at b3 r4 1 K N I L R (fun r6 => Q r6))))
set_option maxHeartbeats 4000000 in
set_option maxRecDepth 100000 in
theorem c_X9_lineOf  (l : Launch) (G : ZG) (a0 : Nat) (a1 : Int32) (K : MK) (N : MK) (I : MI) (L : ML) (R : MR) (Q : Int32 → Prop) (h : w_X9_lineOf a0 a1 K N I L R Q) : Met l yX9_lineOf (.code yX9_lineOf cX9_lineOf 2 (some .int) :: z_tbl) rm_X9_lineOf (z_Pc G [.ref a0, .int a1] K N I L R) (z_Qc G (qPi K N I L R Q)) 0 0 (z_A G) := by
  refine z_met (by decide) (Nat.le_of_ble_eq_true rfl) (fun X hX hRm hC0 hnm => ?_)
  subst hX
  have hC : ZOk X G RX9 cX9_lineOf 2 (some .int) := hC0
  show Z X G 2 0 0 _ K N I L R 0 [(0, .ref a0), (1, .int a1)] []
  delta w_X9_lineOf at h
  refine z_aload_n hC (q := 0) dX9_lineOf_0 rfl rfl ?_
  refine z_iload_n hC (q := 1) dX9_lineOf_1 rfl rfl ?_
  obtain ⟨hk1, h⟩ := h
  refine cl_RX9_61 hC (c_X9_hasAddress _ G a0 a1 K N I L R _ h) hk1 dX9_lineOf_2 (by rw [hRm]; exact ⟨Nat.le_of_ble_eq_true rfl, Nat.le_of_ble_eq_true rfl⟩) ⟨Nat.zero_le _, Nat.zero_le _⟩ (Nat.le_of_ble_eq_true rfl) (z_kPz (fun r2 h => ?_))
  refine z_ifz_eq hC (tgt := 24) dX9_lineOf_5 (by decide) (fun hc => ?_) (fun hc => ?_)
  · have h := h.1 hc
    refine z_iconst hC (v := (-1)) k_iconst_m1 dX9_lineOf_24 ?_
    exact z_iret hC dX9_lineOf_25 ⟨_, rfl, rfl, rfl, rfl, rfl, rfl, h⟩
  · have h := h.2 hc
    refine z_aload_n hC (q := 0) dX9_lineOf_8 rfl rfl ?_
    obtain ⟨b3, hb3, h⟩ := h
    refine gf_RX9_20 hC dX9_lineOf_9 hk1 hb3 ?_
    refine z_aload_n hC (q := 0) dX9_lineOf_12 rfl rfl ?_
    refine z_iload_n hC (q := 1) dX9_lineOf_13 rfl rfl ?_
    refine cl_RX9_65 hC (c_X9_rowOf _ G a0 a1 K N I L R _ h) hk1 dX9_lineOf_14 (by rw [hRm]; exact ⟨Nat.le_of_ble_eq_true rfl, Nat.le_of_ble_eq_true rfl⟩) ⟨Nat.zero_le _, Nat.zero_le _⟩ (Nat.le_of_ble_eq_true rfl) (z_kPi (fun r4 h => ?_))
    refine z_iconst hC (v := 1) k_iconst_1 dX9_lineOf_17 ?_
    obtain ⟨hk5, h⟩ := h
    refine cl_RX9_53 hC (c_X7_at _ G b3 r4 1 K N I L R _ h) hk5 dX9_lineOf_18 (by rw [hRm]; exact ⟨Nat.le_of_ble_eq_true rfl, Nat.le_of_ble_eq_true rfl⟩) ⟨Nat.zero_le _, Nat.zero_le _⟩ (Nat.le_of_ble_eq_true rfl) (z_kPi (fun r6 h => ?_))
    refine z_goto hC (tgt := 25) dX9_lineOf_21 (by decide) ?_
    exact z_iret hC dX9_lineOf_25 ⟨_, rfl, rfl, rfl, rfl, rfl, rfl, h⟩
def w_X9_rowLength  (a0 : Nat) (a1 : Int32) (K : MK) (N : MK) (I : MI) (L : ML) (R : MR) (Q : Int32 → Prop) : Prop := K a0 = 10 ∧ ∃ b2 : Nat, R a0 1 = some b2 ∧ K b2 = 8 ∧ w_X7_has b2 (a1 + 1) K N I L R (fun r4 => (r4 = false → ∀ v5 : Int32, v5 = (I a0 0) → w_X7_at b2 a1 0 K N I L R (fun r6 => Q (v5 - r6))) ∧ (r4 = true → w_X7_at b2 (a1 + 1) 0 K N I L R (fun r7 => w_X7_at b2 a1 0 K N I L R (fun r8 => Q (r7 - r8)))))
set_option maxHeartbeats 4000000 in
set_option maxRecDepth 100000 in
theorem c_X9_rowLength  (l : Launch) (G : ZG) (a0 : Nat) (a1 : Int32) (K : MK) (N : MK) (I : MI) (L : ML) (R : MR) (Q : Int32 → Prop) (h : w_X9_rowLength a0 a1 K N I L R Q) : Met l yX9_rowLength (.code yX9_rowLength cX9_rowLength 3 (some .int) :: z_tbl) rm_X9_rowLength (z_Pc G [.ref a0, .int a1] K N I L R) (z_Qc G (qPi K N I L R Q)) 0 0 (z_A G) := by
  refine z_met (by decide) (Nat.le_of_ble_eq_true rfl) (fun X hX hRm hC0 hnm => ?_)
  subst hX
  have hC : ZOk X G RX9 cX9_rowLength 3 (some .int) := hC0
  show Z X G 3 0 0 _ K N I L R 0 [(0, .ref a0), (1, .int a1)] []
  delta w_X9_rowLength at h
  refine z_aload_n hC (q := 0) dX9_rowLength_0 rfl rfl ?_
  obtain ⟨hk1, h⟩ := h
  obtain ⟨b2, hb2, h⟩ := h
  refine gf_RX9_20 hC dX9_rowLength_1 hk1 hb2 ?_
  refine z_iload_n hC (q := 1) dX9_rowLength_4 rfl rfl ?_
  refine z_iconst hC (v := 1) k_iconst_1 dX9_rowLength_5 ?_
  refine z_iadd hC dX9_rowLength_6 ?_
  obtain ⟨hk3, h⟩ := h
  refine cl_RX9_69 hC (c_X7_has _ G b2 (a1 + 1) K N I L R _ h) hk3 dX9_rowLength_7 (by rw [hRm]; exact ⟨Nat.le_of_ble_eq_true rfl, Nat.le_of_ble_eq_true rfl⟩) ⟨Nat.zero_le _, Nat.zero_le _⟩ (Nat.le_of_ble_eq_true rfl) (z_kPz (fun r4 h => ?_))
  refine z_ifz_eq hC (tgt := 27) dX9_rowLength_10 (by decide) (fun hc => ?_) (fun hc => ?_)
  · have h := h.1 hc
    refine z_aload_n hC (q := 0) dX9_rowLength_27 rfl rfl ?_
    refine gf_RX9_11 hC dX9_rowLength_28 hk1 ?_
    refine z_topi (fun v5 ev5 => ?_)
    have h := h v5 ev5
    refine z_istore_n hC (lv1 := [(2, .int v5), (0, .ref a0), (1, .int a1)]) dX9_rowLength_31 rfl (by decide) rfl ?_
    refine z_iload_n hC (q := 0) dX9_rowLength_32 rfl rfl ?_
    refine z_aload_n hC (q := 1) dX9_rowLength_33 rfl rfl ?_
    refine gf_RX9_20 hC dX9_rowLength_34 hk1 hb2 ?_
    refine z_iload_n hC (q := 2) dX9_rowLength_37 rfl rfl ?_
    refine z_iconst hC (v := 0) k_iconst_0 dX9_rowLength_38 ?_
    refine cl_RX9_53 hC (c_X7_at _ G b2 a1 0 K N I L R _ h) hk3 dX9_rowLength_39 (by rw [hRm]; exact ⟨Nat.le_of_ble_eq_true rfl, Nat.le_of_ble_eq_true rfl⟩) ⟨Nat.zero_le _, Nat.zero_le _⟩ (Nat.le_of_ble_eq_true rfl) (z_kPi (fun r6 h => ?_))
    refine z_isub hC dX9_rowLength_42 ?_
    exact z_iret hC dX9_rowLength_43 ⟨_, rfl, rfl, rfl, rfl, rfl, rfl, h⟩
  · have h := h.2 hc
    refine z_aload_n hC (q := 0) dX9_rowLength_13 rfl rfl ?_
    refine gf_RX9_20 hC dX9_rowLength_14 hk1 hb2 ?_
    refine z_iload_n hC (q := 1) dX9_rowLength_17 rfl rfl ?_
    refine z_iconst hC (v := 1) k_iconst_1 dX9_rowLength_18 ?_
    refine z_iadd hC dX9_rowLength_19 ?_
    refine z_iconst hC (v := 0) k_iconst_0 dX9_rowLength_20 ?_
    refine cl_RX9_53 hC (c_X7_at _ G b2 (a1 + 1) 0 K N I L R _ h) hk3 dX9_rowLength_21 (by rw [hRm]; exact ⟨Nat.le_of_ble_eq_true rfl, Nat.le_of_ble_eq_true rfl⟩) ⟨Nat.zero_le _, Nat.zero_le _⟩ (Nat.le_of_ble_eq_true rfl) (z_kPi (fun r7 h => ?_))
    refine z_goto hC (tgt := 31) dX9_rowLength_24 (by decide) ?_
    refine z_istore_n hC (lv1 := [(2, .int r7), (0, .ref a0), (1, .int a1)]) dX9_rowLength_31 rfl (by decide) rfl ?_
    refine z_iload_n hC (q := 0) dX9_rowLength_32 rfl rfl ?_
    refine z_aload_n hC (q := 1) dX9_rowLength_33 rfl rfl ?_
    refine gf_RX9_20 hC dX9_rowLength_34 hk1 hb2 ?_
    refine z_iload_n hC (q := 2) dX9_rowLength_37 rfl rfl ?_
    refine z_iconst hC (v := 0) k_iconst_0 dX9_rowLength_38 ?_
    refine cl_RX9_53 hC (c_X7_at _ G b2 a1 0 K N I L R _ h) hk3 dX9_rowLength_39 (by rw [hRm]; exact ⟨Nat.le_of_ble_eq_true rfl, Nat.le_of_ble_eq_true rfl⟩) ⟨Nat.zero_le _, Nat.zero_le _⟩ (Nat.le_of_ble_eq_true rfl) (z_kPi (fun r8 h => ?_))
    refine z_isub hC dX9_rowLength_42 ?_
    exact z_iret hC dX9_rowLength_43 ⟨_, rfl, rfl, rfl, rfl, rfl, rfl, h⟩
def w_X9_lineLength_4  (x0 : Nat) (x1 : Int32) (x2 : Int32) (x3 : Int32)  (K : MK) (N : MK) (I : MI) (L : ML) (R : MR)  (Q : Int32 → Prop) : Prop := ∃ J : Nat → Nat → Int32 → Int32 → Int32 → Prop, (∃ n, J n x0 x1 x2 x3) ∧ ∀ (n : Nat) (x0 : Nat) (x1 : Int32) (x2 : Int32) (x3 : Int32), J n x0 x1 x2 x3 → K x0 = 10 ∧ ∃ b2 : Nat, R x0 1 = some b2 ∧ K b2 = 8 ∧ ((I b2 3) ≤ x3 → Q x2) ∧ (¬ (I b2 3) ≤ x3 → w_X7_at b2 x3 1 K N I L R (fun r4 => (¬ r4 = x1 → ∀ v5 : Int32, v5 = x3 + 1 → ∃ n1, n1 < n ∧ J n1 x0 x1 x2 v5) ∧ (r4 = x1 → w_X9_rowLength x0 x3 K N I L R (fun r6 => ∀ v7 : Int32, v7 = (x2 + r6) → ∀ v8 : Int32, v8 = x3 + 1 → ∃ n1, n1 < n ∧ J n1 x0 x1 v7 v8))))
def w_X9_lineLength  (a0 : Nat) (a1 : Int32) (K : MK) (N : MK) (I : MI) (L : ML) (R : MR) (Q : Int32 → Prop) : Prop := w_X9_lineLength_4 a0 a1 0 0 K N I L R Q
set_option maxHeartbeats 4000000 in
set_option maxRecDepth 100000 in
theorem z_X9_lineLength_4 {X : ZX} {G : ZG}  {x0 : Nat} {x1 : Int32} {x2 : Int32} {x3 : Int32}  {K : MK} {N : MK} {I : MI} {L : ML} {R : MR}  {Q : Int32 → Prop} (hC : ZOk X G RX9 cX9_lineLength 4 (some .int)) (hRm : X.2.2.2.1 = rm_X9_lineLength) (h : w_X9_lineLength_4 x0 x1 x2 x3 K N I L R  Q) : Z X G 4 0 0 (z_T X G (qPi K N I L R Q) 0 0) K N I L R 4 [(0, .ref x0), (1, .int x1), (2, .int x2), (3, .int x3)] [] := by
  delta w_X9_lineLength_4 at h
  obtain ⟨J, ⟨n, h0⟩, hs⟩ := h
  have key : ∀ (n : Nat) (x0 : Nat) (x1 : Int32) (x2 : Int32) (x3 : Int32), J n x0 x1 x2 x3 → Z X G 4 0 0 (z_T X G (qPi K N I L R Q) 0 0) K N I L R 4 [(0, .ref x0), (1, .int x1), (2, .int x2), (3, .int x3)] [] := by
    intro n
    induction n using Nat.strongRecOn with
    | _ n ih =>
      intro x0 x1 x2 x3 hJ
      have hC4 : ∀ (y0 : Nat) (y1 : Int32) (y2 : Int32) (y3 : Int32) , (∃ n1, n1 < n ∧ J n1 y0 y1 y2 y3) → Z X G 4 0 0 (z_T X G (qPi K N I L R Q) 0 0) K N I L R 4 [(0, .ref y0), (1, .int y1), (2, .int y2), (3, .int y3)] [] := fun y0 y1 y2 y3 ⟨n1, hn1, hj⟩ => ih n1 hn1 y0 y1 y2 y3 hj
      have h := hs n x0 x1 x2 x3 hJ
      refine z_iload_n hC (q := 3) dX9_lineLength_4 rfl rfl ?_
      refine z_aload_n hC (q := 0) dX9_lineLength_5 rfl rfl ?_
      obtain ⟨hk1, h⟩ := h
      obtain ⟨b2, hb2, h⟩ := h
      refine gf_RX9_20 hC dX9_lineLength_6 hk1 hb2 ?_
      obtain ⟨hk3, h⟩ := h
      refine gf_RX9_50 hC dX9_lineLength_9 hk3 ?_
      refine z_icmp_ge hC (tgt := 42) dX9_lineLength_12 (by decide) (fun hc => ?_) (fun hc => ?_)
      · have h := h.1 hc
        refine z_iload_n hC (q := 2) dX9_lineLength_42 rfl rfl ?_
        exact z_iret hC dX9_lineLength_43 ⟨_, rfl, rfl, rfl, rfl, rfl, rfl, h⟩
      · have h := h.2 hc
        refine z_aload_n hC (q := 0) dX9_lineLength_15 rfl rfl ?_
        refine gf_RX9_20 hC dX9_lineLength_16 hk1 hb2 ?_
        refine z_iload_n hC (q := 3) dX9_lineLength_19 rfl rfl ?_
        refine z_iconst hC (v := 1) k_iconst_1 dX9_lineLength_20 ?_
        refine cl_RX9_53 hC (c_X7_at _ G b2 x3 1 K N I L R _ h) hk3 dX9_lineLength_21 (by rw [hRm]; exact ⟨Nat.le_of_ble_eq_true rfl, Nat.le_of_ble_eq_true rfl⟩) ⟨Nat.zero_le _, Nat.zero_le _⟩ (Nat.le_of_ble_eq_true rfl) (z_kPi (fun r4 h => ?_))
        refine z_iload_n hC (q := 1) dX9_lineLength_24 rfl rfl ?_
        refine z_icmp_ne hC (tgt := 36) dX9_lineLength_25 (by decide) (fun hc => ?_) (fun hc => ?_)
        · have h := h.1 hc
          obtain ⟨v5, ev5⟩ : ∃ y : Int32, y = x3 + 1 := ⟨_, rfl⟩
          have h := h v5 ev5
          refine z_iinc hC (q := 3) (v := v5) (lv1 := [(3, .int v5), (0, .ref x0), (1, .int x1), (2, .int x2)]) dX9_lineLength_36 rfl (by rw [ev5, k_iinc_1]) (by decide) rfl ?_
          refine z_goto hC (tgt := 4) dX9_lineLength_39 (by decide) ?_
          exact z_sub [(0, .ref x0), (1, .int x1), (2, .int x2), (3, .int v5)] [1, 2, 3, 0] rfl (hC4 _ _ _ _ h)
        · have h := h.2 hc
          refine z_iload_n hC (q := 2) dX9_lineLength_28 rfl rfl ?_
          refine z_aload_n hC (q := 0) dX9_lineLength_29 rfl rfl ?_
          refine z_iload_n hC (q := 3) dX9_lineLength_30 rfl rfl ?_
          refine cl_RX9_72 hC (c_X9_rowLength _ G x0 x3 K N I L R _ h) hk1 dX9_lineLength_31 (by rw [hRm]; exact ⟨Nat.le_of_ble_eq_true rfl, Nat.le_of_ble_eq_true rfl⟩) ⟨Nat.zero_le _, Nat.zero_le _⟩ (Nat.le_of_ble_eq_true rfl) (z_kPi (fun r6 h => ?_))
          refine z_iadd hC dX9_lineLength_34 ?_
          refine z_topi (fun v7 ev7 => ?_)
          have h := h v7 ev7
          refine z_istore_n hC (lv1 := [(2, .int v7), (0, .ref x0), (1, .int x1), (3, .int x3)]) dX9_lineLength_35 rfl (by decide) rfl ?_
          obtain ⟨v8, ev8⟩ : ∃ y : Int32, y = x3 + 1 := ⟨_, rfl⟩
          have h := h v8 ev8
          refine z_iinc hC (q := 3) (v := v8) (lv1 := [(3, .int v8), (2, .int v7), (0, .ref x0), (1, .int x1)]) dX9_lineLength_36 rfl (by rw [ev8, k_iinc_1]) (by decide) rfl ?_
          refine z_goto hC (tgt := 4) dX9_lineLength_39 (by decide) ?_
          exact z_sub [(0, .ref x0), (1, .int x1), (2, .int v7), (3, .int v8)] [2, 3, 1, 0] rfl (hC4 _ _ _ _ h)
  exact key n x0 x1 x2 x3 h0
set_option maxHeartbeats 4000000 in
set_option maxRecDepth 100000 in
theorem c_X9_lineLength  (l : Launch) (G : ZG) (a0 : Nat) (a1 : Int32) (K : MK) (N : MK) (I : MI) (L : ML) (R : MR) (Q : Int32 → Prop) (h : w_X9_lineLength a0 a1 K N I L R Q) : Met l yX9_lineLength (.code yX9_lineLength cX9_lineLength 4 (some .int) :: z_tbl) rm_X9_lineLength (z_Pc G [.ref a0, .int a1] K N I L R) (z_Qc G (qPi K N I L R Q)) 0 0 (z_A G) := by
  refine z_met (by decide) (Nat.le_of_ble_eq_true rfl) (fun X hX hRm hC0 hnm => ?_)
  subst hX
  have hC : ZOk X G RX9 cX9_lineLength 4 (some .int) := hC0
  show Z X G 4 0 0 _ K N I L R 0 [(0, .ref a0), (1, .int a1)] []
  delta w_X9_lineLength at h
  refine z_iconst hC (v := 0) k_iconst_0 dX9_lineLength_0 ?_
  refine z_istore_n hC (lv1 := [(2, .int 0), (0, .ref a0), (1, .int a1)]) dX9_lineLength_1 rfl (by decide) rfl ?_
  refine z_iconst hC (v := 0) k_iconst_0 dX9_lineLength_2 ?_
  refine z_istore_n hC (lv1 := [(3, .int 0), (2, .int 0), (0, .ref a0), (1, .int a1)]) dX9_lineLength_3 rfl (by decide) rfl ?_
  exact z_sub [(0, .ref a0), (1, .int a1), (2, .int 0), (3, .int 0)] [2, 3, 1, 0] rfl (z_X9_lineLength_4 hC hRm h)
def w_X9_scopeLength  (a0 : Nat) (a1 : Int32) (K : MK) (N : MK) (I : MI) (L : ML) (R : MR) (Q : Int32 → Prop) : Prop := K a0 = 10 ∧ ∃ b2 : Nat, R a0 2 = some b2 ∧ K b2 = 8 ∧ w_X7_at b2 a1 1 K N I L R (fun r4 => w_X7_at b2 a1 0 K N I L R (fun r5 => Q (r4 - r5)))
set_option maxHeartbeats 4000000 in
set_option maxRecDepth 100000 in
theorem c_X9_scopeLength  (l : Launch) (G : ZG) (a0 : Nat) (a1 : Int32) (K : MK) (N : MK) (I : MI) (L : ML) (R : MR) (Q : Int32 → Prop) (h : w_X9_scopeLength a0 a1 K N I L R Q) : Met l yX9_scopeLength (.code yX9_scopeLength cX9_scopeLength 2 (some .int) :: z_tbl) rm_X9_scopeLength (z_Pc G [.ref a0, .int a1] K N I L R) (z_Qc G (qPi K N I L R Q)) 0 0 (z_A G) := by
  refine z_met (by decide) (Nat.le_of_ble_eq_true rfl) (fun X hX hRm hC0 hnm => ?_)
  subst hX
  have hC : ZOk X G RX9 cX9_scopeLength 2 (some .int) := hC0
  show Z X G 2 0 0 _ K N I L R 0 [(0, .ref a0), (1, .int a1)] []
  delta w_X9_scopeLength at h
  refine z_aload_n hC (q := 0) dX9_scopeLength_0 rfl rfl ?_
  obtain ⟨hk1, h⟩ := h
  obtain ⟨b2, hb2, h⟩ := h
  refine gf_RX9_24 hC dX9_scopeLength_1 hk1 hb2 ?_
  refine z_iload_n hC (q := 1) dX9_scopeLength_4 rfl rfl ?_
  refine z_iconst hC (v := 1) k_iconst_1 dX9_scopeLength_5 ?_
  obtain ⟨hk3, h⟩ := h
  refine cl_RX9_53 hC (c_X7_at _ G b2 a1 1 K N I L R _ h) hk3 dX9_scopeLength_6 (by rw [hRm]; exact ⟨Nat.le_of_ble_eq_true rfl, Nat.le_of_ble_eq_true rfl⟩) ⟨Nat.zero_le _, Nat.zero_le _⟩ (Nat.le_of_ble_eq_true rfl) (z_kPi (fun r4 h => ?_))
  refine z_aload_n hC (q := 0) dX9_scopeLength_9 rfl rfl ?_
  refine gf_RX9_24 hC dX9_scopeLength_10 hk1 hb2 ?_
  refine z_iload_n hC (q := 1) dX9_scopeLength_13 rfl rfl ?_
  refine z_iconst hC (v := 0) k_iconst_0 dX9_scopeLength_14 ?_
  refine cl_RX9_53 hC (c_X7_at _ G b2 a1 0 K N I L R _ h) hk3 dX9_scopeLength_15 (by rw [hRm]; exact ⟨Nat.le_of_ble_eq_true rfl, Nat.le_of_ble_eq_true rfl⟩) ⟨Nat.zero_le _, Nat.zero_le _⟩ (Nat.le_of_ble_eq_true rfl) (z_kPi (fun r5 h => ?_))
  refine z_isub hC dX9_scopeLength_18 ?_
  exact z_iret hC dX9_scopeLength_19 ⟨_, rfl, rfl, rfl, rfl, rfl, rfl, h⟩
def w_X9_rankScope  (a0 : Nat) (a1 : Int32) (K : MK) (N : MK) (I : MI) (L : ML) (R : MR) (Q : MI → Prop) : Prop := K a0 = 10 ∧ ∃ b2 : Nat, R a0 2 = some b2 ∧ K b2 = 8 ∧ w_X7_at b2 a1 1 K N I L R (fun r4 => w_X7_at b2 a1 0 K N I L R (fun r5 => ∀ v6 : Int32, v6 = (r4 - r5) → w_X7_put b2 a1 3 (((v6 + 1) * 10) - a1) K N I L R (fun I7 => Q I7)))
set_option maxHeartbeats 4000000 in
set_option maxRecDepth 100000 in
theorem c_X9_rankScope  (l : Launch) (G : ZG) (a0 : Nat) (a1 : Int32) (K : MK) (N : MK) (I : MI) (L : ML) (R : MR) (Q : MI → Prop) (h : w_X9_rankScope a0 a1 K N I L R Q) : Met l yX9_rankScope (.code yX9_rankScope cX9_rankScope 3 none :: z_tbl) rm_X9_rankScope (z_Pc G [.ref a0, .int a1] K N I L R) (z_Qc G (qIv K N L R Q)) 0 0 (z_A G) := by
  refine z_met (by decide) (Nat.le_of_ble_eq_true rfl) (fun X hX hRm hC0 hnm => ?_)
  subst hX
  have hC : ZOk X G RX9 cX9_rankScope 3 none := hC0
  show Z X G 3 0 0 _ K N I L R 0 [(0, .ref a0), (1, .int a1)] []
  delta w_X9_rankScope at h
  refine z_aload_n hC (q := 0) dX9_rankScope_0 rfl rfl ?_
  obtain ⟨hk1, h⟩ := h
  obtain ⟨b2, hb2, h⟩ := h
  refine gf_RX9_24 hC dX9_rankScope_1 hk1 hb2 ?_
  refine z_iload_n hC (q := 1) dX9_rankScope_4 rfl rfl ?_
  refine z_iconst hC (v := 1) k_iconst_1 dX9_rankScope_5 ?_
  obtain ⟨hk3, h⟩ := h
  refine cl_RX9_53 hC (c_X7_at _ G b2 a1 1 K N I L R _ h) hk3 dX9_rankScope_6 (by rw [hRm]; exact ⟨Nat.le_of_ble_eq_true rfl, Nat.le_of_ble_eq_true rfl⟩) ⟨Nat.zero_le _, Nat.zero_le _⟩ (Nat.le_of_ble_eq_true rfl) (z_kPi (fun r4 h => ?_))
  refine z_aload_n hC (q := 0) dX9_rankScope_9 rfl rfl ?_
  refine gf_RX9_24 hC dX9_rankScope_10 hk1 hb2 ?_
  refine z_iload_n hC (q := 1) dX9_rankScope_13 rfl rfl ?_
  refine z_iconst hC (v := 0) k_iconst_0 dX9_rankScope_14 ?_
  refine cl_RX9_53 hC (c_X7_at _ G b2 a1 0 K N I L R _ h) hk3 dX9_rankScope_15 (by rw [hRm]; exact ⟨Nat.le_of_ble_eq_true rfl, Nat.le_of_ble_eq_true rfl⟩) ⟨Nat.zero_le _, Nat.zero_le _⟩ (Nat.le_of_ble_eq_true rfl) (z_kPi (fun r5 h => ?_))
  refine z_isub hC dX9_rankScope_18 ?_
  refine z_topi (fun v6 ev6 => ?_)
  have h := h v6 ev6
  refine z_istore_n hC (lv1 := [(2, .int v6), (0, .ref a0), (1, .int a1)]) dX9_rankScope_19 rfl (by decide) rfl ?_
  refine z_aload_n hC (q := 1) dX9_rankScope_20 rfl rfl ?_
  refine gf_RX9_24 hC dX9_rankScope_21 hk1 hb2 ?_
  refine z_iload_n hC (q := 2) dX9_rankScope_24 rfl rfl ?_
  refine z_iconst hC (v := 3) k_iconst_3 dX9_rankScope_25 ?_
  refine z_iload_n hC (q := 0) dX9_rankScope_26 rfl rfl ?_
  refine z_iconst hC (v := 1) k_iconst_1 dX9_rankScope_27 ?_
  refine z_iadd hC dX9_rankScope_28 ?_
  refine z_bipush hC (v := 10) k_bipush_10 dX9_rankScope_29 ?_
  refine z_imul hC dX9_rankScope_31 ?_
  refine z_iload_n hC (q := 2) dX9_rankScope_32 rfl rfl ?_
  refine z_isub hC dX9_rankScope_33 ?_
  refine cl_RX9_57 hC (c_X7_put _ G b2 a1 3 (((v6 + 1) * 10) - a1) K N I L R _ h) hk3 dX9_rankScope_34 (by rw [hRm]; exact ⟨Nat.le_of_ble_eq_true rfl, Nat.le_of_ble_eq_true rfl⟩) ⟨Nat.zero_le _, Nat.zero_le _⟩ (Nat.le_of_ble_eq_true rfl) (z_kIv (I := I) (fun I7 h => ?_))
  exact z_vret hC dX9_rankScope_37 ⟨rfl, rfl, rfl, rfl, rfl, h⟩
def w_X9_cutsScope_66  (x0 : Nat) (x1 : Int32) (x2 : Int32) (x3 : Int32) (x4 : Int32) (x5 : Int32) (x6 : Int32)  (K : MK) (N : MK) (I : MI) (L : ML) (R : MR) (C2 : Nat → Int32 → Int32 → Int32 → Prop) (Q : Bool → Prop) : Prop := (x4 < x1 → (¬ x6 = 0 → ∀ v6 : Int32, v6 = x3 + 1 → C2 x0 x1 x2 v6) ∧ (x6 = 0 → Q true)) ∧ (¬ x4 < x1 → (x2 < x5 → (¬ x6 = 0 → ∀ v7 : Int32, v7 = x3 + 1 → C2 x0 x1 x2 v7) ∧ (x6 = 0 → Q true)) ∧ (¬ x2 < x5 → (¬ x6 = 0 → ∀ v8 : Int32, v8 = x3 + 1 → C2 x0 x1 x2 v8) ∧ (x6 = 0 → ∀ v9 : Int32, v9 = x3 + 1 → C2 x0 x1 x2 v9)))
def w_X9_cutsScope_52  (x0 : Nat) (x1 : Int32) (x2 : Int32) (x3 : Int32) (x4 : Int32) (x5 : Int32) (s0 : Int32) (K : MK) (N : MK) (I : MI) (L : ML) (R : MR) (C2 : Nat → Int32 → Int32 → Int32 → Prop) (Q : Bool → Prop) : Prop := (x1 < x4 → w_X9_cutsScope_66 x0 x1 x2 x3 x4 x5 s0 K N I L R C2 Q) ∧ (¬ x1 < x4 → (x2 ≤ x5 → (¬ s0 = 0 → ∀ v10 : Int32, v10 = x3 + 1 → C2 x0 x1 x2 v10) ∧ (s0 = 0 → ∀ v11 : Int32, v11 = x3 + 1 → C2 x0 x1 x2 v11)) ∧ (¬ x2 ≤ x5 → w_X9_cutsScope_66 x0 x1 x2 x3 x4 x5 s0 K N I L R C2 Q))
def w_X9_cutsScope_47  (x0 : Nat) (x1 : Int32) (x2 : Int32) (x3 : Int32) (x4 : Int32) (x5 : Int32)  (K : MK) (N : MK) (I : MI) (L : ML) (R : MR) (C2 : Nat → Int32 → Int32 → Int32 → Prop) (Q : Bool → Prop) : Prop := w_X9_cutsScope_52 x0 x1 x2 x3 x4 x5 1 K N I L R C2 Q
def w_X9_cutsScope_2  (x0 : Nat) (x1 : Int32) (x2 : Int32) (x3 : Int32)  (K : MK) (N : MK) (I : MI) (L : ML) (R : MR)  (Q : Bool → Prop) : Prop := ∃ J : Nat → Nat → Int32 → Int32 → Int32 → Prop, (∃ n, J n x0 x1 x2 x3) ∧ ∀ (n : Nat) (x0 : Nat) (x1 : Int32) (x2 : Int32) (x3 : Int32), J n x0 x1 x2 x3 → K x0 = 10 ∧ ∃ b2 : Nat, R x0 2 = some b2 ∧ K b2 = 8 ∧ ((I b2 3) ≤ x3 → Q false) ∧ (¬ (I b2 3) ≤ x3 → w_X7_at b2 x3 0 K N I L R (fun r4 => w_X7_at b2 x3 1 K N I L R (fun r5 => (x2 ≤ r4 → w_X9_cutsScope_47 x0 x1 x2 x3 r4 r5 K N I L R (fun y0 y1 y2 y3 => ∃ n1, n1 < n ∧ J n1 y0 y1 y2 y3) Q) ∧ (¬ x2 ≤ r4 → (x1 < r5 → w_X9_cutsScope_52 x0 x1 x2 x3 r4 r5 0 K N I L R (fun y0 y1 y2 y3 => ∃ n1, n1 < n ∧ J n1 y0 y1 y2 y3) Q) ∧ (¬ x1 < r5 → w_X9_cutsScope_47 x0 x1 x2 x3 r4 r5 K N I L R (fun y0 y1 y2 y3 => ∃ n1, n1 < n ∧ J n1 y0 y1 y2 y3) Q)))))
def w_X9_cutsScope  (a0 : Nat) (a1 : Int32) (a2 : Int32) (K : MK) (N : MK) (I : MI) (L : ML) (R : MR) (Q : Bool → Prop) : Prop := w_X9_cutsScope_2 a0 a1 a2 0 K N I L R Q
set_option maxHeartbeats 4000000 in
set_option maxRecDepth 100000 in
theorem z_X9_cutsScope_66 {X : ZX} {G : ZG}  {x0 : Nat} {x1 : Int32} {x2 : Int32} {x3 : Int32} {x4 : Int32} {x5 : Int32} {x6 : Int32}  {K : MK} {N : MK} {I : MI} {L : ML} {R : MR} {C2 : Nat → Int32 → Int32 → Int32 → Prop} {Q : Bool → Prop} (hC : ZOk X G RX9 cX9_cutsScope 8 (some .boolean)) (hRm : X.2.2.2.1 = rm_X9_cutsScope) (hC2 : ∀ (y0 : Nat) (y1 : Int32) (y2 : Int32) (y3 : Int32) , C2 y0 y1 y2 y3 → Z X G 8 0 0 (z_T X G (qPz K N I L R Q) 0 0) K N I L R 2 [(0, .ref y0), (1, .int y1), (2, .int y2), (3, .int y3)] []) (h : w_X9_cutsScope_66 x0 x1 x2 x3 x4 x5 x6 K N I L R C2 Q) : Z X G 8 0 0 (z_T X G (qPz K N I L R Q) 0 0) K N I L R 66 [(0, .ref x0), (1, .int x1), (2, .int x2), (3, .int x3), (4, .int x4), (5, .int x5), (6, .int x6)] [] := by
  delta w_X9_cutsScope_66 at h
  refine z_iload_n hC (q := 1) dX9_cutsScope_66 rfl rfl ?_
  refine z_iload hC (q := 4) dX9_cutsScope_67 rfl ?_
  refine z_icmp_gt hC (tgt := 82) dX9_cutsScope_69 (by decide) (fun hc => ?_) (fun hc => ?_)
  · have h := h.1 hc
    refine z_iconst hC (v := 0) k_iconst_0 dX9_cutsScope_82 ?_
    refine z_istore hC (lv1 := [(7, .int 0), (0, .ref x0), (1, .int x1), (2, .int x2), (3, .int x3), (4, .int x4), (5, .int x5), (6, .int x6)]) dX9_cutsScope_83 (by decide) rfl ?_
    refine z_iload hC (q := 7) dX9_cutsScope_85 rfl ?_
    refine z_if_ne hC (tgt := 97) dX9_cutsScope_87 (by decide) (fun hc => ?_) (fun hc => ?_)
    · have h := h.1 hc
      obtain ⟨v6, ev6⟩ : ∃ y : Int32, y = x3 + 1 := ⟨_, rfl⟩
      have h := h v6 ev6
      refine z_iinc hC (q := 4) (v := v6) (lv1 := [(3, .int v6), (7, .int 0), (0, .ref x0), (1, .int x1), (2, .int x2), (4, .int x4), (5, .int x5), (6, .int x6)]) dX9_cutsScope_97 rfl (by rw [ev6, k_iinc_1]) (by decide) rfl ?_
      refine z_goto hC (tgt := 2) dX9_cutsScope_100 (by decide) ?_
      exact z_sub [(0, .ref x0), (1, .int x1), (2, .int x2), (3, .int v6)] [2, 3, 4, 0] rfl (hC2 _ _ _ _ h)
    · have h := h.2 hc
      refine z_iload hC (q := 0) dX9_cutsScope_90 rfl ?_
      refine z_if_ne hC (tgt := 97) dX9_cutsScope_92 (by decide) (fun hc => absurd hc (by decide)) (fun _ => ?_)
      refine z_iconst hC (v := 1) k_iconst_1 dX9_cutsScope_95 ?_
      exact z_zret (b := true) hC dX9_cutsScope_96 rfl ⟨true, rfl, rfl, rfl, rfl, rfl, rfl, h⟩
  · have h := h.2 hc
    refine z_iload hC (q := 5) dX9_cutsScope_72 rfl ?_
    refine z_iload_n hC (q := 2) dX9_cutsScope_74 rfl rfl ?_
    refine z_icmp_gt hC (tgt := 82) dX9_cutsScope_75 (by decide) (fun hc => ?_) (fun hc => ?_)
    · have h := h.1 hc
      refine z_iconst hC (v := 0) k_iconst_0 dX9_cutsScope_82 ?_
      refine z_istore hC (lv1 := [(7, .int 0), (0, .ref x0), (1, .int x1), (2, .int x2), (3, .int x3), (4, .int x4), (5, .int x5), (6, .int x6)]) dX9_cutsScope_83 (by decide) rfl ?_
      refine z_iload hC (q := 7) dX9_cutsScope_85 rfl ?_
      refine z_if_ne hC (tgt := 97) dX9_cutsScope_87 (by decide) (fun hc => ?_) (fun hc => ?_)
      · have h := h.1 hc
        obtain ⟨v7, ev7⟩ : ∃ y : Int32, y = x3 + 1 := ⟨_, rfl⟩
        have h := h v7 ev7
        refine z_iinc hC (q := 4) (v := v7) (lv1 := [(3, .int v7), (7, .int 0), (0, .ref x0), (1, .int x1), (2, .int x2), (4, .int x4), (5, .int x5), (6, .int x6)]) dX9_cutsScope_97 rfl (by rw [ev7, k_iinc_1]) (by decide) rfl ?_
        refine z_goto hC (tgt := 2) dX9_cutsScope_100 (by decide) ?_
        exact z_sub [(0, .ref x0), (1, .int x1), (2, .int x2), (3, .int v7)] [2, 3, 4, 0] rfl (hC2 _ _ _ _ h)
      · have h := h.2 hc
        refine z_iload hC (q := 0) dX9_cutsScope_90 rfl ?_
        refine z_if_ne hC (tgt := 97) dX9_cutsScope_92 (by decide) (fun hc => absurd hc (by decide)) (fun _ => ?_)
        refine z_iconst hC (v := 1) k_iconst_1 dX9_cutsScope_95 ?_
        exact z_zret (b := true) hC dX9_cutsScope_96 rfl ⟨true, rfl, rfl, rfl, rfl, rfl, rfl, h⟩
    · have h := h.2 hc
      refine z_iconst hC (v := 1) k_iconst_1 dX9_cutsScope_78 ?_
      refine z_goto hC (tgt := 83) dX9_cutsScope_79 (by decide) ?_
      refine z_istore hC (lv1 := [(7, .int 1), (0, .ref x0), (1, .int x1), (2, .int x2), (3, .int x3), (4, .int x4), (5, .int x5), (6, .int x6)]) dX9_cutsScope_83 (by decide) rfl ?_
      refine z_iload hC (q := 7) dX9_cutsScope_85 rfl ?_
      refine z_if_ne hC (tgt := 97) dX9_cutsScope_87 (by decide) (fun hc => ?_) (fun hc => ?_)
      · have h := h.1 hc
        obtain ⟨v8, ev8⟩ : ∃ y : Int32, y = x3 + 1 := ⟨_, rfl⟩
        have h := h v8 ev8
        refine z_iinc hC (q := 4) (v := v8) (lv1 := [(3, .int v8), (7, .int 1), (0, .ref x0), (1, .int x1), (2, .int x2), (4, .int x4), (5, .int x5), (6, .int x6)]) dX9_cutsScope_97 rfl (by rw [ev8, k_iinc_1]) (by decide) rfl ?_
        refine z_goto hC (tgt := 2) dX9_cutsScope_100 (by decide) ?_
        exact z_sub [(0, .ref x0), (1, .int x1), (2, .int x2), (3, .int v8)] [2, 3, 4, 0] rfl (hC2 _ _ _ _ h)
      · have h := h.2 hc
        refine z_iload hC (q := 0) dX9_cutsScope_90 rfl ?_
        refine z_if_ne hC (tgt := 97) dX9_cutsScope_92 (by decide) (fun _ => ?_) (fun hc => absurd hc (by decide))
        obtain ⟨v9, ev9⟩ : ∃ y : Int32, y = x3 + 1 := ⟨_, rfl⟩
        have h := h v9 ev9
        refine z_iinc hC (q := 4) (v := v9) (lv1 := [(3, .int v9), (7, .int 1), (0, .ref x0), (1, .int x1), (2, .int x2), (4, .int x4), (5, .int x5), (6, .int x6)]) dX9_cutsScope_97 rfl (by rw [ev9, k_iinc_1]) (by decide) rfl ?_
        refine z_goto hC (tgt := 2) dX9_cutsScope_100 (by decide) ?_
        exact z_sub [(0, .ref x0), (1, .int x1), (2, .int x2), (3, .int v9)] [2, 3, 4, 0] rfl (hC2 _ _ _ _ h)
set_option maxHeartbeats 4000000 in
set_option maxRecDepth 100000 in
theorem z_X9_cutsScope_52 {X : ZX} {G : ZG}  {x0 : Nat} {x1 : Int32} {x2 : Int32} {x3 : Int32} {x4 : Int32} {x5 : Int32} {s0 : Int32} {K : MK} {N : MK} {I : MI} {L : ML} {R : MR} {C2 : Nat → Int32 → Int32 → Int32 → Prop} {Q : Bool → Prop} (hC : ZOk X G RX9 cX9_cutsScope 8 (some .boolean)) (hRm : X.2.2.2.1 = rm_X9_cutsScope) (hC2 : ∀ (y0 : Nat) (y1 : Int32) (y2 : Int32) (y3 : Int32) , C2 y0 y1 y2 y3 → Z X G 8 0 0 (z_T X G (qPz K N I L R Q) 0 0) K N I L R 2 [(0, .ref y0), (1, .int y1), (2, .int y2), (3, .int y3)] []) (h : w_X9_cutsScope_52 x0 x1 x2 x3 x4 x5 s0 K N I L R C2 Q) : Z X G 8 0 0 (z_T X G (qPz K N I L R Q) 0 0) K N I L R 52 [(0, .ref x0), (1, .int x1), (2, .int x2), (3, .int x3), (4, .int x4), (5, .int x5)] [.int s0] := by
  delta w_X9_cutsScope_52 at h
  refine z_istore hC (lv1 := [(6, .int s0), (0, .ref x0), (1, .int x1), (2, .int x2), (3, .int x3), (4, .int x4), (5, .int x5)]) dX9_cutsScope_52 (by decide) rfl ?_
  refine z_iload hC (q := 5) dX9_cutsScope_54 rfl ?_
  refine z_iload_n hC (q := 2) dX9_cutsScope_56 rfl rfl ?_
  refine z_icmp_gt hC (tgt := 66) dX9_cutsScope_57 (by decide) (fun hc => ?_) (fun hc => ?_)
  · have h := h.1 hc
    exact z_sub [(0, .ref x0), (1, .int x1), (2, .int x2), (3, .int x3), (4, .int x4), (5, .int x5), (6, .int s0)] [1, 2, 3, 4, 5, 6, 0] rfl (z_X9_cutsScope_66 hC hRm hC2 h)
  · have h := h.2 hc
    refine z_iload_n hC (q := 3) dX9_cutsScope_60 rfl rfl ?_
    refine z_iload hC (q := 6) dX9_cutsScope_61 rfl ?_
    refine z_icmp_le hC (tgt := 78) dX9_cutsScope_63 (by decide) (fun hc => ?_) (fun hc => ?_)
    · have h := h.1 hc
      refine z_iconst hC (v := 1) k_iconst_1 dX9_cutsScope_78 ?_
      refine z_goto hC (tgt := 83) dX9_cutsScope_79 (by decide) ?_
      refine z_istore hC (lv1 := [(7, .int 1), (6, .int s0), (0, .ref x0), (1, .int x1), (2, .int x2), (3, .int x3), (4, .int x4), (5, .int x5)]) dX9_cutsScope_83 (by decide) rfl ?_
      refine z_iload hC (q := 1) dX9_cutsScope_85 rfl ?_
      refine z_if_ne hC (tgt := 97) dX9_cutsScope_87 (by decide) (fun hc => ?_) (fun hc => ?_)
      · have h := h.1 hc
        obtain ⟨v10, ev10⟩ : ∃ y : Int32, y = x3 + 1 := ⟨_, rfl⟩
        have h := h v10 ev10
        refine z_iinc hC (q := 5) (v := v10) (lv1 := [(3, .int v10), (7, .int 1), (6, .int s0), (0, .ref x0), (1, .int x1), (2, .int x2), (4, .int x4), (5, .int x5)]) dX9_cutsScope_97 rfl (by rw [ev10, k_iinc_1]) (by decide) rfl ?_
        refine z_goto hC (tgt := 2) dX9_cutsScope_100 (by decide) ?_
        exact z_sub [(0, .ref x0), (1, .int x1), (2, .int x2), (3, .int v10)] [3, 4, 5, 0] rfl (hC2 _ _ _ _ h)
      · have h := h.2 hc
        refine z_iload hC (q := 0) dX9_cutsScope_90 rfl ?_
        refine z_if_ne hC (tgt := 97) dX9_cutsScope_92 (by decide) (fun _ => ?_) (fun hc => absurd hc (by decide))
        obtain ⟨v11, ev11⟩ : ∃ y : Int32, y = x3 + 1 := ⟨_, rfl⟩
        have h := h v11 ev11
        refine z_iinc hC (q := 5) (v := v11) (lv1 := [(3, .int v11), (7, .int 1), (6, .int s0), (0, .ref x0), (1, .int x1), (2, .int x2), (4, .int x4), (5, .int x5)]) dX9_cutsScope_97 rfl (by rw [ev11, k_iinc_1]) (by decide) rfl ?_
        refine z_goto hC (tgt := 2) dX9_cutsScope_100 (by decide) ?_
        exact z_sub [(0, .ref x0), (1, .int x1), (2, .int x2), (3, .int v11)] [3, 4, 5, 0] rfl (hC2 _ _ _ _ h)
    · have h := h.2 hc
      exact z_sub [(0, .ref x0), (1, .int x1), (2, .int x2), (3, .int x3), (4, .int x4), (5, .int x5), (6, .int s0)] [1, 2, 3, 4, 5, 6, 0] rfl (z_X9_cutsScope_66 hC hRm hC2 h)
set_option maxHeartbeats 4000000 in
set_option maxRecDepth 100000 in
theorem z_X9_cutsScope_47 {X : ZX} {G : ZG}  {x0 : Nat} {x1 : Int32} {x2 : Int32} {x3 : Int32} {x4 : Int32} {x5 : Int32}  {K : MK} {N : MK} {I : MI} {L : ML} {R : MR} {C2 : Nat → Int32 → Int32 → Int32 → Prop} {Q : Bool → Prop} (hC : ZOk X G RX9 cX9_cutsScope 8 (some .boolean)) (hRm : X.2.2.2.1 = rm_X9_cutsScope) (hC2 : ∀ (y0 : Nat) (y1 : Int32) (y2 : Int32) (y3 : Int32) , C2 y0 y1 y2 y3 → Z X G 8 0 0 (z_T X G (qPz K N I L R Q) 0 0) K N I L R 2 [(0, .ref y0), (1, .int y1), (2, .int y2), (3, .int y3)] []) (h : w_X9_cutsScope_47 x0 x1 x2 x3 x4 x5 K N I L R C2 Q) : Z X G 8 0 0 (z_T X G (qPz K N I L R Q) 0 0) K N I L R 47 [(0, .ref x0), (1, .int x1), (2, .int x2), (3, .int x3), (4, .int x4), (5, .int x5)] [] := by
  delta w_X9_cutsScope_47 at h
  refine z_iconst hC (v := 1) k_iconst_1 dX9_cutsScope_47 ?_
  refine z_goto hC (tgt := 52) dX9_cutsScope_48 (by decide) ?_
  exact z_sub [(0, .ref x0), (1, .int x1), (2, .int x2), (3, .int x3), (4, .int x4), (5, .int x5)] [0, 1, 2, 3, 4, 5] rfl (z_X9_cutsScope_52 hC hRm hC2 h)
set_option maxHeartbeats 4000000 in
set_option maxRecDepth 100000 in
theorem z_X9_cutsScope_2 {X : ZX} {G : ZG}  {x0 : Nat} {x1 : Int32} {x2 : Int32} {x3 : Int32}  {K : MK} {N : MK} {I : MI} {L : ML} {R : MR}  {Q : Bool → Prop} (hC : ZOk X G RX9 cX9_cutsScope 8 (some .boolean)) (hRm : X.2.2.2.1 = rm_X9_cutsScope) (h : w_X9_cutsScope_2 x0 x1 x2 x3 K N I L R  Q) : Z X G 8 0 0 (z_T X G (qPz K N I L R Q) 0 0) K N I L R 2 [(0, .ref x0), (1, .int x1), (2, .int x2), (3, .int x3)] [] := by
  delta w_X9_cutsScope_2 at h
  obtain ⟨J, ⟨n, h0⟩, hs⟩ := h
  have key : ∀ (n : Nat) (x0 : Nat) (x1 : Int32) (x2 : Int32) (x3 : Int32), J n x0 x1 x2 x3 → Z X G 8 0 0 (z_T X G (qPz K N I L R Q) 0 0) K N I L R 2 [(0, .ref x0), (1, .int x1), (2, .int x2), (3, .int x3)] [] := by
    intro n
    induction n using Nat.strongRecOn with
    | _ n ih =>
      intro x0 x1 x2 x3 hJ
      have hC2 : ∀ (y0 : Nat) (y1 : Int32) (y2 : Int32) (y3 : Int32) , (∃ n1, n1 < n ∧ J n1 y0 y1 y2 y3) → Z X G 8 0 0 (z_T X G (qPz K N I L R Q) 0 0) K N I L R 2 [(0, .ref y0), (1, .int y1), (2, .int y2), (3, .int y3)] [] := fun y0 y1 y2 y3 ⟨n1, hn1, hj⟩ => ih n1 hn1 y0 y1 y2 y3 hj
      have h := hs n x0 x1 x2 x3 hJ
      refine z_iload_n hC (q := 3) dX9_cutsScope_2 rfl rfl ?_
      refine z_aload_n hC (q := 0) dX9_cutsScope_3 rfl rfl ?_
      obtain ⟨hk1, h⟩ := h
      obtain ⟨b2, hb2, h⟩ := h
      refine gf_RX9_24 hC dX9_cutsScope_4 hk1 hb2 ?_
      obtain ⟨hk3, h⟩ := h
      refine gf_RX9_50 hC dX9_cutsScope_7 hk3 ?_
      refine z_icmp_ge hC (tgt := 103) dX9_cutsScope_10 (by decide) (fun hc => ?_) (fun hc => ?_)
      · have h := h.1 hc
        refine z_iconst hC (v := 0) k_iconst_0 dX9_cutsScope_103 ?_
        exact z_zret (b := false) hC dX9_cutsScope_104 rfl ⟨false, rfl, rfl, rfl, rfl, rfl, rfl, h⟩
      · have h := h.2 hc
        refine z_aload_n hC (q := 0) dX9_cutsScope_13 rfl rfl ?_
        refine gf_RX9_24 hC dX9_cutsScope_14 hk1 hb2 ?_
        refine z_iload_n hC (q := 3) dX9_cutsScope_17 rfl rfl ?_
        refine z_iconst hC (v := 0) k_iconst_0 dX9_cutsScope_18 ?_
        refine cl_RX9_53 hC (c_X7_at _ G b2 x3 0 K N I L R _ h) hk3 dX9_cutsScope_19 (by rw [hRm]; exact ⟨Nat.le_of_ble_eq_true rfl, Nat.le_of_ble_eq_true rfl⟩) ⟨Nat.zero_le _, Nat.zero_le _⟩ (Nat.le_of_ble_eq_true rfl) (z_kPi (fun r4 h => ?_))
        refine z_istore hC (lv1 := [(4, .int r4), (0, .ref x0), (1, .int x1), (2, .int x2), (3, .int x3)]) dX9_cutsScope_22 (by decide) rfl ?_
        refine z_aload_n hC (q := 1) dX9_cutsScope_24 rfl rfl ?_
        refine gf_RX9_24 hC dX9_cutsScope_25 hk1 hb2 ?_
        refine z_iload_n hC (q := 4) dX9_cutsScope_28 rfl rfl ?_
        refine z_iconst hC (v := 1) k_iconst_1 dX9_cutsScope_29 ?_
        refine cl_RX9_53 hC (c_X7_at _ G b2 x3 1 K N I L R _ h) hk3 dX9_cutsScope_30 (by rw [hRm]; exact ⟨Nat.le_of_ble_eq_true rfl, Nat.le_of_ble_eq_true rfl⟩) ⟨Nat.zero_le _, Nat.zero_le _⟩ (Nat.le_of_ble_eq_true rfl) (z_kPi (fun r5 h => ?_))
        refine z_istore hC (lv1 := [(5, .int r5), (4, .int r4), (0, .ref x0), (1, .int x1), (2, .int x2), (3, .int x3)]) dX9_cutsScope_33 (by decide) rfl ?_
        refine z_iload_n hC (q := 4) dX9_cutsScope_35 rfl rfl ?_
        refine z_iload hC (q := 1) dX9_cutsScope_36 rfl ?_
        refine z_icmp_le hC (tgt := 47) dX9_cutsScope_38 (by decide) (fun hc => ?_) (fun hc => ?_)
        · have h := h.1 hc
          exact z_sub [(0, .ref x0), (1, .int x1), (2, .int x2), (3, .int x3), (4, .int r4), (5, .int r5)] [2, 3, 4, 5, 1, 0] rfl (z_X9_cutsScope_47 hC hRm hC2 h)
        · have h := h.2 hc
          refine z_iload hC (q := 0) dX9_cutsScope_41 rfl ?_
          refine z_iload_n hC (q := 3) dX9_cutsScope_43 rfl rfl ?_
          refine z_icmp_gt hC (tgt := 51) dX9_cutsScope_44 (by decide) (fun hc => ?_) (fun hc => ?_)
          · have h := h.1 hc
            refine z_iconst hC (v := 0) k_iconst_0 dX9_cutsScope_51 ?_
            exact z_sub [(0, .ref x0), (1, .int x1), (2, .int x2), (3, .int x3), (4, .int r4), (5, .int r5)] [2, 3, 4, 5, 1, 0] rfl (z_X9_cutsScope_52 hC hRm hC2 h)
          · have h := h.2 hc
            exact z_sub [(0, .ref x0), (1, .int x1), (2, .int x2), (3, .int x3), (4, .int r4), (5, .int r5)] [2, 3, 4, 5, 1, 0] rfl (z_X9_cutsScope_47 hC hRm hC2 h)
  exact key n x0 x1 x2 x3 h0
set_option maxHeartbeats 4000000 in
set_option maxRecDepth 100000 in
theorem c_X9_cutsScope  (l : Launch) (G : ZG) (a0 : Nat) (a1 : Int32) (a2 : Int32) (K : MK) (N : MK) (I : MI) (L : ML) (R : MR) (Q : Bool → Prop) (h : w_X9_cutsScope a0 a1 a2 K N I L R Q) : Met l yX9_cutsScope (.code yX9_cutsScope cX9_cutsScope 8 (some .boolean) :: z_tbl) rm_X9_cutsScope (z_Pc G [.ref a0, .int a1, .int a2] K N I L R) (z_Qc G (qPz K N I L R Q)) 0 0 (z_A G) := by
  refine z_met (by decide) (Nat.le_of_ble_eq_true rfl) (fun X hX hRm hC0 hnm => ?_)
  subst hX
  have hC : ZOk X G RX9 cX9_cutsScope 8 (some .boolean) := hC0
  show Z X G 8 0 0 _ K N I L R 0 [(0, .ref a0), (1, .int a1), (2, .int a2)] []
  delta w_X9_cutsScope at h
  refine z_iconst hC (v := 0) k_iconst_0 dX9_cutsScope_0 ?_
  refine z_istore_n hC (lv1 := [(3, .int 0), (0, .ref a0), (1, .int a1), (2, .int a2)]) dX9_cutsScope_1 rfl (by decide) rfl ?_
  exact z_sub [(0, .ref a0), (1, .int a1), (2, .int a2), (3, .int 0)] [1, 2, 3, 0] rfl (z_X9_cutsScope_2 hC hRm h)
def w_X9_varsOf_4  (x0 : Nat) (x1 : Int32) (x2 : Int32) (x3 : Int32)  (K : MK) (N : MK) (I : MI) (L : ML) (R : MR)  (Q : Int32 → Prop) : Prop := ∃ J : Nat → Nat → Int32 → Int32 → Int32 → Prop, (∃ n, J n x0 x1 x2 x3) ∧ ∀ (n : Nat) (x0 : Nat) (x1 : Int32) (x2 : Int32) (x3 : Int32), J n x0 x1 x2 x3 → K x0 = 10 ∧ ∃ b2 : Nat, R x0 4 = some b2 ∧ K b2 = 8 ∧ ((I b2 3) ≤ x3 → Q x2) ∧ (¬ (I b2 3) ≤ x3 → w_X7_at b2 x3 0 K N I L R (fun r4 => (¬ r4 = x1 → ∀ v5 : Int32, v5 = x3 + 1 → ∃ n1, n1 < n ∧ J n1 x0 x1 x2 v5) ∧ (r4 = x1 → ∀ v6 : Int32, v6 = (x2 ||| ((1 : Int32) <<< (x3 &&& 31))) → ∀ v7 : Int32, v7 = x3 + 1 → ∃ n1, n1 < n ∧ J n1 x0 x1 v6 v7)))
def w_X9_varsOf  (a0 : Nat) (a1 : Int32) (K : MK) (N : MK) (I : MI) (L : ML) (R : MR) (Q : Int32 → Prop) : Prop := w_X9_varsOf_4 a0 a1 0 0 K N I L R Q
set_option maxHeartbeats 4000000 in
set_option maxRecDepth 100000 in
theorem z_X9_varsOf_4 {X : ZX} {G : ZG}  {x0 : Nat} {x1 : Int32} {x2 : Int32} {x3 : Int32}  {K : MK} {N : MK} {I : MI} {L : ML} {R : MR}  {Q : Int32 → Prop} (hC : ZOk X G RX9 cX9_varsOf 4 (some .int)) (hRm : X.2.2.2.1 = rm_X9_varsOf) (h : w_X9_varsOf_4 x0 x1 x2 x3 K N I L R  Q) : Z X G 4 0 0 (z_T X G (qPi K N I L R Q) 0 0) K N I L R 4 [(0, .ref x0), (1, .int x1), (2, .int x2), (3, .int x3)] [] := by
  delta w_X9_varsOf_4 at h
  obtain ⟨J, ⟨n, h0⟩, hs⟩ := h
  have key : ∀ (n : Nat) (x0 : Nat) (x1 : Int32) (x2 : Int32) (x3 : Int32), J n x0 x1 x2 x3 → Z X G 4 0 0 (z_T X G (qPi K N I L R Q) 0 0) K N I L R 4 [(0, .ref x0), (1, .int x1), (2, .int x2), (3, .int x3)] [] := by
    intro n
    induction n using Nat.strongRecOn with
    | _ n ih =>
      intro x0 x1 x2 x3 hJ
      have hC4 : ∀ (y0 : Nat) (y1 : Int32) (y2 : Int32) (y3 : Int32) , (∃ n1, n1 < n ∧ J n1 y0 y1 y2 y3) → Z X G 4 0 0 (z_T X G (qPi K N I L R Q) 0 0) K N I L R 4 [(0, .ref y0), (1, .int y1), (2, .int y2), (3, .int y3)] [] := fun y0 y1 y2 y3 ⟨n1, hn1, hj⟩ => ih n1 hn1 y0 y1 y2 y3 hj
      have h := hs n x0 x1 x2 x3 hJ
      refine z_iload_n hC (q := 3) dX9_varsOf_4 rfl rfl ?_
      refine z_aload_n hC (q := 0) dX9_varsOf_5 rfl rfl ?_
      obtain ⟨hk1, h⟩ := h
      obtain ⟨b2, hb2, h⟩ := h
      refine gf_RX9_30 hC dX9_varsOf_6 hk1 hb2 ?_
      obtain ⟨hk3, h⟩ := h
      refine gf_RX9_50 hC dX9_varsOf_9 hk3 ?_
      refine z_icmp_ge hC (tgt := 40) dX9_varsOf_12 (by decide) (fun hc => ?_) (fun hc => ?_)
      · have h := h.1 hc
        refine z_iload_n hC (q := 2) dX9_varsOf_40 rfl rfl ?_
        exact z_iret hC dX9_varsOf_41 ⟨_, rfl, rfl, rfl, rfl, rfl, rfl, h⟩
      · have h := h.2 hc
        refine z_aload_n hC (q := 0) dX9_varsOf_15 rfl rfl ?_
        refine gf_RX9_30 hC dX9_varsOf_16 hk1 hb2 ?_
        refine z_iload_n hC (q := 3) dX9_varsOf_19 rfl rfl ?_
        refine z_iconst hC (v := 0) k_iconst_0 dX9_varsOf_20 ?_
        refine cl_RX9_53 hC (c_X7_at _ G b2 x3 0 K N I L R _ h) hk3 dX9_varsOf_21 (by rw [hRm]; exact ⟨Nat.le_of_ble_eq_true rfl, Nat.le_of_ble_eq_true rfl⟩) ⟨Nat.zero_le _, Nat.zero_le _⟩ (Nat.le_of_ble_eq_true rfl) (z_kPi (fun r4 h => ?_))
        refine z_iload_n hC (q := 1) dX9_varsOf_24 rfl rfl ?_
        refine z_icmp_ne hC (tgt := 34) dX9_varsOf_25 (by decide) (fun hc => ?_) (fun hc => ?_)
        · have h := h.1 hc
          obtain ⟨v5, ev5⟩ : ∃ y : Int32, y = x3 + 1 := ⟨_, rfl⟩
          have h := h v5 ev5
          refine z_iinc hC (q := 3) (v := v5) (lv1 := [(3, .int v5), (0, .ref x0), (1, .int x1), (2, .int x2)]) dX9_varsOf_34 rfl (by rw [ev5, k_iinc_1]) (by decide) rfl ?_
          refine z_goto hC (tgt := 4) dX9_varsOf_37 (by decide) ?_
          exact z_sub [(0, .ref x0), (1, .int x1), (2, .int x2), (3, .int v5)] [1, 2, 3, 0] rfl (hC4 _ _ _ _ h)
        · have h := h.2 hc
          refine z_iload_n hC (q := 2) dX9_varsOf_28 rfl rfl ?_
          refine z_iconst hC (v := 1) k_iconst_1 dX9_varsOf_29 ?_
          refine z_iload_n hC (q := 3) dX9_varsOf_30 rfl rfl ?_
          refine z_ishl hC dX9_varsOf_31 ?_
          refine z_ior hC dX9_varsOf_32 ?_
          refine z_topi (fun v6 ev6 => ?_)
          have h := h v6 ev6
          refine z_istore_n hC (lv1 := [(2, .int v6), (0, .ref x0), (1, .int x1), (3, .int x3)]) dX9_varsOf_33 rfl (by decide) rfl ?_
          obtain ⟨v7, ev7⟩ : ∃ y : Int32, y = x3 + 1 := ⟨_, rfl⟩
          have h := h v7 ev7
          refine z_iinc hC (q := 3) (v := v7) (lv1 := [(3, .int v7), (2, .int v6), (0, .ref x0), (1, .int x1)]) dX9_varsOf_34 rfl (by rw [ev7, k_iinc_1]) (by decide) rfl ?_
          refine z_goto hC (tgt := 4) dX9_varsOf_37 (by decide) ?_
          exact z_sub [(0, .ref x0), (1, .int x1), (2, .int v6), (3, .int v7)] [2, 3, 1, 0] rfl (hC4 _ _ _ _ h)
  exact key n x0 x1 x2 x3 h0
set_option maxHeartbeats 4000000 in
set_option maxRecDepth 100000 in
theorem c_X9_varsOf  (l : Launch) (G : ZG) (a0 : Nat) (a1 : Int32) (K : MK) (N : MK) (I : MI) (L : ML) (R : MR) (Q : Int32 → Prop) (h : w_X9_varsOf a0 a1 K N I L R Q) : Met l yX9_varsOf (.code yX9_varsOf cX9_varsOf 4 (some .int) :: z_tbl) rm_X9_varsOf (z_Pc G [.ref a0, .int a1] K N I L R) (z_Qc G (qPi K N I L R Q)) 0 0 (z_A G) := by
  refine z_met (by decide) (Nat.le_of_ble_eq_true rfl) (fun X hX hRm hC0 hnm => ?_)
  subst hX
  have hC : ZOk X G RX9 cX9_varsOf 4 (some .int) := hC0
  show Z X G 4 0 0 _ K N I L R 0 [(0, .ref a0), (1, .int a1)] []
  delta w_X9_varsOf at h
  refine z_iconst hC (v := 0) k_iconst_0 dX9_varsOf_0 ?_
  refine z_istore_n hC (lv1 := [(2, .int 0), (0, .ref a0), (1, .int a1)]) dX9_varsOf_1 rfl (by decide) rfl ?_
  refine z_iconst hC (v := 0) k_iconst_0 dX9_varsOf_2 ?_
  refine z_istore_n hC (lv1 := [(3, .int 0), (2, .int 0), (0, .ref a0), (1, .int a1)]) dX9_varsOf_3 rfl (by decide) rfl ?_
  exact z_sub [(0, .ref a0), (1, .int a1), (2, .int 0), (3, .int 0)] [2, 3, 1, 0] rfl (z_X9_varsOf_4 hC hRm h)
def w_X9_isPlaceTaken_89  (x0 : Nat) (x1 : Int32) (x2 : Int32) (x3 : Int32) (x5 : Int32) (s0 : Int32) (K : MK) (N : MK) (I : MI) (L : ML) (R : MR) (C44 : Nat → Int32 → Int32 → Int32 → Int32 → Prop) (Q : Bool → Prop) : Prop := K x0 = 10 ∧ ∃ b14 : Nat, R x0 5 = some b14 ∧ K b14 = 8 ∧ w_X7_at b14 x5 2 K N I L R (fun r16 => (¬ r16 = x1 → ∀ v17 : Int32, v17 = x5 + 1 → C44 x0 x1 x2 x3 v17) ∧ (r16 = x1 → (¬ s0 = 0 → ∀ v18 : Int32, v18 = x5 + 1 → C44 x0 x1 x2 x3 v18) ∧ (s0 = 0 → Q true)))
def w_X9_isPlaceTaken_84  (x0 : Nat) (x1 : Int32) (x2 : Int32) (x3 : Int32) (x5 : Int32)  (K : MK) (N : MK) (I : MI) (L : ML) (R : MR) (C44 : Nat → Int32 → Int32 → Int32 → Int32 → Prop) (Q : Bool → Prop) : Prop := w_X9_isPlaceTaken_89 x0 x1 x2 x3 x5 1 K N I L R C44 Q
def w_X9_isPlaceTaken_44  (x0 : Nat) (x1 : Int32) (x2 : Int32) (x3 : Int32) (x5 : Int32)  (K : MK) (N : MK) (I : MI) (L : ML) (R : MR)  (Q : Bool → Prop) : Prop := ∃ J : Nat → Nat → Int32 → Int32 → Int32 → Int32 → Prop, (∃ n, J n x0 x1 x2 x3 x5) ∧ ∀ (n : Nat) (x0 : Nat) (x1 : Int32) (x2 : Int32) (x3 : Int32) (x5 : Int32), J n x0 x1 x2 x3 x5 → K x0 = 10 ∧ ∃ b10 : Nat, R x0 5 = some b10 ∧ K b10 = 8 ∧ ((I b10 3) ≤ x5 → Q false) ∧ (¬ (I b10 3) ≤ x5 → w_X7_at b10 x5 0 K N I L R (fun r12 => (x3 ≤ r12 → w_X9_isPlaceTaken_84 x0 x1 x2 x3 x5 K N I L R (fun y0 y1 y2 y3 y4 => ∃ n1, n1 < n ∧ J n1 y0 y1 y2 y3 y4) Q) ∧ (¬ x3 ≤ r12 → w_X7_at b10 x5 1 K N I L R (fun r19 => (x2 < r19 → w_X9_isPlaceTaken_89 x0 x1 x2 x3 x5 0 K N I L R (fun y0 y1 y2 y3 y4 => ∃ n1, n1 < n ∧ J n1 y0 y1 y2 y3 y4) Q) ∧ (¬ x2 < r19 → w_X9_isPlaceTaken_84 x0 x1 x2 x3 x5 K N I L R (fun y0 y1 y2 y3 y4 => ∃ n1, n1 < n ∧ J n1 y0 y1 y2 y3 y4) Q)))))
def w_X9_isPlaceTaken  (a0 : Nat) (a1 : Int32) (a2 : Int32) (a3 : Int32) (K : MK) (N : MK) (I : MI) (L : ML) (R : MR) (Q : Bool → Prop) : Prop := K a0 = 10 ∧ ∃ b2 : Nat, R a0 4 = some b2 ∧ K b2 = 8 ∧ w_X7_at b2 a1 0 K N I L R (fun r4 => ∃ b5 : Nat, R a0 2 = some b5 ∧ K b5 = 8 ∧ w_X7_at b5 r4 0 K N I L R (fun r7 => (a2 < r7 → Q true) ∧ (¬ a2 < r7 → w_X7_at b5 r4 1 K N I L R (fun r8 => (a3 ≤ r8 → w_X9_isPlaceTaken_44 a0 a1 a2 a3 0 K N I L R Q) ∧ (¬ a3 ≤ r8 → Q true)))))
set_option maxHeartbeats 4000000 in
set_option maxRecDepth 100000 in
theorem z_X9_isPlaceTaken_89 {X : ZX} {G : ZG}  {x0 : Nat} {x1 : Int32} {x2 : Int32} {x3 : Int32} {x5 : Int32} {s0 : Int32} {K : MK} {N : MK} {I : MI} {L : ML} {R : MR} {C44 : Nat → Int32 → Int32 → Int32 → Int32 → Prop} {Q : Bool → Prop} (hC : ZOk X G RX9 cX9_isPlaceTaken 7 (some .boolean)) (hRm : X.2.2.2.1 = rm_X9_isPlaceTaken) (hC44 : ∀ (y0 : Nat) (y1 : Int32) (y2 : Int32) (y3 : Int32) (y4 : Int32) , C44 y0 y1 y2 y3 y4 → Z X G 7 0 0 (z_T X G (qPz K N I L R Q) 0 0) K N I L R 44 [(0, .ref y0), (1, .int y1), (2, .int y2), (3, .int y3), (5, .int y4)] []) (h : w_X9_isPlaceTaken_89 x0 x1 x2 x3 x5 s0 K N I L R C44 Q) : Z X G 7 0 0 (z_T X G (qPz K N I L R Q) 0 0) K N I L R 89 [(0, .ref x0), (1, .int x1), (2, .int x2), (3, .int x3), (5, .int x5)] [.int s0] := by
  delta w_X9_isPlaceTaken_89 at h
  refine z_istore hC (lv1 := [(6, .int s0), (0, .ref x0), (1, .int x1), (2, .int x2), (3, .int x3), (5, .int x5)]) dX9_isPlaceTaken_89 (by decide) rfl ?_
  refine z_aload_n hC (q := 1) dX9_isPlaceTaken_91 rfl rfl ?_
  obtain ⟨hk13, h⟩ := h
  obtain ⟨b14, hb14, h⟩ := h
  refine gf_RX9_33 hC dX9_isPlaceTaken_92 hk13 hb14 ?_
  refine z_iload hC (q := 5) dX9_isPlaceTaken_95 rfl ?_
  refine z_iconst hC (v := 2) k_iconst_2 dX9_isPlaceTaken_97 ?_
  obtain ⟨hk15, h⟩ := h
  refine cl_RX9_53 hC (c_X7_at _ G b14 x5 2 K N I L R _ h) hk15 dX9_isPlaceTaken_98 (by rw [hRm]; exact ⟨Nat.le_of_ble_eq_true rfl, Nat.le_of_ble_eq_true rfl⟩) ⟨Nat.zero_le _, Nat.zero_le _⟩ (Nat.le_of_ble_eq_true rfl) (z_kPi (fun r16 h => ?_))
  refine z_iload_n hC (q := 2) dX9_isPlaceTaken_101 rfl rfl ?_
  refine z_icmp_ne hC (tgt := 112) dX9_isPlaceTaken_102 (by decide) (fun hc => ?_) (fun hc => ?_)
  · have h := h.1 hc
    obtain ⟨v17, ev17⟩ : ∃ y : Int32, y = x5 + 1 := ⟨_, rfl⟩
    have h := h v17 ev17
    refine z_iinc hC (q := 5) (v := v17) (lv1 := [(5, .int v17), (6, .int s0), (0, .ref x0), (1, .int x1), (2, .int x2), (3, .int x3)]) dX9_isPlaceTaken_112 rfl (by rw [ev17, k_iinc_1]) (by decide) rfl ?_
    refine z_goto hC (tgt := 44) dX9_isPlaceTaken_115 (by decide) ?_
    exact z_sub [(0, .ref x0), (1, .int x1), (2, .int x2), (3, .int x3), (5, .int v17)] [2, 3, 4, 5, 0] rfl (hC44 _ _ _ _ _ h)
  · have h := h.2 hc
    refine z_iload hC (q := 0) dX9_isPlaceTaken_105 rfl ?_
    refine z_if_ne hC (tgt := 112) dX9_isPlaceTaken_107 (by decide) (fun hc => ?_) (fun hc => ?_)
    · have h := h.1 hc
      obtain ⟨v18, ev18⟩ : ∃ y : Int32, y = x5 + 1 := ⟨_, rfl⟩
      have h := h v18 ev18
      refine z_iinc hC (q := 5) (v := v18) (lv1 := [(5, .int v18), (6, .int s0), (0, .ref x0), (1, .int x1), (2, .int x2), (3, .int x3)]) dX9_isPlaceTaken_112 rfl (by rw [ev18, k_iinc_1]) (by decide) rfl ?_
      refine z_goto hC (tgt := 44) dX9_isPlaceTaken_115 (by decide) ?_
      exact z_sub [(0, .ref x0), (1, .int x1), (2, .int x2), (3, .int x3), (5, .int v18)] [2, 3, 4, 5, 0] rfl (hC44 _ _ _ _ _ h)
    · have h := h.2 hc
      refine z_iconst hC (v := 1) k_iconst_1 dX9_isPlaceTaken_110 ?_
      exact z_zret (b := true) hC dX9_isPlaceTaken_111 rfl ⟨true, rfl, rfl, rfl, rfl, rfl, rfl, h⟩
set_option maxHeartbeats 4000000 in
set_option maxRecDepth 100000 in
theorem z_X9_isPlaceTaken_84 {X : ZX} {G : ZG}  {x0 : Nat} {x1 : Int32} {x2 : Int32} {x3 : Int32} {x5 : Int32}  {K : MK} {N : MK} {I : MI} {L : ML} {R : MR} {C44 : Nat → Int32 → Int32 → Int32 → Int32 → Prop} {Q : Bool → Prop} (hC : ZOk X G RX9 cX9_isPlaceTaken 7 (some .boolean)) (hRm : X.2.2.2.1 = rm_X9_isPlaceTaken) (hC44 : ∀ (y0 : Nat) (y1 : Int32) (y2 : Int32) (y3 : Int32) (y4 : Int32) , C44 y0 y1 y2 y3 y4 → Z X G 7 0 0 (z_T X G (qPz K N I L R Q) 0 0) K N I L R 44 [(0, .ref y0), (1, .int y1), (2, .int y2), (3, .int y3), (5, .int y4)] []) (h : w_X9_isPlaceTaken_84 x0 x1 x2 x3 x5 K N I L R C44 Q) : Z X G 7 0 0 (z_T X G (qPz K N I L R Q) 0 0) K N I L R 84 [(0, .ref x0), (1, .int x1), (2, .int x2), (3, .int x3), (5, .int x5)] [] := by
  delta w_X9_isPlaceTaken_84 at h
  refine z_iconst hC (v := 1) k_iconst_1 dX9_isPlaceTaken_84 ?_
  refine z_goto hC (tgt := 89) dX9_isPlaceTaken_85 (by decide) ?_
  exact z_sub [(0, .ref x0), (1, .int x1), (2, .int x2), (3, .int x3), (5, .int x5)] [0, 1, 2, 3, 4] rfl (z_X9_isPlaceTaken_89 hC hRm hC44 h)
set_option maxHeartbeats 4000000 in
set_option maxRecDepth 100000 in
theorem z_X9_isPlaceTaken_44 {X : ZX} {G : ZG}  {x0 : Nat} {x1 : Int32} {x2 : Int32} {x3 : Int32} {x5 : Int32}  {K : MK} {N : MK} {I : MI} {L : ML} {R : MR}  {Q : Bool → Prop} (hC : ZOk X G RX9 cX9_isPlaceTaken 7 (some .boolean)) (hRm : X.2.2.2.1 = rm_X9_isPlaceTaken) (h : w_X9_isPlaceTaken_44 x0 x1 x2 x3 x5 K N I L R  Q) : Z X G 7 0 0 (z_T X G (qPz K N I L R Q) 0 0) K N I L R 44 [(0, .ref x0), (1, .int x1), (2, .int x2), (3, .int x3), (5, .int x5)] [] := by
  delta w_X9_isPlaceTaken_44 at h
  obtain ⟨J, ⟨n, h0⟩, hs⟩ := h
  have key : ∀ (n : Nat) (x0 : Nat) (x1 : Int32) (x2 : Int32) (x3 : Int32) (x5 : Int32), J n x0 x1 x2 x3 x5 → Z X G 7 0 0 (z_T X G (qPz K N I L R Q) 0 0) K N I L R 44 [(0, .ref x0), (1, .int x1), (2, .int x2), (3, .int x3), (5, .int x5)] [] := by
    intro n
    induction n using Nat.strongRecOn with
    | _ n ih =>
      intro x0 x1 x2 x3 x5 hJ
      have hC44 : ∀ (y0 : Nat) (y1 : Int32) (y2 : Int32) (y3 : Int32) (y4 : Int32) , (∃ n1, n1 < n ∧ J n1 y0 y1 y2 y3 y4) → Z X G 7 0 0 (z_T X G (qPz K N I L R Q) 0 0) K N I L R 44 [(0, .ref y0), (1, .int y1), (2, .int y2), (3, .int y3), (5, .int y4)] [] := fun y0 y1 y2 y3 y4 ⟨n1, hn1, hj⟩ => ih n1 hn1 y0 y1 y2 y3 y4 hj
      have h := hs n x0 x1 x2 x3 x5 hJ
      refine z_iload hC (q := 4) dX9_isPlaceTaken_44 rfl ?_
      refine z_aload_n hC (q := 0) dX9_isPlaceTaken_46 rfl rfl ?_
      obtain ⟨hk9, h⟩ := h
      obtain ⟨b10, hb10, h⟩ := h
      refine gf_RX9_33 hC dX9_isPlaceTaken_47 hk9 hb10 ?_
      obtain ⟨hk11, h⟩ := h
      refine gf_RX9_50 hC dX9_isPlaceTaken_50 hk11 ?_
      refine z_icmp_ge hC (tgt := 118) dX9_isPlaceTaken_53 (by decide) (fun hc => ?_) (fun hc => ?_)
      · have h := h.1 hc
        refine z_iconst hC (v := 0) k_iconst_0 dX9_isPlaceTaken_118 ?_
        exact z_zret (b := false) hC dX9_isPlaceTaken_119 rfl ⟨false, rfl, rfl, rfl, rfl, rfl, rfl, h⟩
      · have h := h.2 hc
        refine z_iload_n hC (q := 3) dX9_isPlaceTaken_56 rfl rfl ?_
        refine z_aload_n hC (q := 0) dX9_isPlaceTaken_57 rfl rfl ?_
        refine gf_RX9_33 hC dX9_isPlaceTaken_58 hk9 hb10 ?_
        refine z_iload hC (q := 4) dX9_isPlaceTaken_61 rfl ?_
        refine z_iconst hC (v := 0) k_iconst_0 dX9_isPlaceTaken_63 ?_
        refine cl_RX9_53 hC (c_X7_at _ G b10 x5 0 K N I L R _ h) hk11 dX9_isPlaceTaken_64 (by rw [hRm]; exact ⟨Nat.le_of_ble_eq_true rfl, Nat.le_of_ble_eq_true rfl⟩) ⟨Nat.zero_le _, Nat.zero_le _⟩ (Nat.le_of_ble_eq_true rfl) (z_kPi (fun r12 h => ?_))
        refine z_icmp_le hC (tgt := 84) dX9_isPlaceTaken_67 (by decide) (fun hc => ?_) (fun hc => ?_)
        · have h := h.1 hc
          exact z_sub [(0, .ref x0), (1, .int x1), (2, .int x2), (3, .int x3), (5, .int x5)] [0, 1, 2, 3, 4] rfl (z_X9_isPlaceTaken_84 hC hRm hC44 h)
        · have h := h.2 hc
          refine z_aload_n hC (q := 0) dX9_isPlaceTaken_70 rfl rfl ?_
          refine gf_RX9_33 hC dX9_isPlaceTaken_71 hk9 hb10 ?_
          refine z_iload hC (q := 4) dX9_isPlaceTaken_74 rfl ?_
          refine z_iconst hC (v := 1) k_iconst_1 dX9_isPlaceTaken_76 ?_
          refine cl_RX9_53 hC (c_X7_at _ G b10 x5 1 K N I L R _ h) hk11 dX9_isPlaceTaken_77 (by rw [hRm]; exact ⟨Nat.le_of_ble_eq_true rfl, Nat.le_of_ble_eq_true rfl⟩) ⟨Nat.zero_le _, Nat.zero_le _⟩ (Nat.le_of_ble_eq_true rfl) (z_kPi (fun r19 h => ?_))
          refine z_iload_n hC (q := 2) dX9_isPlaceTaken_80 rfl rfl ?_
          refine z_icmp_gt hC (tgt := 88) dX9_isPlaceTaken_81 (by decide) (fun hc => ?_) (fun hc => ?_)
          · have h := h.1 hc
            refine z_iconst hC (v := 0) k_iconst_0 dX9_isPlaceTaken_88 ?_
            exact z_sub [(0, .ref x0), (1, .int x1), (2, .int x2), (3, .int x3), (5, .int x5)] [0, 1, 2, 3, 4] rfl (z_X9_isPlaceTaken_89 hC hRm hC44 h)
          · have h := h.2 hc
            exact z_sub [(0, .ref x0), (1, .int x1), (2, .int x2), (3, .int x3), (5, .int x5)] [0, 1, 2, 3, 4] rfl (z_X9_isPlaceTaken_84 hC hRm hC44 h)
  exact key n x0 x1 x2 x3 x5 h0
set_option maxHeartbeats 4000000 in
set_option maxRecDepth 100000 in
theorem c_X9_isPlaceTaken  (l : Launch) (G : ZG) (a0 : Nat) (a1 : Int32) (a2 : Int32) (a3 : Int32) (K : MK) (N : MK) (I : MI) (L : ML) (R : MR) (Q : Bool → Prop) (h : w_X9_isPlaceTaken a0 a1 a2 a3 K N I L R Q) : Met l yX9_isPlaceTaken (.code yX9_isPlaceTaken cX9_isPlaceTaken 7 (some .boolean) :: z_tbl) rm_X9_isPlaceTaken (z_Pc G [.ref a0, .int a1, .int a2, .int a3] K N I L R) (z_Qc G (qPz K N I L R Q)) 0 0 (z_A G) := by
  refine z_met (by decide) (Nat.le_of_ble_eq_true rfl) (fun X hX hRm hC0 hnm => ?_)
  subst hX
  have hC : ZOk X G RX9 cX9_isPlaceTaken 7 (some .boolean) := hC0
  show Z X G 7 0 0 _ K N I L R 0 [(0, .ref a0), (1, .int a1), (2, .int a2), (3, .int a3)] []
  delta w_X9_isPlaceTaken at h
  refine z_aload_n hC (q := 0) dX9_isPlaceTaken_0 rfl rfl ?_
  obtain ⟨hk1, h⟩ := h
  obtain ⟨b2, hb2, h⟩ := h
  refine gf_RX9_30 hC dX9_isPlaceTaken_1 hk1 hb2 ?_
  refine z_iload_n hC (q := 1) dX9_isPlaceTaken_4 rfl rfl ?_
  refine z_iconst hC (v := 0) k_iconst_0 dX9_isPlaceTaken_5 ?_
  obtain ⟨hk3, h⟩ := h
  refine cl_RX9_53 hC (c_X7_at _ G b2 a1 0 K N I L R _ h) hk3 dX9_isPlaceTaken_6 (by rw [hRm]; exact ⟨Nat.le_of_ble_eq_true rfl, Nat.le_of_ble_eq_true rfl⟩) ⟨Nat.zero_le _, Nat.zero_le _⟩ (Nat.le_of_ble_eq_true rfl) (z_kPi (fun r4 h => ?_))
  refine z_istore hC (lv1 := [(4, .int r4), (0, .ref a0), (1, .int a1), (2, .int a2), (3, .int a3)]) dX9_isPlaceTaken_9 (by decide) rfl ?_
  refine z_iload_n hC (q := 3) dX9_isPlaceTaken_11 rfl rfl ?_
  refine z_aload_n hC (q := 1) dX9_isPlaceTaken_12 rfl rfl ?_
  obtain ⟨b5, hb5, h⟩ := h
  refine gf_RX9_24 hC dX9_isPlaceTaken_13 hk1 hb5 ?_
  refine z_iload hC (q := 0) dX9_isPlaceTaken_16 rfl ?_
  refine z_iconst hC (v := 0) k_iconst_0 dX9_isPlaceTaken_18 ?_
  obtain ⟨hk6, h⟩ := h
  refine cl_RX9_53 hC (c_X7_at _ G b5 r4 0 K N I L R _ h) hk6 dX9_isPlaceTaken_19 (by rw [hRm]; exact ⟨Nat.le_of_ble_eq_true rfl, Nat.le_of_ble_eq_true rfl⟩) ⟨Nat.zero_le _, Nat.zero_le _⟩ (Nat.le_of_ble_eq_true rfl) (z_kPi (fun r7 h => ?_))
  refine z_icmp_lt hC (tgt := 39) dX9_isPlaceTaken_22 (by decide) (fun hc => ?_) (fun hc => ?_)
  · have h := h.1 hc
    refine z_iconst hC (v := 1) k_iconst_1 dX9_isPlaceTaken_39 ?_
    exact z_zret (b := true) hC dX9_isPlaceTaken_40 rfl ⟨true, rfl, rfl, rfl, rfl, rfl, rfl, h⟩
  · have h := h.2 hc
    refine z_iload_n hC (q := 4) dX9_isPlaceTaken_25 rfl rfl ?_
    refine z_aload_n hC (q := 1) dX9_isPlaceTaken_26 rfl rfl ?_
    refine gf_RX9_24 hC dX9_isPlaceTaken_27 hk1 hb5 ?_
    refine z_iload hC (q := 0) dX9_isPlaceTaken_30 rfl ?_
    refine z_iconst hC (v := 1) k_iconst_1 dX9_isPlaceTaken_32 ?_
    refine cl_RX9_53 hC (c_X7_at _ G b5 r4 1 K N I L R _ h) hk6 dX9_isPlaceTaken_33 (by rw [hRm]; exact ⟨Nat.le_of_ble_eq_true rfl, Nat.le_of_ble_eq_true rfl⟩) ⟨Nat.zero_le _, Nat.zero_le _⟩ (Nat.le_of_ble_eq_true rfl) (z_kPi (fun r8 h => ?_))
    refine z_icmp_le hC (tgt := 41) dX9_isPlaceTaken_36 (by decide) (fun hc => ?_) (fun hc => ?_)
    · have h := h.1 hc
      refine z_iconst hC (v := 0) k_iconst_0 dX9_isPlaceTaken_41 ?_
      refine z_istore hC (lv1 := [(5, .int 0), (4, .int r4), (0, .ref a0), (1, .int a1), (2, .int a2), (3, .int a3)]) dX9_isPlaceTaken_42 (by decide) rfl ?_
      exact z_sub [(0, .ref a0), (1, .int a1), (2, .int a2), (3, .int a3), (5, .int 0)] [2, 3, 4, 5, 0] rfl (z_X9_isPlaceTaken_44 hC hRm h)
    · have h := h.2 hc
      refine z_iconst hC (v := 1) k_iconst_1 dX9_isPlaceTaken_39 ?_
      exact z_zret (b := true) hC dX9_isPlaceTaken_40 rfl ⟨true, rfl, rfl, rfl, rfl, rfl, rfl, h⟩
def w_X9_covered_4  (x0 : Nat) (x1 : Int32) (x2 : Int32) (x3 : Int32)  (K : MK) (N : MK) (I : MI) (L : ML) (R : MR)  (Q : Int32 → Prop) : Prop := ∃ J : Nat → Nat → Int32 → Int32 → Int32 → Prop, (∃ n, J n x0 x1 x2 x3) ∧ ∀ (n : Nat) (x0 : Nat) (x1 : Int32) (x2 : Int32) (x3 : Int32), J n x0 x1 x2 x3 → K x0 = 10 ∧ ∃ b2 : Nat, R x0 5 = some b2 ∧ K b2 = 8 ∧ ((I b2 3) ≤ x3 → Q x2) ∧ (¬ (I b2 3) ≤ x3 → w_X7_at b2 x3 2 K N I L R (fun r4 => (¬ r4 = x1 → ∀ v5 : Int32, v5 = x3 + 1 → ∃ n1, n1 < n ∧ J n1 x0 x1 x2 v5) ∧ (r4 = x1 → w_X7_at b2 x3 1 K N I L R (fun r6 => w_X7_at b2 x3 0 K N I L R (fun r7 => ∀ v8 : Int32, v8 = (x2 + (r6 - r7)) → ∀ v9 : Int32, v9 = x3 + 1 → ∃ n1, n1 < n ∧ J n1 x0 x1 v8 v9)))))
def w_X9_covered  (a0 : Nat) (a1 : Int32) (K : MK) (N : MK) (I : MI) (L : ML) (R : MR) (Q : Int32 → Prop) : Prop := w_X9_covered_4 a0 a1 0 0 K N I L R Q
set_option maxHeartbeats 4000000 in
set_option maxRecDepth 100000 in
theorem z_X9_covered_4 {X : ZX} {G : ZG}  {x0 : Nat} {x1 : Int32} {x2 : Int32} {x3 : Int32}  {K : MK} {N : MK} {I : MI} {L : ML} {R : MR}  {Q : Int32 → Prop} (hC : ZOk X G RX9 cX9_covered 4 (some .int)) (hRm : X.2.2.2.1 = rm_X9_covered) (h : w_X9_covered_4 x0 x1 x2 x3 K N I L R  Q) : Z X G 4 0 0 (z_T X G (qPi K N I L R Q) 0 0) K N I L R 4 [(0, .ref x0), (1, .int x1), (2, .int x2), (3, .int x3)] [] := by
  delta w_X9_covered_4 at h
  obtain ⟨J, ⟨n, h0⟩, hs⟩ := h
  have key : ∀ (n : Nat) (x0 : Nat) (x1 : Int32) (x2 : Int32) (x3 : Int32), J n x0 x1 x2 x3 → Z X G 4 0 0 (z_T X G (qPi K N I L R Q) 0 0) K N I L R 4 [(0, .ref x0), (1, .int x1), (2, .int x2), (3, .int x3)] [] := by
    intro n
    induction n using Nat.strongRecOn with
    | _ n ih =>
      intro x0 x1 x2 x3 hJ
      have hC4 : ∀ (y0 : Nat) (y1 : Int32) (y2 : Int32) (y3 : Int32) , (∃ n1, n1 < n ∧ J n1 y0 y1 y2 y3) → Z X G 4 0 0 (z_T X G (qPi K N I L R Q) 0 0) K N I L R 4 [(0, .ref y0), (1, .int y1), (2, .int y2), (3, .int y3)] [] := fun y0 y1 y2 y3 ⟨n1, hn1, hj⟩ => ih n1 hn1 y0 y1 y2 y3 hj
      have h := hs n x0 x1 x2 x3 hJ
      refine z_iload_n hC (q := 3) dX9_covered_4 rfl rfl ?_
      refine z_aload_n hC (q := 0) dX9_covered_5 rfl rfl ?_
      obtain ⟨hk1, h⟩ := h
      obtain ⟨b2, hb2, h⟩ := h
      refine gf_RX9_33 hC dX9_covered_6 hk1 hb2 ?_
      obtain ⟨hk3, h⟩ := h
      refine gf_RX9_50 hC dX9_covered_9 hk3 ?_
      refine z_icmp_ge hC (tgt := 56) dX9_covered_12 (by decide) (fun hc => ?_) (fun hc => ?_)
      · have h := h.1 hc
        refine z_iload_n hC (q := 2) dX9_covered_56 rfl rfl ?_
        exact z_iret hC dX9_covered_57 ⟨_, rfl, rfl, rfl, rfl, rfl, rfl, h⟩
      · have h := h.2 hc
        refine z_aload_n hC (q := 0) dX9_covered_15 rfl rfl ?_
        refine gf_RX9_33 hC dX9_covered_16 hk1 hb2 ?_
        refine z_iload_n hC (q := 3) dX9_covered_19 rfl rfl ?_
        refine z_iconst hC (v := 2) k_iconst_2 dX9_covered_20 ?_
        refine cl_RX9_53 hC (c_X7_at _ G b2 x3 2 K N I L R _ h) hk3 dX9_covered_21 (by rw [hRm]; exact ⟨Nat.le_of_ble_eq_true rfl, Nat.le_of_ble_eq_true rfl⟩) ⟨Nat.zero_le _, Nat.zero_le _⟩ (Nat.le_of_ble_eq_true rfl) (z_kPi (fun r4 h => ?_))
        refine z_iload_n hC (q := 1) dX9_covered_24 rfl rfl ?_
        refine z_icmp_ne hC (tgt := 50) dX9_covered_25 (by decide) (fun hc => ?_) (fun hc => ?_)
        · have h := h.1 hc
          obtain ⟨v5, ev5⟩ : ∃ y : Int32, y = x3 + 1 := ⟨_, rfl⟩
          have h := h v5 ev5
          refine z_iinc hC (q := 3) (v := v5) (lv1 := [(3, .int v5), (0, .ref x0), (1, .int x1), (2, .int x2)]) dX9_covered_50 rfl (by rw [ev5, k_iinc_1]) (by decide) rfl ?_
          refine z_goto hC (tgt := 4) dX9_covered_53 (by decide) ?_
          exact z_sub [(0, .ref x0), (1, .int x1), (2, .int x2), (3, .int v5)] [1, 2, 3, 0] rfl (hC4 _ _ _ _ h)
        · have h := h.2 hc
          refine z_iload_n hC (q := 2) dX9_covered_28 rfl rfl ?_
          refine z_aload_n hC (q := 0) dX9_covered_29 rfl rfl ?_
          refine gf_RX9_33 hC dX9_covered_30 hk1 hb2 ?_
          refine z_iload_n hC (q := 3) dX9_covered_33 rfl rfl ?_
          refine z_iconst hC (v := 1) k_iconst_1 dX9_covered_34 ?_
          refine cl_RX9_53 hC (c_X7_at _ G b2 x3 1 K N I L R _ h) hk3 dX9_covered_35 (by rw [hRm]; exact ⟨Nat.le_of_ble_eq_true rfl, Nat.le_of_ble_eq_true rfl⟩) ⟨Nat.zero_le _, Nat.zero_le _⟩ (Nat.le_of_ble_eq_true rfl) (z_kPi (fun r6 h => ?_))
          refine z_aload_n hC (q := 0) dX9_covered_38 rfl rfl ?_
          refine gf_RX9_33 hC dX9_covered_39 hk1 hb2 ?_
          refine z_iload_n hC (q := 3) dX9_covered_42 rfl rfl ?_
          refine z_iconst hC (v := 0) k_iconst_0 dX9_covered_43 ?_
          refine cl_RX9_53 hC (c_X7_at _ G b2 x3 0 K N I L R _ h) hk3 dX9_covered_44 (by rw [hRm]; exact ⟨Nat.le_of_ble_eq_true rfl, Nat.le_of_ble_eq_true rfl⟩) ⟨Nat.zero_le _, Nat.zero_le _⟩ (Nat.le_of_ble_eq_true rfl) (z_kPi (fun r7 h => ?_))
          refine z_isub hC dX9_covered_47 ?_
          refine z_iadd hC dX9_covered_48 ?_
          refine z_topi (fun v8 ev8 => ?_)
          have h := h v8 ev8
          refine z_istore_n hC (lv1 := [(2, .int v8), (0, .ref x0), (1, .int x1), (3, .int x3)]) dX9_covered_49 rfl (by decide) rfl ?_
          obtain ⟨v9, ev9⟩ : ∃ y : Int32, y = x3 + 1 := ⟨_, rfl⟩
          have h := h v9 ev9
          refine z_iinc hC (q := 3) (v := v9) (lv1 := [(3, .int v9), (2, .int v8), (0, .ref x0), (1, .int x1)]) dX9_covered_50 rfl (by rw [ev9, k_iinc_1]) (by decide) rfl ?_
          refine z_goto hC (tgt := 4) dX9_covered_53 (by decide) ?_
          exact z_sub [(0, .ref x0), (1, .int x1), (2, .int v8), (3, .int v9)] [2, 3, 1, 0] rfl (hC4 _ _ _ _ h)
  exact key n x0 x1 x2 x3 h0
set_option maxHeartbeats 4000000 in
set_option maxRecDepth 100000 in
theorem c_X9_covered  (l : Launch) (G : ZG) (a0 : Nat) (a1 : Int32) (K : MK) (N : MK) (I : MI) (L : ML) (R : MR) (Q : Int32 → Prop) (h : w_X9_covered a0 a1 K N I L R Q) : Met l yX9_covered (.code yX9_covered cX9_covered 4 (some .int) :: z_tbl) rm_X9_covered (z_Pc G [.ref a0, .int a1] K N I L R) (z_Qc G (qPi K N I L R Q)) 0 0 (z_A G) := by
  refine z_met (by decide) (Nat.le_of_ble_eq_true rfl) (fun X hX hRm hC0 hnm => ?_)
  subst hX
  have hC : ZOk X G RX9 cX9_covered 4 (some .int) := hC0
  show Z X G 4 0 0 _ K N I L R 0 [(0, .ref a0), (1, .int a1)] []
  delta w_X9_covered at h
  refine z_iconst hC (v := 0) k_iconst_0 dX9_covered_0 ?_
  refine z_istore_n hC (lv1 := [(2, .int 0), (0, .ref a0), (1, .int a1)]) dX9_covered_1 rfl (by decide) rfl ?_
  refine z_iconst hC (v := 0) k_iconst_0 dX9_covered_2 ?_
  refine z_istore_n hC (lv1 := [(3, .int 0), (2, .int 0), (0, .ref a0), (1, .int a1)]) dX9_covered_3 rfl (by decide) rfl ?_
  exact z_sub [(0, .ref a0), (1, .int a1), (2, .int 0), (3, .int 0)] [2, 3, 1, 0] rfl (z_X9_covered_4 hC hRm h)
def w_X10_addOp  (a0 : Nat) (a1 : Int32) (a2 : Int32) (a3 : Int32) (K : MK) (N : MK) (I : MI) (L : ML) (R : MR) (Q : MI → Prop) : Prop := K a0 = 11 ∧ ∃ b2 : Nat, R a0 0 = some b2 ∧ K b2 = 10 ∧ ∃ b4 : Nat, R b2 5 = some b4 ∧ K b4 = 8 ∧ w_X7_at b4 a1 4 K N I L R (fun r6 => w_X7_put b4 a1 ((5 : Int32) + ((2 : Int32) * r6)) a2 K N I L R (fun I7 => w_X7_put b4 a1 (((5 : Int32) + ((2 : Int32) * r6)) + 1) a3 K N I7 L R (fun I8 => w_X7_put b4 a1 4 (r6 + 1) K N I8 L R (fun I9 => Q I9))))
set_option maxHeartbeats 4000000 in
set_option maxRecDepth 100000 in
theorem c_X10_addOp  (l : Launch) (G : ZG) (a0 : Nat) (a1 : Int32) (a2 : Int32) (a3 : Int32) (K : MK) (N : MK) (I : MI) (L : ML) (R : MR) (Q : MI → Prop) (h : w_X10_addOp a0 a1 a2 a3 K N I L R Q) : Met l yX10_addOp (.code yX10_addOp cX10_addOp 5 none :: z_tbl) rm_X10_addOp (z_Pc G [.ref a0, .int a1, .int a2, .int a3] K N I L R) (z_Qc G (qIv K N L R Q)) 0 0 (z_A G) := by
  refine z_met (by decide) (Nat.le_of_ble_eq_true rfl) (fun X hX hRm hC0 hnm => ?_)
  subst hX
  have hC : ZOk X G RX10 cX10_addOp 5 none := hC0
  show Z X G 5 0 0 _ K N I L R 0 [(0, .ref a0), (1, .int a1), (2, .int a2), (3, .int a3)] []
  delta w_X10_addOp at h
  refine z_aload_n hC (q := 0) dX10_addOp_0 rfl rfl ?_
  obtain ⟨hk1, h⟩ := h
  obtain ⟨b2, hb2, h⟩ := h
  refine gf_RX10_12 hC dX10_addOp_1 hk1 hb2 ?_
  obtain ⟨hk3, h⟩ := h
  obtain ⟨b4, hb4, h⟩ := h
  refine gf_RX10_158 hC dX10_addOp_4 hk3 hb4 ?_
  refine z_iload_n hC (q := 1) dX10_addOp_7 rfl rfl ?_
  refine z_iconst hC (v := 4) k_iconst_4 dX10_addOp_8 ?_
  obtain ⟨hk5, h⟩ := h
  refine cl_RX10_99 hC (c_X7_at _ G b4 a1 4 K N I L R _ h) hk5 dX10_addOp_9 (by rw [hRm]; exact ⟨Nat.le_of_ble_eq_true rfl, Nat.le_of_ble_eq_true rfl⟩) ⟨Nat.zero_le _, Nat.zero_le _⟩ (Nat.le_of_ble_eq_true rfl) (z_kPi (fun r6 h => ?_))
  refine z_istore hC (lv1 := [(4, .int r6), (0, .ref a0), (1, .int a1), (2, .int a2), (3, .int a3)]) dX10_addOp_12 (by decide) rfl ?_
  refine z_aload_n hC (q := 1) dX10_addOp_14 rfl rfl ?_
  refine gf_RX10_12 hC dX10_addOp_15 hk1 hb2 ?_
  refine gf_RX10_158 hC dX10_addOp_18 hk3 hb4 ?_
  refine z_iload_n hC (q := 2) dX10_addOp_21 rfl rfl ?_
  refine z_iconst hC (v := 5) k_iconst_5 dX10_addOp_22 ?_
  refine z_iconst hC (v := 2) k_iconst_2 dX10_addOp_23 ?_
  refine z_iload hC (q := 0) dX10_addOp_24 rfl ?_
  refine z_imul hC dX10_addOp_26 ?_
  refine z_iadd hC dX10_addOp_27 ?_
  refine z_iload_n hC (q := 3) dX10_addOp_28 rfl rfl ?_
  refine cl_RX10_125 hC (c_X7_put _ G b4 a1 ((5 : Int32) + ((2 : Int32) * r6)) a2 K N I L R _ h) hk5 dX10_addOp_29 (by rw [hRm]; exact ⟨Nat.le_of_ble_eq_true rfl, Nat.le_of_ble_eq_true rfl⟩) ⟨Nat.zero_le _, Nat.zero_le _⟩ (Nat.le_of_ble_eq_true rfl) (z_kIv (I := I) (fun I7 h => ?_))
  refine z_aload_n hC (q := 1) dX10_addOp_32 rfl rfl ?_
  refine gf_RX10_12 hC dX10_addOp_33 hk1 hb2 ?_
  refine gf_RX10_158 hC dX10_addOp_36 hk3 hb4 ?_
  refine z_iload_n hC (q := 2) dX10_addOp_39 rfl rfl ?_
  refine z_iconst hC (v := 5) k_iconst_5 dX10_addOp_40 ?_
  refine z_iconst hC (v := 2) k_iconst_2 dX10_addOp_41 ?_
  refine z_iload hC (q := 0) dX10_addOp_42 rfl ?_
  refine z_imul hC dX10_addOp_44 ?_
  refine z_iadd hC dX10_addOp_45 ?_
  refine z_iconst hC (v := 1) k_iconst_1 dX10_addOp_46 ?_
  refine z_iadd hC dX10_addOp_47 ?_
  refine z_iload_n hC (q := 4) dX10_addOp_48 rfl rfl ?_
  refine cl_RX10_125 hC (c_X7_put _ G b4 a1 (((5 : Int32) + ((2 : Int32) * r6)) + 1) a3 K N I7 L R _ h) hk5 dX10_addOp_49 (by rw [hRm]; exact ⟨Nat.le_of_ble_eq_true rfl, Nat.le_of_ble_eq_true rfl⟩) ⟨Nat.zero_le _, Nat.zero_le _⟩ (Nat.le_of_ble_eq_true rfl) (z_kIv (I := I7) (fun I8 h => ?_))
  refine z_aload_n hC (q := 1) dX10_addOp_52 rfl rfl ?_
  refine gf_RX10_12 hC dX10_addOp_53 hk1 hb2 ?_
  refine gf_RX10_158 hC dX10_addOp_56 hk3 hb4 ?_
  refine z_iload_n hC (q := 2) dX10_addOp_59 rfl rfl ?_
  refine z_iconst hC (v := 4) k_iconst_4 dX10_addOp_60 ?_
  refine z_iload hC (q := 0) dX10_addOp_61 rfl ?_
  refine z_iconst hC (v := 1) k_iconst_1 dX10_addOp_63 ?_
  refine z_iadd hC dX10_addOp_64 ?_
  refine cl_RX10_125 hC (c_X7_put _ G b4 a1 4 (r6 + 1) K N I8 L R _ h) hk5 dX10_addOp_65 (by rw [hRm]; exact ⟨Nat.le_of_ble_eq_true rfl, Nat.le_of_ble_eq_true rfl⟩) ⟨Nat.zero_le _, Nat.zero_le _⟩ (Nat.le_of_ble_eq_true rfl) (z_kIv (I := I8) (fun I9 h => ?_))
  exact z_vret hC dX10_addOp_68 ⟨rfl, rfl, rfl, rfl, rfl, h⟩
def w_X10_growthOf  (a0 : Int32) (K : MK) (N : MK) (I : MI) (L : ML) (R : MR) (Q : Int32 → Prop) : Prop := (a0 = 10 → Q 1) ∧ (¬ a0 = 10 → (a0 = 14 → Q 0) ∧ (¬ a0 = 14 → (a0 = 15 → Q 1) ∧ (¬ a0 = 15 → (a0 = 16 → Q 0) ∧ (¬ a0 = 16 → (a0 = 100 → Q 1) ∧ (¬ a0 = 100 → Q (-1))))))
set_option maxHeartbeats 4000000 in
set_option maxRecDepth 100000 in
theorem c_X10_growthOf  (l : Launch) (G : ZG) (a0 : Int32) (K : MK) (N : MK) (I : MI) (L : ML) (R : MR) (Q : Int32 → Prop) (h : w_X10_growthOf a0 K N I L R Q) : Met l yX10_growthOf (.code yX10_growthOf cX10_growthOf 1 (some .int) :: z_tbl) rm_X10_growthOf (z_Pc G [.int a0] K N I L R) (z_Qc G (qPi K N I L R Q)) 0 0 (z_A G) := by
  refine z_met (by decide) (Nat.le_of_ble_eq_true rfl) (fun X hX hRm hC0 hnm => ?_)
  subst hX
  have hC : ZOk X G RX10 cX10_growthOf 1 (some .int) := hC0
  show Z X G 1 0 0 _ K N I L R 0 [(0, .int a0)] []
  delta w_X10_growthOf at h
  refine z_iload_n hC (q := 0) dX10_growthOf_0 rfl rfl ?_
  by_cases hc0 : a0 = 10
  · have h := h.1 hc0
    refine z_lookup hC (off := 51) (tgt := 52) dX10_growthOf_1 (by decide) (by rw [hc0]; decide) (by decide) ?_
    refine z_iconst hC (v := 1) k_iconst_1 dX10_growthOf_52 ?_
    exact z_iret hC dX10_growthOf_53 ⟨_, rfl, rfl, rfl, rfl, rfl, rfl, h⟩
  · have h := h.2 hc0
    by_cases hc1 : a0 = 14
    · have h := h.1 hc1
      refine z_lookup hC (off := 53) (tgt := 54) dX10_growthOf_1 (by decide) (by rw [hc1]; decide) (by decide) ?_
      refine z_iconst hC (v := 0) k_iconst_0 dX10_growthOf_54 ?_
      exact z_iret hC dX10_growthOf_55 ⟨_, rfl, rfl, rfl, rfl, rfl, rfl, h⟩
    · have h := h.2 hc1
      by_cases hc2 : a0 = 15
      · have h := h.1 hc2
        refine z_lookup hC (off := 51) (tgt := 52) dX10_growthOf_1 (by decide) (by rw [hc2]; decide) (by decide) ?_
        refine z_iconst hC (v := 1) k_iconst_1 dX10_growthOf_52 ?_
        exact z_iret hC dX10_growthOf_53 ⟨_, rfl, rfl, rfl, rfl, rfl, rfl, h⟩
      · have h := h.2 hc2
        by_cases hc3 : a0 = 16
        · have h := h.1 hc3
          refine z_lookup hC (off := 53) (tgt := 54) dX10_growthOf_1 (by decide) (by rw [hc3]; decide) (by decide) ?_
          refine z_iconst hC (v := 0) k_iconst_0 dX10_growthOf_54 ?_
          exact z_iret hC dX10_growthOf_55 ⟨_, rfl, rfl, rfl, rfl, rfl, rfl, h⟩
        · have h := h.2 hc3
          by_cases hc4 : a0 = 100
          · have h := h.1 hc4
            refine z_lookup hC (off := 51) (tgt := 52) dX10_growthOf_1 (by decide) (by rw [hc4]; decide) (by decide) ?_
            refine z_iconst hC (v := 1) k_iconst_1 dX10_growthOf_52 ?_
            exact z_iret hC dX10_growthOf_53 ⟨_, rfl, rfl, rfl, rfl, rfl, rfl, h⟩
          · have h := h.2 hc4
            have hout : Op.lookupswitch.offset [(10, 51), (14, 53), (15, 51), (16, 53), (100, 51)] 55 a0.toInt = 55 := z_lkOut (by intro q hq; simp only [List.mem_cons, List.not_mem_nil, or_false] at hq; rcases hq with rfl | rfl | rfl | rfl | rfl <;> first | exact z_nei hc0 (by decide) | exact z_nei hc1 (by decide) | exact z_nei hc2 (by decide) | exact z_nei hc3 (by decide) | exact z_nei hc4 (by decide))
            refine z_lookup hC (tgt := 56) dX10_growthOf_1 (by decide) hout (by decide) ?_
            refine z_iconst hC (v := (-1)) k_iconst_m1 dX10_growthOf_56 ?_
            exact z_iret hC dX10_growthOf_57 ⟨_, rfl, rfl, rfl, rfl, rfl, rfl, h⟩
def w_X11_feed  (a0 : Nat) (a1 : Int32) (a2 : Int32) (a3 : Int32) (a4 : Int32) (a5 : Int32) (K : MK) (N : MK) (I : MI) (L : ML) (R : MR) (Q : Int32 → MI → Prop) : Prop := K a0 = 12 ∧ ∃ b2 : Nat, R a0 0 = some b2 ∧ K b2 = 9 ∧ (((I b2 1) + 20) ≤ 940 → w_X8_putInt b2 a1 K N I L R (fun I4 => w_X8_putInt b2 a2 K N I4 L R (fun I5 => w_X8_putInt b2 a3 K N I5 L R (fun I6 => w_X8_putInt b2 a4 K N I6 L R (fun I7 => w_X8_putInt b2 a5 K N I7 L R (fun I8 => Q (I8 b2 1) I8)))))) ∧ (¬ ((I b2 1) + 20) ≤ 940 → Q (-1) I)
set_option maxHeartbeats 4000000 in
set_option maxRecDepth 100000 in
theorem c_X11_feed  (l : Launch) (G : ZG) (a0 : Nat) (a1 : Int32) (a2 : Int32) (a3 : Int32) (a4 : Int32) (a5 : Int32) (K : MK) (N : MK) (I : MI) (L : ML) (R : MR) (Q : Int32 → MI → Prop) (h : w_X11_feed a0 a1 a2 a3 a4 a5 K N I L R Q) : Met l yX11_feed (.code yX11_feed cX11_feed 6 (some .int) :: z_tbl) rm_X11_feed (z_Pc G [.ref a0, .int a1, .int a2, .int a3, .int a4, .int a5] K N I L R) (z_Qc G (qIi K N L R Q)) 0 0 (z_A G) := by
  refine z_met (by decide) (Nat.le_of_ble_eq_true rfl) (fun X hX hRm hC0 hnm => ?_)
  subst hX
  have hC : ZOk X G RX11 cX11_feed 6 (some .int) := hC0
  show Z X G 6 0 0 _ K N I L R 0 [(0, .ref a0), (1, .int a1), (2, .int a2), (3, .int a3), (4, .int a4), (5, .int a5)] []
  delta w_X11_feed at h
  refine z_aload_n hC (q := 0) dX11_feed_0 rfl rfl ?_
  obtain ⟨hk1, h⟩ := h
  obtain ⟨b2, hb2, h⟩ := h
  refine gf_RX11_10 hC dX11_feed_1 hk1 hb2 ?_
  obtain ⟨hk3, h⟩ := h
  refine gf_RX11_120 hC dX11_feed_4 hk3 ?_
  refine z_bipush hC (v := 20) k_bipush_20 dX11_feed_7 ?_
  refine z_iadd hC dX11_feed_9 ?_
  refine z_sipush hC (v := 940) k_sipush_940 dX11_feed_10 ?_
  refine z_icmp_le hC (tgt := 18) dX11_feed_13 (by decide) (fun hc => ?_) (fun hc => ?_)
  · have h := h.1 hc
    refine z_aload_n hC (q := 0) dX11_feed_18 rfl rfl ?_
    refine gf_RX11_10 hC dX11_feed_19 hk1 hb2 ?_
    refine z_iload_n hC (q := 1) dX11_feed_22 rfl rfl ?_
    refine cl_RX11_123 hC (c_X8_putInt _ G b2 a1 K N I L R _ h) hk3 dX11_feed_23 (by rw [hRm]; exact ⟨Nat.le_of_ble_eq_true rfl, Nat.le_of_ble_eq_true rfl⟩) ⟨Nat.zero_le _, Nat.zero_le _⟩ (Nat.le_of_ble_eq_true rfl) (z_kIv (I := I) (fun I4 h => ?_))
    refine z_aload_n hC (q := 0) dX11_feed_26 rfl rfl ?_
    refine gf_RX11_10 hC dX11_feed_27 hk1 hb2 ?_
    refine z_iload_n hC (q := 2) dX11_feed_30 rfl rfl ?_
    refine cl_RX11_123 hC (c_X8_putInt _ G b2 a2 K N I4 L R _ h) hk3 dX11_feed_31 (by rw [hRm]; exact ⟨Nat.le_of_ble_eq_true rfl, Nat.le_of_ble_eq_true rfl⟩) ⟨Nat.zero_le _, Nat.zero_le _⟩ (Nat.le_of_ble_eq_true rfl) (z_kIv (I := I4) (fun I5 h => ?_))
    refine z_aload_n hC (q := 0) dX11_feed_34 rfl rfl ?_
    refine gf_RX11_10 hC dX11_feed_35 hk1 hb2 ?_
    refine z_iload_n hC (q := 3) dX11_feed_38 rfl rfl ?_
    refine cl_RX11_123 hC (c_X8_putInt _ G b2 a3 K N I5 L R _ h) hk3 dX11_feed_39 (by rw [hRm]; exact ⟨Nat.le_of_ble_eq_true rfl, Nat.le_of_ble_eq_true rfl⟩) ⟨Nat.zero_le _, Nat.zero_le _⟩ (Nat.le_of_ble_eq_true rfl) (z_kIv (I := I5) (fun I6 h => ?_))
    refine z_aload_n hC (q := 0) dX11_feed_42 rfl rfl ?_
    refine gf_RX11_10 hC dX11_feed_43 hk1 hb2 ?_
    refine z_iload hC (q := 4) dX11_feed_46 rfl ?_
    refine cl_RX11_123 hC (c_X8_putInt _ G b2 a4 K N I6 L R _ h) hk3 dX11_feed_48 (by rw [hRm]; exact ⟨Nat.le_of_ble_eq_true rfl, Nat.le_of_ble_eq_true rfl⟩) ⟨Nat.zero_le _, Nat.zero_le _⟩ (Nat.le_of_ble_eq_true rfl) (z_kIv (I := I6) (fun I7 h => ?_))
    refine z_aload_n hC (q := 0) dX11_feed_51 rfl rfl ?_
    refine gf_RX11_10 hC dX11_feed_52 hk1 hb2 ?_
    refine z_iload hC (q := 5) dX11_feed_55 rfl ?_
    refine cl_RX11_123 hC (c_X8_putInt _ G b2 a5 K N I7 L R _ h) hk3 dX11_feed_57 (by rw [hRm]; exact ⟨Nat.le_of_ble_eq_true rfl, Nat.le_of_ble_eq_true rfl⟩) ⟨Nat.zero_le _, Nat.zero_le _⟩ (Nat.le_of_ble_eq_true rfl) (z_kIv (I := I7) (fun I8 h => ?_))
    refine z_aload_n hC (q := 0) dX11_feed_60 rfl rfl ?_
    refine gf_RX11_10 hC dX11_feed_61 hk1 hb2 ?_
    refine gf_RX11_120 hC dX11_feed_64 hk3 ?_
    exact z_iret hC dX11_feed_67 ⟨_, rfl, rfl, rfl, rfl, rfl, h⟩
  · have h := h.2 hc
    refine z_iconst hC (v := (-1)) k_iconst_m1 dX11_feed_16 ?_
    exact z_iret hC dX11_feed_17 ⟨_, rfl, rfl, rfl, rfl, rfl, h⟩
def w_X11_end  (a0 : Nat) (a1 : Int32) (K : MK) (N : MK) (I : MI) (L : ML) (R : MR) (Q : Bool → MI → Prop) : Prop := (a1 < 0 → Q false I) ∧ (¬ a1 < 0 → K a0 = 12 ∧ ∃ b2 : Nat, R a0 0 = some b2 ∧ K b2 = 9 ∧ (a1 ≤ (I b2 1) → ∀ I4 : MI, I4 = mup I b2 1 a1 → Q true I4) ∧ (¬ a1 ≤ (I b2 1) → Q false I))
set_option maxHeartbeats 4000000 in
set_option maxRecDepth 100000 in
theorem c_X11_end  (l : Launch) (G : ZG) (a0 : Nat) (a1 : Int32) (K : MK) (N : MK) (I : MI) (L : ML) (R : MR) (Q : Bool → MI → Prop) (h : w_X11_end a0 a1 K N I L R Q) : Met l yX11_end (.code yX11_end cX11_end 2 (some .boolean) :: z_tbl) rm_X11_end (z_Pc G [.ref a0, .int a1] K N I L R) (z_Qc G (qIz K N L R Q)) 0 0 (z_A G) := by
  refine z_met (by decide) (Nat.le_of_ble_eq_true rfl) (fun X hX hRm hC0 hnm => ?_)
  subst hX
  have hC : ZOk X G RX11 cX11_end 2 (some .boolean) := hC0
  show Z X G 2 0 0 _ K N I L R 0 [(0, .ref a0), (1, .int a1)] []
  delta w_X11_end at h
  refine z_iload_n hC (q := 1) dX11_end_0 rfl rfl ?_
  refine z_if_lt hC (tgt := 15) dX11_end_1 (by decide) (fun hc => ?_) (fun hc => ?_)
  · have h := h.1 hc
    refine z_iconst hC (v := 0) k_iconst_0 dX11_end_15 ?_
    exact z_zret (b := false) hC dX11_end_16 rfl ⟨false, rfl, rfl, rfl, rfl, rfl, h⟩
  · have h := h.2 hc
    refine z_iload_n hC (q := 1) dX11_end_4 rfl rfl ?_
    refine z_aload_n hC (q := 0) dX11_end_5 rfl rfl ?_
    obtain ⟨hk1, h⟩ := h
    obtain ⟨b2, hb2, h⟩ := h
    refine gf_RX11_10 hC dX11_end_6 hk1 hb2 ?_
    obtain ⟨hk3, h⟩ := h
    refine gf_RX11_120 hC dX11_end_9 hk3 ?_
    refine z_icmp_le hC (tgt := 17) dX11_end_12 (by decide) (fun hc => ?_) (fun hc => ?_)
    · have h := h.1 hc
      refine z_aload_n hC (q := 0) dX11_end_17 rfl rfl ?_
      refine gf_RX11_10 hC dX11_end_18 hk1 hb2 ?_
      refine z_iload_n hC (q := 1) dX11_end_21 rfl rfl ?_
      refine pf_RX11_120 hC dX11_end_22 hk3 ?_
      refine z_genI (fun I4 eI4 => ?_)
      have h := h I4 eI4
      refine z_iconst hC (v := 1) k_iconst_1 dX11_end_25 ?_
      exact z_zret (b := true) hC dX11_end_26 rfl ⟨true, rfl, rfl, rfl, rfl, rfl, h⟩
    · have h := h.2 hc
      refine z_iconst hC (v := 0) k_iconst_0 dX11_end_15 ?_
      exact z_zret (b := false) hC dX11_end_16 rfl ⟨false, rfl, rfl, rfl, rfl, rfl, h⟩
def w_X11_fault  (a0 : Nat) (K : MK) (N : MK) (I : MI) (L : ML) (R : MR) (Q : Int32 → Prop) : Prop := K a0 = 12 ∧ ∃ b2 : Nat, R a0 0 = some b2 ∧ K b2 = 9 ∧ Q (I b2 10)
set_option maxHeartbeats 4000000 in
set_option maxRecDepth 100000 in
theorem c_X11_fault  (l : Launch) (G : ZG) (a0 : Nat) (K : MK) (N : MK) (I : MI) (L : ML) (R : MR) (Q : Int32 → Prop) (h : w_X11_fault a0 K N I L R Q) : Met l yX11_fault (.code yX11_fault cX11_fault 1 (some .int) :: z_tbl) rm_X11_fault (z_Pc G [.ref a0] K N I L R) (z_Qc G (qPi K N I L R Q)) 0 0 (z_A G) := by
  refine z_met (by decide) (Nat.le_of_ble_eq_true rfl) (fun X hX hRm hC0 hnm => ?_)
  subst hX
  have hC : ZOk X G RX11 cX11_fault 1 (some .int) := hC0
  show Z X G 1 0 0 _ K N I L R 0 [(0, .ref a0)] []
  delta w_X11_fault at h
  refine z_aload_n hC (q := 0) dX11_fault_0 rfl rfl ?_
  obtain ⟨hk1, h⟩ := h
  obtain ⟨b2, hb2, h⟩ := h
  refine gf_RX11_10 hC dX11_fault_1 hk1 hb2 ?_
  obtain ⟨hk3, h⟩ := h
  refine gf_RX11_131 hC dX11_fault_4 hk3 ?_
  exact z_iret hC dX11_fault_7 ⟨_, rfl, rfl, rfl, rfl, rfl, rfl, h⟩
def w_X11_row  (a0 : Nat) (a1 : Int32) (a2 : Int32) (K : MK) (N : MK) (I : MI) (L : ML) (R : MR) (Q : Int32 → Prop) : Prop := K a0 = 12 ∧ ∃ b2 : Nat, R a0 1 = some b2 ∧ K b2 = 10 ∧ ∃ b4 : Nat, R b2 1 = some b4 ∧ K b4 = 8 ∧ w_X7_has b4 a1 K N I L R (fun r6 => (r6 = true → (a2 = 0 → w_X7_at b4 a1 0 K N I L R (fun r7 => Q r7)) ∧ (¬ a2 = 0 → (a2 = 1 → w_X7_at b4 a1 1 K N I L R (fun r8 => Q r8)) ∧ (¬ a2 = 1 → (a2 = 2 → w_X9_rowLength b2 a1 K N I L R (fun r9 => Q r9)) ∧ (¬ a2 = 2 → Q (-1))))) ∧ (r6 = false → Q (-1)))
set_option maxHeartbeats 4000000 in
set_option maxRecDepth 100000 in
theorem c_X11_row  (l : Launch) (G : ZG) (a0 : Nat) (a1 : Int32) (a2 : Int32) (K : MK) (N : MK) (I : MI) (L : ML) (R : MR) (Q : Int32 → Prop) (h : w_X11_row a0 a1 a2 K N I L R Q) : Met l yX11_row (.code yX11_row cX11_row 3 (some .int) :: z_tbl) rm_X11_row (z_Pc G [.ref a0, .int a1, .int a2] K N I L R) (z_Qc G (qPi K N I L R Q)) 0 0 (z_A G) := by
  refine z_met (by decide) (Nat.le_of_ble_eq_true rfl) (fun X hX hRm hC0 hnm => ?_)
  subst hX
  have hC : ZOk X G RX11 cX11_row 3 (some .int) := hC0
  show Z X G 3 0 0 _ K N I L R 0 [(0, .ref a0), (1, .int a1), (2, .int a2)] []
  delta w_X11_row at h
  refine z_aload_n hC (q := 0) dX11_row_0 rfl rfl ?_
  obtain ⟨hk1, h⟩ := h
  obtain ⟨b2, hb2, h⟩ := h
  refine gf_RX11_19 hC dX11_row_1 hk1 hb2 ?_
  obtain ⟨hk3, h⟩ := h
  obtain ⟨b4, hb4, h⟩ := h
  refine gf_RX11_150 hC dX11_row_4 hk3 hb4 ?_
  refine z_iload_n hC (q := 1) dX11_row_7 rfl rfl ?_
  obtain ⟨hk5, h⟩ := h
  refine cl_RX11_153 hC (c_X7_has _ G b4 a1 K N I L R _ h) hk5 dX11_row_8 (by rw [hRm]; exact ⟨Nat.le_of_ble_eq_true rfl, Nat.le_of_ble_eq_true rfl⟩) ⟨Nat.zero_le _, Nat.zero_le _⟩ (Nat.le_of_ble_eq_true rfl) (z_kPz (fun r6 h => ?_))
  refine z_ifz_ne hC (tgt := 16) dX11_row_11 (by decide) (fun hc => ?_) (fun hc => ?_)
  · have h := h.1 hc
    refine z_iload_n hC (q := 2) dX11_row_16 rfl rfl ?_
    by_cases hc0 : a2 = 0
    · have h := h.1 hc0
      refine z_tableIn hC (off := 27) (tgt := 44) 0 hc0 dX11_row_17 (by decide) (by decide) ?_
      refine z_aload_n hC (q := 0) dX11_row_44 rfl rfl ?_
      refine gf_RX11_19 hC dX11_row_45 hk1 hb2 ?_
      refine gf_RX11_150 hC dX11_row_48 hk3 hb4 ?_
      refine z_iload_n hC (q := 1) dX11_row_51 rfl rfl ?_
      refine z_iconst hC (v := 0) k_iconst_0 dX11_row_52 ?_
      refine cl_RX11_157 hC (c_X7_at _ G b4 a1 0 K N I L R _ h) hk5 dX11_row_53 (by rw [hRm]; exact ⟨Nat.le_of_ble_eq_true rfl, Nat.le_of_ble_eq_true rfl⟩) ⟨Nat.zero_le _, Nat.zero_le _⟩ (Nat.le_of_ble_eq_true rfl) (z_kPi (fun r7 h => ?_))
      exact z_iret hC dX11_row_56 ⟨_, rfl, rfl, rfl, rfl, rfl, rfl, h⟩
    · have h := h.2 hc0
      by_cases hc1 : a2 = 1
      · have h := h.1 hc1
        refine z_tableIn hC (off := 40) (tgt := 57) 1 hc1 dX11_row_17 (by decide) (by decide) ?_
        refine z_aload_n hC (q := 0) dX11_row_57 rfl rfl ?_
        refine gf_RX11_19 hC dX11_row_58 hk1 hb2 ?_
        refine gf_RX11_150 hC dX11_row_61 hk3 hb4 ?_
        refine z_iload_n hC (q := 1) dX11_row_64 rfl rfl ?_
        refine z_iconst hC (v := 1) k_iconst_1 dX11_row_65 ?_
        refine cl_RX11_157 hC (c_X7_at _ G b4 a1 1 K N I L R _ h) hk5 dX11_row_66 (by rw [hRm]; exact ⟨Nat.le_of_ble_eq_true rfl, Nat.le_of_ble_eq_true rfl⟩) ⟨Nat.zero_le _, Nat.zero_le _⟩ (Nat.le_of_ble_eq_true rfl) (z_kPi (fun r8 h => ?_))
        exact z_iret hC dX11_row_69 ⟨_, rfl, rfl, rfl, rfl, rfl, rfl, h⟩
      · have h := h.2 hc1
        by_cases hc2 : a2 = 2
        · have h := h.1 hc2
          refine z_tableIn hC (off := 53) (tgt := 70) 2 hc2 dX11_row_17 (by decide) (by decide) ?_
          refine z_aload_n hC (q := 0) dX11_row_70 rfl rfl ?_
          refine gf_RX11_19 hC dX11_row_71 hk1 hb2 ?_
          refine z_iload_n hC (q := 1) dX11_row_74 rfl rfl ?_
          refine cl_RX11_161 hC (c_X9_rowLength _ G b2 a1 K N I L R _ h) hk3 dX11_row_75 (by rw [hRm]; exact ⟨Nat.le_of_ble_eq_true rfl, Nat.le_of_ble_eq_true rfl⟩) ⟨Nat.zero_le _, Nat.zero_le _⟩ (Nat.le_of_ble_eq_true rfl) (z_kPi (fun r9 h => ?_))
          exact z_iret hC dX11_row_78 ⟨_, rfl, rfl, rfl, rfl, rfl, rfl, h⟩
        · have h := h.2 hc2
          have hout : a2.toInt < 0 ∨ 2 < a2.toInt := by
            have hc0 := z_nei hc0 (by decide : (0 : Int32).toInt = 0)
            have hc1 := z_nei hc1 (by decide : (1 : Int32).toInt = 1)
            have hc2 := z_nei hc2 (by decide : (2 : Int32).toInt = 2)
            omega
          refine z_tableOut hC (tgt := 79) dX11_row_17 hout (by decide) ?_
          refine z_iconst hC (v := (-1)) k_iconst_m1 dX11_row_79 ?_
          exact z_iret hC dX11_row_80 ⟨_, rfl, rfl, rfl, rfl, rfl, rfl, h⟩
  · have h := h.2 hc
    refine z_iconst hC (v := (-1)) k_iconst_m1 dX11_row_14 ?_
    exact z_iret hC dX11_row_15 ⟨_, rfl, rfl, rfl, rfl, rfl, rfl, h⟩
