def w_X11_stop  (a0 : Nat) (a1 : Int32) (K : MK) (N : MK) (I : MI) (L : ML) (R : MR) (Q : Int32 → MI → ML → MR → Prop) : Prop := w_X11_isIn a1 1 250 K N I L R (fun r1 => (r1 = false → Q (-1) I L R) ∧ (r1 = true → K a0 = 12 ∧ w_X11_act a0 20 a1 0 K N I L R (fun r3 I4 L5 R6 => Q r3 I4 L5 R6)))
set_option maxHeartbeats 4000000 in
set_option maxRecDepth 100000 in
theorem c_X11_stop  (l : Launch) (G : ZG) (a0 : Nat) (a1 : Int32) (K : MK) (N : MK) (I : MI) (L : ML) (R : MR) (Q : Int32 → MI → ML → MR → Prop) (h : w_X11_stop a0 a1 K N I L R Q) : Met l yX11_stop (.code yX11_stop cX11_stop 2 (some .int) :: z_tbl) rm_X11_stop (z_Pc G [.ref a0, .int a1] K N I L R) (z_Qc G (qRi K N Q)) 0 0 (z_A G) := by
  refine z_met (by decide) (Nat.le_of_ble_eq_true rfl) (fun X hX hRm hC0 hnm => ?_)
  subst hX
  have hC : ZOk X G RX11 cX11_stop 2 (some .int) := hC0
  show Z X G 2 0 0 _ K N I L R 0 [(0, .ref a0), (1, .int a1)] []
  delta w_X11_stop at h
  refine z_iload_n hC (q := 1) dX11_stop_0 rfl rfl ?_
  refine z_iconst hC (v := 1) k_iconst_1 dX11_stop_1 ?_
  refine z_sipush hC (v := 250) k_sipush_250 dX11_stop_2 ?_
  refine cl_RX11_237 hC (c_X11_isIn _ G a1 1 250 K N I L R _ h) dX11_stop_5 (by rw [hRm]; exact ⟨Nat.le_of_ble_eq_true rfl, Nat.le_of_ble_eq_true rfl⟩) ⟨Nat.zero_le _, Nat.zero_le _⟩ (Nat.le_of_ble_eq_true rfl) (z_kPz (fun r1 h => ?_))
  refine z_ifz_eq hC (tgt := 22) dX11_stop_8 (by decide) (fun hc => ?_) (fun hc => ?_)
  · have h := h.1 hc
    refine z_iconst hC (v := (-1)) k_iconst_m1 dX11_stop_22 ?_
    exact z_iret hC dX11_stop_23 ⟨_, rfl, rfl, rfl, h⟩
  · have h := h.2 hc
    refine z_aload_n hC (q := 0) dX11_stop_11 rfl rfl ?_
    refine z_bipush hC (v := 20) k_bipush_20 dX11_stop_12 ?_
    refine z_iload_n hC (q := 1) dX11_stop_14 rfl rfl ?_
    refine z_iconst hC (v := 0) k_iconst_0 dX11_stop_15 ?_
    obtain ⟨hk2, h⟩ := h
    refine cl_RX11_242 hC (c_X11_act _ G a0 20 a1 0 K N I L R _ h) hk2 dX11_stop_16 (by rw [hRm]; exact ⟨Nat.le_of_ble_eq_true rfl, Nat.le_of_ble_eq_true rfl⟩) ⟨Nat.zero_le _, Nat.zero_le _⟩ (Nat.le_of_ble_eq_true rfl) (z_kRi (I := I) (L := L) (R := R) (fun r3 I4 L5 R6 h => ?_))
    refine z_goto hC (tgt := 23) dX11_stop_19 (by decide) ?_
    exact z_iret hC dX11_stop_23 ⟨_, rfl, rfl, rfl, h⟩
def w_X11_clear  (a0 : Nat) (a1 : Int32) (K : MK) (N : MK) (I : MI) (L : ML) (R : MR) (Q : Int32 → MI → ML → MR → Prop) : Prop := w_X11_isIn a1 1 250 K N I L R (fun r1 => (r1 = false → Q (-1) I L R) ∧ (r1 = true → K a0 = 12 ∧ w_X11_act a0 21 a1 0 K N I L R (fun r3 I4 L5 R6 => Q r3 I4 L5 R6)))
set_option maxHeartbeats 4000000 in
set_option maxRecDepth 100000 in
theorem c_X11_clear  (l : Launch) (G : ZG) (a0 : Nat) (a1 : Int32) (K : MK) (N : MK) (I : MI) (L : ML) (R : MR) (Q : Int32 → MI → ML → MR → Prop) (h : w_X11_clear a0 a1 K N I L R Q) : Met l yX11_clear (.code yX11_clear cX11_clear 2 (some .int) :: z_tbl) rm_X11_clear (z_Pc G [.ref a0, .int a1] K N I L R) (z_Qc G (qRi K N Q)) 0 0 (z_A G) := by
  refine z_met (by decide) (Nat.le_of_ble_eq_true rfl) (fun X hX hRm hC0 hnm => ?_)
  subst hX
  have hC : ZOk X G RX11 cX11_clear 2 (some .int) := hC0
  show Z X G 2 0 0 _ K N I L R 0 [(0, .ref a0), (1, .int a1)] []
  delta w_X11_clear at h
  refine z_iload_n hC (q := 1) dX11_clear_0 rfl rfl ?_
  refine z_iconst hC (v := 1) k_iconst_1 dX11_clear_1 ?_
  refine z_sipush hC (v := 250) k_sipush_250 dX11_clear_2 ?_
  refine cl_RX11_237 hC (c_X11_isIn _ G a1 1 250 K N I L R _ h) dX11_clear_5 (by rw [hRm]; exact ⟨Nat.le_of_ble_eq_true rfl, Nat.le_of_ble_eq_true rfl⟩) ⟨Nat.zero_le _, Nat.zero_le _⟩ (Nat.le_of_ble_eq_true rfl) (z_kPz (fun r1 h => ?_))
  refine z_ifz_eq hC (tgt := 22) dX11_clear_8 (by decide) (fun hc => ?_) (fun hc => ?_)
  · have h := h.1 hc
    refine z_iconst hC (v := (-1)) k_iconst_m1 dX11_clear_22 ?_
    exact z_iret hC dX11_clear_23 ⟨_, rfl, rfl, rfl, h⟩
  · have h := h.2 hc
    refine z_aload_n hC (q := 0) dX11_clear_11 rfl rfl ?_
    refine z_bipush hC (v := 21) k_bipush_21 dX11_clear_12 ?_
    refine z_iload_n hC (q := 1) dX11_clear_14 rfl rfl ?_
    refine z_iconst hC (v := 0) k_iconst_0 dX11_clear_15 ?_
    obtain ⟨hk2, h⟩ := h
    refine cl_RX11_242 hC (c_X11_act _ G a0 21 a1 0 K N I L R _ h) hk2 dX11_clear_16 (by rw [hRm]; exact ⟨Nat.le_of_ble_eq_true rfl, Nat.le_of_ble_eq_true rfl⟩) ⟨Nat.zero_le _, Nat.zero_le _⟩ (Nat.le_of_ble_eq_true rfl) (z_kRi (I := I) (L := L) (R := R) (fun r3 I4 L5 R6 h => ?_))
    refine z_goto hC (tgt := 23) dX11_clear_19 (by decide) ?_
    exact z_iret hC dX11_clear_23 ⟨_, rfl, rfl, rfl, h⟩
def w_X11_step  (a0 : Nat) (K : MK) (N : MK) (I : MI) (L : ML) (R : MR) (Q : Int32 → MI → ML → MR → Prop) : Prop := K a0 = 12 ∧ w_X11_act a0 22 0 0 K N I L R (fun r2 I3 L4 R5 => Q r2 I3 L4 R5)
set_option maxHeartbeats 4000000 in
set_option maxRecDepth 100000 in
theorem c_X11_step  (l : Launch) (G : ZG) (a0 : Nat) (K : MK) (N : MK) (I : MI) (L : ML) (R : MR) (Q : Int32 → MI → ML → MR → Prop) (h : w_X11_step a0 K N I L R Q) : Met l yX11_step (.code yX11_step cX11_step 1 (some .int) :: z_tbl) rm_X11_step (z_Pc G [.ref a0] K N I L R) (z_Qc G (qRi K N Q)) 0 0 (z_A G) := by
  refine z_met (by decide) (Nat.le_of_ble_eq_true rfl) (fun X hX hRm hC0 hnm => ?_)
  subst hX
  have hC : ZOk X G RX11 cX11_step 1 (some .int) := hC0
  show Z X G 1 0 0 _ K N I L R 0 [(0, .ref a0)] []
  delta w_X11_step at h
  refine z_aload_n hC (q := 0) dX11_step_0 rfl rfl ?_
  refine z_bipush hC (v := 22) k_bipush_22 dX11_step_1 ?_
  refine z_iconst hC (v := 0) k_iconst_0 dX11_step_3 ?_
  refine z_iconst hC (v := 0) k_iconst_0 dX11_step_4 ?_
  obtain ⟨hk1, h⟩ := h
  refine cl_RX11_242 hC (c_X11_act _ G a0 22 0 0 K N I L R _ h) hk1 dX11_step_5 (by rw [hRm]; exact ⟨Nat.le_of_ble_eq_true rfl, Nat.le_of_ble_eq_true rfl⟩) ⟨Nat.zero_le _, Nat.zero_le _⟩ (Nat.le_of_ble_eq_true rfl) (z_kRi (I := I) (L := L) (R := R) (fun r2 I3 L4 R5 h => ?_))
  exact z_iret hC dX11_step_8 ⟨_, rfl, rfl, rfl, h⟩
def w_X11_leave  (a0 : Nat) (K : MK) (N : MK) (I : MI) (L : ML) (R : MR) (Q : Int32 → MI → ML → MR → Prop) : Prop := K a0 = 12 ∧ w_X11_act a0 23 0 0 K N I L R (fun r2 I3 L4 R5 => Q r2 I3 L4 R5)
set_option maxHeartbeats 4000000 in
set_option maxRecDepth 100000 in
theorem c_X11_leave  (l : Launch) (G : ZG) (a0 : Nat) (K : MK) (N : MK) (I : MI) (L : ML) (R : MR) (Q : Int32 → MI → ML → MR → Prop) (h : w_X11_leave a0 K N I L R Q) : Met l yX11_leave (.code yX11_leave cX11_leave 1 (some .int) :: z_tbl) rm_X11_leave (z_Pc G [.ref a0] K N I L R) (z_Qc G (qRi K N Q)) 0 0 (z_A G) := by
  refine z_met (by decide) (Nat.le_of_ble_eq_true rfl) (fun X hX hRm hC0 hnm => ?_)
  subst hX
  have hC : ZOk X G RX11 cX11_leave 1 (some .int) := hC0
  show Z X G 1 0 0 _ K N I L R 0 [(0, .ref a0)] []
  delta w_X11_leave at h
  refine z_aload_n hC (q := 0) dX11_leave_0 rfl rfl ?_
  refine z_bipush hC (v := 23) k_bipush_23 dX11_leave_1 ?_
  refine z_iconst hC (v := 0) k_iconst_0 dX11_leave_3 ?_
  refine z_iconst hC (v := 0) k_iconst_0 dX11_leave_4 ?_
  obtain ⟨hk1, h⟩ := h
  refine cl_RX11_242 hC (c_X11_act _ G a0 23 0 0 K N I L R _ h) hk1 dX11_leave_5 (by rw [hRm]; exact ⟨Nat.le_of_ble_eq_true rfl, Nat.le_of_ble_eq_true rfl⟩) ⟨Nat.zero_le _, Nat.zero_le _⟩ (Nat.le_of_ble_eq_true rfl) (z_kRi (I := I) (L := L) (R := R) (fun r2 I3 L4 R5 h => ?_))
  exact z_iret hC dX11_leave_8 ⟨_, rfl, rfl, rfl, h⟩
def w_X11_run  (a0 : Nat) (K : MK) (N : MK) (I : MI) (L : ML) (R : MR) (Q : Int32 → MI → ML → MR → Prop) : Prop := K a0 = 12 ∧ w_X11_act a0 24 0 0 K N I L R (fun r2 I3 L4 R5 => Q r2 I3 L4 R5)
set_option maxHeartbeats 4000000 in
set_option maxRecDepth 100000 in
theorem c_X11_run  (l : Launch) (G : ZG) (a0 : Nat) (K : MK) (N : MK) (I : MI) (L : ML) (R : MR) (Q : Int32 → MI → ML → MR → Prop) (h : w_X11_run a0 K N I L R Q) : Met l yX11_run (.code yX11_run cX11_run 1 (some .int) :: z_tbl) rm_X11_run (z_Pc G [.ref a0] K N I L R) (z_Qc G (qRi K N Q)) 0 0 (z_A G) := by
  refine z_met (by decide) (Nat.le_of_ble_eq_true rfl) (fun X hX hRm hC0 hnm => ?_)
  subst hX
  have hC : ZOk X G RX11 cX11_run 1 (some .int) := hC0
  show Z X G 1 0 0 _ K N I L R 0 [(0, .ref a0)] []
  delta w_X11_run at h
  refine z_aload_n hC (q := 0) dX11_run_0 rfl rfl ?_
  refine z_bipush hC (v := 24) k_bipush_24 dX11_run_1 ?_
  refine z_iconst hC (v := 0) k_iconst_0 dX11_run_3 ?_
  refine z_iconst hC (v := 0) k_iconst_0 dX11_run_4 ?_
  obtain ⟨hk1, h⟩ := h
  refine cl_RX11_242 hC (c_X11_act _ G a0 24 0 0 K N I L R _ h) hk1 dX11_run_5 (by rw [hRm]; exact ⟨Nat.le_of_ble_eq_true rfl, Nat.le_of_ble_eq_true rfl⟩) ⟨Nat.zero_le _, Nat.zero_le _⟩ (Nat.le_of_ble_eq_true rfl) (z_kRi (I := I) (L := L) (R := R) (fun r2 I3 L4 R5 h => ?_))
  exact z_iret hC dX11_run_8 ⟨_, rfl, rfl, rfl, h⟩
def w_X11_undo  (a0 : Nat) (K : MK) (N : MK) (I : MI) (L : ML) (R : MR) (Q : Int32 → MI → Prop) : Prop := K a0 = 12 ∧ ((0 : Int32) < (I a0 5) → ∀ I2 : MI, I2 = mup I a0 5 ((I a0 5) - 1) → ∃ b3 : Nat, R a0 2 = some b3 ∧ ∃ b4 : Nat, R a0 4 = some b4 ∧ K b4 = 17 ∧ vp_in (I2 a0 5) (N b4) ∧ ∃ b7 : Nat, R b4 (ix (I2 a0 5)) = some b7 ∧ K b3 = 4 ∧ w_X3_copyFrom b3 b7 K N I2 L R (fun I9 => Q (I9 a0 5) I9)) ∧ (¬ (0 : Int32) < (I a0 5) → Q (-1) I)
set_option maxHeartbeats 4000000 in
set_option maxRecDepth 100000 in
theorem c_X11_undo  (l : Launch) (G : ZG) (a0 : Nat) (K : MK) (N : MK) (I : MI) (L : ML) (R : MR) (Q : Int32 → MI → Prop) (h : w_X11_undo a0 K N I L R Q) : Met l yX11_undo (.code yX11_undo cX11_undo 1 (some .int) :: z_tbl) rm_X11_undo (z_Pc G [.ref a0] K N I L R) (z_Qc G (qIi K N L R Q)) 0 0 (z_A G) := by
  refine z_met (by decide) (Nat.le_of_ble_eq_true rfl) (fun X hX hRm hC0 hnm => ?_)
  subst hX
  have hC : ZOk X G RX11 cX11_undo 1 (some .int) := hC0
  show Z X G 1 0 0 _ K N I L R 0 [(0, .ref a0)] []
  delta w_X11_undo at h
  refine z_aload_n hC (q := 0) dX11_undo_0 rfl rfl ?_
  obtain ⟨hk1, h⟩ := h
  refine gf_RX11_37 hC dX11_undo_1 hk1 ?_
  refine z_if_gt hC (tgt := 9) dX11_undo_4 (by decide) (fun hc => ?_) (fun hc => ?_)
  · have h := h.1 hc
    refine z_aload_n hC (q := 0) dX11_undo_9 rfl rfl ?_
    refine z_dup hC rfl dX11_undo_10 ?_
    refine gf_RX11_37 hC dX11_undo_11 hk1 ?_
    refine z_iconst hC (v := 1) k_iconst_1 dX11_undo_14 ?_
    refine z_isub hC dX11_undo_15 ?_
    refine pf_RX11_37 hC dX11_undo_16 hk1 ?_
    refine z_genI (fun I2 eI2 => ?_)
    have h := h I2 eI2
    refine z_aload_n hC (q := 0) dX11_undo_19 rfl rfl ?_
    obtain ⟨b3, hb3, h⟩ := h
    refine gf_RX11_26 hC dX11_undo_20 hk1 hb3 ?_
    refine z_aload_n hC (q := 0) dX11_undo_23 rfl rfl ?_
    obtain ⟨b4, hb4, h⟩ := h
    refine gf_RX11_33 hC dX11_undo_24 hk1 hb4 ?_
    refine z_aload_n hC (q := 0) dX11_undo_27 rfl rfl ?_
    refine gf_RX11_37 hC dX11_undo_28 hk1 ?_
    obtain ⟨hk5, h⟩ := h
    obtain ⟨hi6, h⟩ := h
    obtain ⟨b7, hb7, h⟩ := h
    refine z_aar17 hC hk5 hi6 hb7 dX11_undo_31 ?_
    obtain ⟨hk8, h⟩ := h
    refine cl_RX11_246 hC (c_X3_copyFrom _ G b3 b7 K N I2 L R _ h) hk8 dX11_undo_32 (by rw [hRm]; exact ⟨Nat.le_of_ble_eq_true rfl, Nat.le_of_ble_eq_true rfl⟩) ⟨Nat.zero_le _, Nat.zero_le _⟩ (Nat.le_of_ble_eq_true rfl) (z_kIv (I := I2) (fun I9 h => ?_))
    refine z_aload_n hC (q := 0) dX11_undo_35 rfl rfl ?_
    refine gf_RX11_37 hC dX11_undo_36 hk1 ?_
    exact z_iret hC dX11_undo_39 ⟨_, rfl, rfl, rfl, rfl, rfl, h⟩
  · have h := h.2 hc
    refine z_iconst hC (v := (-1)) k_iconst_m1 dX11_undo_7 ?_
    exact z_iret hC dX11_undo_8 ⟨_, rfl, rfl, rfl, rfl, rfl, h⟩
def w_X11_packed  (a0 : Nat) (K : MK) (N : MK) (I : MI) (L : ML) (R : MR) (Q : Int32 → MI → ML → Prop) : Prop := K a0 = 12 ∧ ∃ b2 : Nat, R a0 12 = some b2 ∧ ∃ b3 : Nat, R a0 1 = some b3 ∧ K b3 = 10 ∧ ∃ b5 : Nat, R b3 1 = some b5 ∧ K b2 = 5 ∧ w_X4_pack b2 b5 K N I L R (fun I7 L8 => ∃ b9 : Nat, R b2 0 = some b9 ∧ K b9 = 8 ∧ Q (I7 b9 3) I7 L8)
set_option maxHeartbeats 4000000 in
set_option maxRecDepth 100000 in
theorem c_X11_packed  (l : Launch) (G : ZG) (a0 : Nat) (K : MK) (N : MK) (I : MI) (L : ML) (R : MR) (Q : Int32 → MI → ML → Prop) (h : w_X11_packed a0 K N I L R Q) : Met l yX11_packed (.code yX11_packed cX11_packed 1 (some .int) :: z_tbl) rm_X11_packed (z_Pc G [.ref a0] K N I L R) (z_Qc G (qLi K N R Q)) 0 0 (z_A G) := by
  refine z_met (by decide) (Nat.le_of_ble_eq_true rfl) (fun X hX hRm hC0 hnm => ?_)
  subst hX
  have hC : ZOk X G RX11 cX11_packed 1 (some .int) := hC0
  show Z X G 1 0 0 _ K N I L R 0 [(0, .ref a0)] []
  delta w_X11_packed at h
  refine z_aload_n hC (q := 0) dX11_packed_0 rfl rfl ?_
  obtain ⟨hk1, h⟩ := h
  obtain ⟨b2, hb2, h⟩ := h
  refine gf_RX11_86 hC dX11_packed_1 hk1 hb2 ?_
  refine z_aload_n hC (q := 0) dX11_packed_4 rfl rfl ?_
  obtain ⟨b3, hb3, h⟩ := h
  refine gf_RX11_19 hC dX11_packed_5 hk1 hb3 ?_
  obtain ⟨hk4, h⟩ := h
  obtain ⟨b5, hb5, h⟩ := h
  refine gf_RX11_150 hC dX11_packed_8 hk4 hb5 ?_
  obtain ⟨hk6, h⟩ := h
  refine cl_RX11_256 hC (c_X4_pack _ G b2 b5 K N I L R _ h) hk6 dX11_packed_11 (by rw [hRm]; exact ⟨Nat.le_of_ble_eq_true rfl, Nat.le_of_ble_eq_true rfl⟩) ⟨Nat.zero_le _, Nat.zero_le _⟩ (Nat.le_of_ble_eq_true rfl) (z_kLv (I := I) (L := L) (fun I7 L8 h => ?_))
  refine z_aload_n hC (q := 0) dX11_packed_14 rfl rfl ?_
  refine gf_RX11_86 hC dX11_packed_15 hk1 hb2 ?_
  obtain ⟨b9, hb9, h⟩ := h
  refine gf_RX11_260 hC dX11_packed_18 hk6 hb9 ?_
  obtain ⟨hk10, h⟩ := h
  refine gf_RX11_189 hC dX11_packed_21 hk10 ?_
  exact z_iret hC dX11_packed_24 ⟨_, rfl, rfl, rfl, rfl, h⟩
def w_X11_packedAt  (a0 : Nat) (a1 : Int32) (K : MK) (N : MK) (I : MI) (L : ML) (R : MR) (Q : Int32 → Prop) : Prop := K a0 = 12 ∧ ∃ b2 : Nat, R a0 12 = some b2 ∧ K b2 = 5 ∧ ∃ b4 : Nat, R b2 0 = some b4 ∧ K b4 = 8 ∧ w_X7_at b4 a1 0 K N I L R (fun r6 => Q r6)
set_option maxHeartbeats 4000000 in
set_option maxRecDepth 100000 in
theorem c_X11_packedAt  (l : Launch) (G : ZG) (a0 : Nat) (a1 : Int32) (K : MK) (N : MK) (I : MI) (L : ML) (R : MR) (Q : Int32 → Prop) (h : w_X11_packedAt a0 a1 K N I L R Q) : Met l yX11_packedAt (.code yX11_packedAt cX11_packedAt 2 (some .int) :: z_tbl) rm_X11_packedAt (z_Pc G [.ref a0, .int a1] K N I L R) (z_Qc G (qPi K N I L R Q)) 0 0 (z_A G) := by
  refine z_met (by decide) (Nat.le_of_ble_eq_true rfl) (fun X hX hRm hC0 hnm => ?_)
  subst hX
  have hC : ZOk X G RX11 cX11_packedAt 2 (some .int) := hC0
  show Z X G 2 0 0 _ K N I L R 0 [(0, .ref a0), (1, .int a1)] []
  delta w_X11_packedAt at h
  refine z_aload_n hC (q := 0) dX11_packedAt_0 rfl rfl ?_
  obtain ⟨hk1, h⟩ := h
  obtain ⟨b2, hb2, h⟩ := h
  refine gf_RX11_86 hC dX11_packedAt_1 hk1 hb2 ?_
  obtain ⟨hk3, h⟩ := h
  obtain ⟨b4, hb4, h⟩ := h
  refine gf_RX11_260 hC dX11_packedAt_4 hk3 hb4 ?_
  refine z_iload_n hC (q := 1) dX11_packedAt_7 rfl rfl ?_
  refine z_iconst hC (v := 0) k_iconst_0 dX11_packedAt_8 ?_
  obtain ⟨hk5, h⟩ := h
  refine cl_RX11_157 hC (c_X7_at _ G b4 a1 0 K N I L R _ h) hk5 dX11_packedAt_9 (by rw [hRm]; exact ⟨Nat.le_of_ble_eq_true rfl, Nat.le_of_ble_eq_true rfl⟩) ⟨Nat.zero_le _, Nat.zero_le _⟩ (Nat.le_of_ble_eq_true rfl) (z_kPi (fun r6 h => ?_))
  exact z_iret hC dX11_packedAt_12 ⟨_, rfl, rfl, rfl, rfl, rfl, rfl, h⟩
def w_X11_unpacked  (a0 : Nat) (K : MK) (N : MK) (I : MI) (L : ML) (R : MR) (Q : Int32 → MI → ML → Prop) : Prop := K a0 = 12 ∧ ∃ b2 : Nat, R a0 12 = some b2 ∧ ∃ b3 : Nat, R a0 0 = some b3 ∧ K b2 = 5 ∧ w_X4_unpack b2 b3 K N I L R (fun r5 I6 L7 => K b3 = 9 ∧ ∀ I9 : MI, I9 = mup I6 b3 1 0 → (¬ r5 = (-1) → Q ((-1 : Int32) - r5) I9 L7) ∧ (r5 = (-1) → ∃ b10 : Nat, R b2 1 = some b10 ∧ K b10 = 8 ∧ Q (I9 b10 3) I9 L7))
set_option maxHeartbeats 4000000 in
set_option maxRecDepth 100000 in
theorem c_X11_unpacked  (l : Launch) (G : ZG) (a0 : Nat) (K : MK) (N : MK) (I : MI) (L : ML) (R : MR) (Q : Int32 → MI → ML → Prop) (h : w_X11_unpacked a0 K N I L R Q) : Met l yX11_unpacked (.code yX11_unpacked cX11_unpacked 2 (some .int) :: z_tbl) rm_X11_unpacked (z_Pc G [.ref a0] K N I L R) (z_Qc G (qLi K N R Q)) 0 0 (z_A G) := by
  refine z_met (by decide) (Nat.le_of_ble_eq_true rfl) (fun X hX hRm hC0 hnm => ?_)
  subst hX
  have hC : ZOk X G RX11 cX11_unpacked 2 (some .int) := hC0
  show Z X G 2 0 0 _ K N I L R 0 [(0, .ref a0)] []
  delta w_X11_unpacked at h
  refine z_aload_n hC (q := 0) dX11_unpacked_0 rfl rfl ?_
  obtain ⟨hk1, h⟩ := h
  obtain ⟨b2, hb2, h⟩ := h
  refine gf_RX11_86 hC dX11_unpacked_1 hk1 hb2 ?_
  refine z_aload_n hC (q := 0) dX11_unpacked_4 rfl rfl ?_
  obtain ⟨b3, hb3, h⟩ := h
  refine gf_RX11_10 hC dX11_unpacked_5 hk1 hb3 ?_
  obtain ⟨hk4, h⟩ := h
  refine cl_RX11_263 hC (c_X4_unpack _ G b2 b3 K N I L R _ h) hk4 dX11_unpacked_8 (by rw [hRm]; exact ⟨Nat.le_of_ble_eq_true rfl, Nat.le_of_ble_eq_true rfl⟩) ⟨Nat.zero_le _, Nat.zero_le _⟩ (Nat.le_of_ble_eq_true rfl) (z_kLi (I := I) (L := L) (fun r5 I6 L7 h => ?_))
  refine z_istore_n hC (lv1 := [(1, .int r5), (0, .ref a0)]) dX11_unpacked_11 rfl (by decide) rfl ?_
  refine z_aload_n hC (q := 1) dX11_unpacked_12 rfl rfl ?_
  refine gf_RX11_10 hC dX11_unpacked_13 hk1 hb3 ?_
  refine z_iconst hC (v := 0) k_iconst_0 dX11_unpacked_16 ?_
  obtain ⟨hk8, h⟩ := h
  refine pf_RX11_120 hC dX11_unpacked_17 hk8 ?_
  refine z_genI (fun I9 eI9 => ?_)
  have h := h I9 eI9
  refine z_iload_n hC (q := 0) dX11_unpacked_20 rfl rfl ?_
  refine z_iconst hC (v := (-1)) k_iconst_m1 dX11_unpacked_21 ?_
  refine z_icmp_ne hC (tgt := 38) dX11_unpacked_22 (by decide) (fun hc => ?_) (fun hc => ?_)
  · have h := h.1 hc
    refine z_iconst hC (v := (-1)) k_iconst_m1 dX11_unpacked_38 ?_
    refine z_iload_n hC (q := 0) dX11_unpacked_39 rfl rfl ?_
    refine z_isub hC dX11_unpacked_40 ?_
    exact z_iret hC dX11_unpacked_41 ⟨_, rfl, rfl, rfl, rfl, h⟩
  · have h := h.2 hc
    refine z_aload_n hC (q := 1) dX11_unpacked_25 rfl rfl ?_
    refine gf_RX11_86 hC dX11_unpacked_26 hk1 hb2 ?_
    obtain ⟨b10, hb10, h⟩ := h
    refine gf_RX11_266 hC dX11_unpacked_29 hk4 hb10 ?_
    obtain ⟨hk11, h⟩ := h
    refine gf_RX11_189 hC dX11_unpacked_32 hk11 ?_
    refine z_goto hC (tgt := 41) dX11_unpacked_35 (by decide) ?_
    exact z_iret hC dX11_unpacked_41 ⟨_, rfl, rfl, rfl, rfl, h⟩
def w_X11_unpackedAt  (a0 : Nat) (a1 : Int32) (a2 : Int32) (K : MK) (N : MK) (I : MI) (L : ML) (R : MR) (Q : Int32 → Prop) : Prop := K a0 = 12 ∧ ∃ b2 : Nat, R a0 12 = some b2 ∧ K b2 = 5 ∧ ∃ b4 : Nat, R b2 1 = some b4 ∧ K b4 = 8 ∧ w_X7_at b4 a1 a2 K N I L R (fun r6 => Q r6)
set_option maxHeartbeats 4000000 in
set_option maxRecDepth 100000 in
theorem c_X11_unpackedAt  (l : Launch) (G : ZG) (a0 : Nat) (a1 : Int32) (a2 : Int32) (K : MK) (N : MK) (I : MI) (L : ML) (R : MR) (Q : Int32 → Prop) (h : w_X11_unpackedAt a0 a1 a2 K N I L R Q) : Met l yX11_unpackedAt (.code yX11_unpackedAt cX11_unpackedAt 3 (some .int) :: z_tbl) rm_X11_unpackedAt (z_Pc G [.ref a0, .int a1, .int a2] K N I L R) (z_Qc G (qPi K N I L R Q)) 0 0 (z_A G) := by
  refine z_met (by decide) (Nat.le_of_ble_eq_true rfl) (fun X hX hRm hC0 hnm => ?_)
  subst hX
  have hC : ZOk X G RX11 cX11_unpackedAt 3 (some .int) := hC0
  show Z X G 3 0 0 _ K N I L R 0 [(0, .ref a0), (1, .int a1), (2, .int a2)] []
  delta w_X11_unpackedAt at h
  refine z_aload_n hC (q := 0) dX11_unpackedAt_0 rfl rfl ?_
  obtain ⟨hk1, h⟩ := h
  obtain ⟨b2, hb2, h⟩ := h
  refine gf_RX11_86 hC dX11_unpackedAt_1 hk1 hb2 ?_
  obtain ⟨hk3, h⟩ := h
  obtain ⟨b4, hb4, h⟩ := h
  refine gf_RX11_266 hC dX11_unpackedAt_4 hk3 hb4 ?_
  refine z_iload_n hC (q := 1) dX11_unpackedAt_7 rfl rfl ?_
  refine z_iload_n hC (q := 2) dX11_unpackedAt_8 rfl rfl ?_
  obtain ⟨hk5, h⟩ := h
  refine cl_RX11_157 hC (c_X7_at _ G b4 a1 a2 K N I L R _ h) hk5 dX11_unpackedAt_9 (by rw [hRm]; exact ⟨Nat.le_of_ble_eq_true rfl, Nat.le_of_ble_eq_true rfl⟩) ⟨Nat.zero_le _, Nat.zero_le _⟩ (Nat.le_of_ble_eq_true rfl) (z_kPi (fun r6 h => ?_))
  exact z_iret hC dX11_unpackedAt_12 ⟨_, rfl, rfl, rfl, rfl, rfl, rfl, h⟩
def w_X11_commonDivisor_7  (x2 : Int32) (x3 : Int32) (x4 : Int32)  (K : MK) (N : MK) (I : MI) (L : ML) (R : MR)  (Q : Int32 → Prop) : Prop := ∃ J : Nat → Int32 → Int32 → Int32 → Prop, (∃ n, J n x2 x3 x4) ∧ ∀ (n : Nat) (x2 : Int32) (x3 : Int32) (x4 : Int32), J n x2 x3 x4 → ((1000 : Int32) ≤ x4 → Q x2) ∧ (¬ (1000 : Int32) ≤ x4 → (x3 ≤ 0 → Q x2) ∧ (¬ x3 ≤ 0 → ¬ x3 = 0 ∧ ∀ v2 : Int32, v2 = (x2 - x2 / x3 * x3) → ∀ v3 : Int32, v3 = x4 + 1 → ∃ n1, n1 < n ∧ J n1 x3 v2 v3))
def w_X11_commonDivisor  (a0 : Int32) (a1 : Int32) (K : MK) (N : MK) (I : MI) (L : ML) (R : MR) (Q : Int32 → Prop) : Prop := w_X11_commonDivisor_7 a0 a1 0 K N I L R Q
set_option maxHeartbeats 4000000 in
set_option maxRecDepth 100000 in
theorem z_X11_commonDivisor_7 {X : ZX} {G : ZG}  {x2 : Int32} {x3 : Int32} {x4 : Int32}  {K : MK} {N : MK} {I : MI} {L : ML} {R : MR}  {Q : Int32 → Prop} (hC : ZOk X G RX11 cX11_commonDivisor 6 (some .int)) (hRm : X.2.2.2.1 = rm_X11_commonDivisor) (h : w_X11_commonDivisor_7 x2 x3 x4 K N I L R  Q) : Z X G 6 0 0 (z_T X G (qPi K N I L R Q) 0 0) K N I L R 7 [(2, .int x2), (3, .int x3), (4, .int x4)] [] := by
  delta w_X11_commonDivisor_7 at h
  obtain ⟨J, ⟨n, h0⟩, hs⟩ := h
  have key : ∀ (n : Nat) (x2 : Int32) (x3 : Int32) (x4 : Int32), J n x2 x3 x4 → Z X G 6 0 0 (z_T X G (qPi K N I L R Q) 0 0) K N I L R 7 [(2, .int x2), (3, .int x3), (4, .int x4)] [] := by
    intro n
    induction n using Nat.strongRecOn with
    | _ n ih =>
      intro x2 x3 x4 hJ
      have hC7 : ∀ (y0 : Int32) (y1 : Int32) (y2 : Int32) , (∃ n1, n1 < n ∧ J n1 y0 y1 y2) → Z X G 6 0 0 (z_T X G (qPi K N I L R Q) 0 0) K N I L R 7 [(2, .int y0), (3, .int y1), (4, .int y2)] [] := fun y0 y1 y2 ⟨n1, hn1, hj⟩ => ih n1 hn1 y0 y1 y2 hj
      have h := hs n x2 x3 x4 hJ
      refine z_iload hC (q := 2) dX11_commonDivisor_7 rfl ?_
      refine z_sipush hC (v := 1000) k_sipush_1000 dX11_commonDivisor_9 ?_
      refine z_icmp_ge hC (tgt := 35) dX11_commonDivisor_12 (by decide) (fun hc => ?_) (fun hc => ?_)
      · have h := h.1 hc
        refine z_iload_n hC (q := 0) dX11_commonDivisor_35 rfl rfl ?_
        exact z_iret hC dX11_commonDivisor_36 ⟨_, rfl, rfl, rfl, rfl, rfl, rfl, h⟩
      · have h := h.2 hc
        refine z_iload_n hC (q := 1) dX11_commonDivisor_15 rfl rfl ?_
        refine z_if_le hC (tgt := 35) dX11_commonDivisor_16 (by decide) (fun hc => ?_) (fun hc => ?_)
        · have h := h.1 hc
          refine z_iload_n hC (q := 0) dX11_commonDivisor_35 rfl rfl ?_
          exact z_iret hC dX11_commonDivisor_36 ⟨_, rfl, rfl, rfl, rfl, rfl, rfl, h⟩
        · have h := h.2 hc
          refine z_iload_n hC (q := 0) dX11_commonDivisor_19 rfl rfl ?_
          refine z_iload_n hC (q := 1) dX11_commonDivisor_20 rfl rfl ?_
          obtain ⟨hz1, h⟩ := h
          refine z_irem hC hz1 dX11_commonDivisor_21 ?_
          refine z_topi (fun v2 ev2 => ?_)
          have h := h v2 ev2
          refine z_istore hC (lv1 := [(5, .int v2), (2, .int x2), (3, .int x3), (4, .int x4)]) dX11_commonDivisor_22 (by decide) rfl ?_
          refine z_iload_n hC (q := 2) dX11_commonDivisor_24 rfl rfl ?_
          refine z_istore_n hC (lv1 := [(2, .int x3), (5, .int v2), (3, .int x3), (4, .int x4)]) dX11_commonDivisor_25 rfl (by decide) rfl ?_
          refine z_iload hC (q := 1) dX11_commonDivisor_26 rfl ?_
          refine z_istore_n hC (lv1 := [(3, .int v2), (2, .int x3), (5, .int v2), (4, .int x4)]) dX11_commonDivisor_28 rfl (by decide) rfl ?_
          obtain ⟨v3, ev3⟩ : ∃ y : Int32, y = x4 + 1 := ⟨_, rfl⟩
          have h := h v3 ev3
          refine z_iinc hC (q := 3) (v := v3) (lv1 := [(4, .int v3), (3, .int v2), (2, .int x3), (5, .int v2)]) dX11_commonDivisor_29 rfl (by rw [ev3, k_iinc_1]) (by decide) rfl ?_
          refine z_goto hC (tgt := 7) dX11_commonDivisor_32 (by decide) ?_
          exact z_sub [(2, .int x3), (3, .int v2), (4, .int v3)] [2, 1, 0] rfl (hC7 _ _ _ h)
  exact key n x2 x3 x4 h0
set_option maxHeartbeats 4000000 in
set_option maxRecDepth 100000 in
theorem c_X11_commonDivisor  (l : Launch) (G : ZG) (a0 : Int32) (a1 : Int32) (K : MK) (N : MK) (I : MI) (L : ML) (R : MR) (Q : Int32 → Prop) (h : w_X11_commonDivisor a0 a1 K N I L R Q) : Met l yX11_commonDivisor (.code yX11_commonDivisor cX11_commonDivisor 6 (some .int) :: z_tbl) rm_X11_commonDivisor (z_Pc G [.int a0, .int a1] K N I L R) (z_Qc G (qPi K N I L R Q)) 0 0 (z_A G) := by
  refine z_met (by decide) (Nat.le_of_ble_eq_true rfl) (fun X hX hRm hC0 hnm => ?_)
  subst hX
  have hC : ZOk X G RX11 cX11_commonDivisor 6 (some .int) := hC0
  show Z X G 6 0 0 _ K N I L R 0 [(0, .int a0), (1, .int a1)] []
  delta w_X11_commonDivisor at h
  refine z_iload_n hC (q := 0) dX11_commonDivisor_0 rfl rfl ?_
  refine z_istore_n hC (lv1 := [(2, .int a0), (0, .int a0), (1, .int a1)]) dX11_commonDivisor_1 rfl (by decide) rfl ?_
  refine z_iload_n hC (q := 2) dX11_commonDivisor_2 rfl rfl ?_
  refine z_istore_n hC (lv1 := [(3, .int a1), (2, .int a0), (0, .int a0), (1, .int a1)]) dX11_commonDivisor_3 rfl (by decide) rfl ?_
  refine z_iconst hC (v := 0) k_iconst_0 dX11_commonDivisor_4 ?_
  refine z_istore hC (lv1 := [(4, .int 0), (3, .int a1), (2, .int a0), (0, .int a0), (1, .int a1)]) dX11_commonDivisor_5 (by decide) rfl ?_
  exact z_sub [(2, .int a0), (3, .int a1), (4, .int 0)] [2, 1, 0] rfl (z_X11_commonDivisor_7 hC hRm h)
def w_X11_longest_6  (x0 : Nat) (x1 : Int32) (x2 : Int32) (x3 : Int32)  (K : MK) (N : MK) (I : MI) (L : ML) (R : MR)  (Q : Int32 → Prop) : Prop := ∃ J : Nat → Nat → Int32 → Int32 → Int32 → Prop, (∃ n, J n x0 x1 x2 x3) ∧ ∀ (n : Nat) (x0 : Nat) (x1 : Int32) (x2 : Int32) (x3 : Int32), J n x0 x1 x2 x3 → ((250 : Int32) < x3 → Q x1) ∧ (¬ (250 : Int32) < x3 → K x0 = 12 ∧ ∃ b2 : Nat, R x0 1 = some b2 ∧ K b2 = 10 ∧ w_X9_lineLength b2 x3 K N I L R (fun r4 => (r4 ≤ x2 → ∀ v5 : Int32, v5 = x3 + 1 → ∃ n1, n1 < n ∧ J n1 x0 x1 x2 v5) ∧ (¬ r4 ≤ x2 → ∀ v6 : Int32, v6 = x3 + 1 → ∃ n1, n1 < n ∧ J n1 x0 x3 r4 v6)))
def w_X11_longest  (a0 : Nat) (K : MK) (N : MK) (I : MI) (L : ML) (R : MR) (Q : Int32 → Prop) : Prop := w_X11_longest_6 a0 (-1) 0 1 K N I L R Q
set_option maxHeartbeats 4000000 in
set_option maxRecDepth 100000 in
theorem z_X11_longest_6 {X : ZX} {G : ZG}  {x0 : Nat} {x1 : Int32} {x2 : Int32} {x3 : Int32}  {K : MK} {N : MK} {I : MI} {L : ML} {R : MR}  {Q : Int32 → Prop} (hC : ZOk X G RX11 cX11_longest 5 (some .int)) (hRm : X.2.2.2.1 = rm_X11_longest) (h : w_X11_longest_6 x0 x1 x2 x3 K N I L R  Q) : Z X G 5 0 0 (z_T X G (qPi K N I L R Q) 0 0) K N I L R 6 [(0, .ref x0), (1, .int x1), (2, .int x2), (3, .int x3)] [] := by
  delta w_X11_longest_6 at h
  obtain ⟨J, ⟨n, h0⟩, hs⟩ := h
  have key : ∀ (n : Nat) (x0 : Nat) (x1 : Int32) (x2 : Int32) (x3 : Int32), J n x0 x1 x2 x3 → Z X G 5 0 0 (z_T X G (qPi K N I L R Q) 0 0) K N I L R 6 [(0, .ref x0), (1, .int x1), (2, .int x2), (3, .int x3)] [] := by
    intro n
    induction n using Nat.strongRecOn with
    | _ n ih =>
      intro x0 x1 x2 x3 hJ
      have hC6 : ∀ (y0 : Nat) (y1 : Int32) (y2 : Int32) (y3 : Int32) , (∃ n1, n1 < n ∧ J n1 y0 y1 y2 y3) → Z X G 5 0 0 (z_T X G (qPi K N I L R Q) 0 0) K N I L R 6 [(0, .ref y0), (1, .int y1), (2, .int y2), (3, .int y3)] [] := fun y0 y1 y2 y3 ⟨n1, hn1, hj⟩ => ih n1 hn1 y0 y1 y2 y3 hj
      have h := hs n x0 x1 x2 x3 hJ
      refine z_iload_n hC (q := 3) dX11_longest_6 rfl rfl ?_
      refine z_sipush hC (v := 250) k_sipush_250 dX11_longest_7 ?_
      refine z_icmp_gt hC (tgt := 40) dX11_longest_10 (by decide) (fun hc => ?_) (fun hc => ?_)
      · have h := h.1 hc
        refine z_iload_n hC (q := 1) dX11_longest_40 rfl rfl ?_
        exact z_iret hC dX11_longest_41 ⟨_, rfl, rfl, rfl, rfl, rfl, rfl, h⟩
      · have h := h.2 hc
        refine z_aload_n hC (q := 0) dX11_longest_13 rfl rfl ?_
        obtain ⟨hk1, h⟩ := h
        obtain ⟨b2, hb2, h⟩ := h
        refine gf_RX11_19 hC dX11_longest_14 hk1 hb2 ?_
        refine z_iload_n hC (q := 3) dX11_longest_17 rfl rfl ?_
        obtain ⟨hk3, h⟩ := h
        refine cl_RX11_278 hC (c_X9_lineLength _ G b2 x3 K N I L R _ h) hk3 dX11_longest_18 (by rw [hRm]; exact ⟨Nat.le_of_ble_eq_true rfl, Nat.le_of_ble_eq_true rfl⟩) ⟨Nat.zero_le _, Nat.zero_le _⟩ (Nat.le_of_ble_eq_true rfl) (z_kPi (fun r4 h => ?_))
        refine z_istore hC (lv1 := [(4, .int r4), (0, .ref x0), (1, .int x1), (2, .int x2), (3, .int x3)]) dX11_longest_21 (by decide) rfl ?_
        refine z_iload hC (q := 0) dX11_longest_23 rfl ?_
        refine z_iload_n hC (q := 3) dX11_longest_25 rfl rfl ?_
        refine z_icmp_le hC (tgt := 34) dX11_longest_26 (by decide) (fun hc => ?_) (fun hc => ?_)
        · have h := h.1 hc
          obtain ⟨v5, ev5⟩ : ∃ y : Int32, y = x3 + 1 := ⟨_, rfl⟩
          have h := h v5 ev5
          refine z_iinc hC (q := 4) (v := v5) (lv1 := [(3, .int v5), (4, .int r4), (0, .ref x0), (1, .int x1), (2, .int x2)]) dX11_longest_34 rfl (by rw [ev5, k_iinc_1]) (by decide) rfl ?_
          refine z_goto hC (tgt := 6) dX11_longest_37 (by decide) ?_
          exact z_sub [(0, .ref x0), (1, .int x1), (2, .int x2), (3, .int v5)] [2, 3, 4, 0] rfl (hC6 _ _ _ _ h)
        · have h := h.2 hc
          refine z_iload hC (q := 0) dX11_longest_29 rfl ?_
          refine z_istore_n hC (lv1 := [(2, .int r4), (4, .int r4), (0, .ref x0), (1, .int x1), (3, .int x3)]) dX11_longest_31 rfl (by decide) rfl ?_
          refine z_iload_n hC (q := 4) dX11_longest_32 rfl rfl ?_
          refine z_istore_n hC (lv1 := [(1, .int x3), (2, .int r4), (4, .int r4), (0, .ref x0), (3, .int x3)]) dX11_longest_33 rfl (by decide) rfl ?_
          obtain ⟨v6, ev6⟩ : ∃ y : Int32, y = x3 + 1 := ⟨_, rfl⟩
          have h := h v6 ev6
          refine z_iinc hC (q := 4) (v := v6) (lv1 := [(3, .int v6), (1, .int x3), (2, .int r4), (4, .int r4), (0, .ref x0)]) dX11_longest_34 rfl (by rw [ev6, k_iinc_1]) (by decide) rfl ?_
          refine z_goto hC (tgt := 6) dX11_longest_37 (by decide) ?_
          exact z_sub [(0, .ref x0), (1, .int x3), (2, .int r4), (3, .int v6)] [4, 1, 2, 0] rfl (hC6 _ _ _ _ h)
  exact key n x0 x1 x2 x3 h0
set_option maxHeartbeats 4000000 in
set_option maxRecDepth 100000 in
theorem c_X11_longest  (l : Launch) (G : ZG) (a0 : Nat) (K : MK) (N : MK) (I : MI) (L : ML) (R : MR) (Q : Int32 → Prop) (h : w_X11_longest a0 K N I L R Q) : Met l yX11_longest (.code yX11_longest cX11_longest 5 (some .int) :: z_tbl) rm_X11_longest (z_Pc G [.ref a0] K N I L R) (z_Qc G (qPi K N I L R Q)) 0 0 (z_A G) := by
  refine z_met (by decide) (Nat.le_of_ble_eq_true rfl) (fun X hX hRm hC0 hnm => ?_)
  subst hX
  have hC : ZOk X G RX11 cX11_longest 5 (some .int) := hC0
  show Z X G 5 0 0 _ K N I L R 0 [(0, .ref a0)] []
  delta w_X11_longest at h
  refine z_iconst hC (v := (-1)) k_iconst_m1 dX11_longest_0 ?_
  refine z_istore_n hC (lv1 := [(1, .int (-1)), (0, .ref a0)]) dX11_longest_1 rfl (by decide) rfl ?_
  refine z_iconst hC (v := 0) k_iconst_0 dX11_longest_2 ?_
  refine z_istore_n hC (lv1 := [(2, .int 0), (1, .int (-1)), (0, .ref a0)]) dX11_longest_3 rfl (by decide) rfl ?_
  refine z_iconst hC (v := 1) k_iconst_1 dX11_longest_4 ?_
  refine z_istore_n hC (lv1 := [(3, .int 1), (2, .int 0), (1, .int (-1)), (0, .ref a0)]) dX11_longest_5 rfl (by decide) rfl ?_
  exact z_sub [(0, .ref a0), (1, .int (-1)), (2, .int 0), (3, .int 1)] [3, 2, 1, 0] rfl (z_X11_longest_6 hC hRm h)
def w_X11_tagByte  (a0 : Nat) (a1 : Int32) (K : MK) (N : MK) (I : MI) (L : ML) (R : MR) (Q : MI → ML → Prop) : Prop := K a0 = 12 ∧ ∃ b2 : Nat, R a0 18 = some b2 ∧ K b2 = 8 ∧ w_X7_add b2 0 K N I L R (fun r4 I5 L6 => w_X7_put b2 r4 0 a1 K N I5 L6 R (fun I7 => Q I7 L6))
set_option maxHeartbeats 4000000 in
set_option maxRecDepth 100000 in
theorem c_X11_tagByte  (l : Launch) (G : ZG) (a0 : Nat) (a1 : Int32) (K : MK) (N : MK) (I : MI) (L : ML) (R : MR) (Q : MI → ML → Prop) (h : w_X11_tagByte a0 a1 K N I L R Q) : Met l yX11_tagByte (.code yX11_tagByte cX11_tagByte 2 none :: z_tbl) rm_X11_tagByte (z_Pc G [.ref a0, .int a1] K N I L R) (z_Qc G (qLv K N R Q)) 0 0 (z_A G) := by
  refine z_met (by decide) (Nat.le_of_ble_eq_true rfl) (fun X hX hRm hC0 hnm => ?_)
  subst hX
  have hC : ZOk X G RX11 cX11_tagByte 2 none := hC0
  show Z X G 2 0 0 _ K N I L R 0 [(0, .ref a0), (1, .int a1)] []
  delta w_X11_tagByte at h
  refine z_aload_n hC (q := 0) dX11_tagByte_0 rfl rfl ?_
  obtain ⟨hk1, h⟩ := h
  obtain ⟨b2, hb2, h⟩ := h
  refine gf_RX11_114 hC dX11_tagByte_1 hk1 hb2 ?_
  refine z_aload_n hC (q := 0) dX11_tagByte_4 rfl rfl ?_
  refine gf_RX11_114 hC dX11_tagByte_5 hk1 hb2 ?_
  refine z_lconst hC (v := 0) k_lconst_0 dX11_tagByte_8 ?_
  obtain ⟨hk3, h⟩ := h
  refine cl_RX11_196 hC (c_X7_add _ G b2 0 K N I L R _ h) hk3 dX11_tagByte_9 (by rw [hRm]; exact ⟨Nat.le_of_ble_eq_true rfl, Nat.le_of_ble_eq_true rfl⟩) ⟨Nat.zero_le _, Nat.zero_le _⟩ (Nat.le_of_ble_eq_true rfl) (z_kLi (I := I) (L := L) (fun r4 I5 L6 h => ?_))
  refine z_iconst hC (v := 0) k_iconst_0 dX11_tagByte_12 ?_
  refine z_iload_n hC (q := 1) dX11_tagByte_13 rfl rfl ?_
  refine cl_RX11_200 hC (c_X7_put _ G b2 r4 0 a1 K N I5 L6 R _ h) hk3 dX11_tagByte_14 (by rw [hRm]; exact ⟨Nat.le_of_ble_eq_true rfl, Nat.le_of_ble_eq_true rfl⟩) ⟨Nat.zero_le _, Nat.zero_le _⟩ (Nat.le_of_ble_eq_true rfl) (z_kIv (I := I5) (fun I7 h => ?_))
  exact z_vret hC dX11_tagByte_17 ⟨rfl, rfl, rfl, rfl, h⟩
def w_X11_tagName_3  (x0 : Nat) (x1 : Int64) (x3 : Int32)  (K : MK) (N : MK) (I : MI) (L : ML) (R : MR)  (Q : MI → ML → Prop) : Prop := ∃ J : Nat → Nat → Int64 → Int32 → MI → ML → Prop, (∃ n, J n x0 x1 x3 I L) ∧ ∀ (n : Nat) (x0 : Nat) (x1 : Int64) (x3 : Int32) (I : MI) (L : ML), J n x0 x1 x3 I L → (x3 < 0 → Q I L) ∧ (¬ x3 < 0 → ∀ v1 : Int32, v1 = ((Int64.toInt32 (lushr x1 x3)) &&& 31) → (v1 ≤ 0 → ∀ v2 : Int32, v2 = x3 + (-5) → ∃ n1, n1 < n ∧ J n1 x0 x1 v2 I L) ∧ (¬ v1 ≤ 0 → K x0 = 12 ∧ w_X11_tagByte x0 ((96 : Int32) + v1) K N I L R (fun I4 L5 => ∀ v6 : Int32, v6 = x3 + (-5) → ∃ n1, n1 < n ∧ J n1 x0 x1 v6 I4 L5)))
def w_X11_tagName  (a0 : Nat) (a1 : Int64) (K : MK) (N : MK) (I : MI) (L : ML) (R : MR) (Q : MI → ML → Prop) : Prop := w_X11_tagName_3 a0 a1 30 K N I L R Q
set_option maxHeartbeats 4000000 in
set_option maxRecDepth 100000 in
theorem z_X11_tagName_3 {X : ZX} {G : ZG}  {x0 : Nat} {x1 : Int64} {x3 : Int32}  {K : MK} {N : MK} {I : MI} {L : ML} {R : MR}  {Q : MI → ML → Prop} (hC : ZOk X G RX11 cX11_tagName 5 none) (hRm : X.2.2.2.1 = rm_X11_tagName) (h : w_X11_tagName_3 x0 x1 x3 K N I L R  Q) : Z X G 5 0 0 (z_T X G (qLv K N R Q) 0 0) K N I L R 3 [(0, .ref x0), (1, .long x1), (3, .int x3)] [] := by
  delta w_X11_tagName_3 at h
  obtain ⟨J, ⟨n, h0⟩, hs⟩ := h
  have key : ∀ (n : Nat) (x0 : Nat) (x1 : Int64) (x3 : Int32) (I : MI) (L : ML), J n x0 x1 x3 I L → Z X G 5 0 0 (z_T X G (qLv K N R Q) 0 0) K N I L R 3 [(0, .ref x0), (1, .long x1), (3, .int x3)] [] := by
    intro n
    induction n using Nat.strongRecOn with
    | _ n ih =>
      intro x0 x1 x3 I L hJ
      have hC3 : ∀ (y0 : Nat) (y1 : Int64) (y2 : Int32) (zI : MI) (zL : ML), (∃ n1, n1 < n ∧ J n1 y0 y1 y2 zI zL) → Z X G 5 0 0 (z_T X G (qLv K N R Q) 0 0) K N zI zL R 3 [(0, .ref y0), (1, .long y1), (3, .int y2)] [] := fun y0 y1 y2 zI zL ⟨n1, hn1, hj⟩ => ih n1 hn1 y0 y1 y2 zI zL hj
      have h := hs n x0 x1 x3 I L hJ
      refine z_iload_n hC (q := 2) dX11_tagName_3 rfl rfl ?_
      refine z_if_lt hC (tgt := 36) dX11_tagName_4 (by decide) (fun hc => ?_) (fun hc => ?_)
      · have h := h.1 hc
        exact z_vret hC dX11_tagName_36 ⟨rfl, rfl, rfl, rfl, h⟩
      · have h := h.2 hc
        refine z_lload_n hC (q := 1) dX11_tagName_7 rfl rfl ?_
        refine z_iload_n hC (q := 2) dX11_tagName_8 rfl rfl ?_
        refine z_lushr hC dX11_tagName_9 ?_
        refine z_l2i hC dX11_tagName_10 ?_
        refine z_bipush hC (v := 31) k_bipush_31 dX11_tagName_11 ?_
        refine z_iand hC dX11_tagName_13 ?_
        refine z_topi (fun v1 ev1 => ?_)
        have h := h v1 ev1
        refine z_istore hC (lv1 := [(4, .int v1), (0, .ref x0), (1, .long x1), (3, .int x3)]) dX11_tagName_14 (by decide) rfl ?_
        refine z_iload hC (q := 0) dX11_tagName_16 rfl ?_
        refine z_if_le hC (tgt := 30) dX11_tagName_18 (by decide) (fun hc => ?_) (fun hc => ?_)
        · have h := h.1 hc
          obtain ⟨v2, ev2⟩ : ∃ y : Int32, y = x3 + (-5) := ⟨_, rfl⟩
          have h := h v2 ev2
          refine z_iinc hC (q := 3) (v := v2) (lv1 := [(3, .int v2), (4, .int v1), (0, .ref x0), (1, .long x1)]) dX11_tagName_30 rfl (by rw [ev2, k_iinc_m5]) (by decide) rfl ?_
          refine z_goto hC (tgt := 3) dX11_tagName_33 (by decide) ?_
          exact z_sub [(0, .ref x0), (1, .long x1), (3, .int v2)] [2, 3, 0] rfl (hC3 _ _ _ _ _ h)
        · have h := h.2 hc
          refine z_aload_n hC (q := 1) dX11_tagName_21 rfl rfl ?_
          refine z_bipush hC (v := 96) k_bipush_96 dX11_tagName_22 ?_
          refine z_iload hC (q := 0) dX11_tagName_24 rfl ?_
          refine z_iadd hC dX11_tagName_26 ?_
          obtain ⟨hk3, h⟩ := h
          refine cl_RX11_310 hC (c_X11_tagByte _ G x0 ((96 : Int32) + v1) K N I L R _ h) hk3 dX11_tagName_27 (by rw [hRm]; exact ⟨Nat.le_of_ble_eq_true rfl, Nat.le_of_ble_eq_true rfl⟩) ⟨Nat.zero_le _, Nat.zero_le _⟩ (Nat.le_of_ble_eq_true rfl) (z_kLv (I := I) (L := L) (fun I4 L5 h => ?_))
          obtain ⟨v6, ev6⟩ : ∃ y : Int32, y = x3 + (-5) := ⟨_, rfl⟩
          have h := h v6 ev6
          refine z_iinc hC (q := 3) (v := v6) (lv1 := [(3, .int v6), (4, .int v1), (0, .ref x0), (1, .long x1)]) dX11_tagName_30 rfl (by rw [ev6, k_iinc_m5]) (by decide) rfl ?_
          refine z_goto hC (tgt := 3) dX11_tagName_33 (by decide) ?_
          exact z_sub [(0, .ref x0), (1, .long x1), (3, .int v6)] [2, 3, 0] rfl (hC3 _ _ _ _ _ h)
  exact key n x0 x1 x3 I L h0
set_option maxHeartbeats 4000000 in
set_option maxRecDepth 100000 in
theorem c_X11_tagName  (l : Launch) (G : ZG) (a0 : Nat) (a1 : Int64) (K : MK) (N : MK) (I : MI) (L : ML) (R : MR) (Q : MI → ML → Prop) (h : w_X11_tagName a0 a1 K N I L R Q) : Met l yX11_tagName (.code yX11_tagName cX11_tagName 5 none :: z_tbl) rm_X11_tagName (z_Pc G [.ref a0, .long a1] K N I L R) (z_Qc G (qLv K N R Q)) 0 0 (z_A G) := by
  refine z_met (by decide) (Nat.le_of_ble_eq_true rfl) (fun X hX hRm hC0 hnm => ?_)
  subst hX
  have hC : ZOk X G RX11 cX11_tagName 5 none := hC0
  show Z X G 5 0 0 _ K N I L R 0 [(0, .ref a0), (1, .long a1)] []
  delta w_X11_tagName at h
  refine z_bipush hC (v := 30) k_bipush_30 dX11_tagName_0 ?_
  refine z_istore_n hC (lv1 := [(3, .int 30), (0, .ref a0), (1, .long a1)]) dX11_tagName_2 rfl (by decide) rfl ?_
  exact z_sub [(0, .ref a0), (1, .long a1), (3, .int 30)] [1, 2, 0] rfl (z_X11_tagName_3 hC hRm h)
def w_X11_tagText_2  (x0 : Nat) (x1 : Nat) (x2 : Int32)  (K : MK) (N : MK) (I : MI) (L : ML) (R : MR)  (Q : MI → ML → Prop) : Prop := ∃ J : Nat → Nat → Nat → Int32 → MI → ML → Prop, (∃ n, J n x0 x1 x2 I L) ∧ ∀ (n : Nat) (x0 : Nat) (x1 : Nat) (x2 : Int32) (I : MI) (L : ML), J n x0 x1 x2 I L → x1 < 6 ∧ ((nI (z_ln.getD x1 0)) ≤ x2 → Q I L) ∧ (¬ (nI (z_ln.getD x1 0)) ≤ x2 → x1 < 6 ∧ vp_in x2 (z_ln.getD x1 0) ∧ K x0 = 12 ∧ w_X11_tagByte x0 (z_ch x1 (ix x2)) K N I L R (fun I5 L6 => ∀ v7 : Int32, v7 = x2 + 1 → ∃ n1, n1 < n ∧ J n1 x0 x1 v7 I5 L6))
def w_X11_tagText  (a0 : Nat) (a1 : Nat) (K : MK) (N : MK) (I : MI) (L : ML) (R : MR) (Q : MI → ML → Prop) : Prop := w_X11_tagText_2 a0 a1 0 K N I L R Q
set_option maxHeartbeats 4000000 in
set_option maxRecDepth 100000 in
theorem z_X11_tagText_2 {X : ZX} {G : ZG}  {x0 : Nat} {x1 : Nat} {x2 : Int32}  {K : MK} {N : MK} {I : MI} {L : ML} {R : MR}  {Q : MI → ML → Prop} (hC : ZOk X G RX11 cX11_tagText 3 none) (hRm : X.2.2.2.1 = rm_X11_tagText) (h : w_X11_tagText_2 x0 x1 x2 K N I L R  Q) : Z X G 3 0 0 (z_T X G (qLv K N R Q) 0 0) K N I L R 2 [(0, .ref x0), (1, .ref (G.2.2.2.1 x1)), (2, .int x2)] [] := by
  delta w_X11_tagText_2 at h
  obtain ⟨J, ⟨n, h0⟩, hs⟩ := h
  have key : ∀ (n : Nat) (x0 : Nat) (x1 : Nat) (x2 : Int32) (I : MI) (L : ML), J n x0 x1 x2 I L → Z X G 3 0 0 (z_T X G (qLv K N R Q) 0 0) K N I L R 2 [(0, .ref x0), (1, .ref (G.2.2.2.1 x1)), (2, .int x2)] [] := by
    intro n
    induction n using Nat.strongRecOn with
    | _ n ih =>
      intro x0 x1 x2 I L hJ
      have hC2 : ∀ (y0 : Nat) (y1 : Nat) (y2 : Int32) (zI : MI) (zL : ML), (∃ n1, n1 < n ∧ J n1 y0 y1 y2 zI zL) → Z X G 3 0 0 (z_T X G (qLv K N R Q) 0 0) K N zI zL R 2 [(0, .ref y0), (1, .ref (G.2.2.2.1 y1)), (2, .int y2)] [] := fun y0 y1 y2 zI zL ⟨n1, hn1, hj⟩ => ih n1 hn1 y0 y1 y2 zI zL hj
      have h := hs n x0 x1 x2 I L hJ
      refine z_iload_n hC (q := 2) dX11_tagText_2 rfl rfl ?_
      refine z_aload_n hC (q := 1) dX11_tagText_3 rfl rfl ?_
      obtain ⟨hs1, h⟩ := h
      refine z_slen hC ml_RX11_301 hs1 dX11_tagText_4 (by rw [hRm]; exact ⟨Nat.le_of_ble_eq_true rfl, Nat.le_of_ble_eq_true rfl⟩) ⟨Nat.zero_le _, Nat.zero_le _⟩ (Nat.le_of_ble_eq_true rfl) ?_
      refine z_icmp_ge hC (tgt := 25) dX11_tagText_7 (by decide) (fun hc => ?_) (fun hc => ?_)
      · have h := h.1 hc
        exact z_vret hC dX11_tagText_25 ⟨rfl, rfl, rfl, rfl, h⟩
      · have h := h.2 hc
        refine z_aload_n hC (q := 0) dX11_tagText_10 rfl rfl ?_
        refine z_aload_n hC (q := 1) dX11_tagText_11 rfl rfl ?_
        refine z_iload_n hC (q := 2) dX11_tagText_12 rfl rfl ?_
        obtain ⟨hs2, h⟩ := h
        obtain ⟨hi3, h⟩ := h
        refine z_schar hC ml_RX11_306 hs2 hi3 dX11_tagText_13 (by rw [hRm]; exact ⟨Nat.le_of_ble_eq_true rfl, Nat.le_of_ble_eq_true rfl⟩) ⟨Nat.zero_le _, Nat.zero_le _⟩ (Nat.le_of_ble_eq_true rfl) ?_
        obtain ⟨hk4, h⟩ := h
        refine cl_RX11_310 hC (c_X11_tagByte _ G x0 (z_ch x1 (ix x2)) K N I L R _ h) hk4 dX11_tagText_16 (by rw [hRm]; exact ⟨Nat.le_of_ble_eq_true rfl, Nat.le_of_ble_eq_true rfl⟩) ⟨Nat.zero_le _, Nat.zero_le _⟩ (Nat.le_of_ble_eq_true rfl) (z_kLv (I := I) (L := L) (fun I5 L6 h => ?_))
        obtain ⟨v7, ev7⟩ : ∃ y : Int32, y = x2 + 1 := ⟨_, rfl⟩
        have h := h v7 ev7
        refine z_iinc hC (q := 2) (v := v7) (lv1 := [(2, .int v7), (0, .ref x0), (1, .ref (G.2.2.2.1 x1))]) dX11_tagText_19 rfl (by rw [ev7, k_iinc_1]) (by decide) rfl ?_
        refine z_goto hC (tgt := 2) dX11_tagText_22 (by decide) ?_
        exact z_sub [(0, .ref x0), (1, .ref (G.2.2.2.1 x1)), (2, .int v7)] [1, 2, 0] rfl (hC2 _ _ _ _ _ h)
  exact key n x0 x1 x2 I L h0
set_option maxHeartbeats 4000000 in
set_option maxRecDepth 100000 in
theorem c_X11_tagText  (l : Launch) (G : ZG) (a0 : Nat) (a1 : Nat) (K : MK) (N : MK) (I : MI) (L : ML) (R : MR) (Q : MI → ML → Prop) (h : w_X11_tagText a0 a1 K N I L R Q) : Met l yX11_tagText (.code yX11_tagText cX11_tagText 3 none :: z_tbl) rm_X11_tagText (z_Pc G [.ref a0, .ref (G.2.2.2.1 a1)] K N I L R) (z_Qc G (qLv K N R Q)) 0 0 (z_A G) := by
  refine z_met (by decide) (Nat.le_of_ble_eq_true rfl) (fun X hX hRm hC0 hnm => ?_)
  subst hX
  have hC : ZOk X G RX11 cX11_tagText 3 none := hC0
  show Z X G 3 0 0 _ K N I L R 0 [(0, .ref a0), (1, .ref (G.2.2.2.1 a1))] []
  delta w_X11_tagText at h
  refine z_iconst hC (v := 0) k_iconst_0 dX11_tagText_0 ?_
  refine z_istore_n hC (lv1 := [(2, .int 0), (0, .ref a0), (1, .ref (G.2.2.2.1 a1))]) dX11_tagText_1 rfl (by decide) rfl ?_
  exact z_sub [(0, .ref a0), (1, .ref (G.2.2.2.1 a1)), (2, .int 0)] [1, 2, 0] rfl (z_X11_tagText_2 hC hRm h)
def w_X11_tagNumber_25  (x0 : Nat) (x2 : Int32) (x3 : Int32)  (K : MK) (N : MK) (I : MI) (L : ML) (R : MR)  (Q : MI → ML → Prop) : Prop := ∃ J : Nat → Nat → Int32 → Int32 → MI → ML → Prop, (∃ n, J n x0 x2 x3 I L) ∧ ∀ (n : Nat) (x0 : Nat) (x2 : Int32) (x3 : Int32) (I : MI) (L : ML), J n x0 x2 x3 I L → (x3 < 1 → Q I L) ∧ (¬ x3 < 1 → (x3 ≤ x2 → ¬ x3 = 0 ∧ K x0 = 12 ∧ w_X11_tagByte x0 ((48 : Int32) + ((x2 / x3) - (x2 / x3) / 10 * 10)) K N I L R (fun I3 L4 => ∀ v5 : Int32, v5 = (x3 / 10) → ∃ n1, n1 < n ∧ J n1 x0 x2 v5 I3 L4)) ∧ (¬ x3 ≤ x2 → (¬ x3 = 1 → ∀ v6 : Int32, v6 = (x3 / 10) → ∃ n1, n1 < n ∧ J n1 x0 x2 v6 I L) ∧ (x3 = 1 → ¬ x3 = 0 ∧ K x0 = 12 ∧ w_X11_tagByte x0 ((48 : Int32) + ((x2 / x3) - (x2 / x3) / 10 * 10)) K N I L R (fun I9 L10 => ∀ v11 : Int32, v11 = (x3 / 10) → ∃ n1, n1 < n ∧ J n1 x0 x2 v11 I9 L10))))
def w_X11_tagNumber  (a0 : Nat) (a1 : Int32) (K : MK) (N : MK) (I : MI) (L : ML) (R : MR) (Q : MI → ML → Prop) : Prop := ((0 : Int32) ≤ a1 → ((0 : Int32) ≤ a1 → w_X11_tagNumber_25 a0 a1 10000 K N I L R Q) ∧ (¬ (0 : Int32) ≤ a1 → K a0 = 12 ∧ w_X11_tagByte a0 45 K N I L R (fun I13 L14 => w_X11_tagNumber_25 a0 a1 10000 K N I13 L14 R Q))) ∧ (¬ (0 : Int32) ≤ a1 → ∀ v15 : Int32, v15 = (-a1) → ((0 : Int32) ≤ a1 → w_X11_tagNumber_25 a0 v15 10000 K N I L R Q) ∧ (¬ (0 : Int32) ≤ a1 → K a0 = 12 ∧ w_X11_tagByte a0 45 K N I L R (fun I17 L18 => w_X11_tagNumber_25 a0 v15 10000 K N I17 L18 R Q)))
set_option maxHeartbeats 4000000 in
set_option maxRecDepth 100000 in
theorem z_X11_tagNumber_25 {X : ZX} {G : ZG}  {x0 : Nat} {x2 : Int32} {x3 : Int32}  {K : MK} {N : MK} {I : MI} {L : ML} {R : MR}  {Q : MI → ML → Prop} (hC : ZOk X G RX11 cX11_tagNumber 4 none) (hRm : X.2.2.2.1 = rm_X11_tagNumber) (h : w_X11_tagNumber_25 x0 x2 x3 K N I L R  Q) : Z X G 4 0 0 (z_T X G (qLv K N R Q) 0 0) K N I L R 25 [(0, .ref x0), (2, .int x2), (3, .int x3)] [] := by
  delta w_X11_tagNumber_25 at h
  obtain ⟨J, ⟨n, h0⟩, hs⟩ := h
  have key : ∀ (n : Nat) (x0 : Nat) (x2 : Int32) (x3 : Int32) (I : MI) (L : ML), J n x0 x2 x3 I L → Z X G 4 0 0 (z_T X G (qLv K N R Q) 0 0) K N I L R 25 [(0, .ref x0), (2, .int x2), (3, .int x3)] [] := by
    intro n
    induction n using Nat.strongRecOn with
    | _ n ih =>
      intro x0 x2 x3 I L hJ
      have hC25 : ∀ (y0 : Nat) (y1 : Int32) (y2 : Int32) (zI : MI) (zL : ML), (∃ n1, n1 < n ∧ J n1 y0 y1 y2 zI zL) → Z X G 4 0 0 (z_T X G (qLv K N R Q) 0 0) K N zI zL R 25 [(0, .ref y0), (2, .int y1), (3, .int y2)] [] := fun y0 y1 y2 zI zL ⟨n1, hn1, hj⟩ => ih n1 hn1 y0 y1 y2 zI zL hj
      have h := hs n x0 x2 x3 I L hJ
      refine z_iload_n hC (q := 2) dX11_tagNumber_25 rfl rfl ?_
      refine z_iconst hC (v := 1) k_iconst_1 dX11_tagNumber_26 ?_
      refine z_icmp_lt hC (tgt := 61) dX11_tagNumber_27 (by decide) (fun hc => ?_) (fun hc => ?_)
      · have h := h.1 hc
        exact z_vret hC dX11_tagNumber_61 ⟨rfl, rfl, rfl, rfl, h⟩
      · have h := h.2 hc
        refine z_iload_n hC (q := 1) dX11_tagNumber_30 rfl rfl ?_
        refine z_iload_n hC (q := 2) dX11_tagNumber_31 rfl rfl ?_
        refine z_icmp_ge hC (tgt := 40) dX11_tagNumber_32 (by decide) (fun hc => ?_) (fun hc => ?_)
        · have h := h.1 hc
          refine z_aload_n hC (q := 0) dX11_tagNumber_40 rfl rfl ?_
          refine z_bipush hC (v := 48) k_bipush_48 dX11_tagNumber_41 ?_
          refine z_iload_n hC (q := 1) dX11_tagNumber_43 rfl rfl ?_
          refine z_iload_n hC (q := 2) dX11_tagNumber_44 rfl rfl ?_
          obtain ⟨hz1, h⟩ := h
          refine z_idiv hC hz1 dX11_tagNumber_45 ?_
          refine z_bipush hC (v := 10) k_bipush_10 dX11_tagNumber_46 ?_
          refine z_irem hC (by decide) dX11_tagNumber_48 ?_
          refine z_iadd hC dX11_tagNumber_49 ?_
          obtain ⟨hk2, h⟩ := h
          refine cl_RX11_310 hC (c_X11_tagByte _ G x0 ((48 : Int32) + ((x2 / x3) - (x2 / x3) / 10 * 10)) K N I L R _ h) hk2 dX11_tagNumber_50 (by rw [hRm]; exact ⟨Nat.le_of_ble_eq_true rfl, Nat.le_of_ble_eq_true rfl⟩) ⟨Nat.zero_le _, Nat.zero_le _⟩ (Nat.le_of_ble_eq_true rfl) (z_kLv (I := I) (L := L) (fun I3 L4 h => ?_))
          refine z_iload_n hC (q := 2) dX11_tagNumber_53 rfl rfl ?_
          refine z_bipush hC (v := 10) k_bipush_10 dX11_tagNumber_54 ?_
          refine z_idiv hC (by decide) dX11_tagNumber_56 ?_
          refine z_topi (fun v5 ev5 => ?_)
          have h := h v5 ev5
          refine z_istore_n hC (lv1 := [(3, .int v5), (0, .ref x0), (2, .int x2)]) dX11_tagNumber_57 rfl (by decide) rfl ?_
          refine z_goto hC (tgt := 25) dX11_tagNumber_58 (by decide) ?_
          exact z_sub [(0, .ref x0), (2, .int x2), (3, .int v5)] [1, 2, 0] rfl (hC25 _ _ _ _ _ h)
        · have h := h.2 hc
          refine z_iload_n hC (q := 2) dX11_tagNumber_35 rfl rfl ?_
          refine z_iconst hC (v := 1) k_iconst_1 dX11_tagNumber_36 ?_
          refine z_icmp_ne hC (tgt := 53) dX11_tagNumber_37 (by decide) (fun hc => ?_) (fun hc => ?_)
          · have h := h.1 hc
            refine z_iload_n hC (q := 2) dX11_tagNumber_53 rfl rfl ?_
            refine z_bipush hC (v := 10) k_bipush_10 dX11_tagNumber_54 ?_
            refine z_idiv hC (by decide) dX11_tagNumber_56 ?_
            refine z_topi (fun v6 ev6 => ?_)
            have h := h v6 ev6
            refine z_istore_n hC (lv1 := [(3, .int v6), (0, .ref x0), (2, .int x2)]) dX11_tagNumber_57 rfl (by decide) rfl ?_
            refine z_goto hC (tgt := 25) dX11_tagNumber_58 (by decide) ?_
            exact z_sub [(0, .ref x0), (2, .int x2), (3, .int v6)] [1, 2, 0] rfl (hC25 _ _ _ _ _ h)
          · have h := h.2 hc
            refine z_aload_n hC (q := 0) dX11_tagNumber_40 rfl rfl ?_
            refine z_bipush hC (v := 48) k_bipush_48 dX11_tagNumber_41 ?_
            refine z_iload_n hC (q := 1) dX11_tagNumber_43 rfl rfl ?_
            refine z_iload_n hC (q := 2) dX11_tagNumber_44 rfl rfl ?_
            obtain ⟨hz7, h⟩ := h
            refine z_idiv hC hz7 dX11_tagNumber_45 ?_
            refine z_bipush hC (v := 10) k_bipush_10 dX11_tagNumber_46 ?_
            refine z_irem hC (by decide) dX11_tagNumber_48 ?_
            refine z_iadd hC dX11_tagNumber_49 ?_
            obtain ⟨hk8, h⟩ := h
            refine cl_RX11_310 hC (c_X11_tagByte _ G x0 ((48 : Int32) + ((x2 / x3) - (x2 / x3) / 10 * 10)) K N I L R _ h) hk8 dX11_tagNumber_50 (by rw [hRm]; exact ⟨Nat.le_of_ble_eq_true rfl, Nat.le_of_ble_eq_true rfl⟩) ⟨Nat.zero_le _, Nat.zero_le _⟩ (Nat.le_of_ble_eq_true rfl) (z_kLv (I := I) (L := L) (fun I9 L10 h => ?_))
            refine z_iload_n hC (q := 2) dX11_tagNumber_53 rfl rfl ?_
            refine z_bipush hC (v := 10) k_bipush_10 dX11_tagNumber_54 ?_
            refine z_idiv hC (by decide) dX11_tagNumber_56 ?_
            refine z_topi (fun v11 ev11 => ?_)
            have h := h v11 ev11
            refine z_istore_n hC (lv1 := [(3, .int v11), (0, .ref x0), (2, .int x2)]) dX11_tagNumber_57 rfl (by decide) rfl ?_
            refine z_goto hC (tgt := 25) dX11_tagNumber_58 (by decide) ?_
            exact z_sub [(0, .ref x0), (2, .int x2), (3, .int v11)] [1, 2, 0] rfl (hC25 _ _ _ _ _ h)
  exact key n x0 x2 x3 I L h0
set_option maxHeartbeats 4000000 in
set_option maxRecDepth 100000 in
theorem c_X11_tagNumber  (l : Launch) (G : ZG) (a0 : Nat) (a1 : Int32) (K : MK) (N : MK) (I : MI) (L : ML) (R : MR) (Q : MI → ML → Prop) (h : w_X11_tagNumber a0 a1 K N I L R Q) : Met l yX11_tagNumber (.code yX11_tagNumber cX11_tagNumber 4 none :: z_tbl) rm_X11_tagNumber (z_Pc G [.ref a0, .int a1] K N I L R) (z_Qc G (qLv K N R Q)) 0 0 (z_A G) := by
  refine z_met (by decide) (Nat.le_of_ble_eq_true rfl) (fun X hX hRm hC0 hnm => ?_)
  subst hX
  have hC : ZOk X G RX11 cX11_tagNumber 4 none := hC0
  show Z X G 4 0 0 _ K N I L R 0 [(0, .ref a0), (1, .int a1)] []
  delta w_X11_tagNumber at h
  refine z_iload_n hC (q := 1) dX11_tagNumber_0 rfl rfl ?_
  refine z_if_ge hC (tgt := 9) dX11_tagNumber_1 (by decide) (fun hc => ?_) (fun hc => ?_)
  · have h := h.1 hc
    refine z_iload_n hC (q := 1) dX11_tagNumber_9 rfl rfl ?_
    refine z_istore_n hC (lv1 := [(2, .int a1), (0, .ref a0), (1, .int a1)]) dX11_tagNumber_10 rfl (by decide) rfl ?_
    refine z_iload_n hC (q := 2) dX11_tagNumber_11 rfl rfl ?_
    refine z_if_ge hC (tgt := 21) dX11_tagNumber_12 (by decide) (fun hc => ?_) (fun hc => ?_)
    · have h := h.1 hc
      refine z_sipush hC (v := 10000) k_sipush_10000 dX11_tagNumber_21 ?_
      refine z_istore_n hC (lv1 := [(3, .int 10000), (2, .int a1), (0, .ref a0), (1, .int a1)]) dX11_tagNumber_24 rfl (by decide) rfl ?_
      exact z_sub [(0, .ref a0), (2, .int a1), (3, .int 10000)] [2, 1, 0] rfl (z_X11_tagNumber_25 hC hRm h)
    · have h := h.2 hc
      refine z_aload_n hC (q := 1) dX11_tagNumber_15 rfl rfl ?_
      refine z_bipush hC (v := 45) k_bipush_45 dX11_tagNumber_16 ?_
      obtain ⟨hk12, h⟩ := h
      refine cl_RX11_310 hC (c_X11_tagByte _ G a0 45 K N I L R _ h) hk12 dX11_tagNumber_18 (by rw [hRm]; exact ⟨Nat.le_of_ble_eq_true rfl, Nat.le_of_ble_eq_true rfl⟩) ⟨Nat.zero_le _, Nat.zero_le _⟩ (Nat.le_of_ble_eq_true rfl) (z_kLv (I := I) (L := L) (fun I13 L14 h => ?_))
      refine z_sipush hC (v := 10000) k_sipush_10000 dX11_tagNumber_21 ?_
      refine z_istore_n hC (lv1 := [(3, .int 10000), (2, .int a1), (0, .ref a0), (1, .int a1)]) dX11_tagNumber_24 rfl (by decide) rfl ?_
      exact z_sub [(0, .ref a0), (2, .int a1), (3, .int 10000)] [2, 1, 0] rfl (z_X11_tagNumber_25 hC hRm h)
  · have h := h.2 hc
    refine z_iload_n hC (q := 1) dX11_tagNumber_4 rfl rfl ?_
    refine z_ineg hC dX11_tagNumber_5 ?_
    refine z_goto hC (tgt := 10) dX11_tagNumber_6 (by decide) ?_
    refine z_topi (fun v15 ev15 => ?_)
    have h := h v15 ev15
    refine z_istore_n hC (lv1 := [(2, .int v15), (0, .ref a0), (1, .int a1)]) dX11_tagNumber_10 rfl (by decide) rfl ?_
    refine z_iload_n hC (q := 2) dX11_tagNumber_11 rfl rfl ?_
    refine z_if_ge hC (tgt := 21) dX11_tagNumber_12 (by decide) (fun hc => ?_) (fun hc => ?_)
    · have h := h.1 hc
      refine z_sipush hC (v := 10000) k_sipush_10000 dX11_tagNumber_21 ?_
      refine z_istore_n hC (lv1 := [(3, .int 10000), (2, .int v15), (0, .ref a0), (1, .int a1)]) dX11_tagNumber_24 rfl (by decide) rfl ?_
      exact z_sub [(0, .ref a0), (2, .int v15), (3, .int 10000)] [2, 1, 0] rfl (z_X11_tagNumber_25 hC hRm h)
    · have h := h.2 hc
      refine z_aload_n hC (q := 1) dX11_tagNumber_15 rfl rfl ?_
      refine z_bipush hC (v := 45) k_bipush_45 dX11_tagNumber_16 ?_
      obtain ⟨hk16, h⟩ := h
      refine cl_RX11_310 hC (c_X11_tagByte _ G a0 45 K N I L R _ h) hk16 dX11_tagNumber_18 (by rw [hRm]; exact ⟨Nat.le_of_ble_eq_true rfl, Nat.le_of_ble_eq_true rfl⟩) ⟨Nat.zero_le _, Nat.zero_le _⟩ (Nat.le_of_ble_eq_true rfl) (z_kLv (I := I) (L := L) (fun I17 L18 h => ?_))
      refine z_sipush hC (v := 10000) k_sipush_10000 dX11_tagNumber_21 ?_
      refine z_istore_n hC (lv1 := [(3, .int 10000), (2, .int v15), (0, .ref a0), (1, .int a1)]) dX11_tagNumber_24 rfl (by decide) rfl ?_
      exact z_sub [(0, .ref a0), (2, .int v15), (3, .int 10000)] [2, 1, 0] rfl (z_X11_tagNumber_25 hC hRm h)
def w_X11_tag_92  (x0 : Nat) (x1 : Int32)  (K : MK) (N : MK) (I : MI) (L : ML) (R : MR)  (Q : Int32 → MI → ML → Prop) : Prop := K x0 = 12 ∧ w_X11_tagText x0 3 K N I L R (fun I22 L23 => ∃ b24 : Nat, R x0 1 = some b24 ∧ K b24 = 10 ∧ ∃ b26 : Nat, R b24 2 = some b26 ∧ ∃ b27 : Nat, R b24 4 = some b27 ∧ K b27 = 8 ∧ w_X7_at b27 x1 0 K N I22 L23 R (fun r29 => K b26 = 8 ∧ w_X7_nameOf b26 r29 K N I22 L23 R (fun r31 => w_X11_tagName x0 r31 K N I22 L23 R (fun I32 L33 => ∃ b34 : Nat, R x0 18 = some b34 ∧ K b34 = 8 ∧ Q (I32 b34 3) I32 L33))))
def w_X11_tag  (a0 : Nat) (a1 : Int32) (K : MK) (N : MK) (I : MI) (L : ML) (R : MR) (Q : Int32 → MI → ML → Prop) : Prop := K a0 = 12 ∧ ∃ b2 : Nat, R a0 1 = some b2 ∧ K b2 = 10 ∧ ∃ b4 : Nat, R b2 4 = some b4 ∧ K b4 = 8 ∧ w_X7_has b4 a1 K N I L R (fun r6 => (r6 = true → ∃ b7 : Nat, R a0 18 = some b7 ∧ K b7 = 8 ∧ w_X7_forget b7 K N I L R (fun I9 => w_X7_nameOf b4 a1 K N I9 L R (fun r10 => w_X11_tagName a0 r10 K N I9 L R (fun I11 L12 => ∃ b13 : Nat, R a0 6 = some b13 ∧ ∃ b14 : Nat, R a0 2 = some b14 ∧ K b14 = 4 ∧ K b13 = 3 ∧ w_X2_look b13 b2 b14 a1 (I11 b14 4) K N I11 L12 R (fun r17 I18 => (¬ r17 = 0 → w_X11_tagText a0 2 K N I18 L12 R (fun I19 L20 => w_X11_tag_92 a0 a1 K N I19 L20 R Q)) ∧ (r17 = 0 → w_X11_tagText a0 1 K N I18 L12 R (fun I36 L37 => w_X11_tagNumber a0 (I36 b13 2) K N I36 L37 R (fun I38 L39 => w_X11_tag_92 a0 a1 K N I38 L39 R Q)))))))) ∧ (r6 = false → Q (-1) I L))
set_option maxHeartbeats 4000000 in
set_option maxRecDepth 100000 in
theorem z_X11_tag_92 {X : ZX} {G : ZG}  {x0 : Nat} {x1 : Int32}  {K : MK} {N : MK} {I : MI} {L : ML} {R : MR}  {Q : Int32 → MI → ML → Prop} (hC : ZOk X G RX11 cX11_tag 2 (some .int)) (hRm : X.2.2.2.1 = rm_X11_tag) (h : w_X11_tag_92 x0 x1 K N I L R  Q) : Z X G 2 0 0 (z_T X G (qLi K N R Q) 0 0) K N I L R 92 [(0, .ref x0), (1, .int x1)] [] := by
  delta w_X11_tag_92 at h
  refine z_aload_n hC (q := 0) dX11_tag_92 rfl rfl ?_
  refine z_ldcS3 hC dX11_tag_93 ?_
  obtain ⟨hk21, h⟩ := h
  refine cl_RX11_291 hC (c_X11_tagText _ G x0 3 K N I L R _ h) hk21 dX11_tag_96 (by rw [hRm]; exact ⟨Nat.le_of_ble_eq_true rfl, Nat.le_of_ble_eq_true rfl⟩) ⟨Nat.zero_le _, Nat.zero_le _⟩ (Nat.le_of_ble_eq_true rfl) (z_kLv (I := I) (L := L) (fun I22 L23 h => ?_))
  refine z_aload_n hC (q := 0) dX11_tag_99 rfl rfl ?_
  refine z_aload_n hC (q := 0) dX11_tag_100 rfl rfl ?_
  obtain ⟨b24, hb24, h⟩ := h
  refine gf_RX11_19 hC dX11_tag_101 hk21 hb24 ?_
  obtain ⟨hk25, h⟩ := h
  obtain ⟨b26, hb26, h⟩ := h
  refine gf_RX11_165 hC dX11_tag_104 hk25 hb26 ?_
  refine z_aload_n hC (q := 0) dX11_tag_107 rfl rfl ?_
  refine gf_RX11_19 hC dX11_tag_108 hk21 hb24 ?_
  obtain ⟨b27, hb27, h⟩ := h
  refine gf_RX11_174 hC dX11_tag_111 hk25 hb27 ?_
  refine z_iload_n hC (q := 1) dX11_tag_114 rfl rfl ?_
  refine z_iconst hC (v := 0) k_iconst_0 dX11_tag_115 ?_
  obtain ⟨hk28, h⟩ := h
  refine cl_RX11_157 hC (c_X7_at _ G b27 x1 0 K N I22 L23 R _ h) hk28 dX11_tag_116 (by rw [hRm]; exact ⟨Nat.le_of_ble_eq_true rfl, Nat.le_of_ble_eq_true rfl⟩) ⟨Nat.zero_le _, Nat.zero_le _⟩ (Nat.le_of_ble_eq_true rfl) (z_kPi (fun r29 h => ?_))
  obtain ⟨hk30, h⟩ := h
  refine cl_RX11_281 hC (c_X7_nameOf _ G b26 r29 K N I22 L23 R _ h) hk30 dX11_tag_119 (by rw [hRm]; exact ⟨Nat.le_of_ble_eq_true rfl, Nat.le_of_ble_eq_true rfl⟩) ⟨Nat.zero_le _, Nat.zero_le _⟩ (Nat.le_of_ble_eq_true rfl) (z_kPl (fun r31 h => ?_))
  refine cl_RX11_285 hC (c_X11_tagName _ G x0 r31 K N I22 L23 R _ h) hk21 dX11_tag_122 (by rw [hRm]; exact ⟨Nat.le_of_ble_eq_true rfl, Nat.le_of_ble_eq_true rfl⟩) ⟨Nat.zero_le _, Nat.zero_le _⟩ (Nat.le_of_ble_eq_true rfl) (z_kLv (I := I22) (L := L23) (fun I32 L33 h => ?_))
  refine z_aload_n hC (q := 0) dX11_tag_125 rfl rfl ?_
  obtain ⟨b34, hb34, h⟩ := h
  refine gf_RX11_114 hC dX11_tag_126 hk21 hb34 ?_
  obtain ⟨hk35, h⟩ := h
  refine gf_RX11_189 hC dX11_tag_129 hk35 ?_
  exact z_iret hC dX11_tag_132 ⟨_, rfl, rfl, rfl, rfl, h⟩
set_option maxHeartbeats 4000000 in
set_option maxRecDepth 100000 in
theorem c_X11_tag  (l : Launch) (G : ZG) (a0 : Nat) (a1 : Int32) (K : MK) (N : MK) (I : MI) (L : ML) (R : MR) (Q : Int32 → MI → ML → Prop) (h : w_X11_tag a0 a1 K N I L R Q) : Met l yX11_tag (.code yX11_tag cX11_tag 2 (some .int) :: z_tbl) rm_X11_tag (z_Pc G [.ref a0, .int a1] K N I L R) (z_Qc G (qLi K N R Q)) 0 0 (z_A G) := by
  refine z_met (by decide) (Nat.le_of_ble_eq_true rfl) (fun X hX hRm hC0 hnm => ?_)
  subst hX
  have hC : ZOk X G RX11 cX11_tag 2 (some .int) := hC0
  show Z X G 2 0 0 _ K N I L R 0 [(0, .ref a0), (1, .int a1)] []
  delta w_X11_tag at h
  refine z_aload_n hC (q := 0) dX11_tag_0 rfl rfl ?_
  obtain ⟨hk1, h⟩ := h
  obtain ⟨b2, hb2, h⟩ := h
  refine gf_RX11_19 hC dX11_tag_1 hk1 hb2 ?_
  obtain ⟨hk3, h⟩ := h
  obtain ⟨b4, hb4, h⟩ := h
  refine gf_RX11_174 hC dX11_tag_4 hk3 hb4 ?_
  refine z_iload_n hC (q := 1) dX11_tag_7 rfl rfl ?_
  obtain ⟨hk5, h⟩ := h
  refine cl_RX11_153 hC (c_X7_has _ G b4 a1 K N I L R _ h) hk5 dX11_tag_8 (by rw [hRm]; exact ⟨Nat.le_of_ble_eq_true rfl, Nat.le_of_ble_eq_true rfl⟩) ⟨Nat.zero_le _, Nat.zero_le _⟩ (Nat.le_of_ble_eq_true rfl) (z_kPz (fun r6 h => ?_))
  refine z_ifz_ne hC (tgt := 16) dX11_tag_11 (by decide) (fun hc => ?_) (fun hc => ?_)
  · have h := h.1 hc
    refine z_aload_n hC (q := 0) dX11_tag_16 rfl rfl ?_
    obtain ⟨b7, hb7, h⟩ := h
    refine gf_RX11_114 hC dX11_tag_17 hk1 hb7 ?_
    obtain ⟨hk8, h⟩ := h
    refine cl_RX11_195 hC (c_X7_forget _ G b7 K N I L R _ h) hk8 dX11_tag_20 (by rw [hRm]; exact ⟨Nat.le_of_ble_eq_true rfl, Nat.le_of_ble_eq_true rfl⟩) ⟨Nat.zero_le _, Nat.zero_le _⟩ (Nat.le_of_ble_eq_true rfl) (z_kIv (I := I) (fun I9 h => ?_))
    refine z_aload_n hC (q := 0) dX11_tag_23 rfl rfl ?_
    refine z_aload_n hC (q := 0) dX11_tag_24 rfl rfl ?_
    refine gf_RX11_19 hC dX11_tag_25 hk1 hb2 ?_
    refine gf_RX11_174 hC dX11_tag_28 hk3 hb4 ?_
    refine z_iload_n hC (q := 1) dX11_tag_31 rfl rfl ?_
    refine cl_RX11_281 hC (c_X7_nameOf _ G b4 a1 K N I9 L R _ h) hk5 dX11_tag_32 (by rw [hRm]; exact ⟨Nat.le_of_ble_eq_true rfl, Nat.le_of_ble_eq_true rfl⟩) ⟨Nat.zero_le _, Nat.zero_le _⟩ (Nat.le_of_ble_eq_true rfl) (z_kPl (fun r10 h => ?_))
    refine cl_RX11_285 hC (c_X11_tagName _ G a0 r10 K N I9 L R _ h) hk1 dX11_tag_35 (by rw [hRm]; exact ⟨Nat.le_of_ble_eq_true rfl, Nat.le_of_ble_eq_true rfl⟩) ⟨Nat.zero_le _, Nat.zero_le _⟩ (Nat.le_of_ble_eq_true rfl) (z_kLv (I := I9) (L := L) (fun I11 L12 h => ?_))
    refine z_aload_n hC (q := 0) dX11_tag_38 rfl rfl ?_
    obtain ⟨b13, hb13, h⟩ := h
    refine gf_RX11_44 hC dX11_tag_39 hk1 hb13 ?_
    refine z_aload_n hC (q := 0) dX11_tag_42 rfl rfl ?_
    refine gf_RX11_19 hC dX11_tag_43 hk1 hb2 ?_
    refine z_aload_n hC (q := 0) dX11_tag_46 rfl rfl ?_
    obtain ⟨b14, hb14, h⟩ := h
    refine gf_RX11_26 hC dX11_tag_47 hk1 hb14 ?_
    refine z_iload_n hC (q := 1) dX11_tag_50 rfl rfl ?_
    refine z_aload_n hC (q := 0) dX11_tag_51 rfl rfl ?_
    refine gf_RX11_26 hC dX11_tag_52 hk1 hb14 ?_
    obtain ⟨hk15, h⟩ := h
    refine gf_RX11_218 hC dX11_tag_55 hk15 ?_
    obtain ⟨hk16, h⟩ := h
    refine cl_RX11_204 hC (c_X2_look _ G b13 b2 b14 a1 (I11 b14 4) K N I11 L12 R _ h) hk16 dX11_tag_58 (by rw [hRm]; exact ⟨Nat.le_of_ble_eq_true rfl, Nat.le_of_ble_eq_true rfl⟩) ⟨Nat.zero_le _, Nat.zero_le _⟩ (Nat.le_of_ble_eq_true rfl) (z_kIi (I := I11) (fun r17 I18 h => ?_))
    refine z_if_ne hC (tgt := 85) dX11_tag_61 (by decide) (fun hc => ?_) (fun hc => ?_)
    · have h := h.1 hc
      refine z_aload_n hC (q := 0) dX11_tag_85 rfl rfl ?_
      refine z_ldcS2 hC dX11_tag_86 ?_
      refine cl_RX11_291 hC (c_X11_tagText _ G a0 2 K N I18 L12 R _ h) hk1 dX11_tag_89 (by rw [hRm]; exact ⟨Nat.le_of_ble_eq_true rfl, Nat.le_of_ble_eq_true rfl⟩) ⟨Nat.zero_le _, Nat.zero_le _⟩ (Nat.le_of_ble_eq_true rfl) (z_kLv (I := I18) (L := L12) (fun I19 L20 h => ?_))
      exact z_sub [(0, .ref a0), (1, .int a1)] [0, 1] rfl (z_X11_tag_92 hC hRm h)
    · have h := h.2 hc
      refine z_aload_n hC (q := 0) dX11_tag_64 rfl rfl ?_
      refine z_ldcS1 hC dX11_tag_65 ?_
      refine cl_RX11_291 hC (c_X11_tagText _ G a0 1 K N I18 L12 R _ h) hk1 dX11_tag_68 (by rw [hRm]; exact ⟨Nat.le_of_ble_eq_true rfl, Nat.le_of_ble_eq_true rfl⟩) ⟨Nat.zero_le _, Nat.zero_le _⟩ (Nat.le_of_ble_eq_true rfl) (z_kLv (I := I18) (L := L12) (fun I36 L37 h => ?_))
      refine z_aload_n hC (q := 0) dX11_tag_71 rfl rfl ?_
      refine z_aload_n hC (q := 0) dX11_tag_72 rfl rfl ?_
      refine gf_RX11_44 hC dX11_tag_73 hk1 hb13 ?_
      refine gf_RX11_215 hC dX11_tag_76 hk16 ?_
      refine cl_RX11_294 hC (c_X11_tagNumber _ G a0 (I36 b13 2) K N I36 L37 R _ h) hk1 dX11_tag_79 (by rw [hRm]; exact ⟨Nat.le_of_ble_eq_true rfl, Nat.le_of_ble_eq_true rfl⟩) ⟨Nat.zero_le _, Nat.zero_le _⟩ (Nat.le_of_ble_eq_true rfl) (z_kLv (I := I36) (L := L37) (fun I38 L39 h => ?_))
      refine z_goto hC (tgt := 92) dX11_tag_82 (by decide) ?_
      exact z_sub [(0, .ref a0), (1, .int a1)] [0, 1] rfl (z_X11_tag_92 hC hRm h)
  · have h := h.2 hc
    refine z_iconst hC (v := (-1)) k_iconst_m1 dX11_tag_14 ?_
    exact z_iret hC dX11_tag_15 ⟨_, rfl, rfl, rfl, rfl, h⟩
def w_X11_byteAt  (a0 : Nat) (a1 : Int32) (K : MK) (N : MK) (I : MI) (L : ML) (R : MR) (Q : Int32 → Prop) : Prop := K a0 = 12 ∧ ∃ b2 : Nat, R a0 18 = some b2 ∧ K b2 = 8 ∧ w_X7_at b2 a1 0 K N I L R (fun r4 => Q r4)
set_option maxHeartbeats 4000000 in
set_option maxRecDepth 100000 in
theorem c_X11_byteAt  (l : Launch) (G : ZG) (a0 : Nat) (a1 : Int32) (K : MK) (N : MK) (I : MI) (L : ML) (R : MR) (Q : Int32 → Prop) (h : w_X11_byteAt a0 a1 K N I L R Q) : Met l yX11_byteAt (.code yX11_byteAt cX11_byteAt 2 (some .int) :: z_tbl) rm_X11_byteAt (z_Pc G [.ref a0, .int a1] K N I L R) (z_Qc G (qPi K N I L R Q)) 0 0 (z_A G) := by
  refine z_met (by decide) (Nat.le_of_ble_eq_true rfl) (fun X hX hRm hC0 hnm => ?_)
  subst hX
  have hC : ZOk X G RX11 cX11_byteAt 2 (some .int) := hC0
  show Z X G 2 0 0 _ K N I L R 0 [(0, .ref a0), (1, .int a1)] []
  delta w_X11_byteAt at h
  refine z_aload_n hC (q := 0) dX11_byteAt_0 rfl rfl ?_
  obtain ⟨hk1, h⟩ := h
  obtain ⟨b2, hb2, h⟩ := h
  refine gf_RX11_114 hC dX11_byteAt_1 hk1 hb2 ?_
  refine z_iload_n hC (q := 1) dX11_byteAt_4 rfl rfl ?_
  refine z_iconst hC (v := 0) k_iconst_0 dX11_byteAt_5 ?_
  obtain ⟨hk3, h⟩ := h
  refine cl_RX11_157 hC (c_X7_at _ G b2 a1 0 K N I L R _ h) hk3 dX11_byteAt_6 (by rw [hRm]; exact ⟨Nat.le_of_ble_eq_true rfl, Nat.le_of_ble_eq_true rfl⟩) ⟨Nat.zero_le _, Nat.zero_le _⟩ (Nat.le_of_ble_eq_true rfl) (z_kPi (fun r4 h => ?_))
  exact z_iret hC dX11_byteAt_9 ⟨_, rfl, rfl, rfl, rfl, rfl, rfl, h⟩
def w_X11_drawn  (a0 : Nat) (a1 : Int32) (a2 : Int32) (K : MK) (N : MK) (I : MI) (L : ML) (R : MR) (Q : Int32 → MI → ML → MR → Prop) : Prop := w_X11_isIn a1 1 60 K N I L R (fun r1 => (r1 = true → K a0 = 12 ∧ ∃ b3 : Nat, R a0 3 = some b3 ∧ ∃ b4 : Nat, R a0 2 = some b4 ∧ K b3 = 4 ∧ w_X3_copyFrom b3 b4 K N I L R (fun I6 => ∃ b7 : Nat, R a0 7 = some b7 ∧ ∃ b8 : Nat, R a0 1 = some b8 ∧ K b7 = 2 ∧ w_X1_doDeeds b7 b8 b4 a1 a2 K N I6 L R (fun r10 I11 => (r10 ≤ 0 → Q r10 I11 L R) ∧ (¬ r10 ≤ 0 → w_X11_remember a0 b3 K N I11 L R (fun I12 L13 R14 => Q r10 I12 L13 R14))))) ∧ (r1 = false → Q (-1) I L R))
set_option maxHeartbeats 4000000 in
set_option maxRecDepth 100000 in
theorem c_X11_drawn  (l : Launch) (G : ZG) (a0 : Nat) (a1 : Int32) (a2 : Int32) (K : MK) (N : MK) (I : MI) (L : ML) (R : MR) (Q : Int32 → MI → ML → MR → Prop) (h : w_X11_drawn a0 a1 a2 K N I L R Q) : Met l yX11_drawn (.code yX11_drawn cX11_drawn 4 (some .int) :: z_tbl) rm_X11_drawn (z_Pc G [.ref a0, .int a1, .int a2] K N I L R) (z_Qc G (qRi K N Q)) 0 0 (z_A G) := by
  refine z_met (by decide) (Nat.le_of_ble_eq_true rfl) (fun X hX hRm hC0 hnm => ?_)
  subst hX
  have hC : ZOk X G RX11 cX11_drawn 4 (some .int) := hC0
  show Z X G 4 0 0 _ K N I L R 0 [(0, .ref a0), (1, .int a1), (2, .int a2)] []
  delta w_X11_drawn at h
  refine z_iload_n hC (q := 1) dX11_drawn_0 rfl rfl ?_
  refine z_iconst hC (v := 1) k_iconst_1 dX11_drawn_1 ?_
  refine z_bipush hC (v := 60) k_bipush_60 dX11_drawn_2 ?_
  refine cl_RX11_237 hC (c_X11_isIn _ G a1 1 60 K N I L R _ h) dX11_drawn_4 (by rw [hRm]; exact ⟨Nat.le_of_ble_eq_true rfl, Nat.le_of_ble_eq_true rfl⟩) ⟨Nat.zero_le _, Nat.zero_le _⟩ (Nat.le_of_ble_eq_true rfl) (z_kPz (fun r1 h => ?_))
  refine z_ifz_ne hC (tgt := 12) dX11_drawn_7 (by decide) (fun hc => ?_) (fun hc => ?_)
  · have h := h.1 hc
    refine z_aload_n hC (q := 0) dX11_drawn_12 rfl rfl ?_
    obtain ⟨hk2, h⟩ := h
    obtain ⟨b3, hb3, h⟩ := h
    refine gf_RX11_30 hC dX11_drawn_13 hk2 hb3 ?_
    refine z_aload_n hC (q := 0) dX11_drawn_16 rfl rfl ?_
    obtain ⟨b4, hb4, h⟩ := h
    refine gf_RX11_26 hC dX11_drawn_17 hk2 hb4 ?_
    obtain ⟨hk5, h⟩ := h
    refine cl_RX11_246 hC (c_X3_copyFrom _ G b3 b4 K N I L R _ h) hk5 dX11_drawn_20 (by rw [hRm]; exact ⟨Nat.le_of_ble_eq_true rfl, Nat.le_of_ble_eq_true rfl⟩) ⟨Nat.zero_le _, Nat.zero_le _⟩ (Nat.le_of_ble_eq_true rfl) (z_kIv (I := I) (fun I6 h => ?_))
    refine z_aload_n hC (q := 0) dX11_drawn_23 rfl rfl ?_
    obtain ⟨b7, hb7, h⟩ := h
    refine gf_RX11_51 hC dX11_drawn_24 hk2 hb7 ?_
    refine z_aload_n hC (q := 0) dX11_drawn_27 rfl rfl ?_
    obtain ⟨b8, hb8, h⟩ := h
    refine gf_RX11_19 hC dX11_drawn_28 hk2 hb8 ?_
    refine z_aload_n hC (q := 0) dX11_drawn_31 rfl rfl ?_
    refine gf_RX11_26 hC dX11_drawn_32 hk2 hb4 ?_
    refine z_iload_n hC (q := 1) dX11_drawn_35 rfl rfl ?_
    refine z_iload_n hC (q := 2) dX11_drawn_36 rfl rfl ?_
    obtain ⟨hk9, h⟩ := h
    refine cl_RX11_313 hC (c_X1_doDeeds _ G b7 b8 b4 a1 a2 K N I6 L R _ h) hk9 dX11_drawn_37 (by rw [hRm]; exact ⟨Nat.le_of_ble_eq_true rfl, Nat.le_of_ble_eq_true rfl⟩) ⟨Nat.zero_le _, Nat.zero_le _⟩ (Nat.le_of_ble_eq_true rfl) (z_kIi (I := I6) (fun r10 I11 h => ?_))
    refine z_istore_n hC (lv1 := [(3, .int r10), (0, .ref a0), (1, .int a1), (2, .int a2)]) dX11_drawn_40 rfl (by decide) rfl ?_
    refine z_iload_n hC (q := 0) dX11_drawn_41 rfl rfl ?_
    refine z_if_le hC (tgt := 53) dX11_drawn_42 (by decide) (fun hc => ?_) (fun hc => ?_)
    · have h := h.1 hc
      refine z_iload_n hC (q := 0) dX11_drawn_53 rfl rfl ?_
      exact z_iret hC dX11_drawn_54 ⟨_, rfl, rfl, rfl, h⟩
    · have h := h.2 hc
      refine z_aload_n hC (q := 1) dX11_drawn_45 rfl rfl ?_
      refine z_aload_n hC (q := 1) dX11_drawn_46 rfl rfl ?_
      refine gf_RX11_30 hC dX11_drawn_47 hk2 hb3 ?_
      refine cl_RX11_253 hC (c_X11_remember _ G a0 b3 K N I11 L R _ h) hk2 dX11_drawn_50 (by rw [hRm]; exact ⟨Nat.le_of_ble_eq_true rfl, Nat.le_of_ble_eq_true rfl⟩) ⟨Nat.zero_le _, Nat.zero_le _⟩ (Nat.le_of_ble_eq_true rfl) (z_kRv (I := I11) (L := L) (R := R) (fun I12 L13 R14 h => ?_))
      refine z_iload_n hC (q := 0) dX11_drawn_53 rfl rfl ?_
      exact z_iret hC dX11_drawn_54 ⟨_, rfl, rfl, rfl, h⟩
  · have h := h.2 hc
    refine z_iconst hC (v := (-1)) k_iconst_m1 dX11_drawn_10 ?_
    exact z_iret hC dX11_drawn_11 ⟨_, rfl, rfl, rfl, h⟩
def w_X11_odds_32  (x0 : Nat) (x1 : Int32) (x2 : Int32) (x3 : Int32) (x4 : Int32) (x5 : Int32)  (K : MK) (N : MK) (I : MI) (L : ML) (R : MR)  (Q : Int32 → MI → Prop) : Prop := ∃ J : Nat → Nat → Int32 → Int32 → Int32 → Int32 → Int32 → MI → Prop, (∃ n, J n x0 x1 x2 x3 x4 x5 I) ∧ ∀ (n : Nat) (x0 : Nat) (x1 : Int32) (x2 : Int32) (x3 : Int32) (x4 : Int32) (x5 : Int32) (I : MI), J n x0 x1 x2 x3 x4 x5 I → (x2 ≤ x5 → Q x4 I) ∧ (¬ x2 ≤ x5 → K x0 = 12 ∧ ∃ b9 : Nat, R x0 3 = some b9 ∧ ∃ b10 : Nat, R x0 2 = some b10 ∧ K b9 = 4 ∧ w_X3_copyFrom b9 b10 K N I L R (fun I12 => ∃ b13 : Nat, R x0 7 = some b13 ∧ ∃ b14 : Nat, R x0 1 = some b14 ∧ K b13 = 2 ∧ w_X1_doDeeds b13 b14 b9 10 (x3 + x5) K N I12 L R (fun r16 I17 => ∃ b18 : Nat, R x0 6 = some b18 ∧ K b18 = 3 ∧ w_X2_look b18 b14 b9 x1 (I17 b9 4) K N I17 L R (fun r20 I21 => (¬ r20 = 0 → ∀ v22 : Int32, v22 = x5 + 1 → ∃ n1, n1 < n ∧ J n1 x0 x1 x2 x3 x4 v22 I21) ∧ (r20 = 0 → ∀ v23 : Int32, v23 = x4 + 1 → ∀ v24 : Int32, v24 = x5 + 1 → ∃ n1, n1 < n ∧ J n1 x0 x1 x2 x3 v23 v24 I21)))))
def w_X11_odds  (a0 : Nat) (a1 : Int32) (a2 : Int32) (a3 : Int32) (K : MK) (N : MK) (I : MI) (L : ML) (R : MR) (Q : Int32 → MI → Prop) : Prop := K a0 = 12 ∧ ∃ b2 : Nat, R a0 1 = some b2 ∧ K b2 = 10 ∧ ∃ b4 : Nat, R b2 4 = some b4 ∧ K b4 = 8 ∧ w_X7_has b4 a1 K N I L R (fun r6 => (r6 = false → Q (-1) I) ∧ (r6 = true → w_X11_isIn a2 1 30 K N I L R (fun r7 => (r7 = true → w_X11_odds_32 a0 a1 a2 a3 0 0 K N I L R Q) ∧ (r7 = false → Q (-1) I))))
set_option maxHeartbeats 4000000 in
set_option maxRecDepth 100000 in
theorem z_X11_odds_32 {X : ZX} {G : ZG}  {x0 : Nat} {x1 : Int32} {x2 : Int32} {x3 : Int32} {x4 : Int32} {x5 : Int32}  {K : MK} {N : MK} {I : MI} {L : ML} {R : MR}  {Q : Int32 → MI → Prop} (hC : ZOk X G RX11 cX11_odds 6 (some .int)) (hRm : X.2.2.2.1 = rm_X11_odds) (h : w_X11_odds_32 x0 x1 x2 x3 x4 x5 K N I L R  Q) : Z X G 6 0 0 (z_T X G (qIi K N L R Q) 0 0) K N I L R 32 [(0, .ref x0), (1, .int x1), (2, .int x2), (3, .int x3), (4, .int x4), (5, .int x5)] [] := by
  delta w_X11_odds_32 at h
  obtain ⟨J, ⟨n, h0⟩, hs⟩ := h
  have key : ∀ (n : Nat) (x0 : Nat) (x1 : Int32) (x2 : Int32) (x3 : Int32) (x4 : Int32) (x5 : Int32) (I : MI), J n x0 x1 x2 x3 x4 x5 I → Z X G 6 0 0 (z_T X G (qIi K N L R Q) 0 0) K N I L R 32 [(0, .ref x0), (1, .int x1), (2, .int x2), (3, .int x3), (4, .int x4), (5, .int x5)] [] := by
    intro n
    induction n using Nat.strongRecOn with
    | _ n ih =>
      intro x0 x1 x2 x3 x4 x5 I hJ
      have hC32 : ∀ (y0 : Nat) (y1 : Int32) (y2 : Int32) (y3 : Int32) (y4 : Int32) (y5 : Int32) (zI : MI), (∃ n1, n1 < n ∧ J n1 y0 y1 y2 y3 y4 y5 zI) → Z X G 6 0 0 (z_T X G (qIi K N L R Q) 0 0) K N zI L R 32 [(0, .ref y0), (1, .int y1), (2, .int y2), (3, .int y3), (4, .int y4), (5, .int y5)] [] := fun y0 y1 y2 y3 y4 y5 zI ⟨n1, hn1, hj⟩ => ih n1 hn1 y0 y1 y2 y3 y4 y5 zI hj
      have h := hs n x0 x1 x2 x3 x4 x5 I hJ
      refine z_iload hC (q := 5) dX11_odds_32 rfl ?_
      refine z_iload_n hC (q := 2) dX11_odds_34 rfl rfl ?_
      refine z_icmp_ge hC (tgt := 106) dX11_odds_35 (by decide) (fun hc => ?_) (fun hc => ?_)
      · have h := h.1 hc
        refine z_iload hC (q := 4) dX11_odds_106 rfl ?_
        exact z_iret hC dX11_odds_108 ⟨_, rfl, rfl, rfl, rfl, rfl, h⟩
      · have h := h.2 hc
        refine z_aload_n hC (q := 0) dX11_odds_38 rfl rfl ?_
        obtain ⟨hk8, h⟩ := h
        obtain ⟨b9, hb9, h⟩ := h
        refine gf_RX11_30 hC dX11_odds_39 hk8 hb9 ?_
        refine z_aload_n hC (q := 0) dX11_odds_42 rfl rfl ?_
        obtain ⟨b10, hb10, h⟩ := h
        refine gf_RX11_26 hC dX11_odds_43 hk8 hb10 ?_
        obtain ⟨hk11, h⟩ := h
        refine cl_RX11_246 hC (c_X3_copyFrom _ G b9 b10 K N I L R _ h) hk11 dX11_odds_46 (by rw [hRm]; exact ⟨Nat.le_of_ble_eq_true rfl, Nat.le_of_ble_eq_true rfl⟩) ⟨Nat.zero_le _, Nat.zero_le _⟩ (Nat.le_of_ble_eq_true rfl) (z_kIv (I := I) (fun I12 h => ?_))
        refine z_aload_n hC (q := 0) dX11_odds_49 rfl rfl ?_
        obtain ⟨b13, hb13, h⟩ := h
        refine gf_RX11_51 hC dX11_odds_50 hk8 hb13 ?_
        refine z_aload_n hC (q := 0) dX11_odds_53 rfl rfl ?_
        obtain ⟨b14, hb14, h⟩ := h
        refine gf_RX11_19 hC dX11_odds_54 hk8 hb14 ?_
        refine z_aload_n hC (q := 0) dX11_odds_57 rfl rfl ?_
        refine gf_RX11_30 hC dX11_odds_58 hk8 hb9 ?_
        refine z_bipush hC (v := 10) k_bipush_10 dX11_odds_61 ?_
        refine z_iload_n hC (q := 3) dX11_odds_63 rfl rfl ?_
        refine z_iload hC (q := 5) dX11_odds_64 rfl ?_
        refine z_iadd hC dX11_odds_66 ?_
        obtain ⟨hk15, h⟩ := h
        refine cl_RX11_313 hC (c_X1_doDeeds _ G b13 b14 b9 10 (x3 + x5) K N I12 L R _ h) hk15 dX11_odds_67 (by rw [hRm]; exact ⟨Nat.le_of_ble_eq_true rfl, Nat.le_of_ble_eq_true rfl⟩) ⟨Nat.zero_le _, Nat.zero_le _⟩ (Nat.le_of_ble_eq_true rfl) (z_kIi (I := I12) (fun r16 I17 h => ?_))
        refine z_pop hC rfl dX11_odds_70 ?_
        refine z_aload_n hC (q := 0) dX11_odds_71 rfl rfl ?_
        obtain ⟨b18, hb18, h⟩ := h
        refine gf_RX11_44 hC dX11_odds_72 hk8 hb18 ?_
        refine z_aload_n hC (q := 0) dX11_odds_75 rfl rfl ?_
        refine gf_RX11_19 hC dX11_odds_76 hk8 hb14 ?_
        refine z_aload_n hC (q := 0) dX11_odds_79 rfl rfl ?_
        refine gf_RX11_30 hC dX11_odds_80 hk8 hb9 ?_
        refine z_iload_n hC (q := 1) dX11_odds_83 rfl rfl ?_
        refine z_aload_n hC (q := 0) dX11_odds_84 rfl rfl ?_
        refine gf_RX11_30 hC dX11_odds_85 hk8 hb9 ?_
        refine gf_RX11_218 hC dX11_odds_88 hk11 ?_
        obtain ⟨hk19, h⟩ := h
        refine cl_RX11_204 hC (c_X2_look _ G b18 b14 b9 x1 (I17 b9 4) K N I17 L R _ h) hk19 dX11_odds_91 (by rw [hRm]; exact ⟨Nat.le_of_ble_eq_true rfl, Nat.le_of_ble_eq_true rfl⟩) ⟨Nat.zero_le _, Nat.zero_le _⟩ (Nat.le_of_ble_eq_true rfl) (z_kIi (I := I17) (fun r20 I21 h => ?_))
        refine z_if_ne hC (tgt := 100) dX11_odds_94 (by decide) (fun hc => ?_) (fun hc => ?_)
        · have h := h.1 hc
          obtain ⟨v22, ev22⟩ : ∃ y : Int32, y = x5 + 1 := ⟨_, rfl⟩
          have h := h v22 ev22
          refine z_iinc hC (q := 5) (v := v22) (lv1 := [(5, .int v22), (0, .ref x0), (1, .int x1), (2, .int x2), (3, .int x3), (4, .int x4)]) dX11_odds_100 rfl (by rw [ev22, k_iinc_1]) (by decide) rfl ?_
          refine z_goto hC (tgt := 32) dX11_odds_103 (by decide) ?_
          exact z_sub [(0, .ref x0), (1, .int x1), (2, .int x2), (3, .int x3), (4, .int x4), (5, .int v22)] [1, 2, 3, 4, 5, 0] rfl (hC32 _ _ _ _ _ _ _ h)
        · have h := h.2 hc
          obtain ⟨v23, ev23⟩ : ∃ y : Int32, y = x4 + 1 := ⟨_, rfl⟩
          have h := h v23 ev23
          refine z_iinc hC (q := 4) (v := v23) (lv1 := [(4, .int v23), (0, .ref x0), (1, .int x1), (2, .int x2), (3, .int x3), (5, .int x5)]) dX11_odds_97 rfl (by rw [ev23, k_iinc_1]) (by decide) rfl ?_
          obtain ⟨v24, ev24⟩ : ∃ y : Int32, y = x5 + 1 := ⟨_, rfl⟩
          have h := h v24 ev24
          refine z_iinc hC (q := 5) (v := v24) (lv1 := [(5, .int v24), (4, .int v23), (0, .ref x0), (1, .int x1), (2, .int x2), (3, .int x3)]) dX11_odds_100 rfl (by rw [ev24, k_iinc_1]) (by decide) rfl ?_
          refine z_goto hC (tgt := 32) dX11_odds_103 (by decide) ?_
          exact z_sub [(0, .ref x0), (1, .int x1), (2, .int x2), (3, .int x3), (4, .int v23), (5, .int v24)] [2, 3, 4, 5, 1, 0] rfl (hC32 _ _ _ _ _ _ _ h)
  exact key n x0 x1 x2 x3 x4 x5 I h0
set_option maxHeartbeats 4000000 in
set_option maxRecDepth 100000 in
theorem c_X11_odds  (l : Launch) (G : ZG) (a0 : Nat) (a1 : Int32) (a2 : Int32) (a3 : Int32) (K : MK) (N : MK) (I : MI) (L : ML) (R : MR) (Q : Int32 → MI → Prop) (h : w_X11_odds a0 a1 a2 a3 K N I L R Q) : Met l yX11_odds (.code yX11_odds cX11_odds 6 (some .int) :: z_tbl) rm_X11_odds (z_Pc G [.ref a0, .int a1, .int a2, .int a3] K N I L R) (z_Qc G (qIi K N L R Q)) 0 0 (z_A G) := by
  refine z_met (by decide) (Nat.le_of_ble_eq_true rfl) (fun X hX hRm hC0 hnm => ?_)
  subst hX
  have hC : ZOk X G RX11 cX11_odds 6 (some .int) := hC0
  show Z X G 6 0 0 _ K N I L R 0 [(0, .ref a0), (1, .int a1), (2, .int a2), (3, .int a3)] []
  delta w_X11_odds at h
  refine z_aload_n hC (q := 0) dX11_odds_0 rfl rfl ?_
  obtain ⟨hk1, h⟩ := h
  obtain ⟨b2, hb2, h⟩ := h
  refine gf_RX11_19 hC dX11_odds_1 hk1 hb2 ?_
  obtain ⟨hk3, h⟩ := h
  obtain ⟨b4, hb4, h⟩ := h
  refine gf_RX11_174 hC dX11_odds_4 hk3 hb4 ?_
  refine z_iload_n hC (q := 1) dX11_odds_7 rfl rfl ?_
  obtain ⟨hk5, h⟩ := h
  refine cl_RX11_153 hC (c_X7_has _ G b4 a1 K N I L R _ h) hk5 dX11_odds_8 (by rw [hRm]; exact ⟨Nat.le_of_ble_eq_true rfl, Nat.le_of_ble_eq_true rfl⟩) ⟨Nat.zero_le _, Nat.zero_le _⟩ (Nat.le_of_ble_eq_true rfl) (z_kPz (fun r6 h => ?_))
  refine z_ifz_eq hC (tgt := 24) dX11_odds_11 (by decide) (fun hc => ?_) (fun hc => ?_)
  · have h := h.1 hc
    refine z_iconst hC (v := (-1)) k_iconst_m1 dX11_odds_24 ?_
    exact z_iret hC dX11_odds_25 ⟨_, rfl, rfl, rfl, rfl, rfl, h⟩
  · have h := h.2 hc
    refine z_iload_n hC (q := 2) dX11_odds_14 rfl rfl ?_
    refine z_iconst hC (v := 1) k_iconst_1 dX11_odds_15 ?_
    refine z_bipush hC (v := 30) k_bipush_30 dX11_odds_16 ?_
    refine cl_RX11_237 hC (c_X11_isIn _ G a2 1 30 K N I L R _ h) dX11_odds_18 (by rw [hRm]; exact ⟨Nat.le_of_ble_eq_true rfl, Nat.le_of_ble_eq_true rfl⟩) ⟨Nat.zero_le _, Nat.zero_le _⟩ (Nat.le_of_ble_eq_true rfl) (z_kPz (fun r7 h => ?_))
    refine z_ifz_ne hC (tgt := 26) dX11_odds_21 (by decide) (fun hc => ?_) (fun hc => ?_)
    · have h := h.1 hc
      refine z_iconst hC (v := 0) k_iconst_0 dX11_odds_26 ?_
      refine z_istore hC (lv1 := [(4, .int 0), (0, .ref a0), (1, .int a1), (2, .int a2), (3, .int a3)]) dX11_odds_27 (by decide) rfl ?_
      refine z_iconst hC (v := 0) k_iconst_0 dX11_odds_29 ?_
      refine z_istore hC (lv1 := [(5, .int 0), (4, .int 0), (0, .ref a0), (1, .int a1), (2, .int a2), (3, .int a3)]) dX11_odds_30 (by decide) rfl ?_
      exact z_sub [(0, .ref a0), (1, .int a1), (2, .int a2), (3, .int a3), (4, .int 0), (5, .int 0)] [2, 3, 4, 5, 1, 0] rfl (z_X11_odds_32 hC hRm h)
    · have h := h.2 hc
      refine z_iconst hC (v := (-1)) k_iconst_m1 dX11_odds_24 ?_
      exact z_iret hC dX11_odds_25 ⟨_, rfl, rfl, rfl, rfl, rfl, h⟩
def w_X11_tellBook  (a0 : Nat) (a1 : Int32) (K : MK) (N : MK) (I : MI) (L : ML) (R : MR) (Q : MI → ML → Prop) : Prop := K a0 = 12 ∧ ∃ b2 : Nat, R a0 19 = some b2 ∧ K b2 = 8 ∧ w_X7_forget b2 K N I L R (fun I4 => w_X7_add b2 0 K N I4 L R (fun r5 I6 L7 => w_X7_put b2 r5 0 a1 K N I6 L7 R (fun I8 => ∃ b9 : Nat, R a0 11 = some b9 ∧ K b9 = 1 ∧ w_X7_put b2 r5 1 (I8 b9 1) K N I8 L7 R (fun I11 => ∃ b12 : Nat, R a0 3 = some b12 ∧ K b12 = 4 ∧ w_X7_put b2 r5 2 (I11 b12 4) K N I11 L7 R (fun I14 => ∃ b15 : Nat, R a0 6 = some b15 ∧ ∃ b16 : Nat, R a0 1 = some b16 ∧ K b15 = 3 ∧ w_X2_varsThere b15 b16 b12 K N I14 L7 R (fun r18 I19 => w_X7_put b2 r5 3 r18 K N I19 L7 R (fun I20 => Q I20 L7)))))))
set_option maxHeartbeats 4000000 in
set_option maxRecDepth 100000 in
theorem c_X11_tellBook  (l : Launch) (G : ZG) (a0 : Nat) (a1 : Int32) (K : MK) (N : MK) (I : MI) (L : ML) (R : MR) (Q : MI → ML → Prop) (h : w_X11_tellBook a0 a1 K N I L R Q) : Met l yX11_tellBook (.code yX11_tellBook cX11_tellBook 3 none :: z_tbl) rm_X11_tellBook (z_Pc G [.ref a0, .int a1] K N I L R) (z_Qc G (qLv K N R Q)) 0 0 (z_A G) := by
  refine z_met (by decide) (Nat.le_of_ble_eq_true rfl) (fun X hX hRm hC0 hnm => ?_)
  subst hX
  have hC : ZOk X G RX11 cX11_tellBook 3 none := hC0
  show Z X G 3 0 0 _ K N I L R 0 [(0, .ref a0), (1, .int a1)] []
  delta w_X11_tellBook at h
  refine z_aload_n hC (q := 0) dX11_tellBook_0 rfl rfl ?_
  obtain ⟨hk1, h⟩ := h
  obtain ⟨b2, hb2, h⟩ := h
  refine gf_RX11_117 hC dX11_tellBook_1 hk1 hb2 ?_
  obtain ⟨hk3, h⟩ := h
  refine cl_RX11_195 hC (c_X7_forget _ G b2 K N I L R _ h) hk3 dX11_tellBook_4 (by rw [hRm]; exact ⟨Nat.le_of_ble_eq_true rfl, Nat.le_of_ble_eq_true rfl⟩) ⟨Nat.zero_le _, Nat.zero_le _⟩ (Nat.le_of_ble_eq_true rfl) (z_kIv (I := I) (fun I4 h => ?_))
  refine z_aload_n hC (q := 0) dX11_tellBook_7 rfl rfl ?_
  refine gf_RX11_117 hC dX11_tellBook_8 hk1 hb2 ?_
  refine z_lconst hC (v := 0) k_lconst_0 dX11_tellBook_11 ?_
  refine cl_RX11_196 hC (c_X7_add _ G b2 0 K N I4 L R _ h) hk3 dX11_tellBook_12 (by rw [hRm]; exact ⟨Nat.le_of_ble_eq_true rfl, Nat.le_of_ble_eq_true rfl⟩) ⟨Nat.zero_le _, Nat.zero_le _⟩ (Nat.le_of_ble_eq_true rfl) (z_kLi (I := I4) (L := L) (fun r5 I6 L7 h => ?_))
  refine z_istore_n hC (lv1 := [(2, .int r5), (0, .ref a0), (1, .int a1)]) dX11_tellBook_15 rfl (by decide) rfl ?_
  refine z_aload_n hC (q := 1) dX11_tellBook_16 rfl rfl ?_
  refine gf_RX11_117 hC dX11_tellBook_17 hk1 hb2 ?_
  refine z_iload_n hC (q := 0) dX11_tellBook_20 rfl rfl ?_
  refine z_iconst hC (v := 0) k_iconst_0 dX11_tellBook_21 ?_
  refine z_iload_n hC (q := 2) dX11_tellBook_22 rfl rfl ?_
  refine cl_RX11_200 hC (c_X7_put _ G b2 r5 0 a1 K N I6 L7 R _ h) hk3 dX11_tellBook_23 (by rw [hRm]; exact ⟨Nat.le_of_ble_eq_true rfl, Nat.le_of_ble_eq_true rfl⟩) ⟨Nat.zero_le _, Nat.zero_le _⟩ (Nat.le_of_ble_eq_true rfl) (z_kIv (I := I6) (fun I8 h => ?_))
  refine z_aload_n hC (q := 1) dX11_tellBook_26 rfl rfl ?_
  refine gf_RX11_117 hC dX11_tellBook_27 hk1 hb2 ?_
  refine z_iload_n hC (q := 0) dX11_tellBook_30 rfl rfl ?_
  refine z_iconst hC (v := 1) k_iconst_1 dX11_tellBook_31 ?_
  refine z_aload_n hC (q := 1) dX11_tellBook_32 rfl rfl ?_
  obtain ⟨b9, hb9, h⟩ := h
  refine gf_RX11_79 hC dX11_tellBook_33 hk1 hb9 ?_
  obtain ⟨hk10, h⟩ := h
  refine gf_RX11_326 hC dX11_tellBook_36 hk10 ?_
  refine cl_RX11_200 hC (c_X7_put _ G b2 r5 1 (I8 b9 1) K N I8 L7 R _ h) hk3 dX11_tellBook_39 (by rw [hRm]; exact ⟨Nat.le_of_ble_eq_true rfl, Nat.le_of_ble_eq_true rfl⟩) ⟨Nat.zero_le _, Nat.zero_le _⟩ (Nat.le_of_ble_eq_true rfl) (z_kIv (I := I8) (fun I11 h => ?_))
  refine z_aload_n hC (q := 1) dX11_tellBook_42 rfl rfl ?_
  refine gf_RX11_117 hC dX11_tellBook_43 hk1 hb2 ?_
  refine z_iload_n hC (q := 0) dX11_tellBook_46 rfl rfl ?_
  refine z_iconst hC (v := 2) k_iconst_2 dX11_tellBook_47 ?_
  refine z_aload_n hC (q := 1) dX11_tellBook_48 rfl rfl ?_
  obtain ⟨b12, hb12, h⟩ := h
  refine gf_RX11_30 hC dX11_tellBook_49 hk1 hb12 ?_
  obtain ⟨hk13, h⟩ := h
  refine gf_RX11_218 hC dX11_tellBook_52 hk13 ?_
  refine cl_RX11_200 hC (c_X7_put _ G b2 r5 2 (I11 b12 4) K N I11 L7 R _ h) hk3 dX11_tellBook_55 (by rw [hRm]; exact ⟨Nat.le_of_ble_eq_true rfl, Nat.le_of_ble_eq_true rfl⟩) ⟨Nat.zero_le _, Nat.zero_le _⟩ (Nat.le_of_ble_eq_true rfl) (z_kIv (I := I11) (fun I14 h => ?_))
  refine z_aload_n hC (q := 1) dX11_tellBook_58 rfl rfl ?_
  refine gf_RX11_117 hC dX11_tellBook_59 hk1 hb2 ?_
  refine z_iload_n hC (q := 0) dX11_tellBook_62 rfl rfl ?_
  refine z_iconst hC (v := 3) k_iconst_3 dX11_tellBook_63 ?_
  refine z_aload_n hC (q := 1) dX11_tellBook_64 rfl rfl ?_
  obtain ⟨b15, hb15, h⟩ := h
  refine gf_RX11_44 hC dX11_tellBook_65 hk1 hb15 ?_
  refine z_aload_n hC (q := 1) dX11_tellBook_68 rfl rfl ?_
  obtain ⟨b16, hb16, h⟩ := h
  refine gf_RX11_19 hC dX11_tellBook_69 hk1 hb16 ?_
  refine z_aload_n hC (q := 1) dX11_tellBook_72 rfl rfl ?_
  refine gf_RX11_30 hC dX11_tellBook_73 hk1 hb12 ?_
  obtain ⟨hk17, h⟩ := h
  refine cl_RX11_224 hC (c_X2_varsThere _ G b15 b16 b12 K N I14 L7 R _ h) hk17 dX11_tellBook_76 (by rw [hRm]; exact ⟨Nat.le_of_ble_eq_true rfl, Nat.le_of_ble_eq_true rfl⟩) ⟨Nat.zero_le _, Nat.zero_le _⟩ (Nat.le_of_ble_eq_true rfl) (z_kIi (I := I14) (fun r18 I19 h => ?_))
  refine cl_RX11_200 hC (c_X7_put _ G b2 r5 3 r18 K N I19 L7 R _ h) hk3 dX11_tellBook_79 (by rw [hRm]; exact ⟨Nat.le_of_ble_eq_true rfl, Nat.le_of_ble_eq_true rfl⟩) ⟨Nat.zero_le _, Nat.zero_le _⟩ (Nat.le_of_ble_eq_true rfl) (z_kIv (I := I19) (fun I20 h => ?_))
  exact z_vret hC dX11_tellBook_82 ⟨rfl, rfl, rfl, rfl, h⟩
def w_X11_book_13  (x0 : Nat) (x1 : Int32)  (K : MK) (N : MK) (I : MI) (L : ML) (R : MR)  (Q : Int32 → MI → ML → MR → Prop) : Prop := K x0 = 12 ∧ ∃ b2 : Nat, R x0 11 = some b2 ∧ ∃ b3 : Nat, R x0 0 = some b3 ∧ K b2 = 1 ∧ w_X0_readLines b2 b3 K N I L R (fun I5 L6 => K b3 = 9 ∧ ∀ I8 : MI, I8 = mup I5 b3 1 0 → ((I8 b3 10) = 0 → ∃ b9 : Nat, R x0 3 = some b9 ∧ ∃ b10 : Nat, R x0 2 = some b10 ∧ K b9 = 4 ∧ w_X3_copyFrom b9 b10 K N I8 L6 R (fun I12 => ∃ b13 : Nat, R x0 1 = some b13 ∧ w_X0_judge b2 b13 b9 K N I12 L6 R (fun r14 I15 => w_X11_tellBook x0 r14 K N I15 L6 R (fun I16 L17 => (¬ x1 = 1 → (¬ r14 = 0 → Q (I16 b2 1) I16 L17 R) ∧ (r14 = 0 → Q (-1) I16 L17 R)) ∧ (x1 = 1 → ((I16 b2 1) ≤ 0 → (¬ r14 = 0 → Q (I16 b2 1) I16 L17 R) ∧ (r14 = 0 → Q (-1) I16 L17 R)) ∧ (¬ (I16 b2 1) ≤ 0 → w_X11_remember x0 b10 K N I16 L17 R (fun I18 L19 R20 => ∃ b21 : Nat, R20 x0 2 = some b21 ∧ ∃ b22 : Nat, R20 x0 3 = some b22 ∧ K b21 = 4 ∧ w_X3_copyFrom b21 b22 K N I18 L19 R20 (fun I24 => (¬ r14 = 0 → ∃ b25 : Nat, R20 x0 11 = some b25 ∧ K b25 = 1 ∧ Q (I24 b25 1) I24 L19 R20) ∧ (r14 = 0 → Q (-1) I24 L19 R20))))))))) ∧ (¬ (I8 b3 10) = 0 → Q ((-2 : Int32) - (I8 b3 11)) I8 L6 R))
def w_X11_book  (a0 : Nat) (a1 : Int32) (K : MK) (N : MK) (I : MI) (L : ML) (R : MR) (Q : Int32 → MI → ML → MR → Prop) : Prop := (a1 = 0 → w_X11_book_13 a0 a1 K N I L R Q) ∧ (¬ a1 = 0 → (a1 = 1 → w_X11_book_13 a0 a1 K N I L R Q) ∧ (¬ a1 = 1 → Q (-1000) I L R))
set_option maxHeartbeats 4000000 in
set_option maxRecDepth 100000 in
theorem z_X11_book_13 {X : ZX} {G : ZG}  {x0 : Nat} {x1 : Int32}  {K : MK} {N : MK} {I : MI} {L : ML} {R : MR}  {Q : Int32 → MI → ML → MR → Prop} (hC : ZOk X G RX11 cX11_book 3 (some .int)) (hRm : X.2.2.2.1 = rm_X11_book) (h : w_X11_book_13 x0 x1 K N I L R  Q) : Z X G 3 0 0 (z_T X G (qRi K N Q) 0 0) K N I L R 13 [(0, .ref x0), (1, .int x1)] [] := by
  delta w_X11_book_13 at h
  refine z_aload_n hC (q := 0) dX11_book_13 rfl rfl ?_
  obtain ⟨hk1, h⟩ := h
  obtain ⟨b2, hb2, h⟩ := h
  refine gf_RX11_79 hC dX11_book_14 hk1 hb2 ?_
  refine z_aload_n hC (q := 0) dX11_book_17 rfl rfl ?_
  obtain ⟨b3, hb3, h⟩ := h
  refine gf_RX11_10 hC dX11_book_18 hk1 hb3 ?_
  obtain ⟨hk4, h⟩ := h
  refine cl_RX11_316 hC (c_X0_readLines _ G b2 b3 K N I L R _ h) hk4 dX11_book_21 (by rw [hRm]; exact ⟨Nat.le_of_ble_eq_true rfl, Nat.le_of_ble_eq_true rfl⟩) ⟨Nat.zero_le _, Nat.zero_le _⟩ (Nat.le_of_ble_eq_true rfl) (z_kLv (I := I) (L := L) (fun I5 L6 h => ?_))
  refine z_aload_n hC (q := 0) dX11_book_24 rfl rfl ?_
  refine gf_RX11_10 hC dX11_book_25 hk1 hb3 ?_
  refine z_iconst hC (v := 0) k_iconst_0 dX11_book_28 ?_
  obtain ⟨hk7, h⟩ := h
  refine pf_RX11_120 hC dX11_book_29 hk7 ?_
  refine z_genI (fun I8 eI8 => ?_)
  have h := h I8 eI8
  refine z_aload_n hC (q := 0) dX11_book_32 rfl rfl ?_
  refine gf_RX11_10 hC dX11_book_33 hk1 hb3 ?_
  refine gf_RX11_131 hC dX11_book_36 hk7 ?_
  refine z_if_eq hC (tgt := 53) dX11_book_39 (by decide) (fun hc => ?_) (fun hc => ?_)
  · have h := h.1 hc
    refine z_aload_n hC (q := 0) dX11_book_53 rfl rfl ?_
    obtain ⟨b9, hb9, h⟩ := h
    refine gf_RX11_30 hC dX11_book_54 hk1 hb9 ?_
    refine z_aload_n hC (q := 0) dX11_book_57 rfl rfl ?_
    obtain ⟨b10, hb10, h⟩ := h
    refine gf_RX11_26 hC dX11_book_58 hk1 hb10 ?_
    obtain ⟨hk11, h⟩ := h
    refine cl_RX11_246 hC (c_X3_copyFrom _ G b9 b10 K N I8 L6 R _ h) hk11 dX11_book_61 (by rw [hRm]; exact ⟨Nat.le_of_ble_eq_true rfl, Nat.le_of_ble_eq_true rfl⟩) ⟨Nat.zero_le _, Nat.zero_le _⟩ (Nat.le_of_ble_eq_true rfl) (z_kIv (I := I8) (fun I12 h => ?_))
    refine z_aload_n hC (q := 0) dX11_book_64 rfl rfl ?_
    refine gf_RX11_79 hC dX11_book_65 hk1 hb2 ?_
    refine z_aload_n hC (q := 0) dX11_book_68 rfl rfl ?_
    obtain ⟨b13, hb13, h⟩ := h
    refine gf_RX11_19 hC dX11_book_69 hk1 hb13 ?_
    refine z_aload_n hC (q := 0) dX11_book_72 rfl rfl ?_
    refine gf_RX11_30 hC dX11_book_73 hk1 hb9 ?_
    refine cl_RX11_320 hC (c_X0_judge _ G b2 b13 b9 K N I12 L6 R _ h) hk4 dX11_book_76 (by rw [hRm]; exact ⟨Nat.le_of_ble_eq_true rfl, Nat.le_of_ble_eq_true rfl⟩) ⟨Nat.zero_le _, Nat.zero_le _⟩ (Nat.le_of_ble_eq_true rfl) (z_kIi (I := I12) (fun r14 I15 h => ?_))
    refine z_istore_n hC (lv1 := [(2, .int r14), (0, .ref x0), (1, .int x1)]) dX11_book_79 rfl (by decide) rfl ?_
    refine z_aload_n hC (q := 1) dX11_book_80 rfl rfl ?_
    refine z_iload_n hC (q := 0) dX11_book_81 rfl rfl ?_
    refine cl_RX11_323 hC (c_X11_tellBook _ G x0 r14 K N I15 L6 R _ h) hk1 dX11_book_82 (by rw [hRm]; exact ⟨Nat.le_of_ble_eq_true rfl, Nat.le_of_ble_eq_true rfl⟩) ⟨Nat.zero_le _, Nat.zero_le _⟩ (Nat.le_of_ble_eq_true rfl) (z_kLv (I := I15) (L := L6) (fun I16 L17 h => ?_))
    refine z_iload_n hC (q := 2) dX11_book_85 rfl rfl ?_
    refine z_iconst hC (v := 1) k_iconst_1 dX11_book_86 ?_
    refine z_icmp_ne hC (tgt := 119) dX11_book_87 (by decide) (fun hc => ?_) (fun hc => ?_)
    · have h := h.1 hc
      refine z_iload_n hC (q := 0) dX11_book_119 rfl rfl ?_
      refine z_if_ne hC (tgt := 127) dX11_book_120 (by decide) (fun hc => ?_) (fun hc => ?_)
      · have h := h.1 hc
        refine z_aload_n hC (q := 1) dX11_book_127 rfl rfl ?_
        refine gf_RX11_79 hC dX11_book_128 hk1 hb2 ?_
        refine gf_RX11_326 hC dX11_book_131 hk4 ?_
        exact z_iret hC dX11_book_134 ⟨_, rfl, rfl, rfl, h⟩
      · have h := h.2 hc
        refine z_iconst hC (v := (-1)) k_iconst_m1 dX11_book_123 ?_
        refine z_goto hC (tgt := 134) dX11_book_124 (by decide) ?_
        exact z_iret hC dX11_book_134 ⟨_, rfl, rfl, rfl, h⟩
    · have h := h.2 hc
      refine z_aload_n hC (q := 1) dX11_book_90 rfl rfl ?_
      refine gf_RX11_79 hC dX11_book_91 hk1 hb2 ?_
      refine gf_RX11_326 hC dX11_book_94 hk4 ?_
      refine z_if_le hC (tgt := 119) dX11_book_97 (by decide) (fun hc => ?_) (fun hc => ?_)
      · have h := h.1 hc
        refine z_iload_n hC (q := 0) dX11_book_119 rfl rfl ?_
        refine z_if_ne hC (tgt := 127) dX11_book_120 (by decide) (fun hc => ?_) (fun hc => ?_)
        · have h := h.1 hc
          refine z_aload_n hC (q := 1) dX11_book_127 rfl rfl ?_
          refine gf_RX11_79 hC dX11_book_128 hk1 hb2 ?_
          refine gf_RX11_326 hC dX11_book_131 hk4 ?_
          exact z_iret hC dX11_book_134 ⟨_, rfl, rfl, rfl, h⟩
        · have h := h.2 hc
          refine z_iconst hC (v := (-1)) k_iconst_m1 dX11_book_123 ?_
          refine z_goto hC (tgt := 134) dX11_book_124 (by decide) ?_
          exact z_iret hC dX11_book_134 ⟨_, rfl, rfl, rfl, h⟩
      · have h := h.2 hc
        refine z_aload_n hC (q := 1) dX11_book_100 rfl rfl ?_
        refine z_aload_n hC (q := 1) dX11_book_101 rfl rfl ?_
        refine gf_RX11_26 hC dX11_book_102 hk1 hb10 ?_
        refine cl_RX11_253 hC (c_X11_remember _ G x0 b10 K N I16 L17 R _ h) hk1 dX11_book_105 (by rw [hRm]; exact ⟨Nat.le_of_ble_eq_true rfl, Nat.le_of_ble_eq_true rfl⟩) ⟨Nat.zero_le _, Nat.zero_le _⟩ (Nat.le_of_ble_eq_true rfl) (z_kRv (I := I16) (L := L17) (R := R) (fun I18 L19 R20 h => ?_))
        refine z_aload_n hC (q := 1) dX11_book_108 rfl rfl ?_
        obtain ⟨b21, hb21, h⟩ := h
        refine gf_RX11_26 hC dX11_book_109 hk1 hb21 ?_
        refine z_aload_n hC (q := 1) dX11_book_112 rfl rfl ?_
        obtain ⟨b22, hb22, h⟩ := h
        refine gf_RX11_30 hC dX11_book_113 hk1 hb22 ?_
        obtain ⟨hk23, h⟩ := h
        refine cl_RX11_246 hC (c_X3_copyFrom _ G b21 b22 K N I18 L19 R20 _ h) hk23 dX11_book_116 (by rw [hRm]; exact ⟨Nat.le_of_ble_eq_true rfl, Nat.le_of_ble_eq_true rfl⟩) ⟨Nat.zero_le _, Nat.zero_le _⟩ (Nat.le_of_ble_eq_true rfl) (z_kIv (I := I18) (fun I24 h => ?_))
        refine z_iload_n hC (q := 0) dX11_book_119 rfl rfl ?_
        refine z_if_ne hC (tgt := 127) dX11_book_120 (by decide) (fun hc => ?_) (fun hc => ?_)
        · have h := h.1 hc
          refine z_aload_n hC (q := 1) dX11_book_127 rfl rfl ?_
          obtain ⟨b25, hb25, h⟩ := h
          refine gf_RX11_79 hC dX11_book_128 hk1 hb25 ?_
          obtain ⟨hk26, h⟩ := h
          refine gf_RX11_326 hC dX11_book_131 hk26 ?_
          exact z_iret hC dX11_book_134 ⟨_, rfl, rfl, rfl, h⟩
        · have h := h.2 hc
          refine z_iconst hC (v := (-1)) k_iconst_m1 dX11_book_123 ?_
          refine z_goto hC (tgt := 134) dX11_book_124 (by decide) ?_
          exact z_iret hC dX11_book_134 ⟨_, rfl, rfl, rfl, h⟩
  · have h := h.2 hc
    refine z_bipush hC (v := (-2)) k_bipush_m2 dX11_book_42 ?_
    refine z_aload_n hC (q := 0) dX11_book_44 rfl rfl ?_
    refine gf_RX11_10 hC dX11_book_45 hk1 hb3 ?_
    refine gf_RX11_134 hC dX11_book_48 hk7 ?_
    refine z_isub hC dX11_book_51 ?_
    exact z_iret hC dX11_book_52 ⟨_, rfl, rfl, rfl, h⟩
set_option maxHeartbeats 4000000 in
set_option maxRecDepth 100000 in
theorem c_X11_book  (l : Launch) (G : ZG) (a0 : Nat) (a1 : Int32) (K : MK) (N : MK) (I : MI) (L : ML) (R : MR) (Q : Int32 → MI → ML → MR → Prop) (h : w_X11_book a0 a1 K N I L R Q) : Met l yX11_book (.code yX11_book cX11_book 3 (some .int) :: z_tbl) rm_X11_book (z_Pc G [.ref a0, .int a1] K N I L R) (z_Qc G (qRi K N Q)) 0 0 (z_A G) := by
  refine z_met (by decide) (Nat.le_of_ble_eq_true rfl) (fun X hX hRm hC0 hnm => ?_)
  subst hX
  have hC : ZOk X G RX11 cX11_book 3 (some .int) := hC0
  show Z X G 3 0 0 _ K N I L R 0 [(0, .ref a0), (1, .int a1)] []
  delta w_X11_book at h
  refine z_iload_n hC (q := 1) dX11_book_0 rfl rfl ?_
  refine z_if_eq hC (tgt := 13) dX11_book_1 (by decide) (fun hc => ?_) (fun hc => ?_)
  · have h := h.1 hc
    exact z_sub [(0, .ref a0), (1, .int a1)] [0, 1] rfl (z_X11_book_13 hC hRm h)
  · have h := h.2 hc
    refine z_iload_n hC (q := 1) dX11_book_4 rfl rfl ?_
    refine z_iconst hC (v := 1) k_iconst_1 dX11_book_5 ?_
    refine z_icmp_eq hC (tgt := 13) dX11_book_6 (by decide) (fun hc => ?_) (fun hc => ?_)
    · have h := h.1 hc
      exact z_sub [(0, .ref a0), (1, .int a1)] [0, 1] rfl (z_X11_book_13 hC hRm h)
    · have h := h.2 hc
      refine z_sipush hC (v := (-1000)) k_sipush_m1000 dX11_book_9 ?_
      exact z_iret hC dX11_book_12 ⟨_, rfl, rfl, rfl, h⟩
def w_X11_told  (a0 : Nat) (a1 : Int32) (K : MK) (N : MK) (I : MI) (L : ML) (R : MR) (Q : Int32 → Prop) : Prop := K a0 = 12 ∧ ∃ b2 : Nat, R a0 19 = some b2 ∧ K b2 = 8 ∧ w_X7_at b2 0 a1 K N I L R (fun r4 => Q r4)
set_option maxHeartbeats 4000000 in
set_option maxRecDepth 100000 in
theorem c_X11_told  (l : Launch) (G : ZG) (a0 : Nat) (a1 : Int32) (K : MK) (N : MK) (I : MI) (L : ML) (R : MR) (Q : Int32 → Prop) (h : w_X11_told a0 a1 K N I L R Q) : Met l yX11_told (.code yX11_told cX11_told 2 (some .int) :: z_tbl) rm_X11_told (z_Pc G [.ref a0, .int a1] K N I L R) (z_Qc G (qPi K N I L R Q)) 0 0 (z_A G) := by
  refine z_met (by decide) (Nat.le_of_ble_eq_true rfl) (fun X hX hRm hC0 hnm => ?_)
  subst hX
  have hC : ZOk X G RX11 cX11_told 2 (some .int) := hC0
  show Z X G 2 0 0 _ K N I L R 0 [(0, .ref a0), (1, .int a1)] []
  delta w_X11_told at h
  refine z_aload_n hC (q := 0) dX11_told_0 rfl rfl ?_
  obtain ⟨hk1, h⟩ := h
  obtain ⟨b2, hb2, h⟩ := h
  refine gf_RX11_117 hC dX11_told_1 hk1 hb2 ?_
  refine z_iconst hC (v := 0) k_iconst_0 dX11_told_4 ?_
  refine z_iload_n hC (q := 1) dX11_told_5 rfl rfl ?_
  obtain ⟨hk3, h⟩ := h
  refine cl_RX11_157 hC (c_X7_at _ G b2 0 a1 K N I L R _ h) hk3 dX11_told_6 (by rw [hRm]; exact ⟨Nat.le_of_ble_eq_true rfl, Nat.le_of_ble_eq_true rfl⟩) ⟨Nat.zero_le _, Nat.zero_le _⟩ (Nat.le_of_ble_eq_true rfl) (z_kPi (fun r4 h => ?_))
  exact z_iret hC dX11_told_9 ⟨_, rfl, rfl, rfl, rfl, rfl, rfl, h⟩
def w_X11_said_16  (x0 : Nat) (x1 : Int32) (x2 : Int32) (x3 : Int32)  (K : MK) (N : MK) (I : MI) (L : ML) (R : MR)  (Q : Int32 → MI → Prop) : Prop := ∃ J : Nat → Nat → Int32 → Int32 → Int32 → MI → Prop, (∃ n, J n x0 x1 x2 x3 I) ∧ ∀ (n : Nat) (x0 : Nat) (x1 : Int32) (x2 : Int32) (x3 : Int32) (I : MI), J n x0 x1 x2 x3 I → K x0 = 12 ∧ ∃ b5 : Nat, R x0 1 = some b5 ∧ K b5 = 10 ∧ ∃ b7 : Nat, R b5 4 = some b7 ∧ K b7 = 8 ∧ ((I b7 3) ≤ x3 → (¬ x1 = (-1) → Q (-1) I) ∧ (x1 = (-1) → Q x2 I)) ∧ (¬ (I b7 3) ≤ x3 → ∃ b9 : Nat, R x0 8 = some b9 ∧ ∃ b10 : Nat, R x0 2 = some b10 ∧ ∃ b11 : Nat, R x0 6 = some b11 ∧ K b9 = 6 ∧ w_X5_isSaidOf b9 b5 b10 b11 x3 K N I L R (fun r13 I14 => (r13 = false → ∀ v15 : Int32, v15 = x3 + 1 → ∃ n1, n1 < n ∧ J n1 x0 x1 x2 v15 I14) ∧ (r13 = true → (¬ x2 = x1 → ∀ v16 : Int32, v16 = x2 + 1 → ∀ v17 : Int32, v17 = x3 + 1 → ∃ n1, n1 < n ∧ J n1 x0 x1 v16 v17 I14) ∧ (x2 = x1 → Q x3 I14))))
def w_X11_said  (a0 : Nat) (a1 : Int32) (K : MK) (N : MK) (I : MI) (L : ML) (R : MR) (Q : Int32 → MI → Prop) : Prop := K a0 = 12 ∧ ∃ b2 : Nat, R a0 8 = some b2 ∧ K b2 = 6 ∧ (¬ (I b2 0) = 0 → w_X11_said_16 a0 a1 0 0 K N I L R Q) ∧ ((I b2 0) = 0 → Q (-1) I)
set_option maxHeartbeats 4000000 in
set_option maxRecDepth 100000 in
theorem z_X11_said_16 {X : ZX} {G : ZG}  {x0 : Nat} {x1 : Int32} {x2 : Int32} {x3 : Int32}  {K : MK} {N : MK} {I : MI} {L : ML} {R : MR}  {Q : Int32 → MI → Prop} (hC : ZOk X G RX11 cX11_said 4 (some .int)) (hRm : X.2.2.2.1 = rm_X11_said) (h : w_X11_said_16 x0 x1 x2 x3 K N I L R  Q) : Z X G 4 0 0 (z_T X G (qIi K N L R Q) 0 0) K N I L R 16 [(0, .ref x0), (1, .int x1), (2, .int x2), (3, .int x3)] [] := by
  delta w_X11_said_16 at h
  obtain ⟨J, ⟨n, h0⟩, hs⟩ := h
  have key : ∀ (n : Nat) (x0 : Nat) (x1 : Int32) (x2 : Int32) (x3 : Int32) (I : MI), J n x0 x1 x2 x3 I → Z X G 4 0 0 (z_T X G (qIi K N L R Q) 0 0) K N I L R 16 [(0, .ref x0), (1, .int x1), (2, .int x2), (3, .int x3)] [] := by
    intro n
    induction n using Nat.strongRecOn with
    | _ n ih =>
      intro x0 x1 x2 x3 I hJ
      have hC16 : ∀ (y0 : Nat) (y1 : Int32) (y2 : Int32) (y3 : Int32) (zI : MI), (∃ n1, n1 < n ∧ J n1 y0 y1 y2 y3 zI) → Z X G 4 0 0 (z_T X G (qIi K N L R Q) 0 0) K N zI L R 16 [(0, .ref y0), (1, .int y1), (2, .int y2), (3, .int y3)] [] := fun y0 y1 y2 y3 zI ⟨n1, hn1, hj⟩ => ih n1 hn1 y0 y1 y2 y3 zI hj
      have h := hs n x0 x1 x2 x3 I hJ
      refine z_iload_n hC (q := 3) dX11_said_16 rfl rfl ?_
      refine z_aload_n hC (q := 0) dX11_said_17 rfl rfl ?_
      obtain ⟨hk4, h⟩ := h
      obtain ⟨b5, hb5, h⟩ := h
      refine gf_RX11_19 hC dX11_said_18 hk4 hb5 ?_
      obtain ⟨hk6, h⟩ := h
      obtain ⟨b7, hb7, h⟩ := h
      refine gf_RX11_174 hC dX11_said_21 hk6 hb7 ?_
      obtain ⟨hk8, h⟩ := h
      refine gf_RX11_189 hC dX11_said_24 hk8 ?_
      refine z_icmp_ge hC (tgt := 69) dX11_said_27 (by decide) (fun hc => ?_) (fun hc => ?_)
      · have h := h.1 hc
        refine z_iload_n hC (q := 1) dX11_said_69 rfl rfl ?_
        refine z_iconst hC (v := (-1)) k_iconst_m1 dX11_said_70 ?_
        refine z_icmp_ne hC (tgt := 78) dX11_said_71 (by decide) (fun hc => ?_) (fun hc => ?_)
        · have h := h.1 hc
          refine z_iconst hC (v := (-1)) k_iconst_m1 dX11_said_78 ?_
          exact z_iret hC dX11_said_79 ⟨_, rfl, rfl, rfl, rfl, rfl, h⟩
        · have h := h.2 hc
          refine z_iload_n hC (q := 2) dX11_said_74 rfl rfl ?_
          refine z_goto hC (tgt := 79) dX11_said_75 (by decide) ?_
          exact z_iret hC dX11_said_79 ⟨_, rfl, rfl, rfl, rfl, rfl, h⟩
      · have h := h.2 hc
        refine z_aload_n hC (q := 0) dX11_said_30 rfl rfl ?_
        obtain ⟨b9, hb9, h⟩ := h
        refine gf_RX11_58 hC dX11_said_31 hk4 hb9 ?_
        refine z_aload_n hC (q := 0) dX11_said_34 rfl rfl ?_
        refine gf_RX11_19 hC dX11_said_35 hk4 hb5 ?_
        refine z_aload_n hC (q := 0) dX11_said_38 rfl rfl ?_
        obtain ⟨b10, hb10, h⟩ := h
        refine gf_RX11_26 hC dX11_said_39 hk4 hb10 ?_
        refine z_aload_n hC (q := 0) dX11_said_42 rfl rfl ?_
        obtain ⟨b11, hb11, h⟩ := h
        refine gf_RX11_44 hC dX11_said_43 hk4 hb11 ?_
        refine z_iload_n hC (q := 3) dX11_said_46 rfl rfl ?_
        obtain ⟨hk12, h⟩ := h
        refine cl_RX11_339 hC (c_X5_isSaidOf _ G b9 b5 b10 b11 x3 K N I L R _ h) hk12 dX11_said_47 (by rw [hRm]; exact ⟨Nat.le_of_ble_eq_true rfl, Nat.le_of_ble_eq_true rfl⟩) ⟨Nat.zero_le _, Nat.zero_le _⟩ (Nat.le_of_ble_eq_true rfl) (z_kIz (I := I) (fun r13 I14 h => ?_))
        refine z_ifz_eq hC (tgt := 63) dX11_said_50 (by decide) (fun hc => ?_) (fun hc => ?_)
        · have h := h.1 hc
          obtain ⟨v15, ev15⟩ : ∃ y : Int32, y = x3 + 1 := ⟨_, rfl⟩
          have h := h v15 ev15
          refine z_iinc hC (q := 3) (v := v15) (lv1 := [(3, .int v15), (0, .ref x0), (1, .int x1), (2, .int x2)]) dX11_said_63 rfl (by rw [ev15, k_iinc_1]) (by decide) rfl ?_
          refine z_goto hC (tgt := 16) dX11_said_66 (by decide) ?_
          exact z_sub [(0, .ref x0), (1, .int x1), (2, .int x2), (3, .int v15)] [1, 2, 3, 0] rfl (hC16 _ _ _ _ _ h)
        · have h := h.2 hc
          refine z_iload_n hC (q := 2) dX11_said_53 rfl rfl ?_
          refine z_iload_n hC (q := 1) dX11_said_54 rfl rfl ?_
          refine z_icmp_ne hC (tgt := 60) dX11_said_55 (by decide) (fun hc => ?_) (fun hc => ?_)
          · have h := h.1 hc
            obtain ⟨v16, ev16⟩ : ∃ y : Int32, y = x2 + 1 := ⟨_, rfl⟩
            have h := h v16 ev16
            refine z_iinc hC (q := 2) (v := v16) (lv1 := [(2, .int v16), (0, .ref x0), (1, .int x1), (3, .int x3)]) dX11_said_60 rfl (by rw [ev16, k_iinc_1]) (by decide) rfl ?_
            obtain ⟨v17, ev17⟩ : ∃ y : Int32, y = x3 + 1 := ⟨_, rfl⟩
            have h := h v17 ev17
            refine z_iinc hC (q := 3) (v := v17) (lv1 := [(3, .int v17), (2, .int v16), (0, .ref x0), (1, .int x1)]) dX11_said_63 rfl (by rw [ev17, k_iinc_1]) (by decide) rfl ?_
            refine z_goto hC (tgt := 16) dX11_said_66 (by decide) ?_
            exact z_sub [(0, .ref x0), (1, .int x1), (2, .int v16), (3, .int v17)] [2, 3, 1, 0] rfl (hC16 _ _ _ _ _ h)
          · have h := h.2 hc
            refine z_iload_n hC (q := 3) dX11_said_58 rfl rfl ?_
            exact z_iret hC dX11_said_59 ⟨_, rfl, rfl, rfl, rfl, rfl, h⟩
  exact key n x0 x1 x2 x3 I h0
set_option maxHeartbeats 4000000 in
set_option maxRecDepth 100000 in
theorem c_X11_said  (l : Launch) (G : ZG) (a0 : Nat) (a1 : Int32) (K : MK) (N : MK) (I : MI) (L : ML) (R : MR) (Q : Int32 → MI → Prop) (h : w_X11_said a0 a1 K N I L R Q) : Met l yX11_said (.code yX11_said cX11_said 4 (some .int) :: z_tbl) rm_X11_said (z_Pc G [.ref a0, .int a1] K N I L R) (z_Qc G (qIi K N L R Q)) 0 0 (z_A G) := by
  refine z_met (by decide) (Nat.le_of_ble_eq_true rfl) (fun X hX hRm hC0 hnm => ?_)
  subst hX
  have hC : ZOk X G RX11 cX11_said 4 (some .int) := hC0
  show Z X G 4 0 0 _ K N I L R 0 [(0, .ref a0), (1, .int a1)] []
  delta w_X11_said at h
  refine z_aload_n hC (q := 0) dX11_said_0 rfl rfl ?_
  obtain ⟨hk1, h⟩ := h
  obtain ⟨b2, hb2, h⟩ := h
  refine gf_RX11_58 hC dX11_said_1 hk1 hb2 ?_
  obtain ⟨hk3, h⟩ := h
  refine gf_RX11_338 hC dX11_said_4 hk3 ?_
  refine z_if_ne hC (tgt := 12) dX11_said_7 (by decide) (fun hc => ?_) (fun hc => ?_)
  · have h := h.1 hc
    refine z_iconst hC (v := 0) k_iconst_0 dX11_said_12 ?_
    refine z_istore_n hC (lv1 := [(2, .int 0), (0, .ref a0), (1, .int a1)]) dX11_said_13 rfl (by decide) rfl ?_
    refine z_iconst hC (v := 0) k_iconst_0 dX11_said_14 ?_
    refine z_istore_n hC (lv1 := [(3, .int 0), (2, .int 0), (0, .ref a0), (1, .int a1)]) dX11_said_15 rfl (by decide) rfl ?_
    exact z_sub [(0, .ref a0), (1, .int a1), (2, .int 0), (3, .int 0)] [2, 3, 1, 0] rfl (z_X11_said_16 hC hRm h)
  · have h := h.2 hc
    refine z_iconst hC (v := (-1)) k_iconst_m1 dX11_said_10 ?_
    exact z_iret hC dX11_said_11 ⟨_, rfl, rfl, rfl, rfl, rfl, h⟩
def w_X11_image  (a0 : Nat) (a1 : Int32) (K : MK) (N : MK) (I : MI) (L : ML) (R : MR) (Q : Bool → MI → ML → Prop) : Prop := K a0 = 12 ∧ ∃ b2 : Nat, R a0 16 = some b2 ∧ K b2 = 16 ∧ w_X11_isIn a1 0 ((nI (N b2)) - 1) K N I L R (fun r4 => (r4 = true → ∃ b5 : Nat, R a0 13 = some b5 ∧ K b5 = 19 ∧ vp_in a1 (N b5) ∧ ∃ b8 : Nat, R b5 (ix a1) = some b8 ∧ ∃ b9 : Nat, R a0 1 = some b9 ∧ K b8 = 10 ∧ w_X9_copyFrom b8 b9 K N I L R (fun I11 L12 => ∃ b13 : Nat, R a0 14 = some b13 ∧ K b13 = 17 ∧ vp_in a1 (N b13) ∧ ∃ b16 : Nat, R b13 (ix a1) = some b16 ∧ ∃ b17 : Nat, R a0 2 = some b17 ∧ K b16 = 4 ∧ w_X3_copyFrom b16 b17 K N I11 L12 R (fun I19 => ∃ b20 : Nat, R a0 15 = some b20 ∧ K b20 = 18 ∧ vp_in a1 (N b20) ∧ ∃ b23 : Nat, R b20 (ix a1) = some b23 ∧ ∃ b24 : Nat, R a0 8 = some b24 ∧ K b23 = 6 ∧ w_X5_copyFrom b23 b24 K N I19 L12 R (fun I26 => vp_in a1 (N b2) ∧ ∀ I28 : MI, I28 = mup I26 b2 (ix a1) (vp_nar .boolean 1) → Q true I28 L12)))) ∧ (r4 = false → Q false I L))
set_option maxHeartbeats 4000000 in
set_option maxRecDepth 100000 in
theorem c_X11_image  (l : Launch) (G : ZG) (a0 : Nat) (a1 : Int32) (K : MK) (N : MK) (I : MI) (L : ML) (R : MR) (Q : Bool → MI → ML → Prop) (h : w_X11_image a0 a1 K N I L R Q) : Met l yX11_image (.code yX11_image cX11_image 2 (some .boolean) :: z_tbl) rm_X11_image (z_Pc G [.ref a0, .int a1] K N I L R) (z_Qc G (qLz K N R Q)) 0 0 (z_A G) := by
  refine z_met (by decide) (Nat.le_of_ble_eq_true rfl) (fun X hX hRm hC0 hnm => ?_)
  subst hX
  have hC : ZOk X G RX11 cX11_image 2 (some .boolean) := hC0
  show Z X G 2 0 0 _ K N I L R 0 [(0, .ref a0), (1, .int a1)] []
  delta w_X11_image at h
  refine z_iload_n hC (q := 1) dX11_image_0 rfl rfl ?_
  refine z_iconst hC (v := 0) k_iconst_0 dX11_image_1 ?_
  refine z_aload_n hC (q := 0) dX11_image_2 rfl rfl ?_
  obtain ⟨hk1, h⟩ := h
  obtain ⟨b2, hb2, h⟩ := h
  refine gf_RX11_101 hC dX11_image_3 hk1 hb2 ?_
  obtain ⟨hk3, h⟩ := h
  refine z_alen16 hC hk3 dX11_image_6 ?_
  refine z_iconst hC (v := 1) k_iconst_1 dX11_image_7 ?_
  refine z_isub hC dX11_image_8 ?_
  refine cl_RX11_237 hC (c_X11_isIn _ G a1 0 ((nI (N b2)) - 1) K N I L R _ h) dX11_image_9 (by rw [hRm]; exact ⟨Nat.le_of_ble_eq_true rfl, Nat.le_of_ble_eq_true rfl⟩) ⟨Nat.zero_le _, Nat.zero_le _⟩ (Nat.le_of_ble_eq_true rfl) (z_kPz (fun r4 h => ?_))
  refine z_ifz_ne hC (tgt := 17) dX11_image_12 (by decide) (fun hc => ?_) (fun hc => ?_)
  · have h := h.1 hc
    refine z_aload_n hC (q := 0) dX11_image_17 rfl rfl ?_
    obtain ⟨b5, hb5, h⟩ := h
    refine gf_RX11_90 hC dX11_image_18 hk1 hb5 ?_
    refine z_iload_n hC (q := 1) dX11_image_21 rfl rfl ?_
    obtain ⟨hk6, h⟩ := h
    obtain ⟨hi7, h⟩ := h
    obtain ⟨b8, hb8, h⟩ := h
    refine z_aar19 hC hk6 hi7 hb8 dX11_image_22 ?_
    refine z_aload_n hC (q := 0) dX11_image_23 rfl rfl ?_
    obtain ⟨b9, hb9, h⟩ := h
    refine gf_RX11_19 hC dX11_image_24 hk1 hb9 ?_
    obtain ⟨hk10, h⟩ := h
    refine cl_RX11_140 hC (c_X9_copyFrom _ G b8 b9 K N I L R _ h) hk10 dX11_image_27 (by rw [hRm]; exact ⟨Nat.le_of_ble_eq_true rfl, Nat.le_of_ble_eq_true rfl⟩) ⟨Nat.zero_le _, Nat.zero_le _⟩ (Nat.le_of_ble_eq_true rfl) (z_kLv (I := I) (L := L) (fun I11 L12 h => ?_))
    refine z_aload_n hC (q := 0) dX11_image_30 rfl rfl ?_
    obtain ⟨b13, hb13, h⟩ := h
    refine gf_RX11_94 hC dX11_image_31 hk1 hb13 ?_
    refine z_iload_n hC (q := 1) dX11_image_34 rfl rfl ?_
    obtain ⟨hk14, h⟩ := h
    obtain ⟨hi15, h⟩ := h
    obtain ⟨b16, hb16, h⟩ := h
    refine z_aar17 hC hk14 hi15 hb16 dX11_image_35 ?_
    refine z_aload_n hC (q := 0) dX11_image_36 rfl rfl ?_
    obtain ⟨b17, hb17, h⟩ := h
    refine gf_RX11_26 hC dX11_image_37 hk1 hb17 ?_
    obtain ⟨hk18, h⟩ := h
    refine cl_RX11_246 hC (c_X3_copyFrom _ G b16 b17 K N I11 L12 R _ h) hk18 dX11_image_40 (by rw [hRm]; exact ⟨Nat.le_of_ble_eq_true rfl, Nat.le_of_ble_eq_true rfl⟩) ⟨Nat.zero_le _, Nat.zero_le _⟩ (Nat.le_of_ble_eq_true rfl) (z_kIv (I := I11) (fun I19 h => ?_))
    refine z_aload_n hC (q := 0) dX11_image_43 rfl rfl ?_
    obtain ⟨b20, hb20, h⟩ := h
    refine gf_RX11_97 hC dX11_image_44 hk1 hb20 ?_
    refine z_iload_n hC (q := 1) dX11_image_47 rfl rfl ?_
    obtain ⟨hk21, h⟩ := h
    obtain ⟨hi22, h⟩ := h
    obtain ⟨b23, hb23, h⟩ := h
    refine z_aar18 hC hk21 hi22 hb23 dX11_image_48 ?_
    refine z_aload_n hC (q := 0) dX11_image_49 rfl rfl ?_
    obtain ⟨b24, hb24, h⟩ := h
    refine gf_RX11_58 hC dX11_image_50 hk1 hb24 ?_
    obtain ⟨hk25, h⟩ := h
    refine cl_RX11_335 hC (c_X5_copyFrom _ G b23 b24 K N I19 L12 R _ h) hk25 dX11_image_53 (by rw [hRm]; exact ⟨Nat.le_of_ble_eq_true rfl, Nat.le_of_ble_eq_true rfl⟩) ⟨Nat.zero_le _, Nat.zero_le _⟩ (Nat.le_of_ble_eq_true rfl) (z_kIv (I := I19) (fun I26 h => ?_))
    refine z_aload_n hC (q := 0) dX11_image_56 rfl rfl ?_
    refine gf_RX11_101 hC dX11_image_57 hk1 hb2 ?_
    refine z_iload_n hC (q := 1) dX11_image_60 rfl rfl ?_
    refine z_iconst hC (v := 1) k_iconst_1 dX11_image_61 ?_
    obtain ⟨hi27, h⟩ := h
    refine z_zastore hC hk3 hi27 dX11_image_62 ?_
    refine z_genI (fun I28 eI28 => ?_)
    have h := h I28 eI28
    refine z_iconst hC (v := 1) k_iconst_1 dX11_image_63 ?_
    exact z_zret (b := true) hC dX11_image_64 rfl ⟨true, rfl, rfl, rfl, rfl, h⟩
  · have h := h.2 hc
    refine z_iconst hC (v := 0) k_iconst_0 dX11_image_15 ?_
    exact z_zret (b := false) hC dX11_image_16 rfl ⟨false, rfl, rfl, rfl, rfl, h⟩
def w_X11_restore  (a0 : Nat) (a1 : Int32) (K : MK) (N : MK) (I : MI) (L : ML) (R : MR) (Q : Bool → MI → ML → Prop) : Prop := K a0 = 12 ∧ ∃ b2 : Nat, R a0 16 = some b2 ∧ K b2 = 16 ∧ w_X11_isIn a1 0 ((nI (N b2)) - 1) K N I L R (fun r4 => (r4 = false → Q false I L) ∧ (r4 = true → vp_in a1 (N b2) ∧ (¬ (I b2 (ix a1)) = 0 → ∃ b6 : Nat, R a0 1 = some b6 ∧ ∃ b7 : Nat, R a0 13 = some b7 ∧ K b7 = 19 ∧ vp_in a1 (N b7) ∧ ∃ b10 : Nat, R b7 (ix a1) = some b10 ∧ K b6 = 10 ∧ w_X9_copyFrom b6 b10 K N I L R (fun I12 L13 => ∃ b14 : Nat, R a0 2 = some b14 ∧ ∃ b15 : Nat, R a0 14 = some b15 ∧ K b15 = 17 ∧ vp_in a1 (N b15) ∧ ∃ b18 : Nat, R b15 (ix a1) = some b18 ∧ K b14 = 4 ∧ w_X3_copyFrom b14 b18 K N I12 L13 R (fun I20 => ∃ b21 : Nat, R a0 8 = some b21 ∧ ∃ b22 : Nat, R a0 15 = some b22 ∧ K b22 = 18 ∧ vp_in a1 (N b22) ∧ ∃ b25 : Nat, R b22 (ix a1) = some b25 ∧ K b21 = 6 ∧ w_X5_copyFrom b21 b25 K N I20 L13 R (fun I27 => ∀ I28 : MI, I28 = mup I27 a0 5 0 → Q true I28 L13)))) ∧ ((I b2 (ix a1)) = 0 → Q false I L)))
set_option maxHeartbeats 4000000 in
set_option maxRecDepth 100000 in
theorem c_X11_restore  (l : Launch) (G : ZG) (a0 : Nat) (a1 : Int32) (K : MK) (N : MK) (I : MI) (L : ML) (R : MR) (Q : Bool → MI → ML → Prop) (h : w_X11_restore a0 a1 K N I L R Q) : Met l yX11_restore (.code yX11_restore cX11_restore 2 (some .boolean) :: z_tbl) rm_X11_restore (z_Pc G [.ref a0, .int a1] K N I L R) (z_Qc G (qLz K N R Q)) 0 0 (z_A G) := by
  refine z_met (by decide) (Nat.le_of_ble_eq_true rfl) (fun X hX hRm hC0 hnm => ?_)
  subst hX
  have hC : ZOk X G RX11 cX11_restore 2 (some .boolean) := hC0
  show Z X G 2 0 0 _ K N I L R 0 [(0, .ref a0), (1, .int a1)] []
  delta w_X11_restore at h
  refine z_iload_n hC (q := 1) dX11_restore_0 rfl rfl ?_
  refine z_iconst hC (v := 0) k_iconst_0 dX11_restore_1 ?_
  refine z_aload_n hC (q := 0) dX11_restore_2 rfl rfl ?_
  obtain ⟨hk1, h⟩ := h
  obtain ⟨b2, hb2, h⟩ := h
  refine gf_RX11_101 hC dX11_restore_3 hk1 hb2 ?_
  obtain ⟨hk3, h⟩ := h
  refine z_alen16 hC hk3 dX11_restore_6 ?_
  refine z_iconst hC (v := 1) k_iconst_1 dX11_restore_7 ?_
  refine z_isub hC dX11_restore_8 ?_
  refine cl_RX11_237 hC (c_X11_isIn _ G a1 0 ((nI (N b2)) - 1) K N I L R _ h) dX11_restore_9 (by rw [hRm]; exact ⟨Nat.le_of_ble_eq_true rfl, Nat.le_of_ble_eq_true rfl⟩) ⟨Nat.zero_le _, Nat.zero_le _⟩ (Nat.le_of_ble_eq_true rfl) (z_kPz (fun r4 h => ?_))
  refine z_ifz_eq hC (tgt := 24) dX11_restore_12 (by decide) (fun hc => ?_) (fun hc => ?_)
  · have h := h.1 hc
    refine z_iconst hC (v := 0) k_iconst_0 dX11_restore_24 ?_
    exact z_zret (b := false) hC dX11_restore_25 rfl ⟨false, rfl, rfl, rfl, rfl, h⟩
  · have h := h.2 hc
    refine z_aload_n hC (q := 0) dX11_restore_15 rfl rfl ?_
    refine gf_RX11_101 hC dX11_restore_16 hk1 hb2 ?_
    refine z_iload_n hC (q := 1) dX11_restore_19 rfl rfl ?_
    obtain ⟨hi5, h⟩ := h
    refine z_zaload hC hk3 hi5 dX11_restore_20 ?_
    refine z_if_ne hC (tgt := 26) dX11_restore_21 (by decide) (fun hc => ?_) (fun hc => ?_)
    · have h := h.1 hc
      refine z_aload_n hC (q := 0) dX11_restore_26 rfl rfl ?_
      obtain ⟨b6, hb6, h⟩ := h
      refine gf_RX11_19 hC dX11_restore_27 hk1 hb6 ?_
      refine z_aload_n hC (q := 0) dX11_restore_30 rfl rfl ?_
      obtain ⟨b7, hb7, h⟩ := h
      refine gf_RX11_90 hC dX11_restore_31 hk1 hb7 ?_
      refine z_iload_n hC (q := 1) dX11_restore_34 rfl rfl ?_
      obtain ⟨hk8, h⟩ := h
      obtain ⟨hi9, h⟩ := h
      obtain ⟨b10, hb10, h⟩ := h
      refine z_aar19 hC hk8 hi9 hb10 dX11_restore_35 ?_
      obtain ⟨hk11, h⟩ := h
      refine cl_RX11_140 hC (c_X9_copyFrom _ G b6 b10 K N I L R _ h) hk11 dX11_restore_36 (by rw [hRm]; exact ⟨Nat.le_of_ble_eq_true rfl, Nat.le_of_ble_eq_true rfl⟩) ⟨Nat.zero_le _, Nat.zero_le _⟩ (Nat.le_of_ble_eq_true rfl) (z_kLv (I := I) (L := L) (fun I12 L13 h => ?_))
      refine z_aload_n hC (q := 0) dX11_restore_39 rfl rfl ?_
      obtain ⟨b14, hb14, h⟩ := h
      refine gf_RX11_26 hC dX11_restore_40 hk1 hb14 ?_
      refine z_aload_n hC (q := 0) dX11_restore_43 rfl rfl ?_
      obtain ⟨b15, hb15, h⟩ := h
      refine gf_RX11_94 hC dX11_restore_44 hk1 hb15 ?_
      refine z_iload_n hC (q := 1) dX11_restore_47 rfl rfl ?_
      obtain ⟨hk16, h⟩ := h
      obtain ⟨hi17, h⟩ := h
      obtain ⟨b18, hb18, h⟩ := h
      refine z_aar17 hC hk16 hi17 hb18 dX11_restore_48 ?_
      obtain ⟨hk19, h⟩ := h
      refine cl_RX11_246 hC (c_X3_copyFrom _ G b14 b18 K N I12 L13 R _ h) hk19 dX11_restore_49 (by rw [hRm]; exact ⟨Nat.le_of_ble_eq_true rfl, Nat.le_of_ble_eq_true rfl⟩) ⟨Nat.zero_le _, Nat.zero_le _⟩ (Nat.le_of_ble_eq_true rfl) (z_kIv (I := I12) (fun I20 h => ?_))
      refine z_aload_n hC (q := 0) dX11_restore_52 rfl rfl ?_
      obtain ⟨b21, hb21, h⟩ := h
      refine gf_RX11_58 hC dX11_restore_53 hk1 hb21 ?_
      refine z_aload_n hC (q := 0) dX11_restore_56 rfl rfl ?_
      obtain ⟨b22, hb22, h⟩ := h
      refine gf_RX11_97 hC dX11_restore_57 hk1 hb22 ?_
      refine z_iload_n hC (q := 1) dX11_restore_60 rfl rfl ?_
      obtain ⟨hk23, h⟩ := h
      obtain ⟨hi24, h⟩ := h
      obtain ⟨b25, hb25, h⟩ := h
      refine z_aar18 hC hk23 hi24 hb25 dX11_restore_61 ?_
      obtain ⟨hk26, h⟩ := h
      refine cl_RX11_335 hC (c_X5_copyFrom _ G b21 b25 K N I20 L13 R _ h) hk26 dX11_restore_62 (by rw [hRm]; exact ⟨Nat.le_of_ble_eq_true rfl, Nat.le_of_ble_eq_true rfl⟩) ⟨Nat.zero_le _, Nat.zero_le _⟩ (Nat.le_of_ble_eq_true rfl) (z_kIv (I := I20) (fun I27 h => ?_))
      refine z_aload_n hC (q := 0) dX11_restore_65 rfl rfl ?_
      refine z_iconst hC (v := 0) k_iconst_0 dX11_restore_66 ?_
      refine pf_RX11_37 hC dX11_restore_67 hk1 ?_
      refine z_genI (fun I28 eI28 => ?_)
      have h := h I28 eI28
      refine z_iconst hC (v := 1) k_iconst_1 dX11_restore_70 ?_
      exact z_zret (b := true) hC dX11_restore_71 rfl ⟨true, rfl, rfl, rfl, rfl, h⟩
    · have h := h.2 hc
      refine z_iconst hC (v := 0) k_iconst_0 dX11_restore_24 ?_
      exact z_zret (b := false) hC dX11_restore_25 rfl ⟨false, rfl, rfl, rfl, rfl, h⟩
def w_X11_count  (a0 : Nat) (a1 : Int32) (K : MK) (N : MK) (I : MI) (L : ML) (R : MR) (Q : Int32 → Prop) : Prop := (a1 = 0 → K a0 = 12 ∧ ∃ b2 : Nat, R a0 1 = some b2 ∧ K b2 = 10 ∧ Q (I b2 0)) ∧ (¬ a1 = 0 → (a1 = 1 → K a0 = 12 ∧ ∃ b5 : Nat, R a0 1 = some b5 ∧ K b5 = 10 ∧ ∃ b7 : Nat, R b5 1 = some b7 ∧ K b7 = 8 ∧ Q (I b7 3)) ∧ (¬ a1 = 1 → (a1 = 2 → K a0 = 12 ∧ ∃ b10 : Nat, R a0 1 = some b10 ∧ K b10 = 10 ∧ ∃ b12 : Nat, R b10 2 = some b12 ∧ K b12 = 8 ∧ Q (I b12 3)) ∧ (¬ a1 = 2 → (a1 = 3 → K a0 = 12 ∧ ∃ b15 : Nat, R a0 1 = some b15 ∧ K b15 = 10 ∧ ∃ b17 : Nat, R b15 3 = some b17 ∧ K b17 = 8 ∧ Q (I b17 3)) ∧ (¬ a1 = 3 → (a1 = 4 → K a0 = 12 ∧ ∃ b20 : Nat, R a0 1 = some b20 ∧ K b20 = 10 ∧ ∃ b22 : Nat, R b20 4 = some b22 ∧ K b22 = 8 ∧ Q (I b22 3)) ∧ (¬ a1 = 4 → (a1 = 5 → K a0 = 12 ∧ ∃ b25 : Nat, R a0 1 = some b25 ∧ K b25 = 10 ∧ ∃ b27 : Nat, R b25 5 = some b27 ∧ K b27 = 8 ∧ Q (I b27 3)) ∧ (¬ a1 = 5 → (a1 = 6 → K a0 = 12 ∧ ∃ b30 : Nat, R a0 0 = some b30 ∧ K b30 = 9 ∧ Q (I b30 1)) ∧ (¬ a1 = 6 → Q (-1))))))))
set_option maxHeartbeats 4000000 in
set_option maxRecDepth 100000 in
theorem c_X11_count  (l : Launch) (G : ZG) (a0 : Nat) (a1 : Int32) (K : MK) (N : MK) (I : MI) (L : ML) (R : MR) (Q : Int32 → Prop) (h : w_X11_count a0 a1 K N I L R Q) : Met l yX11_count (.code yX11_count cX11_count 2 (some .int) :: z_tbl) rm_X11_count (z_Pc G [.ref a0, .int a1] K N I L R) (z_Qc G (qPi K N I L R Q)) 0 0 (z_A G) := by
  refine z_met (by decide) (Nat.le_of_ble_eq_true rfl) (fun X hX hRm hC0 hnm => ?_)
  subst hX
  have hC : ZOk X G RX11 cX11_count 2 (some .int) := hC0
  show Z X G 2 0 0 _ K N I L R 0 [(0, .ref a0), (1, .int a1)] []
  delta w_X11_count at h
  refine z_iload_n hC (q := 1) dX11_count_0 rfl rfl ?_
  by_cases hc0 : a1 = 0
  · have h := h.1 hc0
    refine z_tableIn hC (off := 43) (tgt := 44) 0 hc0 dX11_count_1 (by decide) (by decide) ?_
    refine z_aload_n hC (q := 0) dX11_count_44 rfl rfl ?_
    obtain ⟨hk1, h⟩ := h
    obtain ⟨b2, hb2, h⟩ := h
    refine gf_RX11_19 hC dX11_count_45 hk1 hb2 ?_
    obtain ⟨hk3, h⟩ := h
    refine gf_RX11_343 hC dX11_count_48 hk3 ?_
    exact z_iret hC dX11_count_51 ⟨_, rfl, rfl, rfl, rfl, rfl, rfl, h⟩
  · have h := h.2 hc0
    by_cases hc1 : a1 = 1
    · have h := h.1 hc1
      refine z_tableIn hC (off := 51) (tgt := 52) 1 hc1 dX11_count_1 (by decide) (by decide) ?_
      refine z_aload_n hC (q := 0) dX11_count_52 rfl rfl ?_
      obtain ⟨hk4, h⟩ := h
      obtain ⟨b5, hb5, h⟩ := h
      refine gf_RX11_19 hC dX11_count_53 hk4 hb5 ?_
      obtain ⟨hk6, h⟩ := h
      obtain ⟨b7, hb7, h⟩ := h
      refine gf_RX11_150 hC dX11_count_56 hk6 hb7 ?_
      obtain ⟨hk8, h⟩ := h
      refine gf_RX11_189 hC dX11_count_59 hk8 ?_
      exact z_iret hC dX11_count_62 ⟨_, rfl, rfl, rfl, rfl, rfl, rfl, h⟩
    · have h := h.2 hc1
      by_cases hc2 : a1 = 2
      · have h := h.1 hc2
        refine z_tableIn hC (off := 62) (tgt := 63) 2 hc2 dX11_count_1 (by decide) (by decide) ?_
        refine z_aload_n hC (q := 0) dX11_count_63 rfl rfl ?_
        obtain ⟨hk9, h⟩ := h
        obtain ⟨b10, hb10, h⟩ := h
        refine gf_RX11_19 hC dX11_count_64 hk9 hb10 ?_
        obtain ⟨hk11, h⟩ := h
        obtain ⟨b12, hb12, h⟩ := h
        refine gf_RX11_165 hC dX11_count_67 hk11 hb12 ?_
        obtain ⟨hk13, h⟩ := h
        refine gf_RX11_189 hC dX11_count_70 hk13 ?_
        exact z_iret hC dX11_count_73 ⟨_, rfl, rfl, rfl, rfl, rfl, rfl, h⟩
      · have h := h.2 hc2
        by_cases hc3 : a1 = 3
        · have h := h.1 hc3
          refine z_tableIn hC (off := 73) (tgt := 74) 3 hc3 dX11_count_1 (by decide) (by decide) ?_
          refine z_aload_n hC (q := 0) dX11_count_74 rfl rfl ?_
          obtain ⟨hk14, h⟩ := h
          obtain ⟨b15, hb15, h⟩ := h
          refine gf_RX11_19 hC dX11_count_75 hk14 hb15 ?_
          obtain ⟨hk16, h⟩ := h
          obtain ⟨b17, hb17, h⟩ := h
          refine gf_RX11_180 hC dX11_count_78 hk16 hb17 ?_
          obtain ⟨hk18, h⟩ := h
          refine gf_RX11_189 hC dX11_count_81 hk18 ?_
          exact z_iret hC dX11_count_84 ⟨_, rfl, rfl, rfl, rfl, rfl, rfl, h⟩
        · have h := h.2 hc3
          by_cases hc4 : a1 = 4
          · have h := h.1 hc4
            refine z_tableIn hC (off := 84) (tgt := 85) 4 hc4 dX11_count_1 (by decide) (by decide) ?_
            refine z_aload_n hC (q := 0) dX11_count_85 rfl rfl ?_
            obtain ⟨hk19, h⟩ := h
            obtain ⟨b20, hb20, h⟩ := h
            refine gf_RX11_19 hC dX11_count_86 hk19 hb20 ?_
            obtain ⟨hk21, h⟩ := h
            obtain ⟨b22, hb22, h⟩ := h
            refine gf_RX11_174 hC dX11_count_89 hk21 hb22 ?_
            obtain ⟨hk23, h⟩ := h
            refine gf_RX11_189 hC dX11_count_92 hk23 ?_
            exact z_iret hC dX11_count_95 ⟨_, rfl, rfl, rfl, rfl, rfl, rfl, h⟩
          · have h := h.2 hc4
            by_cases hc5 : a1 = 5
            · have h := h.1 hc5
              refine z_tableIn hC (off := 95) (tgt := 96) 5 hc5 dX11_count_1 (by decide) (by decide) ?_
              refine z_aload_n hC (q := 0) dX11_count_96 rfl rfl ?_
              obtain ⟨hk24, h⟩ := h
              obtain ⟨b25, hb25, h⟩ := h
              refine gf_RX11_19 hC dX11_count_97 hk24 hb25 ?_
              obtain ⟨hk26, h⟩ := h
              obtain ⟨b27, hb27, h⟩ := h
              refine gf_RX11_346 hC dX11_count_100 hk26 hb27 ?_
              obtain ⟨hk28, h⟩ := h
              refine gf_RX11_189 hC dX11_count_103 hk28 ?_
              exact z_iret hC dX11_count_106 ⟨_, rfl, rfl, rfl, rfl, rfl, rfl, h⟩
            · have h := h.2 hc5
              by_cases hc6 : a1 = 6
              · have h := h.1 hc6
                refine z_tableIn hC (off := 106) (tgt := 107) 6 hc6 dX11_count_1 (by decide) (by decide) ?_
                refine z_aload_n hC (q := 0) dX11_count_107 rfl rfl ?_
                obtain ⟨hk29, h⟩ := h
                obtain ⟨b30, hb30, h⟩ := h
                refine gf_RX11_10 hC dX11_count_108 hk29 hb30 ?_
                obtain ⟨hk31, h⟩ := h
                refine gf_RX11_120 hC dX11_count_111 hk31 ?_
                exact z_iret hC dX11_count_114 ⟨_, rfl, rfl, rfl, rfl, rfl, rfl, h⟩
              · have h := h.2 hc6
                have hout : a1.toInt < 0 ∨ 6 < a1.toInt := by
                  have hc0 := z_nei hc0 (by decide : (0 : Int32).toInt = 0)
                  have hc1 := z_nei hc1 (by decide : (1 : Int32).toInt = 1)
                  have hc2 := z_nei hc2 (by decide : (2 : Int32).toInt = 2)
                  have hc3 := z_nei hc3 (by decide : (3 : Int32).toInt = 3)
                  have hc4 := z_nei hc4 (by decide : (4 : Int32).toInt = 4)
                  have hc5 := z_nei hc5 (by decide : (5 : Int32).toInt = 5)
                  have hc6 := z_nei hc6 (by decide : (6 : Int32).toInt = 6)
                  omega
                refine z_tableOut hC (tgt := 115) dX11_count_1 hout (by decide) ?_
                refine z_iconst hC (v := (-1)) k_iconst_m1 dX11_count_115 ?_
                exact z_iret hC dX11_count_116 ⟨_, rfl, rfl, rfl, rfl, rfl, rfl, h⟩
def w_X12_thrown  (a0 : Nat) (K : MK) (N : MK) (I : MI) (L : ML) (R : MR) (Q : Int32 → Prop) : Prop := K a0 = 13 ∧ Q (I a0 0)
set_option maxHeartbeats 4000000 in
set_option maxRecDepth 100000 in
theorem c_X12_thrown  (l : Launch) (G : ZG) (a0 : Nat) (K : MK) (N : MK) (I : MI) (L : ML) (R : MR) (Q : Int32 → Prop) (h : w_X12_thrown a0 K N I L R Q) : Met l yX12_thrown (.code yX12_thrown cX12_thrown 1 (some .int) :: z_tbl) rm_X12_thrown (z_Pc G [.ref a0] K N I L R) (z_Qc G (qPi K N I L R Q)) 0 0 (z_A G) := by
  refine z_met (by decide) (Nat.le_of_ble_eq_true rfl) (fun X hX hRm hC0 hnm => ?_)
  subst hX
  have hC : ZOk X G RX12 cX12_thrown 1 (some .int) := hC0
  show Z X G 1 0 0 _ K N I L R 0 [(0, .ref a0)] []
  delta w_X12_thrown at h
  refine z_aload_n hC (q := 0) dX12_thrown_0 rfl rfl ?_
  obtain ⟨hk1, h⟩ := h
  refine gf_RX12_1 hC dX12_thrown_1 hk1 ?_
  exact z_iret hC dX12_thrown_4 ⟨_, rfl, rfl, rfl, rfl, rfl, rfl, h⟩
def w_X12_refuse  (a0 : Nat) (K : MK) (N : MK) (I : MI) (L : ML) (R : MR) (Q : Int32 → MI → Prop) : Prop := K a0 = 13 ∧ ∀ I2 : MI, I2 = mup I a0 0 1 → Q 0 I2
set_option maxHeartbeats 4000000 in
set_option maxRecDepth 100000 in
theorem c_X12_refuse  (l : Launch) (G : ZG) (a0 : Nat) (K : MK) (N : MK) (I : MI) (L : ML) (R : MR) (Q : Int32 → MI → Prop) (h : w_X12_refuse a0 K N I L R Q) : Met l yX12_refuse (.code yX12_refuse cX12_refuse 1 (some .int) :: z_tbl) rm_X12_refuse (z_Pc G [.ref a0] K N I L R) (z_Qc G (qIi K N L R Q)) 0 0 (z_A G) := by
  refine z_met (by decide) (Nat.le_of_ble_eq_true rfl) (fun X hX hRm hC0 hnm => ?_)
  subst hX
  have hC : ZOk X G RX12 cX12_refuse 1 (some .int) := hC0
  show Z X G 1 0 0 _ K N I L R 0 [(0, .ref a0)] []
  delta w_X12_refuse at h
  refine z_aload_n hC (q := 0) dX12_refuse_0 rfl rfl ?_
  refine z_iconst hC (v := 1) k_iconst_1 dX12_refuse_1 ?_
  obtain ⟨hk1, h⟩ := h
  refine pf_RX12_1 hC dX12_refuse_2 hk1 ?_
  refine z_genI (fun I2 eI2 => ?_)
  have h := h I2 eI2
  refine z_iconst hC (v := 0) k_iconst_0 dX12_refuse_5 ?_
  exact z_iret hC dX12_refuse_6 ⟨_, rfl, rfl, rfl, rfl, rfl, h⟩
def w_X12_come_3  (x0 : Nat) (x1 : Int32) (x2 : Int32)  (K : MK) (N : MK) (I : MI) (L : ML) (R : MR)  (Q : MI → Prop) : Prop := ∃ J : Nat → Nat → Int32 → Int32 → MI → Prop, (∃ n, J n x0 x1 x2 I) ∧ ∀ (n : Nat) (x0 : Nat) (x1 : Int32) (x2 : Int32) (I : MI), J n x0 x1 x2 I → (x2 < 0 → Q I) ∧ (¬ x2 < 0 → K x0 = 13 ∧ ∃ b2 : Nat, R x0 1 = some b2 ∧ K b2 = 14 ∧ vp_in (I x0 2) (N b2) ∧ ∀ I5 : MI, I5 = mup I b2 (ix (I x0 2)) ((ushr x1 x2) &&& 255) → ∀ I6 : MI, I6 = mup I5 x0 2 ((I5 x0 2) + 1) → ∀ v7 : Int32, v7 = x2 + (-8) → ∃ n1, n1 < n ∧ J n1 x0 x1 v7 I6)
def w_X12_come  (a0 : Nat) (a1 : Int32) (K : MK) (N : MK) (I : MI) (L : ML) (R : MR) (Q : MI → Prop) : Prop := w_X12_come_3 a0 a1 24 K N I L R Q
set_option maxHeartbeats 4000000 in
set_option maxRecDepth 100000 in
theorem z_X12_come_3 {X : ZX} {G : ZG}  {x0 : Nat} {x1 : Int32} {x2 : Int32}  {K : MK} {N : MK} {I : MI} {L : ML} {R : MR}  {Q : MI → Prop} (hC : ZOk X G RX12 cX12_come 3 none) (hRm : X.2.2.2.1 = rm_X12_come) (h : w_X12_come_3 x0 x1 x2 K N I L R  Q) : Z X G 3 0 0 (z_T X G (qIv K N L R Q) 0 0) K N I L R 3 [(0, .ref x0), (1, .int x1), (2, .int x2)] [] := by
  delta w_X12_come_3 at h
  obtain ⟨J, ⟨n, h0⟩, hs⟩ := h
  have key : ∀ (n : Nat) (x0 : Nat) (x1 : Int32) (x2 : Int32) (I : MI), J n x0 x1 x2 I → Z X G 3 0 0 (z_T X G (qIv K N L R Q) 0 0) K N I L R 3 [(0, .ref x0), (1, .int x1), (2, .int x2)] [] := by
    intro n
    induction n using Nat.strongRecOn with
    | _ n ih =>
      intro x0 x1 x2 I hJ
      have hC3 : ∀ (y0 : Nat) (y1 : Int32) (y2 : Int32) (zI : MI), (∃ n1, n1 < n ∧ J n1 y0 y1 y2 zI) → Z X G 3 0 0 (z_T X G (qIv K N L R Q) 0 0) K N zI L R 3 [(0, .ref y0), (1, .int y1), (2, .int y2)] [] := fun y0 y1 y2 zI ⟨n1, hn1, hj⟩ => ih n1 hn1 y0 y1 y2 zI hj
      have h := hs n x0 x1 x2 I hJ
      refine z_iload_n hC (q := 2) dX12_come_3 rfl rfl ?_
      refine z_if_lt hC (tgt := 39) dX12_come_4 (by decide) (fun hc => ?_) (fun hc => ?_)
      · have h := h.1 hc
        exact z_vret hC dX12_come_39 ⟨rfl, rfl, rfl, rfl, rfl, h⟩
      · have h := h.2 hc
        refine z_aload_n hC (q := 0) dX12_come_7 rfl rfl ?_
        obtain ⟨hk1, h⟩ := h
        obtain ⟨b2, hb2, h⟩ := h
        refine gf_RX12_7 hC dX12_come_8 hk1 hb2 ?_
        refine z_aload_n hC (q := 0) dX12_come_11 rfl rfl ?_
        refine gf_RX12_11 hC dX12_come_12 hk1 ?_
        refine z_iload_n hC (q := 1) dX12_come_15 rfl rfl ?_
        refine z_iload_n hC (q := 2) dX12_come_16 rfl rfl ?_
        refine z_iushr hC dX12_come_17 ?_
        refine z_sipush hC (v := 255) k_sipush_255 dX12_come_18 ?_
        refine z_iand hC dX12_come_21 ?_
        obtain ⟨hk3, h⟩ := h
        obtain ⟨hi4, h⟩ := h
        refine z_iastore hC hk3 hi4 dX12_come_22 ?_
        refine z_genI (fun I5 eI5 => ?_)
        have h := h I5 eI5
        refine z_aload_n hC (q := 0) dX12_come_23 rfl rfl ?_
        refine z_dup hC rfl dX12_come_24 ?_
        refine gf_RX12_11 hC dX12_come_25 hk1 ?_
        refine z_iconst hC (v := 1) k_iconst_1 dX12_come_28 ?_
        refine z_iadd hC dX12_come_29 ?_
        refine pf_RX12_11 hC dX12_come_30 hk1 ?_
        refine z_genI (fun I6 eI6 => ?_)
        have h := h I6 eI6
        obtain ⟨v7, ev7⟩ : ∃ y : Int32, y = x2 + (-8) := ⟨_, rfl⟩
        have h := h v7 ev7
        refine z_iinc hC (q := 2) (v := v7) (lv1 := [(2, .int v7), (0, .ref x0), (1, .int x1)]) dX12_come_33 rfl (by rw [ev7, k_iinc_m8]) (by decide) rfl ?_
        refine z_goto hC (tgt := 3) dX12_come_36 (by decide) ?_
        exact z_sub [(0, .ref x0), (1, .int x1), (2, .int v7)] [1, 2, 0] rfl (hC3 _ _ _ _ h)
  exact key n x0 x1 x2 I h0
set_option maxHeartbeats 4000000 in
set_option maxRecDepth 100000 in
theorem c_X12_come  (l : Launch) (G : ZG) (a0 : Nat) (a1 : Int32) (K : MK) (N : MK) (I : MI) (L : ML) (R : MR) (Q : MI → Prop) (h : w_X12_come a0 a1 K N I L R Q) : Met l yX12_come (.code yX12_come cX12_come 3 none :: z_tbl) rm_X12_come (z_Pc G [.ref a0, .int a1] K N I L R) (z_Qc G (qIv K N L R Q)) 0 0 (z_A G) := by
  refine z_met (by decide) (Nat.le_of_ble_eq_true rfl) (fun X hX hRm hC0 hnm => ?_)
  subst hX
  have hC : ZOk X G RX12 cX12_come 3 none := hC0
  show Z X G 3 0 0 _ K N I L R 0 [(0, .ref a0), (1, .int a1)] []
  delta w_X12_come at h
  refine z_bipush hC (v := 24) k_bipush_24 dX12_come_0 ?_
  refine z_istore_n hC (lv1 := [(2, .int 24), (0, .ref a0), (1, .int a1)]) dX12_come_2 rfl (by decide) rfl ?_
  exact z_sub [(0, .ref a0), (1, .int a1), (2, .int 24)] [1, 2, 0] rfl (z_X12_come_3 hC hRm h)
def w_X12_feed  (a0 : Nat) (a1 : Int32) (a2 : Int32) (a3 : Int32) (a4 : Int32) (a5 : Int32) (K : MK) (N : MK) (I : MI) (L : ML) (R : MR) (Q : Int32 → MI → Prop) : Prop := K a0 = 13 ∧ ∀ I2 : MI, I2 = mup I a0 0 0 → (((I2 a0 2) + 20) ≤ 940 → w_X12_come a0 a1 K N I2 L R (fun I3 => w_X12_come a0 a2 K N I3 L R (fun I4 => w_X12_come a0 a3 K N I4 L R (fun I5 => w_X12_come a0 a4 K N I5 L R (fun I6 => w_X12_come a0 a5 K N I6 L R (fun I7 => Q (I7 a0 2) I7)))))) ∧ (¬ ((I2 a0 2) + 20) ≤ 940 → Q (-1) I2)
set_option maxHeartbeats 4000000 in
set_option maxRecDepth 100000 in
theorem c_X12_feed  (l : Launch) (G : ZG) (a0 : Nat) (a1 : Int32) (a2 : Int32) (a3 : Int32) (a4 : Int32) (a5 : Int32) (K : MK) (N : MK) (I : MI) (L : ML) (R : MR) (Q : Int32 → MI → Prop) (h : w_X12_feed a0 a1 a2 a3 a4 a5 K N I L R Q) : Met l yX12_feed (.code yX12_feed cX12_feed 6 (some .int) :: z_tbl) rm_X12_feed (z_Pc G [.ref a0, .int a1, .int a2, .int a3, .int a4, .int a5] K N I L R) (z_Qc G (qIi K N L R Q)) 0 0 (z_A G) := by
  refine z_met (by decide) (Nat.le_of_ble_eq_true rfl) (fun X hX hRm hC0 hnm => ?_)
  subst hX
  have hC : ZOk X G RX12 cX12_feed 6 (some .int) := hC0
  show Z X G 6 0 0 _ K N I L R 0 [(0, .ref a0), (1, .int a1), (2, .int a2), (3, .int a3), (4, .int a4), (5, .int a5)] []
  delta w_X12_feed at h
  refine z_aload_n hC (q := 0) dX12_feed_0 rfl rfl ?_
  refine z_iconst hC (v := 0) k_iconst_0 dX12_feed_1 ?_
  obtain ⟨hk1, h⟩ := h
  refine pf_RX12_1 hC dX12_feed_2 hk1 ?_
  refine z_genI (fun I2 eI2 => ?_)
  have h := h I2 eI2
  refine z_aload_n hC (q := 0) dX12_feed_5 rfl rfl ?_
  refine gf_RX12_11 hC dX12_feed_6 hk1 ?_
  refine z_bipush hC (v := 20) k_bipush_20 dX12_feed_9 ?_
  refine z_iadd hC dX12_feed_11 ?_
  refine z_sipush hC (v := 940) k_sipush_940 dX12_feed_12 ?_
  refine z_icmp_le hC (tgt := 20) dX12_feed_15 (by decide) (fun hc => ?_) (fun hc => ?_)
  · have h := h.1 hc
    refine z_aload_n hC (q := 0) dX12_feed_20 rfl rfl ?_
    refine z_iload_n hC (q := 1) dX12_feed_21 rfl rfl ?_
    refine cl_RX12_14 hC (c_X12_come _ G a0 a1 K N I2 L R _ h) hk1 dX12_feed_22 (by rw [hRm]; exact ⟨Nat.le_of_ble_eq_true rfl, Nat.le_of_ble_eq_true rfl⟩) ⟨Nat.zero_le _, Nat.zero_le _⟩ (Nat.le_of_ble_eq_true rfl) (z_kIv (I := I2) (fun I3 h => ?_))
    refine z_aload_n hC (q := 0) dX12_feed_25 rfl rfl ?_
    refine z_iload_n hC (q := 2) dX12_feed_26 rfl rfl ?_
    refine cl_RX12_14 hC (c_X12_come _ G a0 a2 K N I3 L R _ h) hk1 dX12_feed_27 (by rw [hRm]; exact ⟨Nat.le_of_ble_eq_true rfl, Nat.le_of_ble_eq_true rfl⟩) ⟨Nat.zero_le _, Nat.zero_le _⟩ (Nat.le_of_ble_eq_true rfl) (z_kIv (I := I3) (fun I4 h => ?_))
    refine z_aload_n hC (q := 0) dX12_feed_30 rfl rfl ?_
    refine z_iload_n hC (q := 3) dX12_feed_31 rfl rfl ?_
    refine cl_RX12_14 hC (c_X12_come _ G a0 a3 K N I4 L R _ h) hk1 dX12_feed_32 (by rw [hRm]; exact ⟨Nat.le_of_ble_eq_true rfl, Nat.le_of_ble_eq_true rfl⟩) ⟨Nat.zero_le _, Nat.zero_le _⟩ (Nat.le_of_ble_eq_true rfl) (z_kIv (I := I4) (fun I5 h => ?_))
    refine z_aload_n hC (q := 0) dX12_feed_35 rfl rfl ?_
    refine z_iload hC (q := 4) dX12_feed_36 rfl ?_
    refine cl_RX12_14 hC (c_X12_come _ G a0 a4 K N I5 L R _ h) hk1 dX12_feed_38 (by rw [hRm]; exact ⟨Nat.le_of_ble_eq_true rfl, Nat.le_of_ble_eq_true rfl⟩) ⟨Nat.zero_le _, Nat.zero_le _⟩ (Nat.le_of_ble_eq_true rfl) (z_kIv (I := I5) (fun I6 h => ?_))
    refine z_aload_n hC (q := 0) dX12_feed_41 rfl rfl ?_
    refine z_iload hC (q := 5) dX12_feed_42 rfl ?_
    refine cl_RX12_14 hC (c_X12_come _ G a0 a5 K N I6 L R _ h) hk1 dX12_feed_44 (by rw [hRm]; exact ⟨Nat.le_of_ble_eq_true rfl, Nat.le_of_ble_eq_true rfl⟩) ⟨Nat.zero_le _, Nat.zero_le _⟩ (Nat.le_of_ble_eq_true rfl) (z_kIv (I := I6) (fun I7 h => ?_))
    refine z_aload_n hC (q := 0) dX12_feed_47 rfl rfl ?_
    refine gf_RX12_11 hC dX12_feed_48 hk1 ?_
    exact z_iret hC dX12_feed_51 ⟨_, rfl, rfl, rfl, rfl, rfl, h⟩
  · have h := h.2 hc
    refine z_iconst hC (v := (-1)) k_iconst_m1 dX12_feed_18 ?_
    exact z_iret hC dX12_feed_19 ⟨_, rfl, rfl, rfl, rfl, rfl, h⟩
def w_X12_end  (a0 : Nat) (a1 : Int32) (K : MK) (N : MK) (I : MI) (L : ML) (R : MR) (Q : Bool → MI → Prop) : Prop := K a0 = 13 ∧ ∀ I2 : MI, I2 = mup I a0 0 0 → (a1 < 0 → Q false I2) ∧ (¬ a1 < 0 → (a1 ≤ (I2 a0 2) → ∀ I3 : MI, I3 = mup I2 a0 2 a1 → Q true I3) ∧ (¬ a1 ≤ (I2 a0 2) → Q false I2))
set_option maxHeartbeats 4000000 in
set_option maxRecDepth 100000 in
theorem c_X12_end  (l : Launch) (G : ZG) (a0 : Nat) (a1 : Int32) (K : MK) (N : MK) (I : MI) (L : ML) (R : MR) (Q : Bool → MI → Prop) (h : w_X12_end a0 a1 K N I L R Q) : Met l yX12_end (.code yX12_end cX12_end 2 (some .boolean) :: z_tbl) rm_X12_end (z_Pc G [.ref a0, .int a1] K N I L R) (z_Qc G (qIz K N L R Q)) 0 0 (z_A G) := by
  refine z_met (by decide) (Nat.le_of_ble_eq_true rfl) (fun X hX hRm hC0 hnm => ?_)
  subst hX
  have hC : ZOk X G RX12 cX12_end 2 (some .boolean) := hC0
  show Z X G 2 0 0 _ K N I L R 0 [(0, .ref a0), (1, .int a1)] []
  delta w_X12_end at h
  refine z_aload_n hC (q := 0) dX12_end_0 rfl rfl ?_
  refine z_iconst hC (v := 0) k_iconst_0 dX12_end_1 ?_
  obtain ⟨hk1, h⟩ := h
  refine pf_RX12_1 hC dX12_end_2 hk1 ?_
  refine z_genI (fun I2 eI2 => ?_)
  have h := h I2 eI2
  refine z_iload_n hC (q := 1) dX12_end_5 rfl rfl ?_
  refine z_if_lt hC (tgt := 17) dX12_end_6 (by decide) (fun hc => ?_) (fun hc => ?_)
  · have h := h.1 hc
    refine z_iconst hC (v := 0) k_iconst_0 dX12_end_17 ?_
    exact z_zret (b := false) hC dX12_end_18 rfl ⟨false, rfl, rfl, rfl, rfl, rfl, h⟩
  · have h := h.2 hc
    refine z_iload_n hC (q := 1) dX12_end_9 rfl rfl ?_
    refine z_aload_n hC (q := 0) dX12_end_10 rfl rfl ?_
    refine gf_RX12_11 hC dX12_end_11 hk1 ?_
    refine z_icmp_le hC (tgt := 19) dX12_end_14 (by decide) (fun hc => ?_) (fun hc => ?_)
    · have h := h.1 hc
      refine z_aload_n hC (q := 0) dX12_end_19 rfl rfl ?_
      refine z_iload_n hC (q := 1) dX12_end_20 rfl rfl ?_
      refine pf_RX12_11 hC dX12_end_21 hk1 ?_
      refine z_genI (fun I3 eI3 => ?_)
      have h := h I3 eI3
      refine z_iconst hC (v := 1) k_iconst_1 dX12_end_24 ?_
      exact z_zret (b := true) hC dX12_end_25 rfl ⟨true, rfl, rfl, rfl, rfl, rfl, h⟩
    · have h := h.2 hc
      refine z_iconst hC (v := 0) k_iconst_0 dX12_end_17 ?_
      exact z_zret (b := false) hC dX12_end_18 rfl ⟨false, rfl, rfl, rfl, rfl, rfl, h⟩
def w_X12_take  (a0 : Nat) (K : MK) (N : MK) (I : MI) (L : ML) (R : MR) (Q : Int32 → MI → Prop) : Prop := K a0 = 13 ∧ ∀ v2 : Int32, v2 = (I a0 2) → ∀ I3 : MI, I3 = mup I a0 2 0 → Q v2 I3
set_option maxHeartbeats 4000000 in
set_option maxRecDepth 100000 in
theorem c_X12_take  (l : Launch) (G : ZG) (a0 : Nat) (K : MK) (N : MK) (I : MI) (L : ML) (R : MR) (Q : Int32 → MI → Prop) (h : w_X12_take a0 K N I L R Q) : Met l yX12_take (.code yX12_take cX12_take 2 (some .int) :: z_tbl) rm_X12_take (z_Pc G [.ref a0] K N I L R) (z_Qc G (qIi K N L R Q)) 0 0 (z_A G) := by
  refine z_met (by decide) (Nat.le_of_ble_eq_true rfl) (fun X hX hRm hC0 hnm => ?_)
  subst hX
  have hC : ZOk X G RX12 cX12_take 2 (some .int) := hC0
  show Z X G 2 0 0 _ K N I L R 0 [(0, .ref a0)] []
  delta w_X12_take at h
  refine z_aload_n hC (q := 0) dX12_take_0 rfl rfl ?_
  obtain ⟨hk1, h⟩ := h
  refine gf_RX12_11 hC dX12_take_1 hk1 ?_
  refine z_topi (fun v2 ev2 => ?_)
  have h := h v2 ev2
  refine z_istore_n hC (lv1 := [(1, .int v2), (0, .ref a0)]) dX12_take_4 rfl (by decide) rfl ?_
  refine z_aload_n hC (q := 1) dX12_take_5 rfl rfl ?_
  refine z_iconst hC (v := 0) k_iconst_0 dX12_take_6 ?_
  refine pf_RX12_11 hC dX12_take_7 hk1 ?_
  refine z_genI (fun I3 eI3 => ?_)
  have h := h I3 eI3
  refine z_iload_n hC (q := 0) dX12_take_10 rfl rfl ?_
  exact z_iret hC dX12_take_11 ⟨_, rfl, rfl, rfl, rfl, rfl, h⟩
def w_X12_isIn  (a0 : Int32) (a1 : Int32) (a2 : Int32) (K : MK) (N : MK) (I : MI) (L : ML) (R : MR) (Q : Bool → Prop) : Prop := (a0 < a1 → Q false) ∧ (¬ a0 < a1 → (a2 < a0 → Q false) ∧ (¬ a2 < a0 → Q true))
set_option maxHeartbeats 4000000 in
set_option maxRecDepth 100000 in
theorem c_X12_isIn  (l : Launch) (G : ZG) (a0 : Int32) (a1 : Int32) (a2 : Int32) (K : MK) (N : MK) (I : MI) (L : ML) (R : MR) (Q : Bool → Prop) (h : w_X12_isIn a0 a1 a2 K N I L R Q) : Met l yX12_isIn (.code yX12_isIn cX12_isIn 3 (some .boolean) :: z_tbl) rm_X12_isIn (z_Pc G [.int a0, .int a1, .int a2] K N I L R) (z_Qc G (qPz K N I L R Q)) 0 0 (z_A G) := by
  refine z_met (by decide) (Nat.le_of_ble_eq_true rfl) (fun X hX hRm hC0 hnm => ?_)
  subst hX
  have hC : ZOk X G RX12 cX12_isIn 3 (some .boolean) := hC0
  show Z X G 3 0 0 _ K N I L R 0 [(0, .int a0), (1, .int a1), (2, .int a2)] []
  delta w_X12_isIn at h
  refine z_iload_n hC (q := 0) dX12_isIn_0 rfl rfl ?_
  refine z_iload_n hC (q := 1) dX12_isIn_1 rfl rfl ?_
  refine z_icmp_lt hC (tgt := 14) dX12_isIn_2 (by decide) (fun hc => ?_) (fun hc => ?_)
  · have h := h.1 hc
    refine z_iconst hC (v := 0) k_iconst_0 dX12_isIn_14 ?_
    exact z_zret (b := false) hC dX12_isIn_15 rfl ⟨false, rfl, rfl, rfl, rfl, rfl, rfl, h⟩
  · have h := h.2 hc
    refine z_iload_n hC (q := 0) dX12_isIn_5 rfl rfl ?_
    refine z_iload_n hC (q := 2) dX12_isIn_6 rfl rfl ?_
    refine z_icmp_gt hC (tgt := 14) dX12_isIn_7 (by decide) (fun hc => ?_) (fun hc => ?_)
    · have h := h.1 hc
      refine z_iconst hC (v := 0) k_iconst_0 dX12_isIn_14 ?_
      exact z_zret (b := false) hC dX12_isIn_15 rfl ⟨false, rfl, rfl, rfl, rfl, rfl, rfl, h⟩
    · have h := h.2 hc
      refine z_iconst hC (v := 1) k_iconst_1 dX12_isIn_10 ?_
      refine z_goto hC (tgt := 15) dX12_isIn_11 (by decide) ?_
      exact z_zret (b := true) hC dX12_isIn_15 rfl ⟨true, rfl, rfl, rfl, rfl, rfl, rfl, h⟩
def w_X12_has  (a0 : Int32) (a1 : Int32) (K : MK) (N : MK) (I : MI) (L : ML) (R : MR) (Q : Bool → Prop) : Prop := (¬ ((a0 >>> (a1 &&& 31)) &&& 1) = 1 → Q false) ∧ (((a0 >>> (a1 &&& 31)) &&& 1) = 1 → Q true)
set_option maxHeartbeats 4000000 in
set_option maxRecDepth 100000 in
theorem c_X12_has  (l : Launch) (G : ZG) (a0 : Int32) (a1 : Int32) (K : MK) (N : MK) (I : MI) (L : ML) (R : MR) (Q : Bool → Prop) (h : w_X12_has a0 a1 K N I L R Q) : Met l yX12_has (.code yX12_has cX12_has 2 (some .boolean) :: z_tbl) rm_X12_has (z_Pc G [.int a0, .int a1] K N I L R) (z_Qc G (qPz K N I L R Q)) 0 0 (z_A G) := by
  refine z_met (by decide) (Nat.le_of_ble_eq_true rfl) (fun X hX hRm hC0 hnm => ?_)
  subst hX
  have hC : ZOk X G RX12 cX12_has 2 (some .boolean) := hC0
  show Z X G 2 0 0 _ K N I L R 0 [(0, .int a0), (1, .int a1)] []
  delta w_X12_has at h
  refine z_iload_n hC (q := 0) dX12_has_0 rfl rfl ?_
  refine z_iload_n hC (q := 1) dX12_has_1 rfl rfl ?_
  refine z_ishr hC dX12_has_2 ?_
  refine z_iconst hC (v := 1) k_iconst_1 dX12_has_3 ?_
  refine z_iand hC dX12_has_4 ?_
  refine z_iconst hC (v := 1) k_iconst_1 dX12_has_5 ?_
  refine z_icmp_ne hC (tgt := 13) dX12_has_6 (by decide) (fun hc => ?_) (fun hc => ?_)
  · have h := h.1 hc
    refine z_iconst hC (v := 0) k_iconst_0 dX12_has_13 ?_
    exact z_zret (b := false) hC dX12_has_14 rfl ⟨false, rfl, rfl, rfl, rfl, rfl, rfl, h⟩
  · have h := h.2 hc
    refine z_iconst hC (v := 1) k_iconst_1 dX12_has_9 ?_
    refine z_goto hC (tgt := 14) dX12_has_10 (by decide) ?_
    exact z_zret (b := true) hC dX12_has_14 rfl ⟨true, rfl, rfl, rfl, rfl, rfl, rfl, h⟩
def w_X12_size  (a0 : Int32) (K : MK) (N : MK) (I : MI) (L : ML) (R : MR) (Q : Int32 → Prop) : Prop := ((0 : Int32) ≤ a0 → Q a0) ∧ (¬ (0 : Int32) ≤ a0 → Q (-a0))
set_option maxHeartbeats 4000000 in
set_option maxRecDepth 100000 in
theorem c_X12_size  (l : Launch) (G : ZG) (a0 : Int32) (K : MK) (N : MK) (I : MI) (L : ML) (R : MR) (Q : Int32 → Prop) (h : w_X12_size a0 K N I L R Q) : Met l yX12_size (.code yX12_size cX12_size 1 (some .int) :: z_tbl) rm_X12_size (z_Pc G [.int a0] K N I L R) (z_Qc G (qPi K N I L R Q)) 0 0 (z_A G) := by
  refine z_met (by decide) (Nat.le_of_ble_eq_true rfl) (fun X hX hRm hC0 hnm => ?_)
  subst hX
  have hC : ZOk X G RX12 cX12_size 1 (some .int) := hC0
  show Z X G 1 0 0 _ K N I L R 0 [(0, .int a0)] []
  delta w_X12_size at h
  refine z_iload_n hC (q := 0) dX12_size_0 rfl rfl ?_
  refine z_if_ge hC (tgt := 9) dX12_size_1 (by decide) (fun hc => ?_) (fun hc => ?_)
  · have h := h.1 hc
    refine z_iload_n hC (q := 0) dX12_size_9 rfl rfl ?_
    exact z_iret hC dX12_size_10 ⟨_, rfl, rfl, rfl, rfl, rfl, rfl, h⟩
  · have h := h.2 hc
    refine z_iload_n hC (q := 0) dX12_size_4 rfl rfl ?_
    refine z_ineg hC dX12_size_5 ?_
    refine z_goto hC (tgt := 10) dX12_size_6 (by decide) ?_
    exact z_iret hC dX12_size_10 ⟨_, rfl, rfl, rfl, rfl, rfl, rfl, h⟩
def w_X12_common_4  (x2 : Int32) (x3 : Int32)  (K : MK) (N : MK) (I : MI) (L : ML) (R : MR)  (Q : Int32 → Prop) : Prop := ∃ J : Nat → Int32 → Int32 → Prop, (∃ n, J n x2 x3) ∧ ∀ (n : Nat) (x2 : Int32) (x3 : Int32), J n x2 x3 → (x3 = 0 → Q x2) ∧ (¬ x3 = 0 → ¬ x3 = 0 ∧ ∀ v2 : Int32, v2 = (x2 - x2 / x3 * x3) → ∃ n1, n1 < n ∧ J n1 x3 v2)
def w_X12_common  (a0 : Int32) (a1 : Int32) (K : MK) (N : MK) (I : MI) (L : ML) (R : MR) (Q : Int32 → Prop) : Prop := w_X12_common_4 a0 a1 K N I L R Q
set_option maxHeartbeats 4000000 in
set_option maxRecDepth 100000 in
theorem z_X12_common_4 {X : ZX} {G : ZG}  {x2 : Int32} {x3 : Int32}  {K : MK} {N : MK} {I : MI} {L : ML} {R : MR}  {Q : Int32 → Prop} (hC : ZOk X G RX12 cX12_common 5 (some .int)) (hRm : X.2.2.2.1 = rm_X12_common) (h : w_X12_common_4 x2 x3 K N I L R  Q) : Z X G 5 0 0 (z_T X G (qPi K N I L R Q) 0 0) K N I L R 4 [(2, .int x2), (3, .int x3)] [] := by
  delta w_X12_common_4 at h
  obtain ⟨J, ⟨n, h0⟩, hs⟩ := h
  have key : ∀ (n : Nat) (x2 : Int32) (x3 : Int32), J n x2 x3 → Z X G 5 0 0 (z_T X G (qPi K N I L R Q) 0 0) K N I L R 4 [(2, .int x2), (3, .int x3)] [] := by
    intro n
    induction n using Nat.strongRecOn with
    | _ n ih =>
      intro x2 x3 hJ
      have hC4 : ∀ (y0 : Int32) (y1 : Int32) , (∃ n1, n1 < n ∧ J n1 y0 y1) → Z X G 5 0 0 (z_T X G (qPi K N I L R Q) 0 0) K N I L R 4 [(2, .int y0), (3, .int y1)] [] := fun y0 y1 ⟨n1, hn1, hj⟩ => ih n1 hn1 y0 y1 hj
      have h := hs n x2 x3 hJ
      refine z_iload_n hC (q := 1) dX12_common_4 rfl rfl ?_
      refine z_if_eq hC (tgt := 21) dX12_common_5 (by decide) (fun hc => ?_) (fun hc => ?_)
      · have h := h.1 hc
        refine z_iload_n hC (q := 0) dX12_common_21 rfl rfl ?_
        exact z_iret hC dX12_common_22 ⟨_, rfl, rfl, rfl, rfl, rfl, rfl, h⟩
      · have h := h.2 hc
        refine z_iload_n hC (q := 0) dX12_common_8 rfl rfl ?_
        refine z_iload_n hC (q := 1) dX12_common_9 rfl rfl ?_
        obtain ⟨hz1, h⟩ := h
        refine z_irem hC hz1 dX12_common_10 ?_
        refine z_topi (fun v2 ev2 => ?_)
        have h := h v2 ev2
        refine z_istore hC (lv1 := [(4, .int v2), (2, .int x2), (3, .int x3)]) dX12_common_11 (by decide) rfl ?_
        refine z_iload_n hC (q := 2) dX12_common_13 rfl rfl ?_
        refine z_istore_n hC (lv1 := [(2, .int x3), (4, .int v2), (3, .int x3)]) dX12_common_14 rfl (by decide) rfl ?_
        refine z_iload hC (q := 1) dX12_common_15 rfl ?_
        refine z_istore_n hC (lv1 := [(3, .int v2), (2, .int x3), (4, .int v2)]) dX12_common_17 rfl (by decide) rfl ?_
        refine z_goto hC (tgt := 4) dX12_common_18 (by decide) ?_
        exact z_sub [(2, .int x3), (3, .int v2)] [1, 0] rfl (hC4 _ _ h)
  exact key n x2 x3 h0
set_option maxHeartbeats 4000000 in
set_option maxRecDepth 100000 in
theorem c_X12_common  (l : Launch) (G : ZG) (a0 : Int32) (a1 : Int32) (K : MK) (N : MK) (I : MI) (L : ML) (R : MR) (Q : Int32 → Prop) (h : w_X12_common a0 a1 K N I L R Q) : Met l yX12_common (.code yX12_common cX12_common 5 (some .int) :: z_tbl) rm_X12_common (z_Pc G [.int a0, .int a1] K N I L R) (z_Qc G (qPi K N I L R Q)) 0 0 (z_A G) := by
  refine z_met (by decide) (Nat.le_of_ble_eq_true rfl) (fun X hX hRm hC0 hnm => ?_)
  subst hX
  have hC : ZOk X G RX12 cX12_common 5 (some .int) := hC0
  show Z X G 5 0 0 _ K N I L R 0 [(0, .int a0), (1, .int a1)] []
  delta w_X12_common at h
  refine z_iload_n hC (q := 0) dX12_common_0 rfl rfl ?_
  refine z_istore_n hC (lv1 := [(2, .int a0), (0, .int a0), (1, .int a1)]) dX12_common_1 rfl (by decide) rfl ?_
  refine z_iload_n hC (q := 2) dX12_common_2 rfl rfl ?_
  refine z_istore_n hC (lv1 := [(3, .int a1), (2, .int a0), (0, .int a0), (1, .int a1)]) dX12_common_3 rfl (by decide) rfl ?_
  exact z_sub [(2, .int a0), (3, .int a1)] [1, 0] rfl (z_X12_common_4 hC hRm h)
def w_X12_tapeAt  (a0 : Nat) (a1 : Int32) (K : MK) (N : MK) (I : MI) (L : ML) (R : MR) (Q : Int32 → Prop) : Prop := K a0 = 13 ∧ ((I a0 3) ≤ a1 → Q 0) ∧ (¬ (I a0 3) ≤ a1 → ∃ b2 : Nat, R a0 1 = some b2 ∧ K b2 = 14 ∧ vp_in a1 (N b2) ∧ Q (I b2 (ix a1)))
set_option maxHeartbeats 4000000 in
set_option maxRecDepth 100000 in
theorem c_X12_tapeAt  (l : Launch) (G : ZG) (a0 : Nat) (a1 : Int32) (K : MK) (N : MK) (I : MI) (L : ML) (R : MR) (Q : Int32 → Prop) (h : w_X12_tapeAt a0 a1 K N I L R Q) : Met l yX12_tapeAt (.code yX12_tapeAt cX12_tapeAt 2 (some .int) :: z_tbl) rm_X12_tapeAt (z_Pc G [.ref a0, .int a1] K N I L R) (z_Qc G (qPi K N I L R Q)) 0 0 (z_A G) := by
  refine z_met (by decide) (Nat.le_of_ble_eq_true rfl) (fun X hX hRm hC0 hnm => ?_)
  subst hX
  have hC : ZOk X G RX12 cX12_tapeAt 2 (some .int) := hC0
  show Z X G 2 0 0 _ K N I L R 0 [(0, .ref a0), (1, .int a1)] []
  delta w_X12_tapeAt at h
  refine z_iload_n hC (q := 1) dX12_tapeAt_0 rfl rfl ?_
  refine z_aload_n hC (q := 0) dX12_tapeAt_1 rfl rfl ?_
  obtain ⟨hk1, h⟩ := h
  refine gf_RX12_18 hC dX12_tapeAt_2 hk1 ?_
  refine z_icmp_ge hC (tgt := 17) dX12_tapeAt_5 (by decide) (fun hc => ?_) (fun hc => ?_)
  · have h := h.1 hc
    refine z_iconst hC (v := 0) k_iconst_0 dX12_tapeAt_17 ?_
    exact z_iret hC dX12_tapeAt_18 ⟨_, rfl, rfl, rfl, rfl, rfl, rfl, h⟩
  · have h := h.2 hc
    refine z_aload_n hC (q := 0) dX12_tapeAt_8 rfl rfl ?_
    obtain ⟨b2, hb2, h⟩ := h
    refine gf_RX12_7 hC dX12_tapeAt_9 hk1 hb2 ?_
    refine z_iload_n hC (q := 1) dX12_tapeAt_12 rfl rfl ?_
    obtain ⟨hk3, h⟩ := h
    obtain ⟨hi4, h⟩ := h
    refine z_iaload hC hk3 hi4 dX12_tapeAt_13 ?_
    refine z_goto hC (tgt := 18) dX12_tapeAt_14 (by decide) ?_
    exact z_iret hC dX12_tapeAt_18 ⟨_, rfl, rfl, rfl, rfl, rfl, rfl, h⟩
def w_X12_isDigit  (a0 : Int32) (K : MK) (N : MK) (I : MI) (L : ML) (R : MR) (Q : Bool → Prop) : Prop := (a0 < 48 → Q false) ∧ (¬ a0 < 48 → ((57 : Int32) < a0 → Q false) ∧ (¬ (57 : Int32) < a0 → Q true))
set_option maxHeartbeats 4000000 in
set_option maxRecDepth 100000 in
theorem c_X12_isDigit  (l : Launch) (G : ZG) (a0 : Int32) (K : MK) (N : MK) (I : MI) (L : ML) (R : MR) (Q : Bool → Prop) (h : w_X12_isDigit a0 K N I L R Q) : Met l yX12_isDigit (.code yX12_isDigit cX12_isDigit 1 (some .boolean) :: z_tbl) rm_X12_isDigit (z_Pc G [.int a0] K N I L R) (z_Qc G (qPz K N I L R Q)) 0 0 (z_A G) := by
  refine z_met (by decide) (Nat.le_of_ble_eq_true rfl) (fun X hX hRm hC0 hnm => ?_)
  subst hX
  have hC : ZOk X G RX12 cX12_isDigit 1 (some .boolean) := hC0
  show Z X G 1 0 0 _ K N I L R 0 [(0, .int a0)] []
  delta w_X12_isDigit at h
  refine z_iload_n hC (q := 0) dX12_isDigit_0 rfl rfl ?_
  refine z_bipush hC (v := 48) k_bipush_48 dX12_isDigit_1 ?_
  refine z_icmp_lt hC (tgt := 16) dX12_isDigit_3 (by decide) (fun hc => ?_) (fun hc => ?_)
  · have h := h.1 hc
    refine z_iconst hC (v := 0) k_iconst_0 dX12_isDigit_16 ?_
    exact z_zret (b := false) hC dX12_isDigit_17 rfl ⟨false, rfl, rfl, rfl, rfl, rfl, rfl, h⟩
  · have h := h.2 hc
    refine z_iload_n hC (q := 0) dX12_isDigit_6 rfl rfl ?_
    refine z_bipush hC (v := 57) k_bipush_57 dX12_isDigit_7 ?_
    refine z_icmp_gt hC (tgt := 16) dX12_isDigit_9 (by decide) (fun hc => ?_) (fun hc => ?_)
    · have h := h.1 hc
      refine z_iconst hC (v := 0) k_iconst_0 dX12_isDigit_16 ?_
      exact z_zret (b := false) hC dX12_isDigit_17 rfl ⟨false, rfl, rfl, rfl, rfl, rfl, rfl, h⟩
    · have h := h.2 hc
      refine z_iconst hC (v := 1) k_iconst_1 dX12_isDigit_12 ?_
      refine z_goto hC (tgt := 17) dX12_isDigit_13 (by decide) ?_
      exact z_zret (b := true) hC dX12_isDigit_17 rfl ⟨true, rfl, rfl, rfl, rfl, rfl, rfl, h⟩
def w_X12_isLetter  (a0 : Int32) (K : MK) (N : MK) (I : MI) (L : ML) (R : MR) (Q : Bool → Prop) : Prop := (a0 < 97 → Q false) ∧ (¬ a0 < 97 → ((122 : Int32) < a0 → Q false) ∧ (¬ (122 : Int32) < a0 → Q true))
set_option maxHeartbeats 4000000 in
set_option maxRecDepth 100000 in
theorem c_X12_isLetter  (l : Launch) (G : ZG) (a0 : Int32) (K : MK) (N : MK) (I : MI) (L : ML) (R : MR) (Q : Bool → Prop) (h : w_X12_isLetter a0 K N I L R Q) : Met l yX12_isLetter (.code yX12_isLetter cX12_isLetter 1 (some .boolean) :: z_tbl) rm_X12_isLetter (z_Pc G [.int a0] K N I L R) (z_Qc G (qPz K N I L R Q)) 0 0 (z_A G) := by
  refine z_met (by decide) (Nat.le_of_ble_eq_true rfl) (fun X hX hRm hC0 hnm => ?_)
  subst hX
  have hC : ZOk X G RX12 cX12_isLetter 1 (some .boolean) := hC0
  show Z X G 1 0 0 _ K N I L R 0 [(0, .int a0)] []
  delta w_X12_isLetter at h
  refine z_iload_n hC (q := 0) dX12_isLetter_0 rfl rfl ?_
  refine z_bipush hC (v := 97) k_bipush_97 dX12_isLetter_1 ?_
  refine z_icmp_lt hC (tgt := 16) dX12_isLetter_3 (by decide) (fun hc => ?_) (fun hc => ?_)
  · have h := h.1 hc
    refine z_iconst hC (v := 0) k_iconst_0 dX12_isLetter_16 ?_
    exact z_zret (b := false) hC dX12_isLetter_17 rfl ⟨false, rfl, rfl, rfl, rfl, rfl, rfl, h⟩
  · have h := h.2 hc
    refine z_iload_n hC (q := 0) dX12_isLetter_6 rfl rfl ?_
    refine z_bipush hC (v := 122) k_bipush_122 dX12_isLetter_7 ?_
    refine z_icmp_gt hC (tgt := 16) dX12_isLetter_9 (by decide) (fun hc => ?_) (fun hc => ?_)
    · have h := h.1 hc
      refine z_iconst hC (v := 0) k_iconst_0 dX12_isLetter_16 ?_
      exact z_zret (b := false) hC dX12_isLetter_17 rfl ⟨false, rfl, rfl, rfl, rfl, rfl, rfl, h⟩
    · have h := h.2 hc
      refine z_iconst hC (v := 1) k_iconst_1 dX12_isLetter_12 ?_
      refine z_goto hC (tgt := 17) dX12_isLetter_13 (by decide) ?_
      exact z_zret (b := true) hC dX12_isLetter_17 rfl ⟨true, rfl, rfl, rfl, rfl, rfl, rfl, h⟩
def w_X12_go_307  (x0 : Nat) (x2 : Bool) (x3 : Int32) (x4 : Int32)  (K : MK) (N : MK) (I : MI) (L : ML) (R : MR) (C215 : Nat → Bool → Int32 → MI → ML → Prop) (Q : MI → ML → Prop) : Prop := K x0 = 13 ∧ ((3 : Int32) ≤ ((I x0 5) - (I x0 6)) → ∀ I23 : MI, I23 = mup I x0 5 ((I x0 5) + 1) → C215 x0 x2 x3 I23 L) ∧ (¬ (3 : Int32) ≤ ((I x0 5) - (I x0 6)) → ∀ I24 : MI, I24 = mup I x0 8 ((((10 : Int32) * (I x0 8)) + x4) - 48) → ∀ I25 : MI, I25 = mup I24 x0 5 ((I24 x0 5) + 1) → C215 x0 x2 x3 I25 L)
def w_X12_go_272  (x0 : Nat) (x2 : Bool) (x4 : Int32) (s0 : Int32) (K : MK) (N : MK) (I : MI) (L : ML) (R : MR) (C215 : Nat → Bool → Int32 → MI → ML → Prop) (Q : MI → ML → Prop) : Prop := K x0 = 13 ∧ ((7 : Int32) ≤ ((I x0 5) - (I x0 6)) → w_X12_go_307 x0 x2 s0 x4 K N I L R C215 Q) ∧ (¬ (7 : Int32) ≤ ((I x0 5) - (I x0 6)) → ∀ L26 : ML, L26 = mup L x0 12 ((((27 : Int64) * (L x0 12)) + (Int32.toInt64 x4)) - 96) → w_X12_go_307 x0 x2 s0 x4 K N I L26 R C215 Q)
def w_X12_go_271  (x0 : Nat) (x2 : Bool) (x4 : Int32)  (K : MK) (N : MK) (I : MI) (L : ML) (R : MR) (C215 : Nat → Bool → Int32 → MI → ML → Prop) (Q : MI → ML → Prop) : Prop := w_X12_go_272 x0 x2 x4 0 K N I L R C215 Q
def w_X12_go_243  (x0 : Nat) (x2 : Bool) (x3 : Int32)  (K : MK) (N : MK) (I : MI) (L : ML) (R : MR) (C215 : Nat → Bool → Int32 → MI → ML → Prop) (Q : MI → ML → Prop) : Prop := K x0 = 13 ∧ ∃ b17 : Nat, R x0 1 = some b17 ∧ K b17 = 14 ∧ vp_in (I x0 5) (N b17) ∧ ∀ v20 : Int32, v20 = (I b17 (ix (I x0 5))) → (x3 = 0 → w_X12_go_271 x0 x2 v20 K N I L R C215 Q) ∧ (¬ x3 = 0 → w_X12_isLetter v20 K N I L R (fun r27 => (¬ (bi r27) = (bi x2) → w_X12_go_271 x0 x2 v20 K N I L R C215 Q) ∧ ((bi r27) = (bi x2) → w_X12_go_272 x0 x2 v20 1 K N I L R C215 Q)))
def w_X12_go_215  (x0 : Nat) (x2 : Bool) (x3 : Int32)  (K : MK) (N : MK) (I : MI) (L : ML) (R : MR)  (Q : MI → ML → Prop) : Prop := ∃ J : Nat → Nat → Bool → Int32 → MI → ML → Prop, (∃ n, J n x0 x2 x3 I L) ∧ ∀ (n : Nat) (x0 : Nat) (x2 : Bool) (x3 : Int32) (I : MI) (L : ML), J n x0 x2 x3 I L → K x0 = 13 ∧ w_X12_tapeAt x0 (I x0 5) K N I L R (fun r14 => w_X12_isLetter r14 K N I L R (fun r15 => (r15 = true → w_X12_go_243 x0 x2 x3 K N I L R (fun y0 y1 y2 y3 y4 => ∃ n1, n1 < n ∧ J n1 y0 y1 y2 y3 y4) Q) ∧ (r15 = false → w_X12_tapeAt x0 (I x0 5) K N I L R (fun r28 => w_X12_isDigit r28 K N I L R (fun r29 => (r29 = false → (x3 = 0 → ∀ I30 : MI, I30 = mup I x0 7 1 → Q I30 L) ∧ (¬ x3 = 0 → (x2 = false → (((I x0 5) - (I x0 6)) ≤ 3 → (x2 = false → ∀ I31 : MI, I31 = mup I x0 7 3 → Q I31 L) ∧ (x2 = true → ∀ I32 : MI, I32 = mup I x0 7 2 → Q I32 L)) ∧ (¬ ((I x0 5) - (I x0 6)) ≤ 3 → ∀ I33 : MI, I33 = mup I x0 7 1 → Q I33 L)) ∧ (x2 = true → (((I x0 5) - (I x0 6)) ≤ 7 → (x2 = false → ∀ I34 : MI, I34 = mup I x0 7 3 → Q I34 L) ∧ (x2 = true → ∀ I35 : MI, I35 = mup I x0 7 2 → Q I35 L)) ∧ (¬ ((I x0 5) - (I x0 6)) ≤ 7 → ∀ I36 : MI, I36 = mup I x0 7 1 → Q I36 L)))) ∧ (r29 = true → w_X12_go_243 x0 x2 x3 K N I L R (fun y0 y1 y2 y3 y4 => ∃ n1, n1 < n ∧ J n1 y0 y1 y2 y3 y4) Q))))))
def w_X12_go_96  (x0 : Nat)  (K : MK) (N : MK) (I : MI) (L : ML) (R : MR)  (Q : MI → ML → Prop) : Prop := K x0 = 13 ∧ ((I x0 5) < (I x0 3) → ∃ b5 : Nat, R x0 1 = some b5 ∧ K b5 = 14 ∧ vp_in (I x0 5) (N b5) ∧ ∀ v8 : Int32, v8 = (I b5 (ix (I x0 5))) → w_X12_isLetter v8 K N I L R (fun r9 => (r9 = true → w_X12_isLetter v8 K N I L R (fun r10 => ∀ L11 : ML, L11 = mup L x0 12 0 → ∀ I12 : MI, I12 = mup I x0 8 0 → w_X12_go_215 x0 r10 1 K N I12 L11 R Q)) ∧ (r9 = false → w_X12_isDigit v8 K N I L R (fun r37 => (r37 = true → w_X12_isLetter v8 K N I L R (fun r38 => ∀ L39 : ML, L39 = mup L x0 12 0 → ∀ I40 : MI, I40 = mup I x0 8 0 → w_X12_go_215 x0 r38 1 K N I40 L39 R Q)) ∧ (r37 = false → (v8 = 59 → ∀ I41 : MI, I41 = mup I x0 7 4 → ∀ I42 : MI, I42 = mup I41 x0 9 v8 → ∀ I43 : MI, I43 = mup I42 x0 5 ((I42 x0 5) + 1) → Q I43 L) ∧ (¬ v8 = 59 → (v8 = 60 → ∀ I44 : MI, I44 = mup I x0 7 4 → ∀ I45 : MI, I45 = mup I44 x0 9 v8 → ∀ I46 : MI, I46 = mup I45 x0 5 ((I45 x0 5) + 1) → Q I46 L) ∧ (¬ v8 = 60 → (v8 = 61 → ∀ I47 : MI, I47 = mup I x0 7 4 → ∀ I48 : MI, I48 = mup I47 x0 9 v8 → ∀ I49 : MI, I49 = mup I48 x0 5 ((I48 x0 5) + 1) → Q I49 L) ∧ (¬ v8 = 61 → (v8 = 62 → ∀ I50 : MI, I50 = mup I x0 7 4 → ∀ I51 : MI, I51 = mup I50 x0 9 v8 → ∀ I52 : MI, I52 = mup I51 x0 5 ((I51 x0 5) + 1) → Q I52 L) ∧ (¬ v8 = 62 → (v8 = 40 → ∀ I53 : MI, I53 = mup I x0 7 4 → ∀ I54 : MI, I54 = mup I53 x0 9 v8 → ∀ I55 : MI, I55 = mup I54 x0 5 ((I54 x0 5) + 1) → Q I55 L) ∧ (¬ v8 = 40 → (¬ v8 = 41 → ∀ I56 : MI, I56 = mup I x0 7 1 → ∀ I57 : MI, I57 = mup I56 x0 9 v8 → ∀ I58 : MI, I58 = mup I57 x0 5 ((I57 x0 5) + 1) → Q I58 L) ∧ (v8 = 41 → ∀ I59 : MI, I59 = mup I x0 7 4 → ∀ I60 : MI, I60 = mup I59 x0 9 v8 → ∀ I61 : MI, I61 = mup I60 x0 5 ((I60 x0 5) + 1) → Q I61 L))))))))))) ∧ (¬ (I x0 5) < (I x0 3) → ∀ I62 : MI, I62 = mup I x0 7 0 → Q I62 L)
def w_X12_go_52  (x0 : Nat)  (K : MK) (N : MK) (I : MI) (L : ML) (R : MR)  (Q : MI → ML → Prop) : Prop := K x0 = 13 ∧ ∀ I3 : MI, I3 = mup I x0 6 (I x0 5) → ((I3 x0 3) ≤ (I3 x0 4) → w_X12_go_96 x0 K N I3 L R Q) ∧ (¬ (I3 x0 3) ≤ (I3 x0 4) → ((I3 x0 6) < (I3 x0 4) → w_X12_go_96 x0 K N I3 L R Q) ∧ (¬ (I3 x0 6) < (I3 x0 4) → ∀ I63 : MI, I63 = mup I3 x0 6 (I3 x0 4) → ∀ I64 : MI, I64 = mup I63 x0 7 1 → Q I64 L))
def w_X12_go_0  (x0 : Nat)  (K : MK) (N : MK) (I : MI) (L : ML) (R : MR)  (Q : MI → ML → Prop) : Prop := ∃ J : Nat → Nat → MI → ML → Prop, (∃ n, J n x0 I L) ∧ ∀ (n : Nat) (x0 : Nat) (I : MI) (L : ML), J n x0 I L → K x0 = 13 ∧ ((I x0 3) ≤ (I x0 5) → w_X12_go_52 x0 K N I L R Q) ∧ (¬ (I x0 3) ≤ (I x0 5) → ∃ b65 : Nat, R x0 1 = some b65 ∧ K b65 = 14 ∧ vp_in (I x0 5) (N b65) ∧ ((I b65 (ix (I x0 5))) = 32 → ∀ I68 : MI, I68 = mup I x0 5 ((I x0 5) + 1) → ∃ n1, n1 < n ∧ J n1 x0 I68 L) ∧ (¬ (I b65 (ix (I x0 5))) = 32 → (¬ (I b65 (ix (I x0 5))) = 10 → w_X12_go_52 x0 K N I L R Q) ∧ ((I b65 (ix (I x0 5))) = 10 → ∀ I69 : MI, I69 = mup I x0 5 ((I x0 5) + 1) → ∃ n1, n1 < n ∧ J n1 x0 I69 L)))
def w_X12_go  (a0 : Nat) (K : MK) (N : MK) (I : MI) (L : ML) (R : MR) (Q : MI → ML → Prop) : Prop := w_X12_go_0 a0 K N I L R Q
set_option maxHeartbeats 4000000 in
set_option maxRecDepth 100000 in
theorem z_X12_go_307 {X : ZX} {G : ZG}  {x0 : Nat} {x2 : Bool} {x3 : Int32} {x4 : Int32}  {K : MK} {N : MK} {I : MI} {L : ML} {R : MR} {C215 : Nat → Bool → Int32 → MI → ML → Prop} {Q : MI → ML → Prop} (hC : ZOk X G RX12 cX12_go 5 none) (hRm : X.2.2.2.1 = rm_X12_go) (hC215 : ∀ (y0 : Nat) (y1 : Bool) (y2 : Int32) (zI : MI) (zL : ML), C215 y0 y1 y2 zI zL → Z X G 5 0 0 (z_T X G (qLv K N R Q) 0 0) K N zI zL R 215 [(0, .ref y0), (2, .int (bi y1)), (3, .int y2)] []) (h : w_X12_go_307 x0 x2 x3 x4 K N I L R C215 Q) : Z X G 5 0 0 (z_T X G (qLv K N R Q) 0 0) K N I L R 307 [(0, .ref x0), (2, .int (bi x2)), (3, .int x3), (4, .int x4)] [] := by
  delta w_X12_go_307 at h
  refine z_aload_n hC (q := 0) dX12_go_307 rfl rfl ?_
  obtain ⟨hk22, h⟩ := h
  refine gf_RX12_21 hC dX12_go_308 hk22 ?_
  refine z_aload_n hC (q := 0) dX12_go_311 rfl rfl ?_
  refine gf_RX12_24 hC dX12_go_312 hk22 ?_
  refine z_isub hC dX12_go_315 ?_
  refine z_iconst hC (v := 3) k_iconst_3 dX12_go_316 ?_
  refine z_icmp_ge hC (tgt := 337) dX12_go_317 (by decide) (fun hc => ?_) (fun hc => ?_)
  · have h := h.1 hc
    refine z_aload_n hC (q := 0) dX12_go_337 rfl rfl ?_
    refine z_dup hC rfl dX12_go_338 ?_
    refine gf_RX12_21 hC dX12_go_339 hk22 ?_
    refine z_iconst hC (v := 1) k_iconst_1 dX12_go_342 ?_
    refine z_iadd hC dX12_go_343 ?_
    refine pf_RX12_21 hC dX12_go_344 hk22 ?_
    refine z_genI (fun I23 eI23 => ?_)
    have h := h I23 eI23
    refine z_goto hC (tgt := 215) dX12_go_347 (by decide) ?_
    exact z_sub [(0, .ref x0), (2, .int (bi x2)), (3, .int x3)] [0, 1, 2] rfl (hC215 _ _ _ _ _ h)
  · have h := h.2 hc
    refine z_aload_n hC (q := 0) dX12_go_320 rfl rfl ?_
    refine z_bipush hC (v := 10) k_bipush_10 dX12_go_321 ?_
    refine z_aload_n hC (q := 0) dX12_go_323 rfl rfl ?_
    refine gf_RX12_47 hC dX12_go_324 hk22 ?_
    refine z_imul hC dX12_go_327 ?_
    refine z_iload hC (q := 3) dX12_go_328 rfl ?_
    refine z_iadd hC dX12_go_330 ?_
    refine z_bipush hC (v := 48) k_bipush_48 dX12_go_331 ?_
    refine z_isub hC dX12_go_333 ?_
    refine pf_RX12_47 hC dX12_go_334 hk22 ?_
    refine z_genI (fun I24 eI24 => ?_)
    have h := h I24 eI24
    refine z_aload_n hC (q := 0) dX12_go_337 rfl rfl ?_
    refine z_dup hC rfl dX12_go_338 ?_
    refine gf_RX12_21 hC dX12_go_339 hk22 ?_
    refine z_iconst hC (v := 1) k_iconst_1 dX12_go_342 ?_
    refine z_iadd hC dX12_go_343 ?_
    refine pf_RX12_21 hC dX12_go_344 hk22 ?_
    refine z_genI (fun I25 eI25 => ?_)
    have h := h I25 eI25
    refine z_goto hC (tgt := 215) dX12_go_347 (by decide) ?_
    exact z_sub [(0, .ref x0), (2, .int (bi x2)), (3, .int x3)] [0, 1, 2] rfl (hC215 _ _ _ _ _ h)
set_option maxHeartbeats 4000000 in
set_option maxRecDepth 100000 in
theorem z_X12_go_272 {X : ZX} {G : ZG}  {x0 : Nat} {x2 : Bool} {x4 : Int32} {s0 : Int32} {K : MK} {N : MK} {I : MI} {L : ML} {R : MR} {C215 : Nat → Bool → Int32 → MI → ML → Prop} {Q : MI → ML → Prop} (hC : ZOk X G RX12 cX12_go 5 none) (hRm : X.2.2.2.1 = rm_X12_go) (hC215 : ∀ (y0 : Nat) (y1 : Bool) (y2 : Int32) (zI : MI) (zL : ML), C215 y0 y1 y2 zI zL → Z X G 5 0 0 (z_T X G (qLv K N R Q) 0 0) K N zI zL R 215 [(0, .ref y0), (2, .int (bi y1)), (3, .int y2)] []) (h : w_X12_go_272 x0 x2 x4 s0 K N I L R C215 Q) : Z X G 5 0 0 (z_T X G (qLv K N R Q) 0 0) K N I L R 272 [(0, .ref x0), (2, .int (bi x2)), (4, .int x4)] [.int s0] := by
  delta w_X12_go_272 at h
  refine z_istore_n hC (lv1 := [(3, .int s0), (0, .ref x0), (2, .int (bi x2)), (4, .int x4)]) dX12_go_272 rfl (by decide) rfl ?_
  refine z_aload_n hC (q := 1) dX12_go_273 rfl rfl ?_
  obtain ⟨hk21, h⟩ := h
  refine gf_RX12_21 hC dX12_go_274 hk21 ?_
  refine z_aload_n hC (q := 1) dX12_go_277 rfl rfl ?_
  refine gf_RX12_24 hC dX12_go_278 hk21 ?_
  refine z_isub hC dX12_go_281 ?_
  refine z_bipush hC (v := 7) k_bipush_7 dX12_go_282 ?_
  refine z_icmp_ge hC (tgt := 307) dX12_go_284 (by decide) (fun hc => ?_) (fun hc => ?_)
  · have h := h.1 hc
    exact z_sub [(0, .ref x0), (2, .int (bi x2)), (3, .int s0), (4, .int x4)] [1, 2, 0, 3] rfl (z_X12_go_307 hC hRm hC215 h)
  · have h := h.2 hc
    refine z_aload_n hC (q := 1) dX12_go_287 rfl rfl ?_
    refine z_ldc2 hC cst_RX12_54 dX12_go_288 ?_
    refine z_aload_n hC (q := 1) dX12_go_291 rfl rfl ?_
    refine gf_RX12_43 hC dX12_go_292 hk21 ?_
    refine z_lmul hC dX12_go_295 ?_
    refine z_iload hC (q := 3) dX12_go_296 rfl ?_
    refine z_i2l hC dX12_go_298 ?_
    refine z_ladd hC dX12_go_299 ?_
    refine z_ldc2 hC cst_RX12_56 dX12_go_300 ?_
    refine z_lsub hC dX12_go_303 ?_
    refine pf_RX12_43 hC dX12_go_304 hk21 ?_
    refine z_genL (fun L26 eL26 => ?_)
    have h := h L26 eL26
    exact z_sub [(0, .ref x0), (2, .int (bi x2)), (3, .int s0), (4, .int x4)] [1, 2, 0, 3] rfl (z_X12_go_307 hC hRm hC215 h)
set_option maxHeartbeats 4000000 in
set_option maxRecDepth 100000 in
theorem z_X12_go_271 {X : ZX} {G : ZG}  {x0 : Nat} {x2 : Bool} {x4 : Int32}  {K : MK} {N : MK} {I : MI} {L : ML} {R : MR} {C215 : Nat → Bool → Int32 → MI → ML → Prop} {Q : MI → ML → Prop} (hC : ZOk X G RX12 cX12_go 5 none) (hRm : X.2.2.2.1 = rm_X12_go) (hC215 : ∀ (y0 : Nat) (y1 : Bool) (y2 : Int32) (zI : MI) (zL : ML), C215 y0 y1 y2 zI zL → Z X G 5 0 0 (z_T X G (qLv K N R Q) 0 0) K N zI zL R 215 [(0, .ref y0), (2, .int (bi y1)), (3, .int y2)] []) (h : w_X12_go_271 x0 x2 x4 K N I L R C215 Q) : Z X G 5 0 0 (z_T X G (qLv K N R Q) 0 0) K N I L R 271 [(0, .ref x0), (2, .int (bi x2)), (4, .int x4)] [] := by
  delta w_X12_go_271 at h
  refine z_iconst hC (v := 0) k_iconst_0 dX12_go_271 ?_
  exact z_sub [(0, .ref x0), (2, .int (bi x2)), (4, .int x4)] [0, 1, 2] rfl (z_X12_go_272 hC hRm hC215 h)
set_option maxHeartbeats 4000000 in
set_option maxRecDepth 100000 in
theorem z_X12_go_243 {X : ZX} {G : ZG}  {x0 : Nat} {x2 : Bool} {x3 : Int32}  {K : MK} {N : MK} {I : MI} {L : ML} {R : MR} {C215 : Nat → Bool → Int32 → MI → ML → Prop} {Q : MI → ML → Prop} (hC : ZOk X G RX12 cX12_go 5 none) (hRm : X.2.2.2.1 = rm_X12_go) (hC215 : ∀ (y0 : Nat) (y1 : Bool) (y2 : Int32) (zI : MI) (zL : ML), C215 y0 y1 y2 zI zL → Z X G 5 0 0 (z_T X G (qLv K N R Q) 0 0) K N zI zL R 215 [(0, .ref y0), (2, .int (bi y1)), (3, .int y2)] []) (h : w_X12_go_243 x0 x2 x3 K N I L R C215 Q) : Z X G 5 0 0 (z_T X G (qLv K N R Q) 0 0) K N I L R 243 [(0, .ref x0), (2, .int (bi x2)), (3, .int x3)] [] := by
  delta w_X12_go_243 at h
  refine z_aload_n hC (q := 0) dX12_go_243 rfl rfl ?_
  obtain ⟨hk16, h⟩ := h
  obtain ⟨b17, hb17, h⟩ := h
  refine gf_RX12_7 hC dX12_go_244 hk16 hb17 ?_
  refine z_aload_n hC (q := 0) dX12_go_247 rfl rfl ?_
  refine gf_RX12_21 hC dX12_go_248 hk16 ?_
  obtain ⟨hk18, h⟩ := h
  obtain ⟨hi19, h⟩ := h
  refine z_iaload hC hk18 hi19 dX12_go_251 ?_
  refine z_topi (fun v20 ev20 => ?_)
  have h := h v20 ev20
  refine z_istore hC (lv1 := [(4, .int v20), (0, .ref x0), (2, .int (bi x2)), (3, .int x3)]) dX12_go_252 (by decide) rfl ?_
  refine z_iload_n hC (q := 3) dX12_go_254 rfl rfl ?_
  refine z_if_eq hC (tgt := 271) dX12_go_255 (by decide) (fun hc => ?_) (fun hc => ?_)
  · have h := h.1 hc
    exact z_sub [(0, .ref x0), (2, .int (bi x2)), (4, .int v20)] [1, 2, 0] rfl (z_X12_go_271 hC hRm hC215 h)
  · have h := h.2 hc
    refine z_iload hC (q := 0) dX12_go_258 rfl ?_
    refine cl_RX12_33 hC (c_X12_isLetter _ G v20 K N I L R _ h) dX12_go_260 (by rw [hRm]; exact ⟨Nat.le_of_ble_eq_true rfl, Nat.le_of_ble_eq_true rfl⟩) ⟨Nat.zero_le _, Nat.zero_le _⟩ (Nat.le_of_ble_eq_true rfl) (z_kPz (fun r27 h => ?_))
    refine z_iload_n hC (q := 2) dX12_go_263 rfl rfl ?_
    refine z_icmp_ne hC (tgt := 271) dX12_go_264 (by decide) (fun hc => ?_) (fun hc => ?_)
    · have h := h.1 hc
      exact z_sub [(0, .ref x0), (2, .int (bi x2)), (4, .int v20)] [1, 2, 0] rfl (z_X12_go_271 hC hRm hC215 h)
    · have h := h.2 hc
      refine z_iconst hC (v := 1) k_iconst_1 dX12_go_267 ?_
      refine z_goto hC (tgt := 272) dX12_go_268 (by decide) ?_
      exact z_sub [(0, .ref x0), (2, .int (bi x2)), (4, .int v20)] [1, 2, 0] rfl (z_X12_go_272 hC hRm hC215 h)
set_option maxHeartbeats 4000000 in
set_option maxRecDepth 100000 in
theorem z_X12_go_215 {X : ZX} {G : ZG}  {x0 : Nat} {x2 : Bool} {x3 : Int32}  {K : MK} {N : MK} {I : MI} {L : ML} {R : MR}  {Q : MI → ML → Prop} (hC : ZOk X G RX12 cX12_go 5 none) (hRm : X.2.2.2.1 = rm_X12_go) (h : w_X12_go_215 x0 x2 x3 K N I L R  Q) : Z X G 5 0 0 (z_T X G (qLv K N R Q) 0 0) K N I L R 215 [(0, .ref x0), (2, .int (bi x2)), (3, .int x3)] [] := by
  delta w_X12_go_215 at h
  obtain ⟨J, ⟨n, h0⟩, hs⟩ := h
  have key : ∀ (n : Nat) (x0 : Nat) (x2 : Bool) (x3 : Int32) (I : MI) (L : ML), J n x0 x2 x3 I L → Z X G 5 0 0 (z_T X G (qLv K N R Q) 0 0) K N I L R 215 [(0, .ref x0), (2, .int (bi x2)), (3, .int x3)] [] := by
    intro n
    induction n using Nat.strongRecOn with
    | _ n ih =>
      intro x0 x2 x3 I L hJ
      have hC215 : ∀ (y0 : Nat) (y1 : Bool) (y2 : Int32) (zI : MI) (zL : ML), (∃ n1, n1 < n ∧ J n1 y0 y1 y2 zI zL) → Z X G 5 0 0 (z_T X G (qLv K N R Q) 0 0) K N zI zL R 215 [(0, .ref y0), (2, .int (bi y1)), (3, .int y2)] [] := fun y0 y1 y2 zI zL ⟨n1, hn1, hj⟩ => ih n1 hn1 y0 y1 y2 zI zL hj
      have h := hs n x0 x2 x3 I L hJ
      refine z_aload_n hC (q := 0) dX12_go_215 rfl rfl ?_
      refine z_aload_n hC (q := 0) dX12_go_216 rfl rfl ?_
      obtain ⟨hk13, h⟩ := h
      refine gf_RX12_21 hC dX12_go_217 hk13 ?_
      refine cl_RX12_50 hC (c_X12_tapeAt _ G x0 (I x0 5) K N I L R _ h) hk13 dX12_go_220 (by rw [hRm]; exact ⟨Nat.le_of_ble_eq_true rfl, Nat.le_of_ble_eq_true rfl⟩) ⟨Nat.zero_le _, Nat.zero_le _⟩ (Nat.le_of_ble_eq_true rfl) (z_kPi (fun r14 h => ?_))
      refine cl_RX12_33 hC (c_X12_isLetter _ G r14 K N I L R _ h) dX12_go_223 (by rw [hRm]; exact ⟨Nat.le_of_ble_eq_true rfl, Nat.le_of_ble_eq_true rfl⟩) ⟨Nat.zero_le _, Nat.zero_le _⟩ (Nat.le_of_ble_eq_true rfl) (z_kPz (fun r15 h => ?_))
      refine z_ifz_ne hC (tgt := 243) dX12_go_226 (by decide) (fun hc => ?_) (fun hc => ?_)
      · have h := h.1 hc
        exact z_sub [(0, .ref x0), (2, .int (bi x2)), (3, .int x3)] [0, 1, 2] rfl (z_X12_go_243 hC hRm hC215 h)
      · have h := h.2 hc
        refine z_aload_n hC (q := 0) dX12_go_229 rfl rfl ?_
        refine z_aload_n hC (q := 0) dX12_go_230 rfl rfl ?_
        refine gf_RX12_21 hC dX12_go_231 hk13 ?_
        refine cl_RX12_50 hC (c_X12_tapeAt _ G x0 (I x0 5) K N I L R _ h) hk13 dX12_go_234 (by rw [hRm]; exact ⟨Nat.le_of_ble_eq_true rfl, Nat.le_of_ble_eq_true rfl⟩) ⟨Nat.zero_le _, Nat.zero_le _⟩ (Nat.le_of_ble_eq_true rfl) (z_kPi (fun r28 h => ?_))
        refine cl_RX12_37 hC (c_X12_isDigit _ G r28 K N I L R _ h) dX12_go_237 (by rw [hRm]; exact ⟨Nat.le_of_ble_eq_true rfl, Nat.le_of_ble_eq_true rfl⟩) ⟨Nat.zero_le _, Nat.zero_le _⟩ (Nat.le_of_ble_eq_true rfl) (z_kPz (fun r29 h => ?_))
        refine z_ifz_eq hC (tgt := 350) dX12_go_240 (by decide) (fun hc => ?_) (fun hc => ?_)
        · have h := h.1 hc
          refine z_aload_n hC (q := 0) dX12_go_350 rfl rfl ?_
          refine z_iload_n hC (q := 2) dX12_go_351 rfl rfl ?_
          refine z_if_eq hC (tgt := 377) dX12_go_352 (by decide) (fun hc => ?_) (fun hc => ?_)
          · have h := h.1 hc
            refine z_iconst hC (v := 1) k_iconst_1 dX12_go_377 ?_
            refine z_goto hC (tgt := 390) dX12_go_378 (by decide) ?_
            refine pf_RX12_30 hC dX12_go_390 hk13 ?_
            refine z_genI (fun I30 eI30 => ?_)
            have h := h I30 eI30
            exact z_vret hC dX12_go_393 ⟨rfl, rfl, rfl, rfl, h⟩
          · have h := h.2 hc
            refine z_aload_n hC (q := 0) dX12_go_355 rfl rfl ?_
            refine gf_RX12_21 hC dX12_go_356 hk13 ?_
            refine z_aload_n hC (q := 0) dX12_go_359 rfl rfl ?_
            refine gf_RX12_24 hC dX12_go_360 hk13 ?_
            refine z_isub hC dX12_go_363 ?_
            refine z_iload_n hC (q := 1) dX12_go_364 rfl rfl ?_
            refine z_ifz_eq hC (tgt := 373) dX12_go_365 (by decide) (fun hc => ?_) (fun hc => ?_)
            · have h := h.1 hc
              refine z_iconst hC (v := 3) k_iconst_3 dX12_go_373 ?_
              refine z_icmp_le hC (tgt := 381) dX12_go_374 (by decide) (fun hc => ?_) (fun hc => ?_)
              · have h := h.1 hc
                refine z_iload_n hC (q := 1) dX12_go_381 rfl rfl ?_
                refine z_ifz_eq hC (tgt := 389) dX12_go_382 (by decide) (fun hc => ?_) (fun hc => ?_)
                · have h := h.1 hc
                  refine z_iconst hC (v := 3) k_iconst_3 dX12_go_389 ?_
                  refine pf_RX12_30 hC dX12_go_390 hk13 ?_
                  refine z_genI (fun I31 eI31 => ?_)
                  have h := h I31 eI31
                  exact z_vret hC dX12_go_393 ⟨rfl, rfl, rfl, rfl, h⟩
                · have h := h.2 hc
                  refine z_iconst hC (v := 2) k_iconst_2 dX12_go_385 ?_
                  refine z_goto hC (tgt := 390) dX12_go_386 (by decide) ?_
                  refine pf_RX12_30 hC dX12_go_390 hk13 ?_
                  refine z_genI (fun I32 eI32 => ?_)
                  have h := h I32 eI32
                  exact z_vret hC dX12_go_393 ⟨rfl, rfl, rfl, rfl, h⟩
              · have h := h.2 hc
                refine z_iconst hC (v := 1) k_iconst_1 dX12_go_377 ?_
                refine z_goto hC (tgt := 390) dX12_go_378 (by decide) ?_
                refine pf_RX12_30 hC dX12_go_390 hk13 ?_
                refine z_genI (fun I33 eI33 => ?_)
                have h := h I33 eI33
                exact z_vret hC dX12_go_393 ⟨rfl, rfl, rfl, rfl, h⟩
            · have h := h.2 hc
              refine z_bipush hC (v := 7) k_bipush_7 dX12_go_368 ?_
              refine z_goto hC (tgt := 374) dX12_go_370 (by decide) ?_
              refine z_icmp_le hC (tgt := 381) dX12_go_374 (by decide) (fun hc => ?_) (fun hc => ?_)
              · have h := h.1 hc
                refine z_iload_n hC (q := 1) dX12_go_381 rfl rfl ?_
                refine z_ifz_eq hC (tgt := 389) dX12_go_382 (by decide) (fun hc => ?_) (fun hc => ?_)
                · have h := h.1 hc
                  refine z_iconst hC (v := 3) k_iconst_3 dX12_go_389 ?_
                  refine pf_RX12_30 hC dX12_go_390 hk13 ?_
                  refine z_genI (fun I34 eI34 => ?_)
                  have h := h I34 eI34
                  exact z_vret hC dX12_go_393 ⟨rfl, rfl, rfl, rfl, h⟩
                · have h := h.2 hc
                  refine z_iconst hC (v := 2) k_iconst_2 dX12_go_385 ?_
                  refine z_goto hC (tgt := 390) dX12_go_386 (by decide) ?_
                  refine pf_RX12_30 hC dX12_go_390 hk13 ?_
                  refine z_genI (fun I35 eI35 => ?_)
                  have h := h I35 eI35
                  exact z_vret hC dX12_go_393 ⟨rfl, rfl, rfl, rfl, h⟩
              · have h := h.2 hc
                refine z_iconst hC (v := 1) k_iconst_1 dX12_go_377 ?_
                refine z_goto hC (tgt := 390) dX12_go_378 (by decide) ?_
                refine pf_RX12_30 hC dX12_go_390 hk13 ?_
                refine z_genI (fun I36 eI36 => ?_)
                have h := h I36 eI36
                exact z_vret hC dX12_go_393 ⟨rfl, rfl, rfl, rfl, h⟩
        · have h := h.2 hc
          exact z_sub [(0, .ref x0), (2, .int (bi x2)), (3, .int x3)] [0, 1, 2] rfl (z_X12_go_243 hC hRm hC215 h)
  exact key n x0 x2 x3 I L h0
set_option maxHeartbeats 4000000 in
set_option maxRecDepth 100000 in
theorem z_X12_go_96 {X : ZX} {G : ZG}  {x0 : Nat}  {K : MK} {N : MK} {I : MI} {L : ML} {R : MR}  {Q : MI → ML → Prop} (hC : ZOk X G RX12 cX12_go 5 none) (hRm : X.2.2.2.1 = rm_X12_go) (h : w_X12_go_96 x0 K N I L R  Q) : Z X G 5 0 0 (z_T X G (qLv K N R Q) 0 0) K N I L R 96 [(0, .ref x0)] [] := by
  delta w_X12_go_96 at h
  refine z_aload_n hC (q := 0) dX12_go_96 rfl rfl ?_
  obtain ⟨hk4, h⟩ := h
  refine gf_RX12_21 hC dX12_go_97 hk4 ?_
  refine z_aload_n hC (q := 0) dX12_go_100 rfl rfl ?_
  refine gf_RX12_18 hC dX12_go_101 hk4 ?_
  refine z_icmp_lt hC (tgt := 113) dX12_go_104 (by decide) (fun hc => ?_) (fun hc => ?_)
  · have h := h.1 hc
    refine z_aload_n hC (q := 0) dX12_go_113 rfl rfl ?_
    obtain ⟨b5, hb5, h⟩ := h
    refine gf_RX12_7 hC dX12_go_114 hk4 hb5 ?_
    refine z_aload_n hC (q := 0) dX12_go_117 rfl rfl ?_
    refine gf_RX12_21 hC dX12_go_118 hk4 ?_
    obtain ⟨hk6, h⟩ := h
    obtain ⟨hi7, h⟩ := h
    refine z_iaload hC hk6 hi7 dX12_go_121 ?_
    refine z_topi (fun v8 ev8 => ?_)
    have h := h v8 ev8
    refine z_istore_n hC (lv1 := [(1, .int v8), (0, .ref x0)]) dX12_go_122 rfl (by decide) rfl ?_
    refine z_iload_n hC (q := 0) dX12_go_123 rfl rfl ?_
    refine cl_RX12_33 hC (c_X12_isLetter _ G v8 K N I L R _ h) dX12_go_124 (by rw [hRm]; exact ⟨Nat.le_of_ble_eq_true rfl, Nat.le_of_ble_eq_true rfl⟩) ⟨Nat.zero_le _, Nat.zero_le _⟩ (Nat.le_of_ble_eq_true rfl) (z_kPz (fun r9 h => ?_))
    refine z_ifz_ne hC (tgt := 198) dX12_go_127 (by decide) (fun hc => ?_) (fun hc => ?_)
    · have h := h.1 hc
      refine z_iload_n hC (q := 0) dX12_go_198 rfl rfl ?_
      refine cl_RX12_33 hC (c_X12_isLetter _ G v8 K N I L R _ h) dX12_go_199 (by rw [hRm]; exact ⟨Nat.le_of_ble_eq_true rfl, Nat.le_of_ble_eq_true rfl⟩) ⟨Nat.zero_le _, Nat.zero_le _⟩ (Nat.le_of_ble_eq_true rfl) (z_kPz (fun r10 h => ?_))
      refine z_istore_n hC (lv1 := [(2, .int (bi r10)), (1, .int v8), (0, .ref x0)]) dX12_go_202 rfl (by decide) rfl ?_
      refine z_iconst hC (v := 1) k_iconst_1 dX12_go_203 ?_
      refine z_istore_n hC (lv1 := [(3, .int 1), (2, .int (bi r10)), (1, .int v8), (0, .ref x0)]) dX12_go_204 rfl (by decide) rfl ?_
      refine z_aload_n hC (q := 3) dX12_go_205 rfl rfl ?_
      refine z_lconst hC (v := 0) k_lconst_0 dX12_go_206 ?_
      refine pf_RX12_43 hC dX12_go_207 hk4 ?_
      refine z_genL (fun L11 eL11 => ?_)
      have h := h L11 eL11
      refine z_aload_n hC (q := 3) dX12_go_210 rfl rfl ?_
      refine z_iconst hC (v := 0) k_iconst_0 dX12_go_211 ?_
      refine pf_RX12_47 hC dX12_go_212 hk4 ?_
      refine z_genI (fun I12 eI12 => ?_)
      have h := h I12 eI12
      exact z_sub [(0, .ref x0), (2, .int (bi r10)), (3, .int 1)] [3, 1, 0] rfl (z_X12_go_215 hC hRm h)
    · have h := h.2 hc
      refine z_iload_n hC (q := 0) dX12_go_130 rfl rfl ?_
      refine cl_RX12_37 hC (c_X12_isDigit _ G v8 K N I L R _ h) dX12_go_131 (by rw [hRm]; exact ⟨Nat.le_of_ble_eq_true rfl, Nat.le_of_ble_eq_true rfl⟩) ⟨Nat.zero_le _, Nat.zero_le _⟩ (Nat.le_of_ble_eq_true rfl) (z_kPz (fun r37 h => ?_))
      refine z_ifz_ne hC (tgt := 198) dX12_go_134 (by decide) (fun hc => ?_) (fun hc => ?_)
      · have h := h.1 hc
        refine z_iload_n hC (q := 0) dX12_go_198 rfl rfl ?_
        refine cl_RX12_33 hC (c_X12_isLetter _ G v8 K N I L R _ h) dX12_go_199 (by rw [hRm]; exact ⟨Nat.le_of_ble_eq_true rfl, Nat.le_of_ble_eq_true rfl⟩) ⟨Nat.zero_le _, Nat.zero_le _⟩ (Nat.le_of_ble_eq_true rfl) (z_kPz (fun r38 h => ?_))
        refine z_istore_n hC (lv1 := [(2, .int (bi r38)), (1, .int v8), (0, .ref x0)]) dX12_go_202 rfl (by decide) rfl ?_
        refine z_iconst hC (v := 1) k_iconst_1 dX12_go_203 ?_
        refine z_istore_n hC (lv1 := [(3, .int 1), (2, .int (bi r38)), (1, .int v8), (0, .ref x0)]) dX12_go_204 rfl (by decide) rfl ?_
        refine z_aload_n hC (q := 3) dX12_go_205 rfl rfl ?_
        refine z_lconst hC (v := 0) k_lconst_0 dX12_go_206 ?_
        refine pf_RX12_43 hC dX12_go_207 hk4 ?_
        refine z_genL (fun L39 eL39 => ?_)
        have h := h L39 eL39
        refine z_aload_n hC (q := 3) dX12_go_210 rfl rfl ?_
        refine z_iconst hC (v := 0) k_iconst_0 dX12_go_211 ?_
        refine pf_RX12_47 hC dX12_go_212 hk4 ?_
        refine z_genI (fun I40 eI40 => ?_)
        have h := h I40 eI40
        exact z_sub [(0, .ref x0), (2, .int (bi r38)), (3, .int 1)] [3, 1, 0] rfl (z_X12_go_215 hC hRm h)
      · have h := h.2 hc
        refine z_aload_n hC (q := 1) dX12_go_137 rfl rfl ?_
        refine z_iload_n hC (q := 0) dX12_go_138 rfl rfl ?_
        refine z_bipush hC (v := 59) k_bipush_59 dX12_go_139 ?_
        refine z_icmp_eq hC (tgt := 174) dX12_go_141 (by decide) (fun hc => ?_) (fun hc => ?_)
        · have h := h.1 hc
          refine z_iconst hC (v := 4) k_iconst_4 dX12_go_174 ?_
          refine z_goto hC (tgt := 179) dX12_go_175 (by decide) ?_
          refine pf_RX12_30 hC dX12_go_179 hk4 ?_
          refine z_genI (fun I41 eI41 => ?_)
          have h := h I41 eI41
          refine z_aload_n hC (q := 1) dX12_go_182 rfl rfl ?_
          refine z_iload_n hC (q := 0) dX12_go_183 rfl rfl ?_
          refine pf_RX12_40 hC dX12_go_184 hk4 ?_
          refine z_genI (fun I42 eI42 => ?_)
          have h := h I42 eI42
          refine z_aload_n hC (q := 1) dX12_go_187 rfl rfl ?_
          refine z_dup hC rfl dX12_go_188 ?_
          refine gf_RX12_21 hC dX12_go_189 hk4 ?_
          refine z_iconst hC (v := 1) k_iconst_1 dX12_go_192 ?_
          refine z_iadd hC dX12_go_193 ?_
          refine pf_RX12_21 hC dX12_go_194 hk4 ?_
          refine z_genI (fun I43 eI43 => ?_)
          have h := h I43 eI43
          exact z_vret hC dX12_go_197 ⟨rfl, rfl, rfl, rfl, h⟩
        · have h := h.2 hc
          refine z_iload_n hC (q := 0) dX12_go_144 rfl rfl ?_
          refine z_bipush hC (v := 60) k_bipush_60 dX12_go_145 ?_
          refine z_icmp_eq hC (tgt := 174) dX12_go_147 (by decide) (fun hc => ?_) (fun hc => ?_)
          · have h := h.1 hc
            refine z_iconst hC (v := 4) k_iconst_4 dX12_go_174 ?_
            refine z_goto hC (tgt := 179) dX12_go_175 (by decide) ?_
            refine pf_RX12_30 hC dX12_go_179 hk4 ?_
            refine z_genI (fun I44 eI44 => ?_)
            have h := h I44 eI44
            refine z_aload_n hC (q := 1) dX12_go_182 rfl rfl ?_
            refine z_iload_n hC (q := 0) dX12_go_183 rfl rfl ?_
            refine pf_RX12_40 hC dX12_go_184 hk4 ?_
            refine z_genI (fun I45 eI45 => ?_)
            have h := h I45 eI45
            refine z_aload_n hC (q := 1) dX12_go_187 rfl rfl ?_
            refine z_dup hC rfl dX12_go_188 ?_
            refine gf_RX12_21 hC dX12_go_189 hk4 ?_
            refine z_iconst hC (v := 1) k_iconst_1 dX12_go_192 ?_
            refine z_iadd hC dX12_go_193 ?_
            refine pf_RX12_21 hC dX12_go_194 hk4 ?_
            refine z_genI (fun I46 eI46 => ?_)
            have h := h I46 eI46
            exact z_vret hC dX12_go_197 ⟨rfl, rfl, rfl, rfl, h⟩
          · have h := h.2 hc
            refine z_iload_n hC (q := 0) dX12_go_150 rfl rfl ?_
            refine z_bipush hC (v := 61) k_bipush_61 dX12_go_151 ?_
            refine z_icmp_eq hC (tgt := 174) dX12_go_153 (by decide) (fun hc => ?_) (fun hc => ?_)
            · have h := h.1 hc
              refine z_iconst hC (v := 4) k_iconst_4 dX12_go_174 ?_
              refine z_goto hC (tgt := 179) dX12_go_175 (by decide) ?_
              refine pf_RX12_30 hC dX12_go_179 hk4 ?_
              refine z_genI (fun I47 eI47 => ?_)
              have h := h I47 eI47
              refine z_aload_n hC (q := 1) dX12_go_182 rfl rfl ?_
              refine z_iload_n hC (q := 0) dX12_go_183 rfl rfl ?_
              refine pf_RX12_40 hC dX12_go_184 hk4 ?_
              refine z_genI (fun I48 eI48 => ?_)
              have h := h I48 eI48
              refine z_aload_n hC (q := 1) dX12_go_187 rfl rfl ?_
              refine z_dup hC rfl dX12_go_188 ?_
              refine gf_RX12_21 hC dX12_go_189 hk4 ?_
              refine z_iconst hC (v := 1) k_iconst_1 dX12_go_192 ?_
              refine z_iadd hC dX12_go_193 ?_
              refine pf_RX12_21 hC dX12_go_194 hk4 ?_
              refine z_genI (fun I49 eI49 => ?_)
              have h := h I49 eI49
              exact z_vret hC dX12_go_197 ⟨rfl, rfl, rfl, rfl, h⟩
            · have h := h.2 hc
              refine z_iload_n hC (q := 0) dX12_go_156 rfl rfl ?_
              refine z_bipush hC (v := 62) k_bipush_62 dX12_go_157 ?_
              refine z_icmp_eq hC (tgt := 174) dX12_go_159 (by decide) (fun hc => ?_) (fun hc => ?_)
              · have h := h.1 hc
                refine z_iconst hC (v := 4) k_iconst_4 dX12_go_174 ?_
                refine z_goto hC (tgt := 179) dX12_go_175 (by decide) ?_
                refine pf_RX12_30 hC dX12_go_179 hk4 ?_
                refine z_genI (fun I50 eI50 => ?_)
                have h := h I50 eI50
                refine z_aload_n hC (q := 1) dX12_go_182 rfl rfl ?_
                refine z_iload_n hC (q := 0) dX12_go_183 rfl rfl ?_
                refine pf_RX12_40 hC dX12_go_184 hk4 ?_
                refine z_genI (fun I51 eI51 => ?_)
                have h := h I51 eI51
                refine z_aload_n hC (q := 1) dX12_go_187 rfl rfl ?_
                refine z_dup hC rfl dX12_go_188 ?_
                refine gf_RX12_21 hC dX12_go_189 hk4 ?_
                refine z_iconst hC (v := 1) k_iconst_1 dX12_go_192 ?_
                refine z_iadd hC dX12_go_193 ?_
                refine pf_RX12_21 hC dX12_go_194 hk4 ?_
                refine z_genI (fun I52 eI52 => ?_)
                have h := h I52 eI52
                exact z_vret hC dX12_go_197 ⟨rfl, rfl, rfl, rfl, h⟩
              · have h := h.2 hc
                refine z_iload_n hC (q := 0) dX12_go_162 rfl rfl ?_
                refine z_bipush hC (v := 40) k_bipush_40 dX12_go_163 ?_
                refine z_icmp_eq hC (tgt := 174) dX12_go_165 (by decide) (fun hc => ?_) (fun hc => ?_)
                · have h := h.1 hc
                  refine z_iconst hC (v := 4) k_iconst_4 dX12_go_174 ?_
                  refine z_goto hC (tgt := 179) dX12_go_175 (by decide) ?_
                  refine pf_RX12_30 hC dX12_go_179 hk4 ?_
                  refine z_genI (fun I53 eI53 => ?_)
                  have h := h I53 eI53
                  refine z_aload_n hC (q := 1) dX12_go_182 rfl rfl ?_
                  refine z_iload_n hC (q := 0) dX12_go_183 rfl rfl ?_
                  refine pf_RX12_40 hC dX12_go_184 hk4 ?_
                  refine z_genI (fun I54 eI54 => ?_)
                  have h := h I54 eI54
                  refine z_aload_n hC (q := 1) dX12_go_187 rfl rfl ?_
                  refine z_dup hC rfl dX12_go_188 ?_
                  refine gf_RX12_21 hC dX12_go_189 hk4 ?_
                  refine z_iconst hC (v := 1) k_iconst_1 dX12_go_192 ?_
                  refine z_iadd hC dX12_go_193 ?_
                  refine pf_RX12_21 hC dX12_go_194 hk4 ?_
                  refine z_genI (fun I55 eI55 => ?_)
                  have h := h I55 eI55
                  exact z_vret hC dX12_go_197 ⟨rfl, rfl, rfl, rfl, h⟩
                · have h := h.2 hc
                  refine z_iload_n hC (q := 0) dX12_go_168 rfl rfl ?_
                  refine z_bipush hC (v := 41) k_bipush_41 dX12_go_169 ?_
                  refine z_icmp_ne hC (tgt := 178) dX12_go_171 (by decide) (fun hc => ?_) (fun hc => ?_)
                  · have h := h.1 hc
                    refine z_iconst hC (v := 1) k_iconst_1 dX12_go_178 ?_
                    refine pf_RX12_30 hC dX12_go_179 hk4 ?_
                    refine z_genI (fun I56 eI56 => ?_)
                    have h := h I56 eI56
                    refine z_aload_n hC (q := 1) dX12_go_182 rfl rfl ?_
                    refine z_iload_n hC (q := 0) dX12_go_183 rfl rfl ?_
                    refine pf_RX12_40 hC dX12_go_184 hk4 ?_
                    refine z_genI (fun I57 eI57 => ?_)
                    have h := h I57 eI57
                    refine z_aload_n hC (q := 1) dX12_go_187 rfl rfl ?_
                    refine z_dup hC rfl dX12_go_188 ?_
                    refine gf_RX12_21 hC dX12_go_189 hk4 ?_
                    refine z_iconst hC (v := 1) k_iconst_1 dX12_go_192 ?_
                    refine z_iadd hC dX12_go_193 ?_
                    refine pf_RX12_21 hC dX12_go_194 hk4 ?_
                    refine z_genI (fun I58 eI58 => ?_)
                    have h := h I58 eI58
                    exact z_vret hC dX12_go_197 ⟨rfl, rfl, rfl, rfl, h⟩
                  · have h := h.2 hc
                    refine z_iconst hC (v := 4) k_iconst_4 dX12_go_174 ?_
                    refine z_goto hC (tgt := 179) dX12_go_175 (by decide) ?_
                    refine pf_RX12_30 hC dX12_go_179 hk4 ?_
                    refine z_genI (fun I59 eI59 => ?_)
                    have h := h I59 eI59
                    refine z_aload_n hC (q := 1) dX12_go_182 rfl rfl ?_
                    refine z_iload_n hC (q := 0) dX12_go_183 rfl rfl ?_
                    refine pf_RX12_40 hC dX12_go_184 hk4 ?_
                    refine z_genI (fun I60 eI60 => ?_)
                    have h := h I60 eI60
                    refine z_aload_n hC (q := 1) dX12_go_187 rfl rfl ?_
                    refine z_dup hC rfl dX12_go_188 ?_
                    refine gf_RX12_21 hC dX12_go_189 hk4 ?_
                    refine z_iconst hC (v := 1) k_iconst_1 dX12_go_192 ?_
                    refine z_iadd hC dX12_go_193 ?_
                    refine pf_RX12_21 hC dX12_go_194 hk4 ?_
                    refine z_genI (fun I61 eI61 => ?_)
                    have h := h I61 eI61
                    exact z_vret hC dX12_go_197 ⟨rfl, rfl, rfl, rfl, h⟩
  · have h := h.2 hc
    refine z_aload_n hC (q := 0) dX12_go_107 rfl rfl ?_
    refine z_iconst hC (v := 0) k_iconst_0 dX12_go_108 ?_
    refine pf_RX12_30 hC dX12_go_109 hk4 ?_
    refine z_genI (fun I62 eI62 => ?_)
    have h := h I62 eI62
    exact z_vret hC dX12_go_112 ⟨rfl, rfl, rfl, rfl, h⟩
set_option maxHeartbeats 4000000 in
set_option maxRecDepth 100000 in
theorem z_X12_go_52 {X : ZX} {G : ZG}  {x0 : Nat}  {K : MK} {N : MK} {I : MI} {L : ML} {R : MR}  {Q : MI → ML → Prop} (hC : ZOk X G RX12 cX12_go 5 none) (hRm : X.2.2.2.1 = rm_X12_go) (h : w_X12_go_52 x0 K N I L R  Q) : Z X G 5 0 0 (z_T X G (qLv K N R Q) 0 0) K N I L R 52 [(0, .ref x0)] [] := by
  delta w_X12_go_52 at h
  refine z_aload_n hC (q := 0) dX12_go_52 rfl rfl ?_
  refine z_aload_n hC (q := 0) dX12_go_53 rfl rfl ?_
  obtain ⟨hk2, h⟩ := h
  refine gf_RX12_21 hC dX12_go_54 hk2 ?_
  refine pf_RX12_24 hC dX12_go_57 hk2 ?_
  refine z_genI (fun I3 eI3 => ?_)
  have h := h I3 eI3
  refine z_aload_n hC (q := 0) dX12_go_60 rfl rfl ?_
  refine gf_RX12_18 hC dX12_go_61 hk2 ?_
  refine z_aload_n hC (q := 0) dX12_go_64 rfl rfl ?_
  refine gf_RX12_27 hC dX12_go_65 hk2 ?_
  refine z_icmp_le hC (tgt := 96) dX12_go_68 (by decide) (fun hc => ?_) (fun hc => ?_)
  · have h := h.1 hc
    exact z_sub [(0, .ref x0)] [0] rfl (z_X12_go_96 hC hRm h)
  · have h := h.2 hc
    refine z_aload_n hC (q := 0) dX12_go_71 rfl rfl ?_
    refine gf_RX12_24 hC dX12_go_72 hk2 ?_
    refine z_aload_n hC (q := 0) dX12_go_75 rfl rfl ?_
    refine gf_RX12_27 hC dX12_go_76 hk2 ?_
    refine z_icmp_lt hC (tgt := 96) dX12_go_79 (by decide) (fun hc => ?_) (fun hc => ?_)
    · have h := h.1 hc
      exact z_sub [(0, .ref x0)] [0] rfl (z_X12_go_96 hC hRm h)
    · have h := h.2 hc
      refine z_aload_n hC (q := 0) dX12_go_82 rfl rfl ?_
      refine z_aload_n hC (q := 0) dX12_go_83 rfl rfl ?_
      refine gf_RX12_27 hC dX12_go_84 hk2 ?_
      refine pf_RX12_24 hC dX12_go_87 hk2 ?_
      refine z_genI (fun I63 eI63 => ?_)
      have h := h I63 eI63
      refine z_aload_n hC (q := 0) dX12_go_90 rfl rfl ?_
      refine z_iconst hC (v := 1) k_iconst_1 dX12_go_91 ?_
      refine pf_RX12_30 hC dX12_go_92 hk2 ?_
      refine z_genI (fun I64 eI64 => ?_)
      have h := h I64 eI64
      exact z_vret hC dX12_go_95 ⟨rfl, rfl, rfl, rfl, h⟩
set_option maxHeartbeats 4000000 in
set_option maxRecDepth 100000 in
theorem z_X12_go_0 {X : ZX} {G : ZG}  {x0 : Nat}  {K : MK} {N : MK} {I : MI} {L : ML} {R : MR}  {Q : MI → ML → Prop} (hC : ZOk X G RX12 cX12_go 5 none) (hRm : X.2.2.2.1 = rm_X12_go) (h : w_X12_go_0 x0 K N I L R  Q) : Z X G 5 0 0 (z_T X G (qLv K N R Q) 0 0) K N I L R 0 [(0, .ref x0)] [] := by
  delta w_X12_go_0 at h
  obtain ⟨J, ⟨n, h0⟩, hs⟩ := h
  have key : ∀ (n : Nat) (x0 : Nat) (I : MI) (L : ML), J n x0 I L → Z X G 5 0 0 (z_T X G (qLv K N R Q) 0 0) K N I L R 0 [(0, .ref x0)] [] := by
    intro n
    induction n using Nat.strongRecOn with
    | _ n ih =>
      intro x0 I L hJ
      have hC0 : ∀ (y0 : Nat) (zI : MI) (zL : ML), (∃ n1, n1 < n ∧ J n1 y0 zI zL) → Z X G 5 0 0 (z_T X G (qLv K N R Q) 0 0) K N zI zL R 0 [(0, .ref y0)] [] := fun y0 zI zL ⟨n1, hn1, hj⟩ => ih n1 hn1 y0 zI zL hj
      have h := hs n x0 I L hJ
      refine z_aload_n hC (q := 0) dX12_go_0 rfl rfl ?_
      obtain ⟨hk1, h⟩ := h
      refine gf_RX12_21 hC dX12_go_1 hk1 ?_
      refine z_aload_n hC (q := 0) dX12_go_4 rfl rfl ?_
      refine gf_RX12_18 hC dX12_go_5 hk1 ?_
      refine z_icmp_ge hC (tgt := 52) dX12_go_8 (by decide) (fun hc => ?_) (fun hc => ?_)
      · have h := h.1 hc
        exact z_sub [(0, .ref x0)] [0] rfl (z_X12_go_52 hC hRm h)
      · have h := h.2 hc
        refine z_aload_n hC (q := 0) dX12_go_11 rfl rfl ?_
        obtain ⟨b65, hb65, h⟩ := h
        refine gf_RX12_7 hC dX12_go_12 hk1 hb65 ?_
        refine z_aload_n hC (q := 0) dX12_go_15 rfl rfl ?_
        refine gf_RX12_21 hC dX12_go_16 hk1 ?_
        obtain ⟨hk66, h⟩ := h
        obtain ⟨hi67, h⟩ := h
        refine z_iaload hC hk66 hi67 dX12_go_19 ?_
        refine z_bipush hC (v := 32) k_bipush_32 dX12_go_20 ?_
        refine z_icmp_eq hC (tgt := 39) dX12_go_22 (by decide) (fun hc => ?_) (fun hc => ?_)
        · have h := h.1 hc
          refine z_aload_n hC (q := 0) dX12_go_39 rfl rfl ?_
          refine z_dup hC rfl dX12_go_40 ?_
          refine gf_RX12_21 hC dX12_go_41 hk1 ?_
          refine z_iconst hC (v := 1) k_iconst_1 dX12_go_44 ?_
          refine z_iadd hC dX12_go_45 ?_
          refine pf_RX12_21 hC dX12_go_46 hk1 ?_
          refine z_genI (fun I68 eI68 => ?_)
          have h := h I68 eI68
          refine z_goto hC (tgt := 0) dX12_go_49 (by decide) ?_
          exact z_sub [(0, .ref x0)] [0] rfl (hC0 _ _ _ h)
        · have h := h.2 hc
          refine z_aload_n hC (q := 0) dX12_go_25 rfl rfl ?_
          refine gf_RX12_7 hC dX12_go_26 hk1 hb65 ?_
          refine z_aload_n hC (q := 0) dX12_go_29 rfl rfl ?_
          refine gf_RX12_21 hC dX12_go_30 hk1 ?_
          refine z_iaload hC hk66 hi67 dX12_go_33 ?_
          refine z_bipush hC (v := 10) k_bipush_10 dX12_go_34 ?_
          refine z_icmp_ne hC (tgt := 52) dX12_go_36 (by decide) (fun hc => ?_) (fun hc => ?_)
          · have h := h.1 hc
            exact z_sub [(0, .ref x0)] [0] rfl (z_X12_go_52 hC hRm h)
          · have h := h.2 hc
            refine z_aload_n hC (q := 0) dX12_go_39 rfl rfl ?_
            refine z_dup hC rfl dX12_go_40 ?_
            refine gf_RX12_21 hC dX12_go_41 hk1 ?_
            refine z_iconst hC (v := 1) k_iconst_1 dX12_go_44 ?_
            refine z_iadd hC dX12_go_45 ?_
            refine pf_RX12_21 hC dX12_go_46 hk1 ?_
            refine z_genI (fun I69 eI69 => ?_)
            have h := h I69 eI69
            refine z_goto hC (tgt := 0) dX12_go_49 (by decide) ?_
            exact z_sub [(0, .ref x0)] [0] rfl (hC0 _ _ _ h)
  exact key n x0 I L h0
set_option maxHeartbeats 4000000 in
set_option maxRecDepth 100000 in
theorem c_X12_go  (l : Launch) (G : ZG) (a0 : Nat) (K : MK) (N : MK) (I : MI) (L : ML) (R : MR) (Q : MI → ML → Prop) (h : w_X12_go a0 K N I L R Q) : Met l yX12_go (.code yX12_go cX12_go 5 none :: z_tbl) rm_X12_go (z_Pc G [.ref a0] K N I L R) (z_Qc G (qLv K N R Q)) 0 0 (z_A G) := by
  refine z_met (by decide) (Nat.le_of_ble_eq_true rfl) (fun X hX hRm hC0 hnm => ?_)
  subst hX
  have hC : ZOk X G RX12 cX12_go 5 none := hC0
  show Z X G 5 0 0 _ K N I L R 0 [(0, .ref a0)] []
  delta w_X12_go at h
  exact z_sub [(0, .ref a0)] [0] rfl (z_X12_go_0 hC hRm h)
def w_X12_spelt_57  (x4 : Int32) (x5 : Int32) (x6 : Int64)  (K : MK) (N : MK) (I : MI) (L : ML) (R : MR)  (Q : Int64 → Prop) : Prop := (x4 ≤ 0 → (x5 ≤ 0 → Q x6) ∧ (¬ x5 ≤ 0 → ∀ v2 : Int64, v2 = ((((27 : Int64) * x6) + (Int32.toInt64 x5)) - 96) → Q v2)) ∧ (¬ x4 ≤ 0 → ∀ v3 : Int64, v3 = ((((27 : Int64) * x6) + (Int32.toInt64 x4)) - 96) → (x5 ≤ 0 → Q v3) ∧ (¬ x5 ≤ 0 → ∀ v4 : Int64, v4 = ((((27 : Int64) * v3) + (Int32.toInt64 x5)) - 96) → Q v4))
def w_X12_spelt_38  (x3 : Int32) (x4 : Int32) (x5 : Int32) (x6 : Int64)  (K : MK) (N : MK) (I : MI) (L : ML) (R : MR)  (Q : Int64 → Prop) : Prop := (x3 ≤ 0 → w_X12_spelt_57 x4 x5 x6 K N I L R Q) ∧ (¬ x3 ≤ 0 → ∀ v5 : Int64, v5 = ((((27 : Int64) * x6) + (Int32.toInt64 x3)) - 96) → w_X12_spelt_57 x4 x5 v5 K N I L R Q)
def w_X12_spelt  (a0 : Int32) (a1 : Int32) (a2 : Int32) (a3 : Int32) (a4 : Int32) (a5 : Int32) (K : MK) (N : MK) (I : MI) (L : ML) (R : MR) (Q : Int64 → Prop) : Prop := ∀ v1 : Int64, v1 = ((((27 : Int64) * ((Int32.toInt64 a0) - 96)) + (Int32.toInt64 a1)) - 96) → (a2 ≤ 0 → w_X12_spelt_38 a3 a4 a5 v1 K N I L R Q) ∧ (¬ a2 ≤ 0 → ∀ v6 : Int64, v6 = ((((27 : Int64) * v1) + (Int32.toInt64 a2)) - 96) → w_X12_spelt_38 a3 a4 a5 v6 K N I L R Q)
set_option maxHeartbeats 4000000 in
set_option maxRecDepth 100000 in
theorem z_X12_spelt_57 {X : ZX} {G : ZG}  {x4 : Int32} {x5 : Int32} {x6 : Int64}  {K : MK} {N : MK} {I : MI} {L : ML} {R : MR}  {Q : Int64 → Prop} (hC : ZOk X G RX12 cX12_spelt 8 (some .long)) (hRm : X.2.2.2.1 = rm_X12_spelt) (h : w_X12_spelt_57 x4 x5 x6 K N I L R  Q) : Z X G 8 0 0 (z_T X G (qPl K N I L R Q) 0 0) K N I L R 57 [(4, .int x4), (5, .int x5), (6, .long x6)] [] := by
  delta w_X12_spelt_57 at h
  refine z_iload hC (q := 0) dX12_spelt_57 rfl ?_
  refine z_if_le hC (tgt := 78) dX12_spelt_59 (by decide) (fun hc => ?_) (fun hc => ?_)
  · have h := h.1 hc
    refine z_iload hC (q := 1) dX12_spelt_78 rfl ?_
    refine z_if_le hC (tgt := 99) dX12_spelt_80 (by decide) (fun hc => ?_) (fun hc => ?_)
    · have h := h.1 hc
      refine z_lload hC (q := 2) dX12_spelt_99 rfl ?_
      exact z_lret hC dX12_spelt_101 ⟨_, rfl, rfl, rfl, rfl, rfl, rfl, h⟩
    · have h := h.2 hc
      refine z_ldc2 hC cst_RX12_54 dX12_spelt_83 ?_
      refine z_lload hC (q := 2) dX12_spelt_86 rfl ?_
      refine z_lmul hC dX12_spelt_88 ?_
      refine z_iload hC (q := 1) dX12_spelt_89 rfl ?_
      refine z_i2l hC dX12_spelt_91 ?_
      refine z_ladd hC dX12_spelt_92 ?_
      refine z_ldc2 hC cst_RX12_56 dX12_spelt_93 ?_
      refine z_lsub hC dX12_spelt_96 ?_
      refine z_topl (fun v2 ev2 => ?_)
      have h := h v2 ev2
      refine z_lstore hC (lv1 := [(6, .long v2), (4, .int x4), (5, .int x5)]) dX12_spelt_97 (by decide) rfl ?_
      refine z_lload hC (q := 0) dX12_spelt_99 rfl ?_
      exact z_lret hC dX12_spelt_101 ⟨_, rfl, rfl, rfl, rfl, rfl, rfl, h⟩
  · have h := h.2 hc
    refine z_ldc2 hC cst_RX12_54 dX12_spelt_62 ?_
    refine z_lload hC (q := 2) dX12_spelt_65 rfl ?_
    refine z_lmul hC dX12_spelt_67 ?_
    refine z_iload hC (q := 0) dX12_spelt_68 rfl ?_
    refine z_i2l hC dX12_spelt_70 ?_
    refine z_ladd hC dX12_spelt_71 ?_
    refine z_ldc2 hC cst_RX12_56 dX12_spelt_72 ?_
    refine z_lsub hC dX12_spelt_75 ?_
    refine z_topl (fun v3 ev3 => ?_)
    have h := h v3 ev3
    refine z_lstore hC (lv1 := [(6, .long v3), (4, .int x4), (5, .int x5)]) dX12_spelt_76 (by decide) rfl ?_
    refine z_iload hC (q := 2) dX12_spelt_78 rfl ?_
    refine z_if_le hC (tgt := 99) dX12_spelt_80 (by decide) (fun hc => ?_) (fun hc => ?_)
    · have h := h.1 hc
      refine z_lload hC (q := 0) dX12_spelt_99 rfl ?_
      exact z_lret hC dX12_spelt_101 ⟨_, rfl, rfl, rfl, rfl, rfl, rfl, h⟩
    · have h := h.2 hc
      refine z_ldc2 hC cst_RX12_54 dX12_spelt_83 ?_
      refine z_lload hC (q := 0) dX12_spelt_86 rfl ?_
      refine z_lmul hC dX12_spelt_88 ?_
      refine z_iload hC (q := 2) dX12_spelt_89 rfl ?_
      refine z_i2l hC dX12_spelt_91 ?_
      refine z_ladd hC dX12_spelt_92 ?_
      refine z_ldc2 hC cst_RX12_56 dX12_spelt_93 ?_
      refine z_lsub hC dX12_spelt_96 ?_
      refine z_topl (fun v4 ev4 => ?_)
      have h := h v4 ev4
      refine z_lstore hC (lv1 := [(6, .long v4), (4, .int x4), (5, .int x5)]) dX12_spelt_97 (by decide) rfl ?_
      refine z_lload hC (q := 0) dX12_spelt_99 rfl ?_
      exact z_lret hC dX12_spelt_101 ⟨_, rfl, rfl, rfl, rfl, rfl, rfl, h⟩
set_option maxHeartbeats 4000000 in
set_option maxRecDepth 100000 in
theorem z_X12_spelt_38 {X : ZX} {G : ZG}  {x3 : Int32} {x4 : Int32} {x5 : Int32} {x6 : Int64}  {K : MK} {N : MK} {I : MI} {L : ML} {R : MR}  {Q : Int64 → Prop} (hC : ZOk X G RX12 cX12_spelt 8 (some .long)) (hRm : X.2.2.2.1 = rm_X12_spelt) (h : w_X12_spelt_38 x3 x4 x5 x6 K N I L R  Q) : Z X G 8 0 0 (z_T X G (qPl K N I L R Q) 0 0) K N I L R 38 [(3, .int x3), (4, .int x4), (5, .int x5), (6, .long x6)] [] := by
  delta w_X12_spelt_38 at h
  refine z_iload_n hC (q := 0) dX12_spelt_38 rfl rfl ?_
  refine z_if_le hC (tgt := 57) dX12_spelt_39 (by decide) (fun hc => ?_) (fun hc => ?_)
  · have h := h.1 hc
    exact z_sub [(4, .int x4), (5, .int x5), (6, .long x6)] [1, 2, 3] rfl (z_X12_spelt_57 hC hRm h)
  · have h := h.2 hc
    refine z_ldc2 hC cst_RX12_54 dX12_spelt_42 ?_
    refine z_lload hC (q := 3) dX12_spelt_45 rfl ?_
    refine z_lmul hC dX12_spelt_47 ?_
    refine z_iload_n hC (q := 0) dX12_spelt_48 rfl rfl ?_
    refine z_i2l hC dX12_spelt_49 ?_
    refine z_ladd hC dX12_spelt_50 ?_
    refine z_ldc2 hC cst_RX12_56 dX12_spelt_51 ?_
    refine z_lsub hC dX12_spelt_54 ?_
    refine z_topl (fun v5 ev5 => ?_)
    have h := h v5 ev5
    refine z_lstore hC (lv1 := [(6, .long v5), (3, .int x3), (4, .int x4), (5, .int x5)]) dX12_spelt_55 (by decide) rfl ?_
    exact z_sub [(4, .int x4), (5, .int x5), (6, .long v5)] [2, 3, 0] rfl (z_X12_spelt_57 hC hRm h)
set_option maxHeartbeats 4000000 in
set_option maxRecDepth 100000 in
theorem c_X12_spelt  (l : Launch) (G : ZG) (a0 : Int32) (a1 : Int32) (a2 : Int32) (a3 : Int32) (a4 : Int32) (a5 : Int32) (K : MK) (N : MK) (I : MI) (L : ML) (R : MR) (Q : Int64 → Prop) (h : w_X12_spelt a0 a1 a2 a3 a4 a5 K N I L R Q) : Met l yX12_spelt (.code yX12_spelt cX12_spelt 8 (some .long) :: z_tbl) rm_X12_spelt (z_Pc G [.int a0, .int a1, .int a2, .int a3, .int a4, .int a5] K N I L R) (z_Qc G (qPl K N I L R Q)) 0 0 (z_A G) := by
  refine z_met (by decide) (Nat.le_of_ble_eq_true rfl) (fun X hX hRm hC0 hnm => ?_)
  subst hX
  have hC : ZOk X G RX12 cX12_spelt 8 (some .long) := hC0
  show Z X G 8 0 0 _ K N I L R 0 [(0, .int a0), (1, .int a1), (2, .int a2), (3, .int a3), (4, .int a4), (5, .int a5)] []
  delta w_X12_spelt at h
  refine z_ldc2 hC cst_RX12_54 dX12_spelt_0 ?_
  refine z_iload_n hC (q := 0) dX12_spelt_3 rfl rfl ?_
  refine z_i2l hC dX12_spelt_4 ?_
  refine z_ldc2 hC cst_RX12_56 dX12_spelt_5 ?_
  refine z_lsub hC dX12_spelt_8 ?_
  refine z_lmul hC dX12_spelt_9 ?_
  refine z_iload_n hC (q := 1) dX12_spelt_10 rfl rfl ?_
  refine z_i2l hC dX12_spelt_11 ?_
  refine z_ladd hC dX12_spelt_12 ?_
  refine z_ldc2 hC cst_RX12_56 dX12_spelt_13 ?_
  refine z_lsub hC dX12_spelt_16 ?_
  refine z_topl (fun v1 ev1 => ?_)
  have h := h v1 ev1
  refine z_lstore hC (lv1 := [(6, .long v1), (0, .int a0), (1, .int a1), (2, .int a2), (3, .int a3), (4, .int a4), (5, .int a5)]) dX12_spelt_17 (by decide) rfl ?_
  refine z_iload_n hC (q := 3) dX12_spelt_19 rfl rfl ?_
  refine z_if_le hC (tgt := 38) dX12_spelt_20 (by decide) (fun hc => ?_) (fun hc => ?_)
  · have h := h.1 hc
    exact z_sub [(3, .int a3), (4, .int a4), (5, .int a5), (6, .long v1)] [4, 5, 6, 0] rfl (z_X12_spelt_38 hC hRm h)
  · have h := h.2 hc
    refine z_ldc2 hC cst_RX12_54 dX12_spelt_23 ?_
    refine z_lload hC (q := 0) dX12_spelt_26 rfl ?_
    refine z_lmul hC dX12_spelt_28 ?_
    refine z_iload_n hC (q := 3) dX12_spelt_29 rfl rfl ?_
    refine z_i2l hC dX12_spelt_30 ?_
    refine z_ladd hC dX12_spelt_31 ?_
    refine z_ldc2 hC cst_RX12_56 dX12_spelt_32 ?_
    refine z_lsub hC dX12_spelt_35 ?_
    refine z_topl (fun v6 ev6 => ?_)
    have h := h v6 ev6
    refine z_lstore hC (lv1 := [(6, .long v6), (0, .int a0), (1, .int a1), (2, .int a2), (3, .int a3), (4, .int a4), (5, .int a5)]) dX12_spelt_36 (by decide) rfl ?_
    exact z_sub [(3, .int a3), (4, .int a4), (5, .int a5), (6, .long v6)] [4, 5, 6, 0] rfl (z_X12_spelt_38 hC hRm h)
def w_X12_wordOf  (a0 : Int32) (K : MK) (N : MK) (I : MI) (L : ML) (R : MR) (Q : Int64 → Prop) : Prop := (a0 = 0 → w_X12_spelt 115 105 122 101 0 0 K N I L R (fun r1 => Q r1)) ∧ (¬ a0 = 0 → (a0 = 1 → w_X12_spelt 114 111 119 0 0 0 K N I L R (fun r2 => Q r2)) ∧ (¬ a0 = 1 → (a0 = 2 → w_X12_spelt 115 99 111 112 101 0 K N I L R (fun r3 => Q r3)) ∧ (¬ a0 = 2 → (a0 = 3 → w_X12_spelt 116 121 112 101 0 0 K N I L R (fun r4 => Q r4)) ∧ (¬ a0 = 3 → (a0 = 4 → w_X12_spelt 112 108 97 105 110 0 K N I L R (fun r5 => Q r5)) ∧ (¬ a0 = 4 → (a0 = 5 → w_X12_spelt 118 97 114 0 0 0 K N I L R (fun r6 => Q r6)) ∧ (¬ a0 = 5 → (a0 = 6 → w_X12_spelt 119 104 101 114 101 0 K N I L R (fun r7 => Q r7)) ∧ (¬ a0 = 6 → (a0 = 7 → w_X12_spelt 105 110 0 0 0 0 K N I L R (fun r8 => Q r8)) ∧ (¬ a0 = 7 → (a0 = 8 → w_X12_spelt 114 101 103 0 0 0 K N I L R (fun r9 => Q r9)) ∧ (¬ a0 = 8 → (a0 = 9 → w_X12_spelt 112 108 117 115 0 0 K N I L R (fun r10 => Q r10)) ∧ (¬ a0 = 9 → (a0 = 10 → w_X12_spelt 109 105 110 117 115 0 K N I L R (fun r11 => Q r11)) ∧ (¬ a0 = 10 → (a0 = 11 → w_X12_spelt 116 105 109 101 115 0 K N I L R (fun r12 => Q r12)) ∧ (¬ a0 = 11 → (a0 = 12 → w_X12_spelt 108 111 97 100 0 0 K N I L R (fun r13 => Q r13)) ∧ (¬ a0 = 12 → (a0 = 13 → w_X12_spelt 100 117 112 0 0 0 K N I L R (fun r14 => Q r14)) ∧ (¬ a0 = 13 → (a0 = 14 → w_X12_spelt 115 119 97 112 0 0 K N I L R (fun r15 => Q r15)) ∧ (¬ a0 = 14 → (a0 = 15 → w_X12_spelt 115 101 116 0 0 0 K N I L R (fun r16 => Q r16)) ∧ (¬ a0 = 15 → (a0 = 16 → w_X12_spelt 112 111 107 101 0 0 K N I L R (fun r17 => Q r17)) ∧ (¬ a0 = 16 → (a0 = 17 → w_X12_spelt 103 111 0 0 0 0 K N I L R (fun r18 => Q r18)) ∧ (¬ a0 = 17 → (a0 = 18 → w_X12_spelt 115 116 111 112 0 0 K N I L R (fun r19 => Q r19)) ∧ (¬ a0 = 18 → (a0 = 19 → w_X12_spelt 99 108 101 97 114 0 K N I L R (fun r20 => Q r20)) ∧ (¬ a0 = 19 → (a0 = 20 → w_X12_spelt 115 116 101 112 0 0 K N I L R (fun r21 => Q r21)) ∧ (¬ a0 = 20 → (a0 = 21 → w_X12_spelt 108 101 97 118 101 0 K N I L R (fun r22 => Q r22)) ∧ (¬ a0 = 21 → (a0 = 22 → w_X12_spelt 114 117 110 0 0 0 K N I L R (fun r23 => Q r23)) ∧ (¬ a0 = 22 → (a0 = 23 → w_X12_spelt 111 114 0 0 0 0 K N I L R (fun r24 => Q r24)) ∧ (¬ a0 = 23 → (a0 = 24 → w_X12_spelt 97 110 100 0 0 0 K N I L R (fun r25 => Q r25)) ∧ (¬ a0 = 24 → (a0 = 25 → w_X12_spelt 110 111 116 0 0 0 K N I L R (fun r26 => Q r26)) ∧ (¬ a0 = 25 → (a0 = 26 → w_X12_spelt 116 104 101 114 101 0 K N I L R (fun r27 => Q r27)) ∧ (¬ a0 = 26 → (a0 = 27 → w_X12_spelt 108 111 99 97 108 0 K N I L R (fun r28 => Q r28)) ∧ (¬ a0 = 27 → (a0 = 28 → w_X12_spelt 115 105 103 110 101 100 K N I L R (fun r29 => Q r29)) ∧ (¬ a0 = 28 → (a0 = 29 → w_X12_spelt 119 105 116 104 105 110 K N I L R (fun r30 => Q r30)) ∧ (¬ a0 = 29 → (a0 = 30 → w_X12_spelt 98 105 116 115 0 0 K N I L R (fun r31 => Q r31)) ∧ (¬ a0 = 30 → (a0 = 31 → w_X12_spelt 112 108 97 99 101 115 K N I L R (fun r32 => Q r32)) ∧ (¬ a0 = 31 → (a0 = 32 → w_X12_spelt 118 97 108 117 101 0 K N I L R (fun r33 => Q r33)) ∧ (¬ a0 = 32 → w_X12_spelt 110 117 109 98 101 114 K N I L R (fun r34 => Q r34))))))))))))))))))))))))))))))))))
set_option maxHeartbeats 4000000 in
set_option maxRecDepth 100000 in
theorem c_X12_wordOf  (l : Launch) (G : ZG) (a0 : Int32) (K : MK) (N : MK) (I : MI) (L : ML) (R : MR) (Q : Int64 → Prop) (h : w_X12_wordOf a0 K N I L R Q) : Met l yX12_wordOf (.code yX12_wordOf cX12_wordOf 1 (some .long) :: z_tbl) rm_X12_wordOf (z_Pc G [.int a0] K N I L R) (z_Qc G (qPl K N I L R Q)) 0 0 (z_A G) := by
  refine z_met (by decide) (Nat.le_of_ble_eq_true rfl) (fun X hX hRm hC0 hnm => ?_)
  subst hX
  have hC : ZOk X G RX12 cX12_wordOf 1 (some .long) := hC0
  show Z X G 1 0 0 _ K N I L R 0 [(0, .int a0)] []
  delta w_X12_wordOf at h
  refine z_iload_n hC (q := 0) dX12_wordOf_0 rfl rfl ?_
  by_cases hc0 : a0 = 0
  · have h := h.1 hc0
    refine z_tableIn hC (off := 147) (tgt := 148) 0 hc0 dX12_wordOf_1 (by decide) (by decide) ?_
    refine z_bipush hC (v := 115) k_bipush_115 dX12_wordOf_148 ?_
    refine z_bipush hC (v := 105) k_bipush_105 dX12_wordOf_150 ?_
    refine z_bipush hC (v := 122) k_bipush_122 dX12_wordOf_152 ?_
    refine z_bipush hC (v := 101) k_bipush_101 dX12_wordOf_154 ?_
    refine z_iconst hC (v := 0) k_iconst_0 dX12_wordOf_156 ?_
    refine z_iconst hC (v := 0) k_iconst_0 dX12_wordOf_157 ?_
    refine cl_RX12_58 hC (c_X12_spelt _ G 115 105 122 101 0 0 K N I L R _ h) dX12_wordOf_158 (by rw [hRm]; exact ⟨Nat.le_of_ble_eq_true rfl, Nat.le_of_ble_eq_true rfl⟩) ⟨Nat.zero_le _, Nat.zero_le _⟩ (Nat.le_of_ble_eq_true rfl) (z_kPl (fun r1 h => ?_))
    exact z_lret hC dX12_wordOf_161 ⟨_, rfl, rfl, rfl, rfl, rfl, rfl, h⟩
  · have h := h.2 hc0
    by_cases hc1 : a0 = 1
    · have h := h.1 hc1
      refine z_tableIn hC (off := 161) (tgt := 162) 1 hc1 dX12_wordOf_1 (by decide) (by decide) ?_
      refine z_bipush hC (v := 114) k_bipush_114 dX12_wordOf_162 ?_
      refine z_bipush hC (v := 111) k_bipush_111 dX12_wordOf_164 ?_
      refine z_bipush hC (v := 119) k_bipush_119 dX12_wordOf_166 ?_
      refine z_iconst hC (v := 0) k_iconst_0 dX12_wordOf_168 ?_
      refine z_iconst hC (v := 0) k_iconst_0 dX12_wordOf_169 ?_
      refine z_iconst hC (v := 0) k_iconst_0 dX12_wordOf_170 ?_
      refine cl_RX12_58 hC (c_X12_spelt _ G 114 111 119 0 0 0 K N I L R _ h) dX12_wordOf_171 (by rw [hRm]; exact ⟨Nat.le_of_ble_eq_true rfl, Nat.le_of_ble_eq_true rfl⟩) ⟨Nat.zero_le _, Nat.zero_le _⟩ (Nat.le_of_ble_eq_true rfl) (z_kPl (fun r2 h => ?_))
      exact z_lret hC dX12_wordOf_174 ⟨_, rfl, rfl, rfl, rfl, rfl, rfl, h⟩
    · have h := h.2 hc1
      by_cases hc2 : a0 = 2
      · have h := h.1 hc2
        refine z_tableIn hC (off := 174) (tgt := 175) 2 hc2 dX12_wordOf_1 (by decide) (by decide) ?_
        refine z_bipush hC (v := 115) k_bipush_115 dX12_wordOf_175 ?_
        refine z_bipush hC (v := 99) k_bipush_99 dX12_wordOf_177 ?_
        refine z_bipush hC (v := 111) k_bipush_111 dX12_wordOf_179 ?_
        refine z_bipush hC (v := 112) k_bipush_112 dX12_wordOf_181 ?_
        refine z_bipush hC (v := 101) k_bipush_101 dX12_wordOf_183 ?_
        refine z_iconst hC (v := 0) k_iconst_0 dX12_wordOf_185 ?_
        refine cl_RX12_58 hC (c_X12_spelt _ G 115 99 111 112 101 0 K N I L R _ h) dX12_wordOf_186 (by rw [hRm]; exact ⟨Nat.le_of_ble_eq_true rfl, Nat.le_of_ble_eq_true rfl⟩) ⟨Nat.zero_le _, Nat.zero_le _⟩ (Nat.le_of_ble_eq_true rfl) (z_kPl (fun r3 h => ?_))
        exact z_lret hC dX12_wordOf_189 ⟨_, rfl, rfl, rfl, rfl, rfl, rfl, h⟩
      · have h := h.2 hc2
        by_cases hc3 : a0 = 3
        · have h := h.1 hc3
          refine z_tableIn hC (off := 189) (tgt := 190) 3 hc3 dX12_wordOf_1 (by decide) (by decide) ?_
          refine z_bipush hC (v := 116) k_bipush_116 dX12_wordOf_190 ?_
          refine z_bipush hC (v := 121) k_bipush_121 dX12_wordOf_192 ?_
          refine z_bipush hC (v := 112) k_bipush_112 dX12_wordOf_194 ?_
          refine z_bipush hC (v := 101) k_bipush_101 dX12_wordOf_196 ?_
          refine z_iconst hC (v := 0) k_iconst_0 dX12_wordOf_198 ?_
          refine z_iconst hC (v := 0) k_iconst_0 dX12_wordOf_199 ?_
          refine cl_RX12_58 hC (c_X12_spelt _ G 116 121 112 101 0 0 K N I L R _ h) dX12_wordOf_200 (by rw [hRm]; exact ⟨Nat.le_of_ble_eq_true rfl, Nat.le_of_ble_eq_true rfl⟩) ⟨Nat.zero_le _, Nat.zero_le _⟩ (Nat.le_of_ble_eq_true rfl) (z_kPl (fun r4 h => ?_))
          exact z_lret hC dX12_wordOf_203 ⟨_, rfl, rfl, rfl, rfl, rfl, rfl, h⟩
        · have h := h.2 hc3
          by_cases hc4 : a0 = 4
          · have h := h.1 hc4
            refine z_tableIn hC (off := 203) (tgt := 204) 4 hc4 dX12_wordOf_1 (by decide) (by decide) ?_
            refine z_bipush hC (v := 112) k_bipush_112 dX12_wordOf_204 ?_
            refine z_bipush hC (v := 108) k_bipush_108 dX12_wordOf_206 ?_
            refine z_bipush hC (v := 97) k_bipush_97 dX12_wordOf_208 ?_
            refine z_bipush hC (v := 105) k_bipush_105 dX12_wordOf_210 ?_
            refine z_bipush hC (v := 110) k_bipush_110 dX12_wordOf_212 ?_
            refine z_iconst hC (v := 0) k_iconst_0 dX12_wordOf_214 ?_
            refine cl_RX12_58 hC (c_X12_spelt _ G 112 108 97 105 110 0 K N I L R _ h) dX12_wordOf_215 (by rw [hRm]; exact ⟨Nat.le_of_ble_eq_true rfl, Nat.le_of_ble_eq_true rfl⟩) ⟨Nat.zero_le _, Nat.zero_le _⟩ (Nat.le_of_ble_eq_true rfl) (z_kPl (fun r5 h => ?_))
            exact z_lret hC dX12_wordOf_218 ⟨_, rfl, rfl, rfl, rfl, rfl, rfl, h⟩
          · have h := h.2 hc4
            by_cases hc5 : a0 = 5
            · have h := h.1 hc5
              refine z_tableIn hC (off := 218) (tgt := 219) 5 hc5 dX12_wordOf_1 (by decide) (by decide) ?_
              refine z_bipush hC (v := 118) k_bipush_118 dX12_wordOf_219 ?_
              refine z_bipush hC (v := 97) k_bipush_97 dX12_wordOf_221 ?_
              refine z_bipush hC (v := 114) k_bipush_114 dX12_wordOf_223 ?_
              refine z_iconst hC (v := 0) k_iconst_0 dX12_wordOf_225 ?_
              refine z_iconst hC (v := 0) k_iconst_0 dX12_wordOf_226 ?_
              refine z_iconst hC (v := 0) k_iconst_0 dX12_wordOf_227 ?_
              refine cl_RX12_58 hC (c_X12_spelt _ G 118 97 114 0 0 0 K N I L R _ h) dX12_wordOf_228 (by rw [hRm]; exact ⟨Nat.le_of_ble_eq_true rfl, Nat.le_of_ble_eq_true rfl⟩) ⟨Nat.zero_le _, Nat.zero_le _⟩ (Nat.le_of_ble_eq_true rfl) (z_kPl (fun r6 h => ?_))
              exact z_lret hC dX12_wordOf_231 ⟨_, rfl, rfl, rfl, rfl, rfl, rfl, h⟩
            · have h := h.2 hc5
              by_cases hc6 : a0 = 6
              · have h := h.1 hc6
                refine z_tableIn hC (off := 231) (tgt := 232) 6 hc6 dX12_wordOf_1 (by decide) (by decide) ?_
                refine z_bipush hC (v := 119) k_bipush_119 dX12_wordOf_232 ?_
                refine z_bipush hC (v := 104) k_bipush_104 dX12_wordOf_234 ?_
                refine z_bipush hC (v := 101) k_bipush_101 dX12_wordOf_236 ?_
                refine z_bipush hC (v := 114) k_bipush_114 dX12_wordOf_238 ?_
                refine z_bipush hC (v := 101) k_bipush_101 dX12_wordOf_240 ?_
                refine z_iconst hC (v := 0) k_iconst_0 dX12_wordOf_242 ?_
                refine cl_RX12_58 hC (c_X12_spelt _ G 119 104 101 114 101 0 K N I L R _ h) dX12_wordOf_243 (by rw [hRm]; exact ⟨Nat.le_of_ble_eq_true rfl, Nat.le_of_ble_eq_true rfl⟩) ⟨Nat.zero_le _, Nat.zero_le _⟩ (Nat.le_of_ble_eq_true rfl) (z_kPl (fun r7 h => ?_))
                exact z_lret hC dX12_wordOf_246 ⟨_, rfl, rfl, rfl, rfl, rfl, rfl, h⟩
              · have h := h.2 hc6
                by_cases hc7 : a0 = 7
                · have h := h.1 hc7
                  refine z_tableIn hC (off := 246) (tgt := 247) 7 hc7 dX12_wordOf_1 (by decide) (by decide) ?_
                  refine z_bipush hC (v := 105) k_bipush_105 dX12_wordOf_247 ?_
                  refine z_bipush hC (v := 110) k_bipush_110 dX12_wordOf_249 ?_
                  refine z_iconst hC (v := 0) k_iconst_0 dX12_wordOf_251 ?_
                  refine z_iconst hC (v := 0) k_iconst_0 dX12_wordOf_252 ?_
                  refine z_iconst hC (v := 0) k_iconst_0 dX12_wordOf_253 ?_
                  refine z_iconst hC (v := 0) k_iconst_0 dX12_wordOf_254 ?_
                  refine cl_RX12_58 hC (c_X12_spelt _ G 105 110 0 0 0 0 K N I L R _ h) dX12_wordOf_255 (by rw [hRm]; exact ⟨Nat.le_of_ble_eq_true rfl, Nat.le_of_ble_eq_true rfl⟩) ⟨Nat.zero_le _, Nat.zero_le _⟩ (Nat.le_of_ble_eq_true rfl) (z_kPl (fun r8 h => ?_))
                  exact z_lret hC dX12_wordOf_258 ⟨_, rfl, rfl, rfl, rfl, rfl, rfl, h⟩
                · have h := h.2 hc7
                  by_cases hc8 : a0 = 8
                  · have h := h.1 hc8
                    refine z_tableIn hC (off := 258) (tgt := 259) 8 hc8 dX12_wordOf_1 (by decide) (by decide) ?_
                    refine z_bipush hC (v := 114) k_bipush_114 dX12_wordOf_259 ?_
                    refine z_bipush hC (v := 101) k_bipush_101 dX12_wordOf_261 ?_
                    refine z_bipush hC (v := 103) k_bipush_103 dX12_wordOf_263 ?_
                    refine z_iconst hC (v := 0) k_iconst_0 dX12_wordOf_265 ?_
                    refine z_iconst hC (v := 0) k_iconst_0 dX12_wordOf_266 ?_
                    refine z_iconst hC (v := 0) k_iconst_0 dX12_wordOf_267 ?_
                    refine cl_RX12_58 hC (c_X12_spelt _ G 114 101 103 0 0 0 K N I L R _ h) dX12_wordOf_268 (by rw [hRm]; exact ⟨Nat.le_of_ble_eq_true rfl, Nat.le_of_ble_eq_true rfl⟩) ⟨Nat.zero_le _, Nat.zero_le _⟩ (Nat.le_of_ble_eq_true rfl) (z_kPl (fun r9 h => ?_))
                    exact z_lret hC dX12_wordOf_271 ⟨_, rfl, rfl, rfl, rfl, rfl, rfl, h⟩
                  · have h := h.2 hc8
                    by_cases hc9 : a0 = 9
                    · have h := h.1 hc9
                      refine z_tableIn hC (off := 271) (tgt := 272) 9 hc9 dX12_wordOf_1 (by decide) (by decide) ?_
                      refine z_bipush hC (v := 112) k_bipush_112 dX12_wordOf_272 ?_
                      refine z_bipush hC (v := 108) k_bipush_108 dX12_wordOf_274 ?_
                      refine z_bipush hC (v := 117) k_bipush_117 dX12_wordOf_276 ?_
                      refine z_bipush hC (v := 115) k_bipush_115 dX12_wordOf_278 ?_
                      refine z_iconst hC (v := 0) k_iconst_0 dX12_wordOf_280 ?_
                      refine z_iconst hC (v := 0) k_iconst_0 dX12_wordOf_281 ?_
                      refine cl_RX12_58 hC (c_X12_spelt _ G 112 108 117 115 0 0 K N I L R _ h) dX12_wordOf_282 (by rw [hRm]; exact ⟨Nat.le_of_ble_eq_true rfl, Nat.le_of_ble_eq_true rfl⟩) ⟨Nat.zero_le _, Nat.zero_le _⟩ (Nat.le_of_ble_eq_true rfl) (z_kPl (fun r10 h => ?_))
                      exact z_lret hC dX12_wordOf_285 ⟨_, rfl, rfl, rfl, rfl, rfl, rfl, h⟩
                    · have h := h.2 hc9
                      by_cases hc10 : a0 = 10
                      · have h := h.1 hc10
                        refine z_tableIn hC (off := 285) (tgt := 286) 10 hc10 dX12_wordOf_1 (by decide) (by decide) ?_
                        refine z_bipush hC (v := 109) k_bipush_109 dX12_wordOf_286 ?_
                        refine z_bipush hC (v := 105) k_bipush_105 dX12_wordOf_288 ?_
                        refine z_bipush hC (v := 110) k_bipush_110 dX12_wordOf_290 ?_
                        refine z_bipush hC (v := 117) k_bipush_117 dX12_wordOf_292 ?_
                        refine z_bipush hC (v := 115) k_bipush_115 dX12_wordOf_294 ?_
                        refine z_iconst hC (v := 0) k_iconst_0 dX12_wordOf_296 ?_
                        refine cl_RX12_58 hC (c_X12_spelt _ G 109 105 110 117 115 0 K N I L R _ h) dX12_wordOf_297 (by rw [hRm]; exact ⟨Nat.le_of_ble_eq_true rfl, Nat.le_of_ble_eq_true rfl⟩) ⟨Nat.zero_le _, Nat.zero_le _⟩ (Nat.le_of_ble_eq_true rfl) (z_kPl (fun r11 h => ?_))
                        exact z_lret hC dX12_wordOf_300 ⟨_, rfl, rfl, rfl, rfl, rfl, rfl, h⟩
                      · have h := h.2 hc10
                        by_cases hc11 : a0 = 11
                        · have h := h.1 hc11
                          refine z_tableIn hC (off := 300) (tgt := 301) 11 hc11 dX12_wordOf_1 (by decide) (by decide) ?_
                          refine z_bipush hC (v := 116) k_bipush_116 dX12_wordOf_301 ?_
                          refine z_bipush hC (v := 105) k_bipush_105 dX12_wordOf_303 ?_
                          refine z_bipush hC (v := 109) k_bipush_109 dX12_wordOf_305 ?_
                          refine z_bipush hC (v := 101) k_bipush_101 dX12_wordOf_307 ?_
                          refine z_bipush hC (v := 115) k_bipush_115 dX12_wordOf_309 ?_
                          refine z_iconst hC (v := 0) k_iconst_0 dX12_wordOf_311 ?_
                          refine cl_RX12_58 hC (c_X12_spelt _ G 116 105 109 101 115 0 K N I L R _ h) dX12_wordOf_312 (by rw [hRm]; exact ⟨Nat.le_of_ble_eq_true rfl, Nat.le_of_ble_eq_true rfl⟩) ⟨Nat.zero_le _, Nat.zero_le _⟩ (Nat.le_of_ble_eq_true rfl) (z_kPl (fun r12 h => ?_))
                          exact z_lret hC dX12_wordOf_315 ⟨_, rfl, rfl, rfl, rfl, rfl, rfl, h⟩
                        · have h := h.2 hc11
                          by_cases hc12 : a0 = 12
                          · have h := h.1 hc12
                            refine z_tableIn hC (off := 315) (tgt := 316) 12 hc12 dX12_wordOf_1 (by decide) (by decide) ?_
                            refine z_bipush hC (v := 108) k_bipush_108 dX12_wordOf_316 ?_
                            refine z_bipush hC (v := 111) k_bipush_111 dX12_wordOf_318 ?_
                            refine z_bipush hC (v := 97) k_bipush_97 dX12_wordOf_320 ?_
                            refine z_bipush hC (v := 100) k_bipush_100 dX12_wordOf_322 ?_
                            refine z_iconst hC (v := 0) k_iconst_0 dX12_wordOf_324 ?_
                            refine z_iconst hC (v := 0) k_iconst_0 dX12_wordOf_325 ?_
                            refine cl_RX12_58 hC (c_X12_spelt _ G 108 111 97 100 0 0 K N I L R _ h) dX12_wordOf_326 (by rw [hRm]; exact ⟨Nat.le_of_ble_eq_true rfl, Nat.le_of_ble_eq_true rfl⟩) ⟨Nat.zero_le _, Nat.zero_le _⟩ (Nat.le_of_ble_eq_true rfl) (z_kPl (fun r13 h => ?_))
                            exact z_lret hC dX12_wordOf_329 ⟨_, rfl, rfl, rfl, rfl, rfl, rfl, h⟩
                          · have h := h.2 hc12
                            by_cases hc13 : a0 = 13
                            · have h := h.1 hc13
                              refine z_tableIn hC (off := 329) (tgt := 330) 13 hc13 dX12_wordOf_1 (by decide) (by decide) ?_
                              refine z_bipush hC (v := 100) k_bipush_100 dX12_wordOf_330 ?_
                              refine z_bipush hC (v := 117) k_bipush_117 dX12_wordOf_332 ?_
                              refine z_bipush hC (v := 112) k_bipush_112 dX12_wordOf_334 ?_
                              refine z_iconst hC (v := 0) k_iconst_0 dX12_wordOf_336 ?_
                              refine z_iconst hC (v := 0) k_iconst_0 dX12_wordOf_337 ?_
                              refine z_iconst hC (v := 0) k_iconst_0 dX12_wordOf_338 ?_
                              refine cl_RX12_58 hC (c_X12_spelt _ G 100 117 112 0 0 0 K N I L R _ h) dX12_wordOf_339 (by rw [hRm]; exact ⟨Nat.le_of_ble_eq_true rfl, Nat.le_of_ble_eq_true rfl⟩) ⟨Nat.zero_le _, Nat.zero_le _⟩ (Nat.le_of_ble_eq_true rfl) (z_kPl (fun r14 h => ?_))
                              exact z_lret hC dX12_wordOf_342 ⟨_, rfl, rfl, rfl, rfl, rfl, rfl, h⟩
                            · have h := h.2 hc13
                              by_cases hc14 : a0 = 14
                              · have h := h.1 hc14
                                refine z_tableIn hC (off := 342) (tgt := 343) 14 hc14 dX12_wordOf_1 (by decide) (by decide) ?_
                                refine z_bipush hC (v := 115) k_bipush_115 dX12_wordOf_343 ?_
                                refine z_bipush hC (v := 119) k_bipush_119 dX12_wordOf_345 ?_
                                refine z_bipush hC (v := 97) k_bipush_97 dX12_wordOf_347 ?_
                                refine z_bipush hC (v := 112) k_bipush_112 dX12_wordOf_349 ?_
                                refine z_iconst hC (v := 0) k_iconst_0 dX12_wordOf_351 ?_
                                refine z_iconst hC (v := 0) k_iconst_0 dX12_wordOf_352 ?_
                                refine cl_RX12_58 hC (c_X12_spelt _ G 115 119 97 112 0 0 K N I L R _ h) dX12_wordOf_353 (by rw [hRm]; exact ⟨Nat.le_of_ble_eq_true rfl, Nat.le_of_ble_eq_true rfl⟩) ⟨Nat.zero_le _, Nat.zero_le _⟩ (Nat.le_of_ble_eq_true rfl) (z_kPl (fun r15 h => ?_))
                                exact z_lret hC dX12_wordOf_356 ⟨_, rfl, rfl, rfl, rfl, rfl, rfl, h⟩
                              · have h := h.2 hc14
                                by_cases hc15 : a0 = 15
                                · have h := h.1 hc15
                                  refine z_tableIn hC (off := 356) (tgt := 357) 15 hc15 dX12_wordOf_1 (by decide) (by decide) ?_
                                  refine z_bipush hC (v := 115) k_bipush_115 dX12_wordOf_357 ?_
                                  refine z_bipush hC (v := 101) k_bipush_101 dX12_wordOf_359 ?_
                                  refine z_bipush hC (v := 116) k_bipush_116 dX12_wordOf_361 ?_
                                  refine z_iconst hC (v := 0) k_iconst_0 dX12_wordOf_363 ?_
                                  refine z_iconst hC (v := 0) k_iconst_0 dX12_wordOf_364 ?_
                                  refine z_iconst hC (v := 0) k_iconst_0 dX12_wordOf_365 ?_
                                  refine cl_RX12_58 hC (c_X12_spelt _ G 115 101 116 0 0 0 K N I L R _ h) dX12_wordOf_366 (by rw [hRm]; exact ⟨Nat.le_of_ble_eq_true rfl, Nat.le_of_ble_eq_true rfl⟩) ⟨Nat.zero_le _, Nat.zero_le _⟩ (Nat.le_of_ble_eq_true rfl) (z_kPl (fun r16 h => ?_))
                                  exact z_lret hC dX12_wordOf_369 ⟨_, rfl, rfl, rfl, rfl, rfl, rfl, h⟩
                                · have h := h.2 hc15
                                  by_cases hc16 : a0 = 16
                                  · have h := h.1 hc16
                                    refine z_tableIn hC (off := 369) (tgt := 370) 16 hc16 dX12_wordOf_1 (by decide) (by decide) ?_
                                    refine z_bipush hC (v := 112) k_bipush_112 dX12_wordOf_370 ?_
                                    refine z_bipush hC (v := 111) k_bipush_111 dX12_wordOf_372 ?_
                                    refine z_bipush hC (v := 107) k_bipush_107 dX12_wordOf_374 ?_
                                    refine z_bipush hC (v := 101) k_bipush_101 dX12_wordOf_376 ?_
                                    refine z_iconst hC (v := 0) k_iconst_0 dX12_wordOf_378 ?_
                                    refine z_iconst hC (v := 0) k_iconst_0 dX12_wordOf_379 ?_
                                    refine cl_RX12_58 hC (c_X12_spelt _ G 112 111 107 101 0 0 K N I L R _ h) dX12_wordOf_380 (by rw [hRm]; exact ⟨Nat.le_of_ble_eq_true rfl, Nat.le_of_ble_eq_true rfl⟩) ⟨Nat.zero_le _, Nat.zero_le _⟩ (Nat.le_of_ble_eq_true rfl) (z_kPl (fun r17 h => ?_))
                                    exact z_lret hC dX12_wordOf_383 ⟨_, rfl, rfl, rfl, rfl, rfl, rfl, h⟩
                                  · have h := h.2 hc16
                                    by_cases hc17 : a0 = 17
                                    · have h := h.1 hc17
                                      refine z_tableIn hC (off := 383) (tgt := 384) 17 hc17 dX12_wordOf_1 (by decide) (by decide) ?_
                                      refine z_bipush hC (v := 103) k_bipush_103 dX12_wordOf_384 ?_
                                      refine z_bipush hC (v := 111) k_bipush_111 dX12_wordOf_386 ?_
                                      refine z_iconst hC (v := 0) k_iconst_0 dX12_wordOf_388 ?_
                                      refine z_iconst hC (v := 0) k_iconst_0 dX12_wordOf_389 ?_
                                      refine z_iconst hC (v := 0) k_iconst_0 dX12_wordOf_390 ?_
                                      refine z_iconst hC (v := 0) k_iconst_0 dX12_wordOf_391 ?_
                                      refine cl_RX12_58 hC (c_X12_spelt _ G 103 111 0 0 0 0 K N I L R _ h) dX12_wordOf_392 (by rw [hRm]; exact ⟨Nat.le_of_ble_eq_true rfl, Nat.le_of_ble_eq_true rfl⟩) ⟨Nat.zero_le _, Nat.zero_le _⟩ (Nat.le_of_ble_eq_true rfl) (z_kPl (fun r18 h => ?_))
                                      exact z_lret hC dX12_wordOf_395 ⟨_, rfl, rfl, rfl, rfl, rfl, rfl, h⟩
                                    · have h := h.2 hc17
                                      by_cases hc18 : a0 = 18
                                      · have h := h.1 hc18
                                        refine z_tableIn hC (off := 395) (tgt := 396) 18 hc18 dX12_wordOf_1 (by decide) (by decide) ?_
                                        refine z_bipush hC (v := 115) k_bipush_115 dX12_wordOf_396 ?_
                                        refine z_bipush hC (v := 116) k_bipush_116 dX12_wordOf_398 ?_
                                        refine z_bipush hC (v := 111) k_bipush_111 dX12_wordOf_400 ?_
                                        refine z_bipush hC (v := 112) k_bipush_112 dX12_wordOf_402 ?_
                                        refine z_iconst hC (v := 0) k_iconst_0 dX12_wordOf_404 ?_
                                        refine z_iconst hC (v := 0) k_iconst_0 dX12_wordOf_405 ?_
                                        refine cl_RX12_58 hC (c_X12_spelt _ G 115 116 111 112 0 0 K N I L R _ h) dX12_wordOf_406 (by rw [hRm]; exact ⟨Nat.le_of_ble_eq_true rfl, Nat.le_of_ble_eq_true rfl⟩) ⟨Nat.zero_le _, Nat.zero_le _⟩ (Nat.le_of_ble_eq_true rfl) (z_kPl (fun r19 h => ?_))
                                        exact z_lret hC dX12_wordOf_409 ⟨_, rfl, rfl, rfl, rfl, rfl, rfl, h⟩
                                      · have h := h.2 hc18
                                        by_cases hc19 : a0 = 19
                                        · have h := h.1 hc19
                                          refine z_tableIn hC (off := 409) (tgt := 410) 19 hc19 dX12_wordOf_1 (by decide) (by decide) ?_
                                          refine z_bipush hC (v := 99) k_bipush_99 dX12_wordOf_410 ?_
                                          refine z_bipush hC (v := 108) k_bipush_108 dX12_wordOf_412 ?_
                                          refine z_bipush hC (v := 101) k_bipush_101 dX12_wordOf_414 ?_
                                          refine z_bipush hC (v := 97) k_bipush_97 dX12_wordOf_416 ?_
                                          refine z_bipush hC (v := 114) k_bipush_114 dX12_wordOf_418 ?_
                                          refine z_iconst hC (v := 0) k_iconst_0 dX12_wordOf_420 ?_
                                          refine cl_RX12_58 hC (c_X12_spelt _ G 99 108 101 97 114 0 K N I L R _ h) dX12_wordOf_421 (by rw [hRm]; exact ⟨Nat.le_of_ble_eq_true rfl, Nat.le_of_ble_eq_true rfl⟩) ⟨Nat.zero_le _, Nat.zero_le _⟩ (Nat.le_of_ble_eq_true rfl) (z_kPl (fun r20 h => ?_))
                                          exact z_lret hC dX12_wordOf_424 ⟨_, rfl, rfl, rfl, rfl, rfl, rfl, h⟩
                                        · have h := h.2 hc19
                                          by_cases hc20 : a0 = 20
                                          · have h := h.1 hc20
                                            refine z_tableIn hC (off := 424) (tgt := 425) 20 hc20 dX12_wordOf_1 (by decide) (by decide) ?_
                                            refine z_bipush hC (v := 115) k_bipush_115 dX12_wordOf_425 ?_
                                            refine z_bipush hC (v := 116) k_bipush_116 dX12_wordOf_427 ?_
                                            refine z_bipush hC (v := 101) k_bipush_101 dX12_wordOf_429 ?_
                                            refine z_bipush hC (v := 112) k_bipush_112 dX12_wordOf_431 ?_
                                            refine z_iconst hC (v := 0) k_iconst_0 dX12_wordOf_433 ?_
                                            refine z_iconst hC (v := 0) k_iconst_0 dX12_wordOf_434 ?_
                                            refine cl_RX12_58 hC (c_X12_spelt _ G 115 116 101 112 0 0 K N I L R _ h) dX12_wordOf_435 (by rw [hRm]; exact ⟨Nat.le_of_ble_eq_true rfl, Nat.le_of_ble_eq_true rfl⟩) ⟨Nat.zero_le _, Nat.zero_le _⟩ (Nat.le_of_ble_eq_true rfl) (z_kPl (fun r21 h => ?_))
                                            exact z_lret hC dX12_wordOf_438 ⟨_, rfl, rfl, rfl, rfl, rfl, rfl, h⟩
                                          · have h := h.2 hc20
                                            by_cases hc21 : a0 = 21
                                            · have h := h.1 hc21
                                              refine z_tableIn hC (off := 438) (tgt := 439) 21 hc21 dX12_wordOf_1 (by decide) (by decide) ?_
                                              refine z_bipush hC (v := 108) k_bipush_108 dX12_wordOf_439 ?_
                                              refine z_bipush hC (v := 101) k_bipush_101 dX12_wordOf_441 ?_
                                              refine z_bipush hC (v := 97) k_bipush_97 dX12_wordOf_443 ?_
                                              refine z_bipush hC (v := 118) k_bipush_118 dX12_wordOf_445 ?_
                                              refine z_bipush hC (v := 101) k_bipush_101 dX12_wordOf_447 ?_
                                              refine z_iconst hC (v := 0) k_iconst_0 dX12_wordOf_449 ?_
                                              refine cl_RX12_58 hC (c_X12_spelt _ G 108 101 97 118 101 0 K N I L R _ h) dX12_wordOf_450 (by rw [hRm]; exact ⟨Nat.le_of_ble_eq_true rfl, Nat.le_of_ble_eq_true rfl⟩) ⟨Nat.zero_le _, Nat.zero_le _⟩ (Nat.le_of_ble_eq_true rfl) (z_kPl (fun r22 h => ?_))
                                              exact z_lret hC dX12_wordOf_453 ⟨_, rfl, rfl, rfl, rfl, rfl, rfl, h⟩
                                            · have h := h.2 hc21
                                              by_cases hc22 : a0 = 22
                                              · have h := h.1 hc22
                                                refine z_tableIn hC (off := 453) (tgt := 454) 22 hc22 dX12_wordOf_1 (by decide) (by decide) ?_
                                                refine z_bipush hC (v := 114) k_bipush_114 dX12_wordOf_454 ?_
                                                refine z_bipush hC (v := 117) k_bipush_117 dX12_wordOf_456 ?_
                                                refine z_bipush hC (v := 110) k_bipush_110 dX12_wordOf_458 ?_
                                                refine z_iconst hC (v := 0) k_iconst_0 dX12_wordOf_460 ?_
                                                refine z_iconst hC (v := 0) k_iconst_0 dX12_wordOf_461 ?_
                                                refine z_iconst hC (v := 0) k_iconst_0 dX12_wordOf_462 ?_
                                                refine cl_RX12_58 hC (c_X12_spelt _ G 114 117 110 0 0 0 K N I L R _ h) dX12_wordOf_463 (by rw [hRm]; exact ⟨Nat.le_of_ble_eq_true rfl, Nat.le_of_ble_eq_true rfl⟩) ⟨Nat.zero_le _, Nat.zero_le _⟩ (Nat.le_of_ble_eq_true rfl) (z_kPl (fun r23 h => ?_))
                                                exact z_lret hC dX12_wordOf_466 ⟨_, rfl, rfl, rfl, rfl, rfl, rfl, h⟩
                                              · have h := h.2 hc22
                                                by_cases hc23 : a0 = 23
                                                · have h := h.1 hc23
                                                  refine z_tableIn hC (off := 466) (tgt := 467) 23 hc23 dX12_wordOf_1 (by decide) (by decide) ?_
                                                  refine z_bipush hC (v := 111) k_bipush_111 dX12_wordOf_467 ?_
                                                  refine z_bipush hC (v := 114) k_bipush_114 dX12_wordOf_469 ?_
                                                  refine z_iconst hC (v := 0) k_iconst_0 dX12_wordOf_471 ?_
                                                  refine z_iconst hC (v := 0) k_iconst_0 dX12_wordOf_472 ?_
                                                  refine z_iconst hC (v := 0) k_iconst_0 dX12_wordOf_473 ?_
                                                  refine z_iconst hC (v := 0) k_iconst_0 dX12_wordOf_474 ?_
                                                  refine cl_RX12_58 hC (c_X12_spelt _ G 111 114 0 0 0 0 K N I L R _ h) dX12_wordOf_475 (by rw [hRm]; exact ⟨Nat.le_of_ble_eq_true rfl, Nat.le_of_ble_eq_true rfl⟩) ⟨Nat.zero_le _, Nat.zero_le _⟩ (Nat.le_of_ble_eq_true rfl) (z_kPl (fun r24 h => ?_))
                                                  exact z_lret hC dX12_wordOf_478 ⟨_, rfl, rfl, rfl, rfl, rfl, rfl, h⟩
                                                · have h := h.2 hc23
                                                  by_cases hc24 : a0 = 24
                                                  · have h := h.1 hc24
                                                    refine z_tableIn hC (off := 478) (tgt := 479) 24 hc24 dX12_wordOf_1 (by decide) (by decide) ?_
                                                    refine z_bipush hC (v := 97) k_bipush_97 dX12_wordOf_479 ?_
                                                    refine z_bipush hC (v := 110) k_bipush_110 dX12_wordOf_481 ?_
                                                    refine z_bipush hC (v := 100) k_bipush_100 dX12_wordOf_483 ?_
                                                    refine z_iconst hC (v := 0) k_iconst_0 dX12_wordOf_485 ?_
                                                    refine z_iconst hC (v := 0) k_iconst_0 dX12_wordOf_486 ?_
                                                    refine z_iconst hC (v := 0) k_iconst_0 dX12_wordOf_487 ?_
                                                    refine cl_RX12_58 hC (c_X12_spelt _ G 97 110 100 0 0 0 K N I L R _ h) dX12_wordOf_488 (by rw [hRm]; exact ⟨Nat.le_of_ble_eq_true rfl, Nat.le_of_ble_eq_true rfl⟩) ⟨Nat.zero_le _, Nat.zero_le _⟩ (Nat.le_of_ble_eq_true rfl) (z_kPl (fun r25 h => ?_))
                                                    exact z_lret hC dX12_wordOf_491 ⟨_, rfl, rfl, rfl, rfl, rfl, rfl, h⟩
                                                  · have h := h.2 hc24
                                                    by_cases hc25 : a0 = 25
                                                    · have h := h.1 hc25
                                                      refine z_tableIn hC (off := 491) (tgt := 492) 25 hc25 dX12_wordOf_1 (by decide) (by decide) ?_
                                                      refine z_bipush hC (v := 110) k_bipush_110 dX12_wordOf_492 ?_
                                                      refine z_bipush hC (v := 111) k_bipush_111 dX12_wordOf_494 ?_
                                                      refine z_bipush hC (v := 116) k_bipush_116 dX12_wordOf_496 ?_
                                                      refine z_iconst hC (v := 0) k_iconst_0 dX12_wordOf_498 ?_
                                                      refine z_iconst hC (v := 0) k_iconst_0 dX12_wordOf_499 ?_
                                                      refine z_iconst hC (v := 0) k_iconst_0 dX12_wordOf_500 ?_
                                                      refine cl_RX12_58 hC (c_X12_spelt _ G 110 111 116 0 0 0 K N I L R _ h) dX12_wordOf_501 (by rw [hRm]; exact ⟨Nat.le_of_ble_eq_true rfl, Nat.le_of_ble_eq_true rfl⟩) ⟨Nat.zero_le _, Nat.zero_le _⟩ (Nat.le_of_ble_eq_true rfl) (z_kPl (fun r26 h => ?_))
                                                      exact z_lret hC dX12_wordOf_504 ⟨_, rfl, rfl, rfl, rfl, rfl, rfl, h⟩
                                                    · have h := h.2 hc25
                                                      by_cases hc26 : a0 = 26
                                                      · have h := h.1 hc26
                                                        refine z_tableIn hC (off := 504) (tgt := 505) 26 hc26 dX12_wordOf_1 (by decide) (by decide) ?_
                                                        refine z_bipush hC (v := 116) k_bipush_116 dX12_wordOf_505 ?_
                                                        refine z_bipush hC (v := 104) k_bipush_104 dX12_wordOf_507 ?_
                                                        refine z_bipush hC (v := 101) k_bipush_101 dX12_wordOf_509 ?_
                                                        refine z_bipush hC (v := 114) k_bipush_114 dX12_wordOf_511 ?_
                                                        refine z_bipush hC (v := 101) k_bipush_101 dX12_wordOf_513 ?_
                                                        refine z_iconst hC (v := 0) k_iconst_0 dX12_wordOf_515 ?_
                                                        refine cl_RX12_58 hC (c_X12_spelt _ G 116 104 101 114 101 0 K N I L R _ h) dX12_wordOf_516 (by rw [hRm]; exact ⟨Nat.le_of_ble_eq_true rfl, Nat.le_of_ble_eq_true rfl⟩) ⟨Nat.zero_le _, Nat.zero_le _⟩ (Nat.le_of_ble_eq_true rfl) (z_kPl (fun r27 h => ?_))
                                                        exact z_lret hC dX12_wordOf_519 ⟨_, rfl, rfl, rfl, rfl, rfl, rfl, h⟩
                                                      · have h := h.2 hc26
                                                        by_cases hc27 : a0 = 27
                                                        · have h := h.1 hc27
                                                          refine z_tableIn hC (off := 519) (tgt := 520) 27 hc27 dX12_wordOf_1 (by decide) (by decide) ?_
                                                          refine z_bipush hC (v := 108) k_bipush_108 dX12_wordOf_520 ?_
                                                          refine z_bipush hC (v := 111) k_bipush_111 dX12_wordOf_522 ?_
                                                          refine z_bipush hC (v := 99) k_bipush_99 dX12_wordOf_524 ?_
                                                          refine z_bipush hC (v := 97) k_bipush_97 dX12_wordOf_526 ?_
                                                          refine z_bipush hC (v := 108) k_bipush_108 dX12_wordOf_528 ?_
                                                          refine z_iconst hC (v := 0) k_iconst_0 dX12_wordOf_530 ?_
                                                          refine cl_RX12_58 hC (c_X12_spelt _ G 108 111 99 97 108 0 K N I L R _ h) dX12_wordOf_531 (by rw [hRm]; exact ⟨Nat.le_of_ble_eq_true rfl, Nat.le_of_ble_eq_true rfl⟩) ⟨Nat.zero_le _, Nat.zero_le _⟩ (Nat.le_of_ble_eq_true rfl) (z_kPl (fun r28 h => ?_))
                                                          exact z_lret hC dX12_wordOf_534 ⟨_, rfl, rfl, rfl, rfl, rfl, rfl, h⟩
                                                        · have h := h.2 hc27
                                                          by_cases hc28 : a0 = 28
                                                          · have h := h.1 hc28
                                                            refine z_tableIn hC (off := 534) (tgt := 535) 28 hc28 dX12_wordOf_1 (by decide) (by decide) ?_
                                                            refine z_bipush hC (v := 115) k_bipush_115 dX12_wordOf_535 ?_
                                                            refine z_bipush hC (v := 105) k_bipush_105 dX12_wordOf_537 ?_
                                                            refine z_bipush hC (v := 103) k_bipush_103 dX12_wordOf_539 ?_
                                                            refine z_bipush hC (v := 110) k_bipush_110 dX12_wordOf_541 ?_
                                                            refine z_bipush hC (v := 101) k_bipush_101 dX12_wordOf_543 ?_
                                                            refine z_bipush hC (v := 100) k_bipush_100 dX12_wordOf_545 ?_
                                                            refine cl_RX12_58 hC (c_X12_spelt _ G 115 105 103 110 101 100 K N I L R _ h) dX12_wordOf_547 (by rw [hRm]; exact ⟨Nat.le_of_ble_eq_true rfl, Nat.le_of_ble_eq_true rfl⟩) ⟨Nat.zero_le _, Nat.zero_le _⟩ (Nat.le_of_ble_eq_true rfl) (z_kPl (fun r29 h => ?_))
                                                            exact z_lret hC dX12_wordOf_550 ⟨_, rfl, rfl, rfl, rfl, rfl, rfl, h⟩
                                                          · have h := h.2 hc28
                                                            by_cases hc29 : a0 = 29
                                                            · have h := h.1 hc29
                                                              refine z_tableIn hC (off := 550) (tgt := 551) 29 hc29 dX12_wordOf_1 (by decide) (by decide) ?_
                                                              refine z_bipush hC (v := 119) k_bipush_119 dX12_wordOf_551 ?_
                                                              refine z_bipush hC (v := 105) k_bipush_105 dX12_wordOf_553 ?_
                                                              refine z_bipush hC (v := 116) k_bipush_116 dX12_wordOf_555 ?_
                                                              refine z_bipush hC (v := 104) k_bipush_104 dX12_wordOf_557 ?_
                                                              refine z_bipush hC (v := 105) k_bipush_105 dX12_wordOf_559 ?_
                                                              refine z_bipush hC (v := 110) k_bipush_110 dX12_wordOf_561 ?_
                                                              refine cl_RX12_58 hC (c_X12_spelt _ G 119 105 116 104 105 110 K N I L R _ h) dX12_wordOf_563 (by rw [hRm]; exact ⟨Nat.le_of_ble_eq_true rfl, Nat.le_of_ble_eq_true rfl⟩) ⟨Nat.zero_le _, Nat.zero_le _⟩ (Nat.le_of_ble_eq_true rfl) (z_kPl (fun r30 h => ?_))
                                                              exact z_lret hC dX12_wordOf_566 ⟨_, rfl, rfl, rfl, rfl, rfl, rfl, h⟩
                                                            · have h := h.2 hc29
                                                              by_cases hc30 : a0 = 30
                                                              · have h := h.1 hc30
                                                                refine z_tableIn hC (off := 566) (tgt := 567) 30 hc30 dX12_wordOf_1 (by decide) (by decide) ?_
                                                                refine z_bipush hC (v := 98) k_bipush_98 dX12_wordOf_567 ?_
                                                                refine z_bipush hC (v := 105) k_bipush_105 dX12_wordOf_569 ?_
                                                                refine z_bipush hC (v := 116) k_bipush_116 dX12_wordOf_571 ?_
                                                                refine z_bipush hC (v := 115) k_bipush_115 dX12_wordOf_573 ?_
                                                                refine z_iconst hC (v := 0) k_iconst_0 dX12_wordOf_575 ?_
                                                                refine z_iconst hC (v := 0) k_iconst_0 dX12_wordOf_576 ?_
                                                                refine cl_RX12_58 hC (c_X12_spelt _ G 98 105 116 115 0 0 K N I L R _ h) dX12_wordOf_577 (by rw [hRm]; exact ⟨Nat.le_of_ble_eq_true rfl, Nat.le_of_ble_eq_true rfl⟩) ⟨Nat.zero_le _, Nat.zero_le _⟩ (Nat.le_of_ble_eq_true rfl) (z_kPl (fun r31 h => ?_))
                                                                exact z_lret hC dX12_wordOf_580 ⟨_, rfl, rfl, rfl, rfl, rfl, rfl, h⟩
                                                              · have h := h.2 hc30
                                                                by_cases hc31 : a0 = 31
                                                                · have h := h.1 hc31
                                                                  refine z_tableIn hC (off := 580) (tgt := 581) 31 hc31 dX12_wordOf_1 (by decide) (by decide) ?_
                                                                  refine z_bipush hC (v := 112) k_bipush_112 dX12_wordOf_581 ?_
                                                                  refine z_bipush hC (v := 108) k_bipush_108 dX12_wordOf_583 ?_
                                                                  refine z_bipush hC (v := 97) k_bipush_97 dX12_wordOf_585 ?_
                                                                  refine z_bipush hC (v := 99) k_bipush_99 dX12_wordOf_587 ?_
                                                                  refine z_bipush hC (v := 101) k_bipush_101 dX12_wordOf_589 ?_
                                                                  refine z_bipush hC (v := 115) k_bipush_115 dX12_wordOf_591 ?_
                                                                  refine cl_RX12_58 hC (c_X12_spelt _ G 112 108 97 99 101 115 K N I L R _ h) dX12_wordOf_593 (by rw [hRm]; exact ⟨Nat.le_of_ble_eq_true rfl, Nat.le_of_ble_eq_true rfl⟩) ⟨Nat.zero_le _, Nat.zero_le _⟩ (Nat.le_of_ble_eq_true rfl) (z_kPl (fun r32 h => ?_))
                                                                  exact z_lret hC dX12_wordOf_596 ⟨_, rfl, rfl, rfl, rfl, rfl, rfl, h⟩
                                                                · have h := h.2 hc31
                                                                  by_cases hc32 : a0 = 32
                                                                  · have h := h.1 hc32
                                                                    refine z_tableIn hC (off := 596) (tgt := 597) 32 hc32 dX12_wordOf_1 (by decide) (by decide) ?_
                                                                    refine z_bipush hC (v := 118) k_bipush_118 dX12_wordOf_597 ?_
                                                                    refine z_bipush hC (v := 97) k_bipush_97 dX12_wordOf_599 ?_
                                                                    refine z_bipush hC (v := 108) k_bipush_108 dX12_wordOf_601 ?_
                                                                    refine z_bipush hC (v := 117) k_bipush_117 dX12_wordOf_603 ?_
                                                                    refine z_bipush hC (v := 101) k_bipush_101 dX12_wordOf_605 ?_
                                                                    refine z_iconst hC (v := 0) k_iconst_0 dX12_wordOf_607 ?_
                                                                    refine cl_RX12_58 hC (c_X12_spelt _ G 118 97 108 117 101 0 K N I L R _ h) dX12_wordOf_608 (by rw [hRm]; exact ⟨Nat.le_of_ble_eq_true rfl, Nat.le_of_ble_eq_true rfl⟩) ⟨Nat.zero_le _, Nat.zero_le _⟩ (Nat.le_of_ble_eq_true rfl) (z_kPl (fun r33 h => ?_))
                                                                    exact z_lret hC dX12_wordOf_611 ⟨_, rfl, rfl, rfl, rfl, rfl, rfl, h⟩
                                                                  · have h := h.2 hc32
                                                                    have hout : a0.toInt < 0 ∨ 32 < a0.toInt := by
                                                                      have hc0 := z_nei hc0 (by decide : (0 : Int32).toInt = 0)
                                                                      have hc1 := z_nei hc1 (by decide : (1 : Int32).toInt = 1)
                                                                      have hc2 := z_nei hc2 (by decide : (2 : Int32).toInt = 2)
                                                                      have hc3 := z_nei hc3 (by decide : (3 : Int32).toInt = 3)
                                                                      have hc4 := z_nei hc4 (by decide : (4 : Int32).toInt = 4)
                                                                      have hc5 := z_nei hc5 (by decide : (5 : Int32).toInt = 5)
                                                                      have hc6 := z_nei hc6 (by decide : (6 : Int32).toInt = 6)
                                                                      have hc7 := z_nei hc7 (by decide : (7 : Int32).toInt = 7)
                                                                      have hc8 := z_nei hc8 (by decide : (8 : Int32).toInt = 8)
                                                                      have hc9 := z_nei hc9 (by decide : (9 : Int32).toInt = 9)
                                                                      have hc10 := z_nei hc10 (by decide : (10 : Int32).toInt = 10)
                                                                      have hc11 := z_nei hc11 (by decide : (11 : Int32).toInt = 11)
                                                                      have hc12 := z_nei hc12 (by decide : (12 : Int32).toInt = 12)
                                                                      have hc13 := z_nei hc13 (by decide : (13 : Int32).toInt = 13)
                                                                      have hc14 := z_nei hc14 (by decide : (14 : Int32).toInt = 14)
                                                                      have hc15 := z_nei hc15 (by decide : (15 : Int32).toInt = 15)
                                                                      have hc16 := z_nei hc16 (by decide : (16 : Int32).toInt = 16)
                                                                      have hc17 := z_nei hc17 (by decide : (17 : Int32).toInt = 17)
                                                                      have hc18 := z_nei hc18 (by decide : (18 : Int32).toInt = 18)
                                                                      have hc19 := z_nei hc19 (by decide : (19 : Int32).toInt = 19)
                                                                      have hc20 := z_nei hc20 (by decide : (20 : Int32).toInt = 20)
                                                                      have hc21 := z_nei hc21 (by decide : (21 : Int32).toInt = 21)
                                                                      have hc22 := z_nei hc22 (by decide : (22 : Int32).toInt = 22)
                                                                      have hc23 := z_nei hc23 (by decide : (23 : Int32).toInt = 23)
                                                                      have hc24 := z_nei hc24 (by decide : (24 : Int32).toInt = 24)
                                                                      have hc25 := z_nei hc25 (by decide : (25 : Int32).toInt = 25)
                                                                      have hc26 := z_nei hc26 (by decide : (26 : Int32).toInt = 26)
                                                                      have hc27 := z_nei hc27 (by decide : (27 : Int32).toInt = 27)
                                                                      have hc28 := z_nei hc28 (by decide : (28 : Int32).toInt = 28)
                                                                      have hc29 := z_nei hc29 (by decide : (29 : Int32).toInt = 29)
                                                                      have hc30 := z_nei hc30 (by decide : (30 : Int32).toInt = 30)
                                                                      have hc31 := z_nei hc31 (by decide : (31 : Int32).toInt = 31)
                                                                      have hc32 := z_nei hc32 (by decide : (32 : Int32).toInt = 32)
                                                                      omega
                                                                    refine z_tableOut hC (tgt := 612) dX12_wordOf_1 hout (by decide) ?_
                                                                    refine z_bipush hC (v := 110) k_bipush_110 dX12_wordOf_612 ?_
                                                                    refine z_bipush hC (v := 117) k_bipush_117 dX12_wordOf_614 ?_
                                                                    refine z_bipush hC (v := 109) k_bipush_109 dX12_wordOf_616 ?_
                                                                    refine z_bipush hC (v := 98) k_bipush_98 dX12_wordOf_618 ?_
                                                                    refine z_bipush hC (v := 101) k_bipush_101 dX12_wordOf_620 ?_
                                                                    refine z_bipush hC (v := 114) k_bipush_114 dX12_wordOf_622 ?_
                                                                    refine cl_RX12_58 hC (c_X12_spelt _ G 110 117 109 98 101 114 K N I L R _ h) dX12_wordOf_624 (by rw [hRm]; exact ⟨Nat.le_of_ble_eq_true rfl, Nat.le_of_ble_eq_true rfl⟩) ⟨Nat.zero_le _, Nat.zero_le _⟩ (Nat.le_of_ble_eq_true rfl) (z_kPl (fun r34 h => ?_))
                                                                    exact z_lret hC dX12_wordOf_627 ⟨_, rfl, rfl, rfl, rfl, rfl, rfl, h⟩
def w_X12_isWord  (a0 : Nat) (a1 : Int32) (K : MK) (N : MK) (I : MI) (L : ML) (R : MR) (Q : Bool → Prop) : Prop := K a0 = 13 ∧ (¬ (I a0 7) = 2 → Q false) ∧ ((I a0 7) = 2 → w_X12_wordOf a1 K N I L R (fun r2 => (¬ (lg_cmp (L a0 12) r2) = 0 → Q false) ∧ ((lg_cmp (L a0 12) r2) = 0 → Q true)))
set_option maxHeartbeats 4000000 in
set_option maxRecDepth 100000 in
theorem c_X12_isWord  (l : Launch) (G : ZG) (a0 : Nat) (a1 : Int32) (K : MK) (N : MK) (I : MI) (L : ML) (R : MR) (Q : Bool → Prop) (h : w_X12_isWord a0 a1 K N I L R Q) : Met l yX12_isWord (.code yX12_isWord cX12_isWord 2 (some .boolean) :: z_tbl) rm_X12_isWord (z_Pc G [.ref a0, .int a1] K N I L R) (z_Qc G (qPz K N I L R Q)) 0 0 (z_A G) := by
  refine z_met (by decide) (Nat.le_of_ble_eq_true rfl) (fun X hX hRm hC0 hnm => ?_)
  subst hX
  have hC : ZOk X G RX12 cX12_isWord 2 (some .boolean) := hC0
  show Z X G 2 0 0 _ K N I L R 0 [(0, .ref a0), (1, .int a1)] []
  delta w_X12_isWord at h
  refine z_aload_n hC (q := 0) dX12_isWord_0 rfl rfl ?_
  obtain ⟨hk1, h⟩ := h
  refine gf_RX12_30 hC dX12_isWord_1 hk1 ?_
  refine z_iconst hC (v := 2) k_iconst_2 dX12_isWord_4 ?_
  refine z_icmp_ne hC (tgt := 24) dX12_isWord_5 (by decide) (fun hc => ?_) (fun hc => ?_)
  · have h := h.1 hc
    refine z_iconst hC (v := 0) k_iconst_0 dX12_isWord_24 ?_
    exact z_zret (b := false) hC dX12_isWord_25 rfl ⟨false, rfl, rfl, rfl, rfl, rfl, rfl, h⟩
  · have h := h.2 hc
    refine z_aload_n hC (q := 0) dX12_isWord_8 rfl rfl ?_
    refine gf_RX12_43 hC dX12_isWord_9 hk1 ?_
    refine z_iload_n hC (q := 1) dX12_isWord_12 rfl rfl ?_
    refine cl_RX12_62 hC (c_X12_wordOf _ G a1 K N I L R _ h) dX12_isWord_13 (by rw [hRm]; exact ⟨Nat.le_of_ble_eq_true rfl, Nat.le_of_ble_eq_true rfl⟩) ⟨Nat.zero_le _, Nat.zero_le _⟩ (Nat.le_of_ble_eq_true rfl) (z_kPl (fun r2 h => ?_))
    refine z_lcmp hC dX12_isWord_16 ?_
    refine z_if_ne hC (tgt := 24) dX12_isWord_17 (by decide) (fun hc => ?_) (fun hc => ?_)
    · have h := h.1 hc
      refine z_iconst hC (v := 0) k_iconst_0 dX12_isWord_24 ?_
      exact z_zret (b := false) hC dX12_isWord_25 rfl ⟨false, rfl, rfl, rfl, rfl, rfl, rfl, h⟩
    · have h := h.2 hc
      refine z_iconst hC (v := 1) k_iconst_1 dX12_isWord_20 ?_
      refine z_goto hC (tgt := 25) dX12_isWord_21 (by decide) ?_
      exact z_zret (b := true) hC dX12_isWord_25 rfl ⟨true, rfl, rfl, rfl, rfl, rfl, rfl, h⟩
def w_X12_isSign  (a0 : Nat) (a1 : Int32) (K : MK) (N : MK) (I : MI) (L : ML) (R : MR) (Q : Bool → Prop) : Prop := K a0 = 13 ∧ (¬ (I a0 7) = 4 → Q false) ∧ ((I a0 7) = 4 → (¬ (I a0 9) = a1 → Q false) ∧ ((I a0 9) = a1 → Q true))
set_option maxHeartbeats 4000000 in
set_option maxRecDepth 100000 in
theorem c_X12_isSign  (l : Launch) (G : ZG) (a0 : Nat) (a1 : Int32) (K : MK) (N : MK) (I : MI) (L : ML) (R : MR) (Q : Bool → Prop) (h : w_X12_isSign a0 a1 K N I L R Q) : Met l yX12_isSign (.code yX12_isSign cX12_isSign 2 (some .boolean) :: z_tbl) rm_X12_isSign (z_Pc G [.ref a0, .int a1] K N I L R) (z_Qc G (qPz K N I L R Q)) 0 0 (z_A G) := by
  refine z_met (by decide) (Nat.le_of_ble_eq_true rfl) (fun X hX hRm hC0 hnm => ?_)
  subst hX
  have hC : ZOk X G RX12 cX12_isSign 2 (some .boolean) := hC0
  show Z X G 2 0 0 _ K N I L R 0 [(0, .ref a0), (1, .int a1)] []
  delta w_X12_isSign at h
  refine z_aload_n hC (q := 0) dX12_isSign_0 rfl rfl ?_
  obtain ⟨hk1, h⟩ := h
  refine gf_RX12_30 hC dX12_isSign_1 hk1 ?_
  refine z_iconst hC (v := 4) k_iconst_4 dX12_isSign_4 ?_
  refine z_icmp_ne hC (tgt := 20) dX12_isSign_5 (by decide) (fun hc => ?_) (fun hc => ?_)
  · have h := h.1 hc
    refine z_iconst hC (v := 0) k_iconst_0 dX12_isSign_20 ?_
    exact z_zret (b := false) hC dX12_isSign_21 rfl ⟨false, rfl, rfl, rfl, rfl, rfl, rfl, h⟩
  · have h := h.2 hc
    refine z_aload_n hC (q := 0) dX12_isSign_8 rfl rfl ?_
    refine gf_RX12_40 hC dX12_isSign_9 hk1 ?_
    refine z_iload_n hC (q := 1) dX12_isSign_12 rfl rfl ?_
    refine z_icmp_ne hC (tgt := 20) dX12_isSign_13 (by decide) (fun hc => ?_) (fun hc => ?_)
    · have h := h.1 hc
      refine z_iconst hC (v := 0) k_iconst_0 dX12_isSign_20 ?_
      exact z_zret (b := false) hC dX12_isSign_21 rfl ⟨false, rfl, rfl, rfl, rfl, rfl, rfl, h⟩
    · have h := h.2 hc
      refine z_iconst hC (v := 1) k_iconst_1 dX12_isSign_16 ?_
      refine z_goto hC (tgt := 21) dX12_isSign_17 (by decide) ?_
      exact z_zret (b := true) hC dX12_isSign_21 rfl ⟨true, rfl, rfl, rfl, rfl, rfl, rfl, h⟩
def w_X12_isName_12  (x0 : Nat) (x1 : Int32)  (K : MK) (N : MK) (I : MI) (L : ML) (R : MR)  (Q : Bool → Prop) : Prop := ∃ J : Nat → Nat → Int32 → Prop, (∃ n, J n x0 x1) ∧ ∀ (n : Nat) (x0 : Nat) (x1 : Int32), J n x0 x1 → ((33 : Int32) < x1 → Q true) ∧ (¬ (33 : Int32) < x1 → K x0 = 13 ∧ w_X12_wordOf x1 K N I L R (fun r3 => (¬ (lg_cmp (L x0 12) r3) = 0 → ∀ v4 : Int32, v4 = x1 + 1 → ∃ n1, n1 < n ∧ J n1 x0 v4) ∧ ((lg_cmp (L x0 12) r3) = 0 → Q false)))
def w_X12_isName  (a0 : Nat) (K : MK) (N : MK) (I : MI) (L : ML) (R : MR) (Q : Bool → Prop) : Prop := K a0 = 13 ∧ ((I a0 7) = 2 → w_X12_isName_12 a0 0 K N I L R Q) ∧ (¬ (I a0 7) = 2 → Q false)
set_option maxHeartbeats 4000000 in
set_option maxRecDepth 100000 in
theorem z_X12_isName_12 {X : ZX} {G : ZG}  {x0 : Nat} {x1 : Int32}  {K : MK} {N : MK} {I : MI} {L : ML} {R : MR}  {Q : Bool → Prop} (hC : ZOk X G RX12 cX12_isName 2 (some .boolean)) (hRm : X.2.2.2.1 = rm_X12_isName) (h : w_X12_isName_12 x0 x1 K N I L R  Q) : Z X G 2 0 0 (z_T X G (qPz K N I L R Q) 0 0) K N I L R 12 [(0, .ref x0), (1, .int x1)] [] := by
  delta w_X12_isName_12 at h
  obtain ⟨J, ⟨n, h0⟩, hs⟩ := h
  have key : ∀ (n : Nat) (x0 : Nat) (x1 : Int32), J n x0 x1 → Z X G 2 0 0 (z_T X G (qPz K N I L R Q) 0 0) K N I L R 12 [(0, .ref x0), (1, .int x1)] [] := by
    intro n
    induction n using Nat.strongRecOn with
    | _ n ih =>
      intro x0 x1 hJ
      have hC12 : ∀ (y0 : Nat) (y1 : Int32) , (∃ n1, n1 < n ∧ J n1 y0 y1) → Z X G 2 0 0 (z_T X G (qPz K N I L R Q) 0 0) K N I L R 12 [(0, .ref y0), (1, .int y1)] [] := fun y0 y1 ⟨n1, hn1, hj⟩ => ih n1 hn1 y0 y1 hj
      have h := hs n x0 x1 hJ
      refine z_iload_n hC (q := 1) dX12_isName_12 rfl rfl ?_
      refine z_bipush hC (v := 33) k_bipush_33 dX12_isName_13 ?_
      refine z_icmp_gt hC (tgt := 38) dX12_isName_15 (by decide) (fun hc => ?_) (fun hc => ?_)
      · have h := h.1 hc
        refine z_iconst hC (v := 1) k_iconst_1 dX12_isName_38 ?_
        exact z_zret (b := true) hC dX12_isName_39 rfl ⟨true, rfl, rfl, rfl, rfl, rfl, rfl, h⟩
      · have h := h.2 hc
        refine z_aload_n hC (q := 0) dX12_isName_18 rfl rfl ?_
        obtain ⟨hk2, h⟩ := h
        refine gf_RX12_43 hC dX12_isName_19 hk2 ?_
        refine z_iload_n hC (q := 1) dX12_isName_22 rfl rfl ?_
        refine cl_RX12_62 hC (c_X12_wordOf _ G x1 K N I L R _ h) dX12_isName_23 (by rw [hRm]; exact ⟨Nat.le_of_ble_eq_true rfl, Nat.le_of_ble_eq_true rfl⟩) ⟨Nat.zero_le _, Nat.zero_le _⟩ (Nat.le_of_ble_eq_true rfl) (z_kPl (fun r3 h => ?_))
        refine z_lcmp hC dX12_isName_26 ?_
        refine z_if_ne hC (tgt := 32) dX12_isName_27 (by decide) (fun hc => ?_) (fun hc => ?_)
        · have h := h.1 hc
          obtain ⟨v4, ev4⟩ : ∃ y : Int32, y = x1 + 1 := ⟨_, rfl⟩
          have h := h v4 ev4
          refine z_iinc hC (q := 1) (v := v4) (lv1 := [(1, .int v4), (0, .ref x0)]) dX12_isName_32 rfl (by rw [ev4, k_iinc_1]) (by decide) rfl ?_
          refine z_goto hC (tgt := 12) dX12_isName_35 (by decide) ?_
          exact z_sub [(0, .ref x0), (1, .int v4)] [1, 0] rfl (hC12 _ _ h)
        · have h := h.2 hc
          refine z_iconst hC (v := 0) k_iconst_0 dX12_isName_30 ?_
          exact z_zret (b := false) hC dX12_isName_31 rfl ⟨false, rfl, rfl, rfl, rfl, rfl, rfl, h⟩
  exact key n x0 x1 h0
set_option maxHeartbeats 4000000 in
set_option maxRecDepth 100000 in
theorem c_X12_isName  (l : Launch) (G : ZG) (a0 : Nat) (K : MK) (N : MK) (I : MI) (L : ML) (R : MR) (Q : Bool → Prop) (h : w_X12_isName a0 K N I L R Q) : Met l yX12_isName (.code yX12_isName cX12_isName 2 (some .boolean) :: z_tbl) rm_X12_isName (z_Pc G [.ref a0] K N I L R) (z_Qc G (qPz K N I L R Q)) 0 0 (z_A G) := by
  refine z_met (by decide) (Nat.le_of_ble_eq_true rfl) (fun X hX hRm hC0 hnm => ?_)
  subst hX
  have hC : ZOk X G RX12 cX12_isName 2 (some .boolean) := hC0
  show Z X G 2 0 0 _ K N I L R 0 [(0, .ref a0)] []
  delta w_X12_isName at h
  refine z_aload_n hC (q := 0) dX12_isName_0 rfl rfl ?_
  obtain ⟨hk1, h⟩ := h
  refine gf_RX12_30 hC dX12_isName_1 hk1 ?_
  refine z_iconst hC (v := 2) k_iconst_2 dX12_isName_4 ?_
  refine z_icmp_eq hC (tgt := 10) dX12_isName_5 (by decide) (fun hc => ?_) (fun hc => ?_)
  · have h := h.1 hc
    refine z_iconst hC (v := 0) k_iconst_0 dX12_isName_10 ?_
    refine z_istore_n hC (lv1 := [(1, .int 0), (0, .ref a0)]) dX12_isName_11 rfl (by decide) rfl ?_
    exact z_sub [(0, .ref a0), (1, .int 0)] [1, 0] rfl (z_X12_isName_12 hC hRm h)
  · have h := h.2 hc
    refine z_iconst hC (v := 0) k_iconst_0 dX12_isName_8 ?_
    exact z_zret (b := false) hC dX12_isName_9 rfl ⟨false, rfl, rfl, rfl, rfl, rfl, rfl, h⟩
