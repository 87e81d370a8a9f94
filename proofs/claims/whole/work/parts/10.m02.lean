def w_X9_lineOf  (a0 : Nat) (a1 : Int32) (K : MK) (N : MK) (I : MI) (L : ML) (R : MR) (Q : Int32 → Prop) : Prop := K a0 = 10 ∧ w_X9_hasAddress a0 a1 K N I L R (fun r2 => (r2 = false → Q (-1)) ∧ (r2 = true → ∃ b3 : Nat, R a0 1 = some b3 ∧ w_X9_rowOf a0 a1 K N I L R (fun r4 => K b3 = 8 ∧ w_X7_at b3 r4 1 K N I L R (fun r6 => Q r6))))
set_option maxHeartbeats 4000000 in
set_option maxRecDepth 100000 in
theorem c_X9_lineOf  (l : Launch) (G : ZG) (a0 : Nat) (a1 : Int32) (K : MK) (N : MK) (I : MI) (L : ML) (R : MR) (Q : Int32 → Prop) (h : w_X9_lineOf a0 a1 K N I L R Q) : Met l yX9_lineOf (.code yX9_lineOf cX9_lineOf 2 (some .int) :: z_tbl) rm_X9_lineOf (z_Pc G [.ref a0, .int a1] K N I L R) (z_Qc G (qPi K N I L R Q)) 0 0 (z_A G) := by
  refine z_met (by decide) (Nat.le_of_ble_eq_true rfl) (fun X hX hRm hC0 hnm => ?_)
  subst hX
  have hC : ZOk X G RX9 cX9_lineOf 2 (some .int) := hC0
  show Z X G 2 0 0 _ K N I L R 0 [(0, .ref a0), (1, .int a1)] []
  delta w_X9_lineOf at h
  refine z_aload_n hC (q := 0) dX9_lineOf_0 rfl rfl ?_
  refine z_iload_n hC (q := 1) dX9_lineOf_1 rfl rfl ?_
  obtain ⟨hk1, h⟩ := h
  refine cl_RX9_61 hC (c_X9_hasAddress _ G a0 a1 K N I L R _ h) hk1 dX9_lineOf_2 (by rw [hRm]; exact ⟨Nat.le_of_ble_eq_true rfl, Nat.le_of_ble_eq_true rfl⟩) ⟨Nat.zero_le _, Nat.zero_le _⟩ (Nat.le_of_ble_eq_true rfl) (z_kPz (fun r2 h => ?_))
  refine z_ifz_eq hC (tgt := 24) dX9_lineOf_5 (by decide) (fun hc => ?_) (fun hc => ?_)
  · have h := h.1 hc
    refine z_iconst hC (v := (-1)) k_iconst_m1 dX9_lineOf_24 ?_
    exact z_iret hC dX9_lineOf_25 ⟨_, rfl, rfl, rfl, rfl, rfl, rfl, h⟩
  · have h := h.2 hc
    refine z_aload_n hC (q := 0) dX9_lineOf_8 rfl rfl ?_
    obtain ⟨b3, hb3, h⟩ := h
    refine gf_RX9_20 hC dX9_lineOf_9 hk1 hb3 ?_
    refine z_aload_n hC (q := 0) dX9_lineOf_12 rfl rfl ?_
    refine z_iload_n hC (q := 1) dX9_lineOf_13 rfl rfl ?_
    refine cl_RX9_65 hC (c_X9_rowOf _ G a0 a1 K N I L R _ h) hk1 dX9_lineOf_14 (by rw [hRm]; exact ⟨Nat.le_of_ble_eq_true rfl, Nat.le_of_ble_eq_true rfl⟩) ⟨Nat.zero_le _, Nat.zero_le _⟩ (Nat.le_of_ble_eq_true rfl) (z_kPi (fun r4 h => ?_))
    refine z_iconst hC (v := 1) k_iconst_1 dX9_lineOf_17 ?_
    obtain ⟨hk5, h⟩ := h
    refine cl_RX9_53 hC (c_X7_at _ G b3 r4 1 K N I L R _ h) hk5 dX9_lineOf_18 (by rw [hRm]; exact ⟨Nat.le_of_ble_eq_true rfl, Nat.le_of_ble_eq_true rfl⟩) ⟨Nat.zero_le _, Nat.zero_le _⟩ (Nat.le_of_ble_eq_true rfl) (z_kPi (fun r6 h => ?_))
    refine z_goto hC (tgt := 25) dX9_lineOf_21 (by decide) ?_
    exact z_iret hC dX9_lineOf_25 ⟨_, rfl, rfl, rfl, rfl, rfl, rfl, h⟩
def w_X9_rowLength  (a0 : Nat) (a1 : Int32) (K : MK) (N : MK) (I : MI) (L : ML) (R : MR) (Q : Int32 → Prop) : Prop := K a0 = 10 ∧ ∃ b2 : Nat, R a0 1 = some b2 ∧ K b2 = 8 ∧ w_X7_has b2 (a1 + 1) K N I L R (fun r4 => (r4 = false → ∀ v5 : Int32, v5 = (I a0 0) → w_X7_at b2 a1 0 K N I L R (fun r6 => Q (v5 - r6))) ∧ (r4 = true → w_X7_at b2 (a1 + 1) 0 K N I L R (fun r7 => w_X7_at b2 a1 0 K N I L R (fun r8 => Q (r7 - r8)))))
set_option maxHeartbeats 4000000 in
set_option maxRecDepth 100000 in
theorem c_X9_rowLength  (l : Launch) (G : ZG) (a0 : Nat) (a1 : Int32) (K : MK) (N : MK) (I : MI) (L : ML) (R : MR) (Q : Int32 → Prop) (h : w_X9_rowLength a0 a1 K N I L R Q) : Met l yX9_rowLength (.code yX9_rowLength cX9_rowLength 3 (some .int) :: z_tbl) rm_X9_rowLength (z_Pc G [.ref a0, .int a1] K N I L R) (z_Qc G (qPi K N I L R Q)) 0 0 (z_A G) := by
  refine z_met (by decide) (Nat.le_of_ble_eq_true rfl) (fun X hX hRm hC0 hnm => ?_)
  subst hX
  have hC : ZOk X G RX9 cX9_rowLength 3 (some .int) := hC0
  show Z X G 3 0 0 _ K N I L R 0 [(0, .ref a0), (1, .int a1)] []
  delta w_X9_rowLength at h
  refine z_aload_n hC (q := 0) dX9_rowLength_0 rfl rfl ?_
  obtain ⟨hk1, h⟩ := h
  obtain ⟨b2, hb2, h⟩ := h
  refine gf_RX9_20 hC dX9_rowLength_1 hk1 hb2 ?_
  refine z_iload_n hC (q := 1) dX9_rowLength_4 rfl rfl ?_
  refine z_iconst hC (v := 1) k_iconst_1 dX9_rowLength_5 ?_
  refine z_iadd hC dX9_rowLength_6 ?_
  obtain ⟨hk3, h⟩ := h
  refine cl_RX9_69 hC (c_X7_has _ G b2 (a1 + 1) K N I L R _ h) hk3 dX9_rowLength_7 (by rw [hRm]; exact ⟨Nat.le_of_ble_eq_true rfl, Nat.le_of_ble_eq_true rfl⟩) ⟨Nat.zero_le _, Nat.zero_le _⟩ (Nat.le_of_ble_eq_true rfl) (z_kPz (fun r4 h => ?_))
  refine z_ifz_eq hC (tgt := 27) dX9_rowLength_10 (by decide) (fun hc => ?_) (fun hc => ?_)
  · have h := h.1 hc
    refine z_aload_n hC (q := 0) dX9_rowLength_27 rfl rfl ?_
    refine gf_RX9_11 hC dX9_rowLength_28 hk1 ?_
    refine z_topi (fun v5 ev5 => ?_)
    have h := h v5 ev5
    refine z_istore_n hC (lv1 := [(2, .int v5), (0, .ref a0), (1, .int a1)]) dX9_rowLength_31 rfl (by decide) rfl ?_
    refine z_iload_n hC (q := 0) dX9_rowLength_32 rfl rfl ?_
    refine z_aload_n hC (q := 1) dX9_rowLength_33 rfl rfl ?_
    refine gf_RX9_20 hC dX9_rowLength_34 hk1 hb2 ?_
    refine z_iload_n hC (q := 2) dX9_rowLength_37 rfl rfl ?_
    refine z_iconst hC (v := 0) k_iconst_0 dX9_rowLength_38 ?_
    refine cl_RX9_53 hC (c_X7_at _ G b2 a1 0 K N I L R _ h) hk3 dX9_rowLength_39 (by rw [hRm]; exact ⟨Nat.le_of_ble_eq_true rfl, Nat.le_of_ble_eq_true rfl⟩) ⟨Nat.zero_le _, Nat.zero_le _⟩ (Nat.le_of_ble_eq_true rfl) (z_kPi (fun r6 h => ?_))
    refine z_isub hC dX9_rowLength_42 ?_
    exact z_iret hC dX9_rowLength_43 ⟨_, rfl, rfl, rfl, rfl, rfl, rfl, h⟩
  · have h := h.2 hc
    refine z_aload_n hC (q := 0) dX9_rowLength_13 rfl rfl ?_
    refine gf_RX9_20 hC dX9_rowLength_14 hk1 hb2 ?_
    refine z_iload_n hC (q := 1) dX9_rowLength_17 rfl rfl ?_
    refine z_iconst hC (v := 1) k_iconst_1 dX9_rowLength_18 ?_
    refine z_iadd hC dX9_rowLength_19 ?_
    refine z_iconst hC (v := 0) k_iconst_0 dX9_rowLength_20 ?_
    refine cl_RX9_53 hC (c_X7_at _ G b2 (a1 + 1) 0 K N I L R _ h) hk3 dX9_rowLength_21 (by rw [hRm]; exact ⟨Nat.le_of_ble_eq_true rfl, Nat.le_of_ble_eq_true rfl⟩) ⟨Nat.zero_le _, Nat.zero_le _⟩ (Nat.le_of_ble_eq_true rfl) (z_kPi (fun r7 h => ?_))
    refine z_goto hC (tgt := 31) dX9_rowLength_24 (by decide) ?_
    refine z_istore_n hC (lv1 := [(2, .int r7), (0, .ref a0), (1, .int a1)]) dX9_rowLength_31 rfl (by decide) rfl ?_
    refine z_iload_n hC (q := 0) dX9_rowLength_32 rfl rfl ?_
    refine z_aload_n hC (q := 1) dX9_rowLength_33 rfl rfl ?_
    refine gf_RX9_20 hC dX9_rowLength_34 hk1 hb2 ?_
    refine z_iload_n hC (q := 2) dX9_rowLength_37 rfl rfl ?_
    refine z_iconst hC (v := 0) k_iconst_0 dX9_rowLength_38 ?_
    refine cl_RX9_53 hC (c_X7_at _ G b2 a1 0 K N I L R _ h) hk3 dX9_rowLength_39 (by rw [hRm]; exact ⟨Nat.le_of_ble_eq_true rfl, Nat.le_of_ble_eq_true rfl⟩) ⟨Nat.zero_le _, Nat.zero_le _⟩ (Nat.le_of_ble_eq_true rfl) (z_kPi (fun r8 h => ?_))
    refine z_isub hC dX9_rowLength_42 ?_
    exact z_iret hC dX9_rowLength_43 ⟨_, rfl, rfl, rfl, rfl, rfl, rfl, h⟩
def w_X9_lineLength_4  (x0 : Nat) (x1 : Int32) (x2 : Int32) (x3 : Int32)  (K : MK) (N : MK) (I : MI) (L : ML) (R : MR)  (Q : Int32 → Prop) : Prop := ∃ J : Nat → Nat → Int32 → Int32 → Int32 → Prop, (∃ n, J n x0 x1 x2 x3) ∧ ∀ (n : Nat) (x0 : Nat) (x1 : Int32) (x2 : Int32) (x3 : Int32), J n x0 x1 x2 x3 → K x0 = 10 ∧ ∃ b2 : Nat, R x0 1 = some b2 ∧ K b2 = 8 ∧ ((I b2 3) ≤ x3 → Q x2) ∧ (¬ (I b2 3) ≤ x3 → w_X7_at b2 x3 1 K N I L R (fun r4 => (¬ r4 = x1 → ∀ v5 : Int32, v5 = x3 + 1 → ∃ n1, n1 < n ∧ J n1 x0 x1 x2 v5) ∧ (r4 = x1 → w_X9_rowLength x0 x3 K N I L R (fun r6 => ∀ v7 : Int32, v7 = (x2 + r6) → ∀ v8 : Int32, v8 = x3 + 1 → ∃ n1, n1 < n ∧ J n1 x0 x1 v7 v8))))
def w_X9_lineLength  (a0 : Nat) (a1 : Int32) (K : MK) (N : MK) (I : MI) (L : ML) (R : MR) (Q : Int32 → Prop) : Prop := w_X9_lineLength_4 a0 a1 0 0 K N I L R Q
set_option maxHeartbeats 4000000 in
set_option maxRecDepth 100000 in
theorem z_X9_lineLength_4 {X : ZX} {G : ZG}  {x0 : Nat} {x1 : Int32} {x2 : Int32} {x3 : Int32}  {K : MK} {N : MK} {I : MI} {L : ML} {R : MR}  {Q : Int32 → Prop} (hC : ZOk X G RX9 cX9_lineLength 4 (some .int)) (hRm : X.2.2.2.1 = rm_X9_lineLength) (h : w_X9_lineLength_4 x0 x1 x2 x3 K N I L R  Q) : Z X G 4 0 0 (z_T X G (qPi K N I L R Q) 0 0) K N I L R 4 [(0, .ref x0), (1, .int x1), (2, .int x2), (3, .int x3)] [] := by
  delta w_X9_lineLength_4 at h
  obtain ⟨J, ⟨n, h0⟩, hs⟩ := h
  have key : ∀ (n : Nat) (x0 : Nat) (x1 : Int32) (x2 : Int32) (x3 : Int32), J n x0 x1 x2 x3 → Z X G 4 0 0 (z_T X G (qPi K N I L R Q) 0 0) K N I L R 4 [(0, .ref x0), (1, .int x1), (2, .int x2), (3, .int x3)] [] := by
    intro n
    induction n using Nat.strongRecOn with
    | _ n ih =>
      intro x0 x1 x2 x3 hJ
      have hC4 : ∀ (y0 : Nat) (y1 : Int32) (y2 : Int32) (y3 : Int32) , (∃ n1, n1 < n ∧ J n1 y0 y1 y2 y3) → Z X G 4 0 0 (z_T X G (qPi K N I L R Q) 0 0) K N I L R 4 [(0, .ref y0), (1, .int y1), (2, .int y2), (3, .int y3)] [] := fun y0 y1 y2 y3 ⟨n1, hn1, hj⟩ => ih n1 hn1 y0 y1 y2 y3 hj
      have h := hs n x0 x1 x2 x3 hJ
      refine z_iload_n hC (q := 3) dX9_lineLength_4 rfl rfl ?_
      refine z_aload_n hC (q := 0) dX9_lineLength_5 rfl rfl ?_
      obtain ⟨hk1, h⟩ := h
      obtain ⟨b2, hb2, h⟩ := h
      refine gf_RX9_20 hC dX9_lineLength_6 hk1 hb2 ?_
      obtain ⟨hk3, h⟩ := h
      refine gf_RX9_50 hC dX9_lineLength_9 hk3 ?_
      refine z_icmp_ge hC (tgt := 42) dX9_lineLength_12 (by decide) (fun hc => ?_) (fun hc => ?_)
      · have h := h.1 hc
        refine z_iload_n hC (q := 2) dX9_lineLength_42 rfl rfl ?_
        exact z_iret hC dX9_lineLength_43 ⟨_, rfl, rfl, rfl, rfl, rfl, rfl, h⟩
      · have h := h.2 hc
        refine z_aload_n hC (q := 0) dX9_lineLength_15 rfl rfl ?_
        refine gf_RX9_20 hC dX9_lineLength_16 hk1 hb2 ?_
        refine z_iload_n hC (q := 3) dX9_lineLength_19 rfl rfl ?_
        refine z_iconst hC (v := 1) k_iconst_1 dX9_lineLength_20 ?_
        refine cl_RX9_53 hC (c_X7_at _ G b2 x3 1 K N I L R _ h) hk3 dX9_lineLength_21 (by rw [hRm]; exact ⟨Nat.le_of_ble_eq_true rfl, Nat.le_of_ble_eq_true rfl⟩) ⟨Nat.zero_le _, Nat.zero_le _⟩ (Nat.le_of_ble_eq_true rfl) (z_kPi (fun r4 h => ?_))
        refine z_iload_n hC (q := 1) dX9_lineLength_24 rfl rfl ?_
        refine z_icmp_ne hC (tgt := 36) dX9_lineLength_25 (by decide) (fun hc => ?_) (fun hc => ?_)
        · have h := h.1 hc
          obtain ⟨v5, ev5⟩ : ∃ y : Int32, y = x3 + 1 := ⟨_, rfl⟩
          have h := h v5 ev5
          refine z_iinc hC (q := 3) (v := v5) (lv1 := [(3, .int v5), (0, .ref x0), (1, .int x1), (2, .int x2)]) dX9_lineLength_36 rfl (by rw [ev5, k_iinc_1]) (by decide) rfl ?_
          refine z_goto hC (tgt := 4) dX9_lineLength_39 (by decide) ?_
          exact z_sub [(0, .ref x0), (1, .int x1), (2, .int x2), (3, .int v5)] [1, 2, 3, 0] rfl (hC4 _ _ _ _ h)
        · have h := h.2 hc
          refine z_iload_n hC (q := 2) dX9_lineLength_28 rfl rfl ?_
          refine z_aload_n hC (q := 0) dX9_lineLength_29 rfl rfl ?_
          refine z_iload_n hC (q := 3) dX9_lineLength_30 rfl rfl ?_
          refine cl_RX9_72 hC (c_X9_rowLength _ G x0 x3 K N I L R _ h) hk1 dX9_lineLength_31 (by rw [hRm]; exact ⟨Nat.le_of_ble_eq_true rfl, Nat.le_of_ble_eq_true rfl⟩) ⟨Nat.zero_le _, Nat.zero_le _⟩ (Nat.le_of_ble_eq_true rfl) (z_kPi (fun r6 h => ?_))
          refine z_iadd hC dX9_lineLength_34 ?_
          refine z_topi (fun v7 ev7 => ?_)
          have h := h v7 ev7
          refine z_istore_n hC (lv1 := [(2, .int v7), (0, .ref x0), (1, .int x1), (3, .int x3)]) dX9_lineLength_35 rfl (by decide) rfl ?_
          obtain ⟨v8, ev8⟩ : ∃ y : Int32, y = x3 + 1 := ⟨_, rfl⟩
          have h := h v8 ev8
          refine z_iinc hC (q := 3) (v := v8) (lv1 := [(3, .int v8), (2, .int v7), (0, .ref x0), (1, .int x1)]) dX9_lineLength_36 rfl (by rw [ev8, k_iinc_1]) (by decide) rfl ?_
          refine z_goto hC (tgt := 4) dX9_lineLength_39 (by decide) ?_
          exact z_sub [(0, .ref x0), (1, .int x1), (2, .int v7), (3, .int v8)] [2, 3, 1, 0] rfl (hC4 _ _ _ _ h)
  exact key n x0 x1 x2 x3 h0
set_option maxHeartbeats 4000000 in
set_option maxRecDepth 100000 in
theorem c_X9_lineLength  (l : Launch) (G : ZG) (a0 : Nat) (a1 : Int32) (K : MK) (N : MK) (I : MI) (L : ML) (R : MR) (Q : Int32 → Prop) (h : w_X9_lineLength a0 a1 K N I L R Q) : Met l yX9_lineLength (.code yX9_lineLength cX9_lineLength 4 (some .int) :: z_tbl) rm_X9_lineLength (z_Pc G [.ref a0, .int a1] K N I L R) (z_Qc G (qPi K N I L R Q)) 0 0 (z_A G) := by
  refine z_met (by decide) (Nat.le_of_ble_eq_true rfl) (fun X hX hRm hC0 hnm => ?_)
  subst hX
  have hC : ZOk X G RX9 cX9_lineLength 4 (some .int) := hC0
  show Z X G 4 0 0 _ K N I L R 0 [(0, .ref a0), (1, .int a1)] []
  delta w_X9_lineLength at h
  refine z_iconst hC (v := 0) k_iconst_0 dX9_lineLength_0 ?_
  refine z_istore_n hC (lv1 := [(2, .int 0), (0, .ref a0), (1, .int a1)]) dX9_lineLength_1 rfl (by decide) rfl ?_
  refine z_iconst hC (v := 0) k_iconst_0 dX9_lineLength_2 ?_
  refine z_istore_n hC (lv1 := [(3, .int 0), (2, .int 0), (0, .ref a0), (1, .int a1)]) dX9_lineLength_3 rfl (by decide) rfl ?_
  exact z_sub [(0, .ref a0), (1, .int a1), (2, .int 0), (3, .int 0)] [2, 3, 1, 0] rfl (z_X9_lineLength_4 hC hRm h)
def w_X9_scopeLength  (a0 : Nat) (a1 : Int32) (K : MK) (N : MK) (I : MI) (L : ML) (R : MR) (Q : Int32 → Prop) : Prop := K a0 = 10 ∧ ∃ b2 : Nat, R a0 2 = some b2 ∧ K b2 = 8 ∧ w_X7_at b2 a1 1 K N I L R (fun r4 => w_X7_at b2 a1 0 K N I L R (fun r5 => Q (r4 - r5)))
set_option maxHeartbeats 4000000 in
set_option maxRecDepth 100000 in
theorem c_X9_scopeLength  (l : Launch) (G : ZG) (a0 : Nat) (a1 : Int32) (K : MK) (N : MK) (I : MI) (L : ML) (R : MR) (Q : Int32 → Prop) (h : w_X9_scopeLength a0 a1 K N I L R Q) : Met l yX9_scopeLength (.code yX9_scopeLength cX9_scopeLength 2 (some .int) :: z_tbl) rm_X9_scopeLength (z_Pc G [.ref a0, .int a1] K N I L R) (z_Qc G (qPi K N I L R Q)) 0 0 (z_A G) := by
  refine z_met (by decide) (Nat.le_of_ble_eq_true rfl) (fun X hX hRm hC0 hnm => ?_)
  subst hX
  have hC : ZOk X G RX9 cX9_scopeLength 2 (some .int) := hC0
  show Z X G 2 0 0 _ K N I L R 0 [(0, .ref a0), (1, .int a1)] []
  delta w_X9_scopeLength at h
  refine z_aload_n hC (q := 0) dX9_scopeLength_0 rfl rfl ?_
  obtain ⟨hk1, h⟩ := h
  obtain ⟨b2, hb2, h⟩ := h
  refine gf_RX9_24 hC dX9_scopeLength_1 hk1 hb2 ?_
  refine z_iload_n hC (q := 1) dX9_scopeLength_4 rfl rfl ?_
  refine z_iconst hC (v := 1) k_iconst_1 dX9_scopeLength_5 ?_
  obtain ⟨hk3, h⟩ := h
  refine cl_RX9_53 hC (c_X7_at _ G b2 a1 1 K N I L R _ h) hk3 dX9_scopeLength_6 (by rw [hRm]; exact ⟨Nat.le_of_ble_eq_true rfl, Nat.le_of_ble_eq_true rfl⟩) ⟨Nat.zero_le _, Nat.zero_le _⟩ (Nat.le_of_ble_eq_true rfl) (z_kPi (fun r4 h => ?_))
  refine z_aload_n hC (q := 0) dX9_scopeLength_9 rfl rfl ?_
  refine gf_RX9_24 hC dX9_scopeLength_10 hk1 hb2 ?_
  refine z_iload_n hC (q := 1) dX9_scopeLength_13 rfl rfl ?_
  refine z_iconst hC (v := 0) k_iconst_0 dX9_scopeLength_14 ?_
  refine cl_RX9_53 hC (c_X7_at _ G b2 a1 0 K N I L R _ h) hk3 dX9_scopeLength_15 (by rw [hRm]; exact ⟨Nat.le_of_ble_eq_true rfl, Nat.le_of_ble_eq_true rfl⟩) ⟨Nat.zero_le _, Nat.zero_le _⟩ (Nat.le_of_ble_eq_true rfl) (z_kPi (fun r5 h => ?_))
  refine z_isub hC dX9_scopeLength_18 ?_
  exact z_iret hC dX9_scopeLength_19 ⟨_, rfl, rfl, rfl, rfl, rfl, rfl, h⟩
def w_X9_rankScope  (a0 : Nat) (a1 : Int32) (K : MK) (N : MK) (I : MI) (L : ML) (R : MR) (Q : MI → Prop) : Prop := K a0 = 10 ∧ ∃ b2 : Nat, R a0 2 = some b2 ∧ K b2 = 8 ∧ w_X7_at b2 a1 1 K N I L R (fun r4 => w_X7_at b2 a1 0 K N I L R (fun r5 => ∀ v6 : Int32, v6 = (r4 - r5) → w_X7_put b2 a1 3 (((v6 + 1) * 10) - a1) K N I L R (fun I7 => Q I7)))
set_option maxHeartbeats 4000000 in
set_option maxRecDepth 100000 in
theorem c_X9_rankScope  (l : Launch) (G : ZG) (a0 : Nat) (a1 : Int32) (K : MK) (N : MK) (I : MI) (L : ML) (R : MR) (Q : MI → Prop) (h : w_X9_rankScope a0 a1 K N I L R Q) : Met l yX9_rankScope (.code yX9_rankScope cX9_rankScope 3 none :: z_tbl) rm_X9_rankScope (z_Pc G [.ref a0, .int a1] K N I L R) (z_Qc G (qIv K N L R Q)) 0 0 (z_A G) := by
  refine z_met (by decide) (Nat.le_of_ble_eq_true rfl) (fun X hX hRm hC0 hnm => ?_)
  subst hX
  have hC : ZOk X G RX9 cX9_rankScope 3 none := hC0
  show Z X G 3 0 0 _ K N I L R 0 [(0, .ref a0), (1, .int a1)] []
  delta w_X9_rankScope at h
  refine z_aload_n hC (q := 0) dX9_rankScope_0 rfl rfl ?_
  obtain ⟨hk1, h⟩ := h
  obtain ⟨b2, hb2, h⟩ := h
  refine gf_RX9_24 hC dX9_rankScope_1 hk1 hb2 ?_
  refine z_iload_n hC (q := 1) dX9_rankScope_4 rfl rfl ?_
  refine z_iconst hC (v := 1) k_iconst_1 dX9_rankScope_5 ?_
  obtain ⟨hk3, h⟩ := h
  refine cl_RX9_53 hC (c_X7_at _ G b2 a1 1 K N I L R _ h) hk3 dX9_rankScope_6 (by rw [hRm]; exact ⟨Nat.le_of_ble_eq_true rfl, Nat.le_of_ble_eq_true rfl⟩) ⟨Nat.zero_le _, Nat.zero_le _⟩ (Nat.le_of_ble_eq_true rfl) (z_kPi (fun r4 h => ?_))
  refine z_aload_n hC (q := 0) dX9_rankScope_9 rfl rfl ?_
  refine gf_RX9_24 hC dX9_rankScope_10 hk1 hb2 ?_
  refine z_iload_n hC (q := 1) dX9_rankScope_13 rfl rfl ?_
  refine z_iconst hC (v := 0) k_iconst_0 dX9_rankScope_14 ?_
  refine cl_RX9_53 hC (c_X7_at _ G b2 a1 0 K N I L R _ h) hk3 dX9_rankScope_15 (by rw [hRm]; exact ⟨Nat.le_of_ble_eq_true rfl, Nat.le_of_ble_eq_true rfl⟩) ⟨Nat.zero_le _, Nat.zero_le _⟩ (Nat.le_of_ble_eq_true rfl) (z_kPi (fun r5 h => ?_))
  refine z_isub hC dX9_rankScope_18 ?_
  refine z_topi (fun v6 ev6 => ?_)
  have h := h v6 ev6
  refine z_istore_n hC (lv1 := [(2, .int v6), (0, .ref a0), (1, .int a1)]) dX9_rankScope_19 rfl (by decide) rfl ?_
  refine z_aload_n hC (q := 1) dX9_rankScope_20 rfl rfl ?_
  refine gf_RX9_24 hC dX9_rankScope_21 hk1 hb2 ?_
  refine z_iload_n hC (q := 2) dX9_rankScope_24 rfl rfl ?_
  refine z_iconst hC (v := 3) k_iconst_3 dX9_rankScope_25 ?_
  refine z_iload_n hC (q := 0) dX9_rankScope_26 rfl rfl ?_
  refine z_iconst hC (v := 1) k_iconst_1 dX9_rankScope_27 ?_
  refine z_iadd hC dX9_rankScope_28 ?_
  refine z_bipush hC (v := 10) k_bipush_10 dX9_rankScope_29 ?_
  refine z_imul hC dX9_rankScope_31 ?_
  refine z_iload_n hC (q := 2) dX9_rankScope_32 rfl rfl ?_
  refine z_isub hC dX9_rankScope_33 ?_
  refine cl_RX9_57 hC (c_X7_put _ G b2 a1 3 (((v6 + 1) * 10) - a1) K N I L R _ h) hk3 dX9_rankScope_34 (by rw [hRm]; exact ⟨Nat.le_of_ble_eq_true rfl, Nat.le_of_ble_eq_true rfl⟩) ⟨Nat.zero_le _, Nat.zero_le _⟩ (Nat.le_of_ble_eq_true rfl) (z_kIv (I := I) (fun I7 h => ?_))
  exact z_vret hC dX9_rankScope_37 ⟨rfl, rfl, rfl, rfl, rfl, h⟩
def w_X9_cutsScope_66  (x0 : Nat) (x1 : Int32) (x2 : Int32) (x3 : Int32) (x4 : Int32) (x5 : Int32) (x6 : Int32)  (K : MK) (N : MK) (I : MI) (L : ML) (R : MR) (C2 : Nat → Int32 → Int32 → Int32 → Prop) (Q : Bool → Prop) : Prop := (x4 < x1 → (¬ x6 = 0 → ∀ v6 : Int32, v6 = x3 + 1 → C2 x0 x1 x2 v6) ∧ (x6 = 0 → Q true)) ∧ (¬ x4 < x1 → (x2 < x5 → (¬ x6 = 0 → ∀ v7 : Int32, v7 = x3 + 1 → C2 x0 x1 x2 v7) ∧ (x6 = 0 → Q true)) ∧ (¬ x2 < x5 → (¬ x6 = 0 → ∀ v8 : Int32, v8 = x3 + 1 → C2 x0 x1 x2 v8) ∧ (x6 = 0 → ∀ v9 : Int32, v9 = x3 + 1 → C2 x0 x1 x2 v9)))
def w_X9_cutsScope_52  (x0 : Nat) (x1 : Int32) (x2 : Int32) (x3 : Int32) (x4 : Int32) (x5 : Int32) (s0 : Int32) (K : MK) (N : MK) (I : MI) (L : ML) (R : MR) (C2 : Nat → Int32 → Int32 → Int32 → Prop) (Q : Bool → Prop) : Prop := (x1 < x4 → w_X9_cutsScope_66 x0 x1 x2 x3 x4 x5 s0 K N I L R C2 Q) ∧ (¬ x1 < x4 → (x2 ≤ x5 → (¬ s0 = 0 → ∀ v10 : Int32, v10 = x3 + 1 → C2 x0 x1 x2 v10) ∧ (s0 = 0 → ∀ v11 : Int32, v11 = x3 + 1 → C2 x0 x1 x2 v11)) ∧ (¬ x2 ≤ x5 → w_X9_cutsScope_66 x0 x1 x2 x3 x4 x5 s0 K N I L R C2 Q))
def w_X9_cutsScope_47  (x0 : Nat) (x1 : Int32) (x2 : Int32) (x3 : Int32) (x4 : Int32) (x5 : Int32)  (K : MK) (N : MK) (I : MI) (L : ML) (R : MR) (C2 : Nat → Int32 → Int32 → Int32 → Prop) (Q : Bool → Prop) : Prop := w_X9_cutsScope_52 x0 x1 x2 x3 x4 x5 1 K N I L R C2 Q
def w_X9_cutsScope_2  (x0 : Nat) (x1 : Int32) (x2 : Int32) (x3 : Int32)  (K : MK) (N : MK) (I : MI) (L : ML) (R : MR)  (Q : Bool → Prop) : Prop := ∃ J : Nat → Nat → Int32 → Int32 → Int32 → Prop, (∃ n, J n x0 x1 x2 x3) ∧ ∀ (n : Nat) (x0 : Nat) (x1 : Int32) (x2 : Int32) (x3 : Int32), J n x0 x1 x2 x3 → K x0 = 10 ∧ ∃ b2 : Nat, R x0 2 = some b2 ∧ K b2 = 8 ∧ ((I b2 3) ≤ x3 → Q false) ∧ (¬ (I b2 3) ≤ x3 → w_X7_at b2 x3 0 K N I L R (fun r4 => w_X7_at b2 x3 1 K N I L R (fun r5 => (x2 ≤ r4 → w_X9_cutsScope_47 x0 x1 x2 x3 r4 r5 K N I L R (fun y0 y1 y2 y3 => ∃ n1, n1 < n ∧ J n1 y0 y1 y2 y3) Q) ∧ (¬ x2 ≤ r4 → (x1 < r5 → w_X9_cutsScope_52 x0 x1 x2 x3 r4 r5 0 K N I L R (fun y0 y1 y2 y3 => ∃ n1, n1 < n ∧ J n1 y0 y1 y2 y3) Q) ∧ (¬ x1 < r5 → w_X9_cutsScope_47 x0 x1 x2 x3 r4 r5 K N I L R (fun y0 y1 y2 y3 => ∃ n1, n1 < n ∧ J n1 y0 y1 y2 y3) Q)))))
def w_X9_cutsScope  (a0 : Nat) (a1 : Int32) (a2 : Int32) (K : MK) (N : MK) (I : MI) (L : ML) (R : MR) (Q : Bool → Prop) : Prop := w_X9_cutsScope_2 a0 a1 a2 0 K N I L R Q
set_option maxHeartbeats 4000000 in
set_option maxRecDepth 100000 in
theorem z_X9_cutsScope_66 {X : ZX} {G : ZG}  {x0 : Nat} {x1 : Int32} {x2 : Int32} {x3 : Int32} {x4 : Int32} {x5 : Int32} {x6 : Int32}  {K : MK} {N : MK} {I : MI} {L : ML} {R : MR} {C2 : Nat → Int32 → Int32 → Int32 → Prop} {Q : Bool → Prop} (hC : ZOk X G RX9 cX9_cutsScope 8 (some .boolean)) (hRm : X.2.2.2.1 = rm_X9_cutsScope) (hC2 : ∀ (y0 : Nat) (y1 : Int32) (y2 : Int32) (y3 : Int32) , C2 y0 y1 y2 y3 → Z X G 8 0 0 (z_T X G (qPz K N I L R Q) 0 0) K N I L R 2 [(0, .ref y0), (1, .int y1), (2, .int y2), (3, .int y3)] []) (h : w_X9_cutsScope_66 x0 x1 x2 x3 x4 x5 x6 K N I L R C2 Q) : Z X G 8 0 0 (z_T X G (qPz K N I L R Q) 0 0) K N I L R 66 [(0, .ref x0), (1, .int x1), (2, .int x2), (3, .int x3), (4, .int x4), (5, .int x5), (6, .int x6)] [] := by
  delta w_X9_cutsScope_66 at h
  refine z_iload_n hC (q := 1) dX9_cutsScope_66 rfl rfl ?_
  refine z_iload hC (q := 4) dX9_cutsScope_67 rfl ?_
  refine z_icmp_gt hC (tgt := 82) dX9_cutsScope_69 (by decide) (fun hc => ?_) (fun hc => ?_)
  · have h := h.1 hc
    refine z_iconst hC (v := 0) k_iconst_0 dX9_cutsScope_82 ?_
    refine z_istore hC (lv1 := [(7, .int 0), (0, .ref x0), (1, .int x1), (2, .int x2), (3, .int x3), (4, .int x4), (5, .int x5), (6, .int x6)]) dX9_cutsScope_83 (by decide) rfl ?_
    refine z_iload hC (q := 7) dX9_cutsScope_85 rfl ?_
    refine z_if_ne hC (tgt := 97) dX9_cutsScope_87 (by decide) (fun hc => ?_) (fun hc => ?_)
    · have h := h.1 hc
      obtain ⟨v6, ev6⟩ : ∃ y : Int32, y = x3 + 1 := ⟨_, rfl⟩
      have h := h v6 ev6
      refine z_iinc hC (q := 4) (v := v6) (lv1 := [(3, .int v6), (7, .int 0), (0, .ref x0), (1, .int x1), (2, .int x2), (4, .int x4), (5, .int x5), (6, .int x6)]) dX9_cutsScope_97 rfl (by rw [ev6, k_iinc_1]) (by decide) rfl ?_
      refine z_goto hC (tgt := 2) dX9_cutsScope_100 (by decide) ?_
      exact z_sub [(0, .ref x0), (1, .int x1), (2, .int x2), (3, .int v6)] [2, 3, 4, 0] rfl (hC2 _ _ _ _ h)
    · have h := h.2 hc
      refine z_iload hC (q := 0) dX9_cutsScope_90 rfl ?_
      refine z_if_ne hC (tgt := 97) dX9_cutsScope_92 (by decide) (fun hc => absurd hc (by decide)) (fun _ => ?_)
      refine z_iconst hC (v := 1) k_iconst_1 dX9_cutsScope_95 ?_
      exact z_zret (b := true) hC dX9_cutsScope_96 rfl ⟨true, rfl, rfl, rfl, rfl, rfl, rfl, h⟩
  · have h := h.2 hc
    refine z_iload hC (q := 5) dX9_cutsScope_72 rfl ?_
    refine z_iload_n hC (q := 2) dX9_cutsScope_74 rfl rfl ?_
    refine z_icmp_gt hC (tgt := 82) dX9_cutsScope_75 (by decide) (fun hc => ?_) (fun hc => ?_)
    · have h := h.1 hc
      refine z_iconst hC (v := 0) k_iconst_0 dX9_cutsScope_82 ?_
      refine z_istore hC (lv1 := [(7, .int 0), (0, .ref x0), (1, .int x1), (2, .int x2), (3, .int x3), (4, .int x4), (5, .int x5), (6, .int x6)]) dX9_cutsScope_83 (by decide) rfl ?_
      refine z_iload hC (q := 7) dX9_cutsScope_85 rfl ?_
      refine z_if_ne hC (tgt := 97) dX9_cutsScope_87 (by decide) (fun hc => ?_) (fun hc => ?_)
      · have h := h.1 hc
        obtain ⟨v7, ev7⟩ : ∃ y : Int32, y = x3 + 1 := ⟨_, rfl⟩
        have h := h v7 ev7
        refine z_iinc hC (q := 4) (v := v7) (lv1 := [(3, .int v7), (7, .int 0), (0, .ref x0), (1, .int x1), (2, .int x2), (4, .int x4), (5, .int x5), (6, .int x6)]) dX9_cutsScope_97 rfl (by rw [ev7, k_iinc_1]) (by decide) rfl ?_
        refine z_goto hC (tgt := 2) dX9_cutsScope_100 (by decide) ?_
        exact z_sub [(0, .ref x0), (1, .int x1), (2, .int x2), (3, .int v7)] [2, 3, 4, 0] rfl (hC2 _ _ _ _ h)
      · have h := h.2 hc
        refine z_iload hC (q := 0) dX9_cutsScope_90 rfl ?_
        refine z_if_ne hC (tgt := 97) dX9_cutsScope_92 (by decide) (fun hc => absurd hc (by decide)) (fun _ => ?_)
        refine z_iconst hC (v := 1) k_iconst_1 dX9_cutsScope_95 ?_
        exact z_zret (b := true) hC dX9_cutsScope_96 rfl ⟨true, rfl, rfl, rfl, rfl, rfl, rfl, h⟩
    · have h := h.2 hc
      refine z_iconst hC (v := 1) k_iconst_1 dX9_cutsScope_78 ?_
      refine z_goto hC (tgt := 83) dX9_cutsScope_79 (by decide) ?_
      refine z_istore hC (lv1 := [(7, .int 1), (0, .ref x0), (1, .int x1), (2, .int x2), (3, .int x3), (4, .int x4), (5, .int x5), (6, .int x6)]) dX9_cutsScope_83 (by decide) rfl ?_
      refine z_iload hC (q := 7) dX9_cutsScope_85 rfl ?_
      refine z_if_ne hC (tgt := 97) dX9_cutsScope_87 (by decide) (fun hc => ?_) (fun hc => ?_)
      · have h := h.1 hc
        obtain ⟨v8, ev8⟩ : ∃ y : Int32, y = x3 + 1 := ⟨_, rfl⟩
        have h := h v8 ev8
        refine z_iinc hC (q := 4) (v := v8) (lv1 := [(3, .int v8), (7, .int 1), (0, .ref x0), (1, .int x1), (2, .int x2), (4, .int x4), (5, .int x5), (6, .int x6)]) dX9_cutsScope_97 rfl (by rw [ev8, k_iinc_1]) (by decide) rfl ?_
        refine z_goto hC (tgt := 2) dX9_cutsScope_100 (by decide) ?_
        exact z_sub [(0, .ref x0), (1, .int x1), (2, .int x2), (3, .int v8)] [2, 3, 4, 0] rfl (hC2 _ _ _ _ h)
      · have h := h.2 hc
        refine z_iload hC (q := 0) dX9_cutsScope_90 rfl ?_
        refine z_if_ne hC (tgt := 97) dX9_cutsScope_92 (by decide) (fun _ => ?_) (fun hc => absurd hc (by decide))
        obtain ⟨v9, ev9⟩ : ∃ y : Int32, y = x3 + 1 := ⟨_, rfl⟩
        have h := h v9 ev9
        refine z_iinc hC (q := 4) (v := v9) (lv1 := [(3, .int v9), (7, .int 1), (0, .ref x0), (1, .int x1), (2, .int x2), (4, .int x4), (5, .int x5), (6, .int x6)]) dX9_cutsScope_97 rfl (by rw [ev9, k_iinc_1]) (by decide) rfl ?_
        refine z_goto hC (tgt := 2) dX9_cutsScope_100 (by decide) ?_
        exact z_sub [(0, .ref x0), (1, .int x1), (2, .int x2), (3, .int v9)] [2, 3, 4, 0] rfl (hC2 _ _ _ _ h)
set_option maxHeartbeats 4000000 in
set_option maxRecDepth 100000 in
theorem z_X9_cutsScope_52 {X : ZX} {G : ZG}  {x0 : Nat} {x1 : Int32} {x2 : Int32} {x3 : Int32} {x4 : Int32} {x5 : Int32} {s0 : Int32} {K : MK} {N : MK} {I : MI} {L : ML} {R : MR} {C2 : Nat → Int32 → Int32 → Int32 → Prop} {Q : Bool → Prop} (hC : ZOk X G RX9 cX9_cutsScope 8 (some .boolean)) (hRm : X.2.2.2.1 = rm_X9_cutsScope) (hC2 : ∀ (y0 : Nat) (y1 : Int32) (y2 : Int32) (y3 : Int32) , C2 y0 y1 y2 y3 → Z X G 8 0 0 (z_T X G (qPz K N I L R Q) 0 0) K N I L R 2 [(0, .ref y0), (1, .int y1), (2, .int y2), (3, .int y3)] []) (h : w_X9_cutsScope_52 x0 x1 x2 x3 x4 x5 s0 K N I L R C2 Q) : Z X G 8 0 0 (z_T X G (qPz K N I L R Q) 0 0) K N I L R 52 [(0, .ref x0), (1, .int x1), (2, .int x2), (3, .int x3), (4, .int x4), (5, .int x5)] [.int s0] := by
  delta w_X9_cutsScope_52 at h
  refine z_istore hC (lv1 := [(6, .int s0), (0, .ref x0), (1, .int x1), (2, .int x2), (3, .int x3), (4, .int x4), (5, .int x5)]) dX9_cutsScope_52 (by decide) rfl ?_
  refine z_iload hC (q := 5) dX9_cutsScope_54 rfl ?_
  refine z_iload_n hC (q := 2) dX9_cutsScope_56 rfl rfl ?_
  refine z_icmp_gt hC (tgt := 66) dX9_cutsScope_57 (by decide) (fun hc => ?_) (fun hc => ?_)
  · have h := h.1 hc
    exact z_sub [(0, .ref x0), (1, .int x1), (2, .int x2), (3, .int x3), (4, .int x4), (5, .int x5), (6, .int s0)] [1, 2, 3, 4, 5, 6, 0] rfl (z_X9_cutsScope_66 hC hRm hC2 h)
  · have h := h.2 hc
    refine z_iload_n hC (q := 3) dX9_cutsScope_60 rfl rfl ?_
    refine z_iload hC (q := 6) dX9_cutsScope_61 rfl ?_
    refine z_icmp_le hC (tgt := 78) dX9_cutsScope_63 (by decide) (fun hc => ?_) (fun hc => ?_)
    · have h := h.1 hc
      refine z_iconst hC (v := 1) k_iconst_1 dX9_cutsScope_78 ?_
      refine z_goto hC (tgt := 83) dX9_cutsScope_79 (by decide) ?_
      refine z_istore hC (lv1 := [(7, .int 1), (6, .int s0), (0, .ref x0), (1, .int x1), (2, .int x2), (3, .int x3), (4, .int x4), (5, .int x5)]) dX9_cutsScope_83 (by decide) rfl ?_
      refine z_iload hC (q := 1) dX9_cutsScope_85 rfl ?_
      refine z_if_ne hC (tgt := 97) dX9_cutsScope_87 (by decide) (fun hc => ?_) (fun hc => ?_)
      · have h := h.1 hc
        obtain ⟨v10, ev10⟩ : ∃ y : Int32, y = x3 + 1 := ⟨_, rfl⟩
        have h := h v10 ev10
        refine z_iinc hC (q := 5) (v := v10) (lv1 := [(3, .int v10), (7, .int 1), (6, .int s0), (0, .ref x0), (1, .int x1), (2, .int x2), (4, .int x4), (5, .int x5)]) dX9_cutsScope_97 rfl (by rw [ev10, k_iinc_1]) (by decide) rfl ?_
        refine z_goto hC (tgt := 2) dX9_cutsScope_100 (by decide) ?_
        exact z_sub [(0, .ref x0), (1, .int x1), (2, .int x2), (3, .int v10)] [3, 4, 5, 0] rfl (hC2 _ _ _ _ h)
      · have h := h.2 hc
        refine z_iload hC (q := 0) dX9_cutsScope_90 rfl ?_
        refine z_if_ne hC (tgt := 97) dX9_cutsScope_92 (by decide) (fun _ => ?_) (fun hc => absurd hc (by decide))
        obtain ⟨v11, ev11⟩ : ∃ y : Int32, y = x3 + 1 := ⟨_, rfl⟩
        have h := h v11 ev11
        refine z_iinc hC (q := 5) (v := v11) (lv1 := [(3, .int v11), (7, .int 1), (6, .int s0), (0, .ref x0), (1, .int x1), (2, .int x2), (4, .int x4), (5, .int x5)]) dX9_cutsScope_97 rfl (by rw [ev11, k_iinc_1]) (by decide) rfl ?_
        refine z_goto hC (tgt := 2) dX9_cutsScope_100 (by decide) ?_
        exact z_sub [(0, .ref x0), (1, .int x1), (2, .int x2), (3, .int v11)] [3, 4, 5, 0] rfl (hC2 _ _ _ _ h)
    · have h := h.2 hc
      exact z_sub [(0, .ref x0), (1, .int x1), (2, .int x2), (3, .int x3), (4, .int x4), (5, .int x5), (6, .int s0)] [1, 2, 3, 4, 5, 6, 0] rfl (z_X9_cutsScope_66 hC hRm hC2 h)
set_option maxHeartbeats 4000000 in
set_option maxRecDepth 100000 in
theorem z_X9_cutsScope_47 {X : ZX} {G : ZG}  {x0 : Nat} {x1 : Int32} {x2 : Int32} {x3 : Int32} {x4 : Int32} {x5 : Int32}  {K : MK} {N : MK} {I : MI} {L : ML} {R : MR} {C2 : Nat → Int32 → Int32 → Int32 → Prop} {Q : Bool → Prop} (hC : ZOk X G RX9 cX9_cutsScope 8 (some .boolean)) (hRm : X.2.2.2.1 = rm_X9_cutsScope) (hC2 : ∀ (y0 : Nat) (y1 : Int32) (y2 : Int32) (y3 : Int32) , C2 y0 y1 y2 y3 → Z X G 8 0 0 (z_T X G (qPz K N I L R Q) 0 0) K N I L R 2 [(0, .ref y0), (1, .int y1), (2, .int y2), (3, .int y3)] []) (h : w_X9_cutsScope_47 x0 x1 x2 x3 x4 x5 K N I L R C2 Q) : Z X G 8 0 0 (z_T X G (qPz K N I L R Q) 0 0) K N I L R 47 [(0, .ref x0), (1, .int x1), (2, .int x2), (3, .int x3), (4, .int x4), (5, .int x5)] [] := by
  delta w_X9_cutsScope_47 at h
  refine z_iconst hC (v := 1) k_iconst_1 dX9_cutsScope_47 ?_
  refine z_goto hC (tgt := 52) dX9_cutsScope_48 (by decide) ?_
  exact z_sub [(0, .ref x0), (1, .int x1), (2, .int x2), (3, .int x3), (4, .int x4), (5, .int x5)] [0, 1, 2, 3, 4, 5] rfl (z_X9_cutsScope_52 hC hRm hC2 h)
set_option maxHeartbeats 4000000 in
set_option maxRecDepth 100000 in
theorem z_X9_cutsScope_2 {X : ZX} {G : ZG}  {x0 : Nat} {x1 : Int32} {x2 : Int32} {x3 : Int32}  {K : MK} {N : MK} {I : MI} {L : ML} {R : MR}  {Q : Bool → Prop} (hC : ZOk X G RX9 cX9_cutsScope 8 (some .boolean)) (hRm : X.2.2.2.1 = rm_X9_cutsScope) (h : w_X9_cutsScope_2 x0 x1 x2 x3 K N I L R  Q) : Z X G 8 0 0 (z_T X G (qPz K N I L R Q) 0 0) K N I L R 2 [(0, .ref x0), (1, .int x1), (2, .int x2), (3, .int x3)] [] := by
  delta w_X9_cutsScope_2 at h
  obtain ⟨J, ⟨n, h0⟩, hs⟩ := h
  have key : ∀ (n : Nat) (x0 : Nat) (x1 : Int32) (x2 : Int32) (x3 : Int32), J n x0 x1 x2 x3 → Z X G 8 0 0 (z_T X G (qPz K N I L R Q) 0 0) K N I L R 2 [(0, .ref x0), (1, .int x1), (2, .int x2), (3, .int x3)] [] := by
    intro n
    induction n using Nat.strongRecOn with
    | _ n ih =>
      intro x0 x1 x2 x3 hJ
      have hC2 : ∀ (y0 : Nat) (y1 : Int32) (y2 : Int32) (y3 : Int32) , (∃ n1, n1 < n ∧ J n1 y0 y1 y2 y3) → Z X G 8 0 0 (z_T X G (qPz K N I L R Q) 0 0) K N I L R 2 [(0, .ref y0), (1, .int y1), (2, .int y2), (3, .int y3)] [] := fun y0 y1 y2 y3 ⟨n1, hn1, hj⟩ => ih n1 hn1 y0 y1 y2 y3 hj
      have h := hs n x0 x1 x2 x3 hJ
      refine z_iload_n hC (q := 3) dX9_cutsScope_2 rfl rfl ?_
      refine z_aload_n hC (q := 0) dX9_cutsScope_3 rfl rfl ?_
      obtain ⟨hk1, h⟩ := h
      obtain ⟨b2, hb2, h⟩ := h
      refine gf_RX9_24 hC dX9_cutsScope_4 hk1 hb2 ?_
      obtain ⟨hk3, h⟩ := h
      refine gf_RX9_50 hC dX9_cutsScope_7 hk3 ?_
      refine z_icmp_ge hC (tgt := 103) dX9_cutsScope_10 (by decide) (fun hc => ?_) (fun hc => ?_)
      · have h := h.1 hc
        refine z_iconst hC (v := 0) k_iconst_0 dX9_cutsScope_103 ?_
        exact z_zret (b := false) hC dX9_cutsScope_104 rfl ⟨false, rfl, rfl, rfl, rfl, rfl, rfl, h⟩
      · have h := h.2 hc
        refine z_aload_n hC (q := 0) dX9_cutsScope_13 rfl rfl ?_
        refine gf_RX9_24 hC dX9_cutsScope_14 hk1 hb2 ?_
        refine z_iload_n hC (q := 3) dX9_cutsScope_17 rfl rfl ?_
        refine z_iconst hC (v := 0) k_iconst_0 dX9_cutsScope_18 ?_
        refine cl_RX9_53 hC (c_X7_at _ G b2 x3 0 K N I L R _ h) hk3 dX9_cutsScope_19 (by rw [hRm]; exact ⟨Nat.le_of_ble_eq_true rfl, Nat.le_of_ble_eq_true rfl⟩) ⟨Nat.zero_le _, Nat.zero_le _⟩ (Nat.le_of_ble_eq_true rfl) (z_kPi (fun r4 h => ?_))
        refine z_istore hC (lv1 := [(4, .int r4), (0, .ref x0), (1, .int x1), (2, .int x2), (3, .int x3)]) dX9_cutsScope_22 (by decide) rfl ?_
        refine z_aload_n hC (q := 1) dX9_cutsScope_24 rfl rfl ?_
        refine gf_RX9_24 hC dX9_cutsScope_25 hk1 hb2 ?_
        refine z_iload_n hC (q := 4) dX9_cutsScope_28 rfl rfl ?_
        refine z_iconst hC (v := 1) k_iconst_1 dX9_cutsScope_29 ?_
        refine cl_RX9_53 hC (c_X7_at _ G b2 x3 1 K N I L R _ h) hk3 dX9_cutsScope_30 (by rw [hRm]; exact ⟨Nat.le_of_ble_eq_true rfl, Nat.le_of_ble_eq_true rfl⟩) ⟨Nat.zero_le _, Nat.zero_le _⟩ (Nat.le_of_ble_eq_true rfl) (z_kPi (fun r5 h => ?_))
        refine z_istore hC (lv1 := [(5, .int r5), (4, .int r4), (0, .ref x0), (1, .int x1), (2, .int x2), (3, .int x3)]) dX9_cutsScope_33 (by decide) rfl ?_
        refine z_iload_n hC (q := 4) dX9_cutsScope_35 rfl rfl ?_
        refine z_iload hC (q := 1) dX9_cutsScope_36 rfl ?_
        refine z_icmp_le hC (tgt := 47) dX9_cutsScope_38 (by decide) (fun hc => ?_) (fun hc => ?_)
        · have h := h.1 hc
          exact z_sub [(0, .ref x0), (1, .int x1), (2, .int x2), (3, .int x3), (4, .int r4), (5, .int r5)] [2, 3, 4, 5, 1, 0] rfl (z_X9_cutsScope_47 hC hRm hC2 h)
        · have h := h.2 hc
          refine z_iload hC (q := 0) dX9_cutsScope_41 rfl ?_
          refine z_iload_n hC (q := 3) dX9_cutsScope_43 rfl rfl ?_
          refine z_icmp_gt hC (tgt := 51) dX9_cutsScope_44 (by decide) (fun hc => ?_) (fun hc => ?_)
          · have h := h.1 hc
            refine z_iconst hC (v := 0) k_iconst_0 dX9_cutsScope_51 ?_
            exact z_sub [(0, .ref x0), (1, .int x1), (2, .int x2), (3, .int x3), (4, .int r4), (5, .int r5)] [2, 3, 4, 5, 1, 0] rfl (z_X9_cutsScope_52 hC hRm hC2 h)
          · have h := h.2 hc
            exact z_sub [(0, .ref x0), (1, .int x1), (2, .int x2), (3, .int x3), (4, .int r4), (5, .int r5)] [2, 3, 4, 5, 1, 0] rfl (z_X9_cutsScope_47 hC hRm hC2 h)
  exact key n x0 x1 x2 x3 h0
set_option maxHeartbeats 4000000 in
set_option maxRecDepth 100000 in
theorem c_X9_cutsScope  (l : Launch) (G : ZG) (a0 : Nat) (a1 : Int32) (a2 : Int32) (K : MK) (N : MK) (I : MI) (L : ML) (R : MR) (Q : Bool → Prop) (h : w_X9_cutsScope a0 a1 a2 K N I L R Q) : Met l yX9_cutsScope (.code yX9_cutsScope cX9_cutsScope 8 (some .boolean) :: z_tbl) rm_X9_cutsScope (z_Pc G [.ref a0, .int a1, .int a2] K N I L R) (z_Qc G (qPz K N I L R Q)) 0 0 (z_A G) := by
  refine z_met (by decide) (Nat.le_of_ble_eq_true rfl) (fun X hX hRm hC0 hnm => ?_)
  subst hX
  have hC : ZOk X G RX9 cX9_cutsScope 8 (some .boolean) := hC0
  show Z X G 8 0 0 _ K N I L R 0 [(0, .ref a0), (1, .int a1), (2, .int a2)] []
  delta w_X9_cutsScope at h
  refine z_iconst hC (v := 0) k_iconst_0 dX9_cutsScope_0 ?_
  refine z_istore_n hC (lv1 := [(3, .int 0), (0, .ref a0), (1, .int a1), (2, .int a2)]) dX9_cutsScope_1 rfl (by decide) rfl ?_
  exact z_sub [(0, .ref a0), (1, .int a1), (2, .int a2), (3, .int 0)] [1, 2, 3, 0] rfl (z_X9_cutsScope_2 hC hRm h)
def w_X9_varsOf_4  (x0 : Nat) (x1 : Int32) (x2 : Int32) (x3 : Int32)  (K : MK) (N : MK) (I : MI) (L : ML) (R : MR)  (Q : Int32 → Prop) : Prop := ∃ J : Nat → Nat → Int32 → Int32 → Int32 → Prop, (∃ n, J n x0 x1 x2 x3) ∧ ∀ (n : Nat) (x0 : Nat) (x1 : Int32) (x2 : Int32) (x3 : Int32), J n x0 x1 x2 x3 → K x0 = 10 ∧ ∃ b2 : Nat, R x0 4 = some b2 ∧ K b2 = 8 ∧ ((I b2 3) ≤ x3 → Q x2) ∧ (¬ (I b2 3) ≤ x3 → w_X7_at b2 x3 0 K N I L R (fun r4 => (¬ r4 = x1 → ∀ v5 : Int32, v5 = x3 + 1 → ∃ n1, n1 < n ∧ J n1 x0 x1 x2 v5) ∧ (r4 = x1 → ∀ v6 : Int32, v6 = (x2 ||| ((1 : Int32) <<< (x3 &&& 31))) → ∀ v7 : Int32, v7 = x3 + 1 → ∃ n1, n1 < n ∧ J n1 x0 x1 v6 v7)))
def w_X9_varsOf  (a0 : Nat) (a1 : Int32) (K : MK) (N : MK) (I : MI) (L : ML) (R : MR) (Q : Int32 → Prop) : Prop := w_X9_varsOf_4 a0 a1 0 0 K N I L R Q
set_option maxHeartbeats 4000000 in
set_option maxRecDepth 100000 in
theorem z_X9_varsOf_4 {X : ZX} {G : ZG}  {x0 : Nat} {x1 : Int32} {x2 : Int32} {x3 : Int32}  {K : MK} {N : MK} {I : MI} {L : ML} {R : MR}  {Q : Int32 → Prop} (hC : ZOk X G RX9 cX9_varsOf 4 (some .int)) (hRm : X.2.2.2.1 = rm_X9_varsOf) (h : w_X9_varsOf_4 x0 x1 x2 x3 K N I L R  Q) : Z X G 4 0 0 (z_T X G (qPi K N I L R Q) 0 0) K N I L R 4 [(0, .ref x0), (1, .int x1), (2, .int x2), (3, .int x3)] [] := by
  delta w_X9_varsOf_4 at h
  obtain ⟨J, ⟨n, h0⟩, hs⟩ := h
  have key : ∀ (n : Nat) (x0 : Nat) (x1 : Int32) (x2 : Int32) (x3 : Int32), J n x0 x1 x2 x3 → Z X G 4 0 0 (z_T X G (qPi K N I L R Q) 0 0) K N I L R 4 [(0, .ref x0), (1, .int x1), (2, .int x2), (3, .int x3)] [] := by
    intro n
    induction n using Nat.strongRecOn with
    | _ n ih =>
      intro x0 x1 x2 x3 hJ
      have hC4 : ∀ (y0 : Nat) (y1 : Int32) (y2 : Int32) (y3 : Int32) , (∃ n1, n1 < n ∧ J n1 y0 y1 y2 y3) → Z X G 4 0 0 (z_T X G (qPi K N I L R Q) 0 0) K N I L R 4 [(0, .ref y0), (1, .int y1), (2, .int y2), (3, .int y3)] [] := fun y0 y1 y2 y3 ⟨n1, hn1, hj⟩ => ih n1 hn1 y0 y1 y2 y3 hj
      have h := hs n x0 x1 x2 x3 hJ
      refine z_iload_n hC (q := 3) dX9_varsOf_4 rfl rfl ?_
      refine z_aload_n hC (q := 0) dX9_varsOf_5 rfl rfl ?_
      obtain ⟨hk1, h⟩ := h
      obtain ⟨b2, hb2, h⟩ := h
      refine gf_RX9_30 hC dX9_varsOf_6 hk1 hb2 ?_
      obtain ⟨hk3, h⟩ := h
      refine gf_RX9_50 hC dX9_varsOf_9 hk3 ?_
      refine z_icmp_ge hC (tgt := 40) dX9_varsOf_12 (by decide) (fun hc => ?_) (fun hc => ?_)
      · have h := h.1 hc
        refine z_iload_n hC (q := 2) dX9_varsOf_40 rfl rfl ?_
        exact z_iret hC dX9_varsOf_41 ⟨_, rfl, rfl, rfl, rfl, rfl, rfl, h⟩
      · have h := h.2 hc
        refine z_aload_n hC (q := 0) dX9_varsOf_15 rfl rfl ?_
        refine gf_RX9_30 hC dX9_varsOf_16 hk1 hb2 ?_
        refine z_iload_n hC (q := 3) dX9_varsOf_19 rfl rfl ?_
        refine z_iconst hC (v := 0) k_iconst_0 dX9_varsOf_20 ?_
        refine cl_RX9_53 hC (c_X7_at _ G b2 x3 0 K N I L R _ h) hk3 dX9_varsOf_21 (by rw [hRm]; exact ⟨Nat.le_of_ble_eq_true rfl, Nat.le_of_ble_eq_true rfl⟩) ⟨Nat.zero_le _, Nat.zero_le _⟩ (Nat.le_of_ble_eq_true rfl) (z_kPi (fun r4 h => ?_))
        refine z_iload_n hC (q := 1) dX9_varsOf_24 rfl rfl ?_
        refine z_icmp_ne hC (tgt := 34) dX9_varsOf_25 (by decide) (fun hc => ?_) (fun hc => ?_)
        · have h := h.1 hc
          obtain ⟨v5, ev5⟩ : ∃ y : Int32, y = x3 + 1 := ⟨_, rfl⟩
          have h := h v5 ev5
          refine z_iinc hC (q := 3) (v := v5) (lv1 := [(3, .int v5), (0, .ref x0), (1, .int x1), (2, .int x2)]) dX9_varsOf_34 rfl (by rw [ev5, k_iinc_1]) (by decide) rfl ?_
          refine z_goto hC (tgt := 4) dX9_varsOf_37 (by decide) ?_
          exact z_sub [(0, .ref x0), (1, .int x1), (2, .int x2), (3, .int v5)] [1, 2, 3, 0] rfl (hC4 _ _ _ _ h)
        · have h := h.2 hc
          refine z_iload_n hC (q := 2) dX9_varsOf_28 rfl rfl ?_
          refine z_iconst hC (v := 1) k_iconst_1 dX9_varsOf_29 ?_
          refine z_iload_n hC (q := 3) dX9_varsOf_30 rfl rfl ?_
          refine z_ishl hC dX9_varsOf_31 ?_
          refine z_ior hC dX9_varsOf_32 ?_
          refine z_topi (fun v6 ev6 => ?_)
          have h := h v6 ev6
          refine z_istore_n hC (lv1 := [(2, .int v6), (0, .ref x0), (1, .int x1), (3, .int x3)]) dX9_varsOf_33 rfl (by decide) rfl ?_
          obtain ⟨v7, ev7⟩ : ∃ y : Int32, y = x3 + 1 := ⟨_, rfl⟩
          have h := h v7 ev7
          refine z_iinc hC (q := 3) (v := v7) (lv1 := [(3, .int v7), (2, .int v6), (0, .ref x0), (1, .int x1)]) dX9_varsOf_34 rfl (by rw [ev7, k_iinc_1]) (by decide) rfl ?_
          refine z_goto hC (tgt := 4) dX9_varsOf_37 (by decide) ?_
          exact z_sub [(0, .ref x0), (1, .int x1), (2, .int v6), (3, .int v7)] [2, 3, 1, 0] rfl (hC4 _ _ _ _ h)
  exact key n x0 x1 x2 x3 h0
set_option maxHeartbeats 4000000 in
set_option maxRecDepth 100000 in
theorem c_X9_varsOf  (l : Launch) (G : ZG) (a0 : Nat) (a1 : Int32) (K : MK) (N : MK) (I : MI) (L : ML) (R : MR) (Q : Int32 → Prop) (h : w_X9_varsOf a0 a1 K N I L R Q) : Met l yX9_varsOf (.code yX9_varsOf cX9_varsOf 4 (some .int) :: z_tbl) rm_X9_varsOf (z_Pc G [.ref a0, .int a1] K N I L R) (z_Qc G (qPi K N I L R Q)) 0 0 (z_A G) := by
  refine z_met (by decide) (Nat.le_of_ble_eq_true rfl) (fun X hX hRm hC0 hnm => ?_)
  subst hX
  have hC : ZOk X G RX9 cX9_varsOf 4 (some .int) := hC0
  show Z X G 4 0 0 _ K N I L R 0 [(0, .ref a0), (1, .int a1)] []
  delta w_X9_varsOf at h
  refine z_iconst hC (v := 0) k_iconst_0 dX9_varsOf_0 ?_
  refine z_istore_n hC (lv1 := [(2, .int 0), (0, .ref a0), (1, .int a1)]) dX9_varsOf_1 rfl (by decide) rfl ?_
  refine z_iconst hC (v := 0) k_iconst_0 dX9_varsOf_2 ?_
  refine z_istore_n hC (lv1 := [(3, .int 0), (2, .int 0), (0, .ref a0), (1, .int a1)]) dX9_varsOf_3 rfl (by decide) rfl ?_
  exact z_sub [(0, .ref a0), (1, .int a1), (2, .int 0), (3, .int 0)] [2, 3, 1, 0] rfl (z_X9_varsOf_4 hC hRm h)
def w_X9_isPlaceTaken_89  (x0 : Nat) (x1 : Int32) (x2 : Int32) (x3 : Int32) (x5 : Int32) (s0 : Int32) (K : MK) (N : MK) (I : MI) (L : ML) (R : MR) (C44 : Nat → Int32 → Int32 → Int32 → Int32 → Prop) (Q : Bool → Prop) : Prop := K x0 = 10 ∧ ∃ b14 : Nat, R x0 5 = some b14 ∧ K b14 = 8 ∧ w_X7_at b14 x5 2 K N I L R (fun r16 => (¬ r16 = x1 → ∀ v17 : Int32, v17 = x5 + 1 → C44 x0 x1 x2 x3 v17) ∧ (r16 = x1 → (¬ s0 = 0 → ∀ v18 : Int32, v18 = x5 + 1 → C44 x0 x1 x2 x3 v18) ∧ (s0 = 0 → Q true)))
def w_X9_isPlaceTaken_84  (x0 : Nat) (x1 : Int32) (x2 : Int32) (x3 : Int32) (x5 : Int32)  (K : MK) (N : MK) (I : MI) (L : ML) (R : MR) (C44 : Nat → Int32 → Int32 → Int32 → Int32 → Prop) (Q : Bool → Prop) : Prop := w_X9_isPlaceTaken_89 x0 x1 x2 x3 x5 1 K N I L R C44 Q
def w_X9_isPlaceTaken_44  (x0 : Nat) (x1 : Int32) (x2 : Int32) (x3 : Int32) (x5 : Int32)  (K : MK) (N : MK) (I : MI) (L : ML) (R : MR)  (Q : Bool → Prop) : Prop := ∃ J : Nat → Nat → Int32 → Int32 → Int32 → Int32 → Prop, (∃ n, J n x0 x1 x2 x3 x5) ∧ ∀ (n : Nat) (x0 : Nat) (x1 : Int32) (x2 : Int32) (x3 : Int32) (x5 : Int32), J n x0 x1 x2 x3 x5 → K x0 = 10 ∧ ∃ b10 : Nat, R x0 5 = some b10 ∧ K b10 = 8 ∧ ((I b10 3) ≤ x5 → Q false) ∧ (¬ (I b10 3) ≤ x5 → w_X7_at b10 x5 0 K N I L R (fun r12 => (x3 ≤ r12 → w_X9_isPlaceTaken_84 x0 x1 x2 x3 x5 K N I L R (fun y0 y1 y2 y3 y4 => ∃ n1, n1 < n ∧ J n1 y0 y1 y2 y3 y4) Q) ∧ (¬ x3 ≤ r12 → w_X7_at b10 x5 1 K N I L R (fun r19 => (x2 < r19 → w_X9_isPlaceTaken_89 x0 x1 x2 x3 x5 0 K N I L R (fun y0 y1 y2 y3 y4 => ∃ n1, n1 < n ∧ J n1 y0 y1 y2 y3 y4) Q) ∧ (¬ x2 < r19 → w_X9_isPlaceTaken_84 x0 x1 x2 x3 x5 K N I L R (fun y0 y1 y2 y3 y4 => ∃ n1, n1 < n ∧ J n1 y0 y1 y2 y3 y4) Q)))))
def w_X9_isPlaceTaken  (a0 : Nat) (a1 : Int32) (a2 : Int32) (a3 : Int32) (K : MK) (N : MK) (I : MI) (L : ML) (R : MR) (Q : Bool → Prop) : Prop := K a0 = 10 ∧ ∃ b2 : Nat, R a0 4 = some b2 ∧ K b2 = 8 ∧ w_X7_at b2 a1 0 K N I L R (fun r4 => ∃ b5 : Nat, R a0 2 = some b5 ∧ K b5 = 8 ∧ w_X7_at b5 r4 0 K N I L R (fun r7 => (a2 < r7 → Q true) ∧ (¬ a2 < r7 → w_X7_at b5 r4 1 K N I L R (fun r8 => (a3 ≤ r8 → w_X9_isPlaceTaken_44 a0 a1 a2 a3 0 K N I L R Q) ∧ (¬ a3 ≤ r8 → Q true)))))
set_option maxHeartbeats 4000000 in
set_option maxRecDepth 100000 in
theorem z_X9_isPlaceTaken_89 {X : ZX} {G : ZG}  {x0 : Nat} {x1 : Int32} {x2 : Int32} {x3 : Int32} {x5 : Int32} {s0 : Int32} {K : MK} {N : MK} {I : MI} {L : ML} {R : MR} {C44 : Nat → Int32 → Int32 → Int32 → Int32 → Prop} {Q : Bool → Prop} (hC : ZOk X G RX9 cX9_isPlaceTaken 7 (some .boolean)) (hRm : X.2.2.2.1 = rm_X9_isPlaceTaken) (hC44 : ∀ (y0 : Nat) (y1 : Int32) (y2 : Int32) (y3 : Int32) (y4 : Int32) , C44 y0 y1 y2 y3 y4 → Z X G 7 0 0 (z_T X G (qPz K N I L R Q) 0 0) K N I L R 44 [(0, .ref y0), (1, .int y1), (2, .int y2), (3, .int y3), (5, .int y4)] []) (h : w_X9_isPlaceTaken_89 x0 x1 x2 x3 x5 s0 K N I L R C44 Q) : Z X G 7 0 0 (z_T X G (qPz K N I L R Q) 0 0) K N I L R 89 [(0, .ref x0), (1, .int x1), (2, .int x2), (3, .int x3), (5, .int x5)] [.int s0] := by
  delta w_X9_isPlaceTaken_89 at h
  refine z_istore hC (lv1 := [(6, .int s0), (0, .ref x0), (1, .int x1), (2, .int x2), (3, .int x3), (5, .int x5)]) dX9_isPlaceTaken_89 (by decide) rfl ?_
  refine z_aload_n hC (q := 1) dX9_isPlaceTaken_91 rfl rfl ?_
  obtain ⟨hk13, h⟩ := h
  obtain ⟨b14, hb14, h⟩ := h
  refine gf_RX9_33 hC dX9_isPlaceTaken_92 hk13 hb14 ?_
  refine z_iload hC (q := 5) dX9_isPlaceTaken_95 rfl ?_
  refine z_iconst hC (v := 2) k_iconst_2 dX9_isPlaceTaken_97 ?_
  obtain ⟨hk15, h⟩ := h
  refine cl_RX9_53 hC (c_X7_at _ G b14 x5 2 K N I L R _ h) hk15 dX9_isPlaceTaken_98 (by rw [hRm]; exact ⟨Nat.le_of_ble_eq_true rfl, Nat.le_of_ble_eq_true rfl⟩) ⟨Nat.zero_le _, Nat.zero_le _⟩ (Nat.le_of_ble_eq_true rfl) (z_kPi (fun r16 h => ?_))
  refine z_iload_n hC (q := 2) dX9_isPlaceTaken_101 rfl rfl ?_
  refine z_icmp_ne hC (tgt := 112) dX9_isPlaceTaken_102 (by decide) (fun hc => ?_) (fun hc => ?_)
  · have h := h.1 hc
    obtain ⟨v17, ev17⟩ : ∃ y : Int32, y = x5 + 1 := ⟨_, rfl⟩
    have h := h v17 ev17
    refine z_iinc hC (q := 5) (v := v17) (lv1 := [(5, .int v17), (6, .int s0), (0, .ref x0), (1, .int x1), (2, .int x2), (3, .int x3)]) dX9_isPlaceTaken_112 rfl (by rw [ev17, k_iinc_1]) (by decide) rfl ?_
    refine z_goto hC (tgt := 44) dX9_isPlaceTaken_115 (by decide) ?_
    exact z_sub [(0, .ref x0), (1, .int x1), (2, .int x2), (3, .int x3), (5, .int v17)] [2, 3, 4, 5, 0] rfl (hC44 _ _ _ _ _ h)
  · have h := h.2 hc
    refine z_iload hC (q := 0) dX9_isPlaceTaken_105 rfl ?_
    refine z_if_ne hC (tgt := 112) dX9_isPlaceTaken_107 (by decide) (fun hc => ?_) (fun hc => ?_)
    · have h := h.1 hc
      obtain ⟨v18, ev18⟩ : ∃ y : Int32, y = x5 + 1 := ⟨_, rfl⟩
      have h := h v18 ev18
      refine z_iinc hC (q := 5) (v := v18) (lv1 := [(5, .int v18), (6, .int s0), (0, .ref x0), (1, .int x1), (2, .int x2), (3, .int x3)]) dX9_isPlaceTaken_112 rfl (by rw [ev18, k_iinc_1]) (by decide) rfl ?_
      refine z_goto hC (tgt := 44) dX9_isPlaceTaken_115 (by decide) ?_
      exact z_sub [(0, .ref x0), (1, .int x1), (2, .int x2), (3, .int x3), (5, .int v18)] [2, 3, 4, 5, 0] rfl (hC44 _ _ _ _ _ h)
    · have h := h.2 hc
      refine z_iconst hC (v := 1) k_iconst_1 dX9_isPlaceTaken_110 ?_
      exact z_zret (b := true) hC dX9_isPlaceTaken_111 rfl ⟨true, rfl, rfl, rfl, rfl, rfl, rfl, h⟩
set_option maxHeartbeats 4000000 in
set_option maxRecDepth 100000 in
theorem z_X9_isPlaceTaken_84 {X : ZX} {G : ZG}  {x0 : Nat} {x1 : Int32} {x2 : Int32} {x3 : Int32} {x5 : Int32}  {K : MK} {N : MK} {I : MI} {L : ML} {R : MR} {C44 : Nat → Int32 → Int32 → Int32 → Int32 → Prop} {Q : Bool → Prop} (hC : ZOk X G RX9 cX9_isPlaceTaken 7 (some .boolean)) (hRm : X.2.2.2.1 = rm_X9_isPlaceTaken) (hC44 : ∀ (y0 : Nat) (y1 : Int32) (y2 : Int32) (y3 : Int32) (y4 : Int32) , C44 y0 y1 y2 y3 y4 → Z X G 7 0 0 (z_T X G (qPz K N I L R Q) 0 0) K N I L R 44 [(0, .ref y0), (1, .int y1), (2, .int y2), (3, .int y3), (5, .int y4)] []) (h : w_X9_isPlaceTaken_84 x0 x1 x2 x3 x5 K N I L R C44 Q) : Z X G 7 0 0 (z_T X G (qPz K N I L R Q) 0 0) K N I L R 84 [(0, .ref x0), (1, .int x1), (2, .int x2), (3, .int x3), (5, .int x5)] [] := by
  delta w_X9_isPlaceTaken_84 at h
  refine z_iconst hC (v := 1) k_iconst_1 dX9_isPlaceTaken_84 ?_
  refine z_goto hC (tgt := 89) dX9_isPlaceTaken_85 (by decide) ?_
  exact z_sub [(0, .ref x0), (1, .int x1), (2, .int x2), (3, .int x3), (5, .int x5)] [0, 1, 2, 3, 4] rfl (z_X9_isPlaceTaken_89 hC hRm hC44 h)
set_option maxHeartbeats 4000000 in
set_option maxRecDepth 100000 in
theorem z_X9_isPlaceTaken_44 {X : ZX} {G : ZG}  {x0 : Nat} {x1 : Int32} {x2 : Int32} {x3 : Int32} {x5 : Int32}  {K : MK} {N : MK} {I : MI} {L : ML} {R : MR}  {Q : Bool → Prop} (hC : ZOk X G RX9 cX9_isPlaceTaken 7 (some .boolean)) (hRm : X.2.2.2.1 = rm_X9_isPlaceTaken) (h : w_X9_isPlaceTaken_44 x0 x1 x2 x3 x5 K N I L R  Q) : Z X G 7 0 0 (z_T X G (qPz K N I L R Q) 0 0) K N I L R 44 [(0, .ref x0), (1, .int x1), (2, .int x2), (3, .int x3), (5, .int x5)] [] := by
  delta w_X9_isPlaceTaken_44 at h
  obtain ⟨J, ⟨n, h0⟩, hs⟩ := h
  have key : ∀ (n : Nat) (x0 : Nat) (x1 : Int32) (x2 : Int32) (x3 : Int32) (x5 : Int32), J n x0 x1 x2 x3 x5 → Z X G 7 0 0 (z_T X G (qPz K N I L R Q) 0 0) K N I L R 44 [(0, .ref x0), (1, .int x1), (2, .int x2), (3, .int x3), (5, .int x5)] [] := by
    intro n
    induction n using Nat.strongRecOn with
    | _ n ih =>
      intro x0 x1 x2 x3 x5 hJ
      have hC44 : ∀ (y0 : Nat) (y1 : Int32) (y2 : Int32) (y3 : Int32) (y4 : Int32) , (∃ n1, n1 < n ∧ J n1 y0 y1 y2 y3 y4) → Z X G 7 0 0 (z_T X G (qPz K N I L R Q) 0 0) K N I L R 44 [(0, .ref y0), (1, .int y1), (2, .int y2), (3, .int y3), (5, .int y4)] [] := fun y0 y1 y2 y3 y4 ⟨n1, hn1, hj⟩ => ih n1 hn1 y0 y1 y2 y3 y4 hj
      have h := hs n x0 x1 x2 x3 x5 hJ
      refine z_iload hC (q := 4) dX9_isPlaceTaken_44 rfl ?_
      refine z_aload_n hC (q := 0) dX9_isPlaceTaken_46 rfl rfl ?_
      obtain ⟨hk9, h⟩ := h
      obtain ⟨b10, hb10, h⟩ := h
      refine gf_RX9_33 hC dX9_isPlaceTaken_47 hk9 hb10 ?_
      obtain ⟨hk11, h⟩ := h
      refine gf_RX9_50 hC dX9_isPlaceTaken_50 hk11 ?_
      refine z_icmp_ge hC (tgt := 118) dX9_isPlaceTaken_53 (by decide) (fun hc => ?_) (fun hc => ?_)
      · have h := h.1 hc
        refine z_iconst hC (v := 0) k_iconst_0 dX9_isPlaceTaken_118 ?_
        exact z_zret (b := false) hC dX9_isPlaceTaken_119 rfl ⟨false, rfl, rfl, rfl, rfl, rfl, rfl, h⟩
      · have h := h.2 hc
        refine z_iload_n hC (q := 3) dX9_isPlaceTaken_56 rfl rfl ?_
        refine z_aload_n hC (q := 0) dX9_isPlaceTaken_57 rfl rfl ?_
        refine gf_RX9_33 hC dX9_isPlaceTaken_58 hk9 hb10 ?_
        refine z_iload hC (q := 4) dX9_isPlaceTaken_61 rfl ?_
        refine z_iconst hC (v := 0) k_iconst_0 dX9_isPlaceTaken_63 ?_
        refine cl_RX9_53 hC (c_X7_at _ G b10 x5 0 K N I L R _ h) hk11 dX9_isPlaceTaken_64 (by rw [hRm]; exact ⟨Nat.le_of_ble_eq_true rfl, Nat.le_of_ble_eq_true rfl⟩) ⟨Nat.zero_le _, Nat.zero_le _⟩ (Nat.le_of_ble_eq_true rfl) (z_kPi (fun r12 h => ?_))
        refine z_icmp_le hC (tgt := 84) dX9_isPlaceTaken_67 (by decide) (fun hc => ?_) (fun hc => ?_)
        · have h := h.1 hc
          exact z_sub [(0, .ref x0), (1, .int x1), (2, .int x2), (3, .int x3), (5, .int x5)] [0, 1, 2, 3, 4] rfl (z_X9_isPlaceTaken_84 hC hRm hC44 h)
        · have h := h.2 hc
          refine z_aload_n hC (q := 0) dX9_isPlaceTaken_70 rfl rfl ?_
          refine gf_RX9_33 hC dX9_isPlaceTaken_71 hk9 hb10 ?_
          refine z_iload hC (q := 4) dX9_isPlaceTaken_74 rfl ?_
          refine z_iconst hC (v := 1) k_iconst_1 dX9_isPlaceTaken_76 ?_
          refine cl_RX9_53 hC (c_X7_at _ G b10 x5 1 K N I L R _ h) hk11 dX9_isPlaceTaken_77 (by rw [hRm]; exact ⟨Nat.le_of_ble_eq_true rfl, Nat.le_of_ble_eq_true rfl⟩) ⟨Nat.zero_le _, Nat.zero_le _⟩ (Nat.le_of_ble_eq_true rfl) (z_kPi (fun r19 h => ?_))
          refine z_iload_n hC (q := 2) dX9_isPlaceTaken_80 rfl rfl ?_
          refine z_icmp_gt hC (tgt := 88) dX9_isPlaceTaken_81 (by decide) (fun hc => ?_) (fun hc => ?_)
          · have h := h.1 hc
            refine z_iconst hC (v := 0) k_iconst_0 dX9_isPlaceTaken_88 ?_
            exact z_sub [(0, .ref x0), (1, .int x1), (2, .int x2), (3, .int x3), (5, .int x5)] [0, 1, 2, 3, 4] rfl (z_X9_isPlaceTaken_89 hC hRm hC44 h)
          · have h := h.2 hc
            exact z_sub [(0, .ref x0), (1, .int x1), (2, .int x2), (3, .int x3), (5, .int x5)] [0, 1, 2, 3, 4] rfl (z_X9_isPlaceTaken_84 hC hRm hC44 h)
  exact key n x0 x1 x2 x3 x5 h0
set_option maxHeartbeats 4000000 in
set_option maxRecDepth 100000 in
theorem c_X9_isPlaceTaken  (l : Launch) (G : ZG) (a0 : Nat) (a1 : Int32) (a2 : Int32) (a3 : Int32) (K : MK) (N : MK) (I : MI) (L : ML) (R : MR) (Q : Bool → Prop) (h : w_X9_isPlaceTaken a0 a1 a2 a3 K N I L R Q) : Met l yX9_isPlaceTaken (.code yX9_isPlaceTaken cX9_isPlaceTaken 7 (some .boolean) :: z_tbl) rm_X9_isPlaceTaken (z_Pc G [.ref a0, .int a1, .int a2, .int a3] K N I L R) (z_Qc G (qPz K N I L R Q)) 0 0 (z_A G) := by
  refine z_met (by decide) (Nat.le_of_ble_eq_true rfl) (fun X hX hRm hC0 hnm => ?_)
  subst hX
  have hC : ZOk X G RX9 cX9_isPlaceTaken 7 (some .boolean) := hC0
  show Z X G 7 0 0 _ K N I L R 0 [(0, .ref a0), (1, .int a1), (2, .int a2), (3, .int a3)] []
  delta w_X9_isPlaceTaken at h
  refine z_aload_n hC (q := 0) dX9_isPlaceTaken_0 rfl rfl ?_
  obtain ⟨hk1, h⟩ := h
  obtain ⟨b2, hb2, h⟩ := h
  refine gf_RX9_30 hC dX9_isPlaceTaken_1 hk1 hb2 ?_
  refine z_iload_n hC (q := 1) dX9_isPlaceTaken_4 rfl rfl ?_
  refine z_iconst hC (v := 0) k_iconst_0 dX9_isPlaceTaken_5 ?_
  obtain ⟨hk3, h⟩ := h
  refine cl_RX9_53 hC (c_X7_at _ G b2 a1 0 K N I L R _ h) hk3 dX9_isPlaceTaken_6 (by rw [hRm]; exact ⟨Nat.le_of_ble_eq_true rfl, Nat.le_of_ble_eq_true rfl⟩) ⟨Nat.zero_le _, Nat.zero_le _⟩ (Nat.le_of_ble_eq_true rfl) (z_kPi (fun r4 h => ?_))
  refine z_istore hC (lv1 := [(4, .int r4), (0, .ref a0), (1, .int a1), (2, .int a2), (3, .int a3)]) dX9_isPlaceTaken_9 (by decide) rfl ?_
  refine z_iload_n hC (q := 3) dX9_isPlaceTaken_11 rfl rfl ?_
  refine z_aload_n hC (q := 1) dX9_isPlaceTaken_12 rfl rfl ?_
  obtain ⟨b5, hb5, h⟩ := h
  refine gf_RX9_24 hC dX9_isPlaceTaken_13 hk1 hb5 ?_
  refine z_iload hC (q := 0) dX9_isPlaceTaken_16 rfl ?_
  refine z_iconst hC (v := 0) k_iconst_0 dX9_isPlaceTaken_18 ?_
  obtain ⟨hk6, h⟩ := h
  refine cl_RX9_53 hC (c_X7_at _ G b5 r4 0 K N I L R _ h) hk6 dX9_isPlaceTaken_19 (by rw [hRm]; exact ⟨Nat.le_of_ble_eq_true rfl, Nat.le_of_ble_eq_true rfl⟩) ⟨Nat.zero_le _, Nat.zero_le _⟩ (Nat.le_of_ble_eq_true rfl) (z_kPi (fun r7 h => ?_))
  refine z_icmp_lt hC (tgt := 39) dX9_isPlaceTaken_22 (by decide) (fun hc => ?_) (fun hc => ?_)
  · have h := h.1 hc
    refine z_iconst hC (v := 1) k_iconst_1 dX9_isPlaceTaken_39 ?_
    exact z_zret (b := true) hC dX9_isPlaceTaken_40 rfl ⟨true, rfl, rfl, rfl, rfl, rfl, rfl, h⟩
  · have h := h.2 hc
    refine z_iload_n hC (q := 4) dX9_isPlaceTaken_25 rfl rfl ?_
    refine z_aload_n hC (q := 1) dX9_isPlaceTaken_26 rfl rfl ?_
    refine gf_RX9_24 hC dX9_isPlaceTaken_27 hk1 hb5 ?_
    refine z_iload hC (q := 0) dX9_isPlaceTaken_30 rfl ?_
    refine z_iconst hC (v := 1) k_iconst_1 dX9_isPlaceTaken_32 ?_
    refine cl_RX9_53 hC (c_X7_at _ G b5 r4 1 K N I L R _ h) hk6 dX9_isPlaceTaken_33 (by rw [hRm]; exact ⟨Nat.le_of_ble_eq_true rfl, Nat.le_of_ble_eq_true rfl⟩) ⟨Nat.zero_le _, Nat.zero_le _⟩ (Nat.le_of_ble_eq_true rfl) (z_kPi (fun r8 h => ?_))
    refine z_icmp_le hC (tgt := 41) dX9_isPlaceTaken_36 (by decide) (fun hc => ?_) (fun hc => ?_)
    · have h := h.1 hc
      refine z_iconst hC (v := 0) k_iconst_0 dX9_isPlaceTaken_41 ?_
      refine z_istore hC (lv1 := [(5, .int 0), (4, .int r4), (0, .ref a0), (1, .int a1), (2, .int a2), (3, .int a3)]) dX9_isPlaceTaken_42 (by decide) rfl ?_
      exact z_sub [(0, .ref a0), (1, .int a1), (2, .int a2), (3, .int a3), (5, .int 0)] [2, 3, 4, 5, 0] rfl (z_X9_isPlaceTaken_44 hC hRm h)
    · have h := h.2 hc
      refine z_iconst hC (v := 1) k_iconst_1 dX9_isPlaceTaken_39 ?_
      exact z_zret (b := true) hC dX9_isPlaceTaken_40 rfl ⟨true, rfl, rfl, rfl, rfl, rfl, rfl, h⟩
def w_X9_covered_4  (x0 : Nat) (x1 : Int32) (x2 : Int32) (x3 : Int32)  (K : MK) (N : MK) (I : MI) (L : ML) (R : MR)  (Q : Int32 → Prop) : Prop := ∃ J : Nat → Nat → Int32 → Int32 → Int32 → Prop, (∃ n, J n x0 x1 x2 x3) ∧ ∀ (n : Nat) (x0 : Nat) (x1 : Int32) (x2 : Int32) (x3 : Int32), J n x0 x1 x2 x3 → K x0 = 10 ∧ ∃ b2 : Nat, R x0 5 = some b2 ∧ K b2 = 8 ∧ ((I b2 3) ≤ x3 → Q x2) ∧ (¬ (I b2 3) ≤ x3 → w_X7_at b2 x3 2 K N I L R (fun r4 => (¬ r4 = x1 → ∀ v5 : Int32, v5 = x3 + 1 → ∃ n1, n1 < n ∧ J n1 x0 x1 x2 v5) ∧ (r4 = x1 → w_X7_at b2 x3 1 K N I L R (fun r6 => w_X7_at b2 x3 0 K N I L R (fun r7 => ∀ v8 : Int32, v8 = (x2 + (r6 - r7)) → ∀ v9 : Int32, v9 = x3 + 1 → ∃ n1, n1 < n ∧ J n1 x0 x1 v8 v9)))))
def w_X9_covered  (a0 : Nat) (a1 : Int32) (K : MK) (N : MK) (I : MI) (L : ML) (R : MR) (Q : Int32 → Prop) : Prop := w_X9_covered_4 a0 a1 0 0 K N I L R Q
set_option maxHeartbeats 4000000 in
set_option maxRecDepth 100000 in
theorem z_X9_covered_4 {X : ZX} {G : ZG}  {x0 : Nat} {x1 : Int32} {x2 : Int32} {x3 : Int32}  {K : MK} {N : MK} {I : MI} {L : ML} {R : MR}  {Q : Int32 → Prop} (hC : ZOk X G RX9 cX9_covered 4 (some .int)) (hRm : X.2.2.2.1 = rm_X9_covered) (h : w_X9_covered_4 x0 x1 x2 x3 K N I L R  Q) : Z X G 4 0 0 (z_T X G (qPi K N I L R Q) 0 0) K N I L R 4 [(0, .ref x0), (1, .int x1), (2, .int x2), (3, .int x3)] [] := by
  delta w_X9_covered_4 at h
  obtain ⟨J, ⟨n, h0⟩, hs⟩ := h
  have key : ∀ (n : Nat) (x0 : Nat) (x1 : Int32) (x2 : Int32) (x3 : Int32), J n x0 x1 x2 x3 → Z X G 4 0 0 (z_T X G (qPi K N I L R Q) 0 0) K N I L R 4 [(0, .ref x0), (1, .int x1), (2, .int x2), (3, .int x3)] [] := by
    intro n
    induction n using Nat.strongRecOn with
    | _ n ih =>
      intro x0 x1 x2 x3 hJ
      have hC4 : ∀ (y0 : Nat) (y1 : Int32) (y2 : Int32) (y3 : Int32) , (∃ n1, n1 < n ∧ J n1 y0 y1 y2 y3) → Z X G 4 0 0 (z_T X G (qPi K N I L R Q) 0 0) K N I L R 4 [(0, .ref y0), (1, .int y1), (2, .int y2), (3, .int y3)] [] := fun y0 y1 y2 y3 ⟨n1, hn1, hj⟩ => ih n1 hn1 y0 y1 y2 y3 hj
      have h := hs n x0 x1 x2 x3 hJ
      refine z_iload_n hC (q := 3) dX9_covered_4 rfl rfl ?_
      refine z_aload_n hC (q := 0) dX9_covered_5 rfl rfl ?_
      obtain ⟨hk1, h⟩ := h
      obtain ⟨b2, hb2, h⟩ := h
      refine gf_RX9_33 hC dX9_covered_6 hk1 hb2 ?_
      obtain ⟨hk3, h⟩ := h
      refine gf_RX9_50 hC dX9_covered_9 hk3 ?_
      refine z_icmp_ge hC (tgt := 56) dX9_covered_12 (by decide) (fun hc => ?_) (fun hc => ?_)
      · have h := h.1 hc
        refine z_iload_n hC (q := 2) dX9_covered_56 rfl rfl ?_
        exact z_iret hC dX9_covered_57 ⟨_, rfl, rfl, rfl, rfl, rfl, rfl, h⟩
      · have h := h.2 hc
        refine z_aload_n hC (q := 0) dX9_covered_15 rfl rfl ?_
        refine gf_RX9_33 hC dX9_covered_16 hk1 hb2 ?_
        refine z_iload_n hC (q := 3) dX9_covered_19 rfl rfl ?_
        refine z_iconst hC (v := 2) k_iconst_2 dX9_covered_20 ?_
        refine cl_RX9_53 hC (c_X7_at _ G b2 x3 2 K N I L R _ h) hk3 dX9_covered_21 (by rw [hRm]; exact ⟨Nat.le_of_ble_eq_true rfl, Nat.le_of_ble_eq_true rfl⟩) ⟨Nat.zero_le _, Nat.zero_le _⟩ (Nat.le_of_ble_eq_true rfl) (z_kPi (fun r4 h => ?_))
        refine z_iload_n hC (q := 1) dX9_covered_24 rfl rfl ?_
        refine z_icmp_ne hC (tgt := 50) dX9_covered_25 (by decide) (fun hc => ?_) (fun hc => ?_)
        · have h := h.1 hc
          obtain ⟨v5, ev5⟩ : ∃ y : Int32, y = x3 + 1 := ⟨_, rfl⟩
          have h := h v5 ev5
          refine z_iinc hC (q := 3) (v := v5) (lv1 := [(3, .int v5), (0, .ref x0), (1, .int x1), (2, .int x2)]) dX9_covered_50 rfl (by rw [ev5, k_iinc_1]) (by decide) rfl ?_
          refine z_goto hC (tgt := 4) dX9_covered_53 (by decide) ?_
          exact z_sub [(0, .ref x0), (1, .int x1), (2, .int x2), (3, .int v5)] [1, 2, 3, 0] rfl (hC4 _ _ _ _ h)
        · have h := h.2 hc
          refine z_iload_n hC (q := 2) dX9_covered_28 rfl rfl ?_
          refine z_aload_n hC (q := 0) dX9_covered_29 rfl rfl ?_
          refine gf_RX9_33 hC dX9_covered_30 hk1 hb2 ?_
          refine z_iload_n hC (q := 3) dX9_covered_33 rfl rfl ?_
          refine z_iconst hC (v := 1) k_iconst_1 dX9_covered_34 ?_
          refine cl_RX9_53 hC (c_X7_at _ G b2 x3 1 K N I L R _ h) hk3 dX9_covered_35 (by rw [hRm]; exact ⟨Nat.le_of_ble_eq_true rfl, Nat.le_of_ble_eq_true rfl⟩) ⟨Nat.zero_le _, Nat.zero_le _⟩ (Nat.le_of_ble_eq_true rfl) (z_kPi (fun r6 h => ?_))
          refine z_aload_n hC (q := 0) dX9_covered_38 rfl rfl ?_
          refine gf_RX9_33 hC dX9_covered_39 hk1 hb2 ?_
          refine z_iload_n hC (q := 3) dX9_covered_42 rfl rfl ?_
          refine z_iconst hC (v := 0) k_iconst_0 dX9_covered_43 ?_
          refine cl_RX9_53 hC (c_X7_at _ G b2 x3 0 K N I L R _ h) hk3 dX9_covered_44 (by rw [hRm]; exact ⟨Nat.le_of_ble_eq_true rfl, Nat.le_of_ble_eq_true rfl⟩) ⟨Nat.zero_le _, Nat.zero_le _⟩ (Nat.le_of_ble_eq_true rfl) (z_kPi (fun r7 h => ?_))
          refine z_isub hC dX9_covered_47 ?_
          refine z_iadd hC dX9_covered_48 ?_
          refine z_topi (fun v8 ev8 => ?_)
          have h := h v8 ev8
          refine z_istore_n hC (lv1 := [(2, .int v8), (0, .ref x0), (1, .int x1), (3, .int x3)]) dX9_covered_49 rfl (by decide) rfl ?_
          obtain ⟨v9, ev9⟩ : ∃ y : Int32, y = x3 + 1 := ⟨_, rfl⟩
          have h := h v9 ev9
          refine z_iinc hC (q := 3) (v := v9) (lv1 := [(3, .int v9), (2, .int v8), (0, .ref x0), (1, .int x1)]) dX9_covered_50 rfl (by rw [ev9, k_iinc_1]) (by decide) rfl ?_
          refine z_goto hC (tgt := 4) dX9_covered_53 (by decide) ?_
          exact z_sub [(0, .ref x0), (1, .int x1), (2, .int v8), (3, .int v9)] [2, 3, 1, 0] rfl (hC4 _ _ _ _ h)
  exact key n x0 x1 x2 x3 h0
set_option maxHeartbeats 4000000 in
set_option maxRecDepth 100000 in
theorem c_X9_covered  (l : Launch) (G : ZG) (a0 : Nat) (a1 : Int32) (K : MK) (N : MK) (I : MI) (L : ML) (R : MR) (Q : Int32 → Prop) (h : w_X9_covered a0 a1 K N I L R Q) : Met l yX9_covered (.code yX9_covered cX9_covered 4 (some .int) :: z_tbl) rm_X9_covered (z_Pc G [.ref a0, .int a1] K N I L R) (z_Qc G (qPi K N I L R Q)) 0 0 (z_A G) := by
  refine z_met (by decide) (Nat.le_of_ble_eq_true rfl) (fun X hX hRm hC0 hnm => ?_)
  subst hX
  have hC : ZOk X G RX9 cX9_covered 4 (some .int) := hC0
  show Z X G 4 0 0 _ K N I L R 0 [(0, .ref a0), (1, .int a1)] []
  delta w_X9_covered at h
  refine z_iconst hC (v := 0) k_iconst_0 dX9_covered_0 ?_
  refine z_istore_n hC (lv1 := [(2, .int 0), (0, .ref a0), (1, .int a1)]) dX9_covered_1 rfl (by decide) rfl ?_
  refine z_iconst hC (v := 0) k_iconst_0 dX9_covered_2 ?_
  refine z_istore_n hC (lv1 := [(3, .int 0), (2, .int 0), (0, .ref a0), (1, .int a1)]) dX9_covered_3 rfl (by decide) rfl ?_
  exact z_sub [(0, .ref a0), (1, .int a1), (2, .int 0), (3, .int 0)] [2, 3, 1, 0] rfl (z_X9_covered_4 hC hRm h)
def w_X10_readSize  (a0 : Nat) (a1 : Nat) (K : MK) (N : MK) (I : MI) (L : ML) (R : MR) (Q : Bool → MI → ML → Prop) : Prop := K a0 = 11 ∧ ((I a0 1) ≤ 0 → K a1 = 9 ∧ w_X8_advance a1 K N I L R (fun I3 L4 => w_X8_needsNumber a1 1 256 K N I3 L4 R (fun r5 I6 => (r5 = true → ∃ b7 : Nat, R a0 0 = some b7 ∧ K b7 = 10 ∧ ∀ I9 : MI, I9 = mup I6 b7 0 (I6 a1 8) → w_X8_advance a1 K N I9 L4 R (fun I10 L11 => Q true I10 L11)) ∧ (r5 = false → Q false I6 L4)))) ∧ (¬ (I a0 1) ≤ 0 → K a1 = 9 ∧ w_X8_fail a1 3 K N I L R (fun r13 I14 => Q r13 I14 L))
set_option maxHeartbeats 4000000 in
set_option maxRecDepth 100000 in
theorem c_X10_readSize  (l : Launch) (G : ZG) (a0 : Nat) (a1 : Nat) (K : MK) (N : MK) (I : MI) (L : ML) (R : MR) (Q : Bool → MI → ML → Prop) (h : w_X10_readSize a0 a1 K N I L R Q) : Met l yX10_readSize (.code yX10_readSize cX10_readSize 2 (some .boolean) :: z_tbl) rm_X10_readSize (z_Pc G [.ref a0, .ref a1] K N I L R) (z_Qc G (qLz K N R Q)) 0 0 (z_A G) := by
  refine z_met (by decide) (Nat.le_of_ble_eq_true rfl) (fun X hX hRm hC0 hnm => ?_)
  subst hX
  have hC : ZOk X G RX10 cX10_readSize 2 (some .boolean) := hC0
  show Z X G 2 0 0 _ K N I L R 0 [(0, .ref a0), (1, .ref a1)] []
  delta w_X10_readSize at h
  refine z_aload_n hC (q := 0) dX10_readSize_0 rfl rfl ?_
  obtain ⟨hk1, h⟩ := h
  refine gf_RX10_18 hC dX10_readSize_1 hk1 ?_
  refine z_if_le hC (tgt := 13) dX10_readSize_4 (by decide) (fun hc => ?_) (fun hc => ?_)
  · have h := h.1 hc
    refine z_aload_n hC (q := 1) dX10_readSize_13 rfl rfl ?_
    obtain ⟨hk2, h⟩ := h
    refine cl_RX10_68 hC (c_X8_advance _ G a1 K N I L R _ h) hk2 dX10_readSize_14 (by rw [hRm]; exact ⟨Nat.le_of_ble_eq_true rfl, Nat.le_of_ble_eq_true rfl⟩) ⟨Nat.zero_le _, Nat.zero_le _⟩ (Nat.le_of_ble_eq_true rfl) (z_kLv (I := I) (L := L) (fun I3 L4 h => ?_))
    refine z_aload_n hC (q := 1) dX10_readSize_17 rfl rfl ?_
    refine z_iconst hC (v := 1) k_iconst_1 dX10_readSize_18 ?_
    refine z_sipush hC (v := 256) k_sipush_256 dX10_readSize_19 ?_
    refine cl_RX10_71 hC (c_X8_needsNumber _ G a1 1 256 K N I3 L4 R _ h) hk2 dX10_readSize_22 (by rw [hRm]; exact ⟨Nat.le_of_ble_eq_true rfl, Nat.le_of_ble_eq_true rfl⟩) ⟨Nat.zero_le _, Nat.zero_le _⟩ (Nat.le_of_ble_eq_true rfl) (z_kIz (I := I3) (fun r5 I6 h => ?_))
    refine z_ifz_ne hC (tgt := 30) dX10_readSize_25 (by decide) (fun hc => ?_) (fun hc => ?_)
    · have h := h.1 hc
      refine z_aload_n hC (q := 0) dX10_readSize_30 rfl rfl ?_
      obtain ⟨b7, hb7, h⟩ := h
      refine gf_RX10_12 hC dX10_readSize_31 hk1 hb7 ?_
      refine z_aload_n hC (q := 1) dX10_readSize_34 rfl rfl ?_
      refine gf_RX10_75 hC dX10_readSize_35 hk2 ?_
      obtain ⟨hk8, h⟩ := h
      refine pf_RX10_78 hC dX10_readSize_38 hk8 ?_
      refine z_genI (fun I9 eI9 => ?_)
      have h := h I9 eI9
      refine z_aload_n hC (q := 1) dX10_readSize_41 rfl rfl ?_
      refine cl_RX10_68 hC (c_X8_advance _ G a1 K N I9 L4 R _ h) hk2 dX10_readSize_42 (by rw [hRm]; exact ⟨Nat.le_of_ble_eq_true rfl, Nat.le_of_ble_eq_true rfl⟩) ⟨Nat.zero_le _, Nat.zero_le _⟩ (Nat.le_of_ble_eq_true rfl) (z_kLv (I := I9) (L := L4) (fun I10 L11 h => ?_))
      refine z_iconst hC (v := 1) k_iconst_1 dX10_readSize_45 ?_
      exact z_zret (b := true) hC dX10_readSize_46 rfl ⟨true, rfl, rfl, rfl, rfl, h⟩
    · have h := h.2 hc
      refine z_iconst hC (v := 0) k_iconst_0 dX10_readSize_28 ?_
      exact z_zret (b := false) hC dX10_readSize_29 rfl ⟨false, rfl, rfl, rfl, rfl, h⟩
  · have h := h.2 hc
    refine z_aload_n hC (q := 1) dX10_readSize_7 rfl rfl ?_
    refine z_iconst hC (v := 3) k_iconst_3 dX10_readSize_8 ?_
    obtain ⟨hk12, h⟩ := h
    refine cl_RX10_60 hC (c_X8_fail _ G a1 3 K N I L R _ h) hk12 dX10_readSize_9 (by rw [hRm]; exact ⟨Nat.le_of_ble_eq_true rfl, Nat.le_of_ble_eq_true rfl⟩) ⟨Nat.zero_le _, Nat.zero_le _⟩ (Nat.le_of_ble_eq_true rfl) (z_kIz (I := I) (fun r13 I14 h => ?_))
    exact z_zret (b := r13) hC dX10_readSize_12 rfl ⟨r13, rfl, rfl, rfl, rfl, h⟩
def w_X10_beginSort  (a0 : Nat) (a1 : Nat) (a2 : Nat) (K : MK) (N : MK) (I : MI) (L : ML) (R : MR) (Q : Bool → MI → ML → Prop) : Prop := K a2 = 8 ∧ w_X7_isFull a2 K N I L R (fun r2 => (r2 = false → K a1 = 9 ∧ w_X8_advance a1 K N I L R (fun I4 L5 => Q true I4 L5)) ∧ (r2 = true → K a1 = 9 ∧ w_X8_fail a1 4 K N I L R (fun r7 I8 => Q r7 I8 L)))
set_option maxHeartbeats 4000000 in
set_option maxRecDepth 100000 in
theorem c_X10_beginSort  (l : Launch) (G : ZG) (a0 : Nat) (a1 : Nat) (a2 : Nat) (K : MK) (N : MK) (I : MI) (L : ML) (R : MR) (Q : Bool → MI → ML → Prop) (h : w_X10_beginSort a0 a1 a2 K N I L R Q) : Met l yX10_beginSort (.code yX10_beginSort cX10_beginSort 3 (some .boolean) :: z_tbl) rm_X10_beginSort (z_Pc G [.ref a0, .ref a1, .ref a2] K N I L R) (z_Qc G (qLz K N R Q)) 0 0 (z_A G) := by
  refine z_met (by decide) (Nat.le_of_ble_eq_true rfl) (fun X hX hRm hC0 hnm => ?_)
  subst hX
  have hC : ZOk X G RX10 cX10_beginSort 3 (some .boolean) := hC0
  show Z X G 3 0 0 _ K N I L R 0 [(0, .ref a0), (1, .ref a1), (2, .ref a2)] []
  delta w_X10_beginSort at h
  refine z_aload_n hC (q := 2) dX10_beginSort_0 rfl rfl ?_
  obtain ⟨hk1, h⟩ := h
  refine cl_RX10_81 hC (c_X7_isFull _ G a2 K N I L R _ h) hk1 dX10_beginSort_1 (by rw [hRm]; exact ⟨Nat.le_of_ble_eq_true rfl, Nat.le_of_ble_eq_true rfl⟩) ⟨Nat.zero_le _, Nat.zero_le _⟩ (Nat.le_of_ble_eq_true rfl) (z_kPz (fun r2 h => ?_))
  refine z_ifz_eq hC (tgt := 13) dX10_beginSort_4 (by decide) (fun hc => ?_) (fun hc => ?_)
  · have h := h.1 hc
    refine z_aload_n hC (q := 1) dX10_beginSort_13 rfl rfl ?_
    obtain ⟨hk3, h⟩ := h
    refine cl_RX10_68 hC (c_X8_advance _ G a1 K N I L R _ h) hk3 dX10_beginSort_14 (by rw [hRm]; exact ⟨Nat.le_of_ble_eq_true rfl, Nat.le_of_ble_eq_true rfl⟩) ⟨Nat.zero_le _, Nat.zero_le _⟩ (Nat.le_of_ble_eq_true rfl) (z_kLv (I := I) (L := L) (fun I4 L5 h => ?_))
    refine z_iconst hC (v := 1) k_iconst_1 dX10_beginSort_17 ?_
    exact z_zret (b := true) hC dX10_beginSort_18 rfl ⟨true, rfl, rfl, rfl, rfl, h⟩
  · have h := h.2 hc
    refine z_aload_n hC (q := 1) dX10_beginSort_7 rfl rfl ?_
    refine z_iconst hC (v := 4) k_iconst_4 dX10_beginSort_8 ?_
    obtain ⟨hk6, h⟩ := h
    refine cl_RX10_60 hC (c_X8_fail _ G a1 4 K N I L R _ h) hk6 dX10_beginSort_9 (by rw [hRm]; exact ⟨Nat.le_of_ble_eq_true rfl, Nat.le_of_ble_eq_true rfl⟩) ⟨Nat.zero_le _, Nat.zero_le _⟩ (Nat.le_of_ble_eq_true rfl) (z_kIz (I := I) (fun r7 I8 h => ?_))
    exact z_zret (b := r7) hC dX10_beginSort_12 rfl ⟨r7, rfl, rfl, rfl, rfl, h⟩
def w_X10_readRow  (a0 : Nat) (a1 : Nat) (K : MK) (N : MK) (I : MI) (L : ML) (R : MR) (Q : Bool → MI → ML → Prop) : Prop := K a0 = 11 ∧ ∃ b2 : Nat, R a0 0 = some b2 ∧ K b2 = 10 ∧ ∃ b4 : Nat, R b2 1 = some b4 ∧ w_X10_beginSort a0 a1 b4 K N I L R (fun r5 I6 L7 => (r5 = false → Q false I6 L7) ∧ (r5 = true → K a1 = 9 ∧ w_X8_needsNumber a1 0 ((I6 b2 0) - 1) K N I6 L7 R (fun r9 I10 => (r9 = true → ∀ v11 : Int32, v11 = (I10 a1 8) → w_X9_rowOf b2 v11 K N I10 L7 R (fun r12 => K b4 = 8 ∧ w_X7_at b4 r12 0 K N I10 L7 R (fun r14 => (¬ r14 = v11 → w_X8_advance a1 K N I10 L7 R (fun I15 L16 => w_X8_needsNumber a1 1 250 K N I15 L16 R (fun r17 I18 => (r17 = true → w_X9_addRow b2 v11 (I18 a1 8) K N I18 L16 R (fun I19 L20 => w_X8_advance a1 K N I19 L20 R (fun I21 L22 => Q true I21 L22))) ∧ (r17 = false → Q false I18 L16)))) ∧ (r14 = v11 → w_X8_fail a1 3 K N I10 L7 R (fun r23 I24 => Q r23 I24 L7))))) ∧ (r9 = false → Q false I10 L7))))
set_option maxHeartbeats 4000000 in
set_option maxRecDepth 100000 in
theorem c_X10_readRow  (l : Launch) (G : ZG) (a0 : Nat) (a1 : Nat) (K : MK) (N : MK) (I : MI) (L : ML) (R : MR) (Q : Bool → MI → ML → Prop) (h : w_X10_readRow a0 a1 K N I L R Q) : Met l yX10_readRow (.code yX10_readRow cX10_readRow 3 (some .boolean) :: z_tbl) rm_X10_readRow (z_Pc G [.ref a0, .ref a1] K N I L R) (z_Qc G (qLz K N R Q)) 0 0 (z_A G) := by
  refine z_met (by decide) (Nat.le_of_ble_eq_true rfl) (fun X hX hRm hC0 hnm => ?_)
  subst hX
  have hC : ZOk X G RX10 cX10_readRow 3 (some .boolean) := hC0
  show Z X G 3 0 0 _ K N I L R 0 [(0, .ref a0), (1, .ref a1)] []
  delta w_X10_readRow at h
  refine z_aload_n hC (q := 0) dX10_readRow_0 rfl rfl ?_
  refine z_aload_n hC (q := 1) dX10_readRow_1 rfl rfl ?_
  refine z_aload_n hC (q := 0) dX10_readRow_2 rfl rfl ?_
  obtain ⟨hk1, h⟩ := h
  obtain ⟨b2, hb2, h⟩ := h
  refine gf_RX10_12 hC dX10_readRow_3 hk1 hb2 ?_
  obtain ⟨hk3, h⟩ := h
  obtain ⟨b4, hb4, h⟩ := h
  refine gf_RX10_87 hC dX10_readRow_6 hk3 hb4 ?_
  refine cl_RX10_91 hC (c_X10_beginSort _ G a0 a1 b4 K N I L R _ h) hk1 dX10_readRow_9 (by rw [hRm]; exact ⟨Nat.le_of_ble_eq_true rfl, Nat.le_of_ble_eq_true rfl⟩) ⟨Nat.zero_le _, Nat.zero_le _⟩ (Nat.le_of_ble_eq_true rfl) (z_kLz (I := I) (L := L) (fun r5 I6 L7 h => ?_))
  refine z_ifz_eq hC (tgt := 32) dX10_readRow_12 (by decide) (fun hc => ?_) (fun hc => ?_)
  · have h := h.1 hc
    refine z_iconst hC (v := 0) k_iconst_0 dX10_readRow_32 ?_
    exact z_zret (b := false) hC dX10_readRow_33 rfl ⟨false, rfl, rfl, rfl, rfl, h⟩
  · have h := h.2 hc
    refine z_aload_n hC (q := 1) dX10_readRow_15 rfl rfl ?_
    refine z_iconst hC (v := 0) k_iconst_0 dX10_readRow_16 ?_
    refine z_aload_n hC (q := 0) dX10_readRow_17 rfl rfl ?_
    refine gf_RX10_12 hC dX10_readRow_18 hk1 hb2 ?_
    refine gf_RX10_78 hC dX10_readRow_21 hk3 ?_
    refine z_iconst hC (v := 1) k_iconst_1 dX10_readRow_24 ?_
    refine z_isub hC dX10_readRow_25 ?_
    obtain ⟨hk8, h⟩ := h
    refine cl_RX10_71 hC (c_X8_needsNumber _ G a1 0 ((I6 b2 0) - 1) K N I6 L7 R _ h) hk8 dX10_readRow_26 (by rw [hRm]; exact ⟨Nat.le_of_ble_eq_true rfl, Nat.le_of_ble_eq_true rfl⟩) ⟨Nat.zero_le _, Nat.zero_le _⟩ (Nat.le_of_ble_eq_true rfl) (z_kIz (I := I6) (fun r9 I10 h => ?_))
    refine z_ifz_ne hC (tgt := 34) dX10_readRow_29 (by decide) (fun hc => ?_) (fun hc => ?_)
    · have h := h.1 hc
      refine z_aload_n hC (q := 1) dX10_readRow_34 rfl rfl ?_
      refine gf_RX10_75 hC dX10_readRow_35 hk8 ?_
      refine z_topi (fun v11 ev11 => ?_)
      have h := h v11 ev11
      refine z_istore_n hC (lv1 := [(2, .int v11), (0, .ref a0), (1, .ref a1)]) dX10_readRow_38 rfl (by decide) rfl ?_
      refine z_aload_n hC (q := 1) dX10_readRow_39 rfl rfl ?_
      refine gf_RX10_12 hC dX10_readRow_40 hk1 hb2 ?_
      refine gf_RX10_87 hC dX10_readRow_43 hk3 hb4 ?_
      refine z_aload_n hC (q := 1) dX10_readRow_46 rfl rfl ?_
      refine gf_RX10_12 hC dX10_readRow_47 hk1 hb2 ?_
      refine z_iload_n hC (q := 0) dX10_readRow_50 rfl rfl ?_
      refine cl_RX10_95 hC (c_X9_rowOf _ G b2 v11 K N I10 L7 R _ h) hk3 dX10_readRow_51 (by rw [hRm]; exact ⟨Nat.le_of_ble_eq_true rfl, Nat.le_of_ble_eq_true rfl⟩) ⟨Nat.zero_le _, Nat.zero_le _⟩ (Nat.le_of_ble_eq_true rfl) (z_kPi (fun r12 h => ?_))
      refine z_iconst hC (v := 0) k_iconst_0 dX10_readRow_54 ?_
      obtain ⟨hk13, h⟩ := h
      refine cl_RX10_99 hC (c_X7_at _ G b4 r12 0 K N I10 L7 R _ h) hk13 dX10_readRow_55 (by rw [hRm]; exact ⟨Nat.le_of_ble_eq_true rfl, Nat.le_of_ble_eq_true rfl⟩) ⟨Nat.zero_le _, Nat.zero_le _⟩ (Nat.le_of_ble_eq_true rfl) (z_kPi (fun r14 h => ?_))
      refine z_iload_n hC (q := 0) dX10_readRow_58 rfl rfl ?_
      refine z_icmp_ne hC (tgt := 68) dX10_readRow_59 (by decide) (fun hc => ?_) (fun hc => ?_)
      · have h := h.1 hc
        refine z_aload_n hC (q := 2) dX10_readRow_68 rfl rfl ?_
        refine cl_RX10_68 hC (c_X8_advance _ G a1 K N I10 L7 R _ h) hk8 dX10_readRow_69 (by rw [hRm]; exact ⟨Nat.le_of_ble_eq_true rfl, Nat.le_of_ble_eq_true rfl⟩) ⟨Nat.zero_le _, Nat.zero_le _⟩ (Nat.le_of_ble_eq_true rfl) (z_kLv (I := I10) (L := L7) (fun I15 L16 h => ?_))
        refine z_aload_n hC (q := 2) dX10_readRow_72 rfl rfl ?_
        refine z_iconst hC (v := 1) k_iconst_1 dX10_readRow_73 ?_
        refine z_sipush hC (v := 250) k_sipush_250 dX10_readRow_74 ?_
        refine cl_RX10_71 hC (c_X8_needsNumber _ G a1 1 250 K N I15 L16 R _ h) hk8 dX10_readRow_77 (by rw [hRm]; exact ⟨Nat.le_of_ble_eq_true rfl, Nat.le_of_ble_eq_true rfl⟩) ⟨Nat.zero_le _, Nat.zero_le _⟩ (Nat.le_of_ble_eq_true rfl) (z_kIz (I := I15) (fun r17 I18 h => ?_))
        refine z_ifz_ne hC (tgt := 85) dX10_readRow_80 (by decide) (fun hc => ?_) (fun hc => ?_)
        · have h := h.1 hc
          refine z_aload_n hC (q := 1) dX10_readRow_85 rfl rfl ?_
          refine gf_RX10_12 hC dX10_readRow_86 hk1 hb2 ?_
          refine z_iload_n hC (q := 0) dX10_readRow_89 rfl rfl ?_
          refine z_aload_n hC (q := 2) dX10_readRow_90 rfl rfl ?_
          refine gf_RX10_75 hC dX10_readRow_91 hk8 ?_
          refine cl_RX10_103 hC (c_X9_addRow _ G b2 v11 (I18 a1 8) K N I18 L16 R _ h) hk3 dX10_readRow_94 (by rw [hRm]; exact ⟨Nat.le_of_ble_eq_true rfl, Nat.le_of_ble_eq_true rfl⟩) ⟨Nat.zero_le _, Nat.zero_le _⟩ (Nat.le_of_ble_eq_true rfl) (z_kLv (I := I18) (L := L16) (fun I19 L20 h => ?_))
          refine z_aload_n hC (q := 2) dX10_readRow_97 rfl rfl ?_
          refine cl_RX10_68 hC (c_X8_advance _ G a1 K N I19 L20 R _ h) hk8 dX10_readRow_98 (by rw [hRm]; exact ⟨Nat.le_of_ble_eq_true rfl, Nat.le_of_ble_eq_true rfl⟩) ⟨Nat.zero_le _, Nat.zero_le _⟩ (Nat.le_of_ble_eq_true rfl) (z_kLv (I := I19) (L := L20) (fun I21 L22 h => ?_))
          refine z_iconst hC (v := 1) k_iconst_1 dX10_readRow_101 ?_
          exact z_zret (b := true) hC dX10_readRow_102 rfl ⟨true, rfl, rfl, rfl, rfl, h⟩
        · have h := h.2 hc
          refine z_iconst hC (v := 0) k_iconst_0 dX10_readRow_83 ?_
          exact z_zret (b := false) hC dX10_readRow_84 rfl ⟨false, rfl, rfl, rfl, rfl, h⟩
      · have h := h.2 hc
        refine z_aload_n hC (q := 2) dX10_readRow_62 rfl rfl ?_
        refine z_iconst hC (v := 3) k_iconst_3 dX10_readRow_63 ?_
        refine cl_RX10_60 hC (c_X8_fail _ G a1 3 K N I10 L7 R _ h) hk8 dX10_readRow_64 (by rw [hRm]; exact ⟨Nat.le_of_ble_eq_true rfl, Nat.le_of_ble_eq_true rfl⟩) ⟨Nat.zero_le _, Nat.zero_le _⟩ (Nat.le_of_ble_eq_true rfl) (z_kIz (I := I10) (fun r23 I24 h => ?_))
        exact z_zret (b := r23) hC dX10_readRow_67 rfl ⟨r23, rfl, rfl, rfl, rfl, h⟩
    · have h := h.2 hc
      refine z_iconst hC (v := 0) k_iconst_0 dX10_readRow_32 ?_
      exact z_zret (b := false) hC dX10_readRow_33 rfl ⟨false, rfl, rfl, rfl, rfl, h⟩
def w_X10_readNewName  (a0 : Nat) (a1 : Nat) (a2 : Nat) (K : MK) (N : MK) (I : MI) (L : ML) (R : MR) (Q : Bool → MI → ML → Prop) : Prop := K a1 = 9 ∧ w_X8_needsName a1 K N I L R (fun r2 I3 => (r2 = true → K a0 = 11 ∧ ∃ b5 : Nat, R a0 0 = some b5 ∧ K b5 = 10 ∧ w_X9_isNameTold b5 (L a1 6) K N I3 L R (fun r7 => (r7 = false → K a2 = 8 ∧ w_X7_add a2 (L a1 6) K N I3 L R (fun r9 I10 L11 => w_X8_advance a1 K N I10 L11 R (fun I12 L13 => Q true I12 L13))) ∧ (r7 = true → w_X8_fail a1 3 K N I3 L R (fun r14 I15 => Q r14 I15 L)))) ∧ (r2 = false → Q false I3 L))
set_option maxHeartbeats 4000000 in
set_option maxRecDepth 100000 in
theorem c_X10_readNewName  (l : Launch) (G : ZG) (a0 : Nat) (a1 : Nat) (a2 : Nat) (K : MK) (N : MK) (I : MI) (L : ML) (R : MR) (Q : Bool → MI → ML → Prop) (h : w_X10_readNewName a0 a1 a2 K N I L R Q) : Met l yX10_readNewName (.code yX10_readNewName cX10_readNewName 3 (some .boolean) :: z_tbl) rm_X10_readNewName (z_Pc G [.ref a0, .ref a1, .ref a2] K N I L R) (z_Qc G (qLz K N R Q)) 0 0 (z_A G) := by
  refine z_met (by decide) (Nat.le_of_ble_eq_true rfl) (fun X hX hRm hC0 hnm => ?_)
  subst hX
  have hC : ZOk X G RX10 cX10_readNewName 3 (some .boolean) := hC0
  show Z X G 3 0 0 _ K N I L R 0 [(0, .ref a0), (1, .ref a1), (2, .ref a2)] []
  delta w_X10_readNewName at h
  refine z_aload_n hC (q := 1) dX10_readNewName_0 rfl rfl ?_
  obtain ⟨hk1, h⟩ := h
  refine cl_RX10_107 hC (c_X8_needsName _ G a1 K N I L R _ h) hk1 dX10_readNewName_1 (by rw [hRm]; exact ⟨Nat.le_of_ble_eq_true rfl, Nat.le_of_ble_eq_true rfl⟩) ⟨Nat.zero_le _, Nat.zero_le _⟩ (Nat.le_of_ble_eq_true rfl) (z_kIz (I := I) (fun r2 I3 h => ?_))
  refine z_ifz_ne hC (tgt := 9) dX10_readNewName_4 (by decide) (fun hc => ?_) (fun hc => ?_)
  · have h := h.1 hc
    refine z_aload_n hC (q := 0) dX10_readNewName_9 rfl rfl ?_
    obtain ⟨hk4, h⟩ := h
    obtain ⟨b5, hb5, h⟩ := h
    refine gf_RX10_12 hC dX10_readNewName_10 hk4 hb5 ?_
    refine z_aload_n hC (q := 1) dX10_readNewName_13 rfl rfl ?_
    refine gf_RX10_110 hC dX10_readNewName_14 hk1 ?_
    obtain ⟨hk6, h⟩ := h
    refine cl_RX10_114 hC (c_X9_isNameTold _ G b5 (L a1 6) K N I3 L R _ h) hk6 dX10_readNewName_17 (by rw [hRm]; exact ⟨Nat.le_of_ble_eq_true rfl, Nat.le_of_ble_eq_true rfl⟩) ⟨Nat.zero_le _, Nat.zero_le _⟩ (Nat.le_of_ble_eq_true rfl) (z_kPz (fun r7 h => ?_))
    refine z_ifz_eq hC (tgt := 29) dX10_readNewName_20 (by decide) (fun hc => ?_) (fun hc => ?_)
    · have h := h.1 hc
      refine z_aload_n hC (q := 2) dX10_readNewName_29 rfl rfl ?_
      refine z_aload_n hC (q := 1) dX10_readNewName_30 rfl rfl ?_
      refine gf_RX10_110 hC dX10_readNewName_31 hk1 ?_
      obtain ⟨hk8, h⟩ := h
      refine cl_RX10_118 hC (c_X7_add _ G a2 (L a1 6) K N I3 L R _ h) hk8 dX10_readNewName_34 (by rw [hRm]; exact ⟨Nat.le_of_ble_eq_true rfl, Nat.le_of_ble_eq_true rfl⟩) ⟨Nat.zero_le _, Nat.zero_le _⟩ (Nat.le_of_ble_eq_true rfl) (z_kLi (I := I3) (L := L) (fun r9 I10 L11 h => ?_))
      refine z_pop hC rfl dX10_readNewName_37 ?_
      refine z_aload_n hC (q := 1) dX10_readNewName_38 rfl rfl ?_
      refine cl_RX10_68 hC (c_X8_advance _ G a1 K N I10 L11 R _ h) hk1 dX10_readNewName_39 (by rw [hRm]; exact ⟨Nat.le_of_ble_eq_true rfl, Nat.le_of_ble_eq_true rfl⟩) ⟨Nat.zero_le _, Nat.zero_le _⟩ (Nat.le_of_ble_eq_true rfl) (z_kLv (I := I10) (L := L11) (fun I12 L13 h => ?_))
      refine z_iconst hC (v := 1) k_iconst_1 dX10_readNewName_42 ?_
      exact z_zret (b := true) hC dX10_readNewName_43 rfl ⟨true, rfl, rfl, rfl, rfl, h⟩
    · have h := h.2 hc
      refine z_aload_n hC (q := 1) dX10_readNewName_23 rfl rfl ?_
      refine z_iconst hC (v := 3) k_iconst_3 dX10_readNewName_24 ?_
      refine cl_RX10_60 hC (c_X8_fail _ G a1 3 K N I3 L R _ h) hk1 dX10_readNewName_25 (by rw [hRm]; exact ⟨Nat.le_of_ble_eq_true rfl, Nat.le_of_ble_eq_true rfl⟩) ⟨Nat.zero_le _, Nat.zero_le _⟩ (Nat.le_of_ble_eq_true rfl) (z_kIz (I := I3) (fun r14 I15 h => ?_))
      exact z_zret (b := r14) hC dX10_readNewName_28 rfl ⟨r14, rfl, rfl, rfl, rfl, h⟩
  · have h := h.2 hc
    refine z_iconst hC (v := 0) k_iconst_0 dX10_readNewName_7 ?_
    exact z_zret (b := false) hC dX10_readNewName_8 rfl ⟨false, rfl, rfl, rfl, rfl, h⟩
def w_X10_readRange  (a0 : Nat) (a1 : Nat) (a2 : Nat) (a3 : Int32) (K : MK) (N : MK) (I : MI) (L : ML) (R : MR) (Q : Bool → MI → ML → Prop) : Prop := K a0 = 11 ∧ ∃ b2 : Nat, R a0 0 = some b2 ∧ K b2 = 10 ∧ K a1 = 9 ∧ w_X8_needsNumber a1 0 ((I b2 0) - 1) K N I L R (fun r5 I6 => (r5 = true → ∀ v7 : Int32, v7 = (I6 a1 8) → w_X8_advance a1 K N I6 L R (fun I8 L9 => w_X8_needsNumber a1 (v7 + 1) (I8 b2 0) K N I8 L9 R (fun r10 I11 => (r10 = true → K a2 = 8 ∧ w_X7_put a2 a3 0 v7 K N I11 L9 R (fun I13 => w_X7_put a2 a3 1 (I13 a1 8) K N I13 L9 R (fun I14 => Q true I14 L9))) ∧ (r10 = false → Q false I11 L9)))) ∧ (r5 = false → Q false I6 L))
set_option maxHeartbeats 4000000 in
set_option maxRecDepth 100000 in
theorem c_X10_readRange  (l : Launch) (G : ZG) (a0 : Nat) (a1 : Nat) (a2 : Nat) (a3 : Int32) (K : MK) (N : MK) (I : MI) (L : ML) (R : MR) (Q : Bool → MI → ML → Prop) (h : w_X10_readRange a0 a1 a2 a3 K N I L R Q) : Met l yX10_readRange (.code yX10_readRange cX10_readRange 5 (some .boolean) :: z_tbl) rm_X10_readRange (z_Pc G [.ref a0, .ref a1, .ref a2, .int a3] K N I L R) (z_Qc G (qLz K N R Q)) 0 0 (z_A G) := by
  refine z_met (by decide) (Nat.le_of_ble_eq_true rfl) (fun X hX hRm hC0 hnm => ?_)
  subst hX
  have hC : ZOk X G RX10 cX10_readRange 5 (some .boolean) := hC0
  show Z X G 5 0 0 _ K N I L R 0 [(0, .ref a0), (1, .ref a1), (2, .ref a2), (3, .int a3)] []
  delta w_X10_readRange at h
  refine z_aload_n hC (q := 1) dX10_readRange_0 rfl rfl ?_
  refine z_iconst hC (v := 0) k_iconst_0 dX10_readRange_1 ?_
  refine z_aload_n hC (q := 0) dX10_readRange_2 rfl rfl ?_
  obtain ⟨hk1, h⟩ := h
  obtain ⟨b2, hb2, h⟩ := h
  refine gf_RX10_12 hC dX10_readRange_3 hk1 hb2 ?_
  obtain ⟨hk3, h⟩ := h
  refine gf_RX10_78 hC dX10_readRange_6 hk3 ?_
  refine z_iconst hC (v := 1) k_iconst_1 dX10_readRange_9 ?_
  refine z_isub hC dX10_readRange_10 ?_
  obtain ⟨hk4, h⟩ := h
  refine cl_RX10_71 hC (c_X8_needsNumber _ G a1 0 ((I b2 0) - 1) K N I L R _ h) hk4 dX10_readRange_11 (by rw [hRm]; exact ⟨Nat.le_of_ble_eq_true rfl, Nat.le_of_ble_eq_true rfl⟩) ⟨Nat.zero_le _, Nat.zero_le _⟩ (Nat.le_of_ble_eq_true rfl) (z_kIz (I := I) (fun r5 I6 h => ?_))
  refine z_ifz_ne hC (tgt := 19) dX10_readRange_14 (by decide) (fun hc => ?_) (fun hc => ?_)
  · have h := h.1 hc
    refine z_aload_n hC (q := 1) dX10_readRange_19 rfl rfl ?_
    refine gf_RX10_75 hC dX10_readRange_20 hk4 ?_
    refine z_topi (fun v7 ev7 => ?_)
    have h := h v7 ev7
    refine z_istore hC (lv1 := [(4, .int v7), (0, .ref a0), (1, .ref a1), (2, .ref a2), (3, .int a3)]) dX10_readRange_23 (by decide) rfl ?_
    refine z_aload_n hC (q := 2) dX10_readRange_25 rfl rfl ?_
    refine cl_RX10_68 hC (c_X8_advance _ G a1 K N I6 L R _ h) hk4 dX10_readRange_26 (by rw [hRm]; exact ⟨Nat.le_of_ble_eq_true rfl, Nat.le_of_ble_eq_true rfl⟩) ⟨Nat.zero_le _, Nat.zero_le _⟩ (Nat.le_of_ble_eq_true rfl) (z_kLv (I := I6) (L := L) (fun I8 L9 h => ?_))
    refine z_aload_n hC (q := 2) dX10_readRange_29 rfl rfl ?_
    refine z_iload hC (q := 0) dX10_readRange_30 rfl ?_
    refine z_iconst hC (v := 1) k_iconst_1 dX10_readRange_32 ?_
    refine z_iadd hC dX10_readRange_33 ?_
    refine z_aload_n hC (q := 1) dX10_readRange_34 rfl rfl ?_
    refine gf_RX10_12 hC dX10_readRange_35 hk1 hb2 ?_
    refine gf_RX10_78 hC dX10_readRange_38 hk3 ?_
    refine cl_RX10_71 hC (c_X8_needsNumber _ G a1 (v7 + 1) (I8 b2 0) K N I8 L9 R _ h) hk4 dX10_readRange_41 (by rw [hRm]; exact ⟨Nat.le_of_ble_eq_true rfl, Nat.le_of_ble_eq_true rfl⟩) ⟨Nat.zero_le _, Nat.zero_le _⟩ (Nat.le_of_ble_eq_true rfl) (z_kIz (I := I8) (fun r10 I11 h => ?_))
    refine z_ifz_ne hC (tgt := 49) dX10_readRange_44 (by decide) (fun hc => ?_) (fun hc => ?_)
    · have h := h.1 hc
      refine z_aload_n hC (q := 3) dX10_readRange_49 rfl rfl ?_
      refine z_iload_n hC (q := 4) dX10_readRange_50 rfl rfl ?_
      refine z_iconst hC (v := 0) k_iconst_0 dX10_readRange_51 ?_
      refine z_iload hC (q := 0) dX10_readRange_52 rfl ?_
      obtain ⟨hk12, h⟩ := h
      refine cl_RX10_125 hC (c_X7_put _ G a2 a3 0 v7 K N I11 L9 R _ h) hk12 dX10_readRange_54 (by rw [hRm]; exact ⟨Nat.le_of_ble_eq_true rfl, Nat.le_of_ble_eq_true rfl⟩) ⟨Nat.zero_le _, Nat.zero_le _⟩ (Nat.le_of_ble_eq_true rfl) (z_kIv (I := I11) (fun I13 h => ?_))
      refine z_aload_n hC (q := 3) dX10_readRange_57 rfl rfl ?_
      refine z_iload_n hC (q := 4) dX10_readRange_58 rfl rfl ?_
      refine z_iconst hC (v := 1) k_iconst_1 dX10_readRange_59 ?_
      refine z_aload_n hC (q := 2) dX10_readRange_60 rfl rfl ?_
      refine gf_RX10_75 hC dX10_readRange_61 hk4 ?_
      refine cl_RX10_125 hC (c_X7_put _ G a2 a3 1 (I13 a1 8) K N I13 L9 R _ h) hk12 dX10_readRange_64 (by rw [hRm]; exact ⟨Nat.le_of_ble_eq_true rfl, Nat.le_of_ble_eq_true rfl⟩) ⟨Nat.zero_le _, Nat.zero_le _⟩ (Nat.le_of_ble_eq_true rfl) (z_kIv (I := I13) (fun I14 h => ?_))
      refine z_iconst hC (v := 1) k_iconst_1 dX10_readRange_67 ?_
      exact z_zret (b := true) hC dX10_readRange_68 rfl ⟨true, rfl, rfl, rfl, rfl, h⟩
    · have h := h.2 hc
      refine z_iconst hC (v := 0) k_iconst_0 dX10_readRange_47 ?_
      exact z_zret (b := false) hC dX10_readRange_48 rfl ⟨false, rfl, rfl, rfl, rfl, h⟩
  · have h := h.2 hc
    refine z_iconst hC (v := 0) k_iconst_0 dX10_readRange_17 ?_
    exact z_zret (b := false) hC dX10_readRange_18 rfl ⟨false, rfl, rfl, rfl, rfl, h⟩
def w_X10_readScope  (a0 : Nat) (a1 : Nat) (K : MK) (N : MK) (I : MI) (L : ML) (R : MR) (Q : Bool → MI → ML → Prop) : Prop := K a0 = 11 ∧ ∃ b2 : Nat, R a0 0 = some b2 ∧ K b2 = 10 ∧ ∃ b4 : Nat, R b2 2 = some b4 ∧ K b4 = 8 ∧ ∀ v6 : Int32, v6 = (I b4 3) → w_X10_beginSort a0 a1 b4 K N I L R (fun r7 I8 L9 => (r7 = false → Q false I8 L9) ∧ (r7 = true → w_X10_readNewName a0 a1 b4 K N I8 L9 R (fun r10 I11 L12 => (r10 = false → Q false I11 L12) ∧ (r10 = true → w_X10_readRange a0 a1 b4 v6 K N I11 L12 R (fun r13 I14 L15 => (r13 = true → w_X7_at b4 v6 0 K N I14 L15 R (fun r16 => w_X7_at b4 v6 1 K N I14 L15 R (fun r17 => w_X9_cutsScope b2 r16 r17 K N I14 L15 R (fun r18 => (r18 = false → K a1 = 9 ∧ w_X8_advance a1 K N I14 L15 R (fun I20 L21 => w_X8_needsNumber a1 0 250 K N I20 L21 R (fun r22 I23 => (r22 = true → w_X7_put b4 v6 2 (I23 a1 8) K N I23 L21 R (fun I24 => w_X9_rankScope b2 v6 K N I24 L21 R (fun I25 => w_X8_advance a1 K N I25 L21 R (fun I26 L27 => Q true I26 L27)))) ∧ (r22 = false → Q false I23 L21)))) ∧ (r18 = true → K a1 = 9 ∧ w_X8_fail a1 3 K N I14 L15 R (fun r29 I30 => Q r29 I30 L15)))))) ∧ (r13 = false → Q false I14 L15))))))
set_option maxHeartbeats 4000000 in
set_option maxRecDepth 100000 in
theorem c_X10_readScope  (l : Launch) (G : ZG) (a0 : Nat) (a1 : Nat) (K : MK) (N : MK) (I : MI) (L : ML) (R : MR) (Q : Bool → MI → ML → Prop) (h : w_X10_readScope a0 a1 K N I L R Q) : Met l yX10_readScope (.code yX10_readScope cX10_readScope 3 (some .boolean) :: z_tbl) rm_X10_readScope (z_Pc G [.ref a0, .ref a1] K N I L R) (z_Qc G (qLz K N R Q)) 0 0 (z_A G) := by
  refine z_met (by decide) (Nat.le_of_ble_eq_true rfl) (fun X hX hRm hC0 hnm => ?_)
  subst hX
  have hC : ZOk X G RX10 cX10_readScope 3 (some .boolean) := hC0
  show Z X G 3 0 0 _ K N I L R 0 [(0, .ref a0), (1, .ref a1)] []
  delta w_X10_readScope at h
  refine z_aload_n hC (q := 0) dX10_readScope_0 rfl rfl ?_
  obtain ⟨hk1, h⟩ := h
  obtain ⟨b2, hb2, h⟩ := h
  refine gf_RX10_12 hC dX10_readScope_1 hk1 hb2 ?_
  obtain ⟨hk3, h⟩ := h
  obtain ⟨b4, hb4, h⟩ := h
  refine gf_RX10_129 hC dX10_readScope_4 hk3 hb4 ?_
  obtain ⟨hk5, h⟩ := h
  refine gf_RX10_132 hC dX10_readScope_7 hk5 ?_
  refine z_topi (fun v6 ev6 => ?_)
  have h := h v6 ev6
  refine z_istore_n hC (lv1 := [(2, .int v6), (0, .ref a0), (1, .ref a1)]) dX10_readScope_10 rfl (by decide) rfl ?_
  refine z_aload_n hC (q := 1) dX10_readScope_11 rfl rfl ?_
  refine z_aload_n hC (q := 2) dX10_readScope_12 rfl rfl ?_
  refine z_aload_n hC (q := 1) dX10_readScope_13 rfl rfl ?_
  refine gf_RX10_12 hC dX10_readScope_14 hk1 hb2 ?_
  refine gf_RX10_129 hC dX10_readScope_17 hk3 hb4 ?_
  refine cl_RX10_91 hC (c_X10_beginSort _ G a0 a1 b4 K N I L R _ h) hk1 dX10_readScope_20 (by rw [hRm]; exact ⟨Nat.le_of_ble_eq_true rfl, Nat.le_of_ble_eq_true rfl⟩) ⟨Nat.zero_le _, Nat.zero_le _⟩ (Nat.le_of_ble_eq_true rfl) (z_kLz (I := I) (L := L) (fun r7 I8 L9 h => ?_))
  refine z_ifz_eq hC (tgt := 57) dX10_readScope_23 (by decide) (fun hc => ?_) (fun hc => ?_)
  · have h := h.1 hc
    refine z_iconst hC (v := 0) k_iconst_0 dX10_readScope_57 ?_
    exact z_zret (b := false) hC dX10_readScope_58 rfl ⟨false, rfl, rfl, rfl, rfl, h⟩
  · have h := h.2 hc
    refine z_aload_n hC (q := 1) dX10_readScope_26 rfl rfl ?_
    refine z_aload_n hC (q := 2) dX10_readScope_27 rfl rfl ?_
    refine z_aload_n hC (q := 1) dX10_readScope_28 rfl rfl ?_
    refine gf_RX10_12 hC dX10_readScope_29 hk1 hb2 ?_
    refine gf_RX10_129 hC dX10_readScope_32 hk3 hb4 ?_
    refine cl_RX10_135 hC (c_X10_readNewName _ G a0 a1 b4 K N I8 L9 R _ h) hk1 dX10_readScope_35 (by rw [hRm]; exact ⟨Nat.le_of_ble_eq_true rfl, Nat.le_of_ble_eq_true rfl⟩) ⟨Nat.zero_le _, Nat.zero_le _⟩ (Nat.le_of_ble_eq_true rfl) (z_kLz (I := I8) (L := L9) (fun r10 I11 L12 h => ?_))
    refine z_ifz_eq hC (tgt := 57) dX10_readScope_38 (by decide) (fun hc => ?_) (fun hc => ?_)
    · have h := h.1 hc
      refine z_iconst hC (v := 0) k_iconst_0 dX10_readScope_57 ?_
      exact z_zret (b := false) hC dX10_readScope_58 rfl ⟨false, rfl, rfl, rfl, rfl, h⟩
    · have h := h.2 hc
      refine z_aload_n hC (q := 1) dX10_readScope_41 rfl rfl ?_
      refine z_aload_n hC (q := 2) dX10_readScope_42 rfl rfl ?_
      refine z_aload_n hC (q := 1) dX10_readScope_43 rfl rfl ?_
      refine gf_RX10_12 hC dX10_readScope_44 hk1 hb2 ?_
      refine gf_RX10_129 hC dX10_readScope_47 hk3 hb4 ?_
      refine z_iload_n hC (q := 0) dX10_readScope_50 rfl rfl ?_
      refine cl_RX10_138 hC (c_X10_readRange _ G a0 a1 b4 v6 K N I11 L12 R _ h) hk1 dX10_readScope_51 (by rw [hRm]; exact ⟨Nat.le_of_ble_eq_true rfl, Nat.le_of_ble_eq_true rfl⟩) ⟨Nat.zero_le _, Nat.zero_le _⟩ (Nat.le_of_ble_eq_true rfl) (z_kLz (I := I11) (L := L12) (fun r13 I14 L15 h => ?_))
      refine z_ifz_ne hC (tgt := 59) dX10_readScope_54 (by decide) (fun hc => ?_) (fun hc => ?_)
      · have h := h.1 hc
        refine z_aload_n hC (q := 1) dX10_readScope_59 rfl rfl ?_
        refine gf_RX10_12 hC dX10_readScope_60 hk1 hb2 ?_
        refine z_aload_n hC (q := 1) dX10_readScope_63 rfl rfl ?_
        refine gf_RX10_12 hC dX10_readScope_64 hk1 hb2 ?_
        refine gf_RX10_129 hC dX10_readScope_67 hk3 hb4 ?_
        refine z_iload_n hC (q := 0) dX10_readScope_70 rfl rfl ?_
        refine z_iconst hC (v := 0) k_iconst_0 dX10_readScope_71 ?_
        refine cl_RX10_99 hC (c_X7_at _ G b4 v6 0 K N I14 L15 R _ h) hk5 dX10_readScope_72 (by rw [hRm]; exact ⟨Nat.le_of_ble_eq_true rfl, Nat.le_of_ble_eq_true rfl⟩) ⟨Nat.zero_le _, Nat.zero_le _⟩ (Nat.le_of_ble_eq_true rfl) (z_kPi (fun r16 h => ?_))
        refine z_aload_n hC (q := 1) dX10_readScope_75 rfl rfl ?_
        refine gf_RX10_12 hC dX10_readScope_76 hk1 hb2 ?_
        refine gf_RX10_129 hC dX10_readScope_79 hk3 hb4 ?_
        refine z_iload_n hC (q := 0) dX10_readScope_82 rfl rfl ?_
        refine z_iconst hC (v := 1) k_iconst_1 dX10_readScope_83 ?_
        refine cl_RX10_99 hC (c_X7_at _ G b4 v6 1 K N I14 L15 R _ h) hk5 dX10_readScope_84 (by rw [hRm]; exact ⟨Nat.le_of_ble_eq_true rfl, Nat.le_of_ble_eq_true rfl⟩) ⟨Nat.zero_le _, Nat.zero_le _⟩ (Nat.le_of_ble_eq_true rfl) (z_kPi (fun r17 h => ?_))
        refine cl_RX10_142 hC (c_X9_cutsScope _ G b2 r16 r17 K N I14 L15 R _ h) hk3 dX10_readScope_87 (by rw [hRm]; exact ⟨Nat.le_of_ble_eq_true rfl, Nat.le_of_ble_eq_true rfl⟩) ⟨Nat.zero_le _, Nat.zero_le _⟩ (Nat.le_of_ble_eq_true rfl) (z_kPz (fun r18 h => ?_))
        refine z_ifz_eq hC (tgt := 99) dX10_readScope_90 (by decide) (fun hc => ?_) (fun hc => ?_)
        · have h := h.1 hc
          refine z_aload_n hC (q := 2) dX10_readScope_99 rfl rfl ?_
          obtain ⟨hk19, h⟩ := h
          refine cl_RX10_68 hC (c_X8_advance _ G a1 K N I14 L15 R _ h) hk19 dX10_readScope_100 (by rw [hRm]; exact ⟨Nat.le_of_ble_eq_true rfl, Nat.le_of_ble_eq_true rfl⟩) ⟨Nat.zero_le _, Nat.zero_le _⟩ (Nat.le_of_ble_eq_true rfl) (z_kLv (I := I14) (L := L15) (fun I20 L21 h => ?_))
          refine z_aload_n hC (q := 2) dX10_readScope_103 rfl rfl ?_
          refine z_iconst hC (v := 0) k_iconst_0 dX10_readScope_104 ?_
          refine z_sipush hC (v := 250) k_sipush_250 dX10_readScope_105 ?_
          refine cl_RX10_71 hC (c_X8_needsNumber _ G a1 0 250 K N I20 L21 R _ h) hk19 dX10_readScope_108 (by rw [hRm]; exact ⟨Nat.le_of_ble_eq_true rfl, Nat.le_of_ble_eq_true rfl⟩) ⟨Nat.zero_le _, Nat.zero_le _⟩ (Nat.le_of_ble_eq_true rfl) (z_kIz (I := I20) (fun r22 I23 h => ?_))
          refine z_ifz_ne hC (tgt := 116) dX10_readScope_111 (by decide) (fun hc => ?_) (fun hc => ?_)
          · have h := h.1 hc
            refine z_aload_n hC (q := 1) dX10_readScope_116 rfl rfl ?_
            refine gf_RX10_12 hC dX10_readScope_117 hk1 hb2 ?_
            refine gf_RX10_129 hC dX10_readScope_120 hk3 hb4 ?_
            refine z_iload_n hC (q := 0) dX10_readScope_123 rfl rfl ?_
            refine z_iconst hC (v := 2) k_iconst_2 dX10_readScope_124 ?_
            refine z_aload_n hC (q := 2) dX10_readScope_125 rfl rfl ?_
            refine gf_RX10_75 hC dX10_readScope_126 hk19 ?_
            refine cl_RX10_125 hC (c_X7_put _ G b4 v6 2 (I23 a1 8) K N I23 L21 R _ h) hk5 dX10_readScope_129 (by rw [hRm]; exact ⟨Nat.le_of_ble_eq_true rfl, Nat.le_of_ble_eq_true rfl⟩) ⟨Nat.zero_le _, Nat.zero_le _⟩ (Nat.le_of_ble_eq_true rfl) (z_kIv (I := I23) (fun I24 h => ?_))
            refine z_aload_n hC (q := 1) dX10_readScope_132 rfl rfl ?_
            refine gf_RX10_12 hC dX10_readScope_133 hk1 hb2 ?_
            refine z_iload_n hC (q := 0) dX10_readScope_136 rfl rfl ?_
            refine cl_RX10_145 hC (c_X9_rankScope _ G b2 v6 K N I24 L21 R _ h) hk3 dX10_readScope_137 (by rw [hRm]; exact ⟨Nat.le_of_ble_eq_true rfl, Nat.le_of_ble_eq_true rfl⟩) ⟨Nat.zero_le _, Nat.zero_le _⟩ (Nat.le_of_ble_eq_true rfl) (z_kIv (I := I24) (fun I25 h => ?_))
            refine z_aload_n hC (q := 2) dX10_readScope_140 rfl rfl ?_
            refine cl_RX10_68 hC (c_X8_advance _ G a1 K N I25 L21 R _ h) hk19 dX10_readScope_141 (by rw [hRm]; exact ⟨Nat.le_of_ble_eq_true rfl, Nat.le_of_ble_eq_true rfl⟩) ⟨Nat.zero_le _, Nat.zero_le _⟩ (Nat.le_of_ble_eq_true rfl) (z_kLv (I := I25) (L := L21) (fun I26 L27 h => ?_))
            refine z_iconst hC (v := 1) k_iconst_1 dX10_readScope_144 ?_
            exact z_zret (b := true) hC dX10_readScope_145 rfl ⟨true, rfl, rfl, rfl, rfl, h⟩
          · have h := h.2 hc
            refine z_iconst hC (v := 0) k_iconst_0 dX10_readScope_114 ?_
            exact z_zret (b := false) hC dX10_readScope_115 rfl ⟨false, rfl, rfl, rfl, rfl, h⟩
        · have h := h.2 hc
          refine z_aload_n hC (q := 2) dX10_readScope_93 rfl rfl ?_
          refine z_iconst hC (v := 3) k_iconst_3 dX10_readScope_94 ?_
          obtain ⟨hk28, h⟩ := h
          refine cl_RX10_60 hC (c_X8_fail _ G a1 3 K N I14 L15 R _ h) hk28 dX10_readScope_95 (by rw [hRm]; exact ⟨Nat.le_of_ble_eq_true rfl, Nat.le_of_ble_eq_true rfl⟩) ⟨Nat.zero_le _, Nat.zero_le _⟩ (Nat.le_of_ble_eq_true rfl) (z_kIz (I := I14) (fun r29 I30 h => ?_))
          exact z_zret (b := r29) hC dX10_readScope_98 rfl ⟨r29, rfl, rfl, rfl, rfl, h⟩
      · have h := h.2 hc
        refine z_iconst hC (v := 0) k_iconst_0 dX10_readScope_57 ?_
        exact z_zret (b := false) hC dX10_readScope_58 rfl ⟨false, rfl, rfl, rfl, rfl, h⟩
def w_X10_readType_135  (x0 : Nat) (x1 : Nat) (x2 : Int32) (x4 : Int32)  (K : MK) (N : MK) (I : MI) (L : ML) (R : MR)  (Q : Bool → MI → ML → Prop) : Prop := K x0 = 11 ∧ ∃ b27 : Nat, R x0 0 = some b27 ∧ K b27 = 10 ∧ ∃ b29 : Nat, R b27 3 = some b29 ∧ (¬ x4 = 7 → K b29 = 8 ∧ w_X7_put b29 x2 2 0 K N I L R (fun I31 => K x1 = 9 ∧ w_X8_advance x1 K N I31 L R (fun I33 L34 => Q true I33 L34))) ∧ (x4 = 7 → K b29 = 8 ∧ w_X7_put b29 x2 2 1 K N I L R (fun I36 => K x1 = 9 ∧ w_X8_advance x1 K N I36 L R (fun I38 L39 => Q true I38 L39)))
def w_X10_readType  (a0 : Nat) (a1 : Nat) (K : MK) (N : MK) (I : MI) (L : ML) (R : MR) (Q : Bool → MI → ML → Prop) : Prop := K a0 = 11 ∧ ∃ b2 : Nat, R a0 0 = some b2 ∧ K b2 = 10 ∧ ∃ b4 : Nat, R b2 3 = some b4 ∧ K b4 = 8 ∧ ∀ v6 : Int32, v6 = (I b4 3) → w_X10_beginSort a0 a1 b4 K N I L R (fun r7 I8 L9 => (r7 = false → Q false I8 L9) ∧ (r7 = true → w_X10_readNewName a0 a1 b4 K N I8 L9 R (fun r10 I11 L12 => (r10 = false → Q false I11 L12) ∧ (r10 = true → K a1 = 9 ∧ w_X8_needsNumber a1 0 15 K N I11 L12 R (fun r14 I15 => (r14 = true → ∀ v16 : Int32, v16 = (I15 a1 8) → w_X8_advance a1 K N I15 L12 R (fun I17 L18 => w_X8_needsNumber a1 1 ((16 : Int32) - v16) K N I17 L18 R (fun r19 I20 => (r19 = true → w_X7_put b4 v6 0 v16 K N I20 L18 R (fun I21 => w_X7_put b4 v6 1 (I21 a1 8) K N I21 L18 R (fun I22 => w_X8_advance a1 K N I22 L18 R (fun I23 L24 => w_X8_wordHere a1 K N I23 L24 R (fun r25 => (r25 = 6 → w_X10_readType_135 a0 a1 v6 r25 K N I23 L24 R Q) ∧ (¬ r25 = 6 → (r25 = 7 → w_X10_readType_135 a0 a1 v6 r25 K N I23 L24 R Q) ∧ (¬ r25 = 7 → w_X8_fail a1 1 K N I23 L24 R (fun r40 I41 => Q r40 I41 L24)))))))) ∧ (r19 = false → Q false I20 L18)))) ∧ (r14 = false → Q false I15 L12))))))
set_option maxHeartbeats 4000000 in
set_option maxRecDepth 100000 in
theorem z_X10_readType_135 {X : ZX} {G : ZG}  {x0 : Nat} {x1 : Nat} {x2 : Int32} {x4 : Int32}  {K : MK} {N : MK} {I : MI} {L : ML} {R : MR}  {Q : Bool → MI → ML → Prop} (hC : ZOk X G RX10 cX10_readType 5 (some .boolean)) (hRm : X.2.2.2.1 = rm_X10_readType) (h : w_X10_readType_135 x0 x1 x2 x4 K N I L R  Q) : Z X G 5 0 0 (z_T X G (qLz K N R Q) 0 0) K N I L R 135 [(0, .ref x0), (1, .ref x1), (2, .int x2), (4, .int x4)] [] := by
  delta w_X10_readType_135 at h
  refine z_aload_n hC (q := 0) dX10_readType_135 rfl rfl ?_
  obtain ⟨hk26, h⟩ := h
  obtain ⟨b27, hb27, h⟩ := h
  refine gf_RX10_12 hC dX10_readType_136 hk26 hb27 ?_
  obtain ⟨hk28, h⟩ := h
  obtain ⟨b29, hb29, h⟩ := h
  refine gf_RX10_148 hC dX10_readType_139 hk28 hb29 ?_
  refine z_iload_n hC (q := 2) dX10_readType_142 rfl rfl ?_
  refine z_iconst hC (v := 2) k_iconst_2 dX10_readType_143 ?_
  refine z_iload hC (q := 3) dX10_readType_144 rfl ?_
  refine z_bipush hC (v := 7) k_bipush_7 dX10_readType_146 ?_
  refine z_icmp_ne hC (tgt := 155) dX10_readType_148 (by decide) (fun hc => ?_) (fun hc => ?_)
  · have h := h.1 hc
    refine z_iconst hC (v := 0) k_iconst_0 dX10_readType_155 ?_
    obtain ⟨hk30, h⟩ := h
    refine cl_RX10_125 hC (c_X7_put _ G b29 x2 2 0 K N I L R _ h) hk30 dX10_readType_156 (by rw [hRm]; exact ⟨Nat.le_of_ble_eq_true rfl, Nat.le_of_ble_eq_true rfl⟩) ⟨Nat.zero_le _, Nat.zero_le _⟩ (Nat.le_of_ble_eq_true rfl) (z_kIv (I := I) (fun I31 h => ?_))
    refine z_aload_n hC (q := 1) dX10_readType_159 rfl rfl ?_
    obtain ⟨hk32, h⟩ := h
    refine cl_RX10_68 hC (c_X8_advance _ G x1 K N I31 L R _ h) hk32 dX10_readType_160 (by rw [hRm]; exact ⟨Nat.le_of_ble_eq_true rfl, Nat.le_of_ble_eq_true rfl⟩) ⟨Nat.zero_le _, Nat.zero_le _⟩ (Nat.le_of_ble_eq_true rfl) (z_kLv (I := I31) (L := L) (fun I33 L34 h => ?_))
    refine z_iconst hC (v := 1) k_iconst_1 dX10_readType_163 ?_
    exact z_zret (b := true) hC dX10_readType_164 rfl ⟨true, rfl, rfl, rfl, rfl, h⟩
  · have h := h.2 hc
    refine z_iconst hC (v := 1) k_iconst_1 dX10_readType_151 ?_
    refine z_goto hC (tgt := 156) dX10_readType_152 (by decide) ?_
    obtain ⟨hk35, h⟩ := h
    refine cl_RX10_125 hC (c_X7_put _ G b29 x2 2 1 K N I L R _ h) hk35 dX10_readType_156 (by rw [hRm]; exact ⟨Nat.le_of_ble_eq_true rfl, Nat.le_of_ble_eq_true rfl⟩) ⟨Nat.zero_le _, Nat.zero_le _⟩ (Nat.le_of_ble_eq_true rfl) (z_kIv (I := I) (fun I36 h => ?_))
    refine z_aload_n hC (q := 1) dX10_readType_159 rfl rfl ?_
    obtain ⟨hk37, h⟩ := h
    refine cl_RX10_68 hC (c_X8_advance _ G x1 K N I36 L R _ h) hk37 dX10_readType_160 (by rw [hRm]; exact ⟨Nat.le_of_ble_eq_true rfl, Nat.le_of_ble_eq_true rfl⟩) ⟨Nat.zero_le _, Nat.zero_le _⟩ (Nat.le_of_ble_eq_true rfl) (z_kLv (I := I36) (L := L) (fun I38 L39 h => ?_))
    refine z_iconst hC (v := 1) k_iconst_1 dX10_readType_163 ?_
    exact z_zret (b := true) hC dX10_readType_164 rfl ⟨true, rfl, rfl, rfl, rfl, h⟩
set_option maxHeartbeats 4000000 in
set_option maxRecDepth 100000 in
theorem c_X10_readType  (l : Launch) (G : ZG) (a0 : Nat) (a1 : Nat) (K : MK) (N : MK) (I : MI) (L : ML) (R : MR) (Q : Bool → MI → ML → Prop) (h : w_X10_readType a0 a1 K N I L R Q) : Met l yX10_readType (.code yX10_readType cX10_readType 5 (some .boolean) :: z_tbl) rm_X10_readType (z_Pc G [.ref a0, .ref a1] K N I L R) (z_Qc G (qLz K N R Q)) 0 0 (z_A G) := by
  refine z_met (by decide) (Nat.le_of_ble_eq_true rfl) (fun X hX hRm hC0 hnm => ?_)
  subst hX
  have hC : ZOk X G RX10 cX10_readType 5 (some .boolean) := hC0
  show Z X G 5 0 0 _ K N I L R 0 [(0, .ref a0), (1, .ref a1)] []
  delta w_X10_readType at h
  refine z_aload_n hC (q := 0) dX10_readType_0 rfl rfl ?_
  obtain ⟨hk1, h⟩ := h
  obtain ⟨b2, hb2, h⟩ := h
  refine gf_RX10_12 hC dX10_readType_1 hk1 hb2 ?_
  obtain ⟨hk3, h⟩ := h
  obtain ⟨b4, hb4, h⟩ := h
  refine gf_RX10_148 hC dX10_readType_4 hk3 hb4 ?_
  obtain ⟨hk5, h⟩ := h
  refine gf_RX10_132 hC dX10_readType_7 hk5 ?_
  refine z_topi (fun v6 ev6 => ?_)
  have h := h v6 ev6
  refine z_istore_n hC (lv1 := [(2, .int v6), (0, .ref a0), (1, .ref a1)]) dX10_readType_10 rfl (by decide) rfl ?_
  refine z_aload_n hC (q := 1) dX10_readType_11 rfl rfl ?_
  refine z_aload_n hC (q := 2) dX10_readType_12 rfl rfl ?_
  refine z_aload_n hC (q := 1) dX10_readType_13 rfl rfl ?_
  refine gf_RX10_12 hC dX10_readType_14 hk1 hb2 ?_
  refine gf_RX10_148 hC dX10_readType_17 hk3 hb4 ?_
  refine cl_RX10_91 hC (c_X10_beginSort _ G a0 a1 b4 K N I L R _ h) hk1 dX10_readType_20 (by rw [hRm]; exact ⟨Nat.le_of_ble_eq_true rfl, Nat.le_of_ble_eq_true rfl⟩) ⟨Nat.zero_le _, Nat.zero_le _⟩ (Nat.le_of_ble_eq_true rfl) (z_kLz (I := I) (L := L) (fun r7 I8 L9 h => ?_))
  refine z_ifz_eq hC (tgt := 51) dX10_readType_23 (by decide) (fun hc => ?_) (fun hc => ?_)
  · have h := h.1 hc
    refine z_iconst hC (v := 0) k_iconst_0 dX10_readType_51 ?_
    exact z_zret (b := false) hC dX10_readType_52 rfl ⟨false, rfl, rfl, rfl, rfl, h⟩
  · have h := h.2 hc
    refine z_aload_n hC (q := 1) dX10_readType_26 rfl rfl ?_
    refine z_aload_n hC (q := 2) dX10_readType_27 rfl rfl ?_
    refine z_aload_n hC (q := 1) dX10_readType_28 rfl rfl ?_
    refine gf_RX10_12 hC dX10_readType_29 hk1 hb2 ?_
    refine gf_RX10_148 hC dX10_readType_32 hk3 hb4 ?_
    refine cl_RX10_135 hC (c_X10_readNewName _ G a0 a1 b4 K N I8 L9 R _ h) hk1 dX10_readType_35 (by rw [hRm]; exact ⟨Nat.le_of_ble_eq_true rfl, Nat.le_of_ble_eq_true rfl⟩) ⟨Nat.zero_le _, Nat.zero_le _⟩ (Nat.le_of_ble_eq_true rfl) (z_kLz (I := I8) (L := L9) (fun r10 I11 L12 h => ?_))
    refine z_ifz_eq hC (tgt := 51) dX10_readType_38 (by decide) (fun hc => ?_) (fun hc => ?_)
    · have h := h.1 hc
      refine z_iconst hC (v := 0) k_iconst_0 dX10_readType_51 ?_
      exact z_zret (b := false) hC dX10_readType_52 rfl ⟨false, rfl, rfl, rfl, rfl, h⟩
    · have h := h.2 hc
      refine z_aload_n hC (q := 2) dX10_readType_41 rfl rfl ?_
      refine z_iconst hC (v := 0) k_iconst_0 dX10_readType_42 ?_
      refine z_bipush hC (v := 15) k_bipush_15 dX10_readType_43 ?_
      obtain ⟨hk13, h⟩ := h
      refine cl_RX10_71 hC (c_X8_needsNumber _ G a1 0 15 K N I11 L12 R _ h) hk13 dX10_readType_45 (by rw [hRm]; exact ⟨Nat.le_of_ble_eq_true rfl, Nat.le_of_ble_eq_true rfl⟩) ⟨Nat.zero_le _, Nat.zero_le _⟩ (Nat.le_of_ble_eq_true rfl) (z_kIz (I := I11) (fun r14 I15 h => ?_))
      refine z_ifz_ne hC (tgt := 53) dX10_readType_48 (by decide) (fun hc => ?_) (fun hc => ?_)
      · have h := h.1 hc
        refine z_aload_n hC (q := 2) dX10_readType_53 rfl rfl ?_
        refine gf_RX10_75 hC dX10_readType_54 hk13 ?_
        refine z_topi (fun v16 ev16 => ?_)
        have h := h v16 ev16
        refine z_istore_n hC (lv1 := [(3, .int v16), (2, .int v6), (0, .ref a0), (1, .ref a1)]) dX10_readType_57 rfl (by decide) rfl ?_
        refine z_aload_n hC (q := 3) dX10_readType_58 rfl rfl ?_
        refine cl_RX10_68 hC (c_X8_advance _ G a1 K N I15 L12 R _ h) hk13 dX10_readType_59 (by rw [hRm]; exact ⟨Nat.le_of_ble_eq_true rfl, Nat.le_of_ble_eq_true rfl⟩) ⟨Nat.zero_le _, Nat.zero_le _⟩ (Nat.le_of_ble_eq_true rfl) (z_kLv (I := I15) (L := L12) (fun I17 L18 h => ?_))
        refine z_aload_n hC (q := 3) dX10_readType_62 rfl rfl ?_
        refine z_iconst hC (v := 1) k_iconst_1 dX10_readType_63 ?_
        refine z_bipush hC (v := 16) k_bipush_16 dX10_readType_64 ?_
        refine z_iload_n hC (q := 0) dX10_readType_66 rfl rfl ?_
        refine z_isub hC dX10_readType_67 ?_
        refine cl_RX10_71 hC (c_X8_needsNumber _ G a1 1 ((16 : Int32) - v16) K N I17 L18 R _ h) hk13 dX10_readType_68 (by rw [hRm]; exact ⟨Nat.le_of_ble_eq_true rfl, Nat.le_of_ble_eq_true rfl⟩) ⟨Nat.zero_le _, Nat.zero_le _⟩ (Nat.le_of_ble_eq_true rfl) (z_kIz (I := I17) (fun r19 I20 h => ?_))
        refine z_ifz_ne hC (tgt := 76) dX10_readType_71 (by decide) (fun hc => ?_) (fun hc => ?_)
        · have h := h.1 hc
          refine z_aload_n hC (q := 2) dX10_readType_76 rfl rfl ?_
          refine gf_RX10_12 hC dX10_readType_77 hk1 hb2 ?_
          refine gf_RX10_148 hC dX10_readType_80 hk3 hb4 ?_
          refine z_iload_n hC (q := 1) dX10_readType_83 rfl rfl ?_
          refine z_iconst hC (v := 0) k_iconst_0 dX10_readType_84 ?_
          refine z_iload_n hC (q := 0) dX10_readType_85 rfl rfl ?_
          refine cl_RX10_125 hC (c_X7_put _ G b4 v6 0 v16 K N I20 L18 R _ h) hk5 dX10_readType_86 (by rw [hRm]; exact ⟨Nat.le_of_ble_eq_true rfl, Nat.le_of_ble_eq_true rfl⟩) ⟨Nat.zero_le _, Nat.zero_le _⟩ (Nat.le_of_ble_eq_true rfl) (z_kIv (I := I20) (fun I21 h => ?_))
          refine z_aload_n hC (q := 2) dX10_readType_89 rfl rfl ?_
          refine gf_RX10_12 hC dX10_readType_90 hk1 hb2 ?_
          refine gf_RX10_148 hC dX10_readType_93 hk3 hb4 ?_
          refine z_iload_n hC (q := 1) dX10_readType_96 rfl rfl ?_
          refine z_iconst hC (v := 1) k_iconst_1 dX10_readType_97 ?_
          refine z_aload_n hC (q := 3) dX10_readType_98 rfl rfl ?_
          refine gf_RX10_75 hC dX10_readType_99 hk13 ?_
          refine cl_RX10_125 hC (c_X7_put _ G b4 v6 1 (I21 a1 8) K N I21 L18 R _ h) hk5 dX10_readType_102 (by rw [hRm]; exact ⟨Nat.le_of_ble_eq_true rfl, Nat.le_of_ble_eq_true rfl⟩) ⟨Nat.zero_le _, Nat.zero_le _⟩ (Nat.le_of_ble_eq_true rfl) (z_kIv (I := I21) (fun I22 h => ?_))
          refine z_aload_n hC (q := 3) dX10_readType_105 rfl rfl ?_
          refine cl_RX10_68 hC (c_X8_advance _ G a1 K N I22 L18 R _ h) hk13 dX10_readType_106 (by rw [hRm]; exact ⟨Nat.le_of_ble_eq_true rfl, Nat.le_of_ble_eq_true rfl⟩) ⟨Nat.zero_le _, Nat.zero_le _⟩ (Nat.le_of_ble_eq_true rfl) (z_kLv (I := I22) (L := L18) (fun I23 L24 h => ?_))
          refine z_aload_n hC (q := 3) dX10_readType_109 rfl rfl ?_
          refine cl_RX10_37 hC (c_X8_wordHere _ G a1 K N I23 L24 R _ h) hk13 dX10_readType_110 (by rw [hRm]; exact ⟨Nat.le_of_ble_eq_true rfl, Nat.le_of_ble_eq_true rfl⟩) ⟨Nat.zero_le _, Nat.zero_le _⟩ (Nat.le_of_ble_eq_true rfl) (z_kPi (fun r25 h => ?_))
          refine z_istore hC (lv1 := [(4, .int r25), (3, .int v16), (2, .int v6), (0, .ref a0), (1, .ref a1)]) dX10_readType_113 (by decide) rfl ?_
          refine z_iload hC (q := 0) dX10_readType_115 rfl ?_
          refine z_bipush hC (v := 6) k_bipush_6 dX10_readType_117 ?_
          refine z_icmp_eq hC (tgt := 135) dX10_readType_119 (by decide) (fun hc => ?_) (fun hc => ?_)
          · have h := h.1 hc
            exact z_sub [(0, .ref a0), (1, .ref a1), (2, .int v6), (4, .int r25)] [3, 4, 2, 0] rfl (z_X10_readType_135 hC hRm h)
          · have h := h.2 hc
            refine z_iload hC (q := 0) dX10_readType_122 rfl ?_
            refine z_bipush hC (v := 7) k_bipush_7 dX10_readType_124 ?_
            refine z_icmp_eq hC (tgt := 135) dX10_readType_126 (by decide) (fun hc => ?_) (fun hc => ?_)
            · have h := h.1 hc
              exact z_sub [(0, .ref a0), (1, .ref a1), (2, .int v6), (4, .int r25)] [3, 4, 2, 0] rfl (z_X10_readType_135 hC hRm h)
            · have h := h.2 hc
              refine z_aload_n hC (q := 4) dX10_readType_129 rfl rfl ?_
              refine z_iconst hC (v := 1) k_iconst_1 dX10_readType_130 ?_
              refine cl_RX10_60 hC (c_X8_fail _ G a1 1 K N I23 L24 R _ h) hk13 dX10_readType_131 (by rw [hRm]; exact ⟨Nat.le_of_ble_eq_true rfl, Nat.le_of_ble_eq_true rfl⟩) ⟨Nat.zero_le _, Nat.zero_le _⟩ (Nat.le_of_ble_eq_true rfl) (z_kIz (I := I23) (fun r40 I41 h => ?_))
              exact z_zret (b := r40) hC dX10_readType_134 rfl ⟨r40, rfl, rfl, rfl, rfl, h⟩
        · have h := h.2 hc
          refine z_iconst hC (v := 0) k_iconst_0 dX10_readType_74 ?_
          exact z_zret (b := false) hC dX10_readType_75 rfl ⟨false, rfl, rfl, rfl, rfl, h⟩
      · have h := h.2 hc
        refine z_iconst hC (v := 0) k_iconst_0 dX10_readType_51 ?_
        exact z_zret (b := false) hC dX10_readType_52 rfl ⟨false, rfl, rfl, rfl, rfl, h⟩
def w_X10_readToldName  (a0 : Nat) (a1 : Nat) (a2 : Nat) (K : MK) (N : MK) (I : MI) (L : ML) (R : MR) (Q : Int32 → MI → ML → Prop) : Prop := K a1 = 9 ∧ w_X8_needsName a1 K N I L R (fun r2 I3 => (r2 = true → K a2 = 8 ∧ w_X7_find a2 (L a1 6) K N I3 L R (fun r5 => (¬ r5 = (-1) → w_X8_advance a1 K N I3 L R (fun I6 L7 => Q r5 I6 L7)) ∧ (r5 = (-1) → w_X8_fail a1 3 K N I3 L R (fun r8 I9 => Q r5 I9 L)))) ∧ (r2 = false → Q (-1) I3 L))
set_option maxHeartbeats 4000000 in
set_option maxRecDepth 100000 in
theorem c_X10_readToldName  (l : Launch) (G : ZG) (a0 : Nat) (a1 : Nat) (a2 : Nat) (K : MK) (N : MK) (I : MI) (L : ML) (R : MR) (Q : Int32 → MI → ML → Prop) (h : w_X10_readToldName a0 a1 a2 K N I L R Q) : Met l yX10_readToldName (.code yX10_readToldName cX10_readToldName 4 (some .int) :: z_tbl) rm_X10_readToldName (z_Pc G [.ref a0, .ref a1, .ref a2] K N I L R) (z_Qc G (qLi K N R Q)) 0 0 (z_A G) := by
  refine z_met (by decide) (Nat.le_of_ble_eq_true rfl) (fun X hX hRm hC0 hnm => ?_)
  subst hX
  have hC : ZOk X G RX10 cX10_readToldName 4 (some .int) := hC0
  show Z X G 4 0 0 _ K N I L R 0 [(0, .ref a0), (1, .ref a1), (2, .ref a2)] []
  delta w_X10_readToldName at h
  refine z_aload_n hC (q := 1) dX10_readToldName_0 rfl rfl ?_
  obtain ⟨hk1, h⟩ := h
  refine cl_RX10_107 hC (c_X8_needsName _ G a1 K N I L R _ h) hk1 dX10_readToldName_1 (by rw [hRm]; exact ⟨Nat.le_of_ble_eq_true rfl, Nat.le_of_ble_eq_true rfl⟩) ⟨Nat.zero_le _, Nat.zero_le _⟩ (Nat.le_of_ble_eq_true rfl) (z_kIz (I := I) (fun r2 I3 h => ?_))
  refine z_ifz_ne hC (tgt := 9) dX10_readToldName_4 (by decide) (fun hc => ?_) (fun hc => ?_)
  · have h := h.1 hc
    refine z_aload_n hC (q := 2) dX10_readToldName_9 rfl rfl ?_
    refine z_aload_n hC (q := 1) dX10_readToldName_10 rfl rfl ?_
    refine gf_RX10_110 hC dX10_readToldName_11 hk1 ?_
    obtain ⟨hk4, h⟩ := h
    refine cl_RX10_122 hC (c_X7_find _ G a2 (L a1 6) K N I3 L R _ h) hk4 dX10_readToldName_14 (by rw [hRm]; exact ⟨Nat.le_of_ble_eq_true rfl, Nat.le_of_ble_eq_true rfl⟩) ⟨Nat.zero_le _, Nat.zero_le _⟩ (Nat.le_of_ble_eq_true rfl) (z_kPi (fun r5 h => ?_))
    refine z_istore_n hC (lv1 := [(3, .int r5), (0, .ref a0), (1, .ref a1), (2, .ref a2)]) dX10_readToldName_17 rfl (by decide) rfl ?_
    refine z_iload_n hC (q := 0) dX10_readToldName_18 rfl rfl ?_
    refine z_iconst hC (v := (-1)) k_iconst_m1 dX10_readToldName_19 ?_
    refine z_icmp_ne hC (tgt := 32) dX10_readToldName_20 (by decide) (fun hc => ?_) (fun hc => ?_)
    · have h := h.1 hc
      refine z_aload_n hC (q := 2) dX10_readToldName_32 rfl rfl ?_
      refine cl_RX10_68 hC (c_X8_advance _ G a1 K N I3 L R _ h) hk1 dX10_readToldName_33 (by rw [hRm]; exact ⟨Nat.le_of_ble_eq_true rfl, Nat.le_of_ble_eq_true rfl⟩) ⟨Nat.zero_le _, Nat.zero_le _⟩ (Nat.le_of_ble_eq_true rfl) (z_kLv (I := I3) (L := L) (fun I6 L7 h => ?_))
      refine z_iload_n hC (q := 0) dX10_readToldName_36 rfl rfl ?_
      exact z_iret hC dX10_readToldName_37 ⟨_, rfl, rfl, rfl, rfl, h⟩
    · have h := h.2 hc
      refine z_aload_n hC (q := 2) dX10_readToldName_23 rfl rfl ?_
      refine z_iconst hC (v := 3) k_iconst_3 dX10_readToldName_24 ?_
      refine cl_RX10_60 hC (c_X8_fail _ G a1 3 K N I3 L R _ h) hk1 dX10_readToldName_25 (by rw [hRm]; exact ⟨Nat.le_of_ble_eq_true rfl, Nat.le_of_ble_eq_true rfl⟩) ⟨Nat.zero_le _, Nat.zero_le _⟩ (Nat.le_of_ble_eq_true rfl) (z_kIz (I := I3) (fun r8 I9 h => ?_))
      refine z_pop hC rfl dX10_readToldName_28 ?_
      refine z_goto hC (tgt := 36) dX10_readToldName_29 (by decide) ?_
      refine z_iload_n hC (q := 0) dX10_readToldName_36 rfl rfl ?_
      exact z_iret hC dX10_readToldName_37 ⟨_, rfl, rfl, rfl, rfl, h⟩
  · have h := h.2 hc
    refine z_iconst hC (v := (-1)) k_iconst_m1 dX10_readToldName_7 ?_
    exact z_iret hC dX10_readToldName_8 ⟨_, rfl, rfl, rfl, rfl, h⟩
def w_X10_readVar  (a0 : Nat) (a1 : Nat) (K : MK) (N : MK) (I : MI) (L : ML) (R : MR) (Q : Bool → MI → ML → Prop) : Prop := K a0 = 11 ∧ ∃ b2 : Nat, R a0 0 = some b2 ∧ K b2 = 10 ∧ ∃ b4 : Nat, R b2 4 = some b4 ∧ K b4 = 8 ∧ ∀ v6 : Int32, v6 = (I b4 3) → w_X10_beginSort a0 a1 b4 K N I L R (fun r7 I8 L9 => (r7 = false → Q false I8 L9) ∧ (r7 = true → w_X10_readNewName a0 a1 b4 K N I8 L9 R (fun r10 I11 L12 => (r10 = true → ∃ b13 : Nat, R b2 2 = some b13 ∧ w_X10_readToldName a0 a1 b13 K N I11 L12 R (fun r14 I15 L16 => (¬ r14 = (-1) → ∃ b17 : Nat, R b2 3 = some b17 ∧ w_X10_readToldName a0 a1 b17 K N I15 L16 R (fun r18 I19 L20 => w_X7_put b4 v6 0 r14 K N I19 L20 R (fun I21 => w_X7_put b4 v6 1 r18 K N I21 L20 R (fun I22 => (r18 = (-1) → Q false I22 L20) ∧ (¬ r18 = (-1) → Q true I22 L20))))) ∧ (r14 = (-1) → Q false I15 L16))) ∧ (r10 = false → Q false I11 L12))))
set_option maxHeartbeats 4000000 in
set_option maxRecDepth 100000 in
theorem c_X10_readVar  (l : Launch) (G : ZG) (a0 : Nat) (a1 : Nat) (K : MK) (N : MK) (I : MI) (L : ML) (R : MR) (Q : Bool → MI → ML → Prop) (h : w_X10_readVar a0 a1 K N I L R Q) : Met l yX10_readVar (.code yX10_readVar cX10_readVar 5 (some .boolean) :: z_tbl) rm_X10_readVar (z_Pc G [.ref a0, .ref a1] K N I L R) (z_Qc G (qLz K N R Q)) 0 0 (z_A G) := by
  refine z_met (by decide) (Nat.le_of_ble_eq_true rfl) (fun X hX hRm hC0 hnm => ?_)
  subst hX
  have hC : ZOk X G RX10 cX10_readVar 5 (some .boolean) := hC0
  show Z X G 5 0 0 _ K N I L R 0 [(0, .ref a0), (1, .ref a1)] []
  delta w_X10_readVar at h
  refine z_aload_n hC (q := 0) dX10_readVar_0 rfl rfl ?_
  obtain ⟨hk1, h⟩ := h
  obtain ⟨b2, hb2, h⟩ := h
  refine gf_RX10_12 hC dX10_readVar_1 hk1 hb2 ?_
  obtain ⟨hk3, h⟩ := h
  obtain ⟨b4, hb4, h⟩ := h
  refine gf_RX10_151 hC dX10_readVar_4 hk3 hb4 ?_
  obtain ⟨hk5, h⟩ := h
  refine gf_RX10_132 hC dX10_readVar_7 hk5 ?_
  refine z_topi (fun v6 ev6 => ?_)
  have h := h v6 ev6
  refine z_istore_n hC (lv1 := [(2, .int v6), (0, .ref a0), (1, .ref a1)]) dX10_readVar_10 rfl (by decide) rfl ?_
  refine z_aload_n hC (q := 1) dX10_readVar_11 rfl rfl ?_
  refine z_aload_n hC (q := 2) dX10_readVar_12 rfl rfl ?_
  refine z_aload_n hC (q := 1) dX10_readVar_13 rfl rfl ?_
  refine gf_RX10_12 hC dX10_readVar_14 hk1 hb2 ?_
  refine gf_RX10_151 hC dX10_readVar_17 hk3 hb4 ?_
  refine cl_RX10_91 hC (c_X10_beginSort _ G a0 a1 b4 K N I L R _ h) hk1 dX10_readVar_20 (by rw [hRm]; exact ⟨Nat.le_of_ble_eq_true rfl, Nat.le_of_ble_eq_true rfl⟩) ⟨Nat.zero_le _, Nat.zero_le _⟩ (Nat.le_of_ble_eq_true rfl) (z_kLz (I := I) (L := L) (fun r7 I8 L9 h => ?_))
  refine z_ifz_eq hC (tgt := 41) dX10_readVar_23 (by decide) (fun hc => ?_) (fun hc => ?_)
  · have h := h.1 hc
    refine z_iconst hC (v := 0) k_iconst_0 dX10_readVar_41 ?_
    exact z_zret (b := false) hC dX10_readVar_42 rfl ⟨false, rfl, rfl, rfl, rfl, h⟩
  · have h := h.2 hc
    refine z_aload_n hC (q := 1) dX10_readVar_26 rfl rfl ?_
    refine z_aload_n hC (q := 2) dX10_readVar_27 rfl rfl ?_
    refine z_aload_n hC (q := 1) dX10_readVar_28 rfl rfl ?_
    refine gf_RX10_12 hC dX10_readVar_29 hk1 hb2 ?_
    refine gf_RX10_151 hC dX10_readVar_32 hk3 hb4 ?_
    refine cl_RX10_135 hC (c_X10_readNewName _ G a0 a1 b4 K N I8 L9 R _ h) hk1 dX10_readVar_35 (by rw [hRm]; exact ⟨Nat.le_of_ble_eq_true rfl, Nat.le_of_ble_eq_true rfl⟩) ⟨Nat.zero_le _, Nat.zero_le _⟩ (Nat.le_of_ble_eq_true rfl) (z_kLz (I := I8) (L := L9) (fun r10 I11 L12 h => ?_))
    refine z_ifz_ne hC (tgt := 43) dX10_readVar_38 (by decide) (fun hc => ?_) (fun hc => ?_)
    · have h := h.1 hc
      refine z_aload_n hC (q := 1) dX10_readVar_43 rfl rfl ?_
      refine z_aload_n hC (q := 2) dX10_readVar_44 rfl rfl ?_
      refine z_aload_n hC (q := 1) dX10_readVar_45 rfl rfl ?_
      refine gf_RX10_12 hC dX10_readVar_46 hk1 hb2 ?_
      obtain ⟨b13, hb13, h⟩ := h
      refine gf_RX10_129 hC dX10_readVar_49 hk3 hb13 ?_
      refine cl_RX10_154 hC (c_X10_readToldName _ G a0 a1 b13 K N I11 L12 R _ h) hk1 dX10_readVar_52 (by rw [hRm]; exact ⟨Nat.le_of_ble_eq_true rfl, Nat.le_of_ble_eq_true rfl⟩) ⟨Nat.zero_le _, Nat.zero_le _⟩ (Nat.le_of_ble_eq_true rfl) (z_kLi (I := I11) (L := L12) (fun r14 I15 L16 h => ?_))
      refine z_istore_n hC (lv1 := [(3, .int r14), (2, .int v6), (0, .ref a0), (1, .ref a1)]) dX10_readVar_55 rfl (by decide) rfl ?_
      refine z_iload_n hC (q := 0) dX10_readVar_56 rfl rfl ?_
      refine z_iconst hC (v := (-1)) k_iconst_m1 dX10_readVar_57 ?_
      refine z_icmp_ne hC (tgt := 63) dX10_readVar_58 (by decide) (fun hc => ?_) (fun hc => ?_)
      · have h := h.1 hc
        refine z_aload_n hC (q := 2) dX10_readVar_63 rfl rfl ?_
        refine z_aload_n hC (q := 3) dX10_readVar_64 rfl rfl ?_
        refine z_aload_n hC (q := 2) dX10_readVar_65 rfl rfl ?_
        refine gf_RX10_12 hC dX10_readVar_66 hk1 hb2 ?_
        obtain ⟨b17, hb17, h⟩ := h
        refine gf_RX10_148 hC dX10_readVar_69 hk3 hb17 ?_
        refine cl_RX10_154 hC (c_X10_readToldName _ G a0 a1 b17 K N I15 L16 R _ h) hk1 dX10_readVar_72 (by rw [hRm]; exact ⟨Nat.le_of_ble_eq_true rfl, Nat.le_of_ble_eq_true rfl⟩) ⟨Nat.zero_le _, Nat.zero_le _⟩ (Nat.le_of_ble_eq_true rfl) (z_kLi (I := I15) (L := L16) (fun r18 I19 L20 h => ?_))
        refine z_istore hC (lv1 := [(4, .int r18), (3, .int r14), (2, .int v6), (0, .ref a0), (1, .ref a1)]) dX10_readVar_75 (by decide) rfl ?_
        refine z_aload_n hC (q := 3) dX10_readVar_77 rfl rfl ?_
        refine gf_RX10_12 hC dX10_readVar_78 hk1 hb2 ?_
        refine gf_RX10_151 hC dX10_readVar_81 hk3 hb4 ?_
        refine z_iload_n hC (q := 2) dX10_readVar_84 rfl rfl ?_
        refine z_iconst hC (v := 0) k_iconst_0 dX10_readVar_85 ?_
        refine z_iload_n hC (q := 1) dX10_readVar_86 rfl rfl ?_
        refine cl_RX10_125 hC (c_X7_put _ G b4 v6 0 r14 K N I19 L20 R _ h) hk5 dX10_readVar_87 (by rw [hRm]; exact ⟨Nat.le_of_ble_eq_true rfl, Nat.le_of_ble_eq_true rfl⟩) ⟨Nat.zero_le _, Nat.zero_le _⟩ (Nat.le_of_ble_eq_true rfl) (z_kIv (I := I19) (fun I21 h => ?_))
        refine z_aload_n hC (q := 3) dX10_readVar_90 rfl rfl ?_
        refine gf_RX10_12 hC dX10_readVar_91 hk1 hb2 ?_
        refine gf_RX10_151 hC dX10_readVar_94 hk3 hb4 ?_
        refine z_iload_n hC (q := 2) dX10_readVar_97 rfl rfl ?_
        refine z_iconst hC (v := 1) k_iconst_1 dX10_readVar_98 ?_
        refine z_iload hC (q := 0) dX10_readVar_99 rfl ?_
        refine cl_RX10_125 hC (c_X7_put _ G b4 v6 1 r18 K N I21 L20 R _ h) hk5 dX10_readVar_101 (by rw [hRm]; exact ⟨Nat.le_of_ble_eq_true rfl, Nat.le_of_ble_eq_true rfl⟩) ⟨Nat.zero_le _, Nat.zero_le _⟩ (Nat.le_of_ble_eq_true rfl) (z_kIv (I := I21) (fun I22 h => ?_))
        refine z_iload hC (q := 0) dX10_readVar_104 rfl ?_
        refine z_iconst hC (v := (-1)) k_iconst_m1 dX10_readVar_106 ?_
        refine z_icmp_eq hC (tgt := 114) dX10_readVar_107 (by decide) (fun hc => ?_) (fun hc => ?_)
        · have h := h.1 hc
          refine z_iconst hC (v := 0) k_iconst_0 dX10_readVar_114 ?_
          exact z_zret (b := false) hC dX10_readVar_115 rfl ⟨false, rfl, rfl, rfl, rfl, h⟩
        · have h := h.2 hc
          refine z_iconst hC (v := 1) k_iconst_1 dX10_readVar_110 ?_
          refine z_goto hC (tgt := 115) dX10_readVar_111 (by decide) ?_
          exact z_zret (b := true) hC dX10_readVar_115 rfl ⟨true, rfl, rfl, rfl, rfl, h⟩
      · have h := h.2 hc
        refine z_iconst hC (v := 0) k_iconst_0 dX10_readVar_61 ?_
        exact z_zret (b := false) hC dX10_readVar_62 rfl ⟨false, rfl, rfl, rfl, rfl, h⟩
    · have h := h.2 hc
      refine z_iconst hC (v := 0) k_iconst_0 dX10_readVar_41 ?_
      exact z_zret (b := false) hC dX10_readVar_42 rfl ⟨false, rfl, rfl, rfl, rfl, h⟩
def w_X10_addOp  (a0 : Nat) (a1 : Int32) (a2 : Int32) (a3 : Int32) (K : MK) (N : MK) (I : MI) (L : ML) (R : MR) (Q : MI → Prop) : Prop := K a0 = 11 ∧ ∃ b2 : Nat, R a0 0 = some b2 ∧ K b2 = 10 ∧ ∃ b4 : Nat, R b2 5 = some b4 ∧ K b4 = 8 ∧ w_X7_at b4 a1 4 K N I L R (fun r6 => w_X7_put b4 a1 ((5 : Int32) + ((2 : Int32) * r6)) a2 K N I L R (fun I7 => w_X7_put b4 a1 (((5 : Int32) + ((2 : Int32) * r6)) + 1) a3 K N I7 L R (fun I8 => w_X7_put b4 a1 4 (r6 + 1) K N I8 L R (fun I9 => Q I9))))
set_option maxHeartbeats 4000000 in
set_option maxRecDepth 100000 in
theorem c_X10_addOp  (l : Launch) (G : ZG) (a0 : Nat) (a1 : Int32) (a2 : Int32) (a3 : Int32) (K : MK) (N : MK) (I : MI) (L : ML) (R : MR) (Q : MI → Prop) (h : w_X10_addOp a0 a1 a2 a3 K N I L R Q) : Met l yX10_addOp (.code yX10_addOp cX10_addOp 5 none :: z_tbl) rm_X10_addOp (z_Pc G [.ref a0, .int a1, .int a2, .int a3] K N I L R) (z_Qc G (qIv K N L R Q)) 0 0 (z_A G) := by
  refine z_met (by decide) (Nat.le_of_ble_eq_true rfl) (fun X hX hRm hC0 hnm => ?_)
  subst hX
  have hC : ZOk X G RX10 cX10_addOp 5 none := hC0
  show Z X G 5 0 0 _ K N I L R 0 [(0, .ref a0), (1, .int a1), (2, .int a2), (3, .int a3)] []
  delta w_X10_addOp at h
  refine z_aload_n hC (q := 0) dX10_addOp_0 rfl rfl ?_
  obtain ⟨hk1, h⟩ := h
  obtain ⟨b2, hb2, h⟩ := h
  refine gf_RX10_12 hC dX10_addOp_1 hk1 hb2 ?_
  obtain ⟨hk3, h⟩ := h
  obtain ⟨b4, hb4, h⟩ := h
  refine gf_RX10_158 hC dX10_addOp_4 hk3 hb4 ?_
  refine z_iload_n hC (q := 1) dX10_addOp_7 rfl rfl ?_
  refine z_iconst hC (v := 4) k_iconst_4 dX10_addOp_8 ?_
  obtain ⟨hk5, h⟩ := h
  refine cl_RX10_99 hC (c_X7_at _ G b4 a1 4 K N I L R _ h) hk5 dX10_addOp_9 (by rw [hRm]; exact ⟨Nat.le_of_ble_eq_true rfl, Nat.le_of_ble_eq_true rfl⟩) ⟨Nat.zero_le _, Nat.zero_le _⟩ (Nat.le_of_ble_eq_true rfl) (z_kPi (fun r6 h => ?_))
  refine z_istore hC (lv1 := [(4, .int r6), (0, .ref a0), (1, .int a1), (2, .int a2), (3, .int a3)]) dX10_addOp_12 (by decide) rfl ?_
  refine z_aload_n hC (q := 1) dX10_addOp_14 rfl rfl ?_
  refine gf_RX10_12 hC dX10_addOp_15 hk1 hb2 ?_
  refine gf_RX10_158 hC dX10_addOp_18 hk3 hb4 ?_
  refine z_iload_n hC (q := 2) dX10_addOp_21 rfl rfl ?_
  refine z_iconst hC (v := 5) k_iconst_5 dX10_addOp_22 ?_
  refine z_iconst hC (v := 2) k_iconst_2 dX10_addOp_23 ?_
  refine z_iload hC (q := 0) dX10_addOp_24 rfl ?_
  refine z_imul hC dX10_addOp_26 ?_
  refine z_iadd hC dX10_addOp_27 ?_
  refine z_iload_n hC (q := 3) dX10_addOp_28 rfl rfl ?_
  refine cl_RX10_125 hC (c_X7_put _ G b4 a1 ((5 : Int32) + ((2 : Int32) * r6)) a2 K N I L R _ h) hk5 dX10_addOp_29 (by rw [hRm]; exact ⟨Nat.le_of_ble_eq_true rfl, Nat.le_of_ble_eq_true rfl⟩) ⟨Nat.zero_le _, Nat.zero_le _⟩ (Nat.le_of_ble_eq_true rfl) (z_kIv (I := I) (fun I7 h => ?_))
  refine z_aload_n hC (q := 1) dX10_addOp_32 rfl rfl ?_
  refine gf_RX10_12 hC dX10_addOp_33 hk1 hb2 ?_
  refine gf_RX10_158 hC dX10_addOp_36 hk3 hb4 ?_
  refine z_iload_n hC (q := 2) dX10_addOp_39 rfl rfl ?_
  refine z_iconst hC (v := 5) k_iconst_5 dX10_addOp_40 ?_
  refine z_iconst hC (v := 2) k_iconst_2 dX10_addOp_41 ?_
  refine z_iload hC (q := 0) dX10_addOp_42 rfl ?_
  refine z_imul hC dX10_addOp_44 ?_
  refine z_iadd hC dX10_addOp_45 ?_
  refine z_iconst hC (v := 1) k_iconst_1 dX10_addOp_46 ?_
  refine z_iadd hC dX10_addOp_47 ?_
  refine z_iload_n hC (q := 4) dX10_addOp_48 rfl rfl ?_
  refine cl_RX10_125 hC (c_X7_put _ G b4 a1 (((5 : Int32) + ((2 : Int32) * r6)) + 1) a3 K N I7 L R _ h) hk5 dX10_addOp_49 (by rw [hRm]; exact ⟨Nat.le_of_ble_eq_true rfl, Nat.le_of_ble_eq_true rfl⟩) ⟨Nat.zero_le _, Nat.zero_le _⟩ (Nat.le_of_ble_eq_true rfl) (z_kIv (I := I7) (fun I8 h => ?_))
  refine z_aload_n hC (q := 1) dX10_addOp_52 rfl rfl ?_
  refine gf_RX10_12 hC dX10_addOp_53 hk1 hb2 ?_
  refine gf_RX10_158 hC dX10_addOp_56 hk3 hb4 ?_
  refine z_iload_n hC (q := 2) dX10_addOp_59 rfl rfl ?_
  refine z_iconst hC (v := 4) k_iconst_4 dX10_addOp_60 ?_
  refine z_iload hC (q := 0) dX10_addOp_61 rfl ?_
  refine z_iconst hC (v := 1) k_iconst_1 dX10_addOp_63 ?_
  refine z_iadd hC dX10_addOp_64 ?_
  refine cl_RX10_125 hC (c_X7_put _ G b4 a1 4 (r6 + 1) K N I8 L R _ h) hk5 dX10_addOp_65 (by rw [hRm]; exact ⟨Nat.le_of_ble_eq_true rfl, Nat.le_of_ble_eq_true rfl⟩) ⟨Nat.zero_le _, Nat.zero_le _⟩ (Nat.le_of_ble_eq_true rfl) (z_kIv (I := I8) (fun I9 h => ?_))
  exact z_vret hC dX10_addOp_68 ⟨rfl, rfl, rfl, rfl, rfl, h⟩
def w_X10_readRegister  (a0 : Nat) (a1 : Nat) (a2 : Int32) (K : MK) (N : MK) (I : MI) (L : ML) (R : MR) (Q : Bool → MI → ML → Prop) : Prop := K a1 = 9 ∧ w_X8_advance a1 K N I L R (fun I2 L3 => w_X8_needsNumber a1 0 7 K N I2 L3 R (fun r4 I5 => (r4 = true → K a0 = 11 ∧ w_X10_addOp a0 a2 10 (I5 a1 8) K N I5 L3 R (fun I7 => ∃ b8 : Nat, R a0 0 = some b8 ∧ K b8 = 10 ∧ ∃ b10 : Nat, R b8 5 = some b10 ∧ K b10 = 8 ∧ w_X7_put b10 a2 3 1 K N I7 L3 R (fun I12 => w_X8_advance a1 K N I12 L3 R (fun I13 L14 => Q true I13 L14)))) ∧ (r4 = false → Q false I5 L3)))
set_option maxHeartbeats 4000000 in
set_option maxRecDepth 100000 in
theorem c_X10_readRegister  (l : Launch) (G : ZG) (a0 : Nat) (a1 : Nat) (a2 : Int32) (K : MK) (N : MK) (I : MI) (L : ML) (R : MR) (Q : Bool → MI → ML → Prop) (h : w_X10_readRegister a0 a1 a2 K N I L R Q) : Met l yX10_readRegister (.code yX10_readRegister cX10_readRegister 3 (some .boolean) :: z_tbl) rm_X10_readRegister (z_Pc G [.ref a0, .ref a1, .int a2] K N I L R) (z_Qc G (qLz K N R Q)) 0 0 (z_A G) := by
  refine z_met (by decide) (Nat.le_of_ble_eq_true rfl) (fun X hX hRm hC0 hnm => ?_)
  subst hX
  have hC : ZOk X G RX10 cX10_readRegister 3 (some .boolean) := hC0
  show Z X G 3 0 0 _ K N I L R 0 [(0, .ref a0), (1, .ref a1), (2, .int a2)] []
  delta w_X10_readRegister at h
  refine z_aload_n hC (q := 1) dX10_readRegister_0 rfl rfl ?_
  obtain ⟨hk1, h⟩ := h
  refine cl_RX10_68 hC (c_X8_advance _ G a1 K N I L R _ h) hk1 dX10_readRegister_1 (by rw [hRm]; exact ⟨Nat.le_of_ble_eq_true rfl, Nat.le_of_ble_eq_true rfl⟩) ⟨Nat.zero_le _, Nat.zero_le _⟩ (Nat.le_of_ble_eq_true rfl) (z_kLv (I := I) (L := L) (fun I2 L3 h => ?_))
  refine z_aload_n hC (q := 1) dX10_readRegister_4 rfl rfl ?_
  refine z_iconst hC (v := 0) k_iconst_0 dX10_readRegister_5 ?_
  refine z_bipush hC (v := 7) k_bipush_7 dX10_readRegister_6 ?_
  refine cl_RX10_71 hC (c_X8_needsNumber _ G a1 0 7 K N I2 L3 R _ h) hk1 dX10_readRegister_8 (by rw [hRm]; exact ⟨Nat.le_of_ble_eq_true rfl, Nat.le_of_ble_eq_true rfl⟩) ⟨Nat.zero_le _, Nat.zero_le _⟩ (Nat.le_of_ble_eq_true rfl) (z_kIz (I := I2) (fun r4 I5 h => ?_))
  refine z_ifz_ne hC (tgt := 16) dX10_readRegister_11 (by decide) (fun hc => ?_) (fun hc => ?_)
  · have h := h.1 hc
    refine z_aload_n hC (q := 0) dX10_readRegister_16 rfl rfl ?_
    refine z_iload_n hC (q := 2) dX10_readRegister_17 rfl rfl ?_
    refine z_bipush hC (v := 10) k_bipush_10 dX10_readRegister_18 ?_
    refine z_aload_n hC (q := 1) dX10_readRegister_20 rfl rfl ?_
    refine gf_RX10_75 hC dX10_readRegister_21 hk1 ?_
    obtain ⟨hk6, h⟩ := h
    refine cl_RX10_174 hC (c_X10_addOp _ G a0 a2 10 (I5 a1 8) K N I5 L3 R _ h) hk6 dX10_readRegister_24 (by rw [hRm]; exact ⟨Nat.le_of_ble_eq_true rfl, Nat.le_of_ble_eq_true rfl⟩) ⟨Nat.zero_le _, Nat.zero_le _⟩ (Nat.le_of_ble_eq_true rfl) (z_kIv (I := I5) (fun I7 h => ?_))
    refine z_aload_n hC (q := 0) dX10_readRegister_27 rfl rfl ?_
    obtain ⟨b8, hb8, h⟩ := h
    refine gf_RX10_12 hC dX10_readRegister_28 hk6 hb8 ?_
    obtain ⟨hk9, h⟩ := h
    obtain ⟨b10, hb10, h⟩ := h
    refine gf_RX10_158 hC dX10_readRegister_31 hk9 hb10 ?_
    refine z_iload_n hC (q := 2) dX10_readRegister_34 rfl rfl ?_
    refine z_iconst hC (v := 3) k_iconst_3 dX10_readRegister_35 ?_
    refine z_iconst hC (v := 1) k_iconst_1 dX10_readRegister_36 ?_
    obtain ⟨hk11, h⟩ := h
    refine cl_RX10_125 hC (c_X7_put _ G b10 a2 3 1 K N I7 L3 R _ h) hk11 dX10_readRegister_37 (by rw [hRm]; exact ⟨Nat.le_of_ble_eq_true rfl, Nat.le_of_ble_eq_true rfl⟩) ⟨Nat.zero_le _, Nat.zero_le _⟩ (Nat.le_of_ble_eq_true rfl) (z_kIv (I := I7) (fun I12 h => ?_))
    refine z_aload_n hC (q := 1) dX10_readRegister_40 rfl rfl ?_
    refine cl_RX10_68 hC (c_X8_advance _ G a1 K N I12 L3 R _ h) hk1 dX10_readRegister_41 (by rw [hRm]; exact ⟨Nat.le_of_ble_eq_true rfl, Nat.le_of_ble_eq_true rfl⟩) ⟨Nat.zero_le _, Nat.zero_le _⟩ (Nat.le_of_ble_eq_true rfl) (z_kLv (I := I12) (L := L3) (fun I13 L14 h => ?_))
    refine z_iconst hC (v := 1) k_iconst_1 dX10_readRegister_44 ?_
    exact z_zret (b := true) hC dX10_readRegister_45 rfl ⟨true, rfl, rfl, rfl, rfl, h⟩
  · have h := h.2 hc
    refine z_iconst hC (v := 0) k_iconst_0 dX10_readRegister_14 ?_
    exact z_zret (b := false) hC dX10_readRegister_15 rfl ⟨false, rfl, rfl, rfl, rfl, h⟩
def w_X10_growthOf  (a0 : Int32) (K : MK) (N : MK) (I : MI) (L : ML) (R : MR) (Q : Int32 → Prop) : Prop := (a0 = 10 → Q 1) ∧ (¬ a0 = 10 → (a0 = 14 → Q 0) ∧ (¬ a0 = 14 → (a0 = 15 → Q 1) ∧ (¬ a0 = 15 → (a0 = 16 → Q 0) ∧ (¬ a0 = 16 → (a0 = 100 → Q 1) ∧ (¬ a0 = 100 → Q (-1))))))
set_option maxHeartbeats 4000000 in
set_option maxRecDepth 100000 in
theorem c_X10_growthOf  (l : Launch) (G : ZG) (a0 : Int32) (K : MK) (N : MK) (I : MI) (L : ML) (R : MR) (Q : Int32 → Prop) (h : w_X10_growthOf a0 K N I L R Q) : Met l yX10_growthOf (.code yX10_growthOf cX10_growthOf 1 (some .int) :: z_tbl) rm_X10_growthOf (z_Pc G [.int a0] K N I L R) (z_Qc G (qPi K N I L R Q)) 0 0 (z_A G) := by
  refine z_met (by decide) (Nat.le_of_ble_eq_true rfl) (fun X hX hRm hC0 hnm => ?_)
  subst hX
  have hC : ZOk X G RX10 cX10_growthOf 1 (some .int) := hC0
  show Z X G 1 0 0 _ K N I L R 0 [(0, .int a0)] []
  delta w_X10_growthOf at h
  refine z_iload_n hC (q := 0) dX10_growthOf_0 rfl rfl ?_
  by_cases hc0 : a0 = 10
  · have h := h.1 hc0
    refine z_lookup hC (off := 51) (tgt := 52) dX10_growthOf_1 (by decide) (by rw [hc0]; decide) (by decide) ?_
    refine z_iconst hC (v := 1) k_iconst_1 dX10_growthOf_52 ?_
    exact z_iret hC dX10_growthOf_53 ⟨_, rfl, rfl, rfl, rfl, rfl, rfl, h⟩
  · have h := h.2 hc0
    by_cases hc1 : a0 = 14
    · have h := h.1 hc1
      refine z_lookup hC (off := 53) (tgt := 54) dX10_growthOf_1 (by decide) (by rw [hc1]; decide) (by decide) ?_
      refine z_iconst hC (v := 0) k_iconst_0 dX10_growthOf_54 ?_
      exact z_iret hC dX10_growthOf_55 ⟨_, rfl, rfl, rfl, rfl, rfl, rfl, h⟩
    · have h := h.2 hc1
      by_cases hc2 : a0 = 15
      · have h := h.1 hc2
        refine z_lookup hC (off := 51) (tgt := 52) dX10_growthOf_1 (by decide) (by rw [hc2]; decide) (by decide) ?_
        refine z_iconst hC (v := 1) k_iconst_1 dX10_growthOf_52 ?_
        exact z_iret hC dX10_growthOf_53 ⟨_, rfl, rfl, rfl, rfl, rfl, rfl, h⟩
      · have h := h.2 hc2
        by_cases hc3 : a0 = 16
        · have h := h.1 hc3
          refine z_lookup hC (off := 53) (tgt := 54) dX10_growthOf_1 (by decide) (by rw [hc3]; decide) (by decide) ?_
          refine z_iconst hC (v := 0) k_iconst_0 dX10_growthOf_54 ?_
          exact z_iret hC dX10_growthOf_55 ⟨_, rfl, rfl, rfl, rfl, rfl, rfl, h⟩
        · have h := h.2 hc3
          by_cases hc4 : a0 = 100
          · have h := h.1 hc4
            refine z_lookup hC (off := 51) (tgt := 52) dX10_growthOf_1 (by decide) (by rw [hc4]; decide) (by decide) ?_
            refine z_iconst hC (v := 1) k_iconst_1 dX10_growthOf_52 ?_
            exact z_iret hC dX10_growthOf_53 ⟨_, rfl, rfl, rfl, rfl, rfl, rfl, h⟩
          · have h := h.2 hc4
            have hout : Op.lookupswitch.offset [(10, 51), (14, 53), (15, 51), (16, 53), (100, 51)] 55 a0.toInt = 55 := z_lkOut (by intro q hq; simp only [List.mem_cons, List.not_mem_nil, or_false] at hq; rcases hq with rfl | rfl | rfl | rfl | rfl <;> first | exact z_nei hc0 (by decide) | exact z_nei hc1 (by decide) | exact z_nei hc2 (by decide) | exact z_nei hc3 (by decide) | exact z_nei hc4 (by decide))
            refine z_lookup hC (tgt := 56) dX10_growthOf_1 (by decide) hout (by decide) ?_
            refine z_iconst hC (v := (-1)) k_iconst_m1 dX10_growthOf_56 ?_
            exact z_iret hC dX10_growthOf_57 ⟨_, rfl, rfl, rfl, rfl, rfl, rfl, h⟩
def w_X10_readOp_96  (x0 : Nat) (x1 : Nat) (x2 : Int32) (x3 : Int32)  (K : MK) (N : MK) (I : MI) (L : ML) (R : MR)  (Q : Bool → MI → ML → Prop) : Prop := K x1 = 9 ∧ K x0 = 11 ∧ w_X10_addOp x0 x2 x3 (I x1 8) K N I L R (fun I12 => w_X10_growthOf x3 K N I12 L R (fun r13 => ∀ I14 : MI, I14 = mup I12 x0 2 ((I12 x0 2) + r13) → w_X8_advance x1 K N I14 L R (fun I15 L16 => Q true I15 L16)))
def w_X10_readOp_17  (x0 : Nat) (x1 : Nat) (x2 : Int32) (s0 : Int32) (K : MK) (N : MK) (I : MI) (L : ML) (R : MR)  (Q : Bool → MI → ML → Prop) : Prop := w_X10_needsOf s0 K N I L R (fun r3 => (¬ r3 = (-1) → K x0 = 11 ∧ ∃ b5 : Nat, R x0 0 = some b5 ∧ K b5 = 10 ∧ ∃ b7 : Nat, R b5 5 = some b7 ∧ K b7 = 8 ∧ w_X7_at b7 x2 4 K N I L R (fun r9 => (r9 < 8 → (r3 ≤ (I x0 2) → (¬ s0 = 10 → w_X10_readOp_96 x0 x1 x2 s0 K N I L R Q) ∧ (s0 = 10 → K x1 = 9 ∧ w_X8_advance x1 K N I L R (fun I18 L19 => w_X8_needsNumber x1 0 7 K N I18 L19 R (fun r20 I21 => (r20 = true → w_X10_readOp_96 x0 x1 x2 s0 K N I21 L19 R Q) ∧ (r20 = false → Q false I21 L19))))) ∧ (¬ r3 ≤ (I x0 2) → K x1 = 9 ∧ w_X8_fail x1 5 K N I L R (fun r23 I24 => Q r23 I24 L))) ∧ (¬ r9 < 8 → K x1 = 9 ∧ w_X8_fail x1 4 K N I L R (fun r26 I27 => Q r26 I27 L)))) ∧ (r3 = (-1) → K x1 = 9 ∧ w_X8_fail x1 1 K N I L R (fun r29 I30 => Q r29 I30 L)))
def w_X10_readOp  (a0 : Nat) (a1 : Nat) (a2 : Int32) (K : MK) (N : MK) (I : MI) (L : ML) (R : MR) (Q : Bool → MI → ML → Prop) : Prop := K a1 = 9 ∧ (¬ (I a1 4) = 2 → w_X8_wordHere a1 K N I L R (fun r2 => w_X10_readOp_17 a0 a1 a2 r2 K N I L R Q)) ∧ ((I a1 4) = 2 → w_X10_readOp_17 a0 a1 a2 100 K N I L R Q)
set_option maxHeartbeats 4000000 in
set_option maxRecDepth 100000 in
theorem z_X10_readOp_96 {X : ZX} {G : ZG}  {x0 : Nat} {x1 : Nat} {x2 : Int32} {x3 : Int32}  {K : MK} {N : MK} {I : MI} {L : ML} {R : MR}  {Q : Bool → MI → ML → Prop} (hC : ZOk X G RX10 cX10_readOp 5 (some .boolean)) (hRm : X.2.2.2.1 = rm_X10_readOp) (h : w_X10_readOp_96 x0 x1 x2 x3 K N I L R  Q) : Z X G 5 0 0 (z_T X G (qLz K N R Q) 0 0) K N I L R 96 [(0, .ref x0), (1, .ref x1), (2, .int x2), (3, .int x3)] [] := by
  delta w_X10_readOp_96 at h
  refine z_aload_n hC (q := 0) dX10_readOp_96 rfl rfl ?_
  refine z_iload_n hC (q := 2) dX10_readOp_97 rfl rfl ?_
  refine z_iload_n hC (q := 3) dX10_readOp_98 rfl rfl ?_
  refine z_aload_n hC (q := 1) dX10_readOp_99 rfl rfl ?_
  obtain ⟨hk10, h⟩ := h
  refine gf_RX10_75 hC dX10_readOp_100 hk10 ?_
  obtain ⟨hk11, h⟩ := h
  refine cl_RX10_174 hC (c_X10_addOp _ G x0 x2 x3 (I x1 8) K N I L R _ h) hk11 dX10_readOp_103 (by rw [hRm]; exact ⟨Nat.le_of_ble_eq_true rfl, Nat.le_of_ble_eq_true rfl⟩) ⟨Nat.zero_le _, Nat.zero_le _⟩ (Nat.le_of_ble_eq_true rfl) (z_kIv (I := I) (fun I12 h => ?_))
  refine z_aload_n hC (q := 0) dX10_readOp_106 rfl rfl ?_
  refine z_dup hC rfl dX10_readOp_107 ?_
  refine gf_RX10_22 hC dX10_readOp_108 hk11 ?_
  refine z_iload_n hC (q := 3) dX10_readOp_111 rfl rfl ?_
  refine cl_RX10_186 hC (c_X10_growthOf _ G x3 K N I12 L R _ h) dX10_readOp_112 (by rw [hRm]; exact ⟨Nat.le_of_ble_eq_true rfl, Nat.le_of_ble_eq_true rfl⟩) ⟨Nat.zero_le _, Nat.zero_le _⟩ (Nat.le_of_ble_eq_true rfl) (z_kPi (fun r13 h => ?_))
  refine z_iadd hC dX10_readOp_115 ?_
  refine pf_RX10_22 hC dX10_readOp_116 hk11 ?_
  refine z_genI (fun I14 eI14 => ?_)
  have h := h I14 eI14
  refine z_aload_n hC (q := 1) dX10_readOp_119 rfl rfl ?_
  refine cl_RX10_68 hC (c_X8_advance _ G x1 K N I14 L R _ h) hk10 dX10_readOp_120 (by rw [hRm]; exact ⟨Nat.le_of_ble_eq_true rfl, Nat.le_of_ble_eq_true rfl⟩) ⟨Nat.zero_le _, Nat.zero_le _⟩ (Nat.le_of_ble_eq_true rfl) (z_kLv (I := I14) (L := L) (fun I15 L16 h => ?_))
  refine z_iconst hC (v := 1) k_iconst_1 dX10_readOp_123 ?_
  exact z_zret (b := true) hC dX10_readOp_124 rfl ⟨true, rfl, rfl, rfl, rfl, h⟩
set_option maxHeartbeats 4000000 in
set_option maxRecDepth 100000 in
theorem z_X10_readOp_17 {X : ZX} {G : ZG}  {x0 : Nat} {x1 : Nat} {x2 : Int32} {s0 : Int32} {K : MK} {N : MK} {I : MI} {L : ML} {R : MR}  {Q : Bool → MI → ML → Prop} (hC : ZOk X G RX10 cX10_readOp 5 (some .boolean)) (hRm : X.2.2.2.1 = rm_X10_readOp) (h : w_X10_readOp_17 x0 x1 x2 s0 K N I L R  Q) : Z X G 5 0 0 (z_T X G (qLz K N R Q) 0 0) K N I L R 17 [(0, .ref x0), (1, .ref x1), (2, .int x2)] [.int s0] := by
  delta w_X10_readOp_17 at h
  refine z_istore_n hC (lv1 := [(3, .int s0), (0, .ref x0), (1, .ref x1), (2, .int x2)]) dX10_readOp_17 rfl (by decide) rfl ?_
  refine z_iload_n hC (q := 0) dX10_readOp_18 rfl rfl ?_
  refine cl_RX10_183 hC (c_X10_needsOf _ G s0 K N I L R _ h) dX10_readOp_19 (by rw [hRm]; exact ⟨Nat.le_of_ble_eq_true rfl, Nat.le_of_ble_eq_true rfl⟩) ⟨Nat.zero_le _, Nat.zero_le _⟩ (Nat.le_of_ble_eq_true rfl) (z_kPi (fun r3 h => ?_))
  refine z_istore hC (lv1 := [(4, .int r3), (3, .int s0), (0, .ref x0), (1, .ref x1), (2, .int x2)]) dX10_readOp_22 (by decide) rfl ?_
  refine z_iload hC (q := 0) dX10_readOp_24 rfl ?_
  refine z_iconst hC (v := (-1)) k_iconst_m1 dX10_readOp_26 ?_
  refine z_icmp_ne hC (tgt := 36) dX10_readOp_27 (by decide) (fun hc => ?_) (fun hc => ?_)
  · have h := h.1 hc
    refine z_aload_n hC (q := 2) dX10_readOp_36 rfl rfl ?_
    obtain ⟨hk4, h⟩ := h
    obtain ⟨b5, hb5, h⟩ := h
    refine gf_RX10_12 hC dX10_readOp_37 hk4 hb5 ?_
    obtain ⟨hk6, h⟩ := h
    obtain ⟨b7, hb7, h⟩ := h
    refine gf_RX10_158 hC dX10_readOp_40 hk6 hb7 ?_
    refine z_iload_n hC (q := 4) dX10_readOp_43 rfl rfl ?_
    refine z_iconst hC (v := 4) k_iconst_4 dX10_readOp_44 ?_
    obtain ⟨hk8, h⟩ := h
    refine cl_RX10_99 hC (c_X7_at _ G b7 x2 4 K N I L R _ h) hk8 dX10_readOp_45 (by rw [hRm]; exact ⟨Nat.le_of_ble_eq_true rfl, Nat.le_of_ble_eq_true rfl⟩) ⟨Nat.zero_le _, Nat.zero_le _⟩ (Nat.le_of_ble_eq_true rfl) (z_kPi (fun r9 h => ?_))
    refine z_bipush hC (v := 8) k_bipush_8 dX10_readOp_48 ?_
    refine z_icmp_lt hC (tgt := 59) dX10_readOp_50 (by decide) (fun hc => ?_) (fun hc => ?_)
    · have h := h.1 hc
      refine z_aload_n hC (q := 2) dX10_readOp_59 rfl rfl ?_
      refine gf_RX10_22 hC dX10_readOp_60 hk4 ?_
      refine z_iload hC (q := 0) dX10_readOp_63 rfl ?_
      refine z_icmp_ge hC (tgt := 74) dX10_readOp_65 (by decide) (fun hc => ?_) (fun hc => ?_)
      · have h := h.1 hc
        refine z_iload_n hC (q := 1) dX10_readOp_74 rfl rfl ?_
        refine z_bipush hC (v := 10) k_bipush_10 dX10_readOp_75 ?_
        refine z_icmp_ne hC (tgt := 96) dX10_readOp_77 (by decide) (fun hc => ?_) (fun hc => ?_)
        · have h := h.1 hc
          exact z_sub [(0, .ref x0), (1, .ref x1), (2, .int x2), (3, .int s0)] [2, 3, 4, 1] rfl (z_X10_readOp_96 hC hRm h)
        · have h := h.2 hc
          refine z_aload_n hC (q := 3) dX10_readOp_80 rfl rfl ?_
          obtain ⟨hk17, h⟩ := h
          refine cl_RX10_68 hC (c_X8_advance _ G x1 K N I L R _ h) hk17 dX10_readOp_81 (by rw [hRm]; exact ⟨Nat.le_of_ble_eq_true rfl, Nat.le_of_ble_eq_true rfl⟩) ⟨Nat.zero_le _, Nat.zero_le _⟩ (Nat.le_of_ble_eq_true rfl) (z_kLv (I := I) (L := L) (fun I18 L19 h => ?_))
          refine z_aload_n hC (q := 3) dX10_readOp_84 rfl rfl ?_
          refine z_iconst hC (v := 0) k_iconst_0 dX10_readOp_85 ?_
          refine z_bipush hC (v := 7) k_bipush_7 dX10_readOp_86 ?_
          refine cl_RX10_71 hC (c_X8_needsNumber _ G x1 0 7 K N I18 L19 R _ h) hk17 dX10_readOp_88 (by rw [hRm]; exact ⟨Nat.le_of_ble_eq_true rfl, Nat.le_of_ble_eq_true rfl⟩) ⟨Nat.zero_le _, Nat.zero_le _⟩ (Nat.le_of_ble_eq_true rfl) (z_kIz (I := I18) (fun r20 I21 h => ?_))
          refine z_ifz_ne hC (tgt := 96) dX10_readOp_91 (by decide) (fun hc => ?_) (fun hc => ?_)
          · have h := h.1 hc
            exact z_sub [(0, .ref x0), (1, .ref x1), (2, .int x2), (3, .int s0)] [2, 3, 4, 1] rfl (z_X10_readOp_96 hC hRm h)
          · have h := h.2 hc
            refine z_iconst hC (v := 0) k_iconst_0 dX10_readOp_94 ?_
            exact z_zret (b := false) hC dX10_readOp_95 rfl ⟨false, rfl, rfl, rfl, rfl, h⟩
      · have h := h.2 hc
        refine z_aload_n hC (q := 3) dX10_readOp_68 rfl rfl ?_
        refine z_iconst hC (v := 5) k_iconst_5 dX10_readOp_69 ?_
        obtain ⟨hk22, h⟩ := h
        refine cl_RX10_60 hC (c_X8_fail _ G x1 5 K N I L R _ h) hk22 dX10_readOp_70 (by rw [hRm]; exact ⟨Nat.le_of_ble_eq_true rfl, Nat.le_of_ble_eq_true rfl⟩) ⟨Nat.zero_le _, Nat.zero_le _⟩ (Nat.le_of_ble_eq_true rfl) (z_kIz (I := I) (fun r23 I24 h => ?_))
        exact z_zret (b := r23) hC dX10_readOp_73 rfl ⟨r23, rfl, rfl, rfl, rfl, h⟩
    · have h := h.2 hc
      refine z_aload_n hC (q := 3) dX10_readOp_53 rfl rfl ?_
      refine z_iconst hC (v := 4) k_iconst_4 dX10_readOp_54 ?_
      obtain ⟨hk25, h⟩ := h
      refine cl_RX10_60 hC (c_X8_fail _ G x1 4 K N I L R _ h) hk25 dX10_readOp_55 (by rw [hRm]; exact ⟨Nat.le_of_ble_eq_true rfl, Nat.le_of_ble_eq_true rfl⟩) ⟨Nat.zero_le _, Nat.zero_le _⟩ (Nat.le_of_ble_eq_true rfl) (z_kIz (I := I) (fun r26 I27 h => ?_))
      exact z_zret (b := r26) hC dX10_readOp_58 rfl ⟨r26, rfl, rfl, rfl, rfl, h⟩
  · have h := h.2 hc
    refine z_aload_n hC (q := 3) dX10_readOp_30 rfl rfl ?_
    refine z_iconst hC (v := 1) k_iconst_1 dX10_readOp_31 ?_
    obtain ⟨hk28, h⟩ := h
    refine cl_RX10_60 hC (c_X8_fail _ G x1 1 K N I L R _ h) hk28 dX10_readOp_32 (by rw [hRm]; exact ⟨Nat.le_of_ble_eq_true rfl, Nat.le_of_ble_eq_true rfl⟩) ⟨Nat.zero_le _, Nat.zero_le _⟩ (Nat.le_of_ble_eq_true rfl) (z_kIz (I := I) (fun r29 I30 h => ?_))
    exact z_zret (b := r29) hC dX10_readOp_35 rfl ⟨r29, rfl, rfl, rfl, rfl, h⟩
set_option maxHeartbeats 4000000 in
set_option maxRecDepth 100000 in
theorem c_X10_readOp  (l : Launch) (G : ZG) (a0 : Nat) (a1 : Nat) (a2 : Int32) (K : MK) (N : MK) (I : MI) (L : ML) (R : MR) (Q : Bool → MI → ML → Prop) (h : w_X10_readOp a0 a1 a2 K N I L R Q) : Met l yX10_readOp (.code yX10_readOp cX10_readOp 5 (some .boolean) :: z_tbl) rm_X10_readOp (z_Pc G [.ref a0, .ref a1, .int a2] K N I L R) (z_Qc G (qLz K N R Q)) 0 0 (z_A G) := by
  refine z_met (by decide) (Nat.le_of_ble_eq_true rfl) (fun X hX hRm hC0 hnm => ?_)
  subst hX
  have hC : ZOk X G RX10 cX10_readOp 5 (some .boolean) := hC0
  show Z X G 5 0 0 _ K N I L R 0 [(0, .ref a0), (1, .ref a1), (2, .int a2)] []
  delta w_X10_readOp at h
  refine z_aload_n hC (q := 1) dX10_readOp_0 rfl rfl ?_
  obtain ⟨hk1, h⟩ := h
  refine gf_RX10_34 hC dX10_readOp_1 hk1 ?_
  refine z_iconst hC (v := 2) k_iconst_2 dX10_readOp_4 ?_
  refine z_icmp_ne hC (tgt := 13) dX10_readOp_5 (by decide) (fun hc => ?_) (fun hc => ?_)
  · have h := h.1 hc
    refine z_aload_n hC (q := 1) dX10_readOp_13 rfl rfl ?_
    refine cl_RX10_37 hC (c_X8_wordHere _ G a1 K N I L R _ h) hk1 dX10_readOp_14 (by rw [hRm]; exact ⟨Nat.le_of_ble_eq_true rfl, Nat.le_of_ble_eq_true rfl⟩) ⟨Nat.zero_le _, Nat.zero_le _⟩ (Nat.le_of_ble_eq_true rfl) (z_kPi (fun r2 h => ?_))
    exact z_sub [(0, .ref a0), (1, .ref a1), (2, .int a2)] [0, 1, 2] rfl (z_X10_readOp_17 hC hRm h)
  · have h := h.2 hc
    refine z_bipush hC (v := 100) k_bipush_100 dX10_readOp_8 ?_
    refine z_goto hC (tgt := 17) dX10_readOp_10 (by decide) ?_
    exact z_sub [(0, .ref a0), (1, .ref a1), (2, .int a2)] [0, 1, 2] rfl (z_X10_readOp_17 hC hRm h)
def w_X10_readOps_31  (x0 : Nat) (x1 : Nat) (x2 : Int32) (x3 : Int32)  (K : MK) (N : MK) (I : MI) (L : ML) (R : MR)  (Q : Bool → MI → ML → Prop) : Prop := ∃ J : Nat → Nat → Nat → Int32 → Int32 → MI → ML → Prop, (∃ n, J n x0 x1 x2 x3 I L) ∧ ∀ (n : Nat) (x0 : Nat) (x1 : Nat) (x2 : Int32) (x3 : Int32) (I : MI) (L : ML), J n x0 x1 x2 x3 I L → ((8 : Int32) < x3 → Q true I L) ∧ (¬ (8 : Int32) < x3 → K x1 = 9 ∧ w_X8_isSign x1 59 K N I L R (fun r12 => (r12 = true → Q true I L) ∧ (r12 = false → w_X8_wordHere x1 K N I L R (fun r13 => (¬ r13 = 9 → K x0 = 11 ∧ w_X10_readOp x0 x1 x2 K N I L R (fun r15 I16 L17 => (r15 = true → ∀ v18 : Int32, v18 = x3 + 1 → ∃ n1, n1 < n ∧ J n1 x0 x1 x2 v18 I16 L17) ∧ (r15 = false → Q false I16 L17))) ∧ (r13 = 9 → K x0 = 11 ∧ ∃ b20 : Nat, R x0 0 = some b20 ∧ K b20 = 10 ∧ ∃ b22 : Nat, R b20 5 = some b22 ∧ K b22 = 8 ∧ w_X7_put b22 x2 3 1 K N I L R (fun I24 => w_X8_advance x1 K N I24 L R (fun I25 L26 => Q true I25 L26)))))))
def w_X10_readOps  (a0 : Nat) (a1 : Nat) (a2 : Int32) (K : MK) (N : MK) (I : MI) (L : ML) (R : MR) (Q : Bool → MI → ML → Prop) : Prop := K a0 = 11 ∧ ∀ I2 : MI, I2 = mup I a0 2 0 → ∃ b3 : Nat, R a0 0 = some b3 ∧ K b3 = 10 ∧ ∃ b5 : Nat, R b3 5 = some b5 ∧ K b5 = 8 ∧ w_X7_put b5 a2 3 0 K N I2 L R (fun I7 => w_X10_readOp a0 a1 a2 K N I7 L R (fun r8 I9 L10 => (r8 = true → w_X10_readOps_31 a0 a1 a2 0 K N I9 L10 R Q) ∧ (r8 = false → Q false I9 L10)))
set_option maxHeartbeats 4000000 in
set_option maxRecDepth 100000 in
theorem z_X10_readOps_31 {X : ZX} {G : ZG}  {x0 : Nat} {x1 : Nat} {x2 : Int32} {x3 : Int32}  {K : MK} {N : MK} {I : MI} {L : ML} {R : MR}  {Q : Bool → MI → ML → Prop} (hC : ZOk X G RX10 cX10_readOps 4 (some .boolean)) (hRm : X.2.2.2.1 = rm_X10_readOps) (h : w_X10_readOps_31 x0 x1 x2 x3 K N I L R  Q) : Z X G 4 0 0 (z_T X G (qLz K N R Q) 0 0) K N I L R 31 [(0, .ref x0), (1, .ref x1), (2, .int x2), (3, .int x3)] [] := by
  delta w_X10_readOps_31 at h
  obtain ⟨J, ⟨n, h0⟩, hs⟩ := h
  have key : ∀ (n : Nat) (x0 : Nat) (x1 : Nat) (x2 : Int32) (x3 : Int32) (I : MI) (L : ML), J n x0 x1 x2 x3 I L → Z X G 4 0 0 (z_T X G (qLz K N R Q) 0 0) K N I L R 31 [(0, .ref x0), (1, .ref x1), (2, .int x2), (3, .int x3)] [] := by
    intro n
    induction n using Nat.strongRecOn with
    | _ n ih =>
      intro x0 x1 x2 x3 I L hJ
      have hC31 : ∀ (y0 : Nat) (y1 : Nat) (y2 : Int32) (y3 : Int32) (zI : MI) (zL : ML), (∃ n1, n1 < n ∧ J n1 y0 y1 y2 y3 zI zL) → Z X G 4 0 0 (z_T X G (qLz K N R Q) 0 0) K N zI zL R 31 [(0, .ref y0), (1, .ref y1), (2, .int y2), (3, .int y3)] [] := fun y0 y1 y2 y3 zI zL ⟨n1, hn1, hj⟩ => ih n1 hn1 y0 y1 y2 y3 zI zL hj
      have h := hs n x0 x1 x2 x3 I L hJ
      refine z_iload_n hC (q := 3) dX10_readOps_31 rfl rfl ?_
      refine z_bipush hC (v := 8) k_bipush_8 dX10_readOps_32 ?_
      refine z_icmp_gt hC (tgt := 91) dX10_readOps_34 (by decide) (fun hc => ?_) (fun hc => ?_)
      · have h := h.1 hc
        refine z_iconst hC (v := 1) k_iconst_1 dX10_readOps_91 ?_
        exact z_zret (b := true) hC dX10_readOps_92 rfl ⟨true, rfl, rfl, rfl, rfl, h⟩
      · have h := h.2 hc
        refine z_aload_n hC (q := 1) dX10_readOps_37 rfl rfl ?_
        refine z_bipush hC (v := 59) k_bipush_59 dX10_readOps_38 ?_
        obtain ⟨hk11, h⟩ := h
        refine cl_RX10_180 hC (c_X8_isSign _ G x1 59 K N I L R _ h) hk11 dX10_readOps_40 (by rw [hRm]; exact ⟨Nat.le_of_ble_eq_true rfl, Nat.le_of_ble_eq_true rfl⟩) ⟨Nat.zero_le _, Nat.zero_le _⟩ (Nat.le_of_ble_eq_true rfl) (z_kPz (fun r12 h => ?_))
        refine z_ifz_ne hC (tgt := 91) dX10_readOps_43 (by decide) (fun hc => ?_) (fun hc => ?_)
        · have h := h.1 hc
          refine z_iconst hC (v := 1) k_iconst_1 dX10_readOps_91 ?_
          exact z_zret (b := true) hC dX10_readOps_92 rfl ⟨true, rfl, rfl, rfl, rfl, h⟩
        · have h := h.2 hc
          refine z_aload_n hC (q := 1) dX10_readOps_46 rfl rfl ?_
          refine cl_RX10_37 hC (c_X8_wordHere _ G x1 K N I L R _ h) hk11 dX10_readOps_47 (by rw [hRm]; exact ⟨Nat.le_of_ble_eq_true rfl, Nat.le_of_ble_eq_true rfl⟩) ⟨Nat.zero_le _, Nat.zero_le _⟩ (Nat.le_of_ble_eq_true rfl) (z_kPi (fun r13 h => ?_))
          refine z_bipush hC (v := 9) k_bipush_9 dX10_readOps_50 ?_
          refine z_icmp_ne hC (tgt := 74) dX10_readOps_52 (by decide) (fun hc => ?_) (fun hc => ?_)
          · have h := h.1 hc
            refine z_aload_n hC (q := 0) dX10_readOps_74 rfl rfl ?_
            refine z_aload_n hC (q := 1) dX10_readOps_75 rfl rfl ?_
            refine z_iload_n hC (q := 2) dX10_readOps_76 rfl rfl ?_
            obtain ⟨hk14, h⟩ := h
            refine cl_RX10_177 hC (c_X10_readOp _ G x0 x1 x2 K N I L R _ h) hk14 dX10_readOps_77 (by rw [hRm]; exact ⟨Nat.le_of_ble_eq_true rfl, Nat.le_of_ble_eq_true rfl⟩) ⟨Nat.zero_le _, Nat.zero_le _⟩ (Nat.le_of_ble_eq_true rfl) (z_kLz (I := I) (L := L) (fun r15 I16 L17 h => ?_))
            refine z_ifz_ne hC (tgt := 85) dX10_readOps_80 (by decide) (fun hc => ?_) (fun hc => ?_)
            · have h := h.1 hc
              obtain ⟨v18, ev18⟩ : ∃ y : Int32, y = x3 + 1 := ⟨_, rfl⟩
              have h := h v18 ev18
              refine z_iinc hC (q := 3) (v := v18) (lv1 := [(3, .int v18), (0, .ref x0), (1, .ref x1), (2, .int x2)]) dX10_readOps_85 rfl (by rw [ev18, k_iinc_1]) (by decide) rfl ?_
              refine z_goto hC (tgt := 31) dX10_readOps_88 (by decide) ?_
              exact z_sub [(0, .ref x0), (1, .ref x1), (2, .int x2), (3, .int v18)] [1, 2, 3, 0] rfl (hC31 _ _ _ _ _ _ h)
            · have h := h.2 hc
              refine z_iconst hC (v := 0) k_iconst_0 dX10_readOps_83 ?_
              exact z_zret (b := false) hC dX10_readOps_84 rfl ⟨false, rfl, rfl, rfl, rfl, h⟩
          · have h := h.2 hc
            refine z_aload_n hC (q := 0) dX10_readOps_55 rfl rfl ?_
            obtain ⟨hk19, h⟩ := h
            obtain ⟨b20, hb20, h⟩ := h
            refine gf_RX10_12 hC dX10_readOps_56 hk19 hb20 ?_
            obtain ⟨hk21, h⟩ := h
            obtain ⟨b22, hb22, h⟩ := h
            refine gf_RX10_158 hC dX10_readOps_59 hk21 hb22 ?_
            refine z_iload_n hC (q := 2) dX10_readOps_62 rfl rfl ?_
            refine z_iconst hC (v := 3) k_iconst_3 dX10_readOps_63 ?_
            refine z_iconst hC (v := 1) k_iconst_1 dX10_readOps_64 ?_
            obtain ⟨hk23, h⟩ := h
            refine cl_RX10_125 hC (c_X7_put _ G b22 x2 3 1 K N I L R _ h) hk23 dX10_readOps_65 (by rw [hRm]; exact ⟨Nat.le_of_ble_eq_true rfl, Nat.le_of_ble_eq_true rfl⟩) ⟨Nat.zero_le _, Nat.zero_le _⟩ (Nat.le_of_ble_eq_true rfl) (z_kIv (I := I) (fun I24 h => ?_))
            refine z_aload_n hC (q := 1) dX10_readOps_68 rfl rfl ?_
            refine cl_RX10_68 hC (c_X8_advance _ G x1 K N I24 L R _ h) hk11 dX10_readOps_69 (by rw [hRm]; exact ⟨Nat.le_of_ble_eq_true rfl, Nat.le_of_ble_eq_true rfl⟩) ⟨Nat.zero_le _, Nat.zero_le _⟩ (Nat.le_of_ble_eq_true rfl) (z_kLv (I := I24) (L := L) (fun I25 L26 h => ?_))
            refine z_iconst hC (v := 1) k_iconst_1 dX10_readOps_72 ?_
            exact z_zret (b := true) hC dX10_readOps_73 rfl ⟨true, rfl, rfl, rfl, rfl, h⟩
  exact key n x0 x1 x2 x3 I L h0
set_option maxHeartbeats 4000000 in
set_option maxRecDepth 100000 in
theorem c_X10_readOps  (l : Launch) (G : ZG) (a0 : Nat) (a1 : Nat) (a2 : Int32) (K : MK) (N : MK) (I : MI) (L : ML) (R : MR) (Q : Bool → MI → ML → Prop) (h : w_X10_readOps a0 a1 a2 K N I L R Q) : Met l yX10_readOps (.code yX10_readOps cX10_readOps 4 (some .boolean) :: z_tbl) rm_X10_readOps (z_Pc G [.ref a0, .ref a1, .int a2] K N I L R) (z_Qc G (qLz K N R Q)) 0 0 (z_A G) := by
  refine z_met (by decide) (Nat.le_of_ble_eq_true rfl) (fun X hX hRm hC0 hnm => ?_)
  subst hX
  have hC : ZOk X G RX10 cX10_readOps 4 (some .boolean) := hC0
  show Z X G 4 0 0 _ K N I L R 0 [(0, .ref a0), (1, .ref a1), (2, .int a2)] []
  delta w_X10_readOps at h
  refine z_aload_n hC (q := 0) dX10_readOps_0 rfl rfl ?_
  refine z_iconst hC (v := 0) k_iconst_0 dX10_readOps_1 ?_
  obtain ⟨hk1, h⟩ := h
  refine pf_RX10_22 hC dX10_readOps_2 hk1 ?_
  refine z_genI (fun I2 eI2 => ?_)
  have h := h I2 eI2
  refine z_aload_n hC (q := 0) dX10_readOps_5 rfl rfl ?_
  obtain ⟨b3, hb3, h⟩ := h
  refine gf_RX10_12 hC dX10_readOps_6 hk1 hb3 ?_
  obtain ⟨hk4, h⟩ := h
  obtain ⟨b5, hb5, h⟩ := h
  refine gf_RX10_158 hC dX10_readOps_9 hk4 hb5 ?_
  refine z_iload_n hC (q := 2) dX10_readOps_12 rfl rfl ?_
  refine z_iconst hC (v := 3) k_iconst_3 dX10_readOps_13 ?_
  refine z_iconst hC (v := 0) k_iconst_0 dX10_readOps_14 ?_
  obtain ⟨hk6, h⟩ := h
  refine cl_RX10_125 hC (c_X7_put _ G b5 a2 3 0 K N I2 L R _ h) hk6 dX10_readOps_15 (by rw [hRm]; exact ⟨Nat.le_of_ble_eq_true rfl, Nat.le_of_ble_eq_true rfl⟩) ⟨Nat.zero_le _, Nat.zero_le _⟩ (Nat.le_of_ble_eq_true rfl) (z_kIv (I := I2) (fun I7 h => ?_))
  refine z_aload_n hC (q := 0) dX10_readOps_18 rfl rfl ?_
  refine z_aload_n hC (q := 1) dX10_readOps_19 rfl rfl ?_
  refine z_iload_n hC (q := 2) dX10_readOps_20 rfl rfl ?_
  refine cl_RX10_177 hC (c_X10_readOp _ G a0 a1 a2 K N I7 L R _ h) hk1 dX10_readOps_21 (by rw [hRm]; exact ⟨Nat.le_of_ble_eq_true rfl, Nat.le_of_ble_eq_true rfl⟩) ⟨Nat.zero_le _, Nat.zero_le _⟩ (Nat.le_of_ble_eq_true rfl) (z_kLz (I := I7) (L := L) (fun r8 I9 L10 h => ?_))
  refine z_ifz_ne hC (tgt := 29) dX10_readOps_24 (by decide) (fun hc => ?_) (fun hc => ?_)
  · have h := h.1 hc
    refine z_iconst hC (v := 0) k_iconst_0 dX10_readOps_29 ?_
    refine z_istore_n hC (lv1 := [(3, .int 0), (0, .ref a0), (1, .ref a1), (2, .int a2)]) dX10_readOps_30 rfl (by decide) rfl ?_
    exact z_sub [(0, .ref a0), (1, .ref a1), (2, .int a2), (3, .int 0)] [1, 2, 3, 0] rfl (z_X10_readOps_31 hC hRm h)
  · have h := h.2 hc
    refine z_iconst hC (v := 0) k_iconst_0 dX10_readOps_27 ?_
    exact z_zret (b := false) hC dX10_readOps_28 rfl ⟨false, rfl, rfl, rfl, rfl, h⟩
def w_X10_readPlace  (a0 : Nat) (a1 : Nat) (K : MK) (N : MK) (I : MI) (L : ML) (R : MR) (Q : Bool → MI → ML → Prop) : Prop := K a0 = 11 ∧ ∃ b2 : Nat, R a0 0 = some b2 ∧ K b2 = 10 ∧ ∃ b4 : Nat, R b2 5 = some b4 ∧ w_X10_beginSort a0 a1 b4 K N I L R (fun r5 I6 L7 => (r5 = true → ∃ b8 : Nat, R b2 4 = some b8 ∧ w_X10_readToldName a0 a1 b8 K N I6 L7 R (fun r9 I10 L11 => (¬ r9 = (-1) → K b4 = 8 ∧ w_X7_add b4 0 K N I10 L11 R (fun r13 I14 L15 => w_X7_put b4 r13 2 (-1) K N I14 L15 R (fun I16 => w_X10_readRange a0 a1 b4 r13 K N I16 L15 R (fun r17 I18 L19 => (r17 = true → w_X7_at b4 r13 0 K N I18 L19 R (fun r20 => w_X7_at b4 r13 1 K N I18 L19 R (fun r21 => w_X9_isPlaceTaken b2 r9 r20 r21 K N I18 L19 R (fun r22 => (r22 = false → w_X7_put b4 r13 2 r9 K N I18 L19 R (fun I23 => w_X7_put b4 r13 4 0 K N I23 L19 R (fun I24 => K a1 = 9 ∧ w_X8_advance a1 K N I24 L19 R (fun I26 L27 => w_X8_wordHere a1 K N I26 L27 R (fun r28 => (¬ r28 = 8 → w_X10_readOps a0 a1 r13 K N I26 L27 R (fun r29 I30 L31 => Q r29 I30 L31)) ∧ (r28 = 8 → w_X10_readRegister a0 a1 r13 K N I26 L27 R (fun r32 I33 L34 => Q r32 I33 L34))))))) ∧ (r22 = true → K a1 = 9 ∧ w_X8_fail a1 3 K N I18 L19 R (fun r36 I37 => Q r36 I37 L19)))))) ∧ (r17 = false → Q false I18 L19))))) ∧ (r9 = (-1) → Q false I10 L11))) ∧ (r5 = false → Q false I6 L7))
set_option maxHeartbeats 4000000 in
set_option maxRecDepth 100000 in
theorem c_X10_readPlace  (l : Launch) (G : ZG) (a0 : Nat) (a1 : Nat) (K : MK) (N : MK) (I : MI) (L : ML) (R : MR) (Q : Bool → MI → ML → Prop) (h : w_X10_readPlace a0 a1 K N I L R Q) : Met l yX10_readPlace (.code yX10_readPlace cX10_readPlace 4 (some .boolean) :: z_tbl) rm_X10_readPlace (z_Pc G [.ref a0, .ref a1] K N I L R) (z_Qc G (qLz K N R Q)) 0 0 (z_A G) := by
  refine z_met (by decide) (Nat.le_of_ble_eq_true rfl) (fun X hX hRm hC0 hnm => ?_)
  subst hX
  have hC : ZOk X G RX10 cX10_readPlace 4 (some .boolean) := hC0
  show Z X G 4 0 0 _ K N I L R 0 [(0, .ref a0), (1, .ref a1)] []
  delta w_X10_readPlace at h
  refine z_aload_n hC (q := 0) dX10_readPlace_0 rfl rfl ?_
  refine z_aload_n hC (q := 1) dX10_readPlace_1 rfl rfl ?_
  refine z_aload_n hC (q := 0) dX10_readPlace_2 rfl rfl ?_
  obtain ⟨hk1, h⟩ := h
  obtain ⟨b2, hb2, h⟩ := h
  refine gf_RX10_12 hC dX10_readPlace_3 hk1 hb2 ?_
  obtain ⟨hk3, h⟩ := h
  obtain ⟨b4, hb4, h⟩ := h
  refine gf_RX10_158 hC dX10_readPlace_6 hk3 hb4 ?_
  refine cl_RX10_91 hC (c_X10_beginSort _ G a0 a1 b4 K N I L R _ h) hk1 dX10_readPlace_9 (by rw [hRm]; exact ⟨Nat.le_of_ble_eq_true rfl, Nat.le_of_ble_eq_true rfl⟩) ⟨Nat.zero_le _, Nat.zero_le _⟩ (Nat.le_of_ble_eq_true rfl) (z_kLz (I := I) (L := L) (fun r5 I6 L7 h => ?_))
  refine z_ifz_ne hC (tgt := 17) dX10_readPlace_12 (by decide) (fun hc => ?_) (fun hc => ?_)
  · have h := h.1 hc
    refine z_aload_n hC (q := 0) dX10_readPlace_17 rfl rfl ?_
    refine z_aload_n hC (q := 1) dX10_readPlace_18 rfl rfl ?_
    refine z_aload_n hC (q := 0) dX10_readPlace_19 rfl rfl ?_
    refine gf_RX10_12 hC dX10_readPlace_20 hk1 hb2 ?_
    obtain ⟨b8, hb8, h⟩ := h
    refine gf_RX10_151 hC dX10_readPlace_23 hk3 hb8 ?_
    refine cl_RX10_154 hC (c_X10_readToldName _ G a0 a1 b8 K N I6 L7 R _ h) hk1 dX10_readPlace_26 (by rw [hRm]; exact ⟨Nat.le_of_ble_eq_true rfl, Nat.le_of_ble_eq_true rfl⟩) ⟨Nat.zero_le _, Nat.zero_le _⟩ (Nat.le_of_ble_eq_true rfl) (z_kLi (I := I6) (L := L7) (fun r9 I10 L11 h => ?_))
    refine z_istore_n hC (lv1 := [(2, .int r9), (0, .ref a0), (1, .ref a1)]) dX10_readPlace_29 rfl (by decide) rfl ?_
    refine z_iload_n hC (q := 0) dX10_readPlace_30 rfl rfl ?_
    refine z_iconst hC (v := (-1)) k_iconst_m1 dX10_readPlace_31 ?_
    refine z_icmp_ne hC (tgt := 37) dX10_readPlace_32 (by decide) (fun hc => ?_) (fun hc => ?_)
    · have h := h.1 hc
      refine z_aload_n hC (q := 1) dX10_readPlace_37 rfl rfl ?_
      refine gf_RX10_12 hC dX10_readPlace_38 hk1 hb2 ?_
      refine gf_RX10_158 hC dX10_readPlace_41 hk3 hb4 ?_
      refine z_lconst hC (v := 0) k_lconst_0 dX10_readPlace_44 ?_
      obtain ⟨hk12, h⟩ := h
      refine cl_RX10_118 hC (c_X7_add _ G b4 0 K N I10 L11 R _ h) hk12 dX10_readPlace_45 (by rw [hRm]; exact ⟨Nat.le_of_ble_eq_true rfl, Nat.le_of_ble_eq_true rfl⟩) ⟨Nat.zero_le _, Nat.zero_le _⟩ (Nat.le_of_ble_eq_true rfl) (z_kLi (I := I10) (L := L11) (fun r13 I14 L15 h => ?_))
      refine z_istore_n hC (lv1 := [(3, .int r13), (2, .int r9), (0, .ref a0), (1, .ref a1)]) dX10_readPlace_48 rfl (by decide) rfl ?_
      refine z_aload_n hC (q := 2) dX10_readPlace_49 rfl rfl ?_
      refine gf_RX10_12 hC dX10_readPlace_50 hk1 hb2 ?_
      refine gf_RX10_158 hC dX10_readPlace_53 hk3 hb4 ?_
      refine z_iload_n hC (q := 0) dX10_readPlace_56 rfl rfl ?_
      refine z_iconst hC (v := 2) k_iconst_2 dX10_readPlace_57 ?_
      refine z_iconst hC (v := (-1)) k_iconst_m1 dX10_readPlace_58 ?_
      refine cl_RX10_125 hC (c_X7_put _ G b4 r13 2 (-1) K N I14 L15 R _ h) hk12 dX10_readPlace_59 (by rw [hRm]; exact ⟨Nat.le_of_ble_eq_true rfl, Nat.le_of_ble_eq_true rfl⟩) ⟨Nat.zero_le _, Nat.zero_le _⟩ (Nat.le_of_ble_eq_true rfl) (z_kIv (I := I14) (fun I16 h => ?_))
      refine z_aload_n hC (q := 2) dX10_readPlace_62 rfl rfl ?_
      refine z_aload_n hC (q := 3) dX10_readPlace_63 rfl rfl ?_
      refine z_aload_n hC (q := 2) dX10_readPlace_64 rfl rfl ?_
      refine gf_RX10_12 hC dX10_readPlace_65 hk1 hb2 ?_
      refine gf_RX10_158 hC dX10_readPlace_68 hk3 hb4 ?_
      refine z_iload_n hC (q := 0) dX10_readPlace_71 rfl rfl ?_
      refine cl_RX10_138 hC (c_X10_readRange _ G a0 a1 b4 r13 K N I16 L15 R _ h) hk1 dX10_readPlace_72 (by rw [hRm]; exact ⟨Nat.le_of_ble_eq_true rfl, Nat.le_of_ble_eq_true rfl⟩) ⟨Nat.zero_le _, Nat.zero_le _⟩ (Nat.le_of_ble_eq_true rfl) (z_kLz (I := I16) (L := L15) (fun r17 I18 L19 h => ?_))
      refine z_ifz_ne hC (tgt := 80) dX10_readPlace_75 (by decide) (fun hc => ?_) (fun hc => ?_)
      · have h := h.1 hc
        refine z_aload_n hC (q := 2) dX10_readPlace_80 rfl rfl ?_
        refine gf_RX10_12 hC dX10_readPlace_81 hk1 hb2 ?_
        refine z_iload_n hC (q := 1) dX10_readPlace_84 rfl rfl ?_
        refine z_aload_n hC (q := 2) dX10_readPlace_85 rfl rfl ?_
        refine gf_RX10_12 hC dX10_readPlace_86 hk1 hb2 ?_
        refine gf_RX10_158 hC dX10_readPlace_89 hk3 hb4 ?_
        refine z_iload_n hC (q := 0) dX10_readPlace_92 rfl rfl ?_
        refine z_iconst hC (v := 0) k_iconst_0 dX10_readPlace_93 ?_
        refine cl_RX10_99 hC (c_X7_at _ G b4 r13 0 K N I18 L19 R _ h) hk12 dX10_readPlace_94 (by rw [hRm]; exact ⟨Nat.le_of_ble_eq_true rfl, Nat.le_of_ble_eq_true rfl⟩) ⟨Nat.zero_le _, Nat.zero_le _⟩ (Nat.le_of_ble_eq_true rfl) (z_kPi (fun r20 h => ?_))
        refine z_aload_n hC (q := 2) dX10_readPlace_97 rfl rfl ?_
        refine gf_RX10_12 hC dX10_readPlace_98 hk1 hb2 ?_
        refine gf_RX10_158 hC dX10_readPlace_101 hk3 hb4 ?_
        refine z_iload_n hC (q := 0) dX10_readPlace_104 rfl rfl ?_
        refine z_iconst hC (v := 1) k_iconst_1 dX10_readPlace_105 ?_
        refine cl_RX10_99 hC (c_X7_at _ G b4 r13 1 K N I18 L19 R _ h) hk12 dX10_readPlace_106 (by rw [hRm]; exact ⟨Nat.le_of_ble_eq_true rfl, Nat.le_of_ble_eq_true rfl⟩) ⟨Nat.zero_le _, Nat.zero_le _⟩ (Nat.le_of_ble_eq_true rfl) (z_kPi (fun r21 h => ?_))
        refine cl_RX10_161 hC (c_X9_isPlaceTaken _ G b2 r9 r20 r21 K N I18 L19 R _ h) hk3 dX10_readPlace_109 (by rw [hRm]; exact ⟨Nat.le_of_ble_eq_true rfl, Nat.le_of_ble_eq_true rfl⟩) ⟨Nat.zero_le _, Nat.zero_le _⟩ (Nat.le_of_ble_eq_true rfl) (z_kPz (fun r22 h => ?_))
        refine z_ifz_eq hC (tgt := 121) dX10_readPlace_112 (by decide) (fun hc => ?_) (fun hc => ?_)
        · have h := h.1 hc
          refine z_aload_n hC (q := 2) dX10_readPlace_121 rfl rfl ?_
          refine gf_RX10_12 hC dX10_readPlace_122 hk1 hb2 ?_
          refine gf_RX10_158 hC dX10_readPlace_125 hk3 hb4 ?_
          refine z_iload_n hC (q := 0) dX10_readPlace_128 rfl rfl ?_
          refine z_iconst hC (v := 2) k_iconst_2 dX10_readPlace_129 ?_
          refine z_iload_n hC (q := 1) dX10_readPlace_130 rfl rfl ?_
          refine cl_RX10_125 hC (c_X7_put _ G b4 r13 2 r9 K N I18 L19 R _ h) hk12 dX10_readPlace_131 (by rw [hRm]; exact ⟨Nat.le_of_ble_eq_true rfl, Nat.le_of_ble_eq_true rfl⟩) ⟨Nat.zero_le _, Nat.zero_le _⟩ (Nat.le_of_ble_eq_true rfl) (z_kIv (I := I18) (fun I23 h => ?_))
          refine z_aload_n hC (q := 2) dX10_readPlace_134 rfl rfl ?_
          refine gf_RX10_12 hC dX10_readPlace_135 hk1 hb2 ?_
          refine gf_RX10_158 hC dX10_readPlace_138 hk3 hb4 ?_
          refine z_iload_n hC (q := 0) dX10_readPlace_141 rfl rfl ?_
          refine z_iconst hC (v := 4) k_iconst_4 dX10_readPlace_142 ?_
          refine z_iconst hC (v := 0) k_iconst_0 dX10_readPlace_143 ?_
          refine cl_RX10_125 hC (c_X7_put _ G b4 r13 4 0 K N I23 L19 R _ h) hk12 dX10_readPlace_144 (by rw [hRm]; exact ⟨Nat.le_of_ble_eq_true rfl, Nat.le_of_ble_eq_true rfl⟩) ⟨Nat.zero_le _, Nat.zero_le _⟩ (Nat.le_of_ble_eq_true rfl) (z_kIv (I := I23) (fun I24 h => ?_))
          refine z_aload_n hC (q := 3) dX10_readPlace_147 rfl rfl ?_
          obtain ⟨hk25, h⟩ := h
          refine cl_RX10_68 hC (c_X8_advance _ G a1 K N I24 L19 R _ h) hk25 dX10_readPlace_148 (by rw [hRm]; exact ⟨Nat.le_of_ble_eq_true rfl, Nat.le_of_ble_eq_true rfl⟩) ⟨Nat.zero_le _, Nat.zero_le _⟩ (Nat.le_of_ble_eq_true rfl) (z_kLv (I := I24) (L := L19) (fun I26 L27 h => ?_))
          refine z_aload_n hC (q := 3) dX10_readPlace_151 rfl rfl ?_
          refine cl_RX10_37 hC (c_X8_wordHere _ G a1 K N I26 L27 R _ h) hk25 dX10_readPlace_152 (by rw [hRm]; exact ⟨Nat.le_of_ble_eq_true rfl, Nat.le_of_ble_eq_true rfl⟩) ⟨Nat.zero_le _, Nat.zero_le _⟩ (Nat.le_of_ble_eq_true rfl) (z_kPi (fun r28 h => ?_))
          refine z_bipush hC (v := 8) k_bipush_8 dX10_readPlace_155 ?_
          refine z_icmp_ne hC (tgt := 169) dX10_readPlace_157 (by decide) (fun hc => ?_) (fun hc => ?_)
          · have h := h.1 hc
            refine z_aload_n hC (q := 2) dX10_readPlace_169 rfl rfl ?_
            refine z_aload_n hC (q := 3) dX10_readPlace_170 rfl rfl ?_
            refine z_iload_n hC (q := 0) dX10_readPlace_171 rfl rfl ?_
            refine cl_RX10_169 hC (c_X10_readOps _ G a0 a1 r13 K N I26 L27 R _ h) hk1 dX10_readPlace_172 (by rw [hRm]; exact ⟨Nat.le_of_ble_eq_true rfl, Nat.le_of_ble_eq_true rfl⟩) ⟨Nat.zero_le _, Nat.zero_le _⟩ (Nat.le_of_ble_eq_true rfl) (z_kLz (I := I26) (L := L27) (fun r29 I30 L31 h => ?_))
            exact z_zret (b := r29) hC dX10_readPlace_175 rfl ⟨r29, rfl, rfl, rfl, rfl, h⟩
          · have h := h.2 hc
            refine z_aload_n hC (q := 2) dX10_readPlace_160 rfl rfl ?_
            refine z_aload_n hC (q := 3) dX10_readPlace_161 rfl rfl ?_
            refine z_iload_n hC (q := 0) dX10_readPlace_162 rfl rfl ?_
            refine cl_RX10_165 hC (c_X10_readRegister _ G a0 a1 r13 K N I26 L27 R _ h) hk1 dX10_readPlace_163 (by rw [hRm]; exact ⟨Nat.le_of_ble_eq_true rfl, Nat.le_of_ble_eq_true rfl⟩) ⟨Nat.zero_le _, Nat.zero_le _⟩ (Nat.le_of_ble_eq_true rfl) (z_kLz (I := I26) (L := L27) (fun r32 I33 L34 h => ?_))
            refine z_goto hC (tgt := 175) dX10_readPlace_166 (by decide) ?_
            exact z_zret (b := r32) hC dX10_readPlace_175 rfl ⟨r32, rfl, rfl, rfl, rfl, h⟩
        · have h := h.2 hc
          refine z_aload_n hC (q := 3) dX10_readPlace_115 rfl rfl ?_
          refine z_iconst hC (v := 3) k_iconst_3 dX10_readPlace_116 ?_
          obtain ⟨hk35, h⟩ := h
          refine cl_RX10_60 hC (c_X8_fail _ G a1 3 K N I18 L19 R _ h) hk35 dX10_readPlace_117 (by rw [hRm]; exact ⟨Nat.le_of_ble_eq_true rfl, Nat.le_of_ble_eq_true rfl⟩) ⟨Nat.zero_le _, Nat.zero_le _⟩ (Nat.le_of_ble_eq_true rfl) (z_kIz (I := I18) (fun r36 I37 h => ?_))
          exact z_zret (b := r36) hC dX10_readPlace_120 rfl ⟨r36, rfl, rfl, rfl, rfl, h⟩
      · have h := h.2 hc
        refine z_iconst hC (v := 0) k_iconst_0 dX10_readPlace_78 ?_
        exact z_zret (b := false) hC dX10_readPlace_79 rfl ⟨false, rfl, rfl, rfl, rfl, h⟩
    · have h := h.2 hc
      refine z_iconst hC (v := 0) k_iconst_0 dX10_readPlace_35 ?_
      exact z_zret (b := false) hC dX10_readPlace_36 rfl ⟨false, rfl, rfl, rfl, rfl, h⟩
  · have h := h.2 hc
    refine z_iconst hC (v := 0) k_iconst_0 dX10_readPlace_15 ?_
    exact z_zret (b := false) hC dX10_readPlace_16 rfl ⟨false, rfl, rfl, rfl, rfl, h⟩
def w_X10_readUnit_136  (x0 : Nat) (x1 : Nat) (x2 : Int32) (x3 : Bool)  (K : MK) (N : MK) (I : MI) (L : ML) (R : MR) (C21 : Nat → Nat → Int32 → MI → ML → Prop) (Q : Int32 → MI → ML → Prop) : Prop := (x3 = false → K x0 = 11 ∧ Q (I x0 1) I L) ∧ (x3 = true → K x1 = 9 ∧ w_X8_passSign x1 59 K N I L R (fun r19 I20 L21 => (r19 = true → K x0 = 11 ∧ ∀ I23 : MI, I23 = mup I20 x0 1 ((I20 x0 1) + 1) → ∀ v24 : Int32, v24 = x2 + 1 → C21 x0 x1 v24 I23 L21) ∧ (r19 = false → K x0 = 11 ∧ Q (I20 x0 1) I20 L21)))
def w_X10_readUnit_21  (x0 : Nat) (x1 : Nat) (x2 : Int32)  (K : MK) (N : MK) (I : MI) (L : ML) (R : MR)  (Q : Int32 → MI → ML → Prop) : Prop := ∃ J : Nat → Nat → Nat → Int32 → MI → ML → Prop, (∃ n, J n x0 x1 x2 I L) ∧ ∀ (n : Nat) (x0 : Nat) (x1 : Nat) (x2 : Int32) (I : MI) (L : ML), J n x0 x1 x2 I L → ((900 : Int32) ≤ x2 → K x0 = 11 ∧ Q (I x0 1) I L) ∧ (¬ (900 : Int32) ≤ x2 → K x1 = 9 ∧ ((I x1 4) = 0 → K x0 = 11 ∧ Q (I x0 1) I L) ∧ (¬ (I x1 4) = 0 → w_X8_wordHere x1 K N I L R (fun r12 => (r12 = 0 → K x0 = 11 ∧ w_X10_readSize x0 x1 K N I L R (fun r14 I15 L16 => w_X10_readUnit_136 x0 x1 x2 r14 K N I15 L16 R (fun y0 y1 y2 y3 y4 => ∃ n1, n1 < n ∧ J n1 y0 y1 y2 y3 y4) Q)) ∧ (¬ r12 = 0 → (r12 = 1 → K x0 = 11 ∧ w_X10_readRow x0 x1 K N I L R (fun r27 I28 L29 => w_X10_readUnit_136 x0 x1 x2 r27 K N I28 L29 R (fun y0 y1 y2 y3 y4 => ∃ n1, n1 < n ∧ J n1 y0 y1 y2 y3 y4) Q)) ∧ (¬ r12 = 1 → (r12 = 2 → K x0 = 11 ∧ w_X10_readScope x0 x1 K N I L R (fun r31 I32 L33 => w_X10_readUnit_136 x0 x1 x2 r31 K N I32 L33 R (fun y0 y1 y2 y3 y4 => ∃ n1, n1 < n ∧ J n1 y0 y1 y2 y3 y4) Q)) ∧ (¬ r12 = 2 → (r12 = 3 → K x0 = 11 ∧ w_X10_readType x0 x1 K N I L R (fun r35 I36 L37 => w_X10_readUnit_136 x0 x1 x2 r35 K N I36 L37 R (fun y0 y1 y2 y3 y4 => ∃ n1, n1 < n ∧ J n1 y0 y1 y2 y3 y4) Q)) ∧ (¬ r12 = 3 → (r12 = 4 → K x0 = 11 ∧ w_X10_readVar x0 x1 K N I L R (fun r39 I40 L41 => w_X10_readUnit_136 x0 x1 x2 r39 K N I40 L41 R (fun y0 y1 y2 y3 y4 => ∃ n1, n1 < n ∧ J n1 y0 y1 y2 y3 y4) Q)) ∧ (¬ r12 = 4 → (r12 = 5 → K x0 = 11 ∧ w_X10_readPlace x0 x1 K N I L R (fun r43 I44 L45 => w_X10_readUnit_136 x0 x1 x2 r43 K N I44 L45 R (fun y0 y1 y2 y3 y4 => ∃ n1, n1 < n ∧ J n1 y0 y1 y2 y3 y4) Q)) ∧ (¬ r12 = 5 → w_X8_fail x1 1 K N I L R (fun r46 I47 => w_X10_readUnit_136 x0 x1 x2 r46 K N I47 L R (fun y0 y1 y2 y3 y4 => ∃ n1, n1 < n ∧ J n1 y0 y1 y2 y3 y4) Q))))))))))
def w_X10_readUnit  (a0 : Nat) (a1 : Nat) (K : MK) (N : MK) (I : MI) (L : ML) (R : MR) (Q : Int32 → MI → ML → Prop) : Prop := K a0 = 11 ∧ ∃ b2 : Nat, R a0 0 = some b2 ∧ K b2 = 10 ∧ w_X9_makeEmpty b2 K N I L R (fun I4 => ∀ I5 : MI, I5 = mup I4 a0 1 0 → K a1 = 9 ∧ w_X8_begin a1 900 K N I5 L R (fun I7 L8 => w_X10_readUnit_21 a0 a1 0 K N I7 L8 R Q))
set_option maxHeartbeats 4000000 in
set_option maxRecDepth 100000 in
theorem z_X10_readUnit_136 {X : ZX} {G : ZG}  {x0 : Nat} {x1 : Nat} {x2 : Int32} {x3 : Bool}  {K : MK} {N : MK} {I : MI} {L : ML} {R : MR} {C21 : Nat → Nat → Int32 → MI → ML → Prop} {Q : Int32 → MI → ML → Prop} (hC : ZOk X G RX10 cX10_readUnit 4 (some .int)) (hRm : X.2.2.2.1 = rm_X10_readUnit) (hC21 : ∀ (y0 : Nat) (y1 : Nat) (y2 : Int32) (zI : MI) (zL : ML), C21 y0 y1 y2 zI zL → Z X G 4 0 0 (z_T X G (qLi K N R Q) 0 0) K N zI zL R 21 [(0, .ref y0), (1, .ref y1), (2, .int y2)] []) (h : w_X10_readUnit_136 x0 x1 x2 x3 K N I L R C21 Q) : Z X G 4 0 0 (z_T X G (qLi K N R Q) 0 0) K N I L R 136 [(0, .ref x0), (1, .ref x1), (2, .int x2), (3, .int (bi x3))] [] := by
  delta w_X10_readUnit_136 at h
  refine z_iload_n hC (q := 3) dX10_readUnit_136 rfl rfl ?_
  refine z_ifz_eq hC (tgt := 149) dX10_readUnit_137 (by decide) (fun hc => ?_) (fun hc => ?_)
  · have h := h.1 hc
    refine z_aload_n hC (q := 0) dX10_readUnit_149 rfl rfl ?_
    obtain ⟨hk17, h⟩ := h
    refine gf_RX10_18 hC dX10_readUnit_150 hk17 ?_
    exact z_iret hC dX10_readUnit_153 ⟨_, rfl, rfl, rfl, rfl, h⟩
  · have h := h.2 hc
    refine z_aload_n hC (q := 1) dX10_readUnit_140 rfl rfl ?_
    refine z_bipush hC (v := 59) k_bipush_59 dX10_readUnit_141 ?_
    obtain ⟨hk18, h⟩ := h
    refine cl_RX10_64 hC (c_X8_passSign _ G x1 59 K N I L R _ h) hk18 dX10_readUnit_143 (by rw [hRm]; exact ⟨Nat.le_of_ble_eq_true rfl, Nat.le_of_ble_eq_true rfl⟩) ⟨Nat.zero_le _, Nat.zero_le _⟩ (Nat.le_of_ble_eq_true rfl) (z_kLz (I := I) (L := L) (fun r19 I20 L21 h => ?_))
    refine z_ifz_ne hC (tgt := 154) dX10_readUnit_146 (by decide) (fun hc => ?_) (fun hc => ?_)
    · have h := h.1 hc
      refine z_aload_n hC (q := 0) dX10_readUnit_154 rfl rfl ?_
      refine z_dup hC rfl dX10_readUnit_155 ?_
      obtain ⟨hk22, h⟩ := h
      refine gf_RX10_18 hC dX10_readUnit_156 hk22 ?_
      refine z_iconst hC (v := 1) k_iconst_1 dX10_readUnit_159 ?_
      refine z_iadd hC dX10_readUnit_160 ?_
      refine pf_RX10_18 hC dX10_readUnit_161 hk22 ?_
      refine z_genI (fun I23 eI23 => ?_)
      have h := h I23 eI23
      obtain ⟨v24, ev24⟩ : ∃ y : Int32, y = x2 + 1 := ⟨_, rfl⟩
      have h := h v24 ev24
      refine z_iinc hC (q := 2) (v := v24) (lv1 := [(2, .int v24), (0, .ref x0), (1, .ref x1), (3, .int (bi x3))]) dX10_readUnit_164 rfl (by rw [ev24, k_iinc_1]) (by decide) rfl ?_
      refine z_goto hC (tgt := 21) dX10_readUnit_167 (by decide) ?_
      exact z_sub [(0, .ref x0), (1, .ref x1), (2, .int v24)] [1, 2, 0] rfl (hC21 _ _ _ _ _ h)
    · have h := h.2 hc
      refine z_aload_n hC (q := 0) dX10_readUnit_149 rfl rfl ?_
      obtain ⟨hk25, h⟩ := h
      refine gf_RX10_18 hC dX10_readUnit_150 hk25 ?_
      exact z_iret hC dX10_readUnit_153 ⟨_, rfl, rfl, rfl, rfl, h⟩
set_option maxHeartbeats 4000000 in
set_option maxRecDepth 100000 in
theorem z_X10_readUnit_21 {X : ZX} {G : ZG}  {x0 : Nat} {x1 : Nat} {x2 : Int32}  {K : MK} {N : MK} {I : MI} {L : ML} {R : MR}  {Q : Int32 → MI → ML → Prop} (hC : ZOk X G RX10 cX10_readUnit 4 (some .int)) (hRm : X.2.2.2.1 = rm_X10_readUnit) (h : w_X10_readUnit_21 x0 x1 x2 K N I L R  Q) : Z X G 4 0 0 (z_T X G (qLi K N R Q) 0 0) K N I L R 21 [(0, .ref x0), (1, .ref x1), (2, .int x2)] [] := by
  delta w_X10_readUnit_21 at h
  obtain ⟨J, ⟨n, h0⟩, hs⟩ := h
  have key : ∀ (n : Nat) (x0 : Nat) (x1 : Nat) (x2 : Int32) (I : MI) (L : ML), J n x0 x1 x2 I L → Z X G 4 0 0 (z_T X G (qLi K N R Q) 0 0) K N I L R 21 [(0, .ref x0), (1, .ref x1), (2, .int x2)] [] := by
    intro n
    induction n using Nat.strongRecOn with
    | _ n ih =>
      intro x0 x1 x2 I L hJ
      have hC21 : ∀ (y0 : Nat) (y1 : Nat) (y2 : Int32) (zI : MI) (zL : ML), (∃ n1, n1 < n ∧ J n1 y0 y1 y2 zI zL) → Z X G 4 0 0 (z_T X G (qLi K N R Q) 0 0) K N zI zL R 21 [(0, .ref y0), (1, .ref y1), (2, .int y2)] [] := fun y0 y1 y2 zI zL ⟨n1, hn1, hj⟩ => ih n1 hn1 y0 y1 y2 zI zL hj
      have h := hs n x0 x1 x2 I L hJ
      refine z_iload_n hC (q := 2) dX10_readUnit_21 rfl rfl ?_
      refine z_sipush hC (v := 900) k_sipush_900 dX10_readUnit_22 ?_
      refine z_icmp_ge hC (tgt := 170) dX10_readUnit_25 (by decide) (fun hc => ?_) (fun hc => ?_)
      · have h := h.1 hc
        refine z_aload_n hC (q := 0) dX10_readUnit_170 rfl rfl ?_
        obtain ⟨hk9, h⟩ := h
        refine gf_RX10_18 hC dX10_readUnit_171 hk9 ?_
        exact z_iret hC dX10_readUnit_174 ⟨_, rfl, rfl, rfl, rfl, h⟩
      · have h := h.2 hc
        refine z_aload_n hC (q := 1) dX10_readUnit_28 rfl rfl ?_
        obtain ⟨hk10, h⟩ := h
        refine gf_RX10_34 hC dX10_readUnit_29 hk10 ?_
        refine z_if_eq hC (tgt := 170) dX10_readUnit_32 (by decide) (fun hc => ?_) (fun hc => ?_)
        · have h := h.1 hc
          refine z_aload_n hC (q := 0) dX10_readUnit_170 rfl rfl ?_
          obtain ⟨hk11, h⟩ := h
          refine gf_RX10_18 hC dX10_readUnit_171 hk11 ?_
          exact z_iret hC dX10_readUnit_174 ⟨_, rfl, rfl, rfl, rfl, h⟩
        · have h := h.2 hc
          refine z_aload_n hC (q := 1) dX10_readUnit_35 rfl rfl ?_
          refine cl_RX10_37 hC (c_X8_wordHere _ G x1 K N I L R _ h) hk10 dX10_readUnit_36 (by rw [hRm]; exact ⟨Nat.le_of_ble_eq_true rfl, Nat.le_of_ble_eq_true rfl⟩) ⟨Nat.zero_le _, Nat.zero_le _⟩ (Nat.le_of_ble_eq_true rfl) (z_kPi (fun r12 h => ?_))
          by_cases hc0 : r12 = 0
          · have h := h.1 hc0
            refine z_tableIn hC (off := 37) (tgt := 76) 0 hc0 dX10_readUnit_39 (by decide) (by decide) ?_
            refine z_aload_n hC (q := 0) dX10_readUnit_76 rfl rfl ?_
            refine z_aload_n hC (q := 1) dX10_readUnit_77 rfl rfl ?_
            obtain ⟨hk13, h⟩ := h
            refine cl_RX10_41 hC (c_X10_readSize _ G x0 x1 K N I L R _ h) hk13 dX10_readUnit_78 (by rw [hRm]; exact ⟨Nat.le_of_ble_eq_true rfl, Nat.le_of_ble_eq_true rfl⟩) ⟨Nat.zero_le _, Nat.zero_le _⟩ (Nat.le_of_ble_eq_true rfl) (z_kLz (I := I) (L := L) (fun r14 I15 L16 h => ?_))
            refine z_istore_n hC (lv1 := [(3, .int (bi r14)), (0, .ref x0), (1, .ref x1), (2, .int x2)]) dX10_readUnit_81 rfl (by decide) rfl ?_
            refine z_goto hC (tgt := 136) dX10_readUnit_82 (by decide) ?_
            exact z_sub [(0, .ref x0), (1, .ref x1), (2, .int x2), (3, .int (bi r14))] [1, 2, 3, 0] rfl (z_X10_readUnit_136 hC hRm hC21 h)
          · have h := h.2 hc0
            by_cases hc1 : r12 = 1
            · have h := h.1 hc1
              refine z_tableIn hC (off := 46) (tgt := 85) 1 hc1 dX10_readUnit_39 (by decide) (by decide) ?_
              refine z_aload_n hC (q := 0) dX10_readUnit_85 rfl rfl ?_
              refine z_aload_n hC (q := 1) dX10_readUnit_86 rfl rfl ?_
              obtain ⟨hk26, h⟩ := h
              refine cl_RX10_45 hC (c_X10_readRow _ G x0 x1 K N I L R _ h) hk26 dX10_readUnit_87 (by rw [hRm]; exact ⟨Nat.le_of_ble_eq_true rfl, Nat.le_of_ble_eq_true rfl⟩) ⟨Nat.zero_le _, Nat.zero_le _⟩ (Nat.le_of_ble_eq_true rfl) (z_kLz (I := I) (L := L) (fun r27 I28 L29 h => ?_))
              refine z_istore_n hC (lv1 := [(3, .int (bi r27)), (0, .ref x0), (1, .ref x1), (2, .int x2)]) dX10_readUnit_90 rfl (by decide) rfl ?_
              refine z_goto hC (tgt := 136) dX10_readUnit_91 (by decide) ?_
              exact z_sub [(0, .ref x0), (1, .ref x1), (2, .int x2), (3, .int (bi r27))] [1, 2, 3, 0] rfl (z_X10_readUnit_136 hC hRm hC21 h)
            · have h := h.2 hc1
              by_cases hc2 : r12 = 2
              · have h := h.1 hc2
                refine z_tableIn hC (off := 55) (tgt := 94) 2 hc2 dX10_readUnit_39 (by decide) (by decide) ?_
                refine z_aload_n hC (q := 0) dX10_readUnit_94 rfl rfl ?_
                refine z_aload_n hC (q := 1) dX10_readUnit_95 rfl rfl ?_
                obtain ⟨hk30, h⟩ := h
                refine cl_RX10_48 hC (c_X10_readScope _ G x0 x1 K N I L R _ h) hk30 dX10_readUnit_96 (by rw [hRm]; exact ⟨Nat.le_of_ble_eq_true rfl, Nat.le_of_ble_eq_true rfl⟩) ⟨Nat.zero_le _, Nat.zero_le _⟩ (Nat.le_of_ble_eq_true rfl) (z_kLz (I := I) (L := L) (fun r31 I32 L33 h => ?_))
                refine z_istore_n hC (lv1 := [(3, .int (bi r31)), (0, .ref x0), (1, .ref x1), (2, .int x2)]) dX10_readUnit_99 rfl (by decide) rfl ?_
                refine z_goto hC (tgt := 136) dX10_readUnit_100 (by decide) ?_
                exact z_sub [(0, .ref x0), (1, .ref x1), (2, .int x2), (3, .int (bi r31))] [1, 2, 3, 0] rfl (z_X10_readUnit_136 hC hRm hC21 h)
              · have h := h.2 hc2
                by_cases hc3 : r12 = 3
                · have h := h.1 hc3
                  refine z_tableIn hC (off := 64) (tgt := 103) 3 hc3 dX10_readUnit_39 (by decide) (by decide) ?_
                  refine z_aload_n hC (q := 0) dX10_readUnit_103 rfl rfl ?_
                  refine z_aload_n hC (q := 1) dX10_readUnit_104 rfl rfl ?_
                  obtain ⟨hk34, h⟩ := h
                  refine cl_RX10_51 hC (c_X10_readType _ G x0 x1 K N I L R _ h) hk34 dX10_readUnit_105 (by rw [hRm]; exact ⟨Nat.le_of_ble_eq_true rfl, Nat.le_of_ble_eq_true rfl⟩) ⟨Nat.zero_le _, Nat.zero_le _⟩ (Nat.le_of_ble_eq_true rfl) (z_kLz (I := I) (L := L) (fun r35 I36 L37 h => ?_))
                  refine z_istore_n hC (lv1 := [(3, .int (bi r35)), (0, .ref x0), (1, .ref x1), (2, .int x2)]) dX10_readUnit_108 rfl (by decide) rfl ?_
                  refine z_goto hC (tgt := 136) dX10_readUnit_109 (by decide) ?_
                  exact z_sub [(0, .ref x0), (1, .ref x1), (2, .int x2), (3, .int (bi r35))] [1, 2, 3, 0] rfl (z_X10_readUnit_136 hC hRm hC21 h)
                · have h := h.2 hc3
                  by_cases hc4 : r12 = 4
                  · have h := h.1 hc4
                    refine z_tableIn hC (off := 73) (tgt := 112) 4 hc4 dX10_readUnit_39 (by decide) (by decide) ?_
                    refine z_aload_n hC (q := 0) dX10_readUnit_112 rfl rfl ?_
                    refine z_aload_n hC (q := 1) dX10_readUnit_113 rfl rfl ?_
                    obtain ⟨hk38, h⟩ := h
                    refine cl_RX10_54 hC (c_X10_readVar _ G x0 x1 K N I L R _ h) hk38 dX10_readUnit_114 (by rw [hRm]; exact ⟨Nat.le_of_ble_eq_true rfl, Nat.le_of_ble_eq_true rfl⟩) ⟨Nat.zero_le _, Nat.zero_le _⟩ (Nat.le_of_ble_eq_true rfl) (z_kLz (I := I) (L := L) (fun r39 I40 L41 h => ?_))
                    refine z_istore_n hC (lv1 := [(3, .int (bi r39)), (0, .ref x0), (1, .ref x1), (2, .int x2)]) dX10_readUnit_117 rfl (by decide) rfl ?_
                    refine z_goto hC (tgt := 136) dX10_readUnit_118 (by decide) ?_
                    exact z_sub [(0, .ref x0), (1, .ref x1), (2, .int x2), (3, .int (bi r39))] [1, 2, 3, 0] rfl (z_X10_readUnit_136 hC hRm hC21 h)
                  · have h := h.2 hc4
                    by_cases hc5 : r12 = 5
                    · have h := h.1 hc5
                      refine z_tableIn hC (off := 82) (tgt := 121) 5 hc5 dX10_readUnit_39 (by decide) (by decide) ?_
                      refine z_aload_n hC (q := 0) dX10_readUnit_121 rfl rfl ?_
                      refine z_aload_n hC (q := 1) dX10_readUnit_122 rfl rfl ?_
                      obtain ⟨hk42, h⟩ := h
                      refine cl_RX10_57 hC (c_X10_readPlace _ G x0 x1 K N I L R _ h) hk42 dX10_readUnit_123 (by rw [hRm]; exact ⟨Nat.le_of_ble_eq_true rfl, Nat.le_of_ble_eq_true rfl⟩) ⟨Nat.zero_le _, Nat.zero_le _⟩ (Nat.le_of_ble_eq_true rfl) (z_kLz (I := I) (L := L) (fun r43 I44 L45 h => ?_))
                      refine z_istore_n hC (lv1 := [(3, .int (bi r43)), (0, .ref x0), (1, .ref x1), (2, .int x2)]) dX10_readUnit_126 rfl (by decide) rfl ?_
                      refine z_goto hC (tgt := 136) dX10_readUnit_127 (by decide) ?_
                      exact z_sub [(0, .ref x0), (1, .ref x1), (2, .int x2), (3, .int (bi r43))] [1, 2, 3, 0] rfl (z_X10_readUnit_136 hC hRm hC21 h)
                    · have h := h.2 hc5
                      have hout : r12.toInt < 0 ∨ 5 < r12.toInt := by
                        have hc0 := z_nei hc0 (by decide : (0 : Int32).toInt = 0)
                        have hc1 := z_nei hc1 (by decide : (1 : Int32).toInt = 1)
                        have hc2 := z_nei hc2 (by decide : (2 : Int32).toInt = 2)
                        have hc3 := z_nei hc3 (by decide : (3 : Int32).toInt = 3)
                        have hc4 := z_nei hc4 (by decide : (4 : Int32).toInt = 4)
                        have hc5 := z_nei hc5 (by decide : (5 : Int32).toInt = 5)
                        omega
                      refine z_tableOut hC (tgt := 130) dX10_readUnit_39 hout (by decide) ?_
                      refine z_aload_n hC (q := 1) dX10_readUnit_130 rfl rfl ?_
                      refine z_iconst hC (v := 1) k_iconst_1 dX10_readUnit_131 ?_
                      refine cl_RX10_60 hC (c_X8_fail _ G x1 1 K N I L R _ h) hk10 dX10_readUnit_132 (by rw [hRm]; exact ⟨Nat.le_of_ble_eq_true rfl, Nat.le_of_ble_eq_true rfl⟩) ⟨Nat.zero_le _, Nat.zero_le _⟩ (Nat.le_of_ble_eq_true rfl) (z_kIz (I := I) (fun r46 I47 h => ?_))
                      refine z_istore_n hC (lv1 := [(3, .int (bi r46)), (0, .ref x0), (1, .ref x1), (2, .int x2)]) dX10_readUnit_135 rfl (by decide) rfl ?_
                      exact z_sub [(0, .ref x0), (1, .ref x1), (2, .int x2), (3, .int (bi r46))] [1, 2, 3, 0] rfl (z_X10_readUnit_136 hC hRm hC21 h)
  exact key n x0 x1 x2 I L h0
set_option maxHeartbeats 4000000 in
set_option maxRecDepth 100000 in
theorem c_X10_readUnit  (l : Launch) (G : ZG) (a0 : Nat) (a1 : Nat) (K : MK) (N : MK) (I : MI) (L : ML) (R : MR) (Q : Int32 → MI → ML → Prop) (h : w_X10_readUnit a0 a1 K N I L R Q) : Met l yX10_readUnit (.code yX10_readUnit cX10_readUnit 4 (some .int) :: z_tbl) rm_X10_readUnit (z_Pc G [.ref a0, .ref a1] K N I L R) (z_Qc G (qLi K N R Q)) 0 0 (z_A G) := by
  refine z_met (by decide) (Nat.le_of_ble_eq_true rfl) (fun X hX hRm hC0 hnm => ?_)
  subst hX
  have hC : ZOk X G RX10 cX10_readUnit 4 (some .int) := hC0
  show Z X G 4 0 0 _ K N I L R 0 [(0, .ref a0), (1, .ref a1)] []
  delta w_X10_readUnit at h
  refine z_aload_n hC (q := 0) dX10_readUnit_0 rfl rfl ?_
  obtain ⟨hk1, h⟩ := h
  obtain ⟨b2, hb2, h⟩ := h
  refine gf_RX10_12 hC dX10_readUnit_1 hk1 hb2 ?_
  obtain ⟨hk3, h⟩ := h
  refine cl_RX10_25 hC (c_X9_makeEmpty _ G b2 K N I L R _ h) hk3 dX10_readUnit_4 (by rw [hRm]; exact ⟨Nat.le_of_ble_eq_true rfl, Nat.le_of_ble_eq_true rfl⟩) ⟨Nat.zero_le _, Nat.zero_le _⟩ (Nat.le_of_ble_eq_true rfl) (z_kIv (I := I) (fun I4 h => ?_))
  refine z_aload_n hC (q := 0) dX10_readUnit_7 rfl rfl ?_
  refine z_iconst hC (v := 0) k_iconst_0 dX10_readUnit_8 ?_
  refine pf_RX10_18 hC dX10_readUnit_9 hk1 ?_
  refine z_genI (fun I5 eI5 => ?_)
  have h := h I5 eI5
  refine z_aload_n hC (q := 1) dX10_readUnit_12 rfl rfl ?_
  refine z_sipush hC (v := 900) k_sipush_900 dX10_readUnit_13 ?_
  obtain ⟨hk6, h⟩ := h
  refine cl_RX10_28 hC (c_X8_begin _ G a1 900 K N I5 L R _ h) hk6 dX10_readUnit_16 (by rw [hRm]; exact ⟨Nat.le_of_ble_eq_true rfl, Nat.le_of_ble_eq_true rfl⟩) ⟨Nat.zero_le _, Nat.zero_le _⟩ (Nat.le_of_ble_eq_true rfl) (z_kLv (I := I5) (L := L) (fun I7 L8 h => ?_))
  refine z_iconst hC (v := 0) k_iconst_0 dX10_readUnit_19 ?_
  refine z_istore_n hC (lv1 := [(2, .int 0), (0, .ref a0), (1, .ref a1)]) dX10_readUnit_20 rfl (by decide) rfl ?_
  exact z_sub [(0, .ref a0), (1, .ref a1), (2, .int 0)] [1, 2, 0] rfl (z_X10_readUnit_21 hC hRm h)
def w_X11_feed  (a0 : Nat) (a1 : Int32) (a2 : Int32) (a3 : Int32) (a4 : Int32) (a5 : Int32) (K : MK) (N : MK) (I : MI) (L : ML) (R : MR) (Q : Int32 → MI → Prop) : Prop := K a0 = 12 ∧ ∃ b2 : Nat, R a0 0 = some b2 ∧ K b2 = 9 ∧ (((I b2 1) + 20) ≤ 940 → w_X8_putInt b2 a1 K N I L R (fun I4 => w_X8_putInt b2 a2 K N I4 L R (fun I5 => w_X8_putInt b2 a3 K N I5 L R (fun I6 => w_X8_putInt b2 a4 K N I6 L R (fun I7 => w_X8_putInt b2 a5 K N I7 L R (fun I8 => Q (I8 b2 1) I8)))))) ∧ (¬ ((I b2 1) + 20) ≤ 940 → Q (-1) I)
set_option maxHeartbeats 4000000 in
set_option maxRecDepth 100000 in
theorem c_X11_feed  (l : Launch) (G : ZG) (a0 : Nat) (a1 : Int32) (a2 : Int32) (a3 : Int32) (a4 : Int32) (a5 : Int32) (K : MK) (N : MK) (I : MI) (L : ML) (R : MR) (Q : Int32 → MI → Prop) (h : w_X11_feed a0 a1 a2 a3 a4 a5 K N I L R Q) : Met l yX11_feed (.code yX11_feed cX11_feed 6 (some .int) :: z_tbl) rm_X11_feed (z_Pc G [.ref a0, .int a1, .int a2, .int a3, .int a4, .int a5] K N I L R) (z_Qc G (qIi K N L R Q)) 0 0 (z_A G) := by
  refine z_met (by decide) (Nat.le_of_ble_eq_true rfl) (fun X hX hRm hC0 hnm => ?_)
  subst hX
  have hC : ZOk X G RX11 cX11_feed 6 (some .int) := hC0
  show Z X G 6 0 0 _ K N I L R 0 [(0, .ref a0), (1, .int a1), (2, .int a2), (3, .int a3), (4, .int a4), (5, .int a5)] []
  delta w_X11_feed at h
  refine z_aload_n hC (q := 0) dX11_feed_0 rfl rfl ?_
  obtain ⟨hk1, h⟩ := h
  obtain ⟨b2, hb2, h⟩ := h
  refine gf_RX11_10 hC dX11_feed_1 hk1 hb2 ?_
  obtain ⟨hk3, h⟩ := h
  refine gf_RX11_120 hC dX11_feed_4 hk3 ?_
  refine z_bipush hC (v := 20) k_bipush_20 dX11_feed_7 ?_
  refine z_iadd hC dX11_feed_9 ?_
  refine z_sipush hC (v := 940) k_sipush_940 dX11_feed_10 ?_
  refine z_icmp_le hC (tgt := 18) dX11_feed_13 (by decide) (fun hc => ?_) (fun hc => ?_)
  · have h := h.1 hc
    refine z_aload_n hC (q := 0) dX11_feed_18 rfl rfl ?_
    refine gf_RX11_10 hC dX11_feed_19 hk1 hb2 ?_
    refine z_iload_n hC (q := 1) dX11_feed_22 rfl rfl ?_
    refine cl_RX11_123 hC (c_X8_putInt _ G b2 a1 K N I L R _ h) hk3 dX11_feed_23 (by rw [hRm]; exact ⟨Nat.le_of_ble_eq_true rfl, Nat.le_of_ble_eq_true rfl⟩) ⟨Nat.zero_le _, Nat.zero_le _⟩ (Nat.le_of_ble_eq_true rfl) (z_kIv (I := I) (fun I4 h => ?_))
    refine z_aload_n hC (q := 0) dX11_feed_26 rfl rfl ?_
    refine gf_RX11_10 hC dX11_feed_27 hk1 hb2 ?_
    refine z_iload_n hC (q := 2) dX11_feed_30 rfl rfl ?_
    refine cl_RX11_123 hC (c_X8_putInt _ G b2 a2 K N I4 L R _ h) hk3 dX11_feed_31 (by rw [hRm]; exact ⟨Nat.le_of_ble_eq_true rfl, Nat.le_of_ble_eq_true rfl⟩) ⟨Nat.zero_le _, Nat.zero_le _⟩ (Nat.le_of_ble_eq_true rfl) (z_kIv (I := I4) (fun I5 h => ?_))
    refine z_aload_n hC (q := 0) dX11_feed_34 rfl rfl ?_
    refine gf_RX11_10 hC dX11_feed_35 hk1 hb2 ?_
    refine z_iload_n hC (q := 3) dX11_feed_38 rfl rfl ?_
    refine cl_RX11_123 hC (c_X8_putInt _ G b2 a3 K N I5 L R _ h) hk3 dX11_feed_39 (by rw [hRm]; exact ⟨Nat.le_of_ble_eq_true rfl, Nat.le_of_ble_eq_true rfl⟩) ⟨Nat.zero_le _, Nat.zero_le _⟩ (Nat.le_of_ble_eq_true rfl) (z_kIv (I := I5) (fun I6 h => ?_))
    refine z_aload_n hC (q := 0) dX11_feed_42 rfl rfl ?_
    refine gf_RX11_10 hC dX11_feed_43 hk1 hb2 ?_
    refine z_iload hC (q := 4) dX11_feed_46 rfl ?_
    refine cl_RX11_123 hC (c_X8_putInt _ G b2 a4 K N I6 L R _ h) hk3 dX11_feed_48 (by rw [hRm]; exact ⟨Nat.le_of_ble_eq_true rfl, Nat.le_of_ble_eq_true rfl⟩) ⟨Nat.zero_le _, Nat.zero_le _⟩ (Nat.le_of_ble_eq_true rfl) (z_kIv (I := I6) (fun I7 h => ?_))
    refine z_aload_n hC (q := 0) dX11_feed_51 rfl rfl ?_
    refine gf_RX11_10 hC dX11_feed_52 hk1 hb2 ?_
    refine z_iload hC (q := 5) dX11_feed_55 rfl ?_
    refine cl_RX11_123 hC (c_X8_putInt _ G b2 a5 K N I7 L R _ h) hk3 dX11_feed_57 (by rw [hRm]; exact ⟨Nat.le_of_ble_eq_true rfl, Nat.le_of_ble_eq_true rfl⟩) ⟨Nat.zero_le _, Nat.zero_le _⟩ (Nat.le_of_ble_eq_true rfl) (z_kIv (I := I7) (fun I8 h => ?_))
    refine z_aload_n hC (q := 0) dX11_feed_60 rfl rfl ?_
    refine gf_RX11_10 hC dX11_feed_61 hk1 hb2 ?_
    refine gf_RX11_120 hC dX11_feed_64 hk3 ?_
    exact z_iret hC dX11_feed_67 ⟨_, rfl, rfl, rfl, rfl, rfl, h⟩
  · have h := h.2 hc
    refine z_iconst hC (v := (-1)) k_iconst_m1 dX11_feed_16 ?_
    exact z_iret hC dX11_feed_17 ⟨_, rfl, rfl, rfl, rfl, rfl, h⟩
def w_X11_end  (a0 : Nat) (a1 : Int32) (K : MK) (N : MK) (I : MI) (L : ML) (R : MR) (Q : Bool → MI → Prop) : Prop := (a1 < 0 → Q false I) ∧ (¬ a1 < 0 → K a0 = 12 ∧ ∃ b2 : Nat, R a0 0 = some b2 ∧ K b2 = 9 ∧ (a1 ≤ (I b2 1) → ∀ I4 : MI, I4 = mup I b2 1 a1 → Q true I4) ∧ (¬ a1 ≤ (I b2 1) → Q false I))
set_option maxHeartbeats 4000000 in
set_option maxRecDepth 100000 in
theorem c_X11_end  (l : Launch) (G : ZG) (a0 : Nat) (a1 : Int32) (K : MK) (N : MK) (I : MI) (L : ML) (R : MR) (Q : Bool → MI → Prop) (h : w_X11_end a0 a1 K N I L R Q) : Met l yX11_end (.code yX11_end cX11_end 2 (some .boolean) :: z_tbl) rm_X11_end (z_Pc G [.ref a0, .int a1] K N I L R) (z_Qc G (qIz K N L R Q)) 0 0 (z_A G) := by
  refine z_met (by decide) (Nat.le_of_ble_eq_true rfl) (fun X hX hRm hC0 hnm => ?_)
  subst hX
  have hC : ZOk X G RX11 cX11_end 2 (some .boolean) := hC0
  show Z X G 2 0 0 _ K N I L R 0 [(0, .ref a0), (1, .int a1)] []
  delta w_X11_end at h
  refine z_iload_n hC (q := 1) dX11_end_0 rfl rfl ?_
  refine z_if_lt hC (tgt := 15) dX11_end_1 (by decide) (fun hc => ?_) (fun hc => ?_)
  · have h := h.1 hc
    refine z_iconst hC (v := 0) k_iconst_0 dX11_end_15 ?_
    exact z_zret (b := false) hC dX11_end_16 rfl ⟨false, rfl, rfl, rfl, rfl, rfl, h⟩
  · have h := h.2 hc
    refine z_iload_n hC (q := 1) dX11_end_4 rfl rfl ?_
    refine z_aload_n hC (q := 0) dX11_end_5 rfl rfl ?_
    obtain ⟨hk1, h⟩ := h
    obtain ⟨b2, hb2, h⟩ := h
    refine gf_RX11_10 hC dX11_end_6 hk1 hb2 ?_
    obtain ⟨hk3, h⟩ := h
    refine gf_RX11_120 hC dX11_end_9 hk3 ?_
    refine z_icmp_le hC (tgt := 17) dX11_end_12 (by decide) (fun hc => ?_) (fun hc => ?_)
    · have h := h.1 hc
      refine z_aload_n hC (q := 0) dX11_end_17 rfl rfl ?_
      refine gf_RX11_10 hC dX11_end_18 hk1 hb2 ?_
      refine z_iload_n hC (q := 1) dX11_end_21 rfl rfl ?_
      refine pf_RX11_120 hC dX11_end_22 hk3 ?_
      refine z_genI (fun I4 eI4 => ?_)
      have h := h I4 eI4
      refine z_iconst hC (v := 1) k_iconst_1 dX11_end_25 ?_
      exact z_zret (b := true) hC dX11_end_26 rfl ⟨true, rfl, rfl, rfl, rfl, rfl, h⟩
    · have h := h.2 hc
      refine z_iconst hC (v := 0) k_iconst_0 dX11_end_15 ?_
      exact z_zret (b := false) hC dX11_end_16 rfl ⟨false, rfl, rfl, rfl, rfl, rfl, h⟩
def w_X11_unit  (a0 : Nat) (K : MK) (N : MK) (I : MI) (L : ML) (R : MR) (Q : Int32 → MI → ML → Prop) : Prop := K a0 = 12 ∧ ∃ b2 : Nat, R a0 9 = some b2 ∧ ∃ b3 : Nat, R a0 0 = some b3 ∧ K b2 = 11 ∧ w_X10_readUnit b2 b3 K N I L R (fun r5 I6 L7 => K b3 = 9 ∧ ∀ I9 : MI, I9 = mup I6 b3 1 0 → ((I9 b3 10) = 0 → ∃ b10 : Nat, R a0 1 = some b10 ∧ ∃ b11 : Nat, R b2 0 = some b11 ∧ K b10 = 10 ∧ w_X9_copyFrom b10 b11 K N I9 L7 R (fun I13 L14 => ∃ b15 : Nat, R a0 2 = some b15 ∧ K b15 = 4 ∧ w_X3_makeNew b15 K N I13 L14 R (fun I17 => ∃ b18 : Nat, R a0 8 = some b18 ∧ K b18 = 6 ∧ w_X5_forget b18 K N I17 L14 R (fun I20 => ∀ I21 : MI, I21 = mup I20 a0 5 0 → Q r5 I21 L14)))) ∧ (¬ (I9 b3 10) = 0 → Q ((-1 : Int32) - (I9 b3 11)) I9 L7))
set_option maxHeartbeats 4000000 in
set_option maxRecDepth 100000 in
theorem c_X11_unit  (l : Launch) (G : ZG) (a0 : Nat) (K : MK) (N : MK) (I : MI) (L : ML) (R : MR) (Q : Int32 → MI → ML → Prop) (h : w_X11_unit a0 K N I L R Q) : Met l yX11_unit (.code yX11_unit cX11_unit 2 (some .int) :: z_tbl) rm_X11_unit (z_Pc G [.ref a0] K N I L R) (z_Qc G (qLi K N R Q)) 0 0 (z_A G) := by
  refine z_met (by decide) (Nat.le_of_ble_eq_true rfl) (fun X hX hRm hC0 hnm => ?_)
  subst hX
  have hC : ZOk X G RX11 cX11_unit 2 (some .int) := hC0
  show Z X G 2 0 0 _ K N I L R 0 [(0, .ref a0)] []
  delta w_X11_unit at h
  refine z_aload_n hC (q := 0) dX11_unit_0 rfl rfl ?_
  obtain ⟨hk1, h⟩ := h
  obtain ⟨b2, hb2, h⟩ := h
  refine gf_RX11_65 hC dX11_unit_1 hk1 hb2 ?_
  refine z_aload_n hC (q := 0) dX11_unit_4 rfl rfl ?_
  obtain ⟨b3, hb3, h⟩ := h
  refine gf_RX11_10 hC dX11_unit_5 hk1 hb3 ?_
  obtain ⟨hk4, h⟩ := h
  refine cl_RX11_127 hC (c_X10_readUnit _ G b2 b3 K N I L R _ h) hk4 dX11_unit_8 (by rw [hRm]; exact ⟨Nat.le_of_ble_eq_true rfl, Nat.le_of_ble_eq_true rfl⟩) ⟨Nat.zero_le _, Nat.zero_le _⟩ (Nat.le_of_ble_eq_true rfl) (z_kLi (I := I) (L := L) (fun r5 I6 L7 h => ?_))
  refine z_istore_n hC (lv1 := [(1, .int r5), (0, .ref a0)]) dX11_unit_11 rfl (by decide) rfl ?_
  refine z_aload_n hC (q := 1) dX11_unit_12 rfl rfl ?_
  refine gf_RX11_10 hC dX11_unit_13 hk1 hb3 ?_
  refine z_iconst hC (v := 0) k_iconst_0 dX11_unit_16 ?_
  obtain ⟨hk8, h⟩ := h
  refine pf_RX11_120 hC dX11_unit_17 hk8 ?_
  refine z_genI (fun I9 eI9 => ?_)
  have h := h I9 eI9
  refine z_aload_n hC (q := 1) dX11_unit_20 rfl rfl ?_
  refine gf_RX11_10 hC dX11_unit_21 hk1 hb3 ?_
  refine gf_RX11_131 hC dX11_unit_24 hk8 ?_
  refine z_if_eq hC (tgt := 40) dX11_unit_27 (by decide) (fun hc => ?_) (fun hc => ?_)
  · have h := h.1 hc
    refine z_aload_n hC (q := 1) dX11_unit_40 rfl rfl ?_
    obtain ⟨b10, hb10, h⟩ := h
    refine gf_RX11_19 hC dX11_unit_41 hk1 hb10 ?_
    refine z_aload_n hC (q := 1) dX11_unit_44 rfl rfl ?_
    refine gf_RX11_65 hC dX11_unit_45 hk1 hb2 ?_
    obtain ⟨b11, hb11, h⟩ := h
    refine gf_RX11_137 hC dX11_unit_48 hk4 hb11 ?_
    obtain ⟨hk12, h⟩ := h
    refine cl_RX11_140 hC (c_X9_copyFrom _ G b10 b11 K N I9 L7 R _ h) hk12 dX11_unit_51 (by rw [hRm]; exact ⟨Nat.le_of_ble_eq_true rfl, Nat.le_of_ble_eq_true rfl⟩) ⟨Nat.zero_le _, Nat.zero_le _⟩ (Nat.le_of_ble_eq_true rfl) (z_kLv (I := I9) (L := L7) (fun I13 L14 h => ?_))
    refine z_aload_n hC (q := 1) dX11_unit_54 rfl rfl ?_
    obtain ⟨b15, hb15, h⟩ := h
    refine gf_RX11_26 hC dX11_unit_55 hk1 hb15 ?_
    obtain ⟨hk16, h⟩ := h
    refine cl_RX11_144 hC (c_X3_makeNew _ G b15 K N I13 L14 R _ h) hk16 dX11_unit_58 (by rw [hRm]; exact ⟨Nat.le_of_ble_eq_true rfl, Nat.le_of_ble_eq_true rfl⟩) ⟨Nat.zero_le _, Nat.zero_le _⟩ (Nat.le_of_ble_eq_true rfl) (z_kIv (I := I13) (fun I17 h => ?_))
    refine z_aload_n hC (q := 1) dX11_unit_61 rfl rfl ?_
    obtain ⟨b18, hb18, h⟩ := h
    refine gf_RX11_58 hC dX11_unit_62 hk1 hb18 ?_
    obtain ⟨hk19, h⟩ := h
    refine cl_RX11_147 hC (c_X5_forget _ G b18 K N I17 L14 R _ h) hk19 dX11_unit_65 (by rw [hRm]; exact ⟨Nat.le_of_ble_eq_true rfl, Nat.le_of_ble_eq_true rfl⟩) ⟨Nat.zero_le _, Nat.zero_le _⟩ (Nat.le_of_ble_eq_true rfl) (z_kIv (I := I17) (fun I20 h => ?_))
    refine z_aload_n hC (q := 1) dX11_unit_68 rfl rfl ?_
    refine z_iconst hC (v := 0) k_iconst_0 dX11_unit_69 ?_
    refine pf_RX11_37 hC dX11_unit_70 hk1 ?_
    refine z_genI (fun I21 eI21 => ?_)
    have h := h I21 eI21
    refine z_iload_n hC (q := 0) dX11_unit_73 rfl rfl ?_
    exact z_iret hC dX11_unit_74 ⟨_, rfl, rfl, rfl, rfl, h⟩
  · have h := h.2 hc
    refine z_iconst hC (v := (-1)) k_iconst_m1 dX11_unit_30 ?_
    refine z_aload_n hC (q := 1) dX11_unit_31 rfl rfl ?_
    refine gf_RX11_10 hC dX11_unit_32 hk1 hb3 ?_
    refine gf_RX11_134 hC dX11_unit_35 hk8 ?_
    refine z_isub hC dX11_unit_38 ?_
    exact z_iret hC dX11_unit_39 ⟨_, rfl, rfl, rfl, rfl, h⟩
def w_X11_fault  (a0 : Nat) (K : MK) (N : MK) (I : MI) (L : ML) (R : MR) (Q : Int32 → Prop) : Prop := K a0 = 12 ∧ ∃ b2 : Nat, R a0 0 = some b2 ∧ K b2 = 9 ∧ Q (I b2 10)
set_option maxHeartbeats 4000000 in
set_option maxRecDepth 100000 in
theorem c_X11_fault  (l : Launch) (G : ZG) (a0 : Nat) (K : MK) (N : MK) (I : MI) (L : ML) (R : MR) (Q : Int32 → Prop) (h : w_X11_fault a0 K N I L R Q) : Met l yX11_fault (.code yX11_fault cX11_fault 1 (some .int) :: z_tbl) rm_X11_fault (z_Pc G [.ref a0] K N I L R) (z_Qc G (qPi K N I L R Q)) 0 0 (z_A G) := by
  refine z_met (by decide) (Nat.le_of_ble_eq_true rfl) (fun X hX hRm hC0 hnm => ?_)
  subst hX
  have hC : ZOk X G RX11 cX11_fault 1 (some .int) := hC0
  show Z X G 1 0 0 _ K N I L R 0 [(0, .ref a0)] []
  delta w_X11_fault at h
  refine z_aload_n hC (q := 0) dX11_fault_0 rfl rfl ?_
  obtain ⟨hk1, h⟩ := h
  obtain ⟨b2, hb2, h⟩ := h
  refine gf_RX11_10 hC dX11_fault_1 hk1 hb2 ?_
  obtain ⟨hk3, h⟩ := h
  refine gf_RX11_131 hC dX11_fault_4 hk3 ?_
  exact z_iret hC dX11_fault_7 ⟨_, rfl, rfl, rfl, rfl, rfl, rfl, h⟩
def w_X11_row  (a0 : Nat) (a1 : Int32) (a2 : Int32) (K : MK) (N : MK) (I : MI) (L : ML) (R : MR) (Q : Int32 → Prop) : Prop := K a0 = 12 ∧ ∃ b2 : Nat, R a0 1 = some b2 ∧ K b2 = 10 ∧ ∃ b4 : Nat, R b2 1 = some b4 ∧ K b4 = 8 ∧ w_X7_has b4 a1 K N I L R (fun r6 => (r6 = true → (a2 = 0 → w_X7_at b4 a1 0 K N I L R (fun r7 => Q r7)) ∧ (¬ a2 = 0 → (a2 = 1 → w_X7_at b4 a1 1 K N I L R (fun r8 => Q r8)) ∧ (¬ a2 = 1 → (a2 = 2 → w_X9_rowLength b2 a1 K N I L R (fun r9 => Q r9)) ∧ (¬ a2 = 2 → Q (-1))))) ∧ (r6 = false → Q (-1)))
set_option maxHeartbeats 4000000 in
set_option maxRecDepth 100000 in
theorem c_X11_row  (l : Launch) (G : ZG) (a0 : Nat) (a1 : Int32) (a2 : Int32) (K : MK) (N : MK) (I : MI) (L : ML) (R : MR) (Q : Int32 → Prop) (h : w_X11_row a0 a1 a2 K N I L R Q) : Met l yX11_row (.code yX11_row cX11_row 3 (some .int) :: z_tbl) rm_X11_row (z_Pc G [.ref a0, .int a1, .int a2] K N I L R) (z_Qc G (qPi K N I L R Q)) 0 0 (z_A G) := by
  refine z_met (by decide) (Nat.le_of_ble_eq_true rfl) (fun X hX hRm hC0 hnm => ?_)
  subst hX
  have hC : ZOk X G RX11 cX11_row 3 (some .int) := hC0
  show Z X G 3 0 0 _ K N I L R 0 [(0, .ref a0), (1, .int a1), (2, .int a2)] []
  delta w_X11_row at h
  refine z_aload_n hC (q := 0) dX11_row_0 rfl rfl ?_
  obtain ⟨hk1, h⟩ := h
  obtain ⟨b2, hb2, h⟩ := h
  refine gf_RX11_19 hC dX11_row_1 hk1 hb2 ?_
  obtain ⟨hk3, h⟩ := h
  obtain ⟨b4, hb4, h⟩ := h
  refine gf_RX11_150 hC dX11_row_4 hk3 hb4 ?_
  refine z_iload_n hC (q := 1) dX11_row_7 rfl rfl ?_
  obtain ⟨hk5, h⟩ := h
  refine cl_RX11_153 hC (c_X7_has _ G b4 a1 K N I L R _ h) hk5 dX11_row_8 (by rw [hRm]; exact ⟨Nat.le_of_ble_eq_true rfl, Nat.le_of_ble_eq_true rfl⟩) ⟨Nat.zero_le _, Nat.zero_le _⟩ (Nat.le_of_ble_eq_true rfl) (z_kPz (fun r6 h => ?_))
  refine z_ifz_ne hC (tgt := 16) dX11_row_11 (by decide) (fun hc => ?_) (fun hc => ?_)
  · have h := h.1 hc
    refine z_iload_n hC (q := 2) dX11_row_16 rfl rfl ?_
    by_cases hc0 : a2 = 0
    · have h := h.1 hc0
      refine z_tableIn hC (off := 27) (tgt := 44) 0 hc0 dX11_row_17 (by decide) (by decide) ?_
      refine z_aload_n hC (q := 0) dX11_row_44 rfl rfl ?_
      refine gf_RX11_19 hC dX11_row_45 hk1 hb2 ?_
      refine gf_RX11_150 hC dX11_row_48 hk3 hb4 ?_
      refine z_iload_n hC (q := 1) dX11_row_51 rfl rfl ?_
      refine z_iconst hC (v := 0) k_iconst_0 dX11_row_52 ?_
      refine cl_RX11_157 hC (c_X7_at _ G b4 a1 0 K N I L R _ h) hk5 dX11_row_53 (by rw [hRm]; exact ⟨Nat.le_of_ble_eq_true rfl, Nat.le_of_ble_eq_true rfl⟩) ⟨Nat.zero_le _, Nat.zero_le _⟩ (Nat.le_of_ble_eq_true rfl) (z_kPi (fun r7 h => ?_))
      exact z_iret hC dX11_row_56 ⟨_, rfl, rfl, rfl, rfl, rfl, rfl, h⟩
    · have h := h.2 hc0
      by_cases hc1 : a2 = 1
      · have h := h.1 hc1
        refine z_tableIn hC (off := 40) (tgt := 57) 1 hc1 dX11_row_17 (by decide) (by decide) ?_
        refine z_aload_n hC (q := 0) dX11_row_57 rfl rfl ?_
        refine gf_RX11_19 hC dX11_row_58 hk1 hb2 ?_
        refine gf_RX11_150 hC dX11_row_61 hk3 hb4 ?_
        refine z_iload_n hC (q := 1) dX11_row_64 rfl rfl ?_
        refine z_iconst hC (v := 1) k_iconst_1 dX11_row_65 ?_
        refine cl_RX11_157 hC (c_X7_at _ G b4 a1 1 K N I L R _ h) hk5 dX11_row_66 (by rw [hRm]; exact ⟨Nat.le_of_ble_eq_true rfl, Nat.le_of_ble_eq_true rfl⟩) ⟨Nat.zero_le _, Nat.zero_le _⟩ (Nat.le_of_ble_eq_true rfl) (z_kPi (fun r8 h => ?_))
        exact z_iret hC dX11_row_69 ⟨_, rfl, rfl, rfl, rfl, rfl, rfl, h⟩
      · have h := h.2 hc1
        by_cases hc2 : a2 = 2
        · have h := h.1 hc2
          refine z_tableIn hC (off := 53) (tgt := 70) 2 hc2 dX11_row_17 (by decide) (by decide) ?_
          refine z_aload_n hC (q := 0) dX11_row_70 rfl rfl ?_
          refine gf_RX11_19 hC dX11_row_71 hk1 hb2 ?_
          refine z_iload_n hC (q := 1) dX11_row_74 rfl rfl ?_
          refine cl_RX11_161 hC (c_X9_rowLength _ G b2 a1 K N I L R _ h) hk3 dX11_row_75 (by rw [hRm]; exact ⟨Nat.le_of_ble_eq_true rfl, Nat.le_of_ble_eq_true rfl⟩) ⟨Nat.zero_le _, Nat.zero_le _⟩ (Nat.le_of_ble_eq_true rfl) (z_kPi (fun r9 h => ?_))
          exact z_iret hC dX11_row_78 ⟨_, rfl, rfl, rfl, rfl, rfl, rfl, h⟩
        · have h := h.2 hc2
          have hout : a2.toInt < 0 ∨ 2 < a2.toInt := by
            have hc0 := z_nei hc0 (by decide : (0 : Int32).toInt = 0)
            have hc1 := z_nei hc1 (by decide : (1 : Int32).toInt = 1)
            have hc2 := z_nei hc2 (by decide : (2 : Int32).toInt = 2)
            omega
          refine z_tableOut hC (tgt := 79) dX11_row_17 hout (by decide) ?_
          refine z_iconst hC (v := (-1)) k_iconst_m1 dX11_row_79 ?_
          exact z_iret hC dX11_row_80 ⟨_, rfl, rfl, rfl, rfl, rfl, rfl, h⟩
  · have h := h.2 hc
    refine z_iconst hC (v := (-1)) k_iconst_m1 dX11_row_14 ?_
    exact z_iret hC dX11_row_15 ⟨_, rfl, rfl, rfl, rfl, rfl, rfl, h⟩
def w_X11_scope  (a0 : Nat) (a1 : Int32) (a2 : Int32) (K : MK) (N : MK) (I : MI) (L : ML) (R : MR) (Q : Int32 → Prop) : Prop := K a0 = 12 ∧ ∃ b2 : Nat, R a0 1 = some b2 ∧ K b2 = 10 ∧ ∃ b4 : Nat, R b2 2 = some b4 ∧ K b4 = 8 ∧ w_X7_has b4 a1 K N I L R (fun r6 => (r6 = true → (a2 = 0 → w_X7_at b4 a1 0 K N I L R (fun r7 => Q r7)) ∧ (¬ a2 = 0 → (a2 = 1 → w_X7_at b4 a1 1 K N I L R (fun r8 => Q r8)) ∧ (¬ a2 = 1 → (a2 = 2 → w_X7_at b4 a1 2 K N I L R (fun r9 => Q r9)) ∧ (¬ a2 = 2 → (a2 = 3 → w_X7_at b4 a1 0 K N I L R (fun r10 => w_X9_scopeBehind b2 r10 a1 K N I L R (fun r11 => Q r11))) ∧ (¬ a2 = 3 → (a2 = 4 → w_X9_varsOf b2 a1 K N I L R (fun r12 => Q r12)) ∧ (¬ a2 = 4 → Q (-1))))))) ∧ (r6 = false → Q (-1)))
set_option maxHeartbeats 4000000 in
set_option maxRecDepth 100000 in
theorem c_X11_scope  (l : Launch) (G : ZG) (a0 : Nat) (a1 : Int32) (a2 : Int32) (K : MK) (N : MK) (I : MI) (L : ML) (R : MR) (Q : Int32 → Prop) (h : w_X11_scope a0 a1 a2 K N I L R Q) : Met l yX11_scope (.code yX11_scope cX11_scope 3 (some .int) :: z_tbl) rm_X11_scope (z_Pc G [.ref a0, .int a1, .int a2] K N I L R) (z_Qc G (qPi K N I L R Q)) 0 0 (z_A G) := by
  refine z_met (by decide) (Nat.le_of_ble_eq_true rfl) (fun X hX hRm hC0 hnm => ?_)
  subst hX
  have hC : ZOk X G RX11 cX11_scope 3 (some .int) := hC0
  show Z X G 3 0 0 _ K N I L R 0 [(0, .ref a0), (1, .int a1), (2, .int a2)] []
  delta w_X11_scope at h
  refine z_aload_n hC (q := 0) dX11_scope_0 rfl rfl ?_
  obtain ⟨hk1, h⟩ := h
  obtain ⟨b2, hb2, h⟩ := h
  refine gf_RX11_19 hC dX11_scope_1 hk1 hb2 ?_
  obtain ⟨hk3, h⟩ := h
  obtain ⟨b4, hb4, h⟩ := h
  refine gf_RX11_165 hC dX11_scope_4 hk3 hb4 ?_
  refine z_iload_n hC (q := 1) dX11_scope_7 rfl rfl ?_
  obtain ⟨hk5, h⟩ := h
  refine cl_RX11_153 hC (c_X7_has _ G b4 a1 K N I L R _ h) hk5 dX11_scope_8 (by rw [hRm]; exact ⟨Nat.le_of_ble_eq_true rfl, Nat.le_of_ble_eq_true rfl⟩) ⟨Nat.zero_le _, Nat.zero_le _⟩ (Nat.le_of_ble_eq_true rfl) (z_kPz (fun r6 h => ?_))
  refine z_ifz_ne hC (tgt := 16) dX11_scope_11 (by decide) (fun hc => ?_) (fun hc => ?_)
  · have h := h.1 hc
    refine z_iload_n hC (q := 2) dX11_scope_16 rfl rfl ?_
    by_cases hc0 : a2 = 0
    · have h := h.1 hc0
      refine z_tableIn hC (off := 35) (tgt := 52) 0 hc0 dX11_scope_17 (by decide) (by decide) ?_
      refine z_aload_n hC (q := 0) dX11_scope_52 rfl rfl ?_
      refine gf_RX11_19 hC dX11_scope_53 hk1 hb2 ?_
      refine gf_RX11_165 hC dX11_scope_56 hk3 hb4 ?_
      refine z_iload_n hC (q := 1) dX11_scope_59 rfl rfl ?_
      refine z_iconst hC (v := 0) k_iconst_0 dX11_scope_60 ?_
      refine cl_RX11_157 hC (c_X7_at _ G b4 a1 0 K N I L R _ h) hk5 dX11_scope_61 (by rw [hRm]; exact ⟨Nat.le_of_ble_eq_true rfl, Nat.le_of_ble_eq_true rfl⟩) ⟨Nat.zero_le _, Nat.zero_le _⟩ (Nat.le_of_ble_eq_true rfl) (z_kPi (fun r7 h => ?_))
      exact z_iret hC dX11_scope_64 ⟨_, rfl, rfl, rfl, rfl, rfl, rfl, h⟩
    · have h := h.2 hc0
      by_cases hc1 : a2 = 1
      · have h := h.1 hc1
        refine z_tableIn hC (off := 48) (tgt := 65) 1 hc1 dX11_scope_17 (by decide) (by decide) ?_
        refine z_aload_n hC (q := 0) dX11_scope_65 rfl rfl ?_
        refine gf_RX11_19 hC dX11_scope_66 hk1 hb2 ?_
        refine gf_RX11_165 hC dX11_scope_69 hk3 hb4 ?_
        refine z_iload_n hC (q := 1) dX11_scope_72 rfl rfl ?_
        refine z_iconst hC (v := 1) k_iconst_1 dX11_scope_73 ?_
        refine cl_RX11_157 hC (c_X7_at _ G b4 a1 1 K N I L R _ h) hk5 dX11_scope_74 (by rw [hRm]; exact ⟨Nat.le_of_ble_eq_true rfl, Nat.le_of_ble_eq_true rfl⟩) ⟨Nat.zero_le _, Nat.zero_le _⟩ (Nat.le_of_ble_eq_true rfl) (z_kPi (fun r8 h => ?_))
        exact z_iret hC dX11_scope_77 ⟨_, rfl, rfl, rfl, rfl, rfl, rfl, h⟩
      · have h := h.2 hc1
        by_cases hc2 : a2 = 2
        · have h := h.1 hc2
          refine z_tableIn hC (off := 61) (tgt := 78) 2 hc2 dX11_scope_17 (by decide) (by decide) ?_
          refine z_aload_n hC (q := 0) dX11_scope_78 rfl rfl ?_
          refine gf_RX11_19 hC dX11_scope_79 hk1 hb2 ?_
          refine gf_RX11_165 hC dX11_scope_82 hk3 hb4 ?_
          refine z_iload_n hC (q := 1) dX11_scope_85 rfl rfl ?_
          refine z_iconst hC (v := 2) k_iconst_2 dX11_scope_86 ?_
          refine cl_RX11_157 hC (c_X7_at _ G b4 a1 2 K N I L R _ h) hk5 dX11_scope_87 (by rw [hRm]; exact ⟨Nat.le_of_ble_eq_true rfl, Nat.le_of_ble_eq_true rfl⟩) ⟨Nat.zero_le _, Nat.zero_le _⟩ (Nat.le_of_ble_eq_true rfl) (z_kPi (fun r9 h => ?_))
          exact z_iret hC dX11_scope_90 ⟨_, rfl, rfl, rfl, rfl, rfl, rfl, h⟩
        · have h := h.2 hc2
          by_cases hc3 : a2 = 3
          · have h := h.1 hc3
            refine z_tableIn hC (off := 74) (tgt := 91) 3 hc3 dX11_scope_17 (by decide) (by decide) ?_
            refine z_aload_n hC (q := 0) dX11_scope_91 rfl rfl ?_
            refine gf_RX11_19 hC dX11_scope_92 hk1 hb2 ?_
            refine z_aload_n hC (q := 0) dX11_scope_95 rfl rfl ?_
            refine gf_RX11_19 hC dX11_scope_96 hk1 hb2 ?_
            refine gf_RX11_165 hC dX11_scope_99 hk3 hb4 ?_
            refine z_iload_n hC (q := 1) dX11_scope_102 rfl rfl ?_
            refine z_iconst hC (v := 0) k_iconst_0 dX11_scope_103 ?_
            refine cl_RX11_157 hC (c_X7_at _ G b4 a1 0 K N I L R _ h) hk5 dX11_scope_104 (by rw [hRm]; exact ⟨Nat.le_of_ble_eq_true rfl, Nat.le_of_ble_eq_true rfl⟩) ⟨Nat.zero_le _, Nat.zero_le _⟩ (Nat.le_of_ble_eq_true rfl) (z_kPi (fun r10 h => ?_))
            refine z_iload_n hC (q := 1) dX11_scope_107 rfl rfl ?_
            refine cl_RX11_168 hC (c_X9_scopeBehind _ G b2 r10 a1 K N I L R _ h) hk3 dX11_scope_108 (by rw [hRm]; exact ⟨Nat.le_of_ble_eq_true rfl, Nat.le_of_ble_eq_true rfl⟩) ⟨Nat.zero_le _, Nat.zero_le _⟩ (Nat.le_of_ble_eq_true rfl) (z_kPi (fun r11 h => ?_))
            exact z_iret hC dX11_scope_111 ⟨_, rfl, rfl, rfl, rfl, rfl, rfl, h⟩
          · have h := h.2 hc3
            by_cases hc4 : a2 = 4
            · have h := h.1 hc4
              refine z_tableIn hC (off := 95) (tgt := 112) 4 hc4 dX11_scope_17 (by decide) (by decide) ?_
              refine z_aload_n hC (q := 0) dX11_scope_112 rfl rfl ?_
              refine gf_RX11_19 hC dX11_scope_113 hk1 hb2 ?_
              refine z_iload_n hC (q := 1) dX11_scope_116 rfl rfl ?_
              refine cl_RX11_171 hC (c_X9_varsOf _ G b2 a1 K N I L R _ h) hk3 dX11_scope_117 (by rw [hRm]; exact ⟨Nat.le_of_ble_eq_true rfl, Nat.le_of_ble_eq_true rfl⟩) ⟨Nat.zero_le _, Nat.zero_le _⟩ (Nat.le_of_ble_eq_true rfl) (z_kPi (fun r12 h => ?_))
              exact z_iret hC dX11_scope_120 ⟨_, rfl, rfl, rfl, rfl, rfl, rfl, h⟩
            · have h := h.2 hc4
              have hout : a2.toInt < 0 ∨ 4 < a2.toInt := by
                have hc0 := z_nei hc0 (by decide : (0 : Int32).toInt = 0)
                have hc1 := z_nei hc1 (by decide : (1 : Int32).toInt = 1)
                have hc2 := z_nei hc2 (by decide : (2 : Int32).toInt = 2)
                have hc3 := z_nei hc3 (by decide : (3 : Int32).toInt = 3)
                have hc4 := z_nei hc4 (by decide : (4 : Int32).toInt = 4)
                omega
              refine z_tableOut hC (tgt := 121) dX11_scope_17 hout (by decide) ?_
              refine z_iconst hC (v := (-1)) k_iconst_m1 dX11_scope_121 ?_
              exact z_iret hC dX11_scope_122 ⟨_, rfl, rfl, rfl, rfl, rfl, rfl, h⟩
  · have h := h.2 hc
    refine z_iconst hC (v := (-1)) k_iconst_m1 dX11_scope_14 ?_
    exact z_iret hC dX11_scope_15 ⟨_, rfl, rfl, rfl, rfl, rfl, rfl, h⟩
def w_X11_var  (a0 : Nat) (a1 : Int32) (a2 : Int32) (K : MK) (N : MK) (I : MI) (L : ML) (R : MR) (Q : Int32 → Prop) : Prop := K a0 = 12 ∧ ∃ b2 : Nat, R a0 1 = some b2 ∧ K b2 = 10 ∧ ∃ b4 : Nat, R b2 4 = some b4 ∧ K b4 = 8 ∧ w_X7_has b4 a1 K N I L R (fun r6 => (r6 = true → w_X7_at b4 a1 1 K N I L R (fun r7 => (a2 = 0 → w_X7_at b4 a1 0 K N I L R (fun r8 => Q r8)) ∧ (¬ a2 = 0 → (a2 = 1 → Q r7) ∧ (¬ a2 = 1 → (a2 = 2 → w_X9_placesOf b2 a1 K N I L R (fun r9 => Q r9)) ∧ (¬ a2 = 2 → (a2 = 3 → ∃ b10 : Nat, R b2 3 = some b10 ∧ K b10 = 8 ∧ w_X7_at b10 r7 0 K N I L R (fun r12 => Q r12)) ∧ (¬ a2 = 3 → (a2 = 4 → ∃ b13 : Nat, R b2 3 = some b13 ∧ K b13 = 8 ∧ w_X7_at b13 r7 1 K N I L R (fun r15 => Q r15)) ∧ (¬ a2 = 4 → (a2 = 5 → ∃ b16 : Nat, R b2 3 = some b16 ∧ K b16 = 8 ∧ w_X7_at b16 r7 2 K N I L R (fun r18 => Q r18)) ∧ (¬ a2 = 5 → Q (-1))))))))) ∧ (r6 = false → Q (-1)))
set_option maxHeartbeats 4000000 in
set_option maxRecDepth 100000 in
theorem c_X11_var  (l : Launch) (G : ZG) (a0 : Nat) (a1 : Int32) (a2 : Int32) (K : MK) (N : MK) (I : MI) (L : ML) (R : MR) (Q : Int32 → Prop) (h : w_X11_var a0 a1 a2 K N I L R Q) : Met l yX11_var (.code yX11_var cX11_var 4 (some .int) :: z_tbl) rm_X11_var (z_Pc G [.ref a0, .int a1, .int a2] K N I L R) (z_Qc G (qPi K N I L R Q)) 0 0 (z_A G) := by
  refine z_met (by decide) (Nat.le_of_ble_eq_true rfl) (fun X hX hRm hC0 hnm => ?_)
  subst hX
  have hC : ZOk X G RX11 cX11_var 4 (some .int) := hC0
  show Z X G 4 0 0 _ K N I L R 0 [(0, .ref a0), (1, .int a1), (2, .int a2)] []
  delta w_X11_var at h
  refine z_aload_n hC (q := 0) dX11_var_0 rfl rfl ?_
  obtain ⟨hk1, h⟩ := h
  obtain ⟨b2, hb2, h⟩ := h
  refine gf_RX11_19 hC dX11_var_1 hk1 hb2 ?_
  obtain ⟨hk3, h⟩ := h
  obtain ⟨b4, hb4, h⟩ := h
  refine gf_RX11_174 hC dX11_var_4 hk3 hb4 ?_
  refine z_iload_n hC (q := 1) dX11_var_7 rfl rfl ?_
  obtain ⟨hk5, h⟩ := h
  refine cl_RX11_153 hC (c_X7_has _ G b4 a1 K N I L R _ h) hk5 dX11_var_8 (by rw [hRm]; exact ⟨Nat.le_of_ble_eq_true rfl, Nat.le_of_ble_eq_true rfl⟩) ⟨Nat.zero_le _, Nat.zero_le _⟩ (Nat.le_of_ble_eq_true rfl) (z_kPz (fun r6 h => ?_))
  refine z_ifz_ne hC (tgt := 16) dX11_var_11 (by decide) (fun hc => ?_) (fun hc => ?_)
  · have h := h.1 hc
    refine z_aload_n hC (q := 0) dX11_var_16 rfl rfl ?_
    refine gf_RX11_19 hC dX11_var_17 hk1 hb2 ?_
    refine gf_RX11_174 hC dX11_var_20 hk3 hb4 ?_
    refine z_iload_n hC (q := 1) dX11_var_23 rfl rfl ?_
    refine z_iconst hC (v := 1) k_iconst_1 dX11_var_24 ?_
    refine cl_RX11_157 hC (c_X7_at _ G b4 a1 1 K N I L R _ h) hk5 dX11_var_25 (by rw [hRm]; exact ⟨Nat.le_of_ble_eq_true rfl, Nat.le_of_ble_eq_true rfl⟩) ⟨Nat.zero_le _, Nat.zero_le _⟩ (Nat.le_of_ble_eq_true rfl) (z_kPi (fun r7 h => ?_))
    refine z_istore_n hC (lv1 := [(3, .int r7), (0, .ref a0), (1, .int a1), (2, .int a2)]) dX11_var_28 rfl (by decide) rfl ?_
    refine z_iload_n hC (q := 3) dX11_var_29 rfl rfl ?_
    by_cases hc0 : a2 = 0
    · have h := h.1 hc0
      refine z_tableIn hC (off := 38) (tgt := 68) 0 hc0 dX11_var_30 (by decide) (by decide) ?_
      refine z_aload_n hC (q := 1) dX11_var_68 rfl rfl ?_
      refine gf_RX11_19 hC dX11_var_69 hk1 hb2 ?_
      refine gf_RX11_174 hC dX11_var_72 hk3 hb4 ?_
      refine z_iload_n hC (q := 2) dX11_var_75 rfl rfl ?_
      refine z_iconst hC (v := 0) k_iconst_0 dX11_var_76 ?_
      refine cl_RX11_157 hC (c_X7_at _ G b4 a1 0 K N I L R _ h) hk5 dX11_var_77 (by rw [hRm]; exact ⟨Nat.le_of_ble_eq_true rfl, Nat.le_of_ble_eq_true rfl⟩) ⟨Nat.zero_le _, Nat.zero_le _⟩ (Nat.le_of_ble_eq_true rfl) (z_kPi (fun r8 h => ?_))
      exact z_iret hC dX11_var_80 ⟨_, rfl, rfl, rfl, rfl, rfl, rfl, h⟩
    · have h := h.2 hc0
      by_cases hc1 : a2 = 1
      · have h := h.1 hc1
        refine z_tableIn hC (off := 51) (tgt := 81) 1 hc1 dX11_var_30 (by decide) (by decide) ?_
        refine z_iload_n hC (q := 0) dX11_var_81 rfl rfl ?_
        exact z_iret hC dX11_var_82 ⟨_, rfl, rfl, rfl, rfl, rfl, rfl, h⟩
      · have h := h.2 hc1
        by_cases hc2 : a2 = 2
        · have h := h.1 hc2
          refine z_tableIn hC (off := 53) (tgt := 83) 2 hc2 dX11_var_30 (by decide) (by decide) ?_
          refine z_aload_n hC (q := 1) dX11_var_83 rfl rfl ?_
          refine gf_RX11_19 hC dX11_var_84 hk1 hb2 ?_
          refine z_iload_n hC (q := 2) dX11_var_87 rfl rfl ?_
          refine cl_RX11_177 hC (c_X9_placesOf _ G b2 a1 K N I L R _ h) hk3 dX11_var_88 (by rw [hRm]; exact ⟨Nat.le_of_ble_eq_true rfl, Nat.le_of_ble_eq_true rfl⟩) ⟨Nat.zero_le _, Nat.zero_le _⟩ (Nat.le_of_ble_eq_true rfl) (z_kPi (fun r9 h => ?_))
          exact z_iret hC dX11_var_91 ⟨_, rfl, rfl, rfl, rfl, rfl, rfl, h⟩
        · have h := h.2 hc2
          by_cases hc3 : a2 = 3
          · have h := h.1 hc3
            refine z_tableIn hC (off := 62) (tgt := 92) 3 hc3 dX11_var_30 (by decide) (by decide) ?_
            refine z_aload_n hC (q := 1) dX11_var_92 rfl rfl ?_
            refine gf_RX11_19 hC dX11_var_93 hk1 hb2 ?_
            obtain ⟨b10, hb10, h⟩ := h
            refine gf_RX11_180 hC dX11_var_96 hk3 hb10 ?_
            refine z_iload_n hC (q := 0) dX11_var_99 rfl rfl ?_
            refine z_iconst hC (v := 0) k_iconst_0 dX11_var_100 ?_
            obtain ⟨hk11, h⟩ := h
            refine cl_RX11_157 hC (c_X7_at _ G b10 r7 0 K N I L R _ h) hk11 dX11_var_101 (by rw [hRm]; exact ⟨Nat.le_of_ble_eq_true rfl, Nat.le_of_ble_eq_true rfl⟩) ⟨Nat.zero_le _, Nat.zero_le _⟩ (Nat.le_of_ble_eq_true rfl) (z_kPi (fun r12 h => ?_))
            exact z_iret hC dX11_var_104 ⟨_, rfl, rfl, rfl, rfl, rfl, rfl, h⟩
          · have h := h.2 hc3
            by_cases hc4 : a2 = 4
            · have h := h.1 hc4
              refine z_tableIn hC (off := 75) (tgt := 105) 4 hc4 dX11_var_30 (by decide) (by decide) ?_
              refine z_aload_n hC (q := 1) dX11_var_105 rfl rfl ?_
              refine gf_RX11_19 hC dX11_var_106 hk1 hb2 ?_
              obtain ⟨b13, hb13, h⟩ := h
              refine gf_RX11_180 hC dX11_var_109 hk3 hb13 ?_
              refine z_iload_n hC (q := 0) dX11_var_112 rfl rfl ?_
              refine z_iconst hC (v := 1) k_iconst_1 dX11_var_113 ?_
              obtain ⟨hk14, h⟩ := h
              refine cl_RX11_157 hC (c_X7_at _ G b13 r7 1 K N I L R _ h) hk14 dX11_var_114 (by rw [hRm]; exact ⟨Nat.le_of_ble_eq_true rfl, Nat.le_of_ble_eq_true rfl⟩) ⟨Nat.zero_le _, Nat.zero_le _⟩ (Nat.le_of_ble_eq_true rfl) (z_kPi (fun r15 h => ?_))
              exact z_iret hC dX11_var_117 ⟨_, rfl, rfl, rfl, rfl, rfl, rfl, h⟩
            · have h := h.2 hc4
              by_cases hc5 : a2 = 5
              · have h := h.1 hc5
                refine z_tableIn hC (off := 88) (tgt := 118) 5 hc5 dX11_var_30 (by decide) (by decide) ?_
                refine z_aload_n hC (q := 1) dX11_var_118 rfl rfl ?_
                refine gf_RX11_19 hC dX11_var_119 hk1 hb2 ?_
                obtain ⟨b16, hb16, h⟩ := h
                refine gf_RX11_180 hC dX11_var_122 hk3 hb16 ?_
                refine z_iload_n hC (q := 0) dX11_var_125 rfl rfl ?_
                refine z_iconst hC (v := 2) k_iconst_2 dX11_var_126 ?_
                obtain ⟨hk17, h⟩ := h
                refine cl_RX11_157 hC (c_X7_at _ G b16 r7 2 K N I L R _ h) hk17 dX11_var_127 (by rw [hRm]; exact ⟨Nat.le_of_ble_eq_true rfl, Nat.le_of_ble_eq_true rfl⟩) ⟨Nat.zero_le _, Nat.zero_le _⟩ (Nat.le_of_ble_eq_true rfl) (z_kPi (fun r18 h => ?_))
                exact z_iret hC dX11_var_130 ⟨_, rfl, rfl, rfl, rfl, rfl, rfl, h⟩
              · have h := h.2 hc5
                have hout : a2.toInt < 0 ∨ 5 < a2.toInt := by
                  have hc0 := z_nei hc0 (by decide : (0 : Int32).toInt = 0)
                  have hc1 := z_nei hc1 (by decide : (1 : Int32).toInt = 1)
                  have hc2 := z_nei hc2 (by decide : (2 : Int32).toInt = 2)
                  have hc3 := z_nei hc3 (by decide : (3 : Int32).toInt = 3)
                  have hc4 := z_nei hc4 (by decide : (4 : Int32).toInt = 4)
                  have hc5 := z_nei hc5 (by decide : (5 : Int32).toInt = 5)
                  omega
                refine z_tableOut hC (tgt := 131) dX11_var_30 hout (by decide) ?_
                refine z_iconst hC (v := (-1)) k_iconst_m1 dX11_var_131 ?_
                exact z_iret hC dX11_var_132 ⟨_, rfl, rfl, rfl, rfl, rfl, rfl, h⟩
  · have h := h.2 hc
    refine z_iconst hC (v := (-1)) k_iconst_m1 dX11_var_14 ?_
    exact z_iret hC dX11_var_15 ⟨_, rfl, rfl, rfl, rfl, rfl, rfl, h⟩
def w_X11_placeOf  (a0 : Nat) (a1 : Int32) (a2 : Int32) (K : MK) (N : MK) (I : MI) (L : ML) (R : MR) (Q : Int32 → Prop) : Prop := K a0 = 12 ∧ ∃ b2 : Nat, R a0 1 = some b2 ∧ K b2 = 10 ∧ w_X9_placeAt b2 a1 a2 K N I L R (fun r4 => Q r4)
set_option maxHeartbeats 4000000 in
set_option maxRecDepth 100000 in
theorem c_X11_placeOf  (l : Launch) (G : ZG) (a0 : Nat) (a1 : Int32) (a2 : Int32) (K : MK) (N : MK) (I : MI) (L : ML) (R : MR) (Q : Int32 → Prop) (h : w_X11_placeOf a0 a1 a2 K N I L R Q) : Met l yX11_placeOf (.code yX11_placeOf cX11_placeOf 3 (some .int) :: z_tbl) rm_X11_placeOf (z_Pc G [.ref a0, .int a1, .int a2] K N I L R) (z_Qc G (qPi K N I L R Q)) 0 0 (z_A G) := by
  refine z_met (by decide) (Nat.le_of_ble_eq_true rfl) (fun X hX hRm hC0 hnm => ?_)
  subst hX
  have hC : ZOk X G RX11 cX11_placeOf 3 (some .int) := hC0
  show Z X G 3 0 0 _ K N I L R 0 [(0, .ref a0), (1, .int a1), (2, .int a2)] []
  delta w_X11_placeOf at h
  refine z_aload_n hC (q := 0) dX11_placeOf_0 rfl rfl ?_
  obtain ⟨hk1, h⟩ := h
  obtain ⟨b2, hb2, h⟩ := h
  refine gf_RX11_19 hC dX11_placeOf_1 hk1 hb2 ?_
  refine z_iload_n hC (q := 1) dX11_placeOf_4 rfl rfl ?_
  refine z_iload_n hC (q := 2) dX11_placeOf_5 rfl rfl ?_
  obtain ⟨hk3, h⟩ := h
  refine cl_RX11_183 hC (c_X9_placeAt _ G b2 a1 a2 K N I L R _ h) hk3 dX11_placeOf_6 (by rw [hRm]; exact ⟨Nat.le_of_ble_eq_true rfl, Nat.le_of_ble_eq_true rfl⟩) ⟨Nat.zero_le _, Nat.zero_le _⟩ (Nat.le_of_ble_eq_true rfl) (z_kPi (fun r4 h => ?_))
  exact z_iret hC dX11_placeOf_9 ⟨_, rfl, rfl, rfl, rfl, rfl, rfl, h⟩
def w_X11_lineAt  (a0 : Nat) (a1 : Int32) (K : MK) (N : MK) (I : MI) (L : ML) (R : MR) (Q : Int32 → Prop) : Prop := K a0 = 12 ∧ ∃ b2 : Nat, R a0 1 = some b2 ∧ K b2 = 10 ∧ w_X9_lineOf b2 a1 K N I L R (fun r4 => Q r4)
set_option maxHeartbeats 4000000 in
set_option maxRecDepth 100000 in
theorem c_X11_lineAt  (l : Launch) (G : ZG) (a0 : Nat) (a1 : Int32) (K : MK) (N : MK) (I : MI) (L : ML) (R : MR) (Q : Int32 → Prop) (h : w_X11_lineAt a0 a1 K N I L R Q) : Met l yX11_lineAt (.code yX11_lineAt cX11_lineAt 2 (some .int) :: z_tbl) rm_X11_lineAt (z_Pc G [.ref a0, .int a1] K N I L R) (z_Qc G (qPi K N I L R Q)) 0 0 (z_A G) := by
  refine z_met (by decide) (Nat.le_of_ble_eq_true rfl) (fun X hX hRm hC0 hnm => ?_)
  subst hX
  have hC : ZOk X G RX11 cX11_lineAt 2 (some .int) := hC0
  show Z X G 2 0 0 _ K N I L R 0 [(0, .ref a0), (1, .int a1)] []
  delta w_X11_lineAt at h
  refine z_aload_n hC (q := 0) dX11_lineAt_0 rfl rfl ?_
  obtain ⟨hk1, h⟩ := h
  obtain ⟨b2, hb2, h⟩ := h
  refine gf_RX11_19 hC dX11_lineAt_1 hk1 hb2 ?_
  refine z_iload_n hC (q := 1) dX11_lineAt_4 rfl rfl ?_
  obtain ⟨hk3, h⟩ := h
  refine cl_RX11_186 hC (c_X9_lineOf _ G b2 a1 K N I L R _ h) hk3 dX11_lineAt_5 (by rw [hRm]; exact ⟨Nat.le_of_ble_eq_true rfl, Nat.le_of_ble_eq_true rfl⟩) ⟨Nat.zero_le _, Nat.zero_le _⟩ (Nat.le_of_ble_eq_true rfl) (z_kPi (fun r4 h => ?_))
  exact z_iret hC dX11_lineAt_8 ⟨_, rfl, rfl, rfl, rfl, rfl, rfl, h⟩
def w_X11_addressOf_5  (x0 : Nat) (x1 : Int32) (x3 : Int32) (x4 : Int32)  (K : MK) (N : MK) (I : MI) (L : ML) (R : MR)  (Q : Int32 → Prop) : Prop := ∃ J : Nat → Nat → Int32 → Int32 → Int32 → Prop, (∃ n, J n x0 x1 x3 x4) ∧ ∀ (n : Nat) (x0 : Nat) (x1 : Int32) (x3 : Int32) (x4 : Int32), J n x0 x1 x3 x4 → K x0 = 12 ∧ ∃ b2 : Nat, R x0 1 = some b2 ∧ K b2 = 10 ∧ ∃ b4 : Nat, R b2 1 = some b4 ∧ K b4 = 8 ∧ ((I b4 3) ≤ x4 → Q (-1)) ∧ (¬ (I b4 3) ≤ x4 → (x3 < 0 → Q (-1)) ∧ (¬ x3 < 0 → w_X7_at b4 x4 1 K N I L R (fun r6 => (¬ r6 = x1 → ∀ v7 : Int32, v7 = x4 + 1 → ∃ n1, n1 < n ∧ J n1 x0 x1 x3 v7) ∧ (r6 = x1 → (¬ x3 = 0 → ∀ v8 : Int32, v8 = x3 + (-1) → ∀ v9 : Int32, v9 = x4 + 1 → ∃ n1, n1 < n ∧ J n1 x0 x1 v8 v9) ∧ (x3 = 0 → w_X7_at b4 x4 0 K N I L R (fun r10 => Q r10))))))
def w_X11_addressOf  (a0 : Nat) (a1 : Int32) (a2 : Int32) (K : MK) (N : MK) (I : MI) (L : ML) (R : MR) (Q : Int32 → Prop) : Prop := w_X11_addressOf_5 a0 a1 a2 0 K N I L R Q
set_option maxHeartbeats 4000000 in
set_option maxRecDepth 100000 in
theorem z_X11_addressOf_5 {X : ZX} {G : ZG}  {x0 : Nat} {x1 : Int32} {x3 : Int32} {x4 : Int32}  {K : MK} {N : MK} {I : MI} {L : ML} {R : MR}  {Q : Int32 → Prop} (hC : ZOk X G RX11 cX11_addressOf 5 (some .int)) (hRm : X.2.2.2.1 = rm_X11_addressOf) (h : w_X11_addressOf_5 x0 x1 x3 x4 K N I L R  Q) : Z X G 5 0 0 (z_T X G (qPi K N I L R Q) 0 0) K N I L R 5 [(0, .ref x0), (1, .int x1), (3, .int x3), (4, .int x4)] [] := by
  delta w_X11_addressOf_5 at h
  obtain ⟨J, ⟨n, h0⟩, hs⟩ := h
  have key : ∀ (n : Nat) (x0 : Nat) (x1 : Int32) (x3 : Int32) (x4 : Int32), J n x0 x1 x3 x4 → Z X G 5 0 0 (z_T X G (qPi K N I L R Q) 0 0) K N I L R 5 [(0, .ref x0), (1, .int x1), (3, .int x3), (4, .int x4)] [] := by
    intro n
    induction n using Nat.strongRecOn with
    | _ n ih =>
      intro x0 x1 x3 x4 hJ
      have hC5 : ∀ (y0 : Nat) (y1 : Int32) (y2 : Int32) (y3 : Int32) , (∃ n1, n1 < n ∧ J n1 y0 y1 y2 y3) → Z X G 5 0 0 (z_T X G (qPi K N I L R Q) 0 0) K N I L R 5 [(0, .ref y0), (1, .int y1), (3, .int y2), (4, .int y3)] [] := fun y0 y1 y2 y3 ⟨n1, hn1, hj⟩ => ih n1 hn1 y0 y1 y2 y3 hj
      have h := hs n x0 x1 x3 x4 hJ
      refine z_iload hC (q := 3) dX11_addressOf_5 rfl ?_
      refine z_aload_n hC (q := 0) dX11_addressOf_7 rfl rfl ?_
      obtain ⟨hk1, h⟩ := h
      obtain ⟨b2, hb2, h⟩ := h
      refine gf_RX11_19 hC dX11_addressOf_8 hk1 hb2 ?_
      obtain ⟨hk3, h⟩ := h
      obtain ⟨b4, hb4, h⟩ := h
      refine gf_RX11_150 hC dX11_addressOf_11 hk3 hb4 ?_
      obtain ⟨hk5, h⟩ := h
      refine gf_RX11_189 hC dX11_addressOf_14 hk5 ?_
      refine z_icmp_ge hC (tgt := 68) dX11_addressOf_17 (by decide) (fun hc => ?_) (fun hc => ?_)
      · have h := h.1 hc
        refine z_iconst hC (v := (-1)) k_iconst_m1 dX11_addressOf_68 ?_
        exact z_iret hC dX11_addressOf_69 ⟨_, rfl, rfl, rfl, rfl, rfl, rfl, h⟩
      · have h := h.2 hc
        refine z_iload_n hC (q := 2) dX11_addressOf_20 rfl rfl ?_
        refine z_if_lt hC (tgt := 68) dX11_addressOf_21 (by decide) (fun hc => ?_) (fun hc => ?_)
        · have h := h.1 hc
          refine z_iconst hC (v := (-1)) k_iconst_m1 dX11_addressOf_68 ?_
          exact z_iret hC dX11_addressOf_69 ⟨_, rfl, rfl, rfl, rfl, rfl, rfl, h⟩
        · have h := h.2 hc
          refine z_aload_n hC (q := 0) dX11_addressOf_24 rfl rfl ?_
          refine gf_RX11_19 hC dX11_addressOf_25 hk1 hb2 ?_
          refine gf_RX11_150 hC dX11_addressOf_28 hk3 hb4 ?_
          refine z_iload hC (q := 3) dX11_addressOf_31 rfl ?_
          refine z_iconst hC (v := 1) k_iconst_1 dX11_addressOf_33 ?_
          refine cl_RX11_157 hC (c_X7_at _ G b4 x4 1 K N I L R _ h) hk5 dX11_addressOf_34 (by rw [hRm]; exact ⟨Nat.le_of_ble_eq_true rfl, Nat.le_of_ble_eq_true rfl⟩) ⟨Nat.zero_le _, Nat.zero_le _⟩ (Nat.le_of_ble_eq_true rfl) (z_kPi (fun r6 h => ?_))
          refine z_iload_n hC (q := 1) dX11_addressOf_37 rfl rfl ?_
          refine z_icmp_ne hC (tgt := 62) dX11_addressOf_38 (by decide) (fun hc => ?_) (fun hc => ?_)
          · have h := h.1 hc
            obtain ⟨v7, ev7⟩ : ∃ y : Int32, y = x4 + 1 := ⟨_, rfl⟩
            have h := h v7 ev7
            refine z_iinc hC (q := 3) (v := v7) (lv1 := [(4, .int v7), (0, .ref x0), (1, .int x1), (3, .int x3)]) dX11_addressOf_62 rfl (by rw [ev7, k_iinc_1]) (by decide) rfl ?_
            refine z_goto hC (tgt := 5) dX11_addressOf_65 (by decide) ?_
            exact z_sub [(0, .ref x0), (1, .int x1), (3, .int x3), (4, .int v7)] [1, 2, 3, 0] rfl (hC5 _ _ _ _ h)
          · have h := h.2 hc
            refine z_iload_n hC (q := 2) dX11_addressOf_41 rfl rfl ?_
            refine z_if_ne hC (tgt := 59) dX11_addressOf_42 (by decide) (fun hc => ?_) (fun hc => ?_)
            · have h := h.1 hc
              obtain ⟨v8, ev8⟩ : ∃ y : Int32, y = x3 + (-1) := ⟨_, rfl⟩
              have h := h v8 ev8
              refine z_iinc hC (q := 2) (v := v8) (lv1 := [(3, .int v8), (0, .ref x0), (1, .int x1), (4, .int x4)]) dX11_addressOf_59 rfl (by rw [ev8, k_iinc_m1]) (by decide) rfl ?_
              obtain ⟨v9, ev9⟩ : ∃ y : Int32, y = x4 + 1 := ⟨_, rfl⟩
              have h := h v9 ev9
              refine z_iinc hC (q := 3) (v := v9) (lv1 := [(4, .int v9), (3, .int v8), (0, .ref x0), (1, .int x1)]) dX11_addressOf_62 rfl (by rw [ev9, k_iinc_1]) (by decide) rfl ?_
              refine z_goto hC (tgt := 5) dX11_addressOf_65 (by decide) ?_
              exact z_sub [(0, .ref x0), (1, .int x1), (3, .int v8), (4, .int v9)] [2, 3, 1, 0] rfl (hC5 _ _ _ _ h)
            · have h := h.2 hc
              refine z_aload_n hC (q := 0) dX11_addressOf_45 rfl rfl ?_
              refine gf_RX11_19 hC dX11_addressOf_46 hk1 hb2 ?_
              refine gf_RX11_150 hC dX11_addressOf_49 hk3 hb4 ?_
              refine z_iload hC (q := 3) dX11_addressOf_52 rfl ?_
              refine z_iconst hC (v := 0) k_iconst_0 dX11_addressOf_54 ?_
              refine cl_RX11_157 hC (c_X7_at _ G b4 x4 0 K N I L R _ h) hk5 dX11_addressOf_55 (by rw [hRm]; exact ⟨Nat.le_of_ble_eq_true rfl, Nat.le_of_ble_eq_true rfl⟩) ⟨Nat.zero_le _, Nat.zero_le _⟩ (Nat.le_of_ble_eq_true rfl) (z_kPi (fun r10 h => ?_))
              exact z_iret hC dX11_addressOf_58 ⟨_, rfl, rfl, rfl, rfl, rfl, rfl, h⟩
  exact key n x0 x1 x3 x4 h0
set_option maxHeartbeats 4000000 in
set_option maxRecDepth 100000 in
theorem c_X11_addressOf  (l : Launch) (G : ZG) (a0 : Nat) (a1 : Int32) (a2 : Int32) (K : MK) (N : MK) (I : MI) (L : ML) (R : MR) (Q : Int32 → Prop) (h : w_X11_addressOf a0 a1 a2 K N I L R Q) : Met l yX11_addressOf (.code yX11_addressOf cX11_addressOf 5 (some .int) :: z_tbl) rm_X11_addressOf (z_Pc G [.ref a0, .int a1, .int a2] K N I L R) (z_Qc G (qPi K N I L R Q)) 0 0 (z_A G) := by
  refine z_met (by decide) (Nat.le_of_ble_eq_true rfl) (fun X hX hRm hC0 hnm => ?_)
  subst hX
  have hC : ZOk X G RX11 cX11_addressOf 5 (some .int) := hC0
  show Z X G 5 0 0 _ K N I L R 0 [(0, .ref a0), (1, .int a1), (2, .int a2)] []
  delta w_X11_addressOf at h
  refine z_iload_n hC (q := 2) dX11_addressOf_0 rfl rfl ?_
  refine z_istore_n hC (lv1 := [(3, .int a2), (0, .ref a0), (1, .int a1), (2, .int a2)]) dX11_addressOf_1 rfl (by decide) rfl ?_
  refine z_iconst hC (v := 0) k_iconst_0 dX11_addressOf_2 ?_
  refine z_istore hC (lv1 := [(4, .int 0), (3, .int a2), (0, .ref a0), (1, .int a1), (2, .int a2)]) dX11_addressOf_3 (by decide) rfl ?_
  exact z_sub [(0, .ref a0), (1, .int a1), (3, .int a2), (4, .int 0)] [2, 3, 1, 0] rfl (z_X11_addressOf_5 hC hRm h)
def w_X11_chain_42  (x0 : Nat) (x1 : Int32) (x2 : Int32) (x3 : Int32) (x4 : Int32)  (K : MK) (N : MK) (I : MI) (L : ML) (R : MR)  (Q : Int32 → MI → ML → Prop) : Prop := ∃ J : Nat → Nat → Int32 → Int32 → Int32 → Int32 → MI → ML → Prop, (∃ n, J n x0 x1 x2 x3 x4 I L) ∧ ∀ (n : Nat) (x0 : Nat) (x1 : Int32) (x2 : Int32) (x3 : Int32) (x4 : Int32) (I : MI) (L : ML), J n x0 x1 x2 x3 x4 I L → ((10 : Int32) ≤ x4 → K x0 = 12 ∧ ∃ b11 : Nat, R x0 17 = some b11 ∧ K b11 = 8 ∧ Q (I b11 3) I L) ∧ (¬ (10 : Int32) ≤ x4 → (x3 = (-1) → K x0 = 12 ∧ ∃ b14 : Nat, R x0 17 = some b14 ∧ K b14 = 8 ∧ Q (I b14 3) I L) ∧ (¬ x3 = (-1) → K x0 = 12 ∧ ∃ b17 : Nat, R x0 17 = some b17 ∧ K b17 = 8 ∧ w_X7_add b17 0 K N I L R (fun r19 I20 L21 => w_X7_put b17 r19 0 x3 K N I20 L21 R (fun I22 => w_X7_put b17 r19 1 x2 K N I22 L21 R (fun I23 => ∃ b24 : Nat, R x0 1 = some b24 ∧ K b24 = 10 ∧ ∃ b26 : Nat, R b24 2 = some b26 ∧ K b26 = 8 ∧ w_X7_at b26 x3 2 K N I23 L21 R (fun r28 => w_X9_scopeBehind b24 x1 x3 K N I23 L21 R (fun r29 => ∀ v30 : Int32, v30 = x4 + 1 → ∃ n1, n1 < n ∧ J n1 x0 x1 r28 r29 v30 I23 L21)))))))
def w_X11_chain  (a0 : Nat) (a1 : Int32) (K : MK) (N : MK) (I : MI) (L : ML) (R : MR) (Q : Int32 → MI → ML → Prop) : Prop := K a0 = 12 ∧ ∃ b2 : Nat, R a0 1 = some b2 ∧ K b2 = 10 ∧ w_X9_hasAddress b2 a1 K N I L R (fun r4 => (r4 = true → ∃ b5 : Nat, R a0 17 = some b5 ∧ K b5 = 8 ∧ w_X7_forget b5 K N I L R (fun I7 => w_X9_lineOf b2 a1 K N I7 L R (fun r8 => w_X9_scopeBehind b2 a1 (-1) K N I7 L R (fun r9 => w_X11_chain_42 a0 a1 r8 r9 0 K N I7 L R Q)))) ∧ (r4 = false → Q (-1) I L))
set_option maxHeartbeats 4000000 in
set_option maxRecDepth 100000 in
theorem z_X11_chain_42 {X : ZX} {G : ZG}  {x0 : Nat} {x1 : Int32} {x2 : Int32} {x3 : Int32} {x4 : Int32}  {K : MK} {N : MK} {I : MI} {L : ML} {R : MR}  {Q : Int32 → MI → ML → Prop} (hC : ZOk X G RX11 cX11_chain 6 (some .int)) (hRm : X.2.2.2.1 = rm_X11_chain) (h : w_X11_chain_42 x0 x1 x2 x3 x4 K N I L R  Q) : Z X G 6 0 0 (z_T X G (qLi K N R Q) 0 0) K N I L R 42 [(0, .ref x0), (1, .int x1), (2, .int x2), (3, .int x3), (4, .int x4)] [] := by
  delta w_X11_chain_42 at h
  obtain ⟨J, ⟨n, h0⟩, hs⟩ := h
  have key : ∀ (n : Nat) (x0 : Nat) (x1 : Int32) (x2 : Int32) (x3 : Int32) (x4 : Int32) (I : MI) (L : ML), J n x0 x1 x2 x3 x4 I L → Z X G 6 0 0 (z_T X G (qLi K N R Q) 0 0) K N I L R 42 [(0, .ref x0), (1, .int x1), (2, .int x2), (3, .int x3), (4, .int x4)] [] := by
    intro n
    induction n using Nat.strongRecOn with
    | _ n ih =>
      intro x0 x1 x2 x3 x4 I L hJ
      have hC42 : ∀ (y0 : Nat) (y1 : Int32) (y2 : Int32) (y3 : Int32) (y4 : Int32) (zI : MI) (zL : ML), (∃ n1, n1 < n ∧ J n1 y0 y1 y2 y3 y4 zI zL) → Z X G 6 0 0 (z_T X G (qLi K N R Q) 0 0) K N zI zL R 42 [(0, .ref y0), (1, .int y1), (2, .int y2), (3, .int y3), (4, .int y4)] [] := fun y0 y1 y2 y3 y4 zI zL ⟨n1, hn1, hj⟩ => ih n1 hn1 y0 y1 y2 y3 y4 zI zL hj
      have h := hs n x0 x1 x2 x3 x4 I L hJ
      refine z_iload hC (q := 4) dX11_chain_42 rfl ?_
      refine z_bipush hC (v := 10) k_bipush_10 dX11_chain_44 ?_
      refine z_icmp_ge hC (tgt := 115) dX11_chain_46 (by decide) (fun hc => ?_) (fun hc => ?_)
      · have h := h.1 hc
        refine z_aload_n hC (q := 0) dX11_chain_115 rfl rfl ?_
        obtain ⟨hk10, h⟩ := h
        obtain ⟨b11, hb11, h⟩ := h
        refine gf_RX11_110 hC dX11_chain_116 hk10 hb11 ?_
        obtain ⟨hk12, h⟩ := h
        refine gf_RX11_189 hC dX11_chain_119 hk12 ?_
        exact z_iret hC dX11_chain_122 ⟨_, rfl, rfl, rfl, rfl, h⟩
      · have h := h.2 hc
        refine z_iload_n hC (q := 3) dX11_chain_49 rfl rfl ?_
        refine z_iconst hC (v := (-1)) k_iconst_m1 dX11_chain_50 ?_
        refine z_icmp_eq hC (tgt := 115) dX11_chain_51 (by decide) (fun hc => ?_) (fun hc => ?_)
        · have h := h.1 hc
          refine z_aload_n hC (q := 0) dX11_chain_115 rfl rfl ?_
          obtain ⟨hk13, h⟩ := h
          obtain ⟨b14, hb14, h⟩ := h
          refine gf_RX11_110 hC dX11_chain_116 hk13 hb14 ?_
          obtain ⟨hk15, h⟩ := h
          refine gf_RX11_189 hC dX11_chain_119 hk15 ?_
          exact z_iret hC dX11_chain_122 ⟨_, rfl, rfl, rfl, rfl, h⟩
        · have h := h.2 hc
          refine z_aload_n hC (q := 0) dX11_chain_54 rfl rfl ?_
          obtain ⟨hk16, h⟩ := h
          obtain ⟨b17, hb17, h⟩ := h
          refine gf_RX11_110 hC dX11_chain_55 hk16 hb17 ?_
          refine z_lconst hC (v := 0) k_lconst_0 dX11_chain_58 ?_
          obtain ⟨hk18, h⟩ := h
          refine cl_RX11_196 hC (c_X7_add _ G b17 0 K N I L R _ h) hk18 dX11_chain_59 (by rw [hRm]; exact ⟨Nat.le_of_ble_eq_true rfl, Nat.le_of_ble_eq_true rfl⟩) ⟨Nat.zero_le _, Nat.zero_le _⟩ (Nat.le_of_ble_eq_true rfl) (z_kLi (I := I) (L := L) (fun r19 I20 L21 h => ?_))
          refine z_istore hC (lv1 := [(5, .int r19), (0, .ref x0), (1, .int x1), (2, .int x2), (3, .int x3), (4, .int x4)]) dX11_chain_62 (by decide) rfl ?_
          refine z_aload_n hC (q := 1) dX11_chain_64 rfl rfl ?_
          refine gf_RX11_110 hC dX11_chain_65 hk16 hb17 ?_
          refine z_iload hC (q := 0) dX11_chain_68 rfl ?_
          refine z_iconst hC (v := 0) k_iconst_0 dX11_chain_70 ?_
          refine z_iload_n hC (q := 4) dX11_chain_71 rfl rfl ?_
          refine cl_RX11_200 hC (c_X7_put _ G b17 r19 0 x3 K N I20 L21 R _ h) hk18 dX11_chain_72 (by rw [hRm]; exact ⟨Nat.le_of_ble_eq_true rfl, Nat.le_of_ble_eq_true rfl⟩) ⟨Nat.zero_le _, Nat.zero_le _⟩ (Nat.le_of_ble_eq_true rfl) (z_kIv (I := I20) (fun I22 h => ?_))
          refine z_aload_n hC (q := 1) dX11_chain_75 rfl rfl ?_
          refine gf_RX11_110 hC dX11_chain_76 hk16 hb17 ?_
          refine z_iload hC (q := 0) dX11_chain_79 rfl ?_
          refine z_iconst hC (v := 1) k_iconst_1 dX11_chain_81 ?_
          refine z_iload_n hC (q := 3) dX11_chain_82 rfl rfl ?_
          refine cl_RX11_200 hC (c_X7_put _ G b17 r19 1 x2 K N I22 L21 R _ h) hk18 dX11_chain_83 (by rw [hRm]; exact ⟨Nat.le_of_ble_eq_true rfl, Nat.le_of_ble_eq_true rfl⟩) ⟨Nat.zero_le _, Nat.zero_le _⟩ (Nat.le_of_ble_eq_true rfl) (z_kIv (I := I22) (fun I23 h => ?_))
          refine z_aload_n hC (q := 1) dX11_chain_86 rfl rfl ?_
          obtain ⟨b24, hb24, h⟩ := h
          refine gf_RX11_19 hC dX11_chain_87 hk16 hb24 ?_
          obtain ⟨hk25, h⟩ := h
          obtain ⟨b26, hb26, h⟩ := h
          refine gf_RX11_165 hC dX11_chain_90 hk25 hb26 ?_
          refine z_iload_n hC (q := 4) dX11_chain_93 rfl rfl ?_
          refine z_iconst hC (v := 2) k_iconst_2 dX11_chain_94 ?_
          obtain ⟨hk27, h⟩ := h
          refine cl_RX11_157 hC (c_X7_at _ G b26 x3 2 K N I23 L21 R _ h) hk27 dX11_chain_95 (by rw [hRm]; exact ⟨Nat.le_of_ble_eq_true rfl, Nat.le_of_ble_eq_true rfl⟩) ⟨Nat.zero_le _, Nat.zero_le _⟩ (Nat.le_of_ble_eq_true rfl) (z_kPi (fun r28 h => ?_))
          refine z_istore_n hC (lv1 := [(2, .int r28), (5, .int r19), (0, .ref x0), (1, .int x1), (3, .int x3), (4, .int x4)]) dX11_chain_98 rfl (by decide) rfl ?_
          refine z_aload_n hC (q := 2) dX11_chain_99 rfl rfl ?_
          refine gf_RX11_19 hC dX11_chain_100 hk16 hb24 ?_
          refine z_iload_n hC (q := 3) dX11_chain_103 rfl rfl ?_
          refine z_iload_n hC (q := 4) dX11_chain_104 rfl rfl ?_
          refine cl_RX11_168 hC (c_X9_scopeBehind _ G b24 x1 x3 K N I23 L21 R _ h) hk25 dX11_chain_105 (by rw [hRm]; exact ⟨Nat.le_of_ble_eq_true rfl, Nat.le_of_ble_eq_true rfl⟩) ⟨Nat.zero_le _, Nat.zero_le _⟩ (Nat.le_of_ble_eq_true rfl) (z_kPi (fun r29 h => ?_))
          refine z_istore_n hC (lv1 := [(3, .int r29), (2, .int r28), (5, .int r19), (0, .ref x0), (1, .int x1), (4, .int x4)]) dX11_chain_108 rfl (by decide) rfl ?_
          obtain ⟨v30, ev30⟩ : ∃ y : Int32, y = x4 + 1 := ⟨_, rfl⟩
          have h := h v30 ev30
          refine z_iinc hC (q := 5) (v := v30) (lv1 := [(4, .int v30), (3, .int r29), (2, .int r28), (5, .int r19), (0, .ref x0), (1, .int x1)]) dX11_chain_109 rfl (by rw [ev30, k_iinc_1]) (by decide) rfl ?_
          refine z_goto hC (tgt := 42) dX11_chain_112 (by decide) ?_
          exact z_sub [(0, .ref x0), (1, .int x1), (2, .int r28), (3, .int r29), (4, .int v30)] [4, 5, 2, 1, 0] rfl (hC42 _ _ _ _ _ _ _ h)
  exact key n x0 x1 x2 x3 x4 I L h0
set_option maxHeartbeats 4000000 in
set_option maxRecDepth 100000 in
theorem c_X11_chain  (l : Launch) (G : ZG) (a0 : Nat) (a1 : Int32) (K : MK) (N : MK) (I : MI) (L : ML) (R : MR) (Q : Int32 → MI → ML → Prop) (h : w_X11_chain a0 a1 K N I L R Q) : Met l yX11_chain (.code yX11_chain cX11_chain 6 (some .int) :: z_tbl) rm_X11_chain (z_Pc G [.ref a0, .int a1] K N I L R) (z_Qc G (qLi K N R Q)) 0 0 (z_A G) := by
  refine z_met (by decide) (Nat.le_of_ble_eq_true rfl) (fun X hX hRm hC0 hnm => ?_)
  subst hX
  have hC : ZOk X G RX11 cX11_chain 6 (some .int) := hC0
  show Z X G 6 0 0 _ K N I L R 0 [(0, .ref a0), (1, .int a1)] []
  delta w_X11_chain at h
  refine z_aload_n hC (q := 0) dX11_chain_0 rfl rfl ?_
  obtain ⟨hk1, h⟩ := h
  obtain ⟨b2, hb2, h⟩ := h
  refine gf_RX11_19 hC dX11_chain_1 hk1 hb2 ?_
  refine z_iload_n hC (q := 1) dX11_chain_4 rfl rfl ?_
  obtain ⟨hk3, h⟩ := h
  refine cl_RX11_192 hC (c_X9_hasAddress _ G b2 a1 K N I L R _ h) hk3 dX11_chain_5 (by rw [hRm]; exact ⟨Nat.le_of_ble_eq_true rfl, Nat.le_of_ble_eq_true rfl⟩) ⟨Nat.zero_le _, Nat.zero_le _⟩ (Nat.le_of_ble_eq_true rfl) (z_kPz (fun r4 h => ?_))
  refine z_ifz_ne hC (tgt := 13) dX11_chain_8 (by decide) (fun hc => ?_) (fun hc => ?_)
  · have h := h.1 hc
    refine z_aload_n hC (q := 0) dX11_chain_13 rfl rfl ?_
    obtain ⟨b5, hb5, h⟩ := h
    refine gf_RX11_110 hC dX11_chain_14 hk1 hb5 ?_
    obtain ⟨hk6, h⟩ := h
    refine cl_RX11_195 hC (c_X7_forget _ G b5 K N I L R _ h) hk6 dX11_chain_17 (by rw [hRm]; exact ⟨Nat.le_of_ble_eq_true rfl, Nat.le_of_ble_eq_true rfl⟩) ⟨Nat.zero_le _, Nat.zero_le _⟩ (Nat.le_of_ble_eq_true rfl) (z_kIv (I := I) (fun I7 h => ?_))
    refine z_aload_n hC (q := 0) dX11_chain_20 rfl rfl ?_
    refine gf_RX11_19 hC dX11_chain_21 hk1 hb2 ?_
    refine z_iload_n hC (q := 1) dX11_chain_24 rfl rfl ?_
    refine cl_RX11_186 hC (c_X9_lineOf _ G b2 a1 K N I7 L R _ h) hk3 dX11_chain_25 (by rw [hRm]; exact ⟨Nat.le_of_ble_eq_true rfl, Nat.le_of_ble_eq_true rfl⟩) ⟨Nat.zero_le _, Nat.zero_le _⟩ (Nat.le_of_ble_eq_true rfl) (z_kPi (fun r8 h => ?_))
    refine z_istore_n hC (lv1 := [(2, .int r8), (0, .ref a0), (1, .int a1)]) dX11_chain_28 rfl (by decide) rfl ?_
    refine z_aload_n hC (q := 1) dX11_chain_29 rfl rfl ?_
    refine gf_RX11_19 hC dX11_chain_30 hk1 hb2 ?_
    refine z_iload_n hC (q := 2) dX11_chain_33 rfl rfl ?_
    refine z_iconst hC (v := (-1)) k_iconst_m1 dX11_chain_34 ?_
    refine cl_RX11_168 hC (c_X9_scopeBehind _ G b2 a1 (-1) K N I7 L R _ h) hk3 dX11_chain_35 (by rw [hRm]; exact ⟨Nat.le_of_ble_eq_true rfl, Nat.le_of_ble_eq_true rfl⟩) ⟨Nat.zero_le _, Nat.zero_le _⟩ (Nat.le_of_ble_eq_true rfl) (z_kPi (fun r9 h => ?_))
    refine z_istore_n hC (lv1 := [(3, .int r9), (2, .int r8), (0, .ref a0), (1, .int a1)]) dX11_chain_38 rfl (by decide) rfl ?_
    refine z_iconst hC (v := 0) k_iconst_0 dX11_chain_39 ?_
    refine z_istore hC (lv1 := [(4, .int 0), (3, .int r9), (2, .int r8), (0, .ref a0), (1, .int a1)]) dX11_chain_40 (by decide) rfl ?_
    exact z_sub [(0, .ref a0), (1, .int a1), (2, .int r8), (3, .int r9), (4, .int 0)] [3, 4, 2, 1, 0] rfl (z_X11_chain_42 hC hRm h)
  · have h := h.2 hc
    refine z_iconst hC (v := (-1)) k_iconst_m1 dX11_chain_11 ?_
    exact z_iret hC dX11_chain_12 ⟨_, rfl, rfl, rfl, rfl, h⟩
def w_X11_chainAt  (a0 : Nat) (a1 : Int32) (K : MK) (N : MK) (I : MI) (L : ML) (R : MR) (Q : Int32 → Prop) : Prop := K a0 = 12 ∧ ∃ b2 : Nat, R a0 17 = some b2 ∧ K b2 = 8 ∧ w_X7_at b2 a1 0 K N I L R (fun r4 => Q r4)
set_option maxHeartbeats 4000000 in
set_option maxRecDepth 100000 in
theorem c_X11_chainAt  (l : Launch) (G : ZG) (a0 : Nat) (a1 : Int32) (K : MK) (N : MK) (I : MI) (L : ML) (R : MR) (Q : Int32 → Prop) (h : w_X11_chainAt a0 a1 K N I L R Q) : Met l yX11_chainAt (.code yX11_chainAt cX11_chainAt 2 (some .int) :: z_tbl) rm_X11_chainAt (z_Pc G [.ref a0, .int a1] K N I L R) (z_Qc G (qPi K N I L R Q)) 0 0 (z_A G) := by
  refine z_met (by decide) (Nat.le_of_ble_eq_true rfl) (fun X hX hRm hC0 hnm => ?_)
  subst hX
  have hC : ZOk X G RX11 cX11_chainAt 2 (some .int) := hC0
  show Z X G 2 0 0 _ K N I L R 0 [(0, .ref a0), (1, .int a1)] []
  delta w_X11_chainAt at h
  refine z_aload_n hC (q := 0) dX11_chainAt_0 rfl rfl ?_
  obtain ⟨hk1, h⟩ := h
  obtain ⟨b2, hb2, h⟩ := h
  refine gf_RX11_110 hC dX11_chainAt_1 hk1 hb2 ?_
  refine z_iload_n hC (q := 1) dX11_chainAt_4 rfl rfl ?_
  refine z_iconst hC (v := 0) k_iconst_0 dX11_chainAt_5 ?_
  obtain ⟨hk3, h⟩ := h
  refine cl_RX11_157 hC (c_X7_at _ G b2 a1 0 K N I L R _ h) hk3 dX11_chainAt_6 (by rw [hRm]; exact ⟨Nat.le_of_ble_eq_true rfl, Nat.le_of_ble_eq_true rfl⟩) ⟨Nat.zero_le _, Nat.zero_le _⟩ (Nat.le_of_ble_eq_true rfl) (z_kPi (fun r4 h => ?_))
  exact z_iret hC dX11_chainAt_9 ⟨_, rfl, rfl, rfl, rfl, rfl, rfl, h⟩
def w_X11_chainLine  (a0 : Nat) (a1 : Int32) (K : MK) (N : MK) (I : MI) (L : ML) (R : MR) (Q : Int32 → Prop) : Prop := K a0 = 12 ∧ ∃ b2 : Nat, R a0 17 = some b2 ∧ K b2 = 8 ∧ w_X7_at b2 a1 1 K N I L R (fun r4 => Q r4)
set_option maxHeartbeats 4000000 in
set_option maxRecDepth 100000 in
theorem c_X11_chainLine  (l : Launch) (G : ZG) (a0 : Nat) (a1 : Int32) (K : MK) (N : MK) (I : MI) (L : ML) (R : MR) (Q : Int32 → Prop) (h : w_X11_chainLine a0 a1 K N I L R Q) : Met l yX11_chainLine (.code yX11_chainLine cX11_chainLine 2 (some .int) :: z_tbl) rm_X11_chainLine (z_Pc G [.ref a0, .int a1] K N I L R) (z_Qc G (qPi K N I L R Q)) 0 0 (z_A G) := by
  refine z_met (by decide) (Nat.le_of_ble_eq_true rfl) (fun X hX hRm hC0 hnm => ?_)
  subst hX
  have hC : ZOk X G RX11 cX11_chainLine 2 (some .int) := hC0
  show Z X G 2 0 0 _ K N I L R 0 [(0, .ref a0), (1, .int a1)] []
  delta w_X11_chainLine at h
  refine z_aload_n hC (q := 0) dX11_chainLine_0 rfl rfl ?_
  obtain ⟨hk1, h⟩ := h
  obtain ⟨b2, hb2, h⟩ := h
  refine gf_RX11_110 hC dX11_chainLine_1 hk1 hb2 ?_
  refine z_iload_n hC (q := 1) dX11_chainLine_4 rfl rfl ?_
  refine z_iconst hC (v := 1) k_iconst_1 dX11_chainLine_5 ?_
  obtain ⟨hk3, h⟩ := h
  refine cl_RX11_157 hC (c_X7_at _ G b2 a1 1 K N I L R _ h) hk3 dX11_chainLine_6 (by rw [hRm]; exact ⟨Nat.le_of_ble_eq_true rfl, Nat.le_of_ble_eq_true rfl⟩) ⟨Nat.zero_le _, Nat.zero_le _⟩ (Nat.le_of_ble_eq_true rfl) (z_kPi (fun r4 h => ?_))
  exact z_iret hC dX11_chainLine_9 ⟨_, rfl, rfl, rfl, rfl, rfl, rfl, h⟩
def w_X11_why  (a0 : Nat) (a1 : Int32) (a2 : Int32) (K : MK) (N : MK) (I : MI) (L : ML) (R : MR) (Q : Int32 → MI → Prop) : Prop := K a0 = 12 ∧ ∃ b2 : Nat, R a0 1 = some b2 ∧ K b2 = 10 ∧ ∃ b4 : Nat, R b2 4 = some b4 ∧ K b4 = 8 ∧ w_X7_has b4 a1 K N I L R (fun r6 => (r6 = false → Q (-1) I) ∧ (r6 = true → w_X9_hasAddress b2 a2 K N I L R (fun r7 => (r7 = true → ∃ b8 : Nat, R a0 6 = some b8 ∧ ∃ b9 : Nat, R a0 2 = some b9 ∧ K b8 = 3 ∧ w_X2_look b8 b2 b9 a1 a2 K N I L R (fun r11 I12 => Q r11 I12)) ∧ (r7 = false → Q (-1) I))))
set_option maxHeartbeats 4000000 in
set_option maxRecDepth 100000 in
theorem c_X11_why  (l : Launch) (G : ZG) (a0 : Nat) (a1 : Int32) (a2 : Int32) (K : MK) (N : MK) (I : MI) (L : ML) (R : MR) (Q : Int32 → MI → Prop) (h : w_X11_why a0 a1 a2 K N I L R Q) : Met l yX11_why (.code yX11_why cX11_why 3 (some .int) :: z_tbl) rm_X11_why (z_Pc G [.ref a0, .int a1, .int a2] K N I L R) (z_Qc G (qIi K N L R Q)) 0 0 (z_A G) := by
  refine z_met (by decide) (Nat.le_of_ble_eq_true rfl) (fun X hX hRm hC0 hnm => ?_)
  subst hX
  have hC : ZOk X G RX11 cX11_why 3 (some .int) := hC0
  show Z X G 3 0 0 _ K N I L R 0 [(0, .ref a0), (1, .int a1), (2, .int a2)] []
  delta w_X11_why at h
  refine z_aload_n hC (q := 0) dX11_why_0 rfl rfl ?_
  obtain ⟨hk1, h⟩ := h
  obtain ⟨b2, hb2, h⟩ := h
  refine gf_RX11_19 hC dX11_why_1 hk1 hb2 ?_
  obtain ⟨hk3, h⟩ := h
  obtain ⟨b4, hb4, h⟩ := h
  refine gf_RX11_174 hC dX11_why_4 hk3 hb4 ?_
  refine z_iload_n hC (q := 1) dX11_why_7 rfl rfl ?_
  obtain ⟨hk5, h⟩ := h
  refine cl_RX11_153 hC (c_X7_has _ G b4 a1 K N I L R _ h) hk5 dX11_why_8 (by rw [hRm]; exact ⟨Nat.le_of_ble_eq_true rfl, Nat.le_of_ble_eq_true rfl⟩) ⟨Nat.zero_le _, Nat.zero_le _⟩ (Nat.le_of_ble_eq_true rfl) (z_kPz (fun r6 h => ?_))
  refine z_ifz_eq hC (tgt := 25) dX11_why_11 (by decide) (fun hc => ?_) (fun hc => ?_)
  · have h := h.1 hc
    refine z_iconst hC (v := (-1)) k_iconst_m1 dX11_why_25 ?_
    exact z_iret hC dX11_why_26 ⟨_, rfl, rfl, rfl, rfl, rfl, h⟩
  · have h := h.2 hc
    refine z_aload_n hC (q := 0) dX11_why_14 rfl rfl ?_
    refine gf_RX11_19 hC dX11_why_15 hk1 hb2 ?_
    refine z_iload_n hC (q := 2) dX11_why_18 rfl rfl ?_
    refine cl_RX11_192 hC (c_X9_hasAddress _ G b2 a2 K N I L R _ h) hk3 dX11_why_19 (by rw [hRm]; exact ⟨Nat.le_of_ble_eq_true rfl, Nat.le_of_ble_eq_true rfl⟩) ⟨Nat.zero_le _, Nat.zero_le _⟩ (Nat.le_of_ble_eq_true rfl) (z_kPz (fun r7 h => ?_))
    refine z_ifz_ne hC (tgt := 27) dX11_why_22 (by decide) (fun hc => ?_) (fun hc => ?_)
    · have h := h.1 hc
      refine z_aload_n hC (q := 0) dX11_why_27 rfl rfl ?_
      obtain ⟨b8, hb8, h⟩ := h
      refine gf_RX11_44 hC dX11_why_28 hk1 hb8 ?_
      refine z_aload_n hC (q := 0) dX11_why_31 rfl rfl ?_
      refine gf_RX11_19 hC dX11_why_32 hk1 hb2 ?_
      refine z_aload_n hC (q := 0) dX11_why_35 rfl rfl ?_
      obtain ⟨b9, hb9, h⟩ := h
      refine gf_RX11_26 hC dX11_why_36 hk1 hb9 ?_
      refine z_iload_n hC (q := 1) dX11_why_39 rfl rfl ?_
      refine z_iload_n hC (q := 2) dX11_why_40 rfl rfl ?_
      obtain ⟨hk10, h⟩ := h
      refine cl_RX11_204 hC (c_X2_look _ G b8 b2 b9 a1 a2 K N I L R _ h) hk10 dX11_why_41 (by rw [hRm]; exact ⟨Nat.le_of_ble_eq_true rfl, Nat.le_of_ble_eq_true rfl⟩) ⟨Nat.zero_le _, Nat.zero_le _⟩ (Nat.le_of_ble_eq_true rfl) (z_kIi (I := I) (fun r11 I12 h => ?_))
      exact z_iret hC dX11_why_44 ⟨_, rfl, rfl, rfl, rfl, rfl, h⟩
    · have h := h.2 hc
      refine z_iconst hC (v := (-1)) k_iconst_m1 dX11_why_25 ?_
      exact z_iret hC dX11_why_26 ⟨_, rfl, rfl, rfl, rfl, rfl, h⟩
def w_X11_now  (a0 : Nat) (a1 : Int32) (K : MK) (N : MK) (I : MI) (L : ML) (R : MR) (Q : Int32 → MI → Prop) : Prop := (a1 = 0 → K a0 = 12 ∧ ∃ b2 : Nat, R a0 2 = some b2 ∧ K b2 = 4 ∧ Q (I b2 4) I) ∧ (¬ a1 = 0 → (a1 = 1 → K a0 = 12 ∧ ∃ b5 : Nat, R a0 1 = some b5 ∧ ∃ b6 : Nat, R a0 2 = some b6 ∧ K b6 = 4 ∧ K b5 = 10 ∧ w_X9_lineOf b5 (I b6 4) K N I L R (fun r9 => Q r9 I)) ∧ (¬ a1 = 1 → (a1 = 2 → K a0 = 12 ∧ ∃ b11 : Nat, R a0 2 = some b11 ∧ K b11 = 4 ∧ Q (I b11 3) I) ∧ (¬ a1 = 2 → (a1 = 3 → K a0 = 12 ∧ ∃ b14 : Nat, R a0 1 = some b14 ∧ ∃ b15 : Nat, R a0 2 = some b15 ∧ K b15 = 4 ∧ K b14 = 10 ∧ w_X9_scopeBehind b14 (I b15 4) (-1) K N I L R (fun r18 => Q r18 I)) ∧ (¬ a1 = 3 → (a1 = 4 → K a0 = 12 ∧ ∃ b20 : Nat, R a0 6 = some b20 ∧ ∃ b21 : Nat, R a0 1 = some b21 ∧ ∃ b22 : Nat, R a0 2 = some b22 ∧ K b20 = 3 ∧ w_X2_varsThere b20 b21 b22 K N I L R (fun r24 I25 => Q r24 I25)) ∧ (¬ a1 = 4 → (a1 = 5 → K a0 = 12 ∧ ∃ b27 : Nat, R a0 2 = some b27 ∧ K b27 = 4 ∧ Q (I b27 5) I) ∧ (¬ a1 = 5 → Q (-1) I))))))
set_option maxHeartbeats 4000000 in
set_option maxRecDepth 100000 in
theorem c_X11_now  (l : Launch) (G : ZG) (a0 : Nat) (a1 : Int32) (K : MK) (N : MK) (I : MI) (L : ML) (R : MR) (Q : Int32 → MI → Prop) (h : w_X11_now a0 a1 K N I L R Q) : Met l yX11_now (.code yX11_now cX11_now 2 (some .int) :: z_tbl) rm_X11_now (z_Pc G [.ref a0, .int a1] K N I L R) (z_Qc G (qIi K N L R Q)) 0 0 (z_A G) := by
  refine z_met (by decide) (Nat.le_of_ble_eq_true rfl) (fun X hX hRm hC0 hnm => ?_)
  subst hX
  have hC : ZOk X G RX11 cX11_now 2 (some .int) := hC0
  show Z X G 2 0 0 _ K N I L R 0 [(0, .ref a0), (1, .int a1)] []
  delta w_X11_now at h
  refine z_iload_n hC (q := 1) dX11_now_0 rfl rfl ?_
  by_cases hc0 : a1 = 0
  · have h := h.1 hc0
    refine z_tableIn hC (off := 39) (tgt := 40) 0 hc0 dX11_now_1 (by decide) (by decide) ?_
    refine z_aload_n hC (q := 0) dX11_now_40 rfl rfl ?_
    obtain ⟨hk1, h⟩ := h
    obtain ⟨b2, hb2, h⟩ := h
    refine gf_RX11_26 hC dX11_now_41 hk1 hb2 ?_
    obtain ⟨hk3, h⟩ := h
    refine gf_RX11_218 hC dX11_now_44 hk3 ?_
    exact z_iret hC dX11_now_47 ⟨_, rfl, rfl, rfl, rfl, rfl, h⟩
  · have h := h.2 hc0
    by_cases hc1 : a1 = 1
    · have h := h.1 hc1
      refine z_tableIn hC (off := 47) (tgt := 48) 1 hc1 dX11_now_1 (by decide) (by decide) ?_
      refine z_aload_n hC (q := 0) dX11_now_48 rfl rfl ?_
      obtain ⟨hk4, h⟩ := h
      obtain ⟨b5, hb5, h⟩ := h
      refine gf_RX11_19 hC dX11_now_49 hk4 hb5 ?_
      refine z_aload_n hC (q := 0) dX11_now_52 rfl rfl ?_
      obtain ⟨b6, hb6, h⟩ := h
      refine gf_RX11_26 hC dX11_now_53 hk4 hb6 ?_
      obtain ⟨hk7, h⟩ := h
      refine gf_RX11_218 hC dX11_now_56 hk7 ?_
      obtain ⟨hk8, h⟩ := h
      refine cl_RX11_186 hC (c_X9_lineOf _ G b5 (I b6 4) K N I L R _ h) hk8 dX11_now_59 (by rw [hRm]; exact ⟨Nat.le_of_ble_eq_true rfl, Nat.le_of_ble_eq_true rfl⟩) ⟨Nat.zero_le _, Nat.zero_le _⟩ (Nat.le_of_ble_eq_true rfl) (z_kPi (fun r9 h => ?_))
      exact z_iret hC dX11_now_62 ⟨_, rfl, rfl, rfl, rfl, rfl, h⟩
    · have h := h.2 hc1
      by_cases hc2 : a1 = 2
      · have h := h.1 hc2
        refine z_tableIn hC (off := 62) (tgt := 63) 2 hc2 dX11_now_1 (by decide) (by decide) ?_
        refine z_aload_n hC (q := 0) dX11_now_63 rfl rfl ?_
        obtain ⟨hk10, h⟩ := h
        obtain ⟨b11, hb11, h⟩ := h
        refine gf_RX11_26 hC dX11_now_64 hk10 hb11 ?_
        obtain ⟨hk12, h⟩ := h
        refine gf_RX11_221 hC dX11_now_67 hk12 ?_
        exact z_iret hC dX11_now_70 ⟨_, rfl, rfl, rfl, rfl, rfl, h⟩
      · have h := h.2 hc2
        by_cases hc3 : a1 = 3
        · have h := h.1 hc3
          refine z_tableIn hC (off := 70) (tgt := 71) 3 hc3 dX11_now_1 (by decide) (by decide) ?_
          refine z_aload_n hC (q := 0) dX11_now_71 rfl rfl ?_
          obtain ⟨hk13, h⟩ := h
          obtain ⟨b14, hb14, h⟩ := h
          refine gf_RX11_19 hC dX11_now_72 hk13 hb14 ?_
          refine z_aload_n hC (q := 0) dX11_now_75 rfl rfl ?_
          obtain ⟨b15, hb15, h⟩ := h
          refine gf_RX11_26 hC dX11_now_76 hk13 hb15 ?_
          obtain ⟨hk16, h⟩ := h
          refine gf_RX11_218 hC dX11_now_79 hk16 ?_
          refine z_iconst hC (v := (-1)) k_iconst_m1 dX11_now_82 ?_
          obtain ⟨hk17, h⟩ := h
          refine cl_RX11_168 hC (c_X9_scopeBehind _ G b14 (I b15 4) (-1) K N I L R _ h) hk17 dX11_now_83 (by rw [hRm]; exact ⟨Nat.le_of_ble_eq_true rfl, Nat.le_of_ble_eq_true rfl⟩) ⟨Nat.zero_le _, Nat.zero_le _⟩ (Nat.le_of_ble_eq_true rfl) (z_kPi (fun r18 h => ?_))
          exact z_iret hC dX11_now_86 ⟨_, rfl, rfl, rfl, rfl, rfl, h⟩
        · have h := h.2 hc3
          by_cases hc4 : a1 = 4
          · have h := h.1 hc4
            refine z_tableIn hC (off := 86) (tgt := 87) 4 hc4 dX11_now_1 (by decide) (by decide) ?_
            refine z_aload_n hC (q := 0) dX11_now_87 rfl rfl ?_
            obtain ⟨hk19, h⟩ := h
            obtain ⟨b20, hb20, h⟩ := h
            refine gf_RX11_44 hC dX11_now_88 hk19 hb20 ?_
            refine z_aload_n hC (q := 0) dX11_now_91 rfl rfl ?_
            obtain ⟨b21, hb21, h⟩ := h
            refine gf_RX11_19 hC dX11_now_92 hk19 hb21 ?_
            refine z_aload_n hC (q := 0) dX11_now_95 rfl rfl ?_
            obtain ⟨b22, hb22, h⟩ := h
            refine gf_RX11_26 hC dX11_now_96 hk19 hb22 ?_
            obtain ⟨hk23, h⟩ := h
            refine cl_RX11_224 hC (c_X2_varsThere _ G b20 b21 b22 K N I L R _ h) hk23 dX11_now_99 (by rw [hRm]; exact ⟨Nat.le_of_ble_eq_true rfl, Nat.le_of_ble_eq_true rfl⟩) ⟨Nat.zero_le _, Nat.zero_le _⟩ (Nat.le_of_ble_eq_true rfl) (z_kIi (I := I) (fun r24 I25 h => ?_))
            exact z_iret hC dX11_now_102 ⟨_, rfl, rfl, rfl, rfl, rfl, h⟩
          · have h := h.2 hc4
            by_cases hc5 : a1 = 5
            · have h := h.1 hc5
              refine z_tableIn hC (off := 102) (tgt := 103) 5 hc5 dX11_now_1 (by decide) (by decide) ?_
              refine z_aload_n hC (q := 0) dX11_now_103 rfl rfl ?_
              obtain ⟨hk26, h⟩ := h
              obtain ⟨b27, hb27, h⟩ := h
              refine gf_RX11_26 hC dX11_now_104 hk26 hb27 ?_
              obtain ⟨hk28, h⟩ := h
              refine gf_RX11_228 hC dX11_now_107 hk28 ?_
              exact z_iret hC dX11_now_110 ⟨_, rfl, rfl, rfl, rfl, rfl, h⟩
            · have h := h.2 hc5
              have hout : a1.toInt < 0 ∨ 5 < a1.toInt := by
                have hc0 := z_nei hc0 (by decide : (0 : Int32).toInt = 0)
                have hc1 := z_nei hc1 (by decide : (1 : Int32).toInt = 1)
                have hc2 := z_nei hc2 (by decide : (2 : Int32).toInt = 2)
                have hc3 := z_nei hc3 (by decide : (3 : Int32).toInt = 3)
                have hc4 := z_nei hc4 (by decide : (4 : Int32).toInt = 4)
                have hc5 := z_nei hc5 (by decide : (5 : Int32).toInt = 5)
                omega
              refine z_tableOut hC (tgt := 111) dX11_now_1 hout (by decide) ?_
              refine z_iconst hC (v := (-1)) k_iconst_m1 dX11_now_111 ?_
              exact z_iret hC dX11_now_112 ⟨_, rfl, rfl, rfl, rfl, rfl, h⟩
def w_X11_register  (a0 : Nat) (a1 : Int32) (K : MK) (N : MK) (I : MI) (L : ML) (R : MR) (Q : Int32 → Prop) : Prop := K a0 = 12 ∧ ∃ b2 : Nat, R a0 2 = some b2 ∧ K b2 = 4 ∧ w_X3_registerAt b2 a1 K N I L R (fun r4 => Q r4)
set_option maxHeartbeats 4000000 in
set_option maxRecDepth 100000 in
theorem c_X11_register  (l : Launch) (G : ZG) (a0 : Nat) (a1 : Int32) (K : MK) (N : MK) (I : MI) (L : ML) (R : MR) (Q : Int32 → Prop) (h : w_X11_register a0 a1 K N I L R Q) : Met l yX11_register (.code yX11_register cX11_register 2 (some .int) :: z_tbl) rm_X11_register (z_Pc G [.ref a0, .int a1] K N I L R) (z_Qc G (qPi K N I L R Q)) 0 0 (z_A G) := by
  refine z_met (by decide) (Nat.le_of_ble_eq_true rfl) (fun X hX hRm hC0 hnm => ?_)
  subst hX
  have hC : ZOk X G RX11 cX11_register 2 (some .int) := hC0
  show Z X G 2 0 0 _ K N I L R 0 [(0, .ref a0), (1, .int a1)] []
  delta w_X11_register at h
  refine z_aload_n hC (q := 0) dX11_register_0 rfl rfl ?_
  obtain ⟨hk1, h⟩ := h
  obtain ⟨b2, hb2, h⟩ := h
  refine gf_RX11_26 hC dX11_register_1 hk1 hb2 ?_
  refine z_iload_n hC (q := 1) dX11_register_4 rfl rfl ?_
  obtain ⟨hk3, h⟩ := h
  refine cl_RX11_231 hC (c_X3_registerAt _ G b2 a1 K N I L R _ h) hk3 dX11_register_5 (by rw [hRm]; exact ⟨Nat.le_of_ble_eq_true rfl, Nat.le_of_ble_eq_true rfl⟩) ⟨Nat.zero_le _, Nat.zero_le _⟩ (Nat.le_of_ble_eq_true rfl) (z_kPi (fun r4 h => ?_))
  exact z_iret hC dX11_register_8 ⟨_, rfl, rfl, rfl, rfl, rfl, rfl, h⟩
def w_X11_memory  (a0 : Nat) (a1 : Int32) (K : MK) (N : MK) (I : MI) (L : ML) (R : MR) (Q : Int32 → Prop) : Prop := K a0 = 12 ∧ ∃ b2 : Nat, R a0 2 = some b2 ∧ K b2 = 4 ∧ w_X3_memoryAt b2 a1 K N I L R (fun r4 => Q r4)
set_option maxHeartbeats 4000000 in
set_option maxRecDepth 100000 in
theorem c_X11_memory  (l : Launch) (G : ZG) (a0 : Nat) (a1 : Int32) (K : MK) (N : MK) (I : MI) (L : ML) (R : MR) (Q : Int32 → Prop) (h : w_X11_memory a0 a1 K N I L R Q) : Met l yX11_memory (.code yX11_memory cX11_memory 2 (some .int) :: z_tbl) rm_X11_memory (z_Pc G [.ref a0, .int a1] K N I L R) (z_Qc G (qPi K N I L R Q)) 0 0 (z_A G) := by
  refine z_met (by decide) (Nat.le_of_ble_eq_true rfl) (fun X hX hRm hC0 hnm => ?_)
  subst hX
  have hC : ZOk X G RX11 cX11_memory 2 (some .int) := hC0
  show Z X G 2 0 0 _ K N I L R 0 [(0, .ref a0), (1, .int a1)] []
  delta w_X11_memory at h
  refine z_aload_n hC (q := 0) dX11_memory_0 rfl rfl ?_
  obtain ⟨hk1, h⟩ := h
  obtain ⟨b2, hb2, h⟩ := h
  refine gf_RX11_26 hC dX11_memory_1 hk1 hb2 ?_
  refine z_iload_n hC (q := 1) dX11_memory_4 rfl rfl ?_
  obtain ⟨hk3, h⟩ := h
  refine cl_RX11_234 hC (c_X3_memoryAt _ G b2 a1 K N I L R _ h) hk3 dX11_memory_5 (by rw [hRm]; exact ⟨Nat.le_of_ble_eq_true rfl, Nat.le_of_ble_eq_true rfl⟩) ⟨Nat.zero_le _, Nat.zero_le _⟩ (Nat.le_of_ble_eq_true rfl) (z_kPi (fun r4 h => ?_))
  exact z_iret hC dX11_memory_8 ⟨_, rfl, rfl, rfl, rfl, rfl, rfl, h⟩
def w_X11_isIn  (a0 : Int32) (a1 : Int32) (a2 : Int32) (K : MK) (N : MK) (I : MI) (L : ML) (R : MR) (Q : Bool → Prop) : Prop := (a0 < a1 → Q false) ∧ (¬ a0 < a1 → (a2 < a0 → Q false) ∧ (¬ a2 < a0 → Q true))
set_option maxHeartbeats 4000000 in
set_option maxRecDepth 100000 in
theorem c_X11_isIn  (l : Launch) (G : ZG) (a0 : Int32) (a1 : Int32) (a2 : Int32) (K : MK) (N : MK) (I : MI) (L : ML) (R : MR) (Q : Bool → Prop) (h : w_X11_isIn a0 a1 a2 K N I L R Q) : Met l yX11_isIn (.code yX11_isIn cX11_isIn 3 (some .boolean) :: z_tbl) rm_X11_isIn (z_Pc G [.int a0, .int a1, .int a2] K N I L R) (z_Qc G (qPz K N I L R Q)) 0 0 (z_A G) := by
  refine z_met (by decide) (Nat.le_of_ble_eq_true rfl) (fun X hX hRm hC0 hnm => ?_)
  subst hX
  have hC : ZOk X G RX11 cX11_isIn 3 (some .boolean) := hC0
  show Z X G 3 0 0 _ K N I L R 0 [(0, .int a0), (1, .int a1), (2, .int a2)] []
  delta w_X11_isIn at h
  refine z_iload_n hC (q := 0) dX11_isIn_0 rfl rfl ?_
  refine z_iload_n hC (q := 1) dX11_isIn_1 rfl rfl ?_
  refine z_icmp_lt hC (tgt := 14) dX11_isIn_2 (by decide) (fun hc => ?_) (fun hc => ?_)
  · have h := h.1 hc
    refine z_iconst hC (v := 0) k_iconst_0 dX11_isIn_14 ?_
    exact z_zret (b := false) hC dX11_isIn_15 rfl ⟨false, rfl, rfl, rfl, rfl, rfl, rfl, h⟩
  · have h := h.2 hc
    refine z_iload_n hC (q := 0) dX11_isIn_5 rfl rfl ?_
    refine z_iload_n hC (q := 2) dX11_isIn_6 rfl rfl ?_
    refine z_icmp_gt hC (tgt := 14) dX11_isIn_7 (by decide) (fun hc => ?_) (fun hc => ?_)
    · have h := h.1 hc
      refine z_iconst hC (v := 0) k_iconst_0 dX11_isIn_14 ?_
      exact z_zret (b := false) hC dX11_isIn_15 rfl ⟨false, rfl, rfl, rfl, rfl, rfl, rfl, h⟩
    · have h := h.2 hc
      refine z_iconst hC (v := 1) k_iconst_1 dX11_isIn_10 ?_
      refine z_goto hC (tgt := 15) dX11_isIn_11 (by decide) ?_
      exact z_zret (b := true) hC dX11_isIn_15 rfl ⟨true, rfl, rfl, rfl, rfl, rfl, rfl, h⟩
def w_X11_remember_21  (x0 : Nat) (x1 : Nat) (x2 : Nat) (x3 : Int32)  (K : MK) (N : MK) (I : MI) (L : ML) (R : MR)  (Q : MI → ML → MR → Prop) : Prop := ∃ J : Nat → Nat → Nat → Nat → Int32 → MI → ML → MR → Prop, (∃ n, J n x0 x1 x2 x3 I L R) ∧ ∀ (n : Nat) (x0 : Nat) (x1 : Nat) (x2 : Nat) (x3 : Int32) (I : MI) (L : ML) (R : MR), J n x0 x1 x2 x3 I L R → K x0 = 12 ∧ ∃ b12 : Nat, R x0 4 = some b12 ∧ K b12 = 17 ∧ ((nI (N b12)) ≤ x3 → vp_in ((nI (N b12)) - 1) (N b12) ∧ K x2 = 4 ∧ ∀ R16 : MR, R16 = mup R b12 (ix ((nI (N b12)) - 1)) (some x2) → ∀ I17 : MI, I17 = mup I x0 5 ((I x0 5) - 1) → ∃ b18 : Nat, R16 x0 4 = some b18 ∧ K b18 = 17 ∧ vp_in (I17 x0 5) (N b18) ∧ ∃ b21 : Nat, R16 b18 (ix (I17 x0 5)) = some b21 ∧ K b21 = 4 ∧ w_X3_copyFrom b21 x1 K N I17 L R16 (fun I23 => ∀ I24 : MI, I24 = mup I23 x0 5 ((I23 x0 5) + 1) → Q I24 L R16)) ∧ (¬ (nI (N b12)) ≤ x3 → vp_in x3 (N b12) ∧ ∃ b26 : Nat, R b12 (ix x3) = some b26 ∧ vp_in (x3 - 1) (N b12) ∧ K b26 = 4 ∧ ∀ R29 : MR, R29 = mup R b12 (ix (x3 - 1)) (some b26) → ∀ v30 : Int32, v30 = x3 + 1 → ∃ n1, n1 < n ∧ J n1 x0 x1 x2 v30 I L R29)
def w_X11_remember  (a0 : Nat) (a1 : Nat) (K : MK) (N : MK) (I : MI) (L : ML) (R : MR) (Q : MI → ML → MR → Prop) : Prop := K a0 = 12 ∧ ∃ b2 : Nat, R a0 4 = some b2 ∧ K b2 = 17 ∧ ((I a0 5) < (nI (N b2)) → vp_in (I a0 5) (N b2) ∧ ∃ b5 : Nat, R b2 (ix (I a0 5)) = some b5 ∧ K b5 = 4 ∧ w_X3_copyFrom b5 a1 K N I L R (fun I7 => ∀ I8 : MI, I8 = mup I7 a0 5 ((I7 a0 5) + 1) → Q I8 L R)) ∧ (¬ (I a0 5) < (nI (N b2)) → vp_in 0 (N b2) ∧ ∃ b10 : Nat, R b2 (ix 0) = some b10 ∧ w_X11_remember_21 a0 a1 b10 1 K N I L R Q)
set_option maxHeartbeats 4000000 in
set_option maxRecDepth 100000 in
theorem z_X11_remember_21 {X : ZX} {G : ZG}  {x0 : Nat} {x1 : Nat} {x2 : Nat} {x3 : Int32}  {K : MK} {N : MK} {I : MI} {L : ML} {R : MR}  {Q : MI → ML → MR → Prop} (hC : ZOk X G RX11 cX11_remember 4 none) (hRm : X.2.2.2.1 = rm_X11_remember) (h : w_X11_remember_21 x0 x1 x2 x3 K N I L R  Q) : Z X G 4 0 0 (z_T X G (qRv K N Q) 0 0) K N I L R 21 [(0, .ref x0), (1, .ref x1), (2, .ref x2), (3, .int x3)] [] := by
  delta w_X11_remember_21 at h
  obtain ⟨J, ⟨n, h0⟩, hs⟩ := h
  have key : ∀ (n : Nat) (x0 : Nat) (x1 : Nat) (x2 : Nat) (x3 : Int32) (I : MI) (L : ML) (R : MR), J n x0 x1 x2 x3 I L R → Z X G 4 0 0 (z_T X G (qRv K N Q) 0 0) K N I L R 21 [(0, .ref x0), (1, .ref x1), (2, .ref x2), (3, .int x3)] [] := by
    intro n
    induction n using Nat.strongRecOn with
    | _ n ih =>
      intro x0 x1 x2 x3 I L R hJ
      have hC21 : ∀ (y0 : Nat) (y1 : Nat) (y2 : Nat) (y3 : Int32) (zI : MI) (zL : ML) (zR : MR), (∃ n1, n1 < n ∧ J n1 y0 y1 y2 y3 zI zL zR) → Z X G 4 0 0 (z_T X G (qRv K N Q) 0 0) K N zI zL zR 21 [(0, .ref y0), (1, .ref y1), (2, .ref y2), (3, .int y3)] [] := fun y0 y1 y2 y3 zI zL zR ⟨n1, hn1, hj⟩ => ih n1 hn1 y0 y1 y2 y3 zI zL zR hj
      have h := hs n x0 x1 x2 x3 I L R hJ
      refine z_iload_n hC (q := 3) dX11_remember_21 rfl rfl ?_
      refine z_aload_n hC (q := 0) dX11_remember_22 rfl rfl ?_
      obtain ⟨hk11, h⟩ := h
      obtain ⟨b12, hb12, h⟩ := h
      refine gf_RX11_33 hC dX11_remember_23 hk11 hb12 ?_
      obtain ⟨hk13, h⟩ := h
      refine z_alen17 hC hk13 dX11_remember_26 ?_
      refine z_icmp_ge hC (tgt := 50) dX11_remember_27 (by decide) (fun hc => ?_) (fun hc => ?_)
      · have h := h.1 hc
        refine z_aload_n hC (q := 0) dX11_remember_50 rfl rfl ?_
        refine gf_RX11_33 hC dX11_remember_51 hk11 hb12 ?_
        refine z_aload_n hC (q := 0) dX11_remember_54 rfl rfl ?_
        refine gf_RX11_33 hC dX11_remember_55 hk11 hb12 ?_
        refine z_alen17 hC hk13 dX11_remember_58 ?_
        refine z_iconst hC (v := 1) k_iconst_1 dX11_remember_59 ?_
        refine z_isub hC dX11_remember_60 ?_
        refine z_aload_n hC (q := 2) dX11_remember_61 rfl rfl ?_
        obtain ⟨hi14, h⟩ := h
        obtain ⟨hk15, h⟩ := h
        refine z_aastore17 hC hk13 hi14 hk15 dX11_remember_62 ?_
        refine z_genR (fun R16 eR16 => ?_)
        have h := h R16 eR16
        refine z_aload_n hC (q := 0) dX11_remember_63 rfl rfl ?_
        refine z_dup hC rfl dX11_remember_64 ?_
        refine gf_RX11_37 hC dX11_remember_65 hk11 ?_
        refine z_iconst hC (v := 1) k_iconst_1 dX11_remember_68 ?_
        refine z_isub hC dX11_remember_69 ?_
        refine pf_RX11_37 hC dX11_remember_70 hk11 ?_
        refine z_genI (fun I17 eI17 => ?_)
        have h := h I17 eI17
        refine z_aload_n hC (q := 0) dX11_remember_73 rfl rfl ?_
        obtain ⟨b18, hb18, h⟩ := h
        refine gf_RX11_33 hC dX11_remember_74 hk11 hb18 ?_
        refine z_aload_n hC (q := 0) dX11_remember_77 rfl rfl ?_
        refine gf_RX11_37 hC dX11_remember_78 hk11 ?_
        obtain ⟨hk19, h⟩ := h
        obtain ⟨hi20, h⟩ := h
        obtain ⟨b21, hb21, h⟩ := h
        refine z_aar17 hC hk19 hi20 hb21 dX11_remember_81 ?_
        refine z_aload_n hC (q := 1) dX11_remember_82 rfl rfl ?_
        obtain ⟨hk22, h⟩ := h
        refine cl_RX11_246 hC (c_X3_copyFrom _ G b21 x1 K N I17 L R16 _ h) hk22 dX11_remember_83 (by rw [hRm]; exact ⟨Nat.le_of_ble_eq_true rfl, Nat.le_of_ble_eq_true rfl⟩) ⟨Nat.zero_le _, Nat.zero_le _⟩ (Nat.le_of_ble_eq_true rfl) (z_kIv (I := I17) (fun I23 h => ?_))
        refine z_aload_n hC (q := 0) dX11_remember_86 rfl rfl ?_
        refine z_dup hC rfl dX11_remember_87 ?_
        refine gf_RX11_37 hC dX11_remember_88 hk11 ?_
        refine z_iconst hC (v := 1) k_iconst_1 dX11_remember_91 ?_
        refine z_iadd hC dX11_remember_92 ?_
        refine pf_RX11_37 hC dX11_remember_93 hk11 ?_
        refine z_genI (fun I24 eI24 => ?_)
        have h := h I24 eI24
        exact z_vret hC dX11_remember_96 ⟨rfl, rfl, rfl, h⟩
      · have h := h.2 hc
        refine z_aload_n hC (q := 0) dX11_remember_30 rfl rfl ?_
        refine gf_RX11_33 hC dX11_remember_31 hk11 hb12 ?_
        refine z_iload_n hC (q := 3) dX11_remember_34 rfl rfl ?_
        refine z_iconst hC (v := 1) k_iconst_1 dX11_remember_35 ?_
        refine z_isub hC dX11_remember_36 ?_
        refine z_aload_n hC (q := 0) dX11_remember_37 rfl rfl ?_
        refine gf_RX11_33 hC dX11_remember_38 hk11 hb12 ?_
        refine z_iload_n hC (q := 3) dX11_remember_41 rfl rfl ?_
        obtain ⟨hi25, h⟩ := h
        obtain ⟨b26, hb26, h⟩ := h
        refine z_aar17 hC hk13 hi25 hb26 dX11_remember_42 ?_
        obtain ⟨hi27, h⟩ := h
        obtain ⟨hk28, h⟩ := h
        refine z_aastore17 hC hk13 hi27 hk28 dX11_remember_43 ?_
        refine z_genR (fun R29 eR29 => ?_)
        have h := h R29 eR29
        obtain ⟨v30, ev30⟩ : ∃ y : Int32, y = x3 + 1 := ⟨_, rfl⟩
        have h := h v30 ev30
        refine z_iinc hC (q := 3) (v := v30) (lv1 := [(3, .int v30), (0, .ref x0), (1, .ref x1), (2, .ref x2)]) dX11_remember_44 rfl (by rw [ev30, k_iinc_1]) (by decide) rfl ?_
        refine z_goto hC (tgt := 21) dX11_remember_47 (by decide) ?_
        exact z_sub [(0, .ref x0), (1, .ref x1), (2, .ref x2), (3, .int v30)] [1, 2, 3, 0] rfl (hC21 _ _ _ _ _ _ _ h)
  exact key n x0 x1 x2 x3 I L R h0
set_option maxHeartbeats 4000000 in
set_option maxRecDepth 100000 in
theorem c_X11_remember  (l : Launch) (G : ZG) (a0 : Nat) (a1 : Nat) (K : MK) (N : MK) (I : MI) (L : ML) (R : MR) (Q : MI → ML → MR → Prop) (h : w_X11_remember a0 a1 K N I L R Q) : Met l yX11_remember (.code yX11_remember cX11_remember 4 none :: z_tbl) rm_X11_remember (z_Pc G [.ref a0, .ref a1] K N I L R) (z_Qc G (qRv K N Q)) 0 0 (z_A G) := by
  refine z_met (by decide) (Nat.le_of_ble_eq_true rfl) (fun X hX hRm hC0 hnm => ?_)
  subst hX
  have hC : ZOk X G RX11 cX11_remember 4 none := hC0
  show Z X G 4 0 0 _ K N I L R 0 [(0, .ref a0), (1, .ref a1)] []
  delta w_X11_remember at h
  refine z_aload_n hC (q := 0) dX11_remember_0 rfl rfl ?_
  obtain ⟨hk1, h⟩ := h
  refine gf_RX11_37 hC dX11_remember_1 hk1 ?_
  refine z_aload_n hC (q := 0) dX11_remember_4 rfl rfl ?_
  obtain ⟨b2, hb2, h⟩ := h
  refine gf_RX11_33 hC dX11_remember_5 hk1 hb2 ?_
  obtain ⟨hk3, h⟩ := h
  refine z_alen17 hC hk3 dX11_remember_8 ?_
  refine z_icmp_lt hC (tgt := 73) dX11_remember_9 (by decide) (fun hc => ?_) (fun hc => ?_)
  · have h := h.1 hc
    refine z_aload_n hC (q := 0) dX11_remember_73 rfl rfl ?_
    refine gf_RX11_33 hC dX11_remember_74 hk1 hb2 ?_
    refine z_aload_n hC (q := 0) dX11_remember_77 rfl rfl ?_
    refine gf_RX11_37 hC dX11_remember_78 hk1 ?_
    obtain ⟨hi4, h⟩ := h
    obtain ⟨b5, hb5, h⟩ := h
    refine z_aar17 hC hk3 hi4 hb5 dX11_remember_81 ?_
    refine z_aload_n hC (q := 1) dX11_remember_82 rfl rfl ?_
    obtain ⟨hk6, h⟩ := h
    refine cl_RX11_246 hC (c_X3_copyFrom _ G b5 a1 K N I L R _ h) hk6 dX11_remember_83 (by rw [hRm]; exact ⟨Nat.le_of_ble_eq_true rfl, Nat.le_of_ble_eq_true rfl⟩) ⟨Nat.zero_le _, Nat.zero_le _⟩ (Nat.le_of_ble_eq_true rfl) (z_kIv (I := I) (fun I7 h => ?_))
    refine z_aload_n hC (q := 0) dX11_remember_86 rfl rfl ?_
    refine z_dup hC rfl dX11_remember_87 ?_
    refine gf_RX11_37 hC dX11_remember_88 hk1 ?_
    refine z_iconst hC (v := 1) k_iconst_1 dX11_remember_91 ?_
    refine z_iadd hC dX11_remember_92 ?_
    refine pf_RX11_37 hC dX11_remember_93 hk1 ?_
    refine z_genI (fun I8 eI8 => ?_)
    have h := h I8 eI8
    exact z_vret hC dX11_remember_96 ⟨rfl, rfl, rfl, h⟩
  · have h := h.2 hc
    refine z_aload_n hC (q := 0) dX11_remember_12 rfl rfl ?_
    refine gf_RX11_33 hC dX11_remember_13 hk1 hb2 ?_
    refine z_iconst hC (v := 0) k_iconst_0 dX11_remember_16 ?_
    obtain ⟨hi9, h⟩ := h
    obtain ⟨b10, hb10, h⟩ := h
    refine z_aar17 hC hk3 hi9 hb10 dX11_remember_17 ?_
    refine z_astore_n hC (lv1 := [(2, .ref b10), (0, .ref a0), (1, .ref a1)]) dX11_remember_18 rfl (by decide) rfl ?_
    refine z_iconst hC (v := 1) k_iconst_1 dX11_remember_19 ?_
    refine z_istore_n hC (lv1 := [(3, .int 1), (2, .ref b10), (0, .ref a0), (1, .ref a1)]) dX11_remember_20 rfl (by decide) rfl ?_
    exact z_sub [(0, .ref a0), (1, .ref a1), (2, .ref b10), (3, .int 1)] [2, 3, 1, 0] rfl (z_X11_remember_21 hC hRm h)
def w_X11_act  (a0 : Nat) (a1 : Int32) (a2 : Int32) (a3 : Int32) (K : MK) (N : MK) (I : MI) (L : ML) (R : MR) (Q : Int32 → MI → ML → MR → Prop) : Prop := K a0 = 12 ∧ ∃ b2 : Nat, R a0 3 = some b2 ∧ ∃ b3 : Nat, R a0 2 = some b3 ∧ K b2 = 4 ∧ w_X3_copyFrom b2 b3 K N I L R (fun I5 => ∃ b6 : Nat, R a0 1 = some b6 ∧ K b3 = 4 ∧ w_X3_perform b3 b6 a1 a2 a3 K N I5 L R (fun r8 I9 => (¬ r8 = 0 → Q r8 I9 L R) ∧ (r8 = 0 → w_X11_remember a0 b2 K N I9 L R (fun I10 L11 R12 => Q r8 I10 L11 R12))))
set_option maxHeartbeats 4000000 in
set_option maxRecDepth 100000 in
theorem c_X11_act  (l : Launch) (G : ZG) (a0 : Nat) (a1 : Int32) (a2 : Int32) (a3 : Int32) (K : MK) (N : MK) (I : MI) (L : ML) (R : MR) (Q : Int32 → MI → ML → MR → Prop) (h : w_X11_act a0 a1 a2 a3 K N I L R Q) : Met l yX11_act (.code yX11_act cX11_act 5 (some .int) :: z_tbl) rm_X11_act (z_Pc G [.ref a0, .int a1, .int a2, .int a3] K N I L R) (z_Qc G (qRi K N Q)) 0 0 (z_A G) := by
  refine z_met (by decide) (Nat.le_of_ble_eq_true rfl) (fun X hX hRm hC0 hnm => ?_)
  subst hX
  have hC : ZOk X G RX11 cX11_act 5 (some .int) := hC0
  show Z X G 5 0 0 _ K N I L R 0 [(0, .ref a0), (1, .int a1), (2, .int a2), (3, .int a3)] []
  delta w_X11_act at h
  refine z_aload_n hC (q := 0) dX11_act_0 rfl rfl ?_
  obtain ⟨hk1, h⟩ := h
  obtain ⟨b2, hb2, h⟩ := h
  refine gf_RX11_30 hC dX11_act_1 hk1 hb2 ?_
  refine z_aload_n hC (q := 0) dX11_act_4 rfl rfl ?_
  obtain ⟨b3, hb3, h⟩ := h
  refine gf_RX11_26 hC dX11_act_5 hk1 hb3 ?_
  obtain ⟨hk4, h⟩ := h
  refine cl_RX11_246 hC (c_X3_copyFrom _ G b2 b3 K N I L R _ h) hk4 dX11_act_8 (by rw [hRm]; exact ⟨Nat.le_of_ble_eq_true rfl, Nat.le_of_ble_eq_true rfl⟩) ⟨Nat.zero_le _, Nat.zero_le _⟩ (Nat.le_of_ble_eq_true rfl) (z_kIv (I := I) (fun I5 h => ?_))
  refine z_aload_n hC (q := 0) dX11_act_11 rfl rfl ?_
  refine gf_RX11_26 hC dX11_act_12 hk1 hb3 ?_
  refine z_aload_n hC (q := 0) dX11_act_15 rfl rfl ?_
  obtain ⟨b6, hb6, h⟩ := h
  refine gf_RX11_19 hC dX11_act_16 hk1 hb6 ?_
  refine z_iload_n hC (q := 1) dX11_act_19 rfl rfl ?_
  refine z_iload_n hC (q := 2) dX11_act_20 rfl rfl ?_
  refine z_iload_n hC (q := 3) dX11_act_21 rfl rfl ?_
  obtain ⟨hk7, h⟩ := h
  refine cl_RX11_249 hC (c_X3_perform _ G b3 b6 a1 a2 a3 K N I5 L R _ h) hk7 dX11_act_22 (by rw [hRm]; exact ⟨Nat.le_of_ble_eq_true rfl, Nat.le_of_ble_eq_true rfl⟩) ⟨Nat.zero_le _, Nat.zero_le _⟩ (Nat.le_of_ble_eq_true rfl) (z_kIi (I := I5) (fun r8 I9 h => ?_))
  refine z_istore hC (lv1 := [(4, .int r8), (0, .ref a0), (1, .int a1), (2, .int a2), (3, .int a3)]) dX11_act_25 (by decide) rfl ?_
  refine z_iload hC (q := 0) dX11_act_27 rfl ?_
  refine z_if_ne hC (tgt := 40) dX11_act_29 (by decide) (fun hc => ?_) (fun hc => ?_)
  · have h := h.1 hc
    refine z_iload hC (q := 0) dX11_act_40 rfl ?_
    exact z_iret hC dX11_act_42 ⟨_, rfl, rfl, rfl, h⟩
  · have h := h.2 hc
    refine z_aload_n hC (q := 1) dX11_act_32 rfl rfl ?_
    refine z_aload_n hC (q := 1) dX11_act_33 rfl rfl ?_
    refine gf_RX11_30 hC dX11_act_34 hk1 hb2 ?_
    refine cl_RX11_253 hC (c_X11_remember _ G a0 b2 K N I9 L R _ h) hk1 dX11_act_37 (by rw [hRm]; exact ⟨Nat.le_of_ble_eq_true rfl, Nat.le_of_ble_eq_true rfl⟩) ⟨Nat.zero_le _, Nat.zero_le _⟩ (Nat.le_of_ble_eq_true rfl) (z_kRv (I := I9) (L := L) (R := R) (fun I10 L11 R12 h => ?_))
    refine z_iload hC (q := 0) dX11_act_40 rfl ?_
    exact z_iret hC dX11_act_42 ⟨_, rfl, rfl, rfl, h⟩
def w_X11_set  (a0 : Nat) (a1 : Int32) (a2 : Int32) (K : MK) (N : MK) (I : MI) (L : ML) (R : MR) (Q : Int32 → MI → ML → MR → Prop) : Prop := w_X11_isIn a1 0 7 K N I L R (fun r1 => (r1 = false → Q (-1) I L R) ∧ (r1 = true → w_X11_isIn a2 0 65535 K N I L R (fun r2 => (r2 = false → Q (-1) I L R) ∧ (r2 = true → K a0 = 12 ∧ w_X11_act a0 17 a1 a2 K N I L R (fun r4 I5 L6 R7 => Q r4 I5 L6 R7)))))
set_option maxHeartbeats 4000000 in
set_option maxRecDepth 100000 in
theorem c_X11_set  (l : Launch) (G : ZG) (a0 : Nat) (a1 : Int32) (a2 : Int32) (K : MK) (N : MK) (I : MI) (L : ML) (R : MR) (Q : Int32 → MI → ML → MR → Prop) (h : w_X11_set a0 a1 a2 K N I L R Q) : Met l yX11_set (.code yX11_set cX11_set 3 (some .int) :: z_tbl) rm_X11_set (z_Pc G [.ref a0, .int a1, .int a2] K N I L R) (z_Qc G (qRi K N Q)) 0 0 (z_A G) := by
  refine z_met (by decide) (Nat.le_of_ble_eq_true rfl) (fun X hX hRm hC0 hnm => ?_)
  subst hX
  have hC : ZOk X G RX11 cX11_set 3 (some .int) := hC0
  show Z X G 3 0 0 _ K N I L R 0 [(0, .ref a0), (1, .int a1), (2, .int a2)] []
  delta w_X11_set at h
  refine z_iload_n hC (q := 1) dX11_set_0 rfl rfl ?_
  refine z_iconst hC (v := 0) k_iconst_0 dX11_set_1 ?_
  refine z_bipush hC (v := 7) k_bipush_7 dX11_set_2 ?_
  refine cl_RX11_237 hC (c_X11_isIn _ G a1 0 7 K N I L R _ h) dX11_set_4 (by rw [hRm]; exact ⟨Nat.le_of_ble_eq_true rfl, Nat.le_of_ble_eq_true rfl⟩) ⟨Nat.zero_le _, Nat.zero_le _⟩ (Nat.le_of_ble_eq_true rfl) (z_kPz (fun r1 h => ?_))
  refine z_ifz_eq hC (tgt := 31) dX11_set_7 (by decide) (fun hc => ?_) (fun hc => ?_)
  · have h := h.1 hc
    refine z_iconst hC (v := (-1)) k_iconst_m1 dX11_set_31 ?_
    exact z_iret hC dX11_set_32 ⟨_, rfl, rfl, rfl, h⟩
  · have h := h.2 hc
    refine z_iload_n hC (q := 2) dX11_set_10 rfl rfl ?_
    refine z_iconst hC (v := 0) k_iconst_0 dX11_set_11 ?_
    refine z_ldc hC cst_RX11_241 dX11_set_12 ?_
    refine cl_RX11_237 hC (c_X11_isIn _ G a2 0 65535 K N I L R _ h) dX11_set_14 (by rw [hRm]; exact ⟨Nat.le_of_ble_eq_true rfl, Nat.le_of_ble_eq_true rfl⟩) ⟨Nat.zero_le _, Nat.zero_le _⟩ (Nat.le_of_ble_eq_true rfl) (z_kPz (fun r2 h => ?_))
    refine z_ifz_eq hC (tgt := 31) dX11_set_17 (by decide) (fun hc => ?_) (fun hc => ?_)
    · have h := h.1 hc
      refine z_iconst hC (v := (-1)) k_iconst_m1 dX11_set_31 ?_
      exact z_iret hC dX11_set_32 ⟨_, rfl, rfl, rfl, h⟩
    · have h := h.2 hc
      refine z_aload_n hC (q := 0) dX11_set_20 rfl rfl ?_
      refine z_bipush hC (v := 17) k_bipush_17 dX11_set_21 ?_
      refine z_iload_n hC (q := 1) dX11_set_23 rfl rfl ?_
      refine z_iload_n hC (q := 2) dX11_set_24 rfl rfl ?_
      obtain ⟨hk3, h⟩ := h
      refine cl_RX11_242 hC (c_X11_act _ G a0 17 a1 a2 K N I L R _ h) hk3 dX11_set_25 (by rw [hRm]; exact ⟨Nat.le_of_ble_eq_true rfl, Nat.le_of_ble_eq_true rfl⟩) ⟨Nat.zero_le _, Nat.zero_le _⟩ (Nat.le_of_ble_eq_true rfl) (z_kRi (I := I) (L := L) (R := R) (fun r4 I5 L6 R7 h => ?_))
      refine z_goto hC (tgt := 32) dX11_set_28 (by decide) ?_
      exact z_iret hC dX11_set_32 ⟨_, rfl, rfl, rfl, h⟩
def w_X11_poke  (a0 : Nat) (a1 : Int32) (a2 : Int32) (K : MK) (N : MK) (I : MI) (L : ML) (R : MR) (Q : Int32 → MI → ML → MR → Prop) : Prop := w_X11_isIn a1 0 63 K N I L R (fun r1 => (r1 = false → Q (-1) I L R) ∧ (r1 = true → w_X11_isIn a2 0 65535 K N I L R (fun r2 => (r2 = false → Q (-1) I L R) ∧ (r2 = true → K a0 = 12 ∧ w_X11_act a0 18 a1 a2 K N I L R (fun r4 I5 L6 R7 => Q r4 I5 L6 R7)))))
set_option maxHeartbeats 4000000 in
set_option maxRecDepth 100000 in
theorem c_X11_poke  (l : Launch) (G : ZG) (a0 : Nat) (a1 : Int32) (a2 : Int32) (K : MK) (N : MK) (I : MI) (L : ML) (R : MR) (Q : Int32 → MI → ML → MR → Prop) (h : w_X11_poke a0 a1 a2 K N I L R Q) : Met l yX11_poke (.code yX11_poke cX11_poke 3 (some .int) :: z_tbl) rm_X11_poke (z_Pc G [.ref a0, .int a1, .int a2] K N I L R) (z_Qc G (qRi K N Q)) 0 0 (z_A G) := by
  refine z_met (by decide) (Nat.le_of_ble_eq_true rfl) (fun X hX hRm hC0 hnm => ?_)
  subst hX
  have hC : ZOk X G RX11 cX11_poke 3 (some .int) := hC0
  show Z X G 3 0 0 _ K N I L R 0 [(0, .ref a0), (1, .int a1), (2, .int a2)] []
  delta w_X11_poke at h
  refine z_iload_n hC (q := 1) dX11_poke_0 rfl rfl ?_
  refine z_iconst hC (v := 0) k_iconst_0 dX11_poke_1 ?_
  refine z_bipush hC (v := 63) k_bipush_63 dX11_poke_2 ?_
  refine cl_RX11_237 hC (c_X11_isIn _ G a1 0 63 K N I L R _ h) dX11_poke_4 (by rw [hRm]; exact ⟨Nat.le_of_ble_eq_true rfl, Nat.le_of_ble_eq_true rfl⟩) ⟨Nat.zero_le _, Nat.zero_le _⟩ (Nat.le_of_ble_eq_true rfl) (z_kPz (fun r1 h => ?_))
  refine z_ifz_eq hC (tgt := 31) dX11_poke_7 (by decide) (fun hc => ?_) (fun hc => ?_)
  · have h := h.1 hc
    refine z_iconst hC (v := (-1)) k_iconst_m1 dX11_poke_31 ?_
    exact z_iret hC dX11_poke_32 ⟨_, rfl, rfl, rfl, h⟩
  · have h := h.2 hc
    refine z_iload_n hC (q := 2) dX11_poke_10 rfl rfl ?_
    refine z_iconst hC (v := 0) k_iconst_0 dX11_poke_11 ?_
    refine z_ldc hC cst_RX11_241 dX11_poke_12 ?_
    refine cl_RX11_237 hC (c_X11_isIn _ G a2 0 65535 K N I L R _ h) dX11_poke_14 (by rw [hRm]; exact ⟨Nat.le_of_ble_eq_true rfl, Nat.le_of_ble_eq_true rfl⟩) ⟨Nat.zero_le _, Nat.zero_le _⟩ (Nat.le_of_ble_eq_true rfl) (z_kPz (fun r2 h => ?_))
    refine z_ifz_eq hC (tgt := 31) dX11_poke_17 (by decide) (fun hc => ?_) (fun hc => ?_)
    · have h := h.1 hc
      refine z_iconst hC (v := (-1)) k_iconst_m1 dX11_poke_31 ?_
      exact z_iret hC dX11_poke_32 ⟨_, rfl, rfl, rfl, h⟩
    · have h := h.2 hc
      refine z_aload_n hC (q := 0) dX11_poke_20 rfl rfl ?_
      refine z_bipush hC (v := 18) k_bipush_18 dX11_poke_21 ?_
      refine z_iload_n hC (q := 1) dX11_poke_23 rfl rfl ?_
      refine z_iload_n hC (q := 2) dX11_poke_24 rfl rfl ?_
      obtain ⟨hk3, h⟩ := h
      refine cl_RX11_242 hC (c_X11_act _ G a0 18 a1 a2 K N I L R _ h) hk3 dX11_poke_25 (by rw [hRm]; exact ⟨Nat.le_of_ble_eq_true rfl, Nat.le_of_ble_eq_true rfl⟩) ⟨Nat.zero_le _, Nat.zero_le _⟩ (Nat.le_of_ble_eq_true rfl) (z_kRi (I := I) (L := L) (R := R) (fun r4 I5 L6 R7 h => ?_))
      refine z_goto hC (tgt := 32) dX11_poke_28 (by decide) ?_
      exact z_iret hC dX11_poke_32 ⟨_, rfl, rfl, rfl, h⟩
def w_X11_go  (a0 : Nat) (a1 : Int32) (K : MK) (N : MK) (I : MI) (L : ML) (R : MR) (Q : Int32 → MI → ML → MR → Prop) : Prop := K a0 = 12 ∧ ∃ b2 : Nat, R a0 1 = some b2 ∧ K b2 = 10 ∧ w_X9_hasAddress b2 a1 K N I L R (fun r4 => (r4 = false → Q (-1) I L R) ∧ (r4 = true → w_X11_act a0 19 a1 0 K N I L R (fun r5 I6 L7 R8 => Q r5 I6 L7 R8)))
set_option maxHeartbeats 4000000 in
set_option maxRecDepth 100000 in
theorem c_X11_go  (l : Launch) (G : ZG) (a0 : Nat) (a1 : Int32) (K : MK) (N : MK) (I : MI) (L : ML) (R : MR) (Q : Int32 → MI → ML → MR → Prop) (h : w_X11_go a0 a1 K N I L R Q) : Met l yX11_go (.code yX11_go cX11_go 2 (some .int) :: z_tbl) rm_X11_go (z_Pc G [.ref a0, .int a1] K N I L R) (z_Qc G (qRi K N Q)) 0 0 (z_A G) := by
  refine z_met (by decide) (Nat.le_of_ble_eq_true rfl) (fun X hX hRm hC0 hnm => ?_)
  subst hX
  have hC : ZOk X G RX11 cX11_go 2 (some .int) := hC0
  show Z X G 2 0 0 _ K N I L R 0 [(0, .ref a0), (1, .int a1)] []
  delta w_X11_go at h
  refine z_aload_n hC (q := 0) dX11_go_0 rfl rfl ?_
  obtain ⟨hk1, h⟩ := h
  obtain ⟨b2, hb2, h⟩ := h
  refine gf_RX11_19 hC dX11_go_1 hk1 hb2 ?_
  refine z_iload_n hC (q := 1) dX11_go_4 rfl rfl ?_
  obtain ⟨hk3, h⟩ := h
  refine cl_RX11_192 hC (c_X9_hasAddress _ G b2 a1 K N I L R _ h) hk3 dX11_go_5 (by rw [hRm]; exact ⟨Nat.le_of_ble_eq_true rfl, Nat.le_of_ble_eq_true rfl⟩) ⟨Nat.zero_le _, Nat.zero_le _⟩ (Nat.le_of_ble_eq_true rfl) (z_kPz (fun r4 h => ?_))
  refine z_ifz_eq hC (tgt := 22) dX11_go_8 (by decide) (fun hc => ?_) (fun hc => ?_)
  · have h := h.1 hc
    refine z_iconst hC (v := (-1)) k_iconst_m1 dX11_go_22 ?_
    exact z_iret hC dX11_go_23 ⟨_, rfl, rfl, rfl, h⟩
  · have h := h.2 hc
    refine z_aload_n hC (q := 0) dX11_go_11 rfl rfl ?_
    refine z_bipush hC (v := 19) k_bipush_19 dX11_go_12 ?_
    refine z_iload_n hC (q := 1) dX11_go_14 rfl rfl ?_
    refine z_iconst hC (v := 0) k_iconst_0 dX11_go_15 ?_
    refine cl_RX11_242 hC (c_X11_act _ G a0 19 a1 0 K N I L R _ h) hk1 dX11_go_16 (by rw [hRm]; exact ⟨Nat.le_of_ble_eq_true rfl, Nat.le_of_ble_eq_true rfl⟩) ⟨Nat.zero_le _, Nat.zero_le _⟩ (Nat.le_of_ble_eq_true rfl) (z_kRi (I := I) (L := L) (R := R) (fun r5 I6 L7 R8 h => ?_))
    refine z_goto hC (tgt := 23) dX11_go_19 (by decide) ?_
    exact z_iret hC dX11_go_23 ⟨_, rfl, rfl, rfl, h⟩
