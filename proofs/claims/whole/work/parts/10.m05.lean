def w_X12_chain_33  (x0 : Nat) (x1 : Int32) (x2 : Int32) (x3 : Int32)  (K : MK) (N : MK) (I : MI) (L : ML) (R : MR)  (Q : Int32 → MI → Prop) : Prop := ∃ J : Nat → Nat → Int32 → Int32 → Int32 → MI → Prop, (∃ n, J n x0 x1 x2 x3 I) ∧ ∀ (n : Nat) (x0 : Nat) (x1 : Int32) (x2 : Int32) (x3 : Int32) (I : MI), J n x0 x1 x2 x3 I → (x3 = (-1) → K x0 = 13 ∧ Q (I x0 28) I) ∧ (¬ x3 = (-1) → K x0 = 13 ∧ ∃ b9 : Nat, R x0 26 = some b9 ∧ K b9 = 14 ∧ vp_in (I x0 28) (N b9) ∧ ∀ I12 : MI, I12 = mup I b9 (ix (I x0 28)) x3 → ∃ b13 : Nat, R x0 27 = some b13 ∧ K b13 = 14 ∧ vp_in (I12 x0 28) (N b13) ∧ ∀ I16 : MI, I16 = mup I12 b13 (ix (I12 x0 28)) x2 → ∃ b17 : Nat, R x0 14 = some b17 ∧ K b17 = 14 ∧ vp_in ((86 : Int32) + x3) (N b17) ∧ ∀ v20 : Int32, v20 = (I16 b17 (ix ((86 : Int32) + x3))) → ∀ I21 : MI, I21 = mup I16 x0 28 ((I16 x0 28) + 1) → w_X12_nextInChain x0 x1 x3 K N I21 L R (fun r22 => ∃ n1, n1 < n ∧ J n1 x0 x1 v20 r22 I21))
def w_X12_chain  (a0 : Nat) (a1 : Int32) (K : MK) (N : MK) (I : MI) (L : ML) (R : MR) (Q : Int32 → MI → Prop) : Prop := K a0 = 13 ∧ ∀ I2 : MI, I2 = mup I a0 0 0 → w_X12_isAddress a0 a1 K N I2 L R (fun r3 => (r3 = true → ∀ I4 : MI, I4 = mup I2 a0 28 0 → w_X12_lineOf a0 a1 K N I4 L R (fun r5 => w_X12_nextInChain a0 a1 (-1) K N I4 L R (fun r6 => w_X12_chain_33 a0 a1 r5 r6 K N I4 L R Q))) ∧ (r3 = false → Q (-1) I2))
set_option maxHeartbeats 4000000 in
set_option maxRecDepth 100000 in
theorem z_X12_chain_33 {X : ZX} {G : ZG}  {x0 : Nat} {x1 : Int32} {x2 : Int32} {x3 : Int32}  {K : MK} {N : MK} {I : MI} {L : ML} {R : MR}  {Q : Int32 → MI → Prop} (hC : ZOk X G RX12 cX12_chain 4 (some .int)) (hRm : X.2.2.2.1 = rm_X12_chain) (h : w_X12_chain_33 x0 x1 x2 x3 K N I L R  Q) : Z X G 4 0 0 (z_T X G (qIi K N L R Q) 0 0) K N I L R 33 [(0, .ref x0), (1, .int x1), (2, .int x2), (3, .int x3)] [] := by
  delta w_X12_chain_33 at h
  obtain ⟨J, ⟨n, h0⟩, hs⟩ := h
  have key : ∀ (n : Nat) (x0 : Nat) (x1 : Int32) (x2 : Int32) (x3 : Int32) (I : MI), J n x0 x1 x2 x3 I → Z X G 4 0 0 (z_T X G (qIi K N L R Q) 0 0) K N I L R 33 [(0, .ref x0), (1, .int x1), (2, .int x2), (3, .int x3)] [] := by
    intro n
    induction n using Nat.strongRecOn with
    | _ n ih =>
      intro x0 x1 x2 x3 I hJ
      have hC33 : ∀ (y0 : Nat) (y1 : Int32) (y2 : Int32) (y3 : Int32) (zI : MI), (∃ n1, n1 < n ∧ J n1 y0 y1 y2 y3 zI) → Z X G 4 0 0 (z_T X G (qIi K N L R Q) 0 0) K N zI L R 33 [(0, .ref y0), (1, .int y1), (2, .int y2), (3, .int y3)] [] := fun y0 y1 y2 y3 zI ⟨n1, hn1, hj⟩ => ih n1 hn1 y0 y1 y2 y3 zI hj
      have h := hs n x0 x1 x2 x3 I hJ
      refine z_iload_n hC (q := 3) dX12_chain_33 rfl rfl ?_
      refine z_iconst hC (v := (-1)) k_iconst_m1 dX12_chain_34 ?_
      refine z_icmp_eq hC (tgt := 88) dX12_chain_35 (by decide) (fun hc => ?_) (fun hc => ?_)
      · have h := h.1 hc
        refine z_aload_n hC (q := 0) dX12_chain_88 rfl rfl ?_
        obtain ⟨hk7, h⟩ := h
        refine gf_RX12_292 hC dX12_chain_89 hk7 ?_
        exact z_iret hC dX12_chain_92 ⟨_, rfl, rfl, rfl, rfl, rfl, h⟩
      · have h := h.2 hc
        refine z_aload_n hC (q := 0) dX12_chain_38 rfl rfl ?_
        obtain ⟨hk8, h⟩ := h
        obtain ⟨b9, hb9, h⟩ := h
        refine gf_RX12_130 hC dX12_chain_39 hk8 hb9 ?_
        refine z_aload_n hC (q := 0) dX12_chain_42 rfl rfl ?_
        refine gf_RX12_292 hC dX12_chain_43 hk8 ?_
        refine z_iload_n hC (q := 3) dX12_chain_46 rfl rfl ?_
        obtain ⟨hk10, h⟩ := h
        obtain ⟨hi11, h⟩ := h
        refine z_iastore hC hk10 hi11 dX12_chain_47 ?_
        refine z_genI (fun I12 eI12 => ?_)
        have h := h I12 eI12
        refine z_aload_n hC (q := 0) dX12_chain_48 rfl rfl ?_
        obtain ⟨b13, hb13, h⟩ := h
        refine gf_RX12_133 hC dX12_chain_49 hk8 hb13 ?_
        refine z_aload_n hC (q := 0) dX12_chain_52 rfl rfl ?_
        refine gf_RX12_292 hC dX12_chain_53 hk8 ?_
        refine z_iload_n hC (q := 2) dX12_chain_56 rfl rfl ?_
        obtain ⟨hk14, h⟩ := h
        obtain ⟨hi15, h⟩ := h
        refine z_iastore hC hk14 hi15 dX12_chain_57 ?_
        refine z_genI (fun I16 eI16 => ?_)
        have h := h I16 eI16
        refine z_aload_n hC (q := 0) dX12_chain_58 rfl rfl ?_
        obtain ⟨b17, hb17, h⟩ := h
        refine gf_RX12_98 hC dX12_chain_59 hk8 hb17 ?_
        refine z_bipush hC (v := 86) k_bipush_86 dX12_chain_62 ?_
        refine z_iload_n hC (q := 3) dX12_chain_64 rfl rfl ?_
        refine z_iadd hC dX12_chain_65 ?_
        obtain ⟨hk18, h⟩ := h
        obtain ⟨hi19, h⟩ := h
        refine z_iaload hC hk18 hi19 dX12_chain_66 ?_
        refine z_topi (fun v20 ev20 => ?_)
        have h := h v20 ev20
        refine z_istore_n hC (lv1 := [(2, .int v20), (0, .ref x0), (1, .int x1), (3, .int x3)]) dX12_chain_67 rfl (by decide) rfl ?_
        refine z_aload_n hC (q := 1) dX12_chain_68 rfl rfl ?_
        refine z_dup hC rfl dX12_chain_69 ?_
        refine gf_RX12_292 hC dX12_chain_70 hk8 ?_
        refine z_iconst hC (v := 1) k_iconst_1 dX12_chain_73 ?_
        refine z_iadd hC dX12_chain_74 ?_
        refine pf_RX12_292 hC dX12_chain_75 hk8 ?_
        refine z_genI (fun I21 eI21 => ?_)
        have h := h I21 eI21
        refine z_aload_n hC (q := 1) dX12_chain_78 rfl rfl ?_
        refine z_iload_n hC (q := 2) dX12_chain_79 rfl rfl ?_
        refine z_iload_n hC (q := 3) dX12_chain_80 rfl rfl ?_
        refine cl_RX12_282 hC (c_X12_nextInChain _ G x0 x1 x3 K N I21 L R _ h) hk8 dX12_chain_81 (by rw [hRm]; exact ⟨Nat.le_of_ble_eq_true rfl, Nat.le_of_ble_eq_true rfl⟩) ⟨Nat.zero_le _, Nat.zero_le _⟩ (Nat.le_of_ble_eq_true rfl) (z_kPi (fun r22 h => ?_))
        refine z_istore_n hC (lv1 := [(3, .int r22), (2, .int v20), (0, .ref x0), (1, .int x1)]) dX12_chain_84 rfl (by decide) rfl ?_
        refine z_goto hC (tgt := 33) dX12_chain_85 (by decide) ?_
        exact z_sub [(0, .ref x0), (1, .int x1), (2, .int v20), (3, .int r22)] [2, 3, 1, 0] rfl (hC33 _ _ _ _ _ h)
  exact key n x0 x1 x2 x3 I h0
set_option maxHeartbeats 4000000 in
set_option maxRecDepth 100000 in
theorem c_X12_chain  (l : Launch) (G : ZG) (a0 : Nat) (a1 : Int32) (K : MK) (N : MK) (I : MI) (L : ML) (R : MR) (Q : Int32 → MI → Prop) (h : w_X12_chain a0 a1 K N I L R Q) : Met l yX12_chain (.code yX12_chain cX12_chain 4 (some .int) :: z_tbl) rm_X12_chain (z_Pc G [.ref a0, .int a1] K N I L R) (z_Qc G (qIi K N L R Q)) 0 0 (z_A G) := by
  refine z_met (by decide) (Nat.le_of_ble_eq_true rfl) (fun X hX hRm hC0 hnm => ?_)
  subst hX
  have hC : ZOk X G RX12 cX12_chain 4 (some .int) := hC0
  show Z X G 4 0 0 _ K N I L R 0 [(0, .ref a0), (1, .int a1)] []
  delta w_X12_chain at h
  refine z_aload_n hC (q := 0) dX12_chain_0 rfl rfl ?_
  refine z_iconst hC (v := 0) k_iconst_0 dX12_chain_1 ?_
  obtain ⟨hk1, h⟩ := h
  refine pf_RX12_1 hC dX12_chain_2 hk1 ?_
  refine z_genI (fun I2 eI2 => ?_)
  have h := h I2 eI2
  refine z_aload_n hC (q := 0) dX12_chain_5 rfl rfl ?_
  refine z_iload_n hC (q := 1) dX12_chain_6 rfl rfl ?_
  refine cl_RX12_267 hC (c_X12_isAddress _ G a0 a1 K N I2 L R _ h) hk1 dX12_chain_7 (by rw [hRm]; exact ⟨Nat.le_of_ble_eq_true rfl, Nat.le_of_ble_eq_true rfl⟩) ⟨Nat.zero_le _, Nat.zero_le _⟩ (Nat.le_of_ble_eq_true rfl) (z_kPz (fun r3 h => ?_))
  refine z_ifz_ne hC (tgt := 15) dX12_chain_10 (by decide) (fun hc => ?_) (fun hc => ?_)
  · have h := h.1 hc
    refine z_aload_n hC (q := 0) dX12_chain_15 rfl rfl ?_
    refine z_iconst hC (v := 0) k_iconst_0 dX12_chain_16 ?_
    refine pf_RX12_292 hC dX12_chain_17 hk1 ?_
    refine z_genI (fun I4 eI4 => ?_)
    have h := h I4 eI4
    refine z_aload_n hC (q := 0) dX12_chain_20 rfl rfl ?_
    refine z_iload_n hC (q := 1) dX12_chain_21 rfl rfl ?_
    refine cl_RX12_270 hC (c_X12_lineOf _ G a0 a1 K N I4 L R _ h) hk1 dX12_chain_22 (by rw [hRm]; exact ⟨Nat.le_of_ble_eq_true rfl, Nat.le_of_ble_eq_true rfl⟩) ⟨Nat.zero_le _, Nat.zero_le _⟩ (Nat.le_of_ble_eq_true rfl) (z_kPi (fun r5 h => ?_))
    refine z_istore_n hC (lv1 := [(2, .int r5), (0, .ref a0), (1, .int a1)]) dX12_chain_25 rfl (by decide) rfl ?_
    refine z_aload_n hC (q := 1) dX12_chain_26 rfl rfl ?_
    refine z_iload_n hC (q := 2) dX12_chain_27 rfl rfl ?_
    refine z_iconst hC (v := (-1)) k_iconst_m1 dX12_chain_28 ?_
    refine cl_RX12_282 hC (c_X12_nextInChain _ G a0 a1 (-1) K N I4 L R _ h) hk1 dX12_chain_29 (by rw [hRm]; exact ⟨Nat.le_of_ble_eq_true rfl, Nat.le_of_ble_eq_true rfl⟩) ⟨Nat.zero_le _, Nat.zero_le _⟩ (Nat.le_of_ble_eq_true rfl) (z_kPi (fun r6 h => ?_))
    refine z_istore_n hC (lv1 := [(3, .int r6), (2, .int r5), (0, .ref a0), (1, .int a1)]) dX12_chain_32 rfl (by decide) rfl ?_
    exact z_sub [(0, .ref a0), (1, .int a1), (2, .int r5), (3, .int r6)] [2, 3, 1, 0] rfl (z_X12_chain_33 hC hRm h)
  · have h := h.2 hc
    refine z_iconst hC (v := (-1)) k_iconst_m1 dX12_chain_13 ?_
    exact z_iret hC dX12_chain_14 ⟨_, rfl, rfl, rfl, rfl, rfl, h⟩
def w_X12_chainAt  (a0 : Nat) (a1 : Int32) (K : MK) (N : MK) (I : MI) (L : ML) (R : MR) (Q : Int32 → MI → Prop) : Prop := K a0 = 13 ∧ ∀ I2 : MI, I2 = mup I a0 0 0 → w_X12_isIn a1 0 ((I2 a0 28) - 1) K N I2 L R (fun r3 => (r3 = false → Q (-1) I2) ∧ (r3 = true → ∃ b4 : Nat, R a0 26 = some b4 ∧ K b4 = 14 ∧ vp_in a1 (N b4) ∧ Q (I2 b4 (ix a1)) I2))
set_option maxHeartbeats 4000000 in
set_option maxRecDepth 100000 in
theorem c_X12_chainAt  (l : Launch) (G : ZG) (a0 : Nat) (a1 : Int32) (K : MK) (N : MK) (I : MI) (L : ML) (R : MR) (Q : Int32 → MI → Prop) (h : w_X12_chainAt a0 a1 K N I L R Q) : Met l yX12_chainAt (.code yX12_chainAt cX12_chainAt 2 (some .int) :: z_tbl) rm_X12_chainAt (z_Pc G [.ref a0, .int a1] K N I L R) (z_Qc G (qIi K N L R Q)) 0 0 (z_A G) := by
  refine z_met (by decide) (Nat.le_of_ble_eq_true rfl) (fun X hX hRm hC0 hnm => ?_)
  subst hX
  have hC : ZOk X G RX12 cX12_chainAt 2 (some .int) := hC0
  show Z X G 2 0 0 _ K N I L R 0 [(0, .ref a0), (1, .int a1)] []
  delta w_X12_chainAt at h
  refine z_aload_n hC (q := 0) dX12_chainAt_0 rfl rfl ?_
  refine z_iconst hC (v := 0) k_iconst_0 dX12_chainAt_1 ?_
  obtain ⟨hk1, h⟩ := h
  refine pf_RX12_1 hC dX12_chainAt_2 hk1 ?_
  refine z_genI (fun I2 eI2 => ?_)
  have h := h I2 eI2
  refine z_iload_n hC (q := 1) dX12_chainAt_5 rfl rfl ?_
  refine z_iconst hC (v := 0) k_iconst_0 dX12_chainAt_6 ?_
  refine z_aload_n hC (q := 0) dX12_chainAt_7 rfl rfl ?_
  refine gf_RX12_292 hC dX12_chainAt_8 hk1 ?_
  refine z_iconst hC (v := 1) k_iconst_1 dX12_chainAt_11 ?_
  refine z_isub hC dX12_chainAt_12 ?_
  refine cl_RX12_75 hC (c_X12_isIn _ G a1 0 ((I2 a0 28) - 1) K N I2 L R _ h) dX12_chainAt_13 (by rw [hRm]; exact ⟨Nat.le_of_ble_eq_true rfl, Nat.le_of_ble_eq_true rfl⟩) ⟨Nat.zero_le _, Nat.zero_le _⟩ (Nat.le_of_ble_eq_true rfl) (z_kPz (fun r3 h => ?_))
  refine z_ifz_eq hC (tgt := 28) dX12_chainAt_16 (by decide) (fun hc => ?_) (fun hc => ?_)
  · have h := h.1 hc
    refine z_iconst hC (v := (-1)) k_iconst_m1 dX12_chainAt_28 ?_
    exact z_iret hC dX12_chainAt_29 ⟨_, rfl, rfl, rfl, rfl, rfl, h⟩
  · have h := h.2 hc
    refine z_aload_n hC (q := 0) dX12_chainAt_19 rfl rfl ?_
    obtain ⟨b4, hb4, h⟩ := h
    refine gf_RX12_130 hC dX12_chainAt_20 hk1 hb4 ?_
    refine z_iload_n hC (q := 1) dX12_chainAt_23 rfl rfl ?_
    obtain ⟨hk5, h⟩ := h
    obtain ⟨hi6, h⟩ := h
    refine z_iaload hC hk5 hi6 dX12_chainAt_24 ?_
    refine z_goto hC (tgt := 29) dX12_chainAt_25 (by decide) ?_
    exact z_iret hC dX12_chainAt_29 ⟨_, rfl, rfl, rfl, rfl, rfl, h⟩
def w_X12_chainLine  (a0 : Nat) (a1 : Int32) (K : MK) (N : MK) (I : MI) (L : ML) (R : MR) (Q : Int32 → MI → Prop) : Prop := K a0 = 13 ∧ ∀ I2 : MI, I2 = mup I a0 0 0 → w_X12_isIn a1 0 ((I2 a0 28) - 1) K N I2 L R (fun r3 => (r3 = false → Q (-1) I2) ∧ (r3 = true → ∃ b4 : Nat, R a0 27 = some b4 ∧ K b4 = 14 ∧ vp_in a1 (N b4) ∧ Q (I2 b4 (ix a1)) I2))
set_option maxHeartbeats 4000000 in
set_option maxRecDepth 100000 in
theorem c_X12_chainLine  (l : Launch) (G : ZG) (a0 : Nat) (a1 : Int32) (K : MK) (N : MK) (I : MI) (L : ML) (R : MR) (Q : Int32 → MI → Prop) (h : w_X12_chainLine a0 a1 K N I L R Q) : Met l yX12_chainLine (.code yX12_chainLine cX12_chainLine 2 (some .int) :: z_tbl) rm_X12_chainLine (z_Pc G [.ref a0, .int a1] K N I L R) (z_Qc G (qIi K N L R Q)) 0 0 (z_A G) := by
  refine z_met (by decide) (Nat.le_of_ble_eq_true rfl) (fun X hX hRm hC0 hnm => ?_)
  subst hX
  have hC : ZOk X G RX12 cX12_chainLine 2 (some .int) := hC0
  show Z X G 2 0 0 _ K N I L R 0 [(0, .ref a0), (1, .int a1)] []
  delta w_X12_chainLine at h
  refine z_aload_n hC (q := 0) dX12_chainLine_0 rfl rfl ?_
  refine z_iconst hC (v := 0) k_iconst_0 dX12_chainLine_1 ?_
  obtain ⟨hk1, h⟩ := h
  refine pf_RX12_1 hC dX12_chainLine_2 hk1 ?_
  refine z_genI (fun I2 eI2 => ?_)
  have h := h I2 eI2
  refine z_iload_n hC (q := 1) dX12_chainLine_5 rfl rfl ?_
  refine z_iconst hC (v := 0) k_iconst_0 dX12_chainLine_6 ?_
  refine z_aload_n hC (q := 0) dX12_chainLine_7 rfl rfl ?_
  refine gf_RX12_292 hC dX12_chainLine_8 hk1 ?_
  refine z_iconst hC (v := 1) k_iconst_1 dX12_chainLine_11 ?_
  refine z_isub hC dX12_chainLine_12 ?_
  refine cl_RX12_75 hC (c_X12_isIn _ G a1 0 ((I2 a0 28) - 1) K N I2 L R _ h) dX12_chainLine_13 (by rw [hRm]; exact ⟨Nat.le_of_ble_eq_true rfl, Nat.le_of_ble_eq_true rfl⟩) ⟨Nat.zero_le _, Nat.zero_le _⟩ (Nat.le_of_ble_eq_true rfl) (z_kPz (fun r3 h => ?_))
  refine z_ifz_eq hC (tgt := 28) dX12_chainLine_16 (by decide) (fun hc => ?_) (fun hc => ?_)
  · have h := h.1 hc
    refine z_iconst hC (v := (-1)) k_iconst_m1 dX12_chainLine_28 ?_
    exact z_iret hC dX12_chainLine_29 ⟨_, rfl, rfl, rfl, rfl, rfl, h⟩
  · have h := h.2 hc
    refine z_aload_n hC (q := 0) dX12_chainLine_19 rfl rfl ?_
    obtain ⟨b4, hb4, h⟩ := h
    refine gf_RX12_133 hC dX12_chainLine_20 hk1 hb4 ?_
    refine z_iload_n hC (q := 1) dX12_chainLine_23 rfl rfl ?_
    obtain ⟨hk5, h⟩ := h
    obtain ⟨hi6, h⟩ := h
    refine z_iaload hC hk5 hi6 dX12_chainLine_24 ?_
    refine z_goto hC (tgt := 29) dX12_chainLine_25 (by decide) ?_
    exact z_iret hC dX12_chainLine_29 ⟨_, rfl, rfl, rfl, rfl, rfl, h⟩
def w_X12_whereOf_2  (x0 : Nat) (x1 : Int32) (x2 : Int32) (x3 : Int32)  (K : MK) (N : MK) (I : MI) (L : ML) (R : MR)  (Q : Int32 → Prop) : Prop := ∃ J : Nat → Nat → Int32 → Int32 → Int32 → Prop, (∃ n, J n x0 x1 x2 x3) ∧ ∀ (n : Nat) (x0 : Nat) (x1 : Int32) (x2 : Int32) (x3 : Int32), J n x0 x1 x2 x3 → K x0 = 13 ∧ ∃ b2 : Nat, R x0 14 = some b2 ∧ K b2 = 14 ∧ vp_in 5 (N b2) ∧ ((I b2 (ix 5)) ≤ x3 → Q (-1)) ∧ (¬ (I b2 (ix 5)) ≤ x3 → vp_in ((134 : Int32) + x3) (N b2) ∧ (¬ (I b2 (ix ((134 : Int32) + x3))) = x1 → ∀ v6 : Int32, v6 = x3 + 1 → ∃ n1, n1 < n ∧ J n1 x0 x1 x2 v6) ∧ ((I b2 (ix ((134 : Int32) + x3))) = x1 → vp_in ((150 : Int32) + x3) (N b2) ∧ vp_in ((166 : Int32) + x3) (N b2) ∧ w_X12_isIn x2 (I b2 (ix ((150 : Int32) + x3))) ((I b2 (ix ((166 : Int32) + x3))) - 1) K N I L R (fun r9 => (r9 = false → ∀ v10 : Int32, v10 = x3 + 1 → ∃ n1, n1 < n ∧ J n1 x0 x1 x2 v10) ∧ (r9 = true → Q x3))))
def w_X12_whereOf  (a0 : Nat) (a1 : Int32) (a2 : Int32) (K : MK) (N : MK) (I : MI) (L : ML) (R : MR) (Q : Int32 → Prop) : Prop := w_X12_whereOf_2 a0 a1 a2 0 K N I L R Q
set_option maxHeartbeats 4000000 in
set_option maxRecDepth 100000 in
theorem z_X12_whereOf_2 {X : ZX} {G : ZG}  {x0 : Nat} {x1 : Int32} {x2 : Int32} {x3 : Int32}  {K : MK} {N : MK} {I : MI} {L : ML} {R : MR}  {Q : Int32 → Prop} (hC : ZOk X G RX12 cX12_whereOf 4 (some .int)) (hRm : X.2.2.2.1 = rm_X12_whereOf) (h : w_X12_whereOf_2 x0 x1 x2 x3 K N I L R  Q) : Z X G 4 0 0 (z_T X G (qPi K N I L R Q) 0 0) K N I L R 2 [(0, .ref x0), (1, .int x1), (2, .int x2), (3, .int x3)] [] := by
  delta w_X12_whereOf_2 at h
  obtain ⟨J, ⟨n, h0⟩, hs⟩ := h
  have key : ∀ (n : Nat) (x0 : Nat) (x1 : Int32) (x2 : Int32) (x3 : Int32), J n x0 x1 x2 x3 → Z X G 4 0 0 (z_T X G (qPi K N I L R Q) 0 0) K N I L R 2 [(0, .ref x0), (1, .int x1), (2, .int x2), (3, .int x3)] [] := by
    intro n
    induction n using Nat.strongRecOn with
    | _ n ih =>
      intro x0 x1 x2 x3 hJ
      have hC2 : ∀ (y0 : Nat) (y1 : Int32) (y2 : Int32) (y3 : Int32) , (∃ n1, n1 < n ∧ J n1 y0 y1 y2 y3) → Z X G 4 0 0 (z_T X G (qPi K N I L R Q) 0 0) K N I L R 2 [(0, .ref y0), (1, .int y1), (2, .int y2), (3, .int y3)] [] := fun y0 y1 y2 y3 ⟨n1, hn1, hj⟩ => ih n1 hn1 y0 y1 y2 y3 hj
      have h := hs n x0 x1 x2 x3 hJ
      refine z_iload_n hC (q := 3) dX12_whereOf_2 rfl rfl ?_
      refine z_aload_n hC (q := 0) dX12_whereOf_3 rfl rfl ?_
      obtain ⟨hk1, h⟩ := h
      obtain ⟨b2, hb2, h⟩ := h
      refine gf_RX12_98 hC dX12_whereOf_4 hk1 hb2 ?_
      refine z_iconst hC (v := 5) k_iconst_5 dX12_whereOf_7 ?_
      obtain ⟨hk3, h⟩ := h
      obtain ⟨hi4, h⟩ := h
      refine z_iaload hC hk3 hi4 dX12_whereOf_8 ?_
      refine z_icmp_ge hC (tgt := 63) dX12_whereOf_9 (by decide) (fun hc => ?_) (fun hc => ?_)
      · have h := h.1 hc
        refine z_iconst hC (v := (-1)) k_iconst_m1 dX12_whereOf_63 ?_
        exact z_iret hC dX12_whereOf_64 ⟨_, rfl, rfl, rfl, rfl, rfl, rfl, h⟩
      · have h := h.2 hc
        refine z_aload_n hC (q := 0) dX12_whereOf_12 rfl rfl ?_
        refine gf_RX12_98 hC dX12_whereOf_13 hk1 hb2 ?_
        refine z_sipush hC (v := 134) k_sipush_134 dX12_whereOf_16 ?_
        refine z_iload_n hC (q := 3) dX12_whereOf_19 rfl rfl ?_
        refine z_iadd hC dX12_whereOf_20 ?_
        obtain ⟨hi5, h⟩ := h
        refine z_iaload hC hk3 hi5 dX12_whereOf_21 ?_
        refine z_iload_n hC (q := 1) dX12_whereOf_22 rfl rfl ?_
        refine z_icmp_ne hC (tgt := 57) dX12_whereOf_23 (by decide) (fun hc => ?_) (fun hc => ?_)
        · have h := h.1 hc
          obtain ⟨v6, ev6⟩ : ∃ y : Int32, y = x3 + 1 := ⟨_, rfl⟩
          have h := h v6 ev6
          refine z_iinc hC (q := 3) (v := v6) (lv1 := [(3, .int v6), (0, .ref x0), (1, .int x1), (2, .int x2)]) dX12_whereOf_57 rfl (by rw [ev6, k_iinc_1]) (by decide) rfl ?_
          refine z_goto hC (tgt := 2) dX12_whereOf_60 (by decide) ?_
          exact z_sub [(0, .ref x0), (1, .int x1), (2, .int x2), (3, .int v6)] [1, 2, 3, 0] rfl (hC2 _ _ _ _ h)
        · have h := h.2 hc
          refine z_iload_n hC (q := 2) dX12_whereOf_26 rfl rfl ?_
          refine z_aload_n hC (q := 0) dX12_whereOf_27 rfl rfl ?_
          refine gf_RX12_98 hC dX12_whereOf_28 hk1 hb2 ?_
          refine z_sipush hC (v := 150) k_sipush_150 dX12_whereOf_31 ?_
          refine z_iload_n hC (q := 3) dX12_whereOf_34 rfl rfl ?_
          refine z_iadd hC dX12_whereOf_35 ?_
          obtain ⟨hi7, h⟩ := h
          refine z_iaload hC hk3 hi7 dX12_whereOf_36 ?_
          refine z_aload_n hC (q := 0) dX12_whereOf_37 rfl rfl ?_
          refine gf_RX12_98 hC dX12_whereOf_38 hk1 hb2 ?_
          refine z_sipush hC (v := 166) k_sipush_166 dX12_whereOf_41 ?_
          refine z_iload_n hC (q := 3) dX12_whereOf_44 rfl rfl ?_
          refine z_iadd hC dX12_whereOf_45 ?_
          obtain ⟨hi8, h⟩ := h
          refine z_iaload hC hk3 hi8 dX12_whereOf_46 ?_
          refine z_iconst hC (v := 1) k_iconst_1 dX12_whereOf_47 ?_
          refine z_isub hC dX12_whereOf_48 ?_
          refine cl_RX12_75 hC (c_X12_isIn _ G x2 (I b2 (ix ((150 : Int32) + x3))) ((I b2 (ix ((166 : Int32) + x3))) - 1) K N I L R _ h) dX12_whereOf_49 (by rw [hRm]; exact ⟨Nat.le_of_ble_eq_true rfl, Nat.le_of_ble_eq_true rfl⟩) ⟨Nat.zero_le _, Nat.zero_le _⟩ (Nat.le_of_ble_eq_true rfl) (z_kPz (fun r9 h => ?_))
          refine z_ifz_eq hC (tgt := 57) dX12_whereOf_52 (by decide) (fun hc => ?_) (fun hc => ?_)
          · have h := h.1 hc
            obtain ⟨v10, ev10⟩ : ∃ y : Int32, y = x3 + 1 := ⟨_, rfl⟩
            have h := h v10 ev10
            refine z_iinc hC (q := 3) (v := v10) (lv1 := [(3, .int v10), (0, .ref x0), (1, .int x1), (2, .int x2)]) dX12_whereOf_57 rfl (by rw [ev10, k_iinc_1]) (by decide) rfl ?_
            refine z_goto hC (tgt := 2) dX12_whereOf_60 (by decide) ?_
            exact z_sub [(0, .ref x0), (1, .int x1), (2, .int x2), (3, .int v10)] [1, 2, 3, 0] rfl (hC2 _ _ _ _ h)
          · have h := h.2 hc
            refine z_iload_n hC (q := 3) dX12_whereOf_55 rfl rfl ?_
            exact z_iret hC dX12_whereOf_56 ⟨_, rfl, rfl, rfl, rfl, rfl, rfl, h⟩
  exact key n x0 x1 x2 x3 h0
set_option maxHeartbeats 4000000 in
set_option maxRecDepth 100000 in
theorem c_X12_whereOf  (l : Launch) (G : ZG) (a0 : Nat) (a1 : Int32) (a2 : Int32) (K : MK) (N : MK) (I : MI) (L : ML) (R : MR) (Q : Int32 → Prop) (h : w_X12_whereOf a0 a1 a2 K N I L R Q) : Met l yX12_whereOf (.code yX12_whereOf cX12_whereOf 4 (some .int) :: z_tbl) rm_X12_whereOf (z_Pc G [.ref a0, .int a1, .int a2] K N I L R) (z_Qc G (qPi K N I L R Q)) 0 0 (z_A G) := by
  refine z_met (by decide) (Nat.le_of_ble_eq_true rfl) (fun X hX hRm hC0 hnm => ?_)
  subst hX
  have hC : ZOk X G RX12 cX12_whereOf 4 (some .int) := hC0
  show Z X G 4 0 0 _ K N I L R 0 [(0, .ref a0), (1, .int a1), (2, .int a2)] []
  delta w_X12_whereOf at h
  refine z_iconst hC (v := 0) k_iconst_0 dX12_whereOf_0 ?_
  refine z_istore_n hC (lv1 := [(3, .int 0), (0, .ref a0), (1, .int a1), (2, .int a2)]) dX12_whereOf_1 rfl (by decide) rfl ?_
  exact z_sub [(0, .ref a0), (1, .int a1), (2, .int a2), (3, .int 0)] [1, 2, 3, 0] rfl (z_X12_whereOf_2 hC hRm h)
def w_X12_doTwo  (a0 : Nat) (a1 : Int32) (K : MK) (N : MK) (I : MI) (L : ML) (R : MR) (Q : MI → Prop) : Prop := K a0 = 13 ∧ ∃ b2 : Nat, R a0 29 = some b2 ∧ K b2 = 14 ∧ vp_in ((I a0 30) - 2) (N b2) ∧ ∀ v5 : Int32, v5 = (I b2 (ix ((I a0 30) - 2))) → vp_in ((I a0 30) - 1) (N b2) ∧ ∀ v7 : Int32, v7 = (I b2 (ix ((I a0 30) - 1))) → (¬ a1 = 1015 → ∀ I8 : MI, I8 = mup I a0 30 ((I a0 30) - 1) → (¬ a1 = 1010 → (¬ a1 = 1011 → vp_in ((I8 a0 30) - 1) (N b2) ∧ ∀ I10 : MI, I10 = mup I8 b2 (ix ((I8 a0 30) - 1)) (v5 * v7) → Q I10) ∧ (a1 = 1011 → vp_in ((I8 a0 30) - 1) (N b2) ∧ ∀ I12 : MI, I12 = mup I8 b2 (ix ((I8 a0 30) - 1)) (v5 - v7) → Q I12)) ∧ (a1 = 1010 → vp_in ((I8 a0 30) - 1) (N b2) ∧ ∀ I14 : MI, I14 = mup I8 b2 (ix ((I8 a0 30) - 1)) (v5 + v7) → Q I14)) ∧ (a1 = 1015 → ∀ I15 : MI, I15 = mup I b2 (ix ((I a0 30) - 2)) v7 → vp_in ((I15 a0 30) - 1) (N b2) ∧ ∀ I17 : MI, I17 = mup I15 b2 (ix ((I15 a0 30) - 1)) v5 → Q I17)
set_option maxHeartbeats 4000000 in
set_option maxRecDepth 100000 in
theorem c_X12_doTwo  (l : Launch) (G : ZG) (a0 : Nat) (a1 : Int32) (K : MK) (N : MK) (I : MI) (L : ML) (R : MR) (Q : MI → Prop) (h : w_X12_doTwo a0 a1 K N I L R Q) : Met l yX12_doTwo (.code yX12_doTwo cX12_doTwo 4 none :: z_tbl) rm_X12_doTwo (z_Pc G [.ref a0, .int a1] K N I L R) (z_Qc G (qIv K N L R Q)) 0 0 (z_A G) := by
  refine z_met (by decide) (Nat.le_of_ble_eq_true rfl) (fun X hX hRm hC0 hnm => ?_)
  subst hX
  have hC : ZOk X G RX12 cX12_doTwo 4 none := hC0
  show Z X G 4 0 0 _ K N I L R 0 [(0, .ref a0), (1, .int a1)] []
  delta w_X12_doTwo at h
  refine z_aload_n hC (q := 0) dX12_doTwo_0 rfl rfl ?_
  obtain ⟨hk1, h⟩ := h
  obtain ⟨b2, hb2, h⟩ := h
  refine gf_RX12_136 hC dX12_doTwo_1 hk1 hb2 ?_
  refine z_aload_n hC (q := 0) dX12_doTwo_4 rfl rfl ?_
  refine gf_RX12_295 hC dX12_doTwo_5 hk1 ?_
  refine z_iconst hC (v := 2) k_iconst_2 dX12_doTwo_8 ?_
  refine z_isub hC dX12_doTwo_9 ?_
  obtain ⟨hk3, h⟩ := h
  obtain ⟨hi4, h⟩ := h
  refine z_iaload hC hk3 hi4 dX12_doTwo_10 ?_
  refine z_topi (fun v5 ev5 => ?_)
  have h := h v5 ev5
  refine z_istore_n hC (lv1 := [(2, .int v5), (0, .ref a0), (1, .int a1)]) dX12_doTwo_11 rfl (by decide) rfl ?_
  refine z_aload_n hC (q := 1) dX12_doTwo_12 rfl rfl ?_
  refine gf_RX12_136 hC dX12_doTwo_13 hk1 hb2 ?_
  refine z_aload_n hC (q := 1) dX12_doTwo_16 rfl rfl ?_
  refine gf_RX12_295 hC dX12_doTwo_17 hk1 ?_
  refine z_iconst hC (v := 1) k_iconst_1 dX12_doTwo_20 ?_
  refine z_isub hC dX12_doTwo_21 ?_
  obtain ⟨hi6, h⟩ := h
  refine z_iaload hC hk3 hi6 dX12_doTwo_22 ?_
  refine z_topi (fun v7 ev7 => ?_)
  have h := h v7 ev7
  refine z_istore_n hC (lv1 := [(3, .int v7), (2, .int v5), (0, .ref a0), (1, .int a1)]) dX12_doTwo_23 rfl (by decide) rfl ?_
  refine z_iload_n hC (q := 3) dX12_doTwo_24 rfl rfl ?_
  refine z_sipush hC (v := 1015) k_sipush_1015 dX12_doTwo_25 ?_
  refine z_icmp_ne hC (tgt := 56) dX12_doTwo_28 (by decide) (fun hc => ?_) (fun hc => ?_)
  · have h := h.1 hc
    refine z_aload_n hC (q := 2) dX12_doTwo_56 rfl rfl ?_
    refine z_dup hC rfl dX12_doTwo_57 ?_
    refine gf_RX12_295 hC dX12_doTwo_58 hk1 ?_
    refine z_iconst hC (v := 1) k_iconst_1 dX12_doTwo_61 ?_
    refine z_isub hC dX12_doTwo_62 ?_
    refine pf_RX12_295 hC dX12_doTwo_63 hk1 ?_
    refine z_genI (fun I8 eI8 => ?_)
    have h := h I8 eI8
    refine z_aload_n hC (q := 2) dX12_doTwo_66 rfl rfl ?_
    refine gf_RX12_136 hC dX12_doTwo_67 hk1 hb2 ?_
    refine z_aload_n hC (q := 2) dX12_doTwo_70 rfl rfl ?_
    refine gf_RX12_295 hC dX12_doTwo_71 hk1 ?_
    refine z_iconst hC (v := 1) k_iconst_1 dX12_doTwo_74 ?_
    refine z_isub hC dX12_doTwo_75 ?_
    refine z_iload_n hC (q := 3) dX12_doTwo_76 rfl rfl ?_
    refine z_sipush hC (v := 1010) k_sipush_1010 dX12_doTwo_77 ?_
    refine z_icmp_ne hC (tgt := 89) dX12_doTwo_80 (by decide) (fun hc => ?_) (fun hc => ?_)
    · have h := h.1 hc
      refine z_iload_n hC (q := 3) dX12_doTwo_89 rfl rfl ?_
      refine z_sipush hC (v := 1011) k_sipush_1011 dX12_doTwo_90 ?_
      refine z_icmp_ne hC (tgt := 102) dX12_doTwo_93 (by decide) (fun hc => ?_) (fun hc => ?_)
      · have h := h.1 hc
        refine z_iload_n hC (q := 1) dX12_doTwo_102 rfl rfl ?_
        refine z_iload_n hC (q := 0) dX12_doTwo_103 rfl rfl ?_
        refine z_imul hC dX12_doTwo_104 ?_
        obtain ⟨hi9, h⟩ := h
        refine z_iastore hC hk3 hi9 dX12_doTwo_105 ?_
        refine z_genI (fun I10 eI10 => ?_)
        have h := h I10 eI10
        exact z_vret hC dX12_doTwo_106 ⟨rfl, rfl, rfl, rfl, rfl, h⟩
      · have h := h.2 hc
        refine z_iload_n hC (q := 1) dX12_doTwo_96 rfl rfl ?_
        refine z_iload_n hC (q := 0) dX12_doTwo_97 rfl rfl ?_
        refine z_isub hC dX12_doTwo_98 ?_
        refine z_goto hC (tgt := 105) dX12_doTwo_99 (by decide) ?_
        obtain ⟨hi11, h⟩ := h
        refine z_iastore hC hk3 hi11 dX12_doTwo_105 ?_
        refine z_genI (fun I12 eI12 => ?_)
        have h := h I12 eI12
        exact z_vret hC dX12_doTwo_106 ⟨rfl, rfl, rfl, rfl, rfl, h⟩
    · have h := h.2 hc
      refine z_iload_n hC (q := 1) dX12_doTwo_83 rfl rfl ?_
      refine z_iload_n hC (q := 0) dX12_doTwo_84 rfl rfl ?_
      refine z_iadd hC dX12_doTwo_85 ?_
      refine z_goto hC (tgt := 105) dX12_doTwo_86 (by decide) ?_
      obtain ⟨hi13, h⟩ := h
      refine z_iastore hC hk3 hi13 dX12_doTwo_105 ?_
      refine z_genI (fun I14 eI14 => ?_)
      have h := h I14 eI14
      exact z_vret hC dX12_doTwo_106 ⟨rfl, rfl, rfl, rfl, rfl, h⟩
  · have h := h.2 hc
    refine z_aload_n hC (q := 2) dX12_doTwo_31 rfl rfl ?_
    refine gf_RX12_136 hC dX12_doTwo_32 hk1 hb2 ?_
    refine z_aload_n hC (q := 2) dX12_doTwo_35 rfl rfl ?_
    refine gf_RX12_295 hC dX12_doTwo_36 hk1 ?_
    refine z_iconst hC (v := 2) k_iconst_2 dX12_doTwo_39 ?_
    refine z_isub hC dX12_doTwo_40 ?_
    refine z_iload_n hC (q := 0) dX12_doTwo_41 rfl rfl ?_
    refine z_iastore hC hk3 hi4 dX12_doTwo_42 ?_
    refine z_genI (fun I15 eI15 => ?_)
    have h := h I15 eI15
    refine z_aload_n hC (q := 2) dX12_doTwo_43 rfl rfl ?_
    refine gf_RX12_136 hC dX12_doTwo_44 hk1 hb2 ?_
    refine z_aload_n hC (q := 2) dX12_doTwo_47 rfl rfl ?_
    refine gf_RX12_295 hC dX12_doTwo_48 hk1 ?_
    refine z_iconst hC (v := 1) k_iconst_1 dX12_doTwo_51 ?_
    refine z_isub hC dX12_doTwo_52 ?_
    refine z_iload_n hC (q := 1) dX12_doTwo_53 rfl rfl ?_
    obtain ⟨hi16, h⟩ := h
    refine z_iastore hC hk3 hi16 dX12_doTwo_54 ?_
    refine z_genI (fun I17 eI17 => ?_)
    have h := h I17 eI17
    exact z_vret hC dX12_doTwo_55 ⟨rfl, rfl, rfl, rfl, rfl, h⟩
def w_X12_doOp  (a0 : Nat) (a1 : Int32) (K : MK) (N : MK) (I : MI) (L : ML) (R : MR) (Q : Bool → MI → Prop) : Prop := ((1010 : Int32) ≤ a1 → (¬ a1 = 1014 → (a1 = 1013 → K a0 = 13 ∧ ∃ b2 : Nat, R a0 29 = some b2 ∧ K b2 = 14 ∧ vp_in ((I a0 30) - 1) (N b2) ∧ w_X12_isIn (I b2 (ix ((I a0 30) - 1))) 0 63 K N I L R (fun r5 => (r5 = true → ∃ b6 : Nat, R a0 14 = some b6 ∧ K b6 = 14 ∧ vp_in ((361 : Int32) + (I b2 (ix ((I a0 30) - 1)))) (N b6) ∧ ∀ I9 : MI, I9 = mup I b2 (ix ((I a0 30) - 1)) (I b6 (ix ((361 : Int32) + (I b2 (ix ((I a0 30) - 1)))))) → Q true I9) ∧ (r5 = false → Q false I))) ∧ (¬ a1 = 1013 → K a0 = 13 ∧ w_X12_doTwo a0 a1 K N I L R (fun I11 => Q true I11))) ∧ (a1 = 1014 → K a0 = 13 ∧ ∃ b13 : Nat, R a0 29 = some b13 ∧ K b13 = 14 ∧ vp_in ((I a0 30) - 1) (N b13) ∧ vp_in (I a0 30) (N b13) ∧ ∀ I17 : MI, I17 = mup I b13 (ix (I a0 30)) (I b13 (ix ((I a0 30) - 1))) → ∀ I18 : MI, I18 = mup I17 a0 30 ((I17 a0 30) + 1) → Q true I18)) ∧ (¬ (1010 : Int32) ≤ a1 → K a0 = 13 ∧ ∃ b20 : Nat, R a0 29 = some b20 ∧ ((1000 : Int32) ≤ a1 → ∃ b21 : Nat, R a0 14 = some b21 ∧ K b21 = 14 ∧ vp_in (((353 : Int32) + a1) - 1000) (N b21) ∧ K b20 = 14 ∧ vp_in (I a0 30) (N b20) ∧ ∀ I26 : MI, I26 = mup I b20 (ix (I a0 30)) (I b21 (ix (((353 : Int32) + a1) - 1000))) → ∀ I27 : MI, I27 = mup I26 a0 30 ((I26 a0 30) + 1) → Q true I27) ∧ (¬ (1000 : Int32) ≤ a1 → K b20 = 14 ∧ vp_in (I a0 30) (N b20) ∧ ∀ I30 : MI, I30 = mup I b20 (ix (I a0 30)) a1 → ∀ I31 : MI, I31 = mup I30 a0 30 ((I30 a0 30) + 1) → Q true I31))
set_option maxHeartbeats 4000000 in
set_option maxRecDepth 100000 in
theorem c_X12_doOp  (l : Launch) (G : ZG) (a0 : Nat) (a1 : Int32) (K : MK) (N : MK) (I : MI) (L : ML) (R : MR) (Q : Bool → MI → Prop) (h : w_X12_doOp a0 a1 K N I L R Q) : Met l yX12_doOp (.code yX12_doOp cX12_doOp 2 (some .boolean) :: z_tbl) rm_X12_doOp (z_Pc G [.ref a0, .int a1] K N I L R) (z_Qc G (qIz K N L R Q)) 0 0 (z_A G) := by
  refine z_met (by decide) (Nat.le_of_ble_eq_true rfl) (fun X hX hRm hC0 hnm => ?_)
  subst hX
  have hC : ZOk X G RX12 cX12_doOp 2 (some .boolean) := hC0
  show Z X G 2 0 0 _ K N I L R 0 [(0, .ref a0), (1, .int a1)] []
  delta w_X12_doOp at h
  refine z_iload_n hC (q := 1) dX12_doOp_0 rfl rfl ?_
  refine z_sipush hC (v := 1010) k_sipush_1010 dX12_doOp_1 ?_
  refine z_icmp_ge hC (tgt := 53) dX12_doOp_4 (by decide) (fun hc => ?_) (fun hc => ?_)
  · have h := h.1 hc
    refine z_iload_n hC (q := 1) dX12_doOp_53 rfl rfl ?_
    refine z_sipush hC (v := 1014) k_sipush_1014 dX12_doOp_54 ?_
    refine z_icmp_ne hC (tgt := 92) dX12_doOp_57 (by decide) (fun hc => ?_) (fun hc => ?_)
    · have h := h.1 hc
      refine z_iload_n hC (q := 1) dX12_doOp_92 rfl rfl ?_
      refine z_sipush hC (v := 1013) k_sipush_1013 dX12_doOp_93 ?_
      refine z_icmp_eq hC (tgt := 106) dX12_doOp_96 (by decide) (fun hc => ?_) (fun hc => ?_)
      · have h := h.1 hc
        refine z_aload_n hC (q := 0) dX12_doOp_106 rfl rfl ?_
        obtain ⟨hk1, h⟩ := h
        obtain ⟨b2, hb2, h⟩ := h
        refine gf_RX12_136 hC dX12_doOp_107 hk1 hb2 ?_
        refine z_aload_n hC (q := 0) dX12_doOp_110 rfl rfl ?_
        refine gf_RX12_295 hC dX12_doOp_111 hk1 ?_
        refine z_iconst hC (v := 1) k_iconst_1 dX12_doOp_114 ?_
        refine z_isub hC dX12_doOp_115 ?_
        obtain ⟨hk3, h⟩ := h
        obtain ⟨hi4, h⟩ := h
        refine z_iaload hC hk3 hi4 dX12_doOp_116 ?_
        refine z_iconst hC (v := 0) k_iconst_0 dX12_doOp_117 ?_
        refine z_bipush hC (v := 63) k_bipush_63 dX12_doOp_118 ?_
        refine cl_RX12_75 hC (c_X12_isIn _ G (I b2 (ix ((I a0 30) - 1))) 0 63 K N I L R _ h) dX12_doOp_120 (by rw [hRm]; exact ⟨Nat.le_of_ble_eq_true rfl, Nat.le_of_ble_eq_true rfl⟩) ⟨Nat.zero_le _, Nat.zero_le _⟩ (Nat.le_of_ble_eq_true rfl) (z_kPz (fun r5 h => ?_))
        refine z_ifz_ne hC (tgt := 128) dX12_doOp_123 (by decide) (fun hc => ?_) (fun hc => ?_)
        · have h := h.1 hc
          refine z_aload_n hC (q := 0) dX12_doOp_128 rfl rfl ?_
          refine gf_RX12_136 hC dX12_doOp_129 hk1 hb2 ?_
          refine z_aload_n hC (q := 0) dX12_doOp_132 rfl rfl ?_
          refine gf_RX12_295 hC dX12_doOp_133 hk1 ?_
          refine z_iconst hC (v := 1) k_iconst_1 dX12_doOp_136 ?_
          refine z_isub hC dX12_doOp_137 ?_
          refine z_aload_n hC (q := 0) dX12_doOp_138 rfl rfl ?_
          obtain ⟨b6, hb6, h⟩ := h
          refine gf_RX12_98 hC dX12_doOp_139 hk1 hb6 ?_
          refine z_sipush hC (v := 361) k_sipush_361 dX12_doOp_142 ?_
          refine z_aload_n hC (q := 0) dX12_doOp_145 rfl rfl ?_
          refine gf_RX12_136 hC dX12_doOp_146 hk1 hb2 ?_
          refine z_aload_n hC (q := 0) dX12_doOp_149 rfl rfl ?_
          refine gf_RX12_295 hC dX12_doOp_150 hk1 ?_
          refine z_iconst hC (v := 1) k_iconst_1 dX12_doOp_153 ?_
          refine z_isub hC dX12_doOp_154 ?_
          refine z_iaload hC hk3 hi4 dX12_doOp_155 ?_
          refine z_iadd hC dX12_doOp_156 ?_
          obtain ⟨hk7, h⟩ := h
          obtain ⟨hi8, h⟩ := h
          refine z_iaload hC hk7 hi8 dX12_doOp_157 ?_
          refine z_iastore hC hk3 hi4 dX12_doOp_158 ?_
          refine z_genI (fun I9 eI9 => ?_)
          have h := h I9 eI9
          refine z_iconst hC (v := 1) k_iconst_1 dX12_doOp_159 ?_
          exact z_zret (b := true) hC dX12_doOp_160 rfl ⟨true, rfl, rfl, rfl, rfl, rfl, h⟩
        · have h := h.2 hc
          refine z_iconst hC (v := 0) k_iconst_0 dX12_doOp_126 ?_
          exact z_zret (b := false) hC dX12_doOp_127 rfl ⟨false, rfl, rfl, rfl, rfl, rfl, h⟩
      · have h := h.2 hc
        refine z_aload_n hC (q := 0) dX12_doOp_99 rfl rfl ?_
        refine z_iload_n hC (q := 1) dX12_doOp_100 rfl rfl ?_
        obtain ⟨hk10, h⟩ := h
        refine cl_RX12_298 hC (c_X12_doTwo _ G a0 a1 K N I L R _ h) hk10 dX12_doOp_101 (by rw [hRm]; exact ⟨Nat.le_of_ble_eq_true rfl, Nat.le_of_ble_eq_true rfl⟩) ⟨Nat.zero_le _, Nat.zero_le _⟩ (Nat.le_of_ble_eq_true rfl) (z_kIv (I := I) (fun I11 h => ?_))
        refine z_iconst hC (v := 1) k_iconst_1 dX12_doOp_104 ?_
        exact z_zret (b := true) hC dX12_doOp_105 rfl ⟨true, rfl, rfl, rfl, rfl, rfl, h⟩
    · have h := h.2 hc
      refine z_aload_n hC (q := 0) dX12_doOp_60 rfl rfl ?_
      obtain ⟨hk12, h⟩ := h
      obtain ⟨b13, hb13, h⟩ := h
      refine gf_RX12_136 hC dX12_doOp_61 hk12 hb13 ?_
      refine z_aload_n hC (q := 0) dX12_doOp_64 rfl rfl ?_
      refine gf_RX12_295 hC dX12_doOp_65 hk12 ?_
      refine z_aload_n hC (q := 0) dX12_doOp_68 rfl rfl ?_
      refine gf_RX12_136 hC dX12_doOp_69 hk12 hb13 ?_
      refine z_aload_n hC (q := 0) dX12_doOp_72 rfl rfl ?_
      refine gf_RX12_295 hC dX12_doOp_73 hk12 ?_
      refine z_iconst hC (v := 1) k_iconst_1 dX12_doOp_76 ?_
      refine z_isub hC dX12_doOp_77 ?_
      obtain ⟨hk14, h⟩ := h
      obtain ⟨hi15, h⟩ := h
      refine z_iaload hC hk14 hi15 dX12_doOp_78 ?_
      obtain ⟨hi16, h⟩ := h
      refine z_iastore hC hk14 hi16 dX12_doOp_79 ?_
      refine z_genI (fun I17 eI17 => ?_)
      have h := h I17 eI17
      refine z_aload_n hC (q := 0) dX12_doOp_80 rfl rfl ?_
      refine z_dup hC rfl dX12_doOp_81 ?_
      refine gf_RX12_295 hC dX12_doOp_82 hk12 ?_
      refine z_iconst hC (v := 1) k_iconst_1 dX12_doOp_85 ?_
      refine z_iadd hC dX12_doOp_86 ?_
      refine pf_RX12_295 hC dX12_doOp_87 hk12 ?_
      refine z_genI (fun I18 eI18 => ?_)
      have h := h I18 eI18
      refine z_iconst hC (v := 1) k_iconst_1 dX12_doOp_90 ?_
      exact z_zret (b := true) hC dX12_doOp_91 rfl ⟨true, rfl, rfl, rfl, rfl, rfl, h⟩
  · have h := h.2 hc
    refine z_aload_n hC (q := 0) dX12_doOp_7 rfl rfl ?_
    obtain ⟨hk19, h⟩ := h
    obtain ⟨b20, hb20, h⟩ := h
    refine gf_RX12_136 hC dX12_doOp_8 hk19 hb20 ?_
    refine z_aload_n hC (q := 0) dX12_doOp_11 rfl rfl ?_
    refine gf_RX12_295 hC dX12_doOp_12 hk19 ?_
    refine z_iload_n hC (q := 1) dX12_doOp_15 rfl rfl ?_
    refine z_sipush hC (v := 1000) k_sipush_1000 dX12_doOp_16 ?_
    refine z_icmp_ge hC (tgt := 26) dX12_doOp_19 (by decide) (fun hc => ?_) (fun hc => ?_)
    · have h := h.1 hc
      refine z_aload_n hC (q := 0) dX12_doOp_26 rfl rfl ?_
      obtain ⟨b21, hb21, h⟩ := h
      refine gf_RX12_98 hC dX12_doOp_27 hk19 hb21 ?_
      refine z_sipush hC (v := 353) k_sipush_353 dX12_doOp_30 ?_
      refine z_iload_n hC (q := 1) dX12_doOp_33 rfl rfl ?_
      refine z_iadd hC dX12_doOp_34 ?_
      refine z_sipush hC (v := 1000) k_sipush_1000 dX12_doOp_35 ?_
      refine z_isub hC dX12_doOp_38 ?_
      obtain ⟨hk22, h⟩ := h
      obtain ⟨hi23, h⟩ := h
      refine z_iaload hC hk22 hi23 dX12_doOp_39 ?_
      obtain ⟨hk24, h⟩ := h
      obtain ⟨hi25, h⟩ := h
      refine z_iastore hC hk24 hi25 dX12_doOp_40 ?_
      refine z_genI (fun I26 eI26 => ?_)
      have h := h I26 eI26
      refine z_aload_n hC (q := 0) dX12_doOp_41 rfl rfl ?_
      refine z_dup hC rfl dX12_doOp_42 ?_
      refine gf_RX12_295 hC dX12_doOp_43 hk19 ?_
      refine z_iconst hC (v := 1) k_iconst_1 dX12_doOp_46 ?_
      refine z_iadd hC dX12_doOp_47 ?_
      refine pf_RX12_295 hC dX12_doOp_48 hk19 ?_
      refine z_genI (fun I27 eI27 => ?_)
      have h := h I27 eI27
      refine z_iconst hC (v := 1) k_iconst_1 dX12_doOp_51 ?_
      exact z_zret (b := true) hC dX12_doOp_52 rfl ⟨true, rfl, rfl, rfl, rfl, rfl, h⟩
    · have h := h.2 hc
      refine z_iload_n hC (q := 1) dX12_doOp_22 rfl rfl ?_
      refine z_goto hC (tgt := 40) dX12_doOp_23 (by decide) ?_
      obtain ⟨hk28, h⟩ := h
      obtain ⟨hi29, h⟩ := h
      refine z_iastore hC hk28 hi29 dX12_doOp_40 ?_
      refine z_genI (fun I30 eI30 => ?_)
      have h := h I30 eI30
      refine z_aload_n hC (q := 0) dX12_doOp_41 rfl rfl ?_
      refine z_dup hC rfl dX12_doOp_42 ?_
      refine gf_RX12_295 hC dX12_doOp_43 hk19 ?_
      refine z_iconst hC (v := 1) k_iconst_1 dX12_doOp_46 ?_
      refine z_iadd hC dX12_doOp_47 ?_
      refine pf_RX12_295 hC dX12_doOp_48 hk19 ?_
      refine z_genI (fun I31 eI31 => ?_)
      have h := h I31 eI31
      refine z_iconst hC (v := 1) k_iconst_1 dX12_doOp_51 ?_
      exact z_zret (b := true) hC dX12_doOp_52 rfl ⟨true, rfl, rfl, rfl, rfl, rfl, h⟩
def w_X12_wordAt_46  (x0 : Nat) (x1 : Int32) (x2 : Int32)  (K : MK) (N : MK) (I : MI) (L : ML) (R : MR)  (Q : Int32 → MI → Prop) : Prop := ∃ J : Nat → Nat → Int32 → Int32 → MI → Prop, (∃ n, J n x0 x1 x2 I) ∧ ∀ (n : Nat) (x0 : Nat) (x1 : Int32) (x2 : Int32) (I : MI), J n x0 x1 x2 I → K x0 = 13 ∧ ∃ b8 : Nat, R x0 14 = some b8 ∧ K b8 = 14 ∧ vp_in ((198 : Int32) + x1) (N b8) ∧ ((I b8 (ix ((198 : Int32) + x1))) ≤ x2 → ∃ b11 : Nat, R x0 29 = some b11 ∧ K b11 = 14 ∧ vp_in ((I x0 30) - 1) (N b11) ∧ ∀ v14 : Int32, v14 = (I b11 (ix ((I x0 30) - 1))) → vp_in ((182 : Int32) + x1) (N b8) ∧ (¬ (I b8 (ix ((182 : Int32) + x1))) = 1 → w_X12_isIn v14 0 63 K N I L R (fun r16 => (r16 = false → ∀ I17 : MI, I17 = mup I x0 31 3 → Q 0 I17) ∧ (r16 = true → vp_in ((361 : Int32) + v14) (N b8) ∧ Q (I b8 (ix ((361 : Int32) + v14))) I))) ∧ ((I b8 (ix ((182 : Int32) + x1))) = 1 → Q (v14 &&& 65535) I)) ∧ (¬ (I b8 (ix ((198 : Int32) + x1))) ≤ x2 → vp_in (((214 : Int32) + ((8 : Int32) * x1)) + x2) (N b8) ∧ w_X12_doOp x0 (I b8 (ix (((214 : Int32) + ((8 : Int32) * x1)) + x2))) K N I L R (fun r20 I21 => (r20 = false → ∀ I22 : MI, I22 = mup I21 x0 31 2 → Q 0 I22) ∧ (r20 = true → ∀ v23 : Int32, v23 = x2 + 1 → ∃ n1, n1 < n ∧ J n1 x0 x1 v23 I21)))
def w_X12_wordAt  (a0 : Nat) (a1 : Int32) (K : MK) (N : MK) (I : MI) (L : ML) (R : MR) (Q : Int32 → MI → Prop) : Prop := K a0 = 13 ∧ ∀ I2 : MI, I2 = mup I a0 31 0 → ∃ b3 : Nat, R a0 14 = some b3 ∧ K b3 = 14 ∧ vp_in ((182 : Int32) + a1) (N b3) ∧ (¬ (I2 b3 (ix ((182 : Int32) + a1))) = 2 → ∀ I6 : MI, I6 = mup I2 a0 30 0 → w_X12_wordAt_46 a0 a1 0 K N I6 L R Q) ∧ ((I2 b3 (ix ((182 : Int32) + a1))) = 2 → vp_in ((198 : Int32) + a1) (N b3) ∧ vp_in ((353 : Int32) + (I2 b3 (ix ((198 : Int32) + a1)))) (N b3) ∧ Q (I2 b3 (ix ((353 : Int32) + (I2 b3 (ix ((198 : Int32) + a1)))))) I2)
set_option maxHeartbeats 4000000 in
set_option maxRecDepth 100000 in
theorem z_X12_wordAt_46 {X : ZX} {G : ZG}  {x0 : Nat} {x1 : Int32} {x2 : Int32}  {K : MK} {N : MK} {I : MI} {L : ML} {R : MR}  {Q : Int32 → MI → Prop} (hC : ZOk X G RX12 cX12_wordAt 3 (some .int)) (hRm : X.2.2.2.1 = rm_X12_wordAt) (h : w_X12_wordAt_46 x0 x1 x2 K N I L R  Q) : Z X G 3 0 0 (z_T X G (qIi K N L R Q) 0 0) K N I L R 46 [(0, .ref x0), (1, .int x1), (2, .int x2)] [] := by
  delta w_X12_wordAt_46 at h
  obtain ⟨J, ⟨n, h0⟩, hs⟩ := h
  have key : ∀ (n : Nat) (x0 : Nat) (x1 : Int32) (x2 : Int32) (I : MI), J n x0 x1 x2 I → Z X G 3 0 0 (z_T X G (qIi K N L R Q) 0 0) K N I L R 46 [(0, .ref x0), (1, .int x1), (2, .int x2)] [] := by
    intro n
    induction n using Nat.strongRecOn with
    | _ n ih =>
      intro x0 x1 x2 I hJ
      have hC46 : ∀ (y0 : Nat) (y1 : Int32) (y2 : Int32) (zI : MI), (∃ n1, n1 < n ∧ J n1 y0 y1 y2 zI) → Z X G 3 0 0 (z_T X G (qIi K N L R Q) 0 0) K N zI L R 46 [(0, .ref y0), (1, .int y1), (2, .int y2)] [] := fun y0 y1 y2 zI ⟨n1, hn1, hj⟩ => ih n1 hn1 y0 y1 y2 zI hj
      have h := hs n x0 x1 x2 I hJ
      refine z_iload_n hC (q := 2) dX12_wordAt_46 rfl rfl ?_
      refine z_aload_n hC (q := 0) dX12_wordAt_47 rfl rfl ?_
      obtain ⟨hk7, h⟩ := h
      obtain ⟨b8, hb8, h⟩ := h
      refine gf_RX12_98 hC dX12_wordAt_48 hk7 hb8 ?_
      refine z_sipush hC (v := 198) k_sipush_198 dX12_wordAt_51 ?_
      refine z_iload_n hC (q := 1) dX12_wordAt_54 rfl rfl ?_
      refine z_iadd hC dX12_wordAt_55 ?_
      obtain ⟨hk9, h⟩ := h
      obtain ⟨hi10, h⟩ := h
      refine z_iaload hC hk9 hi10 dX12_wordAt_56 ?_
      refine z_icmp_ge hC (tgt := 98) dX12_wordAt_57 (by decide) (fun hc => ?_) (fun hc => ?_)
      · have h := h.1 hc
        refine z_aload_n hC (q := 0) dX12_wordAt_98 rfl rfl ?_
        obtain ⟨b11, hb11, h⟩ := h
        refine gf_RX12_136 hC dX12_wordAt_99 hk7 hb11 ?_
        refine z_aload_n hC (q := 0) dX12_wordAt_102 rfl rfl ?_
        refine gf_RX12_295 hC dX12_wordAt_103 hk7 ?_
        refine z_iconst hC (v := 1) k_iconst_1 dX12_wordAt_106 ?_
        refine z_isub hC dX12_wordAt_107 ?_
        obtain ⟨hk12, h⟩ := h
        obtain ⟨hi13, h⟩ := h
        refine z_iaload hC hk12 hi13 dX12_wordAt_108 ?_
        refine z_topi (fun v14 ev14 => ?_)
        have h := h v14 ev14
        refine z_istore_n hC (lv1 := [(2, .int v14), (0, .ref x0), (1, .int x1)]) dX12_wordAt_109 rfl (by decide) rfl ?_
        refine z_aload_n hC (q := 1) dX12_wordAt_110 rfl rfl ?_
        refine gf_RX12_98 hC dX12_wordAt_111 hk7 hb8 ?_
        refine z_sipush hC (v := 182) k_sipush_182 dX12_wordAt_114 ?_
        refine z_iload_n hC (q := 2) dX12_wordAt_117 rfl rfl ?_
        refine z_iadd hC dX12_wordAt_118 ?_
        obtain ⟨hi15, h⟩ := h
        refine z_iaload hC hk9 hi15 dX12_wordAt_119 ?_
        refine z_iconst hC (v := 1) k_iconst_1 dX12_wordAt_120 ?_
        refine z_icmp_ne hC (tgt := 130) dX12_wordAt_121 (by decide) (fun hc => ?_) (fun hc => ?_)
        · have h := h.1 hc
          refine z_iload_n hC (q := 0) dX12_wordAt_130 rfl rfl ?_
          refine z_iconst hC (v := 0) k_iconst_0 dX12_wordAt_131 ?_
          refine z_bipush hC (v := 63) k_bipush_63 dX12_wordAt_132 ?_
          refine cl_RX12_75 hC (c_X12_isIn _ G v14 0 63 K N I L R _ h) dX12_wordAt_134 (by rw [hRm]; exact ⟨Nat.le_of_ble_eq_true rfl, Nat.le_of_ble_eq_true rfl⟩) ⟨Nat.zero_le _, Nat.zero_le _⟩ (Nat.le_of_ble_eq_true rfl) (z_kPz (fun r16 h => ?_))
          refine z_ifz_eq hC (tgt := 151) dX12_wordAt_137 (by decide) (fun hc => ?_) (fun hc => ?_)
          · have h := h.1 hc
            refine z_aload_n hC (q := 1) dX12_wordAt_151 rfl rfl ?_
            refine z_iconst hC (v := 3) k_iconst_3 dX12_wordAt_152 ?_
            refine pf_RX12_301 hC dX12_wordAt_153 hk7 ?_
            refine z_genI (fun I17 eI17 => ?_)
            have h := h I17 eI17
            refine z_iconst hC (v := 0) k_iconst_0 dX12_wordAt_156 ?_
            exact z_iret hC dX12_wordAt_157 ⟨_, rfl, rfl, rfl, rfl, rfl, h⟩
          · have h := h.2 hc
            refine z_aload_n hC (q := 1) dX12_wordAt_140 rfl rfl ?_
            refine gf_RX12_98 hC dX12_wordAt_141 hk7 hb8 ?_
            refine z_sipush hC (v := 361) k_sipush_361 dX12_wordAt_144 ?_
            refine z_iload_n hC (q := 0) dX12_wordAt_147 rfl rfl ?_
            refine z_iadd hC dX12_wordAt_148 ?_
            obtain ⟨hi18, h⟩ := h
            refine z_iaload hC hk9 hi18 dX12_wordAt_149 ?_
            exact z_iret hC dX12_wordAt_150 ⟨_, rfl, rfl, rfl, rfl, rfl, h⟩
        · have h := h.2 hc
          refine z_iload_n hC (q := 0) dX12_wordAt_124 rfl rfl ?_
          refine z_ldcw hC cst_RX12_307 dX12_wordAt_125 ?_
          refine z_iand hC dX12_wordAt_128 ?_
          exact z_iret hC dX12_wordAt_129 ⟨_, rfl, rfl, rfl, rfl, rfl, h⟩
      · have h := h.2 hc
        refine z_aload_n hC (q := 0) dX12_wordAt_60 rfl rfl ?_
        refine z_aload_n hC (q := 0) dX12_wordAt_61 rfl rfl ?_
        refine gf_RX12_98 hC dX12_wordAt_62 hk7 hb8 ?_
        refine z_sipush hC (v := 214) k_sipush_214 dX12_wordAt_65 ?_
        refine z_bipush hC (v := 8) k_bipush_8 dX12_wordAt_68 ?_
        refine z_iload_n hC (q := 1) dX12_wordAt_70 rfl rfl ?_
        refine z_imul hC dX12_wordAt_71 ?_
        refine z_iadd hC dX12_wordAt_72 ?_
        refine z_iload_n hC (q := 2) dX12_wordAt_73 rfl rfl ?_
        refine z_iadd hC dX12_wordAt_74 ?_
        obtain ⟨hi19, h⟩ := h
        refine z_iaload hC hk9 hi19 dX12_wordAt_75 ?_
        refine cl_RX12_304 hC (c_X12_doOp _ G x0 (I b8 (ix (((214 : Int32) + ((8 : Int32) * x1)) + x2))) K N I L R _ h) hk7 dX12_wordAt_76 (by rw [hRm]; exact ⟨Nat.le_of_ble_eq_true rfl, Nat.le_of_ble_eq_true rfl⟩) ⟨Nat.zero_le _, Nat.zero_le _⟩ (Nat.le_of_ble_eq_true rfl) (z_kIz (I := I) (fun r20 I21 h => ?_))
        refine z_ifz_eq hC (tgt := 85) dX12_wordAt_79 (by decide) (fun hc => ?_) (fun hc => ?_)
        · have h := h.1 hc
          refine z_aload_n hC (q := 0) dX12_wordAt_85 rfl rfl ?_
          refine z_iconst hC (v := 2) k_iconst_2 dX12_wordAt_86 ?_
          refine pf_RX12_301 hC dX12_wordAt_87 hk7 ?_
          refine z_genI (fun I22 eI22 => ?_)
          have h := h I22 eI22
          refine z_iconst hC (v := 0) k_iconst_0 dX12_wordAt_90 ?_
          exact z_iret hC dX12_wordAt_91 ⟨_, rfl, rfl, rfl, rfl, rfl, h⟩
        · have h := h.2 hc
          refine z_goto hC (tgt := 92) dX12_wordAt_82 (by decide) ?_
          obtain ⟨v23, ev23⟩ : ∃ y : Int32, y = x2 + 1 := ⟨_, rfl⟩
          have h := h v23 ev23
          refine z_iinc hC (q := 2) (v := v23) (lv1 := [(2, .int v23), (0, .ref x0), (1, .int x1)]) dX12_wordAt_92 rfl (by rw [ev23, k_iinc_1]) (by decide) rfl ?_
          refine z_goto hC (tgt := 46) dX12_wordAt_95 (by decide) ?_
          exact z_sub [(0, .ref x0), (1, .int x1), (2, .int v23)] [1, 2, 0] rfl (hC46 _ _ _ _ h)
  exact key n x0 x1 x2 I h0
set_option maxHeartbeats 4000000 in
set_option maxRecDepth 100000 in
theorem c_X12_wordAt  (l : Launch) (G : ZG) (a0 : Nat) (a1 : Int32) (K : MK) (N : MK) (I : MI) (L : ML) (R : MR) (Q : Int32 → MI → Prop) (h : w_X12_wordAt a0 a1 K N I L R Q) : Met l yX12_wordAt (.code yX12_wordAt cX12_wordAt 3 (some .int) :: z_tbl) rm_X12_wordAt (z_Pc G [.ref a0, .int a1] K N I L R) (z_Qc G (qIi K N L R Q)) 0 0 (z_A G) := by
  refine z_met (by decide) (Nat.le_of_ble_eq_true rfl) (fun X hX hRm hC0 hnm => ?_)
  subst hX
  have hC : ZOk X G RX12 cX12_wordAt 3 (some .int) := hC0
  show Z X G 3 0 0 _ K N I L R 0 [(0, .ref a0), (1, .int a1)] []
  delta w_X12_wordAt at h
  refine z_aload_n hC (q := 0) dX12_wordAt_0 rfl rfl ?_
  refine z_iconst hC (v := 0) k_iconst_0 dX12_wordAt_1 ?_
  obtain ⟨hk1, h⟩ := h
  refine pf_RX12_301 hC dX12_wordAt_2 hk1 ?_
  refine z_genI (fun I2 eI2 => ?_)
  have h := h I2 eI2
  refine z_aload_n hC (q := 0) dX12_wordAt_5 rfl rfl ?_
  obtain ⟨b3, hb3, h⟩ := h
  refine gf_RX12_98 hC dX12_wordAt_6 hk1 hb3 ?_
  refine z_sipush hC (v := 182) k_sipush_182 dX12_wordAt_9 ?_
  refine z_iload_n hC (q := 1) dX12_wordAt_12 rfl rfl ?_
  refine z_iadd hC dX12_wordAt_13 ?_
  obtain ⟨hk4, h⟩ := h
  obtain ⟨hi5, h⟩ := h
  refine z_iaload hC hk4 hi5 dX12_wordAt_14 ?_
  refine z_iconst hC (v := 2) k_iconst_2 dX12_wordAt_15 ?_
  refine z_icmp_ne hC (tgt := 39) dX12_wordAt_16 (by decide) (fun hc => ?_) (fun hc => ?_)
  · have h := h.1 hc
    refine z_aload_n hC (q := 0) dX12_wordAt_39 rfl rfl ?_
    refine z_iconst hC (v := 0) k_iconst_0 dX12_wordAt_40 ?_
    refine pf_RX12_295 hC dX12_wordAt_41 hk1 ?_
    refine z_genI (fun I6 eI6 => ?_)
    have h := h I6 eI6
    refine z_iconst hC (v := 0) k_iconst_0 dX12_wordAt_44 ?_
    refine z_istore_n hC (lv1 := [(2, .int 0), (0, .ref a0), (1, .int a1)]) dX12_wordAt_45 rfl (by decide) rfl ?_
    exact z_sub [(0, .ref a0), (1, .int a1), (2, .int 0)] [1, 2, 0] rfl (z_X12_wordAt_46 hC hRm h)
  · have h := h.2 hc
    refine z_aload_n hC (q := 0) dX12_wordAt_19 rfl rfl ?_
    refine gf_RX12_98 hC dX12_wordAt_20 hk1 hb3 ?_
    refine z_sipush hC (v := 353) k_sipush_353 dX12_wordAt_23 ?_
    refine z_aload_n hC (q := 0) dX12_wordAt_26 rfl rfl ?_
    refine gf_RX12_98 hC dX12_wordAt_27 hk1 hb3 ?_
    refine z_sipush hC (v := 198) k_sipush_198 dX12_wordAt_30 ?_
    refine z_iload_n hC (q := 1) dX12_wordAt_33 rfl rfl ?_
    refine z_iadd hC dX12_wordAt_34 ?_
    obtain ⟨hi24, h⟩ := h
    refine z_iaload hC hk4 hi24 dX12_wordAt_35 ?_
    refine z_iadd hC dX12_wordAt_36 ?_
    obtain ⟨hi25, h⟩ := h
    refine z_iaload hC hk4 hi25 dX12_wordAt_37 ?_
    exact z_iret hC dX12_wordAt_38 ⟨_, rfl, rfl, rfl, rfl, rfl, h⟩
def w_X12_valueOf  (a0 : Nat) (a1 : Int32) (a2 : Int32) (K : MK) (N : MK) (I : MI) (L : ML) (R : MR) (Q : Int32 → MI → Prop) : Prop := K a0 = 13 ∧ w_X12_whereOf a0 a1 a2 K N I L R (fun r2 => (¬ r2 = (-1) → ∃ b3 : Nat, R a0 14 = some b3 ∧ K b3 = 14 ∧ vp_in ((124 : Int32) + a1) (N b3) ∧ ∀ v6 : Int32, v6 = (I b3 (ix ((124 : Int32) + a1))) → vp_in ((102 : Int32) + v6) (N b3) ∧ ∀ v8 : Int32, v8 = (I b3 (ix ((102 : Int32) + v6))) → w_X12_wordAt a0 r2 K N I L R (fun r9 I10 => vp_in ((96 : Int32) + v6) (N b3) ∧ ∀ v12 : Int32, v12 = ((r9 >>> ((I10 b3 (ix ((96 : Int32) + v6))) &&& 31)) &&& (((1 : Int32) <<< (v8 &&& 31)) - 1)) → vp_in ((108 : Int32) + v6) (N b3) ∧ (¬ (I10 b3 (ix ((108 : Int32) + v6))) = 1 → Q v12 I10) ∧ ((I10 b3 (ix ((108 : Int32) + v6))) = 1 → w_X12_has v12 (v8 - 1) K N I10 L R (fun r14 => (r14 = false → Q v12 I10) ∧ (r14 = true → Q (v12 - ((1 : Int32) <<< (v8 &&& 31))) I10))))) ∧ (r2 = (-1) → ∀ I15 : MI, I15 = mup I a0 31 1 → Q 0 I15))
set_option maxHeartbeats 4000000 in
set_option maxRecDepth 100000 in
theorem c_X12_valueOf  (l : Launch) (G : ZG) (a0 : Nat) (a1 : Int32) (a2 : Int32) (K : MK) (N : MK) (I : MI) (L : ML) (R : MR) (Q : Int32 → MI → Prop) (h : w_X12_valueOf a0 a1 a2 K N I L R Q) : Met l yX12_valueOf (.code yX12_valueOf cX12_valueOf 7 (some .int) :: z_tbl) rm_X12_valueOf (z_Pc G [.ref a0, .int a1, .int a2] K N I L R) (z_Qc G (qIi K N L R Q)) 0 0 (z_A G) := by
  refine z_met (by decide) (Nat.le_of_ble_eq_true rfl) (fun X hX hRm hC0 hnm => ?_)
  subst hX
  have hC : ZOk X G RX12 cX12_valueOf 7 (some .int) := hC0
  show Z X G 7 0 0 _ K N I L R 0 [(0, .ref a0), (1, .int a1), (2, .int a2)] []
  delta w_X12_valueOf at h
  refine z_aload_n hC (q := 0) dX12_valueOf_0 rfl rfl ?_
  refine z_iload_n hC (q := 1) dX12_valueOf_1 rfl rfl ?_
  refine z_iload_n hC (q := 2) dX12_valueOf_2 rfl rfl ?_
  obtain ⟨hk1, h⟩ := h
  refine cl_RX12_308 hC (c_X12_whereOf _ G a0 a1 a2 K N I L R _ h) hk1 dX12_valueOf_3 (by rw [hRm]; exact ⟨Nat.le_of_ble_eq_true rfl, Nat.le_of_ble_eq_true rfl⟩) ⟨Nat.zero_le _, Nat.zero_le _⟩ (Nat.le_of_ble_eq_true rfl) (z_kPi (fun r2 h => ?_))
  refine z_istore_n hC (lv1 := [(3, .int r2), (0, .ref a0), (1, .int a1), (2, .int a2)]) dX12_valueOf_6 rfl (by decide) rfl ?_
  refine z_iload_n hC (q := 0) dX12_valueOf_7 rfl rfl ?_
  refine z_iconst hC (v := (-1)) k_iconst_m1 dX12_valueOf_8 ?_
  refine z_icmp_ne hC (tgt := 19) dX12_valueOf_9 (by decide) (fun hc => ?_) (fun hc => ?_)
  · have h := h.1 hc
    refine z_aload_n hC (q := 1) dX12_valueOf_19 rfl rfl ?_
    obtain ⟨b3, hb3, h⟩ := h
    refine gf_RX12_98 hC dX12_valueOf_20 hk1 hb3 ?_
    refine z_bipush hC (v := 124) k_bipush_124 dX12_valueOf_23 ?_
    refine z_iload_n hC (q := 2) dX12_valueOf_25 rfl rfl ?_
    refine z_iadd hC dX12_valueOf_26 ?_
    obtain ⟨hk4, h⟩ := h
    obtain ⟨hi5, h⟩ := h
    refine z_iaload hC hk4 hi5 dX12_valueOf_27 ?_
    refine z_topi (fun v6 ev6 => ?_)
    have h := h v6 ev6
    refine z_istore hC (lv1 := [(4, .int v6), (3, .int r2), (0, .ref a0), (1, .int a1), (2, .int a2)]) dX12_valueOf_28 (by decide) rfl ?_
    refine z_aload_n hC (q := 2) dX12_valueOf_30 rfl rfl ?_
    refine gf_RX12_98 hC dX12_valueOf_31 hk1 hb3 ?_
    refine z_bipush hC (v := 102) k_bipush_102 dX12_valueOf_34 ?_
    refine z_iload hC (q := 0) dX12_valueOf_36 rfl ?_
    refine z_iadd hC dX12_valueOf_38 ?_
    obtain ⟨hi7, h⟩ := h
    refine z_iaload hC hk4 hi7 dX12_valueOf_39 ?_
    refine z_topi (fun v8 ev8 => ?_)
    have h := h v8 ev8
    refine z_istore hC (lv1 := [(5, .int v8), (4, .int v6), (3, .int r2), (0, .ref a0), (1, .int a1), (2, .int a2)]) dX12_valueOf_40 (by decide) rfl ?_
    refine z_aload_n hC (q := 3) dX12_valueOf_42 rfl rfl ?_
    refine z_iload_n hC (q := 2) dX12_valueOf_43 rfl rfl ?_
    refine cl_RX12_311 hC (c_X12_wordAt _ G a0 r2 K N I L R _ h) hk1 dX12_valueOf_44 (by rw [hRm]; exact ⟨Nat.le_of_ble_eq_true rfl, Nat.le_of_ble_eq_true rfl⟩) ⟨Nat.zero_le _, Nat.zero_le _⟩ (Nat.le_of_ble_eq_true rfl) (z_kIi (I := I) (fun r9 I10 h => ?_))
    refine z_aload_n hC (q := 3) dX12_valueOf_47 rfl rfl ?_
    refine gf_RX12_98 hC dX12_valueOf_48 hk1 hb3 ?_
    refine z_bipush hC (v := 96) k_bipush_96 dX12_valueOf_51 ?_
    refine z_iload hC (q := 1) dX12_valueOf_53 rfl ?_
    refine z_iadd hC dX12_valueOf_55 ?_
    obtain ⟨hi11, h⟩ := h
    refine z_iaload hC hk4 hi11 dX12_valueOf_56 ?_
    refine z_ishr hC dX12_valueOf_57 ?_
    refine z_iconst hC (v := 1) k_iconst_1 dX12_valueOf_58 ?_
    refine z_iload hC (q := 0) dX12_valueOf_59 rfl ?_
    refine z_ishl hC dX12_valueOf_61 ?_
    refine z_iconst hC (v := 1) k_iconst_1 dX12_valueOf_62 ?_
    refine z_isub hC dX12_valueOf_63 ?_
    refine z_iand hC dX12_valueOf_64 ?_
    refine z_topi (fun v12 ev12 => ?_)
    have h := h v12 ev12
    refine z_istore hC (lv1 := [(6, .int v12), (5, .int v8), (4, .int v6), (3, .int r2), (0, .ref a0), (1, .int a1), (2, .int a2)]) dX12_valueOf_65 (by decide) rfl ?_
    refine z_aload_n hC (q := 4) dX12_valueOf_67 rfl rfl ?_
    refine gf_RX12_98 hC dX12_valueOf_68 hk1 hb3 ?_
    refine z_bipush hC (v := 108) k_bipush_108 dX12_valueOf_71 ?_
    refine z_iload hC (q := 2) dX12_valueOf_73 rfl ?_
    refine z_iadd hC dX12_valueOf_75 ?_
    obtain ⟨hi13, h⟩ := h
    refine z_iaload hC hk4 hi13 dX12_valueOf_76 ?_
    refine z_iconst hC (v := 1) k_iconst_1 dX12_valueOf_77 ?_
    refine z_icmp_ne hC (tgt := 103) dX12_valueOf_78 (by decide) (fun hc => ?_) (fun hc => ?_)
    · have h := h.1 hc
      refine z_iload hC (q := 0) dX12_valueOf_103 rfl ?_
      exact z_iret hC dX12_valueOf_105 ⟨_, rfl, rfl, rfl, rfl, rfl, h⟩
    · have h := h.2 hc
      refine z_iload hC (q := 0) dX12_valueOf_81 rfl ?_
      refine z_iload hC (q := 1) dX12_valueOf_83 rfl ?_
      refine z_iconst hC (v := 1) k_iconst_1 dX12_valueOf_85 ?_
      refine z_isub hC dX12_valueOf_86 ?_
      refine cl_RX12_314 hC (c_X12_has _ G v12 (v8 - 1) K N I10 L R _ h) dX12_valueOf_87 (by rw [hRm]; exact ⟨Nat.le_of_ble_eq_true rfl, Nat.le_of_ble_eq_true rfl⟩) ⟨Nat.zero_le _, Nat.zero_le _⟩ (Nat.le_of_ble_eq_true rfl) (z_kPz (fun r14 h => ?_))
      refine z_ifz_eq hC (tgt := 103) dX12_valueOf_90 (by decide) (fun hc => ?_) (fun hc => ?_)
      · have h := h.1 hc
        refine z_iload hC (q := 0) dX12_valueOf_103 rfl ?_
        exact z_iret hC dX12_valueOf_105 ⟨_, rfl, rfl, rfl, rfl, rfl, h⟩
      · have h := h.2 hc
        refine z_iload hC (q := 0) dX12_valueOf_93 rfl ?_
        refine z_iconst hC (v := 1) k_iconst_1 dX12_valueOf_95 ?_
        refine z_iload hC (q := 1) dX12_valueOf_96 rfl ?_
        refine z_ishl hC dX12_valueOf_98 ?_
        refine z_isub hC dX12_valueOf_99 ?_
        refine z_goto hC (tgt := 105) dX12_valueOf_100 (by decide) ?_
        exact z_iret hC dX12_valueOf_105 ⟨_, rfl, rfl, rfl, rfl, rfl, h⟩
  · have h := h.2 hc
    refine z_aload_n hC (q := 1) dX12_valueOf_12 rfl rfl ?_
    refine z_iconst hC (v := 1) k_iconst_1 dX12_valueOf_13 ?_
    refine pf_RX12_301 hC dX12_valueOf_14 hk1 ?_
    refine z_genI (fun I15 eI15 => ?_)
    have h := h I15 eI15
    refine z_iconst hC (v := 0) k_iconst_0 dX12_valueOf_17 ?_
    exact z_iret hC dX12_valueOf_18 ⟨_, rfl, rfl, rfl, rfl, rfl, h⟩
def w_X12_isThere  (a0 : Nat) (a1 : Int32) (K : MK) (N : MK) (I : MI) (L : ML) (R : MR) (Q : Bool → MI → Prop) : Prop := K a0 = 13 ∧ ∃ b2 : Nat, R a0 14 = some b2 ∧ K b2 = 14 ∧ vp_in 342 (N b2) ∧ w_X12_valueOf a0 a1 (I b2 (ix 342)) K N I L R (fun r5 I6 => (¬ (I6 a0 31) = 0 → Q false I6) ∧ ((I6 a0 31) = 0 → Q true I6))
set_option maxHeartbeats 4000000 in
set_option maxRecDepth 100000 in
theorem c_X12_isThere  (l : Launch) (G : ZG) (a0 : Nat) (a1 : Int32) (K : MK) (N : MK) (I : MI) (L : ML) (R : MR) (Q : Bool → MI → Prop) (h : w_X12_isThere a0 a1 K N I L R Q) : Met l yX12_isThere (.code yX12_isThere cX12_isThere 2 (some .boolean) :: z_tbl) rm_X12_isThere (z_Pc G [.ref a0, .int a1] K N I L R) (z_Qc G (qIz K N L R Q)) 0 0 (z_A G) := by
  refine z_met (by decide) (Nat.le_of_ble_eq_true rfl) (fun X hX hRm hC0 hnm => ?_)
  subst hX
  have hC : ZOk X G RX12 cX12_isThere 2 (some .boolean) := hC0
  show Z X G 2 0 0 _ K N I L R 0 [(0, .ref a0), (1, .int a1)] []
  delta w_X12_isThere at h
  refine z_aload_n hC (q := 0) dX12_isThere_0 rfl rfl ?_
  refine z_iload_n hC (q := 1) dX12_isThere_1 rfl rfl ?_
  refine z_aload_n hC (q := 0) dX12_isThere_2 rfl rfl ?_
  obtain ⟨hk1, h⟩ := h
  obtain ⟨b2, hb2, h⟩ := h
  refine gf_RX12_98 hC dX12_isThere_3 hk1 hb2 ?_
  refine z_sipush hC (v := 342) k_sipush_342 dX12_isThere_6 ?_
  obtain ⟨hk3, h⟩ := h
  obtain ⟨hi4, h⟩ := h
  refine z_iaload hC hk3 hi4 dX12_isThere_9 ?_
  refine cl_RX12_317 hC (c_X12_valueOf _ G a0 a1 (I b2 (ix 342)) K N I L R _ h) hk1 dX12_isThere_10 (by rw [hRm]; exact ⟨Nat.le_of_ble_eq_true rfl, Nat.le_of_ble_eq_true rfl⟩) ⟨Nat.zero_le _, Nat.zero_le _⟩ (Nat.le_of_ble_eq_true rfl) (z_kIi (I := I) (fun r5 I6 h => ?_))
  refine z_pop hC rfl dX12_isThere_13 ?_
  refine z_aload_n hC (q := 0) dX12_isThere_14 rfl rfl ?_
  refine gf_RX12_301 hC dX12_isThere_15 hk1 ?_
  refine z_if_ne hC (tgt := 25) dX12_isThere_18 (by decide) (fun hc => ?_) (fun hc => ?_)
  · have h := h.1 hc
    refine z_iconst hC (v := 0) k_iconst_0 dX12_isThere_25 ?_
    exact z_zret (b := false) hC dX12_isThere_26 rfl ⟨false, rfl, rfl, rfl, rfl, rfl, h⟩
  · have h := h.2 hc
    refine z_iconst hC (v := 1) k_iconst_1 dX12_isThere_21 ?_
    refine z_goto hC (tgt := 26) dX12_isThere_22 (by decide) ?_
    exact z_zret (b := true) hC dX12_isThere_26 rfl ⟨true, rfl, rfl, rfl, rfl, rfl, h⟩
def w_X12_thoseThere_4  (x0 : Nat) (x1 : Int32) (x2 : Int32)  (K : MK) (N : MK) (I : MI) (L : ML) (R : MR)  (Q : Int32 → MI → Prop) : Prop := ∃ J : Nat → Nat → Int32 → Int32 → MI → Prop, (∃ n, J n x0 x1 x2 I) ∧ ∀ (n : Nat) (x0 : Nat) (x1 : Int32) (x2 : Int32) (I : MI), J n x0 x1 x2 I → K x0 = 13 ∧ ∃ b2 : Nat, R x0 14 = some b2 ∧ K b2 = 14 ∧ vp_in 4 (N b2) ∧ ((I b2 (ix 4)) ≤ x2 → Q x1 I) ∧ (¬ (I b2 (ix 4)) ≤ x2 → w_X12_isThere x0 x2 K N I L R (fun r5 I6 => (r5 = false → ∀ v7 : Int32, v7 = x2 + 1 → ∃ n1, n1 < n ∧ J n1 x0 x1 v7 I6) ∧ (r5 = true → ∀ v8 : Int32, v8 = (x1 ||| ((1 : Int32) <<< (x2 &&& 31))) → ∀ v9 : Int32, v9 = x2 + 1 → ∃ n1, n1 < n ∧ J n1 x0 v8 v9 I6)))
def w_X12_thoseThere  (a0 : Nat) (K : MK) (N : MK) (I : MI) (L : ML) (R : MR) (Q : Int32 → MI → Prop) : Prop := w_X12_thoseThere_4 a0 0 0 K N I L R Q
set_option maxHeartbeats 4000000 in
set_option maxRecDepth 100000 in
theorem z_X12_thoseThere_4 {X : ZX} {G : ZG}  {x0 : Nat} {x1 : Int32} {x2 : Int32}  {K : MK} {N : MK} {I : MI} {L : ML} {R : MR}  {Q : Int32 → MI → Prop} (hC : ZOk X G RX12 cX12_thoseThere 3 (some .int)) (hRm : X.2.2.2.1 = rm_X12_thoseThere) (h : w_X12_thoseThere_4 x0 x1 x2 K N I L R  Q) : Z X G 3 0 0 (z_T X G (qIi K N L R Q) 0 0) K N I L R 4 [(0, .ref x0), (1, .int x1), (2, .int x2)] [] := by
  delta w_X12_thoseThere_4 at h
  obtain ⟨J, ⟨n, h0⟩, hs⟩ := h
  have key : ∀ (n : Nat) (x0 : Nat) (x1 : Int32) (x2 : Int32) (I : MI), J n x0 x1 x2 I → Z X G 3 0 0 (z_T X G (qIi K N L R Q) 0 0) K N I L R 4 [(0, .ref x0), (1, .int x1), (2, .int x2)] [] := by
    intro n
    induction n using Nat.strongRecOn with
    | _ n ih =>
      intro x0 x1 x2 I hJ
      have hC4 : ∀ (y0 : Nat) (y1 : Int32) (y2 : Int32) (zI : MI), (∃ n1, n1 < n ∧ J n1 y0 y1 y2 zI) → Z X G 3 0 0 (z_T X G (qIi K N L R Q) 0 0) K N zI L R 4 [(0, .ref y0), (1, .int y1), (2, .int y2)] [] := fun y0 y1 y2 zI ⟨n1, hn1, hj⟩ => ih n1 hn1 y0 y1 y2 zI hj
      have h := hs n x0 x1 x2 I hJ
      refine z_iload_n hC (q := 2) dX12_thoseThere_4 rfl rfl ?_
      refine z_aload_n hC (q := 0) dX12_thoseThere_5 rfl rfl ?_
      obtain ⟨hk1, h⟩ := h
      obtain ⟨b2, hb2, h⟩ := h
      refine gf_RX12_98 hC dX12_thoseThere_6 hk1 hb2 ?_
      refine z_iconst hC (v := 4) k_iconst_4 dX12_thoseThere_9 ?_
      obtain ⟨hk3, h⟩ := h
      obtain ⟨hi4, h⟩ := h
      refine z_iaload hC hk3 hi4 dX12_thoseThere_10 ?_
      refine z_icmp_ge hC (tgt := 34) dX12_thoseThere_11 (by decide) (fun hc => ?_) (fun hc => ?_)
      · have h := h.1 hc
        refine z_iload_n hC (q := 1) dX12_thoseThere_34 rfl rfl ?_
        exact z_iret hC dX12_thoseThere_35 ⟨_, rfl, rfl, rfl, rfl, rfl, h⟩
      · have h := h.2 hc
        refine z_aload_n hC (q := 0) dX12_thoseThere_14 rfl rfl ?_
        refine z_iload_n hC (q := 2) dX12_thoseThere_15 rfl rfl ?_
        refine cl_RX12_320 hC (c_X12_isThere _ G x0 x2 K N I L R _ h) hk1 dX12_thoseThere_16 (by rw [hRm]; exact ⟨Nat.le_of_ble_eq_true rfl, Nat.le_of_ble_eq_true rfl⟩) ⟨Nat.zero_le _, Nat.zero_le _⟩ (Nat.le_of_ble_eq_true rfl) (z_kIz (I := I) (fun r5 I6 h => ?_))
        refine z_ifz_eq hC (tgt := 28) dX12_thoseThere_19 (by decide) (fun hc => ?_) (fun hc => ?_)
        · have h := h.1 hc
          obtain ⟨v7, ev7⟩ : ∃ y : Int32, y = x2 + 1 := ⟨_, rfl⟩
          have h := h v7 ev7
          refine z_iinc hC (q := 2) (v := v7) (lv1 := [(2, .int v7), (0, .ref x0), (1, .int x1)]) dX12_thoseThere_28 rfl (by rw [ev7, k_iinc_1]) (by decide) rfl ?_
          refine z_goto hC (tgt := 4) dX12_thoseThere_31 (by decide) ?_
          exact z_sub [(0, .ref x0), (1, .int x1), (2, .int v7)] [1, 2, 0] rfl (hC4 _ _ _ _ h)
        · have h := h.2 hc
          refine z_iload_n hC (q := 1) dX12_thoseThere_22 rfl rfl ?_
          refine z_iconst hC (v := 1) k_iconst_1 dX12_thoseThere_23 ?_
          refine z_iload_n hC (q := 2) dX12_thoseThere_24 rfl rfl ?_
          refine z_ishl hC dX12_thoseThere_25 ?_
          refine z_ior hC dX12_thoseThere_26 ?_
          refine z_topi (fun v8 ev8 => ?_)
          have h := h v8 ev8
          refine z_istore_n hC (lv1 := [(1, .int v8), (0, .ref x0), (2, .int x2)]) dX12_thoseThere_27 rfl (by decide) rfl ?_
          obtain ⟨v9, ev9⟩ : ∃ y : Int32, y = x2 + 1 := ⟨_, rfl⟩
          have h := h v9 ev9
          refine z_iinc hC (q := 2) (v := v9) (lv1 := [(2, .int v9), (1, .int v8), (0, .ref x0)]) dX12_thoseThere_28 rfl (by rw [ev9, k_iinc_1]) (by decide) rfl ?_
          refine z_goto hC (tgt := 4) dX12_thoseThere_31 (by decide) ?_
          exact z_sub [(0, .ref x0), (1, .int v8), (2, .int v9)] [2, 1, 0] rfl (hC4 _ _ _ _ h)
  exact key n x0 x1 x2 I h0
set_option maxHeartbeats 4000000 in
set_option maxRecDepth 100000 in
theorem c_X12_thoseThere  (l : Launch) (G : ZG) (a0 : Nat) (K : MK) (N : MK) (I : MI) (L : ML) (R : MR) (Q : Int32 → MI → Prop) (h : w_X12_thoseThere a0 K N I L R Q) : Met l yX12_thoseThere (.code yX12_thoseThere cX12_thoseThere 3 (some .int) :: z_tbl) rm_X12_thoseThere (z_Pc G [.ref a0] K N I L R) (z_Qc G (qIi K N L R Q)) 0 0 (z_A G) := by
  refine z_met (by decide) (Nat.le_of_ble_eq_true rfl) (fun X hX hRm hC0 hnm => ?_)
  subst hX
  have hC : ZOk X G RX12 cX12_thoseThere 3 (some .int) := hC0
  show Z X G 3 0 0 _ K N I L R 0 [(0, .ref a0)] []
  delta w_X12_thoseThere at h
  refine z_iconst hC (v := 0) k_iconst_0 dX12_thoseThere_0 ?_
  refine z_istore_n hC (lv1 := [(1, .int 0), (0, .ref a0)]) dX12_thoseThere_1 rfl (by decide) rfl ?_
  refine z_iconst hC (v := 0) k_iconst_0 dX12_thoseThere_2 ?_
  refine z_istore_n hC (lv1 := [(2, .int 0), (1, .int 0), (0, .ref a0)]) dX12_thoseThere_3 rfl (by decide) rfl ?_
  exact z_sub [(0, .ref a0), (1, .int 0), (2, .int 0)] [2, 1, 0] rfl (z_X12_thoseThere_4 hC hRm h)
def w_X12_wheresOf_4  (x0 : Nat) (x1 : Int32) (x2 : Int32) (x3 : Int32)  (K : MK) (N : MK) (I : MI) (L : ML) (R : MR)  (Q : Int32 → Prop) : Prop := ∃ J : Nat → Nat → Int32 → Int32 → Int32 → Prop, (∃ n, J n x0 x1 x2 x3) ∧ ∀ (n : Nat) (x0 : Nat) (x1 : Int32) (x2 : Int32) (x3 : Int32), J n x0 x1 x2 x3 → K x0 = 13 ∧ ∃ b2 : Nat, R x0 14 = some b2 ∧ K b2 = 14 ∧ vp_in 5 (N b2) ∧ ((I b2 (ix 5)) ≤ x3 → Q x2) ∧ (¬ (I b2 (ix 5)) ≤ x3 → vp_in ((134 : Int32) + x3) (N b2) ∧ (¬ (I b2 (ix ((134 : Int32) + x3))) = x1 → ∀ v6 : Int32, v6 = x3 + 1 → ∃ n1, n1 < n ∧ J n1 x0 x1 x2 v6) ∧ ((I b2 (ix ((134 : Int32) + x3))) = x1 → ∀ v7 : Int32, v7 = x2 + 1 → ∀ v8 : Int32, v8 = x3 + 1 → ∃ n1, n1 < n ∧ J n1 x0 x1 v7 v8))
def w_X12_wheresOf  (a0 : Nat) (a1 : Int32) (K : MK) (N : MK) (I : MI) (L : ML) (R : MR) (Q : Int32 → Prop) : Prop := w_X12_wheresOf_4 a0 a1 0 0 K N I L R Q
set_option maxHeartbeats 4000000 in
set_option maxRecDepth 100000 in
theorem z_X12_wheresOf_4 {X : ZX} {G : ZG}  {x0 : Nat} {x1 : Int32} {x2 : Int32} {x3 : Int32}  {K : MK} {N : MK} {I : MI} {L : ML} {R : MR}  {Q : Int32 → Prop} (hC : ZOk X G RX12 cX12_wheresOf 4 (some .int)) (hRm : X.2.2.2.1 = rm_X12_wheresOf) (h : w_X12_wheresOf_4 x0 x1 x2 x3 K N I L R  Q) : Z X G 4 0 0 (z_T X G (qPi K N I L R Q) 0 0) K N I L R 4 [(0, .ref x0), (1, .int x1), (2, .int x2), (3, .int x3)] [] := by
  delta w_X12_wheresOf_4 at h
  obtain ⟨J, ⟨n, h0⟩, hs⟩ := h
  have key : ∀ (n : Nat) (x0 : Nat) (x1 : Int32) (x2 : Int32) (x3 : Int32), J n x0 x1 x2 x3 → Z X G 4 0 0 (z_T X G (qPi K N I L R Q) 0 0) K N I L R 4 [(0, .ref x0), (1, .int x1), (2, .int x2), (3, .int x3)] [] := by
    intro n
    induction n using Nat.strongRecOn with
    | _ n ih =>
      intro x0 x1 x2 x3 hJ
      have hC4 : ∀ (y0 : Nat) (y1 : Int32) (y2 : Int32) (y3 : Int32) , (∃ n1, n1 < n ∧ J n1 y0 y1 y2 y3) → Z X G 4 0 0 (z_T X G (qPi K N I L R Q) 0 0) K N I L R 4 [(0, .ref y0), (1, .int y1), (2, .int y2), (3, .int y3)] [] := fun y0 y1 y2 y3 ⟨n1, hn1, hj⟩ => ih n1 hn1 y0 y1 y2 y3 hj
      have h := hs n x0 x1 x2 x3 hJ
      refine z_iload_n hC (q := 3) dX12_wheresOf_4 rfl rfl ?_
      refine z_aload_n hC (q := 0) dX12_wheresOf_5 rfl rfl ?_
      obtain ⟨hk1, h⟩ := h
      obtain ⟨b2, hb2, h⟩ := h
      refine gf_RX12_98 hC dX12_wheresOf_6 hk1 hb2 ?_
      refine z_iconst hC (v := 5) k_iconst_5 dX12_wheresOf_9 ?_
      obtain ⟨hk3, h⟩ := h
      obtain ⟨hi4, h⟩ := h
      refine z_iaload hC hk3 hi4 dX12_wheresOf_10 ?_
      refine z_icmp_ge hC (tgt := 37) dX12_wheresOf_11 (by decide) (fun hc => ?_) (fun hc => ?_)
      · have h := h.1 hc
        refine z_iload_n hC (q := 2) dX12_wheresOf_37 rfl rfl ?_
        exact z_iret hC dX12_wheresOf_38 ⟨_, rfl, rfl, rfl, rfl, rfl, rfl, h⟩
      · have h := h.2 hc
        refine z_aload_n hC (q := 0) dX12_wheresOf_14 rfl rfl ?_
        refine gf_RX12_98 hC dX12_wheresOf_15 hk1 hb2 ?_
        refine z_sipush hC (v := 134) k_sipush_134 dX12_wheresOf_18 ?_
        refine z_iload_n hC (q := 3) dX12_wheresOf_21 rfl rfl ?_
        refine z_iadd hC dX12_wheresOf_22 ?_
        obtain ⟨hi5, h⟩ := h
        refine z_iaload hC hk3 hi5 dX12_wheresOf_23 ?_
        refine z_iload_n hC (q := 1) dX12_wheresOf_24 rfl rfl ?_
        refine z_icmp_ne hC (tgt := 31) dX12_wheresOf_25 (by decide) (fun hc => ?_) (fun hc => ?_)
        · have h := h.1 hc
          obtain ⟨v6, ev6⟩ : ∃ y : Int32, y = x3 + 1 := ⟨_, rfl⟩
          have h := h v6 ev6
          refine z_iinc hC (q := 3) (v := v6) (lv1 := [(3, .int v6), (0, .ref x0), (1, .int x1), (2, .int x2)]) dX12_wheresOf_31 rfl (by rw [ev6, k_iinc_1]) (by decide) rfl ?_
          refine z_goto hC (tgt := 4) dX12_wheresOf_34 (by decide) ?_
          exact z_sub [(0, .ref x0), (1, .int x1), (2, .int x2), (3, .int v6)] [1, 2, 3, 0] rfl (hC4 _ _ _ _ h)
        · have h := h.2 hc
          obtain ⟨v7, ev7⟩ : ∃ y : Int32, y = x2 + 1 := ⟨_, rfl⟩
          have h := h v7 ev7
          refine z_iinc hC (q := 2) (v := v7) (lv1 := [(2, .int v7), (0, .ref x0), (1, .int x1), (3, .int x3)]) dX12_wheresOf_28 rfl (by rw [ev7, k_iinc_1]) (by decide) rfl ?_
          obtain ⟨v8, ev8⟩ : ∃ y : Int32, y = x3 + 1 := ⟨_, rfl⟩
          have h := h v8 ev8
          refine z_iinc hC (q := 3) (v := v8) (lv1 := [(3, .int v8), (2, .int v7), (0, .ref x0), (1, .int x1)]) dX12_wheresOf_31 rfl (by rw [ev8, k_iinc_1]) (by decide) rfl ?_
          refine z_goto hC (tgt := 4) dX12_wheresOf_34 (by decide) ?_
          exact z_sub [(0, .ref x0), (1, .int x1), (2, .int v7), (3, .int v8)] [2, 3, 1, 0] rfl (hC4 _ _ _ _ h)
  exact key n x0 x1 x2 x3 h0
set_option maxHeartbeats 4000000 in
set_option maxRecDepth 100000 in
theorem c_X12_wheresOf  (l : Launch) (G : ZG) (a0 : Nat) (a1 : Int32) (K : MK) (N : MK) (I : MI) (L : ML) (R : MR) (Q : Int32 → Prop) (h : w_X12_wheresOf a0 a1 K N I L R Q) : Met l yX12_wheresOf (.code yX12_wheresOf cX12_wheresOf 4 (some .int) :: z_tbl) rm_X12_wheresOf (z_Pc G [.ref a0, .int a1] K N I L R) (z_Qc G (qPi K N I L R Q)) 0 0 (z_A G) := by
  refine z_met (by decide) (Nat.le_of_ble_eq_true rfl) (fun X hX hRm hC0 hnm => ?_)
  subst hX
  have hC : ZOk X G RX12 cX12_wheresOf 4 (some .int) := hC0
  show Z X G 4 0 0 _ K N I L R 0 [(0, .ref a0), (1, .int a1)] []
  delta w_X12_wheresOf at h
  refine z_iconst hC (v := 0) k_iconst_0 dX12_wheresOf_0 ?_
  refine z_istore_n hC (lv1 := [(2, .int 0), (0, .ref a0), (1, .int a1)]) dX12_wheresOf_1 rfl (by decide) rfl ?_
  refine z_iconst hC (v := 0) k_iconst_0 dX12_wheresOf_2 ?_
  refine z_istore_n hC (lv1 := [(3, .int 0), (2, .int 0), (0, .ref a0), (1, .int a1)]) dX12_wheresOf_3 rfl (by decide) rfl ?_
  exact z_sub [(0, .ref a0), (1, .int a1), (2, .int 0), (3, .int 0)] [2, 3, 1, 0] rfl (z_X12_wheresOf_4 hC hRm h)
def w_X12_var  (a0 : Nat) (a1 : Int32) (a2 : Int32) (K : MK) (N : MK) (I : MI) (L : ML) (R : MR) (Q : Int32 → MI → Prop) : Prop := K a0 = 13 ∧ ∀ I2 : MI, I2 = mup I a0 0 0 → w_X12_isVar a0 a1 K N I2 L R (fun r3 => (r3 = true → ∃ b4 : Nat, R a0 14 = some b4 ∧ K b4 = 14 ∧ vp_in ((124 : Int32) + a1) (N b4) ∧ ∀ v7 : Int32, v7 = (I2 b4 (ix ((124 : Int32) + a1))) → (a2 = 0 → vp_in ((114 : Int32) + a1) (N b4) ∧ Q (I2 b4 (ix ((114 : Int32) + a1))) I2) ∧ (¬ a2 = 0 → (a2 = 1 → Q v7 I2) ∧ (¬ a2 = 1 → (a2 = 2 → w_X12_wheresOf a0 a1 K N I2 L R (fun r9 => Q r9 I2)) ∧ (¬ a2 = 2 → (a2 = 3 → vp_in ((96 : Int32) + v7) (N b4) ∧ Q (I2 b4 (ix ((96 : Int32) + v7))) I2) ∧ (¬ a2 = 3 → (a2 = 4 → vp_in ((102 : Int32) + v7) (N b4) ∧ Q (I2 b4 (ix ((102 : Int32) + v7))) I2) ∧ (¬ a2 = 4 → (a2 = 5 → vp_in ((108 : Int32) + v7) (N b4) ∧ Q (I2 b4 (ix ((108 : Int32) + v7))) I2) ∧ (¬ a2 = 5 → Q (-1) I2))))))) ∧ (r3 = false → Q (-1) I2))
set_option maxHeartbeats 4000000 in
set_option maxRecDepth 100000 in
theorem c_X12_var  (l : Launch) (G : ZG) (a0 : Nat) (a1 : Int32) (a2 : Int32) (K : MK) (N : MK) (I : MI) (L : ML) (R : MR) (Q : Int32 → MI → Prop) (h : w_X12_var a0 a1 a2 K N I L R Q) : Met l yX12_var (.code yX12_var cX12_var 4 (some .int) :: z_tbl) rm_X12_var (z_Pc G [.ref a0, .int a1, .int a2] K N I L R) (z_Qc G (qIi K N L R Q)) 0 0 (z_A G) := by
  refine z_met (by decide) (Nat.le_of_ble_eq_true rfl) (fun X hX hRm hC0 hnm => ?_)
  subst hX
  have hC : ZOk X G RX12 cX12_var 4 (some .int) := hC0
  show Z X G 4 0 0 _ K N I L R 0 [(0, .ref a0), (1, .int a1), (2, .int a2)] []
  delta w_X12_var at h
  refine z_aload_n hC (q := 0) dX12_var_0 rfl rfl ?_
  refine z_iconst hC (v := 0) k_iconst_0 dX12_var_1 ?_
  obtain ⟨hk1, h⟩ := h
  refine pf_RX12_1 hC dX12_var_2 hk1 ?_
  refine z_genI (fun I2 eI2 => ?_)
  have h := h I2 eI2
  refine z_aload_n hC (q := 0) dX12_var_5 rfl rfl ?_
  refine z_iload_n hC (q := 1) dX12_var_6 rfl rfl ?_
  refine cl_RX12_323 hC (c_X12_isVar _ G a0 a1 K N I2 L R _ h) hk1 dX12_var_7 (by rw [hRm]; exact ⟨Nat.le_of_ble_eq_true rfl, Nat.le_of_ble_eq_true rfl⟩) ⟨Nat.zero_le _, Nat.zero_le _⟩ (Nat.le_of_ble_eq_true rfl) (z_kPz (fun r3 h => ?_))
  refine z_ifz_ne hC (tgt := 15) dX12_var_10 (by decide) (fun hc => ?_) (fun hc => ?_)
  · have h := h.1 hc
    refine z_aload_n hC (q := 0) dX12_var_15 rfl rfl ?_
    obtain ⟨b4, hb4, h⟩ := h
    refine gf_RX12_98 hC dX12_var_16 hk1 hb4 ?_
    refine z_bipush hC (v := 124) k_bipush_124 dX12_var_19 ?_
    refine z_iload_n hC (q := 1) dX12_var_21 rfl rfl ?_
    refine z_iadd hC dX12_var_22 ?_
    obtain ⟨hk5, h⟩ := h
    obtain ⟨hi6, h⟩ := h
    refine z_iaload hC hk5 hi6 dX12_var_23 ?_
    refine z_topi (fun v7 ev7 => ?_)
    have h := h v7 ev7
    refine z_istore_n hC (lv1 := [(3, .int v7), (0, .ref a0), (1, .int a1), (2, .int a2)]) dX12_var_24 rfl (by decide) rfl ?_
    refine z_iload_n hC (q := 3) dX12_var_25 rfl rfl ?_
    by_cases hc0 : a2 = 0
    · have h := h.1 hc0
      refine z_tableIn hC (off := 38) (tgt := 64) 0 hc0 dX12_var_26 (by decide) (by decide) ?_
      refine z_aload_n hC (q := 1) dX12_var_64 rfl rfl ?_
      refine gf_RX12_98 hC dX12_var_65 hk1 hb4 ?_
      refine z_bipush hC (v := 114) k_bipush_114 dX12_var_68 ?_
      refine z_iload_n hC (q := 2) dX12_var_70 rfl rfl ?_
      refine z_iadd hC dX12_var_71 ?_
      obtain ⟨hi8, h⟩ := h
      refine z_iaload hC hk5 hi8 dX12_var_72 ?_
      exact z_iret hC dX12_var_73 ⟨_, rfl, rfl, rfl, rfl, rfl, h⟩
    · have h := h.2 hc0
      by_cases hc1 : a2 = 1
      · have h := h.1 hc1
        refine z_tableIn hC (off := 48) (tgt := 74) 1 hc1 dX12_var_26 (by decide) (by decide) ?_
        refine z_iload_n hC (q := 0) dX12_var_74 rfl rfl ?_
        exact z_iret hC dX12_var_75 ⟨_, rfl, rfl, rfl, rfl, rfl, h⟩
      · have h := h.2 hc1
        by_cases hc2 : a2 = 2
        · have h := h.1 hc2
          refine z_tableIn hC (off := 50) (tgt := 76) 2 hc2 dX12_var_26 (by decide) (by decide) ?_
          refine z_aload_n hC (q := 1) dX12_var_76 rfl rfl ?_
          refine z_iload_n hC (q := 2) dX12_var_77 rfl rfl ?_
          refine cl_RX12_326 hC (c_X12_wheresOf _ G a0 a1 K N I2 L R _ h) hk1 dX12_var_78 (by rw [hRm]; exact ⟨Nat.le_of_ble_eq_true rfl, Nat.le_of_ble_eq_true rfl⟩) ⟨Nat.zero_le _, Nat.zero_le _⟩ (Nat.le_of_ble_eq_true rfl) (z_kPi (fun r9 h => ?_))
          exact z_iret hC dX12_var_81 ⟨_, rfl, rfl, rfl, rfl, rfl, h⟩
        · have h := h.2 hc2
          by_cases hc3 : a2 = 3
          · have h := h.1 hc3
            refine z_tableIn hC (off := 56) (tgt := 82) 3 hc3 dX12_var_26 (by decide) (by decide) ?_
            refine z_aload_n hC (q := 1) dX12_var_82 rfl rfl ?_
            refine gf_RX12_98 hC dX12_var_83 hk1 hb4 ?_
            refine z_bipush hC (v := 96) k_bipush_96 dX12_var_86 ?_
            refine z_iload_n hC (q := 0) dX12_var_88 rfl rfl ?_
            refine z_iadd hC dX12_var_89 ?_
            obtain ⟨hi10, h⟩ := h
            refine z_iaload hC hk5 hi10 dX12_var_90 ?_
            exact z_iret hC dX12_var_91 ⟨_, rfl, rfl, rfl, rfl, rfl, h⟩
          · have h := h.2 hc3
            by_cases hc4 : a2 = 4
            · have h := h.1 hc4
              refine z_tableIn hC (off := 66) (tgt := 92) 4 hc4 dX12_var_26 (by decide) (by decide) ?_
              refine z_aload_n hC (q := 1) dX12_var_92 rfl rfl ?_
              refine gf_RX12_98 hC dX12_var_93 hk1 hb4 ?_
              refine z_bipush hC (v := 102) k_bipush_102 dX12_var_96 ?_
              refine z_iload_n hC (q := 0) dX12_var_98 rfl rfl ?_
              refine z_iadd hC dX12_var_99 ?_
              obtain ⟨hi11, h⟩ := h
              refine z_iaload hC hk5 hi11 dX12_var_100 ?_
              exact z_iret hC dX12_var_101 ⟨_, rfl, rfl, rfl, rfl, rfl, h⟩
            · have h := h.2 hc4
              by_cases hc5 : a2 = 5
              · have h := h.1 hc5
                refine z_tableIn hC (off := 76) (tgt := 102) 5 hc5 dX12_var_26 (by decide) (by decide) ?_
                refine z_aload_n hC (q := 1) dX12_var_102 rfl rfl ?_
                refine gf_RX12_98 hC dX12_var_103 hk1 hb4 ?_
                refine z_bipush hC (v := 108) k_bipush_108 dX12_var_106 ?_
                refine z_iload_n hC (q := 0) dX12_var_108 rfl rfl ?_
                refine z_iadd hC dX12_var_109 ?_
                obtain ⟨hi12, h⟩ := h
                refine z_iaload hC hk5 hi12 dX12_var_110 ?_
                exact z_iret hC dX12_var_111 ⟨_, rfl, rfl, rfl, rfl, rfl, h⟩
              · have h := h.2 hc5
                have hout : a2.toInt < 0 ∨ 5 < a2.toInt := by
                  have hc0 := z_nei hc0 (by decide : (0 : Int32).toInt = 0)
                  have hc1 := z_nei hc1 (by decide : (1 : Int32).toInt = 1)
                  have hc2 := z_nei hc2 (by decide : (2 : Int32).toInt = 2)
                  have hc3 := z_nei hc3 (by decide : (3 : Int32).toInt = 3)
                  have hc4 := z_nei hc4 (by decide : (4 : Int32).toInt = 4)
                  have hc5 := z_nei hc5 (by decide : (5 : Int32).toInt = 5)
                  omega
                refine z_tableOut hC (tgt := 112) dX12_var_26 hout (by decide) ?_
                refine z_iconst hC (v := (-1)) k_iconst_m1 dX12_var_112 ?_
                exact z_iret hC dX12_var_113 ⟨_, rfl, rfl, rfl, rfl, rfl, h⟩
  · have h := h.2 hc
    refine z_iconst hC (v := (-1)) k_iconst_m1 dX12_var_13 ?_
    exact z_iret hC dX12_var_14 ⟨_, rfl, rfl, rfl, rfl, rfl, h⟩
def w_X12_placeOf  (a0 : Nat) (a1 : Int32) (a2 : Int32) (K : MK) (N : MK) (I : MI) (L : ML) (R : MR) (Q : Int32 → MI → Prop) : Prop := K a0 = 13 ∧ ∀ I2 : MI, I2 = mup I a0 0 0 → w_X12_isVar a0 a1 K N I2 L R (fun r3 => (r3 = false → Q (-1) I2) ∧ (r3 = true → w_X12_isAddress a0 a2 K N I2 L R (fun r4 => (r4 = false → Q (-1) I2) ∧ (r4 = true → w_X12_whereOf a0 a1 a2 K N I2 L R (fun r5 => Q r5 I2)))))
set_option maxHeartbeats 4000000 in
set_option maxRecDepth 100000 in
theorem c_X12_placeOf  (l : Launch) (G : ZG) (a0 : Nat) (a1 : Int32) (a2 : Int32) (K : MK) (N : MK) (I : MI) (L : ML) (R : MR) (Q : Int32 → MI → Prop) (h : w_X12_placeOf a0 a1 a2 K N I L R Q) : Met l yX12_placeOf (.code yX12_placeOf cX12_placeOf 3 (some .int) :: z_tbl) rm_X12_placeOf (z_Pc G [.ref a0, .int a1, .int a2] K N I L R) (z_Qc G (qIi K N L R Q)) 0 0 (z_A G) := by
  refine z_met (by decide) (Nat.le_of_ble_eq_true rfl) (fun X hX hRm hC0 hnm => ?_)
  subst hX
  have hC : ZOk X G RX12 cX12_placeOf 3 (some .int) := hC0
  show Z X G 3 0 0 _ K N I L R 0 [(0, .ref a0), (1, .int a1), (2, .int a2)] []
  delta w_X12_placeOf at h
  refine z_aload_n hC (q := 0) dX12_placeOf_0 rfl rfl ?_
  refine z_iconst hC (v := 0) k_iconst_0 dX12_placeOf_1 ?_
  obtain ⟨hk1, h⟩ := h
  refine pf_RX12_1 hC dX12_placeOf_2 hk1 ?_
  refine z_genI (fun I2 eI2 => ?_)
  have h := h I2 eI2
  refine z_aload_n hC (q := 0) dX12_placeOf_5 rfl rfl ?_
  refine z_iload_n hC (q := 1) dX12_placeOf_6 rfl rfl ?_
  refine cl_RX12_323 hC (c_X12_isVar _ G a0 a1 K N I2 L R _ h) hk1 dX12_placeOf_7 (by rw [hRm]; exact ⟨Nat.le_of_ble_eq_true rfl, Nat.le_of_ble_eq_true rfl⟩) ⟨Nat.zero_le _, Nat.zero_le _⟩ (Nat.le_of_ble_eq_true rfl) (z_kPz (fun r3 h => ?_))
  refine z_ifz_eq hC (tgt := 30) dX12_placeOf_10 (by decide) (fun hc => ?_) (fun hc => ?_)
  · have h := h.1 hc
    refine z_iconst hC (v := (-1)) k_iconst_m1 dX12_placeOf_30 ?_
    exact z_iret hC dX12_placeOf_31 ⟨_, rfl, rfl, rfl, rfl, rfl, h⟩
  · have h := h.2 hc
    refine z_aload_n hC (q := 0) dX12_placeOf_13 rfl rfl ?_
    refine z_iload_n hC (q := 2) dX12_placeOf_14 rfl rfl ?_
    refine cl_RX12_267 hC (c_X12_isAddress _ G a0 a2 K N I2 L R _ h) hk1 dX12_placeOf_15 (by rw [hRm]; exact ⟨Nat.le_of_ble_eq_true rfl, Nat.le_of_ble_eq_true rfl⟩) ⟨Nat.zero_le _, Nat.zero_le _⟩ (Nat.le_of_ble_eq_true rfl) (z_kPz (fun r4 h => ?_))
    refine z_ifz_eq hC (tgt := 30) dX12_placeOf_18 (by decide) (fun hc => ?_) (fun hc => ?_)
    · have h := h.1 hc
      refine z_iconst hC (v := (-1)) k_iconst_m1 dX12_placeOf_30 ?_
      exact z_iret hC dX12_placeOf_31 ⟨_, rfl, rfl, rfl, rfl, rfl, h⟩
    · have h := h.2 hc
      refine z_aload_n hC (q := 0) dX12_placeOf_21 rfl rfl ?_
      refine z_iload_n hC (q := 1) dX12_placeOf_22 rfl rfl ?_
      refine z_iload_n hC (q := 2) dX12_placeOf_23 rfl rfl ?_
      refine cl_RX12_308 hC (c_X12_whereOf _ G a0 a1 a2 K N I2 L R _ h) hk1 dX12_placeOf_24 (by rw [hRm]; exact ⟨Nat.le_of_ble_eq_true rfl, Nat.le_of_ble_eq_true rfl⟩) ⟨Nat.zero_le _, Nat.zero_le _⟩ (Nat.le_of_ble_eq_true rfl) (z_kPi (fun r5 h => ?_))
      refine z_goto hC (tgt := 31) dX12_placeOf_27 (by decide) ?_
      exact z_iret hC dX12_placeOf_31 ⟨_, rfl, rfl, rfl, rfl, rfl, h⟩
def w_X12_value  (a0 : Nat) (a1 : Int32) (a2 : Int32) (K : MK) (N : MK) (I : MI) (L : ML) (R : MR) (Q : Int32 → MI → Prop) : Prop := K a0 = 13 ∧ ∀ I2 : MI, I2 = mup I a0 0 0 → w_X12_isVar a0 a1 K N I2 L R (fun r3 => (r3 = false → w_X12_refuse a0 K N I2 L R (fun r4 I5 => Q r4 I5)) ∧ (r3 = true → w_X12_isAddress a0 a2 K N I2 L R (fun r6 => (r6 = true → w_X12_valueOf a0 a1 a2 K N I2 L R (fun r7 I8 => (¬ (I8 a0 31) = 0 → w_X12_refuse a0 K N I8 L R (fun r9 I10 => Q r9 I10)) ∧ ((I8 a0 31) = 0 → Q r7 I8))) ∧ (r6 = false → w_X12_refuse a0 K N I2 L R (fun r11 I12 => Q r11 I12)))))
set_option maxHeartbeats 4000000 in
set_option maxRecDepth 100000 in
theorem c_X12_value  (l : Launch) (G : ZG) (a0 : Nat) (a1 : Int32) (a2 : Int32) (K : MK) (N : MK) (I : MI) (L : ML) (R : MR) (Q : Int32 → MI → Prop) (h : w_X12_value a0 a1 a2 K N I L R Q) : Met l yX12_value (.code yX12_value cX12_value 4 (some .int) :: z_tbl) rm_X12_value (z_Pc G [.ref a0, .int a1, .int a2] K N I L R) (z_Qc G (qIi K N L R Q)) 0 0 (z_A G) := by
  refine z_met (by decide) (Nat.le_of_ble_eq_true rfl) (fun X hX hRm hC0 hnm => ?_)
  subst hX
  have hC : ZOk X G RX12 cX12_value 4 (some .int) := hC0
  show Z X G 4 0 0 _ K N I L R 0 [(0, .ref a0), (1, .int a1), (2, .int a2)] []
  delta w_X12_value at h
  refine z_aload_n hC (q := 0) dX12_value_0 rfl rfl ?_
  refine z_iconst hC (v := 0) k_iconst_0 dX12_value_1 ?_
  obtain ⟨hk1, h⟩ := h
  refine pf_RX12_1 hC dX12_value_2 hk1 ?_
  refine z_genI (fun I2 eI2 => ?_)
  have h := h I2 eI2
  refine z_aload_n hC (q := 0) dX12_value_5 rfl rfl ?_
  refine z_iload_n hC (q := 1) dX12_value_6 rfl rfl ?_
  refine cl_RX12_323 hC (c_X12_isVar _ G a0 a1 K N I2 L R _ h) hk1 dX12_value_7 (by rw [hRm]; exact ⟨Nat.le_of_ble_eq_true rfl, Nat.le_of_ble_eq_true rfl⟩) ⟨Nat.zero_le _, Nat.zero_le _⟩ (Nat.le_of_ble_eq_true rfl) (z_kPz (fun r3 h => ?_))
  refine z_ifz_eq hC (tgt := 21) dX12_value_10 (by decide) (fun hc => ?_) (fun hc => ?_)
  · have h := h.1 hc
    refine z_aload_n hC (q := 0) dX12_value_21 rfl rfl ?_
    refine cl_RX12_329 hC (c_X12_refuse _ G a0 K N I2 L R _ h) hk1 dX12_value_22 (by rw [hRm]; exact ⟨Nat.le_of_ble_eq_true rfl, Nat.le_of_ble_eq_true rfl⟩) ⟨Nat.zero_le _, Nat.zero_le _⟩ (Nat.le_of_ble_eq_true rfl) (z_kIi (I := I2) (fun r4 I5 h => ?_))
    exact z_iret hC dX12_value_25 ⟨_, rfl, rfl, rfl, rfl, rfl, h⟩
  · have h := h.2 hc
    refine z_aload_n hC (q := 0) dX12_value_13 rfl rfl ?_
    refine z_iload_n hC (q := 2) dX12_value_14 rfl rfl ?_
    refine cl_RX12_267 hC (c_X12_isAddress _ G a0 a2 K N I2 L R _ h) hk1 dX12_value_15 (by rw [hRm]; exact ⟨Nat.le_of_ble_eq_true rfl, Nat.le_of_ble_eq_true rfl⟩) ⟨Nat.zero_le _, Nat.zero_le _⟩ (Nat.le_of_ble_eq_true rfl) (z_kPz (fun r6 h => ?_))
    refine z_ifz_ne hC (tgt := 26) dX12_value_18 (by decide) (fun hc => ?_) (fun hc => ?_)
    · have h := h.1 hc
      refine z_aload_n hC (q := 0) dX12_value_26 rfl rfl ?_
      refine z_iload_n hC (q := 1) dX12_value_27 rfl rfl ?_
      refine z_iload_n hC (q := 2) dX12_value_28 rfl rfl ?_
      refine cl_RX12_317 hC (c_X12_valueOf _ G a0 a1 a2 K N I2 L R _ h) hk1 dX12_value_29 (by rw [hRm]; exact ⟨Nat.le_of_ble_eq_true rfl, Nat.le_of_ble_eq_true rfl⟩) ⟨Nat.zero_le _, Nat.zero_le _⟩ (Nat.le_of_ble_eq_true rfl) (z_kIi (I := I2) (fun r7 I8 h => ?_))
      refine z_istore_n hC (lv1 := [(3, .int r7), (0, .ref a0), (1, .int a1), (2, .int a2)]) dX12_value_32 rfl (by decide) rfl ?_
      refine z_aload_n hC (q := 1) dX12_value_33 rfl rfl ?_
      refine gf_RX12_301 hC dX12_value_34 hk1 ?_
      refine z_if_ne hC (tgt := 44) dX12_value_37 (by decide) (fun hc => ?_) (fun hc => ?_)
      · have h := h.1 hc
        refine z_aload_n hC (q := 1) dX12_value_44 rfl rfl ?_
        refine cl_RX12_329 hC (c_X12_refuse _ G a0 K N I8 L R _ h) hk1 dX12_value_45 (by rw [hRm]; exact ⟨Nat.le_of_ble_eq_true rfl, Nat.le_of_ble_eq_true rfl⟩) ⟨Nat.zero_le _, Nat.zero_le _⟩ (Nat.le_of_ble_eq_true rfl) (z_kIi (I := I8) (fun r9 I10 h => ?_))
        exact z_iret hC dX12_value_48 ⟨_, rfl, rfl, rfl, rfl, rfl, h⟩
      · have h := h.2 hc
        refine z_iload_n hC (q := 0) dX12_value_40 rfl rfl ?_
        refine z_goto hC (tgt := 48) dX12_value_41 (by decide) ?_
        exact z_iret hC dX12_value_48 ⟨_, rfl, rfl, rfl, rfl, rfl, h⟩
    · have h := h.2 hc
      refine z_aload_n hC (q := 0) dX12_value_21 rfl rfl ?_
      refine cl_RX12_329 hC (c_X12_refuse _ G a0 K N I2 L R _ h) hk1 dX12_value_22 (by rw [hRm]; exact ⟨Nat.le_of_ble_eq_true rfl, Nat.le_of_ble_eq_true rfl⟩) ⟨Nat.zero_le _, Nat.zero_le _⟩ (Nat.le_of_ble_eq_true rfl) (z_kIi (I := I2) (fun r11 I12 h => ?_))
      exact z_iret hC dX12_value_25 ⟨_, rfl, rfl, rfl, rfl, rfl, h⟩
def w_X12_why  (a0 : Nat) (a1 : Int32) (a2 : Int32) (K : MK) (N : MK) (I : MI) (L : ML) (R : MR) (Q : Int32 → MI → Prop) : Prop := K a0 = 13 ∧ ∀ I2 : MI, I2 = mup I a0 0 0 → w_X12_isVar a0 a1 K N I2 L R (fun r3 => (r3 = false → Q (-1) I2) ∧ (r3 = true → w_X12_isAddress a0 a2 K N I2 L R (fun r4 => (r4 = true → w_X12_valueOf a0 a1 a2 K N I2 L R (fun r5 I6 => Q (I6 a0 31) I6)) ∧ (r4 = false → Q (-1) I2))))
set_option maxHeartbeats 4000000 in
set_option maxRecDepth 100000 in
theorem c_X12_why  (l : Launch) (G : ZG) (a0 : Nat) (a1 : Int32) (a2 : Int32) (K : MK) (N : MK) (I : MI) (L : ML) (R : MR) (Q : Int32 → MI → Prop) (h : w_X12_why a0 a1 a2 K N I L R Q) : Met l yX12_why (.code yX12_why cX12_why 3 (some .int) :: z_tbl) rm_X12_why (z_Pc G [.ref a0, .int a1, .int a2] K N I L R) (z_Qc G (qIi K N L R Q)) 0 0 (z_A G) := by
  refine z_met (by decide) (Nat.le_of_ble_eq_true rfl) (fun X hX hRm hC0 hnm => ?_)
  subst hX
  have hC : ZOk X G RX12 cX12_why 3 (some .int) := hC0
  show Z X G 3 0 0 _ K N I L R 0 [(0, .ref a0), (1, .int a1), (2, .int a2)] []
  delta w_X12_why at h
  refine z_aload_n hC (q := 0) dX12_why_0 rfl rfl ?_
  refine z_iconst hC (v := 0) k_iconst_0 dX12_why_1 ?_
  obtain ⟨hk1, h⟩ := h
  refine pf_RX12_1 hC dX12_why_2 hk1 ?_
  refine z_genI (fun I2 eI2 => ?_)
  have h := h I2 eI2
  refine z_aload_n hC (q := 0) dX12_why_5 rfl rfl ?_
  refine z_iload_n hC (q := 1) dX12_why_6 rfl rfl ?_
  refine cl_RX12_323 hC (c_X12_isVar _ G a0 a1 K N I2 L R _ h) hk1 dX12_why_7 (by rw [hRm]; exact ⟨Nat.le_of_ble_eq_true rfl, Nat.le_of_ble_eq_true rfl⟩) ⟨Nat.zero_le _, Nat.zero_le _⟩ (Nat.le_of_ble_eq_true rfl) (z_kPz (fun r3 h => ?_))
  refine z_ifz_eq hC (tgt := 21) dX12_why_10 (by decide) (fun hc => ?_) (fun hc => ?_)
  · have h := h.1 hc
    refine z_iconst hC (v := (-1)) k_iconst_m1 dX12_why_21 ?_
    exact z_iret hC dX12_why_22 ⟨_, rfl, rfl, rfl, rfl, rfl, h⟩
  · have h := h.2 hc
    refine z_aload_n hC (q := 0) dX12_why_13 rfl rfl ?_
    refine z_iload_n hC (q := 2) dX12_why_14 rfl rfl ?_
    refine cl_RX12_267 hC (c_X12_isAddress _ G a0 a2 K N I2 L R _ h) hk1 dX12_why_15 (by rw [hRm]; exact ⟨Nat.le_of_ble_eq_true rfl, Nat.le_of_ble_eq_true rfl⟩) ⟨Nat.zero_le _, Nat.zero_le _⟩ (Nat.le_of_ble_eq_true rfl) (z_kPz (fun r4 h => ?_))
    refine z_ifz_ne hC (tgt := 23) dX12_why_18 (by decide) (fun hc => ?_) (fun hc => ?_)
    · have h := h.1 hc
      refine z_aload_n hC (q := 0) dX12_why_23 rfl rfl ?_
      refine z_iload_n hC (q := 1) dX12_why_24 rfl rfl ?_
      refine z_iload_n hC (q := 2) dX12_why_25 rfl rfl ?_
      refine cl_RX12_317 hC (c_X12_valueOf _ G a0 a1 a2 K N I2 L R _ h) hk1 dX12_why_26 (by rw [hRm]; exact ⟨Nat.le_of_ble_eq_true rfl, Nat.le_of_ble_eq_true rfl⟩) ⟨Nat.zero_le _, Nat.zero_le _⟩ (Nat.le_of_ble_eq_true rfl) (z_kIi (I := I2) (fun r5 I6 h => ?_))
      refine z_pop hC rfl dX12_why_29 ?_
      refine z_aload_n hC (q := 0) dX12_why_30 rfl rfl ?_
      refine gf_RX12_301 hC dX12_why_31 hk1 ?_
      exact z_iret hC dX12_why_34 ⟨_, rfl, rfl, rfl, rfl, rfl, h⟩
    · have h := h.2 hc
      refine z_iconst hC (v := (-1)) k_iconst_m1 dX12_why_21 ?_
      exact z_iret hC dX12_why_22 ⟨_, rfl, rfl, rfl, rfl, rfl, h⟩
def w_X12_now  (a0 : Nat) (a1 : Int32) (K : MK) (N : MK) (I : MI) (L : ML) (R : MR) (Q : Int32 → MI → Prop) : Prop := K a0 = 13 ∧ ∀ I2 : MI, I2 = mup I a0 0 0 → (a1 = 0 → ∃ b3 : Nat, R a0 14 = some b3 ∧ K b3 = 14 ∧ vp_in 342 (N b3) ∧ Q (I2 b3 (ix 342)) I2) ∧ (¬ a1 = 0 → (a1 = 1 → ∃ b6 : Nat, R a0 14 = some b6 ∧ K b6 = 14 ∧ vp_in 342 (N b6) ∧ w_X12_lineOf a0 (I2 b6 (ix 342)) K N I2 L R (fun r9 => Q r9 I2)) ∧ (¬ a1 = 1 → (a1 = 2 → ∃ b10 : Nat, R a0 14 = some b10 ∧ K b10 = 14 ∧ vp_in 344 (N b10) ∧ Q (I2 b10 (ix 344)) I2) ∧ (¬ a1 = 2 → (a1 = 3 → ∃ b13 : Nat, R a0 14 = some b13 ∧ K b13 = 14 ∧ vp_in 342 (N b13) ∧ w_X12_nextInChain a0 (I2 b13 (ix 342)) (-1) K N I2 L R (fun r16 => Q r16 I2)) ∧ (¬ a1 = 3 → (a1 = 4 → w_X12_thoseThere a0 K N I2 L R (fun r17 I18 => Q r17 I18)) ∧ (¬ a1 = 4 → (a1 = 5 → ∃ b19 : Nat, R a0 14 = some b19 ∧ K b19 = 14 ∧ vp_in 343 (N b19) ∧ Q (I2 b19 (ix 343)) I2) ∧ (¬ a1 = 5 → Q (-1) I2))))))
set_option maxHeartbeats 4000000 in
set_option maxRecDepth 100000 in
theorem c_X12_now  (l : Launch) (G : ZG) (a0 : Nat) (a1 : Int32) (K : MK) (N : MK) (I : MI) (L : ML) (R : MR) (Q : Int32 → MI → Prop) (h : w_X12_now a0 a1 K N I L R Q) : Met l yX12_now (.code yX12_now cX12_now 2 (some .int) :: z_tbl) rm_X12_now (z_Pc G [.ref a0, .int a1] K N I L R) (z_Qc G (qIi K N L R Q)) 0 0 (z_A G) := by
  refine z_met (by decide) (Nat.le_of_ble_eq_true rfl) (fun X hX hRm hC0 hnm => ?_)
  subst hX
  have hC : ZOk X G RX12 cX12_now 2 (some .int) := hC0
  show Z X G 2 0 0 _ K N I L R 0 [(0, .ref a0), (1, .int a1)] []
  delta w_X12_now at h
  refine z_aload_n hC (q := 0) dX12_now_0 rfl rfl ?_
  refine z_iconst hC (v := 0) k_iconst_0 dX12_now_1 ?_
  obtain ⟨hk1, h⟩ := h
  refine pf_RX12_1 hC dX12_now_2 hk1 ?_
  refine z_genI (fun I2 eI2 => ?_)
  have h := h I2 eI2
  refine z_iload_n hC (q := 1) dX12_now_5 rfl rfl ?_
  by_cases hc0 : a1 = 0
  · have h := h.1 hc0
    refine z_tableIn hC (off := 38) (tgt := 44) 0 hc0 dX12_now_6 (by decide) (by decide) ?_
    refine z_aload_n hC (q := 0) dX12_now_44 rfl rfl ?_
    obtain ⟨b3, hb3, h⟩ := h
    refine gf_RX12_98 hC dX12_now_45 hk1 hb3 ?_
    refine z_sipush hC (v := 342) k_sipush_342 dX12_now_48 ?_
    obtain ⟨hk4, h⟩ := h
    obtain ⟨hi5, h⟩ := h
    refine z_iaload hC hk4 hi5 dX12_now_51 ?_
    exact z_iret hC dX12_now_52 ⟨_, rfl, rfl, rfl, rfl, rfl, h⟩
  · have h := h.2 hc0
    by_cases hc1 : a1 = 1
    · have h := h.1 hc1
      refine z_tableIn hC (off := 47) (tgt := 53) 1 hc1 dX12_now_6 (by decide) (by decide) ?_
      refine z_aload_n hC (q := 0) dX12_now_53 rfl rfl ?_
      refine z_aload_n hC (q := 0) dX12_now_54 rfl rfl ?_
      obtain ⟨b6, hb6, h⟩ := h
      refine gf_RX12_98 hC dX12_now_55 hk1 hb6 ?_
      refine z_sipush hC (v := 342) k_sipush_342 dX12_now_58 ?_
      obtain ⟨hk7, h⟩ := h
      obtain ⟨hi8, h⟩ := h
      refine z_iaload hC hk7 hi8 dX12_now_61 ?_
      refine cl_RX12_270 hC (c_X12_lineOf _ G a0 (I2 b6 (ix 342)) K N I2 L R _ h) hk1 dX12_now_62 (by rw [hRm]; exact ⟨Nat.le_of_ble_eq_true rfl, Nat.le_of_ble_eq_true rfl⟩) ⟨Nat.zero_le _, Nat.zero_le _⟩ (Nat.le_of_ble_eq_true rfl) (z_kPi (fun r9 h => ?_))
      exact z_iret hC dX12_now_65 ⟨_, rfl, rfl, rfl, rfl, rfl, h⟩
    · have h := h.2 hc1
      by_cases hc2 : a1 = 2
      · have h := h.1 hc2
        refine z_tableIn hC (off := 60) (tgt := 66) 2 hc2 dX12_now_6 (by decide) (by decide) ?_
        refine z_aload_n hC (q := 0) dX12_now_66 rfl rfl ?_
        obtain ⟨b10, hb10, h⟩ := h
        refine gf_RX12_98 hC dX12_now_67 hk1 hb10 ?_
        refine z_sipush hC (v := 344) k_sipush_344 dX12_now_70 ?_
        obtain ⟨hk11, h⟩ := h
        obtain ⟨hi12, h⟩ := h
        refine z_iaload hC hk11 hi12 dX12_now_73 ?_
        exact z_iret hC dX12_now_74 ⟨_, rfl, rfl, rfl, rfl, rfl, h⟩
      · have h := h.2 hc2
        by_cases hc3 : a1 = 3
        · have h := h.1 hc3
          refine z_tableIn hC (off := 69) (tgt := 75) 3 hc3 dX12_now_6 (by decide) (by decide) ?_
          refine z_aload_n hC (q := 0) dX12_now_75 rfl rfl ?_
          refine z_aload_n hC (q := 0) dX12_now_76 rfl rfl ?_
          obtain ⟨b13, hb13, h⟩ := h
          refine gf_RX12_98 hC dX12_now_77 hk1 hb13 ?_
          refine z_sipush hC (v := 342) k_sipush_342 dX12_now_80 ?_
          obtain ⟨hk14, h⟩ := h
          obtain ⟨hi15, h⟩ := h
          refine z_iaload hC hk14 hi15 dX12_now_83 ?_
          refine z_iconst hC (v := (-1)) k_iconst_m1 dX12_now_84 ?_
          refine cl_RX12_282 hC (c_X12_nextInChain _ G a0 (I2 b13 (ix 342)) (-1) K N I2 L R _ h) hk1 dX12_now_85 (by rw [hRm]; exact ⟨Nat.le_of_ble_eq_true rfl, Nat.le_of_ble_eq_true rfl⟩) ⟨Nat.zero_le _, Nat.zero_le _⟩ (Nat.le_of_ble_eq_true rfl) (z_kPi (fun r16 h => ?_))
          exact z_iret hC dX12_now_88 ⟨_, rfl, rfl, rfl, rfl, rfl, h⟩
        · have h := h.2 hc3
          by_cases hc4 : a1 = 4
          · have h := h.1 hc4
            refine z_tableIn hC (off := 83) (tgt := 89) 4 hc4 dX12_now_6 (by decide) (by decide) ?_
            refine z_aload_n hC (q := 0) dX12_now_89 rfl rfl ?_
            refine cl_RX12_332 hC (c_X12_thoseThere _ G a0 K N I2 L R _ h) hk1 dX12_now_90 (by rw [hRm]; exact ⟨Nat.le_of_ble_eq_true rfl, Nat.le_of_ble_eq_true rfl⟩) ⟨Nat.zero_le _, Nat.zero_le _⟩ (Nat.le_of_ble_eq_true rfl) (z_kIi (I := I2) (fun r17 I18 h => ?_))
            exact z_iret hC dX12_now_93 ⟨_, rfl, rfl, rfl, rfl, rfl, h⟩
          · have h := h.2 hc4
            by_cases hc5 : a1 = 5
            · have h := h.1 hc5
              refine z_tableIn hC (off := 88) (tgt := 94) 5 hc5 dX12_now_6 (by decide) (by decide) ?_
              refine z_aload_n hC (q := 0) dX12_now_94 rfl rfl ?_
              obtain ⟨b19, hb19, h⟩ := h
              refine gf_RX12_98 hC dX12_now_95 hk1 hb19 ?_
              refine z_sipush hC (v := 343) k_sipush_343 dX12_now_98 ?_
              obtain ⟨hk20, h⟩ := h
              obtain ⟨hi21, h⟩ := h
              refine z_iaload hC hk20 hi21 dX12_now_101 ?_
              exact z_iret hC dX12_now_102 ⟨_, rfl, rfl, rfl, rfl, rfl, h⟩
            · have h := h.2 hc5
              have hout : a1.toInt < 0 ∨ 5 < a1.toInt := by
                have hc0 := z_nei hc0 (by decide : (0 : Int32).toInt = 0)
                have hc1 := z_nei hc1 (by decide : (1 : Int32).toInt = 1)
                have hc2 := z_nei hc2 (by decide : (2 : Int32).toInt = 2)
                have hc3 := z_nei hc3 (by decide : (3 : Int32).toInt = 3)
                have hc4 := z_nei hc4 (by decide : (4 : Int32).toInt = 4)
                have hc5 := z_nei hc5 (by decide : (5 : Int32).toInt = 5)
                omega
              refine z_tableOut hC (tgt := 103) dX12_now_6 hout (by decide) ?_
              refine z_iconst hC (v := (-1)) k_iconst_m1 dX12_now_103 ?_
              exact z_iret hC dX12_now_104 ⟨_, rfl, rfl, rfl, rfl, rfl, h⟩
def w_X12_register  (a0 : Nat) (a1 : Int32) (K : MK) (N : MK) (I : MI) (L : ML) (R : MR) (Q : Int32 → MI → Prop) : Prop := K a0 = 13 ∧ ∀ I2 : MI, I2 = mup I a0 0 0 → w_X12_isIn a1 0 7 K N I2 L R (fun r3 => (r3 = false → Q (-1) I2) ∧ (r3 = true → ∃ b4 : Nat, R a0 14 = some b4 ∧ K b4 = 14 ∧ vp_in ((353 : Int32) + a1) (N b4) ∧ Q (I2 b4 (ix ((353 : Int32) + a1))) I2))
set_option maxHeartbeats 4000000 in
set_option maxRecDepth 100000 in
theorem c_X12_register  (l : Launch) (G : ZG) (a0 : Nat) (a1 : Int32) (K : MK) (N : MK) (I : MI) (L : ML) (R : MR) (Q : Int32 → MI → Prop) (h : w_X12_register a0 a1 K N I L R Q) : Met l yX12_register (.code yX12_register cX12_register 2 (some .int) :: z_tbl) rm_X12_register (z_Pc G [.ref a0, .int a1] K N I L R) (z_Qc G (qIi K N L R Q)) 0 0 (z_A G) := by
  refine z_met (by decide) (Nat.le_of_ble_eq_true rfl) (fun X hX hRm hC0 hnm => ?_)
  subst hX
  have hC : ZOk X G RX12 cX12_register 2 (some .int) := hC0
  show Z X G 2 0 0 _ K N I L R 0 [(0, .ref a0), (1, .int a1)] []
  delta w_X12_register at h
  refine z_aload_n hC (q := 0) dX12_register_0 rfl rfl ?_
  refine z_iconst hC (v := 0) k_iconst_0 dX12_register_1 ?_
  obtain ⟨hk1, h⟩ := h
  refine pf_RX12_1 hC dX12_register_2 hk1 ?_
  refine z_genI (fun I2 eI2 => ?_)
  have h := h I2 eI2
  refine z_iload_n hC (q := 1) dX12_register_5 rfl rfl ?_
  refine z_iconst hC (v := 0) k_iconst_0 dX12_register_6 ?_
  refine z_bipush hC (v := 7) k_bipush_7 dX12_register_7 ?_
  refine cl_RX12_75 hC (c_X12_isIn _ G a1 0 7 K N I2 L R _ h) dX12_register_9 (by rw [hRm]; exact ⟨Nat.le_of_ble_eq_true rfl, Nat.le_of_ble_eq_true rfl⟩) ⟨Nat.zero_le _, Nat.zero_le _⟩ (Nat.le_of_ble_eq_true rfl) (z_kPz (fun r3 h => ?_))
  refine z_ifz_eq hC (tgt := 28) dX12_register_12 (by decide) (fun hc => ?_) (fun hc => ?_)
  · have h := h.1 hc
    refine z_iconst hC (v := (-1)) k_iconst_m1 dX12_register_28 ?_
    exact z_iret hC dX12_register_29 ⟨_, rfl, rfl, rfl, rfl, rfl, h⟩
  · have h := h.2 hc
    refine z_aload_n hC (q := 0) dX12_register_15 rfl rfl ?_
    obtain ⟨b4, hb4, h⟩ := h
    refine gf_RX12_98 hC dX12_register_16 hk1 hb4 ?_
    refine z_sipush hC (v := 353) k_sipush_353 dX12_register_19 ?_
    refine z_iload_n hC (q := 1) dX12_register_22 rfl rfl ?_
    refine z_iadd hC dX12_register_23 ?_
    obtain ⟨hk5, h⟩ := h
    obtain ⟨hi6, h⟩ := h
    refine z_iaload hC hk5 hi6 dX12_register_24 ?_
    refine z_goto hC (tgt := 29) dX12_register_25 (by decide) ?_
    exact z_iret hC dX12_register_29 ⟨_, rfl, rfl, rfl, rfl, rfl, h⟩
def w_X12_memory  (a0 : Nat) (a1 : Int32) (K : MK) (N : MK) (I : MI) (L : ML) (R : MR) (Q : Int32 → MI → Prop) : Prop := K a0 = 13 ∧ ∀ I2 : MI, I2 = mup I a0 0 0 → w_X12_isIn a1 0 63 K N I2 L R (fun r3 => (r3 = false → Q (-1) I2) ∧ (r3 = true → ∃ b4 : Nat, R a0 14 = some b4 ∧ K b4 = 14 ∧ vp_in ((361 : Int32) + a1) (N b4) ∧ Q (I2 b4 (ix ((361 : Int32) + a1))) I2))
set_option maxHeartbeats 4000000 in
set_option maxRecDepth 100000 in
theorem c_X12_memory  (l : Launch) (G : ZG) (a0 : Nat) (a1 : Int32) (K : MK) (N : MK) (I : MI) (L : ML) (R : MR) (Q : Int32 → MI → Prop) (h : w_X12_memory a0 a1 K N I L R Q) : Met l yX12_memory (.code yX12_memory cX12_memory 2 (some .int) :: z_tbl) rm_X12_memory (z_Pc G [.ref a0, .int a1] K N I L R) (z_Qc G (qIi K N L R Q)) 0 0 (z_A G) := by
  refine z_met (by decide) (Nat.le_of_ble_eq_true rfl) (fun X hX hRm hC0 hnm => ?_)
  subst hX
  have hC : ZOk X G RX12 cX12_memory 2 (some .int) := hC0
  show Z X G 2 0 0 _ K N I L R 0 [(0, .ref a0), (1, .int a1)] []
  delta w_X12_memory at h
  refine z_aload_n hC (q := 0) dX12_memory_0 rfl rfl ?_
  refine z_iconst hC (v := 0) k_iconst_0 dX12_memory_1 ?_
  obtain ⟨hk1, h⟩ := h
  refine pf_RX12_1 hC dX12_memory_2 hk1 ?_
  refine z_genI (fun I2 eI2 => ?_)
  have h := h I2 eI2
  refine z_iload_n hC (q := 1) dX12_memory_5 rfl rfl ?_
  refine z_iconst hC (v := 0) k_iconst_0 dX12_memory_6 ?_
  refine z_bipush hC (v := 63) k_bipush_63 dX12_memory_7 ?_
  refine cl_RX12_75 hC (c_X12_isIn _ G a1 0 63 K N I2 L R _ h) dX12_memory_9 (by rw [hRm]; exact ⟨Nat.le_of_ble_eq_true rfl, Nat.le_of_ble_eq_true rfl⟩) ⟨Nat.zero_le _, Nat.zero_le _⟩ (Nat.le_of_ble_eq_true rfl) (z_kPz (fun r3 h => ?_))
  refine z_ifz_eq hC (tgt := 28) dX12_memory_12 (by decide) (fun hc => ?_) (fun hc => ?_)
  · have h := h.1 hc
    refine z_iconst hC (v := (-1)) k_iconst_m1 dX12_memory_28 ?_
    exact z_iret hC dX12_memory_29 ⟨_, rfl, rfl, rfl, rfl, rfl, h⟩
  · have h := h.2 hc
    refine z_aload_n hC (q := 0) dX12_memory_15 rfl rfl ?_
    obtain ⟨b4, hb4, h⟩ := h
    refine gf_RX12_98 hC dX12_memory_16 hk1 hb4 ?_
    refine z_sipush hC (v := 361) k_sipush_361 dX12_memory_19 ?_
    refine z_iload_n hC (q := 1) dX12_memory_22 rfl rfl ?_
    refine z_iadd hC dX12_memory_23 ?_
    obtain ⟨hk5, h⟩ := h
    obtain ⟨hi6, h⟩ := h
    refine z_iaload hC hk5 hi6 dX12_memory_24 ?_
    refine z_goto hC (tgt := 29) dX12_memory_25 (by decide) ?_
    exact z_iret hC dX12_memory_29 ⟨_, rfl, rfl, rfl, rfl, rfl, h⟩
def w_X12_fraction  (a0 : Nat) (a1 : Int32) (a2 : Int32) (a3 : Int32) (K : MK) (N : MK) (I : MI) (L : ML) (R : MR) (Q : Int32 → Prop) : Prop := (¬ a3 = 0 → w_X12_common a1 a2 K N I L R (fun r1 => ¬ r1 = 0 ∧ Q (a2 / r1))) ∧ (a3 = 0 → w_X12_common a1 a2 K N I L R (fun r3 => ¬ r3 = 0 ∧ Q (a1 / r3)))
set_option maxHeartbeats 4000000 in
set_option maxRecDepth 100000 in
theorem c_X12_fraction  (l : Launch) (G : ZG) (a0 : Nat) (a1 : Int32) (a2 : Int32) (a3 : Int32) (K : MK) (N : MK) (I : MI) (L : ML) (R : MR) (Q : Int32 → Prop) (h : w_X12_fraction a0 a1 a2 a3 K N I L R Q) : Met l yX12_fraction (.code yX12_fraction cX12_fraction 4 (some .int) :: z_tbl) rm_X12_fraction (z_Pc G [.ref a0, .int a1, .int a2, .int a3] K N I L R) (z_Qc G (qPi K N I L R Q)) 0 0 (z_A G) := by
  refine z_met (by decide) (Nat.le_of_ble_eq_true rfl) (fun X hX hRm hC0 hnm => ?_)
  subst hX
  have hC : ZOk X G RX12 cX12_fraction 4 (some .int) := hC0
  show Z X G 4 0 0 _ K N I L R 0 [(0, .ref a0), (1, .int a1), (2, .int a2), (3, .int a3)] []
  delta w_X12_fraction at h
  refine z_iload_n hC (q := 3) dX12_fraction_0 rfl rfl ?_
  refine z_if_ne hC (tgt := 8) dX12_fraction_1 (by decide) (fun hc => ?_) (fun hc => ?_)
  · have h := h.1 hc
    refine z_iload_n hC (q := 2) dX12_fraction_8 rfl rfl ?_
    refine z_iload_n hC (q := 1) dX12_fraction_9 rfl rfl ?_
    refine z_iload_n hC (q := 2) dX12_fraction_10 rfl rfl ?_
    refine cl_RX12_335 hC (c_X12_common _ G a1 a2 K N I L R _ h) dX12_fraction_11 (by rw [hRm]; exact ⟨Nat.le_of_ble_eq_true rfl, Nat.le_of_ble_eq_true rfl⟩) ⟨Nat.zero_le _, Nat.zero_le _⟩ (Nat.le_of_ble_eq_true rfl) (z_kPi (fun r1 h => ?_))
    obtain ⟨hz2, h⟩ := h
    refine z_idiv hC hz2 dX12_fraction_14 ?_
    exact z_iret hC dX12_fraction_15 ⟨_, rfl, rfl, rfl, rfl, rfl, rfl, h⟩
  · have h := h.2 hc
    refine z_iload_n hC (q := 1) dX12_fraction_4 rfl rfl ?_
    refine z_goto hC (tgt := 9) dX12_fraction_5 (by decide) ?_
    refine z_iload_n hC (q := 1) dX12_fraction_9 rfl rfl ?_
    refine z_iload_n hC (q := 2) dX12_fraction_10 rfl rfl ?_
    refine cl_RX12_335 hC (c_X12_common _ G a1 a2 K N I L R _ h) dX12_fraction_11 (by rw [hRm]; exact ⟨Nat.le_of_ble_eq_true rfl, Nat.le_of_ble_eq_true rfl⟩) ⟨Nat.zero_le _, Nat.zero_le _⟩ (Nat.le_of_ble_eq_true rfl) (z_kPi (fun r3 h => ?_))
    obtain ⟨hz4, h⟩ := h
    refine z_idiv hC hz4 dX12_fraction_14 ?_
    exact z_iret hC dX12_fraction_15 ⟨_, rfl, rfl, rfl, rfl, rfl, rfl, h⟩
def w_X12_cover_32  (x0 : Nat) (x1 : Int32) (x2 : Int32) (x3 : Int32) (x4 : Int32)  (K : MK) (N : MK) (I : MI) (L : ML) (R : MR)  (Q : Int32 → MI → Prop) : Prop := ∃ J : Nat → Nat → Int32 → Int32 → Int32 → Int32 → MI → Prop, (∃ n, J n x0 x1 x2 x3 x4 I) ∧ ∀ (n : Nat) (x0 : Nat) (x1 : Int32) (x2 : Int32) (x3 : Int32) (x4 : Int32) (I : MI), J n x0 x1 x2 x3 x4 I → K x0 = 13 ∧ ∃ b8 : Nat, R x0 14 = some b8 ∧ K b8 = 14 ∧ vp_in 5 (N b8) ∧ ((I b8 (ix 5)) ≤ x4 → vp_in ((114 : Int32) + x1) (N b8) ∧ w_X12_widthOf x0 (I b8 (ix ((114 : Int32) + x1))) K N I L R (fun r12 => w_X12_fraction x0 x3 r12 x2 K N I L R (fun r13 => Q r13 I))) ∧ (¬ (I b8 (ix 5)) ≤ x4 → vp_in ((134 : Int32) + x4) (N b8) ∧ (¬ (I b8 (ix ((134 : Int32) + x4))) = x1 → ∀ v15 : Int32, v15 = x4 + 1 → ∃ n1, n1 < n ∧ J n1 x0 x1 x2 x3 v15 I) ∧ ((I b8 (ix ((134 : Int32) + x4))) = x1 → vp_in ((166 : Int32) + x4) (N b8) ∧ vp_in ((150 : Int32) + x4) (N b8) ∧ ∀ v18 : Int32, v18 = (x3 + ((I b8 (ix ((166 : Int32) + x4))) - (I b8 (ix ((150 : Int32) + x4))))) → ∀ v19 : Int32, v19 = x4 + 1 → ∃ n1, n1 < n ∧ J n1 x0 x1 x2 v18 v19 I))
def w_X12_cover  (a0 : Nat) (a1 : Int32) (a2 : Int32) (K : MK) (N : MK) (I : MI) (L : ML) (R : MR) (Q : Int32 → MI → Prop) : Prop := K a0 = 13 ∧ ∀ I2 : MI, I2 = mup I a0 0 0 → w_X12_isVar a0 a1 K N I2 L R (fun r3 => (r3 = false → w_X12_refuse a0 K N I2 L R (fun r4 I5 => Q r4 I5)) ∧ (r3 = true → w_X12_isIn a2 0 1 K N I2 L R (fun r6 => (r6 = true → w_X12_cover_32 a0 a1 a2 0 0 K N I2 L R Q) ∧ (r6 = false → w_X12_refuse a0 K N I2 L R (fun r20 I21 => Q r20 I21)))))
set_option maxHeartbeats 4000000 in
set_option maxRecDepth 100000 in
theorem z_X12_cover_32 {X : ZX} {G : ZG}  {x0 : Nat} {x1 : Int32} {x2 : Int32} {x3 : Int32} {x4 : Int32}  {K : MK} {N : MK} {I : MI} {L : ML} {R : MR}  {Q : Int32 → MI → Prop} (hC : ZOk X G RX12 cX12_cover 5 (some .int)) (hRm : X.2.2.2.1 = rm_X12_cover) (h : w_X12_cover_32 x0 x1 x2 x3 x4 K N I L R  Q) : Z X G 5 0 0 (z_T X G (qIi K N L R Q) 0 0) K N I L R 32 [(0, .ref x0), (1, .int x1), (2, .int x2), (3, .int x3), (4, .int x4)] [] := by
  delta w_X12_cover_32 at h
  obtain ⟨J, ⟨n, h0⟩, hs⟩ := h
  have key : ∀ (n : Nat) (x0 : Nat) (x1 : Int32) (x2 : Int32) (x3 : Int32) (x4 : Int32) (I : MI), J n x0 x1 x2 x3 x4 I → Z X G 5 0 0 (z_T X G (qIi K N L R Q) 0 0) K N I L R 32 [(0, .ref x0), (1, .int x1), (2, .int x2), (3, .int x3), (4, .int x4)] [] := by
    intro n
    induction n using Nat.strongRecOn with
    | _ n ih =>
      intro x0 x1 x2 x3 x4 I hJ
      have hC32 : ∀ (y0 : Nat) (y1 : Int32) (y2 : Int32) (y3 : Int32) (y4 : Int32) (zI : MI), (∃ n1, n1 < n ∧ J n1 y0 y1 y2 y3 y4 zI) → Z X G 5 0 0 (z_T X G (qIi K N L R Q) 0 0) K N zI L R 32 [(0, .ref y0), (1, .int y1), (2, .int y2), (3, .int y3), (4, .int y4)] [] := fun y0 y1 y2 y3 y4 zI ⟨n1, hn1, hj⟩ => ih n1 hn1 y0 y1 y2 y3 y4 zI hj
      have h := hs n x0 x1 x2 x3 x4 I hJ
      refine z_iload hC (q := 4) dX12_cover_32 rfl ?_
      refine z_aload_n hC (q := 0) dX12_cover_34 rfl rfl ?_
      obtain ⟨hk7, h⟩ := h
      obtain ⟨b8, hb8, h⟩ := h
      refine gf_RX12_98 hC dX12_cover_35 hk7 hb8 ?_
      refine z_iconst hC (v := 5) k_iconst_5 dX12_cover_38 ?_
      obtain ⟨hk9, h⟩ := h
      obtain ⟨hi10, h⟩ := h
      refine z_iaload hC hk9 hi10 dX12_cover_39 ?_
      refine z_icmp_ge hC (tgt := 90) dX12_cover_40 (by decide) (fun hc => ?_) (fun hc => ?_)
      · have h := h.1 hc
        refine z_aload_n hC (q := 0) dX12_cover_90 rfl rfl ?_
        refine z_iload_n hC (q := 3) dX12_cover_91 rfl rfl ?_
        refine z_aload_n hC (q := 0) dX12_cover_92 rfl rfl ?_
        refine z_aload_n hC (q := 0) dX12_cover_93 rfl rfl ?_
        refine gf_RX12_98 hC dX12_cover_94 hk7 hb8 ?_
        refine z_bipush hC (v := 114) k_bipush_114 dX12_cover_97 ?_
        refine z_iload_n hC (q := 1) dX12_cover_99 rfl rfl ?_
        refine z_iadd hC dX12_cover_100 ?_
        obtain ⟨hi11, h⟩ := h
        refine z_iaload hC hk9 hi11 dX12_cover_101 ?_
        refine cl_RX12_273 hC (c_X12_widthOf _ G x0 (I b8 (ix ((114 : Int32) + x1))) K N I L R _ h) hk7 dX12_cover_102 (by rw [hRm]; exact ⟨Nat.le_of_ble_eq_true rfl, Nat.le_of_ble_eq_true rfl⟩) ⟨Nat.zero_le _, Nat.zero_le _⟩ (Nat.le_of_ble_eq_true rfl) (z_kPi (fun r12 h => ?_))
        refine z_iload_n hC (q := 2) dX12_cover_105 rfl rfl ?_
        refine cl_RX12_338 hC (c_X12_fraction _ G x0 x3 r12 x2 K N I L R _ h) hk7 dX12_cover_106 (by rw [hRm]; exact ⟨Nat.le_of_ble_eq_true rfl, Nat.le_of_ble_eq_true rfl⟩) ⟨Nat.zero_le _, Nat.zero_le _⟩ (Nat.le_of_ble_eq_true rfl) (z_kPi (fun r13 h => ?_))
        exact z_iret hC dX12_cover_109 ⟨_, rfl, rfl, rfl, rfl, rfl, h⟩
      · have h := h.2 hc
        refine z_aload_n hC (q := 0) dX12_cover_43 rfl rfl ?_
        refine gf_RX12_98 hC dX12_cover_44 hk7 hb8 ?_
        refine z_sipush hC (v := 134) k_sipush_134 dX12_cover_47 ?_
        refine z_iload hC (q := 4) dX12_cover_50 rfl ?_
        refine z_iadd hC dX12_cover_52 ?_
        obtain ⟨hi14, h⟩ := h
        refine z_iaload hC hk9 hi14 dX12_cover_53 ?_
        refine z_iload_n hC (q := 1) dX12_cover_54 rfl rfl ?_
        refine z_icmp_ne hC (tgt := 84) dX12_cover_55 (by decide) (fun hc => ?_) (fun hc => ?_)
        · have h := h.1 hc
          obtain ⟨v15, ev15⟩ : ∃ y : Int32, y = x4 + 1 := ⟨_, rfl⟩
          have h := h v15 ev15
          refine z_iinc hC (q := 4) (v := v15) (lv1 := [(4, .int v15), (0, .ref x0), (1, .int x1), (2, .int x2), (3, .int x3)]) dX12_cover_84 rfl (by rw [ev15, k_iinc_1]) (by decide) rfl ?_
          refine z_goto hC (tgt := 32) dX12_cover_87 (by decide) ?_
          exact z_sub [(0, .ref x0), (1, .int x1), (2, .int x2), (3, .int x3), (4, .int v15)] [1, 2, 3, 4, 0] rfl (hC32 _ _ _ _ _ _ h)
        · have h := h.2 hc
          refine z_iload_n hC (q := 3) dX12_cover_58 rfl rfl ?_
          refine z_aload_n hC (q := 0) dX12_cover_59 rfl rfl ?_
          refine gf_RX12_98 hC dX12_cover_60 hk7 hb8 ?_
          refine z_sipush hC (v := 166) k_sipush_166 dX12_cover_63 ?_
          refine z_iload hC (q := 4) dX12_cover_66 rfl ?_
          refine z_iadd hC dX12_cover_68 ?_
          obtain ⟨hi16, h⟩ := h
          refine z_iaload hC hk9 hi16 dX12_cover_69 ?_
          refine z_aload_n hC (q := 0) dX12_cover_70 rfl rfl ?_
          refine gf_RX12_98 hC dX12_cover_71 hk7 hb8 ?_
          refine z_sipush hC (v := 150) k_sipush_150 dX12_cover_74 ?_
          refine z_iload hC (q := 4) dX12_cover_77 rfl ?_
          refine z_iadd hC dX12_cover_79 ?_
          obtain ⟨hi17, h⟩ := h
          refine z_iaload hC hk9 hi17 dX12_cover_80 ?_
          refine z_isub hC dX12_cover_81 ?_
          refine z_iadd hC dX12_cover_82 ?_
          refine z_topi (fun v18 ev18 => ?_)
          have h := h v18 ev18
          refine z_istore_n hC (lv1 := [(3, .int v18), (0, .ref x0), (1, .int x1), (2, .int x2), (4, .int x4)]) dX12_cover_83 rfl (by decide) rfl ?_
          obtain ⟨v19, ev19⟩ : ∃ y : Int32, y = x4 + 1 := ⟨_, rfl⟩
          have h := h v19 ev19
          refine z_iinc hC (q := 4) (v := v19) (lv1 := [(4, .int v19), (3, .int v18), (0, .ref x0), (1, .int x1), (2, .int x2)]) dX12_cover_84 rfl (by rw [ev19, k_iinc_1]) (by decide) rfl ?_
          refine z_goto hC (tgt := 32) dX12_cover_87 (by decide) ?_
          exact z_sub [(0, .ref x0), (1, .int x1), (2, .int x2), (3, .int v18), (4, .int v19)] [2, 3, 4, 1, 0] rfl (hC32 _ _ _ _ _ _ h)
  exact key n x0 x1 x2 x3 x4 I h0
set_option maxHeartbeats 4000000 in
set_option maxRecDepth 100000 in
theorem c_X12_cover  (l : Launch) (G : ZG) (a0 : Nat) (a1 : Int32) (a2 : Int32) (K : MK) (N : MK) (I : MI) (L : ML) (R : MR) (Q : Int32 → MI → Prop) (h : w_X12_cover a0 a1 a2 K N I L R Q) : Met l yX12_cover (.code yX12_cover cX12_cover 5 (some .int) :: z_tbl) rm_X12_cover (z_Pc G [.ref a0, .int a1, .int a2] K N I L R) (z_Qc G (qIi K N L R Q)) 0 0 (z_A G) := by
  refine z_met (by decide) (Nat.le_of_ble_eq_true rfl) (fun X hX hRm hC0 hnm => ?_)
  subst hX
  have hC : ZOk X G RX12 cX12_cover 5 (some .int) := hC0
  show Z X G 5 0 0 _ K N I L R 0 [(0, .ref a0), (1, .int a1), (2, .int a2)] []
  delta w_X12_cover at h
  refine z_aload_n hC (q := 0) dX12_cover_0 rfl rfl ?_
  refine z_iconst hC (v := 0) k_iconst_0 dX12_cover_1 ?_
  obtain ⟨hk1, h⟩ := h
  refine pf_RX12_1 hC dX12_cover_2 hk1 ?_
  refine z_genI (fun I2 eI2 => ?_)
  have h := h I2 eI2
  refine z_aload_n hC (q := 0) dX12_cover_5 rfl rfl ?_
  refine z_iload_n hC (q := 1) dX12_cover_6 rfl rfl ?_
  refine cl_RX12_323 hC (c_X12_isVar _ G a0 a1 K N I2 L R _ h) hk1 dX12_cover_7 (by rw [hRm]; exact ⟨Nat.le_of_ble_eq_true rfl, Nat.le_of_ble_eq_true rfl⟩) ⟨Nat.zero_le _, Nat.zero_le _⟩ (Nat.le_of_ble_eq_true rfl) (z_kPz (fun r3 h => ?_))
  refine z_ifz_eq hC (tgt := 22) dX12_cover_10 (by decide) (fun hc => ?_) (fun hc => ?_)
  · have h := h.1 hc
    refine z_aload_n hC (q := 0) dX12_cover_22 rfl rfl ?_
    refine cl_RX12_329 hC (c_X12_refuse _ G a0 K N I2 L R _ h) hk1 dX12_cover_23 (by rw [hRm]; exact ⟨Nat.le_of_ble_eq_true rfl, Nat.le_of_ble_eq_true rfl⟩) ⟨Nat.zero_le _, Nat.zero_le _⟩ (Nat.le_of_ble_eq_true rfl) (z_kIi (I := I2) (fun r4 I5 h => ?_))
    exact z_iret hC dX12_cover_26 ⟨_, rfl, rfl, rfl, rfl, rfl, h⟩
  · have h := h.2 hc
    refine z_iload_n hC (q := 2) dX12_cover_13 rfl rfl ?_
    refine z_iconst hC (v := 0) k_iconst_0 dX12_cover_14 ?_
    refine z_iconst hC (v := 1) k_iconst_1 dX12_cover_15 ?_
    refine cl_RX12_75 hC (c_X12_isIn _ G a2 0 1 K N I2 L R _ h) dX12_cover_16 (by rw [hRm]; exact ⟨Nat.le_of_ble_eq_true rfl, Nat.le_of_ble_eq_true rfl⟩) ⟨Nat.zero_le _, Nat.zero_le _⟩ (Nat.le_of_ble_eq_true rfl) (z_kPz (fun r6 h => ?_))
    refine z_ifz_ne hC (tgt := 27) dX12_cover_19 (by decide) (fun hc => ?_) (fun hc => ?_)
    · have h := h.1 hc
      refine z_iconst hC (v := 0) k_iconst_0 dX12_cover_27 ?_
      refine z_istore_n hC (lv1 := [(3, .int 0), (0, .ref a0), (1, .int a1), (2, .int a2)]) dX12_cover_28 rfl (by decide) rfl ?_
      refine z_iconst hC (v := 0) k_iconst_0 dX12_cover_29 ?_
      refine z_istore hC (lv1 := [(4, .int 0), (3, .int 0), (0, .ref a0), (1, .int a1), (2, .int a2)]) dX12_cover_30 (by decide) rfl ?_
      exact z_sub [(0, .ref a0), (1, .int a1), (2, .int a2), (3, .int 0), (4, .int 0)] [2, 3, 4, 1, 0] rfl (z_X12_cover_32 hC hRm h)
    · have h := h.2 hc
      refine z_aload_n hC (q := 0) dX12_cover_22 rfl rfl ?_
      refine cl_RX12_329 hC (c_X12_refuse _ G a0 K N I2 L R _ h) hk1 dX12_cover_23 (by rw [hRm]; exact ⟨Nat.le_of_ble_eq_true rfl, Nat.le_of_ble_eq_true rfl⟩) ⟨Nat.zero_le _, Nat.zero_le _⟩ (Nat.le_of_ble_eq_true rfl) (z_kIi (I := I2) (fun r20 I21 h => ?_))
      exact z_iret hC dX12_cover_26 ⟨_, rfl, rfl, rfl, rfl, rfl, h⟩
def w_X12_save_2  (x0 : Nat) (x1 : Nat) (x2 : Int32) (x3 : Int32)  (K : MK) (N : MK) (I : MI) (L : ML) (R : MR)  (Q : MI → Prop) : Prop := ∃ J : Nat → Nat → Nat → Int32 → Int32 → MI → Prop, (∃ n, J n x0 x1 x2 x3 I) ∧ ∀ (n : Nat) (x0 : Nat) (x1 : Nat) (x2 : Int32) (x3 : Int32) (I : MI), J n x0 x1 x2 x3 I → ((83 : Int32) ≤ x3 → Q I) ∧ (¬ (83 : Int32) ≤ x3 → K x0 = 13 ∧ ∃ b2 : Nat, R x0 14 = some b2 ∧ K b2 = 14 ∧ vp_in ((342 : Int32) + x3) (N b2) ∧ K x1 = 14 ∧ vp_in (x2 + x3) (N x1) ∧ ∀ I7 : MI, I7 = mup I x1 (ix (x2 + x3)) (I b2 (ix ((342 : Int32) + x3))) → ∀ v8 : Int32, v8 = x3 + 1 → ∃ n1, n1 < n ∧ J n1 x0 x1 x2 v8 I7)
def w_X12_save  (a0 : Nat) (a1 : Nat) (a2 : Int32) (K : MK) (N : MK) (I : MI) (L : ML) (R : MR) (Q : MI → Prop) : Prop := w_X12_save_2 a0 a1 a2 0 K N I L R Q
set_option maxHeartbeats 4000000 in
set_option maxRecDepth 100000 in
theorem z_X12_save_2 {X : ZX} {G : ZG}  {x0 : Nat} {x1 : Nat} {x2 : Int32} {x3 : Int32}  {K : MK} {N : MK} {I : MI} {L : ML} {R : MR}  {Q : MI → Prop} (hC : ZOk X G RX12 cX12_save 4 none) (hRm : X.2.2.2.1 = rm_X12_save) (h : w_X12_save_2 x0 x1 x2 x3 K N I L R  Q) : Z X G 4 0 0 (z_T X G (qIv K N L R Q) 0 0) K N I L R 2 [(0, .ref x0), (1, .ref x1), (2, .int x2), (3, .int x3)] [] := by
  delta w_X12_save_2 at h
  obtain ⟨J, ⟨n, h0⟩, hs⟩ := h
  have key : ∀ (n : Nat) (x0 : Nat) (x1 : Nat) (x2 : Int32) (x3 : Int32) (I : MI), J n x0 x1 x2 x3 I → Z X G 4 0 0 (z_T X G (qIv K N L R Q) 0 0) K N I L R 2 [(0, .ref x0), (1, .ref x1), (2, .int x2), (3, .int x3)] [] := by
    intro n
    induction n using Nat.strongRecOn with
    | _ n ih =>
      intro x0 x1 x2 x3 I hJ
      have hC2 : ∀ (y0 : Nat) (y1 : Nat) (y2 : Int32) (y3 : Int32) (zI : MI), (∃ n1, n1 < n ∧ J n1 y0 y1 y2 y3 zI) → Z X G 4 0 0 (z_T X G (qIv K N L R Q) 0 0) K N zI L R 2 [(0, .ref y0), (1, .ref y1), (2, .int y2), (3, .int y3)] [] := fun y0 y1 y2 y3 zI ⟨n1, hn1, hj⟩ => ih n1 hn1 y0 y1 y2 y3 zI hj
      have h := hs n x0 x1 x2 x3 I hJ
      refine z_iload_n hC (q := 3) dX12_save_2 rfl rfl ?_
      refine z_bipush hC (v := 83) k_bipush_83 dX12_save_3 ?_
      refine z_icmp_ge hC (tgt := 29) dX12_save_5 (by decide) (fun hc => ?_) (fun hc => ?_)
      · have h := h.1 hc
        exact z_vret hC dX12_save_29 ⟨rfl, rfl, rfl, rfl, rfl, h⟩
      · have h := h.2 hc
        refine z_aload_n hC (q := 1) dX12_save_8 rfl rfl ?_
        refine z_iload_n hC (q := 2) dX12_save_9 rfl rfl ?_
        refine z_iload_n hC (q := 3) dX12_save_10 rfl rfl ?_
        refine z_iadd hC dX12_save_11 ?_
        refine z_aload_n hC (q := 0) dX12_save_12 rfl rfl ?_
        obtain ⟨hk1, h⟩ := h
        obtain ⟨b2, hb2, h⟩ := h
        refine gf_RX12_98 hC dX12_save_13 hk1 hb2 ?_
        refine z_sipush hC (v := 342) k_sipush_342 dX12_save_16 ?_
        refine z_iload_n hC (q := 3) dX12_save_19 rfl rfl ?_
        refine z_iadd hC dX12_save_20 ?_
        obtain ⟨hk3, h⟩ := h
        obtain ⟨hi4, h⟩ := h
        refine z_iaload hC hk3 hi4 dX12_save_21 ?_
        obtain ⟨hk5, h⟩ := h
        obtain ⟨hi6, h⟩ := h
        refine z_iastore hC hk5 hi6 dX12_save_22 ?_
        refine z_genI (fun I7 eI7 => ?_)
        have h := h I7 eI7
        obtain ⟨v8, ev8⟩ : ∃ y : Int32, y = x3 + 1 := ⟨_, rfl⟩
        have h := h v8 ev8
        refine z_iinc hC (q := 3) (v := v8) (lv1 := [(3, .int v8), (0, .ref x0), (1, .ref x1), (2, .int x2)]) dX12_save_23 rfl (by rw [ev8, k_iinc_1]) (by decide) rfl ?_
        refine z_goto hC (tgt := 2) dX12_save_26 (by decide) ?_
        exact z_sub [(0, .ref x0), (1, .ref x1), (2, .int x2), (3, .int v8)] [1, 2, 3, 0] rfl (hC2 _ _ _ _ _ h)
  exact key n x0 x1 x2 x3 I h0
set_option maxHeartbeats 4000000 in
set_option maxRecDepth 100000 in
theorem c_X12_save  (l : Launch) (G : ZG) (a0 : Nat) (a1 : Nat) (a2 : Int32) (K : MK) (N : MK) (I : MI) (L : ML) (R : MR) (Q : MI → Prop) (h : w_X12_save a0 a1 a2 K N I L R Q) : Met l yX12_save (.code yX12_save cX12_save 4 none :: z_tbl) rm_X12_save (z_Pc G [.ref a0, .ref a1, .int a2] K N I L R) (z_Qc G (qIv K N L R Q)) 0 0 (z_A G) := by
  refine z_met (by decide) (Nat.le_of_ble_eq_true rfl) (fun X hX hRm hC0 hnm => ?_)
  subst hX
  have hC : ZOk X G RX12 cX12_save 4 none := hC0
  show Z X G 4 0 0 _ K N I L R 0 [(0, .ref a0), (1, .ref a1), (2, .int a2)] []
  delta w_X12_save at h
  refine z_iconst hC (v := 0) k_iconst_0 dX12_save_0 ?_
  refine z_istore_n hC (lv1 := [(3, .int 0), (0, .ref a0), (1, .ref a1), (2, .int a2)]) dX12_save_1 rfl (by decide) rfl ?_
  exact z_sub [(0, .ref a0), (1, .ref a1), (2, .int a2), (3, .int 0)] [1, 2, 3, 0] rfl (z_X12_save_2 hC hRm h)
def w_X12_comeBack_2  (x0 : Nat) (x1 : Nat) (x2 : Int32) (x3 : Int32)  (K : MK) (N : MK) (I : MI) (L : ML) (R : MR)  (Q : MI → Prop) : Prop := ∃ J : Nat → Nat → Nat → Int32 → Int32 → MI → Prop, (∃ n, J n x0 x1 x2 x3 I) ∧ ∀ (n : Nat) (x0 : Nat) (x1 : Nat) (x2 : Int32) (x3 : Int32) (I : MI), J n x0 x1 x2 x3 I → ((83 : Int32) ≤ x3 → Q I) ∧ (¬ (83 : Int32) ≤ x3 → K x0 = 13 ∧ ∃ b2 : Nat, R x0 14 = some b2 ∧ K x1 = 14 ∧ vp_in (x2 + x3) (N x1) ∧ K b2 = 14 ∧ vp_in ((342 : Int32) + x3) (N b2) ∧ ∀ I7 : MI, I7 = mup I b2 (ix ((342 : Int32) + x3)) (I x1 (ix (x2 + x3))) → ∀ v8 : Int32, v8 = x3 + 1 → ∃ n1, n1 < n ∧ J n1 x0 x1 x2 v8 I7)
def w_X12_comeBack  (a0 : Nat) (a1 : Nat) (a2 : Int32) (K : MK) (N : MK) (I : MI) (L : ML) (R : MR) (Q : MI → Prop) : Prop := w_X12_comeBack_2 a0 a1 a2 0 K N I L R Q
set_option maxHeartbeats 4000000 in
set_option maxRecDepth 100000 in
theorem z_X12_comeBack_2 {X : ZX} {G : ZG}  {x0 : Nat} {x1 : Nat} {x2 : Int32} {x3 : Int32}  {K : MK} {N : MK} {I : MI} {L : ML} {R : MR}  {Q : MI → Prop} (hC : ZOk X G RX12 cX12_comeBack 4 none) (hRm : X.2.2.2.1 = rm_X12_comeBack) (h : w_X12_comeBack_2 x0 x1 x2 x3 K N I L R  Q) : Z X G 4 0 0 (z_T X G (qIv K N L R Q) 0 0) K N I L R 2 [(0, .ref x0), (1, .ref x1), (2, .int x2), (3, .int x3)] [] := by
  delta w_X12_comeBack_2 at h
  obtain ⟨J, ⟨n, h0⟩, hs⟩ := h
  have key : ∀ (n : Nat) (x0 : Nat) (x1 : Nat) (x2 : Int32) (x3 : Int32) (I : MI), J n x0 x1 x2 x3 I → Z X G 4 0 0 (z_T X G (qIv K N L R Q) 0 0) K N I L R 2 [(0, .ref x0), (1, .ref x1), (2, .int x2), (3, .int x3)] [] := by
    intro n
    induction n using Nat.strongRecOn with
    | _ n ih =>
      intro x0 x1 x2 x3 I hJ
      have hC2 : ∀ (y0 : Nat) (y1 : Nat) (y2 : Int32) (y3 : Int32) (zI : MI), (∃ n1, n1 < n ∧ J n1 y0 y1 y2 y3 zI) → Z X G 4 0 0 (z_T X G (qIv K N L R Q) 0 0) K N zI L R 2 [(0, .ref y0), (1, .ref y1), (2, .int y2), (3, .int y3)] [] := fun y0 y1 y2 y3 zI ⟨n1, hn1, hj⟩ => ih n1 hn1 y0 y1 y2 y3 zI hj
      have h := hs n x0 x1 x2 x3 I hJ
      refine z_iload_n hC (q := 3) dX12_comeBack_2 rfl rfl ?_
      refine z_bipush hC (v := 83) k_bipush_83 dX12_comeBack_3 ?_
      refine z_icmp_ge hC (tgt := 29) dX12_comeBack_5 (by decide) (fun hc => ?_) (fun hc => ?_)
      · have h := h.1 hc
        exact z_vret hC dX12_comeBack_29 ⟨rfl, rfl, rfl, rfl, rfl, h⟩
      · have h := h.2 hc
        refine z_aload_n hC (q := 0) dX12_comeBack_8 rfl rfl ?_
        obtain ⟨hk1, h⟩ := h
        obtain ⟨b2, hb2, h⟩ := h
        refine gf_RX12_98 hC dX12_comeBack_9 hk1 hb2 ?_
        refine z_sipush hC (v := 342) k_sipush_342 dX12_comeBack_12 ?_
        refine z_iload_n hC (q := 3) dX12_comeBack_15 rfl rfl ?_
        refine z_iadd hC dX12_comeBack_16 ?_
        refine z_aload_n hC (q := 1) dX12_comeBack_17 rfl rfl ?_
        refine z_iload_n hC (q := 2) dX12_comeBack_18 rfl rfl ?_
        refine z_iload_n hC (q := 3) dX12_comeBack_19 rfl rfl ?_
        refine z_iadd hC dX12_comeBack_20 ?_
        obtain ⟨hk3, h⟩ := h
        obtain ⟨hi4, h⟩ := h
        refine z_iaload hC hk3 hi4 dX12_comeBack_21 ?_
        obtain ⟨hk5, h⟩ := h
        obtain ⟨hi6, h⟩ := h
        refine z_iastore hC hk5 hi6 dX12_comeBack_22 ?_
        refine z_genI (fun I7 eI7 => ?_)
        have h := h I7 eI7
        obtain ⟨v8, ev8⟩ : ∃ y : Int32, y = x3 + 1 := ⟨_, rfl⟩
        have h := h v8 ev8
        refine z_iinc hC (q := 3) (v := v8) (lv1 := [(3, .int v8), (0, .ref x0), (1, .ref x1), (2, .int x2)]) dX12_comeBack_23 rfl (by rw [ev8, k_iinc_1]) (by decide) rfl ?_
        refine z_goto hC (tgt := 2) dX12_comeBack_26 (by decide) ?_
        exact z_sub [(0, .ref x0), (1, .ref x1), (2, .int x2), (3, .int v8)] [1, 2, 3, 0] rfl (hC2 _ _ _ _ _ h)
  exact key n x0 x1 x2 x3 I h0
set_option maxHeartbeats 4000000 in
set_option maxRecDepth 100000 in
theorem c_X12_comeBack  (l : Launch) (G : ZG) (a0 : Nat) (a1 : Nat) (a2 : Int32) (K : MK) (N : MK) (I : MI) (L : ML) (R : MR) (Q : MI → Prop) (h : w_X12_comeBack a0 a1 a2 K N I L R Q) : Met l yX12_comeBack (.code yX12_comeBack cX12_comeBack 4 none :: z_tbl) rm_X12_comeBack (z_Pc G [.ref a0, .ref a1, .int a2] K N I L R) (z_Qc G (qIv K N L R Q)) 0 0 (z_A G) := by
  refine z_met (by decide) (Nat.le_of_ble_eq_true rfl) (fun X hX hRm hC0 hnm => ?_)
  subst hX
  have hC : ZOk X G RX12 cX12_comeBack 4 none := hC0
  show Z X G 4 0 0 _ K N I L R 0 [(0, .ref a0), (1, .ref a1), (2, .int a2)] []
  delta w_X12_comeBack at h
  refine z_iconst hC (v := 0) k_iconst_0 dX12_comeBack_0 ?_
  refine z_istore_n hC (lv1 := [(3, .int 0), (0, .ref a0), (1, .ref a1), (2, .int a2)]) dX12_comeBack_1 rfl (by decide) rfl ?_
  exact z_sub [(0, .ref a0), (1, .ref a1), (2, .int a2), (3, .int 0)] [1, 2, 3, 0] rfl (z_X12_comeBack_2 hC hRm h)
def w_X12_snap_11  (x0 : Nat) (x1 : Int32)  (K : MK) (N : MK) (I : MI) (L : ML) (R : MR)  (Q : MI → Prop) : Prop := ∃ J : Nat → Nat → Int32 → MI → Prop, (∃ n, J n x0 x1 I) ∧ ∀ (n : Nat) (x0 : Nat) (x1 : Int32) (I : MI), J n x0 x1 I → ((581 : Int32) ≤ x1 → K x0 = 13 ∧ ∀ I6 : MI, I6 = mup I x0 24 ((I x0 24) - 1) → ∃ b7 : Nat, R x0 17 = some b7 ∧ w_X12_save x0 b7 ((83 : Int32) * (I6 x0 24)) K N I6 L R (fun I8 => ∀ I9 : MI, I9 = mup I8 x0 24 ((I8 x0 24) + 1) → Q I9)) ∧ (¬ (581 : Int32) ≤ x1 → K x0 = 13 ∧ ∃ b11 : Nat, R x0 17 = some b11 ∧ K b11 = 14 ∧ vp_in (x1 + 83) (N b11) ∧ vp_in x1 (N b11) ∧ ∀ I15 : MI, I15 = mup I b11 (ix x1) (I b11 (ix (x1 + 83))) → ∀ v16 : Int32, v16 = x1 + 1 → ∃ n1, n1 < n ∧ J n1 x0 v16 I15)
def w_X12_snap  (a0 : Nat) (K : MK) (N : MK) (I : MI) (L : ML) (R : MR) (Q : MI → Prop) : Prop := K a0 = 13 ∧ (¬ (I a0 24) = 8 → ∃ b2 : Nat, R a0 17 = some b2 ∧ w_X12_save a0 b2 ((83 : Int32) * (I a0 24)) K N I L R (fun I3 => ∀ I4 : MI, I4 = mup I3 a0 24 ((I3 a0 24) + 1) → Q I4)) ∧ ((I a0 24) = 8 → w_X12_snap_11 a0 0 K N I L R Q)
set_option maxHeartbeats 4000000 in
set_option maxRecDepth 100000 in
theorem z_X12_snap_11 {X : ZX} {G : ZG}  {x0 : Nat} {x1 : Int32}  {K : MK} {N : MK} {I : MI} {L : ML} {R : MR}  {Q : MI → Prop} (hC : ZOk X G RX12 cX12_snap 2 none) (hRm : X.2.2.2.1 = rm_X12_snap) (h : w_X12_snap_11 x0 x1 K N I L R  Q) : Z X G 2 0 0 (z_T X G (qIv K N L R Q) 0 0) K N I L R 11 [(0, .ref x0), (1, .int x1)] [] := by
  delta w_X12_snap_11 at h
  obtain ⟨J, ⟨n, h0⟩, hs⟩ := h
  have key : ∀ (n : Nat) (x0 : Nat) (x1 : Int32) (I : MI), J n x0 x1 I → Z X G 2 0 0 (z_T X G (qIv K N L R Q) 0 0) K N I L R 11 [(0, .ref x0), (1, .int x1)] [] := by
    intro n
    induction n using Nat.strongRecOn with
    | _ n ih =>
      intro x0 x1 I hJ
      have hC11 : ∀ (y0 : Nat) (y1 : Int32) (zI : MI), (∃ n1, n1 < n ∧ J n1 y0 y1 zI) → Z X G 2 0 0 (z_T X G (qIv K N L R Q) 0 0) K N zI L R 11 [(0, .ref y0), (1, .int y1)] [] := fun y0 y1 zI ⟨n1, hn1, hj⟩ => ih n1 hn1 y0 y1 zI hj
      have h := hs n x0 x1 I hJ
      refine z_iload_n hC (q := 1) dX12_snap_11 rfl rfl ?_
      refine z_sipush hC (v := 581) k_sipush_581 dX12_snap_12 ?_
      refine z_icmp_ge hC (tgt := 39) dX12_snap_15 (by decide) (fun hc => ?_) (fun hc => ?_)
      · have h := h.1 hc
        refine z_aload_n hC (q := 0) dX12_snap_39 rfl rfl ?_
        refine z_dup hC rfl dX12_snap_40 ?_
        obtain ⟨hk5, h⟩ := h
        refine gf_RX12_258 hC dX12_snap_41 hk5 ?_
        refine z_iconst hC (v := 1) k_iconst_1 dX12_snap_44 ?_
        refine z_isub hC dX12_snap_45 ?_
        refine pf_RX12_258 hC dX12_snap_46 hk5 ?_
        refine z_genI (fun I6 eI6 => ?_)
        have h := h I6 eI6
        refine z_aload_n hC (q := 0) dX12_snap_49 rfl rfl ?_
        refine z_aload_n hC (q := 0) dX12_snap_50 rfl rfl ?_
        obtain ⟨b7, hb7, h⟩ := h
        refine gf_RX12_107 hC dX12_snap_51 hk5 hb7 ?_
        refine z_bipush hC (v := 83) k_bipush_83 dX12_snap_54 ?_
        refine z_aload_n hC (q := 0) dX12_snap_56 rfl rfl ?_
        refine gf_RX12_258 hC dX12_snap_57 hk5 ?_
        refine z_imul hC dX12_snap_60 ?_
        refine cl_RX12_342 hC (c_X12_save _ G x0 b7 ((83 : Int32) * (I6 x0 24)) K N I6 L R _ h) hk5 dX12_snap_61 (by rw [hRm]; exact ⟨Nat.le_of_ble_eq_true rfl, Nat.le_of_ble_eq_true rfl⟩) ⟨Nat.zero_le _, Nat.zero_le _⟩ (Nat.le_of_ble_eq_true rfl) (z_kIv (I := I6) (fun I8 h => ?_))
        refine z_aload_n hC (q := 0) dX12_snap_64 rfl rfl ?_
        refine z_dup hC rfl dX12_snap_65 ?_
        refine gf_RX12_258 hC dX12_snap_66 hk5 ?_
        refine z_iconst hC (v := 1) k_iconst_1 dX12_snap_69 ?_
        refine z_iadd hC dX12_snap_70 ?_
        refine pf_RX12_258 hC dX12_snap_71 hk5 ?_
        refine z_genI (fun I9 eI9 => ?_)
        have h := h I9 eI9
        exact z_vret hC dX12_snap_74 ⟨rfl, rfl, rfl, rfl, rfl, h⟩
      · have h := h.2 hc
        refine z_aload_n hC (q := 0) dX12_snap_18 rfl rfl ?_
        obtain ⟨hk10, h⟩ := h
        obtain ⟨b11, hb11, h⟩ := h
        refine gf_RX12_107 hC dX12_snap_19 hk10 hb11 ?_
        refine z_iload_n hC (q := 1) dX12_snap_22 rfl rfl ?_
        refine z_aload_n hC (q := 0) dX12_snap_23 rfl rfl ?_
        refine gf_RX12_107 hC dX12_snap_24 hk10 hb11 ?_
        refine z_iload_n hC (q := 1) dX12_snap_27 rfl rfl ?_
        refine z_bipush hC (v := 83) k_bipush_83 dX12_snap_28 ?_
        refine z_iadd hC dX12_snap_30 ?_
        obtain ⟨hk12, h⟩ := h
        obtain ⟨hi13, h⟩ := h
        refine z_iaload hC hk12 hi13 dX12_snap_31 ?_
        obtain ⟨hi14, h⟩ := h
        refine z_iastore hC hk12 hi14 dX12_snap_32 ?_
        refine z_genI (fun I15 eI15 => ?_)
        have h := h I15 eI15
        obtain ⟨v16, ev16⟩ : ∃ y : Int32, y = x1 + 1 := ⟨_, rfl⟩
        have h := h v16 ev16
        refine z_iinc hC (q := 1) (v := v16) (lv1 := [(1, .int v16), (0, .ref x0)]) dX12_snap_33 rfl (by rw [ev16, k_iinc_1]) (by decide) rfl ?_
        refine z_goto hC (tgt := 11) dX12_snap_36 (by decide) ?_
        exact z_sub [(0, .ref x0), (1, .int v16)] [1, 0] rfl (hC11 _ _ _ h)
  exact key n x0 x1 I h0
set_option maxHeartbeats 4000000 in
set_option maxRecDepth 100000 in
theorem c_X12_snap  (l : Launch) (G : ZG) (a0 : Nat) (K : MK) (N : MK) (I : MI) (L : ML) (R : MR) (Q : MI → Prop) (h : w_X12_snap a0 K N I L R Q) : Met l yX12_snap (.code yX12_snap cX12_snap 2 none :: z_tbl) rm_X12_snap (z_Pc G [.ref a0] K N I L R) (z_Qc G (qIv K N L R Q)) 0 0 (z_A G) := by
  refine z_met (by decide) (Nat.le_of_ble_eq_true rfl) (fun X hX hRm hC0 hnm => ?_)
  subst hX
  have hC : ZOk X G RX12 cX12_snap 2 none := hC0
  show Z X G 2 0 0 _ K N I L R 0 [(0, .ref a0)] []
  delta w_X12_snap at h
  refine z_aload_n hC (q := 0) dX12_snap_0 rfl rfl ?_
  obtain ⟨hk1, h⟩ := h
  refine gf_RX12_258 hC dX12_snap_1 hk1 ?_
  refine z_bipush hC (v := 8) k_bipush_8 dX12_snap_4 ?_
  refine z_icmp_ne hC (tgt := 49) dX12_snap_6 (by decide) (fun hc => ?_) (fun hc => ?_)
  · have h := h.1 hc
    refine z_aload_n hC (q := 0) dX12_snap_49 rfl rfl ?_
    refine z_aload_n hC (q := 0) dX12_snap_50 rfl rfl ?_
    obtain ⟨b2, hb2, h⟩ := h
    refine gf_RX12_107 hC dX12_snap_51 hk1 hb2 ?_
    refine z_bipush hC (v := 83) k_bipush_83 dX12_snap_54 ?_
    refine z_aload_n hC (q := 0) dX12_snap_56 rfl rfl ?_
    refine gf_RX12_258 hC dX12_snap_57 hk1 ?_
    refine z_imul hC dX12_snap_60 ?_
    refine cl_RX12_342 hC (c_X12_save _ G a0 b2 ((83 : Int32) * (I a0 24)) K N I L R _ h) hk1 dX12_snap_61 (by rw [hRm]; exact ⟨Nat.le_of_ble_eq_true rfl, Nat.le_of_ble_eq_true rfl⟩) ⟨Nat.zero_le _, Nat.zero_le _⟩ (Nat.le_of_ble_eq_true rfl) (z_kIv (I := I) (fun I3 h => ?_))
    refine z_aload_n hC (q := 0) dX12_snap_64 rfl rfl ?_
    refine z_dup hC rfl dX12_snap_65 ?_
    refine gf_RX12_258 hC dX12_snap_66 hk1 ?_
    refine z_iconst hC (v := 1) k_iconst_1 dX12_snap_69 ?_
    refine z_iadd hC dX12_snap_70 ?_
    refine pf_RX12_258 hC dX12_snap_71 hk1 ?_
    refine z_genI (fun I4 eI4 => ?_)
    have h := h I4 eI4
    exact z_vret hC dX12_snap_74 ⟨rfl, rfl, rfl, rfl, rfl, h⟩
  · have h := h.2 hc
    refine z_iconst hC (v := 0) k_iconst_0 dX12_snap_9 ?_
    refine z_istore_n hC (lv1 := [(1, .int 0), (0, .ref a0)]) dX12_snap_10 rfl (by decide) rfl ?_
    exact z_sub [(0, .ref a0), (1, .int 0)] [1, 0] rfl (z_X12_snap_11 hC hRm h)
def w_X12_stopAt_2  (x0 : Nat) (x1 : Int32) (x2 : Int32)  (K : MK) (N : MK) (I : MI) (L : ML) (R : MR)  (Q : Int32 → Prop) : Prop := ∃ J : Nat → Nat → Int32 → Int32 → Prop, (∃ n, J n x0 x1 x2) ∧ ∀ (n : Nat) (x0 : Nat) (x1 : Int32) (x2 : Int32), J n x0 x1 x2 → K x0 = 13 ∧ ∃ b2 : Nat, R x0 14 = some b2 ∧ K b2 = 14 ∧ vp_in 344 (N b2) ∧ ((I b2 (ix 344)) ≤ x2 → Q (-1)) ∧ (¬ (I b2 (ix 344)) ≤ x2 → vp_in ((345 : Int32) + x2) (N b2) ∧ (¬ (I b2 (ix ((345 : Int32) + x2))) = x1 → ∀ v6 : Int32, v6 = x2 + 1 → ∃ n1, n1 < n ∧ J n1 x0 x1 v6) ∧ ((I b2 (ix ((345 : Int32) + x2))) = x1 → Q x2))
def w_X12_stopAt  (a0 : Nat) (a1 : Int32) (K : MK) (N : MK) (I : MI) (L : ML) (R : MR) (Q : Int32 → Prop) : Prop := w_X12_stopAt_2 a0 a1 0 K N I L R Q
set_option maxHeartbeats 4000000 in
set_option maxRecDepth 100000 in
theorem z_X12_stopAt_2 {X : ZX} {G : ZG}  {x0 : Nat} {x1 : Int32} {x2 : Int32}  {K : MK} {N : MK} {I : MI} {L : ML} {R : MR}  {Q : Int32 → Prop} (hC : ZOk X G RX12 cX12_stopAt 3 (some .int)) (hRm : X.2.2.2.1 = rm_X12_stopAt) (h : w_X12_stopAt_2 x0 x1 x2 K N I L R  Q) : Z X G 3 0 0 (z_T X G (qPi K N I L R Q) 0 0) K N I L R 2 [(0, .ref x0), (1, .int x1), (2, .int x2)] [] := by
  delta w_X12_stopAt_2 at h
  obtain ⟨J, ⟨n, h0⟩, hs⟩ := h
  have key : ∀ (n : Nat) (x0 : Nat) (x1 : Int32) (x2 : Int32), J n x0 x1 x2 → Z X G 3 0 0 (z_T X G (qPi K N I L R Q) 0 0) K N I L R 2 [(0, .ref x0), (1, .int x1), (2, .int x2)] [] := by
    intro n
    induction n using Nat.strongRecOn with
    | _ n ih =>
      intro x0 x1 x2 hJ
      have hC2 : ∀ (y0 : Nat) (y1 : Int32) (y2 : Int32) , (∃ n1, n1 < n ∧ J n1 y0 y1 y2) → Z X G 3 0 0 (z_T X G (qPi K N I L R Q) 0 0) K N I L R 2 [(0, .ref y0), (1, .int y1), (2, .int y2)] [] := fun y0 y1 y2 ⟨n1, hn1, hj⟩ => ih n1 hn1 y0 y1 y2 hj
      have h := hs n x0 x1 x2 hJ
      refine z_iload_n hC (q := 2) dX12_stopAt_2 rfl rfl ?_
      refine z_aload_n hC (q := 0) dX12_stopAt_3 rfl rfl ?_
      obtain ⟨hk1, h⟩ := h
      obtain ⟨b2, hb2, h⟩ := h
      refine gf_RX12_98 hC dX12_stopAt_4 hk1 hb2 ?_
      refine z_sipush hC (v := 344) k_sipush_344 dX12_stopAt_7 ?_
      obtain ⟨hk3, h⟩ := h
      obtain ⟨hi4, h⟩ := h
      refine z_iaload hC hk3 hi4 dX12_stopAt_10 ?_
      refine z_icmp_ge hC (tgt := 36) dX12_stopAt_11 (by decide) (fun hc => ?_) (fun hc => ?_)
      · have h := h.1 hc
        refine z_iconst hC (v := (-1)) k_iconst_m1 dX12_stopAt_36 ?_
        exact z_iret hC dX12_stopAt_37 ⟨_, rfl, rfl, rfl, rfl, rfl, rfl, h⟩
      · have h := h.2 hc
        refine z_aload_n hC (q := 0) dX12_stopAt_14 rfl rfl ?_
        refine gf_RX12_98 hC dX12_stopAt_15 hk1 hb2 ?_
        refine z_sipush hC (v := 345) k_sipush_345 dX12_stopAt_18 ?_
        refine z_iload_n hC (q := 2) dX12_stopAt_21 rfl rfl ?_
        refine z_iadd hC dX12_stopAt_22 ?_
        obtain ⟨hi5, h⟩ := h
        refine z_iaload hC hk3 hi5 dX12_stopAt_23 ?_
        refine z_iload_n hC (q := 1) dX12_stopAt_24 rfl rfl ?_
        refine z_icmp_ne hC (tgt := 30) dX12_stopAt_25 (by decide) (fun hc => ?_) (fun hc => ?_)
        · have h := h.1 hc
          obtain ⟨v6, ev6⟩ : ∃ y : Int32, y = x2 + 1 := ⟨_, rfl⟩
          have h := h v6 ev6
          refine z_iinc hC (q := 2) (v := v6) (lv1 := [(2, .int v6), (0, .ref x0), (1, .int x1)]) dX12_stopAt_30 rfl (by rw [ev6, k_iinc_1]) (by decide) rfl ?_
          refine z_goto hC (tgt := 2) dX12_stopAt_33 (by decide) ?_
          exact z_sub [(0, .ref x0), (1, .int x1), (2, .int v6)] [1, 2, 0] rfl (hC2 _ _ _ h)
        · have h := h.2 hc
          refine z_iload_n hC (q := 2) dX12_stopAt_28 rfl rfl ?_
          exact z_iret hC dX12_stopAt_29 ⟨_, rfl, rfl, rfl, rfl, rfl, rfl, h⟩
  exact key n x0 x1 x2 h0
set_option maxHeartbeats 4000000 in
set_option maxRecDepth 100000 in
theorem c_X12_stopAt  (l : Launch) (G : ZG) (a0 : Nat) (a1 : Int32) (K : MK) (N : MK) (I : MI) (L : ML) (R : MR) (Q : Int32 → Prop) (h : w_X12_stopAt a0 a1 K N I L R Q) : Met l yX12_stopAt (.code yX12_stopAt cX12_stopAt 3 (some .int) :: z_tbl) rm_X12_stopAt (z_Pc G [.ref a0, .int a1] K N I L R) (z_Qc G (qPi K N I L R Q)) 0 0 (z_A G) := by
  refine z_met (by decide) (Nat.le_of_ble_eq_true rfl) (fun X hX hRm hC0 hnm => ?_)
  subst hX
  have hC : ZOk X G RX12 cX12_stopAt 3 (some .int) := hC0
  show Z X G 3 0 0 _ K N I L R 0 [(0, .ref a0), (1, .int a1)] []
  delta w_X12_stopAt at h
  refine z_iconst hC (v := 0) k_iconst_0 dX12_stopAt_0 ?_
  refine z_istore_n hC (lv1 := [(2, .int 0), (0, .ref a0), (1, .int a1)]) dX12_stopAt_1 rfl (by decide) rfl ?_
  exact z_sub [(0, .ref a0), (1, .int a1), (2, .int 0)] [1, 2, 0] rfl (z_X12_stopAt_2 hC hRm h)
def w_X12_stepTo_31  (x0 : Nat) (x2 : Int32) (x3 : Int32) (x4 : Int32)  (K : MK) (N : MK) (I : MI) (L : ML) (R : MR)  (Q : Int32 → Prop) : Prop := ∃ J : Nat → Nat → Int32 → Int32 → Int32 → Prop, (∃ n, J n x0 x2 x3 x4) ∧ ∀ (n : Nat) (x0 : Nat) (x2 : Int32) (x3 : Int32) (x4 : Int32), J n x0 x2 x3 x4 → K x0 = 13 ∧ ∃ b11 : Nat, R x0 14 = some b11 ∧ K b11 = 14 ∧ vp_in 1 (N b11) ∧ ((I b11 (ix 1)) ≤ x4 → Q (-1)) ∧ (¬ (I b11 (ix 1)) ≤ x4 → vp_in ((36 : Int32) + x4) (N b11) ∧ (¬ (I b11 (ix ((36 : Int32) + x4))) = x2 → vp_in ((6 : Int32) + x4) (N b11) ∧ Q (I b11 (ix ((6 : Int32) + x4)))) ∧ ((I b11 (ix ((36 : Int32) + x4))) = x2 → (x3 = (-1) → ∀ v16 : Int32, v16 = x4 + 1 → ∃ n1, n1 < n ∧ J n1 x0 x2 x3 v16) ∧ (¬ x3 = (-1) → vp_in ((6 : Int32) + x4) (N b11) ∧ w_X12_hasAddress x0 x3 (I b11 (ix ((6 : Int32) + x4))) K N I L R (fun r18 => (r18 = true → ∀ v19 : Int32, v19 = x4 + 1 → ∃ n1, n1 < n ∧ J n1 x0 x2 x3 v19) ∧ (r18 = false → Q (I b11 (ix ((6 : Int32) + x4))))))))
def w_X12_stepTo  (a0 : Nat) (K : MK) (N : MK) (I : MI) (L : ML) (R : MR) (Q : Int32 → Prop) : Prop := K a0 = 13 ∧ ∃ b2 : Nat, R a0 14 = some b2 ∧ K b2 = 14 ∧ vp_in 342 (N b2) ∧ ∀ v5 : Int32, v5 = (I b2 (ix 342)) → w_X12_lineOf a0 v5 K N I L R (fun r6 => w_X12_nextInChain a0 v5 (-1) K N I L R (fun r7 => w_X12_rowOf a0 v5 K N I L R (fun r8 => ∀ v9 : Int32, v9 = (r8 + 1) → w_X12_stepTo_31 a0 r6 r7 v9 K N I L R Q)))
set_option maxHeartbeats 4000000 in
set_option maxRecDepth 100000 in
theorem z_X12_stepTo_31 {X : ZX} {G : ZG}  {x0 : Nat} {x2 : Int32} {x3 : Int32} {x4 : Int32}  {K : MK} {N : MK} {I : MI} {L : ML} {R : MR}  {Q : Int32 → Prop} (hC : ZOk X G RX12 cX12_stepTo 5 (some .int)) (hRm : X.2.2.2.1 = rm_X12_stepTo) (h : w_X12_stepTo_31 x0 x2 x3 x4 K N I L R  Q) : Z X G 5 0 0 (z_T X G (qPi K N I L R Q) 0 0) K N I L R 31 [(0, .ref x0), (2, .int x2), (3, .int x3), (4, .int x4)] [] := by
  delta w_X12_stepTo_31 at h
  obtain ⟨J, ⟨n, h0⟩, hs⟩ := h
  have key : ∀ (n : Nat) (x0 : Nat) (x2 : Int32) (x3 : Int32) (x4 : Int32), J n x0 x2 x3 x4 → Z X G 5 0 0 (z_T X G (qPi K N I L R Q) 0 0) K N I L R 31 [(0, .ref x0), (2, .int x2), (3, .int x3), (4, .int x4)] [] := by
    intro n
    induction n using Nat.strongRecOn with
    | _ n ih =>
      intro x0 x2 x3 x4 hJ
      have hC31 : ∀ (y0 : Nat) (y1 : Int32) (y2 : Int32) (y3 : Int32) , (∃ n1, n1 < n ∧ J n1 y0 y1 y2 y3) → Z X G 5 0 0 (z_T X G (qPi K N I L R Q) 0 0) K N I L R 31 [(0, .ref y0), (2, .int y1), (3, .int y2), (4, .int y3)] [] := fun y0 y1 y2 y3 ⟨n1, hn1, hj⟩ => ih n1 hn1 y0 y1 y2 y3 hj
      have h := hs n x0 x2 x3 x4 hJ
      refine z_iload hC (q := 3) dX12_stepTo_31 rfl ?_
      refine z_aload_n hC (q := 0) dX12_stepTo_33 rfl rfl ?_
      obtain ⟨hk10, h⟩ := h
      obtain ⟨b11, hb11, h⟩ := h
      refine gf_RX12_98 hC dX12_stepTo_34 hk10 hb11 ?_
      refine z_iconst hC (v := 1) k_iconst_1 dX12_stepTo_37 ?_
      obtain ⟨hk12, h⟩ := h
      obtain ⟨hi13, h⟩ := h
      refine z_iaload hC hk12 hi13 dX12_stepTo_38 ?_
      refine z_icmp_ge hC (tgt := 96) dX12_stepTo_39 (by decide) (fun hc => ?_) (fun hc => ?_)
      · have h := h.1 hc
        refine z_iconst hC (v := (-1)) k_iconst_m1 dX12_stepTo_96 ?_
        exact z_iret hC dX12_stepTo_97 ⟨_, rfl, rfl, rfl, rfl, rfl, rfl, h⟩
      · have h := h.2 hc
        refine z_aload_n hC (q := 0) dX12_stepTo_42 rfl rfl ?_
        refine gf_RX12_98 hC dX12_stepTo_43 hk10 hb11 ?_
        refine z_bipush hC (v := 36) k_bipush_36 dX12_stepTo_46 ?_
        refine z_iload hC (q := 3) dX12_stepTo_48 rfl ?_
        refine z_iadd hC dX12_stepTo_50 ?_
        obtain ⟨hi14, h⟩ := h
        refine z_iaload hC hk12 hi14 dX12_stepTo_51 ?_
        refine z_iload_n hC (q := 1) dX12_stepTo_52 rfl rfl ?_
        refine z_icmp_ne hC (tgt := 79) dX12_stepTo_53 (by decide) (fun hc => ?_) (fun hc => ?_)
        · have h := h.1 hc
          refine z_aload_n hC (q := 0) dX12_stepTo_79 rfl rfl ?_
          refine gf_RX12_98 hC dX12_stepTo_80 hk10 hb11 ?_
          refine z_bipush hC (v := 6) k_bipush_6 dX12_stepTo_83 ?_
          refine z_iload hC (q := 3) dX12_stepTo_85 rfl ?_
          refine z_iadd hC dX12_stepTo_87 ?_
          obtain ⟨hi15, h⟩ := h
          refine z_iaload hC hk12 hi15 dX12_stepTo_88 ?_
          exact z_iret hC dX12_stepTo_89 ⟨_, rfl, rfl, rfl, rfl, rfl, rfl, h⟩
        · have h := h.2 hc
          refine z_iload_n hC (q := 2) dX12_stepTo_56 rfl rfl ?_
          refine z_iconst hC (v := (-1)) k_iconst_m1 dX12_stepTo_57 ?_
          refine z_icmp_eq hC (tgt := 90) dX12_stepTo_58 (by decide) (fun hc => ?_) (fun hc => ?_)
          · have h := h.1 hc
            obtain ⟨v16, ev16⟩ : ∃ y : Int32, y = x4 + 1 := ⟨_, rfl⟩
            have h := h v16 ev16
            refine z_iinc hC (q := 3) (v := v16) (lv1 := [(4, .int v16), (0, .ref x0), (2, .int x2), (3, .int x3)]) dX12_stepTo_90 rfl (by rw [ev16, k_iinc_1]) (by decide) rfl ?_
            refine z_goto hC (tgt := 31) dX12_stepTo_93 (by decide) ?_
            exact z_sub [(0, .ref x0), (2, .int x2), (3, .int x3), (4, .int v16)] [1, 2, 3, 0] rfl (hC31 _ _ _ _ h)
          · have h := h.2 hc
            refine z_aload_n hC (q := 0) dX12_stepTo_61 rfl rfl ?_
            refine z_iload_n hC (q := 2) dX12_stepTo_62 rfl rfl ?_
            refine z_aload_n hC (q := 0) dX12_stepTo_63 rfl rfl ?_
            refine gf_RX12_98 hC dX12_stepTo_64 hk10 hb11 ?_
            refine z_bipush hC (v := 6) k_bipush_6 dX12_stepTo_67 ?_
            refine z_iload hC (q := 3) dX12_stepTo_69 rfl ?_
            refine z_iadd hC dX12_stepTo_71 ?_
            obtain ⟨hi17, h⟩ := h
            refine z_iaload hC hk12 hi17 dX12_stepTo_72 ?_
            refine cl_RX12_276 hC (c_X12_hasAddress _ G x0 x3 (I b11 (ix ((6 : Int32) + x4))) K N I L R _ h) hk10 dX12_stepTo_73 (by rw [hRm]; exact ⟨Nat.le_of_ble_eq_true rfl, Nat.le_of_ble_eq_true rfl⟩) ⟨Nat.zero_le _, Nat.zero_le _⟩ (Nat.le_of_ble_eq_true rfl) (z_kPz (fun r18 h => ?_))
            refine z_ifz_ne hC (tgt := 90) dX12_stepTo_76 (by decide) (fun hc => ?_) (fun hc => ?_)
            · have h := h.1 hc
              obtain ⟨v19, ev19⟩ : ∃ y : Int32, y = x4 + 1 := ⟨_, rfl⟩
              have h := h v19 ev19
              refine z_iinc hC (q := 3) (v := v19) (lv1 := [(4, .int v19), (0, .ref x0), (2, .int x2), (3, .int x3)]) dX12_stepTo_90 rfl (by rw [ev19, k_iinc_1]) (by decide) rfl ?_
              refine z_goto hC (tgt := 31) dX12_stepTo_93 (by decide) ?_
              exact z_sub [(0, .ref x0), (2, .int x2), (3, .int x3), (4, .int v19)] [1, 2, 3, 0] rfl (hC31 _ _ _ _ h)
            · have h := h.2 hc
              refine z_aload_n hC (q := 0) dX12_stepTo_79 rfl rfl ?_
              refine gf_RX12_98 hC dX12_stepTo_80 hk10 hb11 ?_
              refine z_bipush hC (v := 6) k_bipush_6 dX12_stepTo_83 ?_
              refine z_iload hC (q := 3) dX12_stepTo_85 rfl ?_
              refine z_iadd hC dX12_stepTo_87 ?_
              refine z_iaload hC hk12 hi17 dX12_stepTo_88 ?_
              exact z_iret hC dX12_stepTo_89 ⟨_, rfl, rfl, rfl, rfl, rfl, rfl, h⟩
  exact key n x0 x2 x3 x4 h0
set_option maxHeartbeats 4000000 in
set_option maxRecDepth 100000 in
theorem c_X12_stepTo  (l : Launch) (G : ZG) (a0 : Nat) (K : MK) (N : MK) (I : MI) (L : ML) (R : MR) (Q : Int32 → Prop) (h : w_X12_stepTo a0 K N I L R Q) : Met l yX12_stepTo (.code yX12_stepTo cX12_stepTo 5 (some .int) :: z_tbl) rm_X12_stepTo (z_Pc G [.ref a0] K N I L R) (z_Qc G (qPi K N I L R Q)) 0 0 (z_A G) := by
  refine z_met (by decide) (Nat.le_of_ble_eq_true rfl) (fun X hX hRm hC0 hnm => ?_)
  subst hX
  have hC : ZOk X G RX12 cX12_stepTo 5 (some .int) := hC0
  show Z X G 5 0 0 _ K N I L R 0 [(0, .ref a0)] []
  delta w_X12_stepTo at h
  refine z_aload_n hC (q := 0) dX12_stepTo_0 rfl rfl ?_
  obtain ⟨hk1, h⟩ := h
  obtain ⟨b2, hb2, h⟩ := h
  refine gf_RX12_98 hC dX12_stepTo_1 hk1 hb2 ?_
  refine z_sipush hC (v := 342) k_sipush_342 dX12_stepTo_4 ?_
  obtain ⟨hk3, h⟩ := h
  obtain ⟨hi4, h⟩ := h
  refine z_iaload hC hk3 hi4 dX12_stepTo_7 ?_
  refine z_topi (fun v5 ev5 => ?_)
  have h := h v5 ev5
  refine z_istore_n hC (lv1 := [(1, .int v5), (0, .ref a0)]) dX12_stepTo_8 rfl (by decide) rfl ?_
  refine z_aload_n hC (q := 1) dX12_stepTo_9 rfl rfl ?_
  refine z_iload_n hC (q := 0) dX12_stepTo_10 rfl rfl ?_
  refine cl_RX12_270 hC (c_X12_lineOf _ G a0 v5 K N I L R _ h) hk1 dX12_stepTo_11 (by rw [hRm]; exact ⟨Nat.le_of_ble_eq_true rfl, Nat.le_of_ble_eq_true rfl⟩) ⟨Nat.zero_le _, Nat.zero_le _⟩ (Nat.le_of_ble_eq_true rfl) (z_kPi (fun r6 h => ?_))
  refine z_istore_n hC (lv1 := [(2, .int r6), (1, .int v5), (0, .ref a0)]) dX12_stepTo_14 rfl (by decide) rfl ?_
  refine z_aload_n hC (q := 2) dX12_stepTo_15 rfl rfl ?_
  refine z_iload_n hC (q := 1) dX12_stepTo_16 rfl rfl ?_
  refine z_iconst hC (v := (-1)) k_iconst_m1 dX12_stepTo_17 ?_
  refine cl_RX12_282 hC (c_X12_nextInChain _ G a0 v5 (-1) K N I L R _ h) hk1 dX12_stepTo_18 (by rw [hRm]; exact ⟨Nat.le_of_ble_eq_true rfl, Nat.le_of_ble_eq_true rfl⟩) ⟨Nat.zero_le _, Nat.zero_le _⟩ (Nat.le_of_ble_eq_true rfl) (z_kPi (fun r7 h => ?_))
  refine z_istore_n hC (lv1 := [(3, .int r7), (2, .int r6), (1, .int v5), (0, .ref a0)]) dX12_stepTo_21 rfl (by decide) rfl ?_
  refine z_aload_n hC (q := 3) dX12_stepTo_22 rfl rfl ?_
  refine z_iload_n hC (q := 2) dX12_stepTo_23 rfl rfl ?_
  refine cl_RX12_261 hC (c_X12_rowOf _ G a0 v5 K N I L R _ h) hk1 dX12_stepTo_24 (by rw [hRm]; exact ⟨Nat.le_of_ble_eq_true rfl, Nat.le_of_ble_eq_true rfl⟩) ⟨Nat.zero_le _, Nat.zero_le _⟩ (Nat.le_of_ble_eq_true rfl) (z_kPi (fun r8 h => ?_))
  refine z_iconst hC (v := 1) k_iconst_1 dX12_stepTo_27 ?_
  refine z_iadd hC dX12_stepTo_28 ?_
  refine z_topi (fun v9 ev9 => ?_)
  have h := h v9 ev9
  refine z_istore hC (lv1 := [(4, .int v9), (3, .int r7), (2, .int r6), (1, .int v5), (0, .ref a0)]) dX12_stepTo_29 (by decide) rfl ?_
  exact z_sub [(0, .ref a0), (2, .int r6), (3, .int r7), (4, .int v9)] [4, 2, 1, 0] rfl (z_X12_stepTo_31 hC hRm h)
def w_X12_leaveTo  (a0 : Nat) (K : MK) (N : MK) (I : MI) (L : ML) (R : MR) (Q : Int32 → Prop) : Prop := K a0 = 13 ∧ ∃ b2 : Nat, R a0 14 = some b2 ∧ K b2 = 14 ∧ vp_in 342 (N b2) ∧ w_X12_nextInChain a0 (I b2 (ix 342)) (-1) K N I L R (fun r5 => (¬ r5 = (-1) → vp_in ((76 : Int32) + r5) (N b2) ∧ Q (I b2 (ix ((76 : Int32) + r5)))) ∧ (r5 = (-1) → Q (-1)))
set_option maxHeartbeats 4000000 in
set_option maxRecDepth 100000 in
theorem c_X12_leaveTo  (l : Launch) (G : ZG) (a0 : Nat) (K : MK) (N : MK) (I : MI) (L : ML) (R : MR) (Q : Int32 → Prop) (h : w_X12_leaveTo a0 K N I L R Q) : Met l yX12_leaveTo (.code yX12_leaveTo cX12_leaveTo 2 (some .int) :: z_tbl) rm_X12_leaveTo (z_Pc G [.ref a0] K N I L R) (z_Qc G (qPi K N I L R Q)) 0 0 (z_A G) := by
  refine z_met (by decide) (Nat.le_of_ble_eq_true rfl) (fun X hX hRm hC0 hnm => ?_)
  subst hX
  have hC : ZOk X G RX12 cX12_leaveTo 2 (some .int) := hC0
  show Z X G 2 0 0 _ K N I L R 0 [(0, .ref a0)] []
  delta w_X12_leaveTo at h
  refine z_aload_n hC (q := 0) dX12_leaveTo_0 rfl rfl ?_
  refine z_aload_n hC (q := 0) dX12_leaveTo_1 rfl rfl ?_
  obtain ⟨hk1, h⟩ := h
  obtain ⟨b2, hb2, h⟩ := h
  refine gf_RX12_98 hC dX12_leaveTo_2 hk1 hb2 ?_
  refine z_sipush hC (v := 342) k_sipush_342 dX12_leaveTo_5 ?_
  obtain ⟨hk3, h⟩ := h
  obtain ⟨hi4, h⟩ := h
  refine z_iaload hC hk3 hi4 dX12_leaveTo_8 ?_
  refine z_iconst hC (v := (-1)) k_iconst_m1 dX12_leaveTo_9 ?_
  refine cl_RX12_282 hC (c_X12_nextInChain _ G a0 (I b2 (ix 342)) (-1) K N I L R _ h) hk1 dX12_leaveTo_10 (by rw [hRm]; exact ⟨Nat.le_of_ble_eq_true rfl, Nat.le_of_ble_eq_true rfl⟩) ⟨Nat.zero_le _, Nat.zero_le _⟩ (Nat.le_of_ble_eq_true rfl) (z_kPi (fun r5 h => ?_))
  refine z_istore_n hC (lv1 := [(1, .int r5), (0, .ref a0)]) dX12_leaveTo_13 rfl (by decide) rfl ?_
  refine z_iload_n hC (q := 0) dX12_leaveTo_14 rfl rfl ?_
  refine z_iconst hC (v := (-1)) k_iconst_m1 dX12_leaveTo_15 ?_
  refine z_icmp_ne hC (tgt := 23) dX12_leaveTo_16 (by decide) (fun hc => ?_) (fun hc => ?_)
  · have h := h.1 hc
    refine z_aload_n hC (q := 1) dX12_leaveTo_23 rfl rfl ?_
    refine gf_RX12_98 hC dX12_leaveTo_24 hk1 hb2 ?_
    refine z_bipush hC (v := 76) k_bipush_76 dX12_leaveTo_27 ?_
    refine z_iload_n hC (q := 0) dX12_leaveTo_29 rfl rfl ?_
    refine z_iadd hC dX12_leaveTo_30 ?_
    obtain ⟨hi6, h⟩ := h
    refine z_iaload hC hk3 hi6 dX12_leaveTo_31 ?_
    exact z_iret hC dX12_leaveTo_32 ⟨_, rfl, rfl, rfl, rfl, rfl, rfl, h⟩
  · have h := h.2 hc
    refine z_iconst hC (v := (-1)) k_iconst_m1 dX12_leaveTo_19 ?_
    refine z_goto hC (tgt := 32) dX12_leaveTo_20 (by decide) ?_
    exact z_iret hC dX12_leaveTo_32 ⟨_, rfl, rfl, rfl, rfl, rfl, rfl, h⟩
def w_X12_runTo_15  (x0 : Nat) (x1 : Int32)  (K : MK) (N : MK) (I : MI) (L : ML) (R : MR)  (Q : Int32 → Prop) : Prop := ∃ J : Nat → Nat → Int32 → Prop, (∃ n, J n x0 x1) ∧ ∀ (n : Nat) (x0 : Nat) (x1 : Int32), J n x0 x1 → K x0 = 13 ∧ ∃ b8 : Nat, R x0 14 = some b8 ∧ K b8 = 14 ∧ vp_in 1 (N b8) ∧ ((I b8 (ix 1)) ≤ x1 → Q (-1)) ∧ (¬ (I b8 (ix 1)) ≤ x1 → vp_in ((36 : Int32) + x1) (N b8) ∧ w_X12_stopAt x0 (I b8 (ix ((36 : Int32) + x1))) K N I L R (fun r12 => (r12 = (-1) → ∀ v13 : Int32, v13 = x1 + 1 → ∃ n1, n1 < n ∧ J n1 x0 v13) ∧ (¬ r12 = (-1) → vp_in ((6 : Int32) + x1) (N b8) ∧ Q (I b8 (ix ((6 : Int32) + x1))))))
def w_X12_runTo  (a0 : Nat) (K : MK) (N : MK) (I : MI) (L : ML) (R : MR) (Q : Int32 → Prop) : Prop := K a0 = 13 ∧ ∃ b2 : Nat, R a0 14 = some b2 ∧ K b2 = 14 ∧ vp_in 342 (N b2) ∧ w_X12_rowOf a0 (I b2 (ix 342)) K N I L R (fun r5 => ∀ v6 : Int32, v6 = (r5 + 1) → w_X12_runTo_15 a0 v6 K N I L R Q)
set_option maxHeartbeats 4000000 in
set_option maxRecDepth 100000 in
theorem z_X12_runTo_15 {X : ZX} {G : ZG}  {x0 : Nat} {x1 : Int32}  {K : MK} {N : MK} {I : MI} {L : ML} {R : MR}  {Q : Int32 → Prop} (hC : ZOk X G RX12 cX12_runTo 2 (some .int)) (hRm : X.2.2.2.1 = rm_X12_runTo) (h : w_X12_runTo_15 x0 x1 K N I L R  Q) : Z X G 2 0 0 (z_T X G (qPi K N I L R Q) 0 0) K N I L R 15 [(0, .ref x0), (1, .int x1)] [] := by
  delta w_X12_runTo_15 at h
  obtain ⟨J, ⟨n, h0⟩, hs⟩ := h
  have key : ∀ (n : Nat) (x0 : Nat) (x1 : Int32), J n x0 x1 → Z X G 2 0 0 (z_T X G (qPi K N I L R Q) 0 0) K N I L R 15 [(0, .ref x0), (1, .int x1)] [] := by
    intro n
    induction n using Nat.strongRecOn with
    | _ n ih =>
      intro x0 x1 hJ
      have hC15 : ∀ (y0 : Nat) (y1 : Int32) , (∃ n1, n1 < n ∧ J n1 y0 y1) → Z X G 2 0 0 (z_T X G (qPi K N I L R Q) 0 0) K N I L R 15 [(0, .ref y0), (1, .int y1)] [] := fun y0 y1 ⟨n1, hn1, hj⟩ => ih n1 hn1 y0 y1 hj
      have h := hs n x0 x1 hJ
      refine z_iload_n hC (q := 1) dX12_runTo_15 rfl rfl ?_
      refine z_aload_n hC (q := 0) dX12_runTo_16 rfl rfl ?_
      obtain ⟨hk7, h⟩ := h
      obtain ⟨b8, hb8, h⟩ := h
      refine gf_RX12_98 hC dX12_runTo_17 hk7 hb8 ?_
      refine z_iconst hC (v := 1) k_iconst_1 dX12_runTo_20 ?_
      obtain ⟨hk9, h⟩ := h
      obtain ⟨hi10, h⟩ := h
      refine z_iaload hC hk9 hi10 dX12_runTo_21 ?_
      refine z_icmp_ge hC (tgt := 58) dX12_runTo_22 (by decide) (fun hc => ?_) (fun hc => ?_)
      · have h := h.1 hc
        refine z_iconst hC (v := (-1)) k_iconst_m1 dX12_runTo_58 ?_
        exact z_iret hC dX12_runTo_59 ⟨_, rfl, rfl, rfl, rfl, rfl, rfl, h⟩
      · have h := h.2 hc
        refine z_aload_n hC (q := 0) dX12_runTo_25 rfl rfl ?_
        refine z_aload_n hC (q := 0) dX12_runTo_26 rfl rfl ?_
        refine gf_RX12_98 hC dX12_runTo_27 hk7 hb8 ?_
        refine z_bipush hC (v := 36) k_bipush_36 dX12_runTo_30 ?_
        refine z_iload_n hC (q := 1) dX12_runTo_32 rfl rfl ?_
        refine z_iadd hC dX12_runTo_33 ?_
        obtain ⟨hi11, h⟩ := h
        refine z_iaload hC hk9 hi11 dX12_runTo_34 ?_
        refine cl_RX12_346 hC (c_X12_stopAt _ G x0 (I b8 (ix ((36 : Int32) + x1))) K N I L R _ h) hk7 dX12_runTo_35 (by rw [hRm]; exact ⟨Nat.le_of_ble_eq_true rfl, Nat.le_of_ble_eq_true rfl⟩) ⟨Nat.zero_le _, Nat.zero_le _⟩ (Nat.le_of_ble_eq_true rfl) (z_kPi (fun r12 h => ?_))
        refine z_iconst hC (v := (-1)) k_iconst_m1 dX12_runTo_38 ?_
        refine z_icmp_eq hC (tgt := 52) dX12_runTo_39 (by decide) (fun hc => ?_) (fun hc => ?_)
        · have h := h.1 hc
          obtain ⟨v13, ev13⟩ : ∃ y : Int32, y = x1 + 1 := ⟨_, rfl⟩
          have h := h v13 ev13
          refine z_iinc hC (q := 1) (v := v13) (lv1 := [(1, .int v13), (0, .ref x0)]) dX12_runTo_52 rfl (by rw [ev13, k_iinc_1]) (by decide) rfl ?_
          refine z_goto hC (tgt := 15) dX12_runTo_55 (by decide) ?_
          exact z_sub [(0, .ref x0), (1, .int v13)] [1, 0] rfl (hC15 _ _ h)
        · have h := h.2 hc
          refine z_aload_n hC (q := 0) dX12_runTo_42 rfl rfl ?_
          refine gf_RX12_98 hC dX12_runTo_43 hk7 hb8 ?_
          refine z_bipush hC (v := 6) k_bipush_6 dX12_runTo_46 ?_
          refine z_iload_n hC (q := 1) dX12_runTo_48 rfl rfl ?_
          refine z_iadd hC dX12_runTo_49 ?_
          obtain ⟨hi14, h⟩ := h
          refine z_iaload hC hk9 hi14 dX12_runTo_50 ?_
          exact z_iret hC dX12_runTo_51 ⟨_, rfl, rfl, rfl, rfl, rfl, rfl, h⟩
  exact key n x0 x1 h0
set_option maxHeartbeats 4000000 in
set_option maxRecDepth 100000 in
theorem c_X12_runTo  (l : Launch) (G : ZG) (a0 : Nat) (K : MK) (N : MK) (I : MI) (L : ML) (R : MR) (Q : Int32 → Prop) (h : w_X12_runTo a0 K N I L R Q) : Met l yX12_runTo (.code yX12_runTo cX12_runTo 2 (some .int) :: z_tbl) rm_X12_runTo (z_Pc G [.ref a0] K N I L R) (z_Qc G (qPi K N I L R Q)) 0 0 (z_A G) := by
  refine z_met (by decide) (Nat.le_of_ble_eq_true rfl) (fun X hX hRm hC0 hnm => ?_)
  subst hX
  have hC : ZOk X G RX12 cX12_runTo 2 (some .int) := hC0
  show Z X G 2 0 0 _ K N I L R 0 [(0, .ref a0)] []
  delta w_X12_runTo at h
  refine z_aload_n hC (q := 0) dX12_runTo_0 rfl rfl ?_
  refine z_aload_n hC (q := 0) dX12_runTo_1 rfl rfl ?_
  obtain ⟨hk1, h⟩ := h
  obtain ⟨b2, hb2, h⟩ := h
  refine gf_RX12_98 hC dX12_runTo_2 hk1 hb2 ?_
  refine z_sipush hC (v := 342) k_sipush_342 dX12_runTo_5 ?_
  obtain ⟨hk3, h⟩ := h
  obtain ⟨hi4, h⟩ := h
  refine z_iaload hC hk3 hi4 dX12_runTo_8 ?_
  refine cl_RX12_261 hC (c_X12_rowOf _ G a0 (I b2 (ix 342)) K N I L R _ h) hk1 dX12_runTo_9 (by rw [hRm]; exact ⟨Nat.le_of_ble_eq_true rfl, Nat.le_of_ble_eq_true rfl⟩) ⟨Nat.zero_le _, Nat.zero_le _⟩ (Nat.le_of_ble_eq_true rfl) (z_kPi (fun r5 h => ?_))
  refine z_iconst hC (v := 1) k_iconst_1 dX12_runTo_12 ?_
  refine z_iadd hC dX12_runTo_13 ?_
  refine z_topi (fun v6 ev6 => ?_)
  have h := h v6 ev6
  refine z_istore_n hC (lv1 := [(1, .int v6), (0, .ref a0)]) dX12_runTo_14 rfl (by decide) rfl ?_
  exact z_sub [(0, .ref a0), (1, .int v6)] [1, 0] rfl (z_X12_runTo_15 hC hRm h)
def w_X12_refusal  (a0 : Nat) (a1 : Int32) (a2 : Int32) (a3 : Int32) (K : MK) (N : MK) (I : MI) (L : ML) (R : MR) (Q : Int32 → Prop) : Prop := (a1 = 0 → K a0 = 13 ∧ ∃ b2 : Nat, R a0 14 = some b2 ∧ K b2 = 14 ∧ vp_in ((353 : Int32) + a2) (N b2) ∧ (¬ (I b2 (ix ((353 : Int32) + a2))) = a3 → Q 0) ∧ ((I b2 (ix ((353 : Int32) + a2))) = a3 → Q 1)) ∧ (¬ a1 = 0 → (a1 = 1 → K a0 = 13 ∧ ∃ b6 : Nat, R a0 14 = some b6 ∧ K b6 = 14 ∧ vp_in ((361 : Int32) + a2) (N b6) ∧ (¬ (I b6 (ix ((361 : Int32) + a2))) = a3 → Q 0) ∧ ((I b6 (ix ((361 : Int32) + a2))) = a3 → Q 1)) ∧ (¬ a1 = 1 → (a1 = 2 → K a0 = 13 ∧ ∃ b10 : Nat, R a0 14 = some b10 ∧ K b10 = 14 ∧ vp_in 342 (N b10) ∧ (¬ (I b10 (ix 342)) = a2 → Q 0) ∧ ((I b10 (ix 342)) = a2 → Q 1)) ∧ (¬ a1 = 2 → (a1 = 3 → K a0 = 13 ∧ w_X12_stopAt a0 a2 K N I L R (fun r14 => (r14 = (-1) → ∃ b15 : Nat, R a0 14 = some b15 ∧ K b15 = 14 ∧ vp_in 344 (N b15) ∧ (¬ (I b15 (ix 344)) = 8 → Q 0) ∧ ((I b15 (ix 344)) = 8 → Q 2)) ∧ (¬ r14 = (-1) → Q 1))) ∧ (¬ a1 = 3 → (a1 = 4 → K a0 = 13 ∧ w_X12_stopAt a0 a2 K N I L R (fun r19 => (¬ r19 = (-1) → Q 0) ∧ (r19 = (-1) → Q 1))) ∧ (¬ a1 = 4 → (a1 = 5 → K a0 = 13 ∧ w_X12_stepTo a0 K N I L R (fun r21 => (¬ r21 = (-1) → Q 0) ∧ (r21 = (-1) → Q 1))) ∧ (¬ a1 = 5 → (a1 = 6 → K a0 = 13 ∧ w_X12_leaveTo a0 K N I L R (fun r23 => (¬ r23 = (-1) → w_X12_leaveTo a0 K N I L R (fun r24 => w_X12_isAddress a0 r24 K N I L R (fun r25 => (r25 = false → Q 2) ∧ (r25 = true → Q 0)))) ∧ (r23 = (-1) → Q 1))) ∧ (¬ a1 = 6 → K a0 = 13 ∧ w_X12_runTo a0 K N I L R (fun r27 => (¬ r27 = (-1) → Q 0) ∧ (r27 = (-1) → Q 1)))))))))
set_option maxHeartbeats 4000000 in
set_option maxRecDepth 100000 in
theorem c_X12_refusal  (l : Launch) (G : ZG) (a0 : Nat) (a1 : Int32) (a2 : Int32) (a3 : Int32) (K : MK) (N : MK) (I : MI) (L : ML) (R : MR) (Q : Int32 → Prop) (h : w_X12_refusal a0 a1 a2 a3 K N I L R Q) : Met l yX12_refusal (.code yX12_refusal cX12_refusal 4 (some .int) :: z_tbl) rm_X12_refusal (z_Pc G [.ref a0, .int a1, .int a2, .int a3] K N I L R) (z_Qc G (qPi K N I L R Q)) 0 0 (z_A G) := by
  refine z_met (by decide) (Nat.le_of_ble_eq_true rfl) (fun X hX hRm hC0 hnm => ?_)
  subst hX
  have hC : ZOk X G RX12 cX12_refusal 4 (some .int) := hC0
  show Z X G 4 0 0 _ K N I L R 0 [(0, .ref a0), (1, .int a1), (2, .int a2), (3, .int a3)] []
  delta w_X12_refusal at h
  refine z_iload_n hC (q := 1) dX12_refusal_0 rfl rfl ?_
  by_cases hc0 : a1 = 0
  · have h := h.1 hc0
    refine z_tableIn hC (off := 43) (tgt := 44) 0 hc0 dX12_refusal_1 (by decide) (by decide) ?_
    refine z_aload_n hC (q := 0) dX12_refusal_44 rfl rfl ?_
    obtain ⟨hk1, h⟩ := h
    obtain ⟨b2, hb2, h⟩ := h
    refine gf_RX12_98 hC dX12_refusal_45 hk1 hb2 ?_
    refine z_sipush hC (v := 353) k_sipush_353 dX12_refusal_48 ?_
    refine z_iload_n hC (q := 2) dX12_refusal_51 rfl rfl ?_
    refine z_iadd hC dX12_refusal_52 ?_
    obtain ⟨hk3, h⟩ := h
    obtain ⟨hi4, h⟩ := h
    refine z_iaload hC hk3 hi4 dX12_refusal_53 ?_
    refine z_iload_n hC (q := 3) dX12_refusal_54 rfl rfl ?_
    refine z_icmp_ne hC (tgt := 62) dX12_refusal_55 (by decide) (fun hc => ?_) (fun hc => ?_)
    · have h := h.1 hc
      refine z_iconst hC (v := 0) k_iconst_0 dX12_refusal_62 ?_
      exact z_iret hC dX12_refusal_63 ⟨_, rfl, rfl, rfl, rfl, rfl, rfl, h⟩
    · have h := h.2 hc
      refine z_iconst hC (v := 1) k_iconst_1 dX12_refusal_58 ?_
      refine z_goto hC (tgt := 63) dX12_refusal_59 (by decide) ?_
      exact z_iret hC dX12_refusal_63 ⟨_, rfl, rfl, rfl, rfl, rfl, rfl, h⟩
  · have h := h.2 hc0
    by_cases hc1 : a1 = 1
    · have h := h.1 hc1
      refine z_tableIn hC (off := 63) (tgt := 64) 1 hc1 dX12_refusal_1 (by decide) (by decide) ?_
      refine z_aload_n hC (q := 0) dX12_refusal_64 rfl rfl ?_
      obtain ⟨hk5, h⟩ := h
      obtain ⟨b6, hb6, h⟩ := h
      refine gf_RX12_98 hC dX12_refusal_65 hk5 hb6 ?_
      refine z_sipush hC (v := 361) k_sipush_361 dX12_refusal_68 ?_
      refine z_iload_n hC (q := 2) dX12_refusal_71 rfl rfl ?_
      refine z_iadd hC dX12_refusal_72 ?_
      obtain ⟨hk7, h⟩ := h
      obtain ⟨hi8, h⟩ := h
      refine z_iaload hC hk7 hi8 dX12_refusal_73 ?_
      refine z_iload_n hC (q := 3) dX12_refusal_74 rfl rfl ?_
      refine z_icmp_ne hC (tgt := 82) dX12_refusal_75 (by decide) (fun hc => ?_) (fun hc => ?_)
      · have h := h.1 hc
        refine z_iconst hC (v := 0) k_iconst_0 dX12_refusal_82 ?_
        exact z_iret hC dX12_refusal_83 ⟨_, rfl, rfl, rfl, rfl, rfl, rfl, h⟩
      · have h := h.2 hc
        refine z_iconst hC (v := 1) k_iconst_1 dX12_refusal_78 ?_
        refine z_goto hC (tgt := 83) dX12_refusal_79 (by decide) ?_
        exact z_iret hC dX12_refusal_83 ⟨_, rfl, rfl, rfl, rfl, rfl, rfl, h⟩
    · have h := h.2 hc1
      by_cases hc2 : a1 = 2
      · have h := h.1 hc2
        refine z_tableIn hC (off := 83) (tgt := 84) 2 hc2 dX12_refusal_1 (by decide) (by decide) ?_
        refine z_aload_n hC (q := 0) dX12_refusal_84 rfl rfl ?_
        obtain ⟨hk9, h⟩ := h
        obtain ⟨b10, hb10, h⟩ := h
        refine gf_RX12_98 hC dX12_refusal_85 hk9 hb10 ?_
        refine z_sipush hC (v := 342) k_sipush_342 dX12_refusal_88 ?_
        obtain ⟨hk11, h⟩ := h
        obtain ⟨hi12, h⟩ := h
        refine z_iaload hC hk11 hi12 dX12_refusal_91 ?_
        refine z_iload_n hC (q := 2) dX12_refusal_92 rfl rfl ?_
        refine z_icmp_ne hC (tgt := 100) dX12_refusal_93 (by decide) (fun hc => ?_) (fun hc => ?_)
        · have h := h.1 hc
          refine z_iconst hC (v := 0) k_iconst_0 dX12_refusal_100 ?_
          exact z_iret hC dX12_refusal_101 ⟨_, rfl, rfl, rfl, rfl, rfl, rfl, h⟩
        · have h := h.2 hc
          refine z_iconst hC (v := 1) k_iconst_1 dX12_refusal_96 ?_
          refine z_goto hC (tgt := 101) dX12_refusal_97 (by decide) ?_
          exact z_iret hC dX12_refusal_101 ⟨_, rfl, rfl, rfl, rfl, rfl, rfl, h⟩
      · have h := h.2 hc2
        by_cases hc3 : a1 = 3
        · have h := h.1 hc3
          refine z_tableIn hC (off := 101) (tgt := 102) 3 hc3 dX12_refusal_1 (by decide) (by decide) ?_
          refine z_aload_n hC (q := 0) dX12_refusal_102 rfl rfl ?_
          refine z_iload_n hC (q := 2) dX12_refusal_103 rfl rfl ?_
          obtain ⟨hk13, h⟩ := h
          refine cl_RX12_346 hC (c_X12_stopAt _ G a0 a2 K N I L R _ h) hk13 dX12_refusal_104 (by rw [hRm]; exact ⟨Nat.le_of_ble_eq_true rfl, Nat.le_of_ble_eq_true rfl⟩) ⟨Nat.zero_le _, Nat.zero_le _⟩ (Nat.le_of_ble_eq_true rfl) (z_kPi (fun r14 h => ?_))
          refine z_iconst hC (v := (-1)) k_iconst_m1 dX12_refusal_107 ?_
          refine z_icmp_eq hC (tgt := 115) dX12_refusal_108 (by decide) (fun hc => ?_) (fun hc => ?_)
          · have h := h.1 hc
            refine z_aload_n hC (q := 0) dX12_refusal_115 rfl rfl ?_
            obtain ⟨b15, hb15, h⟩ := h
            refine gf_RX12_98 hC dX12_refusal_116 hk13 hb15 ?_
            refine z_sipush hC (v := 344) k_sipush_344 dX12_refusal_119 ?_
            obtain ⟨hk16, h⟩ := h
            obtain ⟨hi17, h⟩ := h
            refine z_iaload hC hk16 hi17 dX12_refusal_122 ?_
            refine z_bipush hC (v := 8) k_bipush_8 dX12_refusal_123 ?_
            refine z_icmp_ne hC (tgt := 132) dX12_refusal_125 (by decide) (fun hc => ?_) (fun hc => ?_)
            · have h := h.1 hc
              refine z_iconst hC (v := 0) k_iconst_0 dX12_refusal_132 ?_
              exact z_iret hC dX12_refusal_133 ⟨_, rfl, rfl, rfl, rfl, rfl, rfl, h⟩
            · have h := h.2 hc
              refine z_iconst hC (v := 2) k_iconst_2 dX12_refusal_128 ?_
              refine z_goto hC (tgt := 133) dX12_refusal_129 (by decide) ?_
              exact z_iret hC dX12_refusal_133 ⟨_, rfl, rfl, rfl, rfl, rfl, rfl, h⟩
          · have h := h.2 hc
            refine z_iconst hC (v := 1) k_iconst_1 dX12_refusal_111 ?_
            refine z_goto hC (tgt := 133) dX12_refusal_112 (by decide) ?_
            exact z_iret hC dX12_refusal_133 ⟨_, rfl, rfl, rfl, rfl, rfl, rfl, h⟩
        · have h := h.2 hc3
          by_cases hc4 : a1 = 4
          · have h := h.1 hc4
            refine z_tableIn hC (off := 133) (tgt := 134) 4 hc4 dX12_refusal_1 (by decide) (by decide) ?_
            refine z_aload_n hC (q := 0) dX12_refusal_134 rfl rfl ?_
            refine z_iload_n hC (q := 2) dX12_refusal_135 rfl rfl ?_
            obtain ⟨hk18, h⟩ := h
            refine cl_RX12_346 hC (c_X12_stopAt _ G a0 a2 K N I L R _ h) hk18 dX12_refusal_136 (by rw [hRm]; exact ⟨Nat.le_of_ble_eq_true rfl, Nat.le_of_ble_eq_true rfl⟩) ⟨Nat.zero_le _, Nat.zero_le _⟩ (Nat.le_of_ble_eq_true rfl) (z_kPi (fun r19 h => ?_))
            refine z_iconst hC (v := (-1)) k_iconst_m1 dX12_refusal_139 ?_
            refine z_icmp_ne hC (tgt := 147) dX12_refusal_140 (by decide) (fun hc => ?_) (fun hc => ?_)
            · have h := h.1 hc
              refine z_iconst hC (v := 0) k_iconst_0 dX12_refusal_147 ?_
              exact z_iret hC dX12_refusal_148 ⟨_, rfl, rfl, rfl, rfl, rfl, rfl, h⟩
            · have h := h.2 hc
              refine z_iconst hC (v := 1) k_iconst_1 dX12_refusal_143 ?_
              refine z_goto hC (tgt := 148) dX12_refusal_144 (by decide) ?_
              exact z_iret hC dX12_refusal_148 ⟨_, rfl, rfl, rfl, rfl, rfl, rfl, h⟩
          · have h := h.2 hc4
            by_cases hc5 : a1 = 5
            · have h := h.1 hc5
              refine z_tableIn hC (off := 148) (tgt := 149) 5 hc5 dX12_refusal_1 (by decide) (by decide) ?_
              refine z_aload_n hC (q := 0) dX12_refusal_149 rfl rfl ?_
              obtain ⟨hk20, h⟩ := h
              refine cl_RX12_349 hC (c_X12_stepTo _ G a0 K N I L R _ h) hk20 dX12_refusal_150 (by rw [hRm]; exact ⟨Nat.le_of_ble_eq_true rfl, Nat.le_of_ble_eq_true rfl⟩) ⟨Nat.zero_le _, Nat.zero_le _⟩ (Nat.le_of_ble_eq_true rfl) (z_kPi (fun r21 h => ?_))
              refine z_iconst hC (v := (-1)) k_iconst_m1 dX12_refusal_153 ?_
              refine z_icmp_ne hC (tgt := 161) dX12_refusal_154 (by decide) (fun hc => ?_) (fun hc => ?_)
              · have h := h.1 hc
                refine z_iconst hC (v := 0) k_iconst_0 dX12_refusal_161 ?_
                exact z_iret hC dX12_refusal_162 ⟨_, rfl, rfl, rfl, rfl, rfl, rfl, h⟩
              · have h := h.2 hc
                refine z_iconst hC (v := 1) k_iconst_1 dX12_refusal_157 ?_
                refine z_goto hC (tgt := 162) dX12_refusal_158 (by decide) ?_
                exact z_iret hC dX12_refusal_162 ⟨_, rfl, rfl, rfl, rfl, rfl, rfl, h⟩
            · have h := h.2 hc5
              by_cases hc6 : a1 = 6
              · have h := h.1 hc6
                refine z_tableIn hC (off := 162) (tgt := 163) 6 hc6 dX12_refusal_1 (by decide) (by decide) ?_
                refine z_aload_n hC (q := 0) dX12_refusal_163 rfl rfl ?_
                obtain ⟨hk22, h⟩ := h
                refine cl_RX12_352 hC (c_X12_leaveTo _ G a0 K N I L R _ h) hk22 dX12_refusal_164 (by rw [hRm]; exact ⟨Nat.le_of_ble_eq_true rfl, Nat.le_of_ble_eq_true rfl⟩) ⟨Nat.zero_le _, Nat.zero_le _⟩ (Nat.le_of_ble_eq_true rfl) (z_kPi (fun r23 h => ?_))
                refine z_iconst hC (v := (-1)) k_iconst_m1 dX12_refusal_167 ?_
                refine z_icmp_ne hC (tgt := 175) dX12_refusal_168 (by decide) (fun hc => ?_) (fun hc => ?_)
                · have h := h.1 hc
                  refine z_aload_n hC (q := 0) dX12_refusal_175 rfl rfl ?_
                  refine z_aload_n hC (q := 0) dX12_refusal_176 rfl rfl ?_
                  refine cl_RX12_352 hC (c_X12_leaveTo _ G a0 K N I L R _ h) hk22 dX12_refusal_177 (by rw [hRm]; exact ⟨Nat.le_of_ble_eq_true rfl, Nat.le_of_ble_eq_true rfl⟩) ⟨Nat.zero_le _, Nat.zero_le _⟩ (Nat.le_of_ble_eq_true rfl) (z_kPi (fun r24 h => ?_))
                  refine cl_RX12_267 hC (c_X12_isAddress _ G a0 r24 K N I L R _ h) hk22 dX12_refusal_180 (by rw [hRm]; exact ⟨Nat.le_of_ble_eq_true rfl, Nat.le_of_ble_eq_true rfl⟩) ⟨Nat.zero_le _, Nat.zero_le _⟩ (Nat.le_of_ble_eq_true rfl) (z_kPz (fun r25 h => ?_))
                  refine z_ifz_eq hC (tgt := 190) dX12_refusal_183 (by decide) (fun hc => ?_) (fun hc => ?_)
                  · have h := h.1 hc
                    refine z_iconst hC (v := 2) k_iconst_2 dX12_refusal_190 ?_
                    exact z_iret hC dX12_refusal_191 ⟨_, rfl, rfl, rfl, rfl, rfl, rfl, h⟩
                  · have h := h.2 hc
                    refine z_iconst hC (v := 0) k_iconst_0 dX12_refusal_186 ?_
                    refine z_goto hC (tgt := 191) dX12_refusal_187 (by decide) ?_
                    exact z_iret hC dX12_refusal_191 ⟨_, rfl, rfl, rfl, rfl, rfl, rfl, h⟩
                · have h := h.2 hc
                  refine z_iconst hC (v := 1) k_iconst_1 dX12_refusal_171 ?_
                  refine z_goto hC (tgt := 191) dX12_refusal_172 (by decide) ?_
                  exact z_iret hC dX12_refusal_191 ⟨_, rfl, rfl, rfl, rfl, rfl, rfl, h⟩
              · have h := h.2 hc6
                have hout : a1.toInt < 0 ∨ 6 < a1.toInt := by
                  have hc0 := z_nei hc0 (by decide : (0 : Int32).toInt = 0)
                  have hc1 := z_nei hc1 (by decide : (1 : Int32).toInt = 1)
                  have hc2 := z_nei hc2 (by decide : (2 : Int32).toInt = 2)
                  have hc3 := z_nei hc3 (by decide : (3 : Int32).toInt = 3)
                  have hc4 := z_nei hc4 (by decide : (4 : Int32).toInt = 4)
                  have hc5 := z_nei hc5 (by decide : (5 : Int32).toInt = 5)
                  have hc6 := z_nei hc6 (by decide : (6 : Int32).toInt = 6)
                  omega
                refine z_tableOut hC (tgt := 192) dX12_refusal_1 hout (by decide) ?_
                refine z_aload_n hC (q := 0) dX12_refusal_192 rfl rfl ?_
                obtain ⟨hk26, h⟩ := h
                refine cl_RX12_355 hC (c_X12_runTo _ G a0 K N I L R _ h) hk26 dX12_refusal_193 (by rw [hRm]; exact ⟨Nat.le_of_ble_eq_true rfl, Nat.le_of_ble_eq_true rfl⟩) ⟨Nat.zero_le _, Nat.zero_le _⟩ (Nat.le_of_ble_eq_true rfl) (z_kPi (fun r27 h => ?_))
                refine z_iconst hC (v := (-1)) k_iconst_m1 dX12_refusal_196 ?_
                refine z_icmp_ne hC (tgt := 204) dX12_refusal_197 (by decide) (fun hc => ?_) (fun hc => ?_)
                · have h := h.1 hc
                  refine z_iconst hC (v := 0) k_iconst_0 dX12_refusal_204 ?_
                  exact z_iret hC dX12_refusal_205 ⟨_, rfl, rfl, rfl, rfl, rfl, rfl, h⟩
                · have h := h.2 hc
                  refine z_iconst hC (v := 1) k_iconst_1 dX12_refusal_200 ?_
                  refine z_goto hC (tgt := 205) dX12_refusal_201 (by decide) ?_
                  exact z_iret hC dX12_refusal_205 ⟨_, rfl, rfl, rfl, rfl, rfl, rfl, h⟩
def w_X12_live  (a0 : Nat) (a1 : Int32) (a2 : Int32) (a3 : Int32) (K : MK) (N : MK) (I : MI) (L : ML) (R : MR) (Q : MI → Prop) : Prop := K a0 = 13 ∧ ∃ b2 : Nat, R a0 14 = some b2 ∧ K b2 = 14 ∧ vp_in 343 (N b2) ∧ ∀ I5 : MI, I5 = mup I b2 (ix 343) ((I b2 (ix 343)) + 1) → (a1 = 0 → vp_in ((353 : Int32) + a2) (N b2) ∧ ∀ I7 : MI, I7 = mup I5 b2 (ix ((353 : Int32) + a2)) a3 → Q I7) ∧ (¬ a1 = 0 → (a1 = 1 → vp_in ((361 : Int32) + a2) (N b2) ∧ ∀ I9 : MI, I9 = mup I5 b2 (ix ((361 : Int32) + a2)) a3 → Q I9) ∧ (¬ a1 = 1 → (a1 = 2 → vp_in 342 (N b2) ∧ ∀ I11 : MI, I11 = mup I5 b2 (ix 342) a2 → Q I11) ∧ (¬ a1 = 2 → (a1 = 3 → vp_in 344 (N b2) ∧ vp_in ((345 : Int32) + (I5 b2 (ix 344))) (N b2) ∧ ∀ I14 : MI, I14 = mup I5 b2 (ix ((345 : Int32) + (I5 b2 (ix 344)))) a2 → ∀ I15 : MI, I15 = mup I14 b2 (ix 344) ((I14 b2 (ix 344)) + 1) → Q I15) ∧ (¬ a1 = 3 → (a1 = 4 → w_X12_stopAt a0 a2 K N I5 L R (fun r16 => vp_in 344 (N b2) ∧ ∀ I18 : MI, I18 = mup I5 b2 (ix 344) ((I5 b2 (ix 344)) - 1) → vp_in ((345 : Int32) + (I18 b2 (ix 344))) (N b2) ∧ vp_in ((345 : Int32) + r16) (N b2) ∧ ∀ I21 : MI, I21 = mup I18 b2 (ix ((345 : Int32) + r16)) (I18 b2 (ix ((345 : Int32) + (I18 b2 (ix 344))))) → Q I21)) ∧ (¬ a1 = 4 → (¬ a1 = 5 → (¬ a1 = 6 → w_X12_runTo a0 K N I5 L R (fun r22 => vp_in 342 (N b2) ∧ ∀ I24 : MI, I24 = mup I5 b2 (ix 342) r22 → Q I24)) ∧ (a1 = 6 → w_X12_leaveTo a0 K N I5 L R (fun r25 => vp_in 342 (N b2) ∧ ∀ I27 : MI, I27 = mup I5 b2 (ix 342) r25 → Q I27))) ∧ (a1 = 5 → w_X12_stepTo a0 K N I5 L R (fun r28 => vp_in 342 (N b2) ∧ ∀ I30 : MI, I30 = mup I5 b2 (ix 342) r28 → Q I30)))))))
set_option maxHeartbeats 4000000 in
set_option maxRecDepth 100000 in
theorem c_X12_live  (l : Launch) (G : ZG) (a0 : Nat) (a1 : Int32) (a2 : Int32) (a3 : Int32) (K : MK) (N : MK) (I : MI) (L : ML) (R : MR) (Q : MI → Prop) (h : w_X12_live a0 a1 a2 a3 K N I L R Q) : Met l yX12_live (.code yX12_live cX12_live 5 none :: z_tbl) rm_X12_live (z_Pc G [.ref a0, .int a1, .int a2, .int a3] K N I L R) (z_Qc G (qIv K N L R Q)) 0 0 (z_A G) := by
  refine z_met (by decide) (Nat.le_of_ble_eq_true rfl) (fun X hX hRm hC0 hnm => ?_)
  subst hX
  have hC : ZOk X G RX12 cX12_live 5 none := hC0
  show Z X G 5 0 0 _ K N I L R 0 [(0, .ref a0), (1, .int a1), (2, .int a2), (3, .int a3)] []
  delta w_X12_live at h
  refine z_aload_n hC (q := 0) dX12_live_0 rfl rfl ?_
  obtain ⟨hk1, h⟩ := h
  obtain ⟨b2, hb2, h⟩ := h
  refine gf_RX12_98 hC dX12_live_1 hk1 hb2 ?_
  refine z_sipush hC (v := 343) k_sipush_343 dX12_live_4 ?_
  refine z_dup2 hC rfl rfl dX12_live_7 ?_
  obtain ⟨hk3, h⟩ := h
  obtain ⟨hi4, h⟩ := h
  refine z_iaload hC hk3 hi4 dX12_live_8 ?_
  refine z_iconst hC (v := 1) k_iconst_1 dX12_live_9 ?_
  refine z_iadd hC dX12_live_10 ?_
  refine z_iastore hC hk3 hi4 dX12_live_11 ?_
  refine z_genI (fun I5 eI5 => ?_)
  have h := h I5 eI5
  refine z_iload_n hC (q := 1) dX12_live_12 rfl rfl ?_
  by_cases hc0 : a1 = 0
  · have h := h.1 hc0
    refine z_tableIn hC (off := 35) (tgt := 48) 0 hc0 dX12_live_13 (by decide) (by decide) ?_
    refine z_aload_n hC (q := 0) dX12_live_48 rfl rfl ?_
    refine gf_RX12_98 hC dX12_live_49 hk1 hb2 ?_
    refine z_sipush hC (v := 353) k_sipush_353 dX12_live_52 ?_
    refine z_iload_n hC (q := 2) dX12_live_55 rfl rfl ?_
    refine z_iadd hC dX12_live_56 ?_
    refine z_iload_n hC (q := 3) dX12_live_57 rfl rfl ?_
    obtain ⟨hi6, h⟩ := h
    refine z_iastore hC hk3 hi6 dX12_live_58 ?_
    refine z_genI (fun I7 eI7 => ?_)
    have h := h I7 eI7
    exact z_vret hC dX12_live_59 ⟨rfl, rfl, rfl, rfl, rfl, h⟩
  · have h := h.2 hc0
    by_cases hc1 : a1 = 1
    · have h := h.1 hc1
      refine z_tableIn hC (off := 47) (tgt := 60) 1 hc1 dX12_live_13 (by decide) (by decide) ?_
      refine z_aload_n hC (q := 0) dX12_live_60 rfl rfl ?_
      refine gf_RX12_98 hC dX12_live_61 hk1 hb2 ?_
      refine z_sipush hC (v := 361) k_sipush_361 dX12_live_64 ?_
      refine z_iload_n hC (q := 2) dX12_live_67 rfl rfl ?_
      refine z_iadd hC dX12_live_68 ?_
      refine z_iload_n hC (q := 3) dX12_live_69 rfl rfl ?_
      obtain ⟨hi8, h⟩ := h
      refine z_iastore hC hk3 hi8 dX12_live_70 ?_
      refine z_genI (fun I9 eI9 => ?_)
      have h := h I9 eI9
      exact z_vret hC dX12_live_71 ⟨rfl, rfl, rfl, rfl, rfl, h⟩
    · have h := h.2 hc1
      by_cases hc2 : a1 = 2
      · have h := h.1 hc2
        refine z_tableIn hC (off := 59) (tgt := 72) 2 hc2 dX12_live_13 (by decide) (by decide) ?_
        refine z_aload_n hC (q := 0) dX12_live_72 rfl rfl ?_
        refine gf_RX12_98 hC dX12_live_73 hk1 hb2 ?_
        refine z_sipush hC (v := 342) k_sipush_342 dX12_live_76 ?_
        refine z_iload_n hC (q := 2) dX12_live_79 rfl rfl ?_
        obtain ⟨hi10, h⟩ := h
        refine z_iastore hC hk3 hi10 dX12_live_80 ?_
        refine z_genI (fun I11 eI11 => ?_)
        have h := h I11 eI11
        exact z_vret hC dX12_live_81 ⟨rfl, rfl, rfl, rfl, rfl, h⟩
      · have h := h.2 hc2
        by_cases hc3 : a1 = 3
        · have h := h.1 hc3
          refine z_tableIn hC (off := 69) (tgt := 82) 3 hc3 dX12_live_13 (by decide) (by decide) ?_
          refine z_aload_n hC (q := 0) dX12_live_82 rfl rfl ?_
          refine gf_RX12_98 hC dX12_live_83 hk1 hb2 ?_
          refine z_sipush hC (v := 345) k_sipush_345 dX12_live_86 ?_
          refine z_aload_n hC (q := 0) dX12_live_89 rfl rfl ?_
          refine gf_RX12_98 hC dX12_live_90 hk1 hb2 ?_
          refine z_sipush hC (v := 344) k_sipush_344 dX12_live_93 ?_
          obtain ⟨hi12, h⟩ := h
          refine z_iaload hC hk3 hi12 dX12_live_96 ?_
          refine z_iadd hC dX12_live_97 ?_
          refine z_iload_n hC (q := 2) dX12_live_98 rfl rfl ?_
          obtain ⟨hi13, h⟩ := h
          refine z_iastore hC hk3 hi13 dX12_live_99 ?_
          refine z_genI (fun I14 eI14 => ?_)
          have h := h I14 eI14
          refine z_aload_n hC (q := 0) dX12_live_100 rfl rfl ?_
          refine gf_RX12_98 hC dX12_live_101 hk1 hb2 ?_
          refine z_sipush hC (v := 344) k_sipush_344 dX12_live_104 ?_
          refine z_dup2 hC rfl rfl dX12_live_107 ?_
          refine z_iaload hC hk3 hi12 dX12_live_108 ?_
          refine z_iconst hC (v := 1) k_iconst_1 dX12_live_109 ?_
          refine z_iadd hC dX12_live_110 ?_
          refine z_iastore hC hk3 hi12 dX12_live_111 ?_
          refine z_genI (fun I15 eI15 => ?_)
          have h := h I15 eI15
          exact z_vret hC dX12_live_112 ⟨rfl, rfl, rfl, rfl, rfl, h⟩
        · have h := h.2 hc3
          by_cases hc4 : a1 = 4
          · have h := h.1 hc4
            refine z_tableIn hC (off := 100) (tgt := 113) 4 hc4 dX12_live_13 (by decide) (by decide) ?_
            refine z_aload_n hC (q := 0) dX12_live_113 rfl rfl ?_
            refine z_iload_n hC (q := 2) dX12_live_114 rfl rfl ?_
            refine cl_RX12_346 hC (c_X12_stopAt _ G a0 a2 K N I5 L R _ h) hk1 dX12_live_115 (by rw [hRm]; exact ⟨Nat.le_of_ble_eq_true rfl, Nat.le_of_ble_eq_true rfl⟩) ⟨Nat.zero_le _, Nat.zero_le _⟩ (Nat.le_of_ble_eq_true rfl) (z_kPi (fun r16 h => ?_))
            refine z_istore hC (lv1 := [(4, .int r16), (0, .ref a0), (1, .int a1), (2, .int a2), (3, .int a3)]) dX12_live_118 (by decide) rfl ?_
            refine z_aload_n hC (q := 1) dX12_live_120 rfl rfl ?_
            refine gf_RX12_98 hC dX12_live_121 hk1 hb2 ?_
            refine z_sipush hC (v := 344) k_sipush_344 dX12_live_124 ?_
            refine z_dup2 hC rfl rfl dX12_live_127 ?_
            obtain ⟨hi17, h⟩ := h
            refine z_iaload hC hk3 hi17 dX12_live_128 ?_
            refine z_iconst hC (v := 1) k_iconst_1 dX12_live_129 ?_
            refine z_isub hC dX12_live_130 ?_
            refine z_iastore hC hk3 hi17 dX12_live_131 ?_
            refine z_genI (fun I18 eI18 => ?_)
            have h := h I18 eI18
            refine z_aload_n hC (q := 1) dX12_live_132 rfl rfl ?_
            refine gf_RX12_98 hC dX12_live_133 hk1 hb2 ?_
            refine z_sipush hC (v := 345) k_sipush_345 dX12_live_136 ?_
            refine z_iload hC (q := 0) dX12_live_139 rfl ?_
            refine z_iadd hC dX12_live_141 ?_
            refine z_aload_n hC (q := 1) dX12_live_142 rfl rfl ?_
            refine gf_RX12_98 hC dX12_live_143 hk1 hb2 ?_
            refine z_sipush hC (v := 345) k_sipush_345 dX12_live_146 ?_
            refine z_aload_n hC (q := 1) dX12_live_149 rfl rfl ?_
            refine gf_RX12_98 hC dX12_live_150 hk1 hb2 ?_
            refine z_sipush hC (v := 344) k_sipush_344 dX12_live_153 ?_
            refine z_iaload hC hk3 hi17 dX12_live_156 ?_
            refine z_iadd hC dX12_live_157 ?_
            obtain ⟨hi19, h⟩ := h
            refine z_iaload hC hk3 hi19 dX12_live_158 ?_
            obtain ⟨hi20, h⟩ := h
            refine z_iastore hC hk3 hi20 dX12_live_159 ?_
            refine z_genI (fun I21 eI21 => ?_)
            have h := h I21 eI21
            exact z_vret hC dX12_live_160 ⟨rfl, rfl, rfl, rfl, rfl, h⟩
          · have h := h.2 hc4
            have hout : a1.toInt < 0 ∨ 4 < a1.toInt := by
              have hc0 := z_nei hc0 (by decide : (0 : Int32).toInt = 0)
              have hc1 := z_nei hc1 (by decide : (1 : Int32).toInt = 1)
              have hc2 := z_nei hc2 (by decide : (2 : Int32).toInt = 2)
              have hc3 := z_nei hc3 (by decide : (3 : Int32).toInt = 3)
              have hc4 := z_nei hc4 (by decide : (4 : Int32).toInt = 4)
              omega
            refine z_tableOut hC (tgt := 161) dX12_live_13 hout (by decide) ?_
            refine z_aload_n hC (q := 0) dX12_live_161 rfl rfl ?_
            refine gf_RX12_98 hC dX12_live_162 hk1 hb2 ?_
            refine z_sipush hC (v := 342) k_sipush_342 dX12_live_165 ?_
            refine z_iload_n hC (q := 1) dX12_live_168 rfl rfl ?_
            refine z_iconst hC (v := 5) k_iconst_5 dX12_live_169 ?_
            refine z_icmp_ne hC (tgt := 180) dX12_live_170 (by decide) (fun hc => ?_) (fun hc => ?_)
            · have h := h.1 hc
              refine z_iload_n hC (q := 1) dX12_live_180 rfl rfl ?_
              refine z_bipush hC (v := 6) k_bipush_6 dX12_live_181 ?_
              refine z_icmp_ne hC (tgt := 193) dX12_live_183 (by decide) (fun hc => ?_) (fun hc => ?_)
              · have h := h.1 hc
                refine z_aload_n hC (q := 0) dX12_live_193 rfl rfl ?_
                refine cl_RX12_355 hC (c_X12_runTo _ G a0 K N I5 L R _ h) hk1 dX12_live_194 (by rw [hRm]; exact ⟨Nat.le_of_ble_eq_true rfl, Nat.le_of_ble_eq_true rfl⟩) ⟨Nat.zero_le _, Nat.zero_le _⟩ (Nat.le_of_ble_eq_true rfl) (z_kPi (fun r22 h => ?_))
                obtain ⟨hi23, h⟩ := h
                refine z_iastore hC hk3 hi23 dX12_live_197 ?_
                refine z_genI (fun I24 eI24 => ?_)
                have h := h I24 eI24
                exact z_vret hC dX12_live_198 ⟨rfl, rfl, rfl, rfl, rfl, h⟩
              · have h := h.2 hc
                refine z_aload_n hC (q := 0) dX12_live_186 rfl rfl ?_
                refine cl_RX12_352 hC (c_X12_leaveTo _ G a0 K N I5 L R _ h) hk1 dX12_live_187 (by rw [hRm]; exact ⟨Nat.le_of_ble_eq_true rfl, Nat.le_of_ble_eq_true rfl⟩) ⟨Nat.zero_le _, Nat.zero_le _⟩ (Nat.le_of_ble_eq_true rfl) (z_kPi (fun r25 h => ?_))
                refine z_goto hC (tgt := 197) dX12_live_190 (by decide) ?_
                obtain ⟨hi26, h⟩ := h
                refine z_iastore hC hk3 hi26 dX12_live_197 ?_
                refine z_genI (fun I27 eI27 => ?_)
                have h := h I27 eI27
                exact z_vret hC dX12_live_198 ⟨rfl, rfl, rfl, rfl, rfl, h⟩
            · have h := h.2 hc
              refine z_aload_n hC (q := 0) dX12_live_173 rfl rfl ?_
              refine cl_RX12_349 hC (c_X12_stepTo _ G a0 K N I5 L R _ h) hk1 dX12_live_174 (by rw [hRm]; exact ⟨Nat.le_of_ble_eq_true rfl, Nat.le_of_ble_eq_true rfl⟩) ⟨Nat.zero_le _, Nat.zero_le _⟩ (Nat.le_of_ble_eq_true rfl) (z_kPi (fun r28 h => ?_))
              refine z_goto hC (tgt := 197) dX12_live_177 (by decide) ?_
              obtain ⟨hi29, h⟩ := h
              refine z_iastore hC hk3 hi29 dX12_live_197 ?_
              refine z_genI (fun I30 eI30 => ?_)
              have h := h I30 eI30
              exact z_vret hC dX12_live_198 ⟨rfl, rfl, rfl, rfl, rfl, h⟩
def w_X12_act  (a0 : Nat) (a1 : Int32) (a2 : Int32) (a3 : Int32) (a4 : Bool) (K : MK) (N : MK) (I : MI) (L : ML) (R : MR) (Q : Int32 → MI → Prop) : Prop := (a4 = true → K a0 = 13 ∧ w_X12_refusal a0 a1 a2 a3 K N I L R (fun r2 => (r2 = 0 → w_X12_snap a0 K N I L R (fun I3 => w_X12_live a0 a1 a2 a3 K N I3 L R (fun I4 => Q 0 I4))) ∧ (¬ r2 = 0 → Q r2 I))) ∧ (a4 = false → Q (-1) I)
set_option maxHeartbeats 4000000 in
set_option maxRecDepth 100000 in
theorem c_X12_act  (l : Launch) (G : ZG) (a0 : Nat) (a1 : Int32) (a2 : Int32) (a3 : Int32) (a4 : Bool) (K : MK) (N : MK) (I : MI) (L : ML) (R : MR) (Q : Int32 → MI → Prop) (h : w_X12_act a0 a1 a2 a3 a4 K N I L R Q) : Met l yX12_act (.code yX12_act cX12_act 6 (some .int) :: z_tbl) rm_X12_act (z_Pc G [.ref a0, .int a1, .int a2, .int a3, .int (bi a4)] K N I L R) (z_Qc G (qIi K N L R Q)) 0 0 (z_A G) := by
  refine z_met (by decide) (Nat.le_of_ble_eq_true rfl) (fun X hX hRm hC0 hnm => ?_)
  subst hX
  have hC : ZOk X G RX12 cX12_act 6 (some .int) := hC0
  show Z X G 6 0 0 _ K N I L R 0 [(0, .ref a0), (1, .int a1), (2, .int a2), (3, .int a3), (4, .int (bi a4))] []
  delta w_X12_act at h
  refine z_iload hC (q := 4) dX12_act_0 rfl ?_
  refine z_ifz_ne hC (tgt := 7) dX12_act_2 (by decide) (fun hc => ?_) (fun hc => ?_)
  · have h := h.1 hc
    refine z_aload_n hC (q := 0) dX12_act_7 rfl rfl ?_
    refine z_iload_n hC (q := 1) dX12_act_8 rfl rfl ?_
    refine z_iload_n hC (q := 2) dX12_act_9 rfl rfl ?_
    refine z_iload_n hC (q := 3) dX12_act_10 rfl rfl ?_
    obtain ⟨hk1, h⟩ := h
    refine cl_RX12_358 hC (c_X12_refusal _ G a0 a1 a2 a3 K N I L R _ h) hk1 dX12_act_11 (by rw [hRm]; exact ⟨Nat.le_of_ble_eq_true rfl, Nat.le_of_ble_eq_true rfl⟩) ⟨Nat.zero_le _, Nat.zero_le _⟩ (Nat.le_of_ble_eq_true rfl) (z_kPi (fun r2 h => ?_))
    refine z_istore hC (lv1 := [(5, .int r2), (0, .ref a0), (1, .int a1), (2, .int a2), (3, .int a3), (4, .int (bi a4))]) dX12_act_14 (by decide) rfl ?_
    refine z_iload hC (q := 0) dX12_act_16 rfl ?_
    refine z_if_eq hC (tgt := 24) dX12_act_18 (by decide) (fun hc => ?_) (fun hc => ?_)
    · have h := h.1 hc
      refine z_aload_n hC (q := 1) dX12_act_24 rfl rfl ?_
      refine cl_RX12_361 hC (c_X12_snap _ G a0 K N I L R _ h) hk1 dX12_act_25 (by rw [hRm]; exact ⟨Nat.le_of_ble_eq_true rfl, Nat.le_of_ble_eq_true rfl⟩) ⟨Nat.zero_le _, Nat.zero_le _⟩ (Nat.le_of_ble_eq_true rfl) (z_kIv (I := I) (fun I3 h => ?_))
      refine z_aload_n hC (q := 1) dX12_act_28 rfl rfl ?_
      refine z_iload_n hC (q := 2) dX12_act_29 rfl rfl ?_
      refine z_iload_n hC (q := 3) dX12_act_30 rfl rfl ?_
      refine z_iload_n hC (q := 4) dX12_act_31 rfl rfl ?_
      refine cl_RX12_364 hC (c_X12_live _ G a0 a1 a2 a3 K N I3 L R _ h) hk1 dX12_act_32 (by rw [hRm]; exact ⟨Nat.le_of_ble_eq_true rfl, Nat.le_of_ble_eq_true rfl⟩) ⟨Nat.zero_le _, Nat.zero_le _⟩ (Nat.le_of_ble_eq_true rfl) (z_kIv (I := I3) (fun I4 h => ?_))
      refine z_iconst hC (v := 0) k_iconst_0 dX12_act_35 ?_
      exact z_iret hC dX12_act_36 ⟨_, rfl, rfl, rfl, rfl, rfl, h⟩
    · have h := h.2 hc
      refine z_iload hC (q := 0) dX12_act_21 rfl ?_
      exact z_iret hC dX12_act_23 ⟨_, rfl, rfl, rfl, rfl, rfl, h⟩
  · have h := h.2 hc
    refine z_iconst hC (v := (-1)) k_iconst_m1 dX12_act_5 ?_
    exact z_iret hC dX12_act_6 ⟨_, rfl, rfl, rfl, rfl, rfl, h⟩
def w_X12_set  (a0 : Nat) (a1 : Int32) (a2 : Int32) (K : MK) (N : MK) (I : MI) (L : ML) (R : MR) (Q : Int32 → MI → Prop) : Prop := K a0 = 13 ∧ ∀ I2 : MI, I2 = mup I a0 0 0 → w_X12_isIn a1 0 7 K N I2 L R (fun r3 => (r3 = false → w_X12_act a0 0 a1 a2 false K N I2 L R (fun r4 I5 => Q r4 I5)) ∧ (r3 = true → w_X12_isIn a2 0 65535 K N I2 L R (fun r6 => (r6 = false → w_X12_act a0 0 a1 a2 false K N I2 L R (fun r7 I8 => Q r7 I8)) ∧ (r6 = true → w_X12_act a0 0 a1 a2 true K N I2 L R (fun r9 I10 => Q r9 I10)))))
set_option maxHeartbeats 4000000 in
set_option maxRecDepth 100000 in
theorem c_X12_set  (l : Launch) (G : ZG) (a0 : Nat) (a1 : Int32) (a2 : Int32) (K : MK) (N : MK) (I : MI) (L : ML) (R : MR) (Q : Int32 → MI → Prop) (h : w_X12_set a0 a1 a2 K N I L R Q) : Met l yX12_set (.code yX12_set cX12_set 3 (some .int) :: z_tbl) rm_X12_set (z_Pc G [.ref a0, .int a1, .int a2] K N I L R) (z_Qc G (qIi K N L R Q)) 0 0 (z_A G) := by
  refine z_met (by decide) (Nat.le_of_ble_eq_true rfl) (fun X hX hRm hC0 hnm => ?_)
  subst hX
  have hC : ZOk X G RX12 cX12_set 3 (some .int) := hC0
  show Z X G 3 0 0 _ K N I L R 0 [(0, .ref a0), (1, .int a1), (2, .int a2)] []
  delta w_X12_set at h
  refine z_aload_n hC (q := 0) dX12_set_0 rfl rfl ?_
  refine z_iconst hC (v := 0) k_iconst_0 dX12_set_1 ?_
  obtain ⟨hk1, h⟩ := h
  refine pf_RX12_1 hC dX12_set_2 hk1 ?_
  refine z_genI (fun I2 eI2 => ?_)
  have h := h I2 eI2
  refine z_aload_n hC (q := 0) dX12_set_5 rfl rfl ?_
  refine z_iconst hC (v := 0) k_iconst_0 dX12_set_6 ?_
  refine z_iload_n hC (q := 1) dX12_set_7 rfl rfl ?_
  refine z_iload_n hC (q := 2) dX12_set_8 rfl rfl ?_
  refine z_iload_n hC (q := 1) dX12_set_9 rfl rfl ?_
  refine z_iconst hC (v := 0) k_iconst_0 dX12_set_10 ?_
  refine z_bipush hC (v := 7) k_bipush_7 dX12_set_11 ?_
  refine cl_RX12_75 hC (c_X12_isIn _ G a1 0 7 K N I2 L R _ h) dX12_set_13 (by rw [hRm]; exact ⟨Nat.le_of_ble_eq_true rfl, Nat.le_of_ble_eq_true rfl⟩) ⟨Nat.zero_le _, Nat.zero_le _⟩ (Nat.le_of_ble_eq_true rfl) (z_kPz (fun r3 h => ?_))
  refine z_ifz_eq hC (tgt := 34) dX12_set_16 (by decide) (fun hc => ?_) (fun hc => ?_)
  · have h := h.1 hc
    refine z_iconst hC (v := 0) k_iconst_0 dX12_set_34 ?_
    refine cl_RX12_368 hC (c_X12_act _ G a0 0 a1 a2 false K N I2 L R _ h) hk1 dX12_set_35 (by rw [hRm]; exact ⟨Nat.le_of_ble_eq_true rfl, Nat.le_of_ble_eq_true rfl⟩) ⟨Nat.zero_le _, Nat.zero_le _⟩ (Nat.le_of_ble_eq_true rfl) (z_kIi (I := I2) (fun r4 I5 h => ?_))
    exact z_iret hC dX12_set_38 ⟨_, rfl, rfl, rfl, rfl, rfl, h⟩
  · have h := h.2 hc
    refine z_iload_n hC (q := 2) dX12_set_19 rfl rfl ?_
    refine z_iconst hC (v := 0) k_iconst_0 dX12_set_20 ?_
    refine z_ldcw hC cst_RX12_307 dX12_set_21 ?_
    refine cl_RX12_75 hC (c_X12_isIn _ G a2 0 65535 K N I2 L R _ h) dX12_set_24 (by rw [hRm]; exact ⟨Nat.le_of_ble_eq_true rfl, Nat.le_of_ble_eq_true rfl⟩) ⟨Nat.zero_le _, Nat.zero_le _⟩ (Nat.le_of_ble_eq_true rfl) (z_kPz (fun r6 h => ?_))
    refine z_ifz_eq hC (tgt := 34) dX12_set_27 (by decide) (fun hc => ?_) (fun hc => ?_)
    · have h := h.1 hc
      refine z_iconst hC (v := 0) k_iconst_0 dX12_set_34 ?_
      refine cl_RX12_368 hC (c_X12_act _ G a0 0 a1 a2 false K N I2 L R _ h) hk1 dX12_set_35 (by rw [hRm]; exact ⟨Nat.le_of_ble_eq_true rfl, Nat.le_of_ble_eq_true rfl⟩) ⟨Nat.zero_le _, Nat.zero_le _⟩ (Nat.le_of_ble_eq_true rfl) (z_kIi (I := I2) (fun r7 I8 h => ?_))
      exact z_iret hC dX12_set_38 ⟨_, rfl, rfl, rfl, rfl, rfl, h⟩
    · have h := h.2 hc
      refine z_iconst hC (v := 1) k_iconst_1 dX12_set_30 ?_
      refine z_goto hC (tgt := 35) dX12_set_31 (by decide) ?_
      refine cl_RX12_368 hC (c_X12_act _ G a0 0 a1 a2 true K N I2 L R _ h) hk1 dX12_set_35 (by rw [hRm]; exact ⟨Nat.le_of_ble_eq_true rfl, Nat.le_of_ble_eq_true rfl⟩) ⟨Nat.zero_le _, Nat.zero_le _⟩ (Nat.le_of_ble_eq_true rfl) (z_kIi (I := I2) (fun r9 I10 h => ?_))
      exact z_iret hC dX12_set_38 ⟨_, rfl, rfl, rfl, rfl, rfl, h⟩
def w_X12_poke  (a0 : Nat) (a1 : Int32) (a2 : Int32) (K : MK) (N : MK) (I : MI) (L : ML) (R : MR) (Q : Int32 → MI → Prop) : Prop := K a0 = 13 ∧ ∀ I2 : MI, I2 = mup I a0 0 0 → w_X12_isIn a1 0 63 K N I2 L R (fun r3 => (r3 = false → w_X12_act a0 1 a1 a2 false K N I2 L R (fun r4 I5 => Q r4 I5)) ∧ (r3 = true → w_X12_isIn a2 0 65535 K N I2 L R (fun r6 => (r6 = false → w_X12_act a0 1 a1 a2 false K N I2 L R (fun r7 I8 => Q r7 I8)) ∧ (r6 = true → w_X12_act a0 1 a1 a2 true K N I2 L R (fun r9 I10 => Q r9 I10)))))
set_option maxHeartbeats 4000000 in
set_option maxRecDepth 100000 in
theorem c_X12_poke  (l : Launch) (G : ZG) (a0 : Nat) (a1 : Int32) (a2 : Int32) (K : MK) (N : MK) (I : MI) (L : ML) (R : MR) (Q : Int32 → MI → Prop) (h : w_X12_poke a0 a1 a2 K N I L R Q) : Met l yX12_poke (.code yX12_poke cX12_poke 3 (some .int) :: z_tbl) rm_X12_poke (z_Pc G [.ref a0, .int a1, .int a2] K N I L R) (z_Qc G (qIi K N L R Q)) 0 0 (z_A G) := by
  refine z_met (by decide) (Nat.le_of_ble_eq_true rfl) (fun X hX hRm hC0 hnm => ?_)
  subst hX
  have hC : ZOk X G RX12 cX12_poke 3 (some .int) := hC0
  show Z X G 3 0 0 _ K N I L R 0 [(0, .ref a0), (1, .int a1), (2, .int a2)] []
  delta w_X12_poke at h
  refine z_aload_n hC (q := 0) dX12_poke_0 rfl rfl ?_
  refine z_iconst hC (v := 0) k_iconst_0 dX12_poke_1 ?_
  obtain ⟨hk1, h⟩ := h
  refine pf_RX12_1 hC dX12_poke_2 hk1 ?_
  refine z_genI (fun I2 eI2 => ?_)
  have h := h I2 eI2
  refine z_aload_n hC (q := 0) dX12_poke_5 rfl rfl ?_
  refine z_iconst hC (v := 1) k_iconst_1 dX12_poke_6 ?_
  refine z_iload_n hC (q := 1) dX12_poke_7 rfl rfl ?_
  refine z_iload_n hC (q := 2) dX12_poke_8 rfl rfl ?_
  refine z_iload_n hC (q := 1) dX12_poke_9 rfl rfl ?_
  refine z_iconst hC (v := 0) k_iconst_0 dX12_poke_10 ?_
  refine z_bipush hC (v := 63) k_bipush_63 dX12_poke_11 ?_
  refine cl_RX12_75 hC (c_X12_isIn _ G a1 0 63 K N I2 L R _ h) dX12_poke_13 (by rw [hRm]; exact ⟨Nat.le_of_ble_eq_true rfl, Nat.le_of_ble_eq_true rfl⟩) ⟨Nat.zero_le _, Nat.zero_le _⟩ (Nat.le_of_ble_eq_true rfl) (z_kPz (fun r3 h => ?_))
  refine z_ifz_eq hC (tgt := 34) dX12_poke_16 (by decide) (fun hc => ?_) (fun hc => ?_)
  · have h := h.1 hc
    refine z_iconst hC (v := 0) k_iconst_0 dX12_poke_34 ?_
    refine cl_RX12_368 hC (c_X12_act _ G a0 1 a1 a2 false K N I2 L R _ h) hk1 dX12_poke_35 (by rw [hRm]; exact ⟨Nat.le_of_ble_eq_true rfl, Nat.le_of_ble_eq_true rfl⟩) ⟨Nat.zero_le _, Nat.zero_le _⟩ (Nat.le_of_ble_eq_true rfl) (z_kIi (I := I2) (fun r4 I5 h => ?_))
    exact z_iret hC dX12_poke_38 ⟨_, rfl, rfl, rfl, rfl, rfl, h⟩
  · have h := h.2 hc
    refine z_iload_n hC (q := 2) dX12_poke_19 rfl rfl ?_
    refine z_iconst hC (v := 0) k_iconst_0 dX12_poke_20 ?_
    refine z_ldcw hC cst_RX12_307 dX12_poke_21 ?_
    refine cl_RX12_75 hC (c_X12_isIn _ G a2 0 65535 K N I2 L R _ h) dX12_poke_24 (by rw [hRm]; exact ⟨Nat.le_of_ble_eq_true rfl, Nat.le_of_ble_eq_true rfl⟩) ⟨Nat.zero_le _, Nat.zero_le _⟩ (Nat.le_of_ble_eq_true rfl) (z_kPz (fun r6 h => ?_))
    refine z_ifz_eq hC (tgt := 34) dX12_poke_27 (by decide) (fun hc => ?_) (fun hc => ?_)
    · have h := h.1 hc
      refine z_iconst hC (v := 0) k_iconst_0 dX12_poke_34 ?_
      refine cl_RX12_368 hC (c_X12_act _ G a0 1 a1 a2 false K N I2 L R _ h) hk1 dX12_poke_35 (by rw [hRm]; exact ⟨Nat.le_of_ble_eq_true rfl, Nat.le_of_ble_eq_true rfl⟩) ⟨Nat.zero_le _, Nat.zero_le _⟩ (Nat.le_of_ble_eq_true rfl) (z_kIi (I := I2) (fun r7 I8 h => ?_))
      exact z_iret hC dX12_poke_38 ⟨_, rfl, rfl, rfl, rfl, rfl, h⟩
    · have h := h.2 hc
      refine z_iconst hC (v := 1) k_iconst_1 dX12_poke_30 ?_
      refine z_goto hC (tgt := 35) dX12_poke_31 (by decide) ?_
      refine cl_RX12_368 hC (c_X12_act _ G a0 1 a1 a2 true K N I2 L R _ h) hk1 dX12_poke_35 (by rw [hRm]; exact ⟨Nat.le_of_ble_eq_true rfl, Nat.le_of_ble_eq_true rfl⟩) ⟨Nat.zero_le _, Nat.zero_le _⟩ (Nat.le_of_ble_eq_true rfl) (z_kIi (I := I2) (fun r9 I10 h => ?_))
      exact z_iret hC dX12_poke_38 ⟨_, rfl, rfl, rfl, rfl, rfl, h⟩
def w_X12_go_  (a0 : Nat) (a1 : Int32) (K : MK) (N : MK) (I : MI) (L : ML) (R : MR) (Q : Int32 → MI → Prop) : Prop := K a0 = 13 ∧ ∀ I2 : MI, I2 = mup I a0 0 0 → w_X12_isAddress a0 a1 K N I2 L R (fun r3 => w_X12_act a0 2 a1 0 r3 K N I2 L R (fun r4 I5 => Q r4 I5))
set_option maxHeartbeats 4000000 in
set_option maxRecDepth 100000 in
theorem c_X12_go_  (l : Launch) (G : ZG) (a0 : Nat) (a1 : Int32) (K : MK) (N : MK) (I : MI) (L : ML) (R : MR) (Q : Int32 → MI → Prop) (h : w_X12_go_ a0 a1 K N I L R Q) : Met l yX12_go_ (.code yX12_go_ cX12_go_ 2 (some .int) :: z_tbl) rm_X12_go_ (z_Pc G [.ref a0, .int a1] K N I L R) (z_Qc G (qIi K N L R Q)) 0 0 (z_A G) := by
  refine z_met (by decide) (Nat.le_of_ble_eq_true rfl) (fun X hX hRm hC0 hnm => ?_)
  subst hX
  have hC : ZOk X G RX12 cX12_go_ 2 (some .int) := hC0
  show Z X G 2 0 0 _ K N I L R 0 [(0, .ref a0), (1, .int a1)] []
  delta w_X12_go_ at h
  refine z_aload_n hC (q := 0) dX12_go__0 rfl rfl ?_
  refine z_iconst hC (v := 0) k_iconst_0 dX12_go__1 ?_
  obtain ⟨hk1, h⟩ := h
  refine pf_RX12_1 hC dX12_go__2 hk1 ?_
  refine z_genI (fun I2 eI2 => ?_)
  have h := h I2 eI2
  refine z_aload_n hC (q := 0) dX12_go__5 rfl rfl ?_
  refine z_iconst hC (v := 2) k_iconst_2 dX12_go__6 ?_
  refine z_iload_n hC (q := 1) dX12_go__7 rfl rfl ?_
  refine z_iconst hC (v := 0) k_iconst_0 dX12_go__8 ?_
  refine z_aload_n hC (q := 0) dX12_go__9 rfl rfl ?_
  refine z_iload_n hC (q := 1) dX12_go__10 rfl rfl ?_
  refine cl_RX12_267 hC (c_X12_isAddress _ G a0 a1 K N I2 L R _ h) hk1 dX12_go__11 (by rw [hRm]; exact ⟨Nat.le_of_ble_eq_true rfl, Nat.le_of_ble_eq_true rfl⟩) ⟨Nat.zero_le _, Nat.zero_le _⟩ (Nat.le_of_ble_eq_true rfl) (z_kPz (fun r3 h => ?_))
  refine cl_RX12_368 hC (c_X12_act _ G a0 2 a1 0 r3 K N I2 L R _ h) hk1 dX12_go__14 (by rw [hRm]; exact ⟨Nat.le_of_ble_eq_true rfl, Nat.le_of_ble_eq_true rfl⟩) ⟨Nat.zero_le _, Nat.zero_le _⟩ (Nat.le_of_ble_eq_true rfl) (z_kIi (I := I2) (fun r4 I5 h => ?_))
  exact z_iret hC dX12_go__17 ⟨_, rfl, rfl, rfl, rfl, rfl, h⟩
def w_X12_stop  (a0 : Nat) (a1 : Int32) (K : MK) (N : MK) (I : MI) (L : ML) (R : MR) (Q : Int32 → MI → Prop) : Prop := K a0 = 13 ∧ ∀ I2 : MI, I2 = mup I a0 0 0 → w_X12_isIn a1 1 250 K N I2 L R (fun r3 => w_X12_act a0 3 a1 0 r3 K N I2 L R (fun r4 I5 => Q r4 I5))
set_option maxHeartbeats 4000000 in
set_option maxRecDepth 100000 in
theorem c_X12_stop  (l : Launch) (G : ZG) (a0 : Nat) (a1 : Int32) (K : MK) (N : MK) (I : MI) (L : ML) (R : MR) (Q : Int32 → MI → Prop) (h : w_X12_stop a0 a1 K N I L R Q) : Met l yX12_stop (.code yX12_stop cX12_stop 2 (some .int) :: z_tbl) rm_X12_stop (z_Pc G [.ref a0, .int a1] K N I L R) (z_Qc G (qIi K N L R Q)) 0 0 (z_A G) := by
  refine z_met (by decide) (Nat.le_of_ble_eq_true rfl) (fun X hX hRm hC0 hnm => ?_)
  subst hX
  have hC : ZOk X G RX12 cX12_stop 2 (some .int) := hC0
  show Z X G 2 0 0 _ K N I L R 0 [(0, .ref a0), (1, .int a1)] []
  delta w_X12_stop at h
  refine z_aload_n hC (q := 0) dX12_stop_0 rfl rfl ?_
  refine z_iconst hC (v := 0) k_iconst_0 dX12_stop_1 ?_
  obtain ⟨hk1, h⟩ := h
  refine pf_RX12_1 hC dX12_stop_2 hk1 ?_
  refine z_genI (fun I2 eI2 => ?_)
  have h := h I2 eI2
  refine z_aload_n hC (q := 0) dX12_stop_5 rfl rfl ?_
  refine z_iconst hC (v := 3) k_iconst_3 dX12_stop_6 ?_
  refine z_iload_n hC (q := 1) dX12_stop_7 rfl rfl ?_
  refine z_iconst hC (v := 0) k_iconst_0 dX12_stop_8 ?_
  refine z_iload_n hC (q := 1) dX12_stop_9 rfl rfl ?_
  refine z_iconst hC (v := 1) k_iconst_1 dX12_stop_10 ?_
  refine z_sipush hC (v := 250) k_sipush_250 dX12_stop_11 ?_
  refine cl_RX12_75 hC (c_X12_isIn _ G a1 1 250 K N I2 L R _ h) dX12_stop_14 (by rw [hRm]; exact ⟨Nat.le_of_ble_eq_true rfl, Nat.le_of_ble_eq_true rfl⟩) ⟨Nat.zero_le _, Nat.zero_le _⟩ (Nat.le_of_ble_eq_true rfl) (z_kPz (fun r3 h => ?_))
  refine cl_RX12_368 hC (c_X12_act _ G a0 3 a1 0 r3 K N I2 L R _ h) hk1 dX12_stop_17 (by rw [hRm]; exact ⟨Nat.le_of_ble_eq_true rfl, Nat.le_of_ble_eq_true rfl⟩) ⟨Nat.zero_le _, Nat.zero_le _⟩ (Nat.le_of_ble_eq_true rfl) (z_kIi (I := I2) (fun r4 I5 h => ?_))
  exact z_iret hC dX12_stop_20 ⟨_, rfl, rfl, rfl, rfl, rfl, h⟩
def w_X12_clear  (a0 : Nat) (a1 : Int32) (K : MK) (N : MK) (I : MI) (L : ML) (R : MR) (Q : Int32 → MI → Prop) : Prop := K a0 = 13 ∧ ∀ I2 : MI, I2 = mup I a0 0 0 → w_X12_isIn a1 1 250 K N I2 L R (fun r3 => w_X12_act a0 4 a1 0 r3 K N I2 L R (fun r4 I5 => Q r4 I5))
set_option maxHeartbeats 4000000 in
set_option maxRecDepth 100000 in
theorem c_X12_clear  (l : Launch) (G : ZG) (a0 : Nat) (a1 : Int32) (K : MK) (N : MK) (I : MI) (L : ML) (R : MR) (Q : Int32 → MI → Prop) (h : w_X12_clear a0 a1 K N I L R Q) : Met l yX12_clear (.code yX12_clear cX12_clear 2 (some .int) :: z_tbl) rm_X12_clear (z_Pc G [.ref a0, .int a1] K N I L R) (z_Qc G (qIi K N L R Q)) 0 0 (z_A G) := by
  refine z_met (by decide) (Nat.le_of_ble_eq_true rfl) (fun X hX hRm hC0 hnm => ?_)
  subst hX
  have hC : ZOk X G RX12 cX12_clear 2 (some .int) := hC0
  show Z X G 2 0 0 _ K N I L R 0 [(0, .ref a0), (1, .int a1)] []
  delta w_X12_clear at h
  refine z_aload_n hC (q := 0) dX12_clear_0 rfl rfl ?_
  refine z_iconst hC (v := 0) k_iconst_0 dX12_clear_1 ?_
  obtain ⟨hk1, h⟩ := h
  refine pf_RX12_1 hC dX12_clear_2 hk1 ?_
  refine z_genI (fun I2 eI2 => ?_)
  have h := h I2 eI2
  refine z_aload_n hC (q := 0) dX12_clear_5 rfl rfl ?_
  refine z_iconst hC (v := 4) k_iconst_4 dX12_clear_6 ?_
  refine z_iload_n hC (q := 1) dX12_clear_7 rfl rfl ?_
  refine z_iconst hC (v := 0) k_iconst_0 dX12_clear_8 ?_
  refine z_iload_n hC (q := 1) dX12_clear_9 rfl rfl ?_
  refine z_iconst hC (v := 1) k_iconst_1 dX12_clear_10 ?_
  refine z_sipush hC (v := 250) k_sipush_250 dX12_clear_11 ?_
  refine cl_RX12_75 hC (c_X12_isIn _ G a1 1 250 K N I2 L R _ h) dX12_clear_14 (by rw [hRm]; exact ⟨Nat.le_of_ble_eq_true rfl, Nat.le_of_ble_eq_true rfl⟩) ⟨Nat.zero_le _, Nat.zero_le _⟩ (Nat.le_of_ble_eq_true rfl) (z_kPz (fun r3 h => ?_))
  refine cl_RX12_368 hC (c_X12_act _ G a0 4 a1 0 r3 K N I2 L R _ h) hk1 dX12_clear_17 (by rw [hRm]; exact ⟨Nat.le_of_ble_eq_true rfl, Nat.le_of_ble_eq_true rfl⟩) ⟨Nat.zero_le _, Nat.zero_le _⟩ (Nat.le_of_ble_eq_true rfl) (z_kIi (I := I2) (fun r4 I5 h => ?_))
  exact z_iret hC dX12_clear_20 ⟨_, rfl, rfl, rfl, rfl, rfl, h⟩
def w_X12_step  (a0 : Nat) (K : MK) (N : MK) (I : MI) (L : ML) (R : MR) (Q : Int32 → MI → Prop) : Prop := K a0 = 13 ∧ ∀ I2 : MI, I2 = mup I a0 0 0 → w_X12_act a0 5 0 0 true K N I2 L R (fun r3 I4 => Q r3 I4)
set_option maxHeartbeats 4000000 in
set_option maxRecDepth 100000 in
theorem c_X12_step  (l : Launch) (G : ZG) (a0 : Nat) (K : MK) (N : MK) (I : MI) (L : ML) (R : MR) (Q : Int32 → MI → Prop) (h : w_X12_step a0 K N I L R Q) : Met l yX12_step (.code yX12_step cX12_step 1 (some .int) :: z_tbl) rm_X12_step (z_Pc G [.ref a0] K N I L R) (z_Qc G (qIi K N L R Q)) 0 0 (z_A G) := by
  refine z_met (by decide) (Nat.le_of_ble_eq_true rfl) (fun X hX hRm hC0 hnm => ?_)
  subst hX
  have hC : ZOk X G RX12 cX12_step 1 (some .int) := hC0
  show Z X G 1 0 0 _ K N I L R 0 [(0, .ref a0)] []
  delta w_X12_step at h
  refine z_aload_n hC (q := 0) dX12_step_0 rfl rfl ?_
  refine z_iconst hC (v := 0) k_iconst_0 dX12_step_1 ?_
  obtain ⟨hk1, h⟩ := h
  refine pf_RX12_1 hC dX12_step_2 hk1 ?_
  refine z_genI (fun I2 eI2 => ?_)
  have h := h I2 eI2
  refine z_aload_n hC (q := 0) dX12_step_5 rfl rfl ?_
  refine z_iconst hC (v := 5) k_iconst_5 dX12_step_6 ?_
  refine z_iconst hC (v := 0) k_iconst_0 dX12_step_7 ?_
  refine z_iconst hC (v := 0) k_iconst_0 dX12_step_8 ?_
  refine z_iconst hC (v := 1) k_iconst_1 dX12_step_9 ?_
  refine cl_RX12_368 hC (c_X12_act _ G a0 5 0 0 true K N I2 L R _ h) hk1 dX12_step_10 (by rw [hRm]; exact ⟨Nat.le_of_ble_eq_true rfl, Nat.le_of_ble_eq_true rfl⟩) ⟨Nat.zero_le _, Nat.zero_le _⟩ (Nat.le_of_ble_eq_true rfl) (z_kIi (I := I2) (fun r3 I4 h => ?_))
  exact z_iret hC dX12_step_13 ⟨_, rfl, rfl, rfl, rfl, rfl, h⟩
def w_X12_leave  (a0 : Nat) (K : MK) (N : MK) (I : MI) (L : ML) (R : MR) (Q : Int32 → MI → Prop) : Prop := K a0 = 13 ∧ ∀ I2 : MI, I2 = mup I a0 0 0 → w_X12_act a0 6 0 0 true K N I2 L R (fun r3 I4 => Q r3 I4)
set_option maxHeartbeats 4000000 in
set_option maxRecDepth 100000 in
theorem c_X12_leave  (l : Launch) (G : ZG) (a0 : Nat) (K : MK) (N : MK) (I : MI) (L : ML) (R : MR) (Q : Int32 → MI → Prop) (h : w_X12_leave a0 K N I L R Q) : Met l yX12_leave (.code yX12_leave cX12_leave 1 (some .int) :: z_tbl) rm_X12_leave (z_Pc G [.ref a0] K N I L R) (z_Qc G (qIi K N L R Q)) 0 0 (z_A G) := by
  refine z_met (by decide) (Nat.le_of_ble_eq_true rfl) (fun X hX hRm hC0 hnm => ?_)
  subst hX
  have hC : ZOk X G RX12 cX12_leave 1 (some .int) := hC0
  show Z X G 1 0 0 _ K N I L R 0 [(0, .ref a0)] []
  delta w_X12_leave at h
  refine z_aload_n hC (q := 0) dX12_leave_0 rfl rfl ?_
  refine z_iconst hC (v := 0) k_iconst_0 dX12_leave_1 ?_
  obtain ⟨hk1, h⟩ := h
  refine pf_RX12_1 hC dX12_leave_2 hk1 ?_
  refine z_genI (fun I2 eI2 => ?_)
  have h := h I2 eI2
  refine z_aload_n hC (q := 0) dX12_leave_5 rfl rfl ?_
  refine z_bipush hC (v := 6) k_bipush_6 dX12_leave_6 ?_
  refine z_iconst hC (v := 0) k_iconst_0 dX12_leave_8 ?_
  refine z_iconst hC (v := 0) k_iconst_0 dX12_leave_9 ?_
  refine z_iconst hC (v := 1) k_iconst_1 dX12_leave_10 ?_
  refine cl_RX12_368 hC (c_X12_act _ G a0 6 0 0 true K N I2 L R _ h) hk1 dX12_leave_11 (by rw [hRm]; exact ⟨Nat.le_of_ble_eq_true rfl, Nat.le_of_ble_eq_true rfl⟩) ⟨Nat.zero_le _, Nat.zero_le _⟩ (Nat.le_of_ble_eq_true rfl) (z_kIi (I := I2) (fun r3 I4 h => ?_))
  exact z_iret hC dX12_leave_14 ⟨_, rfl, rfl, rfl, rfl, rfl, h⟩
def w_X12_run  (a0 : Nat) (K : MK) (N : MK) (I : MI) (L : ML) (R : MR) (Q : Int32 → MI → Prop) : Prop := K a0 = 13 ∧ ∀ I2 : MI, I2 = mup I a0 0 0 → w_X12_act a0 7 0 0 true K N I2 L R (fun r3 I4 => Q r3 I4)
set_option maxHeartbeats 4000000 in
set_option maxRecDepth 100000 in
theorem c_X12_run  (l : Launch) (G : ZG) (a0 : Nat) (K : MK) (N : MK) (I : MI) (L : ML) (R : MR) (Q : Int32 → MI → Prop) (h : w_X12_run a0 K N I L R Q) : Met l yX12_run (.code yX12_run cX12_run 1 (some .int) :: z_tbl) rm_X12_run (z_Pc G [.ref a0] K N I L R) (z_Qc G (qIi K N L R Q)) 0 0 (z_A G) := by
  refine z_met (by decide) (Nat.le_of_ble_eq_true rfl) (fun X hX hRm hC0 hnm => ?_)
  subst hX
  have hC : ZOk X G RX12 cX12_run 1 (some .int) := hC0
  show Z X G 1 0 0 _ K N I L R 0 [(0, .ref a0)] []
  delta w_X12_run at h
  refine z_aload_n hC (q := 0) dX12_run_0 rfl rfl ?_
  refine z_iconst hC (v := 0) k_iconst_0 dX12_run_1 ?_
  obtain ⟨hk1, h⟩ := h
  refine pf_RX12_1 hC dX12_run_2 hk1 ?_
  refine z_genI (fun I2 eI2 => ?_)
  have h := h I2 eI2
  refine z_aload_n hC (q := 0) dX12_run_5 rfl rfl ?_
  refine z_bipush hC (v := 7) k_bipush_7 dX12_run_6 ?_
  refine z_iconst hC (v := 0) k_iconst_0 dX12_run_8 ?_
  refine z_iconst hC (v := 0) k_iconst_0 dX12_run_9 ?_
  refine z_iconst hC (v := 1) k_iconst_1 dX12_run_10 ?_
  refine cl_RX12_368 hC (c_X12_act _ G a0 7 0 0 true K N I2 L R _ h) hk1 dX12_run_11 (by rw [hRm]; exact ⟨Nat.le_of_ble_eq_true rfl, Nat.le_of_ble_eq_true rfl⟩) ⟨Nat.zero_le _, Nat.zero_le _⟩ (Nat.le_of_ble_eq_true rfl) (z_kIi (I := I2) (fun r3 I4 h => ?_))
  exact z_iret hC dX12_run_14 ⟨_, rfl, rfl, rfl, rfl, rfl, h⟩
def w_X12_undo  (a0 : Nat) (K : MK) (N : MK) (I : MI) (L : ML) (R : MR) (Q : Int32 → MI → Prop) : Prop := K a0 = 13 ∧ ∀ I2 : MI, I2 = mup I a0 0 0 → (¬ (I2 a0 24) = 0 → ∀ I3 : MI, I3 = mup I2 a0 24 ((I2 a0 24) - 1) → ∃ b4 : Nat, R a0 17 = some b4 ∧ w_X12_comeBack a0 b4 ((83 : Int32) * (I3 a0 24)) K N I3 L R (fun I5 => Q (I5 a0 24) I5)) ∧ ((I2 a0 24) = 0 → Q (-1) I2)
set_option maxHeartbeats 4000000 in
set_option maxRecDepth 100000 in
theorem c_X12_undo  (l : Launch) (G : ZG) (a0 : Nat) (K : MK) (N : MK) (I : MI) (L : ML) (R : MR) (Q : Int32 → MI → Prop) (h : w_X12_undo a0 K N I L R Q) : Met l yX12_undo (.code yX12_undo cX12_undo 1 (some .int) :: z_tbl) rm_X12_undo (z_Pc G [.ref a0] K N I L R) (z_Qc G (qIi K N L R Q)) 0 0 (z_A G) := by
  refine z_met (by decide) (Nat.le_of_ble_eq_true rfl) (fun X hX hRm hC0 hnm => ?_)
  subst hX
  have hC : ZOk X G RX12 cX12_undo 1 (some .int) := hC0
  show Z X G 1 0 0 _ K N I L R 0 [(0, .ref a0)] []
  delta w_X12_undo at h
  refine z_aload_n hC (q := 0) dX12_undo_0 rfl rfl ?_
  refine z_iconst hC (v := 0) k_iconst_0 dX12_undo_1 ?_
  obtain ⟨hk1, h⟩ := h
  refine pf_RX12_1 hC dX12_undo_2 hk1 ?_
  refine z_genI (fun I2 eI2 => ?_)
  have h := h I2 eI2
  refine z_aload_n hC (q := 0) dX12_undo_5 rfl rfl ?_
  refine gf_RX12_258 hC dX12_undo_6 hk1 ?_
  refine z_if_ne hC (tgt := 14) dX12_undo_9 (by decide) (fun hc => ?_) (fun hc => ?_)
  · have h := h.1 hc
    refine z_aload_n hC (q := 0) dX12_undo_14 rfl rfl ?_
    refine z_dup hC rfl dX12_undo_15 ?_
    refine gf_RX12_258 hC dX12_undo_16 hk1 ?_
    refine z_iconst hC (v := 1) k_iconst_1 dX12_undo_19 ?_
    refine z_isub hC dX12_undo_20 ?_
    refine pf_RX12_258 hC dX12_undo_21 hk1 ?_
    refine z_genI (fun I3 eI3 => ?_)
    have h := h I3 eI3
    refine z_aload_n hC (q := 0) dX12_undo_24 rfl rfl ?_
    refine z_aload_n hC (q := 0) dX12_undo_25 rfl rfl ?_
    obtain ⟨b4, hb4, h⟩ := h
    refine gf_RX12_107 hC dX12_undo_26 hk1 hb4 ?_
    refine z_bipush hC (v := 83) k_bipush_83 dX12_undo_29 ?_
    refine z_aload_n hC (q := 0) dX12_undo_31 rfl rfl ?_
    refine gf_RX12_258 hC dX12_undo_32 hk1 ?_
    refine z_imul hC dX12_undo_35 ?_
    refine cl_RX12_372 hC (c_X12_comeBack _ G a0 b4 ((83 : Int32) * (I3 a0 24)) K N I3 L R _ h) hk1 dX12_undo_36 (by rw [hRm]; exact ⟨Nat.le_of_ble_eq_true rfl, Nat.le_of_ble_eq_true rfl⟩) ⟨Nat.zero_le _, Nat.zero_le _⟩ (Nat.le_of_ble_eq_true rfl) (z_kIv (I := I3) (fun I5 h => ?_))
    refine z_aload_n hC (q := 0) dX12_undo_39 rfl rfl ?_
    refine gf_RX12_258 hC dX12_undo_40 hk1 ?_
    exact z_iret hC dX12_undo_43 ⟨_, rfl, rfl, rfl, rfl, rfl, h⟩
  · have h := h.2 hc
    refine z_iconst hC (v := (-1)) k_iconst_m1 dX12_undo_12 ?_
    exact z_iret hC dX12_undo_13 ⟨_, rfl, rfl, rfl, rfl, rfl, h⟩
def w_X12_lay  (a0 : Nat) (a1 : Int32) (K : MK) (N : MK) (I : MI) (L : ML) (R : MR) (Q : MI → Prop) : Prop := K a0 = 13 ∧ ∃ b2 : Nat, R a0 33 = some b2 ∧ K b2 = 14 ∧ vp_in (I a0 36) (N b2) ∧ ∀ I5 : MI, I5 = mup I b2 (ix (I a0 36)) a1 → ∀ I6 : MI, I6 = mup I5 a0 36 ((I5 a0 36) + 1) → Q I6
set_option maxHeartbeats 4000000 in
set_option maxRecDepth 100000 in
theorem c_X12_lay  (l : Launch) (G : ZG) (a0 : Nat) (a1 : Int32) (K : MK) (N : MK) (I : MI) (L : ML) (R : MR) (Q : MI → Prop) (h : w_X12_lay a0 a1 K N I L R Q) : Met l yX12_lay (.code yX12_lay cX12_lay 2 none :: z_tbl) rm_X12_lay (z_Pc G [.ref a0, .int a1] K N I L R) (z_Qc G (qIv K N L R Q)) 0 0 (z_A G) := by
  refine z_met (by decide) (Nat.le_of_ble_eq_true rfl) (fun X hX hRm hC0 hnm => ?_)
  subst hX
  have hC : ZOk X G RX12 cX12_lay 2 none := hC0
  show Z X G 2 0 0 _ K N I L R 0 [(0, .ref a0), (1, .int a1)] []
  delta w_X12_lay at h
  refine z_aload_n hC (q := 0) dX12_lay_0 rfl rfl ?_
  obtain ⟨hk1, h⟩ := h
  obtain ⟨b2, hb2, h⟩ := h
  refine gf_RX12_142 hC dX12_lay_1 hk1 hb2 ?_
  refine z_aload_n hC (q := 0) dX12_lay_4 rfl rfl ?_
  refine gf_RX12_375 hC dX12_lay_5 hk1 ?_
  refine z_iload_n hC (q := 1) dX12_lay_8 rfl rfl ?_
  obtain ⟨hk3, h⟩ := h
  obtain ⟨hi4, h⟩ := h
  refine z_iastore hC hk3 hi4 dX12_lay_9 ?_
  refine z_genI (fun I5 eI5 => ?_)
  have h := h I5 eI5
  refine z_aload_n hC (q := 0) dX12_lay_10 rfl rfl ?_
  refine z_dup hC rfl dX12_lay_11 ?_
  refine gf_RX12_375 hC dX12_lay_12 hk1 ?_
  refine z_iconst hC (v := 1) k_iconst_1 dX12_lay_15 ?_
  refine z_iadd hC dX12_lay_16 ?_
  refine pf_RX12_375 hC dX12_lay_17 hk1 ?_
  refine z_genI (fun I6 eI6 => ?_)
  have h := h I6 eI6
  exact z_vret hC dX12_lay_20 ⟨rfl, rfl, rfl, rfl, rfl, h⟩
def w_X12_isBetter_44  (x0 : Nat) (x1 : Int32)  (K : MK) (N : MK) (I : MI) (L : ML) (R : MR)  (Q : Bool → Prop) : Prop := ∃ J : Nat → Nat → Int32 → Prop, (∃ n, J n x0 x1) ∧ ∀ (n : Nat) (x0 : Nat) (x1 : Int32), J n x0 x1 → K x0 = 13 ∧ ((I x0 36) ≤ x1 → Q false) ∧ (¬ (I x0 36) ≤ x1 → ∃ b3 : Nat, R x0 33 = some b3 ∧ K b3 = 14 ∧ vp_in x1 (N b3) ∧ ∃ b6 : Nat, R x0 34 = some b6 ∧ K b6 = 14 ∧ vp_in x1 (N b6) ∧ ((I b3 (ix x1)) = (I b6 (ix x1)) → ∀ v9 : Int32, v9 = x1 + 1 → ∃ n1, n1 < n ∧ J n1 x0 v9) ∧ (¬ (I b3 (ix x1)) = (I b6 (ix x1)) → ((I b6 (ix x1)) ≤ (I b3 (ix x1)) → Q false) ∧ (¬ (I b6 (ix x1)) ≤ (I b3 (ix x1)) → Q true)))
def w_X12_isBetter  (a0 : Nat) (K : MK) (N : MK) (I : MI) (L : ML) (R : MR) (Q : Bool → Prop) : Prop := K a0 = 13 ∧ ((I a0 37) = 0 → ((I a0 37) = 0 → Q true) ∧ (¬ (I a0 37) = 0 → ((I a0 37) ≤ (I a0 36) → Q false) ∧ (¬ (I a0 37) ≤ (I a0 36) → Q true))) ∧ (¬ (I a0 37) = 0 → ((I a0 36) = (I a0 37) → w_X12_isBetter_44 a0 0 K N I L R Q) ∧ (¬ (I a0 36) = (I a0 37) → ((I a0 37) = 0 → Q true) ∧ (¬ (I a0 37) = 0 → ((I a0 37) ≤ (I a0 36) → Q false) ∧ (¬ (I a0 37) ≤ (I a0 36) → Q true))))
set_option maxHeartbeats 4000000 in
set_option maxRecDepth 100000 in
theorem z_X12_isBetter_44 {X : ZX} {G : ZG}  {x0 : Nat} {x1 : Int32}  {K : MK} {N : MK} {I : MI} {L : ML} {R : MR}  {Q : Bool → Prop} (hC : ZOk X G RX12 cX12_isBetter 2 (some .boolean)) (hRm : X.2.2.2.1 = rm_X12_isBetter) (h : w_X12_isBetter_44 x0 x1 K N I L R  Q) : Z X G 2 0 0 (z_T X G (qPz K N I L R Q) 0 0) K N I L R 44 [(0, .ref x0), (1, .int x1)] [] := by
  delta w_X12_isBetter_44 at h
  obtain ⟨J, ⟨n, h0⟩, hs⟩ := h
  have key : ∀ (n : Nat) (x0 : Nat) (x1 : Int32), J n x0 x1 → Z X G 2 0 0 (z_T X G (qPz K N I L R Q) 0 0) K N I L R 44 [(0, .ref x0), (1, .int x1)] [] := by
    intro n
    induction n using Nat.strongRecOn with
    | _ n ih =>
      intro x0 x1 hJ
      have hC44 : ∀ (y0 : Nat) (y1 : Int32) , (∃ n1, n1 < n ∧ J n1 y0 y1) → Z X G 2 0 0 (z_T X G (qPz K N I L R Q) 0 0) K N I L R 44 [(0, .ref y0), (1, .int y1)] [] := fun y0 y1 ⟨n1, hn1, hj⟩ => ih n1 hn1 y0 y1 hj
      have h := hs n x0 x1 hJ
      refine z_iload_n hC (q := 1) dX12_isBetter_44 rfl rfl ?_
      refine z_aload_n hC (q := 0) dX12_isBetter_45 rfl rfl ?_
      obtain ⟨hk2, h⟩ := h
      refine gf_RX12_375 hC dX12_isBetter_46 hk2 ?_
      refine z_icmp_ge hC (tgt := 94) dX12_isBetter_49 (by decide) (fun hc => ?_) (fun hc => ?_)
      · have h := h.1 hc
        refine z_iconst hC (v := 0) k_iconst_0 dX12_isBetter_94 ?_
        exact z_zret (b := false) hC dX12_isBetter_95 rfl ⟨false, rfl, rfl, rfl, rfl, rfl, rfl, h⟩
      · have h := h.2 hc
        refine z_aload_n hC (q := 0) dX12_isBetter_52 rfl rfl ?_
        obtain ⟨b3, hb3, h⟩ := h
        refine gf_RX12_142 hC dX12_isBetter_53 hk2 hb3 ?_
        refine z_iload_n hC (q := 1) dX12_isBetter_56 rfl rfl ?_
        obtain ⟨hk4, h⟩ := h
        obtain ⟨hi5, h⟩ := h
        refine z_iaload hC hk4 hi5 dX12_isBetter_57 ?_
        refine z_aload_n hC (q := 0) dX12_isBetter_58 rfl rfl ?_
        obtain ⟨b6, hb6, h⟩ := h
        refine gf_RX12_145 hC dX12_isBetter_59 hk2 hb6 ?_
        refine z_iload_n hC (q := 1) dX12_isBetter_62 rfl rfl ?_
        obtain ⟨hk7, h⟩ := h
        obtain ⟨hi8, h⟩ := h
        refine z_iaload hC hk7 hi8 dX12_isBetter_63 ?_
        refine z_icmp_eq hC (tgt := 88) dX12_isBetter_64 (by decide) (fun hc => ?_) (fun hc => ?_)
        · have h := h.1 hc
          obtain ⟨v9, ev9⟩ : ∃ y : Int32, y = x1 + 1 := ⟨_, rfl⟩
          have h := h v9 ev9
          refine z_iinc hC (q := 1) (v := v9) (lv1 := [(1, .int v9), (0, .ref x0)]) dX12_isBetter_88 rfl (by rw [ev9, k_iinc_1]) (by decide) rfl ?_
          refine z_goto hC (tgt := 44) dX12_isBetter_91 (by decide) ?_
          exact z_sub [(0, .ref x0), (1, .int v9)] [1, 0] rfl (hC44 _ _ h)
        · have h := h.2 hc
          refine z_aload_n hC (q := 0) dX12_isBetter_67 rfl rfl ?_
          refine gf_RX12_142 hC dX12_isBetter_68 hk2 hb3 ?_
          refine z_iload_n hC (q := 1) dX12_isBetter_71 rfl rfl ?_
          refine z_iaload hC hk4 hi5 dX12_isBetter_72 ?_
          refine z_aload_n hC (q := 0) dX12_isBetter_73 rfl rfl ?_
          refine gf_RX12_145 hC dX12_isBetter_74 hk2 hb6 ?_
          refine z_iload_n hC (q := 1) dX12_isBetter_77 rfl rfl ?_
          refine z_iaload hC hk7 hi8 dX12_isBetter_78 ?_
          refine z_icmp_ge hC (tgt := 86) dX12_isBetter_79 (by decide) (fun hc => ?_) (fun hc => ?_)
          · have h := h.1 hc
            refine z_iconst hC (v := 0) k_iconst_0 dX12_isBetter_86 ?_
            exact z_zret (b := false) hC dX12_isBetter_87 rfl ⟨false, rfl, rfl, rfl, rfl, rfl, rfl, h⟩
          · have h := h.2 hc
            refine z_iconst hC (v := 1) k_iconst_1 dX12_isBetter_82 ?_
            refine z_goto hC (tgt := 87) dX12_isBetter_83 (by decide) ?_
            exact z_zret (b := true) hC dX12_isBetter_87 rfl ⟨true, rfl, rfl, rfl, rfl, rfl, rfl, h⟩
  exact key n x0 x1 h0
set_option maxHeartbeats 4000000 in
set_option maxRecDepth 100000 in
theorem c_X12_isBetter  (l : Launch) (G : ZG) (a0 : Nat) (K : MK) (N : MK) (I : MI) (L : ML) (R : MR) (Q : Bool → Prop) (h : w_X12_isBetter a0 K N I L R Q) : Met l yX12_isBetter (.code yX12_isBetter cX12_isBetter 2 (some .boolean) :: z_tbl) rm_X12_isBetter (z_Pc G [.ref a0] K N I L R) (z_Qc G (qPz K N I L R Q)) 0 0 (z_A G) := by
  refine z_met (by decide) (Nat.le_of_ble_eq_true rfl) (fun X hX hRm hC0 hnm => ?_)
  subst hX
  have hC : ZOk X G RX12 cX12_isBetter 2 (some .boolean) := hC0
  show Z X G 2 0 0 _ K N I L R 0 [(0, .ref a0)] []
  delta w_X12_isBetter at h
  refine z_aload_n hC (q := 0) dX12_isBetter_0 rfl rfl ?_
  obtain ⟨hk1, h⟩ := h
  refine gf_RX12_378 hC dX12_isBetter_1 hk1 ?_
  refine z_if_eq hC (tgt := 18) dX12_isBetter_4 (by decide) (fun hc => ?_) (fun hc => ?_)
  · have h := h.1 hc
    refine z_aload_n hC (q := 0) dX12_isBetter_18 rfl rfl ?_
    refine gf_RX12_378 hC dX12_isBetter_19 hk1 ?_
    refine z_if_eq hC (tgt := 36) dX12_isBetter_22 (by decide) (fun hc => ?_) (fun hc => ?_)
    · have h := h.1 hc
      refine z_iconst hC (v := 1) k_iconst_1 dX12_isBetter_36 ?_
      refine z_goto hC (tgt := 41) dX12_isBetter_37 (by decide) ?_
      exact z_zret (b := true) hC dX12_isBetter_41 rfl ⟨true, rfl, rfl, rfl, rfl, rfl, rfl, h⟩
    · have h := h.2 hc
      refine z_aload_n hC (q := 0) dX12_isBetter_25 rfl rfl ?_
      refine gf_RX12_375 hC dX12_isBetter_26 hk1 ?_
      refine z_aload_n hC (q := 0) dX12_isBetter_29 rfl rfl ?_
      refine gf_RX12_378 hC dX12_isBetter_30 hk1 ?_
      refine z_icmp_ge hC (tgt := 40) dX12_isBetter_33 (by decide) (fun hc => ?_) (fun hc => ?_)
      · have h := h.1 hc
        refine z_iconst hC (v := 0) k_iconst_0 dX12_isBetter_40 ?_
        exact z_zret (b := false) hC dX12_isBetter_41 rfl ⟨false, rfl, rfl, rfl, rfl, rfl, rfl, h⟩
      · have h := h.2 hc
        refine z_iconst hC (v := 1) k_iconst_1 dX12_isBetter_36 ?_
        refine z_goto hC (tgt := 41) dX12_isBetter_37 (by decide) ?_
        exact z_zret (b := true) hC dX12_isBetter_41 rfl ⟨true, rfl, rfl, rfl, rfl, rfl, rfl, h⟩
  · have h := h.2 hc
    refine z_aload_n hC (q := 0) dX12_isBetter_7 rfl rfl ?_
    refine gf_RX12_375 hC dX12_isBetter_8 hk1 ?_
    refine z_aload_n hC (q := 0) dX12_isBetter_11 rfl rfl ?_
    refine gf_RX12_378 hC dX12_isBetter_12 hk1 ?_
    refine z_icmp_eq hC (tgt := 42) dX12_isBetter_15 (by decide) (fun hc => ?_) (fun hc => ?_)
    · have h := h.1 hc
      refine z_iconst hC (v := 0) k_iconst_0 dX12_isBetter_42 ?_
      refine z_istore_n hC (lv1 := [(1, .int 0), (0, .ref a0)]) dX12_isBetter_43 rfl (by decide) rfl ?_
      exact z_sub [(0, .ref a0), (1, .int 0)] [1, 0] rfl (z_X12_isBetter_44 hC hRm h)
    · have h := h.2 hc
      refine z_aload_n hC (q := 0) dX12_isBetter_18 rfl rfl ?_
      refine gf_RX12_378 hC dX12_isBetter_19 hk1 ?_
      refine z_if_eq hC (tgt := 36) dX12_isBetter_22 (by decide) (fun hc => ?_) (fun hc => ?_)
      · have h := h.1 hc
        refine z_iconst hC (v := 1) k_iconst_1 dX12_isBetter_36 ?_
        refine z_goto hC (tgt := 41) dX12_isBetter_37 (by decide) ?_
        exact z_zret (b := true) hC dX12_isBetter_41 rfl ⟨true, rfl, rfl, rfl, rfl, rfl, rfl, h⟩
      · have h := h.2 hc
        refine z_aload_n hC (q := 0) dX12_isBetter_25 rfl rfl ?_
        refine gf_RX12_375 hC dX12_isBetter_26 hk1 ?_
        refine z_aload_n hC (q := 0) dX12_isBetter_29 rfl rfl ?_
        refine gf_RX12_378 hC dX12_isBetter_30 hk1 ?_
        refine z_icmp_ge hC (tgt := 40) dX12_isBetter_33 (by decide) (fun hc => ?_) (fun hc => ?_)
        · have h := h.1 hc
          refine z_iconst hC (v := 0) k_iconst_0 dX12_isBetter_40 ?_
          exact z_zret (b := false) hC dX12_isBetter_41 rfl ⟨false, rfl, rfl, rfl, rfl, rfl, rfl, h⟩
        · have h := h.2 hc
          refine z_iconst hC (v := 1) k_iconst_1 dX12_isBetter_36 ?_
          refine z_goto hC (tgt := 41) dX12_isBetter_37 (by decide) ?_
          exact z_zret (b := true) hC dX12_isBetter_41 rfl ⟨true, rfl, rfl, rfl, rfl, rfl, rfl, h⟩
def w_X12_tryWay_95  (x0 : Nat) (x5 : Int32)  (K : MK) (N : MK) (I : MI) (L : ML) (R : MR)  (Q : MI → Prop) : Prop := ∃ J : Nat → Nat → Int32 → MI → Prop, (∃ n, J n x0 x5 I) ∧ ∀ (n : Nat) (x0 : Nat) (x5 : Int32) (I : MI), J n x0 x5 I → K x0 = 13 ∧ ((I x0 36) ≤ x5 → Q I) ∧ (¬ (I x0 36) ≤ x5 → ∃ b8 : Nat, R x0 34 = some b8 ∧ ∃ b9 : Nat, R x0 33 = some b9 ∧ K b9 = 14 ∧ vp_in x5 (N b9) ∧ K b8 = 14 ∧ vp_in x5 (N b8) ∧ ∀ I14 : MI, I14 = mup I b8 (ix x5) (I b9 (ix x5)) → ∀ v15 : Int32, v15 = x5 + 1 → ∃ n1, n1 < n ∧ J n1 x0 v15 I14)
def w_X12_tryWay_53  (x0 : Nat) (x3 : Int32) (x4 : Int32) (x5 : Int32)  (K : MK) (N : MK) (I : MI) (L : ML) (R : MR)  (Q : MI → Prop) : Prop := ∃ J : Nat → Nat → Int32 → Int32 → Int32 → MI → Prop, (∃ n, J n x0 x3 x4 x5 I) ∧ ∀ (n : Nat) (x0 : Nat) (x3 : Int32) (x4 : Int32) (x5 : Int32) (I : MI), J n x0 x3 x4 x5 I → (x3 ≤ x5 → K x0 = 13 ∧ w_X12_lay x0 x4 K N I L R (fun I4 => w_X12_isBetter x0 K N I4 L R (fun r5 => (r5 = true → ∀ I6 : MI, I6 = mup I4 x0 37 (I4 x0 36) → w_X12_tryWay_95 x0 0 K N I6 L R Q) ∧ (r5 = false → Q I4)))) ∧ (¬ x3 ≤ x5 → K x0 = 13 ∧ w_X12_lay x0 4 K N I L R (fun I17 => ∀ v18 : Int32, v18 = x5 + 1 → ∃ n1, n1 < n ∧ J n1 x0 x3 x4 v18 I17))
def w_X12_tryWay_20  (x0 : Nat) (x2 : Int32) (x3 : Int32) (x4 : Int32)  (K : MK) (N : MK) (I : MI) (L : ML) (R : MR)  (Q : MI → Prop) : Prop := (x2 = 0 → w_X12_tryWay_53 x0 x3 x4 0 K N I L R Q) ∧ (¬ x2 = 0 → K x0 = 13 ∧ w_X12_lay x0 3 K N I L R (fun I20 => w_X12_lay x0 ((x2 >>> (8 &&& 31)) &&& 255) K N I20 L R (fun I21 => w_X12_lay x0 (x2 &&& 255) K N I21 L R (fun I22 => w_X12_tryWay_53 x0 x3 x4 0 K N I22 L R Q))))
def w_X12_tryWay  (a0 : Nat) (a1 : Int32) (a2 : Int32) (a3 : Int32) (a4 : Int32) (K : MK) (N : MK) (I : MI) (L : ML) (R : MR) (Q : MI → Prop) : Prop := K a0 = 13 ∧ ∀ I2 : MI, I2 = mup I a0 36 0 → (a1 = (-1) → w_X12_tryWay_20 a0 a2 a3 a4 K N I2 L R Q) ∧ (¬ a1 = (-1) → w_X12_lay a0 2 K N I2 L R (fun I23 => w_X12_lay a0 a1 K N I23 L R (fun I24 => w_X12_tryWay_20 a0 a2 a3 a4 K N I24 L R Q)))
set_option maxHeartbeats 4000000 in
set_option maxRecDepth 100000 in
theorem z_X12_tryWay_95 {X : ZX} {G : ZG}  {x0 : Nat} {x5 : Int32}  {K : MK} {N : MK} {I : MI} {L : ML} {R : MR}  {Q : MI → Prop} (hC : ZOk X G RX12 cX12_tryWay 6 none) (hRm : X.2.2.2.1 = rm_X12_tryWay) (h : w_X12_tryWay_95 x0 x5 K N I L R  Q) : Z X G 6 0 0 (z_T X G (qIv K N L R Q) 0 0) K N I L R 95 [(0, .ref x0), (5, .int x5)] [] := by
  delta w_X12_tryWay_95 at h
  obtain ⟨J, ⟨n, h0⟩, hs⟩ := h
  have key : ∀ (n : Nat) (x0 : Nat) (x5 : Int32) (I : MI), J n x0 x5 I → Z X G 6 0 0 (z_T X G (qIv K N L R Q) 0 0) K N I L R 95 [(0, .ref x0), (5, .int x5)] [] := by
    intro n
    induction n using Nat.strongRecOn with
    | _ n ih =>
      intro x0 x5 I hJ
      have hC95 : ∀ (y0 : Nat) (y1 : Int32) (zI : MI), (∃ n1, n1 < n ∧ J n1 y0 y1 zI) → Z X G 6 0 0 (z_T X G (qIv K N L R Q) 0 0) K N zI L R 95 [(0, .ref y0), (5, .int y1)] [] := fun y0 y1 zI ⟨n1, hn1, hj⟩ => ih n1 hn1 y0 y1 zI hj
      have h := hs n x0 x5 I hJ
      refine z_iload hC (q := 1) dX12_tryWay_95 rfl ?_
      refine z_aload_n hC (q := 0) dX12_tryWay_97 rfl rfl ?_
      obtain ⟨hk7, h⟩ := h
      refine gf_RX12_375 hC dX12_tryWay_98 hk7 ?_
      refine z_icmp_ge hC (tgt := 124) dX12_tryWay_101 (by decide) (fun hc => ?_) (fun hc => ?_)
      · have h := h.1 hc
        exact z_vret hC dX12_tryWay_124 ⟨rfl, rfl, rfl, rfl, rfl, h⟩
      · have h := h.2 hc
        refine z_aload_n hC (q := 0) dX12_tryWay_104 rfl rfl ?_
        obtain ⟨b8, hb8, h⟩ := h
        refine gf_RX12_145 hC dX12_tryWay_105 hk7 hb8 ?_
        refine z_iload hC (q := 1) dX12_tryWay_108 rfl ?_
        refine z_aload_n hC (q := 0) dX12_tryWay_110 rfl rfl ?_
        obtain ⟨b9, hb9, h⟩ := h
        refine gf_RX12_142 hC dX12_tryWay_111 hk7 hb9 ?_
        refine z_iload hC (q := 1) dX12_tryWay_114 rfl ?_
        obtain ⟨hk10, h⟩ := h
        obtain ⟨hi11, h⟩ := h
        refine z_iaload hC hk10 hi11 dX12_tryWay_116 ?_
        obtain ⟨hk12, h⟩ := h
        obtain ⟨hi13, h⟩ := h
        refine z_iastore hC hk12 hi13 dX12_tryWay_117 ?_
        refine z_genI (fun I14 eI14 => ?_)
        have h := h I14 eI14
        obtain ⟨v15, ev15⟩ : ∃ y : Int32, y = x5 + 1 := ⟨_, rfl⟩
        have h := h v15 ev15
        refine z_iinc hC (q := 1) (v := v15) (lv1 := [(5, .int v15), (0, .ref x0)]) dX12_tryWay_118 rfl (by rw [ev15, k_iinc_1]) (by decide) rfl ?_
        refine z_goto hC (tgt := 95) dX12_tryWay_121 (by decide) ?_
        exact z_sub [(0, .ref x0), (5, .int v15)] [1, 0] rfl (hC95 _ _ _ h)
  exact key n x0 x5 I h0
set_option maxHeartbeats 4000000 in
set_option maxRecDepth 100000 in
theorem z_X12_tryWay_53 {X : ZX} {G : ZG}  {x0 : Nat} {x3 : Int32} {x4 : Int32} {x5 : Int32}  {K : MK} {N : MK} {I : MI} {L : ML} {R : MR}  {Q : MI → Prop} (hC : ZOk X G RX12 cX12_tryWay 6 none) (hRm : X.2.2.2.1 = rm_X12_tryWay) (h : w_X12_tryWay_53 x0 x3 x4 x5 K N I L R  Q) : Z X G 6 0 0 (z_T X G (qIv K N L R Q) 0 0) K N I L R 53 [(0, .ref x0), (3, .int x3), (4, .int x4), (5, .int x5)] [] := by
  delta w_X12_tryWay_53 at h
  obtain ⟨J, ⟨n, h0⟩, hs⟩ := h
  have key : ∀ (n : Nat) (x0 : Nat) (x3 : Int32) (x4 : Int32) (x5 : Int32) (I : MI), J n x0 x3 x4 x5 I → Z X G 6 0 0 (z_T X G (qIv K N L R Q) 0 0) K N I L R 53 [(0, .ref x0), (3, .int x3), (4, .int x4), (5, .int x5)] [] := by
    intro n
    induction n using Nat.strongRecOn with
    | _ n ih =>
      intro x0 x3 x4 x5 I hJ
      have hC53 : ∀ (y0 : Nat) (y1 : Int32) (y2 : Int32) (y3 : Int32) (zI : MI), (∃ n1, n1 < n ∧ J n1 y0 y1 y2 y3 zI) → Z X G 6 0 0 (z_T X G (qIv K N L R Q) 0 0) K N zI L R 53 [(0, .ref y0), (3, .int y1), (4, .int y2), (5, .int y3)] [] := fun y0 y1 y2 y3 zI ⟨n1, hn1, hj⟩ => ih n1 hn1 y0 y1 y2 y3 zI hj
      have h := hs n x0 x3 x4 x5 I hJ
      refine z_iload hC (q := 3) dX12_tryWay_53 rfl ?_
      refine z_iload_n hC (q := 1) dX12_tryWay_55 rfl rfl ?_
      refine z_icmp_ge hC (tgt := 70) dX12_tryWay_56 (by decide) (fun hc => ?_) (fun hc => ?_)
      · have h := h.1 hc
        refine z_aload_n hC (q := 0) dX12_tryWay_70 rfl rfl ?_
        refine z_iload hC (q := 2) dX12_tryWay_71 rfl ?_
        obtain ⟨hk3, h⟩ := h
        refine cl_RX12_381 hC (c_X12_lay _ G x0 x4 K N I L R _ h) hk3 dX12_tryWay_73 (by rw [hRm]; exact ⟨Nat.le_of_ble_eq_true rfl, Nat.le_of_ble_eq_true rfl⟩) ⟨Nat.zero_le _, Nat.zero_le _⟩ (Nat.le_of_ble_eq_true rfl) (z_kIv (I := I) (fun I4 h => ?_))
        refine z_aload_n hC (q := 0) dX12_tryWay_76 rfl rfl ?_
        refine cl_RX12_384 hC (c_X12_isBetter _ G x0 K N I4 L R _ h) hk3 dX12_tryWay_77 (by rw [hRm]; exact ⟨Nat.le_of_ble_eq_true rfl, Nat.le_of_ble_eq_true rfl⟩) ⟨Nat.zero_le _, Nat.zero_le _⟩ (Nat.le_of_ble_eq_true rfl) (z_kPz (fun r5 h => ?_))
        refine z_ifz_ne hC (tgt := 84) dX12_tryWay_80 (by decide) (fun hc => ?_) (fun hc => ?_)
        · have h := h.1 hc
          refine z_aload_n hC (q := 0) dX12_tryWay_84 rfl rfl ?_
          refine z_aload_n hC (q := 0) dX12_tryWay_85 rfl rfl ?_
          refine gf_RX12_375 hC dX12_tryWay_86 hk3 ?_
          refine pf_RX12_378 hC dX12_tryWay_89 hk3 ?_
          refine z_genI (fun I6 eI6 => ?_)
          have h := h I6 eI6
          refine z_iconst hC (v := 0) k_iconst_0 dX12_tryWay_92 ?_
          refine z_istore hC (lv1 := [(5, .int 0), (0, .ref x0), (3, .int x3), (4, .int x4)]) dX12_tryWay_93 (by decide) rfl ?_
          exact z_sub [(0, .ref x0), (5, .int 0)] [1, 0] rfl (z_X12_tryWay_95 hC hRm h)
        · have h := h.2 hc
          exact z_vret hC dX12_tryWay_83 ⟨rfl, rfl, rfl, rfl, rfl, h⟩
      · have h := h.2 hc
        refine z_aload_n hC (q := 0) dX12_tryWay_59 rfl rfl ?_
        refine z_iconst hC (v := 4) k_iconst_4 dX12_tryWay_60 ?_
        obtain ⟨hk16, h⟩ := h
        refine cl_RX12_381 hC (c_X12_lay _ G x0 4 K N I L R _ h) hk16 dX12_tryWay_61 (by rw [hRm]; exact ⟨Nat.le_of_ble_eq_true rfl, Nat.le_of_ble_eq_true rfl⟩) ⟨Nat.zero_le _, Nat.zero_le _⟩ (Nat.le_of_ble_eq_true rfl) (z_kIv (I := I) (fun I17 h => ?_))
        obtain ⟨v18, ev18⟩ : ∃ y : Int32, y = x5 + 1 := ⟨_, rfl⟩
        have h := h v18 ev18
        refine z_iinc hC (q := 3) (v := v18) (lv1 := [(5, .int v18), (0, .ref x0), (3, .int x3), (4, .int x4)]) dX12_tryWay_64 rfl (by rw [ev18, k_iinc_1]) (by decide) rfl ?_
        refine z_goto hC (tgt := 53) dX12_tryWay_67 (by decide) ?_
        exact z_sub [(0, .ref x0), (3, .int x3), (4, .int x4), (5, .int v18)] [1, 2, 3, 0] rfl (hC53 _ _ _ _ _ h)
  exact key n x0 x3 x4 x5 I h0
set_option maxHeartbeats 4000000 in
set_option maxRecDepth 100000 in
theorem z_X12_tryWay_20 {X : ZX} {G : ZG}  {x0 : Nat} {x2 : Int32} {x3 : Int32} {x4 : Int32}  {K : MK} {N : MK} {I : MI} {L : ML} {R : MR}  {Q : MI → Prop} (hC : ZOk X G RX12 cX12_tryWay 6 none) (hRm : X.2.2.2.1 = rm_X12_tryWay) (h : w_X12_tryWay_20 x0 x2 x3 x4 K N I L R  Q) : Z X G 6 0 0 (z_T X G (qIv K N L R Q) 0 0) K N I L R 20 [(0, .ref x0), (2, .int x2), (3, .int x3), (4, .int x4)] [] := by
  delta w_X12_tryWay_20 at h
  refine z_iload_n hC (q := 1) dX12_tryWay_20 rfl rfl ?_
  refine z_if_eq hC (tgt := 50) dX12_tryWay_21 (by decide) (fun hc => ?_) (fun hc => ?_)
  · have h := h.1 hc
    refine z_iconst hC (v := 0) k_iconst_0 dX12_tryWay_50 ?_
    refine z_istore hC (lv1 := [(5, .int 0), (0, .ref x0), (2, .int x2), (3, .int x3), (4, .int x4)]) dX12_tryWay_51 (by decide) rfl ?_
    exact z_sub [(0, .ref x0), (3, .int x3), (4, .int x4), (5, .int 0)] [1, 3, 4, 0] rfl (z_X12_tryWay_53 hC hRm h)
  · have h := h.2 hc
    refine z_aload_n hC (q := 0) dX12_tryWay_24 rfl rfl ?_
    refine z_iconst hC (v := 3) k_iconst_3 dX12_tryWay_25 ?_
    obtain ⟨hk19, h⟩ := h
    refine cl_RX12_381 hC (c_X12_lay _ G x0 3 K N I L R _ h) hk19 dX12_tryWay_26 (by rw [hRm]; exact ⟨Nat.le_of_ble_eq_true rfl, Nat.le_of_ble_eq_true rfl⟩) ⟨Nat.zero_le _, Nat.zero_le _⟩ (Nat.le_of_ble_eq_true rfl) (z_kIv (I := I) (fun I20 h => ?_))
    refine z_aload_n hC (q := 0) dX12_tryWay_29 rfl rfl ?_
    refine z_iload_n hC (q := 1) dX12_tryWay_30 rfl rfl ?_
    refine z_bipush hC (v := 8) k_bipush_8 dX12_tryWay_31 ?_
    refine z_ishr hC dX12_tryWay_33 ?_
    refine z_sipush hC (v := 255) k_sipush_255 dX12_tryWay_34 ?_
    refine z_iand hC dX12_tryWay_37 ?_
    refine cl_RX12_381 hC (c_X12_lay _ G x0 ((x2 >>> (8 &&& 31)) &&& 255) K N I20 L R _ h) hk19 dX12_tryWay_38 (by rw [hRm]; exact ⟨Nat.le_of_ble_eq_true rfl, Nat.le_of_ble_eq_true rfl⟩) ⟨Nat.zero_le _, Nat.zero_le _⟩ (Nat.le_of_ble_eq_true rfl) (z_kIv (I := I20) (fun I21 h => ?_))
    refine z_aload_n hC (q := 0) dX12_tryWay_41 rfl rfl ?_
    refine z_iload_n hC (q := 1) dX12_tryWay_42 rfl rfl ?_
    refine z_sipush hC (v := 255) k_sipush_255 dX12_tryWay_43 ?_
    refine z_iand hC dX12_tryWay_46 ?_
    refine cl_RX12_381 hC (c_X12_lay _ G x0 (x2 &&& 255) K N I21 L R _ h) hk19 dX12_tryWay_47 (by rw [hRm]; exact ⟨Nat.le_of_ble_eq_true rfl, Nat.le_of_ble_eq_true rfl⟩) ⟨Nat.zero_le _, Nat.zero_le _⟩ (Nat.le_of_ble_eq_true rfl) (z_kIv (I := I21) (fun I22 h => ?_))
    refine z_iconst hC (v := 0) k_iconst_0 dX12_tryWay_50 ?_
    refine z_istore hC (lv1 := [(5, .int 0), (0, .ref x0), (2, .int x2), (3, .int x3), (4, .int x4)]) dX12_tryWay_51 (by decide) rfl ?_
    exact z_sub [(0, .ref x0), (3, .int x3), (4, .int x4), (5, .int 0)] [1, 3, 4, 0] rfl (z_X12_tryWay_53 hC hRm h)
set_option maxHeartbeats 4000000 in
set_option maxRecDepth 100000 in
theorem c_X12_tryWay  (l : Launch) (G : ZG) (a0 : Nat) (a1 : Int32) (a2 : Int32) (a3 : Int32) (a4 : Int32) (K : MK) (N : MK) (I : MI) (L : ML) (R : MR) (Q : MI → Prop) (h : w_X12_tryWay a0 a1 a2 a3 a4 K N I L R Q) : Met l yX12_tryWay (.code yX12_tryWay cX12_tryWay 6 none :: z_tbl) rm_X12_tryWay (z_Pc G [.ref a0, .int a1, .int a2, .int a3, .int a4] K N I L R) (z_Qc G (qIv K N L R Q)) 0 0 (z_A G) := by
  refine z_met (by decide) (Nat.le_of_ble_eq_true rfl) (fun X hX hRm hC0 hnm => ?_)
  subst hX
  have hC : ZOk X G RX12 cX12_tryWay 6 none := hC0
  show Z X G 6 0 0 _ K N I L R 0 [(0, .ref a0), (1, .int a1), (2, .int a2), (3, .int a3), (4, .int a4)] []
  delta w_X12_tryWay at h
  refine z_aload_n hC (q := 0) dX12_tryWay_0 rfl rfl ?_
  refine z_iconst hC (v := 0) k_iconst_0 dX12_tryWay_1 ?_
  obtain ⟨hk1, h⟩ := h
  refine pf_RX12_375 hC dX12_tryWay_2 hk1 ?_
  refine z_genI (fun I2 eI2 => ?_)
  have h := h I2 eI2
  refine z_iload_n hC (q := 1) dX12_tryWay_5 rfl rfl ?_
  refine z_iconst hC (v := (-1)) k_iconst_m1 dX12_tryWay_6 ?_
  refine z_icmp_eq hC (tgt := 20) dX12_tryWay_7 (by decide) (fun hc => ?_) (fun hc => ?_)
  · have h := h.1 hc
    exact z_sub [(0, .ref a0), (2, .int a2), (3, .int a3), (4, .int a4)] [0, 2, 3, 4] rfl (z_X12_tryWay_20 hC hRm h)
  · have h := h.2 hc
    refine z_aload_n hC (q := 0) dX12_tryWay_10 rfl rfl ?_
    refine z_iconst hC (v := 2) k_iconst_2 dX12_tryWay_11 ?_
    refine cl_RX12_381 hC (c_X12_lay _ G a0 2 K N I2 L R _ h) hk1 dX12_tryWay_12 (by rw [hRm]; exact ⟨Nat.le_of_ble_eq_true rfl, Nat.le_of_ble_eq_true rfl⟩) ⟨Nat.zero_le _, Nat.zero_le _⟩ (Nat.le_of_ble_eq_true rfl) (z_kIv (I := I2) (fun I23 h => ?_))
    refine z_aload_n hC (q := 0) dX12_tryWay_15 rfl rfl ?_
    refine z_iload_n hC (q := 1) dX12_tryWay_16 rfl rfl ?_
    refine cl_RX12_381 hC (c_X12_lay _ G a0 a1 K N I23 L R _ h) hk1 dX12_tryWay_17 (by rw [hRm]; exact ⟨Nat.le_of_ble_eq_true rfl, Nat.le_of_ble_eq_true rfl⟩) ⟨Nat.zero_le _, Nat.zero_le _⟩ (Nat.le_of_ble_eq_true rfl) (z_kIv (I := I23) (fun I24 h => ?_))
    exact z_sub [(0, .ref a0), (2, .int a2), (3, .int a3), (4, .int a4)] [0, 2, 3, 4] rfl (z_X12_tryWay_20 hC hRm h)
def w_X12_tryLast_3  (x0 : Nat) (x1 : Int32) (x2 : Int32) (x3 : Int32) (x4 : Int32)  (K : MK) (N : MK) (I : MI) (L : ML) (R : MR)  (Q : MI → Prop) : Prop := ∃ J : Nat → Nat → Int32 → Int32 → Int32 → Int32 → MI → Prop, (∃ n, J n x0 x1 x2 x3 x4 I) ∧ ∀ (n : Nat) (x0 : Nat) (x1 : Int32) (x2 : Int32) (x3 : Int32) (x4 : Int32) (I : MI), J n x0 x1 x2 x3 x4 I → (x1 < ((17 : Int32) * x4) → Q I) ∧ (¬ x1 < ((17 : Int32) * x4) → ∀ v1 : Int32, v1 = (x1 - ((17 : Int32) * x4)) → (¬ v1 = 0 → K x0 = 13 ∧ w_X12_tryWay x0 v1 x2 x4 x3 K N I L R (fun I3 => ∀ v4 : Int32, v4 = x4 + 1 → ∃ n1, n1 < n ∧ J n1 x0 x1 x2 x3 v4 I3)) ∧ (v1 = 0 → K x0 = 13 ∧ w_X12_tryWay x0 (-1) x2 x4 x3 K N I L R (fun I6 => ∀ v7 : Int32, v7 = x4 + 1 → ∃ n1, n1 < n ∧ J n1 x0 x1 x2 x3 v7 I6)))
def w_X12_tryLast  (a0 : Nat) (a1 : Int32) (a2 : Int32) (a3 : Int32) (K : MK) (N : MK) (I : MI) (L : ML) (R : MR) (Q : MI → Prop) : Prop := w_X12_tryLast_3 a0 a1 a2 a3 0 K N I L R Q
set_option maxHeartbeats 4000000 in
set_option maxRecDepth 100000 in
theorem z_X12_tryLast_3 {X : ZX} {G : ZG}  {x0 : Nat} {x1 : Int32} {x2 : Int32} {x3 : Int32} {x4 : Int32}  {K : MK} {N : MK} {I : MI} {L : ML} {R : MR}  {Q : MI → Prop} (hC : ZOk X G RX12 cX12_tryLast 6 none) (hRm : X.2.2.2.1 = rm_X12_tryLast) (h : w_X12_tryLast_3 x0 x1 x2 x3 x4 K N I L R  Q) : Z X G 6 0 0 (z_T X G (qIv K N L R Q) 0 0) K N I L R 3 [(0, .ref x0), (1, .int x1), (2, .int x2), (3, .int x3), (4, .int x4)] [] := by
  delta w_X12_tryLast_3 at h
  obtain ⟨J, ⟨n, h0⟩, hs⟩ := h
  have key : ∀ (n : Nat) (x0 : Nat) (x1 : Int32) (x2 : Int32) (x3 : Int32) (x4 : Int32) (I : MI), J n x0 x1 x2 x3 x4 I → Z X G 6 0 0 (z_T X G (qIv K N L R Q) 0 0) K N I L R 3 [(0, .ref x0), (1, .int x1), (2, .int x2), (3, .int x3), (4, .int x4)] [] := by
    intro n
    induction n using Nat.strongRecOn with
    | _ n ih =>
      intro x0 x1 x2 x3 x4 I hJ
      have hC3 : ∀ (y0 : Nat) (y1 : Int32) (y2 : Int32) (y3 : Int32) (y4 : Int32) (zI : MI), (∃ n1, n1 < n ∧ J n1 y0 y1 y2 y3 y4 zI) → Z X G 6 0 0 (z_T X G (qIv K N L R Q) 0 0) K N zI L R 3 [(0, .ref y0), (1, .int y1), (2, .int y2), (3, .int y3), (4, .int y4)] [] := fun y0 y1 y2 y3 y4 zI ⟨n1, hn1, hj⟩ => ih n1 hn1 y0 y1 y2 y3 y4 zI hj
      have h := hs n x0 x1 x2 x3 x4 I hJ
      refine z_bipush hC (v := 17) k_bipush_17 dX12_tryLast_3 ?_
      refine z_iload hC (q := 4) dX12_tryLast_5 rfl ?_
      refine z_imul hC dX12_tryLast_7 ?_
      refine z_iload_n hC (q := 1) dX12_tryLast_8 rfl rfl ?_
      refine z_icmp_gt hC (tgt := 54) dX12_tryLast_9 (by decide) (fun hc => ?_) (fun hc => ?_)
      · have h := h.1 hc
        exact z_vret hC dX12_tryLast_54 ⟨rfl, rfl, rfl, rfl, rfl, h⟩
      · have h := h.2 hc
        refine z_iload_n hC (q := 1) dX12_tryLast_12 rfl rfl ?_
        refine z_bipush hC (v := 17) k_bipush_17 dX12_tryLast_13 ?_
        refine z_iload hC (q := 4) dX12_tryLast_15 rfl ?_
        refine z_imul hC dX12_tryLast_17 ?_
        refine z_isub hC dX12_tryLast_18 ?_
        refine z_topi (fun v1 ev1 => ?_)
        have h := h v1 ev1
        refine z_istore hC (lv1 := [(5, .int v1), (0, .ref x0), (1, .int x1), (2, .int x2), (3, .int x3), (4, .int x4)]) dX12_tryLast_19 (by decide) rfl ?_
        refine z_iload hC (q := 0) dX12_tryLast_21 rfl ?_
        refine z_if_ne hC (tgt := 38) dX12_tryLast_23 (by decide) (fun hc => ?_) (fun hc => ?_)
        · have h := h.1 hc
          refine z_aload_n hC (q := 1) dX12_tryLast_38 rfl rfl ?_
          refine z_iload hC (q := 0) dX12_tryLast_39 rfl ?_
          refine z_iload_n hC (q := 3) dX12_tryLast_41 rfl rfl ?_
          refine z_iload hC (q := 5) dX12_tryLast_42 rfl ?_
          refine z_iload_n hC (q := 4) dX12_tryLast_44 rfl rfl ?_
          obtain ⟨hk2, h⟩ := h
          refine cl_RX12_387 hC (c_X12_tryWay _ G x0 v1 x2 x4 x3 K N I L R _ h) hk2 dX12_tryLast_45 (by rw [hRm]; exact ⟨Nat.le_of_ble_eq_true rfl, Nat.le_of_ble_eq_true rfl⟩) ⟨Nat.zero_le _, Nat.zero_le _⟩ (Nat.le_of_ble_eq_true rfl) (z_kIv (I := I) (fun I3 h => ?_))
          obtain ⟨v4, ev4⟩ : ∃ y : Int32, y = x4 + 1 := ⟨_, rfl⟩
          have h := h v4 ev4
          refine z_iinc hC (q := 5) (v := v4) (lv1 := [(4, .int v4), (5, .int v1), (0, .ref x0), (1, .int x1), (2, .int x2), (3, .int x3)]) dX12_tryLast_48 rfl (by rw [ev4, k_iinc_1]) (by decide) rfl ?_
          refine z_goto hC (tgt := 3) dX12_tryLast_51 (by decide) ?_
          exact z_sub [(0, .ref x0), (1, .int x1), (2, .int x2), (3, .int x3), (4, .int v4)] [2, 3, 4, 5, 0] rfl (hC3 _ _ _ _ _ _ h)
        · have h := h.2 hc
          refine z_aload_n hC (q := 1) dX12_tryLast_26 rfl rfl ?_
          refine z_iconst hC (v := (-1)) k_iconst_m1 dX12_tryLast_27 ?_
          refine z_iload_n hC (q := 3) dX12_tryLast_28 rfl rfl ?_
          refine z_iload hC (q := 5) dX12_tryLast_29 rfl ?_
          refine z_iload_n hC (q := 4) dX12_tryLast_31 rfl rfl ?_
          obtain ⟨hk5, h⟩ := h
          refine cl_RX12_387 hC (c_X12_tryWay _ G x0 (-1) x2 x4 x3 K N I L R _ h) hk5 dX12_tryLast_32 (by rw [hRm]; exact ⟨Nat.le_of_ble_eq_true rfl, Nat.le_of_ble_eq_true rfl⟩) ⟨Nat.zero_le _, Nat.zero_le _⟩ (Nat.le_of_ble_eq_true rfl) (z_kIv (I := I) (fun I6 h => ?_))
          refine z_goto hC (tgt := 48) dX12_tryLast_35 (by decide) ?_
          obtain ⟨v7, ev7⟩ : ∃ y : Int32, y = x4 + 1 := ⟨_, rfl⟩
          have h := h v7 ev7
          refine z_iinc hC (q := 5) (v := v7) (lv1 := [(4, .int v7), (5, .int v1), (0, .ref x0), (1, .int x1), (2, .int x2), (3, .int x3)]) dX12_tryLast_48 rfl (by rw [ev7, k_iinc_1]) (by decide) rfl ?_
          refine z_goto hC (tgt := 3) dX12_tryLast_51 (by decide) ?_
          exact z_sub [(0, .ref x0), (1, .int x1), (2, .int x2), (3, .int x3), (4, .int v7)] [2, 3, 4, 5, 0] rfl (hC3 _ _ _ _ _ _ h)
  exact key n x0 x1 x2 x3 x4 I h0
set_option maxHeartbeats 4000000 in
set_option maxRecDepth 100000 in
theorem c_X12_tryLast  (l : Launch) (G : ZG) (a0 : Nat) (a1 : Int32) (a2 : Int32) (a3 : Int32) (K : MK) (N : MK) (I : MI) (L : ML) (R : MR) (Q : MI → Prop) (h : w_X12_tryLast a0 a1 a2 a3 K N I L R Q) : Met l yX12_tryLast (.code yX12_tryLast cX12_tryLast 6 none :: z_tbl) rm_X12_tryLast (z_Pc G [.ref a0, .int a1, .int a2, .int a3] K N I L R) (z_Qc G (qIv K N L R Q)) 0 0 (z_A G) := by
  refine z_met (by decide) (Nat.le_of_ble_eq_true rfl) (fun X hX hRm hC0 hnm => ?_)
  subst hX
  have hC : ZOk X G RX12 cX12_tryLast 6 none := hC0
  show Z X G 6 0 0 _ K N I L R 0 [(0, .ref a0), (1, .int a1), (2, .int a2), (3, .int a3)] []
  delta w_X12_tryLast at h
  refine z_iconst hC (v := 0) k_iconst_0 dX12_tryLast_0 ?_
  refine z_istore hC (lv1 := [(4, .int 0), (0, .ref a0), (1, .int a1), (2, .int a2), (3, .int a3)]) dX12_tryLast_1 (by decide) rfl ?_
  exact z_sub [(0, .ref a0), (1, .int a1), (2, .int a2), (3, .int a3), (4, .int 0)] [1, 2, 3, 4, 0] rfl (z_X12_tryLast_3 hC hRm h)
def w_X12_packRow_59  (x0 : Nat) (x3 : Int32)  (K : MK) (N : MK) (I : MI) (L : ML) (R : MR)  (Q : MI → Prop) : Prop := ∃ J : Nat → Nat → Int32 → MI → Prop, (∃ n, J n x0 x3 I) ∧ ∀ (n : Nat) (x0 : Nat) (x3 : Int32) (I : MI), J n x0 x3 I → K x0 = 13 ∧ ((I x0 37) ≤ x3 → ∀ I5 : MI, I5 = mup I x0 35 ((I x0 35) + (I x0 37)) → Q I5) ∧ (¬ (I x0 37) ≤ x3 → ∃ b6 : Nat, R x0 32 = some b6 ∧ ∃ b7 : Nat, R x0 34 = some b7 ∧ K b7 = 14 ∧ vp_in x3 (N b7) ∧ K b6 = 14 ∧ vp_in ((I x0 35) + x3) (N b6) ∧ ∀ I12 : MI, I12 = mup I b6 (ix ((I x0 35) + x3)) (I b7 (ix x3)) → ∀ v13 : Int32, v13 = x3 + 1 → ∃ n1, n1 < n ∧ J n1 x0 v13 I12)
def w_X12_packRow_14  (x0 : Nat) (x1 : Int32) (x2 : Int32) (x3 : Int32)  (K : MK) (N : MK) (I : MI) (L : ML) (R : MR)  (Q : MI → Prop) : Prop := ∃ J : Nat → Nat → Int32 → Int32 → Int32 → MI → Prop, (∃ n, J n x0 x1 x2 x3 I) ∧ ∀ (n : Nat) (x0 : Nat) (x1 : Int32) (x2 : Int32) (x3 : Int32) (I : MI), J n x0 x1 x2 x3 I → ((245 : Int32) < x3 → w_X12_packRow_59 x0 0 K N I L R Q) ∧ (¬ (245 : Int32) < x3 → (x1 < (x3 / 12) → ∀ v14 : Int32, v14 = x3 + 1 → ∃ n1, n1 < n ∧ J n1 x0 x1 x2 v14 I) ∧ (¬ x1 < (x3 / 12) → K x0 = 13 ∧ w_X12_tryLast x0 (x1 - (x3 / 12)) (x2 - ((x3 - x3 / 12 * 12) - 4)) (x3 + 10) K N I L R (fun I16 => ∀ v17 : Int32, v17 = x3 + 1 → ∃ n1, n1 < n ∧ J n1 x0 x1 x2 v17 I16)))
def w_X12_packRow  (a0 : Nat) (a1 : Int32) (a2 : Int32) (K : MK) (N : MK) (I : MI) (L : ML) (R : MR) (Q : MI → Prop) : Prop := K a0 = 13 ∧ ∀ I2 : MI, I2 = mup I a0 37 0 → w_X12_tryLast a0 a1 a2 1 K N I2 L R (fun I3 => w_X12_packRow_14 a0 a1 a2 0 K N I3 L R Q)
set_option maxHeartbeats 4000000 in
set_option maxRecDepth 100000 in
theorem z_X12_packRow_59 {X : ZX} {G : ZG}  {x0 : Nat} {x3 : Int32}  {K : MK} {N : MK} {I : MI} {L : ML} {R : MR}  {Q : MI → Prop} (hC : ZOk X G RX12 cX12_packRow 4 none) (hRm : X.2.2.2.1 = rm_X12_packRow) (h : w_X12_packRow_59 x0 x3 K N I L R  Q) : Z X G 4 0 0 (z_T X G (qIv K N L R Q) 0 0) K N I L R 59 [(0, .ref x0), (3, .int x3)] [] := by
  delta w_X12_packRow_59 at h
  obtain ⟨J, ⟨n, h0⟩, hs⟩ := h
  have key : ∀ (n : Nat) (x0 : Nat) (x3 : Int32) (I : MI), J n x0 x3 I → Z X G 4 0 0 (z_T X G (qIv K N L R Q) 0 0) K N I L R 59 [(0, .ref x0), (3, .int x3)] [] := by
    intro n
    induction n using Nat.strongRecOn with
    | _ n ih =>
      intro x0 x3 I hJ
      have hC59 : ∀ (y0 : Nat) (y1 : Int32) (zI : MI), (∃ n1, n1 < n ∧ J n1 y0 y1 zI) → Z X G 4 0 0 (z_T X G (qIv K N L R Q) 0 0) K N zI L R 59 [(0, .ref y0), (3, .int y1)] [] := fun y0 y1 zI ⟨n1, hn1, hj⟩ => ih n1 hn1 y0 y1 zI hj
      have h := hs n x0 x3 I hJ
      refine z_iload_n hC (q := 1) dX12_packRow_59 rfl rfl ?_
      refine z_aload_n hC (q := 0) dX12_packRow_60 rfl rfl ?_
      obtain ⟨hk4, h⟩ := h
      refine gf_RX12_378 hC dX12_packRow_61 hk4 ?_
      refine z_icmp_ge hC (tgt := 90) dX12_packRow_64 (by decide) (fun hc => ?_) (fun hc => ?_)
      · have h := h.1 hc
        refine z_aload_n hC (q := 0) dX12_packRow_90 rfl rfl ?_
        refine z_dup hC rfl dX12_packRow_91 ?_
        refine gf_RX12_394 hC dX12_packRow_92 hk4 ?_
        refine z_aload_n hC (q := 0) dX12_packRow_95 rfl rfl ?_
        refine gf_RX12_378 hC dX12_packRow_96 hk4 ?_
        refine z_iadd hC dX12_packRow_99 ?_
        refine pf_RX12_394 hC dX12_packRow_100 hk4 ?_
        refine z_genI (fun I5 eI5 => ?_)
        have h := h I5 eI5
        exact z_vret hC dX12_packRow_103 ⟨rfl, rfl, rfl, rfl, rfl, h⟩
      · have h := h.2 hc
        refine z_aload_n hC (q := 0) dX12_packRow_67 rfl rfl ?_
        obtain ⟨b6, hb6, h⟩ := h
        refine gf_RX12_139 hC dX12_packRow_68 hk4 hb6 ?_
        refine z_aload_n hC (q := 0) dX12_packRow_71 rfl rfl ?_
        refine gf_RX12_394 hC dX12_packRow_72 hk4 ?_
        refine z_iload_n hC (q := 1) dX12_packRow_75 rfl rfl ?_
        refine z_iadd hC dX12_packRow_76 ?_
        refine z_aload_n hC (q := 0) dX12_packRow_77 rfl rfl ?_
        obtain ⟨b7, hb7, h⟩ := h
        refine gf_RX12_145 hC dX12_packRow_78 hk4 hb7 ?_
        refine z_iload_n hC (q := 1) dX12_packRow_81 rfl rfl ?_
        obtain ⟨hk8, h⟩ := h
        obtain ⟨hi9, h⟩ := h
        refine z_iaload hC hk8 hi9 dX12_packRow_82 ?_
        obtain ⟨hk10, h⟩ := h
        obtain ⟨hi11, h⟩ := h
        refine z_iastore hC hk10 hi11 dX12_packRow_83 ?_
        refine z_genI (fun I12 eI12 => ?_)
        have h := h I12 eI12
        obtain ⟨v13, ev13⟩ : ∃ y : Int32, y = x3 + 1 := ⟨_, rfl⟩
        have h := h v13 ev13
        refine z_iinc hC (q := 1) (v := v13) (lv1 := [(3, .int v13), (0, .ref x0)]) dX12_packRow_84 rfl (by rw [ev13, k_iinc_1]) (by decide) rfl ?_
        refine z_goto hC (tgt := 59) dX12_packRow_87 (by decide) ?_
        exact z_sub [(0, .ref x0), (3, .int v13)] [1, 0] rfl (hC59 _ _ _ h)
  exact key n x0 x3 I h0
set_option maxHeartbeats 4000000 in
set_option maxRecDepth 100000 in
theorem z_X12_packRow_14 {X : ZX} {G : ZG}  {x0 : Nat} {x1 : Int32} {x2 : Int32} {x3 : Int32}  {K : MK} {N : MK} {I : MI} {L : ML} {R : MR}  {Q : MI → Prop} (hC : ZOk X G RX12 cX12_packRow 4 none) (hRm : X.2.2.2.1 = rm_X12_packRow) (h : w_X12_packRow_14 x0 x1 x2 x3 K N I L R  Q) : Z X G 4 0 0 (z_T X G (qIv K N L R Q) 0 0) K N I L R 14 [(0, .ref x0), (1, .int x1), (2, .int x2), (3, .int x3)] [] := by
  delta w_X12_packRow_14 at h
  obtain ⟨J, ⟨n, h0⟩, hs⟩ := h
  have key : ∀ (n : Nat) (x0 : Nat) (x1 : Int32) (x2 : Int32) (x3 : Int32) (I : MI), J n x0 x1 x2 x3 I → Z X G 4 0 0 (z_T X G (qIv K N L R Q) 0 0) K N I L R 14 [(0, .ref x0), (1, .int x1), (2, .int x2), (3, .int x3)] [] := by
    intro n
    induction n using Nat.strongRecOn with
    | _ n ih =>
      intro x0 x1 x2 x3 I hJ
      have hC14 : ∀ (y0 : Nat) (y1 : Int32) (y2 : Int32) (y3 : Int32) (zI : MI), (∃ n1, n1 < n ∧ J n1 y0 y1 y2 y3 zI) → Z X G 4 0 0 (z_T X G (qIv K N L R Q) 0 0) K N zI L R 14 [(0, .ref y0), (1, .int y1), (2, .int y2), (3, .int y3)] [] := fun y0 y1 y2 y3 zI ⟨n1, hn1, hj⟩ => ih n1 hn1 y0 y1 y2 y3 zI hj
      have h := hs n x0 x1 x2 x3 I hJ
      refine z_iload_n hC (q := 3) dX12_packRow_14 rfl rfl ?_
      refine z_sipush hC (v := 245) k_sipush_245 dX12_packRow_15 ?_
      refine z_icmp_gt hC (tgt := 57) dX12_packRow_18 (by decide) (fun hc => ?_) (fun hc => ?_)
      · have h := h.1 hc
        refine z_iconst hC (v := 0) k_iconst_0 dX12_packRow_57 ?_
        refine z_istore_n hC (lv1 := [(3, .int 0), (0, .ref x0), (1, .int x1), (2, .int x2)]) dX12_packRow_58 rfl (by decide) rfl ?_
        exact z_sub [(0, .ref x0), (3, .int 0)] [1, 0] rfl (z_X12_packRow_59 hC hRm h)
      · have h := h.2 hc
        refine z_iload_n hC (q := 3) dX12_packRow_21 rfl rfl ?_
        refine z_bipush hC (v := 12) k_bipush_12 dX12_packRow_22 ?_
        refine z_idiv hC (by decide) dX12_packRow_24 ?_
        refine z_iload_n hC (q := 1) dX12_packRow_25 rfl rfl ?_
        refine z_icmp_gt hC (tgt := 51) dX12_packRow_26 (by decide) (fun hc => ?_) (fun hc => ?_)
        · have h := h.1 hc
          obtain ⟨v14, ev14⟩ : ∃ y : Int32, y = x3 + 1 := ⟨_, rfl⟩
          have h := h v14 ev14
          refine z_iinc hC (q := 3) (v := v14) (lv1 := [(3, .int v14), (0, .ref x0), (1, .int x1), (2, .int x2)]) dX12_packRow_51 rfl (by rw [ev14, k_iinc_1]) (by decide) rfl ?_
          refine z_goto hC (tgt := 14) dX12_packRow_54 (by decide) ?_
          exact z_sub [(0, .ref x0), (1, .int x1), (2, .int x2), (3, .int v14)] [1, 2, 3, 0] rfl (hC14 _ _ _ _ _ h)
        · have h := h.2 hc
          refine z_aload_n hC (q := 0) dX12_packRow_29 rfl rfl ?_
          refine z_iload_n hC (q := 1) dX12_packRow_30 rfl rfl ?_
          refine z_iload_n hC (q := 3) dX12_packRow_31 rfl rfl ?_
          refine z_bipush hC (v := 12) k_bipush_12 dX12_packRow_32 ?_
          refine z_idiv hC (by decide) dX12_packRow_34 ?_
          refine z_isub hC dX12_packRow_35 ?_
          refine z_iload_n hC (q := 2) dX12_packRow_36 rfl rfl ?_
          refine z_iload_n hC (q := 3) dX12_packRow_37 rfl rfl ?_
          refine z_bipush hC (v := 12) k_bipush_12 dX12_packRow_38 ?_
          refine z_irem hC (by decide) dX12_packRow_40 ?_
          refine z_iconst hC (v := 4) k_iconst_4 dX12_packRow_41 ?_
          refine z_isub hC dX12_packRow_42 ?_
          refine z_isub hC dX12_packRow_43 ?_
          refine z_iload_n hC (q := 3) dX12_packRow_44 rfl rfl ?_
          refine z_bipush hC (v := 10) k_bipush_10 dX12_packRow_45 ?_
          refine z_iadd hC dX12_packRow_47 ?_
          obtain ⟨hk15, h⟩ := h
          refine cl_RX12_391 hC (c_X12_tryLast _ G x0 (x1 - (x3 / 12)) (x2 - ((x3 - x3 / 12 * 12) - 4)) (x3 + 10) K N I L R _ h) hk15 dX12_packRow_48 (by rw [hRm]; exact ⟨Nat.le_of_ble_eq_true rfl, Nat.le_of_ble_eq_true rfl⟩) ⟨Nat.zero_le _, Nat.zero_le _⟩ (Nat.le_of_ble_eq_true rfl) (z_kIv (I := I) (fun I16 h => ?_))
          obtain ⟨v17, ev17⟩ : ∃ y : Int32, y = x3 + 1 := ⟨_, rfl⟩
          have h := h v17 ev17
          refine z_iinc hC (q := 3) (v := v17) (lv1 := [(3, .int v17), (0, .ref x0), (1, .int x1), (2, .int x2)]) dX12_packRow_51 rfl (by rw [ev17, k_iinc_1]) (by decide) rfl ?_
          refine z_goto hC (tgt := 14) dX12_packRow_54 (by decide) ?_
          exact z_sub [(0, .ref x0), (1, .int x1), (2, .int x2), (3, .int v17)] [1, 2, 3, 0] rfl (hC14 _ _ _ _ _ h)
  exact key n x0 x1 x2 x3 I h0
set_option maxHeartbeats 4000000 in
set_option maxRecDepth 100000 in
theorem c_X12_packRow  (l : Launch) (G : ZG) (a0 : Nat) (a1 : Int32) (a2 : Int32) (K : MK) (N : MK) (I : MI) (L : ML) (R : MR) (Q : MI → Prop) (h : w_X12_packRow a0 a1 a2 K N I L R Q) : Met l yX12_packRow (.code yX12_packRow cX12_packRow 4 none :: z_tbl) rm_X12_packRow (z_Pc G [.ref a0, .int a1, .int a2] K N I L R) (z_Qc G (qIv K N L R Q)) 0 0 (z_A G) := by
  refine z_met (by decide) (Nat.le_of_ble_eq_true rfl) (fun X hX hRm hC0 hnm => ?_)
  subst hX
  have hC : ZOk X G RX12 cX12_packRow 4 none := hC0
  show Z X G 4 0 0 _ K N I L R 0 [(0, .ref a0), (1, .int a1), (2, .int a2)] []
  delta w_X12_packRow at h
  refine z_aload_n hC (q := 0) dX12_packRow_0 rfl rfl ?_
  refine z_iconst hC (v := 0) k_iconst_0 dX12_packRow_1 ?_
  obtain ⟨hk1, h⟩ := h
  refine pf_RX12_378 hC dX12_packRow_2 hk1 ?_
  refine z_genI (fun I2 eI2 => ?_)
  have h := h I2 eI2
  refine z_aload_n hC (q := 0) dX12_packRow_5 rfl rfl ?_
  refine z_iload_n hC (q := 1) dX12_packRow_6 rfl rfl ?_
  refine z_iload_n hC (q := 2) dX12_packRow_7 rfl rfl ?_
  refine z_iconst hC (v := 1) k_iconst_1 dX12_packRow_8 ?_
  refine cl_RX12_391 hC (c_X12_tryLast _ G a0 a1 a2 1 K N I2 L R _ h) hk1 dX12_packRow_9 (by rw [hRm]; exact ⟨Nat.le_of_ble_eq_true rfl, Nat.le_of_ble_eq_true rfl⟩) ⟨Nat.zero_le _, Nat.zero_le _⟩ (Nat.le_of_ble_eq_true rfl) (z_kIv (I := I2) (fun I3 h => ?_))
  refine z_iconst hC (v := 0) k_iconst_0 dX12_packRow_12 ?_
  refine z_istore_n hC (lv1 := [(3, .int 0), (0, .ref a0), (1, .int a1), (2, .int a2)]) dX12_packRow_13 rfl (by decide) rfl ?_
  exact z_sub [(0, .ref a0), (1, .int a1), (2, .int a2), (3, .int 0)] [1, 2, 3, 0] rfl (z_X12_packRow_14 hC hRm h)
