set_option maxHeartbeats 2000000 in
set_option maxRecDepth 20000 in
theorem lw_c13 {X : ZX} {G : ZG} {Qf : State → Prop} {b Ls i x m z mc ms : Nat} {xs : Nat → Int32} {K N : MK} {I : MI} {L : ML} {R : MR} (hC : ZOk X G RL cL_law 7 (some .boolean)) (hZ : zxS G X.2.2.2.2.1) (hfl : X.2.1.stackTraces = false) (hRm : X.2.2.2.1 = room_1) (hX : va_X b Ls xs X.2.2.2.2.1 X.2.2.2.2.1.heap) (hbl : b < X.2.2.2.2.1.heap.size) (hbA : ¬ z_A G b) (hi : i + 6 ≤ Ls) (hLs : Ls ≤ 3072) (hcs : mc + 1 ≤ X.2.2.2.1.cells ∧ ms + 6 ≤ X.2.2.2.1.slots) (h : LINV K N I L R x m z)
    (kk : ∀ (mc1 ms1 : Nat) (K N : MK) (I : MI) (L : ML) (R : MR), mc1 ≤ mc + 1 → ms1 ≤ ms + 6 → LINV K N I L R x m z → Z X G 7 mc1 ms1 Qf K N I L R 1490 [(4, .int (nI i)), (0, .ref b), (1, .ref x), (2, .ref m), (3, .ref z)] []) : Z X G 7 mc ms Qf K N I L R 641 [(4, .int (nI i)), (0, .ref b), (1, .ref x), (2, .ref m), (3, .ref z)] [] := by
  have hpx := (cpG₁ h.1).1.k
  have hpm := (cpG₁ h.1).2.1.k
  obtain ⟨hq, hz15, hz1, hzm⟩ := h
  refine z_aload_n hC (q := 2) dL_law_641 rfl rfl ?_
  refine z_aload_n hC (q := 1) dL_law_642 rfl rfl ?_
  refine z_iload hC (q := 0) dL_law_643 rfl ?_
  refine z_iconst hC (v := nI 1) (by decide) dL_law_645 ?_
  refine z_iadd hC dL_law_646 ?_
  refine z_sldc hC hX hbl hbA (i := i) (c := 1) (by omega) hLs dL_law_647 ?_
  refine z_aload_n hC (q := 1) dL_law_648 rfl rfl ?_
  refine z_iload hC (q := 0) dL_law_649 rfl ?_
  refine z_iconst hC (v := nI 2) (by decide) dL_law_651 ?_
  refine z_iadd hC dL_law_652 ?_
  refine z_sldc hC hX hbl hbA (i := i) (c := 2) (by omega) hLs dL_law_653 ?_
  refine z_aload_n hC (q := 4) dL_law_654 rfl rfl ?_
  refine z_callSX (As := [.ref x, .int (xs (i + 1)), .int (xs (i + 2)), .ref z]) (rest := []) hC hZ (c_L_value X.2.1 hfl G ⟨hz15, hz1⟩ hpx (c_X11_value X.2.1 hfl G (QR := fun v J => CPL₁ K N J L R x m ∧ vlN₁ (J (m + 2)) (macV (J (m + 2))) (xs (i + 1)) (xs (i + 2)) ∧ v = (lokS (J (m + 2)) (macV (J (m + 2))) (xs (i + 1)) (xs (i + 2))).2) (QT := fun J => CPL₁ K N J L R x m ∧ ¬ vlN₁ (J (m + 2)) (macV (J (m + 2))) (xs (i + 1)) (xs (i + 2))) (cpG₁ hq).1 (cs_value hq))) (z_gSW ml_RL_78 sm_L_value ini_RL cw_L_value) ⟨rfl, rfl⟩ dL_law_655 (na := 4) (by decide) rfl (by rw [hRm]; exact ⟨Nat.le_of_ble_eq_true rfl, Nat.le_of_ble_eq_true rfl⟩) (by exact ⟨hcs.1, hcs.2⟩) rfl (Nat.le_of_ble_eq_true rfl) ?_
  rintro _ K N I L R ⟨k, rfl, rfl, rfl, hk⟩
  refine z_istore hC (lv1 := [(5, .int k), (4, .int (nI i)), (0, .ref b), (1, .ref x), (2, .ref m), (3, .ref z)]) dL_law_658 (by decide) rfl ?_
  rcases hk with ⟨rfl, rfl, r, rfl, hc1, hc2, hc3⟩ | ⟨rfl, rfl, ⟨nn, hn, rfl⟩, hc1, hc2⟩
  · have hq1 := CPL_n (N1₁ := N) (L1₁ := mup _ z 0 r.toInt64) hc1 (fun _ _ => rfl) (fun c hc => mup_ne (by omega))
    refine z_aload_n hC (q := 4) dL_law_660 rfl rfl ?_
    refine z_aload_n hC (q := 2) dL_law_661 rfl rfl ?_
    refine z_iload hC (q := 1) dL_law_662 rfl ?_
    refine z_iconst hC (v := nI 1) (by decide) dL_law_664 ?_
    refine z_iadd hC dL_law_665 ?_
    refine z_sldc hC hX hbl hbA (i := i) (c := 1) (by omega) hLs dL_law_666 ?_
    refine z_aload_n hC (q := 2) dL_law_667 rfl rfl ?_
    refine z_iload hC (q := 1) dL_law_668 rfl ?_
    refine z_iconst hC (v := nI 2) (by decide) dL_law_670 ?_
    refine z_iadd hC dL_law_671 ?_
    refine z_sldc hC hX hbl hbA (i := i) (c := 2) (by omega) hLs dL_law_672 ?_
    refine z_callV (As := [.int (xs (i + 1)), .int (xs (i + 2))]) (rest := []) hC (c_X12_value _ _ _ _ _ _ _ _ _ _ _ (csr_value hq1 (Q₁ := fun v J => v = r ∧ J m 0 = 0 ∧ CPL₁ _ _ J _ _ x m) (fun hno => absurd hc2 hno) (fun _ J j0 hc => ⟨hc3.symm, j0, hc⟩))) (z_gV ml_RL_83 im_X12_value se_X12_value ini_RX12 co_X12_value) z_cls12 hpm ⟨rfl, rfl⟩ dL_law_673 (na := 2) (by decide) rfl (by rw [hRm]; exact ⟨Nat.le_of_ble_eq_true rfl, Nat.le_of_ble_eq_true rfl⟩) (by exact ⟨by omega, by omega⟩) rfl (Nat.le_of_ble_eq_true rfl) ?_
    rintro _ K N I L R ⟨r2, rfl, rfl, rfl, rfl, rfl, ⟨rfl, j0, hcpl⟩⟩
    refine z_istore hC (lv1 := [(6, .int r2), (5, .int 0), (4, .int (nI i)), (0, .ref b), (1, .ref x), (2, .ref m), (3, .ref z)]) dL_law_676 (by decide) rfl ?_
    refine z_aload_n hC (q := 5) dL_law_678 rfl rfl ?_
    refine z_callV (As := []) (rest := []) hC (c_X12_thrown _ _ _ _ _ _ _ _ (fun v => v = I m 0) ⟨(cpG₁ hcpl).2.1.k, rfl⟩) (z_gV ml_RL_84 im_X12_thrown se_X12_thrown ini_RX12 co_X12_thrown) z_cls12 hpm ⟨rfl, rfl⟩ dL_law_679 (na := 0) (by decide) rfl (by rw [hRm]; exact ⟨Nat.le_of_ble_eq_true rfl, Nat.le_of_ble_eq_true rfl⟩) (by exact ⟨by omega, by omega⟩) rfl (Nat.le_of_ble_eq_true rfl) ?_
    rintro _ K N I L R ⟨r3, rfl, rfl, rfl, rfl, rfl, rfl, e3⟩
    refine z_iload hC (q := 1) dL_law_682 rfl ?_
    refine z_icmp_eq hC (tgt := 689) dL_law_684 (by decide) (fun _ => ?_) (fun hc => absurd (e3.trans j0) hc)
    refine z_iload hC (q := 1) dL_law_689 rfl ?_
    refine z_if_ne hC (tgt := 706) dL_law_691 (by decide) (fun hc => absurd rfl hc) (fun _ => ?_)
    refine z_aload_n hC (q := 6) dL_law_694 rfl rfl ?_
    refine z_iconst hC (v := 0) (by decide) dL_law_695 ?_
    refine z_laload hC hz15 (by rw [hz1]; exact (vp_nI (by decide)).2 (by decide)) dL_law_696 ?_
    refine z_iload hC (q := 0) dL_law_697 rfl ?_
    refine z_i2l hC dL_law_699 ?_
    refine z_lcmp hC dL_law_700 ?_
    rw [show ix (0 : Int32) = 0 from rfl, mup_at, lw_cmp0]
    refine z_if_eq hC (tgt := 706) dL_law_701 (by decide) (fun _ => ?_) (fun hc => absurd rfl hc)
    refine z_goto hC (tgt := 1490) dL_law_706 (by decide) ?_
    exact z_sub [(4, .int (nI i)), (0, .ref b), (1, .ref x), (2, .ref m), (3, .ref z)] [2, 3, 4, 5, 6] rfl (kk _ _ _ _ _ _ _ (by omega) (by omega) ⟨hcpl, hz15, hz1, hzm⟩)
  · have hz1 : kup _ 0 nn z = 1 := (kup_ne (by omega)).trans hz1
    have hq1 := CPL_n (N1₁ := kup _ 0 nn) hc1 (fun c hc => kup_ne hc) (fun _ _ => rfl)
    refine z_aload_n hC (q := 4) dL_law_660 rfl rfl ?_
    refine z_aload_n hC (q := 2) dL_law_661 rfl rfl ?_
    refine z_iload hC (q := 1) dL_law_662 rfl ?_
    refine z_iconst hC (v := nI 1) (by decide) dL_law_664 ?_
    refine z_iadd hC dL_law_665 ?_
    refine z_sldc hC hX hbl hbA (i := i) (c := 1) (by omega) hLs dL_law_666 ?_
    refine z_aload_n hC (q := 2) dL_law_667 rfl rfl ?_
    refine z_iload hC (q := 1) dL_law_668 rfl ?_
    refine z_iconst hC (v := nI 2) (by decide) dL_law_670 ?_
    refine z_iadd hC dL_law_671 ?_
    refine z_sldc hC hX hbl hbA (i := i) (c := 2) (by omega) hLs dL_law_672 ?_
    refine z_callV (As := [.int (xs (i + 1)), .int (xs (i + 2))]) (rest := []) hC (c_X12_value _ _ _ _ _ _ _ _ _ _ _ (csr_value hq1 (Q₁ := fun v J => J m 0 = 1 ∧ CPL₁ _ _ J _ _ x m) (fun _ J j0 hc => ⟨j0, hc⟩) (fun hno => absurd hno hc2))) (z_gV ml_RL_83 im_X12_value se_X12_value ini_RX12 co_X12_value) z_cls12 hpm ⟨rfl, rfl⟩ dL_law_673 (na := 2) (by decide) rfl (by rw [hRm]; exact ⟨Nat.le_of_ble_eq_true rfl, Nat.le_of_ble_eq_true rfl⟩) (by exact ⟨by omega, by omega⟩) rfl (Nat.le_of_ble_eq_true rfl) ?_
    rintro _ K N I L R ⟨r2, rfl, rfl, rfl, rfl, rfl, ⟨j0, hcpl⟩⟩
    refine z_istore hC (lv1 := [(6, .int r2), (5, .int 1), (4, .int (nI i)), (0, .ref b), (1, .ref x), (2, .ref m), (3, .ref z)]) dL_law_676 (by decide) rfl ?_
    refine z_aload_n hC (q := 5) dL_law_678 rfl rfl ?_
    refine z_callV (As := []) (rest := []) hC (c_X12_thrown _ _ _ _ _ _ _ _ (fun v => v = I m 0) ⟨(cpG₁ hcpl).2.1.k, rfl⟩) (z_gV ml_RL_84 im_X12_thrown se_X12_thrown ini_RX12 co_X12_thrown) z_cls12 hpm ⟨rfl, rfl⟩ dL_law_679 (na := 0) (by decide) rfl (by rw [hRm]; exact ⟨Nat.le_of_ble_eq_true rfl, Nat.le_of_ble_eq_true rfl⟩) (by exact ⟨by omega, by omega⟩) rfl (Nat.le_of_ble_eq_true rfl) ?_
    rintro _ K N I L R ⟨r3, rfl, rfl, rfl, rfl, rfl, rfl, e3⟩
    refine z_iload hC (q := 1) dL_law_682 rfl ?_
    refine z_icmp_eq hC (tgt := 689) dL_law_684 (by decide) (fun _ => ?_) (fun hc => absurd (e3.trans j0) hc)
    refine z_iload hC (q := 1) dL_law_689 rfl ?_
    refine z_if_ne hC (tgt := 706) dL_law_691 (by decide) (fun _ => ?_) (fun hc => absurd hc (by decide))
    refine z_goto hC (tgt := 1490) dL_law_706 (by decide) ?_
    exact z_sub [(4, .int (nI i)), (0, .ref b), (1, .ref x), (2, .ref m), (3, .ref z)] [2, 3, 4, 5, 6] rfl (kk _ _ _ _ _ _ _ (by omega) (by omega) ⟨hcpl, hz15, hz1, hzm⟩)
set_option maxHeartbeats 2000000 in
set_option maxRecDepth 20000 in
theorem lw_c31 {X : ZX} {G : ZG} {Qf : State → Prop} {b Ls i x m z mc ms : Nat} {xs : Nat → Int32} {K N : MK} {I : MI} {L : ML} {R : MR} (hC : ZOk X G RL cL_law 7 (some .boolean)) (hZ : zxS G X.2.2.2.2.1) (hfl : X.2.1.stackTraces = false) (hRm : X.2.2.2.1 = room_1) (hX : va_X b Ls xs X.2.2.2.2.1 X.2.2.2.2.1.heap) (hbl : b < X.2.2.2.2.1.heap.size) (hbA : ¬ z_A G b) (hi : i + 6 ≤ Ls) (hLs : Ls ≤ 3072) (hcs : mc + 1 ≤ X.2.2.2.1.cells ∧ ms + 6 ≤ X.2.2.2.1.slots) (h : LINV K N I L R x m z)
    (kk : ∀ (mc1 ms1 : Nat) (K N : MK) (I : MI) (L : ML) (R : MR), mc1 ≤ mc + 1 → ms1 ≤ ms + 6 → LINV K N I L R x m z → Z X G 7 mc1 ms1 Qf K N I L R 1490 [(4, .int (nI i)), (0, .ref b), (1, .ref x), (2, .ref m), (3, .ref z)] []) : Z X G 7 mc ms Qf K N I L R 1110 [(4, .int (nI i)), (0, .ref b), (1, .ref x), (2, .ref m), (3, .ref z)] [] := by
  have hpx := (cpG₁ h.1).1.k
  have hpm := (cpG₁ h.1).2.1.k
  obtain ⟨hq, hz15, hz1, hzm⟩ := h
  refine z_aload_n hC (q := 2) dL_law_1110 rfl rfl ?_
  refine z_aload_n hC (q := 1) dL_law_1111 rfl rfl ?_
  refine z_iload hC (q := 0) dL_law_1112 rfl ?_
  refine z_iconst hC (v := nI 1) (by decide) dL_law_1114 ?_
  refine z_iadd hC dL_law_1115 ?_
  refine z_sldc hC hX hbl hbA (i := i) (c := 1) (by omega) hLs dL_law_1116 ?_
  refine z_aload_n hC (q := 1) dL_law_1117 rfl rfl ?_
  refine z_iload hC (q := 0) dL_law_1118 rfl ?_
  refine z_iconst hC (v := nI 2) (by decide) dL_law_1120 ?_
  refine z_iadd hC dL_law_1121 ?_
  refine z_sldc hC hX hbl hbA (i := i) (c := 2) (by omega) hLs dL_law_1122 ?_
  refine z_aload_n hC (q := 4) dL_law_1123 rfl rfl ?_
  refine z_callSX (As := [.ref x, .int (xs (i + 1)), .int (xs (i + 2)), .ref z]) (rest := []) hC hZ (c_L_cover X.2.1 hfl G ⟨hz15, hz1⟩ hpx (c_X11_cover X.2.1 hfl G (QR := fun v J => CPL₁ K N J L R x m ∧ (inN (xs (i + 1)) (ix (J (m + 2) 4)) = true ∧ inN (xs (i + 2)) 2 = true) ∧ v = cvA₁ (J (m + 2)) (xs (i + 1)) (xs (i + 2))) (QT := fun J => CPL₁ K N J L R x m ∧ ¬ (inN (xs (i + 1)) (ix (J (m + 2) 4)) = true ∧ inN (xs (i + 2)) 2 = true)) (cpG₁ hq).1 (cs_cover hq))) (z_gSW ml_RL_155 sm_L_cover ini_RL cw_L_cover) ⟨rfl, rfl⟩ dL_law_1124 (na := 4) (by decide) rfl (by rw [hRm]; exact ⟨Nat.le_of_ble_eq_true rfl, Nat.le_of_ble_eq_true rfl⟩) (by exact ⟨hcs.1, hcs.2⟩) rfl (Nat.le_of_ble_eq_true rfl) ?_
  rintro _ K N I L R ⟨k, rfl, rfl, rfl, hk⟩
  refine z_istore hC (lv1 := [(5, .int k), (4, .int (nI i)), (0, .ref b), (1, .ref x), (2, .ref m), (3, .ref z)]) dL_law_1127 (by decide) rfl ?_
  rcases hk with ⟨rfl, rfl, r, rfl, hc1, hc2, hc3⟩ | ⟨rfl, rfl, ⟨nn, hn, rfl⟩, hc1, hc2⟩
  · have hq1 := CPL_n (N1₁ := N) (L1₁ := mup _ z 0 r.toInt64) hc1 (fun _ _ => rfl) (fun c hc => mup_ne (by omega))
    refine z_aload_n hC (q := 4) dL_law_1129 rfl rfl ?_
    refine z_aload_n hC (q := 2) dL_law_1130 rfl rfl ?_
    refine z_iload hC (q := 1) dL_law_1131 rfl ?_
    refine z_iconst hC (v := nI 1) (by decide) dL_law_1133 ?_
    refine z_iadd hC dL_law_1134 ?_
    refine z_sldc hC hX hbl hbA (i := i) (c := 1) (by omega) hLs dL_law_1135 ?_
    refine z_aload_n hC (q := 2) dL_law_1136 rfl rfl ?_
    refine z_iload hC (q := 1) dL_law_1137 rfl ?_
    refine z_iconst hC (v := nI 2) (by decide) dL_law_1139 ?_
    refine z_iadd hC dL_law_1140 ?_
    refine z_sldc hC hX hbl hbA (i := i) (c := 2) (by omega) hLs dL_law_1141 ?_
    refine z_callV (As := [.int (xs (i + 1)), .int (xs (i + 2))]) (rest := []) hC (c_X12_cover _ _ _ _ _ _ _ _ _ _ _ (csr_cover hq1 (Q₁ := fun v J => v = r ∧ J m 0 = 0 ∧ CPL₁ _ _ J _ _ x m) (fun hno => absurd hc2 hno) (fun _ J j0 hc => ⟨hc3.symm, j0, hc⟩))) (z_gV ml_RL_157 im_X12_cover se_X12_cover ini_RX12 co_X12_cover) z_cls12 hpm ⟨rfl, rfl⟩ dL_law_1142 (na := 2) (by decide) rfl (by rw [hRm]; exact ⟨Nat.le_of_ble_eq_true rfl, Nat.le_of_ble_eq_true rfl⟩) (by exact ⟨by omega, by omega⟩) rfl (Nat.le_of_ble_eq_true rfl) ?_
    rintro _ K N I L R ⟨r2, rfl, rfl, rfl, rfl, rfl, ⟨rfl, j0, hcpl⟩⟩
    refine z_istore hC (lv1 := [(6, .int r2), (5, .int 0), (4, .int (nI i)), (0, .ref b), (1, .ref x), (2, .ref m), (3, .ref z)]) dL_law_1145 (by decide) rfl ?_
    refine z_aload_n hC (q := 5) dL_law_1147 rfl rfl ?_
    refine z_callV (As := []) (rest := []) hC (c_X12_thrown _ _ _ _ _ _ _ _ (fun v => v = I m 0) ⟨(cpG₁ hcpl).2.1.k, rfl⟩) (z_gV ml_RL_84 im_X12_thrown se_X12_thrown ini_RX12 co_X12_thrown) z_cls12 hpm ⟨rfl, rfl⟩ dL_law_1148 (na := 0) (by decide) rfl (by rw [hRm]; exact ⟨Nat.le_of_ble_eq_true rfl, Nat.le_of_ble_eq_true rfl⟩) (by exact ⟨by omega, by omega⟩) rfl (Nat.le_of_ble_eq_true rfl) ?_
    rintro _ K N I L R ⟨r3, rfl, rfl, rfl, rfl, rfl, rfl, e3⟩
    refine z_iload hC (q := 1) dL_law_1151 rfl ?_
    refine z_icmp_eq hC (tgt := 1158) dL_law_1153 (by decide) (fun _ => ?_) (fun hc => absurd (e3.trans j0) hc)
    refine z_iload hC (q := 1) dL_law_1158 rfl ?_
    refine z_if_ne hC (tgt := 1175) dL_law_1160 (by decide) (fun hc => absurd rfl hc) (fun _ => ?_)
    refine z_aload_n hC (q := 6) dL_law_1163 rfl rfl ?_
    refine z_iconst hC (v := 0) (by decide) dL_law_1164 ?_
    refine z_laload hC hz15 (by rw [hz1]; exact (vp_nI (by decide)).2 (by decide)) dL_law_1165 ?_
    refine z_iload hC (q := 0) dL_law_1166 rfl ?_
    refine z_i2l hC dL_law_1168 ?_
    refine z_lcmp hC dL_law_1169 ?_
    rw [show ix (0 : Int32) = 0 from rfl, mup_at, lw_cmp0]
    refine z_if_eq hC (tgt := 1175) dL_law_1170 (by decide) (fun _ => ?_) (fun hc => absurd rfl hc)
    refine z_goto hC (tgt := 1490) dL_law_1175 (by decide) ?_
    exact z_sub [(4, .int (nI i)), (0, .ref b), (1, .ref x), (2, .ref m), (3, .ref z)] [2, 3, 4, 5, 6] rfl (kk _ _ _ _ _ _ _ (by omega) (by omega) ⟨hcpl, hz15, hz1, hzm⟩)
  · have hz1 : kup _ 0 nn z = 1 := (kup_ne (by omega)).trans hz1
    have hq1 := CPL_n (N1₁ := kup _ 0 nn) hc1 (fun c hc => kup_ne hc) (fun _ _ => rfl)
    refine z_aload_n hC (q := 4) dL_law_1129 rfl rfl ?_
    refine z_aload_n hC (q := 2) dL_law_1130 rfl rfl ?_
    refine z_iload hC (q := 1) dL_law_1131 rfl ?_
    refine z_iconst hC (v := nI 1) (by decide) dL_law_1133 ?_
    refine z_iadd hC dL_law_1134 ?_
    refine z_sldc hC hX hbl hbA (i := i) (c := 1) (by omega) hLs dL_law_1135 ?_
    refine z_aload_n hC (q := 2) dL_law_1136 rfl rfl ?_
    refine z_iload hC (q := 1) dL_law_1137 rfl ?_
    refine z_iconst hC (v := nI 2) (by decide) dL_law_1139 ?_
    refine z_iadd hC dL_law_1140 ?_
    refine z_sldc hC hX hbl hbA (i := i) (c := 2) (by omega) hLs dL_law_1141 ?_
    refine z_callV (As := [.int (xs (i + 1)), .int (xs (i + 2))]) (rest := []) hC (c_X12_cover _ _ _ _ _ _ _ _ _ _ _ (csr_cover hq1 (Q₁ := fun v J => J m 0 = 1 ∧ CPL₁ _ _ J _ _ x m) (fun _ J j0 hc => ⟨j0, hc⟩) (fun hno => absurd hno hc2))) (z_gV ml_RL_157 im_X12_cover se_X12_cover ini_RX12 co_X12_cover) z_cls12 hpm ⟨rfl, rfl⟩ dL_law_1142 (na := 2) (by decide) rfl (by rw [hRm]; exact ⟨Nat.le_of_ble_eq_true rfl, Nat.le_of_ble_eq_true rfl⟩) (by exact ⟨by omega, by omega⟩) rfl (Nat.le_of_ble_eq_true rfl) ?_
    rintro _ K N I L R ⟨r2, rfl, rfl, rfl, rfl, rfl, ⟨j0, hcpl⟩⟩
    refine z_istore hC (lv1 := [(6, .int r2), (5, .int 1), (4, .int (nI i)), (0, .ref b), (1, .ref x), (2, .ref m), (3, .ref z)]) dL_law_1145 (by decide) rfl ?_
    refine z_aload_n hC (q := 5) dL_law_1147 rfl rfl ?_
    refine z_callV (As := []) (rest := []) hC (c_X12_thrown _ _ _ _ _ _ _ _ (fun v => v = I m 0) ⟨(cpG₁ hcpl).2.1.k, rfl⟩) (z_gV ml_RL_84 im_X12_thrown se_X12_thrown ini_RX12 co_X12_thrown) z_cls12 hpm ⟨rfl, rfl⟩ dL_law_1148 (na := 0) (by decide) rfl (by rw [hRm]; exact ⟨Nat.le_of_ble_eq_true rfl, Nat.le_of_ble_eq_true rfl⟩) (by exact ⟨by omega, by omega⟩) rfl (Nat.le_of_ble_eq_true rfl) ?_
    rintro _ K N I L R ⟨r3, rfl, rfl, rfl, rfl, rfl, rfl, e3⟩
    refine z_iload hC (q := 1) dL_law_1151 rfl ?_
    refine z_icmp_eq hC (tgt := 1158) dL_law_1153 (by decide) (fun _ => ?_) (fun hc => absurd (e3.trans j0) hc)
    refine z_iload hC (q := 1) dL_law_1158 rfl ?_
    refine z_if_ne hC (tgt := 1175) dL_law_1160 (by decide) (fun _ => ?_) (fun hc => absurd hc (by decide))
    refine z_goto hC (tgt := 1490) dL_law_1175 (by decide) ?_
    exact z_sub [(4, .int (nI i)), (0, .ref b), (1, .ref x), (2, .ref m), (3, .ref z)] [2, 3, 4, 5, 6] rfl (kk _ _ _ _ _ _ _ (by omega) (by omega) ⟨hcpl, hz15, hz1, hzm⟩)
