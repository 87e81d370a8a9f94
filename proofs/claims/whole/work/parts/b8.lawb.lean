set_option maxHeartbeats 2000000 in
set_option maxRecDepth 20000 in
theorem lw_c14 {X : ZX} {G : ZG} {Qf : State → Prop} {b Ls i x m z mc ms : Nat} {xs : Nat → Int32} {K N : MK} {I : MI} {L : ML} {R : MR} (hC : ZOk X G RL cL_law 7 (some .boolean)) (hZ : zxS G X.2.2.2.2.1) (hfl : X.2.1.stackTraces = false) (hRm : X.2.2.2.1 = room_1) (hX : va_X b Ls xs X.2.2.2.2.1 X.2.2.2.2.1.heap) (hbl : b < X.2.2.2.2.1.heap.size) (hbA : ¬ z_A G b) (hi : i + 6 ≤ Ls) (hLs : Ls ≤ 3072) (hcs : mc + 1 ≤ X.2.2.2.1.cells ∧ ms + 6 ≤ X.2.2.2.1.slots) (h : LINV K N I L R x m z)
    (kk : ∀ (mc1 ms1 : Nat) (K N : MK) (I : MI) (L : ML) (R : MR), mc1 ≤ mc + 1 → ms1 ≤ ms + 6 → LINV K N I L R x m z → Z X G 7 mc1 ms1 Qf K N I L R 1490 [(4, .int (nI i)), (0, .ref b), (1, .ref x), (2, .ref m), (3, .ref z)] []) : Z X G 7 mc ms Qf K N I L R 709 [(4, .int (nI i)), (0, .ref b), (1, .ref x), (2, .ref m), (3, .ref z)] [] := by
  have hpm := (cpG₁ h.1).2.1.k
  refine z_aload_n hC (q := 2) dL_law_709 rfl rfl ?_
  refine z_aload_n hC (q := 1) dL_law_710 rfl rfl ?_
  refine z_iload hC (q := 0) dL_law_711 rfl ?_
  refine z_iconst hC (v := nI 1) (by decide) dL_law_713 ?_
  refine z_iadd hC dL_law_714 ?_
  refine z_sldc hC hX hbl hbA (i := i) (c := 1) (by omega) hLs dL_law_715 ?_
  refine z_aload_n hC (q := 1) dL_law_716 rfl rfl ?_
  refine z_iload hC (q := 0) dL_law_717 rfl ?_
  refine z_iconst hC (v := nI 2) (by decide) dL_law_719 ?_
  refine z_iadd hC dL_law_720 ?_
  refine z_sldc hC hX hbl hbA (i := i) (c := 2) (by omega) hLs dL_law_721 ?_
  have hpx := (cpG₁ h.1).1.k
  refine z_callV (As := [.int (xs (i + 1)), .int (xs (i + 2))]) (rest := []) hC (c_X11_why _ _ _ _ _ _ _ _ _ _ _ (cs_why h.1)) (z_gV ml_RL_87 im_X11_why se_X11_why ini_RX11 co_X11_why) z_cls11 hpx ⟨rfl, rfl⟩ dL_law_722 (na := 2) (by decide) rfl (by rw [hRm]; exact ⟨Nat.le_of_ble_eq_true rfl, Nat.le_of_ble_eq_true rfl⟩) (by exact ⟨by omega, by omega⟩) rfl (Nat.le_of_ble_eq_true rfl) ?_
  rintro _ K N I L R ⟨r1, rfl, rfl, rfl, rfl, rfl, hw⟩
  refine z_aload_n hC (q := 3) dL_law_725 rfl rfl ?_
  refine z_aload_n hC (q := 1) dL_law_726 rfl rfl ?_
  refine z_iload hC (q := 0) dL_law_727 rfl ?_
  refine z_iconst hC (v := nI 1) (by decide) dL_law_729 ?_
  refine z_iadd hC dL_law_730 ?_
  refine z_sldc hC hX hbl hbA (i := i) (c := 1) (by omega) hLs dL_law_731 ?_
  refine z_aload_n hC (q := 1) dL_law_732 rfl rfl ?_
  refine z_iload hC (q := 0) dL_law_733 rfl ?_
  refine z_iconst hC (v := nI 2) (by decide) dL_law_735 ?_
  refine z_iadd hC dL_law_736 ?_
  refine z_sldc hC hX hbl hbA (i := i) (c := 2) (by omega) hLs dL_law_737 ?_
  refine z_callV (As := [.int (xs (i + 1)), .int (xs (i + 2))]) (rest := [.int r1]) hC (c_X12_why _ _ _ _ _ _ _ _ _ _ _ hw) (z_gV ml_RL_90 im_X12_why se_X12_why ini_RX12 co_X12_why) z_cls12 hpm ⟨rfl, rfl⟩ dL_law_738 (na := 2) (by decide) rfl (by rw [hRm]; exact ⟨Nat.le_of_ble_eq_true rfl, Nat.le_of_ble_eq_true rfl⟩) (by exact ⟨by omega, by omega⟩) rfl (Nat.le_of_ble_eq_true rfl) ?_
  rintro _ K N I L R ⟨r2, rfl, rfl, rfl, rfl, rfl, ⟨hr, hcpl⟩⟩
  refine z_icmp_eq hC (tgt := 1490) dL_law_741 (by decide) (fun _ => ?_) (fun hc => absurd (by rw [hr]) hc)
  exact kk _ _ _ _ _ _ _ (by omega) (by omega) ⟨hcpl, h.2⟩
set_option maxHeartbeats 2000000 in
set_option maxRecDepth 20000 in
theorem lw_c15 {X : ZX} {G : ZG} {Qf : State → Prop} {b Ls i x m z mc ms : Nat} {xs : Nat → Int32} {K N : MK} {I : MI} {L : ML} {R : MR} (hC : ZOk X G RL cL_law 7 (some .boolean)) (hZ : zxS G X.2.2.2.2.1) (hfl : X.2.1.stackTraces = false) (hRm : X.2.2.2.1 = room_1) (hX : va_X b Ls xs X.2.2.2.2.1 X.2.2.2.2.1.heap) (hbl : b < X.2.2.2.2.1.heap.size) (hbA : ¬ z_A G b) (hi : i + 6 ≤ Ls) (hLs : Ls ≤ 3072) (hcs : mc + 1 ≤ X.2.2.2.1.cells ∧ ms + 6 ≤ X.2.2.2.1.slots) (h : LINV K N I L R x m z)
    (kk : ∀ (mc1 ms1 : Nat) (K N : MK) (I : MI) (L : ML) (R : MR), mc1 ≤ mc + 1 → ms1 ≤ ms + 6 → LINV K N I L R x m z → Z X G 7 mc1 ms1 Qf K N I L R 1490 [(4, .int (nI i)), (0, .ref b), (1, .ref x), (2, .ref m), (3, .ref z)] []) : Z X G 7 mc ms Qf K N I L R 746 [(4, .int (nI i)), (0, .ref b), (1, .ref x), (2, .ref m), (3, .ref z)] [] := by
  have hpm := (cpG₁ h.1).2.1.k
  refine z_aload_n hC (q := 2) dL_law_746 rfl rfl ?_
  refine z_aload_n hC (q := 1) dL_law_747 rfl rfl ?_
  refine z_iload hC (q := 0) dL_law_748 rfl ?_
  refine z_iconst hC (v := nI 1) (by decide) dL_law_750 ?_
  refine z_iadd hC dL_law_751 ?_
  refine z_sldc hC hX hbl hbA (i := i) (c := 1) (by omega) hLs dL_law_752 ?_
  have hpx := (cpG₁ h.1).1.k
  refine z_callV (As := [.int (xs (i + 1))]) (rest := []) hC (c_X11_now _ _ _ _ _ _ _ _ _ _ (cs_now h.1)) (z_gV ml_RL_91 im_X11_now se_X11_now ini_RX11 co_X11_now) z_cls11 hpx ⟨rfl, rfl⟩ dL_law_753 (na := 1) (by decide) rfl (by rw [hRm]; exact ⟨Nat.le_of_ble_eq_true rfl, Nat.le_of_ble_eq_true rfl⟩) (by exact ⟨by omega, by omega⟩) rfl (Nat.le_of_ble_eq_true rfl) ?_
  rintro _ K N I L R ⟨r1, rfl, rfl, rfl, rfl, rfl, hw⟩
  refine z_aload_n hC (q := 3) dL_law_756 rfl rfl ?_
  refine z_aload_n hC (q := 1) dL_law_757 rfl rfl ?_
  refine z_iload hC (q := 0) dL_law_758 rfl ?_
  refine z_iconst hC (v := nI 1) (by decide) dL_law_760 ?_
  refine z_iadd hC dL_law_761 ?_
  refine z_sldc hC hX hbl hbA (i := i) (c := 1) (by omega) hLs dL_law_762 ?_
  refine z_callV (As := [.int (xs (i + 1))]) (rest := [.int r1]) hC (c_X12_now _ _ _ _ _ _ _ _ _ _ hw) (z_gV ml_RL_94 im_X12_now se_X12_now ini_RX12 co_X12_now) z_cls12 hpm ⟨rfl, rfl⟩ dL_law_763 (na := 1) (by decide) rfl (by rw [hRm]; exact ⟨Nat.le_of_ble_eq_true rfl, Nat.le_of_ble_eq_true rfl⟩) (by exact ⟨by omega, by omega⟩) rfl (Nat.le_of_ble_eq_true rfl) ?_
  rintro _ K N I L R ⟨r2, rfl, rfl, rfl, rfl, rfl, ⟨hr, hcpl⟩⟩
  refine z_icmp_eq hC (tgt := 1490) dL_law_766 (by decide) (fun _ => ?_) (fun hc => absurd (by rw [hr]) hc)
  exact kk _ _ _ _ _ _ _ (by omega) (by omega) ⟨hcpl, h.2⟩
set_option maxHeartbeats 2000000 in
set_option maxRecDepth 20000 in
theorem lw_c16 {X : ZX} {G : ZG} {Qf : State → Prop} {b Ls i x m z mc ms : Nat} {xs : Nat → Int32} {K N : MK} {I : MI} {L : ML} {R : MR} (hC : ZOk X G RL cL_law 7 (some .boolean)) (hZ : zxS G X.2.2.2.2.1) (hfl : X.2.1.stackTraces = false) (hRm : X.2.2.2.1 = room_1) (hX : va_X b Ls xs X.2.2.2.2.1 X.2.2.2.2.1.heap) (hbl : b < X.2.2.2.2.1.heap.size) (hbA : ¬ z_A G b) (hi : i + 6 ≤ Ls) (hLs : Ls ≤ 3072) (hcs : mc + 1 ≤ X.2.2.2.1.cells ∧ ms + 6 ≤ X.2.2.2.1.slots) (h : LINV K N I L R x m z)
    (kk : ∀ (mc1 ms1 : Nat) (K N : MK) (I : MI) (L : ML) (R : MR), mc1 ≤ mc + 1 → ms1 ≤ ms + 6 → LINV K N I L R x m z → Z X G 7 mc1 ms1 Qf K N I L R 1490 [(4, .int (nI i)), (0, .ref b), (1, .ref x), (2, .ref m), (3, .ref z)] []) : Z X G 7 mc ms Qf K N I L R 771 [(4, .int (nI i)), (0, .ref b), (1, .ref x), (2, .ref m), (3, .ref z)] [] := by
  have hpm := (cpG₁ h.1).2.1.k
  refine z_aload_n hC (q := 2) dL_law_771 rfl rfl ?_
  refine z_aload_n hC (q := 1) dL_law_772 rfl rfl ?_
  refine z_iload hC (q := 0) dL_law_773 rfl ?_
  refine z_iconst hC (v := nI 1) (by decide) dL_law_775 ?_
  refine z_iadd hC dL_law_776 ?_
  refine z_sldc hC hX hbl hbA (i := i) (c := 1) (by omega) hLs dL_law_777 ?_
  have hpx := (cpG₁ h.1).1.k
  refine z_callV (As := [.int (xs (i + 1))]) (rest := []) hC (c_X11_register _ _ _ _ _ _ _ _ _ _ (cs_register h.1)) (z_gV ml_RL_95 im_X11_register se_X11_register ini_RX11 co_X11_register) z_cls11 hpx ⟨rfl, rfl⟩ dL_law_778 (na := 1) (by decide) rfl (by rw [hRm]; exact ⟨Nat.le_of_ble_eq_true rfl, Nat.le_of_ble_eq_true rfl⟩) (by exact ⟨by omega, by omega⟩) rfl (Nat.le_of_ble_eq_true rfl) ?_
  rintro _ K N I L R ⟨r1, rfl, rfl, rfl, rfl, rfl, rfl, hw⟩
  refine z_aload_n hC (q := 3) dL_law_781 rfl rfl ?_
  refine z_aload_n hC (q := 1) dL_law_782 rfl rfl ?_
  refine z_iload hC (q := 0) dL_law_783 rfl ?_
  refine z_iconst hC (v := nI 1) (by decide) dL_law_785 ?_
  refine z_iadd hC dL_law_786 ?_
  refine z_sldc hC hX hbl hbA (i := i) (c := 1) (by omega) hLs dL_law_787 ?_
  refine z_callV (As := [.int (xs (i + 1))]) (rest := [.int r1]) hC (c_X12_register _ _ _ _ _ _ _ _ _ _ hw) (z_gV ml_RL_98 im_X12_register se_X12_register ini_RX12 co_X12_register) z_cls12 hpm ⟨rfl, rfl⟩ dL_law_788 (na := 1) (by decide) rfl (by rw [hRm]; exact ⟨Nat.le_of_ble_eq_true rfl, Nat.le_of_ble_eq_true rfl⟩) (by exact ⟨by omega, by omega⟩) rfl (Nat.le_of_ble_eq_true rfl) ?_
  rintro _ K N I L R ⟨r2, rfl, rfl, rfl, rfl, rfl, ⟨hr, hcpl⟩⟩
  refine z_icmp_eq hC (tgt := 1490) dL_law_791 (by decide) (fun _ => ?_) (fun hc => absurd (by rw [hr]) hc)
  exact kk _ _ _ _ _ _ _ (by omega) (by omega) ⟨hcpl, h.2⟩
set_option maxHeartbeats 2000000 in
set_option maxRecDepth 20000 in
theorem lw_c17 {X : ZX} {G : ZG} {Qf : State → Prop} {b Ls i x m z mc ms : Nat} {xs : Nat → Int32} {K N : MK} {I : MI} {L : ML} {R : MR} (hC : ZOk X G RL cL_law 7 (some .boolean)) (hZ : zxS G X.2.2.2.2.1) (hfl : X.2.1.stackTraces = false) (hRm : X.2.2.2.1 = room_1) (hX : va_X b Ls xs X.2.2.2.2.1 X.2.2.2.2.1.heap) (hbl : b < X.2.2.2.2.1.heap.size) (hbA : ¬ z_A G b) (hi : i + 6 ≤ Ls) (hLs : Ls ≤ 3072) (hcs : mc + 1 ≤ X.2.2.2.1.cells ∧ ms + 6 ≤ X.2.2.2.1.slots) (h : LINV K N I L R x m z)
    (kk : ∀ (mc1 ms1 : Nat) (K N : MK) (I : MI) (L : ML) (R : MR), mc1 ≤ mc + 1 → ms1 ≤ ms + 6 → LINV K N I L R x m z → Z X G 7 mc1 ms1 Qf K N I L R 1490 [(4, .int (nI i)), (0, .ref b), (1, .ref x), (2, .ref m), (3, .ref z)] []) : Z X G 7 mc ms Qf K N I L R 796 [(4, .int (nI i)), (0, .ref b), (1, .ref x), (2, .ref m), (3, .ref z)] [] := by
  have hpm := (cpG₁ h.1).2.1.k
  refine z_aload_n hC (q := 2) dL_law_796 rfl rfl ?_
  refine z_aload_n hC (q := 1) dL_law_797 rfl rfl ?_
  refine z_iload hC (q := 0) dL_law_798 rfl ?_
  refine z_iconst hC (v := nI 1) (by decide) dL_law_800 ?_
  refine z_iadd hC dL_law_801 ?_
  refine z_sldc hC hX hbl hbA (i := i) (c := 1) (by omega) hLs dL_law_802 ?_
  have hpx := (cpG₁ h.1).1.k
  refine z_callV (As := [.int (xs (i + 1))]) (rest := []) hC (c_X11_memory _ _ _ _ _ _ _ _ _ _ (cs_memory h.1)) (z_gV ml_RL_99 im_X11_memory se_X11_memory ini_RX11 co_X11_memory) z_cls11 hpx ⟨rfl, rfl⟩ dL_law_803 (na := 1) (by decide) rfl (by rw [hRm]; exact ⟨Nat.le_of_ble_eq_true rfl, Nat.le_of_ble_eq_true rfl⟩) (by exact ⟨by omega, by omega⟩) rfl (Nat.le_of_ble_eq_true rfl) ?_
  rintro _ K N I L R ⟨r1, rfl, rfl, rfl, rfl, rfl, rfl, hw⟩
  refine z_aload_n hC (q := 3) dL_law_806 rfl rfl ?_
  refine z_aload_n hC (q := 1) dL_law_807 rfl rfl ?_
  refine z_iload hC (q := 0) dL_law_808 rfl ?_
  refine z_iconst hC (v := nI 1) (by decide) dL_law_810 ?_
  refine z_iadd hC dL_law_811 ?_
  refine z_sldc hC hX hbl hbA (i := i) (c := 1) (by omega) hLs dL_law_812 ?_
  refine z_callV (As := [.int (xs (i + 1))]) (rest := [.int r1]) hC (c_X12_memory _ _ _ _ _ _ _ _ _ _ hw) (z_gV ml_RL_102 im_X12_memory se_X12_memory ini_RX12 co_X12_memory) z_cls12 hpm ⟨rfl, rfl⟩ dL_law_813 (na := 1) (by decide) rfl (by rw [hRm]; exact ⟨Nat.le_of_ble_eq_true rfl, Nat.le_of_ble_eq_true rfl⟩) (by exact ⟨by omega, by omega⟩) rfl (Nat.le_of_ble_eq_true rfl) ?_
  rintro _ K N I L R ⟨r2, rfl, rfl, rfl, rfl, rfl, ⟨hr, hcpl⟩⟩
  refine z_icmp_eq hC (tgt := 1490) dL_law_816 (by decide) (fun _ => ?_) (fun hc => absurd (by rw [hr]) hc)
  exact kk _ _ _ _ _ _ _ (by omega) (by omega) ⟨hcpl, h.2⟩
set_option maxHeartbeats 2000000 in
set_option maxRecDepth 20000 in
theorem lw_c18 {X : ZX} {G : ZG} {Qf : State → Prop} {b Ls i x m z mc ms : Nat} {xs : Nat → Int32} {K N : MK} {I : MI} {L : ML} {R : MR} (hC : ZOk X G RL cL_law 7 (some .boolean)) (hZ : zxS G X.2.2.2.2.1) (hfl : X.2.1.stackTraces = false) (hRm : X.2.2.2.1 = room_1) (hX : va_X b Ls xs X.2.2.2.2.1 X.2.2.2.2.1.heap) (hbl : b < X.2.2.2.2.1.heap.size) (hbA : ¬ z_A G b) (hi : i + 6 ≤ Ls) (hLs : Ls ≤ 3072) (hcs : mc + 1 ≤ X.2.2.2.1.cells ∧ ms + 6 ≤ X.2.2.2.1.slots) (h : LINV K N I L R x m z)
    (kk : ∀ (mc1 ms1 : Nat) (K N : MK) (I : MI) (L : ML) (R : MR), mc1 ≤ mc + 1 → ms1 ≤ ms + 6 → LINV K N I L R x m z → Z X G 7 mc1 ms1 Qf K N I L R 1490 [(4, .int (nI i)), (0, .ref b), (1, .ref x), (2, .ref m), (3, .ref z)] []) : Z X G 7 mc ms Qf K N I L R 821 [(4, .int (nI i)), (0, .ref b), (1, .ref x), (2, .ref m), (3, .ref z)] [] := by
  have hpm := (cpG₁ h.1).2.1.k
  refine z_aload_n hC (q := 2) dL_law_821 rfl rfl ?_
  refine z_aload_n hC (q := 1) dL_law_822 rfl rfl ?_
  refine z_iload hC (q := 0) dL_law_823 rfl ?_
  refine z_iconst hC (v := nI 1) (by decide) dL_law_825 ?_
  refine z_iadd hC dL_law_826 ?_
  refine z_sldc hC hX hbl hbA (i := i) (c := 1) (by omega) hLs dL_law_827 ?_
  refine z_aload_n hC (q := 1) dL_law_828 rfl rfl ?_
  refine z_iload hC (q := 0) dL_law_829 rfl ?_
  refine z_iconst hC (v := nI 2) (by decide) dL_law_831 ?_
  refine z_iadd hC dL_law_832 ?_
  refine z_sldc hC hX hbl hbA (i := i) (c := 2) (by omega) hLs dL_law_833 ?_
  have hpx := (cpG₁ h.1).1.k
  refine z_callV (As := [.int (xs (i + 1)), .int (xs (i + 2))]) (rest := []) hC (c_X11_set _ _ _ _ _ _ _ _ _ _ _ (cs_set h.1)) (z_gV ml_RL_103 im_X11_set se_X11_set ini_RX11 co_X11_set) z_cls11 hpx ⟨rfl, rfl⟩ dL_law_834 (na := 2) (by decide) rfl (by rw [hRm]; exact ⟨Nat.le_of_ble_eq_true rfl, Nat.le_of_ble_eq_true rfl⟩) (by exact ⟨by omega, by omega⟩) rfl (Nat.le_of_ble_eq_true rfl) ?_
  rintro _ K N I L R ⟨r1, rfl, rfl, rfl, hw⟩
  refine z_aload_n hC (q := 3) dL_law_837 rfl rfl ?_
  refine z_aload_n hC (q := 1) dL_law_838 rfl rfl ?_
  refine z_iload hC (q := 0) dL_law_839 rfl ?_
  refine z_iconst hC (v := nI 1) (by decide) dL_law_841 ?_
  refine z_iadd hC dL_law_842 ?_
  refine z_sldc hC hX hbl hbA (i := i) (c := 1) (by omega) hLs dL_law_843 ?_
  refine z_aload_n hC (q := 1) dL_law_844 rfl rfl ?_
  refine z_iload hC (q := 0) dL_law_845 rfl ?_
  refine z_iconst hC (v := nI 2) (by decide) dL_law_847 ?_
  refine z_iadd hC dL_law_848 ?_
  refine z_sldc hC hX hbl hbA (i := i) (c := 2) (by omega) hLs dL_law_849 ?_
  refine z_callV (As := [.int (xs (i + 1)), .int (xs (i + 2))]) (rest := [.int r1]) hC (c_X12_set _ _ _ _ _ _ _ _ _ _ _ hw) (z_gV ml_RL_106 im_X12_set se_X12_set ini_RX12 co_X12_set) z_cls12 hpm ⟨rfl, rfl⟩ dL_law_850 (na := 2) (by decide) rfl (by rw [hRm]; exact ⟨Nat.le_of_ble_eq_true rfl, Nat.le_of_ble_eq_true rfl⟩) (by exact ⟨by omega, by omega⟩) rfl (Nat.le_of_ble_eq_true rfl) ?_
  rintro _ K N I L R ⟨r2, rfl, rfl, rfl, rfl, rfl, ⟨hr, hcpl⟩⟩
  refine z_icmp_eq hC (tgt := 1490) dL_law_853 (by decide) (fun _ => ?_) (fun hc => absurd (by rw [hr]) hc)
  exact kk _ _ _ _ _ _ _ (by omega) (by omega) ⟨hcpl, h.2⟩
set_option maxHeartbeats 2000000 in
set_option maxRecDepth 20000 in
theorem lw_c19 {X : ZX} {G : ZG} {Qf : State → Prop} {b Ls i x m z mc ms : Nat} {xs : Nat → Int32} {K N : MK} {I : MI} {L : ML} {R : MR} (hC : ZOk X G RL cL_law 7 (some .boolean)) (hZ : zxS G X.2.2.2.2.1) (hfl : X.2.1.stackTraces = false) (hRm : X.2.2.2.1 = room_1) (hX : va_X b Ls xs X.2.2.2.2.1 X.2.2.2.2.1.heap) (hbl : b < X.2.2.2.2.1.heap.size) (hbA : ¬ z_A G b) (hi : i + 6 ≤ Ls) (hLs : Ls ≤ 3072) (hcs : mc + 1 ≤ X.2.2.2.1.cells ∧ ms + 6 ≤ X.2.2.2.1.slots) (h : LINV K N I L R x m z)
    (kk : ∀ (mc1 ms1 : Nat) (K N : MK) (I : MI) (L : ML) (R : MR), mc1 ≤ mc + 1 → ms1 ≤ ms + 6 → LINV K N I L R x m z → Z X G 7 mc1 ms1 Qf K N I L R 1490 [(4, .int (nI i)), (0, .ref b), (1, .ref x), (2, .ref m), (3, .ref z)] []) : Z X G 7 mc ms Qf K N I L R 858 [(4, .int (nI i)), (0, .ref b), (1, .ref x), (2, .ref m), (3, .ref z)] [] := by
  have hpm := (cpG₁ h.1).2.1.k
  refine z_aload_n hC (q := 2) dL_law_858 rfl rfl ?_
  refine z_aload_n hC (q := 1) dL_law_859 rfl rfl ?_
  refine z_iload hC (q := 0) dL_law_860 rfl ?_
  refine z_iconst hC (v := nI 1) (by decide) dL_law_862 ?_
  refine z_iadd hC dL_law_863 ?_
  refine z_sldc hC hX hbl hbA (i := i) (c := 1) (by omega) hLs dL_law_864 ?_
  refine z_aload_n hC (q := 1) dL_law_865 rfl rfl ?_
  refine z_iload hC (q := 0) dL_law_866 rfl ?_
  refine z_iconst hC (v := nI 2) (by decide) dL_law_868 ?_
  refine z_iadd hC dL_law_869 ?_
  refine z_sldc hC hX hbl hbA (i := i) (c := 2) (by omega) hLs dL_law_870 ?_
  have hpx := (cpG₁ h.1).1.k
  refine z_callV (As := [.int (xs (i + 1)), .int (xs (i + 2))]) (rest := []) hC (c_X11_poke _ _ _ _ _ _ _ _ _ _ _ (cs_poke h.1)) (z_gV ml_RL_107 im_X11_poke se_X11_poke ini_RX11 co_X11_poke) z_cls11 hpx ⟨rfl, rfl⟩ dL_law_871 (na := 2) (by decide) rfl (by rw [hRm]; exact ⟨Nat.le_of_ble_eq_true rfl, Nat.le_of_ble_eq_true rfl⟩) (by exact ⟨by omega, by omega⟩) rfl (Nat.le_of_ble_eq_true rfl) ?_
  rintro _ K N I L R ⟨r1, rfl, rfl, rfl, hw⟩
  refine z_aload_n hC (q := 3) dL_law_874 rfl rfl ?_
  refine z_aload_n hC (q := 1) dL_law_875 rfl rfl ?_
  refine z_iload hC (q := 0) dL_law_876 rfl ?_
  refine z_iconst hC (v := nI 1) (by decide) dL_law_878 ?_
  refine z_iadd hC dL_law_879 ?_
  refine z_sldc hC hX hbl hbA (i := i) (c := 1) (by omega) hLs dL_law_880 ?_
  refine z_aload_n hC (q := 1) dL_law_881 rfl rfl ?_
  refine z_iload hC (q := 0) dL_law_882 rfl ?_
  refine z_iconst hC (v := nI 2) (by decide) dL_law_884 ?_
  refine z_iadd hC dL_law_885 ?_
  refine z_sldc hC hX hbl hbA (i := i) (c := 2) (by omega) hLs dL_law_886 ?_
  refine z_callV (As := [.int (xs (i + 1)), .int (xs (i + 2))]) (rest := [.int r1]) hC (c_X12_poke _ _ _ _ _ _ _ _ _ _ _ hw) (z_gV ml_RL_110 im_X12_poke se_X12_poke ini_RX12 co_X12_poke) z_cls12 hpm ⟨rfl, rfl⟩ dL_law_887 (na := 2) (by decide) rfl (by rw [hRm]; exact ⟨Nat.le_of_ble_eq_true rfl, Nat.le_of_ble_eq_true rfl⟩) (by exact ⟨by omega, by omega⟩) rfl (Nat.le_of_ble_eq_true rfl) ?_
  rintro _ K N I L R ⟨r2, rfl, rfl, rfl, rfl, rfl, ⟨hr, hcpl⟩⟩
  refine z_icmp_eq hC (tgt := 1490) dL_law_890 (by decide) (fun _ => ?_) (fun hc => absurd (by rw [hr]) hc)
  exact kk _ _ _ _ _ _ _ (by omega) (by omega) ⟨hcpl, h.2⟩
set_option maxHeartbeats 2000000 in
set_option maxRecDepth 20000 in
theorem lw_c20 {X : ZX} {G : ZG} {Qf : State → Prop} {b Ls i x m z mc ms : Nat} {xs : Nat → Int32} {K N : MK} {I : MI} {L : ML} {R : MR} (hC : ZOk X G RL cL_law 7 (some .boolean)) (hZ : zxS G X.2.2.2.2.1) (hfl : X.2.1.stackTraces = false) (hRm : X.2.2.2.1 = room_1) (hX : va_X b Ls xs X.2.2.2.2.1 X.2.2.2.2.1.heap) (hbl : b < X.2.2.2.2.1.heap.size) (hbA : ¬ z_A G b) (hi : i + 6 ≤ Ls) (hLs : Ls ≤ 3072) (hcs : mc + 1 ≤ X.2.2.2.1.cells ∧ ms + 6 ≤ X.2.2.2.1.slots) (h : LINV K N I L R x m z)
    (kk : ∀ (mc1 ms1 : Nat) (K N : MK) (I : MI) (L : ML) (R : MR), mc1 ≤ mc + 1 → ms1 ≤ ms + 6 → LINV K N I L R x m z → Z X G 7 mc1 ms1 Qf K N I L R 1490 [(4, .int (nI i)), (0, .ref b), (1, .ref x), (2, .ref m), (3, .ref z)] []) : Z X G 7 mc ms Qf K N I L R 895 [(4, .int (nI i)), (0, .ref b), (1, .ref x), (2, .ref m), (3, .ref z)] [] := by
  have hpm := (cpG₁ h.1).2.1.k
  refine z_aload_n hC (q := 2) dL_law_895 rfl rfl ?_
  refine z_aload_n hC (q := 1) dL_law_896 rfl rfl ?_
  refine z_iload hC (q := 0) dL_law_897 rfl ?_
  refine z_iconst hC (v := nI 1) (by decide) dL_law_899 ?_
  refine z_iadd hC dL_law_900 ?_
  refine z_sldc hC hX hbl hbA (i := i) (c := 1) (by omega) hLs dL_law_901 ?_
  have hpx := (cpG₁ h.1).1.k
  refine z_callV (As := [.int (xs (i + 1))]) (rest := []) hC (c_X11_go _ _ _ _ _ _ _ _ _ _ (cs_go h.1)) (z_gV ml_RL_111 im_X11_go se_X11_go ini_RX11 co_X11_go) z_cls11 hpx ⟨rfl, rfl⟩ dL_law_902 (na := 1) (by decide) rfl (by rw [hRm]; exact ⟨Nat.le_of_ble_eq_true rfl, Nat.le_of_ble_eq_true rfl⟩) (by exact ⟨by omega, by omega⟩) rfl (Nat.le_of_ble_eq_true rfl) ?_
  rintro _ K N I L R ⟨r1, rfl, rfl, rfl, hw⟩
  refine z_aload_n hC (q := 3) dL_law_905 rfl rfl ?_
  refine z_aload_n hC (q := 1) dL_law_906 rfl rfl ?_
  refine z_iload hC (q := 0) dL_law_907 rfl ?_
  refine z_iconst hC (v := nI 1) (by decide) dL_law_909 ?_
  refine z_iadd hC dL_law_910 ?_
  refine z_sldc hC hX hbl hbA (i := i) (c := 1) (by omega) hLs dL_law_911 ?_
  refine z_callV (As := [.int (xs (i + 1))]) (rest := [.int r1]) hC (c_X12_go_ _ _ _ _ _ _ _ _ _ _ hw) (z_gV ml_RL_114 im_X12_go_ se_X12_go_ ini_RX12 co_X12_go_) z_cls12 hpm ⟨rfl, rfl⟩ dL_law_912 (na := 1) (by decide) rfl (by rw [hRm]; exact ⟨Nat.le_of_ble_eq_true rfl, Nat.le_of_ble_eq_true rfl⟩) (by exact ⟨by omega, by omega⟩) rfl (Nat.le_of_ble_eq_true rfl) ?_
  rintro _ K N I L R ⟨r2, rfl, rfl, rfl, rfl, rfl, ⟨hr, hcpl⟩⟩
  refine z_icmp_eq hC (tgt := 1490) dL_law_915 (by decide) (fun _ => ?_) (fun hc => absurd (by rw [hr]) hc)
  exact kk _ _ _ _ _ _ _ (by omega) (by omega) ⟨hcpl, h.2⟩
set_option maxHeartbeats 2000000 in
set_option maxRecDepth 20000 in
theorem lw_c21 {X : ZX} {G : ZG} {Qf : State → Prop} {b Ls i x m z mc ms : Nat} {xs : Nat → Int32} {K N : MK} {I : MI} {L : ML} {R : MR} (hC : ZOk X G RL cL_law 7 (some .boolean)) (hZ : zxS G X.2.2.2.2.1) (hfl : X.2.1.stackTraces = false) (hRm : X.2.2.2.1 = room_1) (hX : va_X b Ls xs X.2.2.2.2.1 X.2.2.2.2.1.heap) (hbl : b < X.2.2.2.2.1.heap.size) (hbA : ¬ z_A G b) (hi : i + 6 ≤ Ls) (hLs : Ls ≤ 3072) (hcs : mc + 1 ≤ X.2.2.2.1.cells ∧ ms + 6 ≤ X.2.2.2.1.slots) (h : LINV K N I L R x m z)
    (kk : ∀ (mc1 ms1 : Nat) (K N : MK) (I : MI) (L : ML) (R : MR), mc1 ≤ mc + 1 → ms1 ≤ ms + 6 → LINV K N I L R x m z → Z X G 7 mc1 ms1 Qf K N I L R 1490 [(4, .int (nI i)), (0, .ref b), (1, .ref x), (2, .ref m), (3, .ref z)] []) : Z X G 7 mc ms Qf K N I L R 920 [(4, .int (nI i)), (0, .ref b), (1, .ref x), (2, .ref m), (3, .ref z)] [] := by
  have hpm := (cpG₁ h.1).2.1.k
  refine z_aload_n hC (q := 2) dL_law_920 rfl rfl ?_
  refine z_aload_n hC (q := 1) dL_law_921 rfl rfl ?_
  refine z_iload hC (q := 0) dL_law_922 rfl ?_
  refine z_iconst hC (v := nI 1) (by decide) dL_law_924 ?_
  refine z_iadd hC dL_law_925 ?_
  refine z_sldc hC hX hbl hbA (i := i) (c := 1) (by omega) hLs dL_law_926 ?_
  have hpx := (cpG₁ h.1).1.k
  refine z_callV (As := [.int (xs (i + 1))]) (rest := []) hC (c_X11_stop _ _ _ _ _ _ _ _ _ _ (cs_stop h.1)) (z_gV ml_RL_115 im_X11_stop se_X11_stop ini_RX11 co_X11_stop) z_cls11 hpx ⟨rfl, rfl⟩ dL_law_927 (na := 1) (by decide) rfl (by rw [hRm]; exact ⟨Nat.le_of_ble_eq_true rfl, Nat.le_of_ble_eq_true rfl⟩) (by exact ⟨by omega, by omega⟩) rfl (Nat.le_of_ble_eq_true rfl) ?_
  rintro _ K N I L R ⟨r1, rfl, rfl, rfl, hw⟩
  refine z_aload_n hC (q := 3) dL_law_930 rfl rfl ?_
  refine z_aload_n hC (q := 1) dL_law_931 rfl rfl ?_
  refine z_iload hC (q := 0) dL_law_932 rfl ?_
  refine z_iconst hC (v := nI 1) (by decide) dL_law_934 ?_
  refine z_iadd hC dL_law_935 ?_
  refine z_sldc hC hX hbl hbA (i := i) (c := 1) (by omega) hLs dL_law_936 ?_
  refine z_callV (As := [.int (xs (i + 1))]) (rest := [.int r1]) hC (c_X12_stop _ _ _ _ _ _ _ _ _ _ hw) (z_gV ml_RL_118 im_X12_stop se_X12_stop ini_RX12 co_X12_stop) z_cls12 hpm ⟨rfl, rfl⟩ dL_law_937 (na := 1) (by decide) rfl (by rw [hRm]; exact ⟨Nat.le_of_ble_eq_true rfl, Nat.le_of_ble_eq_true rfl⟩) (by exact ⟨by omega, by omega⟩) rfl (Nat.le_of_ble_eq_true rfl) ?_
  rintro _ K N I L R ⟨r2, rfl, rfl, rfl, rfl, rfl, ⟨hr, hcpl⟩⟩
  refine z_icmp_eq hC (tgt := 1490) dL_law_940 (by decide) (fun _ => ?_) (fun hc => absurd (by rw [hr]) hc)
  exact kk _ _ _ _ _ _ _ (by omega) (by omega) ⟨hcpl, h.2⟩
set_option maxHeartbeats 2000000 in
set_option maxRecDepth 20000 in
theorem lw_c22 {X : ZX} {G : ZG} {Qf : State → Prop} {b Ls i x m z mc ms : Nat} {xs : Nat → Int32} {K N : MK} {I : MI} {L : ML} {R : MR} (hC : ZOk X G RL cL_law 7 (some .boolean)) (hZ : zxS G X.2.2.2.2.1) (hfl : X.2.1.stackTraces = false) (hRm : X.2.2.2.1 = room_1) (hX : va_X b Ls xs X.2.2.2.2.1 X.2.2.2.2.1.heap) (hbl : b < X.2.2.2.2.1.heap.size) (hbA : ¬ z_A G b) (hi : i + 6 ≤ Ls) (hLs : Ls ≤ 3072) (hcs : mc + 1 ≤ X.2.2.2.1.cells ∧ ms + 6 ≤ X.2.2.2.1.slots) (h : LINV K N I L R x m z)
    (kk : ∀ (mc1 ms1 : Nat) (K N : MK) (I : MI) (L : ML) (R : MR), mc1 ≤ mc + 1 → ms1 ≤ ms + 6 → LINV K N I L R x m z → Z X G 7 mc1 ms1 Qf K N I L R 1490 [(4, .int (nI i)), (0, .ref b), (1, .ref x), (2, .ref m), (3, .ref z)] []) : Z X G 7 mc ms Qf K N I L R 945 [(4, .int (nI i)), (0, .ref b), (1, .ref x), (2, .ref m), (3, .ref z)] [] := by
  have hpm := (cpG₁ h.1).2.1.k
  refine z_aload_n hC (q := 2) dL_law_945 rfl rfl ?_
  refine z_aload_n hC (q := 1) dL_law_946 rfl rfl ?_
  refine z_iload hC (q := 0) dL_law_947 rfl ?_
  refine z_iconst hC (v := nI 1) (by decide) dL_law_949 ?_
  refine z_iadd hC dL_law_950 ?_
  refine z_sldc hC hX hbl hbA (i := i) (c := 1) (by omega) hLs dL_law_951 ?_
  have hpx := (cpG₁ h.1).1.k
  refine z_callV (As := [.int (xs (i + 1))]) (rest := []) hC (c_X11_clear _ _ _ _ _ _ _ _ _ _ (cs_clear h.1)) (z_gV ml_RL_119 im_X11_clear se_X11_clear ini_RX11 co_X11_clear) z_cls11 hpx ⟨rfl, rfl⟩ dL_law_952 (na := 1) (by decide) rfl (by rw [hRm]; exact ⟨Nat.le_of_ble_eq_true rfl, Nat.le_of_ble_eq_true rfl⟩) (by exact ⟨by omega, by omega⟩) rfl (Nat.le_of_ble_eq_true rfl) ?_
  rintro _ K N I L R ⟨r1, rfl, rfl, rfl, hw⟩
  refine z_aload_n hC (q := 3) dL_law_955 rfl rfl ?_
  refine z_aload_n hC (q := 1) dL_law_956 rfl rfl ?_
  refine z_iload hC (q := 0) dL_law_957 rfl ?_
  refine z_iconst hC (v := nI 1) (by decide) dL_law_959 ?_
  refine z_iadd hC dL_law_960 ?_
  refine z_sldc hC hX hbl hbA (i := i) (c := 1) (by omega) hLs dL_law_961 ?_
  refine z_callV (As := [.int (xs (i + 1))]) (rest := [.int r1]) hC (c_X12_clear _ _ _ _ _ _ _ _ _ _ hw) (z_gV ml_RL_122 im_X12_clear se_X12_clear ini_RX12 co_X12_clear) z_cls12 hpm ⟨rfl, rfl⟩ dL_law_962 (na := 1) (by decide) rfl (by rw [hRm]; exact ⟨Nat.le_of_ble_eq_true rfl, Nat.le_of_ble_eq_true rfl⟩) (by exact ⟨by omega, by omega⟩) rfl (Nat.le_of_ble_eq_true rfl) ?_
  rintro _ K N I L R ⟨r2, rfl, rfl, rfl, rfl, rfl, ⟨hr, hcpl⟩⟩
  refine z_icmp_eq hC (tgt := 1490) dL_law_965 (by decide) (fun _ => ?_) (fun hc => absurd (by rw [hr]) hc)
  exact kk _ _ _ _ _ _ _ (by omega) (by omega) ⟨hcpl, h.2⟩
set_option maxHeartbeats 2000000 in
set_option maxRecDepth 20000 in
theorem lw_c23 {X : ZX} {G : ZG} {Qf : State → Prop} {b Ls i x m z mc ms : Nat} {xs : Nat → Int32} {K N : MK} {I : MI} {L : ML} {R : MR} (hC : ZOk X G RL cL_law 7 (some .boolean)) (hZ : zxS G X.2.2.2.2.1) (hfl : X.2.1.stackTraces = false) (hRm : X.2.2.2.1 = room_1) (hX : va_X b Ls xs X.2.2.2.2.1 X.2.2.2.2.1.heap) (hbl : b < X.2.2.2.2.1.heap.size) (hbA : ¬ z_A G b) (hi : i + 6 ≤ Ls) (hLs : Ls ≤ 3072) (hcs : mc + 1 ≤ X.2.2.2.1.cells ∧ ms + 6 ≤ X.2.2.2.1.slots) (h : LINV K N I L R x m z)
    (kk : ∀ (mc1 ms1 : Nat) (K N : MK) (I : MI) (L : ML) (R : MR), mc1 ≤ mc + 1 → ms1 ≤ ms + 6 → LINV K N I L R x m z → Z X G 7 mc1 ms1 Qf K N I L R 1490 [(4, .int (nI i)), (0, .ref b), (1, .ref x), (2, .ref m), (3, .ref z)] []) : Z X G 7 mc ms Qf K N I L R 970 [(4, .int (nI i)), (0, .ref b), (1, .ref x), (2, .ref m), (3, .ref z)] [] := by
  have hpm := (cpG₁ h.1).2.1.k
  refine z_aload_n hC (q := 2) dL_law_970 rfl rfl ?_
  have hpx := (cpG₁ h.1).1.k
  refine z_callV (As := []) (rest := []) hC (c_X11_step _ _ _ _ _ _ _ _ _ (cs_step h.1)) (z_gV ml_RL_123 im_X11_step se_X11_step ini_RX11 co_X11_step) z_cls11 hpx ⟨rfl, rfl⟩ dL_law_971 (na := 0) (by decide) rfl (by rw [hRm]; exact ⟨Nat.le_of_ble_eq_true rfl, Nat.le_of_ble_eq_true rfl⟩) (by exact ⟨by omega, by omega⟩) rfl (Nat.le_of_ble_eq_true rfl) ?_
  rintro _ K N I L R ⟨r1, rfl, rfl, rfl, hw⟩
  refine z_aload_n hC (q := 3) dL_law_974 rfl rfl ?_
  refine z_callV (As := []) (rest := [.int r1]) hC (c_X12_step _ _ _ _ _ _ _ _ _ hw) (z_gV ml_RL_126 im_X12_step se_X12_step ini_RX12 co_X12_step) z_cls12 hpm ⟨rfl, rfl⟩ dL_law_975 (na := 0) (by decide) rfl (by rw [hRm]; exact ⟨Nat.le_of_ble_eq_true rfl, Nat.le_of_ble_eq_true rfl⟩) (by exact ⟨by omega, by omega⟩) rfl (Nat.le_of_ble_eq_true rfl) ?_
  rintro _ K N I L R ⟨r2, rfl, rfl, rfl, rfl, rfl, ⟨hr, hcpl⟩⟩
  refine z_icmp_eq hC (tgt := 1490) dL_law_978 (by decide) (fun _ => ?_) (fun hc => absurd (by rw [hr]) hc)
  exact kk _ _ _ _ _ _ _ (by omega) (by omega) ⟨hcpl, h.2⟩
set_option maxHeartbeats 2000000 in
set_option maxRecDepth 20000 in
theorem lw_c24 {X : ZX} {G : ZG} {Qf : State → Prop} {b Ls i x m z mc ms : Nat} {xs : Nat → Int32} {K N : MK} {I : MI} {L : ML} {R : MR} (hC : ZOk X G RL cL_law 7 (some .boolean)) (hZ : zxS G X.2.2.2.2.1) (hfl : X.2.1.stackTraces = false) (hRm : X.2.2.2.1 = room_1) (hX : va_X b Ls xs X.2.2.2.2.1 X.2.2.2.2.1.heap) (hbl : b < X.2.2.2.2.1.heap.size) (hbA : ¬ z_A G b) (hi : i + 6 ≤ Ls) (hLs : Ls ≤ 3072) (hcs : mc + 1 ≤ X.2.2.2.1.cells ∧ ms + 6 ≤ X.2.2.2.1.slots) (h : LINV K N I L R x m z)
    (kk : ∀ (mc1 ms1 : Nat) (K N : MK) (I : MI) (L : ML) (R : MR), mc1 ≤ mc + 1 → ms1 ≤ ms + 6 → LINV K N I L R x m z → Z X G 7 mc1 ms1 Qf K N I L R 1490 [(4, .int (nI i)), (0, .ref b), (1, .ref x), (2, .ref m), (3, .ref z)] []) : Z X G 7 mc ms Qf K N I L R 983 [(4, .int (nI i)), (0, .ref b), (1, .ref x), (2, .ref m), (3, .ref z)] [] := by
  have hpm := (cpG₁ h.1).2.1.k
  refine z_aload_n hC (q := 2) dL_law_983 rfl rfl ?_
  have hpx := (cpG₁ h.1).1.k
  refine z_callV (As := []) (rest := []) hC (c_X11_leave _ _ _ _ _ _ _ _ _ (cs_leave h.1)) (z_gV ml_RL_127 im_X11_leave se_X11_leave ini_RX11 co_X11_leave) z_cls11 hpx ⟨rfl, rfl⟩ dL_law_984 (na := 0) (by decide) rfl (by rw [hRm]; exact ⟨Nat.le_of_ble_eq_true rfl, Nat.le_of_ble_eq_true rfl⟩) (by exact ⟨by omega, by omega⟩) rfl (Nat.le_of_ble_eq_true rfl) ?_
  rintro _ K N I L R ⟨r1, rfl, rfl, rfl, hw⟩
  refine z_aload_n hC (q := 3) dL_law_987 rfl rfl ?_
  refine z_callV (As := []) (rest := [.int r1]) hC (c_X12_leave _ _ _ _ _ _ _ _ _ hw) (z_gV ml_RL_130 im_X12_leave se_X12_leave ini_RX12 co_X12_leave) z_cls12 hpm ⟨rfl, rfl⟩ dL_law_988 (na := 0) (by decide) rfl (by rw [hRm]; exact ⟨Nat.le_of_ble_eq_true rfl, Nat.le_of_ble_eq_true rfl⟩) (by exact ⟨by omega, by omega⟩) rfl (Nat.le_of_ble_eq_true rfl) ?_
  rintro _ K N I L R ⟨r2, rfl, rfl, rfl, rfl, rfl, ⟨hr, hcpl⟩⟩
  refine z_icmp_eq hC (tgt := 1490) dL_law_991 (by decide) (fun _ => ?_) (fun hc => absurd (by rw [hr]) hc)
  exact kk _ _ _ _ _ _ _ (by omega) (by omega) ⟨hcpl, h.2⟩
set_option maxHeartbeats 2000000 in
set_option maxRecDepth 20000 in
theorem lw_c25 {X : ZX} {G : ZG} {Qf : State → Prop} {b Ls i x m z mc ms : Nat} {xs : Nat → Int32} {K N : MK} {I : MI} {L : ML} {R : MR} (hC : ZOk X G RL cL_law 7 (some .boolean)) (hZ : zxS G X.2.2.2.2.1) (hfl : X.2.1.stackTraces = false) (hRm : X.2.2.2.1 = room_1) (hX : va_X b Ls xs X.2.2.2.2.1 X.2.2.2.2.1.heap) (hbl : b < X.2.2.2.2.1.heap.size) (hbA : ¬ z_A G b) (hi : i + 6 ≤ Ls) (hLs : Ls ≤ 3072) (hcs : mc + 1 ≤ X.2.2.2.1.cells ∧ ms + 6 ≤ X.2.2.2.1.slots) (h : LINV K N I L R x m z)
    (kk : ∀ (mc1 ms1 : Nat) (K N : MK) (I : MI) (L : ML) (R : MR), mc1 ≤ mc + 1 → ms1 ≤ ms + 6 → LINV K N I L R x m z → Z X G 7 mc1 ms1 Qf K N I L R 1490 [(4, .int (nI i)), (0, .ref b), (1, .ref x), (2, .ref m), (3, .ref z)] []) : Z X G 7 mc ms Qf K N I L R 996 [(4, .int (nI i)), (0, .ref b), (1, .ref x), (2, .ref m), (3, .ref z)] [] := by
  have hpm := (cpG₁ h.1).2.1.k
  refine z_aload_n hC (q := 2) dL_law_996 rfl rfl ?_
  have hpx := (cpG₁ h.1).1.k
  refine z_callV (As := []) (rest := []) hC (c_X11_run _ _ _ _ _ _ _ _ _ (cs_run h.1)) (z_gV ml_RL_131 im_X11_run se_X11_run ini_RX11 co_X11_run) z_cls11 hpx ⟨rfl, rfl⟩ dL_law_997 (na := 0) (by decide) rfl (by rw [hRm]; exact ⟨Nat.le_of_ble_eq_true rfl, Nat.le_of_ble_eq_true rfl⟩) (by exact ⟨by omega, by omega⟩) rfl (Nat.le_of_ble_eq_true rfl) ?_
  rintro _ K N I L R ⟨r1, rfl, rfl, rfl, hw⟩
  refine z_aload_n hC (q := 3) dL_law_1000 rfl rfl ?_
  refine z_callV (As := []) (rest := [.int r1]) hC (c_X12_run _ _ _ _ _ _ _ _ _ hw) (z_gV ml_RL_134 im_X12_run se_X12_run ini_RX12 co_X12_run) z_cls12 hpm ⟨rfl, rfl⟩ dL_law_1001 (na := 0) (by decide) rfl (by rw [hRm]; exact ⟨Nat.le_of_ble_eq_true rfl, Nat.le_of_ble_eq_true rfl⟩) (by exact ⟨by omega, by omega⟩) rfl (Nat.le_of_ble_eq_true rfl) ?_
  rintro _ K N I L R ⟨r2, rfl, rfl, rfl, rfl, rfl, ⟨hr, hcpl⟩⟩
  refine z_icmp_eq hC (tgt := 1490) dL_law_1004 (by decide) (fun _ => ?_) (fun hc => absurd (by rw [hr]) hc)
  exact kk _ _ _ _ _ _ _ (by omega) (by omega) ⟨hcpl, h.2⟩
set_option maxHeartbeats 2000000 in
set_option maxRecDepth 20000 in
theorem lw_c26 {X : ZX} {G : ZG} {Qf : State → Prop} {b Ls i x m z mc ms : Nat} {xs : Nat → Int32} {K N : MK} {I : MI} {L : ML} {R : MR} (hC : ZOk X G RL cL_law 7 (some .boolean)) (hZ : zxS G X.2.2.2.2.1) (hfl : X.2.1.stackTraces = false) (hRm : X.2.2.2.1 = room_1) (hX : va_X b Ls xs X.2.2.2.2.1 X.2.2.2.2.1.heap) (hbl : b < X.2.2.2.2.1.heap.size) (hbA : ¬ z_A G b) (hi : i + 6 ≤ Ls) (hLs : Ls ≤ 3072) (hcs : mc + 1 ≤ X.2.2.2.1.cells ∧ ms + 6 ≤ X.2.2.2.1.slots) (h : LINV K N I L R x m z)
    (kk : ∀ (mc1 ms1 : Nat) (K N : MK) (I : MI) (L : ML) (R : MR), mc1 ≤ mc + 1 → ms1 ≤ ms + 6 → LINV K N I L R x m z → Z X G 7 mc1 ms1 Qf K N I L R 1490 [(4, .int (nI i)), (0, .ref b), (1, .ref x), (2, .ref m), (3, .ref z)] []) : Z X G 7 mc ms Qf K N I L R 1009 [(4, .int (nI i)), (0, .ref b), (1, .ref x), (2, .ref m), (3, .ref z)] [] := by
  have hpm := (cpG₁ h.1).2.1.k
  refine z_aload_n hC (q := 2) dL_law_1009 rfl rfl ?_
  have hpx := (cpG₁ h.1).1.k
  refine z_callV (As := []) (rest := []) hC (c_X11_undo _ _ _ _ _ _ _ _ _ (cs_undo h.1)) (z_gV ml_RL_135 im_X11_undo se_X11_undo ini_RX11 co_X11_undo) z_cls11 hpx ⟨rfl, rfl⟩ dL_law_1010 (na := 0) (by decide) rfl (by rw [hRm]; exact ⟨Nat.le_of_ble_eq_true rfl, Nat.le_of_ble_eq_true rfl⟩) (by exact ⟨by omega, by omega⟩) rfl (Nat.le_of_ble_eq_true rfl) ?_
  rintro _ K N I L R ⟨r1, rfl, rfl, rfl, rfl, rfl, hw⟩
  refine z_aload_n hC (q := 3) dL_law_1013 rfl rfl ?_
  refine z_callV (As := []) (rest := [.int r1]) hC (c_X12_undo _ _ _ _ _ _ _ _ _ hw) (z_gV ml_RL_138 im_X12_undo se_X12_undo ini_RX12 co_X12_undo) z_cls12 hpm ⟨rfl, rfl⟩ dL_law_1014 (na := 0) (by decide) rfl (by rw [hRm]; exact ⟨Nat.le_of_ble_eq_true rfl, Nat.le_of_ble_eq_true rfl⟩) (by exact ⟨by omega, by omega⟩) rfl (Nat.le_of_ble_eq_true rfl) ?_
  rintro _ K N I L R ⟨r2, rfl, rfl, rfl, rfl, rfl, ⟨hr, hcpl⟩⟩
  refine z_icmp_eq hC (tgt := 1490) dL_law_1017 (by decide) (fun _ => ?_) (fun hc => absurd (by rw [hr]) hc)
  exact kk _ _ _ _ _ _ _ (by omega) (by omega) ⟨hcpl, h.2⟩
set_option maxHeartbeats 2000000 in
set_option maxRecDepth 20000 in
theorem lw_c27 {X : ZX} {G : ZG} {Qf : State → Prop} {b Ls i x m z mc ms : Nat} {xs : Nat → Int32} {K N : MK} {I : MI} {L : ML} {R : MR} (hC : ZOk X G RL cL_law 7 (some .boolean)) (hZ : zxS G X.2.2.2.2.1) (hfl : X.2.1.stackTraces = false) (hRm : X.2.2.2.1 = room_1) (hX : va_X b Ls xs X.2.2.2.2.1 X.2.2.2.2.1.heap) (hbl : b < X.2.2.2.2.1.heap.size) (hbA : ¬ z_A G b) (hi : i + 6 ≤ Ls) (hLs : Ls ≤ 3072) (hcs : mc + 1 ≤ X.2.2.2.1.cells ∧ ms + 6 ≤ X.2.2.2.1.slots) (h : LINV K N I L R x m z)
    (kk : ∀ (mc1 ms1 : Nat) (K N : MK) (I : MI) (L : ML) (R : MR), mc1 ≤ mc + 1 → ms1 ≤ ms + 6 → LINV K N I L R x m z → Z X G 7 mc1 ms1 Qf K N I L R 1490 [(4, .int (nI i)), (0, .ref b), (1, .ref x), (2, .ref m), (3, .ref z)] []) : Z X G 7 mc ms Qf K N I L R 1022 [(4, .int (nI i)), (0, .ref b), (1, .ref x), (2, .ref m), (3, .ref z)] [] := by
  have hpm := (cpG₁ h.1).2.1.k
  refine z_aload_n hC (q := 2) dL_law_1022 rfl rfl ?_
  have hpx := (cpG₁ h.1).1.k
  refine z_callV (As := []) (rest := []) hC (c_X11_packed _ _ _ _ _ _ _ _ _ (cs_packed h.1)) (z_gV ml_RL_139 im_X11_packed se_X11_packed ini_RX11 co_X11_packed) z_cls11 hpx ⟨rfl, rfl⟩ dL_law_1023 (na := 0) (by decide) rfl (by rw [hRm]; exact ⟨Nat.le_of_ble_eq_true rfl, Nat.le_of_ble_eq_true rfl⟩) (by exact ⟨by omega, by omega⟩) rfl (Nat.le_of_ble_eq_true rfl) ?_
  rintro _ K N I L R ⟨r1, rfl, rfl, rfl, rfl, hw⟩
  refine z_aload_n hC (q := 3) dL_law_1026 rfl rfl ?_
  refine z_callV (As := []) (rest := [.int r1]) hC (c_X12_packed _ _ _ _ _ _ _ _ _ hw) (z_gV ml_RL_142 im_X12_packed se_X12_packed ini_RX12 co_X12_packed) z_cls12 hpm ⟨rfl, rfl⟩ dL_law_1027 (na := 0) (by decide) rfl (by rw [hRm]; exact ⟨Nat.le_of_ble_eq_true rfl, Nat.le_of_ble_eq_true rfl⟩) (by exact ⟨by omega, by omega⟩) rfl (Nat.le_of_ble_eq_true rfl) ?_
  rintro _ K N I L R ⟨r2, rfl, rfl, rfl, rfl, rfl, ⟨hr, hcpl⟩⟩
  refine z_icmp_eq hC (tgt := 1490) dL_law_1030 (by decide) (fun _ => ?_) (fun hc => absurd (by rw [hr]) hc)
  exact kk _ _ _ _ _ _ _ (by omega) (by omega) ⟨hcpl, h.2⟩
set_option maxHeartbeats 2000000 in
set_option maxRecDepth 20000 in
theorem lw_c28 {X : ZX} {G : ZG} {Qf : State → Prop} {b Ls i x m z mc ms : Nat} {xs : Nat → Int32} {K N : MK} {I : MI} {L : ML} {R : MR} (hC : ZOk X G RL cL_law 7 (some .boolean)) (hZ : zxS G X.2.2.2.2.1) (hfl : X.2.1.stackTraces = false) (hRm : X.2.2.2.1 = room_1) (hX : va_X b Ls xs X.2.2.2.2.1 X.2.2.2.2.1.heap) (hbl : b < X.2.2.2.2.1.heap.size) (hbA : ¬ z_A G b) (hi : i + 6 ≤ Ls) (hLs : Ls ≤ 3072) (hcs : mc + 1 ≤ X.2.2.2.1.cells ∧ ms + 6 ≤ X.2.2.2.1.slots) (h : LINV K N I L R x m z)
    (kk : ∀ (mc1 ms1 : Nat) (K N : MK) (I : MI) (L : ML) (R : MR), mc1 ≤ mc + 1 → ms1 ≤ ms + 6 → LINV K N I L R x m z → Z X G 7 mc1 ms1 Qf K N I L R 1490 [(4, .int (nI i)), (0, .ref b), (1, .ref x), (2, .ref m), (3, .ref z)] []) : Z X G 7 mc ms Qf K N I L R 1035 [(4, .int (nI i)), (0, .ref b), (1, .ref x), (2, .ref m), (3, .ref z)] [] := by
  have hpm := (cpG₁ h.1).2.1.k
  refine z_aload_n hC (q := 2) dL_law_1035 rfl rfl ?_
  refine z_aload_n hC (q := 1) dL_law_1036 rfl rfl ?_
  refine z_iload hC (q := 0) dL_law_1037 rfl ?_
  refine z_iconst hC (v := nI 1) (by decide) dL_law_1039 ?_
  refine z_iadd hC dL_law_1040 ?_
  refine z_sldc hC hX hbl hbA (i := i) (c := 1) (by omega) hLs dL_law_1041 ?_
  have hpx := (cpG₁ h.1).1.k
  refine z_callV (As := [.int (xs (i + 1))]) (rest := []) hC (c_X11_packedAt _ _ _ _ _ _ _ _ _ _ (cs_packedAt h.1)) (z_gV ml_RL_143 im_X11_packedAt se_X11_packedAt ini_RX11 co_X11_packedAt) z_cls11 hpx ⟨rfl, rfl⟩ dL_law_1042 (na := 1) (by decide) rfl (by rw [hRm]; exact ⟨Nat.le_of_ble_eq_true rfl, Nat.le_of_ble_eq_true rfl⟩) (by exact ⟨by omega, by omega⟩) rfl (Nat.le_of_ble_eq_true rfl) ?_
  rintro _ K N I L R ⟨r1, rfl, rfl, rfl, rfl, rfl, rfl, hw⟩
  refine z_aload_n hC (q := 3) dL_law_1045 rfl rfl ?_
  refine z_aload_n hC (q := 1) dL_law_1046 rfl rfl ?_
  refine z_iload hC (q := 0) dL_law_1047 rfl ?_
  refine z_iconst hC (v := nI 1) (by decide) dL_law_1049 ?_
  refine z_iadd hC dL_law_1050 ?_
  refine z_sldc hC hX hbl hbA (i := i) (c := 1) (by omega) hLs dL_law_1051 ?_
  refine z_callV (As := [.int (xs (i + 1))]) (rest := [.int r1]) hC (c_X12_packedAt _ _ _ _ _ _ _ _ _ _ hw) (z_gV ml_RL_146 im_X12_packedAt se_X12_packedAt ini_RX12 co_X12_packedAt) z_cls12 hpm ⟨rfl, rfl⟩ dL_law_1052 (na := 1) (by decide) rfl (by rw [hRm]; exact ⟨Nat.le_of_ble_eq_true rfl, Nat.le_of_ble_eq_true rfl⟩) (by exact ⟨by omega, by omega⟩) rfl (Nat.le_of_ble_eq_true rfl) ?_
  rintro _ K N I L R ⟨r2, rfl, rfl, rfl, rfl, rfl, ⟨hr, hcpl⟩⟩
  refine z_icmp_eq hC (tgt := 1490) dL_law_1055 (by decide) (fun _ => ?_) (fun hc => absurd (by rw [hr]) hc)
  exact kk _ _ _ _ _ _ _ (by omega) (by omega) ⟨hcpl, h.2⟩
set_option maxHeartbeats 2000000 in
set_option maxRecDepth 20000 in
theorem lw_c29 {X : ZX} {G : ZG} {Qf : State → Prop} {b Ls i x m z mc ms : Nat} {xs : Nat → Int32} {K N : MK} {I : MI} {L : ML} {R : MR} (hC : ZOk X G RL cL_law 7 (some .boolean)) (hZ : zxS G X.2.2.2.2.1) (hfl : X.2.1.stackTraces = false) (hRm : X.2.2.2.1 = room_1) (hX : va_X b Ls xs X.2.2.2.2.1 X.2.2.2.2.1.heap) (hbl : b < X.2.2.2.2.1.heap.size) (hbA : ¬ z_A G b) (hi : i + 6 ≤ Ls) (hLs : Ls ≤ 3072) (hcs : mc + 1 ≤ X.2.2.2.1.cells ∧ ms + 6 ≤ X.2.2.2.1.slots) (h : LINV K N I L R x m z)
    (kk : ∀ (mc1 ms1 : Nat) (K N : MK) (I : MI) (L : ML) (R : MR), mc1 ≤ mc + 1 → ms1 ≤ ms + 6 → LINV K N I L R x m z → Z X G 7 mc1 ms1 Qf K N I L R 1490 [(4, .int (nI i)), (0, .ref b), (1, .ref x), (2, .ref m), (3, .ref z)] []) : Z X G 7 mc ms Qf K N I L R 1060 [(4, .int (nI i)), (0, .ref b), (1, .ref x), (2, .ref m), (3, .ref z)] [] := by
  have hpm := (cpG₁ h.1).2.1.k
  refine z_aload_n hC (q := 2) dL_law_1060 rfl rfl ?_
  have hpx := (cpG₁ h.1).1.k
  refine z_callV (As := []) (rest := []) hC (c_X11_unpacked _ _ _ _ _ _ _ _ _ (cs_unpacked h.1)) (z_gV ml_RL_147 im_X11_unpacked se_X11_unpacked ini_RX11 co_X11_unpacked) z_cls11 hpx ⟨rfl, rfl⟩ dL_law_1061 (na := 0) (by decide) rfl (by rw [hRm]; exact ⟨Nat.le_of_ble_eq_true rfl, Nat.le_of_ble_eq_true rfl⟩) (by exact ⟨by omega, by omega⟩) rfl (Nat.le_of_ble_eq_true rfl) ?_
  rintro _ K N I L R ⟨r1, rfl, rfl, rfl, rfl, hw⟩
  refine z_aload_n hC (q := 3) dL_law_1064 rfl rfl ?_
  refine z_callV (As := []) (rest := [.int r1]) hC (c_X12_unpacked _ _ _ _ _ _ _ _ _ hw) (z_gV ml_RL_150 im_X12_unpacked se_X12_unpacked ini_RX12 co_X12_unpacked) z_cls12 hpm ⟨rfl, rfl⟩ dL_law_1065 (na := 0) (by decide) rfl (by rw [hRm]; exact ⟨Nat.le_of_ble_eq_true rfl, Nat.le_of_ble_eq_true rfl⟩) (by exact ⟨by omega, by omega⟩) rfl (Nat.le_of_ble_eq_true rfl) ?_
  rintro _ K N I L R ⟨r2, rfl, rfl, rfl, rfl, rfl, ⟨hr, hcpl⟩⟩
  refine z_icmp_eq hC (tgt := 1490) dL_law_1068 (by decide) (fun _ => ?_) (fun hc => absurd (by rw [hr]) hc)
  exact kk _ _ _ _ _ _ _ (by omega) (by omega) ⟨hcpl, h.2⟩
set_option maxHeartbeats 2000000 in
set_option maxRecDepth 20000 in
theorem lw_c30 {X : ZX} {G : ZG} {Qf : State → Prop} {b Ls i x m z mc ms : Nat} {xs : Nat → Int32} {K N : MK} {I : MI} {L : ML} {R : MR} (hC : ZOk X G RL cL_law 7 (some .boolean)) (hZ : zxS G X.2.2.2.2.1) (hfl : X.2.1.stackTraces = false) (hRm : X.2.2.2.1 = room_1) (hX : va_X b Ls xs X.2.2.2.2.1 X.2.2.2.2.1.heap) (hbl : b < X.2.2.2.2.1.heap.size) (hbA : ¬ z_A G b) (hi : i + 6 ≤ Ls) (hLs : Ls ≤ 3072) (hcs : mc + 1 ≤ X.2.2.2.1.cells ∧ ms + 6 ≤ X.2.2.2.1.slots) (h : LINV K N I L R x m z)
    (kk : ∀ (mc1 ms1 : Nat) (K N : MK) (I : MI) (L : ML) (R : MR), mc1 ≤ mc + 1 → ms1 ≤ ms + 6 → LINV K N I L R x m z → Z X G 7 mc1 ms1 Qf K N I L R 1490 [(4, .int (nI i)), (0, .ref b), (1, .ref x), (2, .ref m), (3, .ref z)] []) : Z X G 7 mc ms Qf K N I L R 1073 [(4, .int (nI i)), (0, .ref b), (1, .ref x), (2, .ref m), (3, .ref z)] [] := by
  have hpm := (cpG₁ h.1).2.1.k
  refine z_aload_n hC (q := 2) dL_law_1073 rfl rfl ?_
  refine z_aload_n hC (q := 1) dL_law_1074 rfl rfl ?_
  refine z_iload hC (q := 0) dL_law_1075 rfl ?_
  refine z_iconst hC (v := nI 1) (by decide) dL_law_1077 ?_
  refine z_iadd hC dL_law_1078 ?_
  refine z_sldc hC hX hbl hbA (i := i) (c := 1) (by omega) hLs dL_law_1079 ?_
  refine z_aload_n hC (q := 1) dL_law_1080 rfl rfl ?_
  refine z_iload hC (q := 0) dL_law_1081 rfl ?_
  refine z_iconst hC (v := nI 2) (by decide) dL_law_1083 ?_
  refine z_iadd hC dL_law_1084 ?_
  refine z_sldc hC hX hbl hbA (i := i) (c := 2) (by omega) hLs dL_law_1085 ?_
  have hpx := (cpG₁ h.1).1.k
  refine z_callV (As := [.int (xs (i + 1)), .int (xs (i + 2))]) (rest := []) hC (c_X11_unpackedAt _ _ _ _ _ _ _ _ _ _ _ (cs_unpackedAt h.1)) (z_gV ml_RL_151 im_X11_unpackedAt se_X11_unpackedAt ini_RX11 co_X11_unpackedAt) z_cls11 hpx ⟨rfl, rfl⟩ dL_law_1086 (na := 2) (by decide) rfl (by rw [hRm]; exact ⟨Nat.le_of_ble_eq_true rfl, Nat.le_of_ble_eq_true rfl⟩) (by exact ⟨by omega, by omega⟩) rfl (Nat.le_of_ble_eq_true rfl) ?_
  rintro _ K N I L R ⟨r1, rfl, rfl, rfl, rfl, rfl, rfl, hw⟩
  refine z_aload_n hC (q := 3) dL_law_1089 rfl rfl ?_
  refine z_aload_n hC (q := 1) dL_law_1090 rfl rfl ?_
  refine z_iload hC (q := 0) dL_law_1091 rfl ?_
  refine z_iconst hC (v := nI 1) (by decide) dL_law_1093 ?_
  refine z_iadd hC dL_law_1094 ?_
  refine z_sldc hC hX hbl hbA (i := i) (c := 1) (by omega) hLs dL_law_1095 ?_
  refine z_aload_n hC (q := 1) dL_law_1096 rfl rfl ?_
  refine z_iload hC (q := 0) dL_law_1097 rfl ?_
  refine z_iconst hC (v := nI 2) (by decide) dL_law_1099 ?_
  refine z_iadd hC dL_law_1100 ?_
  refine z_sldc hC hX hbl hbA (i := i) (c := 2) (by omega) hLs dL_law_1101 ?_
  refine z_callV (As := [.int (xs (i + 1)), .int (xs (i + 2))]) (rest := [.int r1]) hC (c_X12_unpackedAt _ _ _ _ _ _ _ _ _ _ _ hw) (z_gV ml_RL_154 im_X12_unpackedAt se_X12_unpackedAt ini_RX12 co_X12_unpackedAt) z_cls12 hpm ⟨rfl, rfl⟩ dL_law_1102 (na := 2) (by decide) rfl (by rw [hRm]; exact ⟨Nat.le_of_ble_eq_true rfl, Nat.le_of_ble_eq_true rfl⟩) (by exact ⟨by omega, by omega⟩) rfl (Nat.le_of_ble_eq_true rfl) ?_
  rintro _ K N I L R ⟨r2, rfl, rfl, rfl, rfl, rfl, ⟨hr, hcpl⟩⟩
  refine z_icmp_eq hC (tgt := 1490) dL_law_1105 (by decide) (fun _ => ?_) (fun hc => absurd (by rw [hr]) hc)
  exact kk _ _ _ _ _ _ _ (by omega) (by omega) ⟨hcpl, h.2⟩
