theorem lw_44 {k : Nat} (h : k < 44) : k = 0 ∨ k = 1 ∨ k = 2 ∨ k = 3 ∨ k = 4 ∨ k = 5 ∨ k = 6 ∨ k = 7 ∨ k = 8 ∨ k = 9 ∨ k = 10 ∨ k = 11 ∨ k = 12 ∨ k = 13 ∨ k = 14 ∨ k = 15 ∨ k = 16 ∨ k = 17 ∨ k = 18 ∨ k = 19 ∨ k = 20 ∨ k = 21 ∨ k = 22 ∨ k = 23 ∨ k = 24 ∨ k = 25 ∨ k = 26 ∨ k = 27 ∨ k = 28 ∨ k = 29 ∨ k = 30 ∨ k = 31 ∨ k = 32 ∨ k = 33 ∨ k = 34 ∨ k = 35 ∨ k = 36 ∨ k = 37 ∨ k = 38 ∨ k = 39 ∨ k = 40 ∨ k = 41 ∨ k = 42 ∨ k = 43 := by omega
theorem lw_gt {Ls i : Nat} (hLs : Ls ≤ 3072) (hi : i ≤ 3072) (h : ¬ nI Ls - nI 6 < nI i) : i + 6 ≤ Ls := by
  by_cases c : 6 ≤ Ls
  · rw [subN c, ltN (by omega) (by omega)] at h
    omega
  · exfalso
    apply h
    have h1 : nI Ls - nI 6 < 0 := by
      rcases (show Ls = 0 ∨ Ls = 1 ∨ Ls = 2 ∨ Ls = 3 ∨ Ls = 4 ∨ Ls = 5 by omega) with rfl | rfl | rfl | rfl | rfl | rfl <;> decide
    exact Int32.lt_of_lt_of_le h1 (le0n (by omega))
set_option maxHeartbeats 4000000 in
set_option maxRecDepth 20000 in
theorem lw_loop {X : ZX} {G : ZG} {Qf : State → Prop} {b Ls x m z : Nat} {xs : Nat → Int32} (hC : ZOk X G RL cL_law 7 (some .boolean)) (hZ : zxS G X.2.2.2.2.1) (hfl : X.2.1.stackTraces = false) (hRm : X.2.2.2.1 = room_1) (hX : va_X b Ls xs X.2.2.2.2.1 X.2.2.2.2.1.heap) (hbl : b < X.2.2.2.2.1.heap.size) (hbA : ¬ z_A G b) (hLs : Ls ≤ 3072)
    (hend : ∀ (mc ms : Nat) (K N : MK) (I : MI) (L : ML) (R : MR) (lv : List (Nat × Value)), mc ≤ 601024 → ms ≤ 7293034 → Z X G 7 mc ms Qf K N I L R 1496 lv []) :
    ∀ (n i mc ms : Nat) (K N : MK) (I : MI) (L : ML) (R : MR), n = 3072 - i → i ≤ 3072 → mc ≤ 1000 + i → ms ≤ 20000 + i → LINV K N I L R x m z → Z X G 7 mc ms Qf K N I L R 23 [(4, .int (nI i)), (0, .ref b), (1, .ref x), (2, .ref m), (3, .ref z)] [] := by
  intro n
  induction n using Nat.strongRecOn with
  | _ n ih =>
    intro i mc ms K N I L R hn hi hmc hms h
    have hcells : X.2.2.2.1.cells = 601024 ∧ X.2.2.2.1.slots = 7293034 := by rw [hRm]; exact ⟨rfl, rfl⟩
    refine z_iload hC (q := 0) dL_law_23 rfl ?_
    refine z_aload_n hC (q := 1) dL_law_25 rfl rfl ?_
    refine z_sslen hC hX hbl hbA dL_law_26 ?_
    refine z_bipush hC (v := nI 6) (by decide) dL_law_27 ?_
    refine z_isub hC dL_law_29 ?_
    refine z_icmp_gt hC (tgt := 1496) dL_law_30 (by decide) (fun _ => hend _ _ _ _ _ _ _ _ (by omega) (by omega)) (fun hc => ?_)
    have hi6 := lw_gt hLs hi hc
    have hcs : mc + 1 ≤ X.2.2.2.1.cells ∧ ms + 6 ≤ X.2.2.2.1.slots := by rw [hcells.1, hcells.2]; exact ⟨by omega, by omega⟩
    have kk : ∀ (mc1 ms1 : Nat) (K N : MK) (I : MI) (L : ML) (R : MR), mc1 ≤ mc + 1 → ms1 ≤ ms + 6 → LINV K N I L R x m z → Z X G 7 mc1 ms1 Qf K N I L R 1490 [(4, .int (nI i)), (0, .ref b), (1, .ref x), (2, .ref m), (3, .ref z)] [] := by
      intro mc1 ms1 K N I L R h1 h2 h3
      refine z_iinc hC (q := 0) (v := nI (i + 6)) (lv1 := [(4, .int (nI (i + 6))), (0, .ref b), (1, .ref x), (2, .ref m), (3, .ref z)]) dL_law_1490 rfl (nI_add i 6) (by decide) rfl ?_
      refine z_goto hC (tgt := 23) dL_law_1493 (by decide) ?_
      exact ih (3072 - (i + 6)) (by omega) (i + 6) mc1 ms1 K N I L R rfl (by omega) (by omega) (by omega) h3
    refine z_aload_n hC (q := 1) dL_law_33 rfl rfl ?_
    refine z_iload hC (q := 0) dL_law_34 rfl ?_
    refine z_sld0 hC hX hbl hbA (by omega) hLs dL_law_36 ?_
    refine z_bipush hC (v := 63) (by decide) dL_law_37 ?_
    refine z_iand hC dL_law_39 ?_
    obtain ⟨k, hk, e⟩ := pk_andE (xs i) (m := 63) 6 (by decide)
    by_cases h44 : k < 44
    · rcases lw_44 h44 with rfl | rfl | rfl | rfl | rfl | rfl | rfl | rfl | rfl | rfl | rfl | rfl | rfl | rfl | rfl | rfl | rfl | rfl | rfl | rfl | rfl | rfl | rfl | rfl | rfl | rfl | rfl | rfl | rfl | rfl | rfl | rfl | rfl | rfl | rfl | rfl | rfl | rfl | rfl | rfl | rfl | rfl | rfl | rfl
      · exact z_tableIn hC (off := 192) (nI 0) e dL_law_40 (by decide +kernel) (tgt := 232) (by decide) (lw_c0 hC hZ hfl hRm hX hbl hbA hi6 hLs hcs h kk)
      · exact z_tableIn hC (off := 265) (nI 1) e dL_law_40 (by decide +kernel) (tgt := 305) (by decide) (lw_c1 hC hZ hfl hRm hX hbl hbA hi6 hLs hcs h kk)
      · exact z_tableIn hC (off := 290) (nI 2) e dL_law_40 (by decide +kernel) (tgt := 330) (by decide) (lw_c2 hC hZ hfl hRm hX hbl hbA hi6 hLs hcs h kk)
      · exact z_tableIn hC (off := 303) (nI 3) e dL_law_40 (by decide +kernel) (tgt := 343) (by decide) (lw_c3 hC hZ hfl hRm hX hbl hbA hi6 hLs hcs h kk)
      · exact z_tableIn hC (off := 316) (nI 4) e dL_law_40 (by decide +kernel) (tgt := 356) (by decide) (lw_c4 hC hZ hfl hRm hX hbl hbA hi6 hLs hcs h kk)
      · exact z_tableIn hC (off := 353) (nI 5) e dL_law_40 (by decide +kernel) (tgt := 393) (by decide) (lw_c5 hC hZ hfl hRm hX hbl hbA hi6 hLs hcs h kk)
      · exact z_tableIn hC (off := 390) (nI 6) e dL_law_40 (by decide +kernel) (tgt := 430) (by decide) (lw_c6 hC hZ hfl hRm hX hbl hbA hi6 hLs hcs h kk)
      · exact z_tableIn hC (off := 427) (nI 7) e dL_law_40 (by decide +kernel) (tgt := 467) (by decide) (lw_c7 hC hZ hfl hRm hX hbl hbA hi6 hLs hcs h kk)
      · exact z_tableIn hC (off := 464) (nI 8) e dL_law_40 (by decide +kernel) (tgt := 504) (by decide) (lw_c8 hC hZ hfl hRm hX hbl hbA hi6 hLs hcs h kk)
      · exact z_tableIn hC (off := 489) (nI 9) e dL_law_40 (by decide +kernel) (tgt := 529) (by decide) (lw_c9 hC hZ hfl hRm hX hbl hbA hi6 hLs hcs h kk)
      · exact z_tableIn hC (off := 526) (nI 10) e dL_law_40 (by decide +kernel) (tgt := 566) (by decide) (lw_c10 hC hZ hfl hRm hX hbl hbA hi6 hLs hcs h kk)
      · exact z_tableIn hC (off := 551) (nI 11) e dL_law_40 (by decide +kernel) (tgt := 591) (by decide) (lw_c11 hC hZ hfl hRm hX hbl hbA hi6 hLs hcs h kk)
      · exact z_tableIn hC (off := 576) (nI 12) e dL_law_40 (by decide +kernel) (tgt := 616) (by decide) (lw_c12 hC hZ hfl hRm hX hbl hbA hi6 hLs hcs h kk)
      · exact z_tableIn hC (off := 601) (nI 13) e dL_law_40 (by decide +kernel) (tgt := 641) (by decide) (lw_c13 hC hZ hfl hRm hX hbl hbA hi6 hLs hcs h kk)
      · exact z_tableIn hC (off := 669) (nI 14) e dL_law_40 (by decide +kernel) (tgt := 709) (by decide) (lw_c14 hC hZ hfl hRm hX hbl hbA hi6 hLs hcs h kk)
      · exact z_tableIn hC (off := 706) (nI 15) e dL_law_40 (by decide +kernel) (tgt := 746) (by decide) (lw_c15 hC hZ hfl hRm hX hbl hbA hi6 hLs hcs h kk)
      · exact z_tableIn hC (off := 731) (nI 16) e dL_law_40 (by decide +kernel) (tgt := 771) (by decide) (lw_c16 hC hZ hfl hRm hX hbl hbA hi6 hLs hcs h kk)
      · exact z_tableIn hC (off := 756) (nI 17) e dL_law_40 (by decide +kernel) (tgt := 796) (by decide) (lw_c17 hC hZ hfl hRm hX hbl hbA hi6 hLs hcs h kk)
      · exact z_tableIn hC (off := 781) (nI 18) e dL_law_40 (by decide +kernel) (tgt := 821) (by decide) (lw_c18 hC hZ hfl hRm hX hbl hbA hi6 hLs hcs h kk)
      · exact z_tableIn hC (off := 818) (nI 19) e dL_law_40 (by decide +kernel) (tgt := 858) (by decide) (lw_c19 hC hZ hfl hRm hX hbl hbA hi6 hLs hcs h kk)
      · exact z_tableIn hC (off := 855) (nI 20) e dL_law_40 (by decide +kernel) (tgt := 895) (by decide) (lw_c20 hC hZ hfl hRm hX hbl hbA hi6 hLs hcs h kk)
      · exact z_tableIn hC (off := 880) (nI 21) e dL_law_40 (by decide +kernel) (tgt := 920) (by decide) (lw_c21 hC hZ hfl hRm hX hbl hbA hi6 hLs hcs h kk)
      · exact z_tableIn hC (off := 905) (nI 22) e dL_law_40 (by decide +kernel) (tgt := 945) (by decide) (lw_c22 hC hZ hfl hRm hX hbl hbA hi6 hLs hcs h kk)
      · exact z_tableIn hC (off := 930) (nI 23) e dL_law_40 (by decide +kernel) (tgt := 970) (by decide) (lw_c23 hC hZ hfl hRm hX hbl hbA hi6 hLs hcs h kk)
      · exact z_tableIn hC (off := 943) (nI 24) e dL_law_40 (by decide +kernel) (tgt := 983) (by decide) (lw_c24 hC hZ hfl hRm hX hbl hbA hi6 hLs hcs h kk)
      · exact z_tableIn hC (off := 956) (nI 25) e dL_law_40 (by decide +kernel) (tgt := 996) (by decide) (lw_c25 hC hZ hfl hRm hX hbl hbA hi6 hLs hcs h kk)
      · exact z_tableIn hC (off := 969) (nI 26) e dL_law_40 (by decide +kernel) (tgt := 1009) (by decide) (lw_c26 hC hZ hfl hRm hX hbl hbA hi6 hLs hcs h kk)
      · exact z_tableIn hC (off := 982) (nI 27) e dL_law_40 (by decide +kernel) (tgt := 1022) (by decide) (lw_c27 hC hZ hfl hRm hX hbl hbA hi6 hLs hcs h kk)
      · exact z_tableIn hC (off := 995) (nI 28) e dL_law_40 (by decide +kernel) (tgt := 1035) (by decide) (lw_c28 hC hZ hfl hRm hX hbl hbA hi6 hLs hcs h kk)
      · exact z_tableIn hC (off := 1020) (nI 29) e dL_law_40 (by decide +kernel) (tgt := 1060) (by decide) (lw_c29 hC hZ hfl hRm hX hbl hbA hi6 hLs hcs h kk)
      · exact z_tableIn hC (off := 1033) (nI 30) e dL_law_40 (by decide +kernel) (tgt := 1073) (by decide) (lw_c30 hC hZ hfl hRm hX hbl hbA hi6 hLs hcs h kk)
      · exact z_tableIn hC (off := 1070) (nI 31) e dL_law_40 (by decide +kernel) (tgt := 1110) (by decide) (lw_c31 hC hZ hfl hRm hX hbl hbA hi6 hLs hcs h kk)
      · exact z_tableIn hC (off := 1138) (nI 32) e dL_law_40 (by decide +kernel) (tgt := 1178) (by decide) (lw_c32 hC hZ hfl hRm hX hbl hbA hi6 hLs hcs h kk)
      · exact z_tableIn hC (off := 1151) (nI 33) e dL_law_40 (by decide +kernel) (tgt := 1191) (by decide) (lw_c33 hC hZ hfl hRm hX hbl hbA hi6 hLs hcs h kk)
      · exact z_tableIn hC (off := 1176) (nI 34) e dL_law_40 (by decide +kernel) (tgt := 1216) (by decide) (lw_c34 hC hZ hfl hRm hX hbl hbA hi6 hLs hcs h kk)
      · exact z_tableIn hC (off := 1201) (nI 35) e dL_law_40 (by decide +kernel) (tgt := 1241) (by decide) (lw_c35 hC hZ hfl hRm hX hbl hbA hi6 hLs hcs h kk)
      · exact z_tableIn hC (off := 1238) (nI 36) e dL_law_40 (by decide +kernel) (tgt := 1278) (by decide) (lw_c36 hC hZ hfl hRm hX hbl hbA hi6 hLs hcs h kk)
      · exact z_tableIn hC (off := 1287) (nI 37) e dL_law_40 (by decide +kernel) (tgt := 1327) (by decide) (lw_c37 hC hZ hfl hRm hX hbl hbA hi6 hLs hcs h kk)
      · exact z_tableIn hC (off := 1312) (nI 38) e dL_law_40 (by decide +kernel) (tgt := 1352) (by decide) (lw_c38 hC hZ hfl hRm hX hbl hbA hi6 hLs hcs h kk)
      · exact z_tableIn hC (off := 1337) (nI 39) e dL_law_40 (by decide +kernel) (tgt := 1377) (by decide) (lw_c39 hC hZ hfl hRm hX hbl hbA hi6 hLs hcs h kk)
      · exact z_tableIn hC (off := 1350) (nI 40) e dL_law_40 (by decide +kernel) (tgt := 1390) (by decide) (lw_c40 hC hZ hfl hRm hX hbl hbA hi6 hLs hcs h kk)
      · exact z_tableIn hC (off := 1375) (nI 41) e dL_law_40 (by decide +kernel) (tgt := 1415) (by decide) (lw_c41 hC hZ hfl hRm hX hbl hbA hi6 hLs hcs h kk)
      · exact z_tableIn hC (off := 1400) (nI 42) e dL_law_40 (by decide +kernel) (tgt := 1440) (by decide) (lw_c42 hC hZ hfl hRm hX hbl hbA hi6 hLs hcs h kk)
      · exact z_tableIn hC (off := 1425) (nI 43) e dL_law_40 (by decide +kernel) (tgt := 1465) (by decide) (lw_c43 hC hZ hfl hRm hX hbl hbA hi6 hLs hcs h kk)
    · refine z_tableOut hC (tgt := 1490) dL_law_40 (Or.inr ?_) (by decide) (kk _ _ _ _ _ _ _ (Nat.le_succ _) (by omega) h)
      rw [e]
      have hkk : k < 64 := hk
      exact (by decide : ∀ k, k < 64 → ¬ k < 44 → (43 : Int) < (nI k).toInt) k hkk h44
