def w_X12_count  (a0 : Nat) (a1 : Int32) (K : MK) (N : MK) (I : MI) (L : ML) (R : MR) (Q : Int32 → MI → Prop) : Prop := K a0 = 13 ∧ ∀ I2 : MI, I2 = mup I a0 0 0 → (a1 = 0 → ∃ b3 : Nat, R a0 14 = some b3 ∧ K b3 = 14 ∧ vp_in 0 (N b3) ∧ Q (I2 b3 (ix 0)) I2) ∧ (¬ a1 = 0 → (a1 = 1 → ∃ b6 : Nat, R a0 14 = some b6 ∧ K b6 = 14 ∧ vp_in 1 (N b6) ∧ Q (I2 b6 (ix 1)) I2) ∧ (¬ a1 = 1 → (a1 = 2 → ∃ b9 : Nat, R a0 14 = some b9 ∧ K b9 = 14 ∧ vp_in 2 (N b9) ∧ Q (I2 b9 (ix 2)) I2) ∧ (¬ a1 = 2 → (a1 = 3 → ∃ b12 : Nat, R a0 14 = some b12 ∧ K b12 = 14 ∧ vp_in 3 (N b12) ∧ Q (I2 b12 (ix 3)) I2) ∧ (¬ a1 = 3 → (a1 = 4 → ∃ b15 : Nat, R a0 14 = some b15 ∧ K b15 = 14 ∧ vp_in 4 (N b15) ∧ Q (I2 b15 (ix 4)) I2) ∧ (¬ a1 = 4 → (a1 = 5 → ∃ b18 : Nat, R a0 14 = some b18 ∧ K b18 = 14 ∧ vp_in 5 (N b18) ∧ Q (I2 b18 (ix 5)) I2) ∧ (¬ a1 = 5 → (a1 = 6 → Q (I2 a0 2) I2) ∧ (¬ a1 = 6 → Q (-1) I2)))))))
set_option maxHeartbeats 4000000 in
set_option maxRecDepth 100000 in
theorem c_X12_count  (l : Launch) (G : ZG) (a0 : Nat) (a1 : Int32) (K : MK) (N : MK) (I : MI) (L : ML) (R : MR) (Q : Int32 → MI → Prop) (h : w_X12_count a0 a1 K N I L R Q) : Met l yX12_count (.code yX12_count cX12_count 2 (some .int) :: z_tbl) rm_X12_count (z_Pc G [.ref a0, .int a1] K N I L R) (z_Qc G (qIi K N L R Q)) 0 0 (z_A G) := by
  refine z_met (by decide) (Nat.le_of_ble_eq_true rfl) (fun X hX hRm hC0 hnm => ?_)
  subst hX
  have hC : ZOk X G RX12 cX12_count 2 (some .int) := hC0
  show Z X G 2 0 0 _ K N I L R 0 [(0, .ref a0), (1, .int a1)] []
  delta w_X12_count at h
  refine z_aload_n hC (q := 0) dX12_count_0 rfl rfl ?_
  refine z_iconst hC (v := 0) k_iconst_0 dX12_count_1 ?_
  obtain ⟨hk1, h⟩ := h
  refine pf_RX12_1 hC dX12_count_2 hk1 ?_
  refine z_genI (fun I2 eI2 => ?_)
  have h := h I2 eI2
  refine z_iload_n hC (q := 1) dX12_count_5 rfl rfl ?_
  by_cases hc0 : a1 = 0
  · have h := h.1 hc0
    refine z_tableIn hC (off := 42) (tgt := 48) 0 hc0 dX12_count_6 (by decide) (by decide) ?_
    refine z_aload_n hC (q := 0) dX12_count_48 rfl rfl ?_
    obtain ⟨b3, hb3, h⟩ := h
    refine gf_RX12_98 hC dX12_count_49 hk1 hb3 ?_
    refine z_iconst hC (v := 0) k_iconst_0 dX12_count_52 ?_
    obtain ⟨hk4, h⟩ := h
    obtain ⟨hi5, h⟩ := h
    refine z_iaload hC hk4 hi5 dX12_count_53 ?_
    exact z_iret hC dX12_count_54 ⟨_, rfl, rfl, rfl, rfl, rfl, h⟩
  · have h := h.2 hc0
    by_cases hc1 : a1 = 1
    · have h := h.1 hc1
      refine z_tableIn hC (off := 49) (tgt := 55) 1 hc1 dX12_count_6 (by decide) (by decide) ?_
      refine z_aload_n hC (q := 0) dX12_count_55 rfl rfl ?_
      obtain ⟨b6, hb6, h⟩ := h
      refine gf_RX12_98 hC dX12_count_56 hk1 hb6 ?_
      refine z_iconst hC (v := 1) k_iconst_1 dX12_count_59 ?_
      obtain ⟨hk7, h⟩ := h
      obtain ⟨hi8, h⟩ := h
      refine z_iaload hC hk7 hi8 dX12_count_60 ?_
      exact z_iret hC dX12_count_61 ⟨_, rfl, rfl, rfl, rfl, rfl, h⟩
    · have h := h.2 hc1
      by_cases hc2 : a1 = 2
      · have h := h.1 hc2
        refine z_tableIn hC (off := 56) (tgt := 62) 2 hc2 dX12_count_6 (by decide) (by decide) ?_
        refine z_aload_n hC (q := 0) dX12_count_62 rfl rfl ?_
        obtain ⟨b9, hb9, h⟩ := h
        refine gf_RX12_98 hC dX12_count_63 hk1 hb9 ?_
        refine z_iconst hC (v := 2) k_iconst_2 dX12_count_66 ?_
        obtain ⟨hk10, h⟩ := h
        obtain ⟨hi11, h⟩ := h
        refine z_iaload hC hk10 hi11 dX12_count_67 ?_
        exact z_iret hC dX12_count_68 ⟨_, rfl, rfl, rfl, rfl, rfl, h⟩
      · have h := h.2 hc2
        by_cases hc3 : a1 = 3
        · have h := h.1 hc3
          refine z_tableIn hC (off := 63) (tgt := 69) 3 hc3 dX12_count_6 (by decide) (by decide) ?_
          refine z_aload_n hC (q := 0) dX12_count_69 rfl rfl ?_
          obtain ⟨b12, hb12, h⟩ := h
          refine gf_RX12_98 hC dX12_count_70 hk1 hb12 ?_
          refine z_iconst hC (v := 3) k_iconst_3 dX12_count_73 ?_
          obtain ⟨hk13, h⟩ := h
          obtain ⟨hi14, h⟩ := h
          refine z_iaload hC hk13 hi14 dX12_count_74 ?_
          exact z_iret hC dX12_count_75 ⟨_, rfl, rfl, rfl, rfl, rfl, h⟩
        · have h := h.2 hc3
          by_cases hc4 : a1 = 4
          · have h := h.1 hc4
            refine z_tableIn hC (off := 70) (tgt := 76) 4 hc4 dX12_count_6 (by decide) (by decide) ?_
            refine z_aload_n hC (q := 0) dX12_count_76 rfl rfl ?_
            obtain ⟨b15, hb15, h⟩ := h
            refine gf_RX12_98 hC dX12_count_77 hk1 hb15 ?_
            refine z_iconst hC (v := 4) k_iconst_4 dX12_count_80 ?_
            obtain ⟨hk16, h⟩ := h
            obtain ⟨hi17, h⟩ := h
            refine z_iaload hC hk16 hi17 dX12_count_81 ?_
            exact z_iret hC dX12_count_82 ⟨_, rfl, rfl, rfl, rfl, rfl, h⟩
          · have h := h.2 hc4
            by_cases hc5 : a1 = 5
            · have h := h.1 hc5
              refine z_tableIn hC (off := 77) (tgt := 83) 5 hc5 dX12_count_6 (by decide) (by decide) ?_
              refine z_aload_n hC (q := 0) dX12_count_83 rfl rfl ?_
              obtain ⟨b18, hb18, h⟩ := h
              refine gf_RX12_98 hC dX12_count_84 hk1 hb18 ?_
              refine z_iconst hC (v := 5) k_iconst_5 dX12_count_87 ?_
              obtain ⟨hk19, h⟩ := h
              obtain ⟨hi20, h⟩ := h
              refine z_iaload hC hk19 hi20 dX12_count_88 ?_
              exact z_iret hC dX12_count_89 ⟨_, rfl, rfl, rfl, rfl, rfl, h⟩
            · have h := h.2 hc5
              by_cases hc6 : a1 = 6
              · have h := h.1 hc6
                refine z_tableIn hC (off := 84) (tgt := 90) 6 hc6 dX12_count_6 (by decide) (by decide) ?_
                refine z_aload_n hC (q := 0) dX12_count_90 rfl rfl ?_
                refine gf_RX12_11 hC dX12_count_91 hk1 ?_
                exact z_iret hC dX12_count_94 ⟨_, rfl, rfl, rfl, rfl, rfl, h⟩
              · have h := h.2 hc6
                have hout : a1.toInt < 0 ∨ 6 < a1.toInt := by
                  have hc0 := z_nei hc0 (by decide : (0 : Int32).toInt = 0)
                  have hc1 := z_nei hc1 (by decide : (1 : Int32).toInt = 1)
                  have hc2 := z_nei hc2 (by decide : (2 : Int32).toInt = 2)
                  have hc3 := z_nei hc3 (by decide : (3 : Int32).toInt = 3)
                  have hc4 := z_nei hc4 (by decide : (4 : Int32).toInt = 4)
                  have hc5 := z_nei hc5 (by decide : (5 : Int32).toInt = 5)
                  have hc6 := z_nei hc6 (by decide : (6 : Int32).toInt = 6)
                  omega
                refine z_tableOut hC (tgt := 95) dX12_count_6 hout (by decide) ?_
                refine z_iconst hC (v := (-1)) k_iconst_m1 dX12_count_95 ?_
                exact z_iret hC dX12_count_96 ⟨_, rfl, rfl, rfl, rfl, rfl, h⟩
