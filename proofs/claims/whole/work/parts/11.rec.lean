def w_X12_writeWord (W_X12_writeWord : Nat → Int64 → MK → MK → MI → ML → MR → (MI → Prop) → Prop) (a0 : Nat) (a1 : Int64) (K : MK) (N : MK) (I : MI) (L : ML) (R : MR) (Q : MI → Prop) : Prop := ((lg_cmp a1 27) < 0 → K a0 = 13 ∧ w_X12_write a0 ((96 : Int32) + (Int64.toInt32 (a1 - a1 / 27 * 27))) K N I L R (fun I2 => Q I2)) ∧ (¬ (lg_cmp a1 27) < 0 → K a0 = 13 ∧ W_X12_writeWord a0 (a1 / 27) K N I L R (fun I4 => w_X12_write a0 ((96 : Int32) + (Int64.toInt32 (a1 - a1 / 27 * 27))) K N I4 L R (fun I5 => Q I5)))
set_option maxHeartbeats 4000000 in
set_option maxRecDepth 100000 in
theorem c_X12_writeWord {f lo f0 lo0 : Nat} {W_X12_writeWord : Nat → Int64 → MK → MK → MI → ML → MR → (MI → Prop) → Prop} (l : Launch) (G : ZG) (a0 : Nat) (a1 : Int64) (K : MK) (N : MK) (I : MI) (L : ML) (R : MR) (Q : MI → Prop) (hF : 1 ≤ f ∧ 21 ≤ lo) (hO : f0 + 1 ≤ f ∧ 22 + lo0 ≤ lo) (hW_X12_writeWord : ∀ (u0 : Nat) (u1 : Int64) (K N : MK) (I : MI) (L : ML) (R : MR) (Q : MI → Prop), W_X12_writeWord u0 u1 K N I L R Q → Met l yX12_writeWord (.code yX12_writeWord cX12_writeWord 3 none :: z_tbl) { frames := f0, cells := 0, slots := 0, locals := lo0 } (z_Pc G [.ref u0, .long u1] K N I L R) (z_Qc G (qIv K N L R Q)) 0 0 (z_A G)) (h : w_X12_writeWord W_X12_writeWord a0 a1 K N I L R Q) : Met l yX12_writeWord (.code yX12_writeWord cX12_writeWord 3 none :: z_tbl) { frames := f, cells := 0, slots := 0, locals := lo } (z_Pc G [.ref a0, .long a1] K N I L R) (z_Qc G (qIv K N L R Q)) 0 0 (z_A G) := by
  refine z_met (by decide) (Nat.le_of_ble_eq_true rfl) (fun X hX hRm hC0 hnm => ?_)
  subst hX
  have hC : ZOk X G RX12 cX12_writeWord 3 none := hC0
  show Z X G 3 0 0 _ K N I L R 0 [(0, .ref a0), (1, .long a1)] []
  delta w_X12_writeWord at h
  refine z_lload_n hC (q := 1) dX12_writeWord_0 rfl rfl ?_
  refine z_ldc2 hC cst_RX12_54 dX12_writeWord_1 ?_
  refine z_lcmp hC dX12_writeWord_4 ?_
  refine z_if_lt hC (tgt := 17) dX12_writeWord_5 (by decide) (fun hc => ?_) (fun hc => ?_)
  · have h := h.1 hc
    refine z_aload_n hC (q := 0) dX12_writeWord_17 rfl rfl ?_
    refine z_bipush hC (v := 96) k_bipush_96 dX12_writeWord_18 ?_
    refine z_lload_n hC (q := 1) dX12_writeWord_20 rfl rfl ?_
    refine z_ldc2 hC cst_RX12_54 dX12_writeWord_21 ?_
    refine z_lrem hC (by decide) dX12_writeWord_24 ?_
    refine z_l2i hC dX12_writeWord_25 ?_
    refine z_iadd hC dX12_writeWord_26 ?_
    obtain ⟨hk1, h⟩ := h
    refine cl_RX12_431 hC (c_X12_write _ G a0 ((96 : Int32) + (Int64.toInt32 (a1 - a1 / 27 * 27))) K N I L R _ h) hk1 dX12_writeWord_27 (by rw [hRm]; exact ⟨Nat.le_trans (Nat.le_of_ble_eq_true rfl) hF.1, Nat.le_trans (Nat.le_of_ble_eq_true rfl) hF.2⟩) ⟨Nat.zero_le _, Nat.zero_le _⟩ (Nat.le_of_ble_eq_true rfl) (z_kIv (I := I) (fun I2 h => ?_))
    exact z_vret hC dX12_writeWord_30 ⟨rfl, rfl, rfl, rfl, rfl, h⟩
  · have h := h.2 hc
    refine z_aload_n hC (q := 0) dX12_writeWord_8 rfl rfl ?_
    refine z_lload_n hC (q := 1) dX12_writeWord_9 rfl rfl ?_
    refine z_ldc2 hC cst_RX12_54 dX12_writeWord_10 ?_
    refine z_ldiv hC (by decide) dX12_writeWord_13 ?_
    obtain ⟨hk3, h⟩ := h
    refine cl_RX12_427 hC (hrc := ⟨rfl, rfl⟩) (hW_X12_writeWord a0 (a1 / 27) K N I L R _ h) hk3 dX12_writeWord_14 (by rw [hRm]; exact ⟨hO.1, by have := hO.2; show 8 + (3 + 11) + lo0 ≤ lo; omega⟩) ⟨Nat.zero_le _, Nat.zero_le _⟩ (Nat.le_of_ble_eq_true rfl) (z_kIv (I := I) (fun I4 h => ?_))
    refine z_aload_n hC (q := 0) dX12_writeWord_17 rfl rfl ?_
    refine z_bipush hC (v := 96) k_bipush_96 dX12_writeWord_18 ?_
    refine z_lload_n hC (q := 1) dX12_writeWord_20 rfl rfl ?_
    refine z_ldc2 hC cst_RX12_54 dX12_writeWord_21 ?_
    refine z_lrem hC (by decide) dX12_writeWord_24 ?_
    refine z_l2i hC dX12_writeWord_25 ?_
    refine z_iadd hC dX12_writeWord_26 ?_
    refine cl_RX12_431 hC (c_X12_write _ G a0 ((96 : Int32) + (Int64.toInt32 (a1 - a1 / 27 * 27))) K N I4 L R _ h) hk3 dX12_writeWord_27 (by rw [hRm]; exact ⟨Nat.le_trans (Nat.le_of_ble_eq_true rfl) hF.1, Nat.le_trans (Nat.le_of_ble_eq_true rfl) hF.2⟩) ⟨Nat.zero_le _, Nat.zero_le _⟩ (Nat.le_of_ble_eq_true rfl) (z_kIv (I := I4) (fun I5 h => ?_))
    exact z_vret hC dX12_writeWord_30 ⟨rfl, rfl, rfl, rfl, rfl, h⟩
def w_X12_writeNumber (W_X12_writeNumber : Nat → Int32 → MK → MK → MI → ML → MR → (MI → Prop) → Prop) (a0 : Nat) (a1 : Int32) (K : MK) (N : MK) (I : MI) (L : ML) (R : MR) (Q : MI → Prop) : Prop := (a1 ≤ 9 → K a0 = 13 ∧ w_X12_write a0 ((48 : Int32) + (a1 - a1 / 10 * 10)) K N I L R (fun I2 => Q I2)) ∧ (¬ a1 ≤ 9 → K a0 = 13 ∧ W_X12_writeNumber a0 (a1 / 10) K N I L R (fun I4 => w_X12_write a0 ((48 : Int32) + (a1 - a1 / 10 * 10)) K N I4 L R (fun I5 => Q I5)))
set_option maxHeartbeats 4000000 in
set_option maxRecDepth 100000 in
theorem c_X12_writeNumber {f lo f0 lo0 : Nat} {W_X12_writeNumber : Nat → Int32 → MK → MK → MI → ML → MR → (MI → Prop) → Prop} (l : Launch) (G : ZG) (a0 : Nat) (a1 : Int32) (K : MK) (N : MK) (I : MI) (L : ML) (R : MR) (Q : MI → Prop) (hF : 1 ≤ f ∧ 21 ≤ lo) (hO : f0 + 1 ≤ f ∧ 21 + lo0 ≤ lo) (hW_X12_writeNumber : ∀ (u0 : Nat) (u1 : Int32) (K N : MK) (I : MI) (L : ML) (R : MR) (Q : MI → Prop), W_X12_writeNumber u0 u1 K N I L R Q → Met l yX12_writeNumber (.code yX12_writeNumber cX12_writeNumber 2 none :: z_tbl) { frames := f0, cells := 0, slots := 0, locals := lo0 } (z_Pc G [.ref u0, .int u1] K N I L R) (z_Qc G (qIv K N L R Q)) 0 0 (z_A G)) (h : w_X12_writeNumber W_X12_writeNumber a0 a1 K N I L R Q) : Met l yX12_writeNumber (.code yX12_writeNumber cX12_writeNumber 2 none :: z_tbl) { frames := f, cells := 0, slots := 0, locals := lo } (z_Pc G [.ref a0, .int a1] K N I L R) (z_Qc G (qIv K N L R Q)) 0 0 (z_A G) := by
  refine z_met (by decide) (Nat.le_of_ble_eq_true rfl) (fun X hX hRm hC0 hnm => ?_)
  subst hX
  have hC : ZOk X G RX12 cX12_writeNumber 2 none := hC0
  show Z X G 2 0 0 _ K N I L R 0 [(0, .ref a0), (1, .int a1)] []
  delta w_X12_writeNumber at h
  refine z_iload_n hC (q := 1) dX12_writeNumber_0 rfl rfl ?_
  refine z_bipush hC (v := 9) k_bipush_9 dX12_writeNumber_1 ?_
  refine z_icmp_le hC (tgt := 14) dX12_writeNumber_3 (by decide) (fun hc => ?_) (fun hc => ?_)
  · have h := h.1 hc
    refine z_aload_n hC (q := 0) dX12_writeNumber_14 rfl rfl ?_
    refine z_bipush hC (v := 48) k_bipush_48 dX12_writeNumber_15 ?_
    refine z_iload_n hC (q := 1) dX12_writeNumber_17 rfl rfl ?_
    refine z_bipush hC (v := 10) k_bipush_10 dX12_writeNumber_18 ?_
    refine z_irem hC (by decide) dX12_writeNumber_20 ?_
    refine z_iadd hC dX12_writeNumber_21 ?_
    obtain ⟨hk1, h⟩ := h
    refine cl_RX12_431 hC (c_X12_write _ G a0 ((48 : Int32) + (a1 - a1 / 10 * 10)) K N I L R _ h) hk1 dX12_writeNumber_22 (by rw [hRm]; exact ⟨Nat.le_trans (Nat.le_of_ble_eq_true rfl) hF.1, Nat.le_trans (Nat.le_of_ble_eq_true rfl) hF.2⟩) ⟨Nat.zero_le _, Nat.zero_le _⟩ (Nat.le_of_ble_eq_true rfl) (z_kIv (I := I) (fun I2 h => ?_))
    exact z_vret hC dX12_writeNumber_25 ⟨rfl, rfl, rfl, rfl, rfl, h⟩
  · have h := h.2 hc
    refine z_aload_n hC (q := 0) dX12_writeNumber_6 rfl rfl ?_
    refine z_iload_n hC (q := 1) dX12_writeNumber_7 rfl rfl ?_
    refine z_bipush hC (v := 10) k_bipush_10 dX12_writeNumber_8 ?_
    refine z_idiv hC (by decide) dX12_writeNumber_10 ?_
    obtain ⟨hk3, h⟩ := h
    refine cl_RX12_434 hC (hrc := ⟨rfl, rfl⟩) (hW_X12_writeNumber a0 (a1 / 10) K N I L R _ h) hk3 dX12_writeNumber_11 (by rw [hRm]; exact ⟨hO.1, by have := hO.2; show 8 + (2 + 11) + lo0 ≤ lo; omega⟩) ⟨Nat.zero_le _, Nat.zero_le _⟩ (Nat.le_of_ble_eq_true rfl) (z_kIv (I := I) (fun I4 h => ?_))
    refine z_aload_n hC (q := 0) dX12_writeNumber_14 rfl rfl ?_
    refine z_bipush hC (v := 48) k_bipush_48 dX12_writeNumber_15 ?_
    refine z_iload_n hC (q := 1) dX12_writeNumber_17 rfl rfl ?_
    refine z_bipush hC (v := 10) k_bipush_10 dX12_writeNumber_18 ?_
    refine z_irem hC (by decide) dX12_writeNumber_20 ?_
    refine z_iadd hC dX12_writeNumber_21 ?_
    refine cl_RX12_431 hC (c_X12_write _ G a0 ((48 : Int32) + (a1 - a1 / 10 * 10)) K N I4 L R _ h) hk3 dX12_writeNumber_22 (by rw [hRm]; exact ⟨Nat.le_trans (Nat.le_of_ble_eq_true rfl) hF.1, Nat.le_trans (Nat.le_of_ble_eq_true rfl) hF.2⟩) ⟨Nat.zero_le _, Nat.zero_le _⟩ (Nat.le_of_ble_eq_true rfl) (z_kIv (I := I4) (fun I5 h => ?_))
    exact z_vret hC dX12_writeNumber_25 ⟨rfl, rfl, rfl, rfl, rfl, h⟩
def w_X12_holds_333 (W_X12_holds : Nat → Int32 → Int32 → MK → MK → MI → ML → MR → (Bool → MI → Prop) → Prop) (x0 : Nat) (x3 : Int32) (x5 : Int32) (s0 : Int32) (K : MK) (N : MK) (I : MI) (L : ML) (R : MR)  (Q : Bool → MI → Prop) : Prop := K x0 = 13 ∧ ∃ b31 : Nat, R x0 14 = some b31 ∧ K b31 = 14 ∧ vp_in (x3 + 3) (N b31) ∧ (¬ (I b31 (ix (x3 + 3))) = 60 → (¬ (I b31 (ix (x3 + 3))) = 61 → (s0 ≤ x5 → Q false I) ∧ (¬ s0 ≤ x5 → Q true I)) ∧ ((I b31 (ix (x3 + 3))) = 61 → (¬ s0 = x5 → Q false I) ∧ (s0 = x5 → Q true I))) ∧ ((I b31 (ix (x3 + 3))) = 60 → (x5 ≤ s0 → Q false I) ∧ (¬ x5 ≤ s0 → Q true I))
def w_X12_holds_267 (W_X12_holds : Nat → Int32 → Int32 → MK → MK → MI → ML → MR → (Bool → MI → Prop) → Prop) (x0 : Nat) (x2 : Int32) (x3 : Int32) (x5 : Int32) (x6 : Int32)  (K : MK) (N : MK) (I : MI) (L : ML) (R : MR)  (Q : Bool → MI → Prop) : Prop := (¬ x6 = 30 → (¬ x6 = 31 → (¬ x6 = 32 → w_X12_holds_333 W_X12_holds x0 x3 x5 x2 K N I L R Q) ∧ (x6 = 32 → K x0 = 13 ∧ ∃ b35 : Nat, R x0 14 = some b35 ∧ K b35 = 14 ∧ vp_in 342 (N b35) ∧ w_X12_valueOf x0 x2 (I b35 (ix 342)) K N I L R (fun r38 I39 => w_X12_holds_333 W_X12_holds x0 x3 x5 r38 K N I39 L R Q))) ∧ (x6 = 31 → K x0 = 13 ∧ w_X12_wheresOf x0 x2 K N I L R (fun r41 => w_X12_holds_333 W_X12_holds x0 x3 x5 r41 K N I L R Q))) ∧ (x6 = 30 → K x0 = 13 ∧ ∃ b43 : Nat, R x0 14 = some b43 ∧ K b43 = 14 ∧ vp_in ((124 : Int32) + x2) (N b43) ∧ vp_in ((102 : Int32) + (I b43 (ix ((124 : Int32) + x2)))) (N b43) ∧ w_X12_holds_333 W_X12_holds x0 x3 x5 (I b43 (ix ((102 : Int32) + (I b43 (ix ((124 : Int32) + x2)))))) K N I L R Q)
def w_X12_holds (W_X12_holds : Nat → Int32 → Int32 → MK → MK → MI → ML → MR → (Bool → MI → Prop) → Prop) (a0 : Nat) (a1 : Int32) (a2 : Int32) (K : MK) (N : MK) (I : MI) (L : ML) (R : MR) (Q : Bool → MI → Prop) : Prop := ∀ v1 : Int32, v1 = ((427 : Int32) + ((4 : Int32) * a1)) → K a0 = 13 ∧ ∃ b3 : Nat, R a0 14 = some b3 ∧ K b3 = 14 ∧ vp_in (v1 + 1) (N b3) ∧ ∀ v6 : Int32, v6 = (I b3 (ix (v1 + 1))) → vp_in (v1 + 2) (N b3) ∧ ∀ v8 : Int32, v8 = (I b3 (ix (v1 + 2))) → vp_in v1 (N b3) ∧ ((I b3 (ix v1)) = 1 → W_X12_holds a0 v6 a2 K N I L R (fun r10 I11 => (r10 = true → Q false I11) ∧ (r10 = false → Q true I11))) ∧ (¬ (I b3 (ix v1)) = 1 → ((I b3 (ix v1)) = 2 → W_X12_holds a0 v6 a2 K N I L R (fun r12 I13 => (r12 = false → Q false I13) ∧ (r12 = true → W_X12_holds a0 v8 a2 K N I13 L R (fun r14 I15 => (r14 = false → Q false I15) ∧ (r14 = true → Q true I15))))) ∧ (¬ (I b3 (ix v1)) = 2 → ((I b3 (ix v1)) = 3 → W_X12_holds a0 v6 a2 K N I L R (fun r16 I17 => (r16 = true → Q true I17) ∧ (r16 = false → W_X12_holds a0 v8 a2 K N I17 L R (fun r18 I19 => (r18 = false → Q false I19) ∧ (r18 = true → Q true I19))))) ∧ (¬ (I b3 (ix v1)) = 3 → ((I b3 (ix v1)) = 76 → w_X12_isThere a0 a2 K N I L R (fun r20 I21 => Q r20 I21)) ∧ (¬ (I b3 (ix v1)) = 76 → ((I b3 (ix v1)) = 77 → vp_in ((114 : Int32) + a2) (N b3) ∧ vp_in 342 (N b3) ∧ w_X12_hasAddress a0 (I b3 (ix ((114 : Int32) + a2))) (I b3 (ix 342)) K N I L R (fun r24 => Q r24 I)) ∧ (¬ (I b3 (ix v1)) = 77 → ((I b3 (ix v1)) = 78 → vp_in ((124 : Int32) + a2) (N b3) ∧ vp_in ((108 : Int32) + (I b3 (ix ((124 : Int32) + a2)))) (N b3) ∧ (¬ (I b3 (ix ((108 : Int32) + (I b3 (ix ((124 : Int32) + a2)))))) = 1 → Q false I) ∧ ((I b3 (ix ((108 : Int32) + (I b3 (ix ((124 : Int32) + a2)))))) = 1 → Q true I)) ∧ (¬ (I b3 (ix v1)) = 78 → ((I b3 (ix v1)) = 79 → vp_in ((114 : Int32) + a2) (N b3) ∧ w_X12_isBehind a0 (I b3 (ix ((114 : Int32) + a2))) v6 K N I L R (fun r28 => Q r28 I)) ∧ (¬ (I b3 (ix v1)) = 79 → ∀ v29 : Int32, v29 = ((I b3 (ix v1)) - 50) → (¬ v29 = 32 → w_X12_holds_267 W_X12_holds a0 a2 v1 v8 v29 K N I L R Q) ∧ (v29 = 32 → w_X12_isThere a0 a2 K N I L R (fun r47 I48 => (r47 = true → w_X12_holds_267 W_X12_holds a0 a2 v1 v8 v29 K N I48 L R Q) ∧ (r47 = false → Q false I48))))))))))
set_option maxHeartbeats 4000000 in
set_option maxRecDepth 100000 in
theorem z_X12_holds_333 {X : ZX} {G : ZG} {f lo f0 lo0 : Nat} {W_X12_holds : Nat → Int32 → Int32 → MK → MK → MI → ML → MR → (Bool → MI → Prop) → Prop} {x0 : Nat} {x3 : Int32} {x5 : Int32} {s0 : Int32} {K : MK} {N : MK} {I : MI} {L : ML} {R : MR}  {Q : Bool → MI → Prop} (hC : ZOk X G RX12 cX12_holds 8 (some .boolean)) (hRm : X.2.2.2.1 = { frames := f, cells := 0, slots := 0, locals := lo }) (hF : 5 ≤ f ∧ 113 ≤ lo) (hO : f0 + 1 ≤ f ∧ 27 + lo0 ≤ lo) (hW_X12_holds : ∀ (u0 : Nat) (u1 : Int32) (u2 : Int32) (K N : MK) (I : MI) (L : ML) (R : MR) (Q : Bool → MI → Prop), W_X12_holds u0 u1 u2 K N I L R Q → Met X.2.1 yX12_holds (.code yX12_holds cX12_holds 8 (some .boolean) :: z_tbl) { frames := f0, cells := 0, slots := 0, locals := lo0 } (z_Pc G [.ref u0, .int u1, .int u2] K N I L R) (z_Qc G (qIz K N L R Q)) 0 0 (z_A G)) (h : w_X12_holds_333 W_X12_holds x0 x3 x5 s0 K N I L R  Q) : Z X G 8 0 0 (z_T X G (qIz K N L R Q) 0 0) K N I L R 333 [(0, .ref x0), (3, .int x3), (5, .int x5)] [.int s0] := by
  delta w_X12_holds_333 at h
  refine z_istore hC (lv1 := [(7, .int s0), (0, .ref x0), (3, .int x3), (5, .int x5)]) dX12_holds_333 (by decide) rfl ?_
  refine z_aload_n hC (q := 1) dX12_holds_335 rfl rfl ?_
  obtain ⟨hk30, h⟩ := h
  obtain ⟨b31, hb31, h⟩ := h
  refine gf_RX12_98 hC dX12_holds_336 hk30 hb31 ?_
  refine z_iload_n hC (q := 2) dX12_holds_339 rfl rfl ?_
  refine z_iconst hC (v := 3) k_iconst_3 dX12_holds_340 ?_
  refine z_iadd hC dX12_holds_341 ?_
  obtain ⟨hk32, h⟩ := h
  obtain ⟨hi33, h⟩ := h
  refine z_iaload hC hk32 hi33 dX12_holds_342 ?_
  refine z_bipush hC (v := 60) k_bipush_60 dX12_holds_343 ?_
  refine z_icmp_ne hC (tgt := 363) dX12_holds_345 (by decide) (fun hc => ?_) (fun hc => ?_)
  · have h := h.1 hc
    refine z_aload_n hC (q := 1) dX12_holds_363 rfl rfl ?_
    refine gf_RX12_98 hC dX12_holds_364 hk30 hb31 ?_
    refine z_iload_n hC (q := 2) dX12_holds_367 rfl rfl ?_
    refine z_iconst hC (v := 3) k_iconst_3 dX12_holds_368 ?_
    refine z_iadd hC dX12_holds_369 ?_
    refine z_iaload hC hk32 hi33 dX12_holds_370 ?_
    refine z_bipush hC (v := 61) k_bipush_61 dX12_holds_371 ?_
    refine z_icmp_ne hC (tgt := 391) dX12_holds_373 (by decide) (fun hc => ?_) (fun hc => ?_)
    · have h := h.1 hc
      refine z_iload hC (q := 0) dX12_holds_391 rfl ?_
      refine z_iload hC (q := 3) dX12_holds_393 rfl ?_
      refine z_icmp_le hC (tgt := 402) dX12_holds_395 (by decide) (fun hc => ?_) (fun hc => ?_)
      · have h := h.1 hc
        refine z_iconst hC (v := 0) k_iconst_0 dX12_holds_402 ?_
        exact z_zret (b := false) hC dX12_holds_403 rfl ⟨false, rfl, rfl, rfl, rfl, rfl, h⟩
      · have h := h.2 hc
        refine z_iconst hC (v := 1) k_iconst_1 dX12_holds_398 ?_
        refine z_goto hC (tgt := 403) dX12_holds_399 (by decide) ?_
        exact z_zret (b := true) hC dX12_holds_403 rfl ⟨true, rfl, rfl, rfl, rfl, rfl, h⟩
    · have h := h.2 hc
      refine z_iload hC (q := 0) dX12_holds_376 rfl ?_
      refine z_iload hC (q := 3) dX12_holds_378 rfl ?_
      refine z_icmp_ne hC (tgt := 387) dX12_holds_380 (by decide) (fun hc => ?_) (fun hc => ?_)
      · have h := h.1 hc
        refine z_iconst hC (v := 0) k_iconst_0 dX12_holds_387 ?_
        refine z_goto hC (tgt := 403) dX12_holds_388 (by decide) ?_
        exact z_zret (b := false) hC dX12_holds_403 rfl ⟨false, rfl, rfl, rfl, rfl, rfl, h⟩
      · have h := h.2 hc
        refine z_iconst hC (v := 1) k_iconst_1 dX12_holds_383 ?_
        refine z_goto hC (tgt := 403) dX12_holds_384 (by decide) ?_
        exact z_zret (b := true) hC dX12_holds_403 rfl ⟨true, rfl, rfl, rfl, rfl, rfl, h⟩
  · have h := h.2 hc
    refine z_iload hC (q := 0) dX12_holds_348 rfl ?_
    refine z_iload hC (q := 3) dX12_holds_350 rfl ?_
    refine z_icmp_ge hC (tgt := 359) dX12_holds_352 (by decide) (fun hc => ?_) (fun hc => ?_)
    · have h := h.1 hc
      refine z_iconst hC (v := 0) k_iconst_0 dX12_holds_359 ?_
      refine z_goto hC (tgt := 403) dX12_holds_360 (by decide) ?_
      exact z_zret (b := false) hC dX12_holds_403 rfl ⟨false, rfl, rfl, rfl, rfl, rfl, h⟩
    · have h := h.2 hc
      refine z_iconst hC (v := 1) k_iconst_1 dX12_holds_355 ?_
      refine z_goto hC (tgt := 403) dX12_holds_356 (by decide) ?_
      exact z_zret (b := true) hC dX12_holds_403 rfl ⟨true, rfl, rfl, rfl, rfl, rfl, h⟩
set_option maxHeartbeats 4000000 in
set_option maxRecDepth 100000 in
theorem z_X12_holds_267 {X : ZX} {G : ZG} {f lo f0 lo0 : Nat} {W_X12_holds : Nat → Int32 → Int32 → MK → MK → MI → ML → MR → (Bool → MI → Prop) → Prop} {x0 : Nat} {x2 : Int32} {x3 : Int32} {x5 : Int32} {x6 : Int32}  {K : MK} {N : MK} {I : MI} {L : ML} {R : MR}  {Q : Bool → MI → Prop} (hC : ZOk X G RX12 cX12_holds 8 (some .boolean)) (hRm : X.2.2.2.1 = { frames := f, cells := 0, slots := 0, locals := lo }) (hF : 5 ≤ f ∧ 113 ≤ lo) (hO : f0 + 1 ≤ f ∧ 27 + lo0 ≤ lo) (hW_X12_holds : ∀ (u0 : Nat) (u1 : Int32) (u2 : Int32) (K N : MK) (I : MI) (L : ML) (R : MR) (Q : Bool → MI → Prop), W_X12_holds u0 u1 u2 K N I L R Q → Met X.2.1 yX12_holds (.code yX12_holds cX12_holds 8 (some .boolean) :: z_tbl) { frames := f0, cells := 0, slots := 0, locals := lo0 } (z_Pc G [.ref u0, .int u1, .int u2] K N I L R) (z_Qc G (qIz K N L R Q)) 0 0 (z_A G)) (h : w_X12_holds_267 W_X12_holds x0 x2 x3 x5 x6 K N I L R  Q) : Z X G 8 0 0 (z_T X G (qIz K N L R Q) 0 0) K N I L R 267 [(0, .ref x0), (2, .int x2), (3, .int x3), (5, .int x5), (6, .int x6)] [] := by
  delta w_X12_holds_267 at h
  refine z_iload hC (q := 4) dX12_holds_267 rfl ?_
  refine z_bipush hC (v := 30) k_bipush_30 dX12_holds_269 ?_
  refine z_icmp_ne hC (tgt := 294) dX12_holds_271 (by decide) (fun hc => ?_) (fun hc => ?_)
  · have h := h.1 hc
    refine z_iload hC (q := 4) dX12_holds_294 rfl ?_
    refine z_bipush hC (v := 31) k_bipush_31 dX12_holds_296 ?_
    refine z_icmp_ne hC (tgt := 309) dX12_holds_298 (by decide) (fun hc => ?_) (fun hc => ?_)
    · have h := h.1 hc
      refine z_iload hC (q := 4) dX12_holds_309 rfl ?_
      refine z_bipush hC (v := 32) k_bipush_32 dX12_holds_311 ?_
      refine z_icmp_ne hC (tgt := 332) dX12_holds_313 (by decide) (fun hc => ?_) (fun hc => ?_)
      · have h := h.1 hc
        refine z_iload_n hC (q := 1) dX12_holds_332 rfl rfl ?_
        exact z_sub [(0, .ref x0), (3, .int x3), (5, .int x5)] [0, 2, 3] rfl (z_X12_holds_333 hC hRm hF hO hW_X12_holds h)
      · have h := h.2 hc
        refine z_aload_n hC (q := 0) dX12_holds_316 rfl rfl ?_
        refine z_iload_n hC (q := 1) dX12_holds_317 rfl rfl ?_
        refine z_aload_n hC (q := 0) dX12_holds_318 rfl rfl ?_
        obtain ⟨hk34, h⟩ := h
        obtain ⟨b35, hb35, h⟩ := h
        refine gf_RX12_98 hC dX12_holds_319 hk34 hb35 ?_
        refine z_sipush hC (v := 342) k_sipush_342 dX12_holds_322 ?_
        obtain ⟨hk36, h⟩ := h
        obtain ⟨hi37, h⟩ := h
        refine z_iaload hC hk36 hi37 dX12_holds_325 ?_
        refine cl_RX12_317 hC (c_X12_valueOf _ G x0 x2 (I b35 (ix 342)) K N I L R _ h) hk34 dX12_holds_326 (by rw [hRm]; exact ⟨Nat.le_trans (Nat.le_of_ble_eq_true rfl) hF.1, Nat.le_trans (Nat.le_of_ble_eq_true rfl) hF.2⟩) ⟨Nat.zero_le _, Nat.zero_le _⟩ (Nat.le_of_ble_eq_true rfl) (z_kIi (I := I) (fun r38 I39 h => ?_))
        refine z_goto hC (tgt := 333) dX12_holds_329 (by decide) ?_
        exact z_sub [(0, .ref x0), (3, .int x3), (5, .int x5)] [0, 2, 3] rfl (z_X12_holds_333 hC hRm hF hO hW_X12_holds h)
    · have h := h.2 hc
      refine z_aload_n hC (q := 0) dX12_holds_301 rfl rfl ?_
      refine z_iload_n hC (q := 1) dX12_holds_302 rfl rfl ?_
      obtain ⟨hk40, h⟩ := h
      refine cl_RX12_326 hC (c_X12_wheresOf _ G x0 x2 K N I L R _ h) hk40 dX12_holds_303 (by rw [hRm]; exact ⟨Nat.le_trans (Nat.le_of_ble_eq_true rfl) hF.1, Nat.le_trans (Nat.le_of_ble_eq_true rfl) hF.2⟩) ⟨Nat.zero_le _, Nat.zero_le _⟩ (Nat.le_of_ble_eq_true rfl) (z_kPi (fun r41 h => ?_))
      refine z_goto hC (tgt := 333) dX12_holds_306 (by decide) ?_
      exact z_sub [(0, .ref x0), (3, .int x3), (5, .int x5)] [0, 2, 3] rfl (z_X12_holds_333 hC hRm hF hO hW_X12_holds h)
  · have h := h.2 hc
    refine z_aload_n hC (q := 0) dX12_holds_274 rfl rfl ?_
    obtain ⟨hk42, h⟩ := h
    obtain ⟨b43, hb43, h⟩ := h
    refine gf_RX12_98 hC dX12_holds_275 hk42 hb43 ?_
    refine z_bipush hC (v := 102) k_bipush_102 dX12_holds_278 ?_
    refine z_aload_n hC (q := 0) dX12_holds_280 rfl rfl ?_
    refine gf_RX12_98 hC dX12_holds_281 hk42 hb43 ?_
    refine z_bipush hC (v := 124) k_bipush_124 dX12_holds_284 ?_
    refine z_iload_n hC (q := 1) dX12_holds_286 rfl rfl ?_
    refine z_iadd hC dX12_holds_287 ?_
    obtain ⟨hk44, h⟩ := h
    obtain ⟨hi45, h⟩ := h
    refine z_iaload hC hk44 hi45 dX12_holds_288 ?_
    refine z_iadd hC dX12_holds_289 ?_
    obtain ⟨hi46, h⟩ := h
    refine z_iaload hC hk44 hi46 dX12_holds_290 ?_
    refine z_goto hC (tgt := 333) dX12_holds_291 (by decide) ?_
    exact z_sub [(0, .ref x0), (3, .int x3), (5, .int x5)] [0, 2, 3] rfl (z_X12_holds_333 hC hRm hF hO hW_X12_holds h)
set_option maxHeartbeats 4000000 in
set_option maxRecDepth 100000 in
theorem c_X12_holds {f lo f0 lo0 : Nat} {W_X12_holds : Nat → Int32 → Int32 → MK → MK → MI → ML → MR → (Bool → MI → Prop) → Prop} (l : Launch) (G : ZG) (a0 : Nat) (a1 : Int32) (a2 : Int32) (K : MK) (N : MK) (I : MI) (L : ML) (R : MR) (Q : Bool → MI → Prop) (hF : 5 ≤ f ∧ 113 ≤ lo) (hO : f0 + 1 ≤ f ∧ 27 + lo0 ≤ lo) (hW_X12_holds : ∀ (u0 : Nat) (u1 : Int32) (u2 : Int32) (K N : MK) (I : MI) (L : ML) (R : MR) (Q : Bool → MI → Prop), W_X12_holds u0 u1 u2 K N I L R Q → Met l yX12_holds (.code yX12_holds cX12_holds 8 (some .boolean) :: z_tbl) { frames := f0, cells := 0, slots := 0, locals := lo0 } (z_Pc G [.ref u0, .int u1, .int u2] K N I L R) (z_Qc G (qIz K N L R Q)) 0 0 (z_A G)) (h : w_X12_holds W_X12_holds a0 a1 a2 K N I L R Q) : Met l yX12_holds (.code yX12_holds cX12_holds 8 (some .boolean) :: z_tbl) { frames := f, cells := 0, slots := 0, locals := lo } (z_Pc G [.ref a0, .int a1, .int a2] K N I L R) (z_Qc G (qIz K N L R Q)) 0 0 (z_A G) := by
  refine z_met (by decide) (Nat.le_of_ble_eq_true rfl) (fun X hX hRm hC0 hnm => ?_)
  subst hX
  have hC : ZOk X G RX12 cX12_holds 8 (some .boolean) := hC0
  show Z X G 8 0 0 _ K N I L R 0 [(0, .ref a0), (1, .int a1), (2, .int a2)] []
  delta w_X12_holds at h
  refine z_sipush hC (v := 427) k_sipush_427 dX12_holds_0 ?_
  refine z_iconst hC (v := 4) k_iconst_4 dX12_holds_3 ?_
  refine z_iload_n hC (q := 1) dX12_holds_4 rfl rfl ?_
  refine z_imul hC dX12_holds_5 ?_
  refine z_iadd hC dX12_holds_6 ?_
  refine z_topi (fun v1 ev1 => ?_)
  have h := h v1 ev1
  refine z_istore_n hC (lv1 := [(3, .int v1), (0, .ref a0), (1, .int a1), (2, .int a2)]) dX12_holds_7 rfl (by decide) rfl ?_
  refine z_aload_n hC (q := 1) dX12_holds_8 rfl rfl ?_
  obtain ⟨hk2, h⟩ := h
  obtain ⟨b3, hb3, h⟩ := h
  refine gf_RX12_98 hC dX12_holds_9 hk2 hb3 ?_
  refine z_iload_n hC (q := 0) dX12_holds_12 rfl rfl ?_
  refine z_iconst hC (v := 1) k_iconst_1 dX12_holds_13 ?_
  refine z_iadd hC dX12_holds_14 ?_
  obtain ⟨hk4, h⟩ := h
  obtain ⟨hi5, h⟩ := h
  refine z_iaload hC hk4 hi5 dX12_holds_15 ?_
  refine z_topi (fun v6 ev6 => ?_)
  have h := h v6 ev6
  refine z_istore hC (lv1 := [(4, .int v6), (3, .int v1), (0, .ref a0), (1, .int a1), (2, .int a2)]) dX12_holds_16 (by decide) rfl ?_
  refine z_aload_n hC (q := 2) dX12_holds_18 rfl rfl ?_
  refine gf_RX12_98 hC dX12_holds_19 hk2 hb3 ?_
  refine z_iload_n hC (q := 1) dX12_holds_22 rfl rfl ?_
  refine z_iconst hC (v := 2) k_iconst_2 dX12_holds_23 ?_
  refine z_iadd hC dX12_holds_24 ?_
  obtain ⟨hi7, h⟩ := h
  refine z_iaload hC hk4 hi7 dX12_holds_25 ?_
  refine z_topi (fun v8 ev8 => ?_)
  have h := h v8 ev8
  refine z_istore hC (lv1 := [(5, .int v8), (4, .int v6), (3, .int v1), (0, .ref a0), (1, .int a1), (2, .int a2)]) dX12_holds_26 (by decide) rfl ?_
  refine z_aload_n hC (q := 3) dX12_holds_28 rfl rfl ?_
  refine gf_RX12_98 hC dX12_holds_29 hk2 hb3 ?_
  refine z_iload_n hC (q := 2) dX12_holds_32 rfl rfl ?_
  obtain ⟨hi9, h⟩ := h
  refine z_iaload hC hk4 hi9 dX12_holds_33 ?_
  by_cases hc0 : (I b3 (ix v1)) = 1
  · have h := h.1 hc0
    refine z_lookup hC (off := 66) (tgt := 100) dX12_holds_34 (by decide) (by rw [hc0]; decide) (by decide) ?_
    refine z_aload_n hC (q := 3) dX12_holds_100 rfl rfl ?_
    refine z_iload hC (q := 1) dX12_holds_101 rfl ?_
    refine z_iload_n hC (q := 5) dX12_holds_103 rfl rfl ?_
    refine cl_RX12_518 hC (hrc := ⟨rfl, rfl⟩) (hW_X12_holds a0 v6 a2 K N I L R _ h) hk2 dX12_holds_104 (by rw [hRm]; exact ⟨hO.1, by have := hO.2; show 8 + (8 + 11) + lo0 ≤ lo; omega⟩) ⟨Nat.zero_le _, Nat.zero_le _⟩ (Nat.le_of_ble_eq_true rfl) (z_kIz (I := I) (fun r10 I11 h => ?_))
    refine z_ifz_ne hC (tgt := 114) dX12_holds_107 (by decide) (fun hc => ?_) (fun hc => ?_)
    · have h := h.1 hc
      refine z_iconst hC (v := 0) k_iconst_0 dX12_holds_114 ?_
      exact z_zret (b := false) hC dX12_holds_115 rfl ⟨false, rfl, rfl, rfl, rfl, rfl, h⟩
    · have h := h.2 hc
      refine z_iconst hC (v := 1) k_iconst_1 dX12_holds_110 ?_
      refine z_goto hC (tgt := 115) dX12_holds_111 (by decide) ?_
      exact z_zret (b := true) hC dX12_holds_115 rfl ⟨true, rfl, rfl, rfl, rfl, rfl, h⟩
  · have h := h.2 hc0
    by_cases hc1 : (I b3 (ix v1)) = 2
    · have h := h.1 hc1
      refine z_lookup hC (off := 82) (tgt := 116) dX12_holds_34 (by decide) (by rw [hc1]; decide) (by decide) ?_
      refine z_aload_n hC (q := 3) dX12_holds_116 rfl rfl ?_
      refine z_iload hC (q := 1) dX12_holds_117 rfl ?_
      refine z_iload_n hC (q := 5) dX12_holds_119 rfl rfl ?_
      refine cl_RX12_518 hC (hrc := ⟨rfl, rfl⟩) (hW_X12_holds a0 v6 a2 K N I L R _ h) hk2 dX12_holds_120 (by rw [hRm]; exact ⟨hO.1, by have := hO.2; show 8 + (8 + 11) + lo0 ≤ lo; omega⟩) ⟨Nat.zero_le _, Nat.zero_le _⟩ (Nat.le_of_ble_eq_true rfl) (z_kIz (I := I) (fun r12 I13 h => ?_))
      refine z_ifz_eq hC (tgt := 140) dX12_holds_123 (by decide) (fun hc => ?_) (fun hc => ?_)
      · have h := h.1 hc
        refine z_iconst hC (v := 0) k_iconst_0 dX12_holds_140 ?_
        exact z_zret (b := false) hC dX12_holds_141 rfl ⟨false, rfl, rfl, rfl, rfl, rfl, h⟩
      · have h := h.2 hc
        refine z_aload_n hC (q := 3) dX12_holds_126 rfl rfl ?_
        refine z_iload hC (q := 0) dX12_holds_127 rfl ?_
        refine z_iload_n hC (q := 5) dX12_holds_129 rfl rfl ?_
        refine cl_RX12_518 hC (hrc := ⟨rfl, rfl⟩) (hW_X12_holds a0 v8 a2 K N I13 L R _ h) hk2 dX12_holds_130 (by rw [hRm]; exact ⟨hO.1, by have := hO.2; show 8 + (8 + 11) + lo0 ≤ lo; omega⟩) ⟨Nat.zero_le _, Nat.zero_le _⟩ (Nat.le_of_ble_eq_true rfl) (z_kIz (I := I13) (fun r14 I15 h => ?_))
        refine z_ifz_eq hC (tgt := 140) dX12_holds_133 (by decide) (fun hc => ?_) (fun hc => ?_)
        · have h := h.1 hc
          refine z_iconst hC (v := 0) k_iconst_0 dX12_holds_140 ?_
          exact z_zret (b := false) hC dX12_holds_141 rfl ⟨false, rfl, rfl, rfl, rfl, rfl, h⟩
        · have h := h.2 hc
          refine z_iconst hC (v := 1) k_iconst_1 dX12_holds_136 ?_
          refine z_goto hC (tgt := 141) dX12_holds_137 (by decide) ?_
          exact z_zret (b := true) hC dX12_holds_141 rfl ⟨true, rfl, rfl, rfl, rfl, rfl, h⟩
    · have h := h.2 hc1
      by_cases hc2 : (I b3 (ix v1)) = 3
      · have h := h.1 hc2
        refine z_lookup hC (off := 108) (tgt := 142) dX12_holds_34 (by decide) (by rw [hc2]; decide) (by decide) ?_
        refine z_aload_n hC (q := 3) dX12_holds_142 rfl rfl ?_
        refine z_iload hC (q := 1) dX12_holds_143 rfl ?_
        refine z_iload_n hC (q := 5) dX12_holds_145 rfl rfl ?_
        refine cl_RX12_518 hC (hrc := ⟨rfl, rfl⟩) (hW_X12_holds a0 v6 a2 K N I L R _ h) hk2 dX12_holds_146 (by rw [hRm]; exact ⟨hO.1, by have := hO.2; show 8 + (8 + 11) + lo0 ≤ lo; omega⟩) ⟨Nat.zero_le _, Nat.zero_le _⟩ (Nat.le_of_ble_eq_true rfl) (z_kIz (I := I) (fun r16 I17 h => ?_))
        refine z_ifz_ne hC (tgt := 162) dX12_holds_149 (by decide) (fun hc => ?_) (fun hc => ?_)
        · have h := h.1 hc
          refine z_iconst hC (v := 1) k_iconst_1 dX12_holds_162 ?_
          refine z_goto hC (tgt := 167) dX12_holds_163 (by decide) ?_
          exact z_zret (b := true) hC dX12_holds_167 rfl ⟨true, rfl, rfl, rfl, rfl, rfl, h⟩
        · have h := h.2 hc
          refine z_aload_n hC (q := 3) dX12_holds_152 rfl rfl ?_
          refine z_iload hC (q := 0) dX12_holds_153 rfl ?_
          refine z_iload_n hC (q := 5) dX12_holds_155 rfl rfl ?_
          refine cl_RX12_518 hC (hrc := ⟨rfl, rfl⟩) (hW_X12_holds a0 v8 a2 K N I17 L R _ h) hk2 dX12_holds_156 (by rw [hRm]; exact ⟨hO.1, by have := hO.2; show 8 + (8 + 11) + lo0 ≤ lo; omega⟩) ⟨Nat.zero_le _, Nat.zero_le _⟩ (Nat.le_of_ble_eq_true rfl) (z_kIz (I := I17) (fun r18 I19 h => ?_))
          refine z_ifz_eq hC (tgt := 166) dX12_holds_159 (by decide) (fun hc => ?_) (fun hc => ?_)
          · have h := h.1 hc
            refine z_iconst hC (v := 0) k_iconst_0 dX12_holds_166 ?_
            exact z_zret (b := false) hC dX12_holds_167 rfl ⟨false, rfl, rfl, rfl, rfl, rfl, h⟩
          · have h := h.2 hc
            refine z_iconst hC (v := 1) k_iconst_1 dX12_holds_162 ?_
            refine z_goto hC (tgt := 167) dX12_holds_163 (by decide) ?_
            exact z_zret (b := true) hC dX12_holds_167 rfl ⟨true, rfl, rfl, rfl, rfl, rfl, h⟩
      · have h := h.2 hc2
        by_cases hc3 : (I b3 (ix v1)) = 76
        · have h := h.1 hc3
          refine z_lookup hC (off := 134) (tgt := 168) dX12_holds_34 (by decide) (by rw [hc3]; decide) (by decide) ?_
          refine z_aload_n hC (q := 3) dX12_holds_168 rfl rfl ?_
          refine z_iload_n hC (q := 5) dX12_holds_169 rfl rfl ?_
          refine cl_RX12_320 hC (c_X12_isThere _ G a0 a2 K N I L R _ h) hk2 dX12_holds_170 (by rw [hRm]; exact ⟨Nat.le_trans (Nat.le_of_ble_eq_true rfl) hF.1, Nat.le_trans (Nat.le_of_ble_eq_true rfl) hF.2⟩) ⟨Nat.zero_le _, Nat.zero_le _⟩ (Nat.le_of_ble_eq_true rfl) (z_kIz (I := I) (fun r20 I21 h => ?_))
          exact z_zret (b := r20) hC dX12_holds_173 rfl ⟨r20, rfl, rfl, rfl, rfl, rfl, h⟩
        · have h := h.2 hc3
          by_cases hc4 : (I b3 (ix v1)) = 77
          · have h := h.1 hc4
            refine z_lookup hC (off := 140) (tgt := 174) dX12_holds_34 (by decide) (by rw [hc4]; decide) (by decide) ?_
            refine z_aload_n hC (q := 3) dX12_holds_174 rfl rfl ?_
            refine z_aload_n hC (q := 3) dX12_holds_175 rfl rfl ?_
            refine gf_RX12_98 hC dX12_holds_176 hk2 hb3 ?_
            refine z_bipush hC (v := 114) k_bipush_114 dX12_holds_179 ?_
            refine z_iload_n hC (q := 5) dX12_holds_181 rfl rfl ?_
            refine z_iadd hC dX12_holds_182 ?_
            obtain ⟨hi22, h⟩ := h
            refine z_iaload hC hk4 hi22 dX12_holds_183 ?_
            refine z_aload_n hC (q := 3) dX12_holds_184 rfl rfl ?_
            refine gf_RX12_98 hC dX12_holds_185 hk2 hb3 ?_
            refine z_sipush hC (v := 342) k_sipush_342 dX12_holds_188 ?_
            obtain ⟨hi23, h⟩ := h
            refine z_iaload hC hk4 hi23 dX12_holds_191 ?_
            refine cl_RX12_276 hC (c_X12_hasAddress _ G a0 (I b3 (ix ((114 : Int32) + a2))) (I b3 (ix 342)) K N I L R _ h) hk2 dX12_holds_192 (by rw [hRm]; exact ⟨Nat.le_trans (Nat.le_of_ble_eq_true rfl) hF.1, Nat.le_trans (Nat.le_of_ble_eq_true rfl) hF.2⟩) ⟨Nat.zero_le _, Nat.zero_le _⟩ (Nat.le_of_ble_eq_true rfl) (z_kPz (fun r24 h => ?_))
            exact z_zret (b := r24) hC dX12_holds_195 rfl ⟨r24, rfl, rfl, rfl, rfl, rfl, h⟩
          · have h := h.2 hc4
            by_cases hc5 : (I b3 (ix v1)) = 78
            · have h := h.1 hc5
              refine z_lookup hC (off := 162) (tgt := 196) dX12_holds_34 (by decide) (by rw [hc5]; decide) (by decide) ?_
              refine z_aload_n hC (q := 3) dX12_holds_196 rfl rfl ?_
              refine gf_RX12_98 hC dX12_holds_197 hk2 hb3 ?_
              refine z_bipush hC (v := 108) k_bipush_108 dX12_holds_200 ?_
              refine z_aload_n hC (q := 3) dX12_holds_202 rfl rfl ?_
              refine gf_RX12_98 hC dX12_holds_203 hk2 hb3 ?_
              refine z_bipush hC (v := 124) k_bipush_124 dX12_holds_206 ?_
              refine z_iload_n hC (q := 5) dX12_holds_208 rfl rfl ?_
              refine z_iadd hC dX12_holds_209 ?_
              obtain ⟨hi25, h⟩ := h
              refine z_iaload hC hk4 hi25 dX12_holds_210 ?_
              refine z_iadd hC dX12_holds_211 ?_
              obtain ⟨hi26, h⟩ := h
              refine z_iaload hC hk4 hi26 dX12_holds_212 ?_
              refine z_iconst hC (v := 1) k_iconst_1 dX12_holds_213 ?_
              refine z_icmp_ne hC (tgt := 221) dX12_holds_214 (by decide) (fun hc => ?_) (fun hc => ?_)
              · have h := h.1 hc
                refine z_iconst hC (v := 0) k_iconst_0 dX12_holds_221 ?_
                exact z_zret (b := false) hC dX12_holds_222 rfl ⟨false, rfl, rfl, rfl, rfl, rfl, h⟩
              · have h := h.2 hc
                refine z_iconst hC (v := 1) k_iconst_1 dX12_holds_217 ?_
                refine z_goto hC (tgt := 222) dX12_holds_218 (by decide) ?_
                exact z_zret (b := true) hC dX12_holds_222 rfl ⟨true, rfl, rfl, rfl, rfl, rfl, h⟩
            · have h := h.2 hc5
              by_cases hc6 : (I b3 (ix v1)) = 79
              · have h := h.1 hc6
                refine z_lookup hC (off := 189) (tgt := 223) dX12_holds_34 (by decide) (by rw [hc6]; decide) (by decide) ?_
                refine z_aload_n hC (q := 3) dX12_holds_223 rfl rfl ?_
                refine z_aload_n hC (q := 3) dX12_holds_224 rfl rfl ?_
                refine gf_RX12_98 hC dX12_holds_225 hk2 hb3 ?_
                refine z_bipush hC (v := 114) k_bipush_114 dX12_holds_228 ?_
                refine z_iload_n hC (q := 5) dX12_holds_230 rfl rfl ?_
                refine z_iadd hC dX12_holds_231 ?_
                obtain ⟨hi27, h⟩ := h
                refine z_iaload hC hk4 hi27 dX12_holds_232 ?_
                refine z_iload hC (q := 1) dX12_holds_233 rfl ?_
                refine cl_RX12_521 hC (c_X12_isBehind _ G a0 (I b3 (ix ((114 : Int32) + a2))) v6 K N I L R _ h) hk2 dX12_holds_235 (by rw [hRm]; exact ⟨Nat.le_trans (Nat.le_of_ble_eq_true rfl) hF.1, Nat.le_trans (Nat.le_of_ble_eq_true rfl) hF.2⟩) ⟨Nat.zero_le _, Nat.zero_le _⟩ (Nat.le_of_ble_eq_true rfl) (z_kPz (fun r28 h => ?_))
                exact z_zret (b := r28) hC dX12_holds_238 rfl ⟨r28, rfl, rfl, rfl, rfl, rfl, h⟩
              · have h := h.2 hc6
                have hout : Op.lookupswitch.offset [(1, 66), (2, 82), (3, 108), (76, 134), (77, 140), (78, 162), (79, 189)] 205 (I b3 (ix v1)).toInt = 205 := z_lkOut (by intro q hq; simp only [List.mem_cons, List.not_mem_nil, or_false] at hq; rcases hq with rfl | rfl | rfl | rfl | rfl | rfl | rfl <;> first | exact z_nei hc0 (by decide) | exact z_nei hc1 (by decide) | exact z_nei hc2 (by decide) | exact z_nei hc3 (by decide) | exact z_nei hc4 (by decide) | exact z_nei hc5 (by decide) | exact z_nei hc6 (by decide))
                refine z_lookup hC (tgt := 239) dX12_holds_34 (by decide) hout (by decide) ?_
                refine z_aload_n hC (q := 3) dX12_holds_239 rfl rfl ?_
                refine gf_RX12_98 hC dX12_holds_240 hk2 hb3 ?_
                refine z_iload_n hC (q := 2) dX12_holds_243 rfl rfl ?_
                refine z_iaload hC hk4 hi9 dX12_holds_244 ?_
                refine z_bipush hC (v := 50) k_bipush_50 dX12_holds_245 ?_
                refine z_isub hC dX12_holds_247 ?_
                refine z_topi (fun v29 ev29 => ?_)
                have h := h v29 ev29
                refine z_istore hC (lv1 := [(6, .int v29), (5, .int v8), (4, .int v6), (3, .int v1), (0, .ref a0), (1, .int a1), (2, .int a2)]) dX12_holds_248 (by decide) rfl ?_
                refine z_iload hC (q := 0) dX12_holds_250 rfl ?_
                refine z_bipush hC (v := 32) k_bipush_32 dX12_holds_252 ?_
                refine z_icmp_ne hC (tgt := 267) dX12_holds_254 (by decide) (fun hc => ?_) (fun hc => ?_)
                · have h := h.1 hc
                  exact z_sub [(0, .ref a0), (2, .int a2), (3, .int v1), (5, .int v8), (6, .int v29)] [4, 6, 3, 1, 0] rfl (z_X12_holds_267 hC hRm hF hO hW_X12_holds h)
                · have h := h.2 hc
                  refine z_aload_n hC (q := 4) dX12_holds_257 rfl rfl ?_
                  refine z_iload_n hC (q := 6) dX12_holds_258 rfl rfl ?_
                  refine cl_RX12_320 hC (c_X12_isThere _ G a0 a2 K N I L R _ h) hk2 dX12_holds_259 (by rw [hRm]; exact ⟨Nat.le_trans (Nat.le_of_ble_eq_true rfl) hF.1, Nat.le_trans (Nat.le_of_ble_eq_true rfl) hF.2⟩) ⟨Nat.zero_le _, Nat.zero_le _⟩ (Nat.le_of_ble_eq_true rfl) (z_kIz (I := I) (fun r47 I48 h => ?_))
                  refine z_ifz_ne hC (tgt := 267) dX12_holds_262 (by decide) (fun hc => ?_) (fun hc => ?_)
                  · have h := h.1 hc
                    exact z_sub [(0, .ref a0), (2, .int a2), (3, .int v1), (5, .int v8), (6, .int v29)] [4, 6, 3, 1, 0] rfl (z_X12_holds_267 hC hRm hF hO hW_X12_holds h)
                  · have h := h.2 hc
                    refine z_iconst hC (v := 0) k_iconst_0 dX12_holds_265 ?_
                    exact z_zret (b := false) hC dX12_holds_266 rfl ⟨false, rfl, rfl, rfl, rfl, rfl, h⟩
def w_X12_readAnd_14 (W_X12_readSaid : Nat → MK → MK → MI → ML → MR → (Bool → MI → ML → Prop) → Prop) (x0 : Nat) (x1 : Int32)  (K : MK) (N : MK) (I : MI) (L : ML) (R : MR)  (Q : Bool → MI → ML → Prop) : Prop := ∃ J : Nat → Nat → Int32 → MI → ML → Prop, (∃ n, J n x0 x1 I L) ∧ ∀ (n : Nat) (x0 : Nat) (x1 : Int32) (I : MI) (L : ML), J n x0 x1 I L → K x0 = 13 ∧ w_X12_isWord x0 24 K N I L R (fun r7 => (r7 = false → ∀ I8 : MI, I8 = mup I x0 57 x1 → Q true I8 L) ∧ (r7 = true → w_X12_go x0 K N I L R (fun I9 L10 => W_X12_readSaid x0 K N I9 L10 R (fun r11 I12 L13 => (r11 = true → w_X12_saysOne x0 2 x1 (I12 x0 57) 0 K N I12 L13 R (fun r14 I15 => ∃ n1, n1 < n ∧ J n1 x0 r14 I15 L13)) ∧ (r11 = false → Q false I12 L13)))))
def w_X12_readAnd (W_X12_readSaid : Nat → MK → MK → MI → ML → MR → (Bool → MI → ML → Prop) → Prop) (a0 : Nat) (K : MK) (N : MK) (I : MI) (L : ML) (R : MR) (Q : Bool → MI → ML → Prop) : Prop := K a0 = 13 ∧ W_X12_readSaid a0 K N I L R (fun r2 I3 L4 => (r2 = true → ∀ v5 : Int32, v5 = (I3 a0 57) → w_X12_readAnd_14 W_X12_readSaid a0 v5 K N I3 L4 R Q) ∧ (r2 = false → Q false I3 L4))
set_option maxHeartbeats 4000000 in
set_option maxRecDepth 100000 in
theorem z_X12_readAnd_14 {X : ZX} {G : ZG} {f lo f0 lo0 : Nat} {W_X12_readSaid : Nat → MK → MK → MI → ML → MR → (Bool → MI → ML → Prop) → Prop} {x0 : Nat} {x1 : Int32}  {K : MK} {N : MK} {I : MI} {L : ML} {R : MR}  {Q : Bool → MI → ML → Prop} (hC : ZOk X G RX12 cX12_readAnd 2 (some .boolean)) (hRm : X.2.2.2.1 = { frames := f, cells := 0, slots := 0, locals := lo }) (hF : 3 ≤ f ∧ 68 ≤ lo) (hO : f0 + 1 ≤ f ∧ 23 + lo0 ≤ lo) (hW_X12_readSaid : ∀ (u0 : Nat) (K N : MK) (I : MI) (L : ML) (R : MR) (Q : Bool → MI → ML → Prop), W_X12_readSaid u0 K N I L R Q → Met X.2.1 yX12_readSaid (.code yX12_readSaid cX12_readSaid 4 (some .boolean) :: z_tbl) { frames := f0, cells := 0, slots := 0, locals := lo0 } (z_Pc G [.ref u0] K N I L R) (z_Qc G (qLz K N R Q)) 0 0 (z_A G)) (h : w_X12_readAnd_14 W_X12_readSaid x0 x1 K N I L R  Q) : Z X G 2 0 0 (z_T X G (qLz K N R Q) 0 0) K N I L R 14 [(0, .ref x0), (1, .int x1)] [] := by
  delta w_X12_readAnd_14 at h
  obtain ⟨J, ⟨n, h0⟩, hs⟩ := h
  have key : ∀ (n : Nat) (x0 : Nat) (x1 : Int32) (I : MI) (L : ML), J n x0 x1 I L → Z X G 2 0 0 (z_T X G (qLz K N R Q) 0 0) K N I L R 14 [(0, .ref x0), (1, .int x1)] [] := by
    intro n
    induction n using Nat.strongRecOn with
    | _ n ih =>
      intro x0 x1 I L hJ
      have hC14 : ∀ (y0 : Nat) (y1 : Int32) (zI : MI) (zL : ML), (∃ n1, n1 < n ∧ J n1 y0 y1 zI zL) → Z X G 2 0 0 (z_T X G (qLz K N R Q) 0 0) K N zI zL R 14 [(0, .ref y0), (1, .int y1)] [] := fun y0 y1 zI zL ⟨n1, hn1, hj⟩ => ih n1 hn1 y0 y1 zI zL hj
      have h := hs n x0 x1 I L hJ
      refine z_aload_n hC (q := 0) dX12_readAnd_14 rfl rfl ?_
      refine z_bipush hC (v := 24) k_bipush_24 dX12_readAnd_15 ?_
      obtain ⟨hk6, h⟩ := h
      refine cl_RX12_207 hC (c_X12_isWord _ G x0 24 K N I L R _ h) hk6 dX12_readAnd_17 (by rw [hRm]; exact ⟨Nat.le_trans (Nat.le_of_ble_eq_true rfl) hF.1, Nat.le_trans (Nat.le_of_ble_eq_true rfl) hF.2⟩) ⟨Nat.zero_le _, Nat.zero_le _⟩ (Nat.le_of_ble_eq_true rfl) (z_kPz (fun r7 h => ?_))
      refine z_ifz_eq hC (tgt := 51) dX12_readAnd_20 (by decide) (fun hc => ?_) (fun hc => ?_)
      · have h := h.1 hc
        refine z_aload_n hC (q := 0) dX12_readAnd_51 rfl rfl ?_
        refine z_iload_n hC (q := 1) dX12_readAnd_52 rfl rfl ?_
        refine pf_RX12_484 hC dX12_readAnd_53 hk6 ?_
        refine z_genI (fun I8 eI8 => ?_)
        have h := h I8 eI8
        refine z_iconst hC (v := 1) k_iconst_1 dX12_readAnd_56 ?_
        exact z_zret (b := true) hC dX12_readAnd_57 rfl ⟨true, rfl, rfl, rfl, rfl, h⟩
      · have h := h.2 hc
        refine z_aload_n hC (q := 0) dX12_readAnd_23 rfl rfl ?_
        refine cl_RX12_82 hC (c_X12_go _ G x0 K N I L R _ h) hk6 dX12_readAnd_24 (by rw [hRm]; exact ⟨Nat.le_trans (Nat.le_of_ble_eq_true rfl) hF.1, Nat.le_trans (Nat.le_of_ble_eq_true rfl) hF.2⟩) ⟨Nat.zero_le _, Nat.zero_le _⟩ (Nat.le_of_ble_eq_true rfl) (z_kLv (I := I) (L := L) (fun I9 L10 h => ?_))
        refine z_aload_n hC (q := 0) dX12_readAnd_27 rfl rfl ?_
        refine cl_RX12_491 hC (hrc := ⟨rfl, rfl⟩) (hW_X12_readSaid x0 K N I9 L10 R _ h) hk6 dX12_readAnd_28 (by rw [hRm]; exact ⟨hO.1, by have := hO.2; show 8 + (4 + 11) + lo0 ≤ lo; omega⟩) ⟨Nat.zero_le _, Nat.zero_le _⟩ (Nat.le_of_ble_eq_true rfl) (z_kLz (I := I9) (L := L10) (fun r11 I12 L13 h => ?_))
        refine z_ifz_ne hC (tgt := 36) dX12_readAnd_31 (by decide) (fun hc => ?_) (fun hc => ?_)
        · have h := h.1 hc
          refine z_aload_n hC (q := 0) dX12_readAnd_36 rfl rfl ?_
          refine z_iconst hC (v := 2) k_iconst_2 dX12_readAnd_37 ?_
          refine z_iload_n hC (q := 1) dX12_readAnd_38 rfl rfl ?_
          refine z_aload_n hC (q := 0) dX12_readAnd_39 rfl rfl ?_
          refine gf_RX12_484 hC dX12_readAnd_40 hk6 ?_
          refine z_iconst hC (v := 0) k_iconst_0 dX12_readAnd_43 ?_
          refine cl_RX12_487 hC (c_X12_saysOne _ G x0 2 x1 (I12 x0 57) 0 K N I12 L13 R _ h) hk6 dX12_readAnd_44 (by rw [hRm]; exact ⟨Nat.le_trans (Nat.le_of_ble_eq_true rfl) hF.1, Nat.le_trans (Nat.le_of_ble_eq_true rfl) hF.2⟩) ⟨Nat.zero_le _, Nat.zero_le _⟩ (Nat.le_of_ble_eq_true rfl) (z_kIi (I := I12) (fun r14 I15 h => ?_))
          refine z_istore_n hC (lv1 := [(1, .int r14), (0, .ref x0)]) dX12_readAnd_47 rfl (by decide) rfl ?_
          refine z_goto hC (tgt := 14) dX12_readAnd_48 (by decide) ?_
          exact z_sub [(0, .ref x0), (1, .int r14)] [1, 0] rfl (hC14 _ _ _ _ h)
        · have h := h.2 hc
          refine z_iconst hC (v := 0) k_iconst_0 dX12_readAnd_34 ?_
          exact z_zret (b := false) hC dX12_readAnd_35 rfl ⟨false, rfl, rfl, rfl, rfl, h⟩
  exact key n x0 x1 I L h0
set_option maxHeartbeats 4000000 in
set_option maxRecDepth 100000 in
theorem c_X12_readAnd {f lo f0 lo0 : Nat} {W_X12_readSaid : Nat → MK → MK → MI → ML → MR → (Bool → MI → ML → Prop) → Prop} (l : Launch) (G : ZG) (a0 : Nat) (K : MK) (N : MK) (I : MI) (L : ML) (R : MR) (Q : Bool → MI → ML → Prop) (hF : 3 ≤ f ∧ 68 ≤ lo) (hO : f0 + 1 ≤ f ∧ 23 + lo0 ≤ lo) (hW_X12_readSaid : ∀ (u0 : Nat) (K N : MK) (I : MI) (L : ML) (R : MR) (Q : Bool → MI → ML → Prop), W_X12_readSaid u0 K N I L R Q → Met l yX12_readSaid (.code yX12_readSaid cX12_readSaid 4 (some .boolean) :: z_tbl) { frames := f0, cells := 0, slots := 0, locals := lo0 } (z_Pc G [.ref u0] K N I L R) (z_Qc G (qLz K N R Q)) 0 0 (z_A G)) (h : w_X12_readAnd W_X12_readSaid a0 K N I L R Q) : Met l yX12_readAnd (.code yX12_readAnd cX12_readAnd 2 (some .boolean) :: z_tbl) { frames := f, cells := 0, slots := 0, locals := lo } (z_Pc G [.ref a0] K N I L R) (z_Qc G (qLz K N R Q)) 0 0 (z_A G) := by
  refine z_met (by decide) (Nat.le_of_ble_eq_true rfl) (fun X hX hRm hC0 hnm => ?_)
  subst hX
  have hC : ZOk X G RX12 cX12_readAnd 2 (some .boolean) := hC0
  show Z X G 2 0 0 _ K N I L R 0 [(0, .ref a0)] []
  delta w_X12_readAnd at h
  refine z_aload_n hC (q := 0) dX12_readAnd_0 rfl rfl ?_
  obtain ⟨hk1, h⟩ := h
  refine cl_RX12_491 hC (hrc := ⟨rfl, rfl⟩) (hW_X12_readSaid a0 K N I L R _ h) hk1 dX12_readAnd_1 (by rw [hRm]; exact ⟨hO.1, by have := hO.2; show 8 + (4 + 11) + lo0 ≤ lo; omega⟩) ⟨Nat.zero_le _, Nat.zero_le _⟩ (Nat.le_of_ble_eq_true rfl) (z_kLz (I := I) (L := L) (fun r2 I3 L4 h => ?_))
  refine z_ifz_ne hC (tgt := 9) dX12_readAnd_4 (by decide) (fun hc => ?_) (fun hc => ?_)
  · have h := h.1 hc
    refine z_aload_n hC (q := 0) dX12_readAnd_9 rfl rfl ?_
    refine gf_RX12_484 hC dX12_readAnd_10 hk1 ?_
    refine z_topi (fun v5 ev5 => ?_)
    have h := h v5 ev5
    refine z_istore_n hC (lv1 := [(1, .int v5), (0, .ref a0)]) dX12_readAnd_13 rfl (by decide) rfl ?_
    exact z_sub [(0, .ref a0), (1, .int v5)] [1, 0] rfl (z_X12_readAnd_14 hC hRm hF hO hW_X12_readSaid h)
  · have h := h.2 hc
    refine z_iconst hC (v := 0) k_iconst_0 dX12_readAnd_7 ?_
    exact z_zret (b := false) hC dX12_readAnd_8 rfl ⟨false, rfl, rfl, rfl, rfl, h⟩
def w_X12_readOr_14 (W_X12_readAnd : Nat → MK → MK → MI → ML → MR → (Bool → MI → ML → Prop) → Prop) (x0 : Nat) (x1 : Int32)  (K : MK) (N : MK) (I : MI) (L : ML) (R : MR)  (Q : Bool → MI → ML → Prop) : Prop := ∃ J : Nat → Nat → Int32 → MI → ML → Prop, (∃ n, J n x0 x1 I L) ∧ ∀ (n : Nat) (x0 : Nat) (x1 : Int32) (I : MI) (L : ML), J n x0 x1 I L → K x0 = 13 ∧ w_X12_isWord x0 23 K N I L R (fun r7 => (r7 = false → ∀ I8 : MI, I8 = mup I x0 57 x1 → Q true I8 L) ∧ (r7 = true → w_X12_go x0 K N I L R (fun I9 L10 => W_X12_readAnd x0 K N I9 L10 R (fun r11 I12 L13 => (r11 = true → w_X12_saysOne x0 3 x1 (I12 x0 57) 0 K N I12 L13 R (fun r14 I15 => ∃ n1, n1 < n ∧ J n1 x0 r14 I15 L13)) ∧ (r11 = false → Q false I12 L13)))))
def w_X12_readOr (W_X12_readAnd : Nat → MK → MK → MI → ML → MR → (Bool → MI → ML → Prop) → Prop) (a0 : Nat) (K : MK) (N : MK) (I : MI) (L : ML) (R : MR) (Q : Bool → MI → ML → Prop) : Prop := K a0 = 13 ∧ W_X12_readAnd a0 K N I L R (fun r2 I3 L4 => (r2 = true → ∀ v5 : Int32, v5 = (I3 a0 57) → w_X12_readOr_14 W_X12_readAnd a0 v5 K N I3 L4 R Q) ∧ (r2 = false → Q false I3 L4))
set_option maxHeartbeats 4000000 in
set_option maxRecDepth 100000 in
theorem z_X12_readOr_14 {X : ZX} {G : ZG} {f lo f0 lo0 : Nat} {W_X12_readAnd : Nat → MK → MK → MI → ML → MR → (Bool → MI → ML → Prop) → Prop} {x0 : Nat} {x1 : Int32}  {K : MK} {N : MK} {I : MI} {L : ML} {R : MR}  {Q : Bool → MI → ML → Prop} (hC : ZOk X G RX12 cX12_readOr 2 (some .boolean)) (hRm : X.2.2.2.1 = { frames := f, cells := 0, slots := 0, locals := lo }) (hF : 3 ≤ f ∧ 68 ≤ lo) (hO : f0 + 1 ≤ f ∧ 21 + lo0 ≤ lo) (hW_X12_readAnd : ∀ (u0 : Nat) (K N : MK) (I : MI) (L : ML) (R : MR) (Q : Bool → MI → ML → Prop), W_X12_readAnd u0 K N I L R Q → Met X.2.1 yX12_readAnd (.code yX12_readAnd cX12_readAnd 2 (some .boolean) :: z_tbl) { frames := f0, cells := 0, slots := 0, locals := lo0 } (z_Pc G [.ref u0] K N I L R) (z_Qc G (qLz K N R Q)) 0 0 (z_A G)) (h : w_X12_readOr_14 W_X12_readAnd x0 x1 K N I L R  Q) : Z X G 2 0 0 (z_T X G (qLz K N R Q) 0 0) K N I L R 14 [(0, .ref x0), (1, .int x1)] [] := by
  delta w_X12_readOr_14 at h
  obtain ⟨J, ⟨n, h0⟩, hs⟩ := h
  have key : ∀ (n : Nat) (x0 : Nat) (x1 : Int32) (I : MI) (L : ML), J n x0 x1 I L → Z X G 2 0 0 (z_T X G (qLz K N R Q) 0 0) K N I L R 14 [(0, .ref x0), (1, .int x1)] [] := by
    intro n
    induction n using Nat.strongRecOn with
    | _ n ih =>
      intro x0 x1 I L hJ
      have hC14 : ∀ (y0 : Nat) (y1 : Int32) (zI : MI) (zL : ML), (∃ n1, n1 < n ∧ J n1 y0 y1 zI zL) → Z X G 2 0 0 (z_T X G (qLz K N R Q) 0 0) K N zI zL R 14 [(0, .ref y0), (1, .int y1)] [] := fun y0 y1 zI zL ⟨n1, hn1, hj⟩ => ih n1 hn1 y0 y1 zI zL hj
      have h := hs n x0 x1 I L hJ
      refine z_aload_n hC (q := 0) dX12_readOr_14 rfl rfl ?_
      refine z_bipush hC (v := 23) k_bipush_23 dX12_readOr_15 ?_
      obtain ⟨hk6, h⟩ := h
      refine cl_RX12_207 hC (c_X12_isWord _ G x0 23 K N I L R _ h) hk6 dX12_readOr_17 (by rw [hRm]; exact ⟨Nat.le_trans (Nat.le_of_ble_eq_true rfl) hF.1, Nat.le_trans (Nat.le_of_ble_eq_true rfl) hF.2⟩) ⟨Nat.zero_le _, Nat.zero_le _⟩ (Nat.le_of_ble_eq_true rfl) (z_kPz (fun r7 h => ?_))
      refine z_ifz_eq hC (tgt := 51) dX12_readOr_20 (by decide) (fun hc => ?_) (fun hc => ?_)
      · have h := h.1 hc
        refine z_aload_n hC (q := 0) dX12_readOr_51 rfl rfl ?_
        refine z_iload_n hC (q := 1) dX12_readOr_52 rfl rfl ?_
        refine pf_RX12_484 hC dX12_readOr_53 hk6 ?_
        refine z_genI (fun I8 eI8 => ?_)
        have h := h I8 eI8
        refine z_iconst hC (v := 1) k_iconst_1 dX12_readOr_56 ?_
        exact z_zret (b := true) hC dX12_readOr_57 rfl ⟨true, rfl, rfl, rfl, rfl, h⟩
      · have h := h.2 hc
        refine z_aload_n hC (q := 0) dX12_readOr_23 rfl rfl ?_
        refine cl_RX12_82 hC (c_X12_go _ G x0 K N I L R _ h) hk6 dX12_readOr_24 (by rw [hRm]; exact ⟨Nat.le_trans (Nat.le_of_ble_eq_true rfl) hF.1, Nat.le_trans (Nat.le_of_ble_eq_true rfl) hF.2⟩) ⟨Nat.zero_le _, Nat.zero_le _⟩ (Nat.le_of_ble_eq_true rfl) (z_kLv (I := I) (L := L) (fun I9 L10 h => ?_))
        refine z_aload_n hC (q := 0) dX12_readOr_27 rfl rfl ?_
        refine cl_RX12_481 hC (hrc := ⟨rfl, rfl⟩) (hW_X12_readAnd x0 K N I9 L10 R _ h) hk6 dX12_readOr_28 (by rw [hRm]; exact ⟨hO.1, by have := hO.2; show 8 + (2 + 11) + lo0 ≤ lo; omega⟩) ⟨Nat.zero_le _, Nat.zero_le _⟩ (Nat.le_of_ble_eq_true rfl) (z_kLz (I := I9) (L := L10) (fun r11 I12 L13 h => ?_))
        refine z_ifz_ne hC (tgt := 36) dX12_readOr_31 (by decide) (fun hc => ?_) (fun hc => ?_)
        · have h := h.1 hc
          refine z_aload_n hC (q := 0) dX12_readOr_36 rfl rfl ?_
          refine z_iconst hC (v := 3) k_iconst_3 dX12_readOr_37 ?_
          refine z_iload_n hC (q := 1) dX12_readOr_38 rfl rfl ?_
          refine z_aload_n hC (q := 0) dX12_readOr_39 rfl rfl ?_
          refine gf_RX12_484 hC dX12_readOr_40 hk6 ?_
          refine z_iconst hC (v := 0) k_iconst_0 dX12_readOr_43 ?_
          refine cl_RX12_487 hC (c_X12_saysOne _ G x0 3 x1 (I12 x0 57) 0 K N I12 L13 R _ h) hk6 dX12_readOr_44 (by rw [hRm]; exact ⟨Nat.le_trans (Nat.le_of_ble_eq_true rfl) hF.1, Nat.le_trans (Nat.le_of_ble_eq_true rfl) hF.2⟩) ⟨Nat.zero_le _, Nat.zero_le _⟩ (Nat.le_of_ble_eq_true rfl) (z_kIi (I := I12) (fun r14 I15 h => ?_))
          refine z_istore_n hC (lv1 := [(1, .int r14), (0, .ref x0)]) dX12_readOr_47 rfl (by decide) rfl ?_
          refine z_goto hC (tgt := 14) dX12_readOr_48 (by decide) ?_
          exact z_sub [(0, .ref x0), (1, .int r14)] [1, 0] rfl (hC14 _ _ _ _ h)
        · have h := h.2 hc
          refine z_iconst hC (v := 0) k_iconst_0 dX12_readOr_34 ?_
          exact z_zret (b := false) hC dX12_readOr_35 rfl ⟨false, rfl, rfl, rfl, rfl, h⟩
  exact key n x0 x1 I L h0
set_option maxHeartbeats 4000000 in
set_option maxRecDepth 100000 in
theorem c_X12_readOr {f lo f0 lo0 : Nat} {W_X12_readAnd : Nat → MK → MK → MI → ML → MR → (Bool → MI → ML → Prop) → Prop} (l : Launch) (G : ZG) (a0 : Nat) (K : MK) (N : MK) (I : MI) (L : ML) (R : MR) (Q : Bool → MI → ML → Prop) (hF : 3 ≤ f ∧ 68 ≤ lo) (hO : f0 + 1 ≤ f ∧ 21 + lo0 ≤ lo) (hW_X12_readAnd : ∀ (u0 : Nat) (K N : MK) (I : MI) (L : ML) (R : MR) (Q : Bool → MI → ML → Prop), W_X12_readAnd u0 K N I L R Q → Met l yX12_readAnd (.code yX12_readAnd cX12_readAnd 2 (some .boolean) :: z_tbl) { frames := f0, cells := 0, slots := 0, locals := lo0 } (z_Pc G [.ref u0] K N I L R) (z_Qc G (qLz K N R Q)) 0 0 (z_A G)) (h : w_X12_readOr W_X12_readAnd a0 K N I L R Q) : Met l yX12_readOr (.code yX12_readOr cX12_readOr 2 (some .boolean) :: z_tbl) { frames := f, cells := 0, slots := 0, locals := lo } (z_Pc G [.ref a0] K N I L R) (z_Qc G (qLz K N R Q)) 0 0 (z_A G) := by
  refine z_met (by decide) (Nat.le_of_ble_eq_true rfl) (fun X hX hRm hC0 hnm => ?_)
  subst hX
  have hC : ZOk X G RX12 cX12_readOr 2 (some .boolean) := hC0
  show Z X G 2 0 0 _ K N I L R 0 [(0, .ref a0)] []
  delta w_X12_readOr at h
  refine z_aload_n hC (q := 0) dX12_readOr_0 rfl rfl ?_
  obtain ⟨hk1, h⟩ := h
  refine cl_RX12_481 hC (hrc := ⟨rfl, rfl⟩) (hW_X12_readAnd a0 K N I L R _ h) hk1 dX12_readOr_1 (by rw [hRm]; exact ⟨hO.1, by have := hO.2; show 8 + (2 + 11) + lo0 ≤ lo; omega⟩) ⟨Nat.zero_le _, Nat.zero_le _⟩ (Nat.le_of_ble_eq_true rfl) (z_kLz (I := I) (L := L) (fun r2 I3 L4 h => ?_))
  refine z_ifz_ne hC (tgt := 9) dX12_readOr_4 (by decide) (fun hc => ?_) (fun hc => ?_)
  · have h := h.1 hc
    refine z_aload_n hC (q := 0) dX12_readOr_9 rfl rfl ?_
    refine gf_RX12_484 hC dX12_readOr_10 hk1 ?_
    refine z_topi (fun v5 ev5 => ?_)
    have h := h v5 ev5
    refine z_istore_n hC (lv1 := [(1, .int v5), (0, .ref a0)]) dX12_readOr_13 rfl (by decide) rfl ?_
    exact z_sub [(0, .ref a0), (1, .int v5)] [1, 0] rfl (z_X12_readOr_14 hC hRm hF hO hW_X12_readAnd h)
  · have h := h.2 hc
    refine z_iconst hC (v := 0) k_iconst_0 dX12_readOr_7 ?_
    exact z_zret (b := false) hC dX12_readOr_8 rfl ⟨false, rfl, rfl, rfl, rfl, h⟩
def w_X12_readBracket (W_X12_readOr : Nat → MK → MK → MI → ML → MR → (Bool → MI → ML → Prop) → Prop) (a0 : Nat) (K : MK) (N : MK) (I : MI) (L : ML) (R : MR) (Q : Bool → MI → ML → Prop) : Prop := K a0 = 13 ∧ W_X12_readOr a0 K N I L R (fun r2 I3 L4 => (r2 = true → w_X12_isSign a0 41 K N I3 L4 R (fun r5 => (r5 = true → w_X12_go a0 K N I3 L4 R (fun I6 L7 => Q true I6 L7)) ∧ (r5 = false → w_X12_bad a0 1 K N I3 L4 R (fun r8 I9 => Q r8 I9 L4)))) ∧ (r2 = false → Q false I3 L4))
set_option maxHeartbeats 4000000 in
set_option maxRecDepth 100000 in
theorem c_X12_readBracket {f lo f0 lo0 : Nat} {W_X12_readOr : Nat → MK → MK → MI → ML → MR → (Bool → MI → ML → Prop) → Prop} (l : Launch) (G : ZG) (a0 : Nat) (K : MK) (N : MK) (I : MI) (L : ML) (R : MR) (Q : Bool → MI → ML → Prop) (hF : 2 ≤ f ∧ 45 ≤ lo) (hO : f0 + 1 ≤ f ∧ 21 + lo0 ≤ lo) (hW_X12_readOr : ∀ (u0 : Nat) (K N : MK) (I : MI) (L : ML) (R : MR) (Q : Bool → MI → ML → Prop), W_X12_readOr u0 K N I L R Q → Met l yX12_readOr (.code yX12_readOr cX12_readOr 2 (some .boolean) :: z_tbl) { frames := f0, cells := 0, slots := 0, locals := lo0 } (z_Pc G [.ref u0] K N I L R) (z_Qc G (qLz K N R Q)) 0 0 (z_A G)) (h : w_X12_readBracket W_X12_readOr a0 K N I L R Q) : Met l yX12_readBracket (.code yX12_readBracket cX12_readBracket 1 (some .boolean) :: z_tbl) { frames := f, cells := 0, slots := 0, locals := lo } (z_Pc G [.ref a0] K N I L R) (z_Qc G (qLz K N R Q)) 0 0 (z_A G) := by
  refine z_met (by decide) (Nat.le_of_ble_eq_true rfl) (fun X hX hRm hC0 hnm => ?_)
  subst hX
  have hC : ZOk X G RX12 cX12_readBracket 1 (some .boolean) := hC0
  show Z X G 1 0 0 _ K N I L R 0 [(0, .ref a0)] []
  delta w_X12_readBracket at h
  refine z_aload_n hC (q := 0) dX12_readBracket_0 rfl rfl ?_
  obtain ⟨hk1, h⟩ := h
  refine cl_RX12_512 hC (hrc := ⟨rfl, rfl⟩) (hW_X12_readOr a0 K N I L R _ h) hk1 dX12_readBracket_1 (by rw [hRm]; exact ⟨hO.1, by have := hO.2; show 8 + (2 + 11) + lo0 ≤ lo; omega⟩) ⟨Nat.zero_le _, Nat.zero_le _⟩ (Nat.le_of_ble_eq_true rfl) (z_kLz (I := I) (L := L) (fun r2 I3 L4 h => ?_))
  refine z_ifz_ne hC (tgt := 9) dX12_readBracket_4 (by decide) (fun hc => ?_) (fun hc => ?_)
  · have h := h.1 hc
    refine z_aload_n hC (q := 0) dX12_readBracket_9 rfl rfl ?_
    refine z_bipush hC (v := 41) k_bipush_41 dX12_readBracket_10 ?_
    refine cl_RX12_86 hC (c_X12_isSign _ G a0 41 K N I3 L4 R _ h) hk1 dX12_readBracket_12 (by rw [hRm]; exact ⟨Nat.le_trans (Nat.le_of_ble_eq_true rfl) hF.1, Nat.le_trans (Nat.le_of_ble_eq_true rfl) hF.2⟩) ⟨Nat.zero_le _, Nat.zero_le _⟩ (Nat.le_of_ble_eq_true rfl) (z_kPz (fun r5 h => ?_))
    refine z_ifz_ne hC (tgt := 24) dX12_readBracket_15 (by decide) (fun hc => ?_) (fun hc => ?_)
    · have h := h.1 hc
      refine z_aload_n hC (q := 0) dX12_readBracket_24 rfl rfl ?_
      refine cl_RX12_82 hC (c_X12_go _ G a0 K N I3 L4 R _ h) hk1 dX12_readBracket_25 (by rw [hRm]; exact ⟨Nat.le_trans (Nat.le_of_ble_eq_true rfl) hF.1, Nat.le_trans (Nat.le_of_ble_eq_true rfl) hF.2⟩) ⟨Nat.zero_le _, Nat.zero_le _⟩ (Nat.le_of_ble_eq_true rfl) (z_kLv (I := I3) (L := L4) (fun I6 L7 h => ?_))
      refine z_iconst hC (v := 1) k_iconst_1 dX12_readBracket_28 ?_
      exact z_zret (b := true) hC dX12_readBracket_29 rfl ⟨true, rfl, rfl, rfl, rfl, h⟩
    · have h := h.2 hc
      refine z_aload_n hC (q := 0) dX12_readBracket_18 rfl rfl ?_
      refine z_iconst hC (v := 1) k_iconst_1 dX12_readBracket_19 ?_
      refine cl_RX12_72 hC (c_X12_bad _ G a0 1 K N I3 L4 R _ h) hk1 dX12_readBracket_20 (by rw [hRm]; exact ⟨Nat.le_trans (Nat.le_of_ble_eq_true rfl) hF.1, Nat.le_trans (Nat.le_of_ble_eq_true rfl) hF.2⟩) ⟨Nat.zero_le _, Nat.zero_le _⟩ (Nat.le_of_ble_eq_true rfl) (z_kIz (I := I3) (fun r8 I9 h => ?_))
      exact z_zret (b := r8) hC dX12_readBracket_23 rfl ⟨r8, rfl, rfl, rfl, rfl, h⟩
  · have h := h.2 hc
    refine z_iconst hC (v := 0) k_iconst_0 dX12_readBracket_7 ?_
    exact z_zret (b := false) hC dX12_readBracket_8 rfl ⟨false, rfl, rfl, rfl, rfl, h⟩
def w_X12_readNot (W_X12_readSaid : Nat → MK → MK → MI → ML → MR → (Bool → MI → ML → Prop) → Prop) (a0 : Nat) (K : MK) (N : MK) (I : MI) (L : ML) (R : MR) (Q : Bool → MI → ML → Prop) : Prop := K a0 = 13 ∧ W_X12_readSaid a0 K N I L R (fun r2 I3 L4 => (r2 = true → w_X12_saysOne a0 1 (I3 a0 57) 0 0 K N I3 L4 R (fun r5 I6 => ∀ I7 : MI, I7 = mup I6 a0 57 r5 → Q true I7 L4)) ∧ (r2 = false → Q false I3 L4))
set_option maxHeartbeats 4000000 in
set_option maxRecDepth 100000 in
theorem c_X12_readNot {f lo f0 lo0 : Nat} {W_X12_readSaid : Nat → MK → MK → MI → ML → MR → (Bool → MI → ML → Prop) → Prop} (l : Launch) (G : ZG) (a0 : Nat) (K : MK) (N : MK) (I : MI) (L : ML) (R : MR) (Q : Bool → MI → ML → Prop) (hF : 1 ≤ f ∧ 25 ≤ lo) (hO : f0 + 1 ≤ f ∧ 23 + lo0 ≤ lo) (hW_X12_readSaid : ∀ (u0 : Nat) (K N : MK) (I : MI) (L : ML) (R : MR) (Q : Bool → MI → ML → Prop), W_X12_readSaid u0 K N I L R Q → Met l yX12_readSaid (.code yX12_readSaid cX12_readSaid 4 (some .boolean) :: z_tbl) { frames := f0, cells := 0, slots := 0, locals := lo0 } (z_Pc G [.ref u0] K N I L R) (z_Qc G (qLz K N R Q)) 0 0 (z_A G)) (h : w_X12_readNot W_X12_readSaid a0 K N I L R Q) : Met l yX12_readNot (.code yX12_readNot cX12_readNot 1 (some .boolean) :: z_tbl) { frames := f, cells := 0, slots := 0, locals := lo } (z_Pc G [.ref a0] K N I L R) (z_Qc G (qLz K N R Q)) 0 0 (z_A G) := by
  refine z_met (by decide) (Nat.le_of_ble_eq_true rfl) (fun X hX hRm hC0 hnm => ?_)
  subst hX
  have hC : ZOk X G RX12 cX12_readNot 1 (some .boolean) := hC0
  show Z X G 1 0 0 _ K N I L R 0 [(0, .ref a0)] []
  delta w_X12_readNot at h
  refine z_aload_n hC (q := 0) dX12_readNot_0 rfl rfl ?_
  obtain ⟨hk1, h⟩ := h
  refine cl_RX12_491 hC (hrc := ⟨rfl, rfl⟩) (hW_X12_readSaid a0 K N I L R _ h) hk1 dX12_readNot_1 (by rw [hRm]; exact ⟨hO.1, by have := hO.2; show 8 + (4 + 11) + lo0 ≤ lo; omega⟩) ⟨Nat.zero_le _, Nat.zero_le _⟩ (Nat.le_of_ble_eq_true rfl) (z_kLz (I := I) (L := L) (fun r2 I3 L4 h => ?_))
  refine z_ifz_ne hC (tgt := 9) dX12_readNot_4 (by decide) (fun hc => ?_) (fun hc => ?_)
  · have h := h.1 hc
    refine z_aload_n hC (q := 0) dX12_readNot_9 rfl rfl ?_
    refine z_aload_n hC (q := 0) dX12_readNot_10 rfl rfl ?_
    refine z_iconst hC (v := 1) k_iconst_1 dX12_readNot_11 ?_
    refine z_aload_n hC (q := 0) dX12_readNot_12 rfl rfl ?_
    refine gf_RX12_484 hC dX12_readNot_13 hk1 ?_
    refine z_iconst hC (v := 0) k_iconst_0 dX12_readNot_16 ?_
    refine z_iconst hC (v := 0) k_iconst_0 dX12_readNot_17 ?_
    refine cl_RX12_487 hC (c_X12_saysOne _ G a0 1 (I3 a0 57) 0 0 K N I3 L4 R _ h) hk1 dX12_readNot_18 (by rw [hRm]; exact ⟨Nat.le_trans (Nat.le_of_ble_eq_true rfl) hF.1, Nat.le_trans (Nat.le_of_ble_eq_true rfl) hF.2⟩) ⟨Nat.zero_le _, Nat.zero_le _⟩ (Nat.le_of_ble_eq_true rfl) (z_kIi (I := I3) (fun r5 I6 h => ?_))
    refine pf_RX12_484 hC dX12_readNot_21 hk1 ?_
    refine z_genI (fun I7 eI7 => ?_)
    have h := h I7 eI7
    refine z_iconst hC (v := 1) k_iconst_1 dX12_readNot_24 ?_
    exact z_zret (b := true) hC dX12_readNot_25 rfl ⟨true, rfl, rfl, rfl, rfl, h⟩
  · have h := h.2 hc
    refine z_iconst hC (v := 0) k_iconst_0 dX12_readNot_7 ?_
    exact z_zret (b := false) hC dX12_readNot_8 rfl ⟨false, rfl, rfl, rfl, rfl, h⟩
def w_X12_readSaid_46 (W_X12_readBracket : Nat → MK → MK → MI → ML → MR → (Bool → MI → ML → Prop) → Prop) (W_X12_readNot : Nat → MK → MK → MI → ML → MR → (Bool → MI → ML → Prop) → Prop) (x0 : Nat) (x1 : Bool) (x2 : Int32)  (K : MK) (N : MK) (I : MI) (L : ML) (R : MR)  (Q : Bool → MI → ML → Prop) : Prop := K x0 = 13 ∧ ((I x0 55) = 20 → w_X12_bad x0 4 K N I L R (fun r4 I5 => Q r4 I5 L)) ∧ (¬ (I x0 55) = 20 → (¬ (I x0 56) = 8 → ∀ I6 : MI, I6 = mup I x0 55 ((I x0 55) + 1) → ∀ I7 : MI, I7 = mup I6 x0 56 ((I6 x0 56) + 1) → w_X12_go x0 K N I7 L R (fun I8 L9 => (x1 = false → (¬ x2 = 25 → ((29 : Int32) ≤ x2 → ((30 : Int32) ≤ x2 → w_X12_readCompare x0 x2 K N I8 L9 R (fun r10 I11 L12 => ∀ I13 : MI, I13 = mup I11 x0 56 ((I11 x0 56) - 1) → Q r10 I13 L12)) ∧ (¬ (30 : Int32) ≤ x2 → w_X12_readOf x0 x2 K N I8 L9 R (fun r14 I15 L16 => ∀ I17 : MI, I17 = mup I15 x0 56 ((I15 x0 56) - 1) → Q r14 I17 L16))) ∧ (¬ (29 : Int32) ≤ x2 → w_X12_saysOne x0 ((50 : Int32) + x2) 0 0 0 K N I8 L9 R (fun r18 I19 => ∀ I20 : MI, I20 = mup I19 x0 57 r18 → ∀ I21 : MI, I21 = mup I20 x0 56 ((I20 x0 56) - 1) → Q true I21 L9))) ∧ (x2 = 25 → W_X12_readNot x0 K N I8 L9 R (fun r22 I23 L24 => ∀ I25 : MI, I25 = mup I23 x0 56 ((I23 x0 56) - 1) → Q r22 I25 L24))) ∧ (x1 = true → W_X12_readBracket x0 K N I8 L9 R (fun r26 I27 L28 => ∀ I29 : MI, I29 = mup I27 x0 56 ((I27 x0 56) - 1) → Q r26 I29 L28)))) ∧ ((I x0 56) = 8 → w_X12_bad x0 4 K N I L R (fun r30 I31 => Q r30 I31 L)))
def w_X12_readSaid_30 (W_X12_readBracket : Nat → MK → MK → MI → ML → MR → (Bool → MI → ML → Prop) → Prop) (W_X12_readNot : Nat → MK → MK → MI → ML → MR → (Bool → MI → ML → Prop) → Prop) (x0 : Nat) (x1 : Bool) (x2 : Int32)  (K : MK) (N : MK) (I : MI) (L : ML) (R : MR)  (Q : Bool → MI → ML → Prop) : Prop := (x1 = true → w_X12_readSaid_46 W_X12_readBracket W_X12_readNot x0 x1 x2 K N I L R Q) ∧ (x1 = false → (x2 ≤ 33 → w_X12_readSaid_46 W_X12_readBracket W_X12_readNot x0 x1 x2 K N I L R Q) ∧ (¬ x2 ≤ 33 → K x0 = 13 ∧ w_X12_bad x0 1 K N I L R (fun r33 I34 => Q r33 I34 L)))
def w_X12_readSaid_10 (W_X12_readBracket : Nat → MK → MK → MI → ML → MR → (Bool → MI → ML → Prop) → Prop) (W_X12_readNot : Nat → MK → MK → MI → ML → MR → (Bool → MI → ML → Prop) → Prop) (x0 : Nat) (x1 : Bool) (x2 : Int32)  (K : MK) (N : MK) (I : MI) (L : ML) (R : MR)  (Q : Bool → MI → ML → Prop) : Prop := ∃ J : Nat → Nat → Bool → Int32 → MI → ML → Prop, (∃ n, J n x0 x1 x2 I L) ∧ ∀ (n : Nat) (x0 : Nat) (x1 : Bool) (x2 : Int32) (I : MI) (L : ML), J n x0 x1 x2 I L → ((33 : Int32) < x2 → w_X12_readSaid_30 W_X12_readBracket W_X12_readNot x0 x1 x2 K N I L R Q) ∧ (¬ (33 : Int32) < x2 → K x0 = 13 ∧ w_X12_isWord x0 x2 K N I L R (fun r36 => (r36 = true → w_X12_readSaid_30 W_X12_readBracket W_X12_readNot x0 x1 x2 K N I L R Q) ∧ (r36 = false → ∀ v37 : Int32, v37 = x2 + 1 → ∃ n1, n1 < n ∧ J n1 x0 x1 v37 I L)))
def w_X12_readSaid (W_X12_readBracket : Nat → MK → MK → MI → ML → MR → (Bool → MI → ML → Prop) → Prop) (W_X12_readNot : Nat → MK → MK → MI → ML → MR → (Bool → MI → ML → Prop) → Prop) (a0 : Nat) (K : MK) (N : MK) (I : MI) (L : ML) (R : MR) (Q : Bool → MI → ML → Prop) : Prop := K a0 = 13 ∧ w_X12_isSign a0 40 K N I L R (fun r2 => w_X12_readSaid_10 W_X12_readBracket W_X12_readNot a0 r2 25 K N I L R Q)
set_option maxHeartbeats 4000000 in
set_option maxRecDepth 100000 in
theorem z_X12_readSaid_46 {X : ZX} {G : ZG} {f lo f0 lo0 : Nat} {W_X12_readBracket : Nat → MK → MK → MI → ML → MR → (Bool → MI → ML → Prop) → Prop} {W_X12_readNot : Nat → MK → MK → MI → ML → MR → (Bool → MI → ML → Prop) → Prop} {x0 : Nat} {x1 : Bool} {x2 : Int32}  {K : MK} {N : MK} {I : MI} {L : ML} {R : MR}  {Q : Bool → MI → ML → Prop} (hC : ZOk X G RX12 cX12_readSaid 4 (some .boolean)) (hRm : X.2.2.2.1 = { frames := f, cells := 0, slots := 0, locals := lo }) (hF : 5 ≤ f ∧ 109 ≤ lo) (hO : f0 + 1 ≤ f ∧ 20 + lo0 ≤ lo) (hW_X12_readBracket : ∀ (u0 : Nat) (K N : MK) (I : MI) (L : ML) (R : MR) (Q : Bool → MI → ML → Prop), W_X12_readBracket u0 K N I L R Q → Met X.2.1 yX12_readBracket (.code yX12_readBracket cX12_readBracket 1 (some .boolean) :: z_tbl) { frames := f0, cells := 0, slots := 0, locals := lo0 } (z_Pc G [.ref u0] K N I L R) (z_Qc G (qLz K N R Q)) 0 0 (z_A G)) (hW_X12_readNot : ∀ (u0 : Nat) (K N : MK) (I : MI) (L : ML) (R : MR) (Q : Bool → MI → ML → Prop), W_X12_readNot u0 K N I L R Q → Met X.2.1 yX12_readNot (.code yX12_readNot cX12_readNot 1 (some .boolean) :: z_tbl) { frames := f0, cells := 0, slots := 0, locals := lo0 } (z_Pc G [.ref u0] K N I L R) (z_Qc G (qLz K N R Q)) 0 0 (z_A G)) (h : w_X12_readSaid_46 W_X12_readBracket W_X12_readNot x0 x1 x2 K N I L R  Q) : Z X G 4 0 0 (z_T X G (qLz K N R Q) 0 0) K N I L R 46 [(0, .ref x0), (1, .int (bi x1)), (2, .int x2)] [] := by
  delta w_X12_readSaid_46 at h
  refine z_aload_n hC (q := 0) dX12_readSaid_46 rfl rfl ?_
  obtain ⟨hk3, h⟩ := h
  refine gf_RX12_494 hC dX12_readSaid_47 hk3 ?_
  refine z_bipush hC (v := 20) k_bipush_20 dX12_readSaid_50 ?_
  refine z_icmp_eq hC (tgt := 64) dX12_readSaid_52 (by decide) (fun hc => ?_) (fun hc => ?_)
  · have h := h.1 hc
    refine z_aload_n hC (q := 0) dX12_readSaid_64 rfl rfl ?_
    refine z_iconst hC (v := 4) k_iconst_4 dX12_readSaid_65 ?_
    refine cl_RX12_72 hC (c_X12_bad _ G x0 4 K N I L R _ h) hk3 dX12_readSaid_66 (by rw [hRm]; exact ⟨Nat.le_trans (Nat.le_of_ble_eq_true rfl) hF.1, Nat.le_trans (Nat.le_of_ble_eq_true rfl) hF.2⟩) ⟨Nat.zero_le _, Nat.zero_le _⟩ (Nat.le_of_ble_eq_true rfl) (z_kIz (I := I) (fun r4 I5 h => ?_))
    exact z_zret (b := r4) hC dX12_readSaid_69 rfl ⟨r4, rfl, rfl, rfl, rfl, h⟩
  · have h := h.2 hc
    refine z_aload_n hC (q := 0) dX12_readSaid_55 rfl rfl ?_
    refine gf_RX12_497 hC dX12_readSaid_56 hk3 ?_
    refine z_bipush hC (v := 8) k_bipush_8 dX12_readSaid_59 ?_
    refine z_icmp_ne hC (tgt := 70) dX12_readSaid_61 (by decide) (fun hc => ?_) (fun hc => ?_)
    · have h := h.1 hc
      refine z_aload_n hC (q := 0) dX12_readSaid_70 rfl rfl ?_
      refine z_dup hC rfl dX12_readSaid_71 ?_
      refine gf_RX12_494 hC dX12_readSaid_72 hk3 ?_
      refine z_iconst hC (v := 1) k_iconst_1 dX12_readSaid_75 ?_
      refine z_iadd hC dX12_readSaid_76 ?_
      refine pf_RX12_494 hC dX12_readSaid_77 hk3 ?_
      refine z_genI (fun I6 eI6 => ?_)
      have h := h I6 eI6
      refine z_aload_n hC (q := 0) dX12_readSaid_80 rfl rfl ?_
      refine z_dup hC rfl dX12_readSaid_81 ?_
      refine gf_RX12_497 hC dX12_readSaid_82 hk3 ?_
      refine z_iconst hC (v := 1) k_iconst_1 dX12_readSaid_85 ?_
      refine z_iadd hC dX12_readSaid_86 ?_
      refine pf_RX12_497 hC dX12_readSaid_87 hk3 ?_
      refine z_genI (fun I7 eI7 => ?_)
      have h := h I7 eI7
      refine z_aload_n hC (q := 0) dX12_readSaid_90 rfl rfl ?_
      refine cl_RX12_82 hC (c_X12_go _ G x0 K N I7 L R _ h) hk3 dX12_readSaid_91 (by rw [hRm]; exact ⟨Nat.le_trans (Nat.le_of_ble_eq_true rfl) hF.1, Nat.le_trans (Nat.le_of_ble_eq_true rfl) hF.2⟩) ⟨Nat.zero_le _, Nat.zero_le _⟩ (Nat.le_of_ble_eq_true rfl) (z_kLv (I := I7) (L := L) (fun I8 L9 h => ?_))
      refine z_iconst hC (v := 1) k_iconst_1 dX12_readSaid_94 ?_
      refine z_istore_n hC (lv1 := [(3, .int 1), (0, .ref x0), (1, .int (bi x1)), (2, .int x2)]) dX12_readSaid_95 rfl (by decide) rfl ?_
      refine z_iload_n hC (q := 2) dX12_readSaid_96 rfl rfl ?_
      refine z_ifz_eq hC (tgt := 108) dX12_readSaid_97 (by decide) (fun hc => ?_) (fun hc => ?_)
      · have h := h.1 hc
        refine z_iload_n hC (q := 3) dX12_readSaid_108 rfl rfl ?_
        refine z_bipush hC (v := 25) k_bipush_25 dX12_readSaid_109 ?_
        refine z_icmp_ne hC (tgt := 122) dX12_readSaid_111 (by decide) (fun hc => ?_) (fun hc => ?_)
        · have h := h.1 hc
          refine z_iload_n hC (q := 3) dX12_readSaid_122 rfl rfl ?_
          refine z_bipush hC (v := 29) k_bipush_29 dX12_readSaid_123 ?_
          refine z_icmp_ge hC (tgt := 146) dX12_readSaid_125 (by decide) (fun hc => ?_) (fun hc => ?_)
          · have h := h.1 hc
            refine z_iload_n hC (q := 3) dX12_readSaid_146 rfl rfl ?_
            refine z_bipush hC (v := 30) k_bipush_30 dX12_readSaid_147 ?_
            refine z_icmp_ge hC (tgt := 160) dX12_readSaid_149 (by decide) (fun hc => ?_) (fun hc => ?_)
            · have h := h.1 hc
              refine z_aload_n hC (q := 1) dX12_readSaid_160 rfl rfl ?_
              refine z_iload_n hC (q := 3) dX12_readSaid_161 rfl rfl ?_
              refine cl_RX12_509 hC (c_X12_readCompare _ G x0 x2 K N I8 L9 R _ h) hk3 dX12_readSaid_162 (by rw [hRm]; exact ⟨Nat.le_trans (Nat.le_of_ble_eq_true rfl) hF.1, Nat.le_trans (Nat.le_of_ble_eq_true rfl) hF.2⟩) ⟨Nat.zero_le _, Nat.zero_le _⟩ (Nat.le_of_ble_eq_true rfl) (z_kLz (I := I8) (L := L9) (fun r10 I11 L12 h => ?_))
              refine z_istore_n hC (lv1 := [(3, .int (bi r10)), (0, .ref x0), (1, .int (bi x1)), (2, .int x2)]) dX12_readSaid_165 rfl (by decide) rfl ?_
              refine z_aload_n hC (q := 1) dX12_readSaid_166 rfl rfl ?_
              refine z_dup hC rfl dX12_readSaid_167 ?_
              refine gf_RX12_497 hC dX12_readSaid_168 hk3 ?_
              refine z_iconst hC (v := 1) k_iconst_1 dX12_readSaid_171 ?_
              refine z_isub hC dX12_readSaid_172 ?_
              refine pf_RX12_497 hC dX12_readSaid_173 hk3 ?_
              refine z_genI (fun I13 eI13 => ?_)
              have h := h I13 eI13
              refine z_iload_n hC (q := 0) dX12_readSaid_176 rfl rfl ?_
              exact z_zret (b := r10) hC dX12_readSaid_177 rfl ⟨r10, rfl, rfl, rfl, rfl, h⟩
            · have h := h.2 hc
              refine z_aload_n hC (q := 1) dX12_readSaid_152 rfl rfl ?_
              refine z_iload_n hC (q := 3) dX12_readSaid_153 rfl rfl ?_
              refine cl_RX12_506 hC (c_X12_readOf _ G x0 x2 K N I8 L9 R _ h) hk3 dX12_readSaid_154 (by rw [hRm]; exact ⟨Nat.le_trans (Nat.le_of_ble_eq_true rfl) hF.1, Nat.le_trans (Nat.le_of_ble_eq_true rfl) hF.2⟩) ⟨Nat.zero_le _, Nat.zero_le _⟩ (Nat.le_of_ble_eq_true rfl) (z_kLz (I := I8) (L := L9) (fun r14 I15 L16 h => ?_))
              refine z_goto hC (tgt := 165) dX12_readSaid_157 (by decide) ?_
              refine z_istore_n hC (lv1 := [(3, .int (bi r14)), (0, .ref x0), (1, .int (bi x1)), (2, .int x2)]) dX12_readSaid_165 rfl (by decide) rfl ?_
              refine z_aload_n hC (q := 1) dX12_readSaid_166 rfl rfl ?_
              refine z_dup hC rfl dX12_readSaid_167 ?_
              refine gf_RX12_497 hC dX12_readSaid_168 hk3 ?_
              refine z_iconst hC (v := 1) k_iconst_1 dX12_readSaid_171 ?_
              refine z_isub hC dX12_readSaid_172 ?_
              refine pf_RX12_497 hC dX12_readSaid_173 hk3 ?_
              refine z_genI (fun I17 eI17 => ?_)
              have h := h I17 eI17
              refine z_iload_n hC (q := 0) dX12_readSaid_176 rfl rfl ?_
              exact z_zret (b := r14) hC dX12_readSaid_177 rfl ⟨r14, rfl, rfl, rfl, rfl, h⟩
          · have h := h.2 hc
            refine z_aload_n hC (q := 1) dX12_readSaid_128 rfl rfl ?_
            refine z_aload_n hC (q := 1) dX12_readSaid_129 rfl rfl ?_
            refine z_bipush hC (v := 50) k_bipush_50 dX12_readSaid_130 ?_
            refine z_iload_n hC (q := 3) dX12_readSaid_132 rfl rfl ?_
            refine z_iadd hC dX12_readSaid_133 ?_
            refine z_iconst hC (v := 0) k_iconst_0 dX12_readSaid_134 ?_
            refine z_iconst hC (v := 0) k_iconst_0 dX12_readSaid_135 ?_
            refine z_iconst hC (v := 0) k_iconst_0 dX12_readSaid_136 ?_
            refine cl_RX12_487 hC (c_X12_saysOne _ G x0 ((50 : Int32) + x2) 0 0 0 K N I8 L9 R _ h) hk3 dX12_readSaid_137 (by rw [hRm]; exact ⟨Nat.le_trans (Nat.le_of_ble_eq_true rfl) hF.1, Nat.le_trans (Nat.le_of_ble_eq_true rfl) hF.2⟩) ⟨Nat.zero_le _, Nat.zero_le _⟩ (Nat.le_of_ble_eq_true rfl) (z_kIi (I := I8) (fun r18 I19 h => ?_))
            refine pf_RX12_484 hC dX12_readSaid_140 hk3 ?_
            refine z_genI (fun I20 eI20 => ?_)
            have h := h I20 eI20
            refine z_goto hC (tgt := 166) dX12_readSaid_143 (by decide) ?_
            refine z_aload_n hC (q := 1) dX12_readSaid_166 rfl rfl ?_
            refine z_dup hC rfl dX12_readSaid_167 ?_
            refine gf_RX12_497 hC dX12_readSaid_168 hk3 ?_
            refine z_iconst hC (v := 1) k_iconst_1 dX12_readSaid_171 ?_
            refine z_isub hC dX12_readSaid_172 ?_
            refine pf_RX12_497 hC dX12_readSaid_173 hk3 ?_
            refine z_genI (fun I21 eI21 => ?_)
            have h := h I21 eI21
            refine z_iload_n hC (q := 0) dX12_readSaid_176 rfl rfl ?_
            exact z_zret (b := true) hC dX12_readSaid_177 rfl ⟨true, rfl, rfl, rfl, rfl, h⟩
        · have h := h.2 hc
          refine z_aload_n hC (q := 1) dX12_readSaid_114 rfl rfl ?_
          refine cl_RX12_503 hC (hrc := ⟨rfl, rfl⟩) (hW_X12_readNot x0 K N I8 L9 R _ h) hk3 dX12_readSaid_115 (by rw [hRm]; exact ⟨hO.1, by have := hO.2; show 8 + (1 + 11) + lo0 ≤ lo; omega⟩) ⟨Nat.zero_le _, Nat.zero_le _⟩ (Nat.le_of_ble_eq_true rfl) (z_kLz (I := I8) (L := L9) (fun r22 I23 L24 h => ?_))
          refine z_istore_n hC (lv1 := [(3, .int (bi r22)), (0, .ref x0), (1, .int (bi x1)), (2, .int x2)]) dX12_readSaid_118 rfl (by decide) rfl ?_
          refine z_goto hC (tgt := 166) dX12_readSaid_119 (by decide) ?_
          refine z_aload_n hC (q := 1) dX12_readSaid_166 rfl rfl ?_
          refine z_dup hC rfl dX12_readSaid_167 ?_
          refine gf_RX12_497 hC dX12_readSaid_168 hk3 ?_
          refine z_iconst hC (v := 1) k_iconst_1 dX12_readSaid_171 ?_
          refine z_isub hC dX12_readSaid_172 ?_
          refine pf_RX12_497 hC dX12_readSaid_173 hk3 ?_
          refine z_genI (fun I25 eI25 => ?_)
          have h := h I25 eI25
          refine z_iload_n hC (q := 0) dX12_readSaid_176 rfl rfl ?_
          exact z_zret (b := r22) hC dX12_readSaid_177 rfl ⟨r22, rfl, rfl, rfl, rfl, h⟩
      · have h := h.2 hc
        refine z_aload_n hC (q := 1) dX12_readSaid_100 rfl rfl ?_
        refine cl_RX12_500 hC (hrc := ⟨rfl, rfl⟩) (hW_X12_readBracket x0 K N I8 L9 R _ h) hk3 dX12_readSaid_101 (by rw [hRm]; exact ⟨hO.1, by have := hO.2; show 8 + (1 + 11) + lo0 ≤ lo; omega⟩) ⟨Nat.zero_le _, Nat.zero_le _⟩ (Nat.le_of_ble_eq_true rfl) (z_kLz (I := I8) (L := L9) (fun r26 I27 L28 h => ?_))
        refine z_istore_n hC (lv1 := [(3, .int (bi r26)), (0, .ref x0), (1, .int (bi x1)), (2, .int x2)]) dX12_readSaid_104 rfl (by decide) rfl ?_
        refine z_goto hC (tgt := 166) dX12_readSaid_105 (by decide) ?_
        refine z_aload_n hC (q := 1) dX12_readSaid_166 rfl rfl ?_
        refine z_dup hC rfl dX12_readSaid_167 ?_
        refine gf_RX12_497 hC dX12_readSaid_168 hk3 ?_
        refine z_iconst hC (v := 1) k_iconst_1 dX12_readSaid_171 ?_
        refine z_isub hC dX12_readSaid_172 ?_
        refine pf_RX12_497 hC dX12_readSaid_173 hk3 ?_
        refine z_genI (fun I29 eI29 => ?_)
        have h := h I29 eI29
        refine z_iload_n hC (q := 0) dX12_readSaid_176 rfl rfl ?_
        exact z_zret (b := r26) hC dX12_readSaid_177 rfl ⟨r26, rfl, rfl, rfl, rfl, h⟩
    · have h := h.2 hc
      refine z_aload_n hC (q := 0) dX12_readSaid_64 rfl rfl ?_
      refine z_iconst hC (v := 4) k_iconst_4 dX12_readSaid_65 ?_
      refine cl_RX12_72 hC (c_X12_bad _ G x0 4 K N I L R _ h) hk3 dX12_readSaid_66 (by rw [hRm]; exact ⟨Nat.le_trans (Nat.le_of_ble_eq_true rfl) hF.1, Nat.le_trans (Nat.le_of_ble_eq_true rfl) hF.2⟩) ⟨Nat.zero_le _, Nat.zero_le _⟩ (Nat.le_of_ble_eq_true rfl) (z_kIz (I := I) (fun r30 I31 h => ?_))
      exact z_zret (b := r30) hC dX12_readSaid_69 rfl ⟨r30, rfl, rfl, rfl, rfl, h⟩
set_option maxHeartbeats 4000000 in
set_option maxRecDepth 100000 in
theorem z_X12_readSaid_30 {X : ZX} {G : ZG} {f lo f0 lo0 : Nat} {W_X12_readBracket : Nat → MK → MK → MI → ML → MR → (Bool → MI → ML → Prop) → Prop} {W_X12_readNot : Nat → MK → MK → MI → ML → MR → (Bool → MI → ML → Prop) → Prop} {x0 : Nat} {x1 : Bool} {x2 : Int32}  {K : MK} {N : MK} {I : MI} {L : ML} {R : MR}  {Q : Bool → MI → ML → Prop} (hC : ZOk X G RX12 cX12_readSaid 4 (some .boolean)) (hRm : X.2.2.2.1 = { frames := f, cells := 0, slots := 0, locals := lo }) (hF : 5 ≤ f ∧ 109 ≤ lo) (hO : f0 + 1 ≤ f ∧ 20 + lo0 ≤ lo) (hW_X12_readBracket : ∀ (u0 : Nat) (K N : MK) (I : MI) (L : ML) (R : MR) (Q : Bool → MI → ML → Prop), W_X12_readBracket u0 K N I L R Q → Met X.2.1 yX12_readBracket (.code yX12_readBracket cX12_readBracket 1 (some .boolean) :: z_tbl) { frames := f0, cells := 0, slots := 0, locals := lo0 } (z_Pc G [.ref u0] K N I L R) (z_Qc G (qLz K N R Q)) 0 0 (z_A G)) (hW_X12_readNot : ∀ (u0 : Nat) (K N : MK) (I : MI) (L : ML) (R : MR) (Q : Bool → MI → ML → Prop), W_X12_readNot u0 K N I L R Q → Met X.2.1 yX12_readNot (.code yX12_readNot cX12_readNot 1 (some .boolean) :: z_tbl) { frames := f0, cells := 0, slots := 0, locals := lo0 } (z_Pc G [.ref u0] K N I L R) (z_Qc G (qLz K N R Q)) 0 0 (z_A G)) (h : w_X12_readSaid_30 W_X12_readBracket W_X12_readNot x0 x1 x2 K N I L R  Q) : Z X G 4 0 0 (z_T X G (qLz K N R Q) 0 0) K N I L R 30 [(0, .ref x0), (1, .int (bi x1)), (2, .int x2)] [] := by
  delta w_X12_readSaid_30 at h
  refine z_iload_n hC (q := 1) dX12_readSaid_30 rfl rfl ?_
  refine z_ifz_ne hC (tgt := 46) dX12_readSaid_31 (by decide) (fun hc => ?_) (fun hc => ?_)
  · have h := h.1 hc
    exact z_sub [(0, .ref x0), (1, .int (bi x1)), (2, .int x2)] [0, 1, 2] rfl (z_X12_readSaid_46 hC hRm hF hO hW_X12_readBracket hW_X12_readNot h)
  · have h := h.2 hc
    refine z_iload_n hC (q := 2) dX12_readSaid_34 rfl rfl ?_
    refine z_bipush hC (v := 33) k_bipush_33 dX12_readSaid_35 ?_
    refine z_icmp_le hC (tgt := 46) dX12_readSaid_37 (by decide) (fun hc => ?_) (fun hc => ?_)
    · have h := h.1 hc
      exact z_sub [(0, .ref x0), (1, .int (bi x1)), (2, .int x2)] [0, 1, 2] rfl (z_X12_readSaid_46 hC hRm hF hO hW_X12_readBracket hW_X12_readNot h)
    · have h := h.2 hc
      refine z_aload_n hC (q := 0) dX12_readSaid_40 rfl rfl ?_
      refine z_iconst hC (v := 1) k_iconst_1 dX12_readSaid_41 ?_
      obtain ⟨hk32, h⟩ := h
      refine cl_RX12_72 hC (c_X12_bad _ G x0 1 K N I L R _ h) hk32 dX12_readSaid_42 (by rw [hRm]; exact ⟨Nat.le_trans (Nat.le_of_ble_eq_true rfl) hF.1, Nat.le_trans (Nat.le_of_ble_eq_true rfl) hF.2⟩) ⟨Nat.zero_le _, Nat.zero_le _⟩ (Nat.le_of_ble_eq_true rfl) (z_kIz (I := I) (fun r33 I34 h => ?_))
      exact z_zret (b := r33) hC dX12_readSaid_45 rfl ⟨r33, rfl, rfl, rfl, rfl, h⟩
set_option maxHeartbeats 4000000 in
set_option maxRecDepth 100000 in
theorem z_X12_readSaid_10 {X : ZX} {G : ZG} {f lo f0 lo0 : Nat} {W_X12_readBracket : Nat → MK → MK → MI → ML → MR → (Bool → MI → ML → Prop) → Prop} {W_X12_readNot : Nat → MK → MK → MI → ML → MR → (Bool → MI → ML → Prop) → Prop} {x0 : Nat} {x1 : Bool} {x2 : Int32}  {K : MK} {N : MK} {I : MI} {L : ML} {R : MR}  {Q : Bool → MI → ML → Prop} (hC : ZOk X G RX12 cX12_readSaid 4 (some .boolean)) (hRm : X.2.2.2.1 = { frames := f, cells := 0, slots := 0, locals := lo }) (hF : 5 ≤ f ∧ 109 ≤ lo) (hO : f0 + 1 ≤ f ∧ 20 + lo0 ≤ lo) (hW_X12_readBracket : ∀ (u0 : Nat) (K N : MK) (I : MI) (L : ML) (R : MR) (Q : Bool → MI → ML → Prop), W_X12_readBracket u0 K N I L R Q → Met X.2.1 yX12_readBracket (.code yX12_readBracket cX12_readBracket 1 (some .boolean) :: z_tbl) { frames := f0, cells := 0, slots := 0, locals := lo0 } (z_Pc G [.ref u0] K N I L R) (z_Qc G (qLz K N R Q)) 0 0 (z_A G)) (hW_X12_readNot : ∀ (u0 : Nat) (K N : MK) (I : MI) (L : ML) (R : MR) (Q : Bool → MI → ML → Prop), W_X12_readNot u0 K N I L R Q → Met X.2.1 yX12_readNot (.code yX12_readNot cX12_readNot 1 (some .boolean) :: z_tbl) { frames := f0, cells := 0, slots := 0, locals := lo0 } (z_Pc G [.ref u0] K N I L R) (z_Qc G (qLz K N R Q)) 0 0 (z_A G)) (h : w_X12_readSaid_10 W_X12_readBracket W_X12_readNot x0 x1 x2 K N I L R  Q) : Z X G 4 0 0 (z_T X G (qLz K N R Q) 0 0) K N I L R 10 [(0, .ref x0), (1, .int (bi x1)), (2, .int x2)] [] := by
  delta w_X12_readSaid_10 at h
  obtain ⟨J, ⟨n, h0⟩, hs⟩ := h
  have key : ∀ (n : Nat) (x0 : Nat) (x1 : Bool) (x2 : Int32) (I : MI) (L : ML), J n x0 x1 x2 I L → Z X G 4 0 0 (z_T X G (qLz K N R Q) 0 0) K N I L R 10 [(0, .ref x0), (1, .int (bi x1)), (2, .int x2)] [] := by
    intro n
    induction n using Nat.strongRecOn with
    | _ n ih =>
      intro x0 x1 x2 I L hJ
      have hC10 : ∀ (y0 : Nat) (y1 : Bool) (y2 : Int32) (zI : MI) (zL : ML), (∃ n1, n1 < n ∧ J n1 y0 y1 y2 zI zL) → Z X G 4 0 0 (z_T X G (qLz K N R Q) 0 0) K N zI zL R 10 [(0, .ref y0), (1, .int (bi y1)), (2, .int y2)] [] := fun y0 y1 y2 zI zL ⟨n1, hn1, hj⟩ => ih n1 hn1 y0 y1 y2 zI zL hj
      have h := hs n x0 x1 x2 I L hJ
      refine z_iload_n hC (q := 2) dX12_readSaid_10 rfl rfl ?_
      refine z_bipush hC (v := 33) k_bipush_33 dX12_readSaid_11 ?_
      refine z_icmp_gt hC (tgt := 30) dX12_readSaid_13 (by decide) (fun hc => ?_) (fun hc => ?_)
      · have h := h.1 hc
        exact z_sub [(0, .ref x0), (1, .int (bi x1)), (2, .int x2)] [0, 1, 2] rfl (z_X12_readSaid_30 hC hRm hF hO hW_X12_readBracket hW_X12_readNot h)
      · have h := h.2 hc
        refine z_aload_n hC (q := 0) dX12_readSaid_16 rfl rfl ?_
        refine z_iload_n hC (q := 2) dX12_readSaid_17 rfl rfl ?_
        obtain ⟨hk35, h⟩ := h
        refine cl_RX12_207 hC (c_X12_isWord _ G x0 x2 K N I L R _ h) hk35 dX12_readSaid_18 (by rw [hRm]; exact ⟨Nat.le_trans (Nat.le_of_ble_eq_true rfl) hF.1, Nat.le_trans (Nat.le_of_ble_eq_true rfl) hF.2⟩) ⟨Nat.zero_le _, Nat.zero_le _⟩ (Nat.le_of_ble_eq_true rfl) (z_kPz (fun r36 h => ?_))
        refine z_ifz_ne hC (tgt := 30) dX12_readSaid_21 (by decide) (fun hc => ?_) (fun hc => ?_)
        · have h := h.1 hc
          exact z_sub [(0, .ref x0), (1, .int (bi x1)), (2, .int x2)] [0, 1, 2] rfl (z_X12_readSaid_30 hC hRm hF hO hW_X12_readBracket hW_X12_readNot h)
        · have h := h.2 hc
          obtain ⟨v37, ev37⟩ : ∃ y : Int32, y = x2 + 1 := ⟨_, rfl⟩
          have h := h v37 ev37
          refine z_iinc hC (q := 2) (v := v37) (lv1 := [(2, .int v37), (0, .ref x0), (1, .int (bi x1))]) dX12_readSaid_24 rfl (by rw [ev37, k_iinc_1]) (by decide) rfl ?_
          refine z_goto hC (tgt := 10) dX12_readSaid_27 (by decide) ?_
          exact z_sub [(0, .ref x0), (1, .int (bi x1)), (2, .int v37)] [1, 2, 0] rfl (hC10 _ _ _ _ _ h)
  exact key n x0 x1 x2 I L h0
set_option maxHeartbeats 4000000 in
set_option maxRecDepth 100000 in
theorem c_X12_readSaid {f lo f0 lo0 : Nat} {W_X12_readBracket : Nat → MK → MK → MI → ML → MR → (Bool → MI → ML → Prop) → Prop} {W_X12_readNot : Nat → MK → MK → MI → ML → MR → (Bool → MI → ML → Prop) → Prop} (l : Launch) (G : ZG) (a0 : Nat) (K : MK) (N : MK) (I : MI) (L : ML) (R : MR) (Q : Bool → MI → ML → Prop) (hF : 5 ≤ f ∧ 109 ≤ lo) (hO : f0 + 1 ≤ f ∧ 20 + lo0 ≤ lo) (hW_X12_readBracket : ∀ (u0 : Nat) (K N : MK) (I : MI) (L : ML) (R : MR) (Q : Bool → MI → ML → Prop), W_X12_readBracket u0 K N I L R Q → Met l yX12_readBracket (.code yX12_readBracket cX12_readBracket 1 (some .boolean) :: z_tbl) { frames := f0, cells := 0, slots := 0, locals := lo0 } (z_Pc G [.ref u0] K N I L R) (z_Qc G (qLz K N R Q)) 0 0 (z_A G)) (hW_X12_readNot : ∀ (u0 : Nat) (K N : MK) (I : MI) (L : ML) (R : MR) (Q : Bool → MI → ML → Prop), W_X12_readNot u0 K N I L R Q → Met l yX12_readNot (.code yX12_readNot cX12_readNot 1 (some .boolean) :: z_tbl) { frames := f0, cells := 0, slots := 0, locals := lo0 } (z_Pc G [.ref u0] K N I L R) (z_Qc G (qLz K N R Q)) 0 0 (z_A G)) (h : w_X12_readSaid W_X12_readBracket W_X12_readNot a0 K N I L R Q) : Met l yX12_readSaid (.code yX12_readSaid cX12_readSaid 4 (some .boolean) :: z_tbl) { frames := f, cells := 0, slots := 0, locals := lo } (z_Pc G [.ref a0] K N I L R) (z_Qc G (qLz K N R Q)) 0 0 (z_A G) := by
  refine z_met (by decide) (Nat.le_of_ble_eq_true rfl) (fun X hX hRm hC0 hnm => ?_)
  subst hX
  have hC : ZOk X G RX12 cX12_readSaid 4 (some .boolean) := hC0
  show Z X G 4 0 0 _ K N I L R 0 [(0, .ref a0)] []
  delta w_X12_readSaid at h
  refine z_aload_n hC (q := 0) dX12_readSaid_0 rfl rfl ?_
  refine z_bipush hC (v := 40) k_bipush_40 dX12_readSaid_1 ?_
  obtain ⟨hk1, h⟩ := h
  refine cl_RX12_86 hC (c_X12_isSign _ G a0 40 K N I L R _ h) hk1 dX12_readSaid_3 (by rw [hRm]; exact ⟨Nat.le_trans (Nat.le_of_ble_eq_true rfl) hF.1, Nat.le_trans (Nat.le_of_ble_eq_true rfl) hF.2⟩) ⟨Nat.zero_le _, Nat.zero_le _⟩ (Nat.le_of_ble_eq_true rfl) (z_kPz (fun r2 h => ?_))
  refine z_istore_n hC (lv1 := [(1, .int (bi r2)), (0, .ref a0)]) dX12_readSaid_6 rfl (by decide) rfl ?_
  refine z_bipush hC (v := 25) k_bipush_25 dX12_readSaid_7 ?_
  refine z_istore_n hC (lv1 := [(2, .int 25), (1, .int (bi r2)), (0, .ref a0)]) dX12_readSaid_9 rfl (by decide) rfl ?_
  exact z_sub [(0, .ref a0), (1, .int (bi r2)), (2, .int 25)] [2, 1, 0] rfl (z_X12_readSaid_10 hC hRm hF hO hW_X12_readBracket hW_X12_readNot h)
def w_X6_readCond_97 (W_X6_readOne : Nat → Nat → Nat → Int32 → MK → MK → MI → ML → MR → (Bool → MI → ML → Prop) → Prop) (x0 : Nat) (x1 : Nat) (x2 : Nat) (x3 : Int32) (x4 : Int32) (x5 : Int32) (x6 : Int32)  (K : MK) (N : MK) (I : MI) (L : ML) (R : MR) (C9 : Nat → Nat → Nat → Int32 → Int32 → Int32 → Int32 → MI → ML → Prop) (Q : Bool → MI → ML → Prop) : Prop := (¬ x5 = 0 → K x1 = 9 ∧ w_X8_advance x1 K N I L R (fun I11 L12 => ∀ v13 : Int32, v13 = x6 + 1 → C9 x0 x1 x2 x3 x4 1 v13 I11 L12)) ∧ (x5 = 0 → (¬ x4 = 0 → K x1 = 9 ∧ w_X8_advance x1 K N I L R (fun I15 L16 => ∀ v17 : Int32, v17 = x6 + 1 → C9 x0 x1 x2 x3 x4 0 v17 I15 L16)) ∧ (x4 = 0 → K x1 = 9 ∧ w_X8_advance x1 K N I L R (fun I19 L20 => ∀ v21 : Int32, v21 = x6 + 1 → C9 x0 x1 x2 x3 x4 1 v21 I19 L20)))
def w_X6_readCond_81 (W_X6_readOne : Nat → Nat → Nat → Int32 → MK → MK → MI → ML → MR → (Bool → MI → ML → Prop) → Prop) (x0 : Nat) (x1 : Nat) (x2 : Nat) (x3 : Int32) (x4 : Int32) (x5 : Int32) (x6 : Int32)  (K : MK) (N : MK) (I : MI) (L : ML) (R : MR) (C9 : Nat → Nat → Nat → Int32 → Int32 → Int32 → Int32 → MI → ML → Prop) (Q : Bool → MI → ML → Prop) : Prop := (¬ x4 = 0 → w_X6_readCond_97 W_X6_readOne x0 x1 x2 x3 x4 x5 x6 K N I L R C9 Q) ∧ (x4 = 0 → K x1 = 9 ∧ w_X8_wordHere x1 K N I L R (fun r23 => (r23 = 25 → w_X6_readCond_97 W_X6_readOne x0 x1 x2 x3 x4 x5 x6 K N I L R C9 Q) ∧ (¬ r23 = 25 → Q true I L)))
def w_X6_readCond_44 (W_X6_readOne : Nat → Nat → Nat → Int32 → MK → MK → MI → ML → MR → (Bool → MI → ML → Prop) → Prop) (x0 : Nat) (x1 : Nat) (x2 : Nat) (x3 : Int32) (x5 : Int32) (x6 : Int32)  (K : MK) (N : MK) (I : MI) (L : ML) (R : MR) (C9 : Nat → Nat → Nat → Int32 → Int32 → Int32 → Int32 → MI → ML → Prop) (Q : Bool → MI → ML → Prop) : Prop := K x1 = 9 ∧ w_X8_wordHere x1 K N I L R (fun r9 => (¬ r9 = 26 → (x5 = 0 → w_X6_readCond_81 W_X6_readOne x0 x1 x2 x3 0 x5 x6 K N I L R C9 Q) ∧ (¬ x5 = 0 → K x0 = 7 ∧ ∃ b25 : Nat, R x0 0 = some b25 ∧ K b25 = 6 ∧ w_X5_add b25 25 0 0 K N I L R (fun I27 => w_X6_readCond_81 W_X6_readOne x0 x1 x2 x3 0 x5 x6 K N I27 L R C9 Q))) ∧ (r9 = 26 → w_X6_readCond_81 W_X6_readOne x0 x1 x2 x3 1 x5 x6 K N I L R C9 Q))
def w_X6_readCond_9 (W_X6_readOne : Nat → Nat → Nat → Int32 → MK → MK → MI → ML → MR → (Bool → MI → ML → Prop) → Prop) (x0 : Nat) (x1 : Nat) (x2 : Nat) (x3 : Int32) (x4 : Int32) (x5 : Int32) (x6 : Int32)  (K : MK) (N : MK) (I : MI) (L : ML) (R : MR)  (Q : Bool → MI → ML → Prop) : Prop := ∃ J : Nat → Nat → Nat → Nat → Int32 → Int32 → Int32 → Int32 → MI → ML → Prop, (∃ n, J n x0 x1 x2 x3 x4 x5 x6 I L) ∧ ∀ (n : Nat) (x0 : Nat) (x1 : Nat) (x2 : Nat) (x3 : Int32) (x4 : Int32) (x5 : Int32) (x6 : Int32) (I : MI) (L : ML), J n x0 x1 x2 x3 x4 x5 x6 I L → ((20 : Int32) < x6 → K x1 = 9 ∧ w_X8_fail x1 4 K N I L R (fun r2 I3 => Q r2 I3 L)) ∧ (¬ (20 : Int32) < x6 → K x0 = 7 ∧ W_X6_readOne x0 x1 x2 x3 K N I L R (fun r5 I6 L7 => (r5 = true → (x4 = 0 → w_X6_readCond_44 W_X6_readOne x0 x1 x2 x3 x5 x6 K N I6 L7 R (fun y0 y1 y2 y3 y4 y5 y6 y7 y8 => ∃ n1, n1 < n ∧ J n1 y0 y1 y2 y3 y4 y5 y6 y7 y8) Q) ∧ (¬ x4 = 0 → ∃ b28 : Nat, R x0 0 = some b28 ∧ K b28 = 6 ∧ w_X5_add b28 26 0 0 K N I6 L7 R (fun I30 => w_X6_readCond_44 W_X6_readOne x0 x1 x2 x3 x5 x6 K N I30 L7 R (fun y0 y1 y2 y3 y4 y5 y6 y7 y8 => ∃ n1, n1 < n ∧ J n1 y0 y1 y2 y3 y4 y5 y6 y7 y8) Q))) ∧ (r5 = false → Q false I6 L7)))
def w_X6_readCond (W_X6_readOne : Nat → Nat → Nat → Int32 → MK → MK → MI → ML → MR → (Bool → MI → ML → Prop) → Prop) (a0 : Nat) (a1 : Nat) (a2 : Nat) (a3 : Int32) (K : MK) (N : MK) (I : MI) (L : ML) (R : MR) (Q : Bool → MI → ML → Prop) : Prop := w_X6_readCond_9 W_X6_readOne a0 a1 a2 a3 0 0 0 K N I L R Q
set_option maxHeartbeats 4000000 in
set_option maxRecDepth 100000 in
theorem z_X6_readCond_97 {X : ZX} {G : ZG} {f lo f0 lo0 : Nat} {W_X6_readOne : Nat → Nat → Nat → Int32 → MK → MK → MI → ML → MR → (Bool → MI → ML → Prop) → Prop} {x0 : Nat} {x1 : Nat} {x2 : Nat} {x3 : Int32} {x4 : Int32} {x5 : Int32} {x6 : Int32}  {K : MK} {N : MK} {I : MI} {L : ML} {R : MR} {C9 : Nat → Nat → Nat → Int32 → Int32 → Int32 → Int32 → MI → ML → Prop} {Q : Bool → MI → ML → Prop} (hC : ZOk X G RX6 cX6_readCond 7 (some .boolean)) (hRm : X.2.2.2.1 = { frames := f, cells := 0, slots := 0, locals := lo }) (hF : 11 ≤ f ∧ 471 ≤ lo) (hO : f0 + 1 ≤ f ∧ 26 + lo0 ≤ lo) (hW_X6_readOne : ∀ (u0 : Nat) (u1 : Nat) (u2 : Nat) (u3 : Int32) (K N : MK) (I : MI) (L : ML) (R : MR) (Q : Bool → MI → ML → Prop), W_X6_readOne u0 u1 u2 u3 K N I L R Q → Met X.2.1 yX6_readOne (.code yX6_readOne cX6_readOne 7 (some .boolean) :: z_tbl) { frames := f0, cells := 0, slots := 0, locals := lo0 } (z_Pc G [.ref u0, .ref u1, .ref u2, .int u3] K N I L R) (z_Qc G (qLz K N R Q)) 0 0 (z_A G)) (hC9 : ∀ (y0 : Nat) (y1 : Nat) (y2 : Nat) (y3 : Int32) (y4 : Int32) (y5 : Int32) (y6 : Int32) (zI : MI) (zL : ML), C9 y0 y1 y2 y3 y4 y5 y6 zI zL → Z X G 7 0 0 (z_T X G (qLz K N R Q) 0 0) K N zI zL R 9 [(0, .ref y0), (1, .ref y1), (2, .ref y2), (3, .int y3), (4, .int y4), (5, .int y5), (6, .int y6)] []) (h : w_X6_readCond_97 W_X6_readOne x0 x1 x2 x3 x4 x5 x6 K N I L R C9 Q) : Z X G 7 0 0 (z_T X G (qLz K N R Q) 0 0) K N I L R 97 [(0, .ref x0), (1, .ref x1), (2, .ref x2), (3, .int x3), (4, .int x4), (5, .int x5), (6, .int x6)] [] := by
  delta w_X6_readCond_97 at h
  refine z_iload hC (q := 5) dX6_readCond_97 rfl ?_
  refine z_if_ne hC (tgt := 107) dX6_readCond_99 (by decide) (fun hc => ?_) (fun hc => ?_)
  · have h := h.1 hc
    refine z_iconst hC (v := 1) k_iconst_1 dX6_readCond_107 ?_
    refine z_goto hC (tgt := 112) dX6_readCond_108 (by decide) ?_
    refine z_istore hC (lv1 := [(5, .int 1), (0, .ref x0), (1, .ref x1), (2, .ref x2), (3, .int x3), (4, .int x4), (6, .int x6)]) dX6_readCond_112 (by decide) rfl ?_
    refine z_aload_n hC (q := 2) dX6_readCond_114 rfl rfl ?_
    obtain ⟨hk10, h⟩ := h
    refine cl_RX6_53 hC (c_X8_advance _ G x1 K N I L R _ h) hk10 dX6_readCond_115 (by rw [hRm]; exact ⟨Nat.le_trans (Nat.le_of_ble_eq_true rfl) hF.1, Nat.le_trans (Nat.le_of_ble_eq_true rfl) hF.2⟩) ⟨Nat.zero_le _, Nat.zero_le _⟩ (Nat.le_of_ble_eq_true rfl) (z_kLv (I := I) (L := L) (fun I11 L12 h => ?_))
    obtain ⟨v13, ev13⟩ : ∃ y : Int32, y = x6 + 1 := ⟨_, rfl⟩
    have h := h v13 ev13
    refine z_iinc hC (q := 6) (v := v13) (lv1 := [(6, .int v13), (5, .int 1), (0, .ref x0), (1, .ref x1), (2, .ref x2), (3, .int x3), (4, .int x4)]) dX6_readCond_118 rfl (by rw [ev13, k_iinc_1]) (by decide) rfl ?_
    refine z_goto hC (tgt := 9) dX6_readCond_121 (by decide) ?_
    exact z_sub [(0, .ref x0), (1, .ref x1), (2, .ref x2), (3, .int x3), (4, .int x4), (5, .int 1), (6, .int v13)] [2, 3, 4, 5, 6, 1, 0] rfl (hC9 _ _ _ _ _ _ _ _ _ h)
  · have h := h.2 hc
    refine z_iload hC (q := 4) dX6_readCond_102 rfl ?_
    refine z_if_ne hC (tgt := 111) dX6_readCond_104 (by decide) (fun hc => ?_) (fun hc => ?_)
    · have h := h.1 hc
      refine z_iconst hC (v := 0) k_iconst_0 dX6_readCond_111 ?_
      refine z_istore hC (lv1 := [(5, .int 0), (0, .ref x0), (1, .ref x1), (2, .ref x2), (3, .int x3), (4, .int x4), (6, .int x6)]) dX6_readCond_112 (by decide) rfl ?_
      refine z_aload_n hC (q := 2) dX6_readCond_114 rfl rfl ?_
      obtain ⟨hk14, h⟩ := h
      refine cl_RX6_53 hC (c_X8_advance _ G x1 K N I L R _ h) hk14 dX6_readCond_115 (by rw [hRm]; exact ⟨Nat.le_trans (Nat.le_of_ble_eq_true rfl) hF.1, Nat.le_trans (Nat.le_of_ble_eq_true rfl) hF.2⟩) ⟨Nat.zero_le _, Nat.zero_le _⟩ (Nat.le_of_ble_eq_true rfl) (z_kLv (I := I) (L := L) (fun I15 L16 h => ?_))
      obtain ⟨v17, ev17⟩ : ∃ y : Int32, y = x6 + 1 := ⟨_, rfl⟩
      have h := h v17 ev17
      refine z_iinc hC (q := 6) (v := v17) (lv1 := [(6, .int v17), (5, .int 0), (0, .ref x0), (1, .ref x1), (2, .ref x2), (3, .int x3), (4, .int x4)]) dX6_readCond_118 rfl (by rw [ev17, k_iinc_1]) (by decide) rfl ?_
      refine z_goto hC (tgt := 9) dX6_readCond_121 (by decide) ?_
      exact z_sub [(0, .ref x0), (1, .ref x1), (2, .ref x2), (3, .int x3), (4, .int x4), (5, .int 0), (6, .int v17)] [2, 3, 4, 5, 6, 1, 0] rfl (hC9 _ _ _ _ _ _ _ _ _ h)
    · have h := h.2 hc
      refine z_iconst hC (v := 1) k_iconst_1 dX6_readCond_107 ?_
      refine z_goto hC (tgt := 112) dX6_readCond_108 (by decide) ?_
      refine z_istore hC (lv1 := [(5, .int 1), (0, .ref x0), (1, .ref x1), (2, .ref x2), (3, .int x3), (4, .int x4), (6, .int x6)]) dX6_readCond_112 (by decide) rfl ?_
      refine z_aload_n hC (q := 2) dX6_readCond_114 rfl rfl ?_
      obtain ⟨hk18, h⟩ := h
      refine cl_RX6_53 hC (c_X8_advance _ G x1 K N I L R _ h) hk18 dX6_readCond_115 (by rw [hRm]; exact ⟨Nat.le_trans (Nat.le_of_ble_eq_true rfl) hF.1, Nat.le_trans (Nat.le_of_ble_eq_true rfl) hF.2⟩) ⟨Nat.zero_le _, Nat.zero_le _⟩ (Nat.le_of_ble_eq_true rfl) (z_kLv (I := I) (L := L) (fun I19 L20 h => ?_))
      obtain ⟨v21, ev21⟩ : ∃ y : Int32, y = x6 + 1 := ⟨_, rfl⟩
      have h := h v21 ev21
      refine z_iinc hC (q := 6) (v := v21) (lv1 := [(6, .int v21), (5, .int 1), (0, .ref x0), (1, .ref x1), (2, .ref x2), (3, .int x3), (4, .int x4)]) dX6_readCond_118 rfl (by rw [ev21, k_iinc_1]) (by decide) rfl ?_
      refine z_goto hC (tgt := 9) dX6_readCond_121 (by decide) ?_
      exact z_sub [(0, .ref x0), (1, .ref x1), (2, .ref x2), (3, .int x3), (4, .int x4), (5, .int 1), (6, .int v21)] [2, 3, 4, 5, 6, 1, 0] rfl (hC9 _ _ _ _ _ _ _ _ _ h)
set_option maxHeartbeats 4000000 in
set_option maxRecDepth 100000 in
theorem z_X6_readCond_81 {X : ZX} {G : ZG} {f lo f0 lo0 : Nat} {W_X6_readOne : Nat → Nat → Nat → Int32 → MK → MK → MI → ML → MR → (Bool → MI → ML → Prop) → Prop} {x0 : Nat} {x1 : Nat} {x2 : Nat} {x3 : Int32} {x4 : Int32} {x5 : Int32} {x6 : Int32}  {K : MK} {N : MK} {I : MI} {L : ML} {R : MR} {C9 : Nat → Nat → Nat → Int32 → Int32 → Int32 → Int32 → MI → ML → Prop} {Q : Bool → MI → ML → Prop} (hC : ZOk X G RX6 cX6_readCond 7 (some .boolean)) (hRm : X.2.2.2.1 = { frames := f, cells := 0, slots := 0, locals := lo }) (hF : 11 ≤ f ∧ 471 ≤ lo) (hO : f0 + 1 ≤ f ∧ 26 + lo0 ≤ lo) (hW_X6_readOne : ∀ (u0 : Nat) (u1 : Nat) (u2 : Nat) (u3 : Int32) (K N : MK) (I : MI) (L : ML) (R : MR) (Q : Bool → MI → ML → Prop), W_X6_readOne u0 u1 u2 u3 K N I L R Q → Met X.2.1 yX6_readOne (.code yX6_readOne cX6_readOne 7 (some .boolean) :: z_tbl) { frames := f0, cells := 0, slots := 0, locals := lo0 } (z_Pc G [.ref u0, .ref u1, .ref u2, .int u3] K N I L R) (z_Qc G (qLz K N R Q)) 0 0 (z_A G)) (hC9 : ∀ (y0 : Nat) (y1 : Nat) (y2 : Nat) (y3 : Int32) (y4 : Int32) (y5 : Int32) (y6 : Int32) (zI : MI) (zL : ML), C9 y0 y1 y2 y3 y4 y5 y6 zI zL → Z X G 7 0 0 (z_T X G (qLz K N R Q) 0 0) K N zI zL R 9 [(0, .ref y0), (1, .ref y1), (2, .ref y2), (3, .int y3), (4, .int y4), (5, .int y5), (6, .int y6)] []) (h : w_X6_readCond_81 W_X6_readOne x0 x1 x2 x3 x4 x5 x6 K N I L R C9 Q) : Z X G 7 0 0 (z_T X G (qLz K N R Q) 0 0) K N I L R 81 [(0, .ref x0), (1, .ref x1), (2, .ref x2), (3, .int x3), (4, .int x4), (5, .int x5), (6, .int x6)] [] := by
  delta w_X6_readCond_81 at h
  refine z_iload hC (q := 4) dX6_readCond_81 rfl ?_
  refine z_if_ne hC (tgt := 97) dX6_readCond_83 (by decide) (fun hc => ?_) (fun hc => ?_)
  · have h := h.1 hc
    exact z_sub [(0, .ref x0), (1, .ref x1), (2, .ref x2), (3, .int x3), (4, .int x4), (5, .int x5), (6, .int x6)] [0, 1, 2, 3, 4, 5, 6] rfl (z_X6_readCond_97 hC hRm hF hO hW_X6_readOne hC9 h)
  · have h := h.2 hc
    refine z_aload_n hC (q := 1) dX6_readCond_86 rfl rfl ?_
    obtain ⟨hk22, h⟩ := h
    refine cl_RX6_49 hC (c_X8_wordHere _ G x1 K N I L R _ h) hk22 dX6_readCond_87 (by rw [hRm]; exact ⟨Nat.le_trans (Nat.le_of_ble_eq_true rfl) hF.1, Nat.le_trans (Nat.le_of_ble_eq_true rfl) hF.2⟩) ⟨Nat.zero_le _, Nat.zero_le _⟩ (Nat.le_of_ble_eq_true rfl) (z_kPi (fun r23 h => ?_))
    refine z_bipush hC (v := 25) k_bipush_25 dX6_readCond_90 ?_
    refine z_icmp_eq hC (tgt := 97) dX6_readCond_92 (by decide) (fun hc => ?_) (fun hc => ?_)
    · have h := h.1 hc
      exact z_sub [(0, .ref x0), (1, .ref x1), (2, .ref x2), (3, .int x3), (4, .int x4), (5, .int x5), (6, .int x6)] [0, 1, 2, 3, 4, 5, 6] rfl (z_X6_readCond_97 hC hRm hF hO hW_X6_readOne hC9 h)
    · have h := h.2 hc
      refine z_iconst hC (v := 1) k_iconst_1 dX6_readCond_95 ?_
      exact z_zret (b := true) hC dX6_readCond_96 rfl ⟨true, rfl, rfl, rfl, rfl, h⟩
set_option maxHeartbeats 4000000 in
set_option maxRecDepth 100000 in
theorem z_X6_readCond_44 {X : ZX} {G : ZG} {f lo f0 lo0 : Nat} {W_X6_readOne : Nat → Nat → Nat → Int32 → MK → MK → MI → ML → MR → (Bool → MI → ML → Prop) → Prop} {x0 : Nat} {x1 : Nat} {x2 : Nat} {x3 : Int32} {x5 : Int32} {x6 : Int32}  {K : MK} {N : MK} {I : MI} {L : ML} {R : MR} {C9 : Nat → Nat → Nat → Int32 → Int32 → Int32 → Int32 → MI → ML → Prop} {Q : Bool → MI → ML → Prop} (hC : ZOk X G RX6 cX6_readCond 7 (some .boolean)) (hRm : X.2.2.2.1 = { frames := f, cells := 0, slots := 0, locals := lo }) (hF : 11 ≤ f ∧ 471 ≤ lo) (hO : f0 + 1 ≤ f ∧ 26 + lo0 ≤ lo) (hW_X6_readOne : ∀ (u0 : Nat) (u1 : Nat) (u2 : Nat) (u3 : Int32) (K N : MK) (I : MI) (L : ML) (R : MR) (Q : Bool → MI → ML → Prop), W_X6_readOne u0 u1 u2 u3 K N I L R Q → Met X.2.1 yX6_readOne (.code yX6_readOne cX6_readOne 7 (some .boolean) :: z_tbl) { frames := f0, cells := 0, slots := 0, locals := lo0 } (z_Pc G [.ref u0, .ref u1, .ref u2, .int u3] K N I L R) (z_Qc G (qLz K N R Q)) 0 0 (z_A G)) (hC9 : ∀ (y0 : Nat) (y1 : Nat) (y2 : Nat) (y3 : Int32) (y4 : Int32) (y5 : Int32) (y6 : Int32) (zI : MI) (zL : ML), C9 y0 y1 y2 y3 y4 y5 y6 zI zL → Z X G 7 0 0 (z_T X G (qLz K N R Q) 0 0) K N zI zL R 9 [(0, .ref y0), (1, .ref y1), (2, .ref y2), (3, .int y3), (4, .int y4), (5, .int y5), (6, .int y6)] []) (h : w_X6_readCond_44 W_X6_readOne x0 x1 x2 x3 x5 x6 K N I L R C9 Q) : Z X G 7 0 0 (z_T X G (qLz K N R Q) 0 0) K N I L R 44 [(0, .ref x0), (1, .ref x1), (2, .ref x2), (3, .int x3), (5, .int x5), (6, .int x6)] [] := by
  delta w_X6_readCond_44 at h
  refine z_aload_n hC (q := 1) dX6_readCond_44 rfl rfl ?_
  obtain ⟨hk8, h⟩ := h
  refine cl_RX6_49 hC (c_X8_wordHere _ G x1 K N I L R _ h) hk8 dX6_readCond_45 (by rw [hRm]; exact ⟨Nat.le_trans (Nat.le_of_ble_eq_true rfl) hF.1, Nat.le_trans (Nat.le_of_ble_eq_true rfl) hF.2⟩) ⟨Nat.zero_le _, Nat.zero_le _⟩ (Nat.le_of_ble_eq_true rfl) (z_kPi (fun r9 h => ?_))
  refine z_bipush hC (v := 26) k_bipush_26 dX6_readCond_48 ?_
  refine z_icmp_ne hC (tgt := 57) dX6_readCond_50 (by decide) (fun hc => ?_) (fun hc => ?_)
  · have h := h.1 hc
    refine z_iconst hC (v := 0) k_iconst_0 dX6_readCond_57 ?_
    refine z_istore hC (lv1 := [(4, .int 0), (0, .ref x0), (1, .ref x1), (2, .ref x2), (3, .int x3), (5, .int x5), (6, .int x6)]) dX6_readCond_58 (by decide) rfl ?_
    refine z_iload hC (q := 0) dX6_readCond_60 rfl ?_
    refine z_if_ne hC (tgt := 81) dX6_readCond_62 (by decide) (fun hc => absurd hc (by decide)) (fun _ => ?_)
    refine z_iload hC (q := 5) dX6_readCond_65 rfl ?_
    refine z_if_eq hC (tgt := 81) dX6_readCond_67 (by decide) (fun hc => ?_) (fun hc => ?_)
    · have h := h.1 hc
      exact z_sub [(0, .ref x0), (1, .ref x1), (2, .ref x2), (3, .int x3), (4, .int 0), (5, .int x5), (6, .int x6)] [1, 2, 3, 4, 0, 5, 6] rfl (z_X6_readCond_81 hC hRm hF hO hW_X6_readOne hC9 h)
    · have h := h.2 hc
      refine z_aload_n hC (q := 1) dX6_readCond_70 rfl rfl ?_
      obtain ⟨hk24, h⟩ := h
      obtain ⟨b25, hb25, h⟩ := h
      refine gf_RX6_12 hC dX6_readCond_71 hk24 hb25 ?_
      refine z_bipush hC (v := 25) k_bipush_25 dX6_readCond_74 ?_
      refine z_iconst hC (v := 0) k_iconst_0 dX6_readCond_76 ?_
      refine z_iconst hC (v := 0) k_iconst_0 dX6_readCond_77 ?_
      obtain ⟨hk26, h⟩ := h
      refine cl_RX6_45 hC (c_X5_add _ G b25 25 0 0 K N I L R _ h) hk26 dX6_readCond_78 (by rw [hRm]; exact ⟨Nat.le_trans (Nat.le_of_ble_eq_true rfl) hF.1, Nat.le_trans (Nat.le_of_ble_eq_true rfl) hF.2⟩) ⟨Nat.zero_le _, Nat.zero_le _⟩ (Nat.le_of_ble_eq_true rfl) (z_kIv (I := I) (fun I27 h => ?_))
      exact z_sub [(0, .ref x0), (1, .ref x1), (2, .ref x2), (3, .int x3), (4, .int 0), (5, .int x5), (6, .int x6)] [1, 2, 3, 4, 0, 5, 6] rfl (z_X6_readCond_81 hC hRm hF hO hW_X6_readOne hC9 h)
  · have h := h.2 hc
    refine z_iconst hC (v := 1) k_iconst_1 dX6_readCond_53 ?_
    refine z_goto hC (tgt := 58) dX6_readCond_54 (by decide) ?_
    refine z_istore hC (lv1 := [(4, .int 1), (0, .ref x0), (1, .ref x1), (2, .ref x2), (3, .int x3), (5, .int x5), (6, .int x6)]) dX6_readCond_58 (by decide) rfl ?_
    refine z_iload hC (q := 0) dX6_readCond_60 rfl ?_
    refine z_if_ne hC (tgt := 81) dX6_readCond_62 (by decide) (fun _ => ?_) (fun hc => absurd hc (by decide))
    exact z_sub [(0, .ref x0), (1, .ref x1), (2, .ref x2), (3, .int x3), (4, .int 1), (5, .int x5), (6, .int x6)] [1, 2, 3, 4, 0, 5, 6] rfl (z_X6_readCond_81 hC hRm hF hO hW_X6_readOne hC9 h)
set_option maxHeartbeats 4000000 in
set_option maxRecDepth 100000 in
theorem z_X6_readCond_9 {X : ZX} {G : ZG} {f lo f0 lo0 : Nat} {W_X6_readOne : Nat → Nat → Nat → Int32 → MK → MK → MI → ML → MR → (Bool → MI → ML → Prop) → Prop} {x0 : Nat} {x1 : Nat} {x2 : Nat} {x3 : Int32} {x4 : Int32} {x5 : Int32} {x6 : Int32}  {K : MK} {N : MK} {I : MI} {L : ML} {R : MR}  {Q : Bool → MI → ML → Prop} (hC : ZOk X G RX6 cX6_readCond 7 (some .boolean)) (hRm : X.2.2.2.1 = { frames := f, cells := 0, slots := 0, locals := lo }) (hF : 11 ≤ f ∧ 471 ≤ lo) (hO : f0 + 1 ≤ f ∧ 26 + lo0 ≤ lo) (hW_X6_readOne : ∀ (u0 : Nat) (u1 : Nat) (u2 : Nat) (u3 : Int32) (K N : MK) (I : MI) (L : ML) (R : MR) (Q : Bool → MI → ML → Prop), W_X6_readOne u0 u1 u2 u3 K N I L R Q → Met X.2.1 yX6_readOne (.code yX6_readOne cX6_readOne 7 (some .boolean) :: z_tbl) { frames := f0, cells := 0, slots := 0, locals := lo0 } (z_Pc G [.ref u0, .ref u1, .ref u2, .int u3] K N I L R) (z_Qc G (qLz K N R Q)) 0 0 (z_A G)) (h : w_X6_readCond_9 W_X6_readOne x0 x1 x2 x3 x4 x5 x6 K N I L R  Q) : Z X G 7 0 0 (z_T X G (qLz K N R Q) 0 0) K N I L R 9 [(0, .ref x0), (1, .ref x1), (2, .ref x2), (3, .int x3), (4, .int x4), (5, .int x5), (6, .int x6)] [] := by
  delta w_X6_readCond_9 at h
  obtain ⟨J, ⟨n, h0⟩, hs⟩ := h
  have key : ∀ (n : Nat) (x0 : Nat) (x1 : Nat) (x2 : Nat) (x3 : Int32) (x4 : Int32) (x5 : Int32) (x6 : Int32) (I : MI) (L : ML), J n x0 x1 x2 x3 x4 x5 x6 I L → Z X G 7 0 0 (z_T X G (qLz K N R Q) 0 0) K N I L R 9 [(0, .ref x0), (1, .ref x1), (2, .ref x2), (3, .int x3), (4, .int x4), (5, .int x5), (6, .int x6)] [] := by
    intro n
    induction n using Nat.strongRecOn with
    | _ n ih =>
      intro x0 x1 x2 x3 x4 x5 x6 I L hJ
      have hC9 : ∀ (y0 : Nat) (y1 : Nat) (y2 : Nat) (y3 : Int32) (y4 : Int32) (y5 : Int32) (y6 : Int32) (zI : MI) (zL : ML), (∃ n1, n1 < n ∧ J n1 y0 y1 y2 y3 y4 y5 y6 zI zL) → Z X G 7 0 0 (z_T X G (qLz K N R Q) 0 0) K N zI zL R 9 [(0, .ref y0), (1, .ref y1), (2, .ref y2), (3, .int y3), (4, .int y4), (5, .int y5), (6, .int y6)] [] := fun y0 y1 y2 y3 y4 y5 y6 zI zL ⟨n1, hn1, hj⟩ => ih n1 hn1 y0 y1 y2 y3 y4 y5 y6 zI zL hj
      have h := hs n x0 x1 x2 x3 x4 x5 x6 I L hJ
      refine z_iload hC (q := 6) dX6_readCond_9 rfl ?_
      refine z_bipush hC (v := 20) k_bipush_20 dX6_readCond_11 ?_
      refine z_icmp_gt hC (tgt := 124) dX6_readCond_13 (by decide) (fun hc => ?_) (fun hc => ?_)
      · have h := h.1 hc
        refine z_aload_n hC (q := 1) dX6_readCond_124 rfl rfl ?_
        refine z_iconst hC (v := 4) k_iconst_4 dX6_readCond_125 ?_
        obtain ⟨hk1, h⟩ := h
        refine cl_RX6_38 hC (c_X8_fail _ G x1 4 K N I L R _ h) hk1 dX6_readCond_126 (by rw [hRm]; exact ⟨Nat.le_trans (Nat.le_of_ble_eq_true rfl) hF.1, Nat.le_trans (Nat.le_of_ble_eq_true rfl) hF.2⟩) ⟨Nat.zero_le _, Nat.zero_le _⟩ (Nat.le_of_ble_eq_true rfl) (z_kIz (I := I) (fun r2 I3 h => ?_))
        exact z_zret (b := r2) hC dX6_readCond_129 rfl ⟨r2, rfl, rfl, rfl, rfl, h⟩
      · have h := h.2 hc
        refine z_aload_n hC (q := 0) dX6_readCond_16 rfl rfl ?_
        refine z_aload_n hC (q := 1) dX6_readCond_17 rfl rfl ?_
        refine z_aload_n hC (q := 2) dX6_readCond_18 rfl rfl ?_
        refine z_iload_n hC (q := 3) dX6_readCond_19 rfl rfl ?_
        obtain ⟨hk4, h⟩ := h
        refine cl_RX6_42 hC (hrc := ⟨rfl, rfl⟩) (hW_X6_readOne x0 x1 x2 x3 K N I L R _ h) hk4 dX6_readCond_20 (by rw [hRm]; exact ⟨hO.1, by have := hO.2; show 8 + (7 + 11) + lo0 ≤ lo; omega⟩) ⟨Nat.zero_le _, Nat.zero_le _⟩ (Nat.le_of_ble_eq_true rfl) (z_kLz (I := I) (L := L) (fun r5 I6 L7 h => ?_))
        refine z_ifz_ne hC (tgt := 28) dX6_readCond_23 (by decide) (fun hc => ?_) (fun hc => ?_)
        · have h := h.1 hc
          refine z_iload hC (q := 4) dX6_readCond_28 rfl ?_
          refine z_if_eq hC (tgt := 44) dX6_readCond_30 (by decide) (fun hc => ?_) (fun hc => ?_)
          · have h := h.1 hc
            exact z_sub [(0, .ref x0), (1, .ref x1), (2, .ref x2), (3, .int x3), (5, .int x5), (6, .int x6)] [0, 1, 2, 3, 5, 6] rfl (z_X6_readCond_44 hC hRm hF hO hW_X6_readOne hC9 h)
          · have h := h.2 hc
            refine z_aload_n hC (q := 0) dX6_readCond_33 rfl rfl ?_
            obtain ⟨b28, hb28, h⟩ := h
            refine gf_RX6_12 hC dX6_readCond_34 hk4 hb28 ?_
            refine z_bipush hC (v := 26) k_bipush_26 dX6_readCond_37 ?_
            refine z_iconst hC (v := 0) k_iconst_0 dX6_readCond_39 ?_
            refine z_iconst hC (v := 0) k_iconst_0 dX6_readCond_40 ?_
            obtain ⟨hk29, h⟩ := h
            refine cl_RX6_45 hC (c_X5_add _ G b28 26 0 0 K N I6 L7 R _ h) hk29 dX6_readCond_41 (by rw [hRm]; exact ⟨Nat.le_trans (Nat.le_of_ble_eq_true rfl) hF.1, Nat.le_trans (Nat.le_of_ble_eq_true rfl) hF.2⟩) ⟨Nat.zero_le _, Nat.zero_le _⟩ (Nat.le_of_ble_eq_true rfl) (z_kIv (I := I6) (fun I30 h => ?_))
            exact z_sub [(0, .ref x0), (1, .ref x1), (2, .ref x2), (3, .int x3), (5, .int x5), (6, .int x6)] [0, 1, 2, 3, 5, 6] rfl (z_X6_readCond_44 hC hRm hF hO hW_X6_readOne hC9 h)
        · have h := h.2 hc
          refine z_iconst hC (v := 0) k_iconst_0 dX6_readCond_26 ?_
          exact z_zret (b := false) hC dX6_readCond_27 rfl ⟨false, rfl, rfl, rfl, rfl, h⟩
  exact key n x0 x1 x2 x3 x4 x5 x6 I L h0
set_option maxHeartbeats 4000000 in
set_option maxRecDepth 100000 in
theorem c_X6_readCond {f lo f0 lo0 : Nat} {W_X6_readOne : Nat → Nat → Nat → Int32 → MK → MK → MI → ML → MR → (Bool → MI → ML → Prop) → Prop} (l : Launch) (G : ZG) (a0 : Nat) (a1 : Nat) (a2 : Nat) (a3 : Int32) (K : MK) (N : MK) (I : MI) (L : ML) (R : MR) (Q : Bool → MI → ML → Prop) (hF : 11 ≤ f ∧ 471 ≤ lo) (hO : f0 + 1 ≤ f ∧ 26 + lo0 ≤ lo) (hW_X6_readOne : ∀ (u0 : Nat) (u1 : Nat) (u2 : Nat) (u3 : Int32) (K N : MK) (I : MI) (L : ML) (R : MR) (Q : Bool → MI → ML → Prop), W_X6_readOne u0 u1 u2 u3 K N I L R Q → Met l yX6_readOne (.code yX6_readOne cX6_readOne 7 (some .boolean) :: z_tbl) { frames := f0, cells := 0, slots := 0, locals := lo0 } (z_Pc G [.ref u0, .ref u1, .ref u2, .int u3] K N I L R) (z_Qc G (qLz K N R Q)) 0 0 (z_A G)) (h : w_X6_readCond W_X6_readOne a0 a1 a2 a3 K N I L R Q) : Met l yX6_readCond (.code yX6_readCond cX6_readCond 7 (some .boolean) :: z_tbl) { frames := f, cells := 0, slots := 0, locals := lo } (z_Pc G [.ref a0, .ref a1, .ref a2, .int a3] K N I L R) (z_Qc G (qLz K N R Q)) 0 0 (z_A G) := by
  refine z_met (by decide) (Nat.le_of_ble_eq_true rfl) (fun X hX hRm hC0 hnm => ?_)
  subst hX
  have hC : ZOk X G RX6 cX6_readCond 7 (some .boolean) := hC0
  show Z X G 7 0 0 _ K N I L R 0 [(0, .ref a0), (1, .ref a1), (2, .ref a2), (3, .int a3)] []
  delta w_X6_readCond at h
  refine z_iconst hC (v := 0) k_iconst_0 dX6_readCond_0 ?_
  refine z_istore hC (lv1 := [(4, .int 0), (0, .ref a0), (1, .ref a1), (2, .ref a2), (3, .int a3)]) dX6_readCond_1 (by decide) rfl ?_
  refine z_iconst hC (v := 0) k_iconst_0 dX6_readCond_3 ?_
  refine z_istore hC (lv1 := [(5, .int 0), (4, .int 0), (0, .ref a0), (1, .ref a1), (2, .ref a2), (3, .int a3)]) dX6_readCond_4 (by decide) rfl ?_
  refine z_iconst hC (v := 0) k_iconst_0 dX6_readCond_6 ?_
  refine z_istore hC (lv1 := [(6, .int 0), (5, .int 0), (4, .int 0), (0, .ref a0), (1, .ref a1), (2, .ref a2), (3, .int a3)]) dX6_readCond_7 (by decide) rfl ?_
  exact z_sub [(0, .ref a0), (1, .ref a1), (2, .ref a2), (3, .int a3), (4, .int 0), (5, .int 0), (6, .int 0)] [3, 4, 5, 6, 2, 1, 0] rfl (z_X6_readCond_9 hC hRm hF hO hW_X6_readOne h)
def w_X6_readOne_33 (W_X6_readCond : Nat → Nat → Nat → Int32 → MK → MK → MI → ML → MR → (Bool → MI → ML → Prop) → Prop) (W_X6_readOne : Nat → Nat → Nat → Int32 → MK → MK → MI → ML → MR → (Bool → MI → ML → Prop) → Prop) (x0 : Nat) (x1 : Nat) (x2 : Nat) (x3 : Int32) (x4 : Int32) (x5 : Bool)  (K : MK) (N : MK) (I : MI) (L : ML) (R : MR)  (Q : Bool → MI → ML → Prop) : Prop := K x0 = 7 ∧ ((20 : Int32) ≤ (I x0 1) → K x1 = 9 ∧ w_X8_fail x1 4 K N I L R (fun r6 I7 => Q r6 I7 L)) ∧ (¬ (20 : Int32) ≤ (I x0 1) → (x3 ≤ 8 → ∀ I8 : MI, I8 = mup I x0 1 ((I x0 1) + 1) → K x1 = 9 ∧ w_X8_advance x1 K N I8 L R (fun I10 L11 => (x5 = false → (¬ x4 = 27 → (x4 = 28 → ∃ b12 : Nat, R x0 0 = some b12 ∧ K b12 = 6 ∧ w_X5_add b12 x4 0 0 K N I10 L11 R (fun I14 => Q true I14 L11)) ∧ (¬ x4 = 28 → (x4 = 29 → ∃ b15 : Nat, R x0 0 = some b15 ∧ K b15 = 6 ∧ w_X5_add b15 x4 0 0 K N I10 L11 R (fun I17 => Q true I17 L11)) ∧ (¬ x4 = 29 → (¬ x4 = 7 → (¬ x4 = 30 → w_X6_readCompared x0 x1 x4 K N I10 L11 R (fun r18 I19 L20 => Q r18 I19 L20)) ∧ (x4 = 30 → w_X6_readScopeName x0 x1 x2 K N I10 L11 R (fun r21 I22 L23 => Q r21 I22 L23))) ∧ (x4 = 7 → ∃ b24 : Nat, R x0 0 = some b24 ∧ K b24 = 6 ∧ w_X5_add b24 x4 0 0 K N I10 L11 R (fun I26 => Q true I26 L11))))) ∧ (x4 = 27 → W_X6_readOne x0 x1 x2 (x3 + 1) K N I10 L11 R (fun r27 I28 L29 => ∃ b30 : Nat, R x0 0 = some b30 ∧ K b30 = 6 ∧ w_X5_add b30 27 0 0 K N I28 L29 R (fun I32 => Q r27 I32 L29)))) ∧ (x5 = true → W_X6_readCond x0 x1 x2 (x3 + 1) K N I10 L11 R (fun r33 I34 L35 => (r33 = false → Q false I34 L35) ∧ (r33 = true → w_X8_passSign x1 41 K N I34 L35 R (fun r36 I37 L38 => (r36 = false → Q false I37 L38) ∧ (r36 = true → Q true I37 L38))))))) ∧ (¬ x3 ≤ 8 → K x1 = 9 ∧ w_X8_fail x1 4 K N I L R (fun r40 I41 => Q r40 I41 L)))
def w_X6_readOne (W_X6_readCond : Nat → Nat → Nat → Int32 → MK → MK → MI → ML → MR → (Bool → MI → ML → Prop) → Prop) (W_X6_readOne : Nat → Nat → Nat → Int32 → MK → MK → MI → ML → MR → (Bool → MI → ML → Prop) → Prop) (a0 : Nat) (a1 : Nat) (a2 : Nat) (a3 : Int32) (K : MK) (N : MK) (I : MI) (L : ML) (R : MR) (Q : Bool → MI → ML → Prop) : Prop := K a1 = 9 ∧ w_X8_wordHere a1 K N I L R (fun r2 => w_X8_isSign a1 40 K N I L R (fun r3 => (r3 = true → w_X6_readOne_33 W_X6_readCond W_X6_readOne a0 a1 a2 a3 r2 r3 K N I L R Q) ∧ (r3 = false → w_X6_isFirstWord r2 K N I L R (fun r42 => (r42 = true → w_X6_readOne_33 W_X6_readCond W_X6_readOne a0 a1 a2 a3 r2 r3 K N I L R Q) ∧ (r42 = false → w_X8_fail a1 1 K N I L R (fun r43 I44 => Q r43 I44 L))))))
set_option maxHeartbeats 4000000 in
set_option maxRecDepth 100000 in
theorem z_X6_readOne_33 {X : ZX} {G : ZG} {f lo f0 lo0 : Nat} {W_X6_readCond : Nat → Nat → Nat → Int32 → MK → MK → MI → ML → MR → (Bool → MI → ML → Prop) → Prop} {W_X6_readOne : Nat → Nat → Nat → Int32 → MK → MK → MI → ML → MR → (Bool → MI → ML → Prop) → Prop} {x0 : Nat} {x1 : Nat} {x2 : Nat} {x3 : Int32} {x4 : Int32} {x5 : Bool}  {K : MK} {N : MK} {I : MI} {L : ML} {R : MR}  {Q : Bool → MI → ML → Prop} (hC : ZOk X G RX6 cX6_readOne 7 (some .boolean)) (hRm : X.2.2.2.1 = { frames := f, cells := 0, slots := 0, locals := lo }) (hF : 12 ≤ f ∧ 494 ≤ lo) (hO : f0 + 1 ≤ f ∧ 26 + lo0 ≤ lo) (hW_X6_readCond : ∀ (u0 : Nat) (u1 : Nat) (u2 : Nat) (u3 : Int32) (K N : MK) (I : MI) (L : ML) (R : MR) (Q : Bool → MI → ML → Prop), W_X6_readCond u0 u1 u2 u3 K N I L R Q → Met X.2.1 yX6_readCond (.code yX6_readCond cX6_readCond 7 (some .boolean) :: z_tbl) { frames := f0, cells := 0, slots := 0, locals := lo0 } (z_Pc G [.ref u0, .ref u1, .ref u2, .int u3] K N I L R) (z_Qc G (qLz K N R Q)) 0 0 (z_A G)) (hW_X6_readOne : ∀ (u0 : Nat) (u1 : Nat) (u2 : Nat) (u3 : Int32) (K N : MK) (I : MI) (L : ML) (R : MR) (Q : Bool → MI → ML → Prop), W_X6_readOne u0 u1 u2 u3 K N I L R Q → Met X.2.1 yX6_readOne (.code yX6_readOne cX6_readOne 7 (some .boolean) :: z_tbl) { frames := f0, cells := 0, slots := 0, locals := lo0 } (z_Pc G [.ref u0, .ref u1, .ref u2, .int u3] K N I L R) (z_Qc G (qLz K N R Q)) 0 0 (z_A G)) (h : w_X6_readOne_33 W_X6_readCond W_X6_readOne x0 x1 x2 x3 x4 x5 K N I L R  Q) : Z X G 7 0 0 (z_T X G (qLz K N R Q) 0 0) K N I L R 33 [(0, .ref x0), (1, .ref x1), (2, .ref x2), (3, .int x3), (4, .int x4), (5, .int (bi x5))] [] := by
  delta w_X6_readOne_33 at h
  refine z_aload_n hC (q := 0) dX6_readOne_33 rfl rfl ?_
  obtain ⟨hk4, h⟩ := h
  refine gf_RX6_18 hC dX6_readOne_34 hk4 ?_
  refine z_bipush hC (v := 20) k_bipush_20 dX6_readOne_37 ?_
  refine z_icmp_ge hC (tgt := 48) dX6_readOne_39 (by decide) (fun hc => ?_) (fun hc => ?_)
  · have h := h.1 hc
    refine z_aload_n hC (q := 1) dX6_readOne_48 rfl rfl ?_
    refine z_iconst hC (v := 4) k_iconst_4 dX6_readOne_49 ?_
    obtain ⟨hk5, h⟩ := h
    refine cl_RX6_38 hC (c_X8_fail _ G x1 4 K N I L R _ h) hk5 dX6_readOne_50 (by rw [hRm]; exact ⟨Nat.le_trans (Nat.le_of_ble_eq_true rfl) hF.1, Nat.le_trans (Nat.le_of_ble_eq_true rfl) hF.2⟩) ⟨Nat.zero_le _, Nat.zero_le _⟩ (Nat.le_of_ble_eq_true rfl) (z_kIz (I := I) (fun r6 I7 h => ?_))
    exact z_zret (b := r6) hC dX6_readOne_53 rfl ⟨r6, rfl, rfl, rfl, rfl, h⟩
  · have h := h.2 hc
    refine z_iload_n hC (q := 3) dX6_readOne_42 rfl rfl ?_
    refine z_bipush hC (v := 8) k_bipush_8 dX6_readOne_43 ?_
    refine z_icmp_le hC (tgt := 54) dX6_readOne_45 (by decide) (fun hc => ?_) (fun hc => ?_)
    · have h := h.1 hc
      refine z_aload_n hC (q := 0) dX6_readOne_54 rfl rfl ?_
      refine z_dup hC rfl dX6_readOne_55 ?_
      refine gf_RX6_18 hC dX6_readOne_56 hk4 ?_
      refine z_iconst hC (v := 1) k_iconst_1 dX6_readOne_59 ?_
      refine z_iadd hC dX6_readOne_60 ?_
      refine pf_RX6_18 hC dX6_readOne_61 hk4 ?_
      refine z_genI (fun I8 eI8 => ?_)
      have h := h I8 eI8
      refine z_aload_n hC (q := 1) dX6_readOne_64 rfl rfl ?_
      obtain ⟨hk9, h⟩ := h
      refine cl_RX6_53 hC (c_X8_advance _ G x1 K N I8 L R _ h) hk9 dX6_readOne_65 (by rw [hRm]; exact ⟨Nat.le_trans (Nat.le_of_ble_eq_true rfl) hF.1, Nat.le_trans (Nat.le_of_ble_eq_true rfl) hF.2⟩) ⟨Nat.zero_le _, Nat.zero_le _⟩ (Nat.le_of_ble_eq_true rfl) (z_kLv (I := I8) (L := L) (fun I10 L11 h => ?_))
      refine z_iload hC (q := 5) dX6_readOne_68 rfl ?_
      refine z_ifz_eq hC (tgt := 100) dX6_readOne_70 (by decide) (fun hc => ?_) (fun hc => ?_)
      · have h := h.1 hc
        refine z_iload hC (q := 4) dX6_readOne_100 rfl ?_
        refine z_bipush hC (v := 27) k_bipush_27 dX6_readOne_102 ?_
        refine z_icmp_ne hC (tgt := 132) dX6_readOne_104 (by decide) (fun hc => ?_) (fun hc => ?_)
        · have h := h.1 hc
          refine z_iload hC (q := 4) dX6_readOne_132 rfl ?_
          refine z_bipush hC (v := 28) k_bipush_28 dX6_readOne_134 ?_
          refine z_icmp_eq hC (tgt := 153) dX6_readOne_136 (by decide) (fun hc => ?_) (fun hc => ?_)
          · have h := h.1 hc
            refine z_aload_n hC (q := 0) dX6_readOne_153 rfl rfl ?_
            obtain ⟨b12, hb12, h⟩ := h
            refine gf_RX6_12 hC dX6_readOne_154 hk4 hb12 ?_
            refine z_iload hC (q := 4) dX6_readOne_157 rfl ?_
            refine z_iconst hC (v := 0) k_iconst_0 dX6_readOne_159 ?_
            refine z_iconst hC (v := 0) k_iconst_0 dX6_readOne_160 ?_
            obtain ⟨hk13, h⟩ := h
            refine cl_RX6_45 hC (c_X5_add _ G b12 x4 0 0 K N I10 L11 R _ h) hk13 dX6_readOne_161 (by rw [hRm]; exact ⟨Nat.le_trans (Nat.le_of_ble_eq_true rfl) hF.1, Nat.le_trans (Nat.le_of_ble_eq_true rfl) hF.2⟩) ⟨Nat.zero_le _, Nat.zero_le _⟩ (Nat.le_of_ble_eq_true rfl) (z_kIv (I := I10) (fun I14 h => ?_))
            refine z_iconst hC (v := 1) k_iconst_1 dX6_readOne_164 ?_
            exact z_zret (b := true) hC dX6_readOne_165 rfl ⟨true, rfl, rfl, rfl, rfl, h⟩
          · have h := h.2 hc
            refine z_iload hC (q := 4) dX6_readOne_139 rfl ?_
            refine z_bipush hC (v := 29) k_bipush_29 dX6_readOne_141 ?_
            refine z_icmp_eq hC (tgt := 153) dX6_readOne_143 (by decide) (fun hc => ?_) (fun hc => ?_)
            · have h := h.1 hc
              refine z_aload_n hC (q := 0) dX6_readOne_153 rfl rfl ?_
              obtain ⟨b15, hb15, h⟩ := h
              refine gf_RX6_12 hC dX6_readOne_154 hk4 hb15 ?_
              refine z_iload hC (q := 4) dX6_readOne_157 rfl ?_
              refine z_iconst hC (v := 0) k_iconst_0 dX6_readOne_159 ?_
              refine z_iconst hC (v := 0) k_iconst_0 dX6_readOne_160 ?_
              obtain ⟨hk16, h⟩ := h
              refine cl_RX6_45 hC (c_X5_add _ G b15 x4 0 0 K N I10 L11 R _ h) hk16 dX6_readOne_161 (by rw [hRm]; exact ⟨Nat.le_trans (Nat.le_of_ble_eq_true rfl) hF.1, Nat.le_trans (Nat.le_of_ble_eq_true rfl) hF.2⟩) ⟨Nat.zero_le _, Nat.zero_le _⟩ (Nat.le_of_ble_eq_true rfl) (z_kIv (I := I10) (fun I17 h => ?_))
              refine z_iconst hC (v := 1) k_iconst_1 dX6_readOne_164 ?_
              exact z_zret (b := true) hC dX6_readOne_165 rfl ⟨true, rfl, rfl, rfl, rfl, h⟩
            · have h := h.2 hc
              refine z_iload hC (q := 4) dX6_readOne_146 rfl ?_
              refine z_bipush hC (v := 7) k_bipush_7 dX6_readOne_148 ?_
              refine z_icmp_ne hC (tgt := 166) dX6_readOne_150 (by decide) (fun hc => ?_) (fun hc => ?_)
              · have h := h.1 hc
                refine z_iload hC (q := 4) dX6_readOne_166 rfl ?_
                refine z_bipush hC (v := 30) k_bipush_30 dX6_readOne_168 ?_
                refine z_icmp_ne hC (tgt := 182) dX6_readOne_170 (by decide) (fun hc => ?_) (fun hc => ?_)
                · have h := h.1 hc
                  refine z_aload_n hC (q := 0) dX6_readOne_182 rfl rfl ?_
                  refine z_aload_n hC (q := 1) dX6_readOne_183 rfl rfl ?_
                  refine z_iload hC (q := 4) dX6_readOne_184 rfl ?_
                  refine cl_RX6_70 hC (c_X6_readCompared _ G x0 x1 x4 K N I10 L11 R _ h) hk4 dX6_readOne_186 (by rw [hRm]; exact ⟨Nat.le_trans (Nat.le_of_ble_eq_true rfl) hF.1, Nat.le_trans (Nat.le_of_ble_eq_true rfl) hF.2⟩) ⟨Nat.zero_le _, Nat.zero_le _⟩ (Nat.le_of_ble_eq_true rfl) (z_kLz (I := I10) (L := L11) (fun r18 I19 L20 h => ?_))
                  exact z_zret (b := r18) hC dX6_readOne_189 rfl ⟨r18, rfl, rfl, rfl, rfl, h⟩
                · have h := h.2 hc
                  refine z_aload_n hC (q := 0) dX6_readOne_173 rfl rfl ?_
                  refine z_aload_n hC (q := 1) dX6_readOne_174 rfl rfl ?_
                  refine z_aload_n hC (q := 2) dX6_readOne_175 rfl rfl ?_
                  refine cl_RX6_66 hC (c_X6_readScopeName _ G x0 x1 x2 K N I10 L11 R _ h) hk4 dX6_readOne_176 (by rw [hRm]; exact ⟨Nat.le_trans (Nat.le_of_ble_eq_true rfl) hF.1, Nat.le_trans (Nat.le_of_ble_eq_true rfl) hF.2⟩) ⟨Nat.zero_le _, Nat.zero_le _⟩ (Nat.le_of_ble_eq_true rfl) (z_kLz (I := I10) (L := L11) (fun r21 I22 L23 h => ?_))
                  refine z_goto hC (tgt := 189) dX6_readOne_179 (by decide) ?_
                  exact z_zret (b := r21) hC dX6_readOne_189 rfl ⟨r21, rfl, rfl, rfl, rfl, h⟩
              · have h := h.2 hc
                refine z_aload_n hC (q := 0) dX6_readOne_153 rfl rfl ?_
                obtain ⟨b24, hb24, h⟩ := h
                refine gf_RX6_12 hC dX6_readOne_154 hk4 hb24 ?_
                refine z_iload hC (q := 4) dX6_readOne_157 rfl ?_
                refine z_iconst hC (v := 0) k_iconst_0 dX6_readOne_159 ?_
                refine z_iconst hC (v := 0) k_iconst_0 dX6_readOne_160 ?_
                obtain ⟨hk25, h⟩ := h
                refine cl_RX6_45 hC (c_X5_add _ G b24 x4 0 0 K N I10 L11 R _ h) hk25 dX6_readOne_161 (by rw [hRm]; exact ⟨Nat.le_trans (Nat.le_of_ble_eq_true rfl) hF.1, Nat.le_trans (Nat.le_of_ble_eq_true rfl) hF.2⟩) ⟨Nat.zero_le _, Nat.zero_le _⟩ (Nat.le_of_ble_eq_true rfl) (z_kIv (I := I10) (fun I26 h => ?_))
                refine z_iconst hC (v := 1) k_iconst_1 dX6_readOne_164 ?_
                exact z_zret (b := true) hC dX6_readOne_165 rfl ⟨true, rfl, rfl, rfl, rfl, h⟩
        · have h := h.2 hc
          refine z_aload_n hC (q := 0) dX6_readOne_107 rfl rfl ?_
          refine z_aload_n hC (q := 1) dX6_readOne_108 rfl rfl ?_
          refine z_aload_n hC (q := 2) dX6_readOne_109 rfl rfl ?_
          refine z_iload_n hC (q := 3) dX6_readOne_110 rfl rfl ?_
          refine z_iconst hC (v := 1) k_iconst_1 dX6_readOne_111 ?_
          refine z_iadd hC dX6_readOne_112 ?_
          refine cl_RX6_42 hC (hrc := ⟨rfl, rfl⟩) (hW_X6_readOne x0 x1 x2 (x3 + 1) K N I10 L11 R _ h) hk4 dX6_readOne_113 (by rw [hRm]; exact ⟨hO.1, by have := hO.2; show 8 + (7 + 11) + lo0 ≤ lo; omega⟩) ⟨Nat.zero_le _, Nat.zero_le _⟩ (Nat.le_of_ble_eq_true rfl) (z_kLz (I := I10) (L := L11) (fun r27 I28 L29 h => ?_))
          refine z_istore hC (lv1 := [(6, .int (bi r27)), (0, .ref x0), (1, .ref x1), (2, .ref x2), (3, .int x3), (4, .int x4), (5, .int (bi x5))]) dX6_readOne_116 (by decide) rfl ?_
          refine z_aload_n hC (q := 1) dX6_readOne_118 rfl rfl ?_
          obtain ⟨b30, hb30, h⟩ := h
          refine gf_RX6_12 hC dX6_readOne_119 hk4 hb30 ?_
          refine z_bipush hC (v := 27) k_bipush_27 dX6_readOne_122 ?_
          refine z_iconst hC (v := 0) k_iconst_0 dX6_readOne_124 ?_
          refine z_iconst hC (v := 0) k_iconst_0 dX6_readOne_125 ?_
          obtain ⟨hk31, h⟩ := h
          refine cl_RX6_45 hC (c_X5_add _ G b30 27 0 0 K N I28 L29 R _ h) hk31 dX6_readOne_126 (by rw [hRm]; exact ⟨Nat.le_trans (Nat.le_of_ble_eq_true rfl) hF.1, Nat.le_trans (Nat.le_of_ble_eq_true rfl) hF.2⟩) ⟨Nat.zero_le _, Nat.zero_le _⟩ (Nat.le_of_ble_eq_true rfl) (z_kIv (I := I28) (fun I32 h => ?_))
          refine z_iload hC (q := 0) dX6_readOne_129 rfl ?_
          exact z_zret (b := r27) hC dX6_readOne_131 rfl ⟨r27, rfl, rfl, rfl, rfl, h⟩
      · have h := h.2 hc
        refine z_aload_n hC (q := 0) dX6_readOne_73 rfl rfl ?_
        refine z_aload_n hC (q := 1) dX6_readOne_74 rfl rfl ?_
        refine z_aload_n hC (q := 2) dX6_readOne_75 rfl rfl ?_
        refine z_iload_n hC (q := 3) dX6_readOne_76 rfl rfl ?_
        refine z_iconst hC (v := 1) k_iconst_1 dX6_readOne_77 ?_
        refine z_iadd hC dX6_readOne_78 ?_
        refine cl_RX6_31 hC (hrc := ⟨rfl, rfl⟩) (hW_X6_readCond x0 x1 x2 (x3 + 1) K N I10 L11 R _ h) hk4 dX6_readOne_79 (by rw [hRm]; exact ⟨hO.1, by have := hO.2; show 8 + (7 + 11) + lo0 ≤ lo; omega⟩) ⟨Nat.zero_le _, Nat.zero_le _⟩ (Nat.le_of_ble_eq_true rfl) (z_kLz (I := I10) (L := L11) (fun r33 I34 L35 h => ?_))
        refine z_ifz_eq hC (tgt := 98) dX6_readOne_82 (by decide) (fun hc => ?_) (fun hc => ?_)
        · have h := h.1 hc
          refine z_iconst hC (v := 0) k_iconst_0 dX6_readOne_98 ?_
          exact z_zret (b := false) hC dX6_readOne_99 rfl ⟨false, rfl, rfl, rfl, rfl, h⟩
        · have h := h.2 hc
          refine z_aload_n hC (q := 1) dX6_readOne_85 rfl rfl ?_
          refine z_bipush hC (v := 41) k_bipush_41 dX6_readOne_86 ?_
          refine cl_RX6_63 hC (c_X8_passSign _ G x1 41 K N I34 L35 R _ h) hk9 dX6_readOne_88 (by rw [hRm]; exact ⟨Nat.le_trans (Nat.le_of_ble_eq_true rfl) hF.1, Nat.le_trans (Nat.le_of_ble_eq_true rfl) hF.2⟩) ⟨Nat.zero_le _, Nat.zero_le _⟩ (Nat.le_of_ble_eq_true rfl) (z_kLz (I := I34) (L := L35) (fun r36 I37 L38 h => ?_))
          refine z_ifz_eq hC (tgt := 98) dX6_readOne_91 (by decide) (fun hc => ?_) (fun hc => ?_)
          · have h := h.1 hc
            refine z_iconst hC (v := 0) k_iconst_0 dX6_readOne_98 ?_
            exact z_zret (b := false) hC dX6_readOne_99 rfl ⟨false, rfl, rfl, rfl, rfl, h⟩
          · have h := h.2 hc
            refine z_iconst hC (v := 1) k_iconst_1 dX6_readOne_94 ?_
            refine z_goto hC (tgt := 99) dX6_readOne_95 (by decide) ?_
            exact z_zret (b := true) hC dX6_readOne_99 rfl ⟨true, rfl, rfl, rfl, rfl, h⟩
    · have h := h.2 hc
      refine z_aload_n hC (q := 1) dX6_readOne_48 rfl rfl ?_
      refine z_iconst hC (v := 4) k_iconst_4 dX6_readOne_49 ?_
      obtain ⟨hk39, h⟩ := h
      refine cl_RX6_38 hC (c_X8_fail _ G x1 4 K N I L R _ h) hk39 dX6_readOne_50 (by rw [hRm]; exact ⟨Nat.le_trans (Nat.le_of_ble_eq_true rfl) hF.1, Nat.le_trans (Nat.le_of_ble_eq_true rfl) hF.2⟩) ⟨Nat.zero_le _, Nat.zero_le _⟩ (Nat.le_of_ble_eq_true rfl) (z_kIz (I := I) (fun r40 I41 h => ?_))
      exact z_zret (b := r40) hC dX6_readOne_53 rfl ⟨r40, rfl, rfl, rfl, rfl, h⟩
set_option maxHeartbeats 4000000 in
set_option maxRecDepth 100000 in
theorem c_X6_readOne {f lo f0 lo0 : Nat} {W_X6_readCond : Nat → Nat → Nat → Int32 → MK → MK → MI → ML → MR → (Bool → MI → ML → Prop) → Prop} {W_X6_readOne : Nat → Nat → Nat → Int32 → MK → MK → MI → ML → MR → (Bool → MI → ML → Prop) → Prop} (l : Launch) (G : ZG) (a0 : Nat) (a1 : Nat) (a2 : Nat) (a3 : Int32) (K : MK) (N : MK) (I : MI) (L : ML) (R : MR) (Q : Bool → MI → ML → Prop) (hF : 12 ≤ f ∧ 494 ≤ lo) (hO : f0 + 1 ≤ f ∧ 26 + lo0 ≤ lo) (hW_X6_readCond : ∀ (u0 : Nat) (u1 : Nat) (u2 : Nat) (u3 : Int32) (K N : MK) (I : MI) (L : ML) (R : MR) (Q : Bool → MI → ML → Prop), W_X6_readCond u0 u1 u2 u3 K N I L R Q → Met l yX6_readCond (.code yX6_readCond cX6_readCond 7 (some .boolean) :: z_tbl) { frames := f0, cells := 0, slots := 0, locals := lo0 } (z_Pc G [.ref u0, .ref u1, .ref u2, .int u3] K N I L R) (z_Qc G (qLz K N R Q)) 0 0 (z_A G)) (hW_X6_readOne : ∀ (u0 : Nat) (u1 : Nat) (u2 : Nat) (u3 : Int32) (K N : MK) (I : MI) (L : ML) (R : MR) (Q : Bool → MI → ML → Prop), W_X6_readOne u0 u1 u2 u3 K N I L R Q → Met l yX6_readOne (.code yX6_readOne cX6_readOne 7 (some .boolean) :: z_tbl) { frames := f0, cells := 0, slots := 0, locals := lo0 } (z_Pc G [.ref u0, .ref u1, .ref u2, .int u3] K N I L R) (z_Qc G (qLz K N R Q)) 0 0 (z_A G)) (h : w_X6_readOne W_X6_readCond W_X6_readOne a0 a1 a2 a3 K N I L R Q) : Met l yX6_readOne (.code yX6_readOne cX6_readOne 7 (some .boolean) :: z_tbl) { frames := f, cells := 0, slots := 0, locals := lo } (z_Pc G [.ref a0, .ref a1, .ref a2, .int a3] K N I L R) (z_Qc G (qLz K N R Q)) 0 0 (z_A G) := by
  refine z_met (by decide) (Nat.le_of_ble_eq_true rfl) (fun X hX hRm hC0 hnm => ?_)
  subst hX
  have hC : ZOk X G RX6 cX6_readOne 7 (some .boolean) := hC0
  show Z X G 7 0 0 _ K N I L R 0 [(0, .ref a0), (1, .ref a1), (2, .ref a2), (3, .int a3)] []
  delta w_X6_readOne at h
  refine z_aload_n hC (q := 1) dX6_readOne_0 rfl rfl ?_
  obtain ⟨hk1, h⟩ := h
  refine cl_RX6_49 hC (c_X8_wordHere _ G a1 K N I L R _ h) hk1 dX6_readOne_1 (by rw [hRm]; exact ⟨Nat.le_trans (Nat.le_of_ble_eq_true rfl) hF.1, Nat.le_trans (Nat.le_of_ble_eq_true rfl) hF.2⟩) ⟨Nat.zero_le _, Nat.zero_le _⟩ (Nat.le_of_ble_eq_true rfl) (z_kPi (fun r2 h => ?_))
  refine z_istore hC (lv1 := [(4, .int r2), (0, .ref a0), (1, .ref a1), (2, .ref a2), (3, .int a3)]) dX6_readOne_4 (by decide) rfl ?_
  refine z_aload_n hC (q := 2) dX6_readOne_6 rfl rfl ?_
  refine z_bipush hC (v := 40) k_bipush_40 dX6_readOne_7 ?_
  refine cl_RX6_56 hC (c_X8_isSign _ G a1 40 K N I L R _ h) hk1 dX6_readOne_9 (by rw [hRm]; exact ⟨Nat.le_trans (Nat.le_of_ble_eq_true rfl) hF.1, Nat.le_trans (Nat.le_of_ble_eq_true rfl) hF.2⟩) ⟨Nat.zero_le _, Nat.zero_le _⟩ (Nat.le_of_ble_eq_true rfl) (z_kPz (fun r3 h => ?_))
  refine z_istore hC (lv1 := [(5, .int (bi r3)), (4, .int r2), (0, .ref a0), (1, .ref a1), (2, .ref a2), (3, .int a3)]) dX6_readOne_12 (by decide) rfl ?_
  refine z_iload hC (q := 0) dX6_readOne_14 rfl ?_
  refine z_ifz_ne hC (tgt := 33) dX6_readOne_16 (by decide) (fun hc => ?_) (fun hc => ?_)
  · have h := h.1 hc
    exact z_sub [(0, .ref a0), (1, .ref a1), (2, .ref a2), (3, .int a3), (4, .int r2), (5, .int (bi r3))] [2, 3, 4, 5, 1, 0] rfl (z_X6_readOne_33 hC hRm hF hO hW_X6_readCond hW_X6_readOne h)
  · have h := h.2 hc
    refine z_iload hC (q := 1) dX6_readOne_19 rfl ?_
    refine cl_RX6_60 hC (c_X6_isFirstWord _ G r2 K N I L R _ h) dX6_readOne_21 (by rw [hRm]; exact ⟨Nat.le_trans (Nat.le_of_ble_eq_true rfl) hF.1, Nat.le_trans (Nat.le_of_ble_eq_true rfl) hF.2⟩) ⟨Nat.zero_le _, Nat.zero_le _⟩ (Nat.le_of_ble_eq_true rfl) (z_kPz (fun r42 h => ?_))
    refine z_ifz_ne hC (tgt := 33) dX6_readOne_24 (by decide) (fun hc => ?_) (fun hc => ?_)
    · have h := h.1 hc
      exact z_sub [(0, .ref a0), (1, .ref a1), (2, .ref a2), (3, .int a3), (4, .int r2), (5, .int (bi r3))] [2, 3, 4, 5, 1, 0] rfl (z_X6_readOne_33 hC hRm hF hO hW_X6_readCond hW_X6_readOne h)
    · have h := h.2 hc
      refine z_aload_n hC (q := 3) dX6_readOne_27 rfl rfl ?_
      refine z_iconst hC (v := 1) k_iconst_1 dX6_readOne_28 ?_
      refine cl_RX6_38 hC (c_X8_fail _ G a1 1 K N I L R _ h) hk1 dX6_readOne_29 (by rw [hRm]; exact ⟨Nat.le_trans (Nat.le_of_ble_eq_true rfl) hF.1, Nat.le_trans (Nat.le_of_ble_eq_true rfl) hF.2⟩) ⟨Nat.zero_le _, Nat.zero_le _⟩ (Nat.le_of_ble_eq_true rfl) (z_kIz (I := I) (fun r43 I44 h => ?_))
      exact z_zret (b := r43) hC dX6_readOne_32 rfl ⟨r43, rfl, rfl, rfl, rfl, h⟩
def wd_X12_writeWord : Nat → Nat → Int64 → MK → MK → MI → ML → MR → (MI → Prop) → Prop
  | 0 => fun _ _ _ _ _ _ _ _ => False
  | d + 1 => w_X12_writeWord (wd_X12_writeWord d)
set_option maxRecDepth 20000 in
theorem cd_X12_writeWord (l : Launch) (G : ZG) : ∀ (d : Nat) (u0 : Nat) (u1 : Int64) (K N : MK) (I : MI) (L : ML) (R : MR) (Q : MI → Prop), wd_X12_writeWord d u0 u1 K N I L R Q → ∀ a : Nat, Met l yX12_writeWord (.code yX12_writeWord cX12_writeWord 3 none :: z_tbl) { frames := 40 * (d + 1) + 10 * a, cells := 0, slots := 0, locals := 1000 + 200 * d + 40 * a } (z_Pc G [.ref u0, .long u1] K N I L R) (z_Qc G (qIv K N L R Q)) 0 0 (z_A G) := by
  intro d
  induction d with
  | zero => intro u0 u1 K N I L R Q h; exact h.elim
  | succ d ih0 =>
    intro u0 u1 K N I L R Q h a
    have ihl := fun (a : Nat) (u0 : Nat) (u1 : Int64) (K N : MK) (I : MI) (L : ML) (R : MR) (Q : MI → Prop) (h : wd_X12_writeWord d u0 u1 K N I L R Q) => ih0 u0 u1 K N I L R Q h a
    exact c_X12_writeWord (f := 40 * (d + 1 + 1) + 10 * a) (lo := 1000 + 200 * (d + 1) + 40 * a) (f0 := 40 * (d + 1) + 10 * 0) (lo0 := 1000 + 200 * d + 40 * 0) l G u0 u1 K N I L R Q ⟨by omega, by omega⟩ ⟨by omega, by omega⟩ (ihl 0) h
abbrev rm_X12_writeWord : Room := { frames := 440, cells := 0, slots := 0, locals := 2960 }
def wc_X12_writeWord (u0 : Nat) (u1 : Int64) (K N : MK) (I : MI) (L : ML) (R : MR) (Q : MI → Prop) : Prop := wd_X12_writeWord 9 u0 u1 K N I L R Q
set_option maxRecDepth 20000 in
theorem c_X12_writeWord_c (l : Launch) (G : ZG) (u0 : Nat) (u1 : Int64) (K N : MK) (I : MI) (L : ML) (R : MR) (Q : MI → Prop) (h : wc_X12_writeWord u0 u1 K N I L R Q) : Met l yX12_writeWord (.code yX12_writeWord cX12_writeWord 3 none :: z_tbl) rm_X12_writeWord (z_Pc G [.ref u0, .long u1] K N I L R) (z_Qc G (qIv K N L R Q)) 0 0 (z_A G) := cd_X12_writeWord l G 9 u0 u1 K N I L R Q h 4
def wd_X12_writeNumber : Nat → Nat → Int32 → MK → MK → MI → ML → MR → (MI → Prop) → Prop
  | 0 => fun _ _ _ _ _ _ _ _ => False
  | d + 1 => w_X12_writeNumber (wd_X12_writeNumber d)
set_option maxRecDepth 20000 in
theorem cd_X12_writeNumber (l : Launch) (G : ZG) : ∀ (d : Nat) (u0 : Nat) (u1 : Int32) (K N : MK) (I : MI) (L : ML) (R : MR) (Q : MI → Prop), wd_X12_writeNumber d u0 u1 K N I L R Q → ∀ a : Nat, Met l yX12_writeNumber (.code yX12_writeNumber cX12_writeNumber 2 none :: z_tbl) { frames := 40 * (d + 1) + 10 * a, cells := 0, slots := 0, locals := 1000 + 200 * d + 40 * a } (z_Pc G [.ref u0, .int u1] K N I L R) (z_Qc G (qIv K N L R Q)) 0 0 (z_A G) := by
  intro d
  induction d with
  | zero => intro u0 u1 K N I L R Q h; exact h.elim
  | succ d ih0 =>
    intro u0 u1 K N I L R Q h a
    have ihl := fun (a : Nat) (u0 : Nat) (u1 : Int32) (K N : MK) (I : MI) (L : ML) (R : MR) (Q : MI → Prop) (h : wd_X12_writeNumber d u0 u1 K N I L R Q) => ih0 u0 u1 K N I L R Q h a
    exact c_X12_writeNumber (f := 40 * (d + 1 + 1) + 10 * a) (lo := 1000 + 200 * (d + 1) + 40 * a) (f0 := 40 * (d + 1) + 10 * 0) (lo0 := 1000 + 200 * d + 40 * 0) l G u0 u1 K N I L R Q ⟨by omega, by omega⟩ ⟨by omega, by omega⟩ (ihl 0) h
abbrev rm_X12_writeNumber : Room := { frames := 360, cells := 0, slots := 0, locals := 2560 }
def wc_X12_writeNumber (u0 : Nat) (u1 : Int32) (K N : MK) (I : MI) (L : ML) (R : MR) (Q : MI → Prop) : Prop := wd_X12_writeNumber 7 u0 u1 K N I L R Q
set_option maxRecDepth 20000 in
theorem c_X12_writeNumber_c (l : Launch) (G : ZG) (u0 : Nat) (u1 : Int32) (K N : MK) (I : MI) (L : ML) (R : MR) (Q : MI → Prop) (h : wc_X12_writeNumber u0 u1 K N I L R Q) : Met l yX12_writeNumber (.code yX12_writeNumber cX12_writeNumber 2 none :: z_tbl) rm_X12_writeNumber (z_Pc G [.ref u0, .int u1] K N I L R) (z_Qc G (qIv K N L R Q)) 0 0 (z_A G) := cd_X12_writeNumber l G 7 u0 u1 K N I L R Q h 4
def wd_X12_holds : Nat → Nat → Int32 → Int32 → MK → MK → MI → ML → MR → (Bool → MI → Prop) → Prop
  | 0 => fun _ _ _ _ _ _ _ _ _ => False
  | d + 1 => w_X12_holds (wd_X12_holds d)
set_option maxRecDepth 20000 in
theorem cd_X12_holds (l : Launch) (G : ZG) : ∀ (d : Nat) (u0 : Nat) (u1 : Int32) (u2 : Int32) (K N : MK) (I : MI) (L : ML) (R : MR) (Q : Bool → MI → Prop), wd_X12_holds d u0 u1 u2 K N I L R Q → ∀ a : Nat, Met l yX12_holds (.code yX12_holds cX12_holds 8 (some .boolean) :: z_tbl) { frames := 40 * (d + 1) + 10 * a, cells := 0, slots := 0, locals := 1000 + 200 * d + 40 * a } (z_Pc G [.ref u0, .int u1, .int u2] K N I L R) (z_Qc G (qIz K N L R Q)) 0 0 (z_A G) := by
  intro d
  induction d with
  | zero => intro u0 u1 u2 K N I L R Q h; exact h.elim
  | succ d ih0 =>
    intro u0 u1 u2 K N I L R Q h a
    have ihl := fun (a : Nat) (u0 : Nat) (u1 : Int32) (u2 : Int32) (K N : MK) (I : MI) (L : ML) (R : MR) (Q : Bool → MI → Prop) (h : wd_X12_holds d u0 u1 u2 K N I L R Q) => ih0 u0 u1 u2 K N I L R Q h a
    exact c_X12_holds (f := 40 * (d + 1 + 1) + 10 * a) (lo := 1000 + 200 * (d + 1) + 40 * a) (f0 := 40 * (d + 1) + 10 * 0) (lo0 := 1000 + 200 * d + 40 * 0) l G u0 u1 u2 K N I L R Q ⟨by omega, by omega⟩ ⟨by omega, by omega⟩ (ihl 0) h
abbrev rm_X12_holds : Room := { frames := 1680, cells := 0, slots := 0, locals := 9160 }
def wc_X12_holds (u0 : Nat) (u1 : Int32) (u2 : Int32) (K N : MK) (I : MI) (L : ML) (R : MR) (Q : Bool → MI → Prop) : Prop := wd_X12_holds 40 u0 u1 u2 K N I L R Q
set_option maxRecDepth 20000 in
theorem c_X12_holds_c (l : Launch) (G : ZG) (u0 : Nat) (u1 : Int32) (u2 : Int32) (K N : MK) (I : MI) (L : ML) (R : MR) (Q : Bool → MI → Prop) (h : wc_X12_holds u0 u1 u2 K N I L R Q) : Met l yX12_holds (.code yX12_holds cX12_holds 8 (some .boolean) :: z_tbl) rm_X12_holds (z_Pc G [.ref u0, .int u1, .int u2] K N I L R) (z_Qc G (qIz K N L R Q)) 0 0 (z_A G) := cd_X12_holds l G 40 u0 u1 u2 K N I L R Q h 4
def wd_X12_readSaid : Nat → Nat → MK → MK → MI → ML → MR → (Bool → MI → ML → Prop) → Prop
  | 0 => fun _ _ _ _ _ _ _ => False
  | d + 1 => w_X12_readSaid (w_X12_readBracket (w_X12_readOr (w_X12_readAnd (wd_X12_readSaid d)))) (w_X12_readNot (wd_X12_readSaid d))
set_option maxRecDepth 20000 in
theorem cd_X12_readSaid (l : Launch) (G : ZG) : ∀ (d : Nat) (u0 : Nat) (K N : MK) (I : MI) (L : ML) (R : MR) (Q : Bool → MI → ML → Prop), wd_X12_readSaid d u0 K N I L R Q → ∀ a : Nat, Met l yX12_readSaid (.code yX12_readSaid cX12_readSaid 4 (some .boolean) :: z_tbl) { frames := 40 * (d + 1) + 10 * a, cells := 0, slots := 0, locals := 1000 + 200 * d + 40 * a } (z_Pc G [.ref u0] K N I L R) (z_Qc G (qLz K N R Q)) 0 0 (z_A G) := by
  intro d
  induction d with
  | zero => intro u0 K N I L R Q h; exact h.elim
  | succ d ih0 =>
    intro u0 K N I L R Q h a
    have ihl := fun (a : Nat) (u0 : Nat) (K N : MK) (I : MI) (L : ML) (R : MR) (Q : Bool → MI → ML → Prop) (h : wd_X12_readSaid d u0 K N I L R Q) => ih0 u0 K N I L R Q h a
    exact c_X12_readSaid (f := 40 * (d + 1 + 1) + 10 * a) (lo := 1000 + 200 * (d + 1) + 40 * a) (f0 := 40 * (d + 1) + 10 * 3) (lo0 := 1000 + 200 * d + 40 * 3) l G u0 K N I L R Q ⟨by omega, by omega⟩ ⟨by omega, by omega⟩ (fun u0 K N I L R Q h => c_X12_readBracket (f := 40 * (d + 1) + 10 * 3) (lo := 1000 + 200 * d + 40 * 3) (f0 := 40 * (d + 1) + 10 * 2) (lo0 := 1000 + 200 * d + 40 * 2) l G u0 K N I L R Q ⟨by omega, by omega⟩ ⟨by omega, by omega⟩ (fun u0 K N I L R Q h => c_X12_readOr (f := 40 * (d + 1) + 10 * 2) (lo := 1000 + 200 * d + 40 * 2) (f0 := 40 * (d + 1) + 10 * 1) (lo0 := 1000 + 200 * d + 40 * 1) l G u0 K N I L R Q ⟨by omega, by omega⟩ ⟨by omega, by omega⟩ (fun u0 K N I L R Q h => c_X12_readAnd (f := 40 * (d + 1) + 10 * 1) (lo := 1000 + 200 * d + 40 * 1) (f0 := 40 * (d + 1) + 10 * 0) (lo0 := 1000 + 200 * d + 40 * 0) l G u0 K N I L R Q ⟨by omega, by omega⟩ ⟨by omega, by omega⟩ (ihl 0) h) h) h) (fun u0 K N I L R Q h => c_X12_readNot (f := 40 * (d + 1) + 10 * 3) (lo := 1000 + 200 * d + 40 * 3) (f0 := 40 * (d + 1) + 10 * 0) (lo0 := 1000 + 200 * d + 40 * 0) l G u0 K N I L R Q ⟨by omega, by omega⟩ ⟨by omega, by omega⟩ (ihl 0) h) h
abbrev rm_X12_readOr : Room := { frames := 480, cells := 0, slots := 0, locals := 3160 }
def wc_X12_readOr (u0 : Nat) (K N : MK) (I : MI) (L : ML) (R : MR) (Q : Bool → MI → ML → Prop) : Prop := w_X12_readOr (w_X12_readAnd (wd_X12_readSaid 10)) u0 K N I L R Q
set_option maxRecDepth 20000 in
theorem c_X12_readOr_c (l : Launch) (G : ZG) (u0 : Nat) (K N : MK) (I : MI) (L : ML) (R : MR) (Q : Bool → MI → ML → Prop) (h : wc_X12_readOr u0 K N I L R Q) : Met l yX12_readOr (.code yX12_readOr cX12_readOr 2 (some .boolean) :: z_tbl) rm_X12_readOr (z_Pc G [.ref u0] K N I L R) (z_Qc G (qLz K N R Q)) 0 0 (z_A G) := by
  have ihl := fun (a : Nat) (u0 : Nat) (K N : MK) (I : MI) (L : ML) (R : MR) (Q : Bool → MI → ML → Prop) (h : wd_X12_readSaid 10 u0 K N I L R Q) => cd_X12_readSaid l G 10 u0 K N I L R Q h a
  exact (fun u0 K N I L R Q h => c_X12_readOr (f := 40 * (10 + 1) + 10 * 4) (lo := 1000 + 200 * 10 + 40 * 4) (f0 := 40 * (10 + 1) + 10 * 1) (lo0 := 1000 + 200 * 10 + 40 * 1) l G u0 K N I L R Q ⟨by omega, by omega⟩ ⟨by omega, by omega⟩ (fun u0 K N I L R Q h => c_X12_readAnd (f := 40 * (10 + 1) + 10 * 1) (lo := 1000 + 200 * 10 + 40 * 1) (f0 := 40 * (10 + 1) + 10 * 0) (lo0 := 1000 + 200 * 10 + 40 * 0) l G u0 K N I L R Q ⟨by omega, by omega⟩ ⟨by omega, by omega⟩ (ihl 0) h) h) u0 K N I L R Q h
def wd_X6_readOne : Nat → Nat → Nat → Nat → Int32 → MK → MK → MI → ML → MR → (Bool → MI → ML → Prop) → Prop
  | 0 => fun _ _ _ _ _ _ _ _ _ _ => False
  | d + 1 => w_X6_readOne (w_X6_readCond (wd_X6_readOne d)) (wd_X6_readOne d)
set_option maxRecDepth 20000 in
theorem cd_X6_readOne (l : Launch) (G : ZG) : ∀ (d : Nat) (u0 : Nat) (u1 : Nat) (u2 : Nat) (u3 : Int32) (K N : MK) (I : MI) (L : ML) (R : MR) (Q : Bool → MI → ML → Prop), wd_X6_readOne d u0 u1 u2 u3 K N I L R Q → ∀ a : Nat, Met l yX6_readOne (.code yX6_readOne cX6_readOne 7 (some .boolean) :: z_tbl) { frames := 40 * (d + 1) + 10 * a, cells := 0, slots := 0, locals := 1000 + 200 * d + 40 * a } (z_Pc G [.ref u0, .ref u1, .ref u2, .int u3] K N I L R) (z_Qc G (qLz K N R Q)) 0 0 (z_A G) := by
  intro d
  induction d with
  | zero => intro u0 u1 u2 u3 K N I L R Q h; exact h.elim
  | succ d ih0 =>
    intro u0 u1 u2 u3 K N I L R Q h a
    have ihl := fun (a : Nat) (u0 : Nat) (u1 : Nat) (u2 : Nat) (u3 : Int32) (K N : MK) (I : MI) (L : ML) (R : MR) (Q : Bool → MI → ML → Prop) (h : wd_X6_readOne d u0 u1 u2 u3 K N I L R Q) => ih0 u0 u1 u2 u3 K N I L R Q h a
    exact c_X6_readOne (f := 40 * (d + 1 + 1) + 10 * a) (lo := 1000 + 200 * (d + 1) + 40 * a) (f0 := 40 * (d + 1) + 10 * 1) (lo0 := 1000 + 200 * d + 40 * 1) l G u0 u1 u2 u3 K N I L R Q ⟨by omega, by omega⟩ ⟨by omega, by omega⟩ (fun u0 u1 u2 u3 K N I L R Q h => c_X6_readCond (f := 40 * (d + 1) + 10 * 1) (lo := 1000 + 200 * d + 40 * 1) (f0 := 40 * (d + 1) + 10 * 0) (lo0 := 1000 + 200 * d + 40 * 0) l G u0 u1 u2 u3 K N I L R Q ⟨by omega, by omega⟩ ⟨by omega, by omega⟩ (ihl 0) h) (ihl 1) h
abbrev rm_X6_readCond : Room := { frames := 520, cells := 0, slots := 0, locals := 3360 }
def wc_X6_readCond (u0 : Nat) (u1 : Nat) (u2 : Nat) (u3 : Int32) (K N : MK) (I : MI) (L : ML) (R : MR) (Q : Bool → MI → ML → Prop) : Prop := w_X6_readCond (wd_X6_readOne 11) u0 u1 u2 u3 K N I L R Q
set_option maxRecDepth 20000 in
theorem c_X6_readCond_c (l : Launch) (G : ZG) (u0 : Nat) (u1 : Nat) (u2 : Nat) (u3 : Int32) (K N : MK) (I : MI) (L : ML) (R : MR) (Q : Bool → MI → ML → Prop) (h : wc_X6_readCond u0 u1 u2 u3 K N I L R Q) : Met l yX6_readCond (.code yX6_readCond cX6_readCond 7 (some .boolean) :: z_tbl) rm_X6_readCond (z_Pc G [.ref u0, .ref u1, .ref u2, .int u3] K N I L R) (z_Qc G (qLz K N R Q)) 0 0 (z_A G) := by
  have ihl := fun (a : Nat) (u0 : Nat) (u1 : Nat) (u2 : Nat) (u3 : Int32) (K N : MK) (I : MI) (L : ML) (R : MR) (Q : Bool → MI → ML → Prop) (h : wd_X6_readOne 11 u0 u1 u2 u3 K N I L R Q) => cd_X6_readOne l G 11 u0 u1 u2 u3 K N I L R Q h a
  exact (fun u0 u1 u2 u3 K N I L R Q h => c_X6_readCond (f := 40 * (11 + 1) + 10 * 4) (lo := 1000 + 200 * 11 + 40 * 4) (f0 := 40 * (11 + 1) + 10 * 0) (lo0 := 1000 + 200 * 11 + 40 * 0) l G u0 u1 u2 u3 K N I L R Q ⟨by omega, by omega⟩ ⟨by omega, by omega⟩ (ihl 0) h) u0 u1 u2 u3 K N I L R Q h
def w_X6_readSentence  (a0 : Nat) (a1 : Nat) (a2 : Nat) (K : MK) (N : MK) (I : MI) (L : ML) (R : MR) (Q : Int32 → MI → ML → Prop) : Prop := K a0 = 7 ∧ ∃ b2 : Nat, R a0 0 = some b2 ∧ K b2 = 6 ∧ w_X5_forget b2 K N I L R (fun I4 => ∀ I5 : MI, I5 = mup I4 a0 1 0 → K a1 = 9 ∧ w_X8_begin a1 200 K N I5 L R (fun I7 L8 => wc_X6_readCond a0 a1 a2 1 K N I7 L8 R (fun r9 I10 L11 => (r9 = false → Q (I10 a0 1) I10 L11) ∧ (r9 = true → ((I10 a1 4) = 0 → Q (I10 a0 1) I10 L11) ∧ (¬ (I10 a1 4) = 0 → w_X8_fail a1 1 K N I10 L11 R (fun r12 I13 => Q (I13 a0 1) I13 L11))))))
set_option maxHeartbeats 4000000 in
set_option maxRecDepth 100000 in
theorem c_X6_readSentence  (l : Launch) (G : ZG) (a0 : Nat) (a1 : Nat) (a2 : Nat) (K : MK) (N : MK) (I : MI) (L : ML) (R : MR) (Q : Int32 → MI → ML → Prop) (h : w_X6_readSentence a0 a1 a2 K N I L R Q) : Met l yX6_readSentence (.code yX6_readSentence cX6_readSentence 3 (some .int) :: z_tbl) rm_X6_readSentence (z_Pc G [.ref a0, .ref a1, .ref a2] K N I L R) (z_Qc G (qLi K N R Q)) 0 0 (z_A G) := by
  refine z_met (by decide) (Nat.le_of_ble_eq_true rfl) (fun X hX hRm hC0 hnm => ?_)
  subst hX
  have hC : ZOk X G RX6 cX6_readSentence 3 (some .int) := hC0
  show Z X G 3 0 0 _ K N I L R 0 [(0, .ref a0), (1, .ref a1), (2, .ref a2)] []
  delta w_X6_readSentence at h
  refine z_aload_n hC (q := 0) dX6_readSentence_0 rfl rfl ?_
  obtain ⟨hk1, h⟩ := h
  obtain ⟨b2, hb2, h⟩ := h
  refine gf_RX6_12 hC dX6_readSentence_1 hk1 hb2 ?_
  obtain ⟨hk3, h⟩ := h
  refine cl_RX6_22 hC (c_X5_forget _ G b2 K N I L R _ h) hk3 dX6_readSentence_4 (by rw [hRm]; exact ⟨Nat.le_of_ble_eq_true rfl, Nat.le_of_ble_eq_true rfl⟩) ⟨Nat.zero_le _, Nat.zero_le _⟩ (Nat.le_of_ble_eq_true rfl) (z_kIv (I := I) (fun I4 h => ?_))
  refine z_aload_n hC (q := 0) dX6_readSentence_7 rfl rfl ?_
  refine z_iconst hC (v := 0) k_iconst_0 dX6_readSentence_8 ?_
  refine pf_RX6_18 hC dX6_readSentence_9 hk1 ?_
  refine z_genI (fun I5 eI5 => ?_)
  have h := h I5 eI5
  refine z_aload_n hC (q := 1) dX6_readSentence_12 rfl rfl ?_
  refine z_sipush hC (v := 200) k_sipush_200 dX6_readSentence_13 ?_
  obtain ⟨hk6, h⟩ := h
  refine cl_RX6_25 hC (c_X8_begin _ G a1 200 K N I5 L R _ h) hk6 dX6_readSentence_16 (by rw [hRm]; exact ⟨Nat.le_of_ble_eq_true rfl, Nat.le_of_ble_eq_true rfl⟩) ⟨Nat.zero_le _, Nat.zero_le _⟩ (Nat.le_of_ble_eq_true rfl) (z_kLv (I := I5) (L := L) (fun I7 L8 h => ?_))
  refine z_aload_n hC (q := 0) dX6_readSentence_19 rfl rfl ?_
  refine z_aload_n hC (q := 1) dX6_readSentence_20 rfl rfl ?_
  refine z_aload_n hC (q := 2) dX6_readSentence_21 rfl rfl ?_
  refine z_iconst hC (v := 1) k_iconst_1 dX6_readSentence_22 ?_
  refine cl_RX6_31 hC (hrc := ⟨rfl, rfl⟩) (c_X6_readCond_c _ G a0 a1 a2 1 K N I7 L8 R _ h) hk1 dX6_readSentence_23 (by rw [hRm]; exact ⟨Nat.le_of_ble_eq_true rfl, Nat.le_of_ble_eq_true rfl⟩) ⟨Nat.zero_le _, Nat.zero_le _⟩ (Nat.le_of_ble_eq_true rfl) (z_kLz (I := I7) (L := L8) (fun r9 I10 L11 h => ?_))
  refine z_ifz_eq hC (tgt := 42) dX6_readSentence_26 (by decide) (fun hc => ?_) (fun hc => ?_)
  · have h := h.1 hc
    refine z_aload_n hC (q := 0) dX6_readSentence_42 rfl rfl ?_
    refine gf_RX6_18 hC dX6_readSentence_43 hk1 ?_
    exact z_iret hC dX6_readSentence_46 ⟨_, rfl, rfl, rfl, rfl, h⟩
  · have h := h.2 hc
    refine z_aload_n hC (q := 1) dX6_readSentence_29 rfl rfl ?_
    refine gf_RX6_35 hC dX6_readSentence_30 hk6 ?_
    refine z_if_eq hC (tgt := 42) dX6_readSentence_33 (by decide) (fun hc => ?_) (fun hc => ?_)
    · have h := h.1 hc
      refine z_aload_n hC (q := 0) dX6_readSentence_42 rfl rfl ?_
      refine gf_RX6_18 hC dX6_readSentence_43 hk1 ?_
      exact z_iret hC dX6_readSentence_46 ⟨_, rfl, rfl, rfl, rfl, h⟩
    · have h := h.2 hc
      refine z_aload_n hC (q := 1) dX6_readSentence_36 rfl rfl ?_
      refine z_iconst hC (v := 1) k_iconst_1 dX6_readSentence_37 ?_
      refine cl_RX6_38 hC (c_X8_fail _ G a1 1 K N I10 L11 R _ h) hk6 dX6_readSentence_38 (by rw [hRm]; exact ⟨Nat.le_of_ble_eq_true rfl, Nat.le_of_ble_eq_true rfl⟩) ⟨Nat.zero_le _, Nat.zero_le _⟩ (Nat.le_of_ble_eq_true rfl) (z_kIz (I := I10) (fun r12 I13 h => ?_))
      refine z_pop hC rfl dX6_readSentence_41 ?_
      refine z_aload_n hC (q := 0) dX6_readSentence_42 rfl rfl ?_
      refine gf_RX6_18 hC dX6_readSentence_43 hk1 ?_
      exact z_iret hC dX6_readSentence_46 ⟨_, rfl, rfl, rfl, rfl, h⟩
def w_X11_sentence  (a0 : Nat) (K : MK) (N : MK) (I : MI) (L : ML) (R : MR) (Q : Int32 → MI → ML → Prop) : Prop := K a0 = 12 ∧ ∃ b2 : Nat, R a0 10 = some b2 ∧ ∃ b3 : Nat, R a0 0 = some b3 ∧ ∃ b4 : Nat, R a0 1 = some b4 ∧ K b2 = 7 ∧ w_X6_readSentence b2 b3 b4 K N I L R (fun r6 I7 L8 => K b3 = 9 ∧ ∀ I10 : MI, I10 = mup I7 b3 1 0 → ((I10 b3 10) = 0 → ∃ b11 : Nat, R a0 8 = some b11 ∧ ∃ b12 : Nat, R b2 0 = some b12 ∧ K b11 = 6 ∧ w_X5_copyFrom b11 b12 K N I10 L8 R (fun I14 => Q r6 I14 L8)) ∧ (¬ (I10 b3 10) = 0 → Q ((-1 : Int32) - (I10 b3 11)) I10 L8))
set_option maxHeartbeats 4000000 in
set_option maxRecDepth 100000 in
theorem c_X11_sentence  (l : Launch) (G : ZG) (a0 : Nat) (K : MK) (N : MK) (I : MI) (L : ML) (R : MR) (Q : Int32 → MI → ML → Prop) (h : w_X11_sentence a0 K N I L R Q) : Met l yX11_sentence (.code yX11_sentence cX11_sentence 2 (some .int) :: z_tbl) rm_X11_sentence (z_Pc G [.ref a0] K N I L R) (z_Qc G (qLi K N R Q)) 0 0 (z_A G) := by
  refine z_met (by decide) (Nat.le_of_ble_eq_true rfl) (fun X hX hRm hC0 hnm => ?_)
  subst hX
  have hC : ZOk X G RX11 cX11_sentence 2 (some .int) := hC0
  show Z X G 2 0 0 _ K N I L R 0 [(0, .ref a0)] []
  delta w_X11_sentence at h
  refine z_aload_n hC (q := 0) dX11_sentence_0 rfl rfl ?_
  obtain ⟨hk1, h⟩ := h
  obtain ⟨b2, hb2, h⟩ := h
  refine gf_RX11_72 hC dX11_sentence_1 hk1 hb2 ?_
  refine z_aload_n hC (q := 0) dX11_sentence_4 rfl rfl ?_
  obtain ⟨b3, hb3, h⟩ := h
  refine gf_RX11_10 hC dX11_sentence_5 hk1 hb3 ?_
  refine z_aload_n hC (q := 0) dX11_sentence_8 rfl rfl ?_
  obtain ⟨b4, hb4, h⟩ := h
  refine gf_RX11_19 hC dX11_sentence_9 hk1 hb4 ?_
  obtain ⟨hk5, h⟩ := h
  refine cl_RX11_329 hC (c_X6_readSentence _ G b2 b3 b4 K N I L R _ h) hk5 dX11_sentence_12 (by rw [hRm]; exact ⟨Nat.le_of_ble_eq_true rfl, Nat.le_of_ble_eq_true rfl⟩) ⟨Nat.zero_le _, Nat.zero_le _⟩ (Nat.le_of_ble_eq_true rfl) (z_kLi (I := I) (L := L) (fun r6 I7 L8 h => ?_))
  refine z_istore_n hC (lv1 := [(1, .int r6), (0, .ref a0)]) dX11_sentence_15 rfl (by decide) rfl ?_
  refine z_aload_n hC (q := 1) dX11_sentence_16 rfl rfl ?_
  refine gf_RX11_10 hC dX11_sentence_17 hk1 hb3 ?_
  refine z_iconst hC (v := 0) k_iconst_0 dX11_sentence_20 ?_
  obtain ⟨hk9, h⟩ := h
  refine pf_RX11_120 hC dX11_sentence_21 hk9 ?_
  refine z_genI (fun I10 eI10 => ?_)
  have h := h I10 eI10
  refine z_aload_n hC (q := 1) dX11_sentence_24 rfl rfl ?_
  refine gf_RX11_10 hC dX11_sentence_25 hk1 hb3 ?_
  refine gf_RX11_131 hC dX11_sentence_28 hk9 ?_
  refine z_if_eq hC (tgt := 44) dX11_sentence_31 (by decide) (fun hc => ?_) (fun hc => ?_)
  · have h := h.1 hc
    refine z_aload_n hC (q := 1) dX11_sentence_44 rfl rfl ?_
    obtain ⟨b11, hb11, h⟩ := h
    refine gf_RX11_58 hC dX11_sentence_45 hk1 hb11 ?_
    refine z_aload_n hC (q := 1) dX11_sentence_48 rfl rfl ?_
    refine gf_RX11_72 hC dX11_sentence_49 hk1 hb2 ?_
    obtain ⟨b12, hb12, h⟩ := h
    refine gf_RX11_333 hC dX11_sentence_52 hk5 hb12 ?_
    obtain ⟨hk13, h⟩ := h
    refine cl_RX11_335 hC (c_X5_copyFrom _ G b11 b12 K N I10 L8 R _ h) hk13 dX11_sentence_55 (by rw [hRm]; exact ⟨Nat.le_of_ble_eq_true rfl, Nat.le_of_ble_eq_true rfl⟩) ⟨Nat.zero_le _, Nat.zero_le _⟩ (Nat.le_of_ble_eq_true rfl) (z_kIv (I := I10) (fun I14 h => ?_))
    refine z_iload_n hC (q := 0) dX11_sentence_58 rfl rfl ?_
    exact z_iret hC dX11_sentence_59 ⟨_, rfl, rfl, rfl, rfl, h⟩
  · have h := h.2 hc
    refine z_iconst hC (v := (-1)) k_iconst_m1 dX11_sentence_34 ?_
    refine z_aload_n hC (q := 1) dX11_sentence_35 rfl rfl ?_
    refine gf_RX11_10 hC dX11_sentence_36 hk1 hb3 ?_
    refine gf_RX11_134 hC dX11_sentence_39 hk9 ?_
    refine z_isub hC dX11_sentence_42 ?_
    exact z_iret hC dX11_sentence_43 ⟨_, rfl, rfl, rfl, rfl, h⟩
def w_X12_writeNext  (a0 : Nat) (a1 : Int64) (K : MK) (N : MK) (I : MI) (L : ML) (R : MR) (Q : MI → Prop) : Prop := K a0 = 13 ∧ w_X12_write a0 32 K N I L R (fun I2 => wc_X12_writeWord a0 a1 K N I2 L R (fun I3 => Q I3))
set_option maxHeartbeats 4000000 in
set_option maxRecDepth 100000 in
theorem c_X12_writeNext  (l : Launch) (G : ZG) (a0 : Nat) (a1 : Int64) (K : MK) (N : MK) (I : MI) (L : ML) (R : MR) (Q : MI → Prop) (h : w_X12_writeNext a0 a1 K N I L R Q) : Met l yX12_writeNext (.code yX12_writeNext cX12_writeNext 3 none :: z_tbl) rm_X12_writeNext (z_Pc G [.ref a0, .long a1] K N I L R) (z_Qc G (qIv K N L R Q)) 0 0 (z_A G) := by
  refine z_met (by decide) (Nat.le_of_ble_eq_true rfl) (fun X hX hRm hC0 hnm => ?_)
  subst hX
  have hC : ZOk X G RX12 cX12_writeNext 3 none := hC0
  show Z X G 3 0 0 _ K N I L R 0 [(0, .ref a0), (1, .long a1)] []
  delta w_X12_writeNext at h
  refine z_aload_n hC (q := 0) dX12_writeNext_0 rfl rfl ?_
  refine z_bipush hC (v := 32) k_bipush_32 dX12_writeNext_1 ?_
  obtain ⟨hk1, h⟩ := h
  refine cl_RX12_431 hC (c_X12_write _ G a0 32 K N I L R _ h) hk1 dX12_writeNext_3 (by rw [hRm]; exact ⟨Nat.le_of_ble_eq_true rfl, Nat.le_of_ble_eq_true rfl⟩) ⟨Nat.zero_le _, Nat.zero_le _⟩ (Nat.le_of_ble_eq_true rfl) (z_kIv (I := I) (fun I2 h => ?_))
  refine z_aload_n hC (q := 0) dX12_writeNext_6 rfl rfl ?_
  refine z_lload_n hC (q := 1) dX12_writeNext_7 rfl rfl ?_
  refine cl_RX12_427 hC (hrc := ⟨rfl, rfl⟩) (c_X12_writeWord_c _ G a0 a1 K N I2 L R _ h) hk1 dX12_writeNext_8 (by rw [hRm]; exact ⟨Nat.le_of_ble_eq_true rfl, Nat.le_of_ble_eq_true rfl⟩) ⟨Nat.zero_le _, Nat.zero_le _⟩ (Nat.le_of_ble_eq_true rfl) (z_kIv (I := I2) (fun I3 h => ?_))
  exact z_vret hC dX12_writeNext_11 ⟨rfl, rfl, rfl, rfl, rfl, h⟩
def w_X12_tag_112  (x0 : Nat) (x1 : Int32)  (K : MK) (N : MK) (I : MI) (L : ML) (R : MR)  (Q : Int32 → MI → Prop) : Prop := w_X12_wordOf 7 K N I L R (fun r20 => K x0 = 13 ∧ w_X12_writeNext x0 r20 K N I L R (fun I22 => ∃ b23 : Nat, R x0 20 = some b23 ∧ ∃ b24 : Nat, R x0 14 = some b24 ∧ K b24 = 14 ∧ vp_in ((114 : Int32) + x1) (N b24) ∧ K b23 = 15 ∧ vp_in (I22 b24 (ix ((114 : Int32) + x1))) (N b23) ∧ w_X12_writeNext x0 (L b23 (ix (I22 b24 (ix ((114 : Int32) + x1))))) K N I22 L R (fun I29 => Q (I29 x0 47) I29)))
def w_X12_tag_104  (x0 : Nat) (x1 : Int32) (x2 : Int32)  (K : MK) (N : MK) (I : MI) (L : ML) (R : MR)  (Q : Int32 → MI → Prop) : Prop := w_X12_size x2 K N I L R (fun r17 => K x0 = 13 ∧ wc_X12_writeNumber x0 r17 K N I L R (fun I19 => w_X12_tag_112 x0 x1 K N I19 L R Q))
def w_X12_tag  (a0 : Nat) (a1 : Int32) (K : MK) (N : MK) (I : MI) (L : ML) (R : MR) (Q : Int32 → MI → Prop) : Prop := K a0 = 13 ∧ ∀ I2 : MI, I2 = mup I a0 0 0 → w_X12_isVar a0 a1 K N I2 L R (fun r3 => (r3 = true → ∀ I4 : MI, I4 = mup I2 a0 47 0 → ∃ b5 : Nat, R a0 20 = some b5 ∧ K b5 = 15 ∧ vp_in ((16 : Int32) + a1) (N b5) ∧ wc_X12_writeWord a0 (L b5 (ix ((16 : Int32) + a1))) K N I4 L R (fun I8 => w_X12_spelt 105 115 0 0 0 0 K N I8 L R (fun r9 => w_X12_writeNext a0 r9 K N I8 L R (fun I10 => ∃ b11 : Nat, R a0 14 = some b11 ∧ K b11 = 14 ∧ vp_in 342 (N b11) ∧ w_X12_valueOf a0 a1 (I10 b11 (ix 342)) K N I10 L R (fun r14 I15 => ((I15 a0 31) = 0 → w_X12_write a0 32 K N I15 L R (fun I16 => ((0 : Int32) ≤ r14 → w_X12_tag_104 a0 a1 r14 K N I16 L R Q) ∧ (¬ (0 : Int32) ≤ r14 → w_X12_write a0 45 K N I16 L R (fun I30 => w_X12_tag_104 a0 a1 r14 K N I30 L R Q)))) ∧ (¬ (I15 a0 31) = 0 → w_X12_spelt 111 117 116 0 0 0 K N I15 L R (fun r31 => w_X12_writeNext a0 r31 K N I15 L R (fun I32 => w_X12_tag_112 a0 a1 K N I32 L R Q)))))))) ∧ (r3 = false → Q (-1) I2))
set_option maxHeartbeats 4000000 in
set_option maxRecDepth 100000 in
theorem z_X12_tag_112 {X : ZX} {G : ZG}  {x0 : Nat} {x1 : Int32}  {K : MK} {N : MK} {I : MI} {L : ML} {R : MR}  {Q : Int32 → MI → Prop} (hC : ZOk X G RX12 cX12_tag 3 (some .int)) (hRm : X.2.2.2.1 = rm_X12_tag) (h : w_X12_tag_112 x0 x1 K N I L R  Q) : Z X G 3 0 0 (z_T X G (qIi K N L R Q) 0 0) K N I L R 112 [(0, .ref x0), (1, .int x1)] [] := by
  delta w_X12_tag_112 at h
  refine z_aload_n hC (q := 0) dX12_tag_112 rfl rfl ?_
  refine z_bipush hC (v := 7) k_bipush_7 dX12_tag_113 ?_
  refine cl_RX12_62 hC (c_X12_wordOf _ G 7 K N I L R _ h) dX12_tag_115 (by rw [hRm]; exact ⟨Nat.le_of_ble_eq_true rfl, Nat.le_of_ble_eq_true rfl⟩) ⟨Nat.zero_le _, Nat.zero_le _⟩ (Nat.le_of_ble_eq_true rfl) (z_kPl (fun r20 h => ?_))
  obtain ⟨hk21, h⟩ := h
  refine cl_RX12_437 hC (c_X12_writeNext _ G x0 r20 K N I L R _ h) hk21 dX12_tag_118 (by rw [hRm]; exact ⟨Nat.le_of_ble_eq_true rfl, Nat.le_of_ble_eq_true rfl⟩) ⟨Nat.zero_le _, Nat.zero_le _⟩ (Nat.le_of_ble_eq_true rfl) (z_kIv (I := I) (fun I22 h => ?_))
  refine z_aload_n hC (q := 0) dX12_tag_121 rfl rfl ?_
  refine z_aload_n hC (q := 0) dX12_tag_122 rfl rfl ?_
  obtain ⟨b23, hb23, h⟩ := h
  refine gf_RX12_116 hC dX12_tag_123 hk21 hb23 ?_
  refine z_aload_n hC (q := 0) dX12_tag_126 rfl rfl ?_
  obtain ⟨b24, hb24, h⟩ := h
  refine gf_RX12_98 hC dX12_tag_127 hk21 hb24 ?_
  refine z_bipush hC (v := 114) k_bipush_114 dX12_tag_130 ?_
  refine z_iload_n hC (q := 1) dX12_tag_132 rfl rfl ?_
  refine z_iadd hC dX12_tag_133 ?_
  obtain ⟨hk25, h⟩ := h
  obtain ⟨hi26, h⟩ := h
  refine z_iaload hC hk25 hi26 dX12_tag_134 ?_
  obtain ⟨hk27, h⟩ := h
  obtain ⟨hi28, h⟩ := h
  refine z_laload hC hk27 hi28 dX12_tag_135 ?_
  refine cl_RX12_437 hC (c_X12_writeNext _ G x0 (L b23 (ix (I22 b24 (ix ((114 : Int32) + x1))))) K N I22 L R _ h) hk21 dX12_tag_136 (by rw [hRm]; exact ⟨Nat.le_of_ble_eq_true rfl, Nat.le_of_ble_eq_true rfl⟩) ⟨Nat.zero_le _, Nat.zero_le _⟩ (Nat.le_of_ble_eq_true rfl) (z_kIv (I := I22) (fun I29 h => ?_))
  refine z_aload_n hC (q := 0) dX12_tag_139 rfl rfl ?_
  refine gf_RX12_424 hC dX12_tag_140 hk21 ?_
  exact z_iret hC dX12_tag_143 ⟨_, rfl, rfl, rfl, rfl, rfl, h⟩
set_option maxHeartbeats 4000000 in
set_option maxRecDepth 100000 in
theorem z_X12_tag_104 {X : ZX} {G : ZG}  {x0 : Nat} {x1 : Int32} {x2 : Int32}  {K : MK} {N : MK} {I : MI} {L : ML} {R : MR}  {Q : Int32 → MI → Prop} (hC : ZOk X G RX12 cX12_tag 3 (some .int)) (hRm : X.2.2.2.1 = rm_X12_tag) (h : w_X12_tag_104 x0 x1 x2 K N I L R  Q) : Z X G 3 0 0 (z_T X G (qIi K N L R Q) 0 0) K N I L R 104 [(0, .ref x0), (1, .int x1), (2, .int x2)] [] := by
  delta w_X12_tag_104 at h
  refine z_aload_n hC (q := 0) dX12_tag_104 rfl rfl ?_
  refine z_iload_n hC (q := 2) dX12_tag_105 rfl rfl ?_
  refine cl_RX12_440 hC (c_X12_size _ G x2 K N I L R _ h) dX12_tag_106 (by rw [hRm]; exact ⟨Nat.le_of_ble_eq_true rfl, Nat.le_of_ble_eq_true rfl⟩) ⟨Nat.zero_le _, Nat.zero_le _⟩ (Nat.le_of_ble_eq_true rfl) (z_kPi (fun r17 h => ?_))
  obtain ⟨hk18, h⟩ := h
  refine cl_RX12_434 hC (hrc := ⟨rfl, rfl⟩) (c_X12_writeNumber_c _ G x0 r17 K N I L R _ h) hk18 dX12_tag_109 (by rw [hRm]; exact ⟨Nat.le_of_ble_eq_true rfl, Nat.le_of_ble_eq_true rfl⟩) ⟨Nat.zero_le _, Nat.zero_le _⟩ (Nat.le_of_ble_eq_true rfl) (z_kIv (I := I) (fun I19 h => ?_))
  exact z_sub [(0, .ref x0), (1, .int x1)] [0, 1] rfl (z_X12_tag_112 hC hRm h)
set_option maxHeartbeats 4000000 in
set_option maxRecDepth 100000 in
theorem c_X12_tag  (l : Launch) (G : ZG) (a0 : Nat) (a1 : Int32) (K : MK) (N : MK) (I : MI) (L : ML) (R : MR) (Q : Int32 → MI → Prop) (h : w_X12_tag a0 a1 K N I L R Q) : Met l yX12_tag (.code yX12_tag cX12_tag 3 (some .int) :: z_tbl) rm_X12_tag (z_Pc G [.ref a0, .int a1] K N I L R) (z_Qc G (qIi K N L R Q)) 0 0 (z_A G) := by
  refine z_met (by decide) (Nat.le_of_ble_eq_true rfl) (fun X hX hRm hC0 hnm => ?_)
  subst hX
  have hC : ZOk X G RX12 cX12_tag 3 (some .int) := hC0
  show Z X G 3 0 0 _ K N I L R 0 [(0, .ref a0), (1, .int a1)] []
  delta w_X12_tag at h
  refine z_aload_n hC (q := 0) dX12_tag_0 rfl rfl ?_
  refine z_iconst hC (v := 0) k_iconst_0 dX12_tag_1 ?_
  obtain ⟨hk1, h⟩ := h
  refine pf_RX12_1 hC dX12_tag_2 hk1 ?_
  refine z_genI (fun I2 eI2 => ?_)
  have h := h I2 eI2
  refine z_aload_n hC (q := 0) dX12_tag_5 rfl rfl ?_
  refine z_iload_n hC (q := 1) dX12_tag_6 rfl rfl ?_
  refine cl_RX12_323 hC (c_X12_isVar _ G a0 a1 K N I2 L R _ h) hk1 dX12_tag_7 (by rw [hRm]; exact ⟨Nat.le_of_ble_eq_true rfl, Nat.le_of_ble_eq_true rfl⟩) ⟨Nat.zero_le _, Nat.zero_le _⟩ (Nat.le_of_ble_eq_true rfl) (z_kPz (fun r3 h => ?_))
  refine z_ifz_ne hC (tgt := 15) dX12_tag_10 (by decide) (fun hc => ?_) (fun hc => ?_)
  · have h := h.1 hc
    refine z_aload_n hC (q := 0) dX12_tag_15 rfl rfl ?_
    refine z_iconst hC (v := 0) k_iconst_0 dX12_tag_16 ?_
    refine pf_RX12_424 hC dX12_tag_17 hk1 ?_
    refine z_genI (fun I4 eI4 => ?_)
    have h := h I4 eI4
    refine z_aload_n hC (q := 0) dX12_tag_20 rfl rfl ?_
    refine z_aload_n hC (q := 0) dX12_tag_21 rfl rfl ?_
    obtain ⟨b5, hb5, h⟩ := h
    refine gf_RX12_116 hC dX12_tag_22 hk1 hb5 ?_
    refine z_bipush hC (v := 16) k_bipush_16 dX12_tag_25 ?_
    refine z_iload_n hC (q := 1) dX12_tag_27 rfl rfl ?_
    refine z_iadd hC dX12_tag_28 ?_
    obtain ⟨hk6, h⟩ := h
    obtain ⟨hi7, h⟩ := h
    refine z_laload hC hk6 hi7 dX12_tag_29 ?_
    refine cl_RX12_427 hC (hrc := ⟨rfl, rfl⟩) (c_X12_writeWord_c _ G a0 (L b5 (ix ((16 : Int32) + a1))) K N I4 L R _ h) hk1 dX12_tag_30 (by rw [hRm]; exact ⟨Nat.le_of_ble_eq_true rfl, Nat.le_of_ble_eq_true rfl⟩) ⟨Nat.zero_le _, Nat.zero_le _⟩ (Nat.le_of_ble_eq_true rfl) (z_kIv (I := I4) (fun I8 h => ?_))
    refine z_aload_n hC (q := 0) dX12_tag_33 rfl rfl ?_
    refine z_bipush hC (v := 105) k_bipush_105 dX12_tag_34 ?_
    refine z_bipush hC (v := 115) k_bipush_115 dX12_tag_36 ?_
    refine z_iconst hC (v := 0) k_iconst_0 dX12_tag_38 ?_
    refine z_iconst hC (v := 0) k_iconst_0 dX12_tag_39 ?_
    refine z_iconst hC (v := 0) k_iconst_0 dX12_tag_40 ?_
    refine z_iconst hC (v := 0) k_iconst_0 dX12_tag_41 ?_
    refine cl_RX12_58 hC (c_X12_spelt _ G 105 115 0 0 0 0 K N I8 L R _ h) dX12_tag_42 (by rw [hRm]; exact ⟨Nat.le_of_ble_eq_true rfl, Nat.le_of_ble_eq_true rfl⟩) ⟨Nat.zero_le _, Nat.zero_le _⟩ (Nat.le_of_ble_eq_true rfl) (z_kPl (fun r9 h => ?_))
    refine cl_RX12_437 hC (c_X12_writeNext _ G a0 r9 K N I8 L R _ h) hk1 dX12_tag_45 (by rw [hRm]; exact ⟨Nat.le_of_ble_eq_true rfl, Nat.le_of_ble_eq_true rfl⟩) ⟨Nat.zero_le _, Nat.zero_le _⟩ (Nat.le_of_ble_eq_true rfl) (z_kIv (I := I8) (fun I10 h => ?_))
    refine z_aload_n hC (q := 0) dX12_tag_48 rfl rfl ?_
    refine z_iload_n hC (q := 1) dX12_tag_49 rfl rfl ?_
    refine z_aload_n hC (q := 0) dX12_tag_50 rfl rfl ?_
    obtain ⟨b11, hb11, h⟩ := h
    refine gf_RX12_98 hC dX12_tag_51 hk1 hb11 ?_
    refine z_sipush hC (v := 342) k_sipush_342 dX12_tag_54 ?_
    obtain ⟨hk12, h⟩ := h
    obtain ⟨hi13, h⟩ := h
    refine z_iaload hC hk12 hi13 dX12_tag_57 ?_
    refine cl_RX12_317 hC (c_X12_valueOf _ G a0 a1 (I10 b11 (ix 342)) K N I10 L R _ h) hk1 dX12_tag_58 (by rw [hRm]; exact ⟨Nat.le_of_ble_eq_true rfl, Nat.le_of_ble_eq_true rfl⟩) ⟨Nat.zero_le _, Nat.zero_le _⟩ (Nat.le_of_ble_eq_true rfl) (z_kIi (I := I10) (fun r14 I15 h => ?_))
    refine z_istore_n hC (lv1 := [(2, .int r14), (0, .ref a0), (1, .int a1)]) dX12_tag_61 rfl (by decide) rfl ?_
    refine z_aload_n hC (q := 1) dX12_tag_62 rfl rfl ?_
    refine gf_RX12_301 hC dX12_tag_63 hk1 ?_
    refine z_if_eq hC (tgt := 88) dX12_tag_66 (by decide) (fun hc => ?_) (fun hc => ?_)
    · have h := h.1 hc
      refine z_aload_n hC (q := 1) dX12_tag_88 rfl rfl ?_
      refine z_bipush hC (v := 32) k_bipush_32 dX12_tag_89 ?_
      refine cl_RX12_431 hC (c_X12_write _ G a0 32 K N I15 L R _ h) hk1 dX12_tag_91 (by rw [hRm]; exact ⟨Nat.le_of_ble_eq_true rfl, Nat.le_of_ble_eq_true rfl⟩) ⟨Nat.zero_le _, Nat.zero_le _⟩ (Nat.le_of_ble_eq_true rfl) (z_kIv (I := I15) (fun I16 h => ?_))
      refine z_iload_n hC (q := 0) dX12_tag_94 rfl rfl ?_
      refine z_if_ge hC (tgt := 104) dX12_tag_95 (by decide) (fun hc => ?_) (fun hc => ?_)
      · have h := h.1 hc
        exact z_sub [(0, .ref a0), (1, .int a1), (2, .int r14)] [1, 2, 0] rfl (z_X12_tag_104 hC hRm h)
      · have h := h.2 hc
        refine z_aload_n hC (q := 1) dX12_tag_98 rfl rfl ?_
        refine z_bipush hC (v := 45) k_bipush_45 dX12_tag_99 ?_
        refine cl_RX12_431 hC (c_X12_write _ G a0 45 K N I16 L R _ h) hk1 dX12_tag_101 (by rw [hRm]; exact ⟨Nat.le_of_ble_eq_true rfl, Nat.le_of_ble_eq_true rfl⟩) ⟨Nat.zero_le _, Nat.zero_le _⟩ (Nat.le_of_ble_eq_true rfl) (z_kIv (I := I16) (fun I30 h => ?_))
        exact z_sub [(0, .ref a0), (1, .int a1), (2, .int r14)] [1, 2, 0] rfl (z_X12_tag_104 hC hRm h)
    · have h := h.2 hc
      refine z_aload_n hC (q := 1) dX12_tag_69 rfl rfl ?_
      refine z_bipush hC (v := 111) k_bipush_111 dX12_tag_70 ?_
      refine z_bipush hC (v := 117) k_bipush_117 dX12_tag_72 ?_
      refine z_bipush hC (v := 116) k_bipush_116 dX12_tag_74 ?_
      refine z_iconst hC (v := 0) k_iconst_0 dX12_tag_76 ?_
      refine z_iconst hC (v := 0) k_iconst_0 dX12_tag_77 ?_
      refine z_iconst hC (v := 0) k_iconst_0 dX12_tag_78 ?_
      refine cl_RX12_58 hC (c_X12_spelt _ G 111 117 116 0 0 0 K N I15 L R _ h) dX12_tag_79 (by rw [hRm]; exact ⟨Nat.le_of_ble_eq_true rfl, Nat.le_of_ble_eq_true rfl⟩) ⟨Nat.zero_le _, Nat.zero_le _⟩ (Nat.le_of_ble_eq_true rfl) (z_kPl (fun r31 h => ?_))
      refine cl_RX12_437 hC (c_X12_writeNext _ G a0 r31 K N I15 L R _ h) hk1 dX12_tag_82 (by rw [hRm]; exact ⟨Nat.le_of_ble_eq_true rfl, Nat.le_of_ble_eq_true rfl⟩) ⟨Nat.zero_le _, Nat.zero_le _⟩ (Nat.le_of_ble_eq_true rfl) (z_kIv (I := I15) (fun I32 h => ?_))
      refine z_goto hC (tgt := 112) dX12_tag_85 (by decide) ?_
      exact z_sub [(0, .ref a0), (1, .int a1)] [1, 2] rfl (z_X12_tag_112 hC hRm h)
  · have h := h.2 hc
    refine z_iconst hC (v := (-1)) k_iconst_m1 dX12_tag_13 ?_
    exact z_iret hC dX12_tag_14 ⟨_, rfl, rfl, rfl, rfl, rfl, h⟩
def w_X12_sentence_79  (x0 : Nat) (x1 : Int32)  (K : MK) (N : MK) (I : MI) (L : ML) (R : MR)  (Q : Int32 → MI → ML → Prop) : Prop := ∃ J : Nat → Nat → Int32 → MI → ML → Prop, (∃ n, J n x0 x1 I L) ∧ ∀ (n : Nat) (x0 : Nat) (x1 : Int32) (I : MI) (L : ML), J n x0 x1 I L → ((240 : Int32) ≤ x1 → K x0 = 13 ∧ Q (I x0 55) I L) ∧ (¬ (240 : Int32) ≤ x1 → K x0 = 13 ∧ ∃ b18 : Nat, R x0 14 = some b18 ∧ ∃ b19 : Nat, R x0 53 = some b19 ∧ K b19 = 14 ∧ vp_in x1 (N b19) ∧ K b18 = 14 ∧ vp_in ((427 : Int32) + x1) (N b18) ∧ ∀ I24 : MI, I24 = mup I b18 (ix ((427 : Int32) + x1)) (I b19 (ix x1)) → ∀ v25 : Int32, v25 = x1 + 1 → ∃ n1, n1 < n ∧ J n1 x0 v25 I24 L)
def w_X12_sentence  (a0 : Nat) (K : MK) (N : MK) (I : MI) (L : ML) (R : MR) (Q : Int32 → MI → ML → Prop) : Prop := K a0 = 13 ∧ w_X12_begin a0 200 K N I L R (fun I2 L3 => ∀ I4 : MI, I4 = mup I2 a0 54 0 → ∀ I5 : MI, I5 = mup I4 a0 55 0 → ∀ I6 : MI, I6 = mup I5 a0 56 0 → wc_X12_readOr a0 K N I6 L3 R (fun r7 I8 L9 => (r7 = true → ((I8 a0 7) = 0 → ∃ b10 : Nat, R a0 14 = some b10 ∧ K b10 = 14 ∧ vp_in 425 (N b10) ∧ ∀ I13 : MI, I13 = mup I8 b10 (ix 425) 1 → vp_in 426 (N b10) ∧ ∀ I15 : MI, I15 = mup I13 b10 (ix 426) (I13 a0 57) → w_X12_sentence_79 a0 0 K N I15 L9 R Q) ∧ (¬ (I8 a0 7) = 0 → w_X12_bad a0 1 K N I8 L9 R (fun r26 I27 => Q ((-1 : Int32) - (I27 a0 11)) I27 L9))) ∧ (r7 = false → Q ((-1 : Int32) - (I8 a0 11)) I8 L9)))
set_option maxHeartbeats 4000000 in
set_option maxRecDepth 100000 in
theorem z_X12_sentence_79 {X : ZX} {G : ZG}  {x0 : Nat} {x1 : Int32}  {K : MK} {N : MK} {I : MI} {L : ML} {R : MR}  {Q : Int32 → MI → ML → Prop} (hC : ZOk X G RX12 cX12_sentence 2 (some .int)) (hRm : X.2.2.2.1 = rm_X12_sentence) (h : w_X12_sentence_79 x0 x1 K N I L R  Q) : Z X G 2 0 0 (z_T X G (qLi K N R Q) 0 0) K N I L R 79 [(0, .ref x0), (1, .int x1)] [] := by
  delta w_X12_sentence_79 at h
  obtain ⟨J, ⟨n, h0⟩, hs⟩ := h
  have key : ∀ (n : Nat) (x0 : Nat) (x1 : Int32) (I : MI) (L : ML), J n x0 x1 I L → Z X G 2 0 0 (z_T X G (qLi K N R Q) 0 0) K N I L R 79 [(0, .ref x0), (1, .int x1)] [] := by
    intro n
    induction n using Nat.strongRecOn with
    | _ n ih =>
      intro x0 x1 I L hJ
      have hC79 : ∀ (y0 : Nat) (y1 : Int32) (zI : MI) (zL : ML), (∃ n1, n1 < n ∧ J n1 y0 y1 zI zL) → Z X G 2 0 0 (z_T X G (qLi K N R Q) 0 0) K N zI zL R 79 [(0, .ref y0), (1, .int y1)] [] := fun y0 y1 zI zL ⟨n1, hn1, hj⟩ => ih n1 hn1 y0 y1 zI zL hj
      have h := hs n x0 x1 I L hJ
      refine z_iload_n hC (q := 1) dX12_sentence_79 rfl rfl ?_
      refine z_sipush hC (v := 240) k_sipush_240 dX12_sentence_80 ?_
      refine z_icmp_ge hC (tgt := 108) dX12_sentence_83 (by decide) (fun hc => ?_) (fun hc => ?_)
      · have h := h.1 hc
        refine z_aload_n hC (q := 0) dX12_sentence_108 rfl rfl ?_
        obtain ⟨hk16, h⟩ := h
        refine gf_RX12_494 hC dX12_sentence_109 hk16 ?_
        exact z_iret hC dX12_sentence_112 ⟨_, rfl, rfl, rfl, rfl, h⟩
      · have h := h.2 hc
        refine z_aload_n hC (q := 0) dX12_sentence_86 rfl rfl ?_
        obtain ⟨hk17, h⟩ := h
        obtain ⟨b18, hb18, h⟩ := h
        refine gf_RX12_98 hC dX12_sentence_87 hk17 hb18 ?_
        refine z_sipush hC (v := 427) k_sipush_427 dX12_sentence_90 ?_
        refine z_iload_n hC (q := 1) dX12_sentence_93 rfl rfl ?_
        refine z_iadd hC dX12_sentence_94 ?_
        refine z_aload_n hC (q := 0) dX12_sentence_95 rfl rfl ?_
        obtain ⟨b19, hb19, h⟩ := h
        refine gf_RX12_169 hC dX12_sentence_96 hk17 hb19 ?_
        refine z_iload_n hC (q := 1) dX12_sentence_99 rfl rfl ?_
        obtain ⟨hk20, h⟩ := h
        obtain ⟨hi21, h⟩ := h
        refine z_iaload hC hk20 hi21 dX12_sentence_100 ?_
        obtain ⟨hk22, h⟩ := h
        obtain ⟨hi23, h⟩ := h
        refine z_iastore hC hk22 hi23 dX12_sentence_101 ?_
        refine z_genI (fun I24 eI24 => ?_)
        have h := h I24 eI24
        obtain ⟨v25, ev25⟩ : ∃ y : Int32, y = x1 + 1 := ⟨_, rfl⟩
        have h := h v25 ev25
        refine z_iinc hC (q := 1) (v := v25) (lv1 := [(1, .int v25), (0, .ref x0)]) dX12_sentence_102 rfl (by rw [ev25, k_iinc_1]) (by decide) rfl ?_
        refine z_goto hC (tgt := 79) dX12_sentence_105 (by decide) ?_
        exact z_sub [(0, .ref x0), (1, .int v25)] [1, 0] rfl (hC79 _ _ _ _ h)
  exact key n x0 x1 I L h0
set_option maxHeartbeats 4000000 in
set_option maxRecDepth 100000 in
theorem c_X12_sentence  (l : Launch) (G : ZG) (a0 : Nat) (K : MK) (N : MK) (I : MI) (L : ML) (R : MR) (Q : Int32 → MI → ML → Prop) (h : w_X12_sentence a0 K N I L R Q) : Met l yX12_sentence (.code yX12_sentence cX12_sentence 2 (some .int) :: z_tbl) rm_X12_sentence (z_Pc G [.ref a0] K N I L R) (z_Qc G (qLi K N R Q)) 0 0 (z_A G) := by
  refine z_met (by decide) (Nat.le_of_ble_eq_true rfl) (fun X hX hRm hC0 hnm => ?_)
  subst hX
  have hC : ZOk X G RX12 cX12_sentence 2 (some .int) := hC0
  show Z X G 2 0 0 _ K N I L R 0 [(0, .ref a0)] []
  delta w_X12_sentence at h
  refine z_aload_n hC (q := 0) dX12_sentence_0 rfl rfl ?_
  refine z_sipush hC (v := 200) k_sipush_200 dX12_sentence_1 ?_
  obtain ⟨hk1, h⟩ := h
  refine cl_RX12_246 hC (c_X12_begin _ G a0 200 K N I L R _ h) hk1 dX12_sentence_4 (by rw [hRm]; exact ⟨Nat.le_of_ble_eq_true rfl, Nat.le_of_ble_eq_true rfl⟩) ⟨Nat.zero_le _, Nat.zero_le _⟩ (Nat.le_of_ble_eq_true rfl) (z_kLv (I := I) (L := L) (fun I2 L3 h => ?_))
  refine z_aload_n hC (q := 0) dX12_sentence_7 rfl rfl ?_
  refine z_iconst hC (v := 0) k_iconst_0 dX12_sentence_8 ?_
  refine pf_RX12_478 hC dX12_sentence_9 hk1 ?_
  refine z_genI (fun I4 eI4 => ?_)
  have h := h I4 eI4
  refine z_aload_n hC (q := 0) dX12_sentence_12 rfl rfl ?_
  refine z_iconst hC (v := 0) k_iconst_0 dX12_sentence_13 ?_
  refine pf_RX12_494 hC dX12_sentence_14 hk1 ?_
  refine z_genI (fun I5 eI5 => ?_)
  have h := h I5 eI5
  refine z_aload_n hC (q := 0) dX12_sentence_17 rfl rfl ?_
  refine z_iconst hC (v := 0) k_iconst_0 dX12_sentence_18 ?_
  refine pf_RX12_497 hC dX12_sentence_19 hk1 ?_
  refine z_genI (fun I6 eI6 => ?_)
  have h := h I6 eI6
  refine z_aload_n hC (q := 0) dX12_sentence_22 rfl rfl ?_
  refine cl_RX12_512 hC (hrc := ⟨rfl, rfl⟩) (c_X12_readOr_c _ G a0 K N I6 L3 R _ h) hk1 dX12_sentence_23 (by rw [hRm]; exact ⟨Nat.le_of_ble_eq_true rfl, Nat.le_of_ble_eq_true rfl⟩) ⟨Nat.zero_le _, Nat.zero_le _⟩ (Nat.le_of_ble_eq_true rfl) (z_kLz (I := I6) (L := L3) (fun r7 I8 L9 h => ?_))
  refine z_ifz_ne hC (tgt := 36) dX12_sentence_26 (by decide) (fun hc => ?_) (fun hc => ?_)
  · have h := h.1 hc
    refine z_aload_n hC (q := 0) dX12_sentence_36 rfl rfl ?_
    refine gf_RX12_30 hC dX12_sentence_37 hk1 ?_
    refine z_if_eq hC (tgt := 56) dX12_sentence_40 (by decide) (fun hc => ?_) (fun hc => ?_)
    · have h := h.1 hc
      refine z_aload_n hC (q := 0) dX12_sentence_56 rfl rfl ?_
      obtain ⟨b10, hb10, h⟩ := h
      refine gf_RX12_98 hC dX12_sentence_57 hk1 hb10 ?_
      refine z_sipush hC (v := 425) k_sipush_425 dX12_sentence_60 ?_
      refine z_iconst hC (v := 1) k_iconst_1 dX12_sentence_63 ?_
      obtain ⟨hk11, h⟩ := h
      obtain ⟨hi12, h⟩ := h
      refine z_iastore hC hk11 hi12 dX12_sentence_64 ?_
      refine z_genI (fun I13 eI13 => ?_)
      have h := h I13 eI13
      refine z_aload_n hC (q := 0) dX12_sentence_65 rfl rfl ?_
      refine gf_RX12_98 hC dX12_sentence_66 hk1 hb10 ?_
      refine z_sipush hC (v := 426) k_sipush_426 dX12_sentence_69 ?_
      refine z_aload_n hC (q := 0) dX12_sentence_72 rfl rfl ?_
      refine gf_RX12_484 hC dX12_sentence_73 hk1 ?_
      obtain ⟨hi14, h⟩ := h
      refine z_iastore hC hk11 hi14 dX12_sentence_76 ?_
      refine z_genI (fun I15 eI15 => ?_)
      have h := h I15 eI15
      refine z_iconst hC (v := 0) k_iconst_0 dX12_sentence_77 ?_
      refine z_istore_n hC (lv1 := [(1, .int 0), (0, .ref a0)]) dX12_sentence_78 rfl (by decide) rfl ?_
      exact z_sub [(0, .ref a0), (1, .int 0)] [1, 0] rfl (z_X12_sentence_79 hC hRm h)
    · have h := h.2 hc
      refine z_aload_n hC (q := 0) dX12_sentence_43 rfl rfl ?_
      refine z_iconst hC (v := 1) k_iconst_1 dX12_sentence_44 ?_
      refine cl_RX12_72 hC (c_X12_bad _ G a0 1 K N I8 L9 R _ h) hk1 dX12_sentence_45 (by rw [hRm]; exact ⟨Nat.le_of_ble_eq_true rfl, Nat.le_of_ble_eq_true rfl⟩) ⟨Nat.zero_le _, Nat.zero_le _⟩ (Nat.le_of_ble_eq_true rfl) (z_kIz (I := I8) (fun r26 I27 h => ?_))
      refine z_pop hC rfl dX12_sentence_48 ?_
      refine z_iconst hC (v := (-1)) k_iconst_m1 dX12_sentence_49 ?_
      refine z_aload_n hC (q := 0) dX12_sentence_50 rfl rfl ?_
      refine gf_RX12_69 hC dX12_sentence_51 hk1 ?_
      refine z_isub hC dX12_sentence_54 ?_
      exact z_iret hC dX12_sentence_55 ⟨_, rfl, rfl, rfl, rfl, h⟩
  · have h := h.2 hc
    refine z_iconst hC (v := (-1)) k_iconst_m1 dX12_sentence_29 ?_
    refine z_aload_n hC (q := 0) dX12_sentence_30 rfl rfl ?_
    refine gf_RX12_69 hC dX12_sentence_31 hk1 ?_
    refine z_isub hC dX12_sentence_34 ?_
    exact z_iret hC dX12_sentence_35 ⟨_, rfl, rfl, rfl, rfl, h⟩
def w_X12_said_22  (x0 : Nat) (x1 : Int32) (x2 : Int32) (x3 : Int32)  (K : MK) (N : MK) (I : MI) (L : ML) (R : MR)  (Q : Int32 → MI → Prop) : Prop := ∃ J : Nat → Nat → Int32 → Int32 → Int32 → MI → Prop, (∃ n, J n x0 x1 x2 x3 I) ∧ ∀ (n : Nat) (x0 : Nat) (x1 : Int32) (x2 : Int32) (x3 : Int32) (I : MI), J n x0 x1 x2 x3 I → K x0 = 13 ∧ ∃ b7 : Nat, R x0 14 = some b7 ∧ K b7 = 14 ∧ vp_in 4 (N b7) ∧ ((I b7 (ix 4)) ≤ x3 → (¬ x1 = (-1) → Q (-1) I) ∧ (x1 = (-1) → Q x2 I)) ∧ (¬ (I b7 (ix 4)) ≤ x3 → vp_in 426 (N b7) ∧ wc_X12_holds x0 (I b7 (ix 426)) x3 K N I L R (fun r11 I12 => (r11 = true → (¬ x2 = x1 → ∀ v13 : Int32, v13 = x2 + 1 → ∀ v14 : Int32, v14 = x3 + 1 → ∃ n1, n1 < n ∧ J n1 x0 x1 v13 v14 I12) ∧ (x2 = x1 → Q x3 I12)) ∧ (r11 = false → ∀ v15 : Int32, v15 = x3 + 1 → ∃ n1, n1 < n ∧ J n1 x0 x1 x2 v15 I12)))
def w_X12_said  (a0 : Nat) (a1 : Int32) (K : MK) (N : MK) (I : MI) (L : ML) (R : MR) (Q : Int32 → MI → Prop) : Prop := K a0 = 13 ∧ ∀ I2 : MI, I2 = mup I a0 0 0 → ∃ b3 : Nat, R a0 14 = some b3 ∧ K b3 = 14 ∧ vp_in 425 (N b3) ∧ (¬ (I2 b3 (ix 425)) = 0 → w_X12_said_22 a0 a1 0 0 K N I2 L R Q) ∧ ((I2 b3 (ix 425)) = 0 → Q (-1) I2)
set_option maxHeartbeats 4000000 in
set_option maxRecDepth 100000 in
theorem z_X12_said_22 {X : ZX} {G : ZG}  {x0 : Nat} {x1 : Int32} {x2 : Int32} {x3 : Int32}  {K : MK} {N : MK} {I : MI} {L : ML} {R : MR}  {Q : Int32 → MI → Prop} (hC : ZOk X G RX12 cX12_said 4 (some .int)) (hRm : X.2.2.2.1 = rm_X12_said) (h : w_X12_said_22 x0 x1 x2 x3 K N I L R  Q) : Z X G 4 0 0 (z_T X G (qIi K N L R Q) 0 0) K N I L R 22 [(0, .ref x0), (1, .int x1), (2, .int x2), (3, .int x3)] [] := by
  delta w_X12_said_22 at h
  obtain ⟨J, ⟨n, h0⟩, hs⟩ := h
  have key : ∀ (n : Nat) (x0 : Nat) (x1 : Int32) (x2 : Int32) (x3 : Int32) (I : MI), J n x0 x1 x2 x3 I → Z X G 4 0 0 (z_T X G (qIi K N L R Q) 0 0) K N I L R 22 [(0, .ref x0), (1, .int x1), (2, .int x2), (3, .int x3)] [] := by
    intro n
    induction n using Nat.strongRecOn with
    | _ n ih =>
      intro x0 x1 x2 x3 I hJ
      have hC22 : ∀ (y0 : Nat) (y1 : Int32) (y2 : Int32) (y3 : Int32) (zI : MI), (∃ n1, n1 < n ∧ J n1 y0 y1 y2 y3 zI) → Z X G 4 0 0 (z_T X G (qIi K N L R Q) 0 0) K N zI L R 22 [(0, .ref y0), (1, .int y1), (2, .int y2), (3, .int y3)] [] := fun y0 y1 y2 y3 zI ⟨n1, hn1, hj⟩ => ih n1 hn1 y0 y1 y2 y3 zI hj
      have h := hs n x0 x1 x2 x3 I hJ
      refine z_iload_n hC (q := 3) dX12_said_22 rfl rfl ?_
      refine z_aload_n hC (q := 0) dX12_said_23 rfl rfl ?_
      obtain ⟨hk6, h⟩ := h
      obtain ⟨b7, hb7, h⟩ := h
      refine gf_RX12_98 hC dX12_said_24 hk6 hb7 ?_
      refine z_iconst hC (v := 4) k_iconst_4 dX12_said_27 ?_
      obtain ⟨hk8, h⟩ := h
      obtain ⟨hi9, h⟩ := h
      refine z_iaload hC hk8 hi9 dX12_said_28 ?_
      refine z_icmp_ge hC (tgt := 67) dX12_said_29 (by decide) (fun hc => ?_) (fun hc => ?_)
      · have h := h.1 hc
        refine z_iload_n hC (q := 1) dX12_said_67 rfl rfl ?_
        refine z_iconst hC (v := (-1)) k_iconst_m1 dX12_said_68 ?_
        refine z_icmp_ne hC (tgt := 76) dX12_said_69 (by decide) (fun hc => ?_) (fun hc => ?_)
        · have h := h.1 hc
          refine z_iconst hC (v := (-1)) k_iconst_m1 dX12_said_76 ?_
          exact z_iret hC dX12_said_77 ⟨_, rfl, rfl, rfl, rfl, rfl, h⟩
        · have h := h.2 hc
          refine z_iload_n hC (q := 2) dX12_said_72 rfl rfl ?_
          refine z_goto hC (tgt := 77) dX12_said_73 (by decide) ?_
          exact z_iret hC dX12_said_77 ⟨_, rfl, rfl, rfl, rfl, rfl, h⟩
      · have h := h.2 hc
        refine z_aload_n hC (q := 0) dX12_said_32 rfl rfl ?_
        refine z_aload_n hC (q := 0) dX12_said_33 rfl rfl ?_
        refine gf_RX12_98 hC dX12_said_34 hk6 hb7 ?_
        refine z_sipush hC (v := 426) k_sipush_426 dX12_said_37 ?_
        obtain ⟨hi10, h⟩ := h
        refine z_iaload hC hk8 hi10 dX12_said_40 ?_
        refine z_iload_n hC (q := 3) dX12_said_41 rfl rfl ?_
        refine cl_RX12_518 hC (hrc := ⟨rfl, rfl⟩) (c_X12_holds_c _ G x0 (I b7 (ix 426)) x3 K N I L R _ h) hk6 dX12_said_42 (by rw [hRm]; exact ⟨Nat.le_of_ble_eq_true rfl, Nat.le_of_ble_eq_true rfl⟩) ⟨Nat.zero_le _, Nat.zero_le _⟩ (Nat.le_of_ble_eq_true rfl) (z_kIz (I := I) (fun r11 I12 h => ?_))
        refine z_ifz_ne hC (tgt := 51) dX12_said_45 (by decide) (fun hc => ?_) (fun hc => ?_)
        · have h := h.1 hc
          refine z_iload_n hC (q := 2) dX12_said_51 rfl rfl ?_
          refine z_iload_n hC (q := 1) dX12_said_52 rfl rfl ?_
          refine z_icmp_ne hC (tgt := 58) dX12_said_53 (by decide) (fun hc => ?_) (fun hc => ?_)
          · have h := h.1 hc
            obtain ⟨v13, ev13⟩ : ∃ y : Int32, y = x2 + 1 := ⟨_, rfl⟩
            have h := h v13 ev13
            refine z_iinc hC (q := 2) (v := v13) (lv1 := [(2, .int v13), (0, .ref x0), (1, .int x1), (3, .int x3)]) dX12_said_58 rfl (by rw [ev13, k_iinc_1]) (by decide) rfl ?_
            obtain ⟨v14, ev14⟩ : ∃ y : Int32, y = x3 + 1 := ⟨_, rfl⟩
            have h := h v14 ev14
            refine z_iinc hC (q := 3) (v := v14) (lv1 := [(3, .int v14), (2, .int v13), (0, .ref x0), (1, .int x1)]) dX12_said_61 rfl (by rw [ev14, k_iinc_1]) (by decide) rfl ?_
            refine z_goto hC (tgt := 22) dX12_said_64 (by decide) ?_
            exact z_sub [(0, .ref x0), (1, .int x1), (2, .int v13), (3, .int v14)] [2, 3, 1, 0] rfl (hC22 _ _ _ _ _ h)
          · have h := h.2 hc
            refine z_iload_n hC (q := 3) dX12_said_56 rfl rfl ?_
            exact z_iret hC dX12_said_57 ⟨_, rfl, rfl, rfl, rfl, rfl, h⟩
        · have h := h.2 hc
          refine z_goto hC (tgt := 61) dX12_said_48 (by decide) ?_
          obtain ⟨v15, ev15⟩ : ∃ y : Int32, y = x3 + 1 := ⟨_, rfl⟩
          have h := h v15 ev15
          refine z_iinc hC (q := 3) (v := v15) (lv1 := [(3, .int v15), (0, .ref x0), (1, .int x1), (2, .int x2)]) dX12_said_61 rfl (by rw [ev15, k_iinc_1]) (by decide) rfl ?_
          refine z_goto hC (tgt := 22) dX12_said_64 (by decide) ?_
          exact z_sub [(0, .ref x0), (1, .int x1), (2, .int x2), (3, .int v15)] [1, 2, 3, 0] rfl (hC22 _ _ _ _ _ h)
  exact key n x0 x1 x2 x3 I h0
set_option maxHeartbeats 4000000 in
set_option maxRecDepth 100000 in
theorem c_X12_said  (l : Launch) (G : ZG) (a0 : Nat) (a1 : Int32) (K : MK) (N : MK) (I : MI) (L : ML) (R : MR) (Q : Int32 → MI → Prop) (h : w_X12_said a0 a1 K N I L R Q) : Met l yX12_said (.code yX12_said cX12_said 4 (some .int) :: z_tbl) rm_X12_said (z_Pc G [.ref a0, .int a1] K N I L R) (z_Qc G (qIi K N L R Q)) 0 0 (z_A G) := by
  refine z_met (by decide) (Nat.le_of_ble_eq_true rfl) (fun X hX hRm hC0 hnm => ?_)
  subst hX
  have hC : ZOk X G RX12 cX12_said 4 (some .int) := hC0
  show Z X G 4 0 0 _ K N I L R 0 [(0, .ref a0), (1, .int a1)] []
  delta w_X12_said at h
  refine z_aload_n hC (q := 0) dX12_said_0 rfl rfl ?_
  refine z_iconst hC (v := 0) k_iconst_0 dX12_said_1 ?_
  obtain ⟨hk1, h⟩ := h
  refine pf_RX12_1 hC dX12_said_2 hk1 ?_
  refine z_genI (fun I2 eI2 => ?_)
  have h := h I2 eI2
  refine z_aload_n hC (q := 0) dX12_said_5 rfl rfl ?_
  obtain ⟨b3, hb3, h⟩ := h
  refine gf_RX12_98 hC dX12_said_6 hk1 hb3 ?_
  refine z_sipush hC (v := 425) k_sipush_425 dX12_said_9 ?_
  obtain ⟨hk4, h⟩ := h
  obtain ⟨hi5, h⟩ := h
  refine z_iaload hC hk4 hi5 dX12_said_12 ?_
  refine z_if_ne hC (tgt := 18) dX12_said_13 (by decide) (fun hc => ?_) (fun hc => ?_)
  · have h := h.1 hc
    refine z_iconst hC (v := 0) k_iconst_0 dX12_said_18 ?_
    refine z_istore_n hC (lv1 := [(2, .int 0), (0, .ref a0), (1, .int a1)]) dX12_said_19 rfl (by decide) rfl ?_
    refine z_iconst hC (v := 0) k_iconst_0 dX12_said_20 ?_
    refine z_istore_n hC (lv1 := [(3, .int 0), (2, .int 0), (0, .ref a0), (1, .int a1)]) dX12_said_21 rfl (by decide) rfl ?_
    exact z_sub [(0, .ref a0), (1, .int a1), (2, .int 0), (3, .int 0)] [2, 3, 1, 0] rfl (z_X12_said_22 hC hRm h)
  · have h := h.2 hc
    refine z_iconst hC (v := (-1)) k_iconst_m1 dX12_said_16 ?_
    exact z_iret hC dX12_said_17 ⟨_, rfl, rfl, rfl, rfl, rfl, h⟩
