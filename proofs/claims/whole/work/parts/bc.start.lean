theorem st_mt1 {w : Cond} (j : Nat) (h : tables_1_1[j]? = some w) : w ∈ lw_tbl := by
  refine List.mem_append_right _ ?_
  unfold tables_1
  simp only [List.mem_append]
  exact Or.inl (List.mem_of_getElem? h)
theorem st_mt2 {w : Cond} (j : Nat) (h : tables_1_2[j]? = some w) : w ∈ lw_tbl := by
  refine List.mem_append_right _ ?_
  unfold tables_1
  simp only [List.mem_append]
  exact Or.inr (Or.inl (List.mem_of_getElem? h))
theorem st_mt5 {w : Cond} (j : Nat) (h : tables_1_5[j]? = some w) : w ∈ lw_tbl := by
  refine List.mem_append_right _ ?_
  unfold tables_1
  simp only [List.mem_append]
  exact Or.inr (Or.inr (Or.inr (Or.inr (Or.inl (List.mem_of_getElem? h)))))
theorem st_mt6 {w : Cond} (j : Nat) (h : tables_1_6[j]? = some w) : w ∈ lw_tbl := by
  refine List.mem_append_right _ ?_
  unfold tables_1
  simp only [List.mem_append]
  exact Or.inr (Or.inr (Or.inr (Or.inr (Or.inr (Or.inl (List.mem_of_getElem? h))))))
theorem st_n0 : Cond.methodLinkNest RX11 9 yX8_init RX11 ∈ lw_tbl := st_mt1 34 (by decide +kernel)
theorem st_n1 : Cond.methodLinkNest RX11 18 yX9_init RX11 ∈ lw_tbl := st_mt1 91 (by decide +kernel)
theorem st_n2 : Cond.methodLinkNest RX11 25 yX3_init RX11 ∈ lw_tbl := st_mt1 163 (by decide +kernel)
theorem st_n3 : Cond.methodLinkNest RX11 43 yX2_init RX11 ∈ lw_tbl := st_mt1 194 (by decide +kernel)
theorem st_n4 : Cond.methodLinkNest RX11 50 yX1_init RX11 ∈ lw_tbl := st_mt1 212 (by decide +kernel)
theorem st_n5 : Cond.methodLinkNest RX11 57 yX5_init RX11 ∈ lw_tbl := st_mt1 222 (by decide +kernel)
theorem st_n6 : Cond.methodLinkNest RX11 64 yX10_init RX11 ∈ lw_tbl := st_mt2 9 (by decide +kernel)
theorem st_n7 : Cond.methodLinkNest RX10 11 yX9_init RX11 ∈ lw_tbl := st_mt2 14 (by decide +kernel)
theorem st_n8 : Cond.methodLinkNest RX11 71 yX6_init RX11 ∈ lw_tbl := st_mt2 28 (by decide +kernel)
theorem st_n9 : Cond.methodLinkNest RX6 11 yX5_init RX11 ∈ lw_tbl := st_mt2 33 (by decide +kernel)
theorem st_n10 : Cond.methodLinkNest RX11 78 yX0_init RX11 ∈ lw_tbl := st_mt2 44 (by decide +kernel)
theorem st_n11 : Cond.methodLinkNest RX11 85 yX4_init RX11 ∈ lw_tbl := st_mt2 60 (by decide +kernel)
theorem st_ini_RJ0 : Cond.initialized RJ0 ∈ lw_tbl := st_mt1 14 (by decide +kernel)
theorem st_ini_RJ3 : Cond.initialized RJ3 ∈ lw_tbl := st_mt1 16 (by decide +kernel)
theorem st_ini_TN : Cond.initialized Bundle.tN ∈ lw_tbl := st_mt1 20 (by decide +kernel)
theorem st_inst_RX0 : Cond.instantiable RX0 2 ∈ lw_tbl := st_mt2 43 (by decide +kernel)
theorem st_inst_RX1 : Cond.instantiable RX1 1 ∈ lw_tbl := st_mt1 211 (by decide +kernel)
theorem st_inst_RX10 : Cond.instantiable RX10 3 ∈ lw_tbl := st_mt2 8 (by decide +kernel)
theorem st_inst_RX11 : Cond.instantiable RX11 20 ∈ lw_tbl := st_mt1 25 (by decide +kernel)
theorem st_inst_RX12 : Cond.instantiable RX12 58 ∈ lw_tbl := st_mt6 63 (by decide +kernel)
theorem st_inst_RX2 : Cond.instantiable RX2 3 ∈ lw_tbl := st_mt1 193 (by decide +kernel)
theorem st_inst_RX3 : Cond.instantiable RX3 6 ∈ lw_tbl := st_mt1 162 (by decide +kernel)
theorem st_inst_RX4 : Cond.instantiable RX4 5 ∈ lw_tbl := st_mt2 59 (by decide +kernel)
theorem st_inst_RX5 : Cond.instantiable RX5 6 ∈ lw_tbl := st_mt1 221 (by decide +kernel)
theorem st_inst_RX6 : Cond.instantiable RX6 2 ∈ lw_tbl := st_mt2 27 (by decide +kernel)
theorem st_inst_RX7 : Cond.instantiable RX7 4 ∈ lw_tbl := st_mt1 96 (by decide +kernel)
theorem st_inst_RX8 : Cond.instantiable RX8 12 ∈ lw_tbl := st_mt1 33 (by decide +kernel)
theorem st_inst_RX9 : Cond.instantiable RX9 6 ∈ lw_tbl := st_mt1 90 (by decide +kernel)
theorem st_lst_cs : Cond.laysStatic "java/lang/String" "COMPACT_STRINGS" "Z" ∈ lw_tbl := st_mt2 213 (by decide +kernel)
theorem st_lst_sf : Cond.laysStatic "jdk/internal/util/Preconditions" "SIOOBE_FORMATTER" "Ljava/util/function/BiFunction;" ∈ lw_tbl := st_mt2 229 (by decide +kernel)
theorem st_lst_ss : Cond.laysStatic "java/lang/Throwable" "SUPPRESSED_SENTINEL" "Ljava/util/List;" ∈ lw_tbl := st_mt5 237 (by decide +kernel)
theorem st_lst_us : Cond.laysStatic "java/lang/Throwable" "UNASSIGNED_STACK" "[Ljava/lang/StackTraceElement;" ∈ lw_tbl := st_mt5 235 (by decide +kernel)
theorem st_w_ao3 : Cond.arrayOver (.object RX3) ∈ lw_tbl := st_mt1 191 (by decide +kernel)
theorem st_w_ao5 : Cond.arrayOver (.object RX5) ∈ lw_tbl := st_mt2 85 (by decide +kernel)
theorem st_w_ao9 : Cond.arrayOver (.object RX9) ∈ lw_tbl := st_mt2 84 (by decide +kernel)
theorem st_w_arrboolean : Cond.arrayClass .boolean ∈ lw_tbl := st_mt2 6 (by decide +kernel)
theorem st_w_arrint : Cond.arrayClass .int ∈ lw_tbl := st_mt1 88 (by decide +kernel)
theorem st_w_arrlong : Cond.arrayClass .long ∈ lw_tbl := st_mt1 121 (by decide +kernel)
theorem st_w_str0 : Cond.stringRef RX8 76 "size row scope type var where plain signed in value reg plus minus times load dup swap set poke go stop clear step leave run or and not there local within bits places number " ∈ lw_tbl := st_mt2 203 (by decide +kernel)
theorem st_w_str1 : Cond.stringRef RX11 289 " is " ∈ lw_tbl := st_mt5 25 (by decide +kernel)
theorem st_w_str2 : Cond.stringRef RX11 297 " is out" ∈ lw_tbl := st_mt5 36 (by decide +kernel)
theorem st_w_str3 : Cond.stringRef RX11 299 " in " ∈ lw_tbl := st_mt5 37 (by decide +kernel)
theorem st_w_str4 : Cond.stringRef RX11 210 "it is not there" ∈ lw_tbl := st_mt6 7 (by decide +kernel)
theorem st_w_str5 : Cond.stringRef RX11 267 "no such ones" ∈ lw_tbl := st_mt6 40 (by decide +kernel)
theorem st_nest {s : State} {args : Array Value} (ht : ∀ w ∈ lw_tbl, w.before args s = true) : ∀ q ∈ z_nest, va_Nw (.methodLinkNest q.1 q.2.1 q.2.2.1 q.2.2.2) s := by
  intro q hq
  simp only [z_nest, List.mem_cons, List.not_mem_nil, or_false] at hq
  rcases hq with rfl | rfl | rfl | rfl | rfl | rfl | rfl | rfl | rfl | rfl | rfl | rfl
  · exact va_Nw.of rfl (ht _ st_n0)
  · exact va_Nw.of rfl (ht _ st_n1)
  · exact va_Nw.of rfl (ht _ st_n2)
  · exact va_Nw.of rfl (ht _ st_n3)
  · exact va_Nw.of rfl (ht _ st_n4)
  · exact va_Nw.of rfl (ht _ st_n5)
  · exact va_Nw.of rfl (ht _ st_n6)
  · exact va_Nw.of rfl (ht _ st_n7)
  · exact va_Nw.of rfl (ht _ st_n8)
  · exact va_Nw.of rfl (ht _ st_n9)
  · exact va_Nw.of rfl (ht _ st_n10)
  · exact va_Nw.of rfl (ht _ st_n11)
def lw_nar : List Cond := flatC (Jvm.Cond.and given_1 narrow_1)
def st_tm (i : Nat) : Term := match i with
  | 0 => .string RX8 76
  | 1 => .string RX11 289
  | 2 => .string RX11 297
  | 3 => .string RX11 299
  | 4 => .string RX11 210
  | _ => .string RX11 267
def st_at : List Nat := [69, 247, 256, 269, 280, 303]
def st_four (i : Nat) : List Cond := [.exactly (st_tm i) "java/lang/String", .eq (.field (st_tm i) "java/lang/String" "coder" "B") (.int 0), .arrayOf (.field (st_tm i) "java/lang/String" "value" "[B") .byte, .eq (.length (.field (st_tm i) "java/lang/String" "value" "[B")) (.int (Int32.ofNat (z_ln.getD i 0)))]
def st_el (i j : Nat) : Cond := .eq (.elem (.field (st_tm i) "java/lang/String" "value" "[B") (.int (Int32.ofNat j))) (.int ((z_by.getD i []).getD j 0))
theorem st_4 : ∀ i, i < 6 → ((lw_nar.drop (st_at.getD i 0)).take 4) = st_four i := by decide +kernel
theorem st_e : ∀ i, i < 6 → ((lw_nar.drop (st_at.getD i 0 + 4)).take (z_ln.getD i 0)) = (List.range (z_ln.getD i 0)).map (st_el i) := by decide +kernel
theorem st_ne : ∀ i, i < 6 → ∀ j, j < 6 → i ≠ j → Cond.not (Cond.eq (st_tm i) (st_tm j)) ∈ lw_nar ∨ Cond.not (Cond.eq (st_tm j) (st_tm i)) ∈ lw_nar := by decide +kernel
theorem st_in4 {i : Nat} (hi : i < 6) {c : Cond} (h : c ∈ st_four i) : c ∈ lw_nar := by
  rw [← st_4 i hi] at h
  exact List.mem_of_mem_drop (List.mem_of_mem_take h)
theorem st_ine {i j : Nat} (hi : i < 6) (hj : j < z_ln.getD i 0) : st_el i j ∈ lw_nar := by
  have h : st_el i j ∈ (List.range (z_ln.getD i 0)).map (st_el i) := List.mem_map.mpr ⟨j, List.mem_range.mpr hj, rfl⟩
  rw [← st_e i hi] at h
  exact List.mem_of_mem_drop (List.mem_of_mem_take h)
theorem st_cs : Cond.eq (.static RJ0 "COMPACT_STRINGS" "Z") (.int 1) ∈ lw_nar := by decide +kernel
theorem st_sf : Cond.isRef (.static RJ3 "SIOOBE_FORMATTER" "Ljava/util/function/BiFunction;") ∈ lw_nar := by decide +kernel
theorem st_us : Cond.isRef (.static Bundle.tN "UNASSIGNED_STACK" Bundle.steD) ∈ lw_nar := by decide +kernel
theorem st_ss : Cond.isRef (.static Bundle.tN "SUPPRESSED_SENTINEL" Bundle.listD) ∈ lw_nar := by decide +kernel
theorem st_bad : ∀ w ∈ zBad, w ∈ zSl := by decide +kernel
theorem zSl_lw {w : Cond} (h : w ∈ zSl) : w ∈ lw_tbl := by
  have h1 : w ∈ tables_1 := by
    unfold tables_1
    simp only [List.mem_append]
    rcases List.mem_append.mp h with h | h
    · rcases List.mem_append.mp h with h | h
      · exact Or.inr (Or.inr (Or.inr (Or.inr (Or.inl (List.mem_of_mem_drop h)))))
      · exact Or.inr (Or.inr (Or.inr (Or.inr (Or.inr (Or.inl (List.mem_of_mem_take h))))))
    · exact Or.inl (List.mem_of_mem_take h)
  exact List.mem_append_right _ h1
section ST
variable {s : State} {args : Array Value}
theorem st_int (h : (Cond.arrayClass .int).before args s = true) : ∃ c, ArrOfT s c .int ∧ va_RA s c .int := by
  obtain ⟨c, k, comp, h1, h2, h3⟩ := Cond.arrayClass_spec h
  exact ⟨c, fun n z => ⟨fun q e => by simp [arrV] at e, k, h2, comp, h3⟩, h1⟩
theorem st_long (h : (Cond.arrayClass .long).before args s = true) : ∃ c, ArrOfT s c .long ∧ va_RA s c .long := by
  obtain ⟨c, k, comp, h1, h2, h3⟩ := Cond.arrayClass_spec h
  exact ⟨c, fun n z => ⟨fun q e => by simp [arrV] at e, k, h2, comp, h3⟩, h1⟩
theorem st_boolean (h : (Cond.arrayClass .boolean).before args s = true) : ∃ c, ArrOfT s c .boolean ∧ va_RA s c .boolean := by
  obtain ⟨c, k, comp, h1, h2, h3⟩ := Cond.arrayClass_spec h
  exact ⟨c, fun n z => ⟨fun q e => by simp [arrV] at e, k, h2, comp, h3⟩, h1⟩
theorem st_obj {C : String} (h : (Cond.arrayOver (.object C)).before args s = true) : ∃ c, ArrOfT s c (.object C) ∧ va_RA s c (.object C) := by
  obtain ⟨comp, c, k, h1, -, h3, h4, h5⟩ := Cond.arrayOver_spec h
  exact ⟨c, fun n z => ⟨fun q e => by simp [arrV] at e, k, h3, comp, h4⟩, k, comp, h3, h4, h1, h5⟩
theorem st_kn (ht : ∀ w ∈ lw_tbl, w.before args s = true) (hz : ∀ w ∈ z_tbl, w.before args s = true) : ∀ c : Nat, ∃ p : ClassId × (Nat → Nat), ∀ q : vw_C, vwCl[c]? = some q → u_Kn s q.1 q.2.1 q.2.2 p.1 p.2 := by
  intro c
  match c with
  | 0 =>
    obtain ⟨a, d, h⟩ := u_known (C := RX0) (T := TX0) (N := 2) (n := 2) hz z_cls0.2.1 (ht _ st_inst_RX0)
    exact ⟨(a, d), fun q hq => by cases hq; exact h⟩
  | 1 =>
    obtain ⟨a, d, h⟩ := u_known (C := RX1) (T := TX1) (N := 1) (n := 1) hz z_cls1.2.1 (ht _ st_inst_RX1)
    exact ⟨(a, d), fun q hq => by cases hq; exact h⟩
  | 2 =>
    obtain ⟨a, d, h⟩ := u_known (C := RX2) (T := TX2) (N := 3) (n := 3) hz z_cls2.2.1 (ht _ st_inst_RX2)
    exact ⟨(a, d), fun q hq => by cases hq; exact h⟩
  | 3 =>
    obtain ⟨a, d, h⟩ := u_known (C := RX3) (T := TX3) (N := 6) (n := 6) hz z_cls3.2.1 (ht _ st_inst_RX3)
    exact ⟨(a, d), fun q hq => by cases hq; exact h⟩
  | 4 =>
    obtain ⟨a, d, h⟩ := u_known (C := RX4) (T := TX4) (N := 5) (n := 5) hz z_cls4.2.1 (ht _ st_inst_RX4)
    exact ⟨(a, d), fun q hq => by cases hq; exact h⟩
  | 5 =>
    obtain ⟨a, d, h⟩ := u_known (C := RX5) (T := TX5) (N := 6) (n := 6) hz z_cls5.2.1 (ht _ st_inst_RX5)
    exact ⟨(a, d), fun q hq => by cases hq; exact h⟩
  | 6 =>
    obtain ⟨a, d, h⟩ := u_known (C := RX6) (T := TX6) (N := 2) (n := 2) hz z_cls6.2.1 (ht _ st_inst_RX6)
    exact ⟨(a, d), fun q hq => by cases hq; exact h⟩
  | 7 =>
    obtain ⟨a, d, h⟩ := u_known (C := RX7) (T := TX7) (N := 4) (n := 4) hz z_cls7.2.1 (ht _ st_inst_RX7)
    exact ⟨(a, d), fun q hq => by cases hq; exact h⟩
  | 8 =>
    obtain ⟨a, d, h⟩ := u_known (C := RX8) (T := TX8) (N := 12) (n := 12) hz z_cls8.2.1 (ht _ st_inst_RX8)
    exact ⟨(a, d), fun q hq => by cases hq; exact h⟩
  | 9 =>
    obtain ⟨a, d, h⟩ := u_known (C := RX9) (T := TX9) (N := 6) (n := 6) hz z_cls9.2.1 (ht _ st_inst_RX9)
    exact ⟨(a, d), fun q hq => by cases hq; exact h⟩
  | 10 =>
    obtain ⟨a, d, h⟩ := u_known (C := RX10) (T := TX10) (N := 3) (n := 3) hz z_cls10.2.1 (ht _ st_inst_RX10)
    exact ⟨(a, d), fun q hq => by cases hq; exact h⟩
  | 11 =>
    obtain ⟨a, d, h⟩ := u_known (C := RX11) (T := TX11) (N := 20) (n := 20) hz z_cls11.2.1 (ht _ st_inst_RX11)
    exact ⟨(a, d), fun q hq => by cases hq; exact h⟩
  | 12 =>
    obtain ⟨a, d, h⟩ := u_known (C := RX12) (T := TX12) (N := 58) (n := 58) hz z_cls12.2.1 (ht _ st_inst_RX12)
    exact ⟨(a, d), fun q hq => by cases hq; exact h⟩
  | c + 13 => exact ⟨(0, fun _ => 0), fun q hq => by simp [vwCl] at hq⟩
set_option maxHeartbeats 1000000 in
theorem st_zxS (h0 : 0 < s.heap.size) (ht : ∀ w ∈ lw_tbl, w.before args s = true) (hgv : (Jvm.Cond.and given_1 narrow_1).before args s = true) : ∃ G : ZG, G.2.2.1 = s.heap.size ∧ zxS G s := by
  have hz : ∀ w ∈ z_tbl, w.before args s = true := fun w hw => ht w (List.mem_filter.mp hw).1
  have hs : ∀ c ∈ lw_nar, c.before args s = true := flat_of_before _ hgv
  obtain ⟨f, hf⟩ := Classical.axiomOfChoice (st_kn ht hz)
  obtain ⟨c0, a0⟩ := st_int (ht _ st_w_arrint)
  obtain ⟨c1, a1⟩ := st_long (ht _ st_w_arrlong)
  obtain ⟨c2, a2⟩ := st_boolean (ht _ st_w_arrboolean)
  obtain ⟨c3, a3⟩ := st_obj (ht _ st_w_ao3)
  obtain ⟨c4, a4⟩ := st_obj (ht _ st_w_ao5)
  obtain ⟨c5, a5⟩ := st_obj (ht _ st_w_ao9)
  have hA : ∀ a : Nat, a < s.heap.size → ¬ (fun q : Nat => s.heap.size ≤ q) a := fun a h => Nat.not_le.mpr h
  obtain ⟨adK, adV, hS, hev⟩ := vk_Sof (args := args) (s := s) (N := 6) (tm := st_tm) (len := z_ln) (byt := z_by) (A := fun q : Nat => s.heap.size ≤ q) (by decide) (fun i hi => hs _ (st_in4 hi (by simp [st_four]))) (fun i hi => hs _ (st_in4 hi (by simp [st_four]))) (fun i hi => hs _ (st_in4 hi (by simp [st_four]))) (fun i hi => hs _ (st_in4 hi (by simp [st_four])))
    (fun i hi j hj => hs _ (st_ine hi hj)) (fun i j hi hj hij => (st_ne i hi j hj hij).imp (fun h => hs _ h) (fun h => hs _ h)) hA
  refine ⟨((fun c => (f c).1, fun c => (f c).2), fun k => match k with | 0 => c0 | 1 => c1 | 2 => c2 | 3 => c3 | 4 => c4 | _ => c5, s.heap.size, adK, adV), rfl, ⟨⟨fun c q hq => hf c q hq, fun k q hq => ?_⟩, ⟨Nat.le_refl _, h0⟩, hS, va_Zof (ht _ st_lst_cs) (ht _ st_ini_RJ0) (va_eqt (hs _ st_cs)) hA, va_Zqof (ht _ st_lst_sf) (ht _ st_ini_RJ3) (hs _ st_sf) hA, vk_R.of (ht _ st_w_str0) (hev 0 (by decide)), vk_R.of (ht _ st_w_str1) (hev 1 (by decide)), vk_R.of (ht _ st_w_str2) (hev 2 (by decide)), vk_R.of (ht _ st_w_str3) (hev 3 (by decide)), vk_R.of (ht _ st_w_str4) (hev 4 (by decide)), vk_R.of (ht _ st_w_str5) (hev 5 (by decide)), fun q hq => ?_, va_AO.of (ht _ st_w_ao3), va_AO.of (ht _ st_w_ao5), va_AO.of (ht _ st_w_ao9)⟩, vx_Zqof (ht _ st_lst_us) (ht _ st_ini_TN) (hs _ st_us) hA, vx_Zqof (ht _ st_lst_ss) (ht _ st_ini_TN) (hs _ st_ss) hA, zx_bad (Vm.Alike.refl _) (fun w hw => ht w (zSl_lw (st_bad w hw)))⟩
  · match k with
    | 0 => cases hq; exact a0
    | 1 => cases hq; exact a1
    | 2 => cases hq; exact a2
    | 3 => cases hq; exact a3
    | 4 => cases hq; exact a4
    | 5 => cases hq; exact a5
    | k + 6 => simp [z_tys] at hq
  · exact st_nest ht q hq
end ST
