set_option maxHeartbeats 2000000 in
theorem zt_throwS {p : Program} {l : Launch} {e : Env} {R : Room} {s : State} {m : MethodId} {args : Array Value} {below : List Frame} {meth : Method} {c : Code} {H : Heap} {locs : List Loc} {cells slots mc ms : Nat} {free : Addr → Prop} {ls : Array Slot} {rest : List Value} {Qc : Array Value → State → Outcome → State → Prop} {XC : String → State → State → Prop}
    {cc : ByteArray} {pc : Nat} (hexec : p.tables.exec = Jvm.exec) (hb : c.code = cc) (hl : l.stackTraces = false) {own cls sup text : String} {names : List String} {ik is ic sa ik1 : Nat} {bts : ByteArray} {A : Nat → Prop}
    (hown : s.vm.findClass own = some m.cls) (hcls : Bundle.fit cls = true) (hsup : Bundle.fit sup = true) (hnames : ∀ n ∈ names, Bundle.fit n = true)
    (q0 : decode bts 0 = .ok (.aload_n 0, 1)) (q1 : decode bts 1 = .ok (.aload_n 1, 1)) (q2 : decode bts 2 = .ok (.invokespecial ik1, 3)) (q5 : decode bts 5 = .ok (.return_, 1))
    (hk : ∀ U : State, s.vm = U.vm → (Cond.classLink own ik cls).before args U = true) (hini : ∀ U : State, s.vm = U.vm → (Cond.initialized cls).before args U = true) (hstr : vk_R own is text sa s) (hat : ∀ U : State, s.vm = U.vm → ∀ w ∈ (zt_atoms own ic cls sup names ik1 bts).filter vx_no, w.before args U = true)
    (hU : vx_Zq Bundle.tN "UNASSIGNED_STACK" Bundle.steD A s s.heap) (hN : vx_Zq Bundle.tN "SUPPRESSED_SENTINEL" Bundle.listD A s s.heap) (hS : va_S A s.heap H locs) (hsize : ls.size = c.maxLocals)
    (d0 : decode cc pc = .ok (.new ik, 3)) (d3 : decode cc (pc + 3) = .ok (.dup, 1)) (d4 : decode cc (pc + 4) = .ok (.ldc is, 2)) (d6 : decode cc (pc + 6) = .ok (.invokespecial ic, 3)) (d9 : decode cc (pc + 9) = .ok (.athrow, 1))
    (hout : ∀ x ∈ c.exceptionTable.toList, covers x (pc + 9) = false)
    (hRframes : names.length + 4 < R.frames) (hRlocals : (rest.map fun v => v.category).sum + (13 * (names.length + 2) + 43) ≤ R.locals) (hRcells : cells + 1 ≤ R.cells) (hRslots : slots + 6 ≤ R.slots) (hlocks : meth.locks = false)
    (hx : ∀ t : State, s.vm.Alike t.vm → H.size ≤ t.heap.size → (∀ q : Nat, q < H.size → t.heap[q]? = H[q]?) → XC cls s t)
    (hf : ∀ z ∈ locs, free z.base) (hc : cells + 1 ≤ mc) (hs : slots + 6 ≤ ms) :
    W p l e R s m args below meth c H locs cells slots (vx_MQ below Qc XC args s mc ms free) (F0 m pc ls rest) := by
  intro T hT X
  have htr : e.platform.stackTraces = false := (show e.platform.stackTraces = l.stackTraces by rw [X.admits.platform]).trans hl
  have Y := vx_rebase X (R' := { frames := R.frames, locals := R.locals, cells := 1, slots := 6 }) (Nat.le_refl _) (Nat.le_refl _) hRcells hRslots
  obtain ⟨s', hA⟩ : ∃ z, z = (T.setVm s.vm).setFrames (.invoking m args :: below) := ⟨_, rfl⟩
  rw [← hA] at Y
  have hvm : s'.vm = s.vm := by rw [hA]; rfl
  have hhp : s'.heap = H := by rw [hA]; exact hT
  have hW0 : s.WarmedH s'.vm := by rw [hvm]; exact State.WarmedH.refl s
  have hU' : vx_Zq Bundle.tN "UNASSIGNED_STACK" Bundle.steD A s' s'.heap := by rw [hhp]; exact vx_Zq.moved hW0.alike (hU.kept hS.2.1)
  have hN' : vx_Zq Bundle.tN "SUPPRESSED_SENTINEL" Bundle.listD A s' s'.heap := by rw [hhp]; exact vx_Zq.moved hW0.alike (hN.kept hS.2.1)
  have h : ∀ w ∈ zt_atoms own ic cls sup names ik1 bts, w.before args s' = true := vx_own (hat s' hvm.symm) (vx_isRefq hU'.1) (vx_isRefq hN'.1) hU'.2.word hN'.2.word
  have hown' : s'.vm.findClass own = some m.cls := by rw [hvm]; exact hown
  have hins : (Cond.instantiable cls 6).before args s' = true := h _ (zt_inR (by unfold zt_rest Bundle.ownAtoms; rw [List.drop_left]; simp))
  obtain ⟨vm₁, cX, kX, hfX, hkX, -, -, X₁, st1⟩ := Y.newCold hexec (own := own) (C := cls) (index := ik) (n := 6) hown' (hk s' hvm.symm) hins (hini s' hvm.symm)
    (g := F0 m pc ls rest) rfl (by rw [hb]; exact d0) (Nat.le_refl _) (Nat.le_refl _)
  generalize hT1 : (T.setVm vm₁).pushCell { cls := cX, slots := kX.instanceTypes.map defaultValue, vm := .none } = T1 at X₁ st1
  have hcat : (Value.ref T.heap.size).category = 1 := rfl
  have hcellA : T1.heap[T.heap.size]? = some (freshCell cX kX) := by rw [← hT1]; exact State.heap_pushCell_size _ _
  have d3' : decode c.code (pc + 3) = .ok (.dup, 1) := by rw [hb]; exact d3
  have d4' : decode c.code (pc + 4) = .ok (.ldc is, 2) := by rw [hb]; exact d4
  have hstr' : vk_R own is text sa s' := vk_R.warm hW0 hstr
  obtain ⟨V, ce, Lw, X₂, hLw, hVa, hcec, hcev, hmade⟩ := zt_made X₁ hexec htr (own := own) (cls := cls) (sup := sup) (names := names) (ic := ic) hown' hcls hsup hnames q0 q1 q2 q5 h (fun x hx => nomatch hx) hfX hkX hcellA (by rw [hhp, hT]; exact Nat.le_refl _) (msg := .ref sa) rfl
    (g := { method := m, pc := pc + 6, locals := ls, stack := .ref sa :: .ref T.heap.size :: .ref T.heap.size :: rest, locked := none }) rfl hsize (rest := rest) rfl
    (by rw [hb]; exact d6) hRframes (by simp only [List.map_cons, List.sum_cons, hcat]; omega)
  obtain ⟨U, ⟨hleft, hrun, hend⟩, hce, hW, hsame⟩ := zt_thrown X₂ hexec hLw (by rw [hhp, hT]; exact Nat.le_refl _) hVa (f := { method := m, pc := pc + 6 + 3, locals := ls, stack := .ref T.heap.size :: rest, locked := none }) rfl rfl rfl rfl (by rw [hb]; exact d9) hout hlocks
  have hsteps := hmade _ hleft
  obtain ⟨f1, f2⟩ := vx_frame hsame
  rw [hhp] at f1 f2
  have hWs : s.WarmedH U.vm := State.WarmedH.trans hW0 hW
  have hcl : s.vm.findClass cls = some ce.cls := by rw [hcec, ← hvm]; exact hfX
  have hall : s.sameButNew ({ U with vm := s.vm } : State) locs mc ms := by
    subst hA
    obtain ⟨e1, e2⟩ := hsame
    rw [State.setFrames_setFrames] at e1
    have h2 : (T.setVm s.vm).sameButNew ({ U with vm := s.vm } : State) [] (0 + 1) (0 + 6) := ⟨e1, e2⟩
    have h3 := X.same.trans h2
    rw [List.append_nil] at h3
    exact h3.mono hc hs
  refine ⟨U, ?_, .threw T.heap.size, hrun, hend, Or.inr ⟨T.heap.size, rfl, cls, ce, locs, hx U hWs.alike f1 (fun q hq => f2 q hq (fun z hz => nomatch hz)), hce, hcev, hcl, hWs, hall, hf⟩⟩
  refine st1 _ ?_
  show Steps p.tables e below (T1.setTop { method := m, pc := pc + 3, locals := ls, stack := .ref T.heap.size :: rest, locked := none }) _
  jvm_step X₁.here [X₁.here.top, hexec, d3', Value.category]
  exact X₁.ldcString hexec (own := own) (text := text) (index := is) (a := sa) hown' hstr'.1 hstr'.2
    (g := { method := m, pc := pc + 4, locals := ls, stack := .ref T.heap.size :: .ref T.heap.size :: rest, locked := none }) rfl d4' _ hsteps
set_option maxHeartbeats 2000000 in
theorem zt_throwSW {p : Program} {l : Launch} {e : Env} {R : Room} {s : State} {m : MethodId} {args : Array Value} {below : List Frame} {meth : Method} {c : Code} {H : Heap} {locs : List Loc} {cells slots mc ms : Nat} {free : Addr → Prop} {ls : Array Slot} {rest : List Value} {Qc : Array Value → State → Outcome → State → Prop} {XC : String → State → State → Prop}
    {cc : ByteArray} {pc : Nat} (hexec : p.tables.exec = Jvm.exec) (hb : c.code = cc) (hl : l.stackTraces = false) {own cls sup text : String} {names : List String} {ik is ic sa ik1 : Nat} {bts : ByteArray} {A : Nat → Prop}
    (hown : s.vm.findClass own = some m.cls) (hcls : Bundle.fit cls = true) (hsup : Bundle.fit sup = true) (hnames : ∀ n ∈ names, Bundle.fit n = true)
    (q0 : decode bts 0 = .ok (.aload_n 0, 1)) (q1 : decode bts 1 = .ok (.aload_n 1, 1)) (q2 : decode bts 2 = .ok (.invokespecial ik1, 3)) (q5 : decode bts 5 = .ok (.return_, 1))
    (hk : ∀ U : State, s.vm = U.vm → (Cond.classLink own ik cls).before args U = true) (hini : ∀ U : State, s.vm = U.vm → (Cond.initialized cls).before args U = true) (hstr : vk_R own is text sa s) (hat : ∀ U : State, s.vm = U.vm → ∀ w ∈ (zt_atoms own ic cls sup names ik1 bts).filter vx_no, w.before args U = true)
    (hU : vx_Zq Bundle.tN "UNASSIGNED_STACK" Bundle.steD A s s.heap) (hN : vx_Zq Bundle.tN "SUPPRESSED_SENTINEL" Bundle.listD A s s.heap) (hS : va_S A s.heap H locs) (hsize : ls.size = c.maxLocals)
    (d0 : decode cc pc = .ok (.new ik, 3)) (d3 : decode cc (pc + 3) = .ok (.dup, 1)) (d4 : decode cc (pc + 4) = .ok (.ldc_w is, 3)) (d6 : decode cc (pc + 7) = .ok (.invokespecial ic, 3)) (d9 : decode cc (pc + 10) = .ok (.athrow, 1))
    (hout : ∀ x ∈ c.exceptionTable.toList, covers x (pc + 10) = false)
    (hRframes : names.length + 4 < R.frames) (hRlocals : (rest.map fun v => v.category).sum + (13 * (names.length + 2) + 43) ≤ R.locals) (hRcells : cells + 1 ≤ R.cells) (hRslots : slots + 6 ≤ R.slots) (hlocks : meth.locks = false)
    (hx : ∀ t : State, s.vm.Alike t.vm → H.size ≤ t.heap.size → (∀ q : Nat, q < H.size → t.heap[q]? = H[q]?) → XC cls s t)
    (hf : ∀ z ∈ locs, free z.base) (hc : cells + 1 ≤ mc) (hs : slots + 6 ≤ ms) :
    W p l e R s m args below meth c H locs cells slots (vx_MQ below Qc XC args s mc ms free) (F0 m pc ls rest) := by
  intro T hT X
  have htr : e.platform.stackTraces = false := (show e.platform.stackTraces = l.stackTraces by rw [X.admits.platform]).trans hl
  have Y := vx_rebase X (R' := { frames := R.frames, locals := R.locals, cells := 1, slots := 6 }) (Nat.le_refl _) (Nat.le_refl _) hRcells hRslots
  obtain ⟨s', hA⟩ : ∃ z, z = (T.setVm s.vm).setFrames (.invoking m args :: below) := ⟨_, rfl⟩
  rw [← hA] at Y
  have hvm : s'.vm = s.vm := by rw [hA]; rfl
  have hhp : s'.heap = H := by rw [hA]; exact hT
  have hW0 : s.WarmedH s'.vm := by rw [hvm]; exact State.WarmedH.refl s
  have hU' : vx_Zq Bundle.tN "UNASSIGNED_STACK" Bundle.steD A s' s'.heap := by rw [hhp]; exact vx_Zq.moved hW0.alike (hU.kept hS.2.1)
  have hN' : vx_Zq Bundle.tN "SUPPRESSED_SENTINEL" Bundle.listD A s' s'.heap := by rw [hhp]; exact vx_Zq.moved hW0.alike (hN.kept hS.2.1)
  have h : ∀ w ∈ zt_atoms own ic cls sup names ik1 bts, w.before args s' = true := vx_own (hat s' hvm.symm) (vx_isRefq hU'.1) (vx_isRefq hN'.1) hU'.2.word hN'.2.word
  have hown' : s'.vm.findClass own = some m.cls := by rw [hvm]; exact hown
  have hins : (Cond.instantiable cls 6).before args s' = true := h _ (zt_inR (by unfold zt_rest Bundle.ownAtoms; rw [List.drop_left]; simp))
  obtain ⟨vm₁, cX, kX, hfX, hkX, -, -, X₁, st1⟩ := Y.newCold hexec (own := own) (C := cls) (index := ik) (n := 6) hown' (hk s' hvm.symm) hins (hini s' hvm.symm)
    (g := F0 m pc ls rest) rfl (by rw [hb]; exact d0) (Nat.le_refl _) (Nat.le_refl _)
  generalize hT1 : (T.setVm vm₁).pushCell { cls := cX, slots := kX.instanceTypes.map defaultValue, vm := .none } = T1 at X₁ st1
  have hcat : (Value.ref T.heap.size).category = 1 := rfl
  have hcellA : T1.heap[T.heap.size]? = some (freshCell cX kX) := by rw [← hT1]; exact State.heap_pushCell_size _ _
  have d3' : decode c.code (pc + 3) = .ok (.dup, 1) := by rw [hb]; exact d3
  have d4' : decode c.code (pc + 4) = .ok (.ldc_w is, 3) := by rw [hb]; exact d4
  have hstr' : vk_R own is text sa s' := vk_R.warm hW0 hstr
  obtain ⟨V, ce, Lw, X₂, hLw, hVa, hcec, hcev, hmade⟩ := zt_made X₁ hexec htr (own := own) (cls := cls) (sup := sup) (names := names) (ic := ic) hown' hcls hsup hnames q0 q1 q2 q5 h (fun x hx => nomatch hx) hfX hkX hcellA (by rw [hhp, hT]; exact Nat.le_refl _) (msg := .ref sa) rfl
    (g := { method := m, pc := pc + 7, locals := ls, stack := .ref sa :: .ref T.heap.size :: .ref T.heap.size :: rest, locked := none }) rfl hsize (rest := rest) rfl
    (by rw [hb]; exact d6) hRframes (by simp only [List.map_cons, List.sum_cons, hcat]; omega)
  obtain ⟨U, ⟨hleft, hrun, hend⟩, hce, hW, hsame⟩ := zt_thrown X₂ hexec hLw (by rw [hhp, hT]; exact Nat.le_refl _) hVa (f := { method := m, pc := pc + 7 + 3, locals := ls, stack := .ref T.heap.size :: rest, locked := none }) rfl rfl rfl rfl (by rw [hb]; exact d9) hout hlocks
  have hsteps := hmade _ hleft
  obtain ⟨f1, f2⟩ := vx_frame hsame
  rw [hhp] at f1 f2
  have hWs : s.WarmedH U.vm := State.WarmedH.trans hW0 hW
  have hcl : s.vm.findClass cls = some ce.cls := by rw [hcec, ← hvm]; exact hfX
  have hall : s.sameButNew ({ U with vm := s.vm } : State) locs mc ms := by
    subst hA
    obtain ⟨e1, e2⟩ := hsame
    rw [State.setFrames_setFrames] at e1
    have h2 : (T.setVm s.vm).sameButNew ({ U with vm := s.vm } : State) [] (0 + 1) (0 + 6) := ⟨e1, e2⟩
    have h3 := X.same.trans h2
    rw [List.append_nil] at h3
    exact h3.mono hc hs
  refine ⟨U, ?_, .threw T.heap.size, hrun, hend, Or.inr ⟨T.heap.size, rfl, cls, ce, locs, hx U hWs.alike f1 (fun q hq => f2 q hq (fun z hz => nomatch hz)), hce, hcev, hcl, hWs, hall, hf⟩⟩
  refine st1 _ ?_
  show Steps p.tables e below (T1.setTop { method := m, pc := pc + 3, locals := ls, stack := .ref T.heap.size :: rest, locked := none }) _
  jvm_step X₁.here [X₁.here.top, hexec, d3', Value.category]
  exact X₁.ldcStringW hexec (own := own) (text := text) (index := is) (a := sa) hown' hstr'.1 hstr'.2
    (g := { method := m, pc := pc + 4, locals := ls, stack := .ref T.heap.size :: .ref T.heap.size :: rest, locked := none }) rfl d4' _ hsteps
/-! the words of this class's throw -/
abbrev cNE : ByteArray := prog_28_method_4_code
abbrev zAt : List Cond := zt_atoms RX11 212 zNE zRE [zEX] 13 cNE
def zSl : List Cond := tables_1_5.drop 209 ++ tables_1_6.take 34 ++ tables_1_1.take 60
theorem zSl_in {w : Cond} (h : w ∈ zSl) (hg : goodWord w = true) : w ∈ z_tbl := by
  have h1 : w ∈ tables_1 := by
    unfold tables_1
    simp only [List.mem_append]
    rcases List.mem_append.mp h with h | h
    · rcases List.mem_append.mp h with h | h
      · exact Or.inr (Or.inr (Or.inr (Or.inr (Or.inl (List.mem_of_mem_drop h)))))
      · exact Or.inr (Or.inr (Or.inr (Or.inr (Or.inr (Or.inl (List.mem_of_mem_take h))))))
    · exact Or.inl (List.mem_of_mem_take h)
  exact List.mem_filter.mpr ⟨List.mem_append_right _ h1, hg⟩
theorem zAt_all : (zAt.filter vx_no).all (fun w => decide (w ∈ zBad) || (goodWord w && decide (w ∈ zSl))) = true := by decide +kernel
theorem zAt_in {w : Cond} (h : w ∈ zAt.filter vx_no) : w ∈ zBad ∨ w ∈ z_tbl := by
  have h1 := List.all_eq_true.mp zAt_all w h
  rcases Bool.or_eq_true _ _ ▸ h1 with h2 | h2
  · exact Or.inl (of_decide_eq_true h2)
  · obtain ⟨h3, h4⟩ := Bool.and_eq_true _ _ ▸ h2
    exact Or.inr (zSl_in (of_decide_eq_true h4) h3)
theorem ne_q0 : decode cNE 0 = .ok (.aload_n 0, 1) := by decide +kernel
theorem ne_q1 : decode cNE 1 = .ok (.aload_n 1, 1) := by decide +kernel
theorem ne_q2 : decode cNE 2 = .ok (.invokespecial 13, 3) := by decide +kernel
theorem ne_q5 : decode cNE 5 = .ok (.return_, 1) := by decide +kernel
theorem cl_RX11_208 : Cond.classLink RX11 208 zNE ∈ z_tbl := z_mt5 208 (by decide +kernel) rfl
theorem ini_NE : Cond.initialized zNE ∈ z_tbl := z_mt1 23 (by decide +kernel) rfl
theorem cl_RL_13 : Cond.classLink RL 13 zNE ∈ z_tbl := z_mt5 203 (by decide +kernel) rfl
theorem z_throwS {X : ZX} {G : ZG} {cc : ByteArray} {n : Nat} {ret : Option FieldType} {QG : PostT} {XT : MK → MK → MI → ML → MR → Prop} {K N : MK} {I : MI} {L : ML} {R : MR} {pc : Nat} {lv : List (Nat × Value)} (hC : ZOk X G RX11 cc n ret) (hZ : zxS G X.2.2.2.2.1) (hfl : X.2.1.stackTraces = false) (hno : ∀ x ∈ X.2.2.2.2.2.2.2.2.2.exceptionTable.toList, False)
    (d0 : decode cc pc = .ok (.new 208, 3)) (d3 : decode cc (pc + 3) = .ok (.dup, 1)) (d4 : decode cc (pc + 4) = .ok (.ldc 210, 2)) (d6 : decode cc (pc + 6) = .ok (.invokespecial 212, 3)) (d9 : decode cc (pc + 9) = .ok (.athrow, 1))
    (hrm : 6 ≤ X.2.2.2.1.frames ∧ 100 ≤ X.2.2.2.1.locals ∧ 1 ≤ X.2.2.2.1.cells ∧ 6 ≤ X.2.2.2.1.slots) (hx : ∀ nn, N 0 ≤ nn → XT K (kup N 0 nn) I L R) :
    Z X G n 0 0 (vx_MQ X.2.2.2.2.2.2.2.1 (z_Qc G QG) (zXC G XT) X.2.2.2.2.2.2.1 X.2.2.2.2.1 1 6 (z_A G)) K N I L R pc lv [] := by
  intro H locs ls hR hS hl
  have hwd : ∀ U : State, X.2.2.2.2.1.vm = U.vm → ∀ w ∈ z_tbl, w.before X.2.2.2.2.2.2.1 U = true := fun U hU w hw => vx_ot_at (s := X.2.2.2.2.1) (by rw [← hU]; exact State.WarmedH.refl _) hU (by rw [vx_ot, (List.mem_filter.mp hw).2, Bool.or_true]) (hC.2.2.2.1 w hw)
  refine zt_throwS hC.1 hC.2.1 hfl (own := RX11) (cls := zNE) (sup := zRE) (names := [zEX]) (ik := 208) (is := 210) (ic := 212) (ik1 := 13) (bts := cNE) hC.2.2.2.2.1 (by decide +kernel) (by decide +kernel) (by decide +kernel) ne_q0 ne_q1 ne_q2 ne_q5 (fun U hU => hwd U hU _ cl_RX11_208) (fun U hU => hwd U hU _ ini_NE) hC.2.2.2.2.2.2.2.2.2.2.2.2.2.2.2.2.1 (fun U hU w hw => ?_) hZ.2.1 hZ.2.2.1 hS (hl.1.trans hC.2.2.2.2.2.2.1.symm) d0 d3 d4 d6 d9 (fun x hx => (hno x hx).elim) (by show 1 + 4 < _; omega) (by show 0 + (13 * (1 + 2) + 43) ≤ _; omega) (by omega) (by omega) hC.2.2.2.2.2.1 ?_ hS.2.2 (Nat.le_refl _) (Nat.le_refl _)
  · rcases zAt_in hw with h | h
    · exact zx_bad (by rw [← hU]; exact Vm.Alike.refl _) hZ.2.2.2 w h
    · exact hwd U hU w h
  · intro t hal h1 h2
    refine ⟨rfl, ⟨K, kup N 0 t.heap.size, I, L, R, hx _ (by rw [← hR.1]; exact h1), z_Rgrow hZ.1.2.1.2 hR h2⟩, Nat.le_trans hS.1 h1, fun q g1 g2 => ?_⟩
    rw [h2 q (Nat.lt_of_lt_of_le g1 hS.1)]
    exact hS.2.1 q g1 g2
theorem z_throwSW {X : ZX} {G : ZG} {cc : ByteArray} {n : Nat} {ret : Option FieldType} {QG : PostT} {XT : MK → MK → MI → ML → MR → Prop} {K N : MK} {I : MI} {L : ML} {R : MR} {pc : Nat} {lv : List (Nat × Value)} (hC : ZOk X G RX11 cc n ret) (hZ : zxS G X.2.2.2.2.1) (hfl : X.2.1.stackTraces = false) (hno : ∀ x ∈ X.2.2.2.2.2.2.2.2.2.exceptionTable.toList, False)
    (d0 : decode cc pc = .ok (.new 208, 3)) (d3 : decode cc (pc + 3) = .ok (.dup, 1)) (d4 : decode cc (pc + 4) = .ok (.ldc_w 267, 3)) (d6 : decode cc (pc + 7) = .ok (.invokespecial 212, 3)) (d9 : decode cc (pc + 10) = .ok (.athrow, 1))
    (hrm : 6 ≤ X.2.2.2.1.frames ∧ 100 ≤ X.2.2.2.1.locals ∧ 1 ≤ X.2.2.2.1.cells ∧ 6 ≤ X.2.2.2.1.slots) (hx : ∀ nn, N 0 ≤ nn → XT K (kup N 0 nn) I L R) :
    Z X G n 0 0 (vx_MQ X.2.2.2.2.2.2.2.1 (z_Qc G QG) (zXC G XT) X.2.2.2.2.2.2.1 X.2.2.2.2.1 1 6 (z_A G)) K N I L R pc lv [] := by
  intro H locs ls hR hS hl
  have hwd : ∀ U : State, X.2.2.2.2.1.vm = U.vm → ∀ w ∈ z_tbl, w.before X.2.2.2.2.2.2.1 U = true := fun U hU w hw => vx_ot_at (s := X.2.2.2.2.1) (by rw [← hU]; exact State.WarmedH.refl _) hU (by rw [vx_ot, (List.mem_filter.mp hw).2, Bool.or_true]) (hC.2.2.2.1 w hw)
  refine zt_throwSW hC.1 hC.2.1 hfl (own := RX11) (cls := zNE) (sup := zRE) (names := [zEX]) (ik := 208) (is := 267) (ic := 212) (ik1 := 13) (bts := cNE) hC.2.2.2.2.1 (by decide +kernel) (by decide +kernel) (by decide +kernel) ne_q0 ne_q1 ne_q2 ne_q5 (fun U hU => hwd U hU _ cl_RX11_208) (fun U hU => hwd U hU _ ini_NE) hC.2.2.2.2.2.2.2.2.2.2.2.2.2.2.2.2.2.1 (fun U hU w hw => ?_) hZ.2.1 hZ.2.2.1 hS (hl.1.trans hC.2.2.2.2.2.2.1.symm) d0 d3 d4 d6 d9 (fun x hx => (hno x hx).elim) (by show 1 + 4 < _; omega) (by show 0 + (13 * (1 + 2) + 43) ≤ _; omega) (by omega) (by omega) hC.2.2.2.2.2.1 ?_ hS.2.2 (Nat.le_refl _) (Nat.le_refl _)
  · rcases zAt_in hw with h | h
    · exact zx_bad (by rw [← hU]; exact Vm.Alike.refl _) hZ.2.2.2 w h
    · exact hwd U hU w h
  · intro t hal h1 h2
    refine ⟨rfl, ⟨K, kup N 0 t.heap.size, I, L, R, hx _ (by rw [← hR.1]; exact h1), z_Rgrow hZ.1.2.1.2 hR h2⟩, Nat.le_trans hS.1 h1, fun q g1 g2 => ?_⟩
    rw [h2 q (Nat.lt_of_lt_of_le g1 hS.1)]
    exact hS.2.1 q g1 g2
