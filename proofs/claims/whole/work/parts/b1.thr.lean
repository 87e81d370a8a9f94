/-! ===== methods that throw: the judgement Z with an end that may throw ===== -/
abbrev zNE : String := "java/util/NoSuchElementException"
abbrev zRE : String := "java/lang/RuntimeException"
abbrev zEX : String := "java/lang/Exception"
def zBad : List Cond := [.castable zNE zNE, .declares (Bundle.initS zRE), .declares (Bundle.initS zEX), .declares (Bundle.initS Bundle.tN)]
theorem zBad_ok : ∀ w ∈ zBad, w.faceAtom = true ∧ w.onTables = true := by decide +kernel
/-- z_St, and what a throw asks beside it -/
def zxS (G : ZG) (U : State) : Prop := z_St G U ∧ vx_Zq Bundle.tN "UNASSIGNED_STACK" Bundle.steD (z_A G) U U.heap ∧ vx_Zq Bundle.tN "SUPPRESSED_SENTINEL" Bundle.listD (z_A G) U U.heap ∧ ∀ w ∈ zBad, w.before #[] U = true
theorem zx_bad {A B : Array Value} {s U : State} (h : s.vm.Alike U.vm) (hc : ∀ w ∈ zBad, w.before A s = true) : ∀ w ∈ zBad, w.before B U = true := by
  intro w hw
  have h1 : w.before A (s.setVm U.vm) = true := Cond.faceAtom_setVm h w (zBad_ok w hw).1 (hc w hw)
  exact va_tabs (u := s.setVm U.vm) (zBad_ok w hw).2 rfl h1
theorem zxS.next {G : ZG} {s U : State} {H : Heap} {locs : List Loc} (h : zxS G s) (hS : va_S (z_A G) s.heap H locs) (hW : s.WarmedH U.vm) (hU : U.heap = H) : zxS G U := by
  obtain ⟨h1, h2, h3, h4⟩ := h
  have hk : ∀ a : Nat, a < s.heap.size → ¬ z_A G a → U.heap[a]? = s.heap[a]? := fun a g1 g2 => by rw [hU]; exact hS.2.1 a g1 g2
  exact ⟨h1.next hS hW hU, (vx_Zq.moved hW.alike h2).kept hk, (vx_Zq.moved hW.alike h3).kept hk, zx_bad hW.alike h4⟩
def z_PcX (G : ZG) (As : List Value) (K N : MK) (I : MI) (L : ML) (R : MR) : Array Value → State → Prop := va_Pc As (fun U => Rp G K N I L R U.heap ∧ zxS G U)
theorem z_blindX {G : ZG} {As : List Value} {K N : MK} {I : MI} {L : ML} {R : MR} : FrameBlind (z_PcX G As K N I L R) := by
  intro a U g mk h
  obtain ⟨h1, h2, h3, h4, h5, h6⟩ := h
  obtain ⟨q1, q2, q3⟩ := z_blind (G := G) (As := As) (K := K) (N := N) (I := I) (L := L) (R := R) a U g mk ⟨h1, h2, h3⟩
  exact ⟨q1, q2, q3, vx_Zq.moved (u := U) (U := U.calling g mk a) (Vm.Alike.refl U.vm) h4, vx_Zq.moved (u := U) (U := U.calling g mk a) (Vm.Alike.refl U.vm) h5, zx_bad (U := U.calling g mk a) (Vm.Alike.refl U.vm) h6⟩
theorem z_preX {X : ZX} {G : ZG} {K N : MK} {I : MI} {L : ML} {R : MR} {H : Heap} {locs : List Loc} {As : List Value} (hZ : zxS G X.2.2.2.2.1) (hR : Rp G K N I L R H) (hS : va_S (z_A G) X.2.2.2.2.1.heap H locs) : PreS X.2.2.2.2.1 H (z_PcX G As K N I L R) As :=
  ⟨z_blindX, fun U hU hW => ⟨rfl, by rw [hU]; exact hR, hZ.next hS hW hU⟩⟩
/-- thrown: the exception that the document names, the memory behind it -/
def zXC (G : ZG) (XT : MK → MK → MI → ML → MR → Prop) : String → State → State → Prop := fun E st t => E = zNE ∧ (∃ K N I L R, XT K N I L R ∧ Rp G K N I L R t.heap) ∧ va_F (z_A G) st t
theorem z_metX {l : Launch} {G : ZG} {y : MethodName} {cc : ByteArray} {maxL : Nat} {ret : Option FieldType} {rm : Room} {As : List Value} {K N : MK} {I : MI} {L : ML} {R : MR} {QG : PostT} {XC : String → State → State → Prop} {mc ms : Nat} (hy : plainName y.cls = true) (hln : (lg_sl As).length ≤ maxL)
    (h : ∀ X : ZX, X.2.1 = l → X.2.2.2.1 = rm → ZOk X G y.cls cc maxL ret → zxS G X.2.2.2.2.1 → (∀ x ∈ X.2.2.2.2.2.2.2.2.2.exceptionTable.toList, False) → Z X G maxL 0 0 (vx_MQ X.2.2.2.2.2.2.2.1 (z_Qc G QG) XC X.2.2.2.2.2.2.1 X.2.2.2.2.1 mc ms (z_A G)) K N I L R 0 (lv_args 0 As) []) :
    vx_Met l y (.code y cc maxL ret :: z_tbl) rm (z_PcX G As K N I L R) (z_Qc G QG) XC mc ms (z_A G) := by
  refine vx_ofW (cc := cc) (maxL := maxL) (ret := ret) hy rfl ?_
  intro p e s m args below meth c s₁ B hml htb hv
  obtain ⟨rfl, hR, hSt⟩ := hv
  have hts := atoms_spec (ws := .code y cc maxL ret :: z_tbl) B.pre
  have hown : s.vm.findClass y.cls = some m.cls := findClass_of_methodNamed B.named
  have hl := lv_entry As (n := maxL) hln
  rw [lg_entry_eq]
  exact h (p, l, e, rm, s, m, As.toArray, below, meth, c) rfl rfl ⟨B.exec, B.bytes, B.returns, fun w hw => hts w (List.mem_cons_of_mem _ hw), hown, B.notSynchronized, hml, hSt.1⟩ hSt htb s.heap [] _ hR va_S.rf hl
theorem z_metH {l : Launch} {G : ZG} {y : MethodName} {cc : ByteArray} {maxL : Nat} {ret : Option FieldType} {hh : List (Nat × Nat × Nat × Nat)} {rm : Room} {As : List Value} {K N : MK} {I : MI} {L : ML} {R : MR} {QG : PostT} {XC : String → State → State → Prop} {mc ms : Nat} (hy : plainName y.cls = true) (hln : (lg_sl As).length ≤ maxL)
    (h : ∀ X : ZX, X.2.1 = l → X.2.2.2.1 = rm → ZOk X G y.cls cc maxL ret → zxS G X.2.2.2.2.1 → X.2.2.2.2.2.2.2.2.2.exceptionTable.toList = tableOf hh → Z X G maxL 0 0 (vx_MQ X.2.2.2.2.2.2.2.1 (z_Qc G QG) XC X.2.2.2.2.2.2.1 X.2.2.2.2.1 mc ms (z_A G)) K N I L R 0 (lv_args 0 As) []) :
    vx_Met l y (.codeWith y cc maxL ret hh :: z_tbl) rm (z_PcX G As K N I L R) (z_Qc G QG) XC mc ms (z_A G) := by
  refine vx_ofWH (cc := cc) (maxL := maxL) (ret := ret) (hh := hh) hy rfl ?_
  intro p e s m args below meth c s₁ B hml hv
  obtain ⟨rfl, hR, hSt⟩ := hv
  have hts := atoms_spec (ws := .codeWith y cc maxL ret hh :: z_tbl) B.pre
  have hown : s.vm.findClass y.cls = some m.cls := findClass_of_methodNamed B.named
  have hl := lv_entry As (n := maxL) hln
  rw [lg_entry_eq]
  exact h (p, l, e, rm, s, m, As.toArray, below, meth, c) rfl rfl ⟨B.exec, B.bytes, B.returns, fun w hw => hts w (List.mem_cons_of_mem _ hw), hown, B.notSynchronized, hml, hSt.1⟩ hSt (vx_table (x := y) B (hts _ List.mem_cons_self)) s.heap [] _ hR va_S.rf hl
theorem z_Rgrow {G : ZG} {K N : MK} {I : MI} {L : ML} {R : MR} {H H1 : Heap} (h0 : 0 < G.2.2.1) (hR : Rp G K N I L R H) (h2 : ∀ q : Nat, q < H.size → H1[q]? = H[q]?) : Rp G K (kup N 0 H1.size) I L R H1 := by
  refine ⟨kup_at.symm, fun a ha => ?_⟩
  obtain ⟨hA, hat⟩ := hR.2 a ha
  have hne : a ≠ 0 := by
    have h9 : G.2.2.1 ≤ a := hA
    omega
  refine ⟨hA, ?_⟩
  have e : z_f G K (kup N 0 H1.size) I L R a = z_f G K N I L R a := by rw [z_f, z_f, kup_ne hne]
  rw [e]
  exact hat.kept (h2 _ hat.lt)
/-- behind a call that may throw -/
theorem z_backX {X : ZX} {G : ZG} {own : String} {cc : ByteArray} {n mc ms mc1 ms1 : Nat} {ret : Option FieldType} {Qf : State → Prop} {QG : PostT} {XT : MK → MK → MI → ML → MR → Prop} {pc : Nat} {lv : List (Nat × Value)} {st0 rest : List Value} {H : Heap} {locs : List Loc} {ls : Array Slot} {a : Array Value} (hC : ZOk X G own cc n ret) (hS : va_S (z_A G) X.2.2.2.2.1.heap H locs) (hl : lv_has ls n lv)
    (hr : vx_Run X.1 X.2.1 X.2.2.1 X.2.2.2.1 X.2.2.2.2.1 X.2.2.2.2.2.1 X.2.2.2.2.2.2.1 X.2.2.2.2.2.2.2.1 X.2.2.2.2.2.2.2.2.1 X.2.2.2.2.2.2.2.2.2 H locs mc ms mc1 ms1 (F0 X.2.2.2.2.2.1 pc ls st0) rest (z_Qc G QG a) (zXC G XT) (z_A G))
    (k : ∀ v K N I L R, QG v K N I L R → Z X G n (mc + mc1) (ms + ms1) Qf K N I L R (pc + 3) lv (v.toList ++ rest))
    (kx : ∀ (K N : MK) (I : MI) (L : ML) (R : MR) (q : Nat) (ce : Cell) (H1 : Heap) (locs1 : List Loc), XT K N I L R → Rp G K N I L R H1 → va_S (z_A G) X.2.2.2.2.1.heap H1 locs1 → H1[q]? = some ce → ce.vm = .none → X.2.2.2.2.1.vm.findClass zNE = some ce.cls →
      vx_W X.1 X.2.1 X.2.2.1 X.2.2.2.1 X.2.2.2.2.1 X.2.2.2.2.2.1 X.2.2.2.2.2.2.1 X.2.2.2.2.2.2.2.1 X.2.2.2.2.2.2.2.2.1 X.2.2.2.2.2.2.2.2.2 H1 locs1 (mc + mc1) (ms + ms1) Qf (F0 X.2.2.2.2.2.1 pc ls rest) q) : z_W X H locs mc ms Qf pc ls st0 := by
  intro T hT S
  rcases hr T hT S with ⟨v, st₀, t, T', Lc, h0, X', hL, e1, e2, ⟨⟨w, K, N, I, L, R, hv, hq, hR⟩, hz, hk⟩, st⟩ | ⟨q, st₀, t, T', Lc, E, ce, h0, X', hL, e1, e2, ⟨rfl, ⟨K, N, I, L, R, hq, hR⟩, hz, hk⟩, hce, hcv, hcl, st⟩
  · cases hv
    rw [h0] at hz hk
    obtain ⟨t2, a1, b1⟩ := k v K N I L R hq T'.heap (locs ++ Lc) ls (by rw [e1]; exact hR) ⟨Nat.le_trans hS.1 (by rw [e1]; exact hz), fun q h1 h2 => by rw [e1, hk q (Nat.lt_of_lt_of_le h1 hS.1) h2]; exact hS.2.1 q h1 h2, fun q hq => by
        rcases List.mem_append.mp hq with h | h
        · exact hS.2.2 q h
        · exact hL q h⟩ hl T' rfl X'
    exact ⟨t2, st t2 a1, b1⟩
  · rw [h0] at hz hk
    obtain ⟨t2, a1, b1⟩ := kx K N I L R q ce T'.heap (locs ++ Lc) hq (by rw [e1]; exact hR) ⟨Nat.le_trans hS.1 (by rw [e1]; exact hz), fun q h1 h2 => by rw [e1, hk q (Nat.lt_of_lt_of_le h1 hS.1) h2]; exact hS.2.1 q h1 h2, fun q hq => by
        rcases List.mem_append.mp hq with h | h
        · exact hS.2.2 q h
        · exact hL q h⟩ (by rw [e1]; exact hce) hcv hcl T' rfl X'
    exact ⟨t2, st.trans a1, b1⟩
theorem z_callVC {X : ZX} {G : ZG} {own : String} {cc : ByteArray} {n mc ms : Nat} {ret : Option FieldType} {Qf : State → Prop} {K N : MK} {I : MI} {L : ML} {R : MR} {pc : Nat} {lv : List (Nat × Value)} {st : List Value} (hC : ZOk X G own cc n ret) (hZ : zxS G X.2.2.2.2.1) {y : MethodName} {b : ByteArray} {mL na idx a : Nat} {r : Option FieldType} {rm : Room} {QG : PostT} {XT : MK → MK → MI → ML → MR → Prop} {As rest : List Value} {mc1 ms1 : Nat} {c : Nat} {C : String} {T : u_T} {nn : Nat} {ty : Nat → FieldType} (hM : vx_Met X.2.1 y (.code y b mL r :: z_tbl) rm (z_PcX G (.ref a :: As) K N I L R) (z_Qc G QG) (zXC G XT) mc1 ms1 (z_A G)) (hg : GoodIn z_tbl (wsV own idx C y (.code y b mL r :: z_tbl))) (hc : z_cls c C T nn ty) (hK : K a = c + 1) (hrc : rm.cells = mc1 ∧ rm.slots = ms1) (hd : decode cc pc = .ok (.invokevirtual idx, 3))
    (hy : y.cls = C ∧ y.cls ≠ "java/lang/invoke/MethodHandle" ∧ y.cls ≠ "java/lang/invoke/VarHandle" ∧ (parseMethodDescriptor y.desc).map (fun d => d.parameters.length) = some na) (hna : As.length = na) (hrm : rm.frames + 1 ≤ X.2.2.2.1.frames ∧ 8 + (mL + 11) + rm.locals ≤ X.2.2.2.1.locals) (hf : mc + mc1 ≤ X.2.2.2.1.cells ∧ ms + ms1 ≤ X.2.2.2.1.slots)
    (hst : st = As.reverse ++ .ref a :: rest) (hw : (rest.map fun v => v.category).sum ≤ 8)
    {x : ExceptionTableEntry} (hx : X.2.2.2.2.2.2.2.2.2.exceptionTable.toList = [x]) (hcv : covers x pc = true) (hx0 : x.catchType ≠ 0) (hlk : Cond.classLink own x.catchType zNE ∈ z_tbl)
    (k : ∀ v K N I L R, QG v K N I L R → Z X G n (mc + mc1) (ms + ms1) Qf K N I L R (pc + 3) lv (v.toList ++ rest))
    (kx : ∀ q K N I L R, XT K N I L R → Z X G n (mc + mc1) (ms + ms1) Qf K N I L R x.handlerPc lv [.ref q]) : Z X G n mc ms Qf K N I L R pc lv st := by
  intro H locs ls hR hS hl
  obtain ⟨h1, h2, h3, h4, h5, h6, h7⟩ := hc
  have hP := z_one (z_rp hR hK).2
  rw [show z_f G K N I L R a = .inr (c, z_fs c (I a) (L a) (R a)) from z_E_obj hK h6] at hP
  have hp := z_preX (As := .ref a :: As) hZ hR hS
  refine z_backX hC hS hl (vx_runV (As := As) (rest := rest) ⟨hC.1, hC.2.1, hC.2.2.2.2.2.2.1, hC.2.2.2.2.1, hC.2.2.2.1⟩ hM (cwV na hC.2.2.2.1 hg rfl hrc.1 hrc.2 hy hrm) ⟨hp.1, va_recv (q0 := 0) hC.2.2.2.2.2.2.2.1 hP h1 rfl, hp.2⟩ rfl hna hl.1 hst (lv_room hw) hd hf) k ?_
  intro K1 N1 I1 L1 R1 q ce H1 locs1 hq hR1 hS1 hce hcv1 hcl
  exact vx_catch hC.2.2.2.2.1 [] x [] hx (fun z hz => nomatch hz) hcv hx0 (hC.2.2.2.1 _ hlk) (zx_bad (Vm.Alike.refl _) hZ.2.2.2 (.castable zNE zNE) List.mem_cons_self) hce hcv1 hcl (kx q K1 N1 I1 L1 R1 hq H1 locs1 ls hR1 hS1 hl)
theorem z_callSX {X : ZX} {G : ZG} {own : String} {cc : ByteArray} {n mc ms : Nat} {ret : Option FieldType} {Qf : State → Prop} {K N : MK} {I : MI} {L : ML} {R : MR} {pc : Nat} {lv : List (Nat × Value)} {st : List Value} (hC : ZOk X G own cc n ret) (hZ : zxS G X.2.2.2.2.1) {y : MethodName} {b : ByteArray} {mL na idx : Nat} {r : Option FieldType} {hh : List (Nat × Nat × Nat × Nat)} {rm : Room} {QG : PostT} {As rest : List Value} {mc1 ms1 : Nat} (hM : vx_Met X.2.1 y (.codeWith y b mL r hh :: z_tbl) rm (z_PcX G As K N I L R) (z_Qc G QG) (zXC G (fun _ _ _ _ _ => False)) mc1 ms1 (z_A G)) (hg : GoodIn z_tbl (va_wsS own idx y (.codeWith y b mL r hh :: z_tbl))) (hrc : rm.cells = mc1 ∧ rm.slots = ms1) (hd : decode cc pc = .ok (.invokestatic idx, 3))
    (hy : y.cls ≠ "java/lang/invoke/MethodHandle" ∧ y.cls ≠ "java/lang/invoke/VarHandle" ∧ (parseMethodDescriptor y.desc).map (fun d => d.parameters.length) = some na) (hna : As.length = na) (hrm : rm.frames + 1 ≤ X.2.2.2.1.frames ∧ 8 + (mL + 11) + rm.locals ≤ X.2.2.2.1.locals) (hf : mc + mc1 ≤ X.2.2.2.1.cells ∧ ms + ms1 ≤ X.2.2.2.1.slots)
    (hst : st = As.reverse ++ rest) (hw : (rest.map fun v => v.category).sum ≤ 8)
    (k : ∀ v K N I L R, QG v K N I L R → Z X G n (mc + mc1) (ms + ms1) Qf K N I L R (pc + 3) lv (v.toList ++ rest)) : Z X G n mc ms Qf K N I L R pc lv st := by
  intro H locs ls hR hS hl
  have hp := z_preX (As := As) hZ hR hS
  exact z_backX hC hS hl (vx_runSX (As := As) (rest := rest) ⟨hC.1, hC.2.1, hC.2.2.2.2.2.2.1, hC.2.2.2.2.1, hC.2.2.2.1⟩ hM (vx_cwSW na hC.2.2.2.1 hg rfl hrc.1 hrc.2 hy hrm) hp rfl hna hl.1 hst (lv_room hw) hd hf) k (fun K1 N1 I1 L1 R1 q ce H1 locs1 hq => False.elim hq)
