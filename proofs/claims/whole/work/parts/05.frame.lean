/-! ===== the judgement Z: W over a memory of total functions (kinds K, lengths N, numbers I, longs L, references R, by address and place) ===== -/
abbrev MK : Type := Nat → Nat
abbrev MI : Type := Nat → Nat → Int32
abbrev ML : Type := Nat → Nat → Int64
abbrev MR : Type := Nat → Nat → Option Nat
def kup (K : MK) (a v : Nat) : MK := fun x => if x = a then v else K x
def mup {α : Type} (M : Nat → Nat → α) (a k : Nat) (v : α) : Nat → Nat → α := fun x y => if x = a ∧ y = k then v else M x y
def mfr {α : Type} (M : Nat → Nat → α) (a : Nat) (v : α) : Nat → Nat → α := fun x y => if x = a then v else M x y
def mcp {α : Type} (M : Nat → Nat → α) (src sp dst dp n : Nat) : Nat → Nat → α := fun x y => if x = dst ∧ dp ≤ y ∧ y < dp + n then M src (sp + (y - dp)) else M x y
def ix (i : Int32) : Nat := i.toNatClampNeg
def bi (b : Bool) : Int32 := if b then 1 else 0
def z_fkT : List (List Nat) := [[2, 0], [0], [2, 0, 0], [2, 2, 2, 0, 0, 0], [2, 2, 2, 0, 0], [0, 2, 2, 2, 2, 0], [2, 0], [0, 2, 2, 0], [2, 0, 0, 0, 0, 0, 1, 0, 0, 0, 0, 0], [0, 2, 2, 2, 2, 2], [2, 0, 0], [2, 2, 2, 2, 2, 0, 2, 2, 2, 2, 2, 2, 2, 2, 2, 2, 2, 2, 2, 2], [0, 2, 0, 0, 0, 0, 0, 0, 0, 0, 0, 0, 1, 0, 2, 2, 2, 2, 2, 2, 2, 2, 2, 2, 0, 0, 2, 2, 0, 2, 0, 0, 2, 2, 2, 0, 0, 0, 2, 2, 2, 2, 0, 0, 0, 0, 2, 0, 0, 2, 2, 0, 0, 2, 0, 0, 0, 0]]
def z_fk (c k : Nat) : Nat := (z_fkT.getD c []).getD k 0
def z_fn (c : Nat) : Nat := (z_fkT.getD c []).length
def z_sl (t : Nat) (x : Int32) (y : Int64) (z : Option Nat) : Value := match t with
  | 0 => .int x
  | 1 => .long y
  | _ => va_rf z
def z_fs (c : Nat) (i : Nat → Int32) (j : Nat → Int64) (r : Nat → Option Nat) : List Value := (List.range (z_fn c)).map (fun q => z_sl (z_fk c q) (i q) (j q) (r q))
def z_E (cy : Nat → ClassId) (k n : Nat) (i : Nat → Int32) (j : Nat → Int64) (r : Nat → Option Nat) : va_E :=
  if k < 14 then .inr (k - 1, z_fs (k - 1) i j r)
  else if k = 14 then .inl (cy 0, n, .inl i)
  else if k = 15 then .inl (cy 1, n, .inr (.inl j))
  else if k = 16 then .inl (cy 2, n, .inl i)
  else .inl (cy (k - 14), n, .inr (.inr (.inr (.inr r))))
abbrev ZG : Type := va_G × (Nat → ClassId) × Nat × (Nat → Nat) × (Nat → Nat)
def z_A (G : ZG) : Nat → Prop := fun q => G.2.2.1 ≤ q
def z_tys (G : ZG) : List (ClassId × FieldType) := [(G.2.1 0, .int), (G.2.1 1, .long), (G.2.1 2, .boolean), (G.2.1 3, .object RX3), (G.2.1 4, .object RX5), (G.2.1 5, .object RX9)]
def z_f (G : ZG) (K N : MK) (I : MI) (L : ML) (R : MR) : Nat → va_E := fun a => z_E G.2.1 (K a) (N a) (I a) (L a) (R a)
def Rp (G : ZG) (K N : MK) (I : MI) (L : ML) (R : MR) (H : Heap) : Prop := H.size = N 0 ∧ ∀ a, K a ≠ 0 → z_A G a ∧ va_at G.1 vwCl (a, z_f G K N I L R a) H
def z_tx : List String := ["size row scope type var where plain signed in value reg plus minus times load dup swap set poke go stop clear step leave run or and not there local within bits places number ", " is ", " is out", " in ", "it is not there", "no such ones"]
def z_ln : List Nat := [174, 4, 7, 4, 15, 12]
def z_by : List (List Int32) := [[115, 105, 122, 101, 32, 114, 111, 119, 32, 115, 99, 111, 112, 101, 32, 116, 121, 112, 101, 32, 118, 97, 114, 32, 119, 104, 101, 114, 101, 32, 112, 108, 97, 105, 110, 32, 115, 105, 103, 110, 101, 100, 32, 105, 110, 32, 118, 97, 108, 117, 101, 32, 114, 101, 103, 32, 112, 108, 117, 115, 32, 109, 105, 110, 117, 115, 32, 116, 105, 109, 101, 115, 32, 108, 111, 97, 100, 32, 100, 117, 112, 32, 115, 119, 97, 112, 32, 115, 101, 116, 32, 112, 111, 107, 101, 32, 103, 111, 32, 115, 116, 111, 112, 32, 99, 108, 101, 97, 114, 32, 115, 116, 101, 112, 32, 108, 101, 97, 118, 101, 32, 114, 117, 110, 32, 111, 114, 32, 97, 110, 100, 32, 110, 111, 116, 32, 116, 104, 101, 114, 101, 32, 108, 111, 99, 97, 108, 32, 119, 105, 116, 104, 105, 110, 32, 98, 105, 116, 115, 32, 112, 108, 97, 99, 101, 115, 32, 110, 117, 109, 98, 101, 114, 32], [32, 105, 115, 32], [32, 105, 115, 32, 111, 117, 116], [32, 105, 110, 32], [105, 116, 32, 105, 115, 32, 110, 111, 116, 32, 116, 104, 101, 114, 101], [110, 111, 32, 115, 117, 99, 104, 32, 111, 110, 101, 115]]
def z_nest : List (String × Nat × MethodName × String) := [(RX11, 9, yX8_init, RX11), (RX11, 18, yX9_init, RX11), (RX11, 25, yX3_init, RX11), (RX11, 43, yX2_init, RX11), (RX11, 50, yX1_init, RX11), (RX11, 57, yX5_init, RX11), (RX11, 64, yX10_init, RX11), (RX10, 11, yX9_init, RX11), (RX11, 71, yX6_init, RX11), (RX6, 11, yX5_init, RX11), (RX11, 78, yX0_init, RX11), (RX11, 85, yX4_init, RX11)]
/-- what holds of the tables, the text constants and the statics wherever a method begins -/
def z_St (G : ZG) (U : State) : Prop := va_K G.1 vwCl (z_tys G) U ∧ (G.2.2.1 ≤ U.heap.size ∧ 0 < G.2.2.1) ∧ vk_S 6 z_ln z_by G.2.2.2.1 G.2.2.2.2 (z_A G) U U.heap ∧ va_Z RJ0 "COMPACT_STRINGS" "Z" (.int 1) (z_A G) U U.heap ∧ va_Zq RJ3 "SIOOBE_FORMATTER" "Ljava/util/function/BiFunction;" (z_A G) U U.heap ∧ vk_R RX8 76 "size row scope type var where plain signed in value reg plus minus times load dup swap set poke go stop clear step leave run or and not there local within bits places number " (G.2.2.2.1 0) U ∧ vk_R RX11 289 " is " (G.2.2.2.1 1) U ∧ vk_R RX11 297 " is out" (G.2.2.2.1 2) U ∧ vk_R RX11 299 " in " (G.2.2.2.1 3) U ∧ vk_R RX11 210 "it is not there" (G.2.2.2.1 4) U ∧ vk_R RX11 267 "no such ones" (G.2.2.2.1 5) U ∧ (∀ q ∈ z_nest, va_Nw (.methodLinkNest q.1 q.2.1 q.2.2.1 q.2.2.2) U) ∧ va_AO RX3 U ∧ va_AO RX5 U ∧ va_AO RX9 U
theorem z_St.next {G : ZG} {s U : State} {H : Heap} {locs : List Loc} (h : z_St G s) (hS : va_S (z_A G) s.heap H locs) (hW : s.WarmedH U.vm) (hU : U.heap = H) : z_St G U := by
  obtain ⟨h1, h2, h3, h4, h5, w0, w1, w2, w3, w4, w5, w6, w7, w8, w9⟩ := h
  have hk : ∀ a : Nat, a < s.heap.size → ¬ z_A G a → U.heap[a]? = s.heap[a]? := fun a g1 g2 => by rw [hU]; exact hS.2.1 a g1 g2
  exact ⟨va_K.moved hW.alike h1, ⟨by rw [hU]; exact Nat.le_trans h2.1 hS.1, h2.2⟩, (vk_S.moved hW.alike h3).kept hk, (va_Z.moved hW.alike h4).kept hk, (va_Zq.moved hW.alike h5).kept hk, w0.warm hW, w1.warm hW, w2.warm hW, w3.warm hW, w4.warm hW, w5.warm hW, fun q hq => (w6 q hq).warmM hW, va_AO.moved hW.alike w7, va_AO.moved hW.alike w8, va_AO.moved hW.alike w9⟩
def z_tbl : List Cond := lw_tbl.filter goodWord
theorem z_mem {w : Cond} (k : Nat) (h : lw_tbl[k]? = some w) (hg : goodWord w = true) : w ∈ z_tbl := List.mem_filter.mpr ⟨List.mem_of_getElem? h, hg⟩
theorem z_good : ∀ w ∈ z_tbl, (w.onTables && w.keeps) = true ∨ ∃ ty, w = .arrayClass ty := fun w hw => good_of_word (List.mem_filter.mp hw).2
abbrev ZX : Type := Program × Launch × Env × Room × State × MethodId × Array Value × List Frame × Method × Code
abbrev PostT : Type := Option Value → MK → MK → MI → ML → MR → Prop
def ZOk (X : ZX) (G : ZG) (own : String) (cc : ByteArray) (n : Nat) (ret : Option FieldType) : Prop :=
  X.1.tables.exec = Jvm.exec ∧ X.2.2.2.2.2.2.2.2.2.code = cc ∧ X.2.2.2.2.2.2.2.2.1.sig.returnType = ret ∧ (∀ w ∈ z_tbl, w.before X.2.2.2.2.2.2.1 X.2.2.2.2.1 = true) ∧ X.2.2.2.2.1.vm.findClass own = some X.2.2.2.2.2.1.cls ∧ X.2.2.2.2.2.2.2.2.1.locks = false ∧ X.2.2.2.2.2.2.2.2.2.maxLocals = n ∧ z_St G X.2.2.2.2.1
abbrev z_W (X : ZX) (H : Heap) (locs : List Loc) (mc ms : Nat) (Qf : State → Prop) (pc : Nat) (ls : Array Slot) (st : List Value) : Prop :=
  W X.1 X.2.1 X.2.2.1 X.2.2.2.1 X.2.2.2.2.1 X.2.2.2.2.2.1 X.2.2.2.2.2.2.1 X.2.2.2.2.2.2.2.1 X.2.2.2.2.2.2.2.2.1 X.2.2.2.2.2.2.2.2.2 H locs mc ms Qf (F0 X.2.2.2.2.2.1 pc ls st)
def Z (X : ZX) (G : ZG) (n mc ms : Nat) (Qf : State → Prop) (K N : MK) (I : MI) (L : ML) (R : MR) (pc : Nat) (lv : List (Nat × Value)) (st : List Value) : Prop :=
  ∀ (H : Heap) (locs : List Loc) (ls : Array Slot), Rp G K N I L R H → va_S (z_A G) X.2.2.2.2.1.heap H locs → lv_has ls n lv → z_W X H locs mc ms Qf pc ls st
def z_Pc (G : ZG) (As : List Value) (K N : MK) (I : MI) (L : ML) (R : MR) : Array Value → State → Prop := va_Pc As (fun U => Rp G K N I L R U.heap ∧ z_St G U)
def z_Qc (G : ZG) (QG : PostT) : Array Value → State → Outcome → State → Prop := fun _ st oc t => (∃ v K N I L R, oc = .returned v ∧ QG v K N I L R ∧ Rp G K N I L R t.heap) ∧ va_F (z_A G) st t
abbrev z_T (X : ZX) (G : ZG) (QG : PostT) (mc ms : Nat) : State → Prop := MQ X.2.2.2.2.2.2.2.1 (z_Qc G QG) X.2.2.2.2.2.2.1 X.2.2.2.2.1 mc ms (z_A G)
theorem z_met {l : Launch} {G : ZG} {y : MethodName} {cc : ByteArray} {maxL : Nat} {ret : Option FieldType} {rm : Room} {As : List Value} {K N : MK} {I : MI} {L : ML} {R : MR} {QG : PostT} {mc ms : Nat} (hy : plainName y.cls = true) (hln : (lg_sl As).length ≤ maxL)
    (h : ∀ X : ZX, X.2.1 = l → X.2.2.2.1 = rm → ZOk X G y.cls cc maxL ret → X.2.2.2.2.2.2.2.2.1.name = y.name → Z X G maxL 0 0 (z_T X G QG mc ms) K N I L R 0 (lv_args 0 As) []) :
    Met l y (.code y cc maxL ret :: z_tbl) rm (z_Pc G As K N I L R) (z_Qc G QG) mc ms (z_A G) := by
  refine Met.ofW (cc := cc) (maxL := maxL) (ret := ret) hy rfl ?_
  intro p e s m args below meth c s₁ B hml hv
  obtain ⟨rfl, hR, hSt⟩ := hv
  have hts := atoms_spec (ws := .code y cc maxL ret :: z_tbl) B.pre
  have hown : s.vm.findClass y.cls = some m.cls := findClass_of_methodNamed B.named
  have hl := lv_entry As (n := maxL) hln
  rw [lg_entry_eq]
  have hnm : meth.name = y.name := (name_of_methodNamed B.named B.method).1
  exact h (p, l, e, rm, s, m, As.toArray, below, meth, c) rfl rfl ⟨B.exec, B.bytes, B.returns, fun w hw => hts w (List.mem_cons_of_mem _ hw), hown, B.notSynchronized, hml, hSt⟩ hnm s.heap [] _ hR va_S.rf hl

theorem z_iconst {X : ZX} {G : ZG} {own : String} {cc : ByteArray} {n mc ms : Nat} {ret : Option FieldType} {Qf : State → Prop} {K N : MK} {I : MI} {L : ML} {R : MR} {pc : Nat} {lv : List (Nat × Value)} {st : List Value} (hC : ZOk X G own cc n ret) {j : Int} {v : Int32} (hv : Int32.ofInt j = v) (hd : decode cc pc = .ok (.iconst j, 1)) (k : Z X G n mc ms Qf K N I L R (pc + 1) lv (.int v :: st)) : Z X G n mc ms Qf K N I L R pc lv st := fun H locs ls hR hS hl => lv_iconst hC.1 hC.2.1 hd hv (k H locs ls hR hS hl)
theorem z_bipush {X : ZX} {G : ZG} {own : String} {cc : ByteArray} {n mc ms : Nat} {ret : Option FieldType} {Qf : State → Prop} {K N : MK} {I : MI} {L : ML} {R : MR} {pc : Nat} {lv : List (Nat × Value)} {st : List Value} (hC : ZOk X G own cc n ret) {j : Int} {v : Int32} (hv : (Int8.ofInt j).toInt32 = v) (hd : decode cc pc = .ok (.bipush j, 2)) (k : Z X G n mc ms Qf K N I L R (pc + 2) lv (.int v :: st)) : Z X G n mc ms Qf K N I L R pc lv st := fun H locs ls hR hS hl => lv_bipush hC.1 hC.2.1 hd hv (k H locs ls hR hS hl)
theorem z_sipush {X : ZX} {G : ZG} {own : String} {cc : ByteArray} {n mc ms : Nat} {ret : Option FieldType} {Qf : State → Prop} {K N : MK} {I : MI} {L : ML} {R : MR} {pc : Nat} {lv : List (Nat × Value)} {st : List Value} (hC : ZOk X G own cc n ret) {j : Int} {v : Int32} (hv : (Int16.ofInt j).toInt32 = v) (hd : decode cc pc = .ok (.sipush j, 3)) (k : Z X G n mc ms Qf K N I L R (pc + 3) lv (.int v :: st)) : Z X G n mc ms Qf K N I L R pc lv st := fun H locs ls hR hS hl => lv_sipush hC.1 hC.2.1 hd hv (k H locs ls hR hS hl)
theorem z_lconst {X : ZX} {G : ZG} {own : String} {cc : ByteArray} {n mc ms : Nat} {ret : Option FieldType} {Qf : State → Prop} {K N : MK} {I : MI} {L : ML} {R : MR} {pc : Nat} {lv : List (Nat × Value)} {st : List Value} (hC : ZOk X G own cc n ret) {j : Fin 2} {v : Int64} (hv : Int64.ofNat (j : Nat) = v) (hd : decode cc pc = .ok (.lconst j, 1)) (k : Z X G n mc ms Qf K N I L R (pc + 1) lv (.long v :: st)) : Z X G n mc ms Qf K N I L R pc lv st := fun H locs ls hR hS hl => lv_lconst hC.1 hC.2.1 hd hv (k H locs ls hR hS hl)
theorem z_ldc {X : ZX} {G : ZG} {own : String} {cc : ByteArray} {n mc ms : Nat} {ret : Option FieldType} {Qf : State → Prop} {K N : MK} {I : MI} {L : ML} {R : MR} {pc : Nat} {lv : List (Nat × Value)} {st : List Value} (hC : ZOk X G own cc n ret) {index : Nat} {v : Int32} (hm : Jvm.Cond.constant own index v ∈ z_tbl) (hd : decode cc pc = .ok (.ldc index, 2)) (k : Z X G n mc ms Qf K N I L R (pc + 2) lv (.int v :: st)) : Z X G n mc ms Qf K N I L R pc lv st := fun H locs ls hR hS hl => lv_ldc hC.1 hC.2.1 hC.2.2.2.2.1 (hC.2.2.2.1 _ hm) hd (k H locs ls hR hS hl)
theorem z_ldcw {X : ZX} {G : ZG} {own : String} {cc : ByteArray} {n mc ms : Nat} {ret : Option FieldType} {Qf : State → Prop} {K N : MK} {I : MI} {L : ML} {R : MR} {pc : Nat} {lv : List (Nat × Value)} {st : List Value} (hC : ZOk X G own cc n ret) {index : Nat} {v : Int32} (hm : Jvm.Cond.constant own index v ∈ z_tbl) (hd : decode cc pc = .ok (.ldc_w index, 3)) (k : Z X G n mc ms Qf K N I L R (pc + 3) lv (.int v :: st)) : Z X G n mc ms Qf K N I L R pc lv st := fun H locs ls hR hS hl => lv_ldcw hC.1 hC.2.1 hC.2.2.2.2.1 (hC.2.2.2.1 _ hm) hd (k H locs ls hR hS hl)
theorem z_ldc2 {X : ZX} {G : ZG} {own : String} {cc : ByteArray} {n mc ms : Nat} {ret : Option FieldType} {Qf : State → Prop} {K N : MK} {I : MI} {L : ML} {R : MR} {pc : Nat} {lv : List (Nat × Value)} {st : List Value} (hC : ZOk X G own cc n ret) {index : Nat} {v : Int64} (hm : Jvm.Cond.constantLong own index v ∈ z_tbl) (hd : decode cc pc = .ok (.ldc2_w index, 3)) (k : Z X G n mc ms Qf K N I L R (pc + 3) lv (.long v :: st)) : Z X G n mc ms Qf K N I L R pc lv st := fun H locs ls hR hS hl => lv_ldc2 hC.1 hC.2.1 hC.2.2.2.2.1 (hC.2.2.2.1 _ hm) hd (k H locs ls hR hS hl)
theorem z_iload_n {X : ZX} {G : ZG} {own : String} {cc : ByteArray} {n mc ms : Nat} {ret : Option FieldType} {Qf : State → Prop} {K N : MK} {I : MI} {L : ML} {R : MR} {pc : Nat} {lv : List (Nat × Value)} {st : List Value} (hC : ZOk X G own cc n ret) {q : Nat} {j : Fin 4} {i : Nat} {x : Int32} (hd : decode cc pc = .ok (.iload_n j, 1)) (hi : (j : Nat) = i) (hq : lv[q]? = some (i, .int x)) (k : Z X G n mc ms Qf K N I L R (pc + 1) lv (.int x :: st)) : Z X G n mc ms Qf K N I L R pc lv st := fun H locs ls hR hS hl => lv_iload_n hC.1 hC.2.1 hd hi (lv_at hl q hq) (k H locs ls hR hS hl)
theorem z_iload {X : ZX} {G : ZG} {own : String} {cc : ByteArray} {n mc ms : Nat} {ret : Option FieldType} {Qf : State → Prop} {K N : MK} {I : MI} {L : ML} {R : MR} {pc : Nat} {lv : List (Nat × Value)} {st : List Value} (hC : ZOk X G own cc n ret) {q : Nat} {i : Nat} {x : Int32} (hd : decode cc pc = .ok (.iload i, 2)) (hq : lv[q]? = some (i, .int x)) (k : Z X G n mc ms Qf K N I L R (pc + 2) lv (.int x :: st)) : Z X G n mc ms Qf K N I L R pc lv st := fun H locs ls hR hS hl => lv_iload hC.1 hC.2.1 hd (lv_at hl q hq) (k H locs ls hR hS hl)
theorem z_istore_n {X : ZX} {G : ZG} {own : String} {cc : ByteArray} {n mc ms : Nat} {ret : Option FieldType} {Qf : State → Prop} {K N : MK} {I : MI} {L : ML} {R : MR} {pc : Nat} {lv : List (Nat × Value)} {st : List Value} (hC : ZOk X G own cc n ret) {j : Fin 4} {i : Nat} {x : Int32} {lv1 : List (Nat × Value)} (hd : decode cc pc = .ok (.istore_n j, 1)) (hi : (j : Nat) = i) (hn : i < n) (he : (i, Value.int x) :: lv.filter (fun q => !(q.1 == i) && !(q.1 + 1 == i && q.2.category == 2)) = lv1) (k : Z X G n mc ms Qf K N I L R (pc + 1) lv1 st) : Z X G n mc ms Qf K N I L R pc lv (.int x :: st) := fun H locs ls hR hS hl => lv_istore_n hC.1 hC.2.1 hd hi hl hn he (fun ls hl => k H locs ls hR hS hl)
theorem z_istore {X : ZX} {G : ZG} {own : String} {cc : ByteArray} {n mc ms : Nat} {ret : Option FieldType} {Qf : State → Prop} {K N : MK} {I : MI} {L : ML} {R : MR} {pc : Nat} {lv : List (Nat × Value)} {st : List Value} (hC : ZOk X G own cc n ret) {i : Nat} {x : Int32} {lv1 : List (Nat × Value)} (hd : decode cc pc = .ok (.istore i, 2)) (hn : i < n) (he : (i, Value.int x) :: lv.filter (fun q => !(q.1 == i) && !(q.1 + 1 == i && q.2.category == 2)) = lv1) (k : Z X G n mc ms Qf K N I L R (pc + 2) lv1 st) : Z X G n mc ms Qf K N I L R pc lv (.int x :: st) := fun H locs ls hR hS hl => lv_istore hC.1 hC.2.1 hd hl hn he (fun ls hl => k H locs ls hR hS hl)
theorem z_lload_n {X : ZX} {G : ZG} {own : String} {cc : ByteArray} {n mc ms : Nat} {ret : Option FieldType} {Qf : State → Prop} {K N : MK} {I : MI} {L : ML} {R : MR} {pc : Nat} {lv : List (Nat × Value)} {st : List Value} (hC : ZOk X G own cc n ret) {q : Nat} {j : Fin 4} {i : Nat} {x : Int64} (hd : decode cc pc = .ok (.lload_n j, 1)) (hi : (j : Nat) = i) (hq : lv[q]? = some (i, .long x)) (k : Z X G n mc ms Qf K N I L R (pc + 1) lv (.long x :: st)) : Z X G n mc ms Qf K N I L R pc lv st := fun H locs ls hR hS hl => lv_lload_n hC.1 hC.2.1 hd hi (lv_at hl q hq) (k H locs ls hR hS hl)
theorem z_lload {X : ZX} {G : ZG} {own : String} {cc : ByteArray} {n mc ms : Nat} {ret : Option FieldType} {Qf : State → Prop} {K N : MK} {I : MI} {L : ML} {R : MR} {pc : Nat} {lv : List (Nat × Value)} {st : List Value} (hC : ZOk X G own cc n ret) {q : Nat} {i : Nat} {x : Int64} (hd : decode cc pc = .ok (.lload i, 2)) (hq : lv[q]? = some (i, .long x)) (k : Z X G n mc ms Qf K N I L R (pc + 2) lv (.long x :: st)) : Z X G n mc ms Qf K N I L R pc lv st := fun H locs ls hR hS hl => lv_lload hC.1 hC.2.1 hd (lv_at hl q hq) (k H locs ls hR hS hl)
theorem z_lstore_n {X : ZX} {G : ZG} {own : String} {cc : ByteArray} {n mc ms : Nat} {ret : Option FieldType} {Qf : State → Prop} {K N : MK} {I : MI} {L : ML} {R : MR} {pc : Nat} {lv : List (Nat × Value)} {st : List Value} (hC : ZOk X G own cc n ret) {j : Fin 4} {i : Nat} {x : Int64} {lv1 : List (Nat × Value)} (hd : decode cc pc = .ok (.lstore_n j, 1)) (hi : (j : Nat) = i) (hn : i + 1 < n) (he : (i, Value.long x) :: lv.filter (fun q => !(q.1 == i) && (!(q.1 == i + 1) && !(q.1 + 1 == i && q.2.category == 2))) = lv1) (k : Z X G n mc ms Qf K N I L R (pc + 1) lv1 st) : Z X G n mc ms Qf K N I L R pc lv (.long x :: st) := fun H locs ls hR hS hl => lv_lstore_n hC.1 hC.2.1 hd hi hl hn he (fun ls hl => k H locs ls hR hS hl)
theorem z_lstore {X : ZX} {G : ZG} {own : String} {cc : ByteArray} {n mc ms : Nat} {ret : Option FieldType} {Qf : State → Prop} {K N : MK} {I : MI} {L : ML} {R : MR} {pc : Nat} {lv : List (Nat × Value)} {st : List Value} (hC : ZOk X G own cc n ret) {i : Nat} {x : Int64} {lv1 : List (Nat × Value)} (hd : decode cc pc = .ok (.lstore i, 2)) (hn : i + 1 < n) (he : (i, Value.long x) :: lv.filter (fun q => !(q.1 == i) && (!(q.1 == i + 1) && !(q.1 + 1 == i && q.2.category == 2))) = lv1) (k : Z X G n mc ms Qf K N I L R (pc + 2) lv1 st) : Z X G n mc ms Qf K N I L R pc lv (.long x :: st) := fun H locs ls hR hS hl => lv_lstore hC.1 hC.2.1 hd hl hn he (fun ls hl => k H locs ls hR hS hl)
theorem z_aload_n {X : ZX} {G : ZG} {own : String} {cc : ByteArray} {n mc ms : Nat} {ret : Option FieldType} {Qf : State → Prop} {K N : MK} {I : MI} {L : ML} {R : MR} {pc : Nat} {lv : List (Nat × Value)} {st : List Value} (hC : ZOk X G own cc n ret) {q : Nat} {j : Fin 4} {i : Nat} {x : Nat} (hd : decode cc pc = .ok (.aload_n j, 1)) (hi : (j : Nat) = i) (hq : lv[q]? = some (i, .ref x)) (k : Z X G n mc ms Qf K N I L R (pc + 1) lv (.ref x :: st)) : Z X G n mc ms Qf K N I L R pc lv st := fun H locs ls hR hS hl => lv_aload_n hC.1 hC.2.1 hd hi (lv_at hl q hq) (k H locs ls hR hS hl)
theorem z_aload {X : ZX} {G : ZG} {own : String} {cc : ByteArray} {n mc ms : Nat} {ret : Option FieldType} {Qf : State → Prop} {K N : MK} {I : MI} {L : ML} {R : MR} {pc : Nat} {lv : List (Nat × Value)} {st : List Value} (hC : ZOk X G own cc n ret) {q : Nat} {i : Nat} {x : Nat} (hd : decode cc pc = .ok (.aload i, 2)) (hq : lv[q]? = some (i, .ref x)) (k : Z X G n mc ms Qf K N I L R (pc + 2) lv (.ref x :: st)) : Z X G n mc ms Qf K N I L R pc lv st := fun H locs ls hR hS hl => lv_aload hC.1 hC.2.1 hd (lv_at hl q hq) (k H locs ls hR hS hl)
theorem z_astore_n {X : ZX} {G : ZG} {own : String} {cc : ByteArray} {n mc ms : Nat} {ret : Option FieldType} {Qf : State → Prop} {K N : MK} {I : MI} {L : ML} {R : MR} {pc : Nat} {lv : List (Nat × Value)} {st : List Value} (hC : ZOk X G own cc n ret) {j : Fin 4} {i : Nat} {x : Nat} {lv1 : List (Nat × Value)} (hd : decode cc pc = .ok (.astore_n j, 1)) (hi : (j : Nat) = i) (hn : i < n) (he : (i, Value.ref x) :: lv.filter (fun q => !(q.1 == i) && !(q.1 + 1 == i && q.2.category == 2)) = lv1) (k : Z X G n mc ms Qf K N I L R (pc + 1) lv1 st) : Z X G n mc ms Qf K N I L R pc lv (.ref x :: st) := fun H locs ls hR hS hl => lv_astore_n hC.1 hC.2.1 hd hi hl hn he (fun ls hl => k H locs ls hR hS hl)
theorem z_astore {X : ZX} {G : ZG} {own : String} {cc : ByteArray} {n mc ms : Nat} {ret : Option FieldType} {Qf : State → Prop} {K N : MK} {I : MI} {L : ML} {R : MR} {pc : Nat} {lv : List (Nat × Value)} {st : List Value} (hC : ZOk X G own cc n ret) {i : Nat} {x : Nat} {lv1 : List (Nat × Value)} (hd : decode cc pc = .ok (.astore i, 2)) (hn : i < n) (he : (i, Value.ref x) :: lv.filter (fun q => !(q.1 == i) && !(q.1 + 1 == i && q.2.category == 2)) = lv1) (k : Z X G n mc ms Qf K N I L R (pc + 2) lv1 st) : Z X G n mc ms Qf K N I L R pc lv (.ref x :: st) := fun H locs ls hR hS hl => lv_astore hC.1 hC.2.1 hd hl hn he (fun ls hl => k H locs ls hR hS hl)
theorem z_iinc {X : ZX} {G : ZG} {own : String} {cc : ByteArray} {n mc ms : Nat} {ret : Option FieldType} {Qf : State → Prop} {K N : MK} {I : MI} {L : ML} {R : MR} {pc : Nat} {lv : List (Nat × Value)} {st : List Value} (hC : ZOk X G own cc n ret) {q i : Nat} {j : Int} {x v : Int32} {lv1 : List (Nat × Value)} (hd : decode cc pc = .ok (.iinc i j, 3)) (hq : lv[q]? = some (i, .int x)) (hv : x + Int32.ofInt j = v) (hn : i < n) (he : (i, Value.int v) :: lv.filter (fun q => !(q.1 == i) && !(q.1 + 1 == i && q.2.category == 2)) = lv1) (k : Z X G n mc ms Qf K N I L R (pc + 3) lv1 st) : Z X G n mc ms Qf K N I L R pc lv st := fun H locs ls hR hS hl => lv_iinc hC.1 hC.2.1 hd hl hq hv hn he (fun ls hl => k H locs ls hR hS hl)
theorem z_sub {X : ZX} {G : ZG} {n mc ms : Nat} {Qf : State → Prop} {K N : MK} {I : MI} {L : ML} {R : MR} {pc : Nat} {lv : List (Nat × Value)} {st : List Value} (lv1 : List (Nat × Value)) (ks : List Nat) (he : lv_pick lv ks = lv1) (k : Z X G n mc ms Qf K N I L R pc lv1 st) : Z X G n mc ms Qf K N I L R pc lv st := fun H locs ls hR hS hl => k H locs ls hR hS (lv_sub hl ks he)
theorem z_iadd {X : ZX} {G : ZG} {own : String} {cc : ByteArray} {n mc ms : Nat} {ret : Option FieldType} {Qf : State → Prop} {K N : MK} {I : MI} {L : ML} {R : MR} {pc : Nat} {lv : List (Nat × Value)} {st : List Value} (hC : ZOk X G own cc n ret) {x y : Int32} (hd : decode cc pc = .ok (.iadd, 1)) (k : Z X G n mc ms Qf K N I L R (pc + 1) lv (.int (x + y) :: st)) : Z X G n mc ms Qf K N I L R pc lv (.int y :: .int x :: st) := fun H locs ls hR hS hl => lv_iadd hC.1 hC.2.1 hd (k H locs ls hR hS hl)
theorem z_isub {X : ZX} {G : ZG} {own : String} {cc : ByteArray} {n mc ms : Nat} {ret : Option FieldType} {Qf : State → Prop} {K N : MK} {I : MI} {L : ML} {R : MR} {pc : Nat} {lv : List (Nat × Value)} {st : List Value} (hC : ZOk X G own cc n ret) {x y : Int32} (hd : decode cc pc = .ok (.isub, 1)) (k : Z X G n mc ms Qf K N I L R (pc + 1) lv (.int (x - y) :: st)) : Z X G n mc ms Qf K N I L R pc lv (.int y :: .int x :: st) := fun H locs ls hR hS hl => lv_isub hC.1 hC.2.1 hd (k H locs ls hR hS hl)
theorem z_imul {X : ZX} {G : ZG} {own : String} {cc : ByteArray} {n mc ms : Nat} {ret : Option FieldType} {Qf : State → Prop} {K N : MK} {I : MI} {L : ML} {R : MR} {pc : Nat} {lv : List (Nat × Value)} {st : List Value} (hC : ZOk X G own cc n ret) {x y : Int32} (hd : decode cc pc = .ok (.imul, 1)) (k : Z X G n mc ms Qf K N I L R (pc + 1) lv (.int (x * y) :: st)) : Z X G n mc ms Qf K N I L R pc lv (.int y :: .int x :: st) := fun H locs ls hR hS hl => lv_imul hC.1 hC.2.1 hd (k H locs ls hR hS hl)
theorem z_iand {X : ZX} {G : ZG} {own : String} {cc : ByteArray} {n mc ms : Nat} {ret : Option FieldType} {Qf : State → Prop} {K N : MK} {I : MI} {L : ML} {R : MR} {pc : Nat} {lv : List (Nat × Value)} {st : List Value} (hC : ZOk X G own cc n ret) {x y : Int32} (hd : decode cc pc = .ok (.iand, 1)) (k : Z X G n mc ms Qf K N I L R (pc + 1) lv (.int (x &&& y) :: st)) : Z X G n mc ms Qf K N I L R pc lv (.int y :: .int x :: st) := fun H locs ls hR hS hl => lv_iand hC.1 hC.2.1 hd (k H locs ls hR hS hl)
theorem z_ior {X : ZX} {G : ZG} {own : String} {cc : ByteArray} {n mc ms : Nat} {ret : Option FieldType} {Qf : State → Prop} {K N : MK} {I : MI} {L : ML} {R : MR} {pc : Nat} {lv : List (Nat × Value)} {st : List Value} (hC : ZOk X G own cc n ret) {x y : Int32} (hd : decode cc pc = .ok (.ior, 1)) (k : Z X G n mc ms Qf K N I L R (pc + 1) lv (.int (x ||| y) :: st)) : Z X G n mc ms Qf K N I L R pc lv (.int y :: .int x :: st) := fun H locs ls hR hS hl => lv_ior hC.1 hC.2.1 hd (k H locs ls hR hS hl)
theorem z_ishl {X : ZX} {G : ZG} {own : String} {cc : ByteArray} {n mc ms : Nat} {ret : Option FieldType} {Qf : State → Prop} {K N : MK} {I : MI} {L : ML} {R : MR} {pc : Nat} {lv : List (Nat × Value)} {st : List Value} (hC : ZOk X G own cc n ret) {x y : Int32} (hd : decode cc pc = .ok (.ishl, 1)) (k : Z X G n mc ms Qf K N I L R (pc + 1) lv (.int (x <<< (y &&& 31)) :: st)) : Z X G n mc ms Qf K N I L R pc lv (.int y :: .int x :: st) := fun H locs ls hR hS hl => lv_ishl hC.1 hC.2.1 hd (k H locs ls hR hS hl)
theorem z_ishr {X : ZX} {G : ZG} {own : String} {cc : ByteArray} {n mc ms : Nat} {ret : Option FieldType} {Qf : State → Prop} {K N : MK} {I : MI} {L : ML} {R : MR} {pc : Nat} {lv : List (Nat × Value)} {st : List Value} (hC : ZOk X G own cc n ret) {x y : Int32} (hd : decode cc pc = .ok (.ishr, 1)) (k : Z X G n mc ms Qf K N I L R (pc + 1) lv (.int (x >>> (y &&& 31)) :: st)) : Z X G n mc ms Qf K N I L R pc lv (.int y :: .int x :: st) := fun H locs ls hR hS hl => lv_ishr hC.1 hC.2.1 hd (k H locs ls hR hS hl)
theorem z_idiv {X : ZX} {G : ZG} {own : String} {cc : ByteArray} {n mc ms : Nat} {ret : Option FieldType} {Qf : State → Prop} {K N : MK} {I : MI} {L : ML} {R : MR} {pc : Nat} {lv : List (Nat × Value)} {st : List Value} (hC : ZOk X G own cc n ret) {x y : Int32} (hne : ¬ y = 0) (hd : decode cc pc = .ok (.idiv, 1)) (k : Z X G n mc ms Qf K N I L R (pc + 1) lv (.int (x / y) :: st)) : Z X G n mc ms Qf K N I L R pc lv (.int y :: .int x :: st) := fun H locs ls hR hS hl => lv_idiv hC.1 hC.2.1 hd hne (k H locs ls hR hS hl)
theorem z_irem {X : ZX} {G : ZG} {own : String} {cc : ByteArray} {n mc ms : Nat} {ret : Option FieldType} {Qf : State → Prop} {K N : MK} {I : MI} {L : ML} {R : MR} {pc : Nat} {lv : List (Nat × Value)} {st : List Value} (hC : ZOk X G own cc n ret) {x y : Int32} (hne : ¬ y = 0) (hd : decode cc pc = .ok (.irem, 1)) (k : Z X G n mc ms Qf K N I L R (pc + 1) lv (.int (x - x / y * y) :: st)) : Z X G n mc ms Qf K N I L R pc lv (.int y :: .int x :: st) := fun H locs ls hR hS hl => lv_irem hC.1 hC.2.1 hd hne (k H locs ls hR hS hl)
theorem z_ineg {X : ZX} {G : ZG} {own : String} {cc : ByteArray} {n mc ms : Nat} {ret : Option FieldType} {Qf : State → Prop} {K N : MK} {I : MI} {L : ML} {R : MR} {pc : Nat} {lv : List (Nat × Value)} {st : List Value} (hC : ZOk X G own cc n ret) {x : Int32} (hd : decode cc pc = .ok (.ineg, 1)) (k : Z X G n mc ms Qf K N I L R (pc + 1) lv (.int (-x) :: st)) : Z X G n mc ms Qf K N I L R pc lv (.int x :: st) := fun H locs ls hR hS hl => lv_ineg hC.1 hC.2.1 hd (k H locs ls hR hS hl)
def ushr (x y : Int32) : Int32 := (x.toUInt32 >>> (y.toUInt32 &&& Int32.toUInt32 31)).toInt32
def lushr (x : Int64) (y : Int32) : Int64 := (x.toUInt64 >>> (y.toInt64.toUInt64 &&& Int64.toUInt64 63)).toInt64
theorem z_iushr {X : ZX} {G : ZG} {own : String} {cc : ByteArray} {n mc ms : Nat} {ret : Option FieldType} {Qf : State → Prop} {K N : MK} {I : MI} {L : ML} {R : MR} {pc : Nat} {lv : List (Nat × Value)} {st : List Value} (hC : ZOk X G own cc n ret) {x y : Int32} (hd : decode cc pc = .ok (.iushr, 1)) (k : Z X G n mc ms Qf K N I L R (pc + 1) lv (.int (ushr x y) :: st)) : Z X G n mc ms Qf K N I L R pc lv (.int y :: .int x :: st) := fun H locs ls hR hS hl => lv_iushr hC.1 hC.2.1 hd rfl (k H locs ls hR hS hl)
theorem z_lushr {X : ZX} {G : ZG} {own : String} {cc : ByteArray} {n mc ms : Nat} {ret : Option FieldType} {Qf : State → Prop} {K N : MK} {I : MI} {L : ML} {R : MR} {pc : Nat} {lv : List (Nat × Value)} {st : List Value} (hC : ZOk X G own cc n ret) {x : Int64} {y : Int32} (hd : decode cc pc = .ok (.lushr, 1)) (k : Z X G n mc ms Qf K N I L R (pc + 1) lv (.long (lushr x y) :: st)) : Z X G n mc ms Qf K N I L R pc lv (.int y :: .long x :: st) := fun H locs ls hR hS hl => lv_lushr hC.1 hC.2.1 hd rfl (k H locs ls hR hS hl)
theorem z_i2l {X : ZX} {G : ZG} {own : String} {cc : ByteArray} {n mc ms : Nat} {ret : Option FieldType} {Qf : State → Prop} {K N : MK} {I : MI} {L : ML} {R : MR} {pc : Nat} {lv : List (Nat × Value)} {st : List Value} (hC : ZOk X G own cc n ret) {x : Int32} (hd : decode cc pc = .ok (.i2l, 1)) (k : Z X G n mc ms Qf K N I L R (pc + 1) lv (.long x.toInt64 :: st)) : Z X G n mc ms Qf K N I L R pc lv (.int x :: st) := fun H locs ls hR hS hl => lv_i2l hC.1 hC.2.1 hd rfl (k H locs ls hR hS hl)
theorem z_l2i {X : ZX} {G : ZG} {own : String} {cc : ByteArray} {n mc ms : Nat} {ret : Option FieldType} {Qf : State → Prop} {K N : MK} {I : MI} {L : ML} {R : MR} {pc : Nat} {lv : List (Nat × Value)} {st : List Value} (hC : ZOk X G own cc n ret) {x : Int64} (hd : decode cc pc = .ok (.l2i, 1)) (k : Z X G n mc ms Qf K N I L R (pc + 1) lv (.int x.toInt32 :: st)) : Z X G n mc ms Qf K N I L R pc lv (.long x :: st) := fun H locs ls hR hS hl => lv_l2i hC.1 hC.2.1 hd rfl (k H locs ls hR hS hl)
theorem z_ladd {X : ZX} {G : ZG} {own : String} {cc : ByteArray} {n mc ms : Nat} {ret : Option FieldType} {Qf : State → Prop} {K N : MK} {I : MI} {L : ML} {R : MR} {pc : Nat} {lv : List (Nat × Value)} {st : List Value} (hC : ZOk X G own cc n ret) {x y : Int64} (hd : decode cc pc = .ok (.ladd, 1)) (k : Z X G n mc ms Qf K N I L R (pc + 1) lv (.long (x + y) :: st)) : Z X G n mc ms Qf K N I L R pc lv (.long y :: .long x :: st) := fun H locs ls hR hS hl => lv_ladd hC.1 hC.2.1 hd (k H locs ls hR hS hl)
theorem z_lsub {X : ZX} {G : ZG} {own : String} {cc : ByteArray} {n mc ms : Nat} {ret : Option FieldType} {Qf : State → Prop} {K N : MK} {I : MI} {L : ML} {R : MR} {pc : Nat} {lv : List (Nat × Value)} {st : List Value} (hC : ZOk X G own cc n ret) {x y : Int64} (hd : decode cc pc = .ok (.lsub, 1)) (k : Z X G n mc ms Qf K N I L R (pc + 1) lv (.long (x - y) :: st)) : Z X G n mc ms Qf K N I L R pc lv (.long y :: .long x :: st) := fun H locs ls hR hS hl => lv_lsub hC.1 hC.2.1 hd (k H locs ls hR hS hl)
theorem z_lmul {X : ZX} {G : ZG} {own : String} {cc : ByteArray} {n mc ms : Nat} {ret : Option FieldType} {Qf : State → Prop} {K N : MK} {I : MI} {L : ML} {R : MR} {pc : Nat} {lv : List (Nat × Value)} {st : List Value} (hC : ZOk X G own cc n ret) {x y : Int64} (hd : decode cc pc = .ok (.lmul, 1)) (k : Z X G n mc ms Qf K N I L R (pc + 1) lv (.long (x * y) :: st)) : Z X G n mc ms Qf K N I L R pc lv (.long y :: .long x :: st) := fun H locs ls hR hS hl => lv_lmul hC.1 hC.2.1 hd (k H locs ls hR hS hl)
theorem z_ldiv {X : ZX} {G : ZG} {own : String} {cc : ByteArray} {n mc ms : Nat} {ret : Option FieldType} {Qf : State → Prop} {K N : MK} {I : MI} {L : ML} {R : MR} {pc : Nat} {lv : List (Nat × Value)} {st : List Value} (hC : ZOk X G own cc n ret) {x y : Int64} (hne : ¬ y = 0) (hd : decode cc pc = .ok (.ldiv, 1)) (k : Z X G n mc ms Qf K N I L R (pc + 1) lv (.long (x / y) :: st)) : Z X G n mc ms Qf K N I L R pc lv (.long y :: .long x :: st) := fun H locs ls hR hS hl => lv_ldiv hC.1 hC.2.1 hd hne (k H locs ls hR hS hl)
theorem z_lrem {X : ZX} {G : ZG} {own : String} {cc : ByteArray} {n mc ms : Nat} {ret : Option FieldType} {Qf : State → Prop} {K N : MK} {I : MI} {L : ML} {R : MR} {pc : Nat} {lv : List (Nat × Value)} {st : List Value} (hC : ZOk X G own cc n ret) {x y : Int64} (hne : ¬ y = 0) (hd : decode cc pc = .ok (.lrem, 1)) (k : Z X G n mc ms Qf K N I L R (pc + 1) lv (.long (x - x / y * y) :: st)) : Z X G n mc ms Qf K N I L R pc lv (.long y :: .long x :: st) := fun H locs ls hR hS hl => lv_lrem hC.1 hC.2.1 hd hne (k H locs ls hR hS hl)
theorem z_lcmp {X : ZX} {G : ZG} {own : String} {cc : ByteArray} {n mc ms : Nat} {ret : Option FieldType} {Qf : State → Prop} {K N : MK} {I : MI} {L : ML} {R : MR} {pc : Nat} {lv : List (Nat × Value)} {st : List Value} (hC : ZOk X G own cc n ret) {x y : Int64} (hd : decode cc pc = .ok (.lcmp, 1)) (k : Z X G n mc ms Qf K N I L R (pc + 1) lv (.int (lg_cmp x y) :: st)) : Z X G n mc ms Qf K N I L R pc lv (.long y :: .long x :: st) := fun H locs ls hR hS hl => W.lcmp hC.1 hC.2.1 hd (k H locs ls hR hS hl)
theorem z_dup {X : ZX} {G : ZG} {own : String} {cc : ByteArray} {n mc ms : Nat} {ret : Option FieldType} {Qf : State → Prop} {K N : MK} {I : MI} {L : ML} {R : MR} {pc : Nat} {lv : List (Nat × Value)} {st : List Value} (hC : ZOk X G own cc n ret) {v : Value} (hv : v.category = 1) (hd : decode cc pc = .ok (.dup, 1)) (k : Z X G n mc ms Qf K N I L R (pc + 1) lv (v :: v :: st)) : Z X G n mc ms Qf K N I L R pc lv (v :: st) := fun H locs ls hR hS hl => lv_dup hC.1 hC.2.1 hd hv (k H locs ls hR hS hl)
theorem z_pop {X : ZX} {G : ZG} {own : String} {cc : ByteArray} {n mc ms : Nat} {ret : Option FieldType} {Qf : State → Prop} {K N : MK} {I : MI} {L : ML} {R : MR} {pc : Nat} {lv : List (Nat × Value)} {st : List Value} (hC : ZOk X G own cc n ret) {v : Value} (hv : v.category = 1) (hd : decode cc pc = .ok (.pop, 1)) (k : Z X G n mc ms Qf K N I L R (pc + 1) lv st) : Z X G n mc ms Qf K N I L R pc lv (v :: st) := fun H locs ls hR hS hl => lv_pop hC.1 hC.2.1 hd hv (k H locs ls hR hS hl)
theorem z_dup_x1 {X : ZX} {G : ZG} {own : String} {cc : ByteArray} {n mc ms : Nat} {ret : Option FieldType} {Qf : State → Prop} {K N : MK} {I : MI} {L : ML} {R : MR} {pc : Nat} {lv : List (Nat × Value)} {st : List Value} (hC : ZOk X G own cc n ret) {v u : Value} (hv : v.category = 1) (hu : u.category = 1) (hd : decode cc pc = .ok (.dup_x1, 1)) (k : Z X G n mc ms Qf K N I L R (pc + 1) lv (v :: u :: v :: st)) : Z X G n mc ms Qf K N I L R pc lv (v :: u :: st) := fun H locs ls hR hS hl => lv_dup_x1 hC.1 hC.2.1 hd hv hu (k H locs ls hR hS hl)
theorem z_dup2 {X : ZX} {G : ZG} {own : String} {cc : ByteArray} {n mc ms : Nat} {ret : Option FieldType} {Qf : State → Prop} {K N : MK} {I : MI} {L : ML} {R : MR} {pc : Nat} {lv : List (Nat × Value)} {st : List Value} (hC : ZOk X G own cc n ret) {v u : Value} (hv : v.category = 1) (hu : u.category = 1) (hd : decode cc pc = .ok (.dup2, 1)) (k : Z X G n mc ms Qf K N I L R (pc + 1) lv (v :: u :: v :: u :: st)) : Z X G n mc ms Qf K N I L R pc lv (v :: u :: st) := fun H locs ls hR hS hl => lv_dup2_11 hC.1 hC.2.1 hd hv hu (k H locs ls hR hS hl)
theorem z_goto {X : ZX} {G : ZG} {own : String} {cc : ByteArray} {n mc ms : Nat} {ret : Option FieldType} {Qf : State → Prop} {K N : MK} {I : MI} {L : ML} {R : MR} {pc : Nat} {lv : List (Nat × Value)} {st : List Value} (hC : ZOk X G own cc n ret) {off : Int} {tgt : Nat} (hd : decode cc pc = .ok (.goto off, 3)) (ht : (pc : Int) + off = (tgt : Int)) (k : Z X G n mc ms Qf K N I L R tgt lv st) : Z X G n mc ms Qf K N I L R pc lv st := fun H locs ls hR hS hl => lv_goto hC.1 hC.2.1 hd ht (k H locs ls hR hS hl)
theorem z_if_eq {X : ZX} {G : ZG} {own : String} {cc : ByteArray} {n mc ms : Nat} {ret : Option FieldType} {Qf : State → Prop} {K N : MK} {I : MI} {L : ML} {R : MR} {pc : Nat} {lv : List (Nat × Value)} {st : List Value} (hC : ZOk X G own cc n ret) {x : Int32} {off : Int} {tgt : Nat} (hd : decode cc pc = .ok (.ifCond .eq off, 3)) (ht : (pc : Int) + off = (tgt : Int)) (kt : x = 0 → Z X G n mc ms Qf K N I L R tgt lv st) (kf : ¬ x = 0 → Z X G n mc ms Qf K N I L R (pc + 3) lv st) : Z X G n mc ms Qf K N I L R pc lv (.int x :: st) := fun H locs ls hR hS hl => lv_if_eq hC.1 hC.2.1 hd ht (fun h => kt h H locs ls hR hS hl) (fun h => kf h H locs ls hR hS hl)
theorem z_if_ne {X : ZX} {G : ZG} {own : String} {cc : ByteArray} {n mc ms : Nat} {ret : Option FieldType} {Qf : State → Prop} {K N : MK} {I : MI} {L : ML} {R : MR} {pc : Nat} {lv : List (Nat × Value)} {st : List Value} (hC : ZOk X G own cc n ret) {x : Int32} {off : Int} {tgt : Nat} (hd : decode cc pc = .ok (.ifCond .ne off, 3)) (ht : (pc : Int) + off = (tgt : Int)) (kt : ¬ x = 0 → Z X G n mc ms Qf K N I L R tgt lv st) (kf : x = 0 → Z X G n mc ms Qf K N I L R (pc + 3) lv st) : Z X G n mc ms Qf K N I L R pc lv (.int x :: st) := fun H locs ls hR hS hl => lv_if_ne hC.1 hC.2.1 hd ht (fun h => kt h H locs ls hR hS hl) (fun h => kf h H locs ls hR hS hl)
theorem z_if_lt {X : ZX} {G : ZG} {own : String} {cc : ByteArray} {n mc ms : Nat} {ret : Option FieldType} {Qf : State → Prop} {K N : MK} {I : MI} {L : ML} {R : MR} {pc : Nat} {lv : List (Nat × Value)} {st : List Value} (hC : ZOk X G own cc n ret) {x : Int32} {off : Int} {tgt : Nat} (hd : decode cc pc = .ok (.ifCond .lt off, 3)) (ht : (pc : Int) + off = (tgt : Int)) (kt : x < 0 → Z X G n mc ms Qf K N I L R tgt lv st) (kf : ¬ x < 0 → Z X G n mc ms Qf K N I L R (pc + 3) lv st) : Z X G n mc ms Qf K N I L R pc lv (.int x :: st) := fun H locs ls hR hS hl => lv_if_lt hC.1 hC.2.1 hd ht (fun h => kt h H locs ls hR hS hl) (fun h => kf h H locs ls hR hS hl)
theorem z_if_ge {X : ZX} {G : ZG} {own : String} {cc : ByteArray} {n mc ms : Nat} {ret : Option FieldType} {Qf : State → Prop} {K N : MK} {I : MI} {L : ML} {R : MR} {pc : Nat} {lv : List (Nat × Value)} {st : List Value} (hC : ZOk X G own cc n ret) {x : Int32} {off : Int} {tgt : Nat} (hd : decode cc pc = .ok (.ifCond .ge off, 3)) (ht : (pc : Int) + off = (tgt : Int)) (kt : 0 ≤ x → Z X G n mc ms Qf K N I L R tgt lv st) (kf : ¬ 0 ≤ x → Z X G n mc ms Qf K N I L R (pc + 3) lv st) : Z X G n mc ms Qf K N I L R pc lv (.int x :: st) := fun H locs ls hR hS hl => lv_if_ge hC.1 hC.2.1 hd ht (fun h => kt h H locs ls hR hS hl) (fun h => kf h H locs ls hR hS hl)
theorem z_if_gt {X : ZX} {G : ZG} {own : String} {cc : ByteArray} {n mc ms : Nat} {ret : Option FieldType} {Qf : State → Prop} {K N : MK} {I : MI} {L : ML} {R : MR} {pc : Nat} {lv : List (Nat × Value)} {st : List Value} (hC : ZOk X G own cc n ret) {x : Int32} {off : Int} {tgt : Nat} (hd : decode cc pc = .ok (.ifCond .gt off, 3)) (ht : (pc : Int) + off = (tgt : Int)) (kt : 0 < x → Z X G n mc ms Qf K N I L R tgt lv st) (kf : ¬ 0 < x → Z X G n mc ms Qf K N I L R (pc + 3) lv st) : Z X G n mc ms Qf K N I L R pc lv (.int x :: st) := fun H locs ls hR hS hl => lv_if_gt hC.1 hC.2.1 hd ht (fun h => kt h H locs ls hR hS hl) (fun h => kf h H locs ls hR hS hl)
theorem z_if_le {X : ZX} {G : ZG} {own : String} {cc : ByteArray} {n mc ms : Nat} {ret : Option FieldType} {Qf : State → Prop} {K N : MK} {I : MI} {L : ML} {R : MR} {pc : Nat} {lv : List (Nat × Value)} {st : List Value} (hC : ZOk X G own cc n ret) {x : Int32} {off : Int} {tgt : Nat} (hd : decode cc pc = .ok (.ifCond .le off, 3)) (ht : (pc : Int) + off = (tgt : Int)) (kt : x ≤ 0 → Z X G n mc ms Qf K N I L R tgt lv st) (kf : ¬ x ≤ 0 → Z X G n mc ms Qf K N I L R (pc + 3) lv st) : Z X G n mc ms Qf K N I L R pc lv (.int x :: st) := fun H locs ls hR hS hl => lv_if_le hC.1 hC.2.1 hd ht (fun h => kt h H locs ls hR hS hl) (fun h => kf h H locs ls hR hS hl)
theorem z_icmp_eq {X : ZX} {G : ZG} {own : String} {cc : ByteArray} {n mc ms : Nat} {ret : Option FieldType} {Qf : State → Prop} {K N : MK} {I : MI} {L : ML} {R : MR} {pc : Nat} {lv : List (Nat × Value)} {st : List Value} (hC : ZOk X G own cc n ret) {x y : Int32} {off : Int} {tgt : Nat} (hd : decode cc pc = .ok (.if_icmp .eq off, 3)) (ht : (pc : Int) + off = (tgt : Int)) (kt : x = y → Z X G n mc ms Qf K N I L R tgt lv st) (kf : ¬ x = y → Z X G n mc ms Qf K N I L R (pc + 3) lv st) : Z X G n mc ms Qf K N I L R pc lv (.int y :: .int x :: st) := fun H locs ls hR hS hl => lv_icmp_eq hC.1 hC.2.1 hd ht (fun h => kt h H locs ls hR hS hl) (fun h => kf h H locs ls hR hS hl)
theorem z_icmp_ne {X : ZX} {G : ZG} {own : String} {cc : ByteArray} {n mc ms : Nat} {ret : Option FieldType} {Qf : State → Prop} {K N : MK} {I : MI} {L : ML} {R : MR} {pc : Nat} {lv : List (Nat × Value)} {st : List Value} (hC : ZOk X G own cc n ret) {x y : Int32} {off : Int} {tgt : Nat} (hd : decode cc pc = .ok (.if_icmp .ne off, 3)) (ht : (pc : Int) + off = (tgt : Int)) (kt : ¬ x = y → Z X G n mc ms Qf K N I L R tgt lv st) (kf : x = y → Z X G n mc ms Qf K N I L R (pc + 3) lv st) : Z X G n mc ms Qf K N I L R pc lv (.int y :: .int x :: st) := fun H locs ls hR hS hl => lv_icmp_ne hC.1 hC.2.1 hd ht (fun h => kt h H locs ls hR hS hl) (fun h => kf h H locs ls hR hS hl)
theorem z_icmp_lt {X : ZX} {G : ZG} {own : String} {cc : ByteArray} {n mc ms : Nat} {ret : Option FieldType} {Qf : State → Prop} {K N : MK} {I : MI} {L : ML} {R : MR} {pc : Nat} {lv : List (Nat × Value)} {st : List Value} (hC : ZOk X G own cc n ret) {x y : Int32} {off : Int} {tgt : Nat} (hd : decode cc pc = .ok (.if_icmp .lt off, 3)) (ht : (pc : Int) + off = (tgt : Int)) (kt : x < y → Z X G n mc ms Qf K N I L R tgt lv st) (kf : ¬ x < y → Z X G n mc ms Qf K N I L R (pc + 3) lv st) : Z X G n mc ms Qf K N I L R pc lv (.int y :: .int x :: st) := fun H locs ls hR hS hl => lv_icmp_lt hC.1 hC.2.1 hd ht (fun h => kt h H locs ls hR hS hl) (fun h => kf h H locs ls hR hS hl)
theorem z_icmp_ge {X : ZX} {G : ZG} {own : String} {cc : ByteArray} {n mc ms : Nat} {ret : Option FieldType} {Qf : State → Prop} {K N : MK} {I : MI} {L : ML} {R : MR} {pc : Nat} {lv : List (Nat × Value)} {st : List Value} (hC : ZOk X G own cc n ret) {x y : Int32} {off : Int} {tgt : Nat} (hd : decode cc pc = .ok (.if_icmp .ge off, 3)) (ht : (pc : Int) + off = (tgt : Int)) (kt : y ≤ x → Z X G n mc ms Qf K N I L R tgt lv st) (kf : ¬ y ≤ x → Z X G n mc ms Qf K N I L R (pc + 3) lv st) : Z X G n mc ms Qf K N I L R pc lv (.int y :: .int x :: st) := fun H locs ls hR hS hl => lv_icmp_ge hC.1 hC.2.1 hd ht (fun h => kt h H locs ls hR hS hl) (fun h => kf h H locs ls hR hS hl)
theorem z_icmp_gt {X : ZX} {G : ZG} {own : String} {cc : ByteArray} {n mc ms : Nat} {ret : Option FieldType} {Qf : State → Prop} {K N : MK} {I : MI} {L : ML} {R : MR} {pc : Nat} {lv : List (Nat × Value)} {st : List Value} (hC : ZOk X G own cc n ret) {x y : Int32} {off : Int} {tgt : Nat} (hd : decode cc pc = .ok (.if_icmp .gt off, 3)) (ht : (pc : Int) + off = (tgt : Int)) (kt : y < x → Z X G n mc ms Qf K N I L R tgt lv st) (kf : ¬ y < x → Z X G n mc ms Qf K N I L R (pc + 3) lv st) : Z X G n mc ms Qf K N I L R pc lv (.int y :: .int x :: st) := fun H locs ls hR hS hl => lv_icmp_gt hC.1 hC.2.1 hd ht (fun h => kt h H locs ls hR hS hl) (fun h => kf h H locs ls hR hS hl)
theorem z_icmp_le {X : ZX} {G : ZG} {own : String} {cc : ByteArray} {n mc ms : Nat} {ret : Option FieldType} {Qf : State → Prop} {K N : MK} {I : MI} {L : ML} {R : MR} {pc : Nat} {lv : List (Nat × Value)} {st : List Value} (hC : ZOk X G own cc n ret) {x y : Int32} {off : Int} {tgt : Nat} (hd : decode cc pc = .ok (.if_icmp .le off, 3)) (ht : (pc : Int) + off = (tgt : Int)) (kt : x ≤ y → Z X G n mc ms Qf K N I L R tgt lv st) (kf : ¬ x ≤ y → Z X G n mc ms Qf K N I L R (pc + 3) lv st) : Z X G n mc ms Qf K N I L R pc lv (.int y :: .int x :: st) := fun H locs ls hR hS hl => lv_icmp_le hC.1 hC.2.1 hd ht (fun h => kt h H locs ls hR hS hl) (fun h => kf h H locs ls hR hS hl)
theorem bi_eq0 {b : Bool} : bi b = 0 ↔ b = false := by cases b <;> decide
theorem z_ifz_eq {X : ZX} {G : ZG} {own : String} {cc : ByteArray} {n mc ms : Nat} {ret : Option FieldType} {Qf : State → Prop} {K N : MK} {I : MI} {L : ML} {R : MR} {pc : Nat} {lv : List (Nat × Value)} {st : List Value} (hC : ZOk X G own cc n ret) {x : Bool} {off : Int} {tgt : Nat} (hd : decode cc pc = .ok (.ifCond .eq off, 3)) (ht : (pc : Int) + off = (tgt : Int)) (kt : x = false → Z X G n mc ms Qf K N I L R tgt lv st) (kf : x = true → Z X G n mc ms Qf K N I L R (pc + 3) lv st) : Z X G n mc ms Qf K N I L R pc lv (.int (bi x) :: st) := z_if_eq hC hd ht (fun h => kt (bi_eq0.mp h)) (fun h => kf (by cases x; exact absurd (by decide) h; rfl))
theorem z_ifz_ne {X : ZX} {G : ZG} {own : String} {cc : ByteArray} {n mc ms : Nat} {ret : Option FieldType} {Qf : State → Prop} {K N : MK} {I : MI} {L : ML} {R : MR} {pc : Nat} {lv : List (Nat × Value)} {st : List Value} (hC : ZOk X G own cc n ret) {x : Bool} {off : Int} {tgt : Nat} (hd : decode cc pc = .ok (.ifCond .ne off, 3)) (ht : (pc : Int) + off = (tgt : Int)) (kt : x = true → Z X G n mc ms Qf K N I L R tgt lv st) (kf : x = false → Z X G n mc ms Qf K N I L R (pc + 3) lv st) : Z X G n mc ms Qf K N I L R pc lv (.int (bi x) :: st) := z_if_ne hC hd ht (fun h => kt (by cases x; exact absurd (by decide) h; rfl)) (fun h => kf (bi_eq0.mp h))
theorem z_tableIn {X : ZX} {G : ZG} {own : String} {cc : ByteArray} {n mc ms : Nat} {ret : Option FieldType} {Qf : State → Prop} {K N : MK} {I : MI} {L : ML} {R : MR} {pc : Nat} {lv : List (Nat × Value)} {st : List Value} (hC : ZOk X G own cc n ret) {dflt lo hi : Int} {offs : Array Int} {len : Nat} {x : Int32} {off : Int} {tgt : Nat} (v : Int32) (hx : x = v) (hd : decode cc pc = .ok (.tableswitch dflt lo hi offs, len)) (hv : ¬ v.toInt < lo ∧ ¬ hi < v.toInt ∧ offs[(v.toInt - lo).toNat]? = some off) (ht : (pc : Int) + off = (tgt : Int)) (k : Z X G n mc ms Qf K N I L R tgt lv st) : Z X G n mc ms Qf K N I L R pc lv (.int x :: st) := fun H locs ls hR hS hl => by subst hx; exact lv_tableIn hC.1 hC.2.1 hd hv.1 hv.2.1 hv.2.2 ht (k H locs ls hR hS hl)
theorem z_tableOut {X : ZX} {G : ZG} {own : String} {cc : ByteArray} {n mc ms : Nat} {ret : Option FieldType} {Qf : State → Prop} {K N : MK} {I : MI} {L : ML} {R : MR} {pc : Nat} {lv : List (Nat × Value)} {st : List Value} (hC : ZOk X G own cc n ret) {dflt lo hi : Int} {offs : Array Int} {len : Nat} {x : Int32} {tgt : Nat} (hd : decode cc pc = .ok (.tableswitch dflt lo hi offs, len)) (h : x.toInt < lo ∨ hi < x.toInt) (ht : (pc : Int) + dflt = (tgt : Int)) (k : Z X G n mc ms Qf K N I L R tgt lv st) : Z X G n mc ms Qf K N I L R pc lv (.int x :: st) := fun H locs ls hR hS hl => lv_tableOut hC.1 hC.2.1 hd h ht (k H locs ls hR hS hl)
theorem z_lookup {X : ZX} {G : ZG} {own : String} {cc : ByteArray} {n mc ms : Nat} {ret : Option FieldType} {Qf : State → Prop} {K N : MK} {I : MI} {L : ML} {R : MR} {pc : Nat} {lv : List (Nat × Value)} {st : List Value} (hC : ZOk X G own cc n ret) {dflt : Int} {ps : Array (Int × Int)} {len : Nat} {x : Int32} {off : Int} {tgt : Nat} (hd : decode cc pc = .ok (.lookupswitch dflt ps, len)) (hp : (ps.toList.zip (ps.toList.drop 1)).all (fun (a, next) => a.1 < next.1) = true) (ho : Op.lookupswitch.offset ps.toList dflt x.toInt = off) (ht : (pc : Int) + off = (tgt : Int)) (k : Z X G n mc ms Qf K N I L R tgt lv st) : Z X G n mc ms Qf K N I L R pc lv (.int x :: st) := fun H locs ls hR hS hl => lv_lookup hC.1 hC.2.1 hd hp ho ht (k H locs ls hR hS hl)
theorem z_iret {X : ZX} {G : ZG} {own : String} {cc : ByteArray} {n mc ms : Nat} {QG : PostT} {K N : MK} {I : MI} {L : ML} {R : MR} {pc : Nat} {lv : List (Nat × Value)} {x : Int32} (hC : ZOk X G own cc n (some .int)) (hd : decode cc pc = .ok (.ireturn, 1)) (h : QG (some (.int x)) K N I L R) : Z X G n mc ms (z_T X G QG mc ms) K N I L R pc lv [.int x] := fun H locs ls hR hS hl => W.iret hC.1 hC.2.1 hC.2.2.1 (fun t ht hW => ⟨⟨_, K, N, I, L, R, rfl, h, by rw [ht]; exact hR⟩, hS.F ht⟩) (fun q hq => hS.2.2 q hq) hd hC.2.2.2.2.2.1
theorem z_lret {X : ZX} {G : ZG} {own : String} {cc : ByteArray} {n mc ms : Nat} {QG : PostT} {K N : MK} {I : MI} {L : ML} {R : MR} {pc : Nat} {lv : List (Nat × Value)} {x : Int64} (hC : ZOk X G own cc n (some .long)) (hd : decode cc pc = .ok (.lreturn, 1)) (h : QG (some (.long x)) K N I L R) : Z X G n mc ms (z_T X G QG mc ms) K N I L R pc lv [.long x] := fun H locs ls hR hS hl => W.lret hC.1 hC.2.1 hC.2.2.1 (fun t ht hW => ⟨⟨_, K, N, I, L, R, rfl, h, by rw [ht]; exact hR⟩, hS.F ht⟩) (fun q hq => hS.2.2 q hq) hd hC.2.2.2.2.2.1
theorem bi_nar (b : Bool) : narrow .boolean (.int (bi b)) = .int (bi b) := by cases b <;> rfl
theorem z_zret {X : ZX} {G : ZG} {own : String} {cc : ByteArray} {n mc ms : Nat} {QG : PostT} {K N : MK} {I : MI} {L : ML} {R : MR} {pc : Nat} {lv : List (Nat × Value)} {x : Int32} {b : Bool} (hC : ZOk X G own cc n (some .boolean)) (hd : decode cc pc = .ok (.ireturn, 1)) (hx : x = bi b) (h : QG (some (.int (bi b))) K N I L R) : Z X G n mc ms (z_T X G QG mc ms) K N I L R pc lv [.int x] := fun H locs ls hR hS hl => by subst hx; exact W.zret hC.1 hC.2.1 hC.2.2.1 (bi_nar b) (fun t ht hW => ⟨⟨_, K, N, I, L, R, rfl, h, by rw [ht]; exact hR⟩, hS.F ht⟩) (fun q hq => hS.2.2 q hq) hd hC.2.2.2.2.2.1
theorem z_vret {X : ZX} {G : ZG} {own : String} {cc : ByteArray} {n mc ms : Nat} {QG : PostT} {K N : MK} {I : MI} {L : ML} {R : MR} {pc : Nat} {lv : List (Nat × Value)} (hC : ZOk X G own cc n none) (hd : decode cc pc = .ok (.return_, 1)) (h : QG none K N I L R) : Z X G n mc ms (z_T X G QG mc ms) K N I L R pc lv [] := fun H locs ls hR hS hl => W.vret hC.1 hC.2.1 hC.2.2.1 (fun t ht hW => ⟨⟨_, K, N, I, L, R, rfl, h, by rw [ht]; exact hR⟩, hS.F ht⟩) (fun q hq => hS.2.2 q hq) hd hC.2.2.2.2.2.1
theorem z_widen {X : ZX} {G : ZG} {n mc ms mc1 ms1 : Nat} {Qf : State → Prop} {K N : MK} {I : MI} {L : ML} {R : MR} {pc : Nat} {lv : List (Nat × Value)} {st : List Value} (h1 : mc ≤ mc1) (h2 : ms ≤ ms1) (k : Z X G n mc1 ms1 Qf K N I L R pc lv st) : Z X G n mc ms Qf K N I L R pc lv st := fun H locs ls hR hS hl => W.widen h1 h2 (k H locs ls hR hS hl)
/-! fields -/
def z_cls (c : Nat) (C : String) (T : u_T) (nn : Nat) (ty : Nat → FieldType) : Prop := vwCl[c]? = some (C, T, nn) ∧ (∀ w ∈ u_ws C T nn, w ∈ z_tbl) ∧ (∀ k, k < nn → parseFieldDescriptor (T k).2.2.1 = some (ty k)) ∧ (∀ a, a < nn → ∀ b, b < nn → a ≠ b → (T a).2.1 ≠ (T b).2.1) ∧ z_fn c = nn ∧ c < 13 ∧ (∀ k, k < nn → (T k).1 = C)
theorem z_fs_get {c k : Nat} {i : Nat → Int32} {j : Nat → Int64} {r : Nat → Option Nat} (hk : k < z_fn c) : (z_fs c i j r)[k]? = some (z_sl (z_fk c k) (i k) (j k) (r k)) := by
  simp [z_fs, hk]
theorem z_fs_len {c : Nat} {i : Nat → Int32} {j : Nat → Int64} {r : Nat → Option Nat} : (z_fs c i j r).length = z_fn c := by simp [z_fs]
theorem z_fs_set {c k : Nat} {v : Value} {i i1 : Nat → Int32} {j j1 : Nat → Int64} {r r1 : Nat → Option Nat} (h : ∀ q, q < z_fn c → z_sl (z_fk c q) (i1 q) (j1 q) (r1 q) = if q = k then v else z_sl (z_fk c q) (i q) (j q) (r q)) : (z_fs c i j r).set k v = z_fs c i1 j1 r1 := by
  apply List.ext_getElem?
  intro q
  by_cases hq : q < z_fn c
  · rw [z_fs_get hq, h q hq]
    by_cases e : q = k
    · subst e
      rw [if_pos rfl, List.getElem?_set_self (by rw [z_fs_len]; exact hq)]
    · rw [if_neg e, List.getElem?_set_ne (fun z => e z.symm), z_fs_get hq]
  · rw [List.getElem?_eq_none (by rw [List.length_set, z_fs_len]; omega), List.getElem?_eq_none (by rw [z_fs_len]; omega)]
theorem z_E_obj {cy : Nat → ClassId} {k c n : Nat} {i : Nat → Int32} {j : Nat → Int64} {r : Nat → Option Nat} (h : k = c + 1) (hc : c < 13) : z_E cy k n i j r = .inr (c, z_fs c i j r) := by
  subst h
  rw [z_E, if_pos (by omega), Nat.add_sub_cancel]
theorem z_one {D : va_G} {cl : List vw_C} {a : Nat} {e : va_E} {H : Heap} (h : va_at D cl (a, e) H) : va_P D cl [(a, e)] H := by
  intro k q hk
  have hz : k < 1 := (List.getElem?_eq_some_iff.mp hk).1
  rw [show k = 0 by omega] at hk
  cases hk
  exact h
theorem z_rp {G : ZG} {K N : MK} {I : MI} {L : ML} {R : MR} {H : Heap} {a k : Nat} (h : Rp G K N I L R H) (hK : K a = k + 1) : z_A G a ∧ va_at G.1 vwCl (a, z_f G K N I L R a) H := h.2 a (by rw [hK]; exact Nat.succ_ne_zero k)
/-- one cell is another one, all others are as they were -/
theorem z_wr {G : ZG} {K N : MK} {I I1 : MI} {L L1 : ML} {R R1 : MR} {H H1 : Heap} {a : Nat} {e : va_E} (hR : Rp G K N I L R H) (hsz : H1.size = H.size) (hoth : ∀ q, q ≠ a → H1[q]? = H[q]?) (ha : z_f G K N I1 L1 R1 a = e) (hat : va_at G.1 vwCl (a, e) H1) (hne : ∀ b, b ≠ a → I1 b = I b ∧ L1 b = L b ∧ R1 b = R b) : Rp G K N I1 L1 R1 H1 := by
  refine ⟨hsz.trans hR.1, fun b hb => ⟨(hR.2 b hb).1, ?_⟩⟩
  by_cases h : b = a
  · subst h; rw [ha]; exact hat
  · obtain ⟨h1, h2, h3⟩ := hne b h
    have e1 : z_f G K N I1 L1 R1 b = z_f G K N I L R b := by rw [z_f, z_f, h1, h2, h3]
    rw [e1]
    exact (hR.2 b hb).2.kept (hoth b h)
theorem mup_ne {α : Type} {M : Nat → Nat → α} {a b k : Nat} {v : α} (h : b ≠ a) : mup M a k v b = M b := by funext y; simp [mup, h]
theorem mup_at {α : Type} {M : Nat → Nat → α} {a k : Nat} {v : α} : mup M a k v a k = v := by simp [mup]
theorem z_get {X : ZX} {G : ZG} {own : String} {cc : ByteArray} {n mc ms : Nat} {ret : Option FieldType} {Qf : State → Prop} {K N : MK} {I : MI} {L : ML} {R : MR} {pc : Nat} {lv : List (Nat × Value)} {st : List Value} (hC : ZOk X G own cc n ret) {c k a index : Nat} {C : String} {T : u_T} {nn : Nat} {ty : Nat → FieldType} (hc : z_cls c C T nn ty) (hk : k < nn) (hm : Cond.fieldLink own index C (T k).2.1 (T k).2.2.1 ∈ z_tbl) (hK : K a = c + 1) (hd : decode cc pc = .ok (.getfield index, 3)) (kk : Z X G n mc ms Qf K N I L R (pc + 3) lv (z_sl (z_fk c k) (I a k) (L a k) (R a k) :: st)) : Z X G n mc ms Qf K N I L R pc lv (.ref a :: st) := by
  obtain ⟨h1, h2, h3, h4, h5, h6, h7⟩ := hc
  intro H locs ls hR hS hl
  have hP := z_one (z_rp hR hK).2
  rw [show z_f G K N I L R a = .inr (c, z_fs c (I a) (L a) (R a)) from z_E_obj hK h6] at hP
  exact va_get hC.1 hC.2.1 hC.2.2.2.1 h2 hC.2.2.2.2.1 hC.2.2.2.2.2.2.2.1 hP 0 rfl h1 k hk (hC.2.2.2.1 _ hm) (fun x hx => by rw [h7 k hk] at hx; exact hx) (z_fs_get (by omega)) hd (kk H locs ls hR hS hl)
theorem z_put {X : ZX} {G : ZG} {own : String} {cc : ByteArray} {n mc ms : Nat} {ret : Option FieldType} {Qf : State → Prop} {K N : MK} {I : MI} {L : ML} {R : MR} {pc : Nat} {lv : List (Nat × Value)} {st : List Value} (hC : ZOk X G own cc n ret) {c k a index : Nat} {C : String} {T : u_T} {nn : Nat} {ty : Nat → FieldType} {I1 : MI} {L1 : ML} {R1 : MR} {v : Value} (hc : z_cls c C T nn ty) (hk : k < nn) (hm : Cond.fieldLink own index C (T k).2.1 (T k).2.2.1 ∈ z_tbl) (hK : K a = c + 1) (hd : decode cc pc = .ok (.putfield index, 3)) (hn : narrow (ty k) v = v) (hfit : fits (ty k) v = true) (hE : ∀ q, z_sl (z_fk c q) (I1 a q) (L1 a q) (R1 a q) = if q = k then v else z_sl (z_fk c q) (I a q) (L a q) (R a q)) (hne : ∀ b, b ≠ a → I1 b = I b ∧ L1 b = L b ∧ R1 b = R b) (hfin : (T k).2.2.2 = false) (kk : Z X G n mc ms Qf K N I1 L1 R1 (pc + 3) lv st) : Z X G n mc ms Qf K N I L R pc lv (v :: .ref a :: st) := by
  obtain ⟨h1, h2, h3, h4, h5, h6, h7⟩ := hc
  intro H locs ls hR hS hl
  obtain ⟨hA, hat⟩ := z_rp hR hK
  rw [show z_f G K N I L R a = .inr (c, z_fs c (I a) (L a) (R a)) from z_E_obj hK h6] at hat
  obtain ⟨r, g1, cell, q1, q2, q3, q4⟩ := hat
  have hr : r = (C, T, nn) := Option.some.inj (g1.symm.trans h1)
  subst hr
  have hKK := hC.2.2.2.2.2.2.2.1
  have hap := va_apart (own := own) hC.2.2.2.1 h2 ty h3 h4 hKK h1
  obtain ⟨hSl, hfc, kC, hkC, hkind⟩ := hKK.1 c _ h1
  obtain ⟨cf, kf, fi, f, hi, hsl⟩ := hSl k hk
  have hlay := hC.2.2.2.1 _ (h2 _ (u_in_lay hk))
  unfold u_lay at hlay
  rw [if_neg (by rw [hfin]; decide)] at hlay
  have hst := (u_facts hfc hkC (u_lays hC.2.2.2.1 h2 hk) hi).1
  have hsame : ∀ x, X.2.2.2.2.1.fieldFound? (T k).1 (T k).2.1 (T k).2.2.1 = some x → X.2.2.2.2.1.fieldFound? C (T k).2.1 (T k).2.2.1 = some x := fun x hx => by rw [h7 k hk] at hx; exact hx
  have g6 := u_store hfc hkC hkind hlay hi (h3 k hk) hn hfit
  refine W.putK hC.1 hC.2.1 (f := f) ⟨hC.2.2.2.2.1, hC.2.2.2.1 _ hm, ⟨_, _, _, hsame _ hi⟩, hst⟩ (by rw [q2]; exact g6) q1 q3 (by rw [hsl]; exact k2_hasslot (q4 k hk)) rfl rfl hd fun H1 e1 e2 e3 => ?_
  rw [hsl] at e1 ⊢
  have hnew : va_at G.1 vwCl (a, .inr (c, (z_fs c (I a) (L a) (R a)).set k v)) H1 := ⟨_, h1, t_OB.to (V := updV (vp_V (z_fs c (I a) (L a) (R a))) k v) ⟨_, e1, q2, q3, t_set q4 hap hk v⟩ (fun j _ => vp_updV_set (by rw [z_fs_len]; omega) v j)⟩
  exact kk H1 _ ls (z_wr hR e2 e3 ((z_E_obj hK h6).trans (by rw [z_fs_set (fun q _ => hE q)])) hnew hne) (hS.put e2 e3 hA) hl
theorem z_putF {X : ZX} {G : ZG} {own : String} {cc : ByteArray} {n mc ms : Nat} {ret : Option FieldType} {Qf : State → Prop} {K N : MK} {I : MI} {L : ML} {R : MR} {pc : Nat} {lv : List (Nat × Value)} {st : List Value} (hC : ZOk X G own cc n ret) {c k a index : Nat} {C : String} {T : u_T} {nn : Nat} {ty : Nat → FieldType} {I1 : MI} {L1 : ML} {R1 : MR} {v : Value} (hc : z_cls c C T nn ty) (hk : k < nn) (hm : Cond.fieldLink own index C (T k).2.1 (T k).2.2.1 ∈ z_tbl) (hK : K a = c + 1) (hd : decode cc pc = .ok (.putfield index, 3)) (hn : narrow (ty k) v = v) (hfit : fits (ty k) v = true) (hE : ∀ q, z_sl (z_fk c q) (I1 a q) (L1 a q) (R1 a q) = if q = k then v else z_sl (z_fk c q) (I a q) (L a q) (R a q)) (hne : ∀ b, b ≠ a → I1 b = I b ∧ L1 b = L b ∧ R1 b = R b) (hfin : (T k).2.2.2 = true) (hinit : X.2.2.2.2.2.2.2.2.1.name = "<init>") (hown : C = own) (kk : Z X G n mc ms Qf K N I1 L1 R1 (pc + 3) lv st) : Z X G n mc ms Qf K N I L R pc lv (v :: .ref a :: st) := by
  obtain ⟨h1, h2, h3, h4, h5, h6, h7⟩ := hc
  intro H locs ls hR hS hl
  obtain ⟨hA, hat⟩ := z_rp hR hK
  rw [show z_f G K N I L R a = .inr (c, z_fs c (I a) (L a) (R a)) from z_E_obj hK h6] at hat
  obtain ⟨r, g1, cell, q1, q2, q3, q4⟩ := hat
  have hr : r = (C, T, nn) := Option.some.inj (g1.symm.trans h1)
  subst hr
  have hKK := hC.2.2.2.2.2.2.2.1
  have hap := va_apart (own := own) hC.2.2.2.1 h2 ty h3 h4 hKK h1
  obtain ⟨hSl, hfc, kC, hkC, hkind⟩ := hKK.1 c _ h1
  obtain ⟨cf, kf, fi, f, hi, hsl⟩ := hSl k hk
  have hlay := hC.2.2.2.1 _ (h2 _ (u_in_lay hk))
  unfold u_lay at hlay
  rw [if_pos hfin] at hlay
  have hst := (u_facts hfc hkC (u_lays hC.2.2.2.1 h2 hk) hi).1
  have hsame : ∀ x, X.2.2.2.2.1.fieldFound? (T k).1 (T k).2.1 (T k).2.2.1 = some x → X.2.2.2.2.1.fieldFound? C (T k).2.1 (T k).2.2.1 = some x := fun x hx => by rw [h7 k hk] at hx; exact hx
  have hcf : X.2.2.2.2.2.1.cls = cf := by
    obtain ⟨_, _, c', _, _, _, -, -, hf', -, -, -, hown2, -⟩ := Cond.laysFinal_spec hlay
    have e1 : c' = cf := by have := hi.symm.trans hf'; simp at this; exact this.1.symm
    rw [(h7 k hk).trans hown] at hown2
    rw [← e1]; exact Option.some.inj (hC.2.2.2.2.1.symm.trans hown2)
  have g6 := u_fits hfc hkC hkind (Or.inr hlay) hi (h3 k hk) hn hfit
  refine W.putFinK hC.1 hC.2.1 hC.2.2.2.2.1 (hC.2.2.2.1 _ hm) (hsame _ hi) hst hcf hinit (by rw [q2]; exact g6) q1 q3 (by rw [hsl]; exact k2_hasslot (q4 k hk)) rfl rfl hd fun H1 e1 e2 e3 => ?_
  rw [hsl] at e1 ⊢
  have hnew : va_at G.1 vwCl (a, .inr (c, (z_fs c (I a) (L a) (R a)).set k v)) H1 := ⟨_, h1, t_OB.to (V := updV (vp_V (z_fs c (I a) (L a) (R a))) k v) ⟨_, e1, q2, q3, t_set q4 hap hk v⟩ (fun j _ => vp_updV_set (by rw [z_fs_len]; omega) v j)⟩
  exact kk H1 _ ls (z_wr hR e2 e3 ((z_E_obj hK h6).trans (by rw [z_fs_set (fun q _ => hE q)])) hnew hne) (hS.put e2 e3 hA) hl
theorem z_slI {c k a : Nat} {I : MI} {L : ML} {R : MR} {x : Int32} (hf : z_fk c k = 0) : ∀ q, z_sl (z_fk c q) (mup I a k x a q) (L a q) (R a q) = if q = k then .int x else z_sl (z_fk c q) (I a q) (L a q) (R a q) := by
  intro q
  by_cases h : q = k
  · subst h; simp [mup, hf, z_sl]
  · simp [mup, h]
theorem z_slL {c k a : Nat} {I : MI} {L : ML} {R : MR} {x : Int64} (hf : z_fk c k = 1) : ∀ q, z_sl (z_fk c q) (I a q) (mup L a k x a q) (R a q) = if q = k then .long x else z_sl (z_fk c q) (I a q) (L a q) (R a q) := by
  intro q
  by_cases h : q = k
  · subst h; simp [mup, hf, z_sl]
  · simp [mup, h]
theorem z_slR {c k a : Nat} {I : MI} {L : ML} {R : MR} {x : Nat} (hf : z_fk c k = 2) : ∀ q, z_sl (z_fk c q) (I a q) (L a q) (mup R a k (some x) a q) = if q = k then .ref x else z_sl (z_fk c q) (I a q) (L a q) (R a q) := by
  intro q
  by_cases h : q = k
  · subst h; simp [mup, hf, z_sl, va_rf]
  · simp [mup, h]
theorem z_neI {I : MI} {L : ML} {R : MR} {a k : Nat} {x : Int32} : ∀ b, b ≠ a → mup I a k x b = I b ∧ L b = L b ∧ R b = R b := fun b h => ⟨mup_ne h, rfl, rfl⟩
theorem z_neL {I : MI} {L : ML} {R : MR} {a k : Nat} {x : Int64} : ∀ b, b ≠ a → I b = I b ∧ mup L a k x b = L b ∧ R b = R b := fun b h => ⟨rfl, mup_ne h, rfl⟩
theorem z_neR {I : MI} {L : ML} {R : MR} {a k : Nat} {x : Option Nat} : ∀ b, b ≠ a → I b = I b ∧ L b = L b ∧ mup R a k x b = R b := fun b h => ⟨rfl, rfl, mup_ne h⟩
/-! arrays -/
theorem z_iaload {X : ZX} {G : ZG} {own : String} {cc : ByteArray} {n mc ms : Nat} {ret : Option FieldType} {Qf : State → Prop} {K N : MK} {I : MI} {L : ML} {R : MR} {pc : Nat} {lv : List (Nat × Value)} {st : List Value} (hC : ZOk X G own cc n ret) {a : Nat} {i : Int32} (hK : K a = 14) (hi : vp_in i (N a)) (hd : decode cc pc = .ok (.iaload, 1)) (k : Z X G n mc ms Qf K N I L R (pc + 1) lv (.int (I a (ix i)) :: st)) : Z X G n mc ms Qf K N I L R pc lv (.int i :: .ref a :: st) := by
  intro H locs ls hR hS hl
  have hP := z_one (z_rp hR hK).2
  rw [show z_f G K N I L R a = .inl (G.2.1 0, N a, .inl (I a)) from by rw [z_f, hK]; rfl] at hP
  exact va_iald hC.1 hC.2.1 hC.2.2.2.2.2.2.2.1 hP 0 0 rfl rfl hi hd (k H locs ls hR hS hl)
theorem z_laload {X : ZX} {G : ZG} {own : String} {cc : ByteArray} {n mc ms : Nat} {ret : Option FieldType} {Qf : State → Prop} {K N : MK} {I : MI} {L : ML} {R : MR} {pc : Nat} {lv : List (Nat × Value)} {st : List Value} (hC : ZOk X G own cc n ret) {a : Nat} {i : Int32} (hK : K a = 15) (hi : vp_in i (N a)) (hd : decode cc pc = .ok (.laload, 1)) (k : Z X G n mc ms Qf K N I L R (pc + 1) lv (.long (L a (ix i)) :: st)) : Z X G n mc ms Qf K N I L R pc lv (.int i :: .ref a :: st) := by
  intro H locs ls hR hS hl
  have hP := z_one (z_rp hR hK).2
  rw [show z_f G K N I L R a = .inl (G.2.1 1, N a, .inr (.inl (L a))) from by rw [z_f, hK]; rfl] at hP
  exact va_lald hC.1 hC.2.1 hC.2.2.2.2.2.2.2.1 hP 0 1 rfl rfl hi hd (k H locs ls hR hS hl)
theorem z_zaload {X : ZX} {G : ZG} {own : String} {cc : ByteArray} {n mc ms : Nat} {ret : Option FieldType} {Qf : State → Prop} {K N : MK} {I : MI} {L : ML} {R : MR} {pc : Nat} {lv : List (Nat × Value)} {st : List Value} (hC : ZOk X G own cc n ret) {a : Nat} {i : Int32} (hK : K a = 16) (hi : vp_in i (N a)) (hd : decode cc pc = .ok (.baload, 1)) (k : Z X G n mc ms Qf K N I L R (pc + 1) lv (.int (I a (ix i)) :: st)) : Z X G n mc ms Qf K N I L R pc lv (.int i :: .ref a :: st) := by
  intro H locs ls hR hS hl
  have hP := z_one (z_rp hR hK).2
  rw [show z_f G K N I L R a = .inl (G.2.1 2, N a, .inl (I a)) from by rw [z_f, hK]; rfl] at hP
  exact va_zald hC.1 hC.2.1 hC.2.2.2.2.2.2.2.1 hP 0 2 rfl rfl hi hd (k H locs ls hR hS hl)
theorem z_aaload17 {X : ZX} {G : ZG} {own : String} {cc : ByteArray} {n mc ms : Nat} {ret : Option FieldType} {Qf : State → Prop} {K N : MK} {I : MI} {L : ML} {R : MR} {pc : Nat} {lv : List (Nat × Value)} {st : List Value} (hC : ZOk X G own cc n ret) {a : Nat} {i : Int32} (hK : K a = 17) (hi : vp_in i (N a)) (hd : decode cc pc = .ok (.aaload, 1)) (k : Z X G n mc ms Qf K N I L R (pc + 1) lv (va_rf (R a (ix i)) :: st)) : Z X G n mc ms Qf K N I L R pc lv (.int i :: .ref a :: st) := by
  intro H locs ls hR hS hl
  have hP := z_one (z_rp hR hK).2
  rw [show z_f G K N I L R a = .inl (G.2.1 3, N a, .inr (.inr (.inr (.inr (R a))))) from by rw [z_f, hK]; rfl] at hP
  exact va_aldq hC.1 hC.2.1 hC.2.2.2.2.2.2.2.1 hP 0 3 rfl rfl hi hd (k H locs ls hR hS hl)
theorem z_aaload18 {X : ZX} {G : ZG} {own : String} {cc : ByteArray} {n mc ms : Nat} {ret : Option FieldType} {Qf : State → Prop} {K N : MK} {I : MI} {L : ML} {R : MR} {pc : Nat} {lv : List (Nat × Value)} {st : List Value} (hC : ZOk X G own cc n ret) {a : Nat} {i : Int32} (hK : K a = 18) (hi : vp_in i (N a)) (hd : decode cc pc = .ok (.aaload, 1)) (k : Z X G n mc ms Qf K N I L R (pc + 1) lv (va_rf (R a (ix i)) :: st)) : Z X G n mc ms Qf K N I L R pc lv (.int i :: .ref a :: st) := by
  intro H locs ls hR hS hl
  have hP := z_one (z_rp hR hK).2
  rw [show z_f G K N I L R a = .inl (G.2.1 4, N a, .inr (.inr (.inr (.inr (R a))))) from by rw [z_f, hK]; rfl] at hP
  exact va_aldq hC.1 hC.2.1 hC.2.2.2.2.2.2.2.1 hP 0 4 rfl rfl hi hd (k H locs ls hR hS hl)
theorem z_aaload19 {X : ZX} {G : ZG} {own : String} {cc : ByteArray} {n mc ms : Nat} {ret : Option FieldType} {Qf : State → Prop} {K N : MK} {I : MI} {L : ML} {R : MR} {pc : Nat} {lv : List (Nat × Value)} {st : List Value} (hC : ZOk X G own cc n ret) {a : Nat} {i : Int32} (hK : K a = 19) (hi : vp_in i (N a)) (hd : decode cc pc = .ok (.aaload, 1)) (k : Z X G n mc ms Qf K N I L R (pc + 1) lv (va_rf (R a (ix i)) :: st)) : Z X G n mc ms Qf K N I L R pc lv (.int i :: .ref a :: st) := by
  intro H locs ls hR hS hl
  have hP := z_one (z_rp hR hK).2
  rw [show z_f G K N I L R a = .inl (G.2.1 5, N a, .inr (.inr (.inr (.inr (R a))))) from by rw [z_f, hK]; rfl] at hP
  exact va_aldq hC.1 hC.2.1 hC.2.2.2.2.2.2.2.1 hP 0 5 rfl rfl hi hd (k H locs ls hR hS hl)
theorem mup_upd {I : MI} {a k : Nat} {x : Int32} : mup I a k x a = upd (I a) k x := by funext y; simp [mup, upd]
theorem mup_updL {L : ML} {a k : Nat} {x : Int64} : mup L a k x a = vp_updL (L a) k x := by funext y; simp [mup, vp_updL]
theorem mup_updR {R : MR} {a k : Nat} {x : Option Nat} : mup R a k x a = va_up (R a) k x := by funext y; simp [mup, va_up]
theorem z_iastore {X : ZX} {G : ZG} {own : String} {cc : ByteArray} {n mc ms : Nat} {ret : Option FieldType} {Qf : State → Prop} {K N : MK} {I : MI} {L : ML} {R : MR} {pc : Nat} {lv : List (Nat × Value)} {st : List Value} (hC : ZOk X G own cc n ret) {a : Nat} {i : Int32} {x : Int32} (hK : K a = 14) (hi : vp_in i (N a)) (hd : decode cc pc = .ok (.iastore, 1)) (k : Z X G n mc ms Qf K N (mup I a (ix i) x) L R (pc + 1) lv st) : Z X G n mc ms Qf K N I L R pc lv (.int x :: .int i :: .ref a :: st) := by
  intro H locs ls hR hS hl
  obtain ⟨hA, hat⟩ := z_rp hR hK
  rw [show z_f G K N I L R a = .inl (G.2.1 0, N a, .inl (I a)) from by rw [z_f, hK]; rfl] at hat
  have hlt : i.toNatClampNeg < N a := Nat.not_le.mp fun q => hi (Or.inr q)
  have hKK := hC.2.2.2.2.2.2.2.1
  refine W.iast hC.1 hC.2.1 hat ((hKK.2 0 _ rfl).1 (N a) (fun j => .int (I a j))) (fun q => by cases q) (by show ¬ (i < 0 ∨ (arrV _ _ _).slots.size ≤ _); rw [arrV_size]; exact hi) rfl rfl hd fun H1 e1 e2 e3 => ?_
  have hnew : va_at G.1 vwCl (a, .inl (G.2.1 0, N a, .inl (upd (I a) i.toNatClampNeg x))) H1 := by
    show H1[a]? = some (vp_cell _ _)
    rw [e1, vp_cell_i, vp_cell_i, arrV_store]
    congr 2
    funext q
    by_cases hq : q = i.toNatClampNeg
    · subst hq
      simp [updV, upd, vp_updL, va_up, vp_nar, va_rf]
      try rfl
    · simp [updV, upd, vp_updL, va_up, hq]
  exact k H1 _ ls (z_wr hR e2 e3 (by rw [z_f, hK, mup_upd]; rfl) hnew z_neI) (hS.put e2 e3 hA) hl
theorem z_lastore {X : ZX} {G : ZG} {own : String} {cc : ByteArray} {n mc ms : Nat} {ret : Option FieldType} {Qf : State → Prop} {K N : MK} {I : MI} {L : ML} {R : MR} {pc : Nat} {lv : List (Nat × Value)} {st : List Value} (hC : ZOk X G own cc n ret) {a : Nat} {i : Int32} {x : Int64} (hK : K a = 15) (hi : vp_in i (N a)) (hd : decode cc pc = .ok (.lastore, 1)) (k : Z X G n mc ms Qf K N I (mup L a (ix i) x) R (pc + 1) lv st) : Z X G n mc ms Qf K N I L R pc lv (.long x :: .int i :: .ref a :: st) := by
  intro H locs ls hR hS hl
  obtain ⟨hA, hat⟩ := z_rp hR hK
  rw [show z_f G K N I L R a = .inl (G.2.1 1, N a, .inr (.inl (L a))) from by rw [z_f, hK]; rfl] at hat
  have hlt : i.toNatClampNeg < N a := Nat.not_le.mp fun q => hi (Or.inr q)
  have hKK := hC.2.2.2.2.2.2.2.1
  refine W.last hC.1 hC.2.1 hat ((hKK.2 1 _ rfl).1 (N a) (fun j => .long (L a j))) (fun q => by cases q) (by show ¬ (i < 0 ∨ (arrV _ _ _).slots.size ≤ _); rw [arrV_size]; exact hi) rfl rfl hd fun H1 e1 e2 e3 => ?_
  have hnew : va_at G.1 vwCl (a, .inl (G.2.1 1, N a, .inr (.inl (vp_updL (L a) i.toNatClampNeg x)))) H1 := by
    show H1[a]? = some (vp_cell _ _)
    rw [e1, vp_cell_l, vp_cell_l, arrV_store]
    congr 2
    funext q
    by_cases hq : q = i.toNatClampNeg
    · subst hq
      simp [updV, upd, vp_updL, va_up, vp_nar, va_rf]
      try rfl
    · simp [updV, upd, vp_updL, va_up, hq]
  exact k H1 _ ls (z_wr hR e2 e3 (by rw [z_f, hK, mup_updL]; rfl) hnew z_neL) (hS.put e2 e3 hA) hl
theorem z_zastore {X : ZX} {G : ZG} {own : String} {cc : ByteArray} {n mc ms : Nat} {ret : Option FieldType} {Qf : State → Prop} {K N : MK} {I : MI} {L : ML} {R : MR} {pc : Nat} {lv : List (Nat × Value)} {st : List Value} (hC : ZOk X G own cc n ret) {a : Nat} {i : Int32} {x : Int32} (hK : K a = 16) (hi : vp_in i (N a)) (hd : decode cc pc = .ok (.bastore, 1)) (k : Z X G n mc ms Qf K N (mup I a (ix i) (vp_nar .boolean x)) L R (pc + 1) lv st) : Z X G n mc ms Qf K N I L R pc lv (.int x :: .int i :: .ref a :: st) := by
  intro H locs ls hR hS hl
  obtain ⟨hA, hat⟩ := z_rp hR hK
  rw [show z_f G K N I L R a = .inl (G.2.1 2, N a, .inl (I a)) from by rw [z_f, hK]; rfl] at hat
  have hlt : i.toNatClampNeg < N a := Nat.not_le.mp fun q => hi (Or.inr q)
  have hKK := hC.2.2.2.2.2.2.2.1
  refine W.zast hC.1 hC.2.1 hat ((hKK.2 2 _ rfl).1 (N a) (fun j => .int (I a j))) (fun q => by cases q) (by show ¬ (i < 0 ∨ (arrV _ _ _).slots.size ≤ _); rw [arrV_size]; exact hi) rfl rfl hd fun H1 e1 e2 e3 => ?_
  have hnew : va_at G.1 vwCl (a, .inl (G.2.1 2, N a, .inl (upd (I a) i.toNatClampNeg (vp_nar .boolean x)))) H1 := by
    show H1[a]? = some (vp_cell _ _)
    rw [e1, vp_cell_i, vp_cell_i, arrV_store]
    congr 2
    funext q
    by_cases hq : q = i.toNatClampNeg
    · subst hq
      simp [updV, upd, vp_updL, va_up, vp_nar, va_rf]
      try rfl
    · simp [updV, upd, vp_updL, va_up, hq]
  exact k H1 _ ls (z_wr hR e2 e3 (by rw [z_f, hK, mup_upd]; rfl) hnew z_neI) (hS.put e2 e3 hA) hl
theorem z_aastore17 {X : ZX} {G : ZG} {own : String} {cc : ByteArray} {n mc ms : Nat} {ret : Option FieldType} {Qf : State → Prop} {K N : MK} {I : MI} {L : ML} {R : MR} {pc : Nat} {lv : List (Nat × Value)} {st : List Value} (hC : ZOk X G own cc n ret) {a : Nat} {i : Int32} {v : Nat} (hK : K a = 17) (hi : vp_in i (N a)) (hv : K v = 4) (hd : decode cc pc = .ok (.aastore, 1)) (k : Z X G n mc ms Qf K N I L (mup R a (ix i) (some v)) (pc + 1) lv st) : Z X G n mc ms Qf K N I L R pc lv (.ref v :: .int i :: .ref a :: st) := by
  intro H locs ls hR hS hl
  obtain ⟨hA, hat⟩ := z_rp hR hK
  rw [show z_f G K N I L R a = .inl (G.2.1 3, N a, .inr (.inr (.inr (.inr (R a))))) from by rw [z_f, hK]; rfl] at hat
  have hlt : i.toNatClampNeg < N a := Nat.not_le.mp fun q => hi (Or.inr q)
  have hKK := hC.2.2.2.2.2.2.2.1
  have h0 : ¬ i < 0 := fun q => hi (Or.inl q)
  have hvat := (z_rp hR hv).2
  rw [show z_f G K N I L R v = .inr (3, z_fs 3 (I v) (L v) (R v)) from z_E_obj hv (by decide)] at hvat
  obtain ⟨r', hr', cellV, g1, g2, g3, -⟩ := hvat
  have hcls := (hKK.1 3 _ rfl).2
  obtain ⟨kA, comp, k1, k2, k3, -⟩ := (hKK.2 3 _ rfl).2
  have hcomp : comp = G.1.1 3 := Option.some.inj (k3.symm.trans hcls.1)
  subst hcomp
  obtain ⟨kC, hkC, -⟩ := hcls.2
  refine W.aast hC.1 hC.2.1 hat (fun q h => by cases h) (fun h => by cases h) k1 k2 rfl hkC ⟨h0, by show _ < (arrV _ _ _).slots.size; rw [arrV_size]; exact hlt⟩ g1 (fun q h => by rw [g3] at h; cases h) (by rw [g2]; exact hkC) (by rw [g2]; exact va_assign hcls) rfl rfl hd fun H1 e1 e2 e3 => ?_
  have hnew : va_at G.1 vwCl (a, .inl (G.2.1 3, N a, .inr (.inr (.inr (.inr (va_up (R a) i.toNatClampNeg (some v))))))) H1 := by
    show H1[a]? = some (vp_cell _ _)
    rw [e1, vp_cell_q, vp_cell_q, arrV_store]
    congr 2
    funext q
    by_cases hq : q = i.toNatClampNeg
    · subst hq
      simp [updV, upd, vp_updL, va_up, vp_nar, va_rf]
      try rfl
    · simp [updV, upd, vp_updL, va_up, hq]
  exact k H1 _ ls (z_wr hR e2 e3 (by rw [z_f, hK, mup_updR]; rfl) hnew z_neR) (hS.put e2 e3 hA) hl
theorem z_aastore18 {X : ZX} {G : ZG} {own : String} {cc : ByteArray} {n mc ms : Nat} {ret : Option FieldType} {Qf : State → Prop} {K N : MK} {I : MI} {L : ML} {R : MR} {pc : Nat} {lv : List (Nat × Value)} {st : List Value} (hC : ZOk X G own cc n ret) {a : Nat} {i : Int32} {v : Nat} (hK : K a = 18) (hi : vp_in i (N a)) (hv : K v = 6) (hd : decode cc pc = .ok (.aastore, 1)) (k : Z X G n mc ms Qf K N I L (mup R a (ix i) (some v)) (pc + 1) lv st) : Z X G n mc ms Qf K N I L R pc lv (.ref v :: .int i :: .ref a :: st) := by
  intro H locs ls hR hS hl
  obtain ⟨hA, hat⟩ := z_rp hR hK
  rw [show z_f G K N I L R a = .inl (G.2.1 4, N a, .inr (.inr (.inr (.inr (R a))))) from by rw [z_f, hK]; rfl] at hat
  have hlt : i.toNatClampNeg < N a := Nat.not_le.mp fun q => hi (Or.inr q)
  have hKK := hC.2.2.2.2.2.2.2.1
  have h0 : ¬ i < 0 := fun q => hi (Or.inl q)
  have hvat := (z_rp hR hv).2
  rw [show z_f G K N I L R v = .inr (5, z_fs 5 (I v) (L v) (R v)) from z_E_obj hv (by decide)] at hvat
  obtain ⟨r', hr', cellV, g1, g2, g3, -⟩ := hvat
  have hcls := (hKK.1 5 _ rfl).2
  obtain ⟨kA, comp, k1, k2, k3, -⟩ := (hKK.2 4 _ rfl).2
  have hcomp : comp = G.1.1 5 := Option.some.inj (k3.symm.trans hcls.1)
  subst hcomp
  obtain ⟨kC, hkC, -⟩ := hcls.2
  refine W.aast hC.1 hC.2.1 hat (fun q h => by cases h) (fun h => by cases h) k1 k2 rfl hkC ⟨h0, by show _ < (arrV _ _ _).slots.size; rw [arrV_size]; exact hlt⟩ g1 (fun q h => by rw [g3] at h; cases h) (by rw [g2]; exact hkC) (by rw [g2]; exact va_assign hcls) rfl rfl hd fun H1 e1 e2 e3 => ?_
  have hnew : va_at G.1 vwCl (a, .inl (G.2.1 4, N a, .inr (.inr (.inr (.inr (va_up (R a) i.toNatClampNeg (some v))))))) H1 := by
    show H1[a]? = some (vp_cell _ _)
    rw [e1, vp_cell_q, vp_cell_q, arrV_store]
    congr 2
    funext q
    by_cases hq : q = i.toNatClampNeg
    · subst hq
      simp [updV, upd, vp_updL, va_up, vp_nar, va_rf]
      try rfl
    · simp [updV, upd, vp_updL, va_up, hq]
  exact k H1 _ ls (z_wr hR e2 e3 (by rw [z_f, hK, mup_updR]; rfl) hnew z_neR) (hS.put e2 e3 hA) hl
theorem z_aastore19 {X : ZX} {G : ZG} {own : String} {cc : ByteArray} {n mc ms : Nat} {ret : Option FieldType} {Qf : State → Prop} {K N : MK} {I : MI} {L : ML} {R : MR} {pc : Nat} {lv : List (Nat × Value)} {st : List Value} (hC : ZOk X G own cc n ret) {a : Nat} {i : Int32} {v : Nat} (hK : K a = 19) (hi : vp_in i (N a)) (hv : K v = 10) (hd : decode cc pc = .ok (.aastore, 1)) (k : Z X G n mc ms Qf K N I L (mup R a (ix i) (some v)) (pc + 1) lv st) : Z X G n mc ms Qf K N I L R pc lv (.ref v :: .int i :: .ref a :: st) := by
  intro H locs ls hR hS hl
  obtain ⟨hA, hat⟩ := z_rp hR hK
  rw [show z_f G K N I L R a = .inl (G.2.1 5, N a, .inr (.inr (.inr (.inr (R a))))) from by rw [z_f, hK]; rfl] at hat
  have hlt : i.toNatClampNeg < N a := Nat.not_le.mp fun q => hi (Or.inr q)
  have hKK := hC.2.2.2.2.2.2.2.1
  have h0 : ¬ i < 0 := fun q => hi (Or.inl q)
  have hvat := (z_rp hR hv).2
  rw [show z_f G K N I L R v = .inr (9, z_fs 9 (I v) (L v) (R v)) from z_E_obj hv (by decide)] at hvat
  obtain ⟨r', hr', cellV, g1, g2, g3, -⟩ := hvat
  have hcls := (hKK.1 9 _ rfl).2
  obtain ⟨kA, comp, k1, k2, k3, -⟩ := (hKK.2 5 _ rfl).2
  have hcomp : comp = G.1.1 9 := Option.some.inj (k3.symm.trans hcls.1)
  subst hcomp
  obtain ⟨kC, hkC, -⟩ := hcls.2
  refine W.aast hC.1 hC.2.1 hat (fun q h => by cases h) (fun h => by cases h) k1 k2 rfl hkC ⟨h0, by show _ < (arrV _ _ _).slots.size; rw [arrV_size]; exact hlt⟩ g1 (fun q h => by rw [g3] at h; cases h) (by rw [g2]; exact hkC) (by rw [g2]; exact va_assign hcls) rfl rfl hd fun H1 e1 e2 e3 => ?_
  have hnew : va_at G.1 vwCl (a, .inl (G.2.1 5, N a, .inr (.inr (.inr (.inr (va_up (R a) i.toNatClampNeg (some v))))))) H1 := by
    show H1[a]? = some (vp_cell _ _)
    rw [e1, vp_cell_q, vp_cell_q, arrV_store]
    congr 2
    funext q
    by_cases hq : q = i.toNatClampNeg
    · subst hq
      simp [updV, upd, vp_updL, va_up, vp_nar, va_rf]
      try rfl
    · simp [updV, upd, vp_updL, va_up, hq]
  exact k H1 _ ls (z_wr hR e2 e3 (by rw [z_f, hK, mup_updR]; rfl) hnew z_neR) (hS.put e2 e3 hA) hl
theorem z_alen14 {X : ZX} {G : ZG} {own : String} {cc : ByteArray} {n mc ms : Nat} {ret : Option FieldType} {Qf : State → Prop} {K N : MK} {I : MI} {L : ML} {R : MR} {pc : Nat} {lv : List (Nat × Value)} {st : List Value} (hC : ZOk X G own cc n ret) {a : Nat} (hK : K a = 14) (hd : decode cc pc = .ok (.arraylength, 1)) (k : Z X G n mc ms Qf K N I L R (pc + 1) lv (.int (nI (N a)) :: st)) : Z X G n mc ms Qf K N I L R pc lv (.ref a :: st) := by
  intro H locs ls hR hS hl
  have hP := z_one (z_rp hR hK).2
  rw [show z_f G K N I L R a = .inl (G.2.1 0, N a, .inl (I a)) from by rw [z_f, hK]; rfl] at hP
  exact va_alen hC.1 hC.2.1 hC.2.2.2.2.2.2.2.1 hP 0 0 rfl rfl rfl hd (k H locs ls hR hS hl)
theorem z_alen15 {X : ZX} {G : ZG} {own : String} {cc : ByteArray} {n mc ms : Nat} {ret : Option FieldType} {Qf : State → Prop} {K N : MK} {I : MI} {L : ML} {R : MR} {pc : Nat} {lv : List (Nat × Value)} {st : List Value} (hC : ZOk X G own cc n ret) {a : Nat} (hK : K a = 15) (hd : decode cc pc = .ok (.arraylength, 1)) (k : Z X G n mc ms Qf K N I L R (pc + 1) lv (.int (nI (N a)) :: st)) : Z X G n mc ms Qf K N I L R pc lv (.ref a :: st) := by
  intro H locs ls hR hS hl
  have hP := z_one (z_rp hR hK).2
  rw [show z_f G K N I L R a = .inl (G.2.1 1, N a, .inr (.inl (L a))) from by rw [z_f, hK]; rfl] at hP
  exact va_alen hC.1 hC.2.1 hC.2.2.2.2.2.2.2.1 hP 0 1 rfl rfl rfl hd (k H locs ls hR hS hl)
theorem z_alen16 {X : ZX} {G : ZG} {own : String} {cc : ByteArray} {n mc ms : Nat} {ret : Option FieldType} {Qf : State → Prop} {K N : MK} {I : MI} {L : ML} {R : MR} {pc : Nat} {lv : List (Nat × Value)} {st : List Value} (hC : ZOk X G own cc n ret) {a : Nat} (hK : K a = 16) (hd : decode cc pc = .ok (.arraylength, 1)) (k : Z X G n mc ms Qf K N I L R (pc + 1) lv (.int (nI (N a)) :: st)) : Z X G n mc ms Qf K N I L R pc lv (.ref a :: st) := by
  intro H locs ls hR hS hl
  have hP := z_one (z_rp hR hK).2
  rw [show z_f G K N I L R a = .inl (G.2.1 2, N a, .inl (I a)) from by rw [z_f, hK]; rfl] at hP
  exact va_alen hC.1 hC.2.1 hC.2.2.2.2.2.2.2.1 hP 0 2 rfl rfl rfl hd (k H locs ls hR hS hl)
theorem z_alen17 {X : ZX} {G : ZG} {own : String} {cc : ByteArray} {n mc ms : Nat} {ret : Option FieldType} {Qf : State → Prop} {K N : MK} {I : MI} {L : ML} {R : MR} {pc : Nat} {lv : List (Nat × Value)} {st : List Value} (hC : ZOk X G own cc n ret) {a : Nat} (hK : K a = 17) (hd : decode cc pc = .ok (.arraylength, 1)) (k : Z X G n mc ms Qf K N I L R (pc + 1) lv (.int (nI (N a)) :: st)) : Z X G n mc ms Qf K N I L R pc lv (.ref a :: st) := by
  intro H locs ls hR hS hl
  have hP := z_one (z_rp hR hK).2
  rw [show z_f G K N I L R a = .inl (G.2.1 3, N a, .inr (.inr (.inr (.inr (R a))))) from by rw [z_f, hK]; rfl] at hP
  exact va_alen hC.1 hC.2.1 hC.2.2.2.2.2.2.2.1 hP 0 3 rfl rfl rfl hd (k H locs ls hR hS hl)
theorem z_alen18 {X : ZX} {G : ZG} {own : String} {cc : ByteArray} {n mc ms : Nat} {ret : Option FieldType} {Qf : State → Prop} {K N : MK} {I : MI} {L : ML} {R : MR} {pc : Nat} {lv : List (Nat × Value)} {st : List Value} (hC : ZOk X G own cc n ret) {a : Nat} (hK : K a = 18) (hd : decode cc pc = .ok (.arraylength, 1)) (k : Z X G n mc ms Qf K N I L R (pc + 1) lv (.int (nI (N a)) :: st)) : Z X G n mc ms Qf K N I L R pc lv (.ref a :: st) := by
  intro H locs ls hR hS hl
  have hP := z_one (z_rp hR hK).2
  rw [show z_f G K N I L R a = .inl (G.2.1 4, N a, .inr (.inr (.inr (.inr (R a))))) from by rw [z_f, hK]; rfl] at hP
  exact va_alen hC.1 hC.2.1 hC.2.2.2.2.2.2.2.1 hP 0 4 rfl rfl rfl hd (k H locs ls hR hS hl)
theorem z_alen19 {X : ZX} {G : ZG} {own : String} {cc : ByteArray} {n mc ms : Nat} {ret : Option FieldType} {Qf : State → Prop} {K N : MK} {I : MI} {L : ML} {R : MR} {pc : Nat} {lv : List (Nat × Value)} {st : List Value} (hC : ZOk X G own cc n ret) {a : Nat} (hK : K a = 19) (hd : decode cc pc = .ok (.arraylength, 1)) (k : Z X G n mc ms Qf K N I L R (pc + 1) lv (.int (nI (N a)) :: st)) : Z X G n mc ms Qf K N I L R pc lv (.ref a :: st) := by
  intro H locs ls hR hS hl
  have hP := z_one (z_rp hR hK).2
  rw [show z_f G K N I L R a = .inl (G.2.1 5, N a, .inr (.inr (.inr (.inr (R a))))) from by rw [z_f, hK]; rfl] at hP
  exact va_alen hC.1 hC.2.1 hC.2.2.2.2.2.2.2.1 hP 0 5 rfl rfl rfl hd (k H locs ls hR hS hl)
/-! calls -/
theorem z_blind {G : ZG} {As : List Value} {K N : MK} {I : MI} {L : ML} {R : MR} : FrameBlind (z_Pc G As K N I L R) := by
  intro a U g mk h
  obtain ⟨h1, h2, h3, h4, h5, h6, h7, w0, w1, w2, w3, w4, w5, w6, w7, w8, w9⟩ := h
  exact ⟨h1, h2, va_K.moved (u := U) (U := U.calling g mk a) (Vm.Alike.refl U.vm) h3, h4, vk_S.moved (u := U) (U := U.calling g mk a) (Vm.Alike.refl U.vm) h5, va_Z.moved (u := U) (U := U.calling g mk a) (Vm.Alike.refl U.vm) h6, va_Zq.moved (u := U) (U := U.calling g mk a) (Vm.Alike.refl U.vm) h7, vk_R.same (u := U) (U := U.calling g mk a) rfl w0, vk_R.same (u := U) (U := U.calling g mk a) rfl w1, vk_R.same (u := U) (U := U.calling g mk a) rfl w2, vk_R.same (u := U) (U := U.calling g mk a) rfl w3, vk_R.same (u := U) (U := U.calling g mk a) rfl w4, vk_R.same (u := U) (U := U.calling g mk a) rfl w5, fun q hq => va_Nw.same rfl (u := U) (U := U.calling g mk a) rfl (w6 q hq), va_AO.moved (u := U) (U := U.calling g mk a) (Vm.Alike.refl U.vm) w7, va_AO.moved (u := U) (U := U.calling g mk a) (Vm.Alike.refl U.vm) w8, va_AO.moved (u := U) (U := U.calling g mk a) (Vm.Alike.refl U.vm) w9⟩
theorem z_gV {own C : String} {idx : Nat} {y : MethodName} {b : ByteArray} {mL : Nat} {r : Option FieldType} (h1 : Cond.methodLink own idx y ∈ z_tbl) (h2 : Cond.instanceMethod y ∈ z_tbl) (h3 : Cond.selects C y y ∈ z_tbl) (h4 : Cond.initialized C ∈ z_tbl) (h5 : Cond.code y b mL r ∈ z_tbl) : GoodIn z_tbl (wsV own idx C y (.code y b mL r :: z_tbl)) := by
  intro w hw
  have : w ∈ z_tbl := by
    simp only [wsV, List.cons_append, List.nil_append, List.mem_cons] at hw
    rcases hw with rfl | rfl | rfl | rfl | rfl | hw
    · exact h1
    · exact h2
    · exact h3
    · exact h4
    · exact h5
    · exact hw
  exact ⟨this, z_good w this⟩
theorem z_gS {own : String} {idx : Nat} {y : MethodName} {b : ByteArray} {mL : Nat} {r : Option FieldType} (h1 : Cond.methodLink own idx y ∈ z_tbl) (h2 : Cond.static y ∈ z_tbl) (h4 : Cond.initialized own ∈ z_tbl) (h5 : Cond.code y b mL r ∈ z_tbl) : GoodIn z_tbl (wsS own idx y (.code y b mL r :: z_tbl)) := by
  intro w hw
  have : w ∈ z_tbl := by
    simp only [wsS, List.cons_append, List.nil_append, List.mem_cons] at hw
    rcases hw with rfl | rfl | rfl | rfl | hw
    · exact h1
    · exact h2
    · exact h4
    · exact h5
    · exact hw
  exact ⟨this, z_good w this⟩
theorem z_gI {y : MethodName} {b : ByteArray} {mL : Nat} {r : Option FieldType} (h5 : Cond.code y b mL r ∈ z_tbl) : GoodIn z_tbl (.code y b mL r :: z_tbl) := by
  intro w hw
  have : w ∈ z_tbl := by
    rcases List.mem_cons.mp hw with rfl | hw
    · exact h5
    · exact hw
  exact ⟨this, z_good w this⟩
/-- behind a call -/
theorem z_back {X : ZX} {G : ZG} {own : String} {cc : ByteArray} {n mc ms mc1 ms1 : Nat} {ret : Option FieldType} {Qf : State → Prop} {QG : PostT} {pc : Nat} {lv : List (Nat × Value)} {st0 rest : List Value} {H : Heap} {locs : List Loc} {ls : Array Slot} {a : Array Value} (hC : ZOk X G own cc n ret) (hS : va_S (z_A G) X.2.2.2.2.1.heap H locs) (hl : lv_has ls n lv)
    (hr : va_Run X.1 X.2.1 X.2.2.1 X.2.2.2.1 X.2.2.2.2.1 X.2.2.2.2.2.1 X.2.2.2.2.2.2.1 X.2.2.2.2.2.2.2.1 X.2.2.2.2.2.2.2.2.1 X.2.2.2.2.2.2.2.2.2 H locs mc ms mc1 ms1 (F0 X.2.2.2.2.2.1 pc ls st0) rest (z_Qc G QG a) (z_A G))
    (k : ∀ v K N I L R, QG v K N I L R → Z X G n (mc + mc1) (ms + ms1) Qf K N I L R (pc + 3) lv (v.toList ++ rest)) : z_W X H locs mc ms Qf pc ls st0 := by
  intro T hT S
  obtain ⟨v, st₀, t, T', Lc, h0, X', hL, e1, e2, ⟨⟨w, K, N, I, L, R, hv, hq, hR⟩, hz, hk⟩, st⟩ := hr T hT S
  cases hv
  rw [h0] at hz hk
  obtain ⟨t2, a1, b1⟩ := k v K N I L R hq T'.heap (locs ++ Lc) ls (by rw [e1]; exact hR) ⟨Nat.le_trans hS.1 (by rw [e1]; exact hz), fun q h1 h2 => by rw [e1, hk q (Nat.lt_of_lt_of_le h1 hS.1) h2]; exact hS.2.1 q h1 h2, fun q hq => by
      rcases List.mem_append.mp hq with h | h
      · exact hS.2.2 q h
      · exact hL q h⟩ hl T' rfl X'
  exact ⟨t2, st t2 a1, b1⟩
theorem z_pre {X : ZX} {G : ZG} {own : String} {cc : ByteArray} {n : Nat} {ret : Option FieldType} {K N : MK} {I : MI} {L : ML} {R : MR} {H : Heap} {locs : List Loc} {As : List Value} (hC : ZOk X G own cc n ret) (hR : Rp G K N I L R H) (hS : va_S (z_A G) X.2.2.2.2.1.heap H locs) : PreS X.2.2.2.2.1 H (z_Pc G As K N I L R) As :=
  ⟨z_blind, fun U hU hW => ⟨rfl, by rw [hU]; exact hR, hC.2.2.2.2.2.2.2.next hS hW hU⟩⟩
theorem z_callV {X : ZX} {G : ZG} {own : String} {cc : ByteArray} {n mc ms : Nat} {ret : Option FieldType} {Qf : State → Prop} {K N : MK} {I : MI} {L : ML} {R : MR} {pc : Nat} {lv : List (Nat × Value)} {st : List Value} (hC : ZOk X G own cc n ret) {y : MethodName} {b : ByteArray} {mL na idx a : Nat} {r : Option FieldType} {rm : Room} {QG : PostT} {As rest : List Value} {mc1 ms1 : Nat} {c : Nat} {C : String} {T : u_T} {nn : Nat} {ty : Nat → FieldType} (hM : Met X.2.1 y (.code y b mL r :: z_tbl) rm (z_Pc G (.ref a :: As) K N I L R) (z_Qc G QG) mc1 ms1 (z_A G)) (hg : GoodIn z_tbl (wsV own idx C y (.code y b mL r :: z_tbl))) (hc : z_cls c C T nn ty) (hK : K a = c + 1) (hrc : rm.cells = mc1 ∧ rm.slots = ms1) (hd : decode cc pc = .ok (.invokevirtual idx, 3))
    (hy : y.cls = C ∧ y.cls ≠ "java/lang/invoke/MethodHandle" ∧ y.cls ≠ "java/lang/invoke/VarHandle" ∧ (parseMethodDescriptor y.desc).map (fun d => d.parameters.length) = some na) (hna : As.length = na) (hrm : rm.frames + 1 ≤ X.2.2.2.1.frames ∧ 8 + (mL + 11) + rm.locals ≤ X.2.2.2.1.locals) (hf : mc + mc1 ≤ X.2.2.2.1.cells ∧ ms + ms1 ≤ X.2.2.2.1.slots)
    (hst : st = As.reverse ++ .ref a :: rest) (hw : (rest.map fun v => v.category).sum ≤ 8)
    (k : ∀ v K N I L R, QG v K N I L R → Z X G n (mc + mc1) (ms + ms1) Qf K N I L R (pc + 3) lv (v.toList ++ rest)) : Z X G n mc ms Qf K N I L R pc lv st := by
  intro H locs ls hR hS hl
  obtain ⟨h1, h2, h3, h4, h5, h6, h7⟩ := hc
  have hP := z_one (z_rp hR hK).2
  rw [show z_f G K N I L R a = .inr (c, z_fs c (I a) (L a) (R a)) from z_E_obj hK h6] at hP
  have hp := z_pre (As := .ref a :: As) hC hR hS
  exact z_back hC hS hl (va_runV (As := As) (rest := rest) ⟨hC.1, hC.2.1, hC.2.2.2.2.2.2.1, hC.2.2.2.2.1, hC.2.2.2.1⟩ hM (cwV na hC.2.2.2.1 hg rfl hrc.1 hrc.2 hy hrm) ⟨hp.1, va_recv (q0 := 0) hC.2.2.2.2.2.2.2.1 hP h1 rfl, hp.2⟩ rfl hna hl.1 hst (lv_room hw) hd hf) k
theorem z_callS {X : ZX} {G : ZG} {own : String} {cc : ByteArray} {n mc ms : Nat} {ret : Option FieldType} {Qf : State → Prop} {K N : MK} {I : MI} {L : ML} {R : MR} {pc : Nat} {lv : List (Nat × Value)} {st : List Value} (hC : ZOk X G own cc n ret) {y : MethodName} {b : ByteArray} {mL na idx a : Nat} {r : Option FieldType} {rm : Room} {QG : PostT} {As rest : List Value} {mc1 ms1 : Nat} (hM : Met X.2.1 y (.code y b mL r :: z_tbl) rm (z_Pc G As K N I L R) (z_Qc G QG) mc1 ms1 (z_A G)) (hg : GoodIn z_tbl (wsS own idx y (.code y b mL r :: z_tbl))) (hrc : rm.cells = mc1 ∧ rm.slots = ms1) (hd : decode cc pc = .ok (.invokestatic idx, 3))
    (hy : y.cls = own ∧ y.cls ≠ "java/lang/invoke/MethodHandle" ∧ y.cls ≠ "java/lang/invoke/VarHandle" ∧ (parseMethodDescriptor y.desc).map (fun d => d.parameters.length) = some na) (hna : As.length = na) (hrm : rm.frames + 1 ≤ X.2.2.2.1.frames ∧ 8 + (mL + 11) + rm.locals ≤ X.2.2.2.1.locals) (hf : mc + mc1 ≤ X.2.2.2.1.cells ∧ ms + ms1 ≤ X.2.2.2.1.slots)
    (hst : st = As.reverse ++ rest) (hw : (rest.map fun v => v.category).sum ≤ 8)
    (k : ∀ v K N I L R, QG v K N I L R → Z X G n (mc + mc1) (ms + ms1) Qf K N I L R (pc + 3) lv (v.toList ++ rest)) : Z X G n mc ms Qf K N I L R pc lv st := by
  intro H locs ls hR hS hl
  have hp := z_pre (As := As) hC hR hS
  exact z_back hC hS hl (va_runS (As := As) (rest := rest) ⟨hC.1, hC.2.1, hC.2.2.2.2.2.2.1, hC.2.2.2.2.1, hC.2.2.2.1⟩ hM (cwS na hC.2.2.2.1 hg rfl hrc.1 hrc.2 hy hrm) hp rfl hna hl.1 hst (lv_room hw) hd hf) k
theorem z_callI {X : ZX} {G : ZG} {own : String} {cc : ByteArray} {n mc ms : Nat} {ret : Option FieldType} {Qf : State → Prop} {K N : MK} {I : MI} {L : ML} {R : MR} {pc : Nat} {lv : List (Nat × Value)} {st : List Value} (hC : ZOk X G own cc n ret) {y : MethodName} {b : ByteArray} {mL na idx a : Nat} {r : Option FieldType} {rm : Room} {QG : PostT} {As rest : List Value} {mc1 ms1 : Nat} (hM : Met X.2.1 y (.code y b mL none :: z_tbl) rm (z_Pc G (.ref a :: As) K N I L R) (z_Qc G QG) mc1 ms1 (z_A G)) (hcode : Cond.code y b mL none ∈ z_tbl) (hrc : rm.cells = mc1 ∧ rm.slots = ms1) (hini : Cond.initialized y.cls ∈ z_tbl) (hlk : Cond.methodLink own idx y ∈ z_tbl) (hin : Cond.instanceMethod y ∈ z_tbl) (hy1 : y.name = "<init>") (hd : decode cc pc = .ok (.invokespecial idx, 3))
    (hy : y.cls ≠ "java/lang/invoke/MethodHandle" ∧ y.cls ≠ "java/lang/invoke/VarHandle" ∧ (parseMethodDescriptor y.desc).map (fun d => d.parameters.length) = some na) (hna : As.length = na) (hrm : rm.frames + 1 ≤ X.2.2.2.1.frames ∧ 8 + (mL + 11) + rm.locals ≤ X.2.2.2.1.locals) (hf : mc + mc1 ≤ X.2.2.2.1.cells ∧ ms + ms1 ≤ X.2.2.2.1.slots)
    (hst : st = As.reverse ++ .ref a :: rest) (hw : (rest.map fun v => v.category).sum ≤ 8)
    (k : ∀ v K N I L R, QG v K N I L R → Z X G n (mc + mc1) (ms + ms1) Qf K N I L R (pc + 3) lv (v.toList ++ rest)) : Z X G n mc ms Qf K N I L R pc lv st := by
  intro H locs ls hR hS hl
  have hp := z_pre (As := .ref a :: As) hC hR hS
  exact z_back hC hS hl (va_runI (As := As) (rest := rest) ⟨hC.1, hC.2.1, hC.2.2.2.2.2.2.1, hC.2.2.2.2.1, hC.2.2.2.1⟩ hM (cwI na hC.2.2.2.1 (z_gI hcode) rfl hrc.1 hrc.2 (hC.2.2.2.1 _ hini) (hC.2.2.2.1 _ hlk) (hC.2.2.2.1 _ hin) hy1 hy hrm) hp rfl hna hl.1 hst (lv_room hw) hd hf) k
abbrev qPi (K : MK) (N : MK) (I : MI) (L : ML) (R : MR) (Q : Int32 → Prop) : PostT := fun v K1 N1 I1 L1 R1 => ∃ x : Int32, (v = some (.int x) ∧ K1 = K ∧ N1 = N ∧ I1 = I ∧ L1 = L ∧ R1 = R ∧ Q x)
theorem z_kPi {X : ZX} {G : ZG} {n mc ms : Nat} {Qf : State → Prop} {K N : MK} {I : MI} {L : ML} {R : MR} {pc : Nat} {lv : List (Nat × Value)} {rest : List Value} {Q : Int32 → Prop} (k : ∀ (x : Int32) (_ : Q x), Z X G n mc ms Qf K N I L R pc lv (.int x :: rest)) : ∀ v K1 N1 I1 L1 R1, qPi K N I L R Q v K1 N1 I1 L1 R1 → Z X G n mc ms Qf K1 N1 I1 L1 R1 pc lv (v.toList ++ rest) := by
  intro v K1 N1 I1 L1 R1 h
  obtain ⟨x, rfl, rfl, rfl, rfl, rfl, rfl, h⟩ := h
  exact k x h
abbrev qPz (K : MK) (N : MK) (I : MI) (L : ML) (R : MR) (Q : Bool → Prop) : PostT := fun v K1 N1 I1 L1 R1 => ∃ x : Bool, (v = some (.int (bi x)) ∧ K1 = K ∧ N1 = N ∧ I1 = I ∧ L1 = L ∧ R1 = R ∧ Q x)
theorem z_kPz {X : ZX} {G : ZG} {n mc ms : Nat} {Qf : State → Prop} {K N : MK} {I : MI} {L : ML} {R : MR} {pc : Nat} {lv : List (Nat × Value)} {rest : List Value} {Q : Bool → Prop} (k : ∀ (x : Bool) (_ : Q x), Z X G n mc ms Qf K N I L R pc lv (.int (bi x) :: rest)) : ∀ v K1 N1 I1 L1 R1, qPz K N I L R Q v K1 N1 I1 L1 R1 → Z X G n mc ms Qf K1 N1 I1 L1 R1 pc lv (v.toList ++ rest) := by
  intro v K1 N1 I1 L1 R1 h
  obtain ⟨x, rfl, rfl, rfl, rfl, rfl, rfl, h⟩ := h
  exact k x h
abbrev qPl (K : MK) (N : MK) (I : MI) (L : ML) (R : MR) (Q : Int64 → Prop) : PostT := fun v K1 N1 I1 L1 R1 => ∃ x : Int64, (v = some (.long x) ∧ K1 = K ∧ N1 = N ∧ I1 = I ∧ L1 = L ∧ R1 = R ∧ Q x)
theorem z_kPl {X : ZX} {G : ZG} {n mc ms : Nat} {Qf : State → Prop} {K N : MK} {I : MI} {L : ML} {R : MR} {pc : Nat} {lv : List (Nat × Value)} {rest : List Value} {Q : Int64 → Prop} (k : ∀ (x : Int64) (_ : Q x), Z X G n mc ms Qf K N I L R pc lv (.long x :: rest)) : ∀ v K1 N1 I1 L1 R1, qPl K N I L R Q v K1 N1 I1 L1 R1 → Z X G n mc ms Qf K1 N1 I1 L1 R1 pc lv (v.toList ++ rest) := by
  intro v K1 N1 I1 L1 R1 h
  obtain ⟨x, rfl, rfl, rfl, rfl, rfl, rfl, h⟩ := h
  exact k x h
abbrev qPv (K : MK) (N : MK) (I : MI) (L : ML) (R : MR) (Q : Prop) : PostT := fun v K1 N1 I1 L1 R1 => (v = none ∧ K1 = K ∧ N1 = N ∧ I1 = I ∧ L1 = L ∧ R1 = R ∧ Q)
theorem z_kPv {X : ZX} {G : ZG} {n mc ms : Nat} {Qf : State → Prop} {K N : MK} {I : MI} {L : ML} {R : MR} {pc : Nat} {lv : List (Nat × Value)} {rest : List Value} {Q : Prop} (k : ∀ (_ : Q), Z X G n mc ms Qf K N I L R pc lv rest) : ∀ v K1 N1 I1 L1 R1, qPv K N I L R Q v K1 N1 I1 L1 R1 → Z X G n mc ms Qf K1 N1 I1 L1 R1 pc lv (v.toList ++ rest) := by
  intro v K1 N1 I1 L1 R1 h
  obtain ⟨rfl, rfl, rfl, rfl, rfl, rfl, h⟩ := h
  exact k h
abbrev qIi (K : MK) (N : MK) (L : ML) (R : MR) (Q : Int32 → MI → Prop) : PostT := fun v K1 N1 I1 L1 R1 => ∃ x : Int32, (v = some (.int x) ∧ K1 = K ∧ N1 = N ∧ L1 = L ∧ R1 = R ∧ Q x I1)
theorem z_kIi {X : ZX} {G : ZG} {n mc ms : Nat} {Qf : State → Prop} {K N : MK} {I : MI} {L : ML} {R : MR} {pc : Nat} {lv : List (Nat × Value)} {rest : List Value} {Q : Int32 → MI → Prop} (k : ∀ (x : Int32) (I1 : MI) (_ : Q x I1), Z X G n mc ms Qf K N I1 L R pc lv (.int x :: rest)) : ∀ v K1 N1 I1 L1 R1, qIi K N L R Q v K1 N1 I1 L1 R1 → Z X G n mc ms Qf K1 N1 I1 L1 R1 pc lv (v.toList ++ rest) := by
  intro v K1 N1 I1 L1 R1 h
  obtain ⟨x, rfl, rfl, rfl, rfl, rfl, h⟩ := h
  exact k x I1 h
abbrev qIz (K : MK) (N : MK) (L : ML) (R : MR) (Q : Bool → MI → Prop) : PostT := fun v K1 N1 I1 L1 R1 => ∃ x : Bool, (v = some (.int (bi x)) ∧ K1 = K ∧ N1 = N ∧ L1 = L ∧ R1 = R ∧ Q x I1)
theorem z_kIz {X : ZX} {G : ZG} {n mc ms : Nat} {Qf : State → Prop} {K N : MK} {I : MI} {L : ML} {R : MR} {pc : Nat} {lv : List (Nat × Value)} {rest : List Value} {Q : Bool → MI → Prop} (k : ∀ (x : Bool) (I1 : MI) (_ : Q x I1), Z X G n mc ms Qf K N I1 L R pc lv (.int (bi x) :: rest)) : ∀ v K1 N1 I1 L1 R1, qIz K N L R Q v K1 N1 I1 L1 R1 → Z X G n mc ms Qf K1 N1 I1 L1 R1 pc lv (v.toList ++ rest) := by
  intro v K1 N1 I1 L1 R1 h
  obtain ⟨x, rfl, rfl, rfl, rfl, rfl, h⟩ := h
  exact k x I1 h
abbrev qIl (K : MK) (N : MK) (L : ML) (R : MR) (Q : Int64 → MI → Prop) : PostT := fun v K1 N1 I1 L1 R1 => ∃ x : Int64, (v = some (.long x) ∧ K1 = K ∧ N1 = N ∧ L1 = L ∧ R1 = R ∧ Q x I1)
theorem z_kIl {X : ZX} {G : ZG} {n mc ms : Nat} {Qf : State → Prop} {K N : MK} {I : MI} {L : ML} {R : MR} {pc : Nat} {lv : List (Nat × Value)} {rest : List Value} {Q : Int64 → MI → Prop} (k : ∀ (x : Int64) (I1 : MI) (_ : Q x I1), Z X G n mc ms Qf K N I1 L R pc lv (.long x :: rest)) : ∀ v K1 N1 I1 L1 R1, qIl K N L R Q v K1 N1 I1 L1 R1 → Z X G n mc ms Qf K1 N1 I1 L1 R1 pc lv (v.toList ++ rest) := by
  intro v K1 N1 I1 L1 R1 h
  obtain ⟨x, rfl, rfl, rfl, rfl, rfl, h⟩ := h
  exact k x I1 h
abbrev qIv (K : MK) (N : MK) (L : ML) (R : MR) (Q : MI → Prop) : PostT := fun v K1 N1 I1 L1 R1 => (v = none ∧ K1 = K ∧ N1 = N ∧ L1 = L ∧ R1 = R ∧ Q I1)
theorem z_kIv {X : ZX} {G : ZG} {n mc ms : Nat} {Qf : State → Prop} {K N : MK} {I : MI} {L : ML} {R : MR} {pc : Nat} {lv : List (Nat × Value)} {rest : List Value} {Q : MI → Prop} (k : ∀ (I1 : MI) (_ : Q I1), Z X G n mc ms Qf K N I1 L R pc lv rest) : ∀ v K1 N1 I1 L1 R1, qIv K N L R Q v K1 N1 I1 L1 R1 → Z X G n mc ms Qf K1 N1 I1 L1 R1 pc lv (v.toList ++ rest) := by
  intro v K1 N1 I1 L1 R1 h
  obtain ⟨rfl, rfl, rfl, rfl, rfl, h⟩ := h
  exact k I1 h
abbrev qLi (K : MK) (N : MK) (R : MR) (Q : Int32 → MI → ML → Prop) : PostT := fun v K1 N1 I1 L1 R1 => ∃ x : Int32, (v = some (.int x) ∧ K1 = K ∧ N1 = N ∧ R1 = R ∧ Q x I1 L1)
theorem z_kLi {X : ZX} {G : ZG} {n mc ms : Nat} {Qf : State → Prop} {K N : MK} {I : MI} {L : ML} {R : MR} {pc : Nat} {lv : List (Nat × Value)} {rest : List Value} {Q : Int32 → MI → ML → Prop} (k : ∀ (x : Int32) (I1 : MI) (L1 : ML) (_ : Q x I1 L1), Z X G n mc ms Qf K N I1 L1 R pc lv (.int x :: rest)) : ∀ v K1 N1 I1 L1 R1, qLi K N R Q v K1 N1 I1 L1 R1 → Z X G n mc ms Qf K1 N1 I1 L1 R1 pc lv (v.toList ++ rest) := by
  intro v K1 N1 I1 L1 R1 h
  obtain ⟨x, rfl, rfl, rfl, rfl, h⟩ := h
  exact k x I1 L1 h
abbrev qLz (K : MK) (N : MK) (R : MR) (Q : Bool → MI → ML → Prop) : PostT := fun v K1 N1 I1 L1 R1 => ∃ x : Bool, (v = some (.int (bi x)) ∧ K1 = K ∧ N1 = N ∧ R1 = R ∧ Q x I1 L1)
theorem z_kLz {X : ZX} {G : ZG} {n mc ms : Nat} {Qf : State → Prop} {K N : MK} {I : MI} {L : ML} {R : MR} {pc : Nat} {lv : List (Nat × Value)} {rest : List Value} {Q : Bool → MI → ML → Prop} (k : ∀ (x : Bool) (I1 : MI) (L1 : ML) (_ : Q x I1 L1), Z X G n mc ms Qf K N I1 L1 R pc lv (.int (bi x) :: rest)) : ∀ v K1 N1 I1 L1 R1, qLz K N R Q v K1 N1 I1 L1 R1 → Z X G n mc ms Qf K1 N1 I1 L1 R1 pc lv (v.toList ++ rest) := by
  intro v K1 N1 I1 L1 R1 h
  obtain ⟨x, rfl, rfl, rfl, rfl, h⟩ := h
  exact k x I1 L1 h
abbrev qLl (K : MK) (N : MK) (R : MR) (Q : Int64 → MI → ML → Prop) : PostT := fun v K1 N1 I1 L1 R1 => ∃ x : Int64, (v = some (.long x) ∧ K1 = K ∧ N1 = N ∧ R1 = R ∧ Q x I1 L1)
theorem z_kLl {X : ZX} {G : ZG} {n mc ms : Nat} {Qf : State → Prop} {K N : MK} {I : MI} {L : ML} {R : MR} {pc : Nat} {lv : List (Nat × Value)} {rest : List Value} {Q : Int64 → MI → ML → Prop} (k : ∀ (x : Int64) (I1 : MI) (L1 : ML) (_ : Q x I1 L1), Z X G n mc ms Qf K N I1 L1 R pc lv (.long x :: rest)) : ∀ v K1 N1 I1 L1 R1, qLl K N R Q v K1 N1 I1 L1 R1 → Z X G n mc ms Qf K1 N1 I1 L1 R1 pc lv (v.toList ++ rest) := by
  intro v K1 N1 I1 L1 R1 h
  obtain ⟨x, rfl, rfl, rfl, rfl, h⟩ := h
  exact k x I1 L1 h
abbrev qLv (K : MK) (N : MK) (R : MR) (Q : MI → ML → Prop) : PostT := fun v K1 N1 I1 L1 R1 => (v = none ∧ K1 = K ∧ N1 = N ∧ R1 = R ∧ Q I1 L1)
theorem z_kLv {X : ZX} {G : ZG} {n mc ms : Nat} {Qf : State → Prop} {K N : MK} {I : MI} {L : ML} {R : MR} {pc : Nat} {lv : List (Nat × Value)} {rest : List Value} {Q : MI → ML → Prop} (k : ∀ (I1 : MI) (L1 : ML) (_ : Q I1 L1), Z X G n mc ms Qf K N I1 L1 R pc lv rest) : ∀ v K1 N1 I1 L1 R1, qLv K N R Q v K1 N1 I1 L1 R1 → Z X G n mc ms Qf K1 N1 I1 L1 R1 pc lv (v.toList ++ rest) := by
  intro v K1 N1 I1 L1 R1 h
  obtain ⟨rfl, rfl, rfl, rfl, h⟩ := h
  exact k I1 L1 h
abbrev qRi (K : MK) (N : MK) (Q : Int32 → MI → ML → MR → Prop) : PostT := fun v K1 N1 I1 L1 R1 => ∃ x : Int32, (v = some (.int x) ∧ K1 = K ∧ N1 = N ∧ Q x I1 L1 R1)
theorem z_kRi {X : ZX} {G : ZG} {n mc ms : Nat} {Qf : State → Prop} {K N : MK} {I : MI} {L : ML} {R : MR} {pc : Nat} {lv : List (Nat × Value)} {rest : List Value} {Q : Int32 → MI → ML → MR → Prop} (k : ∀ (x : Int32) (I1 : MI) (L1 : ML) (R1 : MR) (_ : Q x I1 L1 R1), Z X G n mc ms Qf K N I1 L1 R1 pc lv (.int x :: rest)) : ∀ v K1 N1 I1 L1 R1, qRi K N Q v K1 N1 I1 L1 R1 → Z X G n mc ms Qf K1 N1 I1 L1 R1 pc lv (v.toList ++ rest) := by
  intro v K1 N1 I1 L1 R1 h
  obtain ⟨x, rfl, rfl, rfl, h⟩ := h
  exact k x I1 L1 R1 h
abbrev qRz (K : MK) (N : MK) (Q : Bool → MI → ML → MR → Prop) : PostT := fun v K1 N1 I1 L1 R1 => ∃ x : Bool, (v = some (.int (bi x)) ∧ K1 = K ∧ N1 = N ∧ Q x I1 L1 R1)
theorem z_kRz {X : ZX} {G : ZG} {n mc ms : Nat} {Qf : State → Prop} {K N : MK} {I : MI} {L : ML} {R : MR} {pc : Nat} {lv : List (Nat × Value)} {rest : List Value} {Q : Bool → MI → ML → MR → Prop} (k : ∀ (x : Bool) (I1 : MI) (L1 : ML) (R1 : MR) (_ : Q x I1 L1 R1), Z X G n mc ms Qf K N I1 L1 R1 pc lv (.int (bi x) :: rest)) : ∀ v K1 N1 I1 L1 R1, qRz K N Q v K1 N1 I1 L1 R1 → Z X G n mc ms Qf K1 N1 I1 L1 R1 pc lv (v.toList ++ rest) := by
  intro v K1 N1 I1 L1 R1 h
  obtain ⟨x, rfl, rfl, rfl, h⟩ := h
  exact k x I1 L1 R1 h
abbrev qRl (K : MK) (N : MK) (Q : Int64 → MI → ML → MR → Prop) : PostT := fun v K1 N1 I1 L1 R1 => ∃ x : Int64, (v = some (.long x) ∧ K1 = K ∧ N1 = N ∧ Q x I1 L1 R1)
theorem z_kRl {X : ZX} {G : ZG} {n mc ms : Nat} {Qf : State → Prop} {K N : MK} {I : MI} {L : ML} {R : MR} {pc : Nat} {lv : List (Nat × Value)} {rest : List Value} {Q : Int64 → MI → ML → MR → Prop} (k : ∀ (x : Int64) (I1 : MI) (L1 : ML) (R1 : MR) (_ : Q x I1 L1 R1), Z X G n mc ms Qf K N I1 L1 R1 pc lv (.long x :: rest)) : ∀ v K1 N1 I1 L1 R1, qRl K N Q v K1 N1 I1 L1 R1 → Z X G n mc ms Qf K1 N1 I1 L1 R1 pc lv (v.toList ++ rest) := by
  intro v K1 N1 I1 L1 R1 h
  obtain ⟨x, rfl, rfl, rfl, h⟩ := h
  exact k x I1 L1 R1 h
abbrev qRv (K : MK) (N : MK) (Q : MI → ML → MR → Prop) : PostT := fun v K1 N1 I1 L1 R1 => (v = none ∧ K1 = K ∧ N1 = N ∧ Q I1 L1 R1)
theorem z_kRv {X : ZX} {G : ZG} {n mc ms : Nat} {Qf : State → Prop} {K N : MK} {I : MI} {L : ML} {R : MR} {pc : Nat} {lv : List (Nat × Value)} {rest : List Value} {Q : MI → ML → MR → Prop} (k : ∀ (I1 : MI) (L1 : ML) (R1 : MR) (_ : Q I1 L1 R1), Z X G n mc ms Qf K N I1 L1 R1 pc lv rest) : ∀ v K1 N1 I1 L1 R1, qRv K N Q v K1 N1 I1 L1 R1 → Z X G n mc ms Qf K1 N1 I1 L1 R1 pc lv (v.toList ++ rest) := by
  intro v K1 N1 I1 L1 R1 h
  obtain ⟨rfl, rfl, rfl, h⟩ := h
  exact k I1 L1 R1 h
abbrev qKi (Q : Int32 → MK → MK → MI → ML → MR → Prop) : PostT := fun v K1 N1 I1 L1 R1 => ∃ x : Int32, (v = some (.int x) ∧ Q x K1 N1 I1 L1 R1)
theorem z_kKi {X : ZX} {G : ZG} {n mc ms : Nat} {Qf : State → Prop} {K N : MK} {I : MI} {L : ML} {R : MR} {pc : Nat} {lv : List (Nat × Value)} {rest : List Value} {Q : Int32 → MK → MK → MI → ML → MR → Prop} (k : ∀ (x : Int32) (K1 : MK) (N1 : MK) (I1 : MI) (L1 : ML) (R1 : MR) (_ : Q x K1 N1 I1 L1 R1), Z X G n mc ms Qf K1 N1 I1 L1 R1 pc lv (.int x :: rest)) : ∀ v K1 N1 I1 L1 R1, qKi Q v K1 N1 I1 L1 R1 → Z X G n mc ms Qf K1 N1 I1 L1 R1 pc lv (v.toList ++ rest) := by
  intro v K1 N1 I1 L1 R1 h
  obtain ⟨x, rfl, h⟩ := h
  exact k x K1 N1 I1 L1 R1 h
abbrev qKz (Q : Bool → MK → MK → MI → ML → MR → Prop) : PostT := fun v K1 N1 I1 L1 R1 => ∃ x : Bool, (v = some (.int (bi x)) ∧ Q x K1 N1 I1 L1 R1)
theorem z_kKz {X : ZX} {G : ZG} {n mc ms : Nat} {Qf : State → Prop} {K N : MK} {I : MI} {L : ML} {R : MR} {pc : Nat} {lv : List (Nat × Value)} {rest : List Value} {Q : Bool → MK → MK → MI → ML → MR → Prop} (k : ∀ (x : Bool) (K1 : MK) (N1 : MK) (I1 : MI) (L1 : ML) (R1 : MR) (_ : Q x K1 N1 I1 L1 R1), Z X G n mc ms Qf K1 N1 I1 L1 R1 pc lv (.int (bi x) :: rest)) : ∀ v K1 N1 I1 L1 R1, qKz Q v K1 N1 I1 L1 R1 → Z X G n mc ms Qf K1 N1 I1 L1 R1 pc lv (v.toList ++ rest) := by
  intro v K1 N1 I1 L1 R1 h
  obtain ⟨x, rfl, h⟩ := h
  exact k x K1 N1 I1 L1 R1 h
abbrev qKl (Q : Int64 → MK → MK → MI → ML → MR → Prop) : PostT := fun v K1 N1 I1 L1 R1 => ∃ x : Int64, (v = some (.long x) ∧ Q x K1 N1 I1 L1 R1)
theorem z_kKl {X : ZX} {G : ZG} {n mc ms : Nat} {Qf : State → Prop} {K N : MK} {I : MI} {L : ML} {R : MR} {pc : Nat} {lv : List (Nat × Value)} {rest : List Value} {Q : Int64 → MK → MK → MI → ML → MR → Prop} (k : ∀ (x : Int64) (K1 : MK) (N1 : MK) (I1 : MI) (L1 : ML) (R1 : MR) (_ : Q x K1 N1 I1 L1 R1), Z X G n mc ms Qf K1 N1 I1 L1 R1 pc lv (.long x :: rest)) : ∀ v K1 N1 I1 L1 R1, qKl Q v K1 N1 I1 L1 R1 → Z X G n mc ms Qf K1 N1 I1 L1 R1 pc lv (v.toList ++ rest) := by
  intro v K1 N1 I1 L1 R1 h
  obtain ⟨x, rfl, h⟩ := h
  exact k x K1 N1 I1 L1 R1 h
abbrev qKv (Q : MK → MK → MI → ML → MR → Prop) : PostT := fun v K1 N1 I1 L1 R1 => (v = none ∧ Q K1 N1 I1 L1 R1)
theorem z_kKv {X : ZX} {G : ZG} {n mc ms : Nat} {Qf : State → Prop} {K N : MK} {I : MI} {L : ML} {R : MR} {pc : Nat} {lv : List (Nat × Value)} {rest : List Value} {Q : MK → MK → MI → ML → MR → Prop} (k : ∀ (K1 : MK) (N1 : MK) (I1 : MI) (L1 : ML) (R1 : MR) (_ : Q K1 N1 I1 L1 R1), Z X G n mc ms Qf K1 N1 I1 L1 R1 pc lv rest) : ∀ v K1 N1 I1 L1 R1, qKv Q v K1 N1 I1 L1 R1 → Z X G n mc ms Qf K1 N1 I1 L1 R1 pc lv (v.toList ++ rest) := by
  intro v K1 N1 I1 L1 R1 h
  obtain ⟨rfl, h⟩ := h
  exact k K1 N1 I1 L1 R1 h
