/-! 'throw new E(text)' where E's constructor hands the text on by an entry of its own (the kit's row has entry 7 throughout; NoSuchElementException has 13) -/
/-- what the kit's list for 'throw new E(text)' holds behind the chain of constructors -/
def zt_rest (own : String) (ic : Nat) (cls : String) : List Cond :=
  (Bundle.ownAtoms own ic cls []).drop (Bundle.throwableAtoms ++ Bundle.throwableSAtoms ++ Bundle.chainSAtoms cls []).length
/-- the chain begins with the entry and the bytes that E has, and goes on as the kit's from the class above -/
def zt_atoms (own : String) (ic : Nat) (cls sup : String) (names : List String) (ik1 : Nat) (bts : ByteArray) : List Cond :=
  Bundle.throwableAtoms ++ (Bundle.throwableSAtoms ++ (Bundle.passSAtoms cls sup ik1 bts ++ (Bundle.chainSAtoms sup names ++ zt_rest own ic cls)))
section
variable {own cls sup : String} {ic ik1 : Nat} {names : List String} {bts : ByteArray} {w : Cond}
theorem zt_inT (h : w ∈ Bundle.throwableAtoms) : w ∈ zt_atoms own ic cls sup names ik1 bts := List.mem_append_left _ h
theorem zt_inS (h : w ∈ Bundle.throwableSAtoms) : w ∈ zt_atoms own ic cls sup names ik1 bts := List.mem_append_right _ (List.mem_append_left _ h)
theorem zt_inP (h : w ∈ Bundle.passSAtoms cls sup ik1 bts) : w ∈ zt_atoms own ic cls sup names ik1 bts := List.mem_append_right _ (List.mem_append_right _ (List.mem_append_left _ h))
theorem zt_inN (h : w ∈ Bundle.chainSAtoms sup names) : w ∈ zt_atoms own ic cls sup names ik1 bts := List.mem_append_right _ (List.mem_append_right _ (List.mem_append_right _ (List.mem_append_left _ h)))
theorem zt_inC (h : w ∈ Bundle.passSAtoms cls sup ik1 bts ++ Bundle.chainSAtoms sup names) : w ∈ zt_atoms own ic cls sup names ik1 bts := (List.mem_append.mp h).elim zt_inP zt_inN
theorem zt_inR (h : w ∈ zt_rest own ic cls) : w ∈ zt_atoms own ic cls sup names ik1 bts := List.mem_append_right _ (List.mem_append_right _ (List.mem_append_right _ (List.mem_append_right _ h)))
end
/-- the chain's first class by its own entry and bytes, the rest by the kit's rule for chains -/
theorem zt_chain {args : Array Value} {s : State} {plat : Platform} (hpl : plat.magicAccessors = ({} : Platform).magicAccessors) {top : MethodId} (htop : s.methodNamed? (Bundle.initS Bundle.tN) = some top)
    {cls sup : String} {names : List String} {ik1 : Nat} {bts : ByteArray} (hcls : Bundle.fit cls = true) (hsup : Bundle.fit sup = true) (hnames : ∀ n ∈ names, Bundle.fit n = true)
    (q0 : decode bts 0 = .ok (.aload_n 0, 1)) (q1 : decode bts 1 = .ok (.aload_n 1, 1)) (q2 : decode bts 2 = .ok (.invokespecial ik1, 3)) (q5 : decode bts 5 = .ok (.return_, 1))
    (h : ∀ w ∈ Bundle.passSAtoms cls sup ik1 bts ++ Bundle.chainSAtoms sup names, w.before args s = true) :
    ∃ (B : PassC) (Bs : List PassC), Bs.length = names.length + 1 ∧ B.LinksS plat s ∧ (∀ P, P ∈ Bs → P.LinksS plat s) ∧ s.methodNamed? (Bundle.initS cls) = some B.m ∧
        B.sup = firstOf top (Bs.map (·.toPassT)) ∧ PassesOn top (Bs.map (·.toPassT)) := by
  have rest := Bundle.chainS (args := args) hpl htop names sup hsup hnames (fun w hw => h w (List.mem_append_right _ hw))
  have first := PassC.ofS_atoms (args := args) (s := s) hpl (X := cls) (Y := sup) (Bundle.fit_spec hcls).1 (Bundle.fit_spec hsup).2 q0 q1 q2 q5 (fun w hw => h w (List.mem_append_left _ hw))
  match first, rest with
  | ⟨B, lB, mB, sB⟩, ⟨A, As, nA, lA, lAs, mA, sA, pA⟩ =>
    have same : B.sup = A.m := Option.some.inj (sB.symm.trans mA)
    have all : ∀ P, P ∈ A :: As → P.LinksS plat s := fun P hP => (List.mem_cons.mp hP).elim (fun e => e ▸ lA) (lAs P)
    exact ⟨B, A :: As, congrArg (· + 1) nA, lB, all, mB, same, sA, pA⟩
set_option maxHeartbeats 2000000 in
theorem zt_made {p : Program} {l : Launch} {e : Env} {R : Room} {s : State} {m₀ : MethodId} {args : Array Value} {below : List Frame} {meth : Method} {c : Code} {W : State} {locs : List Loc} {cells slots : Nat} (X : Stand p l e R s m₀ args below meth c W locs cells slots) (hexec : p.tables.exec = Jvm.exec) (htr : e.platform.stackTraces = false) {own cls sup : String} {names : List String} {ic ik1 : Nat} {bts : ByteArray}
    (hown : s.vm.findClass own = some m₀.cls) (hcls : Bundle.fit cls = true) (hsup : Bundle.fit sup = true) (hnames : ∀ n ∈ names, Bundle.fit n = true)
    (q0 : decode bts 0 = .ok (.aload_n 0, 1)) (q1 : decode bts 1 = .ok (.aload_n 1, 1)) (q2 : decode bts 2 = .ok (.invokespecial ik1, 3)) (q5 : decode bts 5 = .ok (.return_, 1))
    (h : ∀ a ∈ zt_atoms own ic cls sup names ik1 bts, a.before args s = true)
    (hlocs : ∀ x ∈ locs, ∀ cell, s.heap[x.base]? = some cell → cell.vm.isStatics = false)
    {a : Addr} {cX : ClassId} {kX : Class} (hfoundX : s.vm.findClass cls = some cX) (hkX : s.vm.classes[cX]? = some kX) (hcell : W.heap[a]? = some (freshCell cX kX)) (hnew : s.heap.size ≤ a)
    {msg : Value} (hmsg : msg.isRef = true)
    {g : JFrame} (hg : g.method = m₀) (hsize : g.locals.size = c.maxLocals) {rest : List Value} (hstack : g.stack = msg :: .ref a :: .ref a :: rest)
    (hd6 : decode c.code g.pc = .ok (.invokespecial ic, 3))
    (hRframes : names.length + 4 < R.frames) (hRlocals : 2 * g.monitorRoom + ((Value.ref a :: rest).map fun v => v.category).sum + (13 * (names.length + 2) + 42) ≤ R.locals) :
    ∃ (V : State) (ce : Cell) (L : List Loc), Stand p l e R s m₀ args below meth c (V.setCell a ce) (locs ++ L) cells slots ∧ (∀ y ∈ L, y.base = a) ∧ a < V.heap.size ∧ ce.cls = cX ∧ ce.vm = .none ∧
      ∀ target, Steps p.tables e below ((V.setCell a ce).setTop { g with stack := .ref a :: rest, pc := g.pc + 3 }) target → Steps p.tables e below (W.setTop g) target := by
  have howns : e.platform.frameOwnsMonitors = true := by rw [X.admits.platform]
  have hfin : e.platform.finalization = false := by rw [X.admits.platform]
  have hpl : e.platform.magicAccessors = ({} : Platform).magicAccessors := by rw [X.admits.platform]
  have a' : ∀ x, x ∈ zt_rest own ic cls → x.holds args s none s [] = true := fun x hx => h x (zt_inR hx)
  obtain ⟨T, Z0, L, -, Y⟩ := ThrowableC.of_atoms (args := args) howns hfin hpl (fun x hx => h x (zt_inT hx))
  obtain ⟨Z, M, LZ, LM, hnZ⟩ := Init0T.ofS_atoms (args := args) hpl L Y (fun x hx => h x (zt_inS hx))
  obtain ⟨P1, Ps, hlen, L1, hL, hP1m, hlink1, hlink⟩ := zt_chain (args := args) hpl hnZ hcls hsup hnames q0 q1 q2 q5 (fun x hx => h x (zt_inC hx))
  have hfound : s.vm.findClass cls = some P1.m.cls := findClass_of_methodNamed hP1m
  cases Option.some.inj (hfoundX.symm.trans hfound)
  obtain ⟨c1, kX', hc1, hk, hord, -, -, hn6⟩ := Cond.instantiable_spec (a' (.instantiable cls 6) (by unfold zt_rest Bundle.ownAtoms; rw [List.drop_left]; simp))
  cases Option.some.inj (hc1.symm.trans hfound)
  cases Option.some.inj (hkX.symm.trans hk)
  have hsel0 : selectMethod e.platform s.vm P1.m.cls T.fill0 = .method T.fill0 := by
    obtain ⟨c2, r2, m2, q1, q2, q3, q4, -⟩ := Cond.selects_spec (a' (.selects cls Bundle.tFill0 Bundle.tFill0) (by unfold zt_rest Bundle.ownAtoms; rw [List.drop_left]; simp))
    cases Option.some.inj (q1.symm.trans hfound)
    cases Option.some.inj (q2.symm.trans (State.methodFound?_of_named Y.fill0 (by decide)))
    cases Option.some.inj (q3.symm.trans Y.fill0)
    rw [Launch.admits_selectMethod X.admits]; exact q4
  have hselF : selectMethod e.platform s.vm P1.m.cls T.fill = .method T.fill := by
    obtain ⟨c2, r2, m2, q1, q2, q3, q4, -⟩ := Cond.selects_spec (a' (.selects cls Bundle.tFill Bundle.tFill) (by unfold zt_rest Bundle.ownAtoms; rw [List.drop_left]; simp))
    cases Option.some.inj (q1.symm.trans hfound)
    cases Option.some.inj (q2.symm.trans (State.methodFound?_of_named Y.fill (by decide)))
    cases Option.some.inj (q3.symm.trans Y.fill)
    rw [Launch.admits_selectMethod X.admits]; exact q4
  obtain ⟨cellS0, hcS0, hiss⟩ := Y.statics
  obtain ⟨u0, hu0⟩ := Cond.staticRefV Y.unassigned L.unassignedStatic L.statics hcS0 hiss (a' (.isRef (.static Bundle.tN "UNASSIGNED_STACK" Bundle.steD)) (by unfold zt_rest Bundle.ownAtoms; rw [List.drop_left]; simp))
  obtain ⟨sen, hsen⟩ := Cond.staticRefV Y.sentinel L.sentinelStatic L.statics hcS0 hiss (a' (.isRef (.static Bundle.tN "SUPPRESSED_SENTINEL" Bundle.listD)) (by unfold zt_rest Bundle.ownAtoms; rw [List.drop_left]; simp))
  obtain ⟨ci198, i198, fB, hk198, hg198, ha198, hsB, -, hnB, htB, hffB⟩ := Cond.ownField (t := .object "java/lang/Object") Y.found L.cls (by decide +kernel) (a' (.fieldLink Bundle.tN 198 Bundle.tN "backtrace" "Ljava/lang/Object;") (by unfold zt_rest Bundle.ownAtoms; rw [List.drop_left]; simp)) (a' (.lays Bundle.tN Bundle.tN "backtrace" "Ljava/lang/Object;") (by unfold zt_rest Bundle.ownAtoms; rw [List.drop_left]; simp)) e.platform hpl
  obtain ⟨cellS, hcS', heS, -, hkeep⟩ := X.same.2.2.2.2.2 T.aS cellS0 hcS0
  have hcellS : W.heap[T.aS]? = some cellS := hcS'
  have hout' : ∀ i, (⟨T.aS, i⟩ : Loc) ∉ locs := fun i hmem => by
    have := hlocs _ hmem cellS0 hcS0
    rw [hiss] at this; cases this
  have hknownS : cellS.vm ≠ .unknown := by
    rw [heS]; intro hu
    rw [show cellS0.vm = .unknown from hu] at hiss
    cases hiss
  have hneS : T.aS ≠ a := Nat.ne_of_lt (Nat.lt_of_lt_of_le (Array.getElem?_eq_some_iff.mp hcS0).1 hnew)
  obtain ⟨iM, hffM⟩ := Y.msg
  obtain ⟨tyC, dC, hdC, hdnC⟩ := Cond.laysAt hfound hk Y.cause (a' (.lays cls Bundle.tN "cause" "Ljava/lang/Throwable;") (by unfold zt_rest Bundle.ownAtoms; rw [List.drop_left]; simp))
  obtain ⟨tyS, dS, hdS, hdnS⟩ := Cond.laysAt hfound hk Y.stack (a' (.lays cls Bundle.tN "stackTrace" Bundle.steD) (by unfold zt_rest Bundle.ownAtoms; rw [List.drop_left]; simp))
  obtain ⟨tyP, dP, hdP, hdnP⟩ := Cond.laysAt hfound hk Y.supp (a' (.lays cls Bundle.tN "suppressedExceptions" Bundle.listD) (by unfold zt_rest Bundle.ownAtoms; rw [List.drop_left]; simp))
  obtain ⟨tyM, dM, hdM, hdnM⟩ := Cond.laysAt hfound hk hffM (a' (.lays cls Bundle.tN "detailMessage" "Ljava/lang/String;") (by unfold zt_rest Bundle.ownAtoms; rw [List.drop_left]; simp))
  obtain ⟨tyB, dB, hdB, hdnB⟩ := Cond.laysAt hfound hk hffB (a' (.lays cls Bundle.tN "backtrace" "Ljava/lang/Object;") (by unfold zt_rest Bundle.ownAtoms; rw [List.drop_left]; simp))
  have bC := Cond.laysApart hdB hdC hdnB hdnC (by rw [hnB, Y.causeName]; decide)
  have bS := Cond.laysApart hdB hdS hdnB hdnS (by rw [hnB, Y.stackName]; decide)
  have bP := Cond.laysApart hdB hdP hdnB hdnP (by rw [hnB, Y.suppName]; decide)
  have hskip : SkipFacts T e.platform s (fun u => u) u0 ((preparedCellV T.toThrowableT (freshCell P1.m.cls kX) a u0 sen).withEntry W.cur) :=
    ⟨{ ci198 := ci198, i198 := i198, fBack := fB }, ⟨hk198, hg198, ha198, hsB⟩, by
      have := fresh_default (c := P1.m.cls) tyB
      rw [htB] at this
      simpa [preparedCellV, Cell.setSlot, Cell.withEntry, Array.getElem?_setIfInBounds, bC, bS, bP, bC.symm, bS.symm, bP.symm, defaultValue] using this, fun _ _ => rfl⟩
  obtain ⟨tm, methC, cdC, kC, vm₁, hnC, -, -, -, -, -, -, -, hW₁, st1⟩ := Steps.initColdS (tb := p.tables) (e := e) (below := below) (s := s) (U := W) X.here hexec X.warmed hpl hown (t := Bundle.initS cls) rfl rfl (Bundle.fit_spec hcls).2
    (a' (.methodLink own ic (Bundle.initS cls)) (by unfold zt_rest Bundle.ownAtoms; rw [List.drop_left]; simp)) (h (.instanceMethod (Bundle.initS cls)) (zt_inP (by simp [Bundle.passSAtoms]))) (bytes := bts) (maxL := 2) (h (.code (Bundle.initS cls) bts 2 none) (zt_inP (by simp [Bundle.passSAtoms])))
    (f := g) hg (a := a) (msg := msg) (rest := .ref a :: rest) hstack hd6
  cases Option.some.inj (hnC.symm.trans hP1m)
  have X₁ := X.noted hW₁
  obtain ⟨vm₂, X₂, st2⟩ := X₁.ctorMessageOffV hexec (g := { g with stack := .ref a :: rest }) hg hsize T L Z LZ M LM (P1 :: Ps)
    (fun P hP => by rcases List.mem_cons.mp hP with rfl | hP; exact L1; exact hL P hP) ⟨hlink1, hlink⟩ (u0 := u0) (sen := sen) (self := a) hmsg (cell := freshCell P1.m.cls kX) (cellS := cellS)
    hcell (fun _ => by simp) (by simp) rfl rfl hsel0 hselF hcellS hneS hknownS (by rw [hkeep _ (hout' _)]; exact hu0) (by rw [hkeep _ (hout' _)]; exact hsen)
    (Takes.of_laid hk hord tyC (by rw [Y.causeType]; rfl)) (Takes.of_laid hk hord tyS (by rw [Y.stackType]; exact fits_refV_array _ u0)) (Takes.of_laid hk hord tyP (by rw [Y.suppType]; exact fits_refV_object _ sen))
    (Takes.of_laid hk hord tyM (by rw [Y.msgType]; exact fits_refV_object _ ⟨msg, hmsg⟩)) Y.objLocals hskip htr [] hd6
    (by simp only [List.length_cons, hlen]; omega) (by simp only [List.length_cons, hlen]; exact hRlocals)
  have hlt : a < ((W.setVm vm₁).setVm vm₂).heap.size := (Array.getElem?_eq_some_iff.mp hcell).1
  refine ⟨(W.setVm vm₁).setVm vm₂, _, _, X₂, fun y hy => ?_, hlt, rfl, rfl, fun target hwalk => st1 _ (fun acts => ?_)⟩
  · simp only [List.mem_cons, List.not_mem_nil, or_false] at hy
    rcases hy with rfl | rfl | rfl | rfl | rfl <;> rfl
  · rw [doInvoke_state]
    exact st2 _ hwalk
/-- made as above, and thrown: nothing that was there is another, but for what was so ahead of it -/
theorem zt_thrown {p : Program} {l : Launch} {e : Env} {R : Room} {s : State} {m₀ : MethodId} {args : Array Value} {below : List Frame} {meth : Method} {c : Code} {V : State} {locs L : List Loc} {cells slots : Nat} {a : Addr} {ce : Cell}
    (X : Stand p l e R s m₀ args below meth c (V.setCell a ce) (locs ++ L) cells slots) (hexec : p.tables.exec = Jvm.exec) (hL : ∀ y ∈ L, y.base = a) (hnew : s.heap.size ≤ a) (hlt : a < V.heap.size)
    {f : JFrame} (hf : f.method = m₀) (hlk : f.locked = none) (hen : f.entered = []) {rest : List Value} (hst : f.stack = .ref a :: rest)
    (hd : decode c.code f.pc = .ok (.athrow, 1)) (hno : ∀ x ∈ c.exceptionTable.toList, covers x f.pc = false) (hlocks : meth.locks = false) :
    ∃ U : State, (Steps p.tables e below ((V.setCell a ce).setTop f) U ∧ U.status = .running ∧ Ended U below (.threw a)) ∧ U.heap[a]? = some ce ∧ s.WarmedH U.vm ∧ s.sameButNew ({ U with vm := s.vm } : State) locs cells slots := by
  have Z := X.athrowLeaves hexec hf hlk hen hno hst hd hlocks
  refine ⟨_, ⟨Z.1, Z.2.1, Z.2.2.1⟩, heapAt_setCell_self ce hlt, Z.2.2.2.1, Z.2.2.2.2.weaken (fun y hy hb => ?_) (Nat.le_refl _) (Nat.le_refl _)⟩
  exact (List.mem_append.mp hy).resolve_right fun h => Nat.not_lt.mpr hnew (hL y h ▸ hb)
