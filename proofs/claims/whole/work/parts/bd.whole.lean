/-! THE CLAIM OUT OF ONE WALK OF THE LAW'S BODY. Your part is whole_start (and what it stands on); all else here is the same for every law, but numbers. -/
def R_law : String := "CodePlacesLaw"
def lw_P (b : Addr) (xs : List Int32) (args : Array Value) (s : State) : Prop := args = #[.ref b] ∧ s.IntsAt b xs ∧ xs.length ≤ 3072 ∧ (Jvm.Cond.and given_1 narrow_1).before args s = true
def lw_Q (_ : Array Value) (s : State) (o : Outcome) (t : State) : Prop := o = .returned (some (.int 1)) ∧ Framed s o t [] 601024 7293034
def lw_Z (below : List Frame) (a : Array Value) (s : State) : State → Prop := fun t => ∃ o, t.status = .running ∧ Ended t below o ∧ lw_Q a s o t
/-- the law's own end, with 1 on the stack, nothing written that was there before, its room as the claim has it -/
theorem lw_ret {p : Program} {l : Launch} {e : Env} {s : State} {m : MethodId} {below : List Frame} {meth : Method} {c : Code} {b : Nat} (hx : p.tables.exec = Jvm.exec) (hb : c.code = code) (hr : meth.sig.returnType = ret) (hlocks : meth.locks = false) {pc : Nat} {H : Heap} {ls : Array Slot} (hdg : decode code pc = .ok (.ireturn, 1)) : W p l e room_1 s m #[Value.ref b] below meth c H [] 601024 7293034 (lw_Z below #[Value.ref b] s) (F0 m pc ls [.int 1]) := by
  intro T hT X
  obtain ⟨fs, hret, hrun, hended, hW, hframe⟩ := X.leave (v := some (.int 1)) (hlocks := hlocks) (fun h => by rw [hr] at h; cases h)
  have hmeth' : T.vm.method? m = some meth := X.method'
  refine ⟨T.setFrames fs, ?_, .returned (some (.int 1)), hrun, hended, rfl, ⟨_, rfl⟩, hW, hframe⟩
  jvm_step X.here [X.here.top, hx, hb, hdg, hmeth', hr, ret, narrow_b1]
  (try refine ⟨rfl, ?_⟩); (try refine ⟨rfl, ?_⟩)
  first | (intro acts; rw [hret _ acts rfl rfl rfl]) | rw [hret _ _ rfl rfl rfl]
  exact Steps.refl _
/-- what holds at the law's entry: the machine, the code, the tables' words (any of lw_tbl by 'hts w (by decide +kernel)'), the script of L ints xs at the cell b, what the Statement gives of the start (any of its parts by flat_of_before) -/
def lw_At (p : Program) (s : State) (m : MethodId) (meth : Method) (c : Code) (b L : Nat) (xs : Nat → Int32) : Prop :=
  p.tables.exec = Jvm.exec ∧ c.code = code ∧ meth.sig.returnType = ret ∧ c.maxLocals = 7 ∧ s.vm.findClass R_law = some m.cls ∧ (∀ w ∈ lw_tbl, w.before #[Value.ref b] s = true) ∧ va_X b L xs s s.heap ∧ b < s.heap.size ∧ meth.locks = false ∧ (Jvm.Cond.and given_1 narrow_1).before #[Value.ref b] s = true
theorem iat_0 {x : Nat} {K N : MK} {I : MI} {L : ML} {R : MR} (hx : 1 ≤ x) (hN : N 0 = x) : IAT₁ x 0 [] [] [] [] K N I L R K N I L R := by
  refine ⟨hx, hN, ?_, ?_, ?_, ?_, ?_, ?_, ?_, ?_⟩
  · intro j hj; omega
  · intro e h; cases h
  · intro j i t h; cases h
  · intro e h; cases h
  · intro j i hj; omega
  · intro e h; cases h
  · intro j i hj; omega
  · exact fun _ _ _ => ⟨rfl, rfl, rfl, rfl, rfl⟩
set_option maxHeartbeats 4000000 in
set_option maxRecDepth 20000 in
theorem whole_start {p : Program} {e : Env} {s : State} {m : MethodId} {below : List Frame} {meth : Method} {c : Code} (l : Launch) (hflags : l.flags = flags0) {b L : Nat} {xs : Nat → Int32} (hL : L ≤ 3072) (C0 : lw_At p s m meth c b L xs) : W p l e room_1 s m #[Value.ref b] below meth c s.heap [] 0 0 (lw_Z below #[Value.ref b] s) (entryFrame m ([Value.ref b] : List Value).toArray 7) := by
  obtain ⟨hx, hb, hr, hml, hown, hts, hX, hbl, hlocks, hgv⟩ := id C0
  have h0 : 0 < s.heap.size := by omega
  have hfl : l.stackTraces = false := by
    unfold Launch.stackTraces
    rw [hflags]
    decide
  obtain ⟨G, hG, hZ⟩ := st_zxS h0 hts hgv
  have hbA : ¬ z_A G b := by
    show ¬ G.2.2.1 ≤ b
    rw [hG]
    omega
  obtain ⟨X, hXe⟩ : ∃ X : ZX, X = (p, l, e, room_1, s, m, #[.ref b], below, meth, c) := ⟨_, rfl⟩
  have hRm : X.2.2.2.1 = room_1 := by rw [hXe]
  have hs : X.2.2.2.2.1 = s := by rw [hXe]
  have hC : ZOk X G RL cL_law 7 (some .boolean) := by
    rw [hXe]
    exact ⟨hx, hb, hr, fun w hw => hts w (List.mem_filter.mp hw).1, hown, hlocks, hml, hZ.1⟩
  have hcs : X.2.2.2.1.cells = 601024 ∧ X.2.2.2.1.slots = 7293034 := by rw [hRm]; exact ⟨rfl, rfl⟩
  have hfr : ∀ f lo : Nat, f ≤ 2048 → lo ≤ 84000 → f ≤ X.2.2.2.1.frames ∧ lo ≤ X.2.2.2.1.locals := by rw [hRm]; exact fun f lo h1 h2 => ⟨h1, h2⟩
  have hend : ∀ (mc ms : Nat) (K N : MK) (I : MI) (L : ML) (R : MR) (lv : List (Nat × Value)), mc ≤ 601024 → ms ≤ 7293034 → Z X G 7 mc ms (lw_Z below #[Value.ref b] s) K N I L R 1496 lv [] := by
    intro mc ms K N I L R lv h1 h2
    refine z_iconst hC (v := 1) (by decide) dL_law_1496 ?_
    rw [hXe]
    intro H locs ls hR hS hl
    exact va_forget (fun q hq => by
      have h3 : G.2.2.1 ≤ q.base := hS.2.2 q hq
      rw [hG] at h3
      exact h3) (W.widen h1 h2 (lw_ret hx hb hr hlocks dL_law_1497))
  obtain ⟨x, hxx⟩ : ∃ x, x = s.heap.size := ⟨_, rfl⟩
  have key : Z X G 7 0 0 (lw_Z below #[Value.ref b] s) (fun _ => 0) (fun _ => x) (fun _ _ => 0) (fun _ _ => 0) (fun _ _ => none) 0 [(0, .ref b)] [] := by
    refine z_new hC z_cls11 kl_RL_8 inst_RX11 ini_RX11 dL_law_0 (by rw [hcs.1, hcs.2]; exact ⟨Nat.le_of_ble_eq_true rfl, Nat.le_of_ble_eq_true rfl⟩) z_dfl11 (fun q hq => ?_)
    have a0 : IAT₁ x 0 [] [] [] [] (fun _ => 0) (fun _ => x) (fun _ _ => 0) (fun _ _ => 0) (fun _ _ => none) (fun _ => 0) (fun _ => x) (fun _ _ => 0) (fun _ _ => 0) (fun _ _ => none) := iat_0 (by omega) rfl
    refine IAT₁.newO a0 (P₁ := fun q K1 N1 I1 L1 R1 => Z X G 7 (0 + 1) (0 + 20) (lw_Z below #[Value.ref b] s) K1 N1 I1 L1 R1 (0 + 3) [(0, .ref b)] [.ref q]) (k₁ := 12) (n1₁ := 1) rfl (fun K1 N1 I1 L1 R1 h1 => ?_) q hq _ rfl _ rfl _ rfl _ rfl _ rfl
    show Z X G 7 (0 + 1) (0 + 20) (lw_Z below #[Value.ref b] s) K1 N1 I1 L1 R1 (0 + 3) [(0, .ref b)] [.ref x]
    refine z_dup hC rfl dL_law_3 ?_
    refine z_callI (As := []) (mc1 := 167) (ms1 := 5821) (r := none) (rest := [.ref x]) hC (c_X11_init _ G x K1 N1 I1 L1 R1 167 5821 (fun K2 N2 I2 L2 R2 => IAT₁ x 168 (hL_k 2) (hL_n 2) (hL_r 2) (hL_i 2) (fun _ => 0) (fun _ => x) (fun _ _ => 0) (fun _ _ => 0) (fun _ _ => none) K2 N2 I2 L2 R2) (by delta w_X11_init; exact i_X11_init_4 h1 rfl rfl (fun _ _ _ _ _ h => h))) co_X11_init ⟨rfl, rfl⟩ ini_RX11 ml_RL_18 im_X11_init rfl dL_law_4 (na := 0) (by decide) rfl (by rw [hRm]; exact ⟨Nat.le_of_ble_eq_true rfl, Nat.le_of_ble_eq_true rfl⟩) (by rw [hcs.1, hcs.2]; exact ⟨Nat.le_of_ble_eq_true rfl, Nat.le_of_ble_eq_true rfl⟩) rfl (Nat.le_of_ble_eq_true rfl) (z_kKv (K := K1) (N := N1) (I := I1) (L := L1) (R := R1) (fun K2 N2 I2 L2 R2 h2 => ?_))
    refine z_astore_n hC (lv1 := [(1, .ref x), (0, .ref b)]) dL_law_7 rfl (by decide) rfl ?_
    refine z_new hC z_cls12 kl_RL_19 inst_RX12 ini_RX12 dL_law_8 (by rw [hcs.1, hcs.2]; exact ⟨Nat.le_of_ble_eq_true rfl, Nat.le_of_ble_eq_true rfl⟩) z_dfl12 (fun q hq => ?_)
    have b0 : IAT₁ (x + 168) 0 [] [] [] [] K2 N2 I2 L2 R2 K2 N2 I2 L2 R2 := iat_0 (by omega) h2.top
    refine IAT₁.newO b0 (P₁ := fun q K1 N1 I1 L1 R1 => Z X G 7 (0 + 1 + 167 + 1) (0 + 20 + 5821 + 58) (lw_Z below #[Value.ref b] s) K1 N1 I1 L1 R1 (0 + 3 + 1 + 3 + 1 + 3) [(1, .ref x), (0, .ref b)] [.ref q]) (k₁ := 13) (n1₁ := 1) rfl (fun K3 N3 I3 L3 R3 g1 => ?_) q hq _ rfl _ rfl _ rfl _ rfl _ rfl
    show Z X G 7 (0 + 1 + 167 + 1) (0 + 20 + 5821 + 58) (lw_Z below #[Value.ref b] s) K3 N3 I3 L3 R3 (0 + 3 + 1 + 3 + 1 + 3) [(1, .ref x), (0, .ref b)] [.ref (x + 168)]
    refine z_dup hC rfl dL_law_11 ?_
    refine z_callI (As := []) (mc1 := 25) (ms1 := 5084) (r := none) (rest := [.ref (x + 168)]) hC (c_X12_init _ G (x + 168) K3 N3 I3 L3 R3 25 5084 (fun K4 N4 I4 L4 R4 => IAT₁ (x + 168) 26 X12_k25 X12_n25 X12_r25 X12_i25 K2 N2 I2 L2 R2 K4 N4 I4 L4 R4) (by delta w_X12_init; exact i_X12_init_4 g1 rfl rfl (fun _ _ _ _ _ h => h))) co_X12_init ⟨rfl, rfl⟩ ini_RX12 ml_RL_21 im_X12_init rfl dL_law_12 (na := 0) (by decide) rfl (by rw [hRm]; exact ⟨Nat.le_of_ble_eq_true rfl, Nat.le_of_ble_eq_true rfl⟩) (by rw [hcs.1, hcs.2]; exact ⟨Nat.le_of_ble_eq_true rfl, Nat.le_of_ble_eq_true rfl⟩) rfl (Nat.le_of_ble_eq_true rfl) (z_kKv (K := K3) (N := N3) (I := I3) (L := L3) (R := R3) (fun K4 N4 I4 L4 R4 g2 => ?_))
    refine z_astore_n hC (lv1 := [(2, .ref (x + 168)), (1, .ref x), (0, .ref b)]) dL_law_15 rfl (by decide) rfl ?_
    refine z_iconst hC (v := 1) (by decide) dL_law_16 ?_
    refine z_newarr15 hC dL_law_17 (by decide) (by decide) (by rw [hcs.1, hcs.2]; exact ⟨Nat.le_of_ble_eq_true rfl, Nat.le_of_ble_eq_true rfl⟩) (fun q hq => ?_)
    refine IAT₁.newA g2 (P₁ := fun q K1 N1 I1 L1 R1 => Z X G 7 (0 + 1 + 167 + 1 + 25 + 1) (0 + 20 + 5821 + 58 + 5084 + ix 1) (lw_Z below #[Value.ref b] s) K1 N1 I1 L1 R1 (0 + 3 + 1 + 3 + 1 + 3 + 1 + 3 + 1 + 1 + 2) [(2, .ref (x + 168)), (1, .ref x), (0, .ref b)] [.ref q]) (k₁ := 15) (n1₁ := 27) (z₁ := 1) rfl (by decide) (fun K5 N5 I5 L5 R5 g3 => ?_) q hq _ rfl _ rfl _ rfl _ rfl _ rfl
    refine z_astore_n hC (lv1 := [(3, .ref (x + 168 + 26)), (2, .ref (x + 168)), (1, .ref x), (0, .ref b)]) dL_law_19 rfl (by decide) rfl ?_
    refine z_iconst hC (v := nI 0) (by decide) dL_law_20 ?_
    refine z_istore hC (lv1 := [(4, .int (nI 0)), (3, .ref (x + 168 + 26)), (2, .ref (x + 168)), (1, .ref x), (0, .ref b)]) dL_law_21 (by decide) rfl ?_
    have hix : ix 1 = 1 := by decide
    refine z_sub [(4, .int (nI 0)), (0, .ref b), (1, .ref x), (2, .ref (x + 168)), (3, .ref (x + 168 + 26))] [0, 4, 3, 2, 1] rfl ?_
    exact lw_loop (xs := xs) (Ls := L) hC (by rw [hs]; exact hZ) (by rw [hXe]; exact hfl) hRm (by rw [hs]; exact hX) (by rw [hs]; exact hbl) hbA hL hend 3072 0 _ _ _ _ _ _ _ rfl (Nat.zero_le _) (by omega) (by rw [hix]; omega) ⟨CPL_new h2 g3, g3.k 26 (by decide) (by decide +kernel), g3.n 26 (by decide +kernel), by omega⟩
  have hl := lv_entry ([.ref b]) (n := 7) (Nat.le_of_ble_eq_true rfl)
  rw [lg_entry_eq]
  have k2 := key s.heap [] _ ⟨hxx.symm, fun a h => absurd rfl h⟩ (by rw [hs]; exact va_S.rf) hl
  rw [hXe] at k2
  exact k2
set_option maxHeartbeats 4000000 in
theorem lw_walk (l : Launch) (hflags : l.flags = flags0) (b : Addr) (xs : List Int32) : MetFree l x (headSpec (Jvm.Cond.code x code maxLocals ret :: tables_1) room_1) (lw_P b xs) (fun _ _ _ _ _ => True) lw_Q := by
  refine MetFree.of_bodyS (code := code) (maxLocals := maxLocals) (ret := ret) (by decide) ?_ ?_
  · intro args s m h hn
    obtain ⟨meth, c, h1, h2, h3, h4, h5, h6, -, -⟩ := Cond.code_spec hn (atoms_spec (ws := Jvm.Cond.code x code maxLocals ret :: tables_1) h _ List.mem_cons_self)
    exact ⟨meth, c, h1, h2, h3, h4, h5, h6⟩
  · intro p e s m args below meth c s₁ B hml0 hP _
    obtain ⟨rfl, hx, hbd, hgv⟩ := hP
    obtain ⟨scr, harrAt, hlist, hof, hsmall⟩ := hx
    obtain ⟨hcb, hkn, -, -⟩ := State.arrayAt?_spec harrAt
    have hown : s.vm.findClass R_law = some m.cls := findClass_of_methodNamed B.named
    have hts0 : ∀ c ∈ (Jvm.Cond.code x code maxLocals ret :: tables_1), c.before #[Value.ref b] s = true := atoms_spec (ws := Jvm.Cond.code x code maxLocals ret :: tables_1) B.pre
    have hts : ∀ w ∈ lw_tbl, w.before #[Value.ref b] s = true := k2_hts_sels lw_privs (fun w hw => hts0 w (List.mem_cons_of_mem _ hw)) lw_privs_ok
    have hml : c.maxLocals = 7 := B.maxLocals_eq (hts0 _ List.mem_cons_self)
    have X₀ : Stand p l e room_1 s m #[Value.ref b] below meth c s₁ [] 0 0 := Stand.of_body B
    have hh0 : s₁.heap = s.heap := by rw [B.state]; rfl
    have hsz : scr.slots.size = xs.length := by rw [← Array.length_toList, hlist, List.length_map]
    have hval : ∀ j : Nat, j < xs.length → scr.slots[j]? = some (.int (xs.getD j 0)) := fun j hj => by
      rw [← Array.getElem?_toList, hlist]
      simp [hj]
    have hbl : b < s.heap.size := (Array.getElem?_eq_some_iff.mp hcb).1
    have hX : va_X b xs.length (fun j => xs.getD j 0) s s.heap := ⟨scr, hcb, hof, hkn, hsz, hval⟩
    have K : W p l e room_1 s m #[Value.ref b] below meth c s₁.heap [] 0 0 (lw_Z below #[Value.ref b] s) (entryFrame m ([Value.ref b] : List Value).toArray 7) := by
      rw [hh0]
      exact whole_start l hflags hbd ⟨B.exec, B.bytes, B.returns, hml, hown, hts, hX, hbl, B.notSynchronized, hgv⟩
    obtain ⟨t, a1, o, b1, b2, b3⟩ := K s₁ rfl X₀
    exact ⟨t, o, a1, b1, b2, b3⟩
theorem lw_pre_spec {args : Array Value} {s : State} (h : (Jvm.Cond.and given_1 narrow_1).before args s = true) (hr : rest_1_c.before args s = true) : ∃ (b : Addr) (xs : List Int32), lw_P b xs args s := by
  have hs := flat_of_before _ h
  have hq := flat_of_before _ hr
  have hc : (Cond.count 1).before args s = true := hs _ (by decide +kernel)
  have harr : (Cond.arrayOf (.arg 0) .int).before args s = true := hs _ (by decide +kernel)
  have hle : (Cond.le (.length (.arg 0)) (.int 3072)).before args s = true := hs _ (by decide +kernel)
  have hlen : (Cond.isInt (.length (.arg 0))).before args s = true := hq _ (by decide +kernel)
  have hall : (Cond.all (.arg 0) (.isInt (.elem (.arg 0) (.index 0)))).before args s = true := hq _ (by decide +kernel)
  obtain ⟨b, xs, hb, hx⟩ := State.ints_of_pre rfl harr hlen hall
  have hsm : xs.length < 2 ^ 31 := hx.choose_spec.2.2.2
  have hev : (Term.length (.arg 0)).eval args s none [] s = some (.int xs.length.toInt32) := hx.length_eval hb
  have hv := Cond.le_ints hev (show (Term.int 3072).eval args s none [] s = some (.int 3072) from rfl)
  have hd : xs.length.toInt32 ≤ 3072 := by
    simpa [Cond.before, Cond.holds, hv] using hle
  have hN : xs.length ≤ 3072 := (Int32.ofNat_le_ofNat hsm (by decide)).mp (show Int32.ofNat xs.length ≤ Int32.ofNat 3072 from hd)
  exact ⟨b, xs, Cond.one_arg hc (show args[0]? = some (.ref b) from hb), hx, hN, h⟩
theorem lw_comes (l : Launch) (hflags : l.flags = flags0) : Comes l x (Jvm.Cond.code x code maxLocals ret :: tables_1) room_1 (fun tb e args s => Calls_1 tb e args s ∧ rest_1 tb e args s ∧ Pre_1 tb e args s)
    (fun _ _ args s o t => lw_Q args s o t) := by
  intro p e ha hc hk s m args below hf hfit hheap happ hpre
  obtain ⟨b, xs, hP⟩ := lw_pre_spec hpre.2.2 hpre.2.1
  obtain ⟨k, o, h1, h2, h3, hQ⟩ := lw_walk l hflags b xs p e ha hc hk s m args below hf ((Spec.applies_iff_loose hf).mp happ).1 hP trivial
  exact ⟨k, o, h1, h2, h3, hQ⟩
theorem lw_frame {s t : State} {o : Outcome} {args : Array Value} (h : Framed s o t [] 601024 7293034) :
    Framed s o t (fieldLocs frame_1_writes args s ++ arrayLocs frame_1_arrays args s ++ staticLocs frame_1_statics s) 601024 7293034 := h
theorem lw_limb (L : Cond) (hL : ∀ (args : Array Value) (s t : State), L.after args s (.returned (some (.int 1))) t = true) :
    ArmFor flags0 classFile x code maxLocals ret World_1 tables_1 room_1 Calls_1 rest_1 Pre_1
      (fun tb e a s o t => postC L tb e a s o t ∧ Framed s o t (fieldLocs frame_1_writes a s ++ arrayLocs frame_1_arrays a s ++ staticLocs frame_1_statics s) 601024 7293034) := by
  intro l hflags _ _ p e ha hc hk s m args below hf hfit hheap happ hpre
  obtain ⟨k, o, h1, h2, h3, rfl, hF⟩ := lw_comes l hflags p e ha hc hk s m args below hf hfit hheap happ hpre
  exact ⟨k, _, h1, h2, h3, hL args s _, lw_frame hF⟩
theorem i_vc : Claimed_1_1 ∧ Claimed_1_2 := ⟨lw_limb limb_1_1 (fun args s t => by simp [limb_1_1, Cond.after, Cond.holds, Cond.value]), lw_limb limb_1_2 (fun args s t => Cond.after_iff.mpr (by
  first | (rw [show limb_1_2 = Cond.eq .result (.int 1) from rfl, Cond.eq_ints (x := 1) (y := 1) rfl rfl]; simp; done) | (simp [limb_1_2, Cond.value, Term.eval]; done)))⟩

