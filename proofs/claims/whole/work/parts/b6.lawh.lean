/-! ===== the law: rows for the script, what holds at the loop's head ===== -/
def LINV (K N : MK) (I : MI) (L : ML) (R : MR) (x m z : Nat) : Prop := CPL₁ K N I L R x m ∧ K z = 15 ∧ N z = 1 ∧ m + 25 < z
theorem z_sldc {X : ZX} {G : ZG} {own : String} {cc : ByteArray} {n mc ms : Nat} {ret : Option FieldType} {Qf : State → Prop} {K N : MK} {I : MI} {L : ML} {R : MR} {pc : Nat} {lv : List (Nat × Value)} {st : List Value} (hC : ZOk X G own cc n ret) {b Ls i c : Nat} {xs : Nat → Int32} (hX : va_X b Ls xs X.2.2.2.2.1 X.2.2.2.2.1.heap) (hbl : b < X.2.2.2.2.1.heap.size) (hbA : ¬ z_A G b) (hi : i + c < Ls) (hLs : Ls ≤ 3072) (hd : decode cc pc = .ok (.iaload, 1)) (k : Z X G n mc ms Qf K N I L R (pc + 1) lv (.int (xs (i + c)) :: st)) : Z X G n mc ms Qf K N I L R pc lv (.int (nI i + nI c) :: .ref b :: st) := by
  intro H locs ls hR hS hl
  have e : (nI i + nI c).toNatClampNeg = i + c := by rw [nI_add]; exact nI_clamp (by omega)
  refine va_sld hC.1 hC.2.1 hX hbl hbA hS (i := nI i + nI c) (by rw [nI_add]; exact (vp_nI (by omega)).2 hi) hd ?_
  rw [e]
  exact k H locs ls hR hS hl
theorem z_sld0 {X : ZX} {G : ZG} {own : String} {cc : ByteArray} {n mc ms : Nat} {ret : Option FieldType} {Qf : State → Prop} {K N : MK} {I : MI} {L : ML} {R : MR} {pc : Nat} {lv : List (Nat × Value)} {st : List Value} (hC : ZOk X G own cc n ret) {b Ls i : Nat} {xs : Nat → Int32} (hX : va_X b Ls xs X.2.2.2.2.1 X.2.2.2.2.1.heap) (hbl : b < X.2.2.2.2.1.heap.size) (hbA : ¬ z_A G b) (hi : i < Ls) (hLs : Ls ≤ 3072) (hd : decode cc pc = .ok (.iaload, 1)) (k : Z X G n mc ms Qf K N I L R (pc + 1) lv (.int (xs i) :: st)) : Z X G n mc ms Qf K N I L R pc lv (.int (nI i) :: .ref b :: st) := by
  intro H locs ls hR hS hl
  have e : (nI i).toNatClampNeg = i := nI_clamp (by omega)
  refine va_sld hC.1 hC.2.1 hX hbl hbA hS (i := nI i) ((vp_nI (by omega)).2 hi) hd ?_
  rw [e]
  exact k H locs ls hR hS hl
theorem z_sslen {X : ZX} {G : ZG} {own : String} {cc : ByteArray} {n mc ms : Nat} {ret : Option FieldType} {Qf : State → Prop} {K N : MK} {I : MI} {L : ML} {R : MR} {pc : Nat} {lv : List (Nat × Value)} {st : List Value} (hC : ZOk X G own cc n ret) {b Ls : Nat} {xs : Nat → Int32} (hX : va_X b Ls xs X.2.2.2.2.1 X.2.2.2.2.1.heap) (hbl : b < X.2.2.2.2.1.heap.size) (hbA : ¬ z_A G b) (hd : decode cc pc = .ok (.arraylength, 1)) (k : Z X G n mc ms Qf K N I L R (pc + 1) lv (.int (nI Ls) :: st)) : Z X G n mc ms Qf K N I L R pc lv (.ref b :: st) := fun H locs ls hR hS hl => va_slen hC.1 hC.2.1 hX hbl hbA hS hd (k H locs ls hR hS hl)
theorem cw_L_cover : Cond.codeWith yL_cover cL_cover 5 (some .int) [(0, 10, 13, 13)] ∈ z_tbl := z_mt6 35 (by decide +kernel) rfl
theorem cw_L_value : Cond.codeWith yL_value cL_value 5 (some .int) [(0, 10, 13, 13)] ∈ z_tbl := z_mt5 202 (by decide +kernel) rfl
theorem sm_L_cover : Cond.static yL_cover ∈ z_tbl := z_mt6 34 (by decide +kernel) rfl
theorem sm_L_value : Cond.static yL_value ∈ z_tbl := z_mt5 201 (by decide +kernel) rfl
theorem z_gSW {own : String} {idx : Nat} {y : MethodName} {b : ByteArray} {mL : Nat} {r : Option FieldType} {hh : List (Nat × Nat × Nat × Nat)} (h1 : Cond.methodLink own idx y ∈ z_tbl) (h2 : Cond.static y ∈ z_tbl) (h4 : Cond.initialized y.cls ∈ z_tbl) (h5 : Cond.codeWith y b mL r hh ∈ z_tbl) : GoodIn z_tbl (va_wsS own idx y (.codeWith y b mL r hh :: z_tbl)) := by
  intro w hw
  have : w ∈ z_tbl := by
    simp only [va_wsS, List.cons_append, List.nil_append, List.mem_cons] at hw
    rcases hw with rfl | rfl | rfl | rfl | hw
    · exact h1
    · exact h2
    · exact h4
    · exact h5
    · exact hw
  exact ⟨this, z_good w this⟩
theorem lw_cmp0 (x : Int64) : lg_cmp x x = 0 := by simp [lg_cmp]
