theorem k_sipush_181 : (Int16.ofInt 181).toInt32 = 181 := by decide
theorem k_sipush_1334 : (Int16.ofInt 1334).toInt32 = 1334 := by decide
theorem k_sipush_664 : (Int16.ofInt 664).toInt32 = 664 := by decide
theorem k_bipush_52 : (Int8.ofInt 52).toInt32 = 52 := by decide
theorem k_bipush_120 : (Int8.ofInt 120).toInt32 = 120 := by decide
theorem pf_RX0_14 {X : ZX} {G : ZG} {cc : ByteArray} {n mc ms a : Nat} {ret : Option FieldType} {Qf : State → Prop} {K N : MK} {I : MI} {L : ML} {R : MR} {pc : Nat} {lv : List (Nat × Value)} {st : List Value} (hC : ZOk X G RX0 cc n ret) (hd : decode cc pc = .ok (.putfield 14, 3)) (hK : K a = 1) (hi : X.2.2.2.2.2.2.2.2.1.name = "<init>") {x : Nat} (k : Z X G n mc ms Qf K N I L (mup R a 0 (some x)) (pc + 3) lv st) : Z X G n mc ms Qf K N I L R pc lv (.ref x :: .ref a :: st) := z_putF hC z_cls0 (k := 0) (Nat.le_of_ble_eq_true rfl) fl_RX0_14 hK hd rfl rfl (z_slR rfl) z_neR rfl hi rfl k
theorem pf_RX10_12 {X : ZX} {G : ZG} {cc : ByteArray} {n mc ms a : Nat} {ret : Option FieldType} {Qf : State → Prop} {K N : MK} {I : MI} {L : ML} {R : MR} {pc : Nat} {lv : List (Nat × Value)} {st : List Value} (hC : ZOk X G RX10 cc n ret) (hd : decode cc pc = .ok (.putfield 12, 3)) (hK : K a = 11) (hi : X.2.2.2.2.2.2.2.2.1.name = "<init>") {x : Nat} (k : Z X G n mc ms Qf K N I L (mup R a 0 (some x)) (pc + 3) lv st) : Z X G n mc ms Qf K N I L R pc lv (.ref x :: .ref a :: st) := z_putF hC z_cls10 (k := 0) (Nat.le_of_ble_eq_true rfl) fl_RX10_12 hK hd rfl rfl (z_slR rfl) z_neR rfl hi rfl k
theorem pf_RX11_10 {X : ZX} {G : ZG} {cc : ByteArray} {n mc ms a : Nat} {ret : Option FieldType} {Qf : State → Prop} {K N : MK} {I : MI} {L : ML} {R : MR} {pc : Nat} {lv : List (Nat × Value)} {st : List Value} (hC : ZOk X G RX11 cc n ret) (hd : decode cc pc = .ok (.putfield 10, 3)) (hK : K a = 12) (hi : X.2.2.2.2.2.2.2.2.1.name = "<init>") {x : Nat} (k : Z X G n mc ms Qf K N I L (mup R a 0 (some x)) (pc + 3) lv st) : Z X G n mc ms Qf K N I L R pc lv (.ref x :: .ref a :: st) := z_putF hC z_cls11 (k := 0) (Nat.le_of_ble_eq_true rfl) fl_RX11_10 hK hd rfl rfl (z_slR rfl) z_neR rfl hi rfl k
theorem pf_RX11_101 {X : ZX} {G : ZG} {cc : ByteArray} {n mc ms a : Nat} {ret : Option FieldType} {Qf : State → Prop} {K N : MK} {I : MI} {L : ML} {R : MR} {pc : Nat} {lv : List (Nat × Value)} {st : List Value} (hC : ZOk X G RX11 cc n ret) (hd : decode cc pc = .ok (.putfield 101, 3)) (hK : K a = 12) (hi : X.2.2.2.2.2.2.2.2.1.name = "<init>") {x : Nat} (k : Z X G n mc ms Qf K N I L (mup R a 16 (some x)) (pc + 3) lv st) : Z X G n mc ms Qf K N I L R pc lv (.ref x :: .ref a :: st) := z_putF hC z_cls11 (k := 16) (Nat.le_of_ble_eq_true rfl) fl_RX11_101 hK hd rfl rfl (z_slR rfl) z_neR rfl hi rfl k
theorem pf_RX11_110 {X : ZX} {G : ZG} {cc : ByteArray} {n mc ms a : Nat} {ret : Option FieldType} {Qf : State → Prop} {K N : MK} {I : MI} {L : ML} {R : MR} {pc : Nat} {lv : List (Nat × Value)} {st : List Value} (hC : ZOk X G RX11 cc n ret) (hd : decode cc pc = .ok (.putfield 110, 3)) (hK : K a = 12) (hi : X.2.2.2.2.2.2.2.2.1.name = "<init>") {x : Nat} (k : Z X G n mc ms Qf K N I L (mup R a 17 (some x)) (pc + 3) lv st) : Z X G n mc ms Qf K N I L R pc lv (.ref x :: .ref a :: st) := z_putF hC z_cls11 (k := 17) (Nat.le_of_ble_eq_true rfl) fl_RX11_110 hK hd rfl rfl (z_slR rfl) z_neR rfl hi rfl k
theorem pf_RX11_114 {X : ZX} {G : ZG} {cc : ByteArray} {n mc ms a : Nat} {ret : Option FieldType} {Qf : State → Prop} {K N : MK} {I : MI} {L : ML} {R : MR} {pc : Nat} {lv : List (Nat × Value)} {st : List Value} (hC : ZOk X G RX11 cc n ret) (hd : decode cc pc = .ok (.putfield 114, 3)) (hK : K a = 12) (hi : X.2.2.2.2.2.2.2.2.1.name = "<init>") {x : Nat} (k : Z X G n mc ms Qf K N I L (mup R a 18 (some x)) (pc + 3) lv st) : Z X G n mc ms Qf K N I L R pc lv (.ref x :: .ref a :: st) := z_putF hC z_cls11 (k := 18) (Nat.le_of_ble_eq_true rfl) fl_RX11_114 hK hd rfl rfl (z_slR rfl) z_neR rfl hi rfl k
theorem pf_RX11_117 {X : ZX} {G : ZG} {cc : ByteArray} {n mc ms a : Nat} {ret : Option FieldType} {Qf : State → Prop} {K N : MK} {I : MI} {L : ML} {R : MR} {pc : Nat} {lv : List (Nat × Value)} {st : List Value} (hC : ZOk X G RX11 cc n ret) (hd : decode cc pc = .ok (.putfield 117, 3)) (hK : K a = 12) (hi : X.2.2.2.2.2.2.2.2.1.name = "<init>") {x : Nat} (k : Z X G n mc ms Qf K N I L (mup R a 19 (some x)) (pc + 3) lv st) : Z X G n mc ms Qf K N I L R pc lv (.ref x :: .ref a :: st) := z_putF hC z_cls11 (k := 19) (Nat.le_of_ble_eq_true rfl) fl_RX11_117 hK hd rfl rfl (z_slR rfl) z_neR rfl hi rfl k
theorem pf_RX11_19 {X : ZX} {G : ZG} {cc : ByteArray} {n mc ms a : Nat} {ret : Option FieldType} {Qf : State → Prop} {K N : MK} {I : MI} {L : ML} {R : MR} {pc : Nat} {lv : List (Nat × Value)} {st : List Value} (hC : ZOk X G RX11 cc n ret) (hd : decode cc pc = .ok (.putfield 19, 3)) (hK : K a = 12) (hi : X.2.2.2.2.2.2.2.2.1.name = "<init>") {x : Nat} (k : Z X G n mc ms Qf K N I L (mup R a 1 (some x)) (pc + 3) lv st) : Z X G n mc ms Qf K N I L R pc lv (.ref x :: .ref a :: st) := z_putF hC z_cls11 (k := 1) (Nat.le_of_ble_eq_true rfl) fl_RX11_19 hK hd rfl rfl (z_slR rfl) z_neR rfl hi rfl k
theorem pf_RX11_26 {X : ZX} {G : ZG} {cc : ByteArray} {n mc ms a : Nat} {ret : Option FieldType} {Qf : State → Prop} {K N : MK} {I : MI} {L : ML} {R : MR} {pc : Nat} {lv : List (Nat × Value)} {st : List Value} (hC : ZOk X G RX11 cc n ret) (hd : decode cc pc = .ok (.putfield 26, 3)) (hK : K a = 12) (hi : X.2.2.2.2.2.2.2.2.1.name = "<init>") {x : Nat} (k : Z X G n mc ms Qf K N I L (mup R a 2 (some x)) (pc + 3) lv st) : Z X G n mc ms Qf K N I L R pc lv (.ref x :: .ref a :: st) := z_putF hC z_cls11 (k := 2) (Nat.le_of_ble_eq_true rfl) fl_RX11_26 hK hd rfl rfl (z_slR rfl) z_neR rfl hi rfl k
theorem pf_RX11_30 {X : ZX} {G : ZG} {cc : ByteArray} {n mc ms a : Nat} {ret : Option FieldType} {Qf : State → Prop} {K N : MK} {I : MI} {L : ML} {R : MR} {pc : Nat} {lv : List (Nat × Value)} {st : List Value} (hC : ZOk X G RX11 cc n ret) (hd : decode cc pc = .ok (.putfield 30, 3)) (hK : K a = 12) (hi : X.2.2.2.2.2.2.2.2.1.name = "<init>") {x : Nat} (k : Z X G n mc ms Qf K N I L (mup R a 3 (some x)) (pc + 3) lv st) : Z X G n mc ms Qf K N I L R pc lv (.ref x :: .ref a :: st) := z_putF hC z_cls11 (k := 3) (Nat.le_of_ble_eq_true rfl) fl_RX11_30 hK hd rfl rfl (z_slR rfl) z_neR rfl hi rfl k
theorem pf_RX11_33 {X : ZX} {G : ZG} {cc : ByteArray} {n mc ms a : Nat} {ret : Option FieldType} {Qf : State → Prop} {K N : MK} {I : MI} {L : ML} {R : MR} {pc : Nat} {lv : List (Nat × Value)} {st : List Value} (hC : ZOk X G RX11 cc n ret) (hd : decode cc pc = .ok (.putfield 33, 3)) (hK : K a = 12) (hi : X.2.2.2.2.2.2.2.2.1.name = "<init>") {x : Nat} (k : Z X G n mc ms Qf K N I L (mup R a 4 (some x)) (pc + 3) lv st) : Z X G n mc ms Qf K N I L R pc lv (.ref x :: .ref a :: st) := z_putF hC z_cls11 (k := 4) (Nat.le_of_ble_eq_true rfl) fl_RX11_33 hK hd rfl rfl (z_slR rfl) z_neR rfl hi rfl k
theorem pf_RX11_44 {X : ZX} {G : ZG} {cc : ByteArray} {n mc ms a : Nat} {ret : Option FieldType} {Qf : State → Prop} {K N : MK} {I : MI} {L : ML} {R : MR} {pc : Nat} {lv : List (Nat × Value)} {st : List Value} (hC : ZOk X G RX11 cc n ret) (hd : decode cc pc = .ok (.putfield 44, 3)) (hK : K a = 12) (hi : X.2.2.2.2.2.2.2.2.1.name = "<init>") {x : Nat} (k : Z X G n mc ms Qf K N I L (mup R a 6 (some x)) (pc + 3) lv st) : Z X G n mc ms Qf K N I L R pc lv (.ref x :: .ref a :: st) := z_putF hC z_cls11 (k := 6) (Nat.le_of_ble_eq_true rfl) fl_RX11_44 hK hd rfl rfl (z_slR rfl) z_neR rfl hi rfl k
theorem pf_RX11_51 {X : ZX} {G : ZG} {cc : ByteArray} {n mc ms a : Nat} {ret : Option FieldType} {Qf : State → Prop} {K N : MK} {I : MI} {L : ML} {R : MR} {pc : Nat} {lv : List (Nat × Value)} {st : List Value} (hC : ZOk X G RX11 cc n ret) (hd : decode cc pc = .ok (.putfield 51, 3)) (hK : K a = 12) (hi : X.2.2.2.2.2.2.2.2.1.name = "<init>") {x : Nat} (k : Z X G n mc ms Qf K N I L (mup R a 7 (some x)) (pc + 3) lv st) : Z X G n mc ms Qf K N I L R pc lv (.ref x :: .ref a :: st) := z_putF hC z_cls11 (k := 7) (Nat.le_of_ble_eq_true rfl) fl_RX11_51 hK hd rfl rfl (z_slR rfl) z_neR rfl hi rfl k
theorem pf_RX11_58 {X : ZX} {G : ZG} {cc : ByteArray} {n mc ms a : Nat} {ret : Option FieldType} {Qf : State → Prop} {K N : MK} {I : MI} {L : ML} {R : MR} {pc : Nat} {lv : List (Nat × Value)} {st : List Value} (hC : ZOk X G RX11 cc n ret) (hd : decode cc pc = .ok (.putfield 58, 3)) (hK : K a = 12) (hi : X.2.2.2.2.2.2.2.2.1.name = "<init>") {x : Nat} (k : Z X G n mc ms Qf K N I L (mup R a 8 (some x)) (pc + 3) lv st) : Z X G n mc ms Qf K N I L R pc lv (.ref x :: .ref a :: st) := z_putF hC z_cls11 (k := 8) (Nat.le_of_ble_eq_true rfl) fl_RX11_58 hK hd rfl rfl (z_slR rfl) z_neR rfl hi rfl k
theorem pf_RX11_65 {X : ZX} {G : ZG} {cc : ByteArray} {n mc ms a : Nat} {ret : Option FieldType} {Qf : State → Prop} {K N : MK} {I : MI} {L : ML} {R : MR} {pc : Nat} {lv : List (Nat × Value)} {st : List Value} (hC : ZOk X G RX11 cc n ret) (hd : decode cc pc = .ok (.putfield 65, 3)) (hK : K a = 12) (hi : X.2.2.2.2.2.2.2.2.1.name = "<init>") {x : Nat} (k : Z X G n mc ms Qf K N I L (mup R a 9 (some x)) (pc + 3) lv st) : Z X G n mc ms Qf K N I L R pc lv (.ref x :: .ref a :: st) := z_putF hC z_cls11 (k := 9) (Nat.le_of_ble_eq_true rfl) fl_RX11_65 hK hd rfl rfl (z_slR rfl) z_neR rfl hi rfl k
theorem pf_RX11_72 {X : ZX} {G : ZG} {cc : ByteArray} {n mc ms a : Nat} {ret : Option FieldType} {Qf : State → Prop} {K N : MK} {I : MI} {L : ML} {R : MR} {pc : Nat} {lv : List (Nat × Value)} {st : List Value} (hC : ZOk X G RX11 cc n ret) (hd : decode cc pc = .ok (.putfield 72, 3)) (hK : K a = 12) (hi : X.2.2.2.2.2.2.2.2.1.name = "<init>") {x : Nat} (k : Z X G n mc ms Qf K N I L (mup R a 10 (some x)) (pc + 3) lv st) : Z X G n mc ms Qf K N I L R pc lv (.ref x :: .ref a :: st) := z_putF hC z_cls11 (k := 10) (Nat.le_of_ble_eq_true rfl) fl_RX11_72 hK hd rfl rfl (z_slR rfl) z_neR rfl hi rfl k
theorem pf_RX11_79 {X : ZX} {G : ZG} {cc : ByteArray} {n mc ms a : Nat} {ret : Option FieldType} {Qf : State → Prop} {K N : MK} {I : MI} {L : ML} {R : MR} {pc : Nat} {lv : List (Nat × Value)} {st : List Value} (hC : ZOk X G RX11 cc n ret) (hd : decode cc pc = .ok (.putfield 79, 3)) (hK : K a = 12) (hi : X.2.2.2.2.2.2.2.2.1.name = "<init>") {x : Nat} (k : Z X G n mc ms Qf K N I L (mup R a 11 (some x)) (pc + 3) lv st) : Z X G n mc ms Qf K N I L R pc lv (.ref x :: .ref a :: st) := z_putF hC z_cls11 (k := 11) (Nat.le_of_ble_eq_true rfl) fl_RX11_79 hK hd rfl rfl (z_slR rfl) z_neR rfl hi rfl k
theorem pf_RX11_86 {X : ZX} {G : ZG} {cc : ByteArray} {n mc ms a : Nat} {ret : Option FieldType} {Qf : State → Prop} {K N : MK} {I : MI} {L : ML} {R : MR} {pc : Nat} {lv : List (Nat × Value)} {st : List Value} (hC : ZOk X G RX11 cc n ret) (hd : decode cc pc = .ok (.putfield 86, 3)) (hK : K a = 12) (hi : X.2.2.2.2.2.2.2.2.1.name = "<init>") {x : Nat} (k : Z X G n mc ms Qf K N I L (mup R a 12 (some x)) (pc + 3) lv st) : Z X G n mc ms Qf K N I L R pc lv (.ref x :: .ref a :: st) := z_putF hC z_cls11 (k := 12) (Nat.le_of_ble_eq_true rfl) fl_RX11_86 hK hd rfl rfl (z_slR rfl) z_neR rfl hi rfl k
theorem pf_RX11_90 {X : ZX} {G : ZG} {cc : ByteArray} {n mc ms a : Nat} {ret : Option FieldType} {Qf : State → Prop} {K N : MK} {I : MI} {L : ML} {R : MR} {pc : Nat} {lv : List (Nat × Value)} {st : List Value} (hC : ZOk X G RX11 cc n ret) (hd : decode cc pc = .ok (.putfield 90, 3)) (hK : K a = 12) (hi : X.2.2.2.2.2.2.2.2.1.name = "<init>") {x : Nat} (k : Z X G n mc ms Qf K N I L (mup R a 13 (some x)) (pc + 3) lv st) : Z X G n mc ms Qf K N I L R pc lv (.ref x :: .ref a :: st) := z_putF hC z_cls11 (k := 13) (Nat.le_of_ble_eq_true rfl) fl_RX11_90 hK hd rfl rfl (z_slR rfl) z_neR rfl hi rfl k
theorem pf_RX11_94 {X : ZX} {G : ZG} {cc : ByteArray} {n mc ms a : Nat} {ret : Option FieldType} {Qf : State → Prop} {K N : MK} {I : MI} {L : ML} {R : MR} {pc : Nat} {lv : List (Nat × Value)} {st : List Value} (hC : ZOk X G RX11 cc n ret) (hd : decode cc pc = .ok (.putfield 94, 3)) (hK : K a = 12) (hi : X.2.2.2.2.2.2.2.2.1.name = "<init>") {x : Nat} (k : Z X G n mc ms Qf K N I L (mup R a 14 (some x)) (pc + 3) lv st) : Z X G n mc ms Qf K N I L R pc lv (.ref x :: .ref a :: st) := z_putF hC z_cls11 (k := 14) (Nat.le_of_ble_eq_true rfl) fl_RX11_94 hK hd rfl rfl (z_slR rfl) z_neR rfl hi rfl k
theorem pf_RX11_97 {X : ZX} {G : ZG} {cc : ByteArray} {n mc ms a : Nat} {ret : Option FieldType} {Qf : State → Prop} {K N : MK} {I : MI} {L : ML} {R : MR} {pc : Nat} {lv : List (Nat × Value)} {st : List Value} (hC : ZOk X G RX11 cc n ret) (hd : decode cc pc = .ok (.putfield 97, 3)) (hK : K a = 12) (hi : X.2.2.2.2.2.2.2.2.1.name = "<init>") {x : Nat} (k : Z X G n mc ms Qf K N I L (mup R a 15 (some x)) (pc + 3) lv st) : Z X G n mc ms Qf K N I L R pc lv (.ref x :: .ref a :: st) := z_putF hC z_cls11 (k := 15) (Nat.le_of_ble_eq_true rfl) fl_RX11_97 hK hd rfl rfl (z_slR rfl) z_neR rfl hi rfl k
theorem pf_RX12_101 {X : ZX} {G : ZG} {cc : ByteArray} {n mc ms a : Nat} {ret : Option FieldType} {Qf : State → Prop} {K N : MK} {I : MI} {L : ML} {R : MR} {pc : Nat} {lv : List (Nat × Value)} {st : List Value} (hC : ZOk X G RX12 cc n ret) (hd : decode cc pc = .ok (.putfield 101, 3)) (hK : K a = 13) (hi : X.2.2.2.2.2.2.2.2.1.name = "<init>") {x : Nat} (k : Z X G n mc ms Qf K N I L (mup R a 15 (some x)) (pc + 3) lv st) : Z X G n mc ms Qf K N I L R pc lv (.ref x :: .ref a :: st) := z_putF hC z_cls12 (k := 15) (Nat.le_of_ble_eq_true rfl) fl_RX12_101 hK hd rfl rfl (z_slR rfl) z_neR rfl hi rfl k
theorem pf_RX12_104 {X : ZX} {G : ZG} {cc : ByteArray} {n mc ms a : Nat} {ret : Option FieldType} {Qf : State → Prop} {K N : MK} {I : MI} {L : ML} {R : MR} {pc : Nat} {lv : List (Nat × Value)} {st : List Value} (hC : ZOk X G RX12 cc n ret) (hd : decode cc pc = .ok (.putfield 104, 3)) (hK : K a = 13) (hi : X.2.2.2.2.2.2.2.2.1.name = "<init>") {x : Nat} (k : Z X G n mc ms Qf K N I L (mup R a 16 (some x)) (pc + 3) lv st) : Z X G n mc ms Qf K N I L R pc lv (.ref x :: .ref a :: st) := z_putF hC z_cls12 (k := 16) (Nat.le_of_ble_eq_true rfl) fl_RX12_104 hK hd rfl rfl (z_slR rfl) z_neR rfl hi rfl k
theorem pf_RX12_107 {X : ZX} {G : ZG} {cc : ByteArray} {n mc ms a : Nat} {ret : Option FieldType} {Qf : State → Prop} {K N : MK} {I : MI} {L : ML} {R : MR} {pc : Nat} {lv : List (Nat × Value)} {st : List Value} (hC : ZOk X G RX12 cc n ret) (hd : decode cc pc = .ok (.putfield 107, 3)) (hK : K a = 13) (hi : X.2.2.2.2.2.2.2.2.1.name = "<init>") {x : Nat} (k : Z X G n mc ms Qf K N I L (mup R a 17 (some x)) (pc + 3) lv st) : Z X G n mc ms Qf K N I L R pc lv (.ref x :: .ref a :: st) := z_putF hC z_cls12 (k := 17) (Nat.le_of_ble_eq_true rfl) fl_RX12_107 hK hd rfl rfl (z_slR rfl) z_neR rfl hi rfl k
theorem pf_RX12_110 {X : ZX} {G : ZG} {cc : ByteArray} {n mc ms a : Nat} {ret : Option FieldType} {Qf : State → Prop} {K N : MK} {I : MI} {L : ML} {R : MR} {pc : Nat} {lv : List (Nat × Value)} {st : List Value} (hC : ZOk X G RX12 cc n ret) (hd : decode cc pc = .ok (.putfield 110, 3)) (hK : K a = 13) (hi : X.2.2.2.2.2.2.2.2.1.name = "<init>") {x : Nat} (k : Z X G n mc ms Qf K N I L (mup R a 18 (some x)) (pc + 3) lv st) : Z X G n mc ms Qf K N I L R pc lv (.ref x :: .ref a :: st) := z_putF hC z_cls12 (k := 18) (Nat.le_of_ble_eq_true rfl) fl_RX12_110 hK hd rfl rfl (z_slR rfl) z_neR rfl hi rfl k
theorem pf_RX12_113 {X : ZX} {G : ZG} {cc : ByteArray} {n mc ms a : Nat} {ret : Option FieldType} {Qf : State → Prop} {K N : MK} {I : MI} {L : ML} {R : MR} {pc : Nat} {lv : List (Nat × Value)} {st : List Value} (hC : ZOk X G RX12 cc n ret) (hd : decode cc pc = .ok (.putfield 113, 3)) (hK : K a = 13) (hi : X.2.2.2.2.2.2.2.2.1.name = "<init>") {x : Nat} (k : Z X G n mc ms Qf K N I L (mup R a 19 (some x)) (pc + 3) lv st) : Z X G n mc ms Qf K N I L R pc lv (.ref x :: .ref a :: st) := z_putF hC z_cls12 (k := 19) (Nat.le_of_ble_eq_true rfl) fl_RX12_113 hK hd rfl rfl (z_slR rfl) z_neR rfl hi rfl k
theorem pf_RX12_116 {X : ZX} {G : ZG} {cc : ByteArray} {n mc ms a : Nat} {ret : Option FieldType} {Qf : State → Prop} {K N : MK} {I : MI} {L : ML} {R : MR} {pc : Nat} {lv : List (Nat × Value)} {st : List Value} (hC : ZOk X G RX12 cc n ret) (hd : decode cc pc = .ok (.putfield 116, 3)) (hK : K a = 13) (hi : X.2.2.2.2.2.2.2.2.1.name = "<init>") {x : Nat} (k : Z X G n mc ms Qf K N I L (mup R a 20 (some x)) (pc + 3) lv st) : Z X G n mc ms Qf K N I L R pc lv (.ref x :: .ref a :: st) := z_putF hC z_cls12 (k := 20) (Nat.le_of_ble_eq_true rfl) fl_RX12_116 hK hd rfl rfl (z_slR rfl) z_neR rfl hi rfl k
theorem pf_RX12_120 {X : ZX} {G : ZG} {cc : ByteArray} {n mc ms a : Nat} {ret : Option FieldType} {Qf : State → Prop} {K N : MK} {I : MI} {L : ML} {R : MR} {pc : Nat} {lv : List (Nat × Value)} {st : List Value} (hC : ZOk X G RX12 cc n ret) (hd : decode cc pc = .ok (.putfield 120, 3)) (hK : K a = 13) (hi : X.2.2.2.2.2.2.2.2.1.name = "<init>") {x : Nat} (k : Z X G n mc ms Qf K N I L (mup R a 21 (some x)) (pc + 3) lv st) : Z X G n mc ms Qf K N I L R pc lv (.ref x :: .ref a :: st) := z_putF hC z_cls12 (k := 21) (Nat.le_of_ble_eq_true rfl) fl_RX12_120 hK hd rfl rfl (z_slR rfl) z_neR rfl hi rfl k
theorem pf_RX12_123 {X : ZX} {G : ZG} {cc : ByteArray} {n mc ms a : Nat} {ret : Option FieldType} {Qf : State → Prop} {K N : MK} {I : MI} {L : ML} {R : MR} {pc : Nat} {lv : List (Nat × Value)} {st : List Value} (hC : ZOk X G RX12 cc n ret) (hd : decode cc pc = .ok (.putfield 123, 3)) (hK : K a = 13) (hi : X.2.2.2.2.2.2.2.2.1.name = "<init>") {x : Nat} (k : Z X G n mc ms Qf K N I L (mup R a 22 (some x)) (pc + 3) lv st) : Z X G n mc ms Qf K N I L R pc lv (.ref x :: .ref a :: st) := z_putF hC z_cls12 (k := 22) (Nat.le_of_ble_eq_true rfl) fl_RX12_123 hK hd rfl rfl (z_slR rfl) z_neR rfl hi rfl k
theorem pf_RX12_126 {X : ZX} {G : ZG} {cc : ByteArray} {n mc ms a : Nat} {ret : Option FieldType} {Qf : State → Prop} {K N : MK} {I : MI} {L : ML} {R : MR} {pc : Nat} {lv : List (Nat × Value)} {st : List Value} (hC : ZOk X G RX12 cc n ret) (hd : decode cc pc = .ok (.putfield 126, 3)) (hK : K a = 13) (hi : X.2.2.2.2.2.2.2.2.1.name = "<init>") {x : Nat} (k : Z X G n mc ms Qf K N I L (mup R a 23 (some x)) (pc + 3) lv st) : Z X G n mc ms Qf K N I L R pc lv (.ref x :: .ref a :: st) := z_putF hC z_cls12 (k := 23) (Nat.le_of_ble_eq_true rfl) fl_RX12_126 hK hd rfl rfl (z_slR rfl) z_neR rfl hi rfl k
theorem pf_RX12_130 {X : ZX} {G : ZG} {cc : ByteArray} {n mc ms a : Nat} {ret : Option FieldType} {Qf : State → Prop} {K N : MK} {I : MI} {L : ML} {R : MR} {pc : Nat} {lv : List (Nat × Value)} {st : List Value} (hC : ZOk X G RX12 cc n ret) (hd : decode cc pc = .ok (.putfield 130, 3)) (hK : K a = 13) (hi : X.2.2.2.2.2.2.2.2.1.name = "<init>") {x : Nat} (k : Z X G n mc ms Qf K N I L (mup R a 26 (some x)) (pc + 3) lv st) : Z X G n mc ms Qf K N I L R pc lv (.ref x :: .ref a :: st) := z_putF hC z_cls12 (k := 26) (Nat.le_of_ble_eq_true rfl) fl_RX12_130 hK hd rfl rfl (z_slR rfl) z_neR rfl hi rfl k
theorem pf_RX12_133 {X : ZX} {G : ZG} {cc : ByteArray} {n mc ms a : Nat} {ret : Option FieldType} {Qf : State → Prop} {K N : MK} {I : MI} {L : ML} {R : MR} {pc : Nat} {lv : List (Nat × Value)} {st : List Value} (hC : ZOk X G RX12 cc n ret) (hd : decode cc pc = .ok (.putfield 133, 3)) (hK : K a = 13) (hi : X.2.2.2.2.2.2.2.2.1.name = "<init>") {x : Nat} (k : Z X G n mc ms Qf K N I L (mup R a 27 (some x)) (pc + 3) lv st) : Z X G n mc ms Qf K N I L R pc lv (.ref x :: .ref a :: st) := z_putF hC z_cls12 (k := 27) (Nat.le_of_ble_eq_true rfl) fl_RX12_133 hK hd rfl rfl (z_slR rfl) z_neR rfl hi rfl k
theorem pf_RX12_136 {X : ZX} {G : ZG} {cc : ByteArray} {n mc ms a : Nat} {ret : Option FieldType} {Qf : State → Prop} {K N : MK} {I : MI} {L : ML} {R : MR} {pc : Nat} {lv : List (Nat × Value)} {st : List Value} (hC : ZOk X G RX12 cc n ret) (hd : decode cc pc = .ok (.putfield 136, 3)) (hK : K a = 13) (hi : X.2.2.2.2.2.2.2.2.1.name = "<init>") {x : Nat} (k : Z X G n mc ms Qf K N I L (mup R a 29 (some x)) (pc + 3) lv st) : Z X G n mc ms Qf K N I L R pc lv (.ref x :: .ref a :: st) := z_putF hC z_cls12 (k := 29) (Nat.le_of_ble_eq_true rfl) fl_RX12_136 hK hd rfl rfl (z_slR rfl) z_neR rfl hi rfl k
theorem pf_RX12_139 {X : ZX} {G : ZG} {cc : ByteArray} {n mc ms a : Nat} {ret : Option FieldType} {Qf : State → Prop} {K N : MK} {I : MI} {L : ML} {R : MR} {pc : Nat} {lv : List (Nat × Value)} {st : List Value} (hC : ZOk X G RX12 cc n ret) (hd : decode cc pc = .ok (.putfield 139, 3)) (hK : K a = 13) (hi : X.2.2.2.2.2.2.2.2.1.name = "<init>") {x : Nat} (k : Z X G n mc ms Qf K N I L (mup R a 32 (some x)) (pc + 3) lv st) : Z X G n mc ms Qf K N I L R pc lv (.ref x :: .ref a :: st) := z_putF hC z_cls12 (k := 32) (Nat.le_of_ble_eq_true rfl) fl_RX12_139 hK hd rfl rfl (z_slR rfl) z_neR rfl hi rfl k
theorem pf_RX12_142 {X : ZX} {G : ZG} {cc : ByteArray} {n mc ms a : Nat} {ret : Option FieldType} {Qf : State → Prop} {K N : MK} {I : MI} {L : ML} {R : MR} {pc : Nat} {lv : List (Nat × Value)} {st : List Value} (hC : ZOk X G RX12 cc n ret) (hd : decode cc pc = .ok (.putfield 142, 3)) (hK : K a = 13) (hi : X.2.2.2.2.2.2.2.2.1.name = "<init>") {x : Nat} (k : Z X G n mc ms Qf K N I L (mup R a 33 (some x)) (pc + 3) lv st) : Z X G n mc ms Qf K N I L R pc lv (.ref x :: .ref a :: st) := z_putF hC z_cls12 (k := 33) (Nat.le_of_ble_eq_true rfl) fl_RX12_142 hK hd rfl rfl (z_slR rfl) z_neR rfl hi rfl k
theorem pf_RX12_145 {X : ZX} {G : ZG} {cc : ByteArray} {n mc ms a : Nat} {ret : Option FieldType} {Qf : State → Prop} {K N : MK} {I : MI} {L : ML} {R : MR} {pc : Nat} {lv : List (Nat × Value)} {st : List Value} (hC : ZOk X G RX12 cc n ret) (hd : decode cc pc = .ok (.putfield 145, 3)) (hK : K a = 13) (hi : X.2.2.2.2.2.2.2.2.1.name = "<init>") {x : Nat} (k : Z X G n mc ms Qf K N I L (mup R a 34 (some x)) (pc + 3) lv st) : Z X G n mc ms Qf K N I L R pc lv (.ref x :: .ref a :: st) := z_putF hC z_cls12 (k := 34) (Nat.le_of_ble_eq_true rfl) fl_RX12_145 hK hd rfl rfl (z_slR rfl) z_neR rfl hi rfl k
theorem pf_RX12_148 {X : ZX} {G : ZG} {cc : ByteArray} {n mc ms a : Nat} {ret : Option FieldType} {Qf : State → Prop} {K N : MK} {I : MI} {L : ML} {R : MR} {pc : Nat} {lv : List (Nat × Value)} {st : List Value} (hC : ZOk X G RX12 cc n ret) (hd : decode cc pc = .ok (.putfield 148, 3)) (hK : K a = 13) (hi : X.2.2.2.2.2.2.2.2.1.name = "<init>") {x : Nat} (k : Z X G n mc ms Qf K N I L (mup R a 38 (some x)) (pc + 3) lv st) : Z X G n mc ms Qf K N I L R pc lv (.ref x :: .ref a :: st) := z_putF hC z_cls12 (k := 38) (Nat.le_of_ble_eq_true rfl) fl_RX12_148 hK hd rfl rfl (z_slR rfl) z_neR rfl hi rfl k
theorem pf_RX12_151 {X : ZX} {G : ZG} {cc : ByteArray} {n mc ms a : Nat} {ret : Option FieldType} {Qf : State → Prop} {K N : MK} {I : MI} {L : ML} {R : MR} {pc : Nat} {lv : List (Nat × Value)} {st : List Value} (hC : ZOk X G RX12 cc n ret) (hd : decode cc pc = .ok (.putfield 151, 3)) (hK : K a = 13) (hi : X.2.2.2.2.2.2.2.2.1.name = "<init>") {x : Nat} (k : Z X G n mc ms Qf K N I L (mup R a 39 (some x)) (pc + 3) lv st) : Z X G n mc ms Qf K N I L R pc lv (.ref x :: .ref a :: st) := z_putF hC z_cls12 (k := 39) (Nat.le_of_ble_eq_true rfl) fl_RX12_151 hK hd rfl rfl (z_slR rfl) z_neR rfl hi rfl k
theorem pf_RX12_154 {X : ZX} {G : ZG} {cc : ByteArray} {n mc ms a : Nat} {ret : Option FieldType} {Qf : State → Prop} {K N : MK} {I : MI} {L : ML} {R : MR} {pc : Nat} {lv : List (Nat × Value)} {st : List Value} (hC : ZOk X G RX12 cc n ret) (hd : decode cc pc = .ok (.putfield 154, 3)) (hK : K a = 13) (hi : X.2.2.2.2.2.2.2.2.1.name = "<init>") {x : Nat} (k : Z X G n mc ms Qf K N I L (mup R a 40 (some x)) (pc + 3) lv st) : Z X G n mc ms Qf K N I L R pc lv (.ref x :: .ref a :: st) := z_putF hC z_cls12 (k := 40) (Nat.le_of_ble_eq_true rfl) fl_RX12_154 hK hd rfl rfl (z_slR rfl) z_neR rfl hi rfl k
theorem pf_RX12_157 {X : ZX} {G : ZG} {cc : ByteArray} {n mc ms a : Nat} {ret : Option FieldType} {Qf : State → Prop} {K N : MK} {I : MI} {L : ML} {R : MR} {pc : Nat} {lv : List (Nat × Value)} {st : List Value} (hC : ZOk X G RX12 cc n ret) (hd : decode cc pc = .ok (.putfield 157, 3)) (hK : K a = 13) (hi : X.2.2.2.2.2.2.2.2.1.name = "<init>") {x : Nat} (k : Z X G n mc ms Qf K N I L (mup R a 41 (some x)) (pc + 3) lv st) : Z X G n mc ms Qf K N I L R pc lv (.ref x :: .ref a :: st) := z_putF hC z_cls12 (k := 41) (Nat.le_of_ble_eq_true rfl) fl_RX12_157 hK hd rfl rfl (z_slR rfl) z_neR rfl hi rfl k
theorem pf_RX12_160 {X : ZX} {G : ZG} {cc : ByteArray} {n mc ms a : Nat} {ret : Option FieldType} {Qf : State → Prop} {K N : MK} {I : MI} {L : ML} {R : MR} {pc : Nat} {lv : List (Nat × Value)} {st : List Value} (hC : ZOk X G RX12 cc n ret) (hd : decode cc pc = .ok (.putfield 160, 3)) (hK : K a = 13) (hi : X.2.2.2.2.2.2.2.2.1.name = "<init>") {x : Nat} (k : Z X G n mc ms Qf K N I L (mup R a 46 (some x)) (pc + 3) lv st) : Z X G n mc ms Qf K N I L R pc lv (.ref x :: .ref a :: st) := z_putF hC z_cls12 (k := 46) (Nat.le_of_ble_eq_true rfl) fl_RX12_160 hK hd rfl rfl (z_slR rfl) z_neR rfl hi rfl k
theorem pf_RX12_163 {X : ZX} {G : ZG} {cc : ByteArray} {n mc ms a : Nat} {ret : Option FieldType} {Qf : State → Prop} {K N : MK} {I : MI} {L : ML} {R : MR} {pc : Nat} {lv : List (Nat × Value)} {st : List Value} (hC : ZOk X G RX12 cc n ret) (hd : decode cc pc = .ok (.putfield 163, 3)) (hK : K a = 13) (hi : X.2.2.2.2.2.2.2.2.1.name = "<init>") {x : Nat} (k : Z X G n mc ms Qf K N I L (mup R a 49 (some x)) (pc + 3) lv st) : Z X G n mc ms Qf K N I L R pc lv (.ref x :: .ref a :: st) := z_putF hC z_cls12 (k := 49) (Nat.le_of_ble_eq_true rfl) fl_RX12_163 hK hd rfl rfl (z_slR rfl) z_neR rfl hi rfl k
theorem pf_RX12_166 {X : ZX} {G : ZG} {cc : ByteArray} {n mc ms a : Nat} {ret : Option FieldType} {Qf : State → Prop} {K N : MK} {I : MI} {L : ML} {R : MR} {pc : Nat} {lv : List (Nat × Value)} {st : List Value} (hC : ZOk X G RX12 cc n ret) (hd : decode cc pc = .ok (.putfield 166, 3)) (hK : K a = 13) (hi : X.2.2.2.2.2.2.2.2.1.name = "<init>") {x : Nat} (k : Z X G n mc ms Qf K N I L (mup R a 50 (some x)) (pc + 3) lv st) : Z X G n mc ms Qf K N I L R pc lv (.ref x :: .ref a :: st) := z_putF hC z_cls12 (k := 50) (Nat.le_of_ble_eq_true rfl) fl_RX12_166 hK hd rfl rfl (z_slR rfl) z_neR rfl hi rfl k
theorem pf_RX12_169 {X : ZX} {G : ZG} {cc : ByteArray} {n mc ms a : Nat} {ret : Option FieldType} {Qf : State → Prop} {K N : MK} {I : MI} {L : ML} {R : MR} {pc : Nat} {lv : List (Nat × Value)} {st : List Value} (hC : ZOk X G RX12 cc n ret) (hd : decode cc pc = .ok (.putfield 169, 3)) (hK : K a = 13) (hi : X.2.2.2.2.2.2.2.2.1.name = "<init>") {x : Nat} (k : Z X G n mc ms Qf K N I L (mup R a 53 (some x)) (pc + 3) lv st) : Z X G n mc ms Qf K N I L R pc lv (.ref x :: .ref a :: st) := z_putF hC z_cls12 (k := 53) (Nat.le_of_ble_eq_true rfl) fl_RX12_169 hK hd rfl rfl (z_slR rfl) z_neR rfl hi rfl k
theorem pf_RX12_7 {X : ZX} {G : ZG} {cc : ByteArray} {n mc ms a : Nat} {ret : Option FieldType} {Qf : State → Prop} {K N : MK} {I : MI} {L : ML} {R : MR} {pc : Nat} {lv : List (Nat × Value)} {st : List Value} (hC : ZOk X G RX12 cc n ret) (hd : decode cc pc = .ok (.putfield 7, 3)) (hK : K a = 13) (hi : X.2.2.2.2.2.2.2.2.1.name = "<init>") {x : Nat} (k : Z X G n mc ms Qf K N I L (mup R a 1 (some x)) (pc + 3) lv st) : Z X G n mc ms Qf K N I L R pc lv (.ref x :: .ref a :: st) := z_putF hC z_cls12 (k := 1) (Nat.le_of_ble_eq_true rfl) fl_RX12_7 hK hd rfl rfl (z_slR rfl) z_neR rfl hi rfl k
theorem pf_RX12_98 {X : ZX} {G : ZG} {cc : ByteArray} {n mc ms a : Nat} {ret : Option FieldType} {Qf : State → Prop} {K N : MK} {I : MI} {L : ML} {R : MR} {pc : Nat} {lv : List (Nat × Value)} {st : List Value} (hC : ZOk X G RX12 cc n ret) (hd : decode cc pc = .ok (.putfield 98, 3)) (hK : K a = 13) (hi : X.2.2.2.2.2.2.2.2.1.name = "<init>") {x : Nat} (k : Z X G n mc ms Qf K N I L (mup R a 14 (some x)) (pc + 3) lv st) : Z X G n mc ms Qf K N I L R pc lv (.ref x :: .ref a :: st) := z_putF hC z_cls12 (k := 14) (Nat.le_of_ble_eq_true rfl) fl_RX12_98 hK hd rfl rfl (z_slR rfl) z_neR rfl hi rfl k
theorem pf_RX2_11 {X : ZX} {G : ZG} {cc : ByteArray} {n mc ms a : Nat} {ret : Option FieldType} {Qf : State → Prop} {K N : MK} {I : MI} {L : ML} {R : MR} {pc : Nat} {lv : List (Nat × Value)} {st : List Value} (hC : ZOk X G RX2 cc n ret) (hd : decode cc pc = .ok (.putfield 11, 3)) (hK : K a = 3) (hi : X.2.2.2.2.2.2.2.2.1.name = "<init>") {x : Nat} (k : Z X G n mc ms Qf K N I L (mup R a 0 (some x)) (pc + 3) lv st) : Z X G n mc ms Qf K N I L R pc lv (.ref x :: .ref a :: st) := z_putF hC z_cls2 (k := 0) (Nat.le_of_ble_eq_true rfl) fl_RX2_11 hK hd rfl rfl (z_slR rfl) z_neR rfl hi rfl k
theorem pf_RX3_11 {X : ZX} {G : ZG} {cc : ByteArray} {n mc ms a : Nat} {ret : Option FieldType} {Qf : State → Prop} {K N : MK} {I : MI} {L : ML} {R : MR} {pc : Nat} {lv : List (Nat × Value)} {st : List Value} (hC : ZOk X G RX3 cc n ret) (hd : decode cc pc = .ok (.putfield 11, 3)) (hK : K a = 4) (hi : X.2.2.2.2.2.2.2.2.1.name = "<init>") {x : Nat} (k : Z X G n mc ms Qf K N I L (mup R a 0 (some x)) (pc + 3) lv st) : Z X G n mc ms Qf K N I L R pc lv (.ref x :: .ref a :: st) := z_putF hC z_cls3 (k := 0) (Nat.le_of_ble_eq_true rfl) fl_RX3_11 hK hd rfl rfl (z_slR rfl) z_neR rfl hi rfl k
theorem pf_RX3_15 {X : ZX} {G : ZG} {cc : ByteArray} {n mc ms a : Nat} {ret : Option FieldType} {Qf : State → Prop} {K N : MK} {I : MI} {L : ML} {R : MR} {pc : Nat} {lv : List (Nat × Value)} {st : List Value} (hC : ZOk X G RX3 cc n ret) (hd : decode cc pc = .ok (.putfield 15, 3)) (hK : K a = 4) (hi : X.2.2.2.2.2.2.2.2.1.name = "<init>") {x : Nat} (k : Z X G n mc ms Qf K N I L (mup R a 1 (some x)) (pc + 3) lv st) : Z X G n mc ms Qf K N I L R pc lv (.ref x :: .ref a :: st) := z_putF hC z_cls3 (k := 1) (Nat.le_of_ble_eq_true rfl) fl_RX3_15 hK hd rfl rfl (z_slR rfl) z_neR rfl hi rfl k
theorem pf_RX3_18 {X : ZX} {G : ZG} {cc : ByteArray} {n mc ms a : Nat} {ret : Option FieldType} {Qf : State → Prop} {K N : MK} {I : MI} {L : ML} {R : MR} {pc : Nat} {lv : List (Nat × Value)} {st : List Value} (hC : ZOk X G RX3 cc n ret) (hd : decode cc pc = .ok (.putfield 18, 3)) (hK : K a = 4) (hi : X.2.2.2.2.2.2.2.2.1.name = "<init>") {x : Nat} (k : Z X G n mc ms Qf K N I L (mup R a 2 (some x)) (pc + 3) lv st) : Z X G n mc ms Qf K N I L R pc lv (.ref x :: .ref a :: st) := z_putF hC z_cls3 (k := 2) (Nat.le_of_ble_eq_true rfl) fl_RX3_18 hK hd rfl rfl (z_slR rfl) z_neR rfl hi rfl k
theorem pf_RX4_16 {X : ZX} {G : ZG} {cc : ByteArray} {n mc ms a : Nat} {ret : Option FieldType} {Qf : State → Prop} {K N : MK} {I : MI} {L : ML} {R : MR} {pc : Nat} {lv : List (Nat × Value)} {st : List Value} (hC : ZOk X G RX4 cc n ret) (hd : decode cc pc = .ok (.putfield 16, 3)) (hK : K a = 5) (hi : X.2.2.2.2.2.2.2.2.1.name = "<init>") {x : Nat} (k : Z X G n mc ms Qf K N I L (mup R a 0 (some x)) (pc + 3) lv st) : Z X G n mc ms Qf K N I L R pc lv (.ref x :: .ref a :: st) := z_putF hC z_cls4 (k := 0) (Nat.le_of_ble_eq_true rfl) fl_RX4_16 hK hd rfl rfl (z_slR rfl) z_neR rfl hi rfl k
theorem pf_RX4_20 {X : ZX} {G : ZG} {cc : ByteArray} {n mc ms a : Nat} {ret : Option FieldType} {Qf : State → Prop} {K N : MK} {I : MI} {L : ML} {R : MR} {pc : Nat} {lv : List (Nat × Value)} {st : List Value} (hC : ZOk X G RX4 cc n ret) (hd : decode cc pc = .ok (.putfield 20, 3)) (hK : K a = 5) (hi : X.2.2.2.2.2.2.2.2.1.name = "<init>") {x : Nat} (k : Z X G n mc ms Qf K N I L (mup R a 1 (some x)) (pc + 3) lv st) : Z X G n mc ms Qf K N I L R pc lv (.ref x :: .ref a :: st) := z_putF hC z_cls4 (k := 1) (Nat.le_of_ble_eq_true rfl) fl_RX4_20 hK hd rfl rfl (z_slR rfl) z_neR rfl hi rfl k
theorem pf_RX4_23 {X : ZX} {G : ZG} {cc : ByteArray} {n mc ms a : Nat} {ret : Option FieldType} {Qf : State → Prop} {K N : MK} {I : MI} {L : ML} {R : MR} {pc : Nat} {lv : List (Nat × Value)} {st : List Value} (hC : ZOk X G RX4 cc n ret) (hd : decode cc pc = .ok (.putfield 23, 3)) (hK : K a = 5) (hi : X.2.2.2.2.2.2.2.2.1.name = "<init>") {x : Nat} (k : Z X G n mc ms Qf K N I L (mup R a 2 (some x)) (pc + 3) lv st) : Z X G n mc ms Qf K N I L R pc lv (.ref x :: .ref a :: st) := z_putF hC z_cls4 (k := 2) (Nat.le_of_ble_eq_true rfl) fl_RX4_23 hK hd rfl rfl (z_slR rfl) z_neR rfl hi rfl k
theorem pf_RX5_15 {X : ZX} {G : ZG} {cc : ByteArray} {n mc ms a : Nat} {ret : Option FieldType} {Qf : State → Prop} {K N : MK} {I : MI} {L : ML} {R : MR} {pc : Nat} {lv : List (Nat × Value)} {st : List Value} (hC : ZOk X G RX5 cc n ret) (hd : decode cc pc = .ok (.putfield 15, 3)) (hK : K a = 6) (hi : X.2.2.2.2.2.2.2.2.1.name = "<init>") {x : Nat} (k : Z X G n mc ms Qf K N I L (mup R a 1 (some x)) (pc + 3) lv st) : Z X G n mc ms Qf K N I L R pc lv (.ref x :: .ref a :: st) := z_putF hC z_cls5 (k := 1) (Nat.le_of_ble_eq_true rfl) fl_RX5_15 hK hd rfl rfl (z_slR rfl) z_neR rfl hi rfl k
theorem pf_RX5_19 {X : ZX} {G : ZG} {cc : ByteArray} {n mc ms a : Nat} {ret : Option FieldType} {Qf : State → Prop} {K N : MK} {I : MI} {L : ML} {R : MR} {pc : Nat} {lv : List (Nat × Value)} {st : List Value} (hC : ZOk X G RX5 cc n ret) (hd : decode cc pc = .ok (.putfield 19, 3)) (hK : K a = 6) (hi : X.2.2.2.2.2.2.2.2.1.name = "<init>") {x : Nat} (k : Z X G n mc ms Qf K N I L (mup R a 2 (some x)) (pc + 3) lv st) : Z X G n mc ms Qf K N I L R pc lv (.ref x :: .ref a :: st) := z_putF hC z_cls5 (k := 2) (Nat.le_of_ble_eq_true rfl) fl_RX5_19 hK hd rfl rfl (z_slR rfl) z_neR rfl hi rfl k
theorem pf_RX5_22 {X : ZX} {G : ZG} {cc : ByteArray} {n mc ms a : Nat} {ret : Option FieldType} {Qf : State → Prop} {K N : MK} {I : MI} {L : ML} {R : MR} {pc : Nat} {lv : List (Nat × Value)} {st : List Value} (hC : ZOk X G RX5 cc n ret) (hd : decode cc pc = .ok (.putfield 22, 3)) (hK : K a = 6) (hi : X.2.2.2.2.2.2.2.2.1.name = "<init>") {x : Nat} (k : Z X G n mc ms Qf K N I L (mup R a 3 (some x)) (pc + 3) lv st) : Z X G n mc ms Qf K N I L R pc lv (.ref x :: .ref a :: st) := z_putF hC z_cls5 (k := 3) (Nat.le_of_ble_eq_true rfl) fl_RX5_22 hK hd rfl rfl (z_slR rfl) z_neR rfl hi rfl k
theorem pf_RX5_25 {X : ZX} {G : ZG} {cc : ByteArray} {n mc ms a : Nat} {ret : Option FieldType} {Qf : State → Prop} {K N : MK} {I : MI} {L : ML} {R : MR} {pc : Nat} {lv : List (Nat × Value)} {st : List Value} (hC : ZOk X G RX5 cc n ret) (hd : decode cc pc = .ok (.putfield 25, 3)) (hK : K a = 6) (hi : X.2.2.2.2.2.2.2.2.1.name = "<init>") {x : Nat} (k : Z X G n mc ms Qf K N I L (mup R a 4 (some x)) (pc + 3) lv st) : Z X G n mc ms Qf K N I L R pc lv (.ref x :: .ref a :: st) := z_putF hC z_cls5 (k := 4) (Nat.le_of_ble_eq_true rfl) fl_RX5_25 hK hd rfl rfl (z_slR rfl) z_neR rfl hi rfl k
theorem pf_RX6_12 {X : ZX} {G : ZG} {cc : ByteArray} {n mc ms a : Nat} {ret : Option FieldType} {Qf : State → Prop} {K N : MK} {I : MI} {L : ML} {R : MR} {pc : Nat} {lv : List (Nat × Value)} {st : List Value} (hC : ZOk X G RX6 cc n ret) (hd : decode cc pc = .ok (.putfield 12, 3)) (hK : K a = 7) (hi : X.2.2.2.2.2.2.2.2.1.name = "<init>") {x : Nat} (k : Z X G n mc ms Qf K N I L (mup R a 0 (some x)) (pc + 3) lv st) : Z X G n mc ms Qf K N I L R pc lv (.ref x :: .ref a :: st) := z_putF hC z_cls6 (k := 0) (Nat.le_of_ble_eq_true rfl) fl_RX6_12 hK hd rfl rfl (z_slR rfl) z_neR rfl hi rfl k
theorem pf_RX7_15 {X : ZX} {G : ZG} {cc : ByteArray} {n mc ms a : Nat} {ret : Option FieldType} {Qf : State → Prop} {K N : MK} {I : MI} {L : ML} {R : MR} {pc : Nat} {lv : List (Nat × Value)} {st : List Value} (hC : ZOk X G RX7 cc n ret) (hd : decode cc pc = .ok (.putfield 15, 3)) (hK : K a = 8) (hi : X.2.2.2.2.2.2.2.2.1.name = "<init>") {x : Int32} (k : Z X G n mc ms Qf K N (mup I a 0 x) L R (pc + 3) lv st) : Z X G n mc ms Qf K N I L R pc lv (.int x :: .ref a :: st) := z_putF hC z_cls7 (k := 0) (Nat.le_of_ble_eq_true rfl) fl_RX7_15 hK hd rfl rfl (z_slI rfl) z_neI rfl hi rfl k
theorem pf_RX7_18 {X : ZX} {G : ZG} {cc : ByteArray} {n mc ms a : Nat} {ret : Option FieldType} {Qf : State → Prop} {K N : MK} {I : MI} {L : ML} {R : MR} {pc : Nat} {lv : List (Nat × Value)} {st : List Value} (hC : ZOk X G RX7 cc n ret) (hd : decode cc pc = .ok (.putfield 18, 3)) (hK : K a = 8) (hi : X.2.2.2.2.2.2.2.2.1.name = "<init>") {x : Nat} (k : Z X G n mc ms Qf K N I L (mup R a 1 (some x)) (pc + 3) lv st) : Z X G n mc ms Qf K N I L R pc lv (.ref x :: .ref a :: st) := z_putF hC z_cls7 (k := 1) (Nat.le_of_ble_eq_true rfl) fl_RX7_18 hK hd rfl rfl (z_slR rfl) z_neR rfl hi rfl k
theorem pf_RX7_22 {X : ZX} {G : ZG} {cc : ByteArray} {n mc ms a : Nat} {ret : Option FieldType} {Qf : State → Prop} {K N : MK} {I : MI} {L : ML} {R : MR} {pc : Nat} {lv : List (Nat × Value)} {st : List Value} (hC : ZOk X G RX7 cc n ret) (hd : decode cc pc = .ok (.putfield 22, 3)) (hK : K a = 8) (hi : X.2.2.2.2.2.2.2.2.1.name = "<init>") {x : Nat} (k : Z X G n mc ms Qf K N I L (mup R a 2 (some x)) (pc + 3) lv st) : Z X G n mc ms Qf K N I L R pc lv (.ref x :: .ref a :: st) := z_putF hC z_cls7 (k := 2) (Nat.le_of_ble_eq_true rfl) fl_RX7_22 hK hd rfl rfl (z_slR rfl) z_neR rfl hi rfl k
theorem pf_RX8_11 {X : ZX} {G : ZG} {cc : ByteArray} {n mc ms a : Nat} {ret : Option FieldType} {Qf : State → Prop} {K N : MK} {I : MI} {L : ML} {R : MR} {pc : Nat} {lv : List (Nat × Value)} {st : List Value} (hC : ZOk X G RX8 cc n ret) (hd : decode cc pc = .ok (.putfield 11, 3)) (hK : K a = 9) (hi : X.2.2.2.2.2.2.2.2.1.name = "<init>") {x : Nat} (k : Z X G n mc ms Qf K N I L (mup R a 0 (some x)) (pc + 3) lv st) : Z X G n mc ms Qf K N I L R pc lv (.ref x :: .ref a :: st) := z_putF hC z_cls8 (k := 0) (Nat.le_of_ble_eq_true rfl) fl_RX8_11 hK hd rfl rfl (z_slR rfl) z_neR rfl hi rfl k
theorem pf_RX9_20 {X : ZX} {G : ZG} {cc : ByteArray} {n mc ms a : Nat} {ret : Option FieldType} {Qf : State → Prop} {K N : MK} {I : MI} {L : ML} {R : MR} {pc : Nat} {lv : List (Nat × Value)} {st : List Value} (hC : ZOk X G RX9 cc n ret) (hd : decode cc pc = .ok (.putfield 20, 3)) (hK : K a = 10) (hi : X.2.2.2.2.2.2.2.2.1.name = "<init>") {x : Nat} (k : Z X G n mc ms Qf K N I L (mup R a 1 (some x)) (pc + 3) lv st) : Z X G n mc ms Qf K N I L R pc lv (.ref x :: .ref a :: st) := z_putF hC z_cls9 (k := 1) (Nat.le_of_ble_eq_true rfl) fl_RX9_20 hK hd rfl rfl (z_slR rfl) z_neR rfl hi rfl k
theorem pf_RX9_24 {X : ZX} {G : ZG} {cc : ByteArray} {n mc ms a : Nat} {ret : Option FieldType} {Qf : State → Prop} {K N : MK} {I : MI} {L : ML} {R : MR} {pc : Nat} {lv : List (Nat × Value)} {st : List Value} (hC : ZOk X G RX9 cc n ret) (hd : decode cc pc = .ok (.putfield 24, 3)) (hK : K a = 10) (hi : X.2.2.2.2.2.2.2.2.1.name = "<init>") {x : Nat} (k : Z X G n mc ms Qf K N I L (mup R a 2 (some x)) (pc + 3) lv st) : Z X G n mc ms Qf K N I L R pc lv (.ref x :: .ref a :: st) := z_putF hC z_cls9 (k := 2) (Nat.le_of_ble_eq_true rfl) fl_RX9_24 hK hd rfl rfl (z_slR rfl) z_neR rfl hi rfl k
theorem pf_RX9_27 {X : ZX} {G : ZG} {cc : ByteArray} {n mc ms a : Nat} {ret : Option FieldType} {Qf : State → Prop} {K N : MK} {I : MI} {L : ML} {R : MR} {pc : Nat} {lv : List (Nat × Value)} {st : List Value} (hC : ZOk X G RX9 cc n ret) (hd : decode cc pc = .ok (.putfield 27, 3)) (hK : K a = 10) (hi : X.2.2.2.2.2.2.2.2.1.name = "<init>") {x : Nat} (k : Z X G n mc ms Qf K N I L (mup R a 3 (some x)) (pc + 3) lv st) : Z X G n mc ms Qf K N I L R pc lv (.ref x :: .ref a :: st) := z_putF hC z_cls9 (k := 3) (Nat.le_of_ble_eq_true rfl) fl_RX9_27 hK hd rfl rfl (z_slR rfl) z_neR rfl hi rfl k
theorem pf_RX9_30 {X : ZX} {G : ZG} {cc : ByteArray} {n mc ms a : Nat} {ret : Option FieldType} {Qf : State → Prop} {K N : MK} {I : MI} {L : ML} {R : MR} {pc : Nat} {lv : List (Nat × Value)} {st : List Value} (hC : ZOk X G RX9 cc n ret) (hd : decode cc pc = .ok (.putfield 30, 3)) (hK : K a = 10) (hi : X.2.2.2.2.2.2.2.2.1.name = "<init>") {x : Nat} (k : Z X G n mc ms Qf K N I L (mup R a 4 (some x)) (pc + 3) lv st) : Z X G n mc ms Qf K N I L R pc lv (.ref x :: .ref a :: st) := z_putF hC z_cls9 (k := 4) (Nat.le_of_ble_eq_true rfl) fl_RX9_30 hK hd rfl rfl (z_slR rfl) z_neR rfl hi rfl k
theorem pf_RX9_33 {X : ZX} {G : ZG} {cc : ByteArray} {n mc ms a : Nat} {ret : Option FieldType} {Qf : State → Prop} {K N : MK} {I : MI} {L : ML} {R : MR} {pc : Nat} {lv : List (Nat × Value)} {st : List Value} (hC : ZOk X G RX9 cc n ret) (hd : decode cc pc = .ok (.putfield 33, 3)) (hK : K a = 10) (hi : X.2.2.2.2.2.2.2.2.1.name = "<init>") {x : Nat} (k : Z X G n mc ms Qf K N I L (mup R a 5 (some x)) (pc + 3) lv st) : Z X G n mc ms Qf K N I L R pc lv (.ref x :: .ref a :: st) := z_putF hC z_cls9 (k := 5) (Nat.le_of_ble_eq_true rfl) fl_RX9_33 hK hd rfl rfl (z_slR rfl) z_neR rfl hi rfl k
theorem w_oi : Cond.instanceMethod Lib.objectInit ∈ z_tbl := z_mt1 30 (by decide +kernel) rfl
theorem w_oc : Cond.code Lib.objectInit ⟨#[0xb1]⟩ 1 none ∈ z_tbl := z_mt1 31 (by decide +kernel) rfl
theorem w_arrI : Cond.arrayClass .int ∈ z_tbl := z_mt1 88 (by decide +kernel) rfl
theorem w_arrJ : Cond.arrayClass .long ∈ z_tbl := z_mt1 121 (by decide +kernel) rfl
theorem w_arrZ : Cond.arrayClass .boolean ∈ z_tbl := z_mt2 6 (by decide +kernel) rfl
theorem z_oi {m : MethodId} {pc : Nat} {ls : Array Slot} {s2 st : List Value} {lo : Nat} (hw : (st.map fun v => v.category).sum ≤ 0) (h : 12 ≤ lo) : 2 * (F0 m pc ls s2).monitorRoom + (st.map fun v => v.category).sum + 12 ≤ lo := by
  have e : (F0 m pc ls s2).monitorRoom = 0 := rfl
  omega
theorem z_objInit {X : ZX} {G : ZG} {own : String} {cc : ByteArray} {n mc ms : Nat} {ret : Option FieldType} {Qf : State → Prop} {K N : MK} {I : MI} {L : ML} {R : MR} {pc : Nat} {lv : List (Nat × Value)} {st : List Value} (hC : ZOk X G own cc n ret) {idx a : Nat} (hlk : Cond.methodLink own idx Lib.objectInit ∈ z_tbl) (hd : decode cc pc = .ok (.invokespecial idx, 3)) (hrm : 1 ≤ X.2.2.2.1.frames ∧ 12 ≤ X.2.2.2.1.locals) (hw : (st.map fun v => v.category).sum ≤ 0) (k : Z X G n mc ms Qf K N I L R (pc + 3) lv st) : Z X G n mc ms Qf K N I L R pc lv (.ref a :: st) := fun H locs ls hR hS hl => W.objInit hC.1 hC.2.1 hC.2.2.2.2.1 (hC.2.2.2.1 _ hlk) (hC.2.2.2.1 _ w_oi) (hC.2.2.2.1 _ w_oc) rfl (hl.1.trans hC.2.2.2.2.2.2.1.symm) rfl hd hrm.1 (z_oi hw hrm.2) (k H locs ls hR hS hl)
theorem z_dfl0 : ∀ j, j < 2 → defaultValue (tyX0 j) = vp_V (z_fs 0 (fun _ => 0) (fun _ => 0) (fun _ => none)) j := by
  intro j hj
  match j, hj with
  | 0, _ => rfl
  | 1, _ => rfl
  | j + 2, h => exact absurd h (by omega)
theorem z_dfl1 : ∀ j, j < 1 → defaultValue (tyX1 j) = vp_V (z_fs 1 (fun _ => 0) (fun _ => 0) (fun _ => none)) j := by
  intro j hj
  match j, hj with
  | 0, _ => rfl
  | j + 1, h => exact absurd h (by omega)
theorem z_dfl2 : ∀ j, j < 3 → defaultValue (tyX2 j) = vp_V (z_fs 2 (fun _ => 0) (fun _ => 0) (fun _ => none)) j := by
  intro j hj
  match j, hj with
  | 0, _ => rfl
  | 1, _ => rfl
  | 2, _ => rfl
  | j + 3, h => exact absurd h (by omega)
theorem z_dfl3 : ∀ j, j < 6 → defaultValue (tyX3 j) = vp_V (z_fs 3 (fun _ => 0) (fun _ => 0) (fun _ => none)) j := by
  intro j hj
  match j, hj with
  | 0, _ => rfl
  | 1, _ => rfl
  | 2, _ => rfl
  | 3, _ => rfl
  | 4, _ => rfl
  | 5, _ => rfl
  | j + 6, h => exact absurd h (by omega)
theorem z_dfl4 : ∀ j, j < 5 → defaultValue (tyX4 j) = vp_V (z_fs 4 (fun _ => 0) (fun _ => 0) (fun _ => none)) j := by
  intro j hj
  match j, hj with
  | 0, _ => rfl
  | 1, _ => rfl
  | 2, _ => rfl
  | 3, _ => rfl
  | 4, _ => rfl
  | j + 5, h => exact absurd h (by omega)
theorem z_dfl5 : ∀ j, j < 6 → defaultValue (tyX5 j) = vp_V (z_fs 5 (fun _ => 0) (fun _ => 0) (fun _ => none)) j := by
  intro j hj
  match j, hj with
  | 0, _ => rfl
  | 1, _ => rfl
  | 2, _ => rfl
  | 3, _ => rfl
  | 4, _ => rfl
  | 5, _ => rfl
  | j + 6, h => exact absurd h (by omega)
theorem z_dfl6 : ∀ j, j < 2 → defaultValue (tyX6 j) = vp_V (z_fs 6 (fun _ => 0) (fun _ => 0) (fun _ => none)) j := by
  intro j hj
  match j, hj with
  | 0, _ => rfl
  | 1, _ => rfl
  | j + 2, h => exact absurd h (by omega)
theorem z_dfl7 : ∀ j, j < 4 → defaultValue (tyX7 j) = vp_V (z_fs 7 (fun _ => 0) (fun _ => 0) (fun _ => none)) j := by
  intro j hj
  match j, hj with
  | 0, _ => rfl
  | 1, _ => rfl
  | 2, _ => rfl
  | 3, _ => rfl
  | j + 4, h => exact absurd h (by omega)
theorem z_dfl8 : ∀ j, j < 12 → defaultValue (tyX8 j) = vp_V (z_fs 8 (fun _ => 0) (fun _ => 0) (fun _ => none)) j := by
  intro j hj
  match j, hj with
  | 0, _ => rfl
  | 1, _ => rfl
  | 2, _ => rfl
  | 3, _ => rfl
  | 4, _ => rfl
  | 5, _ => rfl
  | 6, _ => rfl
  | 7, _ => rfl
  | 8, _ => rfl
  | 9, _ => rfl
  | 10, _ => rfl
  | 11, _ => rfl
  | j + 12, h => exact absurd h (by omega)
theorem z_dfl9 : ∀ j, j < 6 → defaultValue (tyX9 j) = vp_V (z_fs 9 (fun _ => 0) (fun _ => 0) (fun _ => none)) j := by
  intro j hj
  match j, hj with
  | 0, _ => rfl
  | 1, _ => rfl
  | 2, _ => rfl
  | 3, _ => rfl
  | 4, _ => rfl
  | 5, _ => rfl
  | j + 6, h => exact absurd h (by omega)
theorem z_dfl10 : ∀ j, j < 3 → defaultValue (tyX10 j) = vp_V (z_fs 10 (fun _ => 0) (fun _ => 0) (fun _ => none)) j := by
  intro j hj
  match j, hj with
  | 0, _ => rfl
  | 1, _ => rfl
  | 2, _ => rfl
  | j + 3, h => exact absurd h (by omega)
theorem z_dfl11 : ∀ j, j < 20 → defaultValue (tyX11 j) = vp_V (z_fs 11 (fun _ => 0) (fun _ => 0) (fun _ => none)) j := by
  intro j hj
  match j, hj with
  | 0, _ => rfl
  | 1, _ => rfl
  | 2, _ => rfl
  | 3, _ => rfl
  | 4, _ => rfl
  | 5, _ => rfl
  | 6, _ => rfl
  | 7, _ => rfl
  | 8, _ => rfl
  | 9, _ => rfl
  | 10, _ => rfl
  | 11, _ => rfl
  | 12, _ => rfl
  | 13, _ => rfl
  | 14, _ => rfl
  | 15, _ => rfl
  | 16, _ => rfl
  | 17, _ => rfl
  | 18, _ => rfl
  | 19, _ => rfl
  | j + 20, h => exact absurd h (by omega)
theorem z_dfl12 : ∀ j, j < 58 → defaultValue (tyX12 j) = vp_V (z_fs 12 (fun _ => 0) (fun _ => 0) (fun _ => none)) j := by
  intro j hj
  match j, hj with
  | 0, _ => rfl
  | 1, _ => rfl
  | 2, _ => rfl
  | 3, _ => rfl
  | 4, _ => rfl
  | 5, _ => rfl
  | 6, _ => rfl
  | 7, _ => rfl
  | 8, _ => rfl
  | 9, _ => rfl
  | 10, _ => rfl
  | 11, _ => rfl
  | 12, _ => rfl
  | 13, _ => rfl
  | 14, _ => rfl
  | 15, _ => rfl
  | 16, _ => rfl
  | 17, _ => rfl
  | 18, _ => rfl
  | 19, _ => rfl
  | 20, _ => rfl
  | 21, _ => rfl
  | 22, _ => rfl
  | 23, _ => rfl
  | 24, _ => rfl
  | 25, _ => rfl
  | 26, _ => rfl
  | 27, _ => rfl
  | 28, _ => rfl
  | 29, _ => rfl
  | 30, _ => rfl
  | 31, _ => rfl
  | 32, _ => rfl
  | 33, _ => rfl
  | 34, _ => rfl
  | 35, _ => rfl
  | 36, _ => rfl
  | 37, _ => rfl
  | 38, _ => rfl
  | 39, _ => rfl
  | 40, _ => rfl
  | 41, _ => rfl
  | 42, _ => rfl
  | 43, _ => rfl
  | 44, _ => rfl
  | 45, _ => rfl
  | 46, _ => rfl
  | 47, _ => rfl
  | 48, _ => rfl
  | 49, _ => rfl
  | 50, _ => rfl
  | 51, _ => rfl
  | 52, _ => rfl
  | 53, _ => rfl
  | 54, _ => rfl
  | 55, _ => rfl
  | 56, _ => rfl
  | 57, _ => rfl
  | j + 58, h => exact absurd h (by omega)
theorem kup_at {K : MK} {a v : Nat} : kup K a v a = v := by simp [kup]
theorem kup_ne {K : MK} {a v b : Nat} (h : b ≠ a) : kup K a v b = K b := by simp [kup, h]
theorem mfr_at {α : Type} {M : Nat → Nat → α} {a : Nat} {v : α} : mfr M a v a = fun _ => v := by funext y; simp [mfr]
theorem mfr_ne {α : Type} {M : Nat → Nat → α} {a b : Nat} {v : α} (h : b ≠ a) : mfr M a v b = M b := by funext y; simp [mfr, h]
/-- one more cell -/
theorem z_grow {G : ZG} {K N N1 : MK} {I I1 : MI} {L L1 : ML} {R R1 : MR} {H H1 : Heap} {k : Nat} {e : va_E} (hR : Rp G K N I L R H) (h0 : 0 < G.2.2.1) (hb : G.2.2.1 ≤ H.size) (z1 : H1.size = H.size + 1) (o1 : ∀ q, q < H.size → H1[q]? = H[q]?) (hat : va_at G.1 vwCl (H.size, e) H1) (he : z_f G (kup K H.size k) N1 I1 L1 R1 H.size = e) (hN : N1 0 = N 0 + 1) (hne : ∀ b, b ≠ H.size → (b ≠ 0 → N1 b = N b) ∧ I1 b = I b ∧ L1 b = L b ∧ R1 b = R b) : Rp G (kup K H.size k) N1 I1 L1 R1 H1 := by
  refine ⟨by rw [z1, hN, hR.1], fun b hKb => ?_⟩
  by_cases h : b = H.size
  · subst h
    rw [he]
    exact ⟨hb, hat⟩
  · rw [kup_ne h] at hKb
    obtain ⟨hA, hatb⟩ := hR.2 b hKb
    have hb0 : b ≠ 0 := fun e => by rw [e] at hA; exact absurd hA (Nat.not_le.mpr h0)
    obtain ⟨g1, g2, g3, g4⟩ := hne b h
    rw [z_f, kup_ne h, g1 hb0, g2, g3, g4]
    exact ⟨hA, hatb.kept (o1 b hatb.lt)⟩
theorem z_growS {A : Nat → Prop} {H0 H H1 : Heap} {locs : List Loc} (hS : va_S A H0 H locs) (z1 : H1.size = H.size + 1) (o1 : ∀ q, q < H.size → H1[q]? = H[q]?) : va_S A H0 H1 locs := ⟨Nat.le_trans hS.1 (by omega), fun x h1 h2 => (o1 x (Nat.lt_of_lt_of_le h1 hS.1)).trans (hS.2.1 x h1 h2), hS.2.2⟩
theorem z_new {X : ZX} {G : ZG} {own : String} {cc : ByteArray} {n mc ms : Nat} {ret : Option FieldType} {Qf : State → Prop} {K N : MK} {I : MI} {L : ML} {R : MR} {pc : Nat} {lv : List (Nat × Value)} {st : List Value} (hC : ZOk X G own cc n ret) {c idx : Nat} {C : String} {T : u_T} {nn : Nat} {ty : Nat → FieldType} (hc : z_cls c C T nn ty) (hm : Cond.classLink own idx C ∈ z_tbl) (hi : Cond.instantiable C nn ∈ z_tbl) (hini : Cond.initialized C ∈ z_tbl) (hd : decode cc pc = .ok (.new idx, 3)) (hcs : mc + 1 ≤ X.2.2.2.1.cells ∧ ms + nn ≤ X.2.2.2.1.slots) (hdf : ∀ j, j < nn → defaultValue (ty j) = vp_V (z_fs c (fun _ => 0) (fun _ => 0) (fun _ => none)) j)
    (k : ∀ q, q = N 0 → Z X G n (mc + 1) (ms + nn) Qf (kup K q (c + 1)) (kup N 0 (N 0 + 1)) (mfr I q 0) (mfr L q 0) (mfr R q none) (pc + 3) lv (.ref q :: st)) : Z X G n mc ms Qf K N I L R pc lv st := by
  obtain ⟨h1, h2, h3, h4, h5, h6, h7⟩ := hc
  intro H locs ls hR hS hl
  have hKK := hC.2.2.2.2.2.2.2.1
  have hKn := hKK.1 c _ h1
  obtain ⟨hb, h0⟩ := hC.2.2.2.2.2.2.2.2.1
  have hb := Nat.le_trans hb hS.1
  refine W.newcK hC.1 hC.2.1 hC.2.2.2.2.1 (hC.2.2.2.1 _ hm) (hC.2.2.2.1 _ hi) (hC.2.2.2.1 _ hini) rfl hd hcs.1 hcs.2 hKn.2.1 rfl fun H1 kC hkC e1 z1 o1 => ?_
  have hat : va_at G.1 vwCl (H.size, .inr (c, z_fs c (fun _ => 0) (fun _ => 0) (fun _ => none))) H1 := ⟨_, h1, (u_born ty hC.2.2.2.1 h2 hKn hkC e1 h3).to hdf⟩
  have hz : H.size ≠ 0 := by omega
  exact k H.size hR.1 H1 locs ls (z_grow hR h0 hb z1 o1 hat ((z_E_obj kup_at h6).trans (by rw [mfr_at, mfr_at, mfr_at])) kup_at (fun b hb => ⟨fun h => kup_ne h, mfr_ne hb, mfr_ne hb, mfr_ne hb⟩)) (z_growS hS z1 o1) hl
theorem z_newarr14 {X : ZX} {G : ZG} {own : String} {cc : ByteArray} {n mc ms : Nat} {ret : Option FieldType} {Qf : State → Prop} {K N : MK} {I : MI} {L : ML} {R : MR} {pc : Nat} {lv : List (Nat × Value)} {st : List Value} (hC : ZOk X G own cc n ret) {x : Int32} (hd : decode cc pc = .ok (.newarray .int, 2)) (hx : ¬ x < 0) (hb : ix x ≤ 60000) (hcs : mc + 1 ≤ X.2.2.2.1.cells ∧ ms + ix x ≤ X.2.2.2.1.slots)
    (k : ∀ q, q = N 0 → Z X G n (mc + 1) (ms + ix x) Qf (kup K q 14) (kup (kup N q (ix x)) 0 (N 0 + 1)) (mfr I q 0) (mfr L q 0) (mfr R q none) (pc + 2) lv (.ref q :: st)) : Z X G n mc ms Qf K N I L R pc lv (.int x :: st) := by
  intro H locs ls hR hS hl
  obtain ⟨hbb, h0⟩ := hC.2.2.2.2.2.2.2.2.1
  have hbb := Nat.le_trans hbb hS.1
  refine va_newaK (atype := .int) (N := ix x) hC.1 hC.2.1 (hC.2.2.2.1 _ w_arrI) rfl hd rfl hx rfl (Nat.le_trans (Nat.mul_le_mul hb (show componentBytes .int ≤ 8 by decide)) (by decide)) hcs.1 hcs.2 rfl (fun H1 cA e1 z1 o1 hT hcl => ?_)
  have hcA : cA = G.2.1 0 := Option.some.inj (hcl.symm.trans (hC.2.2.2.2.2.2.2.1.2 0 _ rfl).2)
  subst hcA
  have hz : H.size ≠ 0 := by omega
  have hat : va_at G.1 vwCl (H.size, .inl (G.2.1 0, ix x, .inl (fun _ => 0))) H1 := e1
  exact k H.size hR.1 H1 locs ls (z_grow hR h0 hbb z1 o1 hat (by rw [z_f, kup_at, kup_ne hz, kup_at, mfr_at, mfr_at, mfr_at]; rfl) kup_at (fun b hb => ⟨fun h => by rw [kup_ne h, kup_ne hb], mfr_ne hb, mfr_ne hb, mfr_ne hb⟩)) (z_growS hS z1 o1) hl
theorem z_newarr15 {X : ZX} {G : ZG} {own : String} {cc : ByteArray} {n mc ms : Nat} {ret : Option FieldType} {Qf : State → Prop} {K N : MK} {I : MI} {L : ML} {R : MR} {pc : Nat} {lv : List (Nat × Value)} {st : List Value} (hC : ZOk X G own cc n ret) {x : Int32} (hd : decode cc pc = .ok (.newarray .long, 2)) (hx : ¬ x < 0) (hb : ix x ≤ 60000) (hcs : mc + 1 ≤ X.2.2.2.1.cells ∧ ms + ix x ≤ X.2.2.2.1.slots)
    (k : ∀ q, q = N 0 → Z X G n (mc + 1) (ms + ix x) Qf (kup K q 15) (kup (kup N q (ix x)) 0 (N 0 + 1)) (mfr I q 0) (mfr L q 0) (mfr R q none) (pc + 2) lv (.ref q :: st)) : Z X G n mc ms Qf K N I L R pc lv (.int x :: st) := by
  intro H locs ls hR hS hl
  obtain ⟨hbb, h0⟩ := hC.2.2.2.2.2.2.2.2.1
  have hbb := Nat.le_trans hbb hS.1
  refine va_newaK (atype := .long) (N := ix x) hC.1 hC.2.1 (hC.2.2.2.1 _ w_arrJ) rfl hd rfl hx rfl (Nat.le_trans (Nat.mul_le_mul hb (show componentBytes .long ≤ 8 by decide)) (by decide)) hcs.1 hcs.2 rfl (fun H1 cA e1 z1 o1 hT hcl => ?_)
  have hcA : cA = G.2.1 1 := Option.some.inj (hcl.symm.trans (hC.2.2.2.2.2.2.2.1.2 1 _ rfl).2)
  subst hcA
  have hz : H.size ≠ 0 := by omega
  have hat : va_at G.1 vwCl (H.size, .inl (G.2.1 1, ix x, .inr (.inl (fun _ => 0)))) H1 := e1
  exact k H.size hR.1 H1 locs ls (z_grow hR h0 hbb z1 o1 hat (by rw [z_f, kup_at, kup_ne hz, kup_at, mfr_at, mfr_at, mfr_at]; rfl) kup_at (fun b hb => ⟨fun h => by rw [kup_ne h, kup_ne hb], mfr_ne hb, mfr_ne hb, mfr_ne hb⟩)) (z_growS hS z1 o1) hl
theorem z_newarr16 {X : ZX} {G : ZG} {own : String} {cc : ByteArray} {n mc ms : Nat} {ret : Option FieldType} {Qf : State → Prop} {K N : MK} {I : MI} {L : ML} {R : MR} {pc : Nat} {lv : List (Nat × Value)} {st : List Value} (hC : ZOk X G own cc n ret) {x : Int32} (hd : decode cc pc = .ok (.newarray .boolean, 2)) (hx : ¬ x < 0) (hb : ix x ≤ 60000) (hcs : mc + 1 ≤ X.2.2.2.1.cells ∧ ms + ix x ≤ X.2.2.2.1.slots)
    (k : ∀ q, q = N 0 → Z X G n (mc + 1) (ms + ix x) Qf (kup K q 16) (kup (kup N q (ix x)) 0 (N 0 + 1)) (mfr I q 0) (mfr L q 0) (mfr R q none) (pc + 2) lv (.ref q :: st)) : Z X G n mc ms Qf K N I L R pc lv (.int x :: st) := by
  intro H locs ls hR hS hl
  obtain ⟨hbb, h0⟩ := hC.2.2.2.2.2.2.2.2.1
  have hbb := Nat.le_trans hbb hS.1
  refine va_newaK (atype := .boolean) (N := ix x) hC.1 hC.2.1 (hC.2.2.2.1 _ w_arrZ) rfl hd rfl hx rfl (Nat.le_trans (Nat.mul_le_mul hb (show componentBytes .boolean ≤ 8 by decide)) (by decide)) hcs.1 hcs.2 rfl (fun H1 cA e1 z1 o1 hT hcl => ?_)
  have hcA : cA = G.2.1 2 := Option.some.inj (hcl.symm.trans (hC.2.2.2.2.2.2.2.1.2 2 _ rfl).2)
  subst hcA
  have hz : H.size ≠ 0 := by omega
  have hat : va_at G.1 vwCl (H.size, .inl (G.2.1 2, ix x, .inl (fun _ => 0))) H1 := e1
  exact k H.size hR.1 H1 locs ls (z_grow hR h0 hbb z1 o1 hat (by rw [z_f, kup_at, kup_ne hz, kup_at, mfr_at, mfr_at, mfr_at]; rfl) kup_at (fun b hb => ⟨fun h => by rw [kup_ne h, kup_ne hb], mfr_ne hb, mfr_ne hb, mfr_ne hb⟩)) (z_growS hS z1 o1) hl
theorem z_newarr17 {X : ZX} {G : ZG} {own : String} {cc : ByteArray} {n mc ms : Nat} {ret : Option FieldType} {Qf : State → Prop} {K N : MK} {I : MI} {L : ML} {R : MR} {pc : Nat} {lv : List (Nat × Value)} {st : List Value} (hC : ZOk X G own cc n ret) {x : Int32} {idx : Nat} (hm : Cond.classLink own idx RX3 ∈ z_tbl) (hd : decode cc pc = .ok (.anewarray idx, 3)) (hx : ¬ x < 0) (hb : ix x ≤ 60000) (hcs : mc + 1 ≤ X.2.2.2.1.cells ∧ ms + ix x ≤ X.2.2.2.1.slots)
    (k : ∀ q, q = N 0 → Z X G n (mc + 1) (ms + ix x) Qf (kup K q 17) (kup (kup N q (ix x)) 0 (N 0 + 1)) (mfr I q 0) (mfr L q 0) (mfr R q none) (pc + 3) lv (.ref q :: st)) : Z X G n mc ms Qf K N I L R pc lv (.int x :: st) := by
  intro H locs ls hR hS hl
  obtain ⟨hbb, h0⟩ := hC.2.2.2.2.2.2.2.2.1
  have hbb := Nat.le_trans hbb hS.1
  refine W.anew hC.1 hC.2.1 hC.2.2.2.2.1 (hC.2.2.2.1 _ hm) (va_AO.use hC.2.2.2.2.2.2.2.2.2.2.2.2.2.2.2.2.2.2.2.1) rfl hd rfl hx (by have : x.toNatClampNeg ≤ 60000 := hb; omega) hcs.1 hcs.2 fun cA kA comp f1 f2 f3 f4 => ?_
  have hcA : cA = G.2.1 3 := by
    obtain ⟨_, _, _, _, _, e2⟩ := (hC.2.2.2.2.2.2.2.1.2 3 _ rfl).2
    exact Option.some.inj (f1.symm.trans e2)
  subst hcA
  generalize hH1 : H.push ({ cls := G.2.1 3, slots := Array.replicate x.toNatClampNeg .null, vm := .none } : Cell) = H1
  have z1 : H1.size = H.size + 1 := by rw [← hH1, Array.size_push]
  have e1 : H1[H.size]? = some (arrV (G.2.1 3) x.toNatClampNeg (fun _ => .null)) := by rw [← hH1, Array.getElem?_push_size, ← arrV_new]
  have o1 : ∀ q : Nat, q < H.size → H1[q]? = H[q]? := fun q hq => by rw [← hH1, Array.getElem?_push, if_neg (Nat.ne_of_lt hq)]
  have hz : H.size ≠ 0 := by omega
  have hat : va_at G.1 vwCl (H.size, .inl (G.2.1 3, ix x, .inr (.inr (.inr (.inr (fun _ => none)))))) H1 := e1
  exact k H.size hR.1 H1 locs ls (z_grow hR h0 hbb z1 o1 hat (by rw [z_f, kup_at, kup_ne hz, kup_at, mfr_at, mfr_at, mfr_at]; rfl) kup_at (fun b hb => ⟨fun h => by rw [kup_ne h, kup_ne hb], mfr_ne hb, mfr_ne hb, mfr_ne hb⟩)) (z_growS hS z1 o1) hl
theorem z_newarr18 {X : ZX} {G : ZG} {own : String} {cc : ByteArray} {n mc ms : Nat} {ret : Option FieldType} {Qf : State → Prop} {K N : MK} {I : MI} {L : ML} {R : MR} {pc : Nat} {lv : List (Nat × Value)} {st : List Value} (hC : ZOk X G own cc n ret) {x : Int32} {idx : Nat} (hm : Cond.classLink own idx RX5 ∈ z_tbl) (hd : decode cc pc = .ok (.anewarray idx, 3)) (hx : ¬ x < 0) (hb : ix x ≤ 60000) (hcs : mc + 1 ≤ X.2.2.2.1.cells ∧ ms + ix x ≤ X.2.2.2.1.slots)
    (k : ∀ q, q = N 0 → Z X G n (mc + 1) (ms + ix x) Qf (kup K q 18) (kup (kup N q (ix x)) 0 (N 0 + 1)) (mfr I q 0) (mfr L q 0) (mfr R q none) (pc + 3) lv (.ref q :: st)) : Z X G n mc ms Qf K N I L R pc lv (.int x :: st) := by
  intro H locs ls hR hS hl
  obtain ⟨hbb, h0⟩ := hC.2.2.2.2.2.2.2.2.1
  have hbb := Nat.le_trans hbb hS.1
  refine W.anew hC.1 hC.2.1 hC.2.2.2.2.1 (hC.2.2.2.1 _ hm) (va_AO.use hC.2.2.2.2.2.2.2.2.2.2.2.2.2.2.2.2.2.2.2.2.1) rfl hd rfl hx (by have : x.toNatClampNeg ≤ 60000 := hb; omega) hcs.1 hcs.2 fun cA kA comp f1 f2 f3 f4 => ?_
  have hcA : cA = G.2.1 4 := by
    obtain ⟨_, _, _, _, _, e2⟩ := (hC.2.2.2.2.2.2.2.1.2 4 _ rfl).2
    exact Option.some.inj (f1.symm.trans e2)
  subst hcA
  generalize hH1 : H.push ({ cls := G.2.1 4, slots := Array.replicate x.toNatClampNeg .null, vm := .none } : Cell) = H1
  have z1 : H1.size = H.size + 1 := by rw [← hH1, Array.size_push]
  have e1 : H1[H.size]? = some (arrV (G.2.1 4) x.toNatClampNeg (fun _ => .null)) := by rw [← hH1, Array.getElem?_push_size, ← arrV_new]
  have o1 : ∀ q : Nat, q < H.size → H1[q]? = H[q]? := fun q hq => by rw [← hH1, Array.getElem?_push, if_neg (Nat.ne_of_lt hq)]
  have hz : H.size ≠ 0 := by omega
  have hat : va_at G.1 vwCl (H.size, .inl (G.2.1 4, ix x, .inr (.inr (.inr (.inr (fun _ => none)))))) H1 := e1
  exact k H.size hR.1 H1 locs ls (z_grow hR h0 hbb z1 o1 hat (by rw [z_f, kup_at, kup_ne hz, kup_at, mfr_at, mfr_at, mfr_at]; rfl) kup_at (fun b hb => ⟨fun h => by rw [kup_ne h, kup_ne hb], mfr_ne hb, mfr_ne hb, mfr_ne hb⟩)) (z_growS hS z1 o1) hl
theorem z_newarr19 {X : ZX} {G : ZG} {own : String} {cc : ByteArray} {n mc ms : Nat} {ret : Option FieldType} {Qf : State → Prop} {K N : MK} {I : MI} {L : ML} {R : MR} {pc : Nat} {lv : List (Nat × Value)} {st : List Value} (hC : ZOk X G own cc n ret) {x : Int32} {idx : Nat} (hm : Cond.classLink own idx RX9 ∈ z_tbl) (hd : decode cc pc = .ok (.anewarray idx, 3)) (hx : ¬ x < 0) (hb : ix x ≤ 60000) (hcs : mc + 1 ≤ X.2.2.2.1.cells ∧ ms + ix x ≤ X.2.2.2.1.slots)
    (k : ∀ q, q = N 0 → Z X G n (mc + 1) (ms + ix x) Qf (kup K q 19) (kup (kup N q (ix x)) 0 (N 0 + 1)) (mfr I q 0) (mfr L q 0) (mfr R q none) (pc + 3) lv (.ref q :: st)) : Z X G n mc ms Qf K N I L R pc lv (.int x :: st) := by
  intro H locs ls hR hS hl
  obtain ⟨hbb, h0⟩ := hC.2.2.2.2.2.2.2.2.1
  have hbb := Nat.le_trans hbb hS.1
  refine W.anew hC.1 hC.2.1 hC.2.2.2.2.1 (hC.2.2.2.1 _ hm) (va_AO.use hC.2.2.2.2.2.2.2.2.2.2.2.2.2.2.2.2.2.2.2.2.2) rfl hd rfl hx (by have : x.toNatClampNeg ≤ 60000 := hb; omega) hcs.1 hcs.2 fun cA kA comp f1 f2 f3 f4 => ?_
  have hcA : cA = G.2.1 5 := by
    obtain ⟨_, _, _, _, _, e2⟩ := (hC.2.2.2.2.2.2.2.1.2 5 _ rfl).2
    exact Option.some.inj (f1.symm.trans e2)
  subst hcA
  generalize hH1 : H.push ({ cls := G.2.1 5, slots := Array.replicate x.toNatClampNeg .null, vm := .none } : Cell) = H1
  have z1 : H1.size = H.size + 1 := by rw [← hH1, Array.size_push]
  have e1 : H1[H.size]? = some (arrV (G.2.1 5) x.toNatClampNeg (fun _ => .null)) := by rw [← hH1, Array.getElem?_push_size, ← arrV_new]
  have o1 : ∀ q : Nat, q < H.size → H1[q]? = H[q]? := fun q hq => by rw [← hH1, Array.getElem?_push, if_neg (Nat.ne_of_lt hq)]
  have hz : H.size ≠ 0 := by omega
  have hat : va_at G.1 vwCl (H.size, .inl (G.2.1 5, ix x, .inr (.inr (.inr (.inr (fun _ => none)))))) H1 := e1
  exact k H.size hR.1 H1 locs ls (z_grow hR h0 hbb z1 o1 hat (by rw [z_f, kup_at, kup_ne hz, kup_at, mfr_at, mfr_at, mfr_at]; rfl) kup_at (fun b hb => ⟨fun h => by rw [kup_ne h, kup_ne hb], mfr_ne hb, mfr_ne hb, mfr_ne hb⟩)) (z_growS hS z1 o1) hl
theorem z_callN {X : ZX} {G : ZG} {own : String} {cc : ByteArray} {n mc ms : Nat} {ret : Option FieldType} {Qf : State → Prop} {K N : MK} {I : MI} {L : ML} {R : MR} {pc : Nat} {lv : List (Nat × Value)} {st : List Value} (hC : ZOk X G own cc n ret) {y : MethodName} {b : ByteArray} {mL na idx a : Nat} {rm : Room} {QG : PostT} {As rest : List Value} {mc1 ms1 : Nat} {host : String} (hM : Met X.2.1 y (.code y b mL none :: z_tbl) rm (z_Pc G (.ref a :: As) K N I L R) (z_Qc G QG) mc1 ms1 (z_A G)) (hcode : Cond.code y b mL none ∈ z_tbl) (hrc : rm.cells = mc1 ∧ rm.slots = ms1) (hini : Cond.initialized y.cls ∈ z_tbl) (hlk : (own, idx, y, host) ∈ z_nest) (hin : Cond.instanceMethod y ∈ z_tbl) (hy1 : y.name = "<init>") (hd : decode cc pc = .ok (.invokespecial idx, 3))
    (hy : y.cls ≠ "java/lang/invoke/MethodHandle" ∧ y.cls ≠ "java/lang/invoke/VarHandle" ∧ (parseMethodDescriptor y.desc).map (fun d => d.parameters.length) = some na) (hna : As.length = na) (hrm : rm.frames + 1 ≤ X.2.2.2.1.frames ∧ 8 + (mL + 11) + rm.locals ≤ X.2.2.2.1.locals) (hf : mc + mc1 ≤ X.2.2.2.1.cells ∧ ms + ms1 ≤ X.2.2.2.1.slots)
    (hst : st = As.reverse ++ .ref a :: rest) (hw : (rest.map fun v => v.category).sum ≤ 8)
    (k : ∀ v K N I L R, QG v K N I L R → Z X G n (mc + mc1) (ms + ms1) Qf K N I L R (pc + 3) lv (v.toList ++ rest)) : Z X G n mc ms Qf K N I L R pc lv st := by
  intro H locs ls hR hS hl
  have hp := z_pre (As := .ref a :: As) hC hR hS
  exact z_back hC hS hl (va_runIN (As := As) (rest := rest) ⟨hC.1, hC.2.1, hC.2.2.2.2.2.2.1, hC.2.2.2.2.1, hC.2.2.2.1⟩ hM ⟨va_cnB na hC.2.2.2.1 (z_gI hcode) rfl hrc.1 hrc.2 (hC.2.2.2.2.2.2.2.2.2.2.2.2.2.2.2.2.2.2.1 _ hlk) (hC.2.2.2.1 _ hini) hy hrm, hy1, hC.2.2.2.1 _ hin⟩ hp rfl hna hl.1 hst (lv_room hw) hd hf) k
def w_X7_init (a0 : Nat) (a1 : Int32) (a2 : Int32) (K : MK) (N : MK) (I : MI) (L : ML) (R : MR) (MC MS : Nat) (Q : MK → MK → MI → ML → MR → Prop) : Prop := K a0 = 8 ∧ ∀ I2 : MI, I2 = mup I a0 3 0 → ∀ I3 : MI, I3 = mup I2 a0 0 a2 → ¬ a1 < 0 ∧ (ix a1) ≤ 60000 ∧ 0 + 1 ≤ MC ∧ 0 + (ix a1) ≤ MS ∧ ∀ q6 : Nat, q6 = N 0 → ∀ K7 : MK, K7 = kup K q6 15 → ∀ N8 : MK, N8 = kup (kup N q6 (ix a1)) 0 (N 0 + 1) → ∀ I9 : MI, I9 = mfr I3 q6 0 → ∀ L10 : ML, L10 = mfr L q6 0 → ∀ R11 : MR, R11 = mfr R q6 none → K7 a0 = 8 ∧ ∀ R13 : MR, R13 = mup R11 a0 1 (some q6) → ¬ (a1 * a2) < 0 ∧ (ix (a1 * a2)) ≤ 60000 ∧ (0 + 1) + 1 ≤ MC ∧ (0 + (ix a1)) + (ix (a1 * a2)) ≤ MS ∧ ∀ q16 : Nat, q16 = N8 0 → ∀ K17 : MK, K17 = kup K7 q16 14 → ∀ N18 : MK, N18 = kup (kup N8 q16 (ix (a1 * a2))) 0 (N8 0 + 1) → ∀ I19 : MI, I19 = mfr I9 q16 0 → ∀ L20 : ML, L20 = mfr L10 q16 0 → ∀ R21 : MR, R21 = mfr R13 q16 none → K17 a0 = 8 ∧ ∀ R23 : MR, R23 = mup R21 a0 2 (some q16) → ((0 + 1) + 1) ≤ MC ∧ ((0 + (ix a1)) + (ix (a1 * a2))) ≤ MS ∧ Q K17 N18 I19 L20 R23
set_option maxHeartbeats 4000000 in
set_option maxRecDepth 100000 in
theorem c_X7_init (l : Launch) (G : ZG) (a0 : Nat) (a1 : Int32) (a2 : Int32) (K : MK) (N : MK) (I : MI) (L : ML) (R : MR) (MC MS : Nat) (Q : MK → MK → MI → ML → MR → Prop) (h : w_X7_init a0 a1 a2 K N I L R MC MS Q) : Met l yX7_init (.code yX7_init cX7_init 3 none :: z_tbl) { frames := 1, cells := MC, slots := MS, locals := 12 } (z_Pc G [.ref a0, .int a1, .int a2] K N I L R) (z_Qc G (qKv Q)) MC MS (z_A G) := by
  refine z_met (by decide) (Nat.le_of_ble_eq_true rfl) (fun X hX hRm hC0 hnm => ?_)
  subst hX
  have hi : X.2.2.2.2.2.2.2.2.1.name = "<init>" := hnm
  have hC : ZOk X G RX7 cX7_init 3 none := hC0
  show Z X G 3 0 0 _ K N I L R 0 [(0, .ref a0), (1, .int a1), (2, .int a2)] []
  delta w_X7_init at h
  refine z_aload_n hC (q := 0) dX7_init_0 rfl rfl ?_
  refine z_objInit hC ml_RX7_3 dX7_init_1 (by rw [hRm]; exact ⟨Nat.le_of_ble_eq_true rfl, Nat.le_of_ble_eq_true rfl⟩) (Nat.le_of_ble_eq_true rfl) ?_
  refine z_aload_n hC (q := 0) dX7_init_4 rfl rfl ?_
  refine z_iconst hC (v := 0) k_iconst_0 dX7_init_5 ?_
  obtain ⟨hk1, h⟩ := h
  refine pf_RX7_9 hC dX7_init_6 hk1 ?_
  refine z_genI (fun I2 eI2 => ?_)
  have h := h I2 eI2
  refine z_aload_n hC (q := 0) dX7_init_9 rfl rfl ?_
  refine z_iload_n hC (q := 2) dX7_init_10 rfl rfl ?_
  refine pf_RX7_15 hC dX7_init_11 hk1 hi ?_
  refine z_genI (fun I3 eI3 => ?_)
  have h := h I3 eI3
  refine z_aload_n hC (q := 0) dX7_init_14 rfl rfl ?_
  refine z_iload_n hC (q := 1) dX7_init_15 rfl rfl ?_
  obtain ⟨hl4a, hl4b, h⟩ := h
  obtain ⟨hm5a, hm5b, h⟩ := h
  refine z_newarr15 hC dX7_init_16 hl4a hl4b (by rw [hRm]; exact ⟨hm5a, hm5b⟩) (fun q6 hq6 => ?_)
  have h := h q6 hq6
  refine z_genK (fun K7 eK7 => ?_)
  have h := h K7 eK7
  refine z_genN (fun N8 eN8 => ?_)
  have h := h N8 eN8
  refine z_genI (fun I9 eI9 => ?_)
  have h := h I9 eI9
  refine z_genL (fun L10 eL10 => ?_)
  have h := h L10 eL10
  refine z_genR (fun R11 eR11 => ?_)
  have h := h R11 eR11
  obtain ⟨hk12, h⟩ := h
  refine pf_RX7_18 hC dX7_init_18 hk12 hi ?_
  refine z_genR (fun R13 eR13 => ?_)
  have h := h R13 eR13
  refine z_aload_n hC (q := 0) dX7_init_21 rfl rfl ?_
  refine z_iload_n hC (q := 1) dX7_init_22 rfl rfl ?_
  refine z_iload_n hC (q := 2) dX7_init_23 rfl rfl ?_
  refine z_imul hC dX7_init_24 ?_
  obtain ⟨hl14a, hl14b, h⟩ := h
  obtain ⟨hm15a, hm15b, h⟩ := h
  refine z_newarr14 hC dX7_init_25 hl14a hl14b (by rw [hRm]; exact ⟨hm15a, hm15b⟩) (fun q16 hq16 => ?_)
  have h := h q16 hq16
  refine z_genK (fun K17 eK17 => ?_)
  have h := h K17 eK17
  refine z_genN (fun N18 eN18 => ?_)
  have h := h N18 eN18
  refine z_genI (fun I19 eI19 => ?_)
  have h := h I19 eI19
  refine z_genL (fun L20 eL20 => ?_)
  have h := h L20 eL20
  refine z_genR (fun R21 eR21 => ?_)
  have h := h R21 eR21
  obtain ⟨hk22, h⟩ := h
  refine pf_RX7_22 hC dX7_init_27 hk22 hi ?_
  refine z_genR (fun R23 eR23 => ?_)
  have h := h R23 eR23
  obtain ⟨hm24a, hm24b, h⟩ := h
  exact z_widen hm24a hm24b (z_vret hC dX7_init_30 ⟨rfl, h⟩)
def w_X8_init (a0 : Nat) (K : MK) (N : MK) (I : MI) (L : ML) (R : MR) (MC MS : Nat) (Q : MK → MK → MI → ML → MR → Prop) : Prop := ¬ (940 : Int32) < 0 ∧ (ix 940) ≤ 60000 ∧ 0 + 1 ≤ MC ∧ 0 + (ix 940) ≤ MS ∧ ∀ q3 : Nat, q3 = N 0 → ∀ K4 : MK, K4 = kup K q3 14 → ∀ N5 : MK, N5 = kup (kup N q3 (ix 940)) 0 (N 0 + 1) → ∀ I6 : MI, I6 = mfr I q3 0 → ∀ L7 : ML, L7 = mfr L q3 0 → ∀ R8 : MR, R8 = mfr R q3 none → K4 a0 = 9 ∧ ∀ R10 : MR, R10 = mup R8 a0 0 (some q3) → ∀ I11 : MI, I11 = mup I6 a0 1 0 → ∀ I12 : MI, I12 = mup I11 a0 2 0 → ∀ I13 : MI, I13 = mup I12 a0 3 0 → ∀ I14 : MI, I14 = mup I13 a0 4 0 → ∀ I15 : MI, I15 = mup I14 a0 5 0 → ∀ L16 : ML, L16 = mup L7 a0 6 0 → ∀ I17 : MI, I17 = mup I15 a0 7 (-1) → ∀ I18 : MI, I18 = mup I17 a0 8 0 → ∀ I19 : MI, I19 = mup I18 a0 9 0 → ∀ I20 : MI, I20 = mup I19 a0 10 0 → ∀ I21 : MI, I21 = mup I20 a0 11 0 → (0 + 1) ≤ MC ∧ (0 + (ix 940)) ≤ MS ∧ Q K4 N5 I21 L16 R10
set_option maxHeartbeats 4000000 in
set_option maxRecDepth 100000 in
theorem c_X8_init (l : Launch) (G : ZG) (a0 : Nat) (K : MK) (N : MK) (I : MI) (L : ML) (R : MR) (MC MS : Nat) (Q : MK → MK → MI → ML → MR → Prop) (h : w_X8_init a0 K N I L R MC MS Q) : Met l yX8_init (.code yX8_init cX8_init 1 none :: z_tbl) { frames := 1, cells := MC, slots := MS, locals := 12 } (z_Pc G [.ref a0] K N I L R) (z_Qc G (qKv Q)) MC MS (z_A G) := by
  refine z_met (by decide) (Nat.le_of_ble_eq_true rfl) (fun X hX hRm hC0 hnm => ?_)
  subst hX
  have hi : X.2.2.2.2.2.2.2.2.1.name = "<init>" := hnm
  have hC : ZOk X G RX8 cX8_init 1 none := hC0
  show Z X G 1 0 0 _ K N I L R 0 [(0, .ref a0)] []
  delta w_X8_init at h
  refine z_aload_n hC (q := 0) dX8_init_0 rfl rfl ?_
  refine z_objInit hC ml_RX8_3 dX8_init_1 (by rw [hRm]; exact ⟨Nat.le_of_ble_eq_true rfl, Nat.le_of_ble_eq_true rfl⟩) (Nat.le_of_ble_eq_true rfl) ?_
  refine z_aload_n hC (q := 0) dX8_init_4 rfl rfl ?_
  refine z_sipush hC (v := 940) k_sipush_940 dX8_init_5 ?_
  obtain ⟨hl1a, hl1b, h⟩ := h
  obtain ⟨hm2a, hm2b, h⟩ := h
  refine z_newarr14 hC dX8_init_8 hl1a hl1b (by rw [hRm]; exact ⟨hm2a, hm2b⟩) (fun q3 hq3 => ?_)
  have h := h q3 hq3
  refine z_genK (fun K4 eK4 => ?_)
  have h := h K4 eK4
  refine z_genN (fun N5 eN5 => ?_)
  have h := h N5 eN5
  refine z_genI (fun I6 eI6 => ?_)
  have h := h I6 eI6
  refine z_genL (fun L7 eL7 => ?_)
  have h := h L7 eL7
  refine z_genR (fun R8 eR8 => ?_)
  have h := h R8 eR8
  obtain ⟨hk9, h⟩ := h
  refine pf_RX8_11 hC dX8_init_10 hk9 hi ?_
  refine z_genR (fun R10 eR10 => ?_)
  have h := h R10 eR10
  refine z_aload_n hC (q := 0) dX8_init_13 rfl rfl ?_
  refine z_iconst hC (v := 0) k_iconst_0 dX8_init_14 ?_
  refine pf_RX8_15 hC dX8_init_15 hk9 ?_
  refine z_genI (fun I11 eI11 => ?_)
  have h := h I11 eI11
  refine z_aload_n hC (q := 0) dX8_init_18 rfl rfl ?_
  refine z_iconst hC (v := 0) k_iconst_0 dX8_init_19 ?_
  refine pf_RX8_19 hC dX8_init_20 hk9 ?_
  refine z_genI (fun I12 eI12 => ?_)
  have h := h I12 eI12
  refine z_aload_n hC (q := 0) dX8_init_23 rfl rfl ?_
  refine z_iconst hC (v := 0) k_iconst_0 dX8_init_24 ?_
  refine pf_RX8_22 hC dX8_init_25 hk9 ?_
  refine z_genI (fun I13 eI13 => ?_)
  have h := h I13 eI13
  refine z_aload_n hC (q := 0) dX8_init_28 rfl rfl ?_
  refine z_iconst hC (v := 0) k_iconst_0 dX8_init_29 ?_
  refine pf_RX8_25 hC dX8_init_30 hk9 ?_
  refine z_genI (fun I14 eI14 => ?_)
  have h := h I14 eI14
  refine z_aload_n hC (q := 0) dX8_init_33 rfl rfl ?_
  refine z_iconst hC (v := 0) k_iconst_0 dX8_init_34 ?_
  refine pf_RX8_28 hC dX8_init_35 hk9 ?_
  refine z_genI (fun I15 eI15 => ?_)
  have h := h I15 eI15
  refine z_aload_n hC (q := 0) dX8_init_38 rfl rfl ?_
  refine z_lconst hC (v := 0) k_lconst_0 dX8_init_39 ?_
  refine pf_RX8_31 hC dX8_init_40 hk9 ?_
  refine z_genL (fun L16 eL16 => ?_)
  have h := h L16 eL16
  refine z_aload_n hC (q := 0) dX8_init_43 rfl rfl ?_
  refine z_iconst hC (v := (-1)) k_iconst_m1 dX8_init_44 ?_
  refine pf_RX8_35 hC dX8_init_45 hk9 ?_
  refine z_genI (fun I17 eI17 => ?_)
  have h := h I17 eI17
  refine z_aload_n hC (q := 0) dX8_init_48 rfl rfl ?_
  refine z_iconst hC (v := 0) k_iconst_0 dX8_init_49 ?_
  refine pf_RX8_38 hC dX8_init_50 hk9 ?_
  refine z_genI (fun I18 eI18 => ?_)
  have h := h I18 eI18
  refine z_aload_n hC (q := 0) dX8_init_53 rfl rfl ?_
  refine z_iconst hC (v := 0) k_iconst_0 dX8_init_54 ?_
  refine pf_RX8_41 hC dX8_init_55 hk9 ?_
  refine z_genI (fun I19 eI19 => ?_)
  have h := h I19 eI19
  refine z_aload_n hC (q := 0) dX8_init_58 rfl rfl ?_
  refine z_iconst hC (v := 0) k_iconst_0 dX8_init_59 ?_
  refine pf_RX8_44 hC dX8_init_60 hk9 ?_
  refine z_genI (fun I20 eI20 => ?_)
  have h := h I20 eI20
  refine z_aload_n hC (q := 0) dX8_init_63 rfl rfl ?_
  refine z_iconst hC (v := 0) k_iconst_0 dX8_init_64 ?_
  refine pf_RX8_47 hC dX8_init_65 hk9 ?_
  refine z_genI (fun I21 eI21 => ?_)
  have h := h I21 eI21
  obtain ⟨hm22a, hm22b, h⟩ := h
  exact z_widen hm22a hm22b (z_vret hC dX8_init_68 ⟨rfl, h⟩)
def w_X9_init (a0 : Nat) (K : MK) (N : MK) (I : MI) (L : ML) (R : MR) (MC MS : Nat) (Q : MK → MK → MI → ML → MR → Prop) : Prop := K a0 = 10 ∧ ∀ I2 : MI, I2 = mup I a0 0 256 → 0 + 1 ≤ MC ∧ 0 + 4 ≤ MS ∧ ∀ q4 : Nat, q4 = N 0 → ∀ K5 : MK, K5 = kup K q4 8 → ∀ N6 : MK, N6 = kup N 0 (N 0 + 1) → ∀ I7 : MI, I7 = mfr I2 q4 0 → ∀ L8 : ML, L8 = mfr L q4 0 → ∀ R9 : MR, R9 = mfr R q4 none → (0 + 1) + 2 ≤ MC ∧ (0 + 4) + 90 ≤ MS ∧ w_X7_init q4 30 2 K5 N6 I7 L8 R9 2 90 (fun K11 N12 I13 L14 R15 => K11 a0 = 10 ∧ ∀ R17 : MR, R17 = mup R15 a0 1 (some q4) → ((0 + 1) + 2) + 1 ≤ MC ∧ ((0 + 4) + 90) + 4 ≤ MS ∧ ∀ q19 : Nat, q19 = N12 0 → ∀ K20 : MK, K20 = kup K11 q19 8 → ∀ N21 : MK, N21 = kup N12 0 (N12 0 + 1) → ∀ I22 : MI, I22 = mfr I13 q19 0 → ∀ L23 : ML, L23 = mfr L14 q19 0 → ∀ R24 : MR, R24 = mfr R17 q19 none → (((0 + 1) + 2) + 1) + 2 ≤ MC ∧ (((0 + 4) + 90) + 4) + 50 ≤ MS ∧ w_X7_init q19 10 4 K20 N21 I22 L23 R24 2 50 (fun K26 N27 I28 L29 R30 => K26 a0 = 10 ∧ ∀ R32 : MR, R32 = mup R30 a0 2 (some q19) → ((((0 + 1) + 2) + 1) + 2) + 1 ≤ MC ∧ ((((0 + 4) + 90) + 4) + 50) + 4 ≤ MS ∧ ∀ q34 : Nat, q34 = N27 0 → ∀ K35 : MK, K35 = kup K26 q34 8 → ∀ N36 : MK, N36 = kup N27 0 (N27 0 + 1) → ∀ I37 : MI, I37 = mfr I28 q34 0 → ∀ L38 : ML, L38 = mfr L29 q34 0 → ∀ R39 : MR, R39 = mfr R32 q34 none → (((((0 + 1) + 2) + 1) + 2) + 1) + 2 ≤ MC ∧ (((((0 + 4) + 90) + 4) + 50) + 4) + 24 ≤ MS ∧ w_X7_init q34 6 3 K35 N36 I37 L38 R39 2 24 (fun K41 N42 I43 L44 R45 => K41 a0 = 10 ∧ ∀ R47 : MR, R47 = mup R45 a0 3 (some q34) → ((((((0 + 1) + 2) + 1) + 2) + 1) + 2) + 1 ≤ MC ∧ ((((((0 + 4) + 90) + 4) + 50) + 4) + 24) + 4 ≤ MS ∧ ∀ q49 : Nat, q49 = N42 0 → ∀ K50 : MK, K50 = kup K41 q49 8 → ∀ N51 : MK, N51 = kup N42 0 (N42 0 + 1) → ∀ I52 : MI, I52 = mfr I43 q49 0 → ∀ L53 : ML, L53 = mfr L44 q49 0 → ∀ R54 : MR, R54 = mfr R47 q49 none → (((((((0 + 1) + 2) + 1) + 2) + 1) + 2) + 1) + 2 ≤ MC ∧ (((((((0 + 4) + 90) + 4) + 50) + 4) + 24) + 4) + 30 ≤ MS ∧ w_X7_init q49 10 2 K50 N51 I52 L53 R54 2 30 (fun K56 N57 I58 L59 R60 => K56 a0 = 10 ∧ ∀ R62 : MR, R62 = mup R60 a0 4 (some q49) → ((((((((0 + 1) + 2) + 1) + 2) + 1) + 2) + 1) + 2) + 1 ≤ MC ∧ ((((((((0 + 4) + 90) + 4) + 50) + 4) + 24) + 4) + 30) + 4 ≤ MS ∧ ∀ q64 : Nat, q64 = N57 0 → ∀ K65 : MK, K65 = kup K56 q64 8 → ∀ N66 : MK, N66 = kup N57 0 (N57 0 + 1) → ∀ I67 : MI, I67 = mfr I58 q64 0 → ∀ L68 : ML, L68 = mfr L59 q64 0 → ∀ R69 : MR, R69 = mfr R62 q64 none → (((((((((0 + 1) + 2) + 1) + 2) + 1) + 2) + 1) + 2) + 1) + 2 ≤ MC ∧ (((((((((0 + 4) + 90) + 4) + 50) + 4) + 24) + 4) + 30) + 4) + 352 ≤ MS ∧ w_X7_init q64 16 21 K65 N66 I67 L68 R69 2 352 (fun K71 N72 I73 L74 R75 => K71 a0 = 10 ∧ ∀ R77 : MR, R77 = mup R75 a0 5 (some q64) → ((((((((((0 + 1) + 2) + 1) + 2) + 1) + 2) + 1) + 2) + 1) + 2) ≤ MC ∧ ((((((((((0 + 4) + 90) + 4) + 50) + 4) + 24) + 4) + 30) + 4) + 352) ≤ MS ∧ Q K71 N72 I73 L74 R77)))))
set_option maxHeartbeats 4000000 in
set_option maxRecDepth 100000 in
theorem c_X9_init (l : Launch) (G : ZG) (a0 : Nat) (K : MK) (N : MK) (I : MI) (L : ML) (R : MR) (MC MS : Nat) (Q : MK → MK → MI → ML → MR → Prop) (h : w_X9_init a0 K N I L R MC MS Q) : Met l yX9_init (.code yX9_init cX9_init 1 none :: z_tbl) { frames := 2, cells := MC, slots := MS, locals := 34 } (z_Pc G [.ref a0] K N I L R) (z_Qc G (qKv Q)) MC MS (z_A G) := by
  refine z_met (by decide) (Nat.le_of_ble_eq_true rfl) (fun X hX hRm hC0 hnm => ?_)
  subst hX
  have hi : X.2.2.2.2.2.2.2.2.1.name = "<init>" := hnm
  have hC : ZOk X G RX9 cX9_init 1 none := hC0
  show Z X G 1 0 0 _ K N I L R 0 [(0, .ref a0)] []
  delta w_X9_init at h
  refine z_aload_n hC (q := 0) dX9_init_0 rfl rfl ?_
  refine z_objInit hC ml_RX9_3 dX9_init_1 (by rw [hRm]; exact ⟨Nat.le_of_ble_eq_true rfl, Nat.le_of_ble_eq_true rfl⟩) (Nat.le_of_ble_eq_true rfl) ?_
  refine z_aload_n hC (q := 0) dX9_init_4 rfl rfl ?_
  refine z_sipush hC (v := 256) k_sipush_256 dX9_init_5 ?_
  obtain ⟨hk1, h⟩ := h
  refine pf_RX9_11 hC dX9_init_8 hk1 ?_
  refine z_genI (fun I2 eI2 => ?_)
  have h := h I2 eI2
  refine z_aload_n hC (q := 0) dX9_init_11 rfl rfl ?_
  obtain ⟨hm3a, hm3b, h⟩ := h
  refine z_new hC z_cls7 kl_RX9_15 inst_RX7 ini_RX7 dX9_init_12 (by rw [hRm]; exact ⟨hm3a, hm3b⟩) z_dfl7 (fun q4 hq4 => ?_)
  have h := h q4 hq4
  refine z_genK (fun K5 eK5 => ?_)
  have h := h K5 eK5
  refine z_genN (fun N6 eN6 => ?_)
  have h := h N6 eN6
  refine z_genI (fun I7 eI7 => ?_)
  have h := h I7 eI7
  refine z_genL (fun L8 eL8 => ?_)
  have h := h L8 eL8
  refine z_genR (fun R9 eR9 => ?_)
  have h := h R9 eR9
  refine z_dup hC rfl dX9_init_15 ?_
  refine z_bipush hC (v := 30) k_bipush_30 dX9_init_16 ?_
  refine z_iconst hC (v := 2) k_iconst_2 dX9_init_18 ?_
  obtain ⟨hm10a, hm10b, h⟩ := h
  refine z_callI (As := [.int 30, .int 2]) (mc1 := 2) (ms1 := 90) (r := none) hC (c_X7_init _ G q4 30 2 K5 N6 I7 L8 R9 2 90 _ h) co_X7_init ⟨rfl, rfl⟩ ini_RX7 ml_RX9_17 im_X7_init rfl dX9_init_19 (na := 2) (by decide) rfl (by rw [hRm]; exact ⟨Nat.le_of_ble_eq_true rfl, Nat.le_of_ble_eq_true rfl⟩) (by rw [hRm]; exact ⟨hm10a, hm10b⟩) rfl (Nat.le_of_ble_eq_true rfl) (z_kKv (K := K) (N := N) (I := I) (L := L) (R := R) (fun K11 N12 I13 L14 R15 h => ?_))
  obtain ⟨hk16, h⟩ := h
  refine pf_RX9_20 hC dX9_init_22 hk16 hi ?_
  refine z_genR (fun R17 eR17 => ?_)
  have h := h R17 eR17
  refine z_aload_n hC (q := 0) dX9_init_25 rfl rfl ?_
  obtain ⟨hm18a, hm18b, h⟩ := h
  refine z_new hC z_cls7 kl_RX9_15 inst_RX7 ini_RX7 dX9_init_26 (by rw [hRm]; exact ⟨hm18a, hm18b⟩) z_dfl7 (fun q19 hq19 => ?_)
  have h := h q19 hq19
  refine z_genK (fun K20 eK20 => ?_)
  have h := h K20 eK20
  refine z_genN (fun N21 eN21 => ?_)
  have h := h N21 eN21
  refine z_genI (fun I22 eI22 => ?_)
  have h := h I22 eI22
  refine z_genL (fun L23 eL23 => ?_)
  have h := h L23 eL23
  refine z_genR (fun R24 eR24 => ?_)
  have h := h R24 eR24
  refine z_dup hC rfl dX9_init_29 ?_
  refine z_bipush hC (v := 10) k_bipush_10 dX9_init_30 ?_
  refine z_iconst hC (v := 4) k_iconst_4 dX9_init_32 ?_
  obtain ⟨hm25a, hm25b, h⟩ := h
  refine z_callI (As := [.int 10, .int 4]) (mc1 := 2) (ms1 := 50) (r := none) hC (c_X7_init _ G q19 10 4 K20 N21 I22 L23 R24 2 50 _ h) co_X7_init ⟨rfl, rfl⟩ ini_RX7 ml_RX9_17 im_X7_init rfl dX9_init_33 (na := 2) (by decide) rfl (by rw [hRm]; exact ⟨Nat.le_of_ble_eq_true rfl, Nat.le_of_ble_eq_true rfl⟩) (by rw [hRm]; exact ⟨hm25a, hm25b⟩) rfl (Nat.le_of_ble_eq_true rfl) (z_kKv (K := K) (N := N) (I := I) (L := L) (R := R) (fun K26 N27 I28 L29 R30 h => ?_))
  obtain ⟨hk31, h⟩ := h
  refine pf_RX9_24 hC dX9_init_36 hk31 hi ?_
  refine z_genR (fun R32 eR32 => ?_)
  have h := h R32 eR32
  refine z_aload_n hC (q := 0) dX9_init_39 rfl rfl ?_
  obtain ⟨hm33a, hm33b, h⟩ := h
  refine z_new hC z_cls7 kl_RX9_15 inst_RX7 ini_RX7 dX9_init_40 (by rw [hRm]; exact ⟨hm33a, hm33b⟩) z_dfl7 (fun q34 hq34 => ?_)
  have h := h q34 hq34
  refine z_genK (fun K35 eK35 => ?_)
  have h := h K35 eK35
  refine z_genN (fun N36 eN36 => ?_)
  have h := h N36 eN36
  refine z_genI (fun I37 eI37 => ?_)
  have h := h I37 eI37
  refine z_genL (fun L38 eL38 => ?_)
  have h := h L38 eL38
  refine z_genR (fun R39 eR39 => ?_)
  have h := h R39 eR39
  refine z_dup hC rfl dX9_init_43 ?_
  refine z_bipush hC (v := 6) k_bipush_6 dX9_init_44 ?_
  refine z_iconst hC (v := 3) k_iconst_3 dX9_init_46 ?_
  obtain ⟨hm40a, hm40b, h⟩ := h
  refine z_callI (As := [.int 6, .int 3]) (mc1 := 2) (ms1 := 24) (r := none) hC (c_X7_init _ G q34 6 3 K35 N36 I37 L38 R39 2 24 _ h) co_X7_init ⟨rfl, rfl⟩ ini_RX7 ml_RX9_17 im_X7_init rfl dX9_init_47 (na := 2) (by decide) rfl (by rw [hRm]; exact ⟨Nat.le_of_ble_eq_true rfl, Nat.le_of_ble_eq_true rfl⟩) (by rw [hRm]; exact ⟨hm40a, hm40b⟩) rfl (Nat.le_of_ble_eq_true rfl) (z_kKv (K := K) (N := N) (I := I) (L := L) (R := R) (fun K41 N42 I43 L44 R45 h => ?_))
  obtain ⟨hk46, h⟩ := h
  refine pf_RX9_27 hC dX9_init_50 hk46 hi ?_
  refine z_genR (fun R47 eR47 => ?_)
  have h := h R47 eR47
  refine z_aload_n hC (q := 0) dX9_init_53 rfl rfl ?_
  obtain ⟨hm48a, hm48b, h⟩ := h
  refine z_new hC z_cls7 kl_RX9_15 inst_RX7 ini_RX7 dX9_init_54 (by rw [hRm]; exact ⟨hm48a, hm48b⟩) z_dfl7 (fun q49 hq49 => ?_)
  have h := h q49 hq49
  refine z_genK (fun K50 eK50 => ?_)
  have h := h K50 eK50
  refine z_genN (fun N51 eN51 => ?_)
  have h := h N51 eN51
  refine z_genI (fun I52 eI52 => ?_)
  have h := h I52 eI52
  refine z_genL (fun L53 eL53 => ?_)
  have h := h L53 eL53
  refine z_genR (fun R54 eR54 => ?_)
  have h := h R54 eR54
  refine z_dup hC rfl dX9_init_57 ?_
  refine z_bipush hC (v := 10) k_bipush_10 dX9_init_58 ?_
  refine z_iconst hC (v := 2) k_iconst_2 dX9_init_60 ?_
  obtain ⟨hm55a, hm55b, h⟩ := h
  refine z_callI (As := [.int 10, .int 2]) (mc1 := 2) (ms1 := 30) (r := none) hC (c_X7_init _ G q49 10 2 K50 N51 I52 L53 R54 2 30 _ h) co_X7_init ⟨rfl, rfl⟩ ini_RX7 ml_RX9_17 im_X7_init rfl dX9_init_61 (na := 2) (by decide) rfl (by rw [hRm]; exact ⟨Nat.le_of_ble_eq_true rfl, Nat.le_of_ble_eq_true rfl⟩) (by rw [hRm]; exact ⟨hm55a, hm55b⟩) rfl (Nat.le_of_ble_eq_true rfl) (z_kKv (K := K) (N := N) (I := I) (L := L) (R := R) (fun K56 N57 I58 L59 R60 h => ?_))
  obtain ⟨hk61, h⟩ := h
  refine pf_RX9_30 hC dX9_init_64 hk61 hi ?_
  refine z_genR (fun R62 eR62 => ?_)
  have h := h R62 eR62
  refine z_aload_n hC (q := 0) dX9_init_67 rfl rfl ?_
  obtain ⟨hm63a, hm63b, h⟩ := h
  refine z_new hC z_cls7 kl_RX9_15 inst_RX7 ini_RX7 dX9_init_68 (by rw [hRm]; exact ⟨hm63a, hm63b⟩) z_dfl7 (fun q64 hq64 => ?_)
  have h := h q64 hq64
  refine z_genK (fun K65 eK65 => ?_)
  have h := h K65 eK65
  refine z_genN (fun N66 eN66 => ?_)
  have h := h N66 eN66
  refine z_genI (fun I67 eI67 => ?_)
  have h := h I67 eI67
  refine z_genL (fun L68 eL68 => ?_)
  have h := h L68 eL68
  refine z_genR (fun R69 eR69 => ?_)
  have h := h R69 eR69
  refine z_dup hC rfl dX9_init_71 ?_
  refine z_bipush hC (v := 16) k_bipush_16 dX9_init_72 ?_
  refine z_bipush hC (v := 21) k_bipush_21 dX9_init_74 ?_
  obtain ⟨hm70a, hm70b, h⟩ := h
  refine z_callI (As := [.int 16, .int 21]) (mc1 := 2) (ms1 := 352) (r := none) hC (c_X7_init _ G q64 16 21 K65 N66 I67 L68 R69 2 352 _ h) co_X7_init ⟨rfl, rfl⟩ ini_RX7 ml_RX9_17 im_X7_init rfl dX9_init_76 (na := 2) (by decide) rfl (by rw [hRm]; exact ⟨Nat.le_of_ble_eq_true rfl, Nat.le_of_ble_eq_true rfl⟩) (by rw [hRm]; exact ⟨hm70a, hm70b⟩) rfl (Nat.le_of_ble_eq_true rfl) (z_kKv (K := K) (N := N) (I := I) (L := L) (R := R) (fun K71 N72 I73 L74 R75 h => ?_))
  obtain ⟨hk76, h⟩ := h
  refine pf_RX9_33 hC dX9_init_79 hk76 hi ?_
  refine z_genR (fun R77 eR77 => ?_)
  have h := h R77 eR77
  obtain ⟨hm78a, hm78b, h⟩ := h
  exact z_widen hm78a hm78b (z_vret hC dX9_init_82 ⟨rfl, h⟩)
def w_X3_init (a0 : Nat) (K : MK) (N : MK) (I : MI) (L : ML) (R : MR) (MC MS : Nat) (Q : MK → MK → MI → ML → MR → Prop) : Prop := ¬ (8 : Int32) < 0 ∧ (ix 8) ≤ 60000 ∧ 0 + 1 ≤ MC ∧ 0 + (ix 8) ≤ MS ∧ ∀ q3 : Nat, q3 = N 0 → ∀ K4 : MK, K4 = kup K q3 14 → ∀ N5 : MK, N5 = kup (kup N q3 (ix 8)) 0 (N 0 + 1) → ∀ I6 : MI, I6 = mfr I q3 0 → ∀ L7 : ML, L7 = mfr L q3 0 → ∀ R8 : MR, R8 = mfr R q3 none → K4 a0 = 4 ∧ ∀ R10 : MR, R10 = mup R8 a0 0 (some q3) → ¬ (64 : Int32) < 0 ∧ (ix 64) ≤ 60000 ∧ (0 + 1) + 1 ≤ MC ∧ (0 + (ix 8)) + (ix 64) ≤ MS ∧ ∀ q13 : Nat, q13 = N5 0 → ∀ K14 : MK, K14 = kup K4 q13 14 → ∀ N15 : MK, N15 = kup (kup N5 q13 (ix 64)) 0 (N5 0 + 1) → ∀ I16 : MI, I16 = mfr I6 q13 0 → ∀ L17 : ML, L17 = mfr L7 q13 0 → ∀ R18 : MR, R18 = mfr R10 q13 none → K14 a0 = 4 ∧ ∀ R20 : MR, R20 = mup R18 a0 1 (some q13) → ¬ (8 : Int32) < 0 ∧ (ix 8) ≤ 60000 ∧ ((0 + 1) + 1) + 1 ≤ MC ∧ ((0 + (ix 8)) + (ix 64)) + (ix 8) ≤ MS ∧ ∀ q23 : Nat, q23 = N15 0 → ∀ K24 : MK, K24 = kup K14 q23 14 → ∀ N25 : MK, N25 = kup (kup N15 q23 (ix 8)) 0 (N15 0 + 1) → ∀ I26 : MI, I26 = mfr I16 q23 0 → ∀ L27 : ML, L27 = mfr L17 q23 0 → ∀ R28 : MR, R28 = mfr R20 q23 none → K24 a0 = 4 ∧ ∀ R30 : MR, R30 = mup R28 a0 2 (some q23) → ∀ I31 : MI, I31 = mup I26 a0 3 0 → ∀ I32 : MI, I32 = mup I31 a0 4 0 → ∀ I33 : MI, I33 = mup I32 a0 5 0 → (((0 + 1) + 1) + 1) ≤ MC ∧ (((0 + (ix 8)) + (ix 64)) + (ix 8)) ≤ MS ∧ Q K24 N25 I33 L27 R30
set_option maxHeartbeats 4000000 in
set_option maxRecDepth 100000 in
theorem c_X3_init (l : Launch) (G : ZG) (a0 : Nat) (K : MK) (N : MK) (I : MI) (L : ML) (R : MR) (MC MS : Nat) (Q : MK → MK → MI → ML → MR → Prop) (h : w_X3_init a0 K N I L R MC MS Q) : Met l yX3_init (.code yX3_init cX3_init 1 none :: z_tbl) { frames := 1, cells := MC, slots := MS, locals := 12 } (z_Pc G [.ref a0] K N I L R) (z_Qc G (qKv Q)) MC MS (z_A G) := by
  refine z_met (by decide) (Nat.le_of_ble_eq_true rfl) (fun X hX hRm hC0 hnm => ?_)
  subst hX
  have hi : X.2.2.2.2.2.2.2.2.1.name = "<init>" := hnm
  have hC : ZOk X G RX3 cX3_init 1 none := hC0
  show Z X G 1 0 0 _ K N I L R 0 [(0, .ref a0)] []
  delta w_X3_init at h
  refine z_aload_n hC (q := 0) dX3_init_0 rfl rfl ?_
  refine z_objInit hC ml_RX3_3 dX3_init_1 (by rw [hRm]; exact ⟨Nat.le_of_ble_eq_true rfl, Nat.le_of_ble_eq_true rfl⟩) (Nat.le_of_ble_eq_true rfl) ?_
  refine z_aload_n hC (q := 0) dX3_init_4 rfl rfl ?_
  refine z_bipush hC (v := 8) k_bipush_8 dX3_init_5 ?_
  obtain ⟨hl1a, hl1b, h⟩ := h
  obtain ⟨hm2a, hm2b, h⟩ := h
  refine z_newarr14 hC dX3_init_7 hl1a hl1b (by rw [hRm]; exact ⟨hm2a, hm2b⟩) (fun q3 hq3 => ?_)
  have h := h q3 hq3
  refine z_genK (fun K4 eK4 => ?_)
  have h := h K4 eK4
  refine z_genN (fun N5 eN5 => ?_)
  have h := h N5 eN5
  refine z_genI (fun I6 eI6 => ?_)
  have h := h I6 eI6
  refine z_genL (fun L7 eL7 => ?_)
  have h := h L7 eL7
  refine z_genR (fun R8 eR8 => ?_)
  have h := h R8 eR8
  obtain ⟨hk9, h⟩ := h
  refine pf_RX3_11 hC dX3_init_9 hk9 hi ?_
  refine z_genR (fun R10 eR10 => ?_)
  have h := h R10 eR10
  refine z_aload_n hC (q := 0) dX3_init_12 rfl rfl ?_
  refine z_bipush hC (v := 64) k_bipush_64 dX3_init_13 ?_
  obtain ⟨hl11a, hl11b, h⟩ := h
  obtain ⟨hm12a, hm12b, h⟩ := h
  refine z_newarr14 hC dX3_init_15 hl11a hl11b (by rw [hRm]; exact ⟨hm12a, hm12b⟩) (fun q13 hq13 => ?_)
  have h := h q13 hq13
  refine z_genK (fun K14 eK14 => ?_)
  have h := h K14 eK14
  refine z_genN (fun N15 eN15 => ?_)
  have h := h N15 eN15
  refine z_genI (fun I16 eI16 => ?_)
  have h := h I16 eI16
  refine z_genL (fun L17 eL17 => ?_)
  have h := h L17 eL17
  refine z_genR (fun R18 eR18 => ?_)
  have h := h R18 eR18
  obtain ⟨hk19, h⟩ := h
  refine pf_RX3_15 hC dX3_init_17 hk19 hi ?_
  refine z_genR (fun R20 eR20 => ?_)
  have h := h R20 eR20
  refine z_aload_n hC (q := 0) dX3_init_20 rfl rfl ?_
  refine z_bipush hC (v := 8) k_bipush_8 dX3_init_21 ?_
  obtain ⟨hl21a, hl21b, h⟩ := h
  obtain ⟨hm22a, hm22b, h⟩ := h
  refine z_newarr14 hC dX3_init_23 hl21a hl21b (by rw [hRm]; exact ⟨hm22a, hm22b⟩) (fun q23 hq23 => ?_)
  have h := h q23 hq23
  refine z_genK (fun K24 eK24 => ?_)
  have h := h K24 eK24
  refine z_genN (fun N25 eN25 => ?_)
  have h := h N25 eN25
  refine z_genI (fun I26 eI26 => ?_)
  have h := h I26 eI26
  refine z_genL (fun L27 eL27 => ?_)
  have h := h L27 eL27
  refine z_genR (fun R28 eR28 => ?_)
  have h := h R28 eR28
  obtain ⟨hk29, h⟩ := h
  refine pf_RX3_18 hC dX3_init_25 hk29 hi ?_
  refine z_genR (fun R30 eR30 => ?_)
  have h := h R30 eR30
  refine z_aload_n hC (q := 0) dX3_init_28 rfl rfl ?_
  refine z_iconst hC (v := 0) k_iconst_0 dX3_init_29 ?_
  refine pf_RX3_21 hC dX3_init_30 hk29 ?_
  refine z_genI (fun I31 eI31 => ?_)
  have h := h I31 eI31
  refine z_aload_n hC (q := 0) dX3_init_33 rfl rfl ?_
  refine z_iconst hC (v := 0) k_iconst_0 dX3_init_34 ?_
  refine pf_RX3_25 hC dX3_init_35 hk29 ?_
  refine z_genI (fun I32 eI32 => ?_)
  have h := h I32 eI32
  refine z_aload_n hC (q := 0) dX3_init_38 rfl rfl ?_
  refine z_iconst hC (v := 0) k_iconst_0 dX3_init_39 ?_
  refine pf_RX3_28 hC dX3_init_40 hk29 ?_
  refine z_genI (fun I33 eI33 => ?_)
  have h := h I33 eI33
  obtain ⟨hm34a, hm34b, h⟩ := h
  exact z_widen hm34a hm34b (z_vret hC dX3_init_43 ⟨rfl, h⟩)
def w_X2_init (a0 : Nat) (K : MK) (N : MK) (I : MI) (L : ML) (R : MR) (MC MS : Nat) (Q : MK → MK → MI → ML → MR → Prop) : Prop := ¬ (8 : Int32) < 0 ∧ (ix 8) ≤ 60000 ∧ 0 + 1 ≤ MC ∧ 0 + (ix 8) ≤ MS ∧ ∀ q3 : Nat, q3 = N 0 → ∀ K4 : MK, K4 = kup K q3 14 → ∀ N5 : MK, N5 = kup (kup N q3 (ix 8)) 0 (N 0 + 1) → ∀ I6 : MI, I6 = mfr I q3 0 → ∀ L7 : ML, L7 = mfr L q3 0 → ∀ R8 : MR, R8 = mfr R q3 none → K4 a0 = 3 ∧ ∀ R10 : MR, R10 = mup R8 a0 0 (some q3) → ∀ I11 : MI, I11 = mup I6 a0 1 0 → ∀ I12 : MI, I12 = mup I11 a0 2 0 → (0 + 1) ≤ MC ∧ (0 + (ix 8)) ≤ MS ∧ Q K4 N5 I12 L7 R10
set_option maxHeartbeats 4000000 in
set_option maxRecDepth 100000 in
theorem c_X2_init (l : Launch) (G : ZG) (a0 : Nat) (K : MK) (N : MK) (I : MI) (L : ML) (R : MR) (MC MS : Nat) (Q : MK → MK → MI → ML → MR → Prop) (h : w_X2_init a0 K N I L R MC MS Q) : Met l yX2_init (.code yX2_init cX2_init 1 none :: z_tbl) { frames := 1, cells := MC, slots := MS, locals := 12 } (z_Pc G [.ref a0] K N I L R) (z_Qc G (qKv Q)) MC MS (z_A G) := by
  refine z_met (by decide) (Nat.le_of_ble_eq_true rfl) (fun X hX hRm hC0 hnm => ?_)
  subst hX
  have hi : X.2.2.2.2.2.2.2.2.1.name = "<init>" := hnm
  have hC : ZOk X G RX2 cX2_init 1 none := hC0
  show Z X G 1 0 0 _ K N I L R 0 [(0, .ref a0)] []
  delta w_X2_init at h
  refine z_aload_n hC (q := 0) dX2_init_0 rfl rfl ?_
  refine z_objInit hC ml_RX2_3 dX2_init_1 (by rw [hRm]; exact ⟨Nat.le_of_ble_eq_true rfl, Nat.le_of_ble_eq_true rfl⟩) (Nat.le_of_ble_eq_true rfl) ?_
  refine z_aload_n hC (q := 0) dX2_init_4 rfl rfl ?_
  refine z_bipush hC (v := 8) k_bipush_8 dX2_init_5 ?_
  obtain ⟨hl1a, hl1b, h⟩ := h
  obtain ⟨hm2a, hm2b, h⟩ := h
  refine z_newarr14 hC dX2_init_7 hl1a hl1b (by rw [hRm]; exact ⟨hm2a, hm2b⟩) (fun q3 hq3 => ?_)
  have h := h q3 hq3
  refine z_genK (fun K4 eK4 => ?_)
  have h := h K4 eK4
  refine z_genN (fun N5 eN5 => ?_)
  have h := h N5 eN5
  refine z_genI (fun I6 eI6 => ?_)
  have h := h I6 eI6
  refine z_genL (fun L7 eL7 => ?_)
  have h := h L7 eL7
  refine z_genR (fun R8 eR8 => ?_)
  have h := h R8 eR8
  obtain ⟨hk9, h⟩ := h
  refine pf_RX2_11 hC dX2_init_9 hk9 hi ?_
  refine z_genR (fun R10 eR10 => ?_)
  have h := h R10 eR10
  refine z_aload_n hC (q := 0) dX2_init_12 rfl rfl ?_
  refine z_iconst hC (v := 0) k_iconst_0 dX2_init_13 ?_
  refine pf_RX2_17 hC dX2_init_14 hk9 ?_
  refine z_genI (fun I11 eI11 => ?_)
  have h := h I11 eI11
  refine z_aload_n hC (q := 0) dX2_init_17 rfl rfl ?_
  refine z_iconst hC (v := 0) k_iconst_0 dX2_init_18 ?_
  refine pf_RX2_21 hC dX2_init_19 hk9 ?_
  refine z_genI (fun I12 eI12 => ?_)
  have h := h I12 eI12
  obtain ⟨hm13a, hm13b, h⟩ := h
  exact z_widen hm13a hm13b (z_vret hC dX2_init_22 ⟨rfl, h⟩)
def w_X1_init (a0 : Nat) (K : MK) (N : MK) (I : MI) (L : ML) (R : MR) (MC MS : Nat) (Q : MK → MK → MI → ML → MR → Prop) : Prop := K a0 = 2 ∧ ∀ I2 : MI, I2 = mup I a0 0 0 → 0 ≤ MC ∧ 0 ≤ MS ∧ Q K N I2 L R
set_option maxHeartbeats 4000000 in
set_option maxRecDepth 100000 in
theorem c_X1_init (l : Launch) (G : ZG) (a0 : Nat) (K : MK) (N : MK) (I : MI) (L : ML) (R : MR) (MC MS : Nat) (Q : MK → MK → MI → ML → MR → Prop) (h : w_X1_init a0 K N I L R MC MS Q) : Met l yX1_init (.code yX1_init cX1_init 1 none :: z_tbl) { frames := 1, cells := MC, slots := MS, locals := 12 } (z_Pc G [.ref a0] K N I L R) (z_Qc G (qKv Q)) MC MS (z_A G) := by
  refine z_met (by decide) (Nat.le_of_ble_eq_true rfl) (fun X hX hRm hC0 hnm => ?_)
  subst hX
  have hi : X.2.2.2.2.2.2.2.2.1.name = "<init>" := hnm
  have hC : ZOk X G RX1 cX1_init 1 none := hC0
  show Z X G 1 0 0 _ K N I L R 0 [(0, .ref a0)] []
  delta w_X1_init at h
  refine z_aload_n hC (q := 0) dX1_init_0 rfl rfl ?_
  refine z_objInit hC ml_RX1_3 dX1_init_1 (by rw [hRm]; exact ⟨Nat.le_of_ble_eq_true rfl, Nat.le_of_ble_eq_true rfl⟩) (Nat.le_of_ble_eq_true rfl) ?_
  refine z_aload_n hC (q := 0) dX1_init_4 rfl rfl ?_
  refine z_iconst hC (v := 0) k_iconst_0 dX1_init_5 ?_
  obtain ⟨hk1, h⟩ := h
  refine pf_RX1_9 hC dX1_init_6 hk1 ?_
  refine z_genI (fun I2 eI2 => ?_)
  have h := h I2 eI2
  obtain ⟨hm3a, hm3b, h⟩ := h
  exact z_widen hm3a hm3b (z_vret hC dX1_init_9 ⟨rfl, h⟩)
def w_X5_init (a0 : Nat) (K : MK) (N : MK) (I : MI) (L : ML) (R : MR) (MC MS : Nat) (Q : MK → MK → MI → ML → MR → Prop) : Prop := K a0 = 6 ∧ ∀ I2 : MI, I2 = mup I a0 0 0 → ¬ (40 : Int32) < 0 ∧ (ix 40) ≤ 60000 ∧ 0 + 1 ≤ MC ∧ 0 + (ix 40) ≤ MS ∧ ∀ q5 : Nat, q5 = N 0 → ∀ K6 : MK, K6 = kup K q5 14 → ∀ N7 : MK, N7 = kup (kup N q5 (ix 40)) 0 (N 0 + 1) → ∀ I8 : MI, I8 = mfr I2 q5 0 → ∀ L9 : ML, L9 = mfr L q5 0 → ∀ R10 : MR, R10 = mfr R q5 none → K6 a0 = 6 ∧ ∀ R12 : MR, R12 = mup R10 a0 1 (some q5) → ¬ (40 : Int32) < 0 ∧ (ix 40) ≤ 60000 ∧ (0 + 1) + 1 ≤ MC ∧ (0 + (ix 40)) + (ix 40) ≤ MS ∧ ∀ q15 : Nat, q15 = N7 0 → ∀ K16 : MK, K16 = kup K6 q15 14 → ∀ N17 : MK, N17 = kup (kup N7 q15 (ix 40)) 0 (N7 0 + 1) → ∀ I18 : MI, I18 = mfr I8 q15 0 → ∀ L19 : ML, L19 = mfr L9 q15 0 → ∀ R20 : MR, R20 = mfr R12 q15 none → K16 a0 = 6 ∧ ∀ R22 : MR, R22 = mup R20 a0 2 (some q15) → ¬ (40 : Int32) < 0 ∧ (ix 40) ≤ 60000 ∧ ((0 + 1) + 1) + 1 ≤ MC ∧ ((0 + (ix 40)) + (ix 40)) + (ix 40) ≤ MS ∧ ∀ q25 : Nat, q25 = N17 0 → ∀ K26 : MK, K26 = kup K16 q25 14 → ∀ N27 : MK, N27 = kup (kup N17 q25 (ix 40)) 0 (N17 0 + 1) → ∀ I28 : MI, I28 = mfr I18 q25 0 → ∀ L29 : ML, L29 = mfr L19 q25 0 → ∀ R30 : MR, R30 = mfr R22 q25 none → K26 a0 = 6 ∧ ∀ R32 : MR, R32 = mup R30 a0 3 (some q25) → ¬ (40 : Int32) < 0 ∧ (ix 40) ≤ 60000 ∧ (((0 + 1) + 1) + 1) + 1 ≤ MC ∧ (((0 + (ix 40)) + (ix 40)) + (ix 40)) + (ix 40) ≤ MS ∧ ∀ q35 : Nat, q35 = N27 0 → ∀ K36 : MK, K36 = kup K26 q35 16 → ∀ N37 : MK, N37 = kup (kup N27 q35 (ix 40)) 0 (N27 0 + 1) → ∀ I38 : MI, I38 = mfr I28 q35 0 → ∀ L39 : ML, L39 = mfr L29 q35 0 → ∀ R40 : MR, R40 = mfr R32 q35 none → K36 a0 = 6 ∧ ∀ R42 : MR, R42 = mup R40 a0 4 (some q35) → ∀ I43 : MI, I43 = mup I38 a0 5 0 → ((((0 + 1) + 1) + 1) + 1) ≤ MC ∧ ((((0 + (ix 40)) + (ix 40)) + (ix 40)) + (ix 40)) ≤ MS ∧ Q K36 N37 I43 L39 R42
set_option maxHeartbeats 4000000 in
set_option maxRecDepth 100000 in
theorem c_X5_init (l : Launch) (G : ZG) (a0 : Nat) (K : MK) (N : MK) (I : MI) (L : ML) (R : MR) (MC MS : Nat) (Q : MK → MK → MI → ML → MR → Prop) (h : w_X5_init a0 K N I L R MC MS Q) : Met l yX5_init (.code yX5_init cX5_init 1 none :: z_tbl) { frames := 1, cells := MC, slots := MS, locals := 12 } (z_Pc G [.ref a0] K N I L R) (z_Qc G (qKv Q)) MC MS (z_A G) := by
  refine z_met (by decide) (Nat.le_of_ble_eq_true rfl) (fun X hX hRm hC0 hnm => ?_)
  subst hX
  have hi : X.2.2.2.2.2.2.2.2.1.name = "<init>" := hnm
  have hC : ZOk X G RX5 cX5_init 1 none := hC0
  show Z X G 1 0 0 _ K N I L R 0 [(0, .ref a0)] []
  delta w_X5_init at h
  refine z_aload_n hC (q := 0) dX5_init_0 rfl rfl ?_
  refine z_objInit hC ml_RX5_3 dX5_init_1 (by rw [hRm]; exact ⟨Nat.le_of_ble_eq_true rfl, Nat.le_of_ble_eq_true rfl⟩) (Nat.le_of_ble_eq_true rfl) ?_
  refine z_aload_n hC (q := 0) dX5_init_4 rfl rfl ?_
  refine z_iconst hC (v := 0) k_iconst_0 dX5_init_5 ?_
  obtain ⟨hk1, h⟩ := h
  refine pf_RX5_9 hC dX5_init_6 hk1 ?_
  refine z_genI (fun I2 eI2 => ?_)
  have h := h I2 eI2
  refine z_aload_n hC (q := 0) dX5_init_9 rfl rfl ?_
  refine z_bipush hC (v := 40) k_bipush_40 dX5_init_10 ?_
  obtain ⟨hl3a, hl3b, h⟩ := h
  obtain ⟨hm4a, hm4b, h⟩ := h
  refine z_newarr14 hC dX5_init_12 hl3a hl3b (by rw [hRm]; exact ⟨hm4a, hm4b⟩) (fun q5 hq5 => ?_)
  have h := h q5 hq5
  refine z_genK (fun K6 eK6 => ?_)
  have h := h K6 eK6
  refine z_genN (fun N7 eN7 => ?_)
  have h := h N7 eN7
  refine z_genI (fun I8 eI8 => ?_)
  have h := h I8 eI8
  refine z_genL (fun L9 eL9 => ?_)
  have h := h L9 eL9
  refine z_genR (fun R10 eR10 => ?_)
  have h := h R10 eR10
  obtain ⟨hk11, h⟩ := h
  refine pf_RX5_15 hC dX5_init_14 hk11 hi ?_
  refine z_genR (fun R12 eR12 => ?_)
  have h := h R12 eR12
  refine z_aload_n hC (q := 0) dX5_init_17 rfl rfl ?_
  refine z_bipush hC (v := 40) k_bipush_40 dX5_init_18 ?_
  obtain ⟨hl13a, hl13b, h⟩ := h
  obtain ⟨hm14a, hm14b, h⟩ := h
  refine z_newarr14 hC dX5_init_20 hl13a hl13b (by rw [hRm]; exact ⟨hm14a, hm14b⟩) (fun q15 hq15 => ?_)
  have h := h q15 hq15
  refine z_genK (fun K16 eK16 => ?_)
  have h := h K16 eK16
  refine z_genN (fun N17 eN17 => ?_)
  have h := h N17 eN17
  refine z_genI (fun I18 eI18 => ?_)
  have h := h I18 eI18
  refine z_genL (fun L19 eL19 => ?_)
  have h := h L19 eL19
  refine z_genR (fun R20 eR20 => ?_)
  have h := h R20 eR20
  obtain ⟨hk21, h⟩ := h
  refine pf_RX5_19 hC dX5_init_22 hk21 hi ?_
  refine z_genR (fun R22 eR22 => ?_)
  have h := h R22 eR22
  refine z_aload_n hC (q := 0) dX5_init_25 rfl rfl ?_
  refine z_bipush hC (v := 40) k_bipush_40 dX5_init_26 ?_
  obtain ⟨hl23a, hl23b, h⟩ := h
  obtain ⟨hm24a, hm24b, h⟩ := h
  refine z_newarr14 hC dX5_init_28 hl23a hl23b (by rw [hRm]; exact ⟨hm24a, hm24b⟩) (fun q25 hq25 => ?_)
  have h := h q25 hq25
  refine z_genK (fun K26 eK26 => ?_)
  have h := h K26 eK26
  refine z_genN (fun N27 eN27 => ?_)
  have h := h N27 eN27
  refine z_genI (fun I28 eI28 => ?_)
  have h := h I28 eI28
  refine z_genL (fun L29 eL29 => ?_)
  have h := h L29 eL29
  refine z_genR (fun R30 eR30 => ?_)
  have h := h R30 eR30
  obtain ⟨hk31, h⟩ := h
  refine pf_RX5_22 hC dX5_init_30 hk31 hi ?_
  refine z_genR (fun R32 eR32 => ?_)
  have h := h R32 eR32
  refine z_aload_n hC (q := 0) dX5_init_33 rfl rfl ?_
  refine z_bipush hC (v := 40) k_bipush_40 dX5_init_34 ?_
  obtain ⟨hl33a, hl33b, h⟩ := h
  obtain ⟨hm34a, hm34b, h⟩ := h
  refine z_newarr16 hC dX5_init_36 hl33a hl33b (by rw [hRm]; exact ⟨hm34a, hm34b⟩) (fun q35 hq35 => ?_)
  have h := h q35 hq35
  refine z_genK (fun K36 eK36 => ?_)
  have h := h K36 eK36
  refine z_genN (fun N37 eN37 => ?_)
  have h := h N37 eN37
  refine z_genI (fun I38 eI38 => ?_)
  have h := h I38 eI38
  refine z_genL (fun L39 eL39 => ?_)
  have h := h L39 eL39
  refine z_genR (fun R40 eR40 => ?_)
  have h := h R40 eR40
  obtain ⟨hk41, h⟩ := h
  refine pf_RX5_25 hC dX5_init_38 hk41 hi ?_
  refine z_genR (fun R42 eR42 => ?_)
  have h := h R42 eR42
  refine z_aload_n hC (q := 0) dX5_init_41 rfl rfl ?_
  refine z_iconst hC (v := 0) k_iconst_0 dX5_init_42 ?_
  refine pf_RX5_29 hC dX5_init_43 hk41 ?_
  refine z_genI (fun I43 eI43 => ?_)
  have h := h I43 eI43
  obtain ⟨hm44a, hm44b, h⟩ := h
  exact z_widen hm44a hm44b (z_vret hC dX5_init_46 ⟨rfl, h⟩)
def w_X10_init (a0 : Nat) (K : MK) (N : MK) (I : MI) (L : ML) (R : MR) (MC MS : Nat) (Q : MK → MK → MI → ML → MR → Prop) : Prop := 0 + 1 ≤ MC ∧ 0 + 6 ≤ MS ∧ ∀ q2 : Nat, q2 = N 0 → ∀ K3 : MK, K3 = kup K q2 10 → ∀ N4 : MK, N4 = kup N 0 (N 0 + 1) → ∀ I5 : MI, I5 = mfr I q2 0 → ∀ L6 : ML, L6 = mfr L q2 0 → ∀ R7 : MR, R7 = mfr R q2 none → (0 + 1) + 15 ≤ MC ∧ (0 + 6) + 566 ≤ MS ∧ w_X9_init q2 K3 N4 I5 L6 R7 15 566 (fun K9 N10 I11 L12 R13 => K9 a0 = 11 ∧ ∀ R15 : MR, R15 = mup R13 a0 0 (some q2) → ∀ I16 : MI, I16 = mup I11 a0 1 0 → ∀ I17 : MI, I17 = mup I16 a0 2 0 → ((0 + 1) + 15) ≤ MC ∧ ((0 + 6) + 566) ≤ MS ∧ Q K9 N10 I17 L12 R15)
set_option maxHeartbeats 4000000 in
set_option maxRecDepth 100000 in
theorem c_X10_init (l : Launch) (G : ZG) (a0 : Nat) (K : MK) (N : MK) (I : MI) (L : ML) (R : MR) (MC MS : Nat) (Q : MK → MK → MI → ML → MR → Prop) (h : w_X10_init a0 K N I L R MC MS Q) : Met l yX10_init (.code yX10_init cX10_init 1 none :: z_tbl) { frames := 3, cells := MC, slots := MS, locals := 54 } (z_Pc G [.ref a0] K N I L R) (z_Qc G (qKv Q)) MC MS (z_A G) := by
  refine z_met (by decide) (Nat.le_of_ble_eq_true rfl) (fun X hX hRm hC0 hnm => ?_)
  subst hX
  have hi : X.2.2.2.2.2.2.2.2.1.name = "<init>" := hnm
  have hC : ZOk X G RX10 cX10_init 1 none := hC0
  show Z X G 1 0 0 _ K N I L R 0 [(0, .ref a0)] []
  delta w_X10_init at h
  refine z_aload_n hC (q := 0) dX10_init_0 rfl rfl ?_
  refine z_objInit hC ml_RX10_3 dX10_init_1 (by rw [hRm]; exact ⟨Nat.le_of_ble_eq_true rfl, Nat.le_of_ble_eq_true rfl⟩) (Nat.le_of_ble_eq_true rfl) ?_
  refine z_aload_n hC (q := 0) dX10_init_4 rfl rfl ?_
  obtain ⟨hm1a, hm1b, h⟩ := h
  refine z_new hC z_cls9 kl_RX10_9 inst_RX9 ini_RX9 dX10_init_5 (by rw [hRm]; exact ⟨hm1a, hm1b⟩) z_dfl9 (fun q2 hq2 => ?_)
  have h := h q2 hq2
  refine z_genK (fun K3 eK3 => ?_)
  have h := h K3 eK3
  refine z_genN (fun N4 eN4 => ?_)
  have h := h N4 eN4
  refine z_genI (fun I5 eI5 => ?_)
  have h := h I5 eI5
  refine z_genL (fun L6 eL6 => ?_)
  have h := h L6 eL6
  refine z_genR (fun R7 eR7 => ?_)
  have h := h R7 eR7
  refine z_dup hC rfl dX10_init_8 ?_
  obtain ⟨hm8a, hm8b, h⟩ := h
  refine z_callN (As := []) (mc1 := 15) (ms1 := 566) hC (c_X9_init _ G q2 K3 N4 I5 L6 R7 15 566 _ h) co_X9_init ⟨rfl, rfl⟩ ini_RX9 (host := RX11) (by decide +kernel) im_X9_init rfl dX10_init_9 (na := 0) (by decide) rfl (by rw [hRm]; exact ⟨Nat.le_of_ble_eq_true rfl, Nat.le_of_ble_eq_true rfl⟩) (by rw [hRm]; exact ⟨hm8a, hm8b⟩) rfl (Nat.le_of_ble_eq_true rfl) (z_kKv (K := K) (N := N) (I := I) (L := L) (R := R) (fun K9 N10 I11 L12 R13 h => ?_))
  obtain ⟨hk14, h⟩ := h
  refine pf_RX10_12 hC dX10_init_12 hk14 hi ?_
  refine z_genR (fun R15 eR15 => ?_)
  have h := h R15 eR15
  refine z_aload_n hC (q := 0) dX10_init_15 rfl rfl ?_
  refine z_iconst hC (v := 0) k_iconst_0 dX10_init_16 ?_
  refine pf_RX10_18 hC dX10_init_17 hk14 ?_
  refine z_genI (fun I16 eI16 => ?_)
  have h := h I16 eI16
  refine z_aload_n hC (q := 0) dX10_init_20 rfl rfl ?_
  refine z_iconst hC (v := 0) k_iconst_0 dX10_init_21 ?_
  refine pf_RX10_22 hC dX10_init_22 hk14 ?_
  refine z_genI (fun I17 eI17 => ?_)
  have h := h I17 eI17
  obtain ⟨hm18a, hm18b, h⟩ := h
  exact z_widen hm18a hm18b (z_vret hC dX10_init_25 ⟨rfl, h⟩)
def w_X6_init (a0 : Nat) (K : MK) (N : MK) (I : MI) (L : ML) (R : MR) (MC MS : Nat) (Q : MK → MK → MI → ML → MR → Prop) : Prop := 0 + 1 ≤ MC ∧ 0 + 6 ≤ MS ∧ ∀ q2 : Nat, q2 = N 0 → ∀ K3 : MK, K3 = kup K q2 6 → ∀ N4 : MK, N4 = kup N 0 (N 0 + 1) → ∀ I5 : MI, I5 = mfr I q2 0 → ∀ L6 : ML, L6 = mfr L q2 0 → ∀ R7 : MR, R7 = mfr R q2 none → (0 + 1) + 4 ≤ MC ∧ (0 + 6) + 160 ≤ MS ∧ w_X5_init q2 K3 N4 I5 L6 R7 4 160 (fun K9 N10 I11 L12 R13 => K9 a0 = 7 ∧ ∀ R15 : MR, R15 = mup R13 a0 0 (some q2) → ∀ I16 : MI, I16 = mup I11 a0 1 0 → ((0 + 1) + 4) ≤ MC ∧ ((0 + 6) + 160) ≤ MS ∧ Q K9 N10 I16 L12 R15)
set_option maxHeartbeats 4000000 in
set_option maxRecDepth 100000 in
theorem c_X6_init (l : Launch) (G : ZG) (a0 : Nat) (K : MK) (N : MK) (I : MI) (L : ML) (R : MR) (MC MS : Nat) (Q : MK → MK → MI → ML → MR → Prop) (h : w_X6_init a0 K N I L R MC MS Q) : Met l yX6_init (.code yX6_init cX6_init 1 none :: z_tbl) { frames := 2, cells := MC, slots := MS, locals := 32 } (z_Pc G [.ref a0] K N I L R) (z_Qc G (qKv Q)) MC MS (z_A G) := by
  refine z_met (by decide) (Nat.le_of_ble_eq_true rfl) (fun X hX hRm hC0 hnm => ?_)
  subst hX
  have hi : X.2.2.2.2.2.2.2.2.1.name = "<init>" := hnm
  have hC : ZOk X G RX6 cX6_init 1 none := hC0
  show Z X G 1 0 0 _ K N I L R 0 [(0, .ref a0)] []
  delta w_X6_init at h
  refine z_aload_n hC (q := 0) dX6_init_0 rfl rfl ?_
  refine z_objInit hC ml_RX6_3 dX6_init_1 (by rw [hRm]; exact ⟨Nat.le_of_ble_eq_true rfl, Nat.le_of_ble_eq_true rfl⟩) (Nat.le_of_ble_eq_true rfl) ?_
  refine z_aload_n hC (q := 0) dX6_init_4 rfl rfl ?_
  obtain ⟨hm1a, hm1b, h⟩ := h
  refine z_new hC z_cls5 kl_RX6_9 inst_RX5 ini_RX5 dX6_init_5 (by rw [hRm]; exact ⟨hm1a, hm1b⟩) z_dfl5 (fun q2 hq2 => ?_)
  have h := h q2 hq2
  refine z_genK (fun K3 eK3 => ?_)
  have h := h K3 eK3
  refine z_genN (fun N4 eN4 => ?_)
  have h := h N4 eN4
  refine z_genI (fun I5 eI5 => ?_)
  have h := h I5 eI5
  refine z_genL (fun L6 eL6 => ?_)
  have h := h L6 eL6
  refine z_genR (fun R7 eR7 => ?_)
  have h := h R7 eR7
  refine z_dup hC rfl dX6_init_8 ?_
  obtain ⟨hm8a, hm8b, h⟩ := h
  refine z_callN (As := []) (mc1 := 4) (ms1 := 160) hC (c_X5_init _ G q2 K3 N4 I5 L6 R7 4 160 _ h) co_X5_init ⟨rfl, rfl⟩ ini_RX5 (host := RX11) (by decide +kernel) im_X5_init rfl dX6_init_9 (na := 0) (by decide) rfl (by rw [hRm]; exact ⟨Nat.le_of_ble_eq_true rfl, Nat.le_of_ble_eq_true rfl⟩) (by rw [hRm]; exact ⟨hm8a, hm8b⟩) rfl (Nat.le_of_ble_eq_true rfl) (z_kKv (K := K) (N := N) (I := I) (L := L) (R := R) (fun K9 N10 I11 L12 R13 h => ?_))
  obtain ⟨hk14, h⟩ := h
  refine pf_RX6_12 hC dX6_init_12 hk14 hi ?_
  refine z_genR (fun R15 eR15 => ?_)
  have h := h R15 eR15
  refine z_aload_n hC (q := 0) dX6_init_15 rfl rfl ?_
  refine z_iconst hC (v := 0) k_iconst_0 dX6_init_16 ?_
  refine pf_RX6_18 hC dX6_init_17 hk14 ?_
  refine z_genI (fun I16 eI16 => ?_)
  have h := h I16 eI16
  obtain ⟨hm17a, hm17b, h⟩ := h
  exact z_widen hm17a hm17b (z_vret hC dX6_init_20 ⟨rfl, h⟩)
def w_X0_init (a0 : Nat) (K : MK) (N : MK) (I : MI) (L : ML) (R : MR) (MC MS : Nat) (Q : MK → MK → MI → ML → MR → Prop) : Prop := 0 + 1 ≤ MC ∧ 0 + 4 ≤ MS ∧ ∀ q2 : Nat, q2 = N 0 → ∀ K3 : MK, K3 = kup K q2 8 → ∀ N4 : MK, N4 = kup N 0 (N 0 + 1) → ∀ I5 : MI, I5 = mfr I q2 0 → ∀ L6 : ML, L6 = mfr L q2 0 → ∀ R7 : MR, R7 = mfr R q2 none → (0 + 1) + 2 ≤ MC ∧ (0 + 4) + 160 ≤ MS ∧ w_X7_init q2 40 3 K3 N4 I5 L6 R7 2 160 (fun K9 N10 I11 L12 R13 => K9 a0 = 1 ∧ ∀ R15 : MR, R15 = mup R13 a0 0 (some q2) → ∀ I16 : MI, I16 = mup I11 a0 1 0 → ((0 + 1) + 2) ≤ MC ∧ ((0 + 4) + 160) ≤ MS ∧ Q K9 N10 I16 L12 R15)
set_option maxHeartbeats 4000000 in
set_option maxRecDepth 100000 in
theorem c_X0_init (l : Launch) (G : ZG) (a0 : Nat) (K : MK) (N : MK) (I : MI) (L : ML) (R : MR) (MC MS : Nat) (Q : MK → MK → MI → ML → MR → Prop) (h : w_X0_init a0 K N I L R MC MS Q) : Met l yX0_init (.code yX0_init cX0_init 1 none :: z_tbl) { frames := 2, cells := MC, slots := MS, locals := 34 } (z_Pc G [.ref a0] K N I L R) (z_Qc G (qKv Q)) MC MS (z_A G) := by
  refine z_met (by decide) (Nat.le_of_ble_eq_true rfl) (fun X hX hRm hC0 hnm => ?_)
  subst hX
  have hi : X.2.2.2.2.2.2.2.2.1.name = "<init>" := hnm
  have hC : ZOk X G RX0 cX0_init 1 none := hC0
  show Z X G 1 0 0 _ K N I L R 0 [(0, .ref a0)] []
  delta w_X0_init at h
  refine z_aload_n hC (q := 0) dX0_init_0 rfl rfl ?_
  refine z_objInit hC ml_RX0_3 dX0_init_1 (by rw [hRm]; exact ⟨Nat.le_of_ble_eq_true rfl, Nat.le_of_ble_eq_true rfl⟩) (Nat.le_of_ble_eq_true rfl) ?_
  refine z_aload_n hC (q := 0) dX0_init_4 rfl rfl ?_
  obtain ⟨hm1a, hm1b, h⟩ := h
  refine z_new hC z_cls7 kl_RX0_9 inst_RX7 ini_RX7 dX0_init_5 (by rw [hRm]; exact ⟨hm1a, hm1b⟩) z_dfl7 (fun q2 hq2 => ?_)
  have h := h q2 hq2
  refine z_genK (fun K3 eK3 => ?_)
  have h := h K3 eK3
  refine z_genN (fun N4 eN4 => ?_)
  have h := h N4 eN4
  refine z_genI (fun I5 eI5 => ?_)
  have h := h I5 eI5
  refine z_genL (fun L6 eL6 => ?_)
  have h := h L6 eL6
  refine z_genR (fun R7 eR7 => ?_)
  have h := h R7 eR7
  refine z_dup hC rfl dX0_init_8 ?_
  refine z_bipush hC (v := 40) k_bipush_40 dX0_init_9 ?_
  refine z_iconst hC (v := 3) k_iconst_3 dX0_init_11 ?_
  obtain ⟨hm8a, hm8b, h⟩ := h
  refine z_callI (As := [.int 40, .int 3]) (mc1 := 2) (ms1 := 160) (r := none) hC (c_X7_init _ G q2 40 3 K3 N4 I5 L6 R7 2 160 _ h) co_X7_init ⟨rfl, rfl⟩ ini_RX7 ml_RX0_11 im_X7_init rfl dX0_init_12 (na := 2) (by decide) rfl (by rw [hRm]; exact ⟨Nat.le_of_ble_eq_true rfl, Nat.le_of_ble_eq_true rfl⟩) (by rw [hRm]; exact ⟨hm8a, hm8b⟩) rfl (Nat.le_of_ble_eq_true rfl) (z_kKv (K := K) (N := N) (I := I) (L := L) (R := R) (fun K9 N10 I11 L12 R13 h => ?_))
  obtain ⟨hk14, h⟩ := h
  refine pf_RX0_14 hC dX0_init_15 hk14 hi ?_
  refine z_genR (fun R15 eR15 => ?_)
  have h := h R15 eR15
  refine z_aload_n hC (q := 0) dX0_init_18 rfl rfl ?_
  refine z_iconst hC (v := 0) k_iconst_0 dX0_init_19 ?_
  refine pf_RX0_20 hC dX0_init_20 hk14 ?_
  refine z_genI (fun I16 eI16 => ?_)
  have h := h I16 eI16
  obtain ⟨hm17a, hm17b, h⟩ := h
  exact z_widen hm17a hm17b (z_vret hC dX0_init_23 ⟨rfl, h⟩)
def w_X4_init (a0 : Nat) (K : MK) (N : MK) (I : MI) (L : ML) (R : MR) (MC MS : Nat) (Q : MK → MK → MI → ML → MR → Prop) : Prop := 0 + 1 ≤ MC ∧ 0 + 4 ≤ MS ∧ ∀ q2 : Nat, q2 = N 0 → ∀ K3 : MK, K3 = kup K q2 8 → ∀ N4 : MK, N4 = kup N 0 (N 0 + 1) → ∀ I5 : MI, I5 = mfr I q2 0 → ∀ L6 : ML, L6 = mfr L q2 0 → ∀ R7 : MR, R7 = mfr R q2 none → (0 + 1) + 2 ≤ MC ∧ (0 + 4) + 362 ≤ MS ∧ w_X7_init q2 181 1 K3 N4 I5 L6 R7 2 362 (fun K9 N10 I11 L12 R13 => K9 a0 = 5 ∧ ∀ R15 : MR, R15 = mup R13 a0 0 (some q2) → ((0 + 1) + 2) + 1 ≤ MC ∧ ((0 + 4) + 362) + 4 ≤ MS ∧ ∀ q17 : Nat, q17 = N10 0 → ∀ K18 : MK, K18 = kup K9 q17 8 → ∀ N19 : MK, N19 = kup N10 0 (N10 0 + 1) → ∀ I20 : MI, I20 = mfr I11 q17 0 → ∀ L21 : ML, L21 = mfr L12 q17 0 → ∀ R22 : MR, R22 = mfr R15 q17 none → (((0 + 1) + 2) + 1) + 2 ≤ MC ∧ (((0 + 4) + 362) + 4) + 90 ≤ MS ∧ w_X7_init q17 30 2 K18 N19 I20 L21 R22 2 90 (fun K24 N25 I26 L27 R28 => K24 a0 = 5 ∧ ∀ R30 : MR, R30 = mup R28 a0 1 (some q17) → ((((0 + 1) + 2) + 1) + 2) + 1 ≤ MC ∧ ((((0 + 4) + 362) + 4) + 90) + 4 ≤ MS ∧ ∀ q32 : Nat, q32 = N25 0 → ∀ K33 : MK, K33 = kup K24 q32 8 → ∀ N34 : MK, N34 = kup N25 0 (N25 0 + 1) → ∀ I35 : MI, I35 = mfr I26 q32 0 → ∀ L36 : ML, L36 = mfr L27 q32 0 → ∀ R37 : MR, R37 = mfr R30 q32 none → (((((0 + 1) + 2) + 1) + 2) + 1) + 2 ≤ MC ∧ (((((0 + 4) + 362) + 4) + 90) + 4) + 90 ≤ MS ∧ w_X7_init q32 30 2 K33 N34 I35 L36 R37 2 90 (fun K39 N40 I41 L42 R43 => K39 a0 = 5 ∧ ∀ R45 : MR, R45 = mup R43 a0 2 (some q32) → ∀ I46 : MI, I46 = mup I41 a0 3 0 → ∀ I47 : MI, I47 = mup I46 a0 4 1 → ((((((0 + 1) + 2) + 1) + 2) + 1) + 2) ≤ MC ∧ ((((((0 + 4) + 362) + 4) + 90) + 4) + 90) ≤ MS ∧ Q K39 N40 I47 L42 R45)))
set_option maxHeartbeats 4000000 in
set_option maxRecDepth 100000 in
theorem c_X4_init (l : Launch) (G : ZG) (a0 : Nat) (K : MK) (N : MK) (I : MI) (L : ML) (R : MR) (MC MS : Nat) (Q : MK → MK → MI → ML → MR → Prop) (h : w_X4_init a0 K N I L R MC MS Q) : Met l yX4_init (.code yX4_init cX4_init 1 none :: z_tbl) { frames := 2, cells := MC, slots := MS, locals := 34 } (z_Pc G [.ref a0] K N I L R) (z_Qc G (qKv Q)) MC MS (z_A G) := by
  refine z_met (by decide) (Nat.le_of_ble_eq_true rfl) (fun X hX hRm hC0 hnm => ?_)
  subst hX
  have hi : X.2.2.2.2.2.2.2.2.1.name = "<init>" := hnm
  have hC : ZOk X G RX4 cX4_init 1 none := hC0
  show Z X G 1 0 0 _ K N I L R 0 [(0, .ref a0)] []
  delta w_X4_init at h
  refine z_aload_n hC (q := 0) dX4_init_0 rfl rfl ?_
  refine z_objInit hC ml_RX4_3 dX4_init_1 (by rw [hRm]; exact ⟨Nat.le_of_ble_eq_true rfl, Nat.le_of_ble_eq_true rfl⟩) (Nat.le_of_ble_eq_true rfl) ?_
  refine z_aload_n hC (q := 0) dX4_init_4 rfl rfl ?_
  obtain ⟨hm1a, hm1b, h⟩ := h
  refine z_new hC z_cls7 kl_RX4_9 inst_RX7 ini_RX7 dX4_init_5 (by rw [hRm]; exact ⟨hm1a, hm1b⟩) z_dfl7 (fun q2 hq2 => ?_)
  have h := h q2 hq2
  refine z_genK (fun K3 eK3 => ?_)
  have h := h K3 eK3
  refine z_genN (fun N4 eN4 => ?_)
  have h := h N4 eN4
  refine z_genI (fun I5 eI5 => ?_)
  have h := h I5 eI5
  refine z_genL (fun L6 eL6 => ?_)
  have h := h L6 eL6
  refine z_genR (fun R7 eR7 => ?_)
  have h := h R7 eR7
  refine z_dup hC rfl dX4_init_8 ?_
  refine z_sipush hC (v := 181) k_sipush_181 dX4_init_9 ?_
  refine z_iconst hC (v := 1) k_iconst_1 dX4_init_12 ?_
  obtain ⟨hm8a, hm8b, h⟩ := h
  refine z_callI (As := [.int 181, .int 1]) (mc1 := 2) (ms1 := 362) (r := none) hC (c_X7_init _ G q2 181 1 K3 N4 I5 L6 R7 2 362 _ h) co_X7_init ⟨rfl, rfl⟩ ini_RX7 ml_RX4_13 im_X7_init rfl dX4_init_13 (na := 2) (by decide) rfl (by rw [hRm]; exact ⟨Nat.le_of_ble_eq_true rfl, Nat.le_of_ble_eq_true rfl⟩) (by rw [hRm]; exact ⟨hm8a, hm8b⟩) rfl (Nat.le_of_ble_eq_true rfl) (z_kKv (K := K) (N := N) (I := I) (L := L) (R := R) (fun K9 N10 I11 L12 R13 h => ?_))
  obtain ⟨hk14, h⟩ := h
  refine pf_RX4_16 hC dX4_init_16 hk14 hi ?_
  refine z_genR (fun R15 eR15 => ?_)
  have h := h R15 eR15
  refine z_aload_n hC (q := 0) dX4_init_19 rfl rfl ?_
  obtain ⟨hm16a, hm16b, h⟩ := h
  refine z_new hC z_cls7 kl_RX4_9 inst_RX7 ini_RX7 dX4_init_20 (by rw [hRm]; exact ⟨hm16a, hm16b⟩) z_dfl7 (fun q17 hq17 => ?_)
  have h := h q17 hq17
  refine z_genK (fun K18 eK18 => ?_)
  have h := h K18 eK18
  refine z_genN (fun N19 eN19 => ?_)
  have h := h N19 eN19
  refine z_genI (fun I20 eI20 => ?_)
  have h := h I20 eI20
  refine z_genL (fun L21 eL21 => ?_)
  have h := h L21 eL21
  refine z_genR (fun R22 eR22 => ?_)
  have h := h R22 eR22
  refine z_dup hC rfl dX4_init_23 ?_
  refine z_bipush hC (v := 30) k_bipush_30 dX4_init_24 ?_
  refine z_iconst hC (v := 2) k_iconst_2 dX4_init_26 ?_
  obtain ⟨hm23a, hm23b, h⟩ := h
  refine z_callI (As := [.int 30, .int 2]) (mc1 := 2) (ms1 := 90) (r := none) hC (c_X7_init _ G q17 30 2 K18 N19 I20 L21 R22 2 90 _ h) co_X7_init ⟨rfl, rfl⟩ ini_RX7 ml_RX4_13 im_X7_init rfl dX4_init_27 (na := 2) (by decide) rfl (by rw [hRm]; exact ⟨Nat.le_of_ble_eq_true rfl, Nat.le_of_ble_eq_true rfl⟩) (by rw [hRm]; exact ⟨hm23a, hm23b⟩) rfl (Nat.le_of_ble_eq_true rfl) (z_kKv (K := K) (N := N) (I := I) (L := L) (R := R) (fun K24 N25 I26 L27 R28 h => ?_))
  obtain ⟨hk29, h⟩ := h
  refine pf_RX4_20 hC dX4_init_30 hk29 hi ?_
  refine z_genR (fun R30 eR30 => ?_)
  have h := h R30 eR30
  refine z_aload_n hC (q := 0) dX4_init_33 rfl rfl ?_
  obtain ⟨hm31a, hm31b, h⟩ := h
  refine z_new hC z_cls7 kl_RX4_9 inst_RX7 ini_RX7 dX4_init_34 (by rw [hRm]; exact ⟨hm31a, hm31b⟩) z_dfl7 (fun q32 hq32 => ?_)
  have h := h q32 hq32
  refine z_genK (fun K33 eK33 => ?_)
  have h := h K33 eK33
  refine z_genN (fun N34 eN34 => ?_)
  have h := h N34 eN34
  refine z_genI (fun I35 eI35 => ?_)
  have h := h I35 eI35
  refine z_genL (fun L36 eL36 => ?_)
  have h := h L36 eL36
  refine z_genR (fun R37 eR37 => ?_)
  have h := h R37 eR37
  refine z_dup hC rfl dX4_init_37 ?_
  refine z_bipush hC (v := 30) k_bipush_30 dX4_init_38 ?_
  refine z_iconst hC (v := 2) k_iconst_2 dX4_init_40 ?_
  obtain ⟨hm38a, hm38b, h⟩ := h
  refine z_callI (As := [.int 30, .int 2]) (mc1 := 2) (ms1 := 90) (r := none) hC (c_X7_init _ G q32 30 2 K33 N34 I35 L36 R37 2 90 _ h) co_X7_init ⟨rfl, rfl⟩ ini_RX7 ml_RX4_13 im_X7_init rfl dX4_init_41 (na := 2) (by decide) rfl (by rw [hRm]; exact ⟨Nat.le_of_ble_eq_true rfl, Nat.le_of_ble_eq_true rfl⟩) (by rw [hRm]; exact ⟨hm38a, hm38b⟩) rfl (Nat.le_of_ble_eq_true rfl) (z_kKv (K := K) (N := N) (I := I) (L := L) (R := R) (fun K39 N40 I41 L42 R43 h => ?_))
  obtain ⟨hk44, h⟩ := h
  refine pf_RX4_23 hC dX4_init_44 hk44 hi ?_
  refine z_genR (fun R45 eR45 => ?_)
  have h := h R45 eR45
  refine z_aload_n hC (q := 0) dX4_init_47 rfl rfl ?_
  refine z_iconst hC (v := 0) k_iconst_0 dX4_init_48 ?_
  refine pf_RX4_26 hC dX4_init_49 hk44 ?_
  refine z_genI (fun I46 eI46 => ?_)
  have h := h I46 eI46
  refine z_aload_n hC (q := 0) dX4_init_52 rfl rfl ?_
  refine z_iconst hC (v := 1) k_iconst_1 dX4_init_53 ?_
  refine pf_RX4_30 hC dX4_init_54 hk44 ?_
  refine z_genI (fun I47 eI47 => ?_)
  have h := h I47 eI47
  obtain ⟨hm48a, hm48b, h⟩ := h
  exact z_widen hm48a hm48b (z_vret hC dX4_init_57 ⟨rfl, h⟩)
def w_X11_init_243 (x0 : Nat) (x1 : Int32)  (K : MK) (N : MK) (I : MI) (L : ML) (R : MR) (mc : Nat) (ms : Nat) (MC MS : Nat)  (Q : MK → MK → MI → ML → MR → Prop) : Prop := ∃ J : Nat → Nat → Int32 → Nat → Nat → MK → MK → MI → ML → MR → Prop, (∃ n, J n x0 x1 mc ms K N I L R) ∧ ∀ (n : Nat) (x0 : Nat) (x1 : Int32) (mc : Nat) (ms : Nat) (K : MK) (N : MK) (I : MI) (L : ML) (R : MR), J n x0 x1 mc ms K N I L R → K x0 = 12 ∧ ∃ b266 : Nat, R x0 16 = some b266 ∧ K b266 = 16 ∧ ((nI (N b266)) ≤ x1 → mc ≤ MC ∧ ms ≤ MS ∧ Q K N I L R) ∧ (¬ (nI (N b266)) ≤ x1 → ∃ b269 : Nat, R x0 13 = some b269 ∧ mc + 1 ≤ MC ∧ ms + 6 ≤ MS ∧ ∀ q271 : Nat, q271 = N 0 → ∀ K272 : MK, K272 = kup K q271 10 → ∀ N273 : MK, N273 = kup N 0 (N 0 + 1) → ∀ I274 : MI, I274 = mfr I q271 0 → ∀ L275 : ML, L275 = mfr L q271 0 → ∀ R276 : MR, R276 = mfr R q271 none → (mc + 1) + 15 ≤ MC ∧ (ms + 6) + 566 ≤ MS ∧ w_X9_init q271 K272 N273 I274 L275 R276 15 566 (fun K278 N279 I280 L281 R282 => K278 b269 = 19 ∧ vp_in x1 (N279 b269) ∧ K278 q271 = 10 ∧ ∀ R286 : MR, R286 = mup R282 b269 (ix x1) (some q271) → K278 x0 = 12 ∧ ∃ b288 : Nat, R286 x0 14 = some b288 ∧ ((mc + 1) + 15) + 1 ≤ MC ∧ ((ms + 6) + 566) + 6 ≤ MS ∧ ∀ q290 : Nat, q290 = N279 0 → ∀ K291 : MK, K291 = kup K278 q290 4 → ∀ N292 : MK, N292 = kup N279 0 (N279 0 + 1) → ∀ I293 : MI, I293 = mfr I280 q290 0 → ∀ L294 : ML, L294 = mfr L281 q290 0 → ∀ R295 : MR, R295 = mfr R286 q290 none → (((mc + 1) + 15) + 1) + 3 ≤ MC ∧ (((ms + 6) + 566) + 6) + 80 ≤ MS ∧ w_X3_init q290 K291 N292 I293 L294 R295 3 80 (fun K297 N298 I299 L300 R301 => K297 b288 = 17 ∧ vp_in x1 (N298 b288) ∧ K297 q290 = 4 ∧ ∀ R305 : MR, R305 = mup R301 b288 (ix x1) (some q290) → K297 x0 = 12 ∧ ∃ b307 : Nat, R305 x0 15 = some b307 ∧ ((((mc + 1) + 15) + 1) + 3) + 1 ≤ MC ∧ ((((ms + 6) + 566) + 6) + 80) + 6 ≤ MS ∧ ∀ q309 : Nat, q309 = N298 0 → ∀ K310 : MK, K310 = kup K297 q309 6 → ∀ N311 : MK, N311 = kup N298 0 (N298 0 + 1) → ∀ I312 : MI, I312 = mfr I299 q309 0 → ∀ L313 : ML, L313 = mfr L300 q309 0 → ∀ R314 : MR, R314 = mfr R305 q309 none → (((((mc + 1) + 15) + 1) + 3) + 1) + 4 ≤ MC ∧ (((((ms + 6) + 566) + 6) + 80) + 6) + 160 ≤ MS ∧ w_X5_init q309 K310 N311 I312 L313 R314 4 160 (fun K316 N317 I318 L319 R320 => K316 b307 = 18 ∧ vp_in x1 (N317 b307) ∧ K316 q309 = 6 ∧ ∀ R324 : MR, R324 = mup R320 b307 (ix x1) (some q309) → ∀ v325 : Int32, v325 = x1 + 1 → ∃ n1, n1 < n ∧ J n1 x0 v325 ((((((mc + 1) + 15) + 1) + 3) + 1) + 4) ((((((ms + 6) + 566) + 6) + 80) + 6) + 160) K316 N317 I318 L319 R324))))
def w_X11_init_213 (x0 : Nat) (x1 : Int32)  (K : MK) (N : MK) (I : MI) (L : ML) (R : MR) (mc : Nat) (ms : Nat) (MC MS : Nat)  (Q : MK → MK → MI → ML → MR → Prop) : Prop := ∃ J : Nat → Nat → Int32 → Nat → Nat → MK → MK → MI → ML → MR → Prop, (∃ n, J n x0 x1 mc ms K N I L R) ∧ ∀ (n : Nat) (x0 : Nat) (x1 : Int32) (mc : Nat) (ms : Nat) (K : MK) (N : MK) (I : MI) (L : ML) (R : MR), J n x0 x1 mc ms K N I L R → K x0 = 12 ∧ ∃ b263 : Nat, R x0 4 = some b263 ∧ K b263 = 17 ∧ ((nI (N b263)) ≤ x1 → w_X11_init_243 x0 0 K N I L R mc ms MC MS Q) ∧ (¬ (nI (N b263)) ≤ x1 → mc + 1 ≤ MC ∧ ms + 6 ≤ MS ∧ ∀ q327 : Nat, q327 = N 0 → ∀ K328 : MK, K328 = kup K q327 4 → ∀ N329 : MK, N329 = kup N 0 (N 0 + 1) → ∀ I330 : MI, I330 = mfr I q327 0 → ∀ L331 : ML, L331 = mfr L q327 0 → ∀ R332 : MR, R332 = mfr R q327 none → (mc + 1) + 3 ≤ MC ∧ (ms + 6) + 80 ≤ MS ∧ w_X3_init q327 K328 N329 I330 L331 R332 3 80 (fun K334 N335 I336 L337 R338 => K334 b263 = 17 ∧ vp_in x1 (N335 b263) ∧ K334 q327 = 4 ∧ ∀ R342 : MR, R342 = mup R338 b263 (ix x1) (some q327) → ∀ v343 : Int32, v343 = x1 + 1 → ∃ n1, n1 < n ∧ J n1 x0 v343 ((mc + 1) + 3) ((ms + 6) + 80) K334 N335 I336 L337 R342))
def w_X11_init_198 (x0 : Nat)  (K : MK) (N : MK) (I : MI) (L : ML) (R : MR) (mc : Nat) (ms : Nat) (MC MS : Nat)  (Q : MK → MK → MI → ML → MR → Prop) : Prop := mc + 1 ≤ MC ∧ ms + 4 ≤ MS ∧ ∀ q248 : Nat, q248 = N 0 → ∀ K249 : MK, K249 = kup K q248 8 → ∀ N250 : MK, N250 = kup N 0 (N 0 + 1) → ∀ I251 : MI, I251 = mfr I q248 0 → ∀ L252 : ML, L252 = mfr L q248 0 → ∀ R253 : MR, R253 = mfr R q248 none → (mc + 1) + 2 ≤ MC ∧ (ms + 4) + 5 ≤ MS ∧ w_X7_init q248 1 4 K249 N250 I251 L252 R253 2 5 (fun K255 N256 I257 L258 R259 => K255 x0 = 12 ∧ ∀ R261 : MR, R261 = mup R259 x0 19 (some q248) → w_X11_init_213 x0 0 K255 N256 I257 L258 R261 ((mc + 1) + 2) ((ms + 4) + 5) MC MS Q)
def w_X11_init_184 (x0 : Nat)  (K : MK) (N : MK) (I : MI) (L : ML) (R : MR) (mc : Nat) (ms : Nat) (MC MS : Nat)  (Q : MK → MK → MI → ML → MR → Prop) : Prop := mc + 1 ≤ MC ∧ ms + 4 ≤ MS ∧ ∀ q233 : Nat, q233 = N 0 → ∀ K234 : MK, K234 = kup K q233 8 → ∀ N235 : MK, N235 = kup N 0 (N 0 + 1) → ∀ I236 : MI, I236 = mfr I q233 0 → ∀ L237 : ML, L237 = mfr L q233 0 → ∀ R238 : MR, R238 = mfr R q233 none → (mc + 1) + 2 ≤ MC ∧ (ms + 4) + 80 ≤ MS ∧ w_X7_init q233 40 1 K234 N235 I236 L237 R238 2 80 (fun K240 N241 I242 L243 R244 => K240 x0 = 12 ∧ ∀ R246 : MR, R246 = mup R244 x0 18 (some q233) → w_X11_init_198 x0 K240 N241 I242 L243 R246 ((mc + 1) + 2) ((ms + 4) + 80) MC MS Q)
def w_X11_init_170 (x0 : Nat)  (K : MK) (N : MK) (I : MI) (L : ML) (R : MR) (mc : Nat) (ms : Nat) (MC MS : Nat)  (Q : MK → MK → MI → ML → MR → Prop) : Prop := mc + 1 ≤ MC ∧ ms + 4 ≤ MS ∧ ∀ q218 : Nat, q218 = N 0 → ∀ K219 : MK, K219 = kup K q218 8 → ∀ N220 : MK, N220 = kup N 0 (N 0 + 1) → ∀ I221 : MI, I221 = mfr I q218 0 → ∀ L222 : ML, L222 = mfr L q218 0 → ∀ R223 : MR, R223 = mfr R q218 none → (mc + 1) + 2 ≤ MC ∧ (ms + 4) + 30 ≤ MS ∧ w_X7_init q218 10 2 K219 N220 I221 L222 R223 2 30 (fun K225 N226 I227 L228 R229 => K225 x0 = 12 ∧ ∀ R231 : MR, R231 = mup R229 x0 17 (some q218) → w_X11_init_184 x0 K225 N226 I227 L228 R231 ((mc + 1) + 2) ((ms + 4) + 30) MC MS Q)
def w_X11_init_163 (x0 : Nat)  (K : MK) (N : MK) (I : MI) (L : ML) (R : MR) (mc : Nat) (ms : Nat) (MC MS : Nat)  (Q : MK → MK → MI → ML → MR → Prop) : Prop := ¬ (2 : Int32) < 0 ∧ (ix 2) ≤ 60000 ∧ mc + 1 ≤ MC ∧ ms + (ix 2) ≤ MS ∧ ∀ q209 : Nat, q209 = N 0 → ∀ K210 : MK, K210 = kup K q209 16 → ∀ N211 : MK, N211 = kup (kup N q209 (ix 2)) 0 (N 0 + 1) → ∀ I212 : MI, I212 = mfr I q209 0 → ∀ L213 : ML, L213 = mfr L q209 0 → ∀ R214 : MR, R214 = mfr R q209 none → K210 x0 = 12 ∧ ∀ R216 : MR, R216 = mup R214 x0 16 (some q209) → w_X11_init_170 x0 K210 N211 I212 L213 R216 (mc + 1) (ms + (ix 2)) MC MS Q
def w_X11_init_155 (x0 : Nat)  (K : MK) (N : MK) (I : MI) (L : ML) (R : MR) (mc : Nat) (ms : Nat) (MC MS : Nat)  (Q : MK → MK → MI → ML → MR → Prop) : Prop := ¬ (2 : Int32) < 0 ∧ (ix 2) ≤ 60000 ∧ mc + 1 ≤ MC ∧ ms + (ix 2) ≤ MS ∧ ∀ q199 : Nat, q199 = N 0 → ∀ K200 : MK, K200 = kup K q199 18 → ∀ N201 : MK, N201 = kup (kup N q199 (ix 2)) 0 (N 0 + 1) → ∀ I202 : MI, I202 = mfr I q199 0 → ∀ L203 : ML, L203 = mfr L q199 0 → ∀ R204 : MR, R204 = mfr R q199 none → K200 x0 = 12 ∧ ∀ R206 : MR, R206 = mup R204 x0 15 (some q199) → w_X11_init_163 x0 K200 N201 I202 L203 R206 (mc + 1) (ms + (ix 2)) MC MS Q
def w_X11_init_147 (x0 : Nat)  (K : MK) (N : MK) (I : MI) (L : ML) (R : MR) (mc : Nat) (ms : Nat) (MC MS : Nat)  (Q : MK → MK → MI → ML → MR → Prop) : Prop := ¬ (2 : Int32) < 0 ∧ (ix 2) ≤ 60000 ∧ mc + 1 ≤ MC ∧ ms + (ix 2) ≤ MS ∧ ∀ q189 : Nat, q189 = N 0 → ∀ K190 : MK, K190 = kup K q189 17 → ∀ N191 : MK, N191 = kup (kup N q189 (ix 2)) 0 (N 0 + 1) → ∀ I192 : MI, I192 = mfr I q189 0 → ∀ L193 : ML, L193 = mfr L q189 0 → ∀ R194 : MR, R194 = mfr R q189 none → K190 x0 = 12 ∧ ∀ R196 : MR, R196 = mup R194 x0 14 (some q189) → w_X11_init_155 x0 K190 N191 I192 L193 R196 (mc + 1) (ms + (ix 2)) MC MS Q
def w_X11_init_139 (x0 : Nat)  (K : MK) (N : MK) (I : MI) (L : ML) (R : MR) (mc : Nat) (ms : Nat) (MC MS : Nat)  (Q : MK → MK → MI → ML → MR → Prop) : Prop := ¬ (2 : Int32) < 0 ∧ (ix 2) ≤ 60000 ∧ mc + 1 ≤ MC ∧ ms + (ix 2) ≤ MS ∧ ∀ q179 : Nat, q179 = N 0 → ∀ K180 : MK, K180 = kup K q179 19 → ∀ N181 : MK, N181 = kup (kup N q179 (ix 2)) 0 (N 0 + 1) → ∀ I182 : MI, I182 = mfr I q179 0 → ∀ L183 : ML, L183 = mfr L q179 0 → ∀ R184 : MR, R184 = mfr R q179 none → K180 x0 = 12 ∧ ∀ R186 : MR, R186 = mup R184 x0 13 (some q179) → w_X11_init_147 x0 K180 N181 I182 L183 R186 (mc + 1) (ms + (ix 2)) MC MS Q
def w_X11_init_128 (x0 : Nat)  (K : MK) (N : MK) (I : MI) (L : ML) (R : MR) (mc : Nat) (ms : Nat) (MC MS : Nat)  (Q : MK → MK → MI → ML → MR → Prop) : Prop := mc + 1 ≤ MC ∧ ms + 5 ≤ MS ∧ ∀ q163 : Nat, q163 = N 0 → ∀ K164 : MK, K164 = kup K q163 5 → ∀ N165 : MK, N165 = kup N 0 (N 0 + 1) → ∀ I166 : MI, I166 = mfr I q163 0 → ∀ L167 : ML, L167 = mfr L q163 0 → ∀ R168 : MR, R168 = mfr R q163 none → (mc + 1) + 9 ≤ MC ∧ (ms + 5) + 554 ≤ MS ∧ w_X4_init q163 K164 N165 I166 L167 R168 9 554 (fun K170 N171 I172 L173 R174 => K170 x0 = 12 ∧ ∀ R176 : MR, R176 = mup R174 x0 12 (some q163) → w_X11_init_139 x0 K170 N171 I172 L173 R176 ((mc + 1) + 9) ((ms + 5) + 554) MC MS Q)
def w_X11_init_117 (x0 : Nat)  (K : MK) (N : MK) (I : MI) (L : ML) (R : MR) (mc : Nat) (ms : Nat) (MC MS : Nat)  (Q : MK → MK → MI → ML → MR → Prop) : Prop := mc + 1 ≤ MC ∧ ms + 2 ≤ MS ∧ ∀ q148 : Nat, q148 = N 0 → ∀ K149 : MK, K149 = kup K q148 1 → ∀ N150 : MK, N150 = kup N 0 (N 0 + 1) → ∀ I151 : MI, I151 = mfr I q148 0 → ∀ L152 : ML, L152 = mfr L q148 0 → ∀ R153 : MR, R153 = mfr R q148 none → (mc + 1) + 3 ≤ MC ∧ (ms + 2) + 164 ≤ MS ∧ w_X0_init q148 K149 N150 I151 L152 R153 3 164 (fun K155 N156 I157 L158 R159 => K155 x0 = 12 ∧ ∀ R161 : MR, R161 = mup R159 x0 11 (some q148) → w_X11_init_128 x0 K155 N156 I157 L158 R161 ((mc + 1) + 3) ((ms + 2) + 164) MC MS Q)
def w_X11_init_106 (x0 : Nat)  (K : MK) (N : MK) (I : MI) (L : ML) (R : MR) (mc : Nat) (ms : Nat) (MC MS : Nat)  (Q : MK → MK → MI → ML → MR → Prop) : Prop := mc + 1 ≤ MC ∧ ms + 2 ≤ MS ∧ ∀ q133 : Nat, q133 = N 0 → ∀ K134 : MK, K134 = kup K q133 7 → ∀ N135 : MK, N135 = kup N 0 (N 0 + 1) → ∀ I136 : MI, I136 = mfr I q133 0 → ∀ L137 : ML, L137 = mfr L q133 0 → ∀ R138 : MR, R138 = mfr R q133 none → (mc + 1) + 5 ≤ MC ∧ (ms + 2) + 166 ≤ MS ∧ w_X6_init q133 K134 N135 I136 L137 R138 5 166 (fun K140 N141 I142 L143 R144 => K140 x0 = 12 ∧ ∀ R146 : MR, R146 = mup R144 x0 10 (some q133) → w_X11_init_117 x0 K140 N141 I142 L143 R146 ((mc + 1) + 5) ((ms + 2) + 166) MC MS Q)
def w_X11_init_95 (x0 : Nat)  (K : MK) (N : MK) (I : MI) (L : ML) (R : MR) (mc : Nat) (ms : Nat) (MC MS : Nat)  (Q : MK → MK → MI → ML → MR → Prop) : Prop := mc + 1 ≤ MC ∧ ms + 3 ≤ MS ∧ ∀ q118 : Nat, q118 = N 0 → ∀ K119 : MK, K119 = kup K q118 11 → ∀ N120 : MK, N120 = kup N 0 (N 0 + 1) → ∀ I121 : MI, I121 = mfr I q118 0 → ∀ L122 : ML, L122 = mfr L q118 0 → ∀ R123 : MR, R123 = mfr R q118 none → (mc + 1) + 16 ≤ MC ∧ (ms + 3) + 572 ≤ MS ∧ w_X10_init q118 K119 N120 I121 L122 R123 16 572 (fun K125 N126 I127 L128 R129 => K125 x0 = 12 ∧ ∀ R131 : MR, R131 = mup R129 x0 9 (some q118) → w_X11_init_106 x0 K125 N126 I127 L128 R131 ((mc + 1) + 16) ((ms + 3) + 572) MC MS Q)
def w_X11_init_84 (x0 : Nat)  (K : MK) (N : MK) (I : MI) (L : ML) (R : MR) (mc : Nat) (ms : Nat) (MC MS : Nat)  (Q : MK → MK → MI → ML → MR → Prop) : Prop := mc + 1 ≤ MC ∧ ms + 6 ≤ MS ∧ ∀ q103 : Nat, q103 = N 0 → ∀ K104 : MK, K104 = kup K q103 6 → ∀ N105 : MK, N105 = kup N 0 (N 0 + 1) → ∀ I106 : MI, I106 = mfr I q103 0 → ∀ L107 : ML, L107 = mfr L q103 0 → ∀ R108 : MR, R108 = mfr R q103 none → (mc + 1) + 4 ≤ MC ∧ (ms + 6) + 160 ≤ MS ∧ w_X5_init q103 K104 N105 I106 L107 R108 4 160 (fun K110 N111 I112 L113 R114 => K110 x0 = 12 ∧ ∀ R116 : MR, R116 = mup R114 x0 8 (some q103) → w_X11_init_95 x0 K110 N111 I112 L113 R116 ((mc + 1) + 4) ((ms + 6) + 160) MC MS Q)
def w_X11_init_73 (x0 : Nat)  (K : MK) (N : MK) (I : MI) (L : ML) (R : MR) (mc : Nat) (ms : Nat) (MC MS : Nat)  (Q : MK → MK → MI → ML → MR → Prop) : Prop := mc + 1 ≤ MC ∧ ms + 1 ≤ MS ∧ ∀ q88 : Nat, q88 = N 0 → ∀ K89 : MK, K89 = kup K q88 2 → ∀ N90 : MK, N90 = kup N 0 (N 0 + 1) → ∀ I91 : MI, I91 = mfr I q88 0 → ∀ L92 : ML, L92 = mfr L q88 0 → ∀ R93 : MR, R93 = mfr R q88 none → (mc + 1) + 0 ≤ MC ∧ (ms + 1) + 0 ≤ MS ∧ w_X1_init q88 K89 N90 I91 L92 R93 0 0 (fun K95 N96 I97 L98 R99 => K95 x0 = 12 ∧ ∀ R101 : MR, R101 = mup R99 x0 7 (some q88) → w_X11_init_84 x0 K95 N96 I97 L98 R101 ((mc + 1) + 0) ((ms + 1) + 0) MC MS Q)
def w_X11_init_62 (x0 : Nat)  (K : MK) (N : MK) (I : MI) (L : ML) (R : MR) (mc : Nat) (ms : Nat) (MC MS : Nat)  (Q : MK → MK → MI → ML → MR → Prop) : Prop := mc + 1 ≤ MC ∧ ms + 3 ≤ MS ∧ ∀ q73 : Nat, q73 = N 0 → ∀ K74 : MK, K74 = kup K q73 3 → ∀ N75 : MK, N75 = kup N 0 (N 0 + 1) → ∀ I76 : MI, I76 = mfr I q73 0 → ∀ L77 : ML, L77 = mfr L q73 0 → ∀ R78 : MR, R78 = mfr R q73 none → (mc + 1) + 1 ≤ MC ∧ (ms + 3) + 8 ≤ MS ∧ w_X2_init q73 K74 N75 I76 L77 R78 1 8 (fun K80 N81 I82 L83 R84 => K80 x0 = 12 ∧ ∀ R86 : MR, R86 = mup R84 x0 6 (some q73) → w_X11_init_73 x0 K80 N81 I82 L83 R86 ((mc + 1) + 1) ((ms + 3) + 8) MC MS Q)
def w_X11_init_48 (x0 : Nat)  (K : MK) (N : MK) (I : MI) (L : ML) (R : MR) (mc : Nat) (ms : Nat) (MC MS : Nat)  (Q : MK → MK → MI → ML → MR → Prop) : Prop := ¬ (8 : Int32) < 0 ∧ (ix 8) ≤ 60000 ∧ mc + 1 ≤ MC ∧ ms + (ix 8) ≤ MS ∧ ∀ q63 : Nat, q63 = N 0 → ∀ K64 : MK, K64 = kup K q63 17 → ∀ N65 : MK, N65 = kup (kup N q63 (ix 8)) 0 (N 0 + 1) → ∀ I66 : MI, I66 = mfr I q63 0 → ∀ L67 : ML, L67 = mfr L q63 0 → ∀ R68 : MR, R68 = mfr R q63 none → K64 x0 = 12 ∧ ∀ R70 : MR, R70 = mup R68 x0 4 (some q63) → ∀ I71 : MI, I71 = mup I66 x0 5 0 → w_X11_init_62 x0 K64 N65 I71 L67 R70 (mc + 1) (ms + (ix 8)) MC MS Q
def w_X11_init_37 (x0 : Nat)  (K : MK) (N : MK) (I : MI) (L : ML) (R : MR) (mc : Nat) (ms : Nat) (MC MS : Nat)  (Q : MK → MK → MI → ML → MR → Prop) : Prop := mc + 1 ≤ MC ∧ ms + 6 ≤ MS ∧ ∀ q47 : Nat, q47 = N 0 → ∀ K48 : MK, K48 = kup K q47 4 → ∀ N49 : MK, N49 = kup N 0 (N 0 + 1) → ∀ I50 : MI, I50 = mfr I q47 0 → ∀ L51 : ML, L51 = mfr L q47 0 → ∀ R52 : MR, R52 = mfr R q47 none → (mc + 1) + 3 ≤ MC ∧ (ms + 6) + 80 ≤ MS ∧ w_X3_init q47 K48 N49 I50 L51 R52 3 80 (fun K54 N55 I56 L57 R58 => K54 x0 = 12 ∧ ∀ R60 : MR, R60 = mup R58 x0 3 (some q47) → w_X11_init_48 x0 K54 N55 I56 L57 R60 ((mc + 1) + 3) ((ms + 6) + 80) MC MS Q)
def w_X11_init_26 (x0 : Nat)  (K : MK) (N : MK) (I : MI) (L : ML) (R : MR) (mc : Nat) (ms : Nat) (MC MS : Nat)  (Q : MK → MK → MI → ML → MR → Prop) : Prop := mc + 1 ≤ MC ∧ ms + 6 ≤ MS ∧ ∀ q32 : Nat, q32 = N 0 → ∀ K33 : MK, K33 = kup K q32 4 → ∀ N34 : MK, N34 = kup N 0 (N 0 + 1) → ∀ I35 : MI, I35 = mfr I q32 0 → ∀ L36 : ML, L36 = mfr L q32 0 → ∀ R37 : MR, R37 = mfr R q32 none → (mc + 1) + 3 ≤ MC ∧ (ms + 6) + 80 ≤ MS ∧ w_X3_init q32 K33 N34 I35 L36 R37 3 80 (fun K39 N40 I41 L42 R43 => K39 x0 = 12 ∧ ∀ R45 : MR, R45 = mup R43 x0 2 (some q32) → w_X11_init_37 x0 K39 N40 I41 L42 R45 ((mc + 1) + 3) ((ms + 6) + 80) MC MS Q)
def w_X11_init_15 (x0 : Nat)  (K : MK) (N : MK) (I : MI) (L : ML) (R : MR) (mc : Nat) (ms : Nat) (MC MS : Nat)  (Q : MK → MK → MI → ML → MR → Prop) : Prop := mc + 1 ≤ MC ∧ ms + 6 ≤ MS ∧ ∀ q17 : Nat, q17 = N 0 → ∀ K18 : MK, K18 = kup K q17 10 → ∀ N19 : MK, N19 = kup N 0 (N 0 + 1) → ∀ I20 : MI, I20 = mfr I q17 0 → ∀ L21 : ML, L21 = mfr L q17 0 → ∀ R22 : MR, R22 = mfr R q17 none → (mc + 1) + 15 ≤ MC ∧ (ms + 6) + 566 ≤ MS ∧ w_X9_init q17 K18 N19 I20 L21 R22 15 566 (fun K24 N25 I26 L27 R28 => K24 x0 = 12 ∧ ∀ R30 : MR, R30 = mup R28 x0 1 (some q17) → w_X11_init_26 x0 K24 N25 I26 L27 R30 ((mc + 1) + 15) ((ms + 6) + 566) MC MS Q)
def w_X11_init_4 (x0 : Nat)  (K : MK) (N : MK) (I : MI) (L : ML) (R : MR) (mc : Nat) (ms : Nat) (MC MS : Nat)  (Q : MK → MK → MI → ML → MR → Prop) : Prop := mc + 1 ≤ MC ∧ ms + 12 ≤ MS ∧ ∀ q2 : Nat, q2 = N 0 → ∀ K3 : MK, K3 = kup K q2 9 → ∀ N4 : MK, N4 = kup N 0 (N 0 + 1) → ∀ I5 : MI, I5 = mfr I q2 0 → ∀ L6 : ML, L6 = mfr L q2 0 → ∀ R7 : MR, R7 = mfr R q2 none → (mc + 1) + 1 ≤ MC ∧ (ms + 12) + 940 ≤ MS ∧ w_X8_init q2 K3 N4 I5 L6 R7 1 940 (fun K9 N10 I11 L12 R13 => K9 x0 = 12 ∧ ∀ R15 : MR, R15 = mup R13 x0 0 (some q2) → w_X11_init_15 x0 K9 N10 I11 L12 R15 ((mc + 1) + 1) ((ms + 12) + 940) MC MS Q)
def w_X11_init (a0 : Nat) (K : MK) (N : MK) (I : MI) (L : ML) (R : MR) (MC MS : Nat) (Q : MK → MK → MI → ML → MR → Prop) : Prop := w_X11_init_4 a0 K N I L R 0 0 MC MS Q
set_option maxHeartbeats 4000000 in
set_option maxRecDepth 100000 in
theorem z_X11_init_243 {X : ZX} {G : ZG} {x0 : Nat} {x1 : Int32}  {K : MK} {N : MK} {I : MI} {L : ML} {R : MR} {mc : Nat} {ms : Nat} {MC MS : Nat} {Q : MK → MK → MI → ML → MR → Prop} (hC : ZOk X G RX11 cX11_init 2 none) (hRm : X.2.2.2.1 = { frames := 4, cells := MC, slots := MS, locals := 74 }) (hi : X.2.2.2.2.2.2.2.2.1.name = "<init>") (h : w_X11_init_243 x0 x1 K N I L R mc ms MC MS Q) : Z X G 2 mc ms (z_T X G (qKv Q) MC MS) K N I L R 243 [(0, .ref x0), (1, .int x1)] [] := by
  delta w_X11_init_243 at h
  obtain ⟨J, ⟨n, h0⟩, hs⟩ := h
  have key : ∀ (n : Nat) (x0 : Nat) (x1 : Int32) (mc : Nat) (ms : Nat) (K : MK) (N : MK) (I : MI) (L : ML) (R : MR), J n x0 x1 mc ms K N I L R → Z X G 2 mc ms (z_T X G (qKv Q) MC MS) K N I L R 243 [(0, .ref x0), (1, .int x1)] [] := by
    intro n
    induction n using Nat.strongRecOn with
    | _ n ih =>
      intro x0 x1 mc ms K N I L R hJ
      have hC243 : ∀ (y0 : Nat) (y1 : Int32) (zmc : Nat) (zms : Nat) (zK : MK) (zN : MK) (zI : MI) (zL : ML) (zR : MR), (∃ n1, n1 < n ∧ J n1 y0 y1 zmc zms zK zN zI zL zR) → Z X G 2 zmc zms (z_T X G (qKv Q) MC MS) zK zN zI zL zR 243 [(0, .ref y0), (1, .int y1)] [] := fun y0 y1 zmc zms zK zN zI zL zR ⟨n1, hn1, hj⟩ => ih n1 hn1 y0 y1 zmc zms zK zN zI zL zR hj
      have h := hs n x0 x1 mc ms K N I L R hJ
      refine z_iload_n hC (q := 1) dX11_init_243 rfl rfl ?_
      refine z_aload_n hC (q := 0) dX11_init_244 rfl rfl ?_
      obtain ⟨hk265, h⟩ := h
      obtain ⟨b266, hb266, h⟩ := h
      refine gf_RX11_101 hC dX11_init_245 hk265 hb266 ?_
      obtain ⟨hk267, h⟩ := h
      refine z_alen16 hC hk267 dX11_init_248 ?_
      refine z_icmp_ge hC (tgt := 297) dX11_init_249 (by decide) (fun hc => ?_) (fun hc => ?_)
      · have h := h.1 hc
        obtain ⟨hm268a, hm268b, h⟩ := h
        exact z_widen hm268a hm268b (z_vret hC dX11_init_297 ⟨rfl, h⟩)
      · have h := h.2 hc
        refine z_aload_n hC (q := 0) dX11_init_252 rfl rfl ?_
        obtain ⟨b269, hb269, h⟩ := h
        refine gf_RX11_90 hC dX11_init_253 hk265 hb269 ?_
        refine z_iload_n hC (q := 1) dX11_init_256 rfl rfl ?_
        obtain ⟨hm270a, hm270b, h⟩ := h
        refine z_new hC z_cls9 kl_RX11_16 inst_RX9 ini_RX9 dX11_init_257 (by rw [hRm]; exact ⟨hm270a, hm270b⟩) z_dfl9 (fun q271 hq271 => ?_)
        have h := h q271 hq271
        refine z_genK (fun K272 eK272 => ?_)
        have h := h K272 eK272
        refine z_genN (fun N273 eN273 => ?_)
        have h := h N273 eN273
        refine z_genI (fun I274 eI274 => ?_)
        have h := h I274 eI274
        refine z_genL (fun L275 eL275 => ?_)
        have h := h L275 eL275
        refine z_genR (fun R276 eR276 => ?_)
        have h := h R276 eR276
        refine z_dup hC rfl dX11_init_260 ?_
        obtain ⟨hm277a, hm277b, h⟩ := h
        refine z_callN (As := []) (mc1 := 15) (ms1 := 566) hC (c_X9_init _ G q271 K272 N273 I274 L275 R276 15 566 _ h) co_X9_init ⟨rfl, rfl⟩ ini_RX9 (host := RX11) (by decide +kernel) im_X9_init rfl dX11_init_261 (na := 0) (by decide) rfl (by rw [hRm]; exact ⟨Nat.le_of_ble_eq_true rfl, Nat.le_of_ble_eq_true rfl⟩) (by rw [hRm]; exact ⟨hm277a, hm277b⟩) rfl (Nat.le_of_ble_eq_true rfl) (z_kKv (K := K) (N := N) (I := I) (L := L) (R := R) (fun K278 N279 I280 L281 R282 h => ?_))
        obtain ⟨hk283, h⟩ := h
        obtain ⟨hi284, h⟩ := h
        obtain ⟨hk285, h⟩ := h
        refine z_aastore19 hC hk283 hi284 hk285 dX11_init_264 ?_
        refine z_genR (fun R286 eR286 => ?_)
        have h := h R286 eR286
        refine z_aload_n hC (q := 0) dX11_init_265 rfl rfl ?_
        obtain ⟨hk287, h⟩ := h
        obtain ⟨b288, hb288, h⟩ := h
        refine gf_RX11_94 hC dX11_init_266 hk287 hb288 ?_
        refine z_iload_n hC (q := 1) dX11_init_269 rfl rfl ?_
        obtain ⟨hm289a, hm289b, h⟩ := h
        refine z_new hC z_cls3 kl_RX11_23 inst_RX3 ini_RX3 dX11_init_270 (by rw [hRm]; exact ⟨hm289a, hm289b⟩) z_dfl3 (fun q290 hq290 => ?_)
        have h := h q290 hq290
        refine z_genK (fun K291 eK291 => ?_)
        have h := h K291 eK291
        refine z_genN (fun N292 eN292 => ?_)
        have h := h N292 eN292
        refine z_genI (fun I293 eI293 => ?_)
        have h := h I293 eI293
        refine z_genL (fun L294 eL294 => ?_)
        have h := h L294 eL294
        refine z_genR (fun R295 eR295 => ?_)
        have h := h R295 eR295
        refine z_dup hC rfl dX11_init_273 ?_
        obtain ⟨hm296a, hm296b, h⟩ := h
        refine z_callN (As := []) (mc1 := 3) (ms1 := 80) hC (c_X3_init _ G q290 K291 N292 I293 L294 R295 3 80 _ h) co_X3_init ⟨rfl, rfl⟩ ini_RX3 (host := RX11) (by decide +kernel) im_X3_init rfl dX11_init_274 (na := 0) (by decide) rfl (by rw [hRm]; exact ⟨Nat.le_of_ble_eq_true rfl, Nat.le_of_ble_eq_true rfl⟩) (by rw [hRm]; exact ⟨hm296a, hm296b⟩) rfl (Nat.le_of_ble_eq_true rfl) (z_kKv (K := K) (N := N) (I := I) (L := L) (R := R) (fun K297 N298 I299 L300 R301 h => ?_))
        obtain ⟨hk302, h⟩ := h
        obtain ⟨hi303, h⟩ := h
        obtain ⟨hk304, h⟩ := h
        refine z_aastore17 hC hk302 hi303 hk304 dX11_init_277 ?_
        refine z_genR (fun R305 eR305 => ?_)
        have h := h R305 eR305
        refine z_aload_n hC (q := 0) dX11_init_278 rfl rfl ?_
        obtain ⟨hk306, h⟩ := h
        obtain ⟨b307, hb307, h⟩ := h
        refine gf_RX11_97 hC dX11_init_279 hk306 hb307 ?_
        refine z_iload_n hC (q := 1) dX11_init_282 rfl rfl ?_
        obtain ⟨hm308a, hm308b, h⟩ := h
        refine z_new hC z_cls5 kl_RX11_55 inst_RX5 ini_RX5 dX11_init_283 (by rw [hRm]; exact ⟨hm308a, hm308b⟩) z_dfl5 (fun q309 hq309 => ?_)
        have h := h q309 hq309
        refine z_genK (fun K310 eK310 => ?_)
        have h := h K310 eK310
        refine z_genN (fun N311 eN311 => ?_)
        have h := h N311 eN311
        refine z_genI (fun I312 eI312 => ?_)
        have h := h I312 eI312
        refine z_genL (fun L313 eL313 => ?_)
        have h := h L313 eL313
        refine z_genR (fun R314 eR314 => ?_)
        have h := h R314 eR314
        refine z_dup hC rfl dX11_init_286 ?_
        obtain ⟨hm315a, hm315b, h⟩ := h
        refine z_callN (As := []) (mc1 := 4) (ms1 := 160) hC (c_X5_init _ G q309 K310 N311 I312 L313 R314 4 160 _ h) co_X5_init ⟨rfl, rfl⟩ ini_RX5 (host := RX11) (by decide +kernel) im_X5_init rfl dX11_init_287 (na := 0) (by decide) rfl (by rw [hRm]; exact ⟨Nat.le_of_ble_eq_true rfl, Nat.le_of_ble_eq_true rfl⟩) (by rw [hRm]; exact ⟨hm315a, hm315b⟩) rfl (Nat.le_of_ble_eq_true rfl) (z_kKv (K := K) (N := N) (I := I) (L := L) (R := R) (fun K316 N317 I318 L319 R320 h => ?_))
        obtain ⟨hk321, h⟩ := h
        obtain ⟨hi322, h⟩ := h
        obtain ⟨hk323, h⟩ := h
        refine z_aastore18 hC hk321 hi322 hk323 dX11_init_290 ?_
        refine z_genR (fun R324 eR324 => ?_)
        have h := h R324 eR324
        obtain ⟨v325, ev325⟩ : ∃ y : Int32, y = x1 + 1 := ⟨_, rfl⟩
        have h := h v325 ev325
        refine z_iinc hC (q := 1) (v := v325) (lv1 := [(1, .int v325), (0, .ref x0)]) dX11_init_291 rfl (by rw [ev325, k_iinc_1]) (by decide) rfl ?_
        refine z_goto hC (tgt := 243) dX11_init_294 (by decide) ?_
        exact z_sub [(0, .ref x0), (1, .int v325)] [1, 0] rfl (hC243 _ _ _ _ _ _ _ _ _ h)
  exact key n x0 x1 mc ms K N I L R h0
set_option maxHeartbeats 4000000 in
set_option maxRecDepth 100000 in
theorem z_X11_init_213 {X : ZX} {G : ZG} {x0 : Nat} {x1 : Int32}  {K : MK} {N : MK} {I : MI} {L : ML} {R : MR} {mc : Nat} {ms : Nat} {MC MS : Nat} {Q : MK → MK → MI → ML → MR → Prop} (hC : ZOk X G RX11 cX11_init 2 none) (hRm : X.2.2.2.1 = { frames := 4, cells := MC, slots := MS, locals := 74 }) (hi : X.2.2.2.2.2.2.2.2.1.name = "<init>") (h : w_X11_init_213 x0 x1 K N I L R mc ms MC MS Q) : Z X G 2 mc ms (z_T X G (qKv Q) MC MS) K N I L R 213 [(0, .ref x0), (1, .int x1)] [] := by
  delta w_X11_init_213 at h
  obtain ⟨J, ⟨n, h0⟩, hs⟩ := h
  have key : ∀ (n : Nat) (x0 : Nat) (x1 : Int32) (mc : Nat) (ms : Nat) (K : MK) (N : MK) (I : MI) (L : ML) (R : MR), J n x0 x1 mc ms K N I L R → Z X G 2 mc ms (z_T X G (qKv Q) MC MS) K N I L R 213 [(0, .ref x0), (1, .int x1)] [] := by
    intro n
    induction n using Nat.strongRecOn with
    | _ n ih =>
      intro x0 x1 mc ms K N I L R hJ
      have hC213 : ∀ (y0 : Nat) (y1 : Int32) (zmc : Nat) (zms : Nat) (zK : MK) (zN : MK) (zI : MI) (zL : ML) (zR : MR), (∃ n1, n1 < n ∧ J n1 y0 y1 zmc zms zK zN zI zL zR) → Z X G 2 zmc zms (z_T X G (qKv Q) MC MS) zK zN zI zL zR 213 [(0, .ref y0), (1, .int y1)] [] := fun y0 y1 zmc zms zK zN zI zL zR ⟨n1, hn1, hj⟩ => ih n1 hn1 y0 y1 zmc zms zK zN zI zL zR hj
      have h := hs n x0 x1 mc ms K N I L R hJ
      refine z_iload_n hC (q := 1) dX11_init_213 rfl rfl ?_
      refine z_aload_n hC (q := 0) dX11_init_214 rfl rfl ?_
      obtain ⟨hk262, h⟩ := h
      obtain ⟨b263, hb263, h⟩ := h
      refine gf_RX11_33 hC dX11_init_215 hk262 hb263 ?_
      obtain ⟨hk264, h⟩ := h
      refine z_alen17 hC hk264 dX11_init_218 ?_
      refine z_icmp_ge hC (tgt := 241) dX11_init_219 (by decide) (fun hc => ?_) (fun hc => ?_)
      · have h := h.1 hc
        refine z_iconst hC (v := 0) k_iconst_0 dX11_init_241 ?_
        refine z_istore_n hC (lv1 := [(1, .int 0), (0, .ref x0)]) dX11_init_242 rfl (by decide) rfl ?_
        exact z_sub [(0, .ref x0), (1, .int 0)] [1, 0] rfl (z_X11_init_243 hC hRm hi h)
      · have h := h.2 hc
        refine z_aload_n hC (q := 0) dX11_init_222 rfl rfl ?_
        refine gf_RX11_33 hC dX11_init_223 hk262 hb263 ?_
        refine z_iload_n hC (q := 1) dX11_init_226 rfl rfl ?_
        obtain ⟨hm326a, hm326b, h⟩ := h
        refine z_new hC z_cls3 kl_RX11_23 inst_RX3 ini_RX3 dX11_init_227 (by rw [hRm]; exact ⟨hm326a, hm326b⟩) z_dfl3 (fun q327 hq327 => ?_)
        have h := h q327 hq327
        refine z_genK (fun K328 eK328 => ?_)
        have h := h K328 eK328
        refine z_genN (fun N329 eN329 => ?_)
        have h := h N329 eN329
        refine z_genI (fun I330 eI330 => ?_)
        have h := h I330 eI330
        refine z_genL (fun L331 eL331 => ?_)
        have h := h L331 eL331
        refine z_genR (fun R332 eR332 => ?_)
        have h := h R332 eR332
        refine z_dup hC rfl dX11_init_230 ?_
        obtain ⟨hm333a, hm333b, h⟩ := h
        refine z_callN (As := []) (mc1 := 3) (ms1 := 80) hC (c_X3_init _ G q327 K328 N329 I330 L331 R332 3 80 _ h) co_X3_init ⟨rfl, rfl⟩ ini_RX3 (host := RX11) (by decide +kernel) im_X3_init rfl dX11_init_231 (na := 0) (by decide) rfl (by rw [hRm]; exact ⟨Nat.le_of_ble_eq_true rfl, Nat.le_of_ble_eq_true rfl⟩) (by rw [hRm]; exact ⟨hm333a, hm333b⟩) rfl (Nat.le_of_ble_eq_true rfl) (z_kKv (K := K) (N := N) (I := I) (L := L) (R := R) (fun K334 N335 I336 L337 R338 h => ?_))
        obtain ⟨hk339, h⟩ := h
        obtain ⟨hi340, h⟩ := h
        obtain ⟨hk341, h⟩ := h
        refine z_aastore17 hC hk339 hi340 hk341 dX11_init_234 ?_
        refine z_genR (fun R342 eR342 => ?_)
        have h := h R342 eR342
        obtain ⟨v343, ev343⟩ : ∃ y : Int32, y = x1 + 1 := ⟨_, rfl⟩
        have h := h v343 ev343
        refine z_iinc hC (q := 1) (v := v343) (lv1 := [(1, .int v343), (0, .ref x0)]) dX11_init_235 rfl (by rw [ev343, k_iinc_1]) (by decide) rfl ?_
        refine z_goto hC (tgt := 213) dX11_init_238 (by decide) ?_
        exact z_sub [(0, .ref x0), (1, .int v343)] [1, 0] rfl (hC213 _ _ _ _ _ _ _ _ _ h)
  exact key n x0 x1 mc ms K N I L R h0
set_option maxHeartbeats 4000000 in
set_option maxRecDepth 100000 in
theorem z_X11_init_198 {X : ZX} {G : ZG} {x0 : Nat}  {K : MK} {N : MK} {I : MI} {L : ML} {R : MR} {mc : Nat} {ms : Nat} {MC MS : Nat} {Q : MK → MK → MI → ML → MR → Prop} (hC : ZOk X G RX11 cX11_init 2 none) (hRm : X.2.2.2.1 = { frames := 4, cells := MC, slots := MS, locals := 74 }) (hi : X.2.2.2.2.2.2.2.2.1.name = "<init>") (h : w_X11_init_198 x0 K N I L R mc ms MC MS Q) : Z X G 2 mc ms (z_T X G (qKv Q) MC MS) K N I L R 198 [(0, .ref x0)] [] := by
  delta w_X11_init_198 at h
  refine z_aload_n hC (q := 0) dX11_init_198 rfl rfl ?_
  obtain ⟨hm247a, hm247b, h⟩ := h
  refine z_new hC z_cls7 kl_RX11_105 inst_RX7 ini_RX7 dX11_init_199 (by rw [hRm]; exact ⟨hm247a, hm247b⟩) z_dfl7 (fun q248 hq248 => ?_)
  have h := h q248 hq248
  refine z_genK (fun K249 eK249 => ?_)
  have h := h K249 eK249
  refine z_genN (fun N250 eN250 => ?_)
  have h := h N250 eN250
  refine z_genI (fun I251 eI251 => ?_)
  have h := h I251 eI251
  refine z_genL (fun L252 eL252 => ?_)
  have h := h L252 eL252
  refine z_genR (fun R253 eR253 => ?_)
  have h := h R253 eR253
  refine z_dup hC rfl dX11_init_202 ?_
  refine z_iconst hC (v := 1) k_iconst_1 dX11_init_203 ?_
  refine z_iconst hC (v := 4) k_iconst_4 dX11_init_204 ?_
  obtain ⟨hm254a, hm254b, h⟩ := h
  refine z_callI (As := [.int 1, .int 4]) (mc1 := 2) (ms1 := 5) (r := none) hC (c_X7_init _ G q248 1 4 K249 N250 I251 L252 R253 2 5 _ h) co_X7_init ⟨rfl, rfl⟩ ini_RX7 ml_RX11_107 im_X7_init rfl dX11_init_205 (na := 2) (by decide) rfl (by rw [hRm]; exact ⟨Nat.le_of_ble_eq_true rfl, Nat.le_of_ble_eq_true rfl⟩) (by rw [hRm]; exact ⟨hm254a, hm254b⟩) rfl (Nat.le_of_ble_eq_true rfl) (z_kKv (K := K) (N := N) (I := I) (L := L) (R := R) (fun K255 N256 I257 L258 R259 h => ?_))
  obtain ⟨hk260, h⟩ := h
  refine pf_RX11_117 hC dX11_init_208 hk260 hi ?_
  refine z_genR (fun R261 eR261 => ?_)
  have h := h R261 eR261
  refine z_iconst hC (v := 0) k_iconst_0 dX11_init_211 ?_
  refine z_istore_n hC (lv1 := [(1, .int 0), (0, .ref x0)]) dX11_init_212 rfl (by decide) rfl ?_
  exact z_sub [(0, .ref x0), (1, .int 0)] [1, 0] rfl (z_X11_init_213 hC hRm hi h)
set_option maxHeartbeats 4000000 in
set_option maxRecDepth 100000 in
theorem z_X11_init_184 {X : ZX} {G : ZG} {x0 : Nat}  {K : MK} {N : MK} {I : MI} {L : ML} {R : MR} {mc : Nat} {ms : Nat} {MC MS : Nat} {Q : MK → MK → MI → ML → MR → Prop} (hC : ZOk X G RX11 cX11_init 2 none) (hRm : X.2.2.2.1 = { frames := 4, cells := MC, slots := MS, locals := 74 }) (hi : X.2.2.2.2.2.2.2.2.1.name = "<init>") (h : w_X11_init_184 x0 K N I L R mc ms MC MS Q) : Z X G 2 mc ms (z_T X G (qKv Q) MC MS) K N I L R 184 [(0, .ref x0)] [] := by
  delta w_X11_init_184 at h
  refine z_aload_n hC (q := 0) dX11_init_184 rfl rfl ?_
  obtain ⟨hm232a, hm232b, h⟩ := h
  refine z_new hC z_cls7 kl_RX11_105 inst_RX7 ini_RX7 dX11_init_185 (by rw [hRm]; exact ⟨hm232a, hm232b⟩) z_dfl7 (fun q233 hq233 => ?_)
  have h := h q233 hq233
  refine z_genK (fun K234 eK234 => ?_)
  have h := h K234 eK234
  refine z_genN (fun N235 eN235 => ?_)
  have h := h N235 eN235
  refine z_genI (fun I236 eI236 => ?_)
  have h := h I236 eI236
  refine z_genL (fun L237 eL237 => ?_)
  have h := h L237 eL237
  refine z_genR (fun R238 eR238 => ?_)
  have h := h R238 eR238
  refine z_dup hC rfl dX11_init_188 ?_
  refine z_bipush hC (v := 40) k_bipush_40 dX11_init_189 ?_
  refine z_iconst hC (v := 1) k_iconst_1 dX11_init_191 ?_
  obtain ⟨hm239a, hm239b, h⟩ := h
  refine z_callI (As := [.int 40, .int 1]) (mc1 := 2) (ms1 := 80) (r := none) hC (c_X7_init _ G q233 40 1 K234 N235 I236 L237 R238 2 80 _ h) co_X7_init ⟨rfl, rfl⟩ ini_RX7 ml_RX11_107 im_X7_init rfl dX11_init_192 (na := 2) (by decide) rfl (by rw [hRm]; exact ⟨Nat.le_of_ble_eq_true rfl, Nat.le_of_ble_eq_true rfl⟩) (by rw [hRm]; exact ⟨hm239a, hm239b⟩) rfl (Nat.le_of_ble_eq_true rfl) (z_kKv (K := K) (N := N) (I := I) (L := L) (R := R) (fun K240 N241 I242 L243 R244 h => ?_))
  obtain ⟨hk245, h⟩ := h
  refine pf_RX11_114 hC dX11_init_195 hk245 hi ?_
  refine z_genR (fun R246 eR246 => ?_)
  have h := h R246 eR246
  exact z_sub [(0, .ref x0)] [0] rfl (z_X11_init_198 hC hRm hi h)
set_option maxHeartbeats 4000000 in
set_option maxRecDepth 100000 in
theorem z_X11_init_170 {X : ZX} {G : ZG} {x0 : Nat}  {K : MK} {N : MK} {I : MI} {L : ML} {R : MR} {mc : Nat} {ms : Nat} {MC MS : Nat} {Q : MK → MK → MI → ML → MR → Prop} (hC : ZOk X G RX11 cX11_init 2 none) (hRm : X.2.2.2.1 = { frames := 4, cells := MC, slots := MS, locals := 74 }) (hi : X.2.2.2.2.2.2.2.2.1.name = "<init>") (h : w_X11_init_170 x0 K N I L R mc ms MC MS Q) : Z X G 2 mc ms (z_T X G (qKv Q) MC MS) K N I L R 170 [(0, .ref x0)] [] := by
  delta w_X11_init_170 at h
  refine z_aload_n hC (q := 0) dX11_init_170 rfl rfl ?_
  obtain ⟨hm217a, hm217b, h⟩ := h
  refine z_new hC z_cls7 kl_RX11_105 inst_RX7 ini_RX7 dX11_init_171 (by rw [hRm]; exact ⟨hm217a, hm217b⟩) z_dfl7 (fun q218 hq218 => ?_)
  have h := h q218 hq218
  refine z_genK (fun K219 eK219 => ?_)
  have h := h K219 eK219
  refine z_genN (fun N220 eN220 => ?_)
  have h := h N220 eN220
  refine z_genI (fun I221 eI221 => ?_)
  have h := h I221 eI221
  refine z_genL (fun L222 eL222 => ?_)
  have h := h L222 eL222
  refine z_genR (fun R223 eR223 => ?_)
  have h := h R223 eR223
  refine z_dup hC rfl dX11_init_174 ?_
  refine z_bipush hC (v := 10) k_bipush_10 dX11_init_175 ?_
  refine z_iconst hC (v := 2) k_iconst_2 dX11_init_177 ?_
  obtain ⟨hm224a, hm224b, h⟩ := h
  refine z_callI (As := [.int 10, .int 2]) (mc1 := 2) (ms1 := 30) (r := none) hC (c_X7_init _ G q218 10 2 K219 N220 I221 L222 R223 2 30 _ h) co_X7_init ⟨rfl, rfl⟩ ini_RX7 ml_RX11_107 im_X7_init rfl dX11_init_178 (na := 2) (by decide) rfl (by rw [hRm]; exact ⟨Nat.le_of_ble_eq_true rfl, Nat.le_of_ble_eq_true rfl⟩) (by rw [hRm]; exact ⟨hm224a, hm224b⟩) rfl (Nat.le_of_ble_eq_true rfl) (z_kKv (K := K) (N := N) (I := I) (L := L) (R := R) (fun K225 N226 I227 L228 R229 h => ?_))
  obtain ⟨hk230, h⟩ := h
  refine pf_RX11_110 hC dX11_init_181 hk230 hi ?_
  refine z_genR (fun R231 eR231 => ?_)
  have h := h R231 eR231
  exact z_sub [(0, .ref x0)] [0] rfl (z_X11_init_184 hC hRm hi h)
set_option maxHeartbeats 4000000 in
set_option maxRecDepth 100000 in
theorem z_X11_init_163 {X : ZX} {G : ZG} {x0 : Nat}  {K : MK} {N : MK} {I : MI} {L : ML} {R : MR} {mc : Nat} {ms : Nat} {MC MS : Nat} {Q : MK → MK → MI → ML → MR → Prop} (hC : ZOk X G RX11 cX11_init 2 none) (hRm : X.2.2.2.1 = { frames := 4, cells := MC, slots := MS, locals := 74 }) (hi : X.2.2.2.2.2.2.2.2.1.name = "<init>") (h : w_X11_init_163 x0 K N I L R mc ms MC MS Q) : Z X G 2 mc ms (z_T X G (qKv Q) MC MS) K N I L R 163 [(0, .ref x0)] [] := by
  delta w_X11_init_163 at h
  refine z_aload_n hC (q := 0) dX11_init_163 rfl rfl ?_
  refine z_iconst hC (v := 2) k_iconst_2 dX11_init_164 ?_
  obtain ⟨hl207a, hl207b, h⟩ := h
  obtain ⟨hm208a, hm208b, h⟩ := h
  refine z_newarr16 hC dX11_init_165 hl207a hl207b (by rw [hRm]; exact ⟨hm208a, hm208b⟩) (fun q209 hq209 => ?_)
  have h := h q209 hq209
  refine z_genK (fun K210 eK210 => ?_)
  have h := h K210 eK210
  refine z_genN (fun N211 eN211 => ?_)
  have h := h N211 eN211
  refine z_genI (fun I212 eI212 => ?_)
  have h := h I212 eI212
  refine z_genL (fun L213 eL213 => ?_)
  have h := h L213 eL213
  refine z_genR (fun R214 eR214 => ?_)
  have h := h R214 eR214
  obtain ⟨hk215, h⟩ := h
  refine pf_RX11_101 hC dX11_init_167 hk215 hi ?_
  refine z_genR (fun R216 eR216 => ?_)
  have h := h R216 eR216
  exact z_sub [(0, .ref x0)] [0] rfl (z_X11_init_170 hC hRm hi h)
set_option maxHeartbeats 4000000 in
set_option maxRecDepth 100000 in
theorem z_X11_init_155 {X : ZX} {G : ZG} {x0 : Nat}  {K : MK} {N : MK} {I : MI} {L : ML} {R : MR} {mc : Nat} {ms : Nat} {MC MS : Nat} {Q : MK → MK → MI → ML → MR → Prop} (hC : ZOk X G RX11 cX11_init 2 none) (hRm : X.2.2.2.1 = { frames := 4, cells := MC, slots := MS, locals := 74 }) (hi : X.2.2.2.2.2.2.2.2.1.name = "<init>") (h : w_X11_init_155 x0 K N I L R mc ms MC MS Q) : Z X G 2 mc ms (z_T X G (qKv Q) MC MS) K N I L R 155 [(0, .ref x0)] [] := by
  delta w_X11_init_155 at h
  refine z_aload_n hC (q := 0) dX11_init_155 rfl rfl ?_
  refine z_iconst hC (v := 2) k_iconst_2 dX11_init_156 ?_
  obtain ⟨hl197a, hl197b, h⟩ := h
  obtain ⟨hm198a, hm198b, h⟩ := h
  refine z_newarr18 hC kl_RX11_55 dX11_init_157 hl197a hl197b (by rw [hRm]; exact ⟨hm198a, hm198b⟩) (fun q199 hq199 => ?_)
  have h := h q199 hq199
  refine z_genK (fun K200 eK200 => ?_)
  have h := h K200 eK200
  refine z_genN (fun N201 eN201 => ?_)
  have h := h N201 eN201
  refine z_genI (fun I202 eI202 => ?_)
  have h := h I202 eI202
  refine z_genL (fun L203 eL203 => ?_)
  have h := h L203 eL203
  refine z_genR (fun R204 eR204 => ?_)
  have h := h R204 eR204
  obtain ⟨hk205, h⟩ := h
  refine pf_RX11_97 hC dX11_init_160 hk205 hi ?_
  refine z_genR (fun R206 eR206 => ?_)
  have h := h R206 eR206
  exact z_sub [(0, .ref x0)] [0] rfl (z_X11_init_163 hC hRm hi h)
set_option maxHeartbeats 4000000 in
set_option maxRecDepth 100000 in
theorem z_X11_init_147 {X : ZX} {G : ZG} {x0 : Nat}  {K : MK} {N : MK} {I : MI} {L : ML} {R : MR} {mc : Nat} {ms : Nat} {MC MS : Nat} {Q : MK → MK → MI → ML → MR → Prop} (hC : ZOk X G RX11 cX11_init 2 none) (hRm : X.2.2.2.1 = { frames := 4, cells := MC, slots := MS, locals := 74 }) (hi : X.2.2.2.2.2.2.2.2.1.name = "<init>") (h : w_X11_init_147 x0 K N I L R mc ms MC MS Q) : Z X G 2 mc ms (z_T X G (qKv Q) MC MS) K N I L R 147 [(0, .ref x0)] [] := by
  delta w_X11_init_147 at h
  refine z_aload_n hC (q := 0) dX11_init_147 rfl rfl ?_
  refine z_iconst hC (v := 2) k_iconst_2 dX11_init_148 ?_
  obtain ⟨hl187a, hl187b, h⟩ := h
  obtain ⟨hm188a, hm188b, h⟩ := h
  refine z_newarr17 hC kl_RX11_23 dX11_init_149 hl187a hl187b (by rw [hRm]; exact ⟨hm188a, hm188b⟩) (fun q189 hq189 => ?_)
  have h := h q189 hq189
  refine z_genK (fun K190 eK190 => ?_)
  have h := h K190 eK190
  refine z_genN (fun N191 eN191 => ?_)
  have h := h N191 eN191
  refine z_genI (fun I192 eI192 => ?_)
  have h := h I192 eI192
  refine z_genL (fun L193 eL193 => ?_)
  have h := h L193 eL193
  refine z_genR (fun R194 eR194 => ?_)
  have h := h R194 eR194
  obtain ⟨hk195, h⟩ := h
  refine pf_RX11_94 hC dX11_init_152 hk195 hi ?_
  refine z_genR (fun R196 eR196 => ?_)
  have h := h R196 eR196
  exact z_sub [(0, .ref x0)] [0] rfl (z_X11_init_155 hC hRm hi h)
set_option maxHeartbeats 4000000 in
set_option maxRecDepth 100000 in
theorem z_X11_init_139 {X : ZX} {G : ZG} {x0 : Nat}  {K : MK} {N : MK} {I : MI} {L : ML} {R : MR} {mc : Nat} {ms : Nat} {MC MS : Nat} {Q : MK → MK → MI → ML → MR → Prop} (hC : ZOk X G RX11 cX11_init 2 none) (hRm : X.2.2.2.1 = { frames := 4, cells := MC, slots := MS, locals := 74 }) (hi : X.2.2.2.2.2.2.2.2.1.name = "<init>") (h : w_X11_init_139 x0 K N I L R mc ms MC MS Q) : Z X G 2 mc ms (z_T X G (qKv Q) MC MS) K N I L R 139 [(0, .ref x0)] [] := by
  delta w_X11_init_139 at h
  refine z_aload_n hC (q := 0) dX11_init_139 rfl rfl ?_
  refine z_iconst hC (v := 2) k_iconst_2 dX11_init_140 ?_
  obtain ⟨hl177a, hl177b, h⟩ := h
  obtain ⟨hm178a, hm178b, h⟩ := h
  refine z_newarr19 hC kl_RX11_16 dX11_init_141 hl177a hl177b (by rw [hRm]; exact ⟨hm178a, hm178b⟩) (fun q179 hq179 => ?_)
  have h := h q179 hq179
  refine z_genK (fun K180 eK180 => ?_)
  have h := h K180 eK180
  refine z_genN (fun N181 eN181 => ?_)
  have h := h N181 eN181
  refine z_genI (fun I182 eI182 => ?_)
  have h := h I182 eI182
  refine z_genL (fun L183 eL183 => ?_)
  have h := h L183 eL183
  refine z_genR (fun R184 eR184 => ?_)
  have h := h R184 eR184
  obtain ⟨hk185, h⟩ := h
  refine pf_RX11_90 hC dX11_init_144 hk185 hi ?_
  refine z_genR (fun R186 eR186 => ?_)
  have h := h R186 eR186
  exact z_sub [(0, .ref x0)] [0] rfl (z_X11_init_147 hC hRm hi h)
set_option maxHeartbeats 4000000 in
set_option maxRecDepth 100000 in
theorem z_X11_init_128 {X : ZX} {G : ZG} {x0 : Nat}  {K : MK} {N : MK} {I : MI} {L : ML} {R : MR} {mc : Nat} {ms : Nat} {MC MS : Nat} {Q : MK → MK → MI → ML → MR → Prop} (hC : ZOk X G RX11 cX11_init 2 none) (hRm : X.2.2.2.1 = { frames := 4, cells := MC, slots := MS, locals := 74 }) (hi : X.2.2.2.2.2.2.2.2.1.name = "<init>") (h : w_X11_init_128 x0 K N I L R mc ms MC MS Q) : Z X G 2 mc ms (z_T X G (qKv Q) MC MS) K N I L R 128 [(0, .ref x0)] [] := by
  delta w_X11_init_128 at h
  refine z_aload_n hC (q := 0) dX11_init_128 rfl rfl ?_
  obtain ⟨hm162a, hm162b, h⟩ := h
  refine z_new hC z_cls4 kl_RX11_83 inst_RX4 ini_RX4 dX11_init_129 (by rw [hRm]; exact ⟨hm162a, hm162b⟩) z_dfl4 (fun q163 hq163 => ?_)
  have h := h q163 hq163
  refine z_genK (fun K164 eK164 => ?_)
  have h := h K164 eK164
  refine z_genN (fun N165 eN165 => ?_)
  have h := h N165 eN165
  refine z_genI (fun I166 eI166 => ?_)
  have h := h I166 eI166
  refine z_genL (fun L167 eL167 => ?_)
  have h := h L167 eL167
  refine z_genR (fun R168 eR168 => ?_)
  have h := h R168 eR168
  refine z_dup hC rfl dX11_init_132 ?_
  obtain ⟨hm169a, hm169b, h⟩ := h
  refine z_callN (As := []) (mc1 := 9) (ms1 := 554) hC (c_X4_init _ G q163 K164 N165 I166 L167 R168 9 554 _ h) co_X4_init ⟨rfl, rfl⟩ ini_RX4 (host := RX11) (by decide +kernel) im_X4_init rfl dX11_init_133 (na := 0) (by decide) rfl (by rw [hRm]; exact ⟨Nat.le_of_ble_eq_true rfl, Nat.le_of_ble_eq_true rfl⟩) (by rw [hRm]; exact ⟨hm169a, hm169b⟩) rfl (Nat.le_of_ble_eq_true rfl) (z_kKv (K := K) (N := N) (I := I) (L := L) (R := R) (fun K170 N171 I172 L173 R174 h => ?_))
  obtain ⟨hk175, h⟩ := h
  refine pf_RX11_86 hC dX11_init_136 hk175 hi ?_
  refine z_genR (fun R176 eR176 => ?_)
  have h := h R176 eR176
  exact z_sub [(0, .ref x0)] [0] rfl (z_X11_init_139 hC hRm hi h)
set_option maxHeartbeats 4000000 in
set_option maxRecDepth 100000 in
theorem z_X11_init_117 {X : ZX} {G : ZG} {x0 : Nat}  {K : MK} {N : MK} {I : MI} {L : ML} {R : MR} {mc : Nat} {ms : Nat} {MC MS : Nat} {Q : MK → MK → MI → ML → MR → Prop} (hC : ZOk X G RX11 cX11_init 2 none) (hRm : X.2.2.2.1 = { frames := 4, cells := MC, slots := MS, locals := 74 }) (hi : X.2.2.2.2.2.2.2.2.1.name = "<init>") (h : w_X11_init_117 x0 K N I L R mc ms MC MS Q) : Z X G 2 mc ms (z_T X G (qKv Q) MC MS) K N I L R 117 [(0, .ref x0)] [] := by
  delta w_X11_init_117 at h
  refine z_aload_n hC (q := 0) dX11_init_117 rfl rfl ?_
  obtain ⟨hm147a, hm147b, h⟩ := h
  refine z_new hC z_cls0 kl_RX11_76 inst_RX0 ini_RX0 dX11_init_118 (by rw [hRm]; exact ⟨hm147a, hm147b⟩) z_dfl0 (fun q148 hq148 => ?_)
  have h := h q148 hq148
  refine z_genK (fun K149 eK149 => ?_)
  have h := h K149 eK149
  refine z_genN (fun N150 eN150 => ?_)
  have h := h N150 eN150
  refine z_genI (fun I151 eI151 => ?_)
  have h := h I151 eI151
  refine z_genL (fun L152 eL152 => ?_)
  have h := h L152 eL152
  refine z_genR (fun R153 eR153 => ?_)
  have h := h R153 eR153
  refine z_dup hC rfl dX11_init_121 ?_
  obtain ⟨hm154a, hm154b, h⟩ := h
  refine z_callN (As := []) (mc1 := 3) (ms1 := 164) hC (c_X0_init _ G q148 K149 N150 I151 L152 R153 3 164 _ h) co_X0_init ⟨rfl, rfl⟩ ini_RX0 (host := RX11) (by decide +kernel) im_X0_init rfl dX11_init_122 (na := 0) (by decide) rfl (by rw [hRm]; exact ⟨Nat.le_of_ble_eq_true rfl, Nat.le_of_ble_eq_true rfl⟩) (by rw [hRm]; exact ⟨hm154a, hm154b⟩) rfl (Nat.le_of_ble_eq_true rfl) (z_kKv (K := K) (N := N) (I := I) (L := L) (R := R) (fun K155 N156 I157 L158 R159 h => ?_))
  obtain ⟨hk160, h⟩ := h
  refine pf_RX11_79 hC dX11_init_125 hk160 hi ?_
  refine z_genR (fun R161 eR161 => ?_)
  have h := h R161 eR161
  exact z_sub [(0, .ref x0)] [0] rfl (z_X11_init_128 hC hRm hi h)
set_option maxHeartbeats 4000000 in
set_option maxRecDepth 100000 in
theorem z_X11_init_106 {X : ZX} {G : ZG} {x0 : Nat}  {K : MK} {N : MK} {I : MI} {L : ML} {R : MR} {mc : Nat} {ms : Nat} {MC MS : Nat} {Q : MK → MK → MI → ML → MR → Prop} (hC : ZOk X G RX11 cX11_init 2 none) (hRm : X.2.2.2.1 = { frames := 4, cells := MC, slots := MS, locals := 74 }) (hi : X.2.2.2.2.2.2.2.2.1.name = "<init>") (h : w_X11_init_106 x0 K N I L R mc ms MC MS Q) : Z X G 2 mc ms (z_T X G (qKv Q) MC MS) K N I L R 106 [(0, .ref x0)] [] := by
  delta w_X11_init_106 at h
  refine z_aload_n hC (q := 0) dX11_init_106 rfl rfl ?_
  obtain ⟨hm132a, hm132b, h⟩ := h
  refine z_new hC z_cls6 kl_RX11_69 inst_RX6 ini_RX6 dX11_init_107 (by rw [hRm]; exact ⟨hm132a, hm132b⟩) z_dfl6 (fun q133 hq133 => ?_)
  have h := h q133 hq133
  refine z_genK (fun K134 eK134 => ?_)
  have h := h K134 eK134
  refine z_genN (fun N135 eN135 => ?_)
  have h := h N135 eN135
  refine z_genI (fun I136 eI136 => ?_)
  have h := h I136 eI136
  refine z_genL (fun L137 eL137 => ?_)
  have h := h L137 eL137
  refine z_genR (fun R138 eR138 => ?_)
  have h := h R138 eR138
  refine z_dup hC rfl dX11_init_110 ?_
  obtain ⟨hm139a, hm139b, h⟩ := h
  refine z_callN (As := []) (mc1 := 5) (ms1 := 166) hC (c_X6_init _ G q133 K134 N135 I136 L137 R138 5 166 _ h) co_X6_init ⟨rfl, rfl⟩ ini_RX6 (host := RX11) (by decide +kernel) im_X6_init rfl dX11_init_111 (na := 0) (by decide) rfl (by rw [hRm]; exact ⟨Nat.le_of_ble_eq_true rfl, Nat.le_of_ble_eq_true rfl⟩) (by rw [hRm]; exact ⟨hm139a, hm139b⟩) rfl (Nat.le_of_ble_eq_true rfl) (z_kKv (K := K) (N := N) (I := I) (L := L) (R := R) (fun K140 N141 I142 L143 R144 h => ?_))
  obtain ⟨hk145, h⟩ := h
  refine pf_RX11_72 hC dX11_init_114 hk145 hi ?_
  refine z_genR (fun R146 eR146 => ?_)
  have h := h R146 eR146
  exact z_sub [(0, .ref x0)] [0] rfl (z_X11_init_117 hC hRm hi h)
set_option maxHeartbeats 4000000 in
set_option maxRecDepth 100000 in
theorem z_X11_init_95 {X : ZX} {G : ZG} {x0 : Nat}  {K : MK} {N : MK} {I : MI} {L : ML} {R : MR} {mc : Nat} {ms : Nat} {MC MS : Nat} {Q : MK → MK → MI → ML → MR → Prop} (hC : ZOk X G RX11 cX11_init 2 none) (hRm : X.2.2.2.1 = { frames := 4, cells := MC, slots := MS, locals := 74 }) (hi : X.2.2.2.2.2.2.2.2.1.name = "<init>") (h : w_X11_init_95 x0 K N I L R mc ms MC MS Q) : Z X G 2 mc ms (z_T X G (qKv Q) MC MS) K N I L R 95 [(0, .ref x0)] [] := by
  delta w_X11_init_95 at h
  refine z_aload_n hC (q := 0) dX11_init_95 rfl rfl ?_
  obtain ⟨hm117a, hm117b, h⟩ := h
  refine z_new hC z_cls10 kl_RX11_62 inst_RX10 ini_RX10 dX11_init_96 (by rw [hRm]; exact ⟨hm117a, hm117b⟩) z_dfl10 (fun q118 hq118 => ?_)
  have h := h q118 hq118
  refine z_genK (fun K119 eK119 => ?_)
  have h := h K119 eK119
  refine z_genN (fun N120 eN120 => ?_)
  have h := h N120 eN120
  refine z_genI (fun I121 eI121 => ?_)
  have h := h I121 eI121
  refine z_genL (fun L122 eL122 => ?_)
  have h := h L122 eL122
  refine z_genR (fun R123 eR123 => ?_)
  have h := h R123 eR123
  refine z_dup hC rfl dX11_init_99 ?_
  obtain ⟨hm124a, hm124b, h⟩ := h
  refine z_callN (As := []) (mc1 := 16) (ms1 := 572) hC (c_X10_init _ G q118 K119 N120 I121 L122 R123 16 572 _ h) co_X10_init ⟨rfl, rfl⟩ ini_RX10 (host := RX11) (by decide +kernel) im_X10_init rfl dX11_init_100 (na := 0) (by decide) rfl (by rw [hRm]; exact ⟨Nat.le_of_ble_eq_true rfl, Nat.le_of_ble_eq_true rfl⟩) (by rw [hRm]; exact ⟨hm124a, hm124b⟩) rfl (Nat.le_of_ble_eq_true rfl) (z_kKv (K := K) (N := N) (I := I) (L := L) (R := R) (fun K125 N126 I127 L128 R129 h => ?_))
  obtain ⟨hk130, h⟩ := h
  refine pf_RX11_65 hC dX11_init_103 hk130 hi ?_
  refine z_genR (fun R131 eR131 => ?_)
  have h := h R131 eR131
  exact z_sub [(0, .ref x0)] [0] rfl (z_X11_init_106 hC hRm hi h)
set_option maxHeartbeats 4000000 in
set_option maxRecDepth 100000 in
theorem z_X11_init_84 {X : ZX} {G : ZG} {x0 : Nat}  {K : MK} {N : MK} {I : MI} {L : ML} {R : MR} {mc : Nat} {ms : Nat} {MC MS : Nat} {Q : MK → MK → MI → ML → MR → Prop} (hC : ZOk X G RX11 cX11_init 2 none) (hRm : X.2.2.2.1 = { frames := 4, cells := MC, slots := MS, locals := 74 }) (hi : X.2.2.2.2.2.2.2.2.1.name = "<init>") (h : w_X11_init_84 x0 K N I L R mc ms MC MS Q) : Z X G 2 mc ms (z_T X G (qKv Q) MC MS) K N I L R 84 [(0, .ref x0)] [] := by
  delta w_X11_init_84 at h
  refine z_aload_n hC (q := 0) dX11_init_84 rfl rfl ?_
  obtain ⟨hm102a, hm102b, h⟩ := h
  refine z_new hC z_cls5 kl_RX11_55 inst_RX5 ini_RX5 dX11_init_85 (by rw [hRm]; exact ⟨hm102a, hm102b⟩) z_dfl5 (fun q103 hq103 => ?_)
  have h := h q103 hq103
  refine z_genK (fun K104 eK104 => ?_)
  have h := h K104 eK104
  refine z_genN (fun N105 eN105 => ?_)
  have h := h N105 eN105
  refine z_genI (fun I106 eI106 => ?_)
  have h := h I106 eI106
  refine z_genL (fun L107 eL107 => ?_)
  have h := h L107 eL107
  refine z_genR (fun R108 eR108 => ?_)
  have h := h R108 eR108
  refine z_dup hC rfl dX11_init_88 ?_
  obtain ⟨hm109a, hm109b, h⟩ := h
  refine z_callN (As := []) (mc1 := 4) (ms1 := 160) hC (c_X5_init _ G q103 K104 N105 I106 L107 R108 4 160 _ h) co_X5_init ⟨rfl, rfl⟩ ini_RX5 (host := RX11) (by decide +kernel) im_X5_init rfl dX11_init_89 (na := 0) (by decide) rfl (by rw [hRm]; exact ⟨Nat.le_of_ble_eq_true rfl, Nat.le_of_ble_eq_true rfl⟩) (by rw [hRm]; exact ⟨hm109a, hm109b⟩) rfl (Nat.le_of_ble_eq_true rfl) (z_kKv (K := K) (N := N) (I := I) (L := L) (R := R) (fun K110 N111 I112 L113 R114 h => ?_))
  obtain ⟨hk115, h⟩ := h
  refine pf_RX11_58 hC dX11_init_92 hk115 hi ?_
  refine z_genR (fun R116 eR116 => ?_)
  have h := h R116 eR116
  exact z_sub [(0, .ref x0)] [0] rfl (z_X11_init_95 hC hRm hi h)
set_option maxHeartbeats 4000000 in
set_option maxRecDepth 100000 in
theorem z_X11_init_73 {X : ZX} {G : ZG} {x0 : Nat}  {K : MK} {N : MK} {I : MI} {L : ML} {R : MR} {mc : Nat} {ms : Nat} {MC MS : Nat} {Q : MK → MK → MI → ML → MR → Prop} (hC : ZOk X G RX11 cX11_init 2 none) (hRm : X.2.2.2.1 = { frames := 4, cells := MC, slots := MS, locals := 74 }) (hi : X.2.2.2.2.2.2.2.2.1.name = "<init>") (h : w_X11_init_73 x0 K N I L R mc ms MC MS Q) : Z X G 2 mc ms (z_T X G (qKv Q) MC MS) K N I L R 73 [(0, .ref x0)] [] := by
  delta w_X11_init_73 at h
  refine z_aload_n hC (q := 0) dX11_init_73 rfl rfl ?_
  obtain ⟨hm87a, hm87b, h⟩ := h
  refine z_new hC z_cls1 kl_RX11_48 inst_RX1 ini_RX1 dX11_init_74 (by rw [hRm]; exact ⟨hm87a, hm87b⟩) z_dfl1 (fun q88 hq88 => ?_)
  have h := h q88 hq88
  refine z_genK (fun K89 eK89 => ?_)
  have h := h K89 eK89
  refine z_genN (fun N90 eN90 => ?_)
  have h := h N90 eN90
  refine z_genI (fun I91 eI91 => ?_)
  have h := h I91 eI91
  refine z_genL (fun L92 eL92 => ?_)
  have h := h L92 eL92
  refine z_genR (fun R93 eR93 => ?_)
  have h := h R93 eR93
  refine z_dup hC rfl dX11_init_77 ?_
  obtain ⟨hm94a, hm94b, h⟩ := h
  refine z_callN (As := []) (mc1 := 0) (ms1 := 0) hC (c_X1_init _ G q88 K89 N90 I91 L92 R93 0 0 _ h) co_X1_init ⟨rfl, rfl⟩ ini_RX1 (host := RX11) (by decide +kernel) im_X1_init rfl dX11_init_78 (na := 0) (by decide) rfl (by rw [hRm]; exact ⟨Nat.le_of_ble_eq_true rfl, Nat.le_of_ble_eq_true rfl⟩) (by rw [hRm]; exact ⟨hm94a, hm94b⟩) rfl (Nat.le_of_ble_eq_true rfl) (z_kKv (K := K) (N := N) (I := I) (L := L) (R := R) (fun K95 N96 I97 L98 R99 h => ?_))
  obtain ⟨hk100, h⟩ := h
  refine pf_RX11_51 hC dX11_init_81 hk100 hi ?_
  refine z_genR (fun R101 eR101 => ?_)
  have h := h R101 eR101
  exact z_sub [(0, .ref x0)] [0] rfl (z_X11_init_84 hC hRm hi h)
set_option maxHeartbeats 4000000 in
set_option maxRecDepth 100000 in
theorem z_X11_init_62 {X : ZX} {G : ZG} {x0 : Nat}  {K : MK} {N : MK} {I : MI} {L : ML} {R : MR} {mc : Nat} {ms : Nat} {MC MS : Nat} {Q : MK → MK → MI → ML → MR → Prop} (hC : ZOk X G RX11 cX11_init 2 none) (hRm : X.2.2.2.1 = { frames := 4, cells := MC, slots := MS, locals := 74 }) (hi : X.2.2.2.2.2.2.2.2.1.name = "<init>") (h : w_X11_init_62 x0 K N I L R mc ms MC MS Q) : Z X G 2 mc ms (z_T X G (qKv Q) MC MS) K N I L R 62 [(0, .ref x0)] [] := by
  delta w_X11_init_62 at h
  refine z_aload_n hC (q := 0) dX11_init_62 rfl rfl ?_
  obtain ⟨hm72a, hm72b, h⟩ := h
  refine z_new hC z_cls2 kl_RX11_41 inst_RX2 ini_RX2 dX11_init_63 (by rw [hRm]; exact ⟨hm72a, hm72b⟩) z_dfl2 (fun q73 hq73 => ?_)
  have h := h q73 hq73
  refine z_genK (fun K74 eK74 => ?_)
  have h := h K74 eK74
  refine z_genN (fun N75 eN75 => ?_)
  have h := h N75 eN75
  refine z_genI (fun I76 eI76 => ?_)
  have h := h I76 eI76
  refine z_genL (fun L77 eL77 => ?_)
  have h := h L77 eL77
  refine z_genR (fun R78 eR78 => ?_)
  have h := h R78 eR78
  refine z_dup hC rfl dX11_init_66 ?_
  obtain ⟨hm79a, hm79b, h⟩ := h
  refine z_callN (As := []) (mc1 := 1) (ms1 := 8) hC (c_X2_init _ G q73 K74 N75 I76 L77 R78 1 8 _ h) co_X2_init ⟨rfl, rfl⟩ ini_RX2 (host := RX11) (by decide +kernel) im_X2_init rfl dX11_init_67 (na := 0) (by decide) rfl (by rw [hRm]; exact ⟨Nat.le_of_ble_eq_true rfl, Nat.le_of_ble_eq_true rfl⟩) (by rw [hRm]; exact ⟨hm79a, hm79b⟩) rfl (Nat.le_of_ble_eq_true rfl) (z_kKv (K := K) (N := N) (I := I) (L := L) (R := R) (fun K80 N81 I82 L83 R84 h => ?_))
  obtain ⟨hk85, h⟩ := h
  refine pf_RX11_44 hC dX11_init_70 hk85 hi ?_
  refine z_genR (fun R86 eR86 => ?_)
  have h := h R86 eR86
  exact z_sub [(0, .ref x0)] [0] rfl (z_X11_init_73 hC hRm hi h)
set_option maxHeartbeats 4000000 in
set_option maxRecDepth 100000 in
theorem z_X11_init_48 {X : ZX} {G : ZG} {x0 : Nat}  {K : MK} {N : MK} {I : MI} {L : ML} {R : MR} {mc : Nat} {ms : Nat} {MC MS : Nat} {Q : MK → MK → MI → ML → MR → Prop} (hC : ZOk X G RX11 cX11_init 2 none) (hRm : X.2.2.2.1 = { frames := 4, cells := MC, slots := MS, locals := 74 }) (hi : X.2.2.2.2.2.2.2.2.1.name = "<init>") (h : w_X11_init_48 x0 K N I L R mc ms MC MS Q) : Z X G 2 mc ms (z_T X G (qKv Q) MC MS) K N I L R 48 [(0, .ref x0)] [] := by
  delta w_X11_init_48 at h
  refine z_aload_n hC (q := 0) dX11_init_48 rfl rfl ?_
  refine z_bipush hC (v := 8) k_bipush_8 dX11_init_49 ?_
  obtain ⟨hl61a, hl61b, h⟩ := h
  obtain ⟨hm62a, hm62b, h⟩ := h
  refine z_newarr17 hC kl_RX11_23 dX11_init_51 hl61a hl61b (by rw [hRm]; exact ⟨hm62a, hm62b⟩) (fun q63 hq63 => ?_)
  have h := h q63 hq63
  refine z_genK (fun K64 eK64 => ?_)
  have h := h K64 eK64
  refine z_genN (fun N65 eN65 => ?_)
  have h := h N65 eN65
  refine z_genI (fun I66 eI66 => ?_)
  have h := h I66 eI66
  refine z_genL (fun L67 eL67 => ?_)
  have h := h L67 eL67
  refine z_genR (fun R68 eR68 => ?_)
  have h := h R68 eR68
  obtain ⟨hk69, h⟩ := h
  refine pf_RX11_33 hC dX11_init_54 hk69 hi ?_
  refine z_genR (fun R70 eR70 => ?_)
  have h := h R70 eR70
  refine z_aload_n hC (q := 0) dX11_init_57 rfl rfl ?_
  refine z_iconst hC (v := 0) k_iconst_0 dX11_init_58 ?_
  refine pf_RX11_37 hC dX11_init_59 hk69 ?_
  refine z_genI (fun I71 eI71 => ?_)
  have h := h I71 eI71
  exact z_sub [(0, .ref x0)] [0] rfl (z_X11_init_62 hC hRm hi h)
set_option maxHeartbeats 4000000 in
set_option maxRecDepth 100000 in
theorem z_X11_init_37 {X : ZX} {G : ZG} {x0 : Nat}  {K : MK} {N : MK} {I : MI} {L : ML} {R : MR} {mc : Nat} {ms : Nat} {MC MS : Nat} {Q : MK → MK → MI → ML → MR → Prop} (hC : ZOk X G RX11 cX11_init 2 none) (hRm : X.2.2.2.1 = { frames := 4, cells := MC, slots := MS, locals := 74 }) (hi : X.2.2.2.2.2.2.2.2.1.name = "<init>") (h : w_X11_init_37 x0 K N I L R mc ms MC MS Q) : Z X G 2 mc ms (z_T X G (qKv Q) MC MS) K N I L R 37 [(0, .ref x0)] [] := by
  delta w_X11_init_37 at h
  refine z_aload_n hC (q := 0) dX11_init_37 rfl rfl ?_
  obtain ⟨hm46a, hm46b, h⟩ := h
  refine z_new hC z_cls3 kl_RX11_23 inst_RX3 ini_RX3 dX11_init_38 (by rw [hRm]; exact ⟨hm46a, hm46b⟩) z_dfl3 (fun q47 hq47 => ?_)
  have h := h q47 hq47
  refine z_genK (fun K48 eK48 => ?_)
  have h := h K48 eK48
  refine z_genN (fun N49 eN49 => ?_)
  have h := h N49 eN49
  refine z_genI (fun I50 eI50 => ?_)
  have h := h I50 eI50
  refine z_genL (fun L51 eL51 => ?_)
  have h := h L51 eL51
  refine z_genR (fun R52 eR52 => ?_)
  have h := h R52 eR52
  refine z_dup hC rfl dX11_init_41 ?_
  obtain ⟨hm53a, hm53b, h⟩ := h
  refine z_callN (As := []) (mc1 := 3) (ms1 := 80) hC (c_X3_init _ G q47 K48 N49 I50 L51 R52 3 80 _ h) co_X3_init ⟨rfl, rfl⟩ ini_RX3 (host := RX11) (by decide +kernel) im_X3_init rfl dX11_init_42 (na := 0) (by decide) rfl (by rw [hRm]; exact ⟨Nat.le_of_ble_eq_true rfl, Nat.le_of_ble_eq_true rfl⟩) (by rw [hRm]; exact ⟨hm53a, hm53b⟩) rfl (Nat.le_of_ble_eq_true rfl) (z_kKv (K := K) (N := N) (I := I) (L := L) (R := R) (fun K54 N55 I56 L57 R58 h => ?_))
  obtain ⟨hk59, h⟩ := h
  refine pf_RX11_30 hC dX11_init_45 hk59 hi ?_
  refine z_genR (fun R60 eR60 => ?_)
  have h := h R60 eR60
  exact z_sub [(0, .ref x0)] [0] rfl (z_X11_init_48 hC hRm hi h)
set_option maxHeartbeats 4000000 in
set_option maxRecDepth 100000 in
theorem z_X11_init_26 {X : ZX} {G : ZG} {x0 : Nat}  {K : MK} {N : MK} {I : MI} {L : ML} {R : MR} {mc : Nat} {ms : Nat} {MC MS : Nat} {Q : MK → MK → MI → ML → MR → Prop} (hC : ZOk X G RX11 cX11_init 2 none) (hRm : X.2.2.2.1 = { frames := 4, cells := MC, slots := MS, locals := 74 }) (hi : X.2.2.2.2.2.2.2.2.1.name = "<init>") (h : w_X11_init_26 x0 K N I L R mc ms MC MS Q) : Z X G 2 mc ms (z_T X G (qKv Q) MC MS) K N I L R 26 [(0, .ref x0)] [] := by
  delta w_X11_init_26 at h
  refine z_aload_n hC (q := 0) dX11_init_26 rfl rfl ?_
  obtain ⟨hm31a, hm31b, h⟩ := h
  refine z_new hC z_cls3 kl_RX11_23 inst_RX3 ini_RX3 dX11_init_27 (by rw [hRm]; exact ⟨hm31a, hm31b⟩) z_dfl3 (fun q32 hq32 => ?_)
  have h := h q32 hq32
  refine z_genK (fun K33 eK33 => ?_)
  have h := h K33 eK33
  refine z_genN (fun N34 eN34 => ?_)
  have h := h N34 eN34
  refine z_genI (fun I35 eI35 => ?_)
  have h := h I35 eI35
  refine z_genL (fun L36 eL36 => ?_)
  have h := h L36 eL36
  refine z_genR (fun R37 eR37 => ?_)
  have h := h R37 eR37
  refine z_dup hC rfl dX11_init_30 ?_
  obtain ⟨hm38a, hm38b, h⟩ := h
  refine z_callN (As := []) (mc1 := 3) (ms1 := 80) hC (c_X3_init _ G q32 K33 N34 I35 L36 R37 3 80 _ h) co_X3_init ⟨rfl, rfl⟩ ini_RX3 (host := RX11) (by decide +kernel) im_X3_init rfl dX11_init_31 (na := 0) (by decide) rfl (by rw [hRm]; exact ⟨Nat.le_of_ble_eq_true rfl, Nat.le_of_ble_eq_true rfl⟩) (by rw [hRm]; exact ⟨hm38a, hm38b⟩) rfl (Nat.le_of_ble_eq_true rfl) (z_kKv (K := K) (N := N) (I := I) (L := L) (R := R) (fun K39 N40 I41 L42 R43 h => ?_))
  obtain ⟨hk44, h⟩ := h
  refine pf_RX11_26 hC dX11_init_34 hk44 hi ?_
  refine z_genR (fun R45 eR45 => ?_)
  have h := h R45 eR45
  exact z_sub [(0, .ref x0)] [0] rfl (z_X11_init_37 hC hRm hi h)
set_option maxHeartbeats 4000000 in
set_option maxRecDepth 100000 in
theorem z_X11_init_15 {X : ZX} {G : ZG} {x0 : Nat}  {K : MK} {N : MK} {I : MI} {L : ML} {R : MR} {mc : Nat} {ms : Nat} {MC MS : Nat} {Q : MK → MK → MI → ML → MR → Prop} (hC : ZOk X G RX11 cX11_init 2 none) (hRm : X.2.2.2.1 = { frames := 4, cells := MC, slots := MS, locals := 74 }) (hi : X.2.2.2.2.2.2.2.2.1.name = "<init>") (h : w_X11_init_15 x0 K N I L R mc ms MC MS Q) : Z X G 2 mc ms (z_T X G (qKv Q) MC MS) K N I L R 15 [(0, .ref x0)] [] := by
  delta w_X11_init_15 at h
  refine z_aload_n hC (q := 0) dX11_init_15 rfl rfl ?_
  obtain ⟨hm16a, hm16b, h⟩ := h
  refine z_new hC z_cls9 kl_RX11_16 inst_RX9 ini_RX9 dX11_init_16 (by rw [hRm]; exact ⟨hm16a, hm16b⟩) z_dfl9 (fun q17 hq17 => ?_)
  have h := h q17 hq17
  refine z_genK (fun K18 eK18 => ?_)
  have h := h K18 eK18
  refine z_genN (fun N19 eN19 => ?_)
  have h := h N19 eN19
  refine z_genI (fun I20 eI20 => ?_)
  have h := h I20 eI20
  refine z_genL (fun L21 eL21 => ?_)
  have h := h L21 eL21
  refine z_genR (fun R22 eR22 => ?_)
  have h := h R22 eR22
  refine z_dup hC rfl dX11_init_19 ?_
  obtain ⟨hm23a, hm23b, h⟩ := h
  refine z_callN (As := []) (mc1 := 15) (ms1 := 566) hC (c_X9_init _ G q17 K18 N19 I20 L21 R22 15 566 _ h) co_X9_init ⟨rfl, rfl⟩ ini_RX9 (host := RX11) (by decide +kernel) im_X9_init rfl dX11_init_20 (na := 0) (by decide) rfl (by rw [hRm]; exact ⟨Nat.le_of_ble_eq_true rfl, Nat.le_of_ble_eq_true rfl⟩) (by rw [hRm]; exact ⟨hm23a, hm23b⟩) rfl (Nat.le_of_ble_eq_true rfl) (z_kKv (K := K) (N := N) (I := I) (L := L) (R := R) (fun K24 N25 I26 L27 R28 h => ?_))
  obtain ⟨hk29, h⟩ := h
  refine pf_RX11_19 hC dX11_init_23 hk29 hi ?_
  refine z_genR (fun R30 eR30 => ?_)
  have h := h R30 eR30
  exact z_sub [(0, .ref x0)] [0] rfl (z_X11_init_26 hC hRm hi h)
set_option maxHeartbeats 4000000 in
set_option maxRecDepth 100000 in
theorem z_X11_init_4 {X : ZX} {G : ZG} {x0 : Nat}  {K : MK} {N : MK} {I : MI} {L : ML} {R : MR} {mc : Nat} {ms : Nat} {MC MS : Nat} {Q : MK → MK → MI → ML → MR → Prop} (hC : ZOk X G RX11 cX11_init 2 none) (hRm : X.2.2.2.1 = { frames := 4, cells := MC, slots := MS, locals := 74 }) (hi : X.2.2.2.2.2.2.2.2.1.name = "<init>") (h : w_X11_init_4 x0 K N I L R mc ms MC MS Q) : Z X G 2 mc ms (z_T X G (qKv Q) MC MS) K N I L R 4 [(0, .ref x0)] [] := by
  delta w_X11_init_4 at h
  refine z_aload_n hC (q := 0) dX11_init_4 rfl rfl ?_
  obtain ⟨hm1a, hm1b, h⟩ := h
  refine z_new hC z_cls8 kl_RX11_7 inst_RX8 ini_RX8 dX11_init_5 (by rw [hRm]; exact ⟨hm1a, hm1b⟩) z_dfl8 (fun q2 hq2 => ?_)
  have h := h q2 hq2
  refine z_genK (fun K3 eK3 => ?_)
  have h := h K3 eK3
  refine z_genN (fun N4 eN4 => ?_)
  have h := h N4 eN4
  refine z_genI (fun I5 eI5 => ?_)
  have h := h I5 eI5
  refine z_genL (fun L6 eL6 => ?_)
  have h := h L6 eL6
  refine z_genR (fun R7 eR7 => ?_)
  have h := h R7 eR7
  refine z_dup hC rfl dX11_init_8 ?_
  obtain ⟨hm8a, hm8b, h⟩ := h
  refine z_callN (As := []) (mc1 := 1) (ms1 := 940) hC (c_X8_init _ G q2 K3 N4 I5 L6 R7 1 940 _ h) co_X8_init ⟨rfl, rfl⟩ ini_RX8 (host := RX11) (by decide +kernel) im_X8_init rfl dX11_init_9 (na := 0) (by decide) rfl (by rw [hRm]; exact ⟨Nat.le_of_ble_eq_true rfl, Nat.le_of_ble_eq_true rfl⟩) (by rw [hRm]; exact ⟨hm8a, hm8b⟩) rfl (Nat.le_of_ble_eq_true rfl) (z_kKv (K := K) (N := N) (I := I) (L := L) (R := R) (fun K9 N10 I11 L12 R13 h => ?_))
  obtain ⟨hk14, h⟩ := h
  refine pf_RX11_10 hC dX11_init_12 hk14 hi ?_
  refine z_genR (fun R15 eR15 => ?_)
  have h := h R15 eR15
  exact z_sub [(0, .ref x0)] [0] rfl (z_X11_init_15 hC hRm hi h)
set_option maxHeartbeats 4000000 in
set_option maxRecDepth 100000 in
theorem c_X11_init (l : Launch) (G : ZG) (a0 : Nat) (K : MK) (N : MK) (I : MI) (L : ML) (R : MR) (MC MS : Nat) (Q : MK → MK → MI → ML → MR → Prop) (h : w_X11_init a0 K N I L R MC MS Q) : Met l yX11_init (.code yX11_init cX11_init 2 none :: z_tbl) { frames := 4, cells := MC, slots := MS, locals := 74 } (z_Pc G [.ref a0] K N I L R) (z_Qc G (qKv Q)) MC MS (z_A G) := by
  refine z_met (by decide) (Nat.le_of_ble_eq_true rfl) (fun X hX hRm hC0 hnm => ?_)
  subst hX
  have hi : X.2.2.2.2.2.2.2.2.1.name = "<init>" := hnm
  have hC : ZOk X G RX11 cX11_init 2 none := hC0
  show Z X G 2 0 0 _ K N I L R 0 [(0, .ref a0)] []
  delta w_X11_init at h
  refine z_aload_n hC (q := 0) dX11_init_0 rfl rfl ?_
  refine z_objInit hC ml_RX11_1 dX11_init_1 (by rw [hRm]; exact ⟨Nat.le_of_ble_eq_true rfl, Nat.le_of_ble_eq_true rfl⟩) (Nat.le_of_ble_eq_true rfl) ?_
  exact z_sub [(0, .ref a0)] [0] rfl (z_X11_init_4 hC hRm hi h)
def w_X12_init_200 (x0 : Nat)  (K : MK) (N : MK) (I : MI) (L : ML) (R : MR) (mc : Nat) (ms : Nat) (MC MS : Nat)  (Q : MK → MK → MI → ML → MR → Prop) : Prop := ¬ (240 : Int32) < 0 ∧ (ix 240) ≤ 60000 ∧ mc + 1 ≤ MC ∧ ms + (ix 240) ≤ MS ∧ ∀ q243 : Nat, q243 = N 0 → ∀ K244 : MK, K244 = kup K q243 14 → ∀ N245 : MK, N245 = kup (kup N q243 (ix 240)) 0 (N 0 + 1) → ∀ I246 : MI, I246 = mfr I q243 0 → ∀ L247 : ML, L247 = mfr L q243 0 → ∀ R248 : MR, R248 = mfr R q243 none → K244 x0 = 13 ∧ ∀ R250 : MR, R250 = mup R248 x0 53 (some q243) → ∃ b251 : Nat, R250 x0 14 = some b251 ∧ K244 b251 = 14 ∧ vp_in 0 (N245 b251) ∧ ∀ I254 : MI, I254 = mup I246 b251 (ix 0) 256 → (mc + 1) ≤ MC ∧ (ms + (ix 240)) ≤ MS ∧ Q K244 N245 I254 L247 R250
def w_X12_init_193 (x0 : Nat)  (K : MK) (N : MK) (I : MI) (L : ML) (R : MR) (mc : Nat) (ms : Nat) (MC MS : Nat)  (Q : MK → MK → MI → ML → MR → Prop) : Prop := ¬ (4 : Int32) < 0 ∧ (ix 4) ≤ 60000 ∧ mc + 1 ≤ MC ∧ ms + (ix 4) ≤ MS ∧ ∀ q233 : Nat, q233 = N 0 → ∀ K234 : MK, K234 = kup K q233 14 → ∀ N235 : MK, N235 = kup (kup N q233 (ix 4)) 0 (N 0 + 1) → ∀ I236 : MI, I236 = mfr I q233 0 → ∀ L237 : ML, L237 = mfr L q233 0 → ∀ R238 : MR, R238 = mfr R q233 none → K234 x0 = 13 ∧ ∀ R240 : MR, R240 = mup R238 x0 50 (some q233) → w_X12_init_200 x0 K234 N235 I236 L237 R240 (mc + 1) (ms + (ix 4)) MC MS Q
def w_X12_init_185 (x0 : Nat)  (K : MK) (N : MK) (I : MI) (L : ML) (R : MR) (mc : Nat) (ms : Nat) (MC MS : Nat)  (Q : MK → MK → MI → ML → MR → Prop) : Prop := ¬ (120 : Int32) < 0 ∧ (ix 120) ≤ 60000 ∧ mc + 1 ≤ MC ∧ ms + (ix 120) ≤ MS ∧ ∀ q223 : Nat, q223 = N 0 → ∀ K224 : MK, K224 = kup K q223 14 → ∀ N225 : MK, N225 = kup (kup N q223 (ix 120)) 0 (N 0 + 1) → ∀ I226 : MI, I226 = mfr I q223 0 → ∀ L227 : ML, L227 = mfr L q223 0 → ∀ R228 : MR, R228 = mfr R q223 none → K224 x0 = 13 ∧ ∀ R230 : MR, R230 = mup R228 x0 49 (some q223) → w_X12_init_193 x0 K224 N225 I226 L227 R230 (mc + 1) (ms + (ix 120)) MC MS Q
def w_X12_init_177 (x0 : Nat)  (K : MK) (N : MK) (I : MI) (L : ML) (R : MR) (mc : Nat) (ms : Nat) (MC MS : Nat)  (Q : MK → MK → MI → ML → MR → Prop) : Prop := ¬ (48 : Int32) < 0 ∧ (ix 48) ≤ 60000 ∧ mc + 1 ≤ MC ∧ ms + (ix 48) ≤ MS ∧ ∀ q213 : Nat, q213 = N 0 → ∀ K214 : MK, K214 = kup K q213 14 → ∀ N215 : MK, N215 = kup (kup N q213 (ix 48)) 0 (N 0 + 1) → ∀ I216 : MI, I216 = mfr I q213 0 → ∀ L217 : ML, L217 = mfr L q213 0 → ∀ R218 : MR, R218 = mfr R q213 none → K214 x0 = 13 ∧ ∀ R220 : MR, R220 = mup R218 x0 46 (some q213) → w_X12_init_185 x0 K214 N215 I216 L217 R220 (mc + 1) (ms + (ix 48)) MC MS Q
def w_X12_init_169 (x0 : Nat)  (K : MK) (N : MK) (I : MI) (L : ML) (R : MR) (mc : Nat) (ms : Nat) (MC MS : Nat)  (Q : MK → MK → MI → ML → MR → Prop) : Prop := ¬ (30 : Int32) < 0 ∧ (ix 30) ≤ 60000 ∧ mc + 1 ≤ MC ∧ ms + (ix 30) ≤ MS ∧ ∀ q203 : Nat, q203 = N 0 → ∀ K204 : MK, K204 = kup K q203 14 → ∀ N205 : MK, N205 = kup (kup N q203 (ix 30)) 0 (N 0 + 1) → ∀ I206 : MI, I206 = mfr I q203 0 → ∀ L207 : ML, L207 = mfr L q203 0 → ∀ R208 : MR, R208 = mfr R q203 none → K204 x0 = 13 ∧ ∀ R210 : MR, R210 = mup R208 x0 41 (some q203) → w_X12_init_177 x0 K204 N205 I206 L207 R210 (mc + 1) (ms + (ix 30)) MC MS Q
def w_X12_init_161 (x0 : Nat)  (K : MK) (N : MK) (I : MI) (L : ML) (R : MR) (mc : Nat) (ms : Nat) (MC MS : Nat)  (Q : MK → MK → MI → ML → MR → Prop) : Prop := ¬ (30 : Int32) < 0 ∧ (ix 30) ≤ 60000 ∧ mc + 1 ≤ MC ∧ ms + (ix 30) ≤ MS ∧ ∀ q193 : Nat, q193 = N 0 → ∀ K194 : MK, K194 = kup K q193 14 → ∀ N195 : MK, N195 = kup (kup N q193 (ix 30)) 0 (N 0 + 1) → ∀ I196 : MI, I196 = mfr I q193 0 → ∀ L197 : ML, L197 = mfr L q193 0 → ∀ R198 : MR, R198 = mfr R q193 none → K194 x0 = 13 ∧ ∀ R200 : MR, R200 = mup R198 x0 40 (some q193) → w_X12_init_169 x0 K194 N195 I196 L197 R200 (mc + 1) (ms + (ix 30)) MC MS Q
def w_X12_init_153 (x0 : Nat)  (K : MK) (N : MK) (I : MI) (L : ML) (R : MR) (mc : Nat) (ms : Nat) (MC MS : Nat)  (Q : MK → MK → MI → ML → MR → Prop) : Prop := ¬ (30 : Int32) < 0 ∧ (ix 30) ≤ 60000 ∧ mc + 1 ≤ MC ∧ ms + (ix 30) ≤ MS ∧ ∀ q183 : Nat, q183 = N 0 → ∀ K184 : MK, K184 = kup K q183 14 → ∀ N185 : MK, N185 = kup (kup N q183 (ix 30)) 0 (N 0 + 1) → ∀ I186 : MI, I186 = mfr I q183 0 → ∀ L187 : ML, L187 = mfr L q183 0 → ∀ R188 : MR, R188 = mfr R q183 none → K184 x0 = 13 ∧ ∀ R190 : MR, R190 = mup R188 x0 39 (some q183) → w_X12_init_161 x0 K184 N185 I186 L187 R190 (mc + 1) (ms + (ix 30)) MC MS Q
def w_X12_init_145 (x0 : Nat)  (K : MK) (N : MK) (I : MI) (L : ML) (R : MR) (mc : Nat) (ms : Nat) (MC MS : Nat)  (Q : MK → MK → MI → ML → MR → Prop) : Prop := ¬ (30 : Int32) < 0 ∧ (ix 30) ≤ 60000 ∧ mc + 1 ≤ MC ∧ ms + (ix 30) ≤ MS ∧ ∀ q173 : Nat, q173 = N 0 → ∀ K174 : MK, K174 = kup K q173 14 → ∀ N175 : MK, N175 = kup (kup N q173 (ix 30)) 0 (N 0 + 1) → ∀ I176 : MI, I176 = mfr I q173 0 → ∀ L177 : ML, L177 = mfr L q173 0 → ∀ R178 : MR, R178 = mfr R q173 none → K174 x0 = 13 ∧ ∀ R180 : MR, R180 = mup R178 x0 38 (some q173) → w_X12_init_153 x0 K174 N175 I176 L177 R180 (mc + 1) (ms + (ix 30)) MC MS Q
def w_X12_init_137 (x0 : Nat)  (K : MK) (N : MK) (I : MI) (L : ML) (R : MR) (mc : Nat) (ms : Nat) (MC MS : Nat)  (Q : MK → MK → MI → ML → MR → Prop) : Prop := ¬ (24 : Int32) < 0 ∧ (ix 24) ≤ 60000 ∧ mc + 1 ≤ MC ∧ ms + (ix 24) ≤ MS ∧ ∀ q163 : Nat, q163 = N 0 → ∀ K164 : MK, K164 = kup K q163 14 → ∀ N165 : MK, N165 = kup (kup N q163 (ix 24)) 0 (N 0 + 1) → ∀ I166 : MI, I166 = mfr I q163 0 → ∀ L167 : ML, L167 = mfr L q163 0 → ∀ R168 : MR, R168 = mfr R q163 none → K164 x0 = 13 ∧ ∀ R170 : MR, R170 = mup R168 x0 34 (some q163) → w_X12_init_145 x0 K164 N165 I166 L167 R170 (mc + 1) (ms + (ix 24)) MC MS Q
def w_X12_init_129 (x0 : Nat)  (K : MK) (N : MK) (I : MI) (L : ML) (R : MR) (mc : Nat) (ms : Nat) (MC MS : Nat)  (Q : MK → MK → MI → ML → MR → Prop) : Prop := ¬ (24 : Int32) < 0 ∧ (ix 24) ≤ 60000 ∧ mc + 1 ≤ MC ∧ ms + (ix 24) ≤ MS ∧ ∀ q153 : Nat, q153 = N 0 → ∀ K154 : MK, K154 = kup K q153 14 → ∀ N155 : MK, N155 = kup (kup N q153 (ix 24)) 0 (N 0 + 1) → ∀ I156 : MI, I156 = mfr I q153 0 → ∀ L157 : ML, L157 = mfr L q153 0 → ∀ R158 : MR, R158 = mfr R q153 none → K154 x0 = 13 ∧ ∀ R160 : MR, R160 = mup R158 x0 33 (some q153) → w_X12_init_137 x0 K154 N155 I156 L157 R160 (mc + 1) (ms + (ix 24)) MC MS Q
def w_X12_init_120 (x0 : Nat)  (K : MK) (N : MK) (I : MI) (L : ML) (R : MR) (mc : Nat) (ms : Nat) (MC MS : Nat)  (Q : MK → MK → MI → ML → MR → Prop) : Prop := ¬ (256 : Int32) < 0 ∧ (ix 256) ≤ 60000 ∧ mc + 1 ≤ MC ∧ ms + (ix 256) ≤ MS ∧ ∀ q143 : Nat, q143 = N 0 → ∀ K144 : MK, K144 = kup K q143 14 → ∀ N145 : MK, N145 = kup (kup N q143 (ix 256)) 0 (N 0 + 1) → ∀ I146 : MI, I146 = mfr I q143 0 → ∀ L147 : ML, L147 = mfr L q143 0 → ∀ R148 : MR, R148 = mfr R q143 none → K144 x0 = 13 ∧ ∀ R150 : MR, R150 = mup R148 x0 32 (some q143) → w_X12_init_129 x0 K144 N145 I146 L147 R150 (mc + 1) (ms + (ix 256)) MC MS Q
def w_X12_init_112 (x0 : Nat)  (K : MK) (N : MK) (I : MI) (L : ML) (R : MR) (mc : Nat) (ms : Nat) (MC MS : Nat)  (Q : MK → MK → MI → ML → MR → Prop) : Prop := ¬ (9 : Int32) < 0 ∧ (ix 9) ≤ 60000 ∧ mc + 1 ≤ MC ∧ ms + (ix 9) ≤ MS ∧ ∀ q133 : Nat, q133 = N 0 → ∀ K134 : MK, K134 = kup K q133 14 → ∀ N135 : MK, N135 = kup (kup N q133 (ix 9)) 0 (N 0 + 1) → ∀ I136 : MI, I136 = mfr I q133 0 → ∀ L137 : ML, L137 = mfr L q133 0 → ∀ R138 : MR, R138 = mfr R q133 none → K134 x0 = 13 ∧ ∀ R140 : MR, R140 = mup R138 x0 29 (some q133) → w_X12_init_120 x0 K134 N135 I136 L137 R140 (mc + 1) (ms + (ix 9)) MC MS Q
def w_X12_init_104 (x0 : Nat)  (K : MK) (N : MK) (I : MI) (L : ML) (R : MR) (mc : Nat) (ms : Nat) (MC MS : Nat)  (Q : MK → MK → MI → ML → MR → Prop) : Prop := ¬ (10 : Int32) < 0 ∧ (ix 10) ≤ 60000 ∧ mc + 1 ≤ MC ∧ ms + (ix 10) ≤ MS ∧ ∀ q123 : Nat, q123 = N 0 → ∀ K124 : MK, K124 = kup K q123 14 → ∀ N125 : MK, N125 = kup (kup N q123 (ix 10)) 0 (N 0 + 1) → ∀ I126 : MI, I126 = mfr I q123 0 → ∀ L127 : ML, L127 = mfr L q123 0 → ∀ R128 : MR, R128 = mfr R q123 none → K124 x0 = 13 ∧ ∀ R130 : MR, R130 = mup R128 x0 27 (some q123) → w_X12_init_112 x0 K124 N125 I126 L127 R130 (mc + 1) (ms + (ix 10)) MC MS Q
def w_X12_init_96 (x0 : Nat)  (K : MK) (N : MK) (I : MI) (L : ML) (R : MR) (mc : Nat) (ms : Nat) (MC MS : Nat)  (Q : MK → MK → MI → ML → MR → Prop) : Prop := ¬ (10 : Int32) < 0 ∧ (ix 10) ≤ 60000 ∧ mc + 1 ≤ MC ∧ ms + (ix 10) ≤ MS ∧ ∀ q113 : Nat, q113 = N 0 → ∀ K114 : MK, K114 = kup K q113 14 → ∀ N115 : MK, N115 = kup (kup N q113 (ix 10)) 0 (N 0 + 1) → ∀ I116 : MI, I116 = mfr I q113 0 → ∀ L117 : ML, L117 = mfr L q113 0 → ∀ R118 : MR, R118 = mfr R q113 none → K114 x0 = 13 ∧ ∀ R120 : MR, R120 = mup R118 x0 26 (some q113) → w_X12_init_104 x0 K114 N115 I116 L117 R120 (mc + 1) (ms + (ix 10)) MC MS Q
def w_X12_init_89 (x0 : Nat)  (K : MK) (N : MK) (I : MI) (L : ML) (R : MR) (mc : Nat) (ms : Nat) (MC MS : Nat)  (Q : MK → MK → MI → ML → MR → Prop) : Prop := ¬ (2 : Int32) < 0 ∧ (ix 2) ≤ 60000 ∧ mc + 1 ≤ MC ∧ ms + (ix 2) ≤ MS ∧ ∀ q103 : Nat, q103 = N 0 → ∀ K104 : MK, K104 = kup K q103 16 → ∀ N105 : MK, N105 = kup (kup N q103 (ix 2)) 0 (N 0 + 1) → ∀ I106 : MI, I106 = mfr I q103 0 → ∀ L107 : ML, L107 = mfr L q103 0 → ∀ R108 : MR, R108 = mfr R q103 none → K104 x0 = 13 ∧ ∀ R110 : MR, R110 = mup R108 x0 23 (some q103) → w_X12_init_96 x0 K104 N105 I106 L107 R110 (mc + 1) (ms + (ix 2)) MC MS Q
def w_X12_init_81 (x0 : Nat)  (K : MK) (N : MK) (I : MI) (L : ML) (R : MR) (mc : Nat) (ms : Nat) (MC MS : Nat)  (Q : MK → MK → MI → ML → MR → Prop) : Prop := ¬ (52 : Int32) < 0 ∧ (ix 52) ≤ 60000 ∧ mc + 1 ≤ MC ∧ ms + (ix 52) ≤ MS ∧ ∀ q93 : Nat, q93 = N 0 → ∀ K94 : MK, K94 = kup K q93 15 → ∀ N95 : MK, N95 = kup (kup N q93 (ix 52)) 0 (N 0 + 1) → ∀ I96 : MI, I96 = mfr I q93 0 → ∀ L97 : ML, L97 = mfr L q93 0 → ∀ R98 : MR, R98 = mfr R q93 none → K94 x0 = 13 ∧ ∀ R100 : MR, R100 = mup R98 x0 22 (some q93) → w_X12_init_89 x0 K94 N95 I96 L97 R100 (mc + 1) (ms + (ix 52)) MC MS Q
def w_X12_init_73 (x0 : Nat)  (K : MK) (N : MK) (I : MI) (L : ML) (R : MR) (mc : Nat) (ms : Nat) (MC MS : Nat)  (Q : MK → MK → MI → ML → MR → Prop) : Prop := ¬ (26 : Int32) < 0 ∧ (ix 26) ≤ 60000 ∧ mc + 1 ≤ MC ∧ ms + (ix 26) ≤ MS ∧ ∀ q83 : Nat, q83 = N 0 → ∀ K84 : MK, K84 = kup K q83 15 → ∀ N85 : MK, N85 = kup (kup N q83 (ix 26)) 0 (N 0 + 1) → ∀ I86 : MI, I86 = mfr I q83 0 → ∀ L87 : ML, L87 = mfr L q83 0 → ∀ R88 : MR, R88 = mfr R q83 none → K84 x0 = 13 ∧ ∀ R90 : MR, R90 = mup R88 x0 21 (some q83) → w_X12_init_81 x0 K84 N85 I86 L87 R90 (mc + 1) (ms + (ix 26)) MC MS Q
def w_X12_init_65 (x0 : Nat)  (K : MK) (N : MK) (I : MI) (L : ML) (R : MR) (mc : Nat) (ms : Nat) (MC MS : Nat)  (Q : MK → MK → MI → ML → MR → Prop) : Prop := ¬ (26 : Int32) < 0 ∧ (ix 26) ≤ 60000 ∧ mc + 1 ≤ MC ∧ ms + (ix 26) ≤ MS ∧ ∀ q73 : Nat, q73 = N 0 → ∀ K74 : MK, K74 = kup K q73 15 → ∀ N75 : MK, N75 = kup (kup N q73 (ix 26)) 0 (N 0 + 1) → ∀ I76 : MI, I76 = mfr I q73 0 → ∀ L77 : ML, L77 = mfr L q73 0 → ∀ R78 : MR, R78 = mfr R q73 none → K74 x0 = 13 ∧ ∀ R80 : MR, R80 = mup R78 x0 20 (some q73) → w_X12_init_73 x0 K74 N75 I76 L77 R80 (mc + 1) (ms + (ix 26)) MC MS Q
def w_X12_init_57 (x0 : Nat)  (K : MK) (N : MK) (I : MI) (L : ML) (R : MR) (mc : Nat) (ms : Nat) (MC MS : Nat)  (Q : MK → MK → MI → ML → MR → Prop) : Prop := ¬ (83 : Int32) < 0 ∧ (ix 83) ≤ 60000 ∧ mc + 1 ≤ MC ∧ ms + (ix 83) ≤ MS ∧ ∀ q63 : Nat, q63 = N 0 → ∀ K64 : MK, K64 = kup K q63 14 → ∀ N65 : MK, N65 = kup (kup N q63 (ix 83)) 0 (N 0 + 1) → ∀ I66 : MI, I66 = mfr I q63 0 → ∀ L67 : ML, L67 = mfr L q63 0 → ∀ R68 : MR, R68 = mfr R q63 none → K64 x0 = 13 ∧ ∀ R70 : MR, R70 = mup R68 x0 19 (some q63) → w_X12_init_65 x0 K64 N65 I66 L67 R70 (mc + 1) (ms + (ix 83)) MC MS Q
def w_X12_init_49 (x0 : Nat)  (K : MK) (N : MK) (I : MI) (L : ML) (R : MR) (mc : Nat) (ms : Nat) (MC MS : Nat)  (Q : MK → MK → MI → ML → MR → Prop) : Prop := ¬ (83 : Int32) < 0 ∧ (ix 83) ≤ 60000 ∧ mc + 1 ≤ MC ∧ ms + (ix 83) ≤ MS ∧ ∀ q53 : Nat, q53 = N 0 → ∀ K54 : MK, K54 = kup K q53 14 → ∀ N55 : MK, N55 = kup (kup N q53 (ix 83)) 0 (N 0 + 1) → ∀ I56 : MI, I56 = mfr I q53 0 → ∀ L57 : ML, L57 = mfr L q53 0 → ∀ R58 : MR, R58 = mfr R q53 none → K54 x0 = 13 ∧ ∀ R60 : MR, R60 = mup R58 x0 18 (some q53) → w_X12_init_57 x0 K54 N55 I56 L57 R60 (mc + 1) (ms + (ix 83)) MC MS Q
def w_X12_init_40 (x0 : Nat)  (K : MK) (N : MK) (I : MI) (L : ML) (R : MR) (mc : Nat) (ms : Nat) (MC MS : Nat)  (Q : MK → MK → MI → ML → MR → Prop) : Prop := ¬ (664 : Int32) < 0 ∧ (ix 664) ≤ 60000 ∧ mc + 1 ≤ MC ∧ ms + (ix 664) ≤ MS ∧ ∀ q43 : Nat, q43 = N 0 → ∀ K44 : MK, K44 = kup K q43 14 → ∀ N45 : MK, N45 = kup (kup N q43 (ix 664)) 0 (N 0 + 1) → ∀ I46 : MI, I46 = mfr I q43 0 → ∀ L47 : ML, L47 = mfr L q43 0 → ∀ R48 : MR, R48 = mfr R q43 none → K44 x0 = 13 ∧ ∀ R50 : MR, R50 = mup R48 x0 17 (some q43) → w_X12_init_49 x0 K44 N45 I46 L47 R50 (mc + 1) (ms + (ix 664)) MC MS Q
def w_X12_init_31 (x0 : Nat)  (K : MK) (N : MK) (I : MI) (L : ML) (R : MR) (mc : Nat) (ms : Nat) (MC MS : Nat)  (Q : MK → MK → MI → ML → MR → Prop) : Prop := ¬ (1334 : Int32) < 0 ∧ (ix 1334) ≤ 60000 ∧ mc + 1 ≤ MC ∧ ms + (ix 1334) ≤ MS ∧ ∀ q33 : Nat, q33 = N 0 → ∀ K34 : MK, K34 = kup K q33 14 → ∀ N35 : MK, N35 = kup (kup N q33 (ix 1334)) 0 (N 0 + 1) → ∀ I36 : MI, I36 = mfr I q33 0 → ∀ L37 : ML, L37 = mfr L q33 0 → ∀ R38 : MR, R38 = mfr R q33 none → K34 x0 = 13 ∧ ∀ R40 : MR, R40 = mup R38 x0 16 (some q33) → w_X12_init_40 x0 K34 N35 I36 L37 R40 (mc + 1) (ms + (ix 1334)) MC MS Q
def w_X12_init_22 (x0 : Nat)  (K : MK) (N : MK) (I : MI) (L : ML) (R : MR) (mc : Nat) (ms : Nat) (MC MS : Nat)  (Q : MK → MK → MI → ML → MR → Prop) : Prop := ¬ (342 : Int32) < 0 ∧ (ix 342) ≤ 60000 ∧ mc + 1 ≤ MC ∧ ms + (ix 342) ≤ MS ∧ ∀ q23 : Nat, q23 = N 0 → ∀ K24 : MK, K24 = kup K q23 14 → ∀ N25 : MK, N25 = kup (kup N q23 (ix 342)) 0 (N 0 + 1) → ∀ I26 : MI, I26 = mfr I q23 0 → ∀ L27 : ML, L27 = mfr L q23 0 → ∀ R28 : MR, R28 = mfr R q23 none → K24 x0 = 13 ∧ ∀ R30 : MR, R30 = mup R28 x0 15 (some q23) → w_X12_init_31 x0 K24 N25 I26 L27 R30 (mc + 1) (ms + (ix 342)) MC MS Q
def w_X12_init_13 (x0 : Nat)  (K : MK) (N : MK) (I : MI) (L : ML) (R : MR) (mc : Nat) (ms : Nat) (MC MS : Nat)  (Q : MK → MK → MI → ML → MR → Prop) : Prop := ¬ (667 : Int32) < 0 ∧ (ix 667) ≤ 60000 ∧ mc + 1 ≤ MC ∧ ms + (ix 667) ≤ MS ∧ ∀ q13 : Nat, q13 = N 0 → ∀ K14 : MK, K14 = kup K q13 14 → ∀ N15 : MK, N15 = kup (kup N q13 (ix 667)) 0 (N 0 + 1) → ∀ I16 : MI, I16 = mfr I q13 0 → ∀ L17 : ML, L17 = mfr L q13 0 → ∀ R18 : MR, R18 = mfr R q13 none → K14 x0 = 13 ∧ ∀ R20 : MR, R20 = mup R18 x0 14 (some q13) → w_X12_init_22 x0 K14 N15 I16 L17 R20 (mc + 1) (ms + (ix 667)) MC MS Q
def w_X12_init_4 (x0 : Nat)  (K : MK) (N : MK) (I : MI) (L : ML) (R : MR) (mc : Nat) (ms : Nat) (MC MS : Nat)  (Q : MK → MK → MI → ML → MR → Prop) : Prop := ¬ (940 : Int32) < 0 ∧ (ix 940) ≤ 60000 ∧ mc + 1 ≤ MC ∧ ms + (ix 940) ≤ MS ∧ ∀ q3 : Nat, q3 = N 0 → ∀ K4 : MK, K4 = kup K q3 14 → ∀ N5 : MK, N5 = kup (kup N q3 (ix 940)) 0 (N 0 + 1) → ∀ I6 : MI, I6 = mfr I q3 0 → ∀ L7 : ML, L7 = mfr L q3 0 → ∀ R8 : MR, R8 = mfr R q3 none → K4 x0 = 13 ∧ ∀ R10 : MR, R10 = mup R8 x0 1 (some q3) → w_X12_init_13 x0 K4 N5 I6 L7 R10 (mc + 1) (ms + (ix 940)) MC MS Q
def w_X12_init (a0 : Nat) (K : MK) (N : MK) (I : MI) (L : ML) (R : MR) (MC MS : Nat) (Q : MK → MK → MI → ML → MR → Prop) : Prop := w_X12_init_4 a0 K N I L R 0 0 MC MS Q
set_option maxHeartbeats 4000000 in
set_option maxRecDepth 100000 in
theorem z_X12_init_200 {X : ZX} {G : ZG} {x0 : Nat}  {K : MK} {N : MK} {I : MI} {L : ML} {R : MR} {mc : Nat} {ms : Nat} {MC MS : Nat} {Q : MK → MK → MI → ML → MR → Prop} (hC : ZOk X G RX12 cX12_init 1 none) (hRm : X.2.2.2.1 = { frames := 1, cells := MC, slots := MS, locals := 12 }) (hi : X.2.2.2.2.2.2.2.2.1.name = "<init>") (h : w_X12_init_200 x0 K N I L R mc ms MC MS Q) : Z X G 1 mc ms (z_T X G (qKv Q) MC MS) K N I L R 200 [(0, .ref x0)] [] := by
  delta w_X12_init_200 at h
  refine z_aload_n hC (q := 0) dX12_init_200 rfl rfl ?_
  refine z_sipush hC (v := 240) k_sipush_240 dX12_init_201 ?_
  obtain ⟨hl241a, hl241b, h⟩ := h
  obtain ⟨hm242a, hm242b, h⟩ := h
  refine z_newarr14 hC dX12_init_204 hl241a hl241b (by rw [hRm]; exact ⟨hm242a, hm242b⟩) (fun q243 hq243 => ?_)
  have h := h q243 hq243
  refine z_genK (fun K244 eK244 => ?_)
  have h := h K244 eK244
  refine z_genN (fun N245 eN245 => ?_)
  have h := h N245 eN245
  refine z_genI (fun I246 eI246 => ?_)
  have h := h I246 eI246
  refine z_genL (fun L247 eL247 => ?_)
  have h := h L247 eL247
  refine z_genR (fun R248 eR248 => ?_)
  have h := h R248 eR248
  obtain ⟨hk249, h⟩ := h
  refine pf_RX12_169 hC dX12_init_206 hk249 hi ?_
  refine z_genR (fun R250 eR250 => ?_)
  have h := h R250 eR250
  refine z_aload_n hC (q := 0) dX12_init_209 rfl rfl ?_
  obtain ⟨b251, hb251, h⟩ := h
  refine gf_RX12_98 hC dX12_init_210 hk249 hb251 ?_
  refine z_iconst hC (v := 0) k_iconst_0 dX12_init_213 ?_
  refine z_sipush hC (v := 256) k_sipush_256 dX12_init_214 ?_
  obtain ⟨hk252, h⟩ := h
  obtain ⟨hi253, h⟩ := h
  refine z_iastore hC hk252 hi253 dX12_init_217 ?_
  refine z_genI (fun I254 eI254 => ?_)
  have h := h I254 eI254
  obtain ⟨hm255a, hm255b, h⟩ := h
  exact z_widen hm255a hm255b (z_vret hC dX12_init_218 ⟨rfl, h⟩)
set_option maxHeartbeats 4000000 in
set_option maxRecDepth 100000 in
theorem z_X12_init_193 {X : ZX} {G : ZG} {x0 : Nat}  {K : MK} {N : MK} {I : MI} {L : ML} {R : MR} {mc : Nat} {ms : Nat} {MC MS : Nat} {Q : MK → MK → MI → ML → MR → Prop} (hC : ZOk X G RX12 cX12_init 1 none) (hRm : X.2.2.2.1 = { frames := 1, cells := MC, slots := MS, locals := 12 }) (hi : X.2.2.2.2.2.2.2.2.1.name = "<init>") (h : w_X12_init_193 x0 K N I L R mc ms MC MS Q) : Z X G 1 mc ms (z_T X G (qKv Q) MC MS) K N I L R 193 [(0, .ref x0)] [] := by
  delta w_X12_init_193 at h
  refine z_aload_n hC (q := 0) dX12_init_193 rfl rfl ?_
  refine z_iconst hC (v := 4) k_iconst_4 dX12_init_194 ?_
  obtain ⟨hl231a, hl231b, h⟩ := h
  obtain ⟨hm232a, hm232b, h⟩ := h
  refine z_newarr14 hC dX12_init_195 hl231a hl231b (by rw [hRm]; exact ⟨hm232a, hm232b⟩) (fun q233 hq233 => ?_)
  have h := h q233 hq233
  refine z_genK (fun K234 eK234 => ?_)
  have h := h K234 eK234
  refine z_genN (fun N235 eN235 => ?_)
  have h := h N235 eN235
  refine z_genI (fun I236 eI236 => ?_)
  have h := h I236 eI236
  refine z_genL (fun L237 eL237 => ?_)
  have h := h L237 eL237
  refine z_genR (fun R238 eR238 => ?_)
  have h := h R238 eR238
  obtain ⟨hk239, h⟩ := h
  refine pf_RX12_166 hC dX12_init_197 hk239 hi ?_
  refine z_genR (fun R240 eR240 => ?_)
  have h := h R240 eR240
  exact z_sub [(0, .ref x0)] [0] rfl (z_X12_init_200 hC hRm hi h)
set_option maxHeartbeats 4000000 in
set_option maxRecDepth 100000 in
theorem z_X12_init_185 {X : ZX} {G : ZG} {x0 : Nat}  {K : MK} {N : MK} {I : MI} {L : ML} {R : MR} {mc : Nat} {ms : Nat} {MC MS : Nat} {Q : MK → MK → MI → ML → MR → Prop} (hC : ZOk X G RX12 cX12_init 1 none) (hRm : X.2.2.2.1 = { frames := 1, cells := MC, slots := MS, locals := 12 }) (hi : X.2.2.2.2.2.2.2.2.1.name = "<init>") (h : w_X12_init_185 x0 K N I L R mc ms MC MS Q) : Z X G 1 mc ms (z_T X G (qKv Q) MC MS) K N I L R 185 [(0, .ref x0)] [] := by
  delta w_X12_init_185 at h
  refine z_aload_n hC (q := 0) dX12_init_185 rfl rfl ?_
  refine z_bipush hC (v := 120) k_bipush_120 dX12_init_186 ?_
  obtain ⟨hl221a, hl221b, h⟩ := h
  obtain ⟨hm222a, hm222b, h⟩ := h
  refine z_newarr14 hC dX12_init_188 hl221a hl221b (by rw [hRm]; exact ⟨hm222a, hm222b⟩) (fun q223 hq223 => ?_)
  have h := h q223 hq223
  refine z_genK (fun K224 eK224 => ?_)
  have h := h K224 eK224
  refine z_genN (fun N225 eN225 => ?_)
  have h := h N225 eN225
  refine z_genI (fun I226 eI226 => ?_)
  have h := h I226 eI226
  refine z_genL (fun L227 eL227 => ?_)
  have h := h L227 eL227
  refine z_genR (fun R228 eR228 => ?_)
  have h := h R228 eR228
  obtain ⟨hk229, h⟩ := h
  refine pf_RX12_163 hC dX12_init_190 hk229 hi ?_
  refine z_genR (fun R230 eR230 => ?_)
  have h := h R230 eR230
  exact z_sub [(0, .ref x0)] [0] rfl (z_X12_init_193 hC hRm hi h)
set_option maxHeartbeats 4000000 in
set_option maxRecDepth 100000 in
theorem z_X12_init_177 {X : ZX} {G : ZG} {x0 : Nat}  {K : MK} {N : MK} {I : MI} {L : ML} {R : MR} {mc : Nat} {ms : Nat} {MC MS : Nat} {Q : MK → MK → MI → ML → MR → Prop} (hC : ZOk X G RX12 cX12_init 1 none) (hRm : X.2.2.2.1 = { frames := 1, cells := MC, slots := MS, locals := 12 }) (hi : X.2.2.2.2.2.2.2.2.1.name = "<init>") (h : w_X12_init_177 x0 K N I L R mc ms MC MS Q) : Z X G 1 mc ms (z_T X G (qKv Q) MC MS) K N I L R 177 [(0, .ref x0)] [] := by
  delta w_X12_init_177 at h
  refine z_aload_n hC (q := 0) dX12_init_177 rfl rfl ?_
  refine z_bipush hC (v := 48) k_bipush_48 dX12_init_178 ?_
  obtain ⟨hl211a, hl211b, h⟩ := h
  obtain ⟨hm212a, hm212b, h⟩ := h
  refine z_newarr14 hC dX12_init_180 hl211a hl211b (by rw [hRm]; exact ⟨hm212a, hm212b⟩) (fun q213 hq213 => ?_)
  have h := h q213 hq213
  refine z_genK (fun K214 eK214 => ?_)
  have h := h K214 eK214
  refine z_genN (fun N215 eN215 => ?_)
  have h := h N215 eN215
  refine z_genI (fun I216 eI216 => ?_)
  have h := h I216 eI216
  refine z_genL (fun L217 eL217 => ?_)
  have h := h L217 eL217
  refine z_genR (fun R218 eR218 => ?_)
  have h := h R218 eR218
  obtain ⟨hk219, h⟩ := h
  refine pf_RX12_160 hC dX12_init_182 hk219 hi ?_
  refine z_genR (fun R220 eR220 => ?_)
  have h := h R220 eR220
  exact z_sub [(0, .ref x0)] [0] rfl (z_X12_init_185 hC hRm hi h)
set_option maxHeartbeats 4000000 in
set_option maxRecDepth 100000 in
theorem z_X12_init_169 {X : ZX} {G : ZG} {x0 : Nat}  {K : MK} {N : MK} {I : MI} {L : ML} {R : MR} {mc : Nat} {ms : Nat} {MC MS : Nat} {Q : MK → MK → MI → ML → MR → Prop} (hC : ZOk X G RX12 cX12_init 1 none) (hRm : X.2.2.2.1 = { frames := 1, cells := MC, slots := MS, locals := 12 }) (hi : X.2.2.2.2.2.2.2.2.1.name = "<init>") (h : w_X12_init_169 x0 K N I L R mc ms MC MS Q) : Z X G 1 mc ms (z_T X G (qKv Q) MC MS) K N I L R 169 [(0, .ref x0)] [] := by
  delta w_X12_init_169 at h
  refine z_aload_n hC (q := 0) dX12_init_169 rfl rfl ?_
  refine z_bipush hC (v := 30) k_bipush_30 dX12_init_170 ?_
  obtain ⟨hl201a, hl201b, h⟩ := h
  obtain ⟨hm202a, hm202b, h⟩ := h
  refine z_newarr14 hC dX12_init_172 hl201a hl201b (by rw [hRm]; exact ⟨hm202a, hm202b⟩) (fun q203 hq203 => ?_)
  have h := h q203 hq203
  refine z_genK (fun K204 eK204 => ?_)
  have h := h K204 eK204
  refine z_genN (fun N205 eN205 => ?_)
  have h := h N205 eN205
  refine z_genI (fun I206 eI206 => ?_)
  have h := h I206 eI206
  refine z_genL (fun L207 eL207 => ?_)
  have h := h L207 eL207
  refine z_genR (fun R208 eR208 => ?_)
  have h := h R208 eR208
  obtain ⟨hk209, h⟩ := h
  refine pf_RX12_157 hC dX12_init_174 hk209 hi ?_
  refine z_genR (fun R210 eR210 => ?_)
  have h := h R210 eR210
  exact z_sub [(0, .ref x0)] [0] rfl (z_X12_init_177 hC hRm hi h)
set_option maxHeartbeats 4000000 in
set_option maxRecDepth 100000 in
theorem z_X12_init_161 {X : ZX} {G : ZG} {x0 : Nat}  {K : MK} {N : MK} {I : MI} {L : ML} {R : MR} {mc : Nat} {ms : Nat} {MC MS : Nat} {Q : MK → MK → MI → ML → MR → Prop} (hC : ZOk X G RX12 cX12_init 1 none) (hRm : X.2.2.2.1 = { frames := 1, cells := MC, slots := MS, locals := 12 }) (hi : X.2.2.2.2.2.2.2.2.1.name = "<init>") (h : w_X12_init_161 x0 K N I L R mc ms MC MS Q) : Z X G 1 mc ms (z_T X G (qKv Q) MC MS) K N I L R 161 [(0, .ref x0)] [] := by
  delta w_X12_init_161 at h
  refine z_aload_n hC (q := 0) dX12_init_161 rfl rfl ?_
  refine z_bipush hC (v := 30) k_bipush_30 dX12_init_162 ?_
  obtain ⟨hl191a, hl191b, h⟩ := h
  obtain ⟨hm192a, hm192b, h⟩ := h
  refine z_newarr14 hC dX12_init_164 hl191a hl191b (by rw [hRm]; exact ⟨hm192a, hm192b⟩) (fun q193 hq193 => ?_)
  have h := h q193 hq193
  refine z_genK (fun K194 eK194 => ?_)
  have h := h K194 eK194
  refine z_genN (fun N195 eN195 => ?_)
  have h := h N195 eN195
  refine z_genI (fun I196 eI196 => ?_)
  have h := h I196 eI196
  refine z_genL (fun L197 eL197 => ?_)
  have h := h L197 eL197
  refine z_genR (fun R198 eR198 => ?_)
  have h := h R198 eR198
  obtain ⟨hk199, h⟩ := h
  refine pf_RX12_154 hC dX12_init_166 hk199 hi ?_
  refine z_genR (fun R200 eR200 => ?_)
  have h := h R200 eR200
  exact z_sub [(0, .ref x0)] [0] rfl (z_X12_init_169 hC hRm hi h)
set_option maxHeartbeats 4000000 in
set_option maxRecDepth 100000 in
theorem z_X12_init_153 {X : ZX} {G : ZG} {x0 : Nat}  {K : MK} {N : MK} {I : MI} {L : ML} {R : MR} {mc : Nat} {ms : Nat} {MC MS : Nat} {Q : MK → MK → MI → ML → MR → Prop} (hC : ZOk X G RX12 cX12_init 1 none) (hRm : X.2.2.2.1 = { frames := 1, cells := MC, slots := MS, locals := 12 }) (hi : X.2.2.2.2.2.2.2.2.1.name = "<init>") (h : w_X12_init_153 x0 K N I L R mc ms MC MS Q) : Z X G 1 mc ms (z_T X G (qKv Q) MC MS) K N I L R 153 [(0, .ref x0)] [] := by
  delta w_X12_init_153 at h
  refine z_aload_n hC (q := 0) dX12_init_153 rfl rfl ?_
  refine z_bipush hC (v := 30) k_bipush_30 dX12_init_154 ?_
  obtain ⟨hl181a, hl181b, h⟩ := h
  obtain ⟨hm182a, hm182b, h⟩ := h
  refine z_newarr14 hC dX12_init_156 hl181a hl181b (by rw [hRm]; exact ⟨hm182a, hm182b⟩) (fun q183 hq183 => ?_)
  have h := h q183 hq183
  refine z_genK (fun K184 eK184 => ?_)
  have h := h K184 eK184
  refine z_genN (fun N185 eN185 => ?_)
  have h := h N185 eN185
  refine z_genI (fun I186 eI186 => ?_)
  have h := h I186 eI186
  refine z_genL (fun L187 eL187 => ?_)
  have h := h L187 eL187
  refine z_genR (fun R188 eR188 => ?_)
  have h := h R188 eR188
  obtain ⟨hk189, h⟩ := h
  refine pf_RX12_151 hC dX12_init_158 hk189 hi ?_
  refine z_genR (fun R190 eR190 => ?_)
  have h := h R190 eR190
  exact z_sub [(0, .ref x0)] [0] rfl (z_X12_init_161 hC hRm hi h)
set_option maxHeartbeats 4000000 in
set_option maxRecDepth 100000 in
theorem z_X12_init_145 {X : ZX} {G : ZG} {x0 : Nat}  {K : MK} {N : MK} {I : MI} {L : ML} {R : MR} {mc : Nat} {ms : Nat} {MC MS : Nat} {Q : MK → MK → MI → ML → MR → Prop} (hC : ZOk X G RX12 cX12_init 1 none) (hRm : X.2.2.2.1 = { frames := 1, cells := MC, slots := MS, locals := 12 }) (hi : X.2.2.2.2.2.2.2.2.1.name = "<init>") (h : w_X12_init_145 x0 K N I L R mc ms MC MS Q) : Z X G 1 mc ms (z_T X G (qKv Q) MC MS) K N I L R 145 [(0, .ref x0)] [] := by
  delta w_X12_init_145 at h
  refine z_aload_n hC (q := 0) dX12_init_145 rfl rfl ?_
  refine z_bipush hC (v := 30) k_bipush_30 dX12_init_146 ?_
  obtain ⟨hl171a, hl171b, h⟩ := h
  obtain ⟨hm172a, hm172b, h⟩ := h
  refine z_newarr14 hC dX12_init_148 hl171a hl171b (by rw [hRm]; exact ⟨hm172a, hm172b⟩) (fun q173 hq173 => ?_)
  have h := h q173 hq173
  refine z_genK (fun K174 eK174 => ?_)
  have h := h K174 eK174
  refine z_genN (fun N175 eN175 => ?_)
  have h := h N175 eN175
  refine z_genI (fun I176 eI176 => ?_)
  have h := h I176 eI176
  refine z_genL (fun L177 eL177 => ?_)
  have h := h L177 eL177
  refine z_genR (fun R178 eR178 => ?_)
  have h := h R178 eR178
  obtain ⟨hk179, h⟩ := h
  refine pf_RX12_148 hC dX12_init_150 hk179 hi ?_
  refine z_genR (fun R180 eR180 => ?_)
  have h := h R180 eR180
  exact z_sub [(0, .ref x0)] [0] rfl (z_X12_init_153 hC hRm hi h)
set_option maxHeartbeats 4000000 in
set_option maxRecDepth 100000 in
theorem z_X12_init_137 {X : ZX} {G : ZG} {x0 : Nat}  {K : MK} {N : MK} {I : MI} {L : ML} {R : MR} {mc : Nat} {ms : Nat} {MC MS : Nat} {Q : MK → MK → MI → ML → MR → Prop} (hC : ZOk X G RX12 cX12_init 1 none) (hRm : X.2.2.2.1 = { frames := 1, cells := MC, slots := MS, locals := 12 }) (hi : X.2.2.2.2.2.2.2.2.1.name = "<init>") (h : w_X12_init_137 x0 K N I L R mc ms MC MS Q) : Z X G 1 mc ms (z_T X G (qKv Q) MC MS) K N I L R 137 [(0, .ref x0)] [] := by
  delta w_X12_init_137 at h
  refine z_aload_n hC (q := 0) dX12_init_137 rfl rfl ?_
  refine z_bipush hC (v := 24) k_bipush_24 dX12_init_138 ?_
  obtain ⟨hl161a, hl161b, h⟩ := h
  obtain ⟨hm162a, hm162b, h⟩ := h
  refine z_newarr14 hC dX12_init_140 hl161a hl161b (by rw [hRm]; exact ⟨hm162a, hm162b⟩) (fun q163 hq163 => ?_)
  have h := h q163 hq163
  refine z_genK (fun K164 eK164 => ?_)
  have h := h K164 eK164
  refine z_genN (fun N165 eN165 => ?_)
  have h := h N165 eN165
  refine z_genI (fun I166 eI166 => ?_)
  have h := h I166 eI166
  refine z_genL (fun L167 eL167 => ?_)
  have h := h L167 eL167
  refine z_genR (fun R168 eR168 => ?_)
  have h := h R168 eR168
  obtain ⟨hk169, h⟩ := h
  refine pf_RX12_145 hC dX12_init_142 hk169 hi ?_
  refine z_genR (fun R170 eR170 => ?_)
  have h := h R170 eR170
  exact z_sub [(0, .ref x0)] [0] rfl (z_X12_init_145 hC hRm hi h)
set_option maxHeartbeats 4000000 in
set_option maxRecDepth 100000 in
theorem z_X12_init_129 {X : ZX} {G : ZG} {x0 : Nat}  {K : MK} {N : MK} {I : MI} {L : ML} {R : MR} {mc : Nat} {ms : Nat} {MC MS : Nat} {Q : MK → MK → MI → ML → MR → Prop} (hC : ZOk X G RX12 cX12_init 1 none) (hRm : X.2.2.2.1 = { frames := 1, cells := MC, slots := MS, locals := 12 }) (hi : X.2.2.2.2.2.2.2.2.1.name = "<init>") (h : w_X12_init_129 x0 K N I L R mc ms MC MS Q) : Z X G 1 mc ms (z_T X G (qKv Q) MC MS) K N I L R 129 [(0, .ref x0)] [] := by
  delta w_X12_init_129 at h
  refine z_aload_n hC (q := 0) dX12_init_129 rfl rfl ?_
  refine z_bipush hC (v := 24) k_bipush_24 dX12_init_130 ?_
  obtain ⟨hl151a, hl151b, h⟩ := h
  obtain ⟨hm152a, hm152b, h⟩ := h
  refine z_newarr14 hC dX12_init_132 hl151a hl151b (by rw [hRm]; exact ⟨hm152a, hm152b⟩) (fun q153 hq153 => ?_)
  have h := h q153 hq153
  refine z_genK (fun K154 eK154 => ?_)
  have h := h K154 eK154
  refine z_genN (fun N155 eN155 => ?_)
  have h := h N155 eN155
  refine z_genI (fun I156 eI156 => ?_)
  have h := h I156 eI156
  refine z_genL (fun L157 eL157 => ?_)
  have h := h L157 eL157
  refine z_genR (fun R158 eR158 => ?_)
  have h := h R158 eR158
  obtain ⟨hk159, h⟩ := h
  refine pf_RX12_142 hC dX12_init_134 hk159 hi ?_
  refine z_genR (fun R160 eR160 => ?_)
  have h := h R160 eR160
  exact z_sub [(0, .ref x0)] [0] rfl (z_X12_init_137 hC hRm hi h)
set_option maxHeartbeats 4000000 in
set_option maxRecDepth 100000 in
theorem z_X12_init_120 {X : ZX} {G : ZG} {x0 : Nat}  {K : MK} {N : MK} {I : MI} {L : ML} {R : MR} {mc : Nat} {ms : Nat} {MC MS : Nat} {Q : MK → MK → MI → ML → MR → Prop} (hC : ZOk X G RX12 cX12_init 1 none) (hRm : X.2.2.2.1 = { frames := 1, cells := MC, slots := MS, locals := 12 }) (hi : X.2.2.2.2.2.2.2.2.1.name = "<init>") (h : w_X12_init_120 x0 K N I L R mc ms MC MS Q) : Z X G 1 mc ms (z_T X G (qKv Q) MC MS) K N I L R 120 [(0, .ref x0)] [] := by
  delta w_X12_init_120 at h
  refine z_aload_n hC (q := 0) dX12_init_120 rfl rfl ?_
  refine z_sipush hC (v := 256) k_sipush_256 dX12_init_121 ?_
  obtain ⟨hl141a, hl141b, h⟩ := h
  obtain ⟨hm142a, hm142b, h⟩ := h
  refine z_newarr14 hC dX12_init_124 hl141a hl141b (by rw [hRm]; exact ⟨hm142a, hm142b⟩) (fun q143 hq143 => ?_)
  have h := h q143 hq143
  refine z_genK (fun K144 eK144 => ?_)
  have h := h K144 eK144
  refine z_genN (fun N145 eN145 => ?_)
  have h := h N145 eN145
  refine z_genI (fun I146 eI146 => ?_)
  have h := h I146 eI146
  refine z_genL (fun L147 eL147 => ?_)
  have h := h L147 eL147
  refine z_genR (fun R148 eR148 => ?_)
  have h := h R148 eR148
  obtain ⟨hk149, h⟩ := h
  refine pf_RX12_139 hC dX12_init_126 hk149 hi ?_
  refine z_genR (fun R150 eR150 => ?_)
  have h := h R150 eR150
  exact z_sub [(0, .ref x0)] [0] rfl (z_X12_init_129 hC hRm hi h)
set_option maxHeartbeats 4000000 in
set_option maxRecDepth 100000 in
theorem z_X12_init_112 {X : ZX} {G : ZG} {x0 : Nat}  {K : MK} {N : MK} {I : MI} {L : ML} {R : MR} {mc : Nat} {ms : Nat} {MC MS : Nat} {Q : MK → MK → MI → ML → MR → Prop} (hC : ZOk X G RX12 cX12_init 1 none) (hRm : X.2.2.2.1 = { frames := 1, cells := MC, slots := MS, locals := 12 }) (hi : X.2.2.2.2.2.2.2.2.1.name = "<init>") (h : w_X12_init_112 x0 K N I L R mc ms MC MS Q) : Z X G 1 mc ms (z_T X G (qKv Q) MC MS) K N I L R 112 [(0, .ref x0)] [] := by
  delta w_X12_init_112 at h
  refine z_aload_n hC (q := 0) dX12_init_112 rfl rfl ?_
  refine z_bipush hC (v := 9) k_bipush_9 dX12_init_113 ?_
  obtain ⟨hl131a, hl131b, h⟩ := h
  obtain ⟨hm132a, hm132b, h⟩ := h
  refine z_newarr14 hC dX12_init_115 hl131a hl131b (by rw [hRm]; exact ⟨hm132a, hm132b⟩) (fun q133 hq133 => ?_)
  have h := h q133 hq133
  refine z_genK (fun K134 eK134 => ?_)
  have h := h K134 eK134
  refine z_genN (fun N135 eN135 => ?_)
  have h := h N135 eN135
  refine z_genI (fun I136 eI136 => ?_)
  have h := h I136 eI136
  refine z_genL (fun L137 eL137 => ?_)
  have h := h L137 eL137
  refine z_genR (fun R138 eR138 => ?_)
  have h := h R138 eR138
  obtain ⟨hk139, h⟩ := h
  refine pf_RX12_136 hC dX12_init_117 hk139 hi ?_
  refine z_genR (fun R140 eR140 => ?_)
  have h := h R140 eR140
  exact z_sub [(0, .ref x0)] [0] rfl (z_X12_init_120 hC hRm hi h)
set_option maxHeartbeats 4000000 in
set_option maxRecDepth 100000 in
theorem z_X12_init_104 {X : ZX} {G : ZG} {x0 : Nat}  {K : MK} {N : MK} {I : MI} {L : ML} {R : MR} {mc : Nat} {ms : Nat} {MC MS : Nat} {Q : MK → MK → MI → ML → MR → Prop} (hC : ZOk X G RX12 cX12_init 1 none) (hRm : X.2.2.2.1 = { frames := 1, cells := MC, slots := MS, locals := 12 }) (hi : X.2.2.2.2.2.2.2.2.1.name = "<init>") (h : w_X12_init_104 x0 K N I L R mc ms MC MS Q) : Z X G 1 mc ms (z_T X G (qKv Q) MC MS) K N I L R 104 [(0, .ref x0)] [] := by
  delta w_X12_init_104 at h
  refine z_aload_n hC (q := 0) dX12_init_104 rfl rfl ?_
  refine z_bipush hC (v := 10) k_bipush_10 dX12_init_105 ?_
  obtain ⟨hl121a, hl121b, h⟩ := h
  obtain ⟨hm122a, hm122b, h⟩ := h
  refine z_newarr14 hC dX12_init_107 hl121a hl121b (by rw [hRm]; exact ⟨hm122a, hm122b⟩) (fun q123 hq123 => ?_)
  have h := h q123 hq123
  refine z_genK (fun K124 eK124 => ?_)
  have h := h K124 eK124
  refine z_genN (fun N125 eN125 => ?_)
  have h := h N125 eN125
  refine z_genI (fun I126 eI126 => ?_)
  have h := h I126 eI126
  refine z_genL (fun L127 eL127 => ?_)
  have h := h L127 eL127
  refine z_genR (fun R128 eR128 => ?_)
  have h := h R128 eR128
  obtain ⟨hk129, h⟩ := h
  refine pf_RX12_133 hC dX12_init_109 hk129 hi ?_
  refine z_genR (fun R130 eR130 => ?_)
  have h := h R130 eR130
  exact z_sub [(0, .ref x0)] [0] rfl (z_X12_init_112 hC hRm hi h)
set_option maxHeartbeats 4000000 in
set_option maxRecDepth 100000 in
theorem z_X12_init_96 {X : ZX} {G : ZG} {x0 : Nat}  {K : MK} {N : MK} {I : MI} {L : ML} {R : MR} {mc : Nat} {ms : Nat} {MC MS : Nat} {Q : MK → MK → MI → ML → MR → Prop} (hC : ZOk X G RX12 cX12_init 1 none) (hRm : X.2.2.2.1 = { frames := 1, cells := MC, slots := MS, locals := 12 }) (hi : X.2.2.2.2.2.2.2.2.1.name = "<init>") (h : w_X12_init_96 x0 K N I L R mc ms MC MS Q) : Z X G 1 mc ms (z_T X G (qKv Q) MC MS) K N I L R 96 [(0, .ref x0)] [] := by
  delta w_X12_init_96 at h
  refine z_aload_n hC (q := 0) dX12_init_96 rfl rfl ?_
  refine z_bipush hC (v := 10) k_bipush_10 dX12_init_97 ?_
  obtain ⟨hl111a, hl111b, h⟩ := h
  obtain ⟨hm112a, hm112b, h⟩ := h
  refine z_newarr14 hC dX12_init_99 hl111a hl111b (by rw [hRm]; exact ⟨hm112a, hm112b⟩) (fun q113 hq113 => ?_)
  have h := h q113 hq113
  refine z_genK (fun K114 eK114 => ?_)
  have h := h K114 eK114
  refine z_genN (fun N115 eN115 => ?_)
  have h := h N115 eN115
  refine z_genI (fun I116 eI116 => ?_)
  have h := h I116 eI116
  refine z_genL (fun L117 eL117 => ?_)
  have h := h L117 eL117
  refine z_genR (fun R118 eR118 => ?_)
  have h := h R118 eR118
  obtain ⟨hk119, h⟩ := h
  refine pf_RX12_130 hC dX12_init_101 hk119 hi ?_
  refine z_genR (fun R120 eR120 => ?_)
  have h := h R120 eR120
  exact z_sub [(0, .ref x0)] [0] rfl (z_X12_init_104 hC hRm hi h)
set_option maxHeartbeats 4000000 in
set_option maxRecDepth 100000 in
theorem z_X12_init_89 {X : ZX} {G : ZG} {x0 : Nat}  {K : MK} {N : MK} {I : MI} {L : ML} {R : MR} {mc : Nat} {ms : Nat} {MC MS : Nat} {Q : MK → MK → MI → ML → MR → Prop} (hC : ZOk X G RX12 cX12_init 1 none) (hRm : X.2.2.2.1 = { frames := 1, cells := MC, slots := MS, locals := 12 }) (hi : X.2.2.2.2.2.2.2.2.1.name = "<init>") (h : w_X12_init_89 x0 K N I L R mc ms MC MS Q) : Z X G 1 mc ms (z_T X G (qKv Q) MC MS) K N I L R 89 [(0, .ref x0)] [] := by
  delta w_X12_init_89 at h
  refine z_aload_n hC (q := 0) dX12_init_89 rfl rfl ?_
  refine z_iconst hC (v := 2) k_iconst_2 dX12_init_90 ?_
  obtain ⟨hl101a, hl101b, h⟩ := h
  obtain ⟨hm102a, hm102b, h⟩ := h
  refine z_newarr16 hC dX12_init_91 hl101a hl101b (by rw [hRm]; exact ⟨hm102a, hm102b⟩) (fun q103 hq103 => ?_)
  have h := h q103 hq103
  refine z_genK (fun K104 eK104 => ?_)
  have h := h K104 eK104
  refine z_genN (fun N105 eN105 => ?_)
  have h := h N105 eN105
  refine z_genI (fun I106 eI106 => ?_)
  have h := h I106 eI106
  refine z_genL (fun L107 eL107 => ?_)
  have h := h L107 eL107
  refine z_genR (fun R108 eR108 => ?_)
  have h := h R108 eR108
  obtain ⟨hk109, h⟩ := h
  refine pf_RX12_126 hC dX12_init_93 hk109 hi ?_
  refine z_genR (fun R110 eR110 => ?_)
  have h := h R110 eR110
  exact z_sub [(0, .ref x0)] [0] rfl (z_X12_init_96 hC hRm hi h)
set_option maxHeartbeats 4000000 in
set_option maxRecDepth 100000 in
theorem z_X12_init_81 {X : ZX} {G : ZG} {x0 : Nat}  {K : MK} {N : MK} {I : MI} {L : ML} {R : MR} {mc : Nat} {ms : Nat} {MC MS : Nat} {Q : MK → MK → MI → ML → MR → Prop} (hC : ZOk X G RX12 cX12_init 1 none) (hRm : X.2.2.2.1 = { frames := 1, cells := MC, slots := MS, locals := 12 }) (hi : X.2.2.2.2.2.2.2.2.1.name = "<init>") (h : w_X12_init_81 x0 K N I L R mc ms MC MS Q) : Z X G 1 mc ms (z_T X G (qKv Q) MC MS) K N I L R 81 [(0, .ref x0)] [] := by
  delta w_X12_init_81 at h
  refine z_aload_n hC (q := 0) dX12_init_81 rfl rfl ?_
  refine z_bipush hC (v := 52) k_bipush_52 dX12_init_82 ?_
  obtain ⟨hl91a, hl91b, h⟩ := h
  obtain ⟨hm92a, hm92b, h⟩ := h
  refine z_newarr15 hC dX12_init_84 hl91a hl91b (by rw [hRm]; exact ⟨hm92a, hm92b⟩) (fun q93 hq93 => ?_)
  have h := h q93 hq93
  refine z_genK (fun K94 eK94 => ?_)
  have h := h K94 eK94
  refine z_genN (fun N95 eN95 => ?_)
  have h := h N95 eN95
  refine z_genI (fun I96 eI96 => ?_)
  have h := h I96 eI96
  refine z_genL (fun L97 eL97 => ?_)
  have h := h L97 eL97
  refine z_genR (fun R98 eR98 => ?_)
  have h := h R98 eR98
  obtain ⟨hk99, h⟩ := h
  refine pf_RX12_123 hC dX12_init_86 hk99 hi ?_
  refine z_genR (fun R100 eR100 => ?_)
  have h := h R100 eR100
  exact z_sub [(0, .ref x0)] [0] rfl (z_X12_init_89 hC hRm hi h)
set_option maxHeartbeats 4000000 in
set_option maxRecDepth 100000 in
theorem z_X12_init_73 {X : ZX} {G : ZG} {x0 : Nat}  {K : MK} {N : MK} {I : MI} {L : ML} {R : MR} {mc : Nat} {ms : Nat} {MC MS : Nat} {Q : MK → MK → MI → ML → MR → Prop} (hC : ZOk X G RX12 cX12_init 1 none) (hRm : X.2.2.2.1 = { frames := 1, cells := MC, slots := MS, locals := 12 }) (hi : X.2.2.2.2.2.2.2.2.1.name = "<init>") (h : w_X12_init_73 x0 K N I L R mc ms MC MS Q) : Z X G 1 mc ms (z_T X G (qKv Q) MC MS) K N I L R 73 [(0, .ref x0)] [] := by
  delta w_X12_init_73 at h
  refine z_aload_n hC (q := 0) dX12_init_73 rfl rfl ?_
  refine z_bipush hC (v := 26) k_bipush_26 dX12_init_74 ?_
  obtain ⟨hl81a, hl81b, h⟩ := h
  obtain ⟨hm82a, hm82b, h⟩ := h
  refine z_newarr15 hC dX12_init_76 hl81a hl81b (by rw [hRm]; exact ⟨hm82a, hm82b⟩) (fun q83 hq83 => ?_)
  have h := h q83 hq83
  refine z_genK (fun K84 eK84 => ?_)
  have h := h K84 eK84
  refine z_genN (fun N85 eN85 => ?_)
  have h := h N85 eN85
  refine z_genI (fun I86 eI86 => ?_)
  have h := h I86 eI86
  refine z_genL (fun L87 eL87 => ?_)
  have h := h L87 eL87
  refine z_genR (fun R88 eR88 => ?_)
  have h := h R88 eR88
  obtain ⟨hk89, h⟩ := h
  refine pf_RX12_120 hC dX12_init_78 hk89 hi ?_
  refine z_genR (fun R90 eR90 => ?_)
  have h := h R90 eR90
  exact z_sub [(0, .ref x0)] [0] rfl (z_X12_init_81 hC hRm hi h)
set_option maxHeartbeats 4000000 in
set_option maxRecDepth 100000 in
theorem z_X12_init_65 {X : ZX} {G : ZG} {x0 : Nat}  {K : MK} {N : MK} {I : MI} {L : ML} {R : MR} {mc : Nat} {ms : Nat} {MC MS : Nat} {Q : MK → MK → MI → ML → MR → Prop} (hC : ZOk X G RX12 cX12_init 1 none) (hRm : X.2.2.2.1 = { frames := 1, cells := MC, slots := MS, locals := 12 }) (hi : X.2.2.2.2.2.2.2.2.1.name = "<init>") (h : w_X12_init_65 x0 K N I L R mc ms MC MS Q) : Z X G 1 mc ms (z_T X G (qKv Q) MC MS) K N I L R 65 [(0, .ref x0)] [] := by
  delta w_X12_init_65 at h
  refine z_aload_n hC (q := 0) dX12_init_65 rfl rfl ?_
  refine z_bipush hC (v := 26) k_bipush_26 dX12_init_66 ?_
  obtain ⟨hl71a, hl71b, h⟩ := h
  obtain ⟨hm72a, hm72b, h⟩ := h
  refine z_newarr15 hC dX12_init_68 hl71a hl71b (by rw [hRm]; exact ⟨hm72a, hm72b⟩) (fun q73 hq73 => ?_)
  have h := h q73 hq73
  refine z_genK (fun K74 eK74 => ?_)
  have h := h K74 eK74
  refine z_genN (fun N75 eN75 => ?_)
  have h := h N75 eN75
  refine z_genI (fun I76 eI76 => ?_)
  have h := h I76 eI76
  refine z_genL (fun L77 eL77 => ?_)
  have h := h L77 eL77
  refine z_genR (fun R78 eR78 => ?_)
  have h := h R78 eR78
  obtain ⟨hk79, h⟩ := h
  refine pf_RX12_116 hC dX12_init_70 hk79 hi ?_
  refine z_genR (fun R80 eR80 => ?_)
  have h := h R80 eR80
  exact z_sub [(0, .ref x0)] [0] rfl (z_X12_init_73 hC hRm hi h)
set_option maxHeartbeats 4000000 in
set_option maxRecDepth 100000 in
theorem z_X12_init_57 {X : ZX} {G : ZG} {x0 : Nat}  {K : MK} {N : MK} {I : MI} {L : ML} {R : MR} {mc : Nat} {ms : Nat} {MC MS : Nat} {Q : MK → MK → MI → ML → MR → Prop} (hC : ZOk X G RX12 cX12_init 1 none) (hRm : X.2.2.2.1 = { frames := 1, cells := MC, slots := MS, locals := 12 }) (hi : X.2.2.2.2.2.2.2.2.1.name = "<init>") (h : w_X12_init_57 x0 K N I L R mc ms MC MS Q) : Z X G 1 mc ms (z_T X G (qKv Q) MC MS) K N I L R 57 [(0, .ref x0)] [] := by
  delta w_X12_init_57 at h
  refine z_aload_n hC (q := 0) dX12_init_57 rfl rfl ?_
  refine z_bipush hC (v := 83) k_bipush_83 dX12_init_58 ?_
  obtain ⟨hl61a, hl61b, h⟩ := h
  obtain ⟨hm62a, hm62b, h⟩ := h
  refine z_newarr14 hC dX12_init_60 hl61a hl61b (by rw [hRm]; exact ⟨hm62a, hm62b⟩) (fun q63 hq63 => ?_)
  have h := h q63 hq63
  refine z_genK (fun K64 eK64 => ?_)
  have h := h K64 eK64
  refine z_genN (fun N65 eN65 => ?_)
  have h := h N65 eN65
  refine z_genI (fun I66 eI66 => ?_)
  have h := h I66 eI66
  refine z_genL (fun L67 eL67 => ?_)
  have h := h L67 eL67
  refine z_genR (fun R68 eR68 => ?_)
  have h := h R68 eR68
  obtain ⟨hk69, h⟩ := h
  refine pf_RX12_113 hC dX12_init_62 hk69 hi ?_
  refine z_genR (fun R70 eR70 => ?_)
  have h := h R70 eR70
  exact z_sub [(0, .ref x0)] [0] rfl (z_X12_init_65 hC hRm hi h)
set_option maxHeartbeats 4000000 in
set_option maxRecDepth 100000 in
theorem z_X12_init_49 {X : ZX} {G : ZG} {x0 : Nat}  {K : MK} {N : MK} {I : MI} {L : ML} {R : MR} {mc : Nat} {ms : Nat} {MC MS : Nat} {Q : MK → MK → MI → ML → MR → Prop} (hC : ZOk X G RX12 cX12_init 1 none) (hRm : X.2.2.2.1 = { frames := 1, cells := MC, slots := MS, locals := 12 }) (hi : X.2.2.2.2.2.2.2.2.1.name = "<init>") (h : w_X12_init_49 x0 K N I L R mc ms MC MS Q) : Z X G 1 mc ms (z_T X G (qKv Q) MC MS) K N I L R 49 [(0, .ref x0)] [] := by
  delta w_X12_init_49 at h
  refine z_aload_n hC (q := 0) dX12_init_49 rfl rfl ?_
  refine z_bipush hC (v := 83) k_bipush_83 dX12_init_50 ?_
  obtain ⟨hl51a, hl51b, h⟩ := h
  obtain ⟨hm52a, hm52b, h⟩ := h
  refine z_newarr14 hC dX12_init_52 hl51a hl51b (by rw [hRm]; exact ⟨hm52a, hm52b⟩) (fun q53 hq53 => ?_)
  have h := h q53 hq53
  refine z_genK (fun K54 eK54 => ?_)
  have h := h K54 eK54
  refine z_genN (fun N55 eN55 => ?_)
  have h := h N55 eN55
  refine z_genI (fun I56 eI56 => ?_)
  have h := h I56 eI56
  refine z_genL (fun L57 eL57 => ?_)
  have h := h L57 eL57
  refine z_genR (fun R58 eR58 => ?_)
  have h := h R58 eR58
  obtain ⟨hk59, h⟩ := h
  refine pf_RX12_110 hC dX12_init_54 hk59 hi ?_
  refine z_genR (fun R60 eR60 => ?_)
  have h := h R60 eR60
  exact z_sub [(0, .ref x0)] [0] rfl (z_X12_init_57 hC hRm hi h)
set_option maxHeartbeats 4000000 in
set_option maxRecDepth 100000 in
theorem z_X12_init_40 {X : ZX} {G : ZG} {x0 : Nat}  {K : MK} {N : MK} {I : MI} {L : ML} {R : MR} {mc : Nat} {ms : Nat} {MC MS : Nat} {Q : MK → MK → MI → ML → MR → Prop} (hC : ZOk X G RX12 cX12_init 1 none) (hRm : X.2.2.2.1 = { frames := 1, cells := MC, slots := MS, locals := 12 }) (hi : X.2.2.2.2.2.2.2.2.1.name = "<init>") (h : w_X12_init_40 x0 K N I L R mc ms MC MS Q) : Z X G 1 mc ms (z_T X G (qKv Q) MC MS) K N I L R 40 [(0, .ref x0)] [] := by
  delta w_X12_init_40 at h
  refine z_aload_n hC (q := 0) dX12_init_40 rfl rfl ?_
  refine z_sipush hC (v := 664) k_sipush_664 dX12_init_41 ?_
  obtain ⟨hl41a, hl41b, h⟩ := h
  obtain ⟨hm42a, hm42b, h⟩ := h
  refine z_newarr14 hC dX12_init_44 hl41a hl41b (by rw [hRm]; exact ⟨hm42a, hm42b⟩) (fun q43 hq43 => ?_)
  have h := h q43 hq43
  refine z_genK (fun K44 eK44 => ?_)
  have h := h K44 eK44
  refine z_genN (fun N45 eN45 => ?_)
  have h := h N45 eN45
  refine z_genI (fun I46 eI46 => ?_)
  have h := h I46 eI46
  refine z_genL (fun L47 eL47 => ?_)
  have h := h L47 eL47
  refine z_genR (fun R48 eR48 => ?_)
  have h := h R48 eR48
  obtain ⟨hk49, h⟩ := h
  refine pf_RX12_107 hC dX12_init_46 hk49 hi ?_
  refine z_genR (fun R50 eR50 => ?_)
  have h := h R50 eR50
  exact z_sub [(0, .ref x0)] [0] rfl (z_X12_init_49 hC hRm hi h)
set_option maxHeartbeats 4000000 in
set_option maxRecDepth 100000 in
theorem z_X12_init_31 {X : ZX} {G : ZG} {x0 : Nat}  {K : MK} {N : MK} {I : MI} {L : ML} {R : MR} {mc : Nat} {ms : Nat} {MC MS : Nat} {Q : MK → MK → MI → ML → MR → Prop} (hC : ZOk X G RX12 cX12_init 1 none) (hRm : X.2.2.2.1 = { frames := 1, cells := MC, slots := MS, locals := 12 }) (hi : X.2.2.2.2.2.2.2.2.1.name = "<init>") (h : w_X12_init_31 x0 K N I L R mc ms MC MS Q) : Z X G 1 mc ms (z_T X G (qKv Q) MC MS) K N I L R 31 [(0, .ref x0)] [] := by
  delta w_X12_init_31 at h
  refine z_aload_n hC (q := 0) dX12_init_31 rfl rfl ?_
  refine z_sipush hC (v := 1334) k_sipush_1334 dX12_init_32 ?_
  obtain ⟨hl31a, hl31b, h⟩ := h
  obtain ⟨hm32a, hm32b, h⟩ := h
  refine z_newarr14 hC dX12_init_35 hl31a hl31b (by rw [hRm]; exact ⟨hm32a, hm32b⟩) (fun q33 hq33 => ?_)
  have h := h q33 hq33
  refine z_genK (fun K34 eK34 => ?_)
  have h := h K34 eK34
  refine z_genN (fun N35 eN35 => ?_)
  have h := h N35 eN35
  refine z_genI (fun I36 eI36 => ?_)
  have h := h I36 eI36
  refine z_genL (fun L37 eL37 => ?_)
  have h := h L37 eL37
  refine z_genR (fun R38 eR38 => ?_)
  have h := h R38 eR38
  obtain ⟨hk39, h⟩ := h
  refine pf_RX12_104 hC dX12_init_37 hk39 hi ?_
  refine z_genR (fun R40 eR40 => ?_)
  have h := h R40 eR40
  exact z_sub [(0, .ref x0)] [0] rfl (z_X12_init_40 hC hRm hi h)
set_option maxHeartbeats 4000000 in
set_option maxRecDepth 100000 in
theorem z_X12_init_22 {X : ZX} {G : ZG} {x0 : Nat}  {K : MK} {N : MK} {I : MI} {L : ML} {R : MR} {mc : Nat} {ms : Nat} {MC MS : Nat} {Q : MK → MK → MI → ML → MR → Prop} (hC : ZOk X G RX12 cX12_init 1 none) (hRm : X.2.2.2.1 = { frames := 1, cells := MC, slots := MS, locals := 12 }) (hi : X.2.2.2.2.2.2.2.2.1.name = "<init>") (h : w_X12_init_22 x0 K N I L R mc ms MC MS Q) : Z X G 1 mc ms (z_T X G (qKv Q) MC MS) K N I L R 22 [(0, .ref x0)] [] := by
  delta w_X12_init_22 at h
  refine z_aload_n hC (q := 0) dX12_init_22 rfl rfl ?_
  refine z_sipush hC (v := 342) k_sipush_342 dX12_init_23 ?_
  obtain ⟨hl21a, hl21b, h⟩ := h
  obtain ⟨hm22a, hm22b, h⟩ := h
  refine z_newarr14 hC dX12_init_26 hl21a hl21b (by rw [hRm]; exact ⟨hm22a, hm22b⟩) (fun q23 hq23 => ?_)
  have h := h q23 hq23
  refine z_genK (fun K24 eK24 => ?_)
  have h := h K24 eK24
  refine z_genN (fun N25 eN25 => ?_)
  have h := h N25 eN25
  refine z_genI (fun I26 eI26 => ?_)
  have h := h I26 eI26
  refine z_genL (fun L27 eL27 => ?_)
  have h := h L27 eL27
  refine z_genR (fun R28 eR28 => ?_)
  have h := h R28 eR28
  obtain ⟨hk29, h⟩ := h
  refine pf_RX12_101 hC dX12_init_28 hk29 hi ?_
  refine z_genR (fun R30 eR30 => ?_)
  have h := h R30 eR30
  exact z_sub [(0, .ref x0)] [0] rfl (z_X12_init_31 hC hRm hi h)
set_option maxHeartbeats 4000000 in
set_option maxRecDepth 100000 in
theorem z_X12_init_13 {X : ZX} {G : ZG} {x0 : Nat}  {K : MK} {N : MK} {I : MI} {L : ML} {R : MR} {mc : Nat} {ms : Nat} {MC MS : Nat} {Q : MK → MK → MI → ML → MR → Prop} (hC : ZOk X G RX12 cX12_init 1 none) (hRm : X.2.2.2.1 = { frames := 1, cells := MC, slots := MS, locals := 12 }) (hi : X.2.2.2.2.2.2.2.2.1.name = "<init>") (h : w_X12_init_13 x0 K N I L R mc ms MC MS Q) : Z X G 1 mc ms (z_T X G (qKv Q) MC MS) K N I L R 13 [(0, .ref x0)] [] := by
  delta w_X12_init_13 at h
  refine z_aload_n hC (q := 0) dX12_init_13 rfl rfl ?_
  refine z_sipush hC (v := 667) k_sipush_667 dX12_init_14 ?_
  obtain ⟨hl11a, hl11b, h⟩ := h
  obtain ⟨hm12a, hm12b, h⟩ := h
  refine z_newarr14 hC dX12_init_17 hl11a hl11b (by rw [hRm]; exact ⟨hm12a, hm12b⟩) (fun q13 hq13 => ?_)
  have h := h q13 hq13
  refine z_genK (fun K14 eK14 => ?_)
  have h := h K14 eK14
  refine z_genN (fun N15 eN15 => ?_)
  have h := h N15 eN15
  refine z_genI (fun I16 eI16 => ?_)
  have h := h I16 eI16
  refine z_genL (fun L17 eL17 => ?_)
  have h := h L17 eL17
  refine z_genR (fun R18 eR18 => ?_)
  have h := h R18 eR18
  obtain ⟨hk19, h⟩ := h
  refine pf_RX12_98 hC dX12_init_19 hk19 hi ?_
  refine z_genR (fun R20 eR20 => ?_)
  have h := h R20 eR20
  exact z_sub [(0, .ref x0)] [0] rfl (z_X12_init_22 hC hRm hi h)
set_option maxHeartbeats 4000000 in
set_option maxRecDepth 100000 in
theorem z_X12_init_4 {X : ZX} {G : ZG} {x0 : Nat}  {K : MK} {N : MK} {I : MI} {L : ML} {R : MR} {mc : Nat} {ms : Nat} {MC MS : Nat} {Q : MK → MK → MI → ML → MR → Prop} (hC : ZOk X G RX12 cX12_init 1 none) (hRm : X.2.2.2.1 = { frames := 1, cells := MC, slots := MS, locals := 12 }) (hi : X.2.2.2.2.2.2.2.2.1.name = "<init>") (h : w_X12_init_4 x0 K N I L R mc ms MC MS Q) : Z X G 1 mc ms (z_T X G (qKv Q) MC MS) K N I L R 4 [(0, .ref x0)] [] := by
  delta w_X12_init_4 at h
  refine z_aload_n hC (q := 0) dX12_init_4 rfl rfl ?_
  refine z_sipush hC (v := 940) k_sipush_940 dX12_init_5 ?_
  obtain ⟨hl1a, hl1b, h⟩ := h
  obtain ⟨hm2a, hm2b, h⟩ := h
  refine z_newarr14 hC dX12_init_8 hl1a hl1b (by rw [hRm]; exact ⟨hm2a, hm2b⟩) (fun q3 hq3 => ?_)
  have h := h q3 hq3
  refine z_genK (fun K4 eK4 => ?_)
  have h := h K4 eK4
  refine z_genN (fun N5 eN5 => ?_)
  have h := h N5 eN5
  refine z_genI (fun I6 eI6 => ?_)
  have h := h I6 eI6
  refine z_genL (fun L7 eL7 => ?_)
  have h := h L7 eL7
  refine z_genR (fun R8 eR8 => ?_)
  have h := h R8 eR8
  obtain ⟨hk9, h⟩ := h
  refine pf_RX12_7 hC dX12_init_10 hk9 hi ?_
  refine z_genR (fun R10 eR10 => ?_)
  have h := h R10 eR10
  exact z_sub [(0, .ref x0)] [0] rfl (z_X12_init_13 hC hRm hi h)
set_option maxHeartbeats 4000000 in
set_option maxRecDepth 100000 in
theorem c_X12_init (l : Launch) (G : ZG) (a0 : Nat) (K : MK) (N : MK) (I : MI) (L : ML) (R : MR) (MC MS : Nat) (Q : MK → MK → MI → ML → MR → Prop) (h : w_X12_init a0 K N I L R MC MS Q) : Met l yX12_init (.code yX12_init cX12_init 1 none :: z_tbl) { frames := 1, cells := MC, slots := MS, locals := 12 } (z_Pc G [.ref a0] K N I L R) (z_Qc G (qKv Q)) MC MS (z_A G) := by
  refine z_met (by decide) (Nat.le_of_ble_eq_true rfl) (fun X hX hRm hC0 hnm => ?_)
  subst hX
  have hi : X.2.2.2.2.2.2.2.2.1.name = "<init>" := hnm
  have hC : ZOk X G RX12 cX12_init 1 none := hC0
  show Z X G 1 0 0 _ K N I L R 0 [(0, .ref a0)] []
  delta w_X12_init at h
  refine z_aload_n hC (q := 0) dX12_init_0 rfl rfl ?_
  refine z_objInit hC ml_RX12_93 dX12_init_1 (by rw [hRm]; exact ⟨Nat.le_of_ble_eq_true rfl, Nat.le_of_ble_eq_true rfl⟩) (Nat.le_of_ble_eq_true rfl) ?_
  exact z_sub [(0, .ref a0)] [0] rfl (z_X12_init_4 hC hRm hi h)
