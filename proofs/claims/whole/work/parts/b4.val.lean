theorem z_widX {X : ZX} {G : ZG} {n : Nat} {QG : PostT} {XC : String → State → State → Prop} {K N : MK} {I : MI} {L : ML} {R : MR} {pc : Nat} {lv : List (Nat × Value)} {st : List Value} {mc ms : Nat} (h : Z X G n mc ms (z_T X G QG mc ms) K N I L R pc lv st) : Z X G n 0 0 (vx_MQ X.2.2.2.2.2.2.2.1 (z_Qc G QG) XC X.2.2.2.2.2.2.1 X.2.2.2.2.1 mc ms (z_A G)) K N I L R pc lv st :=
  fun H locs ls hR hS hl => W.widen (Nat.zero_le _) (Nat.zero_le _) (vx_ret (h H locs ls hR hS hl))
theorem z_retX {X : ZX} {G : ZG} {n : Nat} {QG : PostT} {XC : String → State → State → Prop} {K N : MK} {I : MI} {L : ML} {R : MR} {pc : Nat} {lv : List (Nat × Value)} {st : List Value} {mc ms : Nat} (h : Z X G n mc ms (z_T X G QG mc ms) K N I L R pc lv st) : Z X G n mc ms (vx_MQ X.2.2.2.2.2.2.2.1 (z_Qc G QG) XC X.2.2.2.2.2.2.1 X.2.2.2.2.1 mc ms (z_A G)) K N I L R pc lv st :=
  fun H locs ls hR hS hl => vx_ret (h H locs ls hR hS hl)
/-- thrown: the heap may be greater, the rest is as told -/
def zTX (K N : MK) (L : ML) (R : MR) (QT : MI → Prop) : MK → MK → MI → ML → MR → Prop := fun K1 N1 I1 L1 R1 => K1 = K ∧ (∃ nn, N 0 ≤ nn ∧ N1 = kup N 0 nn) ∧ L1 = L ∧ R1 = R ∧ QT I1
abbrev rm_value : Room := { frames := 6, cells := 1, slots := 6, locals := 110 }
theorem c_X11_value (l : Launch) (hfl : l.stackTraces = false) (G : ZG) {x : Nat} {a b : Int32} {K N : MK} {I : MI} {L : ML} {R : MR} {QR : Int32 → MI → Prop} {QT : MI → Prop} (hX : PDL K N R x) (h : w_X7_has (x + 3 + 10) a K N I L R (fun r => (r = false → QT I) ∧ (r = true → w_X2_look (x + 28) (x + 3) (x + 19) a b K N I L R (fun v J => (¬ v = 0 → QT J) ∧ (v = 0 → QR (J (x + 28) 2) J))))) :
    vx_Met l yX11_value (.code yX11_value cX11_value 3 (some .int) :: z_tbl) rm_value (z_PcX G [.ref x, .int a, .int b] K N I L R) (z_Qc G (qIi K N L R QR)) (zXC G (zTX K N L R QT)) 1 6 (z_A G) := by
  refine z_metX (by decide) (Nat.le_of_ble_eq_true rfl) (fun X hX0 hRm hC0 hZ hno => ?_)
  subst hX0
  have hC : ZOk X G RX11 cX11_value 3 (some .int) := hC0
  show Z X G 3 0 0 _ K N I L R 0 [(0, .ref x), (1, .int a), (2, .int b)] []
  have hT4 := hX.un.2.2.2.2.1
  have hK4 := hX.un.2.2.2.2.2.2.2.2.2.1.1
  have hrm : 6 ≤ X.2.2.2.1.frames ∧ 100 ≤ X.2.2.2.1.locals ∧ 1 ≤ X.2.2.2.1.cells ∧ 6 ≤ X.2.2.2.1.slots := by rw [hRm]; exact ⟨Nat.le_of_ble_eq_true rfl, Nat.le_of_ble_eq_true rfl, Nat.le_of_ble_eq_true rfl, Nat.le_of_ble_eq_true rfl⟩
  refine z_aload_n hC (q := 0) dX11_value_0 rfl rfl ?_
  refine gf_RX11_19 hC dX11_value_1 hX.k hX.r_unit ?_
  refine gf_RX11_174 hC dX11_value_4 hX.un.1 hT4 ?_
  refine z_iload_n hC (q := 1) dX11_value_7 rfl rfl ?_
  refine cl_RX11_153 hC (c_X7_has _ _ _ _ _ _ _ _ _ _ h) hK4 dX11_value_8 (by rw [hRm]; exact ⟨Nat.le_of_ble_eq_true rfl, Nat.le_of_ble_eq_true rfl⟩) ⟨Nat.zero_le _, Nat.zero_le _⟩ (by decide) ?_
  rintro _ _ _ _ _ _ ⟨r, rfl, rfl, rfl, rfl, rfl, rfl, h0, h1⟩
  refine z_if_eq hC (tgt := 34) dX11_value_11 (by decide) (fun hc => ?_) (fun hc => ?_)
  · exact z_throwS hC hZ hfl hno dX11_value_34 dX11_value_37 dX11_value_38 dX11_value_40 dX11_value_43 hrm (fun nn hn => ⟨rfl, ⟨nn, hn, rfl⟩, rfl, rfl, h0 (by cases r with | false => rfl | true => exact absurd hc (by decide))⟩)
  have h2 := h1 (by cases r with | true => rfl | false => exact absurd rfl hc)
  refine z_aload_n hC (q := 0) dX11_value_14 rfl rfl ?_
  refine gf_RX11_44 hC dX11_value_15 hX.k hX.r_finder ?_
  refine z_aload_n hC (q := 0) dX11_value_18 rfl rfl ?_
  refine gf_RX11_19 hC dX11_value_19 hX.k hX.r_unit ?_
  refine z_aload_n hC (q := 0) dX11_value_22 rfl rfl ?_
  refine gf_RX11_26 hC dX11_value_23 hX.k hX.r_machine ?_
  refine z_iload_n hC (q := 1) dX11_value_26 rfl rfl ?_
  refine z_iload_n hC (q := 2) dX11_value_27 rfl rfl ?_
  refine cl_RX11_204 hC (c_X2_look _ _ _ _ _ _ _ _ _ _ _ _ _ h2) hX.fin dX11_value_28 (by rw [hRm]; exact ⟨Nat.le_of_ble_eq_true rfl, Nat.le_of_ble_eq_true rfl⟩) ⟨Nat.zero_le _, Nat.zero_le _⟩ (by decide) ?_
  rintro _ _ _ _ _ _ ⟨v, rfl, rfl, rfl, rfl, rfl, h3, h4⟩
  refine z_if_eq hC (tgt := 44) dX11_value_31 (by decide) (fun hc => ?_) (fun hc => ?_)
  · refine z_aload_n hC (q := 0) dX11_value_44 rfl rfl ?_
    refine gf_RX11_44 hC dX11_value_45 hX.k hX.r_finder ?_
    refine gf_RX11_215 hC dX11_value_48 hX.fin ?_
    refine z_widX ?_
    exact z_iret hC dX11_value_51 ⟨_, rfl, rfl, rfl, rfl, rfl, h4 hc⟩
  · exact z_throwS hC hZ hfl hno dX11_value_34 dX11_value_37 dX11_value_38 dX11_value_40 dX11_value_43 hrm (fun nn hn => ⟨rfl, ⟨nn, hn, rfl⟩, rfl, rfl, h3 hc⟩)
theorem c_X11_cover (l : Launch) (hfl : l.stackTraces = false) (G : ZG) {x : Nat} {a b : Int32} {K N : MK} {I : MI} {L : ML} {R : MR} {QR : Int32 → MI → Prop} {QT : MI → Prop} (hX : PDL K N R x) (h : w_X7_has (x + 3 + 10) a K N I L R (fun r => (r = false → QT I) ∧ (r = true → (¬ b = 0 → ¬ b = 1 → QT I) ∧ (b = 0 ∨ b = 1 → w_X9_covered (x + 3) a K N I L R (fun c => w_X7_at (x + 3 + 10) a 0 K N I L R (fun s => w_X9_scopeLength (x + 3) s K N I L R (fun d => w_X11_commonDivisor c d K N I L R (fun g => (b = 0 → (g ≤ 0 → QR c I) ∧ (¬ g ≤ 0 → QR (c / g) I)) ∧ (¬ b = 0 → (g ≤ 0 → QR d I) ∧ (¬ g ≤ 0 → QR (d / g) I)))))))))) :
    vx_Met l yX11_cover (.code yX11_cover cX11_cover 7 (some .int) :: z_tbl) rm_value (z_PcX G [.ref x, .int a, .int b] K N I L R) (z_Qc G (qIi K N L R QR)) (zXC G (zTX K N L R QT)) 1 6 (z_A G) := by
  refine z_metX (by decide) (Nat.le_of_ble_eq_true rfl) (fun X hX0 hRm hC0 hZ hno => ?_)
  subst hX0
  have hC : ZOk X G RX11 cX11_cover 7 (some .int) := hC0
  show Z X G 7 0 0 _ K N I L R 0 [(0, .ref x), (1, .int a), (2, .int b)] []
  have hT4 := hX.un.2.2.2.2.1
  have hK4 := hX.un.2.2.2.2.2.2.2.2.2.1.1
  have hrm : 6 ≤ X.2.2.2.1.frames ∧ 100 ≤ X.2.2.2.1.locals ∧ 1 ≤ X.2.2.2.1.cells ∧ 6 ≤ X.2.2.2.1.slots := by rw [hRm]; exact ⟨Nat.le_of_ble_eq_true rfl, Nat.le_of_ble_eq_true rfl, Nat.le_of_ble_eq_true rfl, Nat.le_of_ble_eq_true rfl⟩
  refine z_aload_n hC (q := 0) dX11_cover_0 rfl rfl ?_
  refine gf_RX11_19 hC dX11_cover_1 hX.k hX.r_unit ?_
  refine gf_RX11_174 hC dX11_cover_4 hX.un.1 hT4 ?_
  refine z_iload_n hC (q := 1) dX11_cover_7 rfl rfl ?_
  refine cl_RX11_153 hC (c_X7_has _ _ _ _ _ _ _ _ _ _ h) hK4 dX11_cover_8 (by rw [hRm]; exact ⟨Nat.le_of_ble_eq_true rfl, Nat.le_of_ble_eq_true rfl⟩) ⟨Nat.zero_le _, Nat.zero_le _⟩ (by decide) ?_
  rintro _ K N I L R ⟨r, rfl, rfl, rfl, rfl, rfl, rfl, h0, h1⟩
  refine z_if_eq hC (tgt := 23) dX11_cover_11 (by decide) (fun hc => ?_) (fun hc => ?_)
  · exact z_throwSW hC hZ hfl hno dX11_cover_23 dX11_cover_26 dX11_cover_27 dX11_cover_30 dX11_cover_33 hrm (fun nn hn => ⟨rfl, ⟨nn, hn, rfl⟩, rfl, rfl, h0 (by cases r with | false => rfl | true => exact absurd hc (by decide))⟩)
  obtain ⟨h2, h3⟩ := h1 (by cases r with | true => rfl | false => exact absurd rfl hc)
  refine z_iload_n hC (q := 2) dX11_cover_14 rfl rfl ?_
  have hgo : (b = 0 ∨ b = 1) → Z X G 7 0 0 (vx_MQ X.2.2.2.2.2.2.2.1 (z_Qc G (qIi K N L R QR)) (zXC G (zTX K N L R QT)) X.2.2.2.2.2.2.1 X.2.2.2.2.1 1 6 (z_A G)) K N I L R 34 [(0, .ref x), (1, .int a), (2, .int b)] [] := by
    intro hb
    have h3 := h3 hb
    refine z_aload_n hC (q := 0) dX11_cover_34 rfl rfl ?_
    refine gf_RX11_19 hC dX11_cover_35 hX.k hX.r_unit ?_
    refine z_iload_n hC (q := 1) dX11_cover_38 rfl rfl ?_
    refine z_callV (As := [.int a]) hC (c_X9_covered _ _ _ _ _ _ _ _ _ _ h3) (z_gV ml_RX11_269 im_X9_covered se_X9_covered ini_RX9 co_X9_covered) z_cls9 hX.un.1 ⟨rfl, rfl⟩ dX11_cover_39 (na := 1) (by decide) rfl (by rw [hRm]; exact ⟨Nat.le_of_ble_eq_true rfl, Nat.le_of_ble_eq_true rfl⟩) ⟨Nat.zero_le _, Nat.zero_le _⟩ rfl (by decide) ?_
    rintro _ K N I L R ⟨c, rfl, rfl, rfl, rfl, rfl, rfl, h4⟩
    refine z_istore_n hC (lv1 := [(3, .int c), (0, .ref x), (1, .int a), (2, .int b)]) dX11_cover_42 rfl (by decide) rfl ?_
    refine z_aload_n hC (q := 1) dX11_cover_43 rfl rfl ?_
    refine gf_RX11_19 hC dX11_cover_44 hX.k hX.r_unit ?_
    refine z_aload_n hC (q := 1) dX11_cover_47 rfl rfl ?_
    refine gf_RX11_19 hC dX11_cover_48 hX.k hX.r_unit ?_
    refine gf_RX11_174 hC dX11_cover_51 hX.un.1 hT4 ?_
    refine z_iload_n hC (q := 2) dX11_cover_54 rfl rfl ?_
    refine z_iconst hC (v := 0) (by decide) dX11_cover_55 ?_
    refine cl_RX11_157 hC (c_X7_at _ _ _ _ _ _ _ _ _ _ _ h4) hK4 dX11_cover_56 (by rw [hRm]; exact ⟨Nat.le_of_ble_eq_true rfl, Nat.le_of_ble_eq_true rfl⟩) ⟨Nat.zero_le _, Nat.zero_le _⟩ (Nat.le_of_ble_eq_true rfl) ?_
    rintro _ K N I L R ⟨s, rfl, rfl, rfl, rfl, rfl, rfl, h5⟩
    refine z_callV (As := [.int s]) hC (c_X9_scopeLength _ _ _ _ _ _ _ _ _ _ h5) (z_gV ml_RX11_272 im_X9_scopeLength se_X9_scopeLength ini_RX9 co_X9_scopeLength) z_cls9 hX.un.1 ⟨rfl, rfl⟩ dX11_cover_59 (na := 1) (by decide) rfl (by rw [hRm]; exact ⟨Nat.le_of_ble_eq_true rfl, Nat.le_of_ble_eq_true rfl⟩) ⟨Nat.zero_le _, Nat.zero_le _⟩ rfl (by decide) ?_
    rintro _ K N I L R ⟨d, rfl, rfl, rfl, rfl, rfl, rfl, h6⟩
    refine z_istore hC (lv1 := [(4, .int d), (3, .int c), (0, .ref x), (1, .int a), (2, .int b)]) dX11_cover_62 (by decide) rfl ?_
    refine z_iload_n hC (q := 1) dX11_cover_64 rfl rfl ?_
    refine z_iload hC (q := 0) dX11_cover_65 rfl ?_
    refine z_callS (a := 0) (As := [.int c, .int d]) hC (c_X11_commonDivisor _ _ _ _ _ _ _ _ _ _ h6) (z_gS ml_RX11_275 sm_X11_commonDivisor ini_RX11 co_X11_commonDivisor) ⟨rfl, rfl⟩ dX11_cover_67 (na := 2) (by decide) rfl (by rw [hRm]; exact ⟨Nat.le_of_ble_eq_true rfl, Nat.le_of_ble_eq_true rfl⟩) ⟨Nat.zero_le _, Nat.zero_le _⟩ rfl (by decide) ?_
    rintro _ K N I L R ⟨g, rfl, rfl, rfl, rfl, rfl, rfl, h7, h8⟩
    refine z_istore hC (lv1 := [(5, .int g), (4, .int d), (3, .int c), (0, .ref x), (1, .int a), (2, .int b)]) dX11_cover_70 (by decide) rfl ?_
    have hend : ∀ t : Int32, ((g ≤ 0 → QR t I) ∧ (¬ g ≤ 0 → QR (t / g) I)) → Z X G 7 0 0 (vx_MQ X.2.2.2.2.2.2.2.1 (z_Qc G (qIi K N L R QR)) (zXC G (zTX K N L R QT)) X.2.2.2.2.2.2.1 X.2.2.2.2.1 1 6 (z_A G)) K N I L R 82 [(5, .int g), (4, .int d), (3, .int c), (0, .ref x), (1, .int a), (2, .int b)] [.int t] := by
      intro t ht
      refine z_istore hC (lv1 := [(6, .int t), (5, .int g), (4, .int d), (3, .int c), (0, .ref x), (1, .int a), (2, .int b)]) dX11_cover_82 (by decide) rfl ?_
      refine z_iload hC (q := 1) dX11_cover_84 rfl ?_
      refine z_if_le hC (tgt := 97) dX11_cover_86 (by decide) (fun hg => ?_) (fun hg => ?_)
      · refine z_iload hC (q := 0) dX11_cover_97 rfl ?_
        refine z_widX ?_
        exact z_iret hC dX11_cover_99 ⟨_, rfl, rfl, rfl, rfl, rfl, ht.1 hg⟩
      · refine z_iload hC (q := 0) dX11_cover_89 rfl ?_
        refine z_iload hC (q := 1) dX11_cover_91 rfl ?_
        refine z_idiv hC (fun e => hg (by rw [e]; decide)) dX11_cover_93 ?_
        refine z_goto hC (tgt := 99) dX11_cover_94 (by decide) ?_
        refine z_widX ?_
        exact z_iret hC dX11_cover_99 ⟨_, rfl, rfl, rfl, rfl, rfl, ht.2 hg⟩
    refine z_iload_n hC (q := 5) dX11_cover_72 rfl rfl ?_
    refine z_if_ne hC (tgt := 80) dX11_cover_73 (by decide) (fun hz => ?_) (fun hz => ?_)
    · refine z_iload hC (q := 1) dX11_cover_80 rfl ?_
      exact hend d (h8 hz)
    · refine z_iload_n hC (q := 2) dX11_cover_76 rfl rfl ?_
      refine z_goto hC (tgt := 82) dX11_cover_77 (by decide) ?_
      exact hend c (h7 hz)
  refine z_if_eq hC (tgt := 34) dX11_cover_15 (by decide) (fun hz => hgo (Or.inl hz)) (fun hz => ?_)
  refine z_iload_n hC (q := 2) dX11_cover_18 rfl rfl ?_
  refine z_iconst hC (v := 1) (by decide) dX11_cover_19 ?_
  refine z_icmp_eq hC (tgt := 34) dX11_cover_20 (by decide) (fun h9 => hgo (Or.inr h9)) (fun h9 => ?_)
  exact z_throwSW hC hZ hfl hno dX11_cover_23 dX11_cover_26 dX11_cover_27 dX11_cover_30 dX11_cover_33 hrm (fun nn hn => ⟨rfl, ⟨nn, hn, rfl⟩, rfl, rfl, h2 hz h9⟩)
theorem lv_xvalue : covers (⟨0, 10, 13, 13⟩ : ExceptionTableEntry) 5 = true := by decide
theorem c_L_value (l : Launch) (hfl : l.stackTraces = false) (G : ZG) {x z : Nat} {a b : Int32} {K N : MK} {I : MI} {L : ML} {R : MR} {QR : Int32 → MI → Prop} {QT : MI → Prop} (hz : K z = 15 ∧ N z = 1) (hX : K x = 12)
    (hM : vx_Met l yX11_value (.code yX11_value cX11_value 3 (some .int) :: z_tbl) rm_value (z_PcX G [.ref x, .int a, .int b] K N I L R) (z_Qc G (qIi K N L R QR)) (zXC G (zTX K N L R QT)) 1 6 (z_A G)) :
    vx_Met l yL_value (.codeWith yL_value cL_value 5 (some .int) [(0, 10, 13, 13)] :: z_tbl) { frames := 7, cells := 1, slots := 6, locals := 140 } (z_PcX G [.ref x, .int a, .int b, .ref z] K N I L R)
      (z_Qc G (fun v K1 N1 I1 L1 R1 => ∃ k : Int32, v = some (.int k) ∧ K1 = K ∧ R1 = R ∧ ((k = 0 ∧ N1 = N ∧ ∃ r : Int32, L1 = mup L z 0 r.toInt64 ∧ QR r I1) ∨ (k = 1 ∧ L1 = L ∧ (∃ nn, N 0 ≤ nn ∧ N1 = kup N 0 nn) ∧ QT I1)))) (zXC G (fun _ _ _ _ _ => False)) 1 6 (z_A G) := by
  refine z_metH (by decide) (Nat.le_of_ble_eq_true rfl) (fun X hX0 hRm hC0 hZ htb => ?_)
  subst hX0
  have hC : ZOk X G RL cL_value 5 (some .int) := hC0
  show Z X G 5 0 0 _ K N I L R 0 [(0, .ref x), (1, .int a), (2, .int b), (3, .ref z)] []
  refine z_aload_n hC (q := 3) dL_value_0 rfl rfl ?_
  refine z_iconst hC (v := 0) (by decide) dL_value_1 ?_
  refine z_aload_n hC (q := 0) dL_value_2 rfl rfl ?_
  refine z_iload_n hC (q := 1) dL_value_3 rfl rfl ?_
  refine z_iload_n hC (q := 2) dL_value_4 rfl rfl ?_
  refine z_callVC (As := [.int a, .int b]) (rest := [.int 0, .ref z]) hC hZ hM (z_gV ml_RL_7 im_X11_value se_X11_value ini_RX11 co_X11_value) z_cls11 hX ⟨rfl, rfl⟩ dL_value_5 (na := 2) (by decide) rfl (by rw [hRm]; exact ⟨Nat.le_of_ble_eq_true rfl, Nat.le_of_ble_eq_true rfl⟩) (by rw [hRm]; exact ⟨Nat.le_refl _, Nat.le_refl _⟩) rfl (Nat.le_of_ble_eq_true rfl) (x := ⟨0, 10, 13, 13⟩) htb (by decide) (by decide) cl_RL_13 ?_ ?_
  · rintro _ _ _ _ _ _ ⟨r, rfl, rfl, rfl, rfl, rfl, h⟩
    refine z_i2l hC dL_value_8 ?_
    refine z_lastore hC hz.1 (by rw [hz.2]; exact (vp_nI (by decide)).2 (by decide)) dL_value_9 ?_
    refine z_goto hC (tgt := 17) dL_value_10 (by decide) ?_
    refine z_iconst hC (v := 0) (by decide) dL_value_17 ?_
    refine z_retX ?_
    exact z_iret hC dL_value_18 ⟨_, rfl, rfl, rfl, Or.inl ⟨rfl, rfl, _, rfl, h⟩⟩
  · rintro q K1 N1 I1 L1 R1 ⟨rfl, hn, rfl, rfl, h⟩
    refine z_astore hC (lv1 := [(4, .ref q), (0, .ref x), (1, .int a), (2, .int b), (3, .ref z)]) dL_value_13 (by decide) rfl ?_
    refine z_iconst hC (v := 1) (by decide) dL_value_15 ?_
    refine z_retX ?_
    exact z_iret hC dL_value_16 ⟨_, rfl, rfl, rfl, Or.inr ⟨rfl, rfl, hn, h⟩⟩
theorem lv_xcover : covers (⟨0, 10, 13, 13⟩ : ExceptionTableEntry) 5 = true := by decide
theorem c_L_cover (l : Launch) (hfl : l.stackTraces = false) (G : ZG) {x z : Nat} {a b : Int32} {K N : MK} {I : MI} {L : ML} {R : MR} {QR : Int32 → MI → Prop} {QT : MI → Prop} (hz : K z = 15 ∧ N z = 1) (hX : K x = 12)
    (hM : vx_Met l yX11_cover (.code yX11_cover cX11_cover 7 (some .int) :: z_tbl) rm_value (z_PcX G [.ref x, .int a, .int b] K N I L R) (z_Qc G (qIi K N L R QR)) (zXC G (zTX K N L R QT)) 1 6 (z_A G)) :
    vx_Met l yL_cover (.codeWith yL_cover cL_cover 5 (some .int) [(0, 10, 13, 13)] :: z_tbl) { frames := 7, cells := 1, slots := 6, locals := 140 } (z_PcX G [.ref x, .int a, .int b, .ref z] K N I L R)
      (z_Qc G (fun v K1 N1 I1 L1 R1 => ∃ k : Int32, v = some (.int k) ∧ K1 = K ∧ R1 = R ∧ ((k = 0 ∧ N1 = N ∧ ∃ r : Int32, L1 = mup L z 0 r.toInt64 ∧ QR r I1) ∨ (k = 1 ∧ L1 = L ∧ (∃ nn, N 0 ≤ nn ∧ N1 = kup N 0 nn) ∧ QT I1)))) (zXC G (fun _ _ _ _ _ => False)) 1 6 (z_A G) := by
  refine z_metH (by decide) (Nat.le_of_ble_eq_true rfl) (fun X hX0 hRm hC0 hZ htb => ?_)
  subst hX0
  have hC : ZOk X G RL cL_cover 5 (some .int) := hC0
  show Z X G 5 0 0 _ K N I L R 0 [(0, .ref x), (1, .int a), (2, .int b), (3, .ref z)] []
  refine z_aload_n hC (q := 3) dL_cover_0 rfl rfl ?_
  refine z_iconst hC (v := 0) (by decide) dL_cover_1 ?_
  refine z_aload_n hC (q := 0) dL_cover_2 rfl rfl ?_
  refine z_iload_n hC (q := 1) dL_cover_3 rfl rfl ?_
  refine z_iload_n hC (q := 2) dL_cover_4 rfl rfl ?_
  refine z_callVC (As := [.int a, .int b]) (rest := [.int 0, .ref z]) hC hZ hM (z_gV ml_RL_15 im_X11_cover se_X11_cover ini_RX11 co_X11_cover) z_cls11 hX ⟨rfl, rfl⟩ dL_cover_5 (na := 2) (by decide) rfl (by rw [hRm]; exact ⟨Nat.le_of_ble_eq_true rfl, Nat.le_of_ble_eq_true rfl⟩) (by rw [hRm]; exact ⟨Nat.le_refl _, Nat.le_refl _⟩) rfl (Nat.le_of_ble_eq_true rfl) (x := ⟨0, 10, 13, 13⟩) htb (by decide) (by decide) cl_RL_13 ?_ ?_
  · rintro _ _ _ _ _ _ ⟨r, rfl, rfl, rfl, rfl, rfl, h⟩
    refine z_i2l hC dL_cover_8 ?_
    refine z_lastore hC hz.1 (by rw [hz.2]; exact (vp_nI (by decide)).2 (by decide)) dL_cover_9 ?_
    refine z_goto hC (tgt := 17) dL_cover_10 (by decide) ?_
    refine z_iconst hC (v := 0) (by decide) dL_cover_17 ?_
    refine z_retX ?_
    exact z_iret hC dL_cover_18 ⟨_, rfl, rfl, rfl, Or.inl ⟨rfl, rfl, _, rfl, h⟩⟩
  · rintro q K1 N1 I1 L1 R1 ⟨rfl, hn, rfl, rfl, h⟩
    refine z_astore hC (lv1 := [(4, .ref q), (0, .ref x), (1, .int a), (2, .int b), (3, .ref z)]) dL_cover_13 (by decide) rfl ?_
    refine z_iconst hC (v := 1) (by decide) dL_cover_15 ?_
    refine z_retX ?_
    exact z_iret hC dL_cover_16 ⟨_, rfl, rfl, rfl, Or.inr ⟨rfl, rfl, hn, h⟩⟩
