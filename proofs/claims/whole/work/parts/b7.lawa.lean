set_option maxHeartbeats 2000000 in
set_option maxRecDepth 20000 in
theorem lw_c0 {X : ZX} {G : ZG} {Qf : State → Prop} {b Ls i x m z mc ms : Nat} {xs : Nat → Int32} {K N : MK} {I : MI} {L : ML} {R : MR} (hC : ZOk X G RL cL_law 7 (some .boolean)) (hZ : zxS G X.2.2.2.2.1) (hfl : X.2.1.stackTraces = false) (hRm : X.2.2.2.1 = room_1) (hX : va_X b Ls xs X.2.2.2.2.1 X.2.2.2.2.1.heap) (hbl : b < X.2.2.2.2.1.heap.size) (hbA : ¬ z_A G b) (hi : i + 6 ≤ Ls) (hLs : Ls ≤ 3072) (hcs : mc + 1 ≤ X.2.2.2.1.cells ∧ ms + 6 ≤ X.2.2.2.1.slots) (h : LINV K N I L R x m z)
    (kk : ∀ (mc1 ms1 : Nat) (K N : MK) (I : MI) (L : ML) (R : MR), mc1 ≤ mc + 1 → ms1 ≤ ms + 6 → LINV K N I L R x m z → Z X G 7 mc1 ms1 Qf K N I L R 1490 [(4, .int (nI i)), (0, .ref b), (1, .ref x), (2, .ref m), (3, .ref z)] []) : Z X G 7 mc ms Qf K N I L R 232 [(4, .int (nI i)), (0, .ref b), (1, .ref x), (2, .ref m), (3, .ref z)] [] := by
  have hpm := (cpG₁ h.1).2.1.k
  refine z_aload_n hC (q := 2) dL_law_232 rfl rfl ?_
  refine z_aload_n hC (q := 1) dL_law_233 rfl rfl ?_
  refine z_iload hC (q := 0) dL_law_234 rfl ?_
  refine z_iconst hC (v := nI 1) (by decide) dL_law_236 ?_
  refine z_iadd hC dL_law_237 ?_
  refine z_sldc hC hX hbl hbA (i := i) (c := 1) (by omega) hLs dL_law_238 ?_
  refine z_aload_n hC (q := 1) dL_law_239 rfl rfl ?_
  refine z_iload hC (q := 0) dL_law_240 rfl ?_
  refine z_iconst hC (v := nI 2) (by decide) dL_law_242 ?_
  refine z_iadd hC dL_law_243 ?_
  refine z_sldc hC hX hbl hbA (i := i) (c := 2) (by omega) hLs dL_law_244 ?_
  refine z_aload_n hC (q := 1) dL_law_245 rfl rfl ?_
  refine z_iload hC (q := 0) dL_law_246 rfl ?_
  refine z_iconst hC (v := nI 3) (by decide) dL_law_248 ?_
  refine z_iadd hC dL_law_249 ?_
  refine z_sldc hC hX hbl hbA (i := i) (c := 3) (by omega) hLs dL_law_250 ?_
  refine z_aload_n hC (q := 1) dL_law_251 rfl rfl ?_
  refine z_iload hC (q := 0) dL_law_252 rfl ?_
  refine z_iconst hC (v := nI 4) (by decide) dL_law_254 ?_
  refine z_iadd hC dL_law_255 ?_
  refine z_sldc hC hX hbl hbA (i := i) (c := 4) (by omega) hLs dL_law_256 ?_
  refine z_aload_n hC (q := 1) dL_law_257 rfl rfl ?_
  refine z_iload hC (q := 0) dL_law_258 rfl ?_
  refine z_iconst hC (v := nI 5) (by decide) dL_law_260 ?_
  refine z_iadd hC dL_law_261 ?_
  refine z_sldc hC hX hbl hbA (i := i) (c := 5) (by omega) hLs dL_law_262 ?_
  have hpx := (cpG₁ h.1).1.k
  refine z_callV (As := [.int (xs (i + 1)), .int (xs (i + 2)), .int (xs (i + 3)), .int (xs (i + 4)), .int (xs (i + 5))]) (rest := []) hC (c_X11_feed _ _ _ _ _ _ _ _ _ _ _ _ _ _ (cs_feed h.1)) (z_gV ml_RL_22 im_X11_feed se_X11_feed ini_RX11 co_X11_feed) z_cls11 hpx ⟨rfl, rfl⟩ dL_law_263 (na := 5) (by decide) rfl (by rw [hRm]; exact ⟨Nat.le_of_ble_eq_true rfl, Nat.le_of_ble_eq_true rfl⟩) (by exact ⟨by omega, by omega⟩) rfl (Nat.le_of_ble_eq_true rfl) ?_
  rintro _ K N I L R ⟨r1, rfl, rfl, rfl, rfl, rfl, hw⟩
  refine z_aload_n hC (q := 3) dL_law_266 rfl rfl ?_
  refine z_aload_n hC (q := 1) dL_law_267 rfl rfl ?_
  refine z_iload hC (q := 0) dL_law_268 rfl ?_
  refine z_iconst hC (v := nI 1) (by decide) dL_law_270 ?_
  refine z_iadd hC dL_law_271 ?_
  refine z_sldc hC hX hbl hbA (i := i) (c := 1) (by omega) hLs dL_law_272 ?_
  refine z_aload_n hC (q := 1) dL_law_273 rfl rfl ?_
  refine z_iload hC (q := 0) dL_law_274 rfl ?_
  refine z_iconst hC (v := nI 2) (by decide) dL_law_276 ?_
  refine z_iadd hC dL_law_277 ?_
  refine z_sldc hC hX hbl hbA (i := i) (c := 2) (by omega) hLs dL_law_278 ?_
  refine z_aload_n hC (q := 1) dL_law_279 rfl rfl ?_
  refine z_iload hC (q := 0) dL_law_280 rfl ?_
  refine z_iconst hC (v := nI 3) (by decide) dL_law_282 ?_
  refine z_iadd hC dL_law_283 ?_
  refine z_sldc hC hX hbl hbA (i := i) (c := 3) (by omega) hLs dL_law_284 ?_
  refine z_aload_n hC (q := 1) dL_law_285 rfl rfl ?_
  refine z_iload hC (q := 0) dL_law_286 rfl ?_
  refine z_iconst hC (v := nI 4) (by decide) dL_law_288 ?_
  refine z_iadd hC dL_law_289 ?_
  refine z_sldc hC hX hbl hbA (i := i) (c := 4) (by omega) hLs dL_law_290 ?_
  refine z_aload_n hC (q := 1) dL_law_291 rfl rfl ?_
  refine z_iload hC (q := 0) dL_law_292 rfl ?_
  refine z_iconst hC (v := nI 5) (by decide) dL_law_294 ?_
  refine z_iadd hC dL_law_295 ?_
  refine z_sldc hC hX hbl hbA (i := i) (c := 5) (by omega) hLs dL_law_296 ?_
  refine z_callV (As := [.int (xs (i + 1)), .int (xs (i + 2)), .int (xs (i + 3)), .int (xs (i + 4)), .int (xs (i + 5))]) (rest := [.int r1]) hC (c_X12_feed _ _ _ _ _ _ _ _ _ _ _ _ _ _ hw) (z_gV ml_RL_26 im_X12_feed se_X12_feed ini_RX12 co_X12_feed) z_cls12 hpm ⟨rfl, rfl⟩ dL_law_297 (na := 5) (by decide) rfl (by rw [hRm]; exact ⟨Nat.le_of_ble_eq_true rfl, Nat.le_of_ble_eq_true rfl⟩) (by exact ⟨by omega, by omega⟩) rfl (Nat.le_of_ble_eq_true rfl) ?_
  rintro _ K N I L R ⟨r2, rfl, rfl, rfl, rfl, rfl, ⟨hr, hcpl⟩⟩
  refine z_icmp_eq hC (tgt := 1490) dL_law_300 (by decide) (fun _ => ?_) (fun hc => absurd (by rw [hr]) hc)
  exact kk _ _ _ _ _ _ _ (by omega) (by omega) ⟨hcpl, h.2⟩
set_option maxHeartbeats 2000000 in
set_option maxRecDepth 20000 in
theorem lw_c1 {X : ZX} {G : ZG} {Qf : State → Prop} {b Ls i x m z mc ms : Nat} {xs : Nat → Int32} {K N : MK} {I : MI} {L : ML} {R : MR} (hC : ZOk X G RL cL_law 7 (some .boolean)) (hZ : zxS G X.2.2.2.2.1) (hfl : X.2.1.stackTraces = false) (hRm : X.2.2.2.1 = room_1) (hX : va_X b Ls xs X.2.2.2.2.1 X.2.2.2.2.1.heap) (hbl : b < X.2.2.2.2.1.heap.size) (hbA : ¬ z_A G b) (hi : i + 6 ≤ Ls) (hLs : Ls ≤ 3072) (hcs : mc + 1 ≤ X.2.2.2.1.cells ∧ ms + 6 ≤ X.2.2.2.1.slots) (h : LINV K N I L R x m z)
    (kk : ∀ (mc1 ms1 : Nat) (K N : MK) (I : MI) (L : ML) (R : MR), mc1 ≤ mc + 1 → ms1 ≤ ms + 6 → LINV K N I L R x m z → Z X G 7 mc1 ms1 Qf K N I L R 1490 [(4, .int (nI i)), (0, .ref b), (1, .ref x), (2, .ref m), (3, .ref z)] []) : Z X G 7 mc ms Qf K N I L R 305 [(4, .int (nI i)), (0, .ref b), (1, .ref x), (2, .ref m), (3, .ref z)] [] := by
  have hpm := (cpG₁ h.1).2.1.k
  refine z_aload_n hC (q := 2) dL_law_305 rfl rfl ?_
  refine z_aload_n hC (q := 1) dL_law_306 rfl rfl ?_
  refine z_iload hC (q := 0) dL_law_307 rfl ?_
  refine z_iconst hC (v := nI 1) (by decide) dL_law_309 ?_
  refine z_iadd hC dL_law_310 ?_
  refine z_sldc hC hX hbl hbA (i := i) (c := 1) (by omega) hLs dL_law_311 ?_
  have hpx := (cpG₁ h.1).1.k
  refine z_callV (As := [.int (xs (i + 1))]) (rest := []) hC (c_X11_end _ _ _ _ _ _ _ _ _ _ (cs_end h.1)) (z_gV ml_RL_27 im_X11_end se_X11_end ini_RX11 co_X11_end) z_cls11 hpx ⟨rfl, rfl⟩ dL_law_312 (na := 1) (by decide) rfl (by rw [hRm]; exact ⟨Nat.le_of_ble_eq_true rfl, Nat.le_of_ble_eq_true rfl⟩) (by exact ⟨by omega, by omega⟩) rfl (Nat.le_of_ble_eq_true rfl) ?_
  rintro _ K N I L R ⟨rb, rfl, rfl, rfl, rfl, rfl, hw⟩
  refine z_aload_n hC (q := 3) dL_law_315 rfl rfl ?_
  refine z_aload_n hC (q := 1) dL_law_316 rfl rfl ?_
  refine z_iload hC (q := 0) dL_law_317 rfl ?_
  refine z_iconst hC (v := nI 1) (by decide) dL_law_319 ?_
  refine z_iadd hC dL_law_320 ?_
  refine z_sldc hC hX hbl hbA (i := i) (c := 1) (by omega) hLs dL_law_321 ?_
  refine z_callV (As := [.int (xs (i + 1))]) (rest := [.int (bi rb)]) hC (c_X12_end _ _ _ _ _ _ _ _ _ _ hw) (z_gV ml_RL_31 im_X12_end se_X12_end ini_RX12 co_X12_end) z_cls12 hpm ⟨rfl, rfl⟩ dL_law_322 (na := 1) (by decide) rfl (by rw [hRm]; exact ⟨Nat.le_of_ble_eq_true rfl, Nat.le_of_ble_eq_true rfl⟩) (by exact ⟨by omega, by omega⟩) rfl (Nat.le_of_ble_eq_true rfl) ?_
  rintro _ K N I L R ⟨rc, rfl, rfl, rfl, rfl, rfl, ⟨hr, hcpl⟩⟩
  refine z_icmp_eq hC (tgt := 1490) dL_law_325 (by decide) (fun _ => ?_) (fun hc => absurd (by rw [hr]) hc)
  exact kk _ _ _ _ _ _ _ (by omega) (by omega) ⟨hcpl, h.2⟩
set_option maxHeartbeats 2000000 in
set_option maxRecDepth 20000 in
theorem lw_c2 {X : ZX} {G : ZG} {Qf : State → Prop} {b Ls i x m z mc ms : Nat} {xs : Nat → Int32} {K N : MK} {I : MI} {L : ML} {R : MR} (hC : ZOk X G RL cL_law 7 (some .boolean)) (hZ : zxS G X.2.2.2.2.1) (hfl : X.2.1.stackTraces = false) (hRm : X.2.2.2.1 = room_1) (hX : va_X b Ls xs X.2.2.2.2.1 X.2.2.2.2.1.heap) (hbl : b < X.2.2.2.2.1.heap.size) (hbA : ¬ z_A G b) (hi : i + 6 ≤ Ls) (hLs : Ls ≤ 3072) (hcs : mc + 1 ≤ X.2.2.2.1.cells ∧ ms + 6 ≤ X.2.2.2.1.slots) (h : LINV K N I L R x m z)
    (kk : ∀ (mc1 ms1 : Nat) (K N : MK) (I : MI) (L : ML) (R : MR), mc1 ≤ mc + 1 → ms1 ≤ ms + 6 → LINV K N I L R x m z → Z X G 7 mc1 ms1 Qf K N I L R 1490 [(4, .int (nI i)), (0, .ref b), (1, .ref x), (2, .ref m), (3, .ref z)] []) : Z X G 7 mc ms Qf K N I L R 330 [(4, .int (nI i)), (0, .ref b), (1, .ref x), (2, .ref m), (3, .ref z)] [] := by
  have hpm := (cpG₁ h.1).2.1.k
  refine z_aload_n hC (q := 2) dL_law_330 rfl rfl ?_
  have hpx := (cpG₁ h.1).1.k
  refine z_callV (As := []) (rest := []) hC (c_X11_unit _ _ _ _ _ _ _ _ _ (cs_unit h.1)) (z_gV ml_RL_32 im_X11_unit se_X11_unit ini_RX11 co_X11_unit) z_cls11 hpx ⟨rfl, rfl⟩ dL_law_331 (na := 0) (by decide) rfl (by rw [hRm]; exact ⟨Nat.le_of_ble_eq_true rfl, Nat.le_of_ble_eq_true rfl⟩) (by exact ⟨by omega, by omega⟩) rfl (Nat.le_of_ble_eq_true rfl) ?_
  rintro _ K N I L R ⟨r1, rfl, rfl, rfl, rfl, hw⟩
  refine z_aload_n hC (q := 3) dL_law_334 rfl rfl ?_
  refine z_callV (As := []) (rest := [.int r1]) hC (c_X12_unit _ _ _ _ _ _ _ _ _ hw) (z_gV ml_RL_36 im_X12_unit se_X12_unit ini_RX12 co_X12_unit) z_cls12 hpm ⟨rfl, rfl⟩ dL_law_335 (na := 0) (by decide) rfl (by rw [hRm]; exact ⟨Nat.le_of_ble_eq_true rfl, Nat.le_of_ble_eq_true rfl⟩) (by exact ⟨by omega, by omega⟩) rfl (Nat.le_of_ble_eq_true rfl) ?_
  rintro _ K N I L R ⟨r2, rfl, rfl, rfl, rfl, ⟨hr, hcpl⟩⟩
  refine z_icmp_eq hC (tgt := 1490) dL_law_338 (by decide) (fun _ => ?_) (fun hc => absurd (by rw [hr]) hc)
  exact kk _ _ _ _ _ _ _ (by omega) (by omega) ⟨hcpl, h.2⟩
set_option maxHeartbeats 2000000 in
set_option maxRecDepth 20000 in
theorem lw_c3 {X : ZX} {G : ZG} {Qf : State → Prop} {b Ls i x m z mc ms : Nat} {xs : Nat → Int32} {K N : MK} {I : MI} {L : ML} {R : MR} (hC : ZOk X G RL cL_law 7 (some .boolean)) (hZ : zxS G X.2.2.2.2.1) (hfl : X.2.1.stackTraces = false) (hRm : X.2.2.2.1 = room_1) (hX : va_X b Ls xs X.2.2.2.2.1 X.2.2.2.2.1.heap) (hbl : b < X.2.2.2.2.1.heap.size) (hbA : ¬ z_A G b) (hi : i + 6 ≤ Ls) (hLs : Ls ≤ 3072) (hcs : mc + 1 ≤ X.2.2.2.1.cells ∧ ms + 6 ≤ X.2.2.2.1.slots) (h : LINV K N I L R x m z)
    (kk : ∀ (mc1 ms1 : Nat) (K N : MK) (I : MI) (L : ML) (R : MR), mc1 ≤ mc + 1 → ms1 ≤ ms + 6 → LINV K N I L R x m z → Z X G 7 mc1 ms1 Qf K N I L R 1490 [(4, .int (nI i)), (0, .ref b), (1, .ref x), (2, .ref m), (3, .ref z)] []) : Z X G 7 mc ms Qf K N I L R 343 [(4, .int (nI i)), (0, .ref b), (1, .ref x), (2, .ref m), (3, .ref z)] [] := by
  have hpm := (cpG₁ h.1).2.1.k
  refine z_aload_n hC (q := 2) dL_law_343 rfl rfl ?_
  have hpx := (cpG₁ h.1).1.k
  refine z_callV (As := []) (rest := []) hC (c_X11_fault _ _ _ _ _ _ _ _ _ (cs_fault h.1)) (z_gV ml_RL_37 im_X11_fault se_X11_fault ini_RX11 co_X11_fault) z_cls11 hpx ⟨rfl, rfl⟩ dL_law_344 (na := 0) (by decide) rfl (by rw [hRm]; exact ⟨Nat.le_of_ble_eq_true rfl, Nat.le_of_ble_eq_true rfl⟩) (by exact ⟨by omega, by omega⟩) rfl (Nat.le_of_ble_eq_true rfl) ?_
  rintro _ K N I L R ⟨r1, rfl, rfl, rfl, rfl, rfl, rfl, hw⟩
  refine z_aload_n hC (q := 3) dL_law_347 rfl rfl ?_
  refine z_callV (As := []) (rest := [.int r1]) hC (c_X12_fault _ _ _ _ _ _ _ _ _ hw) (z_gV ml_RL_40 im_X12_fault se_X12_fault ini_RX12 co_X12_fault) z_cls12 hpm ⟨rfl, rfl⟩ dL_law_348 (na := 0) (by decide) rfl (by rw [hRm]; exact ⟨Nat.le_of_ble_eq_true rfl, Nat.le_of_ble_eq_true rfl⟩) (by exact ⟨by omega, by omega⟩) rfl (Nat.le_of_ble_eq_true rfl) ?_
  rintro _ K N I L R ⟨r2, rfl, rfl, rfl, rfl, rfl, ⟨hr, hcpl⟩⟩
  refine z_icmp_eq hC (tgt := 1490) dL_law_351 (by decide) (fun _ => ?_) (fun hc => absurd (by rw [hr]) hc)
  exact kk _ _ _ _ _ _ _ (by omega) (by omega) ⟨hcpl, h.2⟩
set_option maxHeartbeats 2000000 in
set_option maxRecDepth 20000 in
theorem lw_c4 {X : ZX} {G : ZG} {Qf : State → Prop} {b Ls i x m z mc ms : Nat} {xs : Nat → Int32} {K N : MK} {I : MI} {L : ML} {R : MR} (hC : ZOk X G RL cL_law 7 (some .boolean)) (hZ : zxS G X.2.2.2.2.1) (hfl : X.2.1.stackTraces = false) (hRm : X.2.2.2.1 = room_1) (hX : va_X b Ls xs X.2.2.2.2.1 X.2.2.2.2.1.heap) (hbl : b < X.2.2.2.2.1.heap.size) (hbA : ¬ z_A G b) (hi : i + 6 ≤ Ls) (hLs : Ls ≤ 3072) (hcs : mc + 1 ≤ X.2.2.2.1.cells ∧ ms + 6 ≤ X.2.2.2.1.slots) (h : LINV K N I L R x m z)
    (kk : ∀ (mc1 ms1 : Nat) (K N : MK) (I : MI) (L : ML) (R : MR), mc1 ≤ mc + 1 → ms1 ≤ ms + 6 → LINV K N I L R x m z → Z X G 7 mc1 ms1 Qf K N I L R 1490 [(4, .int (nI i)), (0, .ref b), (1, .ref x), (2, .ref m), (3, .ref z)] []) : Z X G 7 mc ms Qf K N I L R 356 [(4, .int (nI i)), (0, .ref b), (1, .ref x), (2, .ref m), (3, .ref z)] [] := by
  have hpm := (cpG₁ h.1).2.1.k
  refine z_aload_n hC (q := 2) dL_law_356 rfl rfl ?_
  refine z_aload_n hC (q := 1) dL_law_357 rfl rfl ?_
  refine z_iload hC (q := 0) dL_law_358 rfl ?_
  refine z_iconst hC (v := nI 1) (by decide) dL_law_360 ?_
  refine z_iadd hC dL_law_361 ?_
  refine z_sldc hC hX hbl hbA (i := i) (c := 1) (by omega) hLs dL_law_362 ?_
  refine z_aload_n hC (q := 1) dL_law_363 rfl rfl ?_
  refine z_iload hC (q := 0) dL_law_364 rfl ?_
  refine z_iconst hC (v := nI 2) (by decide) dL_law_366 ?_
  refine z_iadd hC dL_law_367 ?_
  refine z_sldc hC hX hbl hbA (i := i) (c := 2) (by omega) hLs dL_law_368 ?_
  have hpx := (cpG₁ h.1).1.k
  refine z_callV (As := [.int (xs (i + 1)), .int (xs (i + 2))]) (rest := []) hC (c_X11_row _ _ _ _ _ _ _ _ _ _ _ (cs_row h.1)) (z_gV ml_RL_41 im_X11_row se_X11_row ini_RX11 co_X11_row) z_cls11 hpx ⟨rfl, rfl⟩ dL_law_369 (na := 2) (by decide) rfl (by rw [hRm]; exact ⟨Nat.le_of_ble_eq_true rfl, Nat.le_of_ble_eq_true rfl⟩) (by exact ⟨by omega, by omega⟩) rfl (Nat.le_of_ble_eq_true rfl) ?_
  rintro _ K N I L R ⟨r1, rfl, rfl, rfl, rfl, rfl, rfl, hw⟩
  refine z_aload_n hC (q := 3) dL_law_372 rfl rfl ?_
  refine z_aload_n hC (q := 1) dL_law_373 rfl rfl ?_
  refine z_iload hC (q := 0) dL_law_374 rfl ?_
  refine z_iconst hC (v := nI 1) (by decide) dL_law_376 ?_
  refine z_iadd hC dL_law_377 ?_
  refine z_sldc hC hX hbl hbA (i := i) (c := 1) (by omega) hLs dL_law_378 ?_
  refine z_aload_n hC (q := 1) dL_law_379 rfl rfl ?_
  refine z_iload hC (q := 0) dL_law_380 rfl ?_
  refine z_iconst hC (v := nI 2) (by decide) dL_law_382 ?_
  refine z_iadd hC dL_law_383 ?_
  refine z_sldc hC hX hbl hbA (i := i) (c := 2) (by omega) hLs dL_law_384 ?_
  refine z_callV (As := [.int (xs (i + 1)), .int (xs (i + 2))]) (rest := [.int r1]) hC (c_X12_row _ _ _ _ _ _ _ _ _ _ _ hw) (z_gV ml_RL_44 im_X12_row se_X12_row ini_RX12 co_X12_row) z_cls12 hpm ⟨rfl, rfl⟩ dL_law_385 (na := 2) (by decide) rfl (by rw [hRm]; exact ⟨Nat.le_of_ble_eq_true rfl, Nat.le_of_ble_eq_true rfl⟩) (by exact ⟨by omega, by omega⟩) rfl (Nat.le_of_ble_eq_true rfl) ?_
  rintro _ K N I L R ⟨r2, rfl, rfl, rfl, rfl, rfl, ⟨hr, hcpl⟩⟩
  refine z_icmp_eq hC (tgt := 1490) dL_law_388 (by decide) (fun _ => ?_) (fun hc => absurd (by rw [hr]) hc)
  exact kk _ _ _ _ _ _ _ (by omega) (by omega) ⟨hcpl, h.2⟩
set_option maxHeartbeats 2000000 in
set_option maxRecDepth 20000 in
theorem lw_c5 {X : ZX} {G : ZG} {Qf : State → Prop} {b Ls i x m z mc ms : Nat} {xs : Nat → Int32} {K N : MK} {I : MI} {L : ML} {R : MR} (hC : ZOk X G RL cL_law 7 (some .boolean)) (hZ : zxS G X.2.2.2.2.1) (hfl : X.2.1.stackTraces = false) (hRm : X.2.2.2.1 = room_1) (hX : va_X b Ls xs X.2.2.2.2.1 X.2.2.2.2.1.heap) (hbl : b < X.2.2.2.2.1.heap.size) (hbA : ¬ z_A G b) (hi : i + 6 ≤ Ls) (hLs : Ls ≤ 3072) (hcs : mc + 1 ≤ X.2.2.2.1.cells ∧ ms + 6 ≤ X.2.2.2.1.slots) (h : LINV K N I L R x m z)
    (kk : ∀ (mc1 ms1 : Nat) (K N : MK) (I : MI) (L : ML) (R : MR), mc1 ≤ mc + 1 → ms1 ≤ ms + 6 → LINV K N I L R x m z → Z X G 7 mc1 ms1 Qf K N I L R 1490 [(4, .int (nI i)), (0, .ref b), (1, .ref x), (2, .ref m), (3, .ref z)] []) : Z X G 7 mc ms Qf K N I L R 393 [(4, .int (nI i)), (0, .ref b), (1, .ref x), (2, .ref m), (3, .ref z)] [] := by
  have hpm := (cpG₁ h.1).2.1.k
  refine z_aload_n hC (q := 2) dL_law_393 rfl rfl ?_
  refine z_aload_n hC (q := 1) dL_law_394 rfl rfl ?_
  refine z_iload hC (q := 0) dL_law_395 rfl ?_
  refine z_iconst hC (v := nI 1) (by decide) dL_law_397 ?_
  refine z_iadd hC dL_law_398 ?_
  refine z_sldc hC hX hbl hbA (i := i) (c := 1) (by omega) hLs dL_law_399 ?_
  refine z_aload_n hC (q := 1) dL_law_400 rfl rfl ?_
  refine z_iload hC (q := 0) dL_law_401 rfl ?_
  refine z_iconst hC (v := nI 2) (by decide) dL_law_403 ?_
  refine z_iadd hC dL_law_404 ?_
  refine z_sldc hC hX hbl hbA (i := i) (c := 2) (by omega) hLs dL_law_405 ?_
  have hpx := (cpG₁ h.1).1.k
  refine z_callV (As := [.int (xs (i + 1)), .int (xs (i + 2))]) (rest := []) hC (c_X11_scope _ _ _ _ _ _ _ _ _ _ _ (cs_scope h.1)) (z_gV ml_RL_45 im_X11_scope se_X11_scope ini_RX11 co_X11_scope) z_cls11 hpx ⟨rfl, rfl⟩ dL_law_406 (na := 2) (by decide) rfl (by rw [hRm]; exact ⟨Nat.le_of_ble_eq_true rfl, Nat.le_of_ble_eq_true rfl⟩) (by exact ⟨by omega, by omega⟩) rfl (Nat.le_of_ble_eq_true rfl) ?_
  rintro _ K N I L R ⟨r1, rfl, rfl, rfl, rfl, rfl, rfl, hw⟩
  refine z_aload_n hC (q := 3) dL_law_409 rfl rfl ?_
  refine z_aload_n hC (q := 1) dL_law_410 rfl rfl ?_
  refine z_iload hC (q := 0) dL_law_411 rfl ?_
  refine z_iconst hC (v := nI 1) (by decide) dL_law_413 ?_
  refine z_iadd hC dL_law_414 ?_
  refine z_sldc hC hX hbl hbA (i := i) (c := 1) (by omega) hLs dL_law_415 ?_
  refine z_aload_n hC (q := 1) dL_law_416 rfl rfl ?_
  refine z_iload hC (q := 0) dL_law_417 rfl ?_
  refine z_iconst hC (v := nI 2) (by decide) dL_law_419 ?_
  refine z_iadd hC dL_law_420 ?_
  refine z_sldc hC hX hbl hbA (i := i) (c := 2) (by omega) hLs dL_law_421 ?_
  refine z_callV (As := [.int (xs (i + 1)), .int (xs (i + 2))]) (rest := [.int r1]) hC (c_X12_scope _ _ _ _ _ _ _ _ _ _ _ hw) (z_gV ml_RL_48 im_X12_scope se_X12_scope ini_RX12 co_X12_scope) z_cls12 hpm ⟨rfl, rfl⟩ dL_law_422 (na := 2) (by decide) rfl (by rw [hRm]; exact ⟨Nat.le_of_ble_eq_true rfl, Nat.le_of_ble_eq_true rfl⟩) (by exact ⟨by omega, by omega⟩) rfl (Nat.le_of_ble_eq_true rfl) ?_
  rintro _ K N I L R ⟨r2, rfl, rfl, rfl, rfl, rfl, ⟨hr, hcpl⟩⟩
  refine z_icmp_eq hC (tgt := 1490) dL_law_425 (by decide) (fun _ => ?_) (fun hc => absurd (by rw [hr]) hc)
  exact kk _ _ _ _ _ _ _ (by omega) (by omega) ⟨hcpl, h.2⟩
set_option maxHeartbeats 2000000 in
set_option maxRecDepth 20000 in
theorem lw_c6 {X : ZX} {G : ZG} {Qf : State → Prop} {b Ls i x m z mc ms : Nat} {xs : Nat → Int32} {K N : MK} {I : MI} {L : ML} {R : MR} (hC : ZOk X G RL cL_law 7 (some .boolean)) (hZ : zxS G X.2.2.2.2.1) (hfl : X.2.1.stackTraces = false) (hRm : X.2.2.2.1 = room_1) (hX : va_X b Ls xs X.2.2.2.2.1 X.2.2.2.2.1.heap) (hbl : b < X.2.2.2.2.1.heap.size) (hbA : ¬ z_A G b) (hi : i + 6 ≤ Ls) (hLs : Ls ≤ 3072) (hcs : mc + 1 ≤ X.2.2.2.1.cells ∧ ms + 6 ≤ X.2.2.2.1.slots) (h : LINV K N I L R x m z)
    (kk : ∀ (mc1 ms1 : Nat) (K N : MK) (I : MI) (L : ML) (R : MR), mc1 ≤ mc + 1 → ms1 ≤ ms + 6 → LINV K N I L R x m z → Z X G 7 mc1 ms1 Qf K N I L R 1490 [(4, .int (nI i)), (0, .ref b), (1, .ref x), (2, .ref m), (3, .ref z)] []) : Z X G 7 mc ms Qf K N I L R 430 [(4, .int (nI i)), (0, .ref b), (1, .ref x), (2, .ref m), (3, .ref z)] [] := by
  have hpm := (cpG₁ h.1).2.1.k
  refine z_aload_n hC (q := 2) dL_law_430 rfl rfl ?_
  refine z_aload_n hC (q := 1) dL_law_431 rfl rfl ?_
  refine z_iload hC (q := 0) dL_law_432 rfl ?_
  refine z_iconst hC (v := nI 1) (by decide) dL_law_434 ?_
  refine z_iadd hC dL_law_435 ?_
  refine z_sldc hC hX hbl hbA (i := i) (c := 1) (by omega) hLs dL_law_436 ?_
  refine z_aload_n hC (q := 1) dL_law_437 rfl rfl ?_
  refine z_iload hC (q := 0) dL_law_438 rfl ?_
  refine z_iconst hC (v := nI 2) (by decide) dL_law_440 ?_
  refine z_iadd hC dL_law_441 ?_
  refine z_sldc hC hX hbl hbA (i := i) (c := 2) (by omega) hLs dL_law_442 ?_
  have hpx := (cpG₁ h.1).1.k
  refine z_callV (As := [.int (xs (i + 1)), .int (xs (i + 2))]) (rest := []) hC (c_X11_var _ _ _ _ _ _ _ _ _ _ _ (cs_var h.1)) (z_gV ml_RL_49 im_X11_var se_X11_var ini_RX11 co_X11_var) z_cls11 hpx ⟨rfl, rfl⟩ dL_law_443 (na := 2) (by decide) rfl (by rw [hRm]; exact ⟨Nat.le_of_ble_eq_true rfl, Nat.le_of_ble_eq_true rfl⟩) (by exact ⟨by omega, by omega⟩) rfl (Nat.le_of_ble_eq_true rfl) ?_
  rintro _ K N I L R ⟨r1, rfl, rfl, rfl, rfl, rfl, rfl, hw⟩
  refine z_aload_n hC (q := 3) dL_law_446 rfl rfl ?_
  refine z_aload_n hC (q := 1) dL_law_447 rfl rfl ?_
  refine z_iload hC (q := 0) dL_law_448 rfl ?_
  refine z_iconst hC (v := nI 1) (by decide) dL_law_450 ?_
  refine z_iadd hC dL_law_451 ?_
  refine z_sldc hC hX hbl hbA (i := i) (c := 1) (by omega) hLs dL_law_452 ?_
  refine z_aload_n hC (q := 1) dL_law_453 rfl rfl ?_
  refine z_iload hC (q := 0) dL_law_454 rfl ?_
  refine z_iconst hC (v := nI 2) (by decide) dL_law_456 ?_
  refine z_iadd hC dL_law_457 ?_
  refine z_sldc hC hX hbl hbA (i := i) (c := 2) (by omega) hLs dL_law_458 ?_
  refine z_callV (As := [.int (xs (i + 1)), .int (xs (i + 2))]) (rest := [.int r1]) hC (c_X12_var _ _ _ _ _ _ _ _ _ _ _ hw) (z_gV ml_RL_52 im_X12_var se_X12_var ini_RX12 co_X12_var) z_cls12 hpm ⟨rfl, rfl⟩ dL_law_459 (na := 2) (by decide) rfl (by rw [hRm]; exact ⟨Nat.le_of_ble_eq_true rfl, Nat.le_of_ble_eq_true rfl⟩) (by exact ⟨by omega, by omega⟩) rfl (Nat.le_of_ble_eq_true rfl) ?_
  rintro _ K N I L R ⟨r2, rfl, rfl, rfl, rfl, rfl, ⟨hr, hcpl⟩⟩
  refine z_icmp_eq hC (tgt := 1490) dL_law_462 (by decide) (fun _ => ?_) (fun hc => absurd (by rw [hr]) hc)
  exact kk _ _ _ _ _ _ _ (by omega) (by omega) ⟨hcpl, h.2⟩
set_option maxHeartbeats 2000000 in
set_option maxRecDepth 20000 in
theorem lw_c7 {X : ZX} {G : ZG} {Qf : State → Prop} {b Ls i x m z mc ms : Nat} {xs : Nat → Int32} {K N : MK} {I : MI} {L : ML} {R : MR} (hC : ZOk X G RL cL_law 7 (some .boolean)) (hZ : zxS G X.2.2.2.2.1) (hfl : X.2.1.stackTraces = false) (hRm : X.2.2.2.1 = room_1) (hX : va_X b Ls xs X.2.2.2.2.1 X.2.2.2.2.1.heap) (hbl : b < X.2.2.2.2.1.heap.size) (hbA : ¬ z_A G b) (hi : i + 6 ≤ Ls) (hLs : Ls ≤ 3072) (hcs : mc + 1 ≤ X.2.2.2.1.cells ∧ ms + 6 ≤ X.2.2.2.1.slots) (h : LINV K N I L R x m z)
    (kk : ∀ (mc1 ms1 : Nat) (K N : MK) (I : MI) (L : ML) (R : MR), mc1 ≤ mc + 1 → ms1 ≤ ms + 6 → LINV K N I L R x m z → Z X G 7 mc1 ms1 Qf K N I L R 1490 [(4, .int (nI i)), (0, .ref b), (1, .ref x), (2, .ref m), (3, .ref z)] []) : Z X G 7 mc ms Qf K N I L R 467 [(4, .int (nI i)), (0, .ref b), (1, .ref x), (2, .ref m), (3, .ref z)] [] := by
  have hpm := (cpG₁ h.1).2.1.k
  refine z_aload_n hC (q := 2) dL_law_467 rfl rfl ?_
  refine z_aload_n hC (q := 1) dL_law_468 rfl rfl ?_
  refine z_iload hC (q := 0) dL_law_469 rfl ?_
  refine z_iconst hC (v := nI 1) (by decide) dL_law_471 ?_
  refine z_iadd hC dL_law_472 ?_
  refine z_sldc hC hX hbl hbA (i := i) (c := 1) (by omega) hLs dL_law_473 ?_
  refine z_aload_n hC (q := 1) dL_law_474 rfl rfl ?_
  refine z_iload hC (q := 0) dL_law_475 rfl ?_
  refine z_iconst hC (v := nI 2) (by decide) dL_law_477 ?_
  refine z_iadd hC dL_law_478 ?_
  refine z_sldc hC hX hbl hbA (i := i) (c := 2) (by omega) hLs dL_law_479 ?_
  have hpx := (cpG₁ h.1).1.k
  refine z_callV (As := [.int (xs (i + 1)), .int (xs (i + 2))]) (rest := []) hC (c_X11_placeOf _ _ _ _ _ _ _ _ _ _ _ (cs_placeOf h.1)) (z_gV ml_RL_53 im_X11_placeOf se_X11_placeOf ini_RX11 co_X11_placeOf) z_cls11 hpx ⟨rfl, rfl⟩ dL_law_480 (na := 2) (by decide) rfl (by rw [hRm]; exact ⟨Nat.le_of_ble_eq_true rfl, Nat.le_of_ble_eq_true rfl⟩) (by exact ⟨by omega, by omega⟩) rfl (Nat.le_of_ble_eq_true rfl) ?_
  rintro _ K N I L R ⟨r1, rfl, rfl, rfl, rfl, rfl, rfl, hw⟩
  refine z_aload_n hC (q := 3) dL_law_483 rfl rfl ?_
  refine z_aload_n hC (q := 1) dL_law_484 rfl rfl ?_
  refine z_iload hC (q := 0) dL_law_485 rfl ?_
  refine z_iconst hC (v := nI 1) (by decide) dL_law_487 ?_
  refine z_iadd hC dL_law_488 ?_
  refine z_sldc hC hX hbl hbA (i := i) (c := 1) (by omega) hLs dL_law_489 ?_
  refine z_aload_n hC (q := 1) dL_law_490 rfl rfl ?_
  refine z_iload hC (q := 0) dL_law_491 rfl ?_
  refine z_iconst hC (v := nI 2) (by decide) dL_law_493 ?_
  refine z_iadd hC dL_law_494 ?_
  refine z_sldc hC hX hbl hbA (i := i) (c := 2) (by omega) hLs dL_law_495 ?_
  refine z_callV (As := [.int (xs (i + 1)), .int (xs (i + 2))]) (rest := [.int r1]) hC (c_X12_placeOf _ _ _ _ _ _ _ _ _ _ _ hw) (z_gV ml_RL_56 im_X12_placeOf se_X12_placeOf ini_RX12 co_X12_placeOf) z_cls12 hpm ⟨rfl, rfl⟩ dL_law_496 (na := 2) (by decide) rfl (by rw [hRm]; exact ⟨Nat.le_of_ble_eq_true rfl, Nat.le_of_ble_eq_true rfl⟩) (by exact ⟨by omega, by omega⟩) rfl (Nat.le_of_ble_eq_true rfl) ?_
  rintro _ K N I L R ⟨r2, rfl, rfl, rfl, rfl, rfl, ⟨hr, hcpl⟩⟩
  refine z_icmp_eq hC (tgt := 1490) dL_law_499 (by decide) (fun _ => ?_) (fun hc => absurd (by rw [hr]) hc)
  exact kk _ _ _ _ _ _ _ (by omega) (by omega) ⟨hcpl, h.2⟩
set_option maxHeartbeats 2000000 in
set_option maxRecDepth 20000 in
theorem lw_c8 {X : ZX} {G : ZG} {Qf : State → Prop} {b Ls i x m z mc ms : Nat} {xs : Nat → Int32} {K N : MK} {I : MI} {L : ML} {R : MR} (hC : ZOk X G RL cL_law 7 (some .boolean)) (hZ : zxS G X.2.2.2.2.1) (hfl : X.2.1.stackTraces = false) (hRm : X.2.2.2.1 = room_1) (hX : va_X b Ls xs X.2.2.2.2.1 X.2.2.2.2.1.heap) (hbl : b < X.2.2.2.2.1.heap.size) (hbA : ¬ z_A G b) (hi : i + 6 ≤ Ls) (hLs : Ls ≤ 3072) (hcs : mc + 1 ≤ X.2.2.2.1.cells ∧ ms + 6 ≤ X.2.2.2.1.slots) (h : LINV K N I L R x m z)
    (kk : ∀ (mc1 ms1 : Nat) (K N : MK) (I : MI) (L : ML) (R : MR), mc1 ≤ mc + 1 → ms1 ≤ ms + 6 → LINV K N I L R x m z → Z X G 7 mc1 ms1 Qf K N I L R 1490 [(4, .int (nI i)), (0, .ref b), (1, .ref x), (2, .ref m), (3, .ref z)] []) : Z X G 7 mc ms Qf K N I L R 504 [(4, .int (nI i)), (0, .ref b), (1, .ref x), (2, .ref m), (3, .ref z)] [] := by
  have hpm := (cpG₁ h.1).2.1.k
  refine z_aload_n hC (q := 2) dL_law_504 rfl rfl ?_
  refine z_aload_n hC (q := 1) dL_law_505 rfl rfl ?_
  refine z_iload hC (q := 0) dL_law_506 rfl ?_
  refine z_iconst hC (v := nI 1) (by decide) dL_law_508 ?_
  refine z_iadd hC dL_law_509 ?_
  refine z_sldc hC hX hbl hbA (i := i) (c := 1) (by omega) hLs dL_law_510 ?_
  have hpx := (cpG₁ h.1).1.k
  refine z_callV (As := [.int (xs (i + 1))]) (rest := []) hC (c_X11_lineAt _ _ _ _ _ _ _ _ _ _ (cs_lineAt h.1)) (z_gV ml_RL_57 im_X11_lineAt se_X11_lineAt ini_RX11 co_X11_lineAt) z_cls11 hpx ⟨rfl, rfl⟩ dL_law_511 (na := 1) (by decide) rfl (by rw [hRm]; exact ⟨Nat.le_of_ble_eq_true rfl, Nat.le_of_ble_eq_true rfl⟩) (by exact ⟨by omega, by omega⟩) rfl (Nat.le_of_ble_eq_true rfl) ?_
  rintro _ K N I L R ⟨r1, rfl, rfl, rfl, rfl, rfl, rfl, hw⟩
  refine z_aload_n hC (q := 3) dL_law_514 rfl rfl ?_
  refine z_aload_n hC (q := 1) dL_law_515 rfl rfl ?_
  refine z_iload hC (q := 0) dL_law_516 rfl ?_
  refine z_iconst hC (v := nI 1) (by decide) dL_law_518 ?_
  refine z_iadd hC dL_law_519 ?_
  refine z_sldc hC hX hbl hbA (i := i) (c := 1) (by omega) hLs dL_law_520 ?_
  refine z_callV (As := [.int (xs (i + 1))]) (rest := [.int r1]) hC (c_X12_lineAt _ _ _ _ _ _ _ _ _ _ hw) (z_gV ml_RL_61 im_X12_lineAt se_X12_lineAt ini_RX12 co_X12_lineAt) z_cls12 hpm ⟨rfl, rfl⟩ dL_law_521 (na := 1) (by decide) rfl (by rw [hRm]; exact ⟨Nat.le_of_ble_eq_true rfl, Nat.le_of_ble_eq_true rfl⟩) (by exact ⟨by omega, by omega⟩) rfl (Nat.le_of_ble_eq_true rfl) ?_
  rintro _ K N I L R ⟨r2, rfl, rfl, rfl, rfl, rfl, ⟨hr, hcpl⟩⟩
  refine z_icmp_eq hC (tgt := 1490) dL_law_524 (by decide) (fun _ => ?_) (fun hc => absurd (by rw [hr]) hc)
  exact kk _ _ _ _ _ _ _ (by omega) (by omega) ⟨hcpl, h.2⟩
set_option maxHeartbeats 2000000 in
set_option maxRecDepth 20000 in
theorem lw_c9 {X : ZX} {G : ZG} {Qf : State → Prop} {b Ls i x m z mc ms : Nat} {xs : Nat → Int32} {K N : MK} {I : MI} {L : ML} {R : MR} (hC : ZOk X G RL cL_law 7 (some .boolean)) (hZ : zxS G X.2.2.2.2.1) (hfl : X.2.1.stackTraces = false) (hRm : X.2.2.2.1 = room_1) (hX : va_X b Ls xs X.2.2.2.2.1 X.2.2.2.2.1.heap) (hbl : b < X.2.2.2.2.1.heap.size) (hbA : ¬ z_A G b) (hi : i + 6 ≤ Ls) (hLs : Ls ≤ 3072) (hcs : mc + 1 ≤ X.2.2.2.1.cells ∧ ms + 6 ≤ X.2.2.2.1.slots) (h : LINV K N I L R x m z)
    (kk : ∀ (mc1 ms1 : Nat) (K N : MK) (I : MI) (L : ML) (R : MR), mc1 ≤ mc + 1 → ms1 ≤ ms + 6 → LINV K N I L R x m z → Z X G 7 mc1 ms1 Qf K N I L R 1490 [(4, .int (nI i)), (0, .ref b), (1, .ref x), (2, .ref m), (3, .ref z)] []) : Z X G 7 mc ms Qf K N I L R 529 [(4, .int (nI i)), (0, .ref b), (1, .ref x), (2, .ref m), (3, .ref z)] [] := by
  have hpm := (cpG₁ h.1).2.1.k
  refine z_aload_n hC (q := 2) dL_law_529 rfl rfl ?_
  refine z_aload_n hC (q := 1) dL_law_530 rfl rfl ?_
  refine z_iload hC (q := 0) dL_law_531 rfl ?_
  refine z_iconst hC (v := nI 1) (by decide) dL_law_533 ?_
  refine z_iadd hC dL_law_534 ?_
  refine z_sldc hC hX hbl hbA (i := i) (c := 1) (by omega) hLs dL_law_535 ?_
  refine z_aload_n hC (q := 1) dL_law_536 rfl rfl ?_
  refine z_iload hC (q := 0) dL_law_537 rfl ?_
  refine z_iconst hC (v := nI 2) (by decide) dL_law_539 ?_
  refine z_iadd hC dL_law_540 ?_
  refine z_sldc hC hX hbl hbA (i := i) (c := 2) (by omega) hLs dL_law_541 ?_
  have hpx := (cpG₁ h.1).1.k
  refine z_callV (As := [.int (xs (i + 1)), .int (xs (i + 2))]) (rest := []) hC (c_X11_addressOf _ _ _ _ _ _ _ _ _ _ _ (cs_addressOf h.1)) (z_gV ml_RL_62 im_X11_addressOf se_X11_addressOf ini_RX11 co_X11_addressOf) z_cls11 hpx ⟨rfl, rfl⟩ dL_law_542 (na := 2) (by decide) rfl (by rw [hRm]; exact ⟨Nat.le_of_ble_eq_true rfl, Nat.le_of_ble_eq_true rfl⟩) (by exact ⟨by omega, by omega⟩) rfl (Nat.le_of_ble_eq_true rfl) ?_
  rintro _ K N I L R ⟨r1, rfl, rfl, rfl, rfl, rfl, rfl, hw⟩
  refine z_aload_n hC (q := 3) dL_law_545 rfl rfl ?_
  refine z_aload_n hC (q := 1) dL_law_546 rfl rfl ?_
  refine z_iload hC (q := 0) dL_law_547 rfl ?_
  refine z_iconst hC (v := nI 1) (by decide) dL_law_549 ?_
  refine z_iadd hC dL_law_550 ?_
  refine z_sldc hC hX hbl hbA (i := i) (c := 1) (by omega) hLs dL_law_551 ?_
  refine z_aload_n hC (q := 1) dL_law_552 rfl rfl ?_
  refine z_iload hC (q := 0) dL_law_553 rfl ?_
  refine z_iconst hC (v := nI 2) (by decide) dL_law_555 ?_
  refine z_iadd hC dL_law_556 ?_
  refine z_sldc hC hX hbl hbA (i := i) (c := 2) (by omega) hLs dL_law_557 ?_
  refine z_callV (As := [.int (xs (i + 1)), .int (xs (i + 2))]) (rest := [.int r1]) hC (c_X12_addressOf _ _ _ _ _ _ _ _ _ _ _ hw) (z_gV ml_RL_65 im_X12_addressOf se_X12_addressOf ini_RX12 co_X12_addressOf) z_cls12 hpm ⟨rfl, rfl⟩ dL_law_558 (na := 2) (by decide) rfl (by rw [hRm]; exact ⟨Nat.le_of_ble_eq_true rfl, Nat.le_of_ble_eq_true rfl⟩) (by exact ⟨by omega, by omega⟩) rfl (Nat.le_of_ble_eq_true rfl) ?_
  rintro _ K N I L R ⟨r2, rfl, rfl, rfl, rfl, rfl, ⟨hr, hcpl⟩⟩
  refine z_icmp_eq hC (tgt := 1490) dL_law_561 (by decide) (fun _ => ?_) (fun hc => absurd (by rw [hr]) hc)
  exact kk _ _ _ _ _ _ _ (by omega) (by omega) ⟨hcpl, h.2⟩
set_option maxHeartbeats 2000000 in
set_option maxRecDepth 20000 in
theorem lw_c10 {X : ZX} {G : ZG} {Qf : State → Prop} {b Ls i x m z mc ms : Nat} {xs : Nat → Int32} {K N : MK} {I : MI} {L : ML} {R : MR} (hC : ZOk X G RL cL_law 7 (some .boolean)) (hZ : zxS G X.2.2.2.2.1) (hfl : X.2.1.stackTraces = false) (hRm : X.2.2.2.1 = room_1) (hX : va_X b Ls xs X.2.2.2.2.1 X.2.2.2.2.1.heap) (hbl : b < X.2.2.2.2.1.heap.size) (hbA : ¬ z_A G b) (hi : i + 6 ≤ Ls) (hLs : Ls ≤ 3072) (hcs : mc + 1 ≤ X.2.2.2.1.cells ∧ ms + 6 ≤ X.2.2.2.1.slots) (h : LINV K N I L R x m z)
    (kk : ∀ (mc1 ms1 : Nat) (K N : MK) (I : MI) (L : ML) (R : MR), mc1 ≤ mc + 1 → ms1 ≤ ms + 6 → LINV K N I L R x m z → Z X G 7 mc1 ms1 Qf K N I L R 1490 [(4, .int (nI i)), (0, .ref b), (1, .ref x), (2, .ref m), (3, .ref z)] []) : Z X G 7 mc ms Qf K N I L R 566 [(4, .int (nI i)), (0, .ref b), (1, .ref x), (2, .ref m), (3, .ref z)] [] := by
  have hpm := (cpG₁ h.1).2.1.k
  refine z_aload_n hC (q := 2) dL_law_566 rfl rfl ?_
  refine z_aload_n hC (q := 1) dL_law_567 rfl rfl ?_
  refine z_iload hC (q := 0) dL_law_568 rfl ?_
  refine z_iconst hC (v := nI 1) (by decide) dL_law_570 ?_
  refine z_iadd hC dL_law_571 ?_
  refine z_sldc hC hX hbl hbA (i := i) (c := 1) (by omega) hLs dL_law_572 ?_
  have hpx := (cpG₁ h.1).1.k
  refine z_callV (As := [.int (xs (i + 1))]) (rest := []) hC (c_X11_chain _ _ _ _ _ _ _ _ _ _ (cs_chain h.1)) (z_gV ml_RL_66 im_X11_chain se_X11_chain ini_RX11 co_X11_chain) z_cls11 hpx ⟨rfl, rfl⟩ dL_law_573 (na := 1) (by decide) rfl (by rw [hRm]; exact ⟨Nat.le_of_ble_eq_true rfl, Nat.le_of_ble_eq_true rfl⟩) (by exact ⟨by omega, by omega⟩) rfl (Nat.le_of_ble_eq_true rfl) ?_
  rintro _ K N I L R ⟨r1, rfl, rfl, rfl, rfl, hw⟩
  refine z_aload_n hC (q := 3) dL_law_576 rfl rfl ?_
  refine z_aload_n hC (q := 1) dL_law_577 rfl rfl ?_
  refine z_iload hC (q := 0) dL_law_578 rfl ?_
  refine z_iconst hC (v := nI 1) (by decide) dL_law_580 ?_
  refine z_iadd hC dL_law_581 ?_
  refine z_sldc hC hX hbl hbA (i := i) (c := 1) (by omega) hLs dL_law_582 ?_
  refine z_callV (As := [.int (xs (i + 1))]) (rest := [.int r1]) hC (c_X12_chain _ _ _ _ _ _ _ _ _ _ hw) (z_gV ml_RL_69 im_X12_chain se_X12_chain ini_RX12 co_X12_chain) z_cls12 hpm ⟨rfl, rfl⟩ dL_law_583 (na := 1) (by decide) rfl (by rw [hRm]; exact ⟨Nat.le_of_ble_eq_true rfl, Nat.le_of_ble_eq_true rfl⟩) (by exact ⟨by omega, by omega⟩) rfl (Nat.le_of_ble_eq_true rfl) ?_
  rintro _ K N I L R ⟨r2, rfl, rfl, rfl, rfl, rfl, ⟨hr, hcpl⟩⟩
  refine z_icmp_eq hC (tgt := 1490) dL_law_586 (by decide) (fun _ => ?_) (fun hc => absurd (by rw [hr]) hc)
  exact kk _ _ _ _ _ _ _ (by omega) (by omega) ⟨hcpl, h.2⟩
set_option maxHeartbeats 2000000 in
set_option maxRecDepth 20000 in
theorem lw_c11 {X : ZX} {G : ZG} {Qf : State → Prop} {b Ls i x m z mc ms : Nat} {xs : Nat → Int32} {K N : MK} {I : MI} {L : ML} {R : MR} (hC : ZOk X G RL cL_law 7 (some .boolean)) (hZ : zxS G X.2.2.2.2.1) (hfl : X.2.1.stackTraces = false) (hRm : X.2.2.2.1 = room_1) (hX : va_X b Ls xs X.2.2.2.2.1 X.2.2.2.2.1.heap) (hbl : b < X.2.2.2.2.1.heap.size) (hbA : ¬ z_A G b) (hi : i + 6 ≤ Ls) (hLs : Ls ≤ 3072) (hcs : mc + 1 ≤ X.2.2.2.1.cells ∧ ms + 6 ≤ X.2.2.2.1.slots) (h : LINV K N I L R x m z)
    (kk : ∀ (mc1 ms1 : Nat) (K N : MK) (I : MI) (L : ML) (R : MR), mc1 ≤ mc + 1 → ms1 ≤ ms + 6 → LINV K N I L R x m z → Z X G 7 mc1 ms1 Qf K N I L R 1490 [(4, .int (nI i)), (0, .ref b), (1, .ref x), (2, .ref m), (3, .ref z)] []) : Z X G 7 mc ms Qf K N I L R 591 [(4, .int (nI i)), (0, .ref b), (1, .ref x), (2, .ref m), (3, .ref z)] [] := by
  have hpm := (cpG₁ h.1).2.1.k
  refine z_aload_n hC (q := 2) dL_law_591 rfl rfl ?_
  refine z_aload_n hC (q := 1) dL_law_592 rfl rfl ?_
  refine z_iload hC (q := 0) dL_law_593 rfl ?_
  refine z_iconst hC (v := nI 1) (by decide) dL_law_595 ?_
  refine z_iadd hC dL_law_596 ?_
  refine z_sldc hC hX hbl hbA (i := i) (c := 1) (by omega) hLs dL_law_597 ?_
  have hpx := (cpG₁ h.1).1.k
  refine z_callV (As := [.int (xs (i + 1))]) (rest := []) hC (c_X11_chainAt _ _ _ _ _ _ _ _ _ _ (cs_chainAt h.1)) (z_gV ml_RL_70 im_X11_chainAt se_X11_chainAt ini_RX11 co_X11_chainAt) z_cls11 hpx ⟨rfl, rfl⟩ dL_law_598 (na := 1) (by decide) rfl (by rw [hRm]; exact ⟨Nat.le_of_ble_eq_true rfl, Nat.le_of_ble_eq_true rfl⟩) (by exact ⟨by omega, by omega⟩) rfl (Nat.le_of_ble_eq_true rfl) ?_
  rintro _ K N I L R ⟨r1, rfl, rfl, rfl, rfl, rfl, rfl, hw⟩
  refine z_aload_n hC (q := 3) dL_law_601 rfl rfl ?_
  refine z_aload_n hC (q := 1) dL_law_602 rfl rfl ?_
  refine z_iload hC (q := 0) dL_law_603 rfl ?_
  refine z_iconst hC (v := nI 1) (by decide) dL_law_605 ?_
  refine z_iadd hC dL_law_606 ?_
  refine z_sldc hC hX hbl hbA (i := i) (c := 1) (by omega) hLs dL_law_607 ?_
  refine z_callV (As := [.int (xs (i + 1))]) (rest := [.int r1]) hC (c_X12_chainAt _ _ _ _ _ _ _ _ _ _ hw) (z_gV ml_RL_73 im_X12_chainAt se_X12_chainAt ini_RX12 co_X12_chainAt) z_cls12 hpm ⟨rfl, rfl⟩ dL_law_608 (na := 1) (by decide) rfl (by rw [hRm]; exact ⟨Nat.le_of_ble_eq_true rfl, Nat.le_of_ble_eq_true rfl⟩) (by exact ⟨by omega, by omega⟩) rfl (Nat.le_of_ble_eq_true rfl) ?_
  rintro _ K N I L R ⟨r2, rfl, rfl, rfl, rfl, rfl, ⟨hr, hcpl⟩⟩
  refine z_icmp_eq hC (tgt := 1490) dL_law_611 (by decide) (fun _ => ?_) (fun hc => absurd (by rw [hr]) hc)
  exact kk _ _ _ _ _ _ _ (by omega) (by omega) ⟨hcpl, h.2⟩
set_option maxHeartbeats 2000000 in
set_option maxRecDepth 20000 in
theorem lw_c12 {X : ZX} {G : ZG} {Qf : State → Prop} {b Ls i x m z mc ms : Nat} {xs : Nat → Int32} {K N : MK} {I : MI} {L : ML} {R : MR} (hC : ZOk X G RL cL_law 7 (some .boolean)) (hZ : zxS G X.2.2.2.2.1) (hfl : X.2.1.stackTraces = false) (hRm : X.2.2.2.1 = room_1) (hX : va_X b Ls xs X.2.2.2.2.1 X.2.2.2.2.1.heap) (hbl : b < X.2.2.2.2.1.heap.size) (hbA : ¬ z_A G b) (hi : i + 6 ≤ Ls) (hLs : Ls ≤ 3072) (hcs : mc + 1 ≤ X.2.2.2.1.cells ∧ ms + 6 ≤ X.2.2.2.1.slots) (h : LINV K N I L R x m z)
    (kk : ∀ (mc1 ms1 : Nat) (K N : MK) (I : MI) (L : ML) (R : MR), mc1 ≤ mc + 1 → ms1 ≤ ms + 6 → LINV K N I L R x m z → Z X G 7 mc1 ms1 Qf K N I L R 1490 [(4, .int (nI i)), (0, .ref b), (1, .ref x), (2, .ref m), (3, .ref z)] []) : Z X G 7 mc ms Qf K N I L R 616 [(4, .int (nI i)), (0, .ref b), (1, .ref x), (2, .ref m), (3, .ref z)] [] := by
  have hpm := (cpG₁ h.1).2.1.k
  refine z_aload_n hC (q := 2) dL_law_616 rfl rfl ?_
  refine z_aload_n hC (q := 1) dL_law_617 rfl rfl ?_
  refine z_iload hC (q := 0) dL_law_618 rfl ?_
  refine z_iconst hC (v := nI 1) (by decide) dL_law_620 ?_
  refine z_iadd hC dL_law_621 ?_
  refine z_sldc hC hX hbl hbA (i := i) (c := 1) (by omega) hLs dL_law_622 ?_
  have hpx := (cpG₁ h.1).1.k
  refine z_callV (As := [.int (xs (i + 1))]) (rest := []) hC (c_X11_chainLine _ _ _ _ _ _ _ _ _ _ (cs_chainLine h.1)) (z_gV ml_RL_74 im_X11_chainLine se_X11_chainLine ini_RX11 co_X11_chainLine) z_cls11 hpx ⟨rfl, rfl⟩ dL_law_623 (na := 1) (by decide) rfl (by rw [hRm]; exact ⟨Nat.le_of_ble_eq_true rfl, Nat.le_of_ble_eq_true rfl⟩) (by exact ⟨by omega, by omega⟩) rfl (Nat.le_of_ble_eq_true rfl) ?_
  rintro _ K N I L R ⟨r1, rfl, rfl, rfl, rfl, rfl, rfl, hw⟩
  refine z_aload_n hC (q := 3) dL_law_626 rfl rfl ?_
  refine z_aload_n hC (q := 1) dL_law_627 rfl rfl ?_
  refine z_iload hC (q := 0) dL_law_628 rfl ?_
  refine z_iconst hC (v := nI 1) (by decide) dL_law_630 ?_
  refine z_iadd hC dL_law_631 ?_
  refine z_sldc hC hX hbl hbA (i := i) (c := 1) (by omega) hLs dL_law_632 ?_
  refine z_callV (As := [.int (xs (i + 1))]) (rest := [.int r1]) hC (c_X12_chainLine _ _ _ _ _ _ _ _ _ _ hw) (z_gV ml_RL_77 im_X12_chainLine se_X12_chainLine ini_RX12 co_X12_chainLine) z_cls12 hpm ⟨rfl, rfl⟩ dL_law_633 (na := 1) (by decide) rfl (by rw [hRm]; exact ⟨Nat.le_of_ble_eq_true rfl, Nat.le_of_ble_eq_true rfl⟩) (by exact ⟨by omega, by omega⟩) rfl (Nat.le_of_ble_eq_true rfl) ?_
  rintro _ K N I L R ⟨r2, rfl, rfl, rfl, rfl, rfl, ⟨hr, hcpl⟩⟩
  refine z_icmp_eq hC (tgt := 1490) dL_law_636 (by decide) (fun _ => ?_) (fun hc => absurd (by rw [hr]) hc)
  exact kk _ _ _ _ _ _ _ (by omega) (by omega) ⟨hcpl, h.2⟩
