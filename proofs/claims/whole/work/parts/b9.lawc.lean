set_option maxHeartbeats 2000000 in
set_option maxRecDepth 20000 in
theorem lw_c32 {X : ZX} {G : ZG} {Qf : State → Prop} {b Ls i x m z mc ms : Nat} {xs : Nat → Int32} {K N : MK} {I : MI} {L : ML} {R : MR} (hC : ZOk X G RL cL_law 7 (some .boolean)) (hZ : zxS G X.2.2.2.2.1) (hfl : X.2.1.stackTraces = false) (hRm : X.2.2.2.1 = room_1) (hX : va_X b Ls xs X.2.2.2.2.1 X.2.2.2.2.1.heap) (hbl : b < X.2.2.2.2.1.heap.size) (hbA : ¬ z_A G b) (hi : i + 6 ≤ Ls) (hLs : Ls ≤ 3072) (hcs : mc + 1 ≤ X.2.2.2.1.cells ∧ ms + 6 ≤ X.2.2.2.1.slots) (h : LINV K N I L R x m z)
    (kk : ∀ (mc1 ms1 : Nat) (K N : MK) (I : MI) (L : ML) (R : MR), mc1 ≤ mc + 1 → ms1 ≤ ms + 6 → LINV K N I L R x m z → Z X G 7 mc1 ms1 Qf K N I L R 1490 [(4, .int (nI i)), (0, .ref b), (1, .ref x), (2, .ref m), (3, .ref z)] []) : Z X G 7 mc ms Qf K N I L R 1178 [(4, .int (nI i)), (0, .ref b), (1, .ref x), (2, .ref m), (3, .ref z)] [] := by
  have hpm := (cpG₁ h.1).2.1.k
  refine z_aload_n hC (q := 2) dL_law_1178 rfl rfl ?_
  have hpx := (cpG₁ h.1).1.k
  refine z_callV (As := []) (rest := []) hC (c_X11_longest _ _ _ _ _ _ _ _ _ (cs_longest h.1)) (z_gV ml_RL_158 im_X11_longest se_X11_longest ini_RX11 co_X11_longest) z_cls11 hpx ⟨rfl, rfl⟩ dL_law_1179 (na := 0) (by decide) rfl (by rw [hRm]; exact ⟨Nat.le_of_ble_eq_true rfl, Nat.le_of_ble_eq_true rfl⟩) (by exact ⟨by omega, by omega⟩) rfl (Nat.le_of_ble_eq_true rfl) ?_
  rintro _ K N I L R ⟨r1, rfl, rfl, rfl, rfl, rfl, rfl, hw⟩
  refine z_aload_n hC (q := 3) dL_law_1182 rfl rfl ?_
  refine z_callV (As := []) (rest := [.int r1]) hC (c_X12_longest _ _ _ _ _ _ _ _ _ hw) (z_gV ml_RL_161 im_X12_longest se_X12_longest ini_RX12 co_X12_longest) z_cls12 hpm ⟨rfl, rfl⟩ dL_law_1183 (na := 0) (by decide) rfl (by rw [hRm]; exact ⟨Nat.le_of_ble_eq_true rfl, Nat.le_of_ble_eq_true rfl⟩) (by exact ⟨by omega, by omega⟩) rfl (Nat.le_of_ble_eq_true rfl) ?_
  rintro _ K N I L R ⟨r2, rfl, rfl, rfl, rfl, rfl, ⟨hr, hcpl⟩⟩
  refine z_icmp_eq hC (tgt := 1490) dL_law_1186 (by decide) (fun _ => ?_) (fun hc => absurd (by rw [hr]) hc)
  exact kk _ _ _ _ _ _ _ (by omega) (by omega) ⟨hcpl, h.2⟩
set_option maxHeartbeats 2000000 in
set_option maxRecDepth 20000 in
theorem lw_c33 {X : ZX} {G : ZG} {Qf : State → Prop} {b Ls i x m z mc ms : Nat} {xs : Nat → Int32} {K N : MK} {I : MI} {L : ML} {R : MR} (hC : ZOk X G RL cL_law 7 (some .boolean)) (hZ : zxS G X.2.2.2.2.1) (hfl : X.2.1.stackTraces = false) (hRm : X.2.2.2.1 = room_1) (hX : va_X b Ls xs X.2.2.2.2.1 X.2.2.2.2.1.heap) (hbl : b < X.2.2.2.2.1.heap.size) (hbA : ¬ z_A G b) (hi : i + 6 ≤ Ls) (hLs : Ls ≤ 3072) (hcs : mc + 1 ≤ X.2.2.2.1.cells ∧ ms + 6 ≤ X.2.2.2.1.slots) (h : LINV K N I L R x m z)
    (kk : ∀ (mc1 ms1 : Nat) (K N : MK) (I : MI) (L : ML) (R : MR), mc1 ≤ mc + 1 → ms1 ≤ ms + 6 → LINV K N I L R x m z → Z X G 7 mc1 ms1 Qf K N I L R 1490 [(4, .int (nI i)), (0, .ref b), (1, .ref x), (2, .ref m), (3, .ref z)] []) : Z X G 7 mc ms Qf K N I L R 1191 [(4, .int (nI i)), (0, .ref b), (1, .ref x), (2, .ref m), (3, .ref z)] [] := by
  have hpm := (cpG₁ h.1).2.1.k
  refine z_aload_n hC (q := 2) dL_law_1191 rfl rfl ?_
  refine z_aload_n hC (q := 1) dL_law_1192 rfl rfl ?_
  refine z_iload hC (q := 0) dL_law_1193 rfl ?_
  refine z_iconst hC (v := nI 1) (by decide) dL_law_1195 ?_
  refine z_iadd hC dL_law_1196 ?_
  refine z_sldc hC hX hbl hbA (i := i) (c := 1) (by omega) hLs dL_law_1197 ?_
  have hpx := (cpG₁ h.1).1.k
  refine z_callV (As := [.int (xs (i + 1))]) (rest := []) hC (c_X11_tag _ _ _ _ _ _ _ _ _ _ (cs_tag h.1)) (z_gV ml_RL_162 im_X11_tag se_X11_tag ini_RX11 co_X11_tag) z_cls11 hpx ⟨rfl, rfl⟩ dL_law_1198 (na := 1) (by decide) rfl (by rw [hRm]; exact ⟨Nat.le_of_ble_eq_true rfl, Nat.le_of_ble_eq_true rfl⟩) (by exact ⟨by omega, by omega⟩) rfl (Nat.le_of_ble_eq_true rfl) ?_
  rintro _ K N I L R ⟨r1, rfl, rfl, rfl, rfl, hw⟩
  refine z_aload_n hC (q := 3) dL_law_1201 rfl rfl ?_
  refine z_aload_n hC (q := 1) dL_law_1202 rfl rfl ?_
  refine z_iload hC (q := 0) dL_law_1203 rfl ?_
  refine z_iconst hC (v := nI 1) (by decide) dL_law_1205 ?_
  refine z_iadd hC dL_law_1206 ?_
  refine z_sldc hC hX hbl hbA (i := i) (c := 1) (by omega) hLs dL_law_1207 ?_
  refine z_callV (As := [.int (xs (i + 1))]) (rest := [.int r1]) hC (c_X12_tag _ _ _ _ _ _ _ _ _ _ hw) (z_gV ml_RL_165 im_X12_tag se_X12_tag ini_RX12 co_X12_tag) z_cls12 hpm ⟨rfl, rfl⟩ dL_law_1208 (na := 1) (by decide) rfl (by rw [hRm]; exact ⟨Nat.le_of_ble_eq_true rfl, Nat.le_of_ble_eq_true rfl⟩) (by exact ⟨by omega, by omega⟩) rfl (Nat.le_of_ble_eq_true rfl) ?_
  rintro _ K N I L R ⟨r2, rfl, rfl, rfl, rfl, rfl, ⟨hr, hcpl⟩⟩
  refine z_icmp_eq hC (tgt := 1490) dL_law_1211 (by decide) (fun _ => ?_) (fun hc => absurd (by rw [hr]) hc)
  exact kk _ _ _ _ _ _ _ (by omega) (by omega) ⟨hcpl, h.2⟩
set_option maxHeartbeats 2000000 in
set_option maxRecDepth 20000 in
theorem lw_c34 {X : ZX} {G : ZG} {Qf : State → Prop} {b Ls i x m z mc ms : Nat} {xs : Nat → Int32} {K N : MK} {I : MI} {L : ML} {R : MR} (hC : ZOk X G RL cL_law 7 (some .boolean)) (hZ : zxS G X.2.2.2.2.1) (hfl : X.2.1.stackTraces = false) (hRm : X.2.2.2.1 = room_1) (hX : va_X b Ls xs X.2.2.2.2.1 X.2.2.2.2.1.heap) (hbl : b < X.2.2.2.2.1.heap.size) (hbA : ¬ z_A G b) (hi : i + 6 ≤ Ls) (hLs : Ls ≤ 3072) (hcs : mc + 1 ≤ X.2.2.2.1.cells ∧ ms + 6 ≤ X.2.2.2.1.slots) (h : LINV K N I L R x m z)
    (kk : ∀ (mc1 ms1 : Nat) (K N : MK) (I : MI) (L : ML) (R : MR), mc1 ≤ mc + 1 → ms1 ≤ ms + 6 → LINV K N I L R x m z → Z X G 7 mc1 ms1 Qf K N I L R 1490 [(4, .int (nI i)), (0, .ref b), (1, .ref x), (2, .ref m), (3, .ref z)] []) : Z X G 7 mc ms Qf K N I L R 1216 [(4, .int (nI i)), (0, .ref b), (1, .ref x), (2, .ref m), (3, .ref z)] [] := by
  have hpm := (cpG₁ h.1).2.1.k
  refine z_aload_n hC (q := 2) dL_law_1216 rfl rfl ?_
  refine z_aload_n hC (q := 1) dL_law_1217 rfl rfl ?_
  refine z_iload hC (q := 0) dL_law_1218 rfl ?_
  refine z_iconst hC (v := nI 1) (by decide) dL_law_1220 ?_
  refine z_iadd hC dL_law_1221 ?_
  refine z_sldc hC hX hbl hbA (i := i) (c := 1) (by omega) hLs dL_law_1222 ?_
  have hpx := (cpG₁ h.1).1.k
  refine z_callV (As := [.int (xs (i + 1))]) (rest := []) hC (c_X11_byteAt _ _ _ _ _ _ _ _ _ _ (cs_byteAt h.1)) (z_gV ml_RL_166 im_X11_byteAt se_X11_byteAt ini_RX11 co_X11_byteAt) z_cls11 hpx ⟨rfl, rfl⟩ dL_law_1223 (na := 1) (by decide) rfl (by rw [hRm]; exact ⟨Nat.le_of_ble_eq_true rfl, Nat.le_of_ble_eq_true rfl⟩) (by exact ⟨by omega, by omega⟩) rfl (Nat.le_of_ble_eq_true rfl) ?_
  rintro _ K N I L R ⟨r1, rfl, rfl, rfl, rfl, rfl, rfl, hw⟩
  refine z_aload_n hC (q := 3) dL_law_1226 rfl rfl ?_
  refine z_aload_n hC (q := 1) dL_law_1227 rfl rfl ?_
  refine z_iload hC (q := 0) dL_law_1228 rfl ?_
  refine z_iconst hC (v := nI 1) (by decide) dL_law_1230 ?_
  refine z_iadd hC dL_law_1231 ?_
  refine z_sldc hC hX hbl hbA (i := i) (c := 1) (by omega) hLs dL_law_1232 ?_
  refine z_callV (As := [.int (xs (i + 1))]) (rest := [.int r1]) hC (c_X12_byteAt _ _ _ _ _ _ _ _ _ _ hw) (z_gV ml_RL_169 im_X12_byteAt se_X12_byteAt ini_RX12 co_X12_byteAt) z_cls12 hpm ⟨rfl, rfl⟩ dL_law_1233 (na := 1) (by decide) rfl (by rw [hRm]; exact ⟨Nat.le_of_ble_eq_true rfl, Nat.le_of_ble_eq_true rfl⟩) (by exact ⟨by omega, by omega⟩) rfl (Nat.le_of_ble_eq_true rfl) ?_
  rintro _ K N I L R ⟨r2, rfl, rfl, rfl, rfl, rfl, ⟨hr, hcpl⟩⟩
  refine z_icmp_eq hC (tgt := 1490) dL_law_1236 (by decide) (fun _ => ?_) (fun hc => absurd (by rw [hr]) hc)
  exact kk _ _ _ _ _ _ _ (by omega) (by omega) ⟨hcpl, h.2⟩
set_option maxHeartbeats 2000000 in
set_option maxRecDepth 20000 in
theorem lw_c35 {X : ZX} {G : ZG} {Qf : State → Prop} {b Ls i x m z mc ms : Nat} {xs : Nat → Int32} {K N : MK} {I : MI} {L : ML} {R : MR} (hC : ZOk X G RL cL_law 7 (some .boolean)) (hZ : zxS G X.2.2.2.2.1) (hfl : X.2.1.stackTraces = false) (hRm : X.2.2.2.1 = room_1) (hX : va_X b Ls xs X.2.2.2.2.1 X.2.2.2.2.1.heap) (hbl : b < X.2.2.2.2.1.heap.size) (hbA : ¬ z_A G b) (hi : i + 6 ≤ Ls) (hLs : Ls ≤ 3072) (hcs : mc + 1 ≤ X.2.2.2.1.cells ∧ ms + 6 ≤ X.2.2.2.1.slots) (h : LINV K N I L R x m z)
    (kk : ∀ (mc1 ms1 : Nat) (K N : MK) (I : MI) (L : ML) (R : MR), mc1 ≤ mc + 1 → ms1 ≤ ms + 6 → LINV K N I L R x m z → Z X G 7 mc1 ms1 Qf K N I L R 1490 [(4, .int (nI i)), (0, .ref b), (1, .ref x), (2, .ref m), (3, .ref z)] []) : Z X G 7 mc ms Qf K N I L R 1241 [(4, .int (nI i)), (0, .ref b), (1, .ref x), (2, .ref m), (3, .ref z)] [] := by
  have hpm := (cpG₁ h.1).2.1.k
  refine z_aload_n hC (q := 2) dL_law_1241 rfl rfl ?_
  refine z_aload_n hC (q := 1) dL_law_1242 rfl rfl ?_
  refine z_iload hC (q := 0) dL_law_1243 rfl ?_
  refine z_iconst hC (v := nI 1) (by decide) dL_law_1245 ?_
  refine z_iadd hC dL_law_1246 ?_
  refine z_sldc hC hX hbl hbA (i := i) (c := 1) (by omega) hLs dL_law_1247 ?_
  refine z_aload_n hC (q := 1) dL_law_1248 rfl rfl ?_
  refine z_iload hC (q := 0) dL_law_1249 rfl ?_
  refine z_iconst hC (v := nI 2) (by decide) dL_law_1251 ?_
  refine z_iadd hC dL_law_1252 ?_
  refine z_sldc hC hX hbl hbA (i := i) (c := 2) (by omega) hLs dL_law_1253 ?_
  have hpx := (cpG₁ h.1).1.k
  refine z_callV (As := [.int (xs (i + 1)), .int (xs (i + 2))]) (rest := []) hC (c_X11_drawn _ _ _ _ _ _ _ _ _ _ _ (cs_drawn h.1)) (z_gV ml_RL_170 im_X11_drawn se_X11_drawn ini_RX11 co_X11_drawn) z_cls11 hpx ⟨rfl, rfl⟩ dL_law_1254 (na := 2) (by decide) rfl (by rw [hRm]; exact ⟨Nat.le_of_ble_eq_true rfl, Nat.le_of_ble_eq_true rfl⟩) (by exact ⟨by omega, by omega⟩) rfl (Nat.le_of_ble_eq_true rfl) ?_
  rintro _ K N I L R ⟨r1, rfl, rfl, rfl, hw⟩
  refine z_aload_n hC (q := 3) dL_law_1257 rfl rfl ?_
  refine z_aload_n hC (q := 1) dL_law_1258 rfl rfl ?_
  refine z_iload hC (q := 0) dL_law_1259 rfl ?_
  refine z_iconst hC (v := nI 1) (by decide) dL_law_1261 ?_
  refine z_iadd hC dL_law_1262 ?_
  refine z_sldc hC hX hbl hbA (i := i) (c := 1) (by omega) hLs dL_law_1263 ?_
  refine z_aload_n hC (q := 1) dL_law_1264 rfl rfl ?_
  refine z_iload hC (q := 0) dL_law_1265 rfl ?_
  refine z_iconst hC (v := nI 2) (by decide) dL_law_1267 ?_
  refine z_iadd hC dL_law_1268 ?_
  refine z_sldc hC hX hbl hbA (i := i) (c := 2) (by omega) hLs dL_law_1269 ?_
  refine z_callV (As := [.int (xs (i + 1)), .int (xs (i + 2))]) (rest := [.int r1]) hC (c_X12_drawn _ _ _ _ _ _ _ _ _ _ _ hw) (z_gV ml_RL_173 im_X12_drawn se_X12_drawn ini_RX12 co_X12_drawn) z_cls12 hpm ⟨rfl, rfl⟩ dL_law_1270 (na := 2) (by decide) rfl (by rw [hRm]; exact ⟨Nat.le_of_ble_eq_true rfl, Nat.le_of_ble_eq_true rfl⟩) (by exact ⟨by omega, by omega⟩) rfl (Nat.le_of_ble_eq_true rfl) ?_
  rintro _ K N I L R ⟨r2, rfl, rfl, rfl, rfl, rfl, ⟨hr, hcpl⟩⟩
  refine z_icmp_eq hC (tgt := 1490) dL_law_1273 (by decide) (fun _ => ?_) (fun hc => absurd (by rw [hr]) hc)
  exact kk _ _ _ _ _ _ _ (by omega) (by omega) ⟨hcpl, h.2⟩
set_option maxHeartbeats 2000000 in
set_option maxRecDepth 20000 in
theorem lw_c36 {X : ZX} {G : ZG} {Qf : State → Prop} {b Ls i x m z mc ms : Nat} {xs : Nat → Int32} {K N : MK} {I : MI} {L : ML} {R : MR} (hC : ZOk X G RL cL_law 7 (some .boolean)) (hZ : zxS G X.2.2.2.2.1) (hfl : X.2.1.stackTraces = false) (hRm : X.2.2.2.1 = room_1) (hX : va_X b Ls xs X.2.2.2.2.1 X.2.2.2.2.1.heap) (hbl : b < X.2.2.2.2.1.heap.size) (hbA : ¬ z_A G b) (hi : i + 6 ≤ Ls) (hLs : Ls ≤ 3072) (hcs : mc + 1 ≤ X.2.2.2.1.cells ∧ ms + 6 ≤ X.2.2.2.1.slots) (h : LINV K N I L R x m z)
    (kk : ∀ (mc1 ms1 : Nat) (K N : MK) (I : MI) (L : ML) (R : MR), mc1 ≤ mc + 1 → ms1 ≤ ms + 6 → LINV K N I L R x m z → Z X G 7 mc1 ms1 Qf K N I L R 1490 [(4, .int (nI i)), (0, .ref b), (1, .ref x), (2, .ref m), (3, .ref z)] []) : Z X G 7 mc ms Qf K N I L R 1278 [(4, .int (nI i)), (0, .ref b), (1, .ref x), (2, .ref m), (3, .ref z)] [] := by
  have hpm := (cpG₁ h.1).2.1.k
  refine z_aload_n hC (q := 2) dL_law_1278 rfl rfl ?_
  refine z_aload_n hC (q := 1) dL_law_1279 rfl rfl ?_
  refine z_iload hC (q := 0) dL_law_1280 rfl ?_
  refine z_iconst hC (v := nI 1) (by decide) dL_law_1282 ?_
  refine z_iadd hC dL_law_1283 ?_
  refine z_sldc hC hX hbl hbA (i := i) (c := 1) (by omega) hLs dL_law_1284 ?_
  refine z_aload_n hC (q := 1) dL_law_1285 rfl rfl ?_
  refine z_iload hC (q := 0) dL_law_1286 rfl ?_
  refine z_iconst hC (v := nI 2) (by decide) dL_law_1288 ?_
  refine z_iadd hC dL_law_1289 ?_
  refine z_sldc hC hX hbl hbA (i := i) (c := 2) (by omega) hLs dL_law_1290 ?_
  refine z_aload_n hC (q := 1) dL_law_1291 rfl rfl ?_
  refine z_iload hC (q := 0) dL_law_1292 rfl ?_
  refine z_iconst hC (v := nI 3) (by decide) dL_law_1294 ?_
  refine z_iadd hC dL_law_1295 ?_
  refine z_sldc hC hX hbl hbA (i := i) (c := 3) (by omega) hLs dL_law_1296 ?_
  have hpx := (cpG₁ h.1).1.k
  refine z_callV (As := [.int (xs (i + 1)), .int (xs (i + 2)), .int (xs (i + 3))]) (rest := []) hC (c_X11_odds _ _ _ _ _ _ _ _ _ _ _ _ (cs_odds h.1)) (z_gV ml_RL_174 im_X11_odds se_X11_odds ini_RX11 co_X11_odds) z_cls11 hpx ⟨rfl, rfl⟩ dL_law_1297 (na := 3) (by decide) rfl (by rw [hRm]; exact ⟨Nat.le_of_ble_eq_true rfl, Nat.le_of_ble_eq_true rfl⟩) (by exact ⟨by omega, by omega⟩) rfl (Nat.le_of_ble_eq_true rfl) ?_
  rintro _ K N I L R ⟨r1, rfl, rfl, rfl, rfl, rfl, hw⟩
  refine z_aload_n hC (q := 3) dL_law_1300 rfl rfl ?_
  refine z_aload_n hC (q := 1) dL_law_1301 rfl rfl ?_
  refine z_iload hC (q := 0) dL_law_1302 rfl ?_
  refine z_iconst hC (v := nI 1) (by decide) dL_law_1304 ?_
  refine z_iadd hC dL_law_1305 ?_
  refine z_sldc hC hX hbl hbA (i := i) (c := 1) (by omega) hLs dL_law_1306 ?_
  refine z_aload_n hC (q := 1) dL_law_1307 rfl rfl ?_
  refine z_iload hC (q := 0) dL_law_1308 rfl ?_
  refine z_iconst hC (v := nI 2) (by decide) dL_law_1310 ?_
  refine z_iadd hC dL_law_1311 ?_
  refine z_sldc hC hX hbl hbA (i := i) (c := 2) (by omega) hLs dL_law_1312 ?_
  refine z_aload_n hC (q := 1) dL_law_1313 rfl rfl ?_
  refine z_iload hC (q := 0) dL_law_1314 rfl ?_
  refine z_iconst hC (v := nI 3) (by decide) dL_law_1316 ?_
  refine z_iadd hC dL_law_1317 ?_
  refine z_sldc hC hX hbl hbA (i := i) (c := 3) (by omega) hLs dL_law_1318 ?_
  refine z_callV (As := [.int (xs (i + 1)), .int (xs (i + 2)), .int (xs (i + 3))]) (rest := [.int r1]) hC (c_X12_odds _ _ _ _ _ _ _ _ _ _ _ _ hw) (z_gV ml_RL_178 im_X12_odds se_X12_odds ini_RX12 co_X12_odds) z_cls12 hpm ⟨rfl, rfl⟩ dL_law_1319 (na := 3) (by decide) rfl (by rw [hRm]; exact ⟨Nat.le_of_ble_eq_true rfl, Nat.le_of_ble_eq_true rfl⟩) (by exact ⟨by omega, by omega⟩) rfl (Nat.le_of_ble_eq_true rfl) ?_
  rintro _ K N I L R ⟨r2, rfl, rfl, rfl, rfl, rfl, ⟨hr, hcpl⟩⟩
  refine z_icmp_eq hC (tgt := 1490) dL_law_1322 (by decide) (fun _ => ?_) (fun hc => absurd (by rw [hr]) hc)
  exact kk _ _ _ _ _ _ _ (by omega) (by omega) ⟨hcpl, h.2⟩
set_option maxHeartbeats 2000000 in
set_option maxRecDepth 20000 in
theorem lw_c37 {X : ZX} {G : ZG} {Qf : State → Prop} {b Ls i x m z mc ms : Nat} {xs : Nat → Int32} {K N : MK} {I : MI} {L : ML} {R : MR} (hC : ZOk X G RL cL_law 7 (some .boolean)) (hZ : zxS G X.2.2.2.2.1) (hfl : X.2.1.stackTraces = false) (hRm : X.2.2.2.1 = room_1) (hX : va_X b Ls xs X.2.2.2.2.1 X.2.2.2.2.1.heap) (hbl : b < X.2.2.2.2.1.heap.size) (hbA : ¬ z_A G b) (hi : i + 6 ≤ Ls) (hLs : Ls ≤ 3072) (hcs : mc + 1 ≤ X.2.2.2.1.cells ∧ ms + 6 ≤ X.2.2.2.1.slots) (h : LINV K N I L R x m z)
    (kk : ∀ (mc1 ms1 : Nat) (K N : MK) (I : MI) (L : ML) (R : MR), mc1 ≤ mc + 1 → ms1 ≤ ms + 6 → LINV K N I L R x m z → Z X G 7 mc1 ms1 Qf K N I L R 1490 [(4, .int (nI i)), (0, .ref b), (1, .ref x), (2, .ref m), (3, .ref z)] []) : Z X G 7 mc ms Qf K N I L R 1327 [(4, .int (nI i)), (0, .ref b), (1, .ref x), (2, .ref m), (3, .ref z)] [] := by
  have hpm := (cpG₁ h.1).2.1.k
  refine z_aload_n hC (q := 2) dL_law_1327 rfl rfl ?_
  refine z_aload_n hC (q := 1) dL_law_1328 rfl rfl ?_
  refine z_iload hC (q := 0) dL_law_1329 rfl ?_
  refine z_iconst hC (v := nI 1) (by decide) dL_law_1331 ?_
  refine z_iadd hC dL_law_1332 ?_
  refine z_sldc hC hX hbl hbA (i := i) (c := 1) (by omega) hLs dL_law_1333 ?_
  have hpx := (cpG₁ h.1).1.k
  refine z_callV (As := [.int (xs (i + 1))]) (rest := []) hC (c_X11_book _ _ _ _ _ _ _ _ _ _ (cs_book h.1)) (z_gV ml_RL_179 im_X11_book se_X11_book ini_RX11 co_X11_book) z_cls11 hpx ⟨rfl, rfl⟩ dL_law_1334 (na := 1) (by decide) rfl (by rw [hRm]; exact ⟨Nat.le_of_ble_eq_true rfl, Nat.le_of_ble_eq_true rfl⟩) (by exact ⟨by omega, by omega⟩) rfl (Nat.le_of_ble_eq_true rfl) ?_
  rintro _ K N I L R ⟨r1, rfl, rfl, rfl, hw⟩
  refine z_aload_n hC (q := 3) dL_law_1337 rfl rfl ?_
  refine z_aload_n hC (q := 1) dL_law_1338 rfl rfl ?_
  refine z_iload hC (q := 0) dL_law_1339 rfl ?_
  refine z_iconst hC (v := nI 1) (by decide) dL_law_1341 ?_
  refine z_iadd hC dL_law_1342 ?_
  refine z_sldc hC hX hbl hbA (i := i) (c := 1) (by omega) hLs dL_law_1343 ?_
  refine z_callV (As := [.int (xs (i + 1))]) (rest := [.int r1]) hC (c_X12_book _ _ _ _ _ _ _ _ _ _ hw) (z_gV ml_RL_182 im_X12_book se_X12_book ini_RX12 co_X12_book) z_cls12 hpm ⟨rfl, rfl⟩ dL_law_1344 (na := 1) (by decide) rfl (by rw [hRm]; exact ⟨Nat.le_of_ble_eq_true rfl, Nat.le_of_ble_eq_true rfl⟩) (by exact ⟨by omega, by omega⟩) rfl (Nat.le_of_ble_eq_true rfl) ?_
  rintro _ K N I L R ⟨r2, rfl, rfl, rfl, rfl, ⟨hr, hcpl⟩⟩
  refine z_icmp_eq hC (tgt := 1490) dL_law_1347 (by decide) (fun _ => ?_) (fun hc => absurd (by rw [hr]) hc)
  exact kk _ _ _ _ _ _ _ (by omega) (by omega) ⟨hcpl, h.2⟩
set_option maxHeartbeats 2000000 in
set_option maxRecDepth 20000 in
theorem lw_c38 {X : ZX} {G : ZG} {Qf : State → Prop} {b Ls i x m z mc ms : Nat} {xs : Nat → Int32} {K N : MK} {I : MI} {L : ML} {R : MR} (hC : ZOk X G RL cL_law 7 (some .boolean)) (hZ : zxS G X.2.2.2.2.1) (hfl : X.2.1.stackTraces = false) (hRm : X.2.2.2.1 = room_1) (hX : va_X b Ls xs X.2.2.2.2.1 X.2.2.2.2.1.heap) (hbl : b < X.2.2.2.2.1.heap.size) (hbA : ¬ z_A G b) (hi : i + 6 ≤ Ls) (hLs : Ls ≤ 3072) (hcs : mc + 1 ≤ X.2.2.2.1.cells ∧ ms + 6 ≤ X.2.2.2.1.slots) (h : LINV K N I L R x m z)
    (kk : ∀ (mc1 ms1 : Nat) (K N : MK) (I : MI) (L : ML) (R : MR), mc1 ≤ mc + 1 → ms1 ≤ ms + 6 → LINV K N I L R x m z → Z X G 7 mc1 ms1 Qf K N I L R 1490 [(4, .int (nI i)), (0, .ref b), (1, .ref x), (2, .ref m), (3, .ref z)] []) : Z X G 7 mc ms Qf K N I L R 1352 [(4, .int (nI i)), (0, .ref b), (1, .ref x), (2, .ref m), (3, .ref z)] [] := by
  have hpm := (cpG₁ h.1).2.1.k
  refine z_aload_n hC (q := 2) dL_law_1352 rfl rfl ?_
  refine z_aload_n hC (q := 1) dL_law_1353 rfl rfl ?_
  refine z_iload hC (q := 0) dL_law_1354 rfl ?_
  refine z_iconst hC (v := nI 1) (by decide) dL_law_1356 ?_
  refine z_iadd hC dL_law_1357 ?_
  refine z_sldc hC hX hbl hbA (i := i) (c := 1) (by omega) hLs dL_law_1358 ?_
  have hpx := (cpG₁ h.1).1.k
  refine z_callV (As := [.int (xs (i + 1))]) (rest := []) hC (c_X11_told _ _ _ _ _ _ _ _ _ _ (cs_told h.1)) (z_gV ml_RL_183 im_X11_told se_X11_told ini_RX11 co_X11_told) z_cls11 hpx ⟨rfl, rfl⟩ dL_law_1359 (na := 1) (by decide) rfl (by rw [hRm]; exact ⟨Nat.le_of_ble_eq_true rfl, Nat.le_of_ble_eq_true rfl⟩) (by exact ⟨by omega, by omega⟩) rfl (Nat.le_of_ble_eq_true rfl) ?_
  rintro _ K N I L R ⟨r1, rfl, rfl, rfl, rfl, rfl, rfl, hw⟩
  refine z_aload_n hC (q := 3) dL_law_1362 rfl rfl ?_
  refine z_aload_n hC (q := 1) dL_law_1363 rfl rfl ?_
  refine z_iload hC (q := 0) dL_law_1364 rfl ?_
  refine z_iconst hC (v := nI 1) (by decide) dL_law_1366 ?_
  refine z_iadd hC dL_law_1367 ?_
  refine z_sldc hC hX hbl hbA (i := i) (c := 1) (by omega) hLs dL_law_1368 ?_
  refine z_callV (As := [.int (xs (i + 1))]) (rest := [.int r1]) hC (c_X12_told _ _ _ _ _ _ _ _ _ _ hw) (z_gV ml_RL_186 im_X12_told se_X12_told ini_RX12 co_X12_told) z_cls12 hpm ⟨rfl, rfl⟩ dL_law_1369 (na := 1) (by decide) rfl (by rw [hRm]; exact ⟨Nat.le_of_ble_eq_true rfl, Nat.le_of_ble_eq_true rfl⟩) (by exact ⟨by omega, by omega⟩) rfl (Nat.le_of_ble_eq_true rfl) ?_
  rintro _ K N I L R ⟨r2, rfl, rfl, rfl, rfl, rfl, ⟨hr, hcpl⟩⟩
  refine z_icmp_eq hC (tgt := 1490) dL_law_1372 (by decide) (fun _ => ?_) (fun hc => absurd (by rw [hr]) hc)
  exact kk _ _ _ _ _ _ _ (by omega) (by omega) ⟨hcpl, h.2⟩
set_option maxHeartbeats 2000000 in
set_option maxRecDepth 20000 in
theorem lw_c39 {X : ZX} {G : ZG} {Qf : State → Prop} {b Ls i x m z mc ms : Nat} {xs : Nat → Int32} {K N : MK} {I : MI} {L : ML} {R : MR} (hC : ZOk X G RL cL_law 7 (some .boolean)) (hZ : zxS G X.2.2.2.2.1) (hfl : X.2.1.stackTraces = false) (hRm : X.2.2.2.1 = room_1) (hX : va_X b Ls xs X.2.2.2.2.1 X.2.2.2.2.1.heap) (hbl : b < X.2.2.2.2.1.heap.size) (hbA : ¬ z_A G b) (hi : i + 6 ≤ Ls) (hLs : Ls ≤ 3072) (hcs : mc + 1 ≤ X.2.2.2.1.cells ∧ ms + 6 ≤ X.2.2.2.1.slots) (h : LINV K N I L R x m z)
    (kk : ∀ (mc1 ms1 : Nat) (K N : MK) (I : MI) (L : ML) (R : MR), mc1 ≤ mc + 1 → ms1 ≤ ms + 6 → LINV K N I L R x m z → Z X G 7 mc1 ms1 Qf K N I L R 1490 [(4, .int (nI i)), (0, .ref b), (1, .ref x), (2, .ref m), (3, .ref z)] []) : Z X G 7 mc ms Qf K N I L R 1377 [(4, .int (nI i)), (0, .ref b), (1, .ref x), (2, .ref m), (3, .ref z)] [] := by
  have hpm := (cpG₁ h.1).2.1.k
  refine z_aload_n hC (q := 2) dL_law_1377 rfl rfl ?_
  have hpx := (cpG₁ h.1).1.k
  refine z_callV (As := []) (rest := []) hC (c_X11_sentence _ _ _ _ _ _ _ _ _ (cs_sentence h.1)) (z_gV ml_RL_187 im_X11_sentence se_X11_sentence ini_RX11 co_X11_sentence) z_cls11 hpx ⟨rfl, rfl⟩ dL_law_1378 (na := 0) (by decide) rfl (by rw [hRm]; exact ⟨Nat.le_of_ble_eq_true rfl, Nat.le_of_ble_eq_true rfl⟩) (by exact ⟨by omega, by omega⟩) rfl (Nat.le_of_ble_eq_true rfl) ?_
  rintro _ K N I L R ⟨r1, rfl, rfl, rfl, rfl, hw⟩
  refine z_aload_n hC (q := 3) dL_law_1381 rfl rfl ?_
  refine z_callV (As := []) (rest := [.int r1]) hC (c_X12_sentence _ _ _ _ _ _ _ _ _ hw) (z_gV ml_RL_190 im_X12_sentence se_X12_sentence ini_RX12 co_X12_sentence) z_cls12 hpm ⟨rfl, rfl⟩ dL_law_1382 (na := 0) (by decide) rfl (by rw [hRm]; exact ⟨Nat.le_of_ble_eq_true rfl, Nat.le_of_ble_eq_true rfl⟩) (by exact ⟨by omega, by omega⟩) rfl (Nat.le_of_ble_eq_true rfl) ?_
  rintro _ K N I L R ⟨r2, rfl, rfl, rfl, rfl, ⟨hr, hcpl⟩⟩
  refine z_icmp_eq hC (tgt := 1490) dL_law_1385 (by decide) (fun _ => ?_) (fun hc => absurd (by rw [hr]) hc)
  exact kk _ _ _ _ _ _ _ (by omega) (by omega) ⟨hcpl, h.2⟩
set_option maxHeartbeats 2000000 in
set_option maxRecDepth 20000 in
theorem lw_c40 {X : ZX} {G : ZG} {Qf : State → Prop} {b Ls i x m z mc ms : Nat} {xs : Nat → Int32} {K N : MK} {I : MI} {L : ML} {R : MR} (hC : ZOk X G RL cL_law 7 (some .boolean)) (hZ : zxS G X.2.2.2.2.1) (hfl : X.2.1.stackTraces = false) (hRm : X.2.2.2.1 = room_1) (hX : va_X b Ls xs X.2.2.2.2.1 X.2.2.2.2.1.heap) (hbl : b < X.2.2.2.2.1.heap.size) (hbA : ¬ z_A G b) (hi : i + 6 ≤ Ls) (hLs : Ls ≤ 3072) (hcs : mc + 1 ≤ X.2.2.2.1.cells ∧ ms + 6 ≤ X.2.2.2.1.slots) (h : LINV K N I L R x m z)
    (kk : ∀ (mc1 ms1 : Nat) (K N : MK) (I : MI) (L : ML) (R : MR), mc1 ≤ mc + 1 → ms1 ≤ ms + 6 → LINV K N I L R x m z → Z X G 7 mc1 ms1 Qf K N I L R 1490 [(4, .int (nI i)), (0, .ref b), (1, .ref x), (2, .ref m), (3, .ref z)] []) : Z X G 7 mc ms Qf K N I L R 1390 [(4, .int (nI i)), (0, .ref b), (1, .ref x), (2, .ref m), (3, .ref z)] [] := by
  have hpm := (cpG₁ h.1).2.1.k
  refine z_aload_n hC (q := 2) dL_law_1390 rfl rfl ?_
  refine z_aload_n hC (q := 1) dL_law_1391 rfl rfl ?_
  refine z_iload hC (q := 0) dL_law_1392 rfl ?_
  refine z_iconst hC (v := nI 1) (by decide) dL_law_1394 ?_
  refine z_iadd hC dL_law_1395 ?_
  refine z_sldc hC hX hbl hbA (i := i) (c := 1) (by omega) hLs dL_law_1396 ?_
  have hpx := (cpG₁ h.1).1.k
  refine z_callV (As := [.int (xs (i + 1))]) (rest := []) hC (c_X11_said _ _ _ _ _ _ _ _ _ _ (cs_said h.1)) (z_gV ml_RL_191 im_X11_said se_X11_said ini_RX11 co_X11_said) z_cls11 hpx ⟨rfl, rfl⟩ dL_law_1397 (na := 1) (by decide) rfl (by rw [hRm]; exact ⟨Nat.le_of_ble_eq_true rfl, Nat.le_of_ble_eq_true rfl⟩) (by exact ⟨by omega, by omega⟩) rfl (Nat.le_of_ble_eq_true rfl) ?_
  rintro _ K N I L R ⟨r1, rfl, rfl, rfl, rfl, rfl, hw⟩
  refine z_aload_n hC (q := 3) dL_law_1400 rfl rfl ?_
  refine z_aload_n hC (q := 1) dL_law_1401 rfl rfl ?_
  refine z_iload hC (q := 0) dL_law_1402 rfl ?_
  refine z_iconst hC (v := nI 1) (by decide) dL_law_1404 ?_
  refine z_iadd hC dL_law_1405 ?_
  refine z_sldc hC hX hbl hbA (i := i) (c := 1) (by omega) hLs dL_law_1406 ?_
  refine z_callV (As := [.int (xs (i + 1))]) (rest := [.int r1]) hC (c_X12_said _ _ _ _ _ _ _ _ _ _ hw) (z_gV ml_RL_194 im_X12_said se_X12_said ini_RX12 co_X12_said) z_cls12 hpm ⟨rfl, rfl⟩ dL_law_1407 (na := 1) (by decide) rfl (by rw [hRm]; exact ⟨Nat.le_of_ble_eq_true rfl, Nat.le_of_ble_eq_true rfl⟩) (by exact ⟨by omega, by omega⟩) rfl (Nat.le_of_ble_eq_true rfl) ?_
  rintro _ K N I L R ⟨r2, rfl, rfl, rfl, rfl, rfl, ⟨hr, hcpl⟩⟩
  refine z_icmp_eq hC (tgt := 1490) dL_law_1410 (by decide) (fun _ => ?_) (fun hc => absurd (by rw [hr]) hc)
  exact kk _ _ _ _ _ _ _ (by omega) (by omega) ⟨hcpl, h.2⟩
set_option maxHeartbeats 2000000 in
set_option maxRecDepth 20000 in
theorem lw_c41 {X : ZX} {G : ZG} {Qf : State → Prop} {b Ls i x m z mc ms : Nat} {xs : Nat → Int32} {K N : MK} {I : MI} {L : ML} {R : MR} (hC : ZOk X G RL cL_law 7 (some .boolean)) (hZ : zxS G X.2.2.2.2.1) (hfl : X.2.1.stackTraces = false) (hRm : X.2.2.2.1 = room_1) (hX : va_X b Ls xs X.2.2.2.2.1 X.2.2.2.2.1.heap) (hbl : b < X.2.2.2.2.1.heap.size) (hbA : ¬ z_A G b) (hi : i + 6 ≤ Ls) (hLs : Ls ≤ 3072) (hcs : mc + 1 ≤ X.2.2.2.1.cells ∧ ms + 6 ≤ X.2.2.2.1.slots) (h : LINV K N I L R x m z)
    (kk : ∀ (mc1 ms1 : Nat) (K N : MK) (I : MI) (L : ML) (R : MR), mc1 ≤ mc + 1 → ms1 ≤ ms + 6 → LINV K N I L R x m z → Z X G 7 mc1 ms1 Qf K N I L R 1490 [(4, .int (nI i)), (0, .ref b), (1, .ref x), (2, .ref m), (3, .ref z)] []) : Z X G 7 mc ms Qf K N I L R 1415 [(4, .int (nI i)), (0, .ref b), (1, .ref x), (2, .ref m), (3, .ref z)] [] := by
  have hpm := (cpG₁ h.1).2.1.k
  refine z_aload_n hC (q := 2) dL_law_1415 rfl rfl ?_
  refine z_aload_n hC (q := 1) dL_law_1416 rfl rfl ?_
  refine z_iload hC (q := 0) dL_law_1417 rfl ?_
  refine z_iconst hC (v := nI 1) (by decide) dL_law_1419 ?_
  refine z_iadd hC dL_law_1420 ?_
  refine z_sldc hC hX hbl hbA (i := i) (c := 1) (by omega) hLs dL_law_1421 ?_
  have hpx := (cpG₁ h.1).1.k
  refine z_callV (As := [.int (xs (i + 1))]) (rest := []) hC (c_X11_image _ _ _ _ _ _ _ _ _ _ (cs_image h.1)) (z_gV ml_RL_195 im_X11_image se_X11_image ini_RX11 co_X11_image) z_cls11 hpx ⟨rfl, rfl⟩ dL_law_1422 (na := 1) (by decide) rfl (by rw [hRm]; exact ⟨Nat.le_of_ble_eq_true rfl, Nat.le_of_ble_eq_true rfl⟩) (by exact ⟨by omega, by omega⟩) rfl (Nat.le_of_ble_eq_true rfl) ?_
  rintro _ K N I L R ⟨rb, rfl, rfl, rfl, rfl, hw⟩
  refine z_aload_n hC (q := 3) dL_law_1425 rfl rfl ?_
  refine z_aload_n hC (q := 1) dL_law_1426 rfl rfl ?_
  refine z_iload hC (q := 0) dL_law_1427 rfl ?_
  refine z_iconst hC (v := nI 1) (by decide) dL_law_1429 ?_
  refine z_iadd hC dL_law_1430 ?_
  refine z_sldc hC hX hbl hbA (i := i) (c := 1) (by omega) hLs dL_law_1431 ?_
  refine z_callV (As := [.int (xs (i + 1))]) (rest := [.int (bi rb)]) hC (c_X12_image _ _ _ _ _ _ _ _ _ _ hw) (z_gV ml_RL_198 im_X12_image se_X12_image ini_RX12 co_X12_image) z_cls12 hpm ⟨rfl, rfl⟩ dL_law_1432 (na := 1) (by decide) rfl (by rw [hRm]; exact ⟨Nat.le_of_ble_eq_true rfl, Nat.le_of_ble_eq_true rfl⟩) (by exact ⟨by omega, by omega⟩) rfl (Nat.le_of_ble_eq_true rfl) ?_
  rintro _ K N I L R ⟨rc, rfl, rfl, rfl, rfl, ⟨hr, hcpl⟩⟩
  refine z_icmp_eq hC (tgt := 1490) dL_law_1435 (by decide) (fun _ => ?_) (fun hc => absurd (by rw [hr]) hc)
  exact kk _ _ _ _ _ _ _ (by omega) (by omega) ⟨hcpl, h.2⟩
set_option maxHeartbeats 2000000 in
set_option maxRecDepth 20000 in
theorem lw_c42 {X : ZX} {G : ZG} {Qf : State → Prop} {b Ls i x m z mc ms : Nat} {xs : Nat → Int32} {K N : MK} {I : MI} {L : ML} {R : MR} (hC : ZOk X G RL cL_law 7 (some .boolean)) (hZ : zxS G X.2.2.2.2.1) (hfl : X.2.1.stackTraces = false) (hRm : X.2.2.2.1 = room_1) (hX : va_X b Ls xs X.2.2.2.2.1 X.2.2.2.2.1.heap) (hbl : b < X.2.2.2.2.1.heap.size) (hbA : ¬ z_A G b) (hi : i + 6 ≤ Ls) (hLs : Ls ≤ 3072) (hcs : mc + 1 ≤ X.2.2.2.1.cells ∧ ms + 6 ≤ X.2.2.2.1.slots) (h : LINV K N I L R x m z)
    (kk : ∀ (mc1 ms1 : Nat) (K N : MK) (I : MI) (L : ML) (R : MR), mc1 ≤ mc + 1 → ms1 ≤ ms + 6 → LINV K N I L R x m z → Z X G 7 mc1 ms1 Qf K N I L R 1490 [(4, .int (nI i)), (0, .ref b), (1, .ref x), (2, .ref m), (3, .ref z)] []) : Z X G 7 mc ms Qf K N I L R 1440 [(4, .int (nI i)), (0, .ref b), (1, .ref x), (2, .ref m), (3, .ref z)] [] := by
  have hpm := (cpG₁ h.1).2.1.k
  refine z_aload_n hC (q := 2) dL_law_1440 rfl rfl ?_
  refine z_aload_n hC (q := 1) dL_law_1441 rfl rfl ?_
  refine z_iload hC (q := 0) dL_law_1442 rfl ?_
  refine z_iconst hC (v := nI 1) (by decide) dL_law_1444 ?_
  refine z_iadd hC dL_law_1445 ?_
  refine z_sldc hC hX hbl hbA (i := i) (c := 1) (by omega) hLs dL_law_1446 ?_
  have hpx := (cpG₁ h.1).1.k
  refine z_callV (As := [.int (xs (i + 1))]) (rest := []) hC (c_X11_restore _ _ _ _ _ _ _ _ _ _ (cs_restore h.1)) (z_gV ml_RL_199 im_X11_restore se_X11_restore ini_RX11 co_X11_restore) z_cls11 hpx ⟨rfl, rfl⟩ dL_law_1447 (na := 1) (by decide) rfl (by rw [hRm]; exact ⟨Nat.le_of_ble_eq_true rfl, Nat.le_of_ble_eq_true rfl⟩) (by exact ⟨by omega, by omega⟩) rfl (Nat.le_of_ble_eq_true rfl) ?_
  rintro _ K N I L R ⟨rb, rfl, rfl, rfl, rfl, hw⟩
  refine z_aload_n hC (q := 3) dL_law_1450 rfl rfl ?_
  refine z_aload_n hC (q := 1) dL_law_1451 rfl rfl ?_
  refine z_iload hC (q := 0) dL_law_1452 rfl ?_
  refine z_iconst hC (v := nI 1) (by decide) dL_law_1454 ?_
  refine z_iadd hC dL_law_1455 ?_
  refine z_sldc hC hX hbl hbA (i := i) (c := 1) (by omega) hLs dL_law_1456 ?_
  refine z_callV (As := [.int (xs (i + 1))]) (rest := [.int (bi rb)]) hC (c_X12_restore _ _ _ _ _ _ _ _ _ _ hw) (z_gV ml_RL_202 im_X12_restore se_X12_restore ini_RX12 co_X12_restore) z_cls12 hpm ⟨rfl, rfl⟩ dL_law_1457 (na := 1) (by decide) rfl (by rw [hRm]; exact ⟨Nat.le_of_ble_eq_true rfl, Nat.le_of_ble_eq_true rfl⟩) (by exact ⟨by omega, by omega⟩) rfl (Nat.le_of_ble_eq_true rfl) ?_
  rintro _ K N I L R ⟨rc, rfl, rfl, rfl, rfl, ⟨hr, hcpl⟩⟩
  refine z_icmp_eq hC (tgt := 1490) dL_law_1460 (by decide) (fun _ => ?_) (fun hc => absurd (by rw [hr]) hc)
  exact kk _ _ _ _ _ _ _ (by omega) (by omega) ⟨hcpl, h.2⟩
set_option maxHeartbeats 2000000 in
set_option maxRecDepth 20000 in
theorem lw_c43 {X : ZX} {G : ZG} {Qf : State → Prop} {b Ls i x m z mc ms : Nat} {xs : Nat → Int32} {K N : MK} {I : MI} {L : ML} {R : MR} (hC : ZOk X G RL cL_law 7 (some .boolean)) (hZ : zxS G X.2.2.2.2.1) (hfl : X.2.1.stackTraces = false) (hRm : X.2.2.2.1 = room_1) (hX : va_X b Ls xs X.2.2.2.2.1 X.2.2.2.2.1.heap) (hbl : b < X.2.2.2.2.1.heap.size) (hbA : ¬ z_A G b) (hi : i + 6 ≤ Ls) (hLs : Ls ≤ 3072) (hcs : mc + 1 ≤ X.2.2.2.1.cells ∧ ms + 6 ≤ X.2.2.2.1.slots) (h : LINV K N I L R x m z)
    (kk : ∀ (mc1 ms1 : Nat) (K N : MK) (I : MI) (L : ML) (R : MR), mc1 ≤ mc + 1 → ms1 ≤ ms + 6 → LINV K N I L R x m z → Z X G 7 mc1 ms1 Qf K N I L R 1490 [(4, .int (nI i)), (0, .ref b), (1, .ref x), (2, .ref m), (3, .ref z)] []) : Z X G 7 mc ms Qf K N I L R 1465 [(4, .int (nI i)), (0, .ref b), (1, .ref x), (2, .ref m), (3, .ref z)] [] := by
  have hpm := (cpG₁ h.1).2.1.k
  refine z_aload_n hC (q := 2) dL_law_1465 rfl rfl ?_
  refine z_aload_n hC (q := 1) dL_law_1466 rfl rfl ?_
  refine z_iload hC (q := 0) dL_law_1467 rfl ?_
  refine z_iconst hC (v := nI 1) (by decide) dL_law_1469 ?_
  refine z_iadd hC dL_law_1470 ?_
  refine z_sldc hC hX hbl hbA (i := i) (c := 1) (by omega) hLs dL_law_1471 ?_
  have hpx := (cpG₁ h.1).1.k
  refine z_callV (As := [.int (xs (i + 1))]) (rest := []) hC (c_X11_count _ _ _ _ _ _ _ _ _ _ (cs_count h.1)) (z_gV ml_RL_203 im_X11_count se_X11_count ini_RX11 co_X11_count) z_cls11 hpx ⟨rfl, rfl⟩ dL_law_1472 (na := 1) (by decide) rfl (by rw [hRm]; exact ⟨Nat.le_of_ble_eq_true rfl, Nat.le_of_ble_eq_true rfl⟩) (by exact ⟨by omega, by omega⟩) rfl (Nat.le_of_ble_eq_true rfl) ?_
  rintro _ K N I L R ⟨r1, rfl, rfl, rfl, rfl, rfl, rfl, hw⟩
  refine z_aload_n hC (q := 3) dL_law_1475 rfl rfl ?_
  refine z_aload_n hC (q := 1) dL_law_1476 rfl rfl ?_
  refine z_iload hC (q := 0) dL_law_1477 rfl ?_
  refine z_iconst hC (v := nI 1) (by decide) dL_law_1479 ?_
  refine z_iadd hC dL_law_1480 ?_
  refine z_sldc hC hX hbl hbA (i := i) (c := 1) (by omega) hLs dL_law_1481 ?_
  refine z_callV (As := [.int (xs (i + 1))]) (rest := [.int r1]) hC (c_X12_count _ _ _ _ _ _ _ _ _ _ hw) (z_gV ml_RL_206 im_X12_count se_X12_count ini_RX12 co_X12_count) z_cls12 hpm ⟨rfl, rfl⟩ dL_law_1482 (na := 1) (by decide) rfl (by rw [hRm]; exact ⟨Nat.le_of_ble_eq_true rfl, Nat.le_of_ble_eq_true rfl⟩) (by exact ⟨by omega, by omega⟩) rfl (Nat.le_of_ble_eq_true rfl) ?_
  rintro _ K N I L R ⟨r2, rfl, rfl, rfl, rfl, rfl, ⟨hr, hcpl⟩⟩
  refine z_icmp_eq hC (tgt := 1490) dL_law_1485 (by decide) (fun _ => ?_) (fun hc => absurd (by rw [hr]) hc)
  exact kk _ _ _ _ _ _ _ (by omega) (by omega) ⟨hcpl, h.2⟩
