/-! the law's cases -/
set_option maxHeartbeats 4000000 in
set_option maxRecDepth 100000 in
/-- case volumeIn -/
theorem law_volumeIn {E : zE} (h : zC E RL cL_law eLaw 13 492 7) {b L : Nat} {xs : Nat → Int32} (hX : va_X b L xs (zs E) (zs E).heap) (hbl : b < (zs E).heap.size) (hbA : ¬ zAA E b) (hL : L ≤ 2560) {i : Nat} (hi : i + 5 ≤ L) {k n : Nat} (hk : k + 1 ≤ E.2.2.2.2.2.1.cells ∧ n + 6 ≤ E.2.2.2.2.2.1.slots) {qx qm bo : Nat} {C0 C1 M9 M1 : va_W} {fx fm fm1 : List Value} (hC0 : C0.length = 97) (hC1 : C1.length = 97) (hc0 : C0[0]? = some (qx, .inr (7, fx))) (hm0 : M9[0]? = some (qm, .inr (8, fm))) {F F9 : Nat → Int64} {kc : Nat} {bm : Int32} (hm1 : M1[0]? = some (qm, .inr (8, fm1))) (hw : zW (zl E) (zy E) (zD E) yL_volumeIn wsL_volumeIn 8 230 1 6 [.ref qx, .int (xs (i + 1)), .int (xs (i + 2)), .ref bo] (zOu (zy E) bo F ++ (C0 ++ M9)) (zOu (zy E) bo F9 ++ (C1 ++ M9)) (some (.int (nI kc)))) (hm : zM (zl E) (zy E) (zD E) yX10_volumeIn wsX10_volumeIn 6 138 [.ref qm, .int (xs (i + 1)), .int (xs (i + 2))] M9 M1 (some (.int bm))) (ht : zM (zl E) (zy E) (zD E) yX10_thrown wsX10_thrown 0 0 [.ref qm] M1 M1 (some (.int (nI kc)))) (hkc : kc < 4) (heq : kc = 0 → F9 0 = bm.toInt64) (kk : Z E (k + 1) (n + 6) [(0, .ref b), (1, .ref qx), (2, .ref qm), (3, .ref bo), (4, .int (nI i))] (zOu (zy E) bo F9 ++ (C1 ++ M1)) 1534 []) : Z E k n [(0, .ref b), (1, .ref qx), (2, .ref qm), (3, .ref bo), (4, .int (nI i))] (zOu (zy E) bo F ++ (C0 ++ M9)) 1189 [] := by
  have hkR : k + 1 ≤ E.2.2.2.2.2.1.cells ∧ n + 6 ≤ E.2.2.2.2.2.1.slots := ⟨by omega, by omega⟩
  refine z_aload_n h 1 rfl dL_law_1189 ?_
  refine z_aload_n h 0 rfl dL_law_1190 ?_
  refine z_iload h 4 rfl dL_law_1191 ?_
  refine z_iconst h (nI 1) (by decide +kernel) dL_law_1193 ?_
  refine z_iadd h dL_law_1194 ?_
  refine z_top (nI (i + 1)) (nI_add i 1) ?_
  refine z_sld h hX hbl hbA (i := i + 1) (by omega) (by omega) dL_law_1195 ?_
  refine z_aload_n h 0 rfl dL_law_1196 ?_
  refine z_iload h 4 rfl dL_law_1197 ?_
  refine z_iconst h (nI 2) (by decide +kernel) dL_law_1199 ?_
  refine z_iadd h dL_law_1200 ?_
  refine z_top (nI (i + 2)) (nI_add i 2) ?_
  refine z_sld h hX hbl hbA (i := i + 2) (by omega) (by omega) dL_law_1201 ?_
  refine z_aload_n h 3 rfl dL_law_1202 ?_
  refine w_callS h (As := [.ref qx, .int (xs (i + 1)), .int (xs (i + 2)), .ref bo]) (st := []) (ws2 := zOu (zy E) bo F9 ++ (C1 ++ M9)) (r := some (.int (nI kc))) 4 hw egL_L_volumeIn ⟨by decide, by decide, by decide +kernel⟩ rfl ⟨by decide, by decide⟩ (zr 0 _) (zr_all _) (zr_nd _ _) (zput_all (zlen hw.1)) (Nat.le_of_ble_eq_true rfl) rfl rfl dL_law_1203 hk ?_
  refine z_istore h (by decide) rfl dL_law_1206 ?_
  refine z_aload_n h 3 rfl dL_law_1208 ?_
  refine z_aload_n h 1 rfl dL_law_1209 ?_
  refine z_iload h 5 rfl dL_law_1210 ?_
  refine z_iconst h (nI 1) (by decide +kernel) dL_law_1212 ?_
  refine z_iadd h dL_law_1213 ?_
  refine z_top (nI (i + 1)) (nI_add i 1) ?_
  refine z_sld h hX hbl hbA (i := i + 1) (by omega) (by omega) dL_law_1214 ?_
  refine z_aload_n h 1 rfl dL_law_1215 ?_
  refine z_iload h 5 rfl dL_law_1216 ?_
  refine z_iconst h (nI 2) (by decide +kernel) dL_law_1218 ?_
  refine z_iadd h dL_law_1219 ?_
  refine z_top (nI (i + 2)) (nI_add i 2) ?_
  refine z_sld h hX hbl hbA (i := i + 2) (by omega) (by omega) dL_law_1220 ?_
  refine z_wV h (As := [.int (xs (i + 1)), .int (xs (i + 2))]) (st := []) (ws2 := zOu (zy E) bo F9 ++ (C1 ++ M1)) (r := some (.int bm)) 2 (law_mo _ _ hm) egL_X10_volumeIn (q0 := 98) (ci := 8) (by decide +kernel) ((law_rm hC1).trans hm0) rfl rfl ⟨by decide, by decide⟩ (Nat.le_of_ble_eq_true rfl) rfl rfl dL_law_1221 ?_ hkR
  refine z_istore h (by decide) rfl dL_law_1224 ?_
  refine z_aload_n h 4 rfl dL_law_1226 ?_
  refine z_wV h (As := []) (st := []) (ws2 := zOu (zy E) bo F9 ++ (C1 ++ M1)) (r := some (.int (nI kc))) 0 (law_mo _ _ ht) egL_X10_thrown (q0 := 98) (ci := 8) (by decide +kernel) ((law_rm hC1).trans hm1) rfl rfl ⟨by decide, by decide⟩ (Nat.le_of_ble_eq_true rfl) rfl rfl dL_law_1227 ?_ hkR
  refine z_iload h 1 rfl dL_law_1230 ?_
  refine z_icmp_eq h 1237 dL_law_1232 (by decide) (fun _ => ?_) (fun c9 => absurd rfl c9)
  refine z_iload h 1 rfl dL_law_1237 ?_
  refine z_if_ne h 1254 dL_law_1239 (by decide) (fun c5 => ?_) (fun c5 => ?_)
  · refine z_goto h 1534 dL_law_1254 (by decide) ?_
    exact z_sub [2, 3, 4, 5, 6] rfl kk
  · have hk0 : kc = 0 := law_0 hkc c5
    refine z_aload_n h 5 rfl dL_law_1242 ?_
    refine z_iconst h (nI 0) (by decide +kernel) dL_law_1243 ?_
    refine z_lald h 0 0 (f := F9) rfl rfl rfl (by decide) (by decide) dL_law_1244 ?_
    refine z_iload h 0 rfl dL_law_1245 ?_
    refine z_i2l h dL_law_1247 ?_
    refine z_lcmp h dL_law_1248 ?_
    refine z_if_eq h 1254 dL_law_1249 (by decide) (fun _ => ?_) (fun c9 => absurd (law_c (heq hk0)) c9)
    refine z_goto h 1534 dL_law_1254 (by decide) ?_
    exact z_sub [2, 3, 4, 5, 6] rfl (kk)
set_option maxHeartbeats 4000000 in
set_option maxRecDepth 100000 in
/-- case goneIn -/
theorem law_goneIn {E : zE} (h : zC E RL cL_law eLaw 13 492 7) {b L : Nat} {xs : Nat → Int32} (hX : va_X b L xs (zs E) (zs E).heap) (hbl : b < (zs E).heap.size) (hbA : ¬ zAA E b) (hL : L ≤ 2560) {i : Nat} (hi : i + 5 ≤ L) {k n : Nat} (hk : k + 1 ≤ E.2.2.2.2.2.1.cells ∧ n + 6 ≤ E.2.2.2.2.2.1.slots) {qx qm bo : Nat} {C0 C1 M9 M1 : va_W} {fx fm fm1 : List Value} (hC0 : C0.length = 97) (hC1 : C1.length = 97) (hc0 : C0[0]? = some (qx, .inr (7, fx))) (hm0 : M9[0]? = some (qm, .inr (8, fm))) {F F9 : Nat → Int64} {kc : Nat} {bm : Int32} (hm1 : M1[0]? = some (qm, .inr (8, fm1))) (hw : zW (zl E) (zy E) (zD E) yL_goneIn wsL_goneIn 8 230 1 6 [.ref qx, .int (xs (i + 1)), .ref bo] (zOu (zy E) bo F ++ (C0 ++ M9)) (zOu (zy E) bo F9 ++ (C1 ++ M9)) (some (.int (nI kc)))) (hm : zM (zl E) (zy E) (zD E) yX10_goneIn wsX10_goneIn 5 114 [.ref qm, .int (xs (i + 1))] M9 M1 (some (.int bm))) (ht : zM (zl E) (zy E) (zD E) yX10_thrown wsX10_thrown 0 0 [.ref qm] M1 M1 (some (.int (nI kc)))) (hkc : kc < 4) (heq : kc = 0 → F9 0 = bm.toInt64) (kk : Z E (k + 1) (n + 6) [(0, .ref b), (1, .ref qx), (2, .ref qm), (3, .ref bo), (4, .int (nI i))] (zOu (zy E) bo F9 ++ (C1 ++ M1)) 1534 []) : Z E k n [(0, .ref b), (1, .ref qx), (2, .ref qm), (3, .ref bo), (4, .int (nI i))] (zOu (zy E) bo F ++ (C0 ++ M9)) 1257 [] := by
  have hkR : k + 1 ≤ E.2.2.2.2.2.1.cells ∧ n + 6 ≤ E.2.2.2.2.2.1.slots := ⟨by omega, by omega⟩
  refine z_aload_n h 1 rfl dL_law_1257 ?_
  refine z_aload_n h 0 rfl dL_law_1258 ?_
  refine z_iload h 4 rfl dL_law_1259 ?_
  refine z_iconst h (nI 1) (by decide +kernel) dL_law_1261 ?_
  refine z_iadd h dL_law_1262 ?_
  refine z_top (nI (i + 1)) (nI_add i 1) ?_
  refine z_sld h hX hbl hbA (i := i + 1) (by omega) (by omega) dL_law_1263 ?_
  refine z_aload_n h 3 rfl dL_law_1264 ?_
  refine w_callS h (As := [.ref qx, .int (xs (i + 1)), .ref bo]) (st := []) (ws2 := zOu (zy E) bo F9 ++ (C1 ++ M9)) (r := some (.int (nI kc))) 3 hw egL_L_goneIn ⟨by decide, by decide, by decide +kernel⟩ rfl ⟨by decide, by decide⟩ (zr 0 _) (zr_all _) (zr_nd _ _) (zput_all (zlen hw.1)) (Nat.le_of_ble_eq_true rfl) rfl rfl dL_law_1265 hk ?_
  refine z_istore h (by decide) rfl dL_law_1268 ?_
  refine z_aload_n h 3 rfl dL_law_1270 ?_
  refine z_aload_n h 1 rfl dL_law_1271 ?_
  refine z_iload h 5 rfl dL_law_1272 ?_
  refine z_iconst h (nI 1) (by decide +kernel) dL_law_1274 ?_
  refine z_iadd h dL_law_1275 ?_
  refine z_top (nI (i + 1)) (nI_add i 1) ?_
  refine z_sld h hX hbl hbA (i := i + 1) (by omega) (by omega) dL_law_1276 ?_
  refine z_wV h (As := [.int (xs (i + 1))]) (st := []) (ws2 := zOu (zy E) bo F9 ++ (C1 ++ M1)) (r := some (.int bm)) 1 (law_mo _ _ hm) egL_X10_goneIn (q0 := 98) (ci := 8) (by decide +kernel) ((law_rm hC1).trans hm0) rfl rfl ⟨by decide, by decide⟩ (Nat.le_of_ble_eq_true rfl) rfl rfl dL_law_1277 ?_ hkR
  refine z_istore h (by decide) rfl dL_law_1280 ?_
  refine z_aload_n h 4 rfl dL_law_1282 ?_
  refine z_wV h (As := []) (st := []) (ws2 := zOu (zy E) bo F9 ++ (C1 ++ M1)) (r := some (.int (nI kc))) 0 (law_mo _ _ ht) egL_X10_thrown (q0 := 98) (ci := 8) (by decide +kernel) ((law_rm hC1).trans hm1) rfl rfl ⟨by decide, by decide⟩ (Nat.le_of_ble_eq_true rfl) rfl rfl dL_law_1283 ?_ hkR
  refine z_iload h 1 rfl dL_law_1286 ?_
  refine z_icmp_eq h 1293 dL_law_1288 (by decide) (fun _ => ?_) (fun c9 => absurd rfl c9)
  refine z_iload h 1 rfl dL_law_1293 ?_
  refine z_if_ne h 1310 dL_law_1295 (by decide) (fun c5 => ?_) (fun c5 => ?_)
  · refine z_goto h 1534 dL_law_1310 (by decide) ?_
    exact z_sub [2, 3, 4, 5, 6] rfl kk
  · have hk0 : kc = 0 := law_0 hkc c5
    refine z_aload_n h 5 rfl dL_law_1298 ?_
    refine z_iconst h (nI 0) (by decide +kernel) dL_law_1299 ?_
    refine z_lald h 0 0 (f := F9) rfl rfl rfl (by decide) (by decide) dL_law_1300 ?_
    refine z_iload h 0 rfl dL_law_1301 ?_
    refine z_i2l h dL_law_1303 ?_
    refine z_lcmp h dL_law_1304 ?_
    refine z_if_eq h 1310 dL_law_1305 (by decide) (fun _ => ?_) (fun c9 => absurd (law_c (heq hk0)) c9)
    refine z_goto h 1534 dL_law_1310 (by decide) ?_
    exact z_sub [2, 3, 4, 5, 6] rfl (kk)
set_option maxHeartbeats 4000000 in
set_option maxRecDepth 100000 in
/-- case bestWall -/
theorem law_bestWall {E : zE} (h : zC E RL cL_law eLaw 13 492 7) {b L : Nat} {xs : Nat → Int32} (hX : va_X b L xs (zs E) (zs E).heap) (hbl : b < (zs E).heap.size) (hbA : ¬ zAA E b) (hL : L ≤ 2560) {i : Nat} (hi : i + 5 ≤ L) {k n : Nat} (hk : k + 1 ≤ E.2.2.2.2.2.1.cells ∧ n + 6 ≤ E.2.2.2.2.2.1.slots) {qx qm bo : Nat} {C0 C1 M9 M1 : va_W} {fx fm fm1 : List Value} (hC0 : C0.length = 97) (hC1 : C1.length = 97) (hc0 : C0[0]? = some (qx, .inr (7, fx))) (hm0 : M9[0]? = some (qm, .inr (8, fm))) {F : Nat → Int64} {a9 : Int32} (hw : zM (zl E) (zy E) (zD E) yX9_bestWall wsX9_bestWall 5 122 [.ref qx] C0 C1 (some (.int a9))) (hm : zM (zl E) (zy E) (zD E) yX10_bestWall wsX10_bestWall 7 163 [.ref qm] M9 M1 (some (.int a9))) (kk : Z E (k + 1) (n + 6) [(0, .ref b), (1, .ref qx), (2, .ref qm), (3, .ref bo), (4, .int (nI i))] (zOu (zy E) bo F ++ (C1 ++ M1)) 1534 []) : Z E k n [(0, .ref b), (1, .ref qx), (2, .ref qm), (3, .ref bo), (4, .int (nI i))] (zOu (zy E) bo F ++ (C0 ++ M9)) 1313 [] := by
  have hkR : k ≤ E.2.2.2.2.2.1.cells ∧ n ≤ E.2.2.2.2.2.1.slots := ⟨by omega, by omega⟩
  refine z_aload_n h 1 rfl dL_law_1313 ?_
  refine z_wV h (As := []) (st := []) (ws2 := zOu (zy E) bo F ++ (C1 ++ M9)) (r := some (.int a9)) 0 (z_mid _ _ hw) egL_X9_bestWall (q0 := 1) (ci := 7) (by decide +kernel) ((law_rx hC0).trans hc0) rfl rfl ⟨by decide, by decide⟩ (Nat.le_of_ble_eq_true rfl) rfl rfl dL_law_1314 ?_ hkR
  refine z_aload_n h 2 rfl dL_law_1317 ?_
  refine z_wV h (As := []) (st := [.int a9]) (ws2 := zOu (zy E) bo F ++ (C1 ++ M1)) (r := some (.int a9)) 0 (law_mo _ _ hm) egL_X10_bestWall (q0 := 98) (ci := 8) (by decide +kernel) ((law_rm hC1).trans hm0) rfl rfl ⟨by decide, by decide⟩ (Nat.le_of_ble_eq_true rfl) rfl rfl dL_law_1318 ?_ hkR
  refine z_icmp_eq h 1534 dL_law_1321 (by decide) (fun _ => ?_) (fun c9 => absurd rfl c9)
  exact z_sub [0, 1, 2, 3, 4] rfl (z_widen (by omega) (by omega) kk)
set_option maxHeartbeats 4000000 in
set_option maxRecDepth 100000 in
/-- case minutesFor -/
theorem law_minutesFor {E : zE} (h : zC E RL cL_law eLaw 13 492 7) {b L : Nat} {xs : Nat → Int32} (hX : va_X b L xs (zs E) (zs E).heap) (hbl : b < (zs E).heap.size) (hbA : ¬ zAA E b) (hL : L ≤ 2560) {i : Nat} (hi : i + 5 ≤ L) {k n : Nat} (hk : k + 1 ≤ E.2.2.2.2.2.1.cells ∧ n + 6 ≤ E.2.2.2.2.2.1.slots) {qx qm bo : Nat} {C0 C1 M9 M1 : va_W} {fx fm fm1 : List Value} (hC0 : C0.length = 97) (hC1 : C1.length = 97) (hc0 : C0[0]? = some (qx, .inr (7, fx))) (hm0 : M9[0]? = some (qm, .inr (8, fm))) {F F9 : Nat → Int64} {kc : Nat} {bm : Int32} (hm1 : M1[0]? = some (qm, .inr (8, fm1))) (hw : zW (zl E) (zy E) (zD E) yL_minutesFor wsL_minutesFor 8 230 1 6 [.ref qx, .int (xs (i + 1)), .int (xs (i + 2)), .ref bo] (zOu (zy E) bo F ++ (C0 ++ M9)) (zOu (zy E) bo F9 ++ (C1 ++ M9)) (some (.int (nI kc)))) (hm : zM (zl E) (zy E) (zD E) yX10_minutesFor wsX10_minutesFor 2 43 [.ref qm, .int (xs (i + 1)), .int (xs (i + 2))] M9 M1 (some (.int bm))) (ht : zM (zl E) (zy E) (zD E) yX10_thrown wsX10_thrown 0 0 [.ref qm] M1 M1 (some (.int (nI kc)))) (hkc : kc < 4) (heq : kc = 0 → F9 0 = bm.toInt64) (kk : Z E (k + 1) (n + 6) [(0, .ref b), (1, .ref qx), (2, .ref qm), (3, .ref bo), (4, .int (nI i))] (zOu (zy E) bo F9 ++ (C1 ++ M1)) 1534 []) : Z E k n [(0, .ref b), (1, .ref qx), (2, .ref qm), (3, .ref bo), (4, .int (nI i))] (zOu (zy E) bo F ++ (C0 ++ M9)) 1326 [] := by
  have hkR : k + 1 ≤ E.2.2.2.2.2.1.cells ∧ n + 6 ≤ E.2.2.2.2.2.1.slots := ⟨by omega, by omega⟩
  refine z_aload_n h 1 rfl dL_law_1326 ?_
  refine z_aload_n h 0 rfl dL_law_1327 ?_
  refine z_iload h 4 rfl dL_law_1328 ?_
  refine z_iconst h (nI 1) (by decide +kernel) dL_law_1330 ?_
  refine z_iadd h dL_law_1331 ?_
  refine z_top (nI (i + 1)) (nI_add i 1) ?_
  refine z_sld h hX hbl hbA (i := i + 1) (by omega) (by omega) dL_law_1332 ?_
  refine z_aload_n h 0 rfl dL_law_1333 ?_
  refine z_iload h 4 rfl dL_law_1334 ?_
  refine z_iconst h (nI 2) (by decide +kernel) dL_law_1336 ?_
  refine z_iadd h dL_law_1337 ?_
  refine z_top (nI (i + 2)) (nI_add i 2) ?_
  refine z_sld h hX hbl hbA (i := i + 2) (by omega) (by omega) dL_law_1338 ?_
  refine z_aload_n h 3 rfl dL_law_1339 ?_
  refine w_callS h (As := [.ref qx, .int (xs (i + 1)), .int (xs (i + 2)), .ref bo]) (st := []) (ws2 := zOu (zy E) bo F9 ++ (C1 ++ M9)) (r := some (.int (nI kc))) 4 hw egL_L_minutesFor ⟨by decide, by decide, by decide +kernel⟩ rfl ⟨by decide, by decide⟩ (zr 0 _) (zr_all _) (zr_nd _ _) (zput_all (zlen hw.1)) (Nat.le_of_ble_eq_true rfl) rfl rfl dL_law_1340 hk ?_
  refine z_istore h (by decide) rfl dL_law_1343 ?_
  refine z_aload_n h 3 rfl dL_law_1345 ?_
  refine z_aload_n h 1 rfl dL_law_1346 ?_
  refine z_iload h 5 rfl dL_law_1347 ?_
  refine z_iconst h (nI 1) (by decide +kernel) dL_law_1349 ?_
  refine z_iadd h dL_law_1350 ?_
  refine z_top (nI (i + 1)) (nI_add i 1) ?_
  refine z_sld h hX hbl hbA (i := i + 1) (by omega) (by omega) dL_law_1351 ?_
  refine z_aload_n h 1 rfl dL_law_1352 ?_
  refine z_iload h 5 rfl dL_law_1353 ?_
  refine z_iconst h (nI 2) (by decide +kernel) dL_law_1355 ?_
  refine z_iadd h dL_law_1356 ?_
  refine z_top (nI (i + 2)) (nI_add i 2) ?_
  refine z_sld h hX hbl hbA (i := i + 2) (by omega) (by omega) dL_law_1357 ?_
  refine z_wV h (As := [.int (xs (i + 1)), .int (xs (i + 2))]) (st := []) (ws2 := zOu (zy E) bo F9 ++ (C1 ++ M1)) (r := some (.int bm)) 2 (law_mo _ _ hm) egL_X10_minutesFor (q0 := 98) (ci := 8) (by decide +kernel) ((law_rm hC1).trans hm0) rfl rfl ⟨by decide, by decide⟩ (Nat.le_of_ble_eq_true rfl) rfl rfl dL_law_1358 ?_ hkR
  refine z_istore h (by decide) rfl dL_law_1361 ?_
  refine z_aload_n h 4 rfl dL_law_1363 ?_
  refine z_wV h (As := []) (st := []) (ws2 := zOu (zy E) bo F9 ++ (C1 ++ M1)) (r := some (.int (nI kc))) 0 (law_mo _ _ ht) egL_X10_thrown (q0 := 98) (ci := 8) (by decide +kernel) ((law_rm hC1).trans hm1) rfl rfl ⟨by decide, by decide⟩ (Nat.le_of_ble_eq_true rfl) rfl rfl dL_law_1364 ?_ hkR
  refine z_iload h 1 rfl dL_law_1367 ?_
  refine z_icmp_eq h 1374 dL_law_1369 (by decide) (fun _ => ?_) (fun c9 => absurd rfl c9)
  refine z_iload h 1 rfl dL_law_1374 ?_
  refine z_if_ne h 1391 dL_law_1376 (by decide) (fun c5 => ?_) (fun c5 => ?_)
  · refine z_goto h 1534 dL_law_1391 (by decide) ?_
    exact z_sub [2, 3, 4, 5, 6] rfl kk
  · have hk0 : kc = 0 := law_0 hkc c5
    refine z_aload_n h 5 rfl dL_law_1379 ?_
    refine z_iconst h (nI 0) (by decide +kernel) dL_law_1380 ?_
    refine z_lald h 0 0 (f := F9) rfl rfl rfl (by decide) (by decide) dL_law_1381 ?_
    refine z_iload h 0 rfl dL_law_1382 ?_
    refine z_i2l h dL_law_1384 ?_
    refine z_lcmp h dL_law_1385 ?_
    refine z_if_eq h 1391 dL_law_1386 (by decide) (fun _ => ?_) (fun c9 => absurd (law_c (heq hk0)) c9)
    refine z_goto h 1534 dL_law_1391 (by decide) ?_
    exact z_sub [2, 3, 4, 5, 6] rfl (kk)
set_option maxHeartbeats 4000000 in
set_option maxRecDepth 100000 in
/-- case type -/
theorem law_type {E : zE} (h : zC E RL cL_law eLaw 13 492 7) {b L : Nat} {xs : Nat → Int32} (hX : va_X b L xs (zs E) (zs E).heap) (hbl : b < (zs E).heap.size) (hbA : ¬ zAA E b) (hL : L ≤ 2560) {i : Nat} (hi : i + 5 ≤ L) {k n : Nat} (hk : k + 1 ≤ E.2.2.2.2.2.1.cells ∧ n + 6 ≤ E.2.2.2.2.2.1.slots) {qx qm bo : Nat} {C0 C1 M9 M1 : va_W} {fx fm fm1 : List Value} (hC0 : C0.length = 97) (hC1 : C1.length = 97) (hc0 : C0[0]? = some (qx, .inr (7, fx))) (hm0 : M9[0]? = some (qm, .inr (8, fm))) {F F9 : Nat → Int64} {kc : Nat} {bm : Int32} (hm1 : M1[0]? = some (qm, .inr (8, fm1))) (hw : zW (zl E) (zy E) (zD E) yL_type wsL_type 8 230 1 6 [.ref qx, .int (xs (i + 1)), .ref bo] (zOu (zy E) bo F ++ (C0 ++ M9)) (zOu (zy E) bo F9 ++ (C1 ++ M9)) (some (.int (nI kc)))) (hm : zM (zl E) (zy E) (zD E) yX10_type wsX10_type 1 23 [.ref qm, .int (xs (i + 1))] M9 M1 (some (.int bm))) (ht : zM (zl E) (zy E) (zD E) yX10_thrown wsX10_thrown 0 0 [.ref qm] M1 M1 (some (.int (nI kc)))) (hkc : kc < 4) (heq : kc = 0 → F9 0 = bm.toInt64) (kk : Z E (k + 1) (n + 6) [(0, .ref b), (1, .ref qx), (2, .ref qm), (3, .ref bo), (4, .int (nI i))] (zOu (zy E) bo F9 ++ (C1 ++ M1)) 1534 []) : Z E k n [(0, .ref b), (1, .ref qx), (2, .ref qm), (3, .ref bo), (4, .int (nI i))] (zOu (zy E) bo F ++ (C0 ++ M9)) 1394 [] := by
  have hkR : k + 1 ≤ E.2.2.2.2.2.1.cells ∧ n + 6 ≤ E.2.2.2.2.2.1.slots := ⟨by omega, by omega⟩
  refine z_aload_n h 1 rfl dL_law_1394 ?_
  refine z_aload_n h 0 rfl dL_law_1395 ?_
  refine z_iload h 4 rfl dL_law_1396 ?_
  refine z_iconst h (nI 1) (by decide +kernel) dL_law_1398 ?_
  refine z_iadd h dL_law_1399 ?_
  refine z_top (nI (i + 1)) (nI_add i 1) ?_
  refine z_sld h hX hbl hbA (i := i + 1) (by omega) (by omega) dL_law_1400 ?_
  refine z_aload_n h 3 rfl dL_law_1401 ?_
  refine w_callS h (As := [.ref qx, .int (xs (i + 1)), .ref bo]) (st := []) (ws2 := zOu (zy E) bo F9 ++ (C1 ++ M9)) (r := some (.int (nI kc))) 3 hw egL_L_type ⟨by decide, by decide, by decide +kernel⟩ rfl ⟨by decide, by decide⟩ (zr 0 _) (zr_all _) (zr_nd _ _) (zput_all (zlen hw.1)) (Nat.le_of_ble_eq_true rfl) rfl rfl dL_law_1402 hk ?_
  refine z_istore h (by decide) rfl dL_law_1405 ?_
  refine z_aload_n h 3 rfl dL_law_1407 ?_
  refine z_aload_n h 1 rfl dL_law_1408 ?_
  refine z_iload h 5 rfl dL_law_1409 ?_
  refine z_iconst h (nI 1) (by decide +kernel) dL_law_1411 ?_
  refine z_iadd h dL_law_1412 ?_
  refine z_top (nI (i + 1)) (nI_add i 1) ?_
  refine z_sld h hX hbl hbA (i := i + 1) (by omega) (by omega) dL_law_1413 ?_
  refine z_wV h (As := [.int (xs (i + 1))]) (st := []) (ws2 := zOu (zy E) bo F9 ++ (C1 ++ M1)) (r := some (.int bm)) 1 (law_mo _ _ hm) egL_X10_type (q0 := 98) (ci := 8) (by decide +kernel) ((law_rm hC1).trans hm0) rfl rfl ⟨by decide, by decide⟩ (Nat.le_of_ble_eq_true rfl) rfl rfl dL_law_1414 ?_ hkR
  refine z_istore h (by decide) rfl dL_law_1417 ?_
  refine z_aload_n h 4 rfl dL_law_1419 ?_
  refine z_wV h (As := []) (st := []) (ws2 := zOu (zy E) bo F9 ++ (C1 ++ M1)) (r := some (.int (nI kc))) 0 (law_mo _ _ ht) egL_X10_thrown (q0 := 98) (ci := 8) (by decide +kernel) ((law_rm hC1).trans hm1) rfl rfl ⟨by decide, by decide⟩ (Nat.le_of_ble_eq_true rfl) rfl rfl dL_law_1420 ?_ hkR
  refine z_iload h 1 rfl dL_law_1423 ?_
  refine z_icmp_eq h 1430 dL_law_1425 (by decide) (fun _ => ?_) (fun c9 => absurd rfl c9)
  refine z_iload h 1 rfl dL_law_1430 ?_
  refine z_if_ne h 1447 dL_law_1432 (by decide) (fun c5 => ?_) (fun c5 => ?_)
  · refine z_goto h 1534 dL_law_1447 (by decide) ?_
    exact z_sub [2, 3, 4, 5, 6] rfl kk
  · have hk0 : kc = 0 := law_0 hkc c5
    refine z_aload_n h 5 rfl dL_law_1435 ?_
    refine z_iconst h (nI 0) (by decide +kernel) dL_law_1436 ?_
    refine z_lald h 0 0 (f := F9) rfl rfl rfl (by decide) (by decide) dL_law_1437 ?_
    refine z_iload h 0 rfl dL_law_1438 ?_
    refine z_i2l h dL_law_1440 ?_
    refine z_lcmp h dL_law_1441 ?_
    refine z_if_eq h 1447 dL_law_1442 (by decide) (fun _ => ?_) (fun c9 => absurd (law_c (heq hk0)) c9)
    refine z_goto h 1534 dL_law_1447 (by decide) ?_
    exact z_sub [2, 3, 4, 5, 6] rfl (kk)
set_option maxHeartbeats 4000000 in
set_option maxRecDepth 100000 in
/-- case clearOrders -/
theorem law_clearOrders {E : zE} (h : zC E RL cL_law eLaw 13 492 7) {b L : Nat} {xs : Nat → Int32} (hX : va_X b L xs (zs E) (zs E).heap) (hbl : b < (zs E).heap.size) (hbA : ¬ zAA E b) (hL : L ≤ 2560) {i : Nat} (hi : i + 5 ≤ L) {k n : Nat} (hk : k + 1 ≤ E.2.2.2.2.2.1.cells ∧ n + 6 ≤ E.2.2.2.2.2.1.slots) {qx qm bo : Nat} {C0 C1 M9 M1 : va_W} {fx fm fm1 : List Value} (hC0 : C0.length = 97) (hC1 : C1.length = 97) (hc0 : C0[0]? = some (qx, .inr (7, fx))) (hm0 : M9[0]? = some (qm, .inr (8, fm))) {F : Nat → Int64} {a9 : Int32} (hw : zM (zl E) (zy E) (zD E) yX9_clearOrders wsX9_clearOrders 0 0 [.ref qx] C0 C1 (some (.int a9))) (hm : zM (zl E) (zy E) (zD E) yX10_clearOrders wsX10_clearOrders 0 0 [.ref qm] M9 M1 (some (.int a9))) (kk : Z E (k + 1) (n + 6) [(0, .ref b), (1, .ref qx), (2, .ref qm), (3, .ref bo), (4, .int (nI i))] (zOu (zy E) bo F ++ (C1 ++ M1)) 1534 []) : Z E k n [(0, .ref b), (1, .ref qx), (2, .ref qm), (3, .ref bo), (4, .int (nI i))] (zOu (zy E) bo F ++ (C0 ++ M9)) 1450 [] := by
  have hkR : k ≤ E.2.2.2.2.2.1.cells ∧ n ≤ E.2.2.2.2.2.1.slots := ⟨by omega, by omega⟩
  refine z_aload_n h 1 rfl dL_law_1450 ?_
  refine z_wV h (As := []) (st := []) (ws2 := zOu (zy E) bo F ++ (C1 ++ M9)) (r := some (.int a9)) 0 (z_mid _ _ hw) egL_X9_clearOrders (q0 := 1) (ci := 7) (by decide +kernel) ((law_rx hC0).trans hc0) rfl rfl ⟨by decide, by decide⟩ (Nat.le_of_ble_eq_true rfl) rfl rfl dL_law_1451 ?_ hkR
  refine z_aload_n h 2 rfl dL_law_1454 ?_
  refine z_wV h (As := []) (st := [.int a9]) (ws2 := zOu (zy E) bo F ++ (C1 ++ M1)) (r := some (.int a9)) 0 (law_mo _ _ hm) egL_X10_clearOrders (q0 := 98) (ci := 8) (by decide +kernel) ((law_rm hC1).trans hm0) rfl rfl ⟨by decide, by decide⟩ (Nat.le_of_ble_eq_true rfl) rfl rfl dL_law_1455 ?_ hkR
  refine z_icmp_eq h 1534 dL_law_1458 (by decide) (fun _ => ?_) (fun c9 => absurd rfl c9)
  exact z_sub [0, 1, 2, 3, 4] rfl (z_widen (by omega) (by omega) kk)
set_option maxHeartbeats 4000000 in
set_option maxRecDepth 100000 in
/-- case runOrders -/
theorem law_runOrders {E : zE} (h : zC E RL cL_law eLaw 13 492 7) {b L : Nat} {xs : Nat → Int32} (hX : va_X b L xs (zs E) (zs E).heap) (hbl : b < (zs E).heap.size) (hbA : ¬ zAA E b) (hL : L ≤ 2560) {i : Nat} (hi : i + 5 ≤ L) {k n : Nat} (hk : k + 1 ≤ E.2.2.2.2.2.1.cells ∧ n + 6 ≤ E.2.2.2.2.2.1.slots) {qx qm bo : Nat} {C0 C1 M9 M1 : va_W} {fx fm fm1 : List Value} (hC0 : C0.length = 97) (hC1 : C1.length = 97) (hc0 : C0[0]? = some (qx, .inr (7, fx))) (hm0 : M9[0]? = some (qm, .inr (8, fm))) {F : Nat → Int64} {a9 : Int32} (hw : zM (zl E) (zy E) (zD E) yX9_runOrders eRO 8 178 [.ref qx] C0 C1 (some (.int a9))) (hm : zM (zl E) (zy E) (zD E) yX10_runOrders wsX10_runOrders 10 226 [.ref qm] M9 M1 (some (.int a9))) (kk : Z E (k + 1) (n + 6) [(0, .ref b), (1, .ref qx), (2, .ref qm), (3, .ref bo), (4, .int (nI i))] (zOu (zy E) bo F ++ (C1 ++ M1)) 1534 []) : Z E k n [(0, .ref b), (1, .ref qx), (2, .ref qm), (3, .ref bo), (4, .int (nI i))] (zOu (zy E) bo F ++ (C0 ++ M9)) 1463 [] := by
  have hkR : k ≤ E.2.2.2.2.2.1.cells ∧ n ≤ E.2.2.2.2.2.1.slots := ⟨by omega, by omega⟩
  refine z_aload_n h 1 rfl dL_law_1463 ?_
  refine z_wV h (As := []) (st := []) (ws2 := zOu (zy E) bo F ++ (C1 ++ M9)) (r := some (.int a9)) 0 (z_mid _ _ hw) egL_X9_runOrders (q0 := 1) (ci := 7) (by decide +kernel) ((law_rx hC0).trans hc0) rfl rfl ⟨by decide, by decide⟩ (Nat.le_of_ble_eq_true rfl) rfl rfl dL_law_1464 ?_ hkR
  refine z_aload_n h 2 rfl dL_law_1467 ?_
  refine z_wV h (As := []) (st := [.int a9]) (ws2 := zOu (zy E) bo F ++ (C1 ++ M1)) (r := some (.int a9)) 0 (law_mo _ _ hm) egL_X10_runOrders (q0 := 98) (ci := 8) (by decide +kernel) ((law_rm hC1).trans hm0) rfl rfl ⟨by decide, by decide⟩ (Nat.le_of_ble_eq_true rfl) rfl rfl dL_law_1468 ?_ hkR
  refine z_icmp_eq h 1534 dL_law_1471 (by decide) (fun _ => ?_) (fun c9 => absurd rfl c9)
  exact z_sub [0, 1, 2, 3, 4] rfl (z_widen (by omega) (by omega) kk)
set_option maxHeartbeats 4000000 in
set_option maxRecDepth 100000 in
/-- case undo -/
theorem law_undo {E : zE} (h : zC E RL cL_law eLaw 13 492 7) {b L : Nat} {xs : Nat → Int32} (hX : va_X b L xs (zs E) (zs E).heap) (hbl : b < (zs E).heap.size) (hbA : ¬ zAA E b) (hL : L ≤ 2560) {i : Nat} (hi : i + 5 ≤ L) {k n : Nat} (hk : k + 1 ≤ E.2.2.2.2.2.1.cells ∧ n + 6 ≤ E.2.2.2.2.2.1.slots) {qx qm bo : Nat} {C0 C1 M9 M1 : va_W} {fx fm fm1 : List Value} (hC0 : C0.length = 97) (hC1 : C1.length = 97) (hc0 : C0[0]? = some (qx, .inr (7, fx))) (hm0 : M9[0]? = some (qm, .inr (8, fm))) {F F9 : Nat → Int64} {kc : Nat} {bm : Int32} (hm1 : M1[0]? = some (qm, .inr (8, fm1))) (hw : zW (zl E) (zy E) (zD E) yL_undo wsL_undo 8 230 1 6 [.ref qx, .ref bo] (zOu (zy E) bo F ++ (C0 ++ M9)) (zOu (zy E) bo F9 ++ (C1 ++ M9)) (some (.int (nI kc)))) (hm : zM (zl E) (zy E) (zD E) yX10_undo wsX10_undo 1 23 [.ref qm] M9 M1 (some (.int bm))) (ht : zM (zl E) (zy E) (zD E) yX10_thrown wsX10_thrown 0 0 [.ref qm] M1 M1 (some (.int (nI kc)))) (hkc : kc < 4) (heq : kc = 0 → F9 0 = bm.toInt64) (kk : Z E (k + 1) (n + 6) [(0, .ref b), (1, .ref qx), (2, .ref qm), (3, .ref bo), (4, .int (nI i))] (zOu (zy E) bo F9 ++ (C1 ++ M1)) 1534 []) : Z E k n [(0, .ref b), (1, .ref qx), (2, .ref qm), (3, .ref bo), (4, .int (nI i))] (zOu (zy E) bo F ++ (C0 ++ M9)) 1476 [] := by
  have hkR : k + 1 ≤ E.2.2.2.2.2.1.cells ∧ n + 6 ≤ E.2.2.2.2.2.1.slots := ⟨by omega, by omega⟩
  refine z_aload_n h 1 rfl dL_law_1476 ?_
  refine z_aload_n h 3 rfl dL_law_1477 ?_
  refine w_callS h (As := [.ref qx, .ref bo]) (st := []) (ws2 := zOu (zy E) bo F9 ++ (C1 ++ M9)) (r := some (.int (nI kc))) 2 hw egL_L_undo ⟨by decide, by decide, by decide +kernel⟩ rfl ⟨by decide, by decide⟩ (zr 0 _) (zr_all _) (zr_nd _ _) (zput_all (zlen hw.1)) (Nat.le_of_ble_eq_true rfl) rfl rfl dL_law_1478 hk ?_
  refine z_istore h (by decide) rfl dL_law_1481 ?_
  refine z_aload_n h 3 rfl dL_law_1483 ?_
  refine z_wV h (As := []) (st := []) (ws2 := zOu (zy E) bo F9 ++ (C1 ++ M1)) (r := some (.int bm)) 0 (law_mo _ _ hm) egL_X10_undo (q0 := 98) (ci := 8) (by decide +kernel) ((law_rm hC1).trans hm0) rfl rfl ⟨by decide, by decide⟩ (Nat.le_of_ble_eq_true rfl) rfl rfl dL_law_1484 ?_ hkR
  refine z_istore h (by decide) rfl dL_law_1487 ?_
  refine z_aload_n h 4 rfl dL_law_1489 ?_
  refine z_wV h (As := []) (st := []) (ws2 := zOu (zy E) bo F9 ++ (C1 ++ M1)) (r := some (.int (nI kc))) 0 (law_mo _ _ ht) egL_X10_thrown (q0 := 98) (ci := 8) (by decide +kernel) ((law_rm hC1).trans hm1) rfl rfl ⟨by decide, by decide⟩ (Nat.le_of_ble_eq_true rfl) rfl rfl dL_law_1490 ?_ hkR
  refine z_iload h 1 rfl dL_law_1493 ?_
  refine z_icmp_eq h 1500 dL_law_1495 (by decide) (fun _ => ?_) (fun c9 => absurd rfl c9)
  refine z_iload h 1 rfl dL_law_1500 ?_
  refine z_if_ne h 1517 dL_law_1502 (by decide) (fun c5 => ?_) (fun c5 => ?_)
  · refine z_goto h 1534 dL_law_1517 (by decide) ?_
    exact z_sub [2, 3, 4, 5, 6] rfl kk
  · have hk0 : kc = 0 := law_0 hkc c5
    refine z_aload_n h 5 rfl dL_law_1505 ?_
    refine z_iconst h (nI 0) (by decide +kernel) dL_law_1506 ?_
    refine z_lald h 0 0 (f := F9) rfl rfl rfl (by decide) (by decide) dL_law_1507 ?_
    refine z_iload h 0 rfl dL_law_1508 ?_
    refine z_i2l h dL_law_1510 ?_
    refine z_lcmp h dL_law_1511 ?_
    refine z_if_eq h 1517 dL_law_1512 (by decide) (fun _ => ?_) (fun c9 => absurd (law_c (heq hk0)) c9)
    refine z_goto h 1534 dL_law_1517 (by decide) ?_
    exact z_sub [2, 3, 4, 5, 6] rfl (kk)
set_option maxHeartbeats 4000000 in
set_option maxRecDepth 100000 in
/-- case digest -/
theorem law_digest {E : zE} (h : zC E RL cL_law eLaw 13 492 7) {b L : Nat} {xs : Nat → Int32} (hX : va_X b L xs (zs E) (zs E).heap) (hbl : b < (zs E).heap.size) (hbA : ¬ zAA E b) (hL : L ≤ 2560) {i : Nat} (hi : i + 5 ≤ L) {k n : Nat} (hk : k + 1 ≤ E.2.2.2.2.2.1.cells ∧ n + 6 ≤ E.2.2.2.2.2.1.slots) {qx qm bo : Nat} {C0 C1 M9 M1 : va_W} {fx fm fm1 : List Value} (hC0 : C0.length = 97) (hC1 : C1.length = 97) (hc0 : C0[0]? = some (qx, .inr (7, fx))) (hm0 : M9[0]? = some (qm, .inr (8, fm))) {F : Nat → Int64} {a9 : Int64} (hw : zM (zl E) (zy E) (zD E) yX9_digest wsX9_digest 6 147 [.ref qx] C0 C1 (some (.long a9))) (hm : zM (zl E) (zy E) (zD E) yX10_digest wsX10_digest 7 163 [.ref qm] M9 M1 (some (.long a9))) (kk : Z E (k + 1) (n + 6) [(0, .ref b), (1, .ref qx), (2, .ref qm), (3, .ref bo), (4, .int (nI i))] (zOu (zy E) bo F ++ (C1 ++ M1)) 1534 []) : Z E k n [(0, .ref b), (1, .ref qx), (2, .ref qm), (3, .ref bo), (4, .int (nI i))] (zOu (zy E) bo F ++ (C0 ++ M9)) 1520 [] := by
  have hkR : k ≤ E.2.2.2.2.2.1.cells ∧ n ≤ E.2.2.2.2.2.1.slots := ⟨by omega, by omega⟩
  refine z_aload_n h 1 rfl dL_law_1520 ?_
  refine z_wV h (As := []) (st := []) (ws2 := zOu (zy E) bo F ++ (C1 ++ M9)) (r := some (.long a9)) 0 (z_mid _ _ hw) egL_X9_digest (q0 := 1) (ci := 7) (by decide +kernel) ((law_rx hC0).trans hc0) rfl rfl ⟨by decide, by decide⟩ (Nat.le_of_ble_eq_true rfl) rfl rfl dL_law_1521 ?_ hkR
  refine z_aload_n h 2 rfl dL_law_1524 ?_
  refine z_wV h (As := []) (st := [.long a9]) (ws2 := zOu (zy E) bo F ++ (C1 ++ M1)) (r := some (.long a9)) 0 (law_mo _ _ hm) egL_X10_digest (q0 := 98) (ci := 8) (by decide +kernel) ((law_rm hC1).trans hm0) rfl rfl ⟨by decide, by decide⟩ (Nat.le_of_ble_eq_true rfl) rfl rfl dL_law_1525 ?_ hkR
  refine z_lcmp h dL_law_1528 ?_
  refine z_if_eq h 1534 dL_law_1529 (by decide) (fun _ => ?_) (fun c9 => absurd (law_c rfl) c9)
  exact z_sub [0, 1, 2, 3, 4] rfl (z_widen (by omega) (by omega) kk)
