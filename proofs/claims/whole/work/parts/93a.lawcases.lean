/-! the law's cases -/
set_option maxHeartbeats 4000000 in
set_option maxRecDepth 100000 in
/-- case addSnow -/
theorem law_addSnow {E : zE} (h : zC E RL cL_law eLaw 13 492 7) {b L : Nat} {xs : Nat → Int32} (hX : va_X b L xs (zs E) (zs E).heap) (hbl : b < (zs E).heap.size) (hbA : ¬ zAA E b) (hL : L ≤ 2560) {i : Nat} (hi : i + 5 ≤ L) {k n : Nat} (hk : k + 1 ≤ E.2.2.2.2.2.1.cells ∧ n + 6 ≤ E.2.2.2.2.2.1.slots) {qx qm bo : Nat} {C0 C1 M9 M1 : va_W} {fx fm fm1 : List Value} (hC0 : C0.length = 97) (hC1 : C1.length = 97) (hc0 : C0[0]? = some (qx, .inr (7, fx))) (hm0 : M9[0]? = some (qm, .inr (8, fm))) {F F9 : Nat → Int64} {kc : Nat} {bm : Int32} (hm1 : M1[0]? = some (qm, .inr (8, fm1))) (hw : zW (zl E) (zy E) (zD E) yL_addSnow wsL_addSnow 8 230 1 6 [.ref qx, .int (xs (i + 1)), .ref bo] (zOu (zy E) bo F ++ (C0 ++ M9)) (zOu (zy E) bo F9 ++ (C1 ++ M9)) (some (.int (nI kc)))) (hm : zM (zl E) (zy E) (zD E) yX10_addSnow wsX10_addSnow 2 45 [.ref qm, .int (xs (i + 1))] M9 M1 (some (.int bm))) (ht : zM (zl E) (zy E) (zD E) yX10_thrown wsX10_thrown 0 0 [.ref qm] M1 M1 (some (.int (nI kc)))) (hkc : kc < 4) (heq : kc = 0 → F9 0 = bm.toInt64) (kk : Z E (k + 1) (n + 6) [(0, .ref b), (1, .ref qx), (2, .ref qm), (3, .ref bo), (4, .int (nI i))] (zOu (zy E) bo F9 ++ (C1 ++ M1)) 1534 []) : Z E k n [(0, .ref b), (1, .ref qx), (2, .ref qm), (3, .ref bo), (4, .int (nI i))] (zOu (zy E) bo F ++ (C0 ++ M9)) 160 [] := by
  have hkR : k + 1 ≤ E.2.2.2.2.2.1.cells ∧ n + 6 ≤ E.2.2.2.2.2.1.slots := ⟨by omega, by omega⟩
  refine z_aload_n h 1 rfl dL_law_160 ?_
  refine z_aload_n h 0 rfl dL_law_161 ?_
  refine z_iload h 4 rfl dL_law_162 ?_
  refine z_iconst h (nI 1) (by decide +kernel) dL_law_164 ?_
  refine z_iadd h dL_law_165 ?_
  refine z_top (nI (i + 1)) (nI_add i 1) ?_
  refine z_sld h hX hbl hbA (i := i + 1) (by omega) (by omega) dL_law_166 ?_
  refine z_aload_n h 3 rfl dL_law_167 ?_
  refine w_callS h (As := [.ref qx, .int (xs (i + 1)), .ref bo]) (st := []) (ws2 := zOu (zy E) bo F9 ++ (C1 ++ M9)) (r := some (.int (nI kc))) 3 hw egL_L_addSnow ⟨by decide, by decide, by decide +kernel⟩ rfl ⟨by decide, by decide⟩ (zr 0 _) (zr_all _) (zr_nd _ _) (zput_all (zlen hw.1)) (Nat.le_of_ble_eq_true rfl) rfl rfl dL_law_168 hk ?_
  refine z_istore h (by decide) rfl dL_law_171 ?_
  refine z_aload_n h 3 rfl dL_law_173 ?_
  refine z_aload_n h 1 rfl dL_law_174 ?_
  refine z_iload h 5 rfl dL_law_175 ?_
  refine z_iconst h (nI 1) (by decide +kernel) dL_law_177 ?_
  refine z_iadd h dL_law_178 ?_
  refine z_top (nI (i + 1)) (nI_add i 1) ?_
  refine z_sld h hX hbl hbA (i := i + 1) (by omega) (by omega) dL_law_179 ?_
  refine z_wV h (As := [.int (xs (i + 1))]) (st := []) (ws2 := zOu (zy E) bo F9 ++ (C1 ++ M1)) (r := some (.int bm)) 1 (law_mo _ _ hm) egL_X10_addSnow (q0 := 98) (ci := 8) (by decide +kernel) ((law_rm hC1).trans hm0) rfl rfl ⟨by decide, by decide⟩ (Nat.le_of_ble_eq_true rfl) rfl rfl dL_law_180 ?_ hkR
  refine z_istore h (by decide) rfl dL_law_183 ?_
  refine z_aload_n h 4 rfl dL_law_185 ?_
  refine z_wV h (As := []) (st := []) (ws2 := zOu (zy E) bo F9 ++ (C1 ++ M1)) (r := some (.int (nI kc))) 0 (law_mo _ _ ht) egL_X10_thrown (q0 := 98) (ci := 8) (by decide +kernel) ((law_rm hC1).trans hm1) rfl rfl ⟨by decide, by decide⟩ (Nat.le_of_ble_eq_true rfl) rfl rfl dL_law_186 ?_ hkR
  refine z_iload h 1 rfl dL_law_189 ?_
  refine z_icmp_eq h 196 dL_law_191 (by decide) (fun _ => ?_) (fun c9 => absurd rfl c9)
  refine z_iload h 1 rfl dL_law_196 ?_
  refine z_if_ne h 213 dL_law_198 (by decide) (fun c5 => ?_) (fun c5 => ?_)
  · refine z_goto h 1534 dL_law_213 (by decide) ?_
    exact z_sub [2, 3, 4, 5, 6] rfl kk
  · have hk0 : kc = 0 := law_0 hkc c5
    refine z_aload_n h 5 rfl dL_law_201 ?_
    refine z_iconst h (nI 0) (by decide +kernel) dL_law_202 ?_
    refine z_lald h 0 0 (f := F9) rfl rfl rfl (by decide) (by decide) dL_law_203 ?_
    refine z_iload h 0 rfl dL_law_204 ?_
    refine z_i2l h dL_law_206 ?_
    refine z_lcmp h dL_law_207 ?_
    refine z_if_eq h 213 dL_law_208 (by decide) (fun _ => ?_) (fun c9 => absurd (law_c (heq hk0)) c9)
    refine z_goto h 1534 dL_law_213 (by decide) ?_
    exact z_sub [2, 3, 4, 5, 6] rfl (kk)
set_option maxHeartbeats 4000000 in
set_option maxRecDepth 100000 in
/-- case press -/
theorem law_press {E : zE} (h : zC E RL cL_law eLaw 13 492 7) {b L : Nat} {xs : Nat → Int32} (hX : va_X b L xs (zs E) (zs E).heap) (hbl : b < (zs E).heap.size) (hbA : ¬ zAA E b) (hL : L ≤ 2560) {i : Nat} (hi : i + 5 ≤ L) {k n : Nat} (hk : k + 1 ≤ E.2.2.2.2.2.1.cells ∧ n + 6 ≤ E.2.2.2.2.2.1.slots) {qx qm bo : Nat} {C0 C1 M9 M1 : va_W} {fx fm fm1 : List Value} (hC0 : C0.length = 97) (hC1 : C1.length = 97) (hc0 : C0[0]? = some (qx, .inr (7, fx))) (hm0 : M9[0]? = some (qm, .inr (8, fm))) {F F9 : Nat → Int64} {kc : Nat} {bm : Int32} (hm1 : M1[0]? = some (qm, .inr (8, fm1))) (hw : zW (zl E) (zy E) (zD E) yL_press wsL_press 8 230 1 6 [.ref qx, .int (xs (i + 1)), .int (xs (i + 2)), .ref bo] (zOu (zy E) bo F ++ (C0 ++ M9)) (zOu (zy E) bo F9 ++ (C1 ++ M9)) (some (.int (nI kc)))) (hm : zM (zl E) (zy E) (zD E) yX10_press wsX10_press 3 66 [.ref qm, .int (xs (i + 1)), .int (xs (i + 2))] M9 M1 (some (.int bm))) (ht : zM (zl E) (zy E) (zD E) yX10_thrown wsX10_thrown 0 0 [.ref qm] M1 M1 (some (.int (nI kc)))) (hkc : kc < 4) (heq : kc = 0 → F9 0 = bm.toInt64) (kk : Z E (k + 1) (n + 6) [(0, .ref b), (1, .ref qx), (2, .ref qm), (3, .ref bo), (4, .int (nI i))] (zOu (zy E) bo F9 ++ (C1 ++ M1)) 1534 []) : Z E k n [(0, .ref b), (1, .ref qx), (2, .ref qm), (3, .ref bo), (4, .int (nI i))] (zOu (zy E) bo F ++ (C0 ++ M9)) 216 [] := by
  have hkR : k + 1 ≤ E.2.2.2.2.2.1.cells ∧ n + 6 ≤ E.2.2.2.2.2.1.slots := ⟨by omega, by omega⟩
  refine z_aload_n h 1 rfl dL_law_216 ?_
  refine z_aload_n h 0 rfl dL_law_217 ?_
  refine z_iload h 4 rfl dL_law_218 ?_
  refine z_iconst h (nI 1) (by decide +kernel) dL_law_220 ?_
  refine z_iadd h dL_law_221 ?_
  refine z_top (nI (i + 1)) (nI_add i 1) ?_
  refine z_sld h hX hbl hbA (i := i + 1) (by omega) (by omega) dL_law_222 ?_
  refine z_aload_n h 0 rfl dL_law_223 ?_
  refine z_iload h 4 rfl dL_law_224 ?_
  refine z_iconst h (nI 2) (by decide +kernel) dL_law_226 ?_
  refine z_iadd h dL_law_227 ?_
  refine z_top (nI (i + 2)) (nI_add i 2) ?_
  refine z_sld h hX hbl hbA (i := i + 2) (by omega) (by omega) dL_law_228 ?_
  refine z_aload_n h 3 rfl dL_law_229 ?_
  refine w_callS h (As := [.ref qx, .int (xs (i + 1)), .int (xs (i + 2)), .ref bo]) (st := []) (ws2 := zOu (zy E) bo F9 ++ (C1 ++ M9)) (r := some (.int (nI kc))) 4 hw egL_L_press ⟨by decide, by decide, by decide +kernel⟩ rfl ⟨by decide, by decide⟩ (zr 0 _) (zr_all _) (zr_nd _ _) (zput_all (zlen hw.1)) (Nat.le_of_ble_eq_true rfl) rfl rfl dL_law_230 hk ?_
  refine z_istore h (by decide) rfl dL_law_233 ?_
  refine z_aload_n h 3 rfl dL_law_235 ?_
  refine z_aload_n h 1 rfl dL_law_236 ?_
  refine z_iload h 5 rfl dL_law_237 ?_
  refine z_iconst h (nI 1) (by decide +kernel) dL_law_239 ?_
  refine z_iadd h dL_law_240 ?_
  refine z_top (nI (i + 1)) (nI_add i 1) ?_
  refine z_sld h hX hbl hbA (i := i + 1) (by omega) (by omega) dL_law_241 ?_
  refine z_aload_n h 1 rfl dL_law_242 ?_
  refine z_iload h 5 rfl dL_law_243 ?_
  refine z_iconst h (nI 2) (by decide +kernel) dL_law_245 ?_
  refine z_iadd h dL_law_246 ?_
  refine z_top (nI (i + 2)) (nI_add i 2) ?_
  refine z_sld h hX hbl hbA (i := i + 2) (by omega) (by omega) dL_law_247 ?_
  refine z_wV h (As := [.int (xs (i + 1)), .int (xs (i + 2))]) (st := []) (ws2 := zOu (zy E) bo F9 ++ (C1 ++ M1)) (r := some (.int bm)) 2 (law_mo _ _ hm) egL_X10_press (q0 := 98) (ci := 8) (by decide +kernel) ((law_rm hC1).trans hm0) rfl rfl ⟨by decide, by decide⟩ (Nat.le_of_ble_eq_true rfl) rfl rfl dL_law_248 ?_ hkR
  refine z_istore h (by decide) rfl dL_law_251 ?_
  refine z_aload_n h 4 rfl dL_law_253 ?_
  refine z_wV h (As := []) (st := []) (ws2 := zOu (zy E) bo F9 ++ (C1 ++ M1)) (r := some (.int (nI kc))) 0 (law_mo _ _ ht) egL_X10_thrown (q0 := 98) (ci := 8) (by decide +kernel) ((law_rm hC1).trans hm1) rfl rfl ⟨by decide, by decide⟩ (Nat.le_of_ble_eq_true rfl) rfl rfl dL_law_254 ?_ hkR
  refine z_iload h 1 rfl dL_law_257 ?_
  refine z_icmp_eq h 264 dL_law_259 (by decide) (fun _ => ?_) (fun c9 => absurd rfl c9)
  refine z_iload h 1 rfl dL_law_264 ?_
  refine z_if_ne h 281 dL_law_266 (by decide) (fun c5 => ?_) (fun c5 => ?_)
  · refine z_goto h 1534 dL_law_281 (by decide) ?_
    exact z_sub [2, 3, 4, 5, 6] rfl kk
  · have hk0 : kc = 0 := law_0 hkc c5
    refine z_aload_n h 5 rfl dL_law_269 ?_
    refine z_iconst h (nI 0) (by decide +kernel) dL_law_270 ?_
    refine z_lald h 0 0 (f := F9) rfl rfl rfl (by decide) (by decide) dL_law_271 ?_
    refine z_iload h 0 rfl dL_law_272 ?_
    refine z_i2l h dL_law_274 ?_
    refine z_lcmp h dL_law_275 ?_
    refine z_if_eq h 281 dL_law_276 (by decide) (fun _ => ?_) (fun c9 => absurd (law_c (heq hk0)) c9)
    refine z_goto h 1534 dL_law_281 (by decide) ?_
    exact z_sub [2, 3, 4, 5, 6] rfl (kk)
set_option maxHeartbeats 4000000 in
set_option maxRecDepth 100000 in
/-- case stack -/
theorem law_stack {E : zE} (h : zC E RL cL_law eLaw 13 492 7) {b L : Nat} {xs : Nat → Int32} (hX : va_X b L xs (zs E) (zs E).heap) (hbl : b < (zs E).heap.size) (hbA : ¬ zAA E b) (hL : L ≤ 2560) {i : Nat} (hi : i + 5 ≤ L) {k n : Nat} (hk : k + 1 ≤ E.2.2.2.2.2.1.cells ∧ n + 6 ≤ E.2.2.2.2.2.1.slots) {qx qm bo : Nat} {C0 C1 M9 M1 : va_W} {fx fm fm1 : List Value} (hC0 : C0.length = 97) (hC1 : C1.length = 97) (hc0 : C0[0]? = some (qx, .inr (7, fx))) (hm0 : M9[0]? = some (qm, .inr (8, fm))) {F F9 : Nat → Int64} {kc : Nat} {bm : Int32} (hm1 : M1[0]? = some (qm, .inr (8, fm1))) (hw : zW (zl E) (zy E) (zD E) yL_stack wsL_stack 8 230 1 6 [.ref qx, .int (xs (i + 1)), .int (xs (i + 2)), .ref bo] (zOu (zy E) bo F ++ (C0 ++ M9)) (zOu (zy E) bo F9 ++ (C1 ++ M9)) (some (.int (nI kc)))) (hm : zM (zl E) (zy E) (zD E) yX10_stack wsX10_stack 3 67 [.ref qm, .int (xs (i + 1)), .int (xs (i + 2))] M9 M1 (some (.int bm))) (ht : zM (zl E) (zy E) (zD E) yX10_thrown wsX10_thrown 0 0 [.ref qm] M1 M1 (some (.int (nI kc)))) (hkc : kc < 4) (heq : kc = 0 → F9 0 = bm.toInt64) (kk : Z E (k + 1) (n + 6) [(0, .ref b), (1, .ref qx), (2, .ref qm), (3, .ref bo), (4, .int (nI i))] (zOu (zy E) bo F9 ++ (C1 ++ M1)) 1534 []) : Z E k n [(0, .ref b), (1, .ref qx), (2, .ref qm), (3, .ref bo), (4, .int (nI i))] (zOu (zy E) bo F ++ (C0 ++ M9)) 284 [] := by
  have hkR : k + 1 ≤ E.2.2.2.2.2.1.cells ∧ n + 6 ≤ E.2.2.2.2.2.1.slots := ⟨by omega, by omega⟩
  refine z_aload_n h 1 rfl dL_law_284 ?_
  refine z_aload_n h 0 rfl dL_law_285 ?_
  refine z_iload h 4 rfl dL_law_286 ?_
  refine z_iconst h (nI 1) (by decide +kernel) dL_law_288 ?_
  refine z_iadd h dL_law_289 ?_
  refine z_top (nI (i + 1)) (nI_add i 1) ?_
  refine z_sld h hX hbl hbA (i := i + 1) (by omega) (by omega) dL_law_290 ?_
  refine z_aload_n h 0 rfl dL_law_291 ?_
  refine z_iload h 4 rfl dL_law_292 ?_
  refine z_iconst h (nI 2) (by decide +kernel) dL_law_294 ?_
  refine z_iadd h dL_law_295 ?_
  refine z_top (nI (i + 2)) (nI_add i 2) ?_
  refine z_sld h hX hbl hbA (i := i + 2) (by omega) (by omega) dL_law_296 ?_
  refine z_aload_n h 3 rfl dL_law_297 ?_
  refine w_callS h (As := [.ref qx, .int (xs (i + 1)), .int (xs (i + 2)), .ref bo]) (st := []) (ws2 := zOu (zy E) bo F9 ++ (C1 ++ M9)) (r := some (.int (nI kc))) 4 hw egL_L_stack ⟨by decide, by decide, by decide +kernel⟩ rfl ⟨by decide, by decide⟩ (zr 0 _) (zr_all _) (zr_nd _ _) (zput_all (zlen hw.1)) (Nat.le_of_ble_eq_true rfl) rfl rfl dL_law_298 hk ?_
  refine z_istore h (by decide) rfl dL_law_301 ?_
  refine z_aload_n h 3 rfl dL_law_303 ?_
  refine z_aload_n h 1 rfl dL_law_304 ?_
  refine z_iload h 5 rfl dL_law_305 ?_
  refine z_iconst h (nI 1) (by decide +kernel) dL_law_307 ?_
  refine z_iadd h dL_law_308 ?_
  refine z_top (nI (i + 1)) (nI_add i 1) ?_
  refine z_sld h hX hbl hbA (i := i + 1) (by omega) (by omega) dL_law_309 ?_
  refine z_aload_n h 1 rfl dL_law_310 ?_
  refine z_iload h 5 rfl dL_law_311 ?_
  refine z_iconst h (nI 2) (by decide +kernel) dL_law_313 ?_
  refine z_iadd h dL_law_314 ?_
  refine z_top (nI (i + 2)) (nI_add i 2) ?_
  refine z_sld h hX hbl hbA (i := i + 2) (by omega) (by omega) dL_law_315 ?_
  refine z_wV h (As := [.int (xs (i + 1)), .int (xs (i + 2))]) (st := []) (ws2 := zOu (zy E) bo F9 ++ (C1 ++ M1)) (r := some (.int bm)) 2 (law_mo _ _ hm) egL_X10_stack (q0 := 98) (ci := 8) (by decide +kernel) ((law_rm hC1).trans hm0) rfl rfl ⟨by decide, by decide⟩ (Nat.le_of_ble_eq_true rfl) rfl rfl dL_law_316 ?_ hkR
  refine z_istore h (by decide) rfl dL_law_319 ?_
  refine z_aload_n h 4 rfl dL_law_321 ?_
  refine z_wV h (As := []) (st := []) (ws2 := zOu (zy E) bo F9 ++ (C1 ++ M1)) (r := some (.int (nI kc))) 0 (law_mo _ _ ht) egL_X10_thrown (q0 := 98) (ci := 8) (by decide +kernel) ((law_rm hC1).trans hm1) rfl rfl ⟨by decide, by decide⟩ (Nat.le_of_ble_eq_true rfl) rfl rfl dL_law_322 ?_ hkR
  refine z_iload h 1 rfl dL_law_325 ?_
  refine z_icmp_eq h 332 dL_law_327 (by decide) (fun _ => ?_) (fun c9 => absurd rfl c9)
  refine z_iload h 1 rfl dL_law_332 ?_
  refine z_if_ne h 349 dL_law_334 (by decide) (fun c5 => ?_) (fun c5 => ?_)
  · refine z_goto h 1534 dL_law_349 (by decide) ?_
    exact z_sub [2, 3, 4, 5, 6] rfl kk
  · have hk0 : kc = 0 := law_0 hkc c5
    refine z_aload_n h 5 rfl dL_law_337 ?_
    refine z_iconst h (nI 0) (by decide +kernel) dL_law_338 ?_
    refine z_lald h 0 0 (f := F9) rfl rfl rfl (by decide) (by decide) dL_law_339 ?_
    refine z_iload h 0 rfl dL_law_340 ?_
    refine z_i2l h dL_law_342 ?_
    refine z_lcmp h dL_law_343 ?_
    refine z_if_eq h 349 dL_law_344 (by decide) (fun _ => ?_) (fun c9 => absurd (law_c (heq hk0)) c9)
    refine z_goto h 1534 dL_law_349 (by decide) ?_
    exact z_sub [2, 3, 4, 5, 6] rfl (kk)
set_option maxHeartbeats 4000000 in
set_option maxRecDepth 100000 in
/-- case setWall -/
theorem law_setWall_0 {E : zE} (h : zC E RL cL_law eLaw 13 492 7) {b L : Nat} {xs : Nat → Int32} (hX : va_X b L xs (zs E) (zs E).heap) (hbl : b < (zs E).heap.size) (hbA : ¬ zAA E b) (hL : L ≤ 2560) {i : Nat} (hi : i + 5 ≤ L) {k n : Nat} (hk : k + 1 ≤ E.2.2.2.2.2.1.cells ∧ n + 6 ≤ E.2.2.2.2.2.1.slots) {qx qm bo : Nat} (hz : xs (i + 2) = 0) {C0 C1 M9 M1 : va_W} {fx fm fm1 : List Value} (hC0 : C0.length = 97) (hC1 : C1.length = 97) (hc0 : C0[0]? = some (qx, .inr (7, fx))) (hm0 : M9[0]? = some (qm, .inr (8, fm))) {F F9 : Nat → Int64} {kc : Nat} {bm : Int32} (hm1 : M1[0]? = some (qm, .inr (8, fm1))) (hw : zW (zl E) (zy E) (zD E) yL_setWall wsL_setWall 8 230 1 6 [.ref qx, .int (xs (i + 1)), .int (nI 0), .ref bo] (zOu (zy E) bo F ++ (C0 ++ M9)) (zOu (zy E) bo F9 ++ (C1 ++ M9)) (some (.int (nI kc)))) (hm : zM (zl E) (zy E) (zD E) yX10_setWall wsX10_setWall 3 65 [.ref qm, .int (xs (i + 1)), .int (nI 0)] M9 M1 (some (.int bm))) (ht : zM (zl E) (zy E) (zD E) yX10_thrown wsX10_thrown 0 0 [.ref qm] M1 M1 (some (.int (nI kc)))) (hkc : kc < 4) (heq : kc = 0 → F9 0 = bm.toInt64) (kk : Z E (k + 1) (n + 6) [(0, .ref b), (1, .ref qx), (2, .ref qm), (3, .ref bo), (4, .int (nI i))] (zOu (zy E) bo F9 ++ (C1 ++ M1)) 1534 []) : Z E k n [(0, .ref b), (1, .ref qx), (2, .ref qm), (3, .ref bo), (4, .int (nI i))] (zOu (zy E) bo F ++ (C0 ++ M9)) 352 [] := by
  have hkR : k + 1 ≤ E.2.2.2.2.2.1.cells ∧ n + 6 ≤ E.2.2.2.2.2.1.slots := ⟨by omega, by omega⟩
  refine z_aload_n h 1 rfl dL_law_352 ?_
  refine z_aload_n h 0 rfl dL_law_353 ?_
  refine z_iload h 4 rfl dL_law_354 ?_
  refine z_iconst h (nI 1) (by decide +kernel) dL_law_356 ?_
  refine z_iadd h dL_law_357 ?_
  refine z_top (nI (i + 1)) (nI_add i 1) ?_
  refine z_sld h hX hbl hbA (i := i + 1) (by omega) (by omega) dL_law_358 ?_
  refine z_aload_n h 0 rfl dL_law_359 ?_
  refine z_iload h 4 rfl dL_law_360 ?_
  refine z_iconst h (nI 2) (by decide +kernel) dL_law_362 ?_
  refine z_iadd h dL_law_363 ?_
  refine z_top (nI (i + 2)) (nI_add i 2) ?_
  refine z_sld h hX hbl hbA (i := i + 2) (by omega) (by omega) dL_law_364 ?_
  refine z_if_eq h 372 dL_law_365 (by decide) (fun _ => ?_) (fun c9 => absurd hz c9)
  refine z_iconst h (nI 0) (by decide +kernel) dL_law_372 ?_
  refine z_aload_n h 3 rfl dL_law_373 ?_
  refine w_callS h (As := [.ref qx, .int (xs (i + 1)), .int (nI 0), .ref bo]) (st := []) (ws2 := zOu (zy E) bo F9 ++ (C1 ++ M9)) (r := some (.int (nI kc))) 4 hw egL_L_setWall ⟨by decide, by decide, by decide +kernel⟩ rfl ⟨by decide, by decide⟩ (zr 0 _) (zr_all _) (zr_nd _ _) (zput_all (zlen hw.1)) (Nat.le_of_ble_eq_true rfl) rfl rfl dL_law_374 hk ?_
  refine z_istore h (by decide) rfl dL_law_377 ?_
  refine z_aload_n h 3 rfl dL_law_379 ?_
  refine z_aload_n h 1 rfl dL_law_380 ?_
  refine z_iload h 5 rfl dL_law_381 ?_
  refine z_iconst h (nI 1) (by decide +kernel) dL_law_383 ?_
  refine z_iadd h dL_law_384 ?_
  refine z_top (nI (i + 1)) (nI_add i 1) ?_
  refine z_sld h hX hbl hbA (i := i + 1) (by omega) (by omega) dL_law_385 ?_
  refine z_aload_n h 1 rfl dL_law_386 ?_
  refine z_iload h 5 rfl dL_law_387 ?_
  refine z_iconst h (nI 2) (by decide +kernel) dL_law_389 ?_
  refine z_iadd h dL_law_390 ?_
  refine z_top (nI (i + 2)) (nI_add i 2) ?_
  refine z_sld h hX hbl hbA (i := i + 2) (by omega) (by omega) dL_law_391 ?_
  refine z_if_eq h 399 dL_law_392 (by decide) (fun _ => ?_) (fun c9 => absurd hz c9)
  refine z_iconst h (nI 0) (by decide +kernel) dL_law_399 ?_
  refine z_wV h (As := [.int (xs (i + 1)), .int (nI 0)]) (st := []) (ws2 := zOu (zy E) bo F9 ++ (C1 ++ M1)) (r := some (.int bm)) 2 (law_mo _ _ hm) egL_X10_setWall (q0 := 98) (ci := 8) (by decide +kernel) ((law_rm hC1).trans hm0) rfl rfl ⟨by decide, by decide⟩ (Nat.le_of_ble_eq_true rfl) rfl rfl dL_law_400 ?_ hkR
  refine z_istore h (by decide) rfl dL_law_403 ?_
  refine z_aload_n h 4 rfl dL_law_405 ?_
  refine z_wV h (As := []) (st := []) (ws2 := zOu (zy E) bo F9 ++ (C1 ++ M1)) (r := some (.int (nI kc))) 0 (law_mo _ _ ht) egL_X10_thrown (q0 := 98) (ci := 8) (by decide +kernel) ((law_rm hC1).trans hm1) rfl rfl ⟨by decide, by decide⟩ (Nat.le_of_ble_eq_true rfl) rfl rfl dL_law_406 ?_ hkR
  refine z_iload h 1 rfl dL_law_409 ?_
  refine z_icmp_eq h 416 dL_law_411 (by decide) (fun _ => ?_) (fun c9 => absurd rfl c9)
  refine z_iload h 1 rfl dL_law_416 ?_
  refine z_if_ne h 433 dL_law_418 (by decide) (fun c5 => ?_) (fun c5 => ?_)
  · refine z_goto h 1534 dL_law_433 (by decide) ?_
    exact z_sub [2, 3, 4, 5, 6] rfl kk
  · have hk0 : kc = 0 := law_0 hkc c5
    refine z_aload_n h 5 rfl dL_law_421 ?_
    refine z_iconst h (nI 0) (by decide +kernel) dL_law_422 ?_
    refine z_lald h 0 0 (f := F9) rfl rfl rfl (by decide) (by decide) dL_law_423 ?_
    refine z_iload h 0 rfl dL_law_424 ?_
    refine z_i2l h dL_law_426 ?_
    refine z_lcmp h dL_law_427 ?_
    refine z_if_eq h 433 dL_law_428 (by decide) (fun _ => ?_) (fun c9 => absurd (law_c (heq hk0)) c9)
    refine z_goto h 1534 dL_law_433 (by decide) ?_
    exact z_sub [2, 3, 4, 5, 6] rfl (kk)
set_option maxHeartbeats 4000000 in
set_option maxRecDepth 100000 in
/-- case setWall -/
theorem law_setWall_1 {E : zE} (h : zC E RL cL_law eLaw 13 492 7) {b L : Nat} {xs : Nat → Int32} (hX : va_X b L xs (zs E) (zs E).heap) (hbl : b < (zs E).heap.size) (hbA : ¬ zAA E b) (hL : L ≤ 2560) {i : Nat} (hi : i + 5 ≤ L) {k n : Nat} (hk : k + 1 ≤ E.2.2.2.2.2.1.cells ∧ n + 6 ≤ E.2.2.2.2.2.1.slots) {qx qm bo : Nat} (hz : ¬ xs (i + 2) = 0) {C0 C1 M9 M1 : va_W} {fx fm fm1 : List Value} (hC0 : C0.length = 97) (hC1 : C1.length = 97) (hc0 : C0[0]? = some (qx, .inr (7, fx))) (hm0 : M9[0]? = some (qm, .inr (8, fm))) {F F9 : Nat → Int64} {kc : Nat} {bm : Int32} (hm1 : M1[0]? = some (qm, .inr (8, fm1))) (hw : zW (zl E) (zy E) (zD E) yL_setWall wsL_setWall 8 230 1 6 [.ref qx, .int (xs (i + 1)), .int (nI 1), .ref bo] (zOu (zy E) bo F ++ (C0 ++ M9)) (zOu (zy E) bo F9 ++ (C1 ++ M9)) (some (.int (nI kc)))) (hm : zM (zl E) (zy E) (zD E) yX10_setWall wsX10_setWall 3 65 [.ref qm, .int (xs (i + 1)), .int (nI 1)] M9 M1 (some (.int bm))) (ht : zM (zl E) (zy E) (zD E) yX10_thrown wsX10_thrown 0 0 [.ref qm] M1 M1 (some (.int (nI kc)))) (hkc : kc < 4) (heq : kc = 0 → F9 0 = bm.toInt64) (kk : Z E (k + 1) (n + 6) [(0, .ref b), (1, .ref qx), (2, .ref qm), (3, .ref bo), (4, .int (nI i))] (zOu (zy E) bo F9 ++ (C1 ++ M1)) 1534 []) : Z E k n [(0, .ref b), (1, .ref qx), (2, .ref qm), (3, .ref bo), (4, .int (nI i))] (zOu (zy E) bo F ++ (C0 ++ M9)) 352 [] := by
  have hkR : k + 1 ≤ E.2.2.2.2.2.1.cells ∧ n + 6 ≤ E.2.2.2.2.2.1.slots := ⟨by omega, by omega⟩
  refine z_aload_n h 1 rfl dL_law_352 ?_
  refine z_aload_n h 0 rfl dL_law_353 ?_
  refine z_iload h 4 rfl dL_law_354 ?_
  refine z_iconst h (nI 1) (by decide +kernel) dL_law_356 ?_
  refine z_iadd h dL_law_357 ?_
  refine z_top (nI (i + 1)) (nI_add i 1) ?_
  refine z_sld h hX hbl hbA (i := i + 1) (by omega) (by omega) dL_law_358 ?_
  refine z_aload_n h 0 rfl dL_law_359 ?_
  refine z_iload h 4 rfl dL_law_360 ?_
  refine z_iconst h (nI 2) (by decide +kernel) dL_law_362 ?_
  refine z_iadd h dL_law_363 ?_
  refine z_top (nI (i + 2)) (nI_add i 2) ?_
  refine z_sld h hX hbl hbA (i := i + 2) (by omega) (by omega) dL_law_364 ?_
  refine z_if_eq h 372 dL_law_365 (by decide) (fun c9 => absurd c9 hz) (fun _ => ?_)
  refine z_iconst h (nI 1) (by decide +kernel) dL_law_368 ?_
  refine z_goto h 373 dL_law_369 (by decide) ?_
  refine z_aload_n h 3 rfl dL_law_373 ?_
  refine w_callS h (As := [.ref qx, .int (xs (i + 1)), .int (nI 1), .ref bo]) (st := []) (ws2 := zOu (zy E) bo F9 ++ (C1 ++ M9)) (r := some (.int (nI kc))) 4 hw egL_L_setWall ⟨by decide, by decide, by decide +kernel⟩ rfl ⟨by decide, by decide⟩ (zr 0 _) (zr_all _) (zr_nd _ _) (zput_all (zlen hw.1)) (Nat.le_of_ble_eq_true rfl) rfl rfl dL_law_374 hk ?_
  refine z_istore h (by decide) rfl dL_law_377 ?_
  refine z_aload_n h 3 rfl dL_law_379 ?_
  refine z_aload_n h 1 rfl dL_law_380 ?_
  refine z_iload h 5 rfl dL_law_381 ?_
  refine z_iconst h (nI 1) (by decide +kernel) dL_law_383 ?_
  refine z_iadd h dL_law_384 ?_
  refine z_top (nI (i + 1)) (nI_add i 1) ?_
  refine z_sld h hX hbl hbA (i := i + 1) (by omega) (by omega) dL_law_385 ?_
  refine z_aload_n h 1 rfl dL_law_386 ?_
  refine z_iload h 5 rfl dL_law_387 ?_
  refine z_iconst h (nI 2) (by decide +kernel) dL_law_389 ?_
  refine z_iadd h dL_law_390 ?_
  refine z_top (nI (i + 2)) (nI_add i 2) ?_
  refine z_sld h hX hbl hbA (i := i + 2) (by omega) (by omega) dL_law_391 ?_
  refine z_if_eq h 399 dL_law_392 (by decide) (fun c9 => absurd c9 hz) (fun _ => ?_)
  refine z_iconst h (nI 1) (by decide +kernel) dL_law_395 ?_
  refine z_goto h 400 dL_law_396 (by decide) ?_
  refine z_wV h (As := [.int (xs (i + 1)), .int (nI 1)]) (st := []) (ws2 := zOu (zy E) bo F9 ++ (C1 ++ M1)) (r := some (.int bm)) 2 (law_mo _ _ hm) egL_X10_setWall (q0 := 98) (ci := 8) (by decide +kernel) ((law_rm hC1).trans hm0) rfl rfl ⟨by decide, by decide⟩ (Nat.le_of_ble_eq_true rfl) rfl rfl dL_law_400 ?_ hkR
  refine z_istore h (by decide) rfl dL_law_403 ?_
  refine z_aload_n h 4 rfl dL_law_405 ?_
  refine z_wV h (As := []) (st := []) (ws2 := zOu (zy E) bo F9 ++ (C1 ++ M1)) (r := some (.int (nI kc))) 0 (law_mo _ _ ht) egL_X10_thrown (q0 := 98) (ci := 8) (by decide +kernel) ((law_rm hC1).trans hm1) rfl rfl ⟨by decide, by decide⟩ (Nat.le_of_ble_eq_true rfl) rfl rfl dL_law_406 ?_ hkR
  refine z_iload h 1 rfl dL_law_409 ?_
  refine z_icmp_eq h 416 dL_law_411 (by decide) (fun _ => ?_) (fun c9 => absurd rfl c9)
  refine z_iload h 1 rfl dL_law_416 ?_
  refine z_if_ne h 433 dL_law_418 (by decide) (fun c5 => ?_) (fun c5 => ?_)
  · refine z_goto h 1534 dL_law_433 (by decide) ?_
    exact z_sub [2, 3, 4, 5, 6] rfl kk
  · have hk0 : kc = 0 := law_0 hkc c5
    refine z_aload_n h 5 rfl dL_law_421 ?_
    refine z_iconst h (nI 0) (by decide +kernel) dL_law_422 ?_
    refine z_lald h 0 0 (f := F9) rfl rfl rfl (by decide) (by decide) dL_law_423 ?_
    refine z_iload h 0 rfl dL_law_424 ?_
    refine z_i2l h dL_law_426 ?_
    refine z_lcmp h dL_law_427 ?_
    refine z_if_eq h 433 dL_law_428 (by decide) (fun _ => ?_) (fun c9 => absurd (law_c (heq hk0)) c9)
    refine z_goto h 1534 dL_law_433 (by decide) ?_
    exact z_sub [2, 3, 4, 5, 6] rfl (kk)
set_option maxHeartbeats 4000000 in
set_option maxRecDepth 100000 in
/-- case addTool -/
theorem law_addTool {E : zE} (h : zC E RL cL_law eLaw 13 492 7) {b L : Nat} {xs : Nat → Int32} (hX : va_X b L xs (zs E) (zs E).heap) (hbl : b < (zs E).heap.size) (hbA : ¬ zAA E b) (hL : L ≤ 2560) {i : Nat} (hi : i + 5 ≤ L) {k n : Nat} (hk : k + 1 ≤ E.2.2.2.2.2.1.cells ∧ n + 6 ≤ E.2.2.2.2.2.1.slots) {qx qm bo : Nat} {C0 C1 M9 M1 : va_W} {fx fm fm1 : List Value} (hC0 : C0.length = 97) (hC1 : C1.length = 97) (hc0 : C0[0]? = some (qx, .inr (7, fx))) (hm0 : M9[0]? = some (qm, .inr (8, fm))) {F F9 : Nat → Int64} {kc : Nat} {bm : Int32} (hm1 : M1[0]? = some (qm, .inr (8, fm1))) (hw : zW (zl E) (zy E) (zD E) yL_addTool wsL_addTool 8 230 1 6 [.ref qx, .int (xs (i + 1)), .ref bo] (zOu (zy E) bo F ++ (C0 ++ M9)) (zOu (zy E) bo F9 ++ (C1 ++ M9)) (some (.int (nI kc)))) (hm : zM (zl E) (zy E) (zD E) yX10_addTool wsX10_addTool 2 46 [.ref qm, .int (xs (i + 1))] M9 M1 (some (.int bm))) (ht : zM (zl E) (zy E) (zD E) yX10_thrown wsX10_thrown 0 0 [.ref qm] M1 M1 (some (.int (nI kc)))) (hkc : kc < 4) (heq : kc = 0 → F9 0 = bm.toInt64) (kk : Z E (k + 1) (n + 6) [(0, .ref b), (1, .ref qx), (2, .ref qm), (3, .ref bo), (4, .int (nI i))] (zOu (zy E) bo F9 ++ (C1 ++ M1)) 1534 []) : Z E k n [(0, .ref b), (1, .ref qx), (2, .ref qm), (3, .ref bo), (4, .int (nI i))] (zOu (zy E) bo F ++ (C0 ++ M9)) 436 [] := by
  have hkR : k + 1 ≤ E.2.2.2.2.2.1.cells ∧ n + 6 ≤ E.2.2.2.2.2.1.slots := ⟨by omega, by omega⟩
  refine z_aload_n h 1 rfl dL_law_436 ?_
  refine z_aload_n h 0 rfl dL_law_437 ?_
  refine z_iload h 4 rfl dL_law_438 ?_
  refine z_iconst h (nI 1) (by decide +kernel) dL_law_440 ?_
  refine z_iadd h dL_law_441 ?_
  refine z_top (nI (i + 1)) (nI_add i 1) ?_
  refine z_sld h hX hbl hbA (i := i + 1) (by omega) (by omega) dL_law_442 ?_
  refine z_aload_n h 3 rfl dL_law_443 ?_
  refine w_callS h (As := [.ref qx, .int (xs (i + 1)), .ref bo]) (st := []) (ws2 := zOu (zy E) bo F9 ++ (C1 ++ M9)) (r := some (.int (nI kc))) 3 hw egL_L_addTool ⟨by decide, by decide, by decide +kernel⟩ rfl ⟨by decide, by decide⟩ (zr 0 _) (zr_all _) (zr_nd _ _) (zput_all (zlen hw.1)) (Nat.le_of_ble_eq_true rfl) rfl rfl dL_law_444 hk ?_
  refine z_istore h (by decide) rfl dL_law_447 ?_
  refine z_aload_n h 3 rfl dL_law_449 ?_
  refine z_aload_n h 1 rfl dL_law_450 ?_
  refine z_iload h 5 rfl dL_law_451 ?_
  refine z_iconst h (nI 1) (by decide +kernel) dL_law_453 ?_
  refine z_iadd h dL_law_454 ?_
  refine z_top (nI (i + 1)) (nI_add i 1) ?_
  refine z_sld h hX hbl hbA (i := i + 1) (by omega) (by omega) dL_law_455 ?_
  refine z_wV h (As := [.int (xs (i + 1))]) (st := []) (ws2 := zOu (zy E) bo F9 ++ (C1 ++ M1)) (r := some (.int bm)) 1 (law_mo _ _ hm) egL_X10_addTool (q0 := 98) (ci := 8) (by decide +kernel) ((law_rm hC1).trans hm0) rfl rfl ⟨by decide, by decide⟩ (Nat.le_of_ble_eq_true rfl) rfl rfl dL_law_456 ?_ hkR
  refine z_istore h (by decide) rfl dL_law_459 ?_
  refine z_aload_n h 4 rfl dL_law_461 ?_
  refine z_wV h (As := []) (st := []) (ws2 := zOu (zy E) bo F9 ++ (C1 ++ M1)) (r := some (.int (nI kc))) 0 (law_mo _ _ ht) egL_X10_thrown (q0 := 98) (ci := 8) (by decide +kernel) ((law_rm hC1).trans hm1) rfl rfl ⟨by decide, by decide⟩ (Nat.le_of_ble_eq_true rfl) rfl rfl dL_law_462 ?_ hkR
  refine z_iload h 1 rfl dL_law_465 ?_
  refine z_icmp_eq h 472 dL_law_467 (by decide) (fun _ => ?_) (fun c9 => absurd rfl c9)
  refine z_iload h 1 rfl dL_law_472 ?_
  refine z_if_ne h 489 dL_law_474 (by decide) (fun c5 => ?_) (fun c5 => ?_)
  · refine z_goto h 1534 dL_law_489 (by decide) ?_
    exact z_sub [2, 3, 4, 5, 6] rfl kk
  · have hk0 : kc = 0 := law_0 hkc c5
    refine z_aload_n h 5 rfl dL_law_477 ?_
    refine z_iconst h (nI 0) (by decide +kernel) dL_law_478 ?_
    refine z_lald h 0 0 (f := F9) rfl rfl rfl (by decide) (by decide) dL_law_479 ?_
    refine z_iload h 0 rfl dL_law_480 ?_
    refine z_i2l h dL_law_482 ?_
    refine z_lcmp h dL_law_483 ?_
    refine z_if_eq h 489 dL_law_484 (by decide) (fun _ => ?_) (fun c9 => absurd (law_c (heq hk0)) c9)
    refine z_goto h 1534 dL_law_489 (by decide) ?_
    exact z_sub [2, 3, 4, 5, 6] rfl (kk)
set_option maxHeartbeats 4000000 in
set_option maxRecDepth 100000 in
/-- case carve -/
theorem law_carve {E : zE} (h : zC E RL cL_law eLaw 13 492 7) {b L : Nat} {xs : Nat → Int32} (hX : va_X b L xs (zs E) (zs E).heap) (hbl : b < (zs E).heap.size) (hbA : ¬ zAA E b) (hL : L ≤ 2560) {i : Nat} (hi : i + 5 ≤ L) {k n : Nat} (hk : k + 1 ≤ E.2.2.2.2.2.1.cells ∧ n + 6 ≤ E.2.2.2.2.2.1.slots) {qx qm bo : Nat} {C0 C1 M9 M1 : va_W} {fx fm fm1 : List Value} (hC0 : C0.length = 97) (hC1 : C1.length = 97) (hc0 : C0[0]? = some (qx, .inr (7, fx))) (hm0 : M9[0]? = some (qm, .inr (8, fm))) {F F9 : Nat → Int64} {kc : Nat} {bm : Int32} (hm1 : M1[0]? = some (qm, .inr (8, fm1))) (hw : zW (zl E) (zy E) (zD E) yL_carve wsL_carve 8 230 1 6 [.ref qx, .int (xs (i + 1)), .int (xs (i + 2)), .int (xs (i + 3)), .int (xs (i + 4)), .ref bo] (zOu (zy E) bo F ++ (C0 ++ M9)) (zOu (zy E) bo F9 ++ (C1 ++ M9)) (some (.int (nI kc)))) (hm : zM (zl E) (zy E) (zD E) yX10_carve wsX10_carve 3 74 [.ref qm, .int (xs (i + 1)), .int (xs (i + 2)), .int (xs (i + 3)), .int (xs (i + 4))] M9 M1 (some (.int bm))) (ht : zM (zl E) (zy E) (zD E) yX10_thrown wsX10_thrown 0 0 [.ref qm] M1 M1 (some (.int (nI kc)))) (hkc : kc < 4) (heq : kc = 0 → F9 0 = bm.toInt64) (kk : Z E (k + 1) (n + 6) [(0, .ref b), (1, .ref qx), (2, .ref qm), (3, .ref bo), (4, .int (nI i))] (zOu (zy E) bo F9 ++ (C1 ++ M1)) 1534 []) : Z E k n [(0, .ref b), (1, .ref qx), (2, .ref qm), (3, .ref bo), (4, .int (nI i))] (zOu (zy E) bo F ++ (C0 ++ M9)) 492 [] := by
  have hkR : k + 1 ≤ E.2.2.2.2.2.1.cells ∧ n + 6 ≤ E.2.2.2.2.2.1.slots := ⟨by omega, by omega⟩
  refine z_aload_n h 1 rfl dL_law_492 ?_
  refine z_aload_n h 0 rfl dL_law_493 ?_
  refine z_iload h 4 rfl dL_law_494 ?_
  refine z_iconst h (nI 1) (by decide +kernel) dL_law_496 ?_
  refine z_iadd h dL_law_497 ?_
  refine z_top (nI (i + 1)) (nI_add i 1) ?_
  refine z_sld h hX hbl hbA (i := i + 1) (by omega) (by omega) dL_law_498 ?_
  refine z_aload_n h 0 rfl dL_law_499 ?_
  refine z_iload h 4 rfl dL_law_500 ?_
  refine z_iconst h (nI 2) (by decide +kernel) dL_law_502 ?_
  refine z_iadd h dL_law_503 ?_
  refine z_top (nI (i + 2)) (nI_add i 2) ?_
  refine z_sld h hX hbl hbA (i := i + 2) (by omega) (by omega) dL_law_504 ?_
  refine z_aload_n h 0 rfl dL_law_505 ?_
  refine z_iload h 4 rfl dL_law_506 ?_
  refine z_iconst h (nI 3) (by decide +kernel) dL_law_508 ?_
  refine z_iadd h dL_law_509 ?_
  refine z_top (nI (i + 3)) (nI_add i 3) ?_
  refine z_sld h hX hbl hbA (i := i + 3) (by omega) (by omega) dL_law_510 ?_
  refine z_aload_n h 0 rfl dL_law_511 ?_
  refine z_iload h 4 rfl dL_law_512 ?_
  refine z_iconst h (nI 4) (by decide +kernel) dL_law_514 ?_
  refine z_iadd h dL_law_515 ?_
  refine z_top (nI (i + 4)) (nI_add i 4) ?_
  refine z_sld h hX hbl hbA (i := i + 4) (by omega) (by omega) dL_law_516 ?_
  refine z_aload_n h 3 rfl dL_law_517 ?_
  refine w_callS h (As := [.ref qx, .int (xs (i + 1)), .int (xs (i + 2)), .int (xs (i + 3)), .int (xs (i + 4)), .ref bo]) (st := []) (ws2 := zOu (zy E) bo F9 ++ (C1 ++ M9)) (r := some (.int (nI kc))) 6 hw egL_L_carve ⟨by decide, by decide, by decide +kernel⟩ rfl ⟨by decide, by decide⟩ (zr 0 _) (zr_all _) (zr_nd _ _) (zput_all (zlen hw.1)) (Nat.le_of_ble_eq_true rfl) rfl rfl dL_law_518 hk ?_
  refine z_istore h (by decide) rfl dL_law_521 ?_
  refine z_aload_n h 3 rfl dL_law_523 ?_
  refine z_aload_n h 1 rfl dL_law_524 ?_
  refine z_iload h 5 rfl dL_law_525 ?_
  refine z_iconst h (nI 1) (by decide +kernel) dL_law_527 ?_
  refine z_iadd h dL_law_528 ?_
  refine z_top (nI (i + 1)) (nI_add i 1) ?_
  refine z_sld h hX hbl hbA (i := i + 1) (by omega) (by omega) dL_law_529 ?_
  refine z_aload_n h 1 rfl dL_law_530 ?_
  refine z_iload h 5 rfl dL_law_531 ?_
  refine z_iconst h (nI 2) (by decide +kernel) dL_law_533 ?_
  refine z_iadd h dL_law_534 ?_
  refine z_top (nI (i + 2)) (nI_add i 2) ?_
  refine z_sld h hX hbl hbA (i := i + 2) (by omega) (by omega) dL_law_535 ?_
  refine z_aload_n h 1 rfl dL_law_536 ?_
  refine z_iload h 5 rfl dL_law_537 ?_
  refine z_iconst h (nI 3) (by decide +kernel) dL_law_539 ?_
  refine z_iadd h dL_law_540 ?_
  refine z_top (nI (i + 3)) (nI_add i 3) ?_
  refine z_sld h hX hbl hbA (i := i + 3) (by omega) (by omega) dL_law_541 ?_
  refine z_aload_n h 1 rfl dL_law_542 ?_
  refine z_iload h 5 rfl dL_law_543 ?_
  refine z_iconst h (nI 4) (by decide +kernel) dL_law_545 ?_
  refine z_iadd h dL_law_546 ?_
  refine z_top (nI (i + 4)) (nI_add i 4) ?_
  refine z_sld h hX hbl hbA (i := i + 4) (by omega) (by omega) dL_law_547 ?_
  refine z_wV h (As := [.int (xs (i + 1)), .int (xs (i + 2)), .int (xs (i + 3)), .int (xs (i + 4))]) (st := []) (ws2 := zOu (zy E) bo F9 ++ (C1 ++ M1)) (r := some (.int bm)) 4 (law_mo _ _ hm) egL_X10_carve (q0 := 98) (ci := 8) (by decide +kernel) ((law_rm hC1).trans hm0) rfl rfl ⟨by decide, by decide⟩ (Nat.le_of_ble_eq_true rfl) rfl rfl dL_law_548 ?_ hkR
  refine z_istore h (by decide) rfl dL_law_551 ?_
  refine z_aload_n h 4 rfl dL_law_553 ?_
  refine z_wV h (As := []) (st := []) (ws2 := zOu (zy E) bo F9 ++ (C1 ++ M1)) (r := some (.int (nI kc))) 0 (law_mo _ _ ht) egL_X10_thrown (q0 := 98) (ci := 8) (by decide +kernel) ((law_rm hC1).trans hm1) rfl rfl ⟨by decide, by decide⟩ (Nat.le_of_ble_eq_true rfl) rfl rfl dL_law_554 ?_ hkR
  refine z_iload h 1 rfl dL_law_557 ?_
  refine z_icmp_eq h 564 dL_law_559 (by decide) (fun _ => ?_) (fun c9 => absurd rfl c9)
  refine z_iload h 1 rfl dL_law_564 ?_
  refine z_if_ne h 581 dL_law_566 (by decide) (fun c5 => ?_) (fun c5 => ?_)
  · refine z_goto h 1534 dL_law_581 (by decide) ?_
    exact z_sub [2, 3, 4, 5, 6] rfl kk
  · have hk0 : kc = 0 := law_0 hkc c5
    refine z_aload_n h 5 rfl dL_law_569 ?_
    refine z_iconst h (nI 0) (by decide +kernel) dL_law_570 ?_
    refine z_lald h 0 0 (f := F9) rfl rfl rfl (by decide) (by decide) dL_law_571 ?_
    refine z_iload h 0 rfl dL_law_572 ?_
    refine z_i2l h dL_law_574 ?_
    refine z_lcmp h dL_law_575 ?_
    refine z_if_eq h 581 dL_law_576 (by decide) (fun _ => ?_) (fun c9 => absurd (law_c (heq hk0)) c9)
    refine z_goto h 1534 dL_law_581 (by decide) ?_
    exact z_sub [2, 3, 4, 5, 6] rfl (kk)
set_option maxHeartbeats 4000000 in
set_option maxRecDepth 100000 in
/-- case recycle -/
theorem law_recycle {E : zE} (h : zC E RL cL_law eLaw 13 492 7) {b L : Nat} {xs : Nat → Int32} (hX : va_X b L xs (zs E) (zs E).heap) (hbl : b < (zs E).heap.size) (hbA : ¬ zAA E b) (hL : L ≤ 2560) {i : Nat} (hi : i + 5 ≤ L) {k n : Nat} (hk : k + 1 ≤ E.2.2.2.2.2.1.cells ∧ n + 6 ≤ E.2.2.2.2.2.1.slots) {qx qm bo : Nat} {C0 C1 M9 M1 : va_W} {fx fm fm1 : List Value} (hC0 : C0.length = 97) (hC1 : C1.length = 97) (hc0 : C0[0]? = some (qx, .inr (7, fx))) (hm0 : M9[0]? = some (qm, .inr (8, fm))) {F : Nat → Int64} {a9 : Int32} (hw : zM (zl E) (zy E) (zD E) yX9_recycle wsX9_recycle 5 164 [.ref qx] C0 C1 (some (.int a9))) (hm : zM (zl E) (zy E) (zD E) yX10_recycle wsX10_recycle 2 44 [.ref qm] M9 M1 (some (.int a9))) (kk : Z E (k + 1) (n + 6) [(0, .ref b), (1, .ref qx), (2, .ref qm), (3, .ref bo), (4, .int (nI i))] (zOu (zy E) bo F ++ (C1 ++ M1)) 1534 []) : Z E k n [(0, .ref b), (1, .ref qx), (2, .ref qm), (3, .ref bo), (4, .int (nI i))] (zOu (zy E) bo F ++ (C0 ++ M9)) 584 [] := by
  have hkR : k ≤ E.2.2.2.2.2.1.cells ∧ n ≤ E.2.2.2.2.2.1.slots := ⟨by omega, by omega⟩
  refine z_aload_n h 1 rfl dL_law_584 ?_
  refine z_wV h (As := []) (st := []) (ws2 := zOu (zy E) bo F ++ (C1 ++ M9)) (r := some (.int a9)) 0 (z_mid _ _ hw) egL_X9_recycle (q0 := 1) (ci := 7) (by decide +kernel) ((law_rx hC0).trans hc0) rfl rfl ⟨by decide, by decide⟩ (Nat.le_of_ble_eq_true rfl) rfl rfl dL_law_585 ?_ hkR
  refine z_aload_n h 2 rfl dL_law_588 ?_
  refine z_wV h (As := []) (st := [.int a9]) (ws2 := zOu (zy E) bo F ++ (C1 ++ M1)) (r := some (.int a9)) 0 (law_mo _ _ hm) egL_X10_recycle (q0 := 98) (ci := 8) (by decide +kernel) ((law_rm hC1).trans hm0) rfl rfl ⟨by decide, by decide⟩ (Nat.le_of_ble_eq_true rfl) rfl rfl dL_law_589 ?_ hkR
  refine z_icmp_eq h 1534 dL_law_592 (by decide) (fun _ => ?_) (fun c9 => absurd rfl c9)
  exact z_sub [0, 1, 2, 3, 4] rfl (z_widen (by omega) (by omega) kk)
set_option maxHeartbeats 4000000 in
set_option maxRecDepth 100000 in
/-- case hour -/
theorem law_hour_0 {E : zE} (h : zC E RL cL_law eLaw 13 492 7) {b L : Nat} {xs : Nat → Int32} (hX : va_X b L xs (zs E) (zs E).heap) (hbl : b < (zs E).heap.size) (hbA : ¬ zAA E b) (hL : L ≤ 2560) {i : Nat} (hi : i + 5 ≤ L) {k n : Nat} (hk : k + 1 ≤ E.2.2.2.2.2.1.cells ∧ n + 6 ≤ E.2.2.2.2.2.1.slots) {qx qm bo : Nat} (hz : xs (i + 1) = 0) {C0 C1 M9 M1 : va_W} {fx fm fm1 : List Value} (hC0 : C0.length = 97) (hC1 : C1.length = 97) (hc0 : C0[0]? = some (qx, .inr (7, fx))) (hm0 : M9[0]? = some (qm, .inr (8, fm))) {F : Nat → Int64} {a9 : Int32} (hw : zM (zl E) (zy E) (zD E) yX9_hour wsX9_hour 5 164 [.ref qx, .int (nI 0)] C0 C1 (some (.int a9))) (hm : zM (zl E) (zy E) (zD E) yX10_hour wsX10_hour 5 114 [.ref qm, .int (nI 0)] M9 M1 (some (.int a9))) (kk : Z E (k + 1) (n + 6) [(0, .ref b), (1, .ref qx), (2, .ref qm), (3, .ref bo), (4, .int (nI i))] (zOu (zy E) bo F ++ (C1 ++ M1)) 1534 []) : Z E k n [(0, .ref b), (1, .ref qx), (2, .ref qm), (3, .ref bo), (4, .int (nI i))] (zOu (zy E) bo F ++ (C0 ++ M9)) 597 [] := by
  have hkR : k ≤ E.2.2.2.2.2.1.cells ∧ n ≤ E.2.2.2.2.2.1.slots := ⟨by omega, by omega⟩
  refine z_aload_n h 1 rfl dL_law_597 ?_
  refine z_aload_n h 0 rfl dL_law_598 ?_
  refine z_iload h 4 rfl dL_law_599 ?_
  refine z_iconst h (nI 1) (by decide +kernel) dL_law_601 ?_
  refine z_iadd h dL_law_602 ?_
  refine z_top (nI (i + 1)) (nI_add i 1) ?_
  refine z_sld h hX hbl hbA (i := i + 1) (by omega) (by omega) dL_law_603 ?_
  refine z_if_eq h 611 dL_law_604 (by decide) (fun _ => ?_) (fun c9 => absurd hz c9)
  refine z_iconst h (nI 0) (by decide +kernel) dL_law_611 ?_
  refine z_wV h (As := [.int (nI 0)]) (st := []) (ws2 := zOu (zy E) bo F ++ (C1 ++ M9)) (r := some (.int a9)) 1 (z_mid _ _ hw) egL_X9_hour (q0 := 1) (ci := 7) (by decide +kernel) ((law_rx hC0).trans hc0) rfl rfl ⟨by decide, by decide⟩ (Nat.le_of_ble_eq_true rfl) rfl rfl dL_law_612 ?_ hkR
  refine z_aload_n h 2 rfl dL_law_615 ?_
  refine z_aload_n h 0 rfl dL_law_616 ?_
  refine z_iload h 4 rfl dL_law_617 ?_
  refine z_iconst h (nI 1) (by decide +kernel) dL_law_619 ?_
  refine z_iadd h dL_law_620 ?_
  refine z_top (nI (i + 1)) (nI_add i 1) ?_
  refine z_sld h hX hbl hbA (i := i + 1) (by omega) (by omega) dL_law_621 ?_
  refine z_if_eq h 629 dL_law_622 (by decide) (fun _ => ?_) (fun c9 => absurd hz c9)
  refine z_iconst h (nI 0) (by decide +kernel) dL_law_629 ?_
  refine z_wV h (As := [.int (nI 0)]) (st := [.int a9]) (ws2 := zOu (zy E) bo F ++ (C1 ++ M1)) (r := some (.int a9)) 1 (law_mo _ _ hm) egL_X10_hour (q0 := 98) (ci := 8) (by decide +kernel) ((law_rm hC1).trans hm0) rfl rfl ⟨by decide, by decide⟩ (Nat.le_of_ble_eq_true rfl) rfl rfl dL_law_630 ?_ hkR
  refine z_icmp_eq h 1534 dL_law_633 (by decide) (fun _ => ?_) (fun c9 => absurd rfl c9)
  exact z_sub [0, 1, 2, 3, 4] rfl (z_widen (by omega) (by omega) kk)
set_option maxHeartbeats 4000000 in
set_option maxRecDepth 100000 in
/-- case hour -/
theorem law_hour_1 {E : zE} (h : zC E RL cL_law eLaw 13 492 7) {b L : Nat} {xs : Nat → Int32} (hX : va_X b L xs (zs E) (zs E).heap) (hbl : b < (zs E).heap.size) (hbA : ¬ zAA E b) (hL : L ≤ 2560) {i : Nat} (hi : i + 5 ≤ L) {k n : Nat} (hk : k + 1 ≤ E.2.2.2.2.2.1.cells ∧ n + 6 ≤ E.2.2.2.2.2.1.slots) {qx qm bo : Nat} (hz : ¬ xs (i + 1) = 0) {C0 C1 M9 M1 : va_W} {fx fm fm1 : List Value} (hC0 : C0.length = 97) (hC1 : C1.length = 97) (hc0 : C0[0]? = some (qx, .inr (7, fx))) (hm0 : M9[0]? = some (qm, .inr (8, fm))) {F : Nat → Int64} {a9 : Int32} (hw : zM (zl E) (zy E) (zD E) yX9_hour wsX9_hour 5 164 [.ref qx, .int (nI 1)] C0 C1 (some (.int a9))) (hm : zM (zl E) (zy E) (zD E) yX10_hour wsX10_hour 5 114 [.ref qm, .int (nI 1)] M9 M1 (some (.int a9))) (kk : Z E (k + 1) (n + 6) [(0, .ref b), (1, .ref qx), (2, .ref qm), (3, .ref bo), (4, .int (nI i))] (zOu (zy E) bo F ++ (C1 ++ M1)) 1534 []) : Z E k n [(0, .ref b), (1, .ref qx), (2, .ref qm), (3, .ref bo), (4, .int (nI i))] (zOu (zy E) bo F ++ (C0 ++ M9)) 597 [] := by
  have hkR : k ≤ E.2.2.2.2.2.1.cells ∧ n ≤ E.2.2.2.2.2.1.slots := ⟨by omega, by omega⟩
  refine z_aload_n h 1 rfl dL_law_597 ?_
  refine z_aload_n h 0 rfl dL_law_598 ?_
  refine z_iload h 4 rfl dL_law_599 ?_
  refine z_iconst h (nI 1) (by decide +kernel) dL_law_601 ?_
  refine z_iadd h dL_law_602 ?_
  refine z_top (nI (i + 1)) (nI_add i 1) ?_
  refine z_sld h hX hbl hbA (i := i + 1) (by omega) (by omega) dL_law_603 ?_
  refine z_if_eq h 611 dL_law_604 (by decide) (fun c9 => absurd c9 hz) (fun _ => ?_)
  refine z_iconst h (nI 1) (by decide +kernel) dL_law_607 ?_
  refine z_goto h 612 dL_law_608 (by decide) ?_
  refine z_wV h (As := [.int (nI 1)]) (st := []) (ws2 := zOu (zy E) bo F ++ (C1 ++ M9)) (r := some (.int a9)) 1 (z_mid _ _ hw) egL_X9_hour (q0 := 1) (ci := 7) (by decide +kernel) ((law_rx hC0).trans hc0) rfl rfl ⟨by decide, by decide⟩ (Nat.le_of_ble_eq_true rfl) rfl rfl dL_law_612 ?_ hkR
  refine z_aload_n h 2 rfl dL_law_615 ?_
  refine z_aload_n h 0 rfl dL_law_616 ?_
  refine z_iload h 4 rfl dL_law_617 ?_
  refine z_iconst h (nI 1) (by decide +kernel) dL_law_619 ?_
  refine z_iadd h dL_law_620 ?_
  refine z_top (nI (i + 1)) (nI_add i 1) ?_
  refine z_sld h hX hbl hbA (i := i + 1) (by omega) (by omega) dL_law_621 ?_
  refine z_if_eq h 629 dL_law_622 (by decide) (fun c9 => absurd c9 hz) (fun _ => ?_)
  refine z_iconst h (nI 1) (by decide +kernel) dL_law_625 ?_
  refine z_goto h 630 dL_law_626 (by decide) ?_
  refine z_wV h (As := [.int (nI 1)]) (st := [.int a9]) (ws2 := zOu (zy E) bo F ++ (C1 ++ M1)) (r := some (.int a9)) 1 (law_mo _ _ hm) egL_X10_hour (q0 := 98) (ci := 8) (by decide +kernel) ((law_rm hC1).trans hm0) rfl rfl ⟨by decide, by decide⟩ (Nat.le_of_ble_eq_true rfl) rfl rfl dL_law_630 ?_ hkR
  refine z_icmp_eq h 1534 dL_law_633 (by decide) (fun _ => ?_) (fun c9 => absurd rfl c9)
  exact z_sub [0, 1, 2, 3, 4] rfl (z_widen (by omega) (by omega) kk)
