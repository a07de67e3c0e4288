/-! does, on -/
set_option maxHeartbeats 4000000 in
set_option maxRecDepth 100000 in
/-- does: D1 -/
theorem c_L_does_D1 {l : Launch} {y : zY} {D : va_G} (q : Nat → Nat) (a : Nat → Nat → Nat) (g t c o n : Nat → Nat → Int32) (S : Nat → Nat → Nat → Int32) (v : Int32) (s d u j : Nat) (hs : s < 8) (hd : d < 3) (hu : u < 99) (es : lowI (v >>> (nI 4 &&& 31)) (nI 8) = nI s) (ed : lowI (v >>> (nI 7 &&& 31)) (nI 3) = nI d) (eu : lowI (v >>> (nI 9 &&& 31)) (nI 99) = nI u) (ej : v &&& nI 15 = nI j) (hj : j = 9) (hA : nI 5 ≤ wvC g o 10) (hg : okH g) : zM l y D yL_does wsL_does 6 188 [.ref (q 0), .int v] (zCW y q a g t c o n S) (zCW y q a g t c o n S) (some (.int (nI 0))) := by
  refine z_start (own := RL) (cc := cL_does) (maxL := 5) (ret := (some .int)) rfl (by decide +kernel) rfl (Nat.le_of_ble_eq_true rfl) (zCW_fst _ _ _ _ _ _ _ _ _ _ _ _ _ _ _) ?_
  intro E hEl hEy hED h hf
  subst hEl hEy hED
  have hkR : 0 ≤ E.2.2.2.2.2.1.cells ∧ 0 ≤ E.2.2.2.2.2.1.slots := ⟨Nat.zero_le _, Nat.zero_le _⟩
  refine z_cast (lv := [(0, .ref (q 0)), (1, .int v)]) (ws := (zCW (zy E) q a g t c o n S)) (st := []) ?_ rfl rfl rfl
  refine z_iload_n h 1 rfl dL_does_0 ?_
  refine z_iconst h (nI 4) (by decide +kernel) dL_does_1 ?_
  refine z_ishr h dL_does_2 ?_
  refine z_bipush h (nI 8) (by decide +kernel) dL_does_3 ?_
  refine z_wS h (As := [.int (v >>> ((nI 4) &&& 31)), .int (nI 8)]) (st := []) (ws2 := zCW (zy E) q a g t c o n S) (r := some (.int (lowI (v >>> ((nI 4) &&& 31)) (nI 8)))) 2 (z_any _ (c_L_low (v >>> ((nI 4) &&& 31)) (nI 8) (by decide +kernel))) gL_does_L_low (by decide +kernel) rfl ⟨by decide, by decide⟩ (Nat.le_of_ble_eq_true rfl) rfl rfl dL_does_5 ?_ hkR
  refine z_top (nI s) es ?_
  refine z_istore_n h (by decide) (lv' := [(2, .int (nI s)), (0, .ref (q 0)), (1, .int v)]) rfl dL_does_8 ?_
  refine z_iload_n h 2 rfl dL_does_9 ?_
  refine z_bipush h (nI 7) (by decide +kernel) dL_does_10 ?_
  refine z_ishr h dL_does_12 ?_
  refine z_iconst h (nI 3) (by decide +kernel) dL_does_13 ?_
  refine z_wS h (As := [.int (v >>> ((nI 7) &&& 31)), .int (nI 3)]) (st := []) (ws2 := zCW (zy E) q a g t c o n S) (r := some (.int (lowI (v >>> ((nI 7) &&& 31)) (nI 3)))) 2 (z_any _ (c_L_low (v >>> ((nI 7) &&& 31)) (nI 3) (by decide +kernel))) gL_does_L_low (by decide +kernel) rfl ⟨by decide, by decide⟩ (Nat.le_of_ble_eq_true rfl) rfl rfl dL_does_14 ?_ hkR
  refine z_top (nI d) ed ?_
  refine z_istore_n h (by decide) (lv' := [(3, .int (nI d)), (2, .int (nI s)), (0, .ref (q 0)), (1, .int v)]) rfl dL_does_17 ?_
  refine z_iconst h (nI 1) (by decide +kernel) dL_does_18 ?_
  refine z_iload_n h 3 rfl dL_does_19 ?_
  refine z_bipush h (nI 9) (by decide +kernel) dL_does_20 ?_
  refine z_ishr h dL_does_22 ?_
  refine z_bipush h (nI 99) (by decide +kernel) dL_does_23 ?_
  refine z_wS h (As := [.int (v >>> ((nI 9) &&& 31)), .int (nI 99)]) (st := [.int (nI 1)]) (ws2 := zCW (zy E) q a g t c o n S) (r := some (.int (lowI (v >>> ((nI 9) &&& 31)) (nI 99)))) 2 (z_any _ (c_L_low (v >>> ((nI 9) &&& 31)) (nI 99) (by decide +kernel))) gL_does_L_low (by decide +kernel) rfl ⟨by decide, by decide⟩ (Nat.le_of_ble_eq_true rfl) rfl rfl dL_does_25 ?_ hkR
  refine z_top (nI u) eu ?_
  refine z_iadd h dL_does_28 ?_
  refine z_top (nI (1 + u)) (nI_add _ _) ?_
  refine z_istore h (by decide) (lv' := [(4, .int (nI (1 + u))), (3, .int (nI d)), (2, .int (nI s)), (0, .ref (q 0)), (1, .int v)]) rfl dL_does_29 ?_
  refine z_iload_n h 4 rfl dL_does_31 ?_
  refine z_bipush h (nI 15) (by decide +kernel) dL_does_32 ?_
  refine z_iand h dL_does_34 ?_
  refine z_top (nI j) ej ?_
  subst hj
  · refine z_tblIn h (off := 177) 212 dL_does_35 (by decide +kernel) (by decide +kernel) (by decide +kernel) (by decide) ?_
    refine z_aload_n h 3 rfl dL_does_212 ?_
    refine z_bipush h (nI 10) (by decide +kernel) dL_does_213 ?_
    refine z_wV h (As := [.int (nI 10)]) (st := []) (ws2 := zCW (zy E) q a g t c o n S) (r := some (.int (wvC g o 10))) 1 (c_X9_whole q a g t c o n S 10 (by omega) hg) gL_does_X9_whole (q0 := 0) (ci := 7) (by decide +kernel) rfl rfl rfl ⟨by decide, by decide⟩ (Nat.le_of_ble_eq_true rfl) rfl rfl dL_does_215 ?_ hkR
    refine z_iconst h (nI 5) (by decide +kernel) dL_does_218 ?_
    refine z_icmp_ge h 238 dL_does_219 (by decide) (fun c_219 => ?_) (fun c_219 => ?_)
    · refine z_iconst h (nI 0) (by decide +kernel) dL_does_238 ?_
      exact z_iret h hf rfl rfl rfl dL_does_239
    · exact absurd hA c_219

set_option maxHeartbeats 4000000 in
set_option maxRecDepth 100000 in
/-- does: E0 -/
theorem c_L_does_E0 {l : Launch} {y : zY} {D : va_G} (q : Nat → Nat) (a : Nat → Nat → Nat) (g t c o n : Nat → Nat → Int32) (S : Nat → Nat → Nat → Int32) (v : Int32) (s d u j : Nat) (hs : s < 8) (hd : d < 3) (hu : u < 99) (es : lowI (v >>> (nI 4 &&& 31)) (nI 8) = nI s) (ed : lowI (v >>> (nI 7 &&& 31)) (nI 3) = nI d) (eu : lowI (v >>> (nI 9 &&& 31)) (nI 99) = nI u) (ej : v &&& nI 15 = nI j) (hj : j = 10 ∨ j = 11) (k : Nat) (hk4 : k < 4) (hn4 : n 0 1 = nI k) (hA : ¬ wvC g o 10 ≤ 0) (hg : okH g) (hgt : okT g) (hca : caC g (nI 0) (nI s) (nI d) (nI (1 + u)) = nI 0) (hB : raG g 0 s d (nI (1 + u)) = 0) (h0 : crC g 0 s d (nI (1 + u)) = nI 0) : zM l y D yL_does wsL_does 6 188 [.ref (q 0), .int v] (zCW y q a g t c o n S) (zCW y q a (coG g 0 s d (nI (1 + u))) t c o (puN n (tpN k)) (zSs S (tpN k) (cpSa (S (tpN k)) g))) (some (.int (nI 0))) := by
  refine z_start (own := RL) (cc := cL_does) (maxL := 5) (ret := (some .int)) rfl (by decide +kernel) rfl (Nat.le_of_ble_eq_true rfl) (zCW_fst _ _ _ _ _ _ _ _ _ _ _ _ _ _ _) ?_
  intro E hEl hEy hED h hf
  subst hEl hEy hED
  have hkR : 0 ≤ E.2.2.2.2.2.1.cells ∧ 0 ≤ E.2.2.2.2.2.1.slots := ⟨Nat.zero_le _, Nat.zero_le _⟩
  refine z_cast (lv := [(0, .ref (q 0)), (1, .int v)]) (ws := (zCW (zy E) q a g t c o n S)) (st := []) ?_ rfl rfl rfl
  refine z_iload_n h 1 rfl dL_does_0 ?_
  refine z_iconst h (nI 4) (by decide +kernel) dL_does_1 ?_
  refine z_ishr h dL_does_2 ?_
  refine z_bipush h (nI 8) (by decide +kernel) dL_does_3 ?_
  refine z_wS h (As := [.int (v >>> ((nI 4) &&& 31)), .int (nI 8)]) (st := []) (ws2 := zCW (zy E) q a g t c o n S) (r := some (.int (lowI (v >>> ((nI 4) &&& 31)) (nI 8)))) 2 (z_any _ (c_L_low (v >>> ((nI 4) &&& 31)) (nI 8) (by decide +kernel))) gL_does_L_low (by decide +kernel) rfl ⟨by decide, by decide⟩ (Nat.le_of_ble_eq_true rfl) rfl rfl dL_does_5 ?_ hkR
  refine z_top (nI s) es ?_
  refine z_istore_n h (by decide) (lv' := [(2, .int (nI s)), (0, .ref (q 0)), (1, .int v)]) rfl dL_does_8 ?_
  refine z_iload_n h 2 rfl dL_does_9 ?_
  refine z_bipush h (nI 7) (by decide +kernel) dL_does_10 ?_
  refine z_ishr h dL_does_12 ?_
  refine z_iconst h (nI 3) (by decide +kernel) dL_does_13 ?_
  refine z_wS h (As := [.int (v >>> ((nI 7) &&& 31)), .int (nI 3)]) (st := []) (ws2 := zCW (zy E) q a g t c o n S) (r := some (.int (lowI (v >>> ((nI 7) &&& 31)) (nI 3)))) 2 (z_any _ (c_L_low (v >>> ((nI 7) &&& 31)) (nI 3) (by decide +kernel))) gL_does_L_low (by decide +kernel) rfl ⟨by decide, by decide⟩ (Nat.le_of_ble_eq_true rfl) rfl rfl dL_does_14 ?_ hkR
  refine z_top (nI d) ed ?_
  refine z_istore_n h (by decide) (lv' := [(3, .int (nI d)), (2, .int (nI s)), (0, .ref (q 0)), (1, .int v)]) rfl dL_does_17 ?_
  refine z_iconst h (nI 1) (by decide +kernel) dL_does_18 ?_
  refine z_iload_n h 3 rfl dL_does_19 ?_
  refine z_bipush h (nI 9) (by decide +kernel) dL_does_20 ?_
  refine z_ishr h dL_does_22 ?_
  refine z_bipush h (nI 99) (by decide +kernel) dL_does_23 ?_
  refine z_wS h (As := [.int (v >>> ((nI 9) &&& 31)), .int (nI 99)]) (st := [.int (nI 1)]) (ws2 := zCW (zy E) q a g t c o n S) (r := some (.int (lowI (v >>> ((nI 9) &&& 31)) (nI 99)))) 2 (z_any _ (c_L_low (v >>> ((nI 9) &&& 31)) (nI 99) (by decide +kernel))) gL_does_L_low (by decide +kernel) rfl ⟨by decide, by decide⟩ (Nat.le_of_ble_eq_true rfl) rfl rfl dL_does_25 ?_ hkR
  refine z_top (nI u) eu ?_
  refine z_iadd h dL_does_28 ?_
  refine z_top (nI (1 + u)) (nI_add _ _) ?_
  refine z_istore h (by decide) (lv' := [(4, .int (nI (1 + u))), (3, .int (nI d)), (2, .int (nI s)), (0, .ref (q 0)), (1, .int v)]) rfl dL_does_29 ?_
  refine z_iload_n h 4 rfl dL_does_31 ?_
  refine z_bipush h (nI 15) (by decide +kernel) dL_does_32 ?_
  refine z_iand h dL_does_34 ?_
  refine z_top (nI j) ej ?_
  rcases hj with rfl | rfl
  · refine z_tblIn h (off := 205) 240 dL_does_35 (by decide +kernel) (by decide +kernel) (by decide +kernel) (by decide) ?_
    refine z_aload_n h 3 rfl dL_does_240 ?_
    refine z_bipush h (nI 10) (by decide +kernel) dL_does_241 ?_
    refine z_wV h (As := [.int (nI 10)]) (st := []) (ws2 := zCW (zy E) q a g t c o n S) (r := some (.int (wvC g o 10))) 1 (c_X9_whole q a g t c o n S 10 (by omega) hg) gL_does_X9_whole (q0 := 0) (ci := 7) (by decide +kernel) rfl rfl rfl ⟨by decide, by decide⟩ (Nat.le_of_ble_eq_true rfl) rfl rfl dL_does_243 ?_ hkR
    refine z_if_le h 271 dL_does_246 (by decide) (fun c_246 => ?_) (fun c_246 => ?_)
    · exact absurd c_246 hA
    · refine z_aload_n h 3 rfl dL_does_249 ?_
      refine z_iconst h (nI 0) (by decide +kernel) dL_does_250 ?_
      refine z_iload_n h 2 rfl dL_does_251 ?_
      refine z_iload_n h 1 rfl dL_does_252 ?_
      refine z_iload h 0 rfl dL_does_253 ?_
      refine z_wV h (As := [.int (nI 0), .int (nI s), .int (nI d), .int (nI (1 + u))]) (st := []) (ws2 := zCW (zy E) q a g t c o n S) (r := some (.int (raG g 0 s d (nI (1 + u))))) 4 (c_X9_reason q a g t c o n S 0 s d (nI (1 + u)) (by omega) (by omega) (by omega) hca) gL_does_X9_reason (q0 := 0) (ci := 7) (by decide +kernel) rfl rfl rfl ⟨by decide, by decide⟩ (Nat.le_of_ble_eq_true rfl) rfl rfl dL_does_255 ?_ hkR
      refine z_if_ne h 271 dL_does_258 (by decide) (fun c_258 => ?_) (fun c_258 => ?_)
      · exact absurd hB c_258
      · refine z_aload_n h 3 rfl dL_does_261 ?_
        refine z_iconst h (nI 0) (by decide +kernel) dL_does_262 ?_
        refine z_iload_n h 2 rfl dL_does_263 ?_
        refine z_iload_n h 1 rfl dL_does_264 ?_
        refine z_iload h 0 rfl dL_does_265 ?_
        refine z_wV h (As := [.int (nI 0), .int (nI s), .int (nI d), .int (nI (1 + u))]) (st := []) (ws2 := zCW (zy E) q a (coG g 0 s d (nI (1 + u))) t c o (puN n (tpN k)) (zSs S (tpN k) (cpSa (S (tpN k)) g))) (r := some (.int (g 7 (s * 6 + d) - (nI (1 + u))))) 4 (c_X9_carve q a g t c o n S 0 s d (nI (1 + u)) (by omega) (by omega) (by omega) hg hgt h0 k hk4 hn4) gL_does_X9_carve (q0 := 0) (ci := 7) (by decide +kernel) rfl rfl rfl ⟨by decide, by decide⟩ (Nat.le_of_ble_eq_true rfl) rfl rfl dL_does_267 ?_ hkR
        refine z_pop h dL_does_270 rfl ?_
        refine z_iconst h (nI 0) (by decide +kernel) dL_does_271 ?_
        exact z_iret h hf rfl rfl rfl dL_does_272
  · refine z_tblIn h (off := 205) 240 dL_does_35 (by decide +kernel) (by decide +kernel) (by decide +kernel) (by decide) ?_
    refine z_aload_n h 3 rfl dL_does_240 ?_
    refine z_bipush h (nI 10) (by decide +kernel) dL_does_241 ?_
    refine z_wV h (As := [.int (nI 10)]) (st := []) (ws2 := zCW (zy E) q a g t c o n S) (r := some (.int (wvC g o 10))) 1 (c_X9_whole q a g t c o n S 10 (by omega) hg) gL_does_X9_whole (q0 := 0) (ci := 7) (by decide +kernel) rfl rfl rfl ⟨by decide, by decide⟩ (Nat.le_of_ble_eq_true rfl) rfl rfl dL_does_243 ?_ hkR
    refine z_if_le h 271 dL_does_246 (by decide) (fun c_246 => ?_) (fun c_246 => ?_)
    · exact absurd c_246 hA
    · refine z_aload_n h 3 rfl dL_does_249 ?_
      refine z_iconst h (nI 0) (by decide +kernel) dL_does_250 ?_
      refine z_iload_n h 2 rfl dL_does_251 ?_
      refine z_iload_n h 1 rfl dL_does_252 ?_
      refine z_iload h 0 rfl dL_does_253 ?_
      refine z_wV h (As := [.int (nI 0), .int (nI s), .int (nI d), .int (nI (1 + u))]) (st := []) (ws2 := zCW (zy E) q a g t c o n S) (r := some (.int (raG g 0 s d (nI (1 + u))))) 4 (c_X9_reason q a g t c o n S 0 s d (nI (1 + u)) (by omega) (by omega) (by omega) hca) gL_does_X9_reason (q0 := 0) (ci := 7) (by decide +kernel) rfl rfl rfl ⟨by decide, by decide⟩ (Nat.le_of_ble_eq_true rfl) rfl rfl dL_does_255 ?_ hkR
      refine z_if_ne h 271 dL_does_258 (by decide) (fun c_258 => ?_) (fun c_258 => ?_)
      · exact absurd hB c_258
      · refine z_aload_n h 3 rfl dL_does_261 ?_
        refine z_iconst h (nI 0) (by decide +kernel) dL_does_262 ?_
        refine z_iload_n h 2 rfl dL_does_263 ?_
        refine z_iload_n h 1 rfl dL_does_264 ?_
        refine z_iload h 0 rfl dL_does_265 ?_
        refine z_wV h (As := [.int (nI 0), .int (nI s), .int (nI d), .int (nI (1 + u))]) (st := []) (ws2 := zCW (zy E) q a (coG g 0 s d (nI (1 + u))) t c o (puN n (tpN k)) (zSs S (tpN k) (cpSa (S (tpN k)) g))) (r := some (.int (g 7 (s * 6 + d) - (nI (1 + u))))) 4 (c_X9_carve q a g t c o n S 0 s d (nI (1 + u)) (by omega) (by omega) (by omega) hg hgt h0 k hk4 hn4) gL_does_X9_carve (q0 := 0) (ci := 7) (by decide +kernel) rfl rfl rfl ⟨by decide, by decide⟩ (Nat.le_of_ble_eq_true rfl) rfl rfl dL_does_267 ?_ hkR
        refine z_pop h dL_does_270 rfl ?_
        refine z_iconst h (nI 0) (by decide +kernel) dL_does_271 ?_
        exact z_iret h hf rfl rfl rfl dL_does_272

set_option maxHeartbeats 4000000 in
set_option maxRecDepth 100000 in
/-- does: E1 -/
theorem c_L_does_E1 {l : Launch} {y : zY} {D : va_G} (q : Nat → Nat) (a : Nat → Nat → Nat) (g t c o n : Nat → Nat → Int32) (S : Nat → Nat → Nat → Int32) (v : Int32) (s d u j : Nat) (hs : s < 8) (hd : d < 3) (hu : u < 99) (es : lowI (v >>> (nI 4 &&& 31)) (nI 8) = nI s) (ed : lowI (v >>> (nI 7 &&& 31)) (nI 3) = nI d) (eu : lowI (v >>> (nI 9 &&& 31)) (nI 99) = nI u) (ej : v &&& nI 15 = nI j) (hj : j = 10 ∨ j = 11) (hA : wvC g o 10 ≤ 0) (hg : okH g) : zM l y D yL_does wsL_does 6 188 [.ref (q 0), .int v] (zCW y q a g t c o n S) (zCW y q a g t c o n S) (some (.int (nI 0))) := by
  refine z_start (own := RL) (cc := cL_does) (maxL := 5) (ret := (some .int)) rfl (by decide +kernel) rfl (Nat.le_of_ble_eq_true rfl) (zCW_fst _ _ _ _ _ _ _ _ _ _ _ _ _ _ _) ?_
  intro E hEl hEy hED h hf
  subst hEl hEy hED
  have hkR : 0 ≤ E.2.2.2.2.2.1.cells ∧ 0 ≤ E.2.2.2.2.2.1.slots := ⟨Nat.zero_le _, Nat.zero_le _⟩
  refine z_cast (lv := [(0, .ref (q 0)), (1, .int v)]) (ws := (zCW (zy E) q a g t c o n S)) (st := []) ?_ rfl rfl rfl
  refine z_iload_n h 1 rfl dL_does_0 ?_
  refine z_iconst h (nI 4) (by decide +kernel) dL_does_1 ?_
  refine z_ishr h dL_does_2 ?_
  refine z_bipush h (nI 8) (by decide +kernel) dL_does_3 ?_
  refine z_wS h (As := [.int (v >>> ((nI 4) &&& 31)), .int (nI 8)]) (st := []) (ws2 := zCW (zy E) q a g t c o n S) (r := some (.int (lowI (v >>> ((nI 4) &&& 31)) (nI 8)))) 2 (z_any _ (c_L_low (v >>> ((nI 4) &&& 31)) (nI 8) (by decide +kernel))) gL_does_L_low (by decide +kernel) rfl ⟨by decide, by decide⟩ (Nat.le_of_ble_eq_true rfl) rfl rfl dL_does_5 ?_ hkR
  refine z_top (nI s) es ?_
  refine z_istore_n h (by decide) (lv' := [(2, .int (nI s)), (0, .ref (q 0)), (1, .int v)]) rfl dL_does_8 ?_
  refine z_iload_n h 2 rfl dL_does_9 ?_
  refine z_bipush h (nI 7) (by decide +kernel) dL_does_10 ?_
  refine z_ishr h dL_does_12 ?_
  refine z_iconst h (nI 3) (by decide +kernel) dL_does_13 ?_
  refine z_wS h (As := [.int (v >>> ((nI 7) &&& 31)), .int (nI 3)]) (st := []) (ws2 := zCW (zy E) q a g t c o n S) (r := some (.int (lowI (v >>> ((nI 7) &&& 31)) (nI 3)))) 2 (z_any _ (c_L_low (v >>> ((nI 7) &&& 31)) (nI 3) (by decide +kernel))) gL_does_L_low (by decide +kernel) rfl ⟨by decide, by decide⟩ (Nat.le_of_ble_eq_true rfl) rfl rfl dL_does_14 ?_ hkR
  refine z_top (nI d) ed ?_
  refine z_istore_n h (by decide) (lv' := [(3, .int (nI d)), (2, .int (nI s)), (0, .ref (q 0)), (1, .int v)]) rfl dL_does_17 ?_
  refine z_iconst h (nI 1) (by decide +kernel) dL_does_18 ?_
  refine z_iload_n h 3 rfl dL_does_19 ?_
  refine z_bipush h (nI 9) (by decide +kernel) dL_does_20 ?_
  refine z_ishr h dL_does_22 ?_
  refine z_bipush h (nI 99) (by decide +kernel) dL_does_23 ?_
  refine z_wS h (As := [.int (v >>> ((nI 9) &&& 31)), .int (nI 99)]) (st := [.int (nI 1)]) (ws2 := zCW (zy E) q a g t c o n S) (r := some (.int (lowI (v >>> ((nI 9) &&& 31)) (nI 99)))) 2 (z_any _ (c_L_low (v >>> ((nI 9) &&& 31)) (nI 99) (by decide +kernel))) gL_does_L_low (by decide +kernel) rfl ⟨by decide, by decide⟩ (Nat.le_of_ble_eq_true rfl) rfl rfl dL_does_25 ?_ hkR
  refine z_top (nI u) eu ?_
  refine z_iadd h dL_does_28 ?_
  refine z_top (nI (1 + u)) (nI_add _ _) ?_
  refine z_istore h (by decide) (lv' := [(4, .int (nI (1 + u))), (3, .int (nI d)), (2, .int (nI s)), (0, .ref (q 0)), (1, .int v)]) rfl dL_does_29 ?_
  refine z_iload_n h 4 rfl dL_does_31 ?_
  refine z_bipush h (nI 15) (by decide +kernel) dL_does_32 ?_
  refine z_iand h dL_does_34 ?_
  refine z_top (nI j) ej ?_
  rcases hj with rfl | rfl
  · refine z_tblIn h (off := 205) 240 dL_does_35 (by decide +kernel) (by decide +kernel) (by decide +kernel) (by decide) ?_
    refine z_aload_n h 3 rfl dL_does_240 ?_
    refine z_bipush h (nI 10) (by decide +kernel) dL_does_241 ?_
    refine z_wV h (As := [.int (nI 10)]) (st := []) (ws2 := zCW (zy E) q a g t c o n S) (r := some (.int (wvC g o 10))) 1 (c_X9_whole q a g t c o n S 10 (by omega) hg) gL_does_X9_whole (q0 := 0) (ci := 7) (by decide +kernel) rfl rfl rfl ⟨by decide, by decide⟩ (Nat.le_of_ble_eq_true rfl) rfl rfl dL_does_243 ?_ hkR
    refine z_if_le h 271 dL_does_246 (by decide) (fun c_246 => ?_) (fun c_246 => ?_)
    · refine z_iconst h (nI 0) (by decide +kernel) dL_does_271 ?_
      exact z_iret h hf rfl rfl rfl dL_does_272
    · exact absurd hA c_246
  · refine z_tblIn h (off := 205) 240 dL_does_35 (by decide +kernel) (by decide +kernel) (by decide +kernel) (by decide) ?_
    refine z_aload_n h 3 rfl dL_does_240 ?_
    refine z_bipush h (nI 10) (by decide +kernel) dL_does_241 ?_
    refine z_wV h (As := [.int (nI 10)]) (st := []) (ws2 := zCW (zy E) q a g t c o n S) (r := some (.int (wvC g o 10))) 1 (c_X9_whole q a g t c o n S 10 (by omega) hg) gL_does_X9_whole (q0 := 0) (ci := 7) (by decide +kernel) rfl rfl rfl ⟨by decide, by decide⟩ (Nat.le_of_ble_eq_true rfl) rfl rfl dL_does_243 ?_ hkR
    refine z_if_le h 271 dL_does_246 (by decide) (fun c_246 => ?_) (fun c_246 => ?_)
    · refine z_iconst h (nI 0) (by decide +kernel) dL_does_271 ?_
      exact z_iret h hf rfl rfl rfl dL_does_272
    · exact absurd hA c_246

set_option maxHeartbeats 4000000 in
set_option maxRecDepth 100000 in
/-- does: E2 -/
theorem c_L_does_E2 {l : Launch} {y : zY} {D : va_G} (q : Nat → Nat) (a : Nat → Nat → Nat) (g t c o n : Nat → Nat → Int32) (S : Nat → Nat → Nat → Int32) (v : Int32) (s d u j : Nat) (hs : s < 8) (hd : d < 3) (hu : u < 99) (es : lowI (v >>> (nI 4 &&& 31)) (nI 8) = nI s) (ed : lowI (v >>> (nI 7 &&& 31)) (nI 3) = nI d) (eu : lowI (v >>> (nI 9 &&& 31)) (nI 99) = nI u) (ej : v &&& nI 15 = nI j) (hj : j = 10 ∨ j = 11) (hA : ¬ wvC g o 10 ≤ 0) (hg : okH g) (hca : caC g (nI 0) (nI s) (nI d) (nI (1 + u)) = nI 0) (hB : ¬ raG g 0 s d (nI (1 + u)) = 0) : zM l y D yL_does wsL_does 6 188 [.ref (q 0), .int v] (zCW y q a g t c o n S) (zCW y q a g t c o n S) (some (.int (nI 0))) := by
  refine z_start (own := RL) (cc := cL_does) (maxL := 5) (ret := (some .int)) rfl (by decide +kernel) rfl (Nat.le_of_ble_eq_true rfl) (zCW_fst _ _ _ _ _ _ _ _ _ _ _ _ _ _ _) ?_
  intro E hEl hEy hED h hf
  subst hEl hEy hED
  have hkR : 0 ≤ E.2.2.2.2.2.1.cells ∧ 0 ≤ E.2.2.2.2.2.1.slots := ⟨Nat.zero_le _, Nat.zero_le _⟩
  refine z_cast (lv := [(0, .ref (q 0)), (1, .int v)]) (ws := (zCW (zy E) q a g t c o n S)) (st := []) ?_ rfl rfl rfl
  refine z_iload_n h 1 rfl dL_does_0 ?_
  refine z_iconst h (nI 4) (by decide +kernel) dL_does_1 ?_
  refine z_ishr h dL_does_2 ?_
  refine z_bipush h (nI 8) (by decide +kernel) dL_does_3 ?_
  refine z_wS h (As := [.int (v >>> ((nI 4) &&& 31)), .int (nI 8)]) (st := []) (ws2 := zCW (zy E) q a g t c o n S) (r := some (.int (lowI (v >>> ((nI 4) &&& 31)) (nI 8)))) 2 (z_any _ (c_L_low (v >>> ((nI 4) &&& 31)) (nI 8) (by decide +kernel))) gL_does_L_low (by decide +kernel) rfl ⟨by decide, by decide⟩ (Nat.le_of_ble_eq_true rfl) rfl rfl dL_does_5 ?_ hkR
  refine z_top (nI s) es ?_
  refine z_istore_n h (by decide) (lv' := [(2, .int (nI s)), (0, .ref (q 0)), (1, .int v)]) rfl dL_does_8 ?_
  refine z_iload_n h 2 rfl dL_does_9 ?_
  refine z_bipush h (nI 7) (by decide +kernel) dL_does_10 ?_
  refine z_ishr h dL_does_12 ?_
  refine z_iconst h (nI 3) (by decide +kernel) dL_does_13 ?_
  refine z_wS h (As := [.int (v >>> ((nI 7) &&& 31)), .int (nI 3)]) (st := []) (ws2 := zCW (zy E) q a g t c o n S) (r := some (.int (lowI (v >>> ((nI 7) &&& 31)) (nI 3)))) 2 (z_any _ (c_L_low (v >>> ((nI 7) &&& 31)) (nI 3) (by decide +kernel))) gL_does_L_low (by decide +kernel) rfl ⟨by decide, by decide⟩ (Nat.le_of_ble_eq_true rfl) rfl rfl dL_does_14 ?_ hkR
  refine z_top (nI d) ed ?_
  refine z_istore_n h (by decide) (lv' := [(3, .int (nI d)), (2, .int (nI s)), (0, .ref (q 0)), (1, .int v)]) rfl dL_does_17 ?_
  refine z_iconst h (nI 1) (by decide +kernel) dL_does_18 ?_
  refine z_iload_n h 3 rfl dL_does_19 ?_
  refine z_bipush h (nI 9) (by decide +kernel) dL_does_20 ?_
  refine z_ishr h dL_does_22 ?_
  refine z_bipush h (nI 99) (by decide +kernel) dL_does_23 ?_
  refine z_wS h (As := [.int (v >>> ((nI 9) &&& 31)), .int (nI 99)]) (st := [.int (nI 1)]) (ws2 := zCW (zy E) q a g t c o n S) (r := some (.int (lowI (v >>> ((nI 9) &&& 31)) (nI 99)))) 2 (z_any _ (c_L_low (v >>> ((nI 9) &&& 31)) (nI 99) (by decide +kernel))) gL_does_L_low (by decide +kernel) rfl ⟨by decide, by decide⟩ (Nat.le_of_ble_eq_true rfl) rfl rfl dL_does_25 ?_ hkR
  refine z_top (nI u) eu ?_
  refine z_iadd h dL_does_28 ?_
  refine z_top (nI (1 + u)) (nI_add _ _) ?_
  refine z_istore h (by decide) (lv' := [(4, .int (nI (1 + u))), (3, .int (nI d)), (2, .int (nI s)), (0, .ref (q 0)), (1, .int v)]) rfl dL_does_29 ?_
  refine z_iload_n h 4 rfl dL_does_31 ?_
  refine z_bipush h (nI 15) (by decide +kernel) dL_does_32 ?_
  refine z_iand h dL_does_34 ?_
  refine z_top (nI j) ej ?_
  rcases hj with rfl | rfl
  · refine z_tblIn h (off := 205) 240 dL_does_35 (by decide +kernel) (by decide +kernel) (by decide +kernel) (by decide) ?_
    refine z_aload_n h 3 rfl dL_does_240 ?_
    refine z_bipush h (nI 10) (by decide +kernel) dL_does_241 ?_
    refine z_wV h (As := [.int (nI 10)]) (st := []) (ws2 := zCW (zy E) q a g t c o n S) (r := some (.int (wvC g o 10))) 1 (c_X9_whole q a g t c o n S 10 (by omega) hg) gL_does_X9_whole (q0 := 0) (ci := 7) (by decide +kernel) rfl rfl rfl ⟨by decide, by decide⟩ (Nat.le_of_ble_eq_true rfl) rfl rfl dL_does_243 ?_ hkR
    refine z_if_le h 271 dL_does_246 (by decide) (fun c_246 => ?_) (fun c_246 => ?_)
    · exact absurd c_246 hA
    · refine z_aload_n h 3 rfl dL_does_249 ?_
      refine z_iconst h (nI 0) (by decide +kernel) dL_does_250 ?_
      refine z_iload_n h 2 rfl dL_does_251 ?_
      refine z_iload_n h 1 rfl dL_does_252 ?_
      refine z_iload h 0 rfl dL_does_253 ?_
      refine z_wV h (As := [.int (nI 0), .int (nI s), .int (nI d), .int (nI (1 + u))]) (st := []) (ws2 := zCW (zy E) q a g t c o n S) (r := some (.int (raG g 0 s d (nI (1 + u))))) 4 (c_X9_reason q a g t c o n S 0 s d (nI (1 + u)) (by omega) (by omega) (by omega) hca) gL_does_X9_reason (q0 := 0) (ci := 7) (by decide +kernel) rfl rfl rfl ⟨by decide, by decide⟩ (Nat.le_of_ble_eq_true rfl) rfl rfl dL_does_255 ?_ hkR
      refine z_if_ne h 271 dL_does_258 (by decide) (fun c_258 => ?_) (fun c_258 => ?_)
      · refine z_iconst h (nI 0) (by decide +kernel) dL_does_271 ?_
        exact z_iret h hf rfl rfl rfl dL_does_272
      · exact absurd c_258 hB
  · refine z_tblIn h (off := 205) 240 dL_does_35 (by decide +kernel) (by decide +kernel) (by decide +kernel) (by decide) ?_
    refine z_aload_n h 3 rfl dL_does_240 ?_
    refine z_bipush h (nI 10) (by decide +kernel) dL_does_241 ?_
    refine z_wV h (As := [.int (nI 10)]) (st := []) (ws2 := zCW (zy E) q a g t c o n S) (r := some (.int (wvC g o 10))) 1 (c_X9_whole q a g t c o n S 10 (by omega) hg) gL_does_X9_whole (q0 := 0) (ci := 7) (by decide +kernel) rfl rfl rfl ⟨by decide, by decide⟩ (Nat.le_of_ble_eq_true rfl) rfl rfl dL_does_243 ?_ hkR
    refine z_if_le h 271 dL_does_246 (by decide) (fun c_246 => ?_) (fun c_246 => ?_)
    · exact absurd c_246 hA
    · refine z_aload_n h 3 rfl dL_does_249 ?_
      refine z_iconst h (nI 0) (by decide +kernel) dL_does_250 ?_
      refine z_iload_n h 2 rfl dL_does_251 ?_
      refine z_iload_n h 1 rfl dL_does_252 ?_
      refine z_iload h 0 rfl dL_does_253 ?_
      refine z_wV h (As := [.int (nI 0), .int (nI s), .int (nI d), .int (nI (1 + u))]) (st := []) (ws2 := zCW (zy E) q a g t c o n S) (r := some (.int (raG g 0 s d (nI (1 + u))))) 4 (c_X9_reason q a g t c o n S 0 s d (nI (1 + u)) (by omega) (by omega) (by omega) hca) gL_does_X9_reason (q0 := 0) (ci := 7) (by decide +kernel) rfl rfl rfl ⟨by decide, by decide⟩ (Nat.le_of_ble_eq_true rfl) rfl rfl dL_does_255 ?_ hkR
      refine z_if_ne h 271 dL_does_258 (by decide) (fun c_258 => ?_) (fun c_258 => ?_)
      · refine z_iconst h (nI 0) (by decide +kernel) dL_does_271 ?_
        exact z_iret h hf rfl rfl rfl dL_does_272
      · exact absurd c_258 hB

set_option maxHeartbeats 4000000 in
set_option maxRecDepth 100000 in
/-- does: F0 -/
theorem c_L_does_F0 {l : Launch} {y : zY} {D : va_G} (q : Nat → Nat) (a : Nat → Nat → Nat) (g t c o n : Nat → Nat → Int32) (S : Nat → Nat → Nat → Int32) (v : Int32) (s d u j : Nat) (hs : s < 8) (hd : d < 3) (hu : u < 99) (es : lowI (v >>> (nI 4 &&& 31)) (nI 8) = nI s) (ed : lowI (v >>> (nI 7 &&& 31)) (nI 3) = nI d) (eu : lowI (v >>> (nI 9 &&& 31)) (nI 99) = nI u) (ej : v &&& nI 15 = nI j) (hj : j = 12) (k : Nat) (hk4 : k < 4) (hn4 : n 0 1 = nI k)  : zM l y D yL_does wsL_does 6 188 [.ref (q 0), .int v] (zCW y q a g t c o n S) (zCW y q a (obG g) t c o (puN n (tpN k)) (zSs S (tpN k) (cpSa (S (tpN k)) g))) (some (.int (nI 0))) := by
  refine z_start (own := RL) (cc := cL_does) (maxL := 5) (ret := (some .int)) rfl (by decide +kernel) rfl (Nat.le_of_ble_eq_true rfl) (zCW_fst _ _ _ _ _ _ _ _ _ _ _ _ _ _ _) ?_
  intro E hEl hEy hED h hf
  subst hEl hEy hED
  have hkR : 0 ≤ E.2.2.2.2.2.1.cells ∧ 0 ≤ E.2.2.2.2.2.1.slots := ⟨Nat.zero_le _, Nat.zero_le _⟩
  refine z_cast (lv := [(0, .ref (q 0)), (1, .int v)]) (ws := (zCW (zy E) q a g t c o n S)) (st := []) ?_ rfl rfl rfl
  refine z_iload_n h 1 rfl dL_does_0 ?_
  refine z_iconst h (nI 4) (by decide +kernel) dL_does_1 ?_
  refine z_ishr h dL_does_2 ?_
  refine z_bipush h (nI 8) (by decide +kernel) dL_does_3 ?_
  refine z_wS h (As := [.int (v >>> ((nI 4) &&& 31)), .int (nI 8)]) (st := []) (ws2 := zCW (zy E) q a g t c o n S) (r := some (.int (lowI (v >>> ((nI 4) &&& 31)) (nI 8)))) 2 (z_any _ (c_L_low (v >>> ((nI 4) &&& 31)) (nI 8) (by decide +kernel))) gL_does_L_low (by decide +kernel) rfl ⟨by decide, by decide⟩ (Nat.le_of_ble_eq_true rfl) rfl rfl dL_does_5 ?_ hkR
  refine z_top (nI s) es ?_
  refine z_istore_n h (by decide) (lv' := [(2, .int (nI s)), (0, .ref (q 0)), (1, .int v)]) rfl dL_does_8 ?_
  refine z_iload_n h 2 rfl dL_does_9 ?_
  refine z_bipush h (nI 7) (by decide +kernel) dL_does_10 ?_
  refine z_ishr h dL_does_12 ?_
  refine z_iconst h (nI 3) (by decide +kernel) dL_does_13 ?_
  refine z_wS h (As := [.int (v >>> ((nI 7) &&& 31)), .int (nI 3)]) (st := []) (ws2 := zCW (zy E) q a g t c o n S) (r := some (.int (lowI (v >>> ((nI 7) &&& 31)) (nI 3)))) 2 (z_any _ (c_L_low (v >>> ((nI 7) &&& 31)) (nI 3) (by decide +kernel))) gL_does_L_low (by decide +kernel) rfl ⟨by decide, by decide⟩ (Nat.le_of_ble_eq_true rfl) rfl rfl dL_does_14 ?_ hkR
  refine z_top (nI d) ed ?_
  refine z_istore_n h (by decide) (lv' := [(3, .int (nI d)), (2, .int (nI s)), (0, .ref (q 0)), (1, .int v)]) rfl dL_does_17 ?_
  refine z_iconst h (nI 1) (by decide +kernel) dL_does_18 ?_
  refine z_iload_n h 3 rfl dL_does_19 ?_
  refine z_bipush h (nI 9) (by decide +kernel) dL_does_20 ?_
  refine z_ishr h dL_does_22 ?_
  refine z_bipush h (nI 99) (by decide +kernel) dL_does_23 ?_
  refine z_wS h (As := [.int (v >>> ((nI 9) &&& 31)), .int (nI 99)]) (st := [.int (nI 1)]) (ws2 := zCW (zy E) q a g t c o n S) (r := some (.int (lowI (v >>> ((nI 9) &&& 31)) (nI 99)))) 2 (z_any _ (c_L_low (v >>> ((nI 9) &&& 31)) (nI 99) (by decide +kernel))) gL_does_L_low (by decide +kernel) rfl ⟨by decide, by decide⟩ (Nat.le_of_ble_eq_true rfl) rfl rfl dL_does_25 ?_ hkR
  refine z_top (nI u) eu ?_
  refine z_iadd h dL_does_28 ?_
  refine z_top (nI (1 + u)) (nI_add _ _) ?_
  refine z_istore h (by decide) (lv' := [(4, .int (nI (1 + u))), (3, .int (nI d)), (2, .int (nI s)), (0, .ref (q 0)), (1, .int v)]) rfl dL_does_29 ?_
  refine z_iload_n h 4 rfl dL_does_31 ?_
  refine z_bipush h (nI 15) (by decide +kernel) dL_does_32 ?_
  refine z_iand h dL_does_34 ?_
  refine z_top (nI j) ej ?_
  subst hj
  · refine z_tblIn h (off := 238) 273 dL_does_35 (by decide +kernel) (by decide +kernel) (by decide +kernel) (by decide) ?_
    refine z_aload_n h 3 rfl dL_does_273 ?_
    refine z_wV h (As := []) (st := []) (ws2 := zCW (zy E) q a (obG g) t c o (puN n (tpN k)) (zSs S (tpN k) (cpSa (S (tpN k)) g))) (r := some (.int (obU g))) 0 (c_X9_recycle q a g t c o n S k hk4 hn4) gL_does_X9_recycle (q0 := 0) (ci := 7) (by decide +kernel) rfl rfl rfl ⟨by decide, by decide⟩ (Nat.le_of_ble_eq_true rfl) rfl rfl dL_does_274 ?_ hkR
    refine z_iconst h (nI 0) (by decide +kernel) dL_does_277 ?_
    refine z_imul h dL_does_278 ?_
    refine z_top (nI 0) Int32.mul_zero ?_
    exact z_iret h hf rfl rfl rfl dL_does_279

set_option maxHeartbeats 4000000 in
set_option maxRecDepth 100000 in
/-- does: G0 -/
theorem c_L_does_G0 {l : Launch} {y : zY} {D : va_G} (q : Nat → Nat) (a : Nat → Nat → Nat) (g t c o n : Nat → Nat → Int32) (S : Nat → Nat → Nat → Int32) (v : Int32) (s d u j : Nat) (hs : s < 8) (hd : d < 3) (hu : u < 99) (es : lowI (v >>> (nI 4 &&& 31)) (nI 8) = nI s) (ed : lowI (v >>> (nI 7 &&& 31)) (nI 3) = nI d) (eu : lowI (v >>> (nI 9 &&& 31)) (nI 99) = nI u) (ej : v &&& nI 15 = nI j) (hj : j = 13) (k : Nat) (hk4 : k < 4) (hn4 : n 0 1 = nI k) (hA : ¬ nI 20 ≤ wvC g o 14) (hg : okH g) (hgb20 : g 0 7 = nI (zb g) ∧ zb g < 20) (h0 : baC g (nI s) (nI ((s + 1 + d) % 8)) (-1) = nI 0) : zM l y D yL_does wsL_does 6 188 [.ref (q 0), .int v] (zCW y q a g t c o n S) (zCW y q a (baG g (nI s) (nI ((s + 1 + d) % 8)) (-1)) t c o (puN n (tpN k)) (zSs S (tpN k) (cpSa (S (tpN k)) g))) (some (.int (nI 0))) := by
  refine z_start (own := RL) (cc := cL_does) (maxL := 5) (ret := (some .int)) rfl (by decide +kernel) rfl (Nat.le_of_ble_eq_true rfl) (zCW_fst _ _ _ _ _ _ _ _ _ _ _ _ _ _ _) ?_
  intro E hEl hEy hED h hf
  subst hEl hEy hED
  have hkR : 0 ≤ E.2.2.2.2.2.1.cells ∧ 0 ≤ E.2.2.2.2.2.1.slots := ⟨Nat.zero_le _, Nat.zero_le _⟩
  refine z_cast (lv := [(0, .ref (q 0)), (1, .int v)]) (ws := (zCW (zy E) q a g t c o n S)) (st := []) ?_ rfl rfl rfl
  refine z_iload_n h 1 rfl dL_does_0 ?_
  refine z_iconst h (nI 4) (by decide +kernel) dL_does_1 ?_
  refine z_ishr h dL_does_2 ?_
  refine z_bipush h (nI 8) (by decide +kernel) dL_does_3 ?_
  refine z_wS h (As := [.int (v >>> ((nI 4) &&& 31)), .int (nI 8)]) (st := []) (ws2 := zCW (zy E) q a g t c o n S) (r := some (.int (lowI (v >>> ((nI 4) &&& 31)) (nI 8)))) 2 (z_any _ (c_L_low (v >>> ((nI 4) &&& 31)) (nI 8) (by decide +kernel))) gL_does_L_low (by decide +kernel) rfl ⟨by decide, by decide⟩ (Nat.le_of_ble_eq_true rfl) rfl rfl dL_does_5 ?_ hkR
  refine z_top (nI s) es ?_
  refine z_istore_n h (by decide) (lv' := [(2, .int (nI s)), (0, .ref (q 0)), (1, .int v)]) rfl dL_does_8 ?_
  refine z_iload_n h 2 rfl dL_does_9 ?_
  refine z_bipush h (nI 7) (by decide +kernel) dL_does_10 ?_
  refine z_ishr h dL_does_12 ?_
  refine z_iconst h (nI 3) (by decide +kernel) dL_does_13 ?_
  refine z_wS h (As := [.int (v >>> ((nI 7) &&& 31)), .int (nI 3)]) (st := []) (ws2 := zCW (zy E) q a g t c o n S) (r := some (.int (lowI (v >>> ((nI 7) &&& 31)) (nI 3)))) 2 (z_any _ (c_L_low (v >>> ((nI 7) &&& 31)) (nI 3) (by decide +kernel))) gL_does_L_low (by decide +kernel) rfl ⟨by decide, by decide⟩ (Nat.le_of_ble_eq_true rfl) rfl rfl dL_does_14 ?_ hkR
  refine z_top (nI d) ed ?_
  refine z_istore_n h (by decide) (lv' := [(3, .int (nI d)), (2, .int (nI s)), (0, .ref (q 0)), (1, .int v)]) rfl dL_does_17 ?_
  refine z_iconst h (nI 1) (by decide +kernel) dL_does_18 ?_
  refine z_iload_n h 3 rfl dL_does_19 ?_
  refine z_bipush h (nI 9) (by decide +kernel) dL_does_20 ?_
  refine z_ishr h dL_does_22 ?_
  refine z_bipush h (nI 99) (by decide +kernel) dL_does_23 ?_
  refine z_wS h (As := [.int (v >>> ((nI 9) &&& 31)), .int (nI 99)]) (st := [.int (nI 1)]) (ws2 := zCW (zy E) q a g t c o n S) (r := some (.int (lowI (v >>> ((nI 9) &&& 31)) (nI 99)))) 2 (z_any _ (c_L_low (v >>> ((nI 9) &&& 31)) (nI 99) (by decide +kernel))) gL_does_L_low (by decide +kernel) rfl ⟨by decide, by decide⟩ (Nat.le_of_ble_eq_true rfl) rfl rfl dL_does_25 ?_ hkR
  refine z_top (nI u) eu ?_
  refine z_iadd h dL_does_28 ?_
  refine z_top (nI (1 + u)) (nI_add _ _) ?_
  refine z_istore h (by decide) (lv' := [(4, .int (nI (1 + u))), (3, .int (nI d)), (2, .int (nI s)), (0, .ref (q 0)), (1, .int v)]) rfl dL_does_29 ?_
  refine z_iload_n h 4 rfl dL_does_31 ?_
  refine z_bipush h (nI 15) (by decide +kernel) dL_does_32 ?_
  refine z_iand h dL_does_34 ?_
  refine z_top (nI j) ej ?_
  subst hj
  · refine z_tblIn h (off := 245) 280 dL_does_35 (by decide +kernel) (by decide +kernel) (by decide +kernel) (by decide) ?_
    refine z_aload_n h 3 rfl dL_does_280 ?_
    refine z_bipush h (nI 14) (by decide +kernel) dL_does_281 ?_
    refine z_wV h (As := [.int (nI 14)]) (st := []) (ws2 := zCW (zy E) q a g t c o n S) (r := some (.int (wvC g o 14))) 1 (c_X9_whole q a g t c o n S 14 (by omega) hg) gL_does_X9_whole (q0 := 0) (ci := 7) (by decide +kernel) rfl rfl rfl ⟨by decide, by decide⟩ (Nat.le_of_ble_eq_true rfl) rfl rfl dL_does_283 ?_ hkR
    refine z_bipush h (nI 20) (by decide +kernel) dL_does_286 ?_
    refine z_icmp_ge h 306 dL_does_288 (by decide) (fun c_288 => ?_) (fun c_288 => ?_)
    · exact absurd c_288 hA
    · refine z_aload_n h 3 rfl dL_does_291 ?_
      refine z_iload_n h 2 rfl dL_does_292 ?_
      refine z_iload_n h 2 rfl dL_does_293 ?_
      refine z_iconst h (nI 1) (by decide +kernel) dL_does_294 ?_
      refine z_iadd h dL_does_295 ?_
      refine z_top (nI (s + 1)) (nI_add _ _) ?_
      refine z_iload_n h 1 rfl dL_does_296 ?_
      refine z_iadd h dL_does_297 ?_
      refine z_top (nI (s + 1 + d)) (nI_add _ _) ?_
      refine z_bipush h (nI 8) (by decide +kernel) dL_does_298 ?_
      refine z_irem h dL_does_300 (by decide +kernel) ?_
      refine z_top (nI ((s + 1 + d) % 8)) (pk_rem (by omega) (by omega) (by omega)) ?_
      refine z_iconst h ((-1)) (by decide +kernel) dL_does_301 ?_
      refine z_wV h (As := [.int (nI s), .int (nI ((s + 1 + d) % 8)), .int (-1)]) (st := []) (ws2 := zCW (zy E) q a (baG g (nI s) (nI ((s + 1 + d) % 8)) (-1)) t c o (puN n (tpN k)) (zSs S (tpN k) (cpSa (S (tpN k)) g))) (r := some (.int (baG g (nI s) (nI ((s + 1 + d) % 8)) (-1) 0 7))) 3 (c_X9_ballot q a g t c o n S (nI s) (nI ((s + 1 + d) % 8)) (-1) hgb20 h0 k hk4 hn4) gL_does_X9_ballot (q0 := 0) (ci := 7) (by decide +kernel) rfl rfl rfl ⟨by decide, by decide⟩ (Nat.le_of_ble_eq_true rfl) rfl rfl dL_does_302 ?_ hkR
      refine z_pop h dL_does_305 rfl ?_
      refine z_iconst h (nI 0) (by decide +kernel) dL_does_306 ?_
      exact z_iret h hf rfl rfl rfl dL_does_307

set_option maxHeartbeats 4000000 in
set_option maxRecDepth 100000 in
/-- does: G1 -/
theorem c_L_does_G1 {l : Launch} {y : zY} {D : va_G} (q : Nat → Nat) (a : Nat → Nat → Nat) (g t c o n : Nat → Nat → Int32) (S : Nat → Nat → Nat → Int32) (v : Int32) (s d u j : Nat) (hs : s < 8) (hd : d < 3) (hu : u < 99) (es : lowI (v >>> (nI 4 &&& 31)) (nI 8) = nI s) (ed : lowI (v >>> (nI 7 &&& 31)) (nI 3) = nI d) (eu : lowI (v >>> (nI 9 &&& 31)) (nI 99) = nI u) (ej : v &&& nI 15 = nI j) (hj : j = 13) (hA : nI 20 ≤ wvC g o 14) (hg : okH g) : zM l y D yL_does wsL_does 6 188 [.ref (q 0), .int v] (zCW y q a g t c o n S) (zCW y q a g t c o n S) (some (.int (nI 0))) := by
  refine z_start (own := RL) (cc := cL_does) (maxL := 5) (ret := (some .int)) rfl (by decide +kernel) rfl (Nat.le_of_ble_eq_true rfl) (zCW_fst _ _ _ _ _ _ _ _ _ _ _ _ _ _ _) ?_
  intro E hEl hEy hED h hf
  subst hEl hEy hED
  have hkR : 0 ≤ E.2.2.2.2.2.1.cells ∧ 0 ≤ E.2.2.2.2.2.1.slots := ⟨Nat.zero_le _, Nat.zero_le _⟩
  refine z_cast (lv := [(0, .ref (q 0)), (1, .int v)]) (ws := (zCW (zy E) q a g t c o n S)) (st := []) ?_ rfl rfl rfl
  refine z_iload_n h 1 rfl dL_does_0 ?_
  refine z_iconst h (nI 4) (by decide +kernel) dL_does_1 ?_
  refine z_ishr h dL_does_2 ?_
  refine z_bipush h (nI 8) (by decide +kernel) dL_does_3 ?_
  refine z_wS h (As := [.int (v >>> ((nI 4) &&& 31)), .int (nI 8)]) (st := []) (ws2 := zCW (zy E) q a g t c o n S) (r := some (.int (lowI (v >>> ((nI 4) &&& 31)) (nI 8)))) 2 (z_any _ (c_L_low (v >>> ((nI 4) &&& 31)) (nI 8) (by decide +kernel))) gL_does_L_low (by decide +kernel) rfl ⟨by decide, by decide⟩ (Nat.le_of_ble_eq_true rfl) rfl rfl dL_does_5 ?_ hkR
  refine z_top (nI s) es ?_
  refine z_istore_n h (by decide) (lv' := [(2, .int (nI s)), (0, .ref (q 0)), (1, .int v)]) rfl dL_does_8 ?_
  refine z_iload_n h 2 rfl dL_does_9 ?_
  refine z_bipush h (nI 7) (by decide +kernel) dL_does_10 ?_
  refine z_ishr h dL_does_12 ?_
  refine z_iconst h (nI 3) (by decide +kernel) dL_does_13 ?_
  refine z_wS h (As := [.int (v >>> ((nI 7) &&& 31)), .int (nI 3)]) (st := []) (ws2 := zCW (zy E) q a g t c o n S) (r := some (.int (lowI (v >>> ((nI 7) &&& 31)) (nI 3)))) 2 (z_any _ (c_L_low (v >>> ((nI 7) &&& 31)) (nI 3) (by decide +kernel))) gL_does_L_low (by decide +kernel) rfl ⟨by decide, by decide⟩ (Nat.le_of_ble_eq_true rfl) rfl rfl dL_does_14 ?_ hkR
  refine z_top (nI d) ed ?_
  refine z_istore_n h (by decide) (lv' := [(3, .int (nI d)), (2, .int (nI s)), (0, .ref (q 0)), (1, .int v)]) rfl dL_does_17 ?_
  refine z_iconst h (nI 1) (by decide +kernel) dL_does_18 ?_
  refine z_iload_n h 3 rfl dL_does_19 ?_
  refine z_bipush h (nI 9) (by decide +kernel) dL_does_20 ?_
  refine z_ishr h dL_does_22 ?_
  refine z_bipush h (nI 99) (by decide +kernel) dL_does_23 ?_
  refine z_wS h (As := [.int (v >>> ((nI 9) &&& 31)), .int (nI 99)]) (st := [.int (nI 1)]) (ws2 := zCW (zy E) q a g t c o n S) (r := some (.int (lowI (v >>> ((nI 9) &&& 31)) (nI 99)))) 2 (z_any _ (c_L_low (v >>> ((nI 9) &&& 31)) (nI 99) (by decide +kernel))) gL_does_L_low (by decide +kernel) rfl ⟨by decide, by decide⟩ (Nat.le_of_ble_eq_true rfl) rfl rfl dL_does_25 ?_ hkR
  refine z_top (nI u) eu ?_
  refine z_iadd h dL_does_28 ?_
  refine z_top (nI (1 + u)) (nI_add _ _) ?_
  refine z_istore h (by decide) (lv' := [(4, .int (nI (1 + u))), (3, .int (nI d)), (2, .int (nI s)), (0, .ref (q 0)), (1, .int v)]) rfl dL_does_29 ?_
  refine z_iload_n h 4 rfl dL_does_31 ?_
  refine z_bipush h (nI 15) (by decide +kernel) dL_does_32 ?_
  refine z_iand h dL_does_34 ?_
  refine z_top (nI j) ej ?_
  subst hj
  · refine z_tblIn h (off := 245) 280 dL_does_35 (by decide +kernel) (by decide +kernel) (by decide +kernel) (by decide) ?_
    refine z_aload_n h 3 rfl dL_does_280 ?_
    refine z_bipush h (nI 14) (by decide +kernel) dL_does_281 ?_
    refine z_wV h (As := [.int (nI 14)]) (st := []) (ws2 := zCW (zy E) q a g t c o n S) (r := some (.int (wvC g o 14))) 1 (c_X9_whole q a g t c o n S 14 (by omega) hg) gL_does_X9_whole (q0 := 0) (ci := 7) (by decide +kernel) rfl rfl rfl ⟨by decide, by decide⟩ (Nat.le_of_ble_eq_true rfl) rfl rfl dL_does_283 ?_ hkR
    refine z_bipush h (nI 20) (by decide +kernel) dL_does_286 ?_
    refine z_icmp_ge h 306 dL_does_288 (by decide) (fun c_288 => ?_) (fun c_288 => ?_)
    · refine z_iconst h (nI 0) (by decide +kernel) dL_does_306 ?_
      exact z_iret h hf rfl rfl rfl dL_does_307
    · exact absurd hA c_288

set_option maxHeartbeats 4000000 in
set_option maxRecDepth 100000 in
/-- does: H1 -/
theorem c_L_does_H1 {l : Launch} {y : zY} {D : va_G} (q : Nat → Nat) (a : Nat → Nat → Nat) (g t c o n : Nat → Nat → Int32) (S : Nat → Nat → Nat → Int32) (v : Int32) (s d u j : Nat) (hs : s < 8) (hd : d < 3) (hu : u < 99) (es : lowI (v >>> (nI 4 &&& 31)) (nI 8) = nI s) (ed : lowI (v >>> (nI 7 &&& 31)) (nI 3) = nI d) (eu : lowI (v >>> (nI 9 &&& 31)) (nI 99) = nI u) (ej : v &&& nI 15 = nI j) (hj : j = 14 ∨ j = 15) (k : Nat) (hk4 : k < 4) (hn4 : n 0 1 = nI k) (hg : okH g) (hgt : okT g) (hB : (v >>> (nI 4 &&& 31)) &&& nI 3 = 0) : zM l y D yL_does wsL_does 6 188 [.ref (q 0), .int v] (zCW y q a g t c o n S) (zCW y q a (phG g (nI 1) 1) t c o (puN n (tpN k)) (zSs S (tpN k) (cpSa (S (tpN k)) g))) (some (.int (nI 0))) := by
  refine z_start (own := RL) (cc := cL_does) (maxL := 5) (ret := (some .int)) rfl (by decide +kernel) rfl (Nat.le_of_ble_eq_true rfl) (zCW_fst _ _ _ _ _ _ _ _ _ _ _ _ _ _ _) ?_
  intro E hEl hEy hED h hf
  subst hEl hEy hED
  have hkR : 0 ≤ E.2.2.2.2.2.1.cells ∧ 0 ≤ E.2.2.2.2.2.1.slots := ⟨Nat.zero_le _, Nat.zero_le _⟩
  refine z_cast (lv := [(0, .ref (q 0)), (1, .int v)]) (ws := (zCW (zy E) q a g t c o n S)) (st := []) ?_ rfl rfl rfl
  refine z_iload_n h 1 rfl dL_does_0 ?_
  refine z_iconst h (nI 4) (by decide +kernel) dL_does_1 ?_
  refine z_ishr h dL_does_2 ?_
  refine z_bipush h (nI 8) (by decide +kernel) dL_does_3 ?_
  refine z_wS h (As := [.int (v >>> ((nI 4) &&& 31)), .int (nI 8)]) (st := []) (ws2 := zCW (zy E) q a g t c o n S) (r := some (.int (lowI (v >>> ((nI 4) &&& 31)) (nI 8)))) 2 (z_any _ (c_L_low (v >>> ((nI 4) &&& 31)) (nI 8) (by decide +kernel))) gL_does_L_low (by decide +kernel) rfl ⟨by decide, by decide⟩ (Nat.le_of_ble_eq_true rfl) rfl rfl dL_does_5 ?_ hkR
  refine z_top (nI s) es ?_
  refine z_istore_n h (by decide) (lv' := [(2, .int (nI s)), (0, .ref (q 0)), (1, .int v)]) rfl dL_does_8 ?_
  refine z_iload_n h 2 rfl dL_does_9 ?_
  refine z_bipush h (nI 7) (by decide +kernel) dL_does_10 ?_
  refine z_ishr h dL_does_12 ?_
  refine z_iconst h (nI 3) (by decide +kernel) dL_does_13 ?_
  refine z_wS h (As := [.int (v >>> ((nI 7) &&& 31)), .int (nI 3)]) (st := []) (ws2 := zCW (zy E) q a g t c o n S) (r := some (.int (lowI (v >>> ((nI 7) &&& 31)) (nI 3)))) 2 (z_any _ (c_L_low (v >>> ((nI 7) &&& 31)) (nI 3) (by decide +kernel))) gL_does_L_low (by decide +kernel) rfl ⟨by decide, by decide⟩ (Nat.le_of_ble_eq_true rfl) rfl rfl dL_does_14 ?_ hkR
  refine z_top (nI d) ed ?_
  refine z_istore_n h (by decide) (lv' := [(3, .int (nI d)), (2, .int (nI s)), (0, .ref (q 0)), (1, .int v)]) rfl dL_does_17 ?_
  refine z_iconst h (nI 1) (by decide +kernel) dL_does_18 ?_
  refine z_iload_n h 3 rfl dL_does_19 ?_
  refine z_bipush h (nI 9) (by decide +kernel) dL_does_20 ?_
  refine z_ishr h dL_does_22 ?_
  refine z_bipush h (nI 99) (by decide +kernel) dL_does_23 ?_
  refine z_wS h (As := [.int (v >>> ((nI 9) &&& 31)), .int (nI 99)]) (st := [.int (nI 1)]) (ws2 := zCW (zy E) q a g t c o n S) (r := some (.int (lowI (v >>> ((nI 9) &&& 31)) (nI 99)))) 2 (z_any _ (c_L_low (v >>> ((nI 9) &&& 31)) (nI 99) (by decide +kernel))) gL_does_L_low (by decide +kernel) rfl ⟨by decide, by decide⟩ (Nat.le_of_ble_eq_true rfl) rfl rfl dL_does_25 ?_ hkR
  refine z_top (nI u) eu ?_
  refine z_iadd h dL_does_28 ?_
  refine z_top (nI (1 + u)) (nI_add _ _) ?_
  refine z_istore h (by decide) (lv' := [(4, .int (nI (1 + u))), (3, .int (nI d)), (2, .int (nI s)), (0, .ref (q 0)), (1, .int v)]) rfl dL_does_29 ?_
  refine z_iload_n h 4 rfl dL_does_31 ?_
  refine z_bipush h (nI 15) (by decide +kernel) dL_does_32 ?_
  refine z_iand h dL_does_34 ?_
  refine z_top (nI j) ej ?_
  rcases hj with rfl | rfl
  · refine z_tblOut h 308 dL_does_35 (by decide +kernel) (by decide) ?_
    refine z_aload_n h 3 rfl dL_does_308 ?_
    refine z_iload_n h 4 rfl dL_does_309 ?_
    refine z_iconst h (nI 4) (by decide +kernel) dL_does_310 ?_
    refine z_ishr h dL_does_311 ?_
    refine z_iconst h (nI 3) (by decide +kernel) dL_does_312 ?_
    refine z_iand h dL_does_313 ?_
    refine z_if_ne h 321 dL_does_314 (by decide) (fun c_314 => ?_) (fun c_314 => ?_)
    · exact absurd hB c_314
    · refine z_iconst h (nI 1) (by decide +kernel) dL_does_317 ?_
      refine z_goto h 322 dL_does_318 (by decide) ?_
      refine z_wV h (As := [.int (nI 1)]) (st := []) (ws2 := zCW (zy E) q a (phG g (nI 1) 1) t c o (puN n (tpN k)) (zSs S (tpN k) (cpSa (S (tpN k)) g))) (r := some (.int (phS g (nI 1) 1))) 1 (c_X9_hour q a g t c o n S (nI 1) hg hgt k hk4 hn4) gL_does_X9_hour (q0 := 0) (ci := 7) (by decide +kernel) rfl rfl rfl ⟨by decide, by decide⟩ (Nat.le_of_ble_eq_true rfl) rfl rfl dL_does_322 ?_ hkR
      refine z_iconst h (nI 0) (by decide +kernel) dL_does_325 ?_
      refine z_imul h dL_does_326 ?_
      refine z_top (nI 0) Int32.mul_zero ?_
      exact z_iret h hf rfl rfl rfl dL_does_327
  · refine z_tblOut h 308 dL_does_35 (by decide +kernel) (by decide) ?_
    refine z_aload_n h 3 rfl dL_does_308 ?_
    refine z_iload_n h 4 rfl dL_does_309 ?_
    refine z_iconst h (nI 4) (by decide +kernel) dL_does_310 ?_
    refine z_ishr h dL_does_311 ?_
    refine z_iconst h (nI 3) (by decide +kernel) dL_does_312 ?_
    refine z_iand h dL_does_313 ?_
    refine z_if_ne h 321 dL_does_314 (by decide) (fun c_314 => ?_) (fun c_314 => ?_)
    · exact absurd hB c_314
    · refine z_iconst h (nI 1) (by decide +kernel) dL_does_317 ?_
      refine z_goto h 322 dL_does_318 (by decide) ?_
      refine z_wV h (As := [.int (nI 1)]) (st := []) (ws2 := zCW (zy E) q a (phG g (nI 1) 1) t c o (puN n (tpN k)) (zSs S (tpN k) (cpSa (S (tpN k)) g))) (r := some (.int (phS g (nI 1) 1))) 1 (c_X9_hour q a g t c o n S (nI 1) hg hgt k hk4 hn4) gL_does_X9_hour (q0 := 0) (ci := 7) (by decide +kernel) rfl rfl rfl ⟨by decide, by decide⟩ (Nat.le_of_ble_eq_true rfl) rfl rfl dL_does_322 ?_ hkR
      refine z_iconst h (nI 0) (by decide +kernel) dL_does_325 ?_
      refine z_imul h dL_does_326 ?_
      refine z_top (nI 0) Int32.mul_zero ?_
      exact z_iret h hf rfl rfl rfl dL_does_327

set_option maxHeartbeats 4000000 in
set_option maxRecDepth 100000 in
/-- does: H0 -/
theorem c_L_does_H0 {l : Launch} {y : zY} {D : va_G} (q : Nat → Nat) (a : Nat → Nat → Nat) (g t c o n : Nat → Nat → Int32) (S : Nat → Nat → Nat → Int32) (v : Int32) (s d u j : Nat) (hs : s < 8) (hd : d < 3) (hu : u < 99) (es : lowI (v >>> (nI 4 &&& 31)) (nI 8) = nI s) (ed : lowI (v >>> (nI 7 &&& 31)) (nI 3) = nI d) (eu : lowI (v >>> (nI 9 &&& 31)) (nI 99) = nI u) (ej : v &&& nI 15 = nI j) (hj : j = 14 ∨ j = 15) (k : Nat) (hk4 : k < 4) (hn4 : n 0 1 = nI k) (hg : okH g) (hgt : okT g) (hB : ¬ (v >>> (nI 4 &&& 31)) &&& nI 3 = 0) : zM l y D yL_does wsL_does 6 188 [.ref (q 0), .int v] (zCW y q a g t c o n S) (zCW y q a (phG g (nI 0) 1) t c o (puN n (tpN k)) (zSs S (tpN k) (cpSa (S (tpN k)) g))) (some (.int (nI 0))) := by
  refine z_start (own := RL) (cc := cL_does) (maxL := 5) (ret := (some .int)) rfl (by decide +kernel) rfl (Nat.le_of_ble_eq_true rfl) (zCW_fst _ _ _ _ _ _ _ _ _ _ _ _ _ _ _) ?_
  intro E hEl hEy hED h hf
  subst hEl hEy hED
  have hkR : 0 ≤ E.2.2.2.2.2.1.cells ∧ 0 ≤ E.2.2.2.2.2.1.slots := ⟨Nat.zero_le _, Nat.zero_le _⟩
  refine z_cast (lv := [(0, .ref (q 0)), (1, .int v)]) (ws := (zCW (zy E) q a g t c o n S)) (st := []) ?_ rfl rfl rfl
  refine z_iload_n h 1 rfl dL_does_0 ?_
  refine z_iconst h (nI 4) (by decide +kernel) dL_does_1 ?_
  refine z_ishr h dL_does_2 ?_
  refine z_bipush h (nI 8) (by decide +kernel) dL_does_3 ?_
  refine z_wS h (As := [.int (v >>> ((nI 4) &&& 31)), .int (nI 8)]) (st := []) (ws2 := zCW (zy E) q a g t c o n S) (r := some (.int (lowI (v >>> ((nI 4) &&& 31)) (nI 8)))) 2 (z_any _ (c_L_low (v >>> ((nI 4) &&& 31)) (nI 8) (by decide +kernel))) gL_does_L_low (by decide +kernel) rfl ⟨by decide, by decide⟩ (Nat.le_of_ble_eq_true rfl) rfl rfl dL_does_5 ?_ hkR
  refine z_top (nI s) es ?_
  refine z_istore_n h (by decide) (lv' := [(2, .int (nI s)), (0, .ref (q 0)), (1, .int v)]) rfl dL_does_8 ?_
  refine z_iload_n h 2 rfl dL_does_9 ?_
  refine z_bipush h (nI 7) (by decide +kernel) dL_does_10 ?_
  refine z_ishr h dL_does_12 ?_
  refine z_iconst h (nI 3) (by decide +kernel) dL_does_13 ?_
  refine z_wS h (As := [.int (v >>> ((nI 7) &&& 31)), .int (nI 3)]) (st := []) (ws2 := zCW (zy E) q a g t c o n S) (r := some (.int (lowI (v >>> ((nI 7) &&& 31)) (nI 3)))) 2 (z_any _ (c_L_low (v >>> ((nI 7) &&& 31)) (nI 3) (by decide +kernel))) gL_does_L_low (by decide +kernel) rfl ⟨by decide, by decide⟩ (Nat.le_of_ble_eq_true rfl) rfl rfl dL_does_14 ?_ hkR
  refine z_top (nI d) ed ?_
  refine z_istore_n h (by decide) (lv' := [(3, .int (nI d)), (2, .int (nI s)), (0, .ref (q 0)), (1, .int v)]) rfl dL_does_17 ?_
  refine z_iconst h (nI 1) (by decide +kernel) dL_does_18 ?_
  refine z_iload_n h 3 rfl dL_does_19 ?_
  refine z_bipush h (nI 9) (by decide +kernel) dL_does_20 ?_
  refine z_ishr h dL_does_22 ?_
  refine z_bipush h (nI 99) (by decide +kernel) dL_does_23 ?_
  refine z_wS h (As := [.int (v >>> ((nI 9) &&& 31)), .int (nI 99)]) (st := [.int (nI 1)]) (ws2 := zCW (zy E) q a g t c o n S) (r := some (.int (lowI (v >>> ((nI 9) &&& 31)) (nI 99)))) 2 (z_any _ (c_L_low (v >>> ((nI 9) &&& 31)) (nI 99) (by decide +kernel))) gL_does_L_low (by decide +kernel) rfl ⟨by decide, by decide⟩ (Nat.le_of_ble_eq_true rfl) rfl rfl dL_does_25 ?_ hkR
  refine z_top (nI u) eu ?_
  refine z_iadd h dL_does_28 ?_
  refine z_top (nI (1 + u)) (nI_add _ _) ?_
  refine z_istore h (by decide) (lv' := [(4, .int (nI (1 + u))), (3, .int (nI d)), (2, .int (nI s)), (0, .ref (q 0)), (1, .int v)]) rfl dL_does_29 ?_
  refine z_iload_n h 4 rfl dL_does_31 ?_
  refine z_bipush h (nI 15) (by decide +kernel) dL_does_32 ?_
  refine z_iand h dL_does_34 ?_
  refine z_top (nI j) ej ?_
  rcases hj with rfl | rfl
  · refine z_tblOut h 308 dL_does_35 (by decide +kernel) (by decide) ?_
    refine z_aload_n h 3 rfl dL_does_308 ?_
    refine z_iload_n h 4 rfl dL_does_309 ?_
    refine z_iconst h (nI 4) (by decide +kernel) dL_does_310 ?_
    refine z_ishr h dL_does_311 ?_
    refine z_iconst h (nI 3) (by decide +kernel) dL_does_312 ?_
    refine z_iand h dL_does_313 ?_
    refine z_if_ne h 321 dL_does_314 (by decide) (fun c_314 => ?_) (fun c_314 => ?_)
    · refine z_iconst h (nI 0) (by decide +kernel) dL_does_321 ?_
      refine z_wV h (As := [.int (nI 0)]) (st := []) (ws2 := zCW (zy E) q a (phG g (nI 0) 1) t c o (puN n (tpN k)) (zSs S (tpN k) (cpSa (S (tpN k)) g))) (r := some (.int (phS g (nI 0) 1))) 1 (c_X9_hour q a g t c o n S (nI 0) hg hgt k hk4 hn4) gL_does_X9_hour (q0 := 0) (ci := 7) (by decide +kernel) rfl rfl rfl ⟨by decide, by decide⟩ (Nat.le_of_ble_eq_true rfl) rfl rfl dL_does_322 ?_ hkR
      refine z_iconst h (nI 0) (by decide +kernel) dL_does_325 ?_
      refine z_imul h dL_does_326 ?_
      refine z_top (nI 0) Int32.mul_zero ?_
      exact z_iret h hf rfl rfl rfl dL_does_327
    · exact absurd c_314 hB
  · refine z_tblOut h 308 dL_does_35 (by decide +kernel) (by decide) ?_
    refine z_aload_n h 3 rfl dL_does_308 ?_
    refine z_iload_n h 4 rfl dL_does_309 ?_
    refine z_iconst h (nI 4) (by decide +kernel) dL_does_310 ?_
    refine z_ishr h dL_does_311 ?_
    refine z_iconst h (nI 3) (by decide +kernel) dL_does_312 ?_
    refine z_iand h dL_does_313 ?_
    refine z_if_ne h 321 dL_does_314 (by decide) (fun c_314 => ?_) (fun c_314 => ?_)
    · refine z_iconst h (nI 0) (by decide +kernel) dL_does_321 ?_
      refine z_wV h (As := [.int (nI 0)]) (st := []) (ws2 := zCW (zy E) q a (phG g (nI 0) 1) t c o (puN n (tpN k)) (zSs S (tpN k) (cpSa (S (tpN k)) g))) (r := some (.int (phS g (nI 0) 1))) 1 (c_X9_hour q a g t c o n S (nI 0) hg hgt k hk4 hn4) gL_does_X9_hour (q0 := 0) (ci := 7) (by decide +kernel) rfl rfl rfl ⟨by decide, by decide⟩ (Nat.le_of_ble_eq_true rfl) rfl rfl dL_does_322 ?_ hkR
      refine z_iconst h (nI 0) (by decide +kernel) dL_does_325 ?_
      refine z_imul h dL_does_326 ?_
      refine z_top (nI 0) Int32.mul_zero ?_
      exact z_iret h hf rfl rfl rfl dL_does_327
    · exact absurd c_314 hB
