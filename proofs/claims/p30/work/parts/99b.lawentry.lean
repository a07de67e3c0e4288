/-! the law's entry -/
def z00 : Nat → Nat → Int32 := fun _ _ => 0
theorem z_pick {E : zE} {k n pc : Nat} {lv : List (Nat × Value)} {ws ws' : va_W} {st : List Value} (is : List Nat) (hnd : va_nd is = true) (hws : is.map (fun i => ws[i]?) = ws'.map some) (kk : Z E k n lv ws' pc st) : Z E k n lv ws pc st := by
  obtain ⟨l, y, D, p, e, R, s, m, args, below, meth, c, nL, A, Q⟩ := E
  intro H locs ls hl hP hD hS
  refine kk H locs ls hl (fun t q hq => ?_) (hD.sub is hnd hws) hS
  have h1 : (is.map (fun i => ws[i]?))[t]? = some (some q) := by rw [hws, List.getElem?_map, hq]; rfl
  rw [List.getElem?_map] at h1
  obtain ⟨i, -, hi⟩ := Option.map_eq_some_iff.mp h1
  exact hP i q hi
/-- the class's addresses in the order of its world -/
def qN9 (a : Nat) (qs : List Nat) : Nat → Nat := fun i => if i = 0 then a else if i < 17 then qs.getD (i - 1) 0 else if i < 25 then qs.getD (88 + (i - 17)) 0 else if i < 28 then qs.getD (85 + (i - 25)) 0 else if i < 31 then qs.getD (82 + (i - 28)) 0 else qs.getD (16 + (i - 31)) 0
set_option maxHeartbeats 8000000 in
set_option maxRecDepth 100000 in
theorem en_perm (y : zY) (q0 : Nat) (qs : List Nat) : [0, 1, 2, 3, 4, 5, 6, 7, 8, 9, 10, 11, 12, 13, 14, 15, 16, 89, 90, 91, 92, 93, 94, 95, 96, 86, 87, 88, 83, 84, 85, 17, 18, 19, 20, 21, 22, 23, 24, 25, 26, 27, 28, 29, 30, 31, 32, 33, 34, 35, 36, 37, 38, 39, 40, 41, 42, 43, 44, 45, 46, 47, 48, 49, 50, 51, 52, 53, 54, 55, 56, 57, 58, 59, 60, 61, 62, 63, 64, 65, 66, 67, 68, 69, 70, 71, 72, 73, 74, 75, 76, 77, 78, 79, 80, 81, 82].map (fun i => (wX9 y q0 qs)[i]?) = (zCW y (qN9 q0 qs) (fun j i => qs.getD (18 + 16 * j + i) 0) z00 z00 cZ oZ z00 (fun _ => z00)).map some := rfl
theorem UN_00 : UN z00 := ⟨0, 0, by omega, by omega, rfl, rfl⟩
theorem s_5000 {g : Nat → Nat → Int32} (h : g 0 0 = nI 0) : srC g (nI 5000) = nI 0 := by
  unfold srC
  rw [h]
  decide +kernel
theorem p_1 {g : Nat → Nat → Int32} (h : g 0 0 = nI 5000) (h1 : g 1 1 = nI 0) : prC g 1 (nI 12) = nI 0 := by
  unfold prC
  rw [h, h1]
  decide +kernel
theorem p_2 {g : Nat → Nat → Int32} (h : g 0 0 = nI 3800) (h1 : g 1 2 = nI 0) : prC g 2 (nI 9) = nI 0 := by
  unfold prC
  rw [h, h1]
  decide +kernel
set_option maxHeartbeats 8000000 in
set_option maxRecDepth 100000 in
theorem law_entry {E : zE} (h : zC E RL cL_law wsL_law 12 438 10) (hL : (zy E).2 101 < 2 ^ 31) (hroom : E.2.2.2.2.2.1.cells = 600104 ∧ E.2.2.2.2.2.1.slots = 7301314) (hAO : va_AO "SnowSites$State" (zs E)) (fin : ∀ (lv : List (Nat × Value)) (ws : va_W), Z E 97 1817 lv ws 187 []) : Z E 0 0 [(0, .ref ((zy E).2 100))] [] 0 [] := by
  obtain ⟨hr1, hr2⟩ := id hroom
  have hkR : 97 ≤ E.2.2.2.2.2.1.cells ∧ 1817 ≤ E.2.2.2.2.2.1.slots := ⟨by rw [hr1]; omega, by rw [hr2]; omega⟩
  refine z_new h tyX9 (fs := [.null, .null, .null, .null, .null]) (ci := 7) rfl inlX9 tyX9_ok (en_lw _ (List.mem_of_getElem? (i := 0) rfl)) (en_lw _ (List.mem_of_getElem? (i := 1) rfl)) (en_lw _ (List.mem_of_getElem? (i := 2) rfl)) (by decide +kernel) ⟨by rw [hr1]; omega, by rw [hr2]; omega⟩ dL_law_0 (fun q0 => ?_)
  refine z_cast (lv := [(0, .ref ((zy E).2 100))]) (ws := [(q0, .inr (7, [.null, .null, .null, .null, .null]))]) (st := [.ref q0]) ?_ rfl rfl rfl
  refine z_dup h dL_law_3 rfl ?_
  refine g_callI h (fun _ _ h8 h9 => va_AO.moved h8 h9) hAO (mc := 96) (ms := 1812) (nq := 96) (g_X9_init q0) gL_law_X9_init (en_lw _ (List.mem_of_getElem? (i := 3) rfl)) (en_lw _ (List.mem_of_getElem? (i := 2) rfl)) (en_lw _ (List.mem_of_getElem? (i := 4) rfl)) rfl ⟨by decide, by decide, by decide +kernel⟩ rfl ⟨by decide, by decide⟩ [0] rfl rfl (Nat.le_of_ble_eq_true rfl) dL_law_4 ⟨by rw [hr1]; omega, by rw [hr2]; omega⟩ (fun qs hqs => ?_)
  refine z_cast (lv := [(0, .ref ((zy E).2 100))]) (ws := wX9 (zy E) q0 qs) (st := [.ref q0]) ?_ rfl rfl rfl
  refine z_astore_n h (by decide) (lv' := [(1, .ref q0), (0, .ref ((zy E).2 100))]) rfl dL_law_7 ?_
  refine z_pick [0, 1, 2, 3, 4, 5, 6, 7, 8, 9, 10, 11, 12, 13, 14, 15, 16, 89, 90, 91, 92, 93, 94, 95, 96, 86, 87, 88, 83, 84, 85, 17, 18, 19, 20, 21, 22, 23, 24, 25, 26, 27, 28, 29, 30, 31, 32, 33, 34, 35, 36, 37, 38, 39, 40, 41, 42, 43, 44, 45, 46, 47, 48, 49, 50, 51, 52, 53, 54, 55, 56, 57, 58, 59, 60, 61, 62, 63, 64, 65, 66, 67, 68, 69, 70, 71, 72, 73, 74, 75, 76, 77, 78, 79, 80, 81, 82] (by decide +kernel) (en_perm (zy E) q0 qs) ?_
  refine z_cast (lv := [(1, .ref (qN9 q0 qs 0)), (0, .ref ((zy E).2 100))]) (ws := zCW (zy E) (qN9 q0 qs) (fun j i => qs.getD (18 + 16 * j + i) 0) z00 z00 cZ oZ z00 (fun _ => z00)) (st := []) ?_ rfl rfl rfl
  generalize qN9 q0 qs = q
  generalize (fun j i => qs.getD (18 + 16 * j + i) 0) = a
  have I0 : IV z00 0 := IV_00
  have h1 := s_5000 (g := z00) rfl
  have I1 := IV_as I0 (u := 5000) (by omega) h1
  have U1 : UN (puN z00 (tpN 0)) := UN_pu (u := 0) (k := 0) (by omega) rfl (tp_lt (by omega))
  refine z_aload_n h 0 rfl dL_law_8 ?_
  refine z_sipush h (nI 5000) (by decide +kernel) dL_law_9 ?_
  refine z_wV h (As := [.int (nI 5000)]) (st := []) (ws2 := zCW (zy E) q a (tsG z00 (nI 5000)) z00 cZ oZ (puN z00 (tpN 0)) (zSs (fun _ => z00) (tpN 0) (cpSa z00 z00))) (r := some (.int (tsG z00 (nI 5000) 0 0))) 1 (c_X9_addSnow q a z00 z00 cZ oZ z00 (fun _ => z00) (nI 5000) h1 0 (by omega) rfl) gL_law_X9_addSnow (q0 := 0) (ci := 7) (by decide +kernel) rfl rfl rfl ⟨by decide, by decide⟩ (Nat.le_of_ble_eq_true rfl) rfl rfl dL_law_12 ?_ hkR
  refine z_pop h dL_law_15 rfl ?_
  have g00 : tsG z00 (nI 5000) 0 0 = nI 5000 := by decide +kernel
  have g11 : tsG z00 (nI 5000) 1 1 = nI 0 := by decide +kernel
  have g12 : tsG z00 (nI 5000) 1 2 = nI 0 := by decide +kernel
  generalize zSs (fun _ => z00) (tpN 0) (cpSa z00 z00) = S1
  generalize puN z00 (tpN 0) = n1 at U1 ⊢
  generalize tsG z00 (nI 5000) = g1 at I1 g00 g11 g12 ⊢
  obtain ⟨u9, k, hu9, hk4, hn0, hn4⟩ := id U1
  have h2 := p_1 g00 g11
  have I2 := IV_pr I1 (k := 1) (b := 12) (by omega) (by omega) h2
  have U2 : UN (puN n1 (tpN k)) := UN_pu (k := k) hu9 hn0 (tp_lt hk4)
  refine z_aload_n h 0 rfl dL_law_16 ?_
  refine z_iconst h (nI 1) (by decide +kernel) dL_law_17 ?_
  refine z_bipush h (nI 12) (by decide +kernel) dL_law_18 ?_
  refine z_wV h (As := [.int (nI 1), .int (nI 12)]) (st := []) (ws2 := zCW (zy E) q a (mkG g1 1 (nI 12)) z00 cZ oZ (puN n1 (tpN k)) (zSs S1 (tpN k) (cpSa (S1 (tpN k)) g1))) (r := some (.int (mkG g1 1 (nI 12) 1 1))) 2 (c_X9_press q a g1 z00 cZ oZ n1 S1 1 (nI 12) (by omega) h2 k hk4 hn4) gL_law_X9_press (q0 := 0) (ci := 7) (by decide +kernel) rfl rfl rfl ⟨by decide, by decide⟩ (Nat.le_of_ble_eq_true rfl) rfl rfl dL_law_20 ?_ hkR
  refine z_pop h dL_law_23 rfl ?_
  have e00 : mkG g1 1 (nI 12) 0 0 = nI 3800 := by
    show g1 0 0 - nI 12 * nI 100 = nI 3800
    rw [g00]
    decide +kernel
  have e12 : mkG g1 1 (nI 12) 1 2 = nI 0 := g12
  generalize zSs S1 (tpN k) (cpSa (S1 (tpN k)) g1) = S2
  generalize puN n1 (tpN k) = n2 at U2 ⊢
  generalize mkG g1 1 (nI 12) = g2 at I2 e00 e12 ⊢
  obtain ⟨u8, k2, hu8, hk2, hm0, hm4⟩ := id U2
  have h3 := p_2 e00 e12
  have I3 := IV_pr I2 (k := 2) (b := 9) (by omega) (by omega) h3
  have U3 : UN (puN n2 (tpN k2)) := UN_pu (k := k2) hu8 hm0 (tp_lt hk2)
  refine z_aload_n h 0 rfl dL_law_24 ?_
  refine z_iconst h (nI 2) (by decide +kernel) dL_law_25 ?_
  refine z_bipush h (nI 9) (by decide +kernel) dL_law_26 ?_
  refine z_wV h (As := [.int (nI 2), .int (nI 9)]) (st := []) (ws2 := zCW (zy E) q a (mkG g2 2 (nI 9)) z00 cZ oZ (puN n2 (tpN k2)) (zSs S2 (tpN k2) (cpSa (S2 (tpN k2)) g2))) (r := some (.int (mkG g2 2 (nI 9) 1 2))) 2 (c_X9_press q a g2 z00 cZ oZ n2 S2 2 (nI 9) (by omega) h3 k2 hk2 hm4) gL_law_X9_press (q0 := 0) (ci := 7) (by decide +kernel) rfl rfl rfl ⟨by decide, by decide⟩ (Nat.le_of_ble_eq_true rfl) rfl rfl dL_law_28 ?_ hkR
  refine z_pop h dL_law_31 rfl ?_
  refine z_sipush h (nI 5000) (by decide +kernel) dL_law_32 ?_
  refine z_istore_n h (by decide) (lv' := [(2, .int (nI 5000)), (1, .ref (q 0)), (0, .ref ((zy E).2 100))]) rfl dL_law_35 ?_
  refine z_iconst h (nI 0) (by decide +kernel) dL_law_36 ?_
  refine z_istore_n h (by decide) (lv' := [(3, .int (nI 0)), (2, .int (nI 5000)), (1, .ref (q 0)), (0, .ref ((zy E).2 100))]) rfl dL_law_37 ?_
  refine z_sub (lv' := [(0, .ref ((zy E).2 100)), (1, .ref (q 0)), (2, .int (nI 5000)), (3, .int (nI 0))]) [3, 2, 1, 0] rfl ?_
  rw [show (0 : Int32) + nI 5000 = nI 5000 by decide +kernel] at I3
  exact law_loop h hL hkR fin 40 0 rfl _ _ _ _ _ _ I3 U3
