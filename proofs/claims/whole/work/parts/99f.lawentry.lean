/-! the law's entry -/
def z00 : Nat → Nat → Int32 := fun _ _ => 0
theorem ok00 : okS z00 := by
  have e : (0 : Int32).toNatClampNeg = 0 := by decide +kernel
  have ez : ∀ s, zh z00 s = 0 := fun s => e
  have et : zt z00 = 0 := e
  have eb : zb z00 = 0 := e
  refine ⟨fun s hs => ⟨by rw [ez]; rfl, by rw [ez]; omega⟩, ⟨by rw [et]; rfl, by rw [et]; omega⟩, ⟨by rw [eb]; rfl, by rw [eb]; omega⟩, fun k hk => ⟨0, by omega, rfl⟩, ⟨0, by omega, rfl⟩, fun t ht => ?_, fun b hb => ?_, fun s hs t ht => ?_, fun s hs => Or.inl rfl⟩
  · rw [et] at ht; exact absurd ht (Nat.not_lt_zero _)
  · rw [eb] at hb; exact absurd hb (Nat.not_lt_zero _)
  · rw [ez] at ht; exact absurd ht (Nat.not_lt_zero _)
theorem re00 : reS z00 (fun _ => 0) := ⟨rfl, fun k hk => rfl, rfl, rfl, by decide +kernel, rfl, rfl, rfl, rfl, rfl, fun s hs => ⟨rfl, rfl, rfl, rfl, fun t ht => ⟨rfl, rfl⟩⟩, fun t ht => ⟨rfl, rfl, rfl⟩, fun i hi => rfl⟩
theorem RR00 : RR z00 oZ z00 (fun _ => z00) z00 0 0 := ⟨ok00, re00, ⟨0, by omega, rfl, rfl, fun j hj => absurd hj (Nat.not_lt_zero _)⟩, by omega, by omega, rfl, rfl, rfl, fun i hi => absurd hi (Nat.not_lt_zero _)⟩
/-- the class's addresses in the order of its world -/
def qN9 (a : Nat) (qs : List Nat) : Nat → Nat := fun i => if i = 0 then a else if i < 17 then qs.getD (i - 1) 0 else if i < 25 then qs.getD (88 + (i - 17)) 0 else if i < 28 then qs.getD (85 + (i - 25)) 0 else if i < 31 then qs.getD (82 + (i - 28)) 0 else qs.getD (16 + (i - 31)) 0
theorem el_mem (ws : List Cond) (ps : List Nat) (h : ws = ps.filterMap (fun i => wsL_law[i]?)) (hX : ws.all nE = true) : ∀ w ∈ ws, w ∈ eLaw := fun w hw => by
  have h1 : w ∈ wsL_law := by
    have h2 : w ∈ ps.filterMap (fun i => wsL_law[i]?) := h ▸ hw
    obtain ⟨i, -, hi⟩ := List.mem_filterMap.mp h2
    exact List.mem_of_getElem? hi
  exact List.mem_map.mpr ⟨w, h1, sE_n (List.all_eq_true.mp hX w hw)⟩
set_option maxRecDepth 20000 in
theorem en_lw : ∀ w ∈ [Cond.classLink RL 8 RX9, Cond.instantiable RX9 5, Cond.initialized RX9, Cond.methodLink RL 75 yX9_init, Cond.instanceMethod yX9_init, Cond.classLink RL 76 RX10, Cond.instantiable RX10 15, Cond.initialized RX10, Cond.methodLink RL 78 yX10_init, Cond.instanceMethod yX10_init, Cond.arrayClass .long], w ∈ eLaw := el_mem _ [0, 1, 2, 7, 8, 3, 4, 5, 88, 89, 6] (by decide +kernel) (by decide +kernel)
theorem egL_X9_init : GoodIn eLaw wsX9_init := gX gL_law_X9_init (by decide +kernel)
theorem egL_X10_init : GoodIn eLaw wsX10_init := gX gL_law_X10_init (by decide +kernel)
theorem en_l9 : (∀ w ∈ u_ws RX9 TX9 5, w ∈ eLaw) ∧ ∀ w ∈ u_ws RX10 TX10 15, w ∈ eLaw :=
  ⟨fun w h => (egL_X9_init w (List.mem_cons_of_mem _ (List.mem_append_left _ (List.mem_append_left _ (List.mem_append_left _ (List.mem_append_left _ (List.mem_append_left _ (List.mem_append_left _ (List.mem_append_right _ h))))))))).1, fun w h => (egL_X10_init w (List.mem_cons_of_mem _ (List.mem_append_right _ h))).1⟩
set_option maxHeartbeats 8000000 in
set_option maxRecDepth 100000 in
theorem en_perm (y : zY) (q0 q1 q2 : Nat) (qs qs2 : List Nat) : [104, 0, 1, 2, 3, 4, 5, 6, 7, 8, 9, 10, 11, 12, 13, 14, 15, 16, 89, 90, 91, 92, 93, 94, 95, 96, 86, 87, 88, 83, 84, 85, 17, 18, 19, 20, 21, 22, 23, 24, 25, 26, 27, 28, 29, 30, 31, 32, 33, 34, 35, 36, 37, 38, 39, 40, 41, 42, 43, 44, 45, 46, 47, 48, 49, 50, 51, 52, 53, 54, 55, 56, 57, 58, 59, 60, 61, 62, 63, 64, 65, 66, 67, 68, 69, 70, 71, 72, 73, 74, 75, 76, 77, 78, 79, 80, 81, 82, 97, 98, 99, 100, 101, 102, 103].map (fun i => ((wX9 y q0 qs ++ zMo y (zq q1 qs2) (fun _ _ => 0)) ++ [(q2, .inl (y.1 3, 1, .inr (.inl (fun _ => 0))))])[i]?) = (zOu y q2 (fun _ => 0) ++ (zCW y (qN9 q0 qs) (fun j i => qs.getD (18 + 16 * j + i) 0) z00 z00 cZ oZ z00 (fun _ => z00) ++ zMo y (zq q1 qs2) z00)).map some := rfl
set_option maxHeartbeats 8000000 in
set_option maxRecDepth 100000 in
theorem law_entry {E : zE} (h : zC E RL cL_law eLaw 13 492 7) (hl : (zl E).stackTraces = false) {b L : Nat} {xs : Nat → Int32} (hX : va_X b L xs (zs E) (zs E).heap) (hbl : b < (zs E).heap.size) (hbA : ¬ zAA E b) (hL : L ≤ 2560) (hroom : E.2.2.2.2.2.1.cells = 601024 ∧ E.2.2.2.2.2.1.slots = 7293034) (hAO : va_AO "SnowSites$State" (zs E)) (fin : ∀ (k n : Nat) (lv : List (Nat × Value)) (ws : va_W), k ≤ 601024 → n ≤ 7293034 → Z E k n lv ws 1540 []) : Z E 0 0 [(0, .ref b)] [] 0 [] := by
  obtain ⟨hr1, hr2⟩ := id hroom
  refine z_new h tyX9 (fs := [.null, .null, .null, .null, .null]) (ci := 7) rfl en_l9.1 tyX9_ok (en_lw _ (List.mem_of_getElem? (i := 0) rfl)) (en_lw _ (List.mem_of_getElem? (i := 1) rfl)) (en_lw _ (List.mem_of_getElem? (i := 2) rfl)) (by decide +kernel) ⟨by rw [hr1]; omega, by rw [hr2]; omega⟩ dL_law_0 (fun q0 => ?_)
  refine z_cast (lv := [(0, .ref b)]) (ws := [(q0, .inr (7, [.null, .null, .null, .null, .null]))]) (st := [.ref q0]) ?_ rfl rfl rfl
  refine z_dup h dL_law_3 rfl ?_
  refine g_callI h (fun _ _ h8 h9 => va_AO.moved h8 h9) hAO (mc := 96) (ms := 1812) (nq := 96) (g_X9_init q0) egL_X9_init (en_lw _ (List.mem_of_getElem? (i := 3) rfl)) (en_lw _ (List.mem_of_getElem? (i := 2) rfl)) (en_lw _ (List.mem_of_getElem? (i := 4) rfl)) rfl ⟨by decide, by decide, by decide +kernel⟩ rfl ⟨by decide, by decide⟩ [0] rfl rfl (Nat.le_of_ble_eq_true rfl) dL_law_4 ⟨by rw [hr1]; omega, by rw [hr2]; omega⟩ (fun qs hqs => ?_)
  refine z_cast (lv := [(0, .ref b)]) (ws := wX9 (zy E) q0 qs) (st := [.ref q0]) ?_ rfl rfl rfl
  refine z_astore_n h (by decide) rfl dL_law_7 ?_
  refine z_new h tyX10 (fs := [.null, .null, .null, .int 0, .int 0, .null, .int 0, .int 0, .null, .int 0, .int 0, .int 0, .int 0, .int 0, .null]) (ci := 8) rfl en_l9.2 tyX10_ok (en_lw _ (List.mem_of_getElem? (i := 5) rfl)) (en_lw _ (List.mem_of_getElem? (i := 6) rfl)) (en_lw _ (List.mem_of_getElem? (i := 7) rfl)) (by decide +kernel) ⟨by rw [hr1]; omega, by rw [hr2]; omega⟩ dL_law_8 (fun q1 => ?_)
  refine z_dup h dL_law_11 rfl ?_
  refine g_callI h (fun _ _ _ z => z) trivial (mc := 6) (ms := 1508) (nq := 6) (g_X10_init q1) egL_X10_init (en_lw _ (List.mem_of_getElem? (i := 8) rfl)) (en_lw _ (List.mem_of_getElem? (i := 7) rfl)) (en_lw _ (List.mem_of_getElem? (i := 9) rfl)) rfl ⟨by decide, by decide, by decide +kernel⟩ rfl ⟨by decide, by decide⟩ [97] rfl rfl (Nat.le_of_ble_eq_true rfl) dL_law_12 ⟨by rw [hr1]; omega, by rw [hr2]; omega⟩ (fun qs2 hqs2 => ?_)
  refine z_cast (lv := [(1, .ref q0), (0, .ref b)]) (ws := wX9 (zy E) q0 qs ++ zMo (zy E) (zq q1 qs2) (fun _ _ => 0)) (st := [.ref q1]) ?_ rfl rfl rfl
  refine z_astore_n h (by decide) rfl dL_law_15 ?_
  refine z_iconst h (nI 1) (by decide +kernel) dL_law_16 ?_
  refine z_newa h (ty := .long) (cA := (zy E).1 3) (a0 := (1, .inr (.inl (fun _ => 0)))) 3 1 rfl rfl (fun _ _ _ b1 b2 => Option.some.inj (b1.symm.trans b2)) (en_lw _ (List.mem_of_getElem? (i := 10) rfl)) (fun _ => rfl) (by decide +kernel) (by decide +kernel) (by decide) ⟨by rw [hr1]; omega, by rw [hr2]; omega⟩ dL_law_17 (fun q2 => ?_)
  refine z_astore_n h (by decide) rfl dL_law_19 ?_
  refine z_iconst h (nI 0) (by decide +kernel) dL_law_20 ?_
  refine z_istore h (by decide) rfl dL_law_21 ?_
  refine z_sub (lv' := [(0, .ref b), (1, .ref q0), (2, .ref q1), (3, .ref q2), (4, .int (nI 0))]) [4, 3, 2, 1, 0] rfl ?_
  refine z_pick [104, 0, 1, 2, 3, 4, 5, 6, 7, 8, 9, 10, 11, 12, 13, 14, 15, 16, 89, 90, 91, 92, 93, 94, 95, 96, 86, 87, 88, 83, 84, 85, 17, 18, 19, 20, 21, 22, 23, 24, 25, 26, 27, 28, 29, 30, 31, 32, 33, 34, 35, 36, 37, 38, 39, 40, 41, 42, 43, 44, 45, 46, 47, 48, 49, 50, 51, 52, 53, 54, 55, 56, 57, 58, 59, 60, 61, 62, 63, 64, 65, 66, 67, 68, 69, 70, 71, 72, 73, 74, 75, 76, 77, 78, 79, 80, 81, 82, 97, 98, 99, 100, 101, 102, 103] (by decide +kernel) (en_perm (zy E) q0 q1 q2 qs qs2) ?_
  refine z_cast (lv := [(0, .ref b), (1, .ref (qN9 q0 qs 0)), (2, .ref (zq q1 qs2 0)), (3, .ref q2), (4, .int (nI 0))]) (ws := zOu (zy E) q2 (fun _ => 0) ++ (zCW (zy E) (qN9 q0 qs) (fun j i => qs.getD (18 + 16 * j + i) 0) z00 z00 cZ oZ z00 (fun _ => z00) ++ zMo (zy E) (zq q1 qs2) z00)) (st := []) ?_ rfl rfl rfl
  exact law_loop h hl hX hbl hbA hL hroom fin 512 0 105 3341 (by omega) (by omega) (by omega) (by omega) (fun _ => 0) z00 z00 cZ oZ z00 (fun _ => z00) z00 0 0 RR00
