/-! does of the law: a contract an outcome -/
set_option maxHeartbeats 4000000 in
set_option maxRecDepth 100000 in
/-- does: A0 -/
theorem c_L_does_A0 {l : Launch} {y : zY} {D : va_G} (q : Nat → Nat) (a : Nat → Nat → Nat) (g t c o n : Nat → Nat → Int32) (S : Nat → Nat → Nat → Int32) (v : Int32) (s d u j : Nat) (hs : s < 8) (hd : d < 3) (hu : u < 99) (es : lowI (v >>> (nI 4 &&& 31)) (nI 8) = nI s) (ed : lowI (v >>> (nI 7 &&& 31)) (nI 3) = nI d) (eu : lowI (v >>> (nI 9 &&& 31)) (nI 99) = nI u) (ej : v &&& nI 15 = nI j) (hj : j = 0 ∨ j = 1) (k : Nat) (hk4 : k < 4) (hn4 : n 0 1 = nI k) (hA : ¬ nI 9000 ≤ wvC g o 0) (hg : okH g) (h0 : srC g (nI 900) = nI 0) : zM l y D yL_does wsL_does 6 188 [.ref (q 0), .int v] (zCW y q a g t c o n S) (zCW y q a (tsG g (nI 900)) t c o (puN n (tpN k)) (zSs S (tpN k) (cpSa (S (tpN k)) g))) (some (.int (nI 900))) := by
  refine z_start (own := RL) (cc := cL_does) (maxL := 5) (ret := (some .int)) rfl (by decide +kernel) rfl (Nat.le_of_ble_eq_true rfl) (zCW_fst _ _ _ _ _ _ _ _ _ _ _ _ _ _ _) ?_
  intro E hEl hEy hED h hf
  subst hEl hEy hED
  have hkR : 0 ≤ E.2.2.2.2.2.1.cells ∧ 0 ≤ E.2.2.2.2.2.1.slots := ⟨Nat.zero_le _, Nat.zero_le _⟩
  refine z_cast (lv := [(0, .ref (q 0)), (1, .int v)]) (ws := (zCW (zy E) q a g t c o n S)) (st := []) ?_ rfl rfl rfl
  refine z_iload_n h 1 rfl dL_does_0 ?_
  refine z_iconst h (nI 4) (by decide +kernel) dL_does_1 ?_
  refine z_ishr h dL_does_2 ?_
  refine z_bipush h (nI 8) (by decide +kernel) dL_does_3 ?_
  refine z_wS h (As := [.int (v >>> ((nI 4) &&& 31)), .int (nI 8)]) (st := []) (ws2 := zCW (zy E) q a g t c o n S) (r := some (.int (lowI (v >>> ((nI 4) &&& 31)) (nI 8)))) 2 (z_any _ (c_L_low (v >>> ((nI 4) &&& 31)) (nI 8) (by decide +kernel))) gL_does_L_low (by decide +kernel) rfl ⟨by decide, by decide⟩ (Nat.le_of_ble_eq_true rfl) rfl rfl dL_does_5 ?_ hkR
  refine z_top (nI s) es ?_
  refine z_istore_n h (by decide) (lv' := [(2, .int (nI s)), (0, .ref (q 0)), (1, .int v)]) rfl dL_does_8 ?_
  refine z_iload_n h 2 rfl dL_does_9 ?_
  refine z_bipush h (nI 7) (by decide +kernel) dL_does_10 ?_
  refine z_ishr h dL_does_12 ?_
  refine z_iconst h (nI 3) (by decide +kernel) dL_does_13 ?_
  refine z_wS h (As := [.int (v >>> ((nI 7) &&& 31)), .int (nI 3)]) (st := []) (ws2 := zCW (zy E) q a g t c o n S) (r := some (.int (lowI (v >>> ((nI 7) &&& 31)) (nI 3)))) 2 (z_any _ (c_L_low (v >>> ((nI 7) &&& 31)) (nI 3) (by decide +kernel))) gL_does_L_low (by decide +kernel) rfl ⟨by decide, by decide⟩ (Nat.le_of_ble_eq_true rfl) rfl rfl dL_does_14 ?_ hkR
  refine z_top (nI d) ed ?_
  refine z_istore_n h (by decide) (lv' := [(3, .int (nI d)), (2, .int (nI s)), (0, .ref (q 0)), (1, .int v)]) rfl dL_does_17 ?_
  refine z_iconst h (nI 1) (by decide +kernel) dL_does_18 ?_
  refine z_iload_n h 3 rfl dL_does_19 ?_
  refine z_bipush h (nI 9) (by decide +kernel) dL_does_20 ?_
  refine z_ishr h dL_does_22 ?_
  refine z_bipush h (nI 99) (by decide +kernel) dL_does_23 ?_
  refine z_wS h (As := [.int (v >>> ((nI 9) &&& 31)), .int (nI 99)]) (st := [.int (nI 1)]) (ws2 := zCW (zy E) q a g t c o n S) (r := some (.int (lowI (v >>> ((nI 9) &&& 31)) (nI 99)))) 2 (z_any _ (c_L_low (v >>> ((nI 9) &&& 31)) (nI 99) (by decide +kernel))) gL_does_L_low (by decide +kernel) rfl ⟨by decide, by decide⟩ (Nat.le_of_ble_eq_true rfl) rfl rfl dL_does_25 ?_ hkR
  refine z_top (nI u) eu ?_
  refine z_iadd h dL_does_28 ?_
  refine z_top (nI (1 + u)) (nI_add _ _) ?_
  refine z_istore h (by decide) (lv' := [(4, .int (nI (1 + u))), (3, .int (nI d)), (2, .int (nI s)), (0, .ref (q 0)), (1, .int v)]) rfl dL_does_29 ?_
  refine z_iload_n h 4 rfl dL_does_31 ?_
  refine z_bipush h (nI 15) (by decide +kernel) dL_does_32 ?_
  refine z_iand h dL_does_34 ?_
  refine z_top (nI j) ej ?_
  rcases hj with rfl | rfl
  · refine z_tblIn h (off := 69) 104 dL_does_35 (by decide +kernel) (by decide +kernel) (by decide +kernel) (by decide) ?_
    refine z_aload_n h 3 rfl dL_does_104 ?_
    refine z_iconst h (nI 0) (by decide +kernel) dL_does_105 ?_
    refine z_wV h (As := [.int (nI 0)]) (st := []) (ws2 := zCW (zy E) q a g t c o n S) (r := some (.int (wvC g o 0))) 1 (c_X9_whole q a g t c o n S 0 (by omega) hg) gL_does_X9_whole (q0 := 0) (ci := 7) (by decide +kernel) rfl rfl rfl ⟨by decide, by decide⟩ (Nat.le_of_ble_eq_true rfl) rfl rfl dL_does_106 ?_ hkR
    refine z_sipush h (nI 9000) (by decide +kernel) dL_does_109 ?_
    refine z_icmp_ge h 127 dL_does_112 (by decide) (fun c_112 => ?_) (fun c_112 => ?_)
    · exact absurd c_112 hA
    · refine z_aload_n h 3 rfl dL_does_115 ?_
      refine z_sipush h (nI 900) (by decide +kernel) dL_does_116 ?_
      refine z_wV h (As := [.int (nI 900)]) (st := []) (ws2 := zCW (zy E) q a (tsG g (nI 900)) t c o (puN n (tpN k)) (zSs S (tpN k) (cpSa (S (tpN k)) g))) (r := some (.int (tsG g (nI 900) 0 0))) 1 (c_X9_addSnow q a g t c o n S (nI 900) h0 k hk4 hn4) gL_does_X9_addSnow (q0 := 0) (ci := 7) (by decide +kernel) rfl rfl rfl ⟨by decide, by decide⟩ (Nat.le_of_ble_eq_true rfl) rfl rfl dL_does_119 ?_ hkR
      refine z_pop h dL_does_122 rfl ?_
      refine z_sipush h (nI 900) (by decide +kernel) dL_does_123 ?_
      exact z_iret h hf rfl rfl rfl dL_does_126
  · refine z_tblIn h (off := 69) 104 dL_does_35 (by decide +kernel) (by decide +kernel) (by decide +kernel) (by decide) ?_
    refine z_aload_n h 3 rfl dL_does_104 ?_
    refine z_iconst h (nI 0) (by decide +kernel) dL_does_105 ?_
    refine z_wV h (As := [.int (nI 0)]) (st := []) (ws2 := zCW (zy E) q a g t c o n S) (r := some (.int (wvC g o 0))) 1 (c_X9_whole q a g t c o n S 0 (by omega) hg) gL_does_X9_whole (q0 := 0) (ci := 7) (by decide +kernel) rfl rfl rfl ⟨by decide, by decide⟩ (Nat.le_of_ble_eq_true rfl) rfl rfl dL_does_106 ?_ hkR
    refine z_sipush h (nI 9000) (by decide +kernel) dL_does_109 ?_
    refine z_icmp_ge h 127 dL_does_112 (by decide) (fun c_112 => ?_) (fun c_112 => ?_)
    · exact absurd c_112 hA
    · refine z_aload_n h 3 rfl dL_does_115 ?_
      refine z_sipush h (nI 900) (by decide +kernel) dL_does_116 ?_
      refine z_wV h (As := [.int (nI 900)]) (st := []) (ws2 := zCW (zy E) q a (tsG g (nI 900)) t c o (puN n (tpN k)) (zSs S (tpN k) (cpSa (S (tpN k)) g))) (r := some (.int (tsG g (nI 900) 0 0))) 1 (c_X9_addSnow q a g t c o n S (nI 900) h0 k hk4 hn4) gL_does_X9_addSnow (q0 := 0) (ci := 7) (by decide +kernel) rfl rfl rfl ⟨by decide, by decide⟩ (Nat.le_of_ble_eq_true rfl) rfl rfl dL_does_119 ?_ hkR
      refine z_pop h dL_does_122 rfl ?_
      refine z_sipush h (nI 900) (by decide +kernel) dL_does_123 ?_
      exact z_iret h hf rfl rfl rfl dL_does_126

set_option maxHeartbeats 4000000 in
set_option maxRecDepth 100000 in
/-- does: A1 -/
theorem c_L_does_A1 {l : Launch} {y : zY} {D : va_G} (q : Nat → Nat) (a : Nat → Nat → Nat) (g t c o n : Nat → Nat → Int32) (S : Nat → Nat → Nat → Int32) (v : Int32) (s d u j : Nat) (hs : s < 8) (hd : d < 3) (hu : u < 99) (es : lowI (v >>> (nI 4 &&& 31)) (nI 8) = nI s) (ed : lowI (v >>> (nI 7 &&& 31)) (nI 3) = nI d) (eu : lowI (v >>> (nI 9 &&& 31)) (nI 99) = nI u) (ej : v &&& nI 15 = nI j) (hj : j = 0 ∨ j = 1) (k : Nat) (hk4 : k < 4) (hn4 : n 0 1 = nI k) (hA : nI 9000 ≤ wvC g o 0) (hg : okH g) (hB : (v >>> (nI 12 &&& 31)) &&& nI 1 = nI 1) : zM l y D yL_does wsL_does 6 188 [.ref (q 0), .int v] (zCW y q a g t c o n S) (zCW y q a (va_up g 3 (upd (g 3) s (nI 1))) t c o (puN n (tpN k)) (zSs S (tpN k) (cpSa (S (tpN k)) g))) (some (.int (nI 0))) := by
  refine z_start (own := RL) (cc := cL_does) (maxL := 5) (ret := (some .int)) rfl (by decide +kernel) rfl (Nat.le_of_ble_eq_true rfl) (zCW_fst _ _ _ _ _ _ _ _ _ _ _ _ _ _ _) ?_
  intro E hEl hEy hED h hf
  subst hEl hEy hED
  have hkR : 0 ≤ E.2.2.2.2.2.1.cells ∧ 0 ≤ E.2.2.2.2.2.1.slots := ⟨Nat.zero_le _, Nat.zero_le _⟩
  refine z_cast (lv := [(0, .ref (q 0)), (1, .int v)]) (ws := (zCW (zy E) q a g t c o n S)) (st := []) ?_ rfl rfl rfl
  refine z_iload_n h 1 rfl dL_does_0 ?_
  refine z_iconst h (nI 4) (by decide +kernel) dL_does_1 ?_
  refine z_ishr h dL_does_2 ?_
  refine z_bipush h (nI 8) (by decide +kernel) dL_does_3 ?_
  refine z_wS h (As := [.int (v >>> ((nI 4) &&& 31)), .int (nI 8)]) (st := []) (ws2 := zCW (zy E) q a g t c o n S) (r := some (.int (lowI (v >>> ((nI 4) &&& 31)) (nI 8)))) 2 (z_any _ (c_L_low (v >>> ((nI 4) &&& 31)) (nI 8) (by decide +kernel))) gL_does_L_low (by decide +kernel) rfl ⟨by decide, by decide⟩ (Nat.le_of_ble_eq_true rfl) rfl rfl dL_does_5 ?_ hkR
  refine z_top (nI s) es ?_
  refine z_istore_n h (by decide) (lv' := [(2, .int (nI s)), (0, .ref (q 0)), (1, .int v)]) rfl dL_does_8 ?_
  refine z_iload_n h 2 rfl dL_does_9 ?_
  refine z_bipush h (nI 7) (by decide +kernel) dL_does_10 ?_
  refine z_ishr h dL_does_12 ?_
  refine z_iconst h (nI 3) (by decide +kernel) dL_does_13 ?_
  refine z_wS h (As := [.int (v >>> ((nI 7) &&& 31)), .int (nI 3)]) (st := []) (ws2 := zCW (zy E) q a g t c o n S) (r := some (.int (lowI (v >>> ((nI 7) &&& 31)) (nI 3)))) 2 (z_any _ (c_L_low (v >>> ((nI 7) &&& 31)) (nI 3) (by decide +kernel))) gL_does_L_low (by decide +kernel) rfl ⟨by decide, by decide⟩ (Nat.le_of_ble_eq_true rfl) rfl rfl dL_does_14 ?_ hkR
  refine z_top (nI d) ed ?_
  refine z_istore_n h (by decide) (lv' := [(3, .int (nI d)), (2, .int (nI s)), (0, .ref (q 0)), (1, .int v)]) rfl dL_does_17 ?_
  refine z_iconst h (nI 1) (by decide +kernel) dL_does_18 ?_
  refine z_iload_n h 3 rfl dL_does_19 ?_
  refine z_bipush h (nI 9) (by decide +kernel) dL_does_20 ?_
  refine z_ishr h dL_does_22 ?_
  refine z_bipush h (nI 99) (by decide +kernel) dL_does_23 ?_
  refine z_wS h (As := [.int (v >>> ((nI 9) &&& 31)), .int (nI 99)]) (st := [.int (nI 1)]) (ws2 := zCW (zy E) q a g t c o n S) (r := some (.int (lowI (v >>> ((nI 9) &&& 31)) (nI 99)))) 2 (z_any _ (c_L_low (v >>> ((nI 9) &&& 31)) (nI 99) (by decide +kernel))) gL_does_L_low (by decide +kernel) rfl ⟨by decide, by decide⟩ (Nat.le_of_ble_eq_true rfl) rfl rfl dL_does_25 ?_ hkR
  refine z_top (nI u) eu ?_
  refine z_iadd h dL_does_28 ?_
  refine z_top (nI (1 + u)) (nI_add _ _) ?_
  refine z_istore h (by decide) (lv' := [(4, .int (nI (1 + u))), (3, .int (nI d)), (2, .int (nI s)), (0, .ref (q 0)), (1, .int v)]) rfl dL_does_29 ?_
  refine z_iload_n h 4 rfl dL_does_31 ?_
  refine z_bipush h (nI 15) (by decide +kernel) dL_does_32 ?_
  refine z_iand h dL_does_34 ?_
  refine z_top (nI j) ej ?_
  rcases hj with rfl | rfl
  · refine z_tblIn h (off := 69) 104 dL_does_35 (by decide +kernel) (by decide +kernel) (by decide +kernel) (by decide) ?_
    refine z_aload_n h 3 rfl dL_does_104 ?_
    refine z_iconst h (nI 0) (by decide +kernel) dL_does_105 ?_
    refine z_wV h (As := [.int (nI 0)]) (st := []) (ws2 := zCW (zy E) q a g t c o n S) (r := some (.int (wvC g o 0))) 1 (c_X9_whole q a g t c o n S 0 (by omega) hg) gL_does_X9_whole (q0 := 0) (ci := 7) (by decide +kernel) rfl rfl rfl ⟨by decide, by decide⟩ (Nat.le_of_ble_eq_true rfl) rfl rfl dL_does_106 ?_ hkR
    refine z_sipush h (nI 9000) (by decide +kernel) dL_does_109 ?_
    refine z_icmp_ge h 127 dL_does_112 (by decide) (fun c_112 => ?_) (fun c_112 => ?_)
    · refine z_aload_n h 3 rfl dL_does_127 ?_
      refine z_iload_n h 2 rfl dL_does_128 ?_
      refine z_iload_n h 4 rfl dL_does_129 ?_
      refine z_bipush h (nI 12) (by decide +kernel) dL_does_130 ?_
      refine z_ishr h dL_does_132 ?_
      refine z_iconst h (nI 1) (by decide +kernel) dL_does_133 ?_
      refine z_iand h dL_does_134 ?_
      refine z_iconst h (nI 1) (by decide +kernel) dL_does_135 ?_
      refine z_icmp_ne h 143 dL_does_136 (by decide) (fun c_136 => ?_) (fun c_136 => ?_)
      · exact absurd hB c_136
      · refine z_iconst h (nI 1) (by decide +kernel) dL_does_139 ?_
        refine z_goto h 144 dL_does_140 (by decide) ?_
        refine z_wV h (As := [.int (nI s), .int (nI 1)]) (st := []) (ws2 := zCW (zy E) q a (va_up g 3 (upd (g 3) s (nI 1))) t c o (puN n (tpN k)) (zSs S (tpN k) (cpSa (S (tpN k)) g))) (r := some (.int (vSum (upd (g 3) s (nI 1)) 0 8))) 2 (c_X9_setWall_1 q a g t c o n S s (by omega) (si_8 _ (by omega)) k hk4 hn4) gL_does_X9_setWall (q0 := 0) (ci := 7) (by decide +kernel) rfl rfl rfl ⟨by decide, by decide⟩ (Nat.le_of_ble_eq_true rfl) rfl rfl dL_does_144 ?_ hkR
        refine z_iconst h (nI 0) (by decide +kernel) dL_does_147 ?_
        refine z_imul h dL_does_148 ?_
        refine z_top (nI 0) Int32.mul_zero ?_
        exact z_iret h hf rfl rfl rfl dL_does_149
    · exact absurd hA c_112
  · refine z_tblIn h (off := 69) 104 dL_does_35 (by decide +kernel) (by decide +kernel) (by decide +kernel) (by decide) ?_
    refine z_aload_n h 3 rfl dL_does_104 ?_
    refine z_iconst h (nI 0) (by decide +kernel) dL_does_105 ?_
    refine z_wV h (As := [.int (nI 0)]) (st := []) (ws2 := zCW (zy E) q a g t c o n S) (r := some (.int (wvC g o 0))) 1 (c_X9_whole q a g t c o n S 0 (by omega) hg) gL_does_X9_whole (q0 := 0) (ci := 7) (by decide +kernel) rfl rfl rfl ⟨by decide, by decide⟩ (Nat.le_of_ble_eq_true rfl) rfl rfl dL_does_106 ?_ hkR
    refine z_sipush h (nI 9000) (by decide +kernel) dL_does_109 ?_
    refine z_icmp_ge h 127 dL_does_112 (by decide) (fun c_112 => ?_) (fun c_112 => ?_)
    · refine z_aload_n h 3 rfl dL_does_127 ?_
      refine z_iload_n h 2 rfl dL_does_128 ?_
      refine z_iload_n h 4 rfl dL_does_129 ?_
      refine z_bipush h (nI 12) (by decide +kernel) dL_does_130 ?_
      refine z_ishr h dL_does_132 ?_
      refine z_iconst h (nI 1) (by decide +kernel) dL_does_133 ?_
      refine z_iand h dL_does_134 ?_
      refine z_iconst h (nI 1) (by decide +kernel) dL_does_135 ?_
      refine z_icmp_ne h 143 dL_does_136 (by decide) (fun c_136 => ?_) (fun c_136 => ?_)
      · exact absurd hB c_136
      · refine z_iconst h (nI 1) (by decide +kernel) dL_does_139 ?_
        refine z_goto h 144 dL_does_140 (by decide) ?_
        refine z_wV h (As := [.int (nI s), .int (nI 1)]) (st := []) (ws2 := zCW (zy E) q a (va_up g 3 (upd (g 3) s (nI 1))) t c o (puN n (tpN k)) (zSs S (tpN k) (cpSa (S (tpN k)) g))) (r := some (.int (vSum (upd (g 3) s (nI 1)) 0 8))) 2 (c_X9_setWall_1 q a g t c o n S s (by omega) (si_8 _ (by omega)) k hk4 hn4) gL_does_X9_setWall (q0 := 0) (ci := 7) (by decide +kernel) rfl rfl rfl ⟨by decide, by decide⟩ (Nat.le_of_ble_eq_true rfl) rfl rfl dL_does_144 ?_ hkR
        refine z_iconst h (nI 0) (by decide +kernel) dL_does_147 ?_
        refine z_imul h dL_does_148 ?_
        refine z_top (nI 0) Int32.mul_zero ?_
        exact z_iret h hf rfl rfl rfl dL_does_149
    · exact absurd hA c_112

set_option maxHeartbeats 4000000 in
set_option maxRecDepth 100000 in
/-- does: A2 -/
theorem c_L_does_A2 {l : Launch} {y : zY} {D : va_G} (q : Nat → Nat) (a : Nat → Nat → Nat) (g t c o n : Nat → Nat → Int32) (S : Nat → Nat → Nat → Int32) (v : Int32) (s d u j : Nat) (hs : s < 8) (hd : d < 3) (hu : u < 99) (es : lowI (v >>> (nI 4 &&& 31)) (nI 8) = nI s) (ed : lowI (v >>> (nI 7 &&& 31)) (nI 3) = nI d) (eu : lowI (v >>> (nI 9 &&& 31)) (nI 99) = nI u) (ej : v &&& nI 15 = nI j) (hj : j = 0 ∨ j = 1) (k : Nat) (hk4 : k < 4) (hn4 : n 0 1 = nI k) (hA : nI 9000 ≤ wvC g o 0) (hg : okH g) (hB : ¬ (v >>> (nI 12 &&& 31)) &&& nI 1 = nI 1) : zM l y D yL_does wsL_does 6 188 [.ref (q 0), .int v] (zCW y q a g t c o n S) (zCW y q a (va_up g 3 (upd (g 3) s (nI 0))) t c o (puN n (tpN k)) (zSs S (tpN k) (cpSa (S (tpN k)) g))) (some (.int (nI 0))) := by
  refine z_start (own := RL) (cc := cL_does) (maxL := 5) (ret := (some .int)) rfl (by decide +kernel) rfl (Nat.le_of_ble_eq_true rfl) (zCW_fst _ _ _ _ _ _ _ _ _ _ _ _ _ _ _) ?_
  intro E hEl hEy hED h hf
  subst hEl hEy hED
  have hkR : 0 ≤ E.2.2.2.2.2.1.cells ∧ 0 ≤ E.2.2.2.2.2.1.slots := ⟨Nat.zero_le _, Nat.zero_le _⟩
  refine z_cast (lv := [(0, .ref (q 0)), (1, .int v)]) (ws := (zCW (zy E) q a g t c o n S)) (st := []) ?_ rfl rfl rfl
  refine z_iload_n h 1 rfl dL_does_0 ?_
  refine z_iconst h (nI 4) (by decide +kernel) dL_does_1 ?_
  refine z_ishr h dL_does_2 ?_
  refine z_bipush h (nI 8) (by decide +kernel) dL_does_3 ?_
  refine z_wS h (As := [.int (v >>> ((nI 4) &&& 31)), .int (nI 8)]) (st := []) (ws2 := zCW (zy E) q a g t c o n S) (r := some (.int (lowI (v >>> ((nI 4) &&& 31)) (nI 8)))) 2 (z_any _ (c_L_low (v >>> ((nI 4) &&& 31)) (nI 8) (by decide +kernel))) gL_does_L_low (by decide +kernel) rfl ⟨by decide, by decide⟩ (Nat.le_of_ble_eq_true rfl) rfl rfl dL_does_5 ?_ hkR
  refine z_top (nI s) es ?_
  refine z_istore_n h (by decide) (lv' := [(2, .int (nI s)), (0, .ref (q 0)), (1, .int v)]) rfl dL_does_8 ?_
  refine z_iload_n h 2 rfl dL_does_9 ?_
  refine z_bipush h (nI 7) (by decide +kernel) dL_does_10 ?_
  refine z_ishr h dL_does_12 ?_
  refine z_iconst h (nI 3) (by decide +kernel) dL_does_13 ?_
  refine z_wS h (As := [.int (v >>> ((nI 7) &&& 31)), .int (nI 3)]) (st := []) (ws2 := zCW (zy E) q a g t c o n S) (r := some (.int (lowI (v >>> ((nI 7) &&& 31)) (nI 3)))) 2 (z_any _ (c_L_low (v >>> ((nI 7) &&& 31)) (nI 3) (by decide +kernel))) gL_does_L_low (by decide +kernel) rfl ⟨by decide, by decide⟩ (Nat.le_of_ble_eq_true rfl) rfl rfl dL_does_14 ?_ hkR
  refine z_top (nI d) ed ?_
  refine z_istore_n h (by decide) (lv' := [(3, .int (nI d)), (2, .int (nI s)), (0, .ref (q 0)), (1, .int v)]) rfl dL_does_17 ?_
  refine z_iconst h (nI 1) (by decide +kernel) dL_does_18 ?_
  refine z_iload_n h 3 rfl dL_does_19 ?_
  refine z_bipush h (nI 9) (by decide +kernel) dL_does_20 ?_
  refine z_ishr h dL_does_22 ?_
  refine z_bipush h (nI 99) (by decide +kernel) dL_does_23 ?_
  refine z_wS h (As := [.int (v >>> ((nI 9) &&& 31)), .int (nI 99)]) (st := [.int (nI 1)]) (ws2 := zCW (zy E) q a g t c o n S) (r := some (.int (lowI (v >>> ((nI 9) &&& 31)) (nI 99)))) 2 (z_any _ (c_L_low (v >>> ((nI 9) &&& 31)) (nI 99) (by decide +kernel))) gL_does_L_low (by decide +kernel) rfl ⟨by decide, by decide⟩ (Nat.le_of_ble_eq_true rfl) rfl rfl dL_does_25 ?_ hkR
  refine z_top (nI u) eu ?_
  refine z_iadd h dL_does_28 ?_
  refine z_top (nI (1 + u)) (nI_add _ _) ?_
  refine z_istore h (by decide) (lv' := [(4, .int (nI (1 + u))), (3, .int (nI d)), (2, .int (nI s)), (0, .ref (q 0)), (1, .int v)]) rfl dL_does_29 ?_
  refine z_iload_n h 4 rfl dL_does_31 ?_
  refine z_bipush h (nI 15) (by decide +kernel) dL_does_32 ?_
  refine z_iand h dL_does_34 ?_
  refine z_top (nI j) ej ?_
  rcases hj with rfl | rfl
  · refine z_tblIn h (off := 69) 104 dL_does_35 (by decide +kernel) (by decide +kernel) (by decide +kernel) (by decide) ?_
    refine z_aload_n h 3 rfl dL_does_104 ?_
    refine z_iconst h (nI 0) (by decide +kernel) dL_does_105 ?_
    refine z_wV h (As := [.int (nI 0)]) (st := []) (ws2 := zCW (zy E) q a g t c o n S) (r := some (.int (wvC g o 0))) 1 (c_X9_whole q a g t c o n S 0 (by omega) hg) gL_does_X9_whole (q0 := 0) (ci := 7) (by decide +kernel) rfl rfl rfl ⟨by decide, by decide⟩ (Nat.le_of_ble_eq_true rfl) rfl rfl dL_does_106 ?_ hkR
    refine z_sipush h (nI 9000) (by decide +kernel) dL_does_109 ?_
    refine z_icmp_ge h 127 dL_does_112 (by decide) (fun c_112 => ?_) (fun c_112 => ?_)
    · refine z_aload_n h 3 rfl dL_does_127 ?_
      refine z_iload_n h 2 rfl dL_does_128 ?_
      refine z_iload_n h 4 rfl dL_does_129 ?_
      refine z_bipush h (nI 12) (by decide +kernel) dL_does_130 ?_
      refine z_ishr h dL_does_132 ?_
      refine z_iconst h (nI 1) (by decide +kernel) dL_does_133 ?_
      refine z_iand h dL_does_134 ?_
      refine z_iconst h (nI 1) (by decide +kernel) dL_does_135 ?_
      refine z_icmp_ne h 143 dL_does_136 (by decide) (fun c_136 => ?_) (fun c_136 => ?_)
      · refine z_iconst h (nI 0) (by decide +kernel) dL_does_143 ?_
        refine z_wV h (As := [.int (nI s), .int (nI 0)]) (st := []) (ws2 := zCW (zy E) q a (va_up g 3 (upd (g 3) s (nI 0))) t c o (puN n (tpN k)) (zSs S (tpN k) (cpSa (S (tpN k)) g))) (r := some (.int (vSum (upd (g 3) s (nI 0)) 0 8))) 2 (c_X9_setWall_0 q a g t c o n S s (by omega) (si_8 _ (by omega)) k hk4 hn4) gL_does_X9_setWall (q0 := 0) (ci := 7) (by decide +kernel) rfl rfl rfl ⟨by decide, by decide⟩ (Nat.le_of_ble_eq_true rfl) rfl rfl dL_does_144 ?_ hkR
        refine z_iconst h (nI 0) (by decide +kernel) dL_does_147 ?_
        refine z_imul h dL_does_148 ?_
        refine z_top (nI 0) Int32.mul_zero ?_
        exact z_iret h hf rfl rfl rfl dL_does_149
      · exact absurd c_136 hB
    · exact absurd hA c_112
  · refine z_tblIn h (off := 69) 104 dL_does_35 (by decide +kernel) (by decide +kernel) (by decide +kernel) (by decide) ?_
    refine z_aload_n h 3 rfl dL_does_104 ?_
    refine z_iconst h (nI 0) (by decide +kernel) dL_does_105 ?_
    refine z_wV h (As := [.int (nI 0)]) (st := []) (ws2 := zCW (zy E) q a g t c o n S) (r := some (.int (wvC g o 0))) 1 (c_X9_whole q a g t c o n S 0 (by omega) hg) gL_does_X9_whole (q0 := 0) (ci := 7) (by decide +kernel) rfl rfl rfl ⟨by decide, by decide⟩ (Nat.le_of_ble_eq_true rfl) rfl rfl dL_does_106 ?_ hkR
    refine z_sipush h (nI 9000) (by decide +kernel) dL_does_109 ?_
    refine z_icmp_ge h 127 dL_does_112 (by decide) (fun c_112 => ?_) (fun c_112 => ?_)
    · refine z_aload_n h 3 rfl dL_does_127 ?_
      refine z_iload_n h 2 rfl dL_does_128 ?_
      refine z_iload_n h 4 rfl dL_does_129 ?_
      refine z_bipush h (nI 12) (by decide +kernel) dL_does_130 ?_
      refine z_ishr h dL_does_132 ?_
      refine z_iconst h (nI 1) (by decide +kernel) dL_does_133 ?_
      refine z_iand h dL_does_134 ?_
      refine z_iconst h (nI 1) (by decide +kernel) dL_does_135 ?_
      refine z_icmp_ne h 143 dL_does_136 (by decide) (fun c_136 => ?_) (fun c_136 => ?_)
      · refine z_iconst h (nI 0) (by decide +kernel) dL_does_143 ?_
        refine z_wV h (As := [.int (nI s), .int (nI 0)]) (st := []) (ws2 := zCW (zy E) q a (va_up g 3 (upd (g 3) s (nI 0))) t c o (puN n (tpN k)) (zSs S (tpN k) (cpSa (S (tpN k)) g))) (r := some (.int (vSum (upd (g 3) s (nI 0)) 0 8))) 2 (c_X9_setWall_0 q a g t c o n S s (by omega) (si_8 _ (by omega)) k hk4 hn4) gL_does_X9_setWall (q0 := 0) (ci := 7) (by decide +kernel) rfl rfl rfl ⟨by decide, by decide⟩ (Nat.le_of_ble_eq_true rfl) rfl rfl dL_does_144 ?_ hkR
        refine z_iconst h (nI 0) (by decide +kernel) dL_does_147 ?_
        refine z_imul h dL_does_148 ?_
        refine z_top (nI 0) Int32.mul_zero ?_
        exact z_iret h hf rfl rfl rfl dL_does_149
      · exact absurd c_136 hB
    · exact absurd hA c_112

set_option maxHeartbeats 4000000 in
set_option maxRecDepth 100000 in
/-- does: B0 -/
theorem c_L_does_B0 {l : Launch} {y : zY} {D : va_G} (q : Nat → Nat) (a : Nat → Nat → Nat) (g t c o n : Nat → Nat → Int32) (S : Nat → Nat → Nat → Int32) (v : Int32) (s d u j : Nat) (hs : s < 8) (hd : d < 3) (hu : u < 99) (es : lowI (v >>> (nI 4 &&& 31)) (nI 8) = nI s) (ed : lowI (v >>> (nI 7 &&& 31)) (nI 3) = nI d) (eu : lowI (v >>> (nI 9 &&& 31)) (nI 99) = nI u) (ej : v &&& nI 15 = nI j) (hj : j = 2 ∨ j = 3 ∨ j = 4) (k : Nat) (hk4 : k < 4) (hn4 : n 0 1 = nI k) (hA : ¬ wvC g o 0 < nI 300) (hB : ¬ nI 47 < wvC g o (1 + d)) (hg : okH g) (h0 : prC g d (nI 3) = nI 0) : zM l y D yL_does wsL_does 6 188 [.ref (q 0), .int v] (zCW y q a g t c o n S) (zCW y q a (mkG g d (nI 3)) t c o (puN n (tpN k)) (zSs S (tpN k) (cpSa (S (tpN k)) g))) (some (.int (nI 0))) := by
  refine z_start (own := RL) (cc := cL_does) (maxL := 5) (ret := (some .int)) rfl (by decide +kernel) rfl (Nat.le_of_ble_eq_true rfl) (zCW_fst _ _ _ _ _ _ _ _ _ _ _ _ _ _ _) ?_
  intro E hEl hEy hED h hf
  subst hEl hEy hED
  have hkR : 0 ≤ E.2.2.2.2.2.1.cells ∧ 0 ≤ E.2.2.2.2.2.1.slots := ⟨Nat.zero_le _, Nat.zero_le _⟩
  refine z_cast (lv := [(0, .ref (q 0)), (1, .int v)]) (ws := (zCW (zy E) q a g t c o n S)) (st := []) ?_ rfl rfl rfl
  refine z_iload_n h 1 rfl dL_does_0 ?_
  refine z_iconst h (nI 4) (by decide +kernel) dL_does_1 ?_
  refine z_ishr h dL_does_2 ?_
  refine z_bipush h (nI 8) (by decide +kernel) dL_does_3 ?_
  refine z_wS h (As := [.int (v >>> ((nI 4) &&& 31)), .int (nI 8)]) (st := []) (ws2 := zCW (zy E) q a g t c o n S) (r := some (.int (lowI (v >>> ((nI 4) &&& 31)) (nI 8)))) 2 (z_any _ (c_L_low (v >>> ((nI 4) &&& 31)) (nI 8) (by decide +kernel))) gL_does_L_low (by decide +kernel) rfl ⟨by decide, by decide⟩ (Nat.le_of_ble_eq_true rfl) rfl rfl dL_does_5 ?_ hkR
  refine z_top (nI s) es ?_
  refine z_istore_n h (by decide) (lv' := [(2, .int (nI s)), (0, .ref (q 0)), (1, .int v)]) rfl dL_does_8 ?_
  refine z_iload_n h 2 rfl dL_does_9 ?_
  refine z_bipush h (nI 7) (by decide +kernel) dL_does_10 ?_
  refine z_ishr h dL_does_12 ?_
  refine z_iconst h (nI 3) (by decide +kernel) dL_does_13 ?_
  refine z_wS h (As := [.int (v >>> ((nI 7) &&& 31)), .int (nI 3)]) (st := []) (ws2 := zCW (zy E) q a g t c o n S) (r := some (.int (lowI (v >>> ((nI 7) &&& 31)) (nI 3)))) 2 (z_any _ (c_L_low (v >>> ((nI 7) &&& 31)) (nI 3) (by decide +kernel))) gL_does_L_low (by decide +kernel) rfl ⟨by decide, by decide⟩ (Nat.le_of_ble_eq_true rfl) rfl rfl dL_does_14 ?_ hkR
  refine z_top (nI d) ed ?_
  refine z_istore_n h (by decide) (lv' := [(3, .int (nI d)), (2, .int (nI s)), (0, .ref (q 0)), (1, .int v)]) rfl dL_does_17 ?_
  refine z_iconst h (nI 1) (by decide +kernel) dL_does_18 ?_
  refine z_iload_n h 3 rfl dL_does_19 ?_
  refine z_bipush h (nI 9) (by decide +kernel) dL_does_20 ?_
  refine z_ishr h dL_does_22 ?_
  refine z_bipush h (nI 99) (by decide +kernel) dL_does_23 ?_
  refine z_wS h (As := [.int (v >>> ((nI 9) &&& 31)), .int (nI 99)]) (st := [.int (nI 1)]) (ws2 := zCW (zy E) q a g t c o n S) (r := some (.int (lowI (v >>> ((nI 9) &&& 31)) (nI 99)))) 2 (z_any _ (c_L_low (v >>> ((nI 9) &&& 31)) (nI 99) (by decide +kernel))) gL_does_L_low (by decide +kernel) rfl ⟨by decide, by decide⟩ (Nat.le_of_ble_eq_true rfl) rfl rfl dL_does_25 ?_ hkR
  refine z_top (nI u) eu ?_
  refine z_iadd h dL_does_28 ?_
  refine z_top (nI (1 + u)) (nI_add _ _) ?_
  refine z_istore h (by decide) (lv' := [(4, .int (nI (1 + u))), (3, .int (nI d)), (2, .int (nI s)), (0, .ref (q 0)), (1, .int v)]) rfl dL_does_29 ?_
  refine z_iload_n h 4 rfl dL_does_31 ?_
  refine z_bipush h (nI 15) (by decide +kernel) dL_does_32 ?_
  refine z_iand h dL_does_34 ?_
  refine z_top (nI j) ej ?_
  rcases hj with rfl | rfl | rfl
  · refine z_tblIn h (off := 115) 150 dL_does_35 (by decide +kernel) (by decide +kernel) (by decide +kernel) (by decide) ?_
    refine z_aload_n h 3 rfl dL_does_150 ?_
    refine z_iconst h (nI 0) (by decide +kernel) dL_does_151 ?_
    refine z_wV h (As := [.int (nI 0)]) (st := []) (ws2 := zCW (zy E) q a g t c o n S) (r := some (.int (wvC g o 0))) 1 (c_X9_whole q a g t c o n S 0 (by omega) hg) gL_does_X9_whole (q0 := 0) (ci := 7) (by decide +kernel) rfl rfl rfl ⟨by decide, by decide⟩ (Nat.le_of_ble_eq_true rfl) rfl rfl dL_does_152 ?_ hkR
    refine z_sipush h (nI 300) (by decide +kernel) dL_does_155 ?_
    refine z_icmp_lt h 180 dL_does_158 (by decide) (fun c_158 => ?_) (fun c_158 => ?_)
    · exact absurd c_158 hA
    · refine z_aload_n h 3 rfl dL_does_161 ?_
      refine z_iconst h (nI 1) (by decide +kernel) dL_does_162 ?_
      refine z_iload_n h 1 rfl dL_does_163 ?_
      refine z_iadd h dL_does_164 ?_
      refine z_top (nI (1 + d)) (nI_add _ _) ?_
      refine z_wV h (As := [.int (nI (1 + d))]) (st := []) (ws2 := zCW (zy E) q a g t c o n S) (r := some (.int (wvC g o (1 + d)))) 1 (c_X9_whole q a g t c o n S (1 + d) (by omega) hg) gL_does_X9_whole (q0 := 0) (ci := 7) (by decide +kernel) rfl rfl rfl ⟨by decide, by decide⟩ (Nat.le_of_ble_eq_true rfl) rfl rfl dL_does_165 ?_ hkR
      refine z_bipush h (nI 47) (by decide +kernel) dL_does_168 ?_
      refine z_icmp_gt h 180 dL_does_170 (by decide) (fun c_170 => ?_) (fun c_170 => ?_)
      · exact absurd c_170 hB
      · refine z_aload_n h 3 rfl dL_does_173 ?_
        refine z_iload_n h 1 rfl dL_does_174 ?_
        refine z_iconst h (nI 3) (by decide +kernel) dL_does_175 ?_
        refine z_wV h (As := [.int (nI d), .int (nI 3)]) (st := []) (ws2 := zCW (zy E) q a (mkG g d (nI 3)) t c o (puN n (tpN k)) (zSs S (tpN k) (cpSa (S (tpN k)) g))) (r := some (.int (mkG g d (nI 3) 1 d))) 2 (c_X9_press q a g t c o n S d (nI 3) (by omega) h0 k hk4 hn4) gL_does_X9_press (q0 := 0) (ci := 7) (by decide +kernel) rfl rfl rfl ⟨by decide, by decide⟩ (Nat.le_of_ble_eq_true rfl) rfl rfl dL_does_176 ?_ hkR
        refine z_pop h dL_does_179 rfl ?_
        refine z_iconst h (nI 0) (by decide +kernel) dL_does_180 ?_
        exact z_iret h hf rfl rfl rfl dL_does_181
  · refine z_tblIn h (off := 115) 150 dL_does_35 (by decide +kernel) (by decide +kernel) (by decide +kernel) (by decide) ?_
    refine z_aload_n h 3 rfl dL_does_150 ?_
    refine z_iconst h (nI 0) (by decide +kernel) dL_does_151 ?_
    refine z_wV h (As := [.int (nI 0)]) (st := []) (ws2 := zCW (zy E) q a g t c o n S) (r := some (.int (wvC g o 0))) 1 (c_X9_whole q a g t c o n S 0 (by omega) hg) gL_does_X9_whole (q0 := 0) (ci := 7) (by decide +kernel) rfl rfl rfl ⟨by decide, by decide⟩ (Nat.le_of_ble_eq_true rfl) rfl rfl dL_does_152 ?_ hkR
    refine z_sipush h (nI 300) (by decide +kernel) dL_does_155 ?_
    refine z_icmp_lt h 180 dL_does_158 (by decide) (fun c_158 => ?_) (fun c_158 => ?_)
    · exact absurd c_158 hA
    · refine z_aload_n h 3 rfl dL_does_161 ?_
      refine z_iconst h (nI 1) (by decide +kernel) dL_does_162 ?_
      refine z_iload_n h 1 rfl dL_does_163 ?_
      refine z_iadd h dL_does_164 ?_
      refine z_top (nI (1 + d)) (nI_add _ _) ?_
      refine z_wV h (As := [.int (nI (1 + d))]) (st := []) (ws2 := zCW (zy E) q a g t c o n S) (r := some (.int (wvC g o (1 + d)))) 1 (c_X9_whole q a g t c o n S (1 + d) (by omega) hg) gL_does_X9_whole (q0 := 0) (ci := 7) (by decide +kernel) rfl rfl rfl ⟨by decide, by decide⟩ (Nat.le_of_ble_eq_true rfl) rfl rfl dL_does_165 ?_ hkR
      refine z_bipush h (nI 47) (by decide +kernel) dL_does_168 ?_
      refine z_icmp_gt h 180 dL_does_170 (by decide) (fun c_170 => ?_) (fun c_170 => ?_)
      · exact absurd c_170 hB
      · refine z_aload_n h 3 rfl dL_does_173 ?_
        refine z_iload_n h 1 rfl dL_does_174 ?_
        refine z_iconst h (nI 3) (by decide +kernel) dL_does_175 ?_
        refine z_wV h (As := [.int (nI d), .int (nI 3)]) (st := []) (ws2 := zCW (zy E) q a (mkG g d (nI 3)) t c o (puN n (tpN k)) (zSs S (tpN k) (cpSa (S (tpN k)) g))) (r := some (.int (mkG g d (nI 3) 1 d))) 2 (c_X9_press q a g t c o n S d (nI 3) (by omega) h0 k hk4 hn4) gL_does_X9_press (q0 := 0) (ci := 7) (by decide +kernel) rfl rfl rfl ⟨by decide, by decide⟩ (Nat.le_of_ble_eq_true rfl) rfl rfl dL_does_176 ?_ hkR
        refine z_pop h dL_does_179 rfl ?_
        refine z_iconst h (nI 0) (by decide +kernel) dL_does_180 ?_
        exact z_iret h hf rfl rfl rfl dL_does_181
  · refine z_tblIn h (off := 115) 150 dL_does_35 (by decide +kernel) (by decide +kernel) (by decide +kernel) (by decide) ?_
    refine z_aload_n h 3 rfl dL_does_150 ?_
    refine z_iconst h (nI 0) (by decide +kernel) dL_does_151 ?_
    refine z_wV h (As := [.int (nI 0)]) (st := []) (ws2 := zCW (zy E) q a g t c o n S) (r := some (.int (wvC g o 0))) 1 (c_X9_whole q a g t c o n S 0 (by omega) hg) gL_does_X9_whole (q0 := 0) (ci := 7) (by decide +kernel) rfl rfl rfl ⟨by decide, by decide⟩ (Nat.le_of_ble_eq_true rfl) rfl rfl dL_does_152 ?_ hkR
    refine z_sipush h (nI 300) (by decide +kernel) dL_does_155 ?_
    refine z_icmp_lt h 180 dL_does_158 (by decide) (fun c_158 => ?_) (fun c_158 => ?_)
    · exact absurd c_158 hA
    · refine z_aload_n h 3 rfl dL_does_161 ?_
      refine z_iconst h (nI 1) (by decide +kernel) dL_does_162 ?_
      refine z_iload_n h 1 rfl dL_does_163 ?_
      refine z_iadd h dL_does_164 ?_
      refine z_top (nI (1 + d)) (nI_add _ _) ?_
      refine z_wV h (As := [.int (nI (1 + d))]) (st := []) (ws2 := zCW (zy E) q a g t c o n S) (r := some (.int (wvC g o (1 + d)))) 1 (c_X9_whole q a g t c o n S (1 + d) (by omega) hg) gL_does_X9_whole (q0 := 0) (ci := 7) (by decide +kernel) rfl rfl rfl ⟨by decide, by decide⟩ (Nat.le_of_ble_eq_true rfl) rfl rfl dL_does_165 ?_ hkR
      refine z_bipush h (nI 47) (by decide +kernel) dL_does_168 ?_
      refine z_icmp_gt h 180 dL_does_170 (by decide) (fun c_170 => ?_) (fun c_170 => ?_)
      · exact absurd c_170 hB
      · refine z_aload_n h 3 rfl dL_does_173 ?_
        refine z_iload_n h 1 rfl dL_does_174 ?_
        refine z_iconst h (nI 3) (by decide +kernel) dL_does_175 ?_
        refine z_wV h (As := [.int (nI d), .int (nI 3)]) (st := []) (ws2 := zCW (zy E) q a (mkG g d (nI 3)) t c o (puN n (tpN k)) (zSs S (tpN k) (cpSa (S (tpN k)) g))) (r := some (.int (mkG g d (nI 3) 1 d))) 2 (c_X9_press q a g t c o n S d (nI 3) (by omega) h0 k hk4 hn4) gL_does_X9_press (q0 := 0) (ci := 7) (by decide +kernel) rfl rfl rfl ⟨by decide, by decide⟩ (Nat.le_of_ble_eq_true rfl) rfl rfl dL_does_176 ?_ hkR
        refine z_pop h dL_does_179 rfl ?_
        refine z_iconst h (nI 0) (by decide +kernel) dL_does_180 ?_
        exact z_iret h hf rfl rfl rfl dL_does_181

set_option maxHeartbeats 4000000 in
set_option maxRecDepth 100000 in
/-- does: B1 -/
theorem c_L_does_B1 {l : Launch} {y : zY} {D : va_G} (q : Nat → Nat) (a : Nat → Nat → Nat) (g t c o n : Nat → Nat → Int32) (S : Nat → Nat → Nat → Int32) (v : Int32) (s d u j : Nat) (hs : s < 8) (hd : d < 3) (hu : u < 99) (es : lowI (v >>> (nI 4 &&& 31)) (nI 8) = nI s) (ed : lowI (v >>> (nI 7 &&& 31)) (nI 3) = nI d) (eu : lowI (v >>> (nI 9 &&& 31)) (nI 99) = nI u) (ej : v &&& nI 15 = nI j) (hj : j = 2 ∨ j = 3 ∨ j = 4) (hA : ¬ (¬ wvC g o 0 < nI 300 ∧ ¬ nI 47 < wvC g o (1 + d))) (hg : okH g) : zM l y D yL_does wsL_does 6 188 [.ref (q 0), .int v] (zCW y q a g t c o n S) (zCW y q a g t c o n S) (some (.int (nI 0))) := by
  refine z_start (own := RL) (cc := cL_does) (maxL := 5) (ret := (some .int)) rfl (by decide +kernel) rfl (Nat.le_of_ble_eq_true rfl) (zCW_fst _ _ _ _ _ _ _ _ _ _ _ _ _ _ _) ?_
  intro E hEl hEy hED h hf
  subst hEl hEy hED
  have hkR : 0 ≤ E.2.2.2.2.2.1.cells ∧ 0 ≤ E.2.2.2.2.2.1.slots := ⟨Nat.zero_le _, Nat.zero_le _⟩
  refine z_cast (lv := [(0, .ref (q 0)), (1, .int v)]) (ws := (zCW (zy E) q a g t c o n S)) (st := []) ?_ rfl rfl rfl
  refine z_iload_n h 1 rfl dL_does_0 ?_
  refine z_iconst h (nI 4) (by decide +kernel) dL_does_1 ?_
  refine z_ishr h dL_does_2 ?_
  refine z_bipush h (nI 8) (by decide +kernel) dL_does_3 ?_
  refine z_wS h (As := [.int (v >>> ((nI 4) &&& 31)), .int (nI 8)]) (st := []) (ws2 := zCW (zy E) q a g t c o n S) (r := some (.int (lowI (v >>> ((nI 4) &&& 31)) (nI 8)))) 2 (z_any _ (c_L_low (v >>> ((nI 4) &&& 31)) (nI 8) (by decide +kernel))) gL_does_L_low (by decide +kernel) rfl ⟨by decide, by decide⟩ (Nat.le_of_ble_eq_true rfl) rfl rfl dL_does_5 ?_ hkR
  refine z_top (nI s) es ?_
  refine z_istore_n h (by decide) (lv' := [(2, .int (nI s)), (0, .ref (q 0)), (1, .int v)]) rfl dL_does_8 ?_
  refine z_iload_n h 2 rfl dL_does_9 ?_
  refine z_bipush h (nI 7) (by decide +kernel) dL_does_10 ?_
  refine z_ishr h dL_does_12 ?_
  refine z_iconst h (nI 3) (by decide +kernel) dL_does_13 ?_
  refine z_wS h (As := [.int (v >>> ((nI 7) &&& 31)), .int (nI 3)]) (st := []) (ws2 := zCW (zy E) q a g t c o n S) (r := some (.int (lowI (v >>> ((nI 7) &&& 31)) (nI 3)))) 2 (z_any _ (c_L_low (v >>> ((nI 7) &&& 31)) (nI 3) (by decide +kernel))) gL_does_L_low (by decide +kernel) rfl ⟨by decide, by decide⟩ (Nat.le_of_ble_eq_true rfl) rfl rfl dL_does_14 ?_ hkR
  refine z_top (nI d) ed ?_
  refine z_istore_n h (by decide) (lv' := [(3, .int (nI d)), (2, .int (nI s)), (0, .ref (q 0)), (1, .int v)]) rfl dL_does_17 ?_
  refine z_iconst h (nI 1) (by decide +kernel) dL_does_18 ?_
  refine z_iload_n h 3 rfl dL_does_19 ?_
  refine z_bipush h (nI 9) (by decide +kernel) dL_does_20 ?_
  refine z_ishr h dL_does_22 ?_
  refine z_bipush h (nI 99) (by decide +kernel) dL_does_23 ?_
  refine z_wS h (As := [.int (v >>> ((nI 9) &&& 31)), .int (nI 99)]) (st := [.int (nI 1)]) (ws2 := zCW (zy E) q a g t c o n S) (r := some (.int (lowI (v >>> ((nI 9) &&& 31)) (nI 99)))) 2 (z_any _ (c_L_low (v >>> ((nI 9) &&& 31)) (nI 99) (by decide +kernel))) gL_does_L_low (by decide +kernel) rfl ⟨by decide, by decide⟩ (Nat.le_of_ble_eq_true rfl) rfl rfl dL_does_25 ?_ hkR
  refine z_top (nI u) eu ?_
  refine z_iadd h dL_does_28 ?_
  refine z_top (nI (1 + u)) (nI_add _ _) ?_
  refine z_istore h (by decide) (lv' := [(4, .int (nI (1 + u))), (3, .int (nI d)), (2, .int (nI s)), (0, .ref (q 0)), (1, .int v)]) rfl dL_does_29 ?_
  refine z_iload_n h 4 rfl dL_does_31 ?_
  refine z_bipush h (nI 15) (by decide +kernel) dL_does_32 ?_
  refine z_iand h dL_does_34 ?_
  refine z_top (nI j) ej ?_
  rcases hj with rfl | rfl | rfl
  · refine z_tblIn h (off := 115) 150 dL_does_35 (by decide +kernel) (by decide +kernel) (by decide +kernel) (by decide) ?_
    refine z_aload_n h 3 rfl dL_does_150 ?_
    refine z_iconst h (nI 0) (by decide +kernel) dL_does_151 ?_
    refine z_wV h (As := [.int (nI 0)]) (st := []) (ws2 := zCW (zy E) q a g t c o n S) (r := some (.int (wvC g o 0))) 1 (c_X9_whole q a g t c o n S 0 (by omega) hg) gL_does_X9_whole (q0 := 0) (ci := 7) (by decide +kernel) rfl rfl rfl ⟨by decide, by decide⟩ (Nat.le_of_ble_eq_true rfl) rfl rfl dL_does_152 ?_ hkR
    refine z_sipush h (nI 300) (by decide +kernel) dL_does_155 ?_
    refine z_icmp_lt h 180 dL_does_158 (by decide) (fun c_158 => ?_) (fun c_158 => ?_)
    · refine z_iconst h (nI 0) (by decide +kernel) dL_does_180 ?_
      exact z_iret h hf rfl rfl rfl dL_does_181
    · refine z_aload_n h 3 rfl dL_does_161 ?_
      refine z_iconst h (nI 1) (by decide +kernel) dL_does_162 ?_
      refine z_iload_n h 1 rfl dL_does_163 ?_
      refine z_iadd h dL_does_164 ?_
      refine z_top (nI (1 + d)) (nI_add _ _) ?_
      refine z_wV h (As := [.int (nI (1 + d))]) (st := []) (ws2 := zCW (zy E) q a g t c o n S) (r := some (.int (wvC g o (1 + d)))) 1 (c_X9_whole q a g t c o n S (1 + d) (by omega) hg) gL_does_X9_whole (q0 := 0) (ci := 7) (by decide +kernel) rfl rfl rfl ⟨by decide, by decide⟩ (Nat.le_of_ble_eq_true rfl) rfl rfl dL_does_165 ?_ hkR
      refine z_bipush h (nI 47) (by decide +kernel) dL_does_168 ?_
      refine z_icmp_gt h 180 dL_does_170 (by decide) (fun c_170 => ?_) (fun c_170 => ?_)
      · refine z_iconst h (nI 0) (by decide +kernel) dL_does_180 ?_
        exact z_iret h hf rfl rfl rfl dL_does_181
      · exact absurd ⟨c_158, c_170⟩ hA
  · refine z_tblIn h (off := 115) 150 dL_does_35 (by decide +kernel) (by decide +kernel) (by decide +kernel) (by decide) ?_
    refine z_aload_n h 3 rfl dL_does_150 ?_
    refine z_iconst h (nI 0) (by decide +kernel) dL_does_151 ?_
    refine z_wV h (As := [.int (nI 0)]) (st := []) (ws2 := zCW (zy E) q a g t c o n S) (r := some (.int (wvC g o 0))) 1 (c_X9_whole q a g t c o n S 0 (by omega) hg) gL_does_X9_whole (q0 := 0) (ci := 7) (by decide +kernel) rfl rfl rfl ⟨by decide, by decide⟩ (Nat.le_of_ble_eq_true rfl) rfl rfl dL_does_152 ?_ hkR
    refine z_sipush h (nI 300) (by decide +kernel) dL_does_155 ?_
    refine z_icmp_lt h 180 dL_does_158 (by decide) (fun c_158 => ?_) (fun c_158 => ?_)
    · refine z_iconst h (nI 0) (by decide +kernel) dL_does_180 ?_
      exact z_iret h hf rfl rfl rfl dL_does_181
    · refine z_aload_n h 3 rfl dL_does_161 ?_
      refine z_iconst h (nI 1) (by decide +kernel) dL_does_162 ?_
      refine z_iload_n h 1 rfl dL_does_163 ?_
      refine z_iadd h dL_does_164 ?_
      refine z_top (nI (1 + d)) (nI_add _ _) ?_
      refine z_wV h (As := [.int (nI (1 + d))]) (st := []) (ws2 := zCW (zy E) q a g t c o n S) (r := some (.int (wvC g o (1 + d)))) 1 (c_X9_whole q a g t c o n S (1 + d) (by omega) hg) gL_does_X9_whole (q0 := 0) (ci := 7) (by decide +kernel) rfl rfl rfl ⟨by decide, by decide⟩ (Nat.le_of_ble_eq_true rfl) rfl rfl dL_does_165 ?_ hkR
      refine z_bipush h (nI 47) (by decide +kernel) dL_does_168 ?_
      refine z_icmp_gt h 180 dL_does_170 (by decide) (fun c_170 => ?_) (fun c_170 => ?_)
      · refine z_iconst h (nI 0) (by decide +kernel) dL_does_180 ?_
        exact z_iret h hf rfl rfl rfl dL_does_181
      · exact absurd ⟨c_158, c_170⟩ hA
  · refine z_tblIn h (off := 115) 150 dL_does_35 (by decide +kernel) (by decide +kernel) (by decide +kernel) (by decide) ?_
    refine z_aload_n h 3 rfl dL_does_150 ?_
    refine z_iconst h (nI 0) (by decide +kernel) dL_does_151 ?_
    refine z_wV h (As := [.int (nI 0)]) (st := []) (ws2 := zCW (zy E) q a g t c o n S) (r := some (.int (wvC g o 0))) 1 (c_X9_whole q a g t c o n S 0 (by omega) hg) gL_does_X9_whole (q0 := 0) (ci := 7) (by decide +kernel) rfl rfl rfl ⟨by decide, by decide⟩ (Nat.le_of_ble_eq_true rfl) rfl rfl dL_does_152 ?_ hkR
    refine z_sipush h (nI 300) (by decide +kernel) dL_does_155 ?_
    refine z_icmp_lt h 180 dL_does_158 (by decide) (fun c_158 => ?_) (fun c_158 => ?_)
    · refine z_iconst h (nI 0) (by decide +kernel) dL_does_180 ?_
      exact z_iret h hf rfl rfl rfl dL_does_181
    · refine z_aload_n h 3 rfl dL_does_161 ?_
      refine z_iconst h (nI 1) (by decide +kernel) dL_does_162 ?_
      refine z_iload_n h 1 rfl dL_does_163 ?_
      refine z_iadd h dL_does_164 ?_
      refine z_top (nI (1 + d)) (nI_add _ _) ?_
      refine z_wV h (As := [.int (nI (1 + d))]) (st := []) (ws2 := zCW (zy E) q a g t c o n S) (r := some (.int (wvC g o (1 + d)))) 1 (c_X9_whole q a g t c o n S (1 + d) (by omega) hg) gL_does_X9_whole (q0 := 0) (ci := 7) (by decide +kernel) rfl rfl rfl ⟨by decide, by decide⟩ (Nat.le_of_ble_eq_true rfl) rfl rfl dL_does_165 ?_ hkR
      refine z_bipush h (nI 47) (by decide +kernel) dL_does_168 ?_
      refine z_icmp_gt h 180 dL_does_170 (by decide) (fun c_170 => ?_) (fun c_170 => ?_)
      · refine z_iconst h (nI 0) (by decide +kernel) dL_does_180 ?_
        exact z_iret h hf rfl rfl rfl dL_does_181
      · exact absurd ⟨c_158, c_170⟩ hA

set_option maxHeartbeats 4000000 in
set_option maxRecDepth 100000 in
/-- does: C0 -/
theorem c_L_does_C0 {l : Launch} {y : zY} {D : va_G} (q : Nat → Nat) (a : Nat → Nat → Nat) (g t c o n : Nat → Nat → Int32) (S : Nat → Nat → Nat → Int32) (v : Int32) (s d u j : Nat) (hs : s < 8) (hd : d < 3) (hu : u < 99) (es : lowI (v >>> (nI 4 &&& 31)) (nI 8) = nI s) (ed : lowI (v >>> (nI 7 &&& 31)) (nI 3) = nI d) (eu : lowI (v >>> (nI 9 &&& 31)) (nI 99) = nI u) (ej : v &&& nI 15 = nI j) (hj : j = 5 ∨ j = 6 ∨ j = 7 ∨ j = 8) (k : Nat) (hk4 : k < 4) (hn4 : n 0 1 = nI k) (hA : ¬ wvC g o (1 + d) ≤ 0) (hB : ¬ nI 6 ≤ svC g s 0) (hg : okH g) (hlt : zh g s < 6) (h0 : stC g s d = nI 0) : zM l y D yL_does wsL_does 6 188 [.ref (q 0), .int v] (zCW y q a g t c o n S) (zCW y q a (pbG g s d) t c o (puN n (tpN k)) (zSs S (tpN k) (cpSa (S (tpN k)) g))) (some (.int (nI 0))) := by
  refine z_start (own := RL) (cc := cL_does) (maxL := 5) (ret := (some .int)) rfl (by decide +kernel) rfl (Nat.le_of_ble_eq_true rfl) (zCW_fst _ _ _ _ _ _ _ _ _ _ _ _ _ _ _) ?_
  intro E hEl hEy hED h hf
  subst hEl hEy hED
  have hkR : 0 ≤ E.2.2.2.2.2.1.cells ∧ 0 ≤ E.2.2.2.2.2.1.slots := ⟨Nat.zero_le _, Nat.zero_le _⟩
  refine z_cast (lv := [(0, .ref (q 0)), (1, .int v)]) (ws := (zCW (zy E) q a g t c o n S)) (st := []) ?_ rfl rfl rfl
  refine z_iload_n h 1 rfl dL_does_0 ?_
  refine z_iconst h (nI 4) (by decide +kernel) dL_does_1 ?_
  refine z_ishr h dL_does_2 ?_
  refine z_bipush h (nI 8) (by decide +kernel) dL_does_3 ?_
  refine z_wS h (As := [.int (v >>> ((nI 4) &&& 31)), .int (nI 8)]) (st := []) (ws2 := zCW (zy E) q a g t c o n S) (r := some (.int (lowI (v >>> ((nI 4) &&& 31)) (nI 8)))) 2 (z_any _ (c_L_low (v >>> ((nI 4) &&& 31)) (nI 8) (by decide +kernel))) gL_does_L_low (by decide +kernel) rfl ⟨by decide, by decide⟩ (Nat.le_of_ble_eq_true rfl) rfl rfl dL_does_5 ?_ hkR
  refine z_top (nI s) es ?_
  refine z_istore_n h (by decide) (lv' := [(2, .int (nI s)), (0, .ref (q 0)), (1, .int v)]) rfl dL_does_8 ?_
  refine z_iload_n h 2 rfl dL_does_9 ?_
  refine z_bipush h (nI 7) (by decide +kernel) dL_does_10 ?_
  refine z_ishr h dL_does_12 ?_
  refine z_iconst h (nI 3) (by decide +kernel) dL_does_13 ?_
  refine z_wS h (As := [.int (v >>> ((nI 7) &&& 31)), .int (nI 3)]) (st := []) (ws2 := zCW (zy E) q a g t c o n S) (r := some (.int (lowI (v >>> ((nI 7) &&& 31)) (nI 3)))) 2 (z_any _ (c_L_low (v >>> ((nI 7) &&& 31)) (nI 3) (by decide +kernel))) gL_does_L_low (by decide +kernel) rfl ⟨by decide, by decide⟩ (Nat.le_of_ble_eq_true rfl) rfl rfl dL_does_14 ?_ hkR
  refine z_top (nI d) ed ?_
  refine z_istore_n h (by decide) (lv' := [(3, .int (nI d)), (2, .int (nI s)), (0, .ref (q 0)), (1, .int v)]) rfl dL_does_17 ?_
  refine z_iconst h (nI 1) (by decide +kernel) dL_does_18 ?_
  refine z_iload_n h 3 rfl dL_does_19 ?_
  refine z_bipush h (nI 9) (by decide +kernel) dL_does_20 ?_
  refine z_ishr h dL_does_22 ?_
  refine z_bipush h (nI 99) (by decide +kernel) dL_does_23 ?_
  refine z_wS h (As := [.int (v >>> ((nI 9) &&& 31)), .int (nI 99)]) (st := [.int (nI 1)]) (ws2 := zCW (zy E) q a g t c o n S) (r := some (.int (lowI (v >>> ((nI 9) &&& 31)) (nI 99)))) 2 (z_any _ (c_L_low (v >>> ((nI 9) &&& 31)) (nI 99) (by decide +kernel))) gL_does_L_low (by decide +kernel) rfl ⟨by decide, by decide⟩ (Nat.le_of_ble_eq_true rfl) rfl rfl dL_does_25 ?_ hkR
  refine z_top (nI u) eu ?_
  refine z_iadd h dL_does_28 ?_
  refine z_top (nI (1 + u)) (nI_add _ _) ?_
  refine z_istore h (by decide) (lv' := [(4, .int (nI (1 + u))), (3, .int (nI d)), (2, .int (nI s)), (0, .ref (q 0)), (1, .int v)]) rfl dL_does_29 ?_
  refine z_iload_n h 4 rfl dL_does_31 ?_
  refine z_bipush h (nI 15) (by decide +kernel) dL_does_32 ?_
  refine z_iand h dL_does_34 ?_
  refine z_top (nI j) ej ?_
  rcases hj with rfl | rfl | rfl | rfl
  · refine z_tblIn h (off := 147) 182 dL_does_35 (by decide +kernel) (by decide +kernel) (by decide +kernel) (by decide) ?_
    refine z_aload_n h 3 rfl dL_does_182 ?_
    refine z_iconst h (nI 1) (by decide +kernel) dL_does_183 ?_
    refine z_iload_n h 1 rfl dL_does_184 ?_
    refine z_iadd h dL_does_185 ?_
    refine z_top (nI (1 + d)) (nI_add _ _) ?_
    refine z_wV h (As := [.int (nI (1 + d))]) (st := []) (ws2 := zCW (zy E) q a g t c o n S) (r := some (.int (wvC g o (1 + d)))) 1 (c_X9_whole q a g t c o n S (1 + d) (by omega) hg) gL_does_X9_whole (q0 := 0) (ci := 7) (by decide +kernel) rfl rfl rfl ⟨by decide, by decide⟩ (Nat.le_of_ble_eq_true rfl) rfl rfl dL_does_186 ?_ hkR
    refine z_if_le h 210 dL_does_189 (by decide) (fun c_189 => ?_) (fun c_189 => ?_)
    · exact absurd c_189 hA
    · refine z_aload_n h 3 rfl dL_does_192 ?_
      refine z_iload_n h 2 rfl dL_does_193 ?_
      refine z_iconst h (nI 0) (by decide +kernel) dL_does_194 ?_
      refine z_wV h (As := [.int (nI s), .int (nI 0)]) (st := []) (ws2 := zCW (zy E) q a g t c o n S) (r := some (.int (svC g s 0))) 2 (c_X9_site q a g t c o n S s 0 (by omega) (by omega) hg (si_8 _ (by omega))) gL_does_X9_site (q0 := 0) (ci := 7) (by decide +kernel) rfl rfl rfl ⟨by decide, by decide⟩ (Nat.le_of_ble_eq_true rfl) rfl rfl dL_does_195 ?_ hkR
      refine z_bipush h (nI 6) (by decide +kernel) dL_does_198 ?_
      refine z_icmp_ge h 210 dL_does_200 (by decide) (fun c_200 => ?_) (fun c_200 => ?_)
      · exact absurd c_200 hB
      · refine z_aload_n h 3 rfl dL_does_203 ?_
        refine z_iload_n h 2 rfl dL_does_204 ?_
        refine z_iload_n h 1 rfl dL_does_205 ?_
        refine z_wV h (As := [.int (nI s), .int (nI d)]) (st := []) (ws2 := zCW (zy E) q a (pbG g s d) t c o (puN n (tpN k)) (zSs S (tpN k) (cpSa (S (tpN k)) g))) (r := some (.int (pbG g s d 2 s - nI 1))) 2 (c_X9_stack q a g t c o n S s d (by omega) (by omega) hlt hg h0 k hk4 hn4) gL_does_X9_stack (q0 := 0) (ci := 7) (by decide +kernel) rfl rfl rfl ⟨by decide, by decide⟩ (Nat.le_of_ble_eq_true rfl) rfl rfl dL_does_206 ?_ hkR
        refine z_pop h dL_does_209 rfl ?_
        refine z_iconst h (nI 0) (by decide +kernel) dL_does_210 ?_
        exact z_iret h hf rfl rfl rfl dL_does_211
  · refine z_tblIn h (off := 147) 182 dL_does_35 (by decide +kernel) (by decide +kernel) (by decide +kernel) (by decide) ?_
    refine z_aload_n h 3 rfl dL_does_182 ?_
    refine z_iconst h (nI 1) (by decide +kernel) dL_does_183 ?_
    refine z_iload_n h 1 rfl dL_does_184 ?_
    refine z_iadd h dL_does_185 ?_
    refine z_top (nI (1 + d)) (nI_add _ _) ?_
    refine z_wV h (As := [.int (nI (1 + d))]) (st := []) (ws2 := zCW (zy E) q a g t c o n S) (r := some (.int (wvC g o (1 + d)))) 1 (c_X9_whole q a g t c o n S (1 + d) (by omega) hg) gL_does_X9_whole (q0 := 0) (ci := 7) (by decide +kernel) rfl rfl rfl ⟨by decide, by decide⟩ (Nat.le_of_ble_eq_true rfl) rfl rfl dL_does_186 ?_ hkR
    refine z_if_le h 210 dL_does_189 (by decide) (fun c_189 => ?_) (fun c_189 => ?_)
    · exact absurd c_189 hA
    · refine z_aload_n h 3 rfl dL_does_192 ?_
      refine z_iload_n h 2 rfl dL_does_193 ?_
      refine z_iconst h (nI 0) (by decide +kernel) dL_does_194 ?_
      refine z_wV h (As := [.int (nI s), .int (nI 0)]) (st := []) (ws2 := zCW (zy E) q a g t c o n S) (r := some (.int (svC g s 0))) 2 (c_X9_site q a g t c o n S s 0 (by omega) (by omega) hg (si_8 _ (by omega))) gL_does_X9_site (q0 := 0) (ci := 7) (by decide +kernel) rfl rfl rfl ⟨by decide, by decide⟩ (Nat.le_of_ble_eq_true rfl) rfl rfl dL_does_195 ?_ hkR
      refine z_bipush h (nI 6) (by decide +kernel) dL_does_198 ?_
      refine z_icmp_ge h 210 dL_does_200 (by decide) (fun c_200 => ?_) (fun c_200 => ?_)
      · exact absurd c_200 hB
      · refine z_aload_n h 3 rfl dL_does_203 ?_
        refine z_iload_n h 2 rfl dL_does_204 ?_
        refine z_iload_n h 1 rfl dL_does_205 ?_
        refine z_wV h (As := [.int (nI s), .int (nI d)]) (st := []) (ws2 := zCW (zy E) q a (pbG g s d) t c o (puN n (tpN k)) (zSs S (tpN k) (cpSa (S (tpN k)) g))) (r := some (.int (pbG g s d 2 s - nI 1))) 2 (c_X9_stack q a g t c o n S s d (by omega) (by omega) hlt hg h0 k hk4 hn4) gL_does_X9_stack (q0 := 0) (ci := 7) (by decide +kernel) rfl rfl rfl ⟨by decide, by decide⟩ (Nat.le_of_ble_eq_true rfl) rfl rfl dL_does_206 ?_ hkR
        refine z_pop h dL_does_209 rfl ?_
        refine z_iconst h (nI 0) (by decide +kernel) dL_does_210 ?_
        exact z_iret h hf rfl rfl rfl dL_does_211
  · refine z_tblIn h (off := 147) 182 dL_does_35 (by decide +kernel) (by decide +kernel) (by decide +kernel) (by decide) ?_
    refine z_aload_n h 3 rfl dL_does_182 ?_
    refine z_iconst h (nI 1) (by decide +kernel) dL_does_183 ?_
    refine z_iload_n h 1 rfl dL_does_184 ?_
    refine z_iadd h dL_does_185 ?_
    refine z_top (nI (1 + d)) (nI_add _ _) ?_
    refine z_wV h (As := [.int (nI (1 + d))]) (st := []) (ws2 := zCW (zy E) q a g t c o n S) (r := some (.int (wvC g o (1 + d)))) 1 (c_X9_whole q a g t c o n S (1 + d) (by omega) hg) gL_does_X9_whole (q0 := 0) (ci := 7) (by decide +kernel) rfl rfl rfl ⟨by decide, by decide⟩ (Nat.le_of_ble_eq_true rfl) rfl rfl dL_does_186 ?_ hkR
    refine z_if_le h 210 dL_does_189 (by decide) (fun c_189 => ?_) (fun c_189 => ?_)
    · exact absurd c_189 hA
    · refine z_aload_n h 3 rfl dL_does_192 ?_
      refine z_iload_n h 2 rfl dL_does_193 ?_
      refine z_iconst h (nI 0) (by decide +kernel) dL_does_194 ?_
      refine z_wV h (As := [.int (nI s), .int (nI 0)]) (st := []) (ws2 := zCW (zy E) q a g t c o n S) (r := some (.int (svC g s 0))) 2 (c_X9_site q a g t c o n S s 0 (by omega) (by omega) hg (si_8 _ (by omega))) gL_does_X9_site (q0 := 0) (ci := 7) (by decide +kernel) rfl rfl rfl ⟨by decide, by decide⟩ (Nat.le_of_ble_eq_true rfl) rfl rfl dL_does_195 ?_ hkR
      refine z_bipush h (nI 6) (by decide +kernel) dL_does_198 ?_
      refine z_icmp_ge h 210 dL_does_200 (by decide) (fun c_200 => ?_) (fun c_200 => ?_)
      · exact absurd c_200 hB
      · refine z_aload_n h 3 rfl dL_does_203 ?_
        refine z_iload_n h 2 rfl dL_does_204 ?_
        refine z_iload_n h 1 rfl dL_does_205 ?_
        refine z_wV h (As := [.int (nI s), .int (nI d)]) (st := []) (ws2 := zCW (zy E) q a (pbG g s d) t c o (puN n (tpN k)) (zSs S (tpN k) (cpSa (S (tpN k)) g))) (r := some (.int (pbG g s d 2 s - nI 1))) 2 (c_X9_stack q a g t c o n S s d (by omega) (by omega) hlt hg h0 k hk4 hn4) gL_does_X9_stack (q0 := 0) (ci := 7) (by decide +kernel) rfl rfl rfl ⟨by decide, by decide⟩ (Nat.le_of_ble_eq_true rfl) rfl rfl dL_does_206 ?_ hkR
        refine z_pop h dL_does_209 rfl ?_
        refine z_iconst h (nI 0) (by decide +kernel) dL_does_210 ?_
        exact z_iret h hf rfl rfl rfl dL_does_211
  · refine z_tblIn h (off := 147) 182 dL_does_35 (by decide +kernel) (by decide +kernel) (by decide +kernel) (by decide) ?_
    refine z_aload_n h 3 rfl dL_does_182 ?_
    refine z_iconst h (nI 1) (by decide +kernel) dL_does_183 ?_
    refine z_iload_n h 1 rfl dL_does_184 ?_
    refine z_iadd h dL_does_185 ?_
    refine z_top (nI (1 + d)) (nI_add _ _) ?_
    refine z_wV h (As := [.int (nI (1 + d))]) (st := []) (ws2 := zCW (zy E) q a g t c o n S) (r := some (.int (wvC g o (1 + d)))) 1 (c_X9_whole q a g t c o n S (1 + d) (by omega) hg) gL_does_X9_whole (q0 := 0) (ci := 7) (by decide +kernel) rfl rfl rfl ⟨by decide, by decide⟩ (Nat.le_of_ble_eq_true rfl) rfl rfl dL_does_186 ?_ hkR
    refine z_if_le h 210 dL_does_189 (by decide) (fun c_189 => ?_) (fun c_189 => ?_)
    · exact absurd c_189 hA
    · refine z_aload_n h 3 rfl dL_does_192 ?_
      refine z_iload_n h 2 rfl dL_does_193 ?_
      refine z_iconst h (nI 0) (by decide +kernel) dL_does_194 ?_
      refine z_wV h (As := [.int (nI s), .int (nI 0)]) (st := []) (ws2 := zCW (zy E) q a g t c o n S) (r := some (.int (svC g s 0))) 2 (c_X9_site q a g t c o n S s 0 (by omega) (by omega) hg (si_8 _ (by omega))) gL_does_X9_site (q0 := 0) (ci := 7) (by decide +kernel) rfl rfl rfl ⟨by decide, by decide⟩ (Nat.le_of_ble_eq_true rfl) rfl rfl dL_does_195 ?_ hkR
      refine z_bipush h (nI 6) (by decide +kernel) dL_does_198 ?_
      refine z_icmp_ge h 210 dL_does_200 (by decide) (fun c_200 => ?_) (fun c_200 => ?_)
      · exact absurd c_200 hB
      · refine z_aload_n h 3 rfl dL_does_203 ?_
        refine z_iload_n h 2 rfl dL_does_204 ?_
        refine z_iload_n h 1 rfl dL_does_205 ?_
        refine z_wV h (As := [.int (nI s), .int (nI d)]) (st := []) (ws2 := zCW (zy E) q a (pbG g s d) t c o (puN n (tpN k)) (zSs S (tpN k) (cpSa (S (tpN k)) g))) (r := some (.int (pbG g s d 2 s - nI 1))) 2 (c_X9_stack q a g t c o n S s d (by omega) (by omega) hlt hg h0 k hk4 hn4) gL_does_X9_stack (q0 := 0) (ci := 7) (by decide +kernel) rfl rfl rfl ⟨by decide, by decide⟩ (Nat.le_of_ble_eq_true rfl) rfl rfl dL_does_206 ?_ hkR
        refine z_pop h dL_does_209 rfl ?_
        refine z_iconst h (nI 0) (by decide +kernel) dL_does_210 ?_
        exact z_iret h hf rfl rfl rfl dL_does_211

set_option maxHeartbeats 4000000 in
set_option maxRecDepth 100000 in
/-- does: C1 -/
theorem c_L_does_C1 {l : Launch} {y : zY} {D : va_G} (q : Nat → Nat) (a : Nat → Nat → Nat) (g t c o n : Nat → Nat → Int32) (S : Nat → Nat → Nat → Int32) (v : Int32) (s d u j : Nat) (hs : s < 8) (hd : d < 3) (hu : u < 99) (es : lowI (v >>> (nI 4 &&& 31)) (nI 8) = nI s) (ed : lowI (v >>> (nI 7 &&& 31)) (nI 3) = nI d) (eu : lowI (v >>> (nI 9 &&& 31)) (nI 99) = nI u) (ej : v &&& nI 15 = nI j) (hj : j = 5 ∨ j = 6 ∨ j = 7 ∨ j = 8) (hA : ¬ (¬ wvC g o (1 + d) ≤ 0 ∧ ¬ nI 6 ≤ svC g s 0)) (hg : okH g) : zM l y D yL_does wsL_does 6 188 [.ref (q 0), .int v] (zCW y q a g t c o n S) (zCW y q a g t c o n S) (some (.int (nI 0))) := by
  refine z_start (own := RL) (cc := cL_does) (maxL := 5) (ret := (some .int)) rfl (by decide +kernel) rfl (Nat.le_of_ble_eq_true rfl) (zCW_fst _ _ _ _ _ _ _ _ _ _ _ _ _ _ _) ?_
  intro E hEl hEy hED h hf
  subst hEl hEy hED
  have hkR : 0 ≤ E.2.2.2.2.2.1.cells ∧ 0 ≤ E.2.2.2.2.2.1.slots := ⟨Nat.zero_le _, Nat.zero_le _⟩
  refine z_cast (lv := [(0, .ref (q 0)), (1, .int v)]) (ws := (zCW (zy E) q a g t c o n S)) (st := []) ?_ rfl rfl rfl
  refine z_iload_n h 1 rfl dL_does_0 ?_
  refine z_iconst h (nI 4) (by decide +kernel) dL_does_1 ?_
  refine z_ishr h dL_does_2 ?_
  refine z_bipush h (nI 8) (by decide +kernel) dL_does_3 ?_
  refine z_wS h (As := [.int (v >>> ((nI 4) &&& 31)), .int (nI 8)]) (st := []) (ws2 := zCW (zy E) q a g t c o n S) (r := some (.int (lowI (v >>> ((nI 4) &&& 31)) (nI 8)))) 2 (z_any _ (c_L_low (v >>> ((nI 4) &&& 31)) (nI 8) (by decide +kernel))) gL_does_L_low (by decide +kernel) rfl ⟨by decide, by decide⟩ (Nat.le_of_ble_eq_true rfl) rfl rfl dL_does_5 ?_ hkR
  refine z_top (nI s) es ?_
  refine z_istore_n h (by decide) (lv' := [(2, .int (nI s)), (0, .ref (q 0)), (1, .int v)]) rfl dL_does_8 ?_
  refine z_iload_n h 2 rfl dL_does_9 ?_
  refine z_bipush h (nI 7) (by decide +kernel) dL_does_10 ?_
  refine z_ishr h dL_does_12 ?_
  refine z_iconst h (nI 3) (by decide +kernel) dL_does_13 ?_
  refine z_wS h (As := [.int (v >>> ((nI 7) &&& 31)), .int (nI 3)]) (st := []) (ws2 := zCW (zy E) q a g t c o n S) (r := some (.int (lowI (v >>> ((nI 7) &&& 31)) (nI 3)))) 2 (z_any _ (c_L_low (v >>> ((nI 7) &&& 31)) (nI 3) (by decide +kernel))) gL_does_L_low (by decide +kernel) rfl ⟨by decide, by decide⟩ (Nat.le_of_ble_eq_true rfl) rfl rfl dL_does_14 ?_ hkR
  refine z_top (nI d) ed ?_
  refine z_istore_n h (by decide) (lv' := [(3, .int (nI d)), (2, .int (nI s)), (0, .ref (q 0)), (1, .int v)]) rfl dL_does_17 ?_
  refine z_iconst h (nI 1) (by decide +kernel) dL_does_18 ?_
  refine z_iload_n h 3 rfl dL_does_19 ?_
  refine z_bipush h (nI 9) (by decide +kernel) dL_does_20 ?_
  refine z_ishr h dL_does_22 ?_
  refine z_bipush h (nI 99) (by decide +kernel) dL_does_23 ?_
  refine z_wS h (As := [.int (v >>> ((nI 9) &&& 31)), .int (nI 99)]) (st := [.int (nI 1)]) (ws2 := zCW (zy E) q a g t c o n S) (r := some (.int (lowI (v >>> ((nI 9) &&& 31)) (nI 99)))) 2 (z_any _ (c_L_low (v >>> ((nI 9) &&& 31)) (nI 99) (by decide +kernel))) gL_does_L_low (by decide +kernel) rfl ⟨by decide, by decide⟩ (Nat.le_of_ble_eq_true rfl) rfl rfl dL_does_25 ?_ hkR
  refine z_top (nI u) eu ?_
  refine z_iadd h dL_does_28 ?_
  refine z_top (nI (1 + u)) (nI_add _ _) ?_
  refine z_istore h (by decide) (lv' := [(4, .int (nI (1 + u))), (3, .int (nI d)), (2, .int (nI s)), (0, .ref (q 0)), (1, .int v)]) rfl dL_does_29 ?_
  refine z_iload_n h 4 rfl dL_does_31 ?_
  refine z_bipush h (nI 15) (by decide +kernel) dL_does_32 ?_
  refine z_iand h dL_does_34 ?_
  refine z_top (nI j) ej ?_
  rcases hj with rfl | rfl | rfl | rfl
  · refine z_tblIn h (off := 147) 182 dL_does_35 (by decide +kernel) (by decide +kernel) (by decide +kernel) (by decide) ?_
    refine z_aload_n h 3 rfl dL_does_182 ?_
    refine z_iconst h (nI 1) (by decide +kernel) dL_does_183 ?_
    refine z_iload_n h 1 rfl dL_does_184 ?_
    refine z_iadd h dL_does_185 ?_
    refine z_top (nI (1 + d)) (nI_add _ _) ?_
    refine z_wV h (As := [.int (nI (1 + d))]) (st := []) (ws2 := zCW (zy E) q a g t c o n S) (r := some (.int (wvC g o (1 + d)))) 1 (c_X9_whole q a g t c o n S (1 + d) (by omega) hg) gL_does_X9_whole (q0 := 0) (ci := 7) (by decide +kernel) rfl rfl rfl ⟨by decide, by decide⟩ (Nat.le_of_ble_eq_true rfl) rfl rfl dL_does_186 ?_ hkR
    refine z_if_le h 210 dL_does_189 (by decide) (fun c_189 => ?_) (fun c_189 => ?_)
    · refine z_iconst h (nI 0) (by decide +kernel) dL_does_210 ?_
      exact z_iret h hf rfl rfl rfl dL_does_211
    · refine z_aload_n h 3 rfl dL_does_192 ?_
      refine z_iload_n h 2 rfl dL_does_193 ?_
      refine z_iconst h (nI 0) (by decide +kernel) dL_does_194 ?_
      refine z_wV h (As := [.int (nI s), .int (nI 0)]) (st := []) (ws2 := zCW (zy E) q a g t c o n S) (r := some (.int (svC g s 0))) 2 (c_X9_site q a g t c o n S s 0 (by omega) (by omega) hg (si_8 _ (by omega))) gL_does_X9_site (q0 := 0) (ci := 7) (by decide +kernel) rfl rfl rfl ⟨by decide, by decide⟩ (Nat.le_of_ble_eq_true rfl) rfl rfl dL_does_195 ?_ hkR
      refine z_bipush h (nI 6) (by decide +kernel) dL_does_198 ?_
      refine z_icmp_ge h 210 dL_does_200 (by decide) (fun c_200 => ?_) (fun c_200 => ?_)
      · refine z_iconst h (nI 0) (by decide +kernel) dL_does_210 ?_
        exact z_iret h hf rfl rfl rfl dL_does_211
      · exact absurd ⟨c_189, c_200⟩ hA
  · refine z_tblIn h (off := 147) 182 dL_does_35 (by decide +kernel) (by decide +kernel) (by decide +kernel) (by decide) ?_
    refine z_aload_n h 3 rfl dL_does_182 ?_
    refine z_iconst h (nI 1) (by decide +kernel) dL_does_183 ?_
    refine z_iload_n h 1 rfl dL_does_184 ?_
    refine z_iadd h dL_does_185 ?_
    refine z_top (nI (1 + d)) (nI_add _ _) ?_
    refine z_wV h (As := [.int (nI (1 + d))]) (st := []) (ws2 := zCW (zy E) q a g t c o n S) (r := some (.int (wvC g o (1 + d)))) 1 (c_X9_whole q a g t c o n S (1 + d) (by omega) hg) gL_does_X9_whole (q0 := 0) (ci := 7) (by decide +kernel) rfl rfl rfl ⟨by decide, by decide⟩ (Nat.le_of_ble_eq_true rfl) rfl rfl dL_does_186 ?_ hkR
    refine z_if_le h 210 dL_does_189 (by decide) (fun c_189 => ?_) (fun c_189 => ?_)
    · refine z_iconst h (nI 0) (by decide +kernel) dL_does_210 ?_
      exact z_iret h hf rfl rfl rfl dL_does_211
    · refine z_aload_n h 3 rfl dL_does_192 ?_
      refine z_iload_n h 2 rfl dL_does_193 ?_
      refine z_iconst h (nI 0) (by decide +kernel) dL_does_194 ?_
      refine z_wV h (As := [.int (nI s), .int (nI 0)]) (st := []) (ws2 := zCW (zy E) q a g t c o n S) (r := some (.int (svC g s 0))) 2 (c_X9_site q a g t c o n S s 0 (by omega) (by omega) hg (si_8 _ (by omega))) gL_does_X9_site (q0 := 0) (ci := 7) (by decide +kernel) rfl rfl rfl ⟨by decide, by decide⟩ (Nat.le_of_ble_eq_true rfl) rfl rfl dL_does_195 ?_ hkR
      refine z_bipush h (nI 6) (by decide +kernel) dL_does_198 ?_
      refine z_icmp_ge h 210 dL_does_200 (by decide) (fun c_200 => ?_) (fun c_200 => ?_)
      · refine z_iconst h (nI 0) (by decide +kernel) dL_does_210 ?_
        exact z_iret h hf rfl rfl rfl dL_does_211
      · exact absurd ⟨c_189, c_200⟩ hA
  · refine z_tblIn h (off := 147) 182 dL_does_35 (by decide +kernel) (by decide +kernel) (by decide +kernel) (by decide) ?_
    refine z_aload_n h 3 rfl dL_does_182 ?_
    refine z_iconst h (nI 1) (by decide +kernel) dL_does_183 ?_
    refine z_iload_n h 1 rfl dL_does_184 ?_
    refine z_iadd h dL_does_185 ?_
    refine z_top (nI (1 + d)) (nI_add _ _) ?_
    refine z_wV h (As := [.int (nI (1 + d))]) (st := []) (ws2 := zCW (zy E) q a g t c o n S) (r := some (.int (wvC g o (1 + d)))) 1 (c_X9_whole q a g t c o n S (1 + d) (by omega) hg) gL_does_X9_whole (q0 := 0) (ci := 7) (by decide +kernel) rfl rfl rfl ⟨by decide, by decide⟩ (Nat.le_of_ble_eq_true rfl) rfl rfl dL_does_186 ?_ hkR
    refine z_if_le h 210 dL_does_189 (by decide) (fun c_189 => ?_) (fun c_189 => ?_)
    · refine z_iconst h (nI 0) (by decide +kernel) dL_does_210 ?_
      exact z_iret h hf rfl rfl rfl dL_does_211
    · refine z_aload_n h 3 rfl dL_does_192 ?_
      refine z_iload_n h 2 rfl dL_does_193 ?_
      refine z_iconst h (nI 0) (by decide +kernel) dL_does_194 ?_
      refine z_wV h (As := [.int (nI s), .int (nI 0)]) (st := []) (ws2 := zCW (zy E) q a g t c o n S) (r := some (.int (svC g s 0))) 2 (c_X9_site q a g t c o n S s 0 (by omega) (by omega) hg (si_8 _ (by omega))) gL_does_X9_site (q0 := 0) (ci := 7) (by decide +kernel) rfl rfl rfl ⟨by decide, by decide⟩ (Nat.le_of_ble_eq_true rfl) rfl rfl dL_does_195 ?_ hkR
      refine z_bipush h (nI 6) (by decide +kernel) dL_does_198 ?_
      refine z_icmp_ge h 210 dL_does_200 (by decide) (fun c_200 => ?_) (fun c_200 => ?_)
      · refine z_iconst h (nI 0) (by decide +kernel) dL_does_210 ?_
        exact z_iret h hf rfl rfl rfl dL_does_211
      · exact absurd ⟨c_189, c_200⟩ hA
  · refine z_tblIn h (off := 147) 182 dL_does_35 (by decide +kernel) (by decide +kernel) (by decide +kernel) (by decide) ?_
    refine z_aload_n h 3 rfl dL_does_182 ?_
    refine z_iconst h (nI 1) (by decide +kernel) dL_does_183 ?_
    refine z_iload_n h 1 rfl dL_does_184 ?_
    refine z_iadd h dL_does_185 ?_
    refine z_top (nI (1 + d)) (nI_add _ _) ?_
    refine z_wV h (As := [.int (nI (1 + d))]) (st := []) (ws2 := zCW (zy E) q a g t c o n S) (r := some (.int (wvC g o (1 + d)))) 1 (c_X9_whole q a g t c o n S (1 + d) (by omega) hg) gL_does_X9_whole (q0 := 0) (ci := 7) (by decide +kernel) rfl rfl rfl ⟨by decide, by decide⟩ (Nat.le_of_ble_eq_true rfl) rfl rfl dL_does_186 ?_ hkR
    refine z_if_le h 210 dL_does_189 (by decide) (fun c_189 => ?_) (fun c_189 => ?_)
    · refine z_iconst h (nI 0) (by decide +kernel) dL_does_210 ?_
      exact z_iret h hf rfl rfl rfl dL_does_211
    · refine z_aload_n h 3 rfl dL_does_192 ?_
      refine z_iload_n h 2 rfl dL_does_193 ?_
      refine z_iconst h (nI 0) (by decide +kernel) dL_does_194 ?_
      refine z_wV h (As := [.int (nI s), .int (nI 0)]) (st := []) (ws2 := zCW (zy E) q a g t c o n S) (r := some (.int (svC g s 0))) 2 (c_X9_site q a g t c o n S s 0 (by omega) (by omega) hg (si_8 _ (by omega))) gL_does_X9_site (q0 := 0) (ci := 7) (by decide +kernel) rfl rfl rfl ⟨by decide, by decide⟩ (Nat.le_of_ble_eq_true rfl) rfl rfl dL_does_195 ?_ hkR
      refine z_bipush h (nI 6) (by decide +kernel) dL_does_198 ?_
      refine z_icmp_ge h 210 dL_does_200 (by decide) (fun c_200 => ?_) (fun c_200 => ?_)
      · refine z_iconst h (nI 0) (by decide +kernel) dL_does_210 ?_
        exact z_iret h hf rfl rfl rfl dL_does_211
      · exact absurd ⟨c_189, c_200⟩ hA

set_option maxHeartbeats 4000000 in
set_option maxRecDepth 100000 in
/-- does: D0 -/
theorem c_L_does_D0 {l : Launch} {y : zY} {D : va_G} (q : Nat → Nat) (a : Nat → Nat → Nat) (g t c o n : Nat → Nat → Int32) (S : Nat → Nat → Nat → Int32) (v : Int32) (s d u j : Nat) (hs : s < 8) (hd : d < 3) (hu : u < 99) (es : lowI (v >>> (nI 4 &&& 31)) (nI 8) = nI s) (ed : lowI (v >>> (nI 7 &&& 31)) (nI 3) = nI d) (eu : lowI (v >>> (nI 9 &&& 31)) (nI 99) = nI u) (ej : v &&& nI 15 = nI j) (hj : j = 9) (k : Nat) (hk4 : k < 4) (hn4 : n 0 1 = nI k) (e : Nat) (he : e < 20) (ee : lowI (v >>> (nI 9 &&& 31)) (nI 20) = nI e) (hA : ¬ nI 5 ≤ wvC g o 10) (hg : okH g) (hgt5 : g 0 6 = nI (zt g) ∧ zt g < 5) (h0 : toC g (nI (1 + e)) = nI 0) : zM l y D yL_does wsL_does 6 188 [.ref (q 0), .int v] (zCW y q a g t c o n S) (zCW y q a (taG g (nI (1 + e))) t c o (puN n (tpN k)) (zSs S (tpN k) (cpSa (S (tpN k)) g))) (some (.int (nI 0))) := by
  refine z_start (own := RL) (cc := cL_does) (maxL := 5) (ret := (some .int)) rfl (by decide +kernel) rfl (Nat.le_of_ble_eq_true rfl) (zCW_fst _ _ _ _ _ _ _ _ _ _ _ _ _ _ _) ?_
  intro E hEl hEy hED h hf
  subst hEl hEy hED
  have hkR : 0 ≤ E.2.2.2.2.2.1.cells ∧ 0 ≤ E.2.2.2.2.2.1.slots := ⟨Nat.zero_le _, Nat.zero_le _⟩
  refine z_cast (lv := [(0, .ref (q 0)), (1, .int v)]) (ws := (zCW (zy E) q a g t c o n S)) (st := []) ?_ rfl rfl rfl
  refine z_iload_n h 1 rfl dL_does_0 ?_
  refine z_iconst h (nI 4) (by decide +kernel) dL_does_1 ?_
  refine z_ishr h dL_does_2 ?_
  refine z_bipush h (nI 8) (by decide +kernel) dL_does_3 ?_
  refine z_wS h (As := [.int (v >>> ((nI 4) &&& 31)), .int (nI 8)]) (st := []) (ws2 := zCW (zy E) q a g t c o n S) (r := some (.int (lowI (v >>> ((nI 4) &&& 31)) (nI 8)))) 2 (z_any _ (c_L_low (v >>> ((nI 4) &&& 31)) (nI 8) (by decide +kernel))) gL_does_L_low (by decide +kernel) rfl ⟨by decide, by decide⟩ (Nat.le_of_ble_eq_true rfl) rfl rfl dL_does_5 ?_ hkR
  refine z_top (nI s) es ?_
  refine z_istore_n h (by decide) (lv' := [(2, .int (nI s)), (0, .ref (q 0)), (1, .int v)]) rfl dL_does_8 ?_
  refine z_iload_n h 2 rfl dL_does_9 ?_
  refine z_bipush h (nI 7) (by decide +kernel) dL_does_10 ?_
  refine z_ishr h dL_does_12 ?_
  refine z_iconst h (nI 3) (by decide +kernel) dL_does_13 ?_
  refine z_wS h (As := [.int (v >>> ((nI 7) &&& 31)), .int (nI 3)]) (st := []) (ws2 := zCW (zy E) q a g t c o n S) (r := some (.int (lowI (v >>> ((nI 7) &&& 31)) (nI 3)))) 2 (z_any _ (c_L_low (v >>> ((nI 7) &&& 31)) (nI 3) (by decide +kernel))) gL_does_L_low (by decide +kernel) rfl ⟨by decide, by decide⟩ (Nat.le_of_ble_eq_true rfl) rfl rfl dL_does_14 ?_ hkR
  refine z_top (nI d) ed ?_
  refine z_istore_n h (by decide) (lv' := [(3, .int (nI d)), (2, .int (nI s)), (0, .ref (q 0)), (1, .int v)]) rfl dL_does_17 ?_
  refine z_iconst h (nI 1) (by decide +kernel) dL_does_18 ?_
  refine z_iload_n h 3 rfl dL_does_19 ?_
  refine z_bipush h (nI 9) (by decide +kernel) dL_does_20 ?_
  refine z_ishr h dL_does_22 ?_
  refine z_bipush h (nI 99) (by decide +kernel) dL_does_23 ?_
  refine z_wS h (As := [.int (v >>> ((nI 9) &&& 31)), .int (nI 99)]) (st := [.int (nI 1)]) (ws2 := zCW (zy E) q a g t c o n S) (r := some (.int (lowI (v >>> ((nI 9) &&& 31)) (nI 99)))) 2 (z_any _ (c_L_low (v >>> ((nI 9) &&& 31)) (nI 99) (by decide +kernel))) gL_does_L_low (by decide +kernel) rfl ⟨by decide, by decide⟩ (Nat.le_of_ble_eq_true rfl) rfl rfl dL_does_25 ?_ hkR
  refine z_top (nI u) eu ?_
  refine z_iadd h dL_does_28 ?_
  refine z_top (nI (1 + u)) (nI_add _ _) ?_
  refine z_istore h (by decide) (lv' := [(4, .int (nI (1 + u))), (3, .int (nI d)), (2, .int (nI s)), (0, .ref (q 0)), (1, .int v)]) rfl dL_does_29 ?_
  refine z_iload_n h 4 rfl dL_does_31 ?_
  refine z_bipush h (nI 15) (by decide +kernel) dL_does_32 ?_
  refine z_iand h dL_does_34 ?_
  refine z_top (nI j) ej ?_
  subst hj
  · refine z_tblIn h (off := 177) 212 dL_does_35 (by decide +kernel) (by decide +kernel) (by decide +kernel) (by decide) ?_
    refine z_aload_n h 3 rfl dL_does_212 ?_
    refine z_bipush h (nI 10) (by decide +kernel) dL_does_213 ?_
    refine z_wV h (As := [.int (nI 10)]) (st := []) (ws2 := zCW (zy E) q a g t c o n S) (r := some (.int (wvC g o 10))) 1 (c_X9_whole q a g t c o n S 10 (by omega) hg) gL_does_X9_whole (q0 := 0) (ci := 7) (by decide +kernel) rfl rfl rfl ⟨by decide, by decide⟩ (Nat.le_of_ble_eq_true rfl) rfl rfl dL_does_215 ?_ hkR
    refine z_iconst h (nI 5) (by decide +kernel) dL_does_218 ?_
    refine z_icmp_ge h 238 dL_does_219 (by decide) (fun c_219 => ?_) (fun c_219 => ?_)
    · exact absurd c_219 hA
    · refine z_aload_n h 3 rfl dL_does_222 ?_
      refine z_iconst h (nI 1) (by decide +kernel) dL_does_223 ?_
      refine z_iload_n h 4 rfl dL_does_224 ?_
      refine z_bipush h (nI 9) (by decide +kernel) dL_does_225 ?_
      refine z_ishr h dL_does_227 ?_
      refine z_bipush h (nI 20) (by decide +kernel) dL_does_228 ?_
      refine z_wS h (As := [.int (v >>> ((nI 9) &&& 31)), .int (nI 20)]) (st := [.int (nI 1), .ref (q 0)]) (ws2 := zCW (zy E) q a g t c o n S) (r := some (.int (lowI (v >>> ((nI 9) &&& 31)) (nI 20)))) 2 (z_any _ (c_L_low (v >>> ((nI 9) &&& 31)) (nI 20) (by decide +kernel))) gL_does_L_low (by decide +kernel) rfl ⟨by decide, by decide⟩ (Nat.le_of_ble_eq_true rfl) rfl rfl dL_does_230 ?_ hkR
      refine z_top (nI e) ee ?_
      refine z_iadd h dL_does_233 ?_
      refine z_top (nI (1 + e)) (nI_add _ _) ?_
      refine z_wV h (As := [.int (nI (1 + e))]) (st := []) (ws2 := zCW (zy E) q a (taG g (nI (1 + e))) t c o (puN n (tpN k)) (zSs S (tpN k) (cpSa (S (tpN k)) g))) (r := some (.int (taG g (nI (1 + e)) 0 6 - nI 1))) 1 (c_X9_addTool q a g t c o n S (nI (1 + e)) hgt5 h0 k hk4 hn4) gL_does_X9_addTool (q0 := 0) (ci := 7) (by decide +kernel) rfl rfl rfl ⟨by decide, by decide⟩ (Nat.le_of_ble_eq_true rfl) rfl rfl dL_does_234 ?_ hkR
      refine z_pop h dL_does_237 rfl ?_
      refine z_iconst h (nI 0) (by decide +kernel) dL_does_238 ?_
      exact z_iret h hf rfl rfl rfl dL_does_239
