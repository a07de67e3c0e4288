/-! the law's loop -/
theorem lc_0 {x z : Int64} (h : x = z) : lg_cmp x z = nI 0 := by
  subst h
  unfold lg_cmp
  rw [if_neg (fun q => Int64.lt_irrefl q), if_pos rfl]
  rfl
theorem un_v {n : Nat → Nat → Int32} {u k : Nat} (hu : u ≤ 4) (hk : k < 4) (hn : n 0 0 = nI u) : ∃ w, w ≤ 3 ∧ poN (puN n (tpN k)) (tmN (tpN k)) 0 0 = nI w ∧ UN (poN (puN n (tpN k)) (tmN (tpN k))) ∧ (w < 3 → n 0 0 = nI w) ∧ ¬ puN n (tpN k) 0 0 = 0 := by
  have e := pu_n (j := tpN k) hu hn
  have e2 : poN (puN n (tpN k)) (tmN (tpN k)) 0 0 = puN n (tpN k) 0 0 - nI 1 := rfl
  by_cases c : u = 4
  · rw [if_pos c] at e
    refine ⟨3, by omega, by rw [e2, e]; decide +kernel, ⟨3, tmN (tpN k), by omega, tm_lt (tp_lt hk), by rw [e2, e]; decide +kernel, rfl⟩, fun h => absurd h (by omega), by rw [e]; decide +kernel⟩
  · rw [if_neg c] at e
    have e3 : poN (puN n (tpN k)) (tmN (tpN k)) 0 0 = nI u := by
      rw [e2, e, pk_sub (by omega), Nat.add_sub_cancel]
    exact ⟨u, by omega, e3, ⟨u, tmN (tpN k), by omega, tm_lt (tp_lt hk), e3, rfl⟩, fun _ => hn, by rw [e]; exact nI_nz (by omega) (by omega)⟩
set_option maxHeartbeats 8000000 in
set_option maxRecDepth 100000 in
theorem law_loop {E : zE} (h : zC E RL cL_law wsL_law 12 438 10) {q : Nat → Nat} {a : Nat → Nat → Nat} {o : Nat → Nat → Int32} (hL : (zy E).2 101 < 2 ^ 31) {kk nn : Nat} (hkR : kk ≤ E.2.2.2.2.2.1.cells ∧ nn ≤ E.2.2.2.2.2.1.slots) (fin : ∀ (lv : List (Nat × Value)) (ws : va_W), Z E kk nn lv ws 187 []) : ∀ d i, i + d = 40 → ∀ (g t c n : Nat → Nat → Int32) (S : Nat → Nat → Nat → Int32) (ad : Int32), IV g ad → UN n → Z E kk nn [(0, .ref ((zy E).2 100)), (1, .ref (q 0)), (2, .int ad), (3, .int (nI i))] (zCW (zy E) q a g t c o n S) 38 [] := by
  intro d
  induction d with
  | zero =>
    intro i hi g t c n S ad I U
    refine z_iload_n h 3 rfl dL_law_38 ?_
    refine z_bipush h (nI 40) (by decide +kernel) dL_law_39 ?_
    exact z_icmp_ge h 187 dL_law_41 (by decide) (fun _ => fin _ _) (fun c_41 => absurd ((nI_leI (by omega) (by omega)).mpr (by omega)) c_41)
  | succ d ih =>
    intro i hi g t c n S ad I U
    refine z_iload_n h 3 rfl dL_law_38 ?_
    refine z_bipush h (nI 40) (by decide +kernel) dL_law_39 ?_
    refine z_icmp_ge h 187 dL_law_41 (by decide) (fun c_41 => ?_) (fun c_41 => ?_)
    · exact absurd ((nI_leI (by omega) (by omega)).mp c_41) (by omega)
    · have k_41 : ¬ (40 ≤ i) := fun q => c_41 ((nI_leI (by omega) (by omega)).mpr q)
      refine z_iload_n h 2 rfl dL_law_44 ?_
      refine z_aload_n h 1 rfl dL_law_45 ?_
      refine z_aload_n h 0 rfl dL_law_46 ?_
      refine z_iload_n h 3 rfl dL_law_47 ?_
      refine z_wS h (As := [.ref ((zy E).2 100), .int (nI i)]) (st := [.ref (q 0), .int ad]) (ws2 := zCW (zy E) q a g t c o n S) (r := some (.int (cellV (zy E) i))) 2 (z_any _ (c_L_cell i (by omega) hL)) gL_law_L_cell (by decide +kernel) rfl ⟨by decide, by decide⟩ (Nat.le_of_ble_eq_true rfl) rfl rfl dL_law_48 ?_ hkR
      obtain ⟨g1, n1, S1, r, z1, I1, U1⟩ := does_ok (l := zl E) (y := zy E) (D := zD E) q a g t c o n S I U (cellV (zy E) i)
      obtain ⟨f1, H1⟩ := id I1.2.1
      have O1 := I1.1
      have hg := O1.1
      have hgt := O1.2.1
      have hgb := O1.2.2.1
      refine z_wS h (As := [.ref (q 0), .int (cellV (zy E) i)]) (st := [.int ad]) (ws2 := zCW (zy E) q a g1 t c o n1 S1) (r := some (.int r)) 2 z1 gL_law_L_does (by decide +kernel) rfl ⟨by decide, by decide⟩ (Nat.le_of_ble_eq_true rfl) rfl rfl dL_law_51 ?_ hkR
      refine z_iadd h dL_law_54 ?_
      refine z_istore_n h (by decide) (lv' := [(2, .int (ad + r)), (0, .ref ((zy E).2 100)), (1, .ref (q 0)), (3, .int (nI i))]) rfl dL_law_55 ?_
      refine z_aload_n h 2 rfl dL_law_56 ?_
      refine z_iload_n h 0 rfl dL_law_57 ?_
      refine z_wS h (As := [.ref (q 0), .int (ad + r)]) (st := []) (ws2 := zCW (zy E) q a g1 (arT g1 t 8) c o n1 S1) (r := some (.int (nI 1))) 2 (c_L_areSitesSo q a g1 t c o n1 S1 hg (ad + r) (vol_in O1 H1) I1.2.2.2 I1.2.2.1.symm) gL_law_L_areSitesSo (by decide +kernel) rfl ⟨by decide, by decide⟩ (Nat.le_of_ble_eq_true rfl) rfl rfl dL_law_58 ?_ hkR
      refine z_gen (fun t2 => zCW (zy E) q a g1 t2 c o n1 S1) (arT g1 t 8) (fun t2 ht2 => ?_)
      refine z_if_eq h 71 dL_law_61 (by decide) (fun c_61 => ?_) (fun c_61 => ?_)
      · exact absurd c_61 (by decide +kernel)
      · obtain ⟨hid, hct⟩ := ct_so O1 H1 c (tkC g1 c) rfl
        have zc : zM (zl E) (zy E) (zD E) yL_isCountSo wsL_isCountSo 6 139 [.ref (q 0)] (zCW (zy E) q a g1 t2 c o n1 S1) (zCW (zy E) q a g1 t2 (tkC g1 c) o n1 S1) (some (.int (nI 1))) := by
          rcases hct with ⟨m1, m2, m3⟩ | ⟨r9, m9, w9, b1, b2, b3, b4, b5, b6, b7, b8, b9, b10⟩
          · exact c_L_isCountSo_0 q a g1 _ c o n1 S1 hg hgb (tkC g1 c) rfl hid m1 m2 m3
          · exact c_L_isCountSo_1 q a g1 _ c o n1 S1 hg hgb (tkC g1 c) rfl hid r9 m9 w9 b1 b2 b3 b4 b5 b6 b7 b8 b9 b10
        refine z_aload_n h 2 rfl dL_law_64 ?_
        refine z_wS h (As := [.ref (q 0)]) (st := []) (ws2 := zCW (zy E) q a g1 t2 (tkC g1 c) o n1 S1) (r := some (.int (nI 1))) 1 zc gL_law_L_isCountSo (by decide +kernel) rfl ⟨by decide, by decide⟩ (Nat.le_of_ble_eq_true rfl) rfl rfl dL_law_65 ?_ hkR
        refine z_gen (fun c2 => zCW (zy E) q a g1 t2 c2 o n1 S1) (tkC g1 c) (fun c2 hc2 => ?_)
        refine z_if_ne h 73 dL_law_68 (by decide) (fun c_68 => ?_) (fun c_68 => ?_)
        · refine z_aload_n h 1 rfl dL_law_73 ?_
          refine z_iload_n h 3 rfl dL_law_74 ?_
          obtain ⟨s, hs, es⟩ := low_v (cellV (zy E) i >>> (nI 20 &&& 31)) (n := 8) (by omega) (by omega)
          refine z_wS h (As := [.ref ((zy E).2 100), .int (nI i)]) (st := []) (ws2 := zCW (zy E) q a g1 t2 c2 o n1 S1) (r := some (.int (cellV (zy E) i))) 2 (z_any _ (c_L_cell i (by omega) hL)) gL_law_L_cell (by decide +kernel) rfl ⟨by decide, by decide⟩ (Nat.le_of_ble_eq_true rfl) rfl rfl dL_law_75 ?_ hkR
          refine z_bipush h (nI 20) (by decide +kernel) dL_law_78 ?_
          refine z_ishr h dL_law_80 ?_
          refine z_bipush h (nI 8) (by decide +kernel) dL_law_81 ?_
          refine z_wS h (As := [.int ((cellV (zy E) i) >>> ((nI 20) &&& 31)), .int (nI 8)]) (st := []) (ws2 := zCW (zy E) q a g1 t2 c2 o n1 S1) (r := some (.int (lowI ((cellV (zy E) i) >>> ((nI 20) &&& 31)) (nI 8)))) 2 (z_any _ (c_L_low ((cellV (zy E) i) >>> ((nI 20) &&& 31)) (nI 8) (by decide +kernel))) gL_law_L_low (by decide +kernel) rfl ⟨by decide, by decide⟩ (Nat.le_of_ble_eq_true rfl) rfl rfl dL_law_83 ?_ hkR
          refine z_top (nI s) es ?_
          refine z_istore h (by decide) (lv' := [(4, .int (nI s)), (2, .int (ad + r)), (0, .ref ((zy E).2 100)), (1, .ref (q 0)), (3, .int (nI i))]) rfl dL_law_86 ?_
          refine z_iconst h (nI 0) (by decide +kernel) dL_law_88 ?_
          refine z_istore h (by decide) (lv' := [(5, .int (nI 0)), (4, .int (nI s)), (2, .int (ad + r)), (0, .ref ((zy E).2 100)), (1, .ref (q 0)), (3, .int (nI i))]) rfl dL_law_89 ?_
          refine z_iconst h (nI 0) (by decide +kernel) dL_law_91 ?_
          refine z_istore h (by decide) (lv' := [(6, .int (nI 0)), (5, .int (nI 0)), (4, .int (nI s)), (2, .int (ad + r)), (0, .ref ((zy E).2 100)), (1, .ref (q 0)), (3, .int (nI i))]) rfl dL_law_92 ?_
          have lp_94 : ∀ (d_94 j9 : Nat), 8 < j9 + d_94 → j9 ≤ 8 → Z E kk nn [(0, .ref ((zy E).2 100)), (1, .ref (q 0)), (2, .int (ad + r)), (3, .int (nI i)), (4, .int (nI s)), (5, .int (mgA g1 j9)), (6, .int (nI j9))] (zCW (zy E) q a g1 t2 c2 o n1 S1) 94 [] := by
            intro d_94
            induction d_94 with
            | zero => intro j9  q1 q2; omega
            | succ d_94 ih_94 =>
              intro j9  q1_94 q2_94 
              refine z_iload h 6 rfl dL_law_94 ?_
              refine z_bipush h (nI 8) (by decide +kernel) dL_law_96 ?_
              refine z_icmp_ge h 118 dL_law_98 (by decide) (fun c_98 => ?_) (fun c_98 => ?_)
              · have k_98 : 8 ≤ j9 := (nI_leI (by omega) (by omega)).mp c_98
                obtain rfl : j9 = 8 := by omega
                refine z_aload_n h 1 rfl dL_law_118 ?_
                refine z_iload h 4 rfl dL_law_119 ?_
                refine z_iconst h (nI 1) (by decide +kernel) dL_law_121 ?_
                refine z_wV h (As := [.int (nI s), .int (nI 1)]) (st := []) (ws2 := zCW (zy E) q a g1 (trT g1 (cpSt t2 g1) 1) c2 o n1 S1) (r := some (.int (vSum (trT g1 (cpSt t2 g1) 1 7) (s * 6) (zh (trT g1 (cpSt t2 g1) 1) s)))) 2 (c_X9_volumeIn q a g1 t2 c2 o n1 S1 s 1 (by omega) (by omega) hg (si_8 _ (by omega)) (by decide +kernel)) gL_law_X9_volumeIn (q0 := 0) (ci := 7) (by decide +kernel) rfl rfl rfl ⟨by decide, by decide⟩ (Nat.le_of_ble_eq_true rfl) rfl rfl dL_law_122 ?_ hkR
                refine z_gen (fun t3 => zCW (zy E) q a g1 t3 c2 o n1 S1) (trT g1 (cpSt t2 g1) 1) (fun t3 ht3 => ?_)
                refine z_top (svC g1 s 1 - mgI g1 s (zh g1 s)) (vol_in O1 H1 s hs _) ?_
                refine z_istore h (by decide) (lv' := [(6, .int (svC g1 s 1 - mgI g1 s (zh g1 s))), (0, .ref ((zy E).2 100)), (1, .ref (q 0)), (2, .int (ad + r)), (3, .int (nI i)), (4, .int (nI s)), (5, .int (mgA g1 8))]) rfl dL_law_125 ?_
                obtain ⟨u9, k, hu9, hk4, hn0, hn4⟩ := id U1
                have hI0 := IV_h0 I1
                refine z_aload_n h 2 rfl dL_law_127 ?_
                refine z_wV h (As := []) (st := []) (ws2 := zCW (zy E) q a g1 ((bwI g1 t3 8).2.2) (tkC g1 c2) o n1 S1) (r := some (.long (dgC g1 t3 c2 o n1))) 0 (c_X9_digest q a g1 t3 c2 o n1 S1 hg hgt hgb) gL_law_X9_digest (q0 := 0) (ci := 7) (by decide +kernel) rfl rfl rfl ⟨by decide, by decide⟩ (Nat.le_of_ble_eq_true rfl) rfl rfl dL_law_128 ?_ hkR
                refine z_gen (fun t4 => zCW (zy E) q a g1 t4 (tkC g1 c2) o n1 S1) ((bwI g1 t3 8).2.2) (fun t4 ht4 => ?_)
                refine z_lstore h (by decide) (lv' := [(7, .long (dgC g1 t3 c2 o n1)), (6, .int (svC g1 s 1 - mgI g1 s (zh g1 s))), (0, .ref ((zy E).2 100)), (1, .ref (q 0)), (2, .int (ad + r)), (3, .int (nI i)), (4, .int (nI s)), (5, .int (mgA g1 8))]) rfl dL_law_131 ?_
                refine z_aload_n h 3 rfl dL_law_133 ?_
                refine z_iconst h (nI 0) (by decide +kernel) dL_law_134 ?_
                refine z_wV h (As := [.int (nI 0)]) (st := []) (ws2 := zCW (zy E) q a (phG g1 (nI 0) 1) t4 (tkC g1 c2) o (puN n1 (tpN k)) (zSs S1 (tpN k) (cpSa (S1 (tpN k)) g1))) (r := some (.int (phS g1 (nI 0) 1))) 1 (c_X9_hour q a g1 t4 (tkC g1 c2) o n1 S1 (nI 0) hg hgt k hk4 hn4) gL_law_X9_hour (q0 := 0) (ci := 7) (by decide +kernel) rfl rfl rfl ⟨by decide, by decide⟩ (Nat.le_of_ble_eq_true rfl) rfl rfl dL_law_135 ?_ hkR
                refine z_top (mgA g1 8) hI0.2.1 ?_
                refine z_iload h 7 rfl dL_law_138 ?_
                refine z_icmp_ne h 155 dL_law_140 (by decide) (fun c_140 => ?_) (fun c_140 => ?_)
                · exact absurd rfl c_140
                · refine z_aload_n h 3 rfl dL_law_143 ?_
                  refine z_iload h 6 rfl dL_law_144 ?_
                  refine z_iconst h (nI 1) (by decide +kernel) dL_law_146 ?_
                  refine z_wV h (As := [.int (nI s), .int (nI 1)]) (st := []) (ws2 := zCW (zy E) q a (phG g1 (nI 0) 1) t4 (tkC g1 c2) o (puN n1 (tpN k)) (zSs S1 (tpN k) (cpSa (S1 (tpN k)) g1))) (r := some (.int (svC (phG g1 (nI 0) 1) s 1))) 2 (c_X9_site q a (phG g1 (nI 0) 1) t4 (tkC g1 c2) o (puN n1 (tpN k)) (zSs S1 (tpN k) (cpSa (S1 (tpN k)) g1)) s 1 (by omega) (by omega) hI0.1.1.1 (si_8 _ (by omega))) gL_law_X9_site (q0 := 0) (ci := 7) (by decide +kernel) rfl rfl rfl ⟨by decide, by decide⟩ (Nat.le_of_ble_eq_true rfl) rfl rfl dL_law_147 ?_ hkR
                  refine z_top (svC g1 s 1 - mgI g1 s (zh g1 s)) (hI0.2.2 s hs) ?_
                  refine z_iload h 1 rfl dL_law_150 ?_
                  refine z_icmp_eq h 157 dL_law_152 (by decide) (fun c_152 => ?_) (fun c_152 => ?_)
                  · obtain ⟨w, hw3, hw, U2, hwn, hu0⟩ := un_v (k := k) hu9 hk4 hn0
                    have e2 : eqS (cpSa (phG g1 (nI 0) 1) ((zSs S1 (tpN k) (cpSa (S1 (tpN k)) g1)) (tpN k))) g1 := by
                      rw [zSs_1]
                      exact eqS_tr (eqS_cp _ _) (eqS_cp _ _)
                    have I2 := IV_eq e2 I1
                    refine z_aload_n h 3 rfl dL_law_157 ?_
                    refine z_wV h (As := []) (st := []) (ws2 := zCW (zy E) q a (cpSa (phG g1 (nI 0) 1) ((zSs S1 (tpN k) (cpSa (S1 (tpN k)) g1)) (tpN k))) t4 (tkC g1 c2) o (poN (puN n1 (tpN k)) (tmN (tpN k))) (zSs S1 (tpN k) (cpSa (S1 (tpN k)) g1))) (r := some (.int (poN (puN n1 (tpN k)) (tmN (tpN k)) 0 0))) 0 (c_X9_undo q a (phG g1 (nI 0) 1) t4 (tkC g1 c2) o (puN n1 (tpN k)) (zSs S1 (tpN k) (cpSa (S1 (tpN k)) g1)) (tpN k) (tp_lt hk4) rfl hu0) gL_law_X9_undo (q0 := 0) (ci := 7) (by decide +kernel) rfl rfl rfl ⟨by decide, by decide⟩ (Nat.le_of_ble_eq_true rfl) rfl rfl dL_law_158 ?_ hkR
                    refine z_top (nI w) hw ?_
                    refine z_istore h (by decide) (lv' := [(9, .int (nI w)), (7, .long (dgC g1 t3 c2 o n1)), (6, .int (svC g1 s 1 - mgI g1 s (zh g1 s))), (0, .ref ((zy E).2 100)), (1, .ref (q 0)), (2, .int (ad + r)), (3, .int (nI i)), (4, .int (nI s)), (5, .int (mgA g1 8))]) rfl dL_law_161 ?_
                    refine z_iload h 0 rfl dL_law_163 ?_
                    refine z_iconst h (nI 3) (by decide +kernel) dL_law_165 ?_
                    refine z_icmp_ge h 181 dL_law_166 (by decide) (fun c_166 => ?_) (fun c_166 => ?_)
                    · have k_166 : 3 ≤ w := (nI_leI (by omega) (by omega)).mp c_166
                      refine z_iinc h 6 (nI (i + 1)) rfl z_i1 (by decide) (lv' := [(3, .int (nI (i + 1))), (9, .int (nI w)), (7, .long (dgC g1 t3 c2 o n1)), (6, .int (svC g1 s 1 - mgI g1 s (zh g1 s))), (0, .ref ((zy E).2 100)), (1, .ref (q 0)), (2, .int (ad + r)), (4, .int (nI s)), (5, .int (mgA g1 8))]) rfl dL_law_181 ?_
                      refine z_goto h 38 dL_law_184 (by decide) ?_
                      refine z_sub [4, 5, 6, 0] (lv' := [(0, .ref ((zy E).2 100)), (1, .ref (q 0)), (2, .int (ad + r)), (3, .int (nI (i + 1)))]) rfl ?_
                      exact ih (i + 1) (by omega) _ _ _ _ _ _ I2 U2
                    · have k_166 : ¬ (3 ≤ w) := fun q => c_166 ((nI_leI (by omega) (by omega)).mpr q)
                      refine z_aload_n h 4 rfl dL_law_169 ?_
                      refine z_wV h (As := []) (st := []) (ws2 := zCW (zy E) q a (cpSa (phG g1 (nI 0) 1) ((zSs S1 (tpN k) (cpSa (S1 (tpN k)) g1)) (tpN k))) ((bwI (cpSa (phG g1 (nI 0) 1) ((zSs S1 (tpN k) (cpSa (S1 (tpN k)) g1)) (tpN k))) t4 8).2.2) (tkC (cpSa (phG g1 (nI 0) 1) ((zSs S1 (tpN k) (cpSa (S1 (tpN k)) g1)) (tpN k))) (tkC g1 c2)) o (poN (puN n1 (tpN k)) (tmN (tpN k))) (zSs S1 (tpN k) (cpSa (S1 (tpN k)) g1))) (r := some (.long (dgC (cpSa (phG g1 (nI 0) 1) ((zSs S1 (tpN k) (cpSa (S1 (tpN k)) g1)) (tpN k))) t4 (tkC g1 c2) o (poN (puN n1 (tpN k)) (tmN (tpN k)))))) 0 (c_X9_digest q a (cpSa (phG g1 (nI 0) 1) ((zSs S1 (tpN k) (cpSa (S1 (tpN k)) g1)) (tpN k))) t4 (tkC g1 c2) o (poN (puN n1 (tpN k)) (tmN (tpN k))) (zSs S1 (tpN k) (cpSa (S1 (tpN k)) g1)) I2.1.1 I2.1.2.1 I2.1.2.2.1) gL_law_X9_digest (q0 := 0) (ci := 7) (by decide +kernel) rfl rfl rfl ⟨by decide, by decide⟩ (Nat.le_of_ble_eq_true rfl) rfl rfl dL_law_170 ?_ hkR
                      refine z_lload h 1 rfl dL_law_173 ?_
                      refine z_lcmp h dL_law_175 ?_
                      refine z_top (nI 0) (lc_0 (dg_eq O1 H1 e2 (hw.trans (hwn (by omega)).symm))) ?_
                      refine z_if_eq h 181 dL_law_176 (by decide) (fun c_176 => ?_) (fun c_176 => ?_)
                      · refine z_iinc h 6 (nI (i + 1)) rfl z_i1 (by decide) (lv' := [(3, .int (nI (i + 1))), (9, .int (nI w)), (7, .long (dgC g1 t3 c2 o n1)), (6, .int (svC g1 s 1 - mgI g1 s (zh g1 s))), (0, .ref ((zy E).2 100)), (1, .ref (q 0)), (2, .int (ad + r)), (4, .int (nI s)), (5, .int (mgA g1 8))]) rfl dL_law_181 ?_
                        refine z_goto h 38 dL_law_184 (by decide) ?_
                        refine z_sub [4, 5, 6, 0] (lv' := [(0, .ref ((zy E).2 100)), (1, .ref (q 0)), (2, .int (ad + r)), (3, .int (nI (i + 1)))]) rfl ?_
                        exact ih (i + 1) (by omega) _ _ _ _ _ _ I2 U2
                      · exact absurd c_176 (by decide +kernel)
                  · exact absurd rfl c_152
              · have k_98 : ¬ (8 ≤ j9) := fun q => c_98 ((nI_leI (by omega) (by omega)).mpr q)
                refine z_iload h 5 rfl dL_law_101 ?_
                refine z_aload_n h 1 rfl dL_law_103 ?_
                refine z_iload h 6 rfl dL_law_104 ?_
                refine z_wS h (As := [.ref (q 0), .int (nI j9)]) (st := [.int (mgA g1 j9)]) (ws2 := zCW (zy E) q a g1 t2 c2 o n1 S1) (r := some (.int (mgI g1 j9 (zh g1 j9)))) 2 (c_L_melting q a g1 t2 c2 o n1 S1 j9 (by omega) hg) gL_law_L_melting (by decide +kernel) rfl ⟨by decide, by decide⟩ (Nat.le_of_ble_eq_true rfl) rfl rfl dL_law_106 ?_ hkR
                refine z_iadd h dL_law_109 ?_
                refine z_istore h (by decide) (lv' := [(5, .int ((mgA g1 j9) + (mgI g1 j9 (zh g1 j9)))), (0, .ref ((zy E).2 100)), (1, .ref (q 0)), (2, .int (ad + r)), (3, .int (nI i)), (4, .int (nI s)), (6, .int (nI j9))]) rfl dL_law_110 ?_
                refine z_iinc h 6 (nI (j9 + 1)) rfl z_i1 (by decide) (lv' := [(6, .int (nI (j9 + 1))), (5, .int ((mgA g1 j9) + (mgI g1 j9 (zh g1 j9)))), (0, .ref ((zy E).2 100)), (1, .ref (q 0)), (2, .int (ad + r)), (3, .int (nI i)), (4, .int (nI s))]) rfl dL_law_112 ?_
                refine z_goto h 94 dL_law_115 (by decide) ?_
                refine z_sub [2, 3, 4, 5, 6, 1, 0] (lv' := [(0, .ref ((zy E).2 100)), (1, .ref (q 0)), (2, .int (ad + r)), (3, .int (nI i)), (4, .int (nI s)), (5, .int ((mgA g1 j9) + (mgI g1 j9 (zh g1 j9)))), (6, .int (nI (j9 + 1)))]) rfl ?_
                exact z_cast (ih_94 (j9 + 1) (by omega) (by omega)) rfl rfl rfl
          refine z_sub [4, 5, 3, 6, 2, 1, 0] (lv' := [(0, .ref ((zy E).2 100)), (1, .ref (q 0)), (2, .int (ad + r)), (3, .int (nI i)), (4, .int (nI s)), (5, .int (nI 0)), (6, .int (nI 0))]) rfl ?_
          exact z_cast (lp_94 (8 + 1) 0 (by omega) (by omega)) rfl rfl rfl
        · exact absurd c_68 (by decide +kernel)
