/-! the law's cases -/
set_option maxHeartbeats 4000000 in
set_option maxRecDepth 100000 in
/-- case ballot -/
theorem law_ballot {E : zE} (h : zC E RL cL_law eLaw 13 492 7) {b L : Nat} {xs : Nat → Int32} (hX : va_X b L xs (zs E) (zs E).heap) (hbl : b < (zs E).heap.size) (hbA : ¬ zAA E b) (hL : L ≤ 2560) {i : Nat} (hi : i + 5 ≤ L) {k n : Nat} (hk : k + 1 ≤ E.2.2.2.2.2.1.cells ∧ n + 6 ≤ E.2.2.2.2.2.1.slots) {qx qm bo : Nat} {C0 C1 M9 M1 : va_W} {fx fm fm1 : List Value} (hC0 : C0.length = 97) (hC1 : C1.length = 97) (hc0 : C0[0]? = some (qx, .inr (7, fx))) (hm0 : M9[0]? = some (qm, .inr (8, fm))) {F F9 : Nat → Int64} {kc : Nat} {bm : Int32} (hm1 : M1[0]? = some (qm, .inr (8, fm1))) (hw : zW (zl E) (zy E) (zD E) yL_ballot wsL_ballot 8 230 1 6 [.ref qx, .int (xs (i + 1)), .int (xs (i + 2)), .int (xs (i + 3)), .ref bo] (zOu (zy E) bo F ++ (C0 ++ M9)) (zOu (zy E) bo F9 ++ (C1 ++ M9)) (some (.int (nI kc)))) (hm : zM (zl E) (zy E) (zD E) yX10_ballot wsX10_ballot 2 42 [.ref qm, .int (xs (i + 1)), .int (xs (i + 2)), .int (xs (i + 3))] M9 M1 (some (.int bm))) (ht : zM (zl E) (zy E) (zD E) yX10_thrown wsX10_thrown 0 0 [.ref qm] M1 M1 (some (.int (nI kc)))) (hkc : kc < 4) (heq : kc = 0 → F9 0 = bm.toInt64) (kk : Z E (k + 1) (n + 6) [(0, .ref b), (1, .ref qx), (2, .ref qm), (3, .ref bo), (4, .int (nI i))] (zOu (zy E) bo F9 ++ (C1 ++ M1)) 1534 []) : Z E k n [(0, .ref b), (1, .ref qx), (2, .ref qm), (3, .ref bo), (4, .int (nI i))] (zOu (zy E) bo F ++ (C0 ++ M9)) 638 [] := by
  have hkR : k + 1 ≤ E.2.2.2.2.2.1.cells ∧ n + 6 ≤ E.2.2.2.2.2.1.slots := ⟨by omega, by omega⟩
  refine z_aload_n h 1 rfl dL_law_638 ?_
  refine z_aload_n h 0 rfl dL_law_639 ?_
  refine z_iload h 4 rfl dL_law_640 ?_
  refine z_iconst h (nI 1) (by decide +kernel) dL_law_642 ?_
  refine z_iadd h dL_law_643 ?_
  refine z_top (nI (i + 1)) (nI_add i 1) ?_
  refine z_sld h hX hbl hbA (i := i + 1) (by omega) (by omega) dL_law_644 ?_
  refine z_aload_n h 0 rfl dL_law_645 ?_
  refine z_iload h 4 rfl dL_law_646 ?_
  refine z_iconst h (nI 2) (by decide +kernel) dL_law_648 ?_
  refine z_iadd h dL_law_649 ?_
  refine z_top (nI (i + 2)) (nI_add i 2) ?_
  refine z_sld h hX hbl hbA (i := i + 2) (by omega) (by omega) dL_law_650 ?_
  refine z_aload_n h 0 rfl dL_law_651 ?_
  refine z_iload h 4 rfl dL_law_652 ?_
  refine z_iconst h (nI 3) (by decide +kernel) dL_law_654 ?_
  refine z_iadd h dL_law_655 ?_
  refine z_top (nI (i + 3)) (nI_add i 3) ?_
  refine z_sld h hX hbl hbA (i := i + 3) (by omega) (by omega) dL_law_656 ?_
  refine z_aload_n h 3 rfl dL_law_657 ?_
  refine w_callS h (As := [.ref qx, .int (xs (i + 1)), .int (xs (i + 2)), .int (xs (i + 3)), .ref bo]) (st := []) (ws2 := zOu (zy E) bo F9 ++ (C1 ++ M9)) (r := some (.int (nI kc))) 5 hw egL_L_ballot ⟨by decide, by decide, by decide +kernel⟩ rfl ⟨by decide, by decide⟩ (zr 0 _) (zr_all _) (zr_nd _ _) (zput_all (zlen hw.1)) (Nat.le_of_ble_eq_true rfl) rfl rfl dL_law_658 hk ?_
  refine z_istore h (by decide) rfl dL_law_661 ?_
  refine z_aload_n h 3 rfl dL_law_663 ?_
  refine z_aload_n h 1 rfl dL_law_664 ?_
  refine z_iload h 5 rfl dL_law_665 ?_
  refine z_iconst h (nI 1) (by decide +kernel) dL_law_667 ?_
  refine z_iadd h dL_law_668 ?_
  refine z_top (nI (i + 1)) (nI_add i 1) ?_
  refine z_sld h hX hbl hbA (i := i + 1) (by omega) (by omega) dL_law_669 ?_
  refine z_aload_n h 1 rfl dL_law_670 ?_
  refine z_iload h 5 rfl dL_law_671 ?_
  refine z_iconst h (nI 2) (by decide +kernel) dL_law_673 ?_
  refine z_iadd h dL_law_674 ?_
  refine z_top (nI (i + 2)) (nI_add i 2) ?_
  refine z_sld h hX hbl hbA (i := i + 2) (by omega) (by omega) dL_law_675 ?_
  refine z_aload_n h 1 rfl dL_law_676 ?_
  refine z_iload h 5 rfl dL_law_677 ?_
  refine z_iconst h (nI 3) (by decide +kernel) dL_law_679 ?_
  refine z_iadd h dL_law_680 ?_
  refine z_top (nI (i + 3)) (nI_add i 3) ?_
  refine z_sld h hX hbl hbA (i := i + 3) (by omega) (by omega) dL_law_681 ?_
  refine z_wV h (As := [.int (xs (i + 1)), .int (xs (i + 2)), .int (xs (i + 3))]) (st := []) (ws2 := zOu (zy E) bo F9 ++ (C1 ++ M1)) (r := some (.int bm)) 3 (law_mo _ _ hm) egL_X10_ballot (q0 := 98) (ci := 8) (by decide +kernel) ((law_rm hC1).trans hm0) rfl rfl ⟨by decide, by decide⟩ (Nat.le_of_ble_eq_true rfl) rfl rfl dL_law_682 ?_ hkR
  refine z_istore h (by decide) rfl dL_law_685 ?_
  refine z_aload_n h 4 rfl dL_law_687 ?_
  refine z_wV h (As := []) (st := []) (ws2 := zOu (zy E) bo F9 ++ (C1 ++ M1)) (r := some (.int (nI kc))) 0 (law_mo _ _ ht) egL_X10_thrown (q0 := 98) (ci := 8) (by decide +kernel) ((law_rm hC1).trans hm1) rfl rfl ⟨by decide, by decide⟩ (Nat.le_of_ble_eq_true rfl) rfl rfl dL_law_688 ?_ hkR
  refine z_iload h 1 rfl dL_law_691 ?_
  refine z_icmp_eq h 698 dL_law_693 (by decide) (fun _ => ?_) (fun c9 => absurd rfl c9)
  refine z_iload h 1 rfl dL_law_698 ?_
  refine z_if_ne h 715 dL_law_700 (by decide) (fun c5 => ?_) (fun c5 => ?_)
  · refine z_goto h 1534 dL_law_715 (by decide) ?_
    exact z_sub [2, 3, 4, 5, 6] rfl kk
  · have hk0 : kc = 0 := law_0 hkc c5
    refine z_aload_n h 5 rfl dL_law_703 ?_
    refine z_iconst h (nI 0) (by decide +kernel) dL_law_704 ?_
    refine z_lald h 0 0 (f := F9) rfl rfl rfl (by decide) (by decide) dL_law_705 ?_
    refine z_iload h 0 rfl dL_law_706 ?_
    refine z_i2l h dL_law_708 ?_
    refine z_lcmp h dL_law_709 ?_
    refine z_if_eq h 715 dL_law_710 (by decide) (fun _ => ?_) (fun c9 => absurd (law_c (heq hk0)) c9)
    refine z_goto h 1534 dL_law_715 (by decide) ?_
    exact z_sub [2, 3, 4, 5, 6] rfl (kk)
set_option maxHeartbeats 4000000 in
set_option maxRecDepth 100000 in
/-- case clearBallots -/
theorem law_clearBallots {E : zE} (h : zC E RL cL_law eLaw 13 492 7) {b L : Nat} {xs : Nat → Int32} (hX : va_X b L xs (zs E) (zs E).heap) (hbl : b < (zs E).heap.size) (hbA : ¬ zAA E b) (hL : L ≤ 2560) {i : Nat} (hi : i + 5 ≤ L) {k n : Nat} (hk : k + 1 ≤ E.2.2.2.2.2.1.cells ∧ n + 6 ≤ E.2.2.2.2.2.1.slots) {qx qm bo : Nat} {C0 C1 M9 M1 : va_W} {fx fm fm1 : List Value} (hC0 : C0.length = 97) (hC1 : C1.length = 97) (hc0 : C0[0]? = some (qx, .inr (7, fx))) (hm0 : M9[0]? = some (qm, .inr (8, fm))) {F : Nat → Int64} {a9 : Int32} (hw : zM (zl E) (zy E) (zD E) yX9_clearBallots wsX9_clearBallots 5 164 [.ref qx] C0 C1 (some (.int a9))) (hm : zM (zl E) (zy E) (zD E) yX10_clearBallots wsX10_clearBallots 1 21 [.ref qm] M9 M1 (some (.int a9))) (kk : Z E (k + 1) (n + 6) [(0, .ref b), (1, .ref qx), (2, .ref qm), (3, .ref bo), (4, .int (nI i))] (zOu (zy E) bo F ++ (C1 ++ M1)) 1534 []) : Z E k n [(0, .ref b), (1, .ref qx), (2, .ref qm), (3, .ref bo), (4, .int (nI i))] (zOu (zy E) bo F ++ (C0 ++ M9)) 718 [] := by
  have hkR : k ≤ E.2.2.2.2.2.1.cells ∧ n ≤ E.2.2.2.2.2.1.slots := ⟨by omega, by omega⟩
  refine z_aload_n h 1 rfl dL_law_718 ?_
  refine z_wV h (As := []) (st := []) (ws2 := zOu (zy E) bo F ++ (C1 ++ M9)) (r := some (.int a9)) 0 (z_mid _ _ hw) egL_X9_clearBallots (q0 := 1) (ci := 7) (by decide +kernel) ((law_rx hC0).trans hc0) rfl rfl ⟨by decide, by decide⟩ (Nat.le_of_ble_eq_true rfl) rfl rfl dL_law_719 ?_ hkR
  refine z_aload_n h 2 rfl dL_law_722 ?_
  refine z_wV h (As := []) (st := [.int a9]) (ws2 := zOu (zy E) bo F ++ (C1 ++ M1)) (r := some (.int a9)) 0 (law_mo _ _ hm) egL_X10_clearBallots (q0 := 98) (ci := 8) (by decide +kernel) ((law_rm hC1).trans hm0) rfl rfl ⟨by decide, by decide⟩ (Nat.le_of_ble_eq_true rfl) rfl rfl dL_law_723 ?_ hkR
  refine z_icmp_eq h 1534 dL_law_726 (by decide) (fun _ => ?_) (fun c9 => absurd rfl c9)
  exact z_sub [0, 1, 2, 3, 4] rfl (z_widen (by omega) (by omega) kk)
set_option maxHeartbeats 4000000 in
set_option maxRecDepth 100000 in
/-- case block -/
theorem law_block {E : zE} (h : zC E RL cL_law eLaw 13 492 7) {b L : Nat} {xs : Nat → Int32} (hX : va_X b L xs (zs E) (zs E).heap) (hbl : b < (zs E).heap.size) (hbA : ¬ zAA E b) (hL : L ≤ 2560) {i : Nat} (hi : i + 5 ≤ L) {k n : Nat} (hk : k + 1 ≤ E.2.2.2.2.2.1.cells ∧ n + 6 ≤ E.2.2.2.2.2.1.slots) {qx qm bo : Nat} {C0 C1 M9 M1 : va_W} {fx fm fm1 : List Value} (hC0 : C0.length = 97) (hC1 : C1.length = 97) (hc0 : C0[0]? = some (qx, .inr (7, fx))) (hm0 : M9[0]? = some (qm, .inr (8, fm))) {F F9 : Nat → Int64} {kc : Nat} {bm : Int32} (hm1 : M1[0]? = some (qm, .inr (8, fm1))) (hw : zW (zl E) (zy E) (zD E) yL_block wsL_block 8 230 1 6 [.ref qx, .int (xs (i + 1)), .int (xs (i + 2)), .int (xs (i + 3)), .ref bo] (zOu (zy E) bo F ++ (C0 ++ M9)) (zOu (zy E) bo F9 ++ (C1 ++ M9)) (some (.int (nI kc)))) (hm : zM (zl E) (zy E) (zD E) yX10_block wsX10_block 5 112 [.ref qm, .int (xs (i + 1)), .int (xs (i + 2)), .int (xs (i + 3))] M9 M1 (some (.int bm))) (ht : zM (zl E) (zy E) (zD E) yX10_thrown wsX10_thrown 0 0 [.ref qm] M1 M1 (some (.int (nI kc)))) (hkc : kc < 4) (heq : kc = 0 → F9 0 = bm.toInt64) (kk : Z E (k + 1) (n + 6) [(0, .ref b), (1, .ref qx), (2, .ref qm), (3, .ref bo), (4, .int (nI i))] (zOu (zy E) bo F9 ++ (C1 ++ M1)) 1534 []) : Z E k n [(0, .ref b), (1, .ref qx), (2, .ref qm), (3, .ref bo), (4, .int (nI i))] (zOu (zy E) bo F ++ (C0 ++ M9)) 731 [] := by
  have hkR : k + 1 ≤ E.2.2.2.2.2.1.cells ∧ n + 6 ≤ E.2.2.2.2.2.1.slots := ⟨by omega, by omega⟩
  refine z_aload_n h 1 rfl dL_law_731 ?_
  refine z_aload_n h 0 rfl dL_law_732 ?_
  refine z_iload h 4 rfl dL_law_733 ?_
  refine z_iconst h (nI 1) (by decide +kernel) dL_law_735 ?_
  refine z_iadd h dL_law_736 ?_
  refine z_top (nI (i + 1)) (nI_add i 1) ?_
  refine z_sld h hX hbl hbA (i := i + 1) (by omega) (by omega) dL_law_737 ?_
  refine z_aload_n h 0 rfl dL_law_738 ?_
  refine z_iload h 4 rfl dL_law_739 ?_
  refine z_iconst h (nI 2) (by decide +kernel) dL_law_741 ?_
  refine z_iadd h dL_law_742 ?_
  refine z_top (nI (i + 2)) (nI_add i 2) ?_
  refine z_sld h hX hbl hbA (i := i + 2) (by omega) (by omega) dL_law_743 ?_
  refine z_aload_n h 0 rfl dL_law_744 ?_
  refine z_iload h 4 rfl dL_law_745 ?_
  refine z_iconst h (nI 3) (by decide +kernel) dL_law_747 ?_
  refine z_iadd h dL_law_748 ?_
  refine z_top (nI (i + 3)) (nI_add i 3) ?_
  refine z_sld h hX hbl hbA (i := i + 3) (by omega) (by omega) dL_law_749 ?_
  refine z_aload_n h 3 rfl dL_law_750 ?_
  refine w_callS h (As := [.ref qx, .int (xs (i + 1)), .int (xs (i + 2)), .int (xs (i + 3)), .ref bo]) (st := []) (ws2 := zOu (zy E) bo F9 ++ (C1 ++ M9)) (r := some (.int (nI kc))) 5 hw egL_L_block ⟨by decide, by decide, by decide +kernel⟩ rfl ⟨by decide, by decide⟩ (zr 0 _) (zr_all _) (zr_nd _ _) (zput_all (zlen hw.1)) (Nat.le_of_ble_eq_true rfl) rfl rfl dL_law_751 hk ?_
  refine z_istore h (by decide) rfl dL_law_754 ?_
  refine z_aload_n h 3 rfl dL_law_756 ?_
  refine z_aload_n h 1 rfl dL_law_757 ?_
  refine z_iload h 5 rfl dL_law_758 ?_
  refine z_iconst h (nI 1) (by decide +kernel) dL_law_760 ?_
  refine z_iadd h dL_law_761 ?_
  refine z_top (nI (i + 1)) (nI_add i 1) ?_
  refine z_sld h hX hbl hbA (i := i + 1) (by omega) (by omega) dL_law_762 ?_
  refine z_aload_n h 1 rfl dL_law_763 ?_
  refine z_iload h 5 rfl dL_law_764 ?_
  refine z_iconst h (nI 2) (by decide +kernel) dL_law_766 ?_
  refine z_iadd h dL_law_767 ?_
  refine z_top (nI (i + 2)) (nI_add i 2) ?_
  refine z_sld h hX hbl hbA (i := i + 2) (by omega) (by omega) dL_law_768 ?_
  refine z_aload_n h 1 rfl dL_law_769 ?_
  refine z_iload h 5 rfl dL_law_770 ?_
  refine z_iconst h (nI 3) (by decide +kernel) dL_law_772 ?_
  refine z_iadd h dL_law_773 ?_
  refine z_top (nI (i + 3)) (nI_add i 3) ?_
  refine z_sld h hX hbl hbA (i := i + 3) (by omega) (by omega) dL_law_774 ?_
  refine z_wV h (As := [.int (xs (i + 1)), .int (xs (i + 2)), .int (xs (i + 3))]) (st := []) (ws2 := zOu (zy E) bo F9 ++ (C1 ++ M1)) (r := some (.int bm)) 3 (law_mo _ _ hm) egL_X10_block (q0 := 98) (ci := 8) (by decide +kernel) ((law_rm hC1).trans hm0) rfl rfl ⟨by decide, by decide⟩ (Nat.le_of_ble_eq_true rfl) rfl rfl dL_law_775 ?_ hkR
  refine z_istore h (by decide) rfl dL_law_778 ?_
  refine z_aload_n h 4 rfl dL_law_780 ?_
  refine z_wV h (As := []) (st := []) (ws2 := zOu (zy E) bo F9 ++ (C1 ++ M1)) (r := some (.int (nI kc))) 0 (law_mo _ _ ht) egL_X10_thrown (q0 := 98) (ci := 8) (by decide +kernel) ((law_rm hC1).trans hm1) rfl rfl ⟨by decide, by decide⟩ (Nat.le_of_ble_eq_true rfl) rfl rfl dL_law_781 ?_ hkR
  refine z_iload h 1 rfl dL_law_784 ?_
  refine z_icmp_eq h 791 dL_law_786 (by decide) (fun _ => ?_) (fun c9 => absurd rfl c9)
  refine z_iload h 1 rfl dL_law_791 ?_
  refine z_if_ne h 808 dL_law_793 (by decide) (fun c5 => ?_) (fun c5 => ?_)
  · refine z_goto h 1534 dL_law_808 (by decide) ?_
    exact z_sub [2, 3, 4, 5, 6] rfl kk
  · have hk0 : kc = 0 := law_0 hkc c5
    refine z_aload_n h 5 rfl dL_law_796 ?_
    refine z_iconst h (nI 0) (by decide +kernel) dL_law_797 ?_
    refine z_lald h 0 0 (f := F9) rfl rfl rfl (by decide) (by decide) dL_law_798 ?_
    refine z_iload h 0 rfl dL_law_799 ?_
    refine z_i2l h dL_law_801 ?_
    refine z_lcmp h dL_law_802 ?_
    refine z_if_eq h 808 dL_law_803 (by decide) (fun _ => ?_) (fun c9 => absurd (law_c (heq hk0)) c9)
    refine z_goto h 1534 dL_law_808 (by decide) ?_
    exact z_sub [2, 3, 4, 5, 6] rfl (kk)
set_option maxHeartbeats 4000000 in
set_option maxRecDepth 100000 in
/-- case site -/
theorem law_site {E : zE} (h : zC E RL cL_law eLaw 13 492 7) {b L : Nat} {xs : Nat → Int32} (hX : va_X b L xs (zs E) (zs E).heap) (hbl : b < (zs E).heap.size) (hbA : ¬ zAA E b) (hL : L ≤ 2560) {i : Nat} (hi : i + 5 ≤ L) {k n : Nat} (hk : k + 1 ≤ E.2.2.2.2.2.1.cells ∧ n + 6 ≤ E.2.2.2.2.2.1.slots) {qx qm bo : Nat} {C0 C1 M9 M1 : va_W} {fx fm fm1 : List Value} (hC0 : C0.length = 97) (hC1 : C1.length = 97) (hc0 : C0[0]? = some (qx, .inr (7, fx))) (hm0 : M9[0]? = some (qm, .inr (8, fm))) {F F9 : Nat → Int64} {kc : Nat} {bm : Int32} (hm1 : M1[0]? = some (qm, .inr (8, fm1))) (hw : zW (zl E) (zy E) (zD E) yL_site wsL_site 8 230 1 6 [.ref qx, .int (xs (i + 1)), .int (xs (i + 2)), .ref bo] (zOu (zy E) bo F ++ (C0 ++ M9)) (zOu (zy E) bo F9 ++ (C1 ++ M9)) (some (.int (nI kc)))) (hm : zM (zl E) (zy E) (zD E) yX10_site wsX10_site 2 45 [.ref qm, .int (xs (i + 1)), .int (xs (i + 2))] M9 M1 (some (.int bm))) (ht : zM (zl E) (zy E) (zD E) yX10_thrown wsX10_thrown 0 0 [.ref qm] M1 M1 (some (.int (nI kc)))) (hkc : kc < 4) (heq : kc = 0 → F9 0 = bm.toInt64) (kk : Z E (k + 1) (n + 6) [(0, .ref b), (1, .ref qx), (2, .ref qm), (3, .ref bo), (4, .int (nI i))] (zOu (zy E) bo F9 ++ (C1 ++ M1)) 1534 []) : Z E k n [(0, .ref b), (1, .ref qx), (2, .ref qm), (3, .ref bo), (4, .int (nI i))] (zOu (zy E) bo F ++ (C0 ++ M9)) 811 [] := by
  have hkR : k + 1 ≤ E.2.2.2.2.2.1.cells ∧ n + 6 ≤ E.2.2.2.2.2.1.slots := ⟨by omega, by omega⟩
  refine z_aload_n h 1 rfl dL_law_811 ?_
  refine z_aload_n h 0 rfl dL_law_812 ?_
  refine z_iload h 4 rfl dL_law_813 ?_
  refine z_iconst h (nI 1) (by decide +kernel) dL_law_815 ?_
  refine z_iadd h dL_law_816 ?_
  refine z_top (nI (i + 1)) (nI_add i 1) ?_
  refine z_sld h hX hbl hbA (i := i + 1) (by omega) (by omega) dL_law_817 ?_
  refine z_aload_n h 0 rfl dL_law_818 ?_
  refine z_iload h 4 rfl dL_law_819 ?_
  refine z_iconst h (nI 2) (by decide +kernel) dL_law_821 ?_
  refine z_iadd h dL_law_822 ?_
  refine z_top (nI (i + 2)) (nI_add i 2) ?_
  refine z_sld h hX hbl hbA (i := i + 2) (by omega) (by omega) dL_law_823 ?_
  refine z_aload_n h 3 rfl dL_law_824 ?_
  refine w_callS h (As := [.ref qx, .int (xs (i + 1)), .int (xs (i + 2)), .ref bo]) (st := []) (ws2 := zOu (zy E) bo F9 ++ (C1 ++ M9)) (r := some (.int (nI kc))) 4 hw egL_L_site ⟨by decide, by decide, by decide +kernel⟩ rfl ⟨by decide, by decide⟩ (zr 0 _) (zr_all _) (zr_nd _ _) (zput_all (zlen hw.1)) (Nat.le_of_ble_eq_true rfl) rfl rfl dL_law_825 hk ?_
  refine z_istore h (by decide) rfl dL_law_828 ?_
  refine z_aload_n h 3 rfl dL_law_830 ?_
  refine z_aload_n h 1 rfl dL_law_831 ?_
  refine z_iload h 5 rfl dL_law_832 ?_
  refine z_iconst h (nI 1) (by decide +kernel) dL_law_834 ?_
  refine z_iadd h dL_law_835 ?_
  refine z_top (nI (i + 1)) (nI_add i 1) ?_
  refine z_sld h hX hbl hbA (i := i + 1) (by omega) (by omega) dL_law_836 ?_
  refine z_aload_n h 1 rfl dL_law_837 ?_
  refine z_iload h 5 rfl dL_law_838 ?_
  refine z_iconst h (nI 2) (by decide +kernel) dL_law_840 ?_
  refine z_iadd h dL_law_841 ?_
  refine z_top (nI (i + 2)) (nI_add i 2) ?_
  refine z_sld h hX hbl hbA (i := i + 2) (by omega) (by omega) dL_law_842 ?_
  refine z_wV h (As := [.int (xs (i + 1)), .int (xs (i + 2))]) (st := []) (ws2 := zOu (zy E) bo F9 ++ (C1 ++ M1)) (r := some (.int bm)) 2 (law_mo _ _ hm) egL_X10_site (q0 := 98) (ci := 8) (by decide +kernel) ((law_rm hC1).trans hm0) rfl rfl ⟨by decide, by decide⟩ (Nat.le_of_ble_eq_true rfl) rfl rfl dL_law_843 ?_ hkR
  refine z_istore h (by decide) rfl dL_law_846 ?_
  refine z_aload_n h 4 rfl dL_law_848 ?_
  refine z_wV h (As := []) (st := []) (ws2 := zOu (zy E) bo F9 ++ (C1 ++ M1)) (r := some (.int (nI kc))) 0 (law_mo _ _ ht) egL_X10_thrown (q0 := 98) (ci := 8) (by decide +kernel) ((law_rm hC1).trans hm1) rfl rfl ⟨by decide, by decide⟩ (Nat.le_of_ble_eq_true rfl) rfl rfl dL_law_849 ?_ hkR
  refine z_iload h 1 rfl dL_law_852 ?_
  refine z_icmp_eq h 859 dL_law_854 (by decide) (fun _ => ?_) (fun c9 => absurd rfl c9)
  refine z_iload h 1 rfl dL_law_859 ?_
  refine z_if_ne h 876 dL_law_861 (by decide) (fun c5 => ?_) (fun c5 => ?_)
  · refine z_goto h 1534 dL_law_876 (by decide) ?_
    exact z_sub [2, 3, 4, 5, 6] rfl kk
  · have hk0 : kc = 0 := law_0 hkc c5
    refine z_aload_n h 5 rfl dL_law_864 ?_
    refine z_iconst h (nI 0) (by decide +kernel) dL_law_865 ?_
    refine z_lald h 0 0 (f := F9) rfl rfl rfl (by decide) (by decide) dL_law_866 ?_
    refine z_iload h 0 rfl dL_law_867 ?_
    refine z_i2l h dL_law_869 ?_
    refine z_lcmp h dL_law_870 ?_
    refine z_if_eq h 876 dL_law_871 (by decide) (fun _ => ?_) (fun c9 => absurd (law_c (heq hk0)) c9)
    refine z_goto h 1534 dL_law_876 (by decide) ?_
    exact z_sub [2, 3, 4, 5, 6] rfl (kk)
set_option maxHeartbeats 4000000 in
set_option maxRecDepth 100000 in
/-- case tool -/
theorem law_tool {E : zE} (h : zC E RL cL_law eLaw 13 492 7) {b L : Nat} {xs : Nat → Int32} (hX : va_X b L xs (zs E) (zs E).heap) (hbl : b < (zs E).heap.size) (hbA : ¬ zAA E b) (hL : L ≤ 2560) {i : Nat} (hi : i + 5 ≤ L) {k n : Nat} (hk : k + 1 ≤ E.2.2.2.2.2.1.cells ∧ n + 6 ≤ E.2.2.2.2.2.1.slots) {qx qm bo : Nat} {C0 C1 M9 M1 : va_W} {fx fm fm1 : List Value} (hC0 : C0.length = 97) (hC1 : C1.length = 97) (hc0 : C0[0]? = some (qx, .inr (7, fx))) (hm0 : M9[0]? = some (qm, .inr (8, fm))) {F F9 : Nat → Int64} {kc : Nat} {bm : Int32} (hm1 : M1[0]? = some (qm, .inr (8, fm1))) (hw : zW (zl E) (zy E) (zD E) yL_tool wsL_tool 8 230 1 6 [.ref qx, .int (xs (i + 1)), .int (xs (i + 2)), .ref bo] (zOu (zy E) bo F ++ (C0 ++ M9)) (zOu (zy E) bo F9 ++ (C1 ++ M9)) (some (.int (nI kc)))) (hm : zM (zl E) (zy E) (zD E) yX10_tool wsX10_tool 2 43 [.ref qm, .int (xs (i + 1)), .int (xs (i + 2))] M9 M1 (some (.int bm))) (ht : zM (zl E) (zy E) (zD E) yX10_thrown wsX10_thrown 0 0 [.ref qm] M1 M1 (some (.int (nI kc)))) (hkc : kc < 4) (heq : kc = 0 → F9 0 = bm.toInt64) (kk : Z E (k + 1) (n + 6) [(0, .ref b), (1, .ref qx), (2, .ref qm), (3, .ref bo), (4, .int (nI i))] (zOu (zy E) bo F9 ++ (C1 ++ M1)) 1534 []) : Z E k n [(0, .ref b), (1, .ref qx), (2, .ref qm), (3, .ref bo), (4, .int (nI i))] (zOu (zy E) bo F ++ (C0 ++ M9)) 879 [] := by
  have hkR : k + 1 ≤ E.2.2.2.2.2.1.cells ∧ n + 6 ≤ E.2.2.2.2.2.1.slots := ⟨by omega, by omega⟩
  refine z_aload_n h 1 rfl dL_law_879 ?_
  refine z_aload_n h 0 rfl dL_law_880 ?_
  refine z_iload h 4 rfl dL_law_881 ?_
  refine z_iconst h (nI 1) (by decide +kernel) dL_law_883 ?_
  refine z_iadd h dL_law_884 ?_
  refine z_top (nI (i + 1)) (nI_add i 1) ?_
  refine z_sld h hX hbl hbA (i := i + 1) (by omega) (by omega) dL_law_885 ?_
  refine z_aload_n h 0 rfl dL_law_886 ?_
  refine z_iload h 4 rfl dL_law_887 ?_
  refine z_iconst h (nI 2) (by decide +kernel) dL_law_889 ?_
  refine z_iadd h dL_law_890 ?_
  refine z_top (nI (i + 2)) (nI_add i 2) ?_
  refine z_sld h hX hbl hbA (i := i + 2) (by omega) (by omega) dL_law_891 ?_
  refine z_aload_n h 3 rfl dL_law_892 ?_
  refine w_callS h (As := [.ref qx, .int (xs (i + 1)), .int (xs (i + 2)), .ref bo]) (st := []) (ws2 := zOu (zy E) bo F9 ++ (C1 ++ M9)) (r := some (.int (nI kc))) 4 hw egL_L_tool ⟨by decide, by decide, by decide +kernel⟩ rfl ⟨by decide, by decide⟩ (zr 0 _) (zr_all _) (zr_nd _ _) (zput_all (zlen hw.1)) (Nat.le_of_ble_eq_true rfl) rfl rfl dL_law_893 hk ?_
  refine z_istore h (by decide) rfl dL_law_896 ?_
  refine z_aload_n h 3 rfl dL_law_898 ?_
  refine z_aload_n h 1 rfl dL_law_899 ?_
  refine z_iload h 5 rfl dL_law_900 ?_
  refine z_iconst h (nI 1) (by decide +kernel) dL_law_902 ?_
  refine z_iadd h dL_law_903 ?_
  refine z_top (nI (i + 1)) (nI_add i 1) ?_
  refine z_sld h hX hbl hbA (i := i + 1) (by omega) (by omega) dL_law_904 ?_
  refine z_aload_n h 1 rfl dL_law_905 ?_
  refine z_iload h 5 rfl dL_law_906 ?_
  refine z_iconst h (nI 2) (by decide +kernel) dL_law_908 ?_
  refine z_iadd h dL_law_909 ?_
  refine z_top (nI (i + 2)) (nI_add i 2) ?_
  refine z_sld h hX hbl hbA (i := i + 2) (by omega) (by omega) dL_law_910 ?_
  refine z_wV h (As := [.int (xs (i + 1)), .int (xs (i + 2))]) (st := []) (ws2 := zOu (zy E) bo F9 ++ (C1 ++ M1)) (r := some (.int bm)) 2 (law_mo _ _ hm) egL_X10_tool (q0 := 98) (ci := 8) (by decide +kernel) ((law_rm hC1).trans hm0) rfl rfl ⟨by decide, by decide⟩ (Nat.le_of_ble_eq_true rfl) rfl rfl dL_law_911 ?_ hkR
  refine z_istore h (by decide) rfl dL_law_914 ?_
  refine z_aload_n h 4 rfl dL_law_916 ?_
  refine z_wV h (As := []) (st := []) (ws2 := zOu (zy E) bo F9 ++ (C1 ++ M1)) (r := some (.int (nI kc))) 0 (law_mo _ _ ht) egL_X10_thrown (q0 := 98) (ci := 8) (by decide +kernel) ((law_rm hC1).trans hm1) rfl rfl ⟨by decide, by decide⟩ (Nat.le_of_ble_eq_true rfl) rfl rfl dL_law_917 ?_ hkR
  refine z_iload h 1 rfl dL_law_920 ?_
  refine z_icmp_eq h 927 dL_law_922 (by decide) (fun _ => ?_) (fun c9 => absurd rfl c9)
  refine z_iload h 1 rfl dL_law_927 ?_
  refine z_if_ne h 944 dL_law_929 (by decide) (fun c5 => ?_) (fun c5 => ?_)
  · refine z_goto h 1534 dL_law_944 (by decide) ?_
    exact z_sub [2, 3, 4, 5, 6] rfl kk
  · have hk0 : kc = 0 := law_0 hkc c5
    refine z_aload_n h 5 rfl dL_law_932 ?_
    refine z_iconst h (nI 0) (by decide +kernel) dL_law_933 ?_
    refine z_lald h 0 0 (f := F9) rfl rfl rfl (by decide) (by decide) dL_law_934 ?_
    refine z_iload h 0 rfl dL_law_935 ?_
    refine z_i2l h dL_law_937 ?_
    refine z_lcmp h dL_law_938 ?_
    refine z_if_eq h 944 dL_law_939 (by decide) (fun _ => ?_) (fun c9 => absurd (law_c (heq hk0)) c9)
    refine z_goto h 1534 dL_law_944 (by decide) ?_
    exact z_sub [2, 3, 4, 5, 6] rfl (kk)
set_option maxHeartbeats 4000000 in
set_option maxRecDepth 100000 in
/-- case whole -/
theorem law_whole {E : zE} (h : zC E RL cL_law eLaw 13 492 7) {b L : Nat} {xs : Nat → Int32} (hX : va_X b L xs (zs E) (zs E).heap) (hbl : b < (zs E).heap.size) (hbA : ¬ zAA E b) (hL : L ≤ 2560) {i : Nat} (hi : i + 5 ≤ L) {k n : Nat} (hk : k + 1 ≤ E.2.2.2.2.2.1.cells ∧ n + 6 ≤ E.2.2.2.2.2.1.slots) {qx qm bo : Nat} {C0 C1 M9 M1 : va_W} {fx fm fm1 : List Value} (hC0 : C0.length = 97) (hC1 : C1.length = 97) (hc0 : C0[0]? = some (qx, .inr (7, fx))) (hm0 : M9[0]? = some (qm, .inr (8, fm))) {F F9 : Nat → Int64} {kc : Nat} {bm : Int32} (hm1 : M1[0]? = some (qm, .inr (8, fm1))) (hw : zW (zl E) (zy E) (zD E) yL_whole wsL_whole 8 230 1 6 [.ref qx, .int (xs (i + 1)), .ref bo] (zOu (zy E) bo F ++ (C0 ++ M9)) (zOu (zy E) bo F9 ++ (C1 ++ M9)) (some (.int (nI kc)))) (hm : zM (zl E) (zy E) (zD E) yX10_whole wsX10_whole 2 47 [.ref qm, .int (xs (i + 1))] M9 M1 (some (.int bm))) (ht : zM (zl E) (zy E) (zD E) yX10_thrown wsX10_thrown 0 0 [.ref qm] M1 M1 (some (.int (nI kc)))) (hkc : kc < 4) (heq : kc = 0 → F9 0 = bm.toInt64) (kk : Z E (k + 1) (n + 6) [(0, .ref b), (1, .ref qx), (2, .ref qm), (3, .ref bo), (4, .int (nI i))] (zOu (zy E) bo F9 ++ (C1 ++ M1)) 1534 []) : Z E k n [(0, .ref b), (1, .ref qx), (2, .ref qm), (3, .ref bo), (4, .int (nI i))] (zOu (zy E) bo F ++ (C0 ++ M9)) 947 [] := by
  have hkR : k + 1 ≤ E.2.2.2.2.2.1.cells ∧ n + 6 ≤ E.2.2.2.2.2.1.slots := ⟨by omega, by omega⟩
  refine z_aload_n h 1 rfl dL_law_947 ?_
  refine z_aload_n h 0 rfl dL_law_948 ?_
  refine z_iload h 4 rfl dL_law_949 ?_
  refine z_iconst h (nI 1) (by decide +kernel) dL_law_951 ?_
  refine z_iadd h dL_law_952 ?_
  refine z_top (nI (i + 1)) (nI_add i 1) ?_
  refine z_sld h hX hbl hbA (i := i + 1) (by omega) (by omega) dL_law_953 ?_
  refine z_aload_n h 3 rfl dL_law_954 ?_
  refine w_callS h (As := [.ref qx, .int (xs (i + 1)), .ref bo]) (st := []) (ws2 := zOu (zy E) bo F9 ++ (C1 ++ M9)) (r := some (.int (nI kc))) 3 hw egL_L_whole ⟨by decide, by decide, by decide +kernel⟩ rfl ⟨by decide, by decide⟩ (zr 0 _) (zr_all _) (zr_nd _ _) (zput_all (zlen hw.1)) (Nat.le_of_ble_eq_true rfl) rfl rfl dL_law_955 hk ?_
  refine z_istore h (by decide) rfl dL_law_958 ?_
  refine z_aload_n h 3 rfl dL_law_960 ?_
  refine z_aload_n h 1 rfl dL_law_961 ?_
  refine z_iload h 5 rfl dL_law_962 ?_
  refine z_iconst h (nI 1) (by decide +kernel) dL_law_964 ?_
  refine z_iadd h dL_law_965 ?_
  refine z_top (nI (i + 1)) (nI_add i 1) ?_
  refine z_sld h hX hbl hbA (i := i + 1) (by omega) (by omega) dL_law_966 ?_
  refine z_wV h (As := [.int (xs (i + 1))]) (st := []) (ws2 := zOu (zy E) bo F9 ++ (C1 ++ M1)) (r := some (.int bm)) 1 (law_mo _ _ hm) egL_X10_whole (q0 := 98) (ci := 8) (by decide +kernel) ((law_rm hC1).trans hm0) rfl rfl ⟨by decide, by decide⟩ (Nat.le_of_ble_eq_true rfl) rfl rfl dL_law_967 ?_ hkR
  refine z_istore h (by decide) rfl dL_law_970 ?_
  refine z_aload_n h 4 rfl dL_law_972 ?_
  refine z_wV h (As := []) (st := []) (ws2 := zOu (zy E) bo F9 ++ (C1 ++ M1)) (r := some (.int (nI kc))) 0 (law_mo _ _ ht) egL_X10_thrown (q0 := 98) (ci := 8) (by decide +kernel) ((law_rm hC1).trans hm1) rfl rfl ⟨by decide, by decide⟩ (Nat.le_of_ble_eq_true rfl) rfl rfl dL_law_973 ?_ hkR
  refine z_iload h 1 rfl dL_law_976 ?_
  refine z_icmp_eq h 983 dL_law_978 (by decide) (fun _ => ?_) (fun c9 => absurd rfl c9)
  refine z_iload h 1 rfl dL_law_983 ?_
  refine z_if_ne h 1000 dL_law_985 (by decide) (fun c5 => ?_) (fun c5 => ?_)
  · refine z_goto h 1534 dL_law_1000 (by decide) ?_
    exact z_sub [2, 3, 4, 5, 6] rfl kk
  · have hk0 : kc = 0 := law_0 hkc c5
    refine z_aload_n h 5 rfl dL_law_988 ?_
    refine z_iconst h (nI 0) (by decide +kernel) dL_law_989 ?_
    refine z_lald h 0 0 (f := F9) rfl rfl rfl (by decide) (by decide) dL_law_990 ?_
    refine z_iload h 0 rfl dL_law_991 ?_
    refine z_i2l h dL_law_993 ?_
    refine z_lcmp h dL_law_994 ?_
    refine z_if_eq h 1000 dL_law_995 (by decide) (fun _ => ?_) (fun c9 => absurd (law_c (heq hk0)) c9)
    refine z_goto h 1534 dL_law_1000 (by decide) ?_
    exact z_sub [2, 3, 4, 5, 6] rfl (kk)
set_option maxHeartbeats 4000000 in
set_option maxRecDepth 100000 in
/-- case rounds -/
theorem law_rounds {E : zE} (h : zC E RL cL_law eLaw 13 492 7) {b L : Nat} {xs : Nat → Int32} (hX : va_X b L xs (zs E) (zs E).heap) (hbl : b < (zs E).heap.size) (hbA : ¬ zAA E b) (hL : L ≤ 2560) {i : Nat} (hi : i + 5 ≤ L) {k n : Nat} (hk : k + 1 ≤ E.2.2.2.2.2.1.cells ∧ n + 6 ≤ E.2.2.2.2.2.1.slots) {qx qm bo : Nat} {C0 C1 M9 M1 : va_W} {fx fm fm1 : List Value} (hC0 : C0.length = 97) (hC1 : C1.length = 97) (hc0 : C0[0]? = some (qx, .inr (7, fx))) (hm0 : M9[0]? = some (qm, .inr (8, fm))) {F : Nat → Int64} {a9 : Int32} (hw : zM (zl E) (zy E) (zD E) yX9_rounds wsX9_rounds 5 117 [.ref qx] C0 C1 (some (.int a9))) (hm : zM (zl E) (zy E) (zD E) yX10_rounds wsX10_rounds 3 73 [.ref qm] M9 M1 (some (.int a9))) (kk : Z E (k + 1) (n + 6) [(0, .ref b), (1, .ref qx), (2, .ref qm), (3, .ref bo), (4, .int (nI i))] (zOu (zy E) bo F ++ (C1 ++ M1)) 1534 []) : Z E k n [(0, .ref b), (1, .ref qx), (2, .ref qm), (3, .ref bo), (4, .int (nI i))] (zOu (zy E) bo F ++ (C0 ++ M9)) 1003 [] := by
  have hkR : k ≤ E.2.2.2.2.2.1.cells ∧ n ≤ E.2.2.2.2.2.1.slots := ⟨by omega, by omega⟩
  refine z_aload_n h 1 rfl dL_law_1003 ?_
  refine z_wV h (As := []) (st := []) (ws2 := zOu (zy E) bo F ++ (C1 ++ M9)) (r := some (.int a9)) 0 (z_mid _ _ hw) egL_X9_rounds (q0 := 1) (ci := 7) (by decide +kernel) ((law_rx hC0).trans hc0) rfl rfl ⟨by decide, by decide⟩ (Nat.le_of_ble_eq_true rfl) rfl rfl dL_law_1004 ?_ hkR
  refine z_aload_n h 2 rfl dL_law_1007 ?_
  refine z_wV h (As := []) (st := [.int a9]) (ws2 := zOu (zy E) bo F ++ (C1 ++ M1)) (r := some (.int a9)) 0 (law_mo _ _ hm) egL_X10_rounds (q0 := 98) (ci := 8) (by decide +kernel) ((law_rm hC1).trans hm0) rfl rfl ⟨by decide, by decide⟩ (Nat.le_of_ble_eq_true rfl) rfl rfl dL_law_1008 ?_ hkR
  refine z_icmp_eq h 1534 dL_law_1011 (by decide) (fun _ => ?_) (fun c9 => absurd rfl c9)
  exact z_sub [0, 1, 2, 3, 4] rfl (z_widen (by omega) (by omega) kk)
set_option maxHeartbeats 4000000 in
set_option maxRecDepth 100000 in
/-- case votes -/
theorem law_votes {E : zE} (h : zC E RL cL_law eLaw 13 492 7) {b L : Nat} {xs : Nat → Int32} (hX : va_X b L xs (zs E) (zs E).heap) (hbl : b < (zs E).heap.size) (hbA : ¬ zAA E b) (hL : L ≤ 2560) {i : Nat} (hi : i + 5 ≤ L) {k n : Nat} (hk : k + 1 ≤ E.2.2.2.2.2.1.cells ∧ n + 6 ≤ E.2.2.2.2.2.1.slots) {qx qm bo : Nat} {C0 C1 M9 M1 : va_W} {fx fm fm1 : List Value} (hC0 : C0.length = 97) (hC1 : C1.length = 97) (hc0 : C0[0]? = some (qx, .inr (7, fx))) (hm0 : M9[0]? = some (qm, .inr (8, fm))) {F F9 : Nat → Int64} {kc : Nat} {bm : Int32} (hm1 : M1[0]? = some (qm, .inr (8, fm1))) (hw : zW (zl E) (zy E) (zD E) yL_votes wsL_votes 8 230 1 6 [.ref qx, .int (xs (i + 1)), .int (xs (i + 2)), .ref bo] (zOu (zy E) bo F ++ (C0 ++ M9)) (zOu (zy E) bo F9 ++ (C1 ++ M9)) (some (.int (nI kc)))) (hm : zM (zl E) (zy E) (zD E) yX10_votes wsX10_votes 3 73 [.ref qm, .int (xs (i + 1)), .int (xs (i + 2))] M9 M1 (some (.int bm))) (ht : zM (zl E) (zy E) (zD E) yX10_thrown wsX10_thrown 0 0 [.ref qm] M1 M1 (some (.int (nI kc)))) (hkc : kc < 4) (heq : kc = 0 → F9 0 = bm.toInt64) (kk : Z E (k + 1) (n + 6) [(0, .ref b), (1, .ref qx), (2, .ref qm), (3, .ref bo), (4, .int (nI i))] (zOu (zy E) bo F9 ++ (C1 ++ M1)) 1534 []) : Z E k n [(0, .ref b), (1, .ref qx), (2, .ref qm), (3, .ref bo), (4, .int (nI i))] (zOu (zy E) bo F ++ (C0 ++ M9)) 1016 [] := by
  have hkR : k + 1 ≤ E.2.2.2.2.2.1.cells ∧ n + 6 ≤ E.2.2.2.2.2.1.slots := ⟨by omega, by omega⟩
  refine z_aload_n h 1 rfl dL_law_1016 ?_
  refine z_aload_n h 0 rfl dL_law_1017 ?_
  refine z_iload h 4 rfl dL_law_1018 ?_
  refine z_iconst h (nI 1) (by decide +kernel) dL_law_1020 ?_
  refine z_iadd h dL_law_1021 ?_
  refine z_top (nI (i + 1)) (nI_add i 1) ?_
  refine z_sld h hX hbl hbA (i := i + 1) (by omega) (by omega) dL_law_1022 ?_
  refine z_aload_n h 0 rfl dL_law_1023 ?_
  refine z_iload h 4 rfl dL_law_1024 ?_
  refine z_iconst h (nI 2) (by decide +kernel) dL_law_1026 ?_
  refine z_iadd h dL_law_1027 ?_
  refine z_top (nI (i + 2)) (nI_add i 2) ?_
  refine z_sld h hX hbl hbA (i := i + 2) (by omega) (by omega) dL_law_1028 ?_
  refine z_aload_n h 3 rfl dL_law_1029 ?_
  refine w_callS h (As := [.ref qx, .int (xs (i + 1)), .int (xs (i + 2)), .ref bo]) (st := []) (ws2 := zOu (zy E) bo F9 ++ (C1 ++ M9)) (r := some (.int (nI kc))) 4 hw egL_L_votes ⟨by decide, by decide, by decide +kernel⟩ rfl ⟨by decide, by decide⟩ (zr 0 _) (zr_all _) (zr_nd _ _) (zput_all (zlen hw.1)) (Nat.le_of_ble_eq_true rfl) rfl rfl dL_law_1030 hk ?_
  refine z_istore h (by decide) rfl dL_law_1033 ?_
  refine z_aload_n h 3 rfl dL_law_1035 ?_
  refine z_aload_n h 1 rfl dL_law_1036 ?_
  refine z_iload h 5 rfl dL_law_1037 ?_
  refine z_iconst h (nI 1) (by decide +kernel) dL_law_1039 ?_
  refine z_iadd h dL_law_1040 ?_
  refine z_top (nI (i + 1)) (nI_add i 1) ?_
  refine z_sld h hX hbl hbA (i := i + 1) (by omega) (by omega) dL_law_1041 ?_
  refine z_aload_n h 1 rfl dL_law_1042 ?_
  refine z_iload h 5 rfl dL_law_1043 ?_
  refine z_iconst h (nI 2) (by decide +kernel) dL_law_1045 ?_
  refine z_iadd h dL_law_1046 ?_
  refine z_top (nI (i + 2)) (nI_add i 2) ?_
  refine z_sld h hX hbl hbA (i := i + 2) (by omega) (by omega) dL_law_1047 ?_
  refine z_wV h (As := [.int (xs (i + 1)), .int (xs (i + 2))]) (st := []) (ws2 := zOu (zy E) bo F9 ++ (C1 ++ M1)) (r := some (.int bm)) 2 (law_mo _ _ hm) egL_X10_votes (q0 := 98) (ci := 8) (by decide +kernel) ((law_rm hC1).trans hm0) rfl rfl ⟨by decide, by decide⟩ (Nat.le_of_ble_eq_true rfl) rfl rfl dL_law_1048 ?_ hkR
  refine z_istore h (by decide) rfl dL_law_1051 ?_
  refine z_aload_n h 4 rfl dL_law_1053 ?_
  refine z_wV h (As := []) (st := []) (ws2 := zOu (zy E) bo F9 ++ (C1 ++ M1)) (r := some (.int (nI kc))) 0 (law_mo _ _ ht) egL_X10_thrown (q0 := 98) (ci := 8) (by decide +kernel) ((law_rm hC1).trans hm1) rfl rfl ⟨by decide, by decide⟩ (Nat.le_of_ble_eq_true rfl) rfl rfl dL_law_1054 ?_ hkR
  refine z_iload h 1 rfl dL_law_1057 ?_
  refine z_icmp_eq h 1064 dL_law_1059 (by decide) (fun _ => ?_) (fun c9 => absurd rfl c9)
  refine z_iload h 1 rfl dL_law_1064 ?_
  refine z_if_ne h 1081 dL_law_1066 (by decide) (fun c5 => ?_) (fun c5 => ?_)
  · refine z_goto h 1534 dL_law_1081 (by decide) ?_
    exact z_sub [2, 3, 4, 5, 6] rfl kk
  · have hk0 : kc = 0 := law_0 hkc c5
    refine z_aload_n h 5 rfl dL_law_1069 ?_
    refine z_iconst h (nI 0) (by decide +kernel) dL_law_1070 ?_
    refine z_lald h 0 0 (f := F9) rfl rfl rfl (by decide) (by decide) dL_law_1071 ?_
    refine z_iload h 0 rfl dL_law_1072 ?_
    refine z_i2l h dL_law_1074 ?_
    refine z_lcmp h dL_law_1075 ?_
    refine z_if_eq h 1081 dL_law_1076 (by decide) (fun _ => ?_) (fun c9 => absurd (law_c (heq hk0)) c9)
    refine z_goto h 1534 dL_law_1081 (by decide) ?_
    exact z_sub [2, 3, 4, 5, 6] rfl (kk)
set_option maxHeartbeats 4000000 in
set_option maxRecDepth 100000 in
/-- case winner -/
theorem law_winner {E : zE} (h : zC E RL cL_law eLaw 13 492 7) {b L : Nat} {xs : Nat → Int32} (hX : va_X b L xs (zs E) (zs E).heap) (hbl : b < (zs E).heap.size) (hbA : ¬ zAA E b) (hL : L ≤ 2560) {i : Nat} (hi : i + 5 ≤ L) {k n : Nat} (hk : k + 1 ≤ E.2.2.2.2.2.1.cells ∧ n + 6 ≤ E.2.2.2.2.2.1.slots) {qx qm bo : Nat} {C0 C1 M9 M1 : va_W} {fx fm fm1 : List Value} (hC0 : C0.length = 97) (hC1 : C1.length = 97) (hc0 : C0[0]? = some (qx, .inr (7, fx))) (hm0 : M9[0]? = some (qm, .inr (8, fm))) {F : Nat → Int64} {a9 : Int32} (hw : zM (zl E) (zy E) (zD E) yX9_winner wsX9_winner 5 117 [.ref qx] C0 C1 (some (.int a9))) (hm : zM (zl E) (zy E) (zD E) yX10_winner wsX10_winner 3 73 [.ref qm] M9 M1 (some (.int a9))) (kk : Z E (k + 1) (n + 6) [(0, .ref b), (1, .ref qx), (2, .ref qm), (3, .ref bo), (4, .int (nI i))] (zOu (zy E) bo F ++ (C1 ++ M1)) 1534 []) : Z E k n [(0, .ref b), (1, .ref qx), (2, .ref qm), (3, .ref bo), (4, .int (nI i))] (zOu (zy E) bo F ++ (C0 ++ M9)) 1084 [] := by
  have hkR : k ≤ E.2.2.2.2.2.1.cells ∧ n ≤ E.2.2.2.2.2.1.slots := ⟨by omega, by omega⟩
  refine z_aload_n h 1 rfl dL_law_1084 ?_
  refine z_wV h (As := []) (st := []) (ws2 := zOu (zy E) bo F ++ (C1 ++ M9)) (r := some (.int a9)) 0 (z_mid _ _ hw) egL_X9_winner (q0 := 1) (ci := 7) (by decide +kernel) ((law_rx hC0).trans hc0) rfl rfl ⟨by decide, by decide⟩ (Nat.le_of_ble_eq_true rfl) rfl rfl dL_law_1085 ?_ hkR
  refine z_aload_n h 2 rfl dL_law_1088 ?_
  refine z_wV h (As := []) (st := [.int a9]) (ws2 := zOu (zy E) bo F ++ (C1 ++ M1)) (r := some (.int a9)) 0 (law_mo _ _ hm) egL_X10_winner (q0 := 98) (ci := 8) (by decide +kernel) ((law_rm hC1).trans hm0) rfl rfl ⟨by decide, by decide⟩ (Nat.le_of_ble_eq_true rfl) rfl rfl dL_law_1089 ?_ hkR
  refine z_icmp_eq h 1534 dL_law_1092 (by decide) (fun _ => ?_) (fun c9 => absurd rfl c9)
  exact z_sub [0, 1, 2, 3, 4] rfl (z_widen (by omega) (by omega) kk)
set_option maxHeartbeats 4000000 in
set_option maxRecDepth 100000 in
/-- case reason -/
theorem law_reason {E : zE} (h : zC E RL cL_law eLaw 13 492 7) {b L : Nat} {xs : Nat → Int32} (hX : va_X b L xs (zs E) (zs E).heap) (hbl : b < (zs E).heap.size) (hbA : ¬ zAA E b) (hL : L ≤ 2560) {i : Nat} (hi : i + 5 ≤ L) {k n : Nat} (hk : k + 1 ≤ E.2.2.2.2.2.1.cells ∧ n + 6 ≤ E.2.2.2.2.2.1.slots) {qx qm bo : Nat} {C0 C1 M9 M1 : va_W} {fx fm fm1 : List Value} (hC0 : C0.length = 97) (hC1 : C1.length = 97) (hc0 : C0[0]? = some (qx, .inr (7, fx))) (hm0 : M9[0]? = some (qm, .inr (8, fm))) {F F9 : Nat → Int64} {kc : Nat} {bm : Int32} (hm1 : M1[0]? = some (qm, .inr (8, fm1))) (hw : zW (zl E) (zy E) (zD E) yL_reason wsL_reason 8 230 1 6 [.ref qx, .int (xs (i + 1)), .int (xs (i + 2)), .int (xs (i + 3)), .int (xs (i + 4)), .ref bo] (zOu (zy E) bo F ++ (C0 ++ M9)) (zOu (zy E) bo F9 ++ (C1 ++ M9)) (some (.int (nI kc)))) (hm : zM (zl E) (zy E) (zD E) yX10_reason wsX10_reason 2 45 [.ref qm, .int (xs (i + 1)), .int (xs (i + 2)), .int (xs (i + 3)), .int (xs (i + 4))] M9 M1 (some (.int bm))) (ht : zM (zl E) (zy E) (zD E) yX10_thrown wsX10_thrown 0 0 [.ref qm] M1 M1 (some (.int (nI kc)))) (hkc : kc < 4) (heq : kc = 0 → F9 0 = bm.toInt64) (kk : Z E (k + 1) (n + 6) [(0, .ref b), (1, .ref qx), (2, .ref qm), (3, .ref bo), (4, .int (nI i))] (zOu (zy E) bo F9 ++ (C1 ++ M1)) 1534 []) : Z E k n [(0, .ref b), (1, .ref qx), (2, .ref qm), (3, .ref bo), (4, .int (nI i))] (zOu (zy E) bo F ++ (C0 ++ M9)) 1097 [] := by
  have hkR : k + 1 ≤ E.2.2.2.2.2.1.cells ∧ n + 6 ≤ E.2.2.2.2.2.1.slots := ⟨by omega, by omega⟩
  refine z_aload_n h 1 rfl dL_law_1097 ?_
  refine z_aload_n h 0 rfl dL_law_1098 ?_
  refine z_iload h 4 rfl dL_law_1099 ?_
  refine z_iconst h (nI 1) (by decide +kernel) dL_law_1101 ?_
  refine z_iadd h dL_law_1102 ?_
  refine z_top (nI (i + 1)) (nI_add i 1) ?_
  refine z_sld h hX hbl hbA (i := i + 1) (by omega) (by omega) dL_law_1103 ?_
  refine z_aload_n h 0 rfl dL_law_1104 ?_
  refine z_iload h 4 rfl dL_law_1105 ?_
  refine z_iconst h (nI 2) (by decide +kernel) dL_law_1107 ?_
  refine z_iadd h dL_law_1108 ?_
  refine z_top (nI (i + 2)) (nI_add i 2) ?_
  refine z_sld h hX hbl hbA (i := i + 2) (by omega) (by omega) dL_law_1109 ?_
  refine z_aload_n h 0 rfl dL_law_1110 ?_
  refine z_iload h 4 rfl dL_law_1111 ?_
  refine z_iconst h (nI 3) (by decide +kernel) dL_law_1113 ?_
  refine z_iadd h dL_law_1114 ?_
  refine z_top (nI (i + 3)) (nI_add i 3) ?_
  refine z_sld h hX hbl hbA (i := i + 3) (by omega) (by omega) dL_law_1115 ?_
  refine z_aload_n h 0 rfl dL_law_1116 ?_
  refine z_iload h 4 rfl dL_law_1117 ?_
  refine z_iconst h (nI 4) (by decide +kernel) dL_law_1119 ?_
  refine z_iadd h dL_law_1120 ?_
  refine z_top (nI (i + 4)) (nI_add i 4) ?_
  refine z_sld h hX hbl hbA (i := i + 4) (by omega) (by omega) dL_law_1121 ?_
  refine z_aload_n h 3 rfl dL_law_1122 ?_
  refine w_callS h (As := [.ref qx, .int (xs (i + 1)), .int (xs (i + 2)), .int (xs (i + 3)), .int (xs (i + 4)), .ref bo]) (st := []) (ws2 := zOu (zy E) bo F9 ++ (C1 ++ M9)) (r := some (.int (nI kc))) 6 hw egL_L_reason ⟨by decide, by decide, by decide +kernel⟩ rfl ⟨by decide, by decide⟩ (zr 0 _) (zr_all _) (zr_nd _ _) (zput_all (zlen hw.1)) (Nat.le_of_ble_eq_true rfl) rfl rfl dL_law_1123 hk ?_
  refine z_istore h (by decide) rfl dL_law_1126 ?_
  refine z_aload_n h 3 rfl dL_law_1128 ?_
  refine z_aload_n h 1 rfl dL_law_1129 ?_
  refine z_iload h 5 rfl dL_law_1130 ?_
  refine z_iconst h (nI 1) (by decide +kernel) dL_law_1132 ?_
  refine z_iadd h dL_law_1133 ?_
  refine z_top (nI (i + 1)) (nI_add i 1) ?_
  refine z_sld h hX hbl hbA (i := i + 1) (by omega) (by omega) dL_law_1134 ?_
  refine z_aload_n h 1 rfl dL_law_1135 ?_
  refine z_iload h 5 rfl dL_law_1136 ?_
  refine z_iconst h (nI 2) (by decide +kernel) dL_law_1138 ?_
  refine z_iadd h dL_law_1139 ?_
  refine z_top (nI (i + 2)) (nI_add i 2) ?_
  refine z_sld h hX hbl hbA (i := i + 2) (by omega) (by omega) dL_law_1140 ?_
  refine z_aload_n h 1 rfl dL_law_1141 ?_
  refine z_iload h 5 rfl dL_law_1142 ?_
  refine z_iconst h (nI 3) (by decide +kernel) dL_law_1144 ?_
  refine z_iadd h dL_law_1145 ?_
  refine z_top (nI (i + 3)) (nI_add i 3) ?_
  refine z_sld h hX hbl hbA (i := i + 3) (by omega) (by omega) dL_law_1146 ?_
  refine z_aload_n h 1 rfl dL_law_1147 ?_
  refine z_iload h 5 rfl dL_law_1148 ?_
  refine z_iconst h (nI 4) (by decide +kernel) dL_law_1150 ?_
  refine z_iadd h dL_law_1151 ?_
  refine z_top (nI (i + 4)) (nI_add i 4) ?_
  refine z_sld h hX hbl hbA (i := i + 4) (by omega) (by omega) dL_law_1152 ?_
  refine z_wV h (As := [.int (xs (i + 1)), .int (xs (i + 2)), .int (xs (i + 3)), .int (xs (i + 4))]) (st := []) (ws2 := zOu (zy E) bo F9 ++ (C1 ++ M1)) (r := some (.int bm)) 4 (law_mo _ _ hm) egL_X10_reason (q0 := 98) (ci := 8) (by decide +kernel) ((law_rm hC1).trans hm0) rfl rfl ⟨by decide, by decide⟩ (Nat.le_of_ble_eq_true rfl) rfl rfl dL_law_1153 ?_ hkR
  refine z_istore h (by decide) rfl dL_law_1156 ?_
  refine z_aload_n h 4 rfl dL_law_1158 ?_
  refine z_wV h (As := []) (st := []) (ws2 := zOu (zy E) bo F9 ++ (C1 ++ M1)) (r := some (.int (nI kc))) 0 (law_mo _ _ ht) egL_X10_thrown (q0 := 98) (ci := 8) (by decide +kernel) ((law_rm hC1).trans hm1) rfl rfl ⟨by decide, by decide⟩ (Nat.le_of_ble_eq_true rfl) rfl rfl dL_law_1159 ?_ hkR
  refine z_iload h 1 rfl dL_law_1162 ?_
  refine z_icmp_eq h 1169 dL_law_1164 (by decide) (fun _ => ?_) (fun c9 => absurd rfl c9)
  refine z_iload h 1 rfl dL_law_1169 ?_
  refine z_if_ne h 1186 dL_law_1171 (by decide) (fun c5 => ?_) (fun c5 => ?_)
  · refine z_goto h 1534 dL_law_1186 (by decide) ?_
    exact z_sub [2, 3, 4, 5, 6] rfl kk
  · have hk0 : kc = 0 := law_0 hkc c5
    refine z_aload_n h 5 rfl dL_law_1174 ?_
    refine z_iconst h (nI 0) (by decide +kernel) dL_law_1175 ?_
    refine z_lald h 0 0 (f := F9) rfl rfl rfl (by decide) (by decide) dL_law_1176 ?_
    refine z_iload h 0 rfl dL_law_1177 ?_
    refine z_i2l h dL_law_1179 ?_
    refine z_lcmp h dL_law_1180 ?_
    refine z_if_eq h 1186 dL_law_1181 (by decide) (fun _ => ?_) (fun c9 => absurd (law_c (heq hk0)) c9)
    refine z_goto h 1534 dL_law_1186 (by decide) ?_
    exact z_sub [2, 3, 4, 5, 6] rfl (kk)
