/-! the law's loop: the switch, the rounds -/
section LOOP
variable {E : zE} {b L : Nat} {xs : Nat → Int32} {q : Nat → Nat} {a : Nat → Nat → Nat} {qm : Nat → Nat} {bo : Nat}
set_option maxHeartbeats 4000000 in
set_option maxRecDepth 100000 in
theorem law_sw (h : zC E RL cL_law eLaw 13 492 7) (hl : (zl E).stackTraces = false) (hX : va_X b L xs (zs E) (zs E).heap) (hbl : b < (zs E).heap.size) (hbA : ¬ zAA E b) (hL : L ≤ 2560) {i : Nat} (hi : i + 5 ≤ L) {k n : Nat} (hk : k + 1 ≤ E.2.2.2.2.2.1.cells ∧ n + 6 ≤ E.2.2.2.2.2.1.slots) (af : AF E b q a qm bo i (k + 1) (n + 6)) {F : Nat → Int64} {g t c o n9 : Nat → Nat → Int32} {S : Nat → Nat → Nat → Int32} {h9 : Nat → Nat → Int32} {u v : Nat} (R : RR g o n9 S h9 u v) : Z E k n [(0, .ref b), (1, .ref (q 0)), (2, .ref (qm 0)), (3, .ref bo), (4, .int (nI i))] (zOu (zy E) bo F ++ (zCW (zy E) q a g t c o n9 S ++ zMo (zy E) qm h9)) 32 [] := by
  have hkR : k ≤ E.2.2.2.2.2.1.cells ∧ n ≤ E.2.2.2.2.2.1.slots := ⟨by omega, by omega⟩
  refine z_aload_n h 0 rfl dL_law_32 ?_
  refine z_iload h 4 rfl dL_law_33 ?_
  refine z_sld h hX hbl hbA (i := i) (by omega) (by omega) dL_law_35 ?_
  refine z_bipush h (nI 31) (by decide +kernel) dL_law_36 ?_
  refine z_iand h dL_law_38 ?_
  obtain ⟨j, hj, ej⟩ := pk_andE (xs i) (m := nI 31) 5 (by decide +kernel)
  refine z_top (nI j) ej ?_
  rcases Nat.lt_or_ge j 27 with q9 | q9
  · rcases (show j = 0 ∨ j = 1 ∨ j = 2 ∨ j = 3 ∨ j = 4 ∨ j = 5 ∨ j = 6 ∨ j = 7 ∨ j = 8 ∨ j = 9 ∨ j = 10 ∨ j = 11 ∨ j = 12 ∨ j = 13 ∨ j = 14 ∨ j = 15 ∨ j = 16 ∨ j = 17 ∨ j = 18 ∨ j = 19 ∨ j = 20 ∨ j = 21 ∨ j = 22 ∨ j = 23 ∨ j = 24 ∨ j = 25 ∨ j = 26 by omega) with rfl | rfl | rfl | rfl | rfl | rfl | rfl | rfl | rfl | rfl | rfl | rfl | rfl | rfl | rfl | rfl | rfl | rfl | rfl | rfl | rfl | rfl | rfl | rfl | rfl | rfl | rfl
    · refine z_tblIn h (off := 121) 160 dL_law_39 (by decide +kernel) (by decide +kernel) (by decide +kernel) (by decide) ?_
      exact ca_addSnow h hl hX hbl hbA hL hi hk af R
    · refine z_tblIn h (off := 177) 216 dL_law_39 (by decide +kernel) (by decide +kernel) (by decide +kernel) (by decide) ?_
      exact ca_press h hl hX hbl hbA hL hi hk af R
    · refine z_tblIn h (off := 245) 284 dL_law_39 (by decide +kernel) (by decide +kernel) (by decide +kernel) (by decide) ?_
      exact ca_stack h hl hX hbl hbA hL hi hk af R
    · refine z_tblIn h (off := 313) 352 dL_law_39 (by decide +kernel) (by decide +kernel) (by decide +kernel) (by decide) ?_
      exact ca_setWall h hl hX hbl hbA hL hi hk af R
    · refine z_tblIn h (off := 397) 436 dL_law_39 (by decide +kernel) (by decide +kernel) (by decide +kernel) (by decide) ?_
      exact ca_addTool h hl hX hbl hbA hL hi hk af R
    · refine z_tblIn h (off := 453) 492 dL_law_39 (by decide +kernel) (by decide +kernel) (by decide +kernel) (by decide) ?_
      exact ca_carve h hl hX hbl hbA hL hi hk af R
    · refine z_tblIn h (off := 545) 584 dL_law_39 (by decide +kernel) (by decide +kernel) (by decide +kernel) (by decide) ?_
      exact ca_recycle h hl hX hbl hbA hL hi hk af R
    · refine z_tblIn h (off := 558) 597 dL_law_39 (by decide +kernel) (by decide +kernel) (by decide +kernel) (by decide) ?_
      exact ca_hour h hl hX hbl hbA hL hi hk af R
    · refine z_tblIn h (off := 599) 638 dL_law_39 (by decide +kernel) (by decide +kernel) (by decide +kernel) (by decide) ?_
      exact ca_ballot h hl hX hbl hbA hL hi hk af R
    · refine z_tblIn h (off := 679) 718 dL_law_39 (by decide +kernel) (by decide +kernel) (by decide +kernel) (by decide) ?_
      exact ca_clearBallots h hl hX hbl hbA hL hi hk af R
    · refine z_tblIn h (off := 692) 731 dL_law_39 (by decide +kernel) (by decide +kernel) (by decide +kernel) (by decide) ?_
      exact ca_block h hl hX hbl hbA hL hi hk af R
    · refine z_tblIn h (off := 772) 811 dL_law_39 (by decide +kernel) (by decide +kernel) (by decide +kernel) (by decide) ?_
      exact ca_site h hl hX hbl hbA hL hi hk af R
    · refine z_tblIn h (off := 840) 879 dL_law_39 (by decide +kernel) (by decide +kernel) (by decide +kernel) (by decide) ?_
      exact ca_tool h hl hX hbl hbA hL hi hk af R
    · refine z_tblIn h (off := 908) 947 dL_law_39 (by decide +kernel) (by decide +kernel) (by decide +kernel) (by decide) ?_
      exact ca_whole h hl hX hbl hbA hL hi hk af R
    · refine z_tblIn h (off := 964) 1003 dL_law_39 (by decide +kernel) (by decide +kernel) (by decide +kernel) (by decide) ?_
      exact ca_rounds h hl hX hbl hbA hL hi hk af R
    · refine z_tblIn h (off := 977) 1016 dL_law_39 (by decide +kernel) (by decide +kernel) (by decide +kernel) (by decide) ?_
      exact ca_votes h hl hX hbl hbA hL hi hk af R
    · refine z_tblIn h (off := 1045) 1084 dL_law_39 (by decide +kernel) (by decide +kernel) (by decide +kernel) (by decide) ?_
      exact ca_winner h hl hX hbl hbA hL hi hk af R
    · refine z_tblIn h (off := 1058) 1097 dL_law_39 (by decide +kernel) (by decide +kernel) (by decide +kernel) (by decide) ?_
      exact ca_reason h hl hX hbl hbA hL hi hk af R
    · refine z_tblIn h (off := 1150) 1189 dL_law_39 (by decide +kernel) (by decide +kernel) (by decide +kernel) (by decide) ?_
      exact ca_volumeIn h hl hX hbl hbA hL hi hk af R
    · refine z_tblIn h (off := 1218) 1257 dL_law_39 (by decide +kernel) (by decide +kernel) (by decide +kernel) (by decide) ?_
      exact ca_goneIn h hl hX hbl hbA hL hi hk af R
    · refine z_tblIn h (off := 1274) 1313 dL_law_39 (by decide +kernel) (by decide +kernel) (by decide +kernel) (by decide) ?_
      exact ca_bestWall h hl hX hbl hbA hL hi hk af R
    · refine z_tblIn h (off := 1287) 1326 dL_law_39 (by decide +kernel) (by decide +kernel) (by decide +kernel) (by decide) ?_
      exact ca_minutesFor h hl hX hbl hbA hL hi hk af R
    · refine z_tblIn h (off := 1355) 1394 dL_law_39 (by decide +kernel) (by decide +kernel) (by decide +kernel) (by decide) ?_
      exact ca_type h hl hX hbl hbA hL hi hk af R
    · refine z_tblIn h (off := 1411) 1450 dL_law_39 (by decide +kernel) (by decide +kernel) (by decide +kernel) (by decide) ?_
      exact ca_clearOrders h hl hX hbl hbA hL hi hk af R
    · refine z_tblIn h (off := 1424) 1463 dL_law_39 (by decide +kernel) (by decide +kernel) (by decide +kernel) (by decide) ?_
      exact ca_runOrders h hl hX hbl hbA hL hi hk af R
    · refine z_tblIn h (off := 1437) 1476 dL_law_39 (by decide +kernel) (by decide +kernel) (by decide +kernel) (by decide) ?_
      exact ca_undo h hl hX hbl hbA hL hi hk af R
    · refine z_tblIn h (off := 1481) 1520 dL_law_39 (by decide +kernel) (by decide +kernel) (by decide +kernel) (by decide) ?_
      exact ca_digest h hl hX hbl hbA hL hi hk af R
  · have hj2 : (nI j).toInt = (j : Int) := nI_toInt (by omega)
    refine z_tblOut h 1534 dL_law_39 (Or.inr (by rw [hj2]; omega)) (by decide) ?_
    exact z_widen (by omega) (by omega) (af _ _ _ _ _ _ _ _ _ _ R)
/-- the rounds -/
theorem law_loop (h : zC E RL cL_law eLaw 13 492 7) (hl : (zl E).stackTraces = false) (hX : va_X b L xs (zs E) (zs E).heap) (hbl : b < (zs E).heap.size) (hbA : ¬ zAA E b) (hL : L ≤ 2560) (hroom : E.2.2.2.2.2.1.cells = 601024 ∧ E.2.2.2.2.2.1.slots = 7293034) (fin : ∀ (k n : Nat) (lv : List (Nat × Value)) (ws : va_W), k ≤ 601024 → n ≤ 7293034 → Z E k n lv ws 1540 []) : ∀ (d i k n : Nat), L ≤ i + 5 * d + 4 → i ≤ L → k + d ≤ 601024 → n + 6 * d ≤ 7293034 → ∀ (F : Nat → Int64) (g t c o n9 : Nat → Nat → Int32) (S : Nat → Nat → Nat → Int32) (h9 : Nat → Nat → Int32) (u v : Nat), RR g o n9 S h9 u v → Z E k n [(0, .ref b), (1, .ref (q 0)), (2, .ref (qm 0)), (3, .ref bo), (4, .int (nI i))] (zOu (zy E) bo F ++ (zCW (zy E) q a g t c o n9 S ++ zMo (zy E) qm h9)) 23 [] := by
  intro d
  induction d with
  | zero =>
    intro i k n h1 h2 h3 h4 F g t c o n9 S h9 u v R
    refine z_iload h 4 rfl dL_law_23 ?_
    refine z_aload_n h 0 rfl dL_law_25 ?_
    refine z_slen h hX hbl hbA dL_law_26 ?_
    refine z_iconst h (nI 5) (by decide +kernel) dL_law_27 ?_
    refine z_isub h dL_law_28 ?_
    refine z_icmp_gt h 1540 dL_law_29 (by decide) (fun _ => fin _ _ _ _ (by omega) (by omega)) (fun c9 => ?_)
    exfalso
    apply c9
    rw [Int32.lt_iff_toInt_lt, pk_sub_toInt (by omega) (by omega), nI_toInt (by omega)]
    omega
  | succ d ih =>
    intro i k n h1 h2 h3 h4 F g t c o n9 S h9 u v R
    refine z_iload h 4 rfl dL_law_23 ?_
    refine z_aload_n h 0 rfl dL_law_25 ?_
    refine z_slen h hX hbl hbA dL_law_26 ?_
    refine z_iconst h (nI 5) (by decide +kernel) dL_law_27 ?_
    refine z_isub h dL_law_28 ?_
    refine z_icmp_gt h 1540 dL_law_29 (by decide) (fun _ => fin _ _ _ _ (by omega) (by omega)) (fun c9 => ?_)
    have hi : i + 5 ≤ L := by
      rw [Int32.lt_iff_toInt_lt, pk_sub_toInt (by omega) (by omega), nI_toInt (by omega)] at c9
      omega
    refine law_sw h hl hX hbl hbA hL hi (by rw [hroom.1, hroom.2]; omega) ?_ R
    intro F1 g1 t1 c1 o1 n1 S1 h1 u1 v1 R1
    refine z_iinc h 4 (c0 := 5) (nI (i + 5)) rfl (by rw [show Int32.ofInt 5 = nI 5 by decide +kernel]; exact nI_add i 5) (by decide) rfl dL_law_1534 ?_
    refine z_goto h 23 dL_law_1537 (by decide) ?_
    exact z_sub [1, 2, 3, 4, 0] rfl (ih (i + 5) (k + 1) (n + 6) (by omega) (by omega) (by omega) (by omega) F1 g1 t1 c1 o1 n1 S1 h1 u1 v1 R1)
end LOOP
