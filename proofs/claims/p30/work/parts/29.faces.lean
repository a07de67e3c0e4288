def okB (g : Nat → Nat → Int32) : Prop := g 0 7 = nI (zb g) ∧ zb g ≤ 20
set_option maxHeartbeats 4000000 in
set_option maxRecDepth 100000 in
/-- throwFor 0 -/
theorem c_X9_throwFor_0 {l : Launch} {y : zY} {D : va_G}  : zM l y D yX9_throwFor wsX9_throwFor 0 0 [.int (nI 0)] ([]) ([]) (none) := by
  refine z_start (own := RX9) (cc := cX9_throwFor) (maxL := 1) (ret := none) rfl (by decide +kernel) rfl (Nat.le_of_ble_eq_true rfl) rfl ?_
  intro E hEl hEy hED h hf
  subst hEl hEy hED
  have hkR : 0 ≤ E.2.2.2.2.2.1.cells ∧ 0 ≤ E.2.2.2.2.2.1.slots := ⟨Nat.zero_le _, Nat.zero_le _⟩
  refine z_cast (lv := [(0, .int (nI 0))]) (ws := ([])) (st := []) ?_ rfl rfl rfl
  refine z_iload_n h 0 rfl dX9_throwFor_0 ?_
  refine z_tblOut h 61 dX9_throwFor_1 (by decide +kernel) (by decide) ?_
  exact z_vret h hf rfl rfl rfl dX9_throwFor_61

set_option maxHeartbeats 4000000 in
set_option maxRecDepth 100000 in
/-- sum -/
theorem c_X9_sum {l : Launch} {y : zY} {D : va_G} (x : Nat) (f : Nat → Int32) : zM l y D yX9_sum wsX9_sum 0 0 [.ref x] ([(x, .inl (y.1 0, 8, .inl f))]) ([(x, .inl (y.1 0, 8, .inl f))]) (some (.int (vSum f 0 8))) := by
  refine z_start (own := RX9) (cc := cX9_sum) (maxL := 6) (ret := (some .int)) rfl (by decide +kernel) rfl (Nat.le_of_ble_eq_true rfl) rfl ?_
  intro E hEl hEy hED h hf
  subst hEl hEy hED
  have hkR : 0 ≤ E.2.2.2.2.2.1.cells ∧ 0 ≤ E.2.2.2.2.2.1.slots := ⟨Nat.zero_le _, Nat.zero_le _⟩
  refine z_cast (lv := [(0, .ref x)]) (ws := ([(x, .inl ((zy E).1 0, 8, .inl f))])) (st := []) ?_ rfl rfl rfl
  refine z_iconst h (nI 0) (by decide +kernel) dX9_sum_0 ?_
  refine z_istore_n h (by decide) (lv' := [(1, .int (nI 0)), (0, .ref x)]) rfl dX9_sum_1 ?_
  refine z_aload_n h 1 rfl dX9_sum_2 ?_
  refine z_astore_n h (by decide) (lv' := [(2, .ref x), (1, .int (nI 0)), (0, .ref x)]) rfl dX9_sum_3 ?_
  refine z_aload_n h 0 rfl dX9_sum_4 ?_
  refine z_alen h 0 0 (nI 8) rfl rfl rfl dX9_sum_5 ?_
  refine z_istore_n h (by decide) (lv' := [(3, .int (nI 8)), (2, .ref x), (1, .int (nI 0)), (0, .ref x)]) rfl dX9_sum_6 ?_
  refine z_iconst h (nI 0) (by decide +kernel) dX9_sum_7 ?_
  refine z_istore h (by decide) (lv' := [(4, .int (nI 0)), (3, .int (nI 8)), (2, .ref x), (1, .int (nI 0)), (0, .ref x)]) rfl dX9_sum_8 ?_
  have lp_10 : ∀ (d_10 i : Nat), 8 < i + d_10 → i ≤ 8 → Z E 0 0 [(0, .ref x), (1, .int (vSum f 0 i)), (2, .ref x), (3, .int (nI 8)), (4, .int (nI i))] ([(x, .inl ((zy E).1 0, 8, .inl f))]) 10 [] := by
    intro d_10
    induction d_10 with
    | zero => intro i  q1 q2; omega
    | succ d_10 ih_10 =>
      intro i  q1_10 q2_10 
      refine z_iload h 4 rfl dX9_sum_10 ?_
      refine z_iload_n h 3 rfl dX9_sum_12 ?_
      refine z_icmp_ge h 33 dX9_sum_13 (by decide) (fun c_13 => ?_) (fun c_13 => ?_)
      · have k_13 : 8 ≤ i := (nI_leI (by omega) (by omega)).mp c_13
        obtain rfl : i = 8 := by omega
        refine z_iload_n h 1 rfl dX9_sum_33 ?_
        exact z_iret h hf rfl rfl rfl dX9_sum_34
      · have k_13 : ¬ (8 ≤ i) := fun q => c_13 ((nI_leI (by omega) (by omega)).mpr q)
        refine z_aload_n h 2 rfl dX9_sum_16 ?_
        refine z_iload h 4 rfl dX9_sum_17 ?_
        refine z_iald h 0 i (f := f) rfl rfl rfl (by omega) (by decide) dX9_sum_19 ?_
        refine z_istore h (by decide) (lv' := [(5, .int (f i)), (0, .ref x), (1, .int (vSum f 0 i)), (2, .ref x), (3, .int (nI 8)), (4, .int (nI i))]) rfl dX9_sum_20 ?_
        refine z_iload_n h 2 rfl dX9_sum_22 ?_
        refine z_iload h 0 rfl dX9_sum_23 ?_
        refine z_iadd h dX9_sum_25 ?_
        refine z_top (vSum f 0 (i + 1)) (by show _ = vSum f 0 i + f (0 + i); rw [Nat.zero_add]) ?_
        refine z_istore_n h (by decide) (lv' := [(1, .int (vSum f 0 (i + 1))), (5, .int (f i)), (0, .ref x), (2, .ref x), (3, .int (nI 8)), (4, .int (nI i))]) rfl dX9_sum_26 ?_
        refine z_iinc h 5 (nI (i + 1)) rfl z_i1 (by decide) (lv' := [(4, .int (nI (i + 1))), (1, .int (vSum f 0 (i + 1))), (5, .int (f i)), (0, .ref x), (2, .ref x), (3, .int (nI 8))]) rfl dX9_sum_27 ?_
        refine z_goto h 10 dX9_sum_30 (by decide) ?_
        refine z_sub [3, 1, 4, 5, 0] (lv' := [(0, .ref x), (1, .int (vSum f 0 (i + 1))), (2, .ref x), (3, .int (nI 8)), (4, .int (nI (i + 1)))]) rfl ?_
        exact z_cast (ih_10 (i + 1) (by omega) (by omega)) rfl rfl rfl
  refine z_sub [4, 3, 2, 1, 0] (lv' := [(0, .ref x), (1, .int (nI 0)), (2, .ref x), (3, .int (nI 8)), (4, .int (nI 0))]) rfl ?_
  exact z_cast (lp_10 (8 + 1) 0 (by omega) (by omega)) rfl rfl rfl

theorem iX9_addSnow_X5 : ∀ w ∈ u_ws RX5 TX5 10, w ∈ wsX9_addSnow := by decide +kernel
theorem iX9_addSnow_X9 : ∀ w ∈ u_ws RX9 TX9 5, w ∈ wsX9_addSnow := by decide +kernel
set_option maxHeartbeats 4000000 in
set_option maxRecDepth 100000 in
/-- X9_addSnow -/
theorem c_X9_addSnow {l : Launch} {y : zY} {D : va_G} (q : Nat → Nat) (a : Nat → Nat → Nat) (g t c o n : Nat → Nat → Int32) (S : Nat → Nat → Nat → Int32) (u : Int32) (h0 : srC g u = nI 0) (k : Nat) (hk4 : k < 4) (hn4 : n 0 1 = nI k) : zM l y D yX9_addSnow wsX9_addSnow 5 164 [.ref (q 0), .int u] (zCW y q a g t c o n S) (zCW y q a (tsG g u) t c o (puN n (tpN k)) (zSs S (tpN k) (cpSa (S (tpN k)) g))) (some (.int (tsG g u 0 0))) := by
  refine z_start (own := RX9) (cc := cX9_addSnow) (maxL := 2) (ret := (some .int)) rfl (by decide +kernel) rfl (Nat.le_of_ble_eq_true rfl) (zCW_fst _ _ _ _ _ _ _ _ _ _ _ _ _ _ _) ?_
  intro E hEl hEy hED h hf
  subst hEl hEy hED
  have hkR : 0 ≤ E.2.2.2.2.2.1.cells ∧ 0 ≤ E.2.2.2.2.2.1.slots := ⟨Nat.zero_le _, Nat.zero_le _⟩
  refine z_cast (lv := [(0, .ref (q 0)), (1, .int u)]) (ws := (zCW (zy E) q a g t c o n S)) (st := []) ?_ rfl rfl rfl
  refine z_aload_n h 0 rfl dX9_addSnow_0 ?_
  refine z_iload_n h 1 rfl dX9_addSnow_1 ?_
  refine z_wV h (As := [.int u]) (st := []) (ws2 := zCW (zy E) q a g t c o n S) (r := some (.int (srC g u))) 1 (c_X9_snowRefusal q a g t c o n S u) gX9_addSnow_X9_snowRefusal (q0 := 0) (ci := 7) (by decide +kernel) rfl rfl rfl ⟨by decide, by decide⟩ (Nat.le_of_ble_eq_true rfl) rfl rfl dX9_addSnow_2 ?_ hkR
  refine z_top (nI 0) h0 ?_
  refine z_callS h (As := [.int (nI 0)]) (st := []) (ws2 := zCW (zy E) q a g t c o n S) (B := []) (B' := []) (r := none) 1 c_X9_throwFor_0 gX9_addSnow_X9_throwFor (by decide +kernel) rfl ⟨by decide, by decide⟩ [] rfl (by decide) rfl (Nat.le_of_ble_eq_true rfl) rfl rfl dX9_addSnow_5 ?_ hkR
  refine z_aload_n h 0 rfl dX9_addSnow_8 ?_
  refine z_get h 0 7 1 (v := .ref (q 31)) rfl rfl iX9_addSnow_X9 (by decide) (List.mem_of_getElem? (i := 1) (by decide +kernel)) rfl rfl dX9_addSnow_9 ?_
  refine z_aload_n h 0 rfl dX9_addSnow_12 ?_
  refine z_get h 0 7 0 (v := .ref (q 1)) rfl rfl iX9_addSnow_X9 (by decide) (List.mem_of_getElem? (i := 2) (by decide +kernel)) rfl rfl dX9_addSnow_13 ?_
  refine z_wV h (As := [.ref (q 1)]) (st := []) (ws2 := zCW (zy E) q a g t c o (puN n (tpN k)) (zSs S (tpN k) (cpSa (S (tpN k)) g))) (r := none) 1 (l_und (c_X7_push (fun i => q (31 + i)) a n S (fun i => q (1 + i)) g k hk4 hn4)) gX9_addSnow_X7_push (q0 := 31) (ci := 6) (by decide +kernel) rfl rfl rfl ⟨by decide, by decide⟩ (Nat.le_of_ble_eq_true rfl) rfl rfl dX9_addSnow_16 ?_ hkR
  refine z_aload_n h 0 rfl dX9_addSnow_19 ?_
  refine z_get h 0 7 0 (v := .ref (q 1)) rfl rfl iX9_addSnow_X9 (by decide) (List.mem_of_getElem? (i := 2) (by decide +kernel)) rfl rfl dX9_addSnow_20 ?_
  refine z_iload_n h 1 rfl dX9_addSnow_23 ?_
  refine z_wV h (As := [.int u]) (st := []) (ws2 := zCW (zy E) q a (tsG g u) t c o (puN n (tpN k)) (zSs S (tpN k) (cpSa (S (tpN k)) g))) (r := none) 1 (l_now (c_X5_takeSnow (fun i => q (1 + i)) g u)) gX9_addSnow_X5_takeSnow (q0 := 1) (ci := 4) (by decide +kernel) rfl rfl rfl ⟨by decide, by decide⟩ (Nat.le_of_ble_eq_true rfl) rfl rfl dX9_addSnow_24 ?_ hkR
  refine z_aload_n h 0 rfl dX9_addSnow_27 ?_
  refine z_get h 0 7 0 (v := .ref (q 1)) rfl rfl iX9_addSnow_X9 (by decide) (List.mem_of_getElem? (i := 2) (by decide +kernel)) rfl rfl dX9_addSnow_28 ?_
  refine z_get h 1 4 0 (v := .int ((tsG g u 0) 0)) rfl rfl iX9_addSnow_X5 (by decide) (List.mem_of_getElem? (i := 3) (by decide +kernel)) rfl rfl dX9_addSnow_31 ?_
  exact z_iret h hf rfl rfl rfl dX9_addSnow_34

theorem iX9_press_X5 : ∀ w ∈ u_ws RX5 TX5 10, w ∈ wsX9_press := by decide +kernel
theorem iX9_press_X9 : ∀ w ∈ u_ws RX9 TX9 5, w ∈ wsX9_press := by decide +kernel
set_option maxHeartbeats 4000000 in
set_option maxRecDepth 100000 in
/-- X9_press -/
theorem c_X9_press {l : Launch} {y : zY} {D : va_G} (q : Nat → Nat) (a : Nat → Nat → Nat) (g t c o n : Nat → Nat → Int32) (S : Nat → Nat → Nat → Int32) (d : Nat) (b : Int32) (hk : d < 3) (h0 : prC g d b = nI 0) (k : Nat) (hk4 : k < 4) (hn4 : n 0 1 = nI k) : zM l y D yX9_press wsX9_press 5 164 [.ref (q 0), .int (nI d), .int b] (zCW y q a g t c o n S) (zCW y q a (mkG g d b) t c o (puN n (tpN k)) (zSs S (tpN k) (cpSa (S (tpN k)) g))) (some (.int (mkG g d b 1 d))) := by
  refine z_start (own := RX9) (cc := cX9_press) (maxL := 3) (ret := (some .int)) rfl (by decide +kernel) rfl (Nat.le_of_ble_eq_true rfl) (zCW_fst _ _ _ _ _ _ _ _ _ _ _ _ _ _ _) ?_
  intro E hEl hEy hED h hf
  subst hEl hEy hED
  have hkR : 0 ≤ E.2.2.2.2.2.1.cells ∧ 0 ≤ E.2.2.2.2.2.1.slots := ⟨Nat.zero_le _, Nat.zero_le _⟩
  refine z_cast (lv := [(0, .ref (q 0)), (1, .int (nI d)), (2, .int b)]) (ws := (zCW (zy E) q a g t c o n S)) (st := []) ?_ rfl rfl rfl
  refine z_aload_n h 0 rfl dX9_press_0 ?_
  refine z_iload_n h 1 rfl dX9_press_1 ?_
  refine z_iload_n h 2 rfl dX9_press_2 ?_
  refine z_wV h (As := [.int (nI d), .int b]) (st := []) (ws2 := zCW (zy E) q a g t c o n S) (r := some (.int (prC g d b))) 2 (c_X9_pressRefusal q a g t c o n S d b (by omega)) gX9_press_X9_pressRefusal (q0 := 0) (ci := 7) (by decide +kernel) rfl rfl rfl ⟨by decide, by decide⟩ (Nat.le_of_ble_eq_true rfl) rfl rfl dX9_press_3 ?_ hkR
  refine z_top (nI 0) h0 ?_
  refine z_callS h (As := [.int (nI 0)]) (st := []) (ws2 := zCW (zy E) q a g t c o n S) (B := []) (B' := []) (r := none) 1 c_X9_throwFor_0 gX9_press_X9_throwFor (by decide +kernel) rfl ⟨by decide, by decide⟩ [] rfl (by decide) rfl (Nat.le_of_ble_eq_true rfl) rfl rfl dX9_press_6 ?_ hkR
  refine z_aload_n h 0 rfl dX9_press_9 ?_
  refine z_get h 0 7 1 (v := .ref (q 31)) rfl rfl iX9_press_X9 (by decide) (List.mem_of_getElem? (i := 1) (by decide +kernel)) rfl rfl dX9_press_10 ?_
  refine z_aload_n h 0 rfl dX9_press_13 ?_
  refine z_get h 0 7 0 (v := .ref (q 1)) rfl rfl iX9_press_X9 (by decide) (List.mem_of_getElem? (i := 2) (by decide +kernel)) rfl rfl dX9_press_14 ?_
  refine z_wV h (As := [.ref (q 1)]) (st := []) (ws2 := zCW (zy E) q a g t c o (puN n (tpN k)) (zSs S (tpN k) (cpSa (S (tpN k)) g))) (r := none) 1 (l_und (c_X7_push (fun i => q (31 + i)) a n S (fun i => q (1 + i)) g k hk4 hn4)) gX9_press_X7_push (q0 := 31) (ci := 6) (by decide +kernel) rfl rfl rfl ⟨by decide, by decide⟩ (Nat.le_of_ble_eq_true rfl) rfl rfl dX9_press_17 ?_ hkR
  refine z_aload_n h 0 rfl dX9_press_20 ?_
  refine z_get h 0 7 0 (v := .ref (q 1)) rfl rfl iX9_press_X9 (by decide) (List.mem_of_getElem? (i := 2) (by decide +kernel)) rfl rfl dX9_press_21 ?_
  refine z_iload_n h 1 rfl dX9_press_24 ?_
  refine z_iload_n h 2 rfl dX9_press_25 ?_
  refine z_wV h (As := [.int (nI d), .int b]) (st := []) (ws2 := zCW (zy E) q a (mkG g d b) t c o (puN n (tpN k)) (zSs S (tpN k) (cpSa (S (tpN k)) g))) (r := none) 2 (l_now (c_X5_makeBlocks (fun i => q (1 + i)) g d b (by omega))) gX9_press_X5_makeBlocks (q0 := 1) (ci := 4) (by decide +kernel) rfl rfl rfl ⟨by decide, by decide⟩ (Nat.le_of_ble_eq_true rfl) rfl rfl dX9_press_26 ?_ hkR
  refine z_aload_n h 0 rfl dX9_press_29 ?_
  refine z_get h 0 7 0 (v := .ref (q 1)) rfl rfl iX9_press_X9 (by decide) (List.mem_of_getElem? (i := 2) (by decide +kernel)) rfl rfl dX9_press_30 ?_
  refine z_get h 1 4 6 (v := .ref (q 2)) rfl rfl iX9_press_X5 (by decide) (List.mem_of_getElem? (i := 3) (by decide +kernel)) rfl rfl dX9_press_33 ?_
  refine z_iload_n h 1 rfl dX9_press_36 ?_
  refine z_iald h 2 d (f := mkG g d b 1) rfl rfl rfl (by omega) (by decide) dX9_press_37 ?_
  exact z_iret h hf rfl rfl rfl dX9_press_38

theorem iX9_stack_X4 : ∀ w ∈ u_ws RX4 TX4 7, w ∈ wsX9_stack := by decide +kernel
theorem iX9_stack_X5 : ∀ w ∈ u_ws RX5 TX5 10, w ∈ wsX9_stack := by decide +kernel
theorem iX9_stack_X9 : ∀ w ∈ u_ws RX9 TX9 5, w ∈ wsX9_stack := by decide +kernel
set_option maxHeartbeats 4000000 in
set_option maxRecDepth 100000 in
/-- X9_stack -/
theorem c_X9_stack {l : Launch} {y : zY} {D : va_G} (q : Nat → Nat) (a : Nat → Nat → Nat) (g t c o n : Nat → Nat → Int32) (S : Nat → Nat → Nat → Int32) (s d : Nat) (hs : s < 8) (hk : d < 3) (hlt : zh g s < 6) (hg : okH g) (h0 : stC g s d = nI 0) (k : Nat) (hk4 : k < 4) (hn4 : n 0 1 = nI k) : zM l y D yX9_stack wsX9_stack 5 164 [.ref (q 0), .int (nI s), .int (nI d)] (zCW y q a g t c o n S) (zCW y q a (pbG g s d) t c o (puN n (tpN k)) (zSs S (tpN k) (cpSa (S (tpN k)) g))) (some (.int (pbG g s d 2 s - nI 1))) := by
  refine z_start (own := RX9) (cc := cX9_stack) (maxL := 3) (ret := (some .int)) rfl (by decide +kernel) rfl (Nat.le_of_ble_eq_true rfl) (zCW_fst _ _ _ _ _ _ _ _ _ _ _ _ _ _ _) ?_
  intro E hEl hEy hED h hf
  subst hEl hEy hED
  have hkR : 0 ≤ E.2.2.2.2.2.1.cells ∧ 0 ≤ E.2.2.2.2.2.1.slots := ⟨Nat.zero_le _, Nat.zero_le _⟩
  refine z_cast (lv := [(0, .ref (q 0)), (1, .int (nI s)), (2, .int (nI d))]) (ws := (zCW (zy E) q a g t c o n S)) (st := []) ?_ rfl rfl rfl
  refine z_aload_n h 0 rfl dX9_stack_0 ?_
  refine z_iload_n h 1 rfl dX9_stack_1 ?_
  refine z_iload_n h 2 rfl dX9_stack_2 ?_
  refine z_wV h (As := [.int (nI s), .int (nI d)]) (st := []) (ws2 := zCW (zy E) q a g t c o n S) (r := some (.int (stC g s d))) 2 (c_X9_stackRefusal q a g t c o n S s d (by omega) (by omega)) gX9_stack_X9_stackRefusal (q0 := 0) (ci := 7) (by decide +kernel) rfl rfl rfl ⟨by decide, by decide⟩ (Nat.le_of_ble_eq_true rfl) rfl rfl dX9_stack_3 ?_ hkR
  refine z_top (nI 0) h0 ?_
  refine z_callS h (As := [.int (nI 0)]) (st := []) (ws2 := zCW (zy E) q a g t c o n S) (B := []) (B' := []) (r := none) 1 c_X9_throwFor_0 gX9_stack_X9_throwFor (by decide +kernel) rfl ⟨by decide, by decide⟩ [] rfl (by decide) rfl (Nat.le_of_ble_eq_true rfl) rfl rfl dX9_stack_6 ?_ hkR
  refine z_aload_n h 0 rfl dX9_stack_9 ?_
  refine z_get h 0 7 1 (v := .ref (q 31)) rfl rfl iX9_stack_X9 (by decide) (List.mem_of_getElem? (i := 1) (by decide +kernel)) rfl rfl dX9_stack_10 ?_
  refine z_aload_n h 0 rfl dX9_stack_13 ?_
  refine z_get h 0 7 0 (v := .ref (q 1)) rfl rfl iX9_stack_X9 (by decide) (List.mem_of_getElem? (i := 2) (by decide +kernel)) rfl rfl dX9_stack_14 ?_
  refine z_wV h (As := [.ref (q 1)]) (st := []) (ws2 := zCW (zy E) q a g t c o (puN n (tpN k)) (zSs S (tpN k) (cpSa (S (tpN k)) g))) (r := none) 1 (l_und (c_X7_push (fun i => q (31 + i)) a n S (fun i => q (1 + i)) g k hk4 hn4)) gX9_stack_X7_push (q0 := 31) (ci := 6) (by decide +kernel) rfl rfl rfl ⟨by decide, by decide⟩ (Nat.le_of_ble_eq_true rfl) rfl rfl dX9_stack_17 ?_ hkR
  refine z_aload_n h 0 rfl dX9_stack_20 ?_
  refine z_get h 0 7 0 (v := .ref (q 1)) rfl rfl iX9_stack_X9 (by decide) (List.mem_of_getElem? (i := 2) (by decide +kernel)) rfl rfl dX9_stack_21 ?_
  refine z_iload_n h 1 rfl dX9_stack_24 ?_
  refine z_iload_n h 2 rfl dX9_stack_25 ?_
  refine z_wV h (As := [.int (nI s), .int (nI d)]) (st := []) (ws2 := zCW (zy E) q a (pbG g s d) t c o (puN n (tpN k)) (zSs S (tpN k) (cpSa (S (tpN k)) g))) (r := none) 2 (l_now (c_X5_putBlock (fun i => q (1 + i)) g s d (by omega) (by omega) hlt hg)) gX9_stack_X5_putBlock (q0 := 1) (ci := 4) (by decide +kernel) rfl rfl rfl ⟨by decide, by decide⟩ (Nat.le_of_ble_eq_true rfl) rfl rfl dX9_stack_26 ?_ hkR
  refine z_aload_n h 0 rfl dX9_stack_29 ?_
  refine z_get h 0 7 0 (v := .ref (q 1)) rfl rfl iX9_stack_X9 (by decide) (List.mem_of_getElem? (i := 2) (by decide +kernel)) rfl rfl dX9_stack_30 ?_
  refine z_get h 1 4 7 (v := .ref (q 3)) rfl rfl iX9_stack_X5 (by decide) (List.mem_of_getElem? (i := 3) (by decide +kernel)) rfl rfl dX9_stack_33 ?_
  refine z_get h 3 3 0 (v := .ref (q 4)) rfl rfl iX9_stack_X4 (by decide) (List.mem_of_getElem? (i := 4) (by decide +kernel)) rfl rfl dX9_stack_36 ?_
  refine z_iload_n h 1 rfl dX9_stack_39 ?_
  refine z_iald h 4 s (f := pbG g s d 2) rfl rfl rfl (by omega) (by decide) dX9_stack_40 ?_
  refine z_iconst h (nI 1) (by decide +kernel) dX9_stack_41 ?_
  refine z_isub h dX9_stack_42 ?_
  exact z_iret h hf rfl rfl rfl dX9_stack_43

theorem iX9_setWall_X4 : ∀ w ∈ u_ws RX4 TX4 7, w ∈ wsX9_setWall := by decide +kernel
theorem iX9_setWall_X5 : ∀ w ∈ u_ws RX5 TX5 10, w ∈ wsX9_setWall := by decide +kernel
theorem iX9_setWall_X9 : ∀ w ∈ u_ws RX9 TX9 5, w ∈ wsX9_setWall := by decide +kernel
set_option maxHeartbeats 4000000 in
set_option maxRecDepth 100000 in
/-- X9_setWall -/
theorem c_X9_setWall_0 {l : Launch} {y : zY} {D : va_G} (q : Nat → Nat) (a : Nat → Nat → Nat) (g t c o n : Nat → Nat → Int32) (S : Nat → Nat → Nat → Int32) (s : Nat) (hs : s < 8) (h0 : siC (nI s) = nI 0) (k : Nat) (hk4 : k < 4) (hn4 : n 0 1 = nI k) : zM l y D yX9_setWall wsX9_setWall 5 164 [.ref (q 0), .int (nI s), .int (nI 0)] (zCW y q a g t c o n S) (zCW y q a (va_up g 3 (upd (g 3) s (nI 0))) t c o (puN n (tpN k)) (zSs S (tpN k) (cpSa (S (tpN k)) g))) (some (.int (vSum (upd (g 3) s (nI 0)) 0 8))) := by
  refine z_start (own := RX9) (cc := cX9_setWall) (maxL := 3) (ret := (some .int)) rfl (by decide +kernel) rfl (Nat.le_of_ble_eq_true rfl) (zCW_fst _ _ _ _ _ _ _ _ _ _ _ _ _ _ _) ?_
  intro E hEl hEy hED h hf
  subst hEl hEy hED
  have hkR : 0 ≤ E.2.2.2.2.2.1.cells ∧ 0 ≤ E.2.2.2.2.2.1.slots := ⟨Nat.zero_le _, Nat.zero_le _⟩
  refine z_cast (lv := [(0, .ref (q 0)), (1, .int (nI s)), (2, .int (nI 0))]) (ws := (zCW (zy E) q a g t c o n S)) (st := []) ?_ rfl rfl rfl
  refine z_iload_n h 1 rfl dX9_setWall_0 ?_
  refine z_callS h (As := [.int (nI s)]) (st := []) (ws2 := zCW (zy E) q a g t c o n S) (B := []) (B' := []) (r := some (.int (siC (nI s)))) 1 (c_X9_siteRefusal (nI s)) gX9_setWall_X9_siteRefusal (by decide +kernel) rfl ⟨by decide, by decide⟩ [] rfl (by decide) rfl (Nat.le_of_ble_eq_true rfl) rfl rfl dX9_setWall_1 ?_ hkR
  refine z_top (nI 0) h0 ?_
  refine z_callS h (As := [.int (nI 0)]) (st := []) (ws2 := zCW (zy E) q a g t c o n S) (B := []) (B' := []) (r := none) 1 c_X9_throwFor_0 gX9_setWall_X9_throwFor (by decide +kernel) rfl ⟨by decide, by decide⟩ [] rfl (by decide) rfl (Nat.le_of_ble_eq_true rfl) rfl rfl dX9_setWall_4 ?_ hkR
  refine z_aload_n h 0 rfl dX9_setWall_7 ?_
  refine z_get h 0 7 1 (v := .ref (q 31)) rfl rfl iX9_setWall_X9 (by decide) (List.mem_of_getElem? (i := 1) (by decide +kernel)) rfl rfl dX9_setWall_8 ?_
  refine z_aload_n h 0 rfl dX9_setWall_11 ?_
  refine z_get h 0 7 0 (v := .ref (q 1)) rfl rfl iX9_setWall_X9 (by decide) (List.mem_of_getElem? (i := 2) (by decide +kernel)) rfl rfl dX9_setWall_12 ?_
  refine z_wV h (As := [.ref (q 1)]) (st := []) (ws2 := zCW (zy E) q a g t c o (puN n (tpN k)) (zSs S (tpN k) (cpSa (S (tpN k)) g))) (r := none) 1 (l_und (c_X7_push (fun i => q (31 + i)) a n S (fun i => q (1 + i)) g k hk4 hn4)) gX9_setWall_X7_push (q0 := 31) (ci := 6) (by decide +kernel) rfl rfl rfl ⟨by decide, by decide⟩ (Nat.le_of_ble_eq_true rfl) rfl rfl dX9_setWall_15 ?_ hkR
  refine z_aload_n h 0 rfl dX9_setWall_18 ?_
  refine z_get h 0 7 0 (v := .ref (q 1)) rfl rfl iX9_setWall_X9 (by decide) (List.mem_of_getElem? (i := 2) (by decide +kernel)) rfl rfl dX9_setWall_19 ?_
  refine z_get h 1 4 7 (v := .ref (q 3)) rfl rfl iX9_setWall_X5 (by decide) (List.mem_of_getElem? (i := 3) (by decide +kernel)) rfl rfl dX9_setWall_22 ?_
  refine z_get h 3 3 1 (v := .ref (q 5)) rfl rfl iX9_setWall_X4 (by decide) (List.mem_of_getElem? (i := 4) (by decide +kernel)) rfl rfl dX9_setWall_25 ?_
  refine z_iload_n h 1 rfl dX9_setWall_28 ?_
  refine z_iload_n h 2 rfl dX9_setWall_29 ?_
  refine z_if_eq h 37 dX9_setWall_30 (by decide) (fun c_30 => ?_) (fun c_30 => ?_)
  · refine z_iconst h (nI 0) (by decide +kernel) dX9_setWall_37 ?_
    refine z_iast h 5 s (nI 0) (ws' := zCW (zy E) q a (va_up g 3 (upd (g 3) s (nI 0))) t c o (puN n (tpN k)) (zSs S (tpN k) (cpSa (S (tpN k)) g))) rfl rfl rfl rfl (by omega) (by decide) rfl dX9_setWall_38 ?_
    refine z_aload_n h 0 rfl dX9_setWall_39 ?_
    refine z_get h 0 7 0 (v := .ref (q 1)) rfl rfl iX9_setWall_X9 (by decide) (List.mem_of_getElem? (i := 2) (by decide +kernel)) rfl rfl dX9_setWall_40 ?_
    refine z_get h 1 4 7 (v := .ref (q 3)) rfl rfl iX9_setWall_X5 (by decide) (List.mem_of_getElem? (i := 3) (by decide +kernel)) rfl rfl dX9_setWall_43 ?_
    refine z_get h 3 3 1 (v := .ref (q 5)) rfl rfl iX9_setWall_X4 (by decide) (List.mem_of_getElem? (i := 4) (by decide +kernel)) rfl rfl dX9_setWall_46 ?_
    refine z_callS h (As := [.ref (q 5)]) (st := []) (ws2 := zCW (zy E) q a (va_up g 3 (upd (g 3) s (nI 0))) t c o (puN n (tpN k)) (zSs S (tpN k) (cpSa (S (tpN k)) g))) (B := [(q 5, .inl ((zy E).1 0, 8, .inl (upd (g 3) s (nI 0))))]) (B' := [(q 5, .inl ((zy E).1 0, 8, .inl (upd (g 3) s (nI 0))))]) (r := some (.int (vSum (upd (g 3) s (nI 0)) 0 8))) 1 (c_X9_sum (q 5) (upd (g 3) s (nI 0))) gX9_setWall_X9_sum (by decide +kernel) rfl ⟨by decide, by decide⟩ [5] rfl (by decide) rfl (Nat.le_of_ble_eq_true rfl) rfl rfl dX9_setWall_49 ?_ hkR
    exact z_iret h hf rfl rfl rfl dX9_setWall_52
  · exact absurd c_30 (by decide +kernel)

set_option maxHeartbeats 4000000 in
set_option maxRecDepth 100000 in
/-- X9_setWall -/
theorem c_X9_setWall_1 {l : Launch} {y : zY} {D : va_G} (q : Nat → Nat) (a : Nat → Nat → Nat) (g t c o n : Nat → Nat → Int32) (S : Nat → Nat → Nat → Int32) (s : Nat) (hs : s < 8) (h0 : siC (nI s) = nI 0) (k : Nat) (hk4 : k < 4) (hn4 : n 0 1 = nI k) : zM l y D yX9_setWall wsX9_setWall 5 164 [.ref (q 0), .int (nI s), .int (nI 1)] (zCW y q a g t c o n S) (zCW y q a (va_up g 3 (upd (g 3) s (nI 1))) t c o (puN n (tpN k)) (zSs S (tpN k) (cpSa (S (tpN k)) g))) (some (.int (vSum (upd (g 3) s (nI 1)) 0 8))) := by
  refine z_start (own := RX9) (cc := cX9_setWall) (maxL := 3) (ret := (some .int)) rfl (by decide +kernel) rfl (Nat.le_of_ble_eq_true rfl) (zCW_fst _ _ _ _ _ _ _ _ _ _ _ _ _ _ _) ?_
  intro E hEl hEy hED h hf
  subst hEl hEy hED
  have hkR : 0 ≤ E.2.2.2.2.2.1.cells ∧ 0 ≤ E.2.2.2.2.2.1.slots := ⟨Nat.zero_le _, Nat.zero_le _⟩
  refine z_cast (lv := [(0, .ref (q 0)), (1, .int (nI s)), (2, .int (nI 1))]) (ws := (zCW (zy E) q a g t c o n S)) (st := []) ?_ rfl rfl rfl
  refine z_iload_n h 1 rfl dX9_setWall_0 ?_
  refine z_callS h (As := [.int (nI s)]) (st := []) (ws2 := zCW (zy E) q a g t c o n S) (B := []) (B' := []) (r := some (.int (siC (nI s)))) 1 (c_X9_siteRefusal (nI s)) gX9_setWall_X9_siteRefusal (by decide +kernel) rfl ⟨by decide, by decide⟩ [] rfl (by decide) rfl (Nat.le_of_ble_eq_true rfl) rfl rfl dX9_setWall_1 ?_ hkR
  refine z_top (nI 0) h0 ?_
  refine z_callS h (As := [.int (nI 0)]) (st := []) (ws2 := zCW (zy E) q a g t c o n S) (B := []) (B' := []) (r := none) 1 c_X9_throwFor_0 gX9_setWall_X9_throwFor (by decide +kernel) rfl ⟨by decide, by decide⟩ [] rfl (by decide) rfl (Nat.le_of_ble_eq_true rfl) rfl rfl dX9_setWall_4 ?_ hkR
  refine z_aload_n h 0 rfl dX9_setWall_7 ?_
  refine z_get h 0 7 1 (v := .ref (q 31)) rfl rfl iX9_setWall_X9 (by decide) (List.mem_of_getElem? (i := 1) (by decide +kernel)) rfl rfl dX9_setWall_8 ?_
  refine z_aload_n h 0 rfl dX9_setWall_11 ?_
  refine z_get h 0 7 0 (v := .ref (q 1)) rfl rfl iX9_setWall_X9 (by decide) (List.mem_of_getElem? (i := 2) (by decide +kernel)) rfl rfl dX9_setWall_12 ?_
  refine z_wV h (As := [.ref (q 1)]) (st := []) (ws2 := zCW (zy E) q a g t c o (puN n (tpN k)) (zSs S (tpN k) (cpSa (S (tpN k)) g))) (r := none) 1 (l_und (c_X7_push (fun i => q (31 + i)) a n S (fun i => q (1 + i)) g k hk4 hn4)) gX9_setWall_X7_push (q0 := 31) (ci := 6) (by decide +kernel) rfl rfl rfl ⟨by decide, by decide⟩ (Nat.le_of_ble_eq_true rfl) rfl rfl dX9_setWall_15 ?_ hkR
  refine z_aload_n h 0 rfl dX9_setWall_18 ?_
  refine z_get h 0 7 0 (v := .ref (q 1)) rfl rfl iX9_setWall_X9 (by decide) (List.mem_of_getElem? (i := 2) (by decide +kernel)) rfl rfl dX9_setWall_19 ?_
  refine z_get h 1 4 7 (v := .ref (q 3)) rfl rfl iX9_setWall_X5 (by decide) (List.mem_of_getElem? (i := 3) (by decide +kernel)) rfl rfl dX9_setWall_22 ?_
  refine z_get h 3 3 1 (v := .ref (q 5)) rfl rfl iX9_setWall_X4 (by decide) (List.mem_of_getElem? (i := 4) (by decide +kernel)) rfl rfl dX9_setWall_25 ?_
  refine z_iload_n h 1 rfl dX9_setWall_28 ?_
  refine z_iload_n h 2 rfl dX9_setWall_29 ?_
  refine z_if_eq h 37 dX9_setWall_30 (by decide) (fun c_30 => ?_) (fun c_30 => ?_)
  · exact absurd c_30 (by decide +kernel)
  · refine z_iconst h (nI 1) (by decide +kernel) dX9_setWall_33 ?_
    refine z_goto h 38 dX9_setWall_34 (by decide) ?_
    refine z_iast h 5 s (nI 1) (ws' := zCW (zy E) q a (va_up g 3 (upd (g 3) s (nI 1))) t c o (puN n (tpN k)) (zSs S (tpN k) (cpSa (S (tpN k)) g))) rfl rfl rfl rfl (by omega) (by decide) rfl dX9_setWall_38 ?_
    refine z_aload_n h 0 rfl dX9_setWall_39 ?_
    refine z_get h 0 7 0 (v := .ref (q 1)) rfl rfl iX9_setWall_X9 (by decide) (List.mem_of_getElem? (i := 2) (by decide +kernel)) rfl rfl dX9_setWall_40 ?_
    refine z_get h 1 4 7 (v := .ref (q 3)) rfl rfl iX9_setWall_X5 (by decide) (List.mem_of_getElem? (i := 3) (by decide +kernel)) rfl rfl dX9_setWall_43 ?_
    refine z_get h 3 3 1 (v := .ref (q 5)) rfl rfl iX9_setWall_X4 (by decide) (List.mem_of_getElem? (i := 4) (by decide +kernel)) rfl rfl dX9_setWall_46 ?_
    refine z_callS h (As := [.ref (q 5)]) (st := []) (ws2 := zCW (zy E) q a (va_up g 3 (upd (g 3) s (nI 1))) t c o (puN n (tpN k)) (zSs S (tpN k) (cpSa (S (tpN k)) g))) (B := [(q 5, .inl ((zy E).1 0, 8, .inl (upd (g 3) s (nI 1))))]) (B' := [(q 5, .inl ((zy E).1 0, 8, .inl (upd (g 3) s (nI 1))))]) (r := some (.int (vSum (upd (g 3) s (nI 1)) 0 8))) 1 (c_X9_sum (q 5) (upd (g 3) s (nI 1))) gX9_setWall_X9_sum (by decide +kernel) rfl ⟨by decide, by decide⟩ [5] rfl (by decide) rfl (Nat.le_of_ble_eq_true rfl) rfl rfl dX9_setWall_49 ?_ hkR
    exact z_iret h hf rfl rfl rfl dX9_setWall_52

theorem iX9_addTool_X5 : ∀ w ∈ u_ws RX5 TX5 10, w ∈ wsX9_addTool := by decide +kernel
theorem iX9_addTool_X6 : ∀ w ∈ u_ws RX6 TX6 4, w ∈ wsX9_addTool := by decide +kernel
theorem iX9_addTool_X9 : ∀ w ∈ u_ws RX9 TX9 5, w ∈ wsX9_addTool := by decide +kernel
set_option maxHeartbeats 4000000 in
set_option maxRecDepth 100000 in
/-- X9_addTool -/
theorem c_X9_addTool {l : Launch} {y : zY} {D : va_G} (q : Nat → Nat) (a : Nat → Nat → Nat) (g t c o n : Nat → Nat → Int32) (S : Nat → Nat → Nat → Int32) (v : Int32) (hgt : g 0 6 = nI (zt g) ∧ zt g < 5) (h0 : toC g v = nI 0) (k : Nat) (hk4 : k < 4) (hn4 : n 0 1 = nI k) : zM l y D yX9_addTool wsX9_addTool 5 164 [.ref (q 0), .int v] (zCW y q a g t c o n S) (zCW y q a (taG g v) t c o (puN n (tpN k)) (zSs S (tpN k) (cpSa (S (tpN k)) g))) (some (.int (taG g v 0 6 - nI 1))) := by
  refine z_start (own := RX9) (cc := cX9_addTool) (maxL := 2) (ret := (some .int)) rfl (by decide +kernel) rfl (Nat.le_of_ble_eq_true rfl) (zCW_fst _ _ _ _ _ _ _ _ _ _ _ _ _ _ _) ?_
  intro E hEl hEy hED h hf
  subst hEl hEy hED
  have hkR : 0 ≤ E.2.2.2.2.2.1.cells ∧ 0 ≤ E.2.2.2.2.2.1.slots := ⟨Nat.zero_le _, Nat.zero_le _⟩
  refine z_cast (lv := [(0, .ref (q 0)), (1, .int v)]) (ws := (zCW (zy E) q a g t c o n S)) (st := []) ?_ rfl rfl rfl
  refine z_aload_n h 0 rfl dX9_addTool_0 ?_
  refine z_iload_n h 1 rfl dX9_addTool_1 ?_
  refine z_wV h (As := [.int v]) (st := []) (ws2 := zCW (zy E) q a g t c o n S) (r := some (.int (toC g v))) 1 (c_X9_toolRefusal q a g t c o n S v) gX9_addTool_X9_toolRefusal (q0 := 0) (ci := 7) (by decide +kernel) rfl rfl rfl ⟨by decide, by decide⟩ (Nat.le_of_ble_eq_true rfl) rfl rfl dX9_addTool_2 ?_ hkR
  refine z_top (nI 0) h0 ?_
  refine z_callS h (As := [.int (nI 0)]) (st := []) (ws2 := zCW (zy E) q a g t c o n S) (B := []) (B' := []) (r := none) 1 c_X9_throwFor_0 gX9_addTool_X9_throwFor (by decide +kernel) rfl ⟨by decide, by decide⟩ [] rfl (by decide) rfl (Nat.le_of_ble_eq_true rfl) rfl rfl dX9_addTool_5 ?_ hkR
  refine z_aload_n h 0 rfl dX9_addTool_8 ?_
  refine z_get h 0 7 1 (v := .ref (q 31)) rfl rfl iX9_addTool_X9 (by decide) (List.mem_of_getElem? (i := 1) (by decide +kernel)) rfl rfl dX9_addTool_9 ?_
  refine z_aload_n h 0 rfl dX9_addTool_12 ?_
  refine z_get h 0 7 0 (v := .ref (q 1)) rfl rfl iX9_addTool_X9 (by decide) (List.mem_of_getElem? (i := 2) (by decide +kernel)) rfl rfl dX9_addTool_13 ?_
  refine z_wV h (As := [.ref (q 1)]) (st := []) (ws2 := zCW (zy E) q a g t c o (puN n (tpN k)) (zSs S (tpN k) (cpSa (S (tpN k)) g))) (r := none) 1 (l_und (c_X7_push (fun i => q (31 + i)) a n S (fun i => q (1 + i)) g k hk4 hn4)) gX9_addTool_X7_push (q0 := 31) (ci := 6) (by decide +kernel) rfl rfl rfl ⟨by decide, by decide⟩ (Nat.le_of_ble_eq_true rfl) rfl rfl dX9_addTool_16 ?_ hkR
  refine z_aload_n h 0 rfl dX9_addTool_19 ?_
  refine z_get h 0 7 0 (v := .ref (q 1)) rfl rfl iX9_addTool_X9 (by decide) (List.mem_of_getElem? (i := 2) (by decide +kernel)) rfl rfl dX9_addTool_20 ?_
  refine z_get h 1 4 8 (v := .ref (q 11)) rfl rfl iX9_addTool_X5 (by decide) (List.mem_of_getElem? (i := 3) (by decide +kernel)) rfl rfl dX9_addTool_23 ?_
  refine z_iload_n h 1 rfl dX9_addTool_26 ?_
  refine z_wV h (As := [.int v]) (st := []) (ws2 := zCW (zy E) q a (taG g v) t c o (puN n (tpN k)) (zSs S (tpN k) (cpSa (S (tpN k)) g))) (r := none) 1 (l_nto (c_X6_add (fun i => q (11 + i)) g v hgt) rfl) gX9_addTool_X6_add (q0 := 11) (ci := 5) (by decide +kernel) rfl rfl rfl ⟨by decide, by decide⟩ (Nat.le_of_ble_eq_true rfl) rfl rfl dX9_addTool_27 ?_ hkR
  refine z_aload_n h 0 rfl dX9_addTool_30 ?_
  refine z_get h 0 7 0 (v := .ref (q 1)) rfl rfl iX9_addTool_X9 (by decide) (List.mem_of_getElem? (i := 2) (by decide +kernel)) rfl rfl dX9_addTool_31 ?_
  refine z_get h 1 4 8 (v := .ref (q 11)) rfl rfl iX9_addTool_X5 (by decide) (List.mem_of_getElem? (i := 3) (by decide +kernel)) rfl rfl dX9_addTool_34 ?_
  refine z_get h 11 5 0 (v := .int ((taG g v 0) 6)) rfl rfl iX9_addTool_X6 (by decide) (List.mem_of_getElem? (i := 4) (by decide +kernel)) rfl rfl dX9_addTool_37 ?_
  refine z_iconst h (nI 1) (by decide +kernel) dX9_addTool_40 ?_
  refine z_isub h dX9_addTool_41 ?_
  exact z_iret h hf rfl rfl rfl dX9_addTool_42

theorem iX9_carve_X9 : ∀ w ∈ u_ws RX9 TX9 5, w ∈ wsX9_carve := by decide +kernel
set_option maxHeartbeats 4000000 in
set_option maxRecDepth 100000 in
/-- X9_carve -/
theorem c_X9_carve {l : Launch} {y : zY} {D : va_G} (q : Nat → Nat) (a : Nat → Nat → Nat) (g t c o n : Nat → Nat → Int32) (S : Nat → Nat → Nat → Int32) (x s v : Nat) (u : Int32) (ht : x < 5) (hs : s < 8) (hv : v < 6) (hg : okH g) (hgt : okT g) (h0 : crC g x s v u = nI 0) (k : Nat) (hk4 : k < 4) (hn4 : n 0 1 = nI k) : zM l y D yX9_carve wsX9_carve 5 164 [.ref (q 0), .int (nI x), .int (nI s), .int (nI v), .int u] (zCW y q a g t c o n S) (zCW y q a (coG g x s v u) t c o (puN n (tpN k)) (zSs S (tpN k) (cpSa (S (tpN k)) g))) (some (.int (g 7 (s * 6 + v) - u))) := by
  refine z_start (own := RX9) (cc := cX9_carve) (maxL := 5) (ret := (some .int)) rfl (by decide +kernel) rfl (Nat.le_of_ble_eq_true rfl) (zCW_fst _ _ _ _ _ _ _ _ _ _ _ _ _ _ _) ?_
  intro E hEl hEy hED h hf
  subst hEl hEy hED
  have hkR : 0 ≤ E.2.2.2.2.2.1.cells ∧ 0 ≤ E.2.2.2.2.2.1.slots := ⟨Nat.zero_le _, Nat.zero_le _⟩
  refine z_cast (lv := [(0, .ref (q 0)), (1, .int (nI x)), (2, .int (nI s)), (3, .int (nI v)), (4, .int u)]) (ws := (zCW (zy E) q a g t c o n S)) (st := []) ?_ rfl rfl rfl
  refine z_aload_n h 0 rfl dX9_carve_0 ?_
  refine z_iload_n h 1 rfl dX9_carve_1 ?_
  refine z_iload_n h 2 rfl dX9_carve_2 ?_
  refine z_iload_n h 3 rfl dX9_carve_3 ?_
  refine z_iload h 4 rfl dX9_carve_4 ?_
  refine z_wV h (As := [.int (nI x), .int (nI s), .int (nI v), .int u]) (st := []) (ws2 := zCW (zy E) q a g t c o n S) (r := some (.int (crC g x s v u))) 4 (c_X9_carveRefusal q a g t c o n S x s v u (by omega) (by omega) (by omega) hgt) gX9_carve_X9_carveRefusal (q0 := 0) (ci := 7) (by decide +kernel) rfl rfl rfl ⟨by decide, by decide⟩ (Nat.le_of_ble_eq_true rfl) rfl rfl dX9_carve_6 ?_ hkR
  refine z_top (nI 0) h0 ?_
  refine z_callS h (As := [.int (nI 0)]) (st := []) (ws2 := zCW (zy E) q a g t c o n S) (B := []) (B' := []) (r := none) 1 c_X9_throwFor_0 gX9_carve_X9_throwFor (by decide +kernel) rfl ⟨by decide, by decide⟩ [] rfl (by decide) rfl (Nat.le_of_ble_eq_true rfl) rfl rfl dX9_carve_9 ?_ hkR
  refine z_aload_n h 0 rfl dX9_carve_12 ?_
  refine z_get h 0 7 1 (v := .ref (q 31)) rfl rfl iX9_carve_X9 (by decide) (List.mem_of_getElem? (i := 1) (by decide +kernel)) rfl rfl dX9_carve_13 ?_
  refine z_aload_n h 0 rfl dX9_carve_16 ?_
  refine z_get h 0 7 0 (v := .ref (q 1)) rfl rfl iX9_carve_X9 (by decide) (List.mem_of_getElem? (i := 2) (by decide +kernel)) rfl rfl dX9_carve_17 ?_
  refine z_wV h (As := [.ref (q 1)]) (st := []) (ws2 := zCW (zy E) q a g t c o (puN n (tpN k)) (zSs S (tpN k) (cpSa (S (tpN k)) g))) (r := none) 1 (l_und (c_X7_push (fun i => q (31 + i)) a n S (fun i => q (1 + i)) g k hk4 hn4)) gX9_carve_X7_push (q0 := 31) (ci := 6) (by decide +kernel) rfl rfl rfl ⟨by decide, by decide⟩ (Nat.le_of_ble_eq_true rfl) rfl rfl dX9_carve_20 ?_ hkR
  refine z_aload_n h 0 rfl dX9_carve_23 ?_
  refine z_get h 0 7 0 (v := .ref (q 1)) rfl rfl iX9_carve_X9 (by decide) (List.mem_of_getElem? (i := 2) (by decide +kernel)) rfl rfl dX9_carve_24 ?_
  refine z_iload_n h 1 rfl dX9_carve_27 ?_
  refine z_iload_n h 2 rfl dX9_carve_28 ?_
  refine z_iload_n h 3 rfl dX9_carve_29 ?_
  refine z_iload h 4 rfl dX9_carve_30 ?_
  refine z_wV h (As := [.int (nI x), .int (nI s), .int (nI v), .int u]) (st := []) (ws2 := zCW (zy E) q a (coG g x s v u) t c o (puN n (tpN k)) (zSs S (tpN k) (cpSa (S (tpN k)) g))) (r := some (.int (g 7 (s * 6 + v) - u))) 4 (l_now (c_X5_cutOff (fun i => q (1 + i)) g x s v u (by omega) (by omega) (by omega) hg)) gX9_carve_X5_cutOff (q0 := 1) (ci := 4) (by decide +kernel) rfl rfl rfl ⟨by decide, by decide⟩ (Nat.le_of_ble_eq_true rfl) rfl rfl dX9_carve_32 ?_ hkR
  exact z_iret h hf rfl rfl rfl dX9_carve_35

theorem iX9_recycle_X9 : ∀ w ∈ u_ws RX9 TX9 5, w ∈ wsX9_recycle := by decide +kernel
set_option maxHeartbeats 4000000 in
set_option maxRecDepth 100000 in
/-- X9_recycle -/
theorem c_X9_recycle {l : Launch} {y : zY} {D : va_G} (q : Nat → Nat) (a : Nat → Nat → Nat) (g t c o n : Nat → Nat → Int32) (S : Nat → Nat → Nat → Int32)  (k : Nat) (hk4 : k < 4) (hn4 : n 0 1 = nI k) : zM l y D yX9_recycle wsX9_recycle 5 164 [.ref (q 0)] (zCW y q a g t c o n S) (zCW y q a (obG g) t c o (puN n (tpN k)) (zSs S (tpN k) (cpSa (S (tpN k)) g))) (some (.int (obU g))) := by
  refine z_start (own := RX9) (cc := cX9_recycle) (maxL := 1) (ret := (some .int)) rfl (by decide +kernel) rfl (Nat.le_of_ble_eq_true rfl) (zCW_fst _ _ _ _ _ _ _ _ _ _ _ _ _ _ _) ?_
  intro E hEl hEy hED h hf
  subst hEl hEy hED
  have hkR : 0 ≤ E.2.2.2.2.2.1.cells ∧ 0 ≤ E.2.2.2.2.2.1.slots := ⟨Nat.zero_le _, Nat.zero_le _⟩
  refine z_cast (lv := [(0, .ref (q 0))]) (ws := (zCW (zy E) q a g t c o n S)) (st := []) ?_ rfl rfl rfl
  refine z_aload_n h 0 rfl dX9_recycle_0 ?_
  refine z_get h 0 7 1 (v := .ref (q 31)) rfl rfl iX9_recycle_X9 (by decide) (List.mem_of_getElem? (i := 1) (by decide +kernel)) rfl rfl dX9_recycle_1 ?_
  refine z_aload_n h 0 rfl dX9_recycle_4 ?_
  refine z_get h 0 7 0 (v := .ref (q 1)) rfl rfl iX9_recycle_X9 (by decide) (List.mem_of_getElem? (i := 2) (by decide +kernel)) rfl rfl dX9_recycle_5 ?_
  refine z_wV h (As := [.ref (q 1)]) (st := []) (ws2 := zCW (zy E) q a g t c o (puN n (tpN k)) (zSs S (tpN k) (cpSa (S (tpN k)) g))) (r := none) 1 (l_und (c_X7_push (fun i => q (31 + i)) a n S (fun i => q (1 + i)) g k hk4 hn4)) gX9_recycle_X7_push (q0 := 31) (ci := 6) (by decide +kernel) rfl rfl rfl ⟨by decide, by decide⟩ (Nat.le_of_ble_eq_true rfl) rfl rfl dX9_recycle_8 ?_ hkR
  refine z_aload_n h 0 rfl dX9_recycle_11 ?_
  refine z_get h 0 7 0 (v := .ref (q 1)) rfl rfl iX9_recycle_X9 (by decide) (List.mem_of_getElem? (i := 2) (by decide +kernel)) rfl rfl dX9_recycle_12 ?_
  refine z_wV h (As := []) (st := []) (ws2 := zCW (zy E) q a (obG g) t c o (puN n (tpN k)) (zSs S (tpN k) (cpSa (S (tpN k)) g))) (r := some (.int (obU g))) 0 (l_now (c_X5_putOffcutsBack (fun i => q (1 + i)) g)) gX9_recycle_X5_putOffcutsBack (q0 := 1) (ci := 4) (by decide +kernel) rfl rfl rfl ⟨by decide, by decide⟩ (Nat.le_of_ble_eq_true rfl) rfl rfl dX9_recycle_15 ?_ hkR
  exact z_iret h hf rfl rfl rfl dX9_recycle_18

theorem iX9_hour_X9 : ∀ w ∈ u_ws RX9 TX9 5, w ∈ wsX9_hour := by decide +kernel
set_option maxHeartbeats 4000000 in
set_option maxRecDepth 100000 in
/-- X9_hour -/
theorem c_X9_hour {l : Launch} {y : zY} {D : va_G} (q : Nat → Nat) (a : Nat → Nat → Nat) (g t c o n : Nat → Nat → Int32) (S : Nat → Nat → Nat → Int32) (z : Int32) (hg : okH g) (hgt : okT g) (k : Nat) (hk4 : k < 4) (hn4 : n 0 1 = nI k) : zM l y D yX9_hour wsX9_hour 5 164 [.ref (q 0), .int z] (zCW y q a g t c o n S) (zCW y q a (phG g z 1) t c o (puN n (tpN k)) (zSs S (tpN k) (cpSa (S (tpN k)) g))) (some (.int (phS g z 1))) := by
  refine z_start (own := RX9) (cc := cX9_hour) (maxL := 2) (ret := (some .int)) rfl (by decide +kernel) rfl (Nat.le_of_ble_eq_true rfl) (zCW_fst _ _ _ _ _ _ _ _ _ _ _ _ _ _ _) ?_
  intro E hEl hEy hED h hf
  subst hEl hEy hED
  have hkR : 0 ≤ E.2.2.2.2.2.1.cells ∧ 0 ≤ E.2.2.2.2.2.1.slots := ⟨Nat.zero_le _, Nat.zero_le _⟩
  refine z_cast (lv := [(0, .ref (q 0)), (1, .int z)]) (ws := (zCW (zy E) q a g t c o n S)) (st := []) ?_ rfl rfl rfl
  refine z_aload_n h 0 rfl dX9_hour_0 ?_
  refine z_get h 0 7 1 (v := .ref (q 31)) rfl rfl iX9_hour_X9 (by decide) (List.mem_of_getElem? (i := 1) (by decide +kernel)) rfl rfl dX9_hour_1 ?_
  refine z_aload_n h 0 rfl dX9_hour_4 ?_
  refine z_get h 0 7 0 (v := .ref (q 1)) rfl rfl iX9_hour_X9 (by decide) (List.mem_of_getElem? (i := 2) (by decide +kernel)) rfl rfl dX9_hour_5 ?_
  refine z_wV h (As := [.ref (q 1)]) (st := []) (ws2 := zCW (zy E) q a g t c o (puN n (tpN k)) (zSs S (tpN k) (cpSa (S (tpN k)) g))) (r := none) 1 (l_und (c_X7_push (fun i => q (31 + i)) a n S (fun i => q (1 + i)) g k hk4 hn4)) gX9_hour_X7_push (q0 := 31) (ci := 6) (by decide +kernel) rfl rfl rfl ⟨by decide, by decide⟩ (Nat.le_of_ble_eq_true rfl) rfl rfl dX9_hour_8 ?_ hkR
  refine z_aload_n h 0 rfl dX9_hour_11 ?_
  refine z_get h 0 7 0 (v := .ref (q 1)) rfl rfl iX9_hour_X9 (by decide) (List.mem_of_getElem? (i := 2) (by decide +kernel)) rfl rfl dX9_hour_12 ?_
  refine z_iconst h (nI 1) (by decide +kernel) dX9_hour_15 ?_
  refine z_iload_n h 1 rfl dX9_hour_16 ?_
  refine z_wV h (As := [.int (nI 1), .int z]) (st := []) (ws2 := zCW (zy E) q a (phG g z 1) t c o (puN n (tpN k)) (zSs S (tpN k) (cpSa (S (tpN k)) g))) (r := some (.int (phS g z 1))) 2 (l_now (c_X5_passHours (fun i => q (1 + i)) g 1 z (by omega) hg hgt)) gX9_hour_X5_passHours (q0 := 1) (ci := 4) (by decide +kernel) rfl rfl rfl ⟨by decide, by decide⟩ (Nat.le_of_ble_eq_true rfl) rfl rfl dX9_hour_17 ?_ hkR
  exact z_iret h hf rfl rfl rfl dX9_hour_20

theorem iX9_ballot_X1 : ∀ w ∈ u_ws RX1 TX1 2, w ∈ wsX9_ballot := by decide +kernel
theorem iX9_ballot_X5 : ∀ w ∈ u_ws RX5 TX5 10, w ∈ wsX9_ballot := by decide +kernel
theorem iX9_ballot_X9 : ∀ w ∈ u_ws RX9 TX9 5, w ∈ wsX9_ballot := by decide +kernel
set_option maxHeartbeats 4000000 in
set_option maxRecDepth 100000 in
/-- X9_ballot -/
theorem c_X9_ballot {l : Launch} {y : zY} {D : va_G} (q : Nat → Nat) (a : Nat → Nat → Nat) (g t c o n : Nat → Nat → Int32) (S : Nat → Nat → Nat → Int32) (x u v : Int32) (hgb : g 0 7 = nI (zb g) ∧ zb g < 20) (h0 : baC g x u v = nI 0) (k : Nat) (hk4 : k < 4) (hn4 : n 0 1 = nI k) : zM l y D yX9_ballot wsX9_ballot 5 164 [.ref (q 0), .int x, .int u, .int v] (zCW y q a g t c o n S) (zCW y q a (baG g x u v) t c o (puN n (tpN k)) (zSs S (tpN k) (cpSa (S (tpN k)) g))) (some (.int (baG g x u v 0 7))) := by
  refine z_start (own := RX9) (cc := cX9_ballot) (maxL := 4) (ret := (some .int)) rfl (by decide +kernel) rfl (Nat.le_of_ble_eq_true rfl) (zCW_fst _ _ _ _ _ _ _ _ _ _ _ _ _ _ _) ?_
  intro E hEl hEy hED h hf
  subst hEl hEy hED
  have hkR : 0 ≤ E.2.2.2.2.2.1.cells ∧ 0 ≤ E.2.2.2.2.2.1.slots := ⟨Nat.zero_le _, Nat.zero_le _⟩
  refine z_cast (lv := [(0, .ref (q 0)), (1, .int x), (2, .int u), (3, .int v)]) (ws := (zCW (zy E) q a g t c o n S)) (st := []) ?_ rfl rfl rfl
  refine z_aload_n h 0 rfl dX9_ballot_0 ?_
  refine z_iload_n h 1 rfl dX9_ballot_1 ?_
  refine z_iload_n h 2 rfl dX9_ballot_2 ?_
  refine z_iload_n h 3 rfl dX9_ballot_3 ?_
  refine z_wV h (As := [.int x, .int u, .int v]) (st := []) (ws2 := zCW (zy E) q a g t c o n S) (r := some (.int (baC g x u v))) 3 (c_X9_ballotRefusal q a g t c o n S x u v) gX9_ballot_X9_ballotRefusal (q0 := 0) (ci := 7) (by decide +kernel) rfl rfl rfl ⟨by decide, by decide⟩ (Nat.le_of_ble_eq_true rfl) rfl rfl dX9_ballot_4 ?_ hkR
  refine z_top (nI 0) h0 ?_
  refine z_callS h (As := [.int (nI 0)]) (st := []) (ws2 := zCW (zy E) q a g t c o n S) (B := []) (B' := []) (r := none) 1 c_X9_throwFor_0 gX9_ballot_X9_throwFor (by decide +kernel) rfl ⟨by decide, by decide⟩ [] rfl (by decide) rfl (Nat.le_of_ble_eq_true rfl) rfl rfl dX9_ballot_7 ?_ hkR
  refine z_aload_n h 0 rfl dX9_ballot_10 ?_
  refine z_get h 0 7 1 (v := .ref (q 31)) rfl rfl iX9_ballot_X9 (by decide) (List.mem_of_getElem? (i := 1) (by decide +kernel)) rfl rfl dX9_ballot_11 ?_
  refine z_aload_n h 0 rfl dX9_ballot_14 ?_
  refine z_get h 0 7 0 (v := .ref (q 1)) rfl rfl iX9_ballot_X9 (by decide) (List.mem_of_getElem? (i := 2) (by decide +kernel)) rfl rfl dX9_ballot_15 ?_
  refine z_wV h (As := [.ref (q 1)]) (st := []) (ws2 := zCW (zy E) q a g t c o (puN n (tpN k)) (zSs S (tpN k) (cpSa (S (tpN k)) g))) (r := none) 1 (l_und (c_X7_push (fun i => q (31 + i)) a n S (fun i => q (1 + i)) g k hk4 hn4)) gX9_ballot_X7_push (q0 := 31) (ci := 6) (by decide +kernel) rfl rfl rfl ⟨by decide, by decide⟩ (Nat.le_of_ble_eq_true rfl) rfl rfl dX9_ballot_18 ?_ hkR
  refine z_aload_n h 0 rfl dX9_ballot_21 ?_
  refine z_get h 0 7 0 (v := .ref (q 1)) rfl rfl iX9_ballot_X9 (by decide) (List.mem_of_getElem? (i := 2) (by decide +kernel)) rfl rfl dX9_ballot_22 ?_
  refine z_get h 1 4 9 (v := .ref (q 15)) rfl rfl iX9_ballot_X5 (by decide) (List.mem_of_getElem? (i := 3) (by decide +kernel)) rfl rfl dX9_ballot_25 ?_
  refine z_iload_n h 1 rfl dX9_ballot_28 ?_
  refine z_iload_n h 2 rfl dX9_ballot_29 ?_
  refine z_iload_n h 3 rfl dX9_ballot_30 ?_
  refine z_wV h (As := [.int x, .int u, .int v]) (st := []) (ws2 := zCW (zy E) q a (baG g x u v) t c o (puN n (tpN k)) (zSs S (tpN k) (cpSa (S (tpN k)) g))) (r := none) 3 (l_nba (c_X1_add (fun i => q (15 + i)) g x u v hgb) rfl) gX9_ballot_X1_add (q0 := 15) (ci := 0) (by decide +kernel) rfl rfl rfl ⟨by decide, by decide⟩ (Nat.le_of_ble_eq_true rfl) rfl rfl dX9_ballot_31 ?_ hkR
  refine z_aload_n h 0 rfl dX9_ballot_34 ?_
  refine z_get h 0 7 0 (v := .ref (q 1)) rfl rfl iX9_ballot_X9 (by decide) (List.mem_of_getElem? (i := 2) (by decide +kernel)) rfl rfl dX9_ballot_35 ?_
  refine z_get h 1 4 9 (v := .ref (q 15)) rfl rfl iX9_ballot_X5 (by decide) (List.mem_of_getElem? (i := 3) (by decide +kernel)) rfl rfl dX9_ballot_38 ?_
  refine z_get h 15 0 0 (v := .int ((baG g x u v 0) 7)) rfl rfl iX9_ballot_X1 (by decide) (List.mem_of_getElem? (i := 4) (by decide +kernel)) rfl rfl dX9_ballot_41 ?_
  exact z_iret h hf rfl rfl rfl dX9_ballot_44

