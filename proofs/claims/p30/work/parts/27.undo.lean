def zSs (S : Nat → Nat → Nat → Int32) (j : Nat) (s : Nat → Nat → Int32) : Nat → Nat → Nat → Int32 := fun i => if i = j then s else S i
theorem zM_cast {l : Launch} {y : zY} {D : va_G} {nm : MethodName} {T : List Cond} {fr lo : Nat} {as : List Value} {w1 w2 v1 v2 : va_W} {r : Option Value} (h1 : w1 = v1) (h2 : w2 = v2) (h : zM l y D nm T fr lo as w1 w2 r) : zM l y D nm T fr lo as v1 v2 r := by
  subst h1; subst h2; exact h
theorem zSs_0 {S : Nat → Nat → Nat → Int32} {s : Nat → Nat → Int32} {j i : Nat} (h : ¬ i = j) : zSs S j s i = S i := if_neg h
theorem zSs_1 {S : Nat → Nat → Nat → Int32} {s : Nat → Nat → Int32} {j : Nat} : zSs S j s j = s := if_pos rfl
theorem c_push_0 {l : Launch} {y : zY} {D : va_G} (q : Nat → Nat) (a : Nat → Nat → Nat) (n : Nat → Nat → Int32) (S : Nat → Nat → Nat → Int32) (p : Nat → Nat) (g : Nat → Nat → Int32) : zM l y D yX5_copyFrom wsX5_copyFrom 3 122 [.ref (a 0 0), .ref (p 0)] (zUs y q a n S ++ zSa y p g) (zUs y q a n (zSs S 0 (cpSa (S 0) g)) ++ zSa y p g) none :=
  zM_cast (by simp only [zUs, List.append_assoc, List.cons_append, List.nil_append, List.append_nil]) (by simp only [zUs, List.append_assoc, List.cons_append, List.nil_append, List.append_nil, zSs_1, zSs_0 (show ¬ (1 : Nat) = 0 by decide), zSs_0 (show ¬ (2 : Nat) = 0 by decide), zSs_0 (show ¬ (3 : Nat) = 0 by decide)]) (z_two (B1 := zSa y (a 0) (S 0)) (B2 := zSa y p g) (B1' := zSa y (a 0) (cpSa (S 0) g)) (B2' := zSa y p g) [(q 0, .inr (6, [.int (n 0 0), .int (n 0 1), .ref (q 1)])), (q 1, .inl (y.1 4, 4, .inr (.inr (.inr (.inr (fun j => some (a j 0)))))))] (zSa y (a 1) (S 1) ++ (zSa y (a 2) (S 2) ++ (zSa y (a 3) (S 3)))) [] rfl rfl (c_X5_copyFrom (a 0) (S 0) p g))
theorem c_pop_0 {l : Launch} {y : zY} {D : va_G} (q : Nat → Nat) (a : Nat → Nat → Nat) (n : Nat → Nat → Int32) (S : Nat → Nat → Nat → Int32) (p : Nat → Nat) (g : Nat → Nat → Int32) : zM l y D yX5_copyFrom wsX5_copyFrom 3 122 [.ref (p 0), .ref (a 0 0)] (zUs y q a n S ++ zSa y p g) (zUs y q a n S ++ zSa y p (cpSa g (S 0))) none :=
  zM_cast (by simp only [zUs, List.append_assoc, List.cons_append, List.nil_append, List.append_nil]) (by simp only [zUs, List.append_assoc, List.cons_append, List.nil_append, List.append_nil]) (z_owt (B1 := zSa y (a 0) (S 0)) (B2 := zSa y p g) (B1' := zSa y (a 0) (S 0)) (B2' := zSa y p (cpSa g (S 0))) [(q 0, .inr (6, [.int (n 0 0), .int (n 0 1), .ref (q 1)])), (q 1, .inl (y.1 4, 4, .inr (.inr (.inr (.inr (fun j => some (a j 0)))))))] (zSa y (a 1) (S 1) ++ (zSa y (a 2) (S 2) ++ (zSa y (a 3) (S 3)))) [] rfl rfl (c_X5_copyFrom p g (a 0) (S 0)))
theorem c_push_1 {l : Launch} {y : zY} {D : va_G} (q : Nat → Nat) (a : Nat → Nat → Nat) (n : Nat → Nat → Int32) (S : Nat → Nat → Nat → Int32) (p : Nat → Nat) (g : Nat → Nat → Int32) : zM l y D yX5_copyFrom wsX5_copyFrom 3 122 [.ref (a 1 0), .ref (p 0)] (zUs y q a n S ++ zSa y p g) (zUs y q a n (zSs S 1 (cpSa (S 1) g)) ++ zSa y p g) none :=
  zM_cast (by simp only [zUs, List.append_assoc, List.cons_append, List.nil_append, List.append_nil]) (by simp only [zUs, List.append_assoc, List.cons_append, List.nil_append, List.append_nil, zSs_1, zSs_0 (show ¬ (0 : Nat) = 1 by decide), zSs_0 (show ¬ (2 : Nat) = 1 by decide), zSs_0 (show ¬ (3 : Nat) = 1 by decide)]) (z_two (B1 := zSa y (a 1) (S 1)) (B2 := zSa y p g) (B1' := zSa y (a 1) (cpSa (S 1) g)) (B2' := zSa y p g) ([(q 0, .inr (6, [.int (n 0 0), .int (n 0 1), .ref (q 1)])), (q 1, .inl (y.1 4, 4, .inr (.inr (.inr (.inr (fun j => some (a j 0)))))))] ++ zSa y (a 0) (S 0)) (zSa y (a 2) (S 2) ++ (zSa y (a 3) (S 3))) [] rfl rfl (c_X5_copyFrom (a 1) (S 1) p g))
theorem c_pop_1 {l : Launch} {y : zY} {D : va_G} (q : Nat → Nat) (a : Nat → Nat → Nat) (n : Nat → Nat → Int32) (S : Nat → Nat → Nat → Int32) (p : Nat → Nat) (g : Nat → Nat → Int32) : zM l y D yX5_copyFrom wsX5_copyFrom 3 122 [.ref (p 0), .ref (a 1 0)] (zUs y q a n S ++ zSa y p g) (zUs y q a n S ++ zSa y p (cpSa g (S 1))) none :=
  zM_cast (by simp only [zUs, List.append_assoc, List.cons_append, List.nil_append, List.append_nil]) (by simp only [zUs, List.append_assoc, List.cons_append, List.nil_append, List.append_nil]) (z_owt (B1 := zSa y (a 1) (S 1)) (B2 := zSa y p g) (B1' := zSa y (a 1) (S 1)) (B2' := zSa y p (cpSa g (S 1))) ([(q 0, .inr (6, [.int (n 0 0), .int (n 0 1), .ref (q 1)])), (q 1, .inl (y.1 4, 4, .inr (.inr (.inr (.inr (fun j => some (a j 0)))))))] ++ zSa y (a 0) (S 0)) (zSa y (a 2) (S 2) ++ (zSa y (a 3) (S 3))) [] rfl rfl (c_X5_copyFrom p g (a 1) (S 1)))
theorem c_push_2 {l : Launch} {y : zY} {D : va_G} (q : Nat → Nat) (a : Nat → Nat → Nat) (n : Nat → Nat → Int32) (S : Nat → Nat → Nat → Int32) (p : Nat → Nat) (g : Nat → Nat → Int32) : zM l y D yX5_copyFrom wsX5_copyFrom 3 122 [.ref (a 2 0), .ref (p 0)] (zUs y q a n S ++ zSa y p g) (zUs y q a n (zSs S 2 (cpSa (S 2) g)) ++ zSa y p g) none :=
  zM_cast (by simp only [zUs, List.append_assoc, List.cons_append, List.nil_append, List.append_nil]) (by simp only [zUs, List.append_assoc, List.cons_append, List.nil_append, List.append_nil, zSs_1, zSs_0 (show ¬ (0 : Nat) = 2 by decide), zSs_0 (show ¬ (1 : Nat) = 2 by decide), zSs_0 (show ¬ (3 : Nat) = 2 by decide)]) (z_two (B1 := zSa y (a 2) (S 2)) (B2 := zSa y p g) (B1' := zSa y (a 2) (cpSa (S 2) g)) (B2' := zSa y p g) (([(q 0, .inr (6, [.int (n 0 0), .int (n 0 1), .ref (q 1)])), (q 1, .inl (y.1 4, 4, .inr (.inr (.inr (.inr (fun j => some (a j 0)))))))] ++ zSa y (a 0) (S 0)) ++ zSa y (a 1) (S 1)) (zSa y (a 3) (S 3)) [] rfl rfl (c_X5_copyFrom (a 2) (S 2) p g))
theorem c_pop_2 {l : Launch} {y : zY} {D : va_G} (q : Nat → Nat) (a : Nat → Nat → Nat) (n : Nat → Nat → Int32) (S : Nat → Nat → Nat → Int32) (p : Nat → Nat) (g : Nat → Nat → Int32) : zM l y D yX5_copyFrom wsX5_copyFrom 3 122 [.ref (p 0), .ref (a 2 0)] (zUs y q a n S ++ zSa y p g) (zUs y q a n S ++ zSa y p (cpSa g (S 2))) none :=
  zM_cast (by simp only [zUs, List.append_assoc, List.cons_append, List.nil_append, List.append_nil]) (by simp only [zUs, List.append_assoc, List.cons_append, List.nil_append, List.append_nil]) (z_owt (B1 := zSa y (a 2) (S 2)) (B2 := zSa y p g) (B1' := zSa y (a 2) (S 2)) (B2' := zSa y p (cpSa g (S 2))) (([(q 0, .inr (6, [.int (n 0 0), .int (n 0 1), .ref (q 1)])), (q 1, .inl (y.1 4, 4, .inr (.inr (.inr (.inr (fun j => some (a j 0)))))))] ++ zSa y (a 0) (S 0)) ++ zSa y (a 1) (S 1)) (zSa y (a 3) (S 3)) [] rfl rfl (c_X5_copyFrom p g (a 2) (S 2)))
theorem c_push_3 {l : Launch} {y : zY} {D : va_G} (q : Nat → Nat) (a : Nat → Nat → Nat) (n : Nat → Nat → Int32) (S : Nat → Nat → Nat → Int32) (p : Nat → Nat) (g : Nat → Nat → Int32) : zM l y D yX5_copyFrom wsX5_copyFrom 3 122 [.ref (a 3 0), .ref (p 0)] (zUs y q a n S ++ zSa y p g) (zUs y q a n (zSs S 3 (cpSa (S 3) g)) ++ zSa y p g) none :=
  zM_cast (by simp only [zUs, List.append_assoc, List.cons_append, List.nil_append, List.append_nil]) (by simp only [zUs, List.append_assoc, List.cons_append, List.nil_append, List.append_nil, zSs_1, zSs_0 (show ¬ (0 : Nat) = 3 by decide), zSs_0 (show ¬ (1 : Nat) = 3 by decide), zSs_0 (show ¬ (2 : Nat) = 3 by decide)]) (z_two (B1 := zSa y (a 3) (S 3)) (B2 := zSa y p g) (B1' := zSa y (a 3) (cpSa (S 3) g)) (B2' := zSa y p g) ((([(q 0, .inr (6, [.int (n 0 0), .int (n 0 1), .ref (q 1)])), (q 1, .inl (y.1 4, 4, .inr (.inr (.inr (.inr (fun j => some (a j 0)))))))] ++ zSa y (a 0) (S 0)) ++ zSa y (a 1) (S 1)) ++ zSa y (a 2) (S 2)) [] [] rfl rfl (c_X5_copyFrom (a 3) (S 3) p g))
theorem c_pop_3 {l : Launch} {y : zY} {D : va_G} (q : Nat → Nat) (a : Nat → Nat → Nat) (n : Nat → Nat → Int32) (S : Nat → Nat → Nat → Int32) (p : Nat → Nat) (g : Nat → Nat → Int32) : zM l y D yX5_copyFrom wsX5_copyFrom 3 122 [.ref (p 0), .ref (a 3 0)] (zUs y q a n S ++ zSa y p g) (zUs y q a n S ++ zSa y p (cpSa g (S 3))) none :=
  zM_cast (by simp only [zUs, List.append_assoc, List.cons_append, List.nil_append, List.append_nil]) (by simp only [zUs, List.append_assoc, List.cons_append, List.nil_append, List.append_nil]) (z_owt (B1 := zSa y (a 3) (S 3)) (B2 := zSa y p g) (B1' := zSa y (a 3) (S 3)) (B2' := zSa y p (cpSa g (S 3))) ((([(q 0, .inr (6, [.int (n 0 0), .int (n 0 1), .ref (q 1)])), (q 1, .inl (y.1 4, 4, .inr (.inr (.inr (.inr (fun j => some (a j 0)))))))] ++ zSa y (a 0) (S 0)) ++ zSa y (a 1) (S 1)) ++ zSa y (a 2) (S 2)) [] [] rfl rfl (c_X5_copyFrom p g (a 3) (S 3)))
theorem iX7_push_X7 : ∀ w ∈ u_ws RX7 TX7 3, w ∈ wsX7_push := by decide +kernel
set_option maxHeartbeats 4000000 in
set_option maxRecDepth 100000 in
/-- push, top 0 -/
theorem c_X7_push_0 {l : Launch} {y : zY} {D : va_G} (q : Nat → Nat) (a : Nat → Nat → Nat) (n : Nat → Nat → Int32) (S : Nat → Nat → Nat → Int32) (p : Nat → Nat) (g : Nat → Nat → Int32) (hn : n 0 1 = nI 0) : zM l y D yX7_push wsX7_push 4 143 [.ref (q 0), .ref (p 0)] (zUs y q a n S ++ zSa y p g) (zUs y q a (puN n 1) (zSs S 1 (cpSa (S 1) g)) ++ zSa y p g) (none) := by
  refine z_start (own := RX7) (cc := cX7_push) (maxL := 2) (ret := none) rfl (by decide +kernel) rfl (Nat.le_of_ble_eq_true rfl) rfl ?_
  intro E hEl hEy hED h hf
  subst hEl hEy hED
  have hkR : 0 ≤ E.2.2.2.2.2.1.cells ∧ 0 ≤ E.2.2.2.2.2.1.slots := ⟨Nat.zero_le _, Nat.zero_le _⟩
  refine z_cast (lv := [(0, .ref (q 0)), (1, .ref (p 0))]) (ws := (zUs (zy E) q a n S ++ zSa (zy E) p g)) (st := []) ?_ rfl rfl rfl
  refine z_aload_n h 0 rfl dX7_push_0 ?_
  refine z_aload_n h 0 rfl dX7_push_1 ?_
  refine z_get h 0 6 1 (v := .int ((n 0) 1)) rfl rfl iX7_push_X7 (by decide) (List.mem_of_getElem? (i := 1) (by decide +kernel)) rfl rfl dX7_push_2 ?_
  refine z_top (nI 0) hn ?_
  refine z_iconst h (nI 1) (by decide +kernel) dX7_push_5 ?_
  refine z_iadd h dX7_push_6 ?_
  refine z_top (nI (0 + 1)) (nI_add _ _) ?_
  refine z_iconst h (nI 4) (by decide +kernel) dX7_push_7 ?_
  refine z_irem h dX7_push_8 (by decide) ?_
  refine z_top (nI 1) (by decide +kernel) ?_
  refine z_put h 0 6 1 (ws' := zUs (zy E) q a (va_up n 0 (upd (n 0) 1 (nI 1))) S ++ zSa (zy E) p g) tyX7 .int rfl rfl iX7_push_X7 tyX7_ok nmX7 (by decide) (List.mem_of_getElem? (i := 1) (by decide +kernel)) rfl rfl (by decide +kernel) rfl rfl (Nat.le_of_ble_eq_true rfl) rfl dX7_push_9 ?_
  refine z_aload_n h 0 rfl dX7_push_12 ?_
  refine z_get h 0 6 2 (v := .ref (q 1)) rfl rfl iX7_push_X7 (by decide) (List.mem_of_getElem? (i := 2) (by decide +kernel)) rfl rfl dX7_push_13 ?_
  refine z_aload_n h 0 rfl dX7_push_16 ?_
  refine z_get h 0 6 1 (v := .int (nI 1)) rfl rfl iX7_push_X7 (by decide) (List.mem_of_getElem? (i := 1) (by decide +kernel)) rfl rfl dX7_push_17 ?_
  refine z_top (nI 1) rfl ?_
  refine z_qald h 1 1 (f := fun j => some (a j 0)) rfl rfl rfl (by decide) (by decide) dX7_push_20 ?_
  refine z_cast (lv := [(0, .ref (q 0)), (1, .ref (p 0))]) (ws := (zUs (zy E) q a (va_up n 0 (upd (n 0) 1 (nI 1))) S ++ zSa (zy E) p g)) (st := [.ref ((a 1) 0)]) ?_ rfl rfl rfl
  refine z_aload_n h 1 rfl dX7_push_21 ?_
  refine z_wV h (As := [.ref (p 0)]) (st := []) (ws2 := zUs (zy E) q a (va_up n 0 (upd (n 0) 1 (nI 1))) (zSs S 1 (cpSa (S 1) g)) ++ zSa (zy E) p g) (r := none) 1 (c_push_1 q a (va_up n 0 (upd (n 0) 1 (nI 1))) S p g) gX7_push_X5_copyFrom (q0 := 18) (ci := 4) (by decide +kernel) rfl rfl rfl ⟨by decide, by decide⟩ (Nat.le_of_ble_eq_true rfl) rfl rfl dX7_push_22 ?_ hkR
  refine z_aload_n h 0 rfl dX7_push_25 ?_
  refine z_aload_n h 0 rfl dX7_push_26 ?_
  refine z_get h 0 6 0 (v := .int ((upd (n 0) 1 (nI 1)) 0)) rfl rfl iX7_push_X7 (by decide) (List.mem_of_getElem? (i := 3) (by decide +kernel)) rfl rfl dX7_push_27 ?_
  refine z_iconst h (nI 1) (by decide +kernel) dX7_push_30 ?_
  refine z_iadd h dX7_push_31 ?_
  refine z_iconst h (nI 4) (by decide +kernel) dX7_push_32 ?_
  refine z_min h (List.mem_of_getElem? (i := 4) (by decide +kernel)) (List.mem_of_getElem? (i := 5) (by decide +kernel)) (List.mem_of_getElem? (i := 6) (by decide +kernel)) (List.mem_of_getElem? (i := 7) (by decide +kernel)) ⟨by decide, Nat.le_of_ble_eq_true rfl⟩ hkR dX7_push_33 ?_
  refine z_put h 0 6 0 (ws' := zUs (zy E) q a (va_up n 0 (upd (upd (n 0) 1 (nI 1)) 0 (if nI 4 < ((upd (n 0) 1 (nI 1)) 0) + (nI 1) then nI 4 else ((upd (n 0) 1 (nI 1)) 0) + (nI 1)))) (zSs S 1 (cpSa (S 1) g)) ++ zSa (zy E) p g) tyX7 .int rfl rfl iX7_push_X7 tyX7_ok nmX7 (by decide) (List.mem_of_getElem? (i := 3) (by decide +kernel)) rfl rfl (by decide +kernel) rfl rfl (Nat.le_of_ble_eq_true rfl) rfl dX7_push_36 ?_
  exact z_vret h hf rfl rfl rfl dX7_push_39

theorem iX7_pop_X7 : ∀ w ∈ u_ws RX7 TX7 3, w ∈ wsX7_pop := by decide +kernel
set_option maxHeartbeats 4000000 in
set_option maxRecDepth 100000 in
/-- pop, top 0 -/
theorem c_X7_pop_0 {l : Launch} {y : zY} {D : va_G} (q : Nat → Nat) (a : Nat → Nat → Nat) (n : Nat → Nat → Int32) (S : Nat → Nat → Nat → Int32) (p : Nat → Nat) (g : Nat → Nat → Int32) (hn : n 0 1 = nI 0) : zM l y D yX7_pop wsX7_pop 4 143 [.ref (q 0), .ref (p 0)] (zUs y q a n S ++ zSa y p g) (zUs y q a (poN n 3) S ++ zSa y p (cpSa g (S 0))) (none) := by
  refine z_start (own := RX7) (cc := cX7_pop) (maxL := 2) (ret := none) rfl (by decide +kernel) rfl (Nat.le_of_ble_eq_true rfl) rfl ?_
  intro E hEl hEy hED h hf
  subst hEl hEy hED
  have hkR : 0 ≤ E.2.2.2.2.2.1.cells ∧ 0 ≤ E.2.2.2.2.2.1.slots := ⟨Nat.zero_le _, Nat.zero_le _⟩
  refine z_cast (lv := [(0, .ref (q 0)), (1, .ref (p 0))]) (ws := (zUs (zy E) q a n S ++ zSa (zy E) p g)) (st := []) ?_ rfl rfl rfl
  refine z_aload_n h 1 rfl dX7_pop_0 ?_
  refine z_aload_n h 0 rfl dX7_pop_1 ?_
  refine z_get h 0 6 2 (v := .ref (q 1)) rfl rfl iX7_pop_X7 (by decide) (List.mem_of_getElem? (i := 1) (by decide +kernel)) rfl rfl dX7_pop_2 ?_
  refine z_aload_n h 0 rfl dX7_pop_5 ?_
  refine z_get h 0 6 1 (v := .int ((n 0) 1)) rfl rfl iX7_pop_X7 (by decide) (List.mem_of_getElem? (i := 2) (by decide +kernel)) rfl rfl dX7_pop_6 ?_
  refine z_top (nI 0) hn ?_
  refine z_qald h 1 0 (f := fun j => some (a j 0)) rfl rfl rfl (by decide) (by decide) dX7_pop_9 ?_
  refine z_cast (lv := [(0, .ref (q 0)), (1, .ref (p 0))]) (ws := (zUs (zy E) q a n S ++ zSa (zy E) p g)) (st := [.ref ((a 0) 0), .ref (p 0)]) ?_ rfl rfl rfl
  refine z_wV h (As := [.ref ((a 0) 0)]) (st := []) (ws2 := zUs (zy E) q a n S ++ zSa (zy E) p (cpSa g (S 0))) (r := none) 1 (c_pop_0 q a n S p g) gX7_pop_X5_copyFrom (q0 := 66) (ci := 4) (by decide +kernel) rfl rfl rfl ⟨by decide, by decide⟩ (Nat.le_of_ble_eq_true rfl) rfl rfl dX7_pop_10 ?_ hkR
  refine z_aload_n h 0 rfl dX7_pop_13 ?_
  refine z_aload_n h 0 rfl dX7_pop_14 ?_
  refine z_get h 0 6 1 (v := .int ((n 0) 1)) rfl rfl iX7_pop_X7 (by decide) (List.mem_of_getElem? (i := 2) (by decide +kernel)) rfl rfl dX7_pop_15 ?_
  refine z_top (nI 0) hn ?_
  refine z_iconst h (nI 4) (by decide +kernel) dX7_pop_18 ?_
  refine z_iadd h dX7_pop_19 ?_
  refine z_top (nI (0 + 4)) (nI_add _ _) ?_
  refine z_iconst h (nI 1) (by decide +kernel) dX7_pop_20 ?_
  refine z_isub h dX7_pop_21 ?_
  refine z_iconst h (nI 4) (by decide +kernel) dX7_pop_22 ?_
  refine z_irem h dX7_pop_23 (by decide) ?_
  refine z_top (nI 3) (by decide +kernel) ?_
  refine z_put h 0 6 1 (ws' := zUs (zy E) q a (va_up n 0 (upd (n 0) 1 (nI 3))) S ++ zSa (zy E) p (cpSa g (S 0))) tyX7 .int rfl rfl iX7_pop_X7 tyX7_ok nmX7 (by decide) (List.mem_of_getElem? (i := 2) (by decide +kernel)) rfl rfl (by decide +kernel) rfl rfl (Nat.le_of_ble_eq_true rfl) rfl dX7_pop_24 ?_
  refine z_aload_n h 0 rfl dX7_pop_27 ?_
  refine z_dup h dX7_pop_28 rfl ?_
  refine z_get h 0 6 0 (v := .int ((upd (n 0) 1 (nI 3)) 0)) rfl rfl iX7_pop_X7 (by decide) (List.mem_of_getElem? (i := 3) (by decide +kernel)) rfl rfl dX7_pop_29 ?_
  refine z_iconst h (nI 1) (by decide +kernel) dX7_pop_32 ?_
  refine z_isub h dX7_pop_33 ?_
  refine z_put h 0 6 0 (ws' := zUs (zy E) q a (va_up n 0 (upd (upd (n 0) 1 (nI 3)) 0 (((upd (n 0) 1 (nI 3)) 0) - (nI 1)))) S ++ zSa (zy E) p (cpSa g (S 0))) tyX7 .int rfl rfl iX7_pop_X7 tyX7_ok nmX7 (by decide) (List.mem_of_getElem? (i := 3) (by decide +kernel)) rfl rfl (by decide +kernel) rfl rfl (Nat.le_of_ble_eq_true rfl) rfl dX7_pop_34 ?_
  exact z_vret h hf rfl rfl rfl dX7_pop_37

set_option maxHeartbeats 4000000 in
set_option maxRecDepth 100000 in
/-- push, top 1 -/
theorem c_X7_push_1 {l : Launch} {y : zY} {D : va_G} (q : Nat → Nat) (a : Nat → Nat → Nat) (n : Nat → Nat → Int32) (S : Nat → Nat → Nat → Int32) (p : Nat → Nat) (g : Nat → Nat → Int32) (hn : n 0 1 = nI 1) : zM l y D yX7_push wsX7_push 4 143 [.ref (q 0), .ref (p 0)] (zUs y q a n S ++ zSa y p g) (zUs y q a (puN n 2) (zSs S 2 (cpSa (S 2) g)) ++ zSa y p g) (none) := by
  refine z_start (own := RX7) (cc := cX7_push) (maxL := 2) (ret := none) rfl (by decide +kernel) rfl (Nat.le_of_ble_eq_true rfl) rfl ?_
  intro E hEl hEy hED h hf
  subst hEl hEy hED
  have hkR : 0 ≤ E.2.2.2.2.2.1.cells ∧ 0 ≤ E.2.2.2.2.2.1.slots := ⟨Nat.zero_le _, Nat.zero_le _⟩
  refine z_cast (lv := [(0, .ref (q 0)), (1, .ref (p 0))]) (ws := (zUs (zy E) q a n S ++ zSa (zy E) p g)) (st := []) ?_ rfl rfl rfl
  refine z_aload_n h 0 rfl dX7_push_0 ?_
  refine z_aload_n h 0 rfl dX7_push_1 ?_
  refine z_get h 0 6 1 (v := .int ((n 0) 1)) rfl rfl iX7_push_X7 (by decide) (List.mem_of_getElem? (i := 1) (by decide +kernel)) rfl rfl dX7_push_2 ?_
  refine z_top (nI 1) hn ?_
  refine z_iconst h (nI 1) (by decide +kernel) dX7_push_5 ?_
  refine z_iadd h dX7_push_6 ?_
  refine z_top (nI (1 + 1)) (nI_add _ _) ?_
  refine z_iconst h (nI 4) (by decide +kernel) dX7_push_7 ?_
  refine z_irem h dX7_push_8 (by decide) ?_
  refine z_top (nI 2) (by decide +kernel) ?_
  refine z_put h 0 6 1 (ws' := zUs (zy E) q a (va_up n 0 (upd (n 0) 1 (nI 2))) S ++ zSa (zy E) p g) tyX7 .int rfl rfl iX7_push_X7 tyX7_ok nmX7 (by decide) (List.mem_of_getElem? (i := 1) (by decide +kernel)) rfl rfl (by decide +kernel) rfl rfl (Nat.le_of_ble_eq_true rfl) rfl dX7_push_9 ?_
  refine z_aload_n h 0 rfl dX7_push_12 ?_
  refine z_get h 0 6 2 (v := .ref (q 1)) rfl rfl iX7_push_X7 (by decide) (List.mem_of_getElem? (i := 2) (by decide +kernel)) rfl rfl dX7_push_13 ?_
  refine z_aload_n h 0 rfl dX7_push_16 ?_
  refine z_get h 0 6 1 (v := .int (nI 2)) rfl rfl iX7_push_X7 (by decide) (List.mem_of_getElem? (i := 1) (by decide +kernel)) rfl rfl dX7_push_17 ?_
  refine z_top (nI 2) rfl ?_
  refine z_qald h 1 2 (f := fun j => some (a j 0)) rfl rfl rfl (by decide) (by decide) dX7_push_20 ?_
  refine z_cast (lv := [(0, .ref (q 0)), (1, .ref (p 0))]) (ws := (zUs (zy E) q a (va_up n 0 (upd (n 0) 1 (nI 2))) S ++ zSa (zy E) p g)) (st := [.ref ((a 2) 0)]) ?_ rfl rfl rfl
  refine z_aload_n h 1 rfl dX7_push_21 ?_
  refine z_wV h (As := [.ref (p 0)]) (st := []) (ws2 := zUs (zy E) q a (va_up n 0 (upd (n 0) 1 (nI 2))) (zSs S 2 (cpSa (S 2) g)) ++ zSa (zy E) p g) (r := none) 1 (c_push_2 q a (va_up n 0 (upd (n 0) 1 (nI 2))) S p g) gX7_push_X5_copyFrom (q0 := 34) (ci := 4) (by decide +kernel) rfl rfl rfl ⟨by decide, by decide⟩ (Nat.le_of_ble_eq_true rfl) rfl rfl dX7_push_22 ?_ hkR
  refine z_aload_n h 0 rfl dX7_push_25 ?_
  refine z_aload_n h 0 rfl dX7_push_26 ?_
  refine z_get h 0 6 0 (v := .int ((upd (n 0) 1 (nI 2)) 0)) rfl rfl iX7_push_X7 (by decide) (List.mem_of_getElem? (i := 3) (by decide +kernel)) rfl rfl dX7_push_27 ?_
  refine z_iconst h (nI 1) (by decide +kernel) dX7_push_30 ?_
  refine z_iadd h dX7_push_31 ?_
  refine z_iconst h (nI 4) (by decide +kernel) dX7_push_32 ?_
  refine z_min h (List.mem_of_getElem? (i := 4) (by decide +kernel)) (List.mem_of_getElem? (i := 5) (by decide +kernel)) (List.mem_of_getElem? (i := 6) (by decide +kernel)) (List.mem_of_getElem? (i := 7) (by decide +kernel)) ⟨by decide, Nat.le_of_ble_eq_true rfl⟩ hkR dX7_push_33 ?_
  refine z_put h 0 6 0 (ws' := zUs (zy E) q a (va_up n 0 (upd (upd (n 0) 1 (nI 2)) 0 (if nI 4 < ((upd (n 0) 1 (nI 2)) 0) + (nI 1) then nI 4 else ((upd (n 0) 1 (nI 2)) 0) + (nI 1)))) (zSs S 2 (cpSa (S 2) g)) ++ zSa (zy E) p g) tyX7 .int rfl rfl iX7_push_X7 tyX7_ok nmX7 (by decide) (List.mem_of_getElem? (i := 3) (by decide +kernel)) rfl rfl (by decide +kernel) rfl rfl (Nat.le_of_ble_eq_true rfl) rfl dX7_push_36 ?_
  exact z_vret h hf rfl rfl rfl dX7_push_39

set_option maxHeartbeats 4000000 in
set_option maxRecDepth 100000 in
/-- pop, top 1 -/
theorem c_X7_pop_1 {l : Launch} {y : zY} {D : va_G} (q : Nat → Nat) (a : Nat → Nat → Nat) (n : Nat → Nat → Int32) (S : Nat → Nat → Nat → Int32) (p : Nat → Nat) (g : Nat → Nat → Int32) (hn : n 0 1 = nI 1) : zM l y D yX7_pop wsX7_pop 4 143 [.ref (q 0), .ref (p 0)] (zUs y q a n S ++ zSa y p g) (zUs y q a (poN n 0) S ++ zSa y p (cpSa g (S 1))) (none) := by
  refine z_start (own := RX7) (cc := cX7_pop) (maxL := 2) (ret := none) rfl (by decide +kernel) rfl (Nat.le_of_ble_eq_true rfl) rfl ?_
  intro E hEl hEy hED h hf
  subst hEl hEy hED
  have hkR : 0 ≤ E.2.2.2.2.2.1.cells ∧ 0 ≤ E.2.2.2.2.2.1.slots := ⟨Nat.zero_le _, Nat.zero_le _⟩
  refine z_cast (lv := [(0, .ref (q 0)), (1, .ref (p 0))]) (ws := (zUs (zy E) q a n S ++ zSa (zy E) p g)) (st := []) ?_ rfl rfl rfl
  refine z_aload_n h 1 rfl dX7_pop_0 ?_
  refine z_aload_n h 0 rfl dX7_pop_1 ?_
  refine z_get h 0 6 2 (v := .ref (q 1)) rfl rfl iX7_pop_X7 (by decide) (List.mem_of_getElem? (i := 1) (by decide +kernel)) rfl rfl dX7_pop_2 ?_
  refine z_aload_n h 0 rfl dX7_pop_5 ?_
  refine z_get h 0 6 1 (v := .int ((n 0) 1)) rfl rfl iX7_pop_X7 (by decide) (List.mem_of_getElem? (i := 2) (by decide +kernel)) rfl rfl dX7_pop_6 ?_
  refine z_top (nI 1) hn ?_
  refine z_qald h 1 1 (f := fun j => some (a j 0)) rfl rfl rfl (by decide) (by decide) dX7_pop_9 ?_
  refine z_cast (lv := [(0, .ref (q 0)), (1, .ref (p 0))]) (ws := (zUs (zy E) q a n S ++ zSa (zy E) p g)) (st := [.ref ((a 1) 0), .ref (p 0)]) ?_ rfl rfl rfl
  refine z_wV h (As := [.ref ((a 1) 0)]) (st := []) (ws2 := zUs (zy E) q a n S ++ zSa (zy E) p (cpSa g (S 1))) (r := none) 1 (c_pop_1 q a n S p g) gX7_pop_X5_copyFrom (q0 := 66) (ci := 4) (by decide +kernel) rfl rfl rfl ⟨by decide, by decide⟩ (Nat.le_of_ble_eq_true rfl) rfl rfl dX7_pop_10 ?_ hkR
  refine z_aload_n h 0 rfl dX7_pop_13 ?_
  refine z_aload_n h 0 rfl dX7_pop_14 ?_
  refine z_get h 0 6 1 (v := .int ((n 0) 1)) rfl rfl iX7_pop_X7 (by decide) (List.mem_of_getElem? (i := 2) (by decide +kernel)) rfl rfl dX7_pop_15 ?_
  refine z_top (nI 1) hn ?_
  refine z_iconst h (nI 4) (by decide +kernel) dX7_pop_18 ?_
  refine z_iadd h dX7_pop_19 ?_
  refine z_top (nI (1 + 4)) (nI_add _ _) ?_
  refine z_iconst h (nI 1) (by decide +kernel) dX7_pop_20 ?_
  refine z_isub h dX7_pop_21 ?_
  refine z_iconst h (nI 4) (by decide +kernel) dX7_pop_22 ?_
  refine z_irem h dX7_pop_23 (by decide) ?_
  refine z_top (nI 0) (by decide +kernel) ?_
  refine z_put h 0 6 1 (ws' := zUs (zy E) q a (va_up n 0 (upd (n 0) 1 (nI 0))) S ++ zSa (zy E) p (cpSa g (S 1))) tyX7 .int rfl rfl iX7_pop_X7 tyX7_ok nmX7 (by decide) (List.mem_of_getElem? (i := 2) (by decide +kernel)) rfl rfl (by decide +kernel) rfl rfl (Nat.le_of_ble_eq_true rfl) rfl dX7_pop_24 ?_
  refine z_aload_n h 0 rfl dX7_pop_27 ?_
  refine z_dup h dX7_pop_28 rfl ?_
  refine z_get h 0 6 0 (v := .int ((upd (n 0) 1 (nI 0)) 0)) rfl rfl iX7_pop_X7 (by decide) (List.mem_of_getElem? (i := 3) (by decide +kernel)) rfl rfl dX7_pop_29 ?_
  refine z_iconst h (nI 1) (by decide +kernel) dX7_pop_32 ?_
  refine z_isub h dX7_pop_33 ?_
  refine z_put h 0 6 0 (ws' := zUs (zy E) q a (va_up n 0 (upd (upd (n 0) 1 (nI 0)) 0 (((upd (n 0) 1 (nI 0)) 0) - (nI 1)))) S ++ zSa (zy E) p (cpSa g (S 1))) tyX7 .int rfl rfl iX7_pop_X7 tyX7_ok nmX7 (by decide) (List.mem_of_getElem? (i := 3) (by decide +kernel)) rfl rfl (by decide +kernel) rfl rfl (Nat.le_of_ble_eq_true rfl) rfl dX7_pop_34 ?_
  exact z_vret h hf rfl rfl rfl dX7_pop_37

set_option maxHeartbeats 4000000 in
set_option maxRecDepth 100000 in
/-- push, top 2 -/
theorem c_X7_push_2 {l : Launch} {y : zY} {D : va_G} (q : Nat → Nat) (a : Nat → Nat → Nat) (n : Nat → Nat → Int32) (S : Nat → Nat → Nat → Int32) (p : Nat → Nat) (g : Nat → Nat → Int32) (hn : n 0 1 = nI 2) : zM l y D yX7_push wsX7_push 4 143 [.ref (q 0), .ref (p 0)] (zUs y q a n S ++ zSa y p g) (zUs y q a (puN n 3) (zSs S 3 (cpSa (S 3) g)) ++ zSa y p g) (none) := by
  refine z_start (own := RX7) (cc := cX7_push) (maxL := 2) (ret := none) rfl (by decide +kernel) rfl (Nat.le_of_ble_eq_true rfl) rfl ?_
  intro E hEl hEy hED h hf
  subst hEl hEy hED
  have hkR : 0 ≤ E.2.2.2.2.2.1.cells ∧ 0 ≤ E.2.2.2.2.2.1.slots := ⟨Nat.zero_le _, Nat.zero_le _⟩
  refine z_cast (lv := [(0, .ref (q 0)), (1, .ref (p 0))]) (ws := (zUs (zy E) q a n S ++ zSa (zy E) p g)) (st := []) ?_ rfl rfl rfl
  refine z_aload_n h 0 rfl dX7_push_0 ?_
  refine z_aload_n h 0 rfl dX7_push_1 ?_
  refine z_get h 0 6 1 (v := .int ((n 0) 1)) rfl rfl iX7_push_X7 (by decide) (List.mem_of_getElem? (i := 1) (by decide +kernel)) rfl rfl dX7_push_2 ?_
  refine z_top (nI 2) hn ?_
  refine z_iconst h (nI 1) (by decide +kernel) dX7_push_5 ?_
  refine z_iadd h dX7_push_6 ?_
  refine z_top (nI (2 + 1)) (nI_add _ _) ?_
  refine z_iconst h (nI 4) (by decide +kernel) dX7_push_7 ?_
  refine z_irem h dX7_push_8 (by decide) ?_
  refine z_top (nI 3) (by decide +kernel) ?_
  refine z_put h 0 6 1 (ws' := zUs (zy E) q a (va_up n 0 (upd (n 0) 1 (nI 3))) S ++ zSa (zy E) p g) tyX7 .int rfl rfl iX7_push_X7 tyX7_ok nmX7 (by decide) (List.mem_of_getElem? (i := 1) (by decide +kernel)) rfl rfl (by decide +kernel) rfl rfl (Nat.le_of_ble_eq_true rfl) rfl dX7_push_9 ?_
  refine z_aload_n h 0 rfl dX7_push_12 ?_
  refine z_get h 0 6 2 (v := .ref (q 1)) rfl rfl iX7_push_X7 (by decide) (List.mem_of_getElem? (i := 2) (by decide +kernel)) rfl rfl dX7_push_13 ?_
  refine z_aload_n h 0 rfl dX7_push_16 ?_
  refine z_get h 0 6 1 (v := .int (nI 3)) rfl rfl iX7_push_X7 (by decide) (List.mem_of_getElem? (i := 1) (by decide +kernel)) rfl rfl dX7_push_17 ?_
  refine z_top (nI 3) rfl ?_
  refine z_qald h 1 3 (f := fun j => some (a j 0)) rfl rfl rfl (by decide) (by decide) dX7_push_20 ?_
  refine z_cast (lv := [(0, .ref (q 0)), (1, .ref (p 0))]) (ws := (zUs (zy E) q a (va_up n 0 (upd (n 0) 1 (nI 3))) S ++ zSa (zy E) p g)) (st := [.ref ((a 3) 0)]) ?_ rfl rfl rfl
  refine z_aload_n h 1 rfl dX7_push_21 ?_
  refine z_wV h (As := [.ref (p 0)]) (st := []) (ws2 := zUs (zy E) q a (va_up n 0 (upd (n 0) 1 (nI 3))) (zSs S 3 (cpSa (S 3) g)) ++ zSa (zy E) p g) (r := none) 1 (c_push_3 q a (va_up n 0 (upd (n 0) 1 (nI 3))) S p g) gX7_push_X5_copyFrom (q0 := 50) (ci := 4) (by decide +kernel) rfl rfl rfl ⟨by decide, by decide⟩ (Nat.le_of_ble_eq_true rfl) rfl rfl dX7_push_22 ?_ hkR
  refine z_aload_n h 0 rfl dX7_push_25 ?_
  refine z_aload_n h 0 rfl dX7_push_26 ?_
  refine z_get h 0 6 0 (v := .int ((upd (n 0) 1 (nI 3)) 0)) rfl rfl iX7_push_X7 (by decide) (List.mem_of_getElem? (i := 3) (by decide +kernel)) rfl rfl dX7_push_27 ?_
  refine z_iconst h (nI 1) (by decide +kernel) dX7_push_30 ?_
  refine z_iadd h dX7_push_31 ?_
  refine z_iconst h (nI 4) (by decide +kernel) dX7_push_32 ?_
  refine z_min h (List.mem_of_getElem? (i := 4) (by decide +kernel)) (List.mem_of_getElem? (i := 5) (by decide +kernel)) (List.mem_of_getElem? (i := 6) (by decide +kernel)) (List.mem_of_getElem? (i := 7) (by decide +kernel)) ⟨by decide, Nat.le_of_ble_eq_true rfl⟩ hkR dX7_push_33 ?_
  refine z_put h 0 6 0 (ws' := zUs (zy E) q a (va_up n 0 (upd (upd (n 0) 1 (nI 3)) 0 (if nI 4 < ((upd (n 0) 1 (nI 3)) 0) + (nI 1) then nI 4 else ((upd (n 0) 1 (nI 3)) 0) + (nI 1)))) (zSs S 3 (cpSa (S 3) g)) ++ zSa (zy E) p g) tyX7 .int rfl rfl iX7_push_X7 tyX7_ok nmX7 (by decide) (List.mem_of_getElem? (i := 3) (by decide +kernel)) rfl rfl (by decide +kernel) rfl rfl (Nat.le_of_ble_eq_true rfl) rfl dX7_push_36 ?_
  exact z_vret h hf rfl rfl rfl dX7_push_39

set_option maxHeartbeats 4000000 in
set_option maxRecDepth 100000 in
/-- pop, top 2 -/
theorem c_X7_pop_2 {l : Launch} {y : zY} {D : va_G} (q : Nat → Nat) (a : Nat → Nat → Nat) (n : Nat → Nat → Int32) (S : Nat → Nat → Nat → Int32) (p : Nat → Nat) (g : Nat → Nat → Int32) (hn : n 0 1 = nI 2) : zM l y D yX7_pop wsX7_pop 4 143 [.ref (q 0), .ref (p 0)] (zUs y q a n S ++ zSa y p g) (zUs y q a (poN n 1) S ++ zSa y p (cpSa g (S 2))) (none) := by
  refine z_start (own := RX7) (cc := cX7_pop) (maxL := 2) (ret := none) rfl (by decide +kernel) rfl (Nat.le_of_ble_eq_true rfl) rfl ?_
  intro E hEl hEy hED h hf
  subst hEl hEy hED
  have hkR : 0 ≤ E.2.2.2.2.2.1.cells ∧ 0 ≤ E.2.2.2.2.2.1.slots := ⟨Nat.zero_le _, Nat.zero_le _⟩
  refine z_cast (lv := [(0, .ref (q 0)), (1, .ref (p 0))]) (ws := (zUs (zy E) q a n S ++ zSa (zy E) p g)) (st := []) ?_ rfl rfl rfl
  refine z_aload_n h 1 rfl dX7_pop_0 ?_
  refine z_aload_n h 0 rfl dX7_pop_1 ?_
  refine z_get h 0 6 2 (v := .ref (q 1)) rfl rfl iX7_pop_X7 (by decide) (List.mem_of_getElem? (i := 1) (by decide +kernel)) rfl rfl dX7_pop_2 ?_
  refine z_aload_n h 0 rfl dX7_pop_5 ?_
  refine z_get h 0 6 1 (v := .int ((n 0) 1)) rfl rfl iX7_pop_X7 (by decide) (List.mem_of_getElem? (i := 2) (by decide +kernel)) rfl rfl dX7_pop_6 ?_
  refine z_top (nI 2) hn ?_
  refine z_qald h 1 2 (f := fun j => some (a j 0)) rfl rfl rfl (by decide) (by decide) dX7_pop_9 ?_
  refine z_cast (lv := [(0, .ref (q 0)), (1, .ref (p 0))]) (ws := (zUs (zy E) q a n S ++ zSa (zy E) p g)) (st := [.ref ((a 2) 0), .ref (p 0)]) ?_ rfl rfl rfl
  refine z_wV h (As := [.ref ((a 2) 0)]) (st := []) (ws2 := zUs (zy E) q a n S ++ zSa (zy E) p (cpSa g (S 2))) (r := none) 1 (c_pop_2 q a n S p g) gX7_pop_X5_copyFrom (q0 := 66) (ci := 4) (by decide +kernel) rfl rfl rfl ⟨by decide, by decide⟩ (Nat.le_of_ble_eq_true rfl) rfl rfl dX7_pop_10 ?_ hkR
  refine z_aload_n h 0 rfl dX7_pop_13 ?_
  refine z_aload_n h 0 rfl dX7_pop_14 ?_
  refine z_get h 0 6 1 (v := .int ((n 0) 1)) rfl rfl iX7_pop_X7 (by decide) (List.mem_of_getElem? (i := 2) (by decide +kernel)) rfl rfl dX7_pop_15 ?_
  refine z_top (nI 2) hn ?_
  refine z_iconst h (nI 4) (by decide +kernel) dX7_pop_18 ?_
  refine z_iadd h dX7_pop_19 ?_
  refine z_top (nI (2 + 4)) (nI_add _ _) ?_
  refine z_iconst h (nI 1) (by decide +kernel) dX7_pop_20 ?_
  refine z_isub h dX7_pop_21 ?_
  refine z_iconst h (nI 4) (by decide +kernel) dX7_pop_22 ?_
  refine z_irem h dX7_pop_23 (by decide) ?_
  refine z_top (nI 1) (by decide +kernel) ?_
  refine z_put h 0 6 1 (ws' := zUs (zy E) q a (va_up n 0 (upd (n 0) 1 (nI 1))) S ++ zSa (zy E) p (cpSa g (S 2))) tyX7 .int rfl rfl iX7_pop_X7 tyX7_ok nmX7 (by decide) (List.mem_of_getElem? (i := 2) (by decide +kernel)) rfl rfl (by decide +kernel) rfl rfl (Nat.le_of_ble_eq_true rfl) rfl dX7_pop_24 ?_
  refine z_aload_n h 0 rfl dX7_pop_27 ?_
  refine z_dup h dX7_pop_28 rfl ?_
  refine z_get h 0 6 0 (v := .int ((upd (n 0) 1 (nI 1)) 0)) rfl rfl iX7_pop_X7 (by decide) (List.mem_of_getElem? (i := 3) (by decide +kernel)) rfl rfl dX7_pop_29 ?_
  refine z_iconst h (nI 1) (by decide +kernel) dX7_pop_32 ?_
  refine z_isub h dX7_pop_33 ?_
  refine z_put h 0 6 0 (ws' := zUs (zy E) q a (va_up n 0 (upd (upd (n 0) 1 (nI 1)) 0 (((upd (n 0) 1 (nI 1)) 0) - (nI 1)))) S ++ zSa (zy E) p (cpSa g (S 2))) tyX7 .int rfl rfl iX7_pop_X7 tyX7_ok nmX7 (by decide) (List.mem_of_getElem? (i := 3) (by decide +kernel)) rfl rfl (by decide +kernel) rfl rfl (Nat.le_of_ble_eq_true rfl) rfl dX7_pop_34 ?_
  exact z_vret h hf rfl rfl rfl dX7_pop_37

set_option maxHeartbeats 4000000 in
set_option maxRecDepth 100000 in
/-- push, top 3 -/
theorem c_X7_push_3 {l : Launch} {y : zY} {D : va_G} (q : Nat → Nat) (a : Nat → Nat → Nat) (n : Nat → Nat → Int32) (S : Nat → Nat → Nat → Int32) (p : Nat → Nat) (g : Nat → Nat → Int32) (hn : n 0 1 = nI 3) : zM l y D yX7_push wsX7_push 4 143 [.ref (q 0), .ref (p 0)] (zUs y q a n S ++ zSa y p g) (zUs y q a (puN n 0) (zSs S 0 (cpSa (S 0) g)) ++ zSa y p g) (none) := by
  refine z_start (own := RX7) (cc := cX7_push) (maxL := 2) (ret := none) rfl (by decide +kernel) rfl (Nat.le_of_ble_eq_true rfl) rfl ?_
  intro E hEl hEy hED h hf
  subst hEl hEy hED
  have hkR : 0 ≤ E.2.2.2.2.2.1.cells ∧ 0 ≤ E.2.2.2.2.2.1.slots := ⟨Nat.zero_le _, Nat.zero_le _⟩
  refine z_cast (lv := [(0, .ref (q 0)), (1, .ref (p 0))]) (ws := (zUs (zy E) q a n S ++ zSa (zy E) p g)) (st := []) ?_ rfl rfl rfl
  refine z_aload_n h 0 rfl dX7_push_0 ?_
  refine z_aload_n h 0 rfl dX7_push_1 ?_
  refine z_get h 0 6 1 (v := .int ((n 0) 1)) rfl rfl iX7_push_X7 (by decide) (List.mem_of_getElem? (i := 1) (by decide +kernel)) rfl rfl dX7_push_2 ?_
  refine z_top (nI 3) hn ?_
  refine z_iconst h (nI 1) (by decide +kernel) dX7_push_5 ?_
  refine z_iadd h dX7_push_6 ?_
  refine z_top (nI (3 + 1)) (nI_add _ _) ?_
  refine z_iconst h (nI 4) (by decide +kernel) dX7_push_7 ?_
  refine z_irem h dX7_push_8 (by decide) ?_
  refine z_top (nI 0) (by decide +kernel) ?_
  refine z_put h 0 6 1 (ws' := zUs (zy E) q a (va_up n 0 (upd (n 0) 1 (nI 0))) S ++ zSa (zy E) p g) tyX7 .int rfl rfl iX7_push_X7 tyX7_ok nmX7 (by decide) (List.mem_of_getElem? (i := 1) (by decide +kernel)) rfl rfl (by decide +kernel) rfl rfl (Nat.le_of_ble_eq_true rfl) rfl dX7_push_9 ?_
  refine z_aload_n h 0 rfl dX7_push_12 ?_
  refine z_get h 0 6 2 (v := .ref (q 1)) rfl rfl iX7_push_X7 (by decide) (List.mem_of_getElem? (i := 2) (by decide +kernel)) rfl rfl dX7_push_13 ?_
  refine z_aload_n h 0 rfl dX7_push_16 ?_
  refine z_get h 0 6 1 (v := .int (nI 0)) rfl rfl iX7_push_X7 (by decide) (List.mem_of_getElem? (i := 1) (by decide +kernel)) rfl rfl dX7_push_17 ?_
  refine z_top (nI 0) rfl ?_
  refine z_qald h 1 0 (f := fun j => some (a j 0)) rfl rfl rfl (by decide) (by decide) dX7_push_20 ?_
  refine z_cast (lv := [(0, .ref (q 0)), (1, .ref (p 0))]) (ws := (zUs (zy E) q a (va_up n 0 (upd (n 0) 1 (nI 0))) S ++ zSa (zy E) p g)) (st := [.ref ((a 0) 0)]) ?_ rfl rfl rfl
  refine z_aload_n h 1 rfl dX7_push_21 ?_
  refine z_wV h (As := [.ref (p 0)]) (st := []) (ws2 := zUs (zy E) q a (va_up n 0 (upd (n 0) 1 (nI 0))) (zSs S 0 (cpSa (S 0) g)) ++ zSa (zy E) p g) (r := none) 1 (c_push_0 q a (va_up n 0 (upd (n 0) 1 (nI 0))) S p g) gX7_push_X5_copyFrom (q0 := 2) (ci := 4) (by decide +kernel) rfl rfl rfl ⟨by decide, by decide⟩ (Nat.le_of_ble_eq_true rfl) rfl rfl dX7_push_22 ?_ hkR
  refine z_aload_n h 0 rfl dX7_push_25 ?_
  refine z_aload_n h 0 rfl dX7_push_26 ?_
  refine z_get h 0 6 0 (v := .int ((upd (n 0) 1 (nI 0)) 0)) rfl rfl iX7_push_X7 (by decide) (List.mem_of_getElem? (i := 3) (by decide +kernel)) rfl rfl dX7_push_27 ?_
  refine z_iconst h (nI 1) (by decide +kernel) dX7_push_30 ?_
  refine z_iadd h dX7_push_31 ?_
  refine z_iconst h (nI 4) (by decide +kernel) dX7_push_32 ?_
  refine z_min h (List.mem_of_getElem? (i := 4) (by decide +kernel)) (List.mem_of_getElem? (i := 5) (by decide +kernel)) (List.mem_of_getElem? (i := 6) (by decide +kernel)) (List.mem_of_getElem? (i := 7) (by decide +kernel)) ⟨by decide, Nat.le_of_ble_eq_true rfl⟩ hkR dX7_push_33 ?_
  refine z_put h 0 6 0 (ws' := zUs (zy E) q a (va_up n 0 (upd (upd (n 0) 1 (nI 0)) 0 (if nI 4 < ((upd (n 0) 1 (nI 0)) 0) + (nI 1) then nI 4 else ((upd (n 0) 1 (nI 0)) 0) + (nI 1)))) (zSs S 0 (cpSa (S 0) g)) ++ zSa (zy E) p g) tyX7 .int rfl rfl iX7_push_X7 tyX7_ok nmX7 (by decide) (List.mem_of_getElem? (i := 3) (by decide +kernel)) rfl rfl (by decide +kernel) rfl rfl (Nat.le_of_ble_eq_true rfl) rfl dX7_push_36 ?_
  exact z_vret h hf rfl rfl rfl dX7_push_39

set_option maxHeartbeats 4000000 in
set_option maxRecDepth 100000 in
/-- pop, top 3 -/
theorem c_X7_pop_3 {l : Launch} {y : zY} {D : va_G} (q : Nat → Nat) (a : Nat → Nat → Nat) (n : Nat → Nat → Int32) (S : Nat → Nat → Nat → Int32) (p : Nat → Nat) (g : Nat → Nat → Int32) (hn : n 0 1 = nI 3) : zM l y D yX7_pop wsX7_pop 4 143 [.ref (q 0), .ref (p 0)] (zUs y q a n S ++ zSa y p g) (zUs y q a (poN n 2) S ++ zSa y p (cpSa g (S 3))) (none) := by
  refine z_start (own := RX7) (cc := cX7_pop) (maxL := 2) (ret := none) rfl (by decide +kernel) rfl (Nat.le_of_ble_eq_true rfl) rfl ?_
  intro E hEl hEy hED h hf
  subst hEl hEy hED
  have hkR : 0 ≤ E.2.2.2.2.2.1.cells ∧ 0 ≤ E.2.2.2.2.2.1.slots := ⟨Nat.zero_le _, Nat.zero_le _⟩
  refine z_cast (lv := [(0, .ref (q 0)), (1, .ref (p 0))]) (ws := (zUs (zy E) q a n S ++ zSa (zy E) p g)) (st := []) ?_ rfl rfl rfl
  refine z_aload_n h 1 rfl dX7_pop_0 ?_
  refine z_aload_n h 0 rfl dX7_pop_1 ?_
  refine z_get h 0 6 2 (v := .ref (q 1)) rfl rfl iX7_pop_X7 (by decide) (List.mem_of_getElem? (i := 1) (by decide +kernel)) rfl rfl dX7_pop_2 ?_
  refine z_aload_n h 0 rfl dX7_pop_5 ?_
  refine z_get h 0 6 1 (v := .int ((n 0) 1)) rfl rfl iX7_pop_X7 (by decide) (List.mem_of_getElem? (i := 2) (by decide +kernel)) rfl rfl dX7_pop_6 ?_
  refine z_top (nI 3) hn ?_
  refine z_qald h 1 3 (f := fun j => some (a j 0)) rfl rfl rfl (by decide) (by decide) dX7_pop_9 ?_
  refine z_cast (lv := [(0, .ref (q 0)), (1, .ref (p 0))]) (ws := (zUs (zy E) q a n S ++ zSa (zy E) p g)) (st := [.ref ((a 3) 0), .ref (p 0)]) ?_ rfl rfl rfl
  refine z_wV h (As := [.ref ((a 3) 0)]) (st := []) (ws2 := zUs (zy E) q a n S ++ zSa (zy E) p (cpSa g (S 3))) (r := none) 1 (c_pop_3 q a n S p g) gX7_pop_X5_copyFrom (q0 := 66) (ci := 4) (by decide +kernel) rfl rfl rfl ⟨by decide, by decide⟩ (Nat.le_of_ble_eq_true rfl) rfl rfl dX7_pop_10 ?_ hkR
  refine z_aload_n h 0 rfl dX7_pop_13 ?_
  refine z_aload_n h 0 rfl dX7_pop_14 ?_
  refine z_get h 0 6 1 (v := .int ((n 0) 1)) rfl rfl iX7_pop_X7 (by decide) (List.mem_of_getElem? (i := 2) (by decide +kernel)) rfl rfl dX7_pop_15 ?_
  refine z_top (nI 3) hn ?_
  refine z_iconst h (nI 4) (by decide +kernel) dX7_pop_18 ?_
  refine z_iadd h dX7_pop_19 ?_
  refine z_top (nI (3 + 4)) (nI_add _ _) ?_
  refine z_iconst h (nI 1) (by decide +kernel) dX7_pop_20 ?_
  refine z_isub h dX7_pop_21 ?_
  refine z_iconst h (nI 4) (by decide +kernel) dX7_pop_22 ?_
  refine z_irem h dX7_pop_23 (by decide) ?_
  refine z_top (nI 2) (by decide +kernel) ?_
  refine z_put h 0 6 1 (ws' := zUs (zy E) q a (va_up n 0 (upd (n 0) 1 (nI 2))) S ++ zSa (zy E) p (cpSa g (S 3))) tyX7 .int rfl rfl iX7_pop_X7 tyX7_ok nmX7 (by decide) (List.mem_of_getElem? (i := 2) (by decide +kernel)) rfl rfl (by decide +kernel) rfl rfl (Nat.le_of_ble_eq_true rfl) rfl dX7_pop_24 ?_
  refine z_aload_n h 0 rfl dX7_pop_27 ?_
  refine z_dup h dX7_pop_28 rfl ?_
  refine z_get h 0 6 0 (v := .int ((upd (n 0) 1 (nI 2)) 0)) rfl rfl iX7_pop_X7 (by decide) (List.mem_of_getElem? (i := 3) (by decide +kernel)) rfl rfl dX7_pop_29 ?_
  refine z_iconst h (nI 1) (by decide +kernel) dX7_pop_32 ?_
  refine z_isub h dX7_pop_33 ?_
  refine z_put h 0 6 0 (ws' := zUs (zy E) q a (va_up n 0 (upd (upd (n 0) 1 (nI 2)) 0 (((upd (n 0) 1 (nI 2)) 0) - (nI 1)))) S ++ zSa (zy E) p (cpSa g (S 3))) tyX7 .int rfl rfl iX7_pop_X7 tyX7_ok nmX7 (by decide) (List.mem_of_getElem? (i := 3) (by decide +kernel)) rfl rfl (by decide +kernel) rfl rfl (Nat.le_of_ble_eq_true rfl) rfl dX7_pop_34 ?_
  exact z_vret h hf rfl rfl rfl dX7_pop_37

