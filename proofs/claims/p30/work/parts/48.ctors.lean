def zq (a : Nat) (qs : List Nat) : Nat → Nat := fun i => if i = 0 then a else qs.getD (i - 1) 0
def cZ : Nat → Nat → Int32 := va_up (fun _ _ => 0) 0 (upd (fun _ => 0) 1 (-1))
def oZ : Nat → Nat → Int32 := va_up (fun _ _ => 0) 0 (upd (upd (fun _ => 0) 1 (nI 9)) 3 (-1))
theorem qs_e {n : Nat} {qs : List Nat} (h : qs.length = n) : (List.range n).map (fun i => qs.getD i 0) = qs := by
  subst h
  apply List.ext_getElem
  · simp
  · intro i h1 h2
    simp [List.getD_eq_getElem?_getD, h2]
theorem g_room {E : zE} {M : List Nat → va_W} {nq mc ms : Nat} {ret : Option FieldType} {r : Option Value} {nn : String} (hf : zFG E ret M nq r mc ms nn) : E.2.2.2.2.2.1.cells = mc ∧ E.2.2.2.2.2.1.slots = ms := by
  obtain ⟨l, y, D, p, e, R, s, m, args, below, meth, c, nL, A, Q⟩ := E
  exact ⟨hf.2.2.2.1, hf.2.2.2.2.1⟩
theorem iX4_init_X4 : ∀ w ∈ u_ws RX4 TX4 7, w ∈ wsX4_init := by decide +kernel
set_option maxHeartbeats 4000000 in
set_option maxRecDepth 100000 in
/-- the constructor of SnowSites$Stacks -/
theorem g_X4_init {l : Launch} {y : zY} {D : va_G} (a : Nat) : zG (fun _ => True) l y D yX4_init wsX4_init 1 13 7 176 [.ref a] [(a, .inr (3, [.null, .null, .null, .null, .null, .null, .null]))] (fun qs => (zSt y (zq a qs) (fun _ _ => 0)).take 1) (fun qs => (zSt y (zq a qs) (fun _ _ => 0)).drop 1) 7 none := by
  refine g_start (own := RX4) (cc := cX4_init) (maxL := 1) (ret := none) rfl (by decide +kernel) rfl (Nat.le_of_ble_eq_true rfl) (fun _ => rfl) (fun qs hq => (show _ = (List.range 7).map (fun i => qs.getD i 0) from rfl).trans (qs_e hq)) ?_
  intro E hEl hEy hED h hf hX
  subst hEy
  have hrm := g_room hf
  refine z_cast (lv := [(0, .ref a)]) (ws := [(a, .inr (3, [.null, .null, .null, .null, .null, .null, .null]))]) (st := []) ?_ rfl rfl rfl
  refine z_aload_n h 0 rfl dX4_init_0 ?_
  refine z_oinit h (List.mem_of_getElem? (i := 1) (by decide +kernel)) (List.mem_of_getElem? (i := 2) (by decide +kernel)) (List.mem_of_getElem? (i := 3) (by decide +kernel)) ⟨by decide, by decide⟩ dX4_init_1 ?_
  refine z_aload_n h 0 rfl dX4_init_4 ?_
  refine z_bipush h (nI 8) (by decide +kernel) dX4_init_5 ?_
  refine z_newa h (ty := .int) (cA := (zy E).1 0) (a0 := (8, .inl (fun _ => 0))) 0 8 rfl (rfl) (fun _ _ _ b1 b2 => Option.some.inj (b1.symm.trans b2)) (List.mem_of_getElem? (i := 4) (by decide +kernel)) (fun _ => rfl) (by decide +kernel) (by decide +kernel) (by decide) ⟨by rw [hrm.1]; decide, by rw [hrm.2]; decide⟩ dX4_init_7 (fun q0 => ?_)
  refine z_cast (lv := [(0, .ref a)]) (ws := [(a, .inr (3, [.null, .null, .null, .null, .null, .null, .null])), (q0, .inl ((zy E).1 0, 8, .inl (fun _ => 0)))]) (st := [.ref q0, .ref a]) ?_ rfl rfl rfl
  refine z_putF h 0 3 0 (ws' := [(a, .inr (3, [.ref q0, .null, .null, .null, .null, .null, .null])), (q0, .inl ((zy E).1 0, 8, .inl (fun _ => 0)))]) tyX4 (.array .int) rfl rfl iX4_init_X4 tyX4_ok nmX4 (by decide) (List.mem_of_getElem? (i := 5) (by decide +kernel)) rfl rfl hf rfl (by decide +kernel) rfl rfl (Nat.le_of_ble_eq_true rfl) rfl dX4_init_9 ?_
  refine z_aload_n h 0 rfl dX4_init_12 ?_
  refine z_bipush h (nI 8) (by decide +kernel) dX4_init_13 ?_
  refine z_newa h (ty := .int) (cA := (zy E).1 0) (a0 := (8, .inl (fun _ => 0))) 0 8 rfl (rfl) (fun _ _ _ b1 b2 => Option.some.inj (b1.symm.trans b2)) (List.mem_of_getElem? (i := 4) (by decide +kernel)) (fun _ => rfl) (by decide +kernel) (by decide +kernel) (by decide) ⟨by rw [hrm.1]; decide, by rw [hrm.2]; decide⟩ dX4_init_15 (fun q1 => ?_)
  refine z_cast (lv := [(0, .ref a)]) (ws := [(a, .inr (3, [.ref q0, .null, .null, .null, .null, .null, .null])), (q0, .inl ((zy E).1 0, 8, .inl (fun _ => 0))), (q1, .inl ((zy E).1 0, 8, .inl (fun _ => 0)))]) (st := [.ref q1, .ref a]) ?_ rfl rfl rfl
  refine z_putF h 0 3 1 (ws' := [(a, .inr (3, [.ref q0, .ref q1, .null, .null, .null, .null, .null])), (q0, .inl ((zy E).1 0, 8, .inl (fun _ => 0))), (q1, .inl ((zy E).1 0, 8, .inl (fun _ => 0)))]) tyX4 (.array .int) rfl rfl iX4_init_X4 tyX4_ok nmX4 (by decide) (List.mem_of_getElem? (i := 6) (by decide +kernel)) rfl rfl hf rfl (by decide +kernel) rfl rfl (Nat.le_of_ble_eq_true rfl) rfl dX4_init_17 ?_
  refine z_aload_n h 0 rfl dX4_init_20 ?_
  refine z_bipush h (nI 8) (by decide +kernel) dX4_init_21 ?_
  refine z_newa h (ty := .int) (cA := (zy E).1 0) (a0 := (8, .inl (fun _ => 0))) 0 8 rfl (rfl) (fun _ _ _ b1 b2 => Option.some.inj (b1.symm.trans b2)) (List.mem_of_getElem? (i := 4) (by decide +kernel)) (fun _ => rfl) (by decide +kernel) (by decide +kernel) (by decide) ⟨by rw [hrm.1]; decide, by rw [hrm.2]; decide⟩ dX4_init_23 (fun q2 => ?_)
  refine z_cast (lv := [(0, .ref a)]) (ws := [(a, .inr (3, [.ref q0, .ref q1, .null, .null, .null, .null, .null])), (q0, .inl ((zy E).1 0, 8, .inl (fun _ => 0))), (q1, .inl ((zy E).1 0, 8, .inl (fun _ => 0))), (q2, .inl ((zy E).1 0, 8, .inl (fun _ => 0)))]) (st := [.ref q2, .ref a]) ?_ rfl rfl rfl
  refine z_putF h 0 3 2 (ws' := [(a, .inr (3, [.ref q0, .ref q1, .ref q2, .null, .null, .null, .null])), (q0, .inl ((zy E).1 0, 8, .inl (fun _ => 0))), (q1, .inl ((zy E).1 0, 8, .inl (fun _ => 0))), (q2, .inl ((zy E).1 0, 8, .inl (fun _ => 0)))]) tyX4 (.array .int) rfl rfl iX4_init_X4 tyX4_ok nmX4 (by decide) (List.mem_of_getElem? (i := 7) (by decide +kernel)) rfl rfl hf rfl (by decide +kernel) rfl rfl (Nat.le_of_ble_eq_true rfl) rfl dX4_init_25 ?_
  refine z_aload_n h 0 rfl dX4_init_28 ?_
  refine z_bipush h (nI 8) (by decide +kernel) dX4_init_29 ?_
  refine z_newa h (ty := .int) (cA := (zy E).1 0) (a0 := (8, .inl (fun _ => 0))) 0 8 rfl (rfl) (fun _ _ _ b1 b2 => Option.some.inj (b1.symm.trans b2)) (List.mem_of_getElem? (i := 4) (by decide +kernel)) (fun _ => rfl) (by decide +kernel) (by decide +kernel) (by decide) ⟨by rw [hrm.1]; decide, by rw [hrm.2]; decide⟩ dX4_init_31 (fun q3 => ?_)
  refine z_cast (lv := [(0, .ref a)]) (ws := [(a, .inr (3, [.ref q0, .ref q1, .ref q2, .null, .null, .null, .null])), (q0, .inl ((zy E).1 0, 8, .inl (fun _ => 0))), (q1, .inl ((zy E).1 0, 8, .inl (fun _ => 0))), (q2, .inl ((zy E).1 0, 8, .inl (fun _ => 0))), (q3, .inl ((zy E).1 0, 8, .inl (fun _ => 0)))]) (st := [.ref q3, .ref a]) ?_ rfl rfl rfl
  refine z_putF h 0 3 3 (ws' := [(a, .inr (3, [.ref q0, .ref q1, .ref q2, .ref q3, .null, .null, .null])), (q0, .inl ((zy E).1 0, 8, .inl (fun _ => 0))), (q1, .inl ((zy E).1 0, 8, .inl (fun _ => 0))), (q2, .inl ((zy E).1 0, 8, .inl (fun _ => 0))), (q3, .inl ((zy E).1 0, 8, .inl (fun _ => 0)))]) tyX4 (.array .int) rfl rfl iX4_init_X4 tyX4_ok nmX4 (by decide) (List.mem_of_getElem? (i := 8) (by decide +kernel)) rfl rfl hf rfl (by decide +kernel) rfl rfl (Nat.le_of_ble_eq_true rfl) rfl dX4_init_33 ?_
  refine z_aload_n h 0 rfl dX4_init_36 ?_
  refine z_bipush h (nI 48) (by decide +kernel) dX4_init_37 ?_
  refine z_newa h (ty := .int) (cA := (zy E).1 0) (a0 := (48, .inl (fun _ => 0))) 0 48 rfl (rfl) (fun _ _ _ b1 b2 => Option.some.inj (b1.symm.trans b2)) (List.mem_of_getElem? (i := 4) (by decide +kernel)) (fun _ => rfl) (by decide +kernel) (by decide +kernel) (by decide) ⟨by rw [hrm.1]; decide, by rw [hrm.2]; decide⟩ dX4_init_39 (fun q4 => ?_)
  refine z_cast (lv := [(0, .ref a)]) (ws := [(a, .inr (3, [.ref q0, .ref q1, .ref q2, .ref q3, .null, .null, .null])), (q0, .inl ((zy E).1 0, 8, .inl (fun _ => 0))), (q1, .inl ((zy E).1 0, 8, .inl (fun _ => 0))), (q2, .inl ((zy E).1 0, 8, .inl (fun _ => 0))), (q3, .inl ((zy E).1 0, 8, .inl (fun _ => 0))), (q4, .inl ((zy E).1 0, 48, .inl (fun _ => 0)))]) (st := [.ref q4, .ref a]) ?_ rfl rfl rfl
  refine z_putF h 0 3 4 (ws' := [(a, .inr (3, [.ref q0, .ref q1, .ref q2, .ref q3, .ref q4, .null, .null])), (q0, .inl ((zy E).1 0, 8, .inl (fun _ => 0))), (q1, .inl ((zy E).1 0, 8, .inl (fun _ => 0))), (q2, .inl ((zy E).1 0, 8, .inl (fun _ => 0))), (q3, .inl ((zy E).1 0, 8, .inl (fun _ => 0))), (q4, .inl ((zy E).1 0, 48, .inl (fun _ => 0)))]) tyX4 (.array .int) rfl rfl iX4_init_X4 tyX4_ok nmX4 (by decide) (List.mem_of_getElem? (i := 9) (by decide +kernel)) rfl rfl hf rfl (by decide +kernel) rfl rfl (Nat.le_of_ble_eq_true rfl) rfl dX4_init_41 ?_
  refine z_aload_n h 0 rfl dX4_init_44 ?_
  refine z_bipush h (nI 48) (by decide +kernel) dX4_init_45 ?_
  refine z_newa h (ty := .int) (cA := (zy E).1 0) (a0 := (48, .inl (fun _ => 0))) 0 48 rfl (rfl) (fun _ _ _ b1 b2 => Option.some.inj (b1.symm.trans b2)) (List.mem_of_getElem? (i := 4) (by decide +kernel)) (fun _ => rfl) (by decide +kernel) (by decide +kernel) (by decide) ⟨by rw [hrm.1]; decide, by rw [hrm.2]; decide⟩ dX4_init_47 (fun q5 => ?_)
  refine z_cast (lv := [(0, .ref a)]) (ws := [(a, .inr (3, [.ref q0, .ref q1, .ref q2, .ref q3, .ref q4, .null, .null])), (q0, .inl ((zy E).1 0, 8, .inl (fun _ => 0))), (q1, .inl ((zy E).1 0, 8, .inl (fun _ => 0))), (q2, .inl ((zy E).1 0, 8, .inl (fun _ => 0))), (q3, .inl ((zy E).1 0, 8, .inl (fun _ => 0))), (q4, .inl ((zy E).1 0, 48, .inl (fun _ => 0))), (q5, .inl ((zy E).1 0, 48, .inl (fun _ => 0)))]) (st := [.ref q5, .ref a]) ?_ rfl rfl rfl
  refine z_putF h 0 3 5 (ws' := [(a, .inr (3, [.ref q0, .ref q1, .ref q2, .ref q3, .ref q4, .ref q5, .null])), (q0, .inl ((zy E).1 0, 8, .inl (fun _ => 0))), (q1, .inl ((zy E).1 0, 8, .inl (fun _ => 0))), (q2, .inl ((zy E).1 0, 8, .inl (fun _ => 0))), (q3, .inl ((zy E).1 0, 8, .inl (fun _ => 0))), (q4, .inl ((zy E).1 0, 48, .inl (fun _ => 0))), (q5, .inl ((zy E).1 0, 48, .inl (fun _ => 0)))]) tyX4 (.array .int) rfl rfl iX4_init_X4 tyX4_ok nmX4 (by decide) (List.mem_of_getElem? (i := 10) (by decide +kernel)) rfl rfl hf rfl (by decide +kernel) rfl rfl (Nat.le_of_ble_eq_true rfl) rfl dX4_init_49 ?_
  refine z_aload_n h 0 rfl dX4_init_52 ?_
  refine z_bipush h (nI 48) (by decide +kernel) dX4_init_53 ?_
  refine z_newa h (ty := .int) (cA := (zy E).1 0) (a0 := (48, .inl (fun _ => 0))) 0 48 rfl (rfl) (fun _ _ _ b1 b2 => Option.some.inj (b1.symm.trans b2)) (List.mem_of_getElem? (i := 4) (by decide +kernel)) (fun _ => rfl) (by decide +kernel) (by decide +kernel) (by decide) ⟨by rw [hrm.1]; decide, by rw [hrm.2]; decide⟩ dX4_init_55 (fun q6 => ?_)
  refine z_cast (lv := [(0, .ref a)]) (ws := [(a, .inr (3, [.ref q0, .ref q1, .ref q2, .ref q3, .ref q4, .ref q5, .null])), (q0, .inl ((zy E).1 0, 8, .inl (fun _ => 0))), (q1, .inl ((zy E).1 0, 8, .inl (fun _ => 0))), (q2, .inl ((zy E).1 0, 8, .inl (fun _ => 0))), (q3, .inl ((zy E).1 0, 8, .inl (fun _ => 0))), (q4, .inl ((zy E).1 0, 48, .inl (fun _ => 0))), (q5, .inl ((zy E).1 0, 48, .inl (fun _ => 0))), (q6, .inl ((zy E).1 0, 48, .inl (fun _ => 0)))]) (st := [.ref q6, .ref a]) ?_ rfl rfl rfl
  refine z_putF h 0 3 6 (ws' := [(a, .inr (3, [.ref q0, .ref q1, .ref q2, .ref q3, .ref q4, .ref q5, .ref q6])), (q0, .inl ((zy E).1 0, 8, .inl (fun _ => 0))), (q1, .inl ((zy E).1 0, 8, .inl (fun _ => 0))), (q2, .inl ((zy E).1 0, 8, .inl (fun _ => 0))), (q3, .inl ((zy E).1 0, 8, .inl (fun _ => 0))), (q4, .inl ((zy E).1 0, 48, .inl (fun _ => 0))), (q5, .inl ((zy E).1 0, 48, .inl (fun _ => 0))), (q6, .inl ((zy E).1 0, 48, .inl (fun _ => 0)))]) tyX4 (.array .int) rfl rfl iX4_init_X4 tyX4_ok nmX4 (by decide) (List.mem_of_getElem? (i := 11) (by decide +kernel)) rfl rfl hf rfl (by decide +kernel) rfl rfl (Nat.le_of_ble_eq_true rfl) rfl dX4_init_57 ?_
  exact g_vret h hf [q0, q1, q2, q3, q4, q5, q6] rfl rfl rfl rfl dX4_init_60

theorem iX6_init_X6 : ∀ w ∈ u_ws RX6 TX6 4, w ∈ wsX6_init := by decide +kernel
set_option maxHeartbeats 4000000 in
set_option maxRecDepth 100000 in
/-- the constructor of SnowSites$Tools -/
theorem g_X6_init {l : Launch} {y : zY} {D : va_G} (a : Nat) : zG (fun _ => True) l y D yX6_init wsX6_init 1 13 3 15 [.ref a] [(a, .inr (5, [.int 0, .null, .null, .null]))] (fun qs => (zTo y (zq a qs) (fun _ _ => 0)).take 1) (fun qs => (zTo y (zq a qs) (fun _ _ => 0)).drop 1) 3 none := by
  refine g_start (own := RX6) (cc := cX6_init) (maxL := 1) (ret := none) rfl (by decide +kernel) rfl (Nat.le_of_ble_eq_true rfl) (fun _ => rfl) (fun qs hq => (show _ = (List.range 3).map (fun i => qs.getD i 0) from rfl).trans (qs_e hq)) ?_
  intro E hEl hEy hED h hf hX
  subst hEy
  have hrm := g_room hf
  refine z_cast (lv := [(0, .ref a)]) (ws := [(a, .inr (5, [.int 0, .null, .null, .null]))]) (st := []) ?_ rfl rfl rfl
  refine z_aload_n h 0 rfl dX6_init_0 ?_
  refine z_oinit h (List.mem_of_getElem? (i := 1) (by decide +kernel)) (List.mem_of_getElem? (i := 2) (by decide +kernel)) (List.mem_of_getElem? (i := 3) (by decide +kernel)) ⟨by decide, by decide⟩ dX6_init_1 ?_
  refine z_aload_n h 0 rfl dX6_init_4 ?_
  refine z_iconst h (nI 5) (by decide +kernel) dX6_init_5 ?_
  refine z_newa h (ty := .int) (cA := (zy E).1 0) (a0 := (5, .inl (fun _ => 0))) 0 5 rfl (rfl) (fun _ _ _ b1 b2 => Option.some.inj (b1.symm.trans b2)) (List.mem_of_getElem? (i := 4) (by decide +kernel)) (fun _ => rfl) (by decide +kernel) (by decide +kernel) (by decide) ⟨by rw [hrm.1]; decide, by rw [hrm.2]; decide⟩ dX6_init_6 (fun q0 => ?_)
  refine z_cast (lv := [(0, .ref a)]) (ws := [(a, .inr (5, [.int 0, .null, .null, .null])), (q0, .inl ((zy E).1 0, 5, .inl (fun _ => 0)))]) (st := [.ref q0, .ref a]) ?_ rfl rfl rfl
  refine z_putF h 0 5 1 (ws' := [(a, .inr (5, [.int 0, .ref q0, .null, .null])), (q0, .inl ((zy E).1 0, 5, .inl (fun _ => 0)))]) tyX6 (.array .int) rfl rfl iX6_init_X6 tyX6_ok nmX6 (by decide) (List.mem_of_getElem? (i := 5) (by decide +kernel)) rfl rfl hf rfl (by decide +kernel) rfl rfl (Nat.le_of_ble_eq_true rfl) rfl dX6_init_8 ?_
  refine z_aload_n h 0 rfl dX6_init_11 ?_
  refine z_iconst h (nI 5) (by decide +kernel) dX6_init_12 ?_
  refine z_newa h (ty := .int) (cA := (zy E).1 0) (a0 := (5, .inl (fun _ => 0))) 0 5 rfl (rfl) (fun _ _ _ b1 b2 => Option.some.inj (b1.symm.trans b2)) (List.mem_of_getElem? (i := 4) (by decide +kernel)) (fun _ => rfl) (by decide +kernel) (by decide +kernel) (by decide) ⟨by rw [hrm.1]; decide, by rw [hrm.2]; decide⟩ dX6_init_13 (fun q1 => ?_)
  refine z_cast (lv := [(0, .ref a)]) (ws := [(a, .inr (5, [.int 0, .ref q0, .null, .null])), (q0, .inl ((zy E).1 0, 5, .inl (fun _ => 0))), (q1, .inl ((zy E).1 0, 5, .inl (fun _ => 0)))]) (st := [.ref q1, .ref a]) ?_ rfl rfl rfl
  refine z_putF h 0 5 2 (ws' := [(a, .inr (5, [.int 0, .ref q0, .ref q1, .null])), (q0, .inl ((zy E).1 0, 5, .inl (fun _ => 0))), (q1, .inl ((zy E).1 0, 5, .inl (fun _ => 0)))]) tyX6 (.array .int) rfl rfl iX6_init_X6 tyX6_ok nmX6 (by decide) (List.mem_of_getElem? (i := 6) (by decide +kernel)) rfl rfl hf rfl (by decide +kernel) rfl rfl (Nat.le_of_ble_eq_true rfl) rfl dX6_init_15 ?_
  refine z_aload_n h 0 rfl dX6_init_18 ?_
  refine z_iconst h (nI 5) (by decide +kernel) dX6_init_19 ?_
  refine z_newa h (ty := .int) (cA := (zy E).1 0) (a0 := (5, .inl (fun _ => 0))) 0 5 rfl (rfl) (fun _ _ _ b1 b2 => Option.some.inj (b1.symm.trans b2)) (List.mem_of_getElem? (i := 4) (by decide +kernel)) (fun _ => rfl) (by decide +kernel) (by decide +kernel) (by decide) ⟨by rw [hrm.1]; decide, by rw [hrm.2]; decide⟩ dX6_init_20 (fun q2 => ?_)
  refine z_cast (lv := [(0, .ref a)]) (ws := [(a, .inr (5, [.int 0, .ref q0, .ref q1, .null])), (q0, .inl ((zy E).1 0, 5, .inl (fun _ => 0))), (q1, .inl ((zy E).1 0, 5, .inl (fun _ => 0))), (q2, .inl ((zy E).1 0, 5, .inl (fun _ => 0)))]) (st := [.ref q2, .ref a]) ?_ rfl rfl rfl
  refine z_putF h 0 5 3 (ws' := [(a, .inr (5, [.int 0, .ref q0, .ref q1, .ref q2])), (q0, .inl ((zy E).1 0, 5, .inl (fun _ => 0))), (q1, .inl ((zy E).1 0, 5, .inl (fun _ => 0))), (q2, .inl ((zy E).1 0, 5, .inl (fun _ => 0)))]) tyX6 (.array .int) rfl rfl iX6_init_X6 tyX6_ok nmX6 (by decide) (List.mem_of_getElem? (i := 7) (by decide +kernel)) rfl rfl hf rfl (by decide +kernel) rfl rfl (Nat.le_of_ble_eq_true rfl) rfl dX6_init_22 ?_
  exact g_vret h hf [q0, q1, q2] rfl rfl rfl rfl dX6_init_25

theorem iX1_init_X1 : ∀ w ∈ u_ws RX1 TX1 2, w ∈ wsX1_init := by decide +kernel
set_option maxHeartbeats 4000000 in
set_option maxRecDepth 100000 in
/-- the constructor of SnowSites$Ballots -/
theorem g_X1_init {l : Launch} {y : zY} {D : va_G} (a : Nat) : zG (fun _ => True) l y D yX1_init wsX1_init 1 13 1 60 [.ref a] [(a, .inr (0, [.int 0, .null]))] (fun qs => (zBa y (zq a qs) (fun _ _ => 0)).take 1) (fun qs => (zBa y (zq a qs) (fun _ _ => 0)).drop 1) 1 none := by
  refine g_start (own := RX1) (cc := cX1_init) (maxL := 1) (ret := none) rfl (by decide +kernel) rfl (Nat.le_of_ble_eq_true rfl) (fun _ => rfl) (fun qs hq => (show _ = (List.range 1).map (fun i => qs.getD i 0) from rfl).trans (qs_e hq)) ?_
  intro E hEl hEy hED h hf hX
  subst hEy
  have hrm := g_room hf
  refine z_cast (lv := [(0, .ref a)]) (ws := [(a, .inr (0, [.int 0, .null]))]) (st := []) ?_ rfl rfl rfl
  refine z_aload_n h 0 rfl dX1_init_0 ?_
  refine z_oinit h (List.mem_of_getElem? (i := 1) (by decide +kernel)) (List.mem_of_getElem? (i := 2) (by decide +kernel)) (List.mem_of_getElem? (i := 3) (by decide +kernel)) ⟨by decide, by decide⟩ dX1_init_1 ?_
  refine z_aload_n h 0 rfl dX1_init_4 ?_
  refine z_bipush h (nI 60) (by decide +kernel) dX1_init_5 ?_
  refine z_newa h (ty := .int) (cA := (zy E).1 0) (a0 := (60, .inl (fun _ => 0))) 0 60 rfl (rfl) (fun _ _ _ b1 b2 => Option.some.inj (b1.symm.trans b2)) (List.mem_of_getElem? (i := 4) (by decide +kernel)) (fun _ => rfl) (by decide +kernel) (by decide +kernel) (by decide) ⟨by rw [hrm.1]; decide, by rw [hrm.2]; decide⟩ dX1_init_7 (fun q0 => ?_)
  refine z_cast (lv := [(0, .ref a)]) (ws := [(a, .inr (0, [.int 0, .null])), (q0, .inl ((zy E).1 0, 60, .inl (fun _ => 0)))]) (st := [.ref q0, .ref a]) ?_ rfl rfl rfl
  refine z_putF h 0 0 1 (ws' := [(a, .inr (0, [.int 0, .ref q0])), (q0, .inl ((zy E).1 0, 60, .inl (fun _ => 0)))]) tyX1 (.array .int) rfl rfl iX1_init_X1 tyX1_ok nmX1 (by decide) (List.mem_of_getElem? (i := 5) (by decide +kernel)) rfl rfl hf rfl (by decide +kernel) rfl rfl (Nat.le_of_ble_eq_true rfl) rfl dX1_init_9 ?_
  exact g_vret h hf [q0] rfl rfl rfl rfl dX1_init_12

theorem iX2_init_X2 : ∀ w ∈ u_ws RX2 TX2 5, w ∈ wsX2_init := by decide +kernel
set_option maxHeartbeats 4000000 in
set_option maxRecDepth 100000 in
/-- the constructor of SnowSites$Count -/
theorem g_X2_init {l : Launch} {y : zY} {D : va_G} (a : Nat) : zG (fun _ => True) l y D yX2_init wsX2_init 1 13 2 72 [.ref a] [(a, .inr (1, [.int 0, .int 0, .int 0, .null, .null]))] (fun qs => (zCo y (zq a qs) cZ).take 1) (fun qs => (zCo y (zq a qs) cZ).drop 1) 2 none := by
  refine g_start (own := RX2) (cc := cX2_init) (maxL := 1) (ret := none) rfl (by decide +kernel) rfl (Nat.le_of_ble_eq_true rfl) (fun _ => rfl) (fun qs hq => (show _ = (List.range 2).map (fun i => qs.getD i 0) from rfl).trans (qs_e hq)) ?_
  intro E hEl hEy hED h hf hX
  subst hEy
  have hrm := g_room hf
  refine z_cast (lv := [(0, .ref a)]) (ws := [(a, .inr (1, [.int 0, .int 0, .int 0, .null, .null]))]) (st := []) ?_ rfl rfl rfl
  refine z_aload_n h 0 rfl dX2_init_0 ?_
  refine z_oinit h (List.mem_of_getElem? (i := 1) (by decide +kernel)) (List.mem_of_getElem? (i := 2) (by decide +kernel)) (List.mem_of_getElem? (i := 3) (by decide +kernel)) ⟨by decide, by decide⟩ dX2_init_1 ?_
  refine z_aload_n h 0 rfl dX2_init_4 ?_
  refine z_iconst h (-1) (by decide +kernel) dX2_init_5 ?_
  refine z_put h 0 1 1 (ws' := [(a, .inr (1, [.int 0, .int (-1), .int 0, .null, .null]))]) tyX2 .int rfl rfl iX2_init_X2 tyX2_ok nmX2 (by decide) (List.mem_of_getElem? (i := 4) (by decide +kernel)) rfl rfl (by decide +kernel) rfl rfl (Nat.le_of_ble_eq_true rfl) rfl dX2_init_6 ?_
  refine z_aload_n h 0 rfl dX2_init_9 ?_
  refine z_bipush h (nI 8) (by decide +kernel) dX2_init_10 ?_
  refine z_newa h (ty := .boolean) (cA := (zy E).1 1) (a0 := (8, .inl (fun _ => 0))) 1 8 rfl (rfl) (fun _ _ _ b1 b2 => Option.some.inj (b1.symm.trans b2)) (List.mem_of_getElem? (i := 5) (by decide +kernel)) (fun _ => rfl) (by decide +kernel) (by decide +kernel) (by decide) ⟨by rw [hrm.1]; decide, by rw [hrm.2]; decide⟩ dX2_init_12 (fun q0 => ?_)
  refine z_cast (lv := [(0, .ref a)]) (ws := [(a, .inr (1, [.int 0, .int (-1), .int 0, .null, .null])), (q0, .inl ((zy E).1 1, 8, .inl (fun _ => 0)))]) (st := [.ref q0, .ref a]) ?_ rfl rfl rfl
  refine z_putF h 0 1 3 (ws' := [(a, .inr (1, [.int 0, .int (-1), .int 0, .ref q0, .null])), (q0, .inl ((zy E).1 1, 8, .inl (fun _ => 0)))]) tyX2 (.array .boolean) rfl rfl iX2_init_X2 tyX2_ok nmX2 (by decide) (List.mem_of_getElem? (i := 6) (by decide +kernel)) rfl rfl hf rfl (by decide +kernel) rfl rfl (Nat.le_of_ble_eq_true rfl) rfl dX2_init_14 ?_
  refine z_aload_n h 0 rfl dX2_init_17 ?_
  refine z_bipush h (nI 64) (by decide +kernel) dX2_init_18 ?_
  refine z_newa h (ty := .int) (cA := (zy E).1 0) (a0 := (64, .inl (fun _ => 0))) 0 64 rfl (rfl) (fun _ _ _ b1 b2 => Option.some.inj (b1.symm.trans b2)) (List.mem_of_getElem? (i := 7) (by decide +kernel)) (fun _ => rfl) (by decide +kernel) (by decide +kernel) (by decide) ⟨by rw [hrm.1]; decide, by rw [hrm.2]; decide⟩ dX2_init_20 (fun q1 => ?_)
  refine z_cast (lv := [(0, .ref a)]) (ws := [(a, .inr (1, [.int 0, .int (-1), .int 0, .ref q0, .null])), (q0, .inl ((zy E).1 1, 8, .inl (fun _ => 0))), (q1, .inl ((zy E).1 0, 64, .inl (fun _ => 0)))]) (st := [.ref q1, .ref a]) ?_ rfl rfl rfl
  refine z_putF h 0 1 4 (ws' := [(a, .inr (1, [.int 0, .int (-1), .int 0, .ref q0, .ref q1])), (q0, .inl ((zy E).1 1, 8, .inl (fun _ => 0))), (q1, .inl ((zy E).1 0, 64, .inl (fun _ => 0)))]) tyX2 (.array .int) rfl rfl iX2_init_X2 tyX2_ok nmX2 (by decide) (List.mem_of_getElem? (i := 8) (by decide +kernel)) rfl rfl hf rfl (by decide +kernel) rfl rfl (Nat.le_of_ble_eq_true rfl) rfl dX2_init_22 ?_
  exact g_vret h hf [q0, q1] rfl rfl rfl rfl dX2_init_25

theorem iX3_init_X3 : ∀ w ∈ u_ws RX3 TX3 6, w ∈ wsX3_init := by decide +kernel
set_option maxHeartbeats 4000000 in
set_option maxRecDepth 100000 in
/-- the constructor of SnowSites$OrderText -/
theorem g_X3_init {l : Launch} {y : zY} {D : va_G} (a : Nat) : zG (fun _ => True) l y D yX3_init wsX3_init 1 13 2 154 [.ref a] [(a, .inr (2, [.int 0, .null, .null, .int 0, .int 0, .null]))] (fun qs => (zOt y (zq a qs) oZ).take 1) (fun qs => (zOt y (zq a qs) oZ).drop 1) 2 none := by
  refine g_start (own := RX3) (cc := cX3_init) (maxL := 1) (ret := none) rfl (by decide +kernel) rfl (Nat.le_of_ble_eq_true rfl) (fun _ => rfl) (fun qs hq => (show _ = (List.range 2).map (fun i => qs.getD i 0) from rfl).trans (qs_e hq)) ?_
  intro E hEl hEy hED h hf hX
  subst hEy
  have hrm := g_room hf
  refine z_cast (lv := [(0, .ref a)]) (ws := [(a, .inr (2, [.int 0, .null, .null, .int 0, .int 0, .null]))]) (st := []) ?_ rfl rfl rfl
  refine z_aload_n h 0 rfl dX3_init_0 ?_
  refine z_oinit h (List.mem_of_getElem? (i := 1) (by decide +kernel)) (List.mem_of_getElem? (i := 2) (by decide +kernel)) (List.mem_of_getElem? (i := 3) (by decide +kernel)) ⟨by decide, by decide⟩ dX3_init_1 ?_
  refine z_aload_n h 0 rfl dX3_init_4 ?_
  refine z_iconst h (nI 4) (by decide +kernel) dX3_init_5 ?_
  refine z_newa h (ty := .int) (cA := (zy E).1 0) (a0 := (4, .inl (fun _ => 0))) 0 4 rfl (rfl) (fun _ _ _ b1 b2 => Option.some.inj (b1.symm.trans b2)) (List.mem_of_getElem? (i := 4) (by decide +kernel)) (fun _ => rfl) (by decide +kernel) (by decide +kernel) (by decide) ⟨by rw [hrm.1]; decide, by rw [hrm.2]; decide⟩ dX3_init_6 (fun q0 => ?_)
  refine z_cast (lv := [(0, .ref a)]) (ws := [(a, .inr (2, [.int 0, .null, .null, .int 0, .int 0, .null])), (q0, .inl ((zy E).1 0, 4, .inl (fun _ => 0)))]) (st := [.ref q0, .ref a]) ?_ rfl rfl rfl
  refine z_putF h 0 2 2 (ws' := [(a, .inr (2, [.int 0, .null, .ref q0, .int 0, .int 0, .null])), (q0, .inl ((zy E).1 0, 4, .inl (fun _ => 0)))]) tyX3 (.array .int) rfl rfl iX3_init_X3 tyX3_ok nmX3 (by decide) (List.mem_of_getElem? (i := 5) (by decide +kernel)) rfl rfl hf rfl (by decide +kernel) rfl rfl (Nat.le_of_ble_eq_true rfl) rfl dX3_init_8 ?_
  refine z_aload_n h 0 rfl dX3_init_11 ?_
  refine z_iconst h (-1) (by decide +kernel) dX3_init_12 ?_
  refine z_put h 0 2 4 (ws' := [(a, .inr (2, [.int 0, .null, .ref q0, .int 0, .int (-1), .null])), (q0, .inl ((zy E).1 0, 4, .inl (fun _ => 0)))]) tyX3 .int rfl rfl iX3_init_X3 tyX3_ok nmX3 (by decide) (List.mem_of_getElem? (i := 6) (by decide +kernel)) rfl rfl (by decide +kernel) rfl rfl (Nat.le_of_ble_eq_true rfl) rfl dX3_init_13 ?_
  refine z_aload_n h 0 rfl dX3_init_16 ?_
  refine z_sipush h (nI 150) (by decide +kernel) dX3_init_17 ?_
  refine z_newa h (ty := .byte) (cA := (zy E).1 2) (a0 := (150, .inl (fun _ => 0))) 2 150 rfl (rfl) (fun _ _ _ b1 b2 => Option.some.inj (b1.symm.trans b2)) (List.mem_of_getElem? (i := 7) (by decide +kernel)) (fun _ => rfl) (by decide +kernel) (by decide +kernel) (by decide) ⟨by rw [hrm.1]; decide, by rw [hrm.2]; decide⟩ dX3_init_20 (fun q1 => ?_)
  refine z_cast (lv := [(0, .ref a)]) (ws := [(a, .inr (2, [.int 0, .null, .ref q0, .int 0, .int (-1), .null])), (q0, .inl ((zy E).1 0, 4, .inl (fun _ => 0))), (q1, .inl ((zy E).1 2, 150, .inl (fun _ => 0)))]) (st := [.ref q1, .ref a]) ?_ rfl rfl rfl
  refine z_putF h 0 2 5 (ws' := [(a, .inr (2, [.int 0, .null, .ref q0, .int 0, .int (-1), .ref q1])), (q0, .inl ((zy E).1 0, 4, .inl (fun _ => 0))), (q1, .inl ((zy E).1 2, 150, .inl (fun _ => 0)))]) tyX3 (.array .byte) rfl rfl iX3_init_X3 tyX3_ok nmX3 (by decide) (List.mem_of_getElem? (i := 8) (by decide +kernel)) rfl rfl hf rfl (by decide +kernel) rfl rfl (Nat.le_of_ble_eq_true rfl) rfl dX3_init_22 ?_
  exact g_vret h hf [q0, q1] rfl rfl rfl rfl dX3_init_25

theorem iX5_init_X5 : ∀ w ∈ u_ws RX5 TX5 10, w ∈ wsX5_init := by decide +kernel
theorem iX5_init_X1 : ∀ w ∈ u_ws RX1 TX1 2, w ∈ wsX5_init := by decide +kernel
theorem iX5_init_X4 : ∀ w ∈ u_ws RX4 TX4 7, w ∈ wsX5_init := by decide +kernel
theorem iX5_init_X6 : ∀ w ∈ u_ws RX6 TX6 4, w ∈ wsX5_init := by decide +kernel
set_option maxHeartbeats 4000000 in
set_option maxRecDepth 100000 in
/-- the constructor of SnowSites$State -/
theorem g_X5_init {l : Launch} {y : zY} {D : va_G} (a : Nat) : zG (fun _ => True) l y D yX5_init wsX5_init 2 33 15 267 [.ref a] [(a, .inr (4, [.int 0, .int 0, .int 0, .int 0, .int 0, .int 0, .null, .null, .null, .null]))] (fun qs => (zSa y (zq a qs) (fun _ _ => 0)).take 1) (fun qs => (zSa y (zq a qs) (fun _ _ => 0)).drop 1) 15 none := by
  refine g_start (own := RX5) (cc := cX5_init) (maxL := 1) (ret := none) rfl (by decide +kernel) rfl (Nat.le_of_ble_eq_true rfl) (fun _ => rfl) (fun qs hq => (show _ = (List.range 15).map (fun i => qs.getD i 0) from rfl).trans (qs_e hq)) ?_
  intro E hEl hEy hED h hf hX
  subst hEy
  have hrm := g_room hf
  refine z_cast (lv := [(0, .ref a)]) (ws := [(a, .inr (4, [.int 0, .int 0, .int 0, .int 0, .int 0, .int 0, .null, .null, .null, .null]))]) (st := []) ?_ rfl rfl rfl
  refine z_aload_n h 0 rfl dX5_init_0 ?_
  refine z_oinit h (List.mem_of_getElem? (i := 1) (by decide +kernel)) (List.mem_of_getElem? (i := 2) (by decide +kernel)) (List.mem_of_getElem? (i := 3) (by decide +kernel)) ⟨by decide, by decide⟩ dX5_init_1 ?_
  refine z_aload_n h 0 rfl dX5_init_4 ?_
  refine z_iconst h (nI 3) (by decide +kernel) dX5_init_5 ?_
  refine z_newa h (ty := .int) (cA := (zy E).1 0) (a0 := (3, .inl (fun _ => 0))) 0 3 rfl (rfl) (fun _ _ _ b1 b2 => Option.some.inj (b1.symm.trans b2)) (List.mem_of_getElem? (i := 4) (by decide +kernel)) (fun _ => rfl) (by decide +kernel) (by decide +kernel) (by decide) ⟨by rw [hrm.1]; decide, by rw [hrm.2]; decide⟩ dX5_init_6 (fun q0 => ?_)
  refine z_cast (lv := [(0, .ref a)]) (ws := [(a, .inr (4, [.int 0, .int 0, .int 0, .int 0, .int 0, .int 0, .null, .null, .null, .null])), (q0, .inl ((zy E).1 0, 3, .inl (fun _ => 0)))]) (st := [.ref q0, .ref a]) ?_ rfl rfl rfl
  refine z_putF h 0 4 6 (ws' := [(a, .inr (4, [.int 0, .int 0, .int 0, .int 0, .int 0, .int 0, .ref q0, .null, .null, .null])), (q0, .inl ((zy E).1 0, 3, .inl (fun _ => 0)))]) tyX5 (.array .int) rfl rfl iX5_init_X5 tyX5_ok nmX5 (by decide) (List.mem_of_getElem? (i := 5) (by decide +kernel)) rfl rfl hf rfl (by decide +kernel) rfl rfl (Nat.le_of_ble_eq_true rfl) rfl dX5_init_8 ?_
  refine z_aload_n h 0 rfl dX5_init_11 ?_
  refine z_new h tyX4 (fs := [.null, .null, .null, .null, .null, .null, .null]) (ci := 3) rfl iX5_init_X4 tyX4_ok (List.mem_of_getElem? (i := 6) (by decide +kernel)) (List.mem_of_getElem? (i := 7) (by decide +kernel)) (List.mem_of_getElem? (i := 8) (by decide +kernel)) (by decide +kernel) ⟨by rw [hrm.1]; decide, by rw [hrm.2]; decide⟩ dX5_init_12 (fun q1 => ?_)
  refine z_cast (lv := [(0, .ref a)]) (ws := [(a, .inr (4, [.int 0, .int 0, .int 0, .int 0, .int 0, .int 0, .ref q0, .null, .null, .null])), (q0, .inl ((zy E).1 0, 3, .inl (fun _ => 0))), (q1, .inr (3, [.null, .null, .null, .null, .null, .null, .null]))]) (st := [.ref q1, .ref a]) ?_ rfl rfl rfl
  refine z_dup h dX5_init_15 rfl ?_
  refine g_callIN h (fun _ _ _ z => z) trivial (mc := 7) (ms := 176) (nq := 7) (g_X4_init q1) gX5_init_X4_init_n17 (host := "SnowSites") (by decide +kernel) (List.mem_of_getElem? (i := 8) (by decide +kernel)) (List.mem_of_getElem? (i := 18) (by decide +kernel)) rfl ⟨by decide, by decide, by decide +kernel⟩ rfl ⟨by decide, by decide⟩ [2] rfl rfl (Nat.le_of_ble_eq_true rfl) dX5_init_16 ⟨by rw [hrm.1]; decide, by rw [hrm.2]; decide⟩ (fun s16 hs16 => ?_)
  refine z_cast (lv := [(0, .ref a)]) (ws := [(a, .inr (4, [.int 0, .int 0, .int 0, .int 0, .int 0, .int 0, .ref q0, .null, .null, .null])), (q0, .inl ((zy E).1 0, 3, .inl (fun _ => 0))), (q1, .inr (3, [.ref (s16.getD 0 0), .ref (s16.getD 1 0), .ref (s16.getD 2 0), .ref (s16.getD 3 0), .ref (s16.getD 4 0), .ref (s16.getD 5 0), .ref (s16.getD 6 0)])), (s16.getD 0 0, .inl ((zy E).1 0, 8, .inl (fun _ => 0))), (s16.getD 1 0, .inl ((zy E).1 0, 8, .inl (fun _ => 0))), (s16.getD 2 0, .inl ((zy E).1 0, 8, .inl (fun _ => 0))), (s16.getD 3 0, .inl ((zy E).1 0, 8, .inl (fun _ => 0))), (s16.getD 4 0, .inl ((zy E).1 0, 48, .inl (fun _ => 0))), (s16.getD 5 0, .inl ((zy E).1 0, 48, .inl (fun _ => 0))), (s16.getD 6 0, .inl ((zy E).1 0, 48, .inl (fun _ => 0)))]) (st := [.ref q1, .ref a]) ?_ rfl rfl rfl
  refine z_putF h 0 4 7 (ws' := [(a, .inr (4, [.int 0, .int 0, .int 0, .int 0, .int 0, .int 0, .ref q0, .ref q1, .null, .null])), (q0, .inl ((zy E).1 0, 3, .inl (fun _ => 0))), (q1, .inr (3, [.ref (s16.getD 0 0), .ref (s16.getD 1 0), .ref (s16.getD 2 0), .ref (s16.getD 3 0), .ref (s16.getD 4 0), .ref (s16.getD 5 0), .ref (s16.getD 6 0)])), (s16.getD 0 0, .inl ((zy E).1 0, 8, .inl (fun _ => 0))), (s16.getD 1 0, .inl ((zy E).1 0, 8, .inl (fun _ => 0))), (s16.getD 2 0, .inl ((zy E).1 0, 8, .inl (fun _ => 0))), (s16.getD 3 0, .inl ((zy E).1 0, 8, .inl (fun _ => 0))), (s16.getD 4 0, .inl ((zy E).1 0, 48, .inl (fun _ => 0))), (s16.getD 5 0, .inl ((zy E).1 0, 48, .inl (fun _ => 0))), (s16.getD 6 0, .inl ((zy E).1 0, 48, .inl (fun _ => 0)))]) tyX5 (.object "SnowSites$Stacks") rfl rfl iX5_init_X5 tyX5_ok nmX5 (by decide) (List.mem_of_getElem? (i := 9) (by decide +kernel)) rfl rfl hf rfl (by decide +kernel) rfl rfl (Nat.le_of_ble_eq_true rfl) rfl dX5_init_19 ?_
  refine z_aload_n h 0 rfl dX5_init_22 ?_
  refine z_new h tyX6 (fs := [.int 0, .null, .null, .null]) (ci := 5) rfl iX5_init_X6 tyX6_ok (List.mem_of_getElem? (i := 10) (by decide +kernel)) (List.mem_of_getElem? (i := 11) (by decide +kernel)) (List.mem_of_getElem? (i := 12) (by decide +kernel)) (by decide +kernel) ⟨by rw [hrm.1]; decide, by rw [hrm.2]; decide⟩ dX5_init_23 (fun q9 => ?_)
  refine z_cast (lv := [(0, .ref a)]) (ws := [(a, .inr (4, [.int 0, .int 0, .int 0, .int 0, .int 0, .int 0, .ref q0, .ref q1, .null, .null])), (q0, .inl ((zy E).1 0, 3, .inl (fun _ => 0))), (q1, .inr (3, [.ref (s16.getD 0 0), .ref (s16.getD 1 0), .ref (s16.getD 2 0), .ref (s16.getD 3 0), .ref (s16.getD 4 0), .ref (s16.getD 5 0), .ref (s16.getD 6 0)])), (s16.getD 0 0, .inl ((zy E).1 0, 8, .inl (fun _ => 0))), (s16.getD 1 0, .inl ((zy E).1 0, 8, .inl (fun _ => 0))), (s16.getD 2 0, .inl ((zy E).1 0, 8, .inl (fun _ => 0))), (s16.getD 3 0, .inl ((zy E).1 0, 8, .inl (fun _ => 0))), (s16.getD 4 0, .inl ((zy E).1 0, 48, .inl (fun _ => 0))), (s16.getD 5 0, .inl ((zy E).1 0, 48, .inl (fun _ => 0))), (s16.getD 6 0, .inl ((zy E).1 0, 48, .inl (fun _ => 0))), (q9, .inr (5, [.int 0, .null, .null, .null]))]) (st := [.ref q9, .ref a]) ?_ rfl rfl rfl
  refine z_dup h dX5_init_26 rfl ?_
  refine g_callIN h (fun _ _ _ z => z) trivial (mc := 3) (ms := 15) (nq := 3) (g_X6_init q9) gX5_init_X6_init_n24 (host := "SnowSites") (by decide +kernel) (List.mem_of_getElem? (i := 12) (by decide +kernel)) (List.mem_of_getElem? (i := 28) (by decide +kernel)) rfl ⟨by decide, by decide, by decide +kernel⟩ rfl ⟨by decide, by decide⟩ [10] rfl rfl (Nat.le_of_ble_eq_true rfl) dX5_init_27 ⟨by rw [hrm.1]; decide, by rw [hrm.2]; decide⟩ (fun s27 hs27 => ?_)
  refine z_cast (lv := [(0, .ref a)]) (ws := [(a, .inr (4, [.int 0, .int 0, .int 0, .int 0, .int 0, .int 0, .ref q0, .ref q1, .null, .null])), (q0, .inl ((zy E).1 0, 3, .inl (fun _ => 0))), (q1, .inr (3, [.ref (s16.getD 0 0), .ref (s16.getD 1 0), .ref (s16.getD 2 0), .ref (s16.getD 3 0), .ref (s16.getD 4 0), .ref (s16.getD 5 0), .ref (s16.getD 6 0)])), (s16.getD 0 0, .inl ((zy E).1 0, 8, .inl (fun _ => 0))), (s16.getD 1 0, .inl ((zy E).1 0, 8, .inl (fun _ => 0))), (s16.getD 2 0, .inl ((zy E).1 0, 8, .inl (fun _ => 0))), (s16.getD 3 0, .inl ((zy E).1 0, 8, .inl (fun _ => 0))), (s16.getD 4 0, .inl ((zy E).1 0, 48, .inl (fun _ => 0))), (s16.getD 5 0, .inl ((zy E).1 0, 48, .inl (fun _ => 0))), (s16.getD 6 0, .inl ((zy E).1 0, 48, .inl (fun _ => 0))), (q9, .inr (5, [.int 0, .ref (s27.getD 0 0), .ref (s27.getD 1 0), .ref (s27.getD 2 0)])), (s27.getD 0 0, .inl ((zy E).1 0, 5, .inl (fun _ => 0))), (s27.getD 1 0, .inl ((zy E).1 0, 5, .inl (fun _ => 0))), (s27.getD 2 0, .inl ((zy E).1 0, 5, .inl (fun _ => 0)))]) (st := [.ref q9, .ref a]) ?_ rfl rfl rfl
  refine z_putF h 0 4 8 (ws' := [(a, .inr (4, [.int 0, .int 0, .int 0, .int 0, .int 0, .int 0, .ref q0, .ref q1, .ref q9, .null])), (q0, .inl ((zy E).1 0, 3, .inl (fun _ => 0))), (q1, .inr (3, [.ref (s16.getD 0 0), .ref (s16.getD 1 0), .ref (s16.getD 2 0), .ref (s16.getD 3 0), .ref (s16.getD 4 0), .ref (s16.getD 5 0), .ref (s16.getD 6 0)])), (s16.getD 0 0, .inl ((zy E).1 0, 8, .inl (fun _ => 0))), (s16.getD 1 0, .inl ((zy E).1 0, 8, .inl (fun _ => 0))), (s16.getD 2 0, .inl ((zy E).1 0, 8, .inl (fun _ => 0))), (s16.getD 3 0, .inl ((zy E).1 0, 8, .inl (fun _ => 0))), (s16.getD 4 0, .inl ((zy E).1 0, 48, .inl (fun _ => 0))), (s16.getD 5 0, .inl ((zy E).1 0, 48, .inl (fun _ => 0))), (s16.getD 6 0, .inl ((zy E).1 0, 48, .inl (fun _ => 0))), (q9, .inr (5, [.int 0, .ref (s27.getD 0 0), .ref (s27.getD 1 0), .ref (s27.getD 2 0)])), (s27.getD 0 0, .inl ((zy E).1 0, 5, .inl (fun _ => 0))), (s27.getD 1 0, .inl ((zy E).1 0, 5, .inl (fun _ => 0))), (s27.getD 2 0, .inl ((zy E).1 0, 5, .inl (fun _ => 0)))]) tyX5 (.object "SnowSites$Tools") rfl rfl iX5_init_X5 tyX5_ok nmX5 (by decide) (List.mem_of_getElem? (i := 13) (by decide +kernel)) rfl rfl hf rfl (by decide +kernel) rfl rfl (Nat.le_of_ble_eq_true rfl) rfl dX5_init_30 ?_
  refine z_aload_n h 0 rfl dX5_init_33 ?_
  refine z_new h tyX1 (fs := [.int 0, .null]) (ci := 0) rfl iX5_init_X1 tyX1_ok (List.mem_of_getElem? (i := 14) (by decide +kernel)) (List.mem_of_getElem? (i := 15) (by decide +kernel)) (List.mem_of_getElem? (i := 16) (by decide +kernel)) (by decide +kernel) ⟨by rw [hrm.1]; decide, by rw [hrm.2]; decide⟩ dX5_init_34 (fun q13 => ?_)
  refine z_cast (lv := [(0, .ref a)]) (ws := [(a, .inr (4, [.int 0, .int 0, .int 0, .int 0, .int 0, .int 0, .ref q0, .ref q1, .ref q9, .null])), (q0, .inl ((zy E).1 0, 3, .inl (fun _ => 0))), (q1, .inr (3, [.ref (s16.getD 0 0), .ref (s16.getD 1 0), .ref (s16.getD 2 0), .ref (s16.getD 3 0), .ref (s16.getD 4 0), .ref (s16.getD 5 0), .ref (s16.getD 6 0)])), (s16.getD 0 0, .inl ((zy E).1 0, 8, .inl (fun _ => 0))), (s16.getD 1 0, .inl ((zy E).1 0, 8, .inl (fun _ => 0))), (s16.getD 2 0, .inl ((zy E).1 0, 8, .inl (fun _ => 0))), (s16.getD 3 0, .inl ((zy E).1 0, 8, .inl (fun _ => 0))), (s16.getD 4 0, .inl ((zy E).1 0, 48, .inl (fun _ => 0))), (s16.getD 5 0, .inl ((zy E).1 0, 48, .inl (fun _ => 0))), (s16.getD 6 0, .inl ((zy E).1 0, 48, .inl (fun _ => 0))), (q9, .inr (5, [.int 0, .ref (s27.getD 0 0), .ref (s27.getD 1 0), .ref (s27.getD 2 0)])), (s27.getD 0 0, .inl ((zy E).1 0, 5, .inl (fun _ => 0))), (s27.getD 1 0, .inl ((zy E).1 0, 5, .inl (fun _ => 0))), (s27.getD 2 0, .inl ((zy E).1 0, 5, .inl (fun _ => 0))), (q13, .inr (0, [.int 0, .null]))]) (st := [.ref q13, .ref a]) ?_ rfl rfl rfl
  refine z_dup h dX5_init_37 rfl ?_
  refine g_callIN h (fun _ _ _ z => z) trivial (mc := 1) (ms := 60) (nq := 1) (g_X1_init q13) gX5_init_X1_init_n31 (host := "SnowSites") (by decide +kernel) (List.mem_of_getElem? (i := 16) (by decide +kernel)) (List.mem_of_getElem? (i := 34) (by decide +kernel)) rfl ⟨by decide, by decide, by decide +kernel⟩ rfl ⟨by decide, by decide⟩ [14] rfl rfl (Nat.le_of_ble_eq_true rfl) dX5_init_38 ⟨by rw [hrm.1]; decide, by rw [hrm.2]; decide⟩ (fun s38 hs38 => ?_)
  refine z_cast (lv := [(0, .ref a)]) (ws := [(a, .inr (4, [.int 0, .int 0, .int 0, .int 0, .int 0, .int 0, .ref q0, .ref q1, .ref q9, .null])), (q0, .inl ((zy E).1 0, 3, .inl (fun _ => 0))), (q1, .inr (3, [.ref (s16.getD 0 0), .ref (s16.getD 1 0), .ref (s16.getD 2 0), .ref (s16.getD 3 0), .ref (s16.getD 4 0), .ref (s16.getD 5 0), .ref (s16.getD 6 0)])), (s16.getD 0 0, .inl ((zy E).1 0, 8, .inl (fun _ => 0))), (s16.getD 1 0, .inl ((zy E).1 0, 8, .inl (fun _ => 0))), (s16.getD 2 0, .inl ((zy E).1 0, 8, .inl (fun _ => 0))), (s16.getD 3 0, .inl ((zy E).1 0, 8, .inl (fun _ => 0))), (s16.getD 4 0, .inl ((zy E).1 0, 48, .inl (fun _ => 0))), (s16.getD 5 0, .inl ((zy E).1 0, 48, .inl (fun _ => 0))), (s16.getD 6 0, .inl ((zy E).1 0, 48, .inl (fun _ => 0))), (q9, .inr (5, [.int 0, .ref (s27.getD 0 0), .ref (s27.getD 1 0), .ref (s27.getD 2 0)])), (s27.getD 0 0, .inl ((zy E).1 0, 5, .inl (fun _ => 0))), (s27.getD 1 0, .inl ((zy E).1 0, 5, .inl (fun _ => 0))), (s27.getD 2 0, .inl ((zy E).1 0, 5, .inl (fun _ => 0))), (q13, .inr (0, [.int 0, .ref (s38.getD 0 0)])), (s38.getD 0 0, .inl ((zy E).1 0, 60, .inl (fun _ => 0)))]) (st := [.ref q13, .ref a]) ?_ rfl rfl rfl
  refine z_putF h 0 4 9 (ws' := [(a, .inr (4, [.int 0, .int 0, .int 0, .int 0, .int 0, .int 0, .ref q0, .ref q1, .ref q9, .ref q13])), (q0, .inl ((zy E).1 0, 3, .inl (fun _ => 0))), (q1, .inr (3, [.ref (s16.getD 0 0), .ref (s16.getD 1 0), .ref (s16.getD 2 0), .ref (s16.getD 3 0), .ref (s16.getD 4 0), .ref (s16.getD 5 0), .ref (s16.getD 6 0)])), (s16.getD 0 0, .inl ((zy E).1 0, 8, .inl (fun _ => 0))), (s16.getD 1 0, .inl ((zy E).1 0, 8, .inl (fun _ => 0))), (s16.getD 2 0, .inl ((zy E).1 0, 8, .inl (fun _ => 0))), (s16.getD 3 0, .inl ((zy E).1 0, 8, .inl (fun _ => 0))), (s16.getD 4 0, .inl ((zy E).1 0, 48, .inl (fun _ => 0))), (s16.getD 5 0, .inl ((zy E).1 0, 48, .inl (fun _ => 0))), (s16.getD 6 0, .inl ((zy E).1 0, 48, .inl (fun _ => 0))), (q9, .inr (5, [.int 0, .ref (s27.getD 0 0), .ref (s27.getD 1 0), .ref (s27.getD 2 0)])), (s27.getD 0 0, .inl ((zy E).1 0, 5, .inl (fun _ => 0))), (s27.getD 1 0, .inl ((zy E).1 0, 5, .inl (fun _ => 0))), (s27.getD 2 0, .inl ((zy E).1 0, 5, .inl (fun _ => 0))), (q13, .inr (0, [.int 0, .ref (s38.getD 0 0)])), (s38.getD 0 0, .inl ((zy E).1 0, 60, .inl (fun _ => 0)))]) tyX5 (.object "SnowSites$Ballots") rfl rfl iX5_init_X5 tyX5_ok nmX5 (by decide) (List.mem_of_getElem? (i := 17) (by decide +kernel)) rfl rfl hf rfl (by decide +kernel) rfl rfl (Nat.le_of_ble_eq_true rfl) rfl dX5_init_41 ?_
  exact g_vret h hf [q0, q1, s16.getD 0 0, s16.getD 1 0, s16.getD 2 0, s16.getD 3 0, s16.getD 4 0, s16.getD 5 0, s16.getD 6 0, q9, s27.getD 0 0, s27.getD 1 0, s27.getD 2 0, q13, s38.getD 0 0] rfl rfl rfl rfl dX5_init_44

