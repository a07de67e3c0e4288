/-! the tables' words at the law's entry -/
theorem inlX1 : ∀ w ∈ wsX10, w ∈ wsL_law := fun _ h => List.mem_append_left _ (List.mem_append_left _ (List.mem_append_left _ (List.mem_append_left _ (List.mem_append_right _ h))))
theorem inX1 : ∀ w ∈ wsX10, w ∈ lw_tbl := fun w h => wsL_law_in w (inlX1 w h)
theorem inlX2 : ∀ w ∈ wsX20, w ∈ wsL_law := fun _ h => List.mem_append_left _ (List.mem_append_left _ (List.mem_append_left _ (List.mem_append_left _ (List.mem_append_left _ (List.mem_append_left _ (List.mem_append_left _ (List.mem_append_right _ h)))))))
theorem inX2 : ∀ w ∈ wsX20, w ∈ lw_tbl := fun w h => wsL_law_in w (inlX2 w h)
theorem inlX3 : ∀ w ∈ wsX30, w ∈ wsL_law := fun _ h => List.mem_append_left _ (List.mem_append_left _ (List.mem_append_left _ (List.mem_append_left _ (List.mem_append_left _ (List.mem_append_left _ (List.mem_append_left _ (List.mem_append_left _ (List.mem_append_right _ h))))))))
theorem inX3 : ∀ w ∈ wsX30, w ∈ lw_tbl := fun w h => wsL_law_in w (inlX3 w h)
theorem inlX4 : ∀ w ∈ wsX40, w ∈ wsL_law := fun _ h => List.mem_append_left _ (List.mem_append_left _ (List.mem_append_left _ (List.mem_append_left _ (List.mem_append_left _ (List.mem_append_left _ (List.mem_append_right _ h))))))
theorem inX4 : ∀ w ∈ wsX40, w ∈ lw_tbl := fun w h => wsL_law_in w (inlX4 w h)
theorem inlX5 : ∀ w ∈ wsX50, w ∈ wsL_law := fun _ h => List.mem_append_left _ (List.mem_append_left _ (List.mem_append_left _ (List.mem_append_left _ (List.mem_append_left _ (List.mem_append_left _ (List.mem_append_left _ (List.mem_append_left _ (List.mem_append_left _ (List.mem_append_left _ (List.mem_append_right _ h))))))))))
theorem inX5 : ∀ w ∈ wsX50, w ∈ lw_tbl := fun w h => wsL_law_in w (inlX5 w h)
theorem inlX6 : ∀ w ∈ wsX60, w ∈ wsL_law := fun _ h => List.mem_append_left _ (List.mem_append_left _ (List.mem_append_left _ (List.mem_append_left _ (List.mem_append_left _ (List.mem_append_right _ h)))))
theorem inX6 : ∀ w ∈ wsX60, w ∈ lw_tbl := fun w h => wsL_law_in w (inlX6 w h)
theorem inlX7 : ∀ w ∈ wsX70, w ∈ wsL_law := fun _ h => List.mem_append_left _ (List.mem_append_left _ (List.mem_append_left _ (List.mem_append_left _ (List.mem_append_left _ (List.mem_append_left _ (List.mem_append_left _ (List.mem_append_left _ (List.mem_append_left _ (List.mem_append_right _ h)))))))))
theorem inX7 : ∀ w ∈ wsX70, w ∈ lw_tbl := fun w h => wsL_law_in w (inlX7 w h)
theorem inlX9 : ∀ w ∈ wsX90, w ∈ wsL_law := fun _ h => List.mem_append_left _ (List.mem_append_left _ (List.mem_append_left _ (List.mem_append_left _ (List.mem_append_left _ (List.mem_append_left _ (List.mem_append_left _ (List.mem_append_left _ (List.mem_append_left _ (List.mem_append_left _ (List.mem_append_left _ (List.mem_append_right _ h)))))))))))
theorem inX9 : ∀ w ∈ wsX90, w ∈ lw_tbl := fun w h => wsL_law_in w (inlX9 w h)
theorem l0_in : ∀ w ∈ wsL_law0, w ∈ wsL_law := fun _ h => List.mem_append_left _ (List.mem_append_left _ (List.mem_append_left _ h))
theorem tb_mem (ws : List Cond) (ps : List Nat) (h : ws = ps.filterMap (fun i => lw_tbl[i]?)) : ∀ w ∈ ws, w ∈ lw_tbl := fun w hw => by
  rw [h] at hw
  obtain ⟨i, -, hi⟩ := List.mem_filterMap.mp hw
  exact List.mem_of_getElem? hi
set_option maxRecDepth 100000 in
theorem en_tys : ∀ w ∈ [Cond.arrayClass .int, Cond.arrayClass .boolean, Cond.arrayClass .byte, Cond.arrayOver (.object "SnowSites$State")], w ∈ lw_tbl := tb_mem _ [85, 234, 209, 173] (by decide +kernel)
set_option maxRecDepth 100000 in
theorem en_ins : ∀ w ∈ [Cond.instantiable RX1 2, Cond.instantiable RX2 5, Cond.instantiable RX3 6, Cond.instantiable RX4 7, Cond.instantiable RX5 10, Cond.instantiable RX6 4, Cond.instantiable RX7 3, Cond.instantiable RX9 5], w ∈ lw_tbl := tb_mem _ [111, 211, 187, 51, 45, 87, 167, 37] (by decide +kernel)
set_option maxRecDepth 100000 in
theorem en_nest1 : ∀ w ∈ zNest, w ∈ lw_tbl := tb_mem _ [46, 52, 88, 112, 174, 188, 212, 236, 374, 387, 392, 397, 427, 557, 635] (by decide +kernel)
theorem en_nest2 : ∀ w ∈ zNest, w.onTables = true := by decide +kernel
theorem en_nest : ∀ w ∈ zNest, w ∈ lw_tbl ∧ w.onTables = true := fun w h => ⟨en_nest1 w h, en_nest2 w h⟩
theorem el_mem (ws : List Cond) (ps : List Nat) (h : ws = ps.filterMap (fun i => wsL_law0[i]?)) : ∀ w ∈ ws, w ∈ wsL_law := fun w hw => by
  rw [h] at hw
  obtain ⟨i, -, hi⟩ := List.mem_filterMap.mp hw
  exact l0_in _ (List.mem_of_getElem? hi)
set_option maxRecDepth 20000 in
theorem en_lw : ∀ w ∈ [Cond.classLink RL 15 RX9, Cond.instantiable RX9 5, Cond.initialized RX9, Cond.methodLink RL 83 yX9_init, Cond.instanceMethod yX9_init], w ∈ wsL_law := el_mem _ [0, 1, 2, 3, 4] (by decide +kernel)
theorem en_arr {args : Array Value} {s : State} {ty : FieldType} (h : (Cond.arrayClass ty).before args s = true) : ∃ cA : ClassId, ArrOfT s cA ty ∧ s.vm.findClass ("[" ++ ty.toString) = some cA := by
  obtain ⟨c, k, comp, h1, h2, h3⟩ := Cond.arrayClass_spec h
  exact ⟨c, fun n z => ⟨(fun k h => by cases h), k, h2, comp, h3⟩, h1⟩
theorem en_obj {args : Array Value} {s : State} {C : String} (h : (Cond.arrayOver (.object C)).before args s = true) : ∃ cA : ClassId, ArrOfT s cA (.object C) ∧ va_RA s cA (.object C) := by
  obtain ⟨comp, c, k, h1, -, h2, h3, h4⟩ := Cond.arrayOver_spec h
  exact ⟨c, fun n z => ⟨(fun k h => by cases h), k, h2, comp, h3⟩, k, comp, h2, h3, h1, h4⟩
theorem en_N {args : Array Value} {s : State} (hts : ∀ w ∈ lw_tbl, w.before args s = true) : zN s := ⟨fun w hw => va_Nw.of (en_nest w hw).2 (hts w (en_nest w hw).1), trivial⟩
/-- the script, as the layer has it -/
def enY (b L : Nat) (xs : Nat → Int32) : Nat → Nat := fun k => if k = 100 then b else if k = 101 then L else if k < 102 then 0 else (xs (k - 102)).toBitVec.toNat
theorem nI_un (x : Int32) : nI x.toBitVec.toNat = x := by
  apply Int32.toBitVec_inj.mp
  show BitVec.ofNat 32 x.toBitVec.toNat = x.toBitVec
  exact (BitVec.ofNat_toNat 32 x.toBitVec).trans (BitVec.setWidth_eq _)
theorem en_V {s : State} {b L : Nat} {xs : Nat → Int32} {A : Nat → Prop} (hX : va_X b L xs s s.heap) (hA : ¬ A b) (y1 : Nat → ClassId) : zV (y1, enY b L xs) A s s.heap := by
  obtain ⟨scr, h1, h2, h3, h4, h5⟩ := hX
  refine ⟨scr, h1, h2, h3, Nat.le_of_eq h4.symm, by rw [h4]; rfl, fun j hj => ?_, hA⟩
  rw [h5 j hj]
  have e : enY b L xs (102 + j) = (xs j).toBitVec.toNat := by
    unfold enY
    rw [if_neg (by omega), if_neg (by omega), if_neg (by omega), Nat.add_sub_cancel_left]
  show some (Value.int (xs j)) = some (Value.int (nI (enY b L xs (102 + j))))
  rw [e, nI_un]
/-- the classes and arrays of the worlds -/
theorem en_K {args : Array Value} {s : State} (hts : ∀ w ∈ lw_tbl, w.before args s = true) : ∃ (D : va_G) (y1 : Nat → ClassId), ∀ y2 : Nat → Nat, va_K D vwCl (zTys (y1, y2)) s := by
  have ins : ∀ w ∈ [Cond.instantiable RX1 2, Cond.instantiable RX2 5, Cond.instantiable RX3 6, Cond.instantiable RX4 7, Cond.instantiable RX5 10, Cond.instantiable RX6 4, Cond.instantiable RX7 3, Cond.instantiable RX9 5], w.before args s = true := fun w hw => hts w (en_ins w hw)
  have tys : ∀ w ∈ [Cond.arrayClass .int, Cond.arrayClass .boolean, Cond.arrayClass .byte, Cond.arrayOver (.object "SnowSites$State")], w.before args s = true := fun w hw => hts w (en_tys w hw)
  obtain ⟨c1, i1, k1⟩ := u_known hts inX1 (ins _ (List.mem_of_getElem? (i := 0) rfl))
  obtain ⟨c2, i2, k2⟩ := u_known hts inX2 (ins _ (List.mem_of_getElem? (i := 1) rfl))
  obtain ⟨c3, i3, k3⟩ := u_known hts inX3 (ins _ (List.mem_of_getElem? (i := 2) rfl))
  obtain ⟨c4, i4, k4⟩ := u_known hts inX4 (ins _ (List.mem_of_getElem? (i := 3) rfl))
  obtain ⟨c5, i5, k5⟩ := u_known hts inX5 (ins _ (List.mem_of_getElem? (i := 4) rfl))
  obtain ⟨c6, i6, k6⟩ := u_known hts inX6 (ins _ (List.mem_of_getElem? (i := 5) rfl))
  obtain ⟨c7, i7, k7⟩ := u_known hts inX7 (ins _ (List.mem_of_getElem? (i := 6) rfl))
  obtain ⟨c9, i9, k9⟩ := u_known hts inX9 (ins _ (List.mem_of_getElem? (i := 7) rfl))
  obtain ⟨a0, b0, d0⟩ := en_arr (tys _ (List.mem_of_getElem? (i := 0) rfl))
  obtain ⟨a1, b1, d1⟩ := en_arr (tys _ (List.mem_of_getElem? (i := 1) rfl))
  obtain ⟨a2, b2, d2⟩ := en_arr (tys _ (List.mem_of_getElem? (i := 2) rfl))
  obtain ⟨a4, b4, d4⟩ := en_obj (tys _ (List.mem_of_getElem? (i := 3) rfl))
  refine ⟨(fun c => [c1, c2, c3, c4, c5, c6, c7, c9].getD c 0, fun c => [i1, i2, i3, i4, i5, i6, i7, i9].getD c (fun _ => 0)), fun k => [a0, a1, a2, a0, a4].getD k 0, fun y2 => ⟨fun c q hq => ?_, fun k q hq => ?_⟩⟩
  · have hc : c < 8 := (List.getElem?_eq_some_iff.mp hq).1
    rcases (show c = 0 ∨ c = 1 ∨ c = 2 ∨ c = 3 ∨ c = 4 ∨ c = 5 ∨ c = 6 ∨ c = 7 by omega) with rfl | rfl | rfl | rfl | rfl | rfl | rfl | rfl <;> cases hq
    · exact k1
    · exact k2
    · exact k3
    · exact k4
    · exact k5
    · exact k6
    · exact k7
    · exact k9
  · have hc : k < 5 := (List.getElem?_eq_some_iff.mp hq).1
    rcases (show k = 0 ∨ k = 1 ∨ k = 2 ∨ k = 3 ∨ k = 4 by omega) with rfl | rfl | rfl | rfl | rfl <;> cases hq
    · exact ⟨b0, d0⟩
    · exact ⟨b1, d1⟩
    · exact ⟨b2, d2⟩
    · exact ⟨b0, d0⟩
    · exact ⟨b4, d4⟩
