/-! the law's entry: what the Statement gives of the start -/
theorem en_arr {args : Array Value} {s : State} {ty : FieldType} (h : (Cond.arrayClass ty).before args s = true) : ∃ cA : ClassId, ArrOfT s cA ty ∧ s.vm.findClass ("[" ++ ty.toString) = some cA := by
  obtain ⟨c, k, comp, h1, h2, h3⟩ := Cond.arrayClass_spec h
  exact ⟨c, fun n z => ⟨(fun k h => by cases h), k, h2, comp, h3⟩, h1⟩
theorem en_obj {args : Array Value} {s : State} {C : String} (h : (Cond.arrayOver (.object C)).before args s = true) : ∃ cA : ClassId, ArrOfT s cA (.object C) ∧ va_RA s cA (.object C) := by
  obtain ⟨comp, c, k, h1, -, h2, h3, h4⟩ := Cond.arrayOver_spec h
  exact ⟨c, fun n z => ⟨(fun k h => by cases h), k, h2, comp, h3⟩, k, comp, h2, h3, h1, h4⟩
theorem en_zu {args : Array Value} {s : State} {C n d : String} {v v' : Value} {A : Nat → Prop} (h : va_Z C n d v A s s.heap) (hv : (Term.static C n d).eval args s none [] s = some v') : v = v' := by
  obtain ⟨cf, kf, fi, f, a, cell, hi, hst, -, ha, hcell, -, hs, -⟩ := h
  obtain ⟨hst', a', cell', ha', hcell', -, hslot⟩ := Term.static_spec hi hv
  cases ha.symm.trans ha'
  cases hcell.symm.trans hcell'
  exact Option.some.inj (hs.symm.trans hslot)
/-- the tables' words at the start -/
theorem tb_mem (ws : List Cond) (ps : List Nat) (h : ws = ps.filterMap (fun i => lw_tbl[i]?)) : ∀ w ∈ ws, w ∈ lw_tbl := fun w hw => by
  rw [h] at hw
  obtain ⟨i, -, hi⟩ := List.mem_filterMap.mp hw
  exact List.mem_of_getElem? hi
set_option maxRecDepth 100000 in
theorem en_tys : ∀ w ∈ [Cond.arrayClass .int, Cond.arrayClass .boolean, Cond.arrayClass .byte, Cond.arrayClass .long, Cond.arrayOver (.object "SnowSites$State")], w ∈ lw_tbl := tb_mem _ [138, 292, 267, 1290, 226] (by decide +kernel)
set_option maxRecDepth 100000 in
theorem en_ins : ∀ w ∈ [Cond.instantiable RX1 2, Cond.instantiable RX2 5, Cond.instantiable RX3 6, Cond.instantiable RX4 7, Cond.instantiable RX5 10, Cond.instantiable RX6 4, Cond.instantiable RX7 3, Cond.instantiable RX9 5, Cond.instantiable RX10 15], w ∈ lw_tbl := tb_mem _ [164, 269, 240, 104, 98, 140, 220, 90, 953] (by decide +kernel)
set_option maxRecDepth 100000 in
theorem en_u1 : ∀ w ∈ u_ws RX1 TX1 2, w ∈ lw_tbl := tb_mem _ [173, 175] (by decide +kernel)
set_option maxRecDepth 100000 in
theorem en_u2 : ∀ w ∈ u_ws RX2 TX2 5, w ∈ lw_tbl := tb_mem _ [281, 283, 285, 287, 289] (by decide +kernel)
set_option maxRecDepth 100000 in
theorem en_u3 : ∀ w ∈ u_ws RX3 TX3 6, w ∈ lw_tbl := tb_mem _ [254, 256, 258, 260, 262, 264] (by decide +kernel)
set_option maxRecDepth 100000 in
theorem en_u4 : ∀ w ∈ u_ws RX4 TX4 7, w ∈ lw_tbl := tb_mem _ [123, 125, 127, 129, 131, 133, 135] (by decide +kernel)
set_option maxRecDepth 100000 in
theorem en_u5 : ∀ w ∈ u_ws RX5 TX5 10, w ∈ lw_tbl := tb_mem _ [198, 200, 202, 204, 206, 208, 210, 212, 214, 216] (by decide +kernel)
set_option maxRecDepth 100000 in
theorem en_u6 : ∀ w ∈ u_ws RX6 TX6 4, w ∈ lw_tbl := tb_mem _ [154, 156, 158, 160] (by decide +kernel)
set_option maxRecDepth 100000 in
theorem en_u7 : ∀ w ∈ u_ws RX7 TX7 3, w ∈ lw_tbl := tb_mem _ [232, 234, 236] (by decide +kernel)
set_option maxRecDepth 100000 in
theorem en_u9 : ∀ w ∈ u_ws RX9 TX9 5, w ∈ lw_tbl := tb_mem _ [300, 302, 304, 306, 308] (by decide +kernel)
set_option maxRecDepth 100000 in
theorem en_u10 : ∀ w ∈ u_ws RX10 TX10 15, w ∈ lw_tbl := tb_mem _ [973, 975, 977, 979, 981, 983, 985, 987, 989, 991, 993, 995, 997, 999, 1001] (by decide +kernel)
theorem en_uws : (∀ w ∈ u_ws RX1 TX1 2, w ∈ lw_tbl) ∧ (∀ w ∈ u_ws RX2 TX2 5, w ∈ lw_tbl) ∧ (∀ w ∈ u_ws RX3 TX3 6, w ∈ lw_tbl) ∧ (∀ w ∈ u_ws RX4 TX4 7, w ∈ lw_tbl) ∧ (∀ w ∈ u_ws RX5 TX5 10, w ∈ lw_tbl) ∧ (∀ w ∈ u_ws RX6 TX6 4, w ∈ lw_tbl) ∧ (∀ w ∈ u_ws RX7 TX7 3, w ∈ lw_tbl) ∧ (∀ w ∈ u_ws RX9 TX9 5, w ∈ lw_tbl) ∧ (∀ w ∈ u_ws RX10 TX10 15, w ∈ lw_tbl) := ⟨en_u1, en_u2, en_u3, en_u4, en_u5, en_u6, en_u7, en_u9, en_u10⟩
set_option maxRecDepth 100000 in
theorem en_nest1 : ∀ w ∈ zNest, w ∈ lw_tbl := tb_mem _ [99, 105, 141, 165, 227, 241, 270, 294, 323, 336, 341, 346, 365, 420, 610, 492] (by decide +kernel)
theorem en_nest2 : ∀ w ∈ zNest, w.onTables = true := by decide +kernel
theorem en_nest : ∀ w ∈ zNest, w ∈ lw_tbl ∧ w.onTables = true := fun w h => ⟨en_nest1 w h, en_nest2 w h⟩
set_option maxRecDepth 100000 in
theorem en_cast_m : ∀ w ∈ zXs.map (fun t => Cond.castable t t), w ∈ lw_tbl := tb_mem _ [677, 772, 755] (by decide +kernel)
theorem en_cast : ∀ t ∈ zXs, Cond.castable t t ∈ lw_tbl := fun t h => en_cast_m _ (List.mem_map.mpr ⟨t, h, rfl⟩)
set_option maxRecDepth 100000 in
theorem en_dc_m : ∀ w ∈ zDc.map Cond.declares, w ∈ lw_tbl := tb_mem _ [679, 681, 683] (by decide +kernel)
theorem en_dc : ∀ x ∈ zDc, Cond.declares x ∈ lw_tbl := fun t h => en_dc_m _ (List.mem_map.mpr ⟨t, h, rfl⟩)
set_option maxRecDepth 100000 in
theorem en_str_m : ∀ w ∈ zStr.map (fun t => Cond.stringRef "SnowSites" t.1 t.2), w ∈ lw_tbl := tb_mem _ [791, 716, 799, 895, 910, 925, 934, 935, 947, 762, 769, 779] (by decide +kernel)
theorem en_str : ∀ t ∈ zStr, Cond.stringRef "SnowSites" t.1 t.2 ∈ lw_tbl := fun t h => en_str_m _ (List.mem_map.mpr ⟨t, h, rfl⟩)
set_option maxRecDepth 100000 in
theorem en_stat : ∀ w ∈ ([.laysStatic "SnowSites" "WORDS" "[LSnowSites$Word;", .initialized "SnowSites", .laysStatic "SnowSites$1" "$SwitchMap$SnowSites$Word" "[I", .initialized "SnowSites$1", .laysStatic "java/lang/String" "COMPACT_STRINGS" "Z", .initialized "java/lang/String", .laysStatic "jdk/internal/util/Preconditions" "SIOOBE_FORMATTER" "Ljava/util/function/BiFunction;", .initialized "jdk/internal/util/Preconditions", .laysStatic Bundle.tN "UNASSIGNED_STACK" Bundle.steD, .laysStatic Bundle.tN "SUPPRESSED_SENTINEL" Bundle.listD, .initialized Bundle.tN] : List Cond), w ∈ lw_tbl := tb_mem _ [493, 67, 569, 88, 507, 84, 523, 86, 702, 704, 76] (by decide +kernel)
set_option maxRecDepth 100000 in
theorem en_wst_m : ∀ w ∈ (List.range 9).map (fun i => Cond.laysStatic "SnowSites$Word" (zWn.getD i "") "LSnowSites$Word;"), w ∈ lw_tbl := tb_mem _ [1297, 1298, 1299, 1300, 1301, 1302, 1303, 1304, 1305] (by decide +kernel)
theorem en_wst : ∀ i, i < 9 → Cond.laysStatic "SnowSites$Word" (zWn.getD i "") "LSnowSites$Word;" ∈ lw_tbl := fun i hi => en_wst_m _ (List.mem_map.mpr ⟨i, List.mem_range.mpr hi, rfl⟩)
/-- the premises on values -/
def enF : List Cond := flatC (Jvm.Cond.and given_1 narrow_1)
def enK : List Nat := [59, 65, 68, 71, 74, 77, 80, 83, 86]
theorem en_mem (ws : List Cond) (ps : List Nat) (h : ws = ps.filterMap (fun i => enF[i]?)) : ∀ w ∈ ws, w ∈ enF := fun w hw => by
  rw [h] at hw
  obtain ⟨i, -, hi⟩ := List.mem_filterMap.mp hw
  exact List.mem_of_getElem? hi
set_option maxRecDepth 100000 in
theorem en_nc_m : ∀ w ∈ zNcs.map (fun t => Cond.not (.castable t.1 t.2)), w ∈ enF := en_mem _ [131, 142, 119, 143, 118, 130] (by decide +kernel)
theorem en_nc : ∀ t ∈ zNcs, Cond.not (.castable t.1 t.2) ∈ enF := fun t ht => en_nc_m _ (List.mem_map.mpr ⟨t, ht, rfl⟩)
set_option maxRecDepth 100000 in
theorem en_sx_m : ∀ w ∈ zStr.map (fun t => Cond.exactly (.string "SnowSites" t.1) "java/lang/String"), w ∈ enF := en_mem _ [255, 145, 292, 313, 340, 372, 405, 439, 475, 169, 194, 227] (by decide +kernel)
theorem en_sx : ∀ t ∈ zStr, Cond.exactly (.string "SnowSites" t.1) "java/lang/String" ∈ enF := fun t ht => en_sx_m _ (List.mem_map.mpr ⟨t, ht, rfl⟩)
set_option maxRecDepth 100000 in
theorem en_wex_m : ∀ w ∈ (List.range 9).map (fun i => Cond.exactly (.static "SnowSites$Word" (zWn.getD i "") "LSnowSites$Word;") "SnowSites$Word"), w ∈ enF := en_mem _ [37, 41, 46, 52, 59, 67, 76, 86, 97] (by decide +kernel)
theorem en_wex : ∀ i, i < 9 → Cond.exactly (.static "SnowSites$Word" (zWn.getD i "") "LSnowSites$Word;") "SnowSites$Word" ∈ enF := fun i hi => en_wex_m _ (List.mem_map.mpr ⟨i, List.mem_range.mpr hi, rfl⟩)
set_option maxRecDepth 100000 in
theorem en_wf0_m : ∀ w ∈ (List.range 9).map (fun i => Cond.eq (.field (.static "SnowSites$Word" (zWn.getD i "") "LSnowSites$Word;") "java/lang/Enum" "ordinal" "I") (.int (([0, 1, 2, 3, 4, 5, 6, 7, 8] : List Int32).getD i 0))), w ∈ enF := en_mem _ [38, 42, 47, 53, 60, 68, 77, 87, 98] (by decide +kernel)
theorem en_wf0 : ∀ i, i < 9 → Cond.eq (.field (.static "SnowSites$Word" (zWn.getD i "") "LSnowSites$Word;") "java/lang/Enum" "ordinal" "I") (.int (([0, 1, 2, 3, 4, 5, 6, 7, 8] : List Int32).getD i 0)) ∈ enF := fun i hi => en_wf0_m _ (List.mem_map.mpr ⟨i, List.mem_range.mpr hi, rfl⟩)
set_option maxRecDepth 100000 in
theorem en_wf1_m : ∀ w ∈ (List.range 9).map (fun i => Cond.eq (.field (.static "SnowSites$Word" (zWn.getD i "") "LSnowSites$Word;") "SnowSites$Word" "numbersBehind" "I") (.int (([1, 2, 2, 1, 4, 1, 1, 1, 0] : List Int32).getD i 0))), w ∈ enF := en_mem _ [40, 44, 49, 55, 62, 70, 79, 89, 100] (by decide +kernel)
theorem en_wf1 : ∀ i, i < 9 → Cond.eq (.field (.static "SnowSites$Word" (zWn.getD i "") "LSnowSites$Word;") "SnowSites$Word" "numbersBehind" "I") (.int (([1, 2, 2, 1, 4, 1, 1, 1, 0] : List Int32).getD i 0)) ∈ enF := fun i hi => en_wf1_m _ (List.mem_map.mpr ⟨i, List.mem_range.mpr hi, rfl⟩)
theorem en_wf : ∀ q ∈ zWf, ∀ i, i < 9 → Cond.eq (.field (.static "SnowSites$Word" (zWn.getD i "") "LSnowSites$Word;") q.1 q.2.1 q.2.2.1) (.int (q.2.2.2.getD i 0)) ∈ enF := fun q hq => by
  simp only [zWf, List.mem_cons, List.not_mem_nil, or_false] at hq
  rcases hq with rfl | rfl
  · exact en_wf0
  · exact en_wf1
def en_wne_p : List (Nat × Nat) := [(0, 1), (0, 2), (0, 3), (0, 4), (0, 5), (0, 6), (0, 7), (0, 8), (1, 2), (1, 3), (1, 4), (1, 5), (1, 6), (1, 7), (1, 8), (2, 3), (2, 4), (2, 5), (2, 6), (2, 7), (2, 8), (3, 4), (3, 5), (3, 6), (3, 7), (3, 8), (4, 5), (4, 6), (4, 7), (4, 8), (5, 6), (5, 7), (5, 8), (6, 7), (6, 8), (7, 8)]
set_option maxRecDepth 100000 in
theorem en_wne0_m : ∀ w ∈ en_wne_p.map (fun t => Cond.not (.eq (.static "SnowSites$Word" (zWn.getD t.1 "") "LSnowSites$Word;") (.static "SnowSites$Word" (zWn.getD t.2 "") "LSnowSites$Word;"))), w ∈ enF := en_mem _ [45, 50, 56, 63, 71, 80, 90, 101, 51, 57, 64, 72, 81, 91, 102, 58, 65, 73, 82, 92, 103, 66, 74, 83, 93, 104, 75, 84, 94, 105, 85, 95, 106, 96, 107, 108] (by decide +kernel)
theorem en_wne0 : ∀ t ∈ en_wne_p, Cond.not (.eq (.static "SnowSites$Word" (zWn.getD t.1 "") "LSnowSites$Word;") (.static "SnowSites$Word" (zWn.getD t.2 "") "LSnowSites$Word;")) ∈ enF := fun t ht => en_wne0_m _ (List.mem_map.mpr ⟨t, ht, rfl⟩)
theorem en_wne_c0 : ∀ i, i < 9 → ∀ j, j < 9 → (i = j ∨ ((i, j) ∈ en_wne_p ∨ (j, i) ∈ en_wne_p)) := by decide +kernel
theorem en_wne_c : ∀ i, i < 9 → ∀ j, j < 9 → i ≠ j → (i, j) ∈ en_wne_p ∨ (j, i) ∈ en_wne_p := fun i hi j hj e => (en_wne_c0 i hi j hj).resolve_left e
theorem en_wne : ∀ i, i < 9 → ∀ j, j < 9 → i ≠ j → (Cond.not (.eq (.static "SnowSites$Word" (zWn.getD i "") "LSnowSites$Word;") (.static "SnowSites$Word" (zWn.getD j "") "LSnowSites$Word;")) ∈ enF ∨ Cond.not (.eq (.static "SnowSites$Word" (zWn.getD j "") "LSnowSites$Word;") (.static "SnowSites$Word" (zWn.getD i "") "LSnowSites$Word;")) ∈ enF) := fun i hi j hj e => (en_wne_c i hi j hj e).imp (fun h => en_wne0 (i, j) h) (fun h => en_wne0 (j, i) h)
set_option maxRecDepth 100000 in
theorem en_wl_m : ∀ w ∈ (List.range 9).map (fun i => Cond.eq (.field (.static "SnowSites$Word" (zWn.getD i "") "LSnowSites$Word;") "SnowSites$Word" "letters" "Ljava/lang/String;") (.string "SnowSites$Word" (enK.getD i 0))), w ∈ enF := en_mem _ [39, 43, 48, 54, 61, 69, 78, 88, 99] (by decide +kernel)
theorem en_wl : ∀ i, i < 9 → Cond.eq (.field (.static "SnowSites$Word" (zWn.getD i "") "LSnowSites$Word;") "SnowSites$Word" "letters" "Ljava/lang/String;") (.string "SnowSites$Word" (enK.getD i 0)) ∈ enF := fun i hi => en_wl_m _ (List.mem_map.mpr ⟨i, List.mem_range.mpr hi, rfl⟩)
set_option maxRecDepth 100000 in
theorem en_k1a_m : ∀ w ∈ (List.range 9).map (fun i => Cond.exactly (.string "SnowSites$Word" (enK.getD i 0)) "java/lang/String"), w ∈ enF := en_mem _ [507, 527, 549, 572, 595, 620, 645, 670, 698] (by decide +kernel)
theorem en_k1a : ∀ i, i < 9 → Cond.exactly (.string "SnowSites$Word" (enK.getD i 0)) "java/lang/String" ∈ enF := fun i hi => en_k1a_m _ (List.mem_map.mpr ⟨i, List.mem_range.mpr hi, rfl⟩)
set_option maxRecDepth 100000 in
theorem en_k1b_m : ∀ w ∈ (List.range 9).map (fun i => Cond.eq (.field (.string "SnowSites$Word" (enK.getD i 0)) "java/lang/String" "coder" "B") (.int 0)), w ∈ enF := en_mem _ [508, 528, 550, 573, 596, 621, 646, 671, 699] (by decide +kernel)
theorem en_k1b : ∀ i, i < 9 → Cond.eq (.field (.string "SnowSites$Word" (enK.getD i 0)) "java/lang/String" "coder" "B") (.int 0) ∈ enF := fun i hi => en_k1b_m _ (List.mem_map.mpr ⟨i, List.mem_range.mpr hi, rfl⟩)
set_option maxRecDepth 100000 in
theorem en_k1c_m : ∀ w ∈ (List.range 9).map (fun i => Cond.arrayOf (.field (.string "SnowSites$Word" (enK.getD i 0)) "java/lang/String" "value" "[B") .byte), w ∈ enF := en_mem _ [509, 529, 551, 574, 597, 622, 647, 672, 700] (by decide +kernel)
theorem en_k1c : ∀ i, i < 9 → Cond.arrayOf (.field (.string "SnowSites$Word" (enK.getD i 0)) "java/lang/String" "value" "[B") .byte ∈ enF := fun i hi => en_k1c_m _ (List.mem_map.mpr ⟨i, List.mem_range.mpr hi, rfl⟩)
set_option maxRecDepth 100000 in
theorem en_k1d_m : ∀ w ∈ (List.range 9).map (fun i => Cond.eq (.length (.field (.string "SnowSites$Word" (enK.getD i 0)) "java/lang/String" "value" "[B")) (.int (Int32.ofNat (zWl.getD i 0)))), w ∈ enF := en_mem _ [510, 530, 552, 575, 598, 623, 648, 673, 701] (by decide +kernel)
theorem en_k1d : ∀ i, i < 9 → Cond.eq (.length (.field (.string "SnowSites$Word" (enK.getD i 0)) "java/lang/String" "value" "[B")) (.int (Int32.ofNat (zWl.getD i 0))) ∈ enF := fun i hi => en_k1d_m _ (List.mem_map.mpr ⟨i, List.mem_range.mpr hi, rfl⟩)
def en_k2_p : List (Nat × Nat) := [(0, 0), (0, 1), (0, 2), (0, 3), (1, 0), (1, 1), (1, 2), (1, 3), (1, 4), (2, 0), (2, 1), (2, 2), (2, 3), (2, 4), (3, 0), (3, 1), (3, 2), (3, 3), (4, 0), (4, 1), (4, 2), (4, 3), (4, 4), (5, 0), (5, 1), (5, 2), (5, 3), (6, 0), (6, 1), (6, 2), (7, 0), (7, 1), (7, 2), (7, 3), (7, 4), (8, 0), (8, 1), (8, 2), (8, 3), (8, 4)]
set_option maxRecDepth 100000 in
theorem en_k20_m : ∀ w ∈ en_k2_p.map (fun t => Cond.eq (.elem (.field (.string "SnowSites$Word" (enK.getD t.1 0)) "java/lang/String" "value" "[B") (.int (Int32.ofNat t.2))) (.int ((zWb.getD t.1 []).getD t.2 0))), w ∈ enF := en_mem _ [511, 512, 513, 514, 531, 532, 533, 534, 535, 553, 554, 555, 556, 557, 576, 577, 578, 579, 599, 600, 601, 602, 603, 624, 625, 626, 627, 649, 650, 651, 674, 675, 676, 677, 678, 702, 703, 704, 705, 706] (by decide +kernel)
theorem en_k20 : ∀ t ∈ en_k2_p, Cond.eq (.elem (.field (.string "SnowSites$Word" (enK.getD t.1 0)) "java/lang/String" "value" "[B") (.int (Int32.ofNat t.2))) (.int ((zWb.getD t.1 []).getD t.2 0)) ∈ enF := fun t ht => en_k20_m _ (List.mem_map.mpr ⟨t, ht, rfl⟩)
theorem en_k2_c : ∀ i, i < 9 → ∀ j, j < zWl.getD i 0 → (i, j) ∈ en_k2_p := by decide +kernel
theorem en_k2 : ∀ i, i < 9 → ∀ j, j < zWl.getD i 0 → Cond.eq (.elem (.field (.string "SnowSites$Word" (enK.getD i 0)) "java/lang/String" "value" "[B") (.int (Int32.ofNat j))) (.int ((zWb.getD i []).getD j 0)) ∈ enF := fun i hi j hj => en_k20 (i, j) (en_k2_c i hi j hj)
def en_k3_p : List (Nat × Nat) := [(0, 1), (0, 2), (0, 3), (0, 4), (0, 5), (0, 6), (0, 7), (0, 8), (1, 2), (1, 3), (1, 4), (1, 5), (1, 6), (1, 7), (1, 8), (2, 3), (2, 4), (2, 5), (2, 6), (2, 7), (2, 8), (3, 4), (3, 5), (3, 6), (3, 7), (3, 8), (4, 5), (4, 6), (4, 7), (4, 8), (5, 6), (5, 7), (5, 8), (6, 7), (6, 8), (7, 8)]
set_option maxRecDepth 100000 in
theorem en_k30_m : ∀ w ∈ en_k3_p.map (fun t => Cond.not (.eq (.string "SnowSites$Word" (enK.getD t.1 0)) (.string "SnowSites$Word" (enK.getD t.2 0)))), w ∈ enF := en_mem _ [548, 570, 592, 616, 640, 664, 691, 719, 571, 593, 617, 641, 665, 692, 720, 594, 618, 642, 666, 693, 721, 619, 643, 667, 694, 722, 644, 668, 695, 723, 669, 696, 724, 697, 725, 726] (by decide +kernel)
theorem en_k30 : ∀ t ∈ en_k3_p, Cond.not (.eq (.string "SnowSites$Word" (enK.getD t.1 0)) (.string "SnowSites$Word" (enK.getD t.2 0))) ∈ enF := fun t ht => en_k30_m _ (List.mem_map.mpr ⟨t, ht, rfl⟩)
theorem en_k3_c0 : ∀ i, i < 9 → ∀ j, j < 9 → (i = j ∨ ((i, j) ∈ en_k3_p ∨ (j, i) ∈ en_k3_p)) := by decide +kernel
theorem en_k3_c : ∀ i, i < 9 → ∀ j, j < 9 → i ≠ j → (i, j) ∈ en_k3_p ∨ (j, i) ∈ en_k3_p := fun i hi j hj e => (en_k3_c0 i hi j hj).resolve_left e
theorem en_k3 : ∀ i, i < 9 → ∀ j, j < 9 → i ≠ j → (Cond.not (.eq (.string "SnowSites$Word" (enK.getD i 0)) (.string "SnowSites$Word" (enK.getD j 0))) ∈ enF ∨ Cond.not (.eq (.string "SnowSites$Word" (enK.getD j 0)) (.string "SnowSites$Word" (enK.getD i 0))) ∈ enF) := fun i hi j hj e => (en_k3_c i hi j hj e).imp (fun h => en_k30 (i, j) h) (fun h => en_k30 (j, i) h)
set_option maxRecDepth 100000 in
theorem en_v1 : ∀ w ∈ ([.arrayOf (.static "SnowSites" "WORDS" "[LSnowSites$Word;") (.object "SnowSites$Word"), .eq (.length (.static "SnowSites" "WORDS" "[LSnowSites$Word;")) (.int 9), .arrayOf (.static "SnowSites$1" "$SwitchMap$SnowSites$Word" "[I") .int, .eq (.length (.static "SnowSites$1" "$SwitchMap$SnowSites$Word" "[I")) (.int 9), .eq (.static "java/lang/String" "COMPACT_STRINGS" "Z") (.int 1), .isRef (.static "jdk/internal/util/Preconditions" "SIOOBE_FORMATTER" "Ljava/util/function/BiFunction;"), .isRef (.static Bundle.tN "UNASSIGNED_STACK" Bundle.steD), .isRef (.static Bundle.tN "SUPPRESSED_SENTINEL" Bundle.listD)] : List Cond), w ∈ enF := en_mem _ [6, 7, 24, 25, 18, 19, 35, 36] (by decide +kernel)
set_option maxRecDepth 100000 in
theorem en_v2a_m : ∀ w ∈ (List.range 9).map (fun i => Cond.eq (.elem (.static "SnowSites" "WORDS" "[LSnowSites$Word;") (.int (Int32.ofNat i))) (.static "SnowSites$Word" (zWn.getD i "") "LSnowSites$Word;")), w ∈ enF := en_mem _ [9, 10, 11, 12, 13, 14, 15, 16, 17] (by decide +kernel)
theorem en_v2a : ∀ i, i < 9 → Cond.eq (.elem (.static "SnowSites" "WORDS" "[LSnowSites$Word;") (.int (Int32.ofNat i))) (.static "SnowSites$Word" (zWn.getD i "") "LSnowSites$Word;") ∈ enF := fun i hi => en_v2a_m _ (List.mem_map.mpr ⟨i, List.mem_range.mpr hi, rfl⟩)
set_option maxRecDepth 100000 in
theorem en_v2b_m : ∀ w ∈ (List.range 9).map (fun i => Cond.eq (.elem (.static "SnowSites$1" "$SwitchMap$SnowSites$Word" "[I") (.int (Int32.ofNat i))) (.int (zSm.getD i 0))), w ∈ enF := en_mem _ [26, 27, 28, 29, 30, 31, 32, 33, 34] (by decide +kernel)
theorem en_v2b : ∀ i, i < 9 → Cond.eq (.elem (.static "SnowSites$1" "$SwitchMap$SnowSites$Word" "[I") (.int (Int32.ofNat i))) (.int (zSm.getD i 0)) ∈ enF := fun i hi => en_v2b_m _ (List.mem_map.mpr ⟨i, List.mem_range.mpr hi, rfl⟩)
