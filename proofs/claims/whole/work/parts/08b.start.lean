/-! the law's entry: what the Statement gives, in the layer's words -/
theorem ws_cg {ad ad' : Nat → Nat} {A : Nat → Prop} {U : State} {H : Heap} (h : zWs ad A U H) (e : ∀ i, i < 9 → ad' i = ad i) : zWs ad' A U H := ⟨fun i hi => by rw [e i hi]; exact h.1 i hi, trivial⟩
theorem ks_cg {N : Nat} {len : List Nat} {byt : List (List Int32)} {k k' v v' : Nat → Nat} {A : Nat → Prop} {U : State} {H : Heap} (h : vk_S N len byt k v A U H) (e1 : ∀ i, i < N → k' i = k i) (e2 : ∀ i, i < N → v' i = v i) : vk_S N len byt k' v' A U H := ⟨fun i hi => by rw [e1 i hi, e2 i hi]; exact h.1 i hi, fun i j hi hj q => h.2 i j hi hj (by rw [← e1 i hi, ← e1 j hj]; exact q)⟩
theorem t_cg {ty : FieldType} {t N : Nat} {f f' : Nat → Value} {A : Nat → Prop} {U : State} {H : Heap} (h : va_T ty t N f A U H) (e : ∀ j, j < N → f' j = f j) : va_T ty t N f' A U H := by
  obtain ⟨cell, h1, h2, h3, h4, h5, h6, h7⟩ := h
  exact ⟨cell, h1, h2, h3, h4, h5, fun j hj => by rw [e j hj]; exact h6 j hj, h7⟩
theorem en_N {args : Array Value} {s : State} (hts : ∀ w ∈ lw_tbl, w.before args s = true) (hg : ∀ w ∈ enF, w.before args s = true) : zN s := by
  refine ⟨fun w hw => va_Nw.of (en_nest w hw).2 (hts w (en_nest w hw).1), fun t ht => va_Nw.of rfl (hts _ (en_cast t ht)), fun t ht => va_Nc.of (hg _ (en_nc t ht)), fun t ht => ?_, fun x hx => va_Nw.of rfl (hts _ (en_dc x hx))⟩
  obtain ⟨a, c, cell, k, q1, -⟩ := Cond.exactly_spec (hg _ (en_sx t ht))
  exact ⟨a, vk_R.of (hts _ (en_str t ht)) q1⟩
/-- the addresses: words, their spellings, the two arrays -/
def enY (ad adK adV : Nat → Nat) (tW tS : Nat) : Nat → Nat := fun k => if k < 9 then ad k else if k = 10 then tW else if k = 11 then tS else if k < 20 then 0 else if k < 40 then adK (k - 20) else adV (k - 40)
theorem en_V {args : Array Value} {s : State} (hts : ∀ w ∈ lw_tbl, w.before args s = true) (hg : ∀ w ∈ enF, w.before args s = true) : ∃ y2 : Nat → Nat, ∀ y1 : Nat → ClassId, zV (y1, y2) (fun q => s.heap.size ≤ q) s s.heap := by
  have hA : ∀ a : Nat, a < s.heap.size → ¬ (fun q : Nat => s.heap.size ≤ q) a := fun a h q => Nat.lt_irrefl _ (Nat.lt_of_lt_of_le h q)
  have st : ∀ w ∈ ([.laysStatic "SnowSites" "WORDS" "[LSnowSites$Word;", .initialized "SnowSites", .laysStatic "SnowSites$1" "$SwitchMap$SnowSites$Word" "[I", .initialized "SnowSites$1", .laysStatic "java/lang/String" "COMPACT_STRINGS" "Z", .initialized "java/lang/String", .laysStatic "jdk/internal/util/Preconditions" "SIOOBE_FORMATTER" "Ljava/util/function/BiFunction;", .initialized "jdk/internal/util/Preconditions", .laysStatic Bundle.tN "UNASSIGNED_STACK" Bundle.steD, .laysStatic Bundle.tN "SUPPRESSED_SENTINEL" Bundle.listD, .initialized Bundle.tN] : List Cond), w.before args s = true := fun w hw => hts w (en_stat w hw)
  have vv : ∀ w ∈ ([.arrayOf (.static "SnowSites" "WORDS" "[LSnowSites$Word;") (.object "SnowSites$Word"), .eq (.length (.static "SnowSites" "WORDS" "[LSnowSites$Word;")) (.int 9), .arrayOf (.static "SnowSites$1" "$SwitchMap$SnowSites$Word" "[I") .int, .eq (.length (.static "SnowSites$1" "$SwitchMap$SnowSites$Word" "[I")) (.int 9), .eq (.static "java/lang/String" "COMPACT_STRINGS" "Z") (.int 1), .isRef (.static "jdk/internal/util/Preconditions" "SIOOBE_FORMATTER" "Ljava/util/function/BiFunction;"), .isRef (.static Bundle.tN "UNASSIGNED_STACK" Bundle.steD), .isRef (.static Bundle.tN "SUPPRESSED_SENTINEL" Bundle.listD)] : List Cond), w.before args s = true := fun w hw => hg w (en_v1 w hw)
  have h0 : ∀ i : Nat, ∃ t : Nat, i < 9 → (Term.static "SnowSites$Word" (zWn.getD i "") "LSnowSites$Word;").eval args s none [] s = some (.ref t) ∧ va_O "SnowSites$Word" t (fun q => s.heap.size ≤ q) s s.heap := by
    intro i
    by_cases hi : i < 9
    · obtain ⟨a, c, cell, k, q1, q2, q3, q4, q5, q6, -⟩ := Cond.exactly_spec (hg _ (en_wex i hi))
      exact ⟨a, fun _ => ⟨q1, cell, q3, q5, by rw [q6]; exact q2, hA a (Array.getElem?_eq_some_iff.mp q3).1⟩⟩
    · exact ⟨0, fun h => absurd h hi⟩
  obtain ⟨ad, had⟩ := Classical.axiomOfChoice h0
  have hw : ∀ i, i < 9 → (Term.static "SnowSites$Word" (zWn.getD i "") "LSnowSites$Word;").eval args s none [] s = some (.ref (ad i)) := fun i hi => (had i hi).1
  have hE : zWs ad (fun q => s.heap.size ≤ q) s s.heap := ⟨fun i hi => ⟨trivial, (had i hi).2, fun q hq => vk_OFof (hw i hi) (va_eqt (hg _ (en_wf q hq i hi))) hA⟩, trivial⟩
  have hlen : ∀ i : Nat, i < 9 → zWl.getD i 0 < 2 ^ 31 := by decide
  obtain ⟨adK, adV, hS, hev⟩ := vk_Sof (args := args) (s := s) (tm := fun i => .string "SnowSites$Word" (enK.getD i 0)) (N := 9) (len := zWl) (byt := zWb) (A := fun q => s.heap.size ≤ q) hlen (fun i hi => hg _ (en_k1a i hi)) (fun i hi => hg _ (en_k1b i hi)) (fun i hi => hg _ (en_k1c i hi)) (fun i hi => hg _ (en_k1d i hi)) (fun i hi j hj => hg _ (en_k2 i hi j hj)) (fun i j hi hj e => (en_k3 i hi j hj e).imp (fun h => hg _ h) (fun h => hg _ h)) hA
  obtain ⟨tW, hW1, hW2⟩ := va_Tof (args := args) (s := s) (tm := .static "SnowSites" "WORDS" "[LSnowSites$Word;") (ty := .object "SnowSites$Word") (N := 9) (f := fun j => .ref (ad j)) (A := fun q => s.heap.size ≤ q) (by decide) (vv _ (List.mem_of_getElem? (i := 0) rfl)) (va_eqt (vv _ (List.mem_of_getElem? (i := 1) rfl))) (fun j hj => va_eqv (hg _ (en_v2a j hj)) (hw j hj)) hA
  obtain ⟨tS, hS1, hS2⟩ := va_Tof (args := args) (s := s) (tm := .static "SnowSites$1" "$SwitchMap$SnowSites$Word" "[I") (ty := .int) (N := 9) (f := fun j => .int (zSm.getD j 0)) (A := fun q => s.heap.size ≤ q) (by decide) (vv _ (List.mem_of_getElem? (i := 2) rfl)) (va_eqt (vv _ (List.mem_of_getElem? (i := 3) rfl))) (fun j hj => va_eqt (hg _ (en_v2b j hj))) hA
  have e0 : ∀ i, i < 9 → enY ad adK adV tW tS i = ad i := fun i hi => if_pos hi
  have e20 : ∀ i, i < 9 → enY ad adK adV tW tS (20 + i) = adK i := fun i hi => by
    unfold enY
    rw [if_neg (by omega), if_neg (by omega), if_neg (by omega), if_neg (by omega), if_pos (by omega), Nat.add_sub_cancel_left]
  have e40 : ∀ i, i < 9 → enY ad adK adV tW tS (40 + i) = adV i := fun i hi => by
    unfold enY
    rw [if_neg (by omega), if_neg (by omega), if_neg (by omega), if_neg (by omega), if_neg (by omega), Nat.add_sub_cancel_left]
  refine ⟨enY ad adK adV tW tS, fun y1 => ⟨fun i hi => ?_, ws_cg hE (fun i hi => e0 i hi), ks_cg hS (fun i hi => e20 i hi) (fun i hi => e40 i hi), ?_, ?_, ?_, ?_, ?_, ?_, ?_, ?_⟩⟩
  · show va_OF "SnowSites$Word" "letters" "Ljava/lang/String;" (.ref (enY ad adK adV tW tS (20 + i))) (enY ad adK adV tW tS i) _ _ _
    rw [e20 i hi, e0 i hi]
    exact vk_OFof (hw i hi) (va_eqv (hg _ (en_wl i hi)) (hev i hi)) hA
  · exact va_Zref (st _ (List.mem_of_getElem? (i := 0) rfl)) (st _ (List.mem_of_getElem? (i := 1) rfl)) hW1 hA
  · exact t_cg hW2 (fun j hj => congrArg Value.ref (e0 j hj))
  · exact va_Zref (st _ (List.mem_of_getElem? (i := 2) rfl)) (st _ (List.mem_of_getElem? (i := 3) rfl)) hS1 hA
  · exact hS2
  · exact va_Zof (st _ (List.mem_of_getElem? (i := 4) rfl)) (st _ (List.mem_of_getElem? (i := 5) rfl)) (va_eqi (vv _ (List.mem_of_getElem? (i := 4) rfl))) hA
  · exact va_Zqof (st _ (List.mem_of_getElem? (i := 6) rfl)) (st _ (List.mem_of_getElem? (i := 7) rfl)) (vv _ (List.mem_of_getElem? (i := 5) rfl)) hA
  · exact vx_Zqof (st _ (List.mem_of_getElem? (i := 8) rfl)) (st _ (List.mem_of_getElem? (i := 10) rfl)) (vv _ (List.mem_of_getElem? (i := 6) rfl)) hA
  · exact vx_Zqof (st _ (List.mem_of_getElem? (i := 9) rfl)) (st _ (List.mem_of_getElem? (i := 10) rfl)) (vv _ (List.mem_of_getElem? (i := 7) rfl)) hA
/-- the classes and arrays of the worlds -/
theorem en_K {args : Array Value} {s : State} (hts : ∀ w ∈ lw_tbl, w.before args s = true) : ∃ (D : va_G) (y1 : Nat → ClassId), ∀ y2 : Nat → Nat, va_K D vwCl (zTys (y1, y2)) s := by
  have ins : ∀ w ∈ [Cond.instantiable RX1 2, Cond.instantiable RX2 5, Cond.instantiable RX3 6, Cond.instantiable RX4 7, Cond.instantiable RX5 10, Cond.instantiable RX6 4, Cond.instantiable RX7 3, Cond.instantiable RX9 5, Cond.instantiable RX10 15], w.before args s = true := fun w hw => hts w (en_ins w hw)
  have tys : ∀ w ∈ [Cond.arrayClass .int, Cond.arrayClass .boolean, Cond.arrayClass .byte, Cond.arrayClass .long, Cond.arrayOver (.object "SnowSites$State")], w.before args s = true := fun w hw => hts w (en_tys w hw)
  obtain ⟨u1, u2, u3, u4, u5, u6, u7, u9, u10⟩ := en_uws
  obtain ⟨c1, i1, k1⟩ := u_known hts u1 (ins _ (List.mem_of_getElem? (i := 0) rfl))
  obtain ⟨c2, i2, k2⟩ := u_known hts u2 (ins _ (List.mem_of_getElem? (i := 1) rfl))
  obtain ⟨c3, i3, k3⟩ := u_known hts u3 (ins _ (List.mem_of_getElem? (i := 2) rfl))
  obtain ⟨c4, i4, k4⟩ := u_known hts u4 (ins _ (List.mem_of_getElem? (i := 3) rfl))
  obtain ⟨c5, i5, k5⟩ := u_known hts u5 (ins _ (List.mem_of_getElem? (i := 4) rfl))
  obtain ⟨c6, i6, k6⟩ := u_known hts u6 (ins _ (List.mem_of_getElem? (i := 5) rfl))
  obtain ⟨c7, i7, k7⟩ := u_known hts u7 (ins _ (List.mem_of_getElem? (i := 6) rfl))
  obtain ⟨c9, i9, k9⟩ := u_known hts u9 (ins _ (List.mem_of_getElem? (i := 7) rfl))
  obtain ⟨c10, i10, k10⟩ := u_known hts u10 (ins _ (List.mem_of_getElem? (i := 8) rfl))
  obtain ⟨a0, b0, d0⟩ := en_arr (tys _ (List.mem_of_getElem? (i := 0) rfl))
  obtain ⟨a1, b1, d1⟩ := en_arr (tys _ (List.mem_of_getElem? (i := 1) rfl))
  obtain ⟨a2, b2, d2⟩ := en_arr (tys _ (List.mem_of_getElem? (i := 2) rfl))
  obtain ⟨a3, b3, d3⟩ := en_arr (tys _ (List.mem_of_getElem? (i := 3) rfl))
  obtain ⟨a4, b4, d4⟩ := en_obj (tys _ (List.mem_of_getElem? (i := 4) rfl))
  refine ⟨(fun c => [c1, c2, c3, c4, c5, c6, c7, c9, c10].getD c 0, fun c => [i1, i2, i3, i4, i5, i6, i7, i9, i10].getD c (fun _ => 0)), fun k => [a0, a1, a2, a3, a4].getD k 0, fun y2 => ⟨fun c q hq => ?_, fun k q hq => ?_⟩⟩
  · have hc : c < 9 := (List.getElem?_eq_some_iff.mp hq).1
    rcases (show c = 0 ∨ c = 1 ∨ c = 2 ∨ c = 3 ∨ c = 4 ∨ c = 5 ∨ c = 6 ∨ c = 7 ∨ c = 8 by omega) with rfl | rfl | rfl | rfl | rfl | rfl | rfl | rfl | rfl <;> cases hq
    · exact k1
    · exact k2
    · exact k3
    · exact k4
    · exact k5
    · exact k6
    · exact k7
    · exact k9
    · exact k10
  · have hc : k < 5 := (List.getElem?_eq_some_iff.mp hq).1
    rcases (show k = 0 ∨ k = 1 ∨ k = 2 ∨ k = 3 ∨ k = 4 by omega) with rfl | rfl | rfl | rfl | rfl <;> cases hq
    · exact ⟨b0, d0⟩
    · exact ⟨b1, d1⟩
    · exact ⟨b2, d2⟩
    · exact ⟨b3, d3⟩
    · exact ⟨b4, d4⟩
