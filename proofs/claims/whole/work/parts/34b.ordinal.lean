/-! Word.ordinal(), walked by hand; the lists of words without 'initialized java/lang/Enum' -/
set_option maxHeartbeats 4000000 in
/-- the call of an accessor, walked by hand: no word on the initialisation of its class -/
theorem ord_st {p : Program} {l : Launch} {e : Env} {R : Room} {s : State} {m : MethodId} {args : Array Value} {below : List Frame} {meth : Method} {c : Code} {T : State} {locs : List Loc} {cells slots : Nat} (X : Stand p l e R s m args below meth c T locs cells slots) (hexec : p.tables.exec = Jvm.exec)
    {own C owner : String} {index j : Nat} {x y : MethodName} {bytes : ByteArray} {ref nm ds : String}
    (hown : s.vm.findClass own = some m.cls) (hlink : (Cond.methodLink own index x).before args s = true) (hsame : (Cond.sameMethod x.cls owner x.name x.desc).before args s = true)
    (hd0 : va_Decl s ⟨owner, x.name, x.desc⟩) (howner : owner ≠ "java/lang/invoke/MethodHandle" ∧ owner ≠ "java/lang/invoke/VarHandle")
    (hsel : (Cond.selects C x y).before args s = true) (hinst : (Cond.instanceMethod y).before args s = true) (hcode : (Cond.code y bytes 1 (some .int)).before args s = true) (hfl : (Cond.fieldLink y.cls j ref nm ds).before args s = true) (hplain : plainName y.cls = true)
    (v0 : decode bytes 0 = .ok (.aload_n 0, 1)) (v1 : decode bytes 1 = .ok (.getfield j, 3)) (v4 : decode bytes 4 = .ok (.ireturn, 1))
    {b : Addr} {cellB : Cell} (hcell : T.heap[b]? = some cellB) (hobj : cellB.vm.isStatics = false) (hcls : s.vm.findClass C = some cellB.cls)
    {cf i : Nat} {k : Class} {f : Field} (hi : s.fieldFound? ref nm ds = some (cf, k, i, f)) (hst : f.isStatic = false) (hknown : cellB.vm ≠ .unknown) {v : Int32} (hslot : cellB.slots[f.slot]? = some (.int v))
    {g : JFrame} (hg : g.method = m) (hsize : g.locals.size = c.maxLocals) {rest : List Value} (hlen : ∀ sig, parseMethodDescriptor x.desc = some sig → 0 = sig.parameters.length) (hstack : g.stack = .ref b :: rest) (hdg : decode c.code g.pc = .ok (.invokevirtual index, 3)) (hframes : 1 ≤ R.frames) (hlocals : 2 * g.monitorRoom + (rest.map fun v => v.category).sum + 12 ≤ R.locals) :
    ∃ vm', Stand p l e R s m args below meth c (T.setVm vm') locs cells slots ∧
      ∀ target, Steps p.tables e below ((T.setVm vm').setTop { g with pc := g.pc + 3, stack := .int v :: rest }) target → Steps p.tables e below (T.setTop g) target := by
  obtain ⟨r0, r, hn, hrm, hstR, hsigR⟩ := hd0
  obtain ⟨cn, ck, r1, hcn, hck, hni, hf, hn1⟩ := Cond.sameMethod_found hsame
  cases hn.symm.trans hn1
  obtain ⟨mk, methM, hnamed, hmethM, -, habM⟩ := Cond.instanceMethod_spec hinst
  obtain ⟨methM', cM, hmethM', hcM, hbM, hlM, hretM, hlockM, -, -⟩ := Cond.code_spec hnamed hcode
  cases hmethM.symm.trans hmethM'
  obtain ⟨c2, r2, m2, q1, q2, q3, q4, kP, hkP, hkPi⟩ := Cond.selects_spec hsel
  cases hcls.symm.trans q1
  cases hf.symm.trans q2
  cases hnamed.symm.trans q3
  have hselP : selectMethod e.platform s.vm cellB.cls r0 = .method mk := by rw [Launch.admits_selectMethod X.admits]; exact q4
  obtain ⟨vm₁, X₁, hstep₁⟩ := X.invokevirtualUp hexec hown hlink hsame howner hn hrm hstR (a := b) (cell := cellB) hcell
    (fun z h => by rw [h] at hobj; cases hobj) hselP hmethM habM hkP hkPi (g := g) hg (argsL := []) (rest := rest) (hlen _ hsigR) hstack hdg
  have hm₁ : (T.setVm vm₁).vm.method? mk = some methM := by rw [X₁.warmed.alike.method?]; exact hmethM
  have hplain₁ : (T.setVm vm₁).plainMethod mk := State.plainMethod.of_named (plainFor_of_name hplain) (X₁.named hnamed) hm₁
  have hAt₁ : At (T.setVm vm₁) ({ g with stack := rest } : JFrame).method c below := by rw [show ({ g with stack := rest } : JFrame).method = m from hg]; exact X₁.here
  have hU := hAt₁.enter #[.ref b] hm₁ hcM hplain₁
  rw [hlM] at hU
  have hfU : (((T.setVm vm₁).setTop { g with stack := rest }).pushFrame (.java (entryFrame mk #[.ref b] 1))).frames = .java (entryFrame mk #[.ref b] 1) :: .java { g with stack := rest } :: below := by
    rw [frames_entered (s := T.setVm vm₁) (g := { g with stack := rest }) X₁.here.top, X₁.tail]
  have hback : ∀ vm, ((((T.setVm vm₁).setTop { g with stack := rest }).pushFrame (.java (entryFrame mk #[.ref b] 1))).setVm vm).setFrames (.java { g with stack := rest } :: below) = (T.setVm vm).setTop { g with stack := rest } := by
    intro vm
    have h := setFrames_entered (s := T.setVm vm) (g := { g with stack := rest }) X.here.top (.java (entryFrame mk #[.ref b] 1))
    rw [show (T.setVm vm).frames.tail = below from X.tail] at h
    exact h
  have hstart : ∀ acts, (doInvoke e ((T.setVm vm₁).setTop { g with stack := rest }) acts mk #[.ref b]).1 = (((T.setVm vm₁).setTop { g with stack := rest }).pushFrame (.java (entryFrame mk #[.ref b] 1))).setTop { method := mk, pc := 0, locals := #[.val (.ref b)], stack := [], locked := none } := by
    intro acts
    rw [doInvoke_enter (g := { g with stack := rest }) X₁.here.top acts hm₁ hcM hlockM (X₁.notFull (g := { g with stack := rest }) hsize hframes (by rw [hlM]; show 2 * g.monitorRoom + (rest.map fun v => v.category).sum + (1 + 11) ≤ R.locals; omega)), hlM]
    rfl
  have hUvm : s.WarmedH (((T.setVm vm₁).setTop { g with stack := rest }).pushFrame (.java (entryFrame mk #[.ref b] 1))).vm := X₁.warmed
  have hUcell : (((T.setVm vm₁).setTop { g with stack := rest }).pushFrame (.java (entryFrame mk #[.ref b] 1))).heap[b]? = some cellB := hcell
  generalize (((T.setVm vm₁).setTop { g with stack := rest }).pushFrame (.java (entryFrame mk #[.ref b] 1))) = U at hU hfU hback hstart hUvm hUcell
  obtain ⟨ci', cfl, k', i', f', hi', hlinks, hright⟩ := Cond.fieldLink_spec (findClass_of_methodNamed hnamed) hfl e.platform X.magic
  cases hi.symm.trans hi'
  obtain ⟨hk, hff⟩ := State.fieldFound?_spec hi
  obtain ⟨vm₂, hW₂, stepB⟩ := Steps.getfieldCold hU hexec (f := { method := mk, pc := 1, locals := #[.val (.ref b)], stack := [.ref b], locked := none }) (by rw [hbM]; exact v1) hUvm hlinks hright hk hff hst rfl hUcell hknown hslot
  refine ⟨vm₂, X.noted hW₂, fun target hrest => hstep₁ target fun acts => ?_⟩
  rw [show (Value.ref b :: ([] : List Value)).toArray = #[.ref b] from rfl, hstart]
  jvm_step hU [hexec, hbM, v0, Value.isRef]
  refine stepB _ ?_
  have hU₂ := hU.setVm (vm' := vm₂) (hUvm.alike.symm.trans hW₂.alike)
  have hfU₂ : (U.setVm vm₂).frames = .java (entryFrame mk #[.ref b] 1) :: .java { g with stack := rest } :: below := hfU
  have hm₂ : (U.setVm vm₂).vm.method? mk = some methM := by show vm₂.method? mk = some methM; rw [hW₂.alike.method?]; exact hmethM
  have hcg : (U.setVm vm₂).code? ({ g with stack := rest } : JFrame).method = some c := by
    have h := (X.noted hW₂).here.code
    rw [State.code?_eq] at h ⊢
    rw [show ({ g with stack := rest } : JFrame).method = m from hg]
    exact h
  jvm_step hU₂ [hU₂.top, hexec, hbM, v4, hm₂, hretM]
  obtain ⟨f0, hf0⟩ := Option.isSome_iff_exists.mp hU₂.top
  refine ⟨_, State.topJava?_setTop _ hf0, v, [], rfl, methM, hm₂, .int, hretM, fun acts => ?_⟩
  rw [doReturn_leave (u := U.setVm vm₂) (g := { g with stack := rest }) (f := { method := mk, pc := 4, locals := #[.val (.ref b)], stack := [], locked := none }) (meth := methM) (cg := c) (ig := .invokevirtual index) (len := 3) acts hfU₂ hm₂ hlockM rfl rfl hcg hdg, hback]
  have e1 : narrow .int (Value.int v) = .int v := rfl
  rw [e1]
  simpa using hrest
/-- the words that the call asks -/
def wsOr (own : String) (ix : Nat) : List Cond := [.methodLink own ix ⟨"SnowSites$Word", "ordinal", "()I"⟩, .sameMethod "SnowSites$Word" "java/lang/Enum" "ordinal" "()I", .selects RX8 ⟨"SnowSites$Word", "ordinal", "()I"⟩ yJx29ce0_ordinal_8abf5, .instanceMethod yJx29ce0_ordinal_8abf5, .code yJx29ce0_ordinal_8abf5 cJx29ce0_ordinal_8abf5 1 (some .int), .fieldLink RJx29ce0 7 "java/lang/Enum" "ordinal" "I"]
theorem ord_sig : ∀ sig, parseMethodDescriptor "()I" = some sig → 0 = sig.parameters.length := by
  intro sig h
  have e : parseMethodDescriptor "()I" = some ⟨[], some .int⟩ := by decide +kernel
  rw [e] at h
  cases h
  rfl
theorem z_ord {E : zE} {own : String} {cc : ByteArray} {Ts : List Cond} {fr lo nL k n pc : Nat} {lv : List (Nat × Value)} {ws : va_W} {st : List Value} (h : zC E own cc Ts fr lo nL) {a ix : Nat} {v : Int32} (hz : ∀ (A : Nat → Prop) (U : State) (H : Heap), zV (zy E) A U H → va_O RX8 a A U H) (hf : ∀ (A : Nat → Prop) (U : State) (H : Heap), zV (zy E) A U H → va_OF "java/lang/Enum" "ordinal" "I" (.int v) a A U H) (hw : ∀ w ∈ wsOr own ix, w ∈ Ts) (hR : 1 ≤ fr ∧ (st.map fun v => v.category).sum + 12 ≤ lo) (hd : decode cc pc = .ok (.invokevirtual ix, 3)) (kk : Z E k n lv ws (pc + 3) (.int v :: st)) : Z E k n lv ws pc (.ref a :: st) := by
  obtain ⟨l, y, D, p, e, R, s, m, args, below, meth, c, nL, A, Q⟩ := E
  obtain ⟨hx, hb, hml, hown, hts, hK, hA, hfr, hlo, hnl, hN, hV⟩ := h
  subst hfr hlo hb
  have ok : ∀ w ∈ wsOr own ix, w.before args s = true := fun w h => hts w (hw w h)
  intro H locs ls hl hP hD hS T hT X
  subst hT
  obtain ⟨cf, kc, fi, f, cell, h1, h2, h3, h4, h5, -⟩ := (hf _ _ _ hV).kept hS.2.1
  obtain ⟨cell2, g1, g2, g3, -⟩ := (hz _ _ _ hV).kept hS.2.1
  cases h3.symm.trans g1
  have hc := ok (.code yJx29ce0_ordinal_8abf5 cJx29ce0_ordinal_8abf5 1 (some .int)) (by simp [wsOr])
  have hi := ok (.instanceMethod yJx29ce0_ordinal_8abf5) (by simp [wsOr])
  obtain ⟨vm', X', stp⟩ := ord_st X hx (own := own) (C := RX8) (owner := "java/lang/Enum") (index := ix) (j := 7) (x := ⟨"SnowSites$Word", "ordinal", "()I"⟩) (y := yJx29ce0_ordinal_8abf5) (ref := "java/lang/Enum") (nm := "ordinal") (ds := "I") hown (ok _ (by simp [wsOr])) (ok _ (by simp [wsOr])) (va_Decl.of hi hc) (by decide) (ok _ (by simp [wsOr])) hi hc (ok (.fieldLink RJx29ce0 7 "java/lang/Enum" "ordinal" "I") (by simp [wsOr])) (by decide +kernel) dJx29ce0_ordinal_8abf5_0 dJx29ce0_ordinal_8abf5_1 dJx29ce0_ordinal_8abf5_4
    h3 g2 g3 h1 h2 h4 h5 (g := F0 m pc ls (.ref a :: st)) rfl (hl.1.trans hml.symm) (rest := st) ord_sig rfl hd hR.1 (by have h2 := hR.2; show 2 * 0 + _ + 12 ≤ _; omega)
  obtain ⟨t, a1, b1⟩ := kk T.heap locs ls hl hP hD hS (T.setVm vm') rfl X'
  exact ⟨t, stp t a1, b1⟩
/-- in the place of Enum's initialisation: SnowSites' own -/
def sE (w : Cond) : Cond := match w with
  | .initialized c => if c = "java/lang/Enum" then .initialized "SnowSites" else .initialized c
  | w => w
def nE (w : Cond) : Bool := match w with
  | .initialized c => !(c == "java/lang/Enum")
  | _ => true
theorem sE_n {w : Cond} (h : nE w = true) : sE w = w := by
  cases w <;> first | rfl | skip
  rename_i c
  have h2 : ¬ c = "java/lang/Enum" := by simpa [nE] using h
  exact if_neg h2
theorem sE_ok {w : Cond} (h : (w.onTables && w.keeps) = true ∨ ∃ ty, w = .arrayClass ty) : ((sE w).onTables && (sE w).keeps) = true ∨ ∃ ty, sE w = .arrayClass ty := by
  by_cases q : nE w = true
  · rw [sE_n q]; exact h
  · cases w <;> first | exact absurd rfl q | skip
    rename_i c
    have h2 : c = "java/lang/Enum" := by simpa [nE] using q
    have e : sE (.initialized c) = .initialized "SnowSites" := if_pos h2
    rw [e]
    exact Or.inl rfl
theorem gM {Ts X : List Cond} (h : GoodIn Ts X) : GoodIn (Ts.map sE) (X.map sE) := fun w hw => by
  obtain ⟨w0, h1, rfl⟩ := List.mem_map.mp hw
  exact ⟨List.mem_map.mpr ⟨w0, (h w0 h1).1, rfl⟩, sE_ok (h w0 h1).2⟩
theorem sE_all : ∀ {X : List Cond}, X.all nE = true → X.map sE = X
  | [], _ => rfl
  | w :: X, h => by
    rw [List.all_cons, Bool.and_eq_true] at h
    rw [List.map_cons, sE_n h.1, sE_all h.2]
theorem gX {Ts X : List Cond} (h : GoodIn Ts X) (hX : X.all nE = true) : GoodIn (Ts.map sE) X := by
  have h1 := gM h
  rw [sE_all hX] at h1
  exact h1
theorem gMA {Ts A X : List Cond} (h : GoodIn Ts (A ++ X)) (hA : A.all nE = true) : GoodIn (Ts.map sE) (A ++ X.map sE) := by
  have h1 := gM h
  rw [List.map_append, sE_all hA] at h1
  exact h1
def eOR : List Cond := wsX9_orderRefusal.map sE
def eCO : List Cond := wsX9_carryOut.map sE
def eRO : List Cond := wsX9_runOrders.map sE
theorem egX9_orderRefusal_X9_snowRefusal : GoodIn eOR (wsV RX9 44 RX9 yX9_snowRefusal wsX9_snowRefusal) := gX gX9_orderRefusal_X9_snowRefusal (by decide +kernel)
theorem egX9_orderRefusal_X9_pressRefusal : GoodIn eOR (wsV RX9 63 RX9 yX9_pressRefusal wsX9_pressRefusal) := gX gX9_orderRefusal_X9_pressRefusal (by decide +kernel)
theorem egX9_orderRefusal_X9_stackRefusal : GoodIn eOR (wsV RX9 75 RX9 yX9_stackRefusal wsX9_stackRefusal) := gX gX9_orderRefusal_X9_stackRefusal (by decide +kernel)
theorem egX9_orderRefusal_X9_toolRefusal : GoodIn eOR (wsV RX9 97 RX9 yX9_toolRefusal wsX9_toolRefusal) := gX gX9_orderRefusal_X9_toolRefusal (by decide +kernel)
theorem egX9_orderRefusal_X9_carveRefusal : GoodIn eOR (wsV RX9 112 RX9 yX9_carveRefusal wsX9_carveRefusal) := gX gX9_orderRefusal_X9_carveRefusal (by decide +kernel)
theorem egX9_orderRefusal_X9_siteRefusal : GoodIn eOR (va_wsS RX9 87 yX9_siteRefusal wsX9_siteRefusal) := gX gX9_orderRefusal_X9_siteRefusal (by decide +kernel)
theorem egX9_orderRefusal_X9_hoursRefusal : GoodIn eOR (va_wsS RX9 352 yX9_hoursRefusal wsX9_hoursRefusal) := gX gX9_orderRefusal_X9_hoursRefusal (by decide +kernel)
theorem egX9_carryOut_X9_orderRefusal : GoodIn eCO (wsV RX9 338 RX9 yX9_orderRefusal eOR) := gMA (X := wsX9_orderRefusal) gX9_carryOut_X9_orderRefusal (by decide +kernel)
theorem egX9_carryOut_X5_takeSnow : GoodIn eCO (wsV RX9 56 RX5 yX5_takeSnow wsX5_takeSnow) := gX gX9_carryOut_X5_takeSnow (by decide +kernel)
theorem egX9_carryOut_X5_makeBlocks : GoodIn eCO (wsV RX9 67 RX5 yX5_makeBlocks wsX5_makeBlocks) := gX gX9_carryOut_X5_makeBlocks (by decide +kernel)
theorem egX9_carryOut_X5_putBlock : GoodIn eCO (wsV RX9 78 RX5 yX5_putBlock wsX5_putBlock) := gX gX9_carryOut_X5_putBlock (by decide +kernel)
theorem egX9_carryOut_X6_add : GoodIn eCO (wsV RX9 104 RX6 yX6_add wsX6_add) := gX gX9_carryOut_X6_add (by decide +kernel)
theorem egX9_carryOut_X5_cutOff : GoodIn eCO (wsV RX9 116 RX5 yX5_cutOff wsX5_cutOff) := gX gX9_carryOut_X5_cutOff (by decide +kernel)
theorem egX9_carryOut_X5_passHours : GoodIn eCO (wsV RX9 123 RX5 yX5_passHours wsX5_passHours) := gX gX9_carryOut_X5_passHours (by decide +kernel)
theorem egX9_carryOut_X5_putOffcutsBack : GoodIn eCO (wsV RX9 119 RX5 yX5_putOffcutsBack wsX5_putOffcutsBack) := gX gX9_carryOut_X5_putOffcutsBack (by decide +kernel)
theorem egX9_runOrders_X3_firstFault : GoodIn eRO (wsV RX9 269 RX3 yX3_firstFault wsX3_firstFault) := gX gX9_runOrders_X3_firstFault (by decide +kernel)
theorem egX9_runOrders_X7_push : GoodIn eRO (wsV RX9 52 RX7 yX7_push wsX7_push) := gX gX9_runOrders_X7_push (by decide +kernel)
theorem egX9_runOrders_X3_rewind : GoodIn eRO (wsV RX9 272 RX3 yX3_rewind wsX3_rewind) := gX gX9_runOrders_X3_rewind (by decide +kernel)
theorem egX9_runOrders_X3_readOrder : GoodIn eRO (wsV RX9 275 RX3 yX3_readOrder wsX3_readOrder) := gX gX9_runOrders_X3_readOrder (by decide +kernel)
theorem egX9_runOrders_X9_carryOut : GoodIn eRO (wsV RX9 286 RX9 yX9_carryOut eCO) := gMA (X := wsX9_carryOut) gX9_runOrders_X9_carryOut (by decide +kernel)
theorem oX9_orderRefusal : ∀ w ∈ wsOr RX9 347, w ∈ eOR := by decide +kernel
theorem oX9_carryOut : ∀ w ∈ wsOr RX9 347, w ∈ eCO := by decide +kernel
