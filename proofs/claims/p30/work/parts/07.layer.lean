def zNest : List Cond := [.methodLinkNest "SnowSites" 9 ⟨"SnowSites$State", "<init>", "()V"⟩ "SnowSites", .methodLinkNest "SnowSites$State" 17 ⟨"SnowSites$Stacks", "<init>", "()V"⟩ "SnowSites", .methodLinkNest "SnowSites$State" 24 ⟨"SnowSites$Tools", "<init>", "()V"⟩ "SnowSites", .methodLinkNest "SnowSites$State" 31 ⟨"SnowSites$Ballots", "<init>", "()V"⟩ "SnowSites", .methodLinkNest "SnowSites$UndoStack" 17 ⟨"SnowSites$State", "<init>", "()V"⟩ "SnowSites", .methodLinkNest "SnowSites" 25 ⟨"SnowSites$OrderText", "<init>", "()V"⟩ "SnowSites", .methodLinkNest "SnowSites" 32 ⟨"SnowSites$Count", "<init>", "()V"⟩ "SnowSites", .methodLinkNest "SnowSites" 39 ⟨"SnowSites$Stacks", "<init>", "()V"⟩ "SnowSites", .methodLinkNest "SnowSites$State" 55 ⟨"SnowSites", "copyRow", "([I[I)V"⟩ "SnowSites", .methodLinkNest "SnowSites$Stacks" 33 ⟨"SnowSites", "copyRow", "([I[I)V"⟩ "SnowSites", .methodLinkNest "SnowSites$Tools" 25 ⟨"SnowSites", "copyRow", "([I[I)V"⟩ "SnowSites", .methodLinkNest "SnowSites$Ballots" 19 ⟨"SnowSites", "copyRow", "([I[I)V"⟩ "SnowSites", .methodLinkNest "SnowSites$Stacks" 41 ⟨"SnowSites", "placeOf", "(II)I"⟩ "SnowSites", .methodLinkNest "SnowSites$Ballots" 23 ⟨"SnowSites", "isSite", "(I)Z"⟩ "SnowSites", .methodLinkNest "SnowSites$State" 80 ⟨"SnowSites", "placeOf", "(II)I"⟩ "SnowSites"]
abbrev zY : Type := (Nat → ClassId) × (Nat → Nat)
abbrev zTys (y : zY) : List (ClassId × FieldType) := [(y.1 0, .int), (y.1 1, .boolean), (y.1 2, .byte), (y.1 0, .int), (y.1 4, .object "SnowSites$State")]
/-- what is given beside the world: the script -/
def zV (y : zY) (A : Nat → Prop) (U : State) (H : Heap) : Prop := va_T .int (y.2 100) (y.2 101) (fun j => .int (nI (y.2 (102 + j)))) A U H
theorem zV.moved {y : zY} {A : Nat → Prop} {u U : State} {H : Heap} (hvm : u.vm.Alike U.vm) (h : zV y A u H) : zV y A U H := va_T.moved hvm h
theorem zV.kept {y : zY} {A : Nat → Prop} {U : State} {H H1 : Heap} (h : zV y A U H) (hq : ∀ a : Nat, a < H.size → ¬ A a → H1[a]? = H[a]?) : zV y A U H1 := va_T.kept h hq
theorem zV.narrow {y : zY} {A B : Nat → Prop} {U : State} {H : Heap} (h : zV y A U H) (hAB : ∀ q, B q → A q) : zV y B U H := va_T.narrow h hAB
def zN1 (U : State) : Prop := ∀ w ∈ zNest, va_Nw w U
def zN (U : State) : Prop := zN1 U ∧ True
theorem zN1.warm {s U : State} (hW : s.WarmedH U.vm) (h : zN1 s) : zN1 U := by
  intro w hw
  have hs := h w hw
  simp only [zNest, List.mem_cons, List.not_mem_nil, or_false] at hw
  rcases hw with rfl | rfl | rfl | rfl | rfl | rfl | rfl | rfl | rfl | rfl | rfl | rfl | rfl | rfl | rfl
  · exact va_Nw.warmM hW hs
  · exact va_Nw.warmM hW hs
  · exact va_Nw.warmM hW hs
  · exact va_Nw.warmM hW hs
  · exact va_Nw.warmM hW hs
  · exact va_Nw.warmM hW hs
  · exact va_Nw.warmM hW hs
  · exact va_Nw.warmM hW hs
  · exact va_Nw.warmM hW hs
  · exact va_Nw.warmM hW hs
  · exact va_Nw.warmM hW hs
  · exact va_Nw.warmM hW hs
  · exact va_Nw.warmM hW hs
  · exact va_Nw.warmM hW hs
  · exact va_Nw.warmM hW hs
theorem zN1.same {u U : State} (hv : u.vm = U.vm) (h : zN1 u) : zN1 U := by
  intro w hw
  have hs := h w hw
  simp only [zNest, List.mem_cons, List.not_mem_nil, or_false] at hw
  rcases hw with rfl | rfl | rfl | rfl | rfl | rfl | rfl | rfl | rfl | rfl | rfl | rfl | rfl | rfl | rfl
  · exact va_Nw.same rfl hv hs
  · exact va_Nw.same rfl hv hs
  · exact va_Nw.same rfl hv hs
  · exact va_Nw.same rfl hv hs
  · exact va_Nw.same rfl hv hs
  · exact va_Nw.same rfl hv hs
  · exact va_Nw.same rfl hv hs
  · exact va_Nw.same rfl hv hs
  · exact va_Nw.same rfl hv hs
  · exact va_Nw.same rfl hv hs
  · exact va_Nw.same rfl hv hs
  · exact va_Nw.same rfl hv hs
  · exact va_Nw.same rfl hv hs
  · exact va_Nw.same rfl hv hs
  · exact va_Nw.same rfl hv hs
theorem zN.warm {s U : State} (hW : s.WarmedH U.vm) (h : zN s) : zN U := ⟨zN1.warm hW h.1, trivial⟩
theorem zN.same {u U : State} (hv : u.vm = U.vm) (h : zN u) : zN U := ⟨zN1.same hv h.1, trivial⟩
/-- what a contract takes as given: the world, the tables of its cells, the statics, the nest words -/
def zB (y : zY) (D : va_G) (ws : va_W) (sz : Nat) (U : State) : Prop := U.heap.size = sz ∧ va_P D vwCl ws U.heap ∧ va_K D vwCl (zTys y) U ∧ va_D (fun _ => True) ws ∧ zN U ∧ zV y (va_A ws sz) U U.heap
def zQ (D : va_G) (ws' : va_W) (r : Option Value) (A : Nat → Prop) : Array Value → State → Outcome → State → Prop := fun _ st o t => (o = .returned r ∧ va_P D vwCl ws' t.heap) ∧ va_F A st t
/-- a contract: of the world ws the method makes the world ws', its answer is r; no cell is new -/
def zM (l : Launch) (y : zY) (D : va_G) (nm : MethodName) (T : List Cond) (fr lo : Nat) (as : List Value) (ws ws' : va_W) (r : Option Value) : Prop :=
  ws'.map Prod.fst = ws.map Prod.fst ∧ ∀ sz : Nat, Met l nm T ({ frames := fr, cells := 0, slots := 0, locals := lo }) (va_Pc as (zB y D ws sz)) (zQ D ws' r (va_A ws sz)) 0 0 (va_A ws sz)
/-- where a walk stands: launch, statics and tables, the method's body, its locals' number, what it may write, its end -/
abbrev zE : Type := Launch × zY × va_G × Program × Env × Room × State × MethodId × Array Value × List Frame × Method × Code × Nat × (Nat → Prop) × (State → Prop)
abbrev zl (E : zE) : Launch := E.1
abbrev zy (E : zE) : zY := E.2.1
abbrev zD (E : zE) : va_G := E.2.2.1
def Z (E : zE) (k n : Nat) (lv : List (Nat × Value)) (ws : va_W) (pc : Nat) (st : List Value) : Prop := match E with
  | (l, _, D, p, e, R, s, m, args, below, meth, c, nL, A, Q) => ∀ (H : Heap) (locs : List Loc) (ls : Array Slot), lv_has ls nL lv → va_P D vwCl ws H → va_D A ws → va_S A s.heap H locs → W p l e R s m args below meth c H locs k n Q (F0 m pc ls st)
/-- what holds all along a walk -/
def zC (E : zE) (own : String) (cc : ByteArray) (Ts : List Cond) (fr lo nL0 : Nat) : Prop := match E with
  | (l, y, D, p, e, R, s, m, args, below, meth, c, nL, A, Q) => p.tables.exec = Jvm.exec ∧ c.code = cc ∧ c.maxLocals = nL ∧ s.vm.findClass own = some m.cls ∧ (∀ w ∈ Ts, w.before args s = true) ∧ va_K D vwCl (zTys y) s ∧ (∀ q : Nat, s.heap.size ≤ q → A q) ∧ R.frames = fr ∧ R.locals = lo ∧ nL = nL0 ∧ zN s ∧ zV y A s s.heap
/-- how a walk may end: with this answer and this world -/
def zF (E : zE) (ret : Option FieldType) (ws' : va_W) (r : Option Value) : Prop := match E with
  | (l, y, D, p, e, R, s, m, args, below, meth, c, nL, A, Q) => meth.sig.returnType = ret ∧ meth.locks = false ∧ Q = MQ below (zQ D ws' r A) args s 0 0 A
theorem z_start {l : Launch} {y : zY} {D : va_G} {own : String} {nm : MethodName} {T T' : List Cond} {fr lo maxL : Nat} {as : List Value} {ws ws' : va_W} {r : Option Value} {cc : ByteArray} {ret : Option FieldType} (hcls : nm.cls = own) (hy : plainName nm.cls = true) (hT : T = Cond.code nm cc maxL ret :: T') (hlen : (lg_sl as).length ≤ maxL) (hmap : ws'.map Prod.fst = ws.map Prod.fst)
    (body : ∀ E : zE, zl E = l → zy E = y → zD E = D → zC E own cc T fr lo maxL → zF E ret ws' r → Z E 0 0 (lv_args 0 as) ws 0 []) : zM l y D nm T fr lo as ws ws' r := by
  refine ⟨hmap, fun sz => Met.ofW (cc := cc) (maxL := maxL) (ret := ret) hy hT ?_⟩
  intro p e s m args below meth c s₁ B hml hv
  obtain ⟨rfl, hsz, hP, hK, hD0, hN, hV⟩ := hv
  subst hsz
  have hown : s.vm.findClass own = some m.cls := by rw [← hcls]; exact findClass_of_methodNamed B.named
  have hl := lv_entry as (n := maxL) hlen
  rw [lg_entry_eq]
  refine body (l, y, D, p, e, (headSpec T ({ frames := fr, cells := 0, slots := 0, locals := lo })).room, s, m, as.toArray, below, meth, c, maxL, va_A ws s.heap.size, MQ below (zQ D ws' r (va_A ws s.heap.size)) as.toArray s 0 0 (va_A ws s.heap.size)) rfl rfl rfl ?_ ?_ s.heap [] _ hl hP (hD0.self) va_S.rf
  · exact ⟨B.exec, B.bytes, hml, hown, atoms_spec (ws := T) B.pre, hK, fun q h => Or.inr h, rfl, rfl, rfl, hN, hV⟩
  · exact ⟨B.returns, B.notSynchronized, rfl⟩

theorem z_iconst {E : zE} {own : String} {cc : ByteArray} {Ts : List Cond} {fr lo nL k n pc : Nat} {lv : List (Nat × Value)} {ws : va_W} {st : List Value} (h : zC E own cc Ts fr lo nL) {c0 : Int} (v : Int32) (hv : Int32.ofInt c0 = v) (hd : decode cc pc = .ok (.iconst c0, 1)) (kk : Z E k n lv ws (pc + 1) (.int v :: st)) : Z E k n lv ws pc (st) := by
  obtain ⟨l, y, D, p, e, R, s, m, args, below, meth, c, nL, A, Q⟩ := E
  obtain ⟨hx, hb, hml, hown, hts, hK, hA, hfr, hlo, hnl, hN, hV⟩ := h
  intro H locs ls hl hP hD hS
  exact lv_iconst hx hb hd hv (kk H locs ls hl hP hD hS)
theorem z_bipush {E : zE} {own : String} {cc : ByteArray} {Ts : List Cond} {fr lo nL k n pc : Nat} {lv : List (Nat × Value)} {ws : va_W} {st : List Value} (h : zC E own cc Ts fr lo nL) {c0 : Int} (v : Int32) (hv : (Int8.ofInt c0).toInt32 = v) (hd : decode cc pc = .ok (.bipush c0, 2)) (kk : Z E k n lv ws (pc + 2) (.int v :: st)) : Z E k n lv ws pc (st) := by
  obtain ⟨l, y, D, p, e, R, s, m, args, below, meth, c, nL, A, Q⟩ := E
  obtain ⟨hx, hb, hml, hown, hts, hK, hA, hfr, hlo, hnl, hN, hV⟩ := h
  intro H locs ls hl hP hD hS
  exact lv_bipush hx hb hd hv (kk H locs ls hl hP hD hS)
theorem z_sipush {E : zE} {own : String} {cc : ByteArray} {Ts : List Cond} {fr lo nL k n pc : Nat} {lv : List (Nat × Value)} {ws : va_W} {st : List Value} (h : zC E own cc Ts fr lo nL) {c0 : Int} (v : Int32) (hv : (Int16.ofInt c0).toInt32 = v) (hd : decode cc pc = .ok (.sipush c0, 3)) (kk : Z E k n lv ws (pc + 3) (.int v :: st)) : Z E k n lv ws pc (st) := by
  obtain ⟨l, y, D, p, e, R, s, m, args, below, meth, c, nL, A, Q⟩ := E
  obtain ⟨hx, hb, hml, hown, hts, hK, hA, hfr, hlo, hnl, hN, hV⟩ := h
  intro H locs ls hl hP hD hS
  exact lv_sipush hx hb hd hv (kk H locs ls hl hP hD hS)
theorem z_ldc {E : zE} {own : String} {cc : ByteArray} {Ts : List Cond} {fr lo nL k n pc : Nat} {lv : List (Nat × Value)} {ws : va_W} {st : List Value} (h : zC E own cc Ts fr lo nL) {ix : Nat} (v : Int32) (hw : Cond.constant own ix v ∈ Ts) (hd : decode cc pc = .ok (.ldc ix, 2)) (kk : Z E k n lv ws (pc + 2) (.int v :: st)) : Z E k n lv ws pc (st) := by
  obtain ⟨l, y, D, p, e, R, s, m, args, below, meth, c, nL, A, Q⟩ := E
  obtain ⟨hx, hb, hml, hown, hts, hK, hA, hfr, hlo, hnl, hN, hV⟩ := h
  intro H locs ls hl hP hD hS
  exact lv_ldc hx hb hown (hts _ hw) hd (kk H locs ls hl hP hD hS)
theorem z_ldc2 {E : zE} {own : String} {cc : ByteArray} {Ts : List Cond} {fr lo nL k n pc : Nat} {lv : List (Nat × Value)} {ws : va_W} {st : List Value} (h : zC E own cc Ts fr lo nL) {ix : Nat} (v : Int64) (hw : Cond.constantLong own ix v ∈ Ts) (hd : decode cc pc = .ok (.ldc2_w ix, 3)) (kk : Z E k n lv ws (pc + 3) (.long v :: st)) : Z E k n lv ws pc (st) := by
  obtain ⟨l, y, D, p, e, R, s, m, args, below, meth, c, nL, A, Q⟩ := E
  obtain ⟨hx, hb, hml, hown, hts, hK, hA, hfr, hlo, hnl, hN, hV⟩ := h
  intro H locs ls hl hP hD hS
  exact lv_ldc2 hx hb hown (hts _ hw) hd (kk H locs ls hl hP hD hS)
theorem z_iload_n {E : zE} {own : String} {cc : ByteArray} {Ts : List Cond} {fr lo nL k n pc : Nat} {lv : List (Nat × Value)} {ws : va_W} {st : List Value} (h : zC E own cc Ts fr lo nL) (i : Nat) {j : Fin 4} {x : Int32} (hv : lv[i]? = some ((j : Nat), .int x)) (hd : decode cc pc = .ok (.iload_n j, 1)) (kk : Z E k n lv ws (pc + 1) (.int x :: st)) : Z E k n lv ws pc (st) := by
  obtain ⟨l, y, D, p, e, R, s, m, args, below, meth, c, nL, A, Q⟩ := E
  obtain ⟨hx, hb, hml, hown, hts, hK, hA, hfr, hlo, hnl, hN, hV⟩ := h
  intro H locs ls hl hP hD hS
  exact lv_iload_n hx hb hd rfl (lv_at hl i hv) (kk H locs ls hl hP hD hS)
theorem z_iload {E : zE} {own : String} {cc : ByteArray} {Ts : List Cond} {fr lo nL k n pc : Nat} {lv : List (Nat × Value)} {ws : va_W} {st : List Value} (h : zC E own cc Ts fr lo nL) (i : Nat) {j : Nat} {x : Int32} (hv : lv[i]? = some (j, .int x)) (hd : decode cc pc = .ok (.iload j, 2)) (kk : Z E k n lv ws (pc + 2) (.int x :: st)) : Z E k n lv ws pc (st) := by
  obtain ⟨l, y, D, p, e, R, s, m, args, below, meth, c, nL, A, Q⟩ := E
  obtain ⟨hx, hb, hml, hown, hts, hK, hA, hfr, hlo, hnl, hN, hV⟩ := h
  intro H locs ls hl hP hD hS
  exact lv_iload hx hb hd (lv_at hl i hv) (kk H locs ls hl hP hD hS)
theorem z_lload_n {E : zE} {own : String} {cc : ByteArray} {Ts : List Cond} {fr lo nL k n pc : Nat} {lv : List (Nat × Value)} {ws : va_W} {st : List Value} (h : zC E own cc Ts fr lo nL) (i : Nat) {j : Fin 4} {x : Int64} (hv : lv[i]? = some ((j : Nat), .long x)) (hd : decode cc pc = .ok (.lload_n j, 1)) (kk : Z E k n lv ws (pc + 1) (.long x :: st)) : Z E k n lv ws pc (st) := by
  obtain ⟨l, y, D, p, e, R, s, m, args, below, meth, c, nL, A, Q⟩ := E
  obtain ⟨hx, hb, hml, hown, hts, hK, hA, hfr, hlo, hnl, hN, hV⟩ := h
  intro H locs ls hl hP hD hS
  exact lv_lload_n hx hb hd rfl (lv_at hl i hv) (kk H locs ls hl hP hD hS)
theorem z_lload {E : zE} {own : String} {cc : ByteArray} {Ts : List Cond} {fr lo nL k n pc : Nat} {lv : List (Nat × Value)} {ws : va_W} {st : List Value} (h : zC E own cc Ts fr lo nL) (i : Nat) {j : Nat} {x : Int64} (hv : lv[i]? = some (j, .long x)) (hd : decode cc pc = .ok (.lload j, 2)) (kk : Z E k n lv ws (pc + 2) (.long x :: st)) : Z E k n lv ws pc (st) := by
  obtain ⟨l, y, D, p, e, R, s, m, args, below, meth, c, nL, A, Q⟩ := E
  obtain ⟨hx, hb, hml, hown, hts, hK, hA, hfr, hlo, hnl, hN, hV⟩ := h
  intro H locs ls hl hP hD hS
  exact lv_lload hx hb hd (lv_at hl i hv) (kk H locs ls hl hP hD hS)
theorem z_aload_n {E : zE} {own : String} {cc : ByteArray} {Ts : List Cond} {fr lo nL k n pc : Nat} {lv : List (Nat × Value)} {ws : va_W} {st : List Value} (h : zC E own cc Ts fr lo nL) (i : Nat) {j : Fin 4} {x : Nat} (hv : lv[i]? = some ((j : Nat), .ref x)) (hd : decode cc pc = .ok (.aload_n j, 1)) (kk : Z E k n lv ws (pc + 1) (.ref x :: st)) : Z E k n lv ws pc (st) := by
  obtain ⟨l, y, D, p, e, R, s, m, args, below, meth, c, nL, A, Q⟩ := E
  obtain ⟨hx, hb, hml, hown, hts, hK, hA, hfr, hlo, hnl, hN, hV⟩ := h
  intro H locs ls hl hP hD hS
  exact lv_aload_n hx hb hd rfl (lv_at hl i hv) (kk H locs ls hl hP hD hS)
theorem z_aload {E : zE} {own : String} {cc : ByteArray} {Ts : List Cond} {fr lo nL k n pc : Nat} {lv : List (Nat × Value)} {ws : va_W} {st : List Value} (h : zC E own cc Ts fr lo nL) (i : Nat) {j : Nat} {x : Nat} (hv : lv[i]? = some (j, .ref x)) (hd : decode cc pc = .ok (.aload j, 2)) (kk : Z E k n lv ws (pc + 2) (.ref x :: st)) : Z E k n lv ws pc (st) := by
  obtain ⟨l, y, D, p, e, R, s, m, args, below, meth, c, nL, A, Q⟩ := E
  obtain ⟨hx, hb, hml, hown, hts, hK, hA, hfr, hlo, hnl, hN, hV⟩ := h
  intro H locs ls hl hP hD hS
  exact lv_aload hx hb hd (lv_at hl i hv) (kk H locs ls hl hP hD hS)
theorem z_istore_n {E : zE} {own : String} {cc : ByteArray} {Ts : List Cond} {fr lo nL k n pc : Nat} {lv : List (Nat × Value)} {ws : va_W} {st : List Value} (h : zC E own cc Ts fr lo nL) {j : Fin 4} {x : Int32} {lv' : List (Nat × Value)} (hn : (j : Nat) < nL) (hlv : ((j : Nat), .int x) :: lv.filter (fun q => !(q.1 == (j : Nat)) && !(q.1 + 1 == (j : Nat) && q.2.category == 2)) = lv') (hd : decode cc pc = .ok (.istore_n j, 1)) (kk : Z E k n lv' ws (pc + 1) st) : Z E k n lv ws pc (.int x :: st) := by
  obtain ⟨l, y, D, p, e, R, s, m, args, below, meth, c, nL, A, Q⟩ := E
  obtain ⟨hx, hb, hml, hown, hts, hK, hA, hfr, hlo, hnl, hN, hV⟩ := h
  subst hnl
  intro H locs ls hl hP hD hS
  exact lv_istore_n hx hb hd rfl hl hn hlv (fun ls hl => kk H locs ls hl hP hD hS)
theorem z_istore {E : zE} {own : String} {cc : ByteArray} {Ts : List Cond} {fr lo nL k n pc : Nat} {lv : List (Nat × Value)} {ws : va_W} {st : List Value} (h : zC E own cc Ts fr lo nL) {j : Nat} {x : Int32} {lv' : List (Nat × Value)} (hn : j < nL) (hlv : (j, .int x) :: lv.filter (fun q => !(q.1 == j) && !(q.1 + 1 == j && q.2.category == 2)) = lv') (hd : decode cc pc = .ok (.istore j, 2)) (kk : Z E k n lv' ws (pc + 2) st) : Z E k n lv ws pc (.int x :: st) := by
  obtain ⟨l, y, D, p, e, R, s, m, args, below, meth, c, nL, A, Q⟩ := E
  obtain ⟨hx, hb, hml, hown, hts, hK, hA, hfr, hlo, hnl, hN, hV⟩ := h
  subst hnl
  intro H locs ls hl hP hD hS
  exact lv_istore hx hb hd hl hn hlv (fun ls hl => kk H locs ls hl hP hD hS)
theorem z_astore_n {E : zE} {own : String} {cc : ByteArray} {Ts : List Cond} {fr lo nL k n pc : Nat} {lv : List (Nat × Value)} {ws : va_W} {st : List Value} (h : zC E own cc Ts fr lo nL) {j : Fin 4} {x : Nat} {lv' : List (Nat × Value)} (hn : (j : Nat) < nL) (hlv : ((j : Nat), .ref x) :: lv.filter (fun q => !(q.1 == (j : Nat)) && !(q.1 + 1 == (j : Nat) && q.2.category == 2)) = lv') (hd : decode cc pc = .ok (.astore_n j, 1)) (kk : Z E k n lv' ws (pc + 1) st) : Z E k n lv ws pc (.ref x :: st) := by
  obtain ⟨l, y, D, p, e, R, s, m, args, below, meth, c, nL, A, Q⟩ := E
  obtain ⟨hx, hb, hml, hown, hts, hK, hA, hfr, hlo, hnl, hN, hV⟩ := h
  subst hnl
  intro H locs ls hl hP hD hS
  exact lv_astore_n hx hb hd rfl hl hn hlv (fun ls hl => kk H locs ls hl hP hD hS)
theorem z_astore {E : zE} {own : String} {cc : ByteArray} {Ts : List Cond} {fr lo nL k n pc : Nat} {lv : List (Nat × Value)} {ws : va_W} {st : List Value} (h : zC E own cc Ts fr lo nL) {j : Nat} {x : Nat} {lv' : List (Nat × Value)} (hn : j < nL) (hlv : (j, .ref x) :: lv.filter (fun q => !(q.1 == j) && !(q.1 + 1 == j && q.2.category == 2)) = lv') (hd : decode cc pc = .ok (.astore j, 2)) (kk : Z E k n lv' ws (pc + 2) st) : Z E k n lv ws pc (.ref x :: st) := by
  obtain ⟨l, y, D, p, e, R, s, m, args, below, meth, c, nL, A, Q⟩ := E
  obtain ⟨hx, hb, hml, hown, hts, hK, hA, hfr, hlo, hnl, hN, hV⟩ := h
  subst hnl
  intro H locs ls hl hP hD hS
  exact lv_astore hx hb hd hl hn hlv (fun ls hl => kk H locs ls hl hP hD hS)
theorem z_lstore_n {E : zE} {own : String} {cc : ByteArray} {Ts : List Cond} {fr lo nL k n pc : Nat} {lv : List (Nat × Value)} {ws : va_W} {st : List Value} (h : zC E own cc Ts fr lo nL) {j : Fin 4} {x : Int64} {lv' : List (Nat × Value)} (hn : (j : Nat) + 1 < nL) (hlv : ((j : Nat), .long x) :: lv.filter (fun q => !(q.1 == (j : Nat)) && (!(q.1 == (j : Nat) + 1) && !(q.1 + 1 == (j : Nat) && q.2.category == 2))) = lv') (hd : decode cc pc = .ok (.lstore_n j, 1)) (kk : Z E k n lv' ws (pc + 1) st) : Z E k n lv ws pc (.long x :: st) := by
  obtain ⟨l, y, D, p, e, R, s, m, args, below, meth, c, nL, A, Q⟩ := E
  obtain ⟨hx, hb, hml, hown, hts, hK, hA, hfr, hlo, hnl, hN, hV⟩ := h
  subst hnl
  intro H locs ls hl hP hD hS
  exact lv_lstore_n hx hb hd rfl hl hn hlv (fun ls hl => kk H locs ls hl hP hD hS)
theorem z_lstore {E : zE} {own : String} {cc : ByteArray} {Ts : List Cond} {fr lo nL k n pc : Nat} {lv : List (Nat × Value)} {ws : va_W} {st : List Value} (h : zC E own cc Ts fr lo nL) {j : Nat} {x : Int64} {lv' : List (Nat × Value)} (hn : j + 1 < nL) (hlv : (j, .long x) :: lv.filter (fun q => !(q.1 == j) && (!(q.1 == j + 1) && !(q.1 + 1 == j && q.2.category == 2))) = lv') (hd : decode cc pc = .ok (.lstore j, 2)) (kk : Z E k n lv' ws (pc + 2) st) : Z E k n lv ws pc (.long x :: st) := by
  obtain ⟨l, y, D, p, e, R, s, m, args, below, meth, c, nL, A, Q⟩ := E
  obtain ⟨hx, hb, hml, hown, hts, hK, hA, hfr, hlo, hnl, hN, hV⟩ := h
  subst hnl
  intro H locs ls hl hP hD hS
  exact lv_lstore hx hb hd hl hn hlv (fun ls hl => kk H locs ls hl hP hD hS)
theorem z_iinc {E : zE} {own : String} {cc : ByteArray} {Ts : List Cond} {fr lo nL k n pc : Nat} {lv : List (Nat × Value)} {ws : va_W} {st : List Value} (h : zC E own cc Ts fr lo nL) (i : Nat) {j : Nat} {c0 : Int} {x : Int32} (v : Int32) {lv' : List (Nat × Value)} (hv : lv[i]? = some (j, .int x)) (he : x + Int32.ofInt c0 = v) (hn : j < nL) (hlv : (j, Value.int v) :: lv.filter (fun q => !(q.1 == j) && !(q.1 + 1 == j && q.2.category == 2)) = lv') (hd : decode cc pc = .ok (.iinc j c0, 3)) (kk : Z E k n lv' ws (pc + 3) st) : Z E k n lv ws pc st := by
  obtain ⟨l, y, D, p, e, R, s, m, args, below, meth, c, nL, A, Q⟩ := E
  obtain ⟨hx, hb, hml, hown, hts, hK, hA, hfr, hlo, hnl, hN, hV⟩ := h
  subst hnl
  intro H locs ls hl hP hD hS
  exact lv_iinc hx hb hd hl hv he hn hlv (fun ls hl => kk H locs ls hl hP hD hS)
theorem z_iadd {E : zE} {own : String} {cc : ByteArray} {Ts : List Cond} {fr lo nL k n pc : Nat} {lv : List (Nat × Value)} {ws : va_W} {st : List Value} (h : zC E own cc Ts fr lo nL) {x y : Int32} (hd : decode cc pc = .ok (.iadd, 1)) (kk : Z E k n lv ws (pc + 1) (.int (x + y) :: st)) : Z E k n lv ws pc (.int y :: .int x :: st) := by
  obtain ⟨l, y, D, p, e, R, s, m, args, below, meth, c, nL, A, Q⟩ := E
  obtain ⟨hx, hb, hml, hown, hts, hK, hA, hfr, hlo, hnl, hN, hV⟩ := h
  intro H locs ls hl hP hD hS
  exact lv_iadd hx hb hd (kk H locs ls hl hP hD hS)
theorem z_isub {E : zE} {own : String} {cc : ByteArray} {Ts : List Cond} {fr lo nL k n pc : Nat} {lv : List (Nat × Value)} {ws : va_W} {st : List Value} (h : zC E own cc Ts fr lo nL) {x y : Int32} (hd : decode cc pc = .ok (.isub, 1)) (kk : Z E k n lv ws (pc + 1) (.int (x - y) :: st)) : Z E k n lv ws pc (.int y :: .int x :: st) := by
  obtain ⟨l, y, D, p, e, R, s, m, args, below, meth, c, nL, A, Q⟩ := E
  obtain ⟨hx, hb, hml, hown, hts, hK, hA, hfr, hlo, hnl, hN, hV⟩ := h
  intro H locs ls hl hP hD hS
  exact lv_isub hx hb hd (kk H locs ls hl hP hD hS)
theorem z_imul {E : zE} {own : String} {cc : ByteArray} {Ts : List Cond} {fr lo nL k n pc : Nat} {lv : List (Nat × Value)} {ws : va_W} {st : List Value} (h : zC E own cc Ts fr lo nL) {x y : Int32} (hd : decode cc pc = .ok (.imul, 1)) (kk : Z E k n lv ws (pc + 1) (.int (x * y) :: st)) : Z E k n lv ws pc (.int y :: .int x :: st) := by
  obtain ⟨l, y, D, p, e, R, s, m, args, below, meth, c, nL, A, Q⟩ := E
  obtain ⟨hx, hb, hml, hown, hts, hK, hA, hfr, hlo, hnl, hN, hV⟩ := h
  intro H locs ls hl hP hD hS
  exact lv_imul hx hb hd (kk H locs ls hl hP hD hS)
theorem z_iand {E : zE} {own : String} {cc : ByteArray} {Ts : List Cond} {fr lo nL k n pc : Nat} {lv : List (Nat × Value)} {ws : va_W} {st : List Value} (h : zC E own cc Ts fr lo nL) {x y : Int32} (hd : decode cc pc = .ok (.iand, 1)) (kk : Z E k n lv ws (pc + 1) (.int (x &&& y) :: st)) : Z E k n lv ws pc (.int y :: .int x :: st) := by
  obtain ⟨l, y, D, p, e, R, s, m, args, below, meth, c, nL, A, Q⟩ := E
  obtain ⟨hx, hb, hml, hown, hts, hK, hA, hfr, hlo, hnl, hN, hV⟩ := h
  intro H locs ls hl hP hD hS
  exact lv_iand hx hb hd (kk H locs ls hl hP hD hS)
theorem z_ior {E : zE} {own : String} {cc : ByteArray} {Ts : List Cond} {fr lo nL k n pc : Nat} {lv : List (Nat × Value)} {ws : va_W} {st : List Value} (h : zC E own cc Ts fr lo nL) {x y : Int32} (hd : decode cc pc = .ok (.ior, 1)) (kk : Z E k n lv ws (pc + 1) (.int (x ||| y) :: st)) : Z E k n lv ws pc (.int y :: .int x :: st) := by
  obtain ⟨l, y, D, p, e, R, s, m, args, below, meth, c, nL, A, Q⟩ := E
  obtain ⟨hx, hb, hml, hown, hts, hK, hA, hfr, hlo, hnl, hN, hV⟩ := h
  intro H locs ls hl hP hD hS
  exact lv_ior hx hb hd (kk H locs ls hl hP hD hS)
theorem z_ixor {E : zE} {own : String} {cc : ByteArray} {Ts : List Cond} {fr lo nL k n pc : Nat} {lv : List (Nat × Value)} {ws : va_W} {st : List Value} (h : zC E own cc Ts fr lo nL) {x y : Int32} (hd : decode cc pc = .ok (.ixor, 1)) (kk : Z E k n lv ws (pc + 1) (.int (x ^^^ y) :: st)) : Z E k n lv ws pc (.int y :: .int x :: st) := by
  obtain ⟨l, y, D, p, e, R, s, m, args, below, meth, c, nL, A, Q⟩ := E
  obtain ⟨hx, hb, hml, hown, hts, hK, hA, hfr, hlo, hnl, hN, hV⟩ := h
  intro H locs ls hl hP hD hS
  exact lv_ixor hx hb hd (kk H locs ls hl hP hD hS)
theorem z_idiv {E : zE} {own : String} {cc : ByteArray} {Ts : List Cond} {fr lo nL k n pc : Nat} {lv : List (Nat × Value)} {ws : va_W} {st : List Value} (h : zC E own cc Ts fr lo nL) {x y : Int32} (hd : decode cc pc = .ok (.idiv, 1)) (hne : ¬ y = 0) (kk : Z E k n lv ws (pc + 1) (.int (x / y) :: st)) : Z E k n lv ws pc (.int y :: .int x :: st) := by
  obtain ⟨l, y, D, p, e, R, s, m, args, below, meth, c, nL, A, Q⟩ := E
  obtain ⟨hx, hb, hml, hown, hts, hK, hA, hfr, hlo, hnl, hN, hV⟩ := h
  intro H locs ls hl hP hD hS
  exact lv_idiv hx hb hd hne (kk H locs ls hl hP hD hS)
theorem z_irem {E : zE} {own : String} {cc : ByteArray} {Ts : List Cond} {fr lo nL k n pc : Nat} {lv : List (Nat × Value)} {ws : va_W} {st : List Value} (h : zC E own cc Ts fr lo nL) {x y : Int32} (hd : decode cc pc = .ok (.irem, 1)) (hne : ¬ y = 0) (kk : Z E k n lv ws (pc + 1) (.int (x - x / y * y) :: st)) : Z E k n lv ws pc (.int y :: .int x :: st) := by
  obtain ⟨l, y, D, p, e, R, s, m, args, below, meth, c, nL, A, Q⟩ := E
  obtain ⟨hx, hb, hml, hown, hts, hK, hA, hfr, hlo, hnl, hN, hV⟩ := h
  intro H locs ls hl hP hD hS
  exact lv_irem hx hb hd hne (kk H locs ls hl hP hD hS)
theorem z_ishl {E : zE} {own : String} {cc : ByteArray} {Ts : List Cond} {fr lo nL k n pc : Nat} {lv : List (Nat × Value)} {ws : va_W} {st : List Value} (h : zC E own cc Ts fr lo nL) {x y : Int32} (hd : decode cc pc = .ok (.ishl, 1)) (kk : Z E k n lv ws (pc + 1) (.int (x <<< (y &&& 31)) :: st)) : Z E k n lv ws pc (.int y :: .int x :: st) := by
  obtain ⟨l, y, D, p, e, R, s, m, args, below, meth, c, nL, A, Q⟩ := E
  obtain ⟨hx, hb, hml, hown, hts, hK, hA, hfr, hlo, hnl, hN, hV⟩ := h
  intro H locs ls hl hP hD hS
  exact lv_ishl hx hb hd (kk H locs ls hl hP hD hS)
theorem z_ishr {E : zE} {own : String} {cc : ByteArray} {Ts : List Cond} {fr lo nL k n pc : Nat} {lv : List (Nat × Value)} {ws : va_W} {st : List Value} (h : zC E own cc Ts fr lo nL) {x y : Int32} (hd : decode cc pc = .ok (.ishr, 1)) (kk : Z E k n lv ws (pc + 1) (.int (x >>> (y &&& 31)) :: st)) : Z E k n lv ws pc (.int y :: .int x :: st) := by
  obtain ⟨l, y, D, p, e, R, s, m, args, below, meth, c, nL, A, Q⟩ := E
  obtain ⟨hx, hb, hml, hown, hts, hK, hA, hfr, hlo, hnl, hN, hV⟩ := h
  intro H locs ls hl hP hD hS
  exact lv_ishr hx hb hd (kk H locs ls hl hP hD hS)
theorem z_ineg {E : zE} {own : String} {cc : ByteArray} {Ts : List Cond} {fr lo nL k n pc : Nat} {lv : List (Nat × Value)} {ws : va_W} {st : List Value} (h : zC E own cc Ts fr lo nL) {x : Int32} (hd : decode cc pc = .ok (.ineg, 1)) (kk : Z E k n lv ws (pc + 1) (.int (0 - x) :: st)) : Z E k n lv ws pc (.int x :: st) := by
  obtain ⟨l, y, D, p, e, R, s, m, args, below, meth, c, nL, A, Q⟩ := E
  obtain ⟨hx, hb, hml, hown, hts, hK, hA, hfr, hlo, hnl, hN, hV⟩ := h
  intro H locs ls hl hP hD hS
  exact lv_ineg hx hb hd (kk H locs ls hl hP hD hS)
theorem z_ladd {E : zE} {own : String} {cc : ByteArray} {Ts : List Cond} {fr lo nL k n pc : Nat} {lv : List (Nat × Value)} {ws : va_W} {st : List Value} (h : zC E own cc Ts fr lo nL) {x y : Int64} (hd : decode cc pc = .ok (.ladd, 1)) (kk : Z E k n lv ws (pc + 1) (.long (x + y) :: st)) : Z E k n lv ws pc (.long y :: .long x :: st) := by
  obtain ⟨l, y, D, p, e, R, s, m, args, below, meth, c, nL, A, Q⟩ := E
  obtain ⟨hx, hb, hml, hown, hts, hK, hA, hfr, hlo, hnl, hN, hV⟩ := h
  intro H locs ls hl hP hD hS
  exact lv_ladd hx hb hd (kk H locs ls hl hP hD hS)
theorem z_lmul {E : zE} {own : String} {cc : ByteArray} {Ts : List Cond} {fr lo nL k n pc : Nat} {lv : List (Nat × Value)} {ws : va_W} {st : List Value} (h : zC E own cc Ts fr lo nL) {x y : Int64} (hd : decode cc pc = .ok (.lmul, 1)) (kk : Z E k n lv ws (pc + 1) (.long (x * y) :: st)) : Z E k n lv ws pc (.long y :: .long x :: st) := by
  obtain ⟨l, y, D, p, e, R, s, m, args, below, meth, c, nL, A, Q⟩ := E
  obtain ⟨hx, hb, hml, hown, hts, hK, hA, hfr, hlo, hnl, hN, hV⟩ := h
  intro H locs ls hl hP hD hS
  exact lv_lmul hx hb hd (kk H locs ls hl hP hD hS)
theorem z_i2l {E : zE} {own : String} {cc : ByteArray} {Ts : List Cond} {fr lo nL k n pc : Nat} {lv : List (Nat × Value)} {ws : va_W} {st : List Value} (h : zC E own cc Ts fr lo nL) {x : Int32} (hd : decode cc pc = .ok (.i2l, 1)) (kk : Z E k n lv ws (pc + 1) (.long x.toInt64 :: st)) : Z E k n lv ws pc (.int x :: st) := by
  obtain ⟨l, y, D, p, e, R, s, m, args, below, meth, c, nL, A, Q⟩ := E
  obtain ⟨hx, hb, hml, hown, hts, hK, hA, hfr, hlo, hnl, hN, hV⟩ := h
  intro H locs ls hl hP hD hS
  exact lv_i2l hx hb hd rfl (kk H locs ls hl hP hD hS)
theorem z_i2b {E : zE} {own : String} {cc : ByteArray} {Ts : List Cond} {fr lo nL k n pc : Nat} {lv : List (Nat × Value)} {ws : va_W} {st : List Value} (h : zC E own cc Ts fr lo nL) {x : Int32} (hd : decode cc pc = .ok (.i2b, 1)) (kk : Z E k n lv ws (pc + 1) (.int x.toInt8.toInt32 :: st)) : Z E k n lv ws pc (.int x :: st) := by
  obtain ⟨l, y, D, p, e, R, s, m, args, below, meth, c, nL, A, Q⟩ := E
  obtain ⟨hx, hb, hml, hown, hts, hK, hA, hfr, hlo, hnl, hN, hV⟩ := h
  intro H locs ls hl hP hD hS
  exact lv_i2b hx hb hd rfl (kk H locs ls hl hP hD hS)
theorem z_dup {E : zE} {own : String} {cc : ByteArray} {Ts : List Cond} {fr lo nL k n pc : Nat} {lv : List (Nat × Value)} {ws : va_W} {st : List Value} (h : zC E own cc Ts fr lo nL) {va : Value} (hd : decode cc pc = .ok (.dup, 1)) (hva : va.category = 1) (kk : Z E k n lv ws (pc + 1) (va :: va :: st)) : Z E k n lv ws pc (va :: st) := by
  obtain ⟨l, y, D, p, e, R, s, m, args, below, meth, c, nL, A, Q⟩ := E
  obtain ⟨hx, hb, hml, hown, hts, hK, hA, hfr, hlo, hnl, hN, hV⟩ := h
  intro H locs ls hl hP hD hS
  exact lv_dup hx hb hd hva (kk H locs ls hl hP hD hS)
theorem z_pop {E : zE} {own : String} {cc : ByteArray} {Ts : List Cond} {fr lo nL k n pc : Nat} {lv : List (Nat × Value)} {ws : va_W} {st : List Value} (h : zC E own cc Ts fr lo nL) {va : Value} (hd : decode cc pc = .ok (.pop, 1)) (hva : va.category = 1) (kk : Z E k n lv ws (pc + 1) (st)) : Z E k n lv ws pc (va :: st) := by
  obtain ⟨l, y, D, p, e, R, s, m, args, below, meth, c, nL, A, Q⟩ := E
  obtain ⟨hx, hb, hml, hown, hts, hK, hA, hfr, hlo, hnl, hN, hV⟩ := h
  intro H locs ls hl hP hD hS
  exact lv_pop hx hb hd hva (kk H locs ls hl hP hD hS)
theorem z_dup2 {E : zE} {own : String} {cc : ByteArray} {Ts : List Cond} {fr lo nL k n pc : Nat} {lv : List (Nat × Value)} {ws : va_W} {st : List Value} (h : zC E own cc Ts fr lo nL) {va vb : Value} (hd : decode cc pc = .ok (.dup2, 1)) (hva : va.category = 1) (hvb : vb.category = 1) (kk : Z E k n lv ws (pc + 1) (va :: vb :: va :: vb :: st)) : Z E k n lv ws pc (va :: vb :: st) := by
  obtain ⟨l, y, D, p, e, R, s, m, args, below, meth, c, nL, A, Q⟩ := E
  obtain ⟨hx, hb, hml, hown, hts, hK, hA, hfr, hlo, hnl, hN, hV⟩ := h
  intro H locs ls hl hP hD hS
  exact lv_dup2_11 hx hb hd hva hvb (kk H locs ls hl hP hD hS)
theorem z_icmp_eq {E : zE} {own : String} {cc : ByteArray} {Ts : List Cond} {fr lo nL k n pc : Nat} {lv : List (Nat × Value)} {ws : va_W} {st : List Value} (h : zC E own cc Ts fr lo nL) {x y : Int32} {off : Int} (tgt : Nat) (hd : decode cc pc = .ok (.if_icmp .eq off, 3)) (ht : (pc : Int) + off = (tgt : Int)) (kt : (x = y) → Z E k n lv ws tgt st) (kf : (¬ x = y) → Z E k n lv ws (pc + 3) st) : Z E k n lv ws pc (.int y :: .int x :: st) := by
  obtain ⟨l, y, D, p, e, R, s, m, args, below, meth, c, nL, A, Q⟩ := E
  obtain ⟨hx, hb, hml, hown, hts, hK, hA, hfr, hlo, hnl, hN, hV⟩ := h
  intro H locs ls hl hP hD hS
  exact lv_icmp_eq hx hb hd ht (fun q => kt q H locs ls hl hP hD hS) (fun q => kf q H locs ls hl hP hD hS)
theorem z_if_eq {E : zE} {own : String} {cc : ByteArray} {Ts : List Cond} {fr lo nL k n pc : Nat} {lv : List (Nat × Value)} {ws : va_W} {st : List Value} (h : zC E own cc Ts fr lo nL) {x : Int32} {off : Int} (tgt : Nat) (hd : decode cc pc = .ok (.ifCond .eq off, 3)) (ht : (pc : Int) + off = (tgt : Int)) (kt : (x = 0) → Z E k n lv ws tgt st) (kf : (¬ x = 0) → Z E k n lv ws (pc + 3) st) : Z E k n lv ws pc (.int x :: st) := by
  obtain ⟨l, y, D, p, e, R, s, m, args, below, meth, c, nL, A, Q⟩ := E
  obtain ⟨hx, hb, hml, hown, hts, hK, hA, hfr, hlo, hnl, hN, hV⟩ := h
  intro H locs ls hl hP hD hS
  exact lv_if_eq hx hb hd ht (fun q => kt q H locs ls hl hP hD hS) (fun q => kf q H locs ls hl hP hD hS)
theorem z_icmp_ne {E : zE} {own : String} {cc : ByteArray} {Ts : List Cond} {fr lo nL k n pc : Nat} {lv : List (Nat × Value)} {ws : va_W} {st : List Value} (h : zC E own cc Ts fr lo nL) {x y : Int32} {off : Int} (tgt : Nat) (hd : decode cc pc = .ok (.if_icmp .ne off, 3)) (ht : (pc : Int) + off = (tgt : Int)) (kt : (¬ x = y) → Z E k n lv ws tgt st) (kf : (x = y) → Z E k n lv ws (pc + 3) st) : Z E k n lv ws pc (.int y :: .int x :: st) := by
  obtain ⟨l, y, D, p, e, R, s, m, args, below, meth, c, nL, A, Q⟩ := E
  obtain ⟨hx, hb, hml, hown, hts, hK, hA, hfr, hlo, hnl, hN, hV⟩ := h
  intro H locs ls hl hP hD hS
  exact lv_icmp_ne hx hb hd ht (fun q => kt q H locs ls hl hP hD hS) (fun q => kf q H locs ls hl hP hD hS)
theorem z_if_ne {E : zE} {own : String} {cc : ByteArray} {Ts : List Cond} {fr lo nL k n pc : Nat} {lv : List (Nat × Value)} {ws : va_W} {st : List Value} (h : zC E own cc Ts fr lo nL) {x : Int32} {off : Int} (tgt : Nat) (hd : decode cc pc = .ok (.ifCond .ne off, 3)) (ht : (pc : Int) + off = (tgt : Int)) (kt : (¬ x = 0) → Z E k n lv ws tgt st) (kf : (x = 0) → Z E k n lv ws (pc + 3) st) : Z E k n lv ws pc (.int x :: st) := by
  obtain ⟨l, y, D, p, e, R, s, m, args, below, meth, c, nL, A, Q⟩ := E
  obtain ⟨hx, hb, hml, hown, hts, hK, hA, hfr, hlo, hnl, hN, hV⟩ := h
  intro H locs ls hl hP hD hS
  exact lv_if_ne hx hb hd ht (fun q => kt q H locs ls hl hP hD hS) (fun q => kf q H locs ls hl hP hD hS)
theorem z_icmp_lt {E : zE} {own : String} {cc : ByteArray} {Ts : List Cond} {fr lo nL k n pc : Nat} {lv : List (Nat × Value)} {ws : va_W} {st : List Value} (h : zC E own cc Ts fr lo nL) {x y : Int32} {off : Int} (tgt : Nat) (hd : decode cc pc = .ok (.if_icmp .lt off, 3)) (ht : (pc : Int) + off = (tgt : Int)) (kt : (x < y) → Z E k n lv ws tgt st) (kf : (¬ x < y) → Z E k n lv ws (pc + 3) st) : Z E k n lv ws pc (.int y :: .int x :: st) := by
  obtain ⟨l, y, D, p, e, R, s, m, args, below, meth, c, nL, A, Q⟩ := E
  obtain ⟨hx, hb, hml, hown, hts, hK, hA, hfr, hlo, hnl, hN, hV⟩ := h
  intro H locs ls hl hP hD hS
  exact lv_icmp_lt hx hb hd ht (fun q => kt q H locs ls hl hP hD hS) (fun q => kf q H locs ls hl hP hD hS)
theorem z_if_lt {E : zE} {own : String} {cc : ByteArray} {Ts : List Cond} {fr lo nL k n pc : Nat} {lv : List (Nat × Value)} {ws : va_W} {st : List Value} (h : zC E own cc Ts fr lo nL) {x : Int32} {off : Int} (tgt : Nat) (hd : decode cc pc = .ok (.ifCond .lt off, 3)) (ht : (pc : Int) + off = (tgt : Int)) (kt : (x < 0) → Z E k n lv ws tgt st) (kf : (¬ x < 0) → Z E k n lv ws (pc + 3) st) : Z E k n lv ws pc (.int x :: st) := by
  obtain ⟨l, y, D, p, e, R, s, m, args, below, meth, c, nL, A, Q⟩ := E
  obtain ⟨hx, hb, hml, hown, hts, hK, hA, hfr, hlo, hnl, hN, hV⟩ := h
  intro H locs ls hl hP hD hS
  exact lv_if_lt hx hb hd ht (fun q => kt q H locs ls hl hP hD hS) (fun q => kf q H locs ls hl hP hD hS)
theorem z_icmp_ge {E : zE} {own : String} {cc : ByteArray} {Ts : List Cond} {fr lo nL k n pc : Nat} {lv : List (Nat × Value)} {ws : va_W} {st : List Value} (h : zC E own cc Ts fr lo nL) {x y : Int32} {off : Int} (tgt : Nat) (hd : decode cc pc = .ok (.if_icmp .ge off, 3)) (ht : (pc : Int) + off = (tgt : Int)) (kt : (y ≤ x) → Z E k n lv ws tgt st) (kf : (¬ y ≤ x) → Z E k n lv ws (pc + 3) st) : Z E k n lv ws pc (.int y :: .int x :: st) := by
  obtain ⟨l, y, D, p, e, R, s, m, args, below, meth, c, nL, A, Q⟩ := E
  obtain ⟨hx, hb, hml, hown, hts, hK, hA, hfr, hlo, hnl, hN, hV⟩ := h
  intro H locs ls hl hP hD hS
  exact lv_icmp_ge hx hb hd ht (fun q => kt q H locs ls hl hP hD hS) (fun q => kf q H locs ls hl hP hD hS)
theorem z_if_ge {E : zE} {own : String} {cc : ByteArray} {Ts : List Cond} {fr lo nL k n pc : Nat} {lv : List (Nat × Value)} {ws : va_W} {st : List Value} (h : zC E own cc Ts fr lo nL) {x : Int32} {off : Int} (tgt : Nat) (hd : decode cc pc = .ok (.ifCond .ge off, 3)) (ht : (pc : Int) + off = (tgt : Int)) (kt : (0 ≤ x) → Z E k n lv ws tgt st) (kf : (¬ 0 ≤ x) → Z E k n lv ws (pc + 3) st) : Z E k n lv ws pc (.int x :: st) := by
  obtain ⟨l, y, D, p, e, R, s, m, args, below, meth, c, nL, A, Q⟩ := E
  obtain ⟨hx, hb, hml, hown, hts, hK, hA, hfr, hlo, hnl, hN, hV⟩ := h
  intro H locs ls hl hP hD hS
  exact lv_if_ge hx hb hd ht (fun q => kt q H locs ls hl hP hD hS) (fun q => kf q H locs ls hl hP hD hS)
theorem z_icmp_gt {E : zE} {own : String} {cc : ByteArray} {Ts : List Cond} {fr lo nL k n pc : Nat} {lv : List (Nat × Value)} {ws : va_W} {st : List Value} (h : zC E own cc Ts fr lo nL) {x y : Int32} {off : Int} (tgt : Nat) (hd : decode cc pc = .ok (.if_icmp .gt off, 3)) (ht : (pc : Int) + off = (tgt : Int)) (kt : (y < x) → Z E k n lv ws tgt st) (kf : (¬ y < x) → Z E k n lv ws (pc + 3) st) : Z E k n lv ws pc (.int y :: .int x :: st) := by
  obtain ⟨l, y, D, p, e, R, s, m, args, below, meth, c, nL, A, Q⟩ := E
  obtain ⟨hx, hb, hml, hown, hts, hK, hA, hfr, hlo, hnl, hN, hV⟩ := h
  intro H locs ls hl hP hD hS
  exact lv_icmp_gt hx hb hd ht (fun q => kt q H locs ls hl hP hD hS) (fun q => kf q H locs ls hl hP hD hS)
theorem z_if_gt {E : zE} {own : String} {cc : ByteArray} {Ts : List Cond} {fr lo nL k n pc : Nat} {lv : List (Nat × Value)} {ws : va_W} {st : List Value} (h : zC E own cc Ts fr lo nL) {x : Int32} {off : Int} (tgt : Nat) (hd : decode cc pc = .ok (.ifCond .gt off, 3)) (ht : (pc : Int) + off = (tgt : Int)) (kt : (0 < x) → Z E k n lv ws tgt st) (kf : (¬ 0 < x) → Z E k n lv ws (pc + 3) st) : Z E k n lv ws pc (.int x :: st) := by
  obtain ⟨l, y, D, p, e, R, s, m, args, below, meth, c, nL, A, Q⟩ := E
  obtain ⟨hx, hb, hml, hown, hts, hK, hA, hfr, hlo, hnl, hN, hV⟩ := h
  intro H locs ls hl hP hD hS
  exact lv_if_gt hx hb hd ht (fun q => kt q H locs ls hl hP hD hS) (fun q => kf q H locs ls hl hP hD hS)
theorem z_icmp_le {E : zE} {own : String} {cc : ByteArray} {Ts : List Cond} {fr lo nL k n pc : Nat} {lv : List (Nat × Value)} {ws : va_W} {st : List Value} (h : zC E own cc Ts fr lo nL) {x y : Int32} {off : Int} (tgt : Nat) (hd : decode cc pc = .ok (.if_icmp .le off, 3)) (ht : (pc : Int) + off = (tgt : Int)) (kt : (x ≤ y) → Z E k n lv ws tgt st) (kf : (¬ x ≤ y) → Z E k n lv ws (pc + 3) st) : Z E k n lv ws pc (.int y :: .int x :: st) := by
  obtain ⟨l, y, D, p, e, R, s, m, args, below, meth, c, nL, A, Q⟩ := E
  obtain ⟨hx, hb, hml, hown, hts, hK, hA, hfr, hlo, hnl, hN, hV⟩ := h
  intro H locs ls hl hP hD hS
  exact lv_icmp_le hx hb hd ht (fun q => kt q H locs ls hl hP hD hS) (fun q => kf q H locs ls hl hP hD hS)
theorem z_if_le {E : zE} {own : String} {cc : ByteArray} {Ts : List Cond} {fr lo nL k n pc : Nat} {lv : List (Nat × Value)} {ws : va_W} {st : List Value} (h : zC E own cc Ts fr lo nL) {x : Int32} {off : Int} (tgt : Nat) (hd : decode cc pc = .ok (.ifCond .le off, 3)) (ht : (pc : Int) + off = (tgt : Int)) (kt : (x ≤ 0) → Z E k n lv ws tgt st) (kf : (¬ x ≤ 0) → Z E k n lv ws (pc + 3) st) : Z E k n lv ws pc (.int x :: st) := by
  obtain ⟨l, y, D, p, e, R, s, m, args, below, meth, c, nL, A, Q⟩ := E
  obtain ⟨hx, hb, hml, hown, hts, hK, hA, hfr, hlo, hnl, hN, hV⟩ := h
  intro H locs ls hl hP hD hS
  exact lv_if_le hx hb hd ht (fun q => kt q H locs ls hl hP hD hS) (fun q => kf q H locs ls hl hP hD hS)
theorem z_goto {E : zE} {own : String} {cc : ByteArray} {Ts : List Cond} {fr lo nL k n pc : Nat} {lv : List (Nat × Value)} {ws : va_W} {st : List Value} (h : zC E own cc Ts fr lo nL) {off : Int} (tgt : Nat) (hd : decode cc pc = .ok (.goto off, 3)) (ht : (pc : Int) + off = (tgt : Int)) (kk : Z E k n lv ws tgt st) : Z E k n lv ws pc st := by
  obtain ⟨l, y, D, p, e, R, s, m, args, below, meth, c, nL, A, Q⟩ := E
  obtain ⟨hx, hb, hml, hown, hts, hK, hA, hfr, hlo, hnl, hN, hV⟩ := h
  intro H locs ls hl hP hD hS
  exact lv_goto hx hb hd ht (kk H locs ls hl hP hD hS)
theorem z_tblOut {E : zE} {own : String} {cc : ByteArray} {Ts : List Cond} {fr lo nL k n pc : Nat} {lv : List (Nat × Value)} {ws : va_W} {st : List Value} (h : zC E own cc Ts fr lo nL) {dflt a0 b0 : Int} {offs : Array Int} {len : Nat} {x : Int32} (tgt : Nat) (hd : decode cc pc = .ok (.tableswitch dflt a0 b0 offs, len)) (hq : x.toInt < a0 ∨ b0 < x.toInt) (ht : (pc : Int) + dflt = (tgt : Int)) (kk : Z E k n lv ws tgt st) : Z E k n lv ws pc (.int x :: st) := by
  obtain ⟨l, y, D, p, e, R, s, m, args, below, meth, c, nL, A, Q⟩ := E
  obtain ⟨hx, hb, hml, hown, hts, hK, hA, hfr, hlo, hnl, hN, hV⟩ := h
  intro H locs ls hl hP hD hS
  exact lv_tableOut hx hb hd hq ht (kk H locs ls hl hP hD hS)
theorem z_tblIn {E : zE} {own : String} {cc : ByteArray} {Ts : List Cond} {fr lo nL k n pc : Nat} {lv : List (Nat × Value)} {ws : va_W} {st : List Value} (h : zC E own cc Ts fr lo nL) {dflt a0 b0 : Int} {offs : Array Int} {len : Nat} {x : Int32} {off : Int} (tgt : Nat) (hd : decode cc pc = .ok (.tableswitch dflt a0 b0 offs, len)) (h1 : ¬ x.toInt < a0) (h2 : ¬ b0 < x.toInt) (ho : offs[(x.toInt - a0).toNat]? = some off) (ht : (pc : Int) + off = (tgt : Int)) (kk : Z E k n lv ws tgt st) : Z E k n lv ws pc (.int x :: st) := by
  obtain ⟨l, y, D, p, e, R, s, m, args, below, meth, c, nL, A, Q⟩ := E
  obtain ⟨hx, hb, hml, hown, hts, hK, hA, hfr, hlo, hnl, hN, hV⟩ := h
  intro H locs ls hl hP hD hS
  exact lv_tableIn hx hb hd h1 h2 ho ht (kk H locs ls hl hP hD hS)
theorem z_cast {E : zE} {k n pc : Nat} {lv lv' : List (Nat × Value)} {ws ws' : va_W} {st st' : List Value} (kk : Z E k n lv ws pc st) (h1 : lv' = lv) (h2 : ws' = ws) (h3 : st' = st) : Z E k n lv' ws' pc st' := by
  subst h1; subst h2; subst h3; exact kk
theorem z_top {E : zE} {k n pc : Nat} {lv : List (Nat × Value)} {ws : va_W} {st : List Value} {x : Int32} (y : Int32) (hy : x = y) (kk : Z E k n lv ws pc (.int y :: st)) : Z E k n lv ws pc (.int x :: st) := by subst hy; exact kk
theorem z_topl {E : zE} {k n pc : Nat} {lv : List (Nat × Value)} {ws : va_W} {st : List Value} {x : Int64} (y : Int64) (hy : x = y) (kk : Z E k n lv ws pc (.long y :: st)) : Z E k n lv ws pc (.long x :: st) := by subst hy; exact kk
theorem z_sub {E : zE} {k n pc : Nat} {lv lv' : List (Nat × Value)} {ws : va_W} {st : List Value} (ks : List Nat) (hks : lv_pick lv ks = lv') (kk : Z E k n lv' ws pc st) : Z E k n lv ws pc st := by
  obtain ⟨l, y, D, p, e, R, s, m, args, below, meth, c, nL, A, Q⟩ := E
  intro H locs ls hl hP hD hS
  exact kk H locs ls (lv_sub hl ks hks) hP hD hS
theorem z_gen {E : zE} {k n pc : Nat} {lv : List (Nat × Value)} {st : List Value} {α : Type} (w : α → va_W) (x : α) (kk : ∀ m : α, m = x → Z E k n lv (w m) pc st) : Z E k n lv (w x) pc st := kk x rfl
theorem z_widen {E : zE} {k n k' n' pc : Nat} {lv : List (Nat × Value)} {ws : va_W} {st : List Value} (h1 : k ≤ k') (h2 : n ≤ n') (kk : Z E k' n' lv ws pc st) : Z E k n lv ws pc st := by
  obtain ⟨l, y, D, p, e, R, s, m, args, below, meth, c, nL, A, Q⟩ := E
  intro H locs ls hl hP hD hS
  exact W.widen h1 h2 (kk H locs ls hl hP hD hS)
theorem z_get {E : zE} {own : String} {cc : ByteArray} {Ts : List Cond} {fr lo nL k n pc : Nat} {lv : List (Nat × Value)} {ws : va_W} {st : List Value} (h : zC E own cc Ts fr lo nL) (q0 ci : Nat) {C : String} {T0 : u_T} {N ix : Nat} {a : Nat} {fs : List Value} (f : Nat) {v : Value} (he : ws[q0]? = some (a, .inr (ci, fs))) (hc : vwCl[ci]? = some (C, T0, N)) (hin : ∀ w ∈ u_ws C T0 N, w ∈ Ts) (hf : f < N) (hw : Cond.fieldLink own ix C (T0 f).2.1 (T0 f).2.2.1 ∈ Ts) (hC : (T0 f).1 = C) (hv : fs[f]? = some v) (hd : decode cc pc = .ok (.getfield ix, 3)) (kk : Z E k n lv ws (pc + 3) (v :: st)) : Z E k n lv ws pc (.ref a :: st) := by
  obtain ⟨l, y, D, p, e, R, s, m, args, below, meth, c, nL, A, Q⟩ := E
  obtain ⟨hx, hb, hml, hown, hts, hK, hA, hfr, hlo, hnl, hN, hV⟩ := h
  intro H locs ls hl hP hD hS
  exact va_get (C := C) (T := T0) (N := N) hx hb hts hin hown hK hP q0 he hc f hf (hts _ hw) (fun _ h9 => by rw [hC] at h9; exact h9) hv hd (kk H locs ls hl hP hD hS)
theorem z_put {E : zE} {own : String} {cc : ByteArray} {Ts : List Cond} {fr lo nL k n pc : Nat} {lv : List (Nat × Value)} {ws : va_W} {st : List Value} (h : zC E own cc Ts fr lo nL) (q0 ci : Nat) {C : String} {T0 : u_T} {N ix : Nat} {a : Nat} {fs : List Value} (f : Nat) {v : Value} {ws' : va_W} (ty0 : Nat → FieldType) (ty : FieldType) (he : ws[q0]? = some (a, .inr (ci, fs))) (hc : vwCl[ci]? = some (C, T0, N)) (hin : ∀ w ∈ u_ws C T0 N, w ∈ Ts) (hty : ∀ k, k < N → parseFieldDescriptor (T0 k).2.2.1 = some (ty0 k)) (hnm : ∀ a, a < N → ∀ b, b < N → a ≠ b → (T0 a).2.1 ≠ (T0 b).2.1) (hf : f < N) (hw : Cond.fieldLink own ix C (T0 f).2.1 (T0 f).2.2.1 ∈ Ts) (hC : (T0 f).1 = C) (hfin : (T0 f).2.2.2 = false) (hpd : parseFieldDescriptor (T0 f).2.2.1 = some ty) (hnv : narrow ty v = v) (hfv : fits ty v = true) (hfl : f < fs.length) (hws : ws.set q0 (a, .inr (ci, fs.set f v)) = ws') (hd : decode cc pc = .ok (.putfield ix, 3)) (kk : Z E k n lv ws' (pc + 3) st) : Z E k n lv ws pc (v :: .ref a :: st) := by
  obtain ⟨l, y, D, p, e, R, s, m, args, below, meth, c, nL, A, Q⟩ := E
  obtain ⟨hx, hb, hml, hown, hts, hK, hA, hfr, hlo, hnl, hN, hV⟩ := h
  subst hws
  intro H locs ls hl hP hD hS
  exact va_put (C := C) (T := T0) (N := N) hx hb hts hin ty0 hty hnm hown hK hP hD hS q0 he hc f hf (hts _ hw) (fun _ h9 => by rw [hC] at h9; exact h9) hfin hpd hnv hfv hfl hd (fun H locs hP hD hS => kk H locs ls hl hP hD hS)
theorem z_ix {i : Int32} {j N : Nat} (hi : i = nI j) (hj : j < N) (hN : N < 2 ^ 31) : vp_in i N ∧ i.toNatClampNeg = j := by
  subst hi
  exact ⟨vp_in_nI hj hN, nI_clamp (Nat.lt_trans hj hN)⟩
theorem z_iald {E : zE} {own : String} {cc : ByteArray} {Ts : List Cond} {fr lo nL k n pc : Nat} {lv : List (Nat × Value)} {ws : va_W} {st : List Value} (h : zC E own cc Ts fr lo nL) (q0 : Nat) {a N : Nat} {cA : ClassId} {f : Nat → Int32} {i : Int32} (j : Nat) (he : ws[q0]? = some (a, .inl (cA, N, .inl f))) (hcA : cA = (zy E).1 0) (hi : i = nI j) (hj : j < N) (hNN : N < 2 ^ 31) (hd : decode cc pc = .ok (.iaload, 1)) (kk : Z E k n lv ws (pc + 1) (.int (f j) :: st)) : Z E k n lv ws pc (.int i :: .ref a :: st) := by
  obtain ⟨hi1, hi2⟩ := z_ix hi hj hNN
  rw [← hi2] at kk
  obtain ⟨l, y, D, p, e, R, s, m, args, below, meth, c, nL, A, Q⟩ := E
  obtain ⟨hx, hb, hml, hown, hts, hK, hA, hfr, hlo, hnl, hN, hV⟩ := h
  intro H locs ls hl hP hD hS
  subst hcA
  exact va_iald hx hb hK hP q0 0 he rfl hi1 hd (kk H locs ls hl hP hD hS)
theorem z_zald {E : zE} {own : String} {cc : ByteArray} {Ts : List Cond} {fr lo nL k n pc : Nat} {lv : List (Nat × Value)} {ws : va_W} {st : List Value} (h : zC E own cc Ts fr lo nL) (q0 : Nat) {a N : Nat} {cA : ClassId} {f : Nat → Int32} {i : Int32} (j : Nat) (he : ws[q0]? = some (a, .inl (cA, N, .inl f))) (hcA : cA = (zy E).1 1) (hi : i = nI j) (hj : j < N) (hNN : N < 2 ^ 31) (hd : decode cc pc = .ok (.baload, 1)) (kk : Z E k n lv ws (pc + 1) (.int (f j) :: st)) : Z E k n lv ws pc (.int i :: .ref a :: st) := by
  obtain ⟨hi1, hi2⟩ := z_ix hi hj hNN
  rw [← hi2] at kk
  obtain ⟨l, y, D, p, e, R, s, m, args, below, meth, c, nL, A, Q⟩ := E
  obtain ⟨hx, hb, hml, hown, hts, hK, hA, hfr, hlo, hnl, hN, hV⟩ := h
  intro H locs ls hl hP hD hS
  subst hcA
  exact va_zald hx hb hK hP q0 1 he rfl hi1 hd (kk H locs ls hl hP hD hS)
theorem z_iast {E : zE} {own : String} {cc : ByteArray} {Ts : List Cond} {fr lo nL k n pc : Nat} {lv : List (Nat × Value)} {ws : va_W} {st : List Value} (h : zC E own cc Ts fr lo nL) (q0 : Nat) {a N : Nat} {cA : ClassId} {f : Nat → Int32} {i x : Int32} (j : Nat) (v : Int32) {ws' : va_W} (hxv : x = v) (he : ws[q0]? = some (a, .inl (cA, N, .inl f))) (hcA : cA = (zy E).1 0) (hi : i = nI j) (hj : j < N) (hNN : N < 2 ^ 31) (hws : ws.set q0 (a, .inl (cA, N, .inl (upd f j v))) = ws') (hd : decode cc pc = .ok (.iastore, 1)) (kk : Z E k n lv ws' (pc + 1) st) : Z E k n lv ws pc (.int x :: .int i :: .ref a :: st) := by
  obtain ⟨hi1, hi2⟩ := z_ix hi hj hNN
  subst hxv
  subst hws
  rw [← hi2] at kk
  obtain ⟨l, y, D, p, e, R, s, m, args, below, meth, c, nL, A, Q⟩ := E
  obtain ⟨hx, hb, hml, hown, hts, hK, hA, hfr, hlo, hnl, hN, hV⟩ := h
  intro H locs ls hl hP hD hS
  subst hcA
  exact va_iast hx hb hK hP hD hS q0 0 he rfl hi1 hd (fun H locs hP hD hS => kk H locs ls hl hP hD hS)
theorem z_zast {E : zE} {own : String} {cc : ByteArray} {Ts : List Cond} {fr lo nL k n pc : Nat} {lv : List (Nat × Value)} {ws : va_W} {st : List Value} (h : zC E own cc Ts fr lo nL) (q0 : Nat) {a N : Nat} {cA : ClassId} {f : Nat → Int32} {i x : Int32} (j : Nat) (v : Int32) {ws' : va_W} (hxv : vp_nar .boolean x = v) (he : ws[q0]? = some (a, .inl (cA, N, .inl f))) (hcA : cA = (zy E).1 1) (hi : i = nI j) (hj : j < N) (hNN : N < 2 ^ 31) (hws : ws.set q0 (a, .inl (cA, N, .inl (upd f j v))) = ws') (hd : decode cc pc = .ok (.bastore, 1)) (kk : Z E k n lv ws' (pc + 1) st) : Z E k n lv ws pc (.int x :: .int i :: .ref a :: st) := by
  obtain ⟨hi1, hi2⟩ := z_ix hi hj hNN
  subst hxv
  subst hws
  rw [← hi2] at kk
  obtain ⟨l, y, D, p, e, R, s, m, args, below, meth, c, nL, A, Q⟩ := E
  obtain ⟨hx, hb, hml, hown, hts, hK, hA, hfr, hlo, hnl, hN, hV⟩ := h
  intro H locs ls hl hP hD hS
  subst hcA
  exact va_zast hx hb hK hP hD hS q0 1 he rfl hi1 hd (fun H locs hP hD hS => kk H locs ls hl hP hD hS)
theorem z_qald {E : zE} {own : String} {cc : ByteArray} {Ts : List Cond} {fr lo nL k n pc : Nat} {lv : List (Nat × Value)} {ws : va_W} {st : List Value} (h : zC E own cc Ts fr lo nL) (q0 : Nat) {a N : Nat} {cA : ClassId} {f : Nat → Option Nat} {i : Int32} (j : Nat) (he : ws[q0]? = some (a, .inl (cA, N, .inr (.inr (.inr (.inr f)))))) (hcA : cA = (zy E).1 4) (hi : i = nI j) (hj : j < N) (hNN : N < 2 ^ 31) (hd : decode cc pc = .ok (.aaload, 1)) (kk : Z E k n lv ws (pc + 1) (va_rf (f j) :: st)) : Z E k n lv ws pc (.int i :: .ref a :: st) := by
  obtain ⟨hi1, hi2⟩ := z_ix hi hj hNN
  rw [← hi2] at kk
  obtain ⟨l, y, D, p, e, R, s, m, args, below, meth, c, nL, A, Q⟩ := E
  obtain ⟨hx, hb, hml, hown, hts, hK, hA, hfr, hlo, hnl, hN, hV⟩ := h
  intro H locs ls hl hP hD hS
  subst hcA
  exact va_aldq hx hb hK hP q0 4 he rfl hi1 hd (kk H locs ls hl hP hD hS)
theorem z_alen {E : zE} {own : String} {cc : ByteArray} {Ts : List Cond} {fr lo nL k n pc : Nat} {lv : List (Nat × Value)} {ws : va_W} {st : List Value} (h : zC E own cc Ts fr lo nL) (q0 t0 : Nat) {a : Nat} {cA : ClassId} {x : vp_A} {ty : FieldType} (v : Int32) (he : ws[q0]? = some (a, .inl (cA, x))) (ht : (zTys (zy E))[t0]? = some (cA, ty)) (hv : Int32.ofNat x.1 = v) (hd : decode cc pc = .ok (.arraylength, 1)) (kk : Z E k n lv ws (pc + 1) (.int v :: st)) : Z E k n lv ws pc (.ref a :: st) := by
  obtain ⟨l, y, D, p, e, R, s, m, args, below, meth, c, nL, A, Q⟩ := E
  obtain ⟨hx, hb, hml, hown, hts, hK, hA, hfr, hlo, hnl, hN, hV⟩ := h
  intro H locs ls hl hP hD hS
  exact va_alen hx hb hK hP q0 t0 he ht hv hd (kk H locs ls hl hP hD hS)
theorem z_iret {E : zE} {own : String} {cc : ByteArray} {Ts : List Cond} {fr lo nL pc : Nat} {lv : List (Nat × Value)} {ws : va_W} (h : zC E own cc Ts fr lo nL) {rt : Option FieldType} {ws' : va_W} {r : Option Value} (hf : zF E rt ws' r) {x : Int32} (hrt : rt = some .int) (hv : r = some (.int x)) (hws : ws = ws') (hd : decode cc pc = .ok (.ireturn, 1)) : Z E 0 0 lv ws pc ([.int x]) := by
  subst hws
  obtain ⟨l, y, D, p, e, R, s, m, args, below, meth, c, nL, A, Q⟩ := E
  obtain ⟨hx, hb, hml, hown, hts, hK, hA, hfr, hlo, hnl, hN, hV⟩ := h
  obtain ⟨hr, hlk, rfl⟩ := hf
  intro H locs ls hl hP hD hS
  exact by subst hrt hv; exact W.iret hx hb hr (fun t ht hW => ⟨⟨rfl, by rw [ht]; exact hP⟩, hS.F ht⟩) hS.2.2 hd hlk
theorem z_zret {E : zE} {own : String} {cc : ByteArray} {Ts : List Cond} {fr lo nL pc : Nat} {lv : List (Nat × Value)} {ws : va_W} (h : zC E own cc Ts fr lo nL) {rt : Option FieldType} {ws' : va_W} {r : Option Value} (hf : zF E rt ws' r) {x : Int32} (hrt : rt = some .boolean) (hnz : narrow .boolean (.int x) = .int x) (hv : r = some (.int x)) (hws : ws = ws') (hd : decode cc pc = .ok (.ireturn, 1)) : Z E 0 0 lv ws pc ([.int x]) := by
  subst hws
  obtain ⟨l, y, D, p, e, R, s, m, args, below, meth, c, nL, A, Q⟩ := E
  obtain ⟨hx, hb, hml, hown, hts, hK, hA, hfr, hlo, hnl, hN, hV⟩ := h
  obtain ⟨hr, hlk, rfl⟩ := hf
  intro H locs ls hl hP hD hS
  exact by subst hrt hv; exact W.zret hx hb hr hnz (fun t ht hW => ⟨⟨rfl, by rw [ht]; exact hP⟩, hS.F ht⟩) hS.2.2 hd hlk
theorem z_lret {E : zE} {own : String} {cc : ByteArray} {Ts : List Cond} {fr lo nL pc : Nat} {lv : List (Nat × Value)} {ws : va_W} (h : zC E own cc Ts fr lo nL) {rt : Option FieldType} {ws' : va_W} {r : Option Value} (hf : zF E rt ws' r) {x : Int64} (hrt : rt = some .long) (hv : r = some (.long x)) (hws : ws = ws') (hd : decode cc pc = .ok (.lreturn, 1)) : Z E 0 0 lv ws pc ([.long x]) := by
  subst hws
  obtain ⟨l, y, D, p, e, R, s, m, args, below, meth, c, nL, A, Q⟩ := E
  obtain ⟨hx, hb, hml, hown, hts, hK, hA, hfr, hlo, hnl, hN, hV⟩ := h
  obtain ⟨hr, hlk, rfl⟩ := hf
  intro H locs ls hl hP hD hS
  exact by subst hrt hv; exact W.lret hx hb hr (fun t ht hW => ⟨⟨rfl, by rw [ht]; exact hP⟩, hS.F ht⟩) hS.2.2 hd hlk
theorem z_vret {E : zE} {own : String} {cc : ByteArray} {Ts : List Cond} {fr lo nL pc : Nat} {lv : List (Nat × Value)} {ws : va_W} (h : zC E own cc Ts fr lo nL) {rt : Option FieldType} {ws' : va_W} {r : Option Value} (hf : zF E rt ws' r) (hrt : rt = none) (hv : r = none) (hws : ws = ws') (hd : decode cc pc = .ok (.return_, 1)) : Z E 0 0 lv ws pc ([]) := by
  subst hws
  obtain ⟨l, y, D, p, e, R, s, m, args, below, meth, c, nL, A, Q⟩ := E
  obtain ⟨hx, hb, hml, hown, hts, hK, hA, hfr, hlo, hnl, hN, hV⟩ := h
  obtain ⟨hr, hlk, rfl⟩ := hf
  intro H locs ls hl hP hD hS
  exact by subst hrt hv; exact W.vret hx hb hr (fun t ht hW => ⟨⟨rfl, by rw [ht]; exact hP⟩, hS.F ht⟩) hS.2.2 hd hlk
def zput : va_W → List Nat → va_W → va_W
  | ws, i :: is, e :: B => (zput ws is B).set i e
  | ws, [], _ => ws
  | ws, _ :: _, [] => ws
theorem zput_get : ∀ (is : List Nat) (B ws : va_W) (j : Nat) (q : Nat × va_E), is.length = B.length → (zput ws is B)[j]? = some q → (∃ t : Nat, is[t]? = some j ∧ B[t]? = some q) ∨ (j ∉ is ∧ ws[j]? = some q)
  | [], B, ws, j, q, _, h => Or.inr ⟨List.not_mem_nil, by simpa [zput] using h⟩
  | i :: is, [], ws, j, q, hl, h => by simp at hl
  | i :: is, e :: B, ws, j, q, hl, h => by
    have hl' : is.length = B.length := by simpa using hl
    by_cases hj : j = i
    · subst hj
      have hlt : j < (zput ws is B).length := by
        have := (List.getElem?_eq_some_iff.mp h).1
        simpa [zput] using this
      have h1 : ((zput ws is B).set j e)[j]? = some q := h
      rw [List.getElem?_set_self hlt] at h1
      exact Or.inl ⟨0, rfl, h1⟩
    · have h1 : ((zput ws is B).set i e)[j]? = some q := h
      rw [List.getElem?_set_ne (Ne.symm hj)] at h1
      rcases zput_get is B ws j q hl' h1 with ⟨t, h2, h3⟩ | ⟨h2, h3⟩
      · exact Or.inl ⟨t + 1, h2, h3⟩
      · exact Or.inr ⟨fun hm => (List.mem_cons.mp hm).elim hj h2, h3⟩
theorem zset_fst {l : va_W} {i : Nat} {e : Nat × va_E} (h : l[i]?.map Prod.fst = some e.1) : (l.set i e).map Prod.fst = l.map Prod.fst := by
  refine List.ext_getElem? fun j => ?_
  rw [List.getElem?_map, List.getElem?_map]
  by_cases hj : j = i
  · subst hj
    cases hlj : l[j]? with
    | none => rw [hlj] at h; cases h
    | some x =>
      rw [hlj] at h
      rw [List.getElem?_set_self (List.getElem?_eq_some_iff.mp hlj).1]
      exact h.symm
  · rw [List.getElem?_set_ne (Ne.symm hj)]
theorem zmap_get {a b : va_W} (h : a.map Prod.fst = b.map Prod.fst) (i : Nat) : a[i]?.map Prod.fst = b[i]?.map Prod.fst := by
  rw [← List.getElem?_map, ← List.getElem?_map, h]
theorem zput_fst : ∀ (is : List Nat) (B ws : va_W), is.map (fun i => ws[i]?.map Prod.fst) = B.map (fun e => some e.1) → (zput ws is B).map Prod.fst = ws.map Prod.fst
  | [], B, ws, h => by cases B with
    | nil => rfl
    | cons e B => simp at h
  | i :: is, [], ws, h => by simp at h
  | i :: is, e :: B, ws, h => by
    have h1 : ws[i]?.map Prod.fst = some e.1 := by
      have := List.cons.inj h
      exact this.1
    have h2 := zput_fst is B ws (List.cons.inj h).2
    show ((zput ws is B).set i e).map Prod.fst = _
    rw [zset_fst (by rw [zmap_get h2]; exact h1), h2]
theorem zD_of {A : Nat → Prop} {ws ws' : va_W} (h : ws'.map Prod.fst = ws.map Prod.fst) (hD : va_D A ws) : va_D A ws' := by
  have key : ∀ (k : Nat) (q : Nat × va_E), ws'[k]? = some q → ∃ q0, ws[k]? = some q0 ∧ q0.1 = q.1 := by
    intro k q hk
    have h1 := zmap_get h k
    rw [hk] at h1
    cases hw : ws[k]? with
    | none => rw [hw] at h1; cases h1
    | some x => rw [hw] at h1; exact ⟨x, rfl, (Option.some.inj h1).symm⟩
  refine ⟨fun i j x y hi hj hxy => ?_, fun k q hk => ?_⟩
  · obtain ⟨x0, h1, h2⟩ := key i x hi
    obtain ⟨y0, h3, h4⟩ := key j y hj
    exact hD.1 i j x0 y0 h1 h3 (h2.trans (hxy.trans h4.symm))
  · obtain ⟨q0, h1, h2⟩ := key k q hk
    rw [← h2]
    exact hD.2 k q0 h1
theorem zB_fst {ws B B' : va_W} {is : List Nat} (hB : is.map (fun i => ws[i]?) = B.map some) (hm : B'.map Prod.fst = B.map Prod.fst) : is.map (fun i => ws[i]?.map Prod.fst) = B'.map (fun e => some e.1) := by
  have h1 : is.map (fun i => ws[i]?.map Prod.fst) = (is.map (fun i => ws[i]?)).map (fun o => o.map Prod.fst) := by rw [List.map_map]; rfl
  rw [h1, hB, List.map_map]
  have h2 : B'.map (fun e => some e.1) = (B'.map Prod.fst).map some := by rw [List.map_map]; rfl
  rw [h2, hm, List.map_map]
  rfl
theorem zput_P {D : va_G} {A : Nat → Prop} {ws B B' : va_W} {H H1 : Heap} (hP : va_P D vwCl ws H) (hD : va_D A ws) (is : List Nat) (hB : is.map (fun i => ws[i]?) = B.map some) (hm : B'.map Prod.fst = B.map Prod.fst) (hk : ∀ q : Nat, q < H.size → ¬ va_A B H.size q → H1[q]? = H[q]?) (hP1 : va_P D vwCl B' H1) : va_P D vwCl (zput ws is B') H1 := by
  have hl : is.length = B'.length := by
    have h1 := congrArg List.length hB
    have h2 := congrArg List.length hm
    simp only [List.length_map] at h1 h2
    omega
  intro j q hq
  rcases zput_get is B' ws j q hl hq with ⟨t, h1, h2⟩ | ⟨h1, h2⟩
  · exact hP1 t q h2
  · refine (hP j q h2).kept (hk q.1 (hP j q h2).lt ?_)
    rintro (⟨t, e, h3⟩ | h3)
    · have h4 : (is.map (fun i => ws[i]?))[t]? = some (some (q.1, e)) := by rw [hB, List.getElem?_map, h3]; rfl
      rw [List.getElem?_map] at h4
      cases hi : is[t]? with
      | none => rw [hi] at h4; cases h4
      | some i =>
        rw [hi] at h4
        have h5 : ws[i]? = some (q.1, e) := Option.some.inj h4
        have h6 := hD.1 j i q (q.1, e) h2 h5 rfl
        subst h6
        exact h1 (List.mem_of_getElem? hi)
    · have := (hP j q h2).lt
      omega
section ZCALL
variable {p : Program} {l : Launch} {e : Env} {R : Room} {s : State} {m : MethodId} {args : Array Value} {below : List Frame} {meth : Method} {c : Code} {H : Heap} {locs : List Loc} {k n : Nat} {Q : State → Prop}
theorem z_run {D : va_G} {A : Nat → Prop} {ws B B' : va_W} {r : Option Value} {pc : Nat} {ls : Array Slot} {stk st : List Value} {a : Array Value} (hr : va_Run p l e R s m args below meth c H locs k n 0 0 (F0 m pc ls stk) st (zQ D B' r (va_A B H.size) a) (va_A B H.size)) (hP : va_P D vwCl ws H) (hD : va_D A ws) (hS : va_S A s.heap H locs) (hA : ∀ q : Nat, s.heap.size ≤ q → A q) (is : List Nat) (hB : is.map (fun i => ws[i]?) = B.map some) (hm : B'.map Prod.fst = B.map Prod.fst)
    (kk : ∀ (H1 : Heap) (locs1 : List Loc), va_P D vwCl (zput ws is B') H1 → va_D A (zput ws is B') → va_S A s.heap H1 locs1 → W p l e R s m args below meth c H1 locs1 k n Q (F0 m (pc + 3) ls (r.toList ++ st))) : W p l e R s m args below meth c H locs k n Q (F0 m pc ls stk) := by
  have hF : ∀ q, va_A B H.size q → A q := va_free hD hS hA is hB
  intro T hT X
  obtain ⟨v, st₀, t, T', L, h0, X', hL, e1, e2, ⟨⟨hv, hPB⟩, hz, hk⟩, st9⟩ := hr T hT X
  cases hv
  rw [h0] at hz hk
  obtain ⟨t2, a1, b1⟩ := kk T'.heap (locs ++ L) (zput_P hP hD is hB hm (fun q h1 h2 => by rw [e1]; exact hk q h1 h2) (by rw [e1]; exact hPB)) (zD_of (zput_fst is B' ws (zB_fst hB hm)) hD)
    ⟨Nat.le_trans hS.1 (by rw [e1]; exact hz), fun q h1 h2 => by rw [e1, hk q (Nat.lt_of_lt_of_le h1 hS.1) (fun z => h2 (hF q z))]; exact hS.2.1 q h1 h2, fun q hq => by
      rcases List.mem_append.mp hq with h | h
      · exact hS.2.2 q h
      · exact hF _ (hL q h)⟩ T' rfl X'
  exact ⟨t2, st9 t2 a1, b1⟩
/-- the callee's start, out of the caller's world -/
theorem z_pre {y : zY} {D : va_G} {A : Nat → Prop} {ws B : va_W} {is : List Nat} (hP : va_P D vwCl ws H) (hD : va_D A ws) (hS : va_S A s.heap H locs) (hA : ∀ q : Nat, s.heap.size ≤ q → A q) (hK : va_K D vwCl (zTys y) s) (hN : zN s) (hV : zV y A s s.heap) (hB : is.map (fun i => ws[i]?) = B.map some) (hnd : va_nd is = true) (as : List Value) :
    FrameBlind (va_Pc as (zB y D B H.size)) ∧ ∀ U : State, U.heap = H → s.WarmedH U.vm → va_Pc as (zB y D B H.size) as.toArray U := by
  refine ⟨fun a U g mk q => ?_, fun U hU hW => ⟨rfl, by rw [hU], ?_, va_K.moved hW.alike hK, (hD.sub is hnd hB).weaken (fun _ _ _ _ => trivial), hN.warm hW, ?_⟩⟩
  · obtain ⟨q0, q1, qP, qK, qD, qN, qV⟩ := q
    exact ⟨q0, q1, qP, va_K.moved (u := U) (U := U.calling g mk a) (Vm.Alike.refl U.vm) qK, qD, zN.same (u := U) (U := U.calling g mk a) rfl qN, zV.moved (u := U) (U := U.calling g mk a) (Vm.Alike.refl U.vm) qV⟩
  · rw [hU]
    intro t q hq
    have h1 : (is.map (fun i => ws[i]?))[t]? = some (some q) := by rw [hB, List.getElem?_map, hq]; rfl
    rw [List.getElem?_map] at h1
    cases hi : is[t]? with
    | none => rw [hi] at h1; cases h1
    | some i => rw [hi] at h1; exact hP i q (Option.some.inj h1)
  · rw [hU]
    exact ((hV.kept (fun a h1 h2 => hS.2.1 a h1 h2)).narrow (va_free hD hS hA is hB)).moved hW.alike
end ZCALL
theorem z_callV {E : zE} {own : String} {cc : ByteArray} {Ts : List Cond} {fr lo nL k n pc : Nat} {lv : List (Nat × Value)} {ws : va_W} {st stk : List Value} (h : zC E own cc Ts fr lo nL) {nm : MethodName} {T T' : List Cond} {fr1 lo1 maxL ix : Nat} {bytes : ByteArray} {ret : Option FieldType} {As : List Value} {B B' ws2 : va_W} {r : Option Value} (cnt : Nat) {a q0 ci N0 : Nat} {T0 : u_T} {C : String} {fs : List Value} (hc : zM (zl E) (zy E) (zD E) nm T fr1 lo1 (.ref a :: As) B B' r) (hG : GoodIn Ts (wsV own ix C nm T)) (hdc : nm.cls = C ∧ nm.cls ≠ "java/lang/invoke/MethodHandle" ∧ nm.cls ≠ "java/lang/invoke/VarHandle" ∧ (parseMethodDescriptor nm.desc).map (fun d => d.parameters.length) = some cnt) (hrecv : ws[q0]? = some (a, .inr (ci, fs))) (hcl : vwCl[ci]? = some (C, T0, N0)) (hT : T = Cond.code nm bytes maxL ret :: T') (hR : fr1 + 1 ≤ fr ∧ 8 + (maxL + 11) + lo1 ≤ lo) (is : List Nat) (hB : is.map (fun i => ws[i]?) = B.map some) (hnd : va_nd is = true) (hws : zput ws is B' = ws2) (hcat : (st.map fun v => v.category).sum ≤ 8) (hcnt : As.length = cnt) (hstk : stk = As.reverse ++ .ref a :: st) (hd : decode cc pc = .ok (.invokevirtual ix, 3)) (kk : Z E k n lv ws2 (pc + 3) (r.toList ++ st)) (hkR : k ≤ E.2.2.2.2.2.1.cells ∧ n ≤ E.2.2.2.2.2.1.slots) : Z E k n lv ws pc stk := by
  obtain ⟨l, y, D, p, e, R, s, m, args, below, meth, c, nL, A, Q⟩ := E
  obtain ⟨hx, hb, hml, hown, hts, hK, hA, hfr, hlo, hnl, hN, hV⟩ := h
  subst hws hstk
  subst hfr hlo hnl
  intro H locs ls hl hP hD hS
  have hpre := z_pre (y := y) hP hD hS hA hK hN hV hB hnd (.ref a :: As)
  refine z_run (B := B) (B' := B') (r := r) (st := st) (a := (.ref a :: As).toArray) ?_ hP hD hS hA is hB hc.1 (fun H1 locs1 hP1 hD1 hS1 => kk H1 locs1 ls hl hP1 hD1 hS1)
  exact va_runV (As := As) (rest := st) ⟨hx, hb, hml, hown, hts⟩ (hc.2 H.size) (cwV cnt hts hG hT rfl rfl hdc ⟨hR.1, hR.2⟩) ⟨hpre.1, va_recv hK hP (q0 := q0) (ci := ci) hcl hrecv, hpre.2⟩ rfl hcnt hl.1 rfl (lv_room hcat) hd ⟨hkR.1, hkR.2⟩
theorem z_callS {E : zE} {own : String} {cc : ByteArray} {Ts : List Cond} {fr lo nL k n pc : Nat} {lv : List (Nat × Value)} {ws : va_W} {st stk : List Value} (h : zC E own cc Ts fr lo nL) {nm : MethodName} {T T' : List Cond} {fr1 lo1 maxL ix : Nat} {bytes : ByteArray} {ret : Option FieldType} {As : List Value} {B B' ws2 : va_W} {r : Option Value} (cnt : Nat)  (hc : zM (zl E) (zy E) (zD E) nm T fr1 lo1 (As) B B' r) (hG : GoodIn Ts (va_wsS own ix nm T)) (hdc : nm.cls ≠ "java/lang/invoke/MethodHandle" ∧ nm.cls ≠ "java/lang/invoke/VarHandle" ∧ (parseMethodDescriptor nm.desc).map (fun d => d.parameters.length) = some cnt) (hT : T = Cond.code nm bytes maxL ret :: T') (hR : fr1 + 1 ≤ fr ∧ 8 + (maxL + 11) + lo1 ≤ lo) (is : List Nat) (hB : is.map (fun i => ws[i]?) = B.map some) (hnd : va_nd is = true) (hws : zput ws is B' = ws2) (hcat : (st.map fun v => v.category).sum ≤ 8) (hcnt : As.length = cnt) (hstk : stk = As.reverse ++ st) (hd : decode cc pc = .ok (.invokestatic ix, 3)) (kk : Z E k n lv ws2 (pc + 3) (r.toList ++ st)) (hkR : k ≤ E.2.2.2.2.2.1.cells ∧ n ≤ E.2.2.2.2.2.1.slots) : Z E k n lv ws pc stk := by
  obtain ⟨l, y, D, p, e, R, s, m, args, below, meth, c, nL, A, Q⟩ := E
  obtain ⟨hx, hb, hml, hown, hts, hK, hA, hfr, hlo, hnl, hN, hV⟩ := h
  subst hws hstk
  subst hfr hlo hnl
  intro H locs ls hl hP hD hS
  have hpre := z_pre (y := y) hP hD hS hA hK hN hV hB hnd (As)
  refine z_run (B := B) (B' := B') (r := r) (st := st) (a := (As).toArray) ?_ hP hD hS hA is hB hc.1 (fun H1 locs1 hP1 hD1 hS1 => kk H1 locs1 ls hl hP1 hD1 hS1)
  exact va_runS (As := As) (rest := st) ⟨hx, hb, hml, hown, hts⟩ (hc.2 H.size) (va_cwS cnt hts hG hT rfl rfl hdc ⟨hR.1, hR.2⟩) hpre rfl hcnt hl.1 rfl (lv_room hcat) hd ⟨hkR.1, hkR.2⟩
theorem z_callVN {E : zE} {own : String} {cc : ByteArray} {Ts : List Cond} {fr lo nL k n pc : Nat} {lv : List (Nat × Value)} {ws : va_W} {st stk : List Value} (h : zC E own cc Ts fr lo nL) {nm : MethodName} {T T' : List Cond} {fr1 lo1 maxL ix : Nat} {bytes : ByteArray} {ret : Option FieldType} {As : List Value} {B B' ws2 : va_W} {r : Option Value} (cnt : Nat) {a q0 ci N0 : Nat} {T0 : u_T} {C : String} {fs : List Value} {host : String} (hc : zM (zl E) (zy E) (zD E) nm T fr1 lo1 (.ref a :: As) B B' r) (hG : GoodIn Ts T) (hnest : Cond.methodLinkNest own ix nm host ∈ zNest) (hini : Cond.initialized nm.cls ∈ Ts) (hins : Cond.instanceMethod nm ∈ Ts) (hsel : Cond.selects C nm nm ∈ Ts) (hdc : nm.cls ≠ "java/lang/invoke/MethodHandle" ∧ nm.cls ≠ "java/lang/invoke/VarHandle" ∧ (parseMethodDescriptor nm.desc).map (fun d => d.parameters.length) = some cnt) (hrecv : ws[q0]? = some (a, .inr (ci, fs))) (hcl : vwCl[ci]? = some (C, T0, N0)) (hT : T = Cond.code nm bytes maxL ret :: T') (hR : fr1 + 1 ≤ fr ∧ 8 + (maxL + 11) + lo1 ≤ lo) (is : List Nat) (hB : is.map (fun i => ws[i]?) = B.map some) (hnd : va_nd is = true) (hws : zput ws is B' = ws2) (hcat : (st.map fun v => v.category).sum ≤ 8) (hcnt : As.length = cnt) (hstk : stk = As.reverse ++ .ref a :: st) (hd : decode cc pc = .ok (.invokevirtual ix, 3)) (kk : Z E k n lv ws2 (pc + 3) (r.toList ++ st)) (hkR : k ≤ E.2.2.2.2.2.1.cells ∧ n ≤ E.2.2.2.2.2.1.slots) : Z E k n lv ws pc stk := by
  obtain ⟨l, y, D, p, e, R, s, m, args, below, meth, c, nL, A, Q⟩ := E
  obtain ⟨hx, hb, hml, hown, hts, hK, hA, hfr, hlo, hnl, hN, hV⟩ := h
  subst hws hstk
  subst hfr hlo hnl
  intro H locs ls hl hP hD hS
  have hpre := z_pre (y := y) hP hD hS hA hK hN hV hB hnd (.ref a :: As)
  refine z_run (B := B) (B' := B') (r := r) (st := st) (a := (.ref a :: As).toArray) ?_ hP hD hS hA is hB hc.1 (fun H1 locs1 hP1 hD1 hS1 => kk H1 locs1 ls hl hP1 hD1 hS1)
  exact va_runVN (As := As) (rest := st) ⟨hx, hb, hml, hown, hts⟩ (hc.2 H.size) ⟨va_cnB cnt hts hG hT rfl rfl (hN.1 _ hnest) (hts _ hini) hdc ⟨hR.1, hR.2⟩, hts _ hins, hts _ hsel⟩ ⟨hpre.1, va_recv hK hP (q0 := q0) (ci := ci) hcl hrecv, hpre.2⟩ rfl hcnt hl.1 rfl (lv_room hcat) hd ⟨hkR.1, hkR.2⟩
theorem z_callSN {E : zE} {own : String} {cc : ByteArray} {Ts : List Cond} {fr lo nL k n pc : Nat} {lv : List (Nat × Value)} {ws : va_W} {st stk : List Value} (h : zC E own cc Ts fr lo nL) {nm : MethodName} {T T' : List Cond} {fr1 lo1 maxL ix : Nat} {bytes : ByteArray} {ret : Option FieldType} {As : List Value} {B B' ws2 : va_W} {r : Option Value} (cnt : Nat) {host : String} (hc : zM (zl E) (zy E) (zD E) nm T fr1 lo1 (As) B B' r) (hG : GoodIn Ts T) (hnest : Cond.methodLinkNest own ix nm host ∈ zNest) (hini : Cond.initialized nm.cls ∈ Ts) (hstt : Cond.static nm ∈ Ts) (hdc : nm.cls ≠ "java/lang/invoke/MethodHandle" ∧ nm.cls ≠ "java/lang/invoke/VarHandle" ∧ (parseMethodDescriptor nm.desc).map (fun d => d.parameters.length) = some cnt) (hT : T = Cond.code nm bytes maxL ret :: T') (hR : fr1 + 1 ≤ fr ∧ 8 + (maxL + 11) + lo1 ≤ lo) (is : List Nat) (hB : is.map (fun i => ws[i]?) = B.map some) (hnd : va_nd is = true) (hws : zput ws is B' = ws2) (hcat : (st.map fun v => v.category).sum ≤ 8) (hcnt : As.length = cnt) (hstk : stk = As.reverse ++ st) (hd : decode cc pc = .ok (.invokestatic ix, 3)) (kk : Z E k n lv ws2 (pc + 3) (r.toList ++ st)) (hkR : k ≤ E.2.2.2.2.2.1.cells ∧ n ≤ E.2.2.2.2.2.1.slots) : Z E k n lv ws pc stk := by
  obtain ⟨l, y, D, p, e, R, s, m, args, below, meth, c, nL, A, Q⟩ := E
  obtain ⟨hx, hb, hml, hown, hts, hK, hA, hfr, hlo, hnl, hN, hV⟩ := h
  subst hws hstk
  subst hfr hlo hnl
  intro H locs ls hl hP hD hS
  have hpre := z_pre (y := y) hP hD hS hA hK hN hV hB hnd (As)
  refine z_run (B := B) (B' := B') (r := r) (st := st) (a := (As).toArray) ?_ hP hD hS hA is hB hc.1 (fun H1 locs1 hP1 hD1 hS1 => kk H1 locs1 ls hl hP1 hD1 hS1)
  exact va_runSN (As := As) (rest := st) ⟨hx, hb, hml, hown, hts⟩ (hc.2 H.size) ⟨va_cnB cnt hts hG hT rfl rfl (hN.1 _ hnest) (hts _ hini) hdc ⟨hR.1, hR.2⟩, hts _ hstt, trivial⟩ hpre rfl hcnt hl.1 rfl (lv_room hcat) hd ⟨hkR.1, hkR.2⟩
theorem z_min {E : zE} {own : String} {cc : ByteArray} {Ts : List Cond} {fr lo nL k n pc : Nat} {lv : List (Nat × Value)} {ws : va_W} {st : List Value} (h : zC E own cc Ts fr lo nL) {ix : Nat} {x y : Int32} (hw1 : Cond.methodLink own ix Lib.Math.min.name ∈ Ts) (hw2 : Cond.static Lib.Math.min.name ∈ Ts) (hw3 : Cond.initialized "java/lang/Math" ∈ Ts) (hw4 : Cond.code Lib.Math.min.name Lib.Math.min.code 2 (some .int) ∈ Ts) (hR : 1 ≤ fr ∧ (st.map fun v => v.category).sum + 13 ≤ lo) (hkR : k ≤ E.2.2.2.2.2.1.cells ∧ n ≤ E.2.2.2.2.2.1.slots) (hd : decode cc pc = .ok (.invokestatic ix, 3)) (kk : Z E k n lv ws (pc + 3) (.int (if y < x then y else x) :: st)) : Z E k n lv ws pc (.int y :: .int x :: st) := by
  obtain ⟨l, y, D, p, e, R, s, m, args, below, meth, c, nL, A, Q⟩ := E
  obtain ⟨hx, hb, hml, hown, hts, hK, hA, hfr, hlo, hnl, hN, hV⟩ := h
  subst hfr hlo hnl
  intro H locs ls hl hP hD hS
  exact va_mmin hx hb (hml.trans hl.1.symm) hown (hts _ hw1) (hts _ hw2) (hts _ hw3) (hts _ hw4) hR.1 hR.2 hkR.1 hkR.2 hd (kk H locs ls hl hP hD hS)
theorem z_copy {E : zE} {own : String} {cc : ByteArray} {Ts : List Cond} {fr lo nL k n pc : Nat} {lv : List (Nat × Value)} {ws : va_W} {st : List Value} (h : zC E own cc Ts fr lo nL) {ix : Nat} (q0 q1 : Nat) {a0 a1 n0 n1 : Nat} {c0 c1 : ClassId} {f g : Nat → Int32} {sp dp cn : Int32} (sN dN cN : Nat) {ws' : va_W} (he0 : ws[q0]? = some (a0, .inl (c0, n0, .inl f))) (he1 : ws[q1]? = some (a1, .inl (c1, n1, .inl g))) (hc0 : c0 = (zy E).1 0) (hc1 : c1 = (zy E).1 0) (hsp : sp = nI sN) (hdp : dp = nI dN) (hcn : cn = nI cN) (hn0 : sN + cN ≤ n0) (hn1 : dN + cN ≤ n1) (hb0 : n0 < 2 ^ 31) (hb1 : n1 < 2 ^ 31) (hw1 : Cond.methodLink own ix arraycopyName ∈ Ts) (hw2 : Cond.native arraycopyName ∈ Ts) (hw3 : Cond.static arraycopyName ∈ Ts) (hw4 : Cond.initialized "java/lang/System" ∈ Ts) (hR : 1 ≤ fr ∧ (st.map fun v => v.category).sum + (nativeFrameWords "java/lang/System" "arraycopy" 5 + 11) ≤ lo) (hws : ws.set q1 (a1, .inl (c1, n1, .inl (va_cpy f g sN dN cN))) = ws') (hd : decode cc pc = .ok (.invokestatic ix, 3)) (kk : Z E k n lv ws' (pc + 3) st) : Z E k n lv ws pc (.int cn :: .int dp :: .ref a1 :: .int sp :: .ref a0 :: st) := by
  subst hsp hdp hcn
  have e1 : (nI sN).toNatClampNeg = sN := nI_clamp (by omega)
  have e2 : (nI dN).toNatClampNeg = dN := nI_clamp (by omega)
  have e3 : (nI cN).toNatClampNeg = cN := nI_clamp (by omega)
  subst hws
  obtain ⟨l, y, D, p, e, R, s, m, args, below, meth, c, nL, A, Q⟩ := E
  obtain ⟨hx, hb, hml, hown, hts, hK, hA, hfr, hlo, hnl, hN, hV⟩ := h
  subst hfr hlo hnl
  subst hc0 hc1
  intro H locs ls hl hP hD hS
  refine va_copyi hx hb (hml.trans hl.1.symm) hown (hts _ hw1) (hts _ hw2) (hts _ hw3) (hts _ hw4) hK hP hD hS q0 q1 0 0 he0 he1 rfl rfl rfl (nI_pos (by omega)) (nI_pos (by omega)) (nI_pos (by omega)) (by rw [e1, e3]; exact hn0) (by rw [e2, e3]; exact hn1) (fun i hi => rfl) hR.1 hR.2 hd (fun H locs hP hD hS => ?_)
  rw [e1, e2, e3] at hP hD
  exact kk H locs ls hl hP hD hS
theorem z_look {E : zE} {own : String} {cc : ByteArray} {Ts : List Cond} {fr lo nL k n pc : Nat} {lv : List (Nat × Value)} {ws : va_W} {st : List Value} (h : zC E own cc Ts fr lo nL) {dflt : Int} {ps : Array (Int × Int)} {len : Nat} {x : Int32} {off : Int} (tgt : Nat) (hd : decode cc pc = .ok (.lookupswitch dflt ps, len)) (hp : (ps.toList.zip (ps.toList.drop 1)).all (fun (a, next) => a.1 < next.1) = true) (ho : Op.lookupswitch.offset ps.toList dflt x.toInt = off) (ht : (pc : Int) + off = (tgt : Int)) (kk : Z E k n lv ws tgt st) : Z E k n lv ws pc (.int x :: st) := by
  obtain ⟨l, y, D, p, e, R, s, m, args, below, meth, c, nL, A, Q⟩ := E
  obtain ⟨hx, hb, hml, hown, hts, hK, hA, hfr, hlo, hnl, hN, hV⟩ := h
  intro H locs ls hl hP hD hS
  exact lv_lookup hx hb hd hp ho ht (kk H locs ls hl hP hD hS)
theorem z_cellE {D : va_G} {a : Nat} {cA : ClassId} {N : Nat} {f g : Nat → Int32} {H : Heap} (hfg : ∀ j, j < N → f j = g j) (h : va_at D vwCl (a, .inl (cA, N, .inl f)) H) : va_at D vwCl (a, .inl (cA, N, .inl g)) H := by
  have h1 : H[a]? = some (vp_cell cA (N, .inl f)) := h
  show H[a]? = some (vp_cell cA (N, .inl g))
  rw [h1, vp_cell_i, vp_cell_i]
  have : (Array.ofFn (n := N) fun j => Value.int (f j.val)) = Array.ofFn (n := N) fun j => Value.int (g j.val) := by
    congr 1
    funext j
    rw [hfg j.val j.isLt]
  unfold arrV
  rw [this]
theorem z_PE {D : va_G} {ws : va_W} {q a : Nat} {cA : ClassId} {N : Nat} {f g : Nat → Int32} {H : Heap} (hq : q < ws.length) (hfg : ∀ j, j < N → f j = g j) (h : va_P D vwCl (ws.set q (a, .inl (cA, N, .inl f))) H) : va_P D vwCl (ws.set q (a, .inl (cA, N, .inl g))) H := by
  intro k x hk
  by_cases hkq : k = q
  · subst hkq
    rw [List.getElem?_set_self hq] at hk
    cases hk
    exact z_cellE hfg (h k _ (List.getElem?_set_self hq))
  · rw [List.getElem?_set_ne (Ne.symm hkq)] at hk
    exact h k x (by rw [List.getElem?_set_ne (Ne.symm hkq)]; exact hk)
/-- an int row's cells by other words, as far as the row goes -/
theorem z_arrE {E : zE} {k n pc : Nat} {lv : List (Nat × Value)} {ws ws' : va_W} {st : List Value} (q : Nat) {a : Nat} {cA : ClassId} {N : Nat} {f g : Nat → Int32} (hfg : ∀ j, j < N → f j = g j) (he : ws[q]? = some (a, .inl (cA, N, .inl f))) (hws : ws.set q (a, .inl (cA, N, .inl g)) = ws') (kk : Z E k n lv ws' pc st) : Z E k n lv ws pc st := by
  obtain ⟨l, y, D, p, e, R, s, m, args, below, meth, c, nL, A, Q⟩ := E
  subst hws
  intro H locs ls hl hP hD hS
  have hq := (List.getElem?_eq_some_iff.mp he).1
  have e0 : ws.set q (a, .inl (cA, N, .inl f)) = ws := by
    have h2 := (List.getElem?_eq_some_iff.mp he).2
    rw [← h2]
    exact List.set_getElem_self hq
  exact kk H locs ls hl (z_PE hq hfg (by rw [e0]; exact hP)) (hD.set he) hS
theorem z_i1 {a : Nat} : nI a + Int32.ofInt 1 = nI (a + 1) := nI_1 a
theorem z_nn {x : Int32} (h : ¬ x < 0) : x = nI x.toNatClampNeg := by
  obtain ⟨j, hj, rfl⟩ := nI_of h
  rw [nI_clamp hj]
theorem z_ltn {x : Int32} {n : Nat} (hn : n < 2 ^ 31) (h : ¬ x < 0) (h2 : ¬ nI n ≤ x) : x.toNatClampNeg < n := by
  obtain ⟨j, hj, rfl⟩ := nI_of h
  rw [nI_clamp hj]
  rw [nI_leI hn hj] at h2
  omega
theorem z_minE (a : Nat) : (if nI a < nI a then nI a else nI a) = nI a := by split <;> rfl
theorem z_cpyE {f g : Nat → Int32} {N : Nat} : ∀ j, j < N → va_cpy f g 0 0 N j = f j := by
  intro j hj
  unfold va_cpy
  rw [if_pos ⟨Nat.zero_le _, by omega⟩]
  simp

