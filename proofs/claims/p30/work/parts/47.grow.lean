abbrev zs (E : zE) : State := E.2.2.2.2.2.2.1
def zQg (D : va_G) (M : List Nat → va_W) (nq : Nat) (r : Option Value) (A : Nat → Prop) : Array Value → State → Outcome → State → Prop := fun _ st o t => (o = .returned r ∧ ∃ qs : List Nat, qs.length = nq ∧ va_P D vwCl (M qs) t.heap ∧ va_D A (M qs)) ∧ va_F A st t
/-- a contract: of the world B the method makes the world B' and nq new cells behind it; X: what else it takes as given -/
def zG (X : State → Prop) (l : Launch) (y : zY) (D : va_G) (nm : MethodName) (T : List Cond) (fr lo mc ms : Nat) (as : List Value) (B : va_W) (B' N : List Nat → va_W) (nq : Nat) (r : Option Value) : Prop :=
  (∀ qs : List Nat, (B' qs).map Prod.fst = B.map Prod.fst) ∧ (∀ qs : List Nat, qs.length = nq → (N qs).map Prod.fst = qs) ∧ ∀ sz : Nat, Met l nm T ({ frames := fr, cells := mc, slots := ms, locals := lo }) (va_Pc as (fun U => zB y D B sz U ∧ X U)) (zQg D (fun qs => B' qs ++ N qs) nq r (va_A B sz)) mc ms (va_A B sz)
def zFG (E : zE) (ret : Option FieldType) (M : List Nat → va_W) (nq : Nat) (r : Option Value) (mc ms : Nat) (nn : String) : Prop := match E with
  | (l, y, D, p, e, R, s, m, args, below, meth, c, nL, A, Q) => meth.sig.returnType = ret ∧ meth.locks = false ∧ Q = MQ below (zQg D M nq r A) args s mc ms A ∧ R.cells = mc ∧ R.slots = ms ∧ meth.name = nn
theorem g_start {X : State → Prop} {l : Launch} {y : zY} {D : va_G} {own : String} {nm : MethodName} {T T' : List Cond} {fr lo mc ms maxL : Nat} {as : List Value} {B : va_W} {B' N : List Nat → va_W} {nq : Nat} {r : Option Value} {cc : ByteArray} {ret : Option FieldType} (hcls : nm.cls = own) (hy : plainName nm.cls = true) (hT : T = Cond.code nm cc maxL ret :: T') (hlen : (lg_sl as).length ≤ maxL) (hmap : ∀ qs : List Nat, (B' qs).map Prod.fst = B.map Prod.fst) (hN : ∀ qs : List Nat, qs.length = nq → (N qs).map Prod.fst = qs)
    (body : ∀ E : zE, zl E = l → zy E = y → zD E = D → zC E own cc T fr lo maxL → zFG E ret (fun qs => B' qs ++ N qs) nq r mc ms nm.name → X (zs E) → Z E 0 0 (lv_args 0 as) B 0 []) : zG X l y D nm T fr lo mc ms as B B' N nq r := by
  refine ⟨hmap, hN, fun sz => Met.ofW (cc := cc) (maxL := maxL) (ret := ret) hy hT ?_⟩
  intro p e s m args below meth c s₁ BB hml hv
  obtain ⟨rfl, ⟨hsz, hP, hK, hD0, hN, hV⟩, hX⟩ := hv
  subst hsz
  have hown : s.vm.findClass own = some m.cls := by rw [← hcls]; exact findClass_of_methodNamed BB.named
  have hl := lv_entry as (n := maxL) hlen
  rw [lg_entry_eq]
  refine body (l, y, D, p, e, (headSpec T ({ frames := fr, cells := mc, slots := ms, locals := lo })).room, s, m, as.toArray, below, meth, c, maxL, va_A B s.heap.size, MQ below (zQg D (fun qs => B' qs ++ N qs) nq r (va_A B s.heap.size)) as.toArray s mc ms (va_A B s.heap.size)) rfl rfl rfl ?_ ?_ hX s.heap [] _ hl hP (hD0.self) va_S.rf
  · exact ⟨BB.exec, BB.bytes, hml, hown, atoms_spec (ws := T) BB.pre, hK, fun q h => Or.inr h, rfl, rfl, rfl, hN, hV⟩
  · exact ⟨BB.returns, BB.notSynchronized, rfl, rfl, rfl, (name_of_methodNamed BB.named BB.method).1⟩
theorem g_vret {E : zE} {own : String} {cc : ByteArray} {Ts : List Cond} {fr lo nL k n pc mc ms nq : Nat} {lv : List (Nat × Value)} {ws : va_W} {M : List Nat → va_W} {nn : String} (h : zC E own cc Ts fr lo nL) (hf : zFG E none M nq none mc ms nn) (qs : List Nat) (hq : qs.length = nq) (hws : ws = M qs) (hk : k = mc) (hn : n = ms) (hd : decode cc pc = .ok (.return_, 1)) : Z E k n lv ws pc ([]) := by
  subst hws hk hn
  obtain ⟨l, y, D, p, e, R, s, m, args, below, meth, c, nL, A, Q⟩ := E
  obtain ⟨hx, hb, hml, hown, hts, hK, hA, hfr, hlo, hnl, hN, hV⟩ := h
  obtain ⟨hr, hlk, rfl, -, -, -⟩ := hf
  intro H locs ls hl hP hD hS
  exact W.vret hx hb hr (fun t ht hW => ⟨⟨rfl, qs, hq, by rw [ht]; exact hP, hD⟩, hS.F ht⟩) hS.2.2 hd hlk
theorem z_oinit {E : zE} {own : String} {cc : ByteArray} {Ts : List Cond} {fr lo nL k n pc : Nat} {lv : List (Nat × Value)} {ws : va_W} {st : List Value} (h : zC E own cc Ts fr lo nL) {a ix : Nat} (w1 : Cond.methodLink own ix objectInit ∈ Ts) (w2 : Cond.instanceMethod objectInit ∈ Ts) (w3 : Cond.code objectInit ⟨#[0xb1]⟩ 1 none ∈ Ts) (hR : 1 ≤ fr ∧ (st.map fun v => v.category).sum + 12 ≤ lo) (hd : decode cc pc = .ok (.invokespecial ix, 3)) (kk : Z E k n lv ws (pc + 3) st) : Z E k n lv ws pc (.ref a :: st) := by
  obtain ⟨l, y, D, p, e, R, s, m, args, below, meth, c, nL, A, Q⟩ := E
  obtain ⟨hx, hb, hml, hown, hts, hK, hA, hfr, hlo, hnl, hN, hV⟩ := h
  subst hfr hlo
  intro H locs ls hl hP hD hS
  exact W.objInit hx hb hown (hts _ w1) (hts _ w2) (hts _ w3) rfl (hl.1.trans hml.symm) rfl hd hR.1 (by have h2 := hR.2; show 2 * 0 + _ + 12 ≤ _; omega) (kk H locs ls hl hP hD hS)
/-- newarray of numbers: a new cell behind the world -/
theorem z_newa {E : zE} {own : String} {cc : ByteArray} {Ts : List Cond} {fr lo nL k n pc : Nat} {lv : List (Nat × Value)} {ws : va_W} {st : List Value} (h : zC E own cc Ts fr lo nL) {atype : ArrayType} {ty : FieldType} (t : Nat) {cA : ClassId} (N : Nat) {a0 : vp_A} (hty : newarray.typeOf atype = ty) (ht : (zTys (zy E))[t]? = some (cA, ty)) (hra : ∀ (U : State) (c1 c2 : ClassId), va_RA U c1 ty → va_RA U c2 ty → c1 = c2) (harr : Cond.arrayClass (newarray.typeOf atype) ∈ Ts) (ha : ∀ c1 : ClassId, vp_cell c1 a0 = arrV c1 N (fun _ => defaultValue ty)) (hn0 : ¬ nI N < 0) (hnN : (nI N).toNatClampNeg = N) (hby : N * componentBytes ty ≤ 536870912) (hroom : k + 1 ≤ E.2.2.2.2.2.1.cells ∧ n + N ≤ E.2.2.2.2.2.1.slots) (hd : decode cc pc = .ok (.newarray atype, 2)) (kk : ∀ q : Nat, Z E (k + 1) (n + N) lv (ws ++ [(q, .inl (cA, a0))]) (pc + 2) (.ref q :: st)) : Z E k n lv ws pc (.int (nI N) :: st) := by
  obtain ⟨l, y, D, p, e, R, s, m, args, below, meth, c, nL, A, Q⟩ := E
  obtain ⟨hx, hb, hml, hown, hts, hK, hA, hfr, hlo, hnl, hN, hV⟩ := h
  intro H locs ls hl hP hD hS
  refine va_newa hx hb (hts _ harr) hty hK hP hD hS hA ha hn0 hnN hby hroom.1 hroom.2 hd fun q c1 H1 hK1 hP1 hD1 hS1 => ?_
  have e1 : (zTys y ++ [(c1, ty)])[(zTys y).length]? = some (c1, ty) := by rw [List.getElem?_append_right (Nat.le_refl _), Nat.sub_self]; rfl
  have e2 : c1 = cA := hra s c1 cA (hK1.2 _ _ e1).2 (hK.2 _ _ ht).2
  subst e2
  exact kk q H1 locs ls hl hP1 hD1 hS1
/-- anewarray: a new cell behind the world -/
theorem z_newq {E : zE} {own : String} {cc : ByteArray} {Ts : List Cond} {fr lo nL k n pc : Nat} {lv : List (Nat × Value)} {ws : va_W} {st : List Value} (h : zC E own cc Ts fr lo nL) {C : String} {ix : Nat} (t : Nat) {cA : ClassId} (N : Nat) (ht : (zTys (zy E))[t]? = some (cA, .object C)) (hlink : Cond.classLink own ix C ∈ Ts) (hover : va_AO C (zs E)) (hn0 : ¬ nI N < 0) (hnN : (nI N).toNatClampNeg = N) (hby : N * 4 ≤ 536870912) (hroom : k + 1 ≤ E.2.2.2.2.2.1.cells ∧ n + N ≤ E.2.2.2.2.2.1.slots) (hd : decode cc pc = .ok (.anewarray ix, 3)) (kk : ∀ q : Nat, Z E (k + 1) (n + N) lv (ws ++ [(q, .inl (cA, N, .inr (.inr (.inr (.inr (fun _ => none))))))]) (pc + 3) (.ref q :: st)) : Z E k n lv ws pc (.int (nI N) :: st) := by
  obtain ⟨l, y, D, p, e, R, s, m, args, below, meth, c, nL, A, Q⟩ := E
  obtain ⟨hx, hb, hml, hown, hts, hK, hA, hfr, hlo, hnl, hN, hV⟩ := h
  intro H locs ls hl hP hD hS
  refine va_newq hx hb hown (hts _ hlink) hover hK hP hD hS hA hn0 hnN hby hroom.1 hroom.2 hd fun q c1 H1 hK1 hP1 hD1 hS1 => ?_
  have e1 : (zTys y ++ [(c1, .object C)])[(zTys y).length]? = some (c1, .object C) := by rw [List.getElem?_append_right (Nat.le_refl _), Nat.sub_self]; rfl
  have e2 : c1 = cA := by
    obtain ⟨_, _, -, -, -, g1⟩ := (hK1.2 _ _ e1).2
    obtain ⟨_, _, -, -, -, g2⟩ := (hK.2 _ _ ht).2
    exact Option.some.inj (g1.symm.trans g2)
  subst e2
  exact kk q H1 locs ls hl hP1 hD1 hS1
/-- new: a new object behind the world -/
theorem z_new {E : zE} {own : String} {cc : ByteArray} {Ts : List Cond} {fr lo nL k n pc : Nat} {lv : List (Nat × Value)} {ws : va_W} {st : List Value} (h : zC E own cc Ts fr lo nL) {C : String} {T0 : u_T} {N ci ix : Nat} {fs : List Value} (ty0 : Nat → FieldType) (hc : vwCl[ci]? = some (C, T0, N)) (hin : ∀ w ∈ u_ws C T0 N, w ∈ Ts) (hty : ∀ k, k < N → parseFieldDescriptor (T0 k).2.2.1 = some (ty0 k)) (w1 : Cond.classLink own ix C ∈ Ts) (w2 : Cond.instantiable C N ∈ Ts) (w3 : Cond.initialized C ∈ Ts) (hfs : ∀ j, j < N → defaultValue (ty0 j) = vp_V fs j) (hroom : k + 1 ≤ E.2.2.2.2.2.1.cells ∧ n + N ≤ E.2.2.2.2.2.1.slots) (hd : decode cc pc = .ok (.new ix, 3)) (kk : ∀ q : Nat, Z E (k + 1) (n + N) lv (ws ++ [(q, .inr (ci, fs))]) (pc + 3) (.ref q :: st)) : Z E k n lv ws pc st := by
  obtain ⟨l, y, D, p, e, R, s, m, args, below, meth, c, nL, A, Q⟩ := E
  obtain ⟨hx, hb, hml, hown, hts, hK, hA, hfr, hlo, hnl, hN, hV⟩ := h
  intro H locs ls hl hP hD hS
  exact va_new hx hb hts hin ty0 hty hown (hts _ w1) (hts _ w2) (hts _ w3) hK hP hD hS hA hc hfs hroom.1 hroom.2 hd fun q H1 hP1 hD1 hS1 => kk q H1 locs ls hl hP1 hD1 hS1
theorem z_putF {E : zE} {own : String} {cc : ByteArray} {Ts : List Cond} {fr lo nL k n pc : Nat} {lv : List (Nat × Value)} {ws : va_W} {st : List Value} (h : zC E own cc Ts fr lo nL) (q0 ci : Nat) {C : String} {T0 : u_T} {N ix : Nat} {a : Nat} {fs : List Value} (f : Nat) {v : Value} {ws' : va_W} (ty0 : Nat → FieldType) (ty : FieldType) (he : ws[q0]? = some (a, .inr (ci, fs))) (hc : vwCl[ci]? = some (C, T0, N)) (hin : ∀ w ∈ u_ws C T0 N, w ∈ Ts) (hty : ∀ k, k < N → parseFieldDescriptor (T0 k).2.2.1 = some (ty0 k)) (hnm : ∀ a, a < N → ∀ b, b < N → a ≠ b → (T0 a).2.1 ≠ (T0 b).2.1) (hf : f < N) (hw : Cond.fieldLink own ix C (T0 f).2.1 (T0 f).2.2.1 ∈ Ts) (hC : (T0 f).1 = C) (hfin : (T0 f).2.2.2 = true) {M : List Nat → va_W} {nq mc ms : Nat} {ret : Option FieldType} {r : Option Value} (hin2 : zFG E ret M nq r mc ms "<init>") (hdecl : (T0 f).1 = own) (hpd : parseFieldDescriptor (T0 f).2.2.1 = some ty) (hnv : narrow ty v = v) (hfv : fits ty v = true) (hfl : f < fs.length) (hws : ws.set q0 (a, .inr (ci, fs.set f v)) = ws') (hd : decode cc pc = .ok (.putfield ix, 3)) (kk : Z E k n lv ws' (pc + 3) st) : Z E k n lv ws pc (v :: .ref a :: st) := by
  obtain ⟨l, y, D, p, e, R, s, m, args, below, meth, c, nL, A, Q⟩ := E
  obtain ⟨hx, hb, hml, hown, hts, hK, hA, hfr, hlo, hnl, hN, hV⟩ := h
  subst hws
  intro H locs ls hl hP hD hS
  exact va_putF (C := C) (T := T0) (N := N) hx hb hts hin ty0 hty hnm hown hK hP hD hS q0 he hc f hf (hts _ hw) (fun _ h9 => by rw [hC] at h9; exact h9) hfin hin2.2.2.2.2.2 hdecl hpd hnv hfv hfl hd (fun H locs hP hD hS => kk H locs ls hl hP hD hS)
theorem P_left {D : va_G} {cl : List vw_C} {w1 w2 : va_W} {H : Heap} (h : va_P D cl (w1 ++ w2) H) : va_P D cl w1 H := fun k q hk => h k q (by rw [List.getElem?_append_left (List.getElem?_eq_some_iff.mp hk).1]; exact hk)
theorem P_right {D : va_G} {cl : List vw_C} {w1 w2 : va_W} {H : Heap} (h : va_P D cl (w1 ++ w2) H) : va_P D cl w2 H := fun k q hk => h (w1.length + k) q (by rw [List.getElem?_append_right (Nat.le_add_right _ _), Nat.add_sub_cancel_left]; exact hk)
theorem app_get {w1 w2 : va_W} {k : Nat} {q : Nat × va_E} (h : (w1 ++ w2)[k]? = some q) : w1[k]? = some q ∨ (w1.length ≤ k ∧ w2[k - w1.length]? = some q) := by
  by_cases c : k < w1.length
  · rw [List.getElem?_append_left c] at h; exact Or.inl h
  · rw [List.getElem?_append_right (by omega)] at h; exact Or.inr ⟨by omega, h⟩
theorem D_app {A A2 : Nat → Prop} {w1 w2 : va_W} {z : Nat} (h1 : va_D A w1) (h2 : va_D A2 w2) (l1 : ∀ (k : Nat) (q : Nat × va_E), w1[k]? = some q → q.1 < z) (l2 : ∀ (k : Nat) (q : Nat × va_E), w2[k]? = some q → z ≤ q.1) (hA : ∀ q, z ≤ q → A q) : va_D A (w1 ++ w2) := by
  refine ⟨fun i j p q hi hj e => ?_, fun k q hk => ?_⟩
  · rcases app_get hi with a | ⟨a0, a⟩ <;> rcases app_get hj with b | ⟨b0, b⟩
    · exact h1.1 i j p q a b e
    · have := l1 _ _ a; have := l2 _ _ b; omega
    · have := l2 _ _ a; have := l1 _ _ b; omega
    · have := h2.1 _ _ p q a b e; omega
  · rcases app_get hk with a | ⟨a0, a⟩
    · exact h1.2 k q a
    · exact hA _ (l2 _ _ a)
theorem D_right {A : Nat → Prop} {w1 w2 : va_W} (h : va_D A (w1 ++ w2)) : va_D A w2 := by
  have key : ∀ (k : Nat) (q : Nat × va_E), w2[k]? = some q → (w1 ++ w2)[w1.length + k]? = some q := fun k q hk => by rw [List.getElem?_append_right (Nat.le_add_right _ _), Nat.add_sub_cancel_left]; exact hk
  exact ⟨fun i j p q hi hj e => by have := h.1 _ _ p q (key i p hi) (key j q hj) e; omega, fun k q hk => h.2 _ q (key k q hk)⟩
theorem fst_get {w1 w2 : va_W} (h : w1.map Prod.fst = w2.map Prod.fst) {k : Nat} {q : Nat × va_E} (hk : w1[k]? = some q) : ∃ e, w2[k]? = some (q.1, e) := by
  have h1 : (w1.map Prod.fst)[k]? = some q.1 := by rw [List.getElem?_map, hk]; rfl
  rw [h, List.getElem?_map] at h1
  obtain ⟨x, hx, e⟩ := Option.map_eq_some_iff.mp h1
  exact ⟨x.2, by rw [hx, ← e]⟩
section
variable {p : Program} {l : Launch} {e : Env} {R : Room} {s : State} {m : MethodId} {args : Array Value} {below : List Frame} {meth : Method} {c : Code} {H : Heap} {locs : List Loc} {k n : Nat} {Q : State → Prop}
theorem z_runG {D : va_G} {A : Nat → Prop} {ws B : va_W} {B' N : List Nat → va_W} {nq mc ms pc : Nat} {ls : Array Slot} {stk st : List Value} {a : Array Value} (hr : va_Run p l e R s m args below meth c H locs k n mc ms (F0 m pc ls stk) st (zQg D (fun qs => B' qs ++ N qs) nq none (va_A B H.size) a) (va_A B H.size)) (hP : va_P D vwCl ws H) (hD : va_D A ws) (hS : va_S A s.heap H locs) (hA : ∀ q : Nat, s.heap.size ≤ q → A q) (is : List Nat) (hB : is.map (fun i => ws[i]?) = B.map some) (hm : ∀ qs : List Nat, (B' qs).map Prod.fst = B.map Prod.fst)
    (kk : ∀ (qs : List Nat), qs.length = nq → ∀ (H1 : Heap) (locs1 : List Loc), va_P D vwCl (zput ws is (B' qs) ++ N qs) H1 → va_D A (zput ws is (B' qs) ++ N qs) → va_S A s.heap H1 locs1 → W p l e R s m args below meth c H1 locs1 (k + mc) (n + ms) Q (F0 m (pc + 3) ls st)) : W p l e R s m args below meth c H locs k n Q (F0 m pc ls stk) := by
  have hF : ∀ q, va_A B H.size q → A q := va_free hD hS hA is hB
  intro T hT X
  obtain ⟨v, st₀, t, T', L, h0, X', hL, e1, e2, ⟨⟨hv, qs, hq, hPB, hDB⟩, hz, hk⟩, st9⟩ := hr T hT X
  cases hv
  rw [h0] at hz hk
  have hP1 : va_P D vwCl (zput ws is (B' qs)) T'.heap := zput_P hP hD is hB (hm qs) (fun q h1 h2 => by rw [e1]; exact hk q h1 h2) (by rw [e1]; exact P_left hPB)
  have hD1 := zD_of (zput_fst is (B' qs) ws (zB_fst hB (hm qs))) hD
  have hP2 : va_P D vwCl (N qs) T'.heap := by rw [e1]; exact P_right hPB
  have hfresh : ∀ (k : Nat) (q : Nat × va_E), (N qs)[k]? = some q → H.size ≤ q.1 := fun j q hj => by
    have hj2 : (B' qs ++ N qs)[(B' qs).length + j]? = some q := by rw [List.getElem?_append_right (Nat.le_add_right _ _), Nat.add_sub_cancel_left]; exact hj
    rcases hDB.2 _ q hj2 with ⟨i, ee, hi⟩ | h9
    · obtain ⟨ee2, hi2⟩ := fst_get (hm qs).symm hi
      have hl := (List.getElem?_eq_some_iff.mp hi2).1
      have := hDB.1 i ((B' qs).length + j) (q.1, ee2) q (by rw [List.getElem?_append_left hl]; exact hi2) hj2 rfl
      omega
    · exact h9
  have hlt : ∀ (k : Nat) (q : Nat × va_E), (zput ws is (B' qs))[k]? = some q → q.1 < H.size := fun j q hj => by
    obtain ⟨ee, hj2⟩ := fst_get (zput_fst is (B' qs) ws (zB_fst hB (hm qs))) hj
    exact (hP j _ hj2).lt
  obtain ⟨t2, a1, b1⟩ := kk qs hq T'.heap (locs ++ L) (hP1.app hP2) (D_app hD1 (D_right hDB) hlt hfresh (fun q h9 => hA q (Nat.le_trans hS.1 h9)))
    ⟨Nat.le_trans hS.1 (by rw [e1]; exact hz), fun q h1 h2 => by rw [e1, hk q (Nat.lt_of_lt_of_le h1 hS.1) (fun z => h2 (hF q z))]; exact hS.2.1 q h1 h2, fun q hq => by
      rcases List.mem_append.mp hq with h | h
      · exact hS.2.2 q h
      · exact hF _ (hL q h)⟩ T' rfl X'
  exact ⟨t2, st9 t2 a1, b1⟩
end
theorem g_pre {X : State → Prop} (hXm : ∀ u U : State, u.vm.Alike U.vm → X u → X U) {s : State} {H : Heap} {y : zY} {D : va_G} {B : va_W} {as : List Value} (hXs : X s) (h : FrameBlind (va_Pc as (zB y D B H.size)) ∧ ∀ U : State, U.heap = H → s.WarmedH U.vm → va_Pc as (zB y D B H.size) as.toArray U) : FrameBlind (va_Pc as (fun U => zB y D B H.size U ∧ X U)) ∧ ∀ U : State, U.heap = H → s.WarmedH U.vm → va_Pc as (fun U => zB y D B H.size U ∧ X U) as.toArray U :=
  ⟨fun a U g mk q => ⟨(h.1 a U g mk ⟨q.1, q.2.1⟩).1, (h.1 a U g mk ⟨q.1, q.2.1⟩).2, hXm U (U.calling g mk a) (Vm.Alike.refl U.vm) q.2.2⟩, fun U hU hW => ⟨rfl, (h.2 U hU hW).2, hXm s U hW.alike hXs⟩⟩
theorem g_callI {E : zE} {own : String} {cc : ByteArray} {Ts : List Cond} {fr lo nL k n pc : Nat} {lv : List (Nat × Value)} {ws : va_W} {st : List Value} (h : zC E own cc Ts fr lo nL) {X : State → Prop} (hXm : ∀ u U : State, u.vm.Alike U.vm → X u → X U) (hX : X (zs E)) {nm : MethodName} {T T' : List Cond} {fr1 lo1 mc ms maxL ix a nq : Nat} {bytes : ByteArray} {B : va_W} {B' N : List Nat → va_W} (hc : zG X (zl E) (zy E) (zD E) nm T fr1 lo1 mc ms [.ref a] B B' N nq none) (hG : GoodIn Ts T) (w1 : Cond.methodLink own ix nm ∈ Ts) (w2 : Cond.initialized nm.cls ∈ Ts) (w3 : Cond.instanceMethod nm ∈ Ts) (hinit : nm.name = "<init>") (hdc : nm.cls ≠ "java/lang/invoke/MethodHandle" ∧ nm.cls ≠ "java/lang/invoke/VarHandle" ∧ (parseMethodDescriptor nm.desc).map (fun d => d.parameters.length) = some 0) (hT : T = Cond.code nm bytes maxL none :: T') (hR : fr1 + 1 ≤ fr ∧ 8 + (maxL + 11) + lo1 ≤ lo) (is : List Nat) (hB : is.map (fun i => ws[i]?) = B.map some) (hnd : va_nd is = true) (hcat : (st.map fun v => v.category).sum ≤ 8) (hd : decode cc pc = .ok (.invokespecial ix, 3)) (hkR : k + mc ≤ E.2.2.2.2.2.1.cells ∧ n + ms ≤ E.2.2.2.2.2.1.slots) (kk : ∀ qs : List Nat, qs.length = nq → Z E (k + mc) (n + ms) lv (zput ws is (B' qs) ++ N qs) (pc + 3) st) : Z E k n lv ws pc (.ref a :: st) := by
  obtain ⟨l, y, D, p, e, R, s, m, args, below, meth, c, nL, A, Q⟩ := E
  obtain ⟨hx, hb, hml, hown, hts, hK, hA, hfr, hlo, hnl, hN, hV⟩ := h
  subst hfr hlo hnl
  intro H locs ls hl hP hD hS
  have hpre := g_pre hXm hX (z_pre (y := y) hP hD hS hA hK hN hV hB hnd [.ref a])
  refine z_runG (B := B) (B' := B') (N := N) (st := st) (a := ([.ref a] : List Value).toArray) ?_ hP hD hS hA is hB hc.1 (fun qs hq H1 locs1 hP1 hD1 hS1 => kk qs hq H1 locs1 ls hl hP1 hD1 hS1)
  exact va_runI (As := []) (rest := st) ⟨hx, hb, hml, hown, hts⟩ (hc.2.2 H.size) ⟨callB_of 0 hts hG hT rfl rfl (hts _ w2) (hts _ w1) hdc ⟨hR.1, hR.2⟩, hinit, hts _ w3⟩ hpre rfl rfl hl.1 rfl (lv_room hcat) hd hkR
theorem g_callIN {E : zE} {own : String} {cc : ByteArray} {Ts : List Cond} {fr lo nL k n pc : Nat} {lv : List (Nat × Value)} {ws : va_W} {st : List Value} (h : zC E own cc Ts fr lo nL) {X : State → Prop} (hXm : ∀ u U : State, u.vm.Alike U.vm → X u → X U) (hX : X (zs E)) {nm : MethodName} {T T' : List Cond} {fr1 lo1 mc ms maxL ix a nq : Nat} {bytes : ByteArray} {B : va_W} {B' N : List Nat → va_W} {host : String} (hc : zG X (zl E) (zy E) (zD E) nm T fr1 lo1 mc ms [.ref a] B B' N nq none) (hG : GoodIn Ts T) (hnest : Cond.methodLinkNest own ix nm host ∈ zNest) (w2 : Cond.initialized nm.cls ∈ Ts) (w3 : Cond.instanceMethod nm ∈ Ts) (hinit : nm.name = "<init>") (hdc : nm.cls ≠ "java/lang/invoke/MethodHandle" ∧ nm.cls ≠ "java/lang/invoke/VarHandle" ∧ (parseMethodDescriptor nm.desc).map (fun d => d.parameters.length) = some 0) (hT : T = Cond.code nm bytes maxL none :: T') (hR : fr1 + 1 ≤ fr ∧ 8 + (maxL + 11) + lo1 ≤ lo) (is : List Nat) (hB : is.map (fun i => ws[i]?) = B.map some) (hnd : va_nd is = true) (hcat : (st.map fun v => v.category).sum ≤ 8) (hd : decode cc pc = .ok (.invokespecial ix, 3)) (hkR : k + mc ≤ E.2.2.2.2.2.1.cells ∧ n + ms ≤ E.2.2.2.2.2.1.slots) (kk : ∀ qs : List Nat, qs.length = nq → Z E (k + mc) (n + ms) lv (zput ws is (B' qs) ++ N qs) (pc + 3) st) : Z E k n lv ws pc (.ref a :: st) := by
  obtain ⟨l, y, D, p, e, R, s, m, args, below, meth, c, nL, A, Q⟩ := E
  obtain ⟨hx, hb, hml, hown, hts, hK, hA, hfr, hlo, hnl, hN, hV⟩ := h
  subst hfr hlo hnl
  intro H locs ls hl hP hD hS
  have hpre := g_pre hXm hX (z_pre (y := y) hP hD hS hA hK hN hV hB hnd [.ref a])
  refine z_runG (B := B) (B' := B') (N := N) (st := st) (a := ([.ref a] : List Value).toArray) ?_ hP hD hS hA is hB hc.1 (fun qs hq H1 locs1 hP1 hD1 hS1 => kk qs hq H1 locs1 ls hl hP1 hD1 hS1)
  exact va_runIN (As := []) (rest := st) ⟨hx, hb, hml, hown, hts⟩ (hc.2.2 H.size) ⟨va_cnB 0 hts hG hT rfl rfl (va_Nw.use rfl (hN.1 _ hnest)) (hts _ w2) hdc ⟨hR.1, hR.2⟩, hinit, hts _ w3⟩ hpre rfl rfl hl.1 rfl (lv_room hcat) hd hkR

