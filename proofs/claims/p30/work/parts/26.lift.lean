def zr (s : Nat) : Nat → List Nat
  | 0 => []
  | n + 1 => s :: zr (s + 1) n
theorem zr_mem : ∀ (n s i : Nat), i ∈ zr s n → s ≤ i ∧ i < s + n
  | 0, s, i, h => by simp [zr] at h
  | n + 1, s, i, h => by
    rcases List.mem_cons.mp h with rfl | h
    · omega
    · have := zr_mem n (s + 1) i h
      omega
theorem zr_nd : ∀ (n s : Nat), va_nd (zr s n) = true
  | 0, s => rfl
  | n + 1, s => by
    show (decide (s ∉ zr (s + 1) n) && va_nd (zr (s + 1) n)) = true
    rw [zr_nd n (s + 1), Bool.and_true, decide_eq_true_eq]
    intro q
    have := zr_mem n (s + 1) s q
    omega
theorem nd_app : ∀ (a b : List Nat), va_nd a = true → va_nd b = true → (∀ i ∈ a, i ∉ b) → va_nd (a ++ b) = true
  | [], b, _, hb, _ => hb
  | x :: a, b, ha, hb, hd => by
    simp only [va_nd, Bool.and_eq_true, decide_eq_true_eq] at ha
    show (decide (x ∉ a ++ b) && va_nd (a ++ b)) = true
    rw [nd_app a b ha.2 hb (fun i hi => hd i (List.mem_cons_of_mem _ hi)), Bool.and_true, decide_eq_true_eq]
    intro q
    rcases List.mem_append.mp q with q | q
    · exact ha.1 q
    · exact hd x List.mem_cons_self q
theorem zr_len : ∀ (n s : Nat), (zr s n).length = n
  | 0, s => rfl
  | n + 1, s => by show (zr (s + 1) n).length + 1 = n + 1; rw [zr_len n (s + 1)]
theorem zr_pick : ∀ (B X Y : va_W), (zr X.length B.length).map (fun i => (X ++ (B ++ Y))[i]?) = B.map some
  | [], X, Y => rfl
  | b :: B, X, Y => by
    have e : X ++ (b :: B ++ Y) = (X ++ [b]) ++ (B ++ Y) := by simp
    have el : (X ++ [b]).length = X.length + 1 := by simp
    have ih := zr_pick B (X ++ [b]) Y
    rw [el, ← e] at ih
    show (X ++ (b :: B ++ Y))[X.length]? :: (zr (X.length + 1) B.length).map (fun i => (X ++ (b :: B ++ Y))[i]?) = some b :: B.map some
    rw [ih]
    congr 1
    rw [List.getElem?_append_right (Nat.le_refl _), Nat.sub_self]
    rfl
theorem zput_nil (ws B : va_W) : zput ws [] B = ws := by cases B <;> rfl
theorem zput_mid : ∀ (B B' X Y : va_W), B'.length = B.length → zput (X ++ (B ++ Y)) (zr X.length B.length) B' = X ++ (B' ++ Y)
  | [], [], X, Y, _ => rfl
  | [], b :: B', X, Y, h => by simp at h
  | b :: B, [], X, Y, h => by simp at h
  | b :: B, b' :: B', X, Y, h => by
    have e : X ++ (b :: B ++ Y) = (X ++ [b]) ++ (B ++ Y) := by simp
    have el : (X ++ [b]).length = X.length + 1 := by simp
    have ih := zput_mid B B' (X ++ [b]) Y (by simpa using h)
    rw [el, ← e] at ih
    show (zput (X ++ (b :: B ++ Y)) (zr (X.length + 1) B.length) B').set X.length b' = X ++ (b' :: B' ++ Y)
    rw [ih]
    have e2 : (X ++ [b]) ++ (B' ++ Y) = X ++ (b :: (B' ++ Y)) := by simp
    rw [e2, List.set_append_right _ _ (Nat.le_refl _), Nat.sub_self]
    rfl
theorem zput_app : ∀ (i1 i2 : List Nat) (B1 B2 ws : va_W), B1.length = i1.length → zput ws (i1 ++ i2) (B1 ++ B2) = zput (zput ws i2 B2) i1 B1
  | [], i2, [], B2, ws, _ => by rw [zput_nil]; rfl
  | [], i2, b :: B1, B2, ws, h => by simp at h
  | i :: i1, i2, [], B2, ws, h => by simp at h
  | i :: i1, i2, b :: B1, B2, ws, h => by
    show (zput ws (i1 ++ i2) (B1 ++ B2)).set i b = (zput (zput ws i2 B2) i1 B1).set i b
    rw [zput_app i1 i2 B1 B2 ws (by simpa using h)]
theorem zr_all (ws : va_W) : (zr 0 ws.length).map (fun i => ws[i]?) = ws.map some := by
  have h := zr_pick ws [] []
  rw [List.append_nil] at h
  exact h
theorem zput_all {ws B' : va_W} (h : B'.length = ws.length) : zput ws (zr 0 ws.length) B' = B' := by
  have h1 := zput_mid ws B' [] [] h
  rw [List.append_nil, List.append_nil] at h1
  exact h1
theorem zlen {a b : va_W} (h : a.map Prod.fst = b.map Prod.fst) : a.length = b.length := by
  have := congrArg List.length h
  simpa using this
theorem zA_le {ws B : va_W} {is : List Nat} (hB : is.map (fun i => ws[i]?) = B.map some) (sz q : Nat) (h : va_A B sz q) : va_A ws sz q := by
  rcases h with ⟨k, e, h⟩ | h
  · have h1 : (is.map (fun i => ws[i]?))[k]? = some (some (q, e)) := by rw [hB, List.getElem?_map, h]; rfl
    rw [List.getElem?_map] at h1
    cases hi : is[k]? with
    | none => rw [hi] at h1; cases h1
    | some i => rw [hi] at h1; exact Or.inl ⟨i, e, Option.some.inj h1⟩
  · exact Or.inr h
theorem zP_sub {D : va_G} {ws B : va_W} {H : Heap} {is : List Nat} (hB : is.map (fun i => ws[i]?) = B.map some) (hP : va_P D vwCl ws H) : va_P D vwCl B H := by
  intro t q hq
  have h1 : (is.map (fun i => ws[i]?))[t]? = some (some q) := by rw [hB, List.getElem?_map, hq]; rfl
  rw [List.getElem?_map] at h1
  cases hi : is[t]? with
  | none => rw [hi] at h1; cases h1
  | some i => rw [hi] at h1; exact hP i q (Option.some.inj h1)
theorem zB_sub {y : zY} {D : va_G} {ws B : va_W} {is : List Nat} {sz : Nat} {U : State} (hB : is.map (fun i => ws[i]?) = B.map some) (hnd : va_nd is = true) (h : zB y D ws sz U) : zB y D B sz U := by
  obtain ⟨hsz, hP, hK, hD, hN, hV⟩ := h
  exact ⟨hsz, zP_sub hB hP, hK, hD.sub is hnd hB, hN, hV.narrow (zA_le hB sz)⟩
/-- a contract in a larger world -/
theorem z_lift {l : Launch} {y : zY} {D : va_G} {nm : MethodName} {T : List Cond} {fr lo : Nat} {as : List Value} {ws B B' ws2 : va_W} {r : Option Value} (h : zM l y D nm T fr lo as B B' r) (is : List Nat) (hB : is.map (fun i => ws[i]?) = B.map some) (hnd : va_nd is = true) (hws : zput ws is B' = ws2) : zM l y D nm T fr lo as ws ws2 r := by
  subst hws
  refine ⟨zput_fst is B' ws (zB_fst hB h.1), fun sz => ?_⟩
  refine MetFree.mono (h.2 sz) ?_ (fun _ _ _ _ _ z => z) ?_
  · rintro a s ⟨ha, hw⟩
    exact ⟨ha, zB_sub hB hnd hw⟩
  · rintro a s o s' ⟨ha, hsz, hP, hK, hD, hN, hV⟩ ⟨⟨⟨ho, hP'⟩, hF⟩, L, hL, hL2⟩
    subst hsz
    exact ⟨⟨⟨ho, zput_P hP hD is hB h.1 (fun q h1 h2 => hF.2 q h1 h2) hP'⟩, hF.1, fun q h1 h2 => hF.2 q h1 (fun z => h2 (zA_le hB _ q z))⟩, L, hL, fun q hq => zA_le hB _ _ (hL2 q hq)⟩
theorem z_mid {l : Launch} {y : zY} {D : va_G} {nm : MethodName} {T : List Cond} {fr lo : Nat} {as : List Value} {B B' : va_W} {r : Option Value} (X Y : va_W) (h : zM l y D nm T fr lo as B B' r) : zM l y D nm T fr lo as (X ++ (B ++ Y)) (X ++ (B' ++ Y)) r :=
  z_lift h (zr X.length B.length) (zr_pick B X Y) (zr_nd _ _) (zput_mid B B' X Y (zlen h.1))
/-- .. two blocks of it, in order, and the other way round -/
theorem zr_two (B1 B2 X Y Z : va_W) : (zr X.length B1.length ++ zr (X ++ (B1 ++ Y)).length B2.length).map (fun i => (X ++ (B1 ++ (Y ++ (B2 ++ Z))))[i]?) = (B1 ++ B2).map some := by
  rw [List.map_append, List.map_append, zr_pick B1 X (Y ++ (B2 ++ Z))]
  have e : X ++ (B1 ++ (Y ++ (B2 ++ Z))) = (X ++ (B1 ++ Y)) ++ (B2 ++ Z) := by simp
  rw [e, zr_pick B2 (X ++ (B1 ++ Y)) Z]
theorem zr_owt (B1 B2 X Y Z : va_W) : (zr (X ++ (B1 ++ Y)).length B2.length ++ zr X.length B1.length).map (fun i => (X ++ (B1 ++ (Y ++ (B2 ++ Z))))[i]?) = (B2 ++ B1).map some := by
  rw [List.map_append, List.map_append, zr_pick B1 X (Y ++ (B2 ++ Z))]
  have e : X ++ (B1 ++ (Y ++ (B2 ++ Z))) = (X ++ (B1 ++ Y)) ++ (B2 ++ Z) := by simp
  rw [e, zr_pick B2 (X ++ (B1 ++ Y)) Z]
theorem zr_dis (n1 n2 s1 s2 : Nat) (h : s1 + n1 ≤ s2) : (∀ i ∈ zr s1 n1, i ∉ zr s2 n2) ∧ ∀ i ∈ zr s2 n2, i ∉ zr s1 n1 :=
  ⟨fun i h1 h2 => by have := zr_mem n1 s1 i h1; have := zr_mem n2 s2 i h2; omega, fun i h1 h2 => by have := zr_mem n1 s1 i h2; have := zr_mem n2 s2 i h1; omega⟩
theorem z_len3 (X B1 Y : va_W) : X.length + B1.length ≤ (X ++ (B1 ++ Y)).length := by simp only [List.length_append]; omega
theorem zp_two {B1 B2 B1' B2' : va_W} (X Y Z : va_W) (h1 : B1'.length = B1.length) (h2 : B2'.length = B2.length) : zput (zput (X ++ (B1 ++ (Y ++ (B2 ++ Z)))) (zr (X ++ (B1 ++ Y)).length B2.length) B2') (zr X.length B1.length) B1' = X ++ (B1' ++ (Y ++ (B2' ++ Z))) := by
  have e : X ++ (B1 ++ (Y ++ (B2 ++ Z))) = (X ++ (B1 ++ Y)) ++ (B2 ++ Z) := by simp
  have e2 : (X ++ (B1 ++ Y)) ++ (B2' ++ Z) = X ++ (B1 ++ (Y ++ (B2' ++ Z))) := by simp
  rw [e, zput_mid B2 B2' (X ++ (B1 ++ Y)) Z h2, e2, zput_mid B1 B1' X (Y ++ (B2' ++ Z)) h1]
theorem zp_owt {B1 B2 B1' B2' : va_W} (X Y Z : va_W) (h1 : B1'.length = B1.length) (h2 : B2'.length = B2.length) : zput (zput (X ++ (B1 ++ (Y ++ (B2 ++ Z)))) (zr X.length B1.length) B1') (zr (X ++ (B1 ++ Y)).length B2.length) B2' = X ++ (B1' ++ (Y ++ (B2' ++ Z))) := by
  rw [zput_mid B1 B1' X (Y ++ (B2 ++ Z)) h1]
  have el : (X ++ (B1 ++ Y)).length = (X ++ (B1' ++ Y)).length := by simp only [List.length_append, h1]
  have e : X ++ (B1' ++ (Y ++ (B2 ++ Z))) = (X ++ (B1' ++ Y)) ++ (B2 ++ Z) := by simp
  rw [el, e, zput_mid B2 B2' (X ++ (B1' ++ Y)) Z h2]
  simp
theorem z_two {l : Launch} {y : zY} {D : va_G} {nm : MethodName} {T : List Cond} {fr lo : Nat} {as : List Value} {B1 B2 B1' B2' : va_W} {r : Option Value} (X Y Z : va_W) (h1 : B1'.length = B1.length) (h2 : B2'.length = B2.length) (h : zM l y D nm T fr lo as (B1 ++ B2) (B1' ++ B2') r) : zM l y D nm T fr lo as (X ++ (B1 ++ (Y ++ (B2 ++ Z)))) (X ++ (B1' ++ (Y ++ (B2' ++ Z)))) r :=
  z_lift h _ (zr_two B1 B2 X Y Z) (nd_app _ _ (zr_nd _ _) (zr_nd _ _) (zr_dis _ _ _ _ (z_len3 X B1 Y)).1) (by rw [zput_app _ _ _ _ _ (by rw [zr_len, h1]), zp_two X Y Z h1 h2])
theorem z_owt {l : Launch} {y : zY} {D : va_G} {nm : MethodName} {T : List Cond} {fr lo : Nat} {as : List Value} {B1 B2 B1' B2' : va_W} {r : Option Value} (X Y Z : va_W) (h1 : B1'.length = B1.length) (h2 : B2'.length = B2.length) (h : zM l y D nm T fr lo as (B2 ++ B1) (B2' ++ B1') r) : zM l y D nm T fr lo as (X ++ (B1 ++ (Y ++ (B2 ++ Z)))) (X ++ (B1' ++ (Y ++ (B2' ++ Z)))) r :=
  z_lift h _ (zr_owt B1 B2 X Y Z) (nd_app _ _ (zr_nd _ _) (zr_nd _ _) (zr_dis _ _ _ _ (z_len3 X B1 Y)).2) (by rw [zput_app _ _ _ _ _ (by rw [zr_len, h2]), zp_owt X Y Z h1 h2])
theorem z_any {l : Launch} {y : zY} {D : va_G} {nm : MethodName} {T : List Cond} {fr lo : Nat} {as : List Value} {r : Option Value} (ws : va_W) (h : zM l y D nm T fr lo as [] [] r) : zM l y D nm T fr lo as ws ws r := z_mid [] ws h
theorem z_wV {E : zE} {own : String} {cc : ByteArray} {Ts : List Cond} {fr lo nL k n pc : Nat} {lv : List (Nat × Value)} {ws : va_W} {st stk : List Value} (h : zC E own cc Ts fr lo nL) {nm : MethodName} {T T' : List Cond} {fr1 lo1 maxL ix : Nat} {bytes : ByteArray} {ret : Option FieldType} {As : List Value} {ws2 : va_W} {r : Option Value} (cnt : Nat) {a q0 ci N0 : Nat} {T0 : u_T} {C : String} {fs : List Value} (hc : zM (zl E) (zy E) (zD E) nm T fr1 lo1 (.ref a :: As) ws ws2 r) (hG : GoodIn Ts (wsV own ix C nm T)) (hdc : nm.cls = C ∧ nm.cls ≠ "java/lang/invoke/MethodHandle" ∧ nm.cls ≠ "java/lang/invoke/VarHandle" ∧ (parseMethodDescriptor nm.desc).map (fun d => d.parameters.length) = some cnt) (hrecv : ws[q0]? = some (a, .inr (ci, fs))) (hcl : vwCl[ci]? = some (C, T0, N0)) (hT : T = Cond.code nm bytes maxL ret :: T') (hR : fr1 + 1 ≤ fr ∧ 8 + (maxL + 11) + lo1 ≤ lo) (hcat : (st.map fun v => v.category).sum ≤ 8) (hcnt : As.length = cnt) (hstk : stk = As.reverse ++ .ref a :: st) (hd : decode cc pc = .ok (.invokevirtual ix, 3)) (kk : Z E k n lv ws2 (pc + 3) (r.toList ++ st)) (hkR : k ≤ E.2.2.2.2.2.1.cells ∧ n ≤ E.2.2.2.2.2.1.slots) : Z E k n lv ws pc stk := z_callV h cnt hc hG hdc hrecv hcl hT hR (zr 0 ws.length) (zr_all ws) (zr_nd _ _) (zput_all (zlen hc.1)) hcat hcnt hstk hd kk hkR
theorem z_wS {E : zE} {own : String} {cc : ByteArray} {Ts : List Cond} {fr lo nL k n pc : Nat} {lv : List (Nat × Value)} {ws : va_W} {st stk : List Value} (h : zC E own cc Ts fr lo nL) {nm : MethodName} {T T' : List Cond} {fr1 lo1 maxL ix : Nat} {bytes : ByteArray} {ret : Option FieldType} {As : List Value} {ws2 : va_W} {r : Option Value} (cnt : Nat) (hc : zM (zl E) (zy E) (zD E) nm T fr1 lo1 As ws ws2 r) (hG : GoodIn Ts (va_wsS own ix nm T)) (hdc : nm.cls ≠ "java/lang/invoke/MethodHandle" ∧ nm.cls ≠ "java/lang/invoke/VarHandle" ∧ (parseMethodDescriptor nm.desc).map (fun d => d.parameters.length) = some cnt) (hT : T = Cond.code nm bytes maxL ret :: T') (hR : fr1 + 1 ≤ fr ∧ 8 + (maxL + 11) + lo1 ≤ lo) (hcat : (st.map fun v => v.category).sum ≤ 8) (hcnt : As.length = cnt) (hstk : stk = As.reverse ++ st) (hd : decode cc pc = .ok (.invokestatic ix, 3)) (kk : Z E k n lv ws2 (pc + 3) (r.toList ++ st)) (hkR : k ≤ E.2.2.2.2.2.1.cells ∧ n ≤ E.2.2.2.2.2.1.slots) : Z E k n lv ws pc stk := z_callS h cnt hc hG hdc hT hR (zr 0 ws.length) (zr_all ws) (zr_nd _ _) (zput_all (zlen hc.1)) hcat hcnt hstk hd kk hkR
theorem z_wVN {E : zE} {own : String} {cc : ByteArray} {Ts : List Cond} {fr lo nL k n pc : Nat} {lv : List (Nat × Value)} {ws : va_W} {st stk : List Value} (h : zC E own cc Ts fr lo nL) {nm : MethodName} {T T' : List Cond} {fr1 lo1 maxL ix : Nat} {bytes : ByteArray} {ret : Option FieldType} {As : List Value} {ws2 : va_W} {r : Option Value} (cnt : Nat) {a q0 ci N0 : Nat} {T0 : u_T} {C : String} {fs : List Value} {host : String} (hc : zM (zl E) (zy E) (zD E) nm T fr1 lo1 (.ref a :: As) ws ws2 r) (hG : GoodIn Ts T) (hnest : Cond.methodLinkNest own ix nm host ∈ zNest) (hini : Cond.initialized nm.cls ∈ Ts) (hins : Cond.instanceMethod nm ∈ Ts) (hsel : Cond.selects C nm nm ∈ Ts) (hdc : nm.cls ≠ "java/lang/invoke/MethodHandle" ∧ nm.cls ≠ "java/lang/invoke/VarHandle" ∧ (parseMethodDescriptor nm.desc).map (fun d => d.parameters.length) = some cnt) (hrecv : ws[q0]? = some (a, .inr (ci, fs))) (hcl : vwCl[ci]? = some (C, T0, N0)) (hT : T = Cond.code nm bytes maxL ret :: T') (hR : fr1 + 1 ≤ fr ∧ 8 + (maxL + 11) + lo1 ≤ lo) (hcat : (st.map fun v => v.category).sum ≤ 8) (hcnt : As.length = cnt) (hstk : stk = As.reverse ++ .ref a :: st) (hd : decode cc pc = .ok (.invokevirtual ix, 3)) (kk : Z E k n lv ws2 (pc + 3) (r.toList ++ st)) (hkR : k ≤ E.2.2.2.2.2.1.cells ∧ n ≤ E.2.2.2.2.2.1.slots) : Z E k n lv ws pc stk := z_callVN h cnt hc hG hnest hini hins hsel hdc hrecv hcl hT hR (zr 0 ws.length) (zr_all ws) (zr_nd _ _) (zput_all (zlen hc.1)) hcat hcnt hstk hd kk hkR
theorem z_wSN {E : zE} {own : String} {cc : ByteArray} {Ts : List Cond} {fr lo nL k n pc : Nat} {lv : List (Nat × Value)} {ws : va_W} {st stk : List Value} (h : zC E own cc Ts fr lo nL) {nm : MethodName} {T T' : List Cond} {fr1 lo1 maxL ix : Nat} {bytes : ByteArray} {ret : Option FieldType} {As : List Value} {ws2 : va_W} {r : Option Value} (cnt : Nat) {host : String} (hc : zM (zl E) (zy E) (zD E) nm T fr1 lo1 As ws ws2 r) (hG : GoodIn Ts T) (hnest : Cond.methodLinkNest own ix nm host ∈ zNest) (hini : Cond.initialized nm.cls ∈ Ts) (hstt : Cond.static nm ∈ Ts) (hdc : nm.cls ≠ "java/lang/invoke/MethodHandle" ∧ nm.cls ≠ "java/lang/invoke/VarHandle" ∧ (parseMethodDescriptor nm.desc).map (fun d => d.parameters.length) = some cnt) (hT : T = Cond.code nm bytes maxL ret :: T') (hR : fr1 + 1 ≤ fr ∧ 8 + (maxL + 11) + lo1 ≤ lo) (hcat : (st.map fun v => v.category).sum ≤ 8) (hcnt : As.length = cnt) (hstk : stk = As.reverse ++ st) (hd : decode cc pc = .ok (.invokestatic ix, 3)) (kk : Z E k n lv ws2 (pc + 3) (r.toList ++ st)) (hkR : k ≤ E.2.2.2.2.2.1.cells ∧ n ≤ E.2.2.2.2.2.1.slots) : Z E k n lv ws pc stk := z_callSN h cnt hc hG hnest hini hstt hdc hT hR (zr 0 ws.length) (zr_all ws) (zr_nd _ _) (zput_all (zlen hc.1)) hcat hcnt hstk hd kk hkR
/-- the method's own table -/
def zT (E : zE) (hh : List (Nat × Nat × Nat × Nat)) : Prop := match E with
  | (l, y, D, p, e, R, s, m, args, below, meth, c, nL, A, Q) => c.exceptionTable.toList = tableOf hh
theorem z_ti {E : zE} {own : String} {cc : ByteArray} {Ts : List Cond} {fr lo nL k n pc : Nat} {lv : List (Nat × Value)} {ws : va_W} {st : List Value} (h : zC E own cc Ts fr lo nL)  {t N : Nat} {f : Nat → Value} (hz : ∀ (A : Nat → Prop) (U : State) (H : Heap), zV (zy E) A U H → va_T .int t N f A U H) {i : Int32} (j : Nat) (hi : i = nI j) (hj : j < N) (hNN : N < 2 ^ 31) {v : Value} (hv : f j = v) (hd : decode cc pc = .ok (.iaload, 1)) (kk : Z E k n lv ws (pc + 1) (v :: st)) : Z E k n lv ws pc (.int i :: .ref t :: st) := by
  obtain ⟨hi1, hi2⟩ := z_ix hi hj hNN
  rw [← hi2] at hv
  obtain ⟨l, y, D, p, e, R, s, m, args, below, meth, c, nL, A, Q⟩ := E
  obtain ⟨hx, hb, hml, hown, hts, hK, hA, hfr, hlo, hnl, hN, hV⟩ := h
  intro H locs ls hl hP hD hS
  exact va_ti hx hb (hz _ _ _ hV) hS hi1 hv hd (kk H locs ls hl hP hD hS)
theorem z_tlen {E : zE} {own : String} {cc : ByteArray} {Ts : List Cond} {fr lo nL k n pc : Nat} {lv : List (Nat × Value)} {ws : va_W} {st : List Value} (h : zC E own cc Ts fr lo nL) {ty : FieldType} {t N : Nat} {f : Nat → Value} (hz : ∀ (A : Nat → Prop) (U : State) (H : Heap), zV (zy E) A U H → va_T ty t N f A U H) {v : Int32} (hv : Int32.ofNat N = v) (hd : decode cc pc = .ok (.arraylength, 1)) (kk : Z E k n lv ws (pc + 1) (.int v :: st)) : Z E k n lv ws pc (.ref t :: st) := by
  obtain ⟨l, y, D, p, e, R, s, m, args, below, meth, c, nL, A, Q⟩ := E
  obtain ⟨hx, hb, hml, hown, hts, hK, hA, hfr, hlo, hnl, hN, hV⟩ := h
  intro H locs ls hl hP hD hS
  exact va_tlen hx hb (hz _ _ _ hV) hS hv hd (kk H locs ls hl hP hD hS)
theorem z_i2c {E : zE} {own : String} {cc : ByteArray} {Ts : List Cond} {fr lo nL k n pc : Nat} {lv : List (Nat × Value)} {ws : va_W} {st : List Value} (h : zC E own cc Ts fr lo nL) {x : Int32} (v : Int32) (hv : (x.toUInt32 % 65536).toInt32 = v) (hd : decode cc pc = .ok (.i2c, 1)) (kk : Z E k n lv ws (pc + 1) (.int v :: st)) : Z E k n lv ws pc (.int x :: st) := by
  obtain ⟨l, y, D, p, e, R, s, m, args, below, meth, c, nL, A, Q⟩ := E
  obtain ⟨hx, hb, hml, hown, hts, hK, hA, hfr, hlo, hnl, hN, hV⟩ := h
  intro H locs ls hl hP hD hS
  exact lv_i2c hx hb hd hv (kk H locs ls hl hP hD hS)
theorem z_lcmp {E : zE} {own : String} {cc : ByteArray} {Ts : List Cond} {fr lo nL k n pc : Nat} {lv : List (Nat × Value)} {ws : va_W} {st : List Value} (h : zC E own cc Ts fr lo nL) {x y : Int64} (hd : decode cc pc = .ok (.lcmp, 1)) (kk : Z E k n lv ws (pc + 1) (.int (lg_cmp x y) :: st)) : Z E k n lv ws pc (.long y :: .long x :: st) := by
  obtain ⟨l, y, D, p, e, R, s, m, args, below, meth, c, nL, A, Q⟩ := E
  obtain ⟨hx, hb, hml, hown, hts, hK, hA, hfr, hlo, hnl, hN, hV⟩ := h
  intro H locs ls hl hP hD hS
  exact W.lcmp hx hb hd (kk H locs ls hl hP hD hS)
theorem z_ifnnN {E : zE} {own : String} {cc : ByteArray} {Ts : List Cond} {fr lo nL k n pc : Nat} {lv : List (Nat × Value)} {ws : va_W} {st : List Value} (h : zC E own cc Ts fr lo nL) {off : Int} (hd : decode cc pc = .ok (.ifnonnull off, 3)) (kk : Z E k n lv ws (pc + 3) (st)) : Z E k n lv ws pc (.null :: st) := by
  obtain ⟨l, y, D, p, e, R, s, m, args, below, meth, c, nL, A, Q⟩ := E
  obtain ⟨hx, hb, hml, hown, hts, hK, hA, hfr, hlo, hnl, hN, hV⟩ := h
  intro H locs ls hl hP hD hS
  exact lv_ifnonnullN hx hb hd (kk H locs ls hl hP hD hS)
theorem z_ifnR {E : zE} {own : String} {cc : ByteArray} {Ts : List Cond} {fr lo nL k n pc : Nat} {lv : List (Nat × Value)} {ws : va_W} {st : List Value} (h : zC E own cc Ts fr lo nL) {a : Nat} {off : Int} (hd : decode cc pc = .ok (.ifnull off, 3)) (kk : Z E k n lv ws (pc + 3) (st)) : Z E k n lv ws pc (.ref a :: st) := by
  obtain ⟨l, y, D, p, e, R, s, m, args, below, meth, c, nL, A, Q⟩ := E
  obtain ⟨hx, hb, hml, hown, hts, hK, hA, hfr, hlo, hnl, hN, hV⟩ := h
  intro H locs ls hl hP hD hS
  exact lv_ifnull hx hb hd (kk H locs ls hl hP hD hS)
theorem z_ifnnR {E : zE} {own : String} {cc : ByteArray} {Ts : List Cond} {fr lo nL k n pc : Nat} {lv : List (Nat × Value)} {ws : va_W} {st : List Value} (h : zC E own cc Ts fr lo nL) {a : Nat} {off : Int} (tgt : Nat) (hd : decode cc pc = .ok (.ifnonnull off, 3)) (ht : (pc : Int) + off = (tgt : Int)) (kk : Z E k n lv ws tgt st) : Z E k n lv ws pc (.ref a :: st) := by
  obtain ⟨l, y, D, p, e, R, s, m, args, below, meth, c, nL, A, Q⟩ := E
  obtain ⟨hx, hb, hml, hown, hts, hK, hA, hfr, hlo, hnl, hN, hV⟩ := h
  intro H locs ls hl hP hD hS
  exact lv_ifnonnull hx hb hd ht (kk H locs ls hl hP hD hS)
theorem z_ifnN {E : zE} {own : String} {cc : ByteArray} {Ts : List Cond} {fr lo nL k n pc : Nat} {lv : List (Nat × Value)} {ws : va_W} {st : List Value} (h : zC E own cc Ts fr lo nL) {off : Int} (tgt : Nat) (hd : decode cc pc = .ok (.ifnull off, 3)) (ht : (pc : Int) + off = (tgt : Int)) (kk : Z E k n lv ws tgt st) : Z E k n lv ws pc (.null :: st) := by
  obtain ⟨l, y, D, p, e, R, s, m, args, below, meth, c, nL, A, Q⟩ := E
  obtain ⟨hx, hb, hml, hown, hts, hK, hA, hfr, hlo, hnl, hN, hV⟩ := h
  intro H locs ls hl hP hD hS
  exact lv_ifnullN hx hb hd ht (kk H locs ls hl hP hD hS)
theorem z_aret {E : zE} {own : String} {cc : ByteArray} {Ts : List Cond} {fr lo nL pc : Nat} {lv : List (Nat × Value)} {ws : va_W} (h : zC E own cc Ts fr lo nL) {rt : FieldType} {ws' : va_W} {r : Option Value} (hf : zF E (some rt) ws' r) {v : Value} (hrt : (∃ n, rt = .object n) ∨ ∃ t, rt = .array t) (hv0 : v = .null ∨ ∃ a, v = .ref a) (hv : r = some v) (hws : ws = ws') (hd : decode cc pc = .ok (.areturn, 1)) : Z E 0 0 lv ws pc [v] := by
  subst hws
  obtain ⟨l, y, D, p, e, R, s, m, args, below, meth, c, nL, A, Q⟩ := E
  obtain ⟨hx, hb, hml, hown, hts, hK, hA, hfr, hlo, hnl, hN, hV⟩ := h
  obtain ⟨hr, hlk, rfl⟩ := hf
  subst hv
  intro H locs ls hl hP hD hS
  exact W.aret hx hb hr hrt hv0 (fun t ht hW => ⟨⟨rfl, by rw [ht]; exact hP⟩, hS.F ht⟩) hS.2.2 hd hlk
