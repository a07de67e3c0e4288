/-! the second layer: contracts in larger worlds; throws and catches; statics; ends with references -/
def zr (s : Nat) : Nat → List Nat
  | 0 => []
  | n + 1 => s :: zr (s + 1) n
theorem zr_mem : ∀ (n s i : Nat), i ∈ zr s n → s ≤ i ∧ i < s + n
  | 0, s, i, h => by simp [zr] at h
  | n + 1, s, i, h => by
    rcases List.mem_cons.mp h with rfl | h
    · omega
    · have := zr_mem n (s + 1) i h
      omega
theorem zr_nd : ∀ (n s : Nat), va_nd (zr s n) = true
  | 0, s => rfl
  | n + 1, s => by
    show (decide (s ∉ zr (s + 1) n) && va_nd (zr (s + 1) n)) = true
    rw [zr_nd n (s + 1), Bool.and_true, decide_eq_true_eq]
    intro q
    have := zr_mem n (s + 1) s q
    omega
theorem nd_app : ∀ (a b : List Nat), va_nd a = true → va_nd b = true → (∀ i ∈ a, i ∉ b) → va_nd (a ++ b) = true
  | [], b, _, hb, _ => hb
  | x :: a, b, ha, hb, hd => by
    simp only [va_nd, Bool.and_eq_true, decide_eq_true_eq] at ha
    show (decide (x ∉ a ++ b) && va_nd (a ++ b)) = true
    rw [nd_app a b ha.2 hb (fun i hi => hd i (List.mem_cons_of_mem _ hi)), Bool.and_true, decide_eq_true_eq]
    intro q
    rcases List.mem_append.mp q with q | q
    · exact ha.1 q
    · exact hd x List.mem_cons_self q
theorem zr_len : ∀ (n s : Nat), (zr s n).length = n
  | 0, s => rfl
  | n + 1, s => by show (zr (s + 1) n).length + 1 = n + 1; rw [zr_len n (s + 1)]
theorem zr_pick : ∀ (B X Y : va_W), (zr X.length B.length).map (fun i => (X ++ (B ++ Y))[i]?) = B.map some
  | [], X, Y => rfl
  | b :: B, X, Y => by
    have e : X ++ (b :: B ++ Y) = (X ++ [b]) ++ (B ++ Y) := by simp
    have el : (X ++ [b]).length = X.length + 1 := by simp
    have ih := zr_pick B (X ++ [b]) Y
    rw [el, ← e] at ih
    show (X ++ (b :: B ++ Y))[X.length]? :: (zr (X.length + 1) B.length).map (fun i => (X ++ (b :: B ++ Y))[i]?) = some b :: B.map some
    rw [ih]
    congr 1
    rw [List.getElem?_append_right (Nat.le_refl _), Nat.sub_self]
    rfl
theorem zput_nil (ws B : va_W) : zput ws [] B = ws := by cases B <;> rfl
theorem zput_mid : ∀ (B B' X Y : va_W), B'.length = B.length → zput (X ++ (B ++ Y)) (zr X.length B.length) B' = X ++ (B' ++ Y)
  | [], [], X, Y, _ => rfl
  | [], b :: B', X, Y, h => by simp at h
  | b :: B, [], X, Y, h => by simp at h
  | b :: B, b' :: B', X, Y, h => by
    have e : X ++ (b :: B ++ Y) = (X ++ [b]) ++ (B ++ Y) := by simp
    have el : (X ++ [b]).length = X.length + 1 := by simp
    have ih := zput_mid B B' (X ++ [b]) Y (by simpa using h)
    rw [el, ← e] at ih
    show (zput (X ++ (b :: B ++ Y)) (zr (X.length + 1) B.length) B').set X.length b' = X ++ (b' :: B' ++ Y)
    rw [ih]
    have e2 : (X ++ [b]) ++ (B' ++ Y) = X ++ (b :: (B' ++ Y)) := by simp
    rw [e2, List.set_append_right _ _ (Nat.le_refl _), Nat.sub_self]
    rfl
theorem zput_app : ∀ (i1 i2 : List Nat) (B1 B2 ws : va_W), B1.length = i1.length → zput ws (i1 ++ i2) (B1 ++ B2) = zput (zput ws i2 B2) i1 B1
  | [], i2, [], B2, ws, _ => by rw [zput_nil]; rfl
  | [], i2, b :: B1, B2, ws, h => by simp at h
  | i :: i1, i2, [], B2, ws, h => by simp at h
  | i :: i1, i2, b :: B1, B2, ws, h => by
    show (zput ws (i1 ++ i2) (B1 ++ B2)).set i b = (zput (zput ws i2 B2) i1 B1).set i b
    rw [zput_app i1 i2 B1 B2 ws (by simpa using h)]
theorem zr_all (ws : va_W) : (zr 0 ws.length).map (fun i => ws[i]?) = ws.map some := by
  have h := zr_pick ws [] []
  rw [List.append_nil] at h
  exact h
theorem zput_all {ws B' : va_W} (h : B'.length = ws.length) : zput ws (zr 0 ws.length) B' = B' := by
  have h1 := zput_mid ws B' [] [] h
  rw [List.append_nil, List.append_nil] at h1
  exact h1
theorem zlen {a b : va_W} (h : a.map Prod.fst = b.map Prod.fst) : a.length = b.length := by
  have := congrArg List.length h
  simpa using this
theorem zA_le {ws B : va_W} {is : List Nat} (hB : is.map (fun i => ws[i]?) = B.map some) (sz q : Nat) (h : va_A B sz q) : va_A ws sz q := by
  rcases h with ⟨k, e, h⟩ | h
  · have h1 : (is.map (fun i => ws[i]?))[k]? = some (some (q, e)) := by rw [hB, List.getElem?_map, h]; rfl
    rw [List.getElem?_map] at h1
    cases hi : is[k]? with
    | none => rw [hi] at h1; cases h1
    | some i => rw [hi] at h1; exact Or.inl ⟨i, e, Option.some.inj h1⟩
  · exact Or.inr h
theorem zP_sub {D : va_G} {ws B : va_W} {H : Heap} {is : List Nat} (hB : is.map (fun i => ws[i]?) = B.map some) (hP : va_P D vwCl ws H) : va_P D vwCl B H := by
  intro t q hq
  have h1 : (is.map (fun i => ws[i]?))[t]? = some (some q) := by rw [hB, List.getElem?_map, hq]; rfl
  rw [List.getElem?_map] at h1
  cases hi : is[t]? with
  | none => rw [hi] at h1; cases h1
  | some i => rw [hi] at h1; exact hP i q (Option.some.inj h1)
theorem zB_sub {y : zY} {D : va_G} {ws B : va_W} {is : List Nat} {sz : Nat} {U : State} (hB : is.map (fun i => ws[i]?) = B.map some) (hnd : va_nd is = true) (h : zB y D ws sz U) : zB y D B sz U := by
  obtain ⟨hsz, hP, hK, hD, hN, hV⟩ := h
  exact ⟨hsz, zP_sub hB hP, hK, hD.sub is hnd hB, hN, hV.narrow (zA_le hB sz)⟩
/-- a contract in a larger world -/
theorem z_lift {l : Launch} {y : zY} {D : va_G} {nm : MethodName} {T : List Cond} {fr lo : Nat} {as : List Value} {ws B B' ws2 : va_W} {r : Option Value} (h : zM l y D nm T fr lo as B B' r) (is : List Nat) (hB : is.map (fun i => ws[i]?) = B.map some) (hnd : va_nd is = true) (hws : zput ws is B' = ws2) : zM l y D nm T fr lo as ws ws2 r := by
  subst hws
  refine ⟨zput_fst is B' ws (zB_fst hB h.1), fun sz => ?_⟩
  refine MetFree.mono (h.2 sz) ?_ (fun _ _ _ _ _ z => z) ?_
  · rintro a s ⟨ha, hw⟩
    exact ⟨ha, zB_sub hB hnd hw⟩
  · rintro a s o s' ⟨ha, hsz, hP, hK, hD, hN, hV⟩ ⟨⟨⟨ho, hP'⟩, hF⟩, L, hL, hL2⟩
    subst hsz
    exact ⟨⟨⟨ho, zput_P hP hD is hB h.1 (fun q h1 h2 => hF.2 q h1 h2) hP'⟩, hF.1, fun q h1 h2 => hF.2 q h1 (fun z => h2 (zA_le hB _ q z))⟩, L, hL, fun q hq => zA_le hB _ _ (hL2 q hq)⟩
theorem z_mid {l : Launch} {y : zY} {D : va_G} {nm : MethodName} {T : List Cond} {fr lo : Nat} {as : List Value} {B B' : va_W} {r : Option Value} (X Y : va_W) (h : zM l y D nm T fr lo as B B' r) : zM l y D nm T fr lo as (X ++ (B ++ Y)) (X ++ (B' ++ Y)) r :=
  z_lift h (zr X.length B.length) (zr_pick B X Y) (zr_nd _ _) (zput_mid B B' X Y (zlen h.1))
/-- .. two blocks of it, in order, and the other way round -/
theorem zr_two (B1 B2 X Y Z : va_W) : (zr X.length B1.length ++ zr (X ++ (B1 ++ Y)).length B2.length).map (fun i => (X ++ (B1 ++ (Y ++ (B2 ++ Z))))[i]?) = (B1 ++ B2).map some := by
  rw [List.map_append, List.map_append, zr_pick B1 X (Y ++ (B2 ++ Z))]
  have e : X ++ (B1 ++ (Y ++ (B2 ++ Z))) = (X ++ (B1 ++ Y)) ++ (B2 ++ Z) := by simp
  rw [e, zr_pick B2 (X ++ (B1 ++ Y)) Z]
theorem zr_owt (B1 B2 X Y Z : va_W) : (zr (X ++ (B1 ++ Y)).length B2.length ++ zr X.length B1.length).map (fun i => (X ++ (B1 ++ (Y ++ (B2 ++ Z))))[i]?) = (B2 ++ B1).map some := by
  rw [List.map_append, List.map_append, zr_pick B1 X (Y ++ (B2 ++ Z))]
  have e : X ++ (B1 ++ (Y ++ (B2 ++ Z))) = (X ++ (B1 ++ Y)) ++ (B2 ++ Z) := by simp
  rw [e, zr_pick B2 (X ++ (B1 ++ Y)) Z]
theorem zr_dis (n1 n2 s1 s2 : Nat) (h : s1 + n1 ≤ s2) : (∀ i ∈ zr s1 n1, i ∉ zr s2 n2) ∧ ∀ i ∈ zr s2 n2, i ∉ zr s1 n1 :=
  ⟨fun i h1 h2 => by have := zr_mem n1 s1 i h1; have := zr_mem n2 s2 i h2; omega, fun i h1 h2 => by have := zr_mem n1 s1 i h2; have := zr_mem n2 s2 i h1; omega⟩
theorem z_len3 (X B1 Y : va_W) : X.length + B1.length ≤ (X ++ (B1 ++ Y)).length := by simp only [List.length_append]; omega
theorem zp_two {B1 B2 B1' B2' : va_W} (X Y Z : va_W) (h1 : B1'.length = B1.length) (h2 : B2'.length = B2.length) : zput (zput (X ++ (B1 ++ (Y ++ (B2 ++ Z)))) (zr (X ++ (B1 ++ Y)).length B2.length) B2') (zr X.length B1.length) B1' = X ++ (B1' ++ (Y ++ (B2' ++ Z))) := by
  have e : X ++ (B1 ++ (Y ++ (B2 ++ Z))) = (X ++ (B1 ++ Y)) ++ (B2 ++ Z) := by simp
  have e2 : (X ++ (B1 ++ Y)) ++ (B2' ++ Z) = X ++ (B1 ++ (Y ++ (B2' ++ Z))) := by simp
  rw [e, zput_mid B2 B2' (X ++ (B1 ++ Y)) Z h2, e2, zput_mid B1 B1' X (Y ++ (B2' ++ Z)) h1]
theorem zp_owt {B1 B2 B1' B2' : va_W} (X Y Z : va_W) (h1 : B1'.length = B1.length) (h2 : B2'.length = B2.length) : zput (zput (X ++ (B1 ++ (Y ++ (B2 ++ Z)))) (zr X.length B1.length) B1') (zr (X ++ (B1 ++ Y)).length B2.length) B2' = X ++ (B1' ++ (Y ++ (B2' ++ Z))) := by
  rw [zput_mid B1 B1' X (Y ++ (B2 ++ Z)) h1]
  have el : (X ++ (B1 ++ Y)).length = (X ++ (B1' ++ Y)).length := by simp only [List.length_append, h1]
  have e : X ++ (B1' ++ (Y ++ (B2 ++ Z))) = (X ++ (B1' ++ Y)) ++ (B2 ++ Z) := by simp
  rw [el, e, zput_mid B2 B2' (X ++ (B1' ++ Y)) Z h2]
  simp
theorem z_two {l : Launch} {y : zY} {D : va_G} {nm : MethodName} {T : List Cond} {fr lo : Nat} {as : List Value} {B1 B2 B1' B2' : va_W} {r : Option Value} (X Y Z : va_W) (h1 : B1'.length = B1.length) (h2 : B2'.length = B2.length) (h : zM l y D nm T fr lo as (B1 ++ B2) (B1' ++ B2') r) : zM l y D nm T fr lo as (X ++ (B1 ++ (Y ++ (B2 ++ Z)))) (X ++ (B1' ++ (Y ++ (B2' ++ Z)))) r :=
  z_lift h _ (zr_two B1 B2 X Y Z) (nd_app _ _ (zr_nd _ _) (zr_nd _ _) (zr_dis _ _ _ _ (z_len3 X B1 Y)).1) (by rw [zput_app _ _ _ _ _ (by rw [zr_len, h1]), zp_two X Y Z h1 h2])
theorem z_owt {l : Launch} {y : zY} {D : va_G} {nm : MethodName} {T : List Cond} {fr lo : Nat} {as : List Value} {B1 B2 B1' B2' : va_W} {r : Option Value} (X Y Z : va_W) (h1 : B1'.length = B1.length) (h2 : B2'.length = B2.length) (h : zM l y D nm T fr lo as (B2 ++ B1) (B2' ++ B1') r) : zM l y D nm T fr lo as (X ++ (B1 ++ (Y ++ (B2 ++ Z)))) (X ++ (B1' ++ (Y ++ (B2' ++ Z)))) r :=
  z_lift h _ (zr_owt B1 B2 X Y Z) (nd_app _ _ (zr_nd _ _) (zr_nd _ _) (zr_dis _ _ _ _ (z_len3 X B1 Y)).2) (by rw [zput_app _ _ _ _ _ (by rw [zr_len, h2]), zp_owt X Y Z h1 h2])
theorem z_any {l : Launch} {y : zY} {D : va_G} {nm : MethodName} {T : List Cond} {fr lo : Nat} {as : List Value} {r : Option Value} (ws : va_W) (h : zM l y D nm T fr lo as [] [] r) : zM l y D nm T fr lo as ws ws r := z_mid [] ws h
theorem z_wV {E : zE} {own : String} {cc : ByteArray} {Ts : List Cond} {fr lo nL k n pc : Nat} {lv : List (Nat × Value)} {ws : va_W} {st stk : List Value} (h : zC E own cc Ts fr lo nL) {nm : MethodName} {T T' : List Cond} {fr1 lo1 maxL ix : Nat} {bytes : ByteArray} {ret : Option FieldType} {As : List Value} {ws2 : va_W} {r : Option Value} (cnt : Nat) {a q0 ci N0 : Nat} {T0 : u_T} {C : String} {fs : List Value} (hc : zM (zl E) (zy E) (zD E) nm T fr1 lo1 (.ref a :: As) ws ws2 r) (hG : GoodIn Ts (wsV own ix C nm T)) (hdc : nm.cls = C ∧ nm.cls ≠ "java/lang/invoke/MethodHandle" ∧ nm.cls ≠ "java/lang/invoke/VarHandle" ∧ (parseMethodDescriptor nm.desc).map (fun d => d.parameters.length) = some cnt) (hrecv : ws[q0]? = some (a, .inr (ci, fs))) (hcl : vwCl[ci]? = some (C, T0, N0)) (hT : T = Cond.code nm bytes maxL ret :: T') (hR : fr1 + 1 ≤ fr ∧ 8 + (maxL + 11) + lo1 ≤ lo) (hcat : (st.map fun v => v.category).sum ≤ 8) (hcnt : As.length = cnt) (hstk : stk = As.reverse ++ .ref a :: st) (hd : decode cc pc = .ok (.invokevirtual ix, 3)) (kk : Z E k n lv ws2 (pc + 3) (r.toList ++ st)) (hkR : k ≤ E.2.2.2.2.2.1.cells ∧ n ≤ E.2.2.2.2.2.1.slots) : Z E k n lv ws pc stk := z_callV h cnt hc hG hdc hrecv hcl hT hR (zr 0 ws.length) (zr_all ws) (zr_nd _ _) (zput_all (zlen hc.1)) hcat hcnt hstk hd kk hkR
theorem z_wS {E : zE} {own : String} {cc : ByteArray} {Ts : List Cond} {fr lo nL k n pc : Nat} {lv : List (Nat × Value)} {ws : va_W} {st stk : List Value} (h : zC E own cc Ts fr lo nL) {nm : MethodName} {T T' : List Cond} {fr1 lo1 maxL ix : Nat} {bytes : ByteArray} {ret : Option FieldType} {As : List Value} {ws2 : va_W} {r : Option Value} (cnt : Nat) (hc : zM (zl E) (zy E) (zD E) nm T fr1 lo1 As ws ws2 r) (hG : GoodIn Ts (va_wsS own ix nm T)) (hdc : nm.cls ≠ "java/lang/invoke/MethodHandle" ∧ nm.cls ≠ "java/lang/invoke/VarHandle" ∧ (parseMethodDescriptor nm.desc).map (fun d => d.parameters.length) = some cnt) (hT : T = Cond.code nm bytes maxL ret :: T') (hR : fr1 + 1 ≤ fr ∧ 8 + (maxL + 11) + lo1 ≤ lo) (hcat : (st.map fun v => v.category).sum ≤ 8) (hcnt : As.length = cnt) (hstk : stk = As.reverse ++ st) (hd : decode cc pc = .ok (.invokestatic ix, 3)) (kk : Z E k n lv ws2 (pc + 3) (r.toList ++ st)) (hkR : k ≤ E.2.2.2.2.2.1.cells ∧ n ≤ E.2.2.2.2.2.1.slots) : Z E k n lv ws pc stk := z_callS h cnt hc hG hdc hT hR (zr 0 ws.length) (zr_all ws) (zr_nd _ _) (zput_all (zlen hc.1)) hcat hcnt hstk hd kk hkR
theorem z_wVN {E : zE} {own : String} {cc : ByteArray} {Ts : List Cond} {fr lo nL k n pc : Nat} {lv : List (Nat × Value)} {ws : va_W} {st stk : List Value} (h : zC E own cc Ts fr lo nL) {nm : MethodName} {T T' : List Cond} {fr1 lo1 maxL ix : Nat} {bytes : ByteArray} {ret : Option FieldType} {As : List Value} {ws2 : va_W} {r : Option Value} (cnt : Nat) {a q0 ci N0 : Nat} {T0 : u_T} {C : String} {fs : List Value} {host : String} (hc : zM (zl E) (zy E) (zD E) nm T fr1 lo1 (.ref a :: As) ws ws2 r) (hG : GoodIn Ts T) (hnest : Cond.methodLinkNest own ix nm host ∈ zNest) (hini : Cond.initialized nm.cls ∈ Ts) (hins : Cond.instanceMethod nm ∈ Ts) (hsel : Cond.selects C nm nm ∈ Ts) (hdc : nm.cls ≠ "java/lang/invoke/MethodHandle" ∧ nm.cls ≠ "java/lang/invoke/VarHandle" ∧ (parseMethodDescriptor nm.desc).map (fun d => d.parameters.length) = some cnt) (hrecv : ws[q0]? = some (a, .inr (ci, fs))) (hcl : vwCl[ci]? = some (C, T0, N0)) (hT : T = Cond.code nm bytes maxL ret :: T') (hR : fr1 + 1 ≤ fr ∧ 8 + (maxL + 11) + lo1 ≤ lo) (hcat : (st.map fun v => v.category).sum ≤ 8) (hcnt : As.length = cnt) (hstk : stk = As.reverse ++ .ref a :: st) (hd : decode cc pc = .ok (.invokevirtual ix, 3)) (kk : Z E k n lv ws2 (pc + 3) (r.toList ++ st)) (hkR : k ≤ E.2.2.2.2.2.1.cells ∧ n ≤ E.2.2.2.2.2.1.slots) : Z E k n lv ws pc stk := z_callVN h cnt hc hG hnest hini hins hsel hdc hrecv hcl hT hR (zr 0 ws.length) (zr_all ws) (zr_nd _ _) (zput_all (zlen hc.1)) hcat hcnt hstk hd kk hkR
theorem z_wSN {E : zE} {own : String} {cc : ByteArray} {Ts : List Cond} {fr lo nL k n pc : Nat} {lv : List (Nat × Value)} {ws : va_W} {st stk : List Value} (h : zC E own cc Ts fr lo nL) {nm : MethodName} {T T' : List Cond} {fr1 lo1 maxL ix : Nat} {bytes : ByteArray} {ret : Option FieldType} {As : List Value} {ws2 : va_W} {r : Option Value} (cnt : Nat) {host : String} (hc : zM (zl E) (zy E) (zD E) nm T fr1 lo1 As ws ws2 r) (hG : GoodIn Ts T) (hnest : Cond.methodLinkNest own ix nm host ∈ zNest) (hini : Cond.initialized nm.cls ∈ Ts) (hstt : Cond.static nm ∈ Ts) (hdc : nm.cls ≠ "java/lang/invoke/MethodHandle" ∧ nm.cls ≠ "java/lang/invoke/VarHandle" ∧ (parseMethodDescriptor nm.desc).map (fun d => d.parameters.length) = some cnt) (hT : T = Cond.code nm bytes maxL ret :: T') (hR : fr1 + 1 ≤ fr ∧ 8 + (maxL + 11) + lo1 ≤ lo) (hcat : (st.map fun v => v.category).sum ≤ 8) (hcnt : As.length = cnt) (hstk : stk = As.reverse ++ st) (hd : decode cc pc = .ok (.invokestatic ix, 3)) (kk : Z E k n lv ws2 (pc + 3) (r.toList ++ st)) (hkR : k ≤ E.2.2.2.2.2.1.cells ∧ n ≤ E.2.2.2.2.2.1.slots) : Z E k n lv ws pc stk := z_callSN h cnt hc hG hnest hini hstt hdc hT hR (zr 0 ws.length) (zr_all ws) (zr_nd _ _) (zput_all (zlen hc.1)) hcat hcnt hstk hd kk hkR
def zXC (D : va_G) (ws : va_W) (Ec : String) (A : Nat → Prop) : String → State → State → Prop := fun E9 st t => E9 = Ec ∧ va_P D vwCl ws t.heap ∧ va_F A st t
/-- a contract of a method that throws Ec here, the world stays -/
def zX (l : Launch) (y : zY) (D : va_G) (nm : MethodName) (T : List Cond) (fr lo mc ms : Nat) (as : List Value) (ws : va_W) (Ec : String) : Prop :=
  ∀ sz : Nat, vx_Met l nm T ({ frames := fr, cells := mc, slots := ms, locals := lo }) (va_Pc as (zB y D ws sz)) (fun _ _ _ _ => False) (zXC D ws Ec (va_A ws sz)) mc ms (va_A ws sz)
theorem x_lift {l : Launch} {y : zY} {D : va_G} {nm : MethodName} {T : List Cond} {fr lo mc ms : Nat} {as : List Value} {ws B : va_W} {Ec : String} (h : zX l y D nm T fr lo mc ms as B Ec) (is : List Nat) (hB : is.map (fun i => ws[i]?) = B.map some) (hnd : va_nd is = true) (hws : zput ws is B = ws) : zX l y D nm T fr lo mc ms as ws Ec := by
  intro sz
  refine MetFree.mono (h sz) ?_ (fun _ _ _ _ _ z => z) ?_
  · rintro a s ⟨ha, hw⟩
    exact ⟨ha, zB_sub hB hnd hw⟩
  · rintro a s o s' ⟨ha, hsz, hP, hK, hD, hN, hV⟩ hq
    rcases hq with ⟨hf, -⟩ | ⟨q, ho, E9, ce, L, ⟨hE, hP', hF⟩, h2, h3, h4, h5, h6, h7⟩
    · exact hf.elim
    · subst hsz
      have hw := zput_P hP hD is hB rfl (fun q h1 h2 => hF.2 q h1 h2) hP'
      rw [hws] at hw
      exact Or.inr ⟨q, ho, E9, ce, L, ⟨hE, hw, hF.1, fun q h1 h2 => hF.2 q h1 (fun z => h2 (zA_le hB _ q z))⟩, h2, h3, h4, h5, h6, fun z hz => zA_le hB _ _ (h7 z hz)⟩
theorem x_mid {l : Launch} {y : zY} {D : va_G} {nm : MethodName} {T : List Cond} {fr lo mc ms : Nat} {as : List Value} {B : va_W} {Ec : String} (X Y : va_W) (h : zX l y D nm T fr lo mc ms as B Ec) : zX l y D nm T fr lo mc ms as (X ++ (B ++ Y)) Ec :=
  x_lift h (zr X.length B.length) (zr_pick B X Y) (zr_nd _ _) (zput_mid B B X Y rfl)
theorem x_any {l : Launch} {y : zY} {D : va_G} {nm : MethodName} {T : List Cond} {fr lo mc ms : Nat} {as : List Value} {Ec : String} (ws : va_W) (h : zX l y D nm T fr lo mc ms as [] Ec) : zX l y D nm T fr lo mc ms as ws Ec := x_mid [] ws h
/-- how a walk that throws may end -/
def zFX (E : zE) (ws : va_W) (Ec : String) (mc ms : Nat) : Prop := match E with
  | (l, y, D, p, e, R, s, m, args, below, meth, c, nL, A, Q) => meth.locks = false ∧ (∀ x ∈ c.exceptionTable.toList, False) ∧ Q = vx_MQ below (fun _ _ _ _ => False) (zXC D ws Ec A) args s mc ms A ∧ R.cells = mc ∧ R.slots = ms
theorem x_start {l : Launch} {y : zY} {D : va_G} {own : String} {nm : MethodName} {T T' : List Cond} {fr lo maxL mc ms : Nat} {as : List Value} {ws : va_W} {Ec : String} {cc : ByteArray} {ret : Option FieldType} (hcls : nm.cls = own) (hy : plainName nm.cls = true) (hT : T = Cond.code nm cc maxL ret :: T') (hlen : (lg_sl as).length ≤ maxL)
    (body : ∀ E : zE, zl E = l → zy E = y → zD E = D → zC E own cc T fr lo maxL → zFX E ws Ec mc ms → Z E 0 0 (lv_args 0 as) ws 0 []) : zX l y D nm T fr lo mc ms as ws Ec := by
  intro sz
  refine vx_ofW (cc := cc) (maxL := maxL) (ret := ret) hy hT ?_
  intro p e s m args below meth c s₁ B hml ht hv
  obtain ⟨rfl, hsz, hP, hK, hD0, hN, hV⟩ := hv
  subst hsz
  have hown : s.vm.findClass own = some m.cls := by rw [← hcls]; exact findClass_of_methodNamed B.named
  have hl := lv_entry as (n := maxL) hlen
  rw [lg_entry_eq]
  refine body (l, y, D, p, e, (headSpec T ({ frames := fr, cells := mc, slots := ms, locals := lo })).room, s, m, as.toArray, below, meth, c, maxL, va_A ws s.heap.size, vx_MQ below (fun _ _ _ _ => False) (zXC D ws Ec (va_A ws s.heap.size)) as.toArray s mc ms (va_A ws s.heap.size)) rfl rfl rfl ?_ ?_ s.heap [] _ hl hP (hD0.self) va_S.rf
  · exact ⟨B.exec, B.bytes, hml, hown, atoms_spec (ws := T) B.pre, hK, fun q h => Or.inr h, rfl, rfl, rfl, hN, hV⟩
  · exact ⟨B.notSynchronized, ht, rfl, rfl, rfl⟩
theorem zP_kept {D : va_G} {ws : va_W} {H H1 : Heap} (hP : va_P D vwCl ws H) (hk : ∀ q : Nat, q < H.size → H1[q]? = H[q]?) : va_P D vwCl ws H1 := fun k q hq => (hP k q hq).kept (hk q.1 (hP k q hq).lt)
def xNames : List String := ["java/lang/RuntimeException", "java/lang/Exception"]
theorem x_throwS {E : zE} {own : String} {cc : ByteArray} {Ts : List Cond} {fr lo nL pc : Nat} {lv : List (Nat × Value)} {ws : va_W} {st : List Value} (h : zC E own cc Ts fr lo nL) {Ec : String} {mc ms : Nat} (hf : zFX E ws Ec mc ms) (hl : (zl E).stackTraces = false) {text : String} {ik is ic : Nat} (hOwn : own = "SnowSites") (hXs : Ec ∈ zXs) (hstr : (is, text) ∈ zStr) (hcls : Bundle.fit Ec = true) (hnames : ∀ n ∈ xNames, Bundle.fit n = true)
    (hk : Cond.classLink own ik Ec ∈ Ts) (hini : Cond.initialized Ec ∈ Ts) (h1 : ∀ w ∈ (vx_atS own ic Ec xNames).filter goodWord, w ∈ Ts) (h2 : ∀ w ∈ (vx_atS own ic Ec xNames).filter (fun w => !goodWord w), w ∈ [Cond.castable Ec Ec, .declares (Bundle.initS "java/lang/RuntimeException"), .declares (Bundle.initS "java/lang/Exception"), .declares (Bundle.initS Bundle.tN)]) (hgood : ∀ w ∈ Cond.classLink own ik Ec :: Cond.initialized Ec :: vx_atS own ic Ec xNames, vx_ot w = true)
    (d0 : decode cc pc = .ok (.new ik, 3)) (d3 : decode cc (pc + 3) = .ok (.dup, 1)) (d4 : decode cc (pc + 4) = .ok (.ldc is, 2)) (d6 : decode cc (pc + 6) = .ok (.invokespecial ic, 3)) (d9 : decode cc (pc + 9) = .ok (.athrow, 1)) (hRf : 5 < fr) (hRl : (st.map fun v => v.category).sum + 82 ≤ lo) (hmc : 1 ≤ mc) (hms : 6 ≤ ms) : Z E 0 0 lv ws pc st := by
  obtain ⟨l, y, D, p, e, R, s, m, args, below, meth, c, nL, A, Q⟩ := E
  obtain ⟨hx, hb, hml, hown, hts, hK, hA, hfr, hlo, hnl, hN, hV⟩ := h
  obtain ⟨hlk, ht, rfl, rfl, rfl⟩ := hf
  subst hOwn
  subst hfr hlo hnl
  obtain ⟨sa, hsa⟩ := hN.2.2.2.1 _ hstr
  intro H locs ls hl2 hP hD hS
  refine vx_throwS (A := A) hx hb hl hown hcls hnames (hts _ hk) (hts _ hini) hsa (vx_hat (fun w hw => hts w (h1 w hw)) h2 (vx_c (va_Nw.use rfl (hN.2.1 _ hXs)) (vx_c (va_Nw.use rfl (hN.2.2.2.2 _ List.mem_cons_self)) (vx_c (va_Nw.use rfl (hN.2.2.2.2 _ (List.mem_cons_of_mem _ List.mem_cons_self))) (vx_c (va_Nw.use rfl (hN.2.2.2.2 _ (List.mem_cons_of_mem _ (List.mem_cons_of_mem _ List.mem_cons_self)))) vx_n))))) hgood hV.2.2.2.2.2.2.2.2.2.1 hV.2.2.2.2.2.2.2.2.2.2 hS (hl2.1.trans hml.symm) d0 d3 d4 d6 d9 (fun x hx => (ht x hx).elim) hRf hRl (by rw [Nat.zero_add]; exact hmc) (by rw [Nat.zero_add]; exact hms) hlk ?_ hS.2.2 (by rw [Nat.zero_add]; exact hmc) (by rw [Nat.zero_add]; exact hms)
  intro t h3 h4 h5
  exact ⟨rfl, zP_kept hP h5, Nat.le_trans hS.1 h4, fun q h6 h7 => by rw [h5 q (Nat.lt_of_lt_of_le h6 hS.1)]; exact hS.2.1 q h6 h7⟩
theorem x_throwSW {E : zE} {own : String} {cc : ByteArray} {Ts : List Cond} {fr lo nL pc : Nat} {lv : List (Nat × Value)} {ws : va_W} {st : List Value} (h : zC E own cc Ts fr lo nL) {Ec : String} {mc ms : Nat} (hf : zFX E ws Ec mc ms) (hl : (zl E).stackTraces = false) {text : String} {ik is ic : Nat} (hOwn : own = "SnowSites") (hXs : Ec ∈ zXs) (hstr : (is, text) ∈ zStr) (hcls : Bundle.fit Ec = true) (hnames : ∀ n ∈ xNames, Bundle.fit n = true)
    (hk : Cond.classLink own ik Ec ∈ Ts) (hini : Cond.initialized Ec ∈ Ts) (h1 : ∀ w ∈ (vx_atS own ic Ec xNames).filter goodWord, w ∈ Ts) (h2 : ∀ w ∈ (vx_atS own ic Ec xNames).filter (fun w => !goodWord w), w ∈ [Cond.castable Ec Ec, .declares (Bundle.initS "java/lang/RuntimeException"), .declares (Bundle.initS "java/lang/Exception"), .declares (Bundle.initS Bundle.tN)]) (hgood : ∀ w ∈ Cond.classLink own ik Ec :: Cond.initialized Ec :: vx_atS own ic Ec xNames, vx_ot w = true)
    (d0 : decode cc pc = .ok (.new ik, 3)) (d3 : decode cc (pc + 3) = .ok (.dup, 1)) (d4 : decode cc (pc + 4) = .ok (.ldc_w is, 3)) (d6 : decode cc (pc + 7) = .ok (.invokespecial ic, 3)) (d9 : decode cc (pc + 10) = .ok (.athrow, 1)) (hRf : 5 < fr) (hRl : (st.map fun v => v.category).sum + 82 ≤ lo) (hmc : 1 ≤ mc) (hms : 6 ≤ ms) : Z E 0 0 lv ws pc st := by
  obtain ⟨l, y, D, p, e, R, s, m, args, below, meth, c, nL, A, Q⟩ := E
  obtain ⟨hx, hb, hml, hown, hts, hK, hA, hfr, hlo, hnl, hN, hV⟩ := h
  obtain ⟨hlk, ht, rfl, rfl, rfl⟩ := hf
  subst hOwn
  subst hfr hlo hnl
  obtain ⟨sa, hsa⟩ := hN.2.2.2.1 _ hstr
  intro H locs ls hl2 hP hD hS
  refine vx_throwSW (A := A) hx hb hl hown hcls hnames (hts _ hk) (hts _ hini) hsa (vx_hat (fun w hw => hts w (h1 w hw)) h2 (vx_c (va_Nw.use rfl (hN.2.1 _ hXs)) (vx_c (va_Nw.use rfl (hN.2.2.2.2 _ List.mem_cons_self)) (vx_c (va_Nw.use rfl (hN.2.2.2.2 _ (List.mem_cons_of_mem _ List.mem_cons_self))) (vx_c (va_Nw.use rfl (hN.2.2.2.2 _ (List.mem_cons_of_mem _ (List.mem_cons_of_mem _ List.mem_cons_self)))) vx_n))))) hgood hV.2.2.2.2.2.2.2.2.2.1 hV.2.2.2.2.2.2.2.2.2.2 hS (hl2.1.trans hml.symm) d0 d3 d4 d6 d9 (fun x hx => (ht x hx).elim) hRf hRl (by rw [Nat.zero_add]; exact hmc) (by rw [Nat.zero_add]; exact hms) hlk ?_ hS.2.2 (by rw [Nat.zero_add]; exact hmc) (by rw [Nat.zero_add]; exact hms)
  intro t h3 h4 h5
  exact ⟨rfl, zP_kept hP h5, Nat.le_trans hS.1 h4, fun q h6 h7 => by rw [h5 q (Nat.lt_of_lt_of_le h6 hS.1)]; exact hS.2.1 q h6 h7⟩
theorem x_callV {E : zE} {own : String} {cc : ByteArray} {Ts : List Cond} {fr lo nL pc : Nat} {lv : List (Nat × Value)} {ws : va_W} {st stk : List Value} (h : zC E own cc Ts fr lo nL) {Ec : String} {mc ms : Nat} (hf : zFX E ws Ec mc ms) {nm : MethodName} {T T' : List Cond} {fr1 lo1 maxL ix mc1 ms1 : Nat} {bytes : ByteArray} {ret : Option FieldType} {As : List Value} (cnt : Nat) {a q0 ci N0 : Nat} {T0 : u_T} {C : String} {fs : List Value} (hc : zX (zl E) (zy E) (zD E) nm T fr1 lo1 mc1 ms1 (.ref a :: As) ws Ec) (hG : GoodIn Ts (wsV own ix C nm T)) (hdc : nm.cls = C ∧ nm.cls ≠ "java/lang/invoke/MethodHandle" ∧ nm.cls ≠ "java/lang/invoke/VarHandle" ∧ (parseMethodDescriptor nm.desc).map (fun d => d.parameters.length) = some cnt) (hrecv : ws[q0]? = some (a, .inr (ci, fs))) (hcl : vwCl[ci]? = some (C, T0, N0)) (hT : T = Cond.code nm bytes maxL ret :: T') (hR : fr1 + 1 ≤ fr ∧ 8 + (maxL + 11) + lo1 ≤ lo) (hcat : (st.map fun v => v.category).sum ≤ 8) (hcnt : As.length = cnt) (hstk : stk = As.reverse ++ .ref a :: st) (hd : decode cc pc = .ok (.invokevirtual ix, 3)) (hm : mc1 ≤ mc ∧ ms1 ≤ ms) : Z E 0 0 lv ws pc stk := by
  obtain ⟨l, y, D, p, e, R, s, m, args, below, meth, c, nL, A, Q⟩ := E
  obtain ⟨hx, hb, hml, hown, hts, hK, hA, hfr, hlo, hnl, hN, hV⟩ := h
  obtain ⟨hlk, ht, rfl, rfl, rfl⟩ := hf
  subst hstk
  subst hfr hlo hnl
  intro H locs ls hl hP hD hS
  have hpre := z_pre (y := y) hP hD hS hA hK hN hV (zr_all ws) (zr_nd _ _) (.ref a :: As)
  have hF9 : ∀ q, va_A ws H.size q → A q := va_free hD hS hA _ (zr_all ws)
  have hr := vx_runV (e := e) (below := below) (meth := meth) (As := As) (rest := st) ⟨hx, hb, hml, hown, hts⟩ (hc H.size) (cwV cnt hts hG hT rfl rfl hdc ⟨hR.1, hR.2⟩) ⟨hpre.1, va_recv hK hP (q0 := q0) (ci := ci) hcl hrecv, hpre.2⟩ (g := F0 m pc ls (As.reverse ++ .ref a :: st)) (locs := locs) (cells := 0) (slots := 0) rfl hcnt hl.1 rfl (lv_room hcat) hd ⟨by rw [Nat.zero_add]; exact hm.1, by rw [Nat.zero_add]; exact hm.2⟩
  intro T9 hT9 X9
  rcases hr T9 hT9 X9 with ⟨v, st₀, t, T8, L8, h0, X8, hL, e1, e2, hq, s9⟩ | ⟨q, st₀, t, T8, L8, E8, ce, h0, X8, hL, e1, e2, ⟨hE8, hPB, hF⟩, hce, hcv, hcl8, s9⟩
  · exact hq.elim
  · subst hE8
    obtain ⟨k1, k2, k3⟩ := vx_keep h0 e1 hS (fun q _ h => hF9 q h) (fun q h => hF9 q h) hL hF
    obtain ⟨t2, a1, b1⟩ := vx_out (pc := pc) (rest := st) (fun x hx => (ht x hx).elim) hlk (by rw [e1]; exact hce) hcv hcl8 (XC := zXC D ws E8 A) (Qc := fun _ _ _ _ => False) (fun t4 h4 _ => ⟨rfl, by rw [h4, e1]; exact hPB, va_S.F k3 h4⟩) k3.2.2 (by rw [Nat.zero_add]; exact hm.1) (by rw [Nat.zero_add]; exact hm.2) T8 rfl X8
    exact ⟨t2, s9.trans a1, b1⟩
theorem x_callS {E : zE} {own : String} {cc : ByteArray} {Ts : List Cond} {fr lo nL pc : Nat} {lv : List (Nat × Value)} {ws : va_W} {st stk : List Value} (h : zC E own cc Ts fr lo nL) {Ec : String} {mc ms : Nat} (hf : zFX E ws Ec mc ms) {nm : MethodName} {T T' : List Cond} {fr1 lo1 maxL ix mc1 ms1 : Nat} {bytes : ByteArray} {ret : Option FieldType} {As : List Value} (cnt : Nat)  (hc : zX (zl E) (zy E) (zD E) nm T fr1 lo1 mc1 ms1 As ws Ec) (hG : GoodIn Ts (va_wsS own ix nm T)) (hdc : nm.cls ≠ "java/lang/invoke/MethodHandle" ∧ nm.cls ≠ "java/lang/invoke/VarHandle" ∧ (parseMethodDescriptor nm.desc).map (fun d => d.parameters.length) = some cnt) (hT : T = Cond.code nm bytes maxL ret :: T') (hR : fr1 + 1 ≤ fr ∧ 8 + (maxL + 11) + lo1 ≤ lo) (hcat : (st.map fun v => v.category).sum ≤ 8) (hcnt : As.length = cnt) (hstk : stk = As.reverse ++ st) (hd : decode cc pc = .ok (.invokestatic ix, 3)) (hm : mc1 ≤ mc ∧ ms1 ≤ ms) : Z E 0 0 lv ws pc stk := by
  obtain ⟨l, y, D, p, e, R, s, m, args, below, meth, c, nL, A, Q⟩ := E
  obtain ⟨hx, hb, hml, hown, hts, hK, hA, hfr, hlo, hnl, hN, hV⟩ := h
  obtain ⟨hlk, ht, rfl, rfl, rfl⟩ := hf
  subst hstk
  subst hfr hlo hnl
  intro H locs ls hl hP hD hS
  have hpre := z_pre (y := y) hP hD hS hA hK hN hV (zr_all ws) (zr_nd _ _) As
  have hF9 : ∀ q, va_A ws H.size q → A q := va_free hD hS hA _ (zr_all ws)
  have hr := vx_runS (e := e) (below := below) (meth := meth) (As := As) (rest := st) ⟨hx, hb, hml, hown, hts⟩ (hc H.size) (va_cwS cnt hts hG hT rfl rfl hdc ⟨hR.1, hR.2⟩) hpre (g := F0 m pc ls (As.reverse ++ st)) (locs := locs) (cells := 0) (slots := 0) rfl hcnt hl.1 rfl (lv_room hcat) hd ⟨by rw [Nat.zero_add]; exact hm.1, by rw [Nat.zero_add]; exact hm.2⟩
  intro T9 hT9 X9
  rcases hr T9 hT9 X9 with ⟨v, st₀, t, T8, L8, h0, X8, hL, e1, e2, hq, s9⟩ | ⟨q, st₀, t, T8, L8, E8, ce, h0, X8, hL, e1, e2, ⟨hE8, hPB, hF⟩, hce, hcv, hcl8, s9⟩
  · exact hq.elim
  · subst hE8
    obtain ⟨k1, k2, k3⟩ := vx_keep h0 e1 hS (fun q _ h => hF9 q h) (fun q h => hF9 q h) hL hF
    obtain ⟨t2, a1, b1⟩ := vx_out (pc := pc) (rest := st) (fun x hx => (ht x hx).elim) hlk (by rw [e1]; exact hce) hcv hcl8 (XC := zXC D ws E8 A) (Qc := fun _ _ _ _ => False) (fun t4 h4 _ => ⟨rfl, by rw [h4, e1]; exact hPB, va_S.F k3 h4⟩) k3.2.2 (by rw [Nat.zero_add]; exact hm.1) (by rw [Nat.zero_add]; exact hm.2) T8 rfl X8
    exact ⟨t2, s9.trans a1, b1⟩
/-- the method's own table -/
def zT (E : zE) (hh : List (Nat × Nat × Nat × Nat)) : Prop := match E with
  | (l, y, D, p, e, R, s, m, args, below, meth, c, nL, A, Q) => c.exceptionTable.toList = tableOf hh
theorem x_catch {E : zE} {own : String} {cc : ByteArray} {Ts : List Cond} {fr lo nL k n pc : Nat} {lv : List (Nat × Value)} {ws : va_W} {st stk : List Value} (h : zC E own cc Ts fr lo nL) {nm : MethodName} {T T' : List Cond} {fr1 lo1 maxL ix mc1 ms1 : Nat} {bytes : ByteArray} {ret : Option FieldType} {As : List Value} (cnt : Nat) {a q0 ci N0 : Nat} {T0 : u_T} {C : String} {fs : List Value} {Ec : String} {hh : List (Nat × Nat × Nat × Nat)} (hc : zX (zl E) (zy E) (zD E) nm T fr1 lo1 mc1 ms1 (.ref a :: As) ws Ec) (htb : zT E hh) (pre : List ExceptionTableEntry) (x9 : ExceptionTableEntry) (suf : List ExceptionTableEntry) (hsplit : tableOf hh = pre ++ x9 :: suf)
    (hpass : ∀ z ∈ pre, covers z pc = false ∨ (z.catchType ≠ 0 ∧ ∃ nm9 : String, Cond.classLink own z.catchType nm9 ∈ Ts ∧ (Ec, nm9) ∈ zNcs)) (hcov : covers x9 pc = true) (h09 : x9.catchType ≠ 0) (hlink : Cond.classLink own x9.catchType Ec ∈ Ts) (hXs : Ec ∈ zXs) (hG : GoodIn Ts (wsV own ix C nm T)) (hdc : nm.cls = C ∧ nm.cls ≠ "java/lang/invoke/MethodHandle" ∧ nm.cls ≠ "java/lang/invoke/VarHandle" ∧ (parseMethodDescriptor nm.desc).map (fun d => d.parameters.length) = some cnt) (hrecv : ws[q0]? = some (a, .inr (ci, fs))) (hcl : vwCl[ci]? = some (C, T0, N0)) (hT : T = Cond.code nm bytes maxL ret :: T') (hR : fr1 + 1 ≤ fr ∧ 8 + (maxL + 11) + lo1 ≤ lo) (hcat : (st.map fun v => v.category).sum ≤ 8) (hcnt : As.length = cnt) (hstk : stk = As.reverse ++ .ref a :: st) (hd : decode cc pc = .ok (.invokevirtual ix, 3)) (hm : k + mc1 ≤ E.2.2.2.2.2.1.cells ∧ n + ms1 ≤ E.2.2.2.2.2.1.slots)
    (kk : ∀ q : Nat, Z E (k + mc1) (n + ms1) lv ws x9.handlerPc [.ref q]) : Z E k n lv ws pc stk := by
  obtain ⟨l, y, D, p, e, R, s, m, args, below, meth, c, nL, A, Q⟩ := E
  obtain ⟨hx, hb, hml, hown, hts, hK, hA, hfr, hlo, hnl, hN, hV⟩ := h
  subst hstk
  subst hfr hlo hnl
  intro H locs ls hl hP hD hS
  have hpre := z_pre (y := y) hP hD hS hA hK hN hV (zr_all ws) (zr_nd _ _) (.ref a :: As)
  have hF9 : ∀ q, va_A ws H.size q → A q := va_free hD hS hA _ (zr_all ws)
  have hr := vx_runV (e := e) (below := below) (meth := meth) (As := As) (rest := st) ⟨hx, hb, hml, hown, hts⟩ (hc H.size) (cwV cnt hts hG hT rfl rfl hdc ⟨hR.1, hR.2⟩) ⟨hpre.1, va_recv hK hP (q0 := q0) (ci := ci) hcl hrecv, hpre.2⟩ (g := F0 m pc ls (As.reverse ++ .ref a :: st)) (locs := locs) (cells := k) (slots := n) rfl hcnt hl.1 rfl (lv_room hcat) hd hm
  intro T9 hT9 X9
  rcases hr T9 hT9 X9 with ⟨v, st₀, t, T8, L8, h0, X8, hL, e1, e2, hq, s9⟩ | ⟨q, st₀, t, T8, L8, E8, ce, h0, X8, hL, e1, e2, ⟨hE8, hPB, hF⟩, hce, hcv, hcl8, s9⟩
  · exact hq.elim
  · subst hE8
    obtain ⟨k1, k2, k3⟩ := vx_keep h0 e1 hS (fun q _ h => hF9 q h) (fun q h => hF9 q h) hL hF
    have htb : c.exceptionTable.toList = tableOf hh := htb
    obtain ⟨t2, a1, b1⟩ := vx_catch (Q := Q) (pc := pc) (rest := st) hown pre x9 suf (htb.trans hsplit) (fun z hz => (hpass z hz).imp id (fun h => ⟨h.1, h.2.imp fun nm9 h => ⟨hts _ h.1, hN.2.2.1 _ h.2⟩⟩)) hcov h09 (hts _ hlink) (va_Nw.use rfl (hN.2.1 _ hXs)) (by rw [e1]; exact hce) hcv hcl8
      (kk q T8.heap (locs ++ L8) ls hl (by rw [e1]; exact hPB) hD k3) T8 rfl X8
    exact ⟨t2, s9.trans a1, b1⟩
/-- a contract of a method with a table of its own: it returns -/
def zW (l : Launch) (y : zY) (D : va_G) (nm : MethodName) (T : List Cond) (fr lo mc ms : Nat) (as : List Value) (ws ws' : va_W) (r : Option Value) : Prop :=
  ws'.map Prod.fst = ws.map Prod.fst ∧ ∀ sz : Nat, vx_Met l nm T ({ frames := fr, cells := mc, slots := ms, locals := lo }) (va_Pc as (zB y D ws sz)) (zQ D ws' r (va_A ws sz)) (fun _ _ _ => False) mc ms (va_A ws sz)
def zFW (E : zE) (ret : Option FieldType) (ws' : va_W) (r : Option Value) (mc ms : Nat) : Prop := match E with
  | (l, y, D, p, e, R, s, m, args, below, meth, c, nL, A, Q) => meth.sig.returnType = ret ∧ meth.locks = false ∧ Q = vx_MQ below (zQ D ws' r A) (fun _ _ _ => False) args s mc ms A ∧ R.cells = mc ∧ R.slots = ms
theorem w_start {l : Launch} {y : zY} {D : va_G} {own : String} {nm : MethodName} {T T' : List Cond} {fr lo maxL mc ms : Nat} {as : List Value} {ws ws' : va_W} {r : Option Value} {cc : ByteArray} {ret : Option FieldType} {hh : List (Nat × Nat × Nat × Nat)} (hcls : nm.cls = own) (hy : plainName nm.cls = true) (hT : T = Cond.codeWith nm cc maxL ret hh :: T') (hlen : (lg_sl as).length ≤ maxL) (hmap : ws'.map Prod.fst = ws.map Prod.fst)
    (body : ∀ E : zE, zl E = l → zy E = y → zD E = D → zC E own cc T fr lo maxL → zFW E ret ws' r mc ms → zT E hh → Z E 0 0 (lv_args 0 as) ws 0 []) : zW l y D nm T fr lo mc ms as ws ws' r := by
  refine ⟨hmap, fun sz => ?_⟩
  refine vx_ofWH (cc := cc) (maxL := maxL) (ret := ret) (hh := hh) hy hT ?_
  intro p e s m args below meth c s₁ B hml hv
  obtain ⟨rfl, hsz, hP, hK, hD0, hN, hV⟩ := hv
  subst hsz
  have hown : s.vm.findClass own = some m.cls := by rw [← hcls]; exact findClass_of_methodNamed B.named
  have hl := lv_entry as (n := maxL) hlen
  rw [lg_entry_eq]
  refine body (l, y, D, p, e, (headSpec T ({ frames := fr, cells := mc, slots := ms, locals := lo })).room, s, m, as.toArray, below, meth, c, maxL, va_A ws s.heap.size, vx_MQ below (zQ D ws' r (va_A ws s.heap.size)) (fun _ _ _ => False) as.toArray s mc ms (va_A ws s.heap.size)) rfl rfl rfl ?_ ?_ ?_ s.heap [] _ hl hP (hD0.self) va_S.rf
  · exact ⟨B.exec, B.bytes, hml, hown, atoms_spec (ws := T) B.pre, hK, fun q h => Or.inr h, rfl, rfl, rfl, hN, hV⟩
  · exact ⟨B.returns, B.notSynchronized, rfl, rfl, rfl⟩
  · exact vx_table (x := nm) B (atoms_spec (ws := T) B.pre _ (by rw [hT]; exact List.mem_cons_self))
theorem w_iret {E : zE} {own : String} {cc : ByteArray} {Ts : List Cond} {fr lo nL k n pc : Nat} {lv : List (Nat × Value)} {ws : va_W} (h : zC E own cc Ts fr lo nL) {rt : Option FieldType} {ws' : va_W} {r : Option Value} {mc ms : Nat} (hf : zFW E rt ws' r mc ms) {x : Int32} (hrt : rt = some .int) (hv : r = some (.int x)) (hws : ws = ws') (hk : k ≤ mc ∧ n ≤ ms) (hd : decode cc pc = .ok (.ireturn, 1)) : Z E k n lv ws pc [.int x] := by
  subst hws
  obtain ⟨l, y, D, p, e, R, s, m, args, below, meth, c, nL, A, Q⟩ := E
  obtain ⟨hx, hb, hml, hown, hts, hK, hA, hfr, hlo, hnl, hN, hV⟩ := h
  obtain ⟨hr, hlk, rfl, -, -⟩ := hf
  subst hrt hv
  intro H locs ls hl hP hD hS
  exact W.widen hk.1 hk.2 (vx_ret (W.iret hx hb hr (fun t ht hW => ⟨⟨rfl, by rw [ht]; exact hP⟩, hS.F ht⟩) hS.2.2 hd hlk))
theorem w_callS {E : zE} {own : String} {cc : ByteArray} {Ts : List Cond} {fr lo nL k n pc : Nat} {lv : List (Nat × Value)} {ws : va_W} {st stk : List Value} (h : zC E own cc Ts fr lo nL) {nm : MethodName} {T T' : List Cond} {fr1 lo1 maxL ix mc1 ms1 : Nat} {bytes : ByteArray} {ret : Option FieldType} {hh : List (Nat × Nat × Nat × Nat)} {As : List Value} {B B' ws2 : va_W} {r : Option Value} (cnt : Nat) (hc : zW (zl E) (zy E) (zD E) nm T fr1 lo1 mc1 ms1 As B B' r) (hG : GoodIn Ts (va_wsS own ix nm T)) (hdc : nm.cls ≠ "java/lang/invoke/MethodHandle" ∧ nm.cls ≠ "java/lang/invoke/VarHandle" ∧ (parseMethodDescriptor nm.desc).map (fun d => d.parameters.length) = some cnt) (hT : T = Cond.codeWith nm bytes maxL ret hh :: T') (hR : fr1 + 1 ≤ fr ∧ 8 + (maxL + 11) + lo1 ≤ lo) (is : List Nat) (hB : is.map (fun i => ws[i]?) = B.map some) (hnd : va_nd is = true) (hws : zput ws is B' = ws2) (hcat : (st.map fun v => v.category).sum ≤ 8) (hcnt : As.length = cnt) (hstk : stk = As.reverse ++ st) (hd : decode cc pc = .ok (.invokestatic ix, 3)) (hm : k + mc1 ≤ E.2.2.2.2.2.1.cells ∧ n + ms1 ≤ E.2.2.2.2.2.1.slots) (kk : Z E (k + mc1) (n + ms1) lv ws2 (pc + 3) (r.toList ++ st)) : Z E k n lv ws pc stk := by
  obtain ⟨l, y, D, p, e, R, s, m, args, below, meth, c, nL, A, Q⟩ := E
  obtain ⟨hx, hb, hml, hown, hts, hK, hA, hfr, hlo, hnl, hN, hV⟩ := h
  subst hstk hws
  subst hfr hlo hnl
  intro H locs ls hl hP hD hS
  have hpre := z_pre (y := y) hP hD hS hA hK hN hV hB hnd As
  have hF9 : ∀ q, va_A B H.size q → A q := va_free hD hS hA is hB
  have hr := vx_runSX (e := e) (below := below) (meth := meth) (As := As) (rest := st) ⟨hx, hb, hml, hown, hts⟩ (hc.2 H.size) (vx_cwSW cnt hts hG hT rfl rfl hdc ⟨hR.1, hR.2⟩) hpre (g := F0 m pc ls (As.reverse ++ st)) (locs := locs) (cells := k) (slots := n) rfl hcnt hl.1 rfl (lv_room hcat) hd hm
  intro T9 hT9 X9
  rcases hr T9 hT9 X9 with ⟨v, st₀, t, T8, L8, h0, X8, hL, e1, e2, ⟨⟨hv, hPB⟩, hF⟩, s9⟩ | ⟨q, st₀, t, T8, L8, E8, ce, h0, X8, hL, e1, e2, hq, hce, hcv, hcl8, s9⟩
  · cases hv
    obtain ⟨k1, k2, k3⟩ := vx_keep h0 e1 hS (fun q _ h => hF9 q h) (fun q h => hF9 q h) hL hF
    obtain ⟨t2, a1, b1⟩ := kk T8.heap (locs ++ L8) ls hl (zput_P hP hD is hB hc.1 (fun q h1 h2 => k2 q h1 h2) (by rw [e1]; exact hPB)) (zD_of (zput_fst is B' ws (zB_fst hB hc.1)) hD) k3 T8 rfl X8
    exact ⟨t2, s9 t2 a1, b1⟩
  · exact hq.elim
theorem z_gets {E : zE} {own : String} {cc : ByteArray} {Ts : List Cond} {fr lo nL k n pc : Nat} {lv : List (Nat × Value)} {ws : va_W} {st : List Value} (h : zC E own cc Ts fr lo nL) {C nn d : String} {v : Value} {index : Nat} (hz : ∀ (A : Nat → Prop) (U : State) (H : Heap), zV (zy E) A U H → va_Z C nn d v A U H) (hw : Cond.fieldLink own index C nn d ∈ Ts) (hd : decode cc pc = .ok (.getstatic index, 3)) (kk : Z E k n lv ws (pc + 3) (v :: st)) : Z E k n lv ws pc (st) := by
  obtain ⟨l, y, D, p, e, R, s, m, args, below, meth, c, nL, A, Q⟩ := E
  obtain ⟨hx, hb, hml, hown, hts, hK, hA, hfr, hlo, hnl, hN, hV⟩ := h
  intro H locs ls hl hP hD hS
  exact va_gets hx hb (hz _ _ _ hV) hS hown (hts _ hw) (fun _ h => h) hd (kk H locs ls hl hP hD hS)
theorem z_getsN {E : zE} {own : String} {cc : ByteArray} {Ts : List Cond} {fr lo nL k n pc : Nat} {lv : List (Nat × Value)} {ws : va_W} {st : List Value} (h : zC E own cc Ts fr lo nL) {C nn d host : String} {v : Value} {index : Nat} (hz : ∀ (A : Nat → Prop) (U : State) (H : Heap), zV (zy E) A U H → va_Z C nn d v A U H) (hw : Cond.fieldLinkNest own index C nn d host ∈ zNest) (hd : decode cc pc = .ok (.getstatic index, 3)) (kk : Z E k n lv ws (pc + 3) (v :: st)) : Z E k n lv ws pc (st) := by
  obtain ⟨l, y, D, p, e, R, s, m, args, below, meth, c, nL, A, Q⟩ := E
  obtain ⟨hx, hb, hml, hown, hts, hK, hA, hfr, hlo, hnl, hN, hV⟩ := h
  intro H locs ls hl hP hD hS
  exact va_getsN hx hb (hz _ _ _ hV) hS hown (va_Nw.use rfl (hN.1 _ hw)) (fun _ h => h) hd (kk H locs ls hl hP hD hS)
theorem z_getsq {E : zE} {own : String} {cc : ByteArray} {Ts : List Cond} {fr lo nL k n pc : Nat} {lv : List (Nat × Value)} {ws : va_W} {st : List Value} (h : zC E own cc Ts fr lo nL) {C nn d : String} {index : Nat} (hz : ∀ (A : Nat → Prop) (U : State) (H : Heap), zV (zy E) A U H → va_Zq C nn d A U H) (hw : Cond.fieldLink own index C nn d ∈ Ts) (hd : decode cc pc = .ok (.getstatic index, 3)) (kk : ∀ v : Value, (v = .null ∨ ∃ t : Nat, v = .ref t) → Z E k n lv ws (pc + 3) (v :: st)) : Z E k n lv ws pc st := by
  obtain ⟨l, y, D, p, e, R, s, m, args, below, meth, c, nL, A, Q⟩ := E
  obtain ⟨hx, hb, hml, hown, hts, hK, hA, hfr, hlo, hnl, hN, hV⟩ := h
  intro H locs ls hl hP hD hS
  rcases hz _ _ _ hV with q | ⟨t, q⟩
  · exact va_gets hx hb q hS hown (hts _ hw) (fun _ h => h) hd (kk .null (Or.inl rfl) H locs ls hl hP hD hS)
  · exact va_gets hx hb q hS hown (hts _ hw) (fun _ h => h) hd (kk (.ref t) (Or.inr ⟨t, rfl⟩) H locs ls hl hP hD hS)
theorem z_ti {E : zE} {own : String} {cc : ByteArray} {Ts : List Cond} {fr lo nL k n pc : Nat} {lv : List (Nat × Value)} {ws : va_W} {st : List Value} (h : zC E own cc Ts fr lo nL)  {t N : Nat} {f : Nat → Value} (hz : ∀ (A : Nat → Prop) (U : State) (H : Heap), zV (zy E) A U H → va_T .int t N f A U H) {i : Int32} (j : Nat) (hi : i = nI j) (hj : j < N) (hNN : N < 2 ^ 31) {v : Value} (hv : f j = v) (hd : decode cc pc = .ok (.iaload, 1)) (kk : Z E k n lv ws (pc + 1) (v :: st)) : Z E k n lv ws pc (.int i :: .ref t :: st) := by
  obtain ⟨hi1, hi2⟩ := z_ix hi hj hNN
  rw [← hi2] at hv
  obtain ⟨l, y, D, p, e, R, s, m, args, below, meth, c, nL, A, Q⟩ := E
  obtain ⟨hx, hb, hml, hown, hts, hK, hA, hfr, hlo, hnl, hN, hV⟩ := h
  intro H locs ls hl hP hD hS
  exact va_ti hx hb (hz _ _ _ hV) hS hi1 hv hd (kk H locs ls hl hP hD hS)
theorem z_tb {E : zE} {own : String} {cc : ByteArray} {Ts : List Cond} {fr lo nL k n pc : Nat} {lv : List (Nat × Value)} {ws : va_W} {st : List Value} (h : zC E own cc Ts fr lo nL)  {t N : Nat} {f : Nat → Value} (hz : ∀ (A : Nat → Prop) (U : State) (H : Heap), zV (zy E) A U H → va_T .byte t N f A U H) {i : Int32} (j : Nat) (hi : i = nI j) (hj : j < N) (hNN : N < 2 ^ 31) {v : Value} (hv : f j = v) (hd : decode cc pc = .ok (.baload, 1)) (kk : Z E k n lv ws (pc + 1) (v :: st)) : Z E k n lv ws pc (.int i :: .ref t :: st) := by
  obtain ⟨hi1, hi2⟩ := z_ix hi hj hNN
  rw [← hi2] at hv
  obtain ⟨l, y, D, p, e, R, s, m, args, below, meth, c, nL, A, Q⟩ := E
  obtain ⟨hx, hb, hml, hown, hts, hK, hA, hfr, hlo, hnl, hN, hV⟩ := h
  intro H locs ls hl hP hD hS
  exact va_tb hx hb (hz _ _ _ hV) hS hi1 hv hd (kk H locs ls hl hP hD hS)
theorem z_tq {E : zE} {own : String} {cc : ByteArray} {Ts : List Cond} {fr lo nL k n pc : Nat} {lv : List (Nat × Value)} {ws : va_W} {st : List Value} (h : zC E own cc Ts fr lo nL) {C : String} {t N : Nat} {f : Nat → Value} (hz : ∀ (A : Nat → Prop) (U : State) (H : Heap), zV (zy E) A U H → va_T (.object C) t N f A U H) {i : Int32} (j : Nat) (hi : i = nI j) (hj : j < N) (hNN : N < 2 ^ 31) {v : Value} (hv : f j = v) (hd : decode cc pc = .ok (.aaload, 1)) (kk : Z E k n lv ws (pc + 1) (v :: st)) : Z E k n lv ws pc (.int i :: .ref t :: st) := by
  obtain ⟨hi1, hi2⟩ := z_ix hi hj hNN
  rw [← hi2] at hv
  obtain ⟨l, y, D, p, e, R, s, m, args, below, meth, c, nL, A, Q⟩ := E
  obtain ⟨hx, hb, hml, hown, hts, hK, hA, hfr, hlo, hnl, hN, hV⟩ := h
  intro H locs ls hl hP hD hS
  exact vb_tq hx hb (hz _ _ _ hV) hS hi1 hv hd (kk H locs ls hl hP hD hS)
theorem z_tlen {E : zE} {own : String} {cc : ByteArray} {Ts : List Cond} {fr lo nL k n pc : Nat} {lv : List (Nat × Value)} {ws : va_W} {st : List Value} (h : zC E own cc Ts fr lo nL) {ty : FieldType} {t N : Nat} {f : Nat → Value} (hz : ∀ (A : Nat → Prop) (U : State) (H : Heap), zV (zy E) A U H → va_T ty t N f A U H) {v : Int32} (hv : Int32.ofNat N = v) (hd : decode cc pc = .ok (.arraylength, 1)) (kk : Z E k n lv ws (pc + 1) (.int v :: st)) : Z E k n lv ws pc (.ref t :: st) := by
  obtain ⟨l, y, D, p, e, R, s, m, args, below, meth, c, nL, A, Q⟩ := E
  obtain ⟨hx, hb, hml, hown, hts, hK, hA, hfr, hlo, hnl, hN, hV⟩ := h
  intro H locs ls hl hP hD hS
  exact va_tlen hx hb (hz _ _ _ hV) hS hv hd (kk H locs ls hl hP hD hS)
theorem z_getOF {E : zE} {own : String} {cc : ByteArray} {Ts : List Cond} {fr lo nL k n pc : Nat} {lv : List (Nat × Value)} {ws : va_W} {st : List Value} (h : zC E own cc Ts fr lo nL) {C nn d : String} {index q : Nat} {v : Value} (hz : ∀ (A : Nat → Prop) (U : State) (H : Heap), zV (zy E) A U H → va_OF C nn d v q A U H) (hw : Cond.fieldLink own index C nn d ∈ Ts) (hd : decode cc pc = .ok (.getfield index, 3)) (kk : Z E k n lv ws (pc + 3) (v :: st)) : Z E k n lv ws pc (.ref q :: st) := by
  obtain ⟨l, y, D, p, e, R, s, m, args, below, meth, c, nL, A, Q⟩ := E
  obtain ⟨hx, hb, hml, hown, hts, hK, hA, hfr, hlo, hnl, hN, hV⟩ := h
  intro H locs ls hl hP hD hS
  exact vk_getf hx hb (hz _ _ _ hV) hS hown (hts _ hw) (fun _ h => h) hd (kk H locs ls hl hP hD hS)
theorem z_null {E : zE} {own : String} {cc : ByteArray} {Ts : List Cond} {fr lo nL k n pc : Nat} {lv : List (Nat × Value)} {ws : va_W} {st : List Value} (h : zC E own cc Ts fr lo nL) (hd : decode cc pc = .ok (.aconst_null, 1)) (kk : Z E k n lv ws (pc + 1) (.null :: st)) : Z E k n lv ws pc (st) := by
  obtain ⟨l, y, D, p, e, R, s, m, args, below, meth, c, nL, A, Q⟩ := E
  obtain ⟨hx, hb, hml, hown, hts, hK, hA, hfr, hlo, hnl, hN, hV⟩ := h
  intro H locs ls hl hP hD hS
  exact lv_null hx hb hd (kk H locs ls hl hP hD hS)
theorem z_i2c {E : zE} {own : String} {cc : ByteArray} {Ts : List Cond} {fr lo nL k n pc : Nat} {lv : List (Nat × Value)} {ws : va_W} {st : List Value} (h : zC E own cc Ts fr lo nL) {x : Int32} (v : Int32) (hv : (x.toUInt32 % 65536).toInt32 = v) (hd : decode cc pc = .ok (.i2c, 1)) (kk : Z E k n lv ws (pc + 1) (.int v :: st)) : Z E k n lv ws pc (.int x :: st) := by
  obtain ⟨l, y, D, p, e, R, s, m, args, below, meth, c, nL, A, Q⟩ := E
  obtain ⟨hx, hb, hml, hown, hts, hK, hA, hfr, hlo, hnl, hN, hV⟩ := h
  intro H locs ls hl hP hD hS
  exact lv_i2c hx hb hd hv (kk H locs ls hl hP hD hS)
theorem z_lcmp {E : zE} {own : String} {cc : ByteArray} {Ts : List Cond} {fr lo nL k n pc : Nat} {lv : List (Nat × Value)} {ws : va_W} {st : List Value} (h : zC E own cc Ts fr lo nL) {x y : Int64} (hd : decode cc pc = .ok (.lcmp, 1)) (kk : Z E k n lv ws (pc + 1) (.int (lg_cmp x y) :: st)) : Z E k n lv ws pc (.long y :: .long x :: st) := by
  obtain ⟨l, y, D, p, e, R, s, m, args, below, meth, c, nL, A, Q⟩ := E
  obtain ⟨hx, hb, hml, hown, hts, hK, hA, hfr, hlo, hnl, hN, hV⟩ := h
  intro H locs ls hl hP hD hS
  exact W.lcmp hx hb hd (kk H locs ls hl hP hD hS)
theorem z_ifnnN {E : zE} {own : String} {cc : ByteArray} {Ts : List Cond} {fr lo nL k n pc : Nat} {lv : List (Nat × Value)} {ws : va_W} {st : List Value} (h : zC E own cc Ts fr lo nL) {off : Int} (hd : decode cc pc = .ok (.ifnonnull off, 3)) (kk : Z E k n lv ws (pc + 3) (st)) : Z E k n lv ws pc (.null :: st) := by
  obtain ⟨l, y, D, p, e, R, s, m, args, below, meth, c, nL, A, Q⟩ := E
  obtain ⟨hx, hb, hml, hown, hts, hK, hA, hfr, hlo, hnl, hN, hV⟩ := h
  intro H locs ls hl hP hD hS
  exact lv_ifnonnullN hx hb hd (kk H locs ls hl hP hD hS)
theorem z_ifnR {E : zE} {own : String} {cc : ByteArray} {Ts : List Cond} {fr lo nL k n pc : Nat} {lv : List (Nat × Value)} {ws : va_W} {st : List Value} (h : zC E own cc Ts fr lo nL) {a : Nat} {off : Int} (hd : decode cc pc = .ok (.ifnull off, 3)) (kk : Z E k n lv ws (pc + 3) (st)) : Z E k n lv ws pc (.ref a :: st) := by
  obtain ⟨l, y, D, p, e, R, s, m, args, below, meth, c, nL, A, Q⟩ := E
  obtain ⟨hx, hb, hml, hown, hts, hK, hA, hfr, hlo, hnl, hN, hV⟩ := h
  intro H locs ls hl hP hD hS
  exact lv_ifnull hx hb hd (kk H locs ls hl hP hD hS)
theorem z_ifnnR {E : zE} {own : String} {cc : ByteArray} {Ts : List Cond} {fr lo nL k n pc : Nat} {lv : List (Nat × Value)} {ws : va_W} {st : List Value} (h : zC E own cc Ts fr lo nL) {a : Nat} {off : Int} (tgt : Nat) (hd : decode cc pc = .ok (.ifnonnull off, 3)) (ht : (pc : Int) + off = (tgt : Int)) (kk : Z E k n lv ws tgt st) : Z E k n lv ws pc (.ref a :: st) := by
  obtain ⟨l, y, D, p, e, R, s, m, args, below, meth, c, nL, A, Q⟩ := E
  obtain ⟨hx, hb, hml, hown, hts, hK, hA, hfr, hlo, hnl, hN, hV⟩ := h
  intro H locs ls hl hP hD hS
  exact lv_ifnonnull hx hb hd ht (kk H locs ls hl hP hD hS)
theorem z_ifnN {E : zE} {own : String} {cc : ByteArray} {Ts : List Cond} {fr lo nL k n pc : Nat} {lv : List (Nat × Value)} {ws : va_W} {st : List Value} (h : zC E own cc Ts fr lo nL) {off : Int} (tgt : Nat) (hd : decode cc pc = .ok (.ifnull off, 3)) (ht : (pc : Int) + off = (tgt : Int)) (kk : Z E k n lv ws tgt st) : Z E k n lv ws pc (.null :: st) := by
  obtain ⟨l, y, D, p, e, R, s, m, args, below, meth, c, nL, A, Q⟩ := E
  obtain ⟨hx, hb, hml, hown, hts, hK, hA, hfr, hlo, hnl, hN, hV⟩ := h
  intro H locs ls hl hP hD hS
  exact lv_ifnullN hx hb hd ht (kk H locs ls hl hP hD hS)
theorem z_aret {E : zE} {own : String} {cc : ByteArray} {Ts : List Cond} {fr lo nL pc : Nat} {lv : List (Nat × Value)} {ws : va_W} (h : zC E own cc Ts fr lo nL) {rt : FieldType} {ws' : va_W} {r : Option Value} (hf : zF E (some rt) ws' r) {v : Value} (hrt : (∃ n, rt = .object n) ∨ ∃ t, rt = .array t) (hv0 : v = .null ∨ ∃ a, v = .ref a) (hv : r = some v) (hws : ws = ws') (hd : decode cc pc = .ok (.areturn, 1)) : Z E 0 0 lv ws pc [v] := by
  subst hws
  obtain ⟨l, y, D, p, e, R, s, m, args, below, meth, c, nL, A, Q⟩ := E
  obtain ⟨hx, hb, hml, hown, hts, hK, hA, hfr, hlo, hnl, hN, hV⟩ := h
  obtain ⟨hr, hlk, rfl⟩ := hf
  subst hv
  intro H locs ls hl hP hD hS
  exact W.aret hx hb hr hrt hv0 (fun t ht hW => ⟨⟨rfl, by rw [ht]; exact hP⟩, hS.F ht⟩) hS.2.2 hd hlk
theorem z_oV {E : zE} {own : String} {cc : ByteArray} {Ts : List Cond} {fr lo nL k n pc : Nat} {lv : List (Nat × Value)} {ws : va_W} {st stk : List Value} (h : zC E own cc Ts fr lo nL) {nm : MethodName} {T T' : List Cond} {fr1 lo1 maxL ix : Nat} {bytes : ByteArray} {ret : Option FieldType} {As : List Value} {ws2 : va_W} {r : Option Value} (cnt : Nat) {a : Nat} {C : String}  (hc : zM (zl E) (zy E) (zD E) nm T fr1 lo1 (.ref a :: As) ws ws2 r) (hz : ∀ (A : Nat → Prop) (U : State) (H : Heap), zV (zy E) A U H → va_O C a A U H) (hG : GoodIn Ts (wsV own ix C nm T)) (hdc : nm.cls = C ∧ nm.cls ≠ "java/lang/invoke/MethodHandle" ∧ nm.cls ≠ "java/lang/invoke/VarHandle" ∧ (parseMethodDescriptor nm.desc).map (fun d => d.parameters.length) = some cnt) (hT : T = Cond.code nm bytes maxL ret :: T') (hR : fr1 + 1 ≤ fr ∧ 8 + (maxL + 11) + lo1 ≤ lo) (hcat : (st.map fun v => v.category).sum ≤ 8) (hcnt : As.length = cnt) (hstk : stk = As.reverse ++ .ref a :: st) (hd : decode cc pc = .ok (.invokevirtual ix, 3)) (kk : Z E k n lv ws2 (pc + 3) (r.toList ++ st)) (hkR : k ≤ E.2.2.2.2.2.1.cells ∧ n ≤ E.2.2.2.2.2.1.slots) : Z E k n lv ws pc stk := by
  obtain ⟨l, y, D, p, e, R, s, m, args, below, meth, c, nL, A, Q⟩ := E
  obtain ⟨hx, hb, hml, hown, hts, hK, hA, hfr, hlo, hnl, hN, hV⟩ := h
  subst hstk
  subst hfr hlo hnl
  intro H locs ls hl hP hD hS
  have hpre := z_pre (y := y) hP hD hS hA hK hN hV (zr_all ws) (zr_nd _ _) (.ref a :: As)
  have hrv : ∃ cell : Cell, H[a]? = some cell ∧ cell.vm.isStatics = false ∧ s.vm.findClass C = some cell.cls := by
    obtain ⟨cell, h1, h2, h3, -⟩ := (hz _ _ _ hV).kept hS.2.1
    exact ⟨cell, h1, h2, h3⟩
  have hkk : ∀ (H1 : Heap) (locs1 : List Loc), va_P D vwCl (zput ws (zr 0 ws.length) ws2) H1 → va_D A (zput ws (zr 0 ws.length) ws2) → va_S A s.heap H1 locs1 → W p l e R s m args below meth c H1 locs1 k n Q (F0 m (pc + 3) ls (r.toList ++ st)) := by
    rw [zput_all (zlen hc.1)]
    exact fun H1 locs1 hP1 hD1 hS1 => kk H1 locs1 ls hl hP1 hD1 hS1
  refine z_run (B := ws) (B' := ws2) (r := r) (st := st) (a := (.ref a :: As).toArray) ?_ hP hD hS hA (zr 0 ws.length) (zr_all ws) hc.1 hkk
  exact va_runV (As := As) (rest := st) ⟨hx, hb, hml, hown, hts⟩ (hc.2 H.size) (cwV cnt hts hG hT rfl rfl hdc ⟨hR.1, hR.2⟩) ⟨hpre.1, hrv, hpre.2⟩ rfl hcnt hl.1 rfl (lv_room hcat) hd ⟨hkR.1, hkR.2⟩
theorem z_oU {E : zE} {own : String} {cc : ByteArray} {Ts : List Cond} {fr lo nL k n pc : Nat} {lv : List (Nat × Value)} {ws : va_W} {st stk : List Value} (h : zC E own cc Ts fr lo nL) {nm : MethodName} {T T' : List Cond} {fr1 lo1 maxL ix : Nat} {bytes : ByteArray} {ret : Option FieldType} {As : List Value} {ws2 : va_W} {r : Option Value} (cnt : Nat) {a : Nat} {C : String} {owner : String} {x9 : MethodName} (hc : zM (zl E) (zy E) (zD E) nm T fr1 lo1 (.ref a :: As) ws ws2 r) (hz : ∀ (A : Nat → Prop) (U : State) (H : Heap), zV (zy E) A U H → va_O C a A U H) (hG : GoodIn Ts (va_wsU own ix C owner x9 nm T)) (hyx : nm = ⟨owner, x9.name, x9.desc⟩) (hdc : owner ≠ "java/lang/invoke/MethodHandle" ∧ owner ≠ "java/lang/invoke/VarHandle" ∧ (parseMethodDescriptor x9.desc).map (fun d => d.parameters.length) = some cnt) (hT : T = Cond.code nm bytes maxL ret :: T') (hR : fr1 + 1 ≤ fr ∧ 8 + (maxL + 11) + lo1 ≤ lo) (hcat : (st.map fun v => v.category).sum ≤ 8) (hcnt : As.length = cnt) (hstk : stk = As.reverse ++ .ref a :: st) (hd : decode cc pc = .ok (.invokevirtual ix, 3)) (kk : Z E k n lv ws2 (pc + 3) (r.toList ++ st)) (hkR : k ≤ E.2.2.2.2.2.1.cells ∧ n ≤ E.2.2.2.2.2.1.slots) : Z E k n lv ws pc stk := by
  obtain ⟨l, y, D, p, e, R, s, m, args, below, meth, c, nL, A, Q⟩ := E
  obtain ⟨hx, hb, hml, hown, hts, hK, hA, hfr, hlo, hnl, hN, hV⟩ := h
  subst hstk
  subst hfr hlo hnl
  intro H locs ls hl hP hD hS
  have hpre := z_pre (y := y) hP hD hS hA hK hN hV (zr_all ws) (zr_nd _ _) (.ref a :: As)
  have hrv : ∃ cell : Cell, H[a]? = some cell ∧ cell.vm.isStatics = false ∧ s.vm.findClass C = some cell.cls := by
    obtain ⟨cell, h1, h2, h3, -⟩ := (hz _ _ _ hV).kept hS.2.1
    exact ⟨cell, h1, h2, h3⟩
  have hkk : ∀ (H1 : Heap) (locs1 : List Loc), va_P D vwCl (zput ws (zr 0 ws.length) ws2) H1 → va_D A (zput ws (zr 0 ws.length) ws2) → va_S A s.heap H1 locs1 → W p l e R s m args below meth c H1 locs1 k n Q (F0 m (pc + 3) ls (r.toList ++ st)) := by
    rw [zput_all (zlen hc.1)]
    exact fun H1 locs1 hP1 hD1 hS1 => kk H1 locs1 ls hl hP1 hD1 hS1
  refine z_run (B := ws) (B' := ws2) (r := r) (st := st) (a := (.ref a :: As).toArray) ?_ hP hD hS hA (zr 0 ws.length) (zr_all ws) hc.1 hkk
  exact va_runU (As := As) (rest := st) ⟨hx, hb, hml, hown, hts⟩ (hc.2 H.size) (va_cwU cnt hts hG hT rfl rfl hyx hdc ⟨hR.1, hR.2⟩) ⟨hpre.1, hrv, hpre.2⟩ rfl hcnt hl.1 rfl (lv_room hcat) hd ⟨hkR.1, hkR.2⟩
