/-! the law's loop -/
theorem zCW_len (y : zY) (q : Nat → Nat) (a : Nat → Nat → Nat) (g t c o n : Nat → Nat → Int32) (S : Nat → Nat → Nat → Int32) : (zCW y q a g t c o n S).length = 97 := rfl
section LOOP
variable {E : zE} {b L : Nat} {xs : Nat → Int32} {q : Nat → Nat} {a : Nat → Nat → Nat} {qm : Nat → Nat} {bo : Nat}
/-- behind a case: any world that agrees -/
def AF (E : zE) (b : Nat) (q : Nat → Nat) (a : Nat → Nat → Nat) (qm : Nat → Nat) (bo i k n : Nat) : Prop := ∀ (F : Nat → Int64) (g t c o n' : Nat → Nat → Int32) (S : Nat → Nat → Nat → Int32) (h' : Nat → Nat → Int32) (u v : Nat), RR g o n' S h' u v → Z E k n [(0, .ref b), (1, .ref (q 0)), (2, .ref (qm 0)), (3, .ref bo), (4, .int (nI i))] (zOu (zy E) bo F ++ (zCW (zy E) q a g t c o n' S ++ zMo (zy E) qm h')) 1534 []
set_option maxRecDepth 20000 in
theorem ca_addSnow (h : zC E RL cL_law eLaw 13 492 7) (hl : (zl E).stackTraces = false) (hX : va_X b L xs (zs E) (zs E).heap) (hbl : b < (zs E).heap.size) (hbA : ¬ zAA E b) (hL : L ≤ 2560) {i : Nat} (hi : i + 5 ≤ L) {k n : Nat} (hk : k + 1 ≤ E.2.2.2.2.2.1.cells ∧ n + 6 ≤ E.2.2.2.2.2.1.slots) (af : AF E b q a qm bo i (k + 1) (n + 6)) {F : Nat → Int64} {g t c o n9 : Nat → Nat → Int32} {S : Nat → Nat → Nat → Int32} {h9 : Nat → Nat → Int32} {u v : Nat} (R : RR g o n9 S h9 u v) : Z E k n [(0, .ref b), (1, .ref (q 0)), (2, .ref (qm 0)), (3, .ref bo), (4, .int (nI i))] (zOu (zy E) bo F ++ (zCW (zy E) q a g t c o n9 S ++ zMo (zy E) qm h9)) 160 [] := by
  obtain ⟨kc, bm, F1, g1, t1, c1, o1, n1, S1, h1, u1, v1, e1, e2, e3, e4, e5, e6⟩ := oc_addSnow (qm := qm) (bo := bo) (F := F) (t := t) (c := c) (q := q) (a := a) (y := zy E) (D := zD E) hl R (xs (i + 1))
  have e7 := c_X10_thrown (l := zl E) (y := zy E) (D := zD E) qm h1
  rw [e4] at e7
  exact law_addSnow h hX hbl hbA hL hi hk (zCW_len _ _ _ _ _ _ _ _ _) (zCW_len _ _ _ _ _ _ _ _ _) rfl rfl rfl e2 e3 e7 e1 e5 (af F1 g1 t1 c1 o1 n1 S1 h1 u1 v1 e6)
set_option maxRecDepth 20000 in
theorem ca_press (h : zC E RL cL_law eLaw 13 492 7) (hl : (zl E).stackTraces = false) (hX : va_X b L xs (zs E) (zs E).heap) (hbl : b < (zs E).heap.size) (hbA : ¬ zAA E b) (hL : L ≤ 2560) {i : Nat} (hi : i + 5 ≤ L) {k n : Nat} (hk : k + 1 ≤ E.2.2.2.2.2.1.cells ∧ n + 6 ≤ E.2.2.2.2.2.1.slots) (af : AF E b q a qm bo i (k + 1) (n + 6)) {F : Nat → Int64} {g t c o n9 : Nat → Nat → Int32} {S : Nat → Nat → Nat → Int32} {h9 : Nat → Nat → Int32} {u v : Nat} (R : RR g o n9 S h9 u v) : Z E k n [(0, .ref b), (1, .ref (q 0)), (2, .ref (qm 0)), (3, .ref bo), (4, .int (nI i))] (zOu (zy E) bo F ++ (zCW (zy E) q a g t c o n9 S ++ zMo (zy E) qm h9)) 216 [] := by
  obtain ⟨kc, bm, F1, g1, t1, c1, o1, n1, S1, h1, u1, v1, e1, e2, e3, e4, e5, e6⟩ := oc_press (qm := qm) (bo := bo) (F := F) (t := t) (c := c) (q := q) (a := a) (y := zy E) (D := zD E) hl R (xs (i + 1)) (xs (i + 2))
  have e7 := c_X10_thrown (l := zl E) (y := zy E) (D := zD E) qm h1
  rw [e4] at e7
  exact law_press h hX hbl hbA hL hi hk (zCW_len _ _ _ _ _ _ _ _ _) (zCW_len _ _ _ _ _ _ _ _ _) rfl rfl rfl e2 e3 e7 e1 e5 (af F1 g1 t1 c1 o1 n1 S1 h1 u1 v1 e6)
set_option maxRecDepth 20000 in
theorem ca_stack (h : zC E RL cL_law eLaw 13 492 7) (hl : (zl E).stackTraces = false) (hX : va_X b L xs (zs E) (zs E).heap) (hbl : b < (zs E).heap.size) (hbA : ¬ zAA E b) (hL : L ≤ 2560) {i : Nat} (hi : i + 5 ≤ L) {k n : Nat} (hk : k + 1 ≤ E.2.2.2.2.2.1.cells ∧ n + 6 ≤ E.2.2.2.2.2.1.slots) (af : AF E b q a qm bo i (k + 1) (n + 6)) {F : Nat → Int64} {g t c o n9 : Nat → Nat → Int32} {S : Nat → Nat → Nat → Int32} {h9 : Nat → Nat → Int32} {u v : Nat} (R : RR g o n9 S h9 u v) : Z E k n [(0, .ref b), (1, .ref (q 0)), (2, .ref (qm 0)), (3, .ref bo), (4, .int (nI i))] (zOu (zy E) bo F ++ (zCW (zy E) q a g t c o n9 S ++ zMo (zy E) qm h9)) 284 [] := by
  obtain ⟨kc, bm, F1, g1, t1, c1, o1, n1, S1, h1, u1, v1, e1, e2, e3, e4, e5, e6⟩ := oc_stack (qm := qm) (bo := bo) (F := F) (t := t) (c := c) (q := q) (a := a) (y := zy E) (D := zD E) hl R (xs (i + 1)) (xs (i + 2))
  have e7 := c_X10_thrown (l := zl E) (y := zy E) (D := zD E) qm h1
  rw [e4] at e7
  exact law_stack h hX hbl hbA hL hi hk (zCW_len _ _ _ _ _ _ _ _ _) (zCW_len _ _ _ _ _ _ _ _ _) rfl rfl rfl e2 e3 e7 e1 e5 (af F1 g1 t1 c1 o1 n1 S1 h1 u1 v1 e6)
set_option maxRecDepth 20000 in
theorem ca_setWall (h : zC E RL cL_law eLaw 13 492 7) (hl : (zl E).stackTraces = false) (hX : va_X b L xs (zs E) (zs E).heap) (hbl : b < (zs E).heap.size) (hbA : ¬ zAA E b) (hL : L ≤ 2560) {i : Nat} (hi : i + 5 ≤ L) {k n : Nat} (hk : k + 1 ≤ E.2.2.2.2.2.1.cells ∧ n + 6 ≤ E.2.2.2.2.2.1.slots) (af : AF E b q a qm bo i (k + 1) (n + 6)) {F : Nat → Int64} {g t c o n9 : Nat → Nat → Int32} {S : Nat → Nat → Nat → Int32} {h9 : Nat → Nat → Int32} {u v : Nat} (R : RR g o n9 S h9 u v) : Z E k n [(0, .ref b), (1, .ref (q 0)), (2, .ref (qm 0)), (3, .ref bo), (4, .int (nI i))] (zOu (zy E) bo F ++ (zCW (zy E) q a g t c o n9 S ++ zMo (zy E) qm h9)) 352 [] := by
  by_cases hz : xs (i + 2) = 0
  · obtain ⟨kc, bm, F1, g1, t1, c1, o1, n1, S1, h1, u1, v1, e1, e2, e3, e4, e5, e6⟩ := oc_setWall_0 (qm := qm) (bo := bo) (F := F) (t := t) (c := c) (q := q) (a := a) (y := zy E) (D := zD E) hl R (xs (i + 1))
    have e7 := c_X10_thrown (l := zl E) (y := zy E) (D := zD E) qm h1
    rw [e4] at e7
    exact law_setWall_0 h hX hbl hbA hL hi hk hz (zCW_len _ _ _ _ _ _ _ _ _) (zCW_len _ _ _ _ _ _ _ _ _) rfl rfl rfl e2 e3 e7 e1 e5 (af F1 g1 t1 c1 o1 n1 S1 h1 u1 v1 e6)
  · obtain ⟨kc, bm, F1, g1, t1, c1, o1, n1, S1, h1, u1, v1, e1, e2, e3, e4, e5, e6⟩ := oc_setWall_1 (qm := qm) (bo := bo) (F := F) (t := t) (c := c) (q := q) (a := a) (y := zy E) (D := zD E) hl R (xs (i + 1))
    have e7 := c_X10_thrown (l := zl E) (y := zy E) (D := zD E) qm h1
    rw [e4] at e7
    exact law_setWall_1 h hX hbl hbA hL hi hk hz (zCW_len _ _ _ _ _ _ _ _ _) (zCW_len _ _ _ _ _ _ _ _ _) rfl rfl rfl e2 e3 e7 e1 e5 (af F1 g1 t1 c1 o1 n1 S1 h1 u1 v1 e6)
set_option maxRecDepth 20000 in
theorem ca_addTool (h : zC E RL cL_law eLaw 13 492 7) (hl : (zl E).stackTraces = false) (hX : va_X b L xs (zs E) (zs E).heap) (hbl : b < (zs E).heap.size) (hbA : ¬ zAA E b) (hL : L ≤ 2560) {i : Nat} (hi : i + 5 ≤ L) {k n : Nat} (hk : k + 1 ≤ E.2.2.2.2.2.1.cells ∧ n + 6 ≤ E.2.2.2.2.2.1.slots) (af : AF E b q a qm bo i (k + 1) (n + 6)) {F : Nat → Int64} {g t c o n9 : Nat → Nat → Int32} {S : Nat → Nat → Nat → Int32} {h9 : Nat → Nat → Int32} {u v : Nat} (R : RR g o n9 S h9 u v) : Z E k n [(0, .ref b), (1, .ref (q 0)), (2, .ref (qm 0)), (3, .ref bo), (4, .int (nI i))] (zOu (zy E) bo F ++ (zCW (zy E) q a g t c o n9 S ++ zMo (zy E) qm h9)) 436 [] := by
  obtain ⟨kc, bm, F1, g1, t1, c1, o1, n1, S1, h1, u1, v1, e1, e2, e3, e4, e5, e6⟩ := oc_addTool (qm := qm) (bo := bo) (F := F) (t := t) (c := c) (q := q) (a := a) (y := zy E) (D := zD E) hl R (xs (i + 1))
  have e7 := c_X10_thrown (l := zl E) (y := zy E) (D := zD E) qm h1
  rw [e4] at e7
  exact law_addTool h hX hbl hbA hL hi hk (zCW_len _ _ _ _ _ _ _ _ _) (zCW_len _ _ _ _ _ _ _ _ _) rfl rfl rfl e2 e3 e7 e1 e5 (af F1 g1 t1 c1 o1 n1 S1 h1 u1 v1 e6)
set_option maxRecDepth 20000 in
theorem ca_carve (h : zC E RL cL_law eLaw 13 492 7) (hl : (zl E).stackTraces = false) (hX : va_X b L xs (zs E) (zs E).heap) (hbl : b < (zs E).heap.size) (hbA : ¬ zAA E b) (hL : L ≤ 2560) {i : Nat} (hi : i + 5 ≤ L) {k n : Nat} (hk : k + 1 ≤ E.2.2.2.2.2.1.cells ∧ n + 6 ≤ E.2.2.2.2.2.1.slots) (af : AF E b q a qm bo i (k + 1) (n + 6)) {F : Nat → Int64} {g t c o n9 : Nat → Nat → Int32} {S : Nat → Nat → Nat → Int32} {h9 : Nat → Nat → Int32} {u v : Nat} (R : RR g o n9 S h9 u v) : Z E k n [(0, .ref b), (1, .ref (q 0)), (2, .ref (qm 0)), (3, .ref bo), (4, .int (nI i))] (zOu (zy E) bo F ++ (zCW (zy E) q a g t c o n9 S ++ zMo (zy E) qm h9)) 492 [] := by
  obtain ⟨kc, bm, F1, g1, t1, c1, o1, n1, S1, h1, u1, v1, e1, e2, e3, e4, e5, e6⟩ := oc_carve (qm := qm) (bo := bo) (F := F) (t := t) (c := c) (q := q) (a := a) (y := zy E) (D := zD E) hl R (xs (i + 1)) (xs (i + 2)) (xs (i + 3)) (xs (i + 4))
  have e7 := c_X10_thrown (l := zl E) (y := zy E) (D := zD E) qm h1
  rw [e4] at e7
  exact law_carve h hX hbl hbA hL hi hk (zCW_len _ _ _ _ _ _ _ _ _) (zCW_len _ _ _ _ _ _ _ _ _) rfl rfl rfl e2 e3 e7 e1 e5 (af F1 g1 t1 c1 o1 n1 S1 h1 u1 v1 e6)
set_option maxRecDepth 20000 in
theorem ca_recycle (h : zC E RL cL_law eLaw 13 492 7) (hl : (zl E).stackTraces = false) (hX : va_X b L xs (zs E) (zs E).heap) (hbl : b < (zs E).heap.size) (hbA : ¬ zAA E b) (hL : L ≤ 2560) {i : Nat} (hi : i + 5 ≤ L) {k n : Nat} (hk : k + 1 ≤ E.2.2.2.2.2.1.cells ∧ n + 6 ≤ E.2.2.2.2.2.1.slots) (af : AF E b q a qm bo i (k + 1) (n + 6)) {F : Nat → Int64} {g t c o n9 : Nat → Nat → Int32} {S : Nat → Nat → Nat → Int32} {h9 : Nat → Nat → Int32} {u v : Nat} (R : RR g o n9 S h9 u v) : Z E k n [(0, .ref b), (1, .ref (q 0)), (2, .ref (qm 0)), (3, .ref bo), (4, .int (nI i))] (zOu (zy E) bo F ++ (zCW (zy E) q a g t c o n9 S ++ zMo (zy E) qm h9)) 584 [] := by
  obtain ⟨a9, g1, t1, c1, o1, n1, S1, h1, u1, v1, e1, e2, e3⟩ := oc_recycle (qm := qm) (t := t) (c := c) (q := q) (a := a) (l := zl E) (y := zy E) (D := zD E) R
  exact law_recycle (fm1 := []) h hX hbl hbA hL hi hk (zCW_len _ _ _ _ _ _ _ _ _) (zCW_len _ _ _ _ _ _ _ _ _) rfl rfl e1 e2 (af F g1 t1 c1 o1 n1 S1 h1 u1 v1 e3)
set_option maxRecDepth 20000 in
theorem ca_hour (h : zC E RL cL_law eLaw 13 492 7) (hl : (zl E).stackTraces = false) (hX : va_X b L xs (zs E) (zs E).heap) (hbl : b < (zs E).heap.size) (hbA : ¬ zAA E b) (hL : L ≤ 2560) {i : Nat} (hi : i + 5 ≤ L) {k n : Nat} (hk : k + 1 ≤ E.2.2.2.2.2.1.cells ∧ n + 6 ≤ E.2.2.2.2.2.1.slots) (af : AF E b q a qm bo i (k + 1) (n + 6)) {F : Nat → Int64} {g t c o n9 : Nat → Nat → Int32} {S : Nat → Nat → Nat → Int32} {h9 : Nat → Nat → Int32} {u v : Nat} (R : RR g o n9 S h9 u v) : Z E k n [(0, .ref b), (1, .ref (q 0)), (2, .ref (qm 0)), (3, .ref bo), (4, .int (nI i))] (zOu (zy E) bo F ++ (zCW (zy E) q a g t c o n9 S ++ zMo (zy E) qm h9)) 597 [] := by
  by_cases hz : xs (i + 1) = 0
  · obtain ⟨a9, g1, t1, c1, o1, n1, S1, h1, u1, v1, e1, e2, e3⟩ := oc_hour_0 (qm := qm) (t := t) (c := c) (q := q) (a := a) (l := zl E) (y := zy E) (D := zD E) R
    exact law_hour_0 (fm1 := []) h hX hbl hbA hL hi hk hz (zCW_len _ _ _ _ _ _ _ _ _) (zCW_len _ _ _ _ _ _ _ _ _) rfl rfl e1 e2 (af F g1 t1 c1 o1 n1 S1 h1 u1 v1 e3)
  · obtain ⟨a9, g1, t1, c1, o1, n1, S1, h1, u1, v1, e1, e2, e3⟩ := oc_hour_1 (qm := qm) (t := t) (c := c) (q := q) (a := a) (l := zl E) (y := zy E) (D := zD E) R
    exact law_hour_1 (fm1 := []) h hX hbl hbA hL hi hk hz (zCW_len _ _ _ _ _ _ _ _ _) (zCW_len _ _ _ _ _ _ _ _ _) rfl rfl e1 e2 (af F g1 t1 c1 o1 n1 S1 h1 u1 v1 e3)
set_option maxRecDepth 20000 in
theorem ca_ballot (h : zC E RL cL_law eLaw 13 492 7) (hl : (zl E).stackTraces = false) (hX : va_X b L xs (zs E) (zs E).heap) (hbl : b < (zs E).heap.size) (hbA : ¬ zAA E b) (hL : L ≤ 2560) {i : Nat} (hi : i + 5 ≤ L) {k n : Nat} (hk : k + 1 ≤ E.2.2.2.2.2.1.cells ∧ n + 6 ≤ E.2.2.2.2.2.1.slots) (af : AF E b q a qm bo i (k + 1) (n + 6)) {F : Nat → Int64} {g t c o n9 : Nat → Nat → Int32} {S : Nat → Nat → Nat → Int32} {h9 : Nat → Nat → Int32} {u v : Nat} (R : RR g o n9 S h9 u v) : Z E k n [(0, .ref b), (1, .ref (q 0)), (2, .ref (qm 0)), (3, .ref bo), (4, .int (nI i))] (zOu (zy E) bo F ++ (zCW (zy E) q a g t c o n9 S ++ zMo (zy E) qm h9)) 638 [] := by
  obtain ⟨kc, bm, F1, g1, t1, c1, o1, n1, S1, h1, u1, v1, e1, e2, e3, e4, e5, e6⟩ := oc_ballot (qm := qm) (bo := bo) (F := F) (t := t) (c := c) (q := q) (a := a) (y := zy E) (D := zD E) hl R (xs (i + 1)) (xs (i + 2)) (xs (i + 3))
  have e7 := c_X10_thrown (l := zl E) (y := zy E) (D := zD E) qm h1
  rw [e4] at e7
  exact law_ballot h hX hbl hbA hL hi hk (zCW_len _ _ _ _ _ _ _ _ _) (zCW_len _ _ _ _ _ _ _ _ _) rfl rfl rfl e2 e3 e7 e1 e5 (af F1 g1 t1 c1 o1 n1 S1 h1 u1 v1 e6)
set_option maxRecDepth 20000 in
theorem ca_clearBallots (h : zC E RL cL_law eLaw 13 492 7) (hl : (zl E).stackTraces = false) (hX : va_X b L xs (zs E) (zs E).heap) (hbl : b < (zs E).heap.size) (hbA : ¬ zAA E b) (hL : L ≤ 2560) {i : Nat} (hi : i + 5 ≤ L) {k n : Nat} (hk : k + 1 ≤ E.2.2.2.2.2.1.cells ∧ n + 6 ≤ E.2.2.2.2.2.1.slots) (af : AF E b q a qm bo i (k + 1) (n + 6)) {F : Nat → Int64} {g t c o n9 : Nat → Nat → Int32} {S : Nat → Nat → Nat → Int32} {h9 : Nat → Nat → Int32} {u v : Nat} (R : RR g o n9 S h9 u v) : Z E k n [(0, .ref b), (1, .ref (q 0)), (2, .ref (qm 0)), (3, .ref bo), (4, .int (nI i))] (zOu (zy E) bo F ++ (zCW (zy E) q a g t c o n9 S ++ zMo (zy E) qm h9)) 718 [] := by
  obtain ⟨a9, g1, t1, c1, o1, n1, S1, h1, u1, v1, e1, e2, e3⟩ := oc_clearBallots (qm := qm) (t := t) (c := c) (q := q) (a := a) (l := zl E) (y := zy E) (D := zD E) R
  exact law_clearBallots (fm1 := []) h hX hbl hbA hL hi hk (zCW_len _ _ _ _ _ _ _ _ _) (zCW_len _ _ _ _ _ _ _ _ _) rfl rfl e1 e2 (af F g1 t1 c1 o1 n1 S1 h1 u1 v1 e3)
set_option maxRecDepth 20000 in
theorem ca_block (h : zC E RL cL_law eLaw 13 492 7) (hl : (zl E).stackTraces = false) (hX : va_X b L xs (zs E) (zs E).heap) (hbl : b < (zs E).heap.size) (hbA : ¬ zAA E b) (hL : L ≤ 2560) {i : Nat} (hi : i + 5 ≤ L) {k n : Nat} (hk : k + 1 ≤ E.2.2.2.2.2.1.cells ∧ n + 6 ≤ E.2.2.2.2.2.1.slots) (af : AF E b q a qm bo i (k + 1) (n + 6)) {F : Nat → Int64} {g t c o n9 : Nat → Nat → Int32} {S : Nat → Nat → Nat → Int32} {h9 : Nat → Nat → Int32} {u v : Nat} (R : RR g o n9 S h9 u v) : Z E k n [(0, .ref b), (1, .ref (q 0)), (2, .ref (qm 0)), (3, .ref bo), (4, .int (nI i))] (zOu (zy E) bo F ++ (zCW (zy E) q a g t c o n9 S ++ zMo (zy E) qm h9)) 731 [] := by
  obtain ⟨kc, bm, F1, g1, t1, c1, o1, n1, S1, h1, u1, v1, e1, e2, e3, e4, e5, e6⟩ := oc_block (qm := qm) (bo := bo) (F := F) (t := t) (c := c) (q := q) (a := a) (y := zy E) (D := zD E) hl R (xs (i + 1)) (xs (i + 2)) (xs (i + 3))
  have e7 := c_X10_thrown (l := zl E) (y := zy E) (D := zD E) qm h1
  rw [e4] at e7
  exact law_block h hX hbl hbA hL hi hk (zCW_len _ _ _ _ _ _ _ _ _) (zCW_len _ _ _ _ _ _ _ _ _) rfl rfl rfl e2 e3 e7 e1 e5 (af F1 g1 t1 c1 o1 n1 S1 h1 u1 v1 e6)
set_option maxRecDepth 20000 in
theorem ca_site (h : zC E RL cL_law eLaw 13 492 7) (hl : (zl E).stackTraces = false) (hX : va_X b L xs (zs E) (zs E).heap) (hbl : b < (zs E).heap.size) (hbA : ¬ zAA E b) (hL : L ≤ 2560) {i : Nat} (hi : i + 5 ≤ L) {k n : Nat} (hk : k + 1 ≤ E.2.2.2.2.2.1.cells ∧ n + 6 ≤ E.2.2.2.2.2.1.slots) (af : AF E b q a qm bo i (k + 1) (n + 6)) {F : Nat → Int64} {g t c o n9 : Nat → Nat → Int32} {S : Nat → Nat → Nat → Int32} {h9 : Nat → Nat → Int32} {u v : Nat} (R : RR g o n9 S h9 u v) : Z E k n [(0, .ref b), (1, .ref (q 0)), (2, .ref (qm 0)), (3, .ref bo), (4, .int (nI i))] (zOu (zy E) bo F ++ (zCW (zy E) q a g t c o n9 S ++ zMo (zy E) qm h9)) 811 [] := by
  obtain ⟨kc, bm, F1, g1, t1, c1, o1, n1, S1, h1, u1, v1, e1, e2, e3, e4, e5, e6⟩ := oc_site (qm := qm) (bo := bo) (F := F) (t := t) (c := c) (q := q) (a := a) (y := zy E) (D := zD E) hl R (xs (i + 1)) (xs (i + 2))
  have e7 := c_X10_thrown (l := zl E) (y := zy E) (D := zD E) qm h1
  rw [e4] at e7
  exact law_site h hX hbl hbA hL hi hk (zCW_len _ _ _ _ _ _ _ _ _) (zCW_len _ _ _ _ _ _ _ _ _) rfl rfl rfl e2 e3 e7 e1 e5 (af F1 g1 t1 c1 o1 n1 S1 h1 u1 v1 e6)
set_option maxRecDepth 20000 in
theorem ca_tool (h : zC E RL cL_law eLaw 13 492 7) (hl : (zl E).stackTraces = false) (hX : va_X b L xs (zs E) (zs E).heap) (hbl : b < (zs E).heap.size) (hbA : ¬ zAA E b) (hL : L ≤ 2560) {i : Nat} (hi : i + 5 ≤ L) {k n : Nat} (hk : k + 1 ≤ E.2.2.2.2.2.1.cells ∧ n + 6 ≤ E.2.2.2.2.2.1.slots) (af : AF E b q a qm bo i (k + 1) (n + 6)) {F : Nat → Int64} {g t c o n9 : Nat → Nat → Int32} {S : Nat → Nat → Nat → Int32} {h9 : Nat → Nat → Int32} {u v : Nat} (R : RR g o n9 S h9 u v) : Z E k n [(0, .ref b), (1, .ref (q 0)), (2, .ref (qm 0)), (3, .ref bo), (4, .int (nI i))] (zOu (zy E) bo F ++ (zCW (zy E) q a g t c o n9 S ++ zMo (zy E) qm h9)) 879 [] := by
  obtain ⟨kc, bm, F1, g1, t1, c1, o1, n1, S1, h1, u1, v1, e1, e2, e3, e4, e5, e6⟩ := oc_tool (qm := qm) (bo := bo) (F := F) (t := t) (c := c) (q := q) (a := a) (y := zy E) (D := zD E) hl R (xs (i + 1)) (xs (i + 2))
  have e7 := c_X10_thrown (l := zl E) (y := zy E) (D := zD E) qm h1
  rw [e4] at e7
  exact law_tool h hX hbl hbA hL hi hk (zCW_len _ _ _ _ _ _ _ _ _) (zCW_len _ _ _ _ _ _ _ _ _) rfl rfl rfl e2 e3 e7 e1 e5 (af F1 g1 t1 c1 o1 n1 S1 h1 u1 v1 e6)
set_option maxRecDepth 20000 in
theorem ca_whole (h : zC E RL cL_law eLaw 13 492 7) (hl : (zl E).stackTraces = false) (hX : va_X b L xs (zs E) (zs E).heap) (hbl : b < (zs E).heap.size) (hbA : ¬ zAA E b) (hL : L ≤ 2560) {i : Nat} (hi : i + 5 ≤ L) {k n : Nat} (hk : k + 1 ≤ E.2.2.2.2.2.1.cells ∧ n + 6 ≤ E.2.2.2.2.2.1.slots) (af : AF E b q a qm bo i (k + 1) (n + 6)) {F : Nat → Int64} {g t c o n9 : Nat → Nat → Int32} {S : Nat → Nat → Nat → Int32} {h9 : Nat → Nat → Int32} {u v : Nat} (R : RR g o n9 S h9 u v) : Z E k n [(0, .ref b), (1, .ref (q 0)), (2, .ref (qm 0)), (3, .ref bo), (4, .int (nI i))] (zOu (zy E) bo F ++ (zCW (zy E) q a g t c o n9 S ++ zMo (zy E) qm h9)) 947 [] := by
  obtain ⟨kc, bm, F1, g1, t1, c1, o1, n1, S1, h1, u1, v1, e1, e2, e3, e4, e5, e6⟩ := oc_whole (qm := qm) (bo := bo) (F := F) (t := t) (c := c) (q := q) (a := a) (y := zy E) (D := zD E) hl R (xs (i + 1))
  have e7 := c_X10_thrown (l := zl E) (y := zy E) (D := zD E) qm h1
  rw [e4] at e7
  exact law_whole h hX hbl hbA hL hi hk (zCW_len _ _ _ _ _ _ _ _ _) (zCW_len _ _ _ _ _ _ _ _ _) rfl rfl rfl e2 e3 e7 e1 e5 (af F1 g1 t1 c1 o1 n1 S1 h1 u1 v1 e6)
set_option maxRecDepth 20000 in
theorem ca_rounds (h : zC E RL cL_law eLaw 13 492 7) (hl : (zl E).stackTraces = false) (hX : va_X b L xs (zs E) (zs E).heap) (hbl : b < (zs E).heap.size) (hbA : ¬ zAA E b) (hL : L ≤ 2560) {i : Nat} (hi : i + 5 ≤ L) {k n : Nat} (hk : k + 1 ≤ E.2.2.2.2.2.1.cells ∧ n + 6 ≤ E.2.2.2.2.2.1.slots) (af : AF E b q a qm bo i (k + 1) (n + 6)) {F : Nat → Int64} {g t c o n9 : Nat → Nat → Int32} {S : Nat → Nat → Nat → Int32} {h9 : Nat → Nat → Int32} {u v : Nat} (R : RR g o n9 S h9 u v) : Z E k n [(0, .ref b), (1, .ref (q 0)), (2, .ref (qm 0)), (3, .ref bo), (4, .int (nI i))] (zOu (zy E) bo F ++ (zCW (zy E) q a g t c o n9 S ++ zMo (zy E) qm h9)) 1003 [] := by
  obtain ⟨a9, g1, t1, c1, o1, n1, S1, h1, u1, v1, e1, e2, e3⟩ := oc_rounds (qm := qm) (t := t) (c := c) (q := q) (a := a) (l := zl E) (y := zy E) (D := zD E) R
  exact law_rounds (fm1 := []) h hX hbl hbA hL hi hk (zCW_len _ _ _ _ _ _ _ _ _) (zCW_len _ _ _ _ _ _ _ _ _) rfl rfl e1 e2 (af F g1 t1 c1 o1 n1 S1 h1 u1 v1 e3)
set_option maxRecDepth 20000 in
theorem ca_votes (h : zC E RL cL_law eLaw 13 492 7) (hl : (zl E).stackTraces = false) (hX : va_X b L xs (zs E) (zs E).heap) (hbl : b < (zs E).heap.size) (hbA : ¬ zAA E b) (hL : L ≤ 2560) {i : Nat} (hi : i + 5 ≤ L) {k n : Nat} (hk : k + 1 ≤ E.2.2.2.2.2.1.cells ∧ n + 6 ≤ E.2.2.2.2.2.1.slots) (af : AF E b q a qm bo i (k + 1) (n + 6)) {F : Nat → Int64} {g t c o n9 : Nat → Nat → Int32} {S : Nat → Nat → Nat → Int32} {h9 : Nat → Nat → Int32} {u v : Nat} (R : RR g o n9 S h9 u v) : Z E k n [(0, .ref b), (1, .ref (q 0)), (2, .ref (qm 0)), (3, .ref bo), (4, .int (nI i))] (zOu (zy E) bo F ++ (zCW (zy E) q a g t c o n9 S ++ zMo (zy E) qm h9)) 1016 [] := by
  obtain ⟨kc, bm, F1, g1, t1, c1, o1, n1, S1, h1, u1, v1, e1, e2, e3, e4, e5, e6⟩ := oc_votes (qm := qm) (bo := bo) (F := F) (t := t) (c := c) (q := q) (a := a) (y := zy E) (D := zD E) hl R (xs (i + 1)) (xs (i + 2))
  have e7 := c_X10_thrown (l := zl E) (y := zy E) (D := zD E) qm h1
  rw [e4] at e7
  exact law_votes h hX hbl hbA hL hi hk (zCW_len _ _ _ _ _ _ _ _ _) (zCW_len _ _ _ _ _ _ _ _ _) rfl rfl rfl e2 e3 e7 e1 e5 (af F1 g1 t1 c1 o1 n1 S1 h1 u1 v1 e6)
set_option maxRecDepth 20000 in
theorem ca_winner (h : zC E RL cL_law eLaw 13 492 7) (hl : (zl E).stackTraces = false) (hX : va_X b L xs (zs E) (zs E).heap) (hbl : b < (zs E).heap.size) (hbA : ¬ zAA E b) (hL : L ≤ 2560) {i : Nat} (hi : i + 5 ≤ L) {k n : Nat} (hk : k + 1 ≤ E.2.2.2.2.2.1.cells ∧ n + 6 ≤ E.2.2.2.2.2.1.slots) (af : AF E b q a qm bo i (k + 1) (n + 6)) {F : Nat → Int64} {g t c o n9 : Nat → Nat → Int32} {S : Nat → Nat → Nat → Int32} {h9 : Nat → Nat → Int32} {u v : Nat} (R : RR g o n9 S h9 u v) : Z E k n [(0, .ref b), (1, .ref (q 0)), (2, .ref (qm 0)), (3, .ref bo), (4, .int (nI i))] (zOu (zy E) bo F ++ (zCW (zy E) q a g t c o n9 S ++ zMo (zy E) qm h9)) 1084 [] := by
  obtain ⟨a9, g1, t1, c1, o1, n1, S1, h1, u1, v1, e1, e2, e3⟩ := oc_winner (qm := qm) (t := t) (c := c) (q := q) (a := a) (l := zl E) (y := zy E) (D := zD E) R
  exact law_winner (fm1 := []) h hX hbl hbA hL hi hk (zCW_len _ _ _ _ _ _ _ _ _) (zCW_len _ _ _ _ _ _ _ _ _) rfl rfl e1 e2 (af F g1 t1 c1 o1 n1 S1 h1 u1 v1 e3)
set_option maxRecDepth 20000 in
theorem ca_reason (h : zC E RL cL_law eLaw 13 492 7) (hl : (zl E).stackTraces = false) (hX : va_X b L xs (zs E) (zs E).heap) (hbl : b < (zs E).heap.size) (hbA : ¬ zAA E b) (hL : L ≤ 2560) {i : Nat} (hi : i + 5 ≤ L) {k n : Nat} (hk : k + 1 ≤ E.2.2.2.2.2.1.cells ∧ n + 6 ≤ E.2.2.2.2.2.1.slots) (af : AF E b q a qm bo i (k + 1) (n + 6)) {F : Nat → Int64} {g t c o n9 : Nat → Nat → Int32} {S : Nat → Nat → Nat → Int32} {h9 : Nat → Nat → Int32} {u v : Nat} (R : RR g o n9 S h9 u v) : Z E k n [(0, .ref b), (1, .ref (q 0)), (2, .ref (qm 0)), (3, .ref bo), (4, .int (nI i))] (zOu (zy E) bo F ++ (zCW (zy E) q a g t c o n9 S ++ zMo (zy E) qm h9)) 1097 [] := by
  obtain ⟨kc, bm, F1, g1, t1, c1, o1, n1, S1, h1, u1, v1, e1, e2, e3, e4, e5, e6⟩ := oc_reason (qm := qm) (bo := bo) (F := F) (t := t) (c := c) (q := q) (a := a) (y := zy E) (D := zD E) hl R (xs (i + 1)) (xs (i + 2)) (xs (i + 3)) (xs (i + 4))
  have e7 := c_X10_thrown (l := zl E) (y := zy E) (D := zD E) qm h1
  rw [e4] at e7
  exact law_reason h hX hbl hbA hL hi hk (zCW_len _ _ _ _ _ _ _ _ _) (zCW_len _ _ _ _ _ _ _ _ _) rfl rfl rfl e2 e3 e7 e1 e5 (af F1 g1 t1 c1 o1 n1 S1 h1 u1 v1 e6)
set_option maxRecDepth 20000 in
theorem ca_volumeIn (h : zC E RL cL_law eLaw 13 492 7) (hl : (zl E).stackTraces = false) (hX : va_X b L xs (zs E) (zs E).heap) (hbl : b < (zs E).heap.size) (hbA : ¬ zAA E b) (hL : L ≤ 2560) {i : Nat} (hi : i + 5 ≤ L) {k n : Nat} (hk : k + 1 ≤ E.2.2.2.2.2.1.cells ∧ n + 6 ≤ E.2.2.2.2.2.1.slots) (af : AF E b q a qm bo i (k + 1) (n + 6)) {F : Nat → Int64} {g t c o n9 : Nat → Nat → Int32} {S : Nat → Nat → Nat → Int32} {h9 : Nat → Nat → Int32} {u v : Nat} (R : RR g o n9 S h9 u v) : Z E k n [(0, .ref b), (1, .ref (q 0)), (2, .ref (qm 0)), (3, .ref bo), (4, .int (nI i))] (zOu (zy E) bo F ++ (zCW (zy E) q a g t c o n9 S ++ zMo (zy E) qm h9)) 1189 [] := by
  obtain ⟨kc, bm, F1, g1, t1, c1, o1, n1, S1, h1, u1, v1, e1, e2, e3, e4, e5, e6⟩ := oc_volumeIn (qm := qm) (bo := bo) (F := F) (t := t) (c := c) (q := q) (a := a) (y := zy E) (D := zD E) hl R (xs (i + 1)) (xs (i + 2))
  have e7 := c_X10_thrown (l := zl E) (y := zy E) (D := zD E) qm h1
  rw [e4] at e7
  exact law_volumeIn h hX hbl hbA hL hi hk (zCW_len _ _ _ _ _ _ _ _ _) (zCW_len _ _ _ _ _ _ _ _ _) rfl rfl rfl e2 e3 e7 e1 e5 (af F1 g1 t1 c1 o1 n1 S1 h1 u1 v1 e6)
set_option maxRecDepth 20000 in
theorem ca_goneIn (h : zC E RL cL_law eLaw 13 492 7) (hl : (zl E).stackTraces = false) (hX : va_X b L xs (zs E) (zs E).heap) (hbl : b < (zs E).heap.size) (hbA : ¬ zAA E b) (hL : L ≤ 2560) {i : Nat} (hi : i + 5 ≤ L) {k n : Nat} (hk : k + 1 ≤ E.2.2.2.2.2.1.cells ∧ n + 6 ≤ E.2.2.2.2.2.1.slots) (af : AF E b q a qm bo i (k + 1) (n + 6)) {F : Nat → Int64} {g t c o n9 : Nat → Nat → Int32} {S : Nat → Nat → Nat → Int32} {h9 : Nat → Nat → Int32} {u v : Nat} (R : RR g o n9 S h9 u v) : Z E k n [(0, .ref b), (1, .ref (q 0)), (2, .ref (qm 0)), (3, .ref bo), (4, .int (nI i))] (zOu (zy E) bo F ++ (zCW (zy E) q a g t c o n9 S ++ zMo (zy E) qm h9)) 1257 [] := by
  obtain ⟨kc, bm, F1, g1, t1, c1, o1, n1, S1, h1, u1, v1, e1, e2, e3, e4, e5, e6⟩ := oc_goneIn (qm := qm) (bo := bo) (F := F) (t := t) (c := c) (q := q) (a := a) (y := zy E) (D := zD E) hl R (xs (i + 1))
  have e7 := c_X10_thrown (l := zl E) (y := zy E) (D := zD E) qm h1
  rw [e4] at e7
  exact law_goneIn h hX hbl hbA hL hi hk (zCW_len _ _ _ _ _ _ _ _ _) (zCW_len _ _ _ _ _ _ _ _ _) rfl rfl rfl e2 e3 e7 e1 e5 (af F1 g1 t1 c1 o1 n1 S1 h1 u1 v1 e6)
set_option maxRecDepth 20000 in
theorem ca_bestWall (h : zC E RL cL_law eLaw 13 492 7) (hl : (zl E).stackTraces = false) (hX : va_X b L xs (zs E) (zs E).heap) (hbl : b < (zs E).heap.size) (hbA : ¬ zAA E b) (hL : L ≤ 2560) {i : Nat} (hi : i + 5 ≤ L) {k n : Nat} (hk : k + 1 ≤ E.2.2.2.2.2.1.cells ∧ n + 6 ≤ E.2.2.2.2.2.1.slots) (af : AF E b q a qm bo i (k + 1) (n + 6)) {F : Nat → Int64} {g t c o n9 : Nat → Nat → Int32} {S : Nat → Nat → Nat → Int32} {h9 : Nat → Nat → Int32} {u v : Nat} (R : RR g o n9 S h9 u v) : Z E k n [(0, .ref b), (1, .ref (q 0)), (2, .ref (qm 0)), (3, .ref bo), (4, .int (nI i))] (zOu (zy E) bo F ++ (zCW (zy E) q a g t c o n9 S ++ zMo (zy E) qm h9)) 1313 [] := by
  obtain ⟨a9, g1, t1, c1, o1, n1, S1, h1, u1, v1, e1, e2, e3⟩ := oc_bestWall (qm := qm) (t := t) (c := c) (q := q) (a := a) (l := zl E) (y := zy E) (D := zD E) R
  exact law_bestWall (fm1 := []) h hX hbl hbA hL hi hk (zCW_len _ _ _ _ _ _ _ _ _) (zCW_len _ _ _ _ _ _ _ _ _) rfl rfl e1 e2 (af F g1 t1 c1 o1 n1 S1 h1 u1 v1 e3)
set_option maxRecDepth 20000 in
theorem ca_minutesFor (h : zC E RL cL_law eLaw 13 492 7) (hl : (zl E).stackTraces = false) (hX : va_X b L xs (zs E) (zs E).heap) (hbl : b < (zs E).heap.size) (hbA : ¬ zAA E b) (hL : L ≤ 2560) {i : Nat} (hi : i + 5 ≤ L) {k n : Nat} (hk : k + 1 ≤ E.2.2.2.2.2.1.cells ∧ n + 6 ≤ E.2.2.2.2.2.1.slots) (af : AF E b q a qm bo i (k + 1) (n + 6)) {F : Nat → Int64} {g t c o n9 : Nat → Nat → Int32} {S : Nat → Nat → Nat → Int32} {h9 : Nat → Nat → Int32} {u v : Nat} (R : RR g o n9 S h9 u v) : Z E k n [(0, .ref b), (1, .ref (q 0)), (2, .ref (qm 0)), (3, .ref bo), (4, .int (nI i))] (zOu (zy E) bo F ++ (zCW (zy E) q a g t c o n9 S ++ zMo (zy E) qm h9)) 1326 [] := by
  obtain ⟨kc, bm, F1, g1, t1, c1, o1, n1, S1, h1, u1, v1, e1, e2, e3, e4, e5, e6⟩ := oc_minutesFor (qm := qm) (bo := bo) (F := F) (t := t) (c := c) (q := q) (a := a) (y := zy E) (D := zD E) hl R (xs (i + 1)) (xs (i + 2))
  have e7 := c_X10_thrown (l := zl E) (y := zy E) (D := zD E) qm h1
  rw [e4] at e7
  exact law_minutesFor h hX hbl hbA hL hi hk (zCW_len _ _ _ _ _ _ _ _ _) (zCW_len _ _ _ _ _ _ _ _ _) rfl rfl rfl e2 e3 e7 e1 e5 (af F1 g1 t1 c1 o1 n1 S1 h1 u1 v1 e6)
set_option maxRecDepth 20000 in
theorem ca_type (h : zC E RL cL_law eLaw 13 492 7) (hl : (zl E).stackTraces = false) (hX : va_X b L xs (zs E) (zs E).heap) (hbl : b < (zs E).heap.size) (hbA : ¬ zAA E b) (hL : L ≤ 2560) {i : Nat} (hi : i + 5 ≤ L) {k n : Nat} (hk : k + 1 ≤ E.2.2.2.2.2.1.cells ∧ n + 6 ≤ E.2.2.2.2.2.1.slots) (af : AF E b q a qm bo i (k + 1) (n + 6)) {F : Nat → Int64} {g t c o n9 : Nat → Nat → Int32} {S : Nat → Nat → Nat → Int32} {h9 : Nat → Nat → Int32} {u v : Nat} (R : RR g o n9 S h9 u v) : Z E k n [(0, .ref b), (1, .ref (q 0)), (2, .ref (qm 0)), (3, .ref bo), (4, .int (nI i))] (zOu (zy E) bo F ++ (zCW (zy E) q a g t c o n9 S ++ zMo (zy E) qm h9)) 1394 [] := by
  obtain ⟨kc, bm, F1, g1, t1, c1, o1, n1, S1, h1, u1, v1, e1, e2, e3, e4, e5, e6⟩ := oc_type (qm := qm) (bo := bo) (F := F) (t := t) (c := c) (q := q) (a := a) (y := zy E) (D := zD E) hl R (xs (i + 1))
  have e7 := c_X10_thrown (l := zl E) (y := zy E) (D := zD E) qm h1
  rw [e4] at e7
  exact law_type h hX hbl hbA hL hi hk (zCW_len _ _ _ _ _ _ _ _ _) (zCW_len _ _ _ _ _ _ _ _ _) rfl rfl rfl e2 e3 e7 e1 e5 (af F1 g1 t1 c1 o1 n1 S1 h1 u1 v1 e6)
set_option maxRecDepth 20000 in
theorem ca_clearOrders (h : zC E RL cL_law eLaw 13 492 7) (hl : (zl E).stackTraces = false) (hX : va_X b L xs (zs E) (zs E).heap) (hbl : b < (zs E).heap.size) (hbA : ¬ zAA E b) (hL : L ≤ 2560) {i : Nat} (hi : i + 5 ≤ L) {k n : Nat} (hk : k + 1 ≤ E.2.2.2.2.2.1.cells ∧ n + 6 ≤ E.2.2.2.2.2.1.slots) (af : AF E b q a qm bo i (k + 1) (n + 6)) {F : Nat → Int64} {g t c o n9 : Nat → Nat → Int32} {S : Nat → Nat → Nat → Int32} {h9 : Nat → Nat → Int32} {u v : Nat} (R : RR g o n9 S h9 u v) : Z E k n [(0, .ref b), (1, .ref (q 0)), (2, .ref (qm 0)), (3, .ref bo), (4, .int (nI i))] (zOu (zy E) bo F ++ (zCW (zy E) q a g t c o n9 S ++ zMo (zy E) qm h9)) 1450 [] := by
  obtain ⟨a9, g1, t1, c1, o1, n1, S1, h1, u1, v1, e1, e2, e3⟩ := oc_clearOrders (qm := qm) (t := t) (c := c) (q := q) (a := a) (l := zl E) (y := zy E) (D := zD E) R
  exact law_clearOrders (fm1 := []) h hX hbl hbA hL hi hk (zCW_len _ _ _ _ _ _ _ _ _) (zCW_len _ _ _ _ _ _ _ _ _) rfl rfl e1 e2 (af F g1 t1 c1 o1 n1 S1 h1 u1 v1 e3)
set_option maxRecDepth 20000 in
theorem ca_runOrders (h : zC E RL cL_law eLaw 13 492 7) (hl : (zl E).stackTraces = false) (hX : va_X b L xs (zs E) (zs E).heap) (hbl : b < (zs E).heap.size) (hbA : ¬ zAA E b) (hL : L ≤ 2560) {i : Nat} (hi : i + 5 ≤ L) {k n : Nat} (hk : k + 1 ≤ E.2.2.2.2.2.1.cells ∧ n + 6 ≤ E.2.2.2.2.2.1.slots) (af : AF E b q a qm bo i (k + 1) (n + 6)) {F : Nat → Int64} {g t c o n9 : Nat → Nat → Int32} {S : Nat → Nat → Nat → Int32} {h9 : Nat → Nat → Int32} {u v : Nat} (R : RR g o n9 S h9 u v) : Z E k n [(0, .ref b), (1, .ref (q 0)), (2, .ref (qm 0)), (3, .ref bo), (4, .int (nI i))] (zOu (zy E) bo F ++ (zCW (zy E) q a g t c o n9 S ++ zMo (zy E) qm h9)) 1463 [] := by
  obtain ⟨a9, g1, t1, c1, o1, n1, S1, h1, u1, v1, e1, e2, e3⟩ := oc_runOrders (qm := qm) (t := t) (c := c) (q := q) (a := a) (l := zl E) (y := zy E) (D := zD E) R
  exact law_runOrders (fm1 := []) h hX hbl hbA hL hi hk (zCW_len _ _ _ _ _ _ _ _ _) (zCW_len _ _ _ _ _ _ _ _ _) rfl rfl e1 e2 (af F g1 t1 c1 o1 n1 S1 h1 u1 v1 e3)
set_option maxRecDepth 20000 in
theorem ca_undo (h : zC E RL cL_law eLaw 13 492 7) (hl : (zl E).stackTraces = false) (hX : va_X b L xs (zs E) (zs E).heap) (hbl : b < (zs E).heap.size) (hbA : ¬ zAA E b) (hL : L ≤ 2560) {i : Nat} (hi : i + 5 ≤ L) {k n : Nat} (hk : k + 1 ≤ E.2.2.2.2.2.1.cells ∧ n + 6 ≤ E.2.2.2.2.2.1.slots) (af : AF E b q a qm bo i (k + 1) (n + 6)) {F : Nat → Int64} {g t c o n9 : Nat → Nat → Int32} {S : Nat → Nat → Nat → Int32} {h9 : Nat → Nat → Int32} {u v : Nat} (R : RR g o n9 S h9 u v) : Z E k n [(0, .ref b), (1, .ref (q 0)), (2, .ref (qm 0)), (3, .ref bo), (4, .int (nI i))] (zOu (zy E) bo F ++ (zCW (zy E) q a g t c o n9 S ++ zMo (zy E) qm h9)) 1476 [] := by
  obtain ⟨kc, bm, F1, g1, t1, c1, o1, n1, S1, h1, u1, v1, e1, e2, e3, e4, e5, e6⟩ := oc_undo (qm := qm) (bo := bo) (F := F) (t := t) (c := c) (q := q) (a := a) (y := zy E) (D := zD E) hl R
  have e7 := c_X10_thrown (l := zl E) (y := zy E) (D := zD E) qm h1
  rw [e4] at e7
  exact law_undo h hX hbl hbA hL hi hk (zCW_len _ _ _ _ _ _ _ _ _) (zCW_len _ _ _ _ _ _ _ _ _) rfl rfl rfl e2 e3 e7 e1 e5 (af F1 g1 t1 c1 o1 n1 S1 h1 u1 v1 e6)
set_option maxRecDepth 20000 in
theorem ca_digest (h : zC E RL cL_law eLaw 13 492 7) (hl : (zl E).stackTraces = false) (hX : va_X b L xs (zs E) (zs E).heap) (hbl : b < (zs E).heap.size) (hbA : ¬ zAA E b) (hL : L ≤ 2560) {i : Nat} (hi : i + 5 ≤ L) {k n : Nat} (hk : k + 1 ≤ E.2.2.2.2.2.1.cells ∧ n + 6 ≤ E.2.2.2.2.2.1.slots) (af : AF E b q a qm bo i (k + 1) (n + 6)) {F : Nat → Int64} {g t c o n9 : Nat → Nat → Int32} {S : Nat → Nat → Nat → Int32} {h9 : Nat → Nat → Int32} {u v : Nat} (R : RR g o n9 S h9 u v) : Z E k n [(0, .ref b), (1, .ref (q 0)), (2, .ref (qm 0)), (3, .ref bo), (4, .int (nI i))] (zOu (zy E) bo F ++ (zCW (zy E) q a g t c o n9 S ++ zMo (zy E) qm h9)) 1520 [] := by
  obtain ⟨a9, g1, t1, c1, o1, n1, S1, h1, u1, v1, e1, e2, e3⟩ := oc_digest (qm := qm) (t := t) (c := c) (q := q) (a := a) (l := zl E) (y := zy E) (D := zD E) R
  exact law_digest (fm1 := []) h hX hbl hbA hL hi hk (zCW_len _ _ _ _ _ _ _ _ _) (zCW_len _ _ _ _ _ _ _ _ _) rfl rfl e1 e2 (af F g1 t1 c1 o1 n1 S1 h1 u1 v1 e3)
end LOOP
