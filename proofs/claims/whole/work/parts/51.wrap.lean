/-! the law's wrappers: whatever the method does, they do so too; what it throws is told by a number -/
theorem z_last {E : zE} {own : String} {cc : ByteArray} {Ts : List Cond} {fr lo nL k n pc : Nat} {lv : List (Nat × Value)} {ws : va_W} {st : List Value} (h : zC E own cc Ts fr lo nL) (q0 : Nat) {a n9 j : Nat} {f : Nat → Int64} {x : Int64} {ws' : va_W} (ha : ws[q0]? = some (a, .inl ((zy E).1 3, n9, .inr (.inl f)))) (hj : j < n9) (hn9 : n9 < 2 ^ 31) (hws : ws.set q0 (a, .inl ((zy E).1 3, n9, .inr (.inl (vp_updL f j x)))) = ws') (hd : decode cc pc = .ok (.lastore, 1)) (kk : Z E k n lv ws' (pc + 1) st) : Z E k n lv ws pc (.long x :: .int (nI j) :: .ref a :: st) := by
  obtain ⟨hi1, hi2⟩ := z_ix (i := nI j) rfl hj hn9
  subst hws
  obtain ⟨l, y, D, p, e, R, s, m, args, below, meth, c, nL, A, Q⟩ := E
  obtain ⟨hx, hb, hml, hown, hts, hK, hA, hfr, hlo, hnl, hN, hV⟩ := h
  intro H locs ls hl hP hD hS
  refine va_last hx hb hK hP hD hS q0 3 ha rfl hi1 hd fun H1 locs1 hP1 hD1 hS1 => ?_
  rw [hi2] at hP1 hD1
  exact kk H1 locs1 ls hl hP1 hD1 hS1
theorem w_room {E : zE} {ret : Option FieldType} {ws' : va_W} {r : Option Value} {mc ms : Nat} (hf : zFW E ret ws' r mc ms) : E.2.2.2.2.2.1.cells = mc ∧ E.2.2.2.2.2.1.slots = ms := by
  obtain ⟨l, y, D, p, e, R, s, m, args, below, meth, c, nL, A, Q⟩ := E
  exact ⟨hf.2.2.2.1, hf.2.2.2.2⟩
theorem map_mid {X B B' Y : va_W} {X' : va_W} (hX : X'.map Prod.fst = X.map Prod.fst) (h : B'.map Prod.fst = B.map Prod.fst) : (X' ++ (B' ++ Y)).map Prod.fst = (X ++ (B ++ Y)).map Prod.fst := by
  simp only [List.map_append, hX, h]
def zOu (y : zY) (b : Nat) (F : Nat → Int64) : va_W := [(b, .inl (y.1 3, 1, .inr (.inl F)))]
set_option maxHeartbeats 4000000 in
set_option maxRecDepth 100000 in
theorem w_addSnow_0 {l : Launch} {y : zY} {D : va_G} (b : Nat) (F : Nat → Int64) (Y : va_W) (q : Nat → Nat) (a : Nat → Nat → Nat) (g t c o n : Nat → Nat → Int32) (S : Nat → Nat → Nat → Int32) (u0 : Int32) {fr1 lo1 : Nat} (hfl : fr1 ≤ 7 ∧ lo1 ≤ 200) {ws2 : va_W} {x : Int32} (hc : zM l y D yX9_addSnow wsX9_addSnow fr1 lo1 [.ref (q 0), .int u0] (zCW y q a g t c o n S) ws2 (some (.int x))) : zW l y D yL_addSnow wsL_addSnow 8 230 1 6 [.ref (q 0), .int u0, .ref b] (zOu y b F ++ (zCW y q a g t c o n S ++ Y)) (zOu y b (vp_updL F 0 x.toInt64) ++ (ws2 ++ Y)) (some (.int (nI 0))) := by
  refine w_start (own := RL) (cc := cL_addSnow) (maxL := 4) (ret := some .int) rfl (by decide +kernel) rfl (Nat.le_of_ble_eq_true rfl) (map_mid rfl hc.1) ?_
  intro E hEl hEy hED h hf htb
  subst hEl hEy hED
  have hrm := w_room hf
  refine z_cast (lv := [(0, .ref (q 0)), (1, .int u0), (2, .ref b)]) (ws := zOu (zy E) b F ++ (zCW (zy E) q a g t c o n S ++ Y)) (st := []) ?_ rfl rfl rfl
  refine z_aload_n h 2 rfl dL_addSnow_0 ?_
  refine z_iconst h (nI 0) (by decide +kernel) dL_addSnow_1 ?_
  refine z_aload_n h 0 rfl dL_addSnow_2 ?_
  refine z_iload_n h 1 rfl dL_addSnow_3 ?_
  refine z_wV h (As := [.int u0]) (st := [.int (nI 0), .ref b]) (ws2 := zOu (zy E) b F ++ (ws2 ++ Y)) (r := some (.int x)) 1 (z_mid (zOu (zy E) b F) Y hc) gL_addSnow_X9_addSnow (q0 := 1) (ci := 7) ⟨rfl, by decide, by decide, by decide +kernel⟩ rfl rfl rfl ⟨by omega, by omega⟩ (Nat.le_of_ble_eq_true rfl) rfl rfl dL_addSnow_4 ?_ ⟨Nat.zero_le _, Nat.zero_le _⟩
  refine z_i2l h dL_addSnow_7 ?_
  refine z_last h 0 (j := 0) (ws' := zOu (zy E) b (vp_updL F 0 x.toInt64) ++ (ws2 ++ Y)) rfl (by decide) (by decide) rfl dL_addSnow_8 ?_
  refine z_goto h 18 dL_addSnow_9 (by decide) ?_
  refine z_iconst h (nI 0) (by decide +kernel) dL_addSnow_18 ?_
  exact w_iret h hf rfl rfl rfl ⟨Nat.zero_le _, Nat.zero_le _⟩ dL_addSnow_19
set_option maxHeartbeats 4000000 in
set_option maxRecDepth 100000 in
theorem w_addSnow_1 {l : Launch} {y : zY} {D : va_G} (b : Nat) (F : Nat → Int64) (Y : va_W) (q : Nat → Nat) (a : Nat → Nat → Nat) (g t c o n : Nat → Nat → Int32) (S : Nat → Nat → Nat → Int32) (u0 : Int32) {fr1 lo1 : Nat} (hfl : fr1 ≤ 7 ∧ lo1 ≤ 200) {mc1 ms1 : Nat} (hm1 : mc1 ≤ 1 ∧ ms1 ≤ 6) (hc : zX l y D yX9_addSnow wsX9_addSnow fr1 lo1 mc1 ms1 [.ref (q 0), .int u0] (zCW y q a g t c o n S) "java/lang/IllegalArgumentException") : zW l y D yL_addSnow wsL_addSnow 8 230 1 6 [.ref (q 0), .int u0, .ref b] (zOu y b F ++ (zCW y q a g t c o n S ++ Y)) (zOu y b F ++ (zCW y q a g t c o n S ++ Y)) (some (.int (nI 1))) := by
  refine w_start (own := RL) (cc := cL_addSnow) (maxL := 4) (ret := some .int) rfl (by decide +kernel) rfl (Nat.le_of_ble_eq_true rfl) rfl ?_
  intro E hEl hEy hED h hf htb
  subst hEl hEy hED
  have hrm := w_room hf
  refine z_cast (lv := [(0, .ref (q 0)), (1, .int u0), (2, .ref b)]) (ws := zOu (zy E) b F ++ (zCW (zy E) q a g t c o n S ++ Y)) (st := []) ?_ rfl rfl rfl
  refine z_aload_n h 2 rfl dL_addSnow_0 ?_
  refine z_iconst h (nI 0) (by decide +kernel) dL_addSnow_1 ?_
  refine z_aload_n h 0 rfl dL_addSnow_2 ?_
  refine z_iload_n h 1 rfl dL_addSnow_3 ?_
  refine x_catch h (As := [.int u0]) (st := [.int (nI 0), .ref b]) (q0 := 1) (ci := 7) 1 (x_mid (zOu (zy E) b F) Y hc) htb [] ⟨0, 9, 12, 13⟩ [⟨0, 9, 15, 15⟩] rfl (fun z hz => absurd hz List.not_mem_nil) (by decide +kernel) (by decide) (List.mem_of_getElem? (i := 1) (by decide +kernel)) (by decide +kernel) gL_addSnow_X9_addSnow ⟨rfl, by decide, by decide, by decide +kernel⟩ rfl rfl rfl ⟨by omega, by omega⟩ (Nat.le_of_ble_eq_true rfl) rfl rfl dL_addSnow_4 ⟨by rw [hrm.1]; omega, by rw [hrm.2]; omega⟩ (fun q9 => ?_)
  refine z_cast (lv := [(0, .ref (q 0)), (1, .int u0), (2, .ref b)]) (ws := zOu (zy E) b F ++ (zCW (zy E) q a g t c o n S ++ Y)) (st := [.ref q9]) ?_ rfl rfl rfl
  refine z_astore_n h (by decide) (lv' := [(3, .ref q9), (0, .ref (q 0)), (1, .int u0), (2, .ref b)]) rfl dL_addSnow_12 ?_
  refine z_iconst h (nI 1) (by decide +kernel) dL_addSnow_13 ?_
  exact w_iret h hf rfl rfl rfl ⟨by omega, by omega⟩ dL_addSnow_14
set_option maxHeartbeats 4000000 in
set_option maxRecDepth 100000 in
theorem w_addSnow_2 {l : Launch} {y : zY} {D : va_G} (b : Nat) (F : Nat → Int64) (Y : va_W) (q : Nat → Nat) (a : Nat → Nat → Nat) (g t c o n : Nat → Nat → Int32) (S : Nat → Nat → Nat → Int32) (u0 : Int32) {fr1 lo1 : Nat} (hfl : fr1 ≤ 7 ∧ lo1 ≤ 200) {mc1 ms1 : Nat} (hm1 : mc1 ≤ 1 ∧ ms1 ≤ 6) (hc : zX l y D yX9_addSnow wsX9_addSnow fr1 lo1 mc1 ms1 [.ref (q 0), .int u0] (zCW y q a g t c o n S) "java/lang/IllegalStateException") : zW l y D yL_addSnow wsL_addSnow 8 230 1 6 [.ref (q 0), .int u0, .ref b] (zOu y b F ++ (zCW y q a g t c o n S ++ Y)) (zOu y b F ++ (zCW y q a g t c o n S ++ Y)) (some (.int (nI 2))) := by
  refine w_start (own := RL) (cc := cL_addSnow) (maxL := 4) (ret := some .int) rfl (by decide +kernel) rfl (Nat.le_of_ble_eq_true rfl) rfl ?_
  intro E hEl hEy hED h hf htb
  subst hEl hEy hED
  have hrm := w_room hf
  refine z_cast (lv := [(0, .ref (q 0)), (1, .int u0), (2, .ref b)]) (ws := zOu (zy E) b F ++ (zCW (zy E) q a g t c o n S ++ Y)) (st := []) ?_ rfl rfl rfl
  refine z_aload_n h 2 rfl dL_addSnow_0 ?_
  refine z_iconst h (nI 0) (by decide +kernel) dL_addSnow_1 ?_
  refine z_aload_n h 0 rfl dL_addSnow_2 ?_
  refine z_iload_n h 1 rfl dL_addSnow_3 ?_
  refine x_catch h (As := [.int u0]) (st := [.int (nI 0), .ref b]) (q0 := 1) (ci := 7) 1 (x_mid (zOu (zy E) b F) Y hc) htb [⟨0, 9, 12, 13⟩] ⟨0, 9, 15, 15⟩ [] rfl (List.forall_mem_cons.mpr ⟨Or.inr ⟨by decide, "java/lang/IllegalArgumentException", (List.mem_of_getElem? (i := 1) (by decide +kernel)), by decide +kernel⟩, (fun z hz => absurd hz List.not_mem_nil)⟩) (by decide +kernel) (by decide) (List.mem_of_getElem? (i := 2) (by decide +kernel)) (by decide +kernel) gL_addSnow_X9_addSnow ⟨rfl, by decide, by decide, by decide +kernel⟩ rfl rfl rfl ⟨by omega, by omega⟩ (Nat.le_of_ble_eq_true rfl) rfl rfl dL_addSnow_4 ⟨by rw [hrm.1]; omega, by rw [hrm.2]; omega⟩ (fun q9 => ?_)
  refine z_cast (lv := [(0, .ref (q 0)), (1, .int u0), (2, .ref b)]) (ws := zOu (zy E) b F ++ (zCW (zy E) q a g t c o n S ++ Y)) (st := [.ref q9]) ?_ rfl rfl rfl
  refine z_astore_n h (by decide) (lv' := [(3, .ref q9), (0, .ref (q 0)), (1, .int u0), (2, .ref b)]) rfl dL_addSnow_15 ?_
  refine z_iconst h (nI 2) (by decide +kernel) dL_addSnow_16 ?_
  exact w_iret h hf rfl rfl rfl ⟨by omega, by omega⟩ dL_addSnow_17
set_option maxHeartbeats 4000000 in
set_option maxRecDepth 100000 in
theorem w_press_0 {l : Launch} {y : zY} {D : va_G} (b : Nat) (F : Nat → Int64) (Y : va_W) (q : Nat → Nat) (a : Nat → Nat → Nat) (g t c o n : Nat → Nat → Int32) (S : Nat → Nat → Nat → Int32) (u0 u1 : Int32) {fr1 lo1 : Nat} (hfl : fr1 ≤ 7 ∧ lo1 ≤ 200) {ws2 : va_W} {x : Int32} (hc : zM l y D yX9_press wsX9_press fr1 lo1 [.ref (q 0), .int u0, .int u1] (zCW y q a g t c o n S) ws2 (some (.int x))) : zW l y D yL_press wsL_press 8 230 1 6 [.ref (q 0), .int u0, .int u1, .ref b] (zOu y b F ++ (zCW y q a g t c o n S ++ Y)) (zOu y b (vp_updL F 0 x.toInt64) ++ (ws2 ++ Y)) (some (.int (nI 0))) := by
  refine w_start (own := RL) (cc := cL_press) (maxL := 5) (ret := some .int) rfl (by decide +kernel) rfl (Nat.le_of_ble_eq_true rfl) (map_mid rfl hc.1) ?_
  intro E hEl hEy hED h hf htb
  subst hEl hEy hED
  have hrm := w_room hf
  refine z_cast (lv := [(0, .ref (q 0)), (1, .int u0), (2, .int u1), (3, .ref b)]) (ws := zOu (zy E) b F ++ (zCW (zy E) q a g t c o n S ++ Y)) (st := []) ?_ rfl rfl rfl
  refine z_aload_n h 3 rfl dL_press_0 ?_
  refine z_iconst h (nI 0) (by decide +kernel) dL_press_1 ?_
  refine z_aload_n h 0 rfl dL_press_2 ?_
  refine z_iload_n h 1 rfl dL_press_3 ?_
  refine z_iload_n h 2 rfl dL_press_4 ?_
  refine z_wV h (As := [.int u0, .int u1]) (st := [.int (nI 0), .ref b]) (ws2 := zOu (zy E) b F ++ (ws2 ++ Y)) (r := some (.int x)) 2 (z_mid (zOu (zy E) b F) Y hc) gL_press_X9_press (q0 := 1) (ci := 7) ⟨rfl, by decide, by decide, by decide +kernel⟩ rfl rfl rfl ⟨by omega, by omega⟩ (Nat.le_of_ble_eq_true rfl) rfl rfl dL_press_5 ?_ ⟨Nat.zero_le _, Nat.zero_le _⟩
  refine z_i2l h dL_press_8 ?_
  refine z_last h 0 (j := 0) (ws' := zOu (zy E) b (vp_updL F 0 x.toInt64) ++ (ws2 ++ Y)) rfl (by decide) (by decide) rfl dL_press_9 ?_
  refine z_goto h 21 dL_press_10 (by decide) ?_
  refine z_iconst h (nI 0) (by decide +kernel) dL_press_21 ?_
  exact w_iret h hf rfl rfl rfl ⟨Nat.zero_le _, Nat.zero_le _⟩ dL_press_22
set_option maxHeartbeats 4000000 in
set_option maxRecDepth 100000 in
theorem w_press_1 {l : Launch} {y : zY} {D : va_G} (b : Nat) (F : Nat → Int64) (Y : va_W) (q : Nat → Nat) (a : Nat → Nat → Nat) (g t c o n : Nat → Nat → Int32) (S : Nat → Nat → Nat → Int32) (u0 u1 : Int32) {fr1 lo1 : Nat} (hfl : fr1 ≤ 7 ∧ lo1 ≤ 200) {mc1 ms1 : Nat} (hm1 : mc1 ≤ 1 ∧ ms1 ≤ 6) (hc : zX l y D yX9_press wsX9_press fr1 lo1 mc1 ms1 [.ref (q 0), .int u0, .int u1] (zCW y q a g t c o n S) "java/lang/IllegalArgumentException") : zW l y D yL_press wsL_press 8 230 1 6 [.ref (q 0), .int u0, .int u1, .ref b] (zOu y b F ++ (zCW y q a g t c o n S ++ Y)) (zOu y b F ++ (zCW y q a g t c o n S ++ Y)) (some (.int (nI 1))) := by
  refine w_start (own := RL) (cc := cL_press) (maxL := 5) (ret := some .int) rfl (by decide +kernel) rfl (Nat.le_of_ble_eq_true rfl) rfl ?_
  intro E hEl hEy hED h hf htb
  subst hEl hEy hED
  have hrm := w_room hf
  refine z_cast (lv := [(0, .ref (q 0)), (1, .int u0), (2, .int u1), (3, .ref b)]) (ws := zOu (zy E) b F ++ (zCW (zy E) q a g t c o n S ++ Y)) (st := []) ?_ rfl rfl rfl
  refine z_aload_n h 3 rfl dL_press_0 ?_
  refine z_iconst h (nI 0) (by decide +kernel) dL_press_1 ?_
  refine z_aload_n h 0 rfl dL_press_2 ?_
  refine z_iload_n h 1 rfl dL_press_3 ?_
  refine z_iload_n h 2 rfl dL_press_4 ?_
  refine x_catch h (As := [.int u0, .int u1]) (st := [.int (nI 0), .ref b]) (q0 := 1) (ci := 7) 2 (x_mid (zOu (zy E) b F) Y hc) htb [] ⟨0, 10, 13, 13⟩ [⟨0, 10, 17, 15⟩] rfl (fun z hz => absurd hz List.not_mem_nil) (by decide +kernel) (by decide) (List.mem_of_getElem? (i := 1) (by decide +kernel)) (by decide +kernel) gL_press_X9_press ⟨rfl, by decide, by decide, by decide +kernel⟩ rfl rfl rfl ⟨by omega, by omega⟩ (Nat.le_of_ble_eq_true rfl) rfl rfl dL_press_5 ⟨by rw [hrm.1]; omega, by rw [hrm.2]; omega⟩ (fun q9 => ?_)
  refine z_cast (lv := [(0, .ref (q 0)), (1, .int u0), (2, .int u1), (3, .ref b)]) (ws := zOu (zy E) b F ++ (zCW (zy E) q a g t c o n S ++ Y)) (st := [.ref q9]) ?_ rfl rfl rfl
  refine z_astore h (by decide) (lv' := [(4, .ref q9), (0, .ref (q 0)), (1, .int u0), (2, .int u1), (3, .ref b)]) rfl dL_press_13 ?_
  refine z_iconst h (nI 1) (by decide +kernel) dL_press_15 ?_
  exact w_iret h hf rfl rfl rfl ⟨by omega, by omega⟩ dL_press_16
set_option maxHeartbeats 4000000 in
set_option maxRecDepth 100000 in
theorem w_press_2 {l : Launch} {y : zY} {D : va_G} (b : Nat) (F : Nat → Int64) (Y : va_W) (q : Nat → Nat) (a : Nat → Nat → Nat) (g t c o n : Nat → Nat → Int32) (S : Nat → Nat → Nat → Int32) (u0 u1 : Int32) {fr1 lo1 : Nat} (hfl : fr1 ≤ 7 ∧ lo1 ≤ 200) {mc1 ms1 : Nat} (hm1 : mc1 ≤ 1 ∧ ms1 ≤ 6) (hc : zX l y D yX9_press wsX9_press fr1 lo1 mc1 ms1 [.ref (q 0), .int u0, .int u1] (zCW y q a g t c o n S) "java/lang/IllegalStateException") : zW l y D yL_press wsL_press 8 230 1 6 [.ref (q 0), .int u0, .int u1, .ref b] (zOu y b F ++ (zCW y q a g t c o n S ++ Y)) (zOu y b F ++ (zCW y q a g t c o n S ++ Y)) (some (.int (nI 2))) := by
  refine w_start (own := RL) (cc := cL_press) (maxL := 5) (ret := some .int) rfl (by decide +kernel) rfl (Nat.le_of_ble_eq_true rfl) rfl ?_
  intro E hEl hEy hED h hf htb
  subst hEl hEy hED
  have hrm := w_room hf
  refine z_cast (lv := [(0, .ref (q 0)), (1, .int u0), (2, .int u1), (3, .ref b)]) (ws := zOu (zy E) b F ++ (zCW (zy E) q a g t c o n S ++ Y)) (st := []) ?_ rfl rfl rfl
  refine z_aload_n h 3 rfl dL_press_0 ?_
  refine z_iconst h (nI 0) (by decide +kernel) dL_press_1 ?_
  refine z_aload_n h 0 rfl dL_press_2 ?_
  refine z_iload_n h 1 rfl dL_press_3 ?_
  refine z_iload_n h 2 rfl dL_press_4 ?_
  refine x_catch h (As := [.int u0, .int u1]) (st := [.int (nI 0), .ref b]) (q0 := 1) (ci := 7) 2 (x_mid (zOu (zy E) b F) Y hc) htb [⟨0, 10, 13, 13⟩] ⟨0, 10, 17, 15⟩ [] rfl (List.forall_mem_cons.mpr ⟨Or.inr ⟨by decide, "java/lang/IllegalArgumentException", (List.mem_of_getElem? (i := 1) (by decide +kernel)), by decide +kernel⟩, (fun z hz => absurd hz List.not_mem_nil)⟩) (by decide +kernel) (by decide) (List.mem_of_getElem? (i := 2) (by decide +kernel)) (by decide +kernel) gL_press_X9_press ⟨rfl, by decide, by decide, by decide +kernel⟩ rfl rfl rfl ⟨by omega, by omega⟩ (Nat.le_of_ble_eq_true rfl) rfl rfl dL_press_5 ⟨by rw [hrm.1]; omega, by rw [hrm.2]; omega⟩ (fun q9 => ?_)
  refine z_cast (lv := [(0, .ref (q 0)), (1, .int u0), (2, .int u1), (3, .ref b)]) (ws := zOu (zy E) b F ++ (zCW (zy E) q a g t c o n S ++ Y)) (st := [.ref q9]) ?_ rfl rfl rfl
  refine z_astore h (by decide) (lv' := [(4, .ref q9), (0, .ref (q 0)), (1, .int u0), (2, .int u1), (3, .ref b)]) rfl dL_press_17 ?_
  refine z_iconst h (nI 2) (by decide +kernel) dL_press_19 ?_
  exact w_iret h hf rfl rfl rfl ⟨by omega, by omega⟩ dL_press_20
set_option maxHeartbeats 4000000 in
set_option maxRecDepth 100000 in
theorem w_stack_0 {l : Launch} {y : zY} {D : va_G} (b : Nat) (F : Nat → Int64) (Y : va_W) (q : Nat → Nat) (a : Nat → Nat → Nat) (g t c o n : Nat → Nat → Int32) (S : Nat → Nat → Nat → Int32) (u0 u1 : Int32) {fr1 lo1 : Nat} (hfl : fr1 ≤ 7 ∧ lo1 ≤ 200) {ws2 : va_W} {x : Int32} (hc : zM l y D yX9_stack wsX9_stack fr1 lo1 [.ref (q 0), .int u0, .int u1] (zCW y q a g t c o n S) ws2 (some (.int x))) : zW l y D yL_stack wsL_stack 8 230 1 6 [.ref (q 0), .int u0, .int u1, .ref b] (zOu y b F ++ (zCW y q a g t c o n S ++ Y)) (zOu y b (vp_updL F 0 x.toInt64) ++ (ws2 ++ Y)) (some (.int (nI 0))) := by
  refine w_start (own := RL) (cc := cL_stack) (maxL := 5) (ret := some .int) rfl (by decide +kernel) rfl (Nat.le_of_ble_eq_true rfl) (map_mid rfl hc.1) ?_
  intro E hEl hEy hED h hf htb
  subst hEl hEy hED
  have hrm := w_room hf
  refine z_cast (lv := [(0, .ref (q 0)), (1, .int u0), (2, .int u1), (3, .ref b)]) (ws := zOu (zy E) b F ++ (zCW (zy E) q a g t c o n S ++ Y)) (st := []) ?_ rfl rfl rfl
  refine z_aload_n h 3 rfl dL_stack_0 ?_
  refine z_iconst h (nI 0) (by decide +kernel) dL_stack_1 ?_
  refine z_aload_n h 0 rfl dL_stack_2 ?_
  refine z_iload_n h 1 rfl dL_stack_3 ?_
  refine z_iload_n h 2 rfl dL_stack_4 ?_
  refine z_wV h (As := [.int u0, .int u1]) (st := [.int (nI 0), .ref b]) (ws2 := zOu (zy E) b F ++ (ws2 ++ Y)) (r := some (.int x)) 2 (z_mid (zOu (zy E) b F) Y hc) gL_stack_X9_stack (q0 := 1) (ci := 7) ⟨rfl, by decide, by decide, by decide +kernel⟩ rfl rfl rfl ⟨by omega, by omega⟩ (Nat.le_of_ble_eq_true rfl) rfl rfl dL_stack_5 ?_ ⟨Nat.zero_le _, Nat.zero_le _⟩
  refine z_i2l h dL_stack_8 ?_
  refine z_last h 0 (j := 0) (ws' := zOu (zy E) b (vp_updL F 0 x.toInt64) ++ (ws2 ++ Y)) rfl (by decide) (by decide) rfl dL_stack_9 ?_
  refine z_goto h 25 dL_stack_10 (by decide) ?_
  refine z_iconst h (nI 0) (by decide +kernel) dL_stack_25 ?_
  exact w_iret h hf rfl rfl rfl ⟨Nat.zero_le _, Nat.zero_le _⟩ dL_stack_26
set_option maxHeartbeats 4000000 in
set_option maxRecDepth 100000 in
theorem w_stack_1 {l : Launch} {y : zY} {D : va_G} (b : Nat) (F : Nat → Int64) (Y : va_W) (q : Nat → Nat) (a : Nat → Nat → Nat) (g t c o n : Nat → Nat → Int32) (S : Nat → Nat → Nat → Int32) (u0 u1 : Int32) {fr1 lo1 : Nat} (hfl : fr1 ≤ 7 ∧ lo1 ≤ 200) {mc1 ms1 : Nat} (hm1 : mc1 ≤ 1 ∧ ms1 ≤ 6) (hc : zX l y D yX9_stack wsX9_stack fr1 lo1 mc1 ms1 [.ref (q 0), .int u0, .int u1] (zCW y q a g t c o n S) "java/lang/IndexOutOfBoundsException") : zW l y D yL_stack wsL_stack 8 230 1 6 [.ref (q 0), .int u0, .int u1, .ref b] (zOu y b F ++ (zCW y q a g t c o n S ++ Y)) (zOu y b F ++ (zCW y q a g t c o n S ++ Y)) (some (.int (nI 1))) := by
  refine w_start (own := RL) (cc := cL_stack) (maxL := 5) (ret := some .int) rfl (by decide +kernel) rfl (Nat.le_of_ble_eq_true rfl) rfl ?_
  intro E hEl hEy hED h hf htb
  subst hEl hEy hED
  have hrm := w_room hf
  refine z_cast (lv := [(0, .ref (q 0)), (1, .int u0), (2, .int u1), (3, .ref b)]) (ws := zOu (zy E) b F ++ (zCW (zy E) q a g t c o n S ++ Y)) (st := []) ?_ rfl rfl rfl
  refine z_aload_n h 3 rfl dL_stack_0 ?_
  refine z_iconst h (nI 0) (by decide +kernel) dL_stack_1 ?_
  refine z_aload_n h 0 rfl dL_stack_2 ?_
  refine z_iload_n h 1 rfl dL_stack_3 ?_
  refine z_iload_n h 2 rfl dL_stack_4 ?_
  refine x_catch h (As := [.int u0, .int u1]) (st := [.int (nI 0), .ref b]) (q0 := 1) (ci := 7) 2 (x_mid (zOu (zy E) b F) Y hc) htb [] ⟨0, 10, 13, 24⟩ [⟨0, 10, 17, 13⟩, ⟨0, 10, 21, 15⟩] rfl (fun z hz => absurd hz List.not_mem_nil) (by decide +kernel) (by decide) (List.mem_of_getElem? (i := 1) (by decide +kernel)) (by decide +kernel) gL_stack_X9_stack ⟨rfl, by decide, by decide, by decide +kernel⟩ rfl rfl rfl ⟨by omega, by omega⟩ (Nat.le_of_ble_eq_true rfl) rfl rfl dL_stack_5 ⟨by rw [hrm.1]; omega, by rw [hrm.2]; omega⟩ (fun q9 => ?_)
  refine z_cast (lv := [(0, .ref (q 0)), (1, .int u0), (2, .int u1), (3, .ref b)]) (ws := zOu (zy E) b F ++ (zCW (zy E) q a g t c o n S ++ Y)) (st := [.ref q9]) ?_ rfl rfl rfl
  refine z_astore h (by decide) (lv' := [(4, .ref q9), (0, .ref (q 0)), (1, .int u0), (2, .int u1), (3, .ref b)]) rfl dL_stack_13 ?_
  refine z_iconst h (nI 1) (by decide +kernel) dL_stack_15 ?_
  exact w_iret h hf rfl rfl rfl ⟨by omega, by omega⟩ dL_stack_16
set_option maxHeartbeats 4000000 in
set_option maxRecDepth 100000 in
theorem w_stack_2 {l : Launch} {y : zY} {D : va_G} (b : Nat) (F : Nat → Int64) (Y : va_W) (q : Nat → Nat) (a : Nat → Nat → Nat) (g t c o n : Nat → Nat → Int32) (S : Nat → Nat → Nat → Int32) (u0 u1 : Int32) {fr1 lo1 : Nat} (hfl : fr1 ≤ 7 ∧ lo1 ≤ 200) {mc1 ms1 : Nat} (hm1 : mc1 ≤ 1 ∧ ms1 ≤ 6) (hc : zX l y D yX9_stack wsX9_stack fr1 lo1 mc1 ms1 [.ref (q 0), .int u0, .int u1] (zCW y q a g t c o n S) "java/lang/IllegalArgumentException") : zW l y D yL_stack wsL_stack 8 230 1 6 [.ref (q 0), .int u0, .int u1, .ref b] (zOu y b F ++ (zCW y q a g t c o n S ++ Y)) (zOu y b F ++ (zCW y q a g t c o n S ++ Y)) (some (.int (nI 2))) := by
  refine w_start (own := RL) (cc := cL_stack) (maxL := 5) (ret := some .int) rfl (by decide +kernel) rfl (Nat.le_of_ble_eq_true rfl) rfl ?_
  intro E hEl hEy hED h hf htb
  subst hEl hEy hED
  have hrm := w_room hf
  refine z_cast (lv := [(0, .ref (q 0)), (1, .int u0), (2, .int u1), (3, .ref b)]) (ws := zOu (zy E) b F ++ (zCW (zy E) q a g t c o n S ++ Y)) (st := []) ?_ rfl rfl rfl
  refine z_aload_n h 3 rfl dL_stack_0 ?_
  refine z_iconst h (nI 0) (by decide +kernel) dL_stack_1 ?_
  refine z_aload_n h 0 rfl dL_stack_2 ?_
  refine z_iload_n h 1 rfl dL_stack_3 ?_
  refine z_iload_n h 2 rfl dL_stack_4 ?_
  refine x_catch h (As := [.int u0, .int u1]) (st := [.int (nI 0), .ref b]) (q0 := 1) (ci := 7) 2 (x_mid (zOu (zy E) b F) Y hc) htb [⟨0, 10, 13, 24⟩] ⟨0, 10, 17, 13⟩ [⟨0, 10, 21, 15⟩] rfl (List.forall_mem_cons.mpr ⟨Or.inr ⟨by decide, "java/lang/IndexOutOfBoundsException", (List.mem_of_getElem? (i := 1) (by decide +kernel)), by decide +kernel⟩, (fun z hz => absurd hz List.not_mem_nil)⟩) (by decide +kernel) (by decide) (List.mem_of_getElem? (i := 2) (by decide +kernel)) (by decide +kernel) gL_stack_X9_stack ⟨rfl, by decide, by decide, by decide +kernel⟩ rfl rfl rfl ⟨by omega, by omega⟩ (Nat.le_of_ble_eq_true rfl) rfl rfl dL_stack_5 ⟨by rw [hrm.1]; omega, by rw [hrm.2]; omega⟩ (fun q9 => ?_)
  refine z_cast (lv := [(0, .ref (q 0)), (1, .int u0), (2, .int u1), (3, .ref b)]) (ws := zOu (zy E) b F ++ (zCW (zy E) q a g t c o n S ++ Y)) (st := [.ref q9]) ?_ rfl rfl rfl
  refine z_astore h (by decide) (lv' := [(4, .ref q9), (0, .ref (q 0)), (1, .int u0), (2, .int u1), (3, .ref b)]) rfl dL_stack_17 ?_
  refine z_iconst h (nI 2) (by decide +kernel) dL_stack_19 ?_
  exact w_iret h hf rfl rfl rfl ⟨by omega, by omega⟩ dL_stack_20
set_option maxHeartbeats 4000000 in
set_option maxRecDepth 100000 in
theorem w_stack_3 {l : Launch} {y : zY} {D : va_G} (b : Nat) (F : Nat → Int64) (Y : va_W) (q : Nat → Nat) (a : Nat → Nat → Nat) (g t c o n : Nat → Nat → Int32) (S : Nat → Nat → Nat → Int32) (u0 u1 : Int32) {fr1 lo1 : Nat} (hfl : fr1 ≤ 7 ∧ lo1 ≤ 200) {mc1 ms1 : Nat} (hm1 : mc1 ≤ 1 ∧ ms1 ≤ 6) (hc : zX l y D yX9_stack wsX9_stack fr1 lo1 mc1 ms1 [.ref (q 0), .int u0, .int u1] (zCW y q a g t c o n S) "java/lang/IllegalStateException") : zW l y D yL_stack wsL_stack 8 230 1 6 [.ref (q 0), .int u0, .int u1, .ref b] (zOu y b F ++ (zCW y q a g t c o n S ++ Y)) (zOu y b F ++ (zCW y q a g t c o n S ++ Y)) (some (.int (nI 3))) := by
  refine w_start (own := RL) (cc := cL_stack) (maxL := 5) (ret := some .int) rfl (by decide +kernel) rfl (Nat.le_of_ble_eq_true rfl) rfl ?_
  intro E hEl hEy hED h hf htb
  subst hEl hEy hED
  have hrm := w_room hf
  refine z_cast (lv := [(0, .ref (q 0)), (1, .int u0), (2, .int u1), (3, .ref b)]) (ws := zOu (zy E) b F ++ (zCW (zy E) q a g t c o n S ++ Y)) (st := []) ?_ rfl rfl rfl
  refine z_aload_n h 3 rfl dL_stack_0 ?_
  refine z_iconst h (nI 0) (by decide +kernel) dL_stack_1 ?_
  refine z_aload_n h 0 rfl dL_stack_2 ?_
  refine z_iload_n h 1 rfl dL_stack_3 ?_
  refine z_iload_n h 2 rfl dL_stack_4 ?_
  refine x_catch h (As := [.int u0, .int u1]) (st := [.int (nI 0), .ref b]) (q0 := 1) (ci := 7) 2 (x_mid (zOu (zy E) b F) Y hc) htb [⟨0, 10, 13, 24⟩, ⟨0, 10, 17, 13⟩] ⟨0, 10, 21, 15⟩ [] rfl (List.forall_mem_cons.mpr ⟨Or.inr ⟨by decide, "java/lang/IndexOutOfBoundsException", (List.mem_of_getElem? (i := 1) (by decide +kernel)), by decide +kernel⟩, (List.forall_mem_cons.mpr ⟨Or.inr ⟨by decide, "java/lang/IllegalArgumentException", (List.mem_of_getElem? (i := 2) (by decide +kernel)), by decide +kernel⟩, (fun z hz => absurd hz List.not_mem_nil)⟩)⟩) (by decide +kernel) (by decide) (List.mem_of_getElem? (i := 3) (by decide +kernel)) (by decide +kernel) gL_stack_X9_stack ⟨rfl, by decide, by decide, by decide +kernel⟩ rfl rfl rfl ⟨by omega, by omega⟩ (Nat.le_of_ble_eq_true rfl) rfl rfl dL_stack_5 ⟨by rw [hrm.1]; omega, by rw [hrm.2]; omega⟩ (fun q9 => ?_)
  refine z_cast (lv := [(0, .ref (q 0)), (1, .int u0), (2, .int u1), (3, .ref b)]) (ws := zOu (zy E) b F ++ (zCW (zy E) q a g t c o n S ++ Y)) (st := [.ref q9]) ?_ rfl rfl rfl
  refine z_astore h (by decide) (lv' := [(4, .ref q9), (0, .ref (q 0)), (1, .int u0), (2, .int u1), (3, .ref b)]) rfl dL_stack_21 ?_
  refine z_iconst h (nI 3) (by decide +kernel) dL_stack_23 ?_
  exact w_iret h hf rfl rfl rfl ⟨by omega, by omega⟩ dL_stack_24
set_option maxHeartbeats 4000000 in
set_option maxRecDepth 100000 in
theorem w_setWall_0 {l : Launch} {y : zY} {D : va_G} (b : Nat) (F : Nat → Int64) (Y : va_W) (q : Nat → Nat) (a : Nat → Nat → Nat) (g t c o n : Nat → Nat → Int32) (S : Nat → Nat → Nat → Int32) (u0 u1 : Int32) {fr1 lo1 : Nat} (hfl : fr1 ≤ 7 ∧ lo1 ≤ 200) {ws2 : va_W} {x : Int32} (hc : zM l y D yX9_setWall wsX9_setWall fr1 lo1 [.ref (q 0), .int u0, .int u1] (zCW y q a g t c o n S) ws2 (some (.int x))) : zW l y D yL_setWall wsL_setWall 8 230 1 6 [.ref (q 0), .int u0, .int u1, .ref b] (zOu y b F ++ (zCW y q a g t c o n S ++ Y)) (zOu y b (vp_updL F 0 x.toInt64) ++ (ws2 ++ Y)) (some (.int (nI 0))) := by
  refine w_start (own := RL) (cc := cL_setWall) (maxL := 5) (ret := some .int) rfl (by decide +kernel) rfl (Nat.le_of_ble_eq_true rfl) (map_mid rfl hc.1) ?_
  intro E hEl hEy hED h hf htb
  subst hEl hEy hED
  have hrm := w_room hf
  refine z_cast (lv := [(0, .ref (q 0)), (1, .int u0), (2, .int u1), (3, .ref b)]) (ws := zOu (zy E) b F ++ (zCW (zy E) q a g t c o n S ++ Y)) (st := []) ?_ rfl rfl rfl
  refine z_aload_n h 3 rfl dL_setWall_0 ?_
  refine z_iconst h (nI 0) (by decide +kernel) dL_setWall_1 ?_
  refine z_aload_n h 0 rfl dL_setWall_2 ?_
  refine z_iload_n h 1 rfl dL_setWall_3 ?_
  refine z_iload_n h 2 rfl dL_setWall_4 ?_
  refine z_wV h (As := [.int u0, .int u1]) (st := [.int (nI 0), .ref b]) (ws2 := zOu (zy E) b F ++ (ws2 ++ Y)) (r := some (.int x)) 2 (z_mid (zOu (zy E) b F) Y hc) gL_setWall_X9_setWall (q0 := 1) (ci := 7) ⟨rfl, by decide, by decide, by decide +kernel⟩ rfl rfl rfl ⟨by omega, by omega⟩ (Nat.le_of_ble_eq_true rfl) rfl rfl dL_setWall_5 ?_ ⟨Nat.zero_le _, Nat.zero_le _⟩
  refine z_i2l h dL_setWall_8 ?_
  refine z_last h 0 (j := 0) (ws' := zOu (zy E) b (vp_updL F 0 x.toInt64) ++ (ws2 ++ Y)) rfl (by decide) (by decide) rfl dL_setWall_9 ?_
  refine z_goto h 17 dL_setWall_10 (by decide) ?_
  refine z_iconst h (nI 0) (by decide +kernel) dL_setWall_17 ?_
  exact w_iret h hf rfl rfl rfl ⟨Nat.zero_le _, Nat.zero_le _⟩ dL_setWall_18
set_option maxHeartbeats 4000000 in
set_option maxRecDepth 100000 in
theorem w_setWall_1 {l : Launch} {y : zY} {D : va_G} (b : Nat) (F : Nat → Int64) (Y : va_W) (q : Nat → Nat) (a : Nat → Nat → Nat) (g t c o n : Nat → Nat → Int32) (S : Nat → Nat → Nat → Int32) (u0 u1 : Int32) {fr1 lo1 : Nat} (hfl : fr1 ≤ 7 ∧ lo1 ≤ 200) {mc1 ms1 : Nat} (hm1 : mc1 ≤ 1 ∧ ms1 ≤ 6) (hc : zX l y D yX9_setWall wsX9_setWall fr1 lo1 mc1 ms1 [.ref (q 0), .int u0, .int u1] (zCW y q a g t c o n S) "java/lang/IndexOutOfBoundsException") : zW l y D yL_setWall wsL_setWall 8 230 1 6 [.ref (q 0), .int u0, .int u1, .ref b] (zOu y b F ++ (zCW y q a g t c o n S ++ Y)) (zOu y b F ++ (zCW y q a g t c o n S ++ Y)) (some (.int (nI 1))) := by
  refine w_start (own := RL) (cc := cL_setWall) (maxL := 5) (ret := some .int) rfl (by decide +kernel) rfl (Nat.le_of_ble_eq_true rfl) rfl ?_
  intro E hEl hEy hED h hf htb
  subst hEl hEy hED
  have hrm := w_room hf
  refine z_cast (lv := [(0, .ref (q 0)), (1, .int u0), (2, .int u1), (3, .ref b)]) (ws := zOu (zy E) b F ++ (zCW (zy E) q a g t c o n S ++ Y)) (st := []) ?_ rfl rfl rfl
  refine z_aload_n h 3 rfl dL_setWall_0 ?_
  refine z_iconst h (nI 0) (by decide +kernel) dL_setWall_1 ?_
  refine z_aload_n h 0 rfl dL_setWall_2 ?_
  refine z_iload_n h 1 rfl dL_setWall_3 ?_
  refine z_iload_n h 2 rfl dL_setWall_4 ?_
  refine x_catch h (As := [.int u0, .int u1]) (st := [.int (nI 0), .ref b]) (q0 := 1) (ci := 7) 2 (x_mid (zOu (zy E) b F) Y hc) htb [] ⟨0, 10, 13, 24⟩ [] rfl (fun z hz => absurd hz List.not_mem_nil) (by decide +kernel) (by decide) (List.mem_of_getElem? (i := 1) (by decide +kernel)) (by decide +kernel) gL_setWall_X9_setWall ⟨rfl, by decide, by decide, by decide +kernel⟩ rfl rfl rfl ⟨by omega, by omega⟩ (Nat.le_of_ble_eq_true rfl) rfl rfl dL_setWall_5 ⟨by rw [hrm.1]; omega, by rw [hrm.2]; omega⟩ (fun q9 => ?_)
  refine z_cast (lv := [(0, .ref (q 0)), (1, .int u0), (2, .int u1), (3, .ref b)]) (ws := zOu (zy E) b F ++ (zCW (zy E) q a g t c o n S ++ Y)) (st := [.ref q9]) ?_ rfl rfl rfl
  refine z_astore h (by decide) (lv' := [(4, .ref q9), (0, .ref (q 0)), (1, .int u0), (2, .int u1), (3, .ref b)]) rfl dL_setWall_13 ?_
  refine z_iconst h (nI 1) (by decide +kernel) dL_setWall_15 ?_
  exact w_iret h hf rfl rfl rfl ⟨by omega, by omega⟩ dL_setWall_16
set_option maxHeartbeats 4000000 in
set_option maxRecDepth 100000 in
theorem w_addTool_0 {l : Launch} {y : zY} {D : va_G} (b : Nat) (F : Nat → Int64) (Y : va_W) (q : Nat → Nat) (a : Nat → Nat → Nat) (g t c o n : Nat → Nat → Int32) (S : Nat → Nat → Nat → Int32) (u0 : Int32) {fr1 lo1 : Nat} (hfl : fr1 ≤ 7 ∧ lo1 ≤ 200) {ws2 : va_W} {x : Int32} (hc : zM l y D yX9_addTool wsX9_addTool fr1 lo1 [.ref (q 0), .int u0] (zCW y q a g t c o n S) ws2 (some (.int x))) : zW l y D yL_addTool wsL_addTool 8 230 1 6 [.ref (q 0), .int u0, .ref b] (zOu y b F ++ (zCW y q a g t c o n S ++ Y)) (zOu y b (vp_updL F 0 x.toInt64) ++ (ws2 ++ Y)) (some (.int (nI 0))) := by
  refine w_start (own := RL) (cc := cL_addTool) (maxL := 4) (ret := some .int) rfl (by decide +kernel) rfl (Nat.le_of_ble_eq_true rfl) (map_mid rfl hc.1) ?_
  intro E hEl hEy hED h hf htb
  subst hEl hEy hED
  have hrm := w_room hf
  refine z_cast (lv := [(0, .ref (q 0)), (1, .int u0), (2, .ref b)]) (ws := zOu (zy E) b F ++ (zCW (zy E) q a g t c o n S ++ Y)) (st := []) ?_ rfl rfl rfl
  refine z_aload_n h 2 rfl dL_addTool_0 ?_
  refine z_iconst h (nI 0) (by decide +kernel) dL_addTool_1 ?_
  refine z_aload_n h 0 rfl dL_addTool_2 ?_
  refine z_iload_n h 1 rfl dL_addTool_3 ?_
  refine z_wV h (As := [.int u0]) (st := [.int (nI 0), .ref b]) (ws2 := zOu (zy E) b F ++ (ws2 ++ Y)) (r := some (.int x)) 1 (z_mid (zOu (zy E) b F) Y hc) gL_addTool_X9_addTool (q0 := 1) (ci := 7) ⟨rfl, by decide, by decide, by decide +kernel⟩ rfl rfl rfl ⟨by omega, by omega⟩ (Nat.le_of_ble_eq_true rfl) rfl rfl dL_addTool_4 ?_ ⟨Nat.zero_le _, Nat.zero_le _⟩
  refine z_i2l h dL_addTool_7 ?_
  refine z_last h 0 (j := 0) (ws' := zOu (zy E) b (vp_updL F 0 x.toInt64) ++ (ws2 ++ Y)) rfl (by decide) (by decide) rfl dL_addTool_8 ?_
  refine z_goto h 18 dL_addTool_9 (by decide) ?_
  refine z_iconst h (nI 0) (by decide +kernel) dL_addTool_18 ?_
  exact w_iret h hf rfl rfl rfl ⟨Nat.zero_le _, Nat.zero_le _⟩ dL_addTool_19
set_option maxHeartbeats 4000000 in
set_option maxRecDepth 100000 in
theorem w_addTool_1 {l : Launch} {y : zY} {D : va_G} (b : Nat) (F : Nat → Int64) (Y : va_W) (q : Nat → Nat) (a : Nat → Nat → Nat) (g t c o n : Nat → Nat → Int32) (S : Nat → Nat → Nat → Int32) (u0 : Int32) {fr1 lo1 : Nat} (hfl : fr1 ≤ 7 ∧ lo1 ≤ 200) {mc1 ms1 : Nat} (hm1 : mc1 ≤ 1 ∧ ms1 ≤ 6) (hc : zX l y D yX9_addTool wsX9_addTool fr1 lo1 mc1 ms1 [.ref (q 0), .int u0] (zCW y q a g t c o n S) "java/lang/IllegalArgumentException") : zW l y D yL_addTool wsL_addTool 8 230 1 6 [.ref (q 0), .int u0, .ref b] (zOu y b F ++ (zCW y q a g t c o n S ++ Y)) (zOu y b F ++ (zCW y q a g t c o n S ++ Y)) (some (.int (nI 1))) := by
  refine w_start (own := RL) (cc := cL_addTool) (maxL := 4) (ret := some .int) rfl (by decide +kernel) rfl (Nat.le_of_ble_eq_true rfl) rfl ?_
  intro E hEl hEy hED h hf htb
  subst hEl hEy hED
  have hrm := w_room hf
  refine z_cast (lv := [(0, .ref (q 0)), (1, .int u0), (2, .ref b)]) (ws := zOu (zy E) b F ++ (zCW (zy E) q a g t c o n S ++ Y)) (st := []) ?_ rfl rfl rfl
  refine z_aload_n h 2 rfl dL_addTool_0 ?_
  refine z_iconst h (nI 0) (by decide +kernel) dL_addTool_1 ?_
  refine z_aload_n h 0 rfl dL_addTool_2 ?_
  refine z_iload_n h 1 rfl dL_addTool_3 ?_
  refine x_catch h (As := [.int u0]) (st := [.int (nI 0), .ref b]) (q0 := 1) (ci := 7) 1 (x_mid (zOu (zy E) b F) Y hc) htb [] ⟨0, 9, 12, 13⟩ [⟨0, 9, 15, 15⟩] rfl (fun z hz => absurd hz List.not_mem_nil) (by decide +kernel) (by decide) (List.mem_of_getElem? (i := 1) (by decide +kernel)) (by decide +kernel) gL_addTool_X9_addTool ⟨rfl, by decide, by decide, by decide +kernel⟩ rfl rfl rfl ⟨by omega, by omega⟩ (Nat.le_of_ble_eq_true rfl) rfl rfl dL_addTool_4 ⟨by rw [hrm.1]; omega, by rw [hrm.2]; omega⟩ (fun q9 => ?_)
  refine z_cast (lv := [(0, .ref (q 0)), (1, .int u0), (2, .ref b)]) (ws := zOu (zy E) b F ++ (zCW (zy E) q a g t c o n S ++ Y)) (st := [.ref q9]) ?_ rfl rfl rfl
  refine z_astore_n h (by decide) (lv' := [(3, .ref q9), (0, .ref (q 0)), (1, .int u0), (2, .ref b)]) rfl dL_addTool_12 ?_
  refine z_iconst h (nI 1) (by decide +kernel) dL_addTool_13 ?_
  exact w_iret h hf rfl rfl rfl ⟨by omega, by omega⟩ dL_addTool_14
set_option maxHeartbeats 4000000 in
set_option maxRecDepth 100000 in
theorem w_addTool_2 {l : Launch} {y : zY} {D : va_G} (b : Nat) (F : Nat → Int64) (Y : va_W) (q : Nat → Nat) (a : Nat → Nat → Nat) (g t c o n : Nat → Nat → Int32) (S : Nat → Nat → Nat → Int32) (u0 : Int32) {fr1 lo1 : Nat} (hfl : fr1 ≤ 7 ∧ lo1 ≤ 200) {mc1 ms1 : Nat} (hm1 : mc1 ≤ 1 ∧ ms1 ≤ 6) (hc : zX l y D yX9_addTool wsX9_addTool fr1 lo1 mc1 ms1 [.ref (q 0), .int u0] (zCW y q a g t c o n S) "java/lang/IllegalStateException") : zW l y D yL_addTool wsL_addTool 8 230 1 6 [.ref (q 0), .int u0, .ref b] (zOu y b F ++ (zCW y q a g t c o n S ++ Y)) (zOu y b F ++ (zCW y q a g t c o n S ++ Y)) (some (.int (nI 2))) := by
  refine w_start (own := RL) (cc := cL_addTool) (maxL := 4) (ret := some .int) rfl (by decide +kernel) rfl (Nat.le_of_ble_eq_true rfl) rfl ?_
  intro E hEl hEy hED h hf htb
  subst hEl hEy hED
  have hrm := w_room hf
  refine z_cast (lv := [(0, .ref (q 0)), (1, .int u0), (2, .ref b)]) (ws := zOu (zy E) b F ++ (zCW (zy E) q a g t c o n S ++ Y)) (st := []) ?_ rfl rfl rfl
  refine z_aload_n h 2 rfl dL_addTool_0 ?_
  refine z_iconst h (nI 0) (by decide +kernel) dL_addTool_1 ?_
  refine z_aload_n h 0 rfl dL_addTool_2 ?_
  refine z_iload_n h 1 rfl dL_addTool_3 ?_
  refine x_catch h (As := [.int u0]) (st := [.int (nI 0), .ref b]) (q0 := 1) (ci := 7) 1 (x_mid (zOu (zy E) b F) Y hc) htb [⟨0, 9, 12, 13⟩] ⟨0, 9, 15, 15⟩ [] rfl (List.forall_mem_cons.mpr ⟨Or.inr ⟨by decide, "java/lang/IllegalArgumentException", (List.mem_of_getElem? (i := 1) (by decide +kernel)), by decide +kernel⟩, (fun z hz => absurd hz List.not_mem_nil)⟩) (by decide +kernel) (by decide) (List.mem_of_getElem? (i := 2) (by decide +kernel)) (by decide +kernel) gL_addTool_X9_addTool ⟨rfl, by decide, by decide, by decide +kernel⟩ rfl rfl rfl ⟨by omega, by omega⟩ (Nat.le_of_ble_eq_true rfl) rfl rfl dL_addTool_4 ⟨by rw [hrm.1]; omega, by rw [hrm.2]; omega⟩ (fun q9 => ?_)
  refine z_cast (lv := [(0, .ref (q 0)), (1, .int u0), (2, .ref b)]) (ws := zOu (zy E) b F ++ (zCW (zy E) q a g t c o n S ++ Y)) (st := [.ref q9]) ?_ rfl rfl rfl
  refine z_astore_n h (by decide) (lv' := [(3, .ref q9), (0, .ref (q 0)), (1, .int u0), (2, .ref b)]) rfl dL_addTool_15 ?_
  refine z_iconst h (nI 2) (by decide +kernel) dL_addTool_16 ?_
  exact w_iret h hf rfl rfl rfl ⟨by omega, by omega⟩ dL_addTool_17
set_option maxHeartbeats 4000000 in
set_option maxRecDepth 100000 in
theorem w_carve_0 {l : Launch} {y : zY} {D : va_G} (b : Nat) (F : Nat → Int64) (Y : va_W) (q : Nat → Nat) (a : Nat → Nat → Nat) (g t c o n : Nat → Nat → Int32) (S : Nat → Nat → Nat → Int32) (u0 u1 u2 u3 : Int32) {fr1 lo1 : Nat} (hfl : fr1 ≤ 7 ∧ lo1 ≤ 200) {ws2 : va_W} {x : Int32} (hc : zM l y D yX9_carve wsX9_carve fr1 lo1 [.ref (q 0), .int u0, .int u1, .int u2, .int u3] (zCW y q a g t c o n S) ws2 (some (.int x))) : zW l y D yL_carve wsL_carve 8 230 1 6 [.ref (q 0), .int u0, .int u1, .int u2, .int u3, .ref b] (zOu y b F ++ (zCW y q a g t c o n S ++ Y)) (zOu y b (vp_updL F 0 x.toInt64) ++ (ws2 ++ Y)) (some (.int (nI 0))) := by
  refine w_start (own := RL) (cc := cL_carve) (maxL := 7) (ret := some .int) rfl (by decide +kernel) rfl (Nat.le_of_ble_eq_true rfl) (map_mid rfl hc.1) ?_
  intro E hEl hEy hED h hf htb
  subst hEl hEy hED
  have hrm := w_room hf
  refine z_cast (lv := [(0, .ref (q 0)), (1, .int u0), (2, .int u1), (3, .int u2), (4, .int u3), (5, .ref b)]) (ws := zOu (zy E) b F ++ (zCW (zy E) q a g t c o n S ++ Y)) (st := []) ?_ rfl rfl rfl
  refine z_aload h 5 rfl dL_carve_0 ?_
  refine z_iconst h (nI 0) (by decide +kernel) dL_carve_2 ?_
  refine z_aload_n h 0 rfl dL_carve_3 ?_
  refine z_iload_n h 1 rfl dL_carve_4 ?_
  refine z_iload_n h 2 rfl dL_carve_5 ?_
  refine z_iload_n h 3 rfl dL_carve_6 ?_
  refine z_iload h 4 rfl dL_carve_7 ?_
  refine z_wV h (As := [.int u0, .int u1, .int u2, .int u3]) (st := [.int (nI 0), .ref b]) (ws2 := zOu (zy E) b F ++ (ws2 ++ Y)) (r := some (.int x)) 4 (z_mid (zOu (zy E) b F) Y hc) gL_carve_X9_carve (q0 := 1) (ci := 7) ⟨rfl, by decide, by decide, by decide +kernel⟩ rfl rfl rfl ⟨by omega, by omega⟩ (Nat.le_of_ble_eq_true rfl) rfl rfl dL_carve_9 ?_ ⟨Nat.zero_le _, Nat.zero_le _⟩
  refine z_i2l h dL_carve_12 ?_
  refine z_last h 0 (j := 0) (ws' := zOu (zy E) b (vp_updL F 0 x.toInt64) ++ (ws2 ++ Y)) rfl (by decide) (by decide) rfl dL_carve_13 ?_
  refine z_goto h 29 dL_carve_14 (by decide) ?_
  refine z_iconst h (nI 0) (by decide +kernel) dL_carve_29 ?_
  exact w_iret h hf rfl rfl rfl ⟨Nat.zero_le _, Nat.zero_le _⟩ dL_carve_30
set_option maxHeartbeats 4000000 in
set_option maxRecDepth 100000 in
theorem w_carve_1 {l : Launch} {y : zY} {D : va_G} (b : Nat) (F : Nat → Int64) (Y : va_W) (q : Nat → Nat) (a : Nat → Nat → Nat) (g t c o n : Nat → Nat → Int32) (S : Nat → Nat → Nat → Int32) (u0 u1 u2 u3 : Int32) {fr1 lo1 : Nat} (hfl : fr1 ≤ 7 ∧ lo1 ≤ 200) {mc1 ms1 : Nat} (hm1 : mc1 ≤ 1 ∧ ms1 ≤ 6) (hc : zX l y D yX9_carve wsX9_carve fr1 lo1 mc1 ms1 [.ref (q 0), .int u0, .int u1, .int u2, .int u3] (zCW y q a g t c o n S) "java/lang/IndexOutOfBoundsException") : zW l y D yL_carve wsL_carve 8 230 1 6 [.ref (q 0), .int u0, .int u1, .int u2, .int u3, .ref b] (zOu y b F ++ (zCW y q a g t c o n S ++ Y)) (zOu y b F ++ (zCW y q a g t c o n S ++ Y)) (some (.int (nI 1))) := by
  refine w_start (own := RL) (cc := cL_carve) (maxL := 7) (ret := some .int) rfl (by decide +kernel) rfl (Nat.le_of_ble_eq_true rfl) rfl ?_
  intro E hEl hEy hED h hf htb
  subst hEl hEy hED
  have hrm := w_room hf
  refine z_cast (lv := [(0, .ref (q 0)), (1, .int u0), (2, .int u1), (3, .int u2), (4, .int u3), (5, .ref b)]) (ws := zOu (zy E) b F ++ (zCW (zy E) q a g t c o n S ++ Y)) (st := []) ?_ rfl rfl rfl
  refine z_aload h 5 rfl dL_carve_0 ?_
  refine z_iconst h (nI 0) (by decide +kernel) dL_carve_2 ?_
  refine z_aload_n h 0 rfl dL_carve_3 ?_
  refine z_iload_n h 1 rfl dL_carve_4 ?_
  refine z_iload_n h 2 rfl dL_carve_5 ?_
  refine z_iload_n h 3 rfl dL_carve_6 ?_
  refine z_iload h 4 rfl dL_carve_7 ?_
  refine x_catch h (As := [.int u0, .int u1, .int u2, .int u3]) (st := [.int (nI 0), .ref b]) (q0 := 1) (ci := 7) 4 (x_mid (zOu (zy E) b F) Y hc) htb [] ⟨0, 14, 17, 24⟩ [⟨0, 14, 21, 13⟩, ⟨0, 14, 25, 15⟩] rfl (fun z hz => absurd hz List.not_mem_nil) (by decide +kernel) (by decide) (List.mem_of_getElem? (i := 1) (by decide +kernel)) (by decide +kernel) gL_carve_X9_carve ⟨rfl, by decide, by decide, by decide +kernel⟩ rfl rfl rfl ⟨by omega, by omega⟩ (Nat.le_of_ble_eq_true rfl) rfl rfl dL_carve_9 ⟨by rw [hrm.1]; omega, by rw [hrm.2]; omega⟩ (fun q9 => ?_)
  refine z_cast (lv := [(0, .ref (q 0)), (1, .int u0), (2, .int u1), (3, .int u2), (4, .int u3), (5, .ref b)]) (ws := zOu (zy E) b F ++ (zCW (zy E) q a g t c o n S ++ Y)) (st := [.ref q9]) ?_ rfl rfl rfl
  refine z_astore h (by decide) (lv' := [(6, .ref q9), (0, .ref (q 0)), (1, .int u0), (2, .int u1), (3, .int u2), (4, .int u3), (5, .ref b)]) rfl dL_carve_17 ?_
  refine z_iconst h (nI 1) (by decide +kernel) dL_carve_19 ?_
  exact w_iret h hf rfl rfl rfl ⟨by omega, by omega⟩ dL_carve_20
set_option maxHeartbeats 4000000 in
set_option maxRecDepth 100000 in
theorem w_carve_2 {l : Launch} {y : zY} {D : va_G} (b : Nat) (F : Nat → Int64) (Y : va_W) (q : Nat → Nat) (a : Nat → Nat → Nat) (g t c o n : Nat → Nat → Int32) (S : Nat → Nat → Nat → Int32) (u0 u1 u2 u3 : Int32) {fr1 lo1 : Nat} (hfl : fr1 ≤ 7 ∧ lo1 ≤ 200) {mc1 ms1 : Nat} (hm1 : mc1 ≤ 1 ∧ ms1 ≤ 6) (hc : zX l y D yX9_carve wsX9_carve fr1 lo1 mc1 ms1 [.ref (q 0), .int u0, .int u1, .int u2, .int u3] (zCW y q a g t c o n S) "java/lang/IllegalArgumentException") : zW l y D yL_carve wsL_carve 8 230 1 6 [.ref (q 0), .int u0, .int u1, .int u2, .int u3, .ref b] (zOu y b F ++ (zCW y q a g t c o n S ++ Y)) (zOu y b F ++ (zCW y q a g t c o n S ++ Y)) (some (.int (nI 2))) := by
  refine w_start (own := RL) (cc := cL_carve) (maxL := 7) (ret := some .int) rfl (by decide +kernel) rfl (Nat.le_of_ble_eq_true rfl) rfl ?_
  intro E hEl hEy hED h hf htb
  subst hEl hEy hED
  have hrm := w_room hf
  refine z_cast (lv := [(0, .ref (q 0)), (1, .int u0), (2, .int u1), (3, .int u2), (4, .int u3), (5, .ref b)]) (ws := zOu (zy E) b F ++ (zCW (zy E) q a g t c o n S ++ Y)) (st := []) ?_ rfl rfl rfl
  refine z_aload h 5 rfl dL_carve_0 ?_
  refine z_iconst h (nI 0) (by decide +kernel) dL_carve_2 ?_
  refine z_aload_n h 0 rfl dL_carve_3 ?_
  refine z_iload_n h 1 rfl dL_carve_4 ?_
  refine z_iload_n h 2 rfl dL_carve_5 ?_
  refine z_iload_n h 3 rfl dL_carve_6 ?_
  refine z_iload h 4 rfl dL_carve_7 ?_
  refine x_catch h (As := [.int u0, .int u1, .int u2, .int u3]) (st := [.int (nI 0), .ref b]) (q0 := 1) (ci := 7) 4 (x_mid (zOu (zy E) b F) Y hc) htb [⟨0, 14, 17, 24⟩] ⟨0, 14, 21, 13⟩ [⟨0, 14, 25, 15⟩] rfl (List.forall_mem_cons.mpr ⟨Or.inr ⟨by decide, "java/lang/IndexOutOfBoundsException", (List.mem_of_getElem? (i := 1) (by decide +kernel)), by decide +kernel⟩, (fun z hz => absurd hz List.not_mem_nil)⟩) (by decide +kernel) (by decide) (List.mem_of_getElem? (i := 2) (by decide +kernel)) (by decide +kernel) gL_carve_X9_carve ⟨rfl, by decide, by decide, by decide +kernel⟩ rfl rfl rfl ⟨by omega, by omega⟩ (Nat.le_of_ble_eq_true rfl) rfl rfl dL_carve_9 ⟨by rw [hrm.1]; omega, by rw [hrm.2]; omega⟩ (fun q9 => ?_)
  refine z_cast (lv := [(0, .ref (q 0)), (1, .int u0), (2, .int u1), (3, .int u2), (4, .int u3), (5, .ref b)]) (ws := zOu (zy E) b F ++ (zCW (zy E) q a g t c o n S ++ Y)) (st := [.ref q9]) ?_ rfl rfl rfl
  refine z_astore h (by decide) (lv' := [(6, .ref q9), (0, .ref (q 0)), (1, .int u0), (2, .int u1), (3, .int u2), (4, .int u3), (5, .ref b)]) rfl dL_carve_21 ?_
  refine z_iconst h (nI 2) (by decide +kernel) dL_carve_23 ?_
  exact w_iret h hf rfl rfl rfl ⟨by omega, by omega⟩ dL_carve_24
set_option maxHeartbeats 4000000 in
set_option maxRecDepth 100000 in
theorem w_carve_3 {l : Launch} {y : zY} {D : va_G} (b : Nat) (F : Nat → Int64) (Y : va_W) (q : Nat → Nat) (a : Nat → Nat → Nat) (g t c o n : Nat → Nat → Int32) (S : Nat → Nat → Nat → Int32) (u0 u1 u2 u3 : Int32) {fr1 lo1 : Nat} (hfl : fr1 ≤ 7 ∧ lo1 ≤ 200) {mc1 ms1 : Nat} (hm1 : mc1 ≤ 1 ∧ ms1 ≤ 6) (hc : zX l y D yX9_carve wsX9_carve fr1 lo1 mc1 ms1 [.ref (q 0), .int u0, .int u1, .int u2, .int u3] (zCW y q a g t c o n S) "java/lang/IllegalStateException") : zW l y D yL_carve wsL_carve 8 230 1 6 [.ref (q 0), .int u0, .int u1, .int u2, .int u3, .ref b] (zOu y b F ++ (zCW y q a g t c o n S ++ Y)) (zOu y b F ++ (zCW y q a g t c o n S ++ Y)) (some (.int (nI 3))) := by
  refine w_start (own := RL) (cc := cL_carve) (maxL := 7) (ret := some .int) rfl (by decide +kernel) rfl (Nat.le_of_ble_eq_true rfl) rfl ?_
  intro E hEl hEy hED h hf htb
  subst hEl hEy hED
  have hrm := w_room hf
  refine z_cast (lv := [(0, .ref (q 0)), (1, .int u0), (2, .int u1), (3, .int u2), (4, .int u3), (5, .ref b)]) (ws := zOu (zy E) b F ++ (zCW (zy E) q a g t c o n S ++ Y)) (st := []) ?_ rfl rfl rfl
  refine z_aload h 5 rfl dL_carve_0 ?_
  refine z_iconst h (nI 0) (by decide +kernel) dL_carve_2 ?_
  refine z_aload_n h 0 rfl dL_carve_3 ?_
  refine z_iload_n h 1 rfl dL_carve_4 ?_
  refine z_iload_n h 2 rfl dL_carve_5 ?_
  refine z_iload_n h 3 rfl dL_carve_6 ?_
  refine z_iload h 4 rfl dL_carve_7 ?_
  refine x_catch h (As := [.int u0, .int u1, .int u2, .int u3]) (st := [.int (nI 0), .ref b]) (q0 := 1) (ci := 7) 4 (x_mid (zOu (zy E) b F) Y hc) htb [⟨0, 14, 17, 24⟩, ⟨0, 14, 21, 13⟩] ⟨0, 14, 25, 15⟩ [] rfl (List.forall_mem_cons.mpr ⟨Or.inr ⟨by decide, "java/lang/IndexOutOfBoundsException", (List.mem_of_getElem? (i := 1) (by decide +kernel)), by decide +kernel⟩, (List.forall_mem_cons.mpr ⟨Or.inr ⟨by decide, "java/lang/IllegalArgumentException", (List.mem_of_getElem? (i := 2) (by decide +kernel)), by decide +kernel⟩, (fun z hz => absurd hz List.not_mem_nil)⟩)⟩) (by decide +kernel) (by decide) (List.mem_of_getElem? (i := 3) (by decide +kernel)) (by decide +kernel) gL_carve_X9_carve ⟨rfl, by decide, by decide, by decide +kernel⟩ rfl rfl rfl ⟨by omega, by omega⟩ (Nat.le_of_ble_eq_true rfl) rfl rfl dL_carve_9 ⟨by rw [hrm.1]; omega, by rw [hrm.2]; omega⟩ (fun q9 => ?_)
  refine z_cast (lv := [(0, .ref (q 0)), (1, .int u0), (2, .int u1), (3, .int u2), (4, .int u3), (5, .ref b)]) (ws := zOu (zy E) b F ++ (zCW (zy E) q a g t c o n S ++ Y)) (st := [.ref q9]) ?_ rfl rfl rfl
  refine z_astore h (by decide) (lv' := [(6, .ref q9), (0, .ref (q 0)), (1, .int u0), (2, .int u1), (3, .int u2), (4, .int u3), (5, .ref b)]) rfl dL_carve_25 ?_
  refine z_iconst h (nI 3) (by decide +kernel) dL_carve_27 ?_
  exact w_iret h hf rfl rfl rfl ⟨by omega, by omega⟩ dL_carve_28
set_option maxHeartbeats 4000000 in
set_option maxRecDepth 100000 in
theorem w_ballot_0 {l : Launch} {y : zY} {D : va_G} (b : Nat) (F : Nat → Int64) (Y : va_W) (q : Nat → Nat) (a : Nat → Nat → Nat) (g t c o n : Nat → Nat → Int32) (S : Nat → Nat → Nat → Int32) (u0 u1 u2 : Int32) {fr1 lo1 : Nat} (hfl : fr1 ≤ 7 ∧ lo1 ≤ 200) {ws2 : va_W} {x : Int32} (hc : zM l y D yX9_ballot wsX9_ballot fr1 lo1 [.ref (q 0), .int u0, .int u1, .int u2] (zCW y q a g t c o n S) ws2 (some (.int x))) : zW l y D yL_ballot wsL_ballot 8 230 1 6 [.ref (q 0), .int u0, .int u1, .int u2, .ref b] (zOu y b F ++ (zCW y q a g t c o n S ++ Y)) (zOu y b (vp_updL F 0 x.toInt64) ++ (ws2 ++ Y)) (some (.int (nI 0))) := by
  refine w_start (own := RL) (cc := cL_ballot) (maxL := 6) (ret := some .int) rfl (by decide +kernel) rfl (Nat.le_of_ble_eq_true rfl) (map_mid rfl hc.1) ?_
  intro E hEl hEy hED h hf htb
  subst hEl hEy hED
  have hrm := w_room hf
  refine z_cast (lv := [(0, .ref (q 0)), (1, .int u0), (2, .int u1), (3, .int u2), (4, .ref b)]) (ws := zOu (zy E) b F ++ (zCW (zy E) q a g t c o n S ++ Y)) (st := []) ?_ rfl rfl rfl
  refine z_aload h 4 rfl dL_ballot_0 ?_
  refine z_iconst h (nI 0) (by decide +kernel) dL_ballot_2 ?_
  refine z_aload_n h 0 rfl dL_ballot_3 ?_
  refine z_iload_n h 1 rfl dL_ballot_4 ?_
  refine z_iload_n h 2 rfl dL_ballot_5 ?_
  refine z_iload_n h 3 rfl dL_ballot_6 ?_
  refine z_wV h (As := [.int u0, .int u1, .int u2]) (st := [.int (nI 0), .ref b]) (ws2 := zOu (zy E) b F ++ (ws2 ++ Y)) (r := some (.int x)) 3 (z_mid (zOu (zy E) b F) Y hc) gL_ballot_X9_ballot (q0 := 1) (ci := 7) ⟨rfl, by decide, by decide, by decide +kernel⟩ rfl rfl rfl ⟨by omega, by omega⟩ (Nat.le_of_ble_eq_true rfl) rfl rfl dL_ballot_7 ?_ ⟨Nat.zero_le _, Nat.zero_le _⟩
  refine z_i2l h dL_ballot_10 ?_
  refine z_last h 0 (j := 0) (ws' := zOu (zy E) b (vp_updL F 0 x.toInt64) ++ (ws2 ++ Y)) rfl (by decide) (by decide) rfl dL_ballot_11 ?_
  refine z_goto h 23 dL_ballot_12 (by decide) ?_
  refine z_iconst h (nI 0) (by decide +kernel) dL_ballot_23 ?_
  exact w_iret h hf rfl rfl rfl ⟨Nat.zero_le _, Nat.zero_le _⟩ dL_ballot_24
set_option maxHeartbeats 4000000 in
set_option maxRecDepth 100000 in
theorem w_ballot_1 {l : Launch} {y : zY} {D : va_G} (b : Nat) (F : Nat → Int64) (Y : va_W) (q : Nat → Nat) (a : Nat → Nat → Nat) (g t c o n : Nat → Nat → Int32) (S : Nat → Nat → Nat → Int32) (u0 u1 u2 : Int32) {fr1 lo1 : Nat} (hfl : fr1 ≤ 7 ∧ lo1 ≤ 200) {mc1 ms1 : Nat} (hm1 : mc1 ≤ 1 ∧ ms1 ≤ 6) (hc : zX l y D yX9_ballot wsX9_ballot fr1 lo1 mc1 ms1 [.ref (q 0), .int u0, .int u1, .int u2] (zCW y q a g t c o n S) "java/lang/IllegalArgumentException") : zW l y D yL_ballot wsL_ballot 8 230 1 6 [.ref (q 0), .int u0, .int u1, .int u2, .ref b] (zOu y b F ++ (zCW y q a g t c o n S ++ Y)) (zOu y b F ++ (zCW y q a g t c o n S ++ Y)) (some (.int (nI 1))) := by
  refine w_start (own := RL) (cc := cL_ballot) (maxL := 6) (ret := some .int) rfl (by decide +kernel) rfl (Nat.le_of_ble_eq_true rfl) rfl ?_
  intro E hEl hEy hED h hf htb
  subst hEl hEy hED
  have hrm := w_room hf
  refine z_cast (lv := [(0, .ref (q 0)), (1, .int u0), (2, .int u1), (3, .int u2), (4, .ref b)]) (ws := zOu (zy E) b F ++ (zCW (zy E) q a g t c o n S ++ Y)) (st := []) ?_ rfl rfl rfl
  refine z_aload h 4 rfl dL_ballot_0 ?_
  refine z_iconst h (nI 0) (by decide +kernel) dL_ballot_2 ?_
  refine z_aload_n h 0 rfl dL_ballot_3 ?_
  refine z_iload_n h 1 rfl dL_ballot_4 ?_
  refine z_iload_n h 2 rfl dL_ballot_5 ?_
  refine z_iload_n h 3 rfl dL_ballot_6 ?_
  refine x_catch h (As := [.int u0, .int u1, .int u2]) (st := [.int (nI 0), .ref b]) (q0 := 1) (ci := 7) 3 (x_mid (zOu (zy E) b F) Y hc) htb [] ⟨0, 12, 15, 13⟩ [⟨0, 12, 19, 15⟩] rfl (fun z hz => absurd hz List.not_mem_nil) (by decide +kernel) (by decide) (List.mem_of_getElem? (i := 1) (by decide +kernel)) (by decide +kernel) gL_ballot_X9_ballot ⟨rfl, by decide, by decide, by decide +kernel⟩ rfl rfl rfl ⟨by omega, by omega⟩ (Nat.le_of_ble_eq_true rfl) rfl rfl dL_ballot_7 ⟨by rw [hrm.1]; omega, by rw [hrm.2]; omega⟩ (fun q9 => ?_)
  refine z_cast (lv := [(0, .ref (q 0)), (1, .int u0), (2, .int u1), (3, .int u2), (4, .ref b)]) (ws := zOu (zy E) b F ++ (zCW (zy E) q a g t c o n S ++ Y)) (st := [.ref q9]) ?_ rfl rfl rfl
  refine z_astore h (by decide) (lv' := [(5, .ref q9), (0, .ref (q 0)), (1, .int u0), (2, .int u1), (3, .int u2), (4, .ref b)]) rfl dL_ballot_15 ?_
  refine z_iconst h (nI 1) (by decide +kernel) dL_ballot_17 ?_
  exact w_iret h hf rfl rfl rfl ⟨by omega, by omega⟩ dL_ballot_18
set_option maxHeartbeats 4000000 in
set_option maxRecDepth 100000 in
theorem w_ballot_2 {l : Launch} {y : zY} {D : va_G} (b : Nat) (F : Nat → Int64) (Y : va_W) (q : Nat → Nat) (a : Nat → Nat → Nat) (g t c o n : Nat → Nat → Int32) (S : Nat → Nat → Nat → Int32) (u0 u1 u2 : Int32) {fr1 lo1 : Nat} (hfl : fr1 ≤ 7 ∧ lo1 ≤ 200) {mc1 ms1 : Nat} (hm1 : mc1 ≤ 1 ∧ ms1 ≤ 6) (hc : zX l y D yX9_ballot wsX9_ballot fr1 lo1 mc1 ms1 [.ref (q 0), .int u0, .int u1, .int u2] (zCW y q a g t c o n S) "java/lang/IllegalStateException") : zW l y D yL_ballot wsL_ballot 8 230 1 6 [.ref (q 0), .int u0, .int u1, .int u2, .ref b] (zOu y b F ++ (zCW y q a g t c o n S ++ Y)) (zOu y b F ++ (zCW y q a g t c o n S ++ Y)) (some (.int (nI 2))) := by
  refine w_start (own := RL) (cc := cL_ballot) (maxL := 6) (ret := some .int) rfl (by decide +kernel) rfl (Nat.le_of_ble_eq_true rfl) rfl ?_
  intro E hEl hEy hED h hf htb
  subst hEl hEy hED
  have hrm := w_room hf
  refine z_cast (lv := [(0, .ref (q 0)), (1, .int u0), (2, .int u1), (3, .int u2), (4, .ref b)]) (ws := zOu (zy E) b F ++ (zCW (zy E) q a g t c o n S ++ Y)) (st := []) ?_ rfl rfl rfl
  refine z_aload h 4 rfl dL_ballot_0 ?_
  refine z_iconst h (nI 0) (by decide +kernel) dL_ballot_2 ?_
  refine z_aload_n h 0 rfl dL_ballot_3 ?_
  refine z_iload_n h 1 rfl dL_ballot_4 ?_
  refine z_iload_n h 2 rfl dL_ballot_5 ?_
  refine z_iload_n h 3 rfl dL_ballot_6 ?_
  refine x_catch h (As := [.int u0, .int u1, .int u2]) (st := [.int (nI 0), .ref b]) (q0 := 1) (ci := 7) 3 (x_mid (zOu (zy E) b F) Y hc) htb [⟨0, 12, 15, 13⟩] ⟨0, 12, 19, 15⟩ [] rfl (List.forall_mem_cons.mpr ⟨Or.inr ⟨by decide, "java/lang/IllegalArgumentException", (List.mem_of_getElem? (i := 1) (by decide +kernel)), by decide +kernel⟩, (fun z hz => absurd hz List.not_mem_nil)⟩) (by decide +kernel) (by decide) (List.mem_of_getElem? (i := 2) (by decide +kernel)) (by decide +kernel) gL_ballot_X9_ballot ⟨rfl, by decide, by decide, by decide +kernel⟩ rfl rfl rfl ⟨by omega, by omega⟩ (Nat.le_of_ble_eq_true rfl) rfl rfl dL_ballot_7 ⟨by rw [hrm.1]; omega, by rw [hrm.2]; omega⟩ (fun q9 => ?_)
  refine z_cast (lv := [(0, .ref (q 0)), (1, .int u0), (2, .int u1), (3, .int u2), (4, .ref b)]) (ws := zOu (zy E) b F ++ (zCW (zy E) q a g t c o n S ++ Y)) (st := [.ref q9]) ?_ rfl rfl rfl
  refine z_astore h (by decide) (lv' := [(5, .ref q9), (0, .ref (q 0)), (1, .int u0), (2, .int u1), (3, .int u2), (4, .ref b)]) rfl dL_ballot_19 ?_
  refine z_iconst h (nI 2) (by decide +kernel) dL_ballot_21 ?_
  exact w_iret h hf rfl rfl rfl ⟨by omega, by omega⟩ dL_ballot_22
set_option maxHeartbeats 4000000 in
set_option maxRecDepth 100000 in
theorem w_block_0 {l : Launch} {y : zY} {D : va_G} (b : Nat) (F : Nat → Int64) (Y : va_W) (q : Nat → Nat) (a : Nat → Nat → Nat) (g t c o n : Nat → Nat → Int32) (S : Nat → Nat → Nat → Int32) (u0 u1 u2 : Int32) {fr1 lo1 : Nat} (hfl : fr1 ≤ 7 ∧ lo1 ≤ 200) {ws2 : va_W} {x : Int32} (hc : zM l y D yX9_block wsX9_block fr1 lo1 [.ref (q 0), .int u0, .int u1, .int u2] (zCW y q a g t c o n S) ws2 (some (.int x))) : zW l y D yL_block wsL_block 8 230 1 6 [.ref (q 0), .int u0, .int u1, .int u2, .ref b] (zOu y b F ++ (zCW y q a g t c o n S ++ Y)) (zOu y b (vp_updL F 0 x.toInt64) ++ (ws2 ++ Y)) (some (.int (nI 0))) := by
  refine w_start (own := RL) (cc := cL_block) (maxL := 6) (ret := some .int) rfl (by decide +kernel) rfl (Nat.le_of_ble_eq_true rfl) (map_mid rfl hc.1) ?_
  intro E hEl hEy hED h hf htb
  subst hEl hEy hED
  have hrm := w_room hf
  refine z_cast (lv := [(0, .ref (q 0)), (1, .int u0), (2, .int u1), (3, .int u2), (4, .ref b)]) (ws := zOu (zy E) b F ++ (zCW (zy E) q a g t c o n S ++ Y)) (st := []) ?_ rfl rfl rfl
  refine z_aload h 4 rfl dL_block_0 ?_
  refine z_iconst h (nI 0) (by decide +kernel) dL_block_2 ?_
  refine z_aload_n h 0 rfl dL_block_3 ?_
  refine z_iload_n h 1 rfl dL_block_4 ?_
  refine z_iload_n h 2 rfl dL_block_5 ?_
  refine z_iload_n h 3 rfl dL_block_6 ?_
  refine z_wV h (As := [.int u0, .int u1, .int u2]) (st := [.int (nI 0), .ref b]) (ws2 := zOu (zy E) b F ++ (ws2 ++ Y)) (r := some (.int x)) 3 (z_mid (zOu (zy E) b F) Y hc) gL_block_X9_block (q0 := 1) (ci := 7) ⟨rfl, by decide, by decide, by decide +kernel⟩ rfl rfl rfl ⟨by omega, by omega⟩ (Nat.le_of_ble_eq_true rfl) rfl rfl dL_block_7 ?_ ⟨Nat.zero_le _, Nat.zero_le _⟩
  refine z_i2l h dL_block_10 ?_
  refine z_last h 0 (j := 0) (ws' := zOu (zy E) b (vp_updL F 0 x.toInt64) ++ (ws2 ++ Y)) rfl (by decide) (by decide) rfl dL_block_11 ?_
  refine z_goto h 23 dL_block_12 (by decide) ?_
  refine z_iconst h (nI 0) (by decide +kernel) dL_block_23 ?_
  exact w_iret h hf rfl rfl rfl ⟨Nat.zero_le _, Nat.zero_le _⟩ dL_block_24
set_option maxHeartbeats 4000000 in
set_option maxRecDepth 100000 in
theorem w_block_1 {l : Launch} {y : zY} {D : va_G} (b : Nat) (F : Nat → Int64) (Y : va_W) (q : Nat → Nat) (a : Nat → Nat → Nat) (g t c o n : Nat → Nat → Int32) (S : Nat → Nat → Nat → Int32) (u0 u1 u2 : Int32) {fr1 lo1 : Nat} (hfl : fr1 ≤ 7 ∧ lo1 ≤ 200) {mc1 ms1 : Nat} (hm1 : mc1 ≤ 1 ∧ ms1 ≤ 6) (hc : zX l y D yX9_block wsX9_block fr1 lo1 mc1 ms1 [.ref (q 0), .int u0, .int u1, .int u2] (zCW y q a g t c o n S) "java/lang/IndexOutOfBoundsException") : zW l y D yL_block wsL_block 8 230 1 6 [.ref (q 0), .int u0, .int u1, .int u2, .ref b] (zOu y b F ++ (zCW y q a g t c o n S ++ Y)) (zOu y b F ++ (zCW y q a g t c o n S ++ Y)) (some (.int (nI 1))) := by
  refine w_start (own := RL) (cc := cL_block) (maxL := 6) (ret := some .int) rfl (by decide +kernel) rfl (Nat.le_of_ble_eq_true rfl) rfl ?_
  intro E hEl hEy hED h hf htb
  subst hEl hEy hED
  have hrm := w_room hf
  refine z_cast (lv := [(0, .ref (q 0)), (1, .int u0), (2, .int u1), (3, .int u2), (4, .ref b)]) (ws := zOu (zy E) b F ++ (zCW (zy E) q a g t c o n S ++ Y)) (st := []) ?_ rfl rfl rfl
  refine z_aload h 4 rfl dL_block_0 ?_
  refine z_iconst h (nI 0) (by decide +kernel) dL_block_2 ?_
  refine z_aload_n h 0 rfl dL_block_3 ?_
  refine z_iload_n h 1 rfl dL_block_4 ?_
  refine z_iload_n h 2 rfl dL_block_5 ?_
  refine z_iload_n h 3 rfl dL_block_6 ?_
  refine x_catch h (As := [.int u0, .int u1, .int u2]) (st := [.int (nI 0), .ref b]) (q0 := 1) (ci := 7) 3 (x_mid (zOu (zy E) b F) Y hc) htb [] ⟨0, 12, 15, 24⟩ [⟨0, 12, 19, 13⟩] rfl (fun z hz => absurd hz List.not_mem_nil) (by decide +kernel) (by decide) (List.mem_of_getElem? (i := 1) (by decide +kernel)) (by decide +kernel) gL_block_X9_block ⟨rfl, by decide, by decide, by decide +kernel⟩ rfl rfl rfl ⟨by omega, by omega⟩ (Nat.le_of_ble_eq_true rfl) rfl rfl dL_block_7 ⟨by rw [hrm.1]; omega, by rw [hrm.2]; omega⟩ (fun q9 => ?_)
  refine z_cast (lv := [(0, .ref (q 0)), (1, .int u0), (2, .int u1), (3, .int u2), (4, .ref b)]) (ws := zOu (zy E) b F ++ (zCW (zy E) q a g t c o n S ++ Y)) (st := [.ref q9]) ?_ rfl rfl rfl
  refine z_astore h (by decide) (lv' := [(5, .ref q9), (0, .ref (q 0)), (1, .int u0), (2, .int u1), (3, .int u2), (4, .ref b)]) rfl dL_block_15 ?_
  refine z_iconst h (nI 1) (by decide +kernel) dL_block_17 ?_
  exact w_iret h hf rfl rfl rfl ⟨by omega, by omega⟩ dL_block_18
set_option maxHeartbeats 4000000 in
set_option maxRecDepth 100000 in
theorem w_block_2 {l : Launch} {y : zY} {D : va_G} (b : Nat) (F : Nat → Int64) (Y : va_W) (q : Nat → Nat) (a : Nat → Nat → Nat) (g t c o n : Nat → Nat → Int32) (S : Nat → Nat → Nat → Int32) (u0 u1 u2 : Int32) {fr1 lo1 : Nat} (hfl : fr1 ≤ 7 ∧ lo1 ≤ 200) {mc1 ms1 : Nat} (hm1 : mc1 ≤ 1 ∧ ms1 ≤ 6) (hc : zX l y D yX9_block wsX9_block fr1 lo1 mc1 ms1 [.ref (q 0), .int u0, .int u1, .int u2] (zCW y q a g t c o n S) "java/lang/IllegalArgumentException") : zW l y D yL_block wsL_block 8 230 1 6 [.ref (q 0), .int u0, .int u1, .int u2, .ref b] (zOu y b F ++ (zCW y q a g t c o n S ++ Y)) (zOu y b F ++ (zCW y q a g t c o n S ++ Y)) (some (.int (nI 2))) := by
  refine w_start (own := RL) (cc := cL_block) (maxL := 6) (ret := some .int) rfl (by decide +kernel) rfl (Nat.le_of_ble_eq_true rfl) rfl ?_
  intro E hEl hEy hED h hf htb
  subst hEl hEy hED
  have hrm := w_room hf
  refine z_cast (lv := [(0, .ref (q 0)), (1, .int u0), (2, .int u1), (3, .int u2), (4, .ref b)]) (ws := zOu (zy E) b F ++ (zCW (zy E) q a g t c o n S ++ Y)) (st := []) ?_ rfl rfl rfl
  refine z_aload h 4 rfl dL_block_0 ?_
  refine z_iconst h (nI 0) (by decide +kernel) dL_block_2 ?_
  refine z_aload_n h 0 rfl dL_block_3 ?_
  refine z_iload_n h 1 rfl dL_block_4 ?_
  refine z_iload_n h 2 rfl dL_block_5 ?_
  refine z_iload_n h 3 rfl dL_block_6 ?_
  refine x_catch h (As := [.int u0, .int u1, .int u2]) (st := [.int (nI 0), .ref b]) (q0 := 1) (ci := 7) 3 (x_mid (zOu (zy E) b F) Y hc) htb [⟨0, 12, 15, 24⟩] ⟨0, 12, 19, 13⟩ [] rfl (List.forall_mem_cons.mpr ⟨Or.inr ⟨by decide, "java/lang/IndexOutOfBoundsException", (List.mem_of_getElem? (i := 1) (by decide +kernel)), by decide +kernel⟩, (fun z hz => absurd hz List.not_mem_nil)⟩) (by decide +kernel) (by decide) (List.mem_of_getElem? (i := 2) (by decide +kernel)) (by decide +kernel) gL_block_X9_block ⟨rfl, by decide, by decide, by decide +kernel⟩ rfl rfl rfl ⟨by omega, by omega⟩ (Nat.le_of_ble_eq_true rfl) rfl rfl dL_block_7 ⟨by rw [hrm.1]; omega, by rw [hrm.2]; omega⟩ (fun q9 => ?_)
  refine z_cast (lv := [(0, .ref (q 0)), (1, .int u0), (2, .int u1), (3, .int u2), (4, .ref b)]) (ws := zOu (zy E) b F ++ (zCW (zy E) q a g t c o n S ++ Y)) (st := [.ref q9]) ?_ rfl rfl rfl
  refine z_astore h (by decide) (lv' := [(5, .ref q9), (0, .ref (q 0)), (1, .int u0), (2, .int u1), (3, .int u2), (4, .ref b)]) rfl dL_block_19 ?_
  refine z_iconst h (nI 2) (by decide +kernel) dL_block_21 ?_
  exact w_iret h hf rfl rfl rfl ⟨by omega, by omega⟩ dL_block_22
set_option maxHeartbeats 4000000 in
set_option maxRecDepth 100000 in
theorem w_site_0 {l : Launch} {y : zY} {D : va_G} (b : Nat) (F : Nat → Int64) (Y : va_W) (q : Nat → Nat) (a : Nat → Nat → Nat) (g t c o n : Nat → Nat → Int32) (S : Nat → Nat → Nat → Int32) (u0 u1 : Int32) {fr1 lo1 : Nat} (hfl : fr1 ≤ 7 ∧ lo1 ≤ 200) {ws2 : va_W} {x : Int32} (hc : zM l y D yX9_site wsX9_site fr1 lo1 [.ref (q 0), .int u0, .int u1] (zCW y q a g t c o n S) ws2 (some (.int x))) : zW l y D yL_site wsL_site 8 230 1 6 [.ref (q 0), .int u0, .int u1, .ref b] (zOu y b F ++ (zCW y q a g t c o n S ++ Y)) (zOu y b (vp_updL F 0 x.toInt64) ++ (ws2 ++ Y)) (some (.int (nI 0))) := by
  refine w_start (own := RL) (cc := cL_site) (maxL := 5) (ret := some .int) rfl (by decide +kernel) rfl (Nat.le_of_ble_eq_true rfl) (map_mid rfl hc.1) ?_
  intro E hEl hEy hED h hf htb
  subst hEl hEy hED
  have hrm := w_room hf
  refine z_cast (lv := [(0, .ref (q 0)), (1, .int u0), (2, .int u1), (3, .ref b)]) (ws := zOu (zy E) b F ++ (zCW (zy E) q a g t c o n S ++ Y)) (st := []) ?_ rfl rfl rfl
  refine z_aload_n h 3 rfl dL_site_0 ?_
  refine z_iconst h (nI 0) (by decide +kernel) dL_site_1 ?_
  refine z_aload_n h 0 rfl dL_site_2 ?_
  refine z_iload_n h 1 rfl dL_site_3 ?_
  refine z_iload_n h 2 rfl dL_site_4 ?_
  refine z_wV h (As := [.int u0, .int u1]) (st := [.int (nI 0), .ref b]) (ws2 := zOu (zy E) b F ++ (ws2 ++ Y)) (r := some (.int x)) 2 (z_mid (zOu (zy E) b F) Y hc) gL_site_X9_site (q0 := 1) (ci := 7) ⟨rfl, by decide, by decide, by decide +kernel⟩ rfl rfl rfl ⟨by omega, by omega⟩ (Nat.le_of_ble_eq_true rfl) rfl rfl dL_site_5 ?_ ⟨Nat.zero_le _, Nat.zero_le _⟩
  refine z_i2l h dL_site_8 ?_
  refine z_last h 0 (j := 0) (ws' := zOu (zy E) b (vp_updL F 0 x.toInt64) ++ (ws2 ++ Y)) rfl (by decide) (by decide) rfl dL_site_9 ?_
  refine z_goto h 21 dL_site_10 (by decide) ?_
  refine z_iconst h (nI 0) (by decide +kernel) dL_site_21 ?_
  exact w_iret h hf rfl rfl rfl ⟨Nat.zero_le _, Nat.zero_le _⟩ dL_site_22
set_option maxHeartbeats 4000000 in
set_option maxRecDepth 100000 in
theorem w_site_1 {l : Launch} {y : zY} {D : va_G} (b : Nat) (F : Nat → Int64) (Y : va_W) (q : Nat → Nat) (a : Nat → Nat → Nat) (g t c o n : Nat → Nat → Int32) (S : Nat → Nat → Nat → Int32) (u0 u1 : Int32) {fr1 lo1 : Nat} (hfl : fr1 ≤ 7 ∧ lo1 ≤ 200) {mc1 ms1 : Nat} (hm1 : mc1 ≤ 1 ∧ ms1 ≤ 6) (hc : zX l y D yX9_site wsX9_site fr1 lo1 mc1 ms1 [.ref (q 0), .int u0, .int u1] (zCW y q a g t c o n S) "java/lang/IndexOutOfBoundsException") : zW l y D yL_site wsL_site 8 230 1 6 [.ref (q 0), .int u0, .int u1, .ref b] (zOu y b F ++ (zCW y q a g t c o n S ++ Y)) (zOu y b F ++ (zCW y q a g t c o n S ++ Y)) (some (.int (nI 1))) := by
  refine w_start (own := RL) (cc := cL_site) (maxL := 5) (ret := some .int) rfl (by decide +kernel) rfl (Nat.le_of_ble_eq_true rfl) rfl ?_
  intro E hEl hEy hED h hf htb
  subst hEl hEy hED
  have hrm := w_room hf
  refine z_cast (lv := [(0, .ref (q 0)), (1, .int u0), (2, .int u1), (3, .ref b)]) (ws := zOu (zy E) b F ++ (zCW (zy E) q a g t c o n S ++ Y)) (st := []) ?_ rfl rfl rfl
  refine z_aload_n h 3 rfl dL_site_0 ?_
  refine z_iconst h (nI 0) (by decide +kernel) dL_site_1 ?_
  refine z_aload_n h 0 rfl dL_site_2 ?_
  refine z_iload_n h 1 rfl dL_site_3 ?_
  refine z_iload_n h 2 rfl dL_site_4 ?_
  refine x_catch h (As := [.int u0, .int u1]) (st := [.int (nI 0), .ref b]) (q0 := 1) (ci := 7) 2 (x_mid (zOu (zy E) b F) Y hc) htb [] ⟨0, 10, 13, 24⟩ [⟨0, 10, 17, 13⟩] rfl (fun z hz => absurd hz List.not_mem_nil) (by decide +kernel) (by decide) (List.mem_of_getElem? (i := 1) (by decide +kernel)) (by decide +kernel) gL_site_X9_site ⟨rfl, by decide, by decide, by decide +kernel⟩ rfl rfl rfl ⟨by omega, by omega⟩ (Nat.le_of_ble_eq_true rfl) rfl rfl dL_site_5 ⟨by rw [hrm.1]; omega, by rw [hrm.2]; omega⟩ (fun q9 => ?_)
  refine z_cast (lv := [(0, .ref (q 0)), (1, .int u0), (2, .int u1), (3, .ref b)]) (ws := zOu (zy E) b F ++ (zCW (zy E) q a g t c o n S ++ Y)) (st := [.ref q9]) ?_ rfl rfl rfl
  refine z_astore h (by decide) (lv' := [(4, .ref q9), (0, .ref (q 0)), (1, .int u0), (2, .int u1), (3, .ref b)]) rfl dL_site_13 ?_
  refine z_iconst h (nI 1) (by decide +kernel) dL_site_15 ?_
  exact w_iret h hf rfl rfl rfl ⟨by omega, by omega⟩ dL_site_16
set_option maxHeartbeats 4000000 in
set_option maxRecDepth 100000 in
theorem w_site_2 {l : Launch} {y : zY} {D : va_G} (b : Nat) (F : Nat → Int64) (Y : va_W) (q : Nat → Nat) (a : Nat → Nat → Nat) (g t c o n : Nat → Nat → Int32) (S : Nat → Nat → Nat → Int32) (u0 u1 : Int32) {fr1 lo1 : Nat} (hfl : fr1 ≤ 7 ∧ lo1 ≤ 200) {mc1 ms1 : Nat} (hm1 : mc1 ≤ 1 ∧ ms1 ≤ 6) (hc : zX l y D yX9_site wsX9_site fr1 lo1 mc1 ms1 [.ref (q 0), .int u0, .int u1] (zCW y q a g t c o n S) "java/lang/IllegalArgumentException") : zW l y D yL_site wsL_site 8 230 1 6 [.ref (q 0), .int u0, .int u1, .ref b] (zOu y b F ++ (zCW y q a g t c o n S ++ Y)) (zOu y b F ++ (zCW y q a g t c o n S ++ Y)) (some (.int (nI 2))) := by
  refine w_start (own := RL) (cc := cL_site) (maxL := 5) (ret := some .int) rfl (by decide +kernel) rfl (Nat.le_of_ble_eq_true rfl) rfl ?_
  intro E hEl hEy hED h hf htb
  subst hEl hEy hED
  have hrm := w_room hf
  refine z_cast (lv := [(0, .ref (q 0)), (1, .int u0), (2, .int u1), (3, .ref b)]) (ws := zOu (zy E) b F ++ (zCW (zy E) q a g t c o n S ++ Y)) (st := []) ?_ rfl rfl rfl
  refine z_aload_n h 3 rfl dL_site_0 ?_
  refine z_iconst h (nI 0) (by decide +kernel) dL_site_1 ?_
  refine z_aload_n h 0 rfl dL_site_2 ?_
  refine z_iload_n h 1 rfl dL_site_3 ?_
  refine z_iload_n h 2 rfl dL_site_4 ?_
  refine x_catch h (As := [.int u0, .int u1]) (st := [.int (nI 0), .ref b]) (q0 := 1) (ci := 7) 2 (x_mid (zOu (zy E) b F) Y hc) htb [⟨0, 10, 13, 24⟩] ⟨0, 10, 17, 13⟩ [] rfl (List.forall_mem_cons.mpr ⟨Or.inr ⟨by decide, "java/lang/IndexOutOfBoundsException", (List.mem_of_getElem? (i := 1) (by decide +kernel)), by decide +kernel⟩, (fun z hz => absurd hz List.not_mem_nil)⟩) (by decide +kernel) (by decide) (List.mem_of_getElem? (i := 2) (by decide +kernel)) (by decide +kernel) gL_site_X9_site ⟨rfl, by decide, by decide, by decide +kernel⟩ rfl rfl rfl ⟨by omega, by omega⟩ (Nat.le_of_ble_eq_true rfl) rfl rfl dL_site_5 ⟨by rw [hrm.1]; omega, by rw [hrm.2]; omega⟩ (fun q9 => ?_)
  refine z_cast (lv := [(0, .ref (q 0)), (1, .int u0), (2, .int u1), (3, .ref b)]) (ws := zOu (zy E) b F ++ (zCW (zy E) q a g t c o n S ++ Y)) (st := [.ref q9]) ?_ rfl rfl rfl
  refine z_astore h (by decide) (lv' := [(4, .ref q9), (0, .ref (q 0)), (1, .int u0), (2, .int u1), (3, .ref b)]) rfl dL_site_17 ?_
  refine z_iconst h (nI 2) (by decide +kernel) dL_site_19 ?_
  exact w_iret h hf rfl rfl rfl ⟨by omega, by omega⟩ dL_site_20
set_option maxHeartbeats 4000000 in
set_option maxRecDepth 100000 in
theorem w_tool_0 {l : Launch} {y : zY} {D : va_G} (b : Nat) (F : Nat → Int64) (Y : va_W) (q : Nat → Nat) (a : Nat → Nat → Nat) (g t c o n : Nat → Nat → Int32) (S : Nat → Nat → Nat → Int32) (u0 u1 : Int32) {fr1 lo1 : Nat} (hfl : fr1 ≤ 7 ∧ lo1 ≤ 200) {ws2 : va_W} {x : Int32} (hc : zM l y D yX9_tool wsX9_tool fr1 lo1 [.ref (q 0), .int u0, .int u1] (zCW y q a g t c o n S) ws2 (some (.int x))) : zW l y D yL_tool wsL_tool 8 230 1 6 [.ref (q 0), .int u0, .int u1, .ref b] (zOu y b F ++ (zCW y q a g t c o n S ++ Y)) (zOu y b (vp_updL F 0 x.toInt64) ++ (ws2 ++ Y)) (some (.int (nI 0))) := by
  refine w_start (own := RL) (cc := cL_tool) (maxL := 5) (ret := some .int) rfl (by decide +kernel) rfl (Nat.le_of_ble_eq_true rfl) (map_mid rfl hc.1) ?_
  intro E hEl hEy hED h hf htb
  subst hEl hEy hED
  have hrm := w_room hf
  refine z_cast (lv := [(0, .ref (q 0)), (1, .int u0), (2, .int u1), (3, .ref b)]) (ws := zOu (zy E) b F ++ (zCW (zy E) q a g t c o n S ++ Y)) (st := []) ?_ rfl rfl rfl
  refine z_aload_n h 3 rfl dL_tool_0 ?_
  refine z_iconst h (nI 0) (by decide +kernel) dL_tool_1 ?_
  refine z_aload_n h 0 rfl dL_tool_2 ?_
  refine z_iload_n h 1 rfl dL_tool_3 ?_
  refine z_iload_n h 2 rfl dL_tool_4 ?_
  refine z_wV h (As := [.int u0, .int u1]) (st := [.int (nI 0), .ref b]) (ws2 := zOu (zy E) b F ++ (ws2 ++ Y)) (r := some (.int x)) 2 (z_mid (zOu (zy E) b F) Y hc) gL_tool_X9_tool (q0 := 1) (ci := 7) ⟨rfl, by decide, by decide, by decide +kernel⟩ rfl rfl rfl ⟨by omega, by omega⟩ (Nat.le_of_ble_eq_true rfl) rfl rfl dL_tool_5 ?_ ⟨Nat.zero_le _, Nat.zero_le _⟩
  refine z_i2l h dL_tool_8 ?_
  refine z_last h 0 (j := 0) (ws' := zOu (zy E) b (vp_updL F 0 x.toInt64) ++ (ws2 ++ Y)) rfl (by decide) (by decide) rfl dL_tool_9 ?_
  refine z_goto h 21 dL_tool_10 (by decide) ?_
  refine z_iconst h (nI 0) (by decide +kernel) dL_tool_21 ?_
  exact w_iret h hf rfl rfl rfl ⟨Nat.zero_le _, Nat.zero_le _⟩ dL_tool_22
set_option maxHeartbeats 4000000 in
set_option maxRecDepth 100000 in
theorem w_tool_1 {l : Launch} {y : zY} {D : va_G} (b : Nat) (F : Nat → Int64) (Y : va_W) (q : Nat → Nat) (a : Nat → Nat → Nat) (g t c o n : Nat → Nat → Int32) (S : Nat → Nat → Nat → Int32) (u0 u1 : Int32) {fr1 lo1 : Nat} (hfl : fr1 ≤ 7 ∧ lo1 ≤ 200) {mc1 ms1 : Nat} (hm1 : mc1 ≤ 1 ∧ ms1 ≤ 6) (hc : zX l y D yX9_tool wsX9_tool fr1 lo1 mc1 ms1 [.ref (q 0), .int u0, .int u1] (zCW y q a g t c o n S) "java/lang/IndexOutOfBoundsException") : zW l y D yL_tool wsL_tool 8 230 1 6 [.ref (q 0), .int u0, .int u1, .ref b] (zOu y b F ++ (zCW y q a g t c o n S ++ Y)) (zOu y b F ++ (zCW y q a g t c o n S ++ Y)) (some (.int (nI 1))) := by
  refine w_start (own := RL) (cc := cL_tool) (maxL := 5) (ret := some .int) rfl (by decide +kernel) rfl (Nat.le_of_ble_eq_true rfl) rfl ?_
  intro E hEl hEy hED h hf htb
  subst hEl hEy hED
  have hrm := w_room hf
  refine z_cast (lv := [(0, .ref (q 0)), (1, .int u0), (2, .int u1), (3, .ref b)]) (ws := zOu (zy E) b F ++ (zCW (zy E) q a g t c o n S ++ Y)) (st := []) ?_ rfl rfl rfl
  refine z_aload_n h 3 rfl dL_tool_0 ?_
  refine z_iconst h (nI 0) (by decide +kernel) dL_tool_1 ?_
  refine z_aload_n h 0 rfl dL_tool_2 ?_
  refine z_iload_n h 1 rfl dL_tool_3 ?_
  refine z_iload_n h 2 rfl dL_tool_4 ?_
  refine x_catch h (As := [.int u0, .int u1]) (st := [.int (nI 0), .ref b]) (q0 := 1) (ci := 7) 2 (x_mid (zOu (zy E) b F) Y hc) htb [] ⟨0, 10, 13, 24⟩ [⟨0, 10, 17, 13⟩] rfl (fun z hz => absurd hz List.not_mem_nil) (by decide +kernel) (by decide) (List.mem_of_getElem? (i := 1) (by decide +kernel)) (by decide +kernel) gL_tool_X9_tool ⟨rfl, by decide, by decide, by decide +kernel⟩ rfl rfl rfl ⟨by omega, by omega⟩ (Nat.le_of_ble_eq_true rfl) rfl rfl dL_tool_5 ⟨by rw [hrm.1]; omega, by rw [hrm.2]; omega⟩ (fun q9 => ?_)
  refine z_cast (lv := [(0, .ref (q 0)), (1, .int u0), (2, .int u1), (3, .ref b)]) (ws := zOu (zy E) b F ++ (zCW (zy E) q a g t c o n S ++ Y)) (st := [.ref q9]) ?_ rfl rfl rfl
  refine z_astore h (by decide) (lv' := [(4, .ref q9), (0, .ref (q 0)), (1, .int u0), (2, .int u1), (3, .ref b)]) rfl dL_tool_13 ?_
  refine z_iconst h (nI 1) (by decide +kernel) dL_tool_15 ?_
  exact w_iret h hf rfl rfl rfl ⟨by omega, by omega⟩ dL_tool_16
set_option maxHeartbeats 4000000 in
set_option maxRecDepth 100000 in
theorem w_tool_2 {l : Launch} {y : zY} {D : va_G} (b : Nat) (F : Nat → Int64) (Y : va_W) (q : Nat → Nat) (a : Nat → Nat → Nat) (g t c o n : Nat → Nat → Int32) (S : Nat → Nat → Nat → Int32) (u0 u1 : Int32) {fr1 lo1 : Nat} (hfl : fr1 ≤ 7 ∧ lo1 ≤ 200) {mc1 ms1 : Nat} (hm1 : mc1 ≤ 1 ∧ ms1 ≤ 6) (hc : zX l y D yX9_tool wsX9_tool fr1 lo1 mc1 ms1 [.ref (q 0), .int u0, .int u1] (zCW y q a g t c o n S) "java/lang/IllegalArgumentException") : zW l y D yL_tool wsL_tool 8 230 1 6 [.ref (q 0), .int u0, .int u1, .ref b] (zOu y b F ++ (zCW y q a g t c o n S ++ Y)) (zOu y b F ++ (zCW y q a g t c o n S ++ Y)) (some (.int (nI 2))) := by
  refine w_start (own := RL) (cc := cL_tool) (maxL := 5) (ret := some .int) rfl (by decide +kernel) rfl (Nat.le_of_ble_eq_true rfl) rfl ?_
  intro E hEl hEy hED h hf htb
  subst hEl hEy hED
  have hrm := w_room hf
  refine z_cast (lv := [(0, .ref (q 0)), (1, .int u0), (2, .int u1), (3, .ref b)]) (ws := zOu (zy E) b F ++ (zCW (zy E) q a g t c o n S ++ Y)) (st := []) ?_ rfl rfl rfl
  refine z_aload_n h 3 rfl dL_tool_0 ?_
  refine z_iconst h (nI 0) (by decide +kernel) dL_tool_1 ?_
  refine z_aload_n h 0 rfl dL_tool_2 ?_
  refine z_iload_n h 1 rfl dL_tool_3 ?_
  refine z_iload_n h 2 rfl dL_tool_4 ?_
  refine x_catch h (As := [.int u0, .int u1]) (st := [.int (nI 0), .ref b]) (q0 := 1) (ci := 7) 2 (x_mid (zOu (zy E) b F) Y hc) htb [⟨0, 10, 13, 24⟩] ⟨0, 10, 17, 13⟩ [] rfl (List.forall_mem_cons.mpr ⟨Or.inr ⟨by decide, "java/lang/IndexOutOfBoundsException", (List.mem_of_getElem? (i := 1) (by decide +kernel)), by decide +kernel⟩, (fun z hz => absurd hz List.not_mem_nil)⟩) (by decide +kernel) (by decide) (List.mem_of_getElem? (i := 2) (by decide +kernel)) (by decide +kernel) gL_tool_X9_tool ⟨rfl, by decide, by decide, by decide +kernel⟩ rfl rfl rfl ⟨by omega, by omega⟩ (Nat.le_of_ble_eq_true rfl) rfl rfl dL_tool_5 ⟨by rw [hrm.1]; omega, by rw [hrm.2]; omega⟩ (fun q9 => ?_)
  refine z_cast (lv := [(0, .ref (q 0)), (1, .int u0), (2, .int u1), (3, .ref b)]) (ws := zOu (zy E) b F ++ (zCW (zy E) q a g t c o n S ++ Y)) (st := [.ref q9]) ?_ rfl rfl rfl
  refine z_astore h (by decide) (lv' := [(4, .ref q9), (0, .ref (q 0)), (1, .int u0), (2, .int u1), (3, .ref b)]) rfl dL_tool_17 ?_
  refine z_iconst h (nI 2) (by decide +kernel) dL_tool_19 ?_
  exact w_iret h hf rfl rfl rfl ⟨by omega, by omega⟩ dL_tool_20
set_option maxHeartbeats 4000000 in
set_option maxRecDepth 100000 in
theorem w_whole_0 {l : Launch} {y : zY} {D : va_G} (b : Nat) (F : Nat → Int64) (Y : va_W) (q : Nat → Nat) (a : Nat → Nat → Nat) (g t c o n : Nat → Nat → Int32) (S : Nat → Nat → Nat → Int32) (u0 : Int32) {fr1 lo1 : Nat} (hfl : fr1 ≤ 7 ∧ lo1 ≤ 200) {ws2 : va_W} {x : Int32} (hc : zM l y D yX9_whole wsX9_whole fr1 lo1 [.ref (q 0), .int u0] (zCW y q a g t c o n S) ws2 (some (.int x))) : zW l y D yL_whole wsL_whole 8 230 1 6 [.ref (q 0), .int u0, .ref b] (zOu y b F ++ (zCW y q a g t c o n S ++ Y)) (zOu y b (vp_updL F 0 x.toInt64) ++ (ws2 ++ Y)) (some (.int (nI 0))) := by
  refine w_start (own := RL) (cc := cL_whole) (maxL := 4) (ret := some .int) rfl (by decide +kernel) rfl (Nat.le_of_ble_eq_true rfl) (map_mid rfl hc.1) ?_
  intro E hEl hEy hED h hf htb
  subst hEl hEy hED
  have hrm := w_room hf
  refine z_cast (lv := [(0, .ref (q 0)), (1, .int u0), (2, .ref b)]) (ws := zOu (zy E) b F ++ (zCW (zy E) q a g t c o n S ++ Y)) (st := []) ?_ rfl rfl rfl
  refine z_aload_n h 2 rfl dL_whole_0 ?_
  refine z_iconst h (nI 0) (by decide +kernel) dL_whole_1 ?_
  refine z_aload_n h 0 rfl dL_whole_2 ?_
  refine z_iload_n h 1 rfl dL_whole_3 ?_
  refine z_wV h (As := [.int u0]) (st := [.int (nI 0), .ref b]) (ws2 := zOu (zy E) b F ++ (ws2 ++ Y)) (r := some (.int x)) 1 (z_mid (zOu (zy E) b F) Y hc) gL_whole_X9_whole (q0 := 1) (ci := 7) ⟨rfl, by decide, by decide, by decide +kernel⟩ rfl rfl rfl ⟨by omega, by omega⟩ (Nat.le_of_ble_eq_true rfl) rfl rfl dL_whole_4 ?_ ⟨Nat.zero_le _, Nat.zero_le _⟩
  refine z_i2l h dL_whole_7 ?_
  refine z_last h 0 (j := 0) (ws' := zOu (zy E) b (vp_updL F 0 x.toInt64) ++ (ws2 ++ Y)) rfl (by decide) (by decide) rfl dL_whole_8 ?_
  refine z_goto h 15 dL_whole_9 (by decide) ?_
  refine z_iconst h (nI 0) (by decide +kernel) dL_whole_15 ?_
  exact w_iret h hf rfl rfl rfl ⟨Nat.zero_le _, Nat.zero_le _⟩ dL_whole_16
set_option maxHeartbeats 4000000 in
set_option maxRecDepth 100000 in
theorem w_whole_1 {l : Launch} {y : zY} {D : va_G} (b : Nat) (F : Nat → Int64) (Y : va_W) (q : Nat → Nat) (a : Nat → Nat → Nat) (g t c o n : Nat → Nat → Int32) (S : Nat → Nat → Nat → Int32) (u0 : Int32) {fr1 lo1 : Nat} (hfl : fr1 ≤ 7 ∧ lo1 ≤ 200) {mc1 ms1 : Nat} (hm1 : mc1 ≤ 1 ∧ ms1 ≤ 6) (hc : zX l y D yX9_whole wsX9_whole fr1 lo1 mc1 ms1 [.ref (q 0), .int u0] (zCW y q a g t c o n S) "java/lang/IllegalArgumentException") : zW l y D yL_whole wsL_whole 8 230 1 6 [.ref (q 0), .int u0, .ref b] (zOu y b F ++ (zCW y q a g t c o n S ++ Y)) (zOu y b F ++ (zCW y q a g t c o n S ++ Y)) (some (.int (nI 1))) := by
  refine w_start (own := RL) (cc := cL_whole) (maxL := 4) (ret := some .int) rfl (by decide +kernel) rfl (Nat.le_of_ble_eq_true rfl) rfl ?_
  intro E hEl hEy hED h hf htb
  subst hEl hEy hED
  have hrm := w_room hf
  refine z_cast (lv := [(0, .ref (q 0)), (1, .int u0), (2, .ref b)]) (ws := zOu (zy E) b F ++ (zCW (zy E) q a g t c o n S ++ Y)) (st := []) ?_ rfl rfl rfl
  refine z_aload_n h 2 rfl dL_whole_0 ?_
  refine z_iconst h (nI 0) (by decide +kernel) dL_whole_1 ?_
  refine z_aload_n h 0 rfl dL_whole_2 ?_
  refine z_iload_n h 1 rfl dL_whole_3 ?_
  refine x_catch h (As := [.int u0]) (st := [.int (nI 0), .ref b]) (q0 := 1) (ci := 7) 1 (x_mid (zOu (zy E) b F) Y hc) htb [] ⟨0, 9, 12, 13⟩ [] rfl (fun z hz => absurd hz List.not_mem_nil) (by decide +kernel) (by decide) (List.mem_of_getElem? (i := 1) (by decide +kernel)) (by decide +kernel) gL_whole_X9_whole ⟨rfl, by decide, by decide, by decide +kernel⟩ rfl rfl rfl ⟨by omega, by omega⟩ (Nat.le_of_ble_eq_true rfl) rfl rfl dL_whole_4 ⟨by rw [hrm.1]; omega, by rw [hrm.2]; omega⟩ (fun q9 => ?_)
  refine z_cast (lv := [(0, .ref (q 0)), (1, .int u0), (2, .ref b)]) (ws := zOu (zy E) b F ++ (zCW (zy E) q a g t c o n S ++ Y)) (st := [.ref q9]) ?_ rfl rfl rfl
  refine z_astore_n h (by decide) (lv' := [(3, .ref q9), (0, .ref (q 0)), (1, .int u0), (2, .ref b)]) rfl dL_whole_12 ?_
  refine z_iconst h (nI 1) (by decide +kernel) dL_whole_13 ?_
  exact w_iret h hf rfl rfl rfl ⟨by omega, by omega⟩ dL_whole_14
set_option maxHeartbeats 4000000 in
set_option maxRecDepth 100000 in
theorem w_votes_0 {l : Launch} {y : zY} {D : va_G} (b : Nat) (F : Nat → Int64) (Y : va_W) (q : Nat → Nat) (a : Nat → Nat → Nat) (g t c o n : Nat → Nat → Int32) (S : Nat → Nat → Nat → Int32) (u0 u1 : Int32) {fr1 lo1 : Nat} (hfl : fr1 ≤ 7 ∧ lo1 ≤ 200) {ws2 : va_W} {x : Int32} (hc : zM l y D yX9_votes wsX9_votes fr1 lo1 [.ref (q 0), .int u0, .int u1] (zCW y q a g t c o n S) ws2 (some (.int x))) : zW l y D yL_votes wsL_votes 8 230 1 6 [.ref (q 0), .int u0, .int u1, .ref b] (zOu y b F ++ (zCW y q a g t c o n S ++ Y)) (zOu y b (vp_updL F 0 x.toInt64) ++ (ws2 ++ Y)) (some (.int (nI 0))) := by
  refine w_start (own := RL) (cc := cL_votes) (maxL := 5) (ret := some .int) rfl (by decide +kernel) rfl (Nat.le_of_ble_eq_true rfl) (map_mid rfl hc.1) ?_
  intro E hEl hEy hED h hf htb
  subst hEl hEy hED
  have hrm := w_room hf
  refine z_cast (lv := [(0, .ref (q 0)), (1, .int u0), (2, .int u1), (3, .ref b)]) (ws := zOu (zy E) b F ++ (zCW (zy E) q a g t c o n S ++ Y)) (st := []) ?_ rfl rfl rfl
  refine z_aload_n h 3 rfl dL_votes_0 ?_
  refine z_iconst h (nI 0) (by decide +kernel) dL_votes_1 ?_
  refine z_aload_n h 0 rfl dL_votes_2 ?_
  refine z_iload_n h 1 rfl dL_votes_3 ?_
  refine z_iload_n h 2 rfl dL_votes_4 ?_
  refine z_wV h (As := [.int u0, .int u1]) (st := [.int (nI 0), .ref b]) (ws2 := zOu (zy E) b F ++ (ws2 ++ Y)) (r := some (.int x)) 2 (z_mid (zOu (zy E) b F) Y hc) gL_votes_X9_votes (q0 := 1) (ci := 7) ⟨rfl, by decide, by decide, by decide +kernel⟩ rfl rfl rfl ⟨by omega, by omega⟩ (Nat.le_of_ble_eq_true rfl) rfl rfl dL_votes_5 ?_ ⟨Nat.zero_le _, Nat.zero_le _⟩
  refine z_i2l h dL_votes_8 ?_
  refine z_last h 0 (j := 0) (ws' := zOu (zy E) b (vp_updL F 0 x.toInt64) ++ (ws2 ++ Y)) rfl (by decide) (by decide) rfl dL_votes_9 ?_
  refine z_goto h 21 dL_votes_10 (by decide) ?_
  refine z_iconst h (nI 0) (by decide +kernel) dL_votes_21 ?_
  exact w_iret h hf rfl rfl rfl ⟨Nat.zero_le _, Nat.zero_le _⟩ dL_votes_22
set_option maxHeartbeats 4000000 in
set_option maxRecDepth 100000 in
theorem w_votes_1 {l : Launch} {y : zY} {D : va_G} (b : Nat) (F : Nat → Int64) (Y : va_W) (q : Nat → Nat) (a : Nat → Nat → Nat) (g t c o n : Nat → Nat → Int32) (S : Nat → Nat → Nat → Int32) (u0 u1 : Int32) {fr1 lo1 : Nat} (hfl : fr1 ≤ 7 ∧ lo1 ≤ 200) {mc1 ms1 : Nat} (hm1 : mc1 ≤ 1 ∧ ms1 ≤ 6) (hc : zX l y D yX9_votes wsX9_votes fr1 lo1 mc1 ms1 [.ref (q 0), .int u0, .int u1] (zCW y q a g t c o n S) "java/lang/IllegalArgumentException") : zW l y D yL_votes wsL_votes 8 230 1 6 [.ref (q 0), .int u0, .int u1, .ref b] (zOu y b F ++ (zCW y q a g t c o n S ++ Y)) (zOu y b F ++ (zCW y q a g t c o n S ++ Y)) (some (.int (nI 1))) := by
  refine w_start (own := RL) (cc := cL_votes) (maxL := 5) (ret := some .int) rfl (by decide +kernel) rfl (Nat.le_of_ble_eq_true rfl) rfl ?_
  intro E hEl hEy hED h hf htb
  subst hEl hEy hED
  have hrm := w_room hf
  refine z_cast (lv := [(0, .ref (q 0)), (1, .int u0), (2, .int u1), (3, .ref b)]) (ws := zOu (zy E) b F ++ (zCW (zy E) q a g t c o n S ++ Y)) (st := []) ?_ rfl rfl rfl
  refine z_aload_n h 3 rfl dL_votes_0 ?_
  refine z_iconst h (nI 0) (by decide +kernel) dL_votes_1 ?_
  refine z_aload_n h 0 rfl dL_votes_2 ?_
  refine z_iload_n h 1 rfl dL_votes_3 ?_
  refine z_iload_n h 2 rfl dL_votes_4 ?_
  refine x_catch h (As := [.int u0, .int u1]) (st := [.int (nI 0), .ref b]) (q0 := 1) (ci := 7) 2 (x_mid (zOu (zy E) b F) Y hc) htb [] ⟨0, 10, 13, 13⟩ [⟨0, 10, 17, 24⟩] rfl (fun z hz => absurd hz List.not_mem_nil) (by decide +kernel) (by decide) (List.mem_of_getElem? (i := 1) (by decide +kernel)) (by decide +kernel) gL_votes_X9_votes ⟨rfl, by decide, by decide, by decide +kernel⟩ rfl rfl rfl ⟨by omega, by omega⟩ (Nat.le_of_ble_eq_true rfl) rfl rfl dL_votes_5 ⟨by rw [hrm.1]; omega, by rw [hrm.2]; omega⟩ (fun q9 => ?_)
  refine z_cast (lv := [(0, .ref (q 0)), (1, .int u0), (2, .int u1), (3, .ref b)]) (ws := zOu (zy E) b F ++ (zCW (zy E) q a g t c o n S ++ Y)) (st := [.ref q9]) ?_ rfl rfl rfl
  refine z_astore h (by decide) (lv' := [(4, .ref q9), (0, .ref (q 0)), (1, .int u0), (2, .int u1), (3, .ref b)]) rfl dL_votes_13 ?_
  refine z_iconst h (nI 1) (by decide +kernel) dL_votes_15 ?_
  exact w_iret h hf rfl rfl rfl ⟨by omega, by omega⟩ dL_votes_16
set_option maxHeartbeats 4000000 in
set_option maxRecDepth 100000 in
theorem w_votes_2 {l : Launch} {y : zY} {D : va_G} (b : Nat) (F : Nat → Int64) (Y : va_W) (q : Nat → Nat) (a : Nat → Nat → Nat) (g t c o n : Nat → Nat → Int32) (S : Nat → Nat → Nat → Int32) (u0 u1 : Int32) {fr1 lo1 : Nat} (hfl : fr1 ≤ 7 ∧ lo1 ≤ 200) {mc1 ms1 : Nat} (hm1 : mc1 ≤ 1 ∧ ms1 ≤ 6) (hc : zX l y D yX9_votes wsX9_votes fr1 lo1 mc1 ms1 [.ref (q 0), .int u0, .int u1] (zCW y q a g t c o n S) "java/lang/IndexOutOfBoundsException") : zW l y D yL_votes wsL_votes 8 230 1 6 [.ref (q 0), .int u0, .int u1, .ref b] (zOu y b F ++ (zCW y q a g t c o n S ++ Y)) (zOu y b F ++ (zCW y q a g t c o n S ++ Y)) (some (.int (nI 2))) := by
  refine w_start (own := RL) (cc := cL_votes) (maxL := 5) (ret := some .int) rfl (by decide +kernel) rfl (Nat.le_of_ble_eq_true rfl) rfl ?_
  intro E hEl hEy hED h hf htb
  subst hEl hEy hED
  have hrm := w_room hf
  refine z_cast (lv := [(0, .ref (q 0)), (1, .int u0), (2, .int u1), (3, .ref b)]) (ws := zOu (zy E) b F ++ (zCW (zy E) q a g t c o n S ++ Y)) (st := []) ?_ rfl rfl rfl
  refine z_aload_n h 3 rfl dL_votes_0 ?_
  refine z_iconst h (nI 0) (by decide +kernel) dL_votes_1 ?_
  refine z_aload_n h 0 rfl dL_votes_2 ?_
  refine z_iload_n h 1 rfl dL_votes_3 ?_
  refine z_iload_n h 2 rfl dL_votes_4 ?_
  refine x_catch h (As := [.int u0, .int u1]) (st := [.int (nI 0), .ref b]) (q0 := 1) (ci := 7) 2 (x_mid (zOu (zy E) b F) Y hc) htb [⟨0, 10, 13, 13⟩] ⟨0, 10, 17, 24⟩ [] rfl (List.forall_mem_cons.mpr ⟨Or.inr ⟨by decide, "java/lang/IllegalArgumentException", (List.mem_of_getElem? (i := 1) (by decide +kernel)), by decide +kernel⟩, (fun z hz => absurd hz List.not_mem_nil)⟩) (by decide +kernel) (by decide) (List.mem_of_getElem? (i := 2) (by decide +kernel)) (by decide +kernel) gL_votes_X9_votes ⟨rfl, by decide, by decide, by decide +kernel⟩ rfl rfl rfl ⟨by omega, by omega⟩ (Nat.le_of_ble_eq_true rfl) rfl rfl dL_votes_5 ⟨by rw [hrm.1]; omega, by rw [hrm.2]; omega⟩ (fun q9 => ?_)
  refine z_cast (lv := [(0, .ref (q 0)), (1, .int u0), (2, .int u1), (3, .ref b)]) (ws := zOu (zy E) b F ++ (zCW (zy E) q a g t c o n S ++ Y)) (st := [.ref q9]) ?_ rfl rfl rfl
  refine z_astore h (by decide) (lv' := [(4, .ref q9), (0, .ref (q 0)), (1, .int u0), (2, .int u1), (3, .ref b)]) rfl dL_votes_17 ?_
  refine z_iconst h (nI 2) (by decide +kernel) dL_votes_19 ?_
  exact w_iret h hf rfl rfl rfl ⟨by omega, by omega⟩ dL_votes_20
set_option maxHeartbeats 4000000 in
set_option maxRecDepth 100000 in
theorem w_reason_0 {l : Launch} {y : zY} {D : va_G} (b : Nat) (F : Nat → Int64) (Y : va_W) (q : Nat → Nat) (a : Nat → Nat → Nat) (g t c o n : Nat → Nat → Int32) (S : Nat → Nat → Nat → Int32) (u0 u1 u2 u3 : Int32) {fr1 lo1 : Nat} (hfl : fr1 ≤ 7 ∧ lo1 ≤ 200) {ws2 : va_W} {x : Int32} (hc : zM l y D yX9_reason wsX9_reason fr1 lo1 [.ref (q 0), .int u0, .int u1, .int u2, .int u3] (zCW y q a g t c o n S) ws2 (some (.int x))) : zW l y D yL_reason wsL_reason 8 230 1 6 [.ref (q 0), .int u0, .int u1, .int u2, .int u3, .ref b] (zOu y b F ++ (zCW y q a g t c o n S ++ Y)) (zOu y b (vp_updL F 0 x.toInt64) ++ (ws2 ++ Y)) (some (.int (nI 0))) := by
  refine w_start (own := RL) (cc := cL_reason) (maxL := 7) (ret := some .int) rfl (by decide +kernel) rfl (Nat.le_of_ble_eq_true rfl) (map_mid rfl hc.1) ?_
  intro E hEl hEy hED h hf htb
  subst hEl hEy hED
  have hrm := w_room hf
  refine z_cast (lv := [(0, .ref (q 0)), (1, .int u0), (2, .int u1), (3, .int u2), (4, .int u3), (5, .ref b)]) (ws := zOu (zy E) b F ++ (zCW (zy E) q a g t c o n S ++ Y)) (st := []) ?_ rfl rfl rfl
  refine z_aload h 5 rfl dL_reason_0 ?_
  refine z_iconst h (nI 0) (by decide +kernel) dL_reason_2 ?_
  refine z_aload_n h 0 rfl dL_reason_3 ?_
  refine z_iload_n h 1 rfl dL_reason_4 ?_
  refine z_iload_n h 2 rfl dL_reason_5 ?_
  refine z_iload_n h 3 rfl dL_reason_6 ?_
  refine z_iload h 4 rfl dL_reason_7 ?_
  refine z_wV h (As := [.int u0, .int u1, .int u2, .int u3]) (st := [.int (nI 0), .ref b]) (ws2 := zOu (zy E) b F ++ (ws2 ++ Y)) (r := some (.int x)) 4 (z_mid (zOu (zy E) b F) Y hc) gL_reason_X9_reason (q0 := 1) (ci := 7) ⟨rfl, by decide, by decide, by decide +kernel⟩ rfl rfl rfl ⟨by omega, by omega⟩ (Nat.le_of_ble_eq_true rfl) rfl rfl dL_reason_9 ?_ ⟨Nat.zero_le _, Nat.zero_le _⟩
  refine z_i2l h dL_reason_12 ?_
  refine z_last h 0 (j := 0) (ws' := zOu (zy E) b (vp_updL F 0 x.toInt64) ++ (ws2 ++ Y)) rfl (by decide) (by decide) rfl dL_reason_13 ?_
  refine z_goto h 25 dL_reason_14 (by decide) ?_
  refine z_iconst h (nI 0) (by decide +kernel) dL_reason_25 ?_
  exact w_iret h hf rfl rfl rfl ⟨Nat.zero_le _, Nat.zero_le _⟩ dL_reason_26
set_option maxHeartbeats 4000000 in
set_option maxRecDepth 100000 in
theorem w_reason_1 {l : Launch} {y : zY} {D : va_G} (b : Nat) (F : Nat → Int64) (Y : va_W) (q : Nat → Nat) (a : Nat → Nat → Nat) (g t c o n : Nat → Nat → Int32) (S : Nat → Nat → Nat → Int32) (u0 u1 u2 u3 : Int32) {fr1 lo1 : Nat} (hfl : fr1 ≤ 7 ∧ lo1 ≤ 200) {mc1 ms1 : Nat} (hm1 : mc1 ≤ 1 ∧ ms1 ≤ 6) (hc : zX l y D yX9_reason wsX9_reason fr1 lo1 mc1 ms1 [.ref (q 0), .int u0, .int u1, .int u2, .int u3] (zCW y q a g t c o n S) "java/lang/IndexOutOfBoundsException") : zW l y D yL_reason wsL_reason 8 230 1 6 [.ref (q 0), .int u0, .int u1, .int u2, .int u3, .ref b] (zOu y b F ++ (zCW y q a g t c o n S ++ Y)) (zOu y b F ++ (zCW y q a g t c o n S ++ Y)) (some (.int (nI 1))) := by
  refine w_start (own := RL) (cc := cL_reason) (maxL := 7) (ret := some .int) rfl (by decide +kernel) rfl (Nat.le_of_ble_eq_true rfl) rfl ?_
  intro E hEl hEy hED h hf htb
  subst hEl hEy hED
  have hrm := w_room hf
  refine z_cast (lv := [(0, .ref (q 0)), (1, .int u0), (2, .int u1), (3, .int u2), (4, .int u3), (5, .ref b)]) (ws := zOu (zy E) b F ++ (zCW (zy E) q a g t c o n S ++ Y)) (st := []) ?_ rfl rfl rfl
  refine z_aload h 5 rfl dL_reason_0 ?_
  refine z_iconst h (nI 0) (by decide +kernel) dL_reason_2 ?_
  refine z_aload_n h 0 rfl dL_reason_3 ?_
  refine z_iload_n h 1 rfl dL_reason_4 ?_
  refine z_iload_n h 2 rfl dL_reason_5 ?_
  refine z_iload_n h 3 rfl dL_reason_6 ?_
  refine z_iload h 4 rfl dL_reason_7 ?_
  refine x_catch h (As := [.int u0, .int u1, .int u2, .int u3]) (st := [.int (nI 0), .ref b]) (q0 := 1) (ci := 7) 4 (x_mid (zOu (zy E) b F) Y hc) htb [] ⟨0, 14, 17, 24⟩ [⟨0, 14, 21, 13⟩] rfl (fun z hz => absurd hz List.not_mem_nil) (by decide +kernel) (by decide) (List.mem_of_getElem? (i := 1) (by decide +kernel)) (by decide +kernel) gL_reason_X9_reason ⟨rfl, by decide, by decide, by decide +kernel⟩ rfl rfl rfl ⟨by omega, by omega⟩ (Nat.le_of_ble_eq_true rfl) rfl rfl dL_reason_9 ⟨by rw [hrm.1]; omega, by rw [hrm.2]; omega⟩ (fun q9 => ?_)
  refine z_cast (lv := [(0, .ref (q 0)), (1, .int u0), (2, .int u1), (3, .int u2), (4, .int u3), (5, .ref b)]) (ws := zOu (zy E) b F ++ (zCW (zy E) q a g t c o n S ++ Y)) (st := [.ref q9]) ?_ rfl rfl rfl
  refine z_astore h (by decide) (lv' := [(6, .ref q9), (0, .ref (q 0)), (1, .int u0), (2, .int u1), (3, .int u2), (4, .int u3), (5, .ref b)]) rfl dL_reason_17 ?_
  refine z_iconst h (nI 1) (by decide +kernel) dL_reason_19 ?_
  exact w_iret h hf rfl rfl rfl ⟨by omega, by omega⟩ dL_reason_20
set_option maxHeartbeats 4000000 in
set_option maxRecDepth 100000 in
theorem w_reason_2 {l : Launch} {y : zY} {D : va_G} (b : Nat) (F : Nat → Int64) (Y : va_W) (q : Nat → Nat) (a : Nat → Nat → Nat) (g t c o n : Nat → Nat → Int32) (S : Nat → Nat → Nat → Int32) (u0 u1 u2 u3 : Int32) {fr1 lo1 : Nat} (hfl : fr1 ≤ 7 ∧ lo1 ≤ 200) {mc1 ms1 : Nat} (hm1 : mc1 ≤ 1 ∧ ms1 ≤ 6) (hc : zX l y D yX9_reason wsX9_reason fr1 lo1 mc1 ms1 [.ref (q 0), .int u0, .int u1, .int u2, .int u3] (zCW y q a g t c o n S) "java/lang/IllegalArgumentException") : zW l y D yL_reason wsL_reason 8 230 1 6 [.ref (q 0), .int u0, .int u1, .int u2, .int u3, .ref b] (zOu y b F ++ (zCW y q a g t c o n S ++ Y)) (zOu y b F ++ (zCW y q a g t c o n S ++ Y)) (some (.int (nI 2))) := by
  refine w_start (own := RL) (cc := cL_reason) (maxL := 7) (ret := some .int) rfl (by decide +kernel) rfl (Nat.le_of_ble_eq_true rfl) rfl ?_
  intro E hEl hEy hED h hf htb
  subst hEl hEy hED
  have hrm := w_room hf
  refine z_cast (lv := [(0, .ref (q 0)), (1, .int u0), (2, .int u1), (3, .int u2), (4, .int u3), (5, .ref b)]) (ws := zOu (zy E) b F ++ (zCW (zy E) q a g t c o n S ++ Y)) (st := []) ?_ rfl rfl rfl
  refine z_aload h 5 rfl dL_reason_0 ?_
  refine z_iconst h (nI 0) (by decide +kernel) dL_reason_2 ?_
  refine z_aload_n h 0 rfl dL_reason_3 ?_
  refine z_iload_n h 1 rfl dL_reason_4 ?_
  refine z_iload_n h 2 rfl dL_reason_5 ?_
  refine z_iload_n h 3 rfl dL_reason_6 ?_
  refine z_iload h 4 rfl dL_reason_7 ?_
  refine x_catch h (As := [.int u0, .int u1, .int u2, .int u3]) (st := [.int (nI 0), .ref b]) (q0 := 1) (ci := 7) 4 (x_mid (zOu (zy E) b F) Y hc) htb [⟨0, 14, 17, 24⟩] ⟨0, 14, 21, 13⟩ [] rfl (List.forall_mem_cons.mpr ⟨Or.inr ⟨by decide, "java/lang/IndexOutOfBoundsException", (List.mem_of_getElem? (i := 1) (by decide +kernel)), by decide +kernel⟩, (fun z hz => absurd hz List.not_mem_nil)⟩) (by decide +kernel) (by decide) (List.mem_of_getElem? (i := 2) (by decide +kernel)) (by decide +kernel) gL_reason_X9_reason ⟨rfl, by decide, by decide, by decide +kernel⟩ rfl rfl rfl ⟨by omega, by omega⟩ (Nat.le_of_ble_eq_true rfl) rfl rfl dL_reason_9 ⟨by rw [hrm.1]; omega, by rw [hrm.2]; omega⟩ (fun q9 => ?_)
  refine z_cast (lv := [(0, .ref (q 0)), (1, .int u0), (2, .int u1), (3, .int u2), (4, .int u3), (5, .ref b)]) (ws := zOu (zy E) b F ++ (zCW (zy E) q a g t c o n S ++ Y)) (st := [.ref q9]) ?_ rfl rfl rfl
  refine z_astore h (by decide) (lv' := [(6, .ref q9), (0, .ref (q 0)), (1, .int u0), (2, .int u1), (3, .int u2), (4, .int u3), (5, .ref b)]) rfl dL_reason_21 ?_
  refine z_iconst h (nI 2) (by decide +kernel) dL_reason_23 ?_
  exact w_iret h hf rfl rfl rfl ⟨by omega, by omega⟩ dL_reason_24
set_option maxHeartbeats 4000000 in
set_option maxRecDepth 100000 in
theorem w_volumeIn_0 {l : Launch} {y : zY} {D : va_G} (b : Nat) (F : Nat → Int64) (Y : va_W) (q : Nat → Nat) (a : Nat → Nat → Nat) (g t c o n : Nat → Nat → Int32) (S : Nat → Nat → Nat → Int32) (u0 u1 : Int32) {fr1 lo1 : Nat} (hfl : fr1 ≤ 7 ∧ lo1 ≤ 200) {ws2 : va_W} {x : Int32} (hc : zM l y D yX9_volumeIn wsX9_volumeIn fr1 lo1 [.ref (q 0), .int u0, .int u1] (zCW y q a g t c o n S) ws2 (some (.int x))) : zW l y D yL_volumeIn wsL_volumeIn 8 230 1 6 [.ref (q 0), .int u0, .int u1, .ref b] (zOu y b F ++ (zCW y q a g t c o n S ++ Y)) (zOu y b (vp_updL F 0 x.toInt64) ++ (ws2 ++ Y)) (some (.int (nI 0))) := by
  refine w_start (own := RL) (cc := cL_volumeIn) (maxL := 5) (ret := some .int) rfl (by decide +kernel) rfl (Nat.le_of_ble_eq_true rfl) (map_mid rfl hc.1) ?_
  intro E hEl hEy hED h hf htb
  subst hEl hEy hED
  have hrm := w_room hf
  refine z_cast (lv := [(0, .ref (q 0)), (1, .int u0), (2, .int u1), (3, .ref b)]) (ws := zOu (zy E) b F ++ (zCW (zy E) q a g t c o n S ++ Y)) (st := []) ?_ rfl rfl rfl
  refine z_aload_n h 3 rfl dL_volumeIn_0 ?_
  refine z_iconst h (nI 0) (by decide +kernel) dL_volumeIn_1 ?_
  refine z_aload_n h 0 rfl dL_volumeIn_2 ?_
  refine z_iload_n h 1 rfl dL_volumeIn_3 ?_
  refine z_iload_n h 2 rfl dL_volumeIn_4 ?_
  refine z_wV h (As := [.int u0, .int u1]) (st := [.int (nI 0), .ref b]) (ws2 := zOu (zy E) b F ++ (ws2 ++ Y)) (r := some (.int x)) 2 (z_mid (zOu (zy E) b F) Y hc) gL_volumeIn_X9_volumeIn (q0 := 1) (ci := 7) ⟨rfl, by decide, by decide, by decide +kernel⟩ rfl rfl rfl ⟨by omega, by omega⟩ (Nat.le_of_ble_eq_true rfl) rfl rfl dL_volumeIn_5 ?_ ⟨Nat.zero_le _, Nat.zero_le _⟩
  refine z_i2l h dL_volumeIn_8 ?_
  refine z_last h 0 (j := 0) (ws' := zOu (zy E) b (vp_updL F 0 x.toInt64) ++ (ws2 ++ Y)) rfl (by decide) (by decide) rfl dL_volumeIn_9 ?_
  refine z_goto h 21 dL_volumeIn_10 (by decide) ?_
  refine z_iconst h (nI 0) (by decide +kernel) dL_volumeIn_21 ?_
  exact w_iret h hf rfl rfl rfl ⟨Nat.zero_le _, Nat.zero_le _⟩ dL_volumeIn_22
set_option maxHeartbeats 4000000 in
set_option maxRecDepth 100000 in
theorem w_volumeIn_1 {l : Launch} {y : zY} {D : va_G} (b : Nat) (F : Nat → Int64) (Y : va_W) (q : Nat → Nat) (a : Nat → Nat → Nat) (g t c o n : Nat → Nat → Int32) (S : Nat → Nat → Nat → Int32) (u0 u1 : Int32) {fr1 lo1 : Nat} (hfl : fr1 ≤ 7 ∧ lo1 ≤ 200) {mc1 ms1 : Nat} (hm1 : mc1 ≤ 1 ∧ ms1 ≤ 6) (hc : zX l y D yX9_volumeIn wsX9_volumeIn fr1 lo1 mc1 ms1 [.ref (q 0), .int u0, .int u1] (zCW y q a g t c o n S) "java/lang/IndexOutOfBoundsException") : zW l y D yL_volumeIn wsL_volumeIn 8 230 1 6 [.ref (q 0), .int u0, .int u1, .ref b] (zOu y b F ++ (zCW y q a g t c o n S ++ Y)) (zOu y b F ++ (zCW y q a g t c o n S ++ Y)) (some (.int (nI 1))) := by
  refine w_start (own := RL) (cc := cL_volumeIn) (maxL := 5) (ret := some .int) rfl (by decide +kernel) rfl (Nat.le_of_ble_eq_true rfl) rfl ?_
  intro E hEl hEy hED h hf htb
  subst hEl hEy hED
  have hrm := w_room hf
  refine z_cast (lv := [(0, .ref (q 0)), (1, .int u0), (2, .int u1), (3, .ref b)]) (ws := zOu (zy E) b F ++ (zCW (zy E) q a g t c o n S ++ Y)) (st := []) ?_ rfl rfl rfl
  refine z_aload_n h 3 rfl dL_volumeIn_0 ?_
  refine z_iconst h (nI 0) (by decide +kernel) dL_volumeIn_1 ?_
  refine z_aload_n h 0 rfl dL_volumeIn_2 ?_
  refine z_iload_n h 1 rfl dL_volumeIn_3 ?_
  refine z_iload_n h 2 rfl dL_volumeIn_4 ?_
  refine x_catch h (As := [.int u0, .int u1]) (st := [.int (nI 0), .ref b]) (q0 := 1) (ci := 7) 2 (x_mid (zOu (zy E) b F) Y hc) htb [] ⟨0, 10, 13, 24⟩ [⟨0, 10, 17, 13⟩] rfl (fun z hz => absurd hz List.not_mem_nil) (by decide +kernel) (by decide) (List.mem_of_getElem? (i := 1) (by decide +kernel)) (by decide +kernel) gL_volumeIn_X9_volumeIn ⟨rfl, by decide, by decide, by decide +kernel⟩ rfl rfl rfl ⟨by omega, by omega⟩ (Nat.le_of_ble_eq_true rfl) rfl rfl dL_volumeIn_5 ⟨by rw [hrm.1]; omega, by rw [hrm.2]; omega⟩ (fun q9 => ?_)
  refine z_cast (lv := [(0, .ref (q 0)), (1, .int u0), (2, .int u1), (3, .ref b)]) (ws := zOu (zy E) b F ++ (zCW (zy E) q a g t c o n S ++ Y)) (st := [.ref q9]) ?_ rfl rfl rfl
  refine z_astore h (by decide) (lv' := [(4, .ref q9), (0, .ref (q 0)), (1, .int u0), (2, .int u1), (3, .ref b)]) rfl dL_volumeIn_13 ?_
  refine z_iconst h (nI 1) (by decide +kernel) dL_volumeIn_15 ?_
  exact w_iret h hf rfl rfl rfl ⟨by omega, by omega⟩ dL_volumeIn_16
set_option maxHeartbeats 4000000 in
set_option maxRecDepth 100000 in
theorem w_volumeIn_2 {l : Launch} {y : zY} {D : va_G} (b : Nat) (F : Nat → Int64) (Y : va_W) (q : Nat → Nat) (a : Nat → Nat → Nat) (g t c o n : Nat → Nat → Int32) (S : Nat → Nat → Nat → Int32) (u0 u1 : Int32) {fr1 lo1 : Nat} (hfl : fr1 ≤ 7 ∧ lo1 ≤ 200) {mc1 ms1 : Nat} (hm1 : mc1 ≤ 1 ∧ ms1 ≤ 6) (hc : zX l y D yX9_volumeIn wsX9_volumeIn fr1 lo1 mc1 ms1 [.ref (q 0), .int u0, .int u1] (zCW y q a g t c o n S) "java/lang/IllegalArgumentException") : zW l y D yL_volumeIn wsL_volumeIn 8 230 1 6 [.ref (q 0), .int u0, .int u1, .ref b] (zOu y b F ++ (zCW y q a g t c o n S ++ Y)) (zOu y b F ++ (zCW y q a g t c o n S ++ Y)) (some (.int (nI 2))) := by
  refine w_start (own := RL) (cc := cL_volumeIn) (maxL := 5) (ret := some .int) rfl (by decide +kernel) rfl (Nat.le_of_ble_eq_true rfl) rfl ?_
  intro E hEl hEy hED h hf htb
  subst hEl hEy hED
  have hrm := w_room hf
  refine z_cast (lv := [(0, .ref (q 0)), (1, .int u0), (2, .int u1), (3, .ref b)]) (ws := zOu (zy E) b F ++ (zCW (zy E) q a g t c o n S ++ Y)) (st := []) ?_ rfl rfl rfl
  refine z_aload_n h 3 rfl dL_volumeIn_0 ?_
  refine z_iconst h (nI 0) (by decide +kernel) dL_volumeIn_1 ?_
  refine z_aload_n h 0 rfl dL_volumeIn_2 ?_
  refine z_iload_n h 1 rfl dL_volumeIn_3 ?_
  refine z_iload_n h 2 rfl dL_volumeIn_4 ?_
  refine x_catch h (As := [.int u0, .int u1]) (st := [.int (nI 0), .ref b]) (q0 := 1) (ci := 7) 2 (x_mid (zOu (zy E) b F) Y hc) htb [⟨0, 10, 13, 24⟩] ⟨0, 10, 17, 13⟩ [] rfl (List.forall_mem_cons.mpr ⟨Or.inr ⟨by decide, "java/lang/IndexOutOfBoundsException", (List.mem_of_getElem? (i := 1) (by decide +kernel)), by decide +kernel⟩, (fun z hz => absurd hz List.not_mem_nil)⟩) (by decide +kernel) (by decide) (List.mem_of_getElem? (i := 2) (by decide +kernel)) (by decide +kernel) gL_volumeIn_X9_volumeIn ⟨rfl, by decide, by decide, by decide +kernel⟩ rfl rfl rfl ⟨by omega, by omega⟩ (Nat.le_of_ble_eq_true rfl) rfl rfl dL_volumeIn_5 ⟨by rw [hrm.1]; omega, by rw [hrm.2]; omega⟩ (fun q9 => ?_)
  refine z_cast (lv := [(0, .ref (q 0)), (1, .int u0), (2, .int u1), (3, .ref b)]) (ws := zOu (zy E) b F ++ (zCW (zy E) q a g t c o n S ++ Y)) (st := [.ref q9]) ?_ rfl rfl rfl
  refine z_astore h (by decide) (lv' := [(4, .ref q9), (0, .ref (q 0)), (1, .int u0), (2, .int u1), (3, .ref b)]) rfl dL_volumeIn_17 ?_
  refine z_iconst h (nI 2) (by decide +kernel) dL_volumeIn_19 ?_
  exact w_iret h hf rfl rfl rfl ⟨by omega, by omega⟩ dL_volumeIn_20
set_option maxHeartbeats 4000000 in
set_option maxRecDepth 100000 in
theorem w_goneIn_0 {l : Launch} {y : zY} {D : va_G} (b : Nat) (F : Nat → Int64) (Y : va_W) (q : Nat → Nat) (a : Nat → Nat → Nat) (g t c o n : Nat → Nat → Int32) (S : Nat → Nat → Nat → Int32) (u0 : Int32) {fr1 lo1 : Nat} (hfl : fr1 ≤ 7 ∧ lo1 ≤ 200) {ws2 : va_W} {x : Int32} (hc : zM l y D yX9_goneIn wsX9_goneIn fr1 lo1 [.ref (q 0), .int u0] (zCW y q a g t c o n S) ws2 (some (.int x))) : zW l y D yL_goneIn wsL_goneIn 8 230 1 6 [.ref (q 0), .int u0, .ref b] (zOu y b F ++ (zCW y q a g t c o n S ++ Y)) (zOu y b (vp_updL F 0 x.toInt64) ++ (ws2 ++ Y)) (some (.int (nI 0))) := by
  refine w_start (own := RL) (cc := cL_goneIn) (maxL := 4) (ret := some .int) rfl (by decide +kernel) rfl (Nat.le_of_ble_eq_true rfl) (map_mid rfl hc.1) ?_
  intro E hEl hEy hED h hf htb
  subst hEl hEy hED
  have hrm := w_room hf
  refine z_cast (lv := [(0, .ref (q 0)), (1, .int u0), (2, .ref b)]) (ws := zOu (zy E) b F ++ (zCW (zy E) q a g t c o n S ++ Y)) (st := []) ?_ rfl rfl rfl
  refine z_aload_n h 2 rfl dL_goneIn_0 ?_
  refine z_iconst h (nI 0) (by decide +kernel) dL_goneIn_1 ?_
  refine z_aload_n h 0 rfl dL_goneIn_2 ?_
  refine z_iload_n h 1 rfl dL_goneIn_3 ?_
  refine z_wV h (As := [.int u0]) (st := [.int (nI 0), .ref b]) (ws2 := zOu (zy E) b F ++ (ws2 ++ Y)) (r := some (.int x)) 1 (z_mid (zOu (zy E) b F) Y hc) gL_goneIn_X9_goneIn (q0 := 1) (ci := 7) ⟨rfl, by decide, by decide, by decide +kernel⟩ rfl rfl rfl ⟨by omega, by omega⟩ (Nat.le_of_ble_eq_true rfl) rfl rfl dL_goneIn_4 ?_ ⟨Nat.zero_le _, Nat.zero_le _⟩
  refine z_i2l h dL_goneIn_7 ?_
  refine z_last h 0 (j := 0) (ws' := zOu (zy E) b (vp_updL F 0 x.toInt64) ++ (ws2 ++ Y)) rfl (by decide) (by decide) rfl dL_goneIn_8 ?_
  refine z_goto h 15 dL_goneIn_9 (by decide) ?_
  refine z_iconst h (nI 0) (by decide +kernel) dL_goneIn_15 ?_
  exact w_iret h hf rfl rfl rfl ⟨Nat.zero_le _, Nat.zero_le _⟩ dL_goneIn_16
set_option maxHeartbeats 4000000 in
set_option maxRecDepth 100000 in
theorem w_goneIn_1 {l : Launch} {y : zY} {D : va_G} (b : Nat) (F : Nat → Int64) (Y : va_W) (q : Nat → Nat) (a : Nat → Nat → Nat) (g t c o n : Nat → Nat → Int32) (S : Nat → Nat → Nat → Int32) (u0 : Int32) {fr1 lo1 : Nat} (hfl : fr1 ≤ 7 ∧ lo1 ≤ 200) {mc1 ms1 : Nat} (hm1 : mc1 ≤ 1 ∧ ms1 ≤ 6) (hc : zX l y D yX9_goneIn wsX9_goneIn fr1 lo1 mc1 ms1 [.ref (q 0), .int u0] (zCW y q a g t c o n S) "java/lang/IndexOutOfBoundsException") : zW l y D yL_goneIn wsL_goneIn 8 230 1 6 [.ref (q 0), .int u0, .ref b] (zOu y b F ++ (zCW y q a g t c o n S ++ Y)) (zOu y b F ++ (zCW y q a g t c o n S ++ Y)) (some (.int (nI 1))) := by
  refine w_start (own := RL) (cc := cL_goneIn) (maxL := 4) (ret := some .int) rfl (by decide +kernel) rfl (Nat.le_of_ble_eq_true rfl) rfl ?_
  intro E hEl hEy hED h hf htb
  subst hEl hEy hED
  have hrm := w_room hf
  refine z_cast (lv := [(0, .ref (q 0)), (1, .int u0), (2, .ref b)]) (ws := zOu (zy E) b F ++ (zCW (zy E) q a g t c o n S ++ Y)) (st := []) ?_ rfl rfl rfl
  refine z_aload_n h 2 rfl dL_goneIn_0 ?_
  refine z_iconst h (nI 0) (by decide +kernel) dL_goneIn_1 ?_
  refine z_aload_n h 0 rfl dL_goneIn_2 ?_
  refine z_iload_n h 1 rfl dL_goneIn_3 ?_
  refine x_catch h (As := [.int u0]) (st := [.int (nI 0), .ref b]) (q0 := 1) (ci := 7) 1 (x_mid (zOu (zy E) b F) Y hc) htb [] ⟨0, 9, 12, 24⟩ [] rfl (fun z hz => absurd hz List.not_mem_nil) (by decide +kernel) (by decide) (List.mem_of_getElem? (i := 1) (by decide +kernel)) (by decide +kernel) gL_goneIn_X9_goneIn ⟨rfl, by decide, by decide, by decide +kernel⟩ rfl rfl rfl ⟨by omega, by omega⟩ (Nat.le_of_ble_eq_true rfl) rfl rfl dL_goneIn_4 ⟨by rw [hrm.1]; omega, by rw [hrm.2]; omega⟩ (fun q9 => ?_)
  refine z_cast (lv := [(0, .ref (q 0)), (1, .int u0), (2, .ref b)]) (ws := zOu (zy E) b F ++ (zCW (zy E) q a g t c o n S ++ Y)) (st := [.ref q9]) ?_ rfl rfl rfl
  refine z_astore_n h (by decide) (lv' := [(3, .ref q9), (0, .ref (q 0)), (1, .int u0), (2, .ref b)]) rfl dL_goneIn_12 ?_
  refine z_iconst h (nI 1) (by decide +kernel) dL_goneIn_13 ?_
  exact w_iret h hf rfl rfl rfl ⟨by omega, by omega⟩ dL_goneIn_14
set_option maxHeartbeats 4000000 in
set_option maxRecDepth 100000 in
theorem w_minutesFor_0 {l : Launch} {y : zY} {D : va_G} (b : Nat) (F : Nat → Int64) (Y : va_W) (q : Nat → Nat) (a : Nat → Nat → Nat) (g t c o n : Nat → Nat → Int32) (S : Nat → Nat → Nat → Int32) (u0 u1 : Int32) {fr1 lo1 : Nat} (hfl : fr1 ≤ 7 ∧ lo1 ≤ 200) {ws2 : va_W} {x : Int32} (hc : zM l y D yX9_minutesFor wsX9_minutesFor fr1 lo1 [.ref (q 0), .int u0, .int u1] (zCW y q a g t c o n S) ws2 (some (.int x))) : zW l y D yL_minutesFor wsL_minutesFor 8 230 1 6 [.ref (q 0), .int u0, .int u1, .ref b] (zOu y b F ++ (zCW y q a g t c o n S ++ Y)) (zOu y b (vp_updL F 0 x.toInt64) ++ (ws2 ++ Y)) (some (.int (nI 0))) := by
  refine w_start (own := RL) (cc := cL_minutesFor) (maxL := 5) (ret := some .int) rfl (by decide +kernel) rfl (Nat.le_of_ble_eq_true rfl) (map_mid rfl hc.1) ?_
  intro E hEl hEy hED h hf htb
  subst hEl hEy hED
  have hrm := w_room hf
  refine z_cast (lv := [(0, .ref (q 0)), (1, .int u0), (2, .int u1), (3, .ref b)]) (ws := zOu (zy E) b F ++ (zCW (zy E) q a g t c o n S ++ Y)) (st := []) ?_ rfl rfl rfl
  refine z_aload_n h 3 rfl dL_minutesFor_0 ?_
  refine z_iconst h (nI 0) (by decide +kernel) dL_minutesFor_1 ?_
  refine z_aload_n h 0 rfl dL_minutesFor_2 ?_
  refine z_iload_n h 1 rfl dL_minutesFor_3 ?_
  refine z_iload_n h 2 rfl dL_minutesFor_4 ?_
  refine z_wV h (As := [.int u0, .int u1]) (st := [.int (nI 0), .ref b]) (ws2 := zOu (zy E) b F ++ (ws2 ++ Y)) (r := some (.int x)) 2 (z_mid (zOu (zy E) b F) Y hc) gL_minutesFor_X9_minutesFor (q0 := 1) (ci := 7) ⟨rfl, by decide, by decide, by decide +kernel⟩ rfl rfl rfl ⟨by omega, by omega⟩ (Nat.le_of_ble_eq_true rfl) rfl rfl dL_minutesFor_5 ?_ ⟨Nat.zero_le _, Nat.zero_le _⟩
  refine z_i2l h dL_minutesFor_8 ?_
  refine z_last h 0 (j := 0) (ws' := zOu (zy E) b (vp_updL F 0 x.toInt64) ++ (ws2 ++ Y)) rfl (by decide) (by decide) rfl dL_minutesFor_9 ?_
  refine z_goto h 21 dL_minutesFor_10 (by decide) ?_
  refine z_iconst h (nI 0) (by decide +kernel) dL_minutesFor_21 ?_
  exact w_iret h hf rfl rfl rfl ⟨Nat.zero_le _, Nat.zero_le _⟩ dL_minutesFor_22
set_option maxHeartbeats 4000000 in
set_option maxRecDepth 100000 in
theorem w_minutesFor_1 {l : Launch} {y : zY} {D : va_G} (b : Nat) (F : Nat → Int64) (Y : va_W) (q : Nat → Nat) (a : Nat → Nat → Nat) (g t c o n : Nat → Nat → Int32) (S : Nat → Nat → Nat → Int32) (u0 u1 : Int32) {fr1 lo1 : Nat} (hfl : fr1 ≤ 7 ∧ lo1 ≤ 200) {mc1 ms1 : Nat} (hm1 : mc1 ≤ 1 ∧ ms1 ≤ 6) (hc : zX l y D yX9_minutesFor wsX9_minutesFor fr1 lo1 mc1 ms1 [.ref (q 0), .int u0, .int u1] (zCW y q a g t c o n S) "java/lang/IndexOutOfBoundsException") : zW l y D yL_minutesFor wsL_minutesFor 8 230 1 6 [.ref (q 0), .int u0, .int u1, .ref b] (zOu y b F ++ (zCW y q a g t c o n S ++ Y)) (zOu y b F ++ (zCW y q a g t c o n S ++ Y)) (some (.int (nI 1))) := by
  refine w_start (own := RL) (cc := cL_minutesFor) (maxL := 5) (ret := some .int) rfl (by decide +kernel) rfl (Nat.le_of_ble_eq_true rfl) rfl ?_
  intro E hEl hEy hED h hf htb
  subst hEl hEy hED
  have hrm := w_room hf
  refine z_cast (lv := [(0, .ref (q 0)), (1, .int u0), (2, .int u1), (3, .ref b)]) (ws := zOu (zy E) b F ++ (zCW (zy E) q a g t c o n S ++ Y)) (st := []) ?_ rfl rfl rfl
  refine z_aload_n h 3 rfl dL_minutesFor_0 ?_
  refine z_iconst h (nI 0) (by decide +kernel) dL_minutesFor_1 ?_
  refine z_aload_n h 0 rfl dL_minutesFor_2 ?_
  refine z_iload_n h 1 rfl dL_minutesFor_3 ?_
  refine z_iload_n h 2 rfl dL_minutesFor_4 ?_
  refine x_catch h (As := [.int u0, .int u1]) (st := [.int (nI 0), .ref b]) (q0 := 1) (ci := 7) 2 (x_mid (zOu (zy E) b F) Y hc) htb [] ⟨0, 10, 13, 24⟩ [⟨0, 10, 17, 13⟩] rfl (fun z hz => absurd hz List.not_mem_nil) (by decide +kernel) (by decide) (List.mem_of_getElem? (i := 1) (by decide +kernel)) (by decide +kernel) gL_minutesFor_X9_minutesFor ⟨rfl, by decide, by decide, by decide +kernel⟩ rfl rfl rfl ⟨by omega, by omega⟩ (Nat.le_of_ble_eq_true rfl) rfl rfl dL_minutesFor_5 ⟨by rw [hrm.1]; omega, by rw [hrm.2]; omega⟩ (fun q9 => ?_)
  refine z_cast (lv := [(0, .ref (q 0)), (1, .int u0), (2, .int u1), (3, .ref b)]) (ws := zOu (zy E) b F ++ (zCW (zy E) q a g t c o n S ++ Y)) (st := [.ref q9]) ?_ rfl rfl rfl
  refine z_astore h (by decide) (lv' := [(4, .ref q9), (0, .ref (q 0)), (1, .int u0), (2, .int u1), (3, .ref b)]) rfl dL_minutesFor_13 ?_
  refine z_iconst h (nI 1) (by decide +kernel) dL_minutesFor_15 ?_
  exact w_iret h hf rfl rfl rfl ⟨by omega, by omega⟩ dL_minutesFor_16
set_option maxHeartbeats 4000000 in
set_option maxRecDepth 100000 in
theorem w_minutesFor_2 {l : Launch} {y : zY} {D : va_G} (b : Nat) (F : Nat → Int64) (Y : va_W) (q : Nat → Nat) (a : Nat → Nat → Nat) (g t c o n : Nat → Nat → Int32) (S : Nat → Nat → Nat → Int32) (u0 u1 : Int32) {fr1 lo1 : Nat} (hfl : fr1 ≤ 7 ∧ lo1 ≤ 200) {mc1 ms1 : Nat} (hm1 : mc1 ≤ 1 ∧ ms1 ≤ 6) (hc : zX l y D yX9_minutesFor wsX9_minutesFor fr1 lo1 mc1 ms1 [.ref (q 0), .int u0, .int u1] (zCW y q a g t c o n S) "java/lang/IllegalArgumentException") : zW l y D yL_minutesFor wsL_minutesFor 8 230 1 6 [.ref (q 0), .int u0, .int u1, .ref b] (zOu y b F ++ (zCW y q a g t c o n S ++ Y)) (zOu y b F ++ (zCW y q a g t c o n S ++ Y)) (some (.int (nI 2))) := by
  refine w_start (own := RL) (cc := cL_minutesFor) (maxL := 5) (ret := some .int) rfl (by decide +kernel) rfl (Nat.le_of_ble_eq_true rfl) rfl ?_
  intro E hEl hEy hED h hf htb
  subst hEl hEy hED
  have hrm := w_room hf
  refine z_cast (lv := [(0, .ref (q 0)), (1, .int u0), (2, .int u1), (3, .ref b)]) (ws := zOu (zy E) b F ++ (zCW (zy E) q a g t c o n S ++ Y)) (st := []) ?_ rfl rfl rfl
  refine z_aload_n h 3 rfl dL_minutesFor_0 ?_
  refine z_iconst h (nI 0) (by decide +kernel) dL_minutesFor_1 ?_
  refine z_aload_n h 0 rfl dL_minutesFor_2 ?_
  refine z_iload_n h 1 rfl dL_minutesFor_3 ?_
  refine z_iload_n h 2 rfl dL_minutesFor_4 ?_
  refine x_catch h (As := [.int u0, .int u1]) (st := [.int (nI 0), .ref b]) (q0 := 1) (ci := 7) 2 (x_mid (zOu (zy E) b F) Y hc) htb [⟨0, 10, 13, 24⟩] ⟨0, 10, 17, 13⟩ [] rfl (List.forall_mem_cons.mpr ⟨Or.inr ⟨by decide, "java/lang/IndexOutOfBoundsException", (List.mem_of_getElem? (i := 1) (by decide +kernel)), by decide +kernel⟩, (fun z hz => absurd hz List.not_mem_nil)⟩) (by decide +kernel) (by decide) (List.mem_of_getElem? (i := 2) (by decide +kernel)) (by decide +kernel) gL_minutesFor_X9_minutesFor ⟨rfl, by decide, by decide, by decide +kernel⟩ rfl rfl rfl ⟨by omega, by omega⟩ (Nat.le_of_ble_eq_true rfl) rfl rfl dL_minutesFor_5 ⟨by rw [hrm.1]; omega, by rw [hrm.2]; omega⟩ (fun q9 => ?_)
  refine z_cast (lv := [(0, .ref (q 0)), (1, .int u0), (2, .int u1), (3, .ref b)]) (ws := zOu (zy E) b F ++ (zCW (zy E) q a g t c o n S ++ Y)) (st := [.ref q9]) ?_ rfl rfl rfl
  refine z_astore h (by decide) (lv' := [(4, .ref q9), (0, .ref (q 0)), (1, .int u0), (2, .int u1), (3, .ref b)]) rfl dL_minutesFor_17 ?_
  refine z_iconst h (nI 2) (by decide +kernel) dL_minutesFor_19 ?_
  exact w_iret h hf rfl rfl rfl ⟨by omega, by omega⟩ dL_minutesFor_20
set_option maxHeartbeats 4000000 in
set_option maxRecDepth 100000 in
theorem w_type_0 {l : Launch} {y : zY} {D : va_G} (b : Nat) (F : Nat → Int64) (Y : va_W) (q : Nat → Nat) (a : Nat → Nat → Nat) (g t c o n : Nat → Nat → Int32) (S : Nat → Nat → Nat → Int32) (u0 : Int32) {fr1 lo1 : Nat} (hfl : fr1 ≤ 7 ∧ lo1 ≤ 200) {ws2 : va_W} {x : Int32} (hc : zM l y D yX9_type wsX9_type fr1 lo1 [.ref (q 0), .int u0] (zCW y q a g t c o n S) ws2 (some (.int x))) : zW l y D yL_type wsL_type 8 230 1 6 [.ref (q 0), .int u0, .ref b] (zOu y b F ++ (zCW y q a g t c o n S ++ Y)) (zOu y b (vp_updL F 0 x.toInt64) ++ (ws2 ++ Y)) (some (.int (nI 0))) := by
  refine w_start (own := RL) (cc := cL_type) (maxL := 4) (ret := some .int) rfl (by decide +kernel) rfl (Nat.le_of_ble_eq_true rfl) (map_mid rfl hc.1) ?_
  intro E hEl hEy hED h hf htb
  subst hEl hEy hED
  have hrm := w_room hf
  refine z_cast (lv := [(0, .ref (q 0)), (1, .int u0), (2, .ref b)]) (ws := zOu (zy E) b F ++ (zCW (zy E) q a g t c o n S ++ Y)) (st := []) ?_ rfl rfl rfl
  refine z_aload_n h 2 rfl dL_type_0 ?_
  refine z_iconst h (nI 0) (by decide +kernel) dL_type_1 ?_
  refine z_aload_n h 0 rfl dL_type_2 ?_
  refine z_iload_n h 1 rfl dL_type_3 ?_
  refine z_wV h (As := [.int u0]) (st := [.int (nI 0), .ref b]) (ws2 := zOu (zy E) b F ++ (ws2 ++ Y)) (r := some (.int x)) 1 (z_mid (zOu (zy E) b F) Y hc) gL_type_X9_type (q0 := 1) (ci := 7) ⟨rfl, by decide, by decide, by decide +kernel⟩ rfl rfl rfl ⟨by omega, by omega⟩ (Nat.le_of_ble_eq_true rfl) rfl rfl dL_type_4 ?_ ⟨Nat.zero_le _, Nat.zero_le _⟩
  refine z_i2l h dL_type_7 ?_
  refine z_last h 0 (j := 0) (ws' := zOu (zy E) b (vp_updL F 0 x.toInt64) ++ (ws2 ++ Y)) rfl (by decide) (by decide) rfl dL_type_8 ?_
  refine z_goto h 18 dL_type_9 (by decide) ?_
  refine z_iconst h (nI 0) (by decide +kernel) dL_type_18 ?_
  exact w_iret h hf rfl rfl rfl ⟨Nat.zero_le _, Nat.zero_le _⟩ dL_type_19
set_option maxHeartbeats 4000000 in
set_option maxRecDepth 100000 in
theorem w_type_1 {l : Launch} {y : zY} {D : va_G} (b : Nat) (F : Nat → Int64) (Y : va_W) (q : Nat → Nat) (a : Nat → Nat → Nat) (g t c o n : Nat → Nat → Int32) (S : Nat → Nat → Nat → Int32) (u0 : Int32) {fr1 lo1 : Nat} (hfl : fr1 ≤ 7 ∧ lo1 ≤ 200) {mc1 ms1 : Nat} (hm1 : mc1 ≤ 1 ∧ ms1 ≤ 6) (hc : zX l y D yX9_type wsX9_type fr1 lo1 mc1 ms1 [.ref (q 0), .int u0] (zCW y q a g t c o n S) "java/lang/IllegalArgumentException") : zW l y D yL_type wsL_type 8 230 1 6 [.ref (q 0), .int u0, .ref b] (zOu y b F ++ (zCW y q a g t c o n S ++ Y)) (zOu y b F ++ (zCW y q a g t c o n S ++ Y)) (some (.int (nI 1))) := by
  refine w_start (own := RL) (cc := cL_type) (maxL := 4) (ret := some .int) rfl (by decide +kernel) rfl (Nat.le_of_ble_eq_true rfl) rfl ?_
  intro E hEl hEy hED h hf htb
  subst hEl hEy hED
  have hrm := w_room hf
  refine z_cast (lv := [(0, .ref (q 0)), (1, .int u0), (2, .ref b)]) (ws := zOu (zy E) b F ++ (zCW (zy E) q a g t c o n S ++ Y)) (st := []) ?_ rfl rfl rfl
  refine z_aload_n h 2 rfl dL_type_0 ?_
  refine z_iconst h (nI 0) (by decide +kernel) dL_type_1 ?_
  refine z_aload_n h 0 rfl dL_type_2 ?_
  refine z_iload_n h 1 rfl dL_type_3 ?_
  refine x_catch h (As := [.int u0]) (st := [.int (nI 0), .ref b]) (q0 := 1) (ci := 7) 1 (x_mid (zOu (zy E) b F) Y hc) htb [] ⟨0, 9, 12, 13⟩ [⟨0, 9, 15, 15⟩] rfl (fun z hz => absurd hz List.not_mem_nil) (by decide +kernel) (by decide) (List.mem_of_getElem? (i := 1) (by decide +kernel)) (by decide +kernel) gL_type_X9_type ⟨rfl, by decide, by decide, by decide +kernel⟩ rfl rfl rfl ⟨by omega, by omega⟩ (Nat.le_of_ble_eq_true rfl) rfl rfl dL_type_4 ⟨by rw [hrm.1]; omega, by rw [hrm.2]; omega⟩ (fun q9 => ?_)
  refine z_cast (lv := [(0, .ref (q 0)), (1, .int u0), (2, .ref b)]) (ws := zOu (zy E) b F ++ (zCW (zy E) q a g t c o n S ++ Y)) (st := [.ref q9]) ?_ rfl rfl rfl
  refine z_astore_n h (by decide) (lv' := [(3, .ref q9), (0, .ref (q 0)), (1, .int u0), (2, .ref b)]) rfl dL_type_12 ?_
  refine z_iconst h (nI 1) (by decide +kernel) dL_type_13 ?_
  exact w_iret h hf rfl rfl rfl ⟨by omega, by omega⟩ dL_type_14
set_option maxHeartbeats 4000000 in
set_option maxRecDepth 100000 in
theorem w_type_2 {l : Launch} {y : zY} {D : va_G} (b : Nat) (F : Nat → Int64) (Y : va_W) (q : Nat → Nat) (a : Nat → Nat → Nat) (g t c o n : Nat → Nat → Int32) (S : Nat → Nat → Nat → Int32) (u0 : Int32) {fr1 lo1 : Nat} (hfl : fr1 ≤ 7 ∧ lo1 ≤ 200) {mc1 ms1 : Nat} (hm1 : mc1 ≤ 1 ∧ ms1 ≤ 6) (hc : zX l y D yX9_type wsX9_type fr1 lo1 mc1 ms1 [.ref (q 0), .int u0] (zCW y q a g t c o n S) "java/lang/IllegalStateException") : zW l y D yL_type wsL_type 8 230 1 6 [.ref (q 0), .int u0, .ref b] (zOu y b F ++ (zCW y q a g t c o n S ++ Y)) (zOu y b F ++ (zCW y q a g t c o n S ++ Y)) (some (.int (nI 2))) := by
  refine w_start (own := RL) (cc := cL_type) (maxL := 4) (ret := some .int) rfl (by decide +kernel) rfl (Nat.le_of_ble_eq_true rfl) rfl ?_
  intro E hEl hEy hED h hf htb
  subst hEl hEy hED
  have hrm := w_room hf
  refine z_cast (lv := [(0, .ref (q 0)), (1, .int u0), (2, .ref b)]) (ws := zOu (zy E) b F ++ (zCW (zy E) q a g t c o n S ++ Y)) (st := []) ?_ rfl rfl rfl
  refine z_aload_n h 2 rfl dL_type_0 ?_
  refine z_iconst h (nI 0) (by decide +kernel) dL_type_1 ?_
  refine z_aload_n h 0 rfl dL_type_2 ?_
  refine z_iload_n h 1 rfl dL_type_3 ?_
  refine x_catch h (As := [.int u0]) (st := [.int (nI 0), .ref b]) (q0 := 1) (ci := 7) 1 (x_mid (zOu (zy E) b F) Y hc) htb [⟨0, 9, 12, 13⟩] ⟨0, 9, 15, 15⟩ [] rfl (List.forall_mem_cons.mpr ⟨Or.inr ⟨by decide, "java/lang/IllegalArgumentException", (List.mem_of_getElem? (i := 1) (by decide +kernel)), by decide +kernel⟩, (fun z hz => absurd hz List.not_mem_nil)⟩) (by decide +kernel) (by decide) (List.mem_of_getElem? (i := 2) (by decide +kernel)) (by decide +kernel) gL_type_X9_type ⟨rfl, by decide, by decide, by decide +kernel⟩ rfl rfl rfl ⟨by omega, by omega⟩ (Nat.le_of_ble_eq_true rfl) rfl rfl dL_type_4 ⟨by rw [hrm.1]; omega, by rw [hrm.2]; omega⟩ (fun q9 => ?_)
  refine z_cast (lv := [(0, .ref (q 0)), (1, .int u0), (2, .ref b)]) (ws := zOu (zy E) b F ++ (zCW (zy E) q a g t c o n S ++ Y)) (st := [.ref q9]) ?_ rfl rfl rfl
  refine z_astore_n h (by decide) (lv' := [(3, .ref q9), (0, .ref (q 0)), (1, .int u0), (2, .ref b)]) rfl dL_type_15 ?_
  refine z_iconst h (nI 2) (by decide +kernel) dL_type_16 ?_
  exact w_iret h hf rfl rfl rfl ⟨by omega, by omega⟩ dL_type_17
set_option maxHeartbeats 4000000 in
set_option maxRecDepth 100000 in
theorem w_undo_0 {l : Launch} {y : zY} {D : va_G} (b : Nat) (F : Nat → Int64) (Y : va_W) (q : Nat → Nat) (a : Nat → Nat → Nat) (g t c o n : Nat → Nat → Int32) (S : Nat → Nat → Nat → Int32) {fr1 lo1 : Nat} (hfl : fr1 ≤ 7 ∧ lo1 ≤ 200) {ws2 : va_W} {x : Int32} (hc : zM l y D yX9_undo wsX9_undo fr1 lo1 [.ref (q 0)] (zCW y q a g t c o n S) ws2 (some (.int x))) : zW l y D yL_undo wsL_undo 8 230 1 6 [.ref (q 0), .ref b] (zOu y b F ++ (zCW y q a g t c o n S ++ Y)) (zOu y b (vp_updL F 0 x.toInt64) ++ (ws2 ++ Y)) (some (.int (nI 0))) := by
  refine w_start (own := RL) (cc := cL_undo) (maxL := 3) (ret := some .int) rfl (by decide +kernel) rfl (Nat.le_of_ble_eq_true rfl) (map_mid rfl hc.1) ?_
  intro E hEl hEy hED h hf htb
  subst hEl hEy hED
  have hrm := w_room hf
  refine z_cast (lv := [(0, .ref (q 0)), (1, .ref b)]) (ws := zOu (zy E) b F ++ (zCW (zy E) q a g t c o n S ++ Y)) (st := []) ?_ rfl rfl rfl
  refine z_aload_n h 1 rfl dL_undo_0 ?_
  refine z_iconst h (nI 0) (by decide +kernel) dL_undo_1 ?_
  refine z_aload_n h 0 rfl dL_undo_2 ?_
  refine z_wV h (As := []) (st := [.int (nI 0), .ref b]) (ws2 := zOu (zy E) b F ++ (ws2 ++ Y)) (r := some (.int x)) 0 (z_mid (zOu (zy E) b F) Y hc) gL_undo_X9_undo (q0 := 1) (ci := 7) ⟨rfl, by decide, by decide, by decide +kernel⟩ rfl rfl rfl ⟨by omega, by omega⟩ (Nat.le_of_ble_eq_true rfl) rfl rfl dL_undo_3 ?_ ⟨Nat.zero_le _, Nat.zero_le _⟩
  refine z_i2l h dL_undo_6 ?_
  refine z_last h 0 (j := 0) (ws' := zOu (zy E) b (vp_updL F 0 x.toInt64) ++ (ws2 ++ Y)) rfl (by decide) (by decide) rfl dL_undo_7 ?_
  refine z_goto h 14 dL_undo_8 (by decide) ?_
  refine z_iconst h (nI 0) (by decide +kernel) dL_undo_14 ?_
  exact w_iret h hf rfl rfl rfl ⟨Nat.zero_le _, Nat.zero_le _⟩ dL_undo_15
set_option maxHeartbeats 4000000 in
set_option maxRecDepth 100000 in
theorem w_undo_1 {l : Launch} {y : zY} {D : va_G} (b : Nat) (F : Nat → Int64) (Y : va_W) (q : Nat → Nat) (a : Nat → Nat → Nat) (g t c o n : Nat → Nat → Int32) (S : Nat → Nat → Nat → Int32) {fr1 lo1 : Nat} (hfl : fr1 ≤ 7 ∧ lo1 ≤ 200) {mc1 ms1 : Nat} (hm1 : mc1 ≤ 1 ∧ ms1 ≤ 6) (hc : zX l y D yX9_undo wsX9_undo fr1 lo1 mc1 ms1 [.ref (q 0)] (zCW y q a g t c o n S) "java/lang/IllegalStateException") : zW l y D yL_undo wsL_undo 8 230 1 6 [.ref (q 0), .ref b] (zOu y b F ++ (zCW y q a g t c o n S ++ Y)) (zOu y b F ++ (zCW y q a g t c o n S ++ Y)) (some (.int (nI 1))) := by
  refine w_start (own := RL) (cc := cL_undo) (maxL := 3) (ret := some .int) rfl (by decide +kernel) rfl (Nat.le_of_ble_eq_true rfl) rfl ?_
  intro E hEl hEy hED h hf htb
  subst hEl hEy hED
  have hrm := w_room hf
  refine z_cast (lv := [(0, .ref (q 0)), (1, .ref b)]) (ws := zOu (zy E) b F ++ (zCW (zy E) q a g t c o n S ++ Y)) (st := []) ?_ rfl rfl rfl
  refine z_aload_n h 1 rfl dL_undo_0 ?_
  refine z_iconst h (nI 0) (by decide +kernel) dL_undo_1 ?_
  refine z_aload_n h 0 rfl dL_undo_2 ?_
  refine x_catch h (As := []) (st := [.int (nI 0), .ref b]) (q0 := 1) (ci := 7) 0 (x_mid (zOu (zy E) b F) Y hc) htb [] ⟨0, 8, 11, 15⟩ [] rfl (fun z hz => absurd hz List.not_mem_nil) (by decide +kernel) (by decide) (List.mem_of_getElem? (i := 1) (by decide +kernel)) (by decide +kernel) gL_undo_X9_undo ⟨rfl, by decide, by decide, by decide +kernel⟩ rfl rfl rfl ⟨by omega, by omega⟩ (Nat.le_of_ble_eq_true rfl) rfl rfl dL_undo_3 ⟨by rw [hrm.1]; omega, by rw [hrm.2]; omega⟩ (fun q9 => ?_)
  refine z_cast (lv := [(0, .ref (q 0)), (1, .ref b)]) (ws := zOu (zy E) b F ++ (zCW (zy E) q a g t c o n S ++ Y)) (st := [.ref q9]) ?_ rfl rfl rfl
  refine z_astore_n h (by decide) (lv' := [(2, .ref q9), (0, .ref (q 0)), (1, .ref b)]) rfl dL_undo_11 ?_
  refine z_iconst h (nI 1) (by decide +kernel) dL_undo_12 ?_
  exact w_iret h hf rfl rfl rfl ⟨by omega, by omega⟩ dL_undo_13
