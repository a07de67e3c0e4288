/-! the words' letters; the order text's reader -/
theorem z_nret {E : zE} {own : String} {cc : ByteArray} {Ts : List Cond} {fr lo nL pc : Nat} {lv : List (Nat × Value)} {ws : va_W} (h : zC E own cc Ts fr lo nL) {rt : Option FieldType} {ws' : va_W} {r : Option Value} (hf : zF E rt ws' r) {x : Int32} {ty : FieldType} (hrt : rt = some ty) (hnz : narrow ty (.int x) = .int x) (hv : r = some (.int x)) (hws : ws = ws') (hd : decode cc pc = .ok (.ireturn, 1)) : Z E 0 0 lv ws pc [.int x] := by
  subst hws
  obtain ⟨l, y, D, p, e, R, s, m, args, below, meth, c, nL, A, Q⟩ := E
  obtain ⟨hx, hb, hml, hown, hts, hK, hA, hfr, hlo, hnl, hN, hV⟩ := h
  obtain ⟨hr, hlk, rfl⟩ := hf
  intro H locs ls hl hP hD hS
  subst hrt hv
  exact W.zret hx hb hr hnz (fun t ht hW => ⟨⟨rfl, by rw [ht]; exact hP⟩, hS.F ht⟩) hS.2.2 hd hlk
/-- the words: how long, their letters, how many numbers are behind -/
def wlN (w : Nat) : Nat := zWl.getD w 0
def wbN (w j : Nat) : Int32 := (zWb.getD w []).getD j 0
def nbN (w : Nat) : Nat := [1, 2, 2, 1, 4, 1, 1, 1, 0].getD w 0
theorem w9 {P : Nat → Prop} (h0 : P 0) (h1 : P 1) (h2 : P 2) (h3 : P 3) (h4 : P 4) (h5 : P 5) (h6 : P 6) (h7 : P 7) (h8 : P 8) : ∀ w, w < 9 → P w := by
  intro w hw
  rcases (show w = 0 ∨ w = 1 ∨ w = 2 ∨ w = 3 ∨ w = 4 ∨ w = 5 ∨ w = 6 ∨ w = 7 ∨ w = 8 by omega) with rfl | rfl | rfl | rfl | rfl | rfl | rfl | rfl | rfl <;> assumption
theorem wl_5 : ∀ w, w < 9 → 3 ≤ wlN w ∧ wlN w ≤ 5 := by decide
theorem wb_c : ∀ w, w < 9 → ∀ j, j < wlN w → ((wbN w j &&& nI 255).toUInt32 % 65536).toInt32 = wbN w j ∧ narrow .char (.int (wbN w j)) = .int (wbN w j) := by decide +kernel
theorem sh0 : ∀ w, w < 9 → nI (wlN w) >>> (nI 0 &&& 31) = nI (wlN w) := by decide +kernel
theorem hzO {w : Nat} (hw : w < 9) {y : zY} (A : Nat → Prop) (U : State) (H : Heap) (h : zV y A U H) : va_O "java/lang/String" (y.2 (20 + w)) A U H := (h.2.2.1.1 w hw).1
theorem hzC {w : Nat} (hw : w < 9) {y : zY} (A : Nat → Prop) (U : State) (H : Heap) (h : zV y A U H) : va_OF "java/lang/String" "coder" "B" (.int 0) (y.2 (20 + w)) A U H := (h.2.2.1.1 w hw).2.1
theorem hzB {w : Nat} (hw : w < 9) {y : zY} (A : Nat → Prop) (U : State) (H : Heap) (h : zV y A U H) : va_OF "java/lang/String" "value" "[B" (.ref (y.2 (40 + w))) (y.2 (20 + w)) A U H := (h.2.2.1.1 w hw).2.2.1
theorem hzT {w : Nat} (hw : w < 9) {y : zY} (A : Nat → Prop) (U : State) (H : Heap) (h : zV y A U H) : va_T .byte (y.2 (40 + w)) (wlN w) (fun j => .int (wbN w j)) A U H := (h.2.2.1.1 w hw).2.2.2
theorem hzCo {y : zY} (A : Nat → Prop) (U : State) (H : Heap) (h : zV y A U H) : va_Z "java/lang/String" "COMPACT_STRINGS" "Z" (.int 1) A U H := h.2.2.2.2.2.2.2.1
theorem hzQ {y : zY} (A : Nat → Prop) (U : State) (H : Heap) (h : zV y A U H) : va_Zq "jdk/internal/util/Preconditions" "SIOOBE_FORMATTER" "Ljava/util/function/BiFunction;" A U H := h.2.2.2.2.2.2.2.2.1
theorem hzW {y : zY} (A : Nat → Prop) (U : State) (H : Heap) (h : zV y A U H) : va_Z "SnowSites" "WORDS" "[LSnowSites$Word;" (.ref (y.2 10)) A U H := h.2.2.2.1
theorem hzWt {y : zY} (A : Nat → Prop) (U : State) (H : Heap) (h : zV y A U H) : va_T (.object "SnowSites$Word") (y.2 10) 9 (fun j => .ref (y.2 j)) A U H := h.2.2.2.2.1
theorem hzL {w : Nat} (hw : w < 9) {y : zY} (A : Nat → Prop) (U : State) (H : Heap) (h : zV y A U H) : va_OF "SnowSites$Word" "letters" "Ljava/lang/String;" (.ref (y.2 (20 + w))) (y.2 w) A U H := h.1 w hw
theorem nb_e : ∀ w, w < 9 → [1, 2, 2, 1, 4, 1, 1, 1, 0].getD w (0 : Int32) = nI (nbN w) := by decide +kernel
theorem hzN {w : Nat} (hw : w < 9) {y : zY} (A : Nat → Prop) (U : State) (H : Heap) (h : zV y A U H) : va_OF "SnowSites$Word" "numbersBehind" "I" (.int (nI (nbN w))) (y.2 w) A U H := by
  have h1 := (h.2.1.1 w (by exact hw)).2.2 ("SnowSites$Word", "numbersBehind", "I", [1, 2, 2, 1, 4, 1, 1, 1, 0]) (List.mem_cons_of_mem _ List.mem_cons_self)
  rw [← nb_e w hw]
  exact h1
set_option maxHeartbeats 4000000 in
set_option maxRecDepth 100000 in
/-- coder -/
theorem c_coder {l : Launch} {y : zY} {D : va_G} (w : Nat) (hw : w < 9) : zM l y D yJ0_coder_7d493 wsJ0_coder_7d493 0 0 [.ref (y.2 (20 + w))] [] [] (some (.int (nI 0))) := by
  refine z_start (own := RJ0) (cc := cJ0_coder_7d493) (maxL := 1) (ret := (some .byte)) rfl (by decide +kernel) rfl (Nat.le_of_ble_eq_true rfl) rfl ?_
  intro E hEl hEy hED h hf
  subst hEl hEy hED
  have hkR : 0 ≤ E.2.2.2.2.2.1.cells ∧ 0 ≤ E.2.2.2.2.2.1.slots := ⟨Nat.zero_le _, Nat.zero_le _⟩
  refine z_cast (lv := [(0, .ref ((zy E).2 (20 + w)))]) (ws := []) (st := []) ?_ rfl rfl rfl
  refine z_gets h hzCo (List.mem_of_getElem? (i := 1) (by decide +kernel)) dJ0_coder_7d493_0 ?_
  refine z_if_eq h 13 dJ0_coder_7d493_3 (by decide) (fun c => absurd c (by decide)) (fun _ => ?_)
  refine z_aload_n h 0 rfl dJ0_coder_7d493_6 ?_
  refine z_getOF h (hzC hw) (List.mem_of_getElem? (i := 2) (by decide +kernel)) dJ0_coder_7d493_7 ?_
  refine z_goto h 14 dJ0_coder_7d493_10 (by decide) ?_
  exact z_nret h hf rfl (by decide +kernel) rfl rfl dJ0_coder_7d493_14

set_option maxHeartbeats 4000000 in
set_option maxRecDepth 100000 in
/-- isLatin1 -/
theorem c_latin {l : Launch} {y : zY} {D : va_G} (w : Nat) (hw : w < 9) : zM l y D yJ0_isLatin1_aae02 wsJ0_isLatin1_aae02 0 0 [.ref (y.2 (20 + w))] [] [] (some (.int (nI 1))) := by
  refine z_start (own := RJ0) (cc := cJ0_isLatin1_aae02) (maxL := 1) (ret := (some .boolean)) rfl (by decide +kernel) rfl (Nat.le_of_ble_eq_true rfl) rfl ?_
  intro E hEl hEy hED h hf
  subst hEl hEy hED
  have hkR : 0 ≤ E.2.2.2.2.2.1.cells ∧ 0 ≤ E.2.2.2.2.2.1.slots := ⟨Nat.zero_le _, Nat.zero_le _⟩
  refine z_cast (lv := [(0, .ref ((zy E).2 (20 + w)))]) (ws := []) (st := []) ?_ rfl rfl rfl
  refine z_gets h hzCo (List.mem_of_getElem? (i := 1) (by decide +kernel)) dJ0_isLatin1_aae02_0 ?_
  refine z_if_eq h 17 dJ0_isLatin1_aae02_3 (by decide) (fun c => absurd c (by decide)) (fun _ => ?_)
  refine z_aload_n h 0 rfl dJ0_isLatin1_aae02_6 ?_
  refine z_getOF h (hzC hw) (List.mem_of_getElem? (i := 2) (by decide +kernel)) dJ0_isLatin1_aae02_7 ?_
  refine z_if_ne h 17 dJ0_isLatin1_aae02_10 (by decide) (fun c => absurd rfl c) (fun _ => ?_)
  refine z_iconst h (nI 1) (by decide +kernel) dJ0_isLatin1_aae02_13 ?_
  refine z_goto h 18 dJ0_isLatin1_aae02_14 (by decide) ?_
  exact z_nret h hf rfl (by decide +kernel) rfl rfl dJ0_isLatin1_aae02_18

set_option maxHeartbeats 4000000 in
set_option maxRecDepth 100000 in
/-- length -/
theorem c_length {l : Launch} {y : zY} {D : va_G} (w : Nat) (hw : w < 9) : zM l y D yJ0_length_8abf5 wsJ0_length_8abf5 1 20 [.ref (y.2 (20 + w))] [] [] (some (.int (nI (wlN w)))) := by
  refine z_start (own := RJ0) (cc := cJ0_length_8abf5) (maxL := 1) (ret := (some .int)) rfl (by decide +kernel) rfl (Nat.le_of_ble_eq_true rfl) rfl ?_
  intro E hEl hEy hED h hf
  subst hEl hEy hED
  have hkR : 0 ≤ E.2.2.2.2.2.1.cells ∧ 0 ≤ E.2.2.2.2.2.1.slots := ⟨Nat.zero_le _, Nat.zero_le _⟩
  refine z_cast (lv := [(0, .ref ((zy E).2 (20 + w)))]) (ws := []) (st := []) ?_ rfl rfl rfl
  refine z_aload_n h 0 rfl dJ0_length_8abf5_0 ?_
  refine z_getOF h (hzB hw) (List.mem_of_getElem? (i := 1) (by decide +kernel)) dJ0_length_8abf5_1 ?_
  refine z_tlen h (hzT hw) (v := nI (wlN w)) rfl dJ0_length_8abf5_4 ?_
  refine z_aload_n h 0 rfl dJ0_length_8abf5_5 ?_
  refine z_oV h (As := []) (st := [.int (nI (wlN w))]) (ws2 := []) (r := some (.int (nI 0))) 0 (c_coder w hw) (hzO hw) gJ0_length_8abf5_J0_coder_7d493 (by decide +kernel) rfl ⟨by decide, by decide⟩ (Nat.le_of_ble_eq_true rfl) rfl rfl dJ0_length_8abf5_6 ?_ hkR
  refine z_ishr h dJ0_length_8abf5_9 ?_
  refine z_top (nI (wlN w)) (sh0 w hw) ?_
  exact z_iret h hf rfl rfl rfl dJ0_length_8abf5_10

set_option maxHeartbeats 4000000 in
set_option maxRecDepth 100000 in
/-- Preconditions.checkIndex, within -/
theorem c_J3n {l : Launch} {y : zY} {D : va_G} (i n : Nat) (hi : i < n) (hn : n < 2 ^ 31) : zM l y D yJ3_checkIndex_8e157 wsJ3_checkIndex_8e157 0 0 [.int (nI i), .int (nI n), .null] [] [] (some (.int (nI i))) := by
  refine z_start (own := RJ3) (cc := cJ3_checkIndex_8e157) (maxL := 3) (ret := (some .int)) rfl (by decide +kernel) rfl (Nat.le_of_ble_eq_true rfl) rfl ?_
  intro E hEl hEy hED h hf
  subst hEl hEy hED
  have hkR : 0 ≤ E.2.2.2.2.2.1.cells ∧ 0 ≤ E.2.2.2.2.2.1.slots := ⟨Nat.zero_le _, Nat.zero_le _⟩
  refine z_cast (lv := [(0, .int (nI i)), (1, .int (nI n)), (2, .null)]) (ws := []) (st := []) ?_ rfl rfl rfl
  refine z_iload_n h 0 rfl dJ3_checkIndex_8e157_0 ?_
  refine z_if_lt h 9 dJ3_checkIndex_8e157_1 (by decide) (fun c => absurd c (nI_pos (by omega))) (fun _ => ?_)
  refine z_iload_n h 0 rfl dJ3_checkIndex_8e157_4 ?_
  refine z_iload_n h 1 rfl dJ3_checkIndex_8e157_5 ?_
  refine z_icmp_lt h 16 dJ3_checkIndex_8e157_6 (by decide) (fun _ => ?_) (fun c => absurd (nI_lt hi hn) c)
  refine z_iload_n h 0 rfl dJ3_checkIndex_8e157_16 ?_
  exact z_iret h hf rfl rfl rfl dJ3_checkIndex_8e157_17

set_option maxHeartbeats 4000000 in
set_option maxRecDepth 100000 in
/-- Preconditions.checkIndex, within -/
theorem c_J3r {l : Launch} {y : zY} {D : va_G} (t : Nat) (i n : Nat) (hi : i < n) (hn : n < 2 ^ 31) : zM l y D yJ3_checkIndex_8e157 wsJ3_checkIndex_8e157 0 0 [.int (nI i), .int (nI n), .ref t] [] [] (some (.int (nI i))) := by
  refine z_start (own := RJ3) (cc := cJ3_checkIndex_8e157) (maxL := 3) (ret := (some .int)) rfl (by decide +kernel) rfl (Nat.le_of_ble_eq_true rfl) rfl ?_
  intro E hEl hEy hED h hf
  subst hEl hEy hED
  have hkR : 0 ≤ E.2.2.2.2.2.1.cells ∧ 0 ≤ E.2.2.2.2.2.1.slots := ⟨Nat.zero_le _, Nat.zero_le _⟩
  refine z_cast (lv := [(0, .int (nI i)), (1, .int (nI n)), (2, .ref t)]) (ws := []) (st := []) ?_ rfl rfl rfl
  refine z_iload_n h 0 rfl dJ3_checkIndex_8e157_0 ?_
  refine z_if_lt h 9 dJ3_checkIndex_8e157_1 (by decide) (fun c => absurd c (nI_pos (by omega))) (fun _ => ?_)
  refine z_iload_n h 0 rfl dJ3_checkIndex_8e157_4 ?_
  refine z_iload_n h 1 rfl dJ3_checkIndex_8e157_5 ?_
  refine z_icmp_lt h 16 dJ3_checkIndex_8e157_6 (by decide) (fun _ => ?_) (fun c => absurd (nI_lt hi hn) c)
  refine z_iload_n h 0 rfl dJ3_checkIndex_8e157_16 ?_
  exact z_iret h hf rfl rfl rfl dJ3_checkIndex_8e157_17

set_option maxHeartbeats 4000000 in
set_option maxRecDepth 100000 in
/-- String.checkIndex, within -/
theorem c_JK {l : Launch} {y : zY} {D : va_G} (i n : Nat) (hi : i < n) (hn : n < 2 ^ 31) : zM l y D yJ0_checkIndex_df160 wsJ0_checkIndex_df160 1 22 [.int (nI i), .int (nI n)] [] [] (none) := by
  refine z_start (own := RJ0) (cc := cJ0_checkIndex_df160) (maxL := 2) (ret := none) rfl (by decide +kernel) rfl (Nat.le_of_ble_eq_true rfl) rfl ?_
  intro E hEl hEy hED h hf
  subst hEl hEy hED
  have hkR : 0 ≤ E.2.2.2.2.2.1.cells ∧ 0 ≤ E.2.2.2.2.2.1.slots := ⟨Nat.zero_le _, Nat.zero_le _⟩
  refine z_cast (lv := [(0, .int (nI i)), (1, .int (nI n))]) (ws := []) (st := []) ?_ rfl rfl rfl
  refine z_iload_n h 0 rfl dJ0_checkIndex_df160_0 ?_
  refine z_iload_n h 1 rfl dJ0_checkIndex_df160_1 ?_
  refine z_getsq h hzQ (List.mem_of_getElem? (i := 1) (by decide +kernel)) dJ0_checkIndex_df160_2 (fun v hv => ?_)
  rcases hv with rfl | ⟨t, rfl⟩
  · refine z_wS h (As := [.int (nI i), .int (nI n), .null]) (st := []) (ws2 := []) (r := some (.int (nI i))) 3 (c_J3n i n hi hn) gJ0_checkIndex_df160_J3_checkIndex_8e157 (by decide +kernel) rfl ⟨by decide, by decide⟩ (Nat.le_of_ble_eq_true rfl) rfl rfl dJ0_checkIndex_df160_5 ?_ hkR
    refine z_pop h dJ0_checkIndex_df160_8 rfl ?_
    exact z_vret h hf rfl rfl rfl dJ0_checkIndex_df160_9
  · refine z_wS h (As := [.int (nI i), .int (nI n), .ref t]) (st := []) (ws2 := []) (r := some (.int (nI i))) 3 (c_J3r t i n hi hn) gJ0_checkIndex_df160_J3_checkIndex_8e157 (by decide +kernel) rfl ⟨by decide, by decide⟩ (Nat.le_of_ble_eq_true rfl) rfl rfl dJ0_checkIndex_df160_5 ?_ hkR
    refine z_pop h dJ0_checkIndex_df160_8 rfl ?_
    exact z_vret h hf rfl rfl rfl dJ0_checkIndex_df160_9

set_option maxHeartbeats 4000000 in
set_option maxRecDepth 100000 in
/-- StringLatin1.charAt -/
theorem c_J1 {l : Launch} {y : zY} {D : va_G} (w j : Nat) (hw : w < 9) (hj : j < wlN w) : zM l y D yJ1_charAt_3b067 wsJ1_charAt_3b067 2 43 [.ref (y.2 (40 + w)), .int (nI j)] [] [] (some (.int (wbN w j))) := by
  refine z_start (own := RJ1) (cc := cJ1_charAt_3b067) (maxL := 2) (ret := (some .char)) rfl (by decide +kernel) rfl (Nat.le_of_ble_eq_true rfl) rfl ?_
  intro E hEl hEy hED h hf
  subst hEl hEy hED
  have hkR : 0 ≤ E.2.2.2.2.2.1.cells ∧ 0 ≤ E.2.2.2.2.2.1.slots := ⟨Nat.zero_le _, Nat.zero_le _⟩
  have hl5 := (wl_5 w hw).2
  refine z_cast (lv := [(0, .ref ((zy E).2 (40 + w))), (1, .int (nI j))]) (ws := []) (st := []) ?_ rfl rfl rfl
  refine z_iload_n h 1 rfl dJ1_charAt_3b067_0 ?_
  refine z_aload_n h 0 rfl dJ1_charAt_3b067_1 ?_
  refine z_tlen h (hzT hw) (v := nI (wlN w)) rfl dJ1_charAt_3b067_2 ?_
  refine z_wS h (As := [.int (nI j), .int (nI (wlN w))]) (st := []) (ws2 := []) (r := none) 2 (c_JK j (wlN w) hj (by omega)) gJ1_charAt_3b067_J0_checkIndex_df160 (by decide +kernel) rfl ⟨by decide, by decide⟩ (Nat.le_of_ble_eq_true rfl) rfl rfl dJ1_charAt_3b067_3 ?_ hkR
  refine z_aload_n h 0 rfl dJ1_charAt_3b067_6 ?_
  refine z_iload_n h 1 rfl dJ1_charAt_3b067_7 ?_
  refine z_tb h (hzT hw) j rfl hj (by omega) rfl dJ1_charAt_3b067_8 ?_
  refine z_sipush h (nI 255) (by decide +kernel) dJ1_charAt_3b067_9 ?_
  refine z_iand h dJ1_charAt_3b067_12 ?_
  refine z_i2c h (wbN w j) (wb_c w hw j hj).1 dJ1_charAt_3b067_13 ?_
  exact z_nret h hf rfl (wb_c w hw j hj).2 rfl rfl dJ1_charAt_3b067_14

set_option maxHeartbeats 4000000 in
set_option maxRecDepth 100000 in
/-- charAt -/
theorem c_charAt {l : Launch} {y : zY} {D : va_G} (w j : Nat) (hw : w < 9) (hj : j < wlN w) : zM l y D yJ0_charAt_5068e wsJ0_charAt_5068e 3 64 [.ref (y.2 (20 + w)), .int (nI j)] [] [] (some (.int (wbN w j))) := by
  refine z_start (own := RJ0) (cc := cJ0_charAt_5068e) (maxL := 2) (ret := (some .char)) rfl (by decide +kernel) rfl (Nat.le_of_ble_eq_true rfl) rfl ?_
  intro E hEl hEy hED h hf
  subst hEl hEy hED
  have hkR : 0 ≤ E.2.2.2.2.2.1.cells ∧ 0 ≤ E.2.2.2.2.2.1.slots := ⟨Nat.zero_le _, Nat.zero_le _⟩
  refine z_cast (lv := [(0, .ref ((zy E).2 (20 + w))), (1, .int (nI j))]) (ws := []) (st := []) ?_ rfl rfl rfl
  refine z_aload_n h 0 rfl dJ0_charAt_5068e_0 ?_
  refine z_oV h (As := []) (st := []) (ws2 := []) (r := some (.int (nI 1))) 0 (c_latin w hw) (hzO hw) gJ0_charAt_5068e_J0_isLatin1_aae02 (by decide +kernel) rfl ⟨by decide, by decide⟩ (Nat.le_of_ble_eq_true rfl) rfl rfl dJ0_charAt_5068e_1 ?_ hkR
  refine z_if_eq h 16 dJ0_charAt_5068e_4 (by decide) (fun c => absurd c (by decide +kernel)) (fun _ => ?_)
  refine z_aload_n h 0 rfl dJ0_charAt_5068e_7 ?_
  refine z_getOF h (hzB hw) (List.mem_of_getElem? (i := 1) (by decide +kernel)) dJ0_charAt_5068e_8 ?_
  refine z_iload_n h 1 rfl dJ0_charAt_5068e_11 ?_
  refine z_wS h (As := [.ref ((zy E).2 (40 + w)), .int (nI j)]) (st := []) (ws2 := []) (r := some (.int (wbN w j))) 2 (c_J1 w j hw hj) gJ0_charAt_5068e_J1_charAt_3b067 (by decide +kernel) rfl ⟨by decide, by decide⟩ (Nat.le_of_ble_eq_true rfl) rfl rfl dJ0_charAt_5068e_12 ?_ hkR
  exact z_nret h hf rfl (wb_c w hw j hj).2 rfl rfl dJ0_charAt_5068e_15
