def zTw (y : zY) (a b n : Nat) (f f' : Nat → Int32) : va_W := [(a, .inl (y.1 0, n, .inl f)), (b, .inl (y.1 0, n, .inl f'))]
def zTo (y : zY) (q : Nat → Nat) (g : Nat → Nat → Int32) : va_W := [(q 0, .inr (5, [.int (g 0 6), .ref (q 1), .ref (q 2), .ref (q 3)])), (q 1, .inl (y.1 0, 5, .inl (g 9))), (q 2, .inl (y.1 0, 5, .inl (g 10))), (q 3, .inl (y.1 0, 5, .inl (g 11)))]
def zBa (y : zY) (q : Nat → Nat) (g : Nat → Nat → Int32) : va_W := [(q 0, .inr (0, [.int (g 0 7), .ref (q 1)])), (q 1, .inl (y.1 0, 60, .inl (g 12)))]
def wi (v a b : Int32) : Int32 := if v < a then nI 0 else if b < v then nI 0 else nI 1
theorem wi_nz (v a b : Int32) : narrow .boolean (.int (wi v a b)) = .int (wi v a b) := by
  unfold wi
  split
  · rfl
  · split <;> rfl
def isS (x : Int32) : Int32 := wi x (nI 0) (nI 7)
def zt (g : Nat → Nat → Int32) : Nat := (g 0 6).toNatClampNeg
def zb (g : Nat → Nat → Int32) : Nat := (g 0 7).toNatClampNeg
/-- what is as it should be of a state's tools -/
def okT (g : Nat → Nat → Int32) : Prop := g 0 6 = nI (zt g) ∧ zt g ≤ 5
def mtc (sp u : Int32) : Int32 := if nI 1 ≤ sp then (u + sp - nI 1) / sp else nI 0
theorem z_ne0 {x : Int32} (h : nI 1 ≤ x) : ¬ x = 0 := by
  intro e
  subst e
  exact absurd h (by decide +kernel)
def usG (g : Nat → Nat → Int32) (t : Nat) (m : Int32) : Nat → Nat → Int32 := va_up (va_up g 10 (upd (g 10) t (g 10 t - m))) 11 (upd (g 11) t (g 11 t + m))
def rsM (L : Nat → Int32) : Nat → Nat → Int32
  | 0 => L
  | t + 1 => upd (rsM L t) t (nI 60)
def rsG (g : Nat → Nat → Int32) : Nat → Nat → Int32 := va_up g 10 (rsM (g 10) (zt g))
def taG (g : Nat → Nat → Int32) (v : Int32) : Nat → Nat → Int32 := va_up (va_up (va_up (va_up g 9 (upd (g 9) (zt g) v)) 10 (upd (g 10) (zt g) (nI 60))) 11 (upd (g 11) (zt g) (nI 0))) 0 (upd (g 0) 6 (nI (zt g + 1)))
def cpTo (t g : Nat → Nat → Int32) : Nat → Nat → Int32 := va_up (va_up (va_up (va_up t 0 (upd (t 0) 6 (g 0 6))) 9 (g 9)) 10 (g 10)) 11 (g 11)
def cpBa (t g : Nat → Nat → Int32) : Nat → Nat → Int32 := va_up (va_up t 0 (upd (t 0) 7 (g 0 7))) 12 (g 12)
def baG (g : Nat → Nat → Int32) (a b c : Int32) : Nat → Nat → Int32 := va_up (va_up g 12 (upd (upd (upd (g 12) (zb g * 3) a) (zb g * 3 + 1) b) (zb g * 3 + 2) c)) 0 (upd (g 0) 7 (nI (zb g + 1)))
/-- the first of a ballot's last k sites that stands -/
def chR (ch st : Nat → Int32) (b : Nat) : Nat → Int32
  | 0 => (-1)
  | k + 1 => if isS (ch (b * 3 + (2 - k))) = 0 then chR ch st b k else if st (ch (b * 3 + (2 - k))).toNatClampNeg = 0 then chR ch st b k else ch (b * 3 + (2 - k))
theorem chR_s (ch st : Nat → Int32) (b i : Nat) (hi : i < 3) : chR ch st b (3 - i) = if isS (ch (b * 3 + i)) = 0 then chR ch st b (3 - (i + 1)) else if st (ch (b * 3 + i)).toNatClampNeg = 0 then chR ch st b (3 - (i + 1)) else ch (b * 3 + i) := by
  have h1 : 3 - i = (3 - (i + 1)) + 1 := by omega
  rw [h1]
  show (if isS (ch (b * 3 + (2 - (3 - (i + 1))))) = 0 then _ else _) = _
  have h2 : 2 - (3 - (i + 1)) = i := by omega
  rw [h2]
theorem isS_in {x : Int32} (h : ¬ isS x = 0) : x = nI x.toNatClampNeg ∧ x.toNatClampNeg < 8 := by
  unfold isS wi at h
  split at h
  · exact absurd rfl h
  · split at h
    · exact absurd rfl h
    · rename_i h1 h2
      have h0 : ¬ x < 0 := h1
      refine ⟨z_nn h0, z_ltn (by decide) h0 ?_⟩
      intro h3
      obtain ⟨j, hj, rfl⟩ := nI_of h0
      rw [nI_leI (by decide) hj] at h3
      rw [nI_ltI (by decide) hj] at h2
      omega
set_option maxHeartbeats 4000000 in
set_option maxRecDepth 100000 in
/-- isWithin -/
theorem c_X9_isWithin {l : Launch} {y : zY} {D : va_G} (v a b : Int32) : zM l y D yX9_isWithin wsX9_isWithin 0 0 [.int v, .int a, .int b] ([]) ([]) (some (.int (wi v a b))) := by
  refine z_start (own := RX9) (cc := cX9_isWithin) (maxL := 3) (ret := (some .boolean)) rfl (by decide +kernel) rfl (Nat.le_of_ble_eq_true rfl) rfl ?_
  intro E hEl hEy hED h hf
  subst hEl hEy hED
  have hkR : 0 ≤ E.2.2.2.2.2.1.cells ∧ 0 ≤ E.2.2.2.2.2.1.slots := ⟨Nat.zero_le _, Nat.zero_le _⟩
  refine z_cast (lv := [(0, .int v), (1, .int a), (2, .int b)]) (ws := ([])) (st := []) ?_ rfl rfl rfl
  refine z_iload_n h 0 rfl dX9_isWithin_0 ?_
  refine z_iload_n h 1 rfl dX9_isWithin_1 ?_
  refine z_icmp_lt h 14 dX9_isWithin_2 (by decide) (fun c_2 => ?_) (fun c_2 => ?_)
  · refine z_iconst h (nI 0) (by decide +kernel) dX9_isWithin_14 ?_
    exact z_zret h hf rfl rfl (by first | rfl | ((try simp only [wi, if_pos c_2]) <;> (try rfl))) rfl dX9_isWithin_15
  · refine z_iload_n h 0 rfl dX9_isWithin_5 ?_
    refine z_iload_n h 2 rfl dX9_isWithin_6 ?_
    refine z_icmp_gt h 14 dX9_isWithin_7 (by decide) (fun c_7 => ?_) (fun c_7 => ?_)
    · refine z_iconst h (nI 0) (by decide +kernel) dX9_isWithin_14 ?_
      exact z_zret h hf rfl rfl (by first | rfl | ((try simp only [wi, if_neg c_2, if_pos c_7]) <;> (try rfl))) rfl dX9_isWithin_15
    · refine z_iconst h (nI 1) (by decide +kernel) dX9_isWithin_10 ?_
      refine z_goto h 15 dX9_isWithin_11 (by decide) ?_
      exact z_zret h hf rfl rfl (by first | rfl | ((try simp only [wi, if_neg c_2, if_neg c_7]) <;> (try rfl))) rfl dX9_isWithin_15

set_option maxHeartbeats 4000000 in
set_option maxRecDepth 100000 in
/-- isSite -/
theorem c_X9_isSite {l : Launch} {y : zY} {D : va_G} (x : Int32) : zM l y D yX9_isSite wsX9_isSite 1 22 [.int x] ([]) ([]) (some (.int (isS x))) := by
  refine z_start (own := RX9) (cc := cX9_isSite) (maxL := 1) (ret := (some .boolean)) rfl (by decide +kernel) rfl (Nat.le_of_ble_eq_true rfl) rfl ?_
  intro E hEl hEy hED h hf
  subst hEl hEy hED
  have hkR : 0 ≤ E.2.2.2.2.2.1.cells ∧ 0 ≤ E.2.2.2.2.2.1.slots := ⟨Nat.zero_le _, Nat.zero_le _⟩
  refine z_cast (lv := [(0, .int x)]) (ws := ([])) (st := []) ?_ rfl rfl rfl
  refine z_iload_n h 0 rfl dX9_isSite_0 ?_
  refine z_iconst h (nI 0) (by decide +kernel) dX9_isSite_1 ?_
  refine z_bipush h (nI 7) (by decide +kernel) dX9_isSite_2 ?_
  refine z_callS h (As := [.int x, .int (nI 0), .int (nI 7)]) (st := []) (ws2 := []) (B := []) (B' := []) (r := some (.int (wi x (nI 0) (nI 7)))) 3 (c_X9_isWithin x (nI 0) (nI 7)) gX9_isSite_X9_isWithin (by decide +kernel) rfl ⟨by decide, by decide⟩ [] rfl (by decide) rfl (Nat.le_of_ble_eq_true rfl) rfl rfl dX9_isSite_4 ?_ hkR
  exact z_zret h hf rfl (wi_nz _ _ _) rfl rfl dX9_isSite_7

set_option maxHeartbeats 4000000 in
set_option maxRecDepth 100000 in
/-- copyRow -/
theorem c_X9_copyRow {l : Launch} {y : zY} {D : va_G} (a b n : Nat) (f f' : Nat → Int32) (hn : n < 2 ^ 31) : zM l y D yX9_copyRow wsX9_copyRow 1 80 [.ref a, .ref b] (zTw y a b n f f') (zTw y a b n f f) (none) := by
  refine z_start (own := RX9) (cc := cX9_copyRow) (maxL := 2) (ret := none) rfl (by decide +kernel) rfl (Nat.le_of_ble_eq_true rfl) rfl ?_
  intro E hEl hEy hED h hf
  subst hEl hEy hED
  have hkR : 0 ≤ E.2.2.2.2.2.1.cells ∧ 0 ≤ E.2.2.2.2.2.1.slots := ⟨Nat.zero_le _, Nat.zero_le _⟩
  refine z_cast (lv := [(0, .ref a), (1, .ref b)]) (ws := (zTw (zy E) a b n f f')) (st := []) ?_ rfl rfl rfl
  refine z_aload_n h 0 rfl dX9_copyRow_0 ?_
  refine z_iconst h (nI 0) (by decide +kernel) dX9_copyRow_1 ?_
  refine z_aload_n h 1 rfl dX9_copyRow_2 ?_
  refine z_iconst h (nI 0) (by decide +kernel) dX9_copyRow_3 ?_
  refine z_aload_n h 0 rfl dX9_copyRow_4 ?_
  refine z_alen h 0 0 (nI n) rfl rfl rfl dX9_copyRow_5 ?_
  refine z_aload_n h 1 rfl dX9_copyRow_6 ?_
  refine z_alen h 1 0 (nI n) rfl rfl rfl dX9_copyRow_7 ?_
  refine z_min h (List.mem_of_getElem? (i := 1) (by decide +kernel)) (List.mem_of_getElem? (i := 2) (by decide +kernel)) (List.mem_of_getElem? (i := 3) (by decide +kernel)) (List.mem_of_getElem? (i := 4) (by decide +kernel)) ⟨by decide, Nat.le_of_ble_eq_true rfl⟩ hkR dX9_copyRow_8 ?_
  refine z_top (nI n) (z_minE n) ?_
  refine z_copy h 0 1 (f := f) (g := f') 0 0 n (ws' := zTw (zy E) a b n f (va_cpy f f' 0 0 n)) rfl rfl rfl rfl rfl rfl rfl (by omega) (by omega) hn hn (List.mem_of_getElem? (i := 5) (by decide +kernel)) (List.mem_of_getElem? (i := 6) (by decide +kernel)) (List.mem_of_getElem? (i := 7) (by decide +kernel)) (List.mem_of_getElem? (i := 8) (by decide +kernel)) ⟨by decide, Nat.le_of_ble_eq_true rfl⟩ rfl dX9_copyRow_11 ?_
  refine z_arrE 1 (g := f) (ws' := zTw (zy E) a b n f f) z_cpyE rfl rfl ?_
  exact z_vret h hf rfl rfl rfl dX9_copyRow_14

theorem iX4_copyFrom_X4 : ∀ w ∈ u_ws RX4 TX4 7, w ∈ wsX4_copyFrom := by decide +kernel
set_option maxHeartbeats 4000000 in
set_option maxRecDepth 100000 in
/-- Stacks.copyFrom -/
theorem c_X4_copyFrom {l : Launch} {y : zY} {D : va_G} (q : Nat → Nat) (t : Nat → Nat → Int32) (p : Nat → Nat) (g : Nat → Nat → Int32) : zM l y D yX4_copyFrom wsX4_copyFrom 2 101 [.ref (q 0), .ref (p 0)] (zSt y q t ++ zSt y p g) (zSt y q (cpSt t g) ++ zSt y p g) (none) := by
  refine z_start (own := RX4) (cc := cX4_copyFrom) (maxL := 2) (ret := none) rfl (by decide +kernel) rfl (Nat.le_of_ble_eq_true rfl) rfl ?_
  intro E hEl hEy hED h hf
  subst hEl hEy hED
  have hkR : 0 ≤ E.2.2.2.2.2.1.cells ∧ 0 ≤ E.2.2.2.2.2.1.slots := ⟨Nat.zero_le _, Nat.zero_le _⟩
  refine z_cast (lv := [(0, .ref (q 0)), (1, .ref (p 0))]) (ws := (zSt (zy E) q t ++ zSt (zy E) p g)) (st := []) ?_ rfl rfl rfl
  refine z_aload_n h 1 rfl dX4_copyFrom_0 ?_
  refine z_get h 8 3 0 (v := .ref (p 1)) rfl rfl iX4_copyFrom_X4 (by decide) (List.mem_of_getElem? (i := 1) (by decide +kernel)) rfl rfl dX4_copyFrom_1 ?_
  refine z_aload_n h 0 rfl dX4_copyFrom_4 ?_
  refine z_get h 0 3 0 (v := .ref (q 1)) rfl rfl iX4_copyFrom_X4 (by decide) (List.mem_of_getElem? (i := 1) (by decide +kernel)) rfl rfl dX4_copyFrom_5 ?_
  refine z_callSN h (As := [.ref (p 1), .ref (q 1)]) (st := []) (ws2 := zSt (zy E) q (va_up t 2 (g 2)) ++ zSt (zy E) p g) (B := zTw (zy E) (p 1) (q 1) 8 (g 2) (t 2)) (B' := zTw (zy E) (p 1) (q 1) 8 (g 2) (g 2)) (r := none) 2 (c_X9_copyRow (p 1) (q 1) 8 (g 2) (t 2) (by decide)) gX4_copyFrom_X9_copyRow_n33 (host := "SnowSites") (by decide +kernel) (List.mem_of_getElem? (i := 8) (by decide +kernel)) (List.mem_of_getElem? (i := 7) (by decide +kernel)) (by decide +kernel) rfl ⟨by decide, by decide⟩ [9, 1] rfl (by decide) rfl (Nat.le_of_ble_eq_true rfl) rfl rfl dX4_copyFrom_8 ?_ hkR
  refine z_aload_n h 1 rfl dX4_copyFrom_11 ?_
  refine z_get h 8 3 1 (v := .ref (p 2)) rfl rfl iX4_copyFrom_X4 (by decide) (List.mem_of_getElem? (i := 2) (by decide +kernel)) rfl rfl dX4_copyFrom_12 ?_
  refine z_aload_n h 0 rfl dX4_copyFrom_15 ?_
  refine z_get h 0 3 1 (v := .ref (q 2)) rfl rfl iX4_copyFrom_X4 (by decide) (List.mem_of_getElem? (i := 2) (by decide +kernel)) rfl rfl dX4_copyFrom_16 ?_
  refine z_callSN h (As := [.ref (p 2), .ref (q 2)]) (st := []) (ws2 := zSt (zy E) q (va_up (va_up t 2 (g 2)) 3 (g 3)) ++ zSt (zy E) p g) (B := zTw (zy E) (p 2) (q 2) 8 (g 3) (t 3)) (B' := zTw (zy E) (p 2) (q 2) 8 (g 3) (g 3)) (r := none) 2 (c_X9_copyRow (p 2) (q 2) 8 (g 3) (t 3) (by decide)) gX4_copyFrom_X9_copyRow_n33 (host := "SnowSites") (by decide +kernel) (List.mem_of_getElem? (i := 8) (by decide +kernel)) (List.mem_of_getElem? (i := 7) (by decide +kernel)) (by decide +kernel) rfl ⟨by decide, by decide⟩ [10, 2] rfl (by decide) rfl (Nat.le_of_ble_eq_true rfl) rfl rfl dX4_copyFrom_19 ?_ hkR
  refine z_aload_n h 1 rfl dX4_copyFrom_22 ?_
  refine z_get h 8 3 2 (v := .ref (p 3)) rfl rfl iX4_copyFrom_X4 (by decide) (List.mem_of_getElem? (i := 3) (by decide +kernel)) rfl rfl dX4_copyFrom_23 ?_
  refine z_aload_n h 0 rfl dX4_copyFrom_26 ?_
  refine z_get h 0 3 2 (v := .ref (q 3)) rfl rfl iX4_copyFrom_X4 (by decide) (List.mem_of_getElem? (i := 3) (by decide +kernel)) rfl rfl dX4_copyFrom_27 ?_
  refine z_callSN h (As := [.ref (p 3), .ref (q 3)]) (st := []) (ws2 := zSt (zy E) q (va_up (va_up (va_up t 2 (g 2)) 3 (g 3)) 4 (g 4)) ++ zSt (zy E) p g) (B := zTw (zy E) (p 3) (q 3) 8 (g 4) (t 4)) (B' := zTw (zy E) (p 3) (q 3) 8 (g 4) (g 4)) (r := none) 2 (c_X9_copyRow (p 3) (q 3) 8 (g 4) (t 4) (by decide)) gX4_copyFrom_X9_copyRow_n33 (host := "SnowSites") (by decide +kernel) (List.mem_of_getElem? (i := 8) (by decide +kernel)) (List.mem_of_getElem? (i := 7) (by decide +kernel)) (by decide +kernel) rfl ⟨by decide, by decide⟩ [11, 3] rfl (by decide) rfl (Nat.le_of_ble_eq_true rfl) rfl rfl dX4_copyFrom_30 ?_ hkR
  refine z_aload_n h 1 rfl dX4_copyFrom_33 ?_
  refine z_get h 8 3 3 (v := .ref (p 4)) rfl rfl iX4_copyFrom_X4 (by decide) (List.mem_of_getElem? (i := 4) (by decide +kernel)) rfl rfl dX4_copyFrom_34 ?_
  refine z_aload_n h 0 rfl dX4_copyFrom_37 ?_
  refine z_get h 0 3 3 (v := .ref (q 4)) rfl rfl iX4_copyFrom_X4 (by decide) (List.mem_of_getElem? (i := 4) (by decide +kernel)) rfl rfl dX4_copyFrom_38 ?_
  refine z_callSN h (As := [.ref (p 4), .ref (q 4)]) (st := []) (ws2 := zSt (zy E) q (va_up (va_up (va_up (va_up t 2 (g 2)) 3 (g 3)) 4 (g 4)) 5 (g 5)) ++ zSt (zy E) p g) (B := zTw (zy E) (p 4) (q 4) 8 (g 5) (t 5)) (B' := zTw (zy E) (p 4) (q 4) 8 (g 5) (g 5)) (r := none) 2 (c_X9_copyRow (p 4) (q 4) 8 (g 5) (t 5) (by decide)) gX4_copyFrom_X9_copyRow_n33 (host := "SnowSites") (by decide +kernel) (List.mem_of_getElem? (i := 8) (by decide +kernel)) (List.mem_of_getElem? (i := 7) (by decide +kernel)) (by decide +kernel) rfl ⟨by decide, by decide⟩ [12, 4] rfl (by decide) rfl (Nat.le_of_ble_eq_true rfl) rfl rfl dX4_copyFrom_41 ?_ hkR
  refine z_aload_n h 1 rfl dX4_copyFrom_44 ?_
  refine z_get h 8 3 4 (v := .ref (p 5)) rfl rfl iX4_copyFrom_X4 (by decide) (List.mem_of_getElem? (i := 5) (by decide +kernel)) rfl rfl dX4_copyFrom_45 ?_
  refine z_aload_n h 0 rfl dX4_copyFrom_48 ?_
  refine z_get h 0 3 4 (v := .ref (q 5)) rfl rfl iX4_copyFrom_X4 (by decide) (List.mem_of_getElem? (i := 5) (by decide +kernel)) rfl rfl dX4_copyFrom_49 ?_
  refine z_callSN h (As := [.ref (p 5), .ref (q 5)]) (st := []) (ws2 := zSt (zy E) q (va_up (va_up (va_up (va_up (va_up t 2 (g 2)) 3 (g 3)) 4 (g 4)) 5 (g 5)) 6 (g 6)) ++ zSt (zy E) p g) (B := zTw (zy E) (p 5) (q 5) 48 (g 6) (t 6)) (B' := zTw (zy E) (p 5) (q 5) 48 (g 6) (g 6)) (r := none) 2 (c_X9_copyRow (p 5) (q 5) 48 (g 6) (t 6) (by decide)) gX4_copyFrom_X9_copyRow_n33 (host := "SnowSites") (by decide +kernel) (List.mem_of_getElem? (i := 8) (by decide +kernel)) (List.mem_of_getElem? (i := 7) (by decide +kernel)) (by decide +kernel) rfl ⟨by decide, by decide⟩ [13, 5] rfl (by decide) rfl (Nat.le_of_ble_eq_true rfl) rfl rfl dX4_copyFrom_52 ?_ hkR
  refine z_aload_n h 1 rfl dX4_copyFrom_55 ?_
  refine z_get h 8 3 5 (v := .ref (p 6)) rfl rfl iX4_copyFrom_X4 (by decide) (List.mem_of_getElem? (i := 6) (by decide +kernel)) rfl rfl dX4_copyFrom_56 ?_
  refine z_aload_n h 0 rfl dX4_copyFrom_59 ?_
  refine z_get h 0 3 5 (v := .ref (q 6)) rfl rfl iX4_copyFrom_X4 (by decide) (List.mem_of_getElem? (i := 6) (by decide +kernel)) rfl rfl dX4_copyFrom_60 ?_
  refine z_callSN h (As := [.ref (p 6), .ref (q 6)]) (st := []) (ws2 := zSt (zy E) q (va_up (va_up (va_up (va_up (va_up (va_up t 2 (g 2)) 3 (g 3)) 4 (g 4)) 5 (g 5)) 6 (g 6)) 7 (g 7)) ++ zSt (zy E) p g) (B := zTw (zy E) (p 6) (q 6) 48 (g 7) (t 7)) (B' := zTw (zy E) (p 6) (q 6) 48 (g 7) (g 7)) (r := none) 2 (c_X9_copyRow (p 6) (q 6) 48 (g 7) (t 7) (by decide)) gX4_copyFrom_X9_copyRow_n33 (host := "SnowSites") (by decide +kernel) (List.mem_of_getElem? (i := 8) (by decide +kernel)) (List.mem_of_getElem? (i := 7) (by decide +kernel)) (by decide +kernel) rfl ⟨by decide, by decide⟩ [14, 6] rfl (by decide) rfl (Nat.le_of_ble_eq_true rfl) rfl rfl dX4_copyFrom_63 ?_ hkR
  exact z_vret h hf rfl rfl rfl dX4_copyFrom_66

theorem iX6_copyFrom_X6 : ∀ w ∈ u_ws RX6 TX6 4, w ∈ wsX6_copyFrom := by decide +kernel
set_option maxHeartbeats 4000000 in
set_option maxRecDepth 100000 in
/-- Tools.copyFrom -/
theorem c_X6_copyFrom {l : Launch} {y : zY} {D : va_G} (q : Nat → Nat) (t : Nat → Nat → Int32) (p : Nat → Nat) (g : Nat → Nat → Int32) : zM l y D yX6_copyFrom wsX6_copyFrom 2 101 [.ref (q 0), .ref (p 0)] (zTo y q t ++ zTo y p g) (zTo y q (cpTo t g) ++ zTo y p g) (none) := by
  refine z_start (own := RX6) (cc := cX6_copyFrom) (maxL := 2) (ret := none) rfl (by decide +kernel) rfl (Nat.le_of_ble_eq_true rfl) rfl ?_
  intro E hEl hEy hED h hf
  subst hEl hEy hED
  have hkR : 0 ≤ E.2.2.2.2.2.1.cells ∧ 0 ≤ E.2.2.2.2.2.1.slots := ⟨Nat.zero_le _, Nat.zero_le _⟩
  refine z_cast (lv := [(0, .ref (q 0)), (1, .ref (p 0))]) (ws := (zTo (zy E) q t ++ zTo (zy E) p g)) (st := []) ?_ rfl rfl rfl
  refine z_aload_n h 0 rfl dX6_copyFrom_0 ?_
  refine z_aload_n h 1 rfl dX6_copyFrom_1 ?_
  refine z_get h 4 5 0 (v := .int ((g 0) 6)) rfl rfl iX6_copyFrom_X6 (by decide) (List.mem_of_getElem? (i := 1) (by decide +kernel)) rfl rfl dX6_copyFrom_2 ?_
  refine z_put h 0 5 0 (ws' := zTo (zy E) q (va_up t 0 (upd (t 0) 6 ((g 0) 6))) ++ zTo (zy E) p g) tyX6 .int rfl rfl iX6_copyFrom_X6 tyX6_ok nmX6 (by decide) (List.mem_of_getElem? (i := 1) (by decide +kernel)) rfl rfl (by decide +kernel) rfl rfl (Nat.le_of_ble_eq_true rfl) rfl dX6_copyFrom_5 ?_
  refine z_aload_n h 1 rfl dX6_copyFrom_8 ?_
  refine z_get h 4 5 1 (v := .ref (p 1)) rfl rfl iX6_copyFrom_X6 (by decide) (List.mem_of_getElem? (i := 2) (by decide +kernel)) rfl rfl dX6_copyFrom_9 ?_
  refine z_aload_n h 0 rfl dX6_copyFrom_12 ?_
  refine z_get h 0 5 1 (v := .ref (q 1)) rfl rfl iX6_copyFrom_X6 (by decide) (List.mem_of_getElem? (i := 2) (by decide +kernel)) rfl rfl dX6_copyFrom_13 ?_
  refine z_callSN h (As := [.ref (p 1), .ref (q 1)]) (st := []) (ws2 := zTo (zy E) q (va_up (va_up t 0 (upd (t 0) 6 ((g 0) 6))) 9 (g 9)) ++ zTo (zy E) p g) (B := zTw (zy E) (p 1) (q 1) 5 (g 9) (t 9)) (B' := zTw (zy E) (p 1) (q 1) 5 (g 9) (g 9)) (r := none) 2 (c_X9_copyRow (p 1) (q 1) 5 (g 9) (t 9) (by decide)) gX6_copyFrom_X9_copyRow_n25 (host := "SnowSites") (by decide +kernel) (List.mem_of_getElem? (i := 6) (by decide +kernel)) (List.mem_of_getElem? (i := 5) (by decide +kernel)) (by decide +kernel) rfl ⟨by decide, by decide⟩ [5, 1] rfl (by decide) rfl (Nat.le_of_ble_eq_true rfl) rfl rfl dX6_copyFrom_16 ?_ hkR
  refine z_aload_n h 1 rfl dX6_copyFrom_19 ?_
  refine z_get h 4 5 2 (v := .ref (p 2)) rfl rfl iX6_copyFrom_X6 (by decide) (List.mem_of_getElem? (i := 3) (by decide +kernel)) rfl rfl dX6_copyFrom_20 ?_
  refine z_aload_n h 0 rfl dX6_copyFrom_23 ?_
  refine z_get h 0 5 2 (v := .ref (q 2)) rfl rfl iX6_copyFrom_X6 (by decide) (List.mem_of_getElem? (i := 3) (by decide +kernel)) rfl rfl dX6_copyFrom_24 ?_
  refine z_callSN h (As := [.ref (p 2), .ref (q 2)]) (st := []) (ws2 := zTo (zy E) q (va_up (va_up (va_up t 0 (upd (t 0) 6 ((g 0) 6))) 9 (g 9)) 10 (g 10)) ++ zTo (zy E) p g) (B := zTw (zy E) (p 2) (q 2) 5 (g 10) (t 10)) (B' := zTw (zy E) (p 2) (q 2) 5 (g 10) (g 10)) (r := none) 2 (c_X9_copyRow (p 2) (q 2) 5 (g 10) (t 10) (by decide)) gX6_copyFrom_X9_copyRow_n25 (host := "SnowSites") (by decide +kernel) (List.mem_of_getElem? (i := 6) (by decide +kernel)) (List.mem_of_getElem? (i := 5) (by decide +kernel)) (by decide +kernel) rfl ⟨by decide, by decide⟩ [6, 2] rfl (by decide) rfl (Nat.le_of_ble_eq_true rfl) rfl rfl dX6_copyFrom_27 ?_ hkR
  refine z_aload_n h 1 rfl dX6_copyFrom_30 ?_
  refine z_get h 4 5 3 (v := .ref (p 3)) rfl rfl iX6_copyFrom_X6 (by decide) (List.mem_of_getElem? (i := 4) (by decide +kernel)) rfl rfl dX6_copyFrom_31 ?_
  refine z_aload_n h 0 rfl dX6_copyFrom_34 ?_
  refine z_get h 0 5 3 (v := .ref (q 3)) rfl rfl iX6_copyFrom_X6 (by decide) (List.mem_of_getElem? (i := 4) (by decide +kernel)) rfl rfl dX6_copyFrom_35 ?_
  refine z_callSN h (As := [.ref (p 3), .ref (q 3)]) (st := []) (ws2 := zTo (zy E) q (va_up (va_up (va_up (va_up t 0 (upd (t 0) 6 ((g 0) 6))) 9 (g 9)) 10 (g 10)) 11 (g 11)) ++ zTo (zy E) p g) (B := zTw (zy E) (p 3) (q 3) 5 (g 11) (t 11)) (B' := zTw (zy E) (p 3) (q 3) 5 (g 11) (g 11)) (r := none) 2 (c_X9_copyRow (p 3) (q 3) 5 (g 11) (t 11) (by decide)) gX6_copyFrom_X9_copyRow_n25 (host := "SnowSites") (by decide +kernel) (List.mem_of_getElem? (i := 6) (by decide +kernel)) (List.mem_of_getElem? (i := 5) (by decide +kernel)) (by decide +kernel) rfl ⟨by decide, by decide⟩ [7, 3] rfl (by decide) rfl (Nat.le_of_ble_eq_true rfl) rfl rfl dX6_copyFrom_38 ?_ hkR
  exact z_vret h hf rfl rfl rfl dX6_copyFrom_41

theorem iX1_copyFrom_X1 : ∀ w ∈ u_ws RX1 TX1 2, w ∈ wsX1_copyFrom := by decide +kernel
set_option maxHeartbeats 4000000 in
set_option maxRecDepth 100000 in
/-- Ballots.copyFrom -/
theorem c_X1_copyFrom {l : Launch} {y : zY} {D : va_G} (q : Nat → Nat) (t : Nat → Nat → Int32) (p : Nat → Nat) (g : Nat → Nat → Int32) : zM l y D yX1_copyFrom wsX1_copyFrom 2 101 [.ref (q 0), .ref (p 0)] (zBa y q t ++ zBa y p g) (zBa y q (cpBa t g) ++ zBa y p g) (none) := by
  refine z_start (own := RX1) (cc := cX1_copyFrom) (maxL := 2) (ret := none) rfl (by decide +kernel) rfl (Nat.le_of_ble_eq_true rfl) rfl ?_
  intro E hEl hEy hED h hf
  subst hEl hEy hED
  have hkR : 0 ≤ E.2.2.2.2.2.1.cells ∧ 0 ≤ E.2.2.2.2.2.1.slots := ⟨Nat.zero_le _, Nat.zero_le _⟩
  refine z_cast (lv := [(0, .ref (q 0)), (1, .ref (p 0))]) (ws := (zBa (zy E) q t ++ zBa (zy E) p g)) (st := []) ?_ rfl rfl rfl
  refine z_aload_n h 0 rfl dX1_copyFrom_0 ?_
  refine z_aload_n h 1 rfl dX1_copyFrom_1 ?_
  refine z_get h 2 0 0 (v := .int ((g 0) 7)) rfl rfl iX1_copyFrom_X1 (by decide) (List.mem_of_getElem? (i := 1) (by decide +kernel)) rfl rfl dX1_copyFrom_2 ?_
  refine z_put h 0 0 0 (ws' := zBa (zy E) q (va_up t 0 (upd (t 0) 7 ((g 0) 7))) ++ zBa (zy E) p g) tyX1 .int rfl rfl iX1_copyFrom_X1 tyX1_ok nmX1 (by decide) (List.mem_of_getElem? (i := 1) (by decide +kernel)) rfl rfl (by decide +kernel) rfl rfl (Nat.le_of_ble_eq_true rfl) rfl dX1_copyFrom_5 ?_
  refine z_aload_n h 1 rfl dX1_copyFrom_8 ?_
  refine z_get h 2 0 1 (v := .ref (p 1)) rfl rfl iX1_copyFrom_X1 (by decide) (List.mem_of_getElem? (i := 2) (by decide +kernel)) rfl rfl dX1_copyFrom_9 ?_
  refine z_aload_n h 0 rfl dX1_copyFrom_12 ?_
  refine z_get h 0 0 1 (v := .ref (q 1)) rfl rfl iX1_copyFrom_X1 (by decide) (List.mem_of_getElem? (i := 2) (by decide +kernel)) rfl rfl dX1_copyFrom_13 ?_
  refine z_callSN h (As := [.ref (p 1), .ref (q 1)]) (st := []) (ws2 := zBa (zy E) q (va_up (va_up t 0 (upd (t 0) 7 ((g 0) 7))) 12 (g 12)) ++ zBa (zy E) p g) (B := zTw (zy E) (p 1) (q 1) 60 (g 12) (t 12)) (B' := zTw (zy E) (p 1) (q 1) 60 (g 12) (g 12)) (r := none) 2 (c_X9_copyRow (p 1) (q 1) 60 (g 12) (t 12) (by decide)) gX1_copyFrom_X9_copyRow_n19 (host := "SnowSites") (by decide +kernel) (List.mem_of_getElem? (i := 4) (by decide +kernel)) (List.mem_of_getElem? (i := 3) (by decide +kernel)) (by decide +kernel) rfl ⟨by decide, by decide⟩ [3, 1] rfl (by decide) rfl (Nat.le_of_ble_eq_true rfl) rfl rfl dX1_copyFrom_16 ?_ hkR
  exact z_vret h hf rfl rfl rfl dX1_copyFrom_19

theorem iX6_minutesToCarve_X6 : ∀ w ∈ u_ws RX6 TX6 4, w ∈ wsX6_minutesToCarve := by decide +kernel
set_option maxHeartbeats 4000000 in
set_option maxRecDepth 100000 in
/-- minutesToCarve -/
theorem c_X6_minutesToCarve {l : Launch} {y : zY} {D : va_G} (q : Nat → Nat) (g : Nat → Nat → Int32) (t : Nat) (u : Int32) (ht : t < 5) : zM l y D yX6_minutesToCarve wsX6_minutesToCarve 0 0 [.ref (q 0), .int (nI t), .int u] (zTo y q g) (zTo y q g) (some (.int (mtc (g 9 t) u))) := by
  refine z_start (own := RX6) (cc := cX6_minutesToCarve) (maxL := 4) (ret := (some .int)) rfl (by decide +kernel) rfl (Nat.le_of_ble_eq_true rfl) rfl ?_
  intro E hEl hEy hED h hf
  subst hEl hEy hED
  have hkR : 0 ≤ E.2.2.2.2.2.1.cells ∧ 0 ≤ E.2.2.2.2.2.1.slots := ⟨Nat.zero_le _, Nat.zero_le _⟩
  refine z_cast (lv := [(0, .ref (q 0)), (1, .int (nI t)), (2, .int u)]) (ws := (zTo (zy E) q g)) (st := []) ?_ rfl rfl rfl
  refine z_aload_n h 0 rfl dX6_minutesToCarve_0 ?_
  refine z_get h 0 5 1 (v := .ref (q 1)) rfl rfl iX6_minutesToCarve_X6 (by decide) (List.mem_of_getElem? (i := 1) (by decide +kernel)) rfl rfl dX6_minutesToCarve_1 ?_
  refine z_iload_n h 1 rfl dX6_minutesToCarve_4 ?_
  refine z_iald h 1 t (f := g 9) rfl rfl rfl (by omega) (by decide) dX6_minutesToCarve_5 ?_
  refine z_istore_n h (by decide) (lv' := [(3, .int ((g 9) t)), (0, .ref (q 0)), (1, .int (nI t)), (2, .int u)]) rfl dX6_minutesToCarve_6 ?_
  refine z_iload_n h 0 rfl dX6_minutesToCarve_7 ?_
  refine z_iconst h (nI 1) (by decide +kernel) dX6_minutesToCarve_8 ?_
  refine z_icmp_ge h 16 dX6_minutesToCarve_9 (by decide) (fun c_9 => ?_) (fun c_9 => ?_)
  · refine z_iload_n h 3 rfl dX6_minutesToCarve_16 ?_
    refine z_iload_n h 0 rfl dX6_minutesToCarve_17 ?_
    refine z_iadd h dX6_minutesToCarve_18 ?_
    refine z_iconst h (nI 1) (by decide +kernel) dX6_minutesToCarve_19 ?_
    refine z_isub h dX6_minutesToCarve_20 ?_
    refine z_iload_n h 0 rfl dX6_minutesToCarve_21 ?_
    refine z_idiv h dX6_minutesToCarve_22 (z_ne0 c_9) ?_
    exact z_iret h hf rfl (by first | rfl | ((try simp only [mtc, if_pos c_9]) <;> (try rfl))) rfl dX6_minutesToCarve_23
  · refine z_iconst h (nI 0) (by decide +kernel) dX6_minutesToCarve_12 ?_
    refine z_goto h 23 dX6_minutesToCarve_13 (by decide) ?_
    exact z_iret h hf rfl (by first | rfl | ((try simp only [mtc, if_neg c_9]) <;> (try rfl))) rfl dX6_minutesToCarve_23

theorem iX6_use_X6 : ∀ w ∈ u_ws RX6 TX6 4, w ∈ wsX6_use := by decide +kernel
set_option maxHeartbeats 4000000 in
set_option maxRecDepth 100000 in
/-- use -/
theorem c_X6_use {l : Launch} {y : zY} {D : va_G} (q : Nat → Nat) (g : Nat → Nat → Int32) (t : Nat) (u : Int32) (ht : t < 5) : zM l y D yX6_use wsX6_use 0 0 [.ref (q 0), .int (nI t), .int u] (zTo y q g) (zTo y q (usG g t u)) (none) := by
  refine z_start (own := RX6) (cc := cX6_use) (maxL := 3) (ret := none) rfl (by decide +kernel) rfl (Nat.le_of_ble_eq_true rfl) rfl ?_
  intro E hEl hEy hED h hf
  subst hEl hEy hED
  have hkR : 0 ≤ E.2.2.2.2.2.1.cells ∧ 0 ≤ E.2.2.2.2.2.1.slots := ⟨Nat.zero_le _, Nat.zero_le _⟩
  refine z_cast (lv := [(0, .ref (q 0)), (1, .int (nI t)), (2, .int u)]) (ws := (zTo (zy E) q g)) (st := []) ?_ rfl rfl rfl
  refine z_aload_n h 0 rfl dX6_use_0 ?_
  refine z_get h 0 5 2 (v := .ref (q 2)) rfl rfl iX6_use_X6 (by decide) (List.mem_of_getElem? (i := 1) (by decide +kernel)) rfl rfl dX6_use_1 ?_
  refine z_iload_n h 1 rfl dX6_use_4 ?_
  refine z_dup2 h dX6_use_5 rfl rfl ?_
  refine z_iald h 2 t (f := g 10) rfl rfl rfl (by omega) (by decide) dX6_use_6 ?_
  refine z_iload_n h 2 rfl dX6_use_7 ?_
  refine z_isub h dX6_use_8 ?_
  refine z_iast h 2 t (((g 10) t) - u) (ws' := zTo (zy E) q (va_up g 10 (upd (g 10) t (((g 10) t) - u)))) rfl rfl rfl rfl (by omega) (by decide) rfl dX6_use_9 ?_
  refine z_aload_n h 0 rfl dX6_use_10 ?_
  refine z_get h 0 5 3 (v := .ref (q 3)) rfl rfl iX6_use_X6 (by decide) (List.mem_of_getElem? (i := 2) (by decide +kernel)) rfl rfl dX6_use_11 ?_
  refine z_iload_n h 1 rfl dX6_use_14 ?_
  refine z_dup2 h dX6_use_15 rfl rfl ?_
  refine z_iald h 3 t (f := g 11) rfl rfl rfl (by omega) (by decide) dX6_use_16 ?_
  refine z_iload_n h 2 rfl dX6_use_17 ?_
  refine z_iadd h dX6_use_18 ?_
  refine z_iast h 3 t (((g 11) t) + u) (ws' := zTo (zy E) q (va_up (va_up g 10 (upd (g 10) t (((g 10) t) - u))) 11 (upd (g 11) t (((g 11) t) + u)))) rfl rfl rfl rfl (by omega) (by decide) rfl dX6_use_19 ?_
  exact z_vret h hf rfl rfl rfl dX6_use_20

theorem iX6_restoreMinutes_X6 : ∀ w ∈ u_ws RX6 TX6 4, w ∈ wsX6_restoreMinutes := by decide +kernel
set_option maxHeartbeats 4000000 in
set_option maxRecDepth 100000 in
/-- restoreMinutes -/
theorem c_X6_restoreMinutes {l : Launch} {y : zY} {D : va_G} (q : Nat → Nat) (g : Nat → Nat → Int32) (hgt : okT g) : zM l y D yX6_restoreMinutes wsX6_restoreMinutes 0 0 [.ref (q 0)] (zTo y q g) (zTo y q (rsG g)) (none) := by
  refine z_start (own := RX6) (cc := cX6_restoreMinutes) (maxL := 2) (ret := none) rfl (by decide +kernel) rfl (Nat.le_of_ble_eq_true rfl) rfl ?_
  intro E hEl hEy hED h hf
  subst hEl hEy hED
  have hkR : 0 ≤ E.2.2.2.2.2.1.cells ∧ 0 ≤ E.2.2.2.2.2.1.slots := ⟨Nat.zero_le _, Nat.zero_le _⟩
  refine z_cast (lv := [(0, .ref (q 0))]) (ws := (zTo (zy E) q g)) (st := []) ?_ rfl rfl rfl
  refine z_iconst h (nI 0) (by decide +kernel) dX6_restoreMinutes_0 ?_
  refine z_istore_n h (by decide) (lv' := [(1, .int (nI 0)), (0, .ref (q 0))]) rfl dX6_restoreMinutes_1 ?_
  have lp_2 : ∀ (d_2 t : Nat), (zt g) < t + d_2 → t ≤ (zt g) → Z E 0 0 [(0, .ref (q 0)), (1, .int (nI t))] (zTo (zy E) q (va_up g 10 (rsM (g 10) t))) 2 [] := by
    intro d_2
    induction d_2 with
    | zero => intro t  q1 q2; omega
    | succ d_2 ih_2 =>
      intro t  q1_2 q2_2 
      have hz := hgt.2
      refine z_iload_n h 1 rfl dX6_restoreMinutes_2 ?_
      refine z_aload_n h 0 rfl dX6_restoreMinutes_3 ?_
      refine z_get h 0 5 0 (v := .int ((g 0) 6)) rfl rfl iX6_restoreMinutes_X6 (by decide) (List.mem_of_getElem? (i := 1) (by decide +kernel)) rfl rfl dX6_restoreMinutes_4 ?_
      refine z_top (nI (zt g)) hgt.1 ?_
      refine z_icmp_ge h 24 dX6_restoreMinutes_7 (by decide) (fun c_7 => ?_) (fun c_7 => ?_)
      · have k_7 : (zt g) ≤ t := (nI_leI (by omega) (by omega)).mp c_7
        obtain rfl : t = zt g := by omega
        exact z_vret h hf rfl rfl rfl dX6_restoreMinutes_24
      · have k_7 : ¬ ((zt g) ≤ t) := fun q => c_7 ((nI_leI (by omega) (by omega)).mpr q)
        refine z_aload_n h 0 rfl dX6_restoreMinutes_10 ?_
        refine z_get h 0 5 2 (v := .ref (q 2)) rfl rfl iX6_restoreMinutes_X6 (by decide) (List.mem_of_getElem? (i := 2) (by decide +kernel)) rfl rfl dX6_restoreMinutes_11 ?_
        refine z_iload_n h 1 rfl dX6_restoreMinutes_14 ?_
        refine z_bipush h (nI 60) (by decide +kernel) dX6_restoreMinutes_15 ?_
        refine z_iast h 2 t (nI 60) (ws' := zTo (zy E) q (va_up g 10 (upd (rsM (g 10) t) t (nI 60)))) rfl rfl rfl rfl (by omega) (by decide) rfl dX6_restoreMinutes_17 ?_
        refine z_iinc h 1 (nI (t + 1)) rfl z_i1 (by decide) (lv' := [(1, .int (nI (t + 1))), (0, .ref (q 0))]) rfl dX6_restoreMinutes_18 ?_
        refine z_goto h 2 dX6_restoreMinutes_21 (by decide) ?_
        refine z_sub [1, 0] (lv' := [(0, .ref (q 0)), (1, .int (nI (t + 1)))]) rfl ?_
        exact z_cast (ih_2 (t + 1) (by omega) (by omega)) rfl rfl rfl
  refine z_sub [1, 0] (lv' := [(0, .ref (q 0)), (1, .int (nI 0))]) rfl ?_
  exact z_cast (lp_2 ((zt g) + 1) 0 (by omega) (by omega)) rfl rfl rfl

theorem iX6_add_X6 : ∀ w ∈ u_ws RX6 TX6 4, w ∈ wsX6_add := by decide +kernel
set_option maxHeartbeats 4000000 in
set_option maxRecDepth 100000 in
/-- Tools.add -/
theorem c_X6_add {l : Launch} {y : zY} {D : va_G} (q : Nat → Nat) (g : Nat → Nat → Int32) (v : Int32) (hgt : g 0 6 = nI (zt g) ∧ zt g < 5) : zM l y D yX6_add wsX6_add 0 0 [.ref (q 0), .int v] (zTo y q g) (zTo y q (taG g v)) (none) := by
  refine z_start (own := RX6) (cc := cX6_add) (maxL := 2) (ret := none) rfl (by decide +kernel) rfl (Nat.le_of_ble_eq_true rfl) rfl ?_
  intro E hEl hEy hED h hf
  subst hEl hEy hED
  have hkR : 0 ≤ E.2.2.2.2.2.1.cells ∧ 0 ≤ E.2.2.2.2.2.1.slots := ⟨Nat.zero_le _, Nat.zero_le _⟩
  refine z_cast (lv := [(0, .ref (q 0)), (1, .int v)]) (ws := (zTo (zy E) q g)) (st := []) ?_ rfl rfl rfl
  refine z_aload_n h 0 rfl dX6_add_0 ?_
  refine z_get h 0 5 1 (v := .ref (q 1)) rfl rfl iX6_add_X6 (by decide) (List.mem_of_getElem? (i := 1) (by decide +kernel)) rfl rfl dX6_add_1 ?_
  refine z_aload_n h 0 rfl dX6_add_4 ?_
  refine z_get h 0 5 0 (v := .int ((g 0) 6)) rfl rfl iX6_add_X6 (by decide) (List.mem_of_getElem? (i := 2) (by decide +kernel)) rfl rfl dX6_add_5 ?_
  refine z_top (nI (zt g)) hgt.1 ?_
  refine z_iload_n h 1 rfl dX6_add_8 ?_
  refine z_iast h 1 (zt g) v (ws' := zTo (zy E) q (va_up g 9 (upd (g 9) (zt g) v))) rfl rfl rfl rfl (by have := hgt.2; omega) (by decide) rfl dX6_add_9 ?_
  refine z_aload_n h 0 rfl dX6_add_10 ?_
  refine z_get h 0 5 2 (v := .ref (q 2)) rfl rfl iX6_add_X6 (by decide) (List.mem_of_getElem? (i := 3) (by decide +kernel)) rfl rfl dX6_add_11 ?_
  refine z_aload_n h 0 rfl dX6_add_14 ?_
  refine z_get h 0 5 0 (v := .int ((g 0) 6)) rfl rfl iX6_add_X6 (by decide) (List.mem_of_getElem? (i := 2) (by decide +kernel)) rfl rfl dX6_add_15 ?_
  refine z_top (nI (zt g)) hgt.1 ?_
  refine z_bipush h (nI 60) (by decide +kernel) dX6_add_18 ?_
  refine z_iast h 2 (zt g) (nI 60) (ws' := zTo (zy E) q (va_up (va_up g 9 (upd (g 9) (zt g) v)) 10 (upd (g 10) (zt g) (nI 60)))) rfl rfl rfl rfl (by have := hgt.2; omega) (by decide) rfl dX6_add_20 ?_
  refine z_aload_n h 0 rfl dX6_add_21 ?_
  refine z_get h 0 5 3 (v := .ref (q 3)) rfl rfl iX6_add_X6 (by decide) (List.mem_of_getElem? (i := 4) (by decide +kernel)) rfl rfl dX6_add_22 ?_
  refine z_aload_n h 0 rfl dX6_add_25 ?_
  refine z_get h 0 5 0 (v := .int ((g 0) 6)) rfl rfl iX6_add_X6 (by decide) (List.mem_of_getElem? (i := 2) (by decide +kernel)) rfl rfl dX6_add_26 ?_
  refine z_top (nI (zt g)) hgt.1 ?_
  refine z_iconst h (nI 0) (by decide +kernel) dX6_add_29 ?_
  refine z_iast h 3 (zt g) (nI 0) (ws' := zTo (zy E) q (va_up (va_up (va_up g 9 (upd (g 9) (zt g) v)) 10 (upd (g 10) (zt g) (nI 60))) 11 (upd (g 11) (zt g) (nI 0)))) rfl rfl rfl rfl (by have := hgt.2; omega) (by decide) rfl dX6_add_30 ?_
  refine z_aload_n h 0 rfl dX6_add_31 ?_
  refine z_dup h dX6_add_32 rfl ?_
  refine z_get h 0 5 0 (v := .int ((g 0) 6)) rfl rfl iX6_add_X6 (by decide) (List.mem_of_getElem? (i := 2) (by decide +kernel)) rfl rfl dX6_add_33 ?_
  refine z_top (nI (zt g)) hgt.1 ?_
  refine z_iconst h (nI 1) (by decide +kernel) dX6_add_36 ?_
  refine z_iadd h dX6_add_37 ?_
  refine z_top (nI ((zt g) + 1)) (nI_add _ _) ?_
  refine z_put h 0 5 0 (ws' := zTo (zy E) q (va_up (va_up (va_up (va_up g 9 (upd (g 9) (zt g) v)) 10 (upd (g 10) (zt g) (nI 60))) 11 (upd (g 11) (zt g) (nI 0))) 0 (upd (g 0) 6 (nI ((zt g) + 1))))) tyX6 .int rfl rfl iX6_add_X6 tyX6_ok nmX6 (by decide) (List.mem_of_getElem? (i := 2) (by decide +kernel)) rfl rfl (by decide +kernel) rfl rfl (Nat.le_of_ble_eq_true rfl) rfl dX6_add_38 ?_
  exact z_vret h hf rfl rfl rfl dX6_add_41

theorem iX1_add_X1 : ∀ w ∈ u_ws RX1 TX1 2, w ∈ wsX1_add := by decide +kernel
set_option maxHeartbeats 4000000 in
set_option maxRecDepth 100000 in
/-- Ballots.add -/
theorem c_X1_add {l : Launch} {y : zY} {D : va_G} (q : Nat → Nat) (g : Nat → Nat → Int32) (a b c : Int32) (hgb : g 0 7 = nI (zb g) ∧ zb g < 20) : zM l y D yX1_add wsX1_add 0 0 [.ref (q 0), .int a, .int b, .int c] (zBa y q g) (zBa y q (baG g a b c)) (none) := by
  refine z_start (own := RX1) (cc := cX1_add) (maxL := 5) (ret := none) rfl (by decide +kernel) rfl (Nat.le_of_ble_eq_true rfl) rfl ?_
  intro E hEl hEy hED h hf
  subst hEl hEy hED
  have hkR : 0 ≤ E.2.2.2.2.2.1.cells ∧ 0 ≤ E.2.2.2.2.2.1.slots := ⟨Nat.zero_le _, Nat.zero_le _⟩
  refine z_cast (lv := [(0, .ref (q 0)), (1, .int a), (2, .int b), (3, .int c)]) (ws := (zBa (zy E) q g)) (st := []) ?_ rfl rfl rfl
  refine z_aload_n h 0 rfl dX1_add_0 ?_
  refine z_get h 0 0 0 (v := .int ((g 0) 7)) rfl rfl iX1_add_X1 (by decide) (List.mem_of_getElem? (i := 1) (by decide +kernel)) rfl rfl dX1_add_1 ?_
  refine z_top (nI (zb g)) hgb.1 ?_
  refine z_iconst h (nI 3) (by decide +kernel) dX1_add_4 ?_
  refine z_imul h dX1_add_5 ?_
  refine z_top (nI ((zb g) * 3)) (pk_mul _ _) ?_
  refine z_istore h (by decide) (lv' := [(4, .int (nI ((zb g) * 3))), (0, .ref (q 0)), (1, .int a), (2, .int b), (3, .int c)]) rfl dX1_add_6 ?_
  refine z_aload_n h 1 rfl dX1_add_8 ?_
  refine z_get h 0 0 1 (v := .ref (q 1)) rfl rfl iX1_add_X1 (by decide) (List.mem_of_getElem? (i := 2) (by decide +kernel)) rfl rfl dX1_add_9 ?_
  refine z_iload h 0 rfl dX1_add_12 ?_
  refine z_iload_n h 2 rfl dX1_add_14 ?_
  refine z_iast h 1 ((zb g) * 3) a (ws' := zBa (zy E) q (va_up g 12 (upd (g 12) ((zb g) * 3) a))) rfl rfl rfl rfl (by have := hgb.2; omega) (by decide) rfl dX1_add_15 ?_
  refine z_aload_n h 1 rfl dX1_add_16 ?_
  refine z_get h 0 0 1 (v := .ref (q 1)) rfl rfl iX1_add_X1 (by decide) (List.mem_of_getElem? (i := 2) (by decide +kernel)) rfl rfl dX1_add_17 ?_
  refine z_iload h 0 rfl dX1_add_20 ?_
  refine z_iconst h (nI 1) (by decide +kernel) dX1_add_22 ?_
  refine z_iadd h dX1_add_23 ?_
  refine z_top (nI (((zb g) * 3) + 1)) (nI_add _ _) ?_
  refine z_iload_n h 3 rfl dX1_add_24 ?_
  refine z_iast h 1 (((zb g) * 3) + 1) b (ws' := zBa (zy E) q (va_up g 12 (upd (upd (g 12) ((zb g) * 3) a) (((zb g) * 3) + 1) b))) rfl rfl rfl rfl (by have := hgb.2; omega) (by decide) rfl dX1_add_25 ?_
  refine z_aload_n h 1 rfl dX1_add_26 ?_
  refine z_get h 0 0 1 (v := .ref (q 1)) rfl rfl iX1_add_X1 (by decide) (List.mem_of_getElem? (i := 2) (by decide +kernel)) rfl rfl dX1_add_27 ?_
  refine z_iload h 0 rfl dX1_add_30 ?_
  refine z_iconst h (nI 2) (by decide +kernel) dX1_add_32 ?_
  refine z_iadd h dX1_add_33 ?_
  refine z_top (nI (((zb g) * 3) + 2)) (nI_add _ _) ?_
  refine z_iload_n h 4 rfl dX1_add_34 ?_
  refine z_iast h 1 (((zb g) * 3) + 2) c (ws' := zBa (zy E) q (va_up g 12 (upd (upd (upd (g 12) ((zb g) * 3) a) (((zb g) * 3) + 1) b) (((zb g) * 3) + 2) c))) rfl rfl rfl rfl (by have := hgb.2; omega) (by decide) rfl dX1_add_35 ?_
  refine z_aload_n h 1 rfl dX1_add_36 ?_
  refine z_dup h dX1_add_37 rfl ?_
  refine z_get h 0 0 0 (v := .int ((g 0) 7)) rfl rfl iX1_add_X1 (by decide) (List.mem_of_getElem? (i := 1) (by decide +kernel)) rfl rfl dX1_add_38 ?_
  refine z_top (nI (zb g)) hgb.1 ?_
  refine z_iconst h (nI 1) (by decide +kernel) dX1_add_41 ?_
  refine z_iadd h dX1_add_42 ?_
  refine z_top (nI ((zb g) + 1)) (nI_add _ _) ?_
  refine z_put h 0 0 0 (ws' := zBa (zy E) q (va_up (va_up g 12 (upd (upd (upd (g 12) ((zb g) * 3) a) (((zb g) * 3) + 1) b) (((zb g) * 3) + 2) c)) 0 (upd (g 0) 7 (nI ((zb g) + 1))))) tyX1 .int rfl rfl iX1_add_X1 tyX1_ok nmX1 (by decide) (List.mem_of_getElem? (i := 1) (by decide +kernel)) rfl rfl (by decide +kernel) rfl rfl (Nat.le_of_ble_eq_true rfl) rfl dX1_add_43 ?_
  exact z_vret h hf rfl rfl rfl dX1_add_46

theorem iX1_choiceAmong_X1 : ∀ w ∈ u_ws RX1 TX1 2, w ∈ wsX1_choiceAmong := by decide +kernel
set_option maxHeartbeats 4000000 in
set_option maxRecDepth 100000 in
/-- choiceAmong -/
theorem c_X1_choiceAmong {l : Launch} {y : zY} {D : va_G} (q : Nat → Nat) (g : Nat → Nat → Int32) (x : Nat) (sd : Nat → Int32) (b : Nat) (hb : b < 20) : zM l y D yX1_choiceAmong wsX1_choiceAmong 2 42 [.ref (q 0), .ref x, .int (nI b)] (zBa y q g ++ [(x, .inl (y.1 1, 8, .inl sd))]) (zBa y q g ++ [(x, .inl (y.1 1, 8, .inl sd))]) (some (.int (chR (g 12) sd b 3))) := by
  refine z_start (own := RX1) (cc := cX1_choiceAmong) (maxL := 5) (ret := (some .int)) rfl (by decide +kernel) rfl (Nat.le_of_ble_eq_true rfl) rfl ?_
  intro E hEl hEy hED h hf
  subst hEl hEy hED
  have hkR : 0 ≤ E.2.2.2.2.2.1.cells ∧ 0 ≤ E.2.2.2.2.2.1.slots := ⟨Nat.zero_le _, Nat.zero_le _⟩
  refine z_cast (lv := [(0, .ref (q 0)), (1, .ref x), (2, .int (nI b))]) (ws := (zBa (zy E) q g ++ [(x, .inl ((zy E).1 1, 8, .inl sd))])) (st := []) ?_ rfl rfl rfl
  refine z_iconst h (nI 0) (by decide +kernel) dX1_choiceAmong_0 ?_
  refine z_istore_n h (by decide) (lv' := [(3, .int (nI 0)), (0, .ref (q 0)), (1, .ref x), (2, .int (nI b))]) rfl dX1_choiceAmong_1 ?_
  have lp_2 : ∀ (d_2 i : Nat), 3 < i + d_2 → i ≤ 3 → (chR (g 12) sd b 3 = chR (g 12) sd b (3 - i)) → Z E 0 0 [(0, .ref (q 0)), (1, .ref x), (2, .int (nI b)), (3, .int (nI i))] (zBa (zy E) q g ++ [(x, .inl ((zy E).1 1, 8, .inl sd))]) 2 [] := by
    intro d_2
    induction d_2 with
    | zero => intro i  q1 q2; omega
    | succ d_2 ih_2 =>
      intro i  q1_2 q2_2 ex
      refine z_iload_n h 3 rfl dX1_choiceAmong_2 ?_
      refine z_iconst h (nI 3) (by decide +kernel) dX1_choiceAmong_3 ?_
      refine z_icmp_ge h 43 dX1_choiceAmong_4 (by decide) (fun c_4 => ?_) (fun c_4 => ?_)
      · have k_4 : 3 ≤ i := (nI_leI (by omega) (by omega)).mp c_4
        obtain rfl : i = 3 := by omega
        refine z_iconst h ((-1)) (by decide +kernel) dX1_choiceAmong_43 ?_
        exact z_iret h hf rfl (by rw [ex]; rfl) rfl dX1_choiceAmong_44
      · have k_4 : ¬ (3 ≤ i) := fun q => c_4 ((nI_leI (by omega) (by omega)).mpr q)
        refine z_aload_n h 0 rfl dX1_choiceAmong_7 ?_
        refine z_get h 0 0 1 (v := .ref (q 1)) rfl rfl iX1_choiceAmong_X1 (by decide) (List.mem_of_getElem? (i := 1) (by decide +kernel)) rfl rfl dX1_choiceAmong_8 ?_
        refine z_iload_n h 2 rfl dX1_choiceAmong_11 ?_
        refine z_iconst h (nI 3) (by decide +kernel) dX1_choiceAmong_12 ?_
        refine z_imul h dX1_choiceAmong_13 ?_
        refine z_top (nI (b * 3)) (pk_mul _ _) ?_
        refine z_iload_n h 3 rfl dX1_choiceAmong_14 ?_
        refine z_iadd h dX1_choiceAmong_15 ?_
        refine z_top (nI ((b * 3) + i)) (nI_add _ _) ?_
        refine z_iald h 1 ((b * 3) + i) (f := g 12) rfl rfl rfl (by omega) (by decide) dX1_choiceAmong_16 ?_
        refine z_istore h (by decide) (lv' := [(4, .int ((g 12) ((b * 3) + i))), (0, .ref (q 0)), (1, .ref x), (2, .int (nI b)), (3, .int (nI i))]) rfl dX1_choiceAmong_17 ?_
        refine z_iload h 0 rfl dX1_choiceAmong_19 ?_
        refine z_callSN h (As := [.int ((g 12) ((b * 3) + i))]) (st := []) (ws2 := zBa (zy E) q g ++ [(x, .inl ((zy E).1 1, 8, .inl sd))]) (B := []) (B' := []) (r := some (.int (isS ((g 12) ((b * 3) + i))))) 1 (c_X9_isSite ((g 12) ((b * 3) + i))) gX1_choiceAmong_X9_isSite_n23 (host := "SnowSites") (by decide +kernel) (List.mem_of_getElem? (i := 3) (by decide +kernel)) (List.mem_of_getElem? (i := 2) (by decide +kernel)) (by decide +kernel) rfl ⟨by decide, by decide⟩ [] rfl (by decide) rfl (Nat.le_of_ble_eq_true rfl) rfl rfl dX1_choiceAmong_21 ?_ hkR
        refine z_if_eq h 37 dX1_choiceAmong_24 (by decide) (fun c_24 => ?_) (fun c_24 => ?_)
        · have e9 : chR (g 12) sd b (3 - i) = chR (g 12) sd b (3 - (i + 1)) := by rw [chR_s _ _ _ _ (by omega), if_pos c_24]
          refine z_iinc h 4 (nI (i + 1)) rfl z_i1 (by decide) (lv' := [(3, .int (nI (i + 1))), (4, .int ((g 12) ((b * 3) + i))), (0, .ref (q 0)), (1, .ref x), (2, .int (nI b))]) rfl dX1_choiceAmong_37 ?_
          refine z_goto h 2 dX1_choiceAmong_40 (by decide) ?_
          refine z_sub [2, 3, 4, 0] (lv' := [(0, .ref (q 0)), (1, .ref x), (2, .int (nI b)), (3, .int (nI (i + 1)))]) rfl ?_
          exact z_cast (ih_2 (i + 1) (by omega) (by omega) (ex.trans e9)) rfl rfl rfl
        · refine z_aload_n h 2 rfl dX1_choiceAmong_27 ?_
          refine z_iload h 0 rfl dX1_choiceAmong_28 ?_
          refine z_zald h 2 ((g 12 (b * 3 + i)).toNatClampNeg) (f := sd) rfl rfl (isS_in c_24).1 (isS_in c_24).2 (by decide) dX1_choiceAmong_30 ?_
          refine z_if_eq h 37 dX1_choiceAmong_31 (by decide) (fun c_31 => ?_) (fun c_31 => ?_)
          · have e9 : chR (g 12) sd b (3 - i) = chR (g 12) sd b (3 - (i + 1)) := by rw [chR_s _ _ _ _ (by omega), if_neg c_24, if_pos c_31]
            refine z_iinc h 4 (nI (i + 1)) rfl z_i1 (by decide) (lv' := [(3, .int (nI (i + 1))), (4, .int ((g 12) ((b * 3) + i))), (0, .ref (q 0)), (1, .ref x), (2, .int (nI b))]) rfl dX1_choiceAmong_37 ?_
            refine z_goto h 2 dX1_choiceAmong_40 (by decide) ?_
            refine z_sub [2, 3, 4, 0] (lv' := [(0, .ref (q 0)), (1, .ref x), (2, .int (nI b)), (3, .int (nI (i + 1)))]) rfl ?_
            exact z_cast (ih_2 (i + 1) (by omega) (by omega) (ex.trans e9)) rfl rfl rfl
          · have e9 : chR (g 12) sd b (3 - i) = g 12 (b * 3 + i) := by rw [chR_s _ _ _ _ (by omega), if_neg c_24, if_neg c_31]
            refine z_iload h 0 rfl dX1_choiceAmong_34 ?_
            exact z_iret h hf rfl (by rw [ex, e9]) rfl dX1_choiceAmong_36
  refine z_sub [1, 2, 3, 0] (lv' := [(0, .ref (q 0)), (1, .ref x), (2, .int (nI b)), (3, .int (nI 0))]) rfl ?_
  exact z_cast (lp_2 (3 + 1) 0 (by omega) (by omega) rfl) rfl rfl rfl

