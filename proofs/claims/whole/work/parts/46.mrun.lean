/-! the model's runOrders and digest -/
theorem gtR_P {G : (Nat → Nat → Int32) → Nat → Nat → Nat → Nat → Int32} {V : (Nat → Nat → Int32) → Nat → Nat → Int32} {n : Nat} (P : (Nat → Nat → Int32) → Prop) (hG : ∀ h p, P h → P (G h n p)) (hS : ∀ h s, P h → P (va_up h 0 (upd (h 0) 5 (nI s)))) : ∀ k h p, P h → P (gtR G V n k h p)
  | 0, h, p, H => H
  | k + 1, h, p, H => by
    unfold gtR
    split
    · exact hG h p H
    · split
      · exact gtR_P P hG hS k _ _ (hS _ _ (hG h p H))
      · exact hS _ _ (hG h p H)
def kpI (h0 h : Nat → Nat → Int32) : Prop := h 0 0 = h0 0 0 ∧ h 0 4 = h0 0 4 ∧ h 1 = h0 1 ∧ h 5 = h0 5 ∧ h 2 = h0 2 ∧ h 3 = h0 3 ∧ h 4 = h0 4
theorem og_kp {h0 h : Nat → Nat → Int32} (n i : Nat) (H : kpI h0 h) : kpI h0 (ogG h n i) := by
  unfold ogG
  split
  · exact H
  · split
    · exact H
    · exact H
theorem gt_kp (h : Nat → Nat → Int32) (n : Nat) : kpI h (gtC ogG ogV h n) := by
  unfold gtC
  split
  · exact gtR_P (kpI h) (fun h' p H => og_kp n p H) (fun h' s H => H) _ _ _ ⟨rfl, rfl, rfl, rfl, rfl, rfl, rfl⟩
  · exact ⟨rfl, rfl, rfl, rfl, rfl, rfl, rfl⟩
def dsL (f : Nat → Int32) (s : Nat) (h0 : Int64) : Nat → Int64
  | 0 => h0
  | v + 1 => mxN (fun w => bvM f s v w) (dsL f s h0 v) 3
def dsA (f : Nat → Int32) (h0 : Int64) : Nat → Int64
  | 0 => h0
  | s + 1 => dsL f s (mxN (fun w => svV f s w) (dsA f h0 s) 5) (zhm f s)
def dtL (f : Nat → Int32) (h0 : Int64) : Nat → Int64
  | 0 => h0
  | t + 1 => mxN (fun w => tvM f t w) (dtL f h0 t) 3
def dgS (h : Nat → Nat → Int32) : Int64 := 1346020 + (h 0 0).toInt64
def dgT (h : Nat → Nat → Int32) : Int64 := dtL (h 1) (dsA (h 1) (mxN (fun w => wvM (h0t h) w) (dgS h) 16) 8) (ztm (h 1))
def dgD (h : Nat → Nat → Int32) : Int64 := mx (mx (mxN (ctC (h0t h)).2.2 (mx (dgT h) (nI (ctC (h0t h)).1)) (8 * (ctC (h0t h)).1)) (ctC (h0t h)).2.1) (bsI (h 1) 8).1
theorem mx_e (h : Int64) (v : Int32) : 31 * h + v.toInt64 = mx h v := rfl
theorem iX10_runOrders_X10 : ∀ w ∈ u_ws RX10 TX10 15, w ∈ wsX10_runOrders := by decide +kernel
set_option maxHeartbeats 4000000 in
set_option maxRecDepth 100000 in
/-- runOrders 0 -/
theorem c_X10_runOrders_0 {l : Launch} {y : zY} {D : va_G} (q : Nat → Nat) (h : Nat → Nat → Int32) (n m : Nat) (hn : h 0 4 = nI n) (hn1 : n ≤ 150) (hmt : okMT (h 1)) (hsv : h 0 0 = nI m) (hm4 : m ≤ 4) (G9 : Nat → Nat → Int32) (hG9 : gtC ogG ogV (h0t h) n = G9) (R9 : Nat → Nat → Int32) (hR9 : gtC ogX ogY (svG G9 m) n = R9) (h9 : G9 0 6 = (-1)) : zM l y D yX10_runOrders wsX10_runOrders 10 226 [.ref (q 0)] (zMo y q h) (zMo y q (h0t R9)) (some (.int (R9 0 7))) := by
  have hk : kpI (h0t h) G9 := by rw [← hG9]; exact gt_kp (h0t h) n
  refine z_start (own := RX10) (cc := cX10_runOrders) (maxL := 1) (ret := (some .int)) rfl (by decide +kernel) rfl (Nat.le_of_ble_eq_true rfl) (zMo_fst _ _ _ _) ?_
  intro E hEl hEy hED hC hf
  subst hEl hEy hED
  have hkR : 0 ≤ E.2.2.2.2.2.1.cells ∧ 0 ≤ E.2.2.2.2.2.1.slots := ⟨Nat.zero_le _, Nat.zero_le _⟩
  refine z_cast (lv := [(0, .ref (q 0))]) (ws := (zMo (zy E) q h)) (st := []) ?_ rfl rfl rfl
  refine z_aload_n hC 0 rfl dX10_runOrders_0 ?_
  refine z_iconst hC (nI 0) (by decide +kernel) dX10_runOrders_1 ?_
  refine z_put hC 0 8 4 (ws' := zMo (zy E) q (va_up h 0 (upd (h 0) 1 (nI 0)))) tyX10 .int rfl rfl iX10_runOrders_X10 tyX10_ok nmX10 (by decide) (List.mem_of_getElem? (i := 1) (by decide +kernel)) rfl rfl (by decide +kernel) rfl rfl (Nat.le_of_ble_eq_true rfl) rfl dX10_runOrders_2 ?_
  refine z_aload_n hC 0 rfl dX10_runOrders_5 ?_
  refine z_iconst hC (nI 0) (by decide +kernel) dX10_runOrders_6 ?_
  refine z_wV hC (As := [.int (nI 0)]) (st := []) (ws2 := zMo (zy E) q (gtC ogG ogV (h0t h) n)) (r := none) 1 (c_X10_goThrough_0 q (h0t h) n hn hn1 hmt) gX10_runOrders_X10_goThrough (q0 := 0) (ci := 8) (by decide +kernel) rfl rfl rfl ⟨by decide, by decide⟩ (Nat.le_of_ble_eq_true rfl) rfl rfl dX10_runOrders_7 ?_ hkR
  refine z_cast (lv := [(0, .ref (q 0))]) (ws := (zMo (zy E) q G9)) (st := []) ?_ rfl (by rw [hG9]) rfl
  refine z_aload_n hC 0 rfl dX10_runOrders_10 ?_
  refine z_get hC 0 8 11 (v := .int ((G9 0) 6)) rfl rfl iX10_runOrders_X10 (by decide) (List.mem_of_getElem? (i := 2) (by decide +kernel)) rfl rfl dX10_runOrders_11 ?_
  refine z_iconst hC ((-1)) (by decide +kernel) dX10_runOrders_14 ?_
  refine z_icmp_eq hC 26 dX10_runOrders_15 (by decide) (fun c_15 => ?_) (fun c_15 => ?_)
  · refine z_aload_n hC 0 rfl dX10_runOrders_26 ?_
    refine z_wV hC (As := []) (st := []) (ws2 := zMo (zy E) q (svG G9 m)) (r := none) 0 (c_X10_save q G9 m (hk.1.trans hsv) hm4) gX10_runOrders_X10_save (q0 := 0) (ci := 8) (by decide +kernel) rfl rfl rfl ⟨by decide, by decide⟩ (Nat.le_of_ble_eq_true rfl) rfl rfl dX10_runOrders_27 ?_ hkR
    refine z_aload_n hC 0 rfl dX10_runOrders_30 ?_
    refine z_iconst hC (nI 1) (by decide +kernel) dX10_runOrders_31 ?_
    refine z_wV hC (As := [.int (nI 1)]) (st := []) (ws2 := zMo (zy E) q (gtC ogX ogY (svG G9 m) n)) (r := none) 1 (c_X10_goThrough_1 q (svG G9 m) n (hk.2.1.trans hn) hn1 (by have e : (svG G9 m) 1 = h 1 := hk.2.2.1; rw [e]; exact hmt)) gX10_runOrders_X10_goThrough (q0 := 0) (ci := 8) (by decide +kernel) rfl rfl rfl ⟨by decide, by decide⟩ (Nat.le_of_ble_eq_true rfl) rfl rfl dX10_runOrders_32 ?_ hkR
    refine z_cast (lv := [(0, .ref (q 0))]) (ws := (zMo (zy E) q R9)) (st := []) ?_ rfl (by rw [hR9]) rfl
    refine z_aload_n hC 0 rfl dX10_runOrders_35 ?_
    refine z_iconst hC (nI 0) (by decide +kernel) dX10_runOrders_36 ?_
    refine z_put hC 0 8 4 (ws' := zMo (zy E) q (va_up R9 0 (upd (R9 0) 1 (nI 0)))) tyX10 .int rfl rfl iX10_runOrders_X10 tyX10_ok nmX10 (by decide) (List.mem_of_getElem? (i := 1) (by decide +kernel)) rfl rfl (by decide +kernel) rfl rfl (Nat.le_of_ble_eq_true rfl) rfl dX10_runOrders_37 ?_
    refine z_aload_n hC 0 rfl dX10_runOrders_40 ?_
    refine z_get hC 0 8 12 (v := .int ((upd (R9 0) 1 (nI 0)) 7)) rfl rfl iX10_runOrders_X10 (by decide) (List.mem_of_getElem? (i := 3) (by decide +kernel)) rfl rfl dX10_runOrders_41 ?_
    exact z_iret hC hf rfl rfl rfl dX10_runOrders_44
  · exact absurd h9 c_15

set_option maxHeartbeats 4000000 in
set_option maxRecDepth 100000 in
/-- runOrders 1 -/
theorem c_X10_runOrders_1 {l : Launch} {y : zY} {D : va_G} (q : Nat → Nat) (h : Nat → Nat → Int32) (n m : Nat) (hn : h 0 4 = nI n) (hn1 : n ≤ 150) (hmt : okMT (h 1)) (hsv : h 0 0 = nI m) (hm4 : m ≤ 4) (G9 : Nat → Nat → Int32) (hG9 : gtC ogG ogV (h0t h) n = G9) (h9 : ¬ G9 0 6 = (-1)) : zM l y D yX10_runOrders wsX10_runOrders 10 226 [.ref (q 0)] (zMo y q h) (zMo y q (G9)) (some (.int ((-10) - G9 0 6))) := by
  have hk : kpI (h0t h) G9 := by rw [← hG9]; exact gt_kp (h0t h) n
  refine z_start (own := RX10) (cc := cX10_runOrders) (maxL := 1) (ret := (some .int)) rfl (by decide +kernel) rfl (Nat.le_of_ble_eq_true rfl) (zMo_fst _ _ _ _) ?_
  intro E hEl hEy hED hC hf
  subst hEl hEy hED
  have hkR : 0 ≤ E.2.2.2.2.2.1.cells ∧ 0 ≤ E.2.2.2.2.2.1.slots := ⟨Nat.zero_le _, Nat.zero_le _⟩
  refine z_cast (lv := [(0, .ref (q 0))]) (ws := (zMo (zy E) q h)) (st := []) ?_ rfl rfl rfl
  refine z_aload_n hC 0 rfl dX10_runOrders_0 ?_
  refine z_iconst hC (nI 0) (by decide +kernel) dX10_runOrders_1 ?_
  refine z_put hC 0 8 4 (ws' := zMo (zy E) q (va_up h 0 (upd (h 0) 1 (nI 0)))) tyX10 .int rfl rfl iX10_runOrders_X10 tyX10_ok nmX10 (by decide) (List.mem_of_getElem? (i := 1) (by decide +kernel)) rfl rfl (by decide +kernel) rfl rfl (Nat.le_of_ble_eq_true rfl) rfl dX10_runOrders_2 ?_
  refine z_aload_n hC 0 rfl dX10_runOrders_5 ?_
  refine z_iconst hC (nI 0) (by decide +kernel) dX10_runOrders_6 ?_
  refine z_wV hC (As := [.int (nI 0)]) (st := []) (ws2 := zMo (zy E) q (gtC ogG ogV (h0t h) n)) (r := none) 1 (c_X10_goThrough_0 q (h0t h) n hn hn1 hmt) gX10_runOrders_X10_goThrough (q0 := 0) (ci := 8) (by decide +kernel) rfl rfl rfl ⟨by decide, by decide⟩ (Nat.le_of_ble_eq_true rfl) rfl rfl dX10_runOrders_7 ?_ hkR
  refine z_cast (lv := [(0, .ref (q 0))]) (ws := (zMo (zy E) q G9)) (st := []) ?_ rfl (by rw [hG9]) rfl
  refine z_aload_n hC 0 rfl dX10_runOrders_10 ?_
  refine z_get hC 0 8 11 (v := .int ((G9 0) 6)) rfl rfl iX10_runOrders_X10 (by decide) (List.mem_of_getElem? (i := 2) (by decide +kernel)) rfl rfl dX10_runOrders_11 ?_
  refine z_iconst hC ((-1)) (by decide +kernel) dX10_runOrders_14 ?_
  refine z_icmp_eq hC 26 dX10_runOrders_15 (by decide) (fun c_15 => ?_) (fun c_15 => ?_)
  · exact absurd c_15 h9
  · refine z_bipush hC ((-10)) (by decide +kernel) dX10_runOrders_18 ?_
    refine z_aload_n hC 0 rfl dX10_runOrders_20 ?_
    refine z_get hC 0 8 11 (v := .int ((G9 0) 6)) rfl rfl iX10_runOrders_X10 (by decide) (List.mem_of_getElem? (i := 2) (by decide +kernel)) rfl rfl dX10_runOrders_21 ?_
    refine z_isub hC dX10_runOrders_24 ?_
    exact z_iret hC hf rfl rfl rfl dX10_runOrders_25

theorem iX10_digest_X10 : ∀ w ∈ u_ws RX10 TX10 15, w ∈ wsX10_digest := by decide +kernel
set_option maxHeartbeats 4000000 in
set_option maxRecDepth 100000 in
/-- digest -/
theorem c_X10_digest {l : Launch} {y : zY} {D : va_G} (q : Nat → Nat) (h : Nat → Nat → Int32) (hM : okM (h 1)) (hT : okTm (h 1)) (hB : okBm (h 1)) (hCh : okCh (h 1)) : zM l y D yX10_digest wsX10_digest 7 163 [.ref (q 0)] (zMo y q h) (zMo y q (va_up (ctG9 (h0t h)) 3 (h 1))) (some (.long (dgD h))) := by
  have hz5 := hT.2
  have hc8 := ctC_le (h0t h)
  refine z_start (own := RX10) (cc := cX10_digest) (maxL := 6) (ret := (some .long)) rfl (by decide +kernel) rfl (Nat.le_of_ble_eq_true rfl) (zMo_fst _ _ _ _) ?_
  intro E hEl hEy hED hC hf
  subst hEl hEy hED
  have hkR : 0 ≤ E.2.2.2.2.2.1.cells ∧ 0 ≤ E.2.2.2.2.2.1.slots := ⟨Nat.zero_le _, Nat.zero_le _⟩
  refine z_cast (lv := [(0, .ref (q 0))]) (ws := (zMo (zy E) q h)) (st := []) ?_ rfl rfl rfl
  refine z_aload_n hC 0 rfl dX10_digest_0 ?_
  refine z_iconst hC (nI 0) (by decide +kernel) dX10_digest_1 ?_
  refine z_put hC 0 8 4 (ws' := zMo (zy E) q (va_up h 0 (upd (h 0) 1 (nI 0)))) tyX10 .int rfl rfl iX10_digest_X10 tyX10_ok nmX10 (by decide) (List.mem_of_getElem? (i := 1) (by decide +kernel)) rfl rfl (by decide +kernel) rfl rfl (Nat.le_of_ble_eq_true rfl) rfl dX10_digest_2 ?_
  refine z_ldc2 hC (1346020) (List.mem_of_getElem? (i := 2) (by decide +kernel)) dX10_digest_5 ?_
  refine z_aload_n hC 0 rfl dX10_digest_8 ?_
  refine z_get hC 0 8 3 (v := .int ((upd (h 0) 1 (nI 0)) 0)) rfl rfl iX10_digest_X10 (by decide) (List.mem_of_getElem? (i := 3) (by decide +kernel)) rfl rfl dX10_digest_9 ?_
  refine z_i2l hC dX10_digest_12 ?_
  refine z_ladd hC dX10_digest_13 ?_
  refine z_lstore_n hC (by decide) (lv' := [(1, .long (1346020 + (((upd (h 0) 1 (nI 0)) 0).toInt64))), (0, .ref (q 0))]) rfl dX10_digest_14 ?_
  refine z_iconst hC (nI 0) (by decide +kernel) dX10_digest_15 ?_
  refine z_istore_n hC (by decide) (lv' := [(3, .int (nI 0)), (1, .long (1346020 + (((upd (h 0) 1 (nI 0)) 0).toInt64))), (0, .ref (q 0))]) rfl dX10_digest_16 ?_
  have lp_17 : ∀ (d_17 k : Nat), 16 < k + d_17 → k ≤ 16 → Z E 0 0 [(0, .ref (q 0)), (1, .long (mxN (fun w => wvM (h0t h) w) (dgS h) k)), (3, .int (nI k))] (zMo (zy E) q (h0t h)) 17 [] := by
    intro d_17
    induction d_17 with
    | zero => intro k  q1 q2; omega
    | succ d_17 ih_17 =>
      intro k  q1_17 q2_17 
      refine z_iload_n hC 2 rfl dX10_digest_17 ?_
      refine z_bipush hC (nI 15) (by decide +kernel) dX10_digest_18 ?_
      refine z_icmp_gt hC 42 dX10_digest_20 (by decide) (fun c_20 => ?_) (fun c_20 => ?_)
      · have k_20 : 15 < k := (nI_ltI (by omega) (by omega)).mp c_20
        obtain rfl : k = 16 := by omega
        refine z_iconst hC (nI 0) (by decide +kernel) dX10_digest_42 ?_
        refine z_istore_n hC (by decide) (lv' := [(3, .int (nI 0)), (0, .ref (q 0)), (1, .long (mxN (fun w => wvM (h0t h) w) (dgS h) 16))]) rfl dX10_digest_43 ?_
        have lp_44 : ∀ (d_44 s : Nat), 8 < s + d_44 → s ≤ 8 → Z E 0 0 [(0, .ref (q 0)), (1, .long (dsA (h 1) (mxN (fun w => wvM (h0t h) w) (dgS h) 16) s)), (3, .int (nI s))] (zMo (zy E) q (h0t h)) 44 [] := by
          intro d_44
          induction d_44 with
          | zero => intro s  q1 q2; omega
          | succ d_44 ih_44 =>
            intro s  q1_44 q2_44 
            refine z_iload_n hC 2 rfl dX10_digest_44 ?_
            refine z_bipush hC (nI 8) (by decide +kernel) dX10_digest_45 ?_
            refine z_icmp_ge hC 141 dX10_digest_47 (by decide) (fun c_47 => ?_) (fun c_47 => ?_)
            · have k_47 : 8 ≤ s := (nI_leI (by omega) (by omega)).mp c_47
              obtain rfl : s = 8 := by omega
              refine z_iconst hC (nI 0) (by decide +kernel) dX10_digest_141 ?_
              refine z_istore_n hC (by decide) (lv' := [(3, .int (nI 0)), (0, .ref (q 0)), (1, .long (dsA (h 1) (mxN (fun w => wvM (h0t h) w) (dgS h) 16) 8))]) rfl dX10_digest_142 ?_
              have lp_143 : ∀ (d_143 x : Nat), (ztm (h 1)) < x + d_143 → x ≤ (ztm (h 1)) → Z E 0 0 [(0, .ref (q 0)), (1, .long (dtL (h 1) (dsA (h 1) (mxN (fun w => wvM (h0t h) w) (dgS h) 16) 8) x)), (3, .int (nI x))] (zMo (zy E) q (h0t h)) 143 [] := by
                intro d_143
                induction d_143 with
                | zero => intro x  q1 q2; omega
                | succ d_143 ih_143 =>
                  intro x  q1_143 q2_143 
                  refine z_iload_n hC 2 rfl dX10_digest_143 ?_
                  refine z_aload_n hC 0 rfl dX10_digest_144 ?_
                  refine z_get hC 0 8 0 (v := .ref (q 1)) rfl rfl iX10_digest_X10 (by decide) (List.mem_of_getElem? (i := 5) (by decide +kernel)) rfl rfl dX10_digest_145 ?_
                  refine z_bipush hC (nI 10) (by decide +kernel) dX10_digest_148 ?_
                  refine z_iald hC 1 10 (f := h0t h 1) rfl rfl rfl (by omega) (by decide) dX10_digest_150 ?_
                  refine z_top (nI (ztm (h 1))) hT.1 ?_
                  refine z_icmp_ge hC 190 dX10_digest_151 (by decide) (fun c_151 => ?_) (fun c_151 => ?_)
                  · have k_151 : (ztm (h 1)) ≤ x := (nI_leI (by omega) (by omega)).mp c_151
                    obtain rfl : x = (ztm (h 1)) := by omega
                    refine z_aload_n hC 0 rfl dX10_digest_190 ?_
                    refine z_callV hC (As := []) (st := []) (ws2 := zMo (zy E) q (ctG9 (h0t h))) (B := zMo (zy E) q (h0t h)) (B' := zMo (zy E) q (ctG9 (h0t h))) (r := none) 0 (c_X10_count q (h0t h) hM hB hCh) gX10_digest_X10_count (q0 := 0) (ci := 8) (by decide +kernel) rfl rfl rfl ⟨by decide, by decide⟩ [0, 1, 2, 3, 4, 5, 6] rfl (by decide) rfl (Nat.le_of_ble_eq_true rfl) rfl rfl dX10_digest_191 ?_ hkR
                    refine z_ldc2 hC (31) (List.mem_of_getElem? (i := 4) (by decide +kernel)) dX10_digest_194 ?_
                    refine z_lload_n hC 1 rfl dX10_digest_197 ?_
                    refine z_lmul hC dX10_digest_198 ?_
                    refine z_aload_n hC 0 rfl dX10_digest_199 ?_
                    refine z_get hC 0 8 6 (v := .int (((ctG9 (h0t h)) 0) 2)) rfl rfl iX10_digest_X10 (by decide) (List.mem_of_getElem? (i := 6) (by decide +kernel)) rfl rfl dX10_digest_200 ?_
                    refine z_top (nI (ctC (h0t h)).1) rfl ?_
                    refine z_i2l hC dX10_digest_203 ?_
                    refine z_ladd hC dX10_digest_204 ?_
                    refine z_lstore_n hC (by decide) (lv' := [(1, .long ((31 * (dtL (h 1) (dsA (h 1) (mxN (fun w => wvM (h0t h) w) (dgS h) 16) 8) (ztm (h 1)))) + ((nI (ctC (h0t h)).1).toInt64))), (0, .ref (q 0)), (3, .int (nI (ztm (h 1))))]) rfl dX10_digest_205 ?_
                    refine z_iconst hC (nI 0) (by decide +kernel) dX10_digest_206 ?_
                    refine z_istore_n hC (by decide) (lv' := [(3, .int (nI 0)), (1, .long ((31 * (dtL (h 1) (dsA (h 1) (mxN (fun w => wvM (h0t h) w) (dgS h) 16) 8) (ztm (h 1)))) + ((nI (ctC (h0t h)).1).toInt64))), (0, .ref (q 0))]) rfl dX10_digest_207 ?_
                    have lp_208 : ∀ (d_208 k : Nat), (8 * (ctC (h0t h)).1) < k + d_208 → k ≤ (8 * (ctC (h0t h)).1) → Z E 0 0 [(0, .ref (q 0)), (1, .long (mxN (ctC (h0t h)).2.2 (mx (dgT h) (nI (ctC (h0t h)).1)) k)), (3, .int (nI k))] (zMo (zy E) q (ctG9 (h0t h))) 208 [] := by
                      intro d_208
                      induction d_208 with
                      | zero => intro k  q1 q2; omega
                      | succ d_208 ih_208 =>
                        intro k  q1_208 q2_208 
                        refine z_iload_n hC 2 rfl dX10_digest_208 ?_
                        refine z_bipush hC (nI 8) (by decide +kernel) dX10_digest_209 ?_
                        refine z_aload_n hC 0 rfl dX10_digest_211 ?_
                        refine z_get hC 0 8 6 (v := .int ((ctG9 (h0t h) 0) 2)) rfl rfl iX10_digest_X10 (by decide) (List.mem_of_getElem? (i := 6) (by decide +kernel)) rfl rfl dX10_digest_212 ?_
                        refine z_top (nI (ctC (h0t h)).1) rfl ?_
                        refine z_imul hC dX10_digest_215 ?_
                        refine z_top (nI (8 * (ctC (h0t h)).1)) (pk_mul _ _) ?_
                        refine z_icmp_ge hC 239 dX10_digest_216 (by decide) (fun c_216 => ?_) (fun c_216 => ?_)
                        · have k_216 : (8 * (ctC (h0t h)).1) ≤ k := (nI_leI (by omega) (by omega)).mp c_216
                          obtain rfl : k = (8 * (ctC (h0t h)).1) := by omega
                          refine z_ldc2 hC (31) (List.mem_of_getElem? (i := 4) (by decide +kernel)) dX10_digest_239 ?_
                          refine z_lload_n hC 1 rfl dX10_digest_242 ?_
                          refine z_lmul hC dX10_digest_243 ?_
                          refine z_aload_n hC 0 rfl dX10_digest_244 ?_
                          refine z_get hC 0 8 7 (v := .int ((ctG9 (h0t h) 0) 3)) rfl rfl iX10_digest_X10 (by decide) (List.mem_of_getElem? (i := 8) (by decide +kernel)) rfl rfl dX10_digest_245 ?_
                          refine z_top ((ctC (h0t h)).2.1) rfl ?_
                          refine z_i2l hC dX10_digest_248 ?_
                          refine z_ladd hC dX10_digest_249 ?_
                          refine z_lstore_n hC (by decide) (lv' := [(1, .long ((31 * (mxN (ctC (h0t h)).2.2 (mx (dgT h) (nI (ctC (h0t h)).1)) (8 * (ctC (h0t h)).1))) + (((ctC (h0t h)).2.1).toInt64))), (0, .ref (q 0)), (3, .int (nI (8 * (ctC (h0t h)).1)))]) rfl dX10_digest_250 ?_
                          refine z_ldc2 hC (31) (List.mem_of_getElem? (i := 4) (by decide +kernel)) dX10_digest_251 ?_
                          refine z_lload_n hC 0 rfl dX10_digest_254 ?_
                          refine z_lmul hC dX10_digest_255 ?_
                          refine z_aload_n hC 1 rfl dX10_digest_256 ?_
                          refine z_callV hC (As := []) (st := [.long (31 * ((31 * (mxN (ctC (h0t h)).2.2 (mx (dgT h) (nI (ctC (h0t h)).1)) (8 * (ctC (h0t h)).1))) + (((ctC (h0t h)).2.1).toInt64)))]) (ws2 := zMo (zy E) q (va_up (ctG9 (h0t h)) 3 ((ctG9 (h0t h)) 1))) (B := zMo (zy E) q (ctG9 (h0t h))) (B' := zMo (zy E) q (va_up (ctG9 (h0t h)) 3 ((ctG9 (h0t h)) 1))) (r := some (.int ((bsI ((ctG9 (h0t h)) 1) 8).1))) 0 (c_X10_best q (ctG9 (h0t h)) hM hT) gX10_digest_X10_best (q0 := 0) (ci := 8) (by decide +kernel) rfl rfl rfl ⟨by decide, by decide⟩ [0, 1, 2, 3, 4, 5, 6] rfl (by decide) rfl (Nat.le_of_ble_eq_true rfl) rfl rfl dX10_digest_257 ?_ hkR
                          refine z_i2l hC dX10_digest_260 ?_
                          refine z_ladd hC dX10_digest_261 ?_
                          exact z_lret hC hf rfl rfl rfl dX10_digest_262
                        · have k_216 : ¬ ((8 * (ctC (h0t h)).1) ≤ k) := fun q => c_216 ((nI_leI (by omega) (by omega)).mpr q)
                          refine z_ldc2 hC (31) (List.mem_of_getElem? (i := 4) (by decide +kernel)) dX10_digest_219 ?_
                          refine z_lload_n hC 1 rfl dX10_digest_222 ?_
                          refine z_lmul hC dX10_digest_223 ?_
                          refine z_aload_n hC 0 rfl dX10_digest_224 ?_
                          refine z_get hC 0 8 5 (v := .ref (q 4)) rfl rfl iX10_digest_X10 (by decide) (List.mem_of_getElem? (i := 7) (by decide +kernel)) rfl rfl dX10_digest_225 ?_
                          refine z_iload_n hC 2 rfl dX10_digest_228 ?_
                          refine z_iald hC 4 k (f := ctG9 (h0t h) 4) rfl rfl rfl (by omega) (by decide) dX10_digest_229 ?_
                          refine z_top ((ctC (h0t h)).2.2 k) rfl ?_
                          refine z_i2l hC dX10_digest_230 ?_
                          refine z_ladd hC dX10_digest_231 ?_
                          refine z_lstore_n hC (by decide) (lv' := [(1, .long ((31 * (mxN (ctC (h0t h)).2.2 (mx (dgT h) (nI (ctC (h0t h)).1)) k)) + (((ctC (h0t h)).2.2 k).toInt64))), (0, .ref (q 0)), (3, .int (nI k))]) rfl dX10_digest_232 ?_
                          refine z_iinc hC 2 (nI (k + 1)) rfl z_i1 (by decide) (lv' := [(3, .int (nI (k + 1))), (1, .long ((31 * (mxN (ctC (h0t h)).2.2 (mx (dgT h) (nI (ctC (h0t h)).1)) k)) + (((ctC (h0t h)).2.2 k).toInt64))), (0, .ref (q 0))]) rfl dX10_digest_233 ?_
                          refine z_goto hC 208 dX10_digest_236 (by decide) ?_
                          refine z_sub [2, 1, 0] (lv' := [(0, .ref (q 0)), (1, .long ((31 * (mxN (ctC (h0t h)).2.2 (mx (dgT h) (nI (ctC (h0t h)).1)) k)) + (((ctC (h0t h)).2.2 k).toInt64))), (3, .int (nI (k + 1)))]) rfl ?_
                          exact z_cast (ih_208 (k + 1) (by omega) (by omega)) rfl rfl rfl
                    refine z_sub [2, 1, 0] (lv' := [(0, .ref (q 0)), (1, .long ((31 * (dtL (h 1) (dsA (h 1) (mxN (fun w => wvM (h0t h) w) (dgS h) 16) 8) (ztm (h 1)))) + ((nI (ctC (h0t h)).1).toInt64))), (3, .int (nI 0))]) rfl ?_
                    exact z_cast (lp_208 ((8 * (ctC (h0t h)).1) + 1) 0 (by omega) (by omega)) rfl rfl rfl
                  · have k_151 : ¬ ((ztm (h 1)) ≤ x) := fun q => c_151 ((nI_leI (by omega) (by omega)).mpr q)
                    refine z_iconst hC (nI 0) (by decide +kernel) dX10_digest_154 ?_
                    refine z_istore hC (by decide) (lv' := [(4, .int (nI 0)), (0, .ref (q 0)), (1, .long (dtL (h 1) (dsA (h 1) (mxN (fun w => wvM (h0t h) w) (dgS h) 16) 8) x)), (3, .int (nI x))]) rfl dX10_digest_155 ?_
                    have lp_157 : ∀ (d_157 k : Nat), 3 < k + d_157 → k ≤ 3 → Z E 0 0 [(0, .ref (q 0)), (1, .long (mxN (fun w => tvM (h 1) x w) (dtL (h 1) (dsA (h 1) (mxN (fun w => wvM (h0t h) w) (dgS h) 16) 8) x) k)), (3, .int (nI x)), (4, .int (nI k))] (zMo (zy E) q (h0t h)) 157 [] := by
                      intro d_157
                      induction d_157 with
                      | zero => intro k  q1 q2; omega
                      | succ d_157 ih_157 =>
                        intro k  q1_157 q2_157 
                        refine z_iload hC 3 rfl dX10_digest_157 ?_
                        refine z_iconst hC (nI 2) (by decide +kernel) dX10_digest_159 ?_
                        refine z_icmp_gt hC 184 dX10_digest_160 (by decide) (fun c_160 => ?_) (fun c_160 => ?_)
                        · have k_160 : 2 < k := (nI_ltI (by omega) (by omega)).mp c_160
                          obtain rfl : k = 3 := by omega
                          refine z_iinc hC 2 (nI (x + 1)) rfl z_i1 (by decide) (lv' := [(3, .int (nI (x + 1))), (0, .ref (q 0)), (1, .long (mxN (fun w => tvM (h 1) x w) (dtL (h 1) (dsA (h 1) (mxN (fun w => wvM (h0t h) w) (dgS h) 16) 8) x) 3)), (4, .int (nI 3))]) rfl dX10_digest_184 ?_
                          refine z_goto hC 143 dX10_digest_187 (by decide) ?_
                          refine z_sub [1, 2, 0] (lv' := [(0, .ref (q 0)), (1, .long (mxN (fun w => tvM (h 1) x w) (dtL (h 1) (dsA (h 1) (mxN (fun w => wvM (h0t h) w) (dgS h) 16) 8) x) 3)), (3, .int (nI (x + 1)))]) rfl ?_
                          exact z_cast (ih_143 (x + 1) (by omega) (by omega)) rfl rfl rfl
                        · have k_160 : ¬ (2 < k) := fun q => c_160 ((nI_ltI (by omega) (by omega)).mpr q)
                          refine z_ldc2 hC (31) (List.mem_of_getElem? (i := 4) (by decide +kernel)) dX10_digest_163 ?_
                          refine z_lload_n hC 1 rfl dX10_digest_166 ?_
                          refine z_lmul hC dX10_digest_167 ?_
                          refine z_aload_n hC 0 rfl dX10_digest_168 ?_
                          refine z_iload_n hC 2 rfl dX10_digest_169 ?_
                          refine z_iload hC 3 rfl dX10_digest_170 ?_
                          refine z_callV hC (As := [.int (nI x), .int (nI k)]) (st := [.long (31 * (mxN (fun w => tvM (h 1) x w) (dtL (h 1) (dsA (h 1) (mxN (fun w => wvM (h0t h) w) (dgS h) 16) 8) x) k))]) (ws2 := zMo (zy E) q (h0t h)) (B := zMo (zy E) q (h0t h)) (B' := zMo (zy E) q (h0t h)) (r := some (.int (tvM ((h0t h) 1) x k))) 2 (c_X10_toolValue q (h0t h) x k (by omega)) gX10_digest_X10_toolValue (q0 := 0) (ci := 8) (by decide +kernel) rfl rfl rfl ⟨by decide, by decide⟩ [0, 1, 2, 3, 4, 5, 6] rfl (by decide) rfl (Nat.le_of_ble_eq_true rfl) rfl rfl dX10_digest_172 ?_ hkR
                          refine z_i2l hC dX10_digest_175 ?_
                          refine z_ladd hC dX10_digest_176 ?_
                          refine z_lstore_n hC (by decide) (lv' := [(1, .long ((31 * (mxN (fun w => tvM (h 1) x w) (dtL (h 1) (dsA (h 1) (mxN (fun w => wvM (h0t h) w) (dgS h) 16) 8) x) k)) + ((tvM ((h0t h) 1) x k).toInt64))), (0, .ref (q 0)), (3, .int (nI x)), (4, .int (nI k))]) rfl dX10_digest_177 ?_
                          refine z_iinc hC 3 (nI (k + 1)) rfl z_i1 (by decide) (lv' := [(4, .int (nI (k + 1))), (1, .long ((31 * (mxN (fun w => tvM (h 1) x w) (dtL (h 1) (dsA (h 1) (mxN (fun w => wvM (h0t h) w) (dgS h) 16) 8) x) k)) + ((tvM ((h0t h) 1) x k).toInt64))), (0, .ref (q 0)), (3, .int (nI x))]) rfl dX10_digest_178 ?_
                          refine z_goto hC 157 dX10_digest_181 (by decide) ?_
                          refine z_sub [2, 1, 3, 0] (lv' := [(0, .ref (q 0)), (1, .long ((31 * (mxN (fun w => tvM (h 1) x w) (dtL (h 1) (dsA (h 1) (mxN (fun w => wvM (h0t h) w) (dgS h) 16) 8) x) k)) + ((tvM ((h0t h) 1) x k).toInt64))), (3, .int (nI x)), (4, .int (nI (k + 1)))]) rfl ?_
                          exact z_cast (ih_157 (k + 1) (by omega) (by omega)) rfl rfl rfl
                    refine z_sub [1, 2, 3, 0] (lv' := [(0, .ref (q 0)), (1, .long (dtL (h 1) (dsA (h 1) (mxN (fun w => wvM (h0t h) w) (dgS h) 16) 8) x)), (3, .int (nI x)), (4, .int (nI 0))]) rfl ?_
                    exact z_cast (lp_157 (3 + 1) 0 (by omega) (by omega)) rfl rfl rfl
              refine z_sub [1, 2, 0] (lv' := [(0, .ref (q 0)), (1, .long (dsA (h 1) (mxN (fun w => wvM (h0t h) w) (dgS h) 16) 8)), (3, .int (nI 0))]) rfl ?_
              exact z_cast (lp_143 ((ztm (h 1)) + 1) 0 (by omega) (by omega)) rfl rfl rfl
            · have k_47 : ¬ (8 ≤ s) := fun q => c_47 ((nI_leI (by omega) (by omega)).mpr q)
              have hz6 := (hM s (by omega)).2
              refine z_iconst hC (nI 0) (by decide +kernel) dX10_digest_50 ?_
              refine z_istore hC (by decide) (lv' := [(4, .int (nI 0)), (0, .ref (q 0)), (1, .long (dsA (h 1) (mxN (fun w => wvM (h0t h) w) (dgS h) 16) s)), (3, .int (nI s))]) rfl dX10_digest_51 ?_
              have lp_53 : ∀ (d_53 k : Nat), 5 < k + d_53 → k ≤ 5 → Z E 0 0 [(0, .ref (q 0)), (1, .long (mxN (fun w => svV (h 1) s w) (dsA (h 1) (mxN (fun w => wvM (h0t h) w) (dgS h) 16) s) k)), (3, .int (nI s)), (4, .int (nI k))] (zMo (zy E) q (h0t h)) 53 [] := by
                intro d_53
                induction d_53 with
                | zero => intro k  q1 q2; omega
                | succ d_53 ih_53 =>
                  intro k  q1_53 q2_53 
                  refine z_iload hC 3 rfl dX10_digest_53 ?_
                  refine z_iconst hC (nI 4) (by decide +kernel) dX10_digest_55 ?_
                  refine z_icmp_gt hC 80 dX10_digest_56 (by decide) (fun c_56 => ?_) (fun c_56 => ?_)
                  · have k_56 : 4 < k := (nI_ltI (by omega) (by omega)).mp c_56
                    obtain rfl : k = 5 := by omega
                    refine z_iconst hC (nI 0) (by decide +kernel) dX10_digest_80 ?_
                    refine z_istore hC (by decide) (lv' := [(4, .int (nI 0)), (0, .ref (q 0)), (1, .long (mxN (fun w => svV (h 1) s w) (dsA (h 1) (mxN (fun w => wvM (h0t h) w) (dgS h) 16) s) 5)), (3, .int (nI s))]) rfl dX10_digest_81 ?_
                    have lp_83 : ∀ (d_83 v : Nat), (zhm (h 1) s) < v + d_83 → v ≤ (zhm (h 1) s) → Z E 0 0 [(0, .ref (q 0)), (1, .long (dsL (h 1) s (mxN (fun w => svV (h 1) s w) (dsA (h 1) (mxN (fun w => wvM (h0t h) w) (dgS h) 16) s) 5) v)), (3, .int (nI s)), (4, .int (nI v))] (zMo (zy E) q (h0t h)) 83 [] := by
                      intro d_83
                      induction d_83 with
                      | zero => intro v  q1 q2; omega
                      | succ d_83 ih_83 =>
                        intro v  q1_83 q2_83 
                        refine z_iload hC 3 rfl dX10_digest_83 ?_
                        refine z_aload_n hC 0 rfl dX10_digest_85 ?_
                        refine z_get hC 0 8 0 (v := .ref (q 1)) rfl rfl iX10_digest_X10 (by decide) (List.mem_of_getElem? (i := 5) (by decide +kernel)) rfl rfl dX10_digest_86 ?_
                        refine z_bipush hC (nI 12) (by decide +kernel) dX10_digest_89 ?_
                        refine z_iload_n hC 2 rfl dX10_digest_91 ?_
                        refine z_iadd hC dX10_digest_92 ?_
                        refine z_top (nI (12 + s)) (nI_add _ _) ?_
                        refine z_iald hC 1 (12 + s) (f := h0t h 1) rfl rfl rfl (by omega) (by decide) dX10_digest_93 ?_
                        refine z_top (nI (zhm (h 1) s)) (hM s (by omega)).1 ?_
                        refine z_icmp_ge hC 135 dX10_digest_94 (by decide) (fun c_94 => ?_) (fun c_94 => ?_)
                        · have k_94 : (zhm (h 1) s) ≤ v := (nI_leI (by omega) (by omega)).mp c_94
                          obtain rfl : v = (zhm (h 1) s) := by omega
                          refine z_iinc hC 2 (nI (s + 1)) rfl z_i1 (by decide) (lv' := [(3, .int (nI (s + 1))), (0, .ref (q 0)), (1, .long (dsL (h 1) s (mxN (fun w => svV (h 1) s w) (dsA (h 1) (mxN (fun w => wvM (h0t h) w) (dgS h) 16) s) 5) (zhm (h 1) s))), (4, .int (nI (zhm (h 1) s)))]) rfl dX10_digest_135 ?_
                          refine z_goto hC 44 dX10_digest_138 (by decide) ?_
                          refine z_sub [1, 2, 0] (lv' := [(0, .ref (q 0)), (1, .long (dsL (h 1) s (mxN (fun w => svV (h 1) s w) (dsA (h 1) (mxN (fun w => wvM (h0t h) w) (dgS h) 16) s) 5) (zhm (h 1) s))), (3, .int (nI (s + 1)))]) rfl ?_
                          exact z_cast (ih_44 (s + 1) (by omega) (by omega)) rfl rfl rfl
                        · have k_94 : ¬ ((zhm (h 1) s) ≤ v) := fun q => c_94 ((nI_leI (by omega) (by omega)).mpr q)
                          refine z_iconst hC (nI 0) (by decide +kernel) dX10_digest_97 ?_
                          refine z_istore hC (by decide) (lv' := [(5, .int (nI 0)), (0, .ref (q 0)), (1, .long (dsL (h 1) s (mxN (fun w => svV (h 1) s w) (dsA (h 1) (mxN (fun w => wvM (h0t h) w) (dgS h) 16) s) 5) v)), (3, .int (nI s)), (4, .int (nI v))]) rfl dX10_digest_98 ?_
                          have lp_100 : ∀ (d_100 k : Nat), 3 < k + d_100 → k ≤ 3 → Z E 0 0 [(0, .ref (q 0)), (1, .long (mxN (fun w => bvM (h 1) s v w) (dsL (h 1) s (mxN (fun w => svV (h 1) s w) (dsA (h 1) (mxN (fun w => wvM (h0t h) w) (dgS h) 16) s) 5) v) k)), (3, .int (nI s)), (4, .int (nI v)), (5, .int (nI k))] (zMo (zy E) q (h0t h)) 100 [] := by
                            intro d_100
                            induction d_100 with
                            | zero => intro k  q1 q2; omega
                            | succ d_100 ih_100 =>
                              intro k  q1_100 q2_100 
                              refine z_iload hC 4 rfl dX10_digest_100 ?_
                              refine z_iconst hC (nI 2) (by decide +kernel) dX10_digest_102 ?_
                              refine z_icmp_gt hC 129 dX10_digest_103 (by decide) (fun c_103 => ?_) (fun c_103 => ?_)
                              · have k_103 : 2 < k := (nI_ltI (by omega) (by omega)).mp c_103
                                obtain rfl : k = 3 := by omega
                                refine z_iinc hC 3 (nI (v + 1)) rfl z_i1 (by decide) (lv' := [(4, .int (nI (v + 1))), (0, .ref (q 0)), (1, .long (mxN (fun w => bvM (h 1) s v w) (dsL (h 1) s (mxN (fun w => svV (h 1) s w) (dsA (h 1) (mxN (fun w => wvM (h0t h) w) (dgS h) 16) s) 5) v) 3)), (3, .int (nI s)), (5, .int (nI 3))]) rfl dX10_digest_129 ?_
                                refine z_goto hC 83 dX10_digest_132 (by decide) ?_
                                refine z_sub [1, 2, 3, 0] (lv' := [(0, .ref (q 0)), (1, .long (mxN (fun w => bvM (h 1) s v w) (dsL (h 1) s (mxN (fun w => svV (h 1) s w) (dsA (h 1) (mxN (fun w => wvM (h0t h) w) (dgS h) 16) s) 5) v) 3)), (3, .int (nI s)), (4, .int (nI (v + 1)))]) rfl ?_
                                exact z_cast (ih_83 (v + 1) (by omega) (by omega)) rfl rfl rfl
                              · have k_103 : ¬ (2 < k) := fun q => c_103 ((nI_ltI (by omega) (by omega)).mpr q)
                                refine z_ldc2 hC (31) (List.mem_of_getElem? (i := 4) (by decide +kernel)) dX10_digest_106 ?_
                                refine z_lload_n hC 1 rfl dX10_digest_109 ?_
                                refine z_lmul hC dX10_digest_110 ?_
                                refine z_aload_n hC 0 rfl dX10_digest_111 ?_
                                refine z_iload_n hC 2 rfl dX10_digest_112 ?_
                                refine z_iload hC 3 rfl dX10_digest_113 ?_
                                refine z_iload hC 4 rfl dX10_digest_115 ?_
                                refine z_callV hC (As := [.int (nI s), .int (nI v), .int (nI k)]) (st := [.long (31 * (mxN (fun w => bvM (h 1) s v w) (dsL (h 1) s (mxN (fun w => svV (h 1) s w) (dsA (h 1) (mxN (fun w => wvM (h0t h) w) (dgS h) 16) s) 5) v) k))]) (ws2 := zMo (zy E) q (h0t h)) (B := zMo (zy E) q (h0t h)) (B' := zMo (zy E) q (h0t h)) (r := some (.int (bvM ((h0t h) 1) s v k))) 3 (c_X10_blockValue q (h0t h) s v k (by omega) (by omega)) gX10_digest_X10_blockValue (q0 := 0) (ci := 8) (by decide +kernel) rfl rfl rfl ⟨by decide, by decide⟩ [0, 1, 2, 3, 4, 5, 6] rfl (by decide) rfl (Nat.le_of_ble_eq_true rfl) rfl rfl dX10_digest_117 ?_ hkR
                                refine z_i2l hC dX10_digest_120 ?_
                                refine z_ladd hC dX10_digest_121 ?_
                                refine z_lstore_n hC (by decide) (lv' := [(1, .long ((31 * (mxN (fun w => bvM (h 1) s v w) (dsL (h 1) s (mxN (fun w => svV (h 1) s w) (dsA (h 1) (mxN (fun w => wvM (h0t h) w) (dgS h) 16) s) 5) v) k)) + ((bvM ((h0t h) 1) s v k).toInt64))), (0, .ref (q 0)), (3, .int (nI s)), (4, .int (nI v)), (5, .int (nI k))]) rfl dX10_digest_122 ?_
                                refine z_iinc hC 4 (nI (k + 1)) rfl z_i1 (by decide) (lv' := [(5, .int (nI (k + 1))), (1, .long ((31 * (mxN (fun w => bvM (h 1) s v w) (dsL (h 1) s (mxN (fun w => svV (h 1) s w) (dsA (h 1) (mxN (fun w => wvM (h0t h) w) (dgS h) 16) s) 5) v) k)) + ((bvM ((h0t h) 1) s v k).toInt64))), (0, .ref (q 0)), (3, .int (nI s)), (4, .int (nI v))]) rfl dX10_digest_123 ?_
                                refine z_goto hC 100 dX10_digest_126 (by decide) ?_
                                refine z_sub [2, 1, 3, 4, 0] (lv' := [(0, .ref (q 0)), (1, .long ((31 * (mxN (fun w => bvM (h 1) s v w) (dsL (h 1) s (mxN (fun w => svV (h 1) s w) (dsA (h 1) (mxN (fun w => wvM (h0t h) w) (dgS h) 16) s) 5) v) k)) + ((bvM ((h0t h) 1) s v k).toInt64))), (3, .int (nI s)), (4, .int (nI v)), (5, .int (nI (k + 1)))]) rfl ?_
                                exact z_cast (ih_100 (k + 1) (by omega) (by omega)) rfl rfl rfl
                          refine z_sub [1, 2, 3, 4, 0] (lv' := [(0, .ref (q 0)), (1, .long (dsL (h 1) s (mxN (fun w => svV (h 1) s w) (dsA (h 1) (mxN (fun w => wvM (h0t h) w) (dgS h) 16) s) 5) v)), (3, .int (nI s)), (4, .int (nI v)), (5, .int (nI 0))]) rfl ?_
                          exact z_cast (lp_100 (3 + 1) 0 (by omega) (by omega)) rfl rfl rfl
                    refine z_sub [1, 2, 3, 0] (lv' := [(0, .ref (q 0)), (1, .long (mxN (fun w => svV (h 1) s w) (dsA (h 1) (mxN (fun w => wvM (h0t h) w) (dgS h) 16) s) 5)), (3, .int (nI s)), (4, .int (nI 0))]) rfl ?_
                    exact z_cast (lp_83 ((zhm (h 1) s) + 1) 0 (by omega) (by omega)) rfl rfl rfl
                  · have k_56 : ¬ (4 < k) := fun q => c_56 ((nI_ltI (by omega) (by omega)).mpr q)
                    refine z_ldc2 hC (31) (List.mem_of_getElem? (i := 4) (by decide +kernel)) dX10_digest_59 ?_
                    refine z_lload_n hC 1 rfl dX10_digest_62 ?_
                    refine z_lmul hC dX10_digest_63 ?_
                    refine z_aload_n hC 0 rfl dX10_digest_64 ?_
                    refine z_iload_n hC 2 rfl dX10_digest_65 ?_
                    refine z_iload hC 3 rfl dX10_digest_66 ?_
                    refine z_callV hC (As := [.int (nI s), .int (nI k)]) (st := [.long (31 * (mxN (fun w => svV (h 1) s w) (dsA (h 1) (mxN (fun w => wvM (h0t h) w) (dgS h) 16) s) k))]) (ws2 := zMo (zy E) q (h0t h)) (B := zMo (zy E) q (h0t h)) (B' := zMo (zy E) q (h0t h)) (r := some (.int (svV ((h0t h) 1) s k))) 2 (c_X10_siteValue q (h0t h) s k (by omega) (by omega) hM) gX10_digest_X10_siteValue (q0 := 0) (ci := 8) (by decide +kernel) rfl rfl rfl ⟨by decide, by decide⟩ [0, 1, 2, 3, 4, 5, 6] rfl (by decide) rfl (Nat.le_of_ble_eq_true rfl) rfl rfl dX10_digest_68 ?_ hkR
                    refine z_i2l hC dX10_digest_71 ?_
                    refine z_ladd hC dX10_digest_72 ?_
                    refine z_lstore_n hC (by decide) (lv' := [(1, .long ((31 * (mxN (fun w => svV (h 1) s w) (dsA (h 1) (mxN (fun w => wvM (h0t h) w) (dgS h) 16) s) k)) + ((svV ((h0t h) 1) s k).toInt64))), (0, .ref (q 0)), (3, .int (nI s)), (4, .int (nI k))]) rfl dX10_digest_73 ?_
                    refine z_iinc hC 3 (nI (k + 1)) rfl z_i1 (by decide) (lv' := [(4, .int (nI (k + 1))), (1, .long ((31 * (mxN (fun w => svV (h 1) s w) (dsA (h 1) (mxN (fun w => wvM (h0t h) w) (dgS h) 16) s) k)) + ((svV ((h0t h) 1) s k).toInt64))), (0, .ref (q 0)), (3, .int (nI s))]) rfl dX10_digest_74 ?_
                    refine z_goto hC 53 dX10_digest_77 (by decide) ?_
                    refine z_sub [2, 1, 3, 0] (lv' := [(0, .ref (q 0)), (1, .long ((31 * (mxN (fun w => svV (h 1) s w) (dsA (h 1) (mxN (fun w => wvM (h0t h) w) (dgS h) 16) s) k)) + ((svV ((h0t h) 1) s k).toInt64))), (3, .int (nI s)), (4, .int (nI (k + 1)))]) rfl ?_
                    exact z_cast (ih_53 (k + 1) (by omega) (by omega)) rfl rfl rfl
              refine z_sub [1, 2, 3, 0] (lv' := [(0, .ref (q 0)), (1, .long (dsA (h 1) (mxN (fun w => wvM (h0t h) w) (dgS h) 16) s)), (3, .int (nI s)), (4, .int (nI 0))]) rfl ?_
              exact z_cast (lp_53 (5 + 1) 0 (by omega) (by omega)) rfl rfl rfl
        refine z_sub [1, 2, 0] (lv' := [(0, .ref (q 0)), (1, .long (mxN (fun w => wvM (h0t h) w) (dgS h) 16)), (3, .int (nI 0))]) rfl ?_
        exact z_cast (lp_44 (8 + 1) 0 (by omega) (by omega)) rfl rfl rfl
      · have k_20 : ¬ (15 < k) := fun q => c_20 ((nI_ltI (by omega) (by omega)).mpr q)
        refine z_ldc2 hC (31) (List.mem_of_getElem? (i := 4) (by decide +kernel)) dX10_digest_23 ?_
        refine z_lload_n hC 1 rfl dX10_digest_26 ?_
        refine z_lmul hC dX10_digest_27 ?_
        refine z_aload_n hC 0 rfl dX10_digest_28 ?_
        refine z_iload_n hC 2 rfl dX10_digest_29 ?_
        refine z_callV hC (As := [.int (nI k)]) (st := [.long (31 * (mxN (fun w => wvM (h0t h) w) (dgS h) k))]) (ws2 := zMo (zy E) q (h0t h)) (B := zMo (zy E) q (h0t h)) (B' := zMo (zy E) q (h0t h)) (r := some (.int (wvM (h0t h) k))) 1 (c_X10_wholeValue q (h0t h) k (by omega) hM) gX10_digest_X10_wholeValue (q0 := 0) (ci := 8) (by decide +kernel) rfl rfl rfl ⟨by decide, by decide⟩ [0, 1, 2, 3, 4, 5, 6] rfl (by decide) rfl (Nat.le_of_ble_eq_true rfl) rfl rfl dX10_digest_30 ?_ hkR
        refine z_i2l hC dX10_digest_33 ?_
        refine z_ladd hC dX10_digest_34 ?_
        refine z_lstore_n hC (by decide) (lv' := [(1, .long ((31 * (mxN (fun w => wvM (h0t h) w) (dgS h) k)) + ((wvM (h0t h) k).toInt64))), (0, .ref (q 0)), (3, .int (nI k))]) rfl dX10_digest_35 ?_
        refine z_iinc hC 2 (nI (k + 1)) rfl z_i1 (by decide) (lv' := [(3, .int (nI (k + 1))), (1, .long ((31 * (mxN (fun w => wvM (h0t h) w) (dgS h) k)) + ((wvM (h0t h) k).toInt64))), (0, .ref (q 0))]) rfl dX10_digest_36 ?_
        refine z_goto hC 17 dX10_digest_39 (by decide) ?_
        refine z_sub [2, 1, 0] (lv' := [(0, .ref (q 0)), (1, .long ((31 * (mxN (fun w => wvM (h0t h) w) (dgS h) k)) + ((wvM (h0t h) k).toInt64))), (3, .int (nI (k + 1)))]) rfl ?_
        exact z_cast (ih_17 (k + 1) (by omega) (by omega)) rfl rfl rfl
  refine z_sub [2, 1, 0] (lv' := [(0, .ref (q 0)), (1, .long (1346020 + (((upd (h 0) 1 (nI 0)) 0).toInt64))), (3, .int (nI 0))]) rfl ?_
  exact z_cast (lp_17 (16 + 1) 0 (by omega) (by omega)) rfl rfl rfl
