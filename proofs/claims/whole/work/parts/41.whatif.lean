/-! the model's what-if -/
def vmM (f : Nat → Int32) (s : Nat) : Int32 := vmS f s (zhm f s)
def gfE (f : Nat → Int32) (s i : Nat) : Int32 := if i = 0 then (-1) else if pn0 f i (12 + s) ≤ 0 then nI i else (-1)
def gsR (f : Nat → Int32) (s : Nat) : Nat → Nat → Nat
  | 0, i => i
  | k + 1, i => if pn0 f i (12 + s) ≤ 0 then i else gsR f s k (i + 1)
theorem gs_step {f : Nat → Int32} {s i R : Nat} (hi : i < 200) (h : gsR f s (200 - i) i = R) : (pn0 f i (12 + s) ≤ 0 → R = i) ∧ (¬ pn0 f i (12 + s) ≤ 0 → gsR f s (200 - (i + 1)) (i + 1) = R) := by
  subst h
  rw [show 200 - i = (200 - (i + 1)) + 1 by omega]
  exact ⟨fun c => if_pos c, fun c => (if_neg c).symm⟩
theorem gs_end {f : Nat → Int32} {s i R : Nat} (hi : i = 200) (h : gsR f s (200 - i) i = R) : i = R := by
  subst hi
  rw [Nat.sub_self] at h
  exact h
theorem pn0_S (f : Nat → Int32) (i : Nat) : paF0 (pn0 f i) = pn0 f (i + 1) := rfl
theorem gn_cast (y : zY) (q : Nat → Nat) (H : Nat → Nat → Int32) (Z : Nat → Int32) {X Y : Nat → Int32} (e : paF0 X = Y) : zMo y q (va_up (va_up (va_up H 1 X) 3 Z) 1 (paF0 ((va_up (va_up H 1 X) 3 Z) 1))) = zMo y q (va_up (va_up H 1 Y) 3 Z) := by
  subst e
  show zMo y q (va_up (va_up (va_up H 1 X) 3 Z) 1 (paF0 X)) = _
  generalize paF0 X = W
  rfl
def gnM (f : Nat → Int32) (s : Nat) : Int32 := gfE f s (gsR f s 200 0)
theorem ite_0 {P : Prop} {inst : Decidable P} (h : (if P then nI 0 else nI 1) = 0) : P := by
  by_cases q : P
  · exact q
  · rw [if_neg q] at h
    exact absurd h (by decide +kernel)
theorem ite_1 {P : Prop} {inst : Decidable P} (h : ¬ (if P then nI 0 else nI 1) = 0) : ¬ P := fun q => h (if_pos q)
def bsI (f : Nat → Int32) : Nat → Int32 × Int32
  | 0 => ((-1), nI 0)
  | s + 1 => if f (20 + s) = 0 then (if pnS f 12 - pnS (upd f (20 + s) (nI 1)) 12 ≤ (bsI f s).2 then bsI f s else (nI s, pnS f 12 - pnS (upd f (20 + s) (nI 1)) 12)) else bsI f s
theorem bs_0 {f : Nat → Int32} {s : Nat} (c : ¬ f (20 + s) = 0) : bsI f (s + 1) = bsI f s := if_neg c
theorem bs_1 {f : Nat → Int32} {s : Nat} (c : f (20 + s) = 0) (d : pnS f 12 - pnS (upd f (20 + s) (nI 1)) 12 ≤ (bsI f s).2) : bsI f (s + 1) = bsI f s := (if_pos c).trans (if_pos d)
theorem bs_2 {f : Nat → Int32} {s : Nat} (c : f (20 + s) = 0) (d : ¬ pnS f 12 - pnS (upd f (20 + s) (nI 1)) 12 ≤ (bsI f s).2) : bsI f (s + 1) = (nI s, pnS f 12 - pnS (upd f (20 + s) (nI 1)) 12) := (if_pos c).trans (if_neg d)
theorem okM_w {f : Nat → Int32} {s : Nat} {x : Int32} (hM : okM f) : okM (upd f (20 + s) x) := okM_of (fun j h1 h2 => pk_un (by omega)) hM
theorem okTm_w {f : Nat → Int32} {s : Nat} {x : Int32} (hT : okTm f) : okTm (upd f (20 + s) x) := okTm_of (pk_un (by omega)) hT
set_option maxHeartbeats 4000000 in
set_option maxRecDepth 100000 in
/-- volumeIn -/
theorem c_X10_volumeIn {l : Launch} {y : zY} {D : va_G} (q : Nat → Nat) (h : Nat → Nat → Int32) (s n : Nat) (hs : s < 2 ^ 32) (hn : n < 2 ^ 32) (hM : okM (h 1)) (hT : okTm (h 1)) : zM l y D yX10_volumeIn wsX10_volumeIn 6 138 [.ref (q 0), .int (nI s), .int (nI n)] (zMo y q h) (zMo y q (mxG h (viT s n) (va_up (h0t h) 3 (h 1)))) (some (.int (if viT s n = 0 then vmM (pn0 (h 1) n) s else nI 0))) := by
  refine z_start (own := RX10) (cc := cX10_volumeIn) (maxL := 5) (ret := (some .int)) rfl (by decide +kernel) rfl (Nat.le_of_ble_eq_true rfl) (zMo_fst _ _ _ _) ?_
  intro E hEl hEy hED hC hf
  subst hEl hEy hED
  have hkR : 0 ≤ E.2.2.2.2.2.1.cells ∧ 0 ≤ E.2.2.2.2.2.1.slots := ⟨Nat.zero_le _, Nat.zero_le _⟩
  refine z_cast (lv := [(0, .ref (q 0)), (1, .int (nI s)), (2, .int (nI n))]) (ws := (zMo (zy E) q h)) (st := []) ?_ rfl rfl rfl
  refine z_aload_n hC 0 rfl dX10_volumeIn_0 ?_
  refine z_iload_n hC 1 rfl dX10_volumeIn_1 ?_
  refine z_callS hC (As := [.int (nI s)]) (st := [.ref (q 0)]) (ws2 := zMo (zy E) q h) (B := []) (B' := []) (r := some (.int (isS (nI s)))) 1 (c_X10_isSite (nI s)) gX10_volumeIn_X10_isSite (by decide +kernel) rfl ⟨by decide, by decide⟩ [] rfl (by decide) rfl (Nat.le_of_ble_eq_true rfl) rfl rfl dX10_volumeIn_2 ?_ hkR
  refine z_iload_n hC 2 rfl dX10_volumeIn_5 ?_
  refine z_iconst hC (nI 0) (by decide +kernel) dX10_volumeIn_6 ?_
  refine z_bipush hC (nI 48) (by decide +kernel) dX10_volumeIn_7 ?_
  refine z_callS hC (As := [.int (nI n), .int (nI 0), .int (nI 48)]) (st := [.int (isS (nI s)), .ref (q 0)]) (ws2 := zMo (zy E) q h) (B := []) (B' := []) (r := some (.int (wi (nI n) (nI 0) (nI 48)))) 3 (c_X10_in (nI n) (nI 0) (nI 48)) gX10_volumeIn_X10_in (by decide +kernel) rfl ⟨by decide, by decide⟩ [] rfl (by decide) rfl (Nat.le_of_ble_eq_true rfl) rfl rfl dX10_volumeIn_9 ?_ hkR
  refine z_iconst hC (nI 1) (by decide +kernel) dX10_volumeIn_12 ?_
  by_cases s_13_1 : isS (nI s) = 0
  · by_cases s_13_2 : wi (nI n) (nI 0) (nI 48) = 0
    · refine z_callV hC (As := [.int (isS (nI s)), .int (wi (nI n) (nI 0) (nI 48)), .int (nI 1)]) (st := []) (ws2 := zMo (zy E) q (flG h (isS (nI s)) (wi (nI n) (nI 0) (nI 48)) (nI 1))) (B := zMo (zy E) q h) (B' := zMo (zy E) q (flG h (isS (nI s)) (wi (nI n) (nI 0) (nI 48)) (nI 1))) (r := some (.int (flR (isS (nI s)) (wi (nI n) (nI 0) (nI 48)) (nI 1)))) 3 (c_X10_fails q h (isS (nI s)) (wi (nI n) (nI 0) (nI 48)) (nI 1)) gX10_volumeIn_X10_fails (q0 := 0) (ci := 8) (by decide +kernel) rfl rfl rfl ⟨by decide, by decide⟩ [0, 1, 2, 3, 4, 5, 6] rfl (by decide) rfl (Nat.le_of_ble_eq_true rfl) rfl rfl dX10_volumeIn_13 ?_ hkR
      have pf_1 : flV (isS (nI s)) (wi (nI n) (nI 0) (nI 48)) (nI 1) = nI 1 := by rw [flV, if_pos s_13_1]
      refine z_top (nI 1) (by rw [flR, pf_1]; first | done | decide +kernel) ?_
      refine z_cast (lv := [(0, .ref (q 0)), (1, .int (nI s)), (2, .int (nI n))]) (ws := (zMo (zy E) q (va_up h 0 (upd (h 0) 1 (nI 1))))) (st := [.int (nI 1)]) ?_ rfl (by rw [flG, pf_1]) rfl
      refine z_if_eq hC 21 dX10_volumeIn_16 (by decide) (fun c_16 => ?_) (fun c_16 => ?_)
      · exact absurd c_16 (by decide +kernel)
      · refine z_iconst hC (nI 0) (by decide +kernel) dX10_volumeIn_19 ?_
        have pT : viT s n = 1 := by simp only [viT, if_pos s_13_1, if_pos s_13_2]
        exact z_iret hC hf rfl (by rw [pT]; rfl) (by unfold mxG; rw [pT]; rfl) dX10_volumeIn_20
    · have hn48 := (wi_lt hn (by omega) (by omega) s_13_2).2
      refine z_callV hC (As := [.int (isS (nI s)), .int (wi (nI n) (nI 0) (nI 48)), .int (nI 1)]) (st := []) (ws2 := zMo (zy E) q (flG h (isS (nI s)) (wi (nI n) (nI 0) (nI 48)) (nI 1))) (B := zMo (zy E) q h) (B' := zMo (zy E) q (flG h (isS (nI s)) (wi (nI n) (nI 0) (nI 48)) (nI 1))) (r := some (.int (flR (isS (nI s)) (wi (nI n) (nI 0) (nI 48)) (nI 1)))) 3 (c_X10_fails q h (isS (nI s)) (wi (nI n) (nI 0) (nI 48)) (nI 1)) gX10_volumeIn_X10_fails (q0 := 0) (ci := 8) (by decide +kernel) rfl rfl rfl ⟨by decide, by decide⟩ [0, 1, 2, 3, 4, 5, 6] rfl (by decide) rfl (Nat.le_of_ble_eq_true rfl) rfl rfl dX10_volumeIn_13 ?_ hkR
      have pf_2 : flV (isS (nI s)) (wi (nI n) (nI 0) (nI 48)) (nI 1) = nI 1 := by rw [flV, if_pos s_13_1]
      refine z_top (nI 1) (by rw [flR, pf_2]; first | done | decide +kernel) ?_
      refine z_cast (lv := [(0, .ref (q 0)), (1, .int (nI s)), (2, .int (nI n))]) (ws := (zMo (zy E) q (va_up h 0 (upd (h 0) 1 (nI 1))))) (st := [.int (nI 1)]) ?_ rfl (by rw [flG, pf_2]) rfl
      refine z_if_eq hC 21 dX10_volumeIn_16 (by decide) (fun c_16 => ?_) (fun c_16 => ?_)
      · exact absurd c_16 (by decide +kernel)
      · refine z_iconst hC (nI 0) (by decide +kernel) dX10_volumeIn_19 ?_
        have pT : viT s n = 1 := by simp only [viT, if_pos s_13_1, if_neg s_13_2]
        exact z_iret hC hf rfl (by rw [pT]; rfl) (by unfold mxG; rw [pT]; rfl) dX10_volumeIn_20
  · have hs8 := isS_lt hs s_13_1
    by_cases s_13_3 : wi (nI n) (nI 0) (nI 48) = 0
    · refine z_callV hC (As := [.int (isS (nI s)), .int (wi (nI n) (nI 0) (nI 48)), .int (nI 1)]) (st := []) (ws2 := zMo (zy E) q (flG h (isS (nI s)) (wi (nI n) (nI 0) (nI 48)) (nI 1))) (B := zMo (zy E) q h) (B' := zMo (zy E) q (flG h (isS (nI s)) (wi (nI n) (nI 0) (nI 48)) (nI 1))) (r := some (.int (flR (isS (nI s)) (wi (nI n) (nI 0) (nI 48)) (nI 1)))) 3 (c_X10_fails q h (isS (nI s)) (wi (nI n) (nI 0) (nI 48)) (nI 1)) gX10_volumeIn_X10_fails (q0 := 0) (ci := 8) (by decide +kernel) rfl rfl rfl ⟨by decide, by decide⟩ [0, 1, 2, 3, 4, 5, 6] rfl (by decide) rfl (Nat.le_of_ble_eq_true rfl) rfl rfl dX10_volumeIn_13 ?_ hkR
      have pf_3 : flV (isS (nI s)) (wi (nI n) (nI 0) (nI 48)) (nI 1) = nI 2 := by rw [flV, if_neg s_13_1, if_pos s_13_3]
      refine z_top (nI 1) (by rw [flR, pf_3]; first | done | decide +kernel) ?_
      refine z_cast (lv := [(0, .ref (q 0)), (1, .int (nI s)), (2, .int (nI n))]) (ws := (zMo (zy E) q (va_up h 0 (upd (h 0) 1 (nI 2))))) (st := [.int (nI 1)]) ?_ rfl (by rw [flG, pf_3]) rfl
      refine z_if_eq hC 21 dX10_volumeIn_16 (by decide) (fun c_16 => ?_) (fun c_16 => ?_)
      · exact absurd c_16 (by decide +kernel)
      · refine z_iconst hC (nI 0) (by decide +kernel) dX10_volumeIn_19 ?_
        have pT : viT s n = 2 := by simp only [viT, if_neg s_13_1, if_pos s_13_3]
        exact z_iret hC hf rfl (by rw [pT]; rfl) (by unfold mxG; rw [pT]; rfl) dX10_volumeIn_20
    · have hn48 := (wi_lt hn (by omega) (by omega) s_13_3).2
      refine z_callV hC (As := [.int (isS (nI s)), .int (wi (nI n) (nI 0) (nI 48)), .int (nI 1)]) (st := []) (ws2 := zMo (zy E) q (flG h (isS (nI s)) (wi (nI n) (nI 0) (nI 48)) (nI 1))) (B := zMo (zy E) q h) (B' := zMo (zy E) q (flG h (isS (nI s)) (wi (nI n) (nI 0) (nI 48)) (nI 1))) (r := some (.int (flR (isS (nI s)) (wi (nI n) (nI 0) (nI 48)) (nI 1)))) 3 (c_X10_fails q h (isS (nI s)) (wi (nI n) (nI 0) (nI 48)) (nI 1)) gX10_volumeIn_X10_fails (q0 := 0) (ci := 8) (by decide +kernel) rfl rfl rfl ⟨by decide, by decide⟩ [0, 1, 2, 3, 4, 5, 6] rfl (by decide) rfl (Nat.le_of_ble_eq_true rfl) rfl rfl dX10_volumeIn_13 ?_ hkR
      have pf_4 : flV (isS (nI s)) (wi (nI n) (nI 0) (nI 48)) (nI 1) = nI 0 := by rw [flV, if_neg s_13_1, if_neg s_13_3, if_neg (show ¬ nI 1 = 0 by decide +kernel)]
      refine z_top (nI 0) (by rw [flR, pf_4]; first | done | decide +kernel) ?_
      refine z_cast (lv := [(0, .ref (q 0)), (1, .int (nI s)), (2, .int (nI n))]) (ws := (zMo (zy E) q (va_up h 0 (upd (h 0) 1 (nI 0))))) (st := [.int (nI 0)]) ?_ rfl (by rw [flG, pf_4]) rfl
      refine z_if_eq hC 21 dX10_volumeIn_16 (by decide) (fun c_16 => ?_) (fun c_16 => ?_)
      · refine z_aload_n hC 0 rfl dX10_volumeIn_21 ?_
        refine z_callV hC (As := []) (st := []) (ws2 := zMo (zy E) q (va_up (va_up h 0 (upd (h 0) 1 (nI 0))) 3 ((va_up h 0 (upd (h 0) 1 (nI 0))) 1))) (B := zMo (zy E) q (va_up h 0 (upd (h 0) 1 (nI 0)))) (B' := zMo (zy E) q (va_up (va_up h 0 (upd (h 0) 1 (nI 0))) 3 ((va_up h 0 (upd (h 0) 1 (nI 0))) 1))) (r := none) 0 (c_X10_hold q (va_up h 0 (upd (h 0) 1 (nI 0)))) gX10_volumeIn_X10_hold (q0 := 0) (ci := 8) (by decide +kernel) rfl rfl rfl ⟨by decide, by decide⟩ [0, 1, 2, 3, 4, 5, 6] rfl (by decide) rfl (Nat.le_of_ble_eq_true rfl) rfl rfl dX10_volumeIn_22 ?_ hkR
        refine z_aload_n hC 0 rfl dX10_volumeIn_25 ?_
        refine z_iload_n hC 2 rfl dX10_volumeIn_26 ?_
        refine z_iconst hC (nI 0) (by decide +kernel) dX10_volumeIn_27 ?_
        refine z_callV hC (As := [.int (nI n), .int (nI 0)]) (st := []) (ws2 := zMo (zy E) q (va_up (va_up (va_up h 0 (upd (h 0) 1 (nI 0))) 3 ((va_up h 0 (upd (h 0) 1 (nI 0))) 1)) 1 (pn0 ((va_up (va_up h 0 (upd (h 0) 1 (nI 0))) 3 ((va_up h 0 (upd (h 0) 1 (nI 0))) 1)) 1) n))) (B := zMo (zy E) q (va_up (va_up h 0 (upd (h 0) 1 (nI 0))) 3 ((va_up h 0 (upd (h 0) 1 (nI 0))) 1))) (B' := zMo (zy E) q (va_up (va_up (va_up h 0 (upd (h 0) 1 (nI 0))) 3 ((va_up h 0 (upd (h 0) 1 (nI 0))) 1)) 1 (pn0 ((va_up (va_up h 0 (upd (h 0) 1 (nI 0))) 3 ((va_up h 0 (upd (h 0) 1 (nI 0))) 1)) 1) n))) (r := some (.int (pnS ((va_up (va_up h 0 (upd (h 0) 1 (nI 0))) 3 ((va_up h 0 (upd (h 0) 1 (nI 0))) 1)) 1) n))) 2 (c_X10_passAll_0 q (va_up (va_up h 0 (upd (h 0) 1 (nI 0))) 3 ((va_up h 0 (upd (h 0) 1 (nI 0))) 1)) n (by omega) (by first | exact hM | exact (ok_pn0 hM hT n).1) hT) gX10_volumeIn_X10_passAll (q0 := 0) (ci := 8) (by decide +kernel) rfl rfl rfl ⟨by decide, by decide⟩ [0, 1, 2, 3, 4, 5, 6] rfl (by decide) rfl (Nat.le_of_ble_eq_true rfl) rfl rfl dX10_volumeIn_28 ?_ hkR
        refine z_istore_n hC (by decide) (lv' := [(3, .int (pnS ((va_up (va_up h 0 (upd (h 0) 1 (nI 0))) 3 ((va_up h 0 (upd (h 0) 1 (nI 0))) 1)) 1) n)), (0, .ref (q 0)), (1, .int (nI s)), (2, .int (nI n))]) rfl dX10_volumeIn_31 ?_
        refine z_aload_n hC 1 rfl dX10_volumeIn_32 ?_
        refine z_iload_n hC 2 rfl dX10_volumeIn_33 ?_
        refine z_callV hC (As := [.int (nI s)]) (st := []) (ws2 := zMo (zy E) q (va_up (va_up (va_up h 0 (upd (h 0) 1 (nI 0))) 3 ((va_up h 0 (upd (h 0) 1 (nI 0))) 1)) 1 (pn0 ((va_up (va_up h 0 (upd (h 0) 1 (nI 0))) 3 ((va_up h 0 (upd (h 0) 1 (nI 0))) 1)) 1) n))) (B := zMo (zy E) q (va_up (va_up (va_up h 0 (upd (h 0) 1 (nI 0))) 3 ((va_up h 0 (upd (h 0) 1 (nI 0))) 1)) 1 (pn0 ((va_up (va_up h 0 (upd (h 0) 1 (nI 0))) 3 ((va_up h 0 (upd (h 0) 1 (nI 0))) 1)) 1) n))) (B' := zMo (zy E) q (va_up (va_up (va_up h 0 (upd (h 0) 1 (nI 0))) 3 ((va_up h 0 (upd (h 0) 1 (nI 0))) 1)) 1 (pn0 ((va_up (va_up h 0 (upd (h 0) 1 (nI 0))) 3 ((va_up h 0 (upd (h 0) 1 (nI 0))) 1)) 1) n))) (r := some (.int (vmS ((va_up (va_up (va_up h 0 (upd (h 0) 1 (nI 0))) 3 ((va_up h 0 (upd (h 0) 1 (nI 0))) 1)) 1 (pn0 ((va_up (va_up h 0 (upd (h 0) 1 (nI 0))) 3 ((va_up h 0 (upd (h 0) 1 (nI 0))) 1)) 1) n)) 1) s (zhm ((va_up (va_up (va_up h 0 (upd (h 0) 1 (nI 0))) 3 ((va_up h 0 (upd (h 0) 1 (nI 0))) 1)) 1 (pn0 ((va_up (va_up h 0 (upd (h 0) 1 (nI 0))) 3 ((va_up h 0 (upd (h 0) 1 (nI 0))) 1)) 1) n)) 1) s)))) 1 (c_X10_volumes q (va_up (va_up (va_up h 0 (upd (h 0) 1 (nI 0))) 3 ((va_up h 0 (upd (h 0) 1 (nI 0))) 1)) 1 (pn0 ((va_up (va_up h 0 (upd (h 0) 1 (nI 0))) 3 ((va_up h 0 (upd (h 0) 1 (nI 0))) 1)) 1) n)) s (by omega) (by first | exact hM | exact (ok_pn0 hM hT n).1)) gX10_volumeIn_X10_volumes (q0 := 0) (ci := 8) (by decide +kernel) rfl rfl rfl ⟨by decide, by decide⟩ [0, 1, 2, 3, 4, 5, 6] rfl (by decide) rfl (Nat.le_of_ble_eq_true rfl) rfl rfl dX10_volumeIn_34 ?_ hkR
        refine z_top (vmM (pn0 (h 1) n) s) rfl ?_
        refine z_istore hC (by decide) (lv' := [(4, .int (vmM (pn0 (h 1) n) s)), (3, .int (pnS ((va_up (va_up h 0 (upd (h 0) 1 (nI 0))) 3 ((va_up h 0 (upd (h 0) 1 (nI 0))) 1)) 1) n)), (0, .ref (q 0)), (1, .int (nI s)), (2, .int (nI n))]) rfl dX10_volumeIn_37 ?_
        refine z_aload_n hC 2 rfl dX10_volumeIn_39 ?_
        refine z_callV hC (As := []) (st := []) (ws2 := zMo (zy E) q (va_up (va_up (va_up (va_up h 0 (upd (h 0) 1 (nI 0))) 3 ((va_up h 0 (upd (h 0) 1 (nI 0))) 1)) 1 (pn0 ((va_up (va_up h 0 (upd (h 0) 1 (nI 0))) 3 ((va_up h 0 (upd (h 0) 1 (nI 0))) 1)) 1) n)) 1 ((va_up (va_up (va_up h 0 (upd (h 0) 1 (nI 0))) 3 ((va_up h 0 (upd (h 0) 1 (nI 0))) 1)) 1 (pn0 ((va_up (va_up h 0 (upd (h 0) 1 (nI 0))) 3 ((va_up h 0 (upd (h 0) 1 (nI 0))) 1)) 1) n)) 3))) (B := zMo (zy E) q (va_up (va_up (va_up h 0 (upd (h 0) 1 (nI 0))) 3 ((va_up h 0 (upd (h 0) 1 (nI 0))) 1)) 1 (pn0 ((va_up (va_up h 0 (upd (h 0) 1 (nI 0))) 3 ((va_up h 0 (upd (h 0) 1 (nI 0))) 1)) 1) n))) (B' := zMo (zy E) q (va_up (va_up (va_up (va_up h 0 (upd (h 0) 1 (nI 0))) 3 ((va_up h 0 (upd (h 0) 1 (nI 0))) 1)) 1 (pn0 ((va_up (va_up h 0 (upd (h 0) 1 (nI 0))) 3 ((va_up h 0 (upd (h 0) 1 (nI 0))) 1)) 1) n)) 1 ((va_up (va_up (va_up h 0 (upd (h 0) 1 (nI 0))) 3 ((va_up h 0 (upd (h 0) 1 (nI 0))) 1)) 1 (pn0 ((va_up (va_up h 0 (upd (h 0) 1 (nI 0))) 3 ((va_up h 0 (upd (h 0) 1 (nI 0))) 1)) 1) n)) 3))) (r := none) 0 (c_X10_putBack q (va_up (va_up (va_up h 0 (upd (h 0) 1 (nI 0))) 3 ((va_up h 0 (upd (h 0) 1 (nI 0))) 1)) 1 (pn0 ((va_up (va_up h 0 (upd (h 0) 1 (nI 0))) 3 ((va_up h 0 (upd (h 0) 1 (nI 0))) 1)) 1) n))) gX10_volumeIn_X10_putBack (q0 := 0) (ci := 8) (by decide +kernel) rfl rfl rfl ⟨by decide, by decide⟩ [0, 1, 2, 3, 4, 5, 6] rfl (by decide) rfl (Nat.le_of_ble_eq_true rfl) rfl rfl dX10_volumeIn_40 ?_ hkR
        refine z_iload hC 0 rfl dX10_volumeIn_43 ?_
        have pT : viT s n = 0 := by simp only [viT, if_neg s_13_1, if_neg s_13_3]
        exact z_iret hC hf rfl (by rw [pT]; rfl) (by unfold mxG; rw [pT]; rfl) dX10_volumeIn_45
      · exact absurd c_16 (by decide +kernel)

theorem iX10_goneIn_X10 : ∀ w ∈ u_ws RX10 TX10 15, w ∈ wsX10_goneIn := by decide +kernel
set_option maxHeartbeats 4000000 in
set_option maxRecDepth 100000 in
/-- goneIn -/
theorem c_X10_goneIn {l : Launch} {y : zY} {D : va_G} (q : Nat → Nat) (h : Nat → Nat → Int32) (s : Nat) (hs : s < 2 ^ 32) (hM : okM (h 1)) (hT : okTm (h 1)) : zM l y D yX10_goneIn wsX10_goneIn 5 114 [.ref (q 0), .int (nI s)] (zMo y q h) (zMo y q (mxG h (swT s) (va_up (h0t h) 3 (h 1)))) (some (.int (if swT s = 0 then gnM (h 1) s else nI 0))) := by
  refine z_start (own := RX10) (cc := cX10_goneIn) (maxL := 6) (ret := (some .int)) rfl (by decide +kernel) rfl (Nat.le_of_ble_eq_true rfl) (zMo_fst _ _ _ _) ?_
  intro E hEl hEy hED hC hf
  subst hEl hEy hED
  have hkR : 0 ≤ E.2.2.2.2.2.1.cells ∧ 0 ≤ E.2.2.2.2.2.1.slots := ⟨Nat.zero_le _, Nat.zero_le _⟩
  refine z_cast (lv := [(0, .ref (q 0)), (1, .int (nI s))]) (ws := (zMo (zy E) q h)) (st := []) ?_ rfl rfl rfl
  refine z_aload_n hC 0 rfl dX10_goneIn_0 ?_
  refine z_iload_n hC 1 rfl dX10_goneIn_1 ?_
  refine z_callS hC (As := [.int (nI s)]) (st := [.ref (q 0)]) (ws2 := zMo (zy E) q h) (B := []) (B' := []) (r := some (.int (isS (nI s)))) 1 (c_X10_isSite (nI s)) gX10_goneIn_X10_isSite (by decide +kernel) rfl ⟨by decide, by decide⟩ [] rfl (by decide) rfl (Nat.le_of_ble_eq_true rfl) rfl rfl dX10_goneIn_2 ?_ hkR
  refine z_iconst hC (nI 1) (by decide +kernel) dX10_goneIn_5 ?_
  refine z_iconst hC (nI 1) (by decide +kernel) dX10_goneIn_6 ?_
  by_cases s_7_1 : isS (nI s) = 0
  · refine z_callV hC (As := [.int (isS (nI s)), .int (nI 1), .int (nI 1)]) (st := []) (ws2 := zMo (zy E) q (flG h (isS (nI s)) (nI 1) (nI 1))) (B := zMo (zy E) q h) (B' := zMo (zy E) q (flG h (isS (nI s)) (nI 1) (nI 1))) (r := some (.int (flR (isS (nI s)) (nI 1) (nI 1)))) 3 (c_X10_fails q h (isS (nI s)) (nI 1) (nI 1)) gX10_goneIn_X10_fails (q0 := 0) (ci := 8) (by decide +kernel) rfl rfl rfl ⟨by decide, by decide⟩ [0, 1, 2, 3, 4, 5, 6] rfl (by decide) rfl (Nat.le_of_ble_eq_true rfl) rfl rfl dX10_goneIn_7 ?_ hkR
    have pf_1 : flV (isS (nI s)) (nI 1) (nI 1) = nI 1 := by rw [flV, if_pos s_7_1]
    refine z_top (nI 1) (by rw [flR, pf_1]; first | done | decide +kernel) ?_
    refine z_cast (lv := [(0, .ref (q 0)), (1, .int (nI s))]) (ws := (zMo (zy E) q (va_up h 0 (upd (h 0) 1 (nI 1))))) (st := [.int (nI 1)]) ?_ rfl (by rw [flG, pf_1]) rfl
    refine z_if_eq hC 15 dX10_goneIn_10 (by decide) (fun c_10 => ?_) (fun c_10 => ?_)
    · exact absurd c_10 (by decide +kernel)
    · refine z_iconst hC (nI 0) (by decide +kernel) dX10_goneIn_13 ?_
      have pT : swT s = 1 := by simp only [swT, if_pos s_7_1]
      exact z_iret hC hf rfl (by rw [pT]; rfl) (by unfold mxG; rw [pT]; rfl) dX10_goneIn_14
  · have hs8 := isS_lt hs s_7_1
    refine z_callV hC (As := [.int (isS (nI s)), .int (nI 1), .int (nI 1)]) (st := []) (ws2 := zMo (zy E) q (flG h (isS (nI s)) (nI 1) (nI 1))) (B := zMo (zy E) q h) (B' := zMo (zy E) q (flG h (isS (nI s)) (nI 1) (nI 1))) (r := some (.int (flR (isS (nI s)) (nI 1) (nI 1)))) 3 (c_X10_fails q h (isS (nI s)) (nI 1) (nI 1)) gX10_goneIn_X10_fails (q0 := 0) (ci := 8) (by decide +kernel) rfl rfl rfl ⟨by decide, by decide⟩ [0, 1, 2, 3, 4, 5, 6] rfl (by decide) rfl (Nat.le_of_ble_eq_true rfl) rfl rfl dX10_goneIn_7 ?_ hkR
    have pf_2 : flV (isS (nI s)) (nI 1) (nI 1) = nI 0 := by rw [flV, if_neg s_7_1, if_neg (show ¬ nI 1 = 0 by decide +kernel), if_neg (show ¬ nI 1 = 0 by decide +kernel)]
    refine z_top (nI 0) (by rw [flR, pf_2]; first | done | decide +kernel) ?_
    refine z_cast (lv := [(0, .ref (q 0)), (1, .int (nI s))]) (ws := (zMo (zy E) q (va_up h 0 (upd (h 0) 1 (nI 0))))) (st := [.int (nI 0)]) ?_ rfl (by rw [flG, pf_2]) rfl
    refine z_if_eq hC 15 dX10_goneIn_10 (by decide) (fun c_10 => ?_) (fun c_10 => ?_)
    · refine z_iconst hC ((-1)) (by decide +kernel) dX10_goneIn_15 ?_
      refine z_istore_n hC (by decide) (lv' := [(2, .int (-1)), (0, .ref (q 0)), (1, .int (nI s))]) rfl dX10_goneIn_16 ?_
      refine z_aload_n hC 1 rfl dX10_goneIn_17 ?_
      refine z_callV hC (As := []) (st := []) (ws2 := zMo (zy E) q (va_up (va_up h 0 (upd (h 0) 1 (nI 0))) 3 ((va_up h 0 (upd (h 0) 1 (nI 0))) 1))) (B := zMo (zy E) q (va_up h 0 (upd (h 0) 1 (nI 0)))) (B' := zMo (zy E) q (va_up (va_up h 0 (upd (h 0) 1 (nI 0))) 3 ((va_up h 0 (upd (h 0) 1 (nI 0))) 1))) (r := none) 0 (c_X10_hold q (va_up h 0 (upd (h 0) 1 (nI 0)))) gX10_goneIn_X10_hold (q0 := 0) (ci := 8) (by decide +kernel) rfl rfl rfl ⟨by decide, by decide⟩ [0, 1, 2, 3, 4, 5, 6] rfl (by decide) rfl (Nat.le_of_ble_eq_true rfl) rfl rfl dX10_goneIn_18 ?_ hkR
      refine z_aload_n hC 1 rfl dX10_goneIn_21 ?_
      refine z_get hC 0 8 0 (v := .ref (q 1)) rfl rfl iX10_goneIn_X10 (by decide) (List.mem_of_getElem? (i := 1) (by decide +kernel)) rfl rfl dX10_goneIn_22 ?_
      refine z_bipush hC (nI 12) (by decide +kernel) dX10_goneIn_25 ?_
      refine z_iload_n hC 2 rfl dX10_goneIn_27 ?_
      refine z_iadd hC dX10_goneIn_28 ?_
      refine z_top (nI (12 + s)) (nI_add _ _) ?_
      refine z_iald hC 1 (12 + s) (f := h 1) rfl rfl rfl (by omega) (by decide) dX10_goneIn_29 ?_
      refine z_top (h 1 (12 + s)) rfl ?_
      refine z_if_le hC 37 dX10_goneIn_30 (by decide) (fun c_30 => ?_) (fun c_30 => ?_)
      · refine z_iconst hC (nI 0) (by decide +kernel) dX10_goneIn_37 ?_
        refine z_istore_n hC (by decide) (lv' := [(3, .int (nI 0)), (2, .int (-1)), (0, .ref (q 0)), (1, .int (nI s))]) rfl dX10_goneIn_38 ?_
        refine z_iconst hC (nI 1) (by decide +kernel) dX10_goneIn_39 ?_
        refine z_istore hC (by decide) (lv' := [(4, .int (nI 1)), (3, .int (nI 0)), (2, .int (-1)), (0, .ref (q 0)), (1, .int (nI s))]) rfl dX10_goneIn_40 ?_
        have lp_42 : ∀ (d_42 i : Nat), 200 < i + d_42 → i ≤ 200 → (gsR (h 1) s (200 - i) i = gsR (h 1) s 200 0) → Z E 0 0 [(0, .ref (q 0)), (1, .int (nI s)), (2, .int (gfE (h 1) s i)), (3, .int (if pn0 (h 1) i (12 + s) ≤ 0 then nI 0 else nI 1)), (4, .int (nI (i + 1)))] (zMo (zy E) q (va_up (va_up (h0t h) 1 (pn0 (h 1) i)) 3 (h 1))) 42 [] := by
          intro d_42
          induction d_42 with
          | zero => intro i  q1 q2; omega
          | succ d_42 ih_42 =>
            intro i  q1_42 q2_42 hg
            refine z_iload hC 4 rfl dX10_goneIn_42 ?_
            refine z_sipush hC (nI 200) (by decide +kernel) dX10_goneIn_44 ?_
            refine z_icmp_gt hC 96 dX10_goneIn_47 (by decide) (fun c_47 => ?_) (fun c_47 => ?_)
            · have k_47 : 200 < (i + 1) := (nI_ltI (by omega) (by omega)).mp c_47
              have hgs : i = gsR (h 1) s 200 0 := gs_end (by omega) hg
              refine z_aload_n hC 0 rfl dX10_goneIn_96 ?_
              refine z_callV hC (As := []) (st := []) (ws2 := zMo (zy E) q (va_up (va_up (va_up (h0t h) 1 (pn0 (h 1) i)) 3 (h 1)) 1 ((va_up (va_up (h0t h) 1 (pn0 (h 1) i)) 3 (h 1)) 3))) (B := zMo (zy E) q (va_up (va_up (h0t h) 1 (pn0 (h 1) i)) 3 (h 1))) (B' := zMo (zy E) q (va_up (va_up (va_up (h0t h) 1 (pn0 (h 1) i)) 3 (h 1)) 1 ((va_up (va_up (h0t h) 1 (pn0 (h 1) i)) 3 (h 1)) 3))) (r := none) 0 (c_X10_putBack q (va_up (va_up (h0t h) 1 (pn0 (h 1) i)) 3 (h 1))) gX10_goneIn_X10_putBack (q0 := 0) (ci := 8) (by decide +kernel) rfl rfl rfl ⟨by decide, by decide⟩ [0, 1, 2, 3, 4, 5, 6] rfl (by decide) rfl (Nat.le_of_ble_eq_true rfl) rfl rfl dX10_goneIn_97 ?_ hkR
              refine z_iload_n hC 2 rfl dX10_goneIn_100 ?_
              have pT : swT s = 0 := by simp only [swT, if_neg s_7_1]
              exact z_iret hC hf rfl (by rw [pT, if_pos rfl, gnM, ← hgs]) (by unfold mxG; rw [pT]; rfl) dX10_goneIn_101
            · have k_47 : ¬ (200 < (i + 1)) := fun q => c_47 ((nI_ltI (by omega) (by omega)).mpr q)
              refine z_iload_n hC 3 rfl dX10_goneIn_50 ?_
              refine z_if_eq hC 96 dX10_goneIn_51 (by decide) (fun c_51 => ?_) (fun c_51 => ?_)
              · have hs0 := ite_0 c_51
                have hgs : i = gsR (h 1) s 200 0 := ((gs_step (by omega) hg).1 hs0).symm
                refine z_aload_n hC 0 rfl dX10_goneIn_96 ?_
                refine z_callV hC (As := []) (st := []) (ws2 := zMo (zy E) q (va_up (va_up (va_up (h0t h) 1 (pn0 (h 1) i)) 3 (h 1)) 1 ((va_up (va_up (h0t h) 1 (pn0 (h 1) i)) 3 (h 1)) 3))) (B := zMo (zy E) q (va_up (va_up (h0t h) 1 (pn0 (h 1) i)) 3 (h 1))) (B' := zMo (zy E) q (va_up (va_up (va_up (h0t h) 1 (pn0 (h 1) i)) 3 (h 1)) 1 ((va_up (va_up (h0t h) 1 (pn0 (h 1) i)) 3 (h 1)) 3))) (r := none) 0 (c_X10_putBack q (va_up (va_up (h0t h) 1 (pn0 (h 1) i)) 3 (h 1))) gX10_goneIn_X10_putBack (q0 := 0) (ci := 8) (by decide +kernel) rfl rfl rfl ⟨by decide, by decide⟩ [0, 1, 2, 3, 4, 5, 6] rfl (by decide) rfl (Nat.le_of_ble_eq_true rfl) rfl rfl dX10_goneIn_97 ?_ hkR
                refine z_iload_n hC 2 rfl dX10_goneIn_100 ?_
                have pT : swT s = 0 := by simp only [swT, if_neg s_7_1]
                exact z_iret hC hf rfl (by rw [pT, if_pos rfl, gnM, ← hgs]) (by unfold mxG; rw [pT]; rfl) dX10_goneIn_101
              · have hs1 := ite_1 c_51
                refine z_aload_n hC 0 rfl dX10_goneIn_54 ?_
                refine z_iconst hC (nI 0) (by decide +kernel) dX10_goneIn_55 ?_
                refine z_callV hC (As := [.int (nI 0)]) (st := []) (ws2 := zMo (zy E) q (va_up (va_up (va_up (h0t h) 1 (pn0 (h 1) i)) 3 (h 1)) 1 (paF0 ((va_up (va_up (h0t h) 1 (pn0 (h 1) i)) 3 (h 1)) 1)))) (B := zMo (zy E) q (va_up (va_up (h0t h) 1 (pn0 (h 1) i)) 3 (h 1))) (B' := zMo (zy E) q (va_up (va_up (va_up (h0t h) 1 (pn0 (h 1) i)) 3 (h 1)) 1 (paF0 ((va_up (va_up (h0t h) 1 (pn0 (h 1) i)) 3 (h 1)) 1)))) (r := some (.int (psA ((va_up (va_up (h0t h) 1 (pn0 (h 1) i)) 3 (h 1)) 1) 48))) 1 (c_X10_pass_0 q (va_up (va_up (h0t h) 1 (pn0 (h 1) i)) 3 (h 1)) (ok_pn0 hM hT i).1 (ok_pn0 hM hT i).2) gX10_goneIn_X10_pass (q0 := 0) (ci := 8) (by decide +kernel) rfl rfl rfl ⟨by decide, by decide⟩ [0, 1, 2, 3, 4, 5, 6] rfl (by decide) rfl (Nat.le_of_ble_eq_true rfl) rfl rfl dX10_goneIn_56 ?_ hkR
                obtain ⟨P9, hP9⟩ : ∃ P, pn0 (h 1) (i + 1) = P := ⟨_, rfl⟩
                refine z_cast (lv := [(0, .ref (q 0)), (1, .int (nI s)), (2, .int (gfE (h 1) s i)), (3, .int (if pn0 (h 1) i (12 + s) ≤ 0 then nI 0 else nI 1)), (4, .int (nI (i + 1)))]) (ws := (zMo (zy E) q (va_up (va_up (h0t h) 1 P9) 3 (h 1)))) (st := [.int (psA ((va_up (va_up (h0t h) 1 (pn0 (h 1) i)) 3 (h 1)) 1) 48)]) ?_ rfl (gn_cast _ q (h0t h) (h 1) ((pn0_S (h 1) i).trans hP9)) rfl
                refine z_istore hC (by decide) (lv' := [(5, .int (psA ((va_up (va_up (h0t h) 1 (pn0 (h 1) i)) 3 (h 1)) 1) 48)), (0, .ref (q 0)), (1, .int (nI s)), (2, .int (gfE (h 1) s i)), (3, .int (if pn0 (h 1) i (12 + s) ≤ 0 then nI 0 else nI 1)), (4, .int (nI (i + 1)))]) rfl dX10_goneIn_59 ?_
                refine z_aload_n hC 1 rfl dX10_goneIn_61 ?_
                refine z_get hC 0 8 0 (v := .ref (q 1)) rfl rfl iX10_goneIn_X10 (by decide) (List.mem_of_getElem? (i := 1) (by decide +kernel)) rfl rfl dX10_goneIn_62 ?_
                refine z_bipush hC (nI 12) (by decide +kernel) dX10_goneIn_65 ?_
                refine z_iload_n hC 2 rfl dX10_goneIn_67 ?_
                refine z_iadd hC dX10_goneIn_68 ?_
                refine z_top (nI (12 + s)) (nI_add _ _) ?_
                refine z_iald hC 1 (12 + s) (f := P9) rfl rfl rfl (by omega) (by decide) dX10_goneIn_69 ?_
                refine z_top (pn0 (h 1) (i + 1) (12 + s)) (congrFun hP9.symm (12 + s)) ?_
                refine z_if_le hC 77 dX10_goneIn_70 (by decide) (fun c_70 => ?_) (fun c_70 => ?_)
                · refine z_iconst hC (nI 0) (by decide +kernel) dX10_goneIn_77 ?_
                  refine z_istore_n hC (by decide) (lv' := [(3, .int (nI 0)), (5, .int (psA ((va_up (va_up (h0t h) 1 (pn0 (h 1) i)) 3 (h 1)) 1) 48)), (0, .ref (q 0)), (1, .int (nI s)), (2, .int (gfE (h 1) s i)), (4, .int (nI (i + 1)))]) rfl dX10_goneIn_78 ?_
                  refine z_iload_n hC 0 rfl dX10_goneIn_79 ?_
                  refine z_if_eq hC 87 dX10_goneIn_80 (by decide) (fun c_80 => ?_) (fun c_80 => ?_)
                  · refine z_iload hC 5 rfl dX10_goneIn_87 ?_
                    refine z_istore_n hC (by decide) (lv' := [(2, .int (nI (i + 1))), (3, .int (nI 0)), (5, .int (psA ((va_up (va_up (h0t h) 1 (pn0 (h 1) i)) 3 (h 1)) 1) 48)), (0, .ref (q 0)), (1, .int (nI s)), (4, .int (nI (i + 1)))]) rfl dX10_goneIn_89 ?_
                    refine z_iinc hC 5 (nI (i + 1 + 1)) rfl z_i1 (by decide) (lv' := [(4, .int (nI (i + 1 + 1))), (2, .int (nI (i + 1))), (3, .int (nI 0)), (5, .int (psA ((va_up (va_up (h0t h) 1 (pn0 (h 1) i)) 3 (h 1)) 1) 48)), (0, .ref (q 0)), (1, .int (nI s))]) rfl dX10_goneIn_90 ?_
                    refine z_goto hC 42 dX10_goneIn_93 (by decide) ?_
                    refine z_sub [4, 5, 1, 2, 0] (lv' := [(0, .ref (q 0)), (1, .int (nI s)), (2, .int (nI (i + 1))), (3, .int (nI 0)), (4, .int (nI (i + 1 + 1)))]) rfl ?_
                    exact z_cast (ih_42 (i + 1) (by omega) (by omega) ((gs_step (by omega) hg).2 hs1)) (by simp only [gfE, if_neg (Nat.succ_ne_zero i), if_pos c_70]) (by rw [hP9]) rfl
                  · exact absurd c_80 (by decide +kernel)
                · refine z_iconst hC (nI 1) (by decide +kernel) dX10_goneIn_73 ?_
                  refine z_goto hC 78 dX10_goneIn_74 (by decide) ?_
                  refine z_istore_n hC (by decide) (lv' := [(3, .int (nI 1)), (5, .int (psA ((va_up (va_up (h0t h) 1 (pn0 (h 1) i)) 3 (h 1)) 1) 48)), (0, .ref (q 0)), (1, .int (nI s)), (2, .int (gfE (h 1) s i)), (4, .int (nI (i + 1)))]) rfl dX10_goneIn_78 ?_
                  refine z_iload_n hC 0 rfl dX10_goneIn_79 ?_
                  refine z_if_eq hC 87 dX10_goneIn_80 (by decide) (fun c_80 => ?_) (fun c_80 => ?_)
                  · exact absurd c_80 (by decide +kernel)
                  · refine z_iconst hC ((-1)) (by decide +kernel) dX10_goneIn_83 ?_
                    refine z_goto hC 89 dX10_goneIn_84 (by decide) ?_
                    refine z_istore_n hC (by decide) (lv' := [(2, .int (-1)), (3, .int (nI 1)), (5, .int (psA ((va_up (va_up (h0t h) 1 (pn0 (h 1) i)) 3 (h 1)) 1) 48)), (0, .ref (q 0)), (1, .int (nI s)), (4, .int (nI (i + 1)))]) rfl dX10_goneIn_89 ?_
                    refine z_iinc hC 5 (nI (i + 1 + 1)) rfl z_i1 (by decide) (lv' := [(4, .int (nI (i + 1 + 1))), (2, .int (-1)), (3, .int (nI 1)), (5, .int (psA ((va_up (va_up (h0t h) 1 (pn0 (h 1) i)) 3 (h 1)) 1) 48)), (0, .ref (q 0)), (1, .int (nI s))]) rfl dX10_goneIn_90 ?_
                    refine z_goto hC 42 dX10_goneIn_93 (by decide) ?_
                    refine z_sub [4, 5, 1, 2, 0] (lv' := [(0, .ref (q 0)), (1, .int (nI s)), (2, .int (-1)), (3, .int (nI 1)), (4, .int (nI (i + 1 + 1)))]) rfl ?_
                    exact z_cast (ih_42 (i + 1) (by omega) (by omega) ((gs_step (by omega) hg).2 hs1)) (by simp only [gfE, if_neg (Nat.succ_ne_zero i), if_neg c_70]) (by rw [hP9]) rfl
        refine z_sub [3, 4, 2, 1, 0] (lv' := [(0, .ref (q 0)), (1, .int (nI s)), (2, .int (-1)), (3, .int (nI 0)), (4, .int (nI 1))]) rfl ?_
        exact z_cast (lp_42 (200 + 1) 0 (by omega) (by omega) (by rw [Nat.sub_zero])) (by rw [show (if pn0 (h 1) 0 (12 + s) ≤ 0 then nI 0 else nI 1) = nI 0 from if_pos c_30]; rfl) rfl rfl
      · refine z_iconst hC (nI 1) (by decide +kernel) dX10_goneIn_33 ?_
        refine z_goto hC 38 dX10_goneIn_34 (by decide) ?_
        refine z_istore_n hC (by decide) (lv' := [(3, .int (nI 1)), (2, .int (-1)), (0, .ref (q 0)), (1, .int (nI s))]) rfl dX10_goneIn_38 ?_
        refine z_iconst hC (nI 1) (by decide +kernel) dX10_goneIn_39 ?_
        refine z_istore hC (by decide) (lv' := [(4, .int (nI 1)), (3, .int (nI 1)), (2, .int (-1)), (0, .ref (q 0)), (1, .int (nI s))]) rfl dX10_goneIn_40 ?_
        have lp_42 : ∀ (d_42 i : Nat), 200 < i + d_42 → i ≤ 200 → (gsR (h 1) s (200 - i) i = gsR (h 1) s 200 0) → Z E 0 0 [(0, .ref (q 0)), (1, .int (nI s)), (2, .int (gfE (h 1) s i)), (3, .int (if pn0 (h 1) i (12 + s) ≤ 0 then nI 0 else nI 1)), (4, .int (nI (i + 1)))] (zMo (zy E) q (va_up (va_up (h0t h) 1 (pn0 (h 1) i)) 3 (h 1))) 42 [] := by
          intro d_42
          induction d_42 with
          | zero => intro i  q1 q2; omega
          | succ d_42 ih_42 =>
            intro i  q1_42 q2_42 hg
            refine z_iload hC 4 rfl dX10_goneIn_42 ?_
            refine z_sipush hC (nI 200) (by decide +kernel) dX10_goneIn_44 ?_
            refine z_icmp_gt hC 96 dX10_goneIn_47 (by decide) (fun c_47 => ?_) (fun c_47 => ?_)
            · have k_47 : 200 < (i + 1) := (nI_ltI (by omega) (by omega)).mp c_47
              have hgs : i = gsR (h 1) s 200 0 := gs_end (by omega) hg
              refine z_aload_n hC 0 rfl dX10_goneIn_96 ?_
              refine z_callV hC (As := []) (st := []) (ws2 := zMo (zy E) q (va_up (va_up (va_up (h0t h) 1 (pn0 (h 1) i)) 3 (h 1)) 1 ((va_up (va_up (h0t h) 1 (pn0 (h 1) i)) 3 (h 1)) 3))) (B := zMo (zy E) q (va_up (va_up (h0t h) 1 (pn0 (h 1) i)) 3 (h 1))) (B' := zMo (zy E) q (va_up (va_up (va_up (h0t h) 1 (pn0 (h 1) i)) 3 (h 1)) 1 ((va_up (va_up (h0t h) 1 (pn0 (h 1) i)) 3 (h 1)) 3))) (r := none) 0 (c_X10_putBack q (va_up (va_up (h0t h) 1 (pn0 (h 1) i)) 3 (h 1))) gX10_goneIn_X10_putBack (q0 := 0) (ci := 8) (by decide +kernel) rfl rfl rfl ⟨by decide, by decide⟩ [0, 1, 2, 3, 4, 5, 6] rfl (by decide) rfl (Nat.le_of_ble_eq_true rfl) rfl rfl dX10_goneIn_97 ?_ hkR
              refine z_iload_n hC 2 rfl dX10_goneIn_100 ?_
              have pT : swT s = 0 := by simp only [swT, if_neg s_7_1]
              exact z_iret hC hf rfl (by rw [pT, if_pos rfl, gnM, ← hgs]) (by unfold mxG; rw [pT]; rfl) dX10_goneIn_101
            · have k_47 : ¬ (200 < (i + 1)) := fun q => c_47 ((nI_ltI (by omega) (by omega)).mpr q)
              refine z_iload_n hC 3 rfl dX10_goneIn_50 ?_
              refine z_if_eq hC 96 dX10_goneIn_51 (by decide) (fun c_51 => ?_) (fun c_51 => ?_)
              · have hs0 := ite_0 c_51
                have hgs : i = gsR (h 1) s 200 0 := ((gs_step (by omega) hg).1 hs0).symm
                refine z_aload_n hC 0 rfl dX10_goneIn_96 ?_
                refine z_callV hC (As := []) (st := []) (ws2 := zMo (zy E) q (va_up (va_up (va_up (h0t h) 1 (pn0 (h 1) i)) 3 (h 1)) 1 ((va_up (va_up (h0t h) 1 (pn0 (h 1) i)) 3 (h 1)) 3))) (B := zMo (zy E) q (va_up (va_up (h0t h) 1 (pn0 (h 1) i)) 3 (h 1))) (B' := zMo (zy E) q (va_up (va_up (va_up (h0t h) 1 (pn0 (h 1) i)) 3 (h 1)) 1 ((va_up (va_up (h0t h) 1 (pn0 (h 1) i)) 3 (h 1)) 3))) (r := none) 0 (c_X10_putBack q (va_up (va_up (h0t h) 1 (pn0 (h 1) i)) 3 (h 1))) gX10_goneIn_X10_putBack (q0 := 0) (ci := 8) (by decide +kernel) rfl rfl rfl ⟨by decide, by decide⟩ [0, 1, 2, 3, 4, 5, 6] rfl (by decide) rfl (Nat.le_of_ble_eq_true rfl) rfl rfl dX10_goneIn_97 ?_ hkR
                refine z_iload_n hC 2 rfl dX10_goneIn_100 ?_
                have pT : swT s = 0 := by simp only [swT, if_neg s_7_1]
                exact z_iret hC hf rfl (by rw [pT, if_pos rfl, gnM, ← hgs]) (by unfold mxG; rw [pT]; rfl) dX10_goneIn_101
              · have hs1 := ite_1 c_51
                refine z_aload_n hC 0 rfl dX10_goneIn_54 ?_
                refine z_iconst hC (nI 0) (by decide +kernel) dX10_goneIn_55 ?_
                refine z_callV hC (As := [.int (nI 0)]) (st := []) (ws2 := zMo (zy E) q (va_up (va_up (va_up (h0t h) 1 (pn0 (h 1) i)) 3 (h 1)) 1 (paF0 ((va_up (va_up (h0t h) 1 (pn0 (h 1) i)) 3 (h 1)) 1)))) (B := zMo (zy E) q (va_up (va_up (h0t h) 1 (pn0 (h 1) i)) 3 (h 1))) (B' := zMo (zy E) q (va_up (va_up (va_up (h0t h) 1 (pn0 (h 1) i)) 3 (h 1)) 1 (paF0 ((va_up (va_up (h0t h) 1 (pn0 (h 1) i)) 3 (h 1)) 1)))) (r := some (.int (psA ((va_up (va_up (h0t h) 1 (pn0 (h 1) i)) 3 (h 1)) 1) 48))) 1 (c_X10_pass_0 q (va_up (va_up (h0t h) 1 (pn0 (h 1) i)) 3 (h 1)) (ok_pn0 hM hT i).1 (ok_pn0 hM hT i).2) gX10_goneIn_X10_pass (q0 := 0) (ci := 8) (by decide +kernel) rfl rfl rfl ⟨by decide, by decide⟩ [0, 1, 2, 3, 4, 5, 6] rfl (by decide) rfl (Nat.le_of_ble_eq_true rfl) rfl rfl dX10_goneIn_56 ?_ hkR
                obtain ⟨P9, hP9⟩ : ∃ P, pn0 (h 1) (i + 1) = P := ⟨_, rfl⟩
                refine z_cast (lv := [(0, .ref (q 0)), (1, .int (nI s)), (2, .int (gfE (h 1) s i)), (3, .int (if pn0 (h 1) i (12 + s) ≤ 0 then nI 0 else nI 1)), (4, .int (nI (i + 1)))]) (ws := (zMo (zy E) q (va_up (va_up (h0t h) 1 P9) 3 (h 1)))) (st := [.int (psA ((va_up (va_up (h0t h) 1 (pn0 (h 1) i)) 3 (h 1)) 1) 48)]) ?_ rfl (gn_cast _ q (h0t h) (h 1) ((pn0_S (h 1) i).trans hP9)) rfl
                refine z_istore hC (by decide) (lv' := [(5, .int (psA ((va_up (va_up (h0t h) 1 (pn0 (h 1) i)) 3 (h 1)) 1) 48)), (0, .ref (q 0)), (1, .int (nI s)), (2, .int (gfE (h 1) s i)), (3, .int (if pn0 (h 1) i (12 + s) ≤ 0 then nI 0 else nI 1)), (4, .int (nI (i + 1)))]) rfl dX10_goneIn_59 ?_
                refine z_aload_n hC 1 rfl dX10_goneIn_61 ?_
                refine z_get hC 0 8 0 (v := .ref (q 1)) rfl rfl iX10_goneIn_X10 (by decide) (List.mem_of_getElem? (i := 1) (by decide +kernel)) rfl rfl dX10_goneIn_62 ?_
                refine z_bipush hC (nI 12) (by decide +kernel) dX10_goneIn_65 ?_
                refine z_iload_n hC 2 rfl dX10_goneIn_67 ?_
                refine z_iadd hC dX10_goneIn_68 ?_
                refine z_top (nI (12 + s)) (nI_add _ _) ?_
                refine z_iald hC 1 (12 + s) (f := P9) rfl rfl rfl (by omega) (by decide) dX10_goneIn_69 ?_
                refine z_top (pn0 (h 1) (i + 1) (12 + s)) (congrFun hP9.symm (12 + s)) ?_
                refine z_if_le hC 77 dX10_goneIn_70 (by decide) (fun c_70 => ?_) (fun c_70 => ?_)
                · refine z_iconst hC (nI 0) (by decide +kernel) dX10_goneIn_77 ?_
                  refine z_istore_n hC (by decide) (lv' := [(3, .int (nI 0)), (5, .int (psA ((va_up (va_up (h0t h) 1 (pn0 (h 1) i)) 3 (h 1)) 1) 48)), (0, .ref (q 0)), (1, .int (nI s)), (2, .int (gfE (h 1) s i)), (4, .int (nI (i + 1)))]) rfl dX10_goneIn_78 ?_
                  refine z_iload_n hC 0 rfl dX10_goneIn_79 ?_
                  refine z_if_eq hC 87 dX10_goneIn_80 (by decide) (fun c_80 => ?_) (fun c_80 => ?_)
                  · refine z_iload hC 5 rfl dX10_goneIn_87 ?_
                    refine z_istore_n hC (by decide) (lv' := [(2, .int (nI (i + 1))), (3, .int (nI 0)), (5, .int (psA ((va_up (va_up (h0t h) 1 (pn0 (h 1) i)) 3 (h 1)) 1) 48)), (0, .ref (q 0)), (1, .int (nI s)), (4, .int (nI (i + 1)))]) rfl dX10_goneIn_89 ?_
                    refine z_iinc hC 5 (nI (i + 1 + 1)) rfl z_i1 (by decide) (lv' := [(4, .int (nI (i + 1 + 1))), (2, .int (nI (i + 1))), (3, .int (nI 0)), (5, .int (psA ((va_up (va_up (h0t h) 1 (pn0 (h 1) i)) 3 (h 1)) 1) 48)), (0, .ref (q 0)), (1, .int (nI s))]) rfl dX10_goneIn_90 ?_
                    refine z_goto hC 42 dX10_goneIn_93 (by decide) ?_
                    refine z_sub [4, 5, 1, 2, 0] (lv' := [(0, .ref (q 0)), (1, .int (nI s)), (2, .int (nI (i + 1))), (3, .int (nI 0)), (4, .int (nI (i + 1 + 1)))]) rfl ?_
                    exact z_cast (ih_42 (i + 1) (by omega) (by omega) ((gs_step (by omega) hg).2 hs1)) (by simp only [gfE, if_neg (Nat.succ_ne_zero i), if_pos c_70]) (by rw [hP9]) rfl
                  · exact absurd c_80 (by decide +kernel)
                · refine z_iconst hC (nI 1) (by decide +kernel) dX10_goneIn_73 ?_
                  refine z_goto hC 78 dX10_goneIn_74 (by decide) ?_
                  refine z_istore_n hC (by decide) (lv' := [(3, .int (nI 1)), (5, .int (psA ((va_up (va_up (h0t h) 1 (pn0 (h 1) i)) 3 (h 1)) 1) 48)), (0, .ref (q 0)), (1, .int (nI s)), (2, .int (gfE (h 1) s i)), (4, .int (nI (i + 1)))]) rfl dX10_goneIn_78 ?_
                  refine z_iload_n hC 0 rfl dX10_goneIn_79 ?_
                  refine z_if_eq hC 87 dX10_goneIn_80 (by decide) (fun c_80 => ?_) (fun c_80 => ?_)
                  · exact absurd c_80 (by decide +kernel)
                  · refine z_iconst hC ((-1)) (by decide +kernel) dX10_goneIn_83 ?_
                    refine z_goto hC 89 dX10_goneIn_84 (by decide) ?_
                    refine z_istore_n hC (by decide) (lv' := [(2, .int (-1)), (3, .int (nI 1)), (5, .int (psA ((va_up (va_up (h0t h) 1 (pn0 (h 1) i)) 3 (h 1)) 1) 48)), (0, .ref (q 0)), (1, .int (nI s)), (4, .int (nI (i + 1)))]) rfl dX10_goneIn_89 ?_
                    refine z_iinc hC 5 (nI (i + 1 + 1)) rfl z_i1 (by decide) (lv' := [(4, .int (nI (i + 1 + 1))), (2, .int (-1)), (3, .int (nI 1)), (5, .int (psA ((va_up (va_up (h0t h) 1 (pn0 (h 1) i)) 3 (h 1)) 1) 48)), (0, .ref (q 0)), (1, .int (nI s))]) rfl dX10_goneIn_90 ?_
                    refine z_goto hC 42 dX10_goneIn_93 (by decide) ?_
                    refine z_sub [4, 5, 1, 2, 0] (lv' := [(0, .ref (q 0)), (1, .int (nI s)), (2, .int (-1)), (3, .int (nI 1)), (4, .int (nI (i + 1 + 1)))]) rfl ?_
                    exact z_cast (ih_42 (i + 1) (by omega) (by omega) ((gs_step (by omega) hg).2 hs1)) (by simp only [gfE, if_neg (Nat.succ_ne_zero i), if_neg c_70]) (by rw [hP9]) rfl
        refine z_sub [3, 4, 2, 1, 0] (lv' := [(0, .ref (q 0)), (1, .int (nI s)), (2, .int (-1)), (3, .int (nI 1)), (4, .int (nI 1))]) rfl ?_
        exact z_cast (lp_42 (200 + 1) 0 (by omega) (by omega) (by rw [Nat.sub_zero])) (by rw [show (if pn0 (h 1) 0 (12 + s) ≤ 0 then nI 0 else nI 1) = nI 1 from if_neg c_30]; rfl) rfl rfl
    · exact absurd c_10 (by decide +kernel)

theorem iX10_best_X10 : ∀ w ∈ u_ws RX10 TX10 15, w ∈ wsX10_best := by decide +kernel
set_option maxHeartbeats 4000000 in
set_option maxRecDepth 100000 in
/-- best -/
theorem c_X10_best {l : Launch} {y : zY} {D : va_G} (q : Nat → Nat) (h : Nat → Nat → Int32) (hM : okM (h 1)) (hT : okTm (h 1)) : zM l y D yX10_best wsX10_best 6 138 [.ref (q 0)] (zMo y q h) (zMo y q (va_up h 3 (h 1))) (some (.int ((bsI (h 1) 8).1))) := by
  refine z_start (own := RX10) (cc := cX10_best) (maxL := 6) (ret := (some .int)) rfl (by decide +kernel) rfl (Nat.le_of_ble_eq_true rfl) (zMo_fst _ _ _ _) ?_
  intro E hEl hEy hED hC hf
  subst hEl hEy hED
  have hkR : 0 ≤ E.2.2.2.2.2.1.cells ∧ 0 ≤ E.2.2.2.2.2.1.slots := ⟨Nat.zero_le _, Nat.zero_le _⟩
  refine z_cast (lv := [(0, .ref (q 0))]) (ws := (zMo (zy E) q h)) (st := []) ?_ rfl rfl rfl
  refine z_iconst hC ((-1)) (by decide +kernel) dX10_best_0 ?_
  refine z_istore_n hC (by decide) (lv' := [(1, .int (-1)), (0, .ref (q 0))]) rfl dX10_best_1 ?_
  refine z_iconst hC (nI 0) (by decide +kernel) dX10_best_2 ?_
  refine z_istore_n hC (by decide) (lv' := [(2, .int (nI 0)), (1, .int (-1)), (0, .ref (q 0))]) rfl dX10_best_3 ?_
  refine z_aload_n hC 2 rfl dX10_best_4 ?_
  refine z_callV hC (As := []) (st := []) (ws2 := zMo (zy E) q (va_up h 3 (h 1))) (B := zMo (zy E) q h) (B' := zMo (zy E) q (va_up h 3 (h 1))) (r := none) 0 (c_X10_hold q h) gX10_best_X10_hold (q0 := 0) (ci := 8) (by decide +kernel) rfl rfl rfl ⟨by decide, by decide⟩ [0, 1, 2, 3, 4, 5, 6] rfl (by decide) rfl (Nat.le_of_ble_eq_true rfl) rfl rfl dX10_best_5 ?_ hkR
  refine z_aload_n hC 2 rfl dX10_best_8 ?_
  refine z_bipush hC (nI 12) (by decide +kernel) dX10_best_9 ?_
  refine z_iconst hC (nI 0) (by decide +kernel) dX10_best_11 ?_
  refine z_callV hC (As := [.int (nI 12), .int (nI 0)]) (st := []) (ws2 := zMo (zy E) q (va_up (va_up h 3 (h 1)) 1 (pn0 ((va_up h 3 (h 1)) 1) 12))) (B := zMo (zy E) q (va_up h 3 (h 1))) (B' := zMo (zy E) q (va_up (va_up h 3 (h 1)) 1 (pn0 ((va_up h 3 (h 1)) 1) 12))) (r := some (.int (pnS ((va_up h 3 (h 1)) 1) 12))) 2 (c_X10_passAll_0 q (va_up h 3 (h 1)) 12 (by decide) (by first | exact hM | exact okM_w hM) (by first | exact hT | exact okTm_w hT)) gX10_best_X10_passAll (q0 := 0) (ci := 8) (by decide +kernel) rfl rfl rfl ⟨by decide, by decide⟩ [0, 1, 2, 3, 4, 5, 6] rfl (by decide) rfl (Nat.le_of_ble_eq_true rfl) rfl rfl dX10_best_12 ?_ hkR
  refine z_top (pnS (h 1) 12) rfl ?_
  refine z_istore_n hC (by decide) (lv' := [(3, .int (pnS (h 1) 12)), (2, .int (nI 0)), (1, .int (-1)), (0, .ref (q 0))]) rfl dX10_best_15 ?_
  refine z_aload_n hC 3 rfl dX10_best_16 ?_
  refine z_callV hC (As := []) (st := []) (ws2 := zMo (zy E) q (va_up (va_up (va_up h 3 (h 1)) 1 (pn0 ((va_up h 3 (h 1)) 1) 12)) 1 ((va_up (va_up h 3 (h 1)) 1 (pn0 ((va_up h 3 (h 1)) 1) 12)) 3))) (B := zMo (zy E) q (va_up (va_up h 3 (h 1)) 1 (pn0 ((va_up h 3 (h 1)) 1) 12))) (B' := zMo (zy E) q (va_up (va_up (va_up h 3 (h 1)) 1 (pn0 ((va_up h 3 (h 1)) 1) 12)) 1 ((va_up (va_up h 3 (h 1)) 1 (pn0 ((va_up h 3 (h 1)) 1) 12)) 3))) (r := none) 0 (c_X10_putBack q (va_up (va_up h 3 (h 1)) 1 (pn0 ((va_up h 3 (h 1)) 1) 12))) gX10_best_X10_putBack (q0 := 0) (ci := 8) (by decide +kernel) rfl rfl rfl ⟨by decide, by decide⟩ [0, 1, 2, 3, 4, 5, 6] rfl (by decide) rfl (Nat.le_of_ble_eq_true rfl) rfl rfl dX10_best_17 ?_ hkR
  refine z_iconst hC (nI 0) (by decide +kernel) dX10_best_20 ?_
  refine z_istore hC (by decide) (lv' := [(4, .int (nI 0)), (3, .int (pnS (h 1) 12)), (2, .int (nI 0)), (1, .int (-1)), (0, .ref (q 0))]) rfl dX10_best_21 ?_
  have lp_23 : ∀ (d_23 s : Nat), 8 < s + d_23 → s ≤ 8 → Z E 0 0 [(0, .ref (q 0)), (1, .int ((bsI (h 1) s).1)), (2, .int ((bsI (h 1) s).2)), (3, .int (pnS (h 1) 12)), (4, .int (nI s))] (zMo (zy E) q (va_up h 3 (h 1))) 23 [] := by
    intro d_23
    induction d_23 with
    | zero => intro s  q1 q2; omega
    | succ d_23 ih_23 =>
      intro s  q1_23 q2_23 
      refine z_iload hC 4 rfl dX10_best_23 ?_
      refine z_bipush hC (nI 8) (by decide +kernel) dX10_best_25 ?_
      refine z_icmp_ge hC 101 dX10_best_27 (by decide) (fun c_27 => ?_) (fun c_27 => ?_)
      · have k_27 : 8 ≤ s := (nI_leI (by omega) (by omega)).mp c_27
        obtain rfl : s = 8 := by omega
        refine z_iload_n hC 1 rfl dX10_best_101 ?_
        exact z_iret hC hf rfl rfl rfl dX10_best_102
      · have k_27 : ¬ (8 ≤ s) := fun q => c_27 ((nI_leI (by omega) (by omega)).mpr q)
        refine z_aload_n hC 0 rfl dX10_best_30 ?_
        refine z_get hC 0 8 0 (v := .ref (q 1)) rfl rfl iX10_best_X10 (by decide) (List.mem_of_getElem? (i := 1) (by decide +kernel)) rfl rfl dX10_best_31 ?_
        refine z_bipush hC (nI 20) (by decide +kernel) dX10_best_34 ?_
        refine z_iload hC 4 rfl dX10_best_36 ?_
        refine z_iadd hC dX10_best_38 ?_
        refine z_top (nI (20 + s)) (nI_add _ _) ?_
        refine z_iald hC 1 (20 + s) (f := h 1) rfl rfl rfl (by omega) (by decide) dX10_best_39 ?_
        refine z_top (h 1 (20 + s)) rfl ?_
        refine z_if_ne hC 95 dX10_best_40 (by decide) (fun c_40 => ?_) (fun c_40 => ?_)
        · refine z_iinc hC 4 (nI (s + 1)) rfl z_i1 (by decide) (lv' := [(4, .int (nI (s + 1))), (0, .ref (q 0)), (1, .int ((bsI (h 1) s).1)), (2, .int ((bsI (h 1) s).2)), (3, .int (pnS (h 1) 12))]) rfl dX10_best_95 ?_
          refine z_goto hC 23 dX10_best_98 (by decide) ?_
          refine z_sub [1, 2, 3, 4, 0] (lv' := [(0, .ref (q 0)), (1, .int ((bsI (h 1) s).1)), (2, .int ((bsI (h 1) s).2)), (3, .int (pnS (h 1) 12)), (4, .int (nI (s + 1)))]) rfl ?_
          exact z_cast (ih_23 (s + 1) (by omega) (by omega)) (by rw [bs_0 c_40]) rfl rfl
        · refine z_aload_n hC 0 rfl dX10_best_43 ?_
          refine z_get hC 0 8 0 (v := .ref (q 1)) rfl rfl iX10_best_X10 (by decide) (List.mem_of_getElem? (i := 1) (by decide +kernel)) rfl rfl dX10_best_44 ?_
          refine z_bipush hC (nI 20) (by decide +kernel) dX10_best_47 ?_
          refine z_iload hC 4 rfl dX10_best_49 ?_
          refine z_iadd hC dX10_best_51 ?_
          refine z_top (nI (20 + s)) (nI_add _ _) ?_
          refine z_iconst hC (nI 1) (by decide +kernel) dX10_best_52 ?_
          refine z_iast hC 1 (20 + s) (nI 1) (ws' := zMo (zy E) q (va_up (va_up h 3 (h 1)) 1 (upd (h 1) (20 + s) (nI 1)))) rfl rfl rfl rfl (by omega) (by decide) rfl dX10_best_53 ?_
          refine z_iload_n hC 3 rfl dX10_best_54 ?_
          refine z_aload_n hC 0 rfl dX10_best_55 ?_
          refine z_bipush hC (nI 12) (by decide +kernel) dX10_best_56 ?_
          refine z_iconst hC (nI 0) (by decide +kernel) dX10_best_58 ?_
          refine z_callV hC (As := [.int (nI 12), .int (nI 0)]) (st := [.int (pnS (h 1) 12)]) (ws2 := zMo (zy E) q (va_up (va_up (va_up h 3 (h 1)) 1 (upd (h 1) (20 + s) (nI 1))) 1 (pn0 ((va_up (va_up h 3 (h 1)) 1 (upd (h 1) (20 + s) (nI 1))) 1) 12))) (B := zMo (zy E) q (va_up (va_up h 3 (h 1)) 1 (upd (h 1) (20 + s) (nI 1)))) (B' := zMo (zy E) q (va_up (va_up (va_up h 3 (h 1)) 1 (upd (h 1) (20 + s) (nI 1))) 1 (pn0 ((va_up (va_up h 3 (h 1)) 1 (upd (h 1) (20 + s) (nI 1))) 1) 12))) (r := some (.int (pnS ((va_up (va_up h 3 (h 1)) 1 (upd (h 1) (20 + s) (nI 1))) 1) 12))) 2 (c_X10_passAll_0 q (va_up (va_up h 3 (h 1)) 1 (upd (h 1) (20 + s) (nI 1))) 12 (by decide) (by first | exact hM | exact okM_w hM) (by first | exact hT | exact okTm_w hT)) gX10_best_X10_passAll (q0 := 0) (ci := 8) (by decide +kernel) rfl rfl rfl ⟨by decide, by decide⟩ [0, 1, 2, 3, 4, 5, 6] rfl (by decide) rfl (Nat.le_of_ble_eq_true rfl) rfl rfl dX10_best_59 ?_ hkR
          refine z_top (pnS (upd (h 1) (20 + s) (nI 1)) 12) rfl ?_
          refine z_isub hC dX10_best_62 ?_
          refine z_istore hC (by decide) (lv' := [(5, .int ((pnS (h 1) 12) - (pnS (upd (h 1) (20 + s) (nI 1)) 12))), (0, .ref (q 0)), (1, .int ((bsI (h 1) s).1)), (2, .int ((bsI (h 1) s).2)), (3, .int (pnS (h 1) 12)), (4, .int (nI s))]) rfl dX10_best_63 ?_
          refine z_aload_n hC 1 rfl dX10_best_65 ?_
          refine z_callV hC (As := []) (st := []) (ws2 := zMo (zy E) q (va_up (va_up (va_up (va_up h 3 (h 1)) 1 (upd (h 1) (20 + s) (nI 1))) 1 (pn0 ((va_up (va_up h 3 (h 1)) 1 (upd (h 1) (20 + s) (nI 1))) 1) 12)) 1 ((va_up (va_up (va_up h 3 (h 1)) 1 (upd (h 1) (20 + s) (nI 1))) 1 (pn0 ((va_up (va_up h 3 (h 1)) 1 (upd (h 1) (20 + s) (nI 1))) 1) 12)) 3))) (B := zMo (zy E) q (va_up (va_up (va_up h 3 (h 1)) 1 (upd (h 1) (20 + s) (nI 1))) 1 (pn0 ((va_up (va_up h 3 (h 1)) 1 (upd (h 1) (20 + s) (nI 1))) 1) 12))) (B' := zMo (zy E) q (va_up (va_up (va_up (va_up h 3 (h 1)) 1 (upd (h 1) (20 + s) (nI 1))) 1 (pn0 ((va_up (va_up h 3 (h 1)) 1 (upd (h 1) (20 + s) (nI 1))) 1) 12)) 1 ((va_up (va_up (va_up h 3 (h 1)) 1 (upd (h 1) (20 + s) (nI 1))) 1 (pn0 ((va_up (va_up h 3 (h 1)) 1 (upd (h 1) (20 + s) (nI 1))) 1) 12)) 3))) (r := none) 0 (c_X10_putBack q (va_up (va_up (va_up h 3 (h 1)) 1 (upd (h 1) (20 + s) (nI 1))) 1 (pn0 ((va_up (va_up h 3 (h 1)) 1 (upd (h 1) (20 + s) (nI 1))) 1) 12))) gX10_best_X10_putBack (q0 := 0) (ci := 8) (by decide +kernel) rfl rfl rfl ⟨by decide, by decide⟩ [0, 1, 2, 3, 4, 5, 6] rfl (by decide) rfl (Nat.le_of_ble_eq_true rfl) rfl rfl dX10_best_66 ?_ hkR
          refine z_iload hC 0 rfl dX10_best_69 ?_
          refine z_iload_n hC 3 rfl dX10_best_71 ?_
          refine z_icmp_le hC 80 dX10_best_72 (by decide) (fun c_72 => ?_) (fun c_72 => ?_)
          · refine z_iload_n hC 2 rfl dX10_best_80 ?_
            refine z_istore_n hC (by decide) (lv' := [(1, .int ((bsI (h 1) s).1)), (5, .int ((pnS (h 1) 12) - (pnS (upd (h 1) (20 + s) (nI 1)) 12))), (0, .ref (q 0)), (2, .int ((bsI (h 1) s).2)), (3, .int (pnS (h 1) 12)), (4, .int (nI s))]) rfl dX10_best_81 ?_
            refine z_iload hC 1 rfl dX10_best_82 ?_
            refine z_iload_n hC 3 rfl dX10_best_84 ?_
            refine z_icmp_le hC 93 dX10_best_85 (by decide) (fun c_85 => ?_) (fun c_85 => ?_)
            · refine z_iload_n hC 3 rfl dX10_best_93 ?_
              refine z_istore_n hC (by decide) (lv' := [(2, .int ((bsI (h 1) s).2)), (1, .int ((bsI (h 1) s).1)), (5, .int ((pnS (h 1) 12) - (pnS (upd (h 1) (20 + s) (nI 1)) 12))), (0, .ref (q 0)), (3, .int (pnS (h 1) 12)), (4, .int (nI s))]) rfl dX10_best_94 ?_
              refine z_iinc hC 5 (nI (s + 1)) rfl z_i1 (by decide) (lv' := [(4, .int (nI (s + 1))), (2, .int ((bsI (h 1) s).2)), (1, .int ((bsI (h 1) s).1)), (5, .int ((pnS (h 1) 12) - (pnS (upd (h 1) (20 + s) (nI 1)) 12))), (0, .ref (q 0)), (3, .int (pnS (h 1) 12))]) rfl dX10_best_95 ?_
              refine z_goto hC 23 dX10_best_98 (by decide) ?_
              refine z_sub [4, 2, 1, 5, 0] (lv' := [(0, .ref (q 0)), (1, .int ((bsI (h 1) s).1)), (2, .int ((bsI (h 1) s).2)), (3, .int (pnS (h 1) 12)), (4, .int (nI (s + 1)))]) rfl ?_
              exact z_cast (ih_23 (s + 1) (by omega) (by omega)) (by rw [bs_1 c_40 c_72]) rfl rfl
            · exact absurd c_72 c_85
          · refine z_iload hC 5 rfl dX10_best_75 ?_
            refine z_goto hC 81 dX10_best_77 (by decide) ?_
            refine z_istore_n hC (by decide) (lv' := [(1, .int (nI s)), (5, .int ((pnS (h 1) 12) - (pnS (upd (h 1) (20 + s) (nI 1)) 12))), (0, .ref (q 0)), (2, .int ((bsI (h 1) s).2)), (3, .int (pnS (h 1) 12)), (4, .int (nI s))]) rfl dX10_best_81 ?_
            refine z_iload hC 1 rfl dX10_best_82 ?_
            refine z_iload_n hC 3 rfl dX10_best_84 ?_
            refine z_icmp_le hC 93 dX10_best_85 (by decide) (fun c_85 => ?_) (fun c_85 => ?_)
            · exact absurd c_85 c_72
            · refine z_iload hC 1 rfl dX10_best_88 ?_
              refine z_goto hC 94 dX10_best_90 (by decide) ?_
              refine z_istore_n hC (by decide) (lv' := [(2, .int ((pnS (h 1) 12) - (pnS (upd (h 1) (20 + s) (nI 1)) 12))), (1, .int (nI s)), (5, .int ((pnS (h 1) 12) - (pnS (upd (h 1) (20 + s) (nI 1)) 12))), (0, .ref (q 0)), (3, .int (pnS (h 1) 12)), (4, .int (nI s))]) rfl dX10_best_94 ?_
              refine z_iinc hC 5 (nI (s + 1)) rfl z_i1 (by decide) (lv' := [(4, .int (nI (s + 1))), (2, .int ((pnS (h 1) 12) - (pnS (upd (h 1) (20 + s) (nI 1)) 12))), (1, .int (nI s)), (5, .int ((pnS (h 1) 12) - (pnS (upd (h 1) (20 + s) (nI 1)) 12))), (0, .ref (q 0)), (3, .int (pnS (h 1) 12))]) rfl dX10_best_95 ?_
              refine z_goto hC 23 dX10_best_98 (by decide) ?_
              refine z_sub [4, 2, 1, 5, 0] (lv' := [(0, .ref (q 0)), (1, .int (nI s)), (2, .int ((pnS (h 1) 12) - (pnS (upd (h 1) (20 + s) (nI 1)) 12))), (3, .int (pnS (h 1) 12)), (4, .int (nI (s + 1)))]) rfl ?_
              exact z_cast (ih_23 (s + 1) (by omega) (by omega)) (by rw [bs_2 c_40 c_72]) rfl rfl
  refine z_sub [4, 3, 2, 1, 0] (lv' := [(0, .ref (q 0)), (1, .int (-1)), (2, .int (nI 0)), (3, .int (pnS (h 1) 12)), (4, .int (nI 0))]) rfl ?_
  exact z_cast (lp_23 (8 + 1) 0 (by omega) (by omega)) rfl rfl rfl

theorem iX10_bestWall_X10 : ∀ w ∈ u_ws RX10 TX10 15, w ∈ wsX10_bestWall := by decide +kernel
set_option maxHeartbeats 4000000 in
set_option maxRecDepth 100000 in
/-- bestWall -/
theorem c_X10_bestWall {l : Launch} {y : zY} {D : va_G} (q : Nat → Nat) (h : Nat → Nat → Int32) (hM : okM (h 1)) (hT : okTm (h 1)) : zM l y D yX10_bestWall wsX10_bestWall 7 163 [.ref (q 0)] (zMo y q h) (zMo y q (va_up (h0t h) 3 (h 1))) (some (.int ((bsI (h 1) 8).1))) := by
  refine z_start (own := RX10) (cc := cX10_bestWall) (maxL := 1) (ret := (some .int)) rfl (by decide +kernel) rfl (Nat.le_of_ble_eq_true rfl) (zMo_fst _ _ _ _) ?_
  intro E hEl hEy hED hC hf
  subst hEl hEy hED
  have hkR : 0 ≤ E.2.2.2.2.2.1.cells ∧ 0 ≤ E.2.2.2.2.2.1.slots := ⟨Nat.zero_le _, Nat.zero_le _⟩
  refine z_cast (lv := [(0, .ref (q 0))]) (ws := (zMo (zy E) q h)) (st := []) ?_ rfl rfl rfl
  refine z_aload_n hC 0 rfl dX10_bestWall_0 ?_
  refine z_iconst hC (nI 0) (by decide +kernel) dX10_bestWall_1 ?_
  refine z_put hC 0 8 4 (ws' := zMo (zy E) q (va_up h 0 (upd (h 0) 1 (nI 0)))) tyX10 .int rfl rfl iX10_bestWall_X10 tyX10_ok nmX10 (by decide) (List.mem_of_getElem? (i := 1) (by decide +kernel)) rfl rfl (by decide +kernel) rfl rfl (Nat.le_of_ble_eq_true rfl) rfl dX10_bestWall_2 ?_
  refine z_aload_n hC 0 rfl dX10_bestWall_5 ?_
  refine z_callV hC (As := []) (st := []) (ws2 := zMo (zy E) q (va_up (va_up h 0 (upd (h 0) 1 (nI 0))) 3 ((va_up h 0 (upd (h 0) 1 (nI 0))) 1))) (B := zMo (zy E) q (va_up h 0 (upd (h 0) 1 (nI 0)))) (B' := zMo (zy E) q (va_up (va_up h 0 (upd (h 0) 1 (nI 0))) 3 ((va_up h 0 (upd (h 0) 1 (nI 0))) 1))) (r := some (.int ((bsI ((va_up h 0 (upd (h 0) 1 (nI 0))) 1) 8).1))) 0 (c_X10_best q (va_up h 0 (upd (h 0) 1 (nI 0))) hM hT) gX10_bestWall_X10_best (q0 := 0) (ci := 8) (by decide +kernel) rfl rfl rfl ⟨by decide, by decide⟩ [0, 1, 2, 3, 4, 5, 6] rfl (by decide) rfl (Nat.le_of_ble_eq_true rfl) rfl rfl dX10_bestWall_6 ?_ hkR
  exact z_iret hC hf rfl rfl rfl dX10_bestWall_9
