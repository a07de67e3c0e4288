/-! the model's changes: what is thrown; the row behind -/
theorem nI_of32 (x : Int32) : ∃ n : Nat, n < 2 ^ 32 ∧ x = nI n := ⟨x.toBitVec.toNat, x.toBitVec.isLt, by
  apply Int32.toBitVec_inj.mp
  apply BitVec.eq_of_toNat_eq
  rw [pk_tn x.toBitVec.isLt]⟩
theorem wi_lt {k a b : Nat} (hk : k < 2 ^ 32) (ha : a < 2 ^ 31) (hb : b < 2 ^ 31) (h : ¬ wi (nI k) (nI a) (nI b) = 0) : a ≤ k ∧ k ≤ b := by
  unfold wi at h
  split at h
  · exact absurd rfl h
  · split at h
    · exact absurd rfl h
    · rename_i h1 h2
      have h0 : ¬ nI k < 0 := by
        intro q
        apply h1
        rw [Int32.lt_iff_toInt_lt] at q ⊢
        rw [nI_toInt ha]
        have : (0 : Int32).toInt = 0 := rfl
        omega
      obtain ⟨j, hj, e⟩ := nI_of h0
      have e2 : k = j := by
        have := congrArg (fun v : Int32 => v.toBitVec.toNat) e
        simp only [pk_tn hk, pk_tn (show j < 2 ^ 32 by omega)] at this
        exact this
      subst e2
      rw [nI_ltI hj ha] at h1
      rw [nI_ltI hb hj] at h2
      omega
theorem isS_lt {k : Nat} (hk : k < 2 ^ 32) (h : ¬ isS (nI k) = 0) : k < 8 := by have := wi_lt hk (by omega) (by omega) h; omega
theorem isK_lt {k : Nat} (hk : k < 2 ^ 32) (h : ¬ isK (nI k) = 0) : k < 3 := by have := wi_lt hk (by omega) (by omega) h; omega
theorem isL_lt {k : Nat} (hk : k < 2 ^ 32) (h : ¬ isL (nI k) = 0) : k < 6 := by have := wi_lt hk (by omega) (by omega) h; omega
/-- a change that may fail: what is thrown, the memory behind, where nothing is -/
def mxG (h : Nat → Nat → Int32) (t : Nat) (g : Nat → Nat → Int32) : Nat → Nat → Int32 := if t = 0 then g else va_up h 0 (upd (h 0) 1 (nI t))
def h0t (h : Nat → Nat → Int32) : Nat → Nat → Int32 := va_up h 0 (upd (h 0) 1 (nI 0))
def asT (f : Nat → Int32) (u : Nat) : Nat := if wi (nI u) (nI 1) (nI 9999) = 0 then 1 else if nI 9999 < f 0 + nI u then 2 else 0
def asF (f : Nat → Int32) (u : Nat) : Nat → Int32 := upd f 0 (f 0 + nI u)
def prT (f : Nat → Int32) (k b : Nat) : Nat := if isK (nI k) = 0 then 1 else if wi (nI b) (nI 1) (nI 50) = 0 then 1 else if f 0 < nI (100 * b) then 2 else if nI 50 < f (1 + k) + nI b then 2 else 0
def prF (f : Nat → Int32) (k b : Nat) : Nat → Int32 := upd (upd (upd f 0 (f 0 - nI (100 * b))) (1 + k) (upd f 0 (f 0 - nI (100 * b)) (1 + k) + nI b)) 4 (upd (upd f 0 (f 0 - nI (100 * b))) (1 + k) (upd f 0 (f 0 - nI (100 * b)) (1 + k) + nI b) 4 + nI b)
def swT (s : Nat) : Nat := if isS (nI s) = 0 then 1 else 0
theorem iX10_addsSnow_X10 : ∀ w ∈ u_ws RX10 TX10 15, w ∈ wsX10_addsSnow := by decide +kernel
set_option maxHeartbeats 4000000 in
set_option maxRecDepth 100000 in
/-- addsSnow -/
theorem c_X10_addsSnow_0 {l : Launch} {y : zY} {D : va_G} (q : Nat → Nat) (h : Nat → Nat → Int32) (u : Nat) (hu : u < 2 ^ 32) : zM l y D yX10_addsSnow wsX10_addsSnow 1 23 [.ref (q 0), .int (nI u), .int (nI 0)] (zMo y q h) (zMo y q (mxG h (asT (h 1) u) (va_up (h0t h) 1 (asF (h 1) u)))) (some (.int (if asT (h 1) u = 0 then h 1 0 + nI u else nI 0))) := by
  refine z_start (own := RX10) (cc := cX10_addsSnow) (maxL := 3) (ret := (some .int)) rfl (by decide +kernel) rfl (Nat.le_of_ble_eq_true rfl) (zMo_fst _ _ _ _) ?_
  intro E hEl hEy hED hC hf
  subst hEl hEy hED
  have hkR : 0 ≤ E.2.2.2.2.2.1.cells ∧ 0 ≤ E.2.2.2.2.2.1.slots := ⟨Nat.zero_le _, Nat.zero_le _⟩
  refine z_cast (lv := [(0, .ref (q 0)), (1, .int (nI u)), (2, .int (nI 0))]) (ws := (zMo (zy E) q h)) (st := []) ?_ rfl rfl rfl
  refine z_aload_n hC 0 rfl dX10_addsSnow_0 ?_
  refine z_iload_n hC 1 rfl dX10_addsSnow_1 ?_
  refine z_iconst hC (nI 1) (by decide +kernel) dX10_addsSnow_2 ?_
  refine z_sipush hC (nI 9999) (by decide +kernel) dX10_addsSnow_3 ?_
  refine z_callS hC (As := [.int (nI u), .int (nI 1), .int (nI 9999)]) (st := [.ref (q 0)]) (ws2 := zMo (zy E) q h) (B := []) (B' := []) (r := some (.int (wi (nI u) (nI 1) (nI 9999)))) 3 (c_X10_in (nI u) (nI 1) (nI 9999)) gX10_addsSnow_X10_in (by decide +kernel) rfl ⟨by decide, by decide⟩ [] rfl (by decide) rfl (Nat.le_of_ble_eq_true rfl) rfl rfl dX10_addsSnow_6 ?_ hkR
  refine z_iload_n hC 1 rfl dX10_addsSnow_9 ?_
  refine z_iconst hC (nI 1) (by decide +kernel) dX10_addsSnow_10 ?_
  refine z_sipush hC (nI 9999) (by decide +kernel) dX10_addsSnow_11 ?_
  refine z_callS hC (As := [.int (nI u), .int (nI 1), .int (nI 9999)]) (st := [.int (wi (nI u) (nI 1) (nI 9999)), .ref (q 0)]) (ws2 := zMo (zy E) q h) (B := []) (B' := []) (r := some (.int (wi (nI u) (nI 1) (nI 9999)))) 3 (c_X10_in (nI u) (nI 1) (nI 9999)) gX10_addsSnow_X10_in (by decide +kernel) rfl ⟨by decide, by decide⟩ [] rfl (by decide) rfl (Nat.le_of_ble_eq_true rfl) rfl rfl dX10_addsSnow_14 ?_ hkR
  refine z_if_eq hC 38 dX10_addsSnow_17 (by decide) (fun c_17 => ?_) (fun c_17 => ?_)
  · refine z_iconst hC (nI 0) (by decide +kernel) dX10_addsSnow_38 ?_
    refine z_iconst hC (nI 1) (by decide +kernel) dX10_addsSnow_39 ?_
    refine z_callV hC (As := [.int (wi (nI u) (nI 1) (nI 9999)), .int (nI 0), .int (nI 1)]) (st := []) (ws2 := zMo (zy E) q (flG h (wi (nI u) (nI 1) (nI 9999)) (nI 0) (nI 1))) (B := zMo (zy E) q h) (B' := zMo (zy E) q (flG h (wi (nI u) (nI 1) (nI 9999)) (nI 0) (nI 1))) (r := some (.int (flR (wi (nI u) (nI 1) (nI 9999)) (nI 0) (nI 1)))) 3 (c_X10_fails q h (wi (nI u) (nI 1) (nI 9999)) (nI 0) (nI 1)) gX10_addsSnow_X10_fails (q0 := 0) (ci := 8) (by decide +kernel) rfl rfl rfl ⟨by decide, by decide⟩ [0, 1, 2, 3, 4, 5, 6] rfl (by decide) rfl (Nat.le_of_ble_eq_true rfl) rfl rfl dX10_addsSnow_40 ?_ hkR
    have pf_1 : flV (wi (nI u) (nI 1) (nI 9999)) (nI 0) (nI 1) = nI 1 := by rw [flV, if_pos c_17]
    refine z_top (nI 1) (by rw [flR, pf_1]; first | done | decide +kernel) ?_
    refine z_cast (lv := [(0, .ref (q 0)), (1, .int (nI u)), (2, .int (nI 0))]) (ws := (zMo (zy E) q (va_up h 0 (upd (h 0) 1 (nI 1))))) (st := [.int (nI 1)]) ?_ rfl (by rw [flG, pf_1]) rfl
    refine z_if_eq hC 48 dX10_addsSnow_43 (by decide) (fun c_43 => ?_) (fun c_43 => ?_)
    · exact absurd c_43 (by decide +kernel)
    · refine z_iconst hC (nI 0) (by decide +kernel) dX10_addsSnow_46 ?_
      have pT : asT (h 1) u = 1 := by simp only [asT, if_pos c_17]
      exact z_iret hC hf rfl (by rw [pT]; rfl) (by unfold mxG; rw [pT]; rfl) dX10_addsSnow_47
  · refine z_aload_n hC 0 rfl dX10_addsSnow_20 ?_
    refine z_get hC 0 8 0 (v := .ref (q 1)) rfl rfl iX10_addsSnow_X10 (by decide) (List.mem_of_getElem? (i := 1) (by decide +kernel)) rfl rfl dX10_addsSnow_21 ?_
    refine z_iconst hC (nI 0) (by decide +kernel) dX10_addsSnow_24 ?_
    refine z_iald hC 1 0 (f := h 1) rfl rfl rfl (by omega) (by decide) dX10_addsSnow_25 ?_
    refine z_iload_n hC 1 rfl dX10_addsSnow_26 ?_
    refine z_iadd hC dX10_addsSnow_27 ?_
    refine z_top (h 1 0 + nI u) rfl ?_
    refine z_sipush hC (nI 9999) (by decide +kernel) dX10_addsSnow_28 ?_
    refine z_icmp_gt hC 38 dX10_addsSnow_31 (by decide) (fun c_31 => ?_) (fun c_31 => ?_)
    · refine z_iconst hC (nI 0) (by decide +kernel) dX10_addsSnow_38 ?_
      refine z_iconst hC (nI 1) (by decide +kernel) dX10_addsSnow_39 ?_
      refine z_callV hC (As := [.int (wi (nI u) (nI 1) (nI 9999)), .int (nI 0), .int (nI 1)]) (st := []) (ws2 := zMo (zy E) q (flG h (wi (nI u) (nI 1) (nI 9999)) (nI 0) (nI 1))) (B := zMo (zy E) q h) (B' := zMo (zy E) q (flG h (wi (nI u) (nI 1) (nI 9999)) (nI 0) (nI 1))) (r := some (.int (flR (wi (nI u) (nI 1) (nI 9999)) (nI 0) (nI 1)))) 3 (c_X10_fails q h (wi (nI u) (nI 1) (nI 9999)) (nI 0) (nI 1)) gX10_addsSnow_X10_fails (q0 := 0) (ci := 8) (by decide +kernel) rfl rfl rfl ⟨by decide, by decide⟩ [0, 1, 2, 3, 4, 5, 6] rfl (by decide) rfl (Nat.le_of_ble_eq_true rfl) rfl rfl dX10_addsSnow_40 ?_ hkR
      have pf_2 : flV (wi (nI u) (nI 1) (nI 9999)) (nI 0) (nI 1) = nI 2 := by rw [flV, if_neg c_17, if_pos (show nI 0 = 0 by decide +kernel)]
      refine z_top (nI 1) (by rw [flR, pf_2]; first | done | decide +kernel) ?_
      refine z_cast (lv := [(0, .ref (q 0)), (1, .int (nI u)), (2, .int (nI 0))]) (ws := (zMo (zy E) q (va_up h 0 (upd (h 0) 1 (nI 2))))) (st := [.int (nI 1)]) ?_ rfl (by rw [flG, pf_2]) rfl
      refine z_if_eq hC 48 dX10_addsSnow_43 (by decide) (fun c_43 => ?_) (fun c_43 => ?_)
      · exact absurd c_43 (by decide +kernel)
      · refine z_iconst hC (nI 0) (by decide +kernel) dX10_addsSnow_46 ?_
        have pT : asT (h 1) u = 2 := by simp only [asT, if_neg c_17, if_pos c_31]
        exact z_iret hC hf rfl (by rw [pT]; rfl) (by unfold mxG; rw [pT]; rfl) dX10_addsSnow_47
    · refine z_iconst hC (nI 1) (by decide +kernel) dX10_addsSnow_34 ?_
      refine z_goto hC 39 dX10_addsSnow_35 (by decide) ?_
      refine z_iconst hC (nI 1) (by decide +kernel) dX10_addsSnow_39 ?_
      refine z_callV hC (As := [.int (wi (nI u) (nI 1) (nI 9999)), .int (nI 1), .int (nI 1)]) (st := []) (ws2 := zMo (zy E) q (flG h (wi (nI u) (nI 1) (nI 9999)) (nI 1) (nI 1))) (B := zMo (zy E) q h) (B' := zMo (zy E) q (flG h (wi (nI u) (nI 1) (nI 9999)) (nI 1) (nI 1))) (r := some (.int (flR (wi (nI u) (nI 1) (nI 9999)) (nI 1) (nI 1)))) 3 (c_X10_fails q h (wi (nI u) (nI 1) (nI 9999)) (nI 1) (nI 1)) gX10_addsSnow_X10_fails (q0 := 0) (ci := 8) (by decide +kernel) rfl rfl rfl ⟨by decide, by decide⟩ [0, 1, 2, 3, 4, 5, 6] rfl (by decide) rfl (Nat.le_of_ble_eq_true rfl) rfl rfl dX10_addsSnow_40 ?_ hkR
      have pf_3 : flV (wi (nI u) (nI 1) (nI 9999)) (nI 1) (nI 1) = nI 0 := by rw [flV, if_neg c_17, if_neg (show ¬ nI 1 = 0 by decide +kernel), if_neg (show ¬ nI 1 = 0 by decide +kernel)]
      refine z_top (nI 0) (by rw [flR, pf_3]; first | done | decide +kernel) ?_
      refine z_cast (lv := [(0, .ref (q 0)), (1, .int (nI u)), (2, .int (nI 0))]) (ws := (zMo (zy E) q (va_up h 0 (upd (h 0) 1 (nI 0))))) (st := [.int (nI 0)]) ?_ rfl (by rw [flG, pf_3]) rfl
      refine z_if_eq hC 48 dX10_addsSnow_43 (by decide) (fun c_43 => ?_) (fun c_43 => ?_)
      · refine z_iload_n hC 2 rfl dX10_addsSnow_48 ?_
        refine z_if_eq hC 56 dX10_addsSnow_49 (by decide) (fun c_49 => ?_) (fun c_49 => ?_)
        · refine z_aload_n hC 0 rfl dX10_addsSnow_56 ?_
          refine z_get hC 0 8 0 (v := .ref (q 1)) rfl rfl iX10_addsSnow_X10 (by decide) (List.mem_of_getElem? (i := 1) (by decide +kernel)) rfl rfl dX10_addsSnow_57 ?_
          refine z_iconst hC (nI 0) (by decide +kernel) dX10_addsSnow_60 ?_
          refine z_dup2 hC dX10_addsSnow_61 rfl rfl ?_
          refine z_iald hC 1 0 (f := h 1) rfl rfl rfl (by omega) (by decide) dX10_addsSnow_62 ?_
          refine z_iload_n hC 1 rfl dX10_addsSnow_63 ?_
          refine z_iadd hC dX10_addsSnow_64 ?_
          refine z_top (h 1 0 + nI u) rfl ?_
          refine z_iast hC 1 0 (h 1 0 + nI u) (ws' := zMo (zy E) q (va_up (va_up h 0 (upd (h 0) 1 (nI 0))) 1 (upd (h 1) 0 (h 1 0 + nI u)))) rfl rfl rfl rfl (by omega) (by decide) rfl dX10_addsSnow_65 ?_
          refine z_aload_n hC 0 rfl dX10_addsSnow_66 ?_
          refine z_get hC 0 8 0 (v := .ref (q 1)) rfl rfl iX10_addsSnow_X10 (by decide) (List.mem_of_getElem? (i := 1) (by decide +kernel)) rfl rfl dX10_addsSnow_67 ?_
          refine z_iconst hC (nI 0) (by decide +kernel) dX10_addsSnow_70 ?_
          refine z_iald hC 1 0 (f := upd (h 1) 0 (h 1 0 + nI u)) rfl rfl rfl (by omega) (by decide) dX10_addsSnow_71 ?_
          refine z_top (h 1 0 + nI u) pk_us ?_
          have pT : asT (h 1) u = 0 := by simp only [asT, if_neg c_17, if_neg c_31]
          exact z_iret hC hf rfl (by rw [pT]; rfl) (by unfold mxG; rw [pT]; rfl) dX10_addsSnow_72
        · exact absurd c_49 (by decide +kernel)
      · exact absurd c_43 (by decide +kernel)

theorem iX10_presses_X10 : ∀ w ∈ u_ws RX10 TX10 15, w ∈ wsX10_presses := by decide +kernel
set_option maxHeartbeats 4000000 in
set_option maxRecDepth 100000 in
/-- presses -/
theorem c_X10_presses_0 {l : Launch} {y : zY} {D : va_G} (q : Nat → Nat) (h : Nat → Nat → Int32) (k b : Nat) (hk : k < 2 ^ 32) (hb : b < 2 ^ 32) : zM l y D yX10_presses wsX10_presses 2 42 [.ref (q 0), .int (nI k), .int (nI b), .int (nI 0)] (zMo y q h) (zMo y q (mxG h (prT (h 1) k b) (va_up (h0t h) 1 (prF (h 1) k b)))) (some (.int (if prT (h 1) k b = 0 then prF (h 1) k b (1 + k) else nI 0))) := by
  refine z_start (own := RX10) (cc := cX10_presses) (maxL := 5) (ret := (some .int)) rfl (by decide +kernel) rfl (Nat.le_of_ble_eq_true rfl) (zMo_fst _ _ _ _) ?_
  intro E hEl hEy hED hC hf
  subst hEl hEy hED
  have hkR : 0 ≤ E.2.2.2.2.2.1.cells ∧ 0 ≤ E.2.2.2.2.2.1.slots := ⟨Nat.zero_le _, Nat.zero_le _⟩
  refine z_cast (lv := [(0, .ref (q 0)), (1, .int (nI k)), (2, .int (nI b)), (3, .int (nI 0))]) (ws := (zMo (zy E) q h)) (st := []) ?_ rfl rfl rfl
  refine z_iload_n hC 1 rfl dX10_presses_0 ?_
  refine z_callS hC (As := [.int (nI k)]) (st := []) (ws2 := zMo (zy E) q h) (B := []) (B' := []) (r := some (.int (isK (nI k)))) 1 (c_X10_isKind (nI k)) gX10_presses_X10_isKind (by decide +kernel) rfl ⟨by decide, by decide⟩ [] rfl (by decide) rfl (Nat.le_of_ble_eq_true rfl) rfl rfl dX10_presses_1 ?_ hkR
  refine z_if_eq hC 21 dX10_presses_4 (by decide) (fun c_4 => ?_) (fun c_4 => ?_)
  · refine z_iconst hC (nI 0) (by decide +kernel) dX10_presses_21 ?_
    refine z_istore hC (by decide) (lv' := [(4, .int (nI 0)), (0, .ref (q 0)), (1, .int (nI k)), (2, .int (nI b)), (3, .int (nI 0))]) rfl dX10_presses_22 ?_
    refine z_aload_n hC 1 rfl dX10_presses_24 ?_
    refine z_iload hC 0 rfl dX10_presses_25 ?_
    refine z_iload hC 0 rfl dX10_presses_27 ?_
    refine z_if_eq hC 64 dX10_presses_29 (by decide) (fun c_29 => ?_) (fun c_29 => ?_)
    · refine z_iconst hC (nI 0) (by decide +kernel) dX10_presses_64 ?_
      refine z_iconst hC (nI 1) (by decide +kernel) dX10_presses_65 ?_
      refine z_callV hC (As := [.int (nI 0), .int (nI 0), .int (nI 1)]) (st := []) (ws2 := zMo (zy E) q (flG h (nI 0) (nI 0) (nI 1))) (B := zMo (zy E) q h) (B' := zMo (zy E) q (flG h (nI 0) (nI 0) (nI 1))) (r := some (.int (flR (nI 0) (nI 0) (nI 1)))) 3 (c_X10_fails q h (nI 0) (nI 0) (nI 1)) gX10_presses_X10_fails (q0 := 0) (ci := 8) (by decide +kernel) rfl rfl rfl ⟨by decide, by decide⟩ [0, 1, 2, 3, 4, 5, 6] rfl (by decide) rfl (Nat.le_of_ble_eq_true rfl) rfl rfl dX10_presses_66 ?_ hkR
      have pf_1 : flV (nI 0) (nI 0) (nI 1) = nI 1 := by rw [flV, if_pos (show nI 0 = 0 by decide +kernel)]
      refine z_top (nI 1) (by rw [flR, pf_1]; first | done | decide +kernel) ?_
      refine z_cast (lv := [(4, .int (nI 0)), (0, .ref (q 0)), (1, .int (nI k)), (2, .int (nI b)), (3, .int (nI 0))]) (ws := (zMo (zy E) q (va_up h 0 (upd (h 0) 1 (nI 1))))) (st := [.int (nI 1)]) ?_ rfl (by rw [flG, pf_1]) rfl
      refine z_if_eq hC 74 dX10_presses_69 (by decide) (fun c_69 => ?_) (fun c_69 => ?_)
      · exact absurd c_69 (by decide +kernel)
      · refine z_iconst hC (nI 0) (by decide +kernel) dX10_presses_72 ?_
        have pT : prT (h 1) k b = 1 := by simp only [prT, if_pos c_4]
        exact z_iret hC hf rfl (by rw [pT]; rfl) (by unfold mxG; rw [pT]; rfl) dX10_presses_73
    · exact absurd c_29 (by decide +kernel)
  · have hk3 := isK_lt hk c_4
    refine z_iload_n hC 2 rfl dX10_presses_7 ?_
    refine z_iconst hC (nI 1) (by decide +kernel) dX10_presses_8 ?_
    refine z_bipush hC (nI 50) (by decide +kernel) dX10_presses_9 ?_
    refine z_callS hC (As := [.int (nI b), .int (nI 1), .int (nI 50)]) (st := []) (ws2 := zMo (zy E) q h) (B := []) (B' := []) (r := some (.int (wi (nI b) (nI 1) (nI 50)))) 3 (c_X10_in (nI b) (nI 1) (nI 50)) gX10_presses_X10_in (by decide +kernel) rfl ⟨by decide, by decide⟩ [] rfl (by decide) rfl (Nat.le_of_ble_eq_true rfl) rfl rfl dX10_presses_11 ?_ hkR
    refine z_if_eq hC 21 dX10_presses_14 (by decide) (fun c_14 => ?_) (fun c_14 => ?_)
    · refine z_iconst hC (nI 0) (by decide +kernel) dX10_presses_21 ?_
      refine z_istore hC (by decide) (lv' := [(4, .int (nI 0)), (0, .ref (q 0)), (1, .int (nI k)), (2, .int (nI b)), (3, .int (nI 0))]) rfl dX10_presses_22 ?_
      refine z_aload_n hC 1 rfl dX10_presses_24 ?_
      refine z_iload hC 0 rfl dX10_presses_25 ?_
      refine z_iload hC 0 rfl dX10_presses_27 ?_
      refine z_if_eq hC 64 dX10_presses_29 (by decide) (fun c_29 => ?_) (fun c_29 => ?_)
      · refine z_iconst hC (nI 0) (by decide +kernel) dX10_presses_64 ?_
        refine z_iconst hC (nI 1) (by decide +kernel) dX10_presses_65 ?_
        refine z_callV hC (As := [.int (nI 0), .int (nI 0), .int (nI 1)]) (st := []) (ws2 := zMo (zy E) q (flG h (nI 0) (nI 0) (nI 1))) (B := zMo (zy E) q h) (B' := zMo (zy E) q (flG h (nI 0) (nI 0) (nI 1))) (r := some (.int (flR (nI 0) (nI 0) (nI 1)))) 3 (c_X10_fails q h (nI 0) (nI 0) (nI 1)) gX10_presses_X10_fails (q0 := 0) (ci := 8) (by decide +kernel) rfl rfl rfl ⟨by decide, by decide⟩ [0, 1, 2, 3, 4, 5, 6] rfl (by decide) rfl (Nat.le_of_ble_eq_true rfl) rfl rfl dX10_presses_66 ?_ hkR
        have pf_2 : flV (nI 0) (nI 0) (nI 1) = nI 1 := by rw [flV, if_pos (show nI 0 = 0 by decide +kernel)]
        refine z_top (nI 1) (by rw [flR, pf_2]; first | done | decide +kernel) ?_
        refine z_cast (lv := [(4, .int (nI 0)), (0, .ref (q 0)), (1, .int (nI k)), (2, .int (nI b)), (3, .int (nI 0))]) (ws := (zMo (zy E) q (va_up h 0 (upd (h 0) 1 (nI 1))))) (st := [.int (nI 1)]) ?_ rfl (by rw [flG, pf_2]) rfl
        refine z_if_eq hC 74 dX10_presses_69 (by decide) (fun c_69 => ?_) (fun c_69 => ?_)
        · exact absurd c_69 (by decide +kernel)
        · refine z_iconst hC (nI 0) (by decide +kernel) dX10_presses_72 ?_
          have pT : prT (h 1) k b = 1 := by simp only [prT, if_neg c_4, if_pos c_14]
          exact z_iret hC hf rfl (by rw [pT]; rfl) (by unfold mxG; rw [pT]; rfl) dX10_presses_73
      · exact absurd c_29 (by decide +kernel)
    · refine z_iconst hC (nI 1) (by decide +kernel) dX10_presses_17 ?_
      refine z_goto hC 22 dX10_presses_18 (by decide) ?_
      refine z_istore hC (by decide) (lv' := [(4, .int (nI 1)), (0, .ref (q 0)), (1, .int (nI k)), (2, .int (nI b)), (3, .int (nI 0))]) rfl dX10_presses_22 ?_
      refine z_aload_n hC 1 rfl dX10_presses_24 ?_
      refine z_iload hC 0 rfl dX10_presses_25 ?_
      refine z_iload hC 0 rfl dX10_presses_27 ?_
      refine z_if_eq hC 64 dX10_presses_29 (by decide) (fun c_29 => ?_) (fun c_29 => ?_)
      · exact absurd c_29 (by decide +kernel)
      · refine z_aload_n hC 1 rfl dX10_presses_32 ?_
        refine z_get hC 0 8 0 (v := .ref (q 1)) rfl rfl iX10_presses_X10 (by decide) (List.mem_of_getElem? (i := 1) (by decide +kernel)) rfl rfl dX10_presses_33 ?_
        refine z_iconst hC (nI 0) (by decide +kernel) dX10_presses_36 ?_
        refine z_iald hC 1 0 (f := h 1) rfl rfl rfl (by omega) (by decide) dX10_presses_37 ?_
        refine z_bipush hC (nI 100) (by decide +kernel) dX10_presses_38 ?_
        refine z_iload_n hC 3 rfl dX10_presses_40 ?_
        refine z_imul hC dX10_presses_41 ?_
        refine z_top (nI (100 * b)) (pk_mul _ _) ?_
        refine z_icmp_lt hC 64 dX10_presses_42 (by decide) (fun c_42 => ?_) (fun c_42 => ?_)
        · refine z_iconst hC (nI 0) (by decide +kernel) dX10_presses_64 ?_
          refine z_iconst hC (nI 1) (by decide +kernel) dX10_presses_65 ?_
          refine z_callV hC (As := [.int (nI 1), .int (nI 0), .int (nI 1)]) (st := []) (ws2 := zMo (zy E) q (flG h (nI 1) (nI 0) (nI 1))) (B := zMo (zy E) q h) (B' := zMo (zy E) q (flG h (nI 1) (nI 0) (nI 1))) (r := some (.int (flR (nI 1) (nI 0) (nI 1)))) 3 (c_X10_fails q h (nI 1) (nI 0) (nI 1)) gX10_presses_X10_fails (q0 := 0) (ci := 8) (by decide +kernel) rfl rfl rfl ⟨by decide, by decide⟩ [0, 1, 2, 3, 4, 5, 6] rfl (by decide) rfl (Nat.le_of_ble_eq_true rfl) rfl rfl dX10_presses_66 ?_ hkR
          have pf_3 : flV (nI 1) (nI 0) (nI 1) = nI 2 := by rw [flV, if_neg (show ¬ nI 1 = 0 by decide +kernel), if_pos (show nI 0 = 0 by decide +kernel)]
          refine z_top (nI 1) (by rw [flR, pf_3]; first | done | decide +kernel) ?_
          refine z_cast (lv := [(4, .int (nI 1)), (0, .ref (q 0)), (1, .int (nI k)), (2, .int (nI b)), (3, .int (nI 0))]) (ws := (zMo (zy E) q (va_up h 0 (upd (h 0) 1 (nI 2))))) (st := [.int (nI 1)]) ?_ rfl (by rw [flG, pf_3]) rfl
          refine z_if_eq hC 74 dX10_presses_69 (by decide) (fun c_69 => ?_) (fun c_69 => ?_)
          · exact absurd c_69 (by decide +kernel)
          · refine z_iconst hC (nI 0) (by decide +kernel) dX10_presses_72 ?_
            have pT : prT (h 1) k b = 2 := by simp only [prT, if_neg c_4, if_neg c_14, if_pos c_42]
            exact z_iret hC hf rfl (by rw [pT]; rfl) (by unfold mxG; rw [pT]; rfl) dX10_presses_73
        · refine z_aload_n hC 1 rfl dX10_presses_45 ?_
          refine z_get hC 0 8 0 (v := .ref (q 1)) rfl rfl iX10_presses_X10 (by decide) (List.mem_of_getElem? (i := 1) (by decide +kernel)) rfl rfl dX10_presses_46 ?_
          refine z_iconst hC (nI 1) (by decide +kernel) dX10_presses_49 ?_
          refine z_iload_n hC 2 rfl dX10_presses_50 ?_
          refine z_iadd hC dX10_presses_51 ?_
          refine z_top (nI (1 + k)) (nI_add _ _) ?_
          refine z_iald hC 1 (1 + k) (f := h 1) rfl rfl rfl (by omega) (by decide) dX10_presses_52 ?_
          refine z_iload_n hC 3 rfl dX10_presses_53 ?_
          refine z_iadd hC dX10_presses_54 ?_
          refine z_bipush hC (nI 50) (by decide +kernel) dX10_presses_55 ?_
          refine z_icmp_gt hC 64 dX10_presses_57 (by decide) (fun c_57 => ?_) (fun c_57 => ?_)
          · refine z_iconst hC (nI 0) (by decide +kernel) dX10_presses_64 ?_
            refine z_iconst hC (nI 1) (by decide +kernel) dX10_presses_65 ?_
            refine z_callV hC (As := [.int (nI 1), .int (nI 0), .int (nI 1)]) (st := []) (ws2 := zMo (zy E) q (flG h (nI 1) (nI 0) (nI 1))) (B := zMo (zy E) q h) (B' := zMo (zy E) q (flG h (nI 1) (nI 0) (nI 1))) (r := some (.int (flR (nI 1) (nI 0) (nI 1)))) 3 (c_X10_fails q h (nI 1) (nI 0) (nI 1)) gX10_presses_X10_fails (q0 := 0) (ci := 8) (by decide +kernel) rfl rfl rfl ⟨by decide, by decide⟩ [0, 1, 2, 3, 4, 5, 6] rfl (by decide) rfl (Nat.le_of_ble_eq_true rfl) rfl rfl dX10_presses_66 ?_ hkR
            have pf_4 : flV (nI 1) (nI 0) (nI 1) = nI 2 := by rw [flV, if_neg (show ¬ nI 1 = 0 by decide +kernel), if_pos (show nI 0 = 0 by decide +kernel)]
            refine z_top (nI 1) (by rw [flR, pf_4]; first | done | decide +kernel) ?_
            refine z_cast (lv := [(4, .int (nI 1)), (0, .ref (q 0)), (1, .int (nI k)), (2, .int (nI b)), (3, .int (nI 0))]) (ws := (zMo (zy E) q (va_up h 0 (upd (h 0) 1 (nI 2))))) (st := [.int (nI 1)]) ?_ rfl (by rw [flG, pf_4]) rfl
            refine z_if_eq hC 74 dX10_presses_69 (by decide) (fun c_69 => ?_) (fun c_69 => ?_)
            · exact absurd c_69 (by decide +kernel)
            · refine z_iconst hC (nI 0) (by decide +kernel) dX10_presses_72 ?_
              have pT : prT (h 1) k b = 2 := by simp only [prT, if_neg c_4, if_neg c_14, if_neg c_42, if_pos c_57]
              exact z_iret hC hf rfl (by rw [pT]; rfl) (by unfold mxG; rw [pT]; rfl) dX10_presses_73
          · refine z_iconst hC (nI 1) (by decide +kernel) dX10_presses_60 ?_
            refine z_goto hC 65 dX10_presses_61 (by decide) ?_
            refine z_iconst hC (nI 1) (by decide +kernel) dX10_presses_65 ?_
            refine z_callV hC (As := [.int (nI 1), .int (nI 1), .int (nI 1)]) (st := []) (ws2 := zMo (zy E) q (flG h (nI 1) (nI 1) (nI 1))) (B := zMo (zy E) q h) (B' := zMo (zy E) q (flG h (nI 1) (nI 1) (nI 1))) (r := some (.int (flR (nI 1) (nI 1) (nI 1)))) 3 (c_X10_fails q h (nI 1) (nI 1) (nI 1)) gX10_presses_X10_fails (q0 := 0) (ci := 8) (by decide +kernel) rfl rfl rfl ⟨by decide, by decide⟩ [0, 1, 2, 3, 4, 5, 6] rfl (by decide) rfl (Nat.le_of_ble_eq_true rfl) rfl rfl dX10_presses_66 ?_ hkR
            have pf_5 : flV (nI 1) (nI 1) (nI 1) = nI 0 := by rw [flV, if_neg (show ¬ nI 1 = 0 by decide +kernel), if_neg (show ¬ nI 1 = 0 by decide +kernel), if_neg (show ¬ nI 1 = 0 by decide +kernel)]
            refine z_top (nI 0) (by rw [flR, pf_5]; first | done | decide +kernel) ?_
            refine z_cast (lv := [(4, .int (nI 1)), (0, .ref (q 0)), (1, .int (nI k)), (2, .int (nI b)), (3, .int (nI 0))]) (ws := (zMo (zy E) q (va_up h 0 (upd (h 0) 1 (nI 0))))) (st := [.int (nI 0)]) ?_ rfl (by rw [flG, pf_5]) rfl
            refine z_if_eq hC 74 dX10_presses_69 (by decide) (fun c_69 => ?_) (fun c_69 => ?_)
            · refine z_iload_n hC 4 rfl dX10_presses_74 ?_
              refine z_if_eq hC 82 dX10_presses_75 (by decide) (fun c_75 => ?_) (fun c_75 => ?_)
              · refine z_aload_n hC 1 rfl dX10_presses_82 ?_
                refine z_get hC 0 8 0 (v := .ref (q 1)) rfl rfl iX10_presses_X10 (by decide) (List.mem_of_getElem? (i := 1) (by decide +kernel)) rfl rfl dX10_presses_83 ?_
                refine z_iconst hC (nI 0) (by decide +kernel) dX10_presses_86 ?_
                refine z_dup2 hC dX10_presses_87 rfl rfl ?_
                refine z_iald hC 1 0 (f := h 1) rfl rfl rfl (by omega) (by decide) dX10_presses_88 ?_
                refine z_bipush hC (nI 100) (by decide +kernel) dX10_presses_89 ?_
                refine z_iload_n hC 3 rfl dX10_presses_91 ?_
                refine z_imul hC dX10_presses_92 ?_
                refine z_top (nI (100 * b)) (pk_mul _ _) ?_
                refine z_isub hC dX10_presses_93 ?_
                refine z_iast hC 1 0 (((h 1) 0) - (nI (100 * b))) (ws' := zMo (zy E) q (va_up (va_up h 0 (upd (h 0) 1 (nI 0))) 1 (upd (h 1) 0 (((h 1) 0) - (nI (100 * b)))))) rfl rfl rfl rfl (by omega) (by decide) rfl dX10_presses_94 ?_
                refine z_aload_n hC 1 rfl dX10_presses_95 ?_
                refine z_get hC 0 8 0 (v := .ref (q 1)) rfl rfl iX10_presses_X10 (by decide) (List.mem_of_getElem? (i := 1) (by decide +kernel)) rfl rfl dX10_presses_96 ?_
                refine z_iconst hC (nI 1) (by decide +kernel) dX10_presses_99 ?_
                refine z_iload_n hC 2 rfl dX10_presses_100 ?_
                refine z_iadd hC dX10_presses_101 ?_
                refine z_top (nI (1 + k)) (nI_add _ _) ?_
                refine z_dup2 hC dX10_presses_102 rfl rfl ?_
                refine z_iald hC 1 (1 + k) (f := upd (h 1) 0 (((h 1) 0) - (nI (100 * b)))) rfl rfl rfl (by omega) (by decide) dX10_presses_103 ?_
                refine z_iload_n hC 3 rfl dX10_presses_104 ?_
                refine z_iadd hC dX10_presses_105 ?_
                refine z_iast hC 1 (1 + k) (((upd (h 1) 0 (((h 1) 0) - (nI (100 * b)))) (1 + k)) + (nI b)) (ws' := zMo (zy E) q (va_up (va_up h 0 (upd (h 0) 1 (nI 0))) 1 (upd (upd (h 1) 0 (((h 1) 0) - (nI (100 * b)))) (1 + k) (((upd (h 1) 0 (((h 1) 0) - (nI (100 * b)))) (1 + k)) + (nI b))))) rfl rfl rfl rfl (by omega) (by decide) rfl dX10_presses_106 ?_
                refine z_aload_n hC 1 rfl dX10_presses_107 ?_
                refine z_get hC 0 8 0 (v := .ref (q 1)) rfl rfl iX10_presses_X10 (by decide) (List.mem_of_getElem? (i := 1) (by decide +kernel)) rfl rfl dX10_presses_108 ?_
                refine z_iconst hC (nI 4) (by decide +kernel) dX10_presses_111 ?_
                refine z_dup2 hC dX10_presses_112 rfl rfl ?_
                refine z_iald hC 1 4 (f := upd (upd (h 1) 0 (((h 1) 0) - (nI (100 * b)))) (1 + k) (((upd (h 1) 0 (((h 1) 0) - (nI (100 * b)))) (1 + k)) + (nI b))) rfl rfl rfl (by omega) (by decide) dX10_presses_113 ?_
                refine z_iload_n hC 3 rfl dX10_presses_114 ?_
                refine z_iadd hC dX10_presses_115 ?_
                refine z_iast hC 1 4 (((upd (upd (h 1) 0 (((h 1) 0) - (nI (100 * b)))) (1 + k) (((upd (h 1) 0 (((h 1) 0) - (nI (100 * b)))) (1 + k)) + (nI b))) 4) + (nI b)) (ws' := zMo (zy E) q (va_up (va_up h 0 (upd (h 0) 1 (nI 0))) 1 (upd (upd (upd (h 1) 0 (((h 1) 0) - (nI (100 * b)))) (1 + k) (((upd (h 1) 0 (((h 1) 0) - (nI (100 * b)))) (1 + k)) + (nI b))) 4 (((upd (upd (h 1) 0 (((h 1) 0) - (nI (100 * b)))) (1 + k) (((upd (h 1) 0 (((h 1) 0) - (nI (100 * b)))) (1 + k)) + (nI b))) 4) + (nI b))))) rfl rfl rfl rfl (by omega) (by decide) rfl dX10_presses_116 ?_
                refine z_aload_n hC 1 rfl dX10_presses_117 ?_
                refine z_get hC 0 8 0 (v := .ref (q 1)) rfl rfl iX10_presses_X10 (by decide) (List.mem_of_getElem? (i := 1) (by decide +kernel)) rfl rfl dX10_presses_118 ?_
                refine z_iconst hC (nI 1) (by decide +kernel) dX10_presses_121 ?_
                refine z_iload_n hC 2 rfl dX10_presses_122 ?_
                refine z_iadd hC dX10_presses_123 ?_
                refine z_top (nI (1 + k)) (nI_add _ _) ?_
                refine z_iald hC 1 (1 + k) (f := upd (upd (upd (h 1) 0 (((h 1) 0) - (nI (100 * b)))) (1 + k) (((upd (h 1) 0 (((h 1) 0) - (nI (100 * b)))) (1 + k)) + (nI b))) 4 (((upd (upd (h 1) 0 (((h 1) 0) - (nI (100 * b)))) (1 + k) (((upd (h 1) 0 (((h 1) 0) - (nI (100 * b)))) (1 + k)) + (nI b))) 4) + (nI b))) rfl rfl rfl (by omega) (by decide) dX10_presses_124 ?_
                have pT : prT (h 1) k b = 0 := by simp only [prT, if_neg c_4, if_neg c_14, if_neg c_42, if_neg c_57]
                exact z_iret hC hf rfl (by rw [pT]; rfl) (by unfold mxG; rw [pT]; rfl) dX10_presses_125
              · exact absurd c_75 (by decide +kernel)
            · exact absurd c_69 (by decide +kernel)

set_option maxHeartbeats 4000000 in
set_option maxRecDepth 100000 in
/-- addsSnow -/
theorem c_X10_addsSnow_1 {l : Launch} {y : zY} {D : va_G} (q : Nat → Nat) (h : Nat → Nat → Int32) (u : Nat) (hu : u < 2 ^ 32) (m : Nat) (hsv : h 0 0 = nI m) (hm4 : m ≤ 4) : zM l y D yX10_addsSnow wsX10_addsSnow 1 23 [.ref (q 0), .int (nI u), .int (nI 1)] (zMo y q h) (zMo y q (mxG h (asT (h 1) u) (va_up (svG (h0t h) m) 1 (asF (h 1) u)))) (some (.int (if asT (h 1) u = 0 then h 1 0 + nI u else nI 0))) := by
  refine z_start (own := RX10) (cc := cX10_addsSnow) (maxL := 3) (ret := (some .int)) rfl (by decide +kernel) rfl (Nat.le_of_ble_eq_true rfl) (zMo_fst _ _ _ _) ?_
  intro E hEl hEy hED hC hf
  subst hEl hEy hED
  have hkR : 0 ≤ E.2.2.2.2.2.1.cells ∧ 0 ≤ E.2.2.2.2.2.1.slots := ⟨Nat.zero_le _, Nat.zero_le _⟩
  refine z_cast (lv := [(0, .ref (q 0)), (1, .int (nI u)), (2, .int (nI 1))]) (ws := (zMo (zy E) q h)) (st := []) ?_ rfl rfl rfl
  refine z_aload_n hC 0 rfl dX10_addsSnow_0 ?_
  refine z_iload_n hC 1 rfl dX10_addsSnow_1 ?_
  refine z_iconst hC (nI 1) (by decide +kernel) dX10_addsSnow_2 ?_
  refine z_sipush hC (nI 9999) (by decide +kernel) dX10_addsSnow_3 ?_
  refine z_callS hC (As := [.int (nI u), .int (nI 1), .int (nI 9999)]) (st := [.ref (q 0)]) (ws2 := zMo (zy E) q h) (B := []) (B' := []) (r := some (.int (wi (nI u) (nI 1) (nI 9999)))) 3 (c_X10_in (nI u) (nI 1) (nI 9999)) gX10_addsSnow_X10_in (by decide +kernel) rfl ⟨by decide, by decide⟩ [] rfl (by decide) rfl (Nat.le_of_ble_eq_true rfl) rfl rfl dX10_addsSnow_6 ?_ hkR
  refine z_iload_n hC 1 rfl dX10_addsSnow_9 ?_
  refine z_iconst hC (nI 1) (by decide +kernel) dX10_addsSnow_10 ?_
  refine z_sipush hC (nI 9999) (by decide +kernel) dX10_addsSnow_11 ?_
  refine z_callS hC (As := [.int (nI u), .int (nI 1), .int (nI 9999)]) (st := [.int (wi (nI u) (nI 1) (nI 9999)), .ref (q 0)]) (ws2 := zMo (zy E) q h) (B := []) (B' := []) (r := some (.int (wi (nI u) (nI 1) (nI 9999)))) 3 (c_X10_in (nI u) (nI 1) (nI 9999)) gX10_addsSnow_X10_in (by decide +kernel) rfl ⟨by decide, by decide⟩ [] rfl (by decide) rfl (Nat.le_of_ble_eq_true rfl) rfl rfl dX10_addsSnow_14 ?_ hkR
  refine z_if_eq hC 38 dX10_addsSnow_17 (by decide) (fun c_17 => ?_) (fun c_17 => ?_)
  · refine z_iconst hC (nI 0) (by decide +kernel) dX10_addsSnow_38 ?_
    refine z_iconst hC (nI 1) (by decide +kernel) dX10_addsSnow_39 ?_
    refine z_callV hC (As := [.int (wi (nI u) (nI 1) (nI 9999)), .int (nI 0), .int (nI 1)]) (st := []) (ws2 := zMo (zy E) q (flG h (wi (nI u) (nI 1) (nI 9999)) (nI 0) (nI 1))) (B := zMo (zy E) q h) (B' := zMo (zy E) q (flG h (wi (nI u) (nI 1) (nI 9999)) (nI 0) (nI 1))) (r := some (.int (flR (wi (nI u) (nI 1) (nI 9999)) (nI 0) (nI 1)))) 3 (c_X10_fails q h (wi (nI u) (nI 1) (nI 9999)) (nI 0) (nI 1)) gX10_addsSnow_X10_fails (q0 := 0) (ci := 8) (by decide +kernel) rfl rfl rfl ⟨by decide, by decide⟩ [0, 1, 2, 3, 4, 5, 6] rfl (by decide) rfl (Nat.le_of_ble_eq_true rfl) rfl rfl dX10_addsSnow_40 ?_ hkR
    have pf_1 : flV (wi (nI u) (nI 1) (nI 9999)) (nI 0) (nI 1) = nI 1 := by rw [flV, if_pos c_17]
    refine z_top (nI 1) (by rw [flR, pf_1]; first | done | decide +kernel) ?_
    refine z_cast (lv := [(0, .ref (q 0)), (1, .int (nI u)), (2, .int (nI 1))]) (ws := (zMo (zy E) q (va_up h 0 (upd (h 0) 1 (nI 1))))) (st := [.int (nI 1)]) ?_ rfl (by rw [flG, pf_1]) rfl
    refine z_if_eq hC 48 dX10_addsSnow_43 (by decide) (fun c_43 => ?_) (fun c_43 => ?_)
    · exact absurd c_43 (by decide +kernel)
    · refine z_iconst hC (nI 0) (by decide +kernel) dX10_addsSnow_46 ?_
      have pT : asT (h 1) u = 1 := by simp only [asT, if_pos c_17]
      exact z_iret hC hf rfl (by rw [pT]; rfl) (by unfold mxG; rw [pT]; rfl) dX10_addsSnow_47
  · refine z_aload_n hC 0 rfl dX10_addsSnow_20 ?_
    refine z_get hC 0 8 0 (v := .ref (q 1)) rfl rfl iX10_addsSnow_X10 (by decide) (List.mem_of_getElem? (i := 1) (by decide +kernel)) rfl rfl dX10_addsSnow_21 ?_
    refine z_iconst hC (nI 0) (by decide +kernel) dX10_addsSnow_24 ?_
    refine z_iald hC 1 0 (f := h 1) rfl rfl rfl (by omega) (by decide) dX10_addsSnow_25 ?_
    refine z_iload_n hC 1 rfl dX10_addsSnow_26 ?_
    refine z_iadd hC dX10_addsSnow_27 ?_
    refine z_top (h 1 0 + nI u) rfl ?_
    refine z_sipush hC (nI 9999) (by decide +kernel) dX10_addsSnow_28 ?_
    refine z_icmp_gt hC 38 dX10_addsSnow_31 (by decide) (fun c_31 => ?_) (fun c_31 => ?_)
    · refine z_iconst hC (nI 0) (by decide +kernel) dX10_addsSnow_38 ?_
      refine z_iconst hC (nI 1) (by decide +kernel) dX10_addsSnow_39 ?_
      refine z_callV hC (As := [.int (wi (nI u) (nI 1) (nI 9999)), .int (nI 0), .int (nI 1)]) (st := []) (ws2 := zMo (zy E) q (flG h (wi (nI u) (nI 1) (nI 9999)) (nI 0) (nI 1))) (B := zMo (zy E) q h) (B' := zMo (zy E) q (flG h (wi (nI u) (nI 1) (nI 9999)) (nI 0) (nI 1))) (r := some (.int (flR (wi (nI u) (nI 1) (nI 9999)) (nI 0) (nI 1)))) 3 (c_X10_fails q h (wi (nI u) (nI 1) (nI 9999)) (nI 0) (nI 1)) gX10_addsSnow_X10_fails (q0 := 0) (ci := 8) (by decide +kernel) rfl rfl rfl ⟨by decide, by decide⟩ [0, 1, 2, 3, 4, 5, 6] rfl (by decide) rfl (Nat.le_of_ble_eq_true rfl) rfl rfl dX10_addsSnow_40 ?_ hkR
      have pf_2 : flV (wi (nI u) (nI 1) (nI 9999)) (nI 0) (nI 1) = nI 2 := by rw [flV, if_neg c_17, if_pos (show nI 0 = 0 by decide +kernel)]
      refine z_top (nI 1) (by rw [flR, pf_2]; first | done | decide +kernel) ?_
      refine z_cast (lv := [(0, .ref (q 0)), (1, .int (nI u)), (2, .int (nI 1))]) (ws := (zMo (zy E) q (va_up h 0 (upd (h 0) 1 (nI 2))))) (st := [.int (nI 1)]) ?_ rfl (by rw [flG, pf_2]) rfl
      refine z_if_eq hC 48 dX10_addsSnow_43 (by decide) (fun c_43 => ?_) (fun c_43 => ?_)
      · exact absurd c_43 (by decide +kernel)
      · refine z_iconst hC (nI 0) (by decide +kernel) dX10_addsSnow_46 ?_
        have pT : asT (h 1) u = 2 := by simp only [asT, if_neg c_17, if_pos c_31]
        exact z_iret hC hf rfl (by rw [pT]; rfl) (by unfold mxG; rw [pT]; rfl) dX10_addsSnow_47
    · refine z_iconst hC (nI 1) (by decide +kernel) dX10_addsSnow_34 ?_
      refine z_goto hC 39 dX10_addsSnow_35 (by decide) ?_
      refine z_iconst hC (nI 1) (by decide +kernel) dX10_addsSnow_39 ?_
      refine z_callV hC (As := [.int (wi (nI u) (nI 1) (nI 9999)), .int (nI 1), .int (nI 1)]) (st := []) (ws2 := zMo (zy E) q (flG h (wi (nI u) (nI 1) (nI 9999)) (nI 1) (nI 1))) (B := zMo (zy E) q h) (B' := zMo (zy E) q (flG h (wi (nI u) (nI 1) (nI 9999)) (nI 1) (nI 1))) (r := some (.int (flR (wi (nI u) (nI 1) (nI 9999)) (nI 1) (nI 1)))) 3 (c_X10_fails q h (wi (nI u) (nI 1) (nI 9999)) (nI 1) (nI 1)) gX10_addsSnow_X10_fails (q0 := 0) (ci := 8) (by decide +kernel) rfl rfl rfl ⟨by decide, by decide⟩ [0, 1, 2, 3, 4, 5, 6] rfl (by decide) rfl (Nat.le_of_ble_eq_true rfl) rfl rfl dX10_addsSnow_40 ?_ hkR
      have pf_3 : flV (wi (nI u) (nI 1) (nI 9999)) (nI 1) (nI 1) = nI 0 := by rw [flV, if_neg c_17, if_neg (show ¬ nI 1 = 0 by decide +kernel), if_neg (show ¬ nI 1 = 0 by decide +kernel)]
      refine z_top (nI 0) (by rw [flR, pf_3]; first | done | decide +kernel) ?_
      refine z_cast (lv := [(0, .ref (q 0)), (1, .int (nI u)), (2, .int (nI 1))]) (ws := (zMo (zy E) q (va_up h 0 (upd (h 0) 1 (nI 0))))) (st := [.int (nI 0)]) ?_ rfl (by rw [flG, pf_3]) rfl
      refine z_if_eq hC 48 dX10_addsSnow_43 (by decide) (fun c_43 => ?_) (fun c_43 => ?_)
      · refine z_iload_n hC 2 rfl dX10_addsSnow_48 ?_
        refine z_if_eq hC 56 dX10_addsSnow_49 (by decide) (fun c_49 => ?_) (fun c_49 => ?_)
        · exact absurd c_49 (by decide +kernel)
        · refine z_aload_n hC 0 rfl dX10_addsSnow_52 ?_
          refine z_callV hC (As := []) (st := []) (ws2 := zMo (zy E) q (svG (va_up h 0 (upd (h 0) 1 (nI 0))) m)) (B := zMo (zy E) q (va_up h 0 (upd (h 0) 1 (nI 0)))) (B' := zMo (zy E) q (svG (va_up h 0 (upd (h 0) 1 (nI 0))) m)) (r := none) 0 (c_X10_save q (va_up h 0 (upd (h 0) 1 (nI 0))) m hsv hm4) gX10_addsSnow_X10_save (q0 := 0) (ci := 8) (by decide +kernel) rfl rfl rfl ⟨by decide, by decide⟩ [0, 1, 2, 3, 4, 5, 6] rfl (by decide) rfl (Nat.le_of_ble_eq_true rfl) rfl rfl dX10_addsSnow_53 ?_ hkR
          refine z_aload_n hC 0 rfl dX10_addsSnow_56 ?_
          refine z_get hC 0 8 0 (v := .ref (q 1)) rfl rfl iX10_addsSnow_X10 (by decide) (List.mem_of_getElem? (i := 1) (by decide +kernel)) rfl rfl dX10_addsSnow_57 ?_
          refine z_iconst hC (nI 0) (by decide +kernel) dX10_addsSnow_60 ?_
          refine z_dup2 hC dX10_addsSnow_61 rfl rfl ?_
          refine z_iald hC 1 0 (f := h 1) rfl rfl rfl (by omega) (by decide) dX10_addsSnow_62 ?_
          refine z_iload_n hC 1 rfl dX10_addsSnow_63 ?_
          refine z_iadd hC dX10_addsSnow_64 ?_
          refine z_top (h 1 0 + nI u) rfl ?_
          refine z_iast hC 1 0 (h 1 0 + nI u) (ws' := zMo (zy E) q (va_up (svG (va_up h 0 (upd (h 0) 1 (nI 0))) m) 1 (upd (h 1) 0 (h 1 0 + nI u)))) rfl rfl rfl rfl (by omega) (by decide) rfl dX10_addsSnow_65 ?_
          refine z_aload_n hC 0 rfl dX10_addsSnow_66 ?_
          refine z_get hC 0 8 0 (v := .ref (q 1)) rfl rfl iX10_addsSnow_X10 (by decide) (List.mem_of_getElem? (i := 1) (by decide +kernel)) rfl rfl dX10_addsSnow_67 ?_
          refine z_iconst hC (nI 0) (by decide +kernel) dX10_addsSnow_70 ?_
          refine z_iald hC 1 0 (f := upd (h 1) 0 (h 1 0 + nI u)) rfl rfl rfl (by omega) (by decide) dX10_addsSnow_71 ?_
          refine z_top (h 1 0 + nI u) pk_us ?_
          have pT : asT (h 1) u = 0 := by simp only [asT, if_neg c_17, if_neg c_31]
          exact z_iret hC hf rfl (by rw [pT]; rfl) (by unfold mxG; rw [pT]; rfl) dX10_addsSnow_72
      · exact absurd c_43 (by decide +kernel)

set_option maxHeartbeats 4000000 in
set_option maxRecDepth 100000 in
/-- presses -/
theorem c_X10_presses_1 {l : Launch} {y : zY} {D : va_G} (q : Nat → Nat) (h : Nat → Nat → Int32) (k b : Nat) (hk : k < 2 ^ 32) (hb : b < 2 ^ 32) (m : Nat) (hsv : h 0 0 = nI m) (hm4 : m ≤ 4) : zM l y D yX10_presses wsX10_presses 2 42 [.ref (q 0), .int (nI k), .int (nI b), .int (nI 1)] (zMo y q h) (zMo y q (mxG h (prT (h 1) k b) (va_up (svG (h0t h) m) 1 (prF (h 1) k b)))) (some (.int (if prT (h 1) k b = 0 then prF (h 1) k b (1 + k) else nI 0))) := by
  refine z_start (own := RX10) (cc := cX10_presses) (maxL := 5) (ret := (some .int)) rfl (by decide +kernel) rfl (Nat.le_of_ble_eq_true rfl) (zMo_fst _ _ _ _) ?_
  intro E hEl hEy hED hC hf
  subst hEl hEy hED
  have hkR : 0 ≤ E.2.2.2.2.2.1.cells ∧ 0 ≤ E.2.2.2.2.2.1.slots := ⟨Nat.zero_le _, Nat.zero_le _⟩
  refine z_cast (lv := [(0, .ref (q 0)), (1, .int (nI k)), (2, .int (nI b)), (3, .int (nI 1))]) (ws := (zMo (zy E) q h)) (st := []) ?_ rfl rfl rfl
  refine z_iload_n hC 1 rfl dX10_presses_0 ?_
  refine z_callS hC (As := [.int (nI k)]) (st := []) (ws2 := zMo (zy E) q h) (B := []) (B' := []) (r := some (.int (isK (nI k)))) 1 (c_X10_isKind (nI k)) gX10_presses_X10_isKind (by decide +kernel) rfl ⟨by decide, by decide⟩ [] rfl (by decide) rfl (Nat.le_of_ble_eq_true rfl) rfl rfl dX10_presses_1 ?_ hkR
  refine z_if_eq hC 21 dX10_presses_4 (by decide) (fun c_4 => ?_) (fun c_4 => ?_)
  · refine z_iconst hC (nI 0) (by decide +kernel) dX10_presses_21 ?_
    refine z_istore hC (by decide) (lv' := [(4, .int (nI 0)), (0, .ref (q 0)), (1, .int (nI k)), (2, .int (nI b)), (3, .int (nI 1))]) rfl dX10_presses_22 ?_
    refine z_aload_n hC 1 rfl dX10_presses_24 ?_
    refine z_iload hC 0 rfl dX10_presses_25 ?_
    refine z_iload hC 0 rfl dX10_presses_27 ?_
    refine z_if_eq hC 64 dX10_presses_29 (by decide) (fun c_29 => ?_) (fun c_29 => ?_)
    · refine z_iconst hC (nI 0) (by decide +kernel) dX10_presses_64 ?_
      refine z_iconst hC (nI 1) (by decide +kernel) dX10_presses_65 ?_
      refine z_callV hC (As := [.int (nI 0), .int (nI 0), .int (nI 1)]) (st := []) (ws2 := zMo (zy E) q (flG h (nI 0) (nI 0) (nI 1))) (B := zMo (zy E) q h) (B' := zMo (zy E) q (flG h (nI 0) (nI 0) (nI 1))) (r := some (.int (flR (nI 0) (nI 0) (nI 1)))) 3 (c_X10_fails q h (nI 0) (nI 0) (nI 1)) gX10_presses_X10_fails (q0 := 0) (ci := 8) (by decide +kernel) rfl rfl rfl ⟨by decide, by decide⟩ [0, 1, 2, 3, 4, 5, 6] rfl (by decide) rfl (Nat.le_of_ble_eq_true rfl) rfl rfl dX10_presses_66 ?_ hkR
      have pf_1 : flV (nI 0) (nI 0) (nI 1) = nI 1 := by rw [flV, if_pos (show nI 0 = 0 by decide +kernel)]
      refine z_top (nI 1) (by rw [flR, pf_1]; first | done | decide +kernel) ?_
      refine z_cast (lv := [(4, .int (nI 0)), (0, .ref (q 0)), (1, .int (nI k)), (2, .int (nI b)), (3, .int (nI 1))]) (ws := (zMo (zy E) q (va_up h 0 (upd (h 0) 1 (nI 1))))) (st := [.int (nI 1)]) ?_ rfl (by rw [flG, pf_1]) rfl
      refine z_if_eq hC 74 dX10_presses_69 (by decide) (fun c_69 => ?_) (fun c_69 => ?_)
      · exact absurd c_69 (by decide +kernel)
      · refine z_iconst hC (nI 0) (by decide +kernel) dX10_presses_72 ?_
        have pT : prT (h 1) k b = 1 := by simp only [prT, if_pos c_4]
        exact z_iret hC hf rfl (by rw [pT]; rfl) (by unfold mxG; rw [pT]; rfl) dX10_presses_73
    · exact absurd c_29 (by decide +kernel)
  · have hk3 := isK_lt hk c_4
    refine z_iload_n hC 2 rfl dX10_presses_7 ?_
    refine z_iconst hC (nI 1) (by decide +kernel) dX10_presses_8 ?_
    refine z_bipush hC (nI 50) (by decide +kernel) dX10_presses_9 ?_
    refine z_callS hC (As := [.int (nI b), .int (nI 1), .int (nI 50)]) (st := []) (ws2 := zMo (zy E) q h) (B := []) (B' := []) (r := some (.int (wi (nI b) (nI 1) (nI 50)))) 3 (c_X10_in (nI b) (nI 1) (nI 50)) gX10_presses_X10_in (by decide +kernel) rfl ⟨by decide, by decide⟩ [] rfl (by decide) rfl (Nat.le_of_ble_eq_true rfl) rfl rfl dX10_presses_11 ?_ hkR
    refine z_if_eq hC 21 dX10_presses_14 (by decide) (fun c_14 => ?_) (fun c_14 => ?_)
    · refine z_iconst hC (nI 0) (by decide +kernel) dX10_presses_21 ?_
      refine z_istore hC (by decide) (lv' := [(4, .int (nI 0)), (0, .ref (q 0)), (1, .int (nI k)), (2, .int (nI b)), (3, .int (nI 1))]) rfl dX10_presses_22 ?_
      refine z_aload_n hC 1 rfl dX10_presses_24 ?_
      refine z_iload hC 0 rfl dX10_presses_25 ?_
      refine z_iload hC 0 rfl dX10_presses_27 ?_
      refine z_if_eq hC 64 dX10_presses_29 (by decide) (fun c_29 => ?_) (fun c_29 => ?_)
      · refine z_iconst hC (nI 0) (by decide +kernel) dX10_presses_64 ?_
        refine z_iconst hC (nI 1) (by decide +kernel) dX10_presses_65 ?_
        refine z_callV hC (As := [.int (nI 0), .int (nI 0), .int (nI 1)]) (st := []) (ws2 := zMo (zy E) q (flG h (nI 0) (nI 0) (nI 1))) (B := zMo (zy E) q h) (B' := zMo (zy E) q (flG h (nI 0) (nI 0) (nI 1))) (r := some (.int (flR (nI 0) (nI 0) (nI 1)))) 3 (c_X10_fails q h (nI 0) (nI 0) (nI 1)) gX10_presses_X10_fails (q0 := 0) (ci := 8) (by decide +kernel) rfl rfl rfl ⟨by decide, by decide⟩ [0, 1, 2, 3, 4, 5, 6] rfl (by decide) rfl (Nat.le_of_ble_eq_true rfl) rfl rfl dX10_presses_66 ?_ hkR
        have pf_2 : flV (nI 0) (nI 0) (nI 1) = nI 1 := by rw [flV, if_pos (show nI 0 = 0 by decide +kernel)]
        refine z_top (nI 1) (by rw [flR, pf_2]; first | done | decide +kernel) ?_
        refine z_cast (lv := [(4, .int (nI 0)), (0, .ref (q 0)), (1, .int (nI k)), (2, .int (nI b)), (3, .int (nI 1))]) (ws := (zMo (zy E) q (va_up h 0 (upd (h 0) 1 (nI 1))))) (st := [.int (nI 1)]) ?_ rfl (by rw [flG, pf_2]) rfl
        refine z_if_eq hC 74 dX10_presses_69 (by decide) (fun c_69 => ?_) (fun c_69 => ?_)
        · exact absurd c_69 (by decide +kernel)
        · refine z_iconst hC (nI 0) (by decide +kernel) dX10_presses_72 ?_
          have pT : prT (h 1) k b = 1 := by simp only [prT, if_neg c_4, if_pos c_14]
          exact z_iret hC hf rfl (by rw [pT]; rfl) (by unfold mxG; rw [pT]; rfl) dX10_presses_73
      · exact absurd c_29 (by decide +kernel)
    · refine z_iconst hC (nI 1) (by decide +kernel) dX10_presses_17 ?_
      refine z_goto hC 22 dX10_presses_18 (by decide) ?_
      refine z_istore hC (by decide) (lv' := [(4, .int (nI 1)), (0, .ref (q 0)), (1, .int (nI k)), (2, .int (nI b)), (3, .int (nI 1))]) rfl dX10_presses_22 ?_
      refine z_aload_n hC 1 rfl dX10_presses_24 ?_
      refine z_iload hC 0 rfl dX10_presses_25 ?_
      refine z_iload hC 0 rfl dX10_presses_27 ?_
      refine z_if_eq hC 64 dX10_presses_29 (by decide) (fun c_29 => ?_) (fun c_29 => ?_)
      · exact absurd c_29 (by decide +kernel)
      · refine z_aload_n hC 1 rfl dX10_presses_32 ?_
        refine z_get hC 0 8 0 (v := .ref (q 1)) rfl rfl iX10_presses_X10 (by decide) (List.mem_of_getElem? (i := 1) (by decide +kernel)) rfl rfl dX10_presses_33 ?_
        refine z_iconst hC (nI 0) (by decide +kernel) dX10_presses_36 ?_
        refine z_iald hC 1 0 (f := h 1) rfl rfl rfl (by omega) (by decide) dX10_presses_37 ?_
        refine z_bipush hC (nI 100) (by decide +kernel) dX10_presses_38 ?_
        refine z_iload_n hC 3 rfl dX10_presses_40 ?_
        refine z_imul hC dX10_presses_41 ?_
        refine z_top (nI (100 * b)) (pk_mul _ _) ?_
        refine z_icmp_lt hC 64 dX10_presses_42 (by decide) (fun c_42 => ?_) (fun c_42 => ?_)
        · refine z_iconst hC (nI 0) (by decide +kernel) dX10_presses_64 ?_
          refine z_iconst hC (nI 1) (by decide +kernel) dX10_presses_65 ?_
          refine z_callV hC (As := [.int (nI 1), .int (nI 0), .int (nI 1)]) (st := []) (ws2 := zMo (zy E) q (flG h (nI 1) (nI 0) (nI 1))) (B := zMo (zy E) q h) (B' := zMo (zy E) q (flG h (nI 1) (nI 0) (nI 1))) (r := some (.int (flR (nI 1) (nI 0) (nI 1)))) 3 (c_X10_fails q h (nI 1) (nI 0) (nI 1)) gX10_presses_X10_fails (q0 := 0) (ci := 8) (by decide +kernel) rfl rfl rfl ⟨by decide, by decide⟩ [0, 1, 2, 3, 4, 5, 6] rfl (by decide) rfl (Nat.le_of_ble_eq_true rfl) rfl rfl dX10_presses_66 ?_ hkR
          have pf_3 : flV (nI 1) (nI 0) (nI 1) = nI 2 := by rw [flV, if_neg (show ¬ nI 1 = 0 by decide +kernel), if_pos (show nI 0 = 0 by decide +kernel)]
          refine z_top (nI 1) (by rw [flR, pf_3]; first | done | decide +kernel) ?_
          refine z_cast (lv := [(4, .int (nI 1)), (0, .ref (q 0)), (1, .int (nI k)), (2, .int (nI b)), (3, .int (nI 1))]) (ws := (zMo (zy E) q (va_up h 0 (upd (h 0) 1 (nI 2))))) (st := [.int (nI 1)]) ?_ rfl (by rw [flG, pf_3]) rfl
          refine z_if_eq hC 74 dX10_presses_69 (by decide) (fun c_69 => ?_) (fun c_69 => ?_)
          · exact absurd c_69 (by decide +kernel)
          · refine z_iconst hC (nI 0) (by decide +kernel) dX10_presses_72 ?_
            have pT : prT (h 1) k b = 2 := by simp only [prT, if_neg c_4, if_neg c_14, if_pos c_42]
            exact z_iret hC hf rfl (by rw [pT]; rfl) (by unfold mxG; rw [pT]; rfl) dX10_presses_73
        · refine z_aload_n hC 1 rfl dX10_presses_45 ?_
          refine z_get hC 0 8 0 (v := .ref (q 1)) rfl rfl iX10_presses_X10 (by decide) (List.mem_of_getElem? (i := 1) (by decide +kernel)) rfl rfl dX10_presses_46 ?_
          refine z_iconst hC (nI 1) (by decide +kernel) dX10_presses_49 ?_
          refine z_iload_n hC 2 rfl dX10_presses_50 ?_
          refine z_iadd hC dX10_presses_51 ?_
          refine z_top (nI (1 + k)) (nI_add _ _) ?_
          refine z_iald hC 1 (1 + k) (f := h 1) rfl rfl rfl (by omega) (by decide) dX10_presses_52 ?_
          refine z_iload_n hC 3 rfl dX10_presses_53 ?_
          refine z_iadd hC dX10_presses_54 ?_
          refine z_bipush hC (nI 50) (by decide +kernel) dX10_presses_55 ?_
          refine z_icmp_gt hC 64 dX10_presses_57 (by decide) (fun c_57 => ?_) (fun c_57 => ?_)
          · refine z_iconst hC (nI 0) (by decide +kernel) dX10_presses_64 ?_
            refine z_iconst hC (nI 1) (by decide +kernel) dX10_presses_65 ?_
            refine z_callV hC (As := [.int (nI 1), .int (nI 0), .int (nI 1)]) (st := []) (ws2 := zMo (zy E) q (flG h (nI 1) (nI 0) (nI 1))) (B := zMo (zy E) q h) (B' := zMo (zy E) q (flG h (nI 1) (nI 0) (nI 1))) (r := some (.int (flR (nI 1) (nI 0) (nI 1)))) 3 (c_X10_fails q h (nI 1) (nI 0) (nI 1)) gX10_presses_X10_fails (q0 := 0) (ci := 8) (by decide +kernel) rfl rfl rfl ⟨by decide, by decide⟩ [0, 1, 2, 3, 4, 5, 6] rfl (by decide) rfl (Nat.le_of_ble_eq_true rfl) rfl rfl dX10_presses_66 ?_ hkR
            have pf_4 : flV (nI 1) (nI 0) (nI 1) = nI 2 := by rw [flV, if_neg (show ¬ nI 1 = 0 by decide +kernel), if_pos (show nI 0 = 0 by decide +kernel)]
            refine z_top (nI 1) (by rw [flR, pf_4]; first | done | decide +kernel) ?_
            refine z_cast (lv := [(4, .int (nI 1)), (0, .ref (q 0)), (1, .int (nI k)), (2, .int (nI b)), (3, .int (nI 1))]) (ws := (zMo (zy E) q (va_up h 0 (upd (h 0) 1 (nI 2))))) (st := [.int (nI 1)]) ?_ rfl (by rw [flG, pf_4]) rfl
            refine z_if_eq hC 74 dX10_presses_69 (by decide) (fun c_69 => ?_) (fun c_69 => ?_)
            · exact absurd c_69 (by decide +kernel)
            · refine z_iconst hC (nI 0) (by decide +kernel) dX10_presses_72 ?_
              have pT : prT (h 1) k b = 2 := by simp only [prT, if_neg c_4, if_neg c_14, if_neg c_42, if_pos c_57]
              exact z_iret hC hf rfl (by rw [pT]; rfl) (by unfold mxG; rw [pT]; rfl) dX10_presses_73
          · refine z_iconst hC (nI 1) (by decide +kernel) dX10_presses_60 ?_
            refine z_goto hC 65 dX10_presses_61 (by decide) ?_
            refine z_iconst hC (nI 1) (by decide +kernel) dX10_presses_65 ?_
            refine z_callV hC (As := [.int (nI 1), .int (nI 1), .int (nI 1)]) (st := []) (ws2 := zMo (zy E) q (flG h (nI 1) (nI 1) (nI 1))) (B := zMo (zy E) q h) (B' := zMo (zy E) q (flG h (nI 1) (nI 1) (nI 1))) (r := some (.int (flR (nI 1) (nI 1) (nI 1)))) 3 (c_X10_fails q h (nI 1) (nI 1) (nI 1)) gX10_presses_X10_fails (q0 := 0) (ci := 8) (by decide +kernel) rfl rfl rfl ⟨by decide, by decide⟩ [0, 1, 2, 3, 4, 5, 6] rfl (by decide) rfl (Nat.le_of_ble_eq_true rfl) rfl rfl dX10_presses_66 ?_ hkR
            have pf_5 : flV (nI 1) (nI 1) (nI 1) = nI 0 := by rw [flV, if_neg (show ¬ nI 1 = 0 by decide +kernel), if_neg (show ¬ nI 1 = 0 by decide +kernel), if_neg (show ¬ nI 1 = 0 by decide +kernel)]
            refine z_top (nI 0) (by rw [flR, pf_5]; first | done | decide +kernel) ?_
            refine z_cast (lv := [(4, .int (nI 1)), (0, .ref (q 0)), (1, .int (nI k)), (2, .int (nI b)), (3, .int (nI 1))]) (ws := (zMo (zy E) q (va_up h 0 (upd (h 0) 1 (nI 0))))) (st := [.int (nI 0)]) ?_ rfl (by rw [flG, pf_5]) rfl
            refine z_if_eq hC 74 dX10_presses_69 (by decide) (fun c_69 => ?_) (fun c_69 => ?_)
            · refine z_iload_n hC 4 rfl dX10_presses_74 ?_
              refine z_if_eq hC 82 dX10_presses_75 (by decide) (fun c_75 => ?_) (fun c_75 => ?_)
              · exact absurd c_75 (by decide +kernel)
              · refine z_aload_n hC 1 rfl dX10_presses_78 ?_
                refine z_callV hC (As := []) (st := []) (ws2 := zMo (zy E) q (svG (va_up h 0 (upd (h 0) 1 (nI 0))) m)) (B := zMo (zy E) q (va_up h 0 (upd (h 0) 1 (nI 0)))) (B' := zMo (zy E) q (svG (va_up h 0 (upd (h 0) 1 (nI 0))) m)) (r := none) 0 (c_X10_save q (va_up h 0 (upd (h 0) 1 (nI 0))) m hsv hm4) gX10_presses_X10_save (q0 := 0) (ci := 8) (by decide +kernel) rfl rfl rfl ⟨by decide, by decide⟩ [0, 1, 2, 3, 4, 5, 6] rfl (by decide) rfl (Nat.le_of_ble_eq_true rfl) rfl rfl dX10_presses_79 ?_ hkR
                refine z_aload_n hC 1 rfl dX10_presses_82 ?_
                refine z_get hC 0 8 0 (v := .ref (q 1)) rfl rfl iX10_presses_X10 (by decide) (List.mem_of_getElem? (i := 1) (by decide +kernel)) rfl rfl dX10_presses_83 ?_
                refine z_iconst hC (nI 0) (by decide +kernel) dX10_presses_86 ?_
                refine z_dup2 hC dX10_presses_87 rfl rfl ?_
                refine z_iald hC 1 0 (f := h 1) rfl rfl rfl (by omega) (by decide) dX10_presses_88 ?_
                refine z_bipush hC (nI 100) (by decide +kernel) dX10_presses_89 ?_
                refine z_iload_n hC 3 rfl dX10_presses_91 ?_
                refine z_imul hC dX10_presses_92 ?_
                refine z_top (nI (100 * b)) (pk_mul _ _) ?_
                refine z_isub hC dX10_presses_93 ?_
                refine z_iast hC 1 0 (((h 1) 0) - (nI (100 * b))) (ws' := zMo (zy E) q (va_up (svG (va_up h 0 (upd (h 0) 1 (nI 0))) m) 1 (upd (h 1) 0 (((h 1) 0) - (nI (100 * b)))))) rfl rfl rfl rfl (by omega) (by decide) rfl dX10_presses_94 ?_
                refine z_aload_n hC 1 rfl dX10_presses_95 ?_
                refine z_get hC 0 8 0 (v := .ref (q 1)) rfl rfl iX10_presses_X10 (by decide) (List.mem_of_getElem? (i := 1) (by decide +kernel)) rfl rfl dX10_presses_96 ?_
                refine z_iconst hC (nI 1) (by decide +kernel) dX10_presses_99 ?_
                refine z_iload_n hC 2 rfl dX10_presses_100 ?_
                refine z_iadd hC dX10_presses_101 ?_
                refine z_top (nI (1 + k)) (nI_add _ _) ?_
                refine z_dup2 hC dX10_presses_102 rfl rfl ?_
                refine z_iald hC 1 (1 + k) (f := upd (h 1) 0 (((h 1) 0) - (nI (100 * b)))) rfl rfl rfl (by omega) (by decide) dX10_presses_103 ?_
                refine z_iload_n hC 3 rfl dX10_presses_104 ?_
                refine z_iadd hC dX10_presses_105 ?_
                refine z_iast hC 1 (1 + k) (((upd (h 1) 0 (((h 1) 0) - (nI (100 * b)))) (1 + k)) + (nI b)) (ws' := zMo (zy E) q (va_up (svG (va_up h 0 (upd (h 0) 1 (nI 0))) m) 1 (upd (upd (h 1) 0 (((h 1) 0) - (nI (100 * b)))) (1 + k) (((upd (h 1) 0 (((h 1) 0) - (nI (100 * b)))) (1 + k)) + (nI b))))) rfl rfl rfl rfl (by omega) (by decide) rfl dX10_presses_106 ?_
                refine z_aload_n hC 1 rfl dX10_presses_107 ?_
                refine z_get hC 0 8 0 (v := .ref (q 1)) rfl rfl iX10_presses_X10 (by decide) (List.mem_of_getElem? (i := 1) (by decide +kernel)) rfl rfl dX10_presses_108 ?_
                refine z_iconst hC (nI 4) (by decide +kernel) dX10_presses_111 ?_
                refine z_dup2 hC dX10_presses_112 rfl rfl ?_
                refine z_iald hC 1 4 (f := upd (upd (h 1) 0 (((h 1) 0) - (nI (100 * b)))) (1 + k) (((upd (h 1) 0 (((h 1) 0) - (nI (100 * b)))) (1 + k)) + (nI b))) rfl rfl rfl (by omega) (by decide) dX10_presses_113 ?_
                refine z_iload_n hC 3 rfl dX10_presses_114 ?_
                refine z_iadd hC dX10_presses_115 ?_
                refine z_iast hC 1 4 (((upd (upd (h 1) 0 (((h 1) 0) - (nI (100 * b)))) (1 + k) (((upd (h 1) 0 (((h 1) 0) - (nI (100 * b)))) (1 + k)) + (nI b))) 4) + (nI b)) (ws' := zMo (zy E) q (va_up (svG (va_up h 0 (upd (h 0) 1 (nI 0))) m) 1 (upd (upd (upd (h 1) 0 (((h 1) 0) - (nI (100 * b)))) (1 + k) (((upd (h 1) 0 (((h 1) 0) - (nI (100 * b)))) (1 + k)) + (nI b))) 4 (((upd (upd (h 1) 0 (((h 1) 0) - (nI (100 * b)))) (1 + k) (((upd (h 1) 0 (((h 1) 0) - (nI (100 * b)))) (1 + k)) + (nI b))) 4) + (nI b))))) rfl rfl rfl rfl (by omega) (by decide) rfl dX10_presses_116 ?_
                refine z_aload_n hC 1 rfl dX10_presses_117 ?_
                refine z_get hC 0 8 0 (v := .ref (q 1)) rfl rfl iX10_presses_X10 (by decide) (List.mem_of_getElem? (i := 1) (by decide +kernel)) rfl rfl dX10_presses_118 ?_
                refine z_iconst hC (nI 1) (by decide +kernel) dX10_presses_121 ?_
                refine z_iload_n hC 2 rfl dX10_presses_122 ?_
                refine z_iadd hC dX10_presses_123 ?_
                refine z_top (nI (1 + k)) (nI_add _ _) ?_
                refine z_iald hC 1 (1 + k) (f := upd (upd (upd (h 1) 0 (((h 1) 0) - (nI (100 * b)))) (1 + k) (((upd (h 1) 0 (((h 1) 0) - (nI (100 * b)))) (1 + k)) + (nI b))) 4 (((upd (upd (h 1) 0 (((h 1) 0) - (nI (100 * b)))) (1 + k) (((upd (h 1) 0 (((h 1) 0) - (nI (100 * b)))) (1 + k)) + (nI b))) 4) + (nI b))) rfl rfl rfl (by omega) (by decide) dX10_presses_124 ?_
                have pT : prT (h 1) k b = 0 := by simp only [prT, if_neg c_4, if_neg c_14, if_neg c_42, if_neg c_57]
                exact z_iret hC hf rfl (by rw [pT]; rfl) (by unfold mxG; rw [pT]; rfl) dX10_presses_125
            · exact absurd c_69 (by decide +kernel)
