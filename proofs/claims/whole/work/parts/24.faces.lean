/-! stacks, walls, tools, carving -/
theorem zlt6 {f : Nat → Int32} (hM : okM f) {s : Nat} (hs : s < 8) (c : ¬ nI 6 ≤ f (12 + s)) : zhm f s < 6 := by
  rw [(hM s hs).1, nI_leI (by omega) (by have := (hM s hs).2; omega)] at c
  omega
theorem zlt5 {f : Nat → Int32} (hT : okTm f) (c : ¬ nI 5 ≤ f 10) : ztm f < 5 := by
  rw [hT.1, nI_leI (by omega) (by have := hT.2; omega)] at c
  omega
def stT (f : Nat → Int32) (s k : Nat) : Nat := if isS (nI s) = 0 then 1 else if isK (nI k) = 0 then 2 else if f (1 + k) ≤ 0 then 3 else if nI 6 ≤ f (12 + s) then 3 else 0
def stF (f : Nat → Int32) (s k : Nat) : Nat → Int32 := upd (upd (upd (upd f (1 + k) (f (1 + k) - nI 1)) (44 + 6 * s + zhm f s) (nI k)) (92 + 6 * s + zhm f s) (nI 100)) (12 + s) (upd (upd (upd f (1 + k) (f (1 + k) - nI 1)) (44 + 6 * s + zhm f s) (nI k)) (92 + 6 * s + zhm f s) (nI 100) (12 + s) + nI 1)
def swF (f : Nat → Int32) (s v : Nat) : Nat → Int32 := upd f (20 + s) (nI v)
def atT (f : Nat → Int32) (v : Nat) : Nat := if wi (nI v) (nI 1) (nI 20) = 0 then 1 else if nI 5 ≤ f 10 then 2 else 0
def atF (f : Nat → Int32) (v : Nat) : Nat → Int32 := upd (upd (upd (upd f (140 + ztm f) (nI v)) (145 + ztm f) (nI 60)) (150 + ztm f) (nI 0)) 10 (upd (upd (upd f (140 + ztm f) (nI v)) (145 + ztm f) (nI 60)) (150 + ztm f) (nI 0) 10 + nI 1)
def gbT (n : Nat) : Nat := if wi (nI n) (nI 1) (nI 24) = 0 then 1 else 0
theorem iX10_stacks_X10 : ∀ w ∈ u_ws RX10 TX10 15, w ∈ wsX10_stacks := by decide +kernel
set_option maxHeartbeats 4000000 in
set_option maxRecDepth 100000 in
/-- stacks -/
theorem c_X10_stacks_0 {l : Launch} {y : zY} {D : va_G} (q : Nat → Nat) (h : Nat → Nat → Int32) (s k : Nat) (hs : s < 2 ^ 32) (hk : k < 2 ^ 32) (hM : okM (h 1)) : zM l y D yX10_stacks wsX10_stacks 2 42 [.ref (q 0), .int (nI s), .int (nI k), .int (nI 0)] (zMo y q h) (zMo y q (mxG h (stT (h 1) s k) (va_up (h0t h) 1 (stF (h 1) s k)))) (some (.int (if stT (h 1) s k = 0 then nI (zhm (h 1) s) else nI 0))) := by
  refine z_start (own := RX10) (cc := cX10_stacks) (maxL := 6) (ret := (some .int)) rfl (by decide +kernel) rfl (Nat.le_of_ble_eq_true rfl) (zMo_fst _ _ _ _) ?_
  intro E hEl hEy hED hC hf
  subst hEl hEy hED
  have hkR : 0 ≤ E.2.2.2.2.2.1.cells ∧ 0 ≤ E.2.2.2.2.2.1.slots := ⟨Nat.zero_le _, Nat.zero_le _⟩
  refine z_cast (lv := [(0, .ref (q 0)), (1, .int (nI s)), (2, .int (nI k)), (3, .int (nI 0))]) (ws := (zMo (zy E) q h)) (st := []) ?_ rfl rfl rfl
  refine z_iload_n hC 1 rfl dX10_stacks_0 ?_
  refine z_callS hC (As := [.int (nI s)]) (st := []) (ws2 := zMo (zy E) q h) (B := []) (B' := []) (r := some (.int (isS (nI s)))) 1 (c_X10_isSite (nI s)) gX10_stacks_X10_isSite (by decide +kernel) rfl ⟨by decide, by decide⟩ [] rfl (by decide) rfl (Nat.le_of_ble_eq_true rfl) rfl rfl dX10_stacks_1 ?_ hkR
  refine z_if_eq hC 18 dX10_stacks_4 (by decide) (fun c_4 => ?_) (fun c_4 => ?_)
  · refine z_iconst hC (nI 0) (by decide +kernel) dX10_stacks_18 ?_
    refine z_istore hC (by decide) (lv' := [(4, .int (nI 0)), (0, .ref (q 0)), (1, .int (nI s)), (2, .int (nI k)), (3, .int (nI 0))]) rfl dX10_stacks_19 ?_
    refine z_aload_n hC 1 rfl dX10_stacks_21 ?_
    refine z_iload_n hC 2 rfl dX10_stacks_22 ?_
    refine z_callS hC (As := [.int (nI s)]) (st := [.ref (q 0)]) (ws2 := zMo (zy E) q h) (B := []) (B' := []) (r := some (.int (isS (nI s)))) 1 (c_X10_isSite (nI s)) gX10_stacks_X10_isSite (by decide +kernel) rfl ⟨by decide, by decide⟩ [] rfl (by decide) rfl (Nat.le_of_ble_eq_true rfl) rfl rfl dX10_stacks_23 ?_ hkR
    refine z_iload_n hC 3 rfl dX10_stacks_26 ?_
    refine z_callS hC (As := [.int (nI k)]) (st := [.int (isS (nI s)), .ref (q 0)]) (ws2 := zMo (zy E) q h) (B := []) (B' := []) (r := some (.int (isK (nI k)))) 1 (c_X10_isKind (nI k)) gX10_stacks_X10_isKind (by decide +kernel) rfl ⟨by decide, by decide⟩ [] rfl (by decide) rfl (Nat.le_of_ble_eq_true rfl) rfl rfl dX10_stacks_27 ?_ hkR
    refine z_iload hC 0 rfl dX10_stacks_30 ?_
    refine z_if_eq hC 64 dX10_stacks_32 (by decide) (fun c_32 => ?_) (fun c_32 => ?_)
    · refine z_iconst hC (nI 0) (by decide +kernel) dX10_stacks_64 ?_
      refine z_callV hC (As := [.int (isS (nI s)), .int (isK (nI k)), .int (nI 0)]) (st := []) (ws2 := zMo (zy E) q (flG h (isS (nI s)) (isK (nI k)) (nI 0))) (B := zMo (zy E) q h) (B' := zMo (zy E) q (flG h (isS (nI s)) (isK (nI k)) (nI 0))) (r := some (.int (flR (isS (nI s)) (isK (nI k)) (nI 0)))) 3 (c_X10_fails q h (isS (nI s)) (isK (nI k)) (nI 0)) gX10_stacks_X10_fails (q0 := 0) (ci := 8) (by decide +kernel) rfl rfl rfl ⟨by decide, by decide⟩ [0, 1, 2, 3, 4, 5, 6] rfl (by decide) rfl (Nat.le_of_ble_eq_true rfl) rfl rfl dX10_stacks_65 ?_ hkR
      have pf_1 : flV (isS (nI s)) (isK (nI k)) (nI 0) = nI 1 := by rw [flV, if_pos c_4]
      refine z_top (nI 1) (by rw [flR, pf_1]; first | done | decide +kernel) ?_
      refine z_cast (lv := [(4, .int (nI 0)), (0, .ref (q 0)), (1, .int (nI s)), (2, .int (nI k)), (3, .int (nI 0))]) (ws := (zMo (zy E) q (va_up h 0 (upd (h 0) 1 (nI 1))))) (st := [.int (nI 1)]) ?_ rfl (by rw [flG, pf_1]) rfl
      refine z_if_eq hC 73 dX10_stacks_68 (by decide) (fun c_68 => ?_) (fun c_68 => ?_)
      · exact absurd c_68 (by decide +kernel)
      · refine z_iconst hC (nI 0) (by decide +kernel) dX10_stacks_71 ?_
        have pT : stT (h 1) s k = 1 := by simp only [stT, if_pos c_4]
        exact z_iret hC hf rfl (by rw [pT]; rfl) (by unfold mxG; rw [pT]; rfl) dX10_stacks_72
    · exact absurd c_32 (by decide +kernel)
  · have hs8 := isS_lt hs c_4
    refine z_iload_n hC 2 rfl dX10_stacks_7 ?_
    refine z_callS hC (As := [.int (nI k)]) (st := []) (ws2 := zMo (zy E) q h) (B := []) (B' := []) (r := some (.int (isK (nI k)))) 1 (c_X10_isKind (nI k)) gX10_stacks_X10_isKind (by decide +kernel) rfl ⟨by decide, by decide⟩ [] rfl (by decide) rfl (Nat.le_of_ble_eq_true rfl) rfl rfl dX10_stacks_8 ?_ hkR
    refine z_if_eq hC 18 dX10_stacks_11 (by decide) (fun c_11 => ?_) (fun c_11 => ?_)
    · refine z_iconst hC (nI 0) (by decide +kernel) dX10_stacks_18 ?_
      refine z_istore hC (by decide) (lv' := [(4, .int (nI 0)), (0, .ref (q 0)), (1, .int (nI s)), (2, .int (nI k)), (3, .int (nI 0))]) rfl dX10_stacks_19 ?_
      refine z_aload_n hC 1 rfl dX10_stacks_21 ?_
      refine z_iload_n hC 2 rfl dX10_stacks_22 ?_
      refine z_callS hC (As := [.int (nI s)]) (st := [.ref (q 0)]) (ws2 := zMo (zy E) q h) (B := []) (B' := []) (r := some (.int (isS (nI s)))) 1 (c_X10_isSite (nI s)) gX10_stacks_X10_isSite (by decide +kernel) rfl ⟨by decide, by decide⟩ [] rfl (by decide) rfl (Nat.le_of_ble_eq_true rfl) rfl rfl dX10_stacks_23 ?_ hkR
      refine z_iload_n hC 3 rfl dX10_stacks_26 ?_
      refine z_callS hC (As := [.int (nI k)]) (st := [.int (isS (nI s)), .ref (q 0)]) (ws2 := zMo (zy E) q h) (B := []) (B' := []) (r := some (.int (isK (nI k)))) 1 (c_X10_isKind (nI k)) gX10_stacks_X10_isKind (by decide +kernel) rfl ⟨by decide, by decide⟩ [] rfl (by decide) rfl (Nat.le_of_ble_eq_true rfl) rfl rfl dX10_stacks_27 ?_ hkR
      refine z_iload hC 0 rfl dX10_stacks_30 ?_
      refine z_if_eq hC 64 dX10_stacks_32 (by decide) (fun c_32 => ?_) (fun c_32 => ?_)
      · refine z_iconst hC (nI 0) (by decide +kernel) dX10_stacks_64 ?_
        refine z_callV hC (As := [.int (isS (nI s)), .int (isK (nI k)), .int (nI 0)]) (st := []) (ws2 := zMo (zy E) q (flG h (isS (nI s)) (isK (nI k)) (nI 0))) (B := zMo (zy E) q h) (B' := zMo (zy E) q (flG h (isS (nI s)) (isK (nI k)) (nI 0))) (r := some (.int (flR (isS (nI s)) (isK (nI k)) (nI 0)))) 3 (c_X10_fails q h (isS (nI s)) (isK (nI k)) (nI 0)) gX10_stacks_X10_fails (q0 := 0) (ci := 8) (by decide +kernel) rfl rfl rfl ⟨by decide, by decide⟩ [0, 1, 2, 3, 4, 5, 6] rfl (by decide) rfl (Nat.le_of_ble_eq_true rfl) rfl rfl dX10_stacks_65 ?_ hkR
        have pf_2 : flV (isS (nI s)) (isK (nI k)) (nI 0) = nI 2 := by rw [flV, if_neg c_4, if_pos c_11]
        refine z_top (nI 1) (by rw [flR, pf_2]; first | done | decide +kernel) ?_
        refine z_cast (lv := [(4, .int (nI 0)), (0, .ref (q 0)), (1, .int (nI s)), (2, .int (nI k)), (3, .int (nI 0))]) (ws := (zMo (zy E) q (va_up h 0 (upd (h 0) 1 (nI 2))))) (st := [.int (nI 1)]) ?_ rfl (by rw [flG, pf_2]) rfl
        refine z_if_eq hC 73 dX10_stacks_68 (by decide) (fun c_68 => ?_) (fun c_68 => ?_)
        · exact absurd c_68 (by decide +kernel)
        · refine z_iconst hC (nI 0) (by decide +kernel) dX10_stacks_71 ?_
          have pT : stT (h 1) s k = 2 := by simp only [stT, if_neg c_4, if_pos c_11]
          exact z_iret hC hf rfl (by rw [pT]; rfl) (by unfold mxG; rw [pT]; rfl) dX10_stacks_72
      · exact absurd c_32 (by decide +kernel)
    · have hk3 := isK_lt hk c_11
      refine z_iconst hC (nI 1) (by decide +kernel) dX10_stacks_14 ?_
      refine z_goto hC 19 dX10_stacks_15 (by decide) ?_
      refine z_istore hC (by decide) (lv' := [(4, .int (nI 1)), (0, .ref (q 0)), (1, .int (nI s)), (2, .int (nI k)), (3, .int (nI 0))]) rfl dX10_stacks_19 ?_
      refine z_aload_n hC 1 rfl dX10_stacks_21 ?_
      refine z_iload_n hC 2 rfl dX10_stacks_22 ?_
      refine z_callS hC (As := [.int (nI s)]) (st := [.ref (q 0)]) (ws2 := zMo (zy E) q h) (B := []) (B' := []) (r := some (.int (isS (nI s)))) 1 (c_X10_isSite (nI s)) gX10_stacks_X10_isSite (by decide +kernel) rfl ⟨by decide, by decide⟩ [] rfl (by decide) rfl (Nat.le_of_ble_eq_true rfl) rfl rfl dX10_stacks_23 ?_ hkR
      refine z_iload_n hC 3 rfl dX10_stacks_26 ?_
      refine z_callS hC (As := [.int (nI k)]) (st := [.int (isS (nI s)), .ref (q 0)]) (ws2 := zMo (zy E) q h) (B := []) (B' := []) (r := some (.int (isK (nI k)))) 1 (c_X10_isKind (nI k)) gX10_stacks_X10_isKind (by decide +kernel) rfl ⟨by decide, by decide⟩ [] rfl (by decide) rfl (Nat.le_of_ble_eq_true rfl) rfl rfl dX10_stacks_27 ?_ hkR
      refine z_iload hC 0 rfl dX10_stacks_30 ?_
      refine z_if_eq hC 64 dX10_stacks_32 (by decide) (fun c_32 => ?_) (fun c_32 => ?_)
      · exact absurd c_32 (by decide +kernel)
      · refine z_aload_n hC 1 rfl dX10_stacks_35 ?_
        refine z_get hC 0 8 0 (v := .ref (q 1)) rfl rfl iX10_stacks_X10 (by decide) (List.mem_of_getElem? (i := 1) (by decide +kernel)) rfl rfl dX10_stacks_36 ?_
        refine z_iconst hC (nI 1) (by decide +kernel) dX10_stacks_39 ?_
        refine z_iload_n hC 3 rfl dX10_stacks_40 ?_
        refine z_iadd hC dX10_stacks_41 ?_
        refine z_top (nI (1 + k)) (nI_add _ _) ?_
        refine z_iald hC 1 (1 + k) (f := h 1) rfl rfl rfl (by omega) (by decide) dX10_stacks_42 ?_
        refine z_if_le hC 64 dX10_stacks_43 (by decide) (fun c_43 => ?_) (fun c_43 => ?_)
        · refine z_iconst hC (nI 0) (by decide +kernel) dX10_stacks_64 ?_
          refine z_callV hC (As := [.int (isS (nI s)), .int (isK (nI k)), .int (nI 0)]) (st := []) (ws2 := zMo (zy E) q (flG h (isS (nI s)) (isK (nI k)) (nI 0))) (B := zMo (zy E) q h) (B' := zMo (zy E) q (flG h (isS (nI s)) (isK (nI k)) (nI 0))) (r := some (.int (flR (isS (nI s)) (isK (nI k)) (nI 0)))) 3 (c_X10_fails q h (isS (nI s)) (isK (nI k)) (nI 0)) gX10_stacks_X10_fails (q0 := 0) (ci := 8) (by decide +kernel) rfl rfl rfl ⟨by decide, by decide⟩ [0, 1, 2, 3, 4, 5, 6] rfl (by decide) rfl (Nat.le_of_ble_eq_true rfl) rfl rfl dX10_stacks_65 ?_ hkR
          have pf_3 : flV (isS (nI s)) (isK (nI k)) (nI 0) = nI 3 := by rw [flV, if_neg c_4, if_neg c_11, if_pos (show nI 0 = 0 by decide +kernel)]
          refine z_top (nI 1) (by rw [flR, pf_3]; first | done | decide +kernel) ?_
          refine z_cast (lv := [(4, .int (nI 1)), (0, .ref (q 0)), (1, .int (nI s)), (2, .int (nI k)), (3, .int (nI 0))]) (ws := (zMo (zy E) q (va_up h 0 (upd (h 0) 1 (nI 3))))) (st := [.int (nI 1)]) ?_ rfl (by rw [flG, pf_3]) rfl
          refine z_if_eq hC 73 dX10_stacks_68 (by decide) (fun c_68 => ?_) (fun c_68 => ?_)
          · exact absurd c_68 (by decide +kernel)
          · refine z_iconst hC (nI 0) (by decide +kernel) dX10_stacks_71 ?_
            have pT : stT (h 1) s k = 3 := by simp only [stT, if_neg c_4, if_neg c_11, if_pos c_43]
            exact z_iret hC hf rfl (by rw [pT]; rfl) (by unfold mxG; rw [pT]; rfl) dX10_stacks_72
        · refine z_aload_n hC 1 rfl dX10_stacks_46 ?_
          refine z_get hC 0 8 0 (v := .ref (q 1)) rfl rfl iX10_stacks_X10 (by decide) (List.mem_of_getElem? (i := 1) (by decide +kernel)) rfl rfl dX10_stacks_47 ?_
          refine z_bipush hC (nI 12) (by decide +kernel) dX10_stacks_50 ?_
          refine z_iload_n hC 2 rfl dX10_stacks_52 ?_
          refine z_iadd hC dX10_stacks_53 ?_
          refine z_top (nI (12 + s)) (nI_add _ _) ?_
          refine z_iald hC 1 (12 + s) (f := h 1) rfl rfl rfl (by omega) (by decide) dX10_stacks_54 ?_
          refine z_bipush hC (nI 6) (by decide +kernel) dX10_stacks_55 ?_
          refine z_icmp_ge hC 64 dX10_stacks_57 (by decide) (fun c_57 => ?_) (fun c_57 => ?_)
          · refine z_iconst hC (nI 0) (by decide +kernel) dX10_stacks_64 ?_
            refine z_callV hC (As := [.int (isS (nI s)), .int (isK (nI k)), .int (nI 0)]) (st := []) (ws2 := zMo (zy E) q (flG h (isS (nI s)) (isK (nI k)) (nI 0))) (B := zMo (zy E) q h) (B' := zMo (zy E) q (flG h (isS (nI s)) (isK (nI k)) (nI 0))) (r := some (.int (flR (isS (nI s)) (isK (nI k)) (nI 0)))) 3 (c_X10_fails q h (isS (nI s)) (isK (nI k)) (nI 0)) gX10_stacks_X10_fails (q0 := 0) (ci := 8) (by decide +kernel) rfl rfl rfl ⟨by decide, by decide⟩ [0, 1, 2, 3, 4, 5, 6] rfl (by decide) rfl (Nat.le_of_ble_eq_true rfl) rfl rfl dX10_stacks_65 ?_ hkR
            have pf_4 : flV (isS (nI s)) (isK (nI k)) (nI 0) = nI 3 := by rw [flV, if_neg c_4, if_neg c_11, if_pos (show nI 0 = 0 by decide +kernel)]
            refine z_top (nI 1) (by rw [flR, pf_4]; first | done | decide +kernel) ?_
            refine z_cast (lv := [(4, .int (nI 1)), (0, .ref (q 0)), (1, .int (nI s)), (2, .int (nI k)), (3, .int (nI 0))]) (ws := (zMo (zy E) q (va_up h 0 (upd (h 0) 1 (nI 3))))) (st := [.int (nI 1)]) ?_ rfl (by rw [flG, pf_4]) rfl
            refine z_if_eq hC 73 dX10_stacks_68 (by decide) (fun c_68 => ?_) (fun c_68 => ?_)
            · exact absurd c_68 (by decide +kernel)
            · refine z_iconst hC (nI 0) (by decide +kernel) dX10_stacks_71 ?_
              have pT : stT (h 1) s k = 3 := by simp only [stT, if_neg c_4, if_neg c_11, if_neg c_43, if_pos c_57]
              exact z_iret hC hf rfl (by rw [pT]; rfl) (by unfold mxG; rw [pT]; rfl) dX10_stacks_72
          · have hz6 := zlt6 hM hs8 c_57
            refine z_iconst hC (nI 1) (by decide +kernel) dX10_stacks_60 ?_
            refine z_goto hC 65 dX10_stacks_61 (by decide) ?_
            refine z_callV hC (As := [.int (isS (nI s)), .int (isK (nI k)), .int (nI 1)]) (st := []) (ws2 := zMo (zy E) q (flG h (isS (nI s)) (isK (nI k)) (nI 1))) (B := zMo (zy E) q h) (B' := zMo (zy E) q (flG h (isS (nI s)) (isK (nI k)) (nI 1))) (r := some (.int (flR (isS (nI s)) (isK (nI k)) (nI 1)))) 3 (c_X10_fails q h (isS (nI s)) (isK (nI k)) (nI 1)) gX10_stacks_X10_fails (q0 := 0) (ci := 8) (by decide +kernel) rfl rfl rfl ⟨by decide, by decide⟩ [0, 1, 2, 3, 4, 5, 6] rfl (by decide) rfl (Nat.le_of_ble_eq_true rfl) rfl rfl dX10_stacks_65 ?_ hkR
            have pf_5 : flV (isS (nI s)) (isK (nI k)) (nI 1) = nI 0 := by rw [flV, if_neg c_4, if_neg c_11, if_neg (show ¬ nI 1 = 0 by decide +kernel)]
            refine z_top (nI 0) (by rw [flR, pf_5]; first | done | decide +kernel) ?_
            refine z_cast (lv := [(4, .int (nI 1)), (0, .ref (q 0)), (1, .int (nI s)), (2, .int (nI k)), (3, .int (nI 0))]) (ws := (zMo (zy E) q (va_up h 0 (upd (h 0) 1 (nI 0))))) (st := [.int (nI 0)]) ?_ rfl (by rw [flG, pf_5]) rfl
            refine z_if_eq hC 73 dX10_stacks_68 (by decide) (fun c_68 => ?_) (fun c_68 => ?_)
            · refine z_iload_n hC 4 rfl dX10_stacks_73 ?_
              refine z_if_eq hC 81 dX10_stacks_74 (by decide) (fun c_74 => ?_) (fun c_74 => ?_)
              · refine z_aload_n hC 1 rfl dX10_stacks_81 ?_
                refine z_get hC 0 8 0 (v := .ref (q 1)) rfl rfl iX10_stacks_X10 (by decide) (List.mem_of_getElem? (i := 1) (by decide +kernel)) rfl rfl dX10_stacks_82 ?_
                refine z_bipush hC (nI 12) (by decide +kernel) dX10_stacks_85 ?_
                refine z_iload_n hC 2 rfl dX10_stacks_87 ?_
                refine z_iadd hC dX10_stacks_88 ?_
                refine z_top (nI (12 + s)) (nI_add _ _) ?_
                refine z_iald hC 1 (12 + s) (f := h 1) rfl rfl rfl (by omega) (by decide) dX10_stacks_89 ?_
                refine z_top (nI (zhm (h 1) s)) (hM s hs8).1 ?_
                refine z_istore hC (by decide) (lv' := [(5, .int (nI (zhm (h 1) s))), (4, .int (nI 1)), (0, .ref (q 0)), (1, .int (nI s)), (2, .int (nI k)), (3, .int (nI 0))]) rfl dX10_stacks_90 ?_
                refine z_aload_n hC 2 rfl dX10_stacks_92 ?_
                refine z_get hC 0 8 0 (v := .ref (q 1)) rfl rfl iX10_stacks_X10 (by decide) (List.mem_of_getElem? (i := 1) (by decide +kernel)) rfl rfl dX10_stacks_93 ?_
                refine z_iconst hC (nI 1) (by decide +kernel) dX10_stacks_96 ?_
                refine z_iload_n hC 4 rfl dX10_stacks_97 ?_
                refine z_iadd hC dX10_stacks_98 ?_
                refine z_top (nI (1 + k)) (nI_add _ _) ?_
                refine z_dup2 hC dX10_stacks_99 rfl rfl ?_
                refine z_iald hC 1 (1 + k) (f := h 1) rfl rfl rfl (by omega) (by decide) dX10_stacks_100 ?_
                refine z_iconst hC (nI 1) (by decide +kernel) dX10_stacks_101 ?_
                refine z_isub hC dX10_stacks_102 ?_
                refine z_iast hC 1 (1 + k) (((h 1) (1 + k)) - (nI 1)) (ws' := zMo (zy E) q (va_up (va_up h 0 (upd (h 0) 1 (nI 0))) 1 (upd (h 1) (1 + k) (((h 1) (1 + k)) - (nI 1))))) rfl rfl rfl rfl (by omega) (by decide) rfl dX10_stacks_103 ?_
                refine z_aload_n hC 2 rfl dX10_stacks_104 ?_
                refine z_get hC 0 8 0 (v := .ref (q 1)) rfl rfl iX10_stacks_X10 (by decide) (List.mem_of_getElem? (i := 1) (by decide +kernel)) rfl rfl dX10_stacks_105 ?_
                refine z_bipush hC (nI 44) (by decide +kernel) dX10_stacks_108 ?_
                refine z_bipush hC (nI 6) (by decide +kernel) dX10_stacks_110 ?_
                refine z_iload_n hC 3 rfl dX10_stacks_112 ?_
                refine z_imul hC dX10_stacks_113 ?_
                refine z_top (nI (6 * s)) (pk_mul _ _) ?_
                refine z_iadd hC dX10_stacks_114 ?_
                refine z_top (nI (44 + (6 * s))) (nI_add _ _) ?_
                refine z_iload hC 0 rfl dX10_stacks_115 ?_
                refine z_iadd hC dX10_stacks_117 ?_
                refine z_top (nI ((44 + (6 * s)) + (zhm (h 1) s))) (nI_add _ _) ?_
                refine z_iload_n hC 4 rfl dX10_stacks_118 ?_
                refine z_iast hC 1 ((44 + (6 * s)) + (zhm (h 1) s)) (nI k) (ws' := zMo (zy E) q (va_up (va_up h 0 (upd (h 0) 1 (nI 0))) 1 (upd (upd (h 1) (1 + k) (((h 1) (1 + k)) - (nI 1))) ((44 + (6 * s)) + (zhm (h 1) s)) (nI k)))) rfl rfl rfl rfl (by omega) (by decide) rfl dX10_stacks_119 ?_
                refine z_aload_n hC 2 rfl dX10_stacks_120 ?_
                refine z_get hC 0 8 0 (v := .ref (q 1)) rfl rfl iX10_stacks_X10 (by decide) (List.mem_of_getElem? (i := 1) (by decide +kernel)) rfl rfl dX10_stacks_121 ?_
                refine z_bipush hC (nI 92) (by decide +kernel) dX10_stacks_124 ?_
                refine z_bipush hC (nI 6) (by decide +kernel) dX10_stacks_126 ?_
                refine z_iload_n hC 3 rfl dX10_stacks_128 ?_
                refine z_imul hC dX10_stacks_129 ?_
                refine z_top (nI (6 * s)) (pk_mul _ _) ?_
                refine z_iadd hC dX10_stacks_130 ?_
                refine z_top (nI (92 + (6 * s))) (nI_add _ _) ?_
                refine z_iload hC 0 rfl dX10_stacks_131 ?_
                refine z_iadd hC dX10_stacks_133 ?_
                refine z_top (nI ((92 + (6 * s)) + (zhm (h 1) s))) (nI_add _ _) ?_
                refine z_bipush hC (nI 100) (by decide +kernel) dX10_stacks_134 ?_
                refine z_iast hC 1 ((92 + (6 * s)) + (zhm (h 1) s)) (nI 100) (ws' := zMo (zy E) q (va_up (va_up h 0 (upd (h 0) 1 (nI 0))) 1 (upd (upd (upd (h 1) (1 + k) (((h 1) (1 + k)) - (nI 1))) ((44 + (6 * s)) + (zhm (h 1) s)) (nI k)) ((92 + (6 * s)) + (zhm (h 1) s)) (nI 100)))) rfl rfl rfl rfl (by omega) (by decide) rfl dX10_stacks_136 ?_
                refine z_aload_n hC 2 rfl dX10_stacks_137 ?_
                refine z_get hC 0 8 0 (v := .ref (q 1)) rfl rfl iX10_stacks_X10 (by decide) (List.mem_of_getElem? (i := 1) (by decide +kernel)) rfl rfl dX10_stacks_138 ?_
                refine z_bipush hC (nI 12) (by decide +kernel) dX10_stacks_141 ?_
                refine z_iload_n hC 3 rfl dX10_stacks_143 ?_
                refine z_iadd hC dX10_stacks_144 ?_
                refine z_top (nI (12 + s)) (nI_add _ _) ?_
                refine z_dup2 hC dX10_stacks_145 rfl rfl ?_
                refine z_iald hC 1 (12 + s) (f := upd (upd (upd (h 1) (1 + k) (((h 1) (1 + k)) - (nI 1))) ((44 + (6 * s)) + (zhm (h 1) s)) (nI k)) ((92 + (6 * s)) + (zhm (h 1) s)) (nI 100)) rfl rfl rfl (by omega) (by decide) dX10_stacks_146 ?_
                refine z_iconst hC (nI 1) (by decide +kernel) dX10_stacks_147 ?_
                refine z_iadd hC dX10_stacks_148 ?_
                refine z_iast hC 1 (12 + s) (((upd (upd (upd (h 1) (1 + k) (((h 1) (1 + k)) - (nI 1))) ((44 + (6 * s)) + (zhm (h 1) s)) (nI k)) ((92 + (6 * s)) + (zhm (h 1) s)) (nI 100)) (12 + s)) + (nI 1)) (ws' := zMo (zy E) q (va_up (va_up h 0 (upd (h 0) 1 (nI 0))) 1 (upd (upd (upd (upd (h 1) (1 + k) (((h 1) (1 + k)) - (nI 1))) ((44 + (6 * s)) + (zhm (h 1) s)) (nI k)) ((92 + (6 * s)) + (zhm (h 1) s)) (nI 100)) (12 + s) (((upd (upd (upd (h 1) (1 + k) (((h 1) (1 + k)) - (nI 1))) ((44 + (6 * s)) + (zhm (h 1) s)) (nI k)) ((92 + (6 * s)) + (zhm (h 1) s)) (nI 100)) (12 + s)) + (nI 1))))) rfl rfl rfl rfl (by omega) (by decide) rfl dX10_stacks_149 ?_
                refine z_iload hC 0 rfl dX10_stacks_150 ?_
                have pT : stT (h 1) s k = 0 := by simp only [stT, if_neg c_4, if_neg c_11, if_neg c_43, if_neg c_57]
                exact z_iret hC hf rfl (by rw [pT]; rfl) (by unfold mxG; rw [pT]; rfl) dX10_stacks_152
              · exact absurd c_74 (by decide +kernel)
            · exact absurd c_68 (by decide +kernel)

set_option maxHeartbeats 4000000 in
set_option maxRecDepth 100000 in
/-- stacks -/
theorem c_X10_stacks_1 {l : Launch} {y : zY} {D : va_G} (q : Nat → Nat) (h : Nat → Nat → Int32) (s k : Nat) (hs : s < 2 ^ 32) (hk : k < 2 ^ 32) (hM : okM (h 1)) (m : Nat) (hsv : h 0 0 = nI m) (hm4 : m ≤ 4) : zM l y D yX10_stacks wsX10_stacks 2 42 [.ref (q 0), .int (nI s), .int (nI k), .int (nI 1)] (zMo y q h) (zMo y q (mxG h (stT (h 1) s k) (va_up (svG (h0t h) m) 1 (stF (h 1) s k)))) (some (.int (if stT (h 1) s k = 0 then nI (zhm (h 1) s) else nI 0))) := by
  refine z_start (own := RX10) (cc := cX10_stacks) (maxL := 6) (ret := (some .int)) rfl (by decide +kernel) rfl (Nat.le_of_ble_eq_true rfl) (zMo_fst _ _ _ _) ?_
  intro E hEl hEy hED hC hf
  subst hEl hEy hED
  have hkR : 0 ≤ E.2.2.2.2.2.1.cells ∧ 0 ≤ E.2.2.2.2.2.1.slots := ⟨Nat.zero_le _, Nat.zero_le _⟩
  refine z_cast (lv := [(0, .ref (q 0)), (1, .int (nI s)), (2, .int (nI k)), (3, .int (nI 1))]) (ws := (zMo (zy E) q h)) (st := []) ?_ rfl rfl rfl
  refine z_iload_n hC 1 rfl dX10_stacks_0 ?_
  refine z_callS hC (As := [.int (nI s)]) (st := []) (ws2 := zMo (zy E) q h) (B := []) (B' := []) (r := some (.int (isS (nI s)))) 1 (c_X10_isSite (nI s)) gX10_stacks_X10_isSite (by decide +kernel) rfl ⟨by decide, by decide⟩ [] rfl (by decide) rfl (Nat.le_of_ble_eq_true rfl) rfl rfl dX10_stacks_1 ?_ hkR
  refine z_if_eq hC 18 dX10_stacks_4 (by decide) (fun c_4 => ?_) (fun c_4 => ?_)
  · refine z_iconst hC (nI 0) (by decide +kernel) dX10_stacks_18 ?_
    refine z_istore hC (by decide) (lv' := [(4, .int (nI 0)), (0, .ref (q 0)), (1, .int (nI s)), (2, .int (nI k)), (3, .int (nI 1))]) rfl dX10_stacks_19 ?_
    refine z_aload_n hC 1 rfl dX10_stacks_21 ?_
    refine z_iload_n hC 2 rfl dX10_stacks_22 ?_
    refine z_callS hC (As := [.int (nI s)]) (st := [.ref (q 0)]) (ws2 := zMo (zy E) q h) (B := []) (B' := []) (r := some (.int (isS (nI s)))) 1 (c_X10_isSite (nI s)) gX10_stacks_X10_isSite (by decide +kernel) rfl ⟨by decide, by decide⟩ [] rfl (by decide) rfl (Nat.le_of_ble_eq_true rfl) rfl rfl dX10_stacks_23 ?_ hkR
    refine z_iload_n hC 3 rfl dX10_stacks_26 ?_
    refine z_callS hC (As := [.int (nI k)]) (st := [.int (isS (nI s)), .ref (q 0)]) (ws2 := zMo (zy E) q h) (B := []) (B' := []) (r := some (.int (isK (nI k)))) 1 (c_X10_isKind (nI k)) gX10_stacks_X10_isKind (by decide +kernel) rfl ⟨by decide, by decide⟩ [] rfl (by decide) rfl (Nat.le_of_ble_eq_true rfl) rfl rfl dX10_stacks_27 ?_ hkR
    refine z_iload hC 0 rfl dX10_stacks_30 ?_
    refine z_if_eq hC 64 dX10_stacks_32 (by decide) (fun c_32 => ?_) (fun c_32 => ?_)
    · refine z_iconst hC (nI 0) (by decide +kernel) dX10_stacks_64 ?_
      refine z_callV hC (As := [.int (isS (nI s)), .int (isK (nI k)), .int (nI 0)]) (st := []) (ws2 := zMo (zy E) q (flG h (isS (nI s)) (isK (nI k)) (nI 0))) (B := zMo (zy E) q h) (B' := zMo (zy E) q (flG h (isS (nI s)) (isK (nI k)) (nI 0))) (r := some (.int (flR (isS (nI s)) (isK (nI k)) (nI 0)))) 3 (c_X10_fails q h (isS (nI s)) (isK (nI k)) (nI 0)) gX10_stacks_X10_fails (q0 := 0) (ci := 8) (by decide +kernel) rfl rfl rfl ⟨by decide, by decide⟩ [0, 1, 2, 3, 4, 5, 6] rfl (by decide) rfl (Nat.le_of_ble_eq_true rfl) rfl rfl dX10_stacks_65 ?_ hkR
      have pf_1 : flV (isS (nI s)) (isK (nI k)) (nI 0) = nI 1 := by rw [flV, if_pos c_4]
      refine z_top (nI 1) (by rw [flR, pf_1]; first | done | decide +kernel) ?_
      refine z_cast (lv := [(4, .int (nI 0)), (0, .ref (q 0)), (1, .int (nI s)), (2, .int (nI k)), (3, .int (nI 1))]) (ws := (zMo (zy E) q (va_up h 0 (upd (h 0) 1 (nI 1))))) (st := [.int (nI 1)]) ?_ rfl (by rw [flG, pf_1]) rfl
      refine z_if_eq hC 73 dX10_stacks_68 (by decide) (fun c_68 => ?_) (fun c_68 => ?_)
      · exact absurd c_68 (by decide +kernel)
      · refine z_iconst hC (nI 0) (by decide +kernel) dX10_stacks_71 ?_
        have pT : stT (h 1) s k = 1 := by simp only [stT, if_pos c_4]
        exact z_iret hC hf rfl (by rw [pT]; rfl) (by unfold mxG; rw [pT]; rfl) dX10_stacks_72
    · exact absurd c_32 (by decide +kernel)
  · have hs8 := isS_lt hs c_4
    refine z_iload_n hC 2 rfl dX10_stacks_7 ?_
    refine z_callS hC (As := [.int (nI k)]) (st := []) (ws2 := zMo (zy E) q h) (B := []) (B' := []) (r := some (.int (isK (nI k)))) 1 (c_X10_isKind (nI k)) gX10_stacks_X10_isKind (by decide +kernel) rfl ⟨by decide, by decide⟩ [] rfl (by decide) rfl (Nat.le_of_ble_eq_true rfl) rfl rfl dX10_stacks_8 ?_ hkR
    refine z_if_eq hC 18 dX10_stacks_11 (by decide) (fun c_11 => ?_) (fun c_11 => ?_)
    · refine z_iconst hC (nI 0) (by decide +kernel) dX10_stacks_18 ?_
      refine z_istore hC (by decide) (lv' := [(4, .int (nI 0)), (0, .ref (q 0)), (1, .int (nI s)), (2, .int (nI k)), (3, .int (nI 1))]) rfl dX10_stacks_19 ?_
      refine z_aload_n hC 1 rfl dX10_stacks_21 ?_
      refine z_iload_n hC 2 rfl dX10_stacks_22 ?_
      refine z_callS hC (As := [.int (nI s)]) (st := [.ref (q 0)]) (ws2 := zMo (zy E) q h) (B := []) (B' := []) (r := some (.int (isS (nI s)))) 1 (c_X10_isSite (nI s)) gX10_stacks_X10_isSite (by decide +kernel) rfl ⟨by decide, by decide⟩ [] rfl (by decide) rfl (Nat.le_of_ble_eq_true rfl) rfl rfl dX10_stacks_23 ?_ hkR
      refine z_iload_n hC 3 rfl dX10_stacks_26 ?_
      refine z_callS hC (As := [.int (nI k)]) (st := [.int (isS (nI s)), .ref (q 0)]) (ws2 := zMo (zy E) q h) (B := []) (B' := []) (r := some (.int (isK (nI k)))) 1 (c_X10_isKind (nI k)) gX10_stacks_X10_isKind (by decide +kernel) rfl ⟨by decide, by decide⟩ [] rfl (by decide) rfl (Nat.le_of_ble_eq_true rfl) rfl rfl dX10_stacks_27 ?_ hkR
      refine z_iload hC 0 rfl dX10_stacks_30 ?_
      refine z_if_eq hC 64 dX10_stacks_32 (by decide) (fun c_32 => ?_) (fun c_32 => ?_)
      · refine z_iconst hC (nI 0) (by decide +kernel) dX10_stacks_64 ?_
        refine z_callV hC (As := [.int (isS (nI s)), .int (isK (nI k)), .int (nI 0)]) (st := []) (ws2 := zMo (zy E) q (flG h (isS (nI s)) (isK (nI k)) (nI 0))) (B := zMo (zy E) q h) (B' := zMo (zy E) q (flG h (isS (nI s)) (isK (nI k)) (nI 0))) (r := some (.int (flR (isS (nI s)) (isK (nI k)) (nI 0)))) 3 (c_X10_fails q h (isS (nI s)) (isK (nI k)) (nI 0)) gX10_stacks_X10_fails (q0 := 0) (ci := 8) (by decide +kernel) rfl rfl rfl ⟨by decide, by decide⟩ [0, 1, 2, 3, 4, 5, 6] rfl (by decide) rfl (Nat.le_of_ble_eq_true rfl) rfl rfl dX10_stacks_65 ?_ hkR
        have pf_2 : flV (isS (nI s)) (isK (nI k)) (nI 0) = nI 2 := by rw [flV, if_neg c_4, if_pos c_11]
        refine z_top (nI 1) (by rw [flR, pf_2]; first | done | decide +kernel) ?_
        refine z_cast (lv := [(4, .int (nI 0)), (0, .ref (q 0)), (1, .int (nI s)), (2, .int (nI k)), (3, .int (nI 1))]) (ws := (zMo (zy E) q (va_up h 0 (upd (h 0) 1 (nI 2))))) (st := [.int (nI 1)]) ?_ rfl (by rw [flG, pf_2]) rfl
        refine z_if_eq hC 73 dX10_stacks_68 (by decide) (fun c_68 => ?_) (fun c_68 => ?_)
        · exact absurd c_68 (by decide +kernel)
        · refine z_iconst hC (nI 0) (by decide +kernel) dX10_stacks_71 ?_
          have pT : stT (h 1) s k = 2 := by simp only [stT, if_neg c_4, if_pos c_11]
          exact z_iret hC hf rfl (by rw [pT]; rfl) (by unfold mxG; rw [pT]; rfl) dX10_stacks_72
      · exact absurd c_32 (by decide +kernel)
    · have hk3 := isK_lt hk c_11
      refine z_iconst hC (nI 1) (by decide +kernel) dX10_stacks_14 ?_
      refine z_goto hC 19 dX10_stacks_15 (by decide) ?_
      refine z_istore hC (by decide) (lv' := [(4, .int (nI 1)), (0, .ref (q 0)), (1, .int (nI s)), (2, .int (nI k)), (3, .int (nI 1))]) rfl dX10_stacks_19 ?_
      refine z_aload_n hC 1 rfl dX10_stacks_21 ?_
      refine z_iload_n hC 2 rfl dX10_stacks_22 ?_
      refine z_callS hC (As := [.int (nI s)]) (st := [.ref (q 0)]) (ws2 := zMo (zy E) q h) (B := []) (B' := []) (r := some (.int (isS (nI s)))) 1 (c_X10_isSite (nI s)) gX10_stacks_X10_isSite (by decide +kernel) rfl ⟨by decide, by decide⟩ [] rfl (by decide) rfl (Nat.le_of_ble_eq_true rfl) rfl rfl dX10_stacks_23 ?_ hkR
      refine z_iload_n hC 3 rfl dX10_stacks_26 ?_
      refine z_callS hC (As := [.int (nI k)]) (st := [.int (isS (nI s)), .ref (q 0)]) (ws2 := zMo (zy E) q h) (B := []) (B' := []) (r := some (.int (isK (nI k)))) 1 (c_X10_isKind (nI k)) gX10_stacks_X10_isKind (by decide +kernel) rfl ⟨by decide, by decide⟩ [] rfl (by decide) rfl (Nat.le_of_ble_eq_true rfl) rfl rfl dX10_stacks_27 ?_ hkR
      refine z_iload hC 0 rfl dX10_stacks_30 ?_
      refine z_if_eq hC 64 dX10_stacks_32 (by decide) (fun c_32 => ?_) (fun c_32 => ?_)
      · exact absurd c_32 (by decide +kernel)
      · refine z_aload_n hC 1 rfl dX10_stacks_35 ?_
        refine z_get hC 0 8 0 (v := .ref (q 1)) rfl rfl iX10_stacks_X10 (by decide) (List.mem_of_getElem? (i := 1) (by decide +kernel)) rfl rfl dX10_stacks_36 ?_
        refine z_iconst hC (nI 1) (by decide +kernel) dX10_stacks_39 ?_
        refine z_iload_n hC 3 rfl dX10_stacks_40 ?_
        refine z_iadd hC dX10_stacks_41 ?_
        refine z_top (nI (1 + k)) (nI_add _ _) ?_
        refine z_iald hC 1 (1 + k) (f := h 1) rfl rfl rfl (by omega) (by decide) dX10_stacks_42 ?_
        refine z_if_le hC 64 dX10_stacks_43 (by decide) (fun c_43 => ?_) (fun c_43 => ?_)
        · refine z_iconst hC (nI 0) (by decide +kernel) dX10_stacks_64 ?_
          refine z_callV hC (As := [.int (isS (nI s)), .int (isK (nI k)), .int (nI 0)]) (st := []) (ws2 := zMo (zy E) q (flG h (isS (nI s)) (isK (nI k)) (nI 0))) (B := zMo (zy E) q h) (B' := zMo (zy E) q (flG h (isS (nI s)) (isK (nI k)) (nI 0))) (r := some (.int (flR (isS (nI s)) (isK (nI k)) (nI 0)))) 3 (c_X10_fails q h (isS (nI s)) (isK (nI k)) (nI 0)) gX10_stacks_X10_fails (q0 := 0) (ci := 8) (by decide +kernel) rfl rfl rfl ⟨by decide, by decide⟩ [0, 1, 2, 3, 4, 5, 6] rfl (by decide) rfl (Nat.le_of_ble_eq_true rfl) rfl rfl dX10_stacks_65 ?_ hkR
          have pf_3 : flV (isS (nI s)) (isK (nI k)) (nI 0) = nI 3 := by rw [flV, if_neg c_4, if_neg c_11, if_pos (show nI 0 = 0 by decide +kernel)]
          refine z_top (nI 1) (by rw [flR, pf_3]; first | done | decide +kernel) ?_
          refine z_cast (lv := [(4, .int (nI 1)), (0, .ref (q 0)), (1, .int (nI s)), (2, .int (nI k)), (3, .int (nI 1))]) (ws := (zMo (zy E) q (va_up h 0 (upd (h 0) 1 (nI 3))))) (st := [.int (nI 1)]) ?_ rfl (by rw [flG, pf_3]) rfl
          refine z_if_eq hC 73 dX10_stacks_68 (by decide) (fun c_68 => ?_) (fun c_68 => ?_)
          · exact absurd c_68 (by decide +kernel)
          · refine z_iconst hC (nI 0) (by decide +kernel) dX10_stacks_71 ?_
            have pT : stT (h 1) s k = 3 := by simp only [stT, if_neg c_4, if_neg c_11, if_pos c_43]
            exact z_iret hC hf rfl (by rw [pT]; rfl) (by unfold mxG; rw [pT]; rfl) dX10_stacks_72
        · refine z_aload_n hC 1 rfl dX10_stacks_46 ?_
          refine z_get hC 0 8 0 (v := .ref (q 1)) rfl rfl iX10_stacks_X10 (by decide) (List.mem_of_getElem? (i := 1) (by decide +kernel)) rfl rfl dX10_stacks_47 ?_
          refine z_bipush hC (nI 12) (by decide +kernel) dX10_stacks_50 ?_
          refine z_iload_n hC 2 rfl dX10_stacks_52 ?_
          refine z_iadd hC dX10_stacks_53 ?_
          refine z_top (nI (12 + s)) (nI_add _ _) ?_
          refine z_iald hC 1 (12 + s) (f := h 1) rfl rfl rfl (by omega) (by decide) dX10_stacks_54 ?_
          refine z_bipush hC (nI 6) (by decide +kernel) dX10_stacks_55 ?_
          refine z_icmp_ge hC 64 dX10_stacks_57 (by decide) (fun c_57 => ?_) (fun c_57 => ?_)
          · refine z_iconst hC (nI 0) (by decide +kernel) dX10_stacks_64 ?_
            refine z_callV hC (As := [.int (isS (nI s)), .int (isK (nI k)), .int (nI 0)]) (st := []) (ws2 := zMo (zy E) q (flG h (isS (nI s)) (isK (nI k)) (nI 0))) (B := zMo (zy E) q h) (B' := zMo (zy E) q (flG h (isS (nI s)) (isK (nI k)) (nI 0))) (r := some (.int (flR (isS (nI s)) (isK (nI k)) (nI 0)))) 3 (c_X10_fails q h (isS (nI s)) (isK (nI k)) (nI 0)) gX10_stacks_X10_fails (q0 := 0) (ci := 8) (by decide +kernel) rfl rfl rfl ⟨by decide, by decide⟩ [0, 1, 2, 3, 4, 5, 6] rfl (by decide) rfl (Nat.le_of_ble_eq_true rfl) rfl rfl dX10_stacks_65 ?_ hkR
            have pf_4 : flV (isS (nI s)) (isK (nI k)) (nI 0) = nI 3 := by rw [flV, if_neg c_4, if_neg c_11, if_pos (show nI 0 = 0 by decide +kernel)]
            refine z_top (nI 1) (by rw [flR, pf_4]; first | done | decide +kernel) ?_
            refine z_cast (lv := [(4, .int (nI 1)), (0, .ref (q 0)), (1, .int (nI s)), (2, .int (nI k)), (3, .int (nI 1))]) (ws := (zMo (zy E) q (va_up h 0 (upd (h 0) 1 (nI 3))))) (st := [.int (nI 1)]) ?_ rfl (by rw [flG, pf_4]) rfl
            refine z_if_eq hC 73 dX10_stacks_68 (by decide) (fun c_68 => ?_) (fun c_68 => ?_)
            · exact absurd c_68 (by decide +kernel)
            · refine z_iconst hC (nI 0) (by decide +kernel) dX10_stacks_71 ?_
              have pT : stT (h 1) s k = 3 := by simp only [stT, if_neg c_4, if_neg c_11, if_neg c_43, if_pos c_57]
              exact z_iret hC hf rfl (by rw [pT]; rfl) (by unfold mxG; rw [pT]; rfl) dX10_stacks_72
          · have hz6 := zlt6 hM hs8 c_57
            refine z_iconst hC (nI 1) (by decide +kernel) dX10_stacks_60 ?_
            refine z_goto hC 65 dX10_stacks_61 (by decide) ?_
            refine z_callV hC (As := [.int (isS (nI s)), .int (isK (nI k)), .int (nI 1)]) (st := []) (ws2 := zMo (zy E) q (flG h (isS (nI s)) (isK (nI k)) (nI 1))) (B := zMo (zy E) q h) (B' := zMo (zy E) q (flG h (isS (nI s)) (isK (nI k)) (nI 1))) (r := some (.int (flR (isS (nI s)) (isK (nI k)) (nI 1)))) 3 (c_X10_fails q h (isS (nI s)) (isK (nI k)) (nI 1)) gX10_stacks_X10_fails (q0 := 0) (ci := 8) (by decide +kernel) rfl rfl rfl ⟨by decide, by decide⟩ [0, 1, 2, 3, 4, 5, 6] rfl (by decide) rfl (Nat.le_of_ble_eq_true rfl) rfl rfl dX10_stacks_65 ?_ hkR
            have pf_5 : flV (isS (nI s)) (isK (nI k)) (nI 1) = nI 0 := by rw [flV, if_neg c_4, if_neg c_11, if_neg (show ¬ nI 1 = 0 by decide +kernel)]
            refine z_top (nI 0) (by rw [flR, pf_5]; first | done | decide +kernel) ?_
            refine z_cast (lv := [(4, .int (nI 1)), (0, .ref (q 0)), (1, .int (nI s)), (2, .int (nI k)), (3, .int (nI 1))]) (ws := (zMo (zy E) q (va_up h 0 (upd (h 0) 1 (nI 0))))) (st := [.int (nI 0)]) ?_ rfl (by rw [flG, pf_5]) rfl
            refine z_if_eq hC 73 dX10_stacks_68 (by decide) (fun c_68 => ?_) (fun c_68 => ?_)
            · refine z_iload_n hC 4 rfl dX10_stacks_73 ?_
              refine z_if_eq hC 81 dX10_stacks_74 (by decide) (fun c_74 => ?_) (fun c_74 => ?_)
              · exact absurd c_74 (by decide +kernel)
              · refine z_aload_n hC 1 rfl dX10_stacks_77 ?_
                refine z_callV hC (As := []) (st := []) (ws2 := zMo (zy E) q (svG (va_up h 0 (upd (h 0) 1 (nI 0))) m)) (B := zMo (zy E) q (va_up h 0 (upd (h 0) 1 (nI 0)))) (B' := zMo (zy E) q (svG (va_up h 0 (upd (h 0) 1 (nI 0))) m)) (r := none) 0 (c_X10_save q (va_up h 0 (upd (h 0) 1 (nI 0))) m hsv hm4) gX10_stacks_X10_save (q0 := 0) (ci := 8) (by decide +kernel) rfl rfl rfl ⟨by decide, by decide⟩ [0, 1, 2, 3, 4, 5, 6] rfl (by decide) rfl (Nat.le_of_ble_eq_true rfl) rfl rfl dX10_stacks_78 ?_ hkR
                refine z_aload_n hC 1 rfl dX10_stacks_81 ?_
                refine z_get hC 0 8 0 (v := .ref (q 1)) rfl rfl iX10_stacks_X10 (by decide) (List.mem_of_getElem? (i := 1) (by decide +kernel)) rfl rfl dX10_stacks_82 ?_
                refine z_bipush hC (nI 12) (by decide +kernel) dX10_stacks_85 ?_
                refine z_iload_n hC 2 rfl dX10_stacks_87 ?_
                refine z_iadd hC dX10_stacks_88 ?_
                refine z_top (nI (12 + s)) (nI_add _ _) ?_
                refine z_iald hC 1 (12 + s) (f := h 1) rfl rfl rfl (by omega) (by decide) dX10_stacks_89 ?_
                refine z_top (nI (zhm (h 1) s)) (hM s hs8).1 ?_
                refine z_istore hC (by decide) (lv' := [(5, .int (nI (zhm (h 1) s))), (4, .int (nI 1)), (0, .ref (q 0)), (1, .int (nI s)), (2, .int (nI k)), (3, .int (nI 1))]) rfl dX10_stacks_90 ?_
                refine z_aload_n hC 2 rfl dX10_stacks_92 ?_
                refine z_get hC 0 8 0 (v := .ref (q 1)) rfl rfl iX10_stacks_X10 (by decide) (List.mem_of_getElem? (i := 1) (by decide +kernel)) rfl rfl dX10_stacks_93 ?_
                refine z_iconst hC (nI 1) (by decide +kernel) dX10_stacks_96 ?_
                refine z_iload_n hC 4 rfl dX10_stacks_97 ?_
                refine z_iadd hC dX10_stacks_98 ?_
                refine z_top (nI (1 + k)) (nI_add _ _) ?_
                refine z_dup2 hC dX10_stacks_99 rfl rfl ?_
                refine z_iald hC 1 (1 + k) (f := h 1) rfl rfl rfl (by omega) (by decide) dX10_stacks_100 ?_
                refine z_iconst hC (nI 1) (by decide +kernel) dX10_stacks_101 ?_
                refine z_isub hC dX10_stacks_102 ?_
                refine z_iast hC 1 (1 + k) (((h 1) (1 + k)) - (nI 1)) (ws' := zMo (zy E) q (va_up (svG (va_up h 0 (upd (h 0) 1 (nI 0))) m) 1 (upd (h 1) (1 + k) (((h 1) (1 + k)) - (nI 1))))) rfl rfl rfl rfl (by omega) (by decide) rfl dX10_stacks_103 ?_
                refine z_aload_n hC 2 rfl dX10_stacks_104 ?_
                refine z_get hC 0 8 0 (v := .ref (q 1)) rfl rfl iX10_stacks_X10 (by decide) (List.mem_of_getElem? (i := 1) (by decide +kernel)) rfl rfl dX10_stacks_105 ?_
                refine z_bipush hC (nI 44) (by decide +kernel) dX10_stacks_108 ?_
                refine z_bipush hC (nI 6) (by decide +kernel) dX10_stacks_110 ?_
                refine z_iload_n hC 3 rfl dX10_stacks_112 ?_
                refine z_imul hC dX10_stacks_113 ?_
                refine z_top (nI (6 * s)) (pk_mul _ _) ?_
                refine z_iadd hC dX10_stacks_114 ?_
                refine z_top (nI (44 + (6 * s))) (nI_add _ _) ?_
                refine z_iload hC 0 rfl dX10_stacks_115 ?_
                refine z_iadd hC dX10_stacks_117 ?_
                refine z_top (nI ((44 + (6 * s)) + (zhm (h 1) s))) (nI_add _ _) ?_
                refine z_iload_n hC 4 rfl dX10_stacks_118 ?_
                refine z_iast hC 1 ((44 + (6 * s)) + (zhm (h 1) s)) (nI k) (ws' := zMo (zy E) q (va_up (svG (va_up h 0 (upd (h 0) 1 (nI 0))) m) 1 (upd (upd (h 1) (1 + k) (((h 1) (1 + k)) - (nI 1))) ((44 + (6 * s)) + (zhm (h 1) s)) (nI k)))) rfl rfl rfl rfl (by omega) (by decide) rfl dX10_stacks_119 ?_
                refine z_aload_n hC 2 rfl dX10_stacks_120 ?_
                refine z_get hC 0 8 0 (v := .ref (q 1)) rfl rfl iX10_stacks_X10 (by decide) (List.mem_of_getElem? (i := 1) (by decide +kernel)) rfl rfl dX10_stacks_121 ?_
                refine z_bipush hC (nI 92) (by decide +kernel) dX10_stacks_124 ?_
                refine z_bipush hC (nI 6) (by decide +kernel) dX10_stacks_126 ?_
                refine z_iload_n hC 3 rfl dX10_stacks_128 ?_
                refine z_imul hC dX10_stacks_129 ?_
                refine z_top (nI (6 * s)) (pk_mul _ _) ?_
                refine z_iadd hC dX10_stacks_130 ?_
                refine z_top (nI (92 + (6 * s))) (nI_add _ _) ?_
                refine z_iload hC 0 rfl dX10_stacks_131 ?_
                refine z_iadd hC dX10_stacks_133 ?_
                refine z_top (nI ((92 + (6 * s)) + (zhm (h 1) s))) (nI_add _ _) ?_
                refine z_bipush hC (nI 100) (by decide +kernel) dX10_stacks_134 ?_
                refine z_iast hC 1 ((92 + (6 * s)) + (zhm (h 1) s)) (nI 100) (ws' := zMo (zy E) q (va_up (svG (va_up h 0 (upd (h 0) 1 (nI 0))) m) 1 (upd (upd (upd (h 1) (1 + k) (((h 1) (1 + k)) - (nI 1))) ((44 + (6 * s)) + (zhm (h 1) s)) (nI k)) ((92 + (6 * s)) + (zhm (h 1) s)) (nI 100)))) rfl rfl rfl rfl (by omega) (by decide) rfl dX10_stacks_136 ?_
                refine z_aload_n hC 2 rfl dX10_stacks_137 ?_
                refine z_get hC 0 8 0 (v := .ref (q 1)) rfl rfl iX10_stacks_X10 (by decide) (List.mem_of_getElem? (i := 1) (by decide +kernel)) rfl rfl dX10_stacks_138 ?_
                refine z_bipush hC (nI 12) (by decide +kernel) dX10_stacks_141 ?_
                refine z_iload_n hC 3 rfl dX10_stacks_143 ?_
                refine z_iadd hC dX10_stacks_144 ?_
                refine z_top (nI (12 + s)) (nI_add _ _) ?_
                refine z_dup2 hC dX10_stacks_145 rfl rfl ?_
                refine z_iald hC 1 (12 + s) (f := upd (upd (upd (h 1) (1 + k) (((h 1) (1 + k)) - (nI 1))) ((44 + (6 * s)) + (zhm (h 1) s)) (nI k)) ((92 + (6 * s)) + (zhm (h 1) s)) (nI 100)) rfl rfl rfl (by omega) (by decide) dX10_stacks_146 ?_
                refine z_iconst hC (nI 1) (by decide +kernel) dX10_stacks_147 ?_
                refine z_iadd hC dX10_stacks_148 ?_
                refine z_iast hC 1 (12 + s) (((upd (upd (upd (h 1) (1 + k) (((h 1) (1 + k)) - (nI 1))) ((44 + (6 * s)) + (zhm (h 1) s)) (nI k)) ((92 + (6 * s)) + (zhm (h 1) s)) (nI 100)) (12 + s)) + (nI 1)) (ws' := zMo (zy E) q (va_up (svG (va_up h 0 (upd (h 0) 1 (nI 0))) m) 1 (upd (upd (upd (upd (h 1) (1 + k) (((h 1) (1 + k)) - (nI 1))) ((44 + (6 * s)) + (zhm (h 1) s)) (nI k)) ((92 + (6 * s)) + (zhm (h 1) s)) (nI 100)) (12 + s) (((upd (upd (upd (h 1) (1 + k) (((h 1) (1 + k)) - (nI 1))) ((44 + (6 * s)) + (zhm (h 1) s)) (nI k)) ((92 + (6 * s)) + (zhm (h 1) s)) (nI 100)) (12 + s)) + (nI 1))))) rfl rfl rfl rfl (by omega) (by decide) rfl dX10_stacks_149 ?_
                refine z_iload hC 0 rfl dX10_stacks_150 ?_
                have pT : stT (h 1) s k = 0 := by simp only [stT, if_neg c_4, if_neg c_11, if_neg c_43, if_neg c_57]
                exact z_iret hC hf rfl (by rw [pT]; rfl) (by unfold mxG; rw [pT]; rfl) dX10_stacks_152
            · exact absurd c_68 (by decide +kernel)

theorem iX10_setsWall_X10 : ∀ w ∈ u_ws RX10 TX10 15, w ∈ wsX10_setsWall := by decide +kernel
set_option maxHeartbeats 4000000 in
set_option maxRecDepth 100000 in
/-- setsWall -/
theorem c_X10_setsWall_01 {l : Launch} {y : zY} {D : va_G} (q : Nat → Nat) (h : Nat → Nat → Int32) (s : Nat) (hs : s < 2 ^ 32) (m : Nat) (hsv : h 0 0 = nI m) (hm4 : m ≤ 4) : zM l y D yX10_setsWall wsX10_setsWall 2 42 [.ref (q 0), .int (nI s), .int (nI 0), .int (nI 1)] (zMo y q h) (zMo y q (mxG h (swT s) (va_up (svG (h0t h) m) 1 (swF (h 1) s 0)))) (some (.int (if swT s = 0 then wlS (swF (h 1) s 0) 8 else nI 0))) := by
  refine z_start (own := RX10) (cc := cX10_setsWall) (maxL := 4) (ret := (some .int)) rfl (by decide +kernel) rfl (Nat.le_of_ble_eq_true rfl) (zMo_fst _ _ _ _) ?_
  intro E hEl hEy hED hC hf
  subst hEl hEy hED
  have hkR : 0 ≤ E.2.2.2.2.2.1.cells ∧ 0 ≤ E.2.2.2.2.2.1.slots := ⟨Nat.zero_le _, Nat.zero_le _⟩
  refine z_cast (lv := [(0, .ref (q 0)), (1, .int (nI s)), (2, .int (nI 0)), (3, .int (nI 1))]) (ws := (zMo (zy E) q h)) (st := []) ?_ rfl rfl rfl
  refine z_aload_n hC 0 rfl dX10_setsWall_0 ?_
  refine z_iload_n hC 1 rfl dX10_setsWall_1 ?_
  refine z_callS hC (As := [.int (nI s)]) (st := [.ref (q 0)]) (ws2 := zMo (zy E) q h) (B := []) (B' := []) (r := some (.int (isS (nI s)))) 1 (c_X10_isSite (nI s)) gX10_setsWall_X10_isSite (by decide +kernel) rfl ⟨by decide, by decide⟩ [] rfl (by decide) rfl (Nat.le_of_ble_eq_true rfl) rfl rfl dX10_setsWall_2 ?_ hkR
  refine z_iconst hC (nI 1) (by decide +kernel) dX10_setsWall_5 ?_
  refine z_iconst hC (nI 1) (by decide +kernel) dX10_setsWall_6 ?_
  by_cases s_7_1 : isS (nI s) = 0
  · refine z_callV hC (As := [.int (isS (nI s)), .int (nI 1), .int (nI 1)]) (st := []) (ws2 := zMo (zy E) q (flG h (isS (nI s)) (nI 1) (nI 1))) (B := zMo (zy E) q h) (B' := zMo (zy E) q (flG h (isS (nI s)) (nI 1) (nI 1))) (r := some (.int (flR (isS (nI s)) (nI 1) (nI 1)))) 3 (c_X10_fails q h (isS (nI s)) (nI 1) (nI 1)) gX10_setsWall_X10_fails (q0 := 0) (ci := 8) (by decide +kernel) rfl rfl rfl ⟨by decide, by decide⟩ [0, 1, 2, 3, 4, 5, 6] rfl (by decide) rfl (Nat.le_of_ble_eq_true rfl) rfl rfl dX10_setsWall_7 ?_ hkR
    have pf_1 : flV (isS (nI s)) (nI 1) (nI 1) = nI 1 := by rw [flV, if_pos s_7_1]
    refine z_top (nI 1) (by rw [flR, pf_1]; first | done | decide +kernel) ?_
    refine z_cast (lv := [(0, .ref (q 0)), (1, .int (nI s)), (2, .int (nI 0)), (3, .int (nI 1))]) (ws := (zMo (zy E) q (va_up h 0 (upd (h 0) 1 (nI 1))))) (st := [.int (nI 1)]) ?_ rfl (by rw [flG, pf_1]) rfl
    refine z_if_eq hC 15 dX10_setsWall_10 (by decide) (fun c_10 => ?_) (fun c_10 => ?_)
    · exact absurd c_10 (by decide +kernel)
    · refine z_iconst hC (nI 0) (by decide +kernel) dX10_setsWall_13 ?_
      have pT : swT s = 1 := by simp only [swT, if_pos s_7_1]
      exact z_iret hC hf rfl (by rw [pT]; rfl) (by unfold mxG; rw [pT]; rfl) dX10_setsWall_14
  · have hs8 := isS_lt hs s_7_1
    refine z_callV hC (As := [.int (isS (nI s)), .int (nI 1), .int (nI 1)]) (st := []) (ws2 := zMo (zy E) q (flG h (isS (nI s)) (nI 1) (nI 1))) (B := zMo (zy E) q h) (B' := zMo (zy E) q (flG h (isS (nI s)) (nI 1) (nI 1))) (r := some (.int (flR (isS (nI s)) (nI 1) (nI 1)))) 3 (c_X10_fails q h (isS (nI s)) (nI 1) (nI 1)) gX10_setsWall_X10_fails (q0 := 0) (ci := 8) (by decide +kernel) rfl rfl rfl ⟨by decide, by decide⟩ [0, 1, 2, 3, 4, 5, 6] rfl (by decide) rfl (Nat.le_of_ble_eq_true rfl) rfl rfl dX10_setsWall_7 ?_ hkR
    have pf_2 : flV (isS (nI s)) (nI 1) (nI 1) = nI 0 := by rw [flV, if_neg s_7_1, if_neg (show ¬ nI 1 = 0 by decide +kernel), if_neg (show ¬ nI 1 = 0 by decide +kernel)]
    refine z_top (nI 0) (by rw [flR, pf_2]; first | done | decide +kernel) ?_
    refine z_cast (lv := [(0, .ref (q 0)), (1, .int (nI s)), (2, .int (nI 0)), (3, .int (nI 1))]) (ws := (zMo (zy E) q (va_up h 0 (upd (h 0) 1 (nI 0))))) (st := [.int (nI 0)]) ?_ rfl (by rw [flG, pf_2]) rfl
    refine z_if_eq hC 15 dX10_setsWall_10 (by decide) (fun c_10 => ?_) (fun c_10 => ?_)
    · refine z_iload_n hC 3 rfl dX10_setsWall_15 ?_
      refine z_if_eq hC 23 dX10_setsWall_16 (by decide) (fun c_16 => ?_) (fun c_16 => ?_)
      · exact absurd c_16 (by decide +kernel)
      · refine z_aload_n hC 0 rfl dX10_setsWall_19 ?_
        refine z_callV hC (As := []) (st := []) (ws2 := zMo (zy E) q (svG (va_up h 0 (upd (h 0) 1 (nI 0))) m)) (B := zMo (zy E) q (va_up h 0 (upd (h 0) 1 (nI 0)))) (B' := zMo (zy E) q (svG (va_up h 0 (upd (h 0) 1 (nI 0))) m)) (r := none) 0 (c_X10_save q (va_up h 0 (upd (h 0) 1 (nI 0))) m hsv hm4) gX10_setsWall_X10_save (q0 := 0) (ci := 8) (by decide +kernel) rfl rfl rfl ⟨by decide, by decide⟩ [0, 1, 2, 3, 4, 5, 6] rfl (by decide) rfl (Nat.le_of_ble_eq_true rfl) rfl rfl dX10_setsWall_20 ?_ hkR
        refine z_aload_n hC 0 rfl dX10_setsWall_23 ?_
        refine z_get hC 0 8 0 (v := .ref (q 1)) rfl rfl iX10_setsWall_X10 (by decide) (List.mem_of_getElem? (i := 1) (by decide +kernel)) rfl rfl dX10_setsWall_24 ?_
        refine z_bipush hC (nI 20) (by decide +kernel) dX10_setsWall_27 ?_
        refine z_iload_n hC 1 rfl dX10_setsWall_29 ?_
        refine z_iadd hC dX10_setsWall_30 ?_
        refine z_top (nI (20 + s)) (nI_add _ _) ?_
        refine z_iload_n hC 2 rfl dX10_setsWall_31 ?_
        refine z_if_eq hC 39 dX10_setsWall_32 (by decide) (fun c_32 => ?_) (fun c_32 => ?_)
        · refine z_iconst hC (nI 0) (by decide +kernel) dX10_setsWall_39 ?_
          refine z_iast hC 1 (20 + s) (nI 0) (ws' := zMo (zy E) q (va_up (svG (va_up h 0 (upd (h 0) 1 (nI 0))) m) 1 (upd (h 1) (20 + s) (nI 0)))) rfl rfl rfl rfl (by omega) (by decide) rfl dX10_setsWall_40 ?_
          refine z_aload_n hC 0 rfl dX10_setsWall_41 ?_
          refine z_callV hC (As := []) (st := []) (ws2 := zMo (zy E) q (va_up (svG (va_up h 0 (upd (h 0) 1 (nI 0))) m) 1 (upd (h 1) (20 + s) (nI 0)))) (B := zMo (zy E) q (va_up (svG (va_up h 0 (upd (h 0) 1 (nI 0))) m) 1 (upd (h 1) (20 + s) (nI 0)))) (B' := zMo (zy E) q (va_up (svG (va_up h 0 (upd (h 0) 1 (nI 0))) m) 1 (upd (h 1) (20 + s) (nI 0)))) (r := some (.int (wlS ((va_up (svG (va_up h 0 (upd (h 0) 1 (nI 0))) m) 1 (upd (h 1) (20 + s) (nI 0))) 1) 8))) 0 (c_X10_walls q (va_up (svG (va_up h 0 (upd (h 0) 1 (nI 0))) m) 1 (upd (h 1) (20 + s) (nI 0)))) gX10_setsWall_X10_walls (q0 := 0) (ci := 8) (by decide +kernel) rfl rfl rfl ⟨by decide, by decide⟩ [0, 1, 2, 3, 4, 5, 6] rfl (by decide) rfl (Nat.le_of_ble_eq_true rfl) rfl rfl dX10_setsWall_42 ?_ hkR
          have pT : swT s = 0 := by simp only [swT, if_neg s_7_1]
          exact z_iret hC hf rfl (by rw [pT]; rfl) (by unfold mxG; rw [pT]; rfl) dX10_setsWall_45
        · exact absurd c_32 (by decide +kernel)
    · exact absurd c_10 (by decide +kernel)

set_option maxHeartbeats 4000000 in
set_option maxRecDepth 100000 in
/-- setsWall -/
theorem c_X10_setsWall_11 {l : Launch} {y : zY} {D : va_G} (q : Nat → Nat) (h : Nat → Nat → Int32) (s : Nat) (hs : s < 2 ^ 32) (m : Nat) (hsv : h 0 0 = nI m) (hm4 : m ≤ 4) : zM l y D yX10_setsWall wsX10_setsWall 2 42 [.ref (q 0), .int (nI s), .int (nI 1), .int (nI 1)] (zMo y q h) (zMo y q (mxG h (swT s) (va_up (svG (h0t h) m) 1 (swF (h 1) s 1)))) (some (.int (if swT s = 0 then wlS (swF (h 1) s 1) 8 else nI 0))) := by
  refine z_start (own := RX10) (cc := cX10_setsWall) (maxL := 4) (ret := (some .int)) rfl (by decide +kernel) rfl (Nat.le_of_ble_eq_true rfl) (zMo_fst _ _ _ _) ?_
  intro E hEl hEy hED hC hf
  subst hEl hEy hED
  have hkR : 0 ≤ E.2.2.2.2.2.1.cells ∧ 0 ≤ E.2.2.2.2.2.1.slots := ⟨Nat.zero_le _, Nat.zero_le _⟩
  refine z_cast (lv := [(0, .ref (q 0)), (1, .int (nI s)), (2, .int (nI 1)), (3, .int (nI 1))]) (ws := (zMo (zy E) q h)) (st := []) ?_ rfl rfl rfl
  refine z_aload_n hC 0 rfl dX10_setsWall_0 ?_
  refine z_iload_n hC 1 rfl dX10_setsWall_1 ?_
  refine z_callS hC (As := [.int (nI s)]) (st := [.ref (q 0)]) (ws2 := zMo (zy E) q h) (B := []) (B' := []) (r := some (.int (isS (nI s)))) 1 (c_X10_isSite (nI s)) gX10_setsWall_X10_isSite (by decide +kernel) rfl ⟨by decide, by decide⟩ [] rfl (by decide) rfl (Nat.le_of_ble_eq_true rfl) rfl rfl dX10_setsWall_2 ?_ hkR
  refine z_iconst hC (nI 1) (by decide +kernel) dX10_setsWall_5 ?_
  refine z_iconst hC (nI 1) (by decide +kernel) dX10_setsWall_6 ?_
  by_cases s_7_1 : isS (nI s) = 0
  · refine z_callV hC (As := [.int (isS (nI s)), .int (nI 1), .int (nI 1)]) (st := []) (ws2 := zMo (zy E) q (flG h (isS (nI s)) (nI 1) (nI 1))) (B := zMo (zy E) q h) (B' := zMo (zy E) q (flG h (isS (nI s)) (nI 1) (nI 1))) (r := some (.int (flR (isS (nI s)) (nI 1) (nI 1)))) 3 (c_X10_fails q h (isS (nI s)) (nI 1) (nI 1)) gX10_setsWall_X10_fails (q0 := 0) (ci := 8) (by decide +kernel) rfl rfl rfl ⟨by decide, by decide⟩ [0, 1, 2, 3, 4, 5, 6] rfl (by decide) rfl (Nat.le_of_ble_eq_true rfl) rfl rfl dX10_setsWall_7 ?_ hkR
    have pf_1 : flV (isS (nI s)) (nI 1) (nI 1) = nI 1 := by rw [flV, if_pos s_7_1]
    refine z_top (nI 1) (by rw [flR, pf_1]; first | done | decide +kernel) ?_
    refine z_cast (lv := [(0, .ref (q 0)), (1, .int (nI s)), (2, .int (nI 1)), (3, .int (nI 1))]) (ws := (zMo (zy E) q (va_up h 0 (upd (h 0) 1 (nI 1))))) (st := [.int (nI 1)]) ?_ rfl (by rw [flG, pf_1]) rfl
    refine z_if_eq hC 15 dX10_setsWall_10 (by decide) (fun c_10 => ?_) (fun c_10 => ?_)
    · exact absurd c_10 (by decide +kernel)
    · refine z_iconst hC (nI 0) (by decide +kernel) dX10_setsWall_13 ?_
      have pT : swT s = 1 := by simp only [swT, if_pos s_7_1]
      exact z_iret hC hf rfl (by rw [pT]; rfl) (by unfold mxG; rw [pT]; rfl) dX10_setsWall_14
  · have hs8 := isS_lt hs s_7_1
    refine z_callV hC (As := [.int (isS (nI s)), .int (nI 1), .int (nI 1)]) (st := []) (ws2 := zMo (zy E) q (flG h (isS (nI s)) (nI 1) (nI 1))) (B := zMo (zy E) q h) (B' := zMo (zy E) q (flG h (isS (nI s)) (nI 1) (nI 1))) (r := some (.int (flR (isS (nI s)) (nI 1) (nI 1)))) 3 (c_X10_fails q h (isS (nI s)) (nI 1) (nI 1)) gX10_setsWall_X10_fails (q0 := 0) (ci := 8) (by decide +kernel) rfl rfl rfl ⟨by decide, by decide⟩ [0, 1, 2, 3, 4, 5, 6] rfl (by decide) rfl (Nat.le_of_ble_eq_true rfl) rfl rfl dX10_setsWall_7 ?_ hkR
    have pf_2 : flV (isS (nI s)) (nI 1) (nI 1) = nI 0 := by rw [flV, if_neg s_7_1, if_neg (show ¬ nI 1 = 0 by decide +kernel), if_neg (show ¬ nI 1 = 0 by decide +kernel)]
    refine z_top (nI 0) (by rw [flR, pf_2]; first | done | decide +kernel) ?_
    refine z_cast (lv := [(0, .ref (q 0)), (1, .int (nI s)), (2, .int (nI 1)), (3, .int (nI 1))]) (ws := (zMo (zy E) q (va_up h 0 (upd (h 0) 1 (nI 0))))) (st := [.int (nI 0)]) ?_ rfl (by rw [flG, pf_2]) rfl
    refine z_if_eq hC 15 dX10_setsWall_10 (by decide) (fun c_10 => ?_) (fun c_10 => ?_)
    · refine z_iload_n hC 3 rfl dX10_setsWall_15 ?_
      refine z_if_eq hC 23 dX10_setsWall_16 (by decide) (fun c_16 => ?_) (fun c_16 => ?_)
      · exact absurd c_16 (by decide +kernel)
      · refine z_aload_n hC 0 rfl dX10_setsWall_19 ?_
        refine z_callV hC (As := []) (st := []) (ws2 := zMo (zy E) q (svG (va_up h 0 (upd (h 0) 1 (nI 0))) m)) (B := zMo (zy E) q (va_up h 0 (upd (h 0) 1 (nI 0)))) (B' := zMo (zy E) q (svG (va_up h 0 (upd (h 0) 1 (nI 0))) m)) (r := none) 0 (c_X10_save q (va_up h 0 (upd (h 0) 1 (nI 0))) m hsv hm4) gX10_setsWall_X10_save (q0 := 0) (ci := 8) (by decide +kernel) rfl rfl rfl ⟨by decide, by decide⟩ [0, 1, 2, 3, 4, 5, 6] rfl (by decide) rfl (Nat.le_of_ble_eq_true rfl) rfl rfl dX10_setsWall_20 ?_ hkR
        refine z_aload_n hC 0 rfl dX10_setsWall_23 ?_
        refine z_get hC 0 8 0 (v := .ref (q 1)) rfl rfl iX10_setsWall_X10 (by decide) (List.mem_of_getElem? (i := 1) (by decide +kernel)) rfl rfl dX10_setsWall_24 ?_
        refine z_bipush hC (nI 20) (by decide +kernel) dX10_setsWall_27 ?_
        refine z_iload_n hC 1 rfl dX10_setsWall_29 ?_
        refine z_iadd hC dX10_setsWall_30 ?_
        refine z_top (nI (20 + s)) (nI_add _ _) ?_
        refine z_iload_n hC 2 rfl dX10_setsWall_31 ?_
        refine z_if_eq hC 39 dX10_setsWall_32 (by decide) (fun c_32 => ?_) (fun c_32 => ?_)
        · exact absurd c_32 (by decide +kernel)
        · refine z_iconst hC (nI 1) (by decide +kernel) dX10_setsWall_35 ?_
          refine z_goto hC 40 dX10_setsWall_36 (by decide) ?_
          refine z_iast hC 1 (20 + s) (nI 1) (ws' := zMo (zy E) q (va_up (svG (va_up h 0 (upd (h 0) 1 (nI 0))) m) 1 (upd (h 1) (20 + s) (nI 1)))) rfl rfl rfl rfl (by omega) (by decide) rfl dX10_setsWall_40 ?_
          refine z_aload_n hC 0 rfl dX10_setsWall_41 ?_
          refine z_callV hC (As := []) (st := []) (ws2 := zMo (zy E) q (va_up (svG (va_up h 0 (upd (h 0) 1 (nI 0))) m) 1 (upd (h 1) (20 + s) (nI 1)))) (B := zMo (zy E) q (va_up (svG (va_up h 0 (upd (h 0) 1 (nI 0))) m) 1 (upd (h 1) (20 + s) (nI 1)))) (B' := zMo (zy E) q (va_up (svG (va_up h 0 (upd (h 0) 1 (nI 0))) m) 1 (upd (h 1) (20 + s) (nI 1)))) (r := some (.int (wlS ((va_up (svG (va_up h 0 (upd (h 0) 1 (nI 0))) m) 1 (upd (h 1) (20 + s) (nI 1))) 1) 8))) 0 (c_X10_walls q (va_up (svG (va_up h 0 (upd (h 0) 1 (nI 0))) m) 1 (upd (h 1) (20 + s) (nI 1)))) gX10_setsWall_X10_walls (q0 := 0) (ci := 8) (by decide +kernel) rfl rfl rfl ⟨by decide, by decide⟩ [0, 1, 2, 3, 4, 5, 6] rfl (by decide) rfl (Nat.le_of_ble_eq_true rfl) rfl rfl dX10_setsWall_42 ?_ hkR
          have pT : swT s = 0 := by simp only [swT, if_neg s_7_1]
          exact z_iret hC hf rfl (by rw [pT]; rfl) (by unfold mxG; rw [pT]; rfl) dX10_setsWall_45
    · exact absurd c_10 (by decide +kernel)

set_option maxHeartbeats 4000000 in
set_option maxRecDepth 100000 in
/-- setsWall -/
theorem c_X10_setsWall_10 {l : Launch} {y : zY} {D : va_G} (q : Nat → Nat) (h : Nat → Nat → Int32) (s : Nat) (hs : s < 2 ^ 32) : zM l y D yX10_setsWall wsX10_setsWall 2 42 [.ref (q 0), .int (nI s), .int (nI 1), .int (nI 0)] (zMo y q h) (zMo y q (mxG h (swT s) (va_up (h0t h) 1 (swF (h 1) s 1)))) (some (.int (if swT s = 0 then wlS (swF (h 1) s 1) 8 else nI 0))) := by
  refine z_start (own := RX10) (cc := cX10_setsWall) (maxL := 4) (ret := (some .int)) rfl (by decide +kernel) rfl (Nat.le_of_ble_eq_true rfl) (zMo_fst _ _ _ _) ?_
  intro E hEl hEy hED hC hf
  subst hEl hEy hED
  have hkR : 0 ≤ E.2.2.2.2.2.1.cells ∧ 0 ≤ E.2.2.2.2.2.1.slots := ⟨Nat.zero_le _, Nat.zero_le _⟩
  refine z_cast (lv := [(0, .ref (q 0)), (1, .int (nI s)), (2, .int (nI 1)), (3, .int (nI 0))]) (ws := (zMo (zy E) q h)) (st := []) ?_ rfl rfl rfl
  refine z_aload_n hC 0 rfl dX10_setsWall_0 ?_
  refine z_iload_n hC 1 rfl dX10_setsWall_1 ?_
  refine z_callS hC (As := [.int (nI s)]) (st := [.ref (q 0)]) (ws2 := zMo (zy E) q h) (B := []) (B' := []) (r := some (.int (isS (nI s)))) 1 (c_X10_isSite (nI s)) gX10_setsWall_X10_isSite (by decide +kernel) rfl ⟨by decide, by decide⟩ [] rfl (by decide) rfl (Nat.le_of_ble_eq_true rfl) rfl rfl dX10_setsWall_2 ?_ hkR
  refine z_iconst hC (nI 1) (by decide +kernel) dX10_setsWall_5 ?_
  refine z_iconst hC (nI 1) (by decide +kernel) dX10_setsWall_6 ?_
  by_cases s_7_1 : isS (nI s) = 0
  · refine z_callV hC (As := [.int (isS (nI s)), .int (nI 1), .int (nI 1)]) (st := []) (ws2 := zMo (zy E) q (flG h (isS (nI s)) (nI 1) (nI 1))) (B := zMo (zy E) q h) (B' := zMo (zy E) q (flG h (isS (nI s)) (nI 1) (nI 1))) (r := some (.int (flR (isS (nI s)) (nI 1) (nI 1)))) 3 (c_X10_fails q h (isS (nI s)) (nI 1) (nI 1)) gX10_setsWall_X10_fails (q0 := 0) (ci := 8) (by decide +kernel) rfl rfl rfl ⟨by decide, by decide⟩ [0, 1, 2, 3, 4, 5, 6] rfl (by decide) rfl (Nat.le_of_ble_eq_true rfl) rfl rfl dX10_setsWall_7 ?_ hkR
    have pf_1 : flV (isS (nI s)) (nI 1) (nI 1) = nI 1 := by rw [flV, if_pos s_7_1]
    refine z_top (nI 1) (by rw [flR, pf_1]; first | done | decide +kernel) ?_
    refine z_cast (lv := [(0, .ref (q 0)), (1, .int (nI s)), (2, .int (nI 1)), (3, .int (nI 0))]) (ws := (zMo (zy E) q (va_up h 0 (upd (h 0) 1 (nI 1))))) (st := [.int (nI 1)]) ?_ rfl (by rw [flG, pf_1]) rfl
    refine z_if_eq hC 15 dX10_setsWall_10 (by decide) (fun c_10 => ?_) (fun c_10 => ?_)
    · exact absurd c_10 (by decide +kernel)
    · refine z_iconst hC (nI 0) (by decide +kernel) dX10_setsWall_13 ?_
      have pT : swT s = 1 := by simp only [swT, if_pos s_7_1]
      exact z_iret hC hf rfl (by rw [pT]; rfl) (by unfold mxG; rw [pT]; rfl) dX10_setsWall_14
  · have hs8 := isS_lt hs s_7_1
    refine z_callV hC (As := [.int (isS (nI s)), .int (nI 1), .int (nI 1)]) (st := []) (ws2 := zMo (zy E) q (flG h (isS (nI s)) (nI 1) (nI 1))) (B := zMo (zy E) q h) (B' := zMo (zy E) q (flG h (isS (nI s)) (nI 1) (nI 1))) (r := some (.int (flR (isS (nI s)) (nI 1) (nI 1)))) 3 (c_X10_fails q h (isS (nI s)) (nI 1) (nI 1)) gX10_setsWall_X10_fails (q0 := 0) (ci := 8) (by decide +kernel) rfl rfl rfl ⟨by decide, by decide⟩ [0, 1, 2, 3, 4, 5, 6] rfl (by decide) rfl (Nat.le_of_ble_eq_true rfl) rfl rfl dX10_setsWall_7 ?_ hkR
    have pf_2 : flV (isS (nI s)) (nI 1) (nI 1) = nI 0 := by rw [flV, if_neg s_7_1, if_neg (show ¬ nI 1 = 0 by decide +kernel), if_neg (show ¬ nI 1 = 0 by decide +kernel)]
    refine z_top (nI 0) (by rw [flR, pf_2]; first | done | decide +kernel) ?_
    refine z_cast (lv := [(0, .ref (q 0)), (1, .int (nI s)), (2, .int (nI 1)), (3, .int (nI 0))]) (ws := (zMo (zy E) q (va_up h 0 (upd (h 0) 1 (nI 0))))) (st := [.int (nI 0)]) ?_ rfl (by rw [flG, pf_2]) rfl
    refine z_if_eq hC 15 dX10_setsWall_10 (by decide) (fun c_10 => ?_) (fun c_10 => ?_)
    · refine z_iload_n hC 3 rfl dX10_setsWall_15 ?_
      refine z_if_eq hC 23 dX10_setsWall_16 (by decide) (fun c_16 => ?_) (fun c_16 => ?_)
      · refine z_aload_n hC 0 rfl dX10_setsWall_23 ?_
        refine z_get hC 0 8 0 (v := .ref (q 1)) rfl rfl iX10_setsWall_X10 (by decide) (List.mem_of_getElem? (i := 1) (by decide +kernel)) rfl rfl dX10_setsWall_24 ?_
        refine z_bipush hC (nI 20) (by decide +kernel) dX10_setsWall_27 ?_
        refine z_iload_n hC 1 rfl dX10_setsWall_29 ?_
        refine z_iadd hC dX10_setsWall_30 ?_
        refine z_top (nI (20 + s)) (nI_add _ _) ?_
        refine z_iload_n hC 2 rfl dX10_setsWall_31 ?_
        refine z_if_eq hC 39 dX10_setsWall_32 (by decide) (fun c_32 => ?_) (fun c_32 => ?_)
        · exact absurd c_32 (by decide +kernel)
        · refine z_iconst hC (nI 1) (by decide +kernel) dX10_setsWall_35 ?_
          refine z_goto hC 40 dX10_setsWall_36 (by decide) ?_
          refine z_iast hC 1 (20 + s) (nI 1) (ws' := zMo (zy E) q (va_up (va_up h 0 (upd (h 0) 1 (nI 0))) 1 (upd (h 1) (20 + s) (nI 1)))) rfl rfl rfl rfl (by omega) (by decide) rfl dX10_setsWall_40 ?_
          refine z_aload_n hC 0 rfl dX10_setsWall_41 ?_
          refine z_callV hC (As := []) (st := []) (ws2 := zMo (zy E) q (va_up (va_up h 0 (upd (h 0) 1 (nI 0))) 1 (upd (h 1) (20 + s) (nI 1)))) (B := zMo (zy E) q (va_up (va_up h 0 (upd (h 0) 1 (nI 0))) 1 (upd (h 1) (20 + s) (nI 1)))) (B' := zMo (zy E) q (va_up (va_up h 0 (upd (h 0) 1 (nI 0))) 1 (upd (h 1) (20 + s) (nI 1)))) (r := some (.int (wlS ((va_up (va_up h 0 (upd (h 0) 1 (nI 0))) 1 (upd (h 1) (20 + s) (nI 1))) 1) 8))) 0 (c_X10_walls q (va_up (va_up h 0 (upd (h 0) 1 (nI 0))) 1 (upd (h 1) (20 + s) (nI 1)))) gX10_setsWall_X10_walls (q0 := 0) (ci := 8) (by decide +kernel) rfl rfl rfl ⟨by decide, by decide⟩ [0, 1, 2, 3, 4, 5, 6] rfl (by decide) rfl (Nat.le_of_ble_eq_true rfl) rfl rfl dX10_setsWall_42 ?_ hkR
          have pT : swT s = 0 := by simp only [swT, if_neg s_7_1]
          exact z_iret hC hf rfl (by rw [pT]; rfl) (by unfold mxG; rw [pT]; rfl) dX10_setsWall_45
      · exact absurd c_16 (by decide +kernel)
    · exact absurd c_10 (by decide +kernel)

theorem iX10_addsTool_X10 : ∀ w ∈ u_ws RX10 TX10 15, w ∈ wsX10_addsTool := by decide +kernel
set_option maxHeartbeats 4000000 in
set_option maxRecDepth 100000 in
/-- addsTool -/
theorem c_X10_addsTool_0 {l : Launch} {y : zY} {D : va_G} (q : Nat → Nat) (h : Nat → Nat → Int32) (v : Nat) (hv : v < 2 ^ 32) (hT : okTm (h 1)) : zM l y D yX10_addsTool wsX10_addsTool 1 23 [.ref (q 0), .int (nI v), .int (nI 0)] (zMo y q h) (zMo y q (mxG h (atT (h 1) v) (va_up (h0t h) 1 (atF (h 1) v)))) (some (.int (if atT (h 1) v = 0 then nI (ztm (h 1)) else nI 0))) := by
  refine z_start (own := RX10) (cc := cX10_addsTool) (maxL := 4) (ret := (some .int)) rfl (by decide +kernel) rfl (Nat.le_of_ble_eq_true rfl) (zMo_fst _ _ _ _) ?_
  intro E hEl hEy hED hC hf
  subst hEl hEy hED
  have hkR : 0 ≤ E.2.2.2.2.2.1.cells ∧ 0 ≤ E.2.2.2.2.2.1.slots := ⟨Nat.zero_le _, Nat.zero_le _⟩
  refine z_cast (lv := [(0, .ref (q 0)), (1, .int (nI v)), (2, .int (nI 0))]) (ws := (zMo (zy E) q h)) (st := []) ?_ rfl rfl rfl
  refine z_aload_n hC 0 rfl dX10_addsTool_0 ?_
  refine z_iload_n hC 1 rfl dX10_addsTool_1 ?_
  refine z_iconst hC (nI 1) (by decide +kernel) dX10_addsTool_2 ?_
  refine z_bipush hC (nI 20) (by decide +kernel) dX10_addsTool_3 ?_
  refine z_callS hC (As := [.int (nI v), .int (nI 1), .int (nI 20)]) (st := [.ref (q 0)]) (ws2 := zMo (zy E) q h) (B := []) (B' := []) (r := some (.int (wi (nI v) (nI 1) (nI 20)))) 3 (c_X10_in (nI v) (nI 1) (nI 20)) gX10_addsTool_X10_in (by decide +kernel) rfl ⟨by decide, by decide⟩ [] rfl (by decide) rfl (Nat.le_of_ble_eq_true rfl) rfl rfl dX10_addsTool_5 ?_ hkR
  refine z_aload_n hC 0 rfl dX10_addsTool_8 ?_
  refine z_get hC 0 8 0 (v := .ref (q 1)) rfl rfl iX10_addsTool_X10 (by decide) (List.mem_of_getElem? (i := 1) (by decide +kernel)) rfl rfl dX10_addsTool_9 ?_
  refine z_bipush hC (nI 10) (by decide +kernel) dX10_addsTool_12 ?_
  refine z_iald hC 1 10 (f := h 1) rfl rfl rfl (by omega) (by decide) dX10_addsTool_14 ?_
  refine z_iconst hC (nI 5) (by decide +kernel) dX10_addsTool_15 ?_
  refine z_icmp_ge hC 23 dX10_addsTool_16 (by decide) (fun c_16 => ?_) (fun c_16 => ?_)
  · refine z_iconst hC (nI 0) (by decide +kernel) dX10_addsTool_23 ?_
    refine z_iconst hC (nI 1) (by decide +kernel) dX10_addsTool_24 ?_
    by_cases s_25_2 : wi (nI v) (nI 1) (nI 20) = 0
    · refine z_callV hC (As := [.int (wi (nI v) (nI 1) (nI 20)), .int (nI 0), .int (nI 1)]) (st := []) (ws2 := zMo (zy E) q (flG h (wi (nI v) (nI 1) (nI 20)) (nI 0) (nI 1))) (B := zMo (zy E) q h) (B' := zMo (zy E) q (flG h (wi (nI v) (nI 1) (nI 20)) (nI 0) (nI 1))) (r := some (.int (flR (wi (nI v) (nI 1) (nI 20)) (nI 0) (nI 1)))) 3 (c_X10_fails q h (wi (nI v) (nI 1) (nI 20)) (nI 0) (nI 1)) gX10_addsTool_X10_fails (q0 := 0) (ci := 8) (by decide +kernel) rfl rfl rfl ⟨by decide, by decide⟩ [0, 1, 2, 3, 4, 5, 6] rfl (by decide) rfl (Nat.le_of_ble_eq_true rfl) rfl rfl dX10_addsTool_25 ?_ hkR
      have pf_1 : flV (wi (nI v) (nI 1) (nI 20)) (nI 0) (nI 1) = nI 1 := by rw [flV, if_pos s_25_2]
      refine z_top (nI 1) (by rw [flR, pf_1]; first | done | decide +kernel) ?_
      refine z_cast (lv := [(0, .ref (q 0)), (1, .int (nI v)), (2, .int (nI 0))]) (ws := (zMo (zy E) q (va_up h 0 (upd (h 0) 1 (nI 1))))) (st := [.int (nI 1)]) ?_ rfl (by rw [flG, pf_1]) rfl
      refine z_if_eq hC 33 dX10_addsTool_28 (by decide) (fun c_28 => ?_) (fun c_28 => ?_)
      · exact absurd c_28 (by decide +kernel)
      · refine z_iconst hC (nI 0) (by decide +kernel) dX10_addsTool_31 ?_
        have pT : atT (h 1) v = 1 := by simp only [atT, if_pos c_16, if_pos s_25_2]
        exact z_iret hC hf rfl (by rw [pT]; rfl) (by unfold mxG; rw [pT]; rfl) dX10_addsTool_32
    · refine z_callV hC (As := [.int (wi (nI v) (nI 1) (nI 20)), .int (nI 0), .int (nI 1)]) (st := []) (ws2 := zMo (zy E) q (flG h (wi (nI v) (nI 1) (nI 20)) (nI 0) (nI 1))) (B := zMo (zy E) q h) (B' := zMo (zy E) q (flG h (wi (nI v) (nI 1) (nI 20)) (nI 0) (nI 1))) (r := some (.int (flR (wi (nI v) (nI 1) (nI 20)) (nI 0) (nI 1)))) 3 (c_X10_fails q h (wi (nI v) (nI 1) (nI 20)) (nI 0) (nI 1)) gX10_addsTool_X10_fails (q0 := 0) (ci := 8) (by decide +kernel) rfl rfl rfl ⟨by decide, by decide⟩ [0, 1, 2, 3, 4, 5, 6] rfl (by decide) rfl (Nat.le_of_ble_eq_true rfl) rfl rfl dX10_addsTool_25 ?_ hkR
      have pf_2 : flV (wi (nI v) (nI 1) (nI 20)) (nI 0) (nI 1) = nI 2 := by rw [flV, if_neg s_25_2, if_pos (show nI 0 = 0 by decide +kernel)]
      refine z_top (nI 1) (by rw [flR, pf_2]; first | done | decide +kernel) ?_
      refine z_cast (lv := [(0, .ref (q 0)), (1, .int (nI v)), (2, .int (nI 0))]) (ws := (zMo (zy E) q (va_up h 0 (upd (h 0) 1 (nI 2))))) (st := [.int (nI 1)]) ?_ rfl (by rw [flG, pf_2]) rfl
      refine z_if_eq hC 33 dX10_addsTool_28 (by decide) (fun c_28 => ?_) (fun c_28 => ?_)
      · exact absurd c_28 (by decide +kernel)
      · refine z_iconst hC (nI 0) (by decide +kernel) dX10_addsTool_31 ?_
        have pT : atT (h 1) v = 2 := by simp only [atT, if_pos c_16, if_neg s_25_2]
        exact z_iret hC hf rfl (by rw [pT]; rfl) (by unfold mxG; rw [pT]; rfl) dX10_addsTool_32
  · have hz5 := zlt5 hT c_16
    refine z_iconst hC (nI 1) (by decide +kernel) dX10_addsTool_19 ?_
    refine z_goto hC 24 dX10_addsTool_20 (by decide) ?_
    refine z_iconst hC (nI 1) (by decide +kernel) dX10_addsTool_24 ?_
    by_cases s_25_3 : wi (nI v) (nI 1) (nI 20) = 0
    · refine z_callV hC (As := [.int (wi (nI v) (nI 1) (nI 20)), .int (nI 1), .int (nI 1)]) (st := []) (ws2 := zMo (zy E) q (flG h (wi (nI v) (nI 1) (nI 20)) (nI 1) (nI 1))) (B := zMo (zy E) q h) (B' := zMo (zy E) q (flG h (wi (nI v) (nI 1) (nI 20)) (nI 1) (nI 1))) (r := some (.int (flR (wi (nI v) (nI 1) (nI 20)) (nI 1) (nI 1)))) 3 (c_X10_fails q h (wi (nI v) (nI 1) (nI 20)) (nI 1) (nI 1)) gX10_addsTool_X10_fails (q0 := 0) (ci := 8) (by decide +kernel) rfl rfl rfl ⟨by decide, by decide⟩ [0, 1, 2, 3, 4, 5, 6] rfl (by decide) rfl (Nat.le_of_ble_eq_true rfl) rfl rfl dX10_addsTool_25 ?_ hkR
      have pf_3 : flV (wi (nI v) (nI 1) (nI 20)) (nI 1) (nI 1) = nI 1 := by rw [flV, if_pos s_25_3]
      refine z_top (nI 1) (by rw [flR, pf_3]; first | done | decide +kernel) ?_
      refine z_cast (lv := [(0, .ref (q 0)), (1, .int (nI v)), (2, .int (nI 0))]) (ws := (zMo (zy E) q (va_up h 0 (upd (h 0) 1 (nI 1))))) (st := [.int (nI 1)]) ?_ rfl (by rw [flG, pf_3]) rfl
      refine z_if_eq hC 33 dX10_addsTool_28 (by decide) (fun c_28 => ?_) (fun c_28 => ?_)
      · exact absurd c_28 (by decide +kernel)
      · refine z_iconst hC (nI 0) (by decide +kernel) dX10_addsTool_31 ?_
        have pT : atT (h 1) v = 1 := by simp only [atT, if_neg c_16, if_pos s_25_3]
        exact z_iret hC hf rfl (by rw [pT]; rfl) (by unfold mxG; rw [pT]; rfl) dX10_addsTool_32
    · refine z_callV hC (As := [.int (wi (nI v) (nI 1) (nI 20)), .int (nI 1), .int (nI 1)]) (st := []) (ws2 := zMo (zy E) q (flG h (wi (nI v) (nI 1) (nI 20)) (nI 1) (nI 1))) (B := zMo (zy E) q h) (B' := zMo (zy E) q (flG h (wi (nI v) (nI 1) (nI 20)) (nI 1) (nI 1))) (r := some (.int (flR (wi (nI v) (nI 1) (nI 20)) (nI 1) (nI 1)))) 3 (c_X10_fails q h (wi (nI v) (nI 1) (nI 20)) (nI 1) (nI 1)) gX10_addsTool_X10_fails (q0 := 0) (ci := 8) (by decide +kernel) rfl rfl rfl ⟨by decide, by decide⟩ [0, 1, 2, 3, 4, 5, 6] rfl (by decide) rfl (Nat.le_of_ble_eq_true rfl) rfl rfl dX10_addsTool_25 ?_ hkR
      have pf_4 : flV (wi (nI v) (nI 1) (nI 20)) (nI 1) (nI 1) = nI 0 := by rw [flV, if_neg s_25_3, if_neg (show ¬ nI 1 = 0 by decide +kernel), if_neg (show ¬ nI 1 = 0 by decide +kernel)]
      refine z_top (nI 0) (by rw [flR, pf_4]; first | done | decide +kernel) ?_
      refine z_cast (lv := [(0, .ref (q 0)), (1, .int (nI v)), (2, .int (nI 0))]) (ws := (zMo (zy E) q (va_up h 0 (upd (h 0) 1 (nI 0))))) (st := [.int (nI 0)]) ?_ rfl (by rw [flG, pf_4]) rfl
      refine z_if_eq hC 33 dX10_addsTool_28 (by decide) (fun c_28 => ?_) (fun c_28 => ?_)
      · refine z_iload_n hC 2 rfl dX10_addsTool_33 ?_
        refine z_if_eq hC 41 dX10_addsTool_34 (by decide) (fun c_34 => ?_) (fun c_34 => ?_)
        · refine z_aload_n hC 0 rfl dX10_addsTool_41 ?_
          refine z_get hC 0 8 0 (v := .ref (q 1)) rfl rfl iX10_addsTool_X10 (by decide) (List.mem_of_getElem? (i := 1) (by decide +kernel)) rfl rfl dX10_addsTool_42 ?_
          refine z_bipush hC (nI 10) (by decide +kernel) dX10_addsTool_45 ?_
          refine z_iald hC 1 10 (f := h 1) rfl rfl rfl (by omega) (by decide) dX10_addsTool_47 ?_
          refine z_top (nI (ztm (h 1))) hT.1 ?_
          refine z_istore_n hC (by decide) (lv' := [(3, .int (nI (ztm (h 1)))), (0, .ref (q 0)), (1, .int (nI v)), (2, .int (nI 0))]) rfl dX10_addsTool_48 ?_
          refine z_aload_n hC 1 rfl dX10_addsTool_49 ?_
          refine z_get hC 0 8 0 (v := .ref (q 1)) rfl rfl iX10_addsTool_X10 (by decide) (List.mem_of_getElem? (i := 1) (by decide +kernel)) rfl rfl dX10_addsTool_50 ?_
          refine z_sipush hC (nI 140) (by decide +kernel) dX10_addsTool_53 ?_
          refine z_iload_n hC 0 rfl dX10_addsTool_56 ?_
          refine z_iadd hC dX10_addsTool_57 ?_
          refine z_top (nI (140 + (ztm (h 1)))) (nI_add _ _) ?_
          refine z_iload_n hC 2 rfl dX10_addsTool_58 ?_
          refine z_iast hC 1 (140 + (ztm (h 1))) (nI v) (ws' := zMo (zy E) q (va_up (va_up h 0 (upd (h 0) 1 (nI 0))) 1 (upd (h 1) (140 + (ztm (h 1))) (nI v)))) rfl rfl rfl rfl (by omega) (by decide) rfl dX10_addsTool_59 ?_
          refine z_aload_n hC 1 rfl dX10_addsTool_60 ?_
          refine z_get hC 0 8 0 (v := .ref (q 1)) rfl rfl iX10_addsTool_X10 (by decide) (List.mem_of_getElem? (i := 1) (by decide +kernel)) rfl rfl dX10_addsTool_61 ?_
          refine z_sipush hC (nI 145) (by decide +kernel) dX10_addsTool_64 ?_
          refine z_iload_n hC 0 rfl dX10_addsTool_67 ?_
          refine z_iadd hC dX10_addsTool_68 ?_
          refine z_top (nI (145 + (ztm (h 1)))) (nI_add _ _) ?_
          refine z_bipush hC (nI 60) (by decide +kernel) dX10_addsTool_69 ?_
          refine z_iast hC 1 (145 + (ztm (h 1))) (nI 60) (ws' := zMo (zy E) q (va_up (va_up h 0 (upd (h 0) 1 (nI 0))) 1 (upd (upd (h 1) (140 + (ztm (h 1))) (nI v)) (145 + (ztm (h 1))) (nI 60)))) rfl rfl rfl rfl (by omega) (by decide) rfl dX10_addsTool_71 ?_
          refine z_aload_n hC 1 rfl dX10_addsTool_72 ?_
          refine z_get hC 0 8 0 (v := .ref (q 1)) rfl rfl iX10_addsTool_X10 (by decide) (List.mem_of_getElem? (i := 1) (by decide +kernel)) rfl rfl dX10_addsTool_73 ?_
          refine z_sipush hC (nI 150) (by decide +kernel) dX10_addsTool_76 ?_
          refine z_iload_n hC 0 rfl dX10_addsTool_79 ?_
          refine z_iadd hC dX10_addsTool_80 ?_
          refine z_top (nI (150 + (ztm (h 1)))) (nI_add _ _) ?_
          refine z_iconst hC (nI 0) (by decide +kernel) dX10_addsTool_81 ?_
          refine z_iast hC 1 (150 + (ztm (h 1))) (nI 0) (ws' := zMo (zy E) q (va_up (va_up h 0 (upd (h 0) 1 (nI 0))) 1 (upd (upd (upd (h 1) (140 + (ztm (h 1))) (nI v)) (145 + (ztm (h 1))) (nI 60)) (150 + (ztm (h 1))) (nI 0)))) rfl rfl rfl rfl (by omega) (by decide) rfl dX10_addsTool_82 ?_
          refine z_aload_n hC 1 rfl dX10_addsTool_83 ?_
          refine z_get hC 0 8 0 (v := .ref (q 1)) rfl rfl iX10_addsTool_X10 (by decide) (List.mem_of_getElem? (i := 1) (by decide +kernel)) rfl rfl dX10_addsTool_84 ?_
          refine z_bipush hC (nI 10) (by decide +kernel) dX10_addsTool_87 ?_
          refine z_dup2 hC dX10_addsTool_89 rfl rfl ?_
          refine z_iald hC 1 10 (f := upd (upd (upd (h 1) (140 + (ztm (h 1))) (nI v)) (145 + (ztm (h 1))) (nI 60)) (150 + (ztm (h 1))) (nI 0)) rfl rfl rfl (by omega) (by decide) dX10_addsTool_90 ?_
          refine z_iconst hC (nI 1) (by decide +kernel) dX10_addsTool_91 ?_
          refine z_iadd hC dX10_addsTool_92 ?_
          refine z_iast hC 1 10 (((upd (upd (upd (h 1) (140 + (ztm (h 1))) (nI v)) (145 + (ztm (h 1))) (nI 60)) (150 + (ztm (h 1))) (nI 0)) 10) + (nI 1)) (ws' := zMo (zy E) q (va_up (va_up h 0 (upd (h 0) 1 (nI 0))) 1 (upd (upd (upd (upd (h 1) (140 + (ztm (h 1))) (nI v)) (145 + (ztm (h 1))) (nI 60)) (150 + (ztm (h 1))) (nI 0)) 10 (((upd (upd (upd (h 1) (140 + (ztm (h 1))) (nI v)) (145 + (ztm (h 1))) (nI 60)) (150 + (ztm (h 1))) (nI 0)) 10) + (nI 1))))) rfl rfl rfl rfl (by omega) (by decide) rfl dX10_addsTool_93 ?_
          refine z_iload_n hC 0 rfl dX10_addsTool_94 ?_
          have pT : atT (h 1) v = 0 := by simp only [atT, if_neg c_16, if_neg s_25_3]
          exact z_iret hC hf rfl (by rw [pT]; rfl) (by unfold mxG; rw [pT]; rfl) dX10_addsTool_95
        · exact absurd c_34 (by decide +kernel)
      · exact absurd c_28 (by decide +kernel)

set_option maxHeartbeats 4000000 in
set_option maxRecDepth 100000 in
/-- addsTool -/
theorem c_X10_addsTool_1 {l : Launch} {y : zY} {D : va_G} (q : Nat → Nat) (h : Nat → Nat → Int32) (v : Nat) (hv : v < 2 ^ 32) (hT : okTm (h 1)) (m : Nat) (hsv : h 0 0 = nI m) (hm4 : m ≤ 4) : zM l y D yX10_addsTool wsX10_addsTool 1 23 [.ref (q 0), .int (nI v), .int (nI 1)] (zMo y q h) (zMo y q (mxG h (atT (h 1) v) (va_up (svG (h0t h) m) 1 (atF (h 1) v)))) (some (.int (if atT (h 1) v = 0 then nI (ztm (h 1)) else nI 0))) := by
  refine z_start (own := RX10) (cc := cX10_addsTool) (maxL := 4) (ret := (some .int)) rfl (by decide +kernel) rfl (Nat.le_of_ble_eq_true rfl) (zMo_fst _ _ _ _) ?_
  intro E hEl hEy hED hC hf
  subst hEl hEy hED
  have hkR : 0 ≤ E.2.2.2.2.2.1.cells ∧ 0 ≤ E.2.2.2.2.2.1.slots := ⟨Nat.zero_le _, Nat.zero_le _⟩
  refine z_cast (lv := [(0, .ref (q 0)), (1, .int (nI v)), (2, .int (nI 1))]) (ws := (zMo (zy E) q h)) (st := []) ?_ rfl rfl rfl
  refine z_aload_n hC 0 rfl dX10_addsTool_0 ?_
  refine z_iload_n hC 1 rfl dX10_addsTool_1 ?_
  refine z_iconst hC (nI 1) (by decide +kernel) dX10_addsTool_2 ?_
  refine z_bipush hC (nI 20) (by decide +kernel) dX10_addsTool_3 ?_
  refine z_callS hC (As := [.int (nI v), .int (nI 1), .int (nI 20)]) (st := [.ref (q 0)]) (ws2 := zMo (zy E) q h) (B := []) (B' := []) (r := some (.int (wi (nI v) (nI 1) (nI 20)))) 3 (c_X10_in (nI v) (nI 1) (nI 20)) gX10_addsTool_X10_in (by decide +kernel) rfl ⟨by decide, by decide⟩ [] rfl (by decide) rfl (Nat.le_of_ble_eq_true rfl) rfl rfl dX10_addsTool_5 ?_ hkR
  refine z_aload_n hC 0 rfl dX10_addsTool_8 ?_
  refine z_get hC 0 8 0 (v := .ref (q 1)) rfl rfl iX10_addsTool_X10 (by decide) (List.mem_of_getElem? (i := 1) (by decide +kernel)) rfl rfl dX10_addsTool_9 ?_
  refine z_bipush hC (nI 10) (by decide +kernel) dX10_addsTool_12 ?_
  refine z_iald hC 1 10 (f := h 1) rfl rfl rfl (by omega) (by decide) dX10_addsTool_14 ?_
  refine z_iconst hC (nI 5) (by decide +kernel) dX10_addsTool_15 ?_
  refine z_icmp_ge hC 23 dX10_addsTool_16 (by decide) (fun c_16 => ?_) (fun c_16 => ?_)
  · refine z_iconst hC (nI 0) (by decide +kernel) dX10_addsTool_23 ?_
    refine z_iconst hC (nI 1) (by decide +kernel) dX10_addsTool_24 ?_
    by_cases s_25_2 : wi (nI v) (nI 1) (nI 20) = 0
    · refine z_callV hC (As := [.int (wi (nI v) (nI 1) (nI 20)), .int (nI 0), .int (nI 1)]) (st := []) (ws2 := zMo (zy E) q (flG h (wi (nI v) (nI 1) (nI 20)) (nI 0) (nI 1))) (B := zMo (zy E) q h) (B' := zMo (zy E) q (flG h (wi (nI v) (nI 1) (nI 20)) (nI 0) (nI 1))) (r := some (.int (flR (wi (nI v) (nI 1) (nI 20)) (nI 0) (nI 1)))) 3 (c_X10_fails q h (wi (nI v) (nI 1) (nI 20)) (nI 0) (nI 1)) gX10_addsTool_X10_fails (q0 := 0) (ci := 8) (by decide +kernel) rfl rfl rfl ⟨by decide, by decide⟩ [0, 1, 2, 3, 4, 5, 6] rfl (by decide) rfl (Nat.le_of_ble_eq_true rfl) rfl rfl dX10_addsTool_25 ?_ hkR
      have pf_1 : flV (wi (nI v) (nI 1) (nI 20)) (nI 0) (nI 1) = nI 1 := by rw [flV, if_pos s_25_2]
      refine z_top (nI 1) (by rw [flR, pf_1]; first | done | decide +kernel) ?_
      refine z_cast (lv := [(0, .ref (q 0)), (1, .int (nI v)), (2, .int (nI 1))]) (ws := (zMo (zy E) q (va_up h 0 (upd (h 0) 1 (nI 1))))) (st := [.int (nI 1)]) ?_ rfl (by rw [flG, pf_1]) rfl
      refine z_if_eq hC 33 dX10_addsTool_28 (by decide) (fun c_28 => ?_) (fun c_28 => ?_)
      · exact absurd c_28 (by decide +kernel)
      · refine z_iconst hC (nI 0) (by decide +kernel) dX10_addsTool_31 ?_
        have pT : atT (h 1) v = 1 := by simp only [atT, if_pos c_16, if_pos s_25_2]
        exact z_iret hC hf rfl (by rw [pT]; rfl) (by unfold mxG; rw [pT]; rfl) dX10_addsTool_32
    · refine z_callV hC (As := [.int (wi (nI v) (nI 1) (nI 20)), .int (nI 0), .int (nI 1)]) (st := []) (ws2 := zMo (zy E) q (flG h (wi (nI v) (nI 1) (nI 20)) (nI 0) (nI 1))) (B := zMo (zy E) q h) (B' := zMo (zy E) q (flG h (wi (nI v) (nI 1) (nI 20)) (nI 0) (nI 1))) (r := some (.int (flR (wi (nI v) (nI 1) (nI 20)) (nI 0) (nI 1)))) 3 (c_X10_fails q h (wi (nI v) (nI 1) (nI 20)) (nI 0) (nI 1)) gX10_addsTool_X10_fails (q0 := 0) (ci := 8) (by decide +kernel) rfl rfl rfl ⟨by decide, by decide⟩ [0, 1, 2, 3, 4, 5, 6] rfl (by decide) rfl (Nat.le_of_ble_eq_true rfl) rfl rfl dX10_addsTool_25 ?_ hkR
      have pf_2 : flV (wi (nI v) (nI 1) (nI 20)) (nI 0) (nI 1) = nI 2 := by rw [flV, if_neg s_25_2, if_pos (show nI 0 = 0 by decide +kernel)]
      refine z_top (nI 1) (by rw [flR, pf_2]; first | done | decide +kernel) ?_
      refine z_cast (lv := [(0, .ref (q 0)), (1, .int (nI v)), (2, .int (nI 1))]) (ws := (zMo (zy E) q (va_up h 0 (upd (h 0) 1 (nI 2))))) (st := [.int (nI 1)]) ?_ rfl (by rw [flG, pf_2]) rfl
      refine z_if_eq hC 33 dX10_addsTool_28 (by decide) (fun c_28 => ?_) (fun c_28 => ?_)
      · exact absurd c_28 (by decide +kernel)
      · refine z_iconst hC (nI 0) (by decide +kernel) dX10_addsTool_31 ?_
        have pT : atT (h 1) v = 2 := by simp only [atT, if_pos c_16, if_neg s_25_2]
        exact z_iret hC hf rfl (by rw [pT]; rfl) (by unfold mxG; rw [pT]; rfl) dX10_addsTool_32
  · have hz5 := zlt5 hT c_16
    refine z_iconst hC (nI 1) (by decide +kernel) dX10_addsTool_19 ?_
    refine z_goto hC 24 dX10_addsTool_20 (by decide) ?_
    refine z_iconst hC (nI 1) (by decide +kernel) dX10_addsTool_24 ?_
    by_cases s_25_3 : wi (nI v) (nI 1) (nI 20) = 0
    · refine z_callV hC (As := [.int (wi (nI v) (nI 1) (nI 20)), .int (nI 1), .int (nI 1)]) (st := []) (ws2 := zMo (zy E) q (flG h (wi (nI v) (nI 1) (nI 20)) (nI 1) (nI 1))) (B := zMo (zy E) q h) (B' := zMo (zy E) q (flG h (wi (nI v) (nI 1) (nI 20)) (nI 1) (nI 1))) (r := some (.int (flR (wi (nI v) (nI 1) (nI 20)) (nI 1) (nI 1)))) 3 (c_X10_fails q h (wi (nI v) (nI 1) (nI 20)) (nI 1) (nI 1)) gX10_addsTool_X10_fails (q0 := 0) (ci := 8) (by decide +kernel) rfl rfl rfl ⟨by decide, by decide⟩ [0, 1, 2, 3, 4, 5, 6] rfl (by decide) rfl (Nat.le_of_ble_eq_true rfl) rfl rfl dX10_addsTool_25 ?_ hkR
      have pf_3 : flV (wi (nI v) (nI 1) (nI 20)) (nI 1) (nI 1) = nI 1 := by rw [flV, if_pos s_25_3]
      refine z_top (nI 1) (by rw [flR, pf_3]; first | done | decide +kernel) ?_
      refine z_cast (lv := [(0, .ref (q 0)), (1, .int (nI v)), (2, .int (nI 1))]) (ws := (zMo (zy E) q (va_up h 0 (upd (h 0) 1 (nI 1))))) (st := [.int (nI 1)]) ?_ rfl (by rw [flG, pf_3]) rfl
      refine z_if_eq hC 33 dX10_addsTool_28 (by decide) (fun c_28 => ?_) (fun c_28 => ?_)
      · exact absurd c_28 (by decide +kernel)
      · refine z_iconst hC (nI 0) (by decide +kernel) dX10_addsTool_31 ?_
        have pT : atT (h 1) v = 1 := by simp only [atT, if_neg c_16, if_pos s_25_3]
        exact z_iret hC hf rfl (by rw [pT]; rfl) (by unfold mxG; rw [pT]; rfl) dX10_addsTool_32
    · refine z_callV hC (As := [.int (wi (nI v) (nI 1) (nI 20)), .int (nI 1), .int (nI 1)]) (st := []) (ws2 := zMo (zy E) q (flG h (wi (nI v) (nI 1) (nI 20)) (nI 1) (nI 1))) (B := zMo (zy E) q h) (B' := zMo (zy E) q (flG h (wi (nI v) (nI 1) (nI 20)) (nI 1) (nI 1))) (r := some (.int (flR (wi (nI v) (nI 1) (nI 20)) (nI 1) (nI 1)))) 3 (c_X10_fails q h (wi (nI v) (nI 1) (nI 20)) (nI 1) (nI 1)) gX10_addsTool_X10_fails (q0 := 0) (ci := 8) (by decide +kernel) rfl rfl rfl ⟨by decide, by decide⟩ [0, 1, 2, 3, 4, 5, 6] rfl (by decide) rfl (Nat.le_of_ble_eq_true rfl) rfl rfl dX10_addsTool_25 ?_ hkR
      have pf_4 : flV (wi (nI v) (nI 1) (nI 20)) (nI 1) (nI 1) = nI 0 := by rw [flV, if_neg s_25_3, if_neg (show ¬ nI 1 = 0 by decide +kernel), if_neg (show ¬ nI 1 = 0 by decide +kernel)]
      refine z_top (nI 0) (by rw [flR, pf_4]; first | done | decide +kernel) ?_
      refine z_cast (lv := [(0, .ref (q 0)), (1, .int (nI v)), (2, .int (nI 1))]) (ws := (zMo (zy E) q (va_up h 0 (upd (h 0) 1 (nI 0))))) (st := [.int (nI 0)]) ?_ rfl (by rw [flG, pf_4]) rfl
      refine z_if_eq hC 33 dX10_addsTool_28 (by decide) (fun c_28 => ?_) (fun c_28 => ?_)
      · refine z_iload_n hC 2 rfl dX10_addsTool_33 ?_
        refine z_if_eq hC 41 dX10_addsTool_34 (by decide) (fun c_34 => ?_) (fun c_34 => ?_)
        · exact absurd c_34 (by decide +kernel)
        · refine z_aload_n hC 0 rfl dX10_addsTool_37 ?_
          refine z_callV hC (As := []) (st := []) (ws2 := zMo (zy E) q (svG (va_up h 0 (upd (h 0) 1 (nI 0))) m)) (B := zMo (zy E) q (va_up h 0 (upd (h 0) 1 (nI 0)))) (B' := zMo (zy E) q (svG (va_up h 0 (upd (h 0) 1 (nI 0))) m)) (r := none) 0 (c_X10_save q (va_up h 0 (upd (h 0) 1 (nI 0))) m hsv hm4) gX10_addsTool_X10_save (q0 := 0) (ci := 8) (by decide +kernel) rfl rfl rfl ⟨by decide, by decide⟩ [0, 1, 2, 3, 4, 5, 6] rfl (by decide) rfl (Nat.le_of_ble_eq_true rfl) rfl rfl dX10_addsTool_38 ?_ hkR
          refine z_aload_n hC 0 rfl dX10_addsTool_41 ?_
          refine z_get hC 0 8 0 (v := .ref (q 1)) rfl rfl iX10_addsTool_X10 (by decide) (List.mem_of_getElem? (i := 1) (by decide +kernel)) rfl rfl dX10_addsTool_42 ?_
          refine z_bipush hC (nI 10) (by decide +kernel) dX10_addsTool_45 ?_
          refine z_iald hC 1 10 (f := h 1) rfl rfl rfl (by omega) (by decide) dX10_addsTool_47 ?_
          refine z_top (nI (ztm (h 1))) hT.1 ?_
          refine z_istore_n hC (by decide) (lv' := [(3, .int (nI (ztm (h 1)))), (0, .ref (q 0)), (1, .int (nI v)), (2, .int (nI 1))]) rfl dX10_addsTool_48 ?_
          refine z_aload_n hC 1 rfl dX10_addsTool_49 ?_
          refine z_get hC 0 8 0 (v := .ref (q 1)) rfl rfl iX10_addsTool_X10 (by decide) (List.mem_of_getElem? (i := 1) (by decide +kernel)) rfl rfl dX10_addsTool_50 ?_
          refine z_sipush hC (nI 140) (by decide +kernel) dX10_addsTool_53 ?_
          refine z_iload_n hC 0 rfl dX10_addsTool_56 ?_
          refine z_iadd hC dX10_addsTool_57 ?_
          refine z_top (nI (140 + (ztm (h 1)))) (nI_add _ _) ?_
          refine z_iload_n hC 2 rfl dX10_addsTool_58 ?_
          refine z_iast hC 1 (140 + (ztm (h 1))) (nI v) (ws' := zMo (zy E) q (va_up (svG (va_up h 0 (upd (h 0) 1 (nI 0))) m) 1 (upd (h 1) (140 + (ztm (h 1))) (nI v)))) rfl rfl rfl rfl (by omega) (by decide) rfl dX10_addsTool_59 ?_
          refine z_aload_n hC 1 rfl dX10_addsTool_60 ?_
          refine z_get hC 0 8 0 (v := .ref (q 1)) rfl rfl iX10_addsTool_X10 (by decide) (List.mem_of_getElem? (i := 1) (by decide +kernel)) rfl rfl dX10_addsTool_61 ?_
          refine z_sipush hC (nI 145) (by decide +kernel) dX10_addsTool_64 ?_
          refine z_iload_n hC 0 rfl dX10_addsTool_67 ?_
          refine z_iadd hC dX10_addsTool_68 ?_
          refine z_top (nI (145 + (ztm (h 1)))) (nI_add _ _) ?_
          refine z_bipush hC (nI 60) (by decide +kernel) dX10_addsTool_69 ?_
          refine z_iast hC 1 (145 + (ztm (h 1))) (nI 60) (ws' := zMo (zy E) q (va_up (svG (va_up h 0 (upd (h 0) 1 (nI 0))) m) 1 (upd (upd (h 1) (140 + (ztm (h 1))) (nI v)) (145 + (ztm (h 1))) (nI 60)))) rfl rfl rfl rfl (by omega) (by decide) rfl dX10_addsTool_71 ?_
          refine z_aload_n hC 1 rfl dX10_addsTool_72 ?_
          refine z_get hC 0 8 0 (v := .ref (q 1)) rfl rfl iX10_addsTool_X10 (by decide) (List.mem_of_getElem? (i := 1) (by decide +kernel)) rfl rfl dX10_addsTool_73 ?_
          refine z_sipush hC (nI 150) (by decide +kernel) dX10_addsTool_76 ?_
          refine z_iload_n hC 0 rfl dX10_addsTool_79 ?_
          refine z_iadd hC dX10_addsTool_80 ?_
          refine z_top (nI (150 + (ztm (h 1)))) (nI_add _ _) ?_
          refine z_iconst hC (nI 0) (by decide +kernel) dX10_addsTool_81 ?_
          refine z_iast hC 1 (150 + (ztm (h 1))) (nI 0) (ws' := zMo (zy E) q (va_up (svG (va_up h 0 (upd (h 0) 1 (nI 0))) m) 1 (upd (upd (upd (h 1) (140 + (ztm (h 1))) (nI v)) (145 + (ztm (h 1))) (nI 60)) (150 + (ztm (h 1))) (nI 0)))) rfl rfl rfl rfl (by omega) (by decide) rfl dX10_addsTool_82 ?_
          refine z_aload_n hC 1 rfl dX10_addsTool_83 ?_
          refine z_get hC 0 8 0 (v := .ref (q 1)) rfl rfl iX10_addsTool_X10 (by decide) (List.mem_of_getElem? (i := 1) (by decide +kernel)) rfl rfl dX10_addsTool_84 ?_
          refine z_bipush hC (nI 10) (by decide +kernel) dX10_addsTool_87 ?_
          refine z_dup2 hC dX10_addsTool_89 rfl rfl ?_
          refine z_iald hC 1 10 (f := upd (upd (upd (h 1) (140 + (ztm (h 1))) (nI v)) (145 + (ztm (h 1))) (nI 60)) (150 + (ztm (h 1))) (nI 0)) rfl rfl rfl (by omega) (by decide) dX10_addsTool_90 ?_
          refine z_iconst hC (nI 1) (by decide +kernel) dX10_addsTool_91 ?_
          refine z_iadd hC dX10_addsTool_92 ?_
          refine z_iast hC 1 10 (((upd (upd (upd (h 1) (140 + (ztm (h 1))) (nI v)) (145 + (ztm (h 1))) (nI 60)) (150 + (ztm (h 1))) (nI 0)) 10) + (nI 1)) (ws' := zMo (zy E) q (va_up (svG (va_up h 0 (upd (h 0) 1 (nI 0))) m) 1 (upd (upd (upd (upd (h 1) (140 + (ztm (h 1))) (nI v)) (145 + (ztm (h 1))) (nI 60)) (150 + (ztm (h 1))) (nI 0)) 10 (((upd (upd (upd (h 1) (140 + (ztm (h 1))) (nI v)) (145 + (ztm (h 1))) (nI 60)) (150 + (ztm (h 1))) (nI 0)) 10) + (nI 1))))) rfl rfl rfl rfl (by omega) (by decide) rfl dX10_addsTool_93 ?_
          refine z_iload_n hC 0 rfl dX10_addsTool_94 ?_
          have pT : atT (h 1) v = 0 := by simp only [atT, if_neg c_16, if_neg s_25_3]
          exact z_iret hC hf rfl (by rw [pT]; rfl) (by unfold mxG; rw [pT]; rfl) dX10_addsTool_95
      · exact absurd c_28 (by decide +kernel)

set_option maxHeartbeats 4000000 in
set_option maxRecDepth 100000 in
/-- goesBy -/
theorem c_X10_goesBy_0 {l : Launch} {y : zY} {D : va_G} (q : Nat → Nat) (h : Nat → Nat → Int32) (n : Nat) (hn : n < 2 ^ 32) (hM : okM (h 1)) (hT : okTm (h 1)) : zM l y D yX10_goesBy wsX10_goesBy 6 138 [.ref (q 0), .int (nI n), .int (nI 0)] (zMo y q h) (zMo y q (mxG h (gbT n) (va_up (h0t h) 1 (pn0 (h 1) n)))) (some (.int (if gbT n = 0 then pnS (h 1) n else nI 0))) := by
  refine z_start (own := RX10) (cc := cX10_goesBy) (maxL := 3) (ret := (some .int)) rfl (by decide +kernel) rfl (Nat.le_of_ble_eq_true rfl) (zMo_fst _ _ _ _) ?_
  intro E hEl hEy hED hC hf
  subst hEl hEy hED
  have hkR : 0 ≤ E.2.2.2.2.2.1.cells ∧ 0 ≤ E.2.2.2.2.2.1.slots := ⟨Nat.zero_le _, Nat.zero_le _⟩
  refine z_cast (lv := [(0, .ref (q 0)), (1, .int (nI n)), (2, .int (nI 0))]) (ws := (zMo (zy E) q h)) (st := []) ?_ rfl rfl rfl
  refine z_aload_n hC 0 rfl dX10_goesBy_0 ?_
  refine z_iload_n hC 1 rfl dX10_goesBy_1 ?_
  refine z_iconst hC (nI 1) (by decide +kernel) dX10_goesBy_2 ?_
  refine z_bipush hC (nI 24) (by decide +kernel) dX10_goesBy_3 ?_
  refine z_callS hC (As := [.int (nI n), .int (nI 1), .int (nI 24)]) (st := [.ref (q 0)]) (ws2 := zMo (zy E) q h) (B := []) (B' := []) (r := some (.int (wi (nI n) (nI 1) (nI 24)))) 3 (c_X10_in (nI n) (nI 1) (nI 24)) gX10_goesBy_X10_in (by decide +kernel) rfl ⟨by decide, by decide⟩ [] rfl (by decide) rfl (Nat.le_of_ble_eq_true rfl) rfl rfl dX10_goesBy_5 ?_ hkR
  refine z_iconst hC (nI 1) (by decide +kernel) dX10_goesBy_8 ?_
  refine z_iconst hC (nI 1) (by decide +kernel) dX10_goesBy_9 ?_
  by_cases s_10_1 : wi (nI n) (nI 1) (nI 24) = 0
  · refine z_callV hC (As := [.int (wi (nI n) (nI 1) (nI 24)), .int (nI 1), .int (nI 1)]) (st := []) (ws2 := zMo (zy E) q (flG h (wi (nI n) (nI 1) (nI 24)) (nI 1) (nI 1))) (B := zMo (zy E) q h) (B' := zMo (zy E) q (flG h (wi (nI n) (nI 1) (nI 24)) (nI 1) (nI 1))) (r := some (.int (flR (wi (nI n) (nI 1) (nI 24)) (nI 1) (nI 1)))) 3 (c_X10_fails q h (wi (nI n) (nI 1) (nI 24)) (nI 1) (nI 1)) gX10_goesBy_X10_fails (q0 := 0) (ci := 8) (by decide +kernel) rfl rfl rfl ⟨by decide, by decide⟩ [0, 1, 2, 3, 4, 5, 6] rfl (by decide) rfl (Nat.le_of_ble_eq_true rfl) rfl rfl dX10_goesBy_10 ?_ hkR
    have pf_1 : flV (wi (nI n) (nI 1) (nI 24)) (nI 1) (nI 1) = nI 1 := by rw [flV, if_pos s_10_1]
    refine z_top (nI 1) (by rw [flR, pf_1]; first | done | decide +kernel) ?_
    refine z_cast (lv := [(0, .ref (q 0)), (1, .int (nI n)), (2, .int (nI 0))]) (ws := (zMo (zy E) q (va_up h 0 (upd (h 0) 1 (nI 1))))) (st := [.int (nI 1)]) ?_ rfl (by rw [flG, pf_1]) rfl
    refine z_if_eq hC 20 dX10_goesBy_13 (by decide) (fun c_13 => ?_) (fun c_13 => ?_)
    · exact absurd c_13 (by decide +kernel)
    · refine z_iconst hC (nI 0) (by decide +kernel) dX10_goesBy_16 ?_
      refine z_goto hC 26 dX10_goesBy_17 (by decide) ?_
      have pT : gbT n = 1 := by simp only [gbT, if_pos s_10_1]
      exact z_iret hC hf rfl (by rw [pT]; rfl) (by unfold mxG; rw [pT]; rfl) dX10_goesBy_26
  · have hn24 := wi_lt hn (by omega) (by omega) s_10_1
    refine z_callV hC (As := [.int (wi (nI n) (nI 1) (nI 24)), .int (nI 1), .int (nI 1)]) (st := []) (ws2 := zMo (zy E) q (flG h (wi (nI n) (nI 1) (nI 24)) (nI 1) (nI 1))) (B := zMo (zy E) q h) (B' := zMo (zy E) q (flG h (wi (nI n) (nI 1) (nI 24)) (nI 1) (nI 1))) (r := some (.int (flR (wi (nI n) (nI 1) (nI 24)) (nI 1) (nI 1)))) 3 (c_X10_fails q h (wi (nI n) (nI 1) (nI 24)) (nI 1) (nI 1)) gX10_goesBy_X10_fails (q0 := 0) (ci := 8) (by decide +kernel) rfl rfl rfl ⟨by decide, by decide⟩ [0, 1, 2, 3, 4, 5, 6] rfl (by decide) rfl (Nat.le_of_ble_eq_true rfl) rfl rfl dX10_goesBy_10 ?_ hkR
    have pf_2 : flV (wi (nI n) (nI 1) (nI 24)) (nI 1) (nI 1) = nI 0 := by rw [flV, if_neg s_10_1, if_neg (show ¬ nI 1 = 0 by decide +kernel), if_neg (show ¬ nI 1 = 0 by decide +kernel)]
    refine z_top (nI 0) (by rw [flR, pf_2]; first | done | decide +kernel) ?_
    refine z_cast (lv := [(0, .ref (q 0)), (1, .int (nI n)), (2, .int (nI 0))]) (ws := (zMo (zy E) q (va_up h 0 (upd (h 0) 1 (nI 0))))) (st := [.int (nI 0)]) ?_ rfl (by rw [flG, pf_2]) rfl
    refine z_if_eq hC 20 dX10_goesBy_13 (by decide) (fun c_13 => ?_) (fun c_13 => ?_)
    · refine z_aload_n hC 0 rfl dX10_goesBy_20 ?_
      refine z_iload_n hC 1 rfl dX10_goesBy_21 ?_
      refine z_iload_n hC 2 rfl dX10_goesBy_22 ?_
      refine z_callV hC (As := [.int (nI n), .int (nI 0)]) (st := []) (ws2 := zMo (zy E) q (va_up (va_up h 0 (upd (h 0) 1 (nI 0))) 1 (pn0 ((va_up h 0 (upd (h 0) 1 (nI 0))) 1) n))) (B := zMo (zy E) q (va_up h 0 (upd (h 0) 1 (nI 0)))) (B' := zMo (zy E) q (va_up (va_up h 0 (upd (h 0) 1 (nI 0))) 1 (pn0 ((va_up h 0 (upd (h 0) 1 (nI 0))) 1) n))) (r := some (.int (pnS ((va_up h 0 (upd (h 0) 1 (nI 0))) 1) n))) 2 (c_X10_passAll_0 q (va_up h 0 (upd (h 0) 1 (nI 0))) n (by omega) hM hT) gX10_goesBy_X10_passAll (q0 := 0) (ci := 8) (by decide +kernel) rfl rfl rfl ⟨by decide, by decide⟩ [0, 1, 2, 3, 4, 5, 6] rfl (by decide) rfl (Nat.le_of_ble_eq_true rfl) rfl rfl dX10_goesBy_23 ?_ hkR
      have pT : gbT n = 0 := by simp only [gbT, if_neg s_10_1]
      exact z_iret hC hf rfl (by rw [pT]; rfl) (by unfold mxG; rw [pT]; rfl) dX10_goesBy_26
    · exact absurd c_13 (by decide +kernel)

set_option maxHeartbeats 4000000 in
set_option maxRecDepth 100000 in
/-- goesBy -/
theorem c_X10_goesBy_1 {l : Launch} {y : zY} {D : va_G} (q : Nat → Nat) (h : Nat → Nat → Int32) (n : Nat) (hn : n < 2 ^ 32) (hM : okM (h 1)) (hT : okTm (h 1)) : zM l y D yX10_goesBy wsX10_goesBy 6 138 [.ref (q 0), .int (nI n), .int (nI 1)] (zMo y q h) (zMo y q (mxG h (gbT n) (va_up (h0t h) 1 (pn1 (h 1) n)))) (some (.int (if gbT n = 0 then pnZ n else nI 0))) := by
  refine z_start (own := RX10) (cc := cX10_goesBy) (maxL := 3) (ret := (some .int)) rfl (by decide +kernel) rfl (Nat.le_of_ble_eq_true rfl) (zMo_fst _ _ _ _) ?_
  intro E hEl hEy hED hC hf
  subst hEl hEy hED
  have hkR : 0 ≤ E.2.2.2.2.2.1.cells ∧ 0 ≤ E.2.2.2.2.2.1.slots := ⟨Nat.zero_le _, Nat.zero_le _⟩
  refine z_cast (lv := [(0, .ref (q 0)), (1, .int (nI n)), (2, .int (nI 1))]) (ws := (zMo (zy E) q h)) (st := []) ?_ rfl rfl rfl
  refine z_aload_n hC 0 rfl dX10_goesBy_0 ?_
  refine z_iload_n hC 1 rfl dX10_goesBy_1 ?_
  refine z_iconst hC (nI 1) (by decide +kernel) dX10_goesBy_2 ?_
  refine z_bipush hC (nI 24) (by decide +kernel) dX10_goesBy_3 ?_
  refine z_callS hC (As := [.int (nI n), .int (nI 1), .int (nI 24)]) (st := [.ref (q 0)]) (ws2 := zMo (zy E) q h) (B := []) (B' := []) (r := some (.int (wi (nI n) (nI 1) (nI 24)))) 3 (c_X10_in (nI n) (nI 1) (nI 24)) gX10_goesBy_X10_in (by decide +kernel) rfl ⟨by decide, by decide⟩ [] rfl (by decide) rfl (Nat.le_of_ble_eq_true rfl) rfl rfl dX10_goesBy_5 ?_ hkR
  refine z_iconst hC (nI 1) (by decide +kernel) dX10_goesBy_8 ?_
  refine z_iconst hC (nI 1) (by decide +kernel) dX10_goesBy_9 ?_
  by_cases s_10_1 : wi (nI n) (nI 1) (nI 24) = 0
  · refine z_callV hC (As := [.int (wi (nI n) (nI 1) (nI 24)), .int (nI 1), .int (nI 1)]) (st := []) (ws2 := zMo (zy E) q (flG h (wi (nI n) (nI 1) (nI 24)) (nI 1) (nI 1))) (B := zMo (zy E) q h) (B' := zMo (zy E) q (flG h (wi (nI n) (nI 1) (nI 24)) (nI 1) (nI 1))) (r := some (.int (flR (wi (nI n) (nI 1) (nI 24)) (nI 1) (nI 1)))) 3 (c_X10_fails q h (wi (nI n) (nI 1) (nI 24)) (nI 1) (nI 1)) gX10_goesBy_X10_fails (q0 := 0) (ci := 8) (by decide +kernel) rfl rfl rfl ⟨by decide, by decide⟩ [0, 1, 2, 3, 4, 5, 6] rfl (by decide) rfl (Nat.le_of_ble_eq_true rfl) rfl rfl dX10_goesBy_10 ?_ hkR
    have pf_1 : flV (wi (nI n) (nI 1) (nI 24)) (nI 1) (nI 1) = nI 1 := by rw [flV, if_pos s_10_1]
    refine z_top (nI 1) (by rw [flR, pf_1]; first | done | decide +kernel) ?_
    refine z_cast (lv := [(0, .ref (q 0)), (1, .int (nI n)), (2, .int (nI 1))]) (ws := (zMo (zy E) q (va_up h 0 (upd (h 0) 1 (nI 1))))) (st := [.int (nI 1)]) ?_ rfl (by rw [flG, pf_1]) rfl
    refine z_if_eq hC 20 dX10_goesBy_13 (by decide) (fun c_13 => ?_) (fun c_13 => ?_)
    · exact absurd c_13 (by decide +kernel)
    · refine z_iconst hC (nI 0) (by decide +kernel) dX10_goesBy_16 ?_
      refine z_goto hC 26 dX10_goesBy_17 (by decide) ?_
      have pT : gbT n = 1 := by simp only [gbT, if_pos s_10_1]
      exact z_iret hC hf rfl (by rw [pT]; rfl) (by unfold mxG; rw [pT]; rfl) dX10_goesBy_26
  · have hn24 := wi_lt hn (by omega) (by omega) s_10_1
    refine z_callV hC (As := [.int (wi (nI n) (nI 1) (nI 24)), .int (nI 1), .int (nI 1)]) (st := []) (ws2 := zMo (zy E) q (flG h (wi (nI n) (nI 1) (nI 24)) (nI 1) (nI 1))) (B := zMo (zy E) q h) (B' := zMo (zy E) q (flG h (wi (nI n) (nI 1) (nI 24)) (nI 1) (nI 1))) (r := some (.int (flR (wi (nI n) (nI 1) (nI 24)) (nI 1) (nI 1)))) 3 (c_X10_fails q h (wi (nI n) (nI 1) (nI 24)) (nI 1) (nI 1)) gX10_goesBy_X10_fails (q0 := 0) (ci := 8) (by decide +kernel) rfl rfl rfl ⟨by decide, by decide⟩ [0, 1, 2, 3, 4, 5, 6] rfl (by decide) rfl (Nat.le_of_ble_eq_true rfl) rfl rfl dX10_goesBy_10 ?_ hkR
    have pf_2 : flV (wi (nI n) (nI 1) (nI 24)) (nI 1) (nI 1) = nI 0 := by rw [flV, if_neg s_10_1, if_neg (show ¬ nI 1 = 0 by decide +kernel), if_neg (show ¬ nI 1 = 0 by decide +kernel)]
    refine z_top (nI 0) (by rw [flR, pf_2]; first | done | decide +kernel) ?_
    refine z_cast (lv := [(0, .ref (q 0)), (1, .int (nI n)), (2, .int (nI 1))]) (ws := (zMo (zy E) q (va_up h 0 (upd (h 0) 1 (nI 0))))) (st := [.int (nI 0)]) ?_ rfl (by rw [flG, pf_2]) rfl
    refine z_if_eq hC 20 dX10_goesBy_13 (by decide) (fun c_13 => ?_) (fun c_13 => ?_)
    · refine z_aload_n hC 0 rfl dX10_goesBy_20 ?_
      refine z_iload_n hC 1 rfl dX10_goesBy_21 ?_
      refine z_iload_n hC 2 rfl dX10_goesBy_22 ?_
      refine z_callV hC (As := [.int (nI n), .int (nI 1)]) (st := []) (ws2 := zMo (zy E) q (va_up (va_up h 0 (upd (h 0) 1 (nI 0))) 1 (pn1 ((va_up h 0 (upd (h 0) 1 (nI 0))) 1) n))) (B := zMo (zy E) q (va_up h 0 (upd (h 0) 1 (nI 0)))) (B' := zMo (zy E) q (va_up (va_up h 0 (upd (h 0) 1 (nI 0))) 1 (pn1 ((va_up h 0 (upd (h 0) 1 (nI 0))) 1) n))) (r := some (.int (pnZ n))) 2 (c_X10_passAll_1 q (va_up h 0 (upd (h 0) 1 (nI 0))) n (by omega) hM hT) gX10_goesBy_X10_passAll (q0 := 0) (ci := 8) (by decide +kernel) rfl rfl rfl ⟨by decide, by decide⟩ [0, 1, 2, 3, 4, 5, 6] rfl (by decide) rfl (Nat.le_of_ble_eq_true rfl) rfl rfl dX10_goesBy_23 ?_ hkR
      have pT : gbT n = 0 := by simp only [gbT, if_neg s_10_1]
      exact z_iret hC hf rfl (by rw [pT]; rfl) (by unfold mxG; rw [pT]; rfl) dX10_goesBy_26
    · exact absurd c_13 (by decide +kernel)

set_option maxHeartbeats 4000000 in
set_option maxRecDepth 100000 in
/-- X10_addSnow -/
theorem c_X10_addSnow {l : Launch} {y : zY} {D : va_G} (q : Nat → Nat) (h : Nat → Nat → Int32) (u : Nat) (hu : u < 2 ^ 32) (m : Nat) (hsv : h 0 0 = nI m) (hm4 : m ≤ 4) : zM l y D yX10_addSnow wsX10_addSnow 2 45 [.ref (q 0), .int (nI u)] (zMo y q h) (zMo y q (mxG h (asT (h 1) u) (va_up (svG (h0t h) m) 1 (asF (h 1) u)))) (some (.int (if asT (h 1) u = 0 then h 1 0 + nI u else nI 0))) := by
  refine z_start (own := RX10) (cc := cX10_addSnow) (maxL := 2) (ret := (some .int)) rfl (by decide +kernel) rfl (Nat.le_of_ble_eq_true rfl) (zMo_fst _ _ _ _) ?_
  intro E hEl hEy hED hC hf
  subst hEl hEy hED
  have hkR : 0 ≤ E.2.2.2.2.2.1.cells ∧ 0 ≤ E.2.2.2.2.2.1.slots := ⟨Nat.zero_le _, Nat.zero_le _⟩
  refine z_cast (lv := [(0, .ref (q 0)), (1, .int (nI u))]) (ws := (zMo (zy E) q h)) (st := []) ?_ rfl rfl rfl
  refine z_aload_n hC 0 rfl dX10_addSnow_0 ?_
  refine z_iload_n hC 1 rfl dX10_addSnow_1 ?_
  refine z_iconst hC (nI 1) (by decide +kernel) dX10_addSnow_2 ?_
  refine z_callV hC (As := [.int (nI u), .int (nI 1)]) (st := []) (ws2 := zMo (zy E) q (mxG h (asT (h 1) u) (va_up (svG (h0t h) m) 1 (asF (h 1) u)))) (B := zMo (zy E) q h) (B' := zMo (zy E) q (mxG h (asT (h 1) u) (va_up (svG (h0t h) m) 1 (asF (h 1) u)))) (r := some (.int (if asT (h 1) u = 0 then h 1 0 + nI u else nI 0))) 2 (c_X10_addsSnow_1 q h u hu m hsv hm4) gX10_addSnow_X10_addsSnow (q0 := 0) (ci := 8) (by decide +kernel) rfl rfl rfl ⟨by decide, by decide⟩ [0, 1, 2, 3, 4, 5, 6] rfl (by decide) rfl (Nat.le_of_ble_eq_true rfl) rfl rfl dX10_addSnow_3 ?_ hkR
  exact z_iret hC hf rfl rfl rfl dX10_addSnow_6

set_option maxHeartbeats 4000000 in
set_option maxRecDepth 100000 in
/-- X10_press -/
theorem c_X10_press {l : Launch} {y : zY} {D : va_G} (q : Nat → Nat) (h : Nat → Nat → Int32) (k b : Nat) (hk : k < 2 ^ 32) (hb : b < 2 ^ 32) (m : Nat) (hsv : h 0 0 = nI m) (hm4 : m ≤ 4) : zM l y D yX10_press wsX10_press 3 66 [.ref (q 0), .int (nI k), .int (nI b)] (zMo y q h) (zMo y q (mxG h (prT (h 1) k b) (va_up (svG (h0t h) m) 1 (prF (h 1) k b)))) (some (.int (if prT (h 1) k b = 0 then prF (h 1) k b (1 + k) else nI 0))) := by
  refine z_start (own := RX10) (cc := cX10_press) (maxL := 3) (ret := (some .int)) rfl (by decide +kernel) rfl (Nat.le_of_ble_eq_true rfl) (zMo_fst _ _ _ _) ?_
  intro E hEl hEy hED hC hf
  subst hEl hEy hED
  have hkR : 0 ≤ E.2.2.2.2.2.1.cells ∧ 0 ≤ E.2.2.2.2.2.1.slots := ⟨Nat.zero_le _, Nat.zero_le _⟩
  refine z_cast (lv := [(0, .ref (q 0)), (1, .int (nI k)), (2, .int (nI b))]) (ws := (zMo (zy E) q h)) (st := []) ?_ rfl rfl rfl
  refine z_aload_n hC 0 rfl dX10_press_0 ?_
  refine z_iload_n hC 1 rfl dX10_press_1 ?_
  refine z_iload_n hC 2 rfl dX10_press_2 ?_
  refine z_iconst hC (nI 1) (by decide +kernel) dX10_press_3 ?_
  refine z_callV hC (As := [.int (nI k), .int (nI b), .int (nI 1)]) (st := []) (ws2 := zMo (zy E) q (mxG h (prT (h 1) k b) (va_up (svG (h0t h) m) 1 (prF (h 1) k b)))) (B := zMo (zy E) q h) (B' := zMo (zy E) q (mxG h (prT (h 1) k b) (va_up (svG (h0t h) m) 1 (prF (h 1) k b)))) (r := some (.int (if prT (h 1) k b = 0 then prF (h 1) k b (1 + k) else nI 0))) 3 (c_X10_presses_1 q h k b hk hb m hsv hm4) gX10_press_X10_presses (q0 := 0) (ci := 8) (by decide +kernel) rfl rfl rfl ⟨by decide, by decide⟩ [0, 1, 2, 3, 4, 5, 6] rfl (by decide) rfl (Nat.le_of_ble_eq_true rfl) rfl rfl dX10_press_4 ?_ hkR
  exact z_iret hC hf rfl rfl rfl dX10_press_7

set_option maxHeartbeats 4000000 in
set_option maxRecDepth 100000 in
/-- X10_stack -/
theorem c_X10_stack {l : Launch} {y : zY} {D : va_G} (q : Nat → Nat) (h : Nat → Nat → Int32) (s k : Nat) (hs : s < 2 ^ 32) (hk : k < 2 ^ 32) (hM : okM (h 1)) (m : Nat) (hsv : h 0 0 = nI m) (hm4 : m ≤ 4) : zM l y D yX10_stack wsX10_stack 3 67 [.ref (q 0), .int (nI s), .int (nI k)] (zMo y q h) (zMo y q (mxG h (stT (h 1) s k) (va_up (svG (h0t h) m) 1 (stF (h 1) s k)))) (some (.int (if stT (h 1) s k = 0 then nI (zhm (h 1) s) else nI 0))) := by
  refine z_start (own := RX10) (cc := cX10_stack) (maxL := 3) (ret := (some .int)) rfl (by decide +kernel) rfl (Nat.le_of_ble_eq_true rfl) (zMo_fst _ _ _ _) ?_
  intro E hEl hEy hED hC hf
  subst hEl hEy hED
  have hkR : 0 ≤ E.2.2.2.2.2.1.cells ∧ 0 ≤ E.2.2.2.2.2.1.slots := ⟨Nat.zero_le _, Nat.zero_le _⟩
  refine z_cast (lv := [(0, .ref (q 0)), (1, .int (nI s)), (2, .int (nI k))]) (ws := (zMo (zy E) q h)) (st := []) ?_ rfl rfl rfl
  refine z_aload_n hC 0 rfl dX10_stack_0 ?_
  refine z_iload_n hC 1 rfl dX10_stack_1 ?_
  refine z_iload_n hC 2 rfl dX10_stack_2 ?_
  refine z_iconst hC (nI 1) (by decide +kernel) dX10_stack_3 ?_
  refine z_callV hC (As := [.int (nI s), .int (nI k), .int (nI 1)]) (st := []) (ws2 := zMo (zy E) q (mxG h (stT (h 1) s k) (va_up (svG (h0t h) m) 1 (stF (h 1) s k)))) (B := zMo (zy E) q h) (B' := zMo (zy E) q (mxG h (stT (h 1) s k) (va_up (svG (h0t h) m) 1 (stF (h 1) s k)))) (r := some (.int (if stT (h 1) s k = 0 then nI (zhm (h 1) s) else nI 0))) 3 (c_X10_stacks_1 q h s k hs hk hM m hsv hm4) gX10_stack_X10_stacks (q0 := 0) (ci := 8) (by decide +kernel) rfl rfl rfl ⟨by decide, by decide⟩ [0, 1, 2, 3, 4, 5, 6] rfl (by decide) rfl (Nat.le_of_ble_eq_true rfl) rfl rfl dX10_stack_4 ?_ hkR
  exact z_iret hC hf rfl rfl rfl dX10_stack_7

set_option maxHeartbeats 4000000 in
set_option maxRecDepth 100000 in
/-- X10_addTool -/
theorem c_X10_addTool {l : Launch} {y : zY} {D : va_G} (q : Nat → Nat) (h : Nat → Nat → Int32) (v : Nat) (hv : v < 2 ^ 32) (hT : okTm (h 1)) (m : Nat) (hsv : h 0 0 = nI m) (hm4 : m ≤ 4) : zM l y D yX10_addTool wsX10_addTool 2 46 [.ref (q 0), .int (nI v)] (zMo y q h) (zMo y q (mxG h (atT (h 1) v) (va_up (svG (h0t h) m) 1 (atF (h 1) v)))) (some (.int (if atT (h 1) v = 0 then nI (ztm (h 1)) else nI 0))) := by
  refine z_start (own := RX10) (cc := cX10_addTool) (maxL := 2) (ret := (some .int)) rfl (by decide +kernel) rfl (Nat.le_of_ble_eq_true rfl) (zMo_fst _ _ _ _) ?_
  intro E hEl hEy hED hC hf
  subst hEl hEy hED
  have hkR : 0 ≤ E.2.2.2.2.2.1.cells ∧ 0 ≤ E.2.2.2.2.2.1.slots := ⟨Nat.zero_le _, Nat.zero_le _⟩
  refine z_cast (lv := [(0, .ref (q 0)), (1, .int (nI v))]) (ws := (zMo (zy E) q h)) (st := []) ?_ rfl rfl rfl
  refine z_aload_n hC 0 rfl dX10_addTool_0 ?_
  refine z_iload_n hC 1 rfl dX10_addTool_1 ?_
  refine z_iconst hC (nI 1) (by decide +kernel) dX10_addTool_2 ?_
  refine z_callV hC (As := [.int (nI v), .int (nI 1)]) (st := []) (ws2 := zMo (zy E) q (mxG h (atT (h 1) v) (va_up (svG (h0t h) m) 1 (atF (h 1) v)))) (B := zMo (zy E) q h) (B' := zMo (zy E) q (mxG h (atT (h 1) v) (va_up (svG (h0t h) m) 1 (atF (h 1) v)))) (r := some (.int (if atT (h 1) v = 0 then nI (ztm (h 1)) else nI 0))) 2 (c_X10_addsTool_1 q h v hv hT m hsv hm4) gX10_addTool_X10_addsTool (q0 := 0) (ci := 8) (by decide +kernel) rfl rfl rfl ⟨by decide, by decide⟩ [0, 1, 2, 3, 4, 5, 6] rfl (by decide) rfl (Nat.le_of_ble_eq_true rfl) rfl rfl dX10_addTool_3 ?_ hkR
  exact z_iret hC hf rfl rfl rfl dX10_addTool_6

set_option maxHeartbeats 4000000 in
set_option maxRecDepth 100000 in
/-- X10_recycle -/
theorem c_X10_recycle {l : Launch} {y : zY} {D : va_G} (q : Nat → Nat) (h : Nat → Nat → Int32)  (m : Nat) (hsv : h 0 0 = nI m) (hm4 : m ≤ 4) : zM l y D yX10_recycle wsX10_recycle 2 44 [.ref (q 0)] (zMo y q h) (zMo y q (rcG1 h m)) (some (.int (reN (h 1)))) := by
  refine z_start (own := RX10) (cc := cX10_recycle) (maxL := 1) (ret := (some .int)) rfl (by decide +kernel) rfl (Nat.le_of_ble_eq_true rfl) (zMo_fst _ _ _ _) ?_
  intro E hEl hEy hED hC hf
  subst hEl hEy hED
  have hkR : 0 ≤ E.2.2.2.2.2.1.cells ∧ 0 ≤ E.2.2.2.2.2.1.slots := ⟨Nat.zero_le _, Nat.zero_le _⟩
  refine z_cast (lv := [(0, .ref (q 0))]) (ws := (zMo (zy E) q h)) (st := []) ?_ rfl rfl rfl
  refine z_aload_n hC 0 rfl dX10_recycle_0 ?_
  refine z_iconst hC (nI 1) (by decide +kernel) dX10_recycle_1 ?_
  refine z_callV hC (As := [.int (nI 1)]) (st := []) (ws2 := zMo (zy E) q (rcG1 h m)) (B := zMo (zy E) q h) (B' := zMo (zy E) q (rcG1 h m)) (r := some (.int (reN (h 1)))) 1 (c_X10_recycles_1 q h m hsv hm4) gX10_recycle_X10_recycles (q0 := 0) (ci := 8) (by decide +kernel) rfl rfl rfl ⟨by decide, by decide⟩ [0, 1, 2, 3, 4, 5, 6] rfl (by decide) rfl (Nat.le_of_ble_eq_true rfl) rfl rfl dX10_recycle_2 ?_ hkR
  exact z_iret hC hf rfl rfl rfl dX10_recycle_5

set_option maxHeartbeats 4000000 in
set_option maxRecDepth 100000 in
/-- setWall -/
theorem c_X10_setWall_0 {l : Launch} {y : zY} {D : va_G} (q : Nat → Nat) (h : Nat → Nat → Int32) (s : Nat) (hs : s < 2 ^ 32) (m : Nat) (hsv : h 0 0 = nI m) (hm4 : m ≤ 4) : zM l y D yX10_setWall wsX10_setWall 3 65 [.ref (q 0), .int (nI s), .int (nI 0)] (zMo y q h) (zMo y q (mxG h (swT s) (va_up (svG (h0t h) m) 1 (swF (h 1) s 0)))) (some (.int (if swT s = 0 then wlS (swF (h 1) s 0) 8 else nI 0))) := by
  refine z_start (own := RX10) (cc := cX10_setWall) (maxL := 3) (ret := (some .int)) rfl (by decide +kernel) rfl (Nat.le_of_ble_eq_true rfl) (zMo_fst _ _ _ _) ?_
  intro E hEl hEy hED hC hf
  subst hEl hEy hED
  have hkR : 0 ≤ E.2.2.2.2.2.1.cells ∧ 0 ≤ E.2.2.2.2.2.1.slots := ⟨Nat.zero_le _, Nat.zero_le _⟩
  refine z_cast (lv := [(0, .ref (q 0)), (1, .int (nI s)), (2, .int (nI 0))]) (ws := (zMo (zy E) q h)) (st := []) ?_ rfl rfl rfl
  refine z_aload_n hC 0 rfl dX10_setWall_0 ?_
  refine z_iload_n hC 1 rfl dX10_setWall_1 ?_
  refine z_iload_n hC 2 rfl dX10_setWall_2 ?_
  refine z_iconst hC (nI 1) (by decide +kernel) dX10_setWall_3 ?_
  refine z_callV hC (As := [.int (nI s), .int (nI 0), .int (nI 1)]) (st := []) (ws2 := zMo (zy E) q (mxG h (swT s) (va_up (svG (h0t h) m) 1 (swF (h 1) s 0)))) (B := zMo (zy E) q h) (B' := zMo (zy E) q (mxG h (swT s) (va_up (svG (h0t h) m) 1 (swF (h 1) s 0)))) (r := some (.int (if swT s = 0 then wlS (swF (h 1) s 0) 8 else nI 0))) 3 (c_X10_setsWall_01 q h s hs m hsv hm4) gX10_setWall_X10_setsWall (q0 := 0) (ci := 8) (by decide +kernel) rfl rfl rfl ⟨by decide, by decide⟩ [0, 1, 2, 3, 4, 5, 6] rfl (by decide) rfl (Nat.le_of_ble_eq_true rfl) rfl rfl dX10_setWall_4 ?_ hkR
  exact z_iret hC hf rfl rfl rfl dX10_setWall_7

set_option maxHeartbeats 4000000 in
set_option maxRecDepth 100000 in
/-- setWall -/
theorem c_X10_setWall_1 {l : Launch} {y : zY} {D : va_G} (q : Nat → Nat) (h : Nat → Nat → Int32) (s : Nat) (hs : s < 2 ^ 32) (m : Nat) (hsv : h 0 0 = nI m) (hm4 : m ≤ 4) : zM l y D yX10_setWall wsX10_setWall 3 65 [.ref (q 0), .int (nI s), .int (nI 1)] (zMo y q h) (zMo y q (mxG h (swT s) (va_up (svG (h0t h) m) 1 (swF (h 1) s 1)))) (some (.int (if swT s = 0 then wlS (swF (h 1) s 1) 8 else nI 0))) := by
  refine z_start (own := RX10) (cc := cX10_setWall) (maxL := 3) (ret := (some .int)) rfl (by decide +kernel) rfl (Nat.le_of_ble_eq_true rfl) (zMo_fst _ _ _ _) ?_
  intro E hEl hEy hED hC hf
  subst hEl hEy hED
  have hkR : 0 ≤ E.2.2.2.2.2.1.cells ∧ 0 ≤ E.2.2.2.2.2.1.slots := ⟨Nat.zero_le _, Nat.zero_le _⟩
  refine z_cast (lv := [(0, .ref (q 0)), (1, .int (nI s)), (2, .int (nI 1))]) (ws := (zMo (zy E) q h)) (st := []) ?_ rfl rfl rfl
  refine z_aload_n hC 0 rfl dX10_setWall_0 ?_
  refine z_iload_n hC 1 rfl dX10_setWall_1 ?_
  refine z_iload_n hC 2 rfl dX10_setWall_2 ?_
  refine z_iconst hC (nI 1) (by decide +kernel) dX10_setWall_3 ?_
  refine z_callV hC (As := [.int (nI s), .int (nI 1), .int (nI 1)]) (st := []) (ws2 := zMo (zy E) q (mxG h (swT s) (va_up (svG (h0t h) m) 1 (swF (h 1) s 1)))) (B := zMo (zy E) q h) (B' := zMo (zy E) q (mxG h (swT s) (va_up (svG (h0t h) m) 1 (swF (h 1) s 1)))) (r := some (.int (if swT s = 0 then wlS (swF (h 1) s 1) 8 else nI 0))) 3 (c_X10_setsWall_11 q h s hs m hsv hm4) gX10_setWall_X10_setsWall (q0 := 0) (ci := 8) (by decide +kernel) rfl rfl rfl ⟨by decide, by decide⟩ [0, 1, 2, 3, 4, 5, 6] rfl (by decide) rfl (Nat.le_of_ble_eq_true rfl) rfl rfl dX10_setWall_4 ?_ hkR
  exact z_iret hC hf rfl rfl rfl dX10_setWall_7
