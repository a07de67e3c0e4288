/-! the model's orders: one is carried out -/
def cyT (f : Nat → Int32) (w u0 u1 u2 u3 : Nat) : Nat := if w = 0 then asT f u0 else if w = 1 then prT f u0 u1 else if w = 2 then stT f u0 u1 else if w = 3 then atT f u0 else if w = 4 then cvT f u0 u1 u2 u3 else if w = 5 then swT u0 else if w = 6 then gbT u0 else if w = 7 then gbT u0 else 0
def cyF (f : Nat → Int32) (w u0 u1 u2 u3 : Nat) : Nat → Int32 := if w = 0 then asF f u0 else if w = 1 then prF f u0 u1 else if w = 2 then stF f u0 u1 else if w = 3 then atF f u0 else if w = 4 then dmF (cvE f u0 u1 u2 u3) u1 else if w = 5 then swF f u0 1 else if w = 6 then pn0 f u0 else if w = 7 then pn1 f u0 else reF f
def cyM (h : Nat → Nat → Int32) (T : Nat) (f' : Nat → Int32) : Nat → Nat → Int32 := if T = 0 then va_up (va_up h 0 (upd (upd (h 0) 1 (nI 0)) 7 (h 0 7 + nI 1))) 1 f' else va_up h 0 (upd (upd (h 0) 1 (nI T)) 7 (h 0 7 + nI 0))
def cyG (h : Nat → Nat → Int32) (w u0 u1 u2 u3 : Nat) : Nat → Nat → Int32 := cyM h (cyT (h 1) w u0 u1 u2 u3) (cyF (h 1) w u0 u1 u2 u3)
theorem asT_3 (f : Nat → Int32) (u : Nat) : asT f u ≤ 3 := by unfold asT; (repeat' split) <;> omega
theorem prT_3 (f : Nat → Int32) (u v : Nat) : prT f u v ≤ 3 := by unfold prT; (repeat' split) <;> omega
theorem stT_3 (f : Nat → Int32) (u v : Nat) : stT f u v ≤ 3 := by unfold stT; (repeat' split) <;> omega
theorem atT_3 (f : Nat → Int32) (u : Nat) : atT f u ≤ 3 := by unfold atT; (repeat' split) <;> omega
theorem cvT_3 (f : Nat → Int32) (a b c d : Nat) : cvT f a b c d ≤ 3 := by unfold cvT; (repeat' split) <;> omega
theorem swT_3 (u : Nat) : swT u ≤ 3 := by unfold swT; (repeat' split) <;> omega
theorem gbT_3 (u : Nat) : gbT u ≤ 3 := by unfold gbT; (repeat' split) <;> omega
/-- the four numbers that were told -/
def toldU (h : Nat → Nat → Int32) (u0 u1 u2 u3 : Nat) : Prop := (h 6 0 = nI u0 ∧ u0 < 2 ^ 32) ∧ (h 6 1 = nI u1 ∧ u1 < 2 ^ 32) ∧ (h 6 2 = nI u2 ∧ u2 < 2 ^ 32) ∧ (h 6 3 = nI u3 ∧ u3 < 2 ^ 32)
theorem iX10_carriesOut_X10 : ∀ w ∈ u_ws RX10 TX10 15, w ∈ wsX10_carriesOut := by decide +kernel
set_option maxHeartbeats 4000000 in
set_option maxRecDepth 100000 in
/-- carriesOut, SNOW -/
theorem c_X10_carriesOut_0 {l : Launch} {y : zY} {D : va_G} (q : Nat → Nat) (h : Nat → Nat → Int32) (u0 u1 u2 u3 : Nat) (htu : toldU h u0 u1 u2 u3) (hM : okM (h 1)) (hT : okTm (h 1)) (hSp : okSp (h 1)) (hw : h 0 8 = nI 0) : zM l y D yX10_carriesOut wsX10_carriesOut 7 160 [.ref (q 0)] (zMo y q h) (zMo y q (cyM h (asT (h 1) u0) (asF (h 1) u0))) (some (.int (if asT (h 1) u0 = 0 then nI 1 else nI 0))) := by
  have hu0 := htu.1.2
  have hu1 := htu.2.1.2
  have hu2 := htu.2.2.1.2
  have hu3 := htu.2.2.2.2
  refine z_start (own := RX10) (cc := cX10_carriesOut) (maxL := 2) (ret := (some .boolean)) rfl (by decide +kernel) rfl (Nat.le_of_ble_eq_true rfl) (zMo_fst _ _ _ _) ?_
  intro E hEl hEy hED hC hf
  subst hEl hEy hED
  have hkR : 0 ≤ E.2.2.2.2.2.1.cells ∧ 0 ≤ E.2.2.2.2.2.1.slots := ⟨Nat.zero_le _, Nat.zero_le _⟩
  refine z_cast (lv := [(0, .ref (q 0))]) (ws := (zMo (zy E) q h)) (st := []) ?_ rfl rfl rfl
  refine z_iconst hC (nI 0) (by decide +kernel) dX10_carriesOut_0 ?_
  refine z_istore_n hC (by decide) (lv' := [(1, .int (nI 0)), (0, .ref (q 0))]) rfl dX10_carriesOut_1 ?_
  refine z_aload_n hC 1 rfl dX10_carriesOut_2 ?_
  refine z_get hC 0 8 13 (v := .int ((h 0) 8)) rfl rfl iX10_carriesOut_X10 (by decide) (List.mem_of_getElem? (i := 1) (by decide +kernel)) rfl rfl dX10_carriesOut_3 ?_
  refine z_top (nI 0) hw ?_
  refine z_tblIn hC (off := 46) 52 dX10_carriesOut_6 (by decide +kernel) (by decide +kernel) (by decide +kernel) (by decide) ?_
  refine z_aload_n hC 1 rfl dX10_carriesOut_52 ?_
  refine z_aload_n hC 1 rfl dX10_carriesOut_53 ?_
  refine z_get hC 0 8 14 (v := .ref (q 6)) rfl rfl iX10_carriesOut_X10 (by decide) (List.mem_of_getElem? (i := 2) (by decide +kernel)) rfl rfl dX10_carriesOut_54 ?_
  refine z_iconst hC (nI 0) (by decide +kernel) dX10_carriesOut_57 ?_
  refine z_iald hC 6 0 (f := h 6) rfl rfl rfl (by omega) (by decide) dX10_carriesOut_58 ?_
  refine z_top (nI u0) htu.1.1 ?_
  refine z_iconst hC (nI 0) (by decide +kernel) dX10_carriesOut_59 ?_
  refine z_callV hC (As := [.int (nI u0), .int (nI 0)]) (st := []) (ws2 := zMo (zy E) q (mxG h (asT (h 1) u0) (va_up (h0t h) 1 (asF (h 1) u0)))) (B := zMo (zy E) q h) (B' := zMo (zy E) q (mxG h (asT (h 1) u0) (va_up (h0t h) 1 (asF (h 1) u0)))) (r := some (.int (if asT (h 1) u0 = 0 then h 1 0 + nI u0 else nI 0))) 2 (c_X10_addsSnow_0 q h u0 hu0) gX10_carriesOut_X10_addsSnow (q0 := 0) (ci := 8) (by decide +kernel) rfl rfl rfl ⟨by decide, by decide⟩ [0, 1, 2, 3, 4, 5, 6] rfl (by decide) rfl (Nat.le_of_ble_eq_true rfl) rfl rfl dX10_carriesOut_60 ?_ hkR
  refine z_istore_n hC (by decide) (lv' := [(1, .int (if asT (h 1) u0 = 0 then h 1 0 + nI u0 else nI 0)), (0, .ref (q 0))]) rfl dX10_carriesOut_63 ?_
  refine z_goto hC 209 dX10_carriesOut_64 (by decide) ?_
  by_cases hT0 : asT (h 1) u0 = 0
  · refine z_cast (lv := [(1, .int (if asT (h 1) u0 = 0 then h 1 0 + nI u0 else nI 0)), (0, .ref (q 0))]) (ws := (zMo (zy E) q (va_up (va_up h 0 (upd (h 0) 1 (nI 0))) 1 (asF (h 1) u0)))) (st := []) ?_ rfl (by unfold mxG; rw [if_pos hT0] <;> rfl) rfl
    refine z_aload_n hC 1 rfl dX10_carriesOut_209 ?_
    refine z_dup hC dX10_carriesOut_210 rfl ?_
    refine z_get hC 0 8 12 (v := .int ((upd (h 0) 1 (nI 0)) 7)) rfl rfl iX10_carriesOut_X10 (by decide) (List.mem_of_getElem? (i := 3) (by decide +kernel)) rfl rfl dX10_carriesOut_211 ?_
    refine z_aload_n hC 1 rfl dX10_carriesOut_214 ?_
    refine z_get hC 0 8 4 (v := .int (nI 0)) rfl rfl iX10_carriesOut_X10 (by decide) (List.mem_of_getElem? (i := 4) (by decide +kernel)) rfl rfl dX10_carriesOut_215 ?_
    refine z_top (nI 0) rfl ?_
    refine z_if_ne hC 225 dX10_carriesOut_218 (by decide) (fun c_218 => ?_) (fun c_218 => ?_)
    · exact absurd c_218 (by decide +kernel)
    · refine z_iconst hC (nI 1) (by decide +kernel) dX10_carriesOut_221 ?_
      refine z_goto hC 226 dX10_carriesOut_222 (by decide) ?_
      refine z_iadd hC dX10_carriesOut_226 ?_
      refine z_put hC 0 8 12 (ws' := zMo (zy E) q (va_up (va_up h 0 (upd (upd (h 0) 1 (nI 0)) 7 (((upd (h 0) 1 (nI 0)) 7) + (nI 1)))) 1 (asF (h 1) u0))) tyX10 .int rfl rfl iX10_carriesOut_X10 tyX10_ok nmX10 (by decide) (List.mem_of_getElem? (i := 3) (by decide +kernel)) rfl rfl (by decide +kernel) rfl rfl (Nat.le_of_ble_eq_true rfl) rfl dX10_carriesOut_227 ?_
      refine z_aload_n hC 1 rfl dX10_carriesOut_230 ?_
      refine z_get hC 0 8 4 (v := .int ((upd (upd (h 0) 1 (nI 0)) 7 (((upd (h 0) 1 (nI 0)) 7) + (nI 1))) 1)) rfl rfl iX10_carriesOut_X10 (by decide) (List.mem_of_getElem? (i := 4) (by decide +kernel)) rfl rfl dX10_carriesOut_231 ?_
      refine z_top (nI 0) rfl ?_
      refine z_if_ne hC 241 dX10_carriesOut_234 (by decide) (fun c_234 => ?_) (fun c_234 => ?_)
      · exact absurd c_234 (by decide +kernel)
      · refine z_iconst hC (nI 1) (by decide +kernel) dX10_carriesOut_237 ?_
        refine z_goto hC 242 dX10_carriesOut_238 (by decide) ?_
        exact z_zret hC hf rfl (by decide +kernel) (by rw [if_pos hT0]) (by unfold cyM; rw [if_pos hT0] <;> rfl) dX10_carriesOut_242
  · have hT3 := asT_3 (h 1) u0
    refine z_cast (lv := [(1, .int (if asT (h 1) u0 = 0 then h 1 0 + nI u0 else nI 0)), (0, .ref (q 0))]) (ws := (zMo (zy E) q (va_up h 0 (upd (h 0) 1 (nI (asT (h 1) u0)))))) (st := []) ?_ rfl (by unfold mxG; rw [if_neg hT0] <;> rfl) rfl
    refine z_aload_n hC 1 rfl dX10_carriesOut_209 ?_
    refine z_dup hC dX10_carriesOut_210 rfl ?_
    refine z_get hC 0 8 12 (v := .int ((upd (h 0) 1 (nI (asT (h 1) u0))) 7)) rfl rfl iX10_carriesOut_X10 (by decide) (List.mem_of_getElem? (i := 3) (by decide +kernel)) rfl rfl dX10_carriesOut_211 ?_
    refine z_aload_n hC 1 rfl dX10_carriesOut_214 ?_
    refine z_get hC 0 8 4 (v := .int ((upd (h 0) 1 (nI (asT (h 1) u0))) 1)) rfl rfl iX10_carriesOut_X10 (by decide) (List.mem_of_getElem? (i := 4) (by decide +kernel)) rfl rfl dX10_carriesOut_215 ?_
    refine z_top (nI (asT (h 1) u0)) rfl ?_
    refine z_if_ne hC 225 dX10_carriesOut_218 (by decide) (fun c_218 => ?_) (fun c_218 => ?_)
    · refine z_iconst hC (nI 0) (by decide +kernel) dX10_carriesOut_225 ?_
      refine z_iadd hC dX10_carriesOut_226 ?_
      refine z_put hC 0 8 12 (ws' := zMo (zy E) q (va_up h 0 (upd (upd (h 0) 1 (nI (asT (h 1) u0))) 7 (((upd (h 0) 1 (nI (asT (h 1) u0))) 7) + (nI 0))))) tyX10 .int rfl rfl iX10_carriesOut_X10 tyX10_ok nmX10 (by decide) (List.mem_of_getElem? (i := 3) (by decide +kernel)) rfl rfl (by decide +kernel) rfl rfl (Nat.le_of_ble_eq_true rfl) rfl dX10_carriesOut_227 ?_
      refine z_aload_n hC 1 rfl dX10_carriesOut_230 ?_
      refine z_get hC 0 8 4 (v := .int ((upd (upd (h 0) 1 (nI (asT (h 1) u0))) 7 (((upd (h 0) 1 (nI (asT (h 1) u0))) 7) + (nI 0))) 1)) rfl rfl iX10_carriesOut_X10 (by decide) (List.mem_of_getElem? (i := 4) (by decide +kernel)) rfl rfl dX10_carriesOut_231 ?_
      refine z_top (nI (asT (h 1) u0)) rfl ?_
      refine z_if_ne hC 241 dX10_carriesOut_234 (by decide) (fun c_234 => ?_) (fun c_234 => ?_)
      · refine z_iconst hC (nI 0) (by decide +kernel) dX10_carriesOut_241 ?_
        exact z_zret hC hf rfl (by decide +kernel) (by rw [if_neg hT0]) (by unfold cyM; rw [if_neg hT0] <;> rfl) dX10_carriesOut_242
      · exact absurd c_234 (nI_ne0 (Nat.pos_of_ne_zero hT0) (by omega))
    · exact absurd c_218 (nI_ne0 (Nat.pos_of_ne_zero hT0) (by omega))

set_option maxHeartbeats 4000000 in
set_option maxRecDepth 100000 in
/-- carriesOut, PRESS -/
theorem c_X10_carriesOut_1 {l : Launch} {y : zY} {D : va_G} (q : Nat → Nat) (h : Nat → Nat → Int32) (u0 u1 u2 u3 : Nat) (htu : toldU h u0 u1 u2 u3) (hM : okM (h 1)) (hT : okTm (h 1)) (hSp : okSp (h 1)) (hw : h 0 8 = nI 1) : zM l y D yX10_carriesOut wsX10_carriesOut 7 160 [.ref (q 0)] (zMo y q h) (zMo y q (cyM h (prT (h 1) u0 u1) (prF (h 1) u0 u1))) (some (.int (if prT (h 1) u0 u1 = 0 then nI 1 else nI 0))) := by
  have hu0 := htu.1.2
  have hu1 := htu.2.1.2
  have hu2 := htu.2.2.1.2
  have hu3 := htu.2.2.2.2
  refine z_start (own := RX10) (cc := cX10_carriesOut) (maxL := 2) (ret := (some .boolean)) rfl (by decide +kernel) rfl (Nat.le_of_ble_eq_true rfl) (zMo_fst _ _ _ _) ?_
  intro E hEl hEy hED hC hf
  subst hEl hEy hED
  have hkR : 0 ≤ E.2.2.2.2.2.1.cells ∧ 0 ≤ E.2.2.2.2.2.1.slots := ⟨Nat.zero_le _, Nat.zero_le _⟩
  refine z_cast (lv := [(0, .ref (q 0))]) (ws := (zMo (zy E) q h)) (st := []) ?_ rfl rfl rfl
  refine z_iconst hC (nI 0) (by decide +kernel) dX10_carriesOut_0 ?_
  refine z_istore_n hC (by decide) (lv' := [(1, .int (nI 0)), (0, .ref (q 0))]) rfl dX10_carriesOut_1 ?_
  refine z_aload_n hC 1 rfl dX10_carriesOut_2 ?_
  refine z_get hC 0 8 13 (v := .int ((h 0) 8)) rfl rfl iX10_carriesOut_X10 (by decide) (List.mem_of_getElem? (i := 1) (by decide +kernel)) rfl rfl dX10_carriesOut_3 ?_
  refine z_top (nI 1) hw ?_
  refine z_tblIn hC (off := 61) 67 dX10_carriesOut_6 (by decide +kernel) (by decide +kernel) (by decide +kernel) (by decide) ?_
  refine z_aload_n hC 1 rfl dX10_carriesOut_67 ?_
  refine z_aload_n hC 1 rfl dX10_carriesOut_68 ?_
  refine z_get hC 0 8 14 (v := .ref (q 6)) rfl rfl iX10_carriesOut_X10 (by decide) (List.mem_of_getElem? (i := 2) (by decide +kernel)) rfl rfl dX10_carriesOut_69 ?_
  refine z_iconst hC (nI 0) (by decide +kernel) dX10_carriesOut_72 ?_
  refine z_iald hC 6 0 (f := h 6) rfl rfl rfl (by omega) (by decide) dX10_carriesOut_73 ?_
  refine z_top (nI u0) htu.1.1 ?_
  refine z_aload_n hC 1 rfl dX10_carriesOut_74 ?_
  refine z_get hC 0 8 14 (v := .ref (q 6)) rfl rfl iX10_carriesOut_X10 (by decide) (List.mem_of_getElem? (i := 2) (by decide +kernel)) rfl rfl dX10_carriesOut_75 ?_
  refine z_iconst hC (nI 1) (by decide +kernel) dX10_carriesOut_78 ?_
  refine z_iald hC 6 1 (f := h 6) rfl rfl rfl (by omega) (by decide) dX10_carriesOut_79 ?_
  refine z_top (nI u1) htu.2.1.1 ?_
  refine z_iconst hC (nI 0) (by decide +kernel) dX10_carriesOut_80 ?_
  refine z_callV hC (As := [.int (nI u0), .int (nI u1), .int (nI 0)]) (st := []) (ws2 := zMo (zy E) q (mxG h (prT (h 1) u0 u1) (va_up (h0t h) 1 (prF (h 1) u0 u1)))) (B := zMo (zy E) q h) (B' := zMo (zy E) q (mxG h (prT (h 1) u0 u1) (va_up (h0t h) 1 (prF (h 1) u0 u1)))) (r := some (.int (if prT (h 1) u0 u1 = 0 then prF (h 1) u0 u1 (1 + u0) else nI 0))) 3 (c_X10_presses_0 q h u0 u1 hu0 hu1) gX10_carriesOut_X10_presses (q0 := 0) (ci := 8) (by decide +kernel) rfl rfl rfl ⟨by decide, by decide⟩ [0, 1, 2, 3, 4, 5, 6] rfl (by decide) rfl (Nat.le_of_ble_eq_true rfl) rfl rfl dX10_carriesOut_81 ?_ hkR
  refine z_istore_n hC (by decide) (lv' := [(1, .int (if prT (h 1) u0 u1 = 0 then prF (h 1) u0 u1 (1 + u0) else nI 0)), (0, .ref (q 0))]) rfl dX10_carriesOut_84 ?_
  refine z_goto hC 209 dX10_carriesOut_85 (by decide) ?_
  by_cases hT0 : prT (h 1) u0 u1 = 0
  · refine z_cast (lv := [(1, .int (if prT (h 1) u0 u1 = 0 then prF (h 1) u0 u1 (1 + u0) else nI 0)), (0, .ref (q 0))]) (ws := (zMo (zy E) q (va_up (va_up h 0 (upd (h 0) 1 (nI 0))) 1 (prF (h 1) u0 u1)))) (st := []) ?_ rfl (by unfold mxG; rw [if_pos hT0] <;> rfl) rfl
    refine z_aload_n hC 1 rfl dX10_carriesOut_209 ?_
    refine z_dup hC dX10_carriesOut_210 rfl ?_
    refine z_get hC 0 8 12 (v := .int ((upd (h 0) 1 (nI 0)) 7)) rfl rfl iX10_carriesOut_X10 (by decide) (List.mem_of_getElem? (i := 3) (by decide +kernel)) rfl rfl dX10_carriesOut_211 ?_
    refine z_aload_n hC 1 rfl dX10_carriesOut_214 ?_
    refine z_get hC 0 8 4 (v := .int (nI 0)) rfl rfl iX10_carriesOut_X10 (by decide) (List.mem_of_getElem? (i := 4) (by decide +kernel)) rfl rfl dX10_carriesOut_215 ?_
    refine z_top (nI 0) rfl ?_
    refine z_if_ne hC 225 dX10_carriesOut_218 (by decide) (fun c_218 => ?_) (fun c_218 => ?_)
    · exact absurd c_218 (by decide +kernel)
    · refine z_iconst hC (nI 1) (by decide +kernel) dX10_carriesOut_221 ?_
      refine z_goto hC 226 dX10_carriesOut_222 (by decide) ?_
      refine z_iadd hC dX10_carriesOut_226 ?_
      refine z_put hC 0 8 12 (ws' := zMo (zy E) q (va_up (va_up h 0 (upd (upd (h 0) 1 (nI 0)) 7 (((upd (h 0) 1 (nI 0)) 7) + (nI 1)))) 1 (prF (h 1) u0 u1))) tyX10 .int rfl rfl iX10_carriesOut_X10 tyX10_ok nmX10 (by decide) (List.mem_of_getElem? (i := 3) (by decide +kernel)) rfl rfl (by decide +kernel) rfl rfl (Nat.le_of_ble_eq_true rfl) rfl dX10_carriesOut_227 ?_
      refine z_aload_n hC 1 rfl dX10_carriesOut_230 ?_
      refine z_get hC 0 8 4 (v := .int ((upd (upd (h 0) 1 (nI 0)) 7 (((upd (h 0) 1 (nI 0)) 7) + (nI 1))) 1)) rfl rfl iX10_carriesOut_X10 (by decide) (List.mem_of_getElem? (i := 4) (by decide +kernel)) rfl rfl dX10_carriesOut_231 ?_
      refine z_top (nI 0) rfl ?_
      refine z_if_ne hC 241 dX10_carriesOut_234 (by decide) (fun c_234 => ?_) (fun c_234 => ?_)
      · exact absurd c_234 (by decide +kernel)
      · refine z_iconst hC (nI 1) (by decide +kernel) dX10_carriesOut_237 ?_
        refine z_goto hC 242 dX10_carriesOut_238 (by decide) ?_
        exact z_zret hC hf rfl (by decide +kernel) (by rw [if_pos hT0]) (by unfold cyM; rw [if_pos hT0] <;> rfl) dX10_carriesOut_242
  · have hT3 := prT_3 (h 1) u0 u1
    refine z_cast (lv := [(1, .int (if prT (h 1) u0 u1 = 0 then prF (h 1) u0 u1 (1 + u0) else nI 0)), (0, .ref (q 0))]) (ws := (zMo (zy E) q (va_up h 0 (upd (h 0) 1 (nI (prT (h 1) u0 u1)))))) (st := []) ?_ rfl (by unfold mxG; rw [if_neg hT0] <;> rfl) rfl
    refine z_aload_n hC 1 rfl dX10_carriesOut_209 ?_
    refine z_dup hC dX10_carriesOut_210 rfl ?_
    refine z_get hC 0 8 12 (v := .int ((upd (h 0) 1 (nI (prT (h 1) u0 u1))) 7)) rfl rfl iX10_carriesOut_X10 (by decide) (List.mem_of_getElem? (i := 3) (by decide +kernel)) rfl rfl dX10_carriesOut_211 ?_
    refine z_aload_n hC 1 rfl dX10_carriesOut_214 ?_
    refine z_get hC 0 8 4 (v := .int ((upd (h 0) 1 (nI (prT (h 1) u0 u1))) 1)) rfl rfl iX10_carriesOut_X10 (by decide) (List.mem_of_getElem? (i := 4) (by decide +kernel)) rfl rfl dX10_carriesOut_215 ?_
    refine z_top (nI (prT (h 1) u0 u1)) rfl ?_
    refine z_if_ne hC 225 dX10_carriesOut_218 (by decide) (fun c_218 => ?_) (fun c_218 => ?_)
    · refine z_iconst hC (nI 0) (by decide +kernel) dX10_carriesOut_225 ?_
      refine z_iadd hC dX10_carriesOut_226 ?_
      refine z_put hC 0 8 12 (ws' := zMo (zy E) q (va_up h 0 (upd (upd (h 0) 1 (nI (prT (h 1) u0 u1))) 7 (((upd (h 0) 1 (nI (prT (h 1) u0 u1))) 7) + (nI 0))))) tyX10 .int rfl rfl iX10_carriesOut_X10 tyX10_ok nmX10 (by decide) (List.mem_of_getElem? (i := 3) (by decide +kernel)) rfl rfl (by decide +kernel) rfl rfl (Nat.le_of_ble_eq_true rfl) rfl dX10_carriesOut_227 ?_
      refine z_aload_n hC 1 rfl dX10_carriesOut_230 ?_
      refine z_get hC 0 8 4 (v := .int ((upd (upd (h 0) 1 (nI (prT (h 1) u0 u1))) 7 (((upd (h 0) 1 (nI (prT (h 1) u0 u1))) 7) + (nI 0))) 1)) rfl rfl iX10_carriesOut_X10 (by decide) (List.mem_of_getElem? (i := 4) (by decide +kernel)) rfl rfl dX10_carriesOut_231 ?_
      refine z_top (nI (prT (h 1) u0 u1)) rfl ?_
      refine z_if_ne hC 241 dX10_carriesOut_234 (by decide) (fun c_234 => ?_) (fun c_234 => ?_)
      · refine z_iconst hC (nI 0) (by decide +kernel) dX10_carriesOut_241 ?_
        exact z_zret hC hf rfl (by decide +kernel) (by rw [if_neg hT0]) (by unfold cyM; rw [if_neg hT0] <;> rfl) dX10_carriesOut_242
      · exact absurd c_234 (nI_ne0 (Nat.pos_of_ne_zero hT0) (by omega))
    · exact absurd c_218 (nI_ne0 (Nat.pos_of_ne_zero hT0) (by omega))

set_option maxHeartbeats 4000000 in
set_option maxRecDepth 100000 in
/-- carriesOut, STACK -/
theorem c_X10_carriesOut_2 {l : Launch} {y : zY} {D : va_G} (q : Nat → Nat) (h : Nat → Nat → Int32) (u0 u1 u2 u3 : Nat) (htu : toldU h u0 u1 u2 u3) (hM : okM (h 1)) (hT : okTm (h 1)) (hSp : okSp (h 1)) (hw : h 0 8 = nI 2) : zM l y D yX10_carriesOut wsX10_carriesOut 7 160 [.ref (q 0)] (zMo y q h) (zMo y q (cyM h (stT (h 1) u0 u1) (stF (h 1) u0 u1))) (some (.int (if stT (h 1) u0 u1 = 0 then nI 1 else nI 0))) := by
  have hu0 := htu.1.2
  have hu1 := htu.2.1.2
  have hu2 := htu.2.2.1.2
  have hu3 := htu.2.2.2.2
  refine z_start (own := RX10) (cc := cX10_carriesOut) (maxL := 2) (ret := (some .boolean)) rfl (by decide +kernel) rfl (Nat.le_of_ble_eq_true rfl) (zMo_fst _ _ _ _) ?_
  intro E hEl hEy hED hC hf
  subst hEl hEy hED
  have hkR : 0 ≤ E.2.2.2.2.2.1.cells ∧ 0 ≤ E.2.2.2.2.2.1.slots := ⟨Nat.zero_le _, Nat.zero_le _⟩
  refine z_cast (lv := [(0, .ref (q 0))]) (ws := (zMo (zy E) q h)) (st := []) ?_ rfl rfl rfl
  refine z_iconst hC (nI 0) (by decide +kernel) dX10_carriesOut_0 ?_
  refine z_istore_n hC (by decide) (lv' := [(1, .int (nI 0)), (0, .ref (q 0))]) rfl dX10_carriesOut_1 ?_
  refine z_aload_n hC 1 rfl dX10_carriesOut_2 ?_
  refine z_get hC 0 8 13 (v := .int ((h 0) 8)) rfl rfl iX10_carriesOut_X10 (by decide) (List.mem_of_getElem? (i := 1) (by decide +kernel)) rfl rfl dX10_carriesOut_3 ?_
  refine z_top (nI 2) hw ?_
  refine z_tblIn hC (off := 82) 88 dX10_carriesOut_6 (by decide +kernel) (by decide +kernel) (by decide +kernel) (by decide) ?_
  refine z_aload_n hC 1 rfl dX10_carriesOut_88 ?_
  refine z_aload_n hC 1 rfl dX10_carriesOut_89 ?_
  refine z_get hC 0 8 14 (v := .ref (q 6)) rfl rfl iX10_carriesOut_X10 (by decide) (List.mem_of_getElem? (i := 2) (by decide +kernel)) rfl rfl dX10_carriesOut_90 ?_
  refine z_iconst hC (nI 0) (by decide +kernel) dX10_carriesOut_93 ?_
  refine z_iald hC 6 0 (f := h 6) rfl rfl rfl (by omega) (by decide) dX10_carriesOut_94 ?_
  refine z_top (nI u0) htu.1.1 ?_
  refine z_aload_n hC 1 rfl dX10_carriesOut_95 ?_
  refine z_get hC 0 8 14 (v := .ref (q 6)) rfl rfl iX10_carriesOut_X10 (by decide) (List.mem_of_getElem? (i := 2) (by decide +kernel)) rfl rfl dX10_carriesOut_96 ?_
  refine z_iconst hC (nI 1) (by decide +kernel) dX10_carriesOut_99 ?_
  refine z_iald hC 6 1 (f := h 6) rfl rfl rfl (by omega) (by decide) dX10_carriesOut_100 ?_
  refine z_top (nI u1) htu.2.1.1 ?_
  refine z_iconst hC (nI 0) (by decide +kernel) dX10_carriesOut_101 ?_
  refine z_callV hC (As := [.int (nI u0), .int (nI u1), .int (nI 0)]) (st := []) (ws2 := zMo (zy E) q (mxG h (stT (h 1) u0 u1) (va_up (h0t h) 1 (stF (h 1) u0 u1)))) (B := zMo (zy E) q h) (B' := zMo (zy E) q (mxG h (stT (h 1) u0 u1) (va_up (h0t h) 1 (stF (h 1) u0 u1)))) (r := some (.int (if stT (h 1) u0 u1 = 0 then nI (zhm (h 1) u0) else nI 0))) 3 (c_X10_stacks_0 q h u0 u1 hu0 hu1 hM) gX10_carriesOut_X10_stacks (q0 := 0) (ci := 8) (by decide +kernel) rfl rfl rfl ⟨by decide, by decide⟩ [0, 1, 2, 3, 4, 5, 6] rfl (by decide) rfl (Nat.le_of_ble_eq_true rfl) rfl rfl dX10_carriesOut_102 ?_ hkR
  refine z_istore_n hC (by decide) (lv' := [(1, .int (if stT (h 1) u0 u1 = 0 then nI (zhm (h 1) u0) else nI 0)), (0, .ref (q 0))]) rfl dX10_carriesOut_105 ?_
  refine z_goto hC 209 dX10_carriesOut_106 (by decide) ?_
  by_cases hT0 : stT (h 1) u0 u1 = 0
  · refine z_cast (lv := [(1, .int (if stT (h 1) u0 u1 = 0 then nI (zhm (h 1) u0) else nI 0)), (0, .ref (q 0))]) (ws := (zMo (zy E) q (va_up (va_up h 0 (upd (h 0) 1 (nI 0))) 1 (stF (h 1) u0 u1)))) (st := []) ?_ rfl (by unfold mxG; rw [if_pos hT0] <;> rfl) rfl
    refine z_aload_n hC 1 rfl dX10_carriesOut_209 ?_
    refine z_dup hC dX10_carriesOut_210 rfl ?_
    refine z_get hC 0 8 12 (v := .int ((upd (h 0) 1 (nI 0)) 7)) rfl rfl iX10_carriesOut_X10 (by decide) (List.mem_of_getElem? (i := 3) (by decide +kernel)) rfl rfl dX10_carriesOut_211 ?_
    refine z_aload_n hC 1 rfl dX10_carriesOut_214 ?_
    refine z_get hC 0 8 4 (v := .int (nI 0)) rfl rfl iX10_carriesOut_X10 (by decide) (List.mem_of_getElem? (i := 4) (by decide +kernel)) rfl rfl dX10_carriesOut_215 ?_
    refine z_top (nI 0) rfl ?_
    refine z_if_ne hC 225 dX10_carriesOut_218 (by decide) (fun c_218 => ?_) (fun c_218 => ?_)
    · exact absurd c_218 (by decide +kernel)
    · refine z_iconst hC (nI 1) (by decide +kernel) dX10_carriesOut_221 ?_
      refine z_goto hC 226 dX10_carriesOut_222 (by decide) ?_
      refine z_iadd hC dX10_carriesOut_226 ?_
      refine z_put hC 0 8 12 (ws' := zMo (zy E) q (va_up (va_up h 0 (upd (upd (h 0) 1 (nI 0)) 7 (((upd (h 0) 1 (nI 0)) 7) + (nI 1)))) 1 (stF (h 1) u0 u1))) tyX10 .int rfl rfl iX10_carriesOut_X10 tyX10_ok nmX10 (by decide) (List.mem_of_getElem? (i := 3) (by decide +kernel)) rfl rfl (by decide +kernel) rfl rfl (Nat.le_of_ble_eq_true rfl) rfl dX10_carriesOut_227 ?_
      refine z_aload_n hC 1 rfl dX10_carriesOut_230 ?_
      refine z_get hC 0 8 4 (v := .int ((upd (upd (h 0) 1 (nI 0)) 7 (((upd (h 0) 1 (nI 0)) 7) + (nI 1))) 1)) rfl rfl iX10_carriesOut_X10 (by decide) (List.mem_of_getElem? (i := 4) (by decide +kernel)) rfl rfl dX10_carriesOut_231 ?_
      refine z_top (nI 0) rfl ?_
      refine z_if_ne hC 241 dX10_carriesOut_234 (by decide) (fun c_234 => ?_) (fun c_234 => ?_)
      · exact absurd c_234 (by decide +kernel)
      · refine z_iconst hC (nI 1) (by decide +kernel) dX10_carriesOut_237 ?_
        refine z_goto hC 242 dX10_carriesOut_238 (by decide) ?_
        exact z_zret hC hf rfl (by decide +kernel) (by rw [if_pos hT0]) (by unfold cyM; rw [if_pos hT0] <;> rfl) dX10_carriesOut_242
  · have hT3 := stT_3 (h 1) u0 u1
    refine z_cast (lv := [(1, .int (if stT (h 1) u0 u1 = 0 then nI (zhm (h 1) u0) else nI 0)), (0, .ref (q 0))]) (ws := (zMo (zy E) q (va_up h 0 (upd (h 0) 1 (nI (stT (h 1) u0 u1)))))) (st := []) ?_ rfl (by unfold mxG; rw [if_neg hT0] <;> rfl) rfl
    refine z_aload_n hC 1 rfl dX10_carriesOut_209 ?_
    refine z_dup hC dX10_carriesOut_210 rfl ?_
    refine z_get hC 0 8 12 (v := .int ((upd (h 0) 1 (nI (stT (h 1) u0 u1))) 7)) rfl rfl iX10_carriesOut_X10 (by decide) (List.mem_of_getElem? (i := 3) (by decide +kernel)) rfl rfl dX10_carriesOut_211 ?_
    refine z_aload_n hC 1 rfl dX10_carriesOut_214 ?_
    refine z_get hC 0 8 4 (v := .int ((upd (h 0) 1 (nI (stT (h 1) u0 u1))) 1)) rfl rfl iX10_carriesOut_X10 (by decide) (List.mem_of_getElem? (i := 4) (by decide +kernel)) rfl rfl dX10_carriesOut_215 ?_
    refine z_top (nI (stT (h 1) u0 u1)) rfl ?_
    refine z_if_ne hC 225 dX10_carriesOut_218 (by decide) (fun c_218 => ?_) (fun c_218 => ?_)
    · refine z_iconst hC (nI 0) (by decide +kernel) dX10_carriesOut_225 ?_
      refine z_iadd hC dX10_carriesOut_226 ?_
      refine z_put hC 0 8 12 (ws' := zMo (zy E) q (va_up h 0 (upd (upd (h 0) 1 (nI (stT (h 1) u0 u1))) 7 (((upd (h 0) 1 (nI (stT (h 1) u0 u1))) 7) + (nI 0))))) tyX10 .int rfl rfl iX10_carriesOut_X10 tyX10_ok nmX10 (by decide) (List.mem_of_getElem? (i := 3) (by decide +kernel)) rfl rfl (by decide +kernel) rfl rfl (Nat.le_of_ble_eq_true rfl) rfl dX10_carriesOut_227 ?_
      refine z_aload_n hC 1 rfl dX10_carriesOut_230 ?_
      refine z_get hC 0 8 4 (v := .int ((upd (upd (h 0) 1 (nI (stT (h 1) u0 u1))) 7 (((upd (h 0) 1 (nI (stT (h 1) u0 u1))) 7) + (nI 0))) 1)) rfl rfl iX10_carriesOut_X10 (by decide) (List.mem_of_getElem? (i := 4) (by decide +kernel)) rfl rfl dX10_carriesOut_231 ?_
      refine z_top (nI (stT (h 1) u0 u1)) rfl ?_
      refine z_if_ne hC 241 dX10_carriesOut_234 (by decide) (fun c_234 => ?_) (fun c_234 => ?_)
      · refine z_iconst hC (nI 0) (by decide +kernel) dX10_carriesOut_241 ?_
        exact z_zret hC hf rfl (by decide +kernel) (by rw [if_neg hT0]) (by unfold cyM; rw [if_neg hT0] <;> rfl) dX10_carriesOut_242
      · exact absurd c_234 (nI_ne0 (Nat.pos_of_ne_zero hT0) (by omega))
    · exact absurd c_218 (nI_ne0 (Nat.pos_of_ne_zero hT0) (by omega))

set_option maxHeartbeats 4000000 in
set_option maxRecDepth 100000 in
/-- carriesOut, TOOL -/
theorem c_X10_carriesOut_3 {l : Launch} {y : zY} {D : va_G} (q : Nat → Nat) (h : Nat → Nat → Int32) (u0 u1 u2 u3 : Nat) (htu : toldU h u0 u1 u2 u3) (hM : okM (h 1)) (hT : okTm (h 1)) (hSp : okSp (h 1)) (hw : h 0 8 = nI 3) : zM l y D yX10_carriesOut wsX10_carriesOut 7 160 [.ref (q 0)] (zMo y q h) (zMo y q (cyM h (atT (h 1) u0) (atF (h 1) u0))) (some (.int (if atT (h 1) u0 = 0 then nI 1 else nI 0))) := by
  have hu0 := htu.1.2
  have hu1 := htu.2.1.2
  have hu2 := htu.2.2.1.2
  have hu3 := htu.2.2.2.2
  refine z_start (own := RX10) (cc := cX10_carriesOut) (maxL := 2) (ret := (some .boolean)) rfl (by decide +kernel) rfl (Nat.le_of_ble_eq_true rfl) (zMo_fst _ _ _ _) ?_
  intro E hEl hEy hED hC hf
  subst hEl hEy hED
  have hkR : 0 ≤ E.2.2.2.2.2.1.cells ∧ 0 ≤ E.2.2.2.2.2.1.slots := ⟨Nat.zero_le _, Nat.zero_le _⟩
  refine z_cast (lv := [(0, .ref (q 0))]) (ws := (zMo (zy E) q h)) (st := []) ?_ rfl rfl rfl
  refine z_iconst hC (nI 0) (by decide +kernel) dX10_carriesOut_0 ?_
  refine z_istore_n hC (by decide) (lv' := [(1, .int (nI 0)), (0, .ref (q 0))]) rfl dX10_carriesOut_1 ?_
  refine z_aload_n hC 1 rfl dX10_carriesOut_2 ?_
  refine z_get hC 0 8 13 (v := .int ((h 0) 8)) rfl rfl iX10_carriesOut_X10 (by decide) (List.mem_of_getElem? (i := 1) (by decide +kernel)) rfl rfl dX10_carriesOut_3 ?_
  refine z_top (nI 3) hw ?_
  refine z_tblIn hC (off := 103) 109 dX10_carriesOut_6 (by decide +kernel) (by decide +kernel) (by decide +kernel) (by decide) ?_
  refine z_aload_n hC 1 rfl dX10_carriesOut_109 ?_
  refine z_aload_n hC 1 rfl dX10_carriesOut_110 ?_
  refine z_get hC 0 8 14 (v := .ref (q 6)) rfl rfl iX10_carriesOut_X10 (by decide) (List.mem_of_getElem? (i := 2) (by decide +kernel)) rfl rfl dX10_carriesOut_111 ?_
  refine z_iconst hC (nI 0) (by decide +kernel) dX10_carriesOut_114 ?_
  refine z_iald hC 6 0 (f := h 6) rfl rfl rfl (by omega) (by decide) dX10_carriesOut_115 ?_
  refine z_top (nI u0) htu.1.1 ?_
  refine z_iconst hC (nI 0) (by decide +kernel) dX10_carriesOut_116 ?_
  refine z_callV hC (As := [.int (nI u0), .int (nI 0)]) (st := []) (ws2 := zMo (zy E) q (mxG h (atT (h 1) u0) (va_up (h0t h) 1 (atF (h 1) u0)))) (B := zMo (zy E) q h) (B' := zMo (zy E) q (mxG h (atT (h 1) u0) (va_up (h0t h) 1 (atF (h 1) u0)))) (r := some (.int (if atT (h 1) u0 = 0 then nI (ztm (h 1)) else nI 0))) 2 (c_X10_addsTool_0 q h u0 hu0 hT) gX10_carriesOut_X10_addsTool (q0 := 0) (ci := 8) (by decide +kernel) rfl rfl rfl ⟨by decide, by decide⟩ [0, 1, 2, 3, 4, 5, 6] rfl (by decide) rfl (Nat.le_of_ble_eq_true rfl) rfl rfl dX10_carriesOut_117 ?_ hkR
  refine z_istore_n hC (by decide) (lv' := [(1, .int (if atT (h 1) u0 = 0 then nI (ztm (h 1)) else nI 0)), (0, .ref (q 0))]) rfl dX10_carriesOut_120 ?_
  refine z_goto hC 209 dX10_carriesOut_121 (by decide) ?_
  by_cases hT0 : atT (h 1) u0 = 0
  · refine z_cast (lv := [(1, .int (if atT (h 1) u0 = 0 then nI (ztm (h 1)) else nI 0)), (0, .ref (q 0))]) (ws := (zMo (zy E) q (va_up (va_up h 0 (upd (h 0) 1 (nI 0))) 1 (atF (h 1) u0)))) (st := []) ?_ rfl (by unfold mxG; rw [if_pos hT0] <;> rfl) rfl
    refine z_aload_n hC 1 rfl dX10_carriesOut_209 ?_
    refine z_dup hC dX10_carriesOut_210 rfl ?_
    refine z_get hC 0 8 12 (v := .int ((upd (h 0) 1 (nI 0)) 7)) rfl rfl iX10_carriesOut_X10 (by decide) (List.mem_of_getElem? (i := 3) (by decide +kernel)) rfl rfl dX10_carriesOut_211 ?_
    refine z_aload_n hC 1 rfl dX10_carriesOut_214 ?_
    refine z_get hC 0 8 4 (v := .int (nI 0)) rfl rfl iX10_carriesOut_X10 (by decide) (List.mem_of_getElem? (i := 4) (by decide +kernel)) rfl rfl dX10_carriesOut_215 ?_
    refine z_top (nI 0) rfl ?_
    refine z_if_ne hC 225 dX10_carriesOut_218 (by decide) (fun c_218 => ?_) (fun c_218 => ?_)
    · exact absurd c_218 (by decide +kernel)
    · refine z_iconst hC (nI 1) (by decide +kernel) dX10_carriesOut_221 ?_
      refine z_goto hC 226 dX10_carriesOut_222 (by decide) ?_
      refine z_iadd hC dX10_carriesOut_226 ?_
      refine z_put hC 0 8 12 (ws' := zMo (zy E) q (va_up (va_up h 0 (upd (upd (h 0) 1 (nI 0)) 7 (((upd (h 0) 1 (nI 0)) 7) + (nI 1)))) 1 (atF (h 1) u0))) tyX10 .int rfl rfl iX10_carriesOut_X10 tyX10_ok nmX10 (by decide) (List.mem_of_getElem? (i := 3) (by decide +kernel)) rfl rfl (by decide +kernel) rfl rfl (Nat.le_of_ble_eq_true rfl) rfl dX10_carriesOut_227 ?_
      refine z_aload_n hC 1 rfl dX10_carriesOut_230 ?_
      refine z_get hC 0 8 4 (v := .int ((upd (upd (h 0) 1 (nI 0)) 7 (((upd (h 0) 1 (nI 0)) 7) + (nI 1))) 1)) rfl rfl iX10_carriesOut_X10 (by decide) (List.mem_of_getElem? (i := 4) (by decide +kernel)) rfl rfl dX10_carriesOut_231 ?_
      refine z_top (nI 0) rfl ?_
      refine z_if_ne hC 241 dX10_carriesOut_234 (by decide) (fun c_234 => ?_) (fun c_234 => ?_)
      · exact absurd c_234 (by decide +kernel)
      · refine z_iconst hC (nI 1) (by decide +kernel) dX10_carriesOut_237 ?_
        refine z_goto hC 242 dX10_carriesOut_238 (by decide) ?_
        exact z_zret hC hf rfl (by decide +kernel) (by rw [if_pos hT0]) (by unfold cyM; rw [if_pos hT0] <;> rfl) dX10_carriesOut_242
  · have hT3 := atT_3 (h 1) u0
    refine z_cast (lv := [(1, .int (if atT (h 1) u0 = 0 then nI (ztm (h 1)) else nI 0)), (0, .ref (q 0))]) (ws := (zMo (zy E) q (va_up h 0 (upd (h 0) 1 (nI (atT (h 1) u0)))))) (st := []) ?_ rfl (by unfold mxG; rw [if_neg hT0] <;> rfl) rfl
    refine z_aload_n hC 1 rfl dX10_carriesOut_209 ?_
    refine z_dup hC dX10_carriesOut_210 rfl ?_
    refine z_get hC 0 8 12 (v := .int ((upd (h 0) 1 (nI (atT (h 1) u0))) 7)) rfl rfl iX10_carriesOut_X10 (by decide) (List.mem_of_getElem? (i := 3) (by decide +kernel)) rfl rfl dX10_carriesOut_211 ?_
    refine z_aload_n hC 1 rfl dX10_carriesOut_214 ?_
    refine z_get hC 0 8 4 (v := .int ((upd (h 0) 1 (nI (atT (h 1) u0))) 1)) rfl rfl iX10_carriesOut_X10 (by decide) (List.mem_of_getElem? (i := 4) (by decide +kernel)) rfl rfl dX10_carriesOut_215 ?_
    refine z_top (nI (atT (h 1) u0)) rfl ?_
    refine z_if_ne hC 225 dX10_carriesOut_218 (by decide) (fun c_218 => ?_) (fun c_218 => ?_)
    · refine z_iconst hC (nI 0) (by decide +kernel) dX10_carriesOut_225 ?_
      refine z_iadd hC dX10_carriesOut_226 ?_
      refine z_put hC 0 8 12 (ws' := zMo (zy E) q (va_up h 0 (upd (upd (h 0) 1 (nI (atT (h 1) u0))) 7 (((upd (h 0) 1 (nI (atT (h 1) u0))) 7) + (nI 0))))) tyX10 .int rfl rfl iX10_carriesOut_X10 tyX10_ok nmX10 (by decide) (List.mem_of_getElem? (i := 3) (by decide +kernel)) rfl rfl (by decide +kernel) rfl rfl (Nat.le_of_ble_eq_true rfl) rfl dX10_carriesOut_227 ?_
      refine z_aload_n hC 1 rfl dX10_carriesOut_230 ?_
      refine z_get hC 0 8 4 (v := .int ((upd (upd (h 0) 1 (nI (atT (h 1) u0))) 7 (((upd (h 0) 1 (nI (atT (h 1) u0))) 7) + (nI 0))) 1)) rfl rfl iX10_carriesOut_X10 (by decide) (List.mem_of_getElem? (i := 4) (by decide +kernel)) rfl rfl dX10_carriesOut_231 ?_
      refine z_top (nI (atT (h 1) u0)) rfl ?_
      refine z_if_ne hC 241 dX10_carriesOut_234 (by decide) (fun c_234 => ?_) (fun c_234 => ?_)
      · refine z_iconst hC (nI 0) (by decide +kernel) dX10_carriesOut_241 ?_
        exact z_zret hC hf rfl (by decide +kernel) (by rw [if_neg hT0]) (by unfold cyM; rw [if_neg hT0] <;> rfl) dX10_carriesOut_242
      · exact absurd c_234 (nI_ne0 (Nat.pos_of_ne_zero hT0) (by omega))
    · exact absurd c_218 (nI_ne0 (Nat.pos_of_ne_zero hT0) (by omega))

set_option maxHeartbeats 4000000 in
set_option maxRecDepth 100000 in
/-- carriesOut, CARVE -/
theorem c_X10_carriesOut_4 {l : Launch} {y : zY} {D : va_G} (q : Nat → Nat) (h : Nat → Nat → Int32) (u0 u1 u2 u3 : Nat) (htu : toldU h u0 u1 u2 u3) (hM : okM (h 1)) (hT : okTm (h 1)) (hSp : okSp (h 1)) (hw : h 0 8 = nI 4) : zM l y D yX10_carriesOut wsX10_carriesOut 7 160 [.ref (q 0)] (zMo y q h) (zMo y q (cyM h (cvT (h 1) u0 u1 u2 u3) (dmF (cvE (h 1) u0 u1 u2 u3) u1))) (some (.int (if cvT (h 1) u0 u1 u2 u3 = 0 then nI 1 else nI 0))) := by
  have hu0 := htu.1.2
  have hu1 := htu.2.1.2
  have hu2 := htu.2.2.1.2
  have hu3 := htu.2.2.2.2
  refine z_start (own := RX10) (cc := cX10_carriesOut) (maxL := 2) (ret := (some .boolean)) rfl (by decide +kernel) rfl (Nat.le_of_ble_eq_true rfl) (zMo_fst _ _ _ _) ?_
  intro E hEl hEy hED hC hf
  subst hEl hEy hED
  have hkR : 0 ≤ E.2.2.2.2.2.1.cells ∧ 0 ≤ E.2.2.2.2.2.1.slots := ⟨Nat.zero_le _, Nat.zero_le _⟩
  refine z_cast (lv := [(0, .ref (q 0))]) (ws := (zMo (zy E) q h)) (st := []) ?_ rfl rfl rfl
  refine z_iconst hC (nI 0) (by decide +kernel) dX10_carriesOut_0 ?_
  refine z_istore_n hC (by decide) (lv' := [(1, .int (nI 0)), (0, .ref (q 0))]) rfl dX10_carriesOut_1 ?_
  refine z_aload_n hC 1 rfl dX10_carriesOut_2 ?_
  refine z_get hC 0 8 13 (v := .int ((h 0) 8)) rfl rfl iX10_carriesOut_X10 (by decide) (List.mem_of_getElem? (i := 1) (by decide +kernel)) rfl rfl dX10_carriesOut_3 ?_
  refine z_top (nI 4) hw ?_
  refine z_tblIn hC (off := 118) 124 dX10_carriesOut_6 (by decide +kernel) (by decide +kernel) (by decide +kernel) (by decide) ?_
  refine z_aload_n hC 1 rfl dX10_carriesOut_124 ?_
  refine z_aload_n hC 1 rfl dX10_carriesOut_125 ?_
  refine z_get hC 0 8 14 (v := .ref (q 6)) rfl rfl iX10_carriesOut_X10 (by decide) (List.mem_of_getElem? (i := 2) (by decide +kernel)) rfl rfl dX10_carriesOut_126 ?_
  refine z_iconst hC (nI 0) (by decide +kernel) dX10_carriesOut_129 ?_
  refine z_iald hC 6 0 (f := h 6) rfl rfl rfl (by omega) (by decide) dX10_carriesOut_130 ?_
  refine z_top (nI u0) htu.1.1 ?_
  refine z_aload_n hC 1 rfl dX10_carriesOut_131 ?_
  refine z_get hC 0 8 14 (v := .ref (q 6)) rfl rfl iX10_carriesOut_X10 (by decide) (List.mem_of_getElem? (i := 2) (by decide +kernel)) rfl rfl dX10_carriesOut_132 ?_
  refine z_iconst hC (nI 1) (by decide +kernel) dX10_carriesOut_135 ?_
  refine z_iald hC 6 1 (f := h 6) rfl rfl rfl (by omega) (by decide) dX10_carriesOut_136 ?_
  refine z_top (nI u1) htu.2.1.1 ?_
  refine z_aload_n hC 1 rfl dX10_carriesOut_137 ?_
  refine z_get hC 0 8 14 (v := .ref (q 6)) rfl rfl iX10_carriesOut_X10 (by decide) (List.mem_of_getElem? (i := 2) (by decide +kernel)) rfl rfl dX10_carriesOut_138 ?_
  refine z_iconst hC (nI 2) (by decide +kernel) dX10_carriesOut_141 ?_
  refine z_iald hC 6 2 (f := h 6) rfl rfl rfl (by omega) (by decide) dX10_carriesOut_142 ?_
  refine z_top (nI u2) htu.2.2.1.1 ?_
  refine z_aload_n hC 1 rfl dX10_carriesOut_143 ?_
  refine z_get hC 0 8 14 (v := .ref (q 6)) rfl rfl iX10_carriesOut_X10 (by decide) (List.mem_of_getElem? (i := 2) (by decide +kernel)) rfl rfl dX10_carriesOut_144 ?_
  refine z_iconst hC (nI 3) (by decide +kernel) dX10_carriesOut_147 ?_
  refine z_iald hC 6 3 (f := h 6) rfl rfl rfl (by omega) (by decide) dX10_carriesOut_148 ?_
  refine z_top (nI u3) htu.2.2.2.1 ?_
  refine z_iconst hC (nI 0) (by decide +kernel) dX10_carriesOut_149 ?_
  refine z_callV hC (As := [.int (nI u0), .int (nI u1), .int (nI u2), .int (nI u3), .int (nI 0)]) (st := []) (ws2 := zMo (zy E) q (mxG h (cvT (h 1) u0 u1 u2 u3) (va_up (h0t h) 1 (dmF (cvE (h 1) u0 u1 u2 u3) u1)))) (B := zMo (zy E) q h) (B' := zMo (zy E) q (mxG h (cvT (h 1) u0 u1 u2 u3) (va_up (h0t h) 1 (dmF (cvE (h 1) u0 u1 u2 u3) u1)))) (r := some (.int (if cvT (h 1) u0 u1 u2 u3 = 0 then cvE (h 1) u0 u1 u2 u3 (92 + 6 * u1 + u2) else nI 0))) 5 (c_X10_carves_0 q h u0 u1 u2 u3 hu0 hu1 hu2 hu3 hM hT hSp) gX10_carriesOut_X10_carves (q0 := 0) (ci := 8) (by decide +kernel) rfl rfl rfl ⟨by decide, by decide⟩ [0, 1, 2, 3, 4, 5, 6] rfl (by decide) rfl (Nat.le_of_ble_eq_true rfl) rfl rfl dX10_carriesOut_150 ?_ hkR
  refine z_istore_n hC (by decide) (lv' := [(1, .int (if cvT (h 1) u0 u1 u2 u3 = 0 then cvE (h 1) u0 u1 u2 u3 (92 + 6 * u1 + u2) else nI 0)), (0, .ref (q 0))]) rfl dX10_carriesOut_153 ?_
  refine z_goto hC 209 dX10_carriesOut_154 (by decide) ?_
  by_cases hT0 : cvT (h 1) u0 u1 u2 u3 = 0
  · refine z_cast (lv := [(1, .int (if cvT (h 1) u0 u1 u2 u3 = 0 then cvE (h 1) u0 u1 u2 u3 (92 + 6 * u1 + u2) else nI 0)), (0, .ref (q 0))]) (ws := (zMo (zy E) q (va_up (va_up h 0 (upd (h 0) 1 (nI 0))) 1 (dmF (cvE (h 1) u0 u1 u2 u3) u1)))) (st := []) ?_ rfl (by unfold mxG; rw [if_pos hT0] <;> rfl) rfl
    refine z_aload_n hC 1 rfl dX10_carriesOut_209 ?_
    refine z_dup hC dX10_carriesOut_210 rfl ?_
    refine z_get hC 0 8 12 (v := .int ((upd (h 0) 1 (nI 0)) 7)) rfl rfl iX10_carriesOut_X10 (by decide) (List.mem_of_getElem? (i := 3) (by decide +kernel)) rfl rfl dX10_carriesOut_211 ?_
    refine z_aload_n hC 1 rfl dX10_carriesOut_214 ?_
    refine z_get hC 0 8 4 (v := .int (nI 0)) rfl rfl iX10_carriesOut_X10 (by decide) (List.mem_of_getElem? (i := 4) (by decide +kernel)) rfl rfl dX10_carriesOut_215 ?_
    refine z_top (nI 0) rfl ?_
    refine z_if_ne hC 225 dX10_carriesOut_218 (by decide) (fun c_218 => ?_) (fun c_218 => ?_)
    · exact absurd c_218 (by decide +kernel)
    · refine z_iconst hC (nI 1) (by decide +kernel) dX10_carriesOut_221 ?_
      refine z_goto hC 226 dX10_carriesOut_222 (by decide) ?_
      refine z_iadd hC dX10_carriesOut_226 ?_
      refine z_put hC 0 8 12 (ws' := zMo (zy E) q (va_up (va_up h 0 (upd (upd (h 0) 1 (nI 0)) 7 (((upd (h 0) 1 (nI 0)) 7) + (nI 1)))) 1 (dmF (cvE (h 1) u0 u1 u2 u3) u1))) tyX10 .int rfl rfl iX10_carriesOut_X10 tyX10_ok nmX10 (by decide) (List.mem_of_getElem? (i := 3) (by decide +kernel)) rfl rfl (by decide +kernel) rfl rfl (Nat.le_of_ble_eq_true rfl) rfl dX10_carriesOut_227 ?_
      refine z_aload_n hC 1 rfl dX10_carriesOut_230 ?_
      refine z_get hC 0 8 4 (v := .int ((upd (upd (h 0) 1 (nI 0)) 7 (((upd (h 0) 1 (nI 0)) 7) + (nI 1))) 1)) rfl rfl iX10_carriesOut_X10 (by decide) (List.mem_of_getElem? (i := 4) (by decide +kernel)) rfl rfl dX10_carriesOut_231 ?_
      refine z_top (nI 0) rfl ?_
      refine z_if_ne hC 241 dX10_carriesOut_234 (by decide) (fun c_234 => ?_) (fun c_234 => ?_)
      · exact absurd c_234 (by decide +kernel)
      · refine z_iconst hC (nI 1) (by decide +kernel) dX10_carriesOut_237 ?_
        refine z_goto hC 242 dX10_carriesOut_238 (by decide) ?_
        exact z_zret hC hf rfl (by decide +kernel) (by rw [if_pos hT0]) (by unfold cyM; rw [if_pos hT0] <;> rfl) dX10_carriesOut_242
  · have hT3 := cvT_3 (h 1) u0 u1 u2 u3
    refine z_cast (lv := [(1, .int (if cvT (h 1) u0 u1 u2 u3 = 0 then cvE (h 1) u0 u1 u2 u3 (92 + 6 * u1 + u2) else nI 0)), (0, .ref (q 0))]) (ws := (zMo (zy E) q (va_up h 0 (upd (h 0) 1 (nI (cvT (h 1) u0 u1 u2 u3)))))) (st := []) ?_ rfl (by unfold mxG; rw [if_neg hT0] <;> rfl) rfl
    refine z_aload_n hC 1 rfl dX10_carriesOut_209 ?_
    refine z_dup hC dX10_carriesOut_210 rfl ?_
    refine z_get hC 0 8 12 (v := .int ((upd (h 0) 1 (nI (cvT (h 1) u0 u1 u2 u3))) 7)) rfl rfl iX10_carriesOut_X10 (by decide) (List.mem_of_getElem? (i := 3) (by decide +kernel)) rfl rfl dX10_carriesOut_211 ?_
    refine z_aload_n hC 1 rfl dX10_carriesOut_214 ?_
    refine z_get hC 0 8 4 (v := .int ((upd (h 0) 1 (nI (cvT (h 1) u0 u1 u2 u3))) 1)) rfl rfl iX10_carriesOut_X10 (by decide) (List.mem_of_getElem? (i := 4) (by decide +kernel)) rfl rfl dX10_carriesOut_215 ?_
    refine z_top (nI (cvT (h 1) u0 u1 u2 u3)) rfl ?_
    refine z_if_ne hC 225 dX10_carriesOut_218 (by decide) (fun c_218 => ?_) (fun c_218 => ?_)
    · refine z_iconst hC (nI 0) (by decide +kernel) dX10_carriesOut_225 ?_
      refine z_iadd hC dX10_carriesOut_226 ?_
      refine z_put hC 0 8 12 (ws' := zMo (zy E) q (va_up h 0 (upd (upd (h 0) 1 (nI (cvT (h 1) u0 u1 u2 u3))) 7 (((upd (h 0) 1 (nI (cvT (h 1) u0 u1 u2 u3))) 7) + (nI 0))))) tyX10 .int rfl rfl iX10_carriesOut_X10 tyX10_ok nmX10 (by decide) (List.mem_of_getElem? (i := 3) (by decide +kernel)) rfl rfl (by decide +kernel) rfl rfl (Nat.le_of_ble_eq_true rfl) rfl dX10_carriesOut_227 ?_
      refine z_aload_n hC 1 rfl dX10_carriesOut_230 ?_
      refine z_get hC 0 8 4 (v := .int ((upd (upd (h 0) 1 (nI (cvT (h 1) u0 u1 u2 u3))) 7 (((upd (h 0) 1 (nI (cvT (h 1) u0 u1 u2 u3))) 7) + (nI 0))) 1)) rfl rfl iX10_carriesOut_X10 (by decide) (List.mem_of_getElem? (i := 4) (by decide +kernel)) rfl rfl dX10_carriesOut_231 ?_
      refine z_top (nI (cvT (h 1) u0 u1 u2 u3)) rfl ?_
      refine z_if_ne hC 241 dX10_carriesOut_234 (by decide) (fun c_234 => ?_) (fun c_234 => ?_)
      · refine z_iconst hC (nI 0) (by decide +kernel) dX10_carriesOut_241 ?_
        exact z_zret hC hf rfl (by decide +kernel) (by rw [if_neg hT0]) (by unfold cyM; rw [if_neg hT0] <;> rfl) dX10_carriesOut_242
      · exact absurd c_234 (nI_ne0 (Nat.pos_of_ne_zero hT0) (by omega))
    · exact absurd c_218 (nI_ne0 (Nat.pos_of_ne_zero hT0) (by omega))

set_option maxHeartbeats 4000000 in
set_option maxRecDepth 100000 in
/-- carriesOut, WALL -/
theorem c_X10_carriesOut_5 {l : Launch} {y : zY} {D : va_G} (q : Nat → Nat) (h : Nat → Nat → Int32) (u0 u1 u2 u3 : Nat) (htu : toldU h u0 u1 u2 u3) (hM : okM (h 1)) (hT : okTm (h 1)) (hSp : okSp (h 1)) (hw : h 0 8 = nI 5) : zM l y D yX10_carriesOut wsX10_carriesOut 7 160 [.ref (q 0)] (zMo y q h) (zMo y q (cyM h (swT u0) (swF (h 1) u0 1))) (some (.int (if swT u0 = 0 then nI 1 else nI 0))) := by
  have hu0 := htu.1.2
  have hu1 := htu.2.1.2
  have hu2 := htu.2.2.1.2
  have hu3 := htu.2.2.2.2
  refine z_start (own := RX10) (cc := cX10_carriesOut) (maxL := 2) (ret := (some .boolean)) rfl (by decide +kernel) rfl (Nat.le_of_ble_eq_true rfl) (zMo_fst _ _ _ _) ?_
  intro E hEl hEy hED hC hf
  subst hEl hEy hED
  have hkR : 0 ≤ E.2.2.2.2.2.1.cells ∧ 0 ≤ E.2.2.2.2.2.1.slots := ⟨Nat.zero_le _, Nat.zero_le _⟩
  refine z_cast (lv := [(0, .ref (q 0))]) (ws := (zMo (zy E) q h)) (st := []) ?_ rfl rfl rfl
  refine z_iconst hC (nI 0) (by decide +kernel) dX10_carriesOut_0 ?_
  refine z_istore_n hC (by decide) (lv' := [(1, .int (nI 0)), (0, .ref (q 0))]) rfl dX10_carriesOut_1 ?_
  refine z_aload_n hC 1 rfl dX10_carriesOut_2 ?_
  refine z_get hC 0 8 13 (v := .int ((h 0) 8)) rfl rfl iX10_carriesOut_X10 (by decide) (List.mem_of_getElem? (i := 1) (by decide +kernel)) rfl rfl dX10_carriesOut_3 ?_
  refine z_top (nI 5) hw ?_
  refine z_tblIn hC (off := 151) 157 dX10_carriesOut_6 (by decide +kernel) (by decide +kernel) (by decide +kernel) (by decide) ?_
  refine z_aload_n hC 1 rfl dX10_carriesOut_157 ?_
  refine z_aload_n hC 1 rfl dX10_carriesOut_158 ?_
  refine z_get hC 0 8 14 (v := .ref (q 6)) rfl rfl iX10_carriesOut_X10 (by decide) (List.mem_of_getElem? (i := 2) (by decide +kernel)) rfl rfl dX10_carriesOut_159 ?_
  refine z_iconst hC (nI 0) (by decide +kernel) dX10_carriesOut_162 ?_
  refine z_iald hC 6 0 (f := h 6) rfl rfl rfl (by omega) (by decide) dX10_carriesOut_163 ?_
  refine z_top (nI u0) htu.1.1 ?_
  refine z_iconst hC (nI 1) (by decide +kernel) dX10_carriesOut_164 ?_
  refine z_iconst hC (nI 0) (by decide +kernel) dX10_carriesOut_165 ?_
  refine z_callV hC (As := [.int (nI u0), .int (nI 1), .int (nI 0)]) (st := []) (ws2 := zMo (zy E) q (mxG h (swT u0) (va_up (h0t h) 1 (swF (h 1) u0 1)))) (B := zMo (zy E) q h) (B' := zMo (zy E) q (mxG h (swT u0) (va_up (h0t h) 1 (swF (h 1) u0 1)))) (r := some (.int (if swT u0 = 0 then wlS (swF (h 1) u0 1) 8 else nI 0))) 3 (c_X10_setsWall_10 q h u0 hu0) gX10_carriesOut_X10_setsWall (q0 := 0) (ci := 8) (by decide +kernel) rfl rfl rfl ⟨by decide, by decide⟩ [0, 1, 2, 3, 4, 5, 6] rfl (by decide) rfl (Nat.le_of_ble_eq_true rfl) rfl rfl dX10_carriesOut_166 ?_ hkR
  refine z_istore_n hC (by decide) (lv' := [(1, .int (if swT u0 = 0 then wlS (swF (h 1) u0 1) 8 else nI 0)), (0, .ref (q 0))]) rfl dX10_carriesOut_169 ?_
  refine z_goto hC 209 dX10_carriesOut_170 (by decide) ?_
  by_cases hT0 : swT u0 = 0
  · refine z_cast (lv := [(1, .int (if swT u0 = 0 then wlS (swF (h 1) u0 1) 8 else nI 0)), (0, .ref (q 0))]) (ws := (zMo (zy E) q (va_up (va_up h 0 (upd (h 0) 1 (nI 0))) 1 (swF (h 1) u0 1)))) (st := []) ?_ rfl (by unfold mxG; rw [if_pos hT0] <;> rfl) rfl
    refine z_aload_n hC 1 rfl dX10_carriesOut_209 ?_
    refine z_dup hC dX10_carriesOut_210 rfl ?_
    refine z_get hC 0 8 12 (v := .int ((upd (h 0) 1 (nI 0)) 7)) rfl rfl iX10_carriesOut_X10 (by decide) (List.mem_of_getElem? (i := 3) (by decide +kernel)) rfl rfl dX10_carriesOut_211 ?_
    refine z_aload_n hC 1 rfl dX10_carriesOut_214 ?_
    refine z_get hC 0 8 4 (v := .int (nI 0)) rfl rfl iX10_carriesOut_X10 (by decide) (List.mem_of_getElem? (i := 4) (by decide +kernel)) rfl rfl dX10_carriesOut_215 ?_
    refine z_top (nI 0) rfl ?_
    refine z_if_ne hC 225 dX10_carriesOut_218 (by decide) (fun c_218 => ?_) (fun c_218 => ?_)
    · exact absurd c_218 (by decide +kernel)
    · refine z_iconst hC (nI 1) (by decide +kernel) dX10_carriesOut_221 ?_
      refine z_goto hC 226 dX10_carriesOut_222 (by decide) ?_
      refine z_iadd hC dX10_carriesOut_226 ?_
      refine z_put hC 0 8 12 (ws' := zMo (zy E) q (va_up (va_up h 0 (upd (upd (h 0) 1 (nI 0)) 7 (((upd (h 0) 1 (nI 0)) 7) + (nI 1)))) 1 (swF (h 1) u0 1))) tyX10 .int rfl rfl iX10_carriesOut_X10 tyX10_ok nmX10 (by decide) (List.mem_of_getElem? (i := 3) (by decide +kernel)) rfl rfl (by decide +kernel) rfl rfl (Nat.le_of_ble_eq_true rfl) rfl dX10_carriesOut_227 ?_
      refine z_aload_n hC 1 rfl dX10_carriesOut_230 ?_
      refine z_get hC 0 8 4 (v := .int ((upd (upd (h 0) 1 (nI 0)) 7 (((upd (h 0) 1 (nI 0)) 7) + (nI 1))) 1)) rfl rfl iX10_carriesOut_X10 (by decide) (List.mem_of_getElem? (i := 4) (by decide +kernel)) rfl rfl dX10_carriesOut_231 ?_
      refine z_top (nI 0) rfl ?_
      refine z_if_ne hC 241 dX10_carriesOut_234 (by decide) (fun c_234 => ?_) (fun c_234 => ?_)
      · exact absurd c_234 (by decide +kernel)
      · refine z_iconst hC (nI 1) (by decide +kernel) dX10_carriesOut_237 ?_
        refine z_goto hC 242 dX10_carriesOut_238 (by decide) ?_
        exact z_zret hC hf rfl (by decide +kernel) (by rw [if_pos hT0]) (by unfold cyM; rw [if_pos hT0] <;> rfl) dX10_carriesOut_242
  · have hT3 := swT_3 u0
    refine z_cast (lv := [(1, .int (if swT u0 = 0 then wlS (swF (h 1) u0 1) 8 else nI 0)), (0, .ref (q 0))]) (ws := (zMo (zy E) q (va_up h 0 (upd (h 0) 1 (nI (swT u0)))))) (st := []) ?_ rfl (by unfold mxG; rw [if_neg hT0] <;> rfl) rfl
    refine z_aload_n hC 1 rfl dX10_carriesOut_209 ?_
    refine z_dup hC dX10_carriesOut_210 rfl ?_
    refine z_get hC 0 8 12 (v := .int ((upd (h 0) 1 (nI (swT u0))) 7)) rfl rfl iX10_carriesOut_X10 (by decide) (List.mem_of_getElem? (i := 3) (by decide +kernel)) rfl rfl dX10_carriesOut_211 ?_
    refine z_aload_n hC 1 rfl dX10_carriesOut_214 ?_
    refine z_get hC 0 8 4 (v := .int ((upd (h 0) 1 (nI (swT u0))) 1)) rfl rfl iX10_carriesOut_X10 (by decide) (List.mem_of_getElem? (i := 4) (by decide +kernel)) rfl rfl dX10_carriesOut_215 ?_
    refine z_top (nI (swT u0)) rfl ?_
    refine z_if_ne hC 225 dX10_carriesOut_218 (by decide) (fun c_218 => ?_) (fun c_218 => ?_)
    · refine z_iconst hC (nI 0) (by decide +kernel) dX10_carriesOut_225 ?_
      refine z_iadd hC dX10_carriesOut_226 ?_
      refine z_put hC 0 8 12 (ws' := zMo (zy E) q (va_up h 0 (upd (upd (h 0) 1 (nI (swT u0))) 7 (((upd (h 0) 1 (nI (swT u0))) 7) + (nI 0))))) tyX10 .int rfl rfl iX10_carriesOut_X10 tyX10_ok nmX10 (by decide) (List.mem_of_getElem? (i := 3) (by decide +kernel)) rfl rfl (by decide +kernel) rfl rfl (Nat.le_of_ble_eq_true rfl) rfl dX10_carriesOut_227 ?_
      refine z_aload_n hC 1 rfl dX10_carriesOut_230 ?_
      refine z_get hC 0 8 4 (v := .int ((upd (upd (h 0) 1 (nI (swT u0))) 7 (((upd (h 0) 1 (nI (swT u0))) 7) + (nI 0))) 1)) rfl rfl iX10_carriesOut_X10 (by decide) (List.mem_of_getElem? (i := 4) (by decide +kernel)) rfl rfl dX10_carriesOut_231 ?_
      refine z_top (nI (swT u0)) rfl ?_
      refine z_if_ne hC 241 dX10_carriesOut_234 (by decide) (fun c_234 => ?_) (fun c_234 => ?_)
      · refine z_iconst hC (nI 0) (by decide +kernel) dX10_carriesOut_241 ?_
        exact z_zret hC hf rfl (by decide +kernel) (by rw [if_neg hT0]) (by unfold cyM; rw [if_neg hT0] <;> rfl) dX10_carriesOut_242
      · exact absurd c_234 (nI_ne0 (Nat.pos_of_ne_zero hT0) (by omega))
    · exact absurd c_218 (nI_ne0 (Nat.pos_of_ne_zero hT0) (by omega))

set_option maxHeartbeats 4000000 in
set_option maxRecDepth 100000 in
/-- carriesOut, SUN -/
theorem c_X10_carriesOut_6 {l : Launch} {y : zY} {D : va_G} (q : Nat → Nat) (h : Nat → Nat → Int32) (u0 u1 u2 u3 : Nat) (htu : toldU h u0 u1 u2 u3) (hM : okM (h 1)) (hT : okTm (h 1)) (hSp : okSp (h 1)) (hw : h 0 8 = nI 6) : zM l y D yX10_carriesOut wsX10_carriesOut 7 160 [.ref (q 0)] (zMo y q h) (zMo y q (cyM h (gbT u0) (pn0 (h 1) u0))) (some (.int (if gbT u0 = 0 then nI 1 else nI 0))) := by
  have hu0 := htu.1.2
  have hu1 := htu.2.1.2
  have hu2 := htu.2.2.1.2
  have hu3 := htu.2.2.2.2
  refine z_start (own := RX10) (cc := cX10_carriesOut) (maxL := 2) (ret := (some .boolean)) rfl (by decide +kernel) rfl (Nat.le_of_ble_eq_true rfl) (zMo_fst _ _ _ _) ?_
  intro E hEl hEy hED hC hf
  subst hEl hEy hED
  have hkR : 0 ≤ E.2.2.2.2.2.1.cells ∧ 0 ≤ E.2.2.2.2.2.1.slots := ⟨Nat.zero_le _, Nat.zero_le _⟩
  refine z_cast (lv := [(0, .ref (q 0))]) (ws := (zMo (zy E) q h)) (st := []) ?_ rfl rfl rfl
  refine z_iconst hC (nI 0) (by decide +kernel) dX10_carriesOut_0 ?_
  refine z_istore_n hC (by decide) (lv' := [(1, .int (nI 0)), (0, .ref (q 0))]) rfl dX10_carriesOut_1 ?_
  refine z_aload_n hC 1 rfl dX10_carriesOut_2 ?_
  refine z_get hC 0 8 13 (v := .int ((h 0) 8)) rfl rfl iX10_carriesOut_X10 (by decide) (List.mem_of_getElem? (i := 1) (by decide +kernel)) rfl rfl dX10_carriesOut_3 ?_
  refine z_top (nI 6) hw ?_
  refine z_tblIn hC (off := 167) 173 dX10_carriesOut_6 (by decide +kernel) (by decide +kernel) (by decide +kernel) (by decide) ?_
  refine z_aload_n hC 1 rfl dX10_carriesOut_173 ?_
  refine z_aload_n hC 1 rfl dX10_carriesOut_174 ?_
  refine z_get hC 0 8 14 (v := .ref (q 6)) rfl rfl iX10_carriesOut_X10 (by decide) (List.mem_of_getElem? (i := 2) (by decide +kernel)) rfl rfl dX10_carriesOut_175 ?_
  refine z_iconst hC (nI 0) (by decide +kernel) dX10_carriesOut_178 ?_
  refine z_iald hC 6 0 (f := h 6) rfl rfl rfl (by omega) (by decide) dX10_carriesOut_179 ?_
  refine z_top (nI u0) htu.1.1 ?_
  refine z_iconst hC (nI 0) (by decide +kernel) dX10_carriesOut_180 ?_
  refine z_callV hC (As := [.int (nI u0), .int (nI 0)]) (st := []) (ws2 := zMo (zy E) q (mxG h (gbT u0) (va_up (h0t h) 1 (pn0 (h 1) u0)))) (B := zMo (zy E) q h) (B' := zMo (zy E) q (mxG h (gbT u0) (va_up (h0t h) 1 (pn0 (h 1) u0)))) (r := some (.int (if gbT u0 = 0 then pnS (h 1) u0 else nI 0))) 2 (c_X10_goesBy_0 q h u0 hu0 hM hT) gX10_carriesOut_X10_goesBy (q0 := 0) (ci := 8) (by decide +kernel) rfl rfl rfl ⟨by decide, by decide⟩ [0, 1, 2, 3, 4, 5, 6] rfl (by decide) rfl (Nat.le_of_ble_eq_true rfl) rfl rfl dX10_carriesOut_181 ?_ hkR
  refine z_istore_n hC (by decide) (lv' := [(1, .int (if gbT u0 = 0 then pnS (h 1) u0 else nI 0)), (0, .ref (q 0))]) rfl dX10_carriesOut_184 ?_
  refine z_goto hC 209 dX10_carriesOut_185 (by decide) ?_
  by_cases hT0 : gbT u0 = 0
  · refine z_cast (lv := [(1, .int (if gbT u0 = 0 then pnS (h 1) u0 else nI 0)), (0, .ref (q 0))]) (ws := (zMo (zy E) q (va_up (va_up h 0 (upd (h 0) 1 (nI 0))) 1 (pn0 (h 1) u0)))) (st := []) ?_ rfl (by unfold mxG; rw [if_pos hT0] <;> rfl) rfl
    refine z_aload_n hC 1 rfl dX10_carriesOut_209 ?_
    refine z_dup hC dX10_carriesOut_210 rfl ?_
    refine z_get hC 0 8 12 (v := .int ((upd (h 0) 1 (nI 0)) 7)) rfl rfl iX10_carriesOut_X10 (by decide) (List.mem_of_getElem? (i := 3) (by decide +kernel)) rfl rfl dX10_carriesOut_211 ?_
    refine z_aload_n hC 1 rfl dX10_carriesOut_214 ?_
    refine z_get hC 0 8 4 (v := .int (nI 0)) rfl rfl iX10_carriesOut_X10 (by decide) (List.mem_of_getElem? (i := 4) (by decide +kernel)) rfl rfl dX10_carriesOut_215 ?_
    refine z_top (nI 0) rfl ?_
    refine z_if_ne hC 225 dX10_carriesOut_218 (by decide) (fun c_218 => ?_) (fun c_218 => ?_)
    · exact absurd c_218 (by decide +kernel)
    · refine z_iconst hC (nI 1) (by decide +kernel) dX10_carriesOut_221 ?_
      refine z_goto hC 226 dX10_carriesOut_222 (by decide) ?_
      refine z_iadd hC dX10_carriesOut_226 ?_
      refine z_put hC 0 8 12 (ws' := zMo (zy E) q (va_up (va_up h 0 (upd (upd (h 0) 1 (nI 0)) 7 (((upd (h 0) 1 (nI 0)) 7) + (nI 1)))) 1 (pn0 (h 1) u0))) tyX10 .int rfl rfl iX10_carriesOut_X10 tyX10_ok nmX10 (by decide) (List.mem_of_getElem? (i := 3) (by decide +kernel)) rfl rfl (by decide +kernel) rfl rfl (Nat.le_of_ble_eq_true rfl) rfl dX10_carriesOut_227 ?_
      refine z_aload_n hC 1 rfl dX10_carriesOut_230 ?_
      refine z_get hC 0 8 4 (v := .int ((upd (upd (h 0) 1 (nI 0)) 7 (((upd (h 0) 1 (nI 0)) 7) + (nI 1))) 1)) rfl rfl iX10_carriesOut_X10 (by decide) (List.mem_of_getElem? (i := 4) (by decide +kernel)) rfl rfl dX10_carriesOut_231 ?_
      refine z_top (nI 0) rfl ?_
      refine z_if_ne hC 241 dX10_carriesOut_234 (by decide) (fun c_234 => ?_) (fun c_234 => ?_)
      · exact absurd c_234 (by decide +kernel)
      · refine z_iconst hC (nI 1) (by decide +kernel) dX10_carriesOut_237 ?_
        refine z_goto hC 242 dX10_carriesOut_238 (by decide) ?_
        exact z_zret hC hf rfl (by decide +kernel) (by rw [if_pos hT0]) (by unfold cyM; rw [if_pos hT0] <;> rfl) dX10_carriesOut_242
  · have hT3 := gbT_3 u0
    refine z_cast (lv := [(1, .int (if gbT u0 = 0 then pnS (h 1) u0 else nI 0)), (0, .ref (q 0))]) (ws := (zMo (zy E) q (va_up h 0 (upd (h 0) 1 (nI (gbT u0)))))) (st := []) ?_ rfl (by unfold mxG; rw [if_neg hT0] <;> rfl) rfl
    refine z_aload_n hC 1 rfl dX10_carriesOut_209 ?_
    refine z_dup hC dX10_carriesOut_210 rfl ?_
    refine z_get hC 0 8 12 (v := .int ((upd (h 0) 1 (nI (gbT u0))) 7)) rfl rfl iX10_carriesOut_X10 (by decide) (List.mem_of_getElem? (i := 3) (by decide +kernel)) rfl rfl dX10_carriesOut_211 ?_
    refine z_aload_n hC 1 rfl dX10_carriesOut_214 ?_
    refine z_get hC 0 8 4 (v := .int ((upd (h 0) 1 (nI (gbT u0))) 1)) rfl rfl iX10_carriesOut_X10 (by decide) (List.mem_of_getElem? (i := 4) (by decide +kernel)) rfl rfl dX10_carriesOut_215 ?_
    refine z_top (nI (gbT u0)) rfl ?_
    refine z_if_ne hC 225 dX10_carriesOut_218 (by decide) (fun c_218 => ?_) (fun c_218 => ?_)
    · refine z_iconst hC (nI 0) (by decide +kernel) dX10_carriesOut_225 ?_
      refine z_iadd hC dX10_carriesOut_226 ?_
      refine z_put hC 0 8 12 (ws' := zMo (zy E) q (va_up h 0 (upd (upd (h 0) 1 (nI (gbT u0))) 7 (((upd (h 0) 1 (nI (gbT u0))) 7) + (nI 0))))) tyX10 .int rfl rfl iX10_carriesOut_X10 tyX10_ok nmX10 (by decide) (List.mem_of_getElem? (i := 3) (by decide +kernel)) rfl rfl (by decide +kernel) rfl rfl (Nat.le_of_ble_eq_true rfl) rfl dX10_carriesOut_227 ?_
      refine z_aload_n hC 1 rfl dX10_carriesOut_230 ?_
      refine z_get hC 0 8 4 (v := .int ((upd (upd (h 0) 1 (nI (gbT u0))) 7 (((upd (h 0) 1 (nI (gbT u0))) 7) + (nI 0))) 1)) rfl rfl iX10_carriesOut_X10 (by decide) (List.mem_of_getElem? (i := 4) (by decide +kernel)) rfl rfl dX10_carriesOut_231 ?_
      refine z_top (nI (gbT u0)) rfl ?_
      refine z_if_ne hC 241 dX10_carriesOut_234 (by decide) (fun c_234 => ?_) (fun c_234 => ?_)
      · refine z_iconst hC (nI 0) (by decide +kernel) dX10_carriesOut_241 ?_
        exact z_zret hC hf rfl (by decide +kernel) (by rw [if_neg hT0]) (by unfold cyM; rw [if_neg hT0] <;> rfl) dX10_carriesOut_242
      · exact absurd c_234 (nI_ne0 (Nat.pos_of_ne_zero hT0) (by omega))
    · exact absurd c_218 (nI_ne0 (Nat.pos_of_ne_zero hT0) (by omega))

set_option maxHeartbeats 4000000 in
set_option maxRecDepth 100000 in
/-- carriesOut, CLOUD -/
theorem c_X10_carriesOut_7 {l : Launch} {y : zY} {D : va_G} (q : Nat → Nat) (h : Nat → Nat → Int32) (u0 u1 u2 u3 : Nat) (htu : toldU h u0 u1 u2 u3) (hM : okM (h 1)) (hT : okTm (h 1)) (hSp : okSp (h 1)) (hw : h 0 8 = nI 7) : zM l y D yX10_carriesOut wsX10_carriesOut 7 160 [.ref (q 0)] (zMo y q h) (zMo y q (cyM h (gbT u0) (pn1 (h 1) u0))) (some (.int (if gbT u0 = 0 then nI 1 else nI 0))) := by
  have hu0 := htu.1.2
  have hu1 := htu.2.1.2
  have hu2 := htu.2.2.1.2
  have hu3 := htu.2.2.2.2
  refine z_start (own := RX10) (cc := cX10_carriesOut) (maxL := 2) (ret := (some .boolean)) rfl (by decide +kernel) rfl (Nat.le_of_ble_eq_true rfl) (zMo_fst _ _ _ _) ?_
  intro E hEl hEy hED hC hf
  subst hEl hEy hED
  have hkR : 0 ≤ E.2.2.2.2.2.1.cells ∧ 0 ≤ E.2.2.2.2.2.1.slots := ⟨Nat.zero_le _, Nat.zero_le _⟩
  refine z_cast (lv := [(0, .ref (q 0))]) (ws := (zMo (zy E) q h)) (st := []) ?_ rfl rfl rfl
  refine z_iconst hC (nI 0) (by decide +kernel) dX10_carriesOut_0 ?_
  refine z_istore_n hC (by decide) (lv' := [(1, .int (nI 0)), (0, .ref (q 0))]) rfl dX10_carriesOut_1 ?_
  refine z_aload_n hC 1 rfl dX10_carriesOut_2 ?_
  refine z_get hC 0 8 13 (v := .int ((h 0) 8)) rfl rfl iX10_carriesOut_X10 (by decide) (List.mem_of_getElem? (i := 1) (by decide +kernel)) rfl rfl dX10_carriesOut_3 ?_
  refine z_top (nI 7) hw ?_
  refine z_tblIn hC (off := 182) 188 dX10_carriesOut_6 (by decide +kernel) (by decide +kernel) (by decide +kernel) (by decide) ?_
  refine z_aload_n hC 1 rfl dX10_carriesOut_188 ?_
  refine z_aload_n hC 1 rfl dX10_carriesOut_189 ?_
  refine z_get hC 0 8 14 (v := .ref (q 6)) rfl rfl iX10_carriesOut_X10 (by decide) (List.mem_of_getElem? (i := 2) (by decide +kernel)) rfl rfl dX10_carriesOut_190 ?_
  refine z_iconst hC (nI 0) (by decide +kernel) dX10_carriesOut_193 ?_
  refine z_iald hC 6 0 (f := h 6) rfl rfl rfl (by omega) (by decide) dX10_carriesOut_194 ?_
  refine z_top (nI u0) htu.1.1 ?_
  refine z_iconst hC (nI 1) (by decide +kernel) dX10_carriesOut_195 ?_
  refine z_callV hC (As := [.int (nI u0), .int (nI 1)]) (st := []) (ws2 := zMo (zy E) q (mxG h (gbT u0) (va_up (h0t h) 1 (pn1 (h 1) u0)))) (B := zMo (zy E) q h) (B' := zMo (zy E) q (mxG h (gbT u0) (va_up (h0t h) 1 (pn1 (h 1) u0)))) (r := some (.int (if gbT u0 = 0 then pnZ u0 else nI 0))) 2 (c_X10_goesBy_1 q h u0 hu0 hM hT) gX10_carriesOut_X10_goesBy (q0 := 0) (ci := 8) (by decide +kernel) rfl rfl rfl ⟨by decide, by decide⟩ [0, 1, 2, 3, 4, 5, 6] rfl (by decide) rfl (Nat.le_of_ble_eq_true rfl) rfl rfl dX10_carriesOut_196 ?_ hkR
  refine z_istore_n hC (by decide) (lv' := [(1, .int (if gbT u0 = 0 then pnZ u0 else nI 0)), (0, .ref (q 0))]) rfl dX10_carriesOut_199 ?_
  refine z_goto hC 209 dX10_carriesOut_200 (by decide) ?_
  by_cases hT0 : gbT u0 = 0
  · refine z_cast (lv := [(1, .int (if gbT u0 = 0 then pnZ u0 else nI 0)), (0, .ref (q 0))]) (ws := (zMo (zy E) q (va_up (va_up h 0 (upd (h 0) 1 (nI 0))) 1 (pn1 (h 1) u0)))) (st := []) ?_ rfl (by unfold mxG; rw [if_pos hT0] <;> rfl) rfl
    refine z_aload_n hC 1 rfl dX10_carriesOut_209 ?_
    refine z_dup hC dX10_carriesOut_210 rfl ?_
    refine z_get hC 0 8 12 (v := .int ((upd (h 0) 1 (nI 0)) 7)) rfl rfl iX10_carriesOut_X10 (by decide) (List.mem_of_getElem? (i := 3) (by decide +kernel)) rfl rfl dX10_carriesOut_211 ?_
    refine z_aload_n hC 1 rfl dX10_carriesOut_214 ?_
    refine z_get hC 0 8 4 (v := .int (nI 0)) rfl rfl iX10_carriesOut_X10 (by decide) (List.mem_of_getElem? (i := 4) (by decide +kernel)) rfl rfl dX10_carriesOut_215 ?_
    refine z_top (nI 0) rfl ?_
    refine z_if_ne hC 225 dX10_carriesOut_218 (by decide) (fun c_218 => ?_) (fun c_218 => ?_)
    · exact absurd c_218 (by decide +kernel)
    · refine z_iconst hC (nI 1) (by decide +kernel) dX10_carriesOut_221 ?_
      refine z_goto hC 226 dX10_carriesOut_222 (by decide) ?_
      refine z_iadd hC dX10_carriesOut_226 ?_
      refine z_put hC 0 8 12 (ws' := zMo (zy E) q (va_up (va_up h 0 (upd (upd (h 0) 1 (nI 0)) 7 (((upd (h 0) 1 (nI 0)) 7) + (nI 1)))) 1 (pn1 (h 1) u0))) tyX10 .int rfl rfl iX10_carriesOut_X10 tyX10_ok nmX10 (by decide) (List.mem_of_getElem? (i := 3) (by decide +kernel)) rfl rfl (by decide +kernel) rfl rfl (Nat.le_of_ble_eq_true rfl) rfl dX10_carriesOut_227 ?_
      refine z_aload_n hC 1 rfl dX10_carriesOut_230 ?_
      refine z_get hC 0 8 4 (v := .int ((upd (upd (h 0) 1 (nI 0)) 7 (((upd (h 0) 1 (nI 0)) 7) + (nI 1))) 1)) rfl rfl iX10_carriesOut_X10 (by decide) (List.mem_of_getElem? (i := 4) (by decide +kernel)) rfl rfl dX10_carriesOut_231 ?_
      refine z_top (nI 0) rfl ?_
      refine z_if_ne hC 241 dX10_carriesOut_234 (by decide) (fun c_234 => ?_) (fun c_234 => ?_)
      · exact absurd c_234 (by decide +kernel)
      · refine z_iconst hC (nI 1) (by decide +kernel) dX10_carriesOut_237 ?_
        refine z_goto hC 242 dX10_carriesOut_238 (by decide) ?_
        exact z_zret hC hf rfl (by decide +kernel) (by rw [if_pos hT0]) (by unfold cyM; rw [if_pos hT0] <;> rfl) dX10_carriesOut_242
  · have hT3 := gbT_3 u0
    refine z_cast (lv := [(1, .int (if gbT u0 = 0 then pnZ u0 else nI 0)), (0, .ref (q 0))]) (ws := (zMo (zy E) q (va_up h 0 (upd (h 0) 1 (nI (gbT u0)))))) (st := []) ?_ rfl (by unfold mxG; rw [if_neg hT0] <;> rfl) rfl
    refine z_aload_n hC 1 rfl dX10_carriesOut_209 ?_
    refine z_dup hC dX10_carriesOut_210 rfl ?_
    refine z_get hC 0 8 12 (v := .int ((upd (h 0) 1 (nI (gbT u0))) 7)) rfl rfl iX10_carriesOut_X10 (by decide) (List.mem_of_getElem? (i := 3) (by decide +kernel)) rfl rfl dX10_carriesOut_211 ?_
    refine z_aload_n hC 1 rfl dX10_carriesOut_214 ?_
    refine z_get hC 0 8 4 (v := .int ((upd (h 0) 1 (nI (gbT u0))) 1)) rfl rfl iX10_carriesOut_X10 (by decide) (List.mem_of_getElem? (i := 4) (by decide +kernel)) rfl rfl dX10_carriesOut_215 ?_
    refine z_top (nI (gbT u0)) rfl ?_
    refine z_if_ne hC 225 dX10_carriesOut_218 (by decide) (fun c_218 => ?_) (fun c_218 => ?_)
    · refine z_iconst hC (nI 0) (by decide +kernel) dX10_carriesOut_225 ?_
      refine z_iadd hC dX10_carriesOut_226 ?_
      refine z_put hC 0 8 12 (ws' := zMo (zy E) q (va_up h 0 (upd (upd (h 0) 1 (nI (gbT u0))) 7 (((upd (h 0) 1 (nI (gbT u0))) 7) + (nI 0))))) tyX10 .int rfl rfl iX10_carriesOut_X10 tyX10_ok nmX10 (by decide) (List.mem_of_getElem? (i := 3) (by decide +kernel)) rfl rfl (by decide +kernel) rfl rfl (Nat.le_of_ble_eq_true rfl) rfl dX10_carriesOut_227 ?_
      refine z_aload_n hC 1 rfl dX10_carriesOut_230 ?_
      refine z_get hC 0 8 4 (v := .int ((upd (upd (h 0) 1 (nI (gbT u0))) 7 (((upd (h 0) 1 (nI (gbT u0))) 7) + (nI 0))) 1)) rfl rfl iX10_carriesOut_X10 (by decide) (List.mem_of_getElem? (i := 4) (by decide +kernel)) rfl rfl dX10_carriesOut_231 ?_
      refine z_top (nI (gbT u0)) rfl ?_
      refine z_if_ne hC 241 dX10_carriesOut_234 (by decide) (fun c_234 => ?_) (fun c_234 => ?_)
      · refine z_iconst hC (nI 0) (by decide +kernel) dX10_carriesOut_241 ?_
        exact z_zret hC hf rfl (by decide +kernel) (by rw [if_neg hT0]) (by unfold cyM; rw [if_neg hT0] <;> rfl) dX10_carriesOut_242
      · exact absurd c_234 (nI_ne0 (Nat.pos_of_ne_zero hT0) (by omega))
    · exact absurd c_218 (nI_ne0 (Nat.pos_of_ne_zero hT0) (by omega))

set_option maxHeartbeats 4000000 in
set_option maxRecDepth 100000 in
/-- carriesOut, AGAIN -/
theorem c_X10_carriesOut_8 {l : Launch} {y : zY} {D : va_G} (q : Nat → Nat) (h : Nat → Nat → Int32) (u0 u1 u2 u3 : Nat) (htu : toldU h u0 u1 u2 u3) (hM : okM (h 1)) (hT : okTm (h 1)) (hSp : okSp (h 1)) (hw : h 0 8 = nI 8) : zM l y D yX10_carriesOut wsX10_carriesOut 7 160 [.ref (q 0)] (zMo y q h) (zMo y q (cyM h (0) (reF (h 1)))) (some (.int (if 0 = 0 then nI 1 else nI 0))) := by
  have hu0 := htu.1.2
  have hu1 := htu.2.1.2
  have hu2 := htu.2.2.1.2
  have hu3 := htu.2.2.2.2
  refine z_start (own := RX10) (cc := cX10_carriesOut) (maxL := 2) (ret := (some .boolean)) rfl (by decide +kernel) rfl (Nat.le_of_ble_eq_true rfl) (zMo_fst _ _ _ _) ?_
  intro E hEl hEy hED hC hf
  subst hEl hEy hED
  have hkR : 0 ≤ E.2.2.2.2.2.1.cells ∧ 0 ≤ E.2.2.2.2.2.1.slots := ⟨Nat.zero_le _, Nat.zero_le _⟩
  refine z_cast (lv := [(0, .ref (q 0))]) (ws := (zMo (zy E) q h)) (st := []) ?_ rfl rfl rfl
  refine z_iconst hC (nI 0) (by decide +kernel) dX10_carriesOut_0 ?_
  refine z_istore_n hC (by decide) (lv' := [(1, .int (nI 0)), (0, .ref (q 0))]) rfl dX10_carriesOut_1 ?_
  refine z_aload_n hC 1 rfl dX10_carriesOut_2 ?_
  refine z_get hC 0 8 13 (v := .int ((h 0) 8)) rfl rfl iX10_carriesOut_X10 (by decide) (List.mem_of_getElem? (i := 1) (by decide +kernel)) rfl rfl dX10_carriesOut_3 ?_
  refine z_top (nI 8) hw ?_
  refine z_tblOut hC 203 dX10_carriesOut_6 (by decide +kernel) (by decide) ?_
  refine z_aload_n hC 1 rfl dX10_carriesOut_203 ?_
  refine z_iconst hC (nI 0) (by decide +kernel) dX10_carriesOut_204 ?_
  refine z_callV hC (As := [.int (nI 0)]) (st := []) (ws2 := zMo (zy E) q (rcG0 h)) (B := zMo (zy E) q h) (B' := zMo (zy E) q (rcG0 h)) (r := some (.int (reN (h 1)))) 1 (c_X10_recycles_0 q h) gX10_carriesOut_X10_recycles (q0 := 0) (ci := 8) (by decide +kernel) rfl rfl rfl ⟨by decide, by decide⟩ [0, 1, 2, 3, 4, 5, 6] rfl (by decide) rfl (Nat.le_of_ble_eq_true rfl) rfl rfl dX10_carriesOut_205 ?_ hkR
  refine z_istore_n hC (by decide) (lv' := [(1, .int (reN (h 1))), (0, .ref (q 0))]) rfl dX10_carriesOut_208 ?_
  · refine z_cast (lv := [(1, .int (reN (h 1))), (0, .ref (q 0))]) (ws := (zMo (zy E) q (va_up (va_up h 0 (upd (h 0) 1 (nI 0))) 1 (reF (h 1))))) (st := []) ?_ rfl rfl rfl
    refine z_aload_n hC 1 rfl dX10_carriesOut_209 ?_
    refine z_dup hC dX10_carriesOut_210 rfl ?_
    refine z_get hC 0 8 12 (v := .int ((upd (h 0) 1 (nI 0)) 7)) rfl rfl iX10_carriesOut_X10 (by decide) (List.mem_of_getElem? (i := 3) (by decide +kernel)) rfl rfl dX10_carriesOut_211 ?_
    refine z_aload_n hC 1 rfl dX10_carriesOut_214 ?_
    refine z_get hC 0 8 4 (v := .int (nI 0)) rfl rfl iX10_carriesOut_X10 (by decide) (List.mem_of_getElem? (i := 4) (by decide +kernel)) rfl rfl dX10_carriesOut_215 ?_
    refine z_if_ne hC 225 dX10_carriesOut_218 (by decide) (fun c_218 => ?_) (fun c_218 => ?_)
    · exact absurd c_218 (by decide +kernel)
    · refine z_iconst hC (nI 1) (by decide +kernel) dX10_carriesOut_221 ?_
      refine z_goto hC 226 dX10_carriesOut_222 (by decide) ?_
      refine z_iadd hC dX10_carriesOut_226 ?_
      refine z_put hC 0 8 12 (ws' := zMo (zy E) q (va_up (va_up h 0 (upd (upd (h 0) 1 (nI 0)) 7 (((upd (h 0) 1 (nI 0)) 7) + (nI 1)))) 1 (reF (h 1)))) tyX10 .int rfl rfl iX10_carriesOut_X10 tyX10_ok nmX10 (by decide) (List.mem_of_getElem? (i := 3) (by decide +kernel)) rfl rfl (by decide +kernel) rfl rfl (Nat.le_of_ble_eq_true rfl) rfl dX10_carriesOut_227 ?_
      refine z_aload_n hC 1 rfl dX10_carriesOut_230 ?_
      refine z_get hC 0 8 4 (v := .int ((upd (upd (h 0) 1 (nI 0)) 7 (((upd (h 0) 1 (nI 0)) 7) + (nI 1))) 1)) rfl rfl iX10_carriesOut_X10 (by decide) (List.mem_of_getElem? (i := 4) (by decide +kernel)) rfl rfl dX10_carriesOut_231 ?_
      refine z_if_ne hC 241 dX10_carriesOut_234 (by decide) (fun c_234 => ?_) (fun c_234 => ?_)
      · exact absurd (show nI 0 = 0 by decide +kernel) c_234
      · refine z_iconst hC (nI 1) (by decide +kernel) dX10_carriesOut_237 ?_
        refine z_goto hC 242 dX10_carriesOut_238 (by decide) ?_
        exact z_zret hC hf rfl (by decide +kernel) (by rw [if_pos rfl]) (by unfold cyM; rw [if_pos rfl] <;> rfl) dX10_carriesOut_242
