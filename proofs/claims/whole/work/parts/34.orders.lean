/-! a whole order is read; the first fault -/
def roP (o : Nat → Nat → Int32) (n i : Nat) : Nat := if n ≤ roS (o 2) n i then roS (o 2) n i else if roW (o 2) n i = 9 then roE (o 2) n i else (roR o n i).2.1
theorem roS_le (B : Nat → Int32) {n i : Nat} (h : i ≤ n) : i ≤ roS B n i ∧ roS B n i ≤ n := skE_le B (nI 32) (nI 32) h
theorem roE_le (B : Nat → Int32) {n i : Nat} (h : i ≤ n) : roS B n i ≤ roE B n i ∧ roE B n i ≤ n := skE_le B (nI 97) (nI 122) (roS_le B h).2
theorem okO_ro {o : Nat → Nat → Int32} {n i : Nat} (h : okO o n i) : okO (roG o n i) n (roP o n i) := by
  obtain ⟨h1, h2, h3, h4⟩ := h
  have hs := roS_le (o 2) h4
  have he := roE_le (o 2) h4
  unfold roG roP
  by_cases q1 : n ≤ roS (o 2) n i
  · rw [if_pos q1, if_pos q1]
    exact ⟨h1, h2, rfl, hs.2⟩
  · rw [if_neg q1, if_neg q1]
    by_cases q2 : roW (o 2) n i = 9
    · rw [if_pos q2, if_pos q2]
      exact ⟨h1, h2, rfl, he.2⟩
    · rw [if_neg q2, if_neg q2]
      exact ⟨h1, h2, rfl, (nm_01 (o 2) n (o 0 3) _ 0 _ (o 1) he.2).2⟩
theorem roG_2 (o : Nat → Nat → Int32) (n i : Nat) : roG o n i 2 = o 2 := by
  unfold roG
  split
  · rfl
  · split <;> rfl
def ffR (n : Nat) : Nat → (Nat → Nat → Int32) → Nat → Nat → Nat → Int32
  | 0, o, _ => o
  | k + 1, o, p => if roF o n p = 0 then roG o n p else ffR n k (roG o n p) (roP o n p)
theorem ff_step {n t p : Nat} {o R : Nat → Nat → Int32} (ht : t < 150) (h : ffR n (150 - t) o p = R) : (roF o n p = 0 → R = roG o n p) ∧ (¬ roF o n p = 0 → ffR n (150 - (t + 1)) (roG o n p) (roP o n p) = R) := by
  subst h
  rw [show 150 - t = (150 - (t + 1)) + 1 by omega]
  exact ⟨fun c => if_pos c, fun c => (if_neg c).symm⟩
def rwO (o : Nat → Nat → Int32) : Nat → Nat → Int32 := va_up o 0 (upd (upd (o 0) 2 (nI 0)) 3 (-1))
theorem okO_rw {o : Nat → Nat → Int32} {n : Nat} (h1 : o 0 0 = nI n) (h2 : n ≤ 150) : okO (rwO o) n 0 := ⟨h1, h2, rfl, Nat.zero_le n⟩
def ffO (o : Nat → Nat → Int32) (n : Nat) : Nat → Nat → Int32 := ffR n 150 (rwO o) 0
theorem rn0_ro (y : zY) (q : Nat → Nat) (o : Nat → Nat → Int32) (X N9 : Nat → Int32) {n p s : Nat} (hs : skE (o 2) n (nI 32) (nI 32) p = s) : zOt y q (rnG0 (va_up (va_up o 0 X) 1 N9) n p) = zOt y q (va_up (va_up o 0 (upd (upd X 2 (nI s)) 3 (nI s))) 1 N9) := by
  unfold rnG0
  rw [show (va_up (va_up o 0 X) 1 N9) 2 = o 2 from rfl, hs]
  rfl
theorem sm1_ro (y : zY) (q : Nat → Nat) (o : Nat → Nat → Int32) (X N9 : Nat → Int32) {n p s : Nat} (hs : skE (o 2) n (nI 32) (nI 32) p = s) : zOt y q (smG1 (va_up (va_up o 0 X) 1 N9) n p) = zOt y q (va_up (va_up o 0 (upd X 2 (nI (s + 1)))) 1 N9) := by
  unfold smG1
  rw [show (va_up (va_up o 0 X) 1 N9) 2 = o 2 from rfl, hs]
  rfl
theorem rn1_ro (y : zY) (q : Nat → Nat) (o : Nat → Nat → Int32) (X N9 : Nat → Int32) {n p k : Nat} {d : Nat × Int32} (hd : rnD (o 2) n p = d) : zOt y q (rnG1 (va_up (va_up o 0 X) 1 N9) n p k) = zOt y q (va_up (va_up o 0 (upd X 2 (nI d.1))) 1 (upd N9 k d.2)) := by
  unfold rnG1
  rw [show (va_up (va_up o 0 X) 1 N9) 2 = o 2 from rfl, hd]
  rfl
theorem ro_E {o : Nat → Nat → Int32} {n i s e : Nat} (hs : roS (o 2) n i = s) (he : skE (o 2) n (nI 97) (nI 122) s = e) : roE (o 2) n i = e := by
  unfold roE
  rw [hs, he]
theorem ro_W {o : Nat → Nat → Int32} {n i s e w : Nat} (hs : roS (o 2) n i = s) (he : roE (o 2) n i = e) (hw : wdC (o 2) s e = w) : roW (o 2) n i = w := by
  unfold roW
  rw [hs, he, hw]
theorem ro_R {o : Nat → Nat → Int32} {n i e w : Nat} (he : roE (o 2) n i = e) (hw : roW (o 2) n i = w) : nmR (o 2) n (o 0 3) (nbN w - 0) 0 e (o 1) = roR o n i := by
  unfold roR
  rw [hw, he, Nat.sub_zero]
theorem zOt_3 (y : zY) (q : Nat → Nat) (o : Nat → Nat → Int32) (X : Nat → Int32) (v : Int32) : (zOt y q (va_up o 0 X)).set 0 (q 0, .inr (2, List.set ([.int (va_up o 0 X 0 0), zWv y (va_up o 0 X 0 1), .ref (q 1), .int (va_up o 0 X 0 2), .int (va_up o 0 X 0 3), .ref (q 2)] : List Value) 4 (.int v))) = zOt y q (va_up o 0 (upd X 3 v)) := rfl
theorem zOt_w (y : zY) (q : Nat → Nat) (o : Nat → Nat → Int32) (s9 e9 w9 : Nat) : (zOt y q (va_up o 0 (upd (upd (o 0) 2 (nI s9)) 2 (nI e9)))).set 0 (q 0, .inr (2, List.set ([.int ((va_up o 0 (upd (upd (o 0) 2 (nI s9)) 2 (nI e9))) 0 0), zWv y ((va_up o 0 (upd (upd (o 0) 2 (nI s9)) 2 (nI e9))) 0 1), .ref (q 1), .int ((va_up o 0 (upd (upd (o 0) 2 (nI s9)) 2 (nI e9))) 0 2), .int ((va_up o 0 (upd (upd (o 0) 2 (nI s9)) 2 (nI e9))) 0 3), .ref (q 2)] : List Value) 1 (zWv y (nI w9)))) = zOt y q (va_up o 0 (upd (upd (upd (o 0) 2 (nI s9)) 2 (nI e9)) 1 (nI w9))) := rfl
theorem iX3_rewind_X3 : ∀ w ∈ u_ws RX3 TX3 6, w ∈ wsX3_rewind := by decide +kernel
set_option maxHeartbeats 4000000 in
set_option maxRecDepth 100000 in
/-- rewind -/
theorem c_X3_rewind {l : Launch} {y : zY} {D : va_G} (q : Nat → Nat) (o : Nat → Nat → Int32) : zM l y D yX3_rewind wsX3_rewind 0 0 [.ref (q 0)] (zOt y q o) (zOt y q (rwO o)) (none) := by
  refine z_start (own := RX3) (cc := cX3_rewind) (maxL := 1) (ret := none) rfl (by decide +kernel) rfl (Nat.le_of_ble_eq_true rfl) rfl ?_
  intro E hEl hEy hED h hf
  subst hEl hEy hED
  have hkR : 0 ≤ E.2.2.2.2.2.1.cells ∧ 0 ≤ E.2.2.2.2.2.1.slots := ⟨Nat.zero_le _, Nat.zero_le _⟩
  refine z_cast (lv := [(0, .ref (q 0))]) (ws := (zOt (zy E) q o)) (st := []) ?_ rfl rfl rfl
  refine z_aload_n h 0 rfl dX3_rewind_0 ?_
  refine z_iconst h (nI 0) (by decide +kernel) dX3_rewind_1 ?_
  refine z_put h 0 2 3 (ws' := zOt (zy E) q (va_up o 0 (upd (o 0) 2 (nI 0)))) tyX3 .int rfl rfl iX3_rewind_X3 tyX3_ok nmX3 (by decide) (List.mem_of_getElem? (i := 1) (by decide +kernel)) rfl rfl (by decide +kernel) rfl rfl (Nat.le_of_ble_eq_true rfl) rfl dX3_rewind_2 ?_
  refine z_aload_n h 0 rfl dX3_rewind_5 ?_
  refine z_iconst h ((-1)) (by decide +kernel) dX3_rewind_6 ?_
  refine z_put h 0 2 4 (ws' := zOt (zy E) q (va_up o 0 (upd (upd (o 0) 2 (nI 0)) 3 (-1)))) tyX3 .int rfl rfl iX3_rewind_X3 tyX3_ok nmX3 (by decide) (List.mem_of_getElem? (i := 2) (by decide +kernel)) rfl rfl (by decide +kernel) rfl rfl (Nat.le_of_ble_eq_true rfl) rfl dX3_rewind_7 ?_
  exact z_vret h hf rfl rfl rfl dX3_rewind_10

theorem iX3_readOrder_X3 : ∀ w ∈ u_ws RX3 TX3 6, w ∈ wsX3_readOrder := by decide +kernel
set_option maxHeartbeats 4000000 in
set_option maxRecDepth 100000 in
/-- readOrder -/
theorem c_X3_readOrder {l : Launch} {y : zY} {D : va_G} (q : Nat → Nat) (o : Nat → Nat → Int32) (n i : Nat) (hn : o 0 0 = nI n) (hn1 : n ≤ 150) (hi : o 0 2 = nI i) (hi1 : i ≤ n) : zM l y D yX3_readOrder wsX3_readOrder 6 135 [.ref (q 0)] (zOt y q o) (zOt y q (roG o n i)) (some (.int (roF o n i))) := by
  refine z_start (own := RX3) (cc := cX3_readOrder) (maxL := 3) (ret := (some .boolean)) rfl (by decide +kernel) rfl (Nat.le_of_ble_eq_true rfl) rfl ?_
  intro E hEl hEy hED h hf
  subst hEl hEy hED
  have hkR : 0 ≤ E.2.2.2.2.2.1.cells ∧ 0 ≤ E.2.2.2.2.2.1.slots := ⟨Nat.zero_le _, Nat.zero_le _⟩
  refine z_cast (lv := [(0, .ref (q 0))]) (ws := (zOt (zy E) q o)) (st := []) ?_ rfl rfl rfl
  refine z_aload_n h 0 rfl dX3_readOrder_0 ?_
  refine z_wV h (As := []) (st := []) (ws2 := zOt (zy E) q (va_up o 0 (upd (o 0) 2 (nI (skE (o 2) n (nI 32) (nI 32) i))))) (r := none) 0 (c_X3_skipSpaces q o n i hn hn1 (by first | exact hi | rfl) (by first | assumption | omega)) gX3_readOrder_X3_skipSpaces (q0 := 0) (ci := 2) (by decide +kernel) rfl rfl rfl ⟨by decide, by decide⟩ (Nat.le_of_ble_eq_true rfl) rfl rfl dX3_readOrder_1 ?_ hkR
  have hs9 := skE_le (o 2) (nI 32) (nI 32) hi1
  generalize hs9e : skE (o 2) n (nI 32) (nI 32) i = s9 at hs9 ⊢
  have hS : roS (o 2) n i = s9 := hs9e
  refine z_aload_n h 0 rfl dX3_readOrder_4 ?_
  refine z_get h 0 2 3 (v := .int ((upd (o 0) 2 (nI (s9))) 2)) rfl rfl iX3_readOrder_X3 (by decide) (List.mem_of_getElem? (i := 1) (by decide +kernel)) rfl rfl dX3_readOrder_5 ?_
  refine z_top (nI s9) rfl ?_
  refine z_aload_n h 0 rfl dX3_readOrder_8 ?_
  refine z_get h 0 2 0 (v := .int ((upd (o 0) 2 (nI (s9))) 0)) rfl rfl iX3_readOrder_X3 (by decide) (List.mem_of_getElem? (i := 2) (by decide +kernel)) rfl rfl dX3_readOrder_9 ?_
  refine z_top (nI n) hn ?_
  refine z_icmp_lt h 17 dX3_readOrder_12 (by decide) (fun c_12 => ?_) (fun c_12 => ?_)
  · have k_12 : s9 < n := (nI_ltI (by omega) (by omega)).mp c_12
    refine z_aload_n h 0 rfl dX3_readOrder_17 ?_
    refine z_get h 0 2 3 (v := .int ((upd (o 0) 2 (nI (s9))) 2)) rfl rfl iX3_readOrder_X3 (by decide) (List.mem_of_getElem? (i := 1) (by decide +kernel)) rfl rfl dX3_readOrder_18 ?_
    refine z_top (nI s9) rfl ?_
    refine z_istore_n h (by decide) (lv' := [(1, .int (nI s9)), (0, .ref (q 0))]) rfl dX3_readOrder_21 ?_
    refine z_aload_n h 1 rfl dX3_readOrder_22 ?_
    refine z_wV h (As := []) (st := []) (ws2 := zOt (zy E) q (va_up o 0 (upd (upd (o 0) 2 (nI (s9))) 2 (nI (skE (o 2) n (nI 97) (nI 122) s9))))) (r := none) 0 (c_X3_skipLetters q (va_up o 0 (upd (o 0) 2 (nI (s9)))) n s9 hn hn1 (by first | exact hi | rfl) (by first | assumption | omega)) gX3_readOrder_X3_skipLetters (q0 := 0) (ci := 2) (by decide +kernel) rfl rfl rfl ⟨by decide, by decide⟩ (Nat.le_of_ble_eq_true rfl) rfl rfl dX3_readOrder_23 ?_ hkR
    have he9 := skE_le (o 2) (nI 97) (nI 122) hs9.2
    generalize he9e : skE (o 2) n (nI 97) (nI 122) s9 = e9 at he9 ⊢
    have hE := ro_E hS he9e
    refine z_aload_n h 1 rfl dX3_readOrder_26 ?_
    refine z_aload_n h 1 rfl dX3_readOrder_27 ?_
    refine z_iload_n h 0 rfl dX3_readOrder_28 ?_
    refine z_aload_n h 1 rfl dX3_readOrder_29 ?_
    refine z_get h 0 2 3 (v := .int ((upd (upd (o 0) 2 (nI (s9))) 2 (nI (e9))) 2)) rfl rfl iX3_readOrder_X3 (by decide) (List.mem_of_getElem? (i := 1) (by decide +kernel)) rfl rfl dX3_readOrder_30 ?_
    refine z_top (nI e9) rfl ?_
    refine z_wV h (As := [.int (nI s9), .int (nI e9)]) (st := [.ref (q 0)]) (ws2 := zOt (zy E) q (va_up o 0 (upd (upd (o 0) 2 (nI (s9))) 2 (nI (e9))))) (r := some (zWv (zy E) (nI (wdC (o 2) s9 e9)))) 2 (c_X3_wordBetween q (va_up o 0 (upd (upd (o 0) 2 (nI (s9))) 2 (nI (e9)))) s9 e9 he9.1 (by omega)) gX3_readOrder_X3_wordBetween (q0 := 0) (ci := 2) (by decide +kernel) rfl rfl rfl ⟨by decide, by decide⟩ (Nat.le_of_ble_eq_true rfl) rfl rfl dX3_readOrder_33 ?_ hkR
    have hwl := wdC_le (o 2) s9 e9
    generalize hw9e : wdC (o 2) s9 e9 = w9 at hwl ⊢
    have hW := ro_W hS hE hw9e
    refine z_put h 0 2 1 (ws' := zOt (zy E) q (va_up o 0 (upd (upd (upd (o 0) 2 (nI (s9))) 2 (nI (e9))) 1 (nI w9)))) tyX3 (.object "SnowSites$Word") rfl rfl iX3_readOrder_X3 tyX3_ok nmX3 (by decide) (List.mem_of_getElem? (i := 3) (by decide +kernel)) rfl rfl (by decide +kernel) (zWv_f _ hwl).2 (zWv_f _ hwl).1 (Nat.le_of_ble_eq_true rfl) (zOt_w _ q o s9 e9 w9) dX3_readOrder_36 ?_
    refine z_aload_n h 1 rfl dX3_readOrder_39 ?_
    refine z_get h 0 2 1 (v := zWv (zy E) ((upd (upd (upd (o 0) 2 (nI (s9))) 2 (nI (e9))) 1 (nI w9)) 1)) rfl rfl iX3_readOrder_X3 (by decide) (List.mem_of_getElem? (i := 3) (by decide +kernel)) rfl rfl dX3_readOrder_40 ?_
    by_cases c_43 : w9 = 9
    · refine z_cast (st := [.null]) (lv := [(1, .int (nI s9)), (0, .ref (q 0))]) (ws := (zOt (zy E) q (va_up o 0 (upd (upd (upd (o 0) 2 (nI (s9))) 2 (nI (e9))) 1 (nI w9))))) ?_ rfl rfl (by show [zWv (zy E) ((upd (upd (upd (o 0) 2 (nI (s9))) 2 (nI (e9))) 1 (nI w9)) 1)] = [Value.null]; exact congrArg (fun v => [v]) ((congrArg (fun x => zWv _ (nI x)) c_43).trans (zWv_9 _)))
      refine z_ifnnN h dX3_readOrder_43 ?_
      refine z_aload_n h 1 rfl dX3_readOrder_46 ?_
      refine z_iload_n h 0 rfl dX3_readOrder_47 ?_
      refine z_put h 0 2 4 (ws' := zOt (zy E) q (va_up o 0 (upd (upd (upd (upd (o 0) 2 (nI (s9))) 2 (nI (e9))) 1 (nI w9)) 3 (nI s9)))) tyX3 .int rfl rfl iX3_readOrder_X3 tyX3_ok nmX3 (by decide) (List.mem_of_getElem? (i := 4) (by decide +kernel)) rfl rfl (by decide +kernel) rfl rfl (Nat.le_of_ble_eq_true rfl) (zOt_3 _ q o _ _) dX3_readOrder_48 ?_
      refine z_iconst h (nI 0) (by decide +kernel) dX3_readOrder_51 ?_
      exact z_zret h hf rfl (by decide +kernel) (by unfold roF; rw [hS, if_neg (Nat.not_le.mpr k_12), hW, if_pos c_43]) (by unfold roG; rw [hS, if_neg (Nat.not_le.mpr k_12), hW, if_pos c_43, hE, c_43]; rfl) dX3_readOrder_52
    · have hw9 : w9 < 9 := by omega
      have hnb := nb_4 w9 hw9
      refine z_cast (st := [.ref ((zy E).2 w9)]) (lv := [(1, .int (nI s9)), (0, .ref (q 0))]) (ws := (zOt (zy E) q (va_up o 0 (upd (upd (upd (o 0) 2 (nI (s9))) 2 (nI (e9))) 1 (nI w9))))) ?_ rfl rfl (by show [zWv (zy E) ((upd (upd (upd (o 0) 2 (nI (s9))) 2 (nI (e9))) 1 (nI w9)) 1)] = [Value.ref _]; exact congrArg (fun v => [v]) (zWv_r _ hw9))
      refine z_ifnnR h 53 dX3_readOrder_43 (by decide) ?_
      refine z_iconst h (nI 0) (by decide +kernel) dX3_readOrder_53 ?_
      refine z_istore_n h (by decide) (lv' := [(2, .int (nI 0)), (1, .int (nI s9)), (0, .ref (q 0))]) rfl dX3_readOrder_54 ?_
      have lp_55 : ∀ (d_55 k : Nat) (p9 : Nat) (N9 : Nat → Int32), (nbN w9) < k + d_55 → k ≤ (nbN w9) → (nmR (o 2) n (o 0 3) (nbN w9 - k) k p9 N9 = roR o n i) → (p9 ≤ n) → Z E 0 0 [(0, .ref (q 0)), (1, .int (nI s9)), (2, .int (nI k))] (zOt (zy E) q (va_up (va_up o 0 (upd (upd (o 0) 1 (nI w9)) 2 (nI p9))) 1 N9)) 55 [] := by
        intro d_55
        induction d_55 with
        | zero => intro k p9 N9 q1 q2; omega
        | succ d_55 ih_55 =>
          intro k p9 N9 q1_55 q2_55 hp hpn
          refine z_iload_n h 2 rfl dX3_readOrder_55 ?_
          refine z_aload_n h 0 rfl dX3_readOrder_56 ?_
          refine z_get h 0 2 1 (v := zWv (zy E) ((upd (upd (o 0) 1 (nI w9)) 2 (nI p9)) 1)) rfl rfl iX3_readOrder_X3 (by decide) (List.mem_of_getElem? (i := 3) (by decide +kernel)) rfl rfl dX3_readOrder_57 ?_
          refine z_cast (st := [.ref ((zy E).2 w9), .int (nI k)]) (lv := [(0, .ref (q 0)), (1, .int (nI s9)), (2, .int (nI k))]) (ws := (zOt (zy E) q (va_up (va_up o 0 (upd (upd (o 0) 1 (nI w9)) 2 (nI p9))) 1 N9))) ?_ rfl rfl (congrArg (fun v => v :: [.int (nI k)]) (zWv_r _ hw9))
          refine z_getOF h (hzN (w := w9) (by omega)) (List.mem_of_getElem? (i := 5) (by decide +kernel)) dX3_readOrder_60 ?_
          refine z_icmp_ge h 87 dX3_readOrder_63 (by decide) (fun c_63 => ?_) (fun c_63 => ?_)
          · have k_63 : (nbN w9) ≤ k := (nI_leI (by omega) (by omega)).mp c_63
            obtain rfl : k = (nbN w9) := by omega
            refine z_aload_n h 0 rfl dX3_readOrder_87 ?_
            by_cases s_88_3 : smF (o 2) n p9 = 0
            · have s9_88 := s_88_3
              refine z_wV h (As := []) (st := []) (ws2 := zOt (zy E) q (rnG0 (va_up (va_up o 0 (upd (upd (o 0) 1 (nI w9)) 2 (nI p9))) 1 N9) n p9)) (r := some (.int (nI 0))) 0 (c_X3_readSemicolon_0 q (va_up (va_up o 0 (upd (upd (o 0) 1 (nI w9)) 2 (nI p9))) 1 N9) n p9 hn hn1 rfl (by first | assumption | omega)  s_88_3) gX3_readOrder_X3_readSemicolon (q0 := 0) (ci := 2) (by decide +kernel) rfl rfl rfl ⟨by decide, by decide⟩ (Nat.le_of_ble_eq_true rfl) rfl rfl dX3_readOrder_88 ?_ hkR
              obtain ⟨k9, hk9⟩ : ∃ k, skE (o 2) n (nI 32) (nI 32) p9 = k := ⟨_, rfl⟩
              have hR := (nm_end hp).1 s9_88
              rw [hk9] at hR
              exact z_zret h hf rfl (by decide +kernel) (by unfold roF; rw [hS, if_neg (Nat.not_le.mpr k_12), hW, if_neg c_43, hR]) (by unfold roG; rw [hS, if_neg (Nat.not_le.mpr k_12), hW, if_neg c_43, hR]; exact (rn0_ro _ q o _ N9 hk9).trans rfl) dX3_readOrder_91
            · have s9_88 := s_88_3
              refine z_wV h (As := []) (st := []) (ws2 := zOt (zy E) q (smG1 (va_up (va_up o 0 (upd (upd (o 0) 1 (nI w9)) 2 (nI p9))) 1 N9) n p9)) (r := some (.int (nI 1))) 0 (c_X3_readSemicolon_1 q (va_up (va_up o 0 (upd (upd (o 0) 1 (nI w9)) 2 (nI p9))) 1 N9) n p9 hn hn1 rfl (by first | assumption | omega)  s_88_3) gX3_readOrder_X3_readSemicolon (q0 := 0) (ci := 2) (by decide +kernel) rfl rfl rfl ⟨by decide, by decide⟩ (Nat.le_of_ble_eq_true rfl) rfl rfl dX3_readOrder_88 ?_ hkR
              obtain ⟨k9, hk9⟩ : ∃ k, skE (o 2) n (nI 32) (nI 32) p9 = k := ⟨_, rfl⟩
              have hR := (nm_end hp).2 s9_88
              rw [hk9] at hR
              exact z_zret h hf rfl (by decide +kernel) (by unfold roF; rw [hS, if_neg (Nat.not_le.mpr k_12), hW, if_neg c_43, hR]) (by unfold roG; rw [hS, if_neg (Nat.not_le.mpr k_12), hW, if_neg c_43, hR]; exact (sm1_ro _ q o _ N9 hk9).trans rfl) dX3_readOrder_91
          · have k_63 : ¬ ((nbN w9) ≤ k) := fun q => c_63 ((nI_leI (by omega) (by omega)).mpr q)
            refine z_iload_n h 2 rfl dX3_readOrder_66 ?_
            refine z_iconst h (nI 4) (by decide +kernel) dX3_readOrder_67 ?_
            refine z_icmp_ge h 87 dX3_readOrder_68 (by decide) (fun c_68 => ?_) (fun c_68 => ?_)
            · (have k_68 := (nI_leI (by omega) (by omega)).mp c_68; omega)
            · have k_68 : ¬ (4 ≤ k) := fun q => c_68 ((nI_leI (by omega) (by omega)).mpr q)
              refine z_aload_n h 0 rfl dX3_readOrder_71 ?_
              refine z_iload_n h 2 rfl dX3_readOrder_72 ?_
              by_cases s_73_5 : rnF (o 2) n p9 = 0
              · have s9_73 := s_73_5
                refine z_wV h (As := [.int (nI k)]) (st := []) (ws2 := zOt (zy E) q (rnG0 (va_up (va_up o 0 (upd (upd (o 0) 1 (nI w9)) 2 (nI p9))) 1 N9) n p9)) (r := some (.int (nI 0))) 1 (c_X3_readNumber_0 q (va_up (va_up o 0 (upd (upd (o 0) 1 (nI w9)) 2 (nI p9))) 1 N9) n p9 hn hn1 rfl (by first | assumption | omega) k (by omega) s_73_5) gX3_readOrder_X3_readNumber (q0 := 0) (ci := 2) (by decide +kernel) rfl rfl rfl ⟨by decide, by decide⟩ (Nat.le_of_ble_eq_true rfl) rfl rfl dX3_readOrder_73 ?_ hkR
                refine z_if_ne h 81 dX3_readOrder_76 (by decide) (fun c_76 => ?_) (fun c_76 => ?_)
                · exact absurd c_76 (by decide +kernel)
                · refine z_iconst h (nI 0) (by decide +kernel) dX3_readOrder_79 ?_
                  obtain ⟨k9, hk9⟩ : ∃ k, skE (o 2) n (nI 32) (nI 32) p9 = k := ⟨_, rfl⟩
                  have hR := (nm_step (Nat.not_le.mp k_63) hp).1 s9_73
                  rw [hk9] at hR
                  exact z_zret h hf rfl (by decide +kernel) (by unfold roF; rw [hS, if_neg (Nat.not_le.mpr k_12), hW, if_neg c_43, hR]) (by unfold roG; rw [hS, if_neg (Nat.not_le.mpr k_12), hW, if_neg c_43, hR]; exact (rn0_ro _ q o _ N9 hk9).trans rfl) dX3_readOrder_80
              · have s9_73 := s_73_5
                have hd9 := rnD_le (o 2) (i := p9) hpn
                have hnx := (nm_step (Nat.not_le.mp k_63) hp).2 s_73_5
                refine z_wV h (As := [.int (nI k)]) (st := []) (ws2 := zOt (zy E) q (rnG1 (va_up (va_up o 0 (upd (upd (o 0) 1 (nI w9)) 2 (nI p9))) 1 N9) n p9 k)) (r := some (.int (nI 1))) 1 (c_X3_readNumber_1 q (va_up (va_up o 0 (upd (upd (o 0) 1 (nI w9)) 2 (nI p9))) 1 N9) n p9 hn hn1 rfl (by first | assumption | omega) k (by omega) s_73_5) gX3_readOrder_X3_readNumber (q0 := 0) (ci := 2) (by decide +kernel) rfl rfl rfl ⟨by decide, by decide⟩ (Nat.le_of_ble_eq_true rfl) rfl rfl dX3_readOrder_73 ?_ hkR
                obtain ⟨d9, hd9e⟩ : ∃ d, rnD (o 2) n p9 = d := ⟨_, rfl⟩
                rw [hd9e] at hd9 hnx
                refine z_cast (lv := [(0, .ref (q 0)), (1, .int (nI s9)), (2, .int (nI k))]) (ws := (zOt (zy E) q (va_up (va_up o 0 (upd (upd (o 0) 1 (nI w9)) 2 (nI d9.1))) 1 (upd N9 k d9.2)))) (st := [.int (nI 1)]) ?_ rfl (rn1_ro _ q o _ N9 hd9e) rfl
                refine z_if_ne h 81 dX3_readOrder_76 (by decide) (fun c_76 => ?_) (fun c_76 => ?_)
                · refine z_iinc h 2 (nI (k + 1)) rfl z_i1 (by decide) (lv' := [(2, .int (nI (k + 1))), (0, .ref (q 0)), (1, .int (nI s9))]) rfl dX3_readOrder_81 ?_
                  refine z_goto h 55 dX3_readOrder_84 (by decide) ?_
                  refine z_sub [1, 2, 0] (lv' := [(0, .ref (q 0)), (1, .int (nI s9)), (2, .int (nI (k + 1)))]) rfl ?_
                  exact z_cast (ih_55 (k + 1) d9.1 (upd N9 k d9.2) (by omega) (by omega) hnx hd9.2) rfl rfl rfl
                · exact absurd c_76 (by decide +kernel)
      refine z_sub [2, 1, 0] (lv' := [(0, .ref (q 0)), (1, .int (nI s9)), (2, .int (nI 0))]) rfl ?_
      exact z_cast (lp_55 ((nbN w9) + 1) 0 e9 (o 1) (by omega) (by omega) (ro_R hE hW) he9.2) rfl rfl rfl
  · have k_12 : ¬ (s9 < n) := fun q => c_12 ((nI_ltI (by omega) (by omega)).mpr q)
    refine z_iconst h (nI 0) (by decide +kernel) dX3_readOrder_15 ?_
    exact z_zret h hf rfl (by decide +kernel) (by unfold roF; rw [hS, if_pos (Nat.not_lt.mp k_12)]) (by unfold roG; rw [hS, if_pos (Nat.not_lt.mp k_12)] <;> rfl) dX3_readOrder_16

theorem iX3_firstFault_X3 : ∀ w ∈ u_ws RX3 TX3 6, w ∈ wsX3_firstFault := by decide +kernel
set_option maxHeartbeats 4000000 in
set_option maxRecDepth 100000 in
/-- firstFault -/
theorem c_X3_firstFault {l : Launch} {y : zY} {D : va_G} (q : Nat → Nat) (o : Nat → Nat → Int32) (n : Nat) (hn : o 0 0 = nI n) (hn1 : n ≤ 150) : zM l y D yX3_firstFault wsX3_firstFault 7 157 [.ref (q 0)] (zOt y q o) (zOt y q (ffO o n)) (some (.int (ffO o n 0 3))) := by
  refine z_start (own := RX3) (cc := cX3_firstFault) (maxL := 2) (ret := (some .int)) rfl (by decide +kernel) rfl (Nat.le_of_ble_eq_true rfl) rfl ?_
  intro E hEl hEy hED h hf
  subst hEl hEy hED
  have hkR : 0 ≤ E.2.2.2.2.2.1.cells ∧ 0 ≤ E.2.2.2.2.2.1.slots := ⟨Nat.zero_le _, Nat.zero_le _⟩
  refine z_cast (lv := [(0, .ref (q 0))]) (ws := (zOt (zy E) q o)) (st := []) ?_ rfl rfl rfl
  refine z_aload_n h 0 rfl dX3_firstFault_0 ?_
  refine z_wV h (As := []) (st := []) (ws2 := zOt (zy E) q (rwO o)) (r := none) 0 (c_X3_rewind q o) gX3_firstFault_X3_rewind (q0 := 0) (ci := 2) (by decide +kernel) rfl rfl rfl ⟨by decide, by decide⟩ (Nat.le_of_ble_eq_true rfl) rfl rfl dX3_firstFault_1 ?_ hkR
  refine z_iconst h (nI 0) (by decide +kernel) dX3_firstFault_4 ?_
  refine z_istore_n h (by decide) (lv' := [(1, .int (nI 0)), (0, .ref (q 0))]) rfl dX3_firstFault_5 ?_
  have lp_6 : ∀ (d_6 t : Nat) (o9 : Nat → Nat → Int32) (p9 : Nat), 150 < t + d_6 → t ≤ 150 → (okO o9 n p9) → (ffR n (150 - t) o9 p9 = ffO o n) → Z E 0 0 [(0, .ref (q 0)), (1, .int (nI t))] (zOt (zy E) q o9) 6 [] := by
    intro d_6
    induction d_6 with
    | zero => intro t o9 p9 q1 q2; omega
    | succ d_6 ih_6 =>
      intro t o9 p9 q1_6 q2_6 hok hff
      refine z_iload_n h 1 rfl dX3_firstFault_6 ?_
      refine z_sipush h (nI 150) (by decide +kernel) dX3_firstFault_7 ?_
      refine z_icmp_ge h 29 dX3_firstFault_10 (by decide) (fun c_10 => ?_) (fun c_10 => ?_)
      · have k_10 : 150 ≤ t := (nI_leI (by omega) (by omega)).mp c_10
        obtain rfl : t = 150 := by omega
        have hf9 : o9 = ffO o n := hff
        refine z_aload_n h 0 rfl dX3_firstFault_29 ?_
        refine z_get h 0 2 4 (v := .int ((o9 0) 3)) rfl rfl iX3_firstFault_X3 (by decide) (List.mem_of_getElem? (i := 1) (by decide +kernel)) rfl rfl dX3_firstFault_30 ?_
        exact z_iret h hf rfl (by rw [← hf9]) (by rw [hf9]) dX3_firstFault_33
      · have k_10 : ¬ (150 ≤ t) := fun q => c_10 ((nI_leI (by omega) (by omega)).mpr q)
        refine z_aload_n h 0 rfl dX3_firstFault_13 ?_
        refine z_wV h (As := []) (st := []) (ws2 := zOt (zy E) q (roG o9 n p9)) (r := some (.int (roF o9 n p9))) 0 (c_X3_readOrder q o9 n p9 hok.1 hok.2.1 hok.2.2.1 hok.2.2.2) gX3_firstFault_X3_readOrder (q0 := 0) (ci := 2) (by decide +kernel) rfl rfl rfl ⟨by decide, by decide⟩ (Nat.le_of_ble_eq_true rfl) rfl rfl dX3_firstFault_14 ?_ hkR
        refine z_if_ne h 23 dX3_firstFault_17 (by decide) (fun c_17 => ?_) (fun c_17 => ?_)
        · refine z_iinc h 1 (nI (t + 1)) rfl z_i1 (by decide) (lv' := [(1, .int (nI (t + 1))), (0, .ref (q 0))]) rfl dX3_firstFault_23 ?_
          refine z_goto h 6 dX3_firstFault_26 (by decide) ?_
          refine z_sub [1, 0] (lv' := [(0, .ref (q 0)), (1, .int (nI (t + 1)))]) rfl ?_
          exact z_cast (ih_6 (t + 1) (roG o9 n p9) (roP o9 n p9) (by omega) (by omega) (okO_ro hok) ((ff_step (by omega) hff).2 c_17)) rfl rfl rfl
        · have hf9 : roG o9 n p9 = ffO o n := ((ff_step (by omega) hff).1 c_17).symm
          refine z_goto h 29 dX3_firstFault_20 (by decide) ?_
          refine z_aload_n h 0 rfl dX3_firstFault_29 ?_
          refine z_get h 0 2 4 (v := .int ((roG o9 n p9 0) 3)) rfl rfl iX3_firstFault_X3 (by decide) (List.mem_of_getElem? (i := 1) (by decide +kernel)) rfl rfl dX3_firstFault_30 ?_
          exact z_iret h hf rfl (by rw [← hf9]) (by rw [hf9]) dX3_firstFault_33
  refine z_sub [1, 0] (lv' := [(0, .ref (q 0)), (1, .int (nI 0))]) rfl ?_
  exact z_cast (lp_6 (150 + 1) 0 (rwO o) 0 (by omega) (by omega) (okO_rw hn hn1) rfl) rfl rfl rfl
