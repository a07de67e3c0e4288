def zSa (y : zY) (q : Nat → Nat) (g : Nat → Nat → Int32) : va_W := [(q 0, .inr (4, [.int (g 0 0), .int (g 0 1), .int (g 0 2), .int (g 0 3), .int (g 0 4), .int (g 0 5), .ref (q 1), .ref (q 2), .ref (q 10), .ref (q 14)])), (q 1, .inl (y.1 0, 3, .inl (g 1)))] ++ (zSt y (fun i => q (2 + i)) g ++ (zTo y (fun i => q (10 + i)) g ++ zBa y (fun i => q (14 + i)) g))
def cpSa (t g : Nat → Nat → Int32) : Nat → Nat → Int32 := cpBa (cpTo (cpSt (va_up (va_up t 0 (upd (upd (upd (upd (upd (upd (t 0) 0 (g 0 0)) 1 (g 0 1)) 2 (g 0 2)) 3 (g 0 3)) 4 (g 0 4)) 5 (g 0 5))) 1 (g 1)) g) g) g
def tsG (g : Nat → Nat → Int32) (u : Int32) : Nat → Nat → Int32 := va_up g 0 (upd (g 0) 0 (g 0 0 + u))
def mkG (g : Nat → Nat → Int32) (k : Nat) (b : Int32) : Nat → Nat → Int32 := va_up (va_up g 0 (upd (upd (g 0) 0 (g 0 0 - b * nI 100)) 1 (g 0 1 + b))) 1 (upd (g 1) k (g 1 k + b))
def pbG (g : Nat → Nat → Int32) (s k : Nat) : Nat → Nat → Int32 := adG (va_up g 1 (upd (g 1) k (g 1 k - nI 1))) s (nI k)
def raG (g : Nat → Nat → Int32) (t s l : Nat) (u : Int32) : Int32 := if hbl g (nI s) (nI 0) = 0 then nI 1 else if hbl g (nI s) (nI l) = 0 then nI 2 else if u ≤ g 7 (s * 6 + l) then (if mtc (g 9 t) u ≤ g 10 t then nI 0 else nI 4) else nI 3
def coG (g : Nat → Nat → Int32) (t s l : Nat) (u : Int32) : Nat → Nat → Int32 := ctG (va_up (usG g t (mtc (g 9 t) u)) 0 (upd (g 0) 2 (g 0 2 + u))) s l u
def obU (g : Nat → Nat → Int32) : Int32 := if nI 9999 - g 0 0 < g 0 2 then nI 9999 - g 0 0 else g 0 2
def obG (g : Nat → Nat → Int32) : Nat → Nat → Int32 := va_up g 0 (upd (upd (upd (g 0) 2 (g 0 2 - obU g)) 0 (g 0 0 + obU g)) 3 (g 0 3 + obU g))
def phM (g : Nat → Nat → Int32) (z : Int32) : Nat → Nat → Int32 := if z = 0 then mlG g (g 0 4) else g
def phV (g : Nat → Nat → Int32) (z : Int32) : Int32 := if z = 0 then mlS g (g 0 4) else nI 0
def hrG (g : Nat → Nat → Int32) : Nat → Nat → Int32 := if (upd (g 0) 4 (g 0 4 + nI 1)) 4 < nI 12 then va_up (rsG g) 0 (upd (g 0) 4 (g 0 4 + nI 1)) else va_up (rsG g) 0 (upd (upd (upd (g 0) 4 (g 0 4 + nI 1)) 4 (nI 0)) 5 ((upd (upd (g 0) 4 (g 0 4 + nI 1)) 4 (nI 0)) 5 + nI 1))
def phG (g : Nat → Nat → Int32) (z : Int32) : Nat → Nat → Nat → Int32
  | 0 => g
  | n + 1 => hrG (phM (phG g z n) z)
def phS (g : Nat → Nat → Int32) (z : Int32) : Nat → Int32
  | 0 => nI 0
  | n + 1 => phS g z n + phV (phG g z n) z
theorem okH_5 (g R : Nat → Nat → Int32) (h : okH R) : okH (ml5 g R) := h
theorem okH_ml {g : Nat → Nat → Int32} (hg : okH g) (hr : Int32) : okH (mlG g hr) := okH_5 g _ (okH_mt (g := va_up g 8 (mlO g hr 8)) hg 8 (Nat.le_refl 8))
theorem mlG_0 (g : Nat → Nat → Int32) (hr : Int32) : mlG g hr 0 = g 0 := rfl
theorem okT_of {g t : Nat → Nat → Int32} (h : t 0 6 = g 0 6) (hg : okT g) : okT t := by
  have e : zt t = zt g := by unfold zt; rw [h]
  unfold okT
  rw [h, e]
  exact hg
theorem okT_ml {g : Nat → Nat → Int32} (hg : okT g) (hr : Int32) : okT (mlG g hr) := okT_of (by rw [mlG_0]) hg
theorem okH_phM {g : Nat → Nat → Int32} (hg : okH g) (z : Int32) : okH (phM g z) := by
  unfold phM; split
  · exact okH_ml hg _
  · exact hg
theorem okT_phM {g : Nat → Nat → Int32} (hg : okT g) (z : Int32) : okT (phM g z) := by
  unfold phM; split
  · exact okT_ml hg _
  · exact hg
theorem okH_hr {g : Nat → Nat → Int32} (hg : okH g) : okH (hrG g) := by
  unfold hrG; split
  · exact hg
  · exact hg
theorem okT_hr {g : Nat → Nat → Int32} (hg : okT g) : okT (hrG g) := by
  unfold hrG; split
  · exact okT_of (g := g) rfl hg
  · exact okT_of (g := g) rfl hg
theorem ok_ph {g : Nat → Nat → Int32} (hg : okH g) (ht : okT g) (z : Int32) : ∀ n, okH (phG g z n) ∧ okT (phG g z n)
  | 0 => ⟨hg, ht⟩
  | n + 1 => ⟨okH_hr (okH_phM (ok_ph hg ht z n).1 z), okT_hr (okT_phM (ok_ph hg ht z n).2 z)⟩
def zUs (y : zY) (q : Nat → Nat) (a : Nat → Nat → Nat) (n : Nat → Nat → Int32) (S : Nat → Nat → Nat → Int32) : va_W := [(q 0, .inr (6, [.int (n 0 0), .int (n 0 1), .ref (q 1)])), (q 1, .inl (y.1 4, 4, .inr (.inr (.inr (.inr (fun j => some (a j 0)))))))] ++ (zSa y (a 0) (S 0) ++ (zSa y (a 1) (S 1) ++ (zSa y (a 2) (S 2) ++ zSa y (a 3) (S 3))))
def puN (n : Nat → Nat → Int32) (j : Nat) : Nat → Nat → Int32 := va_up n 0 (upd (upd (n 0) 1 (nI j)) 0 (if nI 4 < n 0 0 + nI 1 then nI 4 else n 0 0 + nI 1))
def poN (n : Nat → Nat → Int32) (j : Nat) : Nat → Nat → Int32 := va_up n 0 (upd (upd (n 0) 1 (nI j)) 0 (n 0 0 - nI 1))
theorem iX5_copyFrom_X5 : ∀ w ∈ u_ws RX5 TX5 10, w ∈ wsX5_copyFrom := by decide +kernel
set_option maxHeartbeats 4000000 in
set_option maxRecDepth 100000 in
/-- State.copyFrom -/
theorem c_X5_copyFrom {l : Launch} {y : zY} {D : va_G} (q : Nat → Nat) (t : Nat → Nat → Int32) (p : Nat → Nat) (g : Nat → Nat → Int32) : zM l y D yX5_copyFrom wsX5_copyFrom 3 122 [.ref (q 0), .ref (p 0)] (zSa y q t ++ zSa y p g) (zSa y q (cpSa t g) ++ zSa y p g) (none) := by
  refine z_start (own := RX5) (cc := cX5_copyFrom) (maxL := 2) (ret := none) rfl (by decide +kernel) rfl (Nat.le_of_ble_eq_true rfl) rfl ?_
  intro E hEl hEy hED h hf
  subst hEl hEy hED
  have hkR : 0 ≤ E.2.2.2.2.2.1.cells ∧ 0 ≤ E.2.2.2.2.2.1.slots := ⟨Nat.zero_le _, Nat.zero_le _⟩
  refine z_cast (lv := [(0, .ref (q 0)), (1, .ref (p 0))]) (ws := (zSa (zy E) q t ++ zSa (zy E) p g)) (st := []) ?_ rfl rfl rfl
  refine z_aload_n h 0 rfl dX5_copyFrom_0 ?_
  refine z_aload_n h 1 rfl dX5_copyFrom_1 ?_
  refine z_get h 16 4 0 (v := .int ((g 0) 0)) rfl rfl iX5_copyFrom_X5 (by decide) (List.mem_of_getElem? (i := 1) (by decide +kernel)) rfl rfl dX5_copyFrom_2 ?_
  refine z_put h 0 4 0 (ws' := zSa (zy E) q (va_up t 0 (upd (t 0) 0 ((g 0) 0))) ++ zSa (zy E) p g) tyX5 .int rfl rfl iX5_copyFrom_X5 tyX5_ok nmX5 (by decide) (List.mem_of_getElem? (i := 1) (by decide +kernel)) rfl rfl (by decide +kernel) rfl rfl (Nat.le_of_ble_eq_true rfl) rfl dX5_copyFrom_5 ?_
  refine z_aload_n h 0 rfl dX5_copyFrom_8 ?_
  refine z_aload_n h 1 rfl dX5_copyFrom_9 ?_
  refine z_get h 16 4 1 (v := .int ((g 0) 1)) rfl rfl iX5_copyFrom_X5 (by decide) (List.mem_of_getElem? (i := 2) (by decide +kernel)) rfl rfl dX5_copyFrom_10 ?_
  refine z_put h 0 4 1 (ws' := zSa (zy E) q (va_up t 0 (upd (upd (t 0) 0 ((g 0) 0)) 1 ((g 0) 1))) ++ zSa (zy E) p g) tyX5 .int rfl rfl iX5_copyFrom_X5 tyX5_ok nmX5 (by decide) (List.mem_of_getElem? (i := 2) (by decide +kernel)) rfl rfl (by decide +kernel) rfl rfl (Nat.le_of_ble_eq_true rfl) rfl dX5_copyFrom_13 ?_
  refine z_aload_n h 0 rfl dX5_copyFrom_16 ?_
  refine z_aload_n h 1 rfl dX5_copyFrom_17 ?_
  refine z_get h 16 4 2 (v := .int ((g 0) 2)) rfl rfl iX5_copyFrom_X5 (by decide) (List.mem_of_getElem? (i := 3) (by decide +kernel)) rfl rfl dX5_copyFrom_18 ?_
  refine z_put h 0 4 2 (ws' := zSa (zy E) q (va_up t 0 (upd (upd (upd (t 0) 0 ((g 0) 0)) 1 ((g 0) 1)) 2 ((g 0) 2))) ++ zSa (zy E) p g) tyX5 .int rfl rfl iX5_copyFrom_X5 tyX5_ok nmX5 (by decide) (List.mem_of_getElem? (i := 3) (by decide +kernel)) rfl rfl (by decide +kernel) rfl rfl (Nat.le_of_ble_eq_true rfl) rfl dX5_copyFrom_21 ?_
  refine z_aload_n h 0 rfl dX5_copyFrom_24 ?_
  refine z_aload_n h 1 rfl dX5_copyFrom_25 ?_
  refine z_get h 16 4 3 (v := .int ((g 0) 3)) rfl rfl iX5_copyFrom_X5 (by decide) (List.mem_of_getElem? (i := 4) (by decide +kernel)) rfl rfl dX5_copyFrom_26 ?_
  refine z_put h 0 4 3 (ws' := zSa (zy E) q (va_up t 0 (upd (upd (upd (upd (t 0) 0 ((g 0) 0)) 1 ((g 0) 1)) 2 ((g 0) 2)) 3 ((g 0) 3))) ++ zSa (zy E) p g) tyX5 .int rfl rfl iX5_copyFrom_X5 tyX5_ok nmX5 (by decide) (List.mem_of_getElem? (i := 4) (by decide +kernel)) rfl rfl (by decide +kernel) rfl rfl (Nat.le_of_ble_eq_true rfl) rfl dX5_copyFrom_29 ?_
  refine z_aload_n h 0 rfl dX5_copyFrom_32 ?_
  refine z_aload_n h 1 rfl dX5_copyFrom_33 ?_
  refine z_get h 16 4 4 (v := .int ((g 0) 4)) rfl rfl iX5_copyFrom_X5 (by decide) (List.mem_of_getElem? (i := 5) (by decide +kernel)) rfl rfl dX5_copyFrom_34 ?_
  refine z_put h 0 4 4 (ws' := zSa (zy E) q (va_up t 0 (upd (upd (upd (upd (upd (t 0) 0 ((g 0) 0)) 1 ((g 0) 1)) 2 ((g 0) 2)) 3 ((g 0) 3)) 4 ((g 0) 4))) ++ zSa (zy E) p g) tyX5 .int rfl rfl iX5_copyFrom_X5 tyX5_ok nmX5 (by decide) (List.mem_of_getElem? (i := 5) (by decide +kernel)) rfl rfl (by decide +kernel) rfl rfl (Nat.le_of_ble_eq_true rfl) rfl dX5_copyFrom_37 ?_
  refine z_aload_n h 0 rfl dX5_copyFrom_40 ?_
  refine z_aload_n h 1 rfl dX5_copyFrom_41 ?_
  refine z_get h 16 4 5 (v := .int ((g 0) 5)) rfl rfl iX5_copyFrom_X5 (by decide) (List.mem_of_getElem? (i := 6) (by decide +kernel)) rfl rfl dX5_copyFrom_42 ?_
  refine z_put h 0 4 5 (ws' := zSa (zy E) q (va_up t 0 (upd (upd (upd (upd (upd (upd (t 0) 0 ((g 0) 0)) 1 ((g 0) 1)) 2 ((g 0) 2)) 3 ((g 0) 3)) 4 ((g 0) 4)) 5 ((g 0) 5))) ++ zSa (zy E) p g) tyX5 .int rfl rfl iX5_copyFrom_X5 tyX5_ok nmX5 (by decide) (List.mem_of_getElem? (i := 6) (by decide +kernel)) rfl rfl (by decide +kernel) rfl rfl (Nat.le_of_ble_eq_true rfl) rfl dX5_copyFrom_45 ?_
  refine z_aload_n h 1 rfl dX5_copyFrom_48 ?_
  refine z_get h 16 4 6 (v := .ref (p 1)) rfl rfl iX5_copyFrom_X5 (by decide) (List.mem_of_getElem? (i := 7) (by decide +kernel)) rfl rfl dX5_copyFrom_49 ?_
  refine z_aload_n h 0 rfl dX5_copyFrom_52 ?_
  refine z_get h 0 4 6 (v := .ref (q 1)) rfl rfl iX5_copyFrom_X5 (by decide) (List.mem_of_getElem? (i := 7) (by decide +kernel)) rfl rfl dX5_copyFrom_53 ?_
  refine z_callSN h (As := [.ref (p 1), .ref (q 1)]) (st := []) (ws2 := zSa (zy E) q (va_up (va_up t 0 (upd (upd (upd (upd (upd (upd (t 0) 0 ((g 0) 0)) 1 ((g 0) 1)) 2 ((g 0) 2)) 3 ((g 0) 3)) 4 ((g 0) 4)) 5 ((g 0) 5))) 1 (g 1)) ++ zSa (zy E) p g) (B := zTw (zy E) (p 1) (q 1) 3 (g 1) (t 1)) (B' := zTw (zy E) (p 1) (q 1) 3 (g 1) (g 1)) (r := none) 2 (c_X9_copyRow (p 1) (q 1) 3 (g 1) (t 1) (by decide)) gX5_copyFrom_X9_copyRow_n55 (host := "SnowSites") (by decide +kernel) (List.mem_of_getElem? (i := 12) (by decide +kernel)) (List.mem_of_getElem? (i := 11) (by decide +kernel)) (by decide +kernel) rfl ⟨by decide, by decide⟩ [17, 1] rfl (by decide) rfl (Nat.le_of_ble_eq_true rfl) rfl rfl dX5_copyFrom_56 ?_ hkR
  refine z_aload_n h 0 rfl dX5_copyFrom_59 ?_
  refine z_get h 0 4 7 (v := .ref (q 2)) rfl rfl iX5_copyFrom_X5 (by decide) (List.mem_of_getElem? (i := 8) (by decide +kernel)) rfl rfl dX5_copyFrom_60 ?_
  refine z_aload_n h 1 rfl dX5_copyFrom_63 ?_
  refine z_get h 16 4 7 (v := .ref (p 2)) rfl rfl iX5_copyFrom_X5 (by decide) (List.mem_of_getElem? (i := 8) (by decide +kernel)) rfl rfl dX5_copyFrom_64 ?_
  refine z_callV h (As := [.ref (p 2)]) (st := []) (ws2 := zSa (zy E) q (cpSt (va_up (va_up t 0 (upd (upd (upd (upd (upd (upd (t 0) 0 ((g 0) 0)) 1 ((g 0) 1)) 2 ((g 0) 2)) 3 ((g 0) 3)) 4 ((g 0) 4)) 5 ((g 0) 5))) 1 (g 1)) g) ++ zSa (zy E) p g) (B := zSt (zy E) (fun i => q (2 + i)) (va_up (va_up t 0 (upd (upd (upd (upd (upd (upd (t 0) 0 ((g 0) 0)) 1 ((g 0) 1)) 2 ((g 0) 2)) 3 ((g 0) 3)) 4 ((g 0) 4)) 5 ((g 0) 5))) 1 (g 1)) ++ zSt (zy E) (fun i => p (2 + i)) g) (B' := zSt (zy E) (fun i => q (2 + i)) (cpSt (va_up (va_up t 0 (upd (upd (upd (upd (upd (upd (t 0) 0 ((g 0) 0)) 1 ((g 0) 1)) 2 ((g 0) 2)) 3 ((g 0) 3)) 4 ((g 0) 4)) 5 ((g 0) 5))) 1 (g 1)) g) ++ zSt (zy E) (fun i => p (2 + i)) g) (r := none) 1 (c_X4_copyFrom (fun i => q (2 + i)) (va_up (va_up t 0 (upd (upd (upd (upd (upd (upd (t 0) 0 ((g 0) 0)) 1 ((g 0) 1)) 2 ((g 0) 2)) 3 ((g 0) 3)) 4 ((g 0) 4)) 5 ((g 0) 5))) 1 (g 1)) (fun i => p (2 + i)) g) gX5_copyFrom_X4_copyFrom (q0 := 2) (ci := 3) (by decide +kernel) rfl rfl rfl ⟨by decide, by decide⟩ [2, 3, 4, 5, 6, 7, 8, 9, 18, 19, 20, 21, 22, 23, 24, 25] rfl (by decide) rfl (Nat.le_of_ble_eq_true rfl) rfl rfl dX5_copyFrom_67 ?_ hkR
  refine z_aload_n h 0 rfl dX5_copyFrom_70 ?_
  refine z_get h 0 4 8 (v := .ref (q 10)) rfl rfl iX5_copyFrom_X5 (by decide) (List.mem_of_getElem? (i := 9) (by decide +kernel)) rfl rfl dX5_copyFrom_71 ?_
  refine z_aload_n h 1 rfl dX5_copyFrom_74 ?_
  refine z_get h 16 4 8 (v := .ref (p 10)) rfl rfl iX5_copyFrom_X5 (by decide) (List.mem_of_getElem? (i := 9) (by decide +kernel)) rfl rfl dX5_copyFrom_75 ?_
  refine z_callV h (As := [.ref (p 10)]) (st := []) (ws2 := zSa (zy E) q (cpTo (cpSt (va_up (va_up t 0 (upd (upd (upd (upd (upd (upd (t 0) 0 ((g 0) 0)) 1 ((g 0) 1)) 2 ((g 0) 2)) 3 ((g 0) 3)) 4 ((g 0) 4)) 5 ((g 0) 5))) 1 (g 1)) g) g) ++ zSa (zy E) p g) (B := zTo (zy E) (fun i => q (10 + i)) (cpSt (va_up (va_up t 0 (upd (upd (upd (upd (upd (upd (t 0) 0 ((g 0) 0)) 1 ((g 0) 1)) 2 ((g 0) 2)) 3 ((g 0) 3)) 4 ((g 0) 4)) 5 ((g 0) 5))) 1 (g 1)) g) ++ zTo (zy E) (fun i => p (10 + i)) g) (B' := zTo (zy E) (fun i => q (10 + i)) (cpTo (cpSt (va_up (va_up t 0 (upd (upd (upd (upd (upd (upd (t 0) 0 ((g 0) 0)) 1 ((g 0) 1)) 2 ((g 0) 2)) 3 ((g 0) 3)) 4 ((g 0) 4)) 5 ((g 0) 5))) 1 (g 1)) g) g) ++ zTo (zy E) (fun i => p (10 + i)) g) (r := none) 1 (c_X6_copyFrom (fun i => q (10 + i)) (cpSt (va_up (va_up t 0 (upd (upd (upd (upd (upd (upd (t 0) 0 ((g 0) 0)) 1 ((g 0) 1)) 2 ((g 0) 2)) 3 ((g 0) 3)) 4 ((g 0) 4)) 5 ((g 0) 5))) 1 (g 1)) g) (fun i => p (10 + i)) g) gX5_copyFrom_X6_copyFrom (q0 := 10) (ci := 5) (by decide +kernel) rfl rfl rfl ⟨by decide, by decide⟩ [10, 11, 12, 13, 26, 27, 28, 29] rfl (by decide) rfl (Nat.le_of_ble_eq_true rfl) rfl rfl dX5_copyFrom_78 ?_ hkR
  refine z_aload_n h 0 rfl dX5_copyFrom_81 ?_
  refine z_get h 0 4 9 (v := .ref (q 14)) rfl rfl iX5_copyFrom_X5 (by decide) (List.mem_of_getElem? (i := 10) (by decide +kernel)) rfl rfl dX5_copyFrom_82 ?_
  refine z_aload_n h 1 rfl dX5_copyFrom_85 ?_
  refine z_get h 16 4 9 (v := .ref (p 14)) rfl rfl iX5_copyFrom_X5 (by decide) (List.mem_of_getElem? (i := 10) (by decide +kernel)) rfl rfl dX5_copyFrom_86 ?_
  refine z_callV h (As := [.ref (p 14)]) (st := []) (ws2 := zSa (zy E) q (cpBa (cpTo (cpSt (va_up (va_up t 0 (upd (upd (upd (upd (upd (upd (t 0) 0 ((g 0) 0)) 1 ((g 0) 1)) 2 ((g 0) 2)) 3 ((g 0) 3)) 4 ((g 0) 4)) 5 ((g 0) 5))) 1 (g 1)) g) g) g) ++ zSa (zy E) p g) (B := zBa (zy E) (fun i => q (14 + i)) (cpTo (cpSt (va_up (va_up t 0 (upd (upd (upd (upd (upd (upd (t 0) 0 ((g 0) 0)) 1 ((g 0) 1)) 2 ((g 0) 2)) 3 ((g 0) 3)) 4 ((g 0) 4)) 5 ((g 0) 5))) 1 (g 1)) g) g) ++ zBa (zy E) (fun i => p (14 + i)) g) (B' := zBa (zy E) (fun i => q (14 + i)) (cpBa (cpTo (cpSt (va_up (va_up t 0 (upd (upd (upd (upd (upd (upd (t 0) 0 ((g 0) 0)) 1 ((g 0) 1)) 2 ((g 0) 2)) 3 ((g 0) 3)) 4 ((g 0) 4)) 5 ((g 0) 5))) 1 (g 1)) g) g) g) ++ zBa (zy E) (fun i => p (14 + i)) g) (r := none) 1 (c_X1_copyFrom (fun i => q (14 + i)) (cpTo (cpSt (va_up (va_up t 0 (upd (upd (upd (upd (upd (upd (t 0) 0 ((g 0) 0)) 1 ((g 0) 1)) 2 ((g 0) 2)) 3 ((g 0) 3)) 4 ((g 0) 4)) 5 ((g 0) 5))) 1 (g 1)) g) g) (fun i => p (14 + i)) g) gX5_copyFrom_X1_copyFrom (q0 := 14) (ci := 0) (by decide +kernel) rfl rfl rfl ⟨by decide, by decide⟩ [14, 15, 30, 31] rfl (by decide) rfl (Nat.le_of_ble_eq_true rfl) rfl rfl dX5_copyFrom_89 ?_ hkR
  exact z_vret h hf rfl rfl rfl dX5_copyFrom_92

theorem iX5_takeSnow_X5 : ∀ w ∈ u_ws RX5 TX5 10, w ∈ wsX5_takeSnow := by decide +kernel
set_option maxHeartbeats 4000000 in
set_option maxRecDepth 100000 in
/-- takeSnow -/
theorem c_X5_takeSnow {l : Launch} {y : zY} {D : va_G} (q : Nat → Nat) (g : Nat → Nat → Int32) (u : Int32) : zM l y D yX5_takeSnow wsX5_takeSnow 0 0 [.ref (q 0), .int u] (zSa y q g) (zSa y q (tsG g u)) (none) := by
  refine z_start (own := RX5) (cc := cX5_takeSnow) (maxL := 2) (ret := none) rfl (by decide +kernel) rfl (Nat.le_of_ble_eq_true rfl) rfl ?_
  intro E hEl hEy hED h hf
  subst hEl hEy hED
  have hkR : 0 ≤ E.2.2.2.2.2.1.cells ∧ 0 ≤ E.2.2.2.2.2.1.slots := ⟨Nat.zero_le _, Nat.zero_le _⟩
  refine z_cast (lv := [(0, .ref (q 0)), (1, .int u)]) (ws := (zSa (zy E) q g)) (st := []) ?_ rfl rfl rfl
  refine z_aload_n h 0 rfl dX5_takeSnow_0 ?_
  refine z_dup h dX5_takeSnow_1 rfl ?_
  refine z_get h 0 4 0 (v := .int ((g 0) 0)) rfl rfl iX5_takeSnow_X5 (by decide) (List.mem_of_getElem? (i := 1) (by decide +kernel)) rfl rfl dX5_takeSnow_2 ?_
  refine z_iload_n h 1 rfl dX5_takeSnow_5 ?_
  refine z_iadd h dX5_takeSnow_6 ?_
  refine z_put h 0 4 0 (ws' := zSa (zy E) q (va_up g 0 (upd (g 0) 0 (((g 0) 0) + u)))) tyX5 .int rfl rfl iX5_takeSnow_X5 tyX5_ok nmX5 (by decide) (List.mem_of_getElem? (i := 1) (by decide +kernel)) rfl rfl (by decide +kernel) rfl rfl (Nat.le_of_ble_eq_true rfl) rfl dX5_takeSnow_7 ?_
  exact z_vret h hf rfl rfl rfl dX5_takeSnow_10

theorem iX5_makeBlocks_X5 : ∀ w ∈ u_ws RX5 TX5 10, w ∈ wsX5_makeBlocks := by decide +kernel
set_option maxHeartbeats 4000000 in
set_option maxRecDepth 100000 in
/-- makeBlocks -/
theorem c_X5_makeBlocks {l : Launch} {y : zY} {D : va_G} (q : Nat → Nat) (g : Nat → Nat → Int32) (k : Nat) (b : Int32) (hk : k < 3) : zM l y D yX5_makeBlocks wsX5_makeBlocks 0 0 [.ref (q 0), .int (nI k), .int b] (zSa y q g) (zSa y q (mkG g k b)) (none) := by
  refine z_start (own := RX5) (cc := cX5_makeBlocks) (maxL := 3) (ret := none) rfl (by decide +kernel) rfl (Nat.le_of_ble_eq_true rfl) rfl ?_
  intro E hEl hEy hED h hf
  subst hEl hEy hED
  have hkR : 0 ≤ E.2.2.2.2.2.1.cells ∧ 0 ≤ E.2.2.2.2.2.1.slots := ⟨Nat.zero_le _, Nat.zero_le _⟩
  refine z_cast (lv := [(0, .ref (q 0)), (1, .int (nI k)), (2, .int b)]) (ws := (zSa (zy E) q g)) (st := []) ?_ rfl rfl rfl
  refine z_aload_n h 0 rfl dX5_makeBlocks_0 ?_
  refine z_dup h dX5_makeBlocks_1 rfl ?_
  refine z_get h 0 4 0 (v := .int ((g 0) 0)) rfl rfl iX5_makeBlocks_X5 (by decide) (List.mem_of_getElem? (i := 1) (by decide +kernel)) rfl rfl dX5_makeBlocks_2 ?_
  refine z_iload_n h 2 rfl dX5_makeBlocks_5 ?_
  refine z_bipush h (nI 100) (by decide +kernel) dX5_makeBlocks_6 ?_
  refine z_imul h dX5_makeBlocks_8 ?_
  refine z_isub h dX5_makeBlocks_9 ?_
  refine z_put h 0 4 0 (ws' := zSa (zy E) q (va_up g 0 (upd (g 0) 0 (((g 0) 0) - (b * (nI 100)))))) tyX5 .int rfl rfl iX5_makeBlocks_X5 tyX5_ok nmX5 (by decide) (List.mem_of_getElem? (i := 1) (by decide +kernel)) rfl rfl (by decide +kernel) rfl rfl (Nat.le_of_ble_eq_true rfl) rfl dX5_makeBlocks_10 ?_
  refine z_aload_n h 0 rfl dX5_makeBlocks_13 ?_
  refine z_get h 0 4 6 (v := .ref (q 1)) rfl rfl iX5_makeBlocks_X5 (by decide) (List.mem_of_getElem? (i := 2) (by decide +kernel)) rfl rfl dX5_makeBlocks_14 ?_
  refine z_iload_n h 1 rfl dX5_makeBlocks_17 ?_
  refine z_dup2 h dX5_makeBlocks_18 rfl rfl ?_
  refine z_iald h 1 k (f := g 1) rfl rfl rfl (by omega) (by decide) dX5_makeBlocks_19 ?_
  refine z_iload_n h 2 rfl dX5_makeBlocks_20 ?_
  refine z_iadd h dX5_makeBlocks_21 ?_
  refine z_iast h 1 k (((g 1) k) + b) (ws' := zSa (zy E) q (va_up (va_up g 0 (upd (g 0) 0 (((g 0) 0) - (b * (nI 100))))) 1 (upd (g 1) k (((g 1) k) + b)))) rfl rfl rfl rfl (by omega) (by decide) rfl dX5_makeBlocks_22 ?_
  refine z_aload_n h 0 rfl dX5_makeBlocks_23 ?_
  refine z_dup h dX5_makeBlocks_24 rfl ?_
  refine z_get h 0 4 1 (v := .int ((upd (g 0) 0 (((g 0) 0) - (b * (nI 100)))) 1)) rfl rfl iX5_makeBlocks_X5 (by decide) (List.mem_of_getElem? (i := 3) (by decide +kernel)) rfl rfl dX5_makeBlocks_25 ?_
  refine z_iload_n h 2 rfl dX5_makeBlocks_28 ?_
  refine z_iadd h dX5_makeBlocks_29 ?_
  refine z_put h 0 4 1 (ws' := zSa (zy E) q (va_up (va_up g 0 (upd (upd (g 0) 0 (((g 0) 0) - (b * (nI 100)))) 1 (((upd (g 0) 0 (((g 0) 0) - (b * (nI 100)))) 1) + b))) 1 (upd (g 1) k (((g 1) k) + b)))) tyX5 .int rfl rfl iX5_makeBlocks_X5 tyX5_ok nmX5 (by decide) (List.mem_of_getElem? (i := 3) (by decide +kernel)) rfl rfl (by decide +kernel) rfl rfl (Nat.le_of_ble_eq_true rfl) rfl dX5_makeBlocks_30 ?_
  exact z_vret h hf rfl rfl rfl dX5_makeBlocks_33

theorem iX5_putBlock_X5 : ∀ w ∈ u_ws RX5 TX5 10, w ∈ wsX5_putBlock := by decide +kernel
set_option maxHeartbeats 4000000 in
set_option maxRecDepth 100000 in
/-- putBlock -/
theorem c_X5_putBlock {l : Launch} {y : zY} {D : va_G} (q : Nat → Nat) (g : Nat → Nat → Int32) (s k : Nat) (hs : s < 8) (hk : k < 3) (hlt : zh g s < 6) (hg : okH g) : zM l y D yX5_putBlock wsX5_putBlock 2 44 [.ref (q 0), .int (nI s), .int (nI k)] (zSa y q g) (zSa y q (pbG g s k)) (none) := by
  refine z_start (own := RX5) (cc := cX5_putBlock) (maxL := 3) (ret := none) rfl (by decide +kernel) rfl (Nat.le_of_ble_eq_true rfl) rfl ?_
  intro E hEl hEy hED h hf
  subst hEl hEy hED
  have hkR : 0 ≤ E.2.2.2.2.2.1.cells ∧ 0 ≤ E.2.2.2.2.2.1.slots := ⟨Nat.zero_le _, Nat.zero_le _⟩
  refine z_cast (lv := [(0, .ref (q 0)), (1, .int (nI s)), (2, .int (nI k))]) (ws := (zSa (zy E) q g)) (st := []) ?_ rfl rfl rfl
  refine z_aload_n h 0 rfl dX5_putBlock_0 ?_
  refine z_get h 0 4 6 (v := .ref (q 1)) rfl rfl iX5_putBlock_X5 (by decide) (List.mem_of_getElem? (i := 1) (by decide +kernel)) rfl rfl dX5_putBlock_1 ?_
  refine z_iload_n h 2 rfl dX5_putBlock_4 ?_
  refine z_dup2 h dX5_putBlock_5 rfl rfl ?_
  refine z_iald h 1 k (f := g 1) rfl rfl rfl (by omega) (by decide) dX5_putBlock_6 ?_
  refine z_iconst h (nI 1) (by decide +kernel) dX5_putBlock_7 ?_
  refine z_isub h dX5_putBlock_8 ?_
  refine z_iast h 1 k (((g 1) k) - (nI 1)) (ws' := zSa (zy E) q (va_up g 1 (upd (g 1) k (((g 1) k) - (nI 1))))) rfl rfl rfl rfl (by omega) (by decide) rfl dX5_putBlock_9 ?_
  refine z_aload_n h 0 rfl dX5_putBlock_10 ?_
  refine z_get h 0 4 7 (v := .ref (q 2)) rfl rfl iX5_putBlock_X5 (by decide) (List.mem_of_getElem? (i := 2) (by decide +kernel)) rfl rfl dX5_putBlock_11 ?_
  refine z_iload_n h 1 rfl dX5_putBlock_14 ?_
  refine z_iload_n h 2 rfl dX5_putBlock_15 ?_
  refine z_callV h (As := [.int (nI s), .int (nI k)]) (st := []) (ws2 := zSa (zy E) q (adG (va_up g 1 (upd (g 1) k (((g 1) k) - (nI 1)))) s (nI k))) (B := zSt (zy E) (fun i => q (2 + i)) (va_up g 1 (upd (g 1) k (((g 1) k) - (nI 1))))) (B' := zSt (zy E) (fun i => q (2 + i)) (adG (va_up g 1 (upd (g 1) k (((g 1) k) - (nI 1)))) s (nI k))) (r := none) 2 (c_X4_add (fun i => q (2 + i)) (va_up g 1 (upd (g 1) k (((g 1) k) - (nI 1)))) s (nI k) (by omega) hlt hg) gX5_putBlock_X4_add (q0 := 2) (ci := 3) (by decide +kernel) rfl rfl rfl ⟨by decide, by decide⟩ [2, 3, 4, 5, 6, 7, 8, 9] rfl (by decide) rfl (Nat.le_of_ble_eq_true rfl) rfl rfl dX5_putBlock_16 ?_ hkR
  exact z_vret h hf rfl rfl rfl dX5_putBlock_19

theorem iX5_reasonAgainst_X4 : ∀ w ∈ u_ws RX4 TX4 7, w ∈ wsX5_reasonAgainst := by decide +kernel
theorem iX5_reasonAgainst_X5 : ∀ w ∈ u_ws RX5 TX5 10, w ∈ wsX5_reasonAgainst := by decide +kernel
theorem iX5_reasonAgainst_X6 : ∀ w ∈ u_ws RX6 TX6 4, w ∈ wsX5_reasonAgainst := by decide +kernel
set_option maxHeartbeats 4000000 in
set_option maxRecDepth 100000 in
/-- reasonAgainst -/
theorem c_X5_reasonAgainst {l : Launch} {y : zY} {D : va_G} (q : Nat → Nat) (g : Nat → Nat → Int32) (t s v : Nat) (u : Int32) (ht : t < 5) (hs : s < 8) (hv : v < 6) : zM l y D yX5_reasonAgainst wsX5_reasonAgainst 2 43 [.ref (q 0), .int (nI t), .int (nI s), .int (nI v), .int u] (zSa y q g) (zSa y q g) (some (.int (raG g t s v u))) := by
  refine z_start (own := RX5) (cc := cX5_reasonAgainst) (maxL := 5) (ret := (some .int)) rfl (by decide +kernel) rfl (Nat.le_of_ble_eq_true rfl) rfl ?_
  intro E hEl hEy hED h hf
  subst hEl hEy hED
  have hkR : 0 ≤ E.2.2.2.2.2.1.cells ∧ 0 ≤ E.2.2.2.2.2.1.slots := ⟨Nat.zero_le _, Nat.zero_le _⟩
  refine z_cast (lv := [(0, .ref (q 0)), (1, .int (nI t)), (2, .int (nI s)), (3, .int (nI v)), (4, .int u)]) (ws := (zSa (zy E) q g)) (st := []) ?_ rfl rfl rfl
  refine z_aload_n h 0 rfl dX5_reasonAgainst_0 ?_
  refine z_get h 0 4 7 (v := .ref (q 2)) rfl rfl iX5_reasonAgainst_X5 (by decide) (List.mem_of_getElem? (i := 1) (by decide +kernel)) rfl rfl dX5_reasonAgainst_1 ?_
  refine z_iload_n h 2 rfl dX5_reasonAgainst_4 ?_
  refine z_iconst h (nI 0) (by decide +kernel) dX5_reasonAgainst_5 ?_
  refine z_callV h (As := [.int (nI s), .int (nI 0)]) (st := []) (ws2 := zSa (zy E) q g) (B := zSt (zy E) (fun i => q (2 + i)) g) (B' := zSt (zy E) (fun i => q (2 + i)) g) (r := some (.int (hbl g (nI s) (nI 0)))) 2 (c_X4_hasBlock (fun i => q (2 + i)) g (nI s) (nI 0)) gX5_reasonAgainst_X4_hasBlock (q0 := 2) (ci := 3) (by decide +kernel) rfl rfl rfl ⟨by decide, by decide⟩ [2, 3, 4, 5, 6, 7, 8, 9] rfl (by decide) rfl (Nat.le_of_ble_eq_true rfl) rfl rfl dX5_reasonAgainst_6 ?_ hkR
  refine z_if_ne h 14 dX5_reasonAgainst_9 (by decide) (fun c_9 => ?_) (fun c_9 => ?_)
  · refine z_aload_n h 0 rfl dX5_reasonAgainst_14 ?_
    refine z_get h 0 4 7 (v := .ref (q 2)) rfl rfl iX5_reasonAgainst_X5 (by decide) (List.mem_of_getElem? (i := 1) (by decide +kernel)) rfl rfl dX5_reasonAgainst_15 ?_
    refine z_iload_n h 2 rfl dX5_reasonAgainst_18 ?_
    refine z_iload_n h 3 rfl dX5_reasonAgainst_19 ?_
    refine z_callV h (As := [.int (nI s), .int (nI v)]) (st := []) (ws2 := zSa (zy E) q g) (B := zSt (zy E) (fun i => q (2 + i)) g) (B' := zSt (zy E) (fun i => q (2 + i)) g) (r := some (.int (hbl g (nI s) (nI v)))) 2 (c_X4_hasBlock (fun i => q (2 + i)) g (nI s) (nI v)) gX5_reasonAgainst_X4_hasBlock (q0 := 2) (ci := 3) (by decide +kernel) rfl rfl rfl ⟨by decide, by decide⟩ [2, 3, 4, 5, 6, 7, 8, 9] rfl (by decide) rfl (Nat.le_of_ble_eq_true rfl) rfl rfl dX5_reasonAgainst_20 ?_ hkR
    refine z_if_ne h 28 dX5_reasonAgainst_23 (by decide) (fun c_23 => ?_) (fun c_23 => ?_)
    · refine z_aload_n h 0 rfl dX5_reasonAgainst_28 ?_
      refine z_get h 0 4 7 (v := .ref (q 2)) rfl rfl iX5_reasonAgainst_X5 (by decide) (List.mem_of_getElem? (i := 1) (by decide +kernel)) rfl rfl dX5_reasonAgainst_29 ?_
      refine z_get h 2 3 5 (v := .ref (q 8)) rfl rfl iX5_reasonAgainst_X4 (by decide) (List.mem_of_getElem? (i := 2) (by decide +kernel)) rfl rfl dX5_reasonAgainst_32 ?_
      refine z_iload_n h 2 rfl dX5_reasonAgainst_35 ?_
      refine z_iload_n h 3 rfl dX5_reasonAgainst_36 ?_
      refine z_callSN h (As := [.int (nI s), .int (nI v)]) (st := [.ref (q 8)]) (ws2 := zSa (zy E) q g) (B := []) (B' := []) (r := some (.int (nI (s * 6 + v)))) 2 (c_X9_placeOf s v) gX5_reasonAgainst_X9_placeOf_n80 (host := "SnowSites") (by decide +kernel) (List.mem_of_getElem? (i := 16) (by decide +kernel)) (List.mem_of_getElem? (i := 15) (by decide +kernel)) (by decide +kernel) rfl ⟨by decide, by decide⟩ [] rfl (by decide) rfl (Nat.le_of_ble_eq_true rfl) rfl rfl dX5_reasonAgainst_37 ?_ hkR
      refine z_iald h 8 (s * 6 + v) (f := g 7) rfl rfl rfl (by omega) (by decide) dX5_reasonAgainst_40 ?_
      refine z_iload h 4 rfl dX5_reasonAgainst_41 ?_
      refine z_icmp_ge h 48 dX5_reasonAgainst_43 (by decide) (fun c_43 => ?_) (fun c_43 => ?_)
      · refine z_aload_n h 0 rfl dX5_reasonAgainst_48 ?_
        refine z_get h 0 4 8 (v := .ref (q 10)) rfl rfl iX5_reasonAgainst_X5 (by decide) (List.mem_of_getElem? (i := 3) (by decide +kernel)) rfl rfl dX5_reasonAgainst_49 ?_
        refine z_get h 10 5 2 (v := .ref (q 12)) rfl rfl iX5_reasonAgainst_X6 (by decide) (List.mem_of_getElem? (i := 4) (by decide +kernel)) rfl rfl dX5_reasonAgainst_52 ?_
        refine z_iload_n h 1 rfl dX5_reasonAgainst_55 ?_
        refine z_iald h 12 t (f := g 10) rfl rfl rfl (by omega) (by decide) dX5_reasonAgainst_56 ?_
        refine z_aload_n h 0 rfl dX5_reasonAgainst_57 ?_
        refine z_get h 0 4 8 (v := .ref (q 10)) rfl rfl iX5_reasonAgainst_X5 (by decide) (List.mem_of_getElem? (i := 3) (by decide +kernel)) rfl rfl dX5_reasonAgainst_58 ?_
        refine z_iload_n h 1 rfl dX5_reasonAgainst_61 ?_
        refine z_iload h 4 rfl dX5_reasonAgainst_62 ?_
        refine z_callV h (As := [.int (nI t), .int u]) (st := [.int ((g 10) t)]) (ws2 := zSa (zy E) q g) (B := zTo (zy E) (fun i => q (10 + i)) g) (B' := zTo (zy E) (fun i => q (10 + i)) g) (r := some (.int (mtc (g 9 t) u))) 2 (c_X6_minutesToCarve (fun i => q (10 + i)) g t u (by omega)) gX5_reasonAgainst_X6_minutesToCarve (q0 := 10) (ci := 5) (by decide +kernel) rfl rfl rfl ⟨by decide, by decide⟩ [10, 11, 12, 13] rfl (by decide) rfl (Nat.le_of_ble_eq_true rfl) rfl rfl dX5_reasonAgainst_64 ?_ hkR
        refine z_icmp_ge h 74 dX5_reasonAgainst_67 (by decide) (fun c_67 => ?_) (fun c_67 => ?_)
        · refine z_iconst h (nI 0) (by decide +kernel) dX5_reasonAgainst_74 ?_
          exact z_iret h hf rfl (by first | rfl | ((try simp only [raG, if_neg c_9, if_neg c_23, if_pos c_43, if_pos c_67]) <;> (try rfl))) rfl dX5_reasonAgainst_75
        · refine z_iconst h (nI 4) (by decide +kernel) dX5_reasonAgainst_70 ?_
          refine z_goto h 75 dX5_reasonAgainst_71 (by decide) ?_
          exact z_iret h hf rfl (by first | rfl | ((try simp only [raG, if_neg c_9, if_neg c_23, if_pos c_43, if_neg c_67]) <;> (try rfl))) rfl dX5_reasonAgainst_75
      · refine z_iconst h (nI 3) (by decide +kernel) dX5_reasonAgainst_46 ?_
        exact z_iret h hf rfl (by first | rfl | ((try simp only [raG, if_neg c_9, if_neg c_23, if_neg c_43]) <;> (try rfl))) rfl dX5_reasonAgainst_47
    · refine z_iconst h (nI 2) (by decide +kernel) dX5_reasonAgainst_26 ?_
      exact z_iret h hf rfl (by first | rfl | ((try simp only [raG, if_neg c_9, if_pos c_23]) <;> (try rfl))) rfl dX5_reasonAgainst_27
  · refine z_iconst h (nI 1) (by decide +kernel) dX5_reasonAgainst_12 ?_
    exact z_iret h hf rfl (by first | rfl | ((try simp only [raG, if_pos c_9]) <;> (try rfl))) rfl dX5_reasonAgainst_13

theorem iX5_cutOff_X5 : ∀ w ∈ u_ws RX5 TX5 10, w ∈ wsX5_cutOff := by decide +kernel
set_option maxHeartbeats 4000000 in
set_option maxRecDepth 100000 in
/-- cutOff -/
theorem c_X5_cutOff {l : Launch} {y : zY} {D : va_G} (q : Nat → Nat) (g : Nat → Nat → Int32) (t s v : Nat) (u : Int32) (ht : t < 5) (hs : s < 8) (hv : v < 6) (hg : okH g) : zM l y D yX5_cutOff wsX5_cutOff 3 71 [.ref (q 0), .int (nI t), .int (nI s), .int (nI v), .int u] (zSa y q g) (zSa y q (coG g t s v u)) (some (.int (g 7 (s * 6 + v) - u))) := by
  refine z_start (own := RX5) (cc := cX5_cutOff) (maxL := 5) (ret := (some .int)) rfl (by decide +kernel) rfl (Nat.le_of_ble_eq_true rfl) rfl ?_
  intro E hEl hEy hED h hf
  subst hEl hEy hED
  have hkR : 0 ≤ E.2.2.2.2.2.1.cells ∧ 0 ≤ E.2.2.2.2.2.1.slots := ⟨Nat.zero_le _, Nat.zero_le _⟩
  refine z_cast (lv := [(0, .ref (q 0)), (1, .int (nI t)), (2, .int (nI s)), (3, .int (nI v)), (4, .int u)]) (ws := (zSa (zy E) q g)) (st := []) ?_ rfl rfl rfl
  refine z_aload_n h 0 rfl dX5_cutOff_0 ?_
  refine z_get h 0 4 8 (v := .ref (q 10)) rfl rfl iX5_cutOff_X5 (by decide) (List.mem_of_getElem? (i := 1) (by decide +kernel)) rfl rfl dX5_cutOff_1 ?_
  refine z_iload_n h 1 rfl dX5_cutOff_4 ?_
  refine z_aload_n h 0 rfl dX5_cutOff_5 ?_
  refine z_get h 0 4 8 (v := .ref (q 10)) rfl rfl iX5_cutOff_X5 (by decide) (List.mem_of_getElem? (i := 1) (by decide +kernel)) rfl rfl dX5_cutOff_6 ?_
  refine z_iload_n h 1 rfl dX5_cutOff_9 ?_
  refine z_iload h 4 rfl dX5_cutOff_10 ?_
  refine z_callV h (As := [.int (nI t), .int u]) (st := [.int (nI t), .ref (q 10)]) (ws2 := zSa (zy E) q g) (B := zTo (zy E) (fun i => q (10 + i)) g) (B' := zTo (zy E) (fun i => q (10 + i)) g) (r := some (.int (mtc (g 9 t) u))) 2 (c_X6_minutesToCarve (fun i => q (10 + i)) g t u (by omega)) gX5_cutOff_X6_minutesToCarve (q0 := 10) (ci := 5) (by decide +kernel) rfl rfl rfl ⟨by decide, by decide⟩ [10, 11, 12, 13] rfl (by decide) rfl (Nat.le_of_ble_eq_true rfl) rfl rfl dX5_cutOff_12 ?_ hkR
  refine z_callV h (As := [.int (nI t), .int (mtc (g 9 t) u)]) (st := []) (ws2 := zSa (zy E) q (usG g t (mtc (g 9 t) u))) (B := zTo (zy E) (fun i => q (10 + i)) g) (B' := zTo (zy E) (fun i => q (10 + i)) (usG g t (mtc (g 9 t) u))) (r := none) 2 (c_X6_use (fun i => q (10 + i)) g t (mtc (g 9 t) u) (by omega)) gX5_cutOff_X6_use (q0 := 10) (ci := 5) (by decide +kernel) rfl rfl rfl ⟨by decide, by decide⟩ [10, 11, 12, 13] rfl (by decide) rfl (Nat.le_of_ble_eq_true rfl) rfl rfl dX5_cutOff_15 ?_ hkR
  refine z_aload_n h 0 rfl dX5_cutOff_18 ?_
  refine z_dup h dX5_cutOff_19 rfl ?_
  refine z_get h 0 4 2 (v := .int ((g 0) 2)) rfl rfl iX5_cutOff_X5 (by decide) (List.mem_of_getElem? (i := 2) (by decide +kernel)) rfl rfl dX5_cutOff_20 ?_
  refine z_iload h 4 rfl dX5_cutOff_23 ?_
  refine z_iadd h dX5_cutOff_25 ?_
  refine z_put h 0 4 2 (ws' := zSa (zy E) q (va_up (usG g t (mtc (g 9 t) u)) 0 (upd (g 0) 2 (((g 0) 2) + u)))) tyX5 .int rfl rfl iX5_cutOff_X5 tyX5_ok nmX5 (by decide) (List.mem_of_getElem? (i := 2) (by decide +kernel)) rfl rfl (by decide +kernel) rfl rfl (Nat.le_of_ble_eq_true rfl) rfl dX5_cutOff_26 ?_
  refine z_aload_n h 0 rfl dX5_cutOff_29 ?_
  refine z_get h 0 4 7 (v := .ref (q 2)) rfl rfl iX5_cutOff_X5 (by decide) (List.mem_of_getElem? (i := 3) (by decide +kernel)) rfl rfl dX5_cutOff_30 ?_
  refine z_iload_n h 2 rfl dX5_cutOff_33 ?_
  refine z_iload_n h 3 rfl dX5_cutOff_34 ?_
  refine z_iload h 4 rfl dX5_cutOff_35 ?_
  refine z_callV h (As := [.int (nI s), .int (nI v), .int u]) (st := []) (ws2 := zSa (zy E) q (ctG (va_up (usG g t (mtc (g 9 t) u)) 0 (upd (g 0) 2 (((g 0) 2) + u))) s v u)) (B := zSt (zy E) (fun i => q (2 + i)) (va_up (usG g t (mtc (g 9 t) u)) 0 (upd (g 0) 2 (((g 0) 2) + u)))) (B' := zSt (zy E) (fun i => q (2 + i)) (ctG (va_up (usG g t (mtc (g 9 t) u)) 0 (upd (g 0) 2 (((g 0) 2) + u))) s v u)) (r := some (.int ((va_up (usG g t (mtc (g 9 t) u)) 0 (upd (g 0) 2 (((g 0) 2) + u))) 7 (s * 6 + v) - u))) 3 (c_X4_cut (fun i => q (2 + i)) (va_up (usG g t (mtc (g 9 t) u)) 0 (upd (g 0) 2 (((g 0) 2) + u))) s v u (by omega) (by omega) hg) gX5_cutOff_X4_cut (q0 := 2) (ci := 3) (by decide +kernel) rfl rfl rfl ⟨by decide, by decide⟩ [2, 3, 4, 5, 6, 7, 8, 9] rfl (by decide) rfl (Nat.le_of_ble_eq_true rfl) rfl rfl dX5_cutOff_37 ?_ hkR
  exact z_iret h hf rfl rfl rfl dX5_cutOff_40

theorem iX5_putOffcutsBack_X5 : ∀ w ∈ u_ws RX5 TX5 10, w ∈ wsX5_putOffcutsBack := by decide +kernel
set_option maxHeartbeats 4000000 in
set_option maxRecDepth 100000 in
/-- putOffcutsBack -/
theorem c_X5_putOffcutsBack {l : Launch} {y : zY} {D : va_G} (q : Nat → Nat) (g : Nat → Nat → Int32) : zM l y D yX5_putOffcutsBack wsX5_putOffcutsBack 1 21 [.ref (q 0)] (zSa y q g) (zSa y q (obG g)) (some (.int (obU g))) := by
  refine z_start (own := RX5) (cc := cX5_putOffcutsBack) (maxL := 2) (ret := (some .int)) rfl (by decide +kernel) rfl (Nat.le_of_ble_eq_true rfl) rfl ?_
  intro E hEl hEy hED h hf
  subst hEl hEy hED
  have hkR : 0 ≤ E.2.2.2.2.2.1.cells ∧ 0 ≤ E.2.2.2.2.2.1.slots := ⟨Nat.zero_le _, Nat.zero_le _⟩
  refine z_cast (lv := [(0, .ref (q 0))]) (ws := (zSa (zy E) q g)) (st := []) ?_ rfl rfl rfl
  refine z_aload_n h 0 rfl dX5_putOffcutsBack_0 ?_
  refine z_get h 0 4 2 (v := .int ((g 0) 2)) rfl rfl iX5_putOffcutsBack_X5 (by decide) (List.mem_of_getElem? (i := 1) (by decide +kernel)) rfl rfl dX5_putOffcutsBack_1 ?_
  refine z_sipush h (nI 9999) (by decide +kernel) dX5_putOffcutsBack_4 ?_
  refine z_aload_n h 0 rfl dX5_putOffcutsBack_7 ?_
  refine z_get h 0 4 0 (v := .int ((g 0) 0)) rfl rfl iX5_putOffcutsBack_X5 (by decide) (List.mem_of_getElem? (i := 2) (by decide +kernel)) rfl rfl dX5_putOffcutsBack_8 ?_
  refine z_isub h dX5_putOffcutsBack_11 ?_
  refine z_min h (List.mem_of_getElem? (i := 3) (by decide +kernel)) (List.mem_of_getElem? (i := 4) (by decide +kernel)) (List.mem_of_getElem? (i := 5) (by decide +kernel)) (List.mem_of_getElem? (i := 6) (by decide +kernel)) ⟨by decide, Nat.le_of_ble_eq_true rfl⟩ hkR dX5_putOffcutsBack_12 ?_
  refine z_top (obU g) rfl ?_
  refine z_istore_n h (by decide) (lv' := [(1, .int (obU g)), (0, .ref (q 0))]) rfl dX5_putOffcutsBack_15 ?_
  refine z_aload_n h 1 rfl dX5_putOffcutsBack_16 ?_
  refine z_dup h dX5_putOffcutsBack_17 rfl ?_
  refine z_get h 0 4 2 (v := .int ((g 0) 2)) rfl rfl iX5_putOffcutsBack_X5 (by decide) (List.mem_of_getElem? (i := 1) (by decide +kernel)) rfl rfl dX5_putOffcutsBack_18 ?_
  refine z_iload_n h 0 rfl dX5_putOffcutsBack_21 ?_
  refine z_isub h dX5_putOffcutsBack_22 ?_
  refine z_put h 0 4 2 (ws' := zSa (zy E) q (va_up g 0 (upd (g 0) 2 (((g 0) 2) - (obU g))))) tyX5 .int rfl rfl iX5_putOffcutsBack_X5 tyX5_ok nmX5 (by decide) (List.mem_of_getElem? (i := 1) (by decide +kernel)) rfl rfl (by decide +kernel) rfl rfl (Nat.le_of_ble_eq_true rfl) rfl dX5_putOffcutsBack_23 ?_
  refine z_aload_n h 1 rfl dX5_putOffcutsBack_26 ?_
  refine z_dup h dX5_putOffcutsBack_27 rfl ?_
  refine z_get h 0 4 0 (v := .int ((upd (g 0) 2 (((g 0) 2) - (obU g))) 0)) rfl rfl iX5_putOffcutsBack_X5 (by decide) (List.mem_of_getElem? (i := 2) (by decide +kernel)) rfl rfl dX5_putOffcutsBack_28 ?_
  refine z_iload_n h 0 rfl dX5_putOffcutsBack_31 ?_
  refine z_iadd h dX5_putOffcutsBack_32 ?_
  refine z_put h 0 4 0 (ws' := zSa (zy E) q (va_up g 0 (upd (upd (g 0) 2 (((g 0) 2) - (obU g))) 0 (((upd (g 0) 2 (((g 0) 2) - (obU g))) 0) + (obU g))))) tyX5 .int rfl rfl iX5_putOffcutsBack_X5 tyX5_ok nmX5 (by decide) (List.mem_of_getElem? (i := 2) (by decide +kernel)) rfl rfl (by decide +kernel) rfl rfl (Nat.le_of_ble_eq_true rfl) rfl dX5_putOffcutsBack_33 ?_
  refine z_aload_n h 1 rfl dX5_putOffcutsBack_36 ?_
  refine z_dup h dX5_putOffcutsBack_37 rfl ?_
  refine z_get h 0 4 3 (v := .int ((upd (upd (g 0) 2 (((g 0) 2) - (obU g))) 0 (((upd (g 0) 2 (((g 0) 2) - (obU g))) 0) + (obU g))) 3)) rfl rfl iX5_putOffcutsBack_X5 (by decide) (List.mem_of_getElem? (i := 7) (by decide +kernel)) rfl rfl dX5_putOffcutsBack_38 ?_
  refine z_iload_n h 0 rfl dX5_putOffcutsBack_41 ?_
  refine z_iadd h dX5_putOffcutsBack_42 ?_
  refine z_put h 0 4 3 (ws' := zSa (zy E) q (va_up g 0 (upd (upd (upd (g 0) 2 (((g 0) 2) - (obU g))) 0 (((upd (g 0) 2 (((g 0) 2) - (obU g))) 0) + (obU g))) 3 (((upd (upd (g 0) 2 (((g 0) 2) - (obU g))) 0 (((upd (g 0) 2 (((g 0) 2) - (obU g))) 0) + (obU g))) 3) + (obU g))))) tyX5 .int rfl rfl iX5_putOffcutsBack_X5 tyX5_ok nmX5 (by decide) (List.mem_of_getElem? (i := 7) (by decide +kernel)) rfl rfl (by decide +kernel) rfl rfl (Nat.le_of_ble_eq_true rfl) rfl dX5_putOffcutsBack_43 ?_
  refine z_iload_n h 0 rfl dX5_putOffcutsBack_46 ?_
  exact z_iret h hf rfl rfl rfl dX5_putOffcutsBack_47

theorem iX5_passHours_X5 : ∀ w ∈ u_ws RX5 TX5 10, w ∈ wsX5_passHours := by decide +kernel
set_option maxHeartbeats 4000000 in
set_option maxRecDepth 100000 in
/-- passHours -/
theorem c_X5_passHours {l : Launch} {y : zY} {D : va_G} (q : Nat → Nat) (g : Nat → Nat → Int32) (n : Nat) (z : Int32) (hn : n ≤ 24) (hg : okH g) (hgt : okT g) : zM l y D yX5_passHours wsX5_passHours 4 95 [.ref (q 0), .int (nI n), .int z] (zSa y q g) (zSa y q (phG g z n)) (some (.int (phS g z n))) := by
  refine z_start (own := RX5) (cc := cX5_passHours) (maxL := 5) (ret := (some .int)) rfl (by decide +kernel) rfl (Nat.le_of_ble_eq_true rfl) rfl ?_
  intro E hEl hEy hED h hf
  subst hEl hEy hED
  have hkR : 0 ≤ E.2.2.2.2.2.1.cells ∧ 0 ≤ E.2.2.2.2.2.1.slots := ⟨Nat.zero_le _, Nat.zero_le _⟩
  refine z_cast (lv := [(0, .ref (q 0)), (1, .int (nI n)), (2, .int z)]) (ws := (zSa (zy E) q g)) (st := []) ?_ rfl rfl rfl
  refine z_iconst h (nI 0) (by decide +kernel) dX5_passHours_0 ?_
  refine z_istore_n h (by decide) (lv' := [(3, .int (nI 0)), (0, .ref (q 0)), (1, .int (nI n)), (2, .int z)]) rfl dX5_passHours_1 ?_
  refine z_iconst h (nI 0) (by decide +kernel) dX5_passHours_2 ?_
  refine z_istore h (by decide) (lv' := [(4, .int (nI 0)), (3, .int (nI 0)), (0, .ref (q 0)), (1, .int (nI n)), (2, .int z)]) rfl dX5_passHours_3 ?_
  have lp_5 : ∀ (d_5 i : Nat), n < i + d_5 → i ≤ n → Z E 0 0 [(0, .ref (q 0)), (1, .int (nI n)), (2, .int z), (3, .int (phS g z i)), (4, .int (nI i))] (zSa (zy E) q (phG g z i)) 5 [] := by
    intro d_5
    induction d_5 with
    | zero => intro i  q1 q2; omega
    | succ d_5 ih_5 =>
      intro i  q1_5 q2_5 
      refine z_iload h 4 rfl dX5_passHours_5 ?_
      refine z_iload_n h 1 rfl dX5_passHours_7 ?_
      refine z_icmp_ge h 80 dX5_passHours_8 (by decide) (fun c_8 => ?_) (fun c_8 => ?_)
      · have k_8 : n ≤ i := (nI_leI (by omega) (by omega)).mp c_8
        obtain rfl : i = n := by omega
        refine z_iload_n h 3 rfl dX5_passHours_80 ?_
        exact z_iret h hf rfl rfl rfl dX5_passHours_81
      · have k_8 : ¬ (n ≤ i) := fun q => c_8 ((nI_leI (by omega) (by omega)).mpr q)
        refine z_iload_n h 3 rfl dX5_passHours_11 ?_
        refine z_iload_n h 2 rfl dX5_passHours_12 ?_
        refine z_if_eq h 20 dX5_passHours_13 (by decide) (fun c_13 => ?_) (fun c_13 => ?_)
        · have e8 : phM (phG g z i) z = mlG (phG g z i) (phG g z i 0 4) := if_pos c_13
          have e7 : phV (phG g z i) z = mlS (phG g z i) (phG g z i 0 4) := if_pos c_13
          refine z_aload_n h 0 rfl dX5_passHours_20 ?_
          refine z_get h 0 4 7 (v := .ref (q 2)) rfl rfl iX5_passHours_X5 (by decide) (List.mem_of_getElem? (i := 1) (by decide +kernel)) rfl rfl dX5_passHours_21 ?_
          refine z_aload_n h 0 rfl dX5_passHours_24 ?_
          refine z_get h 0 4 4 (v := .int (((phG g z i) 0) 4)) rfl rfl iX5_passHours_X5 (by decide) (List.mem_of_getElem? (i := 2) (by decide +kernel)) rfl rfl dX5_passHours_25 ?_
          refine z_callV h (As := [.int (((phG g z i) 0) 4)]) (st := [.int (phS g z i)]) (ws2 := zSa (zy E) q (mlG (phG g z i) (((phG g z i) 0) 4))) (B := zSt (zy E) (fun i => q (2 + i)) (phG g z i)) (B' := zSt (zy E) (fun i => q (2 + i)) (mlG (phG g z i) (((phG g z i) 0) 4))) (r := some (.int (mlS (phG g z i) (((phG g z i) 0) 4)))) 1 (c_X4_melt (fun i => q (2 + i)) (phG g z i) (((phG g z i) 0) 4) (ok_ph hg hgt z i).1) gX5_passHours_X4_melt (q0 := 2) (ci := 3) (by decide +kernel) rfl rfl rfl ⟨by decide, by decide⟩ [2, 3, 4, 5, 6, 7, 8, 9] rfl (by decide) rfl (Nat.le_of_ble_eq_true rfl) rfl rfl dX5_passHours_28 ?_ hkR
          refine z_gen (fun m => zSa (zy E) q m) (mlG (phG g z i) (((phG g z i) 0) 4)) (fun m hm => ?_)
          have e6 : phM (phG g z i) z = m := e8.trans hm.symm
          have hT : okT m := by rw [hm]; exact okT_ml (ok_ph hg hgt z i).2 _
          refine z_iadd h dX5_passHours_31 ?_
          refine z_top (phS g z i + phV (phG g z i) z) (by rw [e7]) ?_
          refine z_istore_n h (by decide) (lv' := [(3, .int (phS g z i + phV (phG g z i) z)), (0, .ref (q 0)), (1, .int (nI n)), (2, .int z), (4, .int (nI i))]) rfl dX5_passHours_32 ?_
          refine z_aload_n h 1 rfl dX5_passHours_33 ?_
          refine z_get h 0 4 8 (v := .ref (q 10)) rfl rfl iX5_passHours_X5 (by decide) (List.mem_of_getElem? (i := 3) (by decide +kernel)) rfl rfl dX5_passHours_34 ?_
          refine z_callV h (As := []) (st := []) (ws2 := zSa (zy E) q (rsG m)) (B := zTo (zy E) (fun i => q (10 + i)) m) (B' := zTo (zy E) (fun i => q (10 + i)) (rsG m)) (r := none) 0 (c_X6_restoreMinutes (fun i => q (10 + i)) m hT) gX5_passHours_X6_restoreMinutes (q0 := 10) (ci := 5) (by decide +kernel) rfl rfl rfl ⟨by decide, by decide⟩ [10, 11, 12, 13] rfl (by decide) rfl (Nat.le_of_ble_eq_true rfl) rfl rfl dX5_passHours_37 ?_ hkR
          refine z_aload_n h 1 rfl dX5_passHours_40 ?_
          refine z_dup h dX5_passHours_41 rfl ?_
          refine z_get h 0 4 4 (v := .int ((m 0) 4)) rfl rfl iX5_passHours_X5 (by decide) (List.mem_of_getElem? (i := 2) (by decide +kernel)) rfl rfl dX5_passHours_42 ?_
          refine z_iconst h (nI 1) (by decide +kernel) dX5_passHours_45 ?_
          refine z_iadd h dX5_passHours_46 ?_
          refine z_put h 0 4 4 (ws' := zSa (zy E) q (va_up (rsG m) 0 (upd (m 0) 4 (((m 0) 4) + (nI 1))))) tyX5 .int rfl rfl iX5_passHours_X5 tyX5_ok nmX5 (by decide) (List.mem_of_getElem? (i := 2) (by decide +kernel)) rfl rfl (by decide +kernel) rfl rfl (Nat.le_of_ble_eq_true rfl) rfl dX5_passHours_47 ?_
          refine z_aload_n h 1 rfl dX5_passHours_50 ?_
          refine z_get h 0 4 4 (v := .int ((upd (m 0) 4 (((m 0) 4) + (nI 1))) 4)) rfl rfl iX5_passHours_X5 (by decide) (List.mem_of_getElem? (i := 2) (by decide +kernel)) rfl rfl dX5_passHours_51 ?_
          refine z_bipush h (nI 12) (by decide +kernel) dX5_passHours_54 ?_
          refine z_icmp_lt h 74 dX5_passHours_56 (by decide) (fun c_56 => ?_) (fun c_56 => ?_)
          · refine z_iinc h 4 (nI (i + 1)) rfl z_i1 (by decide) (lv' := [(4, .int (nI (i + 1))), (3, .int (phS g z i + phV (phG g z i) z)), (0, .ref (q 0)), (1, .int (nI n)), (2, .int z)]) rfl dX5_passHours_74 ?_
            refine z_goto h 5 dX5_passHours_77 (by decide) ?_
            refine z_sub [2, 3, 4, 1, 0] (lv' := [(0, .ref (q 0)), (1, .int (nI n)), (2, .int z), (3, .int (phS g z i + phV (phG g z i) z)), (4, .int (nI (i + 1)))]) rfl ?_
            exact z_cast (ih_5 (i + 1) (by omega) (by omega)) rfl (congrArg (zSa (zy E) q) (Eq.symm (Eq.trans (congrArg hrG e6) (if_pos c_56)))) rfl
          · refine z_aload_n h 1 rfl dX5_passHours_59 ?_
            refine z_iconst h (nI 0) (by decide +kernel) dX5_passHours_60 ?_
            refine z_put h 0 4 4 (ws' := zSa (zy E) q (va_up (rsG m) 0 (upd (upd (m 0) 4 (((m 0) 4) + (nI 1))) 4 (nI 0)))) tyX5 .int rfl rfl iX5_passHours_X5 tyX5_ok nmX5 (by decide) (List.mem_of_getElem? (i := 2) (by decide +kernel)) rfl rfl (by decide +kernel) rfl rfl (Nat.le_of_ble_eq_true rfl) rfl dX5_passHours_61 ?_
            refine z_aload_n h 1 rfl dX5_passHours_64 ?_
            refine z_dup h dX5_passHours_65 rfl ?_
            refine z_get h 0 4 5 (v := .int ((upd (upd (m 0) 4 (((m 0) 4) + (nI 1))) 4 (nI 0)) 5)) rfl rfl iX5_passHours_X5 (by decide) (List.mem_of_getElem? (i := 4) (by decide +kernel)) rfl rfl dX5_passHours_66 ?_
            refine z_iconst h (nI 1) (by decide +kernel) dX5_passHours_69 ?_
            refine z_iadd h dX5_passHours_70 ?_
            refine z_put h 0 4 5 (ws' := zSa (zy E) q (va_up (rsG m) 0 (upd (upd (upd (m 0) 4 (((m 0) 4) + (nI 1))) 4 (nI 0)) 5 (((upd (upd (m 0) 4 (((m 0) 4) + (nI 1))) 4 (nI 0)) 5) + (nI 1))))) tyX5 .int rfl rfl iX5_passHours_X5 tyX5_ok nmX5 (by decide) (List.mem_of_getElem? (i := 4) (by decide +kernel)) rfl rfl (by decide +kernel) rfl rfl (Nat.le_of_ble_eq_true rfl) rfl dX5_passHours_71 ?_
            refine z_iinc h 4 (nI (i + 1)) rfl z_i1 (by decide) (lv' := [(4, .int (nI (i + 1))), (3, .int (phS g z i + phV (phG g z i) z)), (0, .ref (q 0)), (1, .int (nI n)), (2, .int z)]) rfl dX5_passHours_74 ?_
            refine z_goto h 5 dX5_passHours_77 (by decide) ?_
            refine z_sub [2, 3, 4, 1, 0] (lv' := [(0, .ref (q 0)), (1, .int (nI n)), (2, .int z), (3, .int (phS g z i + phV (phG g z i) z)), (4, .int (nI (i + 1)))]) rfl ?_
            exact z_cast (ih_5 (i + 1) (by omega) (by omega)) rfl (congrArg (zSa (zy E) q) (Eq.symm (Eq.trans (congrArg hrG e6) (if_neg c_56)))) rfl
        · have e8 : phM (phG g z i) z = phG g z i := if_neg c_13
          have e7 : phV (phG g z i) z = nI 0 := if_neg c_13
          have hT : okT (phG g z i) := (ok_ph hg hgt z i).2
          have e6 := e8
          refine z_iconst h (nI 0) (by decide +kernel) dX5_passHours_16 ?_
          refine z_goto h 31 dX5_passHours_17 (by decide) ?_
          refine z_iadd h dX5_passHours_31 ?_
          refine z_top (phS g z i + phV (phG g z i) z) (by rw [e7]) ?_
          refine z_istore_n h (by decide) (lv' := [(3, .int (phS g z i + phV (phG g z i) z)), (0, .ref (q 0)), (1, .int (nI n)), (2, .int z), (4, .int (nI i))]) rfl dX5_passHours_32 ?_
          refine z_aload_n h 1 rfl dX5_passHours_33 ?_
          refine z_get h 0 4 8 (v := .ref (q 10)) rfl rfl iX5_passHours_X5 (by decide) (List.mem_of_getElem? (i := 3) (by decide +kernel)) rfl rfl dX5_passHours_34 ?_
          refine z_callV h (As := []) (st := []) (ws2 := zSa (zy E) q (rsG (phG g z i))) (B := zTo (zy E) (fun i => q (10 + i)) (phG g z i)) (B' := zTo (zy E) (fun i => q (10 + i)) (rsG (phG g z i))) (r := none) 0 (c_X6_restoreMinutes (fun i => q (10 + i)) (phG g z i) hT) gX5_passHours_X6_restoreMinutes (q0 := 10) (ci := 5) (by decide +kernel) rfl rfl rfl ⟨by decide, by decide⟩ [10, 11, 12, 13] rfl (by decide) rfl (Nat.le_of_ble_eq_true rfl) rfl rfl dX5_passHours_37 ?_ hkR
          refine z_aload_n h 1 rfl dX5_passHours_40 ?_
          refine z_dup h dX5_passHours_41 rfl ?_
          refine z_get h 0 4 4 (v := .int (((phG g z i) 0) 4)) rfl rfl iX5_passHours_X5 (by decide) (List.mem_of_getElem? (i := 2) (by decide +kernel)) rfl rfl dX5_passHours_42 ?_
          refine z_iconst h (nI 1) (by decide +kernel) dX5_passHours_45 ?_
          refine z_iadd h dX5_passHours_46 ?_
          refine z_put h 0 4 4 (ws' := zSa (zy E) q (va_up (rsG (phG g z i)) 0 (upd ((phG g z i) 0) 4 ((((phG g z i) 0) 4) + (nI 1))))) tyX5 .int rfl rfl iX5_passHours_X5 tyX5_ok nmX5 (by decide) (List.mem_of_getElem? (i := 2) (by decide +kernel)) rfl rfl (by decide +kernel) rfl rfl (Nat.le_of_ble_eq_true rfl) rfl dX5_passHours_47 ?_
          refine z_aload_n h 1 rfl dX5_passHours_50 ?_
          refine z_get h 0 4 4 (v := .int ((upd ((phG g z i) 0) 4 ((((phG g z i) 0) 4) + (nI 1))) 4)) rfl rfl iX5_passHours_X5 (by decide) (List.mem_of_getElem? (i := 2) (by decide +kernel)) rfl rfl dX5_passHours_51 ?_
          refine z_bipush h (nI 12) (by decide +kernel) dX5_passHours_54 ?_
          refine z_icmp_lt h 74 dX5_passHours_56 (by decide) (fun c_56 => ?_) (fun c_56 => ?_)
          · refine z_iinc h 4 (nI (i + 1)) rfl z_i1 (by decide) (lv' := [(4, .int (nI (i + 1))), (3, .int (phS g z i + phV (phG g z i) z)), (0, .ref (q 0)), (1, .int (nI n)), (2, .int z)]) rfl dX5_passHours_74 ?_
            refine z_goto h 5 dX5_passHours_77 (by decide) ?_
            refine z_sub [2, 3, 4, 1, 0] (lv' := [(0, .ref (q 0)), (1, .int (nI n)), (2, .int z), (3, .int (phS g z i + phV (phG g z i) z)), (4, .int (nI (i + 1)))]) rfl ?_
            exact z_cast (ih_5 (i + 1) (by omega) (by omega)) rfl (congrArg (zSa (zy E) q) (Eq.symm (Eq.trans (congrArg hrG e6) (if_pos c_56)))) rfl
          · refine z_aload_n h 1 rfl dX5_passHours_59 ?_
            refine z_iconst h (nI 0) (by decide +kernel) dX5_passHours_60 ?_
            refine z_put h 0 4 4 (ws' := zSa (zy E) q (va_up (rsG (phG g z i)) 0 (upd (upd ((phG g z i) 0) 4 ((((phG g z i) 0) 4) + (nI 1))) 4 (nI 0)))) tyX5 .int rfl rfl iX5_passHours_X5 tyX5_ok nmX5 (by decide) (List.mem_of_getElem? (i := 2) (by decide +kernel)) rfl rfl (by decide +kernel) rfl rfl (Nat.le_of_ble_eq_true rfl) rfl dX5_passHours_61 ?_
            refine z_aload_n h 1 rfl dX5_passHours_64 ?_
            refine z_dup h dX5_passHours_65 rfl ?_
            refine z_get h 0 4 5 (v := .int ((upd (upd ((phG g z i) 0) 4 ((((phG g z i) 0) 4) + (nI 1))) 4 (nI 0)) 5)) rfl rfl iX5_passHours_X5 (by decide) (List.mem_of_getElem? (i := 4) (by decide +kernel)) rfl rfl dX5_passHours_66 ?_
            refine z_iconst h (nI 1) (by decide +kernel) dX5_passHours_69 ?_
            refine z_iadd h dX5_passHours_70 ?_
            refine z_put h 0 4 5 (ws' := zSa (zy E) q (va_up (rsG (phG g z i)) 0 (upd (upd (upd ((phG g z i) 0) 4 ((((phG g z i) 0) 4) + (nI 1))) 4 (nI 0)) 5 (((upd (upd ((phG g z i) 0) 4 ((((phG g z i) 0) 4) + (nI 1))) 4 (nI 0)) 5) + (nI 1))))) tyX5 .int rfl rfl iX5_passHours_X5 tyX5_ok nmX5 (by decide) (List.mem_of_getElem? (i := 4) (by decide +kernel)) rfl rfl (by decide +kernel) rfl rfl (Nat.le_of_ble_eq_true rfl) rfl dX5_passHours_71 ?_
            refine z_iinc h 4 (nI (i + 1)) rfl z_i1 (by decide) (lv' := [(4, .int (nI (i + 1))), (3, .int (phS g z i + phV (phG g z i) z)), (0, .ref (q 0)), (1, .int (nI n)), (2, .int z)]) rfl dX5_passHours_74 ?_
            refine z_goto h 5 dX5_passHours_77 (by decide) ?_
            refine z_sub [2, 3, 4, 1, 0] (lv' := [(0, .ref (q 0)), (1, .int (nI n)), (2, .int z), (3, .int (phS g z i + phV (phG g z i) z)), (4, .int (nI (i + 1)))]) rfl ?_
            exact z_cast (ih_5 (i + 1) (by omega) (by omega)) rfl (congrArg (zSa (zy E) q) (Eq.symm (Eq.trans (congrArg hrG e6) (if_neg c_56)))) rfl
  refine z_sub [2, 3, 4, 1, 0] (lv' := [(0, .ref (q 0)), (1, .int (nI n)), (2, .int z), (3, .int (nI 0)), (4, .int (nI 0))]) rfl ?_
  exact z_cast (lp_5 (n + 1) 0 (by omega) (by omega)) rfl rfl rfl

