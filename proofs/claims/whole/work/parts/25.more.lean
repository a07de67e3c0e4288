/-! the model's carving; the faces of its values; texts; undo -/
theorem isT_lt {f : Nat → Int32} (hT : okTm f) {t : Nat} (ht : t < 2 ^ 32) (c : ¬ wi (nI t) (nI 0) (f 10 - nI 1) = 0) : t < ztm f := by
  unfold wi at c
  split at c
  · exact absurd rfl c
  · split at c
    · exact absurd rfl c
    · rename_i h1 h2
      have h0 : ¬ nI t < 0 := h1
      obtain ⟨j, hj, e⟩ := nI_of h0
      have e2 : t = j := by
        have := congrArg (fun v : Int32 => v.toBitVec.toNat) e
        simp only [pk_tn ht, pk_tn (show j < 2 ^ 32 by omega)] at this
        exact this
      subst e2
      rw [hT.1] at h2
      have h5 := hT.2
      by_cases hz : ztm f = 0
      · exfalso
        rw [hz] at h2
        apply h2
        rw [Int32.lt_iff_toInt_lt, nI_toInt hj]
        have : (nI 0 - nI 1).toInt = -1 := by decide +kernel
        omega
      · rw [pk_sub (by omega), nI_ltI (by omega) hj] at h2
        omega
def okSp (f : Nat → Int32) : Prop := ∀ t, t < ztm f → ¬ f (140 + t) = 0
def rsT (f : Nat → Int32) (t s v u : Nat) : Nat := if wi (nI t) (nI 0) (f 10 - nI 1) = 0 then 1 else if isS (nI s) = 0 then 1 else if isL (nI v) = 0 then 2 else if wi (nI u) (nI 1) (nI 100) = 0 then 2 else 0
def cvT (f : Nat → Int32) (t s v u : Nat) : Nat := if wi (nI t) (nI 0) (f 10 - nI 1) = 0 then 1 else if isS (nI s) = 0 then 1 else if isL (nI v) = 0 then 2 else if wi (nI u) (nI 1) (nI 100) = 0 then 2 else if whM f t s v (nI u) = 0 then 0 else 3
def cvA (f : Nat → Int32) (t : Nat) (w : Int32) : Nat → Int32 := upd (upd f (145 + t) (f (145 + t) - w)) (150 + t) (upd f (145 + t) (f (145 + t) - w) (150 + t) + w)
def cvB (f : Nat → Int32) (s v : Nat) (u : Int32) : Nat → Int32 := upd f (92 + 6 * s + v) (f (92 + 6 * s + v) - u)
def cvC (f : Nat → Int32) (s : Nat) (u : Int32) : Nat → Int32 := upd (upd f 5 (f 5 + u)) (28 + s) (upd f 5 (f 5 + u) (28 + s) + u)
def cvE (f : Nat → Int32) (t s v u : Nat) : Nat → Int32 := cvC (cvB (cvA f t (upw (nI u) (f (140 + t)))) s v (nI u)) s (nI u)
def mtT (f : Nat → Int32) (t u : Nat) : Nat := if wi (nI t) (nI 0) (f 10 - nI 1) = 0 then 1 else if wi (nI u) (nI 0) (nI 9999) = 0 then 2 else 0
def toT (f : Nat → Int32) (t w : Nat) : Nat := if wi (nI t) (nI 0) (f 10 - nI 1) = 0 then 1 else if wi (nI w) (nI 0) (nI 2) = 0 then 2 else 0
def siT (s w : Nat) : Nat := if isS (nI s) = 0 then 1 else if wi (nI w) (nI 0) (nI 4) = 0 then 2 else 0
def whT (w : Nat) : Nat := if wi (nI w) (nI 0) (nI 15) = 0 then 1 else 0
def blT (s v w : Nat) : Nat := if isS (nI s) = 0 then 1 else if isL (nI v) = 0 then 2 else if wi (nI w) (nI 0) (nI 2) = 0 then 2 else 0
def viT (s n : Nat) : Nat := if isS (nI s) = 0 then 1 else if wi (nI n) (nI 0) (nI 48) = 0 then 2 else 0
def tyT (h : Nat → Nat → Int32) (v : Nat) : Nat := if wi (nI v) (nI 0) (nI 127) = 0 then 1 else if nI 150 ≤ h 0 4 then 2 else 0
theorem zlt150 {x : Int32} {n : Nat} (hx : x = nI n) (hn : n ≤ 150) (c : ¬ nI 150 ≤ x) : n < 150 := by
  rw [hx, nI_leI (by omega) (by omega)] at c
  omega
def unT (m : Nat) : Nat := if m = 0 then 1 else 0
def cpU (f K : Nat → Int32) (m : Nat) : Nat → Nat → Int32
  | 0 => f
  | k + 1 => upd (cpU f K m k) k (K (215 * m + k))
theorem cpU_lt (f K : Nat → Int32) (m : Nat) : ∀ k j, j < k → cpU f K m k j = (fun i => K (215 * m + i)) j
  | 0, j, h => absurd h (Nat.not_lt_zero j)
  | k + 1, j, h => by
    unfold cpU upd
    split
    · rename_i e; rw [e]
    · exact cpU_lt f K m k j (by omega)
theorem iX10_carves_X10 : ∀ w ∈ u_ws RX10 TX10 15, w ∈ wsX10_carves := by decide +kernel
set_option maxHeartbeats 4000000 in
set_option maxRecDepth 100000 in
/-- carves -/
theorem c_X10_carves_0 {l : Launch} {y : zY} {D : va_G} (q : Nat → Nat) (h : Nat → Nat → Int32) (t s v u : Nat) (ht : t < 2 ^ 32) (hs : s < 2 ^ 32) (hv : v < 2 ^ 32) (hu : u < 2 ^ 32) (hM : okM (h 1)) (hT : okTm (h 1)) (hSp : okSp (h 1)) : zM l y D yX10_carves wsX10_carves 2 45 [.ref (q 0), .int (nI t), .int (nI s), .int (nI v), .int (nI u), .int (nI 0)] (zMo y q h) (zMo y q (mxG h (cvT (h 1) t s v u) (va_up (h0t h) 1 (dmF (cvE (h 1) t s v u) s)))) (some (.int (if cvT (h 1) t s v u = 0 then cvE (h 1) t s v u (92 + 6 * s + v) else nI 0))) := by
  refine z_start (own := RX10) (cc := cX10_carves) (maxL := 10) (ret := (some .int)) rfl (by decide +kernel) rfl (Nat.le_of_ble_eq_true rfl) (zMo_fst _ _ _ _) ?_
  intro E hEl hEy hED hC hf
  subst hEl hEy hED
  have hkR : 0 ≤ E.2.2.2.2.2.1.cells ∧ 0 ≤ E.2.2.2.2.2.1.slots := ⟨Nat.zero_le _, Nat.zero_le _⟩
  refine z_cast (lv := [(0, .ref (q 0)), (1, .int (nI t)), (2, .int (nI s)), (3, .int (nI v)), (4, .int (nI u)), (5, .int (nI 0))]) (ws := (zMo (zy E) q h)) (st := []) ?_ rfl rfl rfl
  refine z_aload_n hC 0 rfl dX10_carves_0 ?_
  refine z_iload_n hC 1 rfl dX10_carves_1 ?_
  refine z_callV hC (As := [.int (nI t)]) (st := []) (ws2 := zMo (zy E) q h) (B := zMo (zy E) q h) (B' := zMo (zy E) q h) (r := some (.int (wi (nI t) (nI 0) ((h 1) 10 - nI 1)))) 1 (c_X10_isTool q h (nI t)) gX10_carves_X10_isTool (q0 := 0) (ci := 8) (by decide +kernel) rfl rfl rfl ⟨by decide, by decide⟩ [0, 1, 2, 3, 4, 5, 6] rfl (by decide) rfl (Nat.le_of_ble_eq_true rfl) rfl rfl dX10_carves_2 ?_ hkR
  refine z_if_eq hC 19 dX10_carves_5 (by decide) (fun c_5 => ?_) (fun c_5 => ?_)
  · refine z_iconst hC (nI 0) (by decide +kernel) dX10_carves_19 ?_
    refine z_istore hC (by decide) (lv' := [(6, .int (nI 0)), (0, .ref (q 0)), (1, .int (nI t)), (2, .int (nI s)), (3, .int (nI v)), (4, .int (nI u)), (5, .int (nI 0))]) rfl dX10_carves_20 ?_
    refine z_iload_n hC 4 rfl dX10_carves_22 ?_
    refine z_callS hC (As := [.int (nI v)]) (st := []) (ws2 := zMo (zy E) q h) (B := []) (B' := []) (r := some (.int (isL (nI v)))) 1 (c_X10_isLevel (nI v)) gX10_carves_X10_isLevel (by decide +kernel) rfl ⟨by decide, by decide⟩ [] rfl (by decide) rfl (Nat.le_of_ble_eq_true rfl) rfl rfl dX10_carves_23 ?_ hkR
    refine z_if_eq hC 44 dX10_carves_26 (by decide) (fun c_26 => ?_) (fun c_26 => ?_)
    · refine z_iconst hC (nI 0) (by decide +kernel) dX10_carves_44 ?_
      refine z_istore hC (by decide) (lv' := [(7, .int (nI 0)), (6, .int (nI 0)), (0, .ref (q 0)), (1, .int (nI t)), (2, .int (nI s)), (3, .int (nI v)), (4, .int (nI u)), (5, .int (nI 0))]) rfl dX10_carves_45 ?_
      refine z_aload_n hC 2 rfl dX10_carves_47 ?_
      refine z_iload hC 1 rfl dX10_carves_48 ?_
      refine z_iload hC 0 rfl dX10_carves_50 ?_
      refine z_iload hC 1 rfl dX10_carves_52 ?_
      refine z_if_eq hC 78 dX10_carves_54 (by decide) (fun c_54 => ?_) (fun c_54 => ?_)
      · refine z_iconst hC (nI 0) (by decide +kernel) dX10_carves_78 ?_
        refine z_callV hC (As := [.int (nI 0), .int (nI 0), .int (nI 0)]) (st := []) (ws2 := zMo (zy E) q (flG h (nI 0) (nI 0) (nI 0))) (B := zMo (zy E) q h) (B' := zMo (zy E) q (flG h (nI 0) (nI 0) (nI 0))) (r := some (.int (flR (nI 0) (nI 0) (nI 0)))) 3 (c_X10_fails q h (nI 0) (nI 0) (nI 0)) gX10_carves_X10_fails (q0 := 0) (ci := 8) (by decide +kernel) rfl rfl rfl ⟨by decide, by decide⟩ [0, 1, 2, 3, 4, 5, 6] rfl (by decide) rfl (Nat.le_of_ble_eq_true rfl) rfl rfl dX10_carves_79 ?_ hkR
        have pf_1 : flV (nI 0) (nI 0) (nI 0) = nI 1 := by rw [flV, if_pos (show nI 0 = 0 by decide +kernel)]
        refine z_top (nI 1) (by rw [flR, pf_1]; first | done | decide +kernel) ?_
        refine z_cast (lv := [(7, .int (nI 0)), (6, .int (nI 0)), (0, .ref (q 0)), (1, .int (nI t)), (2, .int (nI s)), (3, .int (nI v)), (4, .int (nI u)), (5, .int (nI 0))]) (ws := (zMo (zy E) q (va_up h 0 (upd (h 0) 1 (nI 1))))) (st := [.int (nI 1)]) ?_ rfl (by rw [flG, pf_1]) rfl
        refine z_if_eq hC 87 dX10_carves_82 (by decide) (fun c_82 => ?_) (fun c_82 => ?_)
        · exact absurd c_82 (by decide +kernel)
        · refine z_iconst hC (nI 0) (by decide +kernel) dX10_carves_85 ?_
          have pT : cvT (h 1) t s v u = 1 := by simp only [cvT, if_pos c_5, if_pos c_26]
          exact z_iret hC hf rfl (by rw [pT]; rfl) (by unfold mxG; rw [pT]; rfl) dX10_carves_86
      · exact absurd c_54 (by decide +kernel)
    · have hv6 := isL_lt hv c_26
      refine z_iload hC 5 rfl dX10_carves_29 ?_
      refine z_iconst hC (nI 1) (by decide +kernel) dX10_carves_31 ?_
      refine z_bipush hC (nI 100) (by decide +kernel) dX10_carves_32 ?_
      refine z_callS hC (As := [.int (nI u), .int (nI 1), .int (nI 100)]) (st := []) (ws2 := zMo (zy E) q h) (B := []) (B' := []) (r := some (.int (wi (nI u) (nI 1) (nI 100)))) 3 (c_X10_in (nI u) (nI 1) (nI 100)) gX10_carves_X10_in (by decide +kernel) rfl ⟨by decide, by decide⟩ [] rfl (by decide) rfl (Nat.le_of_ble_eq_true rfl) rfl rfl dX10_carves_34 ?_ hkR
      refine z_if_eq hC 44 dX10_carves_37 (by decide) (fun c_37 => ?_) (fun c_37 => ?_)
      · refine z_iconst hC (nI 0) (by decide +kernel) dX10_carves_44 ?_
        refine z_istore hC (by decide) (lv' := [(7, .int (nI 0)), (6, .int (nI 0)), (0, .ref (q 0)), (1, .int (nI t)), (2, .int (nI s)), (3, .int (nI v)), (4, .int (nI u)), (5, .int (nI 0))]) rfl dX10_carves_45 ?_
        refine z_aload_n hC 2 rfl dX10_carves_47 ?_
        refine z_iload hC 1 rfl dX10_carves_48 ?_
        refine z_iload hC 0 rfl dX10_carves_50 ?_
        refine z_iload hC 1 rfl dX10_carves_52 ?_
        refine z_if_eq hC 78 dX10_carves_54 (by decide) (fun c_54 => ?_) (fun c_54 => ?_)
        · refine z_iconst hC (nI 0) (by decide +kernel) dX10_carves_78 ?_
          refine z_callV hC (As := [.int (nI 0), .int (nI 0), .int (nI 0)]) (st := []) (ws2 := zMo (zy E) q (flG h (nI 0) (nI 0) (nI 0))) (B := zMo (zy E) q h) (B' := zMo (zy E) q (flG h (nI 0) (nI 0) (nI 0))) (r := some (.int (flR (nI 0) (nI 0) (nI 0)))) 3 (c_X10_fails q h (nI 0) (nI 0) (nI 0)) gX10_carves_X10_fails (q0 := 0) (ci := 8) (by decide +kernel) rfl rfl rfl ⟨by decide, by decide⟩ [0, 1, 2, 3, 4, 5, 6] rfl (by decide) rfl (Nat.le_of_ble_eq_true rfl) rfl rfl dX10_carves_79 ?_ hkR
          have pf_2 : flV (nI 0) (nI 0) (nI 0) = nI 1 := by rw [flV, if_pos (show nI 0 = 0 by decide +kernel)]
          refine z_top (nI 1) (by rw [flR, pf_2]; first | done | decide +kernel) ?_
          refine z_cast (lv := [(7, .int (nI 0)), (6, .int (nI 0)), (0, .ref (q 0)), (1, .int (nI t)), (2, .int (nI s)), (3, .int (nI v)), (4, .int (nI u)), (5, .int (nI 0))]) (ws := (zMo (zy E) q (va_up h 0 (upd (h 0) 1 (nI 1))))) (st := [.int (nI 1)]) ?_ rfl (by rw [flG, pf_2]) rfl
          refine z_if_eq hC 87 dX10_carves_82 (by decide) (fun c_82 => ?_) (fun c_82 => ?_)
          · exact absurd c_82 (by decide +kernel)
          · refine z_iconst hC (nI 0) (by decide +kernel) dX10_carves_85 ?_
            have pT : cvT (h 1) t s v u = 1 := by simp only [cvT, if_pos c_5, if_neg c_26, if_pos c_37]
            exact z_iret hC hf rfl (by rw [pT]; rfl) (by unfold mxG; rw [pT]; rfl) dX10_carves_86
        · exact absurd c_54 (by decide +kernel)
      · refine z_iconst hC (nI 1) (by decide +kernel) dX10_carves_40 ?_
        refine z_goto hC 45 dX10_carves_41 (by decide) ?_
        refine z_istore hC (by decide) (lv' := [(7, .int (nI 1)), (6, .int (nI 0)), (0, .ref (q 0)), (1, .int (nI t)), (2, .int (nI s)), (3, .int (nI v)), (4, .int (nI u)), (5, .int (nI 0))]) rfl dX10_carves_45 ?_
        refine z_aload_n hC 2 rfl dX10_carves_47 ?_
        refine z_iload hC 1 rfl dX10_carves_48 ?_
        refine z_iload hC 0 rfl dX10_carves_50 ?_
        refine z_iload hC 1 rfl dX10_carves_52 ?_
        refine z_if_eq hC 78 dX10_carves_54 (by decide) (fun c_54 => ?_) (fun c_54 => ?_)
        · refine z_iconst hC (nI 0) (by decide +kernel) dX10_carves_78 ?_
          refine z_callV hC (As := [.int (nI 0), .int (nI 1), .int (nI 0)]) (st := []) (ws2 := zMo (zy E) q (flG h (nI 0) (nI 1) (nI 0))) (B := zMo (zy E) q h) (B' := zMo (zy E) q (flG h (nI 0) (nI 1) (nI 0))) (r := some (.int (flR (nI 0) (nI 1) (nI 0)))) 3 (c_X10_fails q h (nI 0) (nI 1) (nI 0)) gX10_carves_X10_fails (q0 := 0) (ci := 8) (by decide +kernel) rfl rfl rfl ⟨by decide, by decide⟩ [0, 1, 2, 3, 4, 5, 6] rfl (by decide) rfl (Nat.le_of_ble_eq_true rfl) rfl rfl dX10_carves_79 ?_ hkR
          have pf_3 : flV (nI 0) (nI 1) (nI 0) = nI 1 := by rw [flV, if_pos (show nI 0 = 0 by decide +kernel)]
          refine z_top (nI 1) (by rw [flR, pf_3]; first | done | decide +kernel) ?_
          refine z_cast (lv := [(7, .int (nI 1)), (6, .int (nI 0)), (0, .ref (q 0)), (1, .int (nI t)), (2, .int (nI s)), (3, .int (nI v)), (4, .int (nI u)), (5, .int (nI 0))]) (ws := (zMo (zy E) q (va_up h 0 (upd (h 0) 1 (nI 1))))) (st := [.int (nI 1)]) ?_ rfl (by rw [flG, pf_3]) rfl
          refine z_if_eq hC 87 dX10_carves_82 (by decide) (fun c_82 => ?_) (fun c_82 => ?_)
          · exact absurd c_82 (by decide +kernel)
          · refine z_iconst hC (nI 0) (by decide +kernel) dX10_carves_85 ?_
            have pT : cvT (h 1) t s v u = 1 := by simp only [cvT, if_pos c_5, if_neg c_26, if_neg c_37]
            exact z_iret hC hf rfl (by rw [pT]; rfl) (by unfold mxG; rw [pT]; rfl) dX10_carves_86
        · exact absurd c_54 (by decide +kernel)
  · have ht5 := isT_lt hT ht c_5
    have hz5 := hT.2
    refine z_iload_n hC 2 rfl dX10_carves_8 ?_
    refine z_callS hC (As := [.int (nI s)]) (st := []) (ws2 := zMo (zy E) q h) (B := []) (B' := []) (r := some (.int (isS (nI s)))) 1 (c_X10_isSite (nI s)) gX10_carves_X10_isSite (by decide +kernel) rfl ⟨by decide, by decide⟩ [] rfl (by decide) rfl (Nat.le_of_ble_eq_true rfl) rfl rfl dX10_carves_9 ?_ hkR
    refine z_if_eq hC 19 dX10_carves_12 (by decide) (fun c_12 => ?_) (fun c_12 => ?_)
    · refine z_iconst hC (nI 0) (by decide +kernel) dX10_carves_19 ?_
      refine z_istore hC (by decide) (lv' := [(6, .int (nI 0)), (0, .ref (q 0)), (1, .int (nI t)), (2, .int (nI s)), (3, .int (nI v)), (4, .int (nI u)), (5, .int (nI 0))]) rfl dX10_carves_20 ?_
      refine z_iload_n hC 4 rfl dX10_carves_22 ?_
      refine z_callS hC (As := [.int (nI v)]) (st := []) (ws2 := zMo (zy E) q h) (B := []) (B' := []) (r := some (.int (isL (nI v)))) 1 (c_X10_isLevel (nI v)) gX10_carves_X10_isLevel (by decide +kernel) rfl ⟨by decide, by decide⟩ [] rfl (by decide) rfl (Nat.le_of_ble_eq_true rfl) rfl rfl dX10_carves_23 ?_ hkR
      refine z_if_eq hC 44 dX10_carves_26 (by decide) (fun c_26 => ?_) (fun c_26 => ?_)
      · refine z_iconst hC (nI 0) (by decide +kernel) dX10_carves_44 ?_
        refine z_istore hC (by decide) (lv' := [(7, .int (nI 0)), (6, .int (nI 0)), (0, .ref (q 0)), (1, .int (nI t)), (2, .int (nI s)), (3, .int (nI v)), (4, .int (nI u)), (5, .int (nI 0))]) rfl dX10_carves_45 ?_
        refine z_aload_n hC 2 rfl dX10_carves_47 ?_
        refine z_iload hC 1 rfl dX10_carves_48 ?_
        refine z_iload hC 0 rfl dX10_carves_50 ?_
        refine z_iload hC 1 rfl dX10_carves_52 ?_
        refine z_if_eq hC 78 dX10_carves_54 (by decide) (fun c_54 => ?_) (fun c_54 => ?_)
        · refine z_iconst hC (nI 0) (by decide +kernel) dX10_carves_78 ?_
          refine z_callV hC (As := [.int (nI 0), .int (nI 0), .int (nI 0)]) (st := []) (ws2 := zMo (zy E) q (flG h (nI 0) (nI 0) (nI 0))) (B := zMo (zy E) q h) (B' := zMo (zy E) q (flG h (nI 0) (nI 0) (nI 0))) (r := some (.int (flR (nI 0) (nI 0) (nI 0)))) 3 (c_X10_fails q h (nI 0) (nI 0) (nI 0)) gX10_carves_X10_fails (q0 := 0) (ci := 8) (by decide +kernel) rfl rfl rfl ⟨by decide, by decide⟩ [0, 1, 2, 3, 4, 5, 6] rfl (by decide) rfl (Nat.le_of_ble_eq_true rfl) rfl rfl dX10_carves_79 ?_ hkR
          have pf_4 : flV (nI 0) (nI 0) (nI 0) = nI 1 := by rw [flV, if_pos (show nI 0 = 0 by decide +kernel)]
          refine z_top (nI 1) (by rw [flR, pf_4]; first | done | decide +kernel) ?_
          refine z_cast (lv := [(7, .int (nI 0)), (6, .int (nI 0)), (0, .ref (q 0)), (1, .int (nI t)), (2, .int (nI s)), (3, .int (nI v)), (4, .int (nI u)), (5, .int (nI 0))]) (ws := (zMo (zy E) q (va_up h 0 (upd (h 0) 1 (nI 1))))) (st := [.int (nI 1)]) ?_ rfl (by rw [flG, pf_4]) rfl
          refine z_if_eq hC 87 dX10_carves_82 (by decide) (fun c_82 => ?_) (fun c_82 => ?_)
          · exact absurd c_82 (by decide +kernel)
          · refine z_iconst hC (nI 0) (by decide +kernel) dX10_carves_85 ?_
            have pT : cvT (h 1) t s v u = 1 := by simp only [cvT, if_neg c_5, if_pos c_12, if_pos c_26]
            exact z_iret hC hf rfl (by rw [pT]; rfl) (by unfold mxG; rw [pT]; rfl) dX10_carves_86
        · exact absurd c_54 (by decide +kernel)
      · have hv6 := isL_lt hv c_26
        refine z_iload hC 5 rfl dX10_carves_29 ?_
        refine z_iconst hC (nI 1) (by decide +kernel) dX10_carves_31 ?_
        refine z_bipush hC (nI 100) (by decide +kernel) dX10_carves_32 ?_
        refine z_callS hC (As := [.int (nI u), .int (nI 1), .int (nI 100)]) (st := []) (ws2 := zMo (zy E) q h) (B := []) (B' := []) (r := some (.int (wi (nI u) (nI 1) (nI 100)))) 3 (c_X10_in (nI u) (nI 1) (nI 100)) gX10_carves_X10_in (by decide +kernel) rfl ⟨by decide, by decide⟩ [] rfl (by decide) rfl (Nat.le_of_ble_eq_true rfl) rfl rfl dX10_carves_34 ?_ hkR
        refine z_if_eq hC 44 dX10_carves_37 (by decide) (fun c_37 => ?_) (fun c_37 => ?_)
        · refine z_iconst hC (nI 0) (by decide +kernel) dX10_carves_44 ?_
          refine z_istore hC (by decide) (lv' := [(7, .int (nI 0)), (6, .int (nI 0)), (0, .ref (q 0)), (1, .int (nI t)), (2, .int (nI s)), (3, .int (nI v)), (4, .int (nI u)), (5, .int (nI 0))]) rfl dX10_carves_45 ?_
          refine z_aload_n hC 2 rfl dX10_carves_47 ?_
          refine z_iload hC 1 rfl dX10_carves_48 ?_
          refine z_iload hC 0 rfl dX10_carves_50 ?_
          refine z_iload hC 1 rfl dX10_carves_52 ?_
          refine z_if_eq hC 78 dX10_carves_54 (by decide) (fun c_54 => ?_) (fun c_54 => ?_)
          · refine z_iconst hC (nI 0) (by decide +kernel) dX10_carves_78 ?_
            refine z_callV hC (As := [.int (nI 0), .int (nI 0), .int (nI 0)]) (st := []) (ws2 := zMo (zy E) q (flG h (nI 0) (nI 0) (nI 0))) (B := zMo (zy E) q h) (B' := zMo (zy E) q (flG h (nI 0) (nI 0) (nI 0))) (r := some (.int (flR (nI 0) (nI 0) (nI 0)))) 3 (c_X10_fails q h (nI 0) (nI 0) (nI 0)) gX10_carves_X10_fails (q0 := 0) (ci := 8) (by decide +kernel) rfl rfl rfl ⟨by decide, by decide⟩ [0, 1, 2, 3, 4, 5, 6] rfl (by decide) rfl (Nat.le_of_ble_eq_true rfl) rfl rfl dX10_carves_79 ?_ hkR
            have pf_5 : flV (nI 0) (nI 0) (nI 0) = nI 1 := by rw [flV, if_pos (show nI 0 = 0 by decide +kernel)]
            refine z_top (nI 1) (by rw [flR, pf_5]; first | done | decide +kernel) ?_
            refine z_cast (lv := [(7, .int (nI 0)), (6, .int (nI 0)), (0, .ref (q 0)), (1, .int (nI t)), (2, .int (nI s)), (3, .int (nI v)), (4, .int (nI u)), (5, .int (nI 0))]) (ws := (zMo (zy E) q (va_up h 0 (upd (h 0) 1 (nI 1))))) (st := [.int (nI 1)]) ?_ rfl (by rw [flG, pf_5]) rfl
            refine z_if_eq hC 87 dX10_carves_82 (by decide) (fun c_82 => ?_) (fun c_82 => ?_)
            · exact absurd c_82 (by decide +kernel)
            · refine z_iconst hC (nI 0) (by decide +kernel) dX10_carves_85 ?_
              have pT : cvT (h 1) t s v u = 1 := by simp only [cvT, if_neg c_5, if_pos c_12, if_neg c_26, if_pos c_37]
              exact z_iret hC hf rfl (by rw [pT]; rfl) (by unfold mxG; rw [pT]; rfl) dX10_carves_86
          · exact absurd c_54 (by decide +kernel)
        · refine z_iconst hC (nI 1) (by decide +kernel) dX10_carves_40 ?_
          refine z_goto hC 45 dX10_carves_41 (by decide) ?_
          refine z_istore hC (by decide) (lv' := [(7, .int (nI 1)), (6, .int (nI 0)), (0, .ref (q 0)), (1, .int (nI t)), (2, .int (nI s)), (3, .int (nI v)), (4, .int (nI u)), (5, .int (nI 0))]) rfl dX10_carves_45 ?_
          refine z_aload_n hC 2 rfl dX10_carves_47 ?_
          refine z_iload hC 1 rfl dX10_carves_48 ?_
          refine z_iload hC 0 rfl dX10_carves_50 ?_
          refine z_iload hC 1 rfl dX10_carves_52 ?_
          refine z_if_eq hC 78 dX10_carves_54 (by decide) (fun c_54 => ?_) (fun c_54 => ?_)
          · refine z_iconst hC (nI 0) (by decide +kernel) dX10_carves_78 ?_
            refine z_callV hC (As := [.int (nI 0), .int (nI 1), .int (nI 0)]) (st := []) (ws2 := zMo (zy E) q (flG h (nI 0) (nI 1) (nI 0))) (B := zMo (zy E) q h) (B' := zMo (zy E) q (flG h (nI 0) (nI 1) (nI 0))) (r := some (.int (flR (nI 0) (nI 1) (nI 0)))) 3 (c_X10_fails q h (nI 0) (nI 1) (nI 0)) gX10_carves_X10_fails (q0 := 0) (ci := 8) (by decide +kernel) rfl rfl rfl ⟨by decide, by decide⟩ [0, 1, 2, 3, 4, 5, 6] rfl (by decide) rfl (Nat.le_of_ble_eq_true rfl) rfl rfl dX10_carves_79 ?_ hkR
            have pf_6 : flV (nI 0) (nI 1) (nI 0) = nI 1 := by rw [flV, if_pos (show nI 0 = 0 by decide +kernel)]
            refine z_top (nI 1) (by rw [flR, pf_6]; first | done | decide +kernel) ?_
            refine z_cast (lv := [(7, .int (nI 1)), (6, .int (nI 0)), (0, .ref (q 0)), (1, .int (nI t)), (2, .int (nI s)), (3, .int (nI v)), (4, .int (nI u)), (5, .int (nI 0))]) (ws := (zMo (zy E) q (va_up h 0 (upd (h 0) 1 (nI 1))))) (st := [.int (nI 1)]) ?_ rfl (by rw [flG, pf_6]) rfl
            refine z_if_eq hC 87 dX10_carves_82 (by decide) (fun c_82 => ?_) (fun c_82 => ?_)
            · exact absurd c_82 (by decide +kernel)
            · refine z_iconst hC (nI 0) (by decide +kernel) dX10_carves_85 ?_
              have pT : cvT (h 1) t s v u = 1 := by simp only [cvT, if_neg c_5, if_pos c_12, if_neg c_26, if_neg c_37]
              exact z_iret hC hf rfl (by rw [pT]; rfl) (by unfold mxG; rw [pT]; rfl) dX10_carves_86
          · exact absurd c_54 (by decide +kernel)
    · have hs8 := isS_lt hs c_12
      refine z_iconst hC (nI 1) (by decide +kernel) dX10_carves_15 ?_
      refine z_goto hC 20 dX10_carves_16 (by decide) ?_
      refine z_istore hC (by decide) (lv' := [(6, .int (nI 1)), (0, .ref (q 0)), (1, .int (nI t)), (2, .int (nI s)), (3, .int (nI v)), (4, .int (nI u)), (5, .int (nI 0))]) rfl dX10_carves_20 ?_
      refine z_iload_n hC 4 rfl dX10_carves_22 ?_
      refine z_callS hC (As := [.int (nI v)]) (st := []) (ws2 := zMo (zy E) q h) (B := []) (B' := []) (r := some (.int (isL (nI v)))) 1 (c_X10_isLevel (nI v)) gX10_carves_X10_isLevel (by decide +kernel) rfl ⟨by decide, by decide⟩ [] rfl (by decide) rfl (Nat.le_of_ble_eq_true rfl) rfl rfl dX10_carves_23 ?_ hkR
      refine z_if_eq hC 44 dX10_carves_26 (by decide) (fun c_26 => ?_) (fun c_26 => ?_)
      · refine z_iconst hC (nI 0) (by decide +kernel) dX10_carves_44 ?_
        refine z_istore hC (by decide) (lv' := [(7, .int (nI 0)), (6, .int (nI 1)), (0, .ref (q 0)), (1, .int (nI t)), (2, .int (nI s)), (3, .int (nI v)), (4, .int (nI u)), (5, .int (nI 0))]) rfl dX10_carves_45 ?_
        refine z_aload_n hC 2 rfl dX10_carves_47 ?_
        refine z_iload hC 1 rfl dX10_carves_48 ?_
        refine z_iload hC 0 rfl dX10_carves_50 ?_
        refine z_iload hC 1 rfl dX10_carves_52 ?_
        refine z_if_eq hC 78 dX10_carves_54 (by decide) (fun c_54 => ?_) (fun c_54 => ?_)
        · exact absurd c_54 (by decide +kernel)
        · refine z_iload hC 0 rfl dX10_carves_57 ?_
          refine z_if_eq hC 78 dX10_carves_59 (by decide) (fun c_59 => ?_) (fun c_59 => ?_)
          · refine z_iconst hC (nI 0) (by decide +kernel) dX10_carves_78 ?_
            refine z_callV hC (As := [.int (nI 1), .int (nI 0), .int (nI 0)]) (st := []) (ws2 := zMo (zy E) q (flG h (nI 1) (nI 0) (nI 0))) (B := zMo (zy E) q h) (B' := zMo (zy E) q (flG h (nI 1) (nI 0) (nI 0))) (r := some (.int (flR (nI 1) (nI 0) (nI 0)))) 3 (c_X10_fails q h (nI 1) (nI 0) (nI 0)) gX10_carves_X10_fails (q0 := 0) (ci := 8) (by decide +kernel) rfl rfl rfl ⟨by decide, by decide⟩ [0, 1, 2, 3, 4, 5, 6] rfl (by decide) rfl (Nat.le_of_ble_eq_true rfl) rfl rfl dX10_carves_79 ?_ hkR
            have pf_7 : flV (nI 1) (nI 0) (nI 0) = nI 2 := by rw [flV, if_neg (show ¬ nI 1 = 0 by decide +kernel), if_pos (show nI 0 = 0 by decide +kernel)]
            refine z_top (nI 1) (by rw [flR, pf_7]; first | done | decide +kernel) ?_
            refine z_cast (lv := [(7, .int (nI 0)), (6, .int (nI 1)), (0, .ref (q 0)), (1, .int (nI t)), (2, .int (nI s)), (3, .int (nI v)), (4, .int (nI u)), (5, .int (nI 0))]) (ws := (zMo (zy E) q (va_up h 0 (upd (h 0) 1 (nI 2))))) (st := [.int (nI 1)]) ?_ rfl (by rw [flG, pf_7]) rfl
            refine z_if_eq hC 87 dX10_carves_82 (by decide) (fun c_82 => ?_) (fun c_82 => ?_)
            · exact absurd c_82 (by decide +kernel)
            · refine z_iconst hC (nI 0) (by decide +kernel) dX10_carves_85 ?_
              have pT : cvT (h 1) t s v u = 2 := by simp only [cvT, if_neg c_5, if_neg c_12, if_pos c_26]
              exact z_iret hC hf rfl (by rw [pT]; rfl) (by unfold mxG; rw [pT]; rfl) dX10_carves_86
          · exact absurd c_59 (by decide +kernel)
      · have hv6 := isL_lt hv c_26
        refine z_iload hC 5 rfl dX10_carves_29 ?_
        refine z_iconst hC (nI 1) (by decide +kernel) dX10_carves_31 ?_
        refine z_bipush hC (nI 100) (by decide +kernel) dX10_carves_32 ?_
        refine z_callS hC (As := [.int (nI u), .int (nI 1), .int (nI 100)]) (st := []) (ws2 := zMo (zy E) q h) (B := []) (B' := []) (r := some (.int (wi (nI u) (nI 1) (nI 100)))) 3 (c_X10_in (nI u) (nI 1) (nI 100)) gX10_carves_X10_in (by decide +kernel) rfl ⟨by decide, by decide⟩ [] rfl (by decide) rfl (Nat.le_of_ble_eq_true rfl) rfl rfl dX10_carves_34 ?_ hkR
        refine z_if_eq hC 44 dX10_carves_37 (by decide) (fun c_37 => ?_) (fun c_37 => ?_)
        · refine z_iconst hC (nI 0) (by decide +kernel) dX10_carves_44 ?_
          refine z_istore hC (by decide) (lv' := [(7, .int (nI 0)), (6, .int (nI 1)), (0, .ref (q 0)), (1, .int (nI t)), (2, .int (nI s)), (3, .int (nI v)), (4, .int (nI u)), (5, .int (nI 0))]) rfl dX10_carves_45 ?_
          refine z_aload_n hC 2 rfl dX10_carves_47 ?_
          refine z_iload hC 1 rfl dX10_carves_48 ?_
          refine z_iload hC 0 rfl dX10_carves_50 ?_
          refine z_iload hC 1 rfl dX10_carves_52 ?_
          refine z_if_eq hC 78 dX10_carves_54 (by decide) (fun c_54 => ?_) (fun c_54 => ?_)
          · exact absurd c_54 (by decide +kernel)
          · refine z_iload hC 0 rfl dX10_carves_57 ?_
            refine z_if_eq hC 78 dX10_carves_59 (by decide) (fun c_59 => ?_) (fun c_59 => ?_)
            · refine z_iconst hC (nI 0) (by decide +kernel) dX10_carves_78 ?_
              refine z_callV hC (As := [.int (nI 1), .int (nI 0), .int (nI 0)]) (st := []) (ws2 := zMo (zy E) q (flG h (nI 1) (nI 0) (nI 0))) (B := zMo (zy E) q h) (B' := zMo (zy E) q (flG h (nI 1) (nI 0) (nI 0))) (r := some (.int (flR (nI 1) (nI 0) (nI 0)))) 3 (c_X10_fails q h (nI 1) (nI 0) (nI 0)) gX10_carves_X10_fails (q0 := 0) (ci := 8) (by decide +kernel) rfl rfl rfl ⟨by decide, by decide⟩ [0, 1, 2, 3, 4, 5, 6] rfl (by decide) rfl (Nat.le_of_ble_eq_true rfl) rfl rfl dX10_carves_79 ?_ hkR
              have pf_8 : flV (nI 1) (nI 0) (nI 0) = nI 2 := by rw [flV, if_neg (show ¬ nI 1 = 0 by decide +kernel), if_pos (show nI 0 = 0 by decide +kernel)]
              refine z_top (nI 1) (by rw [flR, pf_8]; first | done | decide +kernel) ?_
              refine z_cast (lv := [(7, .int (nI 0)), (6, .int (nI 1)), (0, .ref (q 0)), (1, .int (nI t)), (2, .int (nI s)), (3, .int (nI v)), (4, .int (nI u)), (5, .int (nI 0))]) (ws := (zMo (zy E) q (va_up h 0 (upd (h 0) 1 (nI 2))))) (st := [.int (nI 1)]) ?_ rfl (by rw [flG, pf_8]) rfl
              refine z_if_eq hC 87 dX10_carves_82 (by decide) (fun c_82 => ?_) (fun c_82 => ?_)
              · exact absurd c_82 (by decide +kernel)
              · refine z_iconst hC (nI 0) (by decide +kernel) dX10_carves_85 ?_
                have pT : cvT (h 1) t s v u = 2 := by simp only [cvT, if_neg c_5, if_neg c_12, if_neg c_26, if_pos c_37]
                exact z_iret hC hf rfl (by rw [pT]; rfl) (by unfold mxG; rw [pT]; rfl) dX10_carves_86
            · exact absurd c_59 (by decide +kernel)
        · refine z_iconst hC (nI 1) (by decide +kernel) dX10_carves_40 ?_
          refine z_goto hC 45 dX10_carves_41 (by decide) ?_
          refine z_istore hC (by decide) (lv' := [(7, .int (nI 1)), (6, .int (nI 1)), (0, .ref (q 0)), (1, .int (nI t)), (2, .int (nI s)), (3, .int (nI v)), (4, .int (nI u)), (5, .int (nI 0))]) rfl dX10_carves_45 ?_
          refine z_aload_n hC 2 rfl dX10_carves_47 ?_
          refine z_iload hC 1 rfl dX10_carves_48 ?_
          refine z_iload hC 0 rfl dX10_carves_50 ?_
          refine z_iload hC 1 rfl dX10_carves_52 ?_
          refine z_if_eq hC 78 dX10_carves_54 (by decide) (fun c_54 => ?_) (fun c_54 => ?_)
          · exact absurd c_54 (by decide +kernel)
          · refine z_iload hC 0 rfl dX10_carves_57 ?_
            refine z_if_eq hC 78 dX10_carves_59 (by decide) (fun c_59 => ?_) (fun c_59 => ?_)
            · exact absurd c_59 (by decide +kernel)
            · refine z_aload_n hC 2 rfl dX10_carves_62 ?_
              refine z_iload_n hC 3 rfl dX10_carves_63 ?_
              refine z_iload_n hC 4 rfl dX10_carves_64 ?_
              refine z_iload_n hC 5 rfl dX10_carves_65 ?_
              refine z_iload hC 6 rfl dX10_carves_66 ?_
              refine z_callV hC (As := [.int (nI t), .int (nI s), .int (nI v), .int (nI u)]) (st := [.int (nI 1), .int (nI 1), .ref (q 0)]) (ws2 := zMo (zy E) q h) (B := zMo (zy E) q h) (B' := zMo (zy E) q h) (r := some (.int (whM (h 1) t s v (nI u)))) 4 (c_X10_why q h t s v (nI u) (by omega) (by omega) (by omega) (hSp t ht5)) gX10_carves_X10_why (q0 := 0) (ci := 8) (by decide +kernel) rfl rfl rfl ⟨by decide, by decide⟩ [0, 1, 2, 3, 4, 5, 6] rfl (by decide) rfl (Nat.le_of_ble_eq_true rfl) rfl rfl dX10_carves_68 ?_ hkR
              refine z_if_ne hC 78 dX10_carves_71 (by decide) (fun c_71 => ?_) (fun c_71 => ?_)
              · refine z_iconst hC (nI 0) (by decide +kernel) dX10_carves_78 ?_
                refine z_callV hC (As := [.int (nI 1), .int (nI 1), .int (nI 0)]) (st := []) (ws2 := zMo (zy E) q (flG h (nI 1) (nI 1) (nI 0))) (B := zMo (zy E) q h) (B' := zMo (zy E) q (flG h (nI 1) (nI 1) (nI 0))) (r := some (.int (flR (nI 1) (nI 1) (nI 0)))) 3 (c_X10_fails q h (nI 1) (nI 1) (nI 0)) gX10_carves_X10_fails (q0 := 0) (ci := 8) (by decide +kernel) rfl rfl rfl ⟨by decide, by decide⟩ [0, 1, 2, 3, 4, 5, 6] rfl (by decide) rfl (Nat.le_of_ble_eq_true rfl) rfl rfl dX10_carves_79 ?_ hkR
                have pf_9 : flV (nI 1) (nI 1) (nI 0) = nI 3 := by rw [flV, if_neg (show ¬ nI 1 = 0 by decide +kernel), if_neg (show ¬ nI 1 = 0 by decide +kernel), if_pos (show nI 0 = 0 by decide +kernel)]
                refine z_top (nI 1) (by rw [flR, pf_9]; first | done | decide +kernel) ?_
                refine z_cast (lv := [(7, .int (nI 1)), (6, .int (nI 1)), (0, .ref (q 0)), (1, .int (nI t)), (2, .int (nI s)), (3, .int (nI v)), (4, .int (nI u)), (5, .int (nI 0))]) (ws := (zMo (zy E) q (va_up h 0 (upd (h 0) 1 (nI 3))))) (st := [.int (nI 1)]) ?_ rfl (by rw [flG, pf_9]) rfl
                refine z_if_eq hC 87 dX10_carves_82 (by decide) (fun c_82 => ?_) (fun c_82 => ?_)
                · exact absurd c_82 (by decide +kernel)
                · refine z_iconst hC (nI 0) (by decide +kernel) dX10_carves_85 ?_
                  have pT : cvT (h 1) t s v u = 3 := by simp only [cvT, if_neg c_5, if_neg c_12, if_neg c_26, if_neg c_37, if_neg c_71]
                  exact z_iret hC hf rfl (by rw [pT]; rfl) (by unfold mxG; rw [pT]; rfl) dX10_carves_86
              · refine z_iconst hC (nI 1) (by decide +kernel) dX10_carves_74 ?_
                refine z_goto hC 79 dX10_carves_75 (by decide) ?_
                refine z_callV hC (As := [.int (nI 1), .int (nI 1), .int (nI 1)]) (st := []) (ws2 := zMo (zy E) q (flG h (nI 1) (nI 1) (nI 1))) (B := zMo (zy E) q h) (B' := zMo (zy E) q (flG h (nI 1) (nI 1) (nI 1))) (r := some (.int (flR (nI 1) (nI 1) (nI 1)))) 3 (c_X10_fails q h (nI 1) (nI 1) (nI 1)) gX10_carves_X10_fails (q0 := 0) (ci := 8) (by decide +kernel) rfl rfl rfl ⟨by decide, by decide⟩ [0, 1, 2, 3, 4, 5, 6] rfl (by decide) rfl (Nat.le_of_ble_eq_true rfl) rfl rfl dX10_carves_79 ?_ hkR
                have pf_10 : flV (nI 1) (nI 1) (nI 1) = nI 0 := by rw [flV, if_neg (show ¬ nI 1 = 0 by decide +kernel), if_neg (show ¬ nI 1 = 0 by decide +kernel), if_neg (show ¬ nI 1 = 0 by decide +kernel)]
                refine z_top (nI 0) (by rw [flR, pf_10]; first | done | decide +kernel) ?_
                refine z_cast (lv := [(7, .int (nI 1)), (6, .int (nI 1)), (0, .ref (q 0)), (1, .int (nI t)), (2, .int (nI s)), (3, .int (nI v)), (4, .int (nI u)), (5, .int (nI 0))]) (ws := (zMo (zy E) q (va_up h 0 (upd (h 0) 1 (nI 0))))) (st := [.int (nI 0)]) ?_ rfl (by rw [flG, pf_10]) rfl
                refine z_if_eq hC 87 dX10_carves_82 (by decide) (fun c_82 => ?_) (fun c_82 => ?_)
                · refine z_iload hC 7 rfl dX10_carves_87 ?_
                  refine z_if_eq hC 96 dX10_carves_89 (by decide) (fun c_89 => ?_) (fun c_89 => ?_)
                  · refine z_iload hC 6 rfl dX10_carves_96 ?_
                    refine z_aload_n hC 2 rfl dX10_carves_98 ?_
                    refine z_get hC 0 8 0 (v := .ref (q 1)) rfl rfl iX10_carves_X10 (by decide) (List.mem_of_getElem? (i := 1) (by decide +kernel)) rfl rfl dX10_carves_99 ?_
                    refine z_sipush hC (nI 140) (by decide +kernel) dX10_carves_102 ?_
                    refine z_iload_n hC 3 rfl dX10_carves_105 ?_
                    refine z_iadd hC dX10_carves_106 ?_
                    refine z_top (nI (140 + t)) (nI_add _ _) ?_
                    refine z_iald hC 1 (140 + t) (f := h 1) rfl rfl rfl (by omega) (by decide) dX10_carves_107 ?_
                    refine z_callS hC (As := [.int (nI u), .int ((h 1) (140 + t))]) (st := []) (ws2 := zMo (zy E) q (va_up h 0 (upd (h 0) 1 (nI 0)))) (B := []) (B' := []) (r := some (.int (upw (nI u) ((h 1) (140 + t))))) 2 (c_X10_upwards (nI u) ((h 1) (140 + t)) (hSp t ht5)) gX10_carves_X10_upwards (by decide +kernel) rfl ⟨by decide, by decide⟩ [] rfl (by decide) rfl (Nat.le_of_ble_eq_true rfl) rfl rfl dX10_carves_108 ?_ hkR
                    refine z_istore hC (by decide) (lv' := [(8, .int (upw (nI u) ((h 1) (140 + t)))), (7, .int (nI 1)), (6, .int (nI 1)), (0, .ref (q 0)), (1, .int (nI t)), (2, .int (nI s)), (3, .int (nI v)), (4, .int (nI u)), (5, .int (nI 0))]) rfl dX10_carves_111 ?_
                    refine z_aload_n hC 3 rfl dX10_carves_113 ?_
                    refine z_get hC 0 8 0 (v := .ref (q 1)) rfl rfl iX10_carves_X10 (by decide) (List.mem_of_getElem? (i := 1) (by decide +kernel)) rfl rfl dX10_carves_114 ?_
                    refine z_sipush hC (nI 145) (by decide +kernel) dX10_carves_117 ?_
                    refine z_iload_n hC 4 rfl dX10_carves_120 ?_
                    refine z_iadd hC dX10_carves_121 ?_
                    refine z_top (nI (145 + t)) (nI_add _ _) ?_
                    refine z_dup2 hC dX10_carves_122 rfl rfl ?_
                    refine z_iald hC 1 (145 + t) (f := h 1) rfl rfl rfl (by omega) (by decide) dX10_carves_123 ?_
                    refine z_iload hC 0 rfl dX10_carves_124 ?_
                    refine z_isub hC dX10_carves_126 ?_
                    refine z_iast hC 1 (145 + t) (((h 1) (145 + t)) - (upw (nI u) ((h 1) (140 + t)))) (ws' := zMo (zy E) q (va_up (va_up h 0 (upd (h 0) 1 (nI 0))) 1 (upd (h 1) (145 + t) (((h 1) (145 + t)) - (upw (nI u) ((h 1) (140 + t))))))) rfl rfl rfl rfl (by omega) (by decide) rfl dX10_carves_127 ?_
                    refine z_aload_n hC 3 rfl dX10_carves_128 ?_
                    refine z_get hC 0 8 0 (v := .ref (q 1)) rfl rfl iX10_carves_X10 (by decide) (List.mem_of_getElem? (i := 1) (by decide +kernel)) rfl rfl dX10_carves_129 ?_
                    refine z_sipush hC (nI 150) (by decide +kernel) dX10_carves_132 ?_
                    refine z_iload_n hC 4 rfl dX10_carves_135 ?_
                    refine z_iadd hC dX10_carves_136 ?_
                    refine z_top (nI (150 + t)) (nI_add _ _) ?_
                    refine z_dup2 hC dX10_carves_137 rfl rfl ?_
                    refine z_iald hC 1 (150 + t) (f := upd (h 1) (145 + t) (((h 1) (145 + t)) - (upw (nI u) ((h 1) (140 + t))))) rfl rfl rfl (by omega) (by decide) dX10_carves_138 ?_
                    refine z_iload hC 0 rfl dX10_carves_139 ?_
                    refine z_iadd hC dX10_carves_141 ?_
                    refine z_iast hC 1 (150 + t) (((upd (h 1) (145 + t) (((h 1) (145 + t)) - (upw (nI u) ((h 1) (140 + t))))) (150 + t)) + (upw (nI u) ((h 1) (140 + t)))) (ws' := zMo (zy E) q (va_up (va_up h 0 (upd (h 0) 1 (nI 0))) 1 (upd (upd (h 1) (145 + t) (((h 1) (145 + t)) - (upw (nI u) ((h 1) (140 + t))))) (150 + t) (((upd (h 1) (145 + t) (((h 1) (145 + t)) - (upw (nI u) ((h 1) (140 + t))))) (150 + t)) + (upw (nI u) ((h 1) (140 + t))))))) rfl rfl rfl rfl (by omega) (by decide) rfl dX10_carves_142 ?_
                    refine z_aload_n hC 3 rfl dX10_carves_143 ?_
                    refine z_get hC 0 8 0 (v := .ref (q 1)) rfl rfl iX10_carves_X10 (by decide) (List.mem_of_getElem? (i := 1) (by decide +kernel)) rfl rfl dX10_carves_144 ?_
                    refine z_bipush hC (nI 92) (by decide +kernel) dX10_carves_147 ?_
                    refine z_bipush hC (nI 6) (by decide +kernel) dX10_carves_149 ?_
                    refine z_iload_n hC 5 rfl dX10_carves_151 ?_
                    refine z_imul hC dX10_carves_152 ?_
                    refine z_top (nI (6 * s)) (pk_mul _ _) ?_
                    refine z_iadd hC dX10_carves_153 ?_
                    refine z_top (nI (92 + (6 * s))) (nI_add _ _) ?_
                    refine z_iload_n hC 6 rfl dX10_carves_154 ?_
                    refine z_iadd hC dX10_carves_155 ?_
                    refine z_top (nI ((92 + (6 * s)) + v)) (nI_add _ _) ?_
                    refine z_dup2 hC dX10_carves_156 rfl rfl ?_
                    refine z_iald hC 1 ((92 + (6 * s)) + v) (f := upd (upd (h 1) (145 + t) (((h 1) (145 + t)) - (upw (nI u) ((h 1) (140 + t))))) (150 + t) (((upd (h 1) (145 + t) (((h 1) (145 + t)) - (upw (nI u) ((h 1) (140 + t))))) (150 + t)) + (upw (nI u) ((h 1) (140 + t))))) rfl rfl rfl (by omega) (by decide) dX10_carves_157 ?_
                    refine z_iload hC 7 rfl dX10_carves_158 ?_
                    refine z_isub hC dX10_carves_160 ?_
                    refine z_iast hC 1 ((92 + (6 * s)) + v) (((upd (upd (h 1) (145 + t) (((h 1) (145 + t)) - (upw (nI u) ((h 1) (140 + t))))) (150 + t) (((upd (h 1) (145 + t) (((h 1) (145 + t)) - (upw (nI u) ((h 1) (140 + t))))) (150 + t)) + (upw (nI u) ((h 1) (140 + t))))) ((92 + (6 * s)) + v)) - (nI u)) (ws' := zMo (zy E) q (va_up (va_up h 0 (upd (h 0) 1 (nI 0))) 1 (upd (upd (upd (h 1) (145 + t) (((h 1) (145 + t)) - (upw (nI u) ((h 1) (140 + t))))) (150 + t) (((upd (h 1) (145 + t) (((h 1) (145 + t)) - (upw (nI u) ((h 1) (140 + t))))) (150 + t)) + (upw (nI u) ((h 1) (140 + t))))) ((92 + (6 * s)) + v) (((upd (upd (h 1) (145 + t) (((h 1) (145 + t)) - (upw (nI u) ((h 1) (140 + t))))) (150 + t) (((upd (h 1) (145 + t) (((h 1) (145 + t)) - (upw (nI u) ((h 1) (140 + t))))) (150 + t)) + (upw (nI u) ((h 1) (140 + t))))) ((92 + (6 * s)) + v)) - (nI u))))) rfl rfl rfl rfl (by omega) (by decide) rfl dX10_carves_161 ?_
                    refine z_aload_n hC 3 rfl dX10_carves_162 ?_
                    refine z_get hC 0 8 0 (v := .ref (q 1)) rfl rfl iX10_carves_X10 (by decide) (List.mem_of_getElem? (i := 1) (by decide +kernel)) rfl rfl dX10_carves_163 ?_
                    refine z_iconst hC (nI 5) (by decide +kernel) dX10_carves_166 ?_
                    refine z_dup2 hC dX10_carves_167 rfl rfl ?_
                    refine z_iald hC 1 5 (f := upd (upd (upd (h 1) (145 + t) (((h 1) (145 + t)) - (upw (nI u) ((h 1) (140 + t))))) (150 + t) (((upd (h 1) (145 + t) (((h 1) (145 + t)) - (upw (nI u) ((h 1) (140 + t))))) (150 + t)) + (upw (nI u) ((h 1) (140 + t))))) ((92 + (6 * s)) + v) (((upd (upd (h 1) (145 + t) (((h 1) (145 + t)) - (upw (nI u) ((h 1) (140 + t))))) (150 + t) (((upd (h 1) (145 + t) (((h 1) (145 + t)) - (upw (nI u) ((h 1) (140 + t))))) (150 + t)) + (upw (nI u) ((h 1) (140 + t))))) ((92 + (6 * s)) + v)) - (nI u))) rfl rfl rfl (by omega) (by decide) dX10_carves_168 ?_
                    refine z_iload hC 7 rfl dX10_carves_169 ?_
                    refine z_iadd hC dX10_carves_171 ?_
                    refine z_iast hC 1 5 (((upd (upd (upd (h 1) (145 + t) (((h 1) (145 + t)) - (upw (nI u) ((h 1) (140 + t))))) (150 + t) (((upd (h 1) (145 + t) (((h 1) (145 + t)) - (upw (nI u) ((h 1) (140 + t))))) (150 + t)) + (upw (nI u) ((h 1) (140 + t))))) ((92 + (6 * s)) + v) (((upd (upd (h 1) (145 + t) (((h 1) (145 + t)) - (upw (nI u) ((h 1) (140 + t))))) (150 + t) (((upd (h 1) (145 + t) (((h 1) (145 + t)) - (upw (nI u) ((h 1) (140 + t))))) (150 + t)) + (upw (nI u) ((h 1) (140 + t))))) ((92 + (6 * s)) + v)) - (nI u))) 5) + (nI u)) (ws' := zMo (zy E) q (va_up (va_up h 0 (upd (h 0) 1 (nI 0))) 1 (upd (upd (upd (upd (h 1) (145 + t) (((h 1) (145 + t)) - (upw (nI u) ((h 1) (140 + t))))) (150 + t) (((upd (h 1) (145 + t) (((h 1) (145 + t)) - (upw (nI u) ((h 1) (140 + t))))) (150 + t)) + (upw (nI u) ((h 1) (140 + t))))) ((92 + (6 * s)) + v) (((upd (upd (h 1) (145 + t) (((h 1) (145 + t)) - (upw (nI u) ((h 1) (140 + t))))) (150 + t) (((upd (h 1) (145 + t) (((h 1) (145 + t)) - (upw (nI u) ((h 1) (140 + t))))) (150 + t)) + (upw (nI u) ((h 1) (140 + t))))) ((92 + (6 * s)) + v)) - (nI u))) 5 (((upd (upd (upd (h 1) (145 + t) (((h 1) (145 + t)) - (upw (nI u) ((h 1) (140 + t))))) (150 + t) (((upd (h 1) (145 + t) (((h 1) (145 + t)) - (upw (nI u) ((h 1) (140 + t))))) (150 + t)) + (upw (nI u) ((h 1) (140 + t))))) ((92 + (6 * s)) + v) (((upd (upd (h 1) (145 + t) (((h 1) (145 + t)) - (upw (nI u) ((h 1) (140 + t))))) (150 + t) (((upd (h 1) (145 + t) (((h 1) (145 + t)) - (upw (nI u) ((h 1) (140 + t))))) (150 + t)) + (upw (nI u) ((h 1) (140 + t))))) ((92 + (6 * s)) + v)) - (nI u))) 5) + (nI u))))) rfl rfl rfl rfl (by omega) (by decide) rfl dX10_carves_172 ?_
                    refine z_aload_n hC 3 rfl dX10_carves_173 ?_
                    refine z_get hC 0 8 0 (v := .ref (q 1)) rfl rfl iX10_carves_X10 (by decide) (List.mem_of_getElem? (i := 1) (by decide +kernel)) rfl rfl dX10_carves_174 ?_
                    refine z_bipush hC (nI 28) (by decide +kernel) dX10_carves_177 ?_
                    refine z_iload_n hC 5 rfl dX10_carves_179 ?_
                    refine z_iadd hC dX10_carves_180 ?_
                    refine z_top (nI (28 + s)) (nI_add _ _) ?_
                    refine z_dup2 hC dX10_carves_181 rfl rfl ?_
                    refine z_iald hC 1 (28 + s) (f := upd (upd (upd (upd (h 1) (145 + t) (((h 1) (145 + t)) - (upw (nI u) ((h 1) (140 + t))))) (150 + t) (((upd (h 1) (145 + t) (((h 1) (145 + t)) - (upw (nI u) ((h 1) (140 + t))))) (150 + t)) + (upw (nI u) ((h 1) (140 + t))))) ((92 + (6 * s)) + v) (((upd (upd (h 1) (145 + t) (((h 1) (145 + t)) - (upw (nI u) ((h 1) (140 + t))))) (150 + t) (((upd (h 1) (145 + t) (((h 1) (145 + t)) - (upw (nI u) ((h 1) (140 + t))))) (150 + t)) + (upw (nI u) ((h 1) (140 + t))))) ((92 + (6 * s)) + v)) - (nI u))) 5 (((upd (upd (upd (h 1) (145 + t) (((h 1) (145 + t)) - (upw (nI u) ((h 1) (140 + t))))) (150 + t) (((upd (h 1) (145 + t) (((h 1) (145 + t)) - (upw (nI u) ((h 1) (140 + t))))) (150 + t)) + (upw (nI u) ((h 1) (140 + t))))) ((92 + (6 * s)) + v) (((upd (upd (h 1) (145 + t) (((h 1) (145 + t)) - (upw (nI u) ((h 1) (140 + t))))) (150 + t) (((upd (h 1) (145 + t) (((h 1) (145 + t)) - (upw (nI u) ((h 1) (140 + t))))) (150 + t)) + (upw (nI u) ((h 1) (140 + t))))) ((92 + (6 * s)) + v)) - (nI u))) 5) + (nI u))) rfl rfl rfl (by omega) (by decide) dX10_carves_182 ?_
                    refine z_iload hC 7 rfl dX10_carves_183 ?_
                    refine z_iadd hC dX10_carves_185 ?_
                    refine z_iast hC 1 (28 + s) (((upd (upd (upd (upd (h 1) (145 + t) (((h 1) (145 + t)) - (upw (nI u) ((h 1) (140 + t))))) (150 + t) (((upd (h 1) (145 + t) (((h 1) (145 + t)) - (upw (nI u) ((h 1) (140 + t))))) (150 + t)) + (upw (nI u) ((h 1) (140 + t))))) ((92 + (6 * s)) + v) (((upd (upd (h 1) (145 + t) (((h 1) (145 + t)) - (upw (nI u) ((h 1) (140 + t))))) (150 + t) (((upd (h 1) (145 + t) (((h 1) (145 + t)) - (upw (nI u) ((h 1) (140 + t))))) (150 + t)) + (upw (nI u) ((h 1) (140 + t))))) ((92 + (6 * s)) + v)) - (nI u))) 5 (((upd (upd (upd (h 1) (145 + t) (((h 1) (145 + t)) - (upw (nI u) ((h 1) (140 + t))))) (150 + t) (((upd (h 1) (145 + t) (((h 1) (145 + t)) - (upw (nI u) ((h 1) (140 + t))))) (150 + t)) + (upw (nI u) ((h 1) (140 + t))))) ((92 + (6 * s)) + v) (((upd (upd (h 1) (145 + t) (((h 1) (145 + t)) - (upw (nI u) ((h 1) (140 + t))))) (150 + t) (((upd (h 1) (145 + t) (((h 1) (145 + t)) - (upw (nI u) ((h 1) (140 + t))))) (150 + t)) + (upw (nI u) ((h 1) (140 + t))))) ((92 + (6 * s)) + v)) - (nI u))) 5) + (nI u))) (28 + s)) + (nI u)) (ws' := zMo (zy E) q (va_up (va_up h 0 (upd (h 0) 1 (nI 0))) 1 (upd (upd (upd (upd (upd (h 1) (145 + t) (((h 1) (145 + t)) - (upw (nI u) ((h 1) (140 + t))))) (150 + t) (((upd (h 1) (145 + t) (((h 1) (145 + t)) - (upw (nI u) ((h 1) (140 + t))))) (150 + t)) + (upw (nI u) ((h 1) (140 + t))))) ((92 + (6 * s)) + v) (((upd (upd (h 1) (145 + t) (((h 1) (145 + t)) - (upw (nI u) ((h 1) (140 + t))))) (150 + t) (((upd (h 1) (145 + t) (((h 1) (145 + t)) - (upw (nI u) ((h 1) (140 + t))))) (150 + t)) + (upw (nI u) ((h 1) (140 + t))))) ((92 + (6 * s)) + v)) - (nI u))) 5 (((upd (upd (upd (h 1) (145 + t) (((h 1) (145 + t)) - (upw (nI u) ((h 1) (140 + t))))) (150 + t) (((upd (h 1) (145 + t) (((h 1) (145 + t)) - (upw (nI u) ((h 1) (140 + t))))) (150 + t)) + (upw (nI u) ((h 1) (140 + t))))) ((92 + (6 * s)) + v) (((upd (upd (h 1) (145 + t) (((h 1) (145 + t)) - (upw (nI u) ((h 1) (140 + t))))) (150 + t) (((upd (h 1) (145 + t) (((h 1) (145 + t)) - (upw (nI u) ((h 1) (140 + t))))) (150 + t)) + (upw (nI u) ((h 1) (140 + t))))) ((92 + (6 * s)) + v)) - (nI u))) 5) + (nI u))) (28 + s) (((upd (upd (upd (upd (h 1) (145 + t) (((h 1) (145 + t)) - (upw (nI u) ((h 1) (140 + t))))) (150 + t) (((upd (h 1) (145 + t) (((h 1) (145 + t)) - (upw (nI u) ((h 1) (140 + t))))) (150 + t)) + (upw (nI u) ((h 1) (140 + t))))) ((92 + (6 * s)) + v) (((upd (upd (h 1) (145 + t) (((h 1) (145 + t)) - (upw (nI u) ((h 1) (140 + t))))) (150 + t) (((upd (h 1) (145 + t) (((h 1) (145 + t)) - (upw (nI u) ((h 1) (140 + t))))) (150 + t)) + (upw (nI u) ((h 1) (140 + t))))) ((92 + (6 * s)) + v)) - (nI u))) 5 (((upd (upd (upd (h 1) (145 + t) (((h 1) (145 + t)) - (upw (nI u) ((h 1) (140 + t))))) (150 + t) (((upd (h 1) (145 + t) (((h 1) (145 + t)) - (upw (nI u) ((h 1) (140 + t))))) (150 + t)) + (upw (nI u) ((h 1) (140 + t))))) ((92 + (6 * s)) + v) (((upd (upd (h 1) (145 + t) (((h 1) (145 + t)) - (upw (nI u) ((h 1) (140 + t))))) (150 + t) (((upd (h 1) (145 + t) (((h 1) (145 + t)) - (upw (nI u) ((h 1) (140 + t))))) (150 + t)) + (upw (nI u) ((h 1) (140 + t))))) ((92 + (6 * s)) + v)) - (nI u))) 5) + (nI u))) (28 + s)) + (nI u))))) rfl rfl rfl rfl (by omega) (by decide) rfl dX10_carves_186 ?_
                    refine z_aload_n hC 3 rfl dX10_carves_187 ?_
                    refine z_get hC 0 8 0 (v := .ref (q 1)) rfl rfl iX10_carves_X10 (by decide) (List.mem_of_getElem? (i := 1) (by decide +kernel)) rfl rfl dX10_carves_188 ?_
                    refine z_bipush hC (nI 92) (by decide +kernel) dX10_carves_191 ?_
                    refine z_bipush hC (nI 6) (by decide +kernel) dX10_carves_193 ?_
                    refine z_iload_n hC 5 rfl dX10_carves_195 ?_
                    refine z_imul hC dX10_carves_196 ?_
                    refine z_top (nI (6 * s)) (pk_mul _ _) ?_
                    refine z_iadd hC dX10_carves_197 ?_
                    refine z_top (nI (92 + (6 * s))) (nI_add _ _) ?_
                    refine z_iload_n hC 6 rfl dX10_carves_198 ?_
                    refine z_iadd hC dX10_carves_199 ?_
                    refine z_top (nI ((92 + (6 * s)) + v)) (nI_add _ _) ?_
                    refine z_iald hC 1 ((92 + (6 * s)) + v) (f := upd (upd (upd (upd (upd (h 1) (145 + t) (((h 1) (145 + t)) - (upw (nI u) ((h 1) (140 + t))))) (150 + t) (((upd (h 1) (145 + t) (((h 1) (145 + t)) - (upw (nI u) ((h 1) (140 + t))))) (150 + t)) + (upw (nI u) ((h 1) (140 + t))))) ((92 + (6 * s)) + v) (((upd (upd (h 1) (145 + t) (((h 1) (145 + t)) - (upw (nI u) ((h 1) (140 + t))))) (150 + t) (((upd (h 1) (145 + t) (((h 1) (145 + t)) - (upw (nI u) ((h 1) (140 + t))))) (150 + t)) + (upw (nI u) ((h 1) (140 + t))))) ((92 + (6 * s)) + v)) - (nI u))) 5 (((upd (upd (upd (h 1) (145 + t) (((h 1) (145 + t)) - (upw (nI u) ((h 1) (140 + t))))) (150 + t) (((upd (h 1) (145 + t) (((h 1) (145 + t)) - (upw (nI u) ((h 1) (140 + t))))) (150 + t)) + (upw (nI u) ((h 1) (140 + t))))) ((92 + (6 * s)) + v) (((upd (upd (h 1) (145 + t) (((h 1) (145 + t)) - (upw (nI u) ((h 1) (140 + t))))) (150 + t) (((upd (h 1) (145 + t) (((h 1) (145 + t)) - (upw (nI u) ((h 1) (140 + t))))) (150 + t)) + (upw (nI u) ((h 1) (140 + t))))) ((92 + (6 * s)) + v)) - (nI u))) 5) + (nI u))) (28 + s) (((upd (upd (upd (upd (h 1) (145 + t) (((h 1) (145 + t)) - (upw (nI u) ((h 1) (140 + t))))) (150 + t) (((upd (h 1) (145 + t) (((h 1) (145 + t)) - (upw (nI u) ((h 1) (140 + t))))) (150 + t)) + (upw (nI u) ((h 1) (140 + t))))) ((92 + (6 * s)) + v) (((upd (upd (h 1) (145 + t) (((h 1) (145 + t)) - (upw (nI u) ((h 1) (140 + t))))) (150 + t) (((upd (h 1) (145 + t) (((h 1) (145 + t)) - (upw (nI u) ((h 1) (140 + t))))) (150 + t)) + (upw (nI u) ((h 1) (140 + t))))) ((92 + (6 * s)) + v)) - (nI u))) 5 (((upd (upd (upd (h 1) (145 + t) (((h 1) (145 + t)) - (upw (nI u) ((h 1) (140 + t))))) (150 + t) (((upd (h 1) (145 + t) (((h 1) (145 + t)) - (upw (nI u) ((h 1) (140 + t))))) (150 + t)) + (upw (nI u) ((h 1) (140 + t))))) ((92 + (6 * s)) + v) (((upd (upd (h 1) (145 + t) (((h 1) (145 + t)) - (upw (nI u) ((h 1) (140 + t))))) (150 + t) (((upd (h 1) (145 + t) (((h 1) (145 + t)) - (upw (nI u) ((h 1) (140 + t))))) (150 + t)) + (upw (nI u) ((h 1) (140 + t))))) ((92 + (6 * s)) + v)) - (nI u))) 5) + (nI u))) (28 + s)) + (nI u))) rfl rfl rfl (by omega) (by decide) dX10_carves_200 ?_
                    refine z_istore hC (by decide) (lv' := [(9, .int ((upd (upd (upd (upd (upd (h 1) (145 + t) (((h 1) (145 + t)) - (upw (nI u) ((h 1) (140 + t))))) (150 + t) (((upd (h 1) (145 + t) (((h 1) (145 + t)) - (upw (nI u) ((h 1) (140 + t))))) (150 + t)) + (upw (nI u) ((h 1) (140 + t))))) ((92 + (6 * s)) + v) (((upd (upd (h 1) (145 + t) (((h 1) (145 + t)) - (upw (nI u) ((h 1) (140 + t))))) (150 + t) (((upd (h 1) (145 + t) (((h 1) (145 + t)) - (upw (nI u) ((h 1) (140 + t))))) (150 + t)) + (upw (nI u) ((h 1) (140 + t))))) ((92 + (6 * s)) + v)) - (nI u))) 5 (((upd (upd (upd (h 1) (145 + t) (((h 1) (145 + t)) - (upw (nI u) ((h 1) (140 + t))))) (150 + t) (((upd (h 1) (145 + t) (((h 1) (145 + t)) - (upw (nI u) ((h 1) (140 + t))))) (150 + t)) + (upw (nI u) ((h 1) (140 + t))))) ((92 + (6 * s)) + v) (((upd (upd (h 1) (145 + t) (((h 1) (145 + t)) - (upw (nI u) ((h 1) (140 + t))))) (150 + t) (((upd (h 1) (145 + t) (((h 1) (145 + t)) - (upw (nI u) ((h 1) (140 + t))))) (150 + t)) + (upw (nI u) ((h 1) (140 + t))))) ((92 + (6 * s)) + v)) - (nI u))) 5) + (nI u))) (28 + s) (((upd (upd (upd (upd (h 1) (145 + t) (((h 1) (145 + t)) - (upw (nI u) ((h 1) (140 + t))))) (150 + t) (((upd (h 1) (145 + t) (((h 1) (145 + t)) - (upw (nI u) ((h 1) (140 + t))))) (150 + t)) + (upw (nI u) ((h 1) (140 + t))))) ((92 + (6 * s)) + v) (((upd (upd (h 1) (145 + t) (((h 1) (145 + t)) - (upw (nI u) ((h 1) (140 + t))))) (150 + t) (((upd (h 1) (145 + t) (((h 1) (145 + t)) - (upw (nI u) ((h 1) (140 + t))))) (150 + t)) + (upw (nI u) ((h 1) (140 + t))))) ((92 + (6 * s)) + v)) - (nI u))) 5 (((upd (upd (upd (h 1) (145 + t) (((h 1) (145 + t)) - (upw (nI u) ((h 1) (140 + t))))) (150 + t) (((upd (h 1) (145 + t) (((h 1) (145 + t)) - (upw (nI u) ((h 1) (140 + t))))) (150 + t)) + (upw (nI u) ((h 1) (140 + t))))) ((92 + (6 * s)) + v) (((upd (upd (h 1) (145 + t) (((h 1) (145 + t)) - (upw (nI u) ((h 1) (140 + t))))) (150 + t) (((upd (h 1) (145 + t) (((h 1) (145 + t)) - (upw (nI u) ((h 1) (140 + t))))) (150 + t)) + (upw (nI u) ((h 1) (140 + t))))) ((92 + (6 * s)) + v)) - (nI u))) 5) + (nI u))) (28 + s)) + (nI u))) ((92 + (6 * s)) + v))), (8, .int (upw (nI u) ((h 1) (140 + t)))), (7, .int (nI 1)), (6, .int (nI 1)), (0, .ref (q 0)), (1, .int (nI t)), (2, .int (nI s)), (3, .int (nI v)), (4, .int (nI u)), (5, .int (nI 0))]) rfl dX10_carves_201 ?_
                    refine z_aload_n hC 4 rfl dX10_carves_203 ?_
                    refine z_iload_n hC 6 rfl dX10_carves_204 ?_
                    refine z_callV hC (As := [.int (nI s)]) (st := []) (ws2 := zMo (zy E) q (va_up (va_up (va_up h 0 (upd (h 0) 1 (nI 0))) 1 (upd (upd (upd (upd (upd (h 1) (145 + t) (((h 1) (145 + t)) - (upw (nI u) ((h 1) (140 + t))))) (150 + t) (((upd (h 1) (145 + t) (((h 1) (145 + t)) - (upw (nI u) ((h 1) (140 + t))))) (150 + t)) + (upw (nI u) ((h 1) (140 + t))))) ((92 + (6 * s)) + v) (((upd (upd (h 1) (145 + t) (((h 1) (145 + t)) - (upw (nI u) ((h 1) (140 + t))))) (150 + t) (((upd (h 1) (145 + t) (((h 1) (145 + t)) - (upw (nI u) ((h 1) (140 + t))))) (150 + t)) + (upw (nI u) ((h 1) (140 + t))))) ((92 + (6 * s)) + v)) - (nI u))) 5 (((upd (upd (upd (h 1) (145 + t) (((h 1) (145 + t)) - (upw (nI u) ((h 1) (140 + t))))) (150 + t) (((upd (h 1) (145 + t) (((h 1) (145 + t)) - (upw (nI u) ((h 1) (140 + t))))) (150 + t)) + (upw (nI u) ((h 1) (140 + t))))) ((92 + (6 * s)) + v) (((upd (upd (h 1) (145 + t) (((h 1) (145 + t)) - (upw (nI u) ((h 1) (140 + t))))) (150 + t) (((upd (h 1) (145 + t) (((h 1) (145 + t)) - (upw (nI u) ((h 1) (140 + t))))) (150 + t)) + (upw (nI u) ((h 1) (140 + t))))) ((92 + (6 * s)) + v)) - (nI u))) 5) + (nI u))) (28 + s) (((upd (upd (upd (upd (h 1) (145 + t) (((h 1) (145 + t)) - (upw (nI u) ((h 1) (140 + t))))) (150 + t) (((upd (h 1) (145 + t) (((h 1) (145 + t)) - (upw (nI u) ((h 1) (140 + t))))) (150 + t)) + (upw (nI u) ((h 1) (140 + t))))) ((92 + (6 * s)) + v) (((upd (upd (h 1) (145 + t) (((h 1) (145 + t)) - (upw (nI u) ((h 1) (140 + t))))) (150 + t) (((upd (h 1) (145 + t) (((h 1) (145 + t)) - (upw (nI u) ((h 1) (140 + t))))) (150 + t)) + (upw (nI u) ((h 1) (140 + t))))) ((92 + (6 * s)) + v)) - (nI u))) 5 (((upd (upd (upd (h 1) (145 + t) (((h 1) (145 + t)) - (upw (nI u) ((h 1) (140 + t))))) (150 + t) (((upd (h 1) (145 + t) (((h 1) (145 + t)) - (upw (nI u) ((h 1) (140 + t))))) (150 + t)) + (upw (nI u) ((h 1) (140 + t))))) ((92 + (6 * s)) + v) (((upd (upd (h 1) (145 + t) (((h 1) (145 + t)) - (upw (nI u) ((h 1) (140 + t))))) (150 + t) (((upd (h 1) (145 + t) (((h 1) (145 + t)) - (upw (nI u) ((h 1) (140 + t))))) (150 + t)) + (upw (nI u) ((h 1) (140 + t))))) ((92 + (6 * s)) + v)) - (nI u))) 5) + (nI u))) (28 + s)) + (nI u)))) 1 (dmF ((va_up (va_up h 0 (upd (h 0) 1 (nI 0))) 1 (upd (upd (upd (upd (upd (h 1) (145 + t) (((h 1) (145 + t)) - (upw (nI u) ((h 1) (140 + t))))) (150 + t) (((upd (h 1) (145 + t) (((h 1) (145 + t)) - (upw (nI u) ((h 1) (140 + t))))) (150 + t)) + (upw (nI u) ((h 1) (140 + t))))) ((92 + (6 * s)) + v) (((upd (upd (h 1) (145 + t) (((h 1) (145 + t)) - (upw (nI u) ((h 1) (140 + t))))) (150 + t) (((upd (h 1) (145 + t) (((h 1) (145 + t)) - (upw (nI u) ((h 1) (140 + t))))) (150 + t)) + (upw (nI u) ((h 1) (140 + t))))) ((92 + (6 * s)) + v)) - (nI u))) 5 (((upd (upd (upd (h 1) (145 + t) (((h 1) (145 + t)) - (upw (nI u) ((h 1) (140 + t))))) (150 + t) (((upd (h 1) (145 + t) (((h 1) (145 + t)) - (upw (nI u) ((h 1) (140 + t))))) (150 + t)) + (upw (nI u) ((h 1) (140 + t))))) ((92 + (6 * s)) + v) (((upd (upd (h 1) (145 + t) (((h 1) (145 + t)) - (upw (nI u) ((h 1) (140 + t))))) (150 + t) (((upd (h 1) (145 + t) (((h 1) (145 + t)) - (upw (nI u) ((h 1) (140 + t))))) (150 + t)) + (upw (nI u) ((h 1) (140 + t))))) ((92 + (6 * s)) + v)) - (nI u))) 5) + (nI u))) (28 + s) (((upd (upd (upd (upd (h 1) (145 + t) (((h 1) (145 + t)) - (upw (nI u) ((h 1) (140 + t))))) (150 + t) (((upd (h 1) (145 + t) (((h 1) (145 + t)) - (upw (nI u) ((h 1) (140 + t))))) (150 + t)) + (upw (nI u) ((h 1) (140 + t))))) ((92 + (6 * s)) + v) (((upd (upd (h 1) (145 + t) (((h 1) (145 + t)) - (upw (nI u) ((h 1) (140 + t))))) (150 + t) (((upd (h 1) (145 + t) (((h 1) (145 + t)) - (upw (nI u) ((h 1) (140 + t))))) (150 + t)) + (upw (nI u) ((h 1) (140 + t))))) ((92 + (6 * s)) + v)) - (nI u))) 5 (((upd (upd (upd (h 1) (145 + t) (((h 1) (145 + t)) - (upw (nI u) ((h 1) (140 + t))))) (150 + t) (((upd (h 1) (145 + t) (((h 1) (145 + t)) - (upw (nI u) ((h 1) (140 + t))))) (150 + t)) + (upw (nI u) ((h 1) (140 + t))))) ((92 + (6 * s)) + v) (((upd (upd (h 1) (145 + t) (((h 1) (145 + t)) - (upw (nI u) ((h 1) (140 + t))))) (150 + t) (((upd (h 1) (145 + t) (((h 1) (145 + t)) - (upw (nI u) ((h 1) (140 + t))))) (150 + t)) + (upw (nI u) ((h 1) (140 + t))))) ((92 + (6 * s)) + v)) - (nI u))) 5) + (nI u))) (28 + s)) + (nI u)))) 1) s))) (B := zMo (zy E) q (va_up (va_up h 0 (upd (h 0) 1 (nI 0))) 1 (upd (upd (upd (upd (upd (h 1) (145 + t) (((h 1) (145 + t)) - (upw (nI u) ((h 1) (140 + t))))) (150 + t) (((upd (h 1) (145 + t) (((h 1) (145 + t)) - (upw (nI u) ((h 1) (140 + t))))) (150 + t)) + (upw (nI u) ((h 1) (140 + t))))) ((92 + (6 * s)) + v) (((upd (upd (h 1) (145 + t) (((h 1) (145 + t)) - (upw (nI u) ((h 1) (140 + t))))) (150 + t) (((upd (h 1) (145 + t) (((h 1) (145 + t)) - (upw (nI u) ((h 1) (140 + t))))) (150 + t)) + (upw (nI u) ((h 1) (140 + t))))) ((92 + (6 * s)) + v)) - (nI u))) 5 (((upd (upd (upd (h 1) (145 + t) (((h 1) (145 + t)) - (upw (nI u) ((h 1) (140 + t))))) (150 + t) (((upd (h 1) (145 + t) (((h 1) (145 + t)) - (upw (nI u) ((h 1) (140 + t))))) (150 + t)) + (upw (nI u) ((h 1) (140 + t))))) ((92 + (6 * s)) + v) (((upd (upd (h 1) (145 + t) (((h 1) (145 + t)) - (upw (nI u) ((h 1) (140 + t))))) (150 + t) (((upd (h 1) (145 + t) (((h 1) (145 + t)) - (upw (nI u) ((h 1) (140 + t))))) (150 + t)) + (upw (nI u) ((h 1) (140 + t))))) ((92 + (6 * s)) + v)) - (nI u))) 5) + (nI u))) (28 + s) (((upd (upd (upd (upd (h 1) (145 + t) (((h 1) (145 + t)) - (upw (nI u) ((h 1) (140 + t))))) (150 + t) (((upd (h 1) (145 + t) (((h 1) (145 + t)) - (upw (nI u) ((h 1) (140 + t))))) (150 + t)) + (upw (nI u) ((h 1) (140 + t))))) ((92 + (6 * s)) + v) (((upd (upd (h 1) (145 + t) (((h 1) (145 + t)) - (upw (nI u) ((h 1) (140 + t))))) (150 + t) (((upd (h 1) (145 + t) (((h 1) (145 + t)) - (upw (nI u) ((h 1) (140 + t))))) (150 + t)) + (upw (nI u) ((h 1) (140 + t))))) ((92 + (6 * s)) + v)) - (nI u))) 5 (((upd (upd (upd (h 1) (145 + t) (((h 1) (145 + t)) - (upw (nI u) ((h 1) (140 + t))))) (150 + t) (((upd (h 1) (145 + t) (((h 1) (145 + t)) - (upw (nI u) ((h 1) (140 + t))))) (150 + t)) + (upw (nI u) ((h 1) (140 + t))))) ((92 + (6 * s)) + v) (((upd (upd (h 1) (145 + t) (((h 1) (145 + t)) - (upw (nI u) ((h 1) (140 + t))))) (150 + t) (((upd (h 1) (145 + t) (((h 1) (145 + t)) - (upw (nI u) ((h 1) (140 + t))))) (150 + t)) + (upw (nI u) ((h 1) (140 + t))))) ((92 + (6 * s)) + v)) - (nI u))) 5) + (nI u))) (28 + s)) + (nI u))))) (B' := zMo (zy E) q (va_up (va_up (va_up h 0 (upd (h 0) 1 (nI 0))) 1 (upd (upd (upd (upd (upd (h 1) (145 + t) (((h 1) (145 + t)) - (upw (nI u) ((h 1) (140 + t))))) (150 + t) (((upd (h 1) (145 + t) (((h 1) (145 + t)) - (upw (nI u) ((h 1) (140 + t))))) (150 + t)) + (upw (nI u) ((h 1) (140 + t))))) ((92 + (6 * s)) + v) (((upd (upd (h 1) (145 + t) (((h 1) (145 + t)) - (upw (nI u) ((h 1) (140 + t))))) (150 + t) (((upd (h 1) (145 + t) (((h 1) (145 + t)) - (upw (nI u) ((h 1) (140 + t))))) (150 + t)) + (upw (nI u) ((h 1) (140 + t))))) ((92 + (6 * s)) + v)) - (nI u))) 5 (((upd (upd (upd (h 1) (145 + t) (((h 1) (145 + t)) - (upw (nI u) ((h 1) (140 + t))))) (150 + t) (((upd (h 1) (145 + t) (((h 1) (145 + t)) - (upw (nI u) ((h 1) (140 + t))))) (150 + t)) + (upw (nI u) ((h 1) (140 + t))))) ((92 + (6 * s)) + v) (((upd (upd (h 1) (145 + t) (((h 1) (145 + t)) - (upw (nI u) ((h 1) (140 + t))))) (150 + t) (((upd (h 1) (145 + t) (((h 1) (145 + t)) - (upw (nI u) ((h 1) (140 + t))))) (150 + t)) + (upw (nI u) ((h 1) (140 + t))))) ((92 + (6 * s)) + v)) - (nI u))) 5) + (nI u))) (28 + s) (((upd (upd (upd (upd (h 1) (145 + t) (((h 1) (145 + t)) - (upw (nI u) ((h 1) (140 + t))))) (150 + t) (((upd (h 1) (145 + t) (((h 1) (145 + t)) - (upw (nI u) ((h 1) (140 + t))))) (150 + t)) + (upw (nI u) ((h 1) (140 + t))))) ((92 + (6 * s)) + v) (((upd (upd (h 1) (145 + t) (((h 1) (145 + t)) - (upw (nI u) ((h 1) (140 + t))))) (150 + t) (((upd (h 1) (145 + t) (((h 1) (145 + t)) - (upw (nI u) ((h 1) (140 + t))))) (150 + t)) + (upw (nI u) ((h 1) (140 + t))))) ((92 + (6 * s)) + v)) - (nI u))) 5 (((upd (upd (upd (h 1) (145 + t) (((h 1) (145 + t)) - (upw (nI u) ((h 1) (140 + t))))) (150 + t) (((upd (h 1) (145 + t) (((h 1) (145 + t)) - (upw (nI u) ((h 1) (140 + t))))) (150 + t)) + (upw (nI u) ((h 1) (140 + t))))) ((92 + (6 * s)) + v) (((upd (upd (h 1) (145 + t) (((h 1) (145 + t)) - (upw (nI u) ((h 1) (140 + t))))) (150 + t) (((upd (h 1) (145 + t) (((h 1) (145 + t)) - (upw (nI u) ((h 1) (140 + t))))) (150 + t)) + (upw (nI u) ((h 1) (140 + t))))) ((92 + (6 * s)) + v)) - (nI u))) 5) + (nI u))) (28 + s)) + (nI u)))) 1 (dmF ((va_up (va_up h 0 (upd (h 0) 1 (nI 0))) 1 (upd (upd (upd (upd (upd (h 1) (145 + t) (((h 1) (145 + t)) - (upw (nI u) ((h 1) (140 + t))))) (150 + t) (((upd (h 1) (145 + t) (((h 1) (145 + t)) - (upw (nI u) ((h 1) (140 + t))))) (150 + t)) + (upw (nI u) ((h 1) (140 + t))))) ((92 + (6 * s)) + v) (((upd (upd (h 1) (145 + t) (((h 1) (145 + t)) - (upw (nI u) ((h 1) (140 + t))))) (150 + t) (((upd (h 1) (145 + t) (((h 1) (145 + t)) - (upw (nI u) ((h 1) (140 + t))))) (150 + t)) + (upw (nI u) ((h 1) (140 + t))))) ((92 + (6 * s)) + v)) - (nI u))) 5 (((upd (upd (upd (h 1) (145 + t) (((h 1) (145 + t)) - (upw (nI u) ((h 1) (140 + t))))) (150 + t) (((upd (h 1) (145 + t) (((h 1) (145 + t)) - (upw (nI u) ((h 1) (140 + t))))) (150 + t)) + (upw (nI u) ((h 1) (140 + t))))) ((92 + (6 * s)) + v) (((upd (upd (h 1) (145 + t) (((h 1) (145 + t)) - (upw (nI u) ((h 1) (140 + t))))) (150 + t) (((upd (h 1) (145 + t) (((h 1) (145 + t)) - (upw (nI u) ((h 1) (140 + t))))) (150 + t)) + (upw (nI u) ((h 1) (140 + t))))) ((92 + (6 * s)) + v)) - (nI u))) 5) + (nI u))) (28 + s) (((upd (upd (upd (upd (h 1) (145 + t) (((h 1) (145 + t)) - (upw (nI u) ((h 1) (140 + t))))) (150 + t) (((upd (h 1) (145 + t) (((h 1) (145 + t)) - (upw (nI u) ((h 1) (140 + t))))) (150 + t)) + (upw (nI u) ((h 1) (140 + t))))) ((92 + (6 * s)) + v) (((upd (upd (h 1) (145 + t) (((h 1) (145 + t)) - (upw (nI u) ((h 1) (140 + t))))) (150 + t) (((upd (h 1) (145 + t) (((h 1) (145 + t)) - (upw (nI u) ((h 1) (140 + t))))) (150 + t)) + (upw (nI u) ((h 1) (140 + t))))) ((92 + (6 * s)) + v)) - (nI u))) 5 (((upd (upd (upd (h 1) (145 + t) (((h 1) (145 + t)) - (upw (nI u) ((h 1) (140 + t))))) (150 + t) (((upd (h 1) (145 + t) (((h 1) (145 + t)) - (upw (nI u) ((h 1) (140 + t))))) (150 + t)) + (upw (nI u) ((h 1) (140 + t))))) ((92 + (6 * s)) + v) (((upd (upd (h 1) (145 + t) (((h 1) (145 + t)) - (upw (nI u) ((h 1) (140 + t))))) (150 + t) (((upd (h 1) (145 + t) (((h 1) (145 + t)) - (upw (nI u) ((h 1) (140 + t))))) (150 + t)) + (upw (nI u) ((h 1) (140 + t))))) ((92 + (6 * s)) + v)) - (nI u))) 5) + (nI u))) (28 + s)) + (nI u)))) 1) s))) (r := none) 1 (c_X10_drop q (va_up (va_up h 0 (upd (h 0) 1 (nI 0))) 1 (upd (upd (upd (upd (upd (h 1) (145 + t) (((h 1) (145 + t)) - (upw (nI u) ((h 1) (140 + t))))) (150 + t) (((upd (h 1) (145 + t) (((h 1) (145 + t)) - (upw (nI u) ((h 1) (140 + t))))) (150 + t)) + (upw (nI u) ((h 1) (140 + t))))) ((92 + (6 * s)) + v) (((upd (upd (h 1) (145 + t) (((h 1) (145 + t)) - (upw (nI u) ((h 1) (140 + t))))) (150 + t) (((upd (h 1) (145 + t) (((h 1) (145 + t)) - (upw (nI u) ((h 1) (140 + t))))) (150 + t)) + (upw (nI u) ((h 1) (140 + t))))) ((92 + (6 * s)) + v)) - (nI u))) 5 (((upd (upd (upd (h 1) (145 + t) (((h 1) (145 + t)) - (upw (nI u) ((h 1) (140 + t))))) (150 + t) (((upd (h 1) (145 + t) (((h 1) (145 + t)) - (upw (nI u) ((h 1) (140 + t))))) (150 + t)) + (upw (nI u) ((h 1) (140 + t))))) ((92 + (6 * s)) + v) (((upd (upd (h 1) (145 + t) (((h 1) (145 + t)) - (upw (nI u) ((h 1) (140 + t))))) (150 + t) (((upd (h 1) (145 + t) (((h 1) (145 + t)) - (upw (nI u) ((h 1) (140 + t))))) (150 + t)) + (upw (nI u) ((h 1) (140 + t))))) ((92 + (6 * s)) + v)) - (nI u))) 5) + (nI u))) (28 + s) (((upd (upd (upd (upd (h 1) (145 + t) (((h 1) (145 + t)) - (upw (nI u) ((h 1) (140 + t))))) (150 + t) (((upd (h 1) (145 + t) (((h 1) (145 + t)) - (upw (nI u) ((h 1) (140 + t))))) (150 + t)) + (upw (nI u) ((h 1) (140 + t))))) ((92 + (6 * s)) + v) (((upd (upd (h 1) (145 + t) (((h 1) (145 + t)) - (upw (nI u) ((h 1) (140 + t))))) (150 + t) (((upd (h 1) (145 + t) (((h 1) (145 + t)) - (upw (nI u) ((h 1) (140 + t))))) (150 + t)) + (upw (nI u) ((h 1) (140 + t))))) ((92 + (6 * s)) + v)) - (nI u))) 5 (((upd (upd (upd (h 1) (145 + t) (((h 1) (145 + t)) - (upw (nI u) ((h 1) (140 + t))))) (150 + t) (((upd (h 1) (145 + t) (((h 1) (145 + t)) - (upw (nI u) ((h 1) (140 + t))))) (150 + t)) + (upw (nI u) ((h 1) (140 + t))))) ((92 + (6 * s)) + v) (((upd (upd (h 1) (145 + t) (((h 1) (145 + t)) - (upw (nI u) ((h 1) (140 + t))))) (150 + t) (((upd (h 1) (145 + t) (((h 1) (145 + t)) - (upw (nI u) ((h 1) (140 + t))))) (150 + t)) + (upw (nI u) ((h 1) (140 + t))))) ((92 + (6 * s)) + v)) - (nI u))) 5) + (nI u))) (28 + s)) + (nI u)))) s (by omega) (okM_of (f := h 1) (fun j h1 h2 => by show (upd (upd (upd (upd (upd (h 1) (145 + t) (((h 1) (145 + t)) - (upw (nI u) ((h 1) (140 + t))))) (150 + t) (((upd (h 1) (145 + t) (((h 1) (145 + t)) - (upw (nI u) ((h 1) (140 + t))))) (150 + t)) + (upw (nI u) ((h 1) (140 + t))))) ((92 + (6 * s)) + v) (((upd (upd (h 1) (145 + t) (((h 1) (145 + t)) - (upw (nI u) ((h 1) (140 + t))))) (150 + t) (((upd (h 1) (145 + t) (((h 1) (145 + t)) - (upw (nI u) ((h 1) (140 + t))))) (150 + t)) + (upw (nI u) ((h 1) (140 + t))))) ((92 + (6 * s)) + v)) - (nI u))) 5 (((upd (upd (upd (h 1) (145 + t) (((h 1) (145 + t)) - (upw (nI u) ((h 1) (140 + t))))) (150 + t) (((upd (h 1) (145 + t) (((h 1) (145 + t)) - (upw (nI u) ((h 1) (140 + t))))) (150 + t)) + (upw (nI u) ((h 1) (140 + t))))) ((92 + (6 * s)) + v) (((upd (upd (h 1) (145 + t) (((h 1) (145 + t)) - (upw (nI u) ((h 1) (140 + t))))) (150 + t) (((upd (h 1) (145 + t) (((h 1) (145 + t)) - (upw (nI u) ((h 1) (140 + t))))) (150 + t)) + (upw (nI u) ((h 1) (140 + t))))) ((92 + (6 * s)) + v)) - (nI u))) 5) + (nI u))) (28 + s) (((upd (upd (upd (upd (h 1) (145 + t) (((h 1) (145 + t)) - (upw (nI u) ((h 1) (140 + t))))) (150 + t) (((upd (h 1) (145 + t) (((h 1) (145 + t)) - (upw (nI u) ((h 1) (140 + t))))) (150 + t)) + (upw (nI u) ((h 1) (140 + t))))) ((92 + (6 * s)) + v) (((upd (upd (h 1) (145 + t) (((h 1) (145 + t)) - (upw (nI u) ((h 1) (140 + t))))) (150 + t) (((upd (h 1) (145 + t) (((h 1) (145 + t)) - (upw (nI u) ((h 1) (140 + t))))) (150 + t)) + (upw (nI u) ((h 1) (140 + t))))) ((92 + (6 * s)) + v)) - (nI u))) 5 (((upd (upd (upd (h 1) (145 + t) (((h 1) (145 + t)) - (upw (nI u) ((h 1) (140 + t))))) (150 + t) (((upd (h 1) (145 + t) (((h 1) (145 + t)) - (upw (nI u) ((h 1) (140 + t))))) (150 + t)) + (upw (nI u) ((h 1) (140 + t))))) ((92 + (6 * s)) + v) (((upd (upd (h 1) (145 + t) (((h 1) (145 + t)) - (upw (nI u) ((h 1) (140 + t))))) (150 + t) (((upd (h 1) (145 + t) (((h 1) (145 + t)) - (upw (nI u) ((h 1) (140 + t))))) (150 + t)) + (upw (nI u) ((h 1) (140 + t))))) ((92 + (6 * s)) + v)) - (nI u))) 5) + (nI u))) (28 + s)) + (nI u))) j = _; rw [pk_un (by omega), pk_un (by omega), pk_un (by omega), pk_un (by omega), pk_un (by omega)]) hM)) gX10_carves_X10_drop (q0 := 0) (ci := 8) (by decide +kernel) rfl rfl rfl ⟨by decide, by decide⟩ [0, 1, 2, 3, 4, 5, 6] rfl (by decide) rfl (Nat.le_of_ble_eq_true rfl) rfl rfl dX10_carves_205 ?_ hkR
                    refine z_iload hC 0 rfl dX10_carves_208 ?_
                    have pT : cvT (h 1) t s v u = 0 := by simp only [cvT, if_neg c_5, if_neg c_12, if_neg c_26, if_neg c_37, if_pos c_71]
                    exact z_iret hC hf rfl (by rw [pT]; rfl) (by unfold mxG; rw [pT]; rfl) dX10_carves_210
                  · exact absurd c_89 (by decide +kernel)
                · exact absurd c_82 (by decide +kernel)

set_option maxHeartbeats 4000000 in
set_option maxRecDepth 100000 in
/-- carves -/
theorem c_X10_carves_1 {l : Launch} {y : zY} {D : va_G} (q : Nat → Nat) (h : Nat → Nat → Int32) (t s v u : Nat) (ht : t < 2 ^ 32) (hs : s < 2 ^ 32) (hv : v < 2 ^ 32) (hu : u < 2 ^ 32) (hM : okM (h 1)) (hT : okTm (h 1)) (hSp : okSp (h 1)) (m : Nat) (hsv : h 0 0 = nI m) (hm4 : m ≤ 4) : zM l y D yX10_carves wsX10_carves 2 45 [.ref (q 0), .int (nI t), .int (nI s), .int (nI v), .int (nI u), .int (nI 1)] (zMo y q h) (zMo y q (mxG h (cvT (h 1) t s v u) (va_up (svG (h0t h) m) 1 (dmF (cvE (h 1) t s v u) s)))) (some (.int (if cvT (h 1) t s v u = 0 then cvE (h 1) t s v u (92 + 6 * s + v) else nI 0))) := by
  refine z_start (own := RX10) (cc := cX10_carves) (maxL := 10) (ret := (some .int)) rfl (by decide +kernel) rfl (Nat.le_of_ble_eq_true rfl) (zMo_fst _ _ _ _) ?_
  intro E hEl hEy hED hC hf
  subst hEl hEy hED
  have hkR : 0 ≤ E.2.2.2.2.2.1.cells ∧ 0 ≤ E.2.2.2.2.2.1.slots := ⟨Nat.zero_le _, Nat.zero_le _⟩
  refine z_cast (lv := [(0, .ref (q 0)), (1, .int (nI t)), (2, .int (nI s)), (3, .int (nI v)), (4, .int (nI u)), (5, .int (nI 1))]) (ws := (zMo (zy E) q h)) (st := []) ?_ rfl rfl rfl
  refine z_aload_n hC 0 rfl dX10_carves_0 ?_
  refine z_iload_n hC 1 rfl dX10_carves_1 ?_
  refine z_callV hC (As := [.int (nI t)]) (st := []) (ws2 := zMo (zy E) q h) (B := zMo (zy E) q h) (B' := zMo (zy E) q h) (r := some (.int (wi (nI t) (nI 0) ((h 1) 10 - nI 1)))) 1 (c_X10_isTool q h (nI t)) gX10_carves_X10_isTool (q0 := 0) (ci := 8) (by decide +kernel) rfl rfl rfl ⟨by decide, by decide⟩ [0, 1, 2, 3, 4, 5, 6] rfl (by decide) rfl (Nat.le_of_ble_eq_true rfl) rfl rfl dX10_carves_2 ?_ hkR
  refine z_if_eq hC 19 dX10_carves_5 (by decide) (fun c_5 => ?_) (fun c_5 => ?_)
  · refine z_iconst hC (nI 0) (by decide +kernel) dX10_carves_19 ?_
    refine z_istore hC (by decide) (lv' := [(6, .int (nI 0)), (0, .ref (q 0)), (1, .int (nI t)), (2, .int (nI s)), (3, .int (nI v)), (4, .int (nI u)), (5, .int (nI 1))]) rfl dX10_carves_20 ?_
    refine z_iload_n hC 4 rfl dX10_carves_22 ?_
    refine z_callS hC (As := [.int (nI v)]) (st := []) (ws2 := zMo (zy E) q h) (B := []) (B' := []) (r := some (.int (isL (nI v)))) 1 (c_X10_isLevel (nI v)) gX10_carves_X10_isLevel (by decide +kernel) rfl ⟨by decide, by decide⟩ [] rfl (by decide) rfl (Nat.le_of_ble_eq_true rfl) rfl rfl dX10_carves_23 ?_ hkR
    refine z_if_eq hC 44 dX10_carves_26 (by decide) (fun c_26 => ?_) (fun c_26 => ?_)
    · refine z_iconst hC (nI 0) (by decide +kernel) dX10_carves_44 ?_
      refine z_istore hC (by decide) (lv' := [(7, .int (nI 0)), (6, .int (nI 0)), (0, .ref (q 0)), (1, .int (nI t)), (2, .int (nI s)), (3, .int (nI v)), (4, .int (nI u)), (5, .int (nI 1))]) rfl dX10_carves_45 ?_
      refine z_aload_n hC 2 rfl dX10_carves_47 ?_
      refine z_iload hC 1 rfl dX10_carves_48 ?_
      refine z_iload hC 0 rfl dX10_carves_50 ?_
      refine z_iload hC 1 rfl dX10_carves_52 ?_
      refine z_if_eq hC 78 dX10_carves_54 (by decide) (fun c_54 => ?_) (fun c_54 => ?_)
      · refine z_iconst hC (nI 0) (by decide +kernel) dX10_carves_78 ?_
        refine z_callV hC (As := [.int (nI 0), .int (nI 0), .int (nI 0)]) (st := []) (ws2 := zMo (zy E) q (flG h (nI 0) (nI 0) (nI 0))) (B := zMo (zy E) q h) (B' := zMo (zy E) q (flG h (nI 0) (nI 0) (nI 0))) (r := some (.int (flR (nI 0) (nI 0) (nI 0)))) 3 (c_X10_fails q h (nI 0) (nI 0) (nI 0)) gX10_carves_X10_fails (q0 := 0) (ci := 8) (by decide +kernel) rfl rfl rfl ⟨by decide, by decide⟩ [0, 1, 2, 3, 4, 5, 6] rfl (by decide) rfl (Nat.le_of_ble_eq_true rfl) rfl rfl dX10_carves_79 ?_ hkR
        have pf_1 : flV (nI 0) (nI 0) (nI 0) = nI 1 := by rw [flV, if_pos (show nI 0 = 0 by decide +kernel)]
        refine z_top (nI 1) (by rw [flR, pf_1]; first | done | decide +kernel) ?_
        refine z_cast (lv := [(7, .int (nI 0)), (6, .int (nI 0)), (0, .ref (q 0)), (1, .int (nI t)), (2, .int (nI s)), (3, .int (nI v)), (4, .int (nI u)), (5, .int (nI 1))]) (ws := (zMo (zy E) q (va_up h 0 (upd (h 0) 1 (nI 1))))) (st := [.int (nI 1)]) ?_ rfl (by rw [flG, pf_1]) rfl
        refine z_if_eq hC 87 dX10_carves_82 (by decide) (fun c_82 => ?_) (fun c_82 => ?_)
        · exact absurd c_82 (by decide +kernel)
        · refine z_iconst hC (nI 0) (by decide +kernel) dX10_carves_85 ?_
          have pT : cvT (h 1) t s v u = 1 := by simp only [cvT, if_pos c_5, if_pos c_26]
          exact z_iret hC hf rfl (by rw [pT]; rfl) (by unfold mxG; rw [pT]; rfl) dX10_carves_86
      · exact absurd c_54 (by decide +kernel)
    · have hv6 := isL_lt hv c_26
      refine z_iload hC 5 rfl dX10_carves_29 ?_
      refine z_iconst hC (nI 1) (by decide +kernel) dX10_carves_31 ?_
      refine z_bipush hC (nI 100) (by decide +kernel) dX10_carves_32 ?_
      refine z_callS hC (As := [.int (nI u), .int (nI 1), .int (nI 100)]) (st := []) (ws2 := zMo (zy E) q h) (B := []) (B' := []) (r := some (.int (wi (nI u) (nI 1) (nI 100)))) 3 (c_X10_in (nI u) (nI 1) (nI 100)) gX10_carves_X10_in (by decide +kernel) rfl ⟨by decide, by decide⟩ [] rfl (by decide) rfl (Nat.le_of_ble_eq_true rfl) rfl rfl dX10_carves_34 ?_ hkR
      refine z_if_eq hC 44 dX10_carves_37 (by decide) (fun c_37 => ?_) (fun c_37 => ?_)
      · refine z_iconst hC (nI 0) (by decide +kernel) dX10_carves_44 ?_
        refine z_istore hC (by decide) (lv' := [(7, .int (nI 0)), (6, .int (nI 0)), (0, .ref (q 0)), (1, .int (nI t)), (2, .int (nI s)), (3, .int (nI v)), (4, .int (nI u)), (5, .int (nI 1))]) rfl dX10_carves_45 ?_
        refine z_aload_n hC 2 rfl dX10_carves_47 ?_
        refine z_iload hC 1 rfl dX10_carves_48 ?_
        refine z_iload hC 0 rfl dX10_carves_50 ?_
        refine z_iload hC 1 rfl dX10_carves_52 ?_
        refine z_if_eq hC 78 dX10_carves_54 (by decide) (fun c_54 => ?_) (fun c_54 => ?_)
        · refine z_iconst hC (nI 0) (by decide +kernel) dX10_carves_78 ?_
          refine z_callV hC (As := [.int (nI 0), .int (nI 0), .int (nI 0)]) (st := []) (ws2 := zMo (zy E) q (flG h (nI 0) (nI 0) (nI 0))) (B := zMo (zy E) q h) (B' := zMo (zy E) q (flG h (nI 0) (nI 0) (nI 0))) (r := some (.int (flR (nI 0) (nI 0) (nI 0)))) 3 (c_X10_fails q h (nI 0) (nI 0) (nI 0)) gX10_carves_X10_fails (q0 := 0) (ci := 8) (by decide +kernel) rfl rfl rfl ⟨by decide, by decide⟩ [0, 1, 2, 3, 4, 5, 6] rfl (by decide) rfl (Nat.le_of_ble_eq_true rfl) rfl rfl dX10_carves_79 ?_ hkR
          have pf_2 : flV (nI 0) (nI 0) (nI 0) = nI 1 := by rw [flV, if_pos (show nI 0 = 0 by decide +kernel)]
          refine z_top (nI 1) (by rw [flR, pf_2]; first | done | decide +kernel) ?_
          refine z_cast (lv := [(7, .int (nI 0)), (6, .int (nI 0)), (0, .ref (q 0)), (1, .int (nI t)), (2, .int (nI s)), (3, .int (nI v)), (4, .int (nI u)), (5, .int (nI 1))]) (ws := (zMo (zy E) q (va_up h 0 (upd (h 0) 1 (nI 1))))) (st := [.int (nI 1)]) ?_ rfl (by rw [flG, pf_2]) rfl
          refine z_if_eq hC 87 dX10_carves_82 (by decide) (fun c_82 => ?_) (fun c_82 => ?_)
          · exact absurd c_82 (by decide +kernel)
          · refine z_iconst hC (nI 0) (by decide +kernel) dX10_carves_85 ?_
            have pT : cvT (h 1) t s v u = 1 := by simp only [cvT, if_pos c_5, if_neg c_26, if_pos c_37]
            exact z_iret hC hf rfl (by rw [pT]; rfl) (by unfold mxG; rw [pT]; rfl) dX10_carves_86
        · exact absurd c_54 (by decide +kernel)
      · refine z_iconst hC (nI 1) (by decide +kernel) dX10_carves_40 ?_
        refine z_goto hC 45 dX10_carves_41 (by decide) ?_
        refine z_istore hC (by decide) (lv' := [(7, .int (nI 1)), (6, .int (nI 0)), (0, .ref (q 0)), (1, .int (nI t)), (2, .int (nI s)), (3, .int (nI v)), (4, .int (nI u)), (5, .int (nI 1))]) rfl dX10_carves_45 ?_
        refine z_aload_n hC 2 rfl dX10_carves_47 ?_
        refine z_iload hC 1 rfl dX10_carves_48 ?_
        refine z_iload hC 0 rfl dX10_carves_50 ?_
        refine z_iload hC 1 rfl dX10_carves_52 ?_
        refine z_if_eq hC 78 dX10_carves_54 (by decide) (fun c_54 => ?_) (fun c_54 => ?_)
        · refine z_iconst hC (nI 0) (by decide +kernel) dX10_carves_78 ?_
          refine z_callV hC (As := [.int (nI 0), .int (nI 1), .int (nI 0)]) (st := []) (ws2 := zMo (zy E) q (flG h (nI 0) (nI 1) (nI 0))) (B := zMo (zy E) q h) (B' := zMo (zy E) q (flG h (nI 0) (nI 1) (nI 0))) (r := some (.int (flR (nI 0) (nI 1) (nI 0)))) 3 (c_X10_fails q h (nI 0) (nI 1) (nI 0)) gX10_carves_X10_fails (q0 := 0) (ci := 8) (by decide +kernel) rfl rfl rfl ⟨by decide, by decide⟩ [0, 1, 2, 3, 4, 5, 6] rfl (by decide) rfl (Nat.le_of_ble_eq_true rfl) rfl rfl dX10_carves_79 ?_ hkR
          have pf_3 : flV (nI 0) (nI 1) (nI 0) = nI 1 := by rw [flV, if_pos (show nI 0 = 0 by decide +kernel)]
          refine z_top (nI 1) (by rw [flR, pf_3]; first | done | decide +kernel) ?_
          refine z_cast (lv := [(7, .int (nI 1)), (6, .int (nI 0)), (0, .ref (q 0)), (1, .int (nI t)), (2, .int (nI s)), (3, .int (nI v)), (4, .int (nI u)), (5, .int (nI 1))]) (ws := (zMo (zy E) q (va_up h 0 (upd (h 0) 1 (nI 1))))) (st := [.int (nI 1)]) ?_ rfl (by rw [flG, pf_3]) rfl
          refine z_if_eq hC 87 dX10_carves_82 (by decide) (fun c_82 => ?_) (fun c_82 => ?_)
          · exact absurd c_82 (by decide +kernel)
          · refine z_iconst hC (nI 0) (by decide +kernel) dX10_carves_85 ?_
            have pT : cvT (h 1) t s v u = 1 := by simp only [cvT, if_pos c_5, if_neg c_26, if_neg c_37]
            exact z_iret hC hf rfl (by rw [pT]; rfl) (by unfold mxG; rw [pT]; rfl) dX10_carves_86
        · exact absurd c_54 (by decide +kernel)
  · have ht5 := isT_lt hT ht c_5
    have hz5 := hT.2
    refine z_iload_n hC 2 rfl dX10_carves_8 ?_
    refine z_callS hC (As := [.int (nI s)]) (st := []) (ws2 := zMo (zy E) q h) (B := []) (B' := []) (r := some (.int (isS (nI s)))) 1 (c_X10_isSite (nI s)) gX10_carves_X10_isSite (by decide +kernel) rfl ⟨by decide, by decide⟩ [] rfl (by decide) rfl (Nat.le_of_ble_eq_true rfl) rfl rfl dX10_carves_9 ?_ hkR
    refine z_if_eq hC 19 dX10_carves_12 (by decide) (fun c_12 => ?_) (fun c_12 => ?_)
    · refine z_iconst hC (nI 0) (by decide +kernel) dX10_carves_19 ?_
      refine z_istore hC (by decide) (lv' := [(6, .int (nI 0)), (0, .ref (q 0)), (1, .int (nI t)), (2, .int (nI s)), (3, .int (nI v)), (4, .int (nI u)), (5, .int (nI 1))]) rfl dX10_carves_20 ?_
      refine z_iload_n hC 4 rfl dX10_carves_22 ?_
      refine z_callS hC (As := [.int (nI v)]) (st := []) (ws2 := zMo (zy E) q h) (B := []) (B' := []) (r := some (.int (isL (nI v)))) 1 (c_X10_isLevel (nI v)) gX10_carves_X10_isLevel (by decide +kernel) rfl ⟨by decide, by decide⟩ [] rfl (by decide) rfl (Nat.le_of_ble_eq_true rfl) rfl rfl dX10_carves_23 ?_ hkR
      refine z_if_eq hC 44 dX10_carves_26 (by decide) (fun c_26 => ?_) (fun c_26 => ?_)
      · refine z_iconst hC (nI 0) (by decide +kernel) dX10_carves_44 ?_
        refine z_istore hC (by decide) (lv' := [(7, .int (nI 0)), (6, .int (nI 0)), (0, .ref (q 0)), (1, .int (nI t)), (2, .int (nI s)), (3, .int (nI v)), (4, .int (nI u)), (5, .int (nI 1))]) rfl dX10_carves_45 ?_
        refine z_aload_n hC 2 rfl dX10_carves_47 ?_
        refine z_iload hC 1 rfl dX10_carves_48 ?_
        refine z_iload hC 0 rfl dX10_carves_50 ?_
        refine z_iload hC 1 rfl dX10_carves_52 ?_
        refine z_if_eq hC 78 dX10_carves_54 (by decide) (fun c_54 => ?_) (fun c_54 => ?_)
        · refine z_iconst hC (nI 0) (by decide +kernel) dX10_carves_78 ?_
          refine z_callV hC (As := [.int (nI 0), .int (nI 0), .int (nI 0)]) (st := []) (ws2 := zMo (zy E) q (flG h (nI 0) (nI 0) (nI 0))) (B := zMo (zy E) q h) (B' := zMo (zy E) q (flG h (nI 0) (nI 0) (nI 0))) (r := some (.int (flR (nI 0) (nI 0) (nI 0)))) 3 (c_X10_fails q h (nI 0) (nI 0) (nI 0)) gX10_carves_X10_fails (q0 := 0) (ci := 8) (by decide +kernel) rfl rfl rfl ⟨by decide, by decide⟩ [0, 1, 2, 3, 4, 5, 6] rfl (by decide) rfl (Nat.le_of_ble_eq_true rfl) rfl rfl dX10_carves_79 ?_ hkR
          have pf_4 : flV (nI 0) (nI 0) (nI 0) = nI 1 := by rw [flV, if_pos (show nI 0 = 0 by decide +kernel)]
          refine z_top (nI 1) (by rw [flR, pf_4]; first | done | decide +kernel) ?_
          refine z_cast (lv := [(7, .int (nI 0)), (6, .int (nI 0)), (0, .ref (q 0)), (1, .int (nI t)), (2, .int (nI s)), (3, .int (nI v)), (4, .int (nI u)), (5, .int (nI 1))]) (ws := (zMo (zy E) q (va_up h 0 (upd (h 0) 1 (nI 1))))) (st := [.int (nI 1)]) ?_ rfl (by rw [flG, pf_4]) rfl
          refine z_if_eq hC 87 dX10_carves_82 (by decide) (fun c_82 => ?_) (fun c_82 => ?_)
          · exact absurd c_82 (by decide +kernel)
          · refine z_iconst hC (nI 0) (by decide +kernel) dX10_carves_85 ?_
            have pT : cvT (h 1) t s v u = 1 := by simp only [cvT, if_neg c_5, if_pos c_12, if_pos c_26]
            exact z_iret hC hf rfl (by rw [pT]; rfl) (by unfold mxG; rw [pT]; rfl) dX10_carves_86
        · exact absurd c_54 (by decide +kernel)
      · have hv6 := isL_lt hv c_26
        refine z_iload hC 5 rfl dX10_carves_29 ?_
        refine z_iconst hC (nI 1) (by decide +kernel) dX10_carves_31 ?_
        refine z_bipush hC (nI 100) (by decide +kernel) dX10_carves_32 ?_
        refine z_callS hC (As := [.int (nI u), .int (nI 1), .int (nI 100)]) (st := []) (ws2 := zMo (zy E) q h) (B := []) (B' := []) (r := some (.int (wi (nI u) (nI 1) (nI 100)))) 3 (c_X10_in (nI u) (nI 1) (nI 100)) gX10_carves_X10_in (by decide +kernel) rfl ⟨by decide, by decide⟩ [] rfl (by decide) rfl (Nat.le_of_ble_eq_true rfl) rfl rfl dX10_carves_34 ?_ hkR
        refine z_if_eq hC 44 dX10_carves_37 (by decide) (fun c_37 => ?_) (fun c_37 => ?_)
        · refine z_iconst hC (nI 0) (by decide +kernel) dX10_carves_44 ?_
          refine z_istore hC (by decide) (lv' := [(7, .int (nI 0)), (6, .int (nI 0)), (0, .ref (q 0)), (1, .int (nI t)), (2, .int (nI s)), (3, .int (nI v)), (4, .int (nI u)), (5, .int (nI 1))]) rfl dX10_carves_45 ?_
          refine z_aload_n hC 2 rfl dX10_carves_47 ?_
          refine z_iload hC 1 rfl dX10_carves_48 ?_
          refine z_iload hC 0 rfl dX10_carves_50 ?_
          refine z_iload hC 1 rfl dX10_carves_52 ?_
          refine z_if_eq hC 78 dX10_carves_54 (by decide) (fun c_54 => ?_) (fun c_54 => ?_)
          · refine z_iconst hC (nI 0) (by decide +kernel) dX10_carves_78 ?_
            refine z_callV hC (As := [.int (nI 0), .int (nI 0), .int (nI 0)]) (st := []) (ws2 := zMo (zy E) q (flG h (nI 0) (nI 0) (nI 0))) (B := zMo (zy E) q h) (B' := zMo (zy E) q (flG h (nI 0) (nI 0) (nI 0))) (r := some (.int (flR (nI 0) (nI 0) (nI 0)))) 3 (c_X10_fails q h (nI 0) (nI 0) (nI 0)) gX10_carves_X10_fails (q0 := 0) (ci := 8) (by decide +kernel) rfl rfl rfl ⟨by decide, by decide⟩ [0, 1, 2, 3, 4, 5, 6] rfl (by decide) rfl (Nat.le_of_ble_eq_true rfl) rfl rfl dX10_carves_79 ?_ hkR
            have pf_5 : flV (nI 0) (nI 0) (nI 0) = nI 1 := by rw [flV, if_pos (show nI 0 = 0 by decide +kernel)]
            refine z_top (nI 1) (by rw [flR, pf_5]; first | done | decide +kernel) ?_
            refine z_cast (lv := [(7, .int (nI 0)), (6, .int (nI 0)), (0, .ref (q 0)), (1, .int (nI t)), (2, .int (nI s)), (3, .int (nI v)), (4, .int (nI u)), (5, .int (nI 1))]) (ws := (zMo (zy E) q (va_up h 0 (upd (h 0) 1 (nI 1))))) (st := [.int (nI 1)]) ?_ rfl (by rw [flG, pf_5]) rfl
            refine z_if_eq hC 87 dX10_carves_82 (by decide) (fun c_82 => ?_) (fun c_82 => ?_)
            · exact absurd c_82 (by decide +kernel)
            · refine z_iconst hC (nI 0) (by decide +kernel) dX10_carves_85 ?_
              have pT : cvT (h 1) t s v u = 1 := by simp only [cvT, if_neg c_5, if_pos c_12, if_neg c_26, if_pos c_37]
              exact z_iret hC hf rfl (by rw [pT]; rfl) (by unfold mxG; rw [pT]; rfl) dX10_carves_86
          · exact absurd c_54 (by decide +kernel)
        · refine z_iconst hC (nI 1) (by decide +kernel) dX10_carves_40 ?_
          refine z_goto hC 45 dX10_carves_41 (by decide) ?_
          refine z_istore hC (by decide) (lv' := [(7, .int (nI 1)), (6, .int (nI 0)), (0, .ref (q 0)), (1, .int (nI t)), (2, .int (nI s)), (3, .int (nI v)), (4, .int (nI u)), (5, .int (nI 1))]) rfl dX10_carves_45 ?_
          refine z_aload_n hC 2 rfl dX10_carves_47 ?_
          refine z_iload hC 1 rfl dX10_carves_48 ?_
          refine z_iload hC 0 rfl dX10_carves_50 ?_
          refine z_iload hC 1 rfl dX10_carves_52 ?_
          refine z_if_eq hC 78 dX10_carves_54 (by decide) (fun c_54 => ?_) (fun c_54 => ?_)
          · refine z_iconst hC (nI 0) (by decide +kernel) dX10_carves_78 ?_
            refine z_callV hC (As := [.int (nI 0), .int (nI 1), .int (nI 0)]) (st := []) (ws2 := zMo (zy E) q (flG h (nI 0) (nI 1) (nI 0))) (B := zMo (zy E) q h) (B' := zMo (zy E) q (flG h (nI 0) (nI 1) (nI 0))) (r := some (.int (flR (nI 0) (nI 1) (nI 0)))) 3 (c_X10_fails q h (nI 0) (nI 1) (nI 0)) gX10_carves_X10_fails (q0 := 0) (ci := 8) (by decide +kernel) rfl rfl rfl ⟨by decide, by decide⟩ [0, 1, 2, 3, 4, 5, 6] rfl (by decide) rfl (Nat.le_of_ble_eq_true rfl) rfl rfl dX10_carves_79 ?_ hkR
            have pf_6 : flV (nI 0) (nI 1) (nI 0) = nI 1 := by rw [flV, if_pos (show nI 0 = 0 by decide +kernel)]
            refine z_top (nI 1) (by rw [flR, pf_6]; first | done | decide +kernel) ?_
            refine z_cast (lv := [(7, .int (nI 1)), (6, .int (nI 0)), (0, .ref (q 0)), (1, .int (nI t)), (2, .int (nI s)), (3, .int (nI v)), (4, .int (nI u)), (5, .int (nI 1))]) (ws := (zMo (zy E) q (va_up h 0 (upd (h 0) 1 (nI 1))))) (st := [.int (nI 1)]) ?_ rfl (by rw [flG, pf_6]) rfl
            refine z_if_eq hC 87 dX10_carves_82 (by decide) (fun c_82 => ?_) (fun c_82 => ?_)
            · exact absurd c_82 (by decide +kernel)
            · refine z_iconst hC (nI 0) (by decide +kernel) dX10_carves_85 ?_
              have pT : cvT (h 1) t s v u = 1 := by simp only [cvT, if_neg c_5, if_pos c_12, if_neg c_26, if_neg c_37]
              exact z_iret hC hf rfl (by rw [pT]; rfl) (by unfold mxG; rw [pT]; rfl) dX10_carves_86
          · exact absurd c_54 (by decide +kernel)
    · have hs8 := isS_lt hs c_12
      refine z_iconst hC (nI 1) (by decide +kernel) dX10_carves_15 ?_
      refine z_goto hC 20 dX10_carves_16 (by decide) ?_
      refine z_istore hC (by decide) (lv' := [(6, .int (nI 1)), (0, .ref (q 0)), (1, .int (nI t)), (2, .int (nI s)), (3, .int (nI v)), (4, .int (nI u)), (5, .int (nI 1))]) rfl dX10_carves_20 ?_
      refine z_iload_n hC 4 rfl dX10_carves_22 ?_
      refine z_callS hC (As := [.int (nI v)]) (st := []) (ws2 := zMo (zy E) q h) (B := []) (B' := []) (r := some (.int (isL (nI v)))) 1 (c_X10_isLevel (nI v)) gX10_carves_X10_isLevel (by decide +kernel) rfl ⟨by decide, by decide⟩ [] rfl (by decide) rfl (Nat.le_of_ble_eq_true rfl) rfl rfl dX10_carves_23 ?_ hkR
      refine z_if_eq hC 44 dX10_carves_26 (by decide) (fun c_26 => ?_) (fun c_26 => ?_)
      · refine z_iconst hC (nI 0) (by decide +kernel) dX10_carves_44 ?_
        refine z_istore hC (by decide) (lv' := [(7, .int (nI 0)), (6, .int (nI 1)), (0, .ref (q 0)), (1, .int (nI t)), (2, .int (nI s)), (3, .int (nI v)), (4, .int (nI u)), (5, .int (nI 1))]) rfl dX10_carves_45 ?_
        refine z_aload_n hC 2 rfl dX10_carves_47 ?_
        refine z_iload hC 1 rfl dX10_carves_48 ?_
        refine z_iload hC 0 rfl dX10_carves_50 ?_
        refine z_iload hC 1 rfl dX10_carves_52 ?_
        refine z_if_eq hC 78 dX10_carves_54 (by decide) (fun c_54 => ?_) (fun c_54 => ?_)
        · exact absurd c_54 (by decide +kernel)
        · refine z_iload hC 0 rfl dX10_carves_57 ?_
          refine z_if_eq hC 78 dX10_carves_59 (by decide) (fun c_59 => ?_) (fun c_59 => ?_)
          · refine z_iconst hC (nI 0) (by decide +kernel) dX10_carves_78 ?_
            refine z_callV hC (As := [.int (nI 1), .int (nI 0), .int (nI 0)]) (st := []) (ws2 := zMo (zy E) q (flG h (nI 1) (nI 0) (nI 0))) (B := zMo (zy E) q h) (B' := zMo (zy E) q (flG h (nI 1) (nI 0) (nI 0))) (r := some (.int (flR (nI 1) (nI 0) (nI 0)))) 3 (c_X10_fails q h (nI 1) (nI 0) (nI 0)) gX10_carves_X10_fails (q0 := 0) (ci := 8) (by decide +kernel) rfl rfl rfl ⟨by decide, by decide⟩ [0, 1, 2, 3, 4, 5, 6] rfl (by decide) rfl (Nat.le_of_ble_eq_true rfl) rfl rfl dX10_carves_79 ?_ hkR
            have pf_7 : flV (nI 1) (nI 0) (nI 0) = nI 2 := by rw [flV, if_neg (show ¬ nI 1 = 0 by decide +kernel), if_pos (show nI 0 = 0 by decide +kernel)]
            refine z_top (nI 1) (by rw [flR, pf_7]; first | done | decide +kernel) ?_
            refine z_cast (lv := [(7, .int (nI 0)), (6, .int (nI 1)), (0, .ref (q 0)), (1, .int (nI t)), (2, .int (nI s)), (3, .int (nI v)), (4, .int (nI u)), (5, .int (nI 1))]) (ws := (zMo (zy E) q (va_up h 0 (upd (h 0) 1 (nI 2))))) (st := [.int (nI 1)]) ?_ rfl (by rw [flG, pf_7]) rfl
            refine z_if_eq hC 87 dX10_carves_82 (by decide) (fun c_82 => ?_) (fun c_82 => ?_)
            · exact absurd c_82 (by decide +kernel)
            · refine z_iconst hC (nI 0) (by decide +kernel) dX10_carves_85 ?_
              have pT : cvT (h 1) t s v u = 2 := by simp only [cvT, if_neg c_5, if_neg c_12, if_pos c_26]
              exact z_iret hC hf rfl (by rw [pT]; rfl) (by unfold mxG; rw [pT]; rfl) dX10_carves_86
          · exact absurd c_59 (by decide +kernel)
      · have hv6 := isL_lt hv c_26
        refine z_iload hC 5 rfl dX10_carves_29 ?_
        refine z_iconst hC (nI 1) (by decide +kernel) dX10_carves_31 ?_
        refine z_bipush hC (nI 100) (by decide +kernel) dX10_carves_32 ?_
        refine z_callS hC (As := [.int (nI u), .int (nI 1), .int (nI 100)]) (st := []) (ws2 := zMo (zy E) q h) (B := []) (B' := []) (r := some (.int (wi (nI u) (nI 1) (nI 100)))) 3 (c_X10_in (nI u) (nI 1) (nI 100)) gX10_carves_X10_in (by decide +kernel) rfl ⟨by decide, by decide⟩ [] rfl (by decide) rfl (Nat.le_of_ble_eq_true rfl) rfl rfl dX10_carves_34 ?_ hkR
        refine z_if_eq hC 44 dX10_carves_37 (by decide) (fun c_37 => ?_) (fun c_37 => ?_)
        · refine z_iconst hC (nI 0) (by decide +kernel) dX10_carves_44 ?_
          refine z_istore hC (by decide) (lv' := [(7, .int (nI 0)), (6, .int (nI 1)), (0, .ref (q 0)), (1, .int (nI t)), (2, .int (nI s)), (3, .int (nI v)), (4, .int (nI u)), (5, .int (nI 1))]) rfl dX10_carves_45 ?_
          refine z_aload_n hC 2 rfl dX10_carves_47 ?_
          refine z_iload hC 1 rfl dX10_carves_48 ?_
          refine z_iload hC 0 rfl dX10_carves_50 ?_
          refine z_iload hC 1 rfl dX10_carves_52 ?_
          refine z_if_eq hC 78 dX10_carves_54 (by decide) (fun c_54 => ?_) (fun c_54 => ?_)
          · exact absurd c_54 (by decide +kernel)
          · refine z_iload hC 0 rfl dX10_carves_57 ?_
            refine z_if_eq hC 78 dX10_carves_59 (by decide) (fun c_59 => ?_) (fun c_59 => ?_)
            · refine z_iconst hC (nI 0) (by decide +kernel) dX10_carves_78 ?_
              refine z_callV hC (As := [.int (nI 1), .int (nI 0), .int (nI 0)]) (st := []) (ws2 := zMo (zy E) q (flG h (nI 1) (nI 0) (nI 0))) (B := zMo (zy E) q h) (B' := zMo (zy E) q (flG h (nI 1) (nI 0) (nI 0))) (r := some (.int (flR (nI 1) (nI 0) (nI 0)))) 3 (c_X10_fails q h (nI 1) (nI 0) (nI 0)) gX10_carves_X10_fails (q0 := 0) (ci := 8) (by decide +kernel) rfl rfl rfl ⟨by decide, by decide⟩ [0, 1, 2, 3, 4, 5, 6] rfl (by decide) rfl (Nat.le_of_ble_eq_true rfl) rfl rfl dX10_carves_79 ?_ hkR
              have pf_8 : flV (nI 1) (nI 0) (nI 0) = nI 2 := by rw [flV, if_neg (show ¬ nI 1 = 0 by decide +kernel), if_pos (show nI 0 = 0 by decide +kernel)]
              refine z_top (nI 1) (by rw [flR, pf_8]; first | done | decide +kernel) ?_
              refine z_cast (lv := [(7, .int (nI 0)), (6, .int (nI 1)), (0, .ref (q 0)), (1, .int (nI t)), (2, .int (nI s)), (3, .int (nI v)), (4, .int (nI u)), (5, .int (nI 1))]) (ws := (zMo (zy E) q (va_up h 0 (upd (h 0) 1 (nI 2))))) (st := [.int (nI 1)]) ?_ rfl (by rw [flG, pf_8]) rfl
              refine z_if_eq hC 87 dX10_carves_82 (by decide) (fun c_82 => ?_) (fun c_82 => ?_)
              · exact absurd c_82 (by decide +kernel)
              · refine z_iconst hC (nI 0) (by decide +kernel) dX10_carves_85 ?_
                have pT : cvT (h 1) t s v u = 2 := by simp only [cvT, if_neg c_5, if_neg c_12, if_neg c_26, if_pos c_37]
                exact z_iret hC hf rfl (by rw [pT]; rfl) (by unfold mxG; rw [pT]; rfl) dX10_carves_86
            · exact absurd c_59 (by decide +kernel)
        · refine z_iconst hC (nI 1) (by decide +kernel) dX10_carves_40 ?_
          refine z_goto hC 45 dX10_carves_41 (by decide) ?_
          refine z_istore hC (by decide) (lv' := [(7, .int (nI 1)), (6, .int (nI 1)), (0, .ref (q 0)), (1, .int (nI t)), (2, .int (nI s)), (3, .int (nI v)), (4, .int (nI u)), (5, .int (nI 1))]) rfl dX10_carves_45 ?_
          refine z_aload_n hC 2 rfl dX10_carves_47 ?_
          refine z_iload hC 1 rfl dX10_carves_48 ?_
          refine z_iload hC 0 rfl dX10_carves_50 ?_
          refine z_iload hC 1 rfl dX10_carves_52 ?_
          refine z_if_eq hC 78 dX10_carves_54 (by decide) (fun c_54 => ?_) (fun c_54 => ?_)
          · exact absurd c_54 (by decide +kernel)
          · refine z_iload hC 0 rfl dX10_carves_57 ?_
            refine z_if_eq hC 78 dX10_carves_59 (by decide) (fun c_59 => ?_) (fun c_59 => ?_)
            · exact absurd c_59 (by decide +kernel)
            · refine z_aload_n hC 2 rfl dX10_carves_62 ?_
              refine z_iload_n hC 3 rfl dX10_carves_63 ?_
              refine z_iload_n hC 4 rfl dX10_carves_64 ?_
              refine z_iload_n hC 5 rfl dX10_carves_65 ?_
              refine z_iload hC 6 rfl dX10_carves_66 ?_
              refine z_callV hC (As := [.int (nI t), .int (nI s), .int (nI v), .int (nI u)]) (st := [.int (nI 1), .int (nI 1), .ref (q 0)]) (ws2 := zMo (zy E) q h) (B := zMo (zy E) q h) (B' := zMo (zy E) q h) (r := some (.int (whM (h 1) t s v (nI u)))) 4 (c_X10_why q h t s v (nI u) (by omega) (by omega) (by omega) (hSp t ht5)) gX10_carves_X10_why (q0 := 0) (ci := 8) (by decide +kernel) rfl rfl rfl ⟨by decide, by decide⟩ [0, 1, 2, 3, 4, 5, 6] rfl (by decide) rfl (Nat.le_of_ble_eq_true rfl) rfl rfl dX10_carves_68 ?_ hkR
              refine z_if_ne hC 78 dX10_carves_71 (by decide) (fun c_71 => ?_) (fun c_71 => ?_)
              · refine z_iconst hC (nI 0) (by decide +kernel) dX10_carves_78 ?_
                refine z_callV hC (As := [.int (nI 1), .int (nI 1), .int (nI 0)]) (st := []) (ws2 := zMo (zy E) q (flG h (nI 1) (nI 1) (nI 0))) (B := zMo (zy E) q h) (B' := zMo (zy E) q (flG h (nI 1) (nI 1) (nI 0))) (r := some (.int (flR (nI 1) (nI 1) (nI 0)))) 3 (c_X10_fails q h (nI 1) (nI 1) (nI 0)) gX10_carves_X10_fails (q0 := 0) (ci := 8) (by decide +kernel) rfl rfl rfl ⟨by decide, by decide⟩ [0, 1, 2, 3, 4, 5, 6] rfl (by decide) rfl (Nat.le_of_ble_eq_true rfl) rfl rfl dX10_carves_79 ?_ hkR
                have pf_9 : flV (nI 1) (nI 1) (nI 0) = nI 3 := by rw [flV, if_neg (show ¬ nI 1 = 0 by decide +kernel), if_neg (show ¬ nI 1 = 0 by decide +kernel), if_pos (show nI 0 = 0 by decide +kernel)]
                refine z_top (nI 1) (by rw [flR, pf_9]; first | done | decide +kernel) ?_
                refine z_cast (lv := [(7, .int (nI 1)), (6, .int (nI 1)), (0, .ref (q 0)), (1, .int (nI t)), (2, .int (nI s)), (3, .int (nI v)), (4, .int (nI u)), (5, .int (nI 1))]) (ws := (zMo (zy E) q (va_up h 0 (upd (h 0) 1 (nI 3))))) (st := [.int (nI 1)]) ?_ rfl (by rw [flG, pf_9]) rfl
                refine z_if_eq hC 87 dX10_carves_82 (by decide) (fun c_82 => ?_) (fun c_82 => ?_)
                · exact absurd c_82 (by decide +kernel)
                · refine z_iconst hC (nI 0) (by decide +kernel) dX10_carves_85 ?_
                  have pT : cvT (h 1) t s v u = 3 := by simp only [cvT, if_neg c_5, if_neg c_12, if_neg c_26, if_neg c_37, if_neg c_71]
                  exact z_iret hC hf rfl (by rw [pT]; rfl) (by unfold mxG; rw [pT]; rfl) dX10_carves_86
              · refine z_iconst hC (nI 1) (by decide +kernel) dX10_carves_74 ?_
                refine z_goto hC 79 dX10_carves_75 (by decide) ?_
                refine z_callV hC (As := [.int (nI 1), .int (nI 1), .int (nI 1)]) (st := []) (ws2 := zMo (zy E) q (flG h (nI 1) (nI 1) (nI 1))) (B := zMo (zy E) q h) (B' := zMo (zy E) q (flG h (nI 1) (nI 1) (nI 1))) (r := some (.int (flR (nI 1) (nI 1) (nI 1)))) 3 (c_X10_fails q h (nI 1) (nI 1) (nI 1)) gX10_carves_X10_fails (q0 := 0) (ci := 8) (by decide +kernel) rfl rfl rfl ⟨by decide, by decide⟩ [0, 1, 2, 3, 4, 5, 6] rfl (by decide) rfl (Nat.le_of_ble_eq_true rfl) rfl rfl dX10_carves_79 ?_ hkR
                have pf_10 : flV (nI 1) (nI 1) (nI 1) = nI 0 := by rw [flV, if_neg (show ¬ nI 1 = 0 by decide +kernel), if_neg (show ¬ nI 1 = 0 by decide +kernel), if_neg (show ¬ nI 1 = 0 by decide +kernel)]
                refine z_top (nI 0) (by rw [flR, pf_10]; first | done | decide +kernel) ?_
                refine z_cast (lv := [(7, .int (nI 1)), (6, .int (nI 1)), (0, .ref (q 0)), (1, .int (nI t)), (2, .int (nI s)), (3, .int (nI v)), (4, .int (nI u)), (5, .int (nI 1))]) (ws := (zMo (zy E) q (va_up h 0 (upd (h 0) 1 (nI 0))))) (st := [.int (nI 0)]) ?_ rfl (by rw [flG, pf_10]) rfl
                refine z_if_eq hC 87 dX10_carves_82 (by decide) (fun c_82 => ?_) (fun c_82 => ?_)
                · refine z_iload hC 7 rfl dX10_carves_87 ?_
                  refine z_if_eq hC 96 dX10_carves_89 (by decide) (fun c_89 => ?_) (fun c_89 => ?_)
                  · exact absurd c_89 (by decide +kernel)
                  · refine z_aload_n hC 2 rfl dX10_carves_92 ?_
                    refine z_callV hC (As := []) (st := []) (ws2 := zMo (zy E) q (svG (va_up h 0 (upd (h 0) 1 (nI 0))) m)) (B := zMo (zy E) q (va_up h 0 (upd (h 0) 1 (nI 0)))) (B' := zMo (zy E) q (svG (va_up h 0 (upd (h 0) 1 (nI 0))) m)) (r := none) 0 (c_X10_save q (va_up h 0 (upd (h 0) 1 (nI 0))) m hsv hm4) gX10_carves_X10_save (q0 := 0) (ci := 8) (by decide +kernel) rfl rfl rfl ⟨by decide, by decide⟩ [0, 1, 2, 3, 4, 5, 6] rfl (by decide) rfl (Nat.le_of_ble_eq_true rfl) rfl rfl dX10_carves_93 ?_ hkR
                    refine z_iload hC 6 rfl dX10_carves_96 ?_
                    refine z_aload_n hC 2 rfl dX10_carves_98 ?_
                    refine z_get hC 0 8 0 (v := .ref (q 1)) rfl rfl iX10_carves_X10 (by decide) (List.mem_of_getElem? (i := 1) (by decide +kernel)) rfl rfl dX10_carves_99 ?_
                    refine z_sipush hC (nI 140) (by decide +kernel) dX10_carves_102 ?_
                    refine z_iload_n hC 3 rfl dX10_carves_105 ?_
                    refine z_iadd hC dX10_carves_106 ?_
                    refine z_top (nI (140 + t)) (nI_add _ _) ?_
                    refine z_iald hC 1 (140 + t) (f := h 1) rfl rfl rfl (by omega) (by decide) dX10_carves_107 ?_
                    refine z_callS hC (As := [.int (nI u), .int ((h 1) (140 + t))]) (st := []) (ws2 := zMo (zy E) q (svG (va_up h 0 (upd (h 0) 1 (nI 0))) m)) (B := []) (B' := []) (r := some (.int (upw (nI u) ((h 1) (140 + t))))) 2 (c_X10_upwards (nI u) ((h 1) (140 + t)) (hSp t ht5)) gX10_carves_X10_upwards (by decide +kernel) rfl ⟨by decide, by decide⟩ [] rfl (by decide) rfl (Nat.le_of_ble_eq_true rfl) rfl rfl dX10_carves_108 ?_ hkR
                    refine z_istore hC (by decide) (lv' := [(8, .int (upw (nI u) ((h 1) (140 + t)))), (7, .int (nI 1)), (6, .int (nI 1)), (0, .ref (q 0)), (1, .int (nI t)), (2, .int (nI s)), (3, .int (nI v)), (4, .int (nI u)), (5, .int (nI 1))]) rfl dX10_carves_111 ?_
                    refine z_aload_n hC 3 rfl dX10_carves_113 ?_
                    refine z_get hC 0 8 0 (v := .ref (q 1)) rfl rfl iX10_carves_X10 (by decide) (List.mem_of_getElem? (i := 1) (by decide +kernel)) rfl rfl dX10_carves_114 ?_
                    refine z_sipush hC (nI 145) (by decide +kernel) dX10_carves_117 ?_
                    refine z_iload_n hC 4 rfl dX10_carves_120 ?_
                    refine z_iadd hC dX10_carves_121 ?_
                    refine z_top (nI (145 + t)) (nI_add _ _) ?_
                    refine z_dup2 hC dX10_carves_122 rfl rfl ?_
                    refine z_iald hC 1 (145 + t) (f := h 1) rfl rfl rfl (by omega) (by decide) dX10_carves_123 ?_
                    refine z_iload hC 0 rfl dX10_carves_124 ?_
                    refine z_isub hC dX10_carves_126 ?_
                    refine z_iast hC 1 (145 + t) (((h 1) (145 + t)) - (upw (nI u) ((h 1) (140 + t)))) (ws' := zMo (zy E) q (va_up (svG (va_up h 0 (upd (h 0) 1 (nI 0))) m) 1 (upd (h 1) (145 + t) (((h 1) (145 + t)) - (upw (nI u) ((h 1) (140 + t))))))) rfl rfl rfl rfl (by omega) (by decide) rfl dX10_carves_127 ?_
                    refine z_aload_n hC 3 rfl dX10_carves_128 ?_
                    refine z_get hC 0 8 0 (v := .ref (q 1)) rfl rfl iX10_carves_X10 (by decide) (List.mem_of_getElem? (i := 1) (by decide +kernel)) rfl rfl dX10_carves_129 ?_
                    refine z_sipush hC (nI 150) (by decide +kernel) dX10_carves_132 ?_
                    refine z_iload_n hC 4 rfl dX10_carves_135 ?_
                    refine z_iadd hC dX10_carves_136 ?_
                    refine z_top (nI (150 + t)) (nI_add _ _) ?_
                    refine z_dup2 hC dX10_carves_137 rfl rfl ?_
                    refine z_iald hC 1 (150 + t) (f := upd (h 1) (145 + t) (((h 1) (145 + t)) - (upw (nI u) ((h 1) (140 + t))))) rfl rfl rfl (by omega) (by decide) dX10_carves_138 ?_
                    refine z_iload hC 0 rfl dX10_carves_139 ?_
                    refine z_iadd hC dX10_carves_141 ?_
                    refine z_iast hC 1 (150 + t) (((upd (h 1) (145 + t) (((h 1) (145 + t)) - (upw (nI u) ((h 1) (140 + t))))) (150 + t)) + (upw (nI u) ((h 1) (140 + t)))) (ws' := zMo (zy E) q (va_up (svG (va_up h 0 (upd (h 0) 1 (nI 0))) m) 1 (upd (upd (h 1) (145 + t) (((h 1) (145 + t)) - (upw (nI u) ((h 1) (140 + t))))) (150 + t) (((upd (h 1) (145 + t) (((h 1) (145 + t)) - (upw (nI u) ((h 1) (140 + t))))) (150 + t)) + (upw (nI u) ((h 1) (140 + t))))))) rfl rfl rfl rfl (by omega) (by decide) rfl dX10_carves_142 ?_
                    refine z_aload_n hC 3 rfl dX10_carves_143 ?_
                    refine z_get hC 0 8 0 (v := .ref (q 1)) rfl rfl iX10_carves_X10 (by decide) (List.mem_of_getElem? (i := 1) (by decide +kernel)) rfl rfl dX10_carves_144 ?_
                    refine z_bipush hC (nI 92) (by decide +kernel) dX10_carves_147 ?_
                    refine z_bipush hC (nI 6) (by decide +kernel) dX10_carves_149 ?_
                    refine z_iload_n hC 5 rfl dX10_carves_151 ?_
                    refine z_imul hC dX10_carves_152 ?_
                    refine z_top (nI (6 * s)) (pk_mul _ _) ?_
                    refine z_iadd hC dX10_carves_153 ?_
                    refine z_top (nI (92 + (6 * s))) (nI_add _ _) ?_
                    refine z_iload_n hC 6 rfl dX10_carves_154 ?_
                    refine z_iadd hC dX10_carves_155 ?_
                    refine z_top (nI ((92 + (6 * s)) + v)) (nI_add _ _) ?_
                    refine z_dup2 hC dX10_carves_156 rfl rfl ?_
                    refine z_iald hC 1 ((92 + (6 * s)) + v) (f := upd (upd (h 1) (145 + t) (((h 1) (145 + t)) - (upw (nI u) ((h 1) (140 + t))))) (150 + t) (((upd (h 1) (145 + t) (((h 1) (145 + t)) - (upw (nI u) ((h 1) (140 + t))))) (150 + t)) + (upw (nI u) ((h 1) (140 + t))))) rfl rfl rfl (by omega) (by decide) dX10_carves_157 ?_
                    refine z_iload hC 7 rfl dX10_carves_158 ?_
                    refine z_isub hC dX10_carves_160 ?_
                    refine z_iast hC 1 ((92 + (6 * s)) + v) (((upd (upd (h 1) (145 + t) (((h 1) (145 + t)) - (upw (nI u) ((h 1) (140 + t))))) (150 + t) (((upd (h 1) (145 + t) (((h 1) (145 + t)) - (upw (nI u) ((h 1) (140 + t))))) (150 + t)) + (upw (nI u) ((h 1) (140 + t))))) ((92 + (6 * s)) + v)) - (nI u)) (ws' := zMo (zy E) q (va_up (svG (va_up h 0 (upd (h 0) 1 (nI 0))) m) 1 (upd (upd (upd (h 1) (145 + t) (((h 1) (145 + t)) - (upw (nI u) ((h 1) (140 + t))))) (150 + t) (((upd (h 1) (145 + t) (((h 1) (145 + t)) - (upw (nI u) ((h 1) (140 + t))))) (150 + t)) + (upw (nI u) ((h 1) (140 + t))))) ((92 + (6 * s)) + v) (((upd (upd (h 1) (145 + t) (((h 1) (145 + t)) - (upw (nI u) ((h 1) (140 + t))))) (150 + t) (((upd (h 1) (145 + t) (((h 1) (145 + t)) - (upw (nI u) ((h 1) (140 + t))))) (150 + t)) + (upw (nI u) ((h 1) (140 + t))))) ((92 + (6 * s)) + v)) - (nI u))))) rfl rfl rfl rfl (by omega) (by decide) rfl dX10_carves_161 ?_
                    refine z_aload_n hC 3 rfl dX10_carves_162 ?_
                    refine z_get hC 0 8 0 (v := .ref (q 1)) rfl rfl iX10_carves_X10 (by decide) (List.mem_of_getElem? (i := 1) (by decide +kernel)) rfl rfl dX10_carves_163 ?_
                    refine z_iconst hC (nI 5) (by decide +kernel) dX10_carves_166 ?_
                    refine z_dup2 hC dX10_carves_167 rfl rfl ?_
                    refine z_iald hC 1 5 (f := upd (upd (upd (h 1) (145 + t) (((h 1) (145 + t)) - (upw (nI u) ((h 1) (140 + t))))) (150 + t) (((upd (h 1) (145 + t) (((h 1) (145 + t)) - (upw (nI u) ((h 1) (140 + t))))) (150 + t)) + (upw (nI u) ((h 1) (140 + t))))) ((92 + (6 * s)) + v) (((upd (upd (h 1) (145 + t) (((h 1) (145 + t)) - (upw (nI u) ((h 1) (140 + t))))) (150 + t) (((upd (h 1) (145 + t) (((h 1) (145 + t)) - (upw (nI u) ((h 1) (140 + t))))) (150 + t)) + (upw (nI u) ((h 1) (140 + t))))) ((92 + (6 * s)) + v)) - (nI u))) rfl rfl rfl (by omega) (by decide) dX10_carves_168 ?_
                    refine z_iload hC 7 rfl dX10_carves_169 ?_
                    refine z_iadd hC dX10_carves_171 ?_
                    refine z_iast hC 1 5 (((upd (upd (upd (h 1) (145 + t) (((h 1) (145 + t)) - (upw (nI u) ((h 1) (140 + t))))) (150 + t) (((upd (h 1) (145 + t) (((h 1) (145 + t)) - (upw (nI u) ((h 1) (140 + t))))) (150 + t)) + (upw (nI u) ((h 1) (140 + t))))) ((92 + (6 * s)) + v) (((upd (upd (h 1) (145 + t) (((h 1) (145 + t)) - (upw (nI u) ((h 1) (140 + t))))) (150 + t) (((upd (h 1) (145 + t) (((h 1) (145 + t)) - (upw (nI u) ((h 1) (140 + t))))) (150 + t)) + (upw (nI u) ((h 1) (140 + t))))) ((92 + (6 * s)) + v)) - (nI u))) 5) + (nI u)) (ws' := zMo (zy E) q (va_up (svG (va_up h 0 (upd (h 0) 1 (nI 0))) m) 1 (upd (upd (upd (upd (h 1) (145 + t) (((h 1) (145 + t)) - (upw (nI u) ((h 1) (140 + t))))) (150 + t) (((upd (h 1) (145 + t) (((h 1) (145 + t)) - (upw (nI u) ((h 1) (140 + t))))) (150 + t)) + (upw (nI u) ((h 1) (140 + t))))) ((92 + (6 * s)) + v) (((upd (upd (h 1) (145 + t) (((h 1) (145 + t)) - (upw (nI u) ((h 1) (140 + t))))) (150 + t) (((upd (h 1) (145 + t) (((h 1) (145 + t)) - (upw (nI u) ((h 1) (140 + t))))) (150 + t)) + (upw (nI u) ((h 1) (140 + t))))) ((92 + (6 * s)) + v)) - (nI u))) 5 (((upd (upd (upd (h 1) (145 + t) (((h 1) (145 + t)) - (upw (nI u) ((h 1) (140 + t))))) (150 + t) (((upd (h 1) (145 + t) (((h 1) (145 + t)) - (upw (nI u) ((h 1) (140 + t))))) (150 + t)) + (upw (nI u) ((h 1) (140 + t))))) ((92 + (6 * s)) + v) (((upd (upd (h 1) (145 + t) (((h 1) (145 + t)) - (upw (nI u) ((h 1) (140 + t))))) (150 + t) (((upd (h 1) (145 + t) (((h 1) (145 + t)) - (upw (nI u) ((h 1) (140 + t))))) (150 + t)) + (upw (nI u) ((h 1) (140 + t))))) ((92 + (6 * s)) + v)) - (nI u))) 5) + (nI u))))) rfl rfl rfl rfl (by omega) (by decide) rfl dX10_carves_172 ?_
                    refine z_aload_n hC 3 rfl dX10_carves_173 ?_
                    refine z_get hC 0 8 0 (v := .ref (q 1)) rfl rfl iX10_carves_X10 (by decide) (List.mem_of_getElem? (i := 1) (by decide +kernel)) rfl rfl dX10_carves_174 ?_
                    refine z_bipush hC (nI 28) (by decide +kernel) dX10_carves_177 ?_
                    refine z_iload_n hC 5 rfl dX10_carves_179 ?_
                    refine z_iadd hC dX10_carves_180 ?_
                    refine z_top (nI (28 + s)) (nI_add _ _) ?_
                    refine z_dup2 hC dX10_carves_181 rfl rfl ?_
                    refine z_iald hC 1 (28 + s) (f := upd (upd (upd (upd (h 1) (145 + t) (((h 1) (145 + t)) - (upw (nI u) ((h 1) (140 + t))))) (150 + t) (((upd (h 1) (145 + t) (((h 1) (145 + t)) - (upw (nI u) ((h 1) (140 + t))))) (150 + t)) + (upw (nI u) ((h 1) (140 + t))))) ((92 + (6 * s)) + v) (((upd (upd (h 1) (145 + t) (((h 1) (145 + t)) - (upw (nI u) ((h 1) (140 + t))))) (150 + t) (((upd (h 1) (145 + t) (((h 1) (145 + t)) - (upw (nI u) ((h 1) (140 + t))))) (150 + t)) + (upw (nI u) ((h 1) (140 + t))))) ((92 + (6 * s)) + v)) - (nI u))) 5 (((upd (upd (upd (h 1) (145 + t) (((h 1) (145 + t)) - (upw (nI u) ((h 1) (140 + t))))) (150 + t) (((upd (h 1) (145 + t) (((h 1) (145 + t)) - (upw (nI u) ((h 1) (140 + t))))) (150 + t)) + (upw (nI u) ((h 1) (140 + t))))) ((92 + (6 * s)) + v) (((upd (upd (h 1) (145 + t) (((h 1) (145 + t)) - (upw (nI u) ((h 1) (140 + t))))) (150 + t) (((upd (h 1) (145 + t) (((h 1) (145 + t)) - (upw (nI u) ((h 1) (140 + t))))) (150 + t)) + (upw (nI u) ((h 1) (140 + t))))) ((92 + (6 * s)) + v)) - (nI u))) 5) + (nI u))) rfl rfl rfl (by omega) (by decide) dX10_carves_182 ?_
                    refine z_iload hC 7 rfl dX10_carves_183 ?_
                    refine z_iadd hC dX10_carves_185 ?_
                    refine z_iast hC 1 (28 + s) (((upd (upd (upd (upd (h 1) (145 + t) (((h 1) (145 + t)) - (upw (nI u) ((h 1) (140 + t))))) (150 + t) (((upd (h 1) (145 + t) (((h 1) (145 + t)) - (upw (nI u) ((h 1) (140 + t))))) (150 + t)) + (upw (nI u) ((h 1) (140 + t))))) ((92 + (6 * s)) + v) (((upd (upd (h 1) (145 + t) (((h 1) (145 + t)) - (upw (nI u) ((h 1) (140 + t))))) (150 + t) (((upd (h 1) (145 + t) (((h 1) (145 + t)) - (upw (nI u) ((h 1) (140 + t))))) (150 + t)) + (upw (nI u) ((h 1) (140 + t))))) ((92 + (6 * s)) + v)) - (nI u))) 5 (((upd (upd (upd (h 1) (145 + t) (((h 1) (145 + t)) - (upw (nI u) ((h 1) (140 + t))))) (150 + t) (((upd (h 1) (145 + t) (((h 1) (145 + t)) - (upw (nI u) ((h 1) (140 + t))))) (150 + t)) + (upw (nI u) ((h 1) (140 + t))))) ((92 + (6 * s)) + v) (((upd (upd (h 1) (145 + t) (((h 1) (145 + t)) - (upw (nI u) ((h 1) (140 + t))))) (150 + t) (((upd (h 1) (145 + t) (((h 1) (145 + t)) - (upw (nI u) ((h 1) (140 + t))))) (150 + t)) + (upw (nI u) ((h 1) (140 + t))))) ((92 + (6 * s)) + v)) - (nI u))) 5) + (nI u))) (28 + s)) + (nI u)) (ws' := zMo (zy E) q (va_up (svG (va_up h 0 (upd (h 0) 1 (nI 0))) m) 1 (upd (upd (upd (upd (upd (h 1) (145 + t) (((h 1) (145 + t)) - (upw (nI u) ((h 1) (140 + t))))) (150 + t) (((upd (h 1) (145 + t) (((h 1) (145 + t)) - (upw (nI u) ((h 1) (140 + t))))) (150 + t)) + (upw (nI u) ((h 1) (140 + t))))) ((92 + (6 * s)) + v) (((upd (upd (h 1) (145 + t) (((h 1) (145 + t)) - (upw (nI u) ((h 1) (140 + t))))) (150 + t) (((upd (h 1) (145 + t) (((h 1) (145 + t)) - (upw (nI u) ((h 1) (140 + t))))) (150 + t)) + (upw (nI u) ((h 1) (140 + t))))) ((92 + (6 * s)) + v)) - (nI u))) 5 (((upd (upd (upd (h 1) (145 + t) (((h 1) (145 + t)) - (upw (nI u) ((h 1) (140 + t))))) (150 + t) (((upd (h 1) (145 + t) (((h 1) (145 + t)) - (upw (nI u) ((h 1) (140 + t))))) (150 + t)) + (upw (nI u) ((h 1) (140 + t))))) ((92 + (6 * s)) + v) (((upd (upd (h 1) (145 + t) (((h 1) (145 + t)) - (upw (nI u) ((h 1) (140 + t))))) (150 + t) (((upd (h 1) (145 + t) (((h 1) (145 + t)) - (upw (nI u) ((h 1) (140 + t))))) (150 + t)) + (upw (nI u) ((h 1) (140 + t))))) ((92 + (6 * s)) + v)) - (nI u))) 5) + (nI u))) (28 + s) (((upd (upd (upd (upd (h 1) (145 + t) (((h 1) (145 + t)) - (upw (nI u) ((h 1) (140 + t))))) (150 + t) (((upd (h 1) (145 + t) (((h 1) (145 + t)) - (upw (nI u) ((h 1) (140 + t))))) (150 + t)) + (upw (nI u) ((h 1) (140 + t))))) ((92 + (6 * s)) + v) (((upd (upd (h 1) (145 + t) (((h 1) (145 + t)) - (upw (nI u) ((h 1) (140 + t))))) (150 + t) (((upd (h 1) (145 + t) (((h 1) (145 + t)) - (upw (nI u) ((h 1) (140 + t))))) (150 + t)) + (upw (nI u) ((h 1) (140 + t))))) ((92 + (6 * s)) + v)) - (nI u))) 5 (((upd (upd (upd (h 1) (145 + t) (((h 1) (145 + t)) - (upw (nI u) ((h 1) (140 + t))))) (150 + t) (((upd (h 1) (145 + t) (((h 1) (145 + t)) - (upw (nI u) ((h 1) (140 + t))))) (150 + t)) + (upw (nI u) ((h 1) (140 + t))))) ((92 + (6 * s)) + v) (((upd (upd (h 1) (145 + t) (((h 1) (145 + t)) - (upw (nI u) ((h 1) (140 + t))))) (150 + t) (((upd (h 1) (145 + t) (((h 1) (145 + t)) - (upw (nI u) ((h 1) (140 + t))))) (150 + t)) + (upw (nI u) ((h 1) (140 + t))))) ((92 + (6 * s)) + v)) - (nI u))) 5) + (nI u))) (28 + s)) + (nI u))))) rfl rfl rfl rfl (by omega) (by decide) rfl dX10_carves_186 ?_
                    refine z_aload_n hC 3 rfl dX10_carves_187 ?_
                    refine z_get hC 0 8 0 (v := .ref (q 1)) rfl rfl iX10_carves_X10 (by decide) (List.mem_of_getElem? (i := 1) (by decide +kernel)) rfl rfl dX10_carves_188 ?_
                    refine z_bipush hC (nI 92) (by decide +kernel) dX10_carves_191 ?_
                    refine z_bipush hC (nI 6) (by decide +kernel) dX10_carves_193 ?_
                    refine z_iload_n hC 5 rfl dX10_carves_195 ?_
                    refine z_imul hC dX10_carves_196 ?_
                    refine z_top (nI (6 * s)) (pk_mul _ _) ?_
                    refine z_iadd hC dX10_carves_197 ?_
                    refine z_top (nI (92 + (6 * s))) (nI_add _ _) ?_
                    refine z_iload_n hC 6 rfl dX10_carves_198 ?_
                    refine z_iadd hC dX10_carves_199 ?_
                    refine z_top (nI ((92 + (6 * s)) + v)) (nI_add _ _) ?_
                    refine z_iald hC 1 ((92 + (6 * s)) + v) (f := upd (upd (upd (upd (upd (h 1) (145 + t) (((h 1) (145 + t)) - (upw (nI u) ((h 1) (140 + t))))) (150 + t) (((upd (h 1) (145 + t) (((h 1) (145 + t)) - (upw (nI u) ((h 1) (140 + t))))) (150 + t)) + (upw (nI u) ((h 1) (140 + t))))) ((92 + (6 * s)) + v) (((upd (upd (h 1) (145 + t) (((h 1) (145 + t)) - (upw (nI u) ((h 1) (140 + t))))) (150 + t) (((upd (h 1) (145 + t) (((h 1) (145 + t)) - (upw (nI u) ((h 1) (140 + t))))) (150 + t)) + (upw (nI u) ((h 1) (140 + t))))) ((92 + (6 * s)) + v)) - (nI u))) 5 (((upd (upd (upd (h 1) (145 + t) (((h 1) (145 + t)) - (upw (nI u) ((h 1) (140 + t))))) (150 + t) (((upd (h 1) (145 + t) (((h 1) (145 + t)) - (upw (nI u) ((h 1) (140 + t))))) (150 + t)) + (upw (nI u) ((h 1) (140 + t))))) ((92 + (6 * s)) + v) (((upd (upd (h 1) (145 + t) (((h 1) (145 + t)) - (upw (nI u) ((h 1) (140 + t))))) (150 + t) (((upd (h 1) (145 + t) (((h 1) (145 + t)) - (upw (nI u) ((h 1) (140 + t))))) (150 + t)) + (upw (nI u) ((h 1) (140 + t))))) ((92 + (6 * s)) + v)) - (nI u))) 5) + (nI u))) (28 + s) (((upd (upd (upd (upd (h 1) (145 + t) (((h 1) (145 + t)) - (upw (nI u) ((h 1) (140 + t))))) (150 + t) (((upd (h 1) (145 + t) (((h 1) (145 + t)) - (upw (nI u) ((h 1) (140 + t))))) (150 + t)) + (upw (nI u) ((h 1) (140 + t))))) ((92 + (6 * s)) + v) (((upd (upd (h 1) (145 + t) (((h 1) (145 + t)) - (upw (nI u) ((h 1) (140 + t))))) (150 + t) (((upd (h 1) (145 + t) (((h 1) (145 + t)) - (upw (nI u) ((h 1) (140 + t))))) (150 + t)) + (upw (nI u) ((h 1) (140 + t))))) ((92 + (6 * s)) + v)) - (nI u))) 5 (((upd (upd (upd (h 1) (145 + t) (((h 1) (145 + t)) - (upw (nI u) ((h 1) (140 + t))))) (150 + t) (((upd (h 1) (145 + t) (((h 1) (145 + t)) - (upw (nI u) ((h 1) (140 + t))))) (150 + t)) + (upw (nI u) ((h 1) (140 + t))))) ((92 + (6 * s)) + v) (((upd (upd (h 1) (145 + t) (((h 1) (145 + t)) - (upw (nI u) ((h 1) (140 + t))))) (150 + t) (((upd (h 1) (145 + t) (((h 1) (145 + t)) - (upw (nI u) ((h 1) (140 + t))))) (150 + t)) + (upw (nI u) ((h 1) (140 + t))))) ((92 + (6 * s)) + v)) - (nI u))) 5) + (nI u))) (28 + s)) + (nI u))) rfl rfl rfl (by omega) (by decide) dX10_carves_200 ?_
                    refine z_istore hC (by decide) (lv' := [(9, .int ((upd (upd (upd (upd (upd (h 1) (145 + t) (((h 1) (145 + t)) - (upw (nI u) ((h 1) (140 + t))))) (150 + t) (((upd (h 1) (145 + t) (((h 1) (145 + t)) - (upw (nI u) ((h 1) (140 + t))))) (150 + t)) + (upw (nI u) ((h 1) (140 + t))))) ((92 + (6 * s)) + v) (((upd (upd (h 1) (145 + t) (((h 1) (145 + t)) - (upw (nI u) ((h 1) (140 + t))))) (150 + t) (((upd (h 1) (145 + t) (((h 1) (145 + t)) - (upw (nI u) ((h 1) (140 + t))))) (150 + t)) + (upw (nI u) ((h 1) (140 + t))))) ((92 + (6 * s)) + v)) - (nI u))) 5 (((upd (upd (upd (h 1) (145 + t) (((h 1) (145 + t)) - (upw (nI u) ((h 1) (140 + t))))) (150 + t) (((upd (h 1) (145 + t) (((h 1) (145 + t)) - (upw (nI u) ((h 1) (140 + t))))) (150 + t)) + (upw (nI u) ((h 1) (140 + t))))) ((92 + (6 * s)) + v) (((upd (upd (h 1) (145 + t) (((h 1) (145 + t)) - (upw (nI u) ((h 1) (140 + t))))) (150 + t) (((upd (h 1) (145 + t) (((h 1) (145 + t)) - (upw (nI u) ((h 1) (140 + t))))) (150 + t)) + (upw (nI u) ((h 1) (140 + t))))) ((92 + (6 * s)) + v)) - (nI u))) 5) + (nI u))) (28 + s) (((upd (upd (upd (upd (h 1) (145 + t) (((h 1) (145 + t)) - (upw (nI u) ((h 1) (140 + t))))) (150 + t) (((upd (h 1) (145 + t) (((h 1) (145 + t)) - (upw (nI u) ((h 1) (140 + t))))) (150 + t)) + (upw (nI u) ((h 1) (140 + t))))) ((92 + (6 * s)) + v) (((upd (upd (h 1) (145 + t) (((h 1) (145 + t)) - (upw (nI u) ((h 1) (140 + t))))) (150 + t) (((upd (h 1) (145 + t) (((h 1) (145 + t)) - (upw (nI u) ((h 1) (140 + t))))) (150 + t)) + (upw (nI u) ((h 1) (140 + t))))) ((92 + (6 * s)) + v)) - (nI u))) 5 (((upd (upd (upd (h 1) (145 + t) (((h 1) (145 + t)) - (upw (nI u) ((h 1) (140 + t))))) (150 + t) (((upd (h 1) (145 + t) (((h 1) (145 + t)) - (upw (nI u) ((h 1) (140 + t))))) (150 + t)) + (upw (nI u) ((h 1) (140 + t))))) ((92 + (6 * s)) + v) (((upd (upd (h 1) (145 + t) (((h 1) (145 + t)) - (upw (nI u) ((h 1) (140 + t))))) (150 + t) (((upd (h 1) (145 + t) (((h 1) (145 + t)) - (upw (nI u) ((h 1) (140 + t))))) (150 + t)) + (upw (nI u) ((h 1) (140 + t))))) ((92 + (6 * s)) + v)) - (nI u))) 5) + (nI u))) (28 + s)) + (nI u))) ((92 + (6 * s)) + v))), (8, .int (upw (nI u) ((h 1) (140 + t)))), (7, .int (nI 1)), (6, .int (nI 1)), (0, .ref (q 0)), (1, .int (nI t)), (2, .int (nI s)), (3, .int (nI v)), (4, .int (nI u)), (5, .int (nI 1))]) rfl dX10_carves_201 ?_
                    refine z_aload_n hC 4 rfl dX10_carves_203 ?_
                    refine z_iload_n hC 6 rfl dX10_carves_204 ?_
                    refine z_callV hC (As := [.int (nI s)]) (st := []) (ws2 := zMo (zy E) q (va_up (va_up (svG (va_up h 0 (upd (h 0) 1 (nI 0))) m) 1 (upd (upd (upd (upd (upd (h 1) (145 + t) (((h 1) (145 + t)) - (upw (nI u) ((h 1) (140 + t))))) (150 + t) (((upd (h 1) (145 + t) (((h 1) (145 + t)) - (upw (nI u) ((h 1) (140 + t))))) (150 + t)) + (upw (nI u) ((h 1) (140 + t))))) ((92 + (6 * s)) + v) (((upd (upd (h 1) (145 + t) (((h 1) (145 + t)) - (upw (nI u) ((h 1) (140 + t))))) (150 + t) (((upd (h 1) (145 + t) (((h 1) (145 + t)) - (upw (nI u) ((h 1) (140 + t))))) (150 + t)) + (upw (nI u) ((h 1) (140 + t))))) ((92 + (6 * s)) + v)) - (nI u))) 5 (((upd (upd (upd (h 1) (145 + t) (((h 1) (145 + t)) - (upw (nI u) ((h 1) (140 + t))))) (150 + t) (((upd (h 1) (145 + t) (((h 1) (145 + t)) - (upw (nI u) ((h 1) (140 + t))))) (150 + t)) + (upw (nI u) ((h 1) (140 + t))))) ((92 + (6 * s)) + v) (((upd (upd (h 1) (145 + t) (((h 1) (145 + t)) - (upw (nI u) ((h 1) (140 + t))))) (150 + t) (((upd (h 1) (145 + t) (((h 1) (145 + t)) - (upw (nI u) ((h 1) (140 + t))))) (150 + t)) + (upw (nI u) ((h 1) (140 + t))))) ((92 + (6 * s)) + v)) - (nI u))) 5) + (nI u))) (28 + s) (((upd (upd (upd (upd (h 1) (145 + t) (((h 1) (145 + t)) - (upw (nI u) ((h 1) (140 + t))))) (150 + t) (((upd (h 1) (145 + t) (((h 1) (145 + t)) - (upw (nI u) ((h 1) (140 + t))))) (150 + t)) + (upw (nI u) ((h 1) (140 + t))))) ((92 + (6 * s)) + v) (((upd (upd (h 1) (145 + t) (((h 1) (145 + t)) - (upw (nI u) ((h 1) (140 + t))))) (150 + t) (((upd (h 1) (145 + t) (((h 1) (145 + t)) - (upw (nI u) ((h 1) (140 + t))))) (150 + t)) + (upw (nI u) ((h 1) (140 + t))))) ((92 + (6 * s)) + v)) - (nI u))) 5 (((upd (upd (upd (h 1) (145 + t) (((h 1) (145 + t)) - (upw (nI u) ((h 1) (140 + t))))) (150 + t) (((upd (h 1) (145 + t) (((h 1) (145 + t)) - (upw (nI u) ((h 1) (140 + t))))) (150 + t)) + (upw (nI u) ((h 1) (140 + t))))) ((92 + (6 * s)) + v) (((upd (upd (h 1) (145 + t) (((h 1) (145 + t)) - (upw (nI u) ((h 1) (140 + t))))) (150 + t) (((upd (h 1) (145 + t) (((h 1) (145 + t)) - (upw (nI u) ((h 1) (140 + t))))) (150 + t)) + (upw (nI u) ((h 1) (140 + t))))) ((92 + (6 * s)) + v)) - (nI u))) 5) + (nI u))) (28 + s)) + (nI u)))) 1 (dmF ((va_up (svG (va_up h 0 (upd (h 0) 1 (nI 0))) m) 1 (upd (upd (upd (upd (upd (h 1) (145 + t) (((h 1) (145 + t)) - (upw (nI u) ((h 1) (140 + t))))) (150 + t) (((upd (h 1) (145 + t) (((h 1) (145 + t)) - (upw (nI u) ((h 1) (140 + t))))) (150 + t)) + (upw (nI u) ((h 1) (140 + t))))) ((92 + (6 * s)) + v) (((upd (upd (h 1) (145 + t) (((h 1) (145 + t)) - (upw (nI u) ((h 1) (140 + t))))) (150 + t) (((upd (h 1) (145 + t) (((h 1) (145 + t)) - (upw (nI u) ((h 1) (140 + t))))) (150 + t)) + (upw (nI u) ((h 1) (140 + t))))) ((92 + (6 * s)) + v)) - (nI u))) 5 (((upd (upd (upd (h 1) (145 + t) (((h 1) (145 + t)) - (upw (nI u) ((h 1) (140 + t))))) (150 + t) (((upd (h 1) (145 + t) (((h 1) (145 + t)) - (upw (nI u) ((h 1) (140 + t))))) (150 + t)) + (upw (nI u) ((h 1) (140 + t))))) ((92 + (6 * s)) + v) (((upd (upd (h 1) (145 + t) (((h 1) (145 + t)) - (upw (nI u) ((h 1) (140 + t))))) (150 + t) (((upd (h 1) (145 + t) (((h 1) (145 + t)) - (upw (nI u) ((h 1) (140 + t))))) (150 + t)) + (upw (nI u) ((h 1) (140 + t))))) ((92 + (6 * s)) + v)) - (nI u))) 5) + (nI u))) (28 + s) (((upd (upd (upd (upd (h 1) (145 + t) (((h 1) (145 + t)) - (upw (nI u) ((h 1) (140 + t))))) (150 + t) (((upd (h 1) (145 + t) (((h 1) (145 + t)) - (upw (nI u) ((h 1) (140 + t))))) (150 + t)) + (upw (nI u) ((h 1) (140 + t))))) ((92 + (6 * s)) + v) (((upd (upd (h 1) (145 + t) (((h 1) (145 + t)) - (upw (nI u) ((h 1) (140 + t))))) (150 + t) (((upd (h 1) (145 + t) (((h 1) (145 + t)) - (upw (nI u) ((h 1) (140 + t))))) (150 + t)) + (upw (nI u) ((h 1) (140 + t))))) ((92 + (6 * s)) + v)) - (nI u))) 5 (((upd (upd (upd (h 1) (145 + t) (((h 1) (145 + t)) - (upw (nI u) ((h 1) (140 + t))))) (150 + t) (((upd (h 1) (145 + t) (((h 1) (145 + t)) - (upw (nI u) ((h 1) (140 + t))))) (150 + t)) + (upw (nI u) ((h 1) (140 + t))))) ((92 + (6 * s)) + v) (((upd (upd (h 1) (145 + t) (((h 1) (145 + t)) - (upw (nI u) ((h 1) (140 + t))))) (150 + t) (((upd (h 1) (145 + t) (((h 1) (145 + t)) - (upw (nI u) ((h 1) (140 + t))))) (150 + t)) + (upw (nI u) ((h 1) (140 + t))))) ((92 + (6 * s)) + v)) - (nI u))) 5) + (nI u))) (28 + s)) + (nI u)))) 1) s))) (B := zMo (zy E) q (va_up (svG (va_up h 0 (upd (h 0) 1 (nI 0))) m) 1 (upd (upd (upd (upd (upd (h 1) (145 + t) (((h 1) (145 + t)) - (upw (nI u) ((h 1) (140 + t))))) (150 + t) (((upd (h 1) (145 + t) (((h 1) (145 + t)) - (upw (nI u) ((h 1) (140 + t))))) (150 + t)) + (upw (nI u) ((h 1) (140 + t))))) ((92 + (6 * s)) + v) (((upd (upd (h 1) (145 + t) (((h 1) (145 + t)) - (upw (nI u) ((h 1) (140 + t))))) (150 + t) (((upd (h 1) (145 + t) (((h 1) (145 + t)) - (upw (nI u) ((h 1) (140 + t))))) (150 + t)) + (upw (nI u) ((h 1) (140 + t))))) ((92 + (6 * s)) + v)) - (nI u))) 5 (((upd (upd (upd (h 1) (145 + t) (((h 1) (145 + t)) - (upw (nI u) ((h 1) (140 + t))))) (150 + t) (((upd (h 1) (145 + t) (((h 1) (145 + t)) - (upw (nI u) ((h 1) (140 + t))))) (150 + t)) + (upw (nI u) ((h 1) (140 + t))))) ((92 + (6 * s)) + v) (((upd (upd (h 1) (145 + t) (((h 1) (145 + t)) - (upw (nI u) ((h 1) (140 + t))))) (150 + t) (((upd (h 1) (145 + t) (((h 1) (145 + t)) - (upw (nI u) ((h 1) (140 + t))))) (150 + t)) + (upw (nI u) ((h 1) (140 + t))))) ((92 + (6 * s)) + v)) - (nI u))) 5) + (nI u))) (28 + s) (((upd (upd (upd (upd (h 1) (145 + t) (((h 1) (145 + t)) - (upw (nI u) ((h 1) (140 + t))))) (150 + t) (((upd (h 1) (145 + t) (((h 1) (145 + t)) - (upw (nI u) ((h 1) (140 + t))))) (150 + t)) + (upw (nI u) ((h 1) (140 + t))))) ((92 + (6 * s)) + v) (((upd (upd (h 1) (145 + t) (((h 1) (145 + t)) - (upw (nI u) ((h 1) (140 + t))))) (150 + t) (((upd (h 1) (145 + t) (((h 1) (145 + t)) - (upw (nI u) ((h 1) (140 + t))))) (150 + t)) + (upw (nI u) ((h 1) (140 + t))))) ((92 + (6 * s)) + v)) - (nI u))) 5 (((upd (upd (upd (h 1) (145 + t) (((h 1) (145 + t)) - (upw (nI u) ((h 1) (140 + t))))) (150 + t) (((upd (h 1) (145 + t) (((h 1) (145 + t)) - (upw (nI u) ((h 1) (140 + t))))) (150 + t)) + (upw (nI u) ((h 1) (140 + t))))) ((92 + (6 * s)) + v) (((upd (upd (h 1) (145 + t) (((h 1) (145 + t)) - (upw (nI u) ((h 1) (140 + t))))) (150 + t) (((upd (h 1) (145 + t) (((h 1) (145 + t)) - (upw (nI u) ((h 1) (140 + t))))) (150 + t)) + (upw (nI u) ((h 1) (140 + t))))) ((92 + (6 * s)) + v)) - (nI u))) 5) + (nI u))) (28 + s)) + (nI u))))) (B' := zMo (zy E) q (va_up (va_up (svG (va_up h 0 (upd (h 0) 1 (nI 0))) m) 1 (upd (upd (upd (upd (upd (h 1) (145 + t) (((h 1) (145 + t)) - (upw (nI u) ((h 1) (140 + t))))) (150 + t) (((upd (h 1) (145 + t) (((h 1) (145 + t)) - (upw (nI u) ((h 1) (140 + t))))) (150 + t)) + (upw (nI u) ((h 1) (140 + t))))) ((92 + (6 * s)) + v) (((upd (upd (h 1) (145 + t) (((h 1) (145 + t)) - (upw (nI u) ((h 1) (140 + t))))) (150 + t) (((upd (h 1) (145 + t) (((h 1) (145 + t)) - (upw (nI u) ((h 1) (140 + t))))) (150 + t)) + (upw (nI u) ((h 1) (140 + t))))) ((92 + (6 * s)) + v)) - (nI u))) 5 (((upd (upd (upd (h 1) (145 + t) (((h 1) (145 + t)) - (upw (nI u) ((h 1) (140 + t))))) (150 + t) (((upd (h 1) (145 + t) (((h 1) (145 + t)) - (upw (nI u) ((h 1) (140 + t))))) (150 + t)) + (upw (nI u) ((h 1) (140 + t))))) ((92 + (6 * s)) + v) (((upd (upd (h 1) (145 + t) (((h 1) (145 + t)) - (upw (nI u) ((h 1) (140 + t))))) (150 + t) (((upd (h 1) (145 + t) (((h 1) (145 + t)) - (upw (nI u) ((h 1) (140 + t))))) (150 + t)) + (upw (nI u) ((h 1) (140 + t))))) ((92 + (6 * s)) + v)) - (nI u))) 5) + (nI u))) (28 + s) (((upd (upd (upd (upd (h 1) (145 + t) (((h 1) (145 + t)) - (upw (nI u) ((h 1) (140 + t))))) (150 + t) (((upd (h 1) (145 + t) (((h 1) (145 + t)) - (upw (nI u) ((h 1) (140 + t))))) (150 + t)) + (upw (nI u) ((h 1) (140 + t))))) ((92 + (6 * s)) + v) (((upd (upd (h 1) (145 + t) (((h 1) (145 + t)) - (upw (nI u) ((h 1) (140 + t))))) (150 + t) (((upd (h 1) (145 + t) (((h 1) (145 + t)) - (upw (nI u) ((h 1) (140 + t))))) (150 + t)) + (upw (nI u) ((h 1) (140 + t))))) ((92 + (6 * s)) + v)) - (nI u))) 5 (((upd (upd (upd (h 1) (145 + t) (((h 1) (145 + t)) - (upw (nI u) ((h 1) (140 + t))))) (150 + t) (((upd (h 1) (145 + t) (((h 1) (145 + t)) - (upw (nI u) ((h 1) (140 + t))))) (150 + t)) + (upw (nI u) ((h 1) (140 + t))))) ((92 + (6 * s)) + v) (((upd (upd (h 1) (145 + t) (((h 1) (145 + t)) - (upw (nI u) ((h 1) (140 + t))))) (150 + t) (((upd (h 1) (145 + t) (((h 1) (145 + t)) - (upw (nI u) ((h 1) (140 + t))))) (150 + t)) + (upw (nI u) ((h 1) (140 + t))))) ((92 + (6 * s)) + v)) - (nI u))) 5) + (nI u))) (28 + s)) + (nI u)))) 1 (dmF ((va_up (svG (va_up h 0 (upd (h 0) 1 (nI 0))) m) 1 (upd (upd (upd (upd (upd (h 1) (145 + t) (((h 1) (145 + t)) - (upw (nI u) ((h 1) (140 + t))))) (150 + t) (((upd (h 1) (145 + t) (((h 1) (145 + t)) - (upw (nI u) ((h 1) (140 + t))))) (150 + t)) + (upw (nI u) ((h 1) (140 + t))))) ((92 + (6 * s)) + v) (((upd (upd (h 1) (145 + t) (((h 1) (145 + t)) - (upw (nI u) ((h 1) (140 + t))))) (150 + t) (((upd (h 1) (145 + t) (((h 1) (145 + t)) - (upw (nI u) ((h 1) (140 + t))))) (150 + t)) + (upw (nI u) ((h 1) (140 + t))))) ((92 + (6 * s)) + v)) - (nI u))) 5 (((upd (upd (upd (h 1) (145 + t) (((h 1) (145 + t)) - (upw (nI u) ((h 1) (140 + t))))) (150 + t) (((upd (h 1) (145 + t) (((h 1) (145 + t)) - (upw (nI u) ((h 1) (140 + t))))) (150 + t)) + (upw (nI u) ((h 1) (140 + t))))) ((92 + (6 * s)) + v) (((upd (upd (h 1) (145 + t) (((h 1) (145 + t)) - (upw (nI u) ((h 1) (140 + t))))) (150 + t) (((upd (h 1) (145 + t) (((h 1) (145 + t)) - (upw (nI u) ((h 1) (140 + t))))) (150 + t)) + (upw (nI u) ((h 1) (140 + t))))) ((92 + (6 * s)) + v)) - (nI u))) 5) + (nI u))) (28 + s) (((upd (upd (upd (upd (h 1) (145 + t) (((h 1) (145 + t)) - (upw (nI u) ((h 1) (140 + t))))) (150 + t) (((upd (h 1) (145 + t) (((h 1) (145 + t)) - (upw (nI u) ((h 1) (140 + t))))) (150 + t)) + (upw (nI u) ((h 1) (140 + t))))) ((92 + (6 * s)) + v) (((upd (upd (h 1) (145 + t) (((h 1) (145 + t)) - (upw (nI u) ((h 1) (140 + t))))) (150 + t) (((upd (h 1) (145 + t) (((h 1) (145 + t)) - (upw (nI u) ((h 1) (140 + t))))) (150 + t)) + (upw (nI u) ((h 1) (140 + t))))) ((92 + (6 * s)) + v)) - (nI u))) 5 (((upd (upd (upd (h 1) (145 + t) (((h 1) (145 + t)) - (upw (nI u) ((h 1) (140 + t))))) (150 + t) (((upd (h 1) (145 + t) (((h 1) (145 + t)) - (upw (nI u) ((h 1) (140 + t))))) (150 + t)) + (upw (nI u) ((h 1) (140 + t))))) ((92 + (6 * s)) + v) (((upd (upd (h 1) (145 + t) (((h 1) (145 + t)) - (upw (nI u) ((h 1) (140 + t))))) (150 + t) (((upd (h 1) (145 + t) (((h 1) (145 + t)) - (upw (nI u) ((h 1) (140 + t))))) (150 + t)) + (upw (nI u) ((h 1) (140 + t))))) ((92 + (6 * s)) + v)) - (nI u))) 5) + (nI u))) (28 + s)) + (nI u)))) 1) s))) (r := none) 1 (c_X10_drop q (va_up (svG (va_up h 0 (upd (h 0) 1 (nI 0))) m) 1 (upd (upd (upd (upd (upd (h 1) (145 + t) (((h 1) (145 + t)) - (upw (nI u) ((h 1) (140 + t))))) (150 + t) (((upd (h 1) (145 + t) (((h 1) (145 + t)) - (upw (nI u) ((h 1) (140 + t))))) (150 + t)) + (upw (nI u) ((h 1) (140 + t))))) ((92 + (6 * s)) + v) (((upd (upd (h 1) (145 + t) (((h 1) (145 + t)) - (upw (nI u) ((h 1) (140 + t))))) (150 + t) (((upd (h 1) (145 + t) (((h 1) (145 + t)) - (upw (nI u) ((h 1) (140 + t))))) (150 + t)) + (upw (nI u) ((h 1) (140 + t))))) ((92 + (6 * s)) + v)) - (nI u))) 5 (((upd (upd (upd (h 1) (145 + t) (((h 1) (145 + t)) - (upw (nI u) ((h 1) (140 + t))))) (150 + t) (((upd (h 1) (145 + t) (((h 1) (145 + t)) - (upw (nI u) ((h 1) (140 + t))))) (150 + t)) + (upw (nI u) ((h 1) (140 + t))))) ((92 + (6 * s)) + v) (((upd (upd (h 1) (145 + t) (((h 1) (145 + t)) - (upw (nI u) ((h 1) (140 + t))))) (150 + t) (((upd (h 1) (145 + t) (((h 1) (145 + t)) - (upw (nI u) ((h 1) (140 + t))))) (150 + t)) + (upw (nI u) ((h 1) (140 + t))))) ((92 + (6 * s)) + v)) - (nI u))) 5) + (nI u))) (28 + s) (((upd (upd (upd (upd (h 1) (145 + t) (((h 1) (145 + t)) - (upw (nI u) ((h 1) (140 + t))))) (150 + t) (((upd (h 1) (145 + t) (((h 1) (145 + t)) - (upw (nI u) ((h 1) (140 + t))))) (150 + t)) + (upw (nI u) ((h 1) (140 + t))))) ((92 + (6 * s)) + v) (((upd (upd (h 1) (145 + t) (((h 1) (145 + t)) - (upw (nI u) ((h 1) (140 + t))))) (150 + t) (((upd (h 1) (145 + t) (((h 1) (145 + t)) - (upw (nI u) ((h 1) (140 + t))))) (150 + t)) + (upw (nI u) ((h 1) (140 + t))))) ((92 + (6 * s)) + v)) - (nI u))) 5 (((upd (upd (upd (h 1) (145 + t) (((h 1) (145 + t)) - (upw (nI u) ((h 1) (140 + t))))) (150 + t) (((upd (h 1) (145 + t) (((h 1) (145 + t)) - (upw (nI u) ((h 1) (140 + t))))) (150 + t)) + (upw (nI u) ((h 1) (140 + t))))) ((92 + (6 * s)) + v) (((upd (upd (h 1) (145 + t) (((h 1) (145 + t)) - (upw (nI u) ((h 1) (140 + t))))) (150 + t) (((upd (h 1) (145 + t) (((h 1) (145 + t)) - (upw (nI u) ((h 1) (140 + t))))) (150 + t)) + (upw (nI u) ((h 1) (140 + t))))) ((92 + (6 * s)) + v)) - (nI u))) 5) + (nI u))) (28 + s)) + (nI u)))) s (by omega) (okM_of (f := h 1) (fun j h1 h2 => by show (upd (upd (upd (upd (upd (h 1) (145 + t) (((h 1) (145 + t)) - (upw (nI u) ((h 1) (140 + t))))) (150 + t) (((upd (h 1) (145 + t) (((h 1) (145 + t)) - (upw (nI u) ((h 1) (140 + t))))) (150 + t)) + (upw (nI u) ((h 1) (140 + t))))) ((92 + (6 * s)) + v) (((upd (upd (h 1) (145 + t) (((h 1) (145 + t)) - (upw (nI u) ((h 1) (140 + t))))) (150 + t) (((upd (h 1) (145 + t) (((h 1) (145 + t)) - (upw (nI u) ((h 1) (140 + t))))) (150 + t)) + (upw (nI u) ((h 1) (140 + t))))) ((92 + (6 * s)) + v)) - (nI u))) 5 (((upd (upd (upd (h 1) (145 + t) (((h 1) (145 + t)) - (upw (nI u) ((h 1) (140 + t))))) (150 + t) (((upd (h 1) (145 + t) (((h 1) (145 + t)) - (upw (nI u) ((h 1) (140 + t))))) (150 + t)) + (upw (nI u) ((h 1) (140 + t))))) ((92 + (6 * s)) + v) (((upd (upd (h 1) (145 + t) (((h 1) (145 + t)) - (upw (nI u) ((h 1) (140 + t))))) (150 + t) (((upd (h 1) (145 + t) (((h 1) (145 + t)) - (upw (nI u) ((h 1) (140 + t))))) (150 + t)) + (upw (nI u) ((h 1) (140 + t))))) ((92 + (6 * s)) + v)) - (nI u))) 5) + (nI u))) (28 + s) (((upd (upd (upd (upd (h 1) (145 + t) (((h 1) (145 + t)) - (upw (nI u) ((h 1) (140 + t))))) (150 + t) (((upd (h 1) (145 + t) (((h 1) (145 + t)) - (upw (nI u) ((h 1) (140 + t))))) (150 + t)) + (upw (nI u) ((h 1) (140 + t))))) ((92 + (6 * s)) + v) (((upd (upd (h 1) (145 + t) (((h 1) (145 + t)) - (upw (nI u) ((h 1) (140 + t))))) (150 + t) (((upd (h 1) (145 + t) (((h 1) (145 + t)) - (upw (nI u) ((h 1) (140 + t))))) (150 + t)) + (upw (nI u) ((h 1) (140 + t))))) ((92 + (6 * s)) + v)) - (nI u))) 5 (((upd (upd (upd (h 1) (145 + t) (((h 1) (145 + t)) - (upw (nI u) ((h 1) (140 + t))))) (150 + t) (((upd (h 1) (145 + t) (((h 1) (145 + t)) - (upw (nI u) ((h 1) (140 + t))))) (150 + t)) + (upw (nI u) ((h 1) (140 + t))))) ((92 + (6 * s)) + v) (((upd (upd (h 1) (145 + t) (((h 1) (145 + t)) - (upw (nI u) ((h 1) (140 + t))))) (150 + t) (((upd (h 1) (145 + t) (((h 1) (145 + t)) - (upw (nI u) ((h 1) (140 + t))))) (150 + t)) + (upw (nI u) ((h 1) (140 + t))))) ((92 + (6 * s)) + v)) - (nI u))) 5) + (nI u))) (28 + s)) + (nI u))) j = _; rw [pk_un (by omega), pk_un (by omega), pk_un (by omega), pk_un (by omega), pk_un (by omega)]) hM)) gX10_carves_X10_drop (q0 := 0) (ci := 8) (by decide +kernel) rfl rfl rfl ⟨by decide, by decide⟩ [0, 1, 2, 3, 4, 5, 6] rfl (by decide) rfl (Nat.le_of_ble_eq_true rfl) rfl rfl dX10_carves_205 ?_ hkR
                    refine z_iload hC 0 rfl dX10_carves_208 ?_
                    have pT : cvT (h 1) t s v u = 0 := by simp only [cvT, if_neg c_5, if_neg c_12, if_neg c_26, if_neg c_37, if_pos c_71]
                    exact z_iret hC hf rfl (by rw [pT]; rfl) (by unfold mxG; rw [pT]; rfl) dX10_carves_210
                · exact absurd c_82 (by decide +kernel)

set_option maxHeartbeats 4000000 in
set_option maxRecDepth 100000 in
/-- carve -/
theorem c_X10_carve {l : Launch} {y : zY} {D : va_G} (q : Nat → Nat) (h : Nat → Nat → Int32) (t s v u : Nat) (ht : t < 2 ^ 32) (hs : s < 2 ^ 32) (hv : v < 2 ^ 32) (hu : u < 2 ^ 32) (hM : okM (h 1)) (hT : okTm (h 1)) (hSp : okSp (h 1)) (m : Nat) (hsv : h 0 0 = nI m) (hm4 : m ≤ 4) : zM l y D yX10_carve wsX10_carve 3 74 [.ref (q 0), .int (nI t), .int (nI s), .int (nI v), .int (nI u)] (zMo y q h) (zMo y q (mxG h (cvT (h 1) t s v u) (va_up (svG (h0t h) m) 1 (dmF (cvE (h 1) t s v u) s)))) (some (.int (if cvT (h 1) t s v u = 0 then cvE (h 1) t s v u (92 + 6 * s + v) else nI 0))) := by
  refine z_start (own := RX10) (cc := cX10_carve) (maxL := 5) (ret := (some .int)) rfl (by decide +kernel) rfl (Nat.le_of_ble_eq_true rfl) (zMo_fst _ _ _ _) ?_
  intro E hEl hEy hED hC hf
  subst hEl hEy hED
  have hkR : 0 ≤ E.2.2.2.2.2.1.cells ∧ 0 ≤ E.2.2.2.2.2.1.slots := ⟨Nat.zero_le _, Nat.zero_le _⟩
  refine z_cast (lv := [(0, .ref (q 0)), (1, .int (nI t)), (2, .int (nI s)), (3, .int (nI v)), (4, .int (nI u))]) (ws := (zMo (zy E) q h)) (st := []) ?_ rfl rfl rfl
  refine z_aload_n hC 0 rfl dX10_carve_0 ?_
  refine z_iload_n hC 1 rfl dX10_carve_1 ?_
  refine z_iload_n hC 2 rfl dX10_carve_2 ?_
  refine z_iload_n hC 3 rfl dX10_carve_3 ?_
  refine z_iload hC 4 rfl dX10_carve_4 ?_
  refine z_iconst hC (nI 1) (by decide +kernel) dX10_carve_6 ?_
  refine z_callV hC (As := [.int (nI t), .int (nI s), .int (nI v), .int (nI u), .int (nI 1)]) (st := []) (ws2 := zMo (zy E) q (mxG h (cvT (h 1) t s v u) (va_up (svG (h0t h) m) 1 (dmF (cvE (h 1) t s v u) s)))) (B := zMo (zy E) q h) (B' := zMo (zy E) q (mxG h (cvT (h 1) t s v u) (va_up (svG (h0t h) m) 1 (dmF (cvE (h 1) t s v u) s)))) (r := some (.int (if cvT (h 1) t s v u = 0 then cvE (h 1) t s v u (92 + 6 * s + v) else nI 0))) 5 (c_X10_carves_1 q h t s v u ht hs hv hu hM hT hSp m hsv hm4) gX10_carve_X10_carves (q0 := 0) (ci := 8) (by decide +kernel) rfl rfl rfl ⟨by decide, by decide⟩ [0, 1, 2, 3, 4, 5, 6] rfl (by decide) rfl (Nat.le_of_ble_eq_true rfl) rfl rfl dX10_carve_7 ?_ hkR
  exact z_iret hC hf rfl rfl rfl dX10_carve_10

set_option maxHeartbeats 4000000 in
set_option maxRecDepth 100000 in
/-- reason -/
theorem c_X10_reason {l : Launch} {y : zY} {D : va_G} (q : Nat → Nat) (h : Nat → Nat → Int32) (t s v u : Nat) (ht : t < 2 ^ 32) (hs : s < 2 ^ 32) (hv : v < 2 ^ 32) (hu : u < 2 ^ 32) (hM : okM (h 1)) (hT : okTm (h 1)) (hSp : okSp (h 1)) : zM l y D yX10_reason wsX10_reason 2 45 [.ref (q 0), .int (nI t), .int (nI s), .int (nI v), .int (nI u)] (zMo y q h) (zMo y q (mxG h (rsT (h 1) t s v u) (h0t h))) (some (.int (if rsT (h 1) t s v u = 0 then whM (h 1) t s v (nI u) else nI 0))) := by
  refine z_start (own := RX10) (cc := cX10_reason) (maxL := 5) (ret := (some .int)) rfl (by decide +kernel) rfl (Nat.le_of_ble_eq_true rfl) (zMo_fst _ _ _ _) ?_
  intro E hEl hEy hED hC hf
  subst hEl hEy hED
  have hkR : 0 ≤ E.2.2.2.2.2.1.cells ∧ 0 ≤ E.2.2.2.2.2.1.slots := ⟨Nat.zero_le _, Nat.zero_le _⟩
  refine z_cast (lv := [(0, .ref (q 0)), (1, .int (nI t)), (2, .int (nI s)), (3, .int (nI v)), (4, .int (nI u))]) (ws := (zMo (zy E) q h)) (st := []) ?_ rfl rfl rfl
  refine z_aload_n hC 0 rfl dX10_reason_0 ?_
  refine z_aload_n hC 0 rfl dX10_reason_1 ?_
  refine z_iload_n hC 1 rfl dX10_reason_2 ?_
  refine z_callV hC (As := [.int (nI t)]) (st := [.ref (q 0)]) (ws2 := zMo (zy E) q h) (B := zMo (zy E) q h) (B' := zMo (zy E) q h) (r := some (.int (wi (nI t) (nI 0) ((h 1) 10 - nI 1)))) 1 (c_X10_isTool q h (nI t)) gX10_reason_X10_isTool (q0 := 0) (ci := 8) (by decide +kernel) rfl rfl rfl ⟨by decide, by decide⟩ [0, 1, 2, 3, 4, 5, 6] rfl (by decide) rfl (Nat.le_of_ble_eq_true rfl) rfl rfl dX10_reason_3 ?_ hkR
  refine z_if_eq hC 20 dX10_reason_6 (by decide) (fun c_6 => ?_) (fun c_6 => ?_)
  · refine z_iconst hC (nI 0) (by decide +kernel) dX10_reason_20 ?_
    refine z_iload_n hC 3 rfl dX10_reason_21 ?_
    refine z_callS hC (As := [.int (nI v)]) (st := [.int (nI 0), .ref (q 0)]) (ws2 := zMo (zy E) q h) (B := []) (B' := []) (r := some (.int (isL (nI v)))) 1 (c_X10_isLevel (nI v)) gX10_reason_X10_isLevel (by decide +kernel) rfl ⟨by decide, by decide⟩ [] rfl (by decide) rfl (Nat.le_of_ble_eq_true rfl) rfl rfl dX10_reason_22 ?_ hkR
    refine z_if_eq hC 43 dX10_reason_25 (by decide) (fun c_25 => ?_) (fun c_25 => ?_)
    · refine z_iconst hC (nI 0) (by decide +kernel) dX10_reason_43 ?_
      refine z_iconst hC (nI 1) (by decide +kernel) dX10_reason_44 ?_
      refine z_callV hC (As := [.int (nI 0), .int (nI 0), .int (nI 1)]) (st := []) (ws2 := zMo (zy E) q (flG h (nI 0) (nI 0) (nI 1))) (B := zMo (zy E) q h) (B' := zMo (zy E) q (flG h (nI 0) (nI 0) (nI 1))) (r := some (.int (flR (nI 0) (nI 0) (nI 1)))) 3 (c_X10_fails q h (nI 0) (nI 0) (nI 1)) gX10_reason_X10_fails (q0 := 0) (ci := 8) (by decide +kernel) rfl rfl rfl ⟨by decide, by decide⟩ [0, 1, 2, 3, 4, 5, 6] rfl (by decide) rfl (Nat.le_of_ble_eq_true rfl) rfl rfl dX10_reason_45 ?_ hkR
      have pf_1 : flV (nI 0) (nI 0) (nI 1) = nI 1 := by rw [flV, if_pos (show nI 0 = 0 by decide +kernel)]
      refine z_top (nI 1) (by rw [flR, pf_1]; first | done | decide +kernel) ?_
      refine z_cast (lv := [(0, .ref (q 0)), (1, .int (nI t)), (2, .int (nI s)), (3, .int (nI v)), (4, .int (nI u))]) (ws := (zMo (zy E) q (va_up h 0 (upd (h 0) 1 (nI 1))))) (st := [.int (nI 1)]) ?_ rfl (by rw [flG, pf_1]) rfl
      refine z_if_eq hC 55 dX10_reason_48 (by decide) (fun c_48 => ?_) (fun c_48 => ?_)
      · exact absurd c_48 (by decide +kernel)
      · refine z_iconst hC (nI 0) (by decide +kernel) dX10_reason_51 ?_
        refine z_goto hC 64 dX10_reason_52 (by decide) ?_
        have pT : rsT (h 1) t s v u = 1 := by simp only [rsT, if_pos c_6, if_pos c_25]
        exact z_iret hC hf rfl (by rw [pT]; rfl) (by unfold mxG; rw [pT]; rfl) dX10_reason_64
    · have hv6 := isL_lt hv c_25
      refine z_iload hC 4 rfl dX10_reason_28 ?_
      refine z_iconst hC (nI 1) (by decide +kernel) dX10_reason_30 ?_
      refine z_bipush hC (nI 100) (by decide +kernel) dX10_reason_31 ?_
      refine z_callS hC (As := [.int (nI u), .int (nI 1), .int (nI 100)]) (st := [.int (nI 0), .ref (q 0)]) (ws2 := zMo (zy E) q h) (B := []) (B' := []) (r := some (.int (wi (nI u) (nI 1) (nI 100)))) 3 (c_X10_in (nI u) (nI 1) (nI 100)) gX10_reason_X10_in (by decide +kernel) rfl ⟨by decide, by decide⟩ [] rfl (by decide) rfl (Nat.le_of_ble_eq_true rfl) rfl rfl dX10_reason_33 ?_ hkR
      refine z_if_eq hC 43 dX10_reason_36 (by decide) (fun c_36 => ?_) (fun c_36 => ?_)
      · refine z_iconst hC (nI 0) (by decide +kernel) dX10_reason_43 ?_
        refine z_iconst hC (nI 1) (by decide +kernel) dX10_reason_44 ?_
        refine z_callV hC (As := [.int (nI 0), .int (nI 0), .int (nI 1)]) (st := []) (ws2 := zMo (zy E) q (flG h (nI 0) (nI 0) (nI 1))) (B := zMo (zy E) q h) (B' := zMo (zy E) q (flG h (nI 0) (nI 0) (nI 1))) (r := some (.int (flR (nI 0) (nI 0) (nI 1)))) 3 (c_X10_fails q h (nI 0) (nI 0) (nI 1)) gX10_reason_X10_fails (q0 := 0) (ci := 8) (by decide +kernel) rfl rfl rfl ⟨by decide, by decide⟩ [0, 1, 2, 3, 4, 5, 6] rfl (by decide) rfl (Nat.le_of_ble_eq_true rfl) rfl rfl dX10_reason_45 ?_ hkR
        have pf_2 : flV (nI 0) (nI 0) (nI 1) = nI 1 := by rw [flV, if_pos (show nI 0 = 0 by decide +kernel)]
        refine z_top (nI 1) (by rw [flR, pf_2]; first | done | decide +kernel) ?_
        refine z_cast (lv := [(0, .ref (q 0)), (1, .int (nI t)), (2, .int (nI s)), (3, .int (nI v)), (4, .int (nI u))]) (ws := (zMo (zy E) q (va_up h 0 (upd (h 0) 1 (nI 1))))) (st := [.int (nI 1)]) ?_ rfl (by rw [flG, pf_2]) rfl
        refine z_if_eq hC 55 dX10_reason_48 (by decide) (fun c_48 => ?_) (fun c_48 => ?_)
        · exact absurd c_48 (by decide +kernel)
        · refine z_iconst hC (nI 0) (by decide +kernel) dX10_reason_51 ?_
          refine z_goto hC 64 dX10_reason_52 (by decide) ?_
          have pT : rsT (h 1) t s v u = 1 := by simp only [rsT, if_pos c_6, if_neg c_25, if_pos c_36]
          exact z_iret hC hf rfl (by rw [pT]; rfl) (by unfold mxG; rw [pT]; rfl) dX10_reason_64
      · refine z_iconst hC (nI 1) (by decide +kernel) dX10_reason_39 ?_
        refine z_goto hC 44 dX10_reason_40 (by decide) ?_
        refine z_iconst hC (nI 1) (by decide +kernel) dX10_reason_44 ?_
        refine z_callV hC (As := [.int (nI 0), .int (nI 1), .int (nI 1)]) (st := []) (ws2 := zMo (zy E) q (flG h (nI 0) (nI 1) (nI 1))) (B := zMo (zy E) q h) (B' := zMo (zy E) q (flG h (nI 0) (nI 1) (nI 1))) (r := some (.int (flR (nI 0) (nI 1) (nI 1)))) 3 (c_X10_fails q h (nI 0) (nI 1) (nI 1)) gX10_reason_X10_fails (q0 := 0) (ci := 8) (by decide +kernel) rfl rfl rfl ⟨by decide, by decide⟩ [0, 1, 2, 3, 4, 5, 6] rfl (by decide) rfl (Nat.le_of_ble_eq_true rfl) rfl rfl dX10_reason_45 ?_ hkR
        have pf_3 : flV (nI 0) (nI 1) (nI 1) = nI 1 := by rw [flV, if_pos (show nI 0 = 0 by decide +kernel)]
        refine z_top (nI 1) (by rw [flR, pf_3]; first | done | decide +kernel) ?_
        refine z_cast (lv := [(0, .ref (q 0)), (1, .int (nI t)), (2, .int (nI s)), (3, .int (nI v)), (4, .int (nI u))]) (ws := (zMo (zy E) q (va_up h 0 (upd (h 0) 1 (nI 1))))) (st := [.int (nI 1)]) ?_ rfl (by rw [flG, pf_3]) rfl
        refine z_if_eq hC 55 dX10_reason_48 (by decide) (fun c_48 => ?_) (fun c_48 => ?_)
        · exact absurd c_48 (by decide +kernel)
        · refine z_iconst hC (nI 0) (by decide +kernel) dX10_reason_51 ?_
          refine z_goto hC 64 dX10_reason_52 (by decide) ?_
          have pT : rsT (h 1) t s v u = 1 := by simp only [rsT, if_pos c_6, if_neg c_25, if_neg c_36]
          exact z_iret hC hf rfl (by rw [pT]; rfl) (by unfold mxG; rw [pT]; rfl) dX10_reason_64
  · have ht5 := isT_lt hT ht c_6
    have hz5 := hT.2
    refine z_iload_n hC 2 rfl dX10_reason_9 ?_
    refine z_callS hC (As := [.int (nI s)]) (st := [.ref (q 0)]) (ws2 := zMo (zy E) q h) (B := []) (B' := []) (r := some (.int (isS (nI s)))) 1 (c_X10_isSite (nI s)) gX10_reason_X10_isSite (by decide +kernel) rfl ⟨by decide, by decide⟩ [] rfl (by decide) rfl (Nat.le_of_ble_eq_true rfl) rfl rfl dX10_reason_10 ?_ hkR
    refine z_if_eq hC 20 dX10_reason_13 (by decide) (fun c_13 => ?_) (fun c_13 => ?_)
    · refine z_iconst hC (nI 0) (by decide +kernel) dX10_reason_20 ?_
      refine z_iload_n hC 3 rfl dX10_reason_21 ?_
      refine z_callS hC (As := [.int (nI v)]) (st := [.int (nI 0), .ref (q 0)]) (ws2 := zMo (zy E) q h) (B := []) (B' := []) (r := some (.int (isL (nI v)))) 1 (c_X10_isLevel (nI v)) gX10_reason_X10_isLevel (by decide +kernel) rfl ⟨by decide, by decide⟩ [] rfl (by decide) rfl (Nat.le_of_ble_eq_true rfl) rfl rfl dX10_reason_22 ?_ hkR
      refine z_if_eq hC 43 dX10_reason_25 (by decide) (fun c_25 => ?_) (fun c_25 => ?_)
      · refine z_iconst hC (nI 0) (by decide +kernel) dX10_reason_43 ?_
        refine z_iconst hC (nI 1) (by decide +kernel) dX10_reason_44 ?_
        refine z_callV hC (As := [.int (nI 0), .int (nI 0), .int (nI 1)]) (st := []) (ws2 := zMo (zy E) q (flG h (nI 0) (nI 0) (nI 1))) (B := zMo (zy E) q h) (B' := zMo (zy E) q (flG h (nI 0) (nI 0) (nI 1))) (r := some (.int (flR (nI 0) (nI 0) (nI 1)))) 3 (c_X10_fails q h (nI 0) (nI 0) (nI 1)) gX10_reason_X10_fails (q0 := 0) (ci := 8) (by decide +kernel) rfl rfl rfl ⟨by decide, by decide⟩ [0, 1, 2, 3, 4, 5, 6] rfl (by decide) rfl (Nat.le_of_ble_eq_true rfl) rfl rfl dX10_reason_45 ?_ hkR
        have pf_4 : flV (nI 0) (nI 0) (nI 1) = nI 1 := by rw [flV, if_pos (show nI 0 = 0 by decide +kernel)]
        refine z_top (nI 1) (by rw [flR, pf_4]; first | done | decide +kernel) ?_
        refine z_cast (lv := [(0, .ref (q 0)), (1, .int (nI t)), (2, .int (nI s)), (3, .int (nI v)), (4, .int (nI u))]) (ws := (zMo (zy E) q (va_up h 0 (upd (h 0) 1 (nI 1))))) (st := [.int (nI 1)]) ?_ rfl (by rw [flG, pf_4]) rfl
        refine z_if_eq hC 55 dX10_reason_48 (by decide) (fun c_48 => ?_) (fun c_48 => ?_)
        · exact absurd c_48 (by decide +kernel)
        · refine z_iconst hC (nI 0) (by decide +kernel) dX10_reason_51 ?_
          refine z_goto hC 64 dX10_reason_52 (by decide) ?_
          have pT : rsT (h 1) t s v u = 1 := by simp only [rsT, if_neg c_6, if_pos c_13, if_pos c_25]
          exact z_iret hC hf rfl (by rw [pT]; rfl) (by unfold mxG; rw [pT]; rfl) dX10_reason_64
      · have hv6 := isL_lt hv c_25
        refine z_iload hC 4 rfl dX10_reason_28 ?_
        refine z_iconst hC (nI 1) (by decide +kernel) dX10_reason_30 ?_
        refine z_bipush hC (nI 100) (by decide +kernel) dX10_reason_31 ?_
        refine z_callS hC (As := [.int (nI u), .int (nI 1), .int (nI 100)]) (st := [.int (nI 0), .ref (q 0)]) (ws2 := zMo (zy E) q h) (B := []) (B' := []) (r := some (.int (wi (nI u) (nI 1) (nI 100)))) 3 (c_X10_in (nI u) (nI 1) (nI 100)) gX10_reason_X10_in (by decide +kernel) rfl ⟨by decide, by decide⟩ [] rfl (by decide) rfl (Nat.le_of_ble_eq_true rfl) rfl rfl dX10_reason_33 ?_ hkR
        refine z_if_eq hC 43 dX10_reason_36 (by decide) (fun c_36 => ?_) (fun c_36 => ?_)
        · refine z_iconst hC (nI 0) (by decide +kernel) dX10_reason_43 ?_
          refine z_iconst hC (nI 1) (by decide +kernel) dX10_reason_44 ?_
          refine z_callV hC (As := [.int (nI 0), .int (nI 0), .int (nI 1)]) (st := []) (ws2 := zMo (zy E) q (flG h (nI 0) (nI 0) (nI 1))) (B := zMo (zy E) q h) (B' := zMo (zy E) q (flG h (nI 0) (nI 0) (nI 1))) (r := some (.int (flR (nI 0) (nI 0) (nI 1)))) 3 (c_X10_fails q h (nI 0) (nI 0) (nI 1)) gX10_reason_X10_fails (q0 := 0) (ci := 8) (by decide +kernel) rfl rfl rfl ⟨by decide, by decide⟩ [0, 1, 2, 3, 4, 5, 6] rfl (by decide) rfl (Nat.le_of_ble_eq_true rfl) rfl rfl dX10_reason_45 ?_ hkR
          have pf_5 : flV (nI 0) (nI 0) (nI 1) = nI 1 := by rw [flV, if_pos (show nI 0 = 0 by decide +kernel)]
          refine z_top (nI 1) (by rw [flR, pf_5]; first | done | decide +kernel) ?_
          refine z_cast (lv := [(0, .ref (q 0)), (1, .int (nI t)), (2, .int (nI s)), (3, .int (nI v)), (4, .int (nI u))]) (ws := (zMo (zy E) q (va_up h 0 (upd (h 0) 1 (nI 1))))) (st := [.int (nI 1)]) ?_ rfl (by rw [flG, pf_5]) rfl
          refine z_if_eq hC 55 dX10_reason_48 (by decide) (fun c_48 => ?_) (fun c_48 => ?_)
          · exact absurd c_48 (by decide +kernel)
          · refine z_iconst hC (nI 0) (by decide +kernel) dX10_reason_51 ?_
            refine z_goto hC 64 dX10_reason_52 (by decide) ?_
            have pT : rsT (h 1) t s v u = 1 := by simp only [rsT, if_neg c_6, if_pos c_13, if_neg c_25, if_pos c_36]
            exact z_iret hC hf rfl (by rw [pT]; rfl) (by unfold mxG; rw [pT]; rfl) dX10_reason_64
        · refine z_iconst hC (nI 1) (by decide +kernel) dX10_reason_39 ?_
          refine z_goto hC 44 dX10_reason_40 (by decide) ?_
          refine z_iconst hC (nI 1) (by decide +kernel) dX10_reason_44 ?_
          refine z_callV hC (As := [.int (nI 0), .int (nI 1), .int (nI 1)]) (st := []) (ws2 := zMo (zy E) q (flG h (nI 0) (nI 1) (nI 1))) (B := zMo (zy E) q h) (B' := zMo (zy E) q (flG h (nI 0) (nI 1) (nI 1))) (r := some (.int (flR (nI 0) (nI 1) (nI 1)))) 3 (c_X10_fails q h (nI 0) (nI 1) (nI 1)) gX10_reason_X10_fails (q0 := 0) (ci := 8) (by decide +kernel) rfl rfl rfl ⟨by decide, by decide⟩ [0, 1, 2, 3, 4, 5, 6] rfl (by decide) rfl (Nat.le_of_ble_eq_true rfl) rfl rfl dX10_reason_45 ?_ hkR
          have pf_6 : flV (nI 0) (nI 1) (nI 1) = nI 1 := by rw [flV, if_pos (show nI 0 = 0 by decide +kernel)]
          refine z_top (nI 1) (by rw [flR, pf_6]; first | done | decide +kernel) ?_
          refine z_cast (lv := [(0, .ref (q 0)), (1, .int (nI t)), (2, .int (nI s)), (3, .int (nI v)), (4, .int (nI u))]) (ws := (zMo (zy E) q (va_up h 0 (upd (h 0) 1 (nI 1))))) (st := [.int (nI 1)]) ?_ rfl (by rw [flG, pf_6]) rfl
          refine z_if_eq hC 55 dX10_reason_48 (by decide) (fun c_48 => ?_) (fun c_48 => ?_)
          · exact absurd c_48 (by decide +kernel)
          · refine z_iconst hC (nI 0) (by decide +kernel) dX10_reason_51 ?_
            refine z_goto hC 64 dX10_reason_52 (by decide) ?_
            have pT : rsT (h 1) t s v u = 1 := by simp only [rsT, if_neg c_6, if_pos c_13, if_neg c_25, if_neg c_36]
            exact z_iret hC hf rfl (by rw [pT]; rfl) (by unfold mxG; rw [pT]; rfl) dX10_reason_64
    · have hs8 := isS_lt hs c_13
      refine z_iconst hC (nI 1) (by decide +kernel) dX10_reason_16 ?_
      refine z_goto hC 21 dX10_reason_17 (by decide) ?_
      refine z_iload_n hC 3 rfl dX10_reason_21 ?_
      refine z_callS hC (As := [.int (nI v)]) (st := [.int (nI 1), .ref (q 0)]) (ws2 := zMo (zy E) q h) (B := []) (B' := []) (r := some (.int (isL (nI v)))) 1 (c_X10_isLevel (nI v)) gX10_reason_X10_isLevel (by decide +kernel) rfl ⟨by decide, by decide⟩ [] rfl (by decide) rfl (Nat.le_of_ble_eq_true rfl) rfl rfl dX10_reason_22 ?_ hkR
      refine z_if_eq hC 43 dX10_reason_25 (by decide) (fun c_25 => ?_) (fun c_25 => ?_)
      · refine z_iconst hC (nI 0) (by decide +kernel) dX10_reason_43 ?_
        refine z_iconst hC (nI 1) (by decide +kernel) dX10_reason_44 ?_
        refine z_callV hC (As := [.int (nI 1), .int (nI 0), .int (nI 1)]) (st := []) (ws2 := zMo (zy E) q (flG h (nI 1) (nI 0) (nI 1))) (B := zMo (zy E) q h) (B' := zMo (zy E) q (flG h (nI 1) (nI 0) (nI 1))) (r := some (.int (flR (nI 1) (nI 0) (nI 1)))) 3 (c_X10_fails q h (nI 1) (nI 0) (nI 1)) gX10_reason_X10_fails (q0 := 0) (ci := 8) (by decide +kernel) rfl rfl rfl ⟨by decide, by decide⟩ [0, 1, 2, 3, 4, 5, 6] rfl (by decide) rfl (Nat.le_of_ble_eq_true rfl) rfl rfl dX10_reason_45 ?_ hkR
        have pf_7 : flV (nI 1) (nI 0) (nI 1) = nI 2 := by rw [flV, if_neg (show ¬ nI 1 = 0 by decide +kernel), if_pos (show nI 0 = 0 by decide +kernel)]
        refine z_top (nI 1) (by rw [flR, pf_7]; first | done | decide +kernel) ?_
        refine z_cast (lv := [(0, .ref (q 0)), (1, .int (nI t)), (2, .int (nI s)), (3, .int (nI v)), (4, .int (nI u))]) (ws := (zMo (zy E) q (va_up h 0 (upd (h 0) 1 (nI 2))))) (st := [.int (nI 1)]) ?_ rfl (by rw [flG, pf_7]) rfl
        refine z_if_eq hC 55 dX10_reason_48 (by decide) (fun c_48 => ?_) (fun c_48 => ?_)
        · exact absurd c_48 (by decide +kernel)
        · refine z_iconst hC (nI 0) (by decide +kernel) dX10_reason_51 ?_
          refine z_goto hC 64 dX10_reason_52 (by decide) ?_
          have pT : rsT (h 1) t s v u = 2 := by simp only [rsT, if_neg c_6, if_neg c_13, if_pos c_25]
          exact z_iret hC hf rfl (by rw [pT]; rfl) (by unfold mxG; rw [pT]; rfl) dX10_reason_64
      · have hv6 := isL_lt hv c_25
        refine z_iload hC 4 rfl dX10_reason_28 ?_
        refine z_iconst hC (nI 1) (by decide +kernel) dX10_reason_30 ?_
        refine z_bipush hC (nI 100) (by decide +kernel) dX10_reason_31 ?_
        refine z_callS hC (As := [.int (nI u), .int (nI 1), .int (nI 100)]) (st := [.int (nI 1), .ref (q 0)]) (ws2 := zMo (zy E) q h) (B := []) (B' := []) (r := some (.int (wi (nI u) (nI 1) (nI 100)))) 3 (c_X10_in (nI u) (nI 1) (nI 100)) gX10_reason_X10_in (by decide +kernel) rfl ⟨by decide, by decide⟩ [] rfl (by decide) rfl (Nat.le_of_ble_eq_true rfl) rfl rfl dX10_reason_33 ?_ hkR
        refine z_if_eq hC 43 dX10_reason_36 (by decide) (fun c_36 => ?_) (fun c_36 => ?_)
        · refine z_iconst hC (nI 0) (by decide +kernel) dX10_reason_43 ?_
          refine z_iconst hC (nI 1) (by decide +kernel) dX10_reason_44 ?_
          refine z_callV hC (As := [.int (nI 1), .int (nI 0), .int (nI 1)]) (st := []) (ws2 := zMo (zy E) q (flG h (nI 1) (nI 0) (nI 1))) (B := zMo (zy E) q h) (B' := zMo (zy E) q (flG h (nI 1) (nI 0) (nI 1))) (r := some (.int (flR (nI 1) (nI 0) (nI 1)))) 3 (c_X10_fails q h (nI 1) (nI 0) (nI 1)) gX10_reason_X10_fails (q0 := 0) (ci := 8) (by decide +kernel) rfl rfl rfl ⟨by decide, by decide⟩ [0, 1, 2, 3, 4, 5, 6] rfl (by decide) rfl (Nat.le_of_ble_eq_true rfl) rfl rfl dX10_reason_45 ?_ hkR
          have pf_8 : flV (nI 1) (nI 0) (nI 1) = nI 2 := by rw [flV, if_neg (show ¬ nI 1 = 0 by decide +kernel), if_pos (show nI 0 = 0 by decide +kernel)]
          refine z_top (nI 1) (by rw [flR, pf_8]; first | done | decide +kernel) ?_
          refine z_cast (lv := [(0, .ref (q 0)), (1, .int (nI t)), (2, .int (nI s)), (3, .int (nI v)), (4, .int (nI u))]) (ws := (zMo (zy E) q (va_up h 0 (upd (h 0) 1 (nI 2))))) (st := [.int (nI 1)]) ?_ rfl (by rw [flG, pf_8]) rfl
          refine z_if_eq hC 55 dX10_reason_48 (by decide) (fun c_48 => ?_) (fun c_48 => ?_)
          · exact absurd c_48 (by decide +kernel)
          · refine z_iconst hC (nI 0) (by decide +kernel) dX10_reason_51 ?_
            refine z_goto hC 64 dX10_reason_52 (by decide) ?_
            have pT : rsT (h 1) t s v u = 2 := by simp only [rsT, if_neg c_6, if_neg c_13, if_neg c_25, if_pos c_36]
            exact z_iret hC hf rfl (by rw [pT]; rfl) (by unfold mxG; rw [pT]; rfl) dX10_reason_64
        · refine z_iconst hC (nI 1) (by decide +kernel) dX10_reason_39 ?_
          refine z_goto hC 44 dX10_reason_40 (by decide) ?_
          refine z_iconst hC (nI 1) (by decide +kernel) dX10_reason_44 ?_
          refine z_callV hC (As := [.int (nI 1), .int (nI 1), .int (nI 1)]) (st := []) (ws2 := zMo (zy E) q (flG h (nI 1) (nI 1) (nI 1))) (B := zMo (zy E) q h) (B' := zMo (zy E) q (flG h (nI 1) (nI 1) (nI 1))) (r := some (.int (flR (nI 1) (nI 1) (nI 1)))) 3 (c_X10_fails q h (nI 1) (nI 1) (nI 1)) gX10_reason_X10_fails (q0 := 0) (ci := 8) (by decide +kernel) rfl rfl rfl ⟨by decide, by decide⟩ [0, 1, 2, 3, 4, 5, 6] rfl (by decide) rfl (Nat.le_of_ble_eq_true rfl) rfl rfl dX10_reason_45 ?_ hkR
          have pf_9 : flV (nI 1) (nI 1) (nI 1) = nI 0 := by rw [flV, if_neg (show ¬ nI 1 = 0 by decide +kernel), if_neg (show ¬ nI 1 = 0 by decide +kernel), if_neg (show ¬ nI 1 = 0 by decide +kernel)]
          refine z_top (nI 0) (by rw [flR, pf_9]; first | done | decide +kernel) ?_
          refine z_cast (lv := [(0, .ref (q 0)), (1, .int (nI t)), (2, .int (nI s)), (3, .int (nI v)), (4, .int (nI u))]) (ws := (zMo (zy E) q (va_up h 0 (upd (h 0) 1 (nI 0))))) (st := [.int (nI 0)]) ?_ rfl (by rw [flG, pf_9]) rfl
          refine z_if_eq hC 55 dX10_reason_48 (by decide) (fun c_48 => ?_) (fun c_48 => ?_)
          · refine z_aload_n hC 0 rfl dX10_reason_55 ?_
            refine z_iload_n hC 1 rfl dX10_reason_56 ?_
            refine z_iload_n hC 2 rfl dX10_reason_57 ?_
            refine z_iload_n hC 3 rfl dX10_reason_58 ?_
            refine z_iload hC 4 rfl dX10_reason_59 ?_
            refine z_callV hC (As := [.int (nI t), .int (nI s), .int (nI v), .int (nI u)]) (st := []) (ws2 := zMo (zy E) q (va_up h 0 (upd (h 0) 1 (nI 0)))) (B := zMo (zy E) q (va_up h 0 (upd (h 0) 1 (nI 0)))) (B' := zMo (zy E) q (va_up h 0 (upd (h 0) 1 (nI 0)))) (r := some (.int (whM ((va_up h 0 (upd (h 0) 1 (nI 0))) 1) t s v (nI u)))) 4 (c_X10_why q (va_up h 0 (upd (h 0) 1 (nI 0))) t s v (nI u) (by omega) (by omega) (by omega) (hSp t ht5)) gX10_reason_X10_why (q0 := 0) (ci := 8) (by decide +kernel) rfl rfl rfl ⟨by decide, by decide⟩ [0, 1, 2, 3, 4, 5, 6] rfl (by decide) rfl (Nat.le_of_ble_eq_true rfl) rfl rfl dX10_reason_61 ?_ hkR
            have pT : rsT (h 1) t s v u = 0 := by simp only [rsT, if_neg c_6, if_neg c_13, if_neg c_25, if_neg c_36]
            exact z_iret hC hf rfl (by rw [pT]; rfl) (by unfold mxG; rw [pT]; rfl) dX10_reason_64
          · exact absurd c_48 (by decide +kernel)

theorem iX10_minutesFor_X10 : ∀ w ∈ u_ws RX10 TX10 15, w ∈ wsX10_minutesFor := by decide +kernel
set_option maxHeartbeats 4000000 in
set_option maxRecDepth 100000 in
/-- minutesFor -/
theorem c_X10_minutesFor {l : Launch} {y : zY} {D : va_G} (q : Nat → Nat) (h : Nat → Nat → Int32) (t u : Nat) (ht : t < 2 ^ 32) (hu : u < 2 ^ 32) (hT : okTm (h 1)) (hSp : okSp (h 1)) : zM l y D yX10_minutesFor wsX10_minutesFor 2 43 [.ref (q 0), .int (nI t), .int (nI u)] (zMo y q h) (zMo y q (mxG h (mtT (h 1) t u) (h0t h))) (some (.int (if mtT (h 1) t u = 0 then upw (nI u) (h 1 (140 + t)) else nI 0))) := by
  refine z_start (own := RX10) (cc := cX10_minutesFor) (maxL := 3) (ret := (some .int)) rfl (by decide +kernel) rfl (Nat.le_of_ble_eq_true rfl) (zMo_fst _ _ _ _) ?_
  intro E hEl hEy hED hC hf
  subst hEl hEy hED
  have hkR : 0 ≤ E.2.2.2.2.2.1.cells ∧ 0 ≤ E.2.2.2.2.2.1.slots := ⟨Nat.zero_le _, Nat.zero_le _⟩
  refine z_cast (lv := [(0, .ref (q 0)), (1, .int (nI t)), (2, .int (nI u))]) (ws := (zMo (zy E) q h)) (st := []) ?_ rfl rfl rfl
  refine z_aload_n hC 0 rfl dX10_minutesFor_0 ?_
  refine z_aload_n hC 0 rfl dX10_minutesFor_1 ?_
  refine z_iload_n hC 1 rfl dX10_minutesFor_2 ?_
  refine z_callV hC (As := [.int (nI t)]) (st := [.ref (q 0)]) (ws2 := zMo (zy E) q h) (B := zMo (zy E) q h) (B' := zMo (zy E) q h) (r := some (.int (wi (nI t) (nI 0) ((h 1) 10 - nI 1)))) 1 (c_X10_isTool q h (nI t)) gX10_minutesFor_X10_isTool (q0 := 0) (ci := 8) (by decide +kernel) rfl rfl rfl ⟨by decide, by decide⟩ [0, 1, 2, 3, 4, 5, 6] rfl (by decide) rfl (Nat.le_of_ble_eq_true rfl) rfl rfl dX10_minutesFor_3 ?_ hkR
  refine z_iload_n hC 2 rfl dX10_minutesFor_6 ?_
  refine z_iconst hC (nI 0) (by decide +kernel) dX10_minutesFor_7 ?_
  refine z_sipush hC (nI 9999) (by decide +kernel) dX10_minutesFor_8 ?_
  refine z_callS hC (As := [.int (nI u), .int (nI 0), .int (nI 9999)]) (st := [.int (wi (nI t) (nI 0) ((h 1) 10 - nI 1)), .ref (q 0)]) (ws2 := zMo (zy E) q h) (B := []) (B' := []) (r := some (.int (wi (nI u) (nI 0) (nI 9999)))) 3 (c_X10_in (nI u) (nI 0) (nI 9999)) gX10_minutesFor_X10_in (by decide +kernel) rfl ⟨by decide, by decide⟩ [] rfl (by decide) rfl (Nat.le_of_ble_eq_true rfl) rfl rfl dX10_minutesFor_11 ?_ hkR
  refine z_iconst hC (nI 1) (by decide +kernel) dX10_minutesFor_14 ?_
  by_cases s_15_1 : wi (nI t) (nI 0) ((h 1) 10 - nI 1) = 0
  · by_cases s_15_2 : wi (nI u) (nI 0) (nI 9999) = 0
    · refine z_callV hC (As := [.int (wi (nI t) (nI 0) ((h 1) 10 - nI 1)), .int (wi (nI u) (nI 0) (nI 9999)), .int (nI 1)]) (st := []) (ws2 := zMo (zy E) q (flG h (wi (nI t) (nI 0) ((h 1) 10 - nI 1)) (wi (nI u) (nI 0) (nI 9999)) (nI 1))) (B := zMo (zy E) q h) (B' := zMo (zy E) q (flG h (wi (nI t) (nI 0) ((h 1) 10 - nI 1)) (wi (nI u) (nI 0) (nI 9999)) (nI 1))) (r := some (.int (flR (wi (nI t) (nI 0) ((h 1) 10 - nI 1)) (wi (nI u) (nI 0) (nI 9999)) (nI 1)))) 3 (c_X10_fails q h (wi (nI t) (nI 0) ((h 1) 10 - nI 1)) (wi (nI u) (nI 0) (nI 9999)) (nI 1)) gX10_minutesFor_X10_fails (q0 := 0) (ci := 8) (by decide +kernel) rfl rfl rfl ⟨by decide, by decide⟩ [0, 1, 2, 3, 4, 5, 6] rfl (by decide) rfl (Nat.le_of_ble_eq_true rfl) rfl rfl dX10_minutesFor_15 ?_ hkR
      have pf_1 : flV (wi (nI t) (nI 0) ((h 1) 10 - nI 1)) (wi (nI u) (nI 0) (nI 9999)) (nI 1) = nI 1 := by rw [flV, if_pos s_15_1]
      refine z_top (nI 1) (by rw [flR, pf_1]; first | done | decide +kernel) ?_
      refine z_cast (lv := [(0, .ref (q 0)), (1, .int (nI t)), (2, .int (nI u))]) (ws := (zMo (zy E) q (va_up h 0 (upd (h 0) 1 (nI 1))))) (st := [.int (nI 1)]) ?_ rfl (by rw [flG, pf_1]) rfl
      refine z_if_eq hC 25 dX10_minutesFor_18 (by decide) (fun c_18 => ?_) (fun c_18 => ?_)
      · exact absurd c_18 (by decide +kernel)
      · refine z_iconst hC (nI 0) (by decide +kernel) dX10_minutesFor_21 ?_
        refine z_goto hC 39 dX10_minutesFor_22 (by decide) ?_
        have pT : mtT (h 1) t u = 1 := by simp only [mtT, if_pos s_15_1, if_pos s_15_2]
        exact z_iret hC hf rfl (by rw [pT]; rfl) (by unfold mxG; rw [pT]; rfl) dX10_minutesFor_39
    · refine z_callV hC (As := [.int (wi (nI t) (nI 0) ((h 1) 10 - nI 1)), .int (wi (nI u) (nI 0) (nI 9999)), .int (nI 1)]) (st := []) (ws2 := zMo (zy E) q (flG h (wi (nI t) (nI 0) ((h 1) 10 - nI 1)) (wi (nI u) (nI 0) (nI 9999)) (nI 1))) (B := zMo (zy E) q h) (B' := zMo (zy E) q (flG h (wi (nI t) (nI 0) ((h 1) 10 - nI 1)) (wi (nI u) (nI 0) (nI 9999)) (nI 1))) (r := some (.int (flR (wi (nI t) (nI 0) ((h 1) 10 - nI 1)) (wi (nI u) (nI 0) (nI 9999)) (nI 1)))) 3 (c_X10_fails q h (wi (nI t) (nI 0) ((h 1) 10 - nI 1)) (wi (nI u) (nI 0) (nI 9999)) (nI 1)) gX10_minutesFor_X10_fails (q0 := 0) (ci := 8) (by decide +kernel) rfl rfl rfl ⟨by decide, by decide⟩ [0, 1, 2, 3, 4, 5, 6] rfl (by decide) rfl (Nat.le_of_ble_eq_true rfl) rfl rfl dX10_minutesFor_15 ?_ hkR
      have pf_2 : flV (wi (nI t) (nI 0) ((h 1) 10 - nI 1)) (wi (nI u) (nI 0) (nI 9999)) (nI 1) = nI 1 := by rw [flV, if_pos s_15_1]
      refine z_top (nI 1) (by rw [flR, pf_2]; first | done | decide +kernel) ?_
      refine z_cast (lv := [(0, .ref (q 0)), (1, .int (nI t)), (2, .int (nI u))]) (ws := (zMo (zy E) q (va_up h 0 (upd (h 0) 1 (nI 1))))) (st := [.int (nI 1)]) ?_ rfl (by rw [flG, pf_2]) rfl
      refine z_if_eq hC 25 dX10_minutesFor_18 (by decide) (fun c_18 => ?_) (fun c_18 => ?_)
      · exact absurd c_18 (by decide +kernel)
      · refine z_iconst hC (nI 0) (by decide +kernel) dX10_minutesFor_21 ?_
        refine z_goto hC 39 dX10_minutesFor_22 (by decide) ?_
        have pT : mtT (h 1) t u = 1 := by simp only [mtT, if_pos s_15_1, if_neg s_15_2]
        exact z_iret hC hf rfl (by rw [pT]; rfl) (by unfold mxG; rw [pT]; rfl) dX10_minutesFor_39
  · have ht5 := isT_lt hT ht s_15_1
    have hz5 := hT.2
    by_cases s_15_3 : wi (nI u) (nI 0) (nI 9999) = 0
    · refine z_callV hC (As := [.int (wi (nI t) (nI 0) ((h 1) 10 - nI 1)), .int (wi (nI u) (nI 0) (nI 9999)), .int (nI 1)]) (st := []) (ws2 := zMo (zy E) q (flG h (wi (nI t) (nI 0) ((h 1) 10 - nI 1)) (wi (nI u) (nI 0) (nI 9999)) (nI 1))) (B := zMo (zy E) q h) (B' := zMo (zy E) q (flG h (wi (nI t) (nI 0) ((h 1) 10 - nI 1)) (wi (nI u) (nI 0) (nI 9999)) (nI 1))) (r := some (.int (flR (wi (nI t) (nI 0) ((h 1) 10 - nI 1)) (wi (nI u) (nI 0) (nI 9999)) (nI 1)))) 3 (c_X10_fails q h (wi (nI t) (nI 0) ((h 1) 10 - nI 1)) (wi (nI u) (nI 0) (nI 9999)) (nI 1)) gX10_minutesFor_X10_fails (q0 := 0) (ci := 8) (by decide +kernel) rfl rfl rfl ⟨by decide, by decide⟩ [0, 1, 2, 3, 4, 5, 6] rfl (by decide) rfl (Nat.le_of_ble_eq_true rfl) rfl rfl dX10_minutesFor_15 ?_ hkR
      have pf_3 : flV (wi (nI t) (nI 0) ((h 1) 10 - nI 1)) (wi (nI u) (nI 0) (nI 9999)) (nI 1) = nI 2 := by rw [flV, if_neg s_15_1, if_pos s_15_3]
      refine z_top (nI 1) (by rw [flR, pf_3]; first | done | decide +kernel) ?_
      refine z_cast (lv := [(0, .ref (q 0)), (1, .int (nI t)), (2, .int (nI u))]) (ws := (zMo (zy E) q (va_up h 0 (upd (h 0) 1 (nI 2))))) (st := [.int (nI 1)]) ?_ rfl (by rw [flG, pf_3]) rfl
      refine z_if_eq hC 25 dX10_minutesFor_18 (by decide) (fun c_18 => ?_) (fun c_18 => ?_)
      · exact absurd c_18 (by decide +kernel)
      · refine z_iconst hC (nI 0) (by decide +kernel) dX10_minutesFor_21 ?_
        refine z_goto hC 39 dX10_minutesFor_22 (by decide) ?_
        have pT : mtT (h 1) t u = 2 := by simp only [mtT, if_neg s_15_1, if_pos s_15_3]
        exact z_iret hC hf rfl (by rw [pT]; rfl) (by unfold mxG; rw [pT]; rfl) dX10_minutesFor_39
    · refine z_callV hC (As := [.int (wi (nI t) (nI 0) ((h 1) 10 - nI 1)), .int (wi (nI u) (nI 0) (nI 9999)), .int (nI 1)]) (st := []) (ws2 := zMo (zy E) q (flG h (wi (nI t) (nI 0) ((h 1) 10 - nI 1)) (wi (nI u) (nI 0) (nI 9999)) (nI 1))) (B := zMo (zy E) q h) (B' := zMo (zy E) q (flG h (wi (nI t) (nI 0) ((h 1) 10 - nI 1)) (wi (nI u) (nI 0) (nI 9999)) (nI 1))) (r := some (.int (flR (wi (nI t) (nI 0) ((h 1) 10 - nI 1)) (wi (nI u) (nI 0) (nI 9999)) (nI 1)))) 3 (c_X10_fails q h (wi (nI t) (nI 0) ((h 1) 10 - nI 1)) (wi (nI u) (nI 0) (nI 9999)) (nI 1)) gX10_minutesFor_X10_fails (q0 := 0) (ci := 8) (by decide +kernel) rfl rfl rfl ⟨by decide, by decide⟩ [0, 1, 2, 3, 4, 5, 6] rfl (by decide) rfl (Nat.le_of_ble_eq_true rfl) rfl rfl dX10_minutesFor_15 ?_ hkR
      have pf_4 : flV (wi (nI t) (nI 0) ((h 1) 10 - nI 1)) (wi (nI u) (nI 0) (nI 9999)) (nI 1) = nI 0 := by rw [flV, if_neg s_15_1, if_neg s_15_3, if_neg (show ¬ nI 1 = 0 by decide +kernel)]
      refine z_top (nI 0) (by rw [flR, pf_4]; first | done | decide +kernel) ?_
      refine z_cast (lv := [(0, .ref (q 0)), (1, .int (nI t)), (2, .int (nI u))]) (ws := (zMo (zy E) q (va_up h 0 (upd (h 0) 1 (nI 0))))) (st := [.int (nI 0)]) ?_ rfl (by rw [flG, pf_4]) rfl
      refine z_if_eq hC 25 dX10_minutesFor_18 (by decide) (fun c_18 => ?_) (fun c_18 => ?_)
      · refine z_iload_n hC 2 rfl dX10_minutesFor_25 ?_
        refine z_aload_n hC 0 rfl dX10_minutesFor_26 ?_
        refine z_get hC 0 8 0 (v := .ref (q 1)) rfl rfl iX10_minutesFor_X10 (by decide) (List.mem_of_getElem? (i := 1) (by decide +kernel)) rfl rfl dX10_minutesFor_27 ?_
        refine z_sipush hC (nI 140) (by decide +kernel) dX10_minutesFor_30 ?_
        refine z_iload_n hC 1 rfl dX10_minutesFor_33 ?_
        refine z_iadd hC dX10_minutesFor_34 ?_
        refine z_top (nI (140 + t)) (nI_add _ _) ?_
        refine z_iald hC 1 (140 + t) (f := h 1) rfl rfl rfl (by omega) (by decide) dX10_minutesFor_35 ?_
        refine z_callS hC (As := [.int (nI u), .int ((h 1) (140 + t))]) (st := []) (ws2 := zMo (zy E) q (va_up h 0 (upd (h 0) 1 (nI 0)))) (B := []) (B' := []) (r := some (.int (upw (nI u) ((h 1) (140 + t))))) 2 (c_X10_upwards (nI u) ((h 1) (140 + t)) (hSp t ht5)) gX10_minutesFor_X10_upwards (by decide +kernel) rfl ⟨by decide, by decide⟩ [] rfl (by decide) rfl (Nat.le_of_ble_eq_true rfl) rfl rfl dX10_minutesFor_36 ?_ hkR
        have pT : mtT (h 1) t u = 0 := by simp only [mtT, if_neg s_15_1, if_neg s_15_3]
        exact z_iret hC hf rfl (by rw [pT]; rfl) (by unfold mxG; rw [pT]; rfl) dX10_minutesFor_39
      · exact absurd c_18 (by decide +kernel)

set_option maxHeartbeats 4000000 in
set_option maxRecDepth 100000 in
/-- tool -/
theorem c_X10_tool {l : Launch} {y : zY} {D : va_G} (q : Nat → Nat) (h : Nat → Nat → Int32) (t w : Nat) (ht : t < 2 ^ 32) (hw : w < 2 ^ 32) (hT : okTm (h 1)) : zM l y D yX10_tool wsX10_tool 2 43 [.ref (q 0), .int (nI t), .int (nI w)] (zMo y q h) (zMo y q (mxG h (toT (h 1) t w) (h0t h))) (some (.int (if toT (h 1) t w = 0 then tvM (h 1) t w else nI 0))) := by
  refine z_start (own := RX10) (cc := cX10_tool) (maxL := 3) (ret := (some .int)) rfl (by decide +kernel) rfl (Nat.le_of_ble_eq_true rfl) (zMo_fst _ _ _ _) ?_
  intro E hEl hEy hED hC hf
  subst hEl hEy hED
  have hkR : 0 ≤ E.2.2.2.2.2.1.cells ∧ 0 ≤ E.2.2.2.2.2.1.slots := ⟨Nat.zero_le _, Nat.zero_le _⟩
  refine z_cast (lv := [(0, .ref (q 0)), (1, .int (nI t)), (2, .int (nI w))]) (ws := (zMo (zy E) q h)) (st := []) ?_ rfl rfl rfl
  refine z_aload_n hC 0 rfl dX10_tool_0 ?_
  refine z_aload_n hC 0 rfl dX10_tool_1 ?_
  refine z_iload_n hC 1 rfl dX10_tool_2 ?_
  refine z_callV hC (As := [.int (nI t)]) (st := [.ref (q 0)]) (ws2 := zMo (zy E) q h) (B := zMo (zy E) q h) (B' := zMo (zy E) q h) (r := some (.int (wi (nI t) (nI 0) ((h 1) 10 - nI 1)))) 1 (c_X10_isTool q h (nI t)) gX10_tool_X10_isTool (q0 := 0) (ci := 8) (by decide +kernel) rfl rfl rfl ⟨by decide, by decide⟩ [0, 1, 2, 3, 4, 5, 6] rfl (by decide) rfl (Nat.le_of_ble_eq_true rfl) rfl rfl dX10_tool_3 ?_ hkR
  refine z_iload_n hC 2 rfl dX10_tool_6 ?_
  refine z_iconst hC (nI 0) (by decide +kernel) dX10_tool_7 ?_
  refine z_iconst hC (nI 2) (by decide +kernel) dX10_tool_8 ?_
  refine z_callS hC (As := [.int (nI w), .int (nI 0), .int (nI 2)]) (st := [.int (wi (nI t) (nI 0) ((h 1) 10 - nI 1)), .ref (q 0)]) (ws2 := zMo (zy E) q h) (B := []) (B' := []) (r := some (.int (wi (nI w) (nI 0) (nI 2)))) 3 (c_X10_in (nI w) (nI 0) (nI 2)) gX10_tool_X10_in (by decide +kernel) rfl ⟨by decide, by decide⟩ [] rfl (by decide) rfl (Nat.le_of_ble_eq_true rfl) rfl rfl dX10_tool_9 ?_ hkR
  refine z_iconst hC (nI 1) (by decide +kernel) dX10_tool_12 ?_
  by_cases s_13_1 : wi (nI t) (nI 0) ((h 1) 10 - nI 1) = 0
  · by_cases s_13_2 : wi (nI w) (nI 0) (nI 2) = 0
    · refine z_callV hC (As := [.int (wi (nI t) (nI 0) ((h 1) 10 - nI 1)), .int (wi (nI w) (nI 0) (nI 2)), .int (nI 1)]) (st := []) (ws2 := zMo (zy E) q (flG h (wi (nI t) (nI 0) ((h 1) 10 - nI 1)) (wi (nI w) (nI 0) (nI 2)) (nI 1))) (B := zMo (zy E) q h) (B' := zMo (zy E) q (flG h (wi (nI t) (nI 0) ((h 1) 10 - nI 1)) (wi (nI w) (nI 0) (nI 2)) (nI 1))) (r := some (.int (flR (wi (nI t) (nI 0) ((h 1) 10 - nI 1)) (wi (nI w) (nI 0) (nI 2)) (nI 1)))) 3 (c_X10_fails q h (wi (nI t) (nI 0) ((h 1) 10 - nI 1)) (wi (nI w) (nI 0) (nI 2)) (nI 1)) gX10_tool_X10_fails (q0 := 0) (ci := 8) (by decide +kernel) rfl rfl rfl ⟨by decide, by decide⟩ [0, 1, 2, 3, 4, 5, 6] rfl (by decide) rfl (Nat.le_of_ble_eq_true rfl) rfl rfl dX10_tool_13 ?_ hkR
      have pf_1 : flV (wi (nI t) (nI 0) ((h 1) 10 - nI 1)) (wi (nI w) (nI 0) (nI 2)) (nI 1) = nI 1 := by rw [flV, if_pos s_13_1]
      refine z_top (nI 1) (by rw [flR, pf_1]; first | done | decide +kernel) ?_
      refine z_cast (lv := [(0, .ref (q 0)), (1, .int (nI t)), (2, .int (nI w))]) (ws := (zMo (zy E) q (va_up h 0 (upd (h 0) 1 (nI 1))))) (st := [.int (nI 1)]) ?_ rfl (by rw [flG, pf_1]) rfl
      refine z_if_eq hC 23 dX10_tool_16 (by decide) (fun c_16 => ?_) (fun c_16 => ?_)
      · exact absurd c_16 (by decide +kernel)
      · refine z_iconst hC (nI 0) (by decide +kernel) dX10_tool_19 ?_
        refine z_goto hC 29 dX10_tool_20 (by decide) ?_
        have pT : toT (h 1) t w = 1 := by simp only [toT, if_pos s_13_1, if_pos s_13_2]
        exact z_iret hC hf rfl (by rw [pT]; rfl) (by unfold mxG; rw [pT]; rfl) dX10_tool_29
    · refine z_callV hC (As := [.int (wi (nI t) (nI 0) ((h 1) 10 - nI 1)), .int (wi (nI w) (nI 0) (nI 2)), .int (nI 1)]) (st := []) (ws2 := zMo (zy E) q (flG h (wi (nI t) (nI 0) ((h 1) 10 - nI 1)) (wi (nI w) (nI 0) (nI 2)) (nI 1))) (B := zMo (zy E) q h) (B' := zMo (zy E) q (flG h (wi (nI t) (nI 0) ((h 1) 10 - nI 1)) (wi (nI w) (nI 0) (nI 2)) (nI 1))) (r := some (.int (flR (wi (nI t) (nI 0) ((h 1) 10 - nI 1)) (wi (nI w) (nI 0) (nI 2)) (nI 1)))) 3 (c_X10_fails q h (wi (nI t) (nI 0) ((h 1) 10 - nI 1)) (wi (nI w) (nI 0) (nI 2)) (nI 1)) gX10_tool_X10_fails (q0 := 0) (ci := 8) (by decide +kernel) rfl rfl rfl ⟨by decide, by decide⟩ [0, 1, 2, 3, 4, 5, 6] rfl (by decide) rfl (Nat.le_of_ble_eq_true rfl) rfl rfl dX10_tool_13 ?_ hkR
      have pf_2 : flV (wi (nI t) (nI 0) ((h 1) 10 - nI 1)) (wi (nI w) (nI 0) (nI 2)) (nI 1) = nI 1 := by rw [flV, if_pos s_13_1]
      refine z_top (nI 1) (by rw [flR, pf_2]; first | done | decide +kernel) ?_
      refine z_cast (lv := [(0, .ref (q 0)), (1, .int (nI t)), (2, .int (nI w))]) (ws := (zMo (zy E) q (va_up h 0 (upd (h 0) 1 (nI 1))))) (st := [.int (nI 1)]) ?_ rfl (by rw [flG, pf_2]) rfl
      refine z_if_eq hC 23 dX10_tool_16 (by decide) (fun c_16 => ?_) (fun c_16 => ?_)
      · exact absurd c_16 (by decide +kernel)
      · refine z_iconst hC (nI 0) (by decide +kernel) dX10_tool_19 ?_
        refine z_goto hC 29 dX10_tool_20 (by decide) ?_
        have pT : toT (h 1) t w = 1 := by simp only [toT, if_pos s_13_1, if_neg s_13_2]
        exact z_iret hC hf rfl (by rw [pT]; rfl) (by unfold mxG; rw [pT]; rfl) dX10_tool_29
  · have ht5 := isT_lt hT ht s_13_1
    have hz5 := hT.2
    by_cases s_13_3 : wi (nI w) (nI 0) (nI 2) = 0
    · refine z_callV hC (As := [.int (wi (nI t) (nI 0) ((h 1) 10 - nI 1)), .int (wi (nI w) (nI 0) (nI 2)), .int (nI 1)]) (st := []) (ws2 := zMo (zy E) q (flG h (wi (nI t) (nI 0) ((h 1) 10 - nI 1)) (wi (nI w) (nI 0) (nI 2)) (nI 1))) (B := zMo (zy E) q h) (B' := zMo (zy E) q (flG h (wi (nI t) (nI 0) ((h 1) 10 - nI 1)) (wi (nI w) (nI 0) (nI 2)) (nI 1))) (r := some (.int (flR (wi (nI t) (nI 0) ((h 1) 10 - nI 1)) (wi (nI w) (nI 0) (nI 2)) (nI 1)))) 3 (c_X10_fails q h (wi (nI t) (nI 0) ((h 1) 10 - nI 1)) (wi (nI w) (nI 0) (nI 2)) (nI 1)) gX10_tool_X10_fails (q0 := 0) (ci := 8) (by decide +kernel) rfl rfl rfl ⟨by decide, by decide⟩ [0, 1, 2, 3, 4, 5, 6] rfl (by decide) rfl (Nat.le_of_ble_eq_true rfl) rfl rfl dX10_tool_13 ?_ hkR
      have pf_3 : flV (wi (nI t) (nI 0) ((h 1) 10 - nI 1)) (wi (nI w) (nI 0) (nI 2)) (nI 1) = nI 2 := by rw [flV, if_neg s_13_1, if_pos s_13_3]
      refine z_top (nI 1) (by rw [flR, pf_3]; first | done | decide +kernel) ?_
      refine z_cast (lv := [(0, .ref (q 0)), (1, .int (nI t)), (2, .int (nI w))]) (ws := (zMo (zy E) q (va_up h 0 (upd (h 0) 1 (nI 2))))) (st := [.int (nI 1)]) ?_ rfl (by rw [flG, pf_3]) rfl
      refine z_if_eq hC 23 dX10_tool_16 (by decide) (fun c_16 => ?_) (fun c_16 => ?_)
      · exact absurd c_16 (by decide +kernel)
      · refine z_iconst hC (nI 0) (by decide +kernel) dX10_tool_19 ?_
        refine z_goto hC 29 dX10_tool_20 (by decide) ?_
        have pT : toT (h 1) t w = 2 := by simp only [toT, if_neg s_13_1, if_pos s_13_3]
        exact z_iret hC hf rfl (by rw [pT]; rfl) (by unfold mxG; rw [pT]; rfl) dX10_tool_29
    · refine z_callV hC (As := [.int (wi (nI t) (nI 0) ((h 1) 10 - nI 1)), .int (wi (nI w) (nI 0) (nI 2)), .int (nI 1)]) (st := []) (ws2 := zMo (zy E) q (flG h (wi (nI t) (nI 0) ((h 1) 10 - nI 1)) (wi (nI w) (nI 0) (nI 2)) (nI 1))) (B := zMo (zy E) q h) (B' := zMo (zy E) q (flG h (wi (nI t) (nI 0) ((h 1) 10 - nI 1)) (wi (nI w) (nI 0) (nI 2)) (nI 1))) (r := some (.int (flR (wi (nI t) (nI 0) ((h 1) 10 - nI 1)) (wi (nI w) (nI 0) (nI 2)) (nI 1)))) 3 (c_X10_fails q h (wi (nI t) (nI 0) ((h 1) 10 - nI 1)) (wi (nI w) (nI 0) (nI 2)) (nI 1)) gX10_tool_X10_fails (q0 := 0) (ci := 8) (by decide +kernel) rfl rfl rfl ⟨by decide, by decide⟩ [0, 1, 2, 3, 4, 5, 6] rfl (by decide) rfl (Nat.le_of_ble_eq_true rfl) rfl rfl dX10_tool_13 ?_ hkR
      have pf_4 : flV (wi (nI t) (nI 0) ((h 1) 10 - nI 1)) (wi (nI w) (nI 0) (nI 2)) (nI 1) = nI 0 := by rw [flV, if_neg s_13_1, if_neg s_13_3, if_neg (show ¬ nI 1 = 0 by decide +kernel)]
      refine z_top (nI 0) (by rw [flR, pf_4]; first | done | decide +kernel) ?_
      refine z_cast (lv := [(0, .ref (q 0)), (1, .int (nI t)), (2, .int (nI w))]) (ws := (zMo (zy E) q (va_up h 0 (upd (h 0) 1 (nI 0))))) (st := [.int (nI 0)]) ?_ rfl (by rw [flG, pf_4]) rfl
      refine z_if_eq hC 23 dX10_tool_16 (by decide) (fun c_16 => ?_) (fun c_16 => ?_)
      · refine z_aload_n hC 0 rfl dX10_tool_23 ?_
        refine z_iload_n hC 1 rfl dX10_tool_24 ?_
        refine z_iload_n hC 2 rfl dX10_tool_25 ?_
        refine z_callV hC (As := [.int (nI t), .int (nI w)]) (st := []) (ws2 := zMo (zy E) q (va_up h 0 (upd (h 0) 1 (nI 0)))) (B := zMo (zy E) q (va_up h 0 (upd (h 0) 1 (nI 0)))) (B' := zMo (zy E) q (va_up h 0 (upd (h 0) 1 (nI 0)))) (r := some (.int (tvM ((va_up h 0 (upd (h 0) 1 (nI 0))) 1) t w))) 2 (c_X10_toolValue q (va_up h 0 (upd (h 0) 1 (nI 0))) t w (by omega)) gX10_tool_X10_toolValue (q0 := 0) (ci := 8) (by decide +kernel) rfl rfl rfl ⟨by decide, by decide⟩ [0, 1, 2, 3, 4, 5, 6] rfl (by decide) rfl (Nat.le_of_ble_eq_true rfl) rfl rfl dX10_tool_26 ?_ hkR
        have pT : toT (h 1) t w = 0 := by simp only [toT, if_neg s_13_1, if_neg s_13_3]
        exact z_iret hC hf rfl (by rw [pT]; rfl) (by unfold mxG; rw [pT]; rfl) dX10_tool_29
      · exact absurd c_16 (by decide +kernel)

set_option maxHeartbeats 4000000 in
set_option maxRecDepth 100000 in
/-- site -/
theorem c_X10_site {l : Launch} {y : zY} {D : va_G} (q : Nat → Nat) (h : Nat → Nat → Int32) (s w : Nat) (hs : s < 2 ^ 32) (hw : w < 2 ^ 32) (hM : okM (h 1)) : zM l y D yX10_site wsX10_site 2 45 [.ref (q 0), .int (nI s), .int (nI w)] (zMo y q h) (zMo y q (mxG h (siT s w) (h0t h))) (some (.int (if siT s w = 0 then svV (h 1) s w else nI 0))) := by
  refine z_start (own := RX10) (cc := cX10_site) (maxL := 3) (ret := (some .int)) rfl (by decide +kernel) rfl (Nat.le_of_ble_eq_true rfl) (zMo_fst _ _ _ _) ?_
  intro E hEl hEy hED hC hf
  subst hEl hEy hED
  have hkR : 0 ≤ E.2.2.2.2.2.1.cells ∧ 0 ≤ E.2.2.2.2.2.1.slots := ⟨Nat.zero_le _, Nat.zero_le _⟩
  refine z_cast (lv := [(0, .ref (q 0)), (1, .int (nI s)), (2, .int (nI w))]) (ws := (zMo (zy E) q h)) (st := []) ?_ rfl rfl rfl
  refine z_aload_n hC 0 rfl dX10_site_0 ?_
  refine z_iload_n hC 1 rfl dX10_site_1 ?_
  refine z_callS hC (As := [.int (nI s)]) (st := [.ref (q 0)]) (ws2 := zMo (zy E) q h) (B := []) (B' := []) (r := some (.int (isS (nI s)))) 1 (c_X10_isSite (nI s)) gX10_site_X10_isSite (by decide +kernel) rfl ⟨by decide, by decide⟩ [] rfl (by decide) rfl (Nat.le_of_ble_eq_true rfl) rfl rfl dX10_site_2 ?_ hkR
  refine z_iload_n hC 2 rfl dX10_site_5 ?_
  refine z_iconst hC (nI 0) (by decide +kernel) dX10_site_6 ?_
  refine z_iconst hC (nI 4) (by decide +kernel) dX10_site_7 ?_
  refine z_callS hC (As := [.int (nI w), .int (nI 0), .int (nI 4)]) (st := [.int (isS (nI s)), .ref (q 0)]) (ws2 := zMo (zy E) q h) (B := []) (B' := []) (r := some (.int (wi (nI w) (nI 0) (nI 4)))) 3 (c_X10_in (nI w) (nI 0) (nI 4)) gX10_site_X10_in (by decide +kernel) rfl ⟨by decide, by decide⟩ [] rfl (by decide) rfl (Nat.le_of_ble_eq_true rfl) rfl rfl dX10_site_8 ?_ hkR
  refine z_iconst hC (nI 1) (by decide +kernel) dX10_site_11 ?_
  by_cases s_12_1 : isS (nI s) = 0
  · by_cases s_12_2 : wi (nI w) (nI 0) (nI 4) = 0
    · refine z_callV hC (As := [.int (isS (nI s)), .int (wi (nI w) (nI 0) (nI 4)), .int (nI 1)]) (st := []) (ws2 := zMo (zy E) q (flG h (isS (nI s)) (wi (nI w) (nI 0) (nI 4)) (nI 1))) (B := zMo (zy E) q h) (B' := zMo (zy E) q (flG h (isS (nI s)) (wi (nI w) (nI 0) (nI 4)) (nI 1))) (r := some (.int (flR (isS (nI s)) (wi (nI w) (nI 0) (nI 4)) (nI 1)))) 3 (c_X10_fails q h (isS (nI s)) (wi (nI w) (nI 0) (nI 4)) (nI 1)) gX10_site_X10_fails (q0 := 0) (ci := 8) (by decide +kernel) rfl rfl rfl ⟨by decide, by decide⟩ [0, 1, 2, 3, 4, 5, 6] rfl (by decide) rfl (Nat.le_of_ble_eq_true rfl) rfl rfl dX10_site_12 ?_ hkR
      have pf_1 : flV (isS (nI s)) (wi (nI w) (nI 0) (nI 4)) (nI 1) = nI 1 := by rw [flV, if_pos s_12_1]
      refine z_top (nI 1) (by rw [flR, pf_1]; first | done | decide +kernel) ?_
      refine z_cast (lv := [(0, .ref (q 0)), (1, .int (nI s)), (2, .int (nI w))]) (ws := (zMo (zy E) q (va_up h 0 (upd (h 0) 1 (nI 1))))) (st := [.int (nI 1)]) ?_ rfl (by rw [flG, pf_1]) rfl
      refine z_if_eq hC 22 dX10_site_15 (by decide) (fun c_15 => ?_) (fun c_15 => ?_)
      · exact absurd c_15 (by decide +kernel)
      · refine z_iconst hC (nI 0) (by decide +kernel) dX10_site_18 ?_
        refine z_goto hC 28 dX10_site_19 (by decide) ?_
        have pT : siT s w = 1 := by simp only [siT, if_pos s_12_1, if_pos s_12_2]
        exact z_iret hC hf rfl (by rw [pT]; rfl) (by unfold mxG; rw [pT]; rfl) dX10_site_28
    · have hw5 := (wi_lt hw (by omega) (by omega) s_12_2).2
      refine z_callV hC (As := [.int (isS (nI s)), .int (wi (nI w) (nI 0) (nI 4)), .int (nI 1)]) (st := []) (ws2 := zMo (zy E) q (flG h (isS (nI s)) (wi (nI w) (nI 0) (nI 4)) (nI 1))) (B := zMo (zy E) q h) (B' := zMo (zy E) q (flG h (isS (nI s)) (wi (nI w) (nI 0) (nI 4)) (nI 1))) (r := some (.int (flR (isS (nI s)) (wi (nI w) (nI 0) (nI 4)) (nI 1)))) 3 (c_X10_fails q h (isS (nI s)) (wi (nI w) (nI 0) (nI 4)) (nI 1)) gX10_site_X10_fails (q0 := 0) (ci := 8) (by decide +kernel) rfl rfl rfl ⟨by decide, by decide⟩ [0, 1, 2, 3, 4, 5, 6] rfl (by decide) rfl (Nat.le_of_ble_eq_true rfl) rfl rfl dX10_site_12 ?_ hkR
      have pf_2 : flV (isS (nI s)) (wi (nI w) (nI 0) (nI 4)) (nI 1) = nI 1 := by rw [flV, if_pos s_12_1]
      refine z_top (nI 1) (by rw [flR, pf_2]; first | done | decide +kernel) ?_
      refine z_cast (lv := [(0, .ref (q 0)), (1, .int (nI s)), (2, .int (nI w))]) (ws := (zMo (zy E) q (va_up h 0 (upd (h 0) 1 (nI 1))))) (st := [.int (nI 1)]) ?_ rfl (by rw [flG, pf_2]) rfl
      refine z_if_eq hC 22 dX10_site_15 (by decide) (fun c_15 => ?_) (fun c_15 => ?_)
      · exact absurd c_15 (by decide +kernel)
      · refine z_iconst hC (nI 0) (by decide +kernel) dX10_site_18 ?_
        refine z_goto hC 28 dX10_site_19 (by decide) ?_
        have pT : siT s w = 1 := by simp only [siT, if_pos s_12_1, if_neg s_12_2]
        exact z_iret hC hf rfl (by rw [pT]; rfl) (by unfold mxG; rw [pT]; rfl) dX10_site_28
  · have hs8 := isS_lt hs s_12_1
    by_cases s_12_3 : wi (nI w) (nI 0) (nI 4) = 0
    · refine z_callV hC (As := [.int (isS (nI s)), .int (wi (nI w) (nI 0) (nI 4)), .int (nI 1)]) (st := []) (ws2 := zMo (zy E) q (flG h (isS (nI s)) (wi (nI w) (nI 0) (nI 4)) (nI 1))) (B := zMo (zy E) q h) (B' := zMo (zy E) q (flG h (isS (nI s)) (wi (nI w) (nI 0) (nI 4)) (nI 1))) (r := some (.int (flR (isS (nI s)) (wi (nI w) (nI 0) (nI 4)) (nI 1)))) 3 (c_X10_fails q h (isS (nI s)) (wi (nI w) (nI 0) (nI 4)) (nI 1)) gX10_site_X10_fails (q0 := 0) (ci := 8) (by decide +kernel) rfl rfl rfl ⟨by decide, by decide⟩ [0, 1, 2, 3, 4, 5, 6] rfl (by decide) rfl (Nat.le_of_ble_eq_true rfl) rfl rfl dX10_site_12 ?_ hkR
      have pf_3 : flV (isS (nI s)) (wi (nI w) (nI 0) (nI 4)) (nI 1) = nI 2 := by rw [flV, if_neg s_12_1, if_pos s_12_3]
      refine z_top (nI 1) (by rw [flR, pf_3]; first | done | decide +kernel) ?_
      refine z_cast (lv := [(0, .ref (q 0)), (1, .int (nI s)), (2, .int (nI w))]) (ws := (zMo (zy E) q (va_up h 0 (upd (h 0) 1 (nI 2))))) (st := [.int (nI 1)]) ?_ rfl (by rw [flG, pf_3]) rfl
      refine z_if_eq hC 22 dX10_site_15 (by decide) (fun c_15 => ?_) (fun c_15 => ?_)
      · exact absurd c_15 (by decide +kernel)
      · refine z_iconst hC (nI 0) (by decide +kernel) dX10_site_18 ?_
        refine z_goto hC 28 dX10_site_19 (by decide) ?_
        have pT : siT s w = 2 := by simp only [siT, if_neg s_12_1, if_pos s_12_3]
        exact z_iret hC hf rfl (by rw [pT]; rfl) (by unfold mxG; rw [pT]; rfl) dX10_site_28
    · have hw5 := (wi_lt hw (by omega) (by omega) s_12_3).2
      refine z_callV hC (As := [.int (isS (nI s)), .int (wi (nI w) (nI 0) (nI 4)), .int (nI 1)]) (st := []) (ws2 := zMo (zy E) q (flG h (isS (nI s)) (wi (nI w) (nI 0) (nI 4)) (nI 1))) (B := zMo (zy E) q h) (B' := zMo (zy E) q (flG h (isS (nI s)) (wi (nI w) (nI 0) (nI 4)) (nI 1))) (r := some (.int (flR (isS (nI s)) (wi (nI w) (nI 0) (nI 4)) (nI 1)))) 3 (c_X10_fails q h (isS (nI s)) (wi (nI w) (nI 0) (nI 4)) (nI 1)) gX10_site_X10_fails (q0 := 0) (ci := 8) (by decide +kernel) rfl rfl rfl ⟨by decide, by decide⟩ [0, 1, 2, 3, 4, 5, 6] rfl (by decide) rfl (Nat.le_of_ble_eq_true rfl) rfl rfl dX10_site_12 ?_ hkR
      have pf_4 : flV (isS (nI s)) (wi (nI w) (nI 0) (nI 4)) (nI 1) = nI 0 := by rw [flV, if_neg s_12_1, if_neg s_12_3, if_neg (show ¬ nI 1 = 0 by decide +kernel)]
      refine z_top (nI 0) (by rw [flR, pf_4]; first | done | decide +kernel) ?_
      refine z_cast (lv := [(0, .ref (q 0)), (1, .int (nI s)), (2, .int (nI w))]) (ws := (zMo (zy E) q (va_up h 0 (upd (h 0) 1 (nI 0))))) (st := [.int (nI 0)]) ?_ rfl (by rw [flG, pf_4]) rfl
      refine z_if_eq hC 22 dX10_site_15 (by decide) (fun c_15 => ?_) (fun c_15 => ?_)
      · refine z_aload_n hC 0 rfl dX10_site_22 ?_
        refine z_iload_n hC 1 rfl dX10_site_23 ?_
        refine z_iload_n hC 2 rfl dX10_site_24 ?_
        refine z_callV hC (As := [.int (nI s), .int (nI w)]) (st := []) (ws2 := zMo (zy E) q (va_up h 0 (upd (h 0) 1 (nI 0)))) (B := zMo (zy E) q (va_up h 0 (upd (h 0) 1 (nI 0)))) (B' := zMo (zy E) q (va_up h 0 (upd (h 0) 1 (nI 0)))) (r := some (.int (svV ((va_up h 0 (upd (h 0) 1 (nI 0))) 1) s w))) 2 (c_X10_siteValue q (va_up h 0 (upd (h 0) 1 (nI 0))) s w (by omega) (by omega) hM) gX10_site_X10_siteValue (q0 := 0) (ci := 8) (by decide +kernel) rfl rfl rfl ⟨by decide, by decide⟩ [0, 1, 2, 3, 4, 5, 6] rfl (by decide) rfl (Nat.le_of_ble_eq_true rfl) rfl rfl dX10_site_25 ?_ hkR
        have pT : siT s w = 0 := by simp only [siT, if_neg s_12_1, if_neg s_12_3]
        exact z_iret hC hf rfl (by rw [pT]; rfl) (by unfold mxG; rw [pT]; rfl) dX10_site_28
      · exact absurd c_15 (by decide +kernel)

set_option maxHeartbeats 4000000 in
set_option maxRecDepth 100000 in
/-- whole -/
theorem c_X10_whole {l : Launch} {y : zY} {D : va_G} (q : Nat → Nat) (h : Nat → Nat → Int32) (w : Nat) (hw : w < 2 ^ 32) (hM : okM (h 1)) : zM l y D yX10_whole wsX10_whole 2 47 [.ref (q 0), .int (nI w)] (zMo y q h) (zMo y q (mxG h (whT w) (h0t h))) (some (.int (if whT w = 0 then wvM (h0t h) w else nI 0))) := by
  refine z_start (own := RX10) (cc := cX10_whole) (maxL := 2) (ret := (some .int)) rfl (by decide +kernel) rfl (Nat.le_of_ble_eq_true rfl) (zMo_fst _ _ _ _) ?_
  intro E hEl hEy hED hC hf
  subst hEl hEy hED
  have hkR : 0 ≤ E.2.2.2.2.2.1.cells ∧ 0 ≤ E.2.2.2.2.2.1.slots := ⟨Nat.zero_le _, Nat.zero_le _⟩
  refine z_cast (lv := [(0, .ref (q 0)), (1, .int (nI w))]) (ws := (zMo (zy E) q h)) (st := []) ?_ rfl rfl rfl
  refine z_aload_n hC 0 rfl dX10_whole_0 ?_
  refine z_iload_n hC 1 rfl dX10_whole_1 ?_
  refine z_iconst hC (nI 0) (by decide +kernel) dX10_whole_2 ?_
  refine z_bipush hC (nI 15) (by decide +kernel) dX10_whole_3 ?_
  refine z_callS hC (As := [.int (nI w), .int (nI 0), .int (nI 15)]) (st := [.ref (q 0)]) (ws2 := zMo (zy E) q h) (B := []) (B' := []) (r := some (.int (wi (nI w) (nI 0) (nI 15)))) 3 (c_X10_in (nI w) (nI 0) (nI 15)) gX10_whole_X10_in (by decide +kernel) rfl ⟨by decide, by decide⟩ [] rfl (by decide) rfl (Nat.le_of_ble_eq_true rfl) rfl rfl dX10_whole_5 ?_ hkR
  refine z_iconst hC (nI 1) (by decide +kernel) dX10_whole_8 ?_
  refine z_iconst hC (nI 1) (by decide +kernel) dX10_whole_9 ?_
  by_cases s_10_1 : wi (nI w) (nI 0) (nI 15) = 0
  · refine z_callV hC (As := [.int (wi (nI w) (nI 0) (nI 15)), .int (nI 1), .int (nI 1)]) (st := []) (ws2 := zMo (zy E) q (flG h (wi (nI w) (nI 0) (nI 15)) (nI 1) (nI 1))) (B := zMo (zy E) q h) (B' := zMo (zy E) q (flG h (wi (nI w) (nI 0) (nI 15)) (nI 1) (nI 1))) (r := some (.int (flR (wi (nI w) (nI 0) (nI 15)) (nI 1) (nI 1)))) 3 (c_X10_fails q h (wi (nI w) (nI 0) (nI 15)) (nI 1) (nI 1)) gX10_whole_X10_fails (q0 := 0) (ci := 8) (by decide +kernel) rfl rfl rfl ⟨by decide, by decide⟩ [0, 1, 2, 3, 4, 5, 6] rfl (by decide) rfl (Nat.le_of_ble_eq_true rfl) rfl rfl dX10_whole_10 ?_ hkR
    have pf_1 : flV (wi (nI w) (nI 0) (nI 15)) (nI 1) (nI 1) = nI 1 := by rw [flV, if_pos s_10_1]
    refine z_top (nI 1) (by rw [flR, pf_1]; first | done | decide +kernel) ?_
    refine z_cast (lv := [(0, .ref (q 0)), (1, .int (nI w))]) (ws := (zMo (zy E) q (va_up h 0 (upd (h 0) 1 (nI 1))))) (st := [.int (nI 1)]) ?_ rfl (by rw [flG, pf_1]) rfl
    refine z_if_eq hC 20 dX10_whole_13 (by decide) (fun c_13 => ?_) (fun c_13 => ?_)
    · exact absurd c_13 (by decide +kernel)
    · refine z_iconst hC (nI 0) (by decide +kernel) dX10_whole_16 ?_
      refine z_goto hC 25 dX10_whole_17 (by decide) ?_
      have pT : whT w = 1 := by simp only [whT, if_pos s_10_1]
      exact z_iret hC hf rfl (by rw [pT]; rfl) (by unfold mxG; rw [pT]; rfl) dX10_whole_25
  · have hw16 := (wi_lt hw (by omega) (by omega) s_10_1).2
    refine z_callV hC (As := [.int (wi (nI w) (nI 0) (nI 15)), .int (nI 1), .int (nI 1)]) (st := []) (ws2 := zMo (zy E) q (flG h (wi (nI w) (nI 0) (nI 15)) (nI 1) (nI 1))) (B := zMo (zy E) q h) (B' := zMo (zy E) q (flG h (wi (nI w) (nI 0) (nI 15)) (nI 1) (nI 1))) (r := some (.int (flR (wi (nI w) (nI 0) (nI 15)) (nI 1) (nI 1)))) 3 (c_X10_fails q h (wi (nI w) (nI 0) (nI 15)) (nI 1) (nI 1)) gX10_whole_X10_fails (q0 := 0) (ci := 8) (by decide +kernel) rfl rfl rfl ⟨by decide, by decide⟩ [0, 1, 2, 3, 4, 5, 6] rfl (by decide) rfl (Nat.le_of_ble_eq_true rfl) rfl rfl dX10_whole_10 ?_ hkR
    have pf_2 : flV (wi (nI w) (nI 0) (nI 15)) (nI 1) (nI 1) = nI 0 := by rw [flV, if_neg s_10_1, if_neg (show ¬ nI 1 = 0 by decide +kernel), if_neg (show ¬ nI 1 = 0 by decide +kernel)]
    refine z_top (nI 0) (by rw [flR, pf_2]; first | done | decide +kernel) ?_
    refine z_cast (lv := [(0, .ref (q 0)), (1, .int (nI w))]) (ws := (zMo (zy E) q (va_up h 0 (upd (h 0) 1 (nI 0))))) (st := [.int (nI 0)]) ?_ rfl (by rw [flG, pf_2]) rfl
    refine z_if_eq hC 20 dX10_whole_13 (by decide) (fun c_13 => ?_) (fun c_13 => ?_)
    · refine z_aload_n hC 0 rfl dX10_whole_20 ?_
      refine z_iload_n hC 1 rfl dX10_whole_21 ?_
      refine z_callV hC (As := [.int (nI w)]) (st := []) (ws2 := zMo (zy E) q (va_up h 0 (upd (h 0) 1 (nI 0)))) (B := zMo (zy E) q (va_up h 0 (upd (h 0) 1 (nI 0)))) (B' := zMo (zy E) q (va_up h 0 (upd (h 0) 1 (nI 0)))) (r := some (.int (wvM (va_up h 0 (upd (h 0) 1 (nI 0))) w))) 1 (c_X10_wholeValue q (va_up h 0 (upd (h 0) 1 (nI 0))) w (by omega) hM) gX10_whole_X10_wholeValue (q0 := 0) (ci := 8) (by decide +kernel) rfl rfl rfl ⟨by decide, by decide⟩ [0, 1, 2, 3, 4, 5, 6] rfl (by decide) rfl (Nat.le_of_ble_eq_true rfl) rfl rfl dX10_whole_22 ?_ hkR
      have pT : whT w = 0 := by simp only [whT, if_neg s_10_1]
      exact z_iret hC hf rfl (by rw [pT]; rfl) (by unfold mxG; rw [pT]; rfl) dX10_whole_25
    · exact absurd c_13 (by decide +kernel)

set_option maxHeartbeats 4000000 in
set_option maxRecDepth 100000 in
/-- block -/
theorem c_X10_block {l : Launch} {y : zY} {D : va_G} (q : Nat → Nat) (h : Nat → Nat → Int32) (s v w : Nat) (hs : s < 2 ^ 32) (hv : v < 2 ^ 32) (hw : w < 2 ^ 32) : zM l y D yX10_block wsX10_block 5 112 [.ref (q 0), .int (nI s), .int (nI v), .int (nI w)] (zMo y q h) (zMo y q (mxG h (blT s v w) (h0t h))) (some (.int (if blT s v w = 0 then bvM (h 1) s v w else nI 0))) := by
  refine z_start (own := RX10) (cc := cX10_block) (maxL := 4) (ret := (some .int)) rfl (by decide +kernel) rfl (Nat.le_of_ble_eq_true rfl) (zMo_fst _ _ _ _) ?_
  intro E hEl hEy hED hC hf
  subst hEl hEy hED
  have hkR : 0 ≤ E.2.2.2.2.2.1.cells ∧ 0 ≤ E.2.2.2.2.2.1.slots := ⟨Nat.zero_le _, Nat.zero_le _⟩
  refine z_cast (lv := [(0, .ref (q 0)), (1, .int (nI s)), (2, .int (nI v)), (3, .int (nI w))]) (ws := (zMo (zy E) q h)) (st := []) ?_ rfl rfl rfl
  refine z_aload_n hC 0 rfl dX10_block_0 ?_
  refine z_iload_n hC 1 rfl dX10_block_1 ?_
  refine z_callS hC (As := [.int (nI s)]) (st := [.ref (q 0)]) (ws2 := zMo (zy E) q h) (B := []) (B' := []) (r := some (.int (isS (nI s)))) 1 (c_X10_isSite (nI s)) gX10_block_X10_isSite (by decide +kernel) rfl ⟨by decide, by decide⟩ [] rfl (by decide) rfl (Nat.le_of_ble_eq_true rfl) rfl rfl dX10_block_2 ?_ hkR
  refine z_iload_n hC 2 rfl dX10_block_5 ?_
  refine z_callS hC (As := [.int (nI v)]) (st := [.int (isS (nI s)), .ref (q 0)]) (ws2 := zMo (zy E) q h) (B := []) (B' := []) (r := some (.int (isL (nI v)))) 1 (c_X10_isLevel (nI v)) gX10_block_X10_isLevel (by decide +kernel) rfl ⟨by decide, by decide⟩ [] rfl (by decide) rfl (Nat.le_of_ble_eq_true rfl) rfl rfl dX10_block_6 ?_ hkR
  refine z_if_eq hC 25 dX10_block_9 (by decide) (fun c_9 => ?_) (fun c_9 => ?_)
  · refine z_iconst hC (nI 0) (by decide +kernel) dX10_block_25 ?_
    refine z_iconst hC (nI 1) (by decide +kernel) dX10_block_26 ?_
    by_cases s_27_2 : isS (nI s) = 0
    · refine z_callV hC (As := [.int (isS (nI s)), .int (nI 0), .int (nI 1)]) (st := []) (ws2 := zMo (zy E) q (flG h (isS (nI s)) (nI 0) (nI 1))) (B := zMo (zy E) q h) (B' := zMo (zy E) q (flG h (isS (nI s)) (nI 0) (nI 1))) (r := some (.int (flR (isS (nI s)) (nI 0) (nI 1)))) 3 (c_X10_fails q h (isS (nI s)) (nI 0) (nI 1)) gX10_block_X10_fails (q0 := 0) (ci := 8) (by decide +kernel) rfl rfl rfl ⟨by decide, by decide⟩ [0, 1, 2, 3, 4, 5, 6] rfl (by decide) rfl (Nat.le_of_ble_eq_true rfl) rfl rfl dX10_block_27 ?_ hkR
      have pf_1 : flV (isS (nI s)) (nI 0) (nI 1) = nI 1 := by rw [flV, if_pos s_27_2]
      refine z_top (nI 1) (by rw [flR, pf_1]; first | done | decide +kernel) ?_
      refine z_cast (lv := [(0, .ref (q 0)), (1, .int (nI s)), (2, .int (nI v)), (3, .int (nI w))]) (ws := (zMo (zy E) q (va_up h 0 (upd (h 0) 1 (nI 1))))) (st := [.int (nI 1)]) ?_ rfl (by rw [flG, pf_1]) rfl
      refine z_if_eq hC 37 dX10_block_30 (by decide) (fun c_30 => ?_) (fun c_30 => ?_)
      · exact absurd c_30 (by decide +kernel)
      · refine z_iconst hC (nI 0) (by decide +kernel) dX10_block_33 ?_
        refine z_goto hC 44 dX10_block_34 (by decide) ?_
        have pT : blT s v w = 1 := by simp only [blT, if_pos c_9, if_pos s_27_2]
        exact z_iret hC hf rfl (by rw [pT]; rfl) (by unfold mxG; rw [pT]; rfl) dX10_block_44
    · have hs8 := isS_lt hs s_27_2
      refine z_callV hC (As := [.int (isS (nI s)), .int (nI 0), .int (nI 1)]) (st := []) (ws2 := zMo (zy E) q (flG h (isS (nI s)) (nI 0) (nI 1))) (B := zMo (zy E) q h) (B' := zMo (zy E) q (flG h (isS (nI s)) (nI 0) (nI 1))) (r := some (.int (flR (isS (nI s)) (nI 0) (nI 1)))) 3 (c_X10_fails q h (isS (nI s)) (nI 0) (nI 1)) gX10_block_X10_fails (q0 := 0) (ci := 8) (by decide +kernel) rfl rfl rfl ⟨by decide, by decide⟩ [0, 1, 2, 3, 4, 5, 6] rfl (by decide) rfl (Nat.le_of_ble_eq_true rfl) rfl rfl dX10_block_27 ?_ hkR
      have pf_2 : flV (isS (nI s)) (nI 0) (nI 1) = nI 2 := by rw [flV, if_neg s_27_2, if_pos (show nI 0 = 0 by decide +kernel)]
      refine z_top (nI 1) (by rw [flR, pf_2]; first | done | decide +kernel) ?_
      refine z_cast (lv := [(0, .ref (q 0)), (1, .int (nI s)), (2, .int (nI v)), (3, .int (nI w))]) (ws := (zMo (zy E) q (va_up h 0 (upd (h 0) 1 (nI 2))))) (st := [.int (nI 1)]) ?_ rfl (by rw [flG, pf_2]) rfl
      refine z_if_eq hC 37 dX10_block_30 (by decide) (fun c_30 => ?_) (fun c_30 => ?_)
      · exact absurd c_30 (by decide +kernel)
      · refine z_iconst hC (nI 0) (by decide +kernel) dX10_block_33 ?_
        refine z_goto hC 44 dX10_block_34 (by decide) ?_
        have pT : blT s v w = 2 := by simp only [blT, if_pos c_9, if_neg s_27_2]
        exact z_iret hC hf rfl (by rw [pT]; rfl) (by unfold mxG; rw [pT]; rfl) dX10_block_44
  · have hv6 := isL_lt hv c_9
    refine z_iload_n hC 3 rfl dX10_block_12 ?_
    refine z_iconst hC (nI 0) (by decide +kernel) dX10_block_13 ?_
    refine z_iconst hC (nI 2) (by decide +kernel) dX10_block_14 ?_
    refine z_callS hC (As := [.int (nI w), .int (nI 0), .int (nI 2)]) (st := [.int (isS (nI s)), .ref (q 0)]) (ws2 := zMo (zy E) q h) (B := []) (B' := []) (r := some (.int (wi (nI w) (nI 0) (nI 2)))) 3 (c_X10_in (nI w) (nI 0) (nI 2)) gX10_block_X10_in (by decide +kernel) rfl ⟨by decide, by decide⟩ [] rfl (by decide) rfl (Nat.le_of_ble_eq_true rfl) rfl rfl dX10_block_15 ?_ hkR
    refine z_if_eq hC 25 dX10_block_18 (by decide) (fun c_18 => ?_) (fun c_18 => ?_)
    · refine z_iconst hC (nI 0) (by decide +kernel) dX10_block_25 ?_
      refine z_iconst hC (nI 1) (by decide +kernel) dX10_block_26 ?_
      by_cases s_27_4 : isS (nI s) = 0
      · refine z_callV hC (As := [.int (isS (nI s)), .int (nI 0), .int (nI 1)]) (st := []) (ws2 := zMo (zy E) q (flG h (isS (nI s)) (nI 0) (nI 1))) (B := zMo (zy E) q h) (B' := zMo (zy E) q (flG h (isS (nI s)) (nI 0) (nI 1))) (r := some (.int (flR (isS (nI s)) (nI 0) (nI 1)))) 3 (c_X10_fails q h (isS (nI s)) (nI 0) (nI 1)) gX10_block_X10_fails (q0 := 0) (ci := 8) (by decide +kernel) rfl rfl rfl ⟨by decide, by decide⟩ [0, 1, 2, 3, 4, 5, 6] rfl (by decide) rfl (Nat.le_of_ble_eq_true rfl) rfl rfl dX10_block_27 ?_ hkR
        have pf_3 : flV (isS (nI s)) (nI 0) (nI 1) = nI 1 := by rw [flV, if_pos s_27_4]
        refine z_top (nI 1) (by rw [flR, pf_3]; first | done | decide +kernel) ?_
        refine z_cast (lv := [(0, .ref (q 0)), (1, .int (nI s)), (2, .int (nI v)), (3, .int (nI w))]) (ws := (zMo (zy E) q (va_up h 0 (upd (h 0) 1 (nI 1))))) (st := [.int (nI 1)]) ?_ rfl (by rw [flG, pf_3]) rfl
        refine z_if_eq hC 37 dX10_block_30 (by decide) (fun c_30 => ?_) (fun c_30 => ?_)
        · exact absurd c_30 (by decide +kernel)
        · refine z_iconst hC (nI 0) (by decide +kernel) dX10_block_33 ?_
          refine z_goto hC 44 dX10_block_34 (by decide) ?_
          have pT : blT s v w = 1 := by simp only [blT, if_neg c_9, if_pos c_18, if_pos s_27_4]
          exact z_iret hC hf rfl (by rw [pT]; rfl) (by unfold mxG; rw [pT]; rfl) dX10_block_44
      · have hs8 := isS_lt hs s_27_4
        refine z_callV hC (As := [.int (isS (nI s)), .int (nI 0), .int (nI 1)]) (st := []) (ws2 := zMo (zy E) q (flG h (isS (nI s)) (nI 0) (nI 1))) (B := zMo (zy E) q h) (B' := zMo (zy E) q (flG h (isS (nI s)) (nI 0) (nI 1))) (r := some (.int (flR (isS (nI s)) (nI 0) (nI 1)))) 3 (c_X10_fails q h (isS (nI s)) (nI 0) (nI 1)) gX10_block_X10_fails (q0 := 0) (ci := 8) (by decide +kernel) rfl rfl rfl ⟨by decide, by decide⟩ [0, 1, 2, 3, 4, 5, 6] rfl (by decide) rfl (Nat.le_of_ble_eq_true rfl) rfl rfl dX10_block_27 ?_ hkR
        have pf_4 : flV (isS (nI s)) (nI 0) (nI 1) = nI 2 := by rw [flV, if_neg s_27_4, if_pos (show nI 0 = 0 by decide +kernel)]
        refine z_top (nI 1) (by rw [flR, pf_4]; first | done | decide +kernel) ?_
        refine z_cast (lv := [(0, .ref (q 0)), (1, .int (nI s)), (2, .int (nI v)), (3, .int (nI w))]) (ws := (zMo (zy E) q (va_up h 0 (upd (h 0) 1 (nI 2))))) (st := [.int (nI 1)]) ?_ rfl (by rw [flG, pf_4]) rfl
        refine z_if_eq hC 37 dX10_block_30 (by decide) (fun c_30 => ?_) (fun c_30 => ?_)
        · exact absurd c_30 (by decide +kernel)
        · refine z_iconst hC (nI 0) (by decide +kernel) dX10_block_33 ?_
          refine z_goto hC 44 dX10_block_34 (by decide) ?_
          have pT : blT s v w = 2 := by simp only [blT, if_neg c_9, if_pos c_18, if_neg s_27_4]
          exact z_iret hC hf rfl (by rw [pT]; rfl) (by unfold mxG; rw [pT]; rfl) dX10_block_44
    · refine z_iconst hC (nI 1) (by decide +kernel) dX10_block_21 ?_
      refine z_goto hC 26 dX10_block_22 (by decide) ?_
      refine z_iconst hC (nI 1) (by decide +kernel) dX10_block_26 ?_
      by_cases s_27_5 : isS (nI s) = 0
      · refine z_callV hC (As := [.int (isS (nI s)), .int (nI 1), .int (nI 1)]) (st := []) (ws2 := zMo (zy E) q (flG h (isS (nI s)) (nI 1) (nI 1))) (B := zMo (zy E) q h) (B' := zMo (zy E) q (flG h (isS (nI s)) (nI 1) (nI 1))) (r := some (.int (flR (isS (nI s)) (nI 1) (nI 1)))) 3 (c_X10_fails q h (isS (nI s)) (nI 1) (nI 1)) gX10_block_X10_fails (q0 := 0) (ci := 8) (by decide +kernel) rfl rfl rfl ⟨by decide, by decide⟩ [0, 1, 2, 3, 4, 5, 6] rfl (by decide) rfl (Nat.le_of_ble_eq_true rfl) rfl rfl dX10_block_27 ?_ hkR
        have pf_5 : flV (isS (nI s)) (nI 1) (nI 1) = nI 1 := by rw [flV, if_pos s_27_5]
        refine z_top (nI 1) (by rw [flR, pf_5]; first | done | decide +kernel) ?_
        refine z_cast (lv := [(0, .ref (q 0)), (1, .int (nI s)), (2, .int (nI v)), (3, .int (nI w))]) (ws := (zMo (zy E) q (va_up h 0 (upd (h 0) 1 (nI 1))))) (st := [.int (nI 1)]) ?_ rfl (by rw [flG, pf_5]) rfl
        refine z_if_eq hC 37 dX10_block_30 (by decide) (fun c_30 => ?_) (fun c_30 => ?_)
        · exact absurd c_30 (by decide +kernel)
        · refine z_iconst hC (nI 0) (by decide +kernel) dX10_block_33 ?_
          refine z_goto hC 44 dX10_block_34 (by decide) ?_
          have pT : blT s v w = 1 := by simp only [blT, if_neg c_9, if_neg c_18, if_pos s_27_5]
          exact z_iret hC hf rfl (by rw [pT]; rfl) (by unfold mxG; rw [pT]; rfl) dX10_block_44
      · have hs8 := isS_lt hs s_27_5
        refine z_callV hC (As := [.int (isS (nI s)), .int (nI 1), .int (nI 1)]) (st := []) (ws2 := zMo (zy E) q (flG h (isS (nI s)) (nI 1) (nI 1))) (B := zMo (zy E) q h) (B' := zMo (zy E) q (flG h (isS (nI s)) (nI 1) (nI 1))) (r := some (.int (flR (isS (nI s)) (nI 1) (nI 1)))) 3 (c_X10_fails q h (isS (nI s)) (nI 1) (nI 1)) gX10_block_X10_fails (q0 := 0) (ci := 8) (by decide +kernel) rfl rfl rfl ⟨by decide, by decide⟩ [0, 1, 2, 3, 4, 5, 6] rfl (by decide) rfl (Nat.le_of_ble_eq_true rfl) rfl rfl dX10_block_27 ?_ hkR
        have pf_6 : flV (isS (nI s)) (nI 1) (nI 1) = nI 0 := by rw [flV, if_neg s_27_5, if_neg (show ¬ nI 1 = 0 by decide +kernel), if_neg (show ¬ nI 1 = 0 by decide +kernel)]
        refine z_top (nI 0) (by rw [flR, pf_6]; first | done | decide +kernel) ?_
        refine z_cast (lv := [(0, .ref (q 0)), (1, .int (nI s)), (2, .int (nI v)), (3, .int (nI w))]) (ws := (zMo (zy E) q (va_up h 0 (upd (h 0) 1 (nI 0))))) (st := [.int (nI 0)]) ?_ rfl (by rw [flG, pf_6]) rfl
        refine z_if_eq hC 37 dX10_block_30 (by decide) (fun c_30 => ?_) (fun c_30 => ?_)
        · refine z_aload_n hC 0 rfl dX10_block_37 ?_
          refine z_iload_n hC 1 rfl dX10_block_38 ?_
          refine z_iload_n hC 2 rfl dX10_block_39 ?_
          refine z_iload_n hC 3 rfl dX10_block_40 ?_
          refine z_callV hC (As := [.int (nI s), .int (nI v), .int (nI w)]) (st := []) (ws2 := zMo (zy E) q (va_up h 0 (upd (h 0) 1 (nI 0)))) (B := zMo (zy E) q (va_up h 0 (upd (h 0) 1 (nI 0)))) (B' := zMo (zy E) q (va_up h 0 (upd (h 0) 1 (nI 0)))) (r := some (.int (bvM ((va_up h 0 (upd (h 0) 1 (nI 0))) 1) s v w))) 3 (c_X10_blockValue q (va_up h 0 (upd (h 0) 1 (nI 0))) s v w (by omega) (by omega)) gX10_block_X10_blockValue (q0 := 0) (ci := 8) (by decide +kernel) rfl rfl rfl ⟨by decide, by decide⟩ [0, 1, 2, 3, 4, 5, 6] rfl (by decide) rfl (Nat.le_of_ble_eq_true rfl) rfl rfl dX10_block_41 ?_ hkR
          have pT : blT s v w = 0 := by simp only [blT, if_neg c_9, if_neg c_18, if_neg s_27_5]
          exact z_iret hC hf rfl (by rw [pT]; rfl) (by unfold mxG; rw [pT]; rfl) dX10_block_44
        · exact absurd c_30 (by decide +kernel)

theorem iX10_clearOrders_X10 : ∀ w ∈ u_ws RX10 TX10 15, w ∈ wsX10_clearOrders := by decide +kernel
set_option maxHeartbeats 4000000 in
set_option maxRecDepth 100000 in
/-- clearOrders -/
theorem c_X10_clearOrders {l : Launch} {y : zY} {D : va_G} (q : Nat → Nat) (h : Nat → Nat → Int32) : zM l y D yX10_clearOrders wsX10_clearOrders 0 0 [.ref (q 0)] (zMo y q h) (zMo y q (va_up h 0 (upd (upd (h 0) 1 (nI 0)) 4 (nI 0)))) (some (.int (h 0 4))) := by
  refine z_start (own := RX10) (cc := cX10_clearOrders) (maxL := 2) (ret := (some .int)) rfl (by decide +kernel) rfl (Nat.le_of_ble_eq_true rfl) (zMo_fst _ _ _ _) ?_
  intro E hEl hEy hED hC hf
  subst hEl hEy hED
  have hkR : 0 ≤ E.2.2.2.2.2.1.cells ∧ 0 ≤ E.2.2.2.2.2.1.slots := ⟨Nat.zero_le _, Nat.zero_le _⟩
  refine z_cast (lv := [(0, .ref (q 0))]) (ws := (zMo (zy E) q h)) (st := []) ?_ rfl rfl rfl
  refine z_aload_n hC 0 rfl dX10_clearOrders_0 ?_
  refine z_iconst hC (nI 0) (by decide +kernel) dX10_clearOrders_1 ?_
  refine z_put hC 0 8 4 (ws' := zMo (zy E) q (va_up h 0 (upd (h 0) 1 (nI 0)))) tyX10 .int rfl rfl iX10_clearOrders_X10 tyX10_ok nmX10 (by decide) (List.mem_of_getElem? (i := 1) (by decide +kernel)) rfl rfl (by decide +kernel) rfl rfl (Nat.le_of_ble_eq_true rfl) rfl dX10_clearOrders_2 ?_
  refine z_aload_n hC 0 rfl dX10_clearOrders_5 ?_
  refine z_get hC 0 8 9 (v := .int ((upd (h 0) 1 (nI 0)) 4)) rfl rfl iX10_clearOrders_X10 (by decide) (List.mem_of_getElem? (i := 2) (by decide +kernel)) rfl rfl dX10_clearOrders_6 ?_
  refine z_istore_n hC (by decide) (lv' := [(1, .int ((upd (h 0) 1 (nI 0)) 4)), (0, .ref (q 0))]) rfl dX10_clearOrders_9 ?_
  refine z_aload_n hC 1 rfl dX10_clearOrders_10 ?_
  refine z_iconst hC (nI 0) (by decide +kernel) dX10_clearOrders_11 ?_
  refine z_put hC 0 8 9 (ws' := zMo (zy E) q (va_up h 0 (upd (upd (h 0) 1 (nI 0)) 4 (nI 0)))) tyX10 .int rfl rfl iX10_clearOrders_X10 tyX10_ok nmX10 (by decide) (List.mem_of_getElem? (i := 2) (by decide +kernel)) rfl rfl (by decide +kernel) rfl rfl (Nat.le_of_ble_eq_true rfl) rfl dX10_clearOrders_12 ?_
  refine z_iload_n hC 0 rfl dX10_clearOrders_15 ?_
  exact z_iret hC hf rfl rfl rfl dX10_clearOrders_16

theorem iX10_type_X10 : ∀ w ∈ u_ws RX10 TX10 15, w ∈ wsX10_type := by decide +kernel
set_option maxHeartbeats 4000000 in
set_option maxRecDepth 100000 in
/-- type -/
theorem c_X10_type {l : Launch} {y : zY} {D : va_G} (q : Nat → Nat) (h : Nat → Nat → Int32) (v n : Nat) (hv : v < 2 ^ 32) (hn : h 0 4 = nI n) (hn150 : n ≤ 150) : zM l y D yX10_type wsX10_type 1 23 [.ref (q 0), .int (nI v)] (zMo y q h) (zMo y q (mxG h (tyT h v) (va_up (va_up h 0 (upd (upd (h 0) 1 (nI 0)) 4 (nI (n + 1)))) 5 (upd (h 5) n (nI v).toInt8.toInt32)))) (some (.int (if tyT h v = 0 then nI (n + 1) else nI 0))) := by
  refine z_start (own := RX10) (cc := cX10_type) (maxL := 2) (ret := (some .int)) rfl (by decide +kernel) rfl (Nat.le_of_ble_eq_true rfl) (zMo_fst _ _ _ _) ?_
  intro E hEl hEy hED hC hf
  subst hEl hEy hED
  have hkR : 0 ≤ E.2.2.2.2.2.1.cells ∧ 0 ≤ E.2.2.2.2.2.1.slots := ⟨Nat.zero_le _, Nat.zero_le _⟩
  refine z_cast (lv := [(0, .ref (q 0)), (1, .int (nI v))]) (ws := (zMo (zy E) q h)) (st := []) ?_ rfl rfl rfl
  refine z_aload_n hC 0 rfl dX10_type_0 ?_
  refine z_iload_n hC 1 rfl dX10_type_1 ?_
  refine z_iconst hC (nI 0) (by decide +kernel) dX10_type_2 ?_
  refine z_bipush hC (nI 127) (by decide +kernel) dX10_type_3 ?_
  refine z_callS hC (As := [.int (nI v), .int (nI 0), .int (nI 127)]) (st := [.ref (q 0)]) (ws2 := zMo (zy E) q h) (B := []) (B' := []) (r := some (.int (wi (nI v) (nI 0) (nI 127)))) 3 (c_X10_in (nI v) (nI 0) (nI 127)) gX10_type_X10_in (by decide +kernel) rfl ⟨by decide, by decide⟩ [] rfl (by decide) rfl (Nat.le_of_ble_eq_true rfl) rfl rfl dX10_type_5 ?_ hkR
  refine z_aload_n hC 0 rfl dX10_type_8 ?_
  refine z_get hC 0 8 9 (v := .int ((h 0) 4)) rfl rfl iX10_type_X10 (by decide) (List.mem_of_getElem? (i := 1) (by decide +kernel)) rfl rfl dX10_type_9 ?_
  refine z_sipush hC (nI 150) (by decide +kernel) dX10_type_12 ?_
  refine z_icmp_ge hC 22 dX10_type_15 (by decide) (fun c_15 => ?_) (fun c_15 => ?_)
  · refine z_iconst hC (nI 0) (by decide +kernel) dX10_type_22 ?_
    refine z_iconst hC (nI 1) (by decide +kernel) dX10_type_23 ?_
    by_cases s_24_2 : wi (nI v) (nI 0) (nI 127) = 0
    · refine z_callV hC (As := [.int (wi (nI v) (nI 0) (nI 127)), .int (nI 0), .int (nI 1)]) (st := []) (ws2 := zMo (zy E) q (flG h (wi (nI v) (nI 0) (nI 127)) (nI 0) (nI 1))) (B := zMo (zy E) q h) (B' := zMo (zy E) q (flG h (wi (nI v) (nI 0) (nI 127)) (nI 0) (nI 1))) (r := some (.int (flR (wi (nI v) (nI 0) (nI 127)) (nI 0) (nI 1)))) 3 (c_X10_fails q h (wi (nI v) (nI 0) (nI 127)) (nI 0) (nI 1)) gX10_type_X10_fails (q0 := 0) (ci := 8) (by decide +kernel) rfl rfl rfl ⟨by decide, by decide⟩ [0, 1, 2, 3, 4, 5, 6] rfl (by decide) rfl (Nat.le_of_ble_eq_true rfl) rfl rfl dX10_type_24 ?_ hkR
      have pf_1 : flV (wi (nI v) (nI 0) (nI 127)) (nI 0) (nI 1) = nI 1 := by rw [flV, if_pos s_24_2]
      refine z_top (nI 1) (by rw [flR, pf_1]; first | done | decide +kernel) ?_
      refine z_cast (lv := [(0, .ref (q 0)), (1, .int (nI v))]) (ws := (zMo (zy E) q (va_up h 0 (upd (h 0) 1 (nI 1))))) (st := [.int (nI 1)]) ?_ rfl (by rw [flG, pf_1]) rfl
      refine z_if_eq hC 32 dX10_type_27 (by decide) (fun c_27 => ?_) (fun c_27 => ?_)
      · exact absurd c_27 (by decide +kernel)
      · refine z_iconst hC (nI 0) (by decide +kernel) dX10_type_30 ?_
        have pT : tyT h v = 1 := by simp only [tyT, if_pos c_15, if_pos s_24_2]
        exact z_iret hC hf rfl (by rw [pT]; rfl) (by unfold mxG; rw [pT]; rfl) dX10_type_31
    · refine z_callV hC (As := [.int (wi (nI v) (nI 0) (nI 127)), .int (nI 0), .int (nI 1)]) (st := []) (ws2 := zMo (zy E) q (flG h (wi (nI v) (nI 0) (nI 127)) (nI 0) (nI 1))) (B := zMo (zy E) q h) (B' := zMo (zy E) q (flG h (wi (nI v) (nI 0) (nI 127)) (nI 0) (nI 1))) (r := some (.int (flR (wi (nI v) (nI 0) (nI 127)) (nI 0) (nI 1)))) 3 (c_X10_fails q h (wi (nI v) (nI 0) (nI 127)) (nI 0) (nI 1)) gX10_type_X10_fails (q0 := 0) (ci := 8) (by decide +kernel) rfl rfl rfl ⟨by decide, by decide⟩ [0, 1, 2, 3, 4, 5, 6] rfl (by decide) rfl (Nat.le_of_ble_eq_true rfl) rfl rfl dX10_type_24 ?_ hkR
      have pf_2 : flV (wi (nI v) (nI 0) (nI 127)) (nI 0) (nI 1) = nI 2 := by rw [flV, if_neg s_24_2, if_pos (show nI 0 = 0 by decide +kernel)]
      refine z_top (nI 1) (by rw [flR, pf_2]; first | done | decide +kernel) ?_
      refine z_cast (lv := [(0, .ref (q 0)), (1, .int (nI v))]) (ws := (zMo (zy E) q (va_up h 0 (upd (h 0) 1 (nI 2))))) (st := [.int (nI 1)]) ?_ rfl (by rw [flG, pf_2]) rfl
      refine z_if_eq hC 32 dX10_type_27 (by decide) (fun c_27 => ?_) (fun c_27 => ?_)
      · exact absurd c_27 (by decide +kernel)
      · refine z_iconst hC (nI 0) (by decide +kernel) dX10_type_30 ?_
        have pT : tyT h v = 2 := by simp only [tyT, if_pos c_15, if_neg s_24_2]
        exact z_iret hC hf rfl (by rw [pT]; rfl) (by unfold mxG; rw [pT]; rfl) dX10_type_31
  · have hn9 := zlt150 hn hn150 c_15
    refine z_iconst hC (nI 1) (by decide +kernel) dX10_type_18 ?_
    refine z_goto hC 23 dX10_type_19 (by decide) ?_
    refine z_iconst hC (nI 1) (by decide +kernel) dX10_type_23 ?_
    by_cases s_24_3 : wi (nI v) (nI 0) (nI 127) = 0
    · refine z_callV hC (As := [.int (wi (nI v) (nI 0) (nI 127)), .int (nI 1), .int (nI 1)]) (st := []) (ws2 := zMo (zy E) q (flG h (wi (nI v) (nI 0) (nI 127)) (nI 1) (nI 1))) (B := zMo (zy E) q h) (B' := zMo (zy E) q (flG h (wi (nI v) (nI 0) (nI 127)) (nI 1) (nI 1))) (r := some (.int (flR (wi (nI v) (nI 0) (nI 127)) (nI 1) (nI 1)))) 3 (c_X10_fails q h (wi (nI v) (nI 0) (nI 127)) (nI 1) (nI 1)) gX10_type_X10_fails (q0 := 0) (ci := 8) (by decide +kernel) rfl rfl rfl ⟨by decide, by decide⟩ [0, 1, 2, 3, 4, 5, 6] rfl (by decide) rfl (Nat.le_of_ble_eq_true rfl) rfl rfl dX10_type_24 ?_ hkR
      have pf_3 : flV (wi (nI v) (nI 0) (nI 127)) (nI 1) (nI 1) = nI 1 := by rw [flV, if_pos s_24_3]
      refine z_top (nI 1) (by rw [flR, pf_3]; first | done | decide +kernel) ?_
      refine z_cast (lv := [(0, .ref (q 0)), (1, .int (nI v))]) (ws := (zMo (zy E) q (va_up h 0 (upd (h 0) 1 (nI 1))))) (st := [.int (nI 1)]) ?_ rfl (by rw [flG, pf_3]) rfl
      refine z_if_eq hC 32 dX10_type_27 (by decide) (fun c_27 => ?_) (fun c_27 => ?_)
      · exact absurd c_27 (by decide +kernel)
      · refine z_iconst hC (nI 0) (by decide +kernel) dX10_type_30 ?_
        have pT : tyT h v = 1 := by simp only [tyT, if_neg c_15, if_pos s_24_3]
        exact z_iret hC hf rfl (by rw [pT]; rfl) (by unfold mxG; rw [pT]; rfl) dX10_type_31
    · refine z_callV hC (As := [.int (wi (nI v) (nI 0) (nI 127)), .int (nI 1), .int (nI 1)]) (st := []) (ws2 := zMo (zy E) q (flG h (wi (nI v) (nI 0) (nI 127)) (nI 1) (nI 1))) (B := zMo (zy E) q h) (B' := zMo (zy E) q (flG h (wi (nI v) (nI 0) (nI 127)) (nI 1) (nI 1))) (r := some (.int (flR (wi (nI v) (nI 0) (nI 127)) (nI 1) (nI 1)))) 3 (c_X10_fails q h (wi (nI v) (nI 0) (nI 127)) (nI 1) (nI 1)) gX10_type_X10_fails (q0 := 0) (ci := 8) (by decide +kernel) rfl rfl rfl ⟨by decide, by decide⟩ [0, 1, 2, 3, 4, 5, 6] rfl (by decide) rfl (Nat.le_of_ble_eq_true rfl) rfl rfl dX10_type_24 ?_ hkR
      have pf_4 : flV (wi (nI v) (nI 0) (nI 127)) (nI 1) (nI 1) = nI 0 := by rw [flV, if_neg s_24_3, if_neg (show ¬ nI 1 = 0 by decide +kernel), if_neg (show ¬ nI 1 = 0 by decide +kernel)]
      refine z_top (nI 0) (by rw [flR, pf_4]; first | done | decide +kernel) ?_
      refine z_cast (lv := [(0, .ref (q 0)), (1, .int (nI v))]) (ws := (zMo (zy E) q (va_up h 0 (upd (h 0) 1 (nI 0))))) (st := [.int (nI 0)]) ?_ rfl (by rw [flG, pf_4]) rfl
      refine z_if_eq hC 32 dX10_type_27 (by decide) (fun c_27 => ?_) (fun c_27 => ?_)
      · refine z_aload_n hC 0 rfl dX10_type_32 ?_
        refine z_get hC 0 8 8 (v := .ref (q 5)) rfl rfl iX10_type_X10 (by decide) (List.mem_of_getElem? (i := 2) (by decide +kernel)) rfl rfl dX10_type_33 ?_
        refine z_aload_n hC 0 rfl dX10_type_36 ?_
        refine z_get hC 0 8 9 (v := .int ((upd (h 0) 1 (nI 0)) 4)) rfl rfl iX10_type_X10 (by decide) (List.mem_of_getElem? (i := 1) (by decide +kernel)) rfl rfl dX10_type_37 ?_
        refine z_top (nI n) hn ?_
        refine z_iload_n hC 1 rfl dX10_type_40 ?_
        refine z_i2b hC dX10_type_41 ?_
        refine z_bast hC 5 n ((nI v).toInt8.toInt32) (ws' := zMo (zy E) q (va_up (va_up h 0 (upd (h 0) 1 (nI 0))) 5 (upd (h 5) n ((nI v).toInt8.toInt32)))) (pk_vb _) rfl rfl rfl (by omega) (by decide) rfl dX10_type_42 ?_
        refine z_aload_n hC 0 rfl dX10_type_43 ?_
        refine z_dup hC dX10_type_44 rfl ?_
        refine z_get hC 0 8 9 (v := .int ((upd (h 0) 1 (nI 0)) 4)) rfl rfl iX10_type_X10 (by decide) (List.mem_of_getElem? (i := 1) (by decide +kernel)) rfl rfl dX10_type_45 ?_
        refine z_top (nI n) hn ?_
        refine z_iconst hC (nI 1) (by decide +kernel) dX10_type_48 ?_
        refine z_iadd hC dX10_type_49 ?_
        refine z_top (nI (n + 1)) (nI_add _ _) ?_
        refine z_put hC 0 8 9 (ws' := zMo (zy E) q (va_up (va_up h 0 (upd (upd (h 0) 1 (nI 0)) 4 (nI (n + 1)))) 5 (upd (h 5) n ((nI v).toInt8.toInt32)))) tyX10 .int rfl rfl iX10_type_X10 tyX10_ok nmX10 (by decide) (List.mem_of_getElem? (i := 1) (by decide +kernel)) rfl rfl (by decide +kernel) rfl rfl (Nat.le_of_ble_eq_true rfl) rfl dX10_type_50 ?_
        refine z_aload_n hC 0 rfl dX10_type_53 ?_
        refine z_get hC 0 8 9 (v := .int ((upd (upd (h 0) 1 (nI 0)) 4 (nI (n + 1))) 4)) rfl rfl iX10_type_X10 (by decide) (List.mem_of_getElem? (i := 1) (by decide +kernel)) rfl rfl dX10_type_54 ?_
        refine z_top (nI (n + 1)) rfl ?_
        have pT : tyT h v = 0 := by simp only [tyT, if_neg c_15, if_neg s_24_3]
        exact z_iret hC hf rfl (by rw [pT]; rfl) (by unfold mxG; rw [pT]; rfl) dX10_type_57
      · exact absurd c_27 (by decide +kernel)

theorem iX10_undo_X10 : ∀ w ∈ u_ws RX10 TX10 15, w ∈ wsX10_undo := by decide +kernel
set_option maxHeartbeats 4000000 in
set_option maxRecDepth 100000 in
/-- undo -/
theorem c_X10_undo {l : Launch} {y : zY} {D : va_G} (q : Nat → Nat) (h : Nat → Nat → Int32) (m : Nat) (hsv : h 0 0 = nI m) (hm4 : m ≤ 4) : zM l y D yX10_undo wsX10_undo 1 23 [.ref (q 0)] (zMo y q h) (zMo y q (mxG h (unT m) (va_up (va_up h 0 (upd (upd (h 0) 1 (nI 0)) 0 (nI (m - 1)))) 1 (fun k => h 2 (215 * (m - 1) + k))))) (some (.int (if unT m = 0 then nI (m - 1) else nI 0))) := by
  refine z_start (own := RX10) (cc := cX10_undo) (maxL := 2) (ret := (some .int)) rfl (by decide +kernel) rfl (Nat.le_of_ble_eq_true rfl) (zMo_fst _ _ _ _) ?_
  intro E hEl hEy hED hC hf
  subst hEl hEy hED
  have hkR : 0 ≤ E.2.2.2.2.2.1.cells ∧ 0 ≤ E.2.2.2.2.2.1.slots := ⟨Nat.zero_le _, Nat.zero_le _⟩
  refine z_cast (lv := [(0, .ref (q 0))]) (ws := (zMo (zy E) q h)) (st := []) ?_ rfl rfl rfl
  refine z_aload_n hC 0 rfl dX10_undo_0 ?_
  refine z_aload_n hC 0 rfl dX10_undo_1 ?_
  refine z_get hC 0 8 3 (v := .int ((h 0) 0)) rfl rfl iX10_undo_X10 (by decide) (List.mem_of_getElem? (i := 1) (by decide +kernel)) rfl rfl dX10_undo_2 ?_
  refine z_top (nI m) hsv ?_
  refine z_if_le hC 12 dX10_undo_5 (by decide) (fun c_5 => ?_) (fun c_5 => ?_)
  · have m0 : m = 0 := by rw [show (0 : Int32) = nI 0 from rfl, nI_leI (by omega) (by omega)] at c_5; omega
    have pT : unT m = 1 := if_pos m0
    refine z_iconst hC (nI 0) (by decide +kernel) dX10_undo_12 ?_
    refine z_iconst hC (nI 1) (by decide +kernel) dX10_undo_13 ?_
    refine z_iconst hC (nI 1) (by decide +kernel) dX10_undo_14 ?_
    refine z_callV hC (As := [.int (nI 0), .int (nI 1), .int (nI 1)]) (st := []) (ws2 := zMo (zy E) q (flG h (nI 0) (nI 1) (nI 1))) (B := zMo (zy E) q h) (B' := zMo (zy E) q (flG h (nI 0) (nI 1) (nI 1))) (r := some (.int (flR (nI 0) (nI 1) (nI 1)))) 3 (c_X10_fails q h (nI 0) (nI 1) (nI 1)) gX10_undo_X10_fails (q0 := 0) (ci := 8) (by decide +kernel) rfl rfl rfl ⟨by decide, by decide⟩ [0, 1, 2, 3, 4, 5, 6] rfl (by decide) rfl (Nat.le_of_ble_eq_true rfl) rfl rfl dX10_undo_15 ?_ hkR
    have pf_1 : flV (nI 0) (nI 1) (nI 1) = nI 1 := by rw [flV, if_pos (show nI 0 = 0 by decide +kernel)]
    refine z_top (nI 1) (by rw [flR, pf_1]; first | done | decide +kernel) ?_
    refine z_cast (lv := [(0, .ref (q 0))]) (ws := (zMo (zy E) q (va_up h 0 (upd (h 0) 1 (nI 1))))) (st := [.int (nI 1)]) ?_ rfl (by rw [flG, pf_1]) rfl
    refine z_if_eq hC 23 dX10_undo_18 (by decide) (fun c_18 => ?_) (fun c_18 => ?_)
    · exact absurd c_18 (by decide +kernel)
    · refine z_iconst hC (nI 0) (by decide +kernel) dX10_undo_21 ?_
      exact z_iret hC hf rfl (by rw [pT]; rfl) (by unfold mxG; rw [pT]; rfl) dX10_undo_22
  · have m0 : ¬ m = 0 := fun e => c_5 (by rw [e]; decide +kernel)
    have pT : unT m = 0 := if_neg m0
    refine z_iconst hC (nI 1) (by decide +kernel) dX10_undo_8 ?_
    refine z_goto hC 13 dX10_undo_9 (by decide) ?_
    refine z_iconst hC (nI 1) (by decide +kernel) dX10_undo_13 ?_
    refine z_iconst hC (nI 1) (by decide +kernel) dX10_undo_14 ?_
    refine z_callV hC (As := [.int (nI 1), .int (nI 1), .int (nI 1)]) (st := []) (ws2 := zMo (zy E) q (flG h (nI 1) (nI 1) (nI 1))) (B := zMo (zy E) q h) (B' := zMo (zy E) q (flG h (nI 1) (nI 1) (nI 1))) (r := some (.int (flR (nI 1) (nI 1) (nI 1)))) 3 (c_X10_fails q h (nI 1) (nI 1) (nI 1)) gX10_undo_X10_fails (q0 := 0) (ci := 8) (by decide +kernel) rfl rfl rfl ⟨by decide, by decide⟩ [0, 1, 2, 3, 4, 5, 6] rfl (by decide) rfl (Nat.le_of_ble_eq_true rfl) rfl rfl dX10_undo_15 ?_ hkR
    have pf_2 : flV (nI 1) (nI 1) (nI 1) = nI 0 := by rw [flV, if_neg (show ¬ nI 1 = 0 by decide +kernel), if_neg (show ¬ nI 1 = 0 by decide +kernel), if_neg (show ¬ nI 1 = 0 by decide +kernel)]
    refine z_top (nI 0) (by rw [flR, pf_2]; first | done | decide +kernel) ?_
    refine z_cast (lv := [(0, .ref (q 0))]) (ws := (zMo (zy E) q (va_up h 0 (upd (h 0) 1 (nI 0))))) (st := [.int (nI 0)]) ?_ rfl (by rw [flG, pf_2]) rfl
    refine z_if_eq hC 23 dX10_undo_18 (by decide) (fun c_18 => ?_) (fun c_18 => ?_)
    · refine z_aload_n hC 0 rfl dX10_undo_23 ?_
      refine z_dup hC dX10_undo_24 rfl ?_
      refine z_get hC 0 8 3 (v := .int ((upd (h 0) 1 (nI 0)) 0)) rfl rfl iX10_undo_X10 (by decide) (List.mem_of_getElem? (i := 1) (by decide +kernel)) rfl rfl dX10_undo_25 ?_
      refine z_top (nI m) hsv ?_
      refine z_iconst hC (nI 1) (by decide +kernel) dX10_undo_28 ?_
      refine z_isub hC dX10_undo_29 ?_
      refine z_top (nI (m - 1)) (pk_sub (by omega)) ?_
      refine z_put hC 0 8 3 (ws' := zMo (zy E) q (va_up h 0 (upd (upd (h 0) 1 (nI 0)) 0 (nI (m - 1))))) tyX10 .int rfl rfl iX10_undo_X10 tyX10_ok nmX10 (by decide) (List.mem_of_getElem? (i := 1) (by decide +kernel)) rfl rfl (by decide +kernel) rfl rfl (Nat.le_of_ble_eq_true rfl) rfl dX10_undo_30 ?_
      refine z_iconst hC (nI 0) (by decide +kernel) dX10_undo_33 ?_
      refine z_istore_n hC (by decide) (lv' := [(1, .int (nI 0)), (0, .ref (q 0))]) rfl dX10_undo_34 ?_
      have lp_35 : ∀ (d_35 k : Nat), 215 < k + d_35 → k ≤ 215 → Z E 0 0 [(0, .ref (q 0)), (1, .int (nI k))] (zMo (zy E) q (va_up (va_up h 0 (upd (upd (h 0) 1 (nI 0)) 0 (nI (m - 1)))) 1 (cpU (h 1) (h 2) (m - 1) k))) 35 [] := by
        intro d_35
        induction d_35 with
        | zero => intro k  q1 q2; omega
        | succ d_35 ih_35 =>
          intro k  q1_35 q2_35 
          refine z_iload_n hC 1 rfl dX10_undo_35 ?_
          refine z_sipush hC (nI 215) (by decide +kernel) dX10_undo_36 ?_
          refine z_icmp_ge hC 69 dX10_undo_39 (by decide) (fun c_39 => ?_) (fun c_39 => ?_)
          · have k_39 : 215 ≤ k := (nI_leI (by omega) (by omega)).mp c_39
            obtain rfl : k = 215 := by omega
            refine z_arrE 1 (g := fun k => h 2 (215 * (m - 1) + k)) (ws' := zMo (zy E) q (va_up (va_up h 0 (upd (upd (h 0) 1 (nI 0)) 0 (nI (m - 1)))) 1 (fun k => h 2 (215 * (m - 1) + k)))) (cpU_lt (h 1) (h 2) (m - 1) 215) rfl rfl ?_
            refine z_aload_n hC 0 rfl dX10_undo_69 ?_
            refine z_get hC 0 8 3 (v := .int ((upd (upd (h 0) 1 (nI 0)) 0 (nI (m - 1))) 0)) rfl rfl iX10_undo_X10 (by decide) (List.mem_of_getElem? (i := 1) (by decide +kernel)) rfl rfl dX10_undo_70 ?_
            refine z_top (nI (m - 1)) rfl ?_
            exact z_iret hC hf rfl (by rw [pT]; rfl) (by unfold mxG; rw [pT]; rfl) dX10_undo_73
          · have k_39 : ¬ (215 ≤ k) := fun q => c_39 ((nI_leI (by omega) (by omega)).mpr q)
            refine z_aload_n hC 0 rfl dX10_undo_42 ?_
            refine z_get hC 0 8 0 (v := .ref (q 1)) rfl rfl iX10_undo_X10 (by decide) (List.mem_of_getElem? (i := 2) (by decide +kernel)) rfl rfl dX10_undo_43 ?_
            refine z_iload_n hC 1 rfl dX10_undo_46 ?_
            refine z_aload_n hC 0 rfl dX10_undo_47 ?_
            refine z_get hC 0 8 1 (v := .ref (q 2)) rfl rfl iX10_undo_X10 (by decide) (List.mem_of_getElem? (i := 3) (by decide +kernel)) rfl rfl dX10_undo_48 ?_
            refine z_sipush hC (nI 215) (by decide +kernel) dX10_undo_51 ?_
            refine z_aload_n hC 0 rfl dX10_undo_54 ?_
            refine z_get hC 0 8 3 (v := .int ((upd (upd (h 0) 1 (nI 0)) 0 (nI (m - 1))) 0)) rfl rfl iX10_undo_X10 (by decide) (List.mem_of_getElem? (i := 1) (by decide +kernel)) rfl rfl dX10_undo_55 ?_
            refine z_top (nI (m - 1)) rfl ?_
            refine z_imul hC dX10_undo_58 ?_
            refine z_top (nI (215 * (m - 1))) (pk_mul _ _) ?_
            refine z_iload_n hC 1 rfl dX10_undo_59 ?_
            refine z_iadd hC dX10_undo_60 ?_
            refine z_top (nI ((215 * (m - 1)) + k)) (nI_add _ _) ?_
            refine z_iald hC 2 ((215 * (m - 1)) + k) (f := h 2) rfl rfl rfl (by omega) (by decide) dX10_undo_61 ?_
            refine z_iast hC 1 k ((h 2) ((215 * (m - 1)) + k)) (ws' := zMo (zy E) q (va_up (va_up h 0 (upd (upd (h 0) 1 (nI 0)) 0 (nI (m - 1)))) 1 (upd (cpU (h 1) (h 2) (m - 1) k) k ((h 2) ((215 * (m - 1)) + k))))) rfl rfl rfl rfl (by omega) (by decide) rfl dX10_undo_62 ?_
            refine z_iinc hC 1 (nI (k + 1)) rfl z_i1 (by decide) (lv' := [(1, .int (nI (k + 1))), (0, .ref (q 0))]) rfl dX10_undo_63 ?_
            refine z_goto hC 35 dX10_undo_66 (by decide) ?_
            refine z_sub [1, 0] (lv' := [(0, .ref (q 0)), (1, .int (nI (k + 1)))]) rfl ?_
            exact z_cast (ih_35 (k + 1) (by omega) (by omega)) rfl rfl rfl
      refine z_sub [1, 0] (lv' := [(0, .ref (q 0)), (1, .int (nI 0))]) rfl ?_
      exact z_cast (lp_35 (215 + 1) 0 (by omega) (by omega)) rfl rfl rfl
    · exact absurd c_18 (by decide +kernel)
