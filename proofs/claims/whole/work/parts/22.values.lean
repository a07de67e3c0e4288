/-! the model's values -/
def whM (f : Nat → Int32) (t s v : Nat) (u : Int32) : Int32 := if f (12 + s) = 0 then nI 1 else if nI v < f (12 + s) then (if u ≤ f (92 + 6 * s + v) then (if upw u (f (140 + t)) ≤ f (145 + t) then nI 0 else nI 4) else nI 3) else nI 2
def reN (f : Nat → Int32) : Int32 := if nI 9999 - f 0 ≤ f 5 then nI 9999 - f 0 else f 5
def reF (f : Nat → Int32) : Nat → Int32 := upd (upd (upd f 5 (f 5 - reN f)) 0 (upd f 5 (f 5 - reN f) 0 + reN f)) 7 (upd (upd f 5 (f 5 - reN f)) 0 (upd f 5 (f 5 - reN f) 0 + reN f) 7 + reN f)
def bvM (f : Nat → Int32) (s v w : Nat) : Int32 := if nI v < f (12 + s) then (if nI w = 0 then f (44 + (6 * s + v)) else if nI w = nI 1 then f (92 + (6 * s + v)) else fcM f s v) else (-1)
def tvM (f : Nat → Int32) (t w : Nat) : Int32 := if nI w = 0 then f (140 + t) else if nI w = nI 1 then f (145 + t) else f (150 + t)
def svV (f : Nat → Int32) (s w : Nat) : Int32 := if w = 0 then f (12 + s) else if w = 1 then vmS f s (zhm f s) else if w = 2 then f (20 + s) else if w = 3 then f (28 + s) else f (36 + s)
def scM (f : Nat → Int32) : Nat → Int32
  | 0 => nI 0
  | s + 1 => scM f s + (if f (12 + s) ≤ 0 then nI 0 else nI 1)
def vaM (f : Nat → Int32) : Nat → Int32
  | 0 => nI 0
  | s + 1 => vaM f s + vmS f s (zhm f s)
def wvM (h : Nat → Nat → Int32) (w : Nat) : Int32 := if w < 5 then h 1 w else if w = 5 then scM (h 1) 8 else if w = 6 then vaM (h 1) 8 else if w = 7 then h 1 5 else if w = 8 then h 1 6 else if w = 9 then h 1 7 else if w = 10 then h 1 10 else if w = 11 then wlS (h 1) 8 else if w = 12 then h 1 8 else if w = 13 then h 1 9 else if w = 14 then h 1 11 else h 0 4
theorem iX10_save_X10 : ∀ w ∈ u_ws RX10 TX10 15, w ∈ wsX10_save := by decide +kernel
set_option maxHeartbeats 4000000 in
set_option maxRecDepth 100000 in
/-- save, fewer than 4 kept -/
theorem c_X10_save_lt {l : Launch} {y : zY} {D : va_G} (q : Nat → Nat) (h : Nat → Nat → Int32) (m : Nat) (hsv : h 0 0 = nI m) (hm3 : m < 4) : zM l y D yX10_save wsX10_save 0 0 [.ref (q 0)] (zMo y q h) (zMo y q (svG h m)) (none) := by
  refine z_start (own := RX10) (cc := cX10_save) (maxL := 2) (ret := none) rfl (by decide +kernel) rfl (Nat.le_of_ble_eq_true rfl) (zMo_fst _ _ _ _) ?_
  intro E hEl hEy hED hC hf
  subst hEl hEy hED
  have hkR : 0 ≤ E.2.2.2.2.2.1.cells ∧ 0 ≤ E.2.2.2.2.2.1.slots := ⟨Nat.zero_le _, Nat.zero_le _⟩
  refine z_cast (lv := [(0, .ref (q 0))]) (ws := (zMo (zy E) q h)) (st := []) ?_ rfl rfl rfl
  refine z_aload_n hC 0 rfl dX10_save_0 ?_
  refine z_get hC 0 8 3 (v := .int ((h 0) 0)) rfl rfl iX10_save_X10 (by decide) (List.mem_of_getElem? (i := 1) (by decide +kernel)) rfl rfl dX10_save_1 ?_
  refine z_top (nI m) hsv ?_
  refine z_iconst hC (nI 4) (by decide +kernel) dX10_save_4 ?_
  refine z_icmp_ne hC 49 dX10_save_5 (by decide) (fun c_5 => ?_) (fun c_5 => ?_)
  · have k_5 : ¬ (m = 4) := fun q => c_5 ((nI_eq (by omega) (by omega)).mpr q)
    refine z_iconst hC (nI 0) (by decide +kernel) dX10_save_49 ?_
    refine z_istore_n hC (by decide) (lv' := [(1, .int (nI 0)), (0, .ref (q 0))]) rfl dX10_save_50 ?_
    have lp_51 : ∀ (d_51 k : Nat), 215 < k + d_51 → k ≤ 215 → Z E 0 0 [(0, .ref (q 0)), (1, .int (nI k))] (zMo (zy E) q (va_up h 2 (cpK (h 2) (h 1) m k))) 51 [] := by
      intro d_51
      induction d_51 with
      | zero => intro k  q1 q2; omega
      | succ d_51 ih_51 =>
        intro k  q1_51 q2_51 
        refine z_iload_n hC 1 rfl dX10_save_51 ?_
        refine z_sipush hC (nI 215) (by decide +kernel) dX10_save_52 ?_
        refine z_icmp_ge hC 85 dX10_save_55 (by decide) (fun c_55 => ?_) (fun c_55 => ?_)
        · have k_55 : 215 ≤ k := (nI_leI (by omega) (by omega)).mp c_55
          obtain rfl : k = 215 := by omega
          have e8 : svK h m = cpK (h 2) (h 1) m 215 := if_neg (by omega)
          have e7 : svM m = m + 1 := if_neg (by omega)
          refine z_aload_n hC 0 rfl dX10_save_85 ?_
          refine z_dup hC dX10_save_86 rfl ?_
          refine z_get hC 0 8 3 (v := .int ((h 0) 0)) rfl rfl iX10_save_X10 (by decide) (List.mem_of_getElem? (i := 1) (by decide +kernel)) rfl rfl dX10_save_87 ?_
          refine z_top (nI m) hsv ?_
          refine z_iconst hC (nI 1) (by decide +kernel) dX10_save_90 ?_
          refine z_iadd hC dX10_save_91 ?_
          refine z_top (nI (m + 1)) (nI_add _ _) ?_
          refine z_put hC 0 8 3 (ws' := zMo (zy E) q (va_up (va_up h 2 (cpK (h 2) (h 1) m 215)) 0 (upd (h 0) 0 (nI (m + 1))))) tyX10 .int rfl rfl iX10_save_X10 tyX10_ok nmX10 (by decide) (List.mem_of_getElem? (i := 1) (by decide +kernel)) rfl rfl (by decide +kernel) rfl rfl (Nat.le_of_ble_eq_true rfl) rfl dX10_save_92 ?_
          exact z_vret hC hf rfl rfl (by rw [svG, e8, e7]) dX10_save_95
        · have k_55 : ¬ (215 ≤ k) := fun q => c_55 ((nI_leI (by omega) (by omega)).mpr q)
          refine z_aload_n hC 0 rfl dX10_save_58 ?_
          refine z_get hC 0 8 1 (v := .ref (q 2)) rfl rfl iX10_save_X10 (by decide) (List.mem_of_getElem? (i := 2) (by decide +kernel)) rfl rfl dX10_save_59 ?_
          refine z_sipush hC (nI 215) (by decide +kernel) dX10_save_62 ?_
          refine z_aload_n hC 0 rfl dX10_save_65 ?_
          refine z_get hC 0 8 3 (v := .int ((h 0) 0)) rfl rfl iX10_save_X10 (by decide) (List.mem_of_getElem? (i := 1) (by decide +kernel)) rfl rfl dX10_save_66 ?_
          refine z_top (nI m) hsv ?_
          refine z_imul hC dX10_save_69 ?_
          refine z_top (nI (215 * m)) (pk_mul _ _) ?_
          refine z_iload_n hC 1 rfl dX10_save_70 ?_
          refine z_iadd hC dX10_save_71 ?_
          refine z_top (nI ((215 * m) + k)) (nI_add _ _) ?_
          refine z_aload_n hC 0 rfl dX10_save_72 ?_
          refine z_get hC 0 8 0 (v := .ref (q 1)) rfl rfl iX10_save_X10 (by decide) (List.mem_of_getElem? (i := 3) (by decide +kernel)) rfl rfl dX10_save_73 ?_
          refine z_iload_n hC 1 rfl dX10_save_76 ?_
          refine z_iald hC 1 k (f := h 1) rfl rfl rfl (by omega) (by decide) dX10_save_77 ?_
          refine z_iast hC 2 ((215 * m) + k) ((h 1) k) (ws' := zMo (zy E) q (va_up h 2 (upd (cpK (h 2) (h 1) m k) ((215 * m) + k) ((h 1) k)))) rfl rfl rfl rfl (by omega) (by decide) rfl dX10_save_78 ?_
          refine z_iinc hC 1 (nI (k + 1)) rfl z_i1 (by decide) (lv' := [(1, .int (nI (k + 1))), (0, .ref (q 0))]) rfl dX10_save_79 ?_
          refine z_goto hC 51 dX10_save_82 (by decide) ?_
          refine z_sub [1, 0] (lv' := [(0, .ref (q 0)), (1, .int (nI (k + 1)))]) rfl ?_
          exact z_cast (ih_51 (k + 1) (by omega) (by omega)) rfl rfl rfl
    refine z_sub [1, 0] (lv' := [(0, .ref (q 0)), (1, .int (nI 0))]) rfl ?_
    exact z_cast (lp_51 (215 + 1) 0 (by omega) (by omega)) rfl rfl rfl
  · exact absurd ((nI_eq (by omega) (by omega)).mp c_5) (by omega)

set_option maxHeartbeats 4000000 in
set_option maxRecDepth 100000 in
/-- save, 4 kept -/
theorem c_X10_save_4 {l : Launch} {y : zY} {D : va_G} (q : Nat → Nat) (h : Nat → Nat → Int32) (hsv : h 0 0 = nI 4) : zM l y D yX10_save wsX10_save 0 0 [.ref (q 0)] (zMo y q h) (zMo y q (svG h 4)) (none) := by
  refine z_start (own := RX10) (cc := cX10_save) (maxL := 2) (ret := none) rfl (by decide +kernel) rfl (Nat.le_of_ble_eq_true rfl) (zMo_fst _ _ _ _) ?_
  intro E hEl hEy hED hC hf
  subst hEl hEy hED
  have hkR : 0 ≤ E.2.2.2.2.2.1.cells ∧ 0 ≤ E.2.2.2.2.2.1.slots := ⟨Nat.zero_le _, Nat.zero_le _⟩
  refine z_cast (lv := [(0, .ref (q 0))]) (ws := (zMo (zy E) q h)) (st := []) ?_ rfl rfl rfl
  refine z_aload_n hC 0 rfl dX10_save_0 ?_
  refine z_get hC 0 8 3 (v := .int ((h 0) 0)) rfl rfl iX10_save_X10 (by decide) (List.mem_of_getElem? (i := 1) (by decide +kernel)) rfl rfl dX10_save_1 ?_
  refine z_top (nI 4) hsv ?_
  refine z_iconst hC (nI 4) (by decide +kernel) dX10_save_4 ?_
  refine z_icmp_ne hC 49 dX10_save_5 (by decide) (fun c_5 => ?_) (fun c_5 => ?_)
  · exact absurd rfl c_5
  · have k_5 : 4 = 4 := (nI_eq (by omega) (by omega)).mp c_5
    refine z_iconst hC (nI 0) (by decide +kernel) dX10_save_8 ?_
    refine z_istore_n hC (by decide) (lv' := [(1, .int (nI 0)), (0, .ref (q 0))]) rfl dX10_save_9 ?_
    have lp_10 : ∀ (d_10 k : Nat), 645 < k + d_10 → k ≤ 645 → Z E 0 0 [(0, .ref (q 0)), (1, .int (nI k))] (zMo (zy E) q (va_up h 2 (skK (h 2) k))) 10 [] := by
      intro d_10
      induction d_10 with
      | zero => intro k  q1 q2; omega
      | succ d_10 ih_10 =>
        intro k  q1_10 q2_10 
        refine z_iload_n hC 1 rfl dX10_save_10 ?_
        refine z_sipush hC (nI 645) (by decide +kernel) dX10_save_11 ?_
        refine z_icmp_ge hC 39 dX10_save_14 (by decide) (fun c_14 => ?_) (fun c_14 => ?_)
        · have k_14 : 645 ≤ k := (nI_leI (by omega) (by omega)).mp c_14
          obtain rfl : k = 645 := by omega
          refine z_aload_n hC 0 rfl dX10_save_39 ?_
          refine z_dup hC dX10_save_40 rfl ?_
          refine z_get hC 0 8 3 (v := .int ((h 0) 0)) rfl rfl iX10_save_X10 (by decide) (List.mem_of_getElem? (i := 1) (by decide +kernel)) rfl rfl dX10_save_41 ?_
          refine z_top (nI 4) hsv ?_
          refine z_iconst hC (nI 1) (by decide +kernel) dX10_save_44 ?_
          refine z_isub hC dX10_save_45 ?_
          refine z_top (nI 3) (by decide +kernel) ?_
          refine z_put hC 0 8 3 (ws' := zMo (zy E) q (va_up (va_up h 2 (skK (h 2) 645)) 0 (upd (h 0) 0 (nI 3)))) tyX10 .int rfl rfl iX10_save_X10 tyX10_ok nmX10 (by decide) (List.mem_of_getElem? (i := 1) (by decide +kernel)) rfl rfl (by decide +kernel) rfl rfl (Nat.le_of_ble_eq_true rfl) rfl dX10_save_46 ?_
          refine z_iconst hC (nI 0) (by decide +kernel) dX10_save_49 ?_
          refine z_istore_n hC (by decide) (lv' := [(1, .int (nI 0)), (0, .ref (q 0))]) rfl dX10_save_50 ?_
          have lp_51 : ∀ (d_51 k : Nat), 215 < k + d_51 → k ≤ 215 → Z E 0 0 [(0, .ref (q 0)), (1, .int (nI k))] (zMo (zy E) q (va_up (va_up h 2 (cpK (skK (h 2) 645) (h 1) 3 k)) 0 (upd (h 0) 0 (nI 3)))) 51 [] := by
            intro d_51
            induction d_51 with
            | zero => intro k  q1 q2; omega
            | succ d_51 ih_51 =>
              intro k  q1_51 q2_51 
              refine z_iload_n hC 1 rfl dX10_save_51 ?_
              refine z_sipush hC (nI 215) (by decide +kernel) dX10_save_52 ?_
              refine z_icmp_ge hC 85 dX10_save_55 (by decide) (fun c_55 => ?_) (fun c_55 => ?_)
              · have k_55 : 215 ≤ k := (nI_leI (by omega) (by omega)).mp c_55
                obtain rfl : k = 215 := by omega
                refine z_aload_n hC 0 rfl dX10_save_85 ?_
                refine z_dup hC dX10_save_86 rfl ?_
                refine z_get hC 0 8 3 (v := .int (nI 3)) rfl rfl iX10_save_X10 (by decide) (List.mem_of_getElem? (i := 1) (by decide +kernel)) rfl rfl dX10_save_87 ?_
                refine z_iconst hC (nI 1) (by decide +kernel) dX10_save_90 ?_
                refine z_iadd hC dX10_save_91 ?_
                refine z_top (nI (3 + 1)) (nI_add _ _) ?_
                refine z_put hC 0 8 3 (ws' := zMo (zy E) q (va_up (va_up h 2 (cpK (skK (h 2) 645) (h 1) 3 215)) 0 (upd (upd (h 0) 0 (nI 3)) 0 (nI (3 + 1))))) tyX10 .int rfl rfl iX10_save_X10 tyX10_ok nmX10 (by decide) (List.mem_of_getElem? (i := 1) (by decide +kernel)) rfl rfl (by decide +kernel) rfl rfl (Nat.le_of_ble_eq_true rfl) rfl dX10_save_92 ?_
                exact z_vret hC hf rfl rfl rfl dX10_save_95
              · have k_55 : ¬ (215 ≤ k) := fun q => c_55 ((nI_leI (by omega) (by omega)).mpr q)
                refine z_aload_n hC 0 rfl dX10_save_58 ?_
                refine z_get hC 0 8 1 (v := .ref (q 2)) rfl rfl iX10_save_X10 (by decide) (List.mem_of_getElem? (i := 2) (by decide +kernel)) rfl rfl dX10_save_59 ?_
                refine z_sipush hC (nI 215) (by decide +kernel) dX10_save_62 ?_
                refine z_aload_n hC 0 rfl dX10_save_65 ?_
                refine z_get hC 0 8 3 (v := .int (nI 3)) rfl rfl iX10_save_X10 (by decide) (List.mem_of_getElem? (i := 1) (by decide +kernel)) rfl rfl dX10_save_66 ?_
                refine z_imul hC dX10_save_69 ?_
                refine z_top (nI (215 * 3)) (pk_mul _ _) ?_
                refine z_iload_n hC 1 rfl dX10_save_70 ?_
                refine z_iadd hC dX10_save_71 ?_
                refine z_top (nI ((215 * 3) + k)) (nI_add _ _) ?_
                refine z_aload_n hC 0 rfl dX10_save_72 ?_
                refine z_get hC 0 8 0 (v := .ref (q 1)) rfl rfl iX10_save_X10 (by decide) (List.mem_of_getElem? (i := 3) (by decide +kernel)) rfl rfl dX10_save_73 ?_
                refine z_iload_n hC 1 rfl dX10_save_76 ?_
                refine z_iald hC 1 k (f := h 1) rfl rfl rfl (by omega) (by decide) dX10_save_77 ?_
                refine z_iast hC 2 ((215 * 3) + k) ((h 1) k) (ws' := zMo (zy E) q (va_up (va_up h 2 (upd (cpK (skK (h 2) 645) (h 1) 3 k) ((215 * 3) + k) ((h 1) k))) 0 (upd (h 0) 0 (nI 3)))) rfl rfl rfl rfl (by omega) (by decide) rfl dX10_save_78 ?_
                refine z_iinc hC 1 (nI (k + 1)) rfl z_i1 (by decide) (lv' := [(1, .int (nI (k + 1))), (0, .ref (q 0))]) rfl dX10_save_79 ?_
                refine z_goto hC 51 dX10_save_82 (by decide) ?_
                refine z_sub [1, 0] (lv' := [(0, .ref (q 0)), (1, .int (nI (k + 1)))]) rfl ?_
                exact z_cast (ih_51 (k + 1) (by omega) (by omega)) rfl rfl rfl
          refine z_sub [1, 0] (lv' := [(0, .ref (q 0)), (1, .int (nI 0))]) rfl ?_
          exact z_cast (lp_51 (215 + 1) 0 (by omega) (by omega)) rfl rfl rfl
        · have k_14 : ¬ (645 ≤ k) := fun q => c_14 ((nI_leI (by omega) (by omega)).mpr q)
          refine z_aload_n hC 0 rfl dX10_save_17 ?_
          refine z_get hC 0 8 1 (v := .ref (q 2)) rfl rfl iX10_save_X10 (by decide) (List.mem_of_getElem? (i := 2) (by decide +kernel)) rfl rfl dX10_save_18 ?_
          refine z_iload_n hC 1 rfl dX10_save_21 ?_
          refine z_aload_n hC 0 rfl dX10_save_22 ?_
          refine z_get hC 0 8 1 (v := .ref (q 2)) rfl rfl iX10_save_X10 (by decide) (List.mem_of_getElem? (i := 2) (by decide +kernel)) rfl rfl dX10_save_23 ?_
          refine z_sipush hC (nI 215) (by decide +kernel) dX10_save_26 ?_
          refine z_iload_n hC 1 rfl dX10_save_29 ?_
          refine z_iadd hC dX10_save_30 ?_
          refine z_top (nI (215 + k)) (nI_add _ _) ?_
          refine z_iald hC 2 (215 + k) (f := skK (h 2) k) rfl rfl rfl (by omega) (by decide) dX10_save_31 ?_
          refine z_iast hC 2 k ((skK (h 2) k) (215 + k)) (ws' := zMo (zy E) q (va_up h 2 (upd (skK (h 2) k) k ((skK (h 2) k) (215 + k))))) rfl rfl rfl rfl (by omega) (by decide) rfl dX10_save_32 ?_
          refine z_iinc hC 1 (nI (k + 1)) rfl z_i1 (by decide) (lv' := [(1, .int (nI (k + 1))), (0, .ref (q 0))]) rfl dX10_save_33 ?_
          refine z_goto hC 10 dX10_save_36 (by decide) ?_
          refine z_sub [1, 0] (lv' := [(0, .ref (q 0)), (1, .int (nI (k + 1)))]) rfl ?_
          exact z_cast (ih_10 (k + 1) (by omega) (by omega)) rfl rfl rfl
    refine z_sub [1, 0] (lv' := [(0, .ref (q 0)), (1, .int (nI 0))]) rfl ?_
    exact z_cast (lp_10 (645 + 1) 0 (by omega) (by omega)) rfl rfl rfl

theorem c_X10_save {l : Launch} {y : zY} {D : va_G} (q : Nat → Nat) (h : Nat → Nat → Int32) (m : Nat) (hsv : h 0 0 = nI m) (hm4 : m ≤ 4) : zM l y D yX10_save wsX10_save 0 0 [.ref (q 0)] (zMo y q h) (zMo y q (svG h m)) (none) := by
  by_cases e : m = 4
  · subst e; exact c_X10_save_4 q h hsv
  · exact c_X10_save_lt q h m hsv (by omega)

theorem iX10_why_X10 : ∀ w ∈ u_ws RX10 TX10 15, w ∈ wsX10_why := by decide +kernel
set_option maxHeartbeats 4000000 in
set_option maxRecDepth 100000 in
/-- why -/
theorem c_X10_why {l : Launch} {y : zY} {D : va_G} (q : Nat → Nat) (h : Nat → Nat → Int32) (t s v : Nat) (u : Int32) (ht5 : t < 5) (hs : s < 8) (hv : v < 6) (hsp : ¬ h 1 (140 + t) = 0) : zM l y D yX10_why wsX10_why 1 21 [.ref (q 0), .int (nI t), .int (nI s), .int (nI v), .int u] (zMo y q h) (zMo y q h) (some (.int (whM (h 1) t s v u))) := by
  refine z_start (own := RX10) (cc := cX10_why) (maxL := 5) (ret := (some .int)) rfl (by decide +kernel) rfl (Nat.le_of_ble_eq_true rfl) rfl ?_
  intro E hEl hEy hED hC hf
  subst hEl hEy hED
  have hkR : 0 ≤ E.2.2.2.2.2.1.cells ∧ 0 ≤ E.2.2.2.2.2.1.slots := ⟨Nat.zero_le _, Nat.zero_le _⟩
  refine z_cast (lv := [(0, .ref (q 0)), (1, .int (nI t)), (2, .int (nI s)), (3, .int (nI v)), (4, .int u)]) (ws := (zMo (zy E) q h)) (st := []) ?_ rfl rfl rfl
  refine z_aload_n hC 0 rfl dX10_why_0 ?_
  refine z_get hC 0 8 0 (v := .ref (q 1)) rfl rfl iX10_why_X10 (by decide) (List.mem_of_getElem? (i := 1) (by decide +kernel)) rfl rfl dX10_why_1 ?_
  refine z_bipush hC (nI 12) (by decide +kernel) dX10_why_4 ?_
  refine z_iload_n hC 2 rfl dX10_why_6 ?_
  refine z_iadd hC dX10_why_7 ?_
  refine z_top (nI (12 + s)) (nI_add _ _) ?_
  refine z_iald hC 1 (12 + s) (f := h 1) rfl rfl rfl (by omega) (by decide) dX10_why_8 ?_
  refine z_if_ne hC 14 dX10_why_9 (by decide) (fun c_9 => ?_) (fun c_9 => ?_)
  · refine z_iload_n hC 3 rfl dX10_why_14 ?_
    refine z_aload_n hC 0 rfl dX10_why_15 ?_
    refine z_get hC 0 8 0 (v := .ref (q 1)) rfl rfl iX10_why_X10 (by decide) (List.mem_of_getElem? (i := 1) (by decide +kernel)) rfl rfl dX10_why_16 ?_
    refine z_bipush hC (nI 12) (by decide +kernel) dX10_why_19 ?_
    refine z_iload_n hC 2 rfl dX10_why_21 ?_
    refine z_iadd hC dX10_why_22 ?_
    refine z_top (nI (12 + s)) (nI_add _ _) ?_
    refine z_iald hC 1 (12 + s) (f := h 1) rfl rfl rfl (by omega) (by decide) dX10_why_23 ?_
    refine z_icmp_lt hC 29 dX10_why_24 (by decide) (fun c_24 => ?_) (fun c_24 => ?_)
    · refine z_aload_n hC 0 rfl dX10_why_29 ?_
      refine z_get hC 0 8 0 (v := .ref (q 1)) rfl rfl iX10_why_X10 (by decide) (List.mem_of_getElem? (i := 1) (by decide +kernel)) rfl rfl dX10_why_30 ?_
      refine z_bipush hC (nI 92) (by decide +kernel) dX10_why_33 ?_
      refine z_bipush hC (nI 6) (by decide +kernel) dX10_why_35 ?_
      refine z_iload_n hC 2 rfl dX10_why_37 ?_
      refine z_imul hC dX10_why_38 ?_
      refine z_top (nI (6 * s)) (pk_mul _ _) ?_
      refine z_iadd hC dX10_why_39 ?_
      refine z_top (nI (92 + (6 * s))) (nI_add _ _) ?_
      refine z_iload_n hC 3 rfl dX10_why_40 ?_
      refine z_iadd hC dX10_why_41 ?_
      refine z_top (nI ((92 + (6 * s)) + v)) (nI_add _ _) ?_
      refine z_iald hC 1 ((92 + (6 * s)) + v) (f := h 1) rfl rfl rfl (by omega) (by decide) dX10_why_42 ?_
      refine z_iload hC 4 rfl dX10_why_43 ?_
      refine z_icmp_ge hC 50 dX10_why_45 (by decide) (fun c_45 => ?_) (fun c_45 => ?_)
      · refine z_aload_n hC 0 rfl dX10_why_50 ?_
        refine z_get hC 0 8 0 (v := .ref (q 1)) rfl rfl iX10_why_X10 (by decide) (List.mem_of_getElem? (i := 1) (by decide +kernel)) rfl rfl dX10_why_51 ?_
        refine z_sipush hC (nI 145) (by decide +kernel) dX10_why_54 ?_
        refine z_iload_n hC 1 rfl dX10_why_57 ?_
        refine z_iadd hC dX10_why_58 ?_
        refine z_top (nI (145 + t)) (nI_add _ _) ?_
        refine z_iald hC 1 (145 + t) (f := h 1) rfl rfl rfl (by omega) (by decide) dX10_why_59 ?_
        refine z_iload hC 4 rfl dX10_why_60 ?_
        refine z_aload_n hC 0 rfl dX10_why_62 ?_
        refine z_get hC 0 8 0 (v := .ref (q 1)) rfl rfl iX10_why_X10 (by decide) (List.mem_of_getElem? (i := 1) (by decide +kernel)) rfl rfl dX10_why_63 ?_
        refine z_sipush hC (nI 140) (by decide +kernel) dX10_why_66 ?_
        refine z_iload_n hC 1 rfl dX10_why_69 ?_
        refine z_iadd hC dX10_why_70 ?_
        refine z_top (nI (140 + t)) (nI_add _ _) ?_
        refine z_iald hC 1 (140 + t) (f := h 1) rfl rfl rfl (by omega) (by decide) dX10_why_71 ?_
        refine z_callS hC (As := [.int u, .int ((h 1) (140 + t))]) (st := [.int ((h 1) (145 + t))]) (ws2 := zMo (zy E) q h) (B := []) (B' := []) (r := some (.int (upw u ((h 1) (140 + t))))) 2 (c_X10_upwards u ((h 1) (140 + t)) hsp) gX10_why_X10_upwards (by decide +kernel) rfl ⟨by decide, by decide⟩ [] rfl (by decide) rfl (Nat.le_of_ble_eq_true rfl) rfl rfl dX10_why_72 ?_ hkR
        refine z_icmp_ge hC 82 dX10_why_75 (by decide) (fun c_75 => ?_) (fun c_75 => ?_)
        · refine z_iconst hC (nI 0) (by decide +kernel) dX10_why_82 ?_
          exact z_iret hC hf rfl (by first | rfl | (simp only [whM, if_neg c_9, if_pos c_24, if_pos c_45, if_pos c_75]; done) | (simp only [whM, if_neg c_9, if_pos c_24, if_pos c_45, if_pos c_75]; rfl)) rfl dX10_why_83
        · refine z_iconst hC (nI 4) (by decide +kernel) dX10_why_78 ?_
          refine z_goto hC 83 dX10_why_79 (by decide) ?_
          exact z_iret hC hf rfl (by first | rfl | (simp only [whM, if_neg c_9, if_pos c_24, if_pos c_45, if_neg c_75]; done) | (simp only [whM, if_neg c_9, if_pos c_24, if_pos c_45, if_neg c_75]; rfl)) rfl dX10_why_83
      · refine z_iconst hC (nI 3) (by decide +kernel) dX10_why_48 ?_
        exact z_iret hC hf rfl (by first | rfl | (simp only [whM, if_neg c_9, if_pos c_24, if_neg c_45]; done) | (simp only [whM, if_neg c_9, if_pos c_24, if_neg c_45]; rfl)) rfl dX10_why_49
    · refine z_iconst hC (nI 2) (by decide +kernel) dX10_why_27 ?_
      exact z_iret hC hf rfl (by first | rfl | (simp only [whM, if_neg c_9, if_neg c_24]; done) | (simp only [whM, if_neg c_9, if_neg c_24]; rfl)) rfl dX10_why_28
  · refine z_iconst hC (nI 1) (by decide +kernel) dX10_why_12 ?_
    exact z_iret hC hf rfl (by first | rfl | (simp only [whM, if_pos c_9]; done) | (simp only [whM, if_pos c_9]; rfl)) rfl dX10_why_13

theorem iX10_blockValue_X10 : ∀ w ∈ u_ws RX10 TX10 15, w ∈ wsX10_blockValue := by decide +kernel
set_option maxHeartbeats 4000000 in
set_option maxRecDepth 100000 in
/-- blockValue -/
theorem c_X10_blockValue {l : Launch} {y : zY} {D : va_G} (q : Nat → Nat) (h : Nat → Nat → Int32) (s v w : Nat) (hs : s < 8) (hv : v < 6) : zM l y D yX10_blockValue wsX10_blockValue 4 88 [.ref (q 0), .int (nI s), .int (nI v), .int (nI w)] (zMo y q h) (zMo y q h) (some (.int (bvM (h 1) s v w))) := by
  refine z_start (own := RX10) (cc := cX10_blockValue) (maxL := 5) (ret := (some .int)) rfl (by decide +kernel) rfl (Nat.le_of_ble_eq_true rfl) rfl ?_
  intro E hEl hEy hED hC hf
  subst hEl hEy hED
  have hkR : 0 ≤ E.2.2.2.2.2.1.cells ∧ 0 ≤ E.2.2.2.2.2.1.slots := ⟨Nat.zero_le _, Nat.zero_le _⟩
  refine z_cast (lv := [(0, .ref (q 0)), (1, .int (nI s)), (2, .int (nI v)), (3, .int (nI w))]) (ws := (zMo (zy E) q h)) (st := []) ?_ rfl rfl rfl
  refine z_iload_n hC 2 rfl dX10_blockValue_0 ?_
  refine z_aload_n hC 0 rfl dX10_blockValue_1 ?_
  refine z_get hC 0 8 0 (v := .ref (q 1)) rfl rfl iX10_blockValue_X10 (by decide) (List.mem_of_getElem? (i := 1) (by decide +kernel)) rfl rfl dX10_blockValue_2 ?_
  refine z_bipush hC (nI 12) (by decide +kernel) dX10_blockValue_5 ?_
  refine z_iload_n hC 1 rfl dX10_blockValue_7 ?_
  refine z_iadd hC dX10_blockValue_8 ?_
  refine z_top (nI (12 + s)) (nI_add _ _) ?_
  refine z_iald hC 1 (12 + s) (f := h 1) rfl rfl rfl (by omega) (by decide) dX10_blockValue_9 ?_
  refine z_icmp_lt hC 15 dX10_blockValue_10 (by decide) (fun c_10 => ?_) (fun c_10 => ?_)
  · refine z_bipush hC (nI 6) (by decide +kernel) dX10_blockValue_15 ?_
    refine z_iload_n hC 1 rfl dX10_blockValue_17 ?_
    refine z_imul hC dX10_blockValue_18 ?_
    refine z_top (nI (6 * s)) (pk_mul _ _) ?_
    refine z_iload_n hC 2 rfl dX10_blockValue_19 ?_
    refine z_iadd hC dX10_blockValue_20 ?_
    refine z_top (nI ((6 * s) + v)) (nI_add _ _) ?_
    refine z_istore hC (by decide) (lv' := [(4, .int (nI ((6 * s) + v))), (0, .ref (q 0)), (1, .int (nI s)), (2, .int (nI v)), (3, .int (nI w))]) rfl dX10_blockValue_21 ?_
    refine z_iload_n hC 4 rfl dX10_blockValue_23 ?_
    refine z_if_ne hC 40 dX10_blockValue_24 (by decide) (fun c_24 => ?_) (fun c_24 => ?_)
    · refine z_iload_n hC 4 rfl dX10_blockValue_40 ?_
      refine z_iconst hC (nI 1) (by decide +kernel) dX10_blockValue_41 ?_
      refine z_icmp_ne hC 58 dX10_blockValue_42 (by decide) (fun c_42 => ?_) (fun c_42 => ?_)
      · refine z_aload_n hC 1 rfl dX10_blockValue_58 ?_
        refine z_iload_n hC 2 rfl dX10_blockValue_59 ?_
        refine z_iload_n hC 3 rfl dX10_blockValue_60 ?_
        refine z_callV hC (As := [.int (nI s), .int (nI v)]) (st := []) (ws2 := zMo (zy E) q h) (B := zMo (zy E) q h) (B' := zMo (zy E) q h) (r := some (.int (fcM (h 1) s v))) 2 (c_X10_faces q h s v (by omega)) gX10_blockValue_X10_faces (q0 := 0) (ci := 8) (by decide +kernel) rfl rfl rfl ⟨by decide, by decide⟩ [0, 1, 2, 3, 4, 5, 6] rfl (by decide) rfl (Nat.le_of_ble_eq_true rfl) rfl rfl dX10_blockValue_61 ?_ hkR
        exact z_iret hC hf rfl (by first | rfl | (simp only [bvM, if_pos c_10, if_neg c_24, if_neg c_42]; done) | (simp only [bvM, if_pos c_10, if_neg c_24, if_neg c_42]; rfl)) rfl dX10_blockValue_64
      · refine z_aload_n hC 1 rfl dX10_blockValue_45 ?_
        refine z_get hC 0 8 0 (v := .ref (q 1)) rfl rfl iX10_blockValue_X10 (by decide) (List.mem_of_getElem? (i := 1) (by decide +kernel)) rfl rfl dX10_blockValue_46 ?_
        refine z_bipush hC (nI 92) (by decide +kernel) dX10_blockValue_49 ?_
        refine z_iload hC 0 rfl dX10_blockValue_51 ?_
        refine z_iadd hC dX10_blockValue_53 ?_
        refine z_top (nI (92 + ((6 * s) + v))) (nI_add _ _) ?_
        refine z_iald hC 1 (92 + ((6 * s) + v)) (f := h 1) rfl rfl rfl (by omega) (by decide) dX10_blockValue_54 ?_
        refine z_goto hC 64 dX10_blockValue_55 (by decide) ?_
        exact z_iret hC hf rfl (by first | rfl | (simp only [bvM, if_pos c_10, if_neg c_24, if_pos c_42]; done) | (simp only [bvM, if_pos c_10, if_neg c_24, if_pos c_42]; rfl)) rfl dX10_blockValue_64
    · refine z_aload_n hC 1 rfl dX10_blockValue_27 ?_
      refine z_get hC 0 8 0 (v := .ref (q 1)) rfl rfl iX10_blockValue_X10 (by decide) (List.mem_of_getElem? (i := 1) (by decide +kernel)) rfl rfl dX10_blockValue_28 ?_
      refine z_bipush hC (nI 44) (by decide +kernel) dX10_blockValue_31 ?_
      refine z_iload hC 0 rfl dX10_blockValue_33 ?_
      refine z_iadd hC dX10_blockValue_35 ?_
      refine z_top (nI (44 + ((6 * s) + v))) (nI_add _ _) ?_
      refine z_iald hC 1 (44 + ((6 * s) + v)) (f := h 1) rfl rfl rfl (by omega) (by decide) dX10_blockValue_36 ?_
      refine z_goto hC 64 dX10_blockValue_37 (by decide) ?_
      exact z_iret hC hf rfl (by first | rfl | (simp only [bvM, if_pos c_10, if_pos c_24]; done) | (simp only [bvM, if_pos c_10, if_pos c_24]; rfl)) rfl dX10_blockValue_64
  · refine z_iconst hC ((-1)) (by decide +kernel) dX10_blockValue_13 ?_
    exact z_iret hC hf rfl (by first | rfl | (simp only [bvM, if_neg c_10]; done) | (simp only [bvM, if_neg c_10]; rfl)) rfl dX10_blockValue_14

theorem iX10_toolValue_X10 : ∀ w ∈ u_ws RX10 TX10 15, w ∈ wsX10_toolValue := by decide +kernel
set_option maxHeartbeats 4000000 in
set_option maxRecDepth 100000 in
/-- toolValue -/
theorem c_X10_toolValue {l : Launch} {y : zY} {D : va_G} (q : Nat → Nat) (h : Nat → Nat → Int32) (t w : Nat) (ht5 : t < 5) : zM l y D yX10_toolValue wsX10_toolValue 0 0 [.ref (q 0), .int (nI t), .int (nI w)] (zMo y q h) (zMo y q h) (some (.int (tvM (h 1) t w))) := by
  refine z_start (own := RX10) (cc := cX10_toolValue) (maxL := 3) (ret := (some .int)) rfl (by decide +kernel) rfl (Nat.le_of_ble_eq_true rfl) rfl ?_
  intro E hEl hEy hED hC hf
  subst hEl hEy hED
  have hkR : 0 ≤ E.2.2.2.2.2.1.cells ∧ 0 ≤ E.2.2.2.2.2.1.slots := ⟨Nat.zero_le _, Nat.zero_le _⟩
  refine z_cast (lv := [(0, .ref (q 0)), (1, .int (nI t)), (2, .int (nI w))]) (ws := (zMo (zy E) q h)) (st := []) ?_ rfl rfl rfl
  refine z_iload_n hC 2 rfl dX10_toolValue_0 ?_
  refine z_if_ne hC 17 dX10_toolValue_1 (by decide) (fun c_1 => ?_) (fun c_1 => ?_)
  · refine z_iload_n hC 2 rfl dX10_toolValue_17 ?_
    refine z_iconst hC (nI 1) (by decide +kernel) dX10_toolValue_18 ?_
    refine z_icmp_ne hC 35 dX10_toolValue_19 (by decide) (fun c_19 => ?_) (fun c_19 => ?_)
    · refine z_aload_n hC 0 rfl dX10_toolValue_35 ?_
      refine z_get hC 0 8 0 (v := .ref (q 1)) rfl rfl iX10_toolValue_X10 (by decide) (List.mem_of_getElem? (i := 1) (by decide +kernel)) rfl rfl dX10_toolValue_36 ?_
      refine z_sipush hC (nI 150) (by decide +kernel) dX10_toolValue_39 ?_
      refine z_iload_n hC 1 rfl dX10_toolValue_42 ?_
      refine z_iadd hC dX10_toolValue_43 ?_
      refine z_top (nI (150 + t)) (nI_add _ _) ?_
      refine z_iald hC 1 (150 + t) (f := h 1) rfl rfl rfl (by omega) (by decide) dX10_toolValue_44 ?_
      exact z_iret hC hf rfl (by simp only [tvM, if_neg c_1, if_neg c_19]) rfl dX10_toolValue_45
    · refine z_aload_n hC 0 rfl dX10_toolValue_22 ?_
      refine z_get hC 0 8 0 (v := .ref (q 1)) rfl rfl iX10_toolValue_X10 (by decide) (List.mem_of_getElem? (i := 1) (by decide +kernel)) rfl rfl dX10_toolValue_23 ?_
      refine z_sipush hC (nI 145) (by decide +kernel) dX10_toolValue_26 ?_
      refine z_iload_n hC 1 rfl dX10_toolValue_29 ?_
      refine z_iadd hC dX10_toolValue_30 ?_
      refine z_top (nI (145 + t)) (nI_add _ _) ?_
      refine z_iald hC 1 (145 + t) (f := h 1) rfl rfl rfl (by omega) (by decide) dX10_toolValue_31 ?_
      refine z_goto hC 45 dX10_toolValue_32 (by decide) ?_
      exact z_iret hC hf rfl (by simp only [tvM, if_neg c_1, if_pos c_19]) rfl dX10_toolValue_45
  · refine z_aload_n hC 0 rfl dX10_toolValue_4 ?_
    refine z_get hC 0 8 0 (v := .ref (q 1)) rfl rfl iX10_toolValue_X10 (by decide) (List.mem_of_getElem? (i := 1) (by decide +kernel)) rfl rfl dX10_toolValue_5 ?_
    refine z_sipush hC (nI 140) (by decide +kernel) dX10_toolValue_8 ?_
    refine z_iload_n hC 1 rfl dX10_toolValue_11 ?_
    refine z_iadd hC dX10_toolValue_12 ?_
    refine z_top (nI (140 + t)) (nI_add _ _) ?_
    refine z_iald hC 1 (140 + t) (f := h 1) rfl rfl rfl (by omega) (by decide) dX10_toolValue_13 ?_
    refine z_goto hC 45 dX10_toolValue_14 (by decide) ?_
    exact z_iret hC hf rfl (by simp only [tvM, if_pos c_1]) rfl dX10_toolValue_45

theorem iX10_siteValue_X10 : ∀ w ∈ u_ws RX10 TX10 15, w ∈ wsX10_siteValue := by decide +kernel
set_option maxHeartbeats 4000000 in
set_option maxRecDepth 100000 in
/-- siteValue -/
theorem c_X10_siteValue {l : Launch} {y : zY} {D : va_G} (q : Nat → Nat) (h : Nat → Nat → Int32) (s w : Nat) (hs : s < 8) (hw : w < 5) (hM : okM (h 1)) : zM l y D yX10_siteValue wsX10_siteValue 1 23 [.ref (q 0), .int (nI s), .int (nI w)] (zMo y q h) (zMo y q h) (some (.int (svV (h 1) s w))) := by
  refine z_start (own := RX10) (cc := cX10_siteValue) (maxL := 3) (ret := (some .int)) rfl (by decide +kernel) rfl (Nat.le_of_ble_eq_true rfl) rfl ?_
  intro E hEl hEy hED hC hf
  subst hEl hEy hED
  have hkR : 0 ≤ E.2.2.2.2.2.1.cells ∧ 0 ≤ E.2.2.2.2.2.1.slots := ⟨Nat.zero_le _, Nat.zero_le _⟩
  refine z_cast (lv := [(0, .ref (q 0)), (1, .int (nI s)), (2, .int (nI w))]) (ws := (zMo (zy E) q h)) (st := []) ?_ rfl rfl rfl
  refine z_iload_n hC 2 rfl dX10_siteValue_0 ?_
  by_cases c_1_0 : w = 0
  · refine z_tblIn hC (off := 31) 32 dX10_siteValue_1 (by rw [nI_toInt (by omega)]; omega) (by rw [nI_toInt (by omega)]; omega) (by rw [c_1_0]; decide +kernel) (by decide) ?_
    refine z_aload_n hC 0 rfl dX10_siteValue_32 ?_
    refine z_get hC 0 8 0 (v := .ref (q 1)) rfl rfl iX10_siteValue_X10 (by decide) (List.mem_of_getElem? (i := 1) (by decide +kernel)) rfl rfl dX10_siteValue_33 ?_
    refine z_bipush hC (nI 12) (by decide +kernel) dX10_siteValue_36 ?_
    refine z_iload_n hC 1 rfl dX10_siteValue_38 ?_
    refine z_iadd hC dX10_siteValue_39 ?_
    refine z_top (nI (12 + s)) (nI_add _ _) ?_
    refine z_iald hC 1 (12 + s) (f := h 1) rfl rfl rfl (by omega) (by decide) dX10_siteValue_40 ?_
    exact z_iret hC hf rfl (by first | rfl | (simp only [svV, if_pos c_1_0]; done) | (simp only [svV, if_pos c_1_0]; rfl)) rfl dX10_siteValue_41
  by_cases c_1_1 : w = 1
  · refine z_tblIn hC (off := 41) 42 dX10_siteValue_1 (by rw [nI_toInt (by omega)]; omega) (by rw [nI_toInt (by omega)]; omega) (by rw [c_1_1]; decide +kernel) (by decide) ?_
    refine z_aload_n hC 0 rfl dX10_siteValue_42 ?_
    refine z_iload_n hC 1 rfl dX10_siteValue_43 ?_
    refine z_callV hC (As := [.int (nI s)]) (st := []) (ws2 := zMo (zy E) q h) (B := zMo (zy E) q h) (B' := zMo (zy E) q h) (r := some (.int (vmS (h 1) s (zhm (h 1) s)))) 1 (c_X10_volumes q h s (by omega) hM) gX10_siteValue_X10_volumes (q0 := 0) (ci := 8) (by decide +kernel) rfl rfl rfl ⟨by decide, by decide⟩ [0, 1, 2, 3, 4, 5, 6] rfl (by decide) rfl (Nat.le_of_ble_eq_true rfl) rfl rfl dX10_siteValue_44 ?_ hkR
    exact z_iret hC hf rfl (by first | rfl | (simp only [svV, if_neg c_1_0, if_pos c_1_1]; done) | (simp only [svV, if_neg c_1_0, if_pos c_1_1]; rfl)) rfl dX10_siteValue_47
  by_cases c_1_2 : w = 2
  · refine z_tblIn hC (off := 47) 48 dX10_siteValue_1 (by rw [nI_toInt (by omega)]; omega) (by rw [nI_toInt (by omega)]; omega) (by rw [c_1_2]; decide +kernel) (by decide) ?_
    refine z_aload_n hC 0 rfl dX10_siteValue_48 ?_
    refine z_get hC 0 8 0 (v := .ref (q 1)) rfl rfl iX10_siteValue_X10 (by decide) (List.mem_of_getElem? (i := 1) (by decide +kernel)) rfl rfl dX10_siteValue_49 ?_
    refine z_bipush hC (nI 20) (by decide +kernel) dX10_siteValue_52 ?_
    refine z_iload_n hC 1 rfl dX10_siteValue_54 ?_
    refine z_iadd hC dX10_siteValue_55 ?_
    refine z_top (nI (20 + s)) (nI_add _ _) ?_
    refine z_iald hC 1 (20 + s) (f := h 1) rfl rfl rfl (by omega) (by decide) dX10_siteValue_56 ?_
    exact z_iret hC hf rfl (by first | rfl | (simp only [svV, if_neg c_1_0, if_neg c_1_1, if_pos c_1_2]; done) | (simp only [svV, if_neg c_1_0, if_neg c_1_1, if_pos c_1_2]; rfl)) rfl dX10_siteValue_57
  by_cases c_1_3 : w = 3
  · refine z_tblIn hC (off := 57) 58 dX10_siteValue_1 (by rw [nI_toInt (by omega)]; omega) (by rw [nI_toInt (by omega)]; omega) (by rw [c_1_3]; decide +kernel) (by decide) ?_
    refine z_aload_n hC 0 rfl dX10_siteValue_58 ?_
    refine z_get hC 0 8 0 (v := .ref (q 1)) rfl rfl iX10_siteValue_X10 (by decide) (List.mem_of_getElem? (i := 1) (by decide +kernel)) rfl rfl dX10_siteValue_59 ?_
    refine z_bipush hC (nI 28) (by decide +kernel) dX10_siteValue_62 ?_
    refine z_iload_n hC 1 rfl dX10_siteValue_64 ?_
    refine z_iadd hC dX10_siteValue_65 ?_
    refine z_top (nI (28 + s)) (nI_add _ _) ?_
    refine z_iald hC 1 (28 + s) (f := h 1) rfl rfl rfl (by omega) (by decide) dX10_siteValue_66 ?_
    exact z_iret hC hf rfl (by first | rfl | (simp only [svV, if_neg c_1_0, if_neg c_1_1, if_neg c_1_2, if_pos c_1_3]; done) | (simp only [svV, if_neg c_1_0, if_neg c_1_1, if_neg c_1_2, if_pos c_1_3]; rfl)) rfl dX10_siteValue_67
  refine z_tblOut hC 68 dX10_siteValue_1 (by rw [nI_toInt (by omega)]; omega) (by decide) ?_
  refine z_aload_n hC 0 rfl dX10_siteValue_68 ?_
  refine z_get hC 0 8 0 (v := .ref (q 1)) rfl rfl iX10_siteValue_X10 (by decide) (List.mem_of_getElem? (i := 1) (by decide +kernel)) rfl rfl dX10_siteValue_69 ?_
  refine z_bipush hC (nI 36) (by decide +kernel) dX10_siteValue_72 ?_
  refine z_iload_n hC 1 rfl dX10_siteValue_74 ?_
  refine z_iadd hC dX10_siteValue_75 ?_
  refine z_top (nI (36 + s)) (nI_add _ _) ?_
  refine z_iald hC 1 (36 + s) (f := h 1) rfl rfl rfl (by omega) (by decide) dX10_siteValue_76 ?_
  exact z_iret hC hf rfl (by first | rfl | (simp only [svV, if_neg c_1_0, if_neg c_1_1, if_neg c_1_2, if_neg c_1_3]; done) | (simp only [svV, if_neg c_1_0, if_neg c_1_1, if_neg c_1_2, if_neg c_1_3]; rfl)) rfl dX10_siteValue_77

theorem iX10_wholeValue_X10 : ∀ w ∈ u_ws RX10 TX10 15, w ∈ wsX10_wholeValue := by decide +kernel
set_option maxHeartbeats 4000000 in
set_option maxRecDepth 100000 in
/-- wholeValue -/
theorem c_X10_wholeValue {l : Launch} {y : zY} {D : va_G} (q : Nat → Nat) (h : Nat → Nat → Int32) (w : Nat) (hw : w < 16) (hM : okM (h 1)) : zM l y D yX10_wholeValue wsX10_wholeValue 1 23 [.ref (q 0), .int (nI w)] (zMo y q h) (zMo y q h) (some (.int (wvM h w))) := by
  refine z_start (own := RX10) (cc := cX10_wholeValue) (maxL := 5) (ret := (some .int)) rfl (by decide +kernel) rfl (Nat.le_of_ble_eq_true rfl) rfl ?_
  intro E hEl hEy hED hC hf
  subst hEl hEy hED
  have hkR : 0 ≤ E.2.2.2.2.2.1.cells ∧ 0 ≤ E.2.2.2.2.2.1.slots := ⟨Nat.zero_le _, Nat.zero_le _⟩
  refine z_cast (lv := [(0, .ref (q 0)), (1, .int (nI w))]) (ws := (zMo (zy E) q h)) (st := []) ?_ rfl rfl rfl
  refine z_iconst hC (nI 0) (by decide +kernel) dX10_wholeValue_0 ?_
  refine z_istore_n hC (by decide) (lv' := [(2, .int (nI 0)), (0, .ref (q 0)), (1, .int (nI w))]) rfl dX10_wholeValue_1 ?_
  refine z_iconst hC (nI 0) (by decide +kernel) dX10_wholeValue_2 ?_
  refine z_istore_n hC (by decide) (lv' := [(3, .int (nI 0)), (2, .int (nI 0)), (0, .ref (q 0)), (1, .int (nI w))]) rfl dX10_wholeValue_3 ?_
  refine z_iconst hC (nI 0) (by decide +kernel) dX10_wholeValue_4 ?_
  refine z_istore hC (by decide) (lv' := [(4, .int (nI 0)), (3, .int (nI 0)), (2, .int (nI 0)), (0, .ref (q 0)), (1, .int (nI w))]) rfl dX10_wholeValue_5 ?_
  have lp_7 : ∀ (d_7 s : Nat), 8 < s + d_7 → s ≤ 8 → Z E 0 0 [(0, .ref (q 0)), (1, .int (nI w)), (2, .int (scM (h 1) s)), (3, .int (vaM (h 1) s)), (4, .int (nI s))] (zMo (zy E) q h) 7 [] := by
    intro d_7
    induction d_7 with
    | zero => intro s  q1 q2; omega
    | succ d_7 ih_7 =>
      intro s  q1_7 q2_7 
      refine z_iload hC 4 rfl dX10_wholeValue_7 ?_
      refine z_bipush hC (nI 8) (by decide +kernel) dX10_wholeValue_9 ?_
      refine z_icmp_ge hC 50 dX10_wholeValue_11 (by decide) (fun c_11 => ?_) (fun c_11 => ?_)
      · have k_11 : 8 ≤ s := (nI_leI (by omega) (by omega)).mp c_11
        obtain rfl : s = 8 := by omega
        refine z_iload_n hC 1 rfl dX10_wholeValue_50 ?_
        by_cases c_51_0 : w = 0
        · refine z_tblIn hC (off := 73) 124 dX10_wholeValue_51 (by rw [nI_toInt (by omega)]; omega) (by rw [nI_toInt (by omega)]; omega) (by rw [c_51_0]; decide +kernel) (by decide) ?_
          refine z_aload_n hC 0 rfl dX10_wholeValue_124 ?_
          refine z_get hC 0 8 0 (v := .ref (q 1)) rfl rfl iX10_wholeValue_X10 (by decide) (List.mem_of_getElem? (i := 1) (by decide +kernel)) rfl rfl dX10_wholeValue_125 ?_
          refine z_iload_n hC 1 rfl dX10_wholeValue_128 ?_
          refine z_iald hC 1 w (f := h 1) rfl rfl rfl (by omega) (by decide) dX10_wholeValue_129 ?_
          exact z_iret hC hf rfl (by rw [wvM, if_pos (by omega)]) rfl dX10_wholeValue_130
        by_cases c_51_1 : w = 1
        · refine z_tblIn hC (off := 73) 124 dX10_wholeValue_51 (by rw [nI_toInt (by omega)]; omega) (by rw [nI_toInt (by omega)]; omega) (by rw [c_51_1]; decide +kernel) (by decide) ?_
          refine z_aload_n hC 0 rfl dX10_wholeValue_124 ?_
          refine z_get hC 0 8 0 (v := .ref (q 1)) rfl rfl iX10_wholeValue_X10 (by decide) (List.mem_of_getElem? (i := 1) (by decide +kernel)) rfl rfl dX10_wholeValue_125 ?_
          refine z_iload_n hC 1 rfl dX10_wholeValue_128 ?_
          refine z_iald hC 1 w (f := h 1) rfl rfl rfl (by omega) (by decide) dX10_wholeValue_129 ?_
          exact z_iret hC hf rfl (by rw [wvM, if_pos (by omega)]) rfl dX10_wholeValue_130
        by_cases c_51_2 : w = 2
        · refine z_tblIn hC (off := 73) 124 dX10_wholeValue_51 (by rw [nI_toInt (by omega)]; omega) (by rw [nI_toInt (by omega)]; omega) (by rw [c_51_2]; decide +kernel) (by decide) ?_
          refine z_aload_n hC 0 rfl dX10_wholeValue_124 ?_
          refine z_get hC 0 8 0 (v := .ref (q 1)) rfl rfl iX10_wholeValue_X10 (by decide) (List.mem_of_getElem? (i := 1) (by decide +kernel)) rfl rfl dX10_wholeValue_125 ?_
          refine z_iload_n hC 1 rfl dX10_wholeValue_128 ?_
          refine z_iald hC 1 w (f := h 1) rfl rfl rfl (by omega) (by decide) dX10_wholeValue_129 ?_
          exact z_iret hC hf rfl (by rw [wvM, if_pos (by omega)]) rfl dX10_wholeValue_130
        by_cases c_51_3 : w = 3
        · refine z_tblIn hC (off := 73) 124 dX10_wholeValue_51 (by rw [nI_toInt (by omega)]; omega) (by rw [nI_toInt (by omega)]; omega) (by rw [c_51_3]; decide +kernel) (by decide) ?_
          refine z_aload_n hC 0 rfl dX10_wholeValue_124 ?_
          refine z_get hC 0 8 0 (v := .ref (q 1)) rfl rfl iX10_wholeValue_X10 (by decide) (List.mem_of_getElem? (i := 1) (by decide +kernel)) rfl rfl dX10_wholeValue_125 ?_
          refine z_iload_n hC 1 rfl dX10_wholeValue_128 ?_
          refine z_iald hC 1 w (f := h 1) rfl rfl rfl (by omega) (by decide) dX10_wholeValue_129 ?_
          exact z_iret hC hf rfl (by rw [wvM, if_pos (by omega)]) rfl dX10_wholeValue_130
        by_cases c_51_4 : w = 4
        · refine z_tblIn hC (off := 73) 124 dX10_wholeValue_51 (by rw [nI_toInt (by omega)]; omega) (by rw [nI_toInt (by omega)]; omega) (by rw [c_51_4]; decide +kernel) (by decide) ?_
          refine z_aload_n hC 0 rfl dX10_wholeValue_124 ?_
          refine z_get hC 0 8 0 (v := .ref (q 1)) rfl rfl iX10_wholeValue_X10 (by decide) (List.mem_of_getElem? (i := 1) (by decide +kernel)) rfl rfl dX10_wholeValue_125 ?_
          refine z_iload_n hC 1 rfl dX10_wholeValue_128 ?_
          refine z_iald hC 1 w (f := h 1) rfl rfl rfl (by omega) (by decide) dX10_wholeValue_129 ?_
          exact z_iret hC hf rfl (by rw [wvM, if_pos (by omega)]) rfl dX10_wholeValue_130
        by_cases c_51_5 : w = 5
        · refine z_tblIn hC (off := 80) 131 dX10_wholeValue_51 (by rw [nI_toInt (by omega)]; omega) (by rw [nI_toInt (by omega)]; omega) (by rw [c_51_5]; decide +kernel) (by decide) ?_
          refine z_iload_n hC 2 rfl dX10_wholeValue_131 ?_
          exact z_iret hC hf rfl (by rw [wvM, if_neg (by omega), if_pos c_51_5]) rfl dX10_wholeValue_132
        by_cases c_51_6 : w = 6
        · refine z_tblIn hC (off := 82) 133 dX10_wholeValue_51 (by rw [nI_toInt (by omega)]; omega) (by rw [nI_toInt (by omega)]; omega) (by rw [c_51_6]; decide +kernel) (by decide) ?_
          refine z_iload_n hC 3 rfl dX10_wholeValue_133 ?_
          exact z_iret hC hf rfl (by rw [wvM, if_neg (by omega), if_neg c_51_5, if_pos c_51_6]) rfl dX10_wholeValue_134
        by_cases c_51_7 : w = 7
        · refine z_tblIn hC (off := 84) 135 dX10_wholeValue_51 (by rw [nI_toInt (by omega)]; omega) (by rw [nI_toInt (by omega)]; omega) (by rw [c_51_7]; decide +kernel) (by decide) ?_
          refine z_aload_n hC 0 rfl dX10_wholeValue_135 ?_
          refine z_get hC 0 8 0 (v := .ref (q 1)) rfl rfl iX10_wholeValue_X10 (by decide) (List.mem_of_getElem? (i := 1) (by decide +kernel)) rfl rfl dX10_wholeValue_136 ?_
          refine z_iconst hC (nI 5) (by decide +kernel) dX10_wholeValue_139 ?_
          refine z_iald hC 1 5 (f := h 1) rfl rfl rfl (by omega) (by decide) dX10_wholeValue_140 ?_
          exact z_iret hC hf rfl (by rw [wvM, if_neg (by omega), if_neg c_51_5, if_neg c_51_6, if_pos c_51_7]) rfl dX10_wholeValue_141
        by_cases c_51_8 : w = 8
        · refine z_tblIn hC (off := 91) 142 dX10_wholeValue_51 (by rw [nI_toInt (by omega)]; omega) (by rw [nI_toInt (by omega)]; omega) (by rw [c_51_8]; decide +kernel) (by decide) ?_
          refine z_aload_n hC 0 rfl dX10_wholeValue_142 ?_
          refine z_get hC 0 8 0 (v := .ref (q 1)) rfl rfl iX10_wholeValue_X10 (by decide) (List.mem_of_getElem? (i := 1) (by decide +kernel)) rfl rfl dX10_wholeValue_143 ?_
          refine z_bipush hC (nI 6) (by decide +kernel) dX10_wholeValue_146 ?_
          refine z_iald hC 1 6 (f := h 1) rfl rfl rfl (by omega) (by decide) dX10_wholeValue_148 ?_
          exact z_iret hC hf rfl (by rw [wvM, if_neg (by omega), if_neg c_51_5, if_neg c_51_6, if_neg c_51_7, if_pos c_51_8]) rfl dX10_wholeValue_149
        by_cases c_51_9 : w = 9
        · refine z_tblIn hC (off := 99) 150 dX10_wholeValue_51 (by rw [nI_toInt (by omega)]; omega) (by rw [nI_toInt (by omega)]; omega) (by rw [c_51_9]; decide +kernel) (by decide) ?_
          refine z_aload_n hC 0 rfl dX10_wholeValue_150 ?_
          refine z_get hC 0 8 0 (v := .ref (q 1)) rfl rfl iX10_wholeValue_X10 (by decide) (List.mem_of_getElem? (i := 1) (by decide +kernel)) rfl rfl dX10_wholeValue_151 ?_
          refine z_bipush hC (nI 7) (by decide +kernel) dX10_wholeValue_154 ?_
          refine z_iald hC 1 7 (f := h 1) rfl rfl rfl (by omega) (by decide) dX10_wholeValue_156 ?_
          exact z_iret hC hf rfl (by rw [wvM, if_neg (by omega), if_neg c_51_5, if_neg c_51_6, if_neg c_51_7, if_neg c_51_8, if_pos c_51_9]) rfl dX10_wholeValue_157
        by_cases c_51_10 : w = 10
        · refine z_tblIn hC (off := 107) 158 dX10_wholeValue_51 (by rw [nI_toInt (by omega)]; omega) (by rw [nI_toInt (by omega)]; omega) (by rw [c_51_10]; decide +kernel) (by decide) ?_
          refine z_aload_n hC 0 rfl dX10_wholeValue_158 ?_
          refine z_get hC 0 8 0 (v := .ref (q 1)) rfl rfl iX10_wholeValue_X10 (by decide) (List.mem_of_getElem? (i := 1) (by decide +kernel)) rfl rfl dX10_wholeValue_159 ?_
          refine z_bipush hC (nI 10) (by decide +kernel) dX10_wholeValue_162 ?_
          refine z_iald hC 1 10 (f := h 1) rfl rfl rfl (by omega) (by decide) dX10_wholeValue_164 ?_
          exact z_iret hC hf rfl (by rw [wvM, if_neg (by omega), if_neg c_51_5, if_neg c_51_6, if_neg c_51_7, if_neg c_51_8, if_neg c_51_9, if_pos c_51_10]) rfl dX10_wholeValue_165
        by_cases c_51_11 : w = 11
        · refine z_tblIn hC (off := 115) 166 dX10_wholeValue_51 (by rw [nI_toInt (by omega)]; omega) (by rw [nI_toInt (by omega)]; omega) (by rw [c_51_11]; decide +kernel) (by decide) ?_
          refine z_aload_n hC 0 rfl dX10_wholeValue_166 ?_
          refine z_callV hC (As := []) (st := []) (ws2 := zMo (zy E) q h) (B := zMo (zy E) q h) (B' := zMo (zy E) q h) (r := some (.int (wlS (h 1) 8))) 0 (c_X10_walls q h) gX10_wholeValue_X10_walls (q0 := 0) (ci := 8) (by decide +kernel) rfl rfl rfl ⟨by decide, by decide⟩ [0, 1, 2, 3, 4, 5, 6] rfl (by decide) rfl (Nat.le_of_ble_eq_true rfl) rfl rfl dX10_wholeValue_167 ?_ hkR
          exact z_iret hC hf rfl (by rw [wvM, if_neg (by omega), if_neg c_51_5, if_neg c_51_6, if_neg c_51_7, if_neg c_51_8, if_neg c_51_9, if_neg c_51_10, if_pos c_51_11]) rfl dX10_wholeValue_170
        by_cases c_51_12 : w = 12
        · refine z_tblIn hC (off := 120) 171 dX10_wholeValue_51 (by rw [nI_toInt (by omega)]; omega) (by rw [nI_toInt (by omega)]; omega) (by rw [c_51_12]; decide +kernel) (by decide) ?_
          refine z_aload_n hC 0 rfl dX10_wholeValue_171 ?_
          refine z_get hC 0 8 0 (v := .ref (q 1)) rfl rfl iX10_wholeValue_X10 (by decide) (List.mem_of_getElem? (i := 1) (by decide +kernel)) rfl rfl dX10_wholeValue_172 ?_
          refine z_bipush hC (nI 8) (by decide +kernel) dX10_wholeValue_175 ?_
          refine z_iald hC 1 8 (f := h 1) rfl rfl rfl (by omega) (by decide) dX10_wholeValue_177 ?_
          exact z_iret hC hf rfl (by rw [wvM, if_neg (by omega), if_neg c_51_5, if_neg c_51_6, if_neg c_51_7, if_neg c_51_8, if_neg c_51_9, if_neg c_51_10, if_neg c_51_11, if_pos c_51_12]) rfl dX10_wholeValue_178
        by_cases c_51_13 : w = 13
        · refine z_tblIn hC (off := 128) 179 dX10_wholeValue_51 (by rw [nI_toInt (by omega)]; omega) (by rw [nI_toInt (by omega)]; omega) (by rw [c_51_13]; decide +kernel) (by decide) ?_
          refine z_aload_n hC 0 rfl dX10_wholeValue_179 ?_
          refine z_get hC 0 8 0 (v := .ref (q 1)) rfl rfl iX10_wholeValue_X10 (by decide) (List.mem_of_getElem? (i := 1) (by decide +kernel)) rfl rfl dX10_wholeValue_180 ?_
          refine z_bipush hC (nI 9) (by decide +kernel) dX10_wholeValue_183 ?_
          refine z_iald hC 1 9 (f := h 1) rfl rfl rfl (by omega) (by decide) dX10_wholeValue_185 ?_
          exact z_iret hC hf rfl (by rw [wvM, if_neg (by omega), if_neg c_51_5, if_neg c_51_6, if_neg c_51_7, if_neg c_51_8, if_neg c_51_9, if_neg c_51_10, if_neg c_51_11, if_neg c_51_12, if_pos c_51_13]) rfl dX10_wholeValue_186
        by_cases c_51_14 : w = 14
        · refine z_tblIn hC (off := 136) 187 dX10_wholeValue_51 (by rw [nI_toInt (by omega)]; omega) (by rw [nI_toInt (by omega)]; omega) (by rw [c_51_14]; decide +kernel) (by decide) ?_
          refine z_aload_n hC 0 rfl dX10_wholeValue_187 ?_
          refine z_get hC 0 8 0 (v := .ref (q 1)) rfl rfl iX10_wholeValue_X10 (by decide) (List.mem_of_getElem? (i := 1) (by decide +kernel)) rfl rfl dX10_wholeValue_188 ?_
          refine z_bipush hC (nI 11) (by decide +kernel) dX10_wholeValue_191 ?_
          refine z_iald hC 1 11 (f := h 1) rfl rfl rfl (by omega) (by decide) dX10_wholeValue_193 ?_
          exact z_iret hC hf rfl (by rw [wvM, if_neg (by omega), if_neg c_51_5, if_neg c_51_6, if_neg c_51_7, if_neg c_51_8, if_neg c_51_9, if_neg c_51_10, if_neg c_51_11, if_neg c_51_12, if_neg c_51_13, if_pos c_51_14]) rfl dX10_wholeValue_194
        refine z_tblOut hC 195 dX10_wholeValue_51 (by rw [nI_toInt (by omega)]; omega) (by decide) ?_
        refine z_aload_n hC 0 rfl dX10_wholeValue_195 ?_
        refine z_get hC 0 8 9 (v := .int ((h 0) 4)) rfl rfl iX10_wholeValue_X10 (by decide) (List.mem_of_getElem? (i := 2) (by decide +kernel)) rfl rfl dX10_wholeValue_196 ?_
        exact z_iret hC hf rfl (by rw [wvM, if_neg (by omega), if_neg c_51_5, if_neg c_51_6, if_neg c_51_7, if_neg c_51_8, if_neg c_51_9, if_neg c_51_10, if_neg c_51_11, if_neg c_51_12, if_neg c_51_13, if_neg c_51_14]) rfl dX10_wholeValue_199
      · have k_11 : ¬ (8 ≤ s) := fun q => c_11 ((nI_leI (by omega) (by omega)).mpr q)
        refine z_iload_n hC 2 rfl dX10_wholeValue_14 ?_
        refine z_aload_n hC 0 rfl dX10_wholeValue_15 ?_
        refine z_get hC 0 8 0 (v := .ref (q 1)) rfl rfl iX10_wholeValue_X10 (by decide) (List.mem_of_getElem? (i := 1) (by decide +kernel)) rfl rfl dX10_wholeValue_16 ?_
        refine z_bipush hC (nI 12) (by decide +kernel) dX10_wholeValue_19 ?_
        refine z_iload hC 4 rfl dX10_wholeValue_21 ?_
        refine z_iadd hC dX10_wholeValue_23 ?_
        refine z_top (nI (12 + s)) (nI_add _ _) ?_
        refine z_iald hC 1 (12 + s) (f := h 1) rfl rfl rfl (by omega) (by decide) dX10_wholeValue_24 ?_
        refine z_if_le hC 32 dX10_wholeValue_25 (by decide) (fun c_25 => ?_) (fun c_25 => ?_)
        · have e9 : scM (h 1) (s + 1) = scM (h 1) s + nI 0 := congrArg (fun v => scM (h 1) s + v) (if_pos c_25)
          refine z_iconst hC (nI 0) (by decide +kernel) dX10_wholeValue_32 ?_
          refine z_iadd hC dX10_wholeValue_33 ?_
          refine z_istore_n hC (by decide) (lv' := [(2, .int ((scM (h 1) s) + (nI 0))), (0, .ref (q 0)), (1, .int (nI w)), (3, .int (vaM (h 1) s)), (4, .int (nI s))]) rfl dX10_wholeValue_34 ?_
          refine z_iload_n hC 3 rfl dX10_wholeValue_35 ?_
          refine z_aload_n hC 1 rfl dX10_wholeValue_36 ?_
          refine z_iload hC 4 rfl dX10_wholeValue_37 ?_
          refine z_callV hC (As := [.int (nI s)]) (st := [.int (vaM (h 1) s)]) (ws2 := zMo (zy E) q h) (B := zMo (zy E) q h) (B' := zMo (zy E) q h) (r := some (.int (vmS (h 1) s (zhm (h 1) s)))) 1 (c_X10_volumes q h s (by omega) hM) gX10_wholeValue_X10_volumes (q0 := 0) (ci := 8) (by decide +kernel) rfl rfl rfl ⟨by decide, by decide⟩ [0, 1, 2, 3, 4, 5, 6] rfl (by decide) rfl (Nat.le_of_ble_eq_true rfl) rfl rfl dX10_wholeValue_39 ?_ hkR
          refine z_iadd hC dX10_wholeValue_42 ?_
          refine z_istore_n hC (by decide) (lv' := [(3, .int ((vaM (h 1) s) + (vmS (h 1) s (zhm (h 1) s)))), (2, .int ((scM (h 1) s) + (nI 0))), (0, .ref (q 0)), (1, .int (nI w)), (4, .int (nI s))]) rfl dX10_wholeValue_43 ?_
          refine z_iinc hC 4 (nI (s + 1)) rfl z_i1 (by decide) (lv' := [(4, .int (nI (s + 1))), (3, .int ((vaM (h 1) s) + (vmS (h 1) s (zhm (h 1) s)))), (2, .int ((scM (h 1) s) + (nI 0))), (0, .ref (q 0)), (1, .int (nI w))]) rfl dX10_wholeValue_44 ?_
          refine z_goto hC 7 dX10_wholeValue_47 (by decide) ?_
          refine z_sub [3, 4, 2, 1, 0] (lv' := [(0, .ref (q 0)), (1, .int (nI w)), (2, .int ((scM (h 1) s) + (nI 0))), (3, .int ((vaM (h 1) s) + (vmS (h 1) s (zhm (h 1) s)))), (4, .int (nI (s + 1)))]) rfl ?_
          exact z_cast (ih_7 (s + 1) (by omega) (by omega)) (by rw [e9] <;> rfl) rfl rfl
        · have e9 : scM (h 1) (s + 1) = scM (h 1) s + nI 1 := congrArg (fun v => scM (h 1) s + v) (if_neg c_25)
          refine z_iconst hC (nI 1) (by decide +kernel) dX10_wholeValue_28 ?_
          refine z_goto hC 33 dX10_wholeValue_29 (by decide) ?_
          refine z_iadd hC dX10_wholeValue_33 ?_
          refine z_istore_n hC (by decide) (lv' := [(2, .int ((scM (h 1) s) + (nI 1))), (0, .ref (q 0)), (1, .int (nI w)), (3, .int (vaM (h 1) s)), (4, .int (nI s))]) rfl dX10_wholeValue_34 ?_
          refine z_iload_n hC 3 rfl dX10_wholeValue_35 ?_
          refine z_aload_n hC 1 rfl dX10_wholeValue_36 ?_
          refine z_iload hC 4 rfl dX10_wholeValue_37 ?_
          refine z_callV hC (As := [.int (nI s)]) (st := [.int (vaM (h 1) s)]) (ws2 := zMo (zy E) q h) (B := zMo (zy E) q h) (B' := zMo (zy E) q h) (r := some (.int (vmS (h 1) s (zhm (h 1) s)))) 1 (c_X10_volumes q h s (by omega) hM) gX10_wholeValue_X10_volumes (q0 := 0) (ci := 8) (by decide +kernel) rfl rfl rfl ⟨by decide, by decide⟩ [0, 1, 2, 3, 4, 5, 6] rfl (by decide) rfl (Nat.le_of_ble_eq_true rfl) rfl rfl dX10_wholeValue_39 ?_ hkR
          refine z_iadd hC dX10_wholeValue_42 ?_
          refine z_istore_n hC (by decide) (lv' := [(3, .int ((vaM (h 1) s) + (vmS (h 1) s (zhm (h 1) s)))), (2, .int ((scM (h 1) s) + (nI 1))), (0, .ref (q 0)), (1, .int (nI w)), (4, .int (nI s))]) rfl dX10_wholeValue_43 ?_
          refine z_iinc hC 4 (nI (s + 1)) rfl z_i1 (by decide) (lv' := [(4, .int (nI (s + 1))), (3, .int ((vaM (h 1) s) + (vmS (h 1) s (zhm (h 1) s)))), (2, .int ((scM (h 1) s) + (nI 1))), (0, .ref (q 0)), (1, .int (nI w))]) rfl dX10_wholeValue_44 ?_
          refine z_goto hC 7 dX10_wholeValue_47 (by decide) ?_
          refine z_sub [3, 4, 2, 1, 0] (lv' := [(0, .ref (q 0)), (1, .int (nI w)), (2, .int ((scM (h 1) s) + (nI 1))), (3, .int ((vaM (h 1) s) + (vmS (h 1) s (zhm (h 1) s)))), (4, .int (nI (s + 1)))]) rfl ?_
          exact z_cast (ih_7 (s + 1) (by omega) (by omega)) (by rw [e9] <;> rfl) rfl rfl
  refine z_sub [3, 4, 2, 1, 0] (lv' := [(0, .ref (q 0)), (1, .int (nI w)), (2, .int (nI 0)), (3, .int (nI 0)), (4, .int (nI 0))]) rfl ?_
  exact z_cast (lp_7 (8 + 1) 0 (by omega) (by omega)) rfl rfl rfl

def rcG0 (h : Nat → Nat → Int32) : Nat → Nat → Int32 := va_up (va_up h 0 (upd (h 0) 1 (nI 0))) 1 (reF (h 1))
theorem iX10_recycles_X10 : ∀ w ∈ u_ws RX10 TX10 15, w ∈ wsX10_recycles := by decide +kernel
set_option maxHeartbeats 4000000 in
set_option maxRecDepth 100000 in
/-- recycles -/
theorem c_X10_recycles_0 {l : Launch} {y : zY} {D : va_G} (q : Nat → Nat) (h : Nat → Nat → Int32) : zM l y D yX10_recycles wsX10_recycles 1 21 [.ref (q 0), .int (nI 0)] (zMo y q h) (zMo y q (rcG0 h)) (some (.int (reN (h 1)))) := by
  refine z_start (own := RX10) (cc := cX10_recycles) (maxL := 4) (ret := (some .int)) rfl (by decide +kernel) rfl (Nat.le_of_ble_eq_true rfl) (zMo_fst _ _ _ _) ?_
  intro E hEl hEy hED hC hf
  subst hEl hEy hED
  have hkR : 0 ≤ E.2.2.2.2.2.1.cells ∧ 0 ≤ E.2.2.2.2.2.1.slots := ⟨Nat.zero_le _, Nat.zero_le _⟩
  refine z_cast (lv := [(0, .ref (q 0)), (1, .int (nI 0))]) (ws := (zMo (zy E) q h)) (st := []) ?_ rfl rfl rfl
  refine z_aload_n hC 0 rfl dX10_recycles_0 ?_
  refine z_iconst hC (nI 0) (by decide +kernel) dX10_recycles_1 ?_
  refine z_put hC 0 8 4 (ws' := zMo (zy E) q (va_up h 0 (upd (h 0) 1 (nI 0)))) tyX10 .int rfl rfl iX10_recycles_X10 tyX10_ok nmX10 (by decide) (List.mem_of_getElem? (i := 1) (by decide +kernel)) rfl rfl (by decide +kernel) rfl rfl (Nat.le_of_ble_eq_true rfl) rfl dX10_recycles_2 ?_
  refine z_iload_n hC 1 rfl dX10_recycles_5 ?_
  refine z_if_eq hC 13 dX10_recycles_6 (by decide) (fun c_6 => ?_) (fun c_6 => ?_)
  · refine z_sipush hC (nI 9999) (by decide +kernel) dX10_recycles_13 ?_
    refine z_aload_n hC 0 rfl dX10_recycles_16 ?_
    refine z_get hC 0 8 0 (v := .ref (q 1)) rfl rfl iX10_recycles_X10 (by decide) (List.mem_of_getElem? (i := 2) (by decide +kernel)) rfl rfl dX10_recycles_17 ?_
    refine z_iconst hC (nI 0) (by decide +kernel) dX10_recycles_20 ?_
    refine z_iald hC 1 0 (f := h 1) rfl rfl rfl (by omega) (by decide) dX10_recycles_21 ?_
    refine z_isub hC dX10_recycles_22 ?_
    refine z_istore_n hC (by decide) (lv' := [(2, .int ((nI 9999) - ((h 1) 0))), (0, .ref (q 0)), (1, .int (nI 0))]) rfl dX10_recycles_23 ?_
    refine z_aload_n hC 1 rfl dX10_recycles_24 ?_
    refine z_get hC 0 8 0 (v := .ref (q 1)) rfl rfl iX10_recycles_X10 (by decide) (List.mem_of_getElem? (i := 2) (by decide +kernel)) rfl rfl dX10_recycles_25 ?_
    refine z_iconst hC (nI 5) (by decide +kernel) dX10_recycles_28 ?_
    refine z_iald hC 1 5 (f := h 1) rfl rfl rfl (by omega) (by decide) dX10_recycles_29 ?_
    refine z_iload_n hC 0 rfl dX10_recycles_30 ?_
    refine z_icmp_ge hC 43 dX10_recycles_31 (by decide) (fun c_31 => ?_) (fun c_31 => ?_)
    · have e9 : reN (h 1) = nI 9999 - h 1 0 := if_pos c_31
      refine z_iload_n hC 0 rfl dX10_recycles_43 ?_
      refine z_istore_n hC (by decide) (lv' := [(3, .int ((nI 9999) - ((h 1) 0))), (2, .int ((nI 9999) - ((h 1) 0))), (0, .ref (q 0)), (1, .int (nI 0))]) rfl dX10_recycles_44 ?_
      refine z_aload_n hC 2 rfl dX10_recycles_45 ?_
      refine z_get hC 0 8 0 (v := .ref (q 1)) rfl rfl iX10_recycles_X10 (by decide) (List.mem_of_getElem? (i := 2) (by decide +kernel)) rfl rfl dX10_recycles_46 ?_
      refine z_iconst hC (nI 5) (by decide +kernel) dX10_recycles_49 ?_
      refine z_dup2 hC dX10_recycles_50 rfl rfl ?_
      refine z_iald hC 1 5 (f := h 1) rfl rfl rfl (by omega) (by decide) dX10_recycles_51 ?_
      refine z_iload_n hC 0 rfl dX10_recycles_52 ?_
      refine z_isub hC dX10_recycles_53 ?_
      refine z_iast hC 1 5 (((h 1) 5) - ((nI 9999) - ((h 1) 0))) (ws' := zMo (zy E) q (va_up (va_up h 0 (upd (h 0) 1 (nI 0))) 1 (upd (h 1) 5 (((h 1) 5) - ((nI 9999) - ((h 1) 0)))))) rfl rfl rfl rfl (by omega) (by decide) rfl dX10_recycles_54 ?_
      refine z_aload_n hC 2 rfl dX10_recycles_55 ?_
      refine z_get hC 0 8 0 (v := .ref (q 1)) rfl rfl iX10_recycles_X10 (by decide) (List.mem_of_getElem? (i := 2) (by decide +kernel)) rfl rfl dX10_recycles_56 ?_
      refine z_iconst hC (nI 0) (by decide +kernel) dX10_recycles_59 ?_
      refine z_dup2 hC dX10_recycles_60 rfl rfl ?_
      refine z_iald hC 1 0 (f := upd (h 1) 5 (((h 1) 5) - ((nI 9999) - ((h 1) 0)))) rfl rfl rfl (by omega) (by decide) dX10_recycles_61 ?_
      refine z_iload_n hC 0 rfl dX10_recycles_62 ?_
      refine z_iadd hC dX10_recycles_63 ?_
      refine z_iast hC 1 0 (((upd (h 1) 5 (((h 1) 5) - ((nI 9999) - ((h 1) 0)))) 0) + ((nI 9999) - ((h 1) 0))) (ws' := zMo (zy E) q (va_up (va_up h 0 (upd (h 0) 1 (nI 0))) 1 (upd (upd (h 1) 5 (((h 1) 5) - ((nI 9999) - ((h 1) 0)))) 0 (((upd (h 1) 5 (((h 1) 5) - ((nI 9999) - ((h 1) 0)))) 0) + ((nI 9999) - ((h 1) 0)))))) rfl rfl rfl rfl (by omega) (by decide) rfl dX10_recycles_64 ?_
      refine z_aload_n hC 2 rfl dX10_recycles_65 ?_
      refine z_get hC 0 8 0 (v := .ref (q 1)) rfl rfl iX10_recycles_X10 (by decide) (List.mem_of_getElem? (i := 2) (by decide +kernel)) rfl rfl dX10_recycles_66 ?_
      refine z_bipush hC (nI 7) (by decide +kernel) dX10_recycles_69 ?_
      refine z_dup2 hC dX10_recycles_71 rfl rfl ?_
      refine z_iald hC 1 7 (f := upd (upd (h 1) 5 (((h 1) 5) - ((nI 9999) - ((h 1) 0)))) 0 (((upd (h 1) 5 (((h 1) 5) - ((nI 9999) - ((h 1) 0)))) 0) + ((nI 9999) - ((h 1) 0)))) rfl rfl rfl (by omega) (by decide) dX10_recycles_72 ?_
      refine z_iload_n hC 0 rfl dX10_recycles_73 ?_
      refine z_iadd hC dX10_recycles_74 ?_
      refine z_iast hC 1 7 (((upd (upd (h 1) 5 (((h 1) 5) - ((nI 9999) - ((h 1) 0)))) 0 (((upd (h 1) 5 (((h 1) 5) - ((nI 9999) - ((h 1) 0)))) 0) + ((nI 9999) - ((h 1) 0)))) 7) + ((nI 9999) - ((h 1) 0))) (ws' := zMo (zy E) q (va_up (va_up h 0 (upd (h 0) 1 (nI 0))) 1 (upd (upd (upd (h 1) 5 (((h 1) 5) - ((nI 9999) - ((h 1) 0)))) 0 (((upd (h 1) 5 (((h 1) 5) - ((nI 9999) - ((h 1) 0)))) 0) + ((nI 9999) - ((h 1) 0)))) 7 (((upd (upd (h 1) 5 (((h 1) 5) - ((nI 9999) - ((h 1) 0)))) 0 (((upd (h 1) 5 (((h 1) 5) - ((nI 9999) - ((h 1) 0)))) 0) + ((nI 9999) - ((h 1) 0)))) 7) + ((nI 9999) - ((h 1) 0)))))) rfl rfl rfl rfl (by omega) (by decide) rfl dX10_recycles_75 ?_
      refine z_iload_n hC 0 rfl dX10_recycles_76 ?_
      exact z_iret hC hf rfl (by rw [e9]) (by unfold rcG0 reF; rw [e9]) dX10_recycles_77
    · have e9 : reN (h 1) = h 1 5 := if_neg c_31
      refine z_aload_n hC 1 rfl dX10_recycles_34 ?_
      refine z_get hC 0 8 0 (v := .ref (q 1)) rfl rfl iX10_recycles_X10 (by decide) (List.mem_of_getElem? (i := 2) (by decide +kernel)) rfl rfl dX10_recycles_35 ?_
      refine z_iconst hC (nI 5) (by decide +kernel) dX10_recycles_38 ?_
      refine z_iald hC 1 5 (f := h 1) rfl rfl rfl (by omega) (by decide) dX10_recycles_39 ?_
      refine z_goto hC 44 dX10_recycles_40 (by decide) ?_
      refine z_istore_n hC (by decide) (lv' := [(3, .int ((h 1) 5)), (2, .int ((nI 9999) - ((h 1) 0))), (0, .ref (q 0)), (1, .int (nI 0))]) rfl dX10_recycles_44 ?_
      refine z_aload_n hC 2 rfl dX10_recycles_45 ?_
      refine z_get hC 0 8 0 (v := .ref (q 1)) rfl rfl iX10_recycles_X10 (by decide) (List.mem_of_getElem? (i := 2) (by decide +kernel)) rfl rfl dX10_recycles_46 ?_
      refine z_iconst hC (nI 5) (by decide +kernel) dX10_recycles_49 ?_
      refine z_dup2 hC dX10_recycles_50 rfl rfl ?_
      refine z_iald hC 1 5 (f := h 1) rfl rfl rfl (by omega) (by decide) dX10_recycles_51 ?_
      refine z_iload_n hC 0 rfl dX10_recycles_52 ?_
      refine z_isub hC dX10_recycles_53 ?_
      refine z_iast hC 1 5 (((h 1) 5) - ((h 1) 5)) (ws' := zMo (zy E) q (va_up (va_up h 0 (upd (h 0) 1 (nI 0))) 1 (upd (h 1) 5 (((h 1) 5) - ((h 1) 5))))) rfl rfl rfl rfl (by omega) (by decide) rfl dX10_recycles_54 ?_
      refine z_aload_n hC 2 rfl dX10_recycles_55 ?_
      refine z_get hC 0 8 0 (v := .ref (q 1)) rfl rfl iX10_recycles_X10 (by decide) (List.mem_of_getElem? (i := 2) (by decide +kernel)) rfl rfl dX10_recycles_56 ?_
      refine z_iconst hC (nI 0) (by decide +kernel) dX10_recycles_59 ?_
      refine z_dup2 hC dX10_recycles_60 rfl rfl ?_
      refine z_iald hC 1 0 (f := upd (h 1) 5 (((h 1) 5) - ((h 1) 5))) rfl rfl rfl (by omega) (by decide) dX10_recycles_61 ?_
      refine z_iload_n hC 0 rfl dX10_recycles_62 ?_
      refine z_iadd hC dX10_recycles_63 ?_
      refine z_iast hC 1 0 (((upd (h 1) 5 (((h 1) 5) - ((h 1) 5))) 0) + ((h 1) 5)) (ws' := zMo (zy E) q (va_up (va_up h 0 (upd (h 0) 1 (nI 0))) 1 (upd (upd (h 1) 5 (((h 1) 5) - ((h 1) 5))) 0 (((upd (h 1) 5 (((h 1) 5) - ((h 1) 5))) 0) + ((h 1) 5))))) rfl rfl rfl rfl (by omega) (by decide) rfl dX10_recycles_64 ?_
      refine z_aload_n hC 2 rfl dX10_recycles_65 ?_
      refine z_get hC 0 8 0 (v := .ref (q 1)) rfl rfl iX10_recycles_X10 (by decide) (List.mem_of_getElem? (i := 2) (by decide +kernel)) rfl rfl dX10_recycles_66 ?_
      refine z_bipush hC (nI 7) (by decide +kernel) dX10_recycles_69 ?_
      refine z_dup2 hC dX10_recycles_71 rfl rfl ?_
      refine z_iald hC 1 7 (f := upd (upd (h 1) 5 (((h 1) 5) - ((h 1) 5))) 0 (((upd (h 1) 5 (((h 1) 5) - ((h 1) 5))) 0) + ((h 1) 5))) rfl rfl rfl (by omega) (by decide) dX10_recycles_72 ?_
      refine z_iload_n hC 0 rfl dX10_recycles_73 ?_
      refine z_iadd hC dX10_recycles_74 ?_
      refine z_iast hC 1 7 (((upd (upd (h 1) 5 (((h 1) 5) - ((h 1) 5))) 0 (((upd (h 1) 5 (((h 1) 5) - ((h 1) 5))) 0) + ((h 1) 5))) 7) + ((h 1) 5)) (ws' := zMo (zy E) q (va_up (va_up h 0 (upd (h 0) 1 (nI 0))) 1 (upd (upd (upd (h 1) 5 (((h 1) 5) - ((h 1) 5))) 0 (((upd (h 1) 5 (((h 1) 5) - ((h 1) 5))) 0) + ((h 1) 5))) 7 (((upd (upd (h 1) 5 (((h 1) 5) - ((h 1) 5))) 0 (((upd (h 1) 5 (((h 1) 5) - ((h 1) 5))) 0) + ((h 1) 5))) 7) + ((h 1) 5))))) rfl rfl rfl rfl (by omega) (by decide) rfl dX10_recycles_75 ?_
      refine z_iload_n hC 0 rfl dX10_recycles_76 ?_
      exact z_iret hC hf rfl (by rw [e9]) (by unfold rcG0 reF; rw [e9]) dX10_recycles_77
  · exact absurd c_6 (by decide +kernel)

def rcG1 (h : Nat → Nat → Int32) (m : Nat) : Nat → Nat → Int32 := va_up (svG (va_up h 0 (upd (h 0) 1 (nI 0))) m) 1 (reF (h 1))
set_option maxHeartbeats 4000000 in
set_option maxRecDepth 100000 in
/-- recycles -/
theorem c_X10_recycles_1 {l : Launch} {y : zY} {D : va_G} (q : Nat → Nat) (h : Nat → Nat → Int32) (m : Nat) (hsv : h 0 0 = nI m) (hm4 : m ≤ 4) : zM l y D yX10_recycles wsX10_recycles 1 21 [.ref (q 0), .int (nI 1)] (zMo y q h) (zMo y q (rcG1 h m)) (some (.int (reN (h 1)))) := by
  refine z_start (own := RX10) (cc := cX10_recycles) (maxL := 4) (ret := (some .int)) rfl (by decide +kernel) rfl (Nat.le_of_ble_eq_true rfl) (zMo_fst _ _ _ _) ?_
  intro E hEl hEy hED hC hf
  subst hEl hEy hED
  have hkR : 0 ≤ E.2.2.2.2.2.1.cells ∧ 0 ≤ E.2.2.2.2.2.1.slots := ⟨Nat.zero_le _, Nat.zero_le _⟩
  refine z_cast (lv := [(0, .ref (q 0)), (1, .int (nI 1))]) (ws := (zMo (zy E) q h)) (st := []) ?_ rfl rfl rfl
  refine z_aload_n hC 0 rfl dX10_recycles_0 ?_
  refine z_iconst hC (nI 0) (by decide +kernel) dX10_recycles_1 ?_
  refine z_put hC 0 8 4 (ws' := zMo (zy E) q (va_up h 0 (upd (h 0) 1 (nI 0)))) tyX10 .int rfl rfl iX10_recycles_X10 tyX10_ok nmX10 (by decide) (List.mem_of_getElem? (i := 1) (by decide +kernel)) rfl rfl (by decide +kernel) rfl rfl (Nat.le_of_ble_eq_true rfl) rfl dX10_recycles_2 ?_
  refine z_iload_n hC 1 rfl dX10_recycles_5 ?_
  refine z_if_eq hC 13 dX10_recycles_6 (by decide) (fun c_6 => ?_) (fun c_6 => ?_)
  · exact absurd c_6 (by decide +kernel)
  · refine z_aload_n hC 0 rfl dX10_recycles_9 ?_
    refine z_callV hC (As := []) (st := []) (ws2 := zMo (zy E) q (svG (va_up h 0 (upd (h 0) 1 (nI 0))) m)) (B := zMo (zy E) q (va_up h 0 (upd (h 0) 1 (nI 0)))) (B' := zMo (zy E) q (svG (va_up h 0 (upd (h 0) 1 (nI 0))) m)) (r := none) 0 (c_X10_save q (va_up h 0 (upd (h 0) 1 (nI 0))) m hsv hm4) gX10_recycles_X10_save (q0 := 0) (ci := 8) (by decide +kernel) rfl rfl rfl ⟨by decide, by decide⟩ [0, 1, 2, 3, 4, 5, 6] rfl (by decide) rfl (Nat.le_of_ble_eq_true rfl) rfl rfl dX10_recycles_10 ?_ hkR
    refine z_sipush hC (nI 9999) (by decide +kernel) dX10_recycles_13 ?_
    refine z_aload_n hC 0 rfl dX10_recycles_16 ?_
    refine z_get hC 0 8 0 (v := .ref (q 1)) rfl rfl iX10_recycles_X10 (by decide) (List.mem_of_getElem? (i := 2) (by decide +kernel)) rfl rfl dX10_recycles_17 ?_
    refine z_iconst hC (nI 0) (by decide +kernel) dX10_recycles_20 ?_
    refine z_iald hC 1 0 (f := h 1) rfl rfl rfl (by omega) (by decide) dX10_recycles_21 ?_
    refine z_isub hC dX10_recycles_22 ?_
    refine z_istore_n hC (by decide) (lv' := [(2, .int ((nI 9999) - ((h 1) 0))), (0, .ref (q 0)), (1, .int (nI 1))]) rfl dX10_recycles_23 ?_
    refine z_aload_n hC 1 rfl dX10_recycles_24 ?_
    refine z_get hC 0 8 0 (v := .ref (q 1)) rfl rfl iX10_recycles_X10 (by decide) (List.mem_of_getElem? (i := 2) (by decide +kernel)) rfl rfl dX10_recycles_25 ?_
    refine z_iconst hC (nI 5) (by decide +kernel) dX10_recycles_28 ?_
    refine z_iald hC 1 5 (f := h 1) rfl rfl rfl (by omega) (by decide) dX10_recycles_29 ?_
    refine z_iload_n hC 0 rfl dX10_recycles_30 ?_
    refine z_icmp_ge hC 43 dX10_recycles_31 (by decide) (fun c_31 => ?_) (fun c_31 => ?_)
    · have e9 : reN (h 1) = nI 9999 - h 1 0 := if_pos c_31
      refine z_iload_n hC 0 rfl dX10_recycles_43 ?_
      refine z_istore_n hC (by decide) (lv' := [(3, .int ((nI 9999) - ((h 1) 0))), (2, .int ((nI 9999) - ((h 1) 0))), (0, .ref (q 0)), (1, .int (nI 1))]) rfl dX10_recycles_44 ?_
      refine z_aload_n hC 2 rfl dX10_recycles_45 ?_
      refine z_get hC 0 8 0 (v := .ref (q 1)) rfl rfl iX10_recycles_X10 (by decide) (List.mem_of_getElem? (i := 2) (by decide +kernel)) rfl rfl dX10_recycles_46 ?_
      refine z_iconst hC (nI 5) (by decide +kernel) dX10_recycles_49 ?_
      refine z_dup2 hC dX10_recycles_50 rfl rfl ?_
      refine z_iald hC 1 5 (f := h 1) rfl rfl rfl (by omega) (by decide) dX10_recycles_51 ?_
      refine z_iload_n hC 0 rfl dX10_recycles_52 ?_
      refine z_isub hC dX10_recycles_53 ?_
      refine z_iast hC 1 5 (((h 1) 5) - ((nI 9999) - ((h 1) 0))) (ws' := zMo (zy E) q (va_up (svG (va_up h 0 (upd (h 0) 1 (nI 0))) m) 1 (upd (h 1) 5 (((h 1) 5) - ((nI 9999) - ((h 1) 0)))))) rfl rfl rfl rfl (by omega) (by decide) rfl dX10_recycles_54 ?_
      refine z_aload_n hC 2 rfl dX10_recycles_55 ?_
      refine z_get hC 0 8 0 (v := .ref (q 1)) rfl rfl iX10_recycles_X10 (by decide) (List.mem_of_getElem? (i := 2) (by decide +kernel)) rfl rfl dX10_recycles_56 ?_
      refine z_iconst hC (nI 0) (by decide +kernel) dX10_recycles_59 ?_
      refine z_dup2 hC dX10_recycles_60 rfl rfl ?_
      refine z_iald hC 1 0 (f := upd (h 1) 5 (((h 1) 5) - ((nI 9999) - ((h 1) 0)))) rfl rfl rfl (by omega) (by decide) dX10_recycles_61 ?_
      refine z_iload_n hC 0 rfl dX10_recycles_62 ?_
      refine z_iadd hC dX10_recycles_63 ?_
      refine z_iast hC 1 0 (((upd (h 1) 5 (((h 1) 5) - ((nI 9999) - ((h 1) 0)))) 0) + ((nI 9999) - ((h 1) 0))) (ws' := zMo (zy E) q (va_up (svG (va_up h 0 (upd (h 0) 1 (nI 0))) m) 1 (upd (upd (h 1) 5 (((h 1) 5) - ((nI 9999) - ((h 1) 0)))) 0 (((upd (h 1) 5 (((h 1) 5) - ((nI 9999) - ((h 1) 0)))) 0) + ((nI 9999) - ((h 1) 0)))))) rfl rfl rfl rfl (by omega) (by decide) rfl dX10_recycles_64 ?_
      refine z_aload_n hC 2 rfl dX10_recycles_65 ?_
      refine z_get hC 0 8 0 (v := .ref (q 1)) rfl rfl iX10_recycles_X10 (by decide) (List.mem_of_getElem? (i := 2) (by decide +kernel)) rfl rfl dX10_recycles_66 ?_
      refine z_bipush hC (nI 7) (by decide +kernel) dX10_recycles_69 ?_
      refine z_dup2 hC dX10_recycles_71 rfl rfl ?_
      refine z_iald hC 1 7 (f := upd (upd (h 1) 5 (((h 1) 5) - ((nI 9999) - ((h 1) 0)))) 0 (((upd (h 1) 5 (((h 1) 5) - ((nI 9999) - ((h 1) 0)))) 0) + ((nI 9999) - ((h 1) 0)))) rfl rfl rfl (by omega) (by decide) dX10_recycles_72 ?_
      refine z_iload_n hC 0 rfl dX10_recycles_73 ?_
      refine z_iadd hC dX10_recycles_74 ?_
      refine z_iast hC 1 7 (((upd (upd (h 1) 5 (((h 1) 5) - ((nI 9999) - ((h 1) 0)))) 0 (((upd (h 1) 5 (((h 1) 5) - ((nI 9999) - ((h 1) 0)))) 0) + ((nI 9999) - ((h 1) 0)))) 7) + ((nI 9999) - ((h 1) 0))) (ws' := zMo (zy E) q (va_up (svG (va_up h 0 (upd (h 0) 1 (nI 0))) m) 1 (upd (upd (upd (h 1) 5 (((h 1) 5) - ((nI 9999) - ((h 1) 0)))) 0 (((upd (h 1) 5 (((h 1) 5) - ((nI 9999) - ((h 1) 0)))) 0) + ((nI 9999) - ((h 1) 0)))) 7 (((upd (upd (h 1) 5 (((h 1) 5) - ((nI 9999) - ((h 1) 0)))) 0 (((upd (h 1) 5 (((h 1) 5) - ((nI 9999) - ((h 1) 0)))) 0) + ((nI 9999) - ((h 1) 0)))) 7) + ((nI 9999) - ((h 1) 0)))))) rfl rfl rfl rfl (by omega) (by decide) rfl dX10_recycles_75 ?_
      refine z_iload_n hC 0 rfl dX10_recycles_76 ?_
      exact z_iret hC hf rfl (by rw [e9]) (by unfold rcG1 reF; rw [e9]) dX10_recycles_77
    · have e9 : reN (h 1) = h 1 5 := if_neg c_31
      refine z_aload_n hC 1 rfl dX10_recycles_34 ?_
      refine z_get hC 0 8 0 (v := .ref (q 1)) rfl rfl iX10_recycles_X10 (by decide) (List.mem_of_getElem? (i := 2) (by decide +kernel)) rfl rfl dX10_recycles_35 ?_
      refine z_iconst hC (nI 5) (by decide +kernel) dX10_recycles_38 ?_
      refine z_iald hC 1 5 (f := h 1) rfl rfl rfl (by omega) (by decide) dX10_recycles_39 ?_
      refine z_goto hC 44 dX10_recycles_40 (by decide) ?_
      refine z_istore_n hC (by decide) (lv' := [(3, .int ((h 1) 5)), (2, .int ((nI 9999) - ((h 1) 0))), (0, .ref (q 0)), (1, .int (nI 1))]) rfl dX10_recycles_44 ?_
      refine z_aload_n hC 2 rfl dX10_recycles_45 ?_
      refine z_get hC 0 8 0 (v := .ref (q 1)) rfl rfl iX10_recycles_X10 (by decide) (List.mem_of_getElem? (i := 2) (by decide +kernel)) rfl rfl dX10_recycles_46 ?_
      refine z_iconst hC (nI 5) (by decide +kernel) dX10_recycles_49 ?_
      refine z_dup2 hC dX10_recycles_50 rfl rfl ?_
      refine z_iald hC 1 5 (f := h 1) rfl rfl rfl (by omega) (by decide) dX10_recycles_51 ?_
      refine z_iload_n hC 0 rfl dX10_recycles_52 ?_
      refine z_isub hC dX10_recycles_53 ?_
      refine z_iast hC 1 5 (((h 1) 5) - ((h 1) 5)) (ws' := zMo (zy E) q (va_up (svG (va_up h 0 (upd (h 0) 1 (nI 0))) m) 1 (upd (h 1) 5 (((h 1) 5) - ((h 1) 5))))) rfl rfl rfl rfl (by omega) (by decide) rfl dX10_recycles_54 ?_
      refine z_aload_n hC 2 rfl dX10_recycles_55 ?_
      refine z_get hC 0 8 0 (v := .ref (q 1)) rfl rfl iX10_recycles_X10 (by decide) (List.mem_of_getElem? (i := 2) (by decide +kernel)) rfl rfl dX10_recycles_56 ?_
      refine z_iconst hC (nI 0) (by decide +kernel) dX10_recycles_59 ?_
      refine z_dup2 hC dX10_recycles_60 rfl rfl ?_
      refine z_iald hC 1 0 (f := upd (h 1) 5 (((h 1) 5) - ((h 1) 5))) rfl rfl rfl (by omega) (by decide) dX10_recycles_61 ?_
      refine z_iload_n hC 0 rfl dX10_recycles_62 ?_
      refine z_iadd hC dX10_recycles_63 ?_
      refine z_iast hC 1 0 (((upd (h 1) 5 (((h 1) 5) - ((h 1) 5))) 0) + ((h 1) 5)) (ws' := zMo (zy E) q (va_up (svG (va_up h 0 (upd (h 0) 1 (nI 0))) m) 1 (upd (upd (h 1) 5 (((h 1) 5) - ((h 1) 5))) 0 (((upd (h 1) 5 (((h 1) 5) - ((h 1) 5))) 0) + ((h 1) 5))))) rfl rfl rfl rfl (by omega) (by decide) rfl dX10_recycles_64 ?_
      refine z_aload_n hC 2 rfl dX10_recycles_65 ?_
      refine z_get hC 0 8 0 (v := .ref (q 1)) rfl rfl iX10_recycles_X10 (by decide) (List.mem_of_getElem? (i := 2) (by decide +kernel)) rfl rfl dX10_recycles_66 ?_
      refine z_bipush hC (nI 7) (by decide +kernel) dX10_recycles_69 ?_
      refine z_dup2 hC dX10_recycles_71 rfl rfl ?_
      refine z_iald hC 1 7 (f := upd (upd (h 1) 5 (((h 1) 5) - ((h 1) 5))) 0 (((upd (h 1) 5 (((h 1) 5) - ((h 1) 5))) 0) + ((h 1) 5))) rfl rfl rfl (by omega) (by decide) dX10_recycles_72 ?_
      refine z_iload_n hC 0 rfl dX10_recycles_73 ?_
      refine z_iadd hC dX10_recycles_74 ?_
      refine z_iast hC 1 7 (((upd (upd (h 1) 5 (((h 1) 5) - ((h 1) 5))) 0 (((upd (h 1) 5 (((h 1) 5) - ((h 1) 5))) 0) + ((h 1) 5))) 7) + ((h 1) 5)) (ws' := zMo (zy E) q (va_up (svG (va_up h 0 (upd (h 0) 1 (nI 0))) m) 1 (upd (upd (upd (h 1) 5 (((h 1) 5) - ((h 1) 5))) 0 (((upd (h 1) 5 (((h 1) 5) - ((h 1) 5))) 0) + ((h 1) 5))) 7 (((upd (upd (h 1) 5 (((h 1) 5) - ((h 1) 5))) 0 (((upd (h 1) 5 (((h 1) 5) - ((h 1) 5))) 0) + ((h 1) 5))) 7) + ((h 1) 5))))) rfl rfl rfl rfl (by omega) (by decide) rfl dX10_recycles_75 ?_
      refine z_iload_n hC 0 rfl dX10_recycles_76 ?_
      exact z_iret hC hf rfl (by rw [e9]) (by unfold rcG1 reF; rw [e9]) dX10_recycles_77

theorem iX10_hour_X10 : ∀ w ∈ u_ws RX10 TX10 15, w ∈ wsX10_hour := by decide +kernel
set_option maxHeartbeats 4000000 in
set_option maxRecDepth 100000 in
/-- hour -/
theorem c_X10_hour_0 {l : Launch} {y : zY} {D : va_G} (q : Nat → Nat) (h : Nat → Nat → Int32) (m : Nat) (hsv : h 0 0 = nI m) (hm4 : m ≤ 4) (hM : okM (h 1)) (hT : okTm (h 1)) : zM l y D yX10_hour wsX10_hour 5 114 [.ref (q 0), .int (nI 0)] (zMo y q h) (zMo y q (va_up (svG (va_up h 0 (upd (h 0) 1 (nI 0))) m) 1 (paF0 (h 1)))) (some (.int (psA (h 1) 48))) := by
  refine z_start (own := RX10) (cc := cX10_hour) (maxL := 2) (ret := (some .int)) rfl (by decide +kernel) rfl (Nat.le_of_ble_eq_true rfl) (zMo_fst _ _ _ _) ?_
  intro E hEl hEy hED hC hf
  subst hEl hEy hED
  have hkR : 0 ≤ E.2.2.2.2.2.1.cells ∧ 0 ≤ E.2.2.2.2.2.1.slots := ⟨Nat.zero_le _, Nat.zero_le _⟩
  refine z_cast (lv := [(0, .ref (q 0)), (1, .int (nI 0))]) (ws := (zMo (zy E) q h)) (st := []) ?_ rfl rfl rfl
  refine z_aload_n hC 0 rfl dX10_hour_0 ?_
  refine z_iconst hC (nI 0) (by decide +kernel) dX10_hour_1 ?_
  refine z_put hC 0 8 4 (ws' := zMo (zy E) q (va_up h 0 (upd (h 0) 1 (nI 0)))) tyX10 .int rfl rfl iX10_hour_X10 tyX10_ok nmX10 (by decide) (List.mem_of_getElem? (i := 1) (by decide +kernel)) rfl rfl (by decide +kernel) rfl rfl (Nat.le_of_ble_eq_true rfl) rfl dX10_hour_2 ?_
  refine z_aload_n hC 0 rfl dX10_hour_5 ?_
  refine z_callV hC (As := []) (st := []) (ws2 := zMo (zy E) q (svG (va_up h 0 (upd (h 0) 1 (nI 0))) m)) (B := zMo (zy E) q (va_up h 0 (upd (h 0) 1 (nI 0)))) (B' := zMo (zy E) q (svG (va_up h 0 (upd (h 0) 1 (nI 0))) m)) (r := none) 0 (c_X10_save q (va_up h 0 (upd (h 0) 1 (nI 0))) m hsv hm4) gX10_hour_X10_save (q0 := 0) (ci := 8) (by decide +kernel) rfl rfl rfl ⟨by decide, by decide⟩ [0, 1, 2, 3, 4, 5, 6] rfl (by decide) rfl (Nat.le_of_ble_eq_true rfl) rfl rfl dX10_hour_6 ?_ hkR
  refine z_aload_n hC 0 rfl dX10_hour_9 ?_
  refine z_iload_n hC 1 rfl dX10_hour_10 ?_
  refine z_callV hC (As := [.int (nI 0)]) (st := []) (ws2 := zMo (zy E) q (va_up (svG (va_up h 0 (upd (h 0) 1 (nI 0))) m) 1 (paF0 ((svG (va_up h 0 (upd (h 0) 1 (nI 0))) m) 1)))) (B := zMo (zy E) q (svG (va_up h 0 (upd (h 0) 1 (nI 0))) m)) (B' := zMo (zy E) q (va_up (svG (va_up h 0 (upd (h 0) 1 (nI 0))) m) 1 (paF0 ((svG (va_up h 0 (upd (h 0) 1 (nI 0))) m) 1)))) (r := some (.int (psA ((svG (va_up h 0 (upd (h 0) 1 (nI 0))) m) 1) 48))) 1 (c_X10_pass_0 q (svG (va_up h 0 (upd (h 0) 1 (nI 0))) m) hM hT) gX10_hour_X10_pass (q0 := 0) (ci := 8) (by decide +kernel) rfl rfl rfl ⟨by decide, by decide⟩ [0, 1, 2, 3, 4, 5, 6] rfl (by decide) rfl (Nat.le_of_ble_eq_true rfl) rfl rfl dX10_hour_11 ?_ hkR
  exact z_iret hC hf rfl rfl rfl dX10_hour_14

set_option maxHeartbeats 4000000 in
set_option maxRecDepth 100000 in
/-- hour -/
theorem c_X10_hour_1 {l : Launch} {y : zY} {D : va_G} (q : Nat → Nat) (h : Nat → Nat → Int32) (m : Nat) (hsv : h 0 0 = nI m) (hm4 : m ≤ 4) (hM : okM (h 1)) (hT : okTm (h 1)) : zM l y D yX10_hour wsX10_hour 5 114 [.ref (q 0), .int (nI 1)] (zMo y q h) (zMo y q (va_up (svG (va_up h 0 (upd (h 0) 1 (nI 0))) m) 1 (paF1 (h 1)))) (some (.int (nI 0))) := by
  refine z_start (own := RX10) (cc := cX10_hour) (maxL := 2) (ret := (some .int)) rfl (by decide +kernel) rfl (Nat.le_of_ble_eq_true rfl) (zMo_fst _ _ _ _) ?_
  intro E hEl hEy hED hC hf
  subst hEl hEy hED
  have hkR : 0 ≤ E.2.2.2.2.2.1.cells ∧ 0 ≤ E.2.2.2.2.2.1.slots := ⟨Nat.zero_le _, Nat.zero_le _⟩
  refine z_cast (lv := [(0, .ref (q 0)), (1, .int (nI 1))]) (ws := (zMo (zy E) q h)) (st := []) ?_ rfl rfl rfl
  refine z_aload_n hC 0 rfl dX10_hour_0 ?_
  refine z_iconst hC (nI 0) (by decide +kernel) dX10_hour_1 ?_
  refine z_put hC 0 8 4 (ws' := zMo (zy E) q (va_up h 0 (upd (h 0) 1 (nI 0)))) tyX10 .int rfl rfl iX10_hour_X10 tyX10_ok nmX10 (by decide) (List.mem_of_getElem? (i := 1) (by decide +kernel)) rfl rfl (by decide +kernel) rfl rfl (Nat.le_of_ble_eq_true rfl) rfl dX10_hour_2 ?_
  refine z_aload_n hC 0 rfl dX10_hour_5 ?_
  refine z_callV hC (As := []) (st := []) (ws2 := zMo (zy E) q (svG (va_up h 0 (upd (h 0) 1 (nI 0))) m)) (B := zMo (zy E) q (va_up h 0 (upd (h 0) 1 (nI 0)))) (B' := zMo (zy E) q (svG (va_up h 0 (upd (h 0) 1 (nI 0))) m)) (r := none) 0 (c_X10_save q (va_up h 0 (upd (h 0) 1 (nI 0))) m hsv hm4) gX10_hour_X10_save (q0 := 0) (ci := 8) (by decide +kernel) rfl rfl rfl ⟨by decide, by decide⟩ [0, 1, 2, 3, 4, 5, 6] rfl (by decide) rfl (Nat.le_of_ble_eq_true rfl) rfl rfl dX10_hour_6 ?_ hkR
  refine z_aload_n hC 0 rfl dX10_hour_9 ?_
  refine z_iload_n hC 1 rfl dX10_hour_10 ?_
  refine z_callV hC (As := [.int (nI 1)]) (st := []) (ws2 := zMo (zy E) q (va_up (svG (va_up h 0 (upd (h 0) 1 (nI 0))) m) 1 (paF1 ((svG (va_up h 0 (upd (h 0) 1 (nI 0))) m) 1)))) (B := zMo (zy E) q (svG (va_up h 0 (upd (h 0) 1 (nI 0))) m)) (B' := zMo (zy E) q (va_up (svG (va_up h 0 (upd (h 0) 1 (nI 0))) m) 1 (paF1 ((svG (va_up h 0 (upd (h 0) 1 (nI 0))) m) 1)))) (r := some (.int (nI 0))) 1 (c_X10_pass_1 q (svG (va_up h 0 (upd (h 0) 1 (nI 0))) m) hM hT) gX10_hour_X10_pass (q0 := 0) (ci := 8) (by decide +kernel) rfl rfl rfl ⟨by decide, by decide⟩ [0, 1, 2, 3, 4, 5, 6] rfl (by decide) rfl (Nat.le_of_ble_eq_true rfl) rfl rfl dX10_hour_11 ?_ hkR
  exact z_iret hC hf rfl rfl rfl dX10_hour_14

theorem iX10_clearBallots_X10 : ∀ w ∈ u_ws RX10 TX10 15, w ∈ wsX10_clearBallots := by decide +kernel
set_option maxHeartbeats 4000000 in
set_option maxRecDepth 100000 in
/-- clearBallots -/
theorem c_X10_clearBallots {l : Launch} {y : zY} {D : va_G} (q : Nat → Nat) (h : Nat → Nat → Int32) (m : Nat) (hsv : h 0 0 = nI m) (hm4 : m ≤ 4) : zM l y D yX10_clearBallots wsX10_clearBallots 1 21 [.ref (q 0)] (zMo y q h) (zMo y q (va_up (svG (va_up h 0 (upd (h 0) 1 (nI 0))) m) 1 (upd (h 1) 11 (nI 0)))) (some (.int (h 1 11))) := by
  refine z_start (own := RX10) (cc := cX10_clearBallots) (maxL := 2) (ret := (some .int)) rfl (by decide +kernel) rfl (Nat.le_of_ble_eq_true rfl) (zMo_fst _ _ _ _) ?_
  intro E hEl hEy hED hC hf
  subst hEl hEy hED
  have hkR : 0 ≤ E.2.2.2.2.2.1.cells ∧ 0 ≤ E.2.2.2.2.2.1.slots := ⟨Nat.zero_le _, Nat.zero_le _⟩
  refine z_cast (lv := [(0, .ref (q 0))]) (ws := (zMo (zy E) q h)) (st := []) ?_ rfl rfl rfl
  refine z_aload_n hC 0 rfl dX10_clearBallots_0 ?_
  refine z_iconst hC (nI 0) (by decide +kernel) dX10_clearBallots_1 ?_
  refine z_put hC 0 8 4 (ws' := zMo (zy E) q (va_up h 0 (upd (h 0) 1 (nI 0)))) tyX10 .int rfl rfl iX10_clearBallots_X10 tyX10_ok nmX10 (by decide) (List.mem_of_getElem? (i := 1) (by decide +kernel)) rfl rfl (by decide +kernel) rfl rfl (Nat.le_of_ble_eq_true rfl) rfl dX10_clearBallots_2 ?_
  refine z_aload_n hC 0 rfl dX10_clearBallots_5 ?_
  refine z_callV hC (As := []) (st := []) (ws2 := zMo (zy E) q (svG (va_up h 0 (upd (h 0) 1 (nI 0))) m)) (B := zMo (zy E) q (va_up h 0 (upd (h 0) 1 (nI 0)))) (B' := zMo (zy E) q (svG (va_up h 0 (upd (h 0) 1 (nI 0))) m)) (r := none) 0 (c_X10_save q (va_up h 0 (upd (h 0) 1 (nI 0))) m hsv hm4) gX10_clearBallots_X10_save (q0 := 0) (ci := 8) (by decide +kernel) rfl rfl rfl ⟨by decide, by decide⟩ [0, 1, 2, 3, 4, 5, 6] rfl (by decide) rfl (Nat.le_of_ble_eq_true rfl) rfl rfl dX10_clearBallots_6 ?_ hkR
  refine z_aload_n hC 0 rfl dX10_clearBallots_9 ?_
  refine z_get hC 0 8 0 (v := .ref (q 1)) rfl rfl iX10_clearBallots_X10 (by decide) (List.mem_of_getElem? (i := 2) (by decide +kernel)) rfl rfl dX10_clearBallots_10 ?_
  refine z_bipush hC (nI 11) (by decide +kernel) dX10_clearBallots_13 ?_
  refine z_iald hC 1 11 (f := h 1) rfl rfl rfl (by omega) (by decide) dX10_clearBallots_15 ?_
  refine z_istore_n hC (by decide) (lv' := [(1, .int ((h 1) 11)), (0, .ref (q 0))]) rfl dX10_clearBallots_16 ?_
  refine z_aload_n hC 1 rfl dX10_clearBallots_17 ?_
  refine z_get hC 0 8 0 (v := .ref (q 1)) rfl rfl iX10_clearBallots_X10 (by decide) (List.mem_of_getElem? (i := 2) (by decide +kernel)) rfl rfl dX10_clearBallots_18 ?_
  refine z_bipush hC (nI 11) (by decide +kernel) dX10_clearBallots_21 ?_
  refine z_iconst hC (nI 0) (by decide +kernel) dX10_clearBallots_23 ?_
  refine z_iast hC 1 11 (nI 0) (ws' := zMo (zy E) q (va_up (svG (va_up h 0 (upd (h 0) 1 (nI 0))) m) 1 (upd (h 1) 11 (nI 0)))) rfl rfl rfl rfl (by omega) (by decide) rfl dX10_clearBallots_24 ?_
  refine z_iload_n hC 0 rfl dX10_clearBallots_25 ?_
  exact z_iret hC hf rfl rfl rfl dX10_clearBallots_26
