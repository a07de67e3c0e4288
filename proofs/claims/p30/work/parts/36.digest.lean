def mx (h : Int64) (v : Int32) : Int64 := 31 * h + v.toInt64
def mxN (f : Nat → Int32) (h : Int64) : Nat → Int64
  | 0 => h
  | k + 1 => mx (mxN f h k) (f k)
def msL (g : Nat → Nat → Int32) (s : Nat) (h : Int64) : Nat → Int64
  | 0 => h
  | v + 1 => mxN (fun w => bvC g s v w) (msL g s h v) 3
def msC (g : Nat → Nat → Int32) (s : Nat) (h : Int64) : Int64 := msL g s (mxN (fun w => svC g s w) h 5) (zh g s)
def msA (g : Nat → Nat → Int32) (h : Int64) : Nat → Int64
  | 0 => h
  | s + 1 => msC g s (msA g h s)
def mcL (V : Nat → Int32) (h : Int64) : Nat → Int64
  | 0 => h
  | r + 1 => mxN (fun s => V (r * 8 + s)) (mcL V h r) 8
def tkN (g c : Nat → Nat → Int32) : Nat := (tkC g c 0 0).toNatClampNeg
theorem tkN_e (g c : Nat → Nat → Int32) : tkC g c 0 0 = nI (tkN g c) ∧ tkN g c ≤ 8 := by
  obtain ⟨j, hj, e⟩ := tkC_n g c
  unfold tkN
  rw [e, nI_clamp (by omega)]
  exact ⟨rfl, hj⟩
def mcC (g c : Nat → Nat → Int32) (h : Int64) : Int64 := mx (mcL (tkC g c 2) (mx h (tkC g c 0 0)) (tkN g c)) (tkC g c 0 1)
def mtL (g : Nat → Nat → Int32) (h : Int64) : Nat → Int64
  | 0 => h
  | x + 1 => mxN (fun w => tvC g x w) (mtL g h x) 3
def dgC (g t c o n : Nat → Nat → Int32) : Int64 := mx (mcC g c (mtL g (msA g (mxN (fun w => wvC g o w) (mx 43420 (n 0 0)) 16) 8) (zt g))) (bwI g t 8).1
theorem si_8 : ∀ s, s < 8 → siC (nI s) = nI 0 := by decide +kernel
theorem wi_6 : ∀ v, v < 6 → ¬ wi (nI v) (nI 0) (nI 5) = 0 := by decide +kernel
theorem wi_3 : ∀ v, v < 3 → ¬ wi (nI v) (nI 0) (nI 2) = 0 := by decide +kernel
theorem it_lt {g : Nat → Nat → Int32} (hgt : okT g) {x : Nat} (h : x < zt g) : ¬ itC g (nI x) = 0 := by
  have h5 := hgt.2
  unfold itC
  rw [hgt.1]
  have h0 : ¬ nI x < 0 := by
    rw [show (0 : Int32) = nI 0 from rfl, nI_ltI (by omega) (by omega)]
    omega
  have h1 : ¬ nI (zt g) ≤ nI x := by
    rw [nI_leI (by omega) (by omega)]
    omega
  rw [if_neg h0, if_neg h1]
  decide +kernel
theorem iX9_mixSite_X4 : ∀ w ∈ u_ws RX4 TX4 7, w ∈ wsX9_mixSite := by decide +kernel
theorem iX9_mixSite_X5 : ∀ w ∈ u_ws RX5 TX5 10, w ∈ wsX9_mixSite := by decide +kernel
theorem iX9_mixSite_X9 : ∀ w ∈ u_ws RX9 TX9 5, w ∈ wsX9_mixSite := by decide +kernel
set_option maxHeartbeats 4000000 in
set_option maxRecDepth 100000 in
/-- X9_mixSite -/
theorem c_X9_mixSite {l : Launch} {y : zY} {D : va_G} (q : Nat → Nat) (a : Nat → Nat → Nat) (g t c o n : Nat → Nat → Int32) (S : Nat → Nat → Nat → Int32) (h0 : Int64) (s : Nat) (hs : s < 8) (hg : okH g) : zM l y D yX9_mixSite wsX9_mixSite 4 85 [.ref (q 0), .long h0, .int (nI s)] (zCW y q a g t c o n S) (zCW y q a g t c o n S) (some (.long (msC g s h0))) := by
  have hz9 := (hg s hs).2
  refine z_start (own := RX9) (cc := cX9_mixSite) (maxL := 8) (ret := (some .long)) rfl (by decide +kernel) rfl (Nat.le_of_ble_eq_true rfl) (zCW_fst _ _ _ _ _ _ _ _ _ _ _ _ _ _ _) ?_
  intro E hEl hEy hED h hf
  subst hEl hEy hED
  have hkR : 0 ≤ E.2.2.2.2.2.1.cells ∧ 0 ≤ E.2.2.2.2.2.1.slots := ⟨Nat.zero_le _, Nat.zero_le _⟩
  refine z_cast (lv := [(0, .ref (q 0)), (1, .long h0), (3, .int (nI s))]) (ws := (zCW (zy E) q a g t c o n S)) (st := []) ?_ rfl rfl rfl
  refine z_lload_n h 1 rfl dX9_mixSite_0 ?_
  refine z_lstore h (by decide) (lv' := [(4, .long h0), (0, .ref (q 0)), (1, .long h0), (3, .int (nI s))]) rfl dX9_mixSite_1 ?_
  refine z_iconst h (nI 0) (by decide +kernel) dX9_mixSite_3 ?_
  refine z_istore h (by decide) (lv' := [(6, .int (nI 0)), (4, .long h0), (0, .ref (q 0)), (1, .long h0), (3, .int (nI s))]) rfl dX9_mixSite_4 ?_
  have lp_6 : ∀ (d_6 k : Nat), 5 < k + d_6 → k ≤ 5 → Z E 0 0 [(0, .ref (q 0)), (1, .long h0), (3, .int (nI s)), (4, .long (mxN (fun w => svC g s w) h0 k)), (6, .int (nI k))] (zCW (zy E) q a g t c o n S) 6 [] := by
    intro d_6
    induction d_6 with
    | zero => intro k  q1 q2; omega
    | succ d_6 ih_6 =>
      intro k  q1_6 q2_6 
      refine z_iload h 4 rfl dX9_mixSite_6 ?_
      refine z_iconst h (nI 5) (by decide +kernel) dX9_mixSite_8 ?_
      refine z_icmp_ge h 32 dX9_mixSite_9 (by decide) (fun c_9 => ?_) (fun c_9 => ?_)
      · have k_9 : 5 ≤ k := (nI_leI (by omega) (by omega)).mp c_9
        obtain rfl : k = 5 := by omega
        refine z_iconst h (nI 0) (by decide +kernel) dX9_mixSite_32 ?_
        refine z_istore h (by decide) (lv' := [(6, .int (nI 0)), (0, .ref (q 0)), (1, .long h0), (3, .int (nI s)), (4, .long (mxN (fun w => svC g s w) h0 5))]) rfl dX9_mixSite_33 ?_
        have lp_35 : ∀ (d_35 v : Nat), (zh g s) < v + d_35 → v ≤ (zh g s) → Z E 0 0 [(0, .ref (q 0)), (1, .long h0), (3, .int (nI s)), (4, .long (msL g s (mxN (fun w => svC g s w) h0 5) v)), (6, .int (nI v))] (zCW (zy E) q a g t c o n S) 35 [] := by
          intro d_35
          induction d_35 with
          | zero => intro v  q1 q2; omega
          | succ d_35 ih_35 =>
            intro v  q1_35 q2_35 
            refine z_iload h 4 rfl dX9_mixSite_35 ?_
            refine z_aload_n h 0 rfl dX9_mixSite_37 ?_
            refine z_get h 0 7 0 (v := .ref (q 1)) rfl rfl iX9_mixSite_X9 (by decide) (List.mem_of_getElem? (i := 1) (by decide +kernel)) rfl rfl dX9_mixSite_38 ?_
            refine z_get h 1 4 7 (v := .ref (q 3)) rfl rfl iX9_mixSite_X5 (by decide) (List.mem_of_getElem? (i := 2) (by decide +kernel)) rfl rfl dX9_mixSite_41 ?_
            refine z_get h 3 3 0 (v := .ref (q 4)) rfl rfl iX9_mixSite_X4 (by decide) (List.mem_of_getElem? (i := 3) (by decide +kernel)) rfl rfl dX9_mixSite_44 ?_
            refine z_iload_n h 2 rfl dX9_mixSite_47 ?_
            refine z_iald h 4 s (f := g 2) rfl rfl rfl (by omega) (by decide) dX9_mixSite_48 ?_
            refine z_top (nI (zh g s)) (hg s hs).1 ?_
            refine z_icmp_ge h 89 dX9_mixSite_49 (by decide) (fun c_49 => ?_) (fun c_49 => ?_)
            · have k_49 : (zh g s) ≤ v := (nI_leI (by omega) (by omega)).mp c_49
              obtain rfl : v = (zh g s) := by omega
              refine z_lload h 3 rfl dX9_mixSite_89 ?_
              exact z_lret h hf rfl rfl rfl dX9_mixSite_91
            · have k_49 : ¬ ((zh g s) ≤ v) := fun q => c_49 ((nI_leI (by omega) (by omega)).mpr q)
              refine z_iconst h (nI 0) (by decide +kernel) dX9_mixSite_52 ?_
              refine z_istore h (by decide) (lv' := [(7, .int (nI 0)), (0, .ref (q 0)), (1, .long h0), (3, .int (nI s)), (4, .long (msL g s (mxN (fun w => svC g s w) h0 5) v)), (6, .int (nI v))]) rfl dX9_mixSite_53 ?_
              have lp_55 : ∀ (d_55 k : Nat), 3 < k + d_55 → k ≤ 3 → Z E 0 0 [(0, .ref (q 0)), (1, .long h0), (3, .int (nI s)), (4, .long (mxN (fun w => bvC g s v w) (msL g s (mxN (fun w => svC g s w) h0 5) v) k)), (6, .int (nI v)), (7, .int (nI k))] (zCW (zy E) q a g t c o n S) 55 [] := by
                intro d_55
                induction d_55 with
                | zero => intro k  q1 q2; omega
                | succ d_55 ih_55 =>
                  intro k  q1_55 q2_55 
                  refine z_iload h 5 rfl dX9_mixSite_55 ?_
                  refine z_iconst h (nI 3) (by decide +kernel) dX9_mixSite_57 ?_
                  refine z_icmp_ge h 83 dX9_mixSite_58 (by decide) (fun c_58 => ?_) (fun c_58 => ?_)
                  · have k_58 : 3 ≤ k := (nI_leI (by omega) (by omega)).mp c_58
                    obtain rfl : k = 3 := by omega
                    refine z_iinc h 4 (nI (v + 1)) rfl z_i1 (by decide) (lv' := [(6, .int (nI (v + 1))), (0, .ref (q 0)), (1, .long h0), (3, .int (nI s)), (4, .long (mxN (fun w => bvC g s v w) (msL g s (mxN (fun w => svC g s w) h0 5) v) 3)), (7, .int (nI 3))]) rfl dX9_mixSite_83 ?_
                    refine z_goto h 35 dX9_mixSite_86 (by decide) ?_
                    refine z_sub [1, 2, 3, 4, 0] (lv' := [(0, .ref (q 0)), (1, .long h0), (3, .int (nI s)), (4, .long (mxN (fun w => bvC g s v w) (msL g s (mxN (fun w => svC g s w) h0 5) v) 3)), (6, .int (nI (v + 1)))]) rfl ?_
                    exact z_cast (ih_35 (v + 1) (by omega) (by omega)) rfl rfl rfl
                  · have k_58 : ¬ (3 ≤ k) := fun q => c_58 ((nI_leI (by omega) (by omega)).mpr q)
                    refine z_lload h 3 rfl dX9_mixSite_61 ?_
                    refine z_aload_n h 0 rfl dX9_mixSite_63 ?_
                    refine z_iload_n h 2 rfl dX9_mixSite_64 ?_
                    refine z_iload h 4 rfl dX9_mixSite_65 ?_
                    refine z_iload h 5 rfl dX9_mixSite_67 ?_
                    refine z_wV h (As := [.int (nI s), .int (nI v), .int (nI k)]) (st := [.long (mxN (fun w => bvC g s v w) (msL g s (mxN (fun w => svC g s w) h0 5) v) k)]) (ws2 := zCW (zy E) q a g t c o n S) (r := some (.int (bvC g s v k))) 3 (c_X9_block q a g t c o n S s v k (by omega) (by omega) (si_8 _ (by omega)) (wi_6 _ (by omega)) (wi_3 _ (by omega))) gX9_mixSite_X9_block (q0 := 0) (ci := 7) (by decide +kernel) rfl rfl rfl ⟨by decide, by decide⟩ (Nat.le_of_ble_eq_true rfl) rfl rfl dX9_mixSite_69 ?_ hkR
                    refine z_wS h (As := [.long (mxN (fun w => bvC g s v w) (msL g s (mxN (fun w => svC g s w) h0 5) v) k), .int (bvC g s v k)]) (st := []) (ws2 := zCW (zy E) q a g t c o n S) (r := some (.long (mx (mxN (fun w => bvC g s v w) (msL g s (mxN (fun w => svC g s w) h0 5) v) k) (bvC g s v k)))) 2 (z_any _ (c_X9_mix (mxN (fun w => bvC g s v w) (msL g s (mxN (fun w => svC g s w) h0 5) v) k) (bvC g s v k))) gX9_mixSite_X9_mix (by decide +kernel) rfl ⟨by decide, by decide⟩ (Nat.le_of_ble_eq_true rfl) rfl rfl dX9_mixSite_72 ?_ hkR
                    refine z_lstore h (by decide) (lv' := [(4, .long (mx (mxN (fun w => bvC g s v w) (msL g s (mxN (fun w => svC g s w) h0 5) v) k) (bvC g s v k))), (0, .ref (q 0)), (1, .long h0), (3, .int (nI s)), (6, .int (nI v)), (7, .int (nI k))]) rfl dX9_mixSite_75 ?_
                    refine z_iinc h 5 (nI (k + 1)) rfl z_i1 (by decide) (lv' := [(7, .int (nI (k + 1))), (4, .long (mx (mxN (fun w => bvC g s v w) (msL g s (mxN (fun w => svC g s w) h0 5) v) k) (bvC g s v k))), (0, .ref (q 0)), (1, .long h0), (3, .int (nI s)), (6, .int (nI v))]) rfl dX9_mixSite_77 ?_
                    refine z_goto h 55 dX9_mixSite_80 (by decide) ?_
                    refine z_sub [2, 3, 4, 1, 5, 0] (lv' := [(0, .ref (q 0)), (1, .long h0), (3, .int (nI s)), (4, .long (mx (mxN (fun w => bvC g s v w) (msL g s (mxN (fun w => svC g s w) h0 5) v) k) (bvC g s v k))), (6, .int (nI v)), (7, .int (nI (k + 1)))]) rfl ?_
                    exact z_cast (ih_55 (k + 1) (by omega) (by omega)) rfl rfl rfl
              refine z_sub [1, 2, 3, 4, 5, 0] (lv' := [(0, .ref (q 0)), (1, .long h0), (3, .int (nI s)), (4, .long (msL g s (mxN (fun w => svC g s w) h0 5) v)), (6, .int (nI v)), (7, .int (nI 0))]) rfl ?_
              exact z_cast (lp_55 (3 + 1) 0 (by omega) (by omega)) rfl rfl rfl
        refine z_sub [1, 2, 3, 4, 0] (lv' := [(0, .ref (q 0)), (1, .long h0), (3, .int (nI s)), (4, .long (mxN (fun w => svC g s w) h0 5)), (6, .int (nI 0))]) rfl ?_
        exact z_cast (lp_35 ((zh g s) + 1) 0 (by omega) (by omega)) rfl rfl rfl
      · have k_9 : ¬ (5 ≤ k) := fun q => c_9 ((nI_leI (by omega) (by omega)).mpr q)
        refine z_lload h 3 rfl dX9_mixSite_12 ?_
        refine z_aload_n h 0 rfl dX9_mixSite_14 ?_
        refine z_iload_n h 2 rfl dX9_mixSite_15 ?_
        refine z_iload h 4 rfl dX9_mixSite_16 ?_
        refine z_wV h (As := [.int (nI s), .int (nI k)]) (st := [.long (mxN (fun w => svC g s w) h0 k)]) (ws2 := zCW (zy E) q a g t c o n S) (r := some (.int (svC g s k))) 2 (c_X9_site q a g t c o n S s k (by omega) (by omega) hg (si_8 _ (by omega))) gX9_mixSite_X9_site (q0 := 0) (ci := 7) (by decide +kernel) rfl rfl rfl ⟨by decide, by decide⟩ (Nat.le_of_ble_eq_true rfl) rfl rfl dX9_mixSite_18 ?_ hkR
        refine z_wS h (As := [.long (mxN (fun w => svC g s w) h0 k), .int (svC g s k)]) (st := []) (ws2 := zCW (zy E) q a g t c o n S) (r := some (.long (mx (mxN (fun w => svC g s w) h0 k) (svC g s k)))) 2 (z_any _ (c_X9_mix (mxN (fun w => svC g s w) h0 k) (svC g s k))) gX9_mixSite_X9_mix (by decide +kernel) rfl ⟨by decide, by decide⟩ (Nat.le_of_ble_eq_true rfl) rfl rfl dX9_mixSite_21 ?_ hkR
        refine z_lstore h (by decide) (lv' := [(4, .long (mx (mxN (fun w => svC g s w) h0 k) (svC g s k))), (0, .ref (q 0)), (1, .long h0), (3, .int (nI s)), (6, .int (nI k))]) rfl dX9_mixSite_24 ?_
        refine z_iinc h 4 (nI (k + 1)) rfl z_i1 (by decide) (lv' := [(6, .int (nI (k + 1))), (4, .long (mx (mxN (fun w => svC g s w) h0 k) (svC g s k))), (0, .ref (q 0)), (1, .long h0), (3, .int (nI s))]) rfl dX9_mixSite_26 ?_
        refine z_goto h 6 dX9_mixSite_29 (by decide) ?_
        refine z_sub [2, 3, 4, 1, 0] (lv' := [(0, .ref (q 0)), (1, .long h0), (3, .int (nI s)), (4, .long (mx (mxN (fun w => svC g s w) h0 k) (svC g s k))), (6, .int (nI (k + 1)))]) rfl ?_
        exact z_cast (ih_6 (k + 1) (by omega) (by omega)) rfl rfl rfl
  refine z_sub [2, 3, 4, 1, 0] (lv' := [(0, .ref (q 0)), (1, .long h0), (3, .int (nI s)), (4, .long h0), (6, .int (nI 0))]) rfl ?_
  exact z_cast (lp_6 (5 + 1) 0 (by omega) (by omega)) rfl rfl rfl

theorem iX9_mixCount_X2 : ∀ w ∈ u_ws RX2 TX2 5, w ∈ wsX9_mixCount := by decide +kernel
theorem iX9_mixCount_X5 : ∀ w ∈ u_ws RX5 TX5 10, w ∈ wsX9_mixCount := by decide +kernel
theorem iX9_mixCount_X9 : ∀ w ∈ u_ws RX9 TX9 5, w ∈ wsX9_mixCount := by decide +kernel
set_option maxHeartbeats 4000000 in
set_option maxRecDepth 100000 in
/-- X9_mixCount -/
theorem c_X9_mixCount {l : Launch} {y : zY} {D : va_G} (q : Nat → Nat) (a : Nat → Nat → Nat) (g t c o n : Nat → Nat → Int32) (S : Nat → Nat → Nat → Int32) (h0 : Int64) (hg : okH g) (hgb : okB g) : zM l y D yX9_mixCount wsX9_mixCount 5 117 [.ref (q 0), .long h0] (zCW y q a g t c o n S) (zCW y q a g t (tkC g c) o n S) (some (.long (mcC g c h0))) := by
  have hJ := tkN_e g c
  refine z_start (own := RX9) (cc := cX9_mixCount) (maxL := 7) (ret := (some .long)) rfl (by decide +kernel) rfl (Nat.le_of_ble_eq_true rfl) (zCW_fst _ _ _ _ _ _ _ _ _ _ _ _ _ _ _) ?_
  intro E hEl hEy hED h hf
  subst hEl hEy hED
  have hkR : 0 ≤ E.2.2.2.2.2.1.cells ∧ 0 ≤ E.2.2.2.2.2.1.slots := ⟨Nat.zero_le _, Nat.zero_le _⟩
  refine z_cast (lv := [(0, .ref (q 0)), (1, .long h0)]) (ws := (zCW (zy E) q a g t c o n S)) (st := []) ?_ rfl rfl rfl
  refine z_aload_n h 0 rfl dX9_mixCount_0 ?_
  refine z_get h 0 7 3 (v := .ref (q 25)) rfl rfl iX9_mixCount_X9 (by decide) (List.mem_of_getElem? (i := 1) (by decide +kernel)) rfl rfl dX9_mixCount_1 ?_
  refine z_aload_n h 0 rfl dX9_mixCount_4 ?_
  refine z_get h 0 7 0 (v := .ref (q 1)) rfl rfl iX9_mixCount_X9 (by decide) (List.mem_of_getElem? (i := 2) (by decide +kernel)) rfl rfl dX9_mixCount_5 ?_
  refine z_get h 1 4 7 (v := .ref (q 3)) rfl rfl iX9_mixCount_X5 (by decide) (List.mem_of_getElem? (i := 3) (by decide +kernel)) rfl rfl dX9_mixCount_8 ?_
  refine z_aload_n h 0 rfl dX9_mixCount_11 ?_
  refine z_get h 0 7 0 (v := .ref (q 1)) rfl rfl iX9_mixCount_X9 (by decide) (List.mem_of_getElem? (i := 2) (by decide +kernel)) rfl rfl dX9_mixCount_12 ?_
  refine z_get h 1 4 9 (v := .ref (q 15)) rfl rfl iX9_mixCount_X5 (by decide) (List.mem_of_getElem? (i := 4) (by decide +kernel)) rfl rfl dX9_mixCount_15 ?_
  refine z_wV h (As := [.ref (q 3), .ref (q 15)]) (st := []) (ws2 := zCW (zy E) q a g t (tkC g c) o n S) (r := none) 2 (l_cnt (c_X2_take (fun i => q (1 + i)) (fun i => q (25 + i)) g c hg hgb)) gX9_mixCount_X2_take (q0 := 25) (ci := 1) (by decide +kernel) rfl rfl rfl ⟨by decide, by decide⟩ (Nat.le_of_ble_eq_true rfl) rfl rfl dX9_mixCount_18 ?_ hkR
  refine z_lload_n h 1 rfl dX9_mixCount_21 ?_
  refine z_aload_n h 0 rfl dX9_mixCount_22 ?_
  refine z_get h 0 7 3 (v := .ref (q 25)) rfl rfl iX9_mixCount_X9 (by decide) (List.mem_of_getElem? (i := 1) (by decide +kernel)) rfl rfl dX9_mixCount_23 ?_
  refine z_get h 25 1 0 (v := .int ((tkC g c 0) 0)) rfl rfl iX9_mixCount_X2 (by decide) (List.mem_of_getElem? (i := 5) (by decide +kernel)) rfl rfl dX9_mixCount_26 ?_
  refine z_wS h (As := [.long h0, .int ((tkC g c 0) 0)]) (st := []) (ws2 := zCW (zy E) q a g t (tkC g c) o n S) (r := some (.long (mx h0 ((tkC g c 0) 0)))) 2 (z_any _ (c_X9_mix h0 ((tkC g c 0) 0))) gX9_mixCount_X9_mix (by decide +kernel) rfl ⟨by decide, by decide⟩ (Nat.le_of_ble_eq_true rfl) rfl rfl dX9_mixCount_29 ?_ hkR
  refine z_lstore_n h (by decide) (lv' := [(3, .long (mx h0 ((tkC g c 0) 0))), (0, .ref (q 0)), (1, .long h0)]) rfl dX9_mixCount_32 ?_
  refine z_iconst h (nI 0) (by decide +kernel) dX9_mixCount_33 ?_
  refine z_istore h (by decide) (lv' := [(5, .int (nI 0)), (3, .long (mx h0 ((tkC g c 0) 0))), (0, .ref (q 0)), (1, .long h0)]) rfl dX9_mixCount_34 ?_
  have lp_36 : ∀ (d_36 r : Nat), (tkN g c) < r + d_36 → r ≤ (tkN g c) → Z E 0 0 [(0, .ref (q 0)), (1, .long h0), (3, .long (mcL (tkC g c 2) (mx h0 (tkC g c 0 0)) r)), (5, .int (nI r))] (zCW (zy E) q a g t (tkC g c) o n S) 36 [] := by
    intro d_36
    induction d_36 with
    | zero => intro r  q1 q2; omega
    | succ d_36 ih_36 =>
      intro r  q1_36 q2_36 
      refine z_iload h 3 rfl dX9_mixCount_36 ?_
      refine z_aload_n h 0 rfl dX9_mixCount_38 ?_
      refine z_get h 0 7 3 (v := .ref (q 25)) rfl rfl iX9_mixCount_X9 (by decide) (List.mem_of_getElem? (i := 1) (by decide +kernel)) rfl rfl dX9_mixCount_39 ?_
      refine z_get h 25 1 0 (v := .int ((tkC g c 0) 0)) rfl rfl iX9_mixCount_X2 (by decide) (List.mem_of_getElem? (i := 5) (by decide +kernel)) rfl rfl dX9_mixCount_42 ?_
      refine z_top (nI (tkN g c)) hJ.1 ?_
      refine z_icmp_ge h 86 dX9_mixCount_45 (by decide) (fun c_45 => ?_) (fun c_45 => ?_)
      · have k_45 : (tkN g c) ≤ r := (nI_leI (by omega) (by omega)).mp c_45
        obtain rfl : r = (tkN g c) := by omega
        refine z_lload_n h 2 rfl dX9_mixCount_86 ?_
        refine z_aload_n h 0 rfl dX9_mixCount_87 ?_
        refine z_get h 0 7 3 (v := .ref (q 25)) rfl rfl iX9_mixCount_X9 (by decide) (List.mem_of_getElem? (i := 1) (by decide +kernel)) rfl rfl dX9_mixCount_88 ?_
        refine z_get h 25 1 1 (v := .int ((tkC g c 0) 1)) rfl rfl iX9_mixCount_X2 (by decide) (List.mem_of_getElem? (i := 6) (by decide +kernel)) rfl rfl dX9_mixCount_91 ?_
        refine z_wS h (As := [.long (mcL (tkC g c 2) (mx h0 (tkC g c 0 0)) (tkN g c)), .int ((tkC g c 0) 1)]) (st := []) (ws2 := zCW (zy E) q a g t (tkC g c) o n S) (r := some (.long (mx (mcL (tkC g c 2) (mx h0 (tkC g c 0 0)) (tkN g c)) ((tkC g c 0) 1)))) 2 (z_any _ (c_X9_mix (mcL (tkC g c 2) (mx h0 (tkC g c 0 0)) (tkN g c)) ((tkC g c 0) 1))) gX9_mixCount_X9_mix (by decide +kernel) rfl ⟨by decide, by decide⟩ (Nat.le_of_ble_eq_true rfl) rfl rfl dX9_mixCount_94 ?_ hkR
        exact z_lret h hf rfl rfl rfl dX9_mixCount_97
      · have k_45 : ¬ ((tkN g c) ≤ r) := fun q => c_45 ((nI_leI (by omega) (by omega)).mpr q)
        have hv9 : ¬ tkC g c 0 0 ≤ nI r := fun e => k_45 ((nI_leI (by omega) (by omega)).mp (by rw [← hJ.1]; exact e))
        refine z_iconst h (nI 0) (by decide +kernel) dX9_mixCount_48 ?_
        refine z_istore h (by decide) (lv' := [(6, .int (nI 0)), (0, .ref (q 0)), (1, .long h0), (3, .long (mcL (tkC g c 2) (mx h0 (tkC g c 0 0)) r)), (5, .int (nI r))]) rfl dX9_mixCount_49 ?_
        have lp_51 : ∀ (d_51 k : Nat), 8 < k + d_51 → k ≤ 8 → Z E 0 0 [(0, .ref (q 0)), (1, .long h0), (3, .long (mxN (fun s => tkC g c 2 (r * 8 + s)) (mcL (tkC g c 2) (mx h0 (tkC g c 0 0)) r) k)), (5, .int (nI r)), (6, .int (nI k))] (zCW (zy E) q a g t (tkC g c) o n S) 51 [] := by
          intro d_51
          induction d_51 with
          | zero => intro k  q1 q2; omega
          | succ d_51 ih_51 =>
            intro k  q1_51 q2_51 
            refine z_iload h 4 rfl dX9_mixCount_51 ?_
            refine z_bipush h (nI 8) (by decide +kernel) dX9_mixCount_53 ?_
            refine z_icmp_ge h 80 dX9_mixCount_55 (by decide) (fun c_55 => ?_) (fun c_55 => ?_)
            · have k_55 : 8 ≤ k := (nI_leI (by omega) (by omega)).mp c_55
              obtain rfl : k = 8 := by omega
              refine z_iinc h 3 (nI (r + 1)) rfl z_i1 (by decide) (lv' := [(5, .int (nI (r + 1))), (0, .ref (q 0)), (1, .long h0), (3, .long (mxN (fun s => tkC g c 2 (r * 8 + s)) (mcL (tkC g c 2) (mx h0 (tkC g c 0 0)) r) 8)), (6, .int (nI 8))]) rfl dX9_mixCount_80 ?_
              refine z_goto h 36 dX9_mixCount_83 (by decide) ?_
              refine z_sub [1, 2, 3, 0] (lv' := [(0, .ref (q 0)), (1, .long h0), (3, .long (mxN (fun s => tkC g c 2 (r * 8 + s)) (mcL (tkC g c 2) (mx h0 (tkC g c 0 0)) r) 8)), (5, .int (nI (r + 1)))]) rfl ?_
              exact z_cast (ih_36 (r + 1) (by omega) (by omega)) rfl rfl rfl
            · have k_55 : ¬ (8 ≤ k) := fun q => c_55 ((nI_leI (by omega) (by omega)).mpr q)
              refine z_lload_n h 2 rfl dX9_mixCount_58 ?_
              refine z_aload_n h 0 rfl dX9_mixCount_59 ?_
              refine z_get h 0 7 3 (v := .ref (q 25)) rfl rfl iX9_mixCount_X9 (by decide) (List.mem_of_getElem? (i := 1) (by decide +kernel)) rfl rfl dX9_mixCount_60 ?_
              refine z_iload h 3 rfl dX9_mixCount_63 ?_
              refine z_iload h 4 rfl dX9_mixCount_65 ?_
              refine z_wV h (As := [.int (nI r), .int (nI k)]) (st := [.long (mxN (fun s => tkC g c 2 (r * 8 + s)) (mcL (tkC g c 2) (mx h0 (tkC g c 0 0)) r) k)]) (ws2 := zCW (zy E) q a g t (tkC g c) o n S) (r := some (.int ((tkC g c) 2 (r * 8 + k)))) 2 (l_cno (c_X2_votesIn_1 (fun i => q (25 + i)) (tkC g c) r k (by omega) (by omega) hv9)) gX9_mixCount_X2_votesIn (q0 := 25) (ci := 1) (by decide +kernel) rfl rfl rfl ⟨by decide, by decide⟩ (Nat.le_of_ble_eq_true rfl) rfl rfl dX9_mixCount_67 ?_ hkR
              refine z_wS h (As := [.long (mxN (fun s => tkC g c 2 (r * 8 + s)) (mcL (tkC g c 2) (mx h0 (tkC g c 0 0)) r) k), .int ((tkC g c) 2 (r * 8 + k))]) (st := []) (ws2 := zCW (zy E) q a g t (tkC g c) o n S) (r := some (.long (mx (mxN (fun s => tkC g c 2 (r * 8 + s)) (mcL (tkC g c 2) (mx h0 (tkC g c 0 0)) r) k) ((tkC g c) 2 (r * 8 + k))))) 2 (z_any _ (c_X9_mix (mxN (fun s => tkC g c 2 (r * 8 + s)) (mcL (tkC g c 2) (mx h0 (tkC g c 0 0)) r) k) ((tkC g c) 2 (r * 8 + k)))) gX9_mixCount_X9_mix (by decide +kernel) rfl ⟨by decide, by decide⟩ (Nat.le_of_ble_eq_true rfl) rfl rfl dX9_mixCount_70 ?_ hkR
              refine z_lstore_n h (by decide) (lv' := [(3, .long (mx (mxN (fun s => tkC g c 2 (r * 8 + s)) (mcL (tkC g c 2) (mx h0 (tkC g c 0 0)) r) k) ((tkC g c) 2 (r * 8 + k)))), (0, .ref (q 0)), (1, .long h0), (5, .int (nI r)), (6, .int (nI k))]) rfl dX9_mixCount_73 ?_
              refine z_iinc h 4 (nI (k + 1)) rfl z_i1 (by decide) (lv' := [(6, .int (nI (k + 1))), (3, .long (mx (mxN (fun s => tkC g c 2 (r * 8 + s)) (mcL (tkC g c 2) (mx h0 (tkC g c 0 0)) r) k) ((tkC g c) 2 (r * 8 + k)))), (0, .ref (q 0)), (1, .long h0), (5, .int (nI r))]) rfl dX9_mixCount_74 ?_
              refine z_goto h 51 dX9_mixCount_77 (by decide) ?_
              refine z_sub [2, 3, 1, 4, 0] (lv' := [(0, .ref (q 0)), (1, .long h0), (3, .long (mx (mxN (fun s => tkC g c 2 (r * 8 + s)) (mcL (tkC g c 2) (mx h0 (tkC g c 0 0)) r) k) ((tkC g c) 2 (r * 8 + k)))), (5, .int (nI r)), (6, .int (nI (k + 1)))]) rfl ?_
              exact z_cast (ih_51 (k + 1) (by omega) (by omega)) rfl rfl rfl
        refine z_sub [1, 2, 3, 4, 0] (lv' := [(0, .ref (q 0)), (1, .long h0), (3, .long (mcL (tkC g c 2) (mx h0 (tkC g c 0 0)) r)), (5, .int (nI r)), (6, .int (nI 0))]) rfl ?_
        exact z_cast (lp_51 (8 + 1) 0 (by omega) (by omega)) rfl rfl rfl
  refine z_sub [2, 3, 1, 0] (lv' := [(0, .ref (q 0)), (1, .long h0), (3, .long (mx h0 ((tkC g c 0) 0))), (5, .int (nI 0))]) rfl ?_
  exact z_cast (lp_36 ((tkN g c) + 1) 0 (by omega) (by omega)) rfl rfl rfl

theorem iX9_digest_X5 : ∀ w ∈ u_ws RX5 TX5 10, w ∈ wsX9_digest := by decide +kernel
theorem iX9_digest_X6 : ∀ w ∈ u_ws RX6 TX6 4, w ∈ wsX9_digest := by decide +kernel
theorem iX9_digest_X7 : ∀ w ∈ u_ws RX7 TX7 3, w ∈ wsX9_digest := by decide +kernel
theorem iX9_digest_X9 : ∀ w ∈ u_ws RX9 TX9 5, w ∈ wsX9_digest := by decide +kernel
set_option maxHeartbeats 4000000 in
set_option maxRecDepth 100000 in
/-- X9_digest -/
theorem c_X9_digest {l : Launch} {y : zY} {D : va_G} (q : Nat → Nat) (a : Nat → Nat → Nat) (g t c o n : Nat → Nat → Int32) (S : Nat → Nat → Nat → Int32) (hg : okH g) (hgt : okT g) (hgb : okB g) : zM l y D yX9_digest wsX9_digest 6 147 [.ref (q 0)] (zCW y q a g t c o n S) (zCW y q a g (bwI g t 8).2.2 (tkC g c) o n S) (some (.long (dgC g t c o n))) := by
  have hz9 := hgt.2
  refine z_start (own := RX9) (cc := cX9_digest) (maxL := 5) (ret := (some .long)) rfl (by decide +kernel) rfl (Nat.le_of_ble_eq_true rfl) (zCW_fst _ _ _ _ _ _ _ _ _ _ _ _ _ _ _) ?_
  intro E hEl hEy hED h hf
  subst hEl hEy hED
  have hkR : 0 ≤ E.2.2.2.2.2.1.cells ∧ 0 ≤ E.2.2.2.2.2.1.slots := ⟨Nat.zero_le _, Nat.zero_le _⟩
  refine z_cast (lv := [(0, .ref (q 0))]) (ws := (zCW (zy E) q a g t c o n S)) (st := []) ?_ rfl rfl rfl
  refine z_ldc2 h (43420) (List.mem_of_getElem? (i := 1) (by decide +kernel)) dX9_digest_0 ?_
  refine z_aload_n h 0 rfl dX9_digest_3 ?_
  refine z_get h 0 7 1 (v := .ref (q 31)) rfl rfl iX9_digest_X9 (by decide) (List.mem_of_getElem? (i := 2) (by decide +kernel)) rfl rfl dX9_digest_4 ?_
  refine z_get h 31 6 0 (v := .int ((n 0) 0)) rfl rfl iX9_digest_X7 (by decide) (List.mem_of_getElem? (i := 3) (by decide +kernel)) rfl rfl dX9_digest_7 ?_
  refine z_wS h (As := [.long 43420, .int ((n 0) 0)]) (st := []) (ws2 := zCW (zy E) q a g t c o n S) (r := some (.long (mx 43420 ((n 0) 0)))) 2 (z_any _ (c_X9_mix 43420 ((n 0) 0))) gX9_digest_X9_mix (by decide +kernel) rfl ⟨by decide, by decide⟩ (Nat.le_of_ble_eq_true rfl) rfl rfl dX9_digest_10 ?_ hkR
  refine z_lstore_n h (by decide) (lv' := [(1, .long (mx 43420 ((n 0) 0))), (0, .ref (q 0))]) rfl dX9_digest_13 ?_
  refine z_iconst h (nI 0) (by decide +kernel) dX9_digest_14 ?_
  refine z_istore_n h (by decide) (lv' := [(3, .int (nI 0)), (1, .long (mx 43420 ((n 0) 0))), (0, .ref (q 0))]) rfl dX9_digest_15 ?_
  have lp_16 : ∀ (d_16 k : Nat), 16 < k + d_16 → k ≤ 16 → Z E 0 0 [(0, .ref (q 0)), (1, .long (mxN (fun w => wvC g o w) (mx 43420 (n 0 0)) k)), (3, .int (nI k))] (zCW (zy E) q a g t c o n S) 16 [] := by
    intro d_16
    induction d_16 with
    | zero => intro k  q1 q2; omega
    | succ d_16 ih_16 =>
      intro k  q1_16 q2_16 
      refine z_iload_n h 2 rfl dX9_digest_16 ?_
      refine z_bipush h (nI 16) (by decide +kernel) dX9_digest_17 ?_
      refine z_icmp_ge h 38 dX9_digest_19 (by decide) (fun c_19 => ?_) (fun c_19 => ?_)
      · have k_19 : 16 ≤ k := (nI_leI (by omega) (by omega)).mp c_19
        obtain rfl : k = 16 := by omega
        refine z_iconst h (nI 0) (by decide +kernel) dX9_digest_38 ?_
        refine z_istore_n h (by decide) (lv' := [(3, .int (nI 0)), (0, .ref (q 0)), (1, .long (mxN (fun w => wvC g o w) (mx 43420 (n 0 0)) 16))]) rfl dX9_digest_39 ?_
        have lp_40 : ∀ (d_40 s : Nat), 8 < s + d_40 → s ≤ 8 → Z E 0 0 [(0, .ref (q 0)), (1, .long (msA g (mxN (fun w => wvC g o w) (mx 43420 (n 0 0)) 16) s)), (3, .int (nI s))] (zCW (zy E) q a g t c o n S) 40 [] := by
          intro d_40
          induction d_40 with
          | zero => intro s  q1 q2; omega
          | succ d_40 ih_40 =>
            intro s  q1_40 q2_40 
            refine z_iload_n h 2 rfl dX9_digest_40 ?_
            refine z_bipush h (nI 8) (by decide +kernel) dX9_digest_41 ?_
            refine z_icmp_ge h 59 dX9_digest_43 (by decide) (fun c_43 => ?_) (fun c_43 => ?_)
            · have k_43 : 8 ≤ s := (nI_leI (by omega) (by omega)).mp c_43
              obtain rfl : s = 8 := by omega
              refine z_iconst h (nI 0) (by decide +kernel) dX9_digest_59 ?_
              refine z_istore_n h (by decide) (lv' := [(3, .int (nI 0)), (0, .ref (q 0)), (1, .long (msA g (mxN (fun w => wvC g o w) (mx 43420 (n 0 0)) 16) 8))]) rfl dX9_digest_60 ?_
              have lp_61 : ∀ (d_61 x : Nat), (zt g) < x + d_61 → x ≤ (zt g) → Z E 0 0 [(0, .ref (q 0)), (1, .long (mtL g (msA g (mxN (fun w => wvC g o w) (mx 43420 (n 0 0)) 16) 8) x)), (3, .int (nI x))] (zCW (zy E) q a g t c o n S) 61 [] := by
                intro d_61
                induction d_61 with
                | zero => intro x  q1 q2; omega
                | succ d_61 ih_61 =>
                  intro x  q1_61 q2_61 
                  refine z_iload_n h 2 rfl dX9_digest_61 ?_
                  refine z_aload_n h 0 rfl dX9_digest_62 ?_
                  refine z_get h 0 7 0 (v := .ref (q 1)) rfl rfl iX9_digest_X9 (by decide) (List.mem_of_getElem? (i := 4) (by decide +kernel)) rfl rfl dX9_digest_63 ?_
                  refine z_get h 1 4 8 (v := .ref (q 11)) rfl rfl iX9_digest_X5 (by decide) (List.mem_of_getElem? (i := 5) (by decide +kernel)) rfl rfl dX9_digest_66 ?_
                  refine z_get h 11 5 0 (v := .int ((g 0) 6)) rfl rfl iX9_digest_X6 (by decide) (List.mem_of_getElem? (i := 6) (by decide +kernel)) rfl rfl dX9_digest_69 ?_
                  refine z_top (nI (zt g)) hgt.1 ?_
                  refine z_icmp_ge h 108 dX9_digest_72 (by decide) (fun c_72 => ?_) (fun c_72 => ?_)
                  · have k_72 : (zt g) ≤ x := (nI_leI (by omega) (by omega)).mp c_72
                    obtain rfl : x = (zt g) := by omega
                    refine z_aload_n h 0 rfl dX9_digest_108 ?_
                    refine z_lload_n h 1 rfl dX9_digest_109 ?_
                    refine z_wV h (As := [.long (mtL g (msA g (mxN (fun w => wvC g o w) (mx 43420 (n 0 0)) 16) 8) (zt g))]) (st := []) (ws2 := zCW (zy E) q a g t (tkC g c) o n S) (r := some (.long (mcC g c (mtL g (msA g (mxN (fun w => wvC g o w) (mx 43420 (n 0 0)) 16) 8) (zt g))))) 1 (c_X9_mixCount q a g t c o n S (mtL g (msA g (mxN (fun w => wvC g o w) (mx 43420 (n 0 0)) 16) 8) (zt g)) hg hgb) gX9_digest_X9_mixCount (q0 := 0) (ci := 7) (by decide +kernel) rfl rfl rfl ⟨by decide, by decide⟩ (Nat.le_of_ble_eq_true rfl) rfl rfl dX9_digest_110 ?_ hkR
                    refine z_aload_n h 0 rfl dX9_digest_113 ?_
                    refine z_wV h (As := []) (st := [.long (mcC g c (mtL g (msA g (mxN (fun w => wvC g o w) (mx 43420 (n 0 0)) 16) 8) (zt g)))]) (ws2 := zCW (zy E) q a g ((bwI g t 8).2.2) (tkC g c) o n S) (r := some (.int ((bwI g t 8).1))) 0 (c_X9_bestWall q a g t (tkC g c) o n S hg) gX9_digest_X9_bestWall (q0 := 0) (ci := 7) (by decide +kernel) rfl rfl rfl ⟨by decide, by decide⟩ (Nat.le_of_ble_eq_true rfl) rfl rfl dX9_digest_114 ?_ hkR
                    refine z_wS h (As := [.long (mcC g c (mtL g (msA g (mxN (fun w => wvC g o w) (mx 43420 (n 0 0)) 16) 8) (zt g))), .int ((bwI g t 8).1)]) (st := []) (ws2 := zCW (zy E) q a g ((bwI g t 8).2.2) (tkC g c) o n S) (r := some (.long (mx (mcC g c (mtL g (msA g (mxN (fun w => wvC g o w) (mx 43420 (n 0 0)) 16) 8) (zt g))) ((bwI g t 8).1)))) 2 (z_any _ (c_X9_mix (mcC g c (mtL g (msA g (mxN (fun w => wvC g o w) (mx 43420 (n 0 0)) 16) 8) (zt g))) ((bwI g t 8).1))) gX9_digest_X9_mix (by decide +kernel) rfl ⟨by decide, by decide⟩ (Nat.le_of_ble_eq_true rfl) rfl rfl dX9_digest_117 ?_ hkR
                    exact z_lret h hf rfl rfl rfl dX9_digest_120
                  · have k_72 : ¬ ((zt g) ≤ x) := fun q => c_72 ((nI_leI (by omega) (by omega)).mpr q)
                    refine z_iconst h (nI 0) (by decide +kernel) dX9_digest_75 ?_
                    refine z_istore h (by decide) (lv' := [(4, .int (nI 0)), (0, .ref (q 0)), (1, .long (mtL g (msA g (mxN (fun w => wvC g o w) (mx 43420 (n 0 0)) 16) 8) x)), (3, .int (nI x))]) rfl dX9_digest_76 ?_
                    have lp_78 : ∀ (d_78 k : Nat), 3 < k + d_78 → k ≤ 3 → Z E 0 0 [(0, .ref (q 0)), (1, .long (mxN (fun w => tvC g x w) (mtL g (msA g (mxN (fun w => wvC g o w) (mx 43420 (n 0 0)) 16) 8) x) k)), (3, .int (nI x)), (4, .int (nI k))] (zCW (zy E) q a g t c o n S) 78 [] := by
                      intro d_78
                      induction d_78 with
                      | zero => intro k  q1 q2; omega
                      | succ d_78 ih_78 =>
                        intro k  q1_78 q2_78 
                        refine z_iload h 3 rfl dX9_digest_78 ?_
                        refine z_iconst h (nI 3) (by decide +kernel) dX9_digest_80 ?_
                        refine z_icmp_ge h 102 dX9_digest_81 (by decide) (fun c_81 => ?_) (fun c_81 => ?_)
                        · have k_81 : 3 ≤ k := (nI_leI (by omega) (by omega)).mp c_81
                          obtain rfl : k = 3 := by omega
                          refine z_iinc h 2 (nI (x + 1)) rfl z_i1 (by decide) (lv' := [(3, .int (nI (x + 1))), (0, .ref (q 0)), (1, .long (mxN (fun w => tvC g x w) (mtL g (msA g (mxN (fun w => wvC g o w) (mx 43420 (n 0 0)) 16) 8) x) 3)), (4, .int (nI 3))]) rfl dX9_digest_102 ?_
                          refine z_goto h 61 dX9_digest_105 (by decide) ?_
                          refine z_sub [1, 2, 0] (lv' := [(0, .ref (q 0)), (1, .long (mxN (fun w => tvC g x w) (mtL g (msA g (mxN (fun w => wvC g o w) (mx 43420 (n 0 0)) 16) 8) x) 3)), (3, .int (nI (x + 1)))]) rfl ?_
                          exact z_cast (ih_61 (x + 1) (by omega) (by omega)) rfl rfl rfl
                        · have k_81 : ¬ (3 ≤ k) := fun q => c_81 ((nI_leI (by omega) (by omega)).mpr q)
                          refine z_lload_n h 1 rfl dX9_digest_84 ?_
                          refine z_aload_n h 0 rfl dX9_digest_85 ?_
                          refine z_iload_n h 2 rfl dX9_digest_86 ?_
                          refine z_iload h 3 rfl dX9_digest_87 ?_
                          refine z_wV h (As := [.int (nI x), .int (nI k)]) (st := [.long (mxN (fun w => tvC g x w) (mtL g (msA g (mxN (fun w => wvC g o w) (mx 43420 (n 0 0)) 16) 8) x) k)]) (ws2 := zCW (zy E) q a g t c o n S) (r := some (.int (tvC g x k))) 2 (c_X9_tool q a g t c o n S x k (by omega) (by omega) (it_lt hgt (by omega))) gX9_digest_X9_tool (q0 := 0) (ci := 7) (by decide +kernel) rfl rfl rfl ⟨by decide, by decide⟩ (Nat.le_of_ble_eq_true rfl) rfl rfl dX9_digest_89 ?_ hkR
                          refine z_wS h (As := [.long (mxN (fun w => tvC g x w) (mtL g (msA g (mxN (fun w => wvC g o w) (mx 43420 (n 0 0)) 16) 8) x) k), .int (tvC g x k)]) (st := []) (ws2 := zCW (zy E) q a g t c o n S) (r := some (.long (mx (mxN (fun w => tvC g x w) (mtL g (msA g (mxN (fun w => wvC g o w) (mx 43420 (n 0 0)) 16) 8) x) k) (tvC g x k)))) 2 (z_any _ (c_X9_mix (mxN (fun w => tvC g x w) (mtL g (msA g (mxN (fun w => wvC g o w) (mx 43420 (n 0 0)) 16) 8) x) k) (tvC g x k))) gX9_digest_X9_mix (by decide +kernel) rfl ⟨by decide, by decide⟩ (Nat.le_of_ble_eq_true rfl) rfl rfl dX9_digest_92 ?_ hkR
                          refine z_lstore_n h (by decide) (lv' := [(1, .long (mx (mxN (fun w => tvC g x w) (mtL g (msA g (mxN (fun w => wvC g o w) (mx 43420 (n 0 0)) 16) 8) x) k) (tvC g x k))), (0, .ref (q 0)), (3, .int (nI x)), (4, .int (nI k))]) rfl dX9_digest_95 ?_
                          refine z_iinc h 3 (nI (k + 1)) rfl z_i1 (by decide) (lv' := [(4, .int (nI (k + 1))), (1, .long (mx (mxN (fun w => tvC g x w) (mtL g (msA g (mxN (fun w => wvC g o w) (mx 43420 (n 0 0)) 16) 8) x) k) (tvC g x k))), (0, .ref (q 0)), (3, .int (nI x))]) rfl dX9_digest_96 ?_
                          refine z_goto h 78 dX9_digest_99 (by decide) ?_
                          refine z_sub [2, 1, 3, 0] (lv' := [(0, .ref (q 0)), (1, .long (mx (mxN (fun w => tvC g x w) (mtL g (msA g (mxN (fun w => wvC g o w) (mx 43420 (n 0 0)) 16) 8) x) k) (tvC g x k))), (3, .int (nI x)), (4, .int (nI (k + 1)))]) rfl ?_
                          exact z_cast (ih_78 (k + 1) (by omega) (by omega)) rfl rfl rfl
                    refine z_sub [1, 2, 3, 0] (lv' := [(0, .ref (q 0)), (1, .long (mtL g (msA g (mxN (fun w => wvC g o w) (mx 43420 (n 0 0)) 16) 8) x)), (3, .int (nI x)), (4, .int (nI 0))]) rfl ?_
                    exact z_cast (lp_78 (3 + 1) 0 (by omega) (by omega)) rfl rfl rfl
              refine z_sub [1, 2, 0] (lv' := [(0, .ref (q 0)), (1, .long (msA g (mxN (fun w => wvC g o w) (mx 43420 (n 0 0)) 16) 8)), (3, .int (nI 0))]) rfl ?_
              exact z_cast (lp_61 ((zt g) + 1) 0 (by omega) (by omega)) rfl rfl rfl
            · have k_43 : ¬ (8 ≤ s) := fun q => c_43 ((nI_leI (by omega) (by omega)).mpr q)
              refine z_aload_n h 0 rfl dX9_digest_46 ?_
              refine z_lload_n h 1 rfl dX9_digest_47 ?_
              refine z_iload_n h 2 rfl dX9_digest_48 ?_
              refine z_wV h (As := [.long (msA g (mxN (fun w => wvC g o w) (mx 43420 (n 0 0)) 16) s), .int (nI s)]) (st := []) (ws2 := zCW (zy E) q a g t c o n S) (r := some (.long (msC g s (msA g (mxN (fun w => wvC g o w) (mx 43420 (n 0 0)) 16) s)))) 2 (c_X9_mixSite q a g t c o n S (msA g (mxN (fun w => wvC g o w) (mx 43420 (n 0 0)) 16) s) s (by omega) hg) gX9_digest_X9_mixSite (q0 := 0) (ci := 7) (by decide +kernel) rfl rfl rfl ⟨by decide, by decide⟩ (Nat.le_of_ble_eq_true rfl) rfl rfl dX9_digest_49 ?_ hkR
              refine z_lstore_n h (by decide) (lv' := [(1, .long (msC g s (msA g (mxN (fun w => wvC g o w) (mx 43420 (n 0 0)) 16) s))), (0, .ref (q 0)), (3, .int (nI s))]) rfl dX9_digest_52 ?_
              refine z_iinc h 2 (nI (s + 1)) rfl z_i1 (by decide) (lv' := [(3, .int (nI (s + 1))), (1, .long (msC g s (msA g (mxN (fun w => wvC g o w) (mx 43420 (n 0 0)) 16) s))), (0, .ref (q 0))]) rfl dX9_digest_53 ?_
              refine z_goto h 40 dX9_digest_56 (by decide) ?_
              refine z_sub [2, 1, 0] (lv' := [(0, .ref (q 0)), (1, .long (msC g s (msA g (mxN (fun w => wvC g o w) (mx 43420 (n 0 0)) 16) s))), (3, .int (nI (s + 1)))]) rfl ?_
              exact z_cast (ih_40 (s + 1) (by omega) (by omega)) rfl rfl rfl
        refine z_sub [1, 2, 0] (lv' := [(0, .ref (q 0)), (1, .long (mxN (fun w => wvC g o w) (mx 43420 (n 0 0)) 16)), (3, .int (nI 0))]) rfl ?_
        exact z_cast (lp_40 (8 + 1) 0 (by omega) (by omega)) rfl rfl rfl
      · have k_19 : ¬ (16 ≤ k) := fun q => c_19 ((nI_leI (by omega) (by omega)).mpr q)
        refine z_lload_n h 1 rfl dX9_digest_22 ?_
        refine z_aload_n h 0 rfl dX9_digest_23 ?_
        refine z_iload_n h 2 rfl dX9_digest_24 ?_
        refine z_wV h (As := [.int (nI k)]) (st := [.long (mxN (fun w => wvC g o w) (mx 43420 (n 0 0)) k)]) (ws2 := zCW (zy E) q a g t c o n S) (r := some (.int (wvC g o k))) 1 (c_X9_whole q a g t c o n S k (by omega) hg) gX9_digest_X9_whole (q0 := 0) (ci := 7) (by decide +kernel) rfl rfl rfl ⟨by decide, by decide⟩ (Nat.le_of_ble_eq_true rfl) rfl rfl dX9_digest_25 ?_ hkR
        refine z_wS h (As := [.long (mxN (fun w => wvC g o w) (mx 43420 (n 0 0)) k), .int (wvC g o k)]) (st := []) (ws2 := zCW (zy E) q a g t c o n S) (r := some (.long (mx (mxN (fun w => wvC g o w) (mx 43420 (n 0 0)) k) (wvC g o k)))) 2 (z_any _ (c_X9_mix (mxN (fun w => wvC g o w) (mx 43420 (n 0 0)) k) (wvC g o k))) gX9_digest_X9_mix (by decide +kernel) rfl ⟨by decide, by decide⟩ (Nat.le_of_ble_eq_true rfl) rfl rfl dX9_digest_28 ?_ hkR
        refine z_lstore_n h (by decide) (lv' := [(1, .long (mx (mxN (fun w => wvC g o w) (mx 43420 (n 0 0)) k) (wvC g o k))), (0, .ref (q 0)), (3, .int (nI k))]) rfl dX9_digest_31 ?_
        refine z_iinc h 2 (nI (k + 1)) rfl z_i1 (by decide) (lv' := [(3, .int (nI (k + 1))), (1, .long (mx (mxN (fun w => wvC g o w) (mx 43420 (n 0 0)) k) (wvC g o k))), (0, .ref (q 0))]) rfl dX9_digest_32 ?_
        refine z_goto h 16 dX9_digest_35 (by decide) ?_
        refine z_sub [2, 1, 0] (lv' := [(0, .ref (q 0)), (1, .long (mx (mxN (fun w => wvC g o w) (mx 43420 (n 0 0)) k) (wvC g o k))), (3, .int (nI (k + 1)))]) rfl ?_
        exact z_cast (ih_16 (k + 1) (by omega) (by omega)) rfl rfl rfl
  refine z_sub [2, 1, 0] (lv' := [(0, .ref (q 0)), (1, .long (mx 43420 ((n 0) 0))), (3, .int (nI 0))]) rfl ?_
  exact z_cast (lp_16 (16 + 1) 0 (by omega) (by omega)) rfl rfl rfl

