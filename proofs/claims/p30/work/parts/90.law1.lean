/-! the law's own methods: what they answer -/
def lowI (v n : Int32) : Int32 := (v &&& nI 2147483647) - (v &&& nI 2147483647) / n * n
/-- the script's number at k, as the law takes it -/
def cellV (y : zY) (k : Nat) : Int32 := if nI (y.2 101) ≤ nI k then nI 7919 * nI (k + 3) * nI (k + 11) else nI (y.2 (102 + k))
def mwI (g : Nat → Nat → Int32) (s l : Nat) : Int32 := (nI 6 - nI 2 * bvC g s l 0) * bvC g s l 2
def muI (g : Nat → Nat → Int32) (s l : Nat) : Int32 := if bvC g s l 1 ≤ mwI g s l then bvC g s l 1 else mwI g s l
/-- what melting(site) counts over the first blocks -/
def mgI (g : Nat → Nat → Int32) (s : Nat) : Nat → Int32
  | 0 => nI 0
  | l + 1 => mgI g s l + muI g s l
theorem mu_0 {g : Nat → Nat → Int32} {s l : Nat} (c : bvC g s l 1 ≤ (nI 6 - nI 2 * bvC g s l 0) * bvC g s l 2) : mgI g s (l + 1) = mgI g s l + bvC g s l 1 := congrArg (fun x => mgI g s l + x) (if_pos c)
theorem mu_1 {g : Nat → Nat → Int32} {s l : Nat} (c : ¬ bvC g s l 1 ≤ (nI 6 - nI 2 * bvC g s l 0) * bvC g s l 2) : mgI g s (l + 1) = mgI g s l + (nI 6 - nI 2 * bvC g s l 0) * bvC g s l 2 := congrArg (fun x => mgI g s l + x) (if_neg c)
/-- the trial stacks behind the first sites of areSitesSo -/
def arT (g t : Nat → Nat → Int32) : Nat → Nat → Nat → Int32
  | 0 => t
  | s + 1 => trT g (cpSt (arT g t s) g) 1
/-- a round's votes, and how many stand -/
def sgI (f : Nat → Int32) : Nat → Int32
  | 0 => nI 0
  | i + 1 => sgI f i + (if f i ≤ 0 then nI 0 else f i)
def stI (f : Nat → Int32) : Nat → Int32
  | 0 => nI 0
  | i + 1 => stI f i + (if f i = (-1) then nI 0 else nI 1)

set_option maxHeartbeats 4000000 in
set_option maxRecDepth 100000 in
/-- low -/
theorem c_L_low {l : Launch} {y : zY} {D : va_G} (v n : Int32) (hn : ¬ n = 0) : zM l y D yL_low wsL_low 0 0 [.int v, .int n] ([]) ([]) (some (.int (lowI v n))) := by
  refine z_start (own := RL) (cc := cL_low) (maxL := 2) (ret := (some .int)) rfl (by decide +kernel) rfl (Nat.le_of_ble_eq_true rfl) rfl ?_
  intro E hEl hEy hED h hf
  subst hEl hEy hED
  have hkR : 0 ≤ E.2.2.2.2.2.1.cells ∧ 0 ≤ E.2.2.2.2.2.1.slots := ⟨Nat.zero_le _, Nat.zero_le _⟩
  refine z_cast (lv := [(0, .int v), (1, .int n)]) (ws := ([])) (st := []) ?_ rfl rfl rfl
  refine z_iload_n h 0 rfl dL_low_0 ?_
  refine z_ldc h (nI 2147483647) (List.mem_of_getElem? (i := 1) (by decide +kernel)) dL_low_1 ?_
  refine z_iand h dL_low_3 ?_
  refine z_iload_n h 1 rfl dL_low_4 ?_
  refine z_irem h dL_low_5 hn ?_
  exact z_iret h hf rfl rfl rfl dL_low_6

set_option maxHeartbeats 4000000 in
set_option maxRecDepth 100000 in
/-- rate -/
theorem c_L_rate {l : Launch} {y : zY} {D : va_G} (k : Int32) : zM l y D yL_rate wsL_rate 0 0 [.int k] ([]) ([]) (some (.int (nI 6 - nI 2 * k))) := by
  refine z_start (own := RL) (cc := cL_rate) (maxL := 1) (ret := (some .int)) rfl (by decide +kernel) rfl (Nat.le_of_ble_eq_true rfl) rfl ?_
  intro E hEl hEy hED h hf
  subst hEl hEy hED
  have hkR : 0 ≤ E.2.2.2.2.2.1.cells ∧ 0 ≤ E.2.2.2.2.2.1.slots := ⟨Nat.zero_le _, Nat.zero_le _⟩
  refine z_cast (lv := [(0, .int k)]) (ws := ([])) (st := []) ?_ rfl rfl rfl
  refine z_bipush h (nI 6) (by decide +kernel) dL_rate_0 ?_
  refine z_iconst h (nI 2) (by decide +kernel) dL_rate_2 ?_
  refine z_iload_n h 0 rfl dL_rate_3 ?_
  refine z_imul h dL_rate_4 ?_
  refine z_isub h dL_rate_5 ?_
  exact z_iret h hf rfl rfl rfl dL_rate_6

/-- cell: the script's number, or one that is made up -/
theorem c_L_cell {l : Launch} {y : zY} {D : va_G} (k : Nat) (hk : k < 2 ^ 31) (hL : y.2 101 < 2 ^ 31) : zM l y D yL_cell wsL_cell 0 0 [.ref (y.2 100), .int (nI k)] [] [] (some (.int (cellV y k))) := by
  refine z_start (own := RL) (cc := cL_cell) (maxL := 2) (ret := (some .int)) rfl (by decide +kernel) rfl (Nat.le_of_ble_eq_true rfl) rfl ?_
  intro E hEl hEy hED h hf
  subst hEl hEy hED
  refine z_cast (lv := [(0, .ref ((zy E).2 100)), (1, .int (nI k))]) (ws := []) (st := []) ?_ rfl rfl rfl
  refine z_iload_n h 1 rfl dL_cell_0 ?_
  refine z_aload_n h 0 rfl dL_cell_1 ?_
  refine z_tlen h (t := (zy E).2 100) (N := (zy E).2 101) (f := fun j => .int (nI ((zy E).2 (102 + j)))) (fun _ _ _ h9 => h9) (v := nI ((zy E).2 101)) rfl dL_cell_2 ?_
  refine z_icmp_ge h 12 dL_cell_3 (by decide) (fun c_3 => ?_) (fun c_3 => ?_)
  · refine z_sipush h (nI 7919) (by decide +kernel) dL_cell_12 ?_
    refine z_iload_n h 1 rfl dL_cell_15 ?_
    refine z_iconst h (nI 3) (by decide +kernel) dL_cell_16 ?_
    refine z_iadd h dL_cell_17 ?_
    refine z_top (nI (k + 3)) (nI_add _ _) ?_
    refine z_imul h dL_cell_18 ?_
    refine z_iload_n h 1 rfl dL_cell_19 ?_
    refine z_bipush h (nI 11) (by decide +kernel) dL_cell_20 ?_
    refine z_iadd h dL_cell_22 ?_
    refine z_top (nI (k + 11)) (nI_add _ _) ?_
    refine z_imul h dL_cell_23 ?_
    exact z_iret h hf rfl (by simp only [cellV, if_pos c_3]) rfl dL_cell_24
  · refine z_aload_n h 0 rfl dL_cell_6 ?_
    refine z_iload_n h 1 rfl dL_cell_7 ?_
    have hlt : nI k < nI ((zy E).2 101) := Int32.not_le.mp c_3
    refine z_ti h (t := (zy E).2 100) (N := (zy E).2 101) (f := fun j => .int (nI ((zy E).2 (102 + j)))) (fun _ _ _ h9 => h9) k rfl ((nI_ltI hk hL).mp hlt) hL rfl dL_cell_8 ?_
    refine z_goto h 24 dL_cell_9 (by decide) ?_
    exact z_iret h hf rfl (by simp only [cellV, if_neg c_3]) rfl dL_cell_24

set_option maxHeartbeats 4000000 in
set_option maxRecDepth 100000 in
/-- melting -/
theorem c_L_melting {l : Launch} {y : zY} {D : va_G} (q : Nat → Nat) (a : Nat → Nat → Nat) (g t c o n : Nat → Nat → Int32) (S : Nat → Nat → Nat → Int32) (s : Nat) (hs : s < 8) (hg : okH g) : zM l y D yL_melting wsL_melting 4 85 [.ref (q 0), .int (nI s)] (zCW y q a g t c o n S) (zCW y q a g t c o n S) (some (.int (mgI g s (zh g s)))) := by
  have hz9 := (hg s hs).2
  refine z_start (own := RL) (cc := cL_melting) (maxL := 5) (ret := (some .int)) rfl (by decide +kernel) rfl (Nat.le_of_ble_eq_true rfl) (zCW_fst _ _ _ _ _ _ _ _ _ _ _ _ _ _ _) ?_
  intro E hEl hEy hED h hf
  subst hEl hEy hED
  have hkR : 0 ≤ E.2.2.2.2.2.1.cells ∧ 0 ≤ E.2.2.2.2.2.1.slots := ⟨Nat.zero_le _, Nat.zero_le _⟩
  refine z_cast (lv := [(0, .ref (q 0)), (1, .int (nI s))]) (ws := (zCW (zy E) q a g t c o n S)) (st := []) ?_ rfl rfl rfl
  refine z_iconst h (nI 0) (by decide +kernel) dL_melting_0 ?_
  refine z_istore_n h (by decide) (lv' := [(2, .int (nI 0)), (0, .ref (q 0)), (1, .int (nI s))]) rfl dL_melting_1 ?_
  refine z_iconst h (nI 0) (by decide +kernel) dL_melting_2 ?_
  refine z_istore_n h (by decide) (lv' := [(3, .int (nI 0)), (2, .int (nI 0)), (0, .ref (q 0)), (1, .int (nI s))]) rfl dL_melting_3 ?_
  have lp_4 : ∀ (d_4 l9 : Nat), (zh g s) < l9 + d_4 → l9 ≤ (zh g s) → Z E 0 0 [(0, .ref (q 0)), (1, .int (nI s)), (2, .int (mgI g s l9)), (3, .int (nI l9))] (zCW (zy E) q a g t c o n S) 4 [] := by
    intro d_4
    induction d_4 with
    | zero => intro l9  q1 q2; omega
    | succ d_4 ih_4 =>
      intro l9  q1_4 q2_4 
      refine z_iload_n h 3 rfl dL_melting_4 ?_
      refine z_aload_n h 0 rfl dL_melting_5 ?_
      refine z_iload_n h 1 rfl dL_melting_6 ?_
      refine z_iconst h (nI 0) (by decide +kernel) dL_melting_7 ?_
      refine z_wV h (As := [.int (nI s), .int (nI 0)]) (st := [.int (nI l9)]) (ws2 := zCW (zy E) q a g t c o n S) (r := some (.int (svC g s 0))) 2 (c_X9_site q a g t c o n S s 0 (by omega) (by omega) hg (si_8 _ (by omega))) gL_melting_X9_site (q0 := 0) (ci := 7) (by decide +kernel) rfl rfl rfl ⟨by decide, by decide⟩ (Nat.le_of_ble_eq_true rfl) rfl rfl dL_melting_8 ?_ hkR
      refine z_top (nI (zh g s)) ((if_pos rfl).trans (hg s hs).1) ?_
      refine z_icmp_ge h 67 dL_melting_11 (by decide) (fun c_11 => ?_) (fun c_11 => ?_)
      · have k_11 : (zh g s) ≤ l9 := (nI_leI (by omega) (by omega)).mp c_11
        obtain rfl : l9 = (zh g s) := by omega
        refine z_iload_n h 2 rfl dL_melting_67 ?_
        exact z_iret h hf rfl rfl rfl dL_melting_68
      · have k_11 : ¬ ((zh g s) ≤ l9) := fun q => c_11 ((nI_leI (by omega) (by omega)).mpr q)
        refine z_aload_n h 0 rfl dL_melting_14 ?_
        refine z_iload_n h 1 rfl dL_melting_15 ?_
        refine z_iload_n h 3 rfl dL_melting_16 ?_
        refine z_iconst h (nI 0) (by decide +kernel) dL_melting_17 ?_
        refine z_wV h (As := [.int (nI s), .int (nI l9), .int (nI 0)]) (st := []) (ws2 := zCW (zy E) q a g t c o n S) (r := some (.int (bvC g s l9 0))) 3 (c_X9_block q a g t c o n S s l9 0 (by omega) (by omega) (si_8 _ (by omega)) (wi_6 _ (by omega)) (wi_3 _ (by omega))) gL_melting_X9_block (q0 := 0) (ci := 7) (by decide +kernel) rfl rfl rfl ⟨by decide, by decide⟩ (Nat.le_of_ble_eq_true rfl) rfl rfl dL_melting_18 ?_ hkR
        refine z_wS h (As := [.int (bvC g s l9 0)]) (st := []) (ws2 := zCW (zy E) q a g t c o n S) (r := some (.int (nI 6 - nI 2 * (bvC g s l9 0)))) 1 (z_any _ (c_L_rate (bvC g s l9 0))) gL_melting_L_rate (by decide +kernel) rfl ⟨by decide, by decide⟩ (Nat.le_of_ble_eq_true rfl) rfl rfl dL_melting_21 ?_ hkR
        refine z_aload_n h 0 rfl dL_melting_24 ?_
        refine z_iload_n h 1 rfl dL_melting_25 ?_
        refine z_iload_n h 3 rfl dL_melting_26 ?_
        refine z_iconst h (nI 2) (by decide +kernel) dL_melting_27 ?_
        refine z_wV h (As := [.int (nI s), .int (nI l9), .int (nI 2)]) (st := [.int (nI 6 - nI 2 * (bvC g s l9 0))]) (ws2 := zCW (zy E) q a g t c o n S) (r := some (.int (bvC g s l9 2))) 3 (c_X9_block q a g t c o n S s l9 2 (by omega) (by omega) (si_8 _ (by omega)) (wi_6 _ (by omega)) (wi_3 _ (by omega))) gL_melting_X9_block (q0 := 0) (ci := 7) (by decide +kernel) rfl rfl rfl ⟨by decide, by decide⟩ (Nat.le_of_ble_eq_true rfl) rfl rfl dL_melting_28 ?_ hkR
        refine z_imul h dL_melting_31 ?_
        refine z_istore h (by decide) (lv' := [(4, .int ((nI 6 - nI 2 * (bvC g s l9 0)) * (bvC g s l9 2))), (0, .ref (q 0)), (1, .int (nI s)), (2, .int (mgI g s l9)), (3, .int (nI l9))]) rfl dL_melting_32 ?_
        refine z_iload_n h 3 rfl dL_melting_34 ?_
        refine z_iload h 0 rfl dL_melting_35 ?_
        refine z_aload_n h 1 rfl dL_melting_37 ?_
        refine z_iload_n h 2 rfl dL_melting_38 ?_
        refine z_iload_n h 4 rfl dL_melting_39 ?_
        refine z_iconst h (nI 1) (by decide +kernel) dL_melting_40 ?_
        refine z_wV h (As := [.int (nI s), .int (nI l9), .int (nI 1)]) (st := [.int ((nI 6 - nI 2 * (bvC g s l9 0)) * (bvC g s l9 2)), .int (mgI g s l9)]) (ws2 := zCW (zy E) q a g t c o n S) (r := some (.int (bvC g s l9 1))) 3 (c_X9_block q a g t c o n S s l9 1 (by omega) (by omega) (si_8 _ (by omega)) (wi_6 _ (by omega)) (wi_3 _ (by omega))) gL_melting_X9_block (q0 := 0) (ci := 7) (by decide +kernel) rfl rfl rfl ⟨by decide, by decide⟩ (Nat.le_of_ble_eq_true rfl) rfl rfl dL_melting_41 ?_ hkR
        refine z_icmp_ge h 52 dL_melting_44 (by decide) (fun c_44 => ?_) (fun c_44 => ?_)
        · refine z_aload_n h 1 rfl dL_melting_52 ?_
          refine z_iload_n h 2 rfl dL_melting_53 ?_
          refine z_iload_n h 4 rfl dL_melting_54 ?_
          refine z_iconst h (nI 1) (by decide +kernel) dL_melting_55 ?_
          refine z_wV h (As := [.int (nI s), .int (nI l9), .int (nI 1)]) (st := [.int (mgI g s l9)]) (ws2 := zCW (zy E) q a g t c o n S) (r := some (.int (bvC g s l9 1))) 3 (c_X9_block q a g t c o n S s l9 1 (by omega) (by omega) (si_8 _ (by omega)) (wi_6 _ (by omega)) (wi_3 _ (by omega))) gL_melting_X9_block (q0 := 0) (ci := 7) (by decide +kernel) rfl rfl rfl ⟨by decide, by decide⟩ (Nat.le_of_ble_eq_true rfl) rfl rfl dL_melting_56 ?_ hkR
          refine z_iadd h dL_melting_59 ?_
          refine z_istore_n h (by decide) (lv' := [(2, .int ((mgI g s l9) + (bvC g s l9 1))), (4, .int ((nI 6 - nI 2 * (bvC g s l9 0)) * (bvC g s l9 2))), (0, .ref (q 0)), (1, .int (nI s)), (3, .int (nI l9))]) rfl dL_melting_60 ?_
          refine z_iinc h 4 (nI (l9 + 1)) rfl z_i1 (by decide) (lv' := [(3, .int (nI (l9 + 1))), (2, .int ((mgI g s l9) + (bvC g s l9 1))), (4, .int ((nI 6 - nI 2 * (bvC g s l9 0)) * (bvC g s l9 2))), (0, .ref (q 0)), (1, .int (nI s))]) rfl dL_melting_61 ?_
          refine z_goto h 4 dL_melting_64 (by decide) ?_
          refine z_sub [3, 4, 1, 0] (lv' := [(0, .ref (q 0)), (1, .int (nI s)), (2, .int ((mgI g s l9) + (bvC g s l9 1))), (3, .int (nI (l9 + 1)))]) rfl ?_
          exact z_cast (ih_4 (l9 + 1) (by omega) (by omega)) (by rw [mu_0 c_44]) rfl rfl
        · refine z_iload h 0 rfl dL_melting_47 ?_
          refine z_goto h 59 dL_melting_49 (by decide) ?_
          refine z_iadd h dL_melting_59 ?_
          refine z_istore_n h (by decide) (lv' := [(2, .int ((mgI g s l9) + ((nI 6 - nI 2 * (bvC g s l9 0)) * (bvC g s l9 2)))), (4, .int ((nI 6 - nI 2 * (bvC g s l9 0)) * (bvC g s l9 2))), (0, .ref (q 0)), (1, .int (nI s)), (3, .int (nI l9))]) rfl dL_melting_60 ?_
          refine z_iinc h 4 (nI (l9 + 1)) rfl z_i1 (by decide) (lv' := [(3, .int (nI (l9 + 1))), (2, .int ((mgI g s l9) + ((nI 6 - nI 2 * (bvC g s l9 0)) * (bvC g s l9 2)))), (4, .int ((nI 6 - nI 2 * (bvC g s l9 0)) * (bvC g s l9 2))), (0, .ref (q 0)), (1, .int (nI s))]) rfl dL_melting_61 ?_
          refine z_goto h 4 dL_melting_64 (by decide) ?_
          refine z_sub [3, 4, 1, 0] (lv' := [(0, .ref (q 0)), (1, .int (nI s)), (2, .int ((mgI g s l9) + ((nI 6 - nI 2 * (bvC g s l9 0)) * (bvC g s l9 2)))), (3, .int (nI (l9 + 1)))]) rfl ?_
          exact z_cast (ih_4 (l9 + 1) (by omega) (by omega)) (by rw [mu_1 c_44]) rfl rfl
  refine z_sub [2, 3, 1, 0] (lv' := [(0, .ref (q 0)), (1, .int (nI s)), (2, .int (nI 0)), (3, .int (nI 0))]) rfl ?_
  exact z_cast (lp_4 ((zh g s) + 1) 0 (by omega) (by omega)) rfl rfl rfl
