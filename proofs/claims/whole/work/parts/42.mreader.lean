/-! the model's reader of the order text -/
def woN (x : Int32) : Int32 := if x = 14432 then nI 6 else if x = 384611 then nI 0 else if x = 405012 then nI 3 else if x = 453774 then nI 5 else if x = 670208 then nI 8 else if x = 1627727 then nI 4 else if x = 1842025 then nI 7 else if x = 8861527 then nI 1 else if x = 10491860 then nI 2 else (-1)
theorem woN_9 (x : Int32) : woN x = (-1) ∨ ∃ w, w < 9 ∧ woN x = nI w := by
  unfold woN
  split
  · exact Or.inr ⟨6, by omega, rfl⟩
  split
  · exact Or.inr ⟨0, by omega, rfl⟩
  split
  · exact Or.inr ⟨3, by omega, rfl⟩
  split
  · exact Or.inr ⟨5, by omega, rfl⟩
  split
  · exact Or.inr ⟨8, by omega, rfl⟩
  split
  · exact Or.inr ⟨4, by omega, rfl⟩
  split
  · exact Or.inr ⟨7, by omega, rfl⟩
  split
  · exact Or.inr ⟨1, by omega, rfl⟩
  split
  · exact Or.inr ⟨2, by omega, rfl⟩
  · exact Or.inl rfl
def duV (F b : Int32) (i : Nat) : Int32 := if F = (-1) then (if b = 0 then nI i else F) else F
def duR (F b : Int32) (i : Nat) : Int32 := if duV F b i = (-1) then nI 1 else nI 0
theorem nI_n1 {i : Nat} (h : i < 2 ^ 31) : ¬ nI i = (-1) := by
  intro q
  have h1 := nI_toInt h
  rw [q, show ((-1 : Int32)).toInt = -1 by decide +kernel] at h1
  omega
theorem du_1 {b : Int32} {i : Nat} (h : ¬ b = 0) : duV (-1) b i = (-1) ∧ duR (-1) b i = nI 1 := by
  have e : duV (-1) b i = (-1) := (if_pos rfl).trans (if_neg h)
  exact ⟨e, if_pos e⟩
theorem du_0 {b : Int32} {i : Nat} (hi : i < 2 ^ 31) (h : b = 0) : duV (-1) b i = nI i ∧ duR (-1) b i = nI 0 := by
  have e : duV (-1) b i = nI i := (if_pos rfl).trans (if_pos h)
  exact ⟨e, if_neg (by rw [e]; exact nI_n1 hi)⟩
def ltI (B : Nat → Int32) (i : Nat) : Nat → Int32
  | 0 => nI 0
  | d + 1 => if 5 ≤ d then nI 0 else nI 27 * ltI B i d + B (i + d) - nI 96
def woC (B : Nat → Int32) (i e : Nat) : Int32 := woN (if e - i ≤ 5 then ltI B i (e - i) else nI 0)
def dgM (B : Nat → Int32) (n : Nat) : Nat → Nat → Int32 → Nat × Int32
  | 0, p, v => (p, v)
  | k + 1, p, v => if nwC B n p (nI 48) (nI 57) = 0 then (p, v) else dgM B n k (p + 1) (nI 10 * v + B p - nI 48)
theorem dm_0 {B : Nat → Int32} {n p : Nat} {v : Int32} (k : Nat) (h : nwC B n p (nI 48) (nI 57) = 0) : dgM B n k p v = (p, v) := by
  cases k with
  | zero => rfl
  | succ k => exact if_pos h
theorem dm_1 {B : Nat → Int32} {n p d : Nat} {v : Int32} {R : Nat × Int32} (hd : d < 4) (hR : dgM B n (4 - d) p v = R) (h : ¬ nwC B n p (nI 48) (nI 57) = 0) : dgM B n (4 - (d + 1)) (p + 1) (nI 10 * v + B p - nI 48) = R := by
  rw [← hR, show 4 - d = (4 - (d + 1)) + 1 by omega]
  exact (if_neg h).symm
theorem dm_le (B : Nat → Int32) (n : Nat) : ∀ k p v, p ≤ n → p ≤ (dgM B n k p v).1 ∧ (dgM B n k p v).1 ≤ n
  | 0, p, v, h => ⟨Nat.le_refl p, h⟩
  | k + 1, p, v, h => by
    unfold dgM
    split
    · exact ⟨Nat.le_refl p, h⟩
    · rename_i q
      have := dm_le B n k (p + 1) (nI 10 * v + B p - nI 48) (nwC_lt q)
      exact ⟨by omega, this.2⟩
/-- a number: its value, where it ends, the fault -/
def rm9 (B : Nat → Int32) (n i : Nat) : Int32 × Nat × Int32 :=
  if nwC B n i (nI 32) (nI 32) = 0 then (nI 0, i, nI i) else
  if nwC B n (skE B n (nI 32) (nI 32) i) (nI 48) (nI 57) = 0 then (nI 0, skE B n (nI 32) (nI 32) i, nI (skE B n (nI 32) (nI 32) i)) else
  ((dgM B n 4 (skE B n (nI 32) (nI 32) i) (nI 0)).2, (dgM B n 4 (skE B n (nI 32) (nI 32) i) (nI 0)).1, if nwC B n (dgM B n 4 (skE B n (nI 32) (nI 32) i) (nI 0)).1 (nI 48) (nI 57) = 0 then (-1) else nI (dgM B n 4 (skE B n (nI 32) (nI 32) i) (nI 0)).1)
theorem rm_le (B : Nat → Int32) {n i : Nat} (h : i ≤ n) : (rm9 B n i).2.1 ≤ n := by
  have h1 := skE_le B (nI 32) (nI 32) h
  unfold rm9
  split
  · exact h
  · split
    · exact h1.2
    · exact (dm_le B n 4 _ _ h1.2).2
def rmG (h : Nat → Nat → Int32) (n i : Nat) : Nat → Nat → Int32 := va_up h 0 (upd (upd (h 0) 5 (nI (rm9 (h 5) n i).2.1)) 6 (rm9 (h 5) n i).2.2)
theorem zMo_at {y : zY} {q : Nat → Nat} {h : Nat → Nat → Int32} {x : Int32} (e : h 0 5 = x) : zMo y q h = zMo y q (va_up h 0 (upd (h 0) 5 x)) := by
  have e1 : (va_up h 0 (upd (h 0) 5 x)) 0 5 = h 0 5 := e.symm
  unfold zMo
  rw [e1]
  rfl
def rwG (h : Nat → Nat → Int32) (n i : Nat) : Nat → Nat → Int32 := va_up h 0 (upd (upd (upd (h 0) 5 (nI (skE (h 5) n (nI 97) (nI 122) i))) 8 (woC (h 5) i (skE (h 5) n (nI 97) (nI 122) i))) 6 (if woC (h 5) i (skE (h 5) n (nI 97) (nI 122) i) = (-1) then nI i else h 0 6))
theorem wi_1 {v a b : Int32} (h : ¬ wi v a b = 0) : wi v a b = nI 1 := by
  unfold wi at h ⊢
  by_cases h1 : v < a
  · exact absurd (if_pos h1) h
  · rw [if_neg h1] at h ⊢
    by_cases h2 : b < v
    · exact absurd (if_pos h2) h
    · exact if_neg h2
theorem upd_same {f : Nat → Int32} {i : Nat} {v : Int32} (e : f i = v) : upd f i v = f := by
  funext j
  unfold upd
  split
  · rename_i q; rw [q, e]
  · rfl
theorem mo_6 (y : zY) (q : Nat → Nat) (h : Nat → Nat → Int32) (X : Nat → Int32) (v : Int32) : zMo y q (va_up (va_up h 0 X) 0 (upd (va_up h 0 X 0) 6 v)) = zMo y q (va_up h 0 (upd X 6 v)) := rfl
theorem iX10_isAt_X10 : ∀ w ∈ u_ws RX10 TX10 15, w ∈ wsX10_isAt := by decide +kernel
set_option maxHeartbeats 4000000 in
set_option maxRecDepth 100000 in
/-- isAt -/
theorem c_X10_isAt {l : Launch} {y : zY} {D : va_G} (q : Nat → Nat) (h : Nat → Nat → Int32) (n i : Nat) (hn : h 0 4 = nI n) (hn1 : n ≤ 150) (hi : h 0 5 = nI i) (hi1 : i ≤ n) (a b : Int32) : zM l y D yX10_isAt wsX10_isAt 1 22 [.ref (q 0), .int a, .int b] (zMo y q h) (zMo y q h) (some (.int (nwC (h 5) n i a b))) := by
  refine z_start (own := RX10) (cc := cX10_isAt) (maxL := 3) (ret := (some .boolean)) rfl (by decide +kernel) rfl (Nat.le_of_ble_eq_true rfl) (zMo_fst _ _ _ _) ?_
  intro E hEl hEy hED hC hf
  subst hEl hEy hED
  have hkR : 0 ≤ E.2.2.2.2.2.1.cells ∧ 0 ≤ E.2.2.2.2.2.1.slots := ⟨Nat.zero_le _, Nat.zero_le _⟩
  refine z_cast (lv := [(0, .ref (q 0)), (1, .int a), (2, .int b)]) (ws := (zMo (zy E) q h)) (st := []) ?_ rfl rfl rfl
  refine z_aload_n hC 0 rfl dX10_isAt_0 ?_
  refine z_get hC 0 8 10 (v := .int ((h 0) 5)) rfl rfl iX10_isAt_X10 (by decide) (List.mem_of_getElem? (i := 1) (by decide +kernel)) rfl rfl dX10_isAt_1 ?_
  refine z_top (nI i) hi ?_
  refine z_aload_n hC 0 rfl dX10_isAt_4 ?_
  refine z_get hC 0 8 9 (v := .int ((h 0) 4)) rfl rfl iX10_isAt_X10 (by decide) (List.mem_of_getElem? (i := 2) (by decide +kernel)) rfl rfl dX10_isAt_5 ?_
  refine z_top (nI n) hn ?_
  refine z_icmp_ge hC 32 dX10_isAt_8 (by decide) (fun c_8 => ?_) (fun c_8 => ?_)
  · have k_8 : n ≤ i := (nI_leI (by omega) (by omega)).mp c_8
    refine z_iconst hC (nI 0) (by decide +kernel) dX10_isAt_32 ?_
    exact z_zret hC hf rfl (by decide +kernel) (by rw [show nwC (h 5) n i a b = nI 0 from if_pos k_8]) rfl dX10_isAt_33
  · have k_8 : ¬ (n ≤ i) := fun q => c_8 ((nI_leI (by omega) (by omega)).mpr q)
    refine z_aload_n hC 0 rfl dX10_isAt_11 ?_
    refine z_get hC 0 8 8 (v := .ref (q 5)) rfl rfl iX10_isAt_X10 (by decide) (List.mem_of_getElem? (i := 3) (by decide +kernel)) rfl rfl dX10_isAt_12 ?_
    refine z_aload_n hC 0 rfl dX10_isAt_15 ?_
    refine z_get hC 0 8 10 (v := .int ((h 0) 5)) rfl rfl iX10_isAt_X10 (by decide) (List.mem_of_getElem? (i := 1) (by decide +kernel)) rfl rfl dX10_isAt_16 ?_
    refine z_top (nI i) hi ?_
    refine z_bald hC 5 i (f := h 5) rfl rfl rfl (by omega) (by decide) dX10_isAt_19 ?_
    refine z_iload_n hC 1 rfl dX10_isAt_20 ?_
    refine z_iload_n hC 2 rfl dX10_isAt_21 ?_
    refine z_callS hC (As := [.int ((h 5) i), .int a, .int b]) (st := []) (ws2 := zMo (zy E) q h) (B := []) (B' := []) (r := some (.int (wi ((h 5) i) a b))) 3 (c_X10_in ((h 5) i) a b) gX10_isAt_X10_in (by decide +kernel) rfl ⟨by decide, by decide⟩ [] rfl (by decide) rfl (Nat.le_of_ble_eq_true rfl) rfl rfl dX10_isAt_22 ?_ hkR
    refine z_if_eq hC 32 dX10_isAt_25 (by decide) (fun c_25 => ?_) (fun c_25 => ?_)
    · refine z_iconst hC (nI 0) (by decide +kernel) dX10_isAt_32 ?_
      exact z_zret hC hf rfl (by decide +kernel) (by rw [show nwC (h 5) n i a b = nI 0 from (if_neg k_8).trans c_25]) rfl dX10_isAt_33
    · refine z_iconst hC (nI 1) (by decide +kernel) dX10_isAt_28 ?_
      refine z_goto hC 33 dX10_isAt_29 (by decide) ?_
      exact z_zret hC hf rfl (by decide +kernel) (by rw [show nwC (h 5) n i a b = nI 1 from (if_neg k_8).trans (wi_1 c_25)]) rfl dX10_isAt_33

theorem iX10_passSpaces_X10 : ∀ w ∈ u_ws RX10 TX10 15, w ∈ wsX10_passSpaces := by decide +kernel
set_option maxHeartbeats 4000000 in
set_option maxRecDepth 100000 in
/-- passSpaces -/
theorem c_X10_passSpaces {l : Launch} {y : zY} {D : va_G} (q : Nat → Nat) (h : Nat → Nat → Int32) (n i : Nat) (hn : h 0 4 = nI n) (hn1 : n ≤ 150) (hi : h 0 5 = nI i) (hi1 : i ≤ n) : zM l y D yX10_passSpaces wsX10_passSpaces 2 44 [.ref (q 0)] (zMo y q h) (zMo y q (va_up h 0 (upd (h 0) 5 (nI (skE (h 5) n (nI 32) (nI 32) i))))) (none) := by
  refine z_start (own := RX10) (cc := cX10_passSpaces) (maxL := 1) (ret := none) rfl (by decide +kernel) rfl (Nat.le_of_ble_eq_true rfl) (zMo_fst _ _ _ _) ?_
  intro E hEl hEy hED hC hf
  subst hEl hEy hED
  have hkR : 0 ≤ E.2.2.2.2.2.1.cells ∧ 0 ≤ E.2.2.2.2.2.1.slots := ⟨Nat.zero_le _, Nat.zero_le _⟩
  refine z_cast (lv := [(0, .ref (q 0))]) (ws := (zMo (zy E) q h)) (st := []) ?_ rfl rfl rfl
  have lp_0 : ∀ (d_0 j : Nat), n < j + d_0 → j ≤ n → (skE (h 5) n (nI 32) (nI 32) j = skE (h 5) n (nI 32) (nI 32) i) → Z E 0 0 [(0, .ref (q 0))] (zMo (zy E) q (va_up h 0 (upd (h 0) 5 (nI j)))) 0 [] := by
    intro d_0
    induction d_0 with
    | zero => intro j  q1 q2; omega
    | succ d_0 ih_0 =>
      intro j  q1_0 q2_0 hj
      try have hj2 := nwC_lt (B := h 5) (n := n) (i := j)
      refine z_aload_n hC 0 rfl dX10_passSpaces_0 ?_
      refine z_bipush hC (nI 32) (by decide +kernel) dX10_passSpaces_1 ?_
      refine z_bipush hC (nI 32) (by decide +kernel) dX10_passSpaces_3 ?_
      refine z_wV hC (As := [.int (nI 32), .int (nI 32)]) (st := []) (ws2 := zMo (zy E) q (va_up h 0 (upd (h 0) 5 (nI j)))) (r := some (.int (nwC (h 5) n j (nI 32) (nI 32)))) 2 (c_X10_isAt q (va_up h 0 (upd (h 0) 5 (nI j))) n j hn hn1 rfl (by omega) (nI 32) (nI 32)) gX10_passSpaces_X10_isAt (q0 := 0) (ci := 8) (by decide +kernel) rfl rfl rfl ⟨by decide, by decide⟩ (Nat.le_of_ble_eq_true rfl) rfl rfl dX10_passSpaces_5 ?_ hkR
      refine z_if_eq hC 24 dX10_passSpaces_8 (by decide) (fun c_8 => ?_) (fun c_8 => ?_)
      · exact z_vret hC hf rfl rfl (by rw [← hj, skE_0 c_8]) dX10_passSpaces_24
      · have hjn := nwC_lt c_8
        refine z_aload_n hC 0 rfl dX10_passSpaces_11 ?_
        refine z_dup hC dX10_passSpaces_12 rfl ?_
        refine z_get hC 0 8 10 (v := .int ((upd (h 0) 5 (nI j)) 5)) rfl rfl iX10_passSpaces_X10 (by decide) (List.mem_of_getElem? (i := 1) (by decide +kernel)) rfl rfl dX10_passSpaces_13 ?_
        refine z_top (nI j) rfl ?_
        refine z_iconst hC (nI 1) (by decide +kernel) dX10_passSpaces_16 ?_
        refine z_iadd hC dX10_passSpaces_17 ?_
        refine z_top (nI (j + 1)) (nI_add _ _) ?_
        refine z_put hC 0 8 10 (ws' := zMo (zy E) q (va_up h 0 (upd (upd (h 0) 5 (nI j)) 5 (nI (j + 1))))) tyX10 .int rfl rfl iX10_passSpaces_X10 tyX10_ok nmX10 (by decide) (List.mem_of_getElem? (i := 1) (by decide +kernel)) rfl rfl (by decide +kernel) rfl rfl (Nat.le_of_ble_eq_true rfl) rfl dX10_passSpaces_18 ?_
        refine z_goto hC 0 dX10_passSpaces_21 (by decide) ?_
        refine z_sub [0] (lv' := [(0, .ref (q 0))]) rfl ?_
        exact z_cast (ih_0 (j + 1) (by omega) (by omega) ((skE_1 c_8).symm.trans hj)) rfl rfl rfl
  refine z_sub [0] (lv' := [(0, .ref (q 0))]) rfl ?_
  exact z_cast (lp_0 (n + 1) i (by omega) (by omega) rfl) rfl (zMo_at hi) rfl

set_option maxHeartbeats 4000000 in
set_option maxRecDepth 100000 in
/-- wordOf -/
theorem c_X10_wordOf {l : Launch} {y : zY} {D : va_G} (x : Int32) : zM l y D yX10_wordOf wsX10_wordOf 0 0 [.int x] ([]) ([]) (some (.int (woN x))) := by
  refine z_start (own := RX10) (cc := cX10_wordOf) (maxL := 1) (ret := (some .int)) rfl (by decide +kernel) rfl (Nat.le_of_ble_eq_true rfl) rfl ?_
  intro E hEl hEy hED h hf
  subst hEl hEy hED
  have hkR : 0 ≤ E.2.2.2.2.2.1.cells ∧ 0 ≤ E.2.2.2.2.2.1.slots := ⟨Nat.zero_le _, Nat.zero_le _⟩
  refine z_cast (lv := [(0, .int x)]) (ws := ([])) (st := []) ?_ rfl rfl rfl
  refine z_iload_n h 0 rfl dX10_wordOf_0 ?_
  by_cases c_1_0 : x = 14432
  · refine z_look h (off := 95) 96 dX10_wordOf_1 (by decide +kernel) (by rw [c_1_0]; decide +kernel) (by decide) ?_
    refine z_bipush h (nI 6) (by decide +kernel) dX10_wordOf_96 ?_
    exact z_iret h hf rfl (by simp only [woN, if_pos c_1_0]) rfl dX10_wordOf_98
  by_cases c_1_1 : x = 384611
  · refine z_look h (off := 83) 84 dX10_wordOf_1 (by decide +kernel) (by rw [c_1_1]; decide +kernel) (by decide) ?_
    refine z_iconst h (nI 0) (by decide +kernel) dX10_wordOf_84 ?_
    exact z_iret h hf rfl (by simp only [woN, if_neg c_1_0, if_pos c_1_1]) rfl dX10_wordOf_85
  by_cases c_1_2 : x = 405012
  · refine z_look h (off := 89) 90 dX10_wordOf_1 (by decide +kernel) (by rw [c_1_2]; decide +kernel) (by decide) ?_
    refine z_iconst h (nI 3) (by decide +kernel) dX10_wordOf_90 ?_
    exact z_iret h hf rfl (by simp only [woN, if_neg c_1_0, if_neg c_1_1, if_pos c_1_2]) rfl dX10_wordOf_91
  by_cases c_1_3 : x = 453774
  · refine z_look h (off := 93) 94 dX10_wordOf_1 (by decide +kernel) (by rw [c_1_3]; decide +kernel) (by decide) ?_
    refine z_iconst h (nI 5) (by decide +kernel) dX10_wordOf_94 ?_
    exact z_iret h hf rfl (by simp only [woN, if_neg c_1_0, if_neg c_1_1, if_neg c_1_2, if_pos c_1_3]) rfl dX10_wordOf_95
  by_cases c_1_4 : x = 670208
  · refine z_look h (off := 101) 102 dX10_wordOf_1 (by decide +kernel) (by rw [c_1_4]; decide +kernel) (by decide) ?_
    refine z_bipush h (nI 8) (by decide +kernel) dX10_wordOf_102 ?_
    exact z_iret h hf rfl (by simp only [woN, if_neg c_1_0, if_neg c_1_1, if_neg c_1_2, if_neg c_1_3, if_pos c_1_4]) rfl dX10_wordOf_104
  by_cases c_1_5 : x = 1627727
  · refine z_look h (off := 91) 92 dX10_wordOf_1 (by decide +kernel) (by rw [c_1_5]; decide +kernel) (by decide) ?_
    refine z_iconst h (nI 4) (by decide +kernel) dX10_wordOf_92 ?_
    exact z_iret h hf rfl (by simp only [woN, if_neg c_1_0, if_neg c_1_1, if_neg c_1_2, if_neg c_1_3, if_neg c_1_4, if_pos c_1_5]) rfl dX10_wordOf_93
  by_cases c_1_6 : x = 1842025
  · refine z_look h (off := 98) 99 dX10_wordOf_1 (by decide +kernel) (by rw [c_1_6]; decide +kernel) (by decide) ?_
    refine z_bipush h (nI 7) (by decide +kernel) dX10_wordOf_99 ?_
    exact z_iret h hf rfl (by simp only [woN, if_neg c_1_0, if_neg c_1_1, if_neg c_1_2, if_neg c_1_3, if_neg c_1_4, if_neg c_1_5, if_pos c_1_6]) rfl dX10_wordOf_101
  by_cases c_1_7 : x = 8861527
  · refine z_look h (off := 85) 86 dX10_wordOf_1 (by decide +kernel) (by rw [c_1_7]; decide +kernel) (by decide) ?_
    refine z_iconst h (nI 1) (by decide +kernel) dX10_wordOf_86 ?_
    exact z_iret h hf rfl (by simp only [woN, if_neg c_1_0, if_neg c_1_1, if_neg c_1_2, if_neg c_1_3, if_neg c_1_4, if_neg c_1_5, if_neg c_1_6, if_pos c_1_7]) rfl dX10_wordOf_87
  by_cases c_1_8 : x = 10491860
  · refine z_look h (off := 87) 88 dX10_wordOf_1 (by decide +kernel) (by rw [c_1_8]; decide +kernel) (by decide) ?_
    refine z_iconst h (nI 2) (by decide +kernel) dX10_wordOf_88 ?_
    exact z_iret h hf rfl (by simp only [woN, if_neg c_1_0, if_neg c_1_1, if_neg c_1_2, if_neg c_1_3, if_neg c_1_4, if_neg c_1_5, if_neg c_1_6, if_neg c_1_7, if_pos c_1_8]) rfl dX10_wordOf_89
  refine z_look h (off := 104) 105 dX10_wordOf_1 (by decide +kernel) (by show Op.lookupswitch.offset [(14432, 95), (384611, 83), (405012, 89), (453774, 93), (670208, 101), (1627727, 91), (1842025, 98), (8861527, 85), (10491860, 87)] _ _ = _; rw [lv_osw c_1_0 (by decide +kernel)]; rw [lv_osw c_1_1 (by decide +kernel)]; rw [lv_osw c_1_2 (by decide +kernel)]; rw [lv_osw c_1_3 (by decide +kernel)]; rw [lv_osw c_1_4 (by decide +kernel)]; rw [lv_osw c_1_5 (by decide +kernel)]; rw [lv_osw c_1_6 (by decide +kernel)]; rw [lv_osw c_1_7 (by decide +kernel)]; rw [lv_osw c_1_8 (by decide +kernel)]; rfl) (by decide) ?_
  refine z_iconst h ((-1)) (by decide +kernel) dX10_wordOf_105 ?_
  exact z_iret h hf rfl (by simp only [woN, if_neg c_1_0, if_neg c_1_1, if_neg c_1_2, if_neg c_1_3, if_neg c_1_4, if_neg c_1_5, if_neg c_1_6, if_neg c_1_7, if_neg c_1_8]) rfl dX10_wordOf_106

set_option maxHeartbeats 4000000 in
set_option maxRecDepth 100000 in
/-- numbersOf 0 -/
theorem c_X10_numbersOf_0 {l : Launch} {y : zY} {D : va_G}  : zM l y D yX10_numbersOf wsX10_numbersOf 0 0 [.int (nI 0)] ([]) ([]) (some (.int (nI (nbN 0)))) := by
  refine z_start (own := RX10) (cc := cX10_numbersOf) (maxL := 1) (ret := (some .int)) rfl (by decide +kernel) rfl (Nat.le_of_ble_eq_true rfl) rfl ?_
  intro E hEl hEy hED h hf
  subst hEl hEy hED
  have hkR : 0 ≤ E.2.2.2.2.2.1.cells ∧ 0 ≤ E.2.2.2.2.2.1.slots := ⟨Nat.zero_le _, Nat.zero_le _⟩
  refine z_cast (lv := [(0, .int (nI 0))]) (ws := ([])) (st := []) ?_ rfl rfl rfl
  refine z_iload_n h 0 rfl dX10_numbersOf_0 ?_
  refine z_bipush h (nI 8) (by decide +kernel) dX10_numbersOf_1 ?_
  refine z_icmp_ne h 10 dX10_numbersOf_3 (by decide) (fun c_3 => ?_) (fun c_3 => ?_)
  · refine z_iload_n h 0 rfl dX10_numbersOf_10 ?_
    refine z_iconst h (nI 4) (by decide +kernel) dX10_numbersOf_11 ?_
    refine z_icmp_ne h 19 dX10_numbersOf_12 (by decide) (fun c_12 => ?_) (fun c_12 => ?_)
    · refine z_iload_n h 0 rfl dX10_numbersOf_19 ?_
      refine z_iconst h (nI 1) (by decide +kernel) dX10_numbersOf_20 ?_
      refine z_icmp_eq h 29 dX10_numbersOf_21 (by decide) (fun c_21 => ?_) (fun c_21 => ?_)
      · exact absurd c_21 (by decide +kernel)
      · refine z_iload_n h 0 rfl dX10_numbersOf_24 ?_
        refine z_iconst h (nI 2) (by decide +kernel) dX10_numbersOf_25 ?_
        refine z_icmp_ne h 33 dX10_numbersOf_26 (by decide) (fun c_26 => ?_) (fun c_26 => ?_)
        · refine z_iconst h (nI 1) (by decide +kernel) dX10_numbersOf_33 ?_
          exact z_iret h hf rfl rfl rfl dX10_numbersOf_34
        · exact absurd c_26 (by decide +kernel)
    · exact absurd c_12 (by decide +kernel)
  · exact absurd c_3 (by decide +kernel)

set_option maxHeartbeats 4000000 in
set_option maxRecDepth 100000 in
/-- numbersOf 1 -/
theorem c_X10_numbersOf_1 {l : Launch} {y : zY} {D : va_G}  : zM l y D yX10_numbersOf wsX10_numbersOf 0 0 [.int (nI 1)] ([]) ([]) (some (.int (nI (nbN 1)))) := by
  refine z_start (own := RX10) (cc := cX10_numbersOf) (maxL := 1) (ret := (some .int)) rfl (by decide +kernel) rfl (Nat.le_of_ble_eq_true rfl) rfl ?_
  intro E hEl hEy hED h hf
  subst hEl hEy hED
  have hkR : 0 ≤ E.2.2.2.2.2.1.cells ∧ 0 ≤ E.2.2.2.2.2.1.slots := ⟨Nat.zero_le _, Nat.zero_le _⟩
  refine z_cast (lv := [(0, .int (nI 1))]) (ws := ([])) (st := []) ?_ rfl rfl rfl
  refine z_iload_n h 0 rfl dX10_numbersOf_0 ?_
  refine z_bipush h (nI 8) (by decide +kernel) dX10_numbersOf_1 ?_
  refine z_icmp_ne h 10 dX10_numbersOf_3 (by decide) (fun c_3 => ?_) (fun c_3 => ?_)
  · refine z_iload_n h 0 rfl dX10_numbersOf_10 ?_
    refine z_iconst h (nI 4) (by decide +kernel) dX10_numbersOf_11 ?_
    refine z_icmp_ne h 19 dX10_numbersOf_12 (by decide) (fun c_12 => ?_) (fun c_12 => ?_)
    · refine z_iload_n h 0 rfl dX10_numbersOf_19 ?_
      refine z_iconst h (nI 1) (by decide +kernel) dX10_numbersOf_20 ?_
      refine z_icmp_eq h 29 dX10_numbersOf_21 (by decide) (fun c_21 => ?_) (fun c_21 => ?_)
      · refine z_iconst h (nI 2) (by decide +kernel) dX10_numbersOf_29 ?_
        refine z_goto h 34 dX10_numbersOf_30 (by decide) ?_
        exact z_iret h hf rfl rfl rfl dX10_numbersOf_34
      · exact absurd c_21 (by decide +kernel)
    · exact absurd c_12 (by decide +kernel)
  · exact absurd c_3 (by decide +kernel)

set_option maxHeartbeats 4000000 in
set_option maxRecDepth 100000 in
/-- numbersOf 2 -/
theorem c_X10_numbersOf_2 {l : Launch} {y : zY} {D : va_G}  : zM l y D yX10_numbersOf wsX10_numbersOf 0 0 [.int (nI 2)] ([]) ([]) (some (.int (nI (nbN 2)))) := by
  refine z_start (own := RX10) (cc := cX10_numbersOf) (maxL := 1) (ret := (some .int)) rfl (by decide +kernel) rfl (Nat.le_of_ble_eq_true rfl) rfl ?_
  intro E hEl hEy hED h hf
  subst hEl hEy hED
  have hkR : 0 ≤ E.2.2.2.2.2.1.cells ∧ 0 ≤ E.2.2.2.2.2.1.slots := ⟨Nat.zero_le _, Nat.zero_le _⟩
  refine z_cast (lv := [(0, .int (nI 2))]) (ws := ([])) (st := []) ?_ rfl rfl rfl
  refine z_iload_n h 0 rfl dX10_numbersOf_0 ?_
  refine z_bipush h (nI 8) (by decide +kernel) dX10_numbersOf_1 ?_
  refine z_icmp_ne h 10 dX10_numbersOf_3 (by decide) (fun c_3 => ?_) (fun c_3 => ?_)
  · refine z_iload_n h 0 rfl dX10_numbersOf_10 ?_
    refine z_iconst h (nI 4) (by decide +kernel) dX10_numbersOf_11 ?_
    refine z_icmp_ne h 19 dX10_numbersOf_12 (by decide) (fun c_12 => ?_) (fun c_12 => ?_)
    · refine z_iload_n h 0 rfl dX10_numbersOf_19 ?_
      refine z_iconst h (nI 1) (by decide +kernel) dX10_numbersOf_20 ?_
      refine z_icmp_eq h 29 dX10_numbersOf_21 (by decide) (fun c_21 => ?_) (fun c_21 => ?_)
      · exact absurd c_21 (by decide +kernel)
      · refine z_iload_n h 0 rfl dX10_numbersOf_24 ?_
        refine z_iconst h (nI 2) (by decide +kernel) dX10_numbersOf_25 ?_
        refine z_icmp_ne h 33 dX10_numbersOf_26 (by decide) (fun c_26 => ?_) (fun c_26 => ?_)
        · exact absurd c_26 (by decide +kernel)
        · refine z_iconst h (nI 2) (by decide +kernel) dX10_numbersOf_29 ?_
          refine z_goto h 34 dX10_numbersOf_30 (by decide) ?_
          exact z_iret h hf rfl rfl rfl dX10_numbersOf_34
    · exact absurd c_12 (by decide +kernel)
  · exact absurd c_3 (by decide +kernel)

set_option maxHeartbeats 4000000 in
set_option maxRecDepth 100000 in
/-- numbersOf 3 -/
theorem c_X10_numbersOf_3 {l : Launch} {y : zY} {D : va_G}  : zM l y D yX10_numbersOf wsX10_numbersOf 0 0 [.int (nI 3)] ([]) ([]) (some (.int (nI (nbN 3)))) := by
  refine z_start (own := RX10) (cc := cX10_numbersOf) (maxL := 1) (ret := (some .int)) rfl (by decide +kernel) rfl (Nat.le_of_ble_eq_true rfl) rfl ?_
  intro E hEl hEy hED h hf
  subst hEl hEy hED
  have hkR : 0 ≤ E.2.2.2.2.2.1.cells ∧ 0 ≤ E.2.2.2.2.2.1.slots := ⟨Nat.zero_le _, Nat.zero_le _⟩
  refine z_cast (lv := [(0, .int (nI 3))]) (ws := ([])) (st := []) ?_ rfl rfl rfl
  refine z_iload_n h 0 rfl dX10_numbersOf_0 ?_
  refine z_bipush h (nI 8) (by decide +kernel) dX10_numbersOf_1 ?_
  refine z_icmp_ne h 10 dX10_numbersOf_3 (by decide) (fun c_3 => ?_) (fun c_3 => ?_)
  · refine z_iload_n h 0 rfl dX10_numbersOf_10 ?_
    refine z_iconst h (nI 4) (by decide +kernel) dX10_numbersOf_11 ?_
    refine z_icmp_ne h 19 dX10_numbersOf_12 (by decide) (fun c_12 => ?_) (fun c_12 => ?_)
    · refine z_iload_n h 0 rfl dX10_numbersOf_19 ?_
      refine z_iconst h (nI 1) (by decide +kernel) dX10_numbersOf_20 ?_
      refine z_icmp_eq h 29 dX10_numbersOf_21 (by decide) (fun c_21 => ?_) (fun c_21 => ?_)
      · exact absurd c_21 (by decide +kernel)
      · refine z_iload_n h 0 rfl dX10_numbersOf_24 ?_
        refine z_iconst h (nI 2) (by decide +kernel) dX10_numbersOf_25 ?_
        refine z_icmp_ne h 33 dX10_numbersOf_26 (by decide) (fun c_26 => ?_) (fun c_26 => ?_)
        · refine z_iconst h (nI 1) (by decide +kernel) dX10_numbersOf_33 ?_
          exact z_iret h hf rfl rfl rfl dX10_numbersOf_34
        · exact absurd c_26 (by decide +kernel)
    · exact absurd c_12 (by decide +kernel)
  · exact absurd c_3 (by decide +kernel)

set_option maxHeartbeats 4000000 in
set_option maxRecDepth 100000 in
/-- numbersOf 4 -/
theorem c_X10_numbersOf_4 {l : Launch} {y : zY} {D : va_G}  : zM l y D yX10_numbersOf wsX10_numbersOf 0 0 [.int (nI 4)] ([]) ([]) (some (.int (nI (nbN 4)))) := by
  refine z_start (own := RX10) (cc := cX10_numbersOf) (maxL := 1) (ret := (some .int)) rfl (by decide +kernel) rfl (Nat.le_of_ble_eq_true rfl) rfl ?_
  intro E hEl hEy hED h hf
  subst hEl hEy hED
  have hkR : 0 ≤ E.2.2.2.2.2.1.cells ∧ 0 ≤ E.2.2.2.2.2.1.slots := ⟨Nat.zero_le _, Nat.zero_le _⟩
  refine z_cast (lv := [(0, .int (nI 4))]) (ws := ([])) (st := []) ?_ rfl rfl rfl
  refine z_iload_n h 0 rfl dX10_numbersOf_0 ?_
  refine z_bipush h (nI 8) (by decide +kernel) dX10_numbersOf_1 ?_
  refine z_icmp_ne h 10 dX10_numbersOf_3 (by decide) (fun c_3 => ?_) (fun c_3 => ?_)
  · refine z_iload_n h 0 rfl dX10_numbersOf_10 ?_
    refine z_iconst h (nI 4) (by decide +kernel) dX10_numbersOf_11 ?_
    refine z_icmp_ne h 19 dX10_numbersOf_12 (by decide) (fun c_12 => ?_) (fun c_12 => ?_)
    · exact absurd c_12 (by decide +kernel)
    · refine z_iconst h (nI 4) (by decide +kernel) dX10_numbersOf_15 ?_
      refine z_goto h 34 dX10_numbersOf_16 (by decide) ?_
      exact z_iret h hf rfl rfl rfl dX10_numbersOf_34
  · exact absurd c_3 (by decide +kernel)

set_option maxHeartbeats 4000000 in
set_option maxRecDepth 100000 in
/-- numbersOf 5 -/
theorem c_X10_numbersOf_5 {l : Launch} {y : zY} {D : va_G}  : zM l y D yX10_numbersOf wsX10_numbersOf 0 0 [.int (nI 5)] ([]) ([]) (some (.int (nI (nbN 5)))) := by
  refine z_start (own := RX10) (cc := cX10_numbersOf) (maxL := 1) (ret := (some .int)) rfl (by decide +kernel) rfl (Nat.le_of_ble_eq_true rfl) rfl ?_
  intro E hEl hEy hED h hf
  subst hEl hEy hED
  have hkR : 0 ≤ E.2.2.2.2.2.1.cells ∧ 0 ≤ E.2.2.2.2.2.1.slots := ⟨Nat.zero_le _, Nat.zero_le _⟩
  refine z_cast (lv := [(0, .int (nI 5))]) (ws := ([])) (st := []) ?_ rfl rfl rfl
  refine z_iload_n h 0 rfl dX10_numbersOf_0 ?_
  refine z_bipush h (nI 8) (by decide +kernel) dX10_numbersOf_1 ?_
  refine z_icmp_ne h 10 dX10_numbersOf_3 (by decide) (fun c_3 => ?_) (fun c_3 => ?_)
  · refine z_iload_n h 0 rfl dX10_numbersOf_10 ?_
    refine z_iconst h (nI 4) (by decide +kernel) dX10_numbersOf_11 ?_
    refine z_icmp_ne h 19 dX10_numbersOf_12 (by decide) (fun c_12 => ?_) (fun c_12 => ?_)
    · refine z_iload_n h 0 rfl dX10_numbersOf_19 ?_
      refine z_iconst h (nI 1) (by decide +kernel) dX10_numbersOf_20 ?_
      refine z_icmp_eq h 29 dX10_numbersOf_21 (by decide) (fun c_21 => ?_) (fun c_21 => ?_)
      · exact absurd c_21 (by decide +kernel)
      · refine z_iload_n h 0 rfl dX10_numbersOf_24 ?_
        refine z_iconst h (nI 2) (by decide +kernel) dX10_numbersOf_25 ?_
        refine z_icmp_ne h 33 dX10_numbersOf_26 (by decide) (fun c_26 => ?_) (fun c_26 => ?_)
        · refine z_iconst h (nI 1) (by decide +kernel) dX10_numbersOf_33 ?_
          exact z_iret h hf rfl rfl rfl dX10_numbersOf_34
        · exact absurd c_26 (by decide +kernel)
    · exact absurd c_12 (by decide +kernel)
  · exact absurd c_3 (by decide +kernel)

set_option maxHeartbeats 4000000 in
set_option maxRecDepth 100000 in
/-- numbersOf 6 -/
theorem c_X10_numbersOf_6 {l : Launch} {y : zY} {D : va_G}  : zM l y D yX10_numbersOf wsX10_numbersOf 0 0 [.int (nI 6)] ([]) ([]) (some (.int (nI (nbN 6)))) := by
  refine z_start (own := RX10) (cc := cX10_numbersOf) (maxL := 1) (ret := (some .int)) rfl (by decide +kernel) rfl (Nat.le_of_ble_eq_true rfl) rfl ?_
  intro E hEl hEy hED h hf
  subst hEl hEy hED
  have hkR : 0 ≤ E.2.2.2.2.2.1.cells ∧ 0 ≤ E.2.2.2.2.2.1.slots := ⟨Nat.zero_le _, Nat.zero_le _⟩
  refine z_cast (lv := [(0, .int (nI 6))]) (ws := ([])) (st := []) ?_ rfl rfl rfl
  refine z_iload_n h 0 rfl dX10_numbersOf_0 ?_
  refine z_bipush h (nI 8) (by decide +kernel) dX10_numbersOf_1 ?_
  refine z_icmp_ne h 10 dX10_numbersOf_3 (by decide) (fun c_3 => ?_) (fun c_3 => ?_)
  · refine z_iload_n h 0 rfl dX10_numbersOf_10 ?_
    refine z_iconst h (nI 4) (by decide +kernel) dX10_numbersOf_11 ?_
    refine z_icmp_ne h 19 dX10_numbersOf_12 (by decide) (fun c_12 => ?_) (fun c_12 => ?_)
    · refine z_iload_n h 0 rfl dX10_numbersOf_19 ?_
      refine z_iconst h (nI 1) (by decide +kernel) dX10_numbersOf_20 ?_
      refine z_icmp_eq h 29 dX10_numbersOf_21 (by decide) (fun c_21 => ?_) (fun c_21 => ?_)
      · exact absurd c_21 (by decide +kernel)
      · refine z_iload_n h 0 rfl dX10_numbersOf_24 ?_
        refine z_iconst h (nI 2) (by decide +kernel) dX10_numbersOf_25 ?_
        refine z_icmp_ne h 33 dX10_numbersOf_26 (by decide) (fun c_26 => ?_) (fun c_26 => ?_)
        · refine z_iconst h (nI 1) (by decide +kernel) dX10_numbersOf_33 ?_
          exact z_iret h hf rfl rfl rfl dX10_numbersOf_34
        · exact absurd c_26 (by decide +kernel)
    · exact absurd c_12 (by decide +kernel)
  · exact absurd c_3 (by decide +kernel)

set_option maxHeartbeats 4000000 in
set_option maxRecDepth 100000 in
/-- numbersOf 7 -/
theorem c_X10_numbersOf_7 {l : Launch} {y : zY} {D : va_G}  : zM l y D yX10_numbersOf wsX10_numbersOf 0 0 [.int (nI 7)] ([]) ([]) (some (.int (nI (nbN 7)))) := by
  refine z_start (own := RX10) (cc := cX10_numbersOf) (maxL := 1) (ret := (some .int)) rfl (by decide +kernel) rfl (Nat.le_of_ble_eq_true rfl) rfl ?_
  intro E hEl hEy hED h hf
  subst hEl hEy hED
  have hkR : 0 ≤ E.2.2.2.2.2.1.cells ∧ 0 ≤ E.2.2.2.2.2.1.slots := ⟨Nat.zero_le _, Nat.zero_le _⟩
  refine z_cast (lv := [(0, .int (nI 7))]) (ws := ([])) (st := []) ?_ rfl rfl rfl
  refine z_iload_n h 0 rfl dX10_numbersOf_0 ?_
  refine z_bipush h (nI 8) (by decide +kernel) dX10_numbersOf_1 ?_
  refine z_icmp_ne h 10 dX10_numbersOf_3 (by decide) (fun c_3 => ?_) (fun c_3 => ?_)
  · refine z_iload_n h 0 rfl dX10_numbersOf_10 ?_
    refine z_iconst h (nI 4) (by decide +kernel) dX10_numbersOf_11 ?_
    refine z_icmp_ne h 19 dX10_numbersOf_12 (by decide) (fun c_12 => ?_) (fun c_12 => ?_)
    · refine z_iload_n h 0 rfl dX10_numbersOf_19 ?_
      refine z_iconst h (nI 1) (by decide +kernel) dX10_numbersOf_20 ?_
      refine z_icmp_eq h 29 dX10_numbersOf_21 (by decide) (fun c_21 => ?_) (fun c_21 => ?_)
      · exact absurd c_21 (by decide +kernel)
      · refine z_iload_n h 0 rfl dX10_numbersOf_24 ?_
        refine z_iconst h (nI 2) (by decide +kernel) dX10_numbersOf_25 ?_
        refine z_icmp_ne h 33 dX10_numbersOf_26 (by decide) (fun c_26 => ?_) (fun c_26 => ?_)
        · refine z_iconst h (nI 1) (by decide +kernel) dX10_numbersOf_33 ?_
          exact z_iret h hf rfl rfl rfl dX10_numbersOf_34
        · exact absurd c_26 (by decide +kernel)
    · exact absurd c_12 (by decide +kernel)
  · exact absurd c_3 (by decide +kernel)

set_option maxHeartbeats 4000000 in
set_option maxRecDepth 100000 in
/-- numbersOf 8 -/
theorem c_X10_numbersOf_8 {l : Launch} {y : zY} {D : va_G}  : zM l y D yX10_numbersOf wsX10_numbersOf 0 0 [.int (nI 8)] ([]) ([]) (some (.int (nI (nbN 8)))) := by
  refine z_start (own := RX10) (cc := cX10_numbersOf) (maxL := 1) (ret := (some .int)) rfl (by decide +kernel) rfl (Nat.le_of_ble_eq_true rfl) rfl ?_
  intro E hEl hEy hED h hf
  subst hEl hEy hED
  have hkR : 0 ≤ E.2.2.2.2.2.1.cells ∧ 0 ≤ E.2.2.2.2.2.1.slots := ⟨Nat.zero_le _, Nat.zero_le _⟩
  refine z_cast (lv := [(0, .int (nI 8))]) (ws := ([])) (st := []) ?_ rfl rfl rfl
  refine z_iload_n h 0 rfl dX10_numbersOf_0 ?_
  refine z_bipush h (nI 8) (by decide +kernel) dX10_numbersOf_1 ?_
  refine z_icmp_ne h 10 dX10_numbersOf_3 (by decide) (fun c_3 => ?_) (fun c_3 => ?_)
  · exact absurd c_3 (by decide +kernel)
  · refine z_iconst h (nI 0) (by decide +kernel) dX10_numbersOf_6 ?_
    refine z_goto h 34 dX10_numbersOf_7 (by decide) ?_
    exact z_iret h hf rfl rfl rfl dX10_numbersOf_34

theorem c_X10_numbersOf {l : Launch} {y : zY} {D : va_G} : ∀ w, w < 9 → zM l y D yX10_numbersOf wsX10_numbersOf 0 0 [.int (nI w)] [] [] (some (.int (nI (nbN w)))) :=
  w9 c_X10_numbersOf_0 c_X10_numbersOf_1 c_X10_numbersOf_2 c_X10_numbersOf_3 c_X10_numbersOf_4 c_X10_numbersOf_5 c_X10_numbersOf_6 c_X10_numbersOf_7 c_X10_numbersOf_8

theorem iX10_due_X10 : ∀ w ∈ u_ws RX10 TX10 15, w ∈ wsX10_due := by decide +kernel
set_option maxHeartbeats 4000000 in
set_option maxRecDepth 100000 in
/-- due -/
theorem c_X10_due {l : Launch} {y : zY} {D : va_G} (q : Nat → Nat) (h : Nat → Nat → Int32) (b : Int32) (i : Nat) (hF : h 0 6 = (-1)) (hi : h 0 5 = nI i) : zM l y D yX10_due wsX10_due 0 0 [.ref (q 0), .int b] (zMo y q h) (zMo y q (va_up h 0 (upd (h 0) 6 (duV (-1) b i)))) (some (.int (duR (-1) b i))) := by
  refine z_start (own := RX10) (cc := cX10_due) (maxL := 2) (ret := (some .boolean)) rfl (by decide +kernel) rfl (Nat.le_of_ble_eq_true rfl) (zMo_fst _ _ _ _) ?_
  intro E hEl hEy hED hC hf
  subst hEl hEy hED
  have hkR : 0 ≤ E.2.2.2.2.2.1.cells ∧ 0 ≤ E.2.2.2.2.2.1.slots := ⟨Nat.zero_le _, Nat.zero_le _⟩
  refine z_cast (lv := [(0, .ref (q 0)), (1, .int b)]) (ws := (zMo (zy E) q h)) (st := []) ?_ rfl rfl rfl
  refine z_aload_n hC 0 rfl dX10_due_0 ?_
  refine z_aload_n hC 0 rfl dX10_due_1 ?_
  refine z_get hC 0 8 11 (v := .int ((h 0) 6)) rfl rfl iX10_due_X10 (by decide) (List.mem_of_getElem? (i := 1) (by decide +kernel)) rfl rfl dX10_due_2 ?_
  refine z_top (-1) hF ?_
  refine z_iconst hC ((-1)) (by decide +kernel) dX10_due_5 ?_
  refine z_icmp_ne hC 20 dX10_due_6 (by decide) (fun c_6 => ?_) (fun c_6 => ?_)
  · exact absurd rfl c_6
  · refine z_iload_n hC 1 rfl dX10_due_9 ?_
    refine z_if_ne hC 20 dX10_due_10 (by decide) (fun c_10 => ?_) (fun c_10 => ?_)
    · refine z_aload_n hC 0 rfl dX10_due_20 ?_
      refine z_get hC 0 8 11 (v := .int ((h 0) 6)) rfl rfl iX10_due_X10 (by decide) (List.mem_of_getElem? (i := 1) (by decide +kernel)) rfl rfl dX10_due_21 ?_
      refine z_top (-1) hF ?_
      refine z_put hC 0 8 11 (ws' := zMo (zy E) q (va_up h 0 (upd (h 0) 6 (-1)))) tyX10 .int rfl rfl iX10_due_X10 tyX10_ok nmX10 (by decide) (List.mem_of_getElem? (i := 1) (by decide +kernel)) rfl rfl (by decide +kernel) rfl rfl (Nat.le_of_ble_eq_true rfl) rfl dX10_due_24 ?_
      refine z_aload_n hC 0 rfl dX10_due_27 ?_
      refine z_get hC 0 8 11 (v := .int ((upd (h 0) 6 (-1)) 6)) rfl rfl iX10_due_X10 (by decide) (List.mem_of_getElem? (i := 1) (by decide +kernel)) rfl rfl dX10_due_28 ?_
      refine z_top (duV (-1) b i) (show _ = duV (-1) b i by rw [show duV (-1) b i = _ from (if_pos rfl).trans (if_neg c_10)]; rfl) ?_
      refine z_iconst hC ((-1)) (by decide +kernel) dX10_due_31 ?_
      refine z_icmp_ne hC 39 dX10_due_32 (by decide) (fun c_32 => ?_) (fun c_32 => ?_)
      · refine z_iconst hC (nI 0) (by decide +kernel) dX10_due_39 ?_
        exact z_zret hC hf rfl (by decide +kernel) (by rw [duR, if_neg c_32]) (by rw [show duV (-1) b i = _ from (if_pos rfl).trans (if_neg c_10)] <;> rfl) dX10_due_40
      · refine z_iconst hC (nI 1) (by decide +kernel) dX10_due_35 ?_
        refine z_goto hC 40 dX10_due_36 (by decide) ?_
        exact z_zret hC hf rfl (by decide +kernel) (by rw [duR, if_pos c_32]) (by rw [show duV (-1) b i = _ from (if_pos rfl).trans (if_neg c_10)] <;> rfl) dX10_due_40
    · refine z_aload_n hC 0 rfl dX10_due_13 ?_
      refine z_get hC 0 8 10 (v := .int ((h 0) 5)) rfl rfl iX10_due_X10 (by decide) (List.mem_of_getElem? (i := 2) (by decide +kernel)) rfl rfl dX10_due_14 ?_
      refine z_top (nI i) hi ?_
      refine z_goto hC 24 dX10_due_17 (by decide) ?_
      refine z_put hC 0 8 11 (ws' := zMo (zy E) q (va_up h 0 (upd (h 0) 6 (nI i)))) tyX10 .int rfl rfl iX10_due_X10 tyX10_ok nmX10 (by decide) (List.mem_of_getElem? (i := 1) (by decide +kernel)) rfl rfl (by decide +kernel) rfl rfl (Nat.le_of_ble_eq_true rfl) rfl dX10_due_24 ?_
      refine z_aload_n hC 0 rfl dX10_due_27 ?_
      refine z_get hC 0 8 11 (v := .int ((upd (h 0) 6 (nI i)) 6)) rfl rfl iX10_due_X10 (by decide) (List.mem_of_getElem? (i := 1) (by decide +kernel)) rfl rfl dX10_due_28 ?_
      refine z_top (duV (-1) b i) (show _ = duV (-1) b i by rw [show duV (-1) b i = _ from (if_pos rfl).trans (if_pos c_10)]; rfl) ?_
      refine z_iconst hC ((-1)) (by decide +kernel) dX10_due_31 ?_
      refine z_icmp_ne hC 39 dX10_due_32 (by decide) (fun c_32 => ?_) (fun c_32 => ?_)
      · refine z_iconst hC (nI 0) (by decide +kernel) dX10_due_39 ?_
        exact z_zret hC hf rfl (by decide +kernel) (by rw [duR, if_neg c_32]) (by rw [show duV (-1) b i = _ from (if_pos rfl).trans (if_pos c_10)] <;> rfl) dX10_due_40
      · refine z_iconst hC (nI 1) (by decide +kernel) dX10_due_35 ?_
        refine z_goto hC 40 dX10_due_36 (by decide) ?_
        exact z_zret hC hf rfl (by decide +kernel) (by rw [duR, if_pos c_32]) (by rw [show duV (-1) b i = _ from (if_pos rfl).trans (if_pos c_10)] <;> rfl) dX10_due_40

theorem iX10_readWord_X10 : ∀ w ∈ u_ws RX10 TX10 15, w ∈ wsX10_readWord := by decide +kernel
set_option maxHeartbeats 4000000 in
set_option maxRecDepth 100000 in
/-- readWord -/
theorem c_X10_readWord {l : Launch} {y : zY} {D : va_G} (q : Nat → Nat) (h : Nat → Nat → Int32) (n i : Nat) (hn : h 0 4 = nI n) (hn1 : n ≤ 150) (hi : h 0 5 = nI i) (hi1 : i ≤ n) : zM l y D yX10_readWord wsX10_readWord 2 44 [.ref (q 0)] (zMo y q h) (zMo y q (rwG h n i)) (none) := by
  refine z_start (own := RX10) (cc := cX10_readWord) (maxL := 3) (ret := none) rfl (by decide +kernel) rfl (Nat.le_of_ble_eq_true rfl) (zMo_fst _ _ _ _) ?_
  intro E hEl hEy hED hC hf
  subst hEl hEy hED
  have hkR : 0 ≤ E.2.2.2.2.2.1.cells ∧ 0 ≤ E.2.2.2.2.2.1.slots := ⟨Nat.zero_le _, Nat.zero_le _⟩
  refine z_cast (lv := [(0, .ref (q 0))]) (ws := (zMo (zy E) q h)) (st := []) ?_ rfl rfl rfl
  refine z_aload_n hC 0 rfl dX10_readWord_0 ?_
  refine z_get hC 0 8 10 (v := .int ((h 0) 5)) rfl rfl iX10_readWord_X10 (by decide) (List.mem_of_getElem? (i := 1) (by decide +kernel)) rfl rfl dX10_readWord_1 ?_
  refine z_top (nI i) hi ?_
  refine z_istore_n hC (by decide) (lv' := [(1, .int (nI i)), (0, .ref (q 0))]) rfl dX10_readWord_4 ?_
  refine z_iconst hC (nI 0) (by decide +kernel) dX10_readWord_5 ?_
  refine z_istore_n hC (by decide) (lv' := [(2, .int (nI 0)), (1, .int (nI i)), (0, .ref (q 0))]) rfl dX10_readWord_6 ?_
  have lp_7 : ∀ (d_7 j : Nat), n < j + d_7 → j ≤ n → (skE (h 5) n (nI 97) (nI 122) j = skE (h 5) n (nI 97) (nI 122) i) → (i ≤ j) → Z E 0 0 [(0, .ref (q 0)), (1, .int (nI i)), (2, .int (ltI (h 5) i (j - i)))] (zMo (zy E) q (va_up h 0 (upd (h 0) 5 (nI j)))) 7 [] := by
    intro d_7
    induction d_7 with
    | zero => intro j  q1 q2; omega
    | succ d_7 ih_7 =>
      intro j  q1_7 q2_7 hj hji
      refine z_aload_n hC 0 rfl dX10_readWord_7 ?_
      refine z_bipush hC (nI 97) (by decide +kernel) dX10_readWord_8 ?_
      refine z_bipush hC (nI 122) (by decide +kernel) dX10_readWord_10 ?_
      refine z_wV hC (As := [.int (nI 97), .int (nI 122)]) (st := []) (ws2 := zMo (zy E) q (va_up h 0 (upd (h 0) 5 (nI j)))) (r := some (.int (nwC (h 5) n j (nI 97) (nI 122)))) 2 (c_X10_isAt q (va_up h 0 (upd (h 0) 5 (nI j))) n j hn hn1 rfl (by omega) (nI 97) (nI 122)) gX10_readWord_X10_isAt (q0 := 0) (ci := 8) (by decide +kernel) rfl rfl rfl ⟨by decide, by decide⟩ (Nat.le_of_ble_eq_true rfl) rfl rfl dX10_readWord_12 ?_ hkR
      refine z_if_eq hC 63 dX10_readWord_15 (by decide) (fun c_15 => ?_) (fun c_15 => ?_)
      · have hj7 : skE (h 5) n (nI 97) (nI 122) i = j := by rw [← hj, skE_0 c_15]
        refine z_aload_n hC 0 rfl dX10_readWord_63 ?_
        refine z_aload_n hC 0 rfl dX10_readWord_64 ?_
        refine z_get hC 0 8 10 (v := .int ((upd (h 0) 5 (nI j)) 5)) rfl rfl iX10_readWord_X10 (by decide) (List.mem_of_getElem? (i := 1) (by decide +kernel)) rfl rfl dX10_readWord_65 ?_
        refine z_top (nI j) rfl ?_
        refine z_iload_n hC 1 rfl dX10_readWord_68 ?_
        refine z_isub hC dX10_readWord_69 ?_
        refine z_top (nI (j - i)) (pk_sub hji) ?_
        refine z_iconst hC (nI 5) (by decide +kernel) dX10_readWord_70 ?_
        refine z_icmp_le hC 78 dX10_readWord_71 (by decide) (fun c_71 => ?_) (fun c_71 => ?_)
        · have k_71 : (j - i) ≤ 5 := (nI_leI (by omega) (by omega)).mp c_71
          refine z_iload_n hC 2 rfl dX10_readWord_78 ?_
          refine z_callS hC (As := [.int (ltI (h 5) i (j - i))]) (st := [.ref (q 0)]) (ws2 := zMo (zy E) q (va_up h 0 (upd (h 0) 5 (nI j)))) (B := []) (B' := []) (r := some (.int (woN (ltI (h 5) i (j - i))))) 1 (c_X10_wordOf (ltI (h 5) i (j - i))) gX10_readWord_X10_wordOf (by decide +kernel) rfl ⟨by decide, by decide⟩ [] rfl (by decide) rfl (Nat.le_of_ble_eq_true rfl) rfl rfl dX10_readWord_79 ?_ hkR
          refine z_top (woC (h 5) i (skE (h 5) n (nI 97) (nI 122) i)) (by rw [woC, hj7, if_pos k_71]) ?_
          refine z_put hC 0 8 13 (ws' := zMo (zy E) q (va_up h 0 (upd (upd (h 0) 5 (nI j)) 8 (woC (h 5) i (skE (h 5) n (nI 97) (nI 122) i))))) tyX10 .int rfl rfl iX10_readWord_X10 tyX10_ok nmX10 (by decide) (List.mem_of_getElem? (i := 3) (by decide +kernel)) rfl rfl (by decide +kernel) rfl rfl (Nat.le_of_ble_eq_true rfl) rfl dX10_readWord_82 ?_
          refine z_aload_n hC 0 rfl dX10_readWord_85 ?_
          refine z_aload_n hC 0 rfl dX10_readWord_86 ?_
          refine z_get hC 0 8 13 (v := .int ((upd (upd (h 0) 5 (nI j)) 8 (woC (h 5) i (skE (h 5) n (nI 97) (nI 122) i))) 8)) rfl rfl iX10_readWord_X10 (by decide) (List.mem_of_getElem? (i := 3) (by decide +kernel)) rfl rfl dX10_readWord_87 ?_
          refine z_top (woC (h 5) i (skE (h 5) n (nI 97) (nI 122) i)) rfl ?_
          refine z_iconst hC ((-1)) (by decide +kernel) dX10_readWord_90 ?_
          refine z_icmp_ne hC 98 dX10_readWord_91 (by decide) (fun c_91 => ?_) (fun c_91 => ?_)
          · refine z_aload_n hC 0 rfl dX10_readWord_98 ?_
            refine z_get hC 0 8 11 (v := .int ((upd (upd (h 0) 5 (nI j)) 8 (woC (h 5) i (skE (h 5) n (nI 97) (nI 122) i))) 6)) rfl rfl iX10_readWord_X10 (by decide) (List.mem_of_getElem? (i := 4) (by decide +kernel)) rfl rfl dX10_readWord_99 ?_
            refine z_put hC 0 8 11 (ws' := zMo (zy E) q (va_up h 0 (upd (upd (upd (h 0) 5 (nI j)) 8 (woC (h 5) i (skE (h 5) n (nI 97) (nI 122) i))) 6 ((upd (upd (h 0) 5 (nI j)) 8 (woC (h 5) i (skE (h 5) n (nI 97) (nI 122) i))) 6)))) tyX10 .int rfl rfl iX10_readWord_X10 tyX10_ok nmX10 (by decide) (List.mem_of_getElem? (i := 4) (by decide +kernel)) rfl rfl (by decide +kernel) rfl rfl (Nat.le_of_ble_eq_true rfl) rfl dX10_readWord_102 ?_
            exact z_vret hC hf rfl rfl (by unfold rwG; rw [if_neg c_91, hj7] <;> rfl) dX10_readWord_105
          · refine z_iload_n hC 1 rfl dX10_readWord_94 ?_
            refine z_goto hC 102 dX10_readWord_95 (by decide) ?_
            refine z_put hC 0 8 11 (ws' := zMo (zy E) q (va_up h 0 (upd (upd (upd (h 0) 5 (nI j)) 8 (woC (h 5) i (skE (h 5) n (nI 97) (nI 122) i))) 6 (nI i)))) tyX10 .int rfl rfl iX10_readWord_X10 tyX10_ok nmX10 (by decide) (List.mem_of_getElem? (i := 4) (by decide +kernel)) rfl rfl (by decide +kernel) rfl rfl (Nat.le_of_ble_eq_true rfl) rfl dX10_readWord_102 ?_
            exact z_vret hC hf rfl rfl (by unfold rwG; rw [if_pos c_91, hj7] <;> rfl) dX10_readWord_105
        · have k_71 : ¬ ((j - i) ≤ 5) := fun q => c_71 ((nI_leI (by omega) (by omega)).mpr q)
          refine z_iconst hC (nI 0) (by decide +kernel) dX10_readWord_74 ?_
          refine z_goto hC 79 dX10_readWord_75 (by decide) ?_
          refine z_callS hC (As := [.int (nI 0)]) (st := [.ref (q 0)]) (ws2 := zMo (zy E) q (va_up h 0 (upd (h 0) 5 (nI j)))) (B := []) (B' := []) (r := some (.int (woN (nI 0)))) 1 (c_X10_wordOf (nI 0)) gX10_readWord_X10_wordOf (by decide +kernel) rfl ⟨by decide, by decide⟩ [] rfl (by decide) rfl (Nat.le_of_ble_eq_true rfl) rfl rfl dX10_readWord_79 ?_ hkR
          refine z_top (woC (h 5) i (skE (h 5) n (nI 97) (nI 122) i)) (by rw [woC, hj7, if_neg k_71]) ?_
          refine z_put hC 0 8 13 (ws' := zMo (zy E) q (va_up h 0 (upd (upd (h 0) 5 (nI j)) 8 (woC (h 5) i (skE (h 5) n (nI 97) (nI 122) i))))) tyX10 .int rfl rfl iX10_readWord_X10 tyX10_ok nmX10 (by decide) (List.mem_of_getElem? (i := 3) (by decide +kernel)) rfl rfl (by decide +kernel) rfl rfl (Nat.le_of_ble_eq_true rfl) rfl dX10_readWord_82 ?_
          refine z_aload_n hC 0 rfl dX10_readWord_85 ?_
          refine z_aload_n hC 0 rfl dX10_readWord_86 ?_
          refine z_get hC 0 8 13 (v := .int ((upd (upd (h 0) 5 (nI j)) 8 (woC (h 5) i (skE (h 5) n (nI 97) (nI 122) i))) 8)) rfl rfl iX10_readWord_X10 (by decide) (List.mem_of_getElem? (i := 3) (by decide +kernel)) rfl rfl dX10_readWord_87 ?_
          refine z_top (woC (h 5) i (skE (h 5) n (nI 97) (nI 122) i)) rfl ?_
          refine z_iconst hC ((-1)) (by decide +kernel) dX10_readWord_90 ?_
          refine z_icmp_ne hC 98 dX10_readWord_91 (by decide) (fun c_91 => ?_) (fun c_91 => ?_)
          · refine z_aload_n hC 0 rfl dX10_readWord_98 ?_
            refine z_get hC 0 8 11 (v := .int ((upd (upd (h 0) 5 (nI j)) 8 (woC (h 5) i (skE (h 5) n (nI 97) (nI 122) i))) 6)) rfl rfl iX10_readWord_X10 (by decide) (List.mem_of_getElem? (i := 4) (by decide +kernel)) rfl rfl dX10_readWord_99 ?_
            refine z_put hC 0 8 11 (ws' := zMo (zy E) q (va_up h 0 (upd (upd (upd (h 0) 5 (nI j)) 8 (woC (h 5) i (skE (h 5) n (nI 97) (nI 122) i))) 6 ((upd (upd (h 0) 5 (nI j)) 8 (woC (h 5) i (skE (h 5) n (nI 97) (nI 122) i))) 6)))) tyX10 .int rfl rfl iX10_readWord_X10 tyX10_ok nmX10 (by decide) (List.mem_of_getElem? (i := 4) (by decide +kernel)) rfl rfl (by decide +kernel) rfl rfl (Nat.le_of_ble_eq_true rfl) rfl dX10_readWord_102 ?_
            exact z_vret hC hf rfl rfl (by unfold rwG; rw [if_neg c_91, hj7] <;> rfl) dX10_readWord_105
          · refine z_iload_n hC 1 rfl dX10_readWord_94 ?_
            refine z_goto hC 102 dX10_readWord_95 (by decide) ?_
            refine z_put hC 0 8 11 (ws' := zMo (zy E) q (va_up h 0 (upd (upd (upd (h 0) 5 (nI j)) 8 (woC (h 5) i (skE (h 5) n (nI 97) (nI 122) i))) 6 (nI i)))) tyX10 .int rfl rfl iX10_readWord_X10 tyX10_ok nmX10 (by decide) (List.mem_of_getElem? (i := 4) (by decide +kernel)) rfl rfl (by decide +kernel) rfl rfl (Nat.le_of_ble_eq_true rfl) rfl dX10_readWord_102 ?_
            exact z_vret hC hf rfl rfl (by unfold rwG; rw [if_pos c_91, hj7] <;> rfl) dX10_readWord_105
      · have hjn := nwC_lt c_15
        refine z_aload_n hC 0 rfl dX10_readWord_18 ?_
        refine z_get hC 0 8 10 (v := .int ((upd (h 0) 5 (nI j)) 5)) rfl rfl iX10_readWord_X10 (by decide) (List.mem_of_getElem? (i := 1) (by decide +kernel)) rfl rfl dX10_readWord_19 ?_
        refine z_top (nI j) rfl ?_
        refine z_iload_n hC 1 rfl dX10_readWord_22 ?_
        refine z_isub hC dX10_readWord_23 ?_
        refine z_top (nI (j - i)) (pk_sub hji) ?_
        refine z_iconst hC (nI 5) (by decide +kernel) dX10_readWord_24 ?_
        refine z_icmp_ge hC 48 dX10_readWord_25 (by decide) (fun c_25 => ?_) (fun c_25 => ?_)
        · have k_25 : 5 ≤ (j - i) := (nI_leI (by omega) (by omega)).mp c_25
          refine z_iconst hC (nI 0) (by decide +kernel) dX10_readWord_48 ?_
          refine z_istore_n hC (by decide) (lv' := [(2, .int (nI 0)), (0, .ref (q 0)), (1, .int (nI i))]) rfl dX10_readWord_49 ?_
          refine z_aload_n hC 1 rfl dX10_readWord_50 ?_
          refine z_dup hC dX10_readWord_51 rfl ?_
          refine z_get hC 0 8 10 (v := .int ((upd (h 0) 5 (nI j)) 5)) rfl rfl iX10_readWord_X10 (by decide) (List.mem_of_getElem? (i := 1) (by decide +kernel)) rfl rfl dX10_readWord_52 ?_
          refine z_top (nI j) rfl ?_
          refine z_iconst hC (nI 1) (by decide +kernel) dX10_readWord_55 ?_
          refine z_iadd hC dX10_readWord_56 ?_
          refine z_top (nI (j + 1)) (nI_add _ _) ?_
          refine z_put hC 0 8 10 (ws' := zMo (zy E) q (va_up h 0 (upd (upd (h 0) 5 (nI j)) 5 (nI (j + 1))))) tyX10 .int rfl rfl iX10_readWord_X10 tyX10_ok nmX10 (by decide) (List.mem_of_getElem? (i := 1) (by decide +kernel)) rfl rfl (by decide +kernel) rfl rfl (Nat.le_of_ble_eq_true rfl) rfl dX10_readWord_57 ?_
          refine z_goto hC 7 dX10_readWord_60 (by decide) ?_
          refine z_sub [1, 2, 0] (lv' := [(0, .ref (q 0)), (1, .int (nI i)), (2, .int (nI 0))]) rfl ?_
          exact z_cast (ih_7 (j + 1) (by omega) (by omega) ((skE_1 c_15).symm.trans hj) (by omega)) (by rw [show j + 1 - i = (j - i) + 1 by omega, ltI, if_pos k_25]) rfl rfl
        · have k_25 : ¬ (5 ≤ (j - i)) := fun q => c_25 ((nI_leI (by omega) (by omega)).mpr q)
          refine z_bipush hC (nI 27) (by decide +kernel) dX10_readWord_28 ?_
          refine z_iload_n hC 2 rfl dX10_readWord_30 ?_
          refine z_imul hC dX10_readWord_31 ?_
          refine z_aload_n hC 0 rfl dX10_readWord_32 ?_
          refine z_get hC 0 8 8 (v := .ref (q 5)) rfl rfl iX10_readWord_X10 (by decide) (List.mem_of_getElem? (i := 2) (by decide +kernel)) rfl rfl dX10_readWord_33 ?_
          refine z_aload_n hC 0 rfl dX10_readWord_36 ?_
          refine z_get hC 0 8 10 (v := .int ((upd (h 0) 5 (nI j)) 5)) rfl rfl iX10_readWord_X10 (by decide) (List.mem_of_getElem? (i := 1) (by decide +kernel)) rfl rfl dX10_readWord_37 ?_
          refine z_top (nI j) rfl ?_
          refine z_bald hC 5 j (f := h 5) rfl rfl rfl (by omega) (by decide) dX10_readWord_40 ?_
          refine z_iadd hC dX10_readWord_41 ?_
          refine z_bipush hC (nI 96) (by decide +kernel) dX10_readWord_42 ?_
          refine z_isub hC dX10_readWord_44 ?_
          refine z_goto hC 49 dX10_readWord_45 (by decide) ?_
          refine z_istore_n hC (by decide) (lv' := [(2, .int ((((nI 27) * (ltI (h 5) i (j - i))) + ((h 5) j)) - (nI 96))), (0, .ref (q 0)), (1, .int (nI i))]) rfl dX10_readWord_49 ?_
          refine z_aload_n hC 1 rfl dX10_readWord_50 ?_
          refine z_dup hC dX10_readWord_51 rfl ?_
          refine z_get hC 0 8 10 (v := .int ((upd (h 0) 5 (nI j)) 5)) rfl rfl iX10_readWord_X10 (by decide) (List.mem_of_getElem? (i := 1) (by decide +kernel)) rfl rfl dX10_readWord_52 ?_
          refine z_top (nI j) rfl ?_
          refine z_iconst hC (nI 1) (by decide +kernel) dX10_readWord_55 ?_
          refine z_iadd hC dX10_readWord_56 ?_
          refine z_top (nI (j + 1)) (nI_add _ _) ?_
          refine z_put hC 0 8 10 (ws' := zMo (zy E) q (va_up h 0 (upd (upd (h 0) 5 (nI j)) 5 (nI (j + 1))))) tyX10 .int rfl rfl iX10_readWord_X10 tyX10_ok nmX10 (by decide) (List.mem_of_getElem? (i := 1) (by decide +kernel)) rfl rfl (by decide +kernel) rfl rfl (Nat.le_of_ble_eq_true rfl) rfl dX10_readWord_57 ?_
          refine z_goto hC 7 dX10_readWord_60 (by decide) ?_
          refine z_sub [1, 2, 0] (lv' := [(0, .ref (q 0)), (1, .int (nI i)), (2, .int ((((nI 27) * (ltI (h 5) i (j - i))) + ((h 5) j)) - (nI 96)))]) rfl ?_
          exact z_cast (ih_7 (j + 1) (by omega) (by omega) ((skE_1 c_15).symm.trans hj) (by omega)) (by rw [show j + 1 - i = (j - i) + 1 by omega, ltI, if_neg k_25, show i + (j - i) = j by omega]) rfl rfl
  refine z_sub [2, 1, 0] (lv' := [(0, .ref (q 0)), (1, .int (nI i)), (2, .int (nI 0))]) rfl ?_
  exact z_cast (lp_7 (n + 1) i (by omega) (by omega) rfl (Nat.le_refl i)) (by rw [Nat.sub_self]; rfl) (zMo_at hi) rfl

theorem iX10_readNumber_X10 : ∀ w ∈ u_ws RX10 TX10 15, w ∈ wsX10_readNumber := by decide +kernel
set_option maxHeartbeats 4000000 in
set_option maxRecDepth 100000 in
/-- readNumber -/
theorem c_X10_readNumber {l : Launch} {y : zY} {D : va_G} (q : Nat → Nat) (h : Nat → Nat → Int32) (n i : Nat) (hn : h 0 4 = nI n) (hn1 : n ≤ 150) (hi : h 0 5 = nI i) (hi1 : i ≤ n) (hF : h 0 6 = (-1)) : zM l y D yX10_readNumber wsX10_readNumber 3 64 [.ref (q 0)] (zMo y q h) (zMo y q (rmG h n i)) (some (.int ((rm9 (h 5) n i).1))) := by
  have hs9 := (skE_le (h 5) (nI 32) (nI 32) hi1).2
  refine z_start (own := RX10) (cc := cX10_readNumber) (maxL := 3) (ret := (some .int)) rfl (by decide +kernel) rfl (Nat.le_of_ble_eq_true rfl) (zMo_fst _ _ _ _) ?_
  intro E hEl hEy hED hC hf
  subst hEl hEy hED
  have hkR : 0 ≤ E.2.2.2.2.2.1.cells ∧ 0 ≤ E.2.2.2.2.2.1.slots := ⟨Nat.zero_le _, Nat.zero_le _⟩
  refine z_cast (lv := [(0, .ref (q 0))]) (ws := (zMo (zy E) q h)) (st := []) ?_ rfl rfl rfl
  refine z_aload_n hC 0 rfl dX10_readNumber_0 ?_
  refine z_aload_n hC 0 rfl dX10_readNumber_1 ?_
  refine z_bipush hC (nI 32) (by decide +kernel) dX10_readNumber_2 ?_
  refine z_bipush hC (nI 32) (by decide +kernel) dX10_readNumber_4 ?_
  refine z_wV hC (As := [.int (nI 32), .int (nI 32)]) (st := [.ref (q 0)]) (ws2 := zMo (zy E) q h) (r := some (.int (nwC (h 5) n i (nI 32) (nI 32)))) 2 (c_X10_isAt q h n i hn hn1 (by first | exact hi | rfl) (by first | assumption | exact hi1) (nI 32) (nI 32)) gX10_readNumber_X10_isAt (q0 := 0) (ci := 8) (by decide +kernel) rfl rfl rfl ⟨by decide, by decide⟩ (Nat.le_of_ble_eq_true rfl) rfl rfl dX10_readNumber_6 ?_ hkR
  by_cases s_9_1 : nwC (h 5) n i (nI 32) (nI 32) = 0
  · have s9_9 := s_9_1
    refine z_wV hC (As := [.int (nwC (h 5) n i (nI 32) (nI 32))]) (st := []) (ws2 := zMo (zy E) q (va_up h 0 (upd (h 0) 6 (duV (-1) (nwC (h 5) n i (nI 32) (nI 32)) i)))) (r := some (.int (duR (-1) (nwC (h 5) n i (nI 32) (nI 32)) i))) 1 (c_X10_due q h (nwC (h 5) n i (nI 32) (nI 32)) i (by first | exact hF | rfl) (by first | exact hi | rfl)) gX10_readNumber_X10_due (q0 := 0) (ci := 8) (by decide +kernel) rfl rfl rfl ⟨by decide, by decide⟩ (Nat.le_of_ble_eq_true rfl) rfl rfl dX10_readNumber_9 ?_ hkR
    refine z_top (nI 0) (du_0 (i := i) (by omega) s_9_1).2 ?_
    refine z_cast (lv := [(0, .ref (q 0))]) (ws := (zMo (zy E) q (va_up h 0 (upd (h 0) 6 (nI i))))) (st := [.int (nI 0)]) ?_ rfl (by rw [(du_0 (i := i) (by omega) s_9_1).1] <;> exact mo_6 _ q h _ _) rfl
    refine z_if_ne hC 17 dX10_readNumber_12 (by decide) (fun c_12 => ?_) (fun c_12 => ?_)
    · exact absurd c_12 (by decide +kernel)
    · refine z_iconst hC (nI 0) (by decide +kernel) dX10_readNumber_15 ?_
      exact z_iret hC hf rfl (by rw [show rm9 (h 5) n i = (nI 0, i, nI i) from if_pos s9_9]) (by unfold rmG; rw [show rm9 (h 5) n i = (nI 0, i, nI i) from if_pos s9_9]; show _ = zMo _ _ (va_up h 0 (upd (upd (h 0) 5 (nI i)) 6 (nI i))); rw [upd_same hi]) dX10_readNumber_16
  · have s9_9 := s_9_1
    refine z_wV hC (As := [.int (nwC (h 5) n i (nI 32) (nI 32))]) (st := []) (ws2 := zMo (zy E) q (va_up h 0 (upd (h 0) 6 (duV (-1) (nwC (h 5) n i (nI 32) (nI 32)) i)))) (r := some (.int (duR (-1) (nwC (h 5) n i (nI 32) (nI 32)) i))) 1 (c_X10_due q h (nwC (h 5) n i (nI 32) (nI 32)) i (by first | exact hF | rfl) (by first | exact hi | rfl)) gX10_readNumber_X10_due (q0 := 0) (ci := 8) (by decide +kernel) rfl rfl rfl ⟨by decide, by decide⟩ (Nat.le_of_ble_eq_true rfl) rfl rfl dX10_readNumber_9 ?_ hkR
    refine z_top (nI 1) (du_1 (i := i) s_9_1).2 ?_
    refine z_cast (lv := [(0, .ref (q 0))]) (ws := (zMo (zy E) q (va_up h 0 (upd (h 0) 6 (-1))))) (st := [.int (nI 1)]) ?_ rfl (by rw [(du_1 (i := i) s_9_1).1] <;> exact mo_6 _ q h _ _) rfl
    refine z_if_ne hC 17 dX10_readNumber_12 (by decide) (fun c_12 => ?_) (fun c_12 => ?_)
    · refine z_aload_n hC 0 rfl dX10_readNumber_17 ?_
      refine z_wV hC (As := []) (st := []) (ws2 := zMo (zy E) q (va_up h 0 (upd (upd (h 0) 6 (-1)) 5 (nI (skE (h 5) n (nI 32) (nI 32) i))))) (r := none) 0 (c_X10_passSpaces q (va_up h 0 (upd (h 0) 6 (-1))) n i hn hn1 (by first | exact hi | rfl) (by first | assumption | exact hi1)) gX10_readNumber_X10_passSpaces (q0 := 0) (ci := 8) (by decide +kernel) rfl rfl rfl ⟨by decide, by decide⟩ (Nat.le_of_ble_eq_true rfl) rfl rfl dX10_readNumber_18 ?_ hkR
      refine z_aload_n hC 0 rfl dX10_readNumber_21 ?_
      refine z_aload_n hC 0 rfl dX10_readNumber_22 ?_
      refine z_bipush hC (nI 48) (by decide +kernel) dX10_readNumber_23 ?_
      refine z_bipush hC (nI 57) (by decide +kernel) dX10_readNumber_25 ?_
      refine z_wV hC (As := [.int (nI 48), .int (nI 57)]) (st := [.ref (q 0)]) (ws2 := zMo (zy E) q (va_up h 0 (upd (upd (h 0) 6 (-1)) 5 (nI (skE (h 5) n (nI 32) (nI 32) i))))) (r := some (.int (nwC (h 5) n (skE (h 5) n (nI 32) (nI 32) i) (nI 48) (nI 57)))) 2 (c_X10_isAt q (va_up h 0 (upd (upd (h 0) 6 (-1)) 5 (nI (skE (h 5) n (nI 32) (nI 32) i)))) n (skE (h 5) n (nI 32) (nI 32) i) hn hn1 (by first | exact hi | rfl) (by first | assumption | exact hi1) (nI 48) (nI 57)) gX10_readNumber_X10_isAt (q0 := 0) (ci := 8) (by decide +kernel) rfl rfl rfl ⟨by decide, by decide⟩ (Nat.le_of_ble_eq_true rfl) rfl rfl dX10_readNumber_27 ?_ hkR
      by_cases s_30_2 : nwC (h 5) n (skE (h 5) n (nI 32) (nI 32) i) (nI 48) (nI 57) = 0
      · have s9_30 := s_30_2
        refine z_wV hC (As := [.int (nwC (h 5) n (skE (h 5) n (nI 32) (nI 32) i) (nI 48) (nI 57))]) (st := []) (ws2 := zMo (zy E) q (va_up (va_up h 0 (upd (upd (h 0) 6 (-1)) 5 (nI (skE (h 5) n (nI 32) (nI 32) i)))) 0 (upd ((va_up h 0 (upd (upd (h 0) 6 (-1)) 5 (nI (skE (h 5) n (nI 32) (nI 32) i)))) 0) 6 (duV (-1) (nwC (h 5) n (skE (h 5) n (nI 32) (nI 32) i) (nI 48) (nI 57)) (skE (h 5) n (nI 32) (nI 32) i))))) (r := some (.int (duR (-1) (nwC (h 5) n (skE (h 5) n (nI 32) (nI 32) i) (nI 48) (nI 57)) (skE (h 5) n (nI 32) (nI 32) i)))) 1 (c_X10_due q (va_up h 0 (upd (upd (h 0) 6 (-1)) 5 (nI (skE (h 5) n (nI 32) (nI 32) i)))) (nwC (h 5) n (skE (h 5) n (nI 32) (nI 32) i) (nI 48) (nI 57)) (skE (h 5) n (nI 32) (nI 32) i) (by first | exact hF | rfl) (by first | exact hi | rfl)) gX10_readNumber_X10_due (q0 := 0) (ci := 8) (by decide +kernel) rfl rfl rfl ⟨by decide, by decide⟩ (Nat.le_of_ble_eq_true rfl) rfl rfl dX10_readNumber_30 ?_ hkR
        refine z_top (nI 0) (du_0 (i := (skE (h 5) n (nI 32) (nI 32) i)) (by omega) s_30_2).2 ?_
        refine z_cast (lv := [(0, .ref (q 0))]) (ws := (zMo (zy E) q (va_up h 0 (upd (upd (upd (h 0) 6 (-1)) 5 (nI (skE (h 5) n (nI 32) (nI 32) i))) 6 (nI (skE (h 5) n (nI 32) (nI 32) i)))))) (st := [.int (nI 0)]) ?_ rfl (by rw [(du_0 (i := (skE (h 5) n (nI 32) (nI 32) i)) (by omega) s_30_2).1] <;> exact mo_6 _ q h _ _) rfl
        refine z_if_ne hC 38 dX10_readNumber_33 (by decide) (fun c_33 => ?_) (fun c_33 => ?_)
        · exact absurd c_33 (by decide +kernel)
        · refine z_iconst hC (nI 0) (by decide +kernel) dX10_readNumber_36 ?_
          exact z_iret hC hf rfl (by rw [show rm9 (h 5) n i = (nI 0, (skE (h 5) n (nI 32) (nI 32) i), nI (skE (h 5) n (nI 32) (nI 32) i)) from (if_neg s9_9).trans (if_pos s9_30)]) (by unfold rmG; rw [show rm9 (h 5) n i = (nI 0, (skE (h 5) n (nI 32) (nI 32) i), nI (skE (h 5) n (nI 32) (nI 32) i)) from (if_neg s9_9).trans (if_pos s9_30)] <;> rfl) dX10_readNumber_37
      · have s9_30 := s_30_2
        refine z_wV hC (As := [.int (nwC (h 5) n (skE (h 5) n (nI 32) (nI 32) i) (nI 48) (nI 57))]) (st := []) (ws2 := zMo (zy E) q (va_up (va_up h 0 (upd (upd (h 0) 6 (-1)) 5 (nI (skE (h 5) n (nI 32) (nI 32) i)))) 0 (upd ((va_up h 0 (upd (upd (h 0) 6 (-1)) 5 (nI (skE (h 5) n (nI 32) (nI 32) i)))) 0) 6 (duV (-1) (nwC (h 5) n (skE (h 5) n (nI 32) (nI 32) i) (nI 48) (nI 57)) (skE (h 5) n (nI 32) (nI 32) i))))) (r := some (.int (duR (-1) (nwC (h 5) n (skE (h 5) n (nI 32) (nI 32) i) (nI 48) (nI 57)) (skE (h 5) n (nI 32) (nI 32) i)))) 1 (c_X10_due q (va_up h 0 (upd (upd (h 0) 6 (-1)) 5 (nI (skE (h 5) n (nI 32) (nI 32) i)))) (nwC (h 5) n (skE (h 5) n (nI 32) (nI 32) i) (nI 48) (nI 57)) (skE (h 5) n (nI 32) (nI 32) i) (by first | exact hF | rfl) (by first | exact hi | rfl)) gX10_readNumber_X10_due (q0 := 0) (ci := 8) (by decide +kernel) rfl rfl rfl ⟨by decide, by decide⟩ (Nat.le_of_ble_eq_true rfl) rfl rfl dX10_readNumber_30 ?_ hkR
        refine z_top (nI 1) (du_1 (i := (skE (h 5) n (nI 32) (nI 32) i)) s_30_2).2 ?_
        refine z_cast (lv := [(0, .ref (q 0))]) (ws := (zMo (zy E) q (va_up h 0 (upd (upd (upd (h 0) 6 (-1)) 5 (nI (skE (h 5) n (nI 32) (nI 32) i))) 6 (-1))))) (st := [.int (nI 1)]) ?_ rfl (by rw [(du_1 (i := (skE (h 5) n (nI 32) (nI 32) i)) s_30_2).1] <;> exact mo_6 _ q h _ _) rfl
        refine z_if_ne hC 38 dX10_readNumber_33 (by decide) (fun c_33 => ?_) (fun c_33 => ?_)
        · refine z_iconst hC (nI 0) (by decide +kernel) dX10_readNumber_38 ?_
          refine z_istore_n hC (by decide) (lv' := [(1, .int (nI 0)), (0, .ref (q 0))]) rfl dX10_readNumber_39 ?_
          refine z_iconst hC (nI 0) (by decide +kernel) dX10_readNumber_40 ?_
          refine z_istore_n hC (by decide) (lv' := [(2, .int (nI 0)), (1, .int (nI 0)), (0, .ref (q 0))]) rfl dX10_readNumber_41 ?_
          have lp_42 : ∀ (d_42 d : Nat) (p9 : Nat) (v9 : Int32), 4 < d + d_42 → d ≤ 4 → (dgM (h 5) n (4 - d) p9 v9 = dgM (h 5) n 4 (skE (h 5) n (nI 32) (nI 32) i) (nI 0)) → (p9 ≤ n) → Z E 0 0 [(0, .ref (q 0)), (1, .int v9), (2, .int (nI d))] (zMo (zy E) q (va_up h 0 (upd (upd (h 0) 6 (-1)) 5 (nI p9)))) 42 [] := by
            intro d_42
            induction d_42 with
            | zero => intro d p9 v9 q1 q2; omega
            | succ d_42 ih_42 =>
              intro d p9 v9 q1_42 q2_42 hp hpn
              refine z_iload_n hC 2 rfl dX10_readNumber_42 ?_
              refine z_iconst hC (nI 4) (by decide +kernel) dX10_readNumber_43 ?_
              refine z_icmp_ge hC 92 dX10_readNumber_44 (by decide) (fun c_44 => ?_) (fun c_44 => ?_)
              · have k_44 : 4 ≤ d := (nI_leI (by omega) (by omega)).mp c_44
                obtain rfl : d = 4 := by omega
                have hp6 : (p9, v9) = dgM (h 5) n 4 (skE (h 5) n (nI 32) (nI 32) i) (nI 0) := hp
                refine z_aload_n hC 0 rfl dX10_readNumber_92 ?_
                refine z_aload_n hC 0 rfl dX10_readNumber_93 ?_
                refine z_bipush hC (nI 48) (by decide +kernel) dX10_readNumber_94 ?_
                refine z_bipush hC (nI 57) (by decide +kernel) dX10_readNumber_96 ?_
                refine z_wV hC (As := [.int (nI 48), .int (nI 57)]) (st := [.ref (q 0)]) (ws2 := zMo (zy E) q (va_up h 0 (upd (upd (h 0) 6 (-1)) 5 (nI p9)))) (r := some (.int (nwC (h 5) n p9 (nI 48) (nI 57)))) 2 (c_X10_isAt q (va_up h 0 (upd (upd (h 0) 6 (-1)) 5 (nI p9))) n p9 hn hn1 (by first | exact hi | rfl) (by first | assumption | exact hi1) (nI 48) (nI 57)) gX10_readNumber_X10_isAt (q0 := 0) (ci := 8) (by decide +kernel) rfl rfl rfl ⟨by decide, by decide⟩ (Nat.le_of_ble_eq_true rfl) rfl rfl dX10_readNumber_98 ?_ hkR
                refine z_if_ne hC 108 dX10_readNumber_101 (by decide) (fun c_101 => ?_) (fun c_101 => ?_)
                · refine z_iconst hC (nI 0) (by decide +kernel) dX10_readNumber_108 ?_
                  refine z_wV hC (As := [.int (nI 0)]) (st := []) (ws2 := zMo (zy E) q (va_up (va_up h 0 (upd (upd (h 0) 6 (-1)) 5 (nI p9))) 0 (upd ((va_up h 0 (upd (upd (h 0) 6 (-1)) 5 (nI p9))) 0) 6 (duV (-1) (nI 0) p9)))) (r := some (.int (duR (-1) (nI 0) p9))) 1 (c_X10_due q (va_up h 0 (upd (upd (h 0) 6 (-1)) 5 (nI p9))) (nI 0) p9 (by first | exact hF | rfl) (by first | exact hi | rfl)) gX10_readNumber_X10_due (q0 := 0) (ci := 8) (by decide +kernel) rfl rfl rfl ⟨by decide, by decide⟩ (Nat.le_of_ble_eq_true rfl) rfl rfl dX10_readNumber_109 ?_ hkR
                  refine z_top (nI 0) (du_0 (i := p9) (by omega) (show nI 0 = 0 by decide +kernel)).2 ?_
                  refine z_cast (lv := [(0, .ref (q 0)), (1, .int v9), (2, .int (nI 4))]) (ws := (zMo (zy E) q (va_up h 0 (upd (upd (upd (h 0) 6 (-1)) 5 (nI p9)) 6 (nI p9))))) (st := [.int (nI 0)]) ?_ rfl (by rw [(du_0 (i := p9) (by omega) (show nI 0 = 0 by decide +kernel)).1] <;> exact mo_6 _ q h _ _) rfl
                  refine z_istore_n hC (by decide) (lv' := [(2, .int (nI 0)), (0, .ref (q 0)), (1, .int v9)]) rfl dX10_readNumber_112 ?_
                  refine z_iload_n hC 2 rfl dX10_readNumber_113 ?_
                  have hr9 : rm9 (h 5) n i = (v9, p9, nI p9) := by rw [show rm9 (h 5) n i = _ from (if_neg s9_9).trans (if_neg s9_30), ← hp6, if_neg c_101]
                  exact z_iret hC hf rfl (by rw [hr9]) (by unfold rmG; rw [hr9] <;> rfl) dX10_readNumber_114
                · refine z_iconst hC (nI 1) (by decide +kernel) dX10_readNumber_104 ?_
                  refine z_goto hC 109 dX10_readNumber_105 (by decide) ?_
                  refine z_wV hC (As := [.int (nI 1)]) (st := []) (ws2 := zMo (zy E) q (va_up (va_up h 0 (upd (upd (h 0) 6 (-1)) 5 (nI p9))) 0 (upd ((va_up h 0 (upd (upd (h 0) 6 (-1)) 5 (nI p9))) 0) 6 (duV (-1) (nI 1) p9)))) (r := some (.int (duR (-1) (nI 1) p9))) 1 (c_X10_due q (va_up h 0 (upd (upd (h 0) 6 (-1)) 5 (nI p9))) (nI 1) p9 (by first | exact hF | rfl) (by first | exact hi | rfl)) gX10_readNumber_X10_due (q0 := 0) (ci := 8) (by decide +kernel) rfl rfl rfl ⟨by decide, by decide⟩ (Nat.le_of_ble_eq_true rfl) rfl rfl dX10_readNumber_109 ?_ hkR
                  refine z_top (nI 1) (du_1 (i := p9) (show ¬ nI 1 = 0 by decide +kernel)).2 ?_
                  refine z_cast (lv := [(0, .ref (q 0)), (1, .int v9), (2, .int (nI 4))]) (ws := (zMo (zy E) q (va_up h 0 (upd (upd (upd (h 0) 6 (-1)) 5 (nI p9)) 6 (-1))))) (st := [.int (nI 1)]) ?_ rfl (by rw [(du_1 (i := p9) (show ¬ nI 1 = 0 by decide +kernel)).1] <;> exact mo_6 _ q h _ _) rfl
                  refine z_istore_n hC (by decide) (lv' := [(2, .int (nI 1)), (0, .ref (q 0)), (1, .int v9)]) rfl dX10_readNumber_112 ?_
                  refine z_iload_n hC 2 rfl dX10_readNumber_113 ?_
                  have hr9 : rm9 (h 5) n i = (v9, p9, (-1)) := by rw [show rm9 (h 5) n i = _ from (if_neg s9_9).trans (if_neg s9_30), ← hp6, if_pos c_101]
                  exact z_iret hC hf rfl (by rw [hr9]) (by unfold rmG; rw [hr9] <;> rfl) dX10_readNumber_114
              · have k_44 : ¬ (4 ≤ d) := fun q => c_44 ((nI_leI (by omega) (by omega)).mpr q)
                refine z_aload_n hC 0 rfl dX10_readNumber_47 ?_
                refine z_bipush hC (nI 48) (by decide +kernel) dX10_readNumber_48 ?_
                refine z_bipush hC (nI 57) (by decide +kernel) dX10_readNumber_50 ?_
                refine z_wV hC (As := [.int (nI 48), .int (nI 57)]) (st := []) (ws2 := zMo (zy E) q (va_up h 0 (upd (upd (h 0) 6 (-1)) 5 (nI p9)))) (r := some (.int (nwC (h 5) n p9 (nI 48) (nI 57)))) 2 (c_X10_isAt q (va_up h 0 (upd (upd (h 0) 6 (-1)) 5 (nI p9))) n p9 hn hn1 (by first | exact hi | rfl) (by first | assumption | exact hi1) (nI 48) (nI 57)) gX10_readNumber_X10_isAt (q0 := 0) (ci := 8) (by decide +kernel) rfl rfl rfl ⟨by decide, by decide⟩ (Nat.le_of_ble_eq_true rfl) rfl rfl dX10_readNumber_52 ?_ hkR
                refine z_if_eq hC 92 dX10_readNumber_55 (by decide) (fun c_55 => ?_) (fun c_55 => ?_)
                · have hp6 : (p9, v9) = dgM (h 5) n 4 (skE (h 5) n (nI 32) (nI 32) i) (nI 0) := (dm_0 _ c_55).symm.trans hp
                  refine z_aload_n hC 0 rfl dX10_readNumber_92 ?_
                  refine z_aload_n hC 0 rfl dX10_readNumber_93 ?_
                  refine z_bipush hC (nI 48) (by decide +kernel) dX10_readNumber_94 ?_
                  refine z_bipush hC (nI 57) (by decide +kernel) dX10_readNumber_96 ?_
                  refine z_wV hC (As := [.int (nI 48), .int (nI 57)]) (st := [.ref (q 0)]) (ws2 := zMo (zy E) q (va_up h 0 (upd (upd (h 0) 6 (-1)) 5 (nI p9)))) (r := some (.int (nwC (h 5) n p9 (nI 48) (nI 57)))) 2 (c_X10_isAt q (va_up h 0 (upd (upd (h 0) 6 (-1)) 5 (nI p9))) n p9 hn hn1 (by first | exact hi | rfl) (by first | assumption | exact hi1) (nI 48) (nI 57)) gX10_readNumber_X10_isAt (q0 := 0) (ci := 8) (by decide +kernel) rfl rfl rfl ⟨by decide, by decide⟩ (Nat.le_of_ble_eq_true rfl) rfl rfl dX10_readNumber_98 ?_ hkR
                  refine z_if_ne hC 108 dX10_readNumber_101 (by decide) (fun c_101 => ?_) (fun c_101 => ?_)
                  · exact absurd c_55 c_101
                  · refine z_iconst hC (nI 1) (by decide +kernel) dX10_readNumber_104 ?_
                    refine z_goto hC 109 dX10_readNumber_105 (by decide) ?_
                    refine z_wV hC (As := [.int (nI 1)]) (st := []) (ws2 := zMo (zy E) q (va_up (va_up h 0 (upd (upd (h 0) 6 (-1)) 5 (nI p9))) 0 (upd ((va_up h 0 (upd (upd (h 0) 6 (-1)) 5 (nI p9))) 0) 6 (duV (-1) (nI 1) p9)))) (r := some (.int (duR (-1) (nI 1) p9))) 1 (c_X10_due q (va_up h 0 (upd (upd (h 0) 6 (-1)) 5 (nI p9))) (nI 1) p9 (by first | exact hF | rfl) (by first | exact hi | rfl)) gX10_readNumber_X10_due (q0 := 0) (ci := 8) (by decide +kernel) rfl rfl rfl ⟨by decide, by decide⟩ (Nat.le_of_ble_eq_true rfl) rfl rfl dX10_readNumber_109 ?_ hkR
                    refine z_top (nI 1) (du_1 (i := p9) (show ¬ nI 1 = 0 by decide +kernel)).2 ?_
                    refine z_cast (lv := [(0, .ref (q 0)), (1, .int v9), (2, .int (nI d))]) (ws := (zMo (zy E) q (va_up h 0 (upd (upd (upd (h 0) 6 (-1)) 5 (nI p9)) 6 (-1))))) (st := [.int (nI 1)]) ?_ rfl (by rw [(du_1 (i := p9) (show ¬ nI 1 = 0 by decide +kernel)).1] <;> exact mo_6 _ q h _ _) rfl
                    refine z_istore_n hC (by decide) (lv' := [(2, .int (nI 1)), (0, .ref (q 0)), (1, .int v9)]) rfl dX10_readNumber_112 ?_
                    refine z_iload_n hC 2 rfl dX10_readNumber_113 ?_
                    have hr9 : rm9 (h 5) n i = (v9, p9, (-1)) := by rw [show rm9 (h 5) n i = _ from (if_neg s9_9).trans (if_neg s9_30), ← hp6, if_pos c_101]
                    exact z_iret hC hf rfl (by rw [hr9]) (by unfold rmG; rw [hr9] <;> rfl) dX10_readNumber_114
                · have hp7 := nwC_lt c_55
                  refine z_bipush hC (nI 10) (by decide +kernel) dX10_readNumber_58 ?_
                  refine z_iload_n hC 1 rfl dX10_readNumber_60 ?_
                  refine z_imul hC dX10_readNumber_61 ?_
                  refine z_aload_n hC 0 rfl dX10_readNumber_62 ?_
                  refine z_get hC 0 8 8 (v := .ref (q 5)) rfl rfl iX10_readNumber_X10 (by decide) (List.mem_of_getElem? (i := 1) (by decide +kernel)) rfl rfl dX10_readNumber_63 ?_
                  refine z_aload_n hC 0 rfl dX10_readNumber_66 ?_
                  refine z_get hC 0 8 10 (v := .int ((upd (upd (h 0) 6 (-1)) 5 (nI p9)) 5)) rfl rfl iX10_readNumber_X10 (by decide) (List.mem_of_getElem? (i := 2) (by decide +kernel)) rfl rfl dX10_readNumber_67 ?_
                  refine z_top (nI p9) rfl ?_
                  refine z_bald hC 5 p9 (f := h 5) rfl rfl rfl (by omega) (by decide) dX10_readNumber_70 ?_
                  refine z_iadd hC dX10_readNumber_71 ?_
                  refine z_bipush hC (nI 48) (by decide +kernel) dX10_readNumber_72 ?_
                  refine z_isub hC dX10_readNumber_74 ?_
                  refine z_istore_n hC (by decide) (lv' := [(1, .int ((((nI 10) * v9) + ((h 5) p9)) - (nI 48))), (0, .ref (q 0)), (2, .int (nI d))]) rfl dX10_readNumber_75 ?_
                  refine z_aload_n hC 1 rfl dX10_readNumber_76 ?_
                  refine z_dup hC dX10_readNumber_77 rfl ?_
                  refine z_get hC 0 8 10 (v := .int ((upd (upd (h 0) 6 (-1)) 5 (nI p9)) 5)) rfl rfl iX10_readNumber_X10 (by decide) (List.mem_of_getElem? (i := 2) (by decide +kernel)) rfl rfl dX10_readNumber_78 ?_
                  refine z_top (nI p9) rfl ?_
                  refine z_iconst hC (nI 1) (by decide +kernel) dX10_readNumber_81 ?_
                  refine z_iadd hC dX10_readNumber_82 ?_
                  refine z_top (nI (p9 + 1)) (nI_add _ _) ?_
                  refine z_put hC 0 8 10 (ws' := zMo (zy E) q (va_up h 0 (upd (upd (upd (h 0) 6 (-1)) 5 (nI p9)) 5 (nI (p9 + 1))))) tyX10 .int rfl rfl iX10_readNumber_X10 tyX10_ok nmX10 (by decide) (List.mem_of_getElem? (i := 2) (by decide +kernel)) rfl rfl (by decide +kernel) rfl rfl (Nat.le_of_ble_eq_true rfl) rfl dX10_readNumber_83 ?_
                  refine z_iinc hC 2 (nI (d + 1)) rfl z_i1 (by decide) (lv' := [(2, .int (nI (d + 1))), (1, .int ((((nI 10) * v9) + ((h 5) p9)) - (nI 48))), (0, .ref (q 0))]) rfl dX10_readNumber_86 ?_
                  refine z_goto hC 42 dX10_readNumber_89 (by decide) ?_
                  refine z_sub [2, 1, 0] (lv' := [(0, .ref (q 0)), (1, .int ((((nI 10) * v9) + ((h 5) p9)) - (nI 48))), (2, .int (nI (d + 1)))]) rfl ?_
                  exact z_cast (ih_42 (d + 1) (p9 + 1) ((((nI 10) * v9) + ((h 5) p9)) - (nI 48)) (by omega) (by omega) (dm_1 (by omega) hp c_55) (by omega)) rfl rfl rfl
          refine z_sub [2, 1, 0] (lv' := [(0, .ref (q 0)), (1, .int (nI 0)), (2, .int (nI 0))]) rfl ?_
          exact z_cast (lp_42 (4 + 1) 0 (skE (h 5) n (nI 32) (nI 32) i) (nI 0) (by omega) (by omega) rfl hs9) rfl rfl rfl
        · exact absurd c_33 (by decide +kernel)
    · exact absurd c_12 (by decide +kernel)
