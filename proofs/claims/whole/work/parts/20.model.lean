/-! the model's world: h 0 numbers (kept states, thrown, rounds, winner, typed, at, fault, carried, word), h 1 now, h 2 kept, h 3 held, h 4 votes, h 5 text, h 6 told -/
def zMo (y : zY) (q : Nat → Nat) (h : Nat → Nat → Int32) : va_W := [(q 0, .inr (8, [.ref (q 1), .ref (q 2), .ref (q 3), .int (h 0 0), .int (h 0 1), .ref (q 4), .int (h 0 2), .int (h 0 3), .ref (q 5), .int (h 0 4), .int (h 0 5), .int (h 0 6), .int (h 0 7), .int (h 0 8), .ref (q 6)])), (q 1, .inl (y.1 0, 215, .inl (h 1))), (q 2, .inl (y.1 0, 860, .inl (h 2))), (q 3, .inl (y.1 0, 215, .inl (h 3))), (q 4, .inl (y.1 0, 64, .inl (h 4))), (q 5, .inl (y.1 2, 150, .inl (h 5))), (q 6, .inl (y.1 0, 4, .inl (h 6)))]
def isK (x : Int32) : Int32 := wi x (nI 0) (nI 2)
def isL (x : Int32) : Int32 := wi x (nI 0) (nI 5)
def flV (a b c : Int32) : Int32 := if a = 0 then nI 1 else if b = 0 then nI 2 else if c = 0 then nI 3 else nI 0
def flR (a b c : Int32) : Int32 := if flV a b c = 0 then nI 0 else nI 1
def flG (h : Nat → Nat → Int32) (a b c : Int32) : Nat → Nat → Int32 := va_up h 0 (upd (h 0) 1 (flV a b c))
def upw (a b : Int32) : Int32 := (a + b - nI 1) / b
def zhm (f : Nat → Int32) (s : Nat) : Nat := (f (12 + s)).toNatClampNeg
def okM (f : Nat → Int32) : Prop := ∀ s, s < 8 → f (12 + s) = nI (zhm f s) ∧ zhm f s ≤ 6
/-- the first k places of g are those of f -/
def cpA (g f : Nat → Int32) : Nat → Nat → Int32
  | 0 => g
  | k + 1 => upd (cpA g f k) k (f k)
theorem cpA_lt (g f : Nat → Int32) : ∀ k j, j < k → cpA g f k j = f j
  | 0, j, h => absurd h (Nat.not_lt_zero j)
  | k + 1, j, h => by
    unfold cpA upd
    split
    · rename_i e; rw [e]
    · exact cpA_lt g f k j (by omega)
def skK (K : Nat → Int32) : Nat → Nat → Int32
  | 0 => K
  | k + 1 => upd (skK K k) k (skK K k (215 + k))
def cpK (K f : Nat → Int32) (m : Nat) : Nat → Nat → Int32
  | 0 => K
  | k + 1 => upd (cpK K f m k) (215 * m + k) (f k)
def svK (h : Nat → Nat → Int32) (m : Nat) : Nat → Int32 := if m = 4 then cpK (skK (h 2) 645) (h 1) 3 215 else cpK (h 2) (h 1) m 215
def svM (m : Nat) : Nat := if m = 4 then 4 else m + 1
def svG (h : Nat → Nat → Int32) (m : Nat) : Nat → Nat → Int32 := va_up (va_up h 2 (svK h m)) 0 (upd (h 0) 0 (nI (svM m)))
def dmI (f : Nat → Int32) (s : Nat) : Nat → Nat × (Nat → Int32)
  | 0 => (0, f)
  | i + 1 => (if (upd (upd (dmI f s i).2 (44 + (6 * s + (dmI f s i).1)) ((dmI f s i).2 (44 + (6 * s + i)))) (92 + (6 * s + (dmI f s i).1)) ((upd (dmI f s i).2 (44 + (6 * s + (dmI f s i).1)) ((dmI f s i).2 (44 + (6 * s + i)))) (92 + (6 * s + i)))) (92 + (6 * s + (dmI f s i).1)) ≤ 0 then (dmI f s i).1 else (dmI f s i).1 + 1,
      upd (upd (dmI f s i).2 (44 + (6 * s + (dmI f s i).1)) ((dmI f s i).2 (44 + (6 * s + i)))) (92 + (6 * s + (dmI f s i).1)) ((upd (dmI f s i).2 (44 + (6 * s + (dmI f s i).1)) ((dmI f s i).2 (44 + (6 * s + i)))) (92 + (6 * s + i))))
theorem dmI_le (f : Nat → Int32) (s : Nat) : ∀ i, (dmI f s i).1 ≤ i
  | 0 => Nat.le_refl 0
  | i + 1 => by
    have h := dmI_le f s i
    simp only [dmI]
    split <;> omega
theorem dmI_lo (f : Nat → Int32) (s : Nat) : ∀ i j, j < 44 → (dmI f s i).2 j = f j
  | 0, _, _ => rfl
  | i + 1, j, h => by
    simp only [dmI]
    rw [pk_un (by omega), pk_un (by omega)]
    exact dmI_lo f s i j h
def dmF (f : Nat → Int32) (s : Nat) : Nat → Int32 := upd (dmI f s (zhm f s)).2 (12 + s) (nI (dmI f s (zhm f s)).1)
theorem okM_dm {f : Nat → Int32} (hM : okM f) {s : Nat} (hs : s < 8) : okM (dmF f s) := by
  intro s' hs'
  have hz := (hM s hs).2
  have hl := dmI_le f s (zhm f s)
  by_cases e : s' = s
  · subst e
    have e1 : dmF f s' (12 + s') = nI (dmI f s' (zhm f s')).1 := pk_us
    have e2 : zhm (dmF f s') s' = (dmI f s' (zhm f s')).1 := by unfold zhm; rw [e1]; exact nI_clamp (by omega)
    rw [e2]; exact ⟨e1, by omega⟩
  · have e1 : dmF f s (12 + s') = f (12 + s') := (pk_un (by omega)).trans (dmI_lo f s _ _ (by omega))
    have e2 : zhm (dmF f s) s' = zhm f s' := by unfold zhm; rw [e1]
    rw [e1, e2]; exact hM s' hs'
def vmS (f : Nat → Int32) (s : Nat) : Nat → Int32
  | 0 => nI 0
  | i + 1 => vmS f s i + f (92 + 6 * s + i)
def slB (f : Nat → Int32) (x : Int32) (t : Nat) : Int32 := if isS x = 0 then nI 1 else if nI t < f (12 + x.toNatClampNeg) then nI 0 else nI 1
def slS (f : Nat → Int32) (s t : Nat) : Int32 := if f 8 / nI 4 = nI 1 then (if f (20 + s) = 0 then nI 1 else nI 0) else if f 8 / nI 4 = 0 then slB f (nI (s + 1)) t else slB f (nI s - nI 1) t
def fcM (f : Nat → Int32) (s t : Nat) : Int32 := (if slS f s t = 0 then nI 0 else nI 1) + (if nI t = f (12 + s) - nI 1 then nI 1 else nI 0)
def wlS (f : Nat → Int32) : Nat → Int32
  | 0 => nI 0
  | s + 1 => wlS f s + f (20 + s)
set_option maxHeartbeats 4000000 in
set_option maxRecDepth 100000 in
/-- in -/
theorem c_X10_in {l : Launch} {y : zY} {D : va_G} (v a b : Int32) : zM l y D yX10_in wsX10_in 0 0 [.int v, .int a, .int b] ([]) ([]) (some (.int (wi v a b))) := by
  refine z_start (own := RX10) (cc := cX10_in) (maxL := 3) (ret := (some .boolean)) rfl (by decide +kernel) rfl (Nat.le_of_ble_eq_true rfl) rfl ?_
  intro E hEl hEy hED h hf
  subst hEl hEy hED
  have hkR : 0 ≤ E.2.2.2.2.2.1.cells ∧ 0 ≤ E.2.2.2.2.2.1.slots := ⟨Nat.zero_le _, Nat.zero_le _⟩
  refine z_cast (lv := [(0, .int v), (1, .int a), (2, .int b)]) (ws := ([])) (st := []) ?_ rfl rfl rfl
  refine z_iload_n h 0 rfl dX10_in_0 ?_
  refine z_iload_n h 1 rfl dX10_in_1 ?_
  refine z_icmp_lt h 14 dX10_in_2 (by decide) (fun c_2 => ?_) (fun c_2 => ?_)
  · refine z_iconst h (nI 0) (by decide +kernel) dX10_in_14 ?_
    exact z_zret h hf rfl rfl (by first | rfl | ((try simp only [wi, if_pos c_2]) <;> (try rfl))) rfl dX10_in_15
  · refine z_iload_n h 0 rfl dX10_in_5 ?_
    refine z_iload_n h 2 rfl dX10_in_6 ?_
    refine z_icmp_gt h 14 dX10_in_7 (by decide) (fun c_7 => ?_) (fun c_7 => ?_)
    · refine z_iconst h (nI 0) (by decide +kernel) dX10_in_14 ?_
      exact z_zret h hf rfl rfl (by first | rfl | ((try simp only [wi, if_neg c_2, if_pos c_7]) <;> (try rfl))) rfl dX10_in_15
    · refine z_iconst h (nI 1) (by decide +kernel) dX10_in_10 ?_
      refine z_goto h 15 dX10_in_11 (by decide) ?_
      exact z_zret h hf rfl rfl (by first | rfl | ((try simp only [wi, if_neg c_2, if_neg c_7]) <;> (try rfl))) rfl dX10_in_15

set_option maxHeartbeats 4000000 in
set_option maxRecDepth 100000 in
/-- isSite -/
theorem c_X10_isSite {l : Launch} {y : zY} {D : va_G} (x : Int32) : zM l y D yX10_isSite wsX10_isSite 1 22 [.int x] ([]) ([]) (some (.int (isS x))) := by
  refine z_start (own := RX10) (cc := cX10_isSite) (maxL := 1) (ret := (some .boolean)) rfl (by decide +kernel) rfl (Nat.le_of_ble_eq_true rfl) rfl ?_
  intro E hEl hEy hED h hf
  subst hEl hEy hED
  have hkR : 0 ≤ E.2.2.2.2.2.1.cells ∧ 0 ≤ E.2.2.2.2.2.1.slots := ⟨Nat.zero_le _, Nat.zero_le _⟩
  refine z_cast (lv := [(0, .int x)]) (ws := ([])) (st := []) ?_ rfl rfl rfl
  refine z_iload_n h 0 rfl dX10_isSite_0 ?_
  refine z_iconst h (nI 0) (by decide +kernel) dX10_isSite_1 ?_
  refine z_bipush h (nI 7) (by decide +kernel) dX10_isSite_2 ?_
  refine z_callS h (As := [.int x, .int (nI 0), .int (nI 7)]) (st := []) (ws2 := []) (B := []) (B' := []) (r := some (.int (wi x (nI 0) (nI 7)))) 3 (c_X10_in x (nI 0) (nI 7)) gX10_isSite_X10_in (by decide +kernel) rfl ⟨by decide, by decide⟩ [] rfl (by decide) rfl (Nat.le_of_ble_eq_true rfl) rfl rfl dX10_isSite_4 ?_ hkR
  exact z_zret h hf rfl (wi_nz _ _ _) rfl rfl dX10_isSite_7

set_option maxHeartbeats 4000000 in
set_option maxRecDepth 100000 in
/-- isKind -/
theorem c_X10_isKind {l : Launch} {y : zY} {D : va_G} (x : Int32) : zM l y D yX10_isKind wsX10_isKind 1 22 [.int x] ([]) ([]) (some (.int (isK x))) := by
  refine z_start (own := RX10) (cc := cX10_isKind) (maxL := 1) (ret := (some .boolean)) rfl (by decide +kernel) rfl (Nat.le_of_ble_eq_true rfl) rfl ?_
  intro E hEl hEy hED h hf
  subst hEl hEy hED
  have hkR : 0 ≤ E.2.2.2.2.2.1.cells ∧ 0 ≤ E.2.2.2.2.2.1.slots := ⟨Nat.zero_le _, Nat.zero_le _⟩
  refine z_cast (lv := [(0, .int x)]) (ws := ([])) (st := []) ?_ rfl rfl rfl
  refine z_iload_n h 0 rfl dX10_isKind_0 ?_
  refine z_iconst h (nI 0) (by decide +kernel) dX10_isKind_1 ?_
  refine z_iconst h (nI 2) (by decide +kernel) dX10_isKind_2 ?_
  refine z_callS h (As := [.int x, .int (nI 0), .int (nI 2)]) (st := []) (ws2 := []) (B := []) (B' := []) (r := some (.int (wi x (nI 0) (nI 2)))) 3 (c_X10_in x (nI 0) (nI 2)) gX10_isKind_X10_in (by decide +kernel) rfl ⟨by decide, by decide⟩ [] rfl (by decide) rfl (Nat.le_of_ble_eq_true rfl) rfl rfl dX10_isKind_3 ?_ hkR
  exact z_zret h hf rfl (wi_nz _ _ _) rfl rfl dX10_isKind_6

set_option maxHeartbeats 4000000 in
set_option maxRecDepth 100000 in
/-- isLevel -/
theorem c_X10_isLevel {l : Launch} {y : zY} {D : va_G} (x : Int32) : zM l y D yX10_isLevel wsX10_isLevel 1 22 [.int x] ([]) ([]) (some (.int (isL x))) := by
  refine z_start (own := RX10) (cc := cX10_isLevel) (maxL := 1) (ret := (some .boolean)) rfl (by decide +kernel) rfl (Nat.le_of_ble_eq_true rfl) rfl ?_
  intro E hEl hEy hED h hf
  subst hEl hEy hED
  have hkR : 0 ≤ E.2.2.2.2.2.1.cells ∧ 0 ≤ E.2.2.2.2.2.1.slots := ⟨Nat.zero_le _, Nat.zero_le _⟩
  refine z_cast (lv := [(0, .int x)]) (ws := ([])) (st := []) ?_ rfl rfl rfl
  refine z_iload_n h 0 rfl dX10_isLevel_0 ?_
  refine z_iconst h (nI 0) (by decide +kernel) dX10_isLevel_1 ?_
  refine z_iconst h (nI 5) (by decide +kernel) dX10_isLevel_2 ?_
  refine z_callS h (As := [.int x, .int (nI 0), .int (nI 5)]) (st := []) (ws2 := []) (B := []) (B' := []) (r := some (.int (wi x (nI 0) (nI 5)))) 3 (c_X10_in x (nI 0) (nI 5)) gX10_isLevel_X10_in (by decide +kernel) rfl ⟨by decide, by decide⟩ [] rfl (by decide) rfl (Nat.le_of_ble_eq_true rfl) rfl rfl dX10_isLevel_3 ?_ hkR
  exact z_zret h hf rfl (wi_nz _ _ _) rfl rfl dX10_isLevel_6

theorem iX10_isTool_X10 : ∀ w ∈ u_ws RX10 TX10 15, w ∈ wsX10_isTool := by decide +kernel
set_option maxHeartbeats 4000000 in
set_option maxRecDepth 100000 in
/-- isTool -/
theorem c_X10_isTool {l : Launch} {y : zY} {D : va_G} (q : Nat → Nat) (h : Nat → Nat → Int32) (x : Int32) : zM l y D yX10_isTool wsX10_isTool 1 22 [.ref (q 0), .int x] (zMo y q h) (zMo y q h) (some (.int (wi x (nI 0) (h 1 10 - nI 1)))) := by
  refine z_start (own := RX10) (cc := cX10_isTool) (maxL := 2) (ret := (some .boolean)) rfl (by decide +kernel) rfl (Nat.le_of_ble_eq_true rfl) rfl ?_
  intro E hEl hEy hED hC hf
  subst hEl hEy hED
  have hkR : 0 ≤ E.2.2.2.2.2.1.cells ∧ 0 ≤ E.2.2.2.2.2.1.slots := ⟨Nat.zero_le _, Nat.zero_le _⟩
  refine z_cast (lv := [(0, .ref (q 0)), (1, .int x)]) (ws := (zMo (zy E) q h)) (st := []) ?_ rfl rfl rfl
  refine z_iload_n hC 1 rfl dX10_isTool_0 ?_
  refine z_iconst hC (nI 0) (by decide +kernel) dX10_isTool_1 ?_
  refine z_aload_n hC 0 rfl dX10_isTool_2 ?_
  refine z_get hC 0 8 0 (v := .ref (q 1)) rfl rfl iX10_isTool_X10 (by decide) (List.mem_of_getElem? (i := 1) (by decide +kernel)) rfl rfl dX10_isTool_3 ?_
  refine z_bipush hC (nI 10) (by decide +kernel) dX10_isTool_6 ?_
  refine z_iald hC 1 10 (f := h 1) rfl rfl rfl (by omega) (by decide) dX10_isTool_8 ?_
  refine z_iconst hC (nI 1) (by decide +kernel) dX10_isTool_9 ?_
  refine z_isub hC dX10_isTool_10 ?_
  refine z_callS hC (As := [.int x, .int (nI 0), .int (((h 1) 10) - (nI 1))]) (st := []) (ws2 := zMo (zy E) q h) (B := []) (B' := []) (r := some (.int (wi x (nI 0) (((h 1) 10) - (nI 1))))) 3 (c_X10_in x (nI 0) (((h 1) 10) - (nI 1))) gX10_isTool_X10_in (by decide +kernel) rfl ⟨by decide, by decide⟩ [] rfl (by decide) rfl (Nat.le_of_ble_eq_true rfl) rfl rfl dX10_isTool_11 ?_ hkR
  exact z_zret hC hf rfl (wi_nz _ _ _) rfl rfl dX10_isTool_14

set_option maxHeartbeats 4000000 in
set_option maxRecDepth 100000 in
/-- upwards -/
theorem c_X10_upwards {l : Launch} {y : zY} {D : va_G} (a b : Int32) (hb0 : ¬ b = 0) : zM l y D yX10_upwards wsX10_upwards 0 0 [.int a, .int b] ([]) ([]) (some (.int (upw a b))) := by
  refine z_start (own := RX10) (cc := cX10_upwards) (maxL := 2) (ret := (some .int)) rfl (by decide +kernel) rfl (Nat.le_of_ble_eq_true rfl) rfl ?_
  intro E hEl hEy hED h hf
  subst hEl hEy hED
  have hkR : 0 ≤ E.2.2.2.2.2.1.cells ∧ 0 ≤ E.2.2.2.2.2.1.slots := ⟨Nat.zero_le _, Nat.zero_le _⟩
  refine z_cast (lv := [(0, .int a), (1, .int b)]) (ws := ([])) (st := []) ?_ rfl rfl rfl
  refine z_iload_n h 0 rfl dX10_upwards_0 ?_
  refine z_iload_n h 1 rfl dX10_upwards_1 ?_
  refine z_iadd h dX10_upwards_2 ?_
  refine z_iconst h (nI 1) (by decide +kernel) dX10_upwards_3 ?_
  refine z_isub h dX10_upwards_4 ?_
  refine z_iload_n h 1 rfl dX10_upwards_5 ?_
  refine z_idiv h dX10_upwards_6 hb0 ?_
  exact z_iret h hf rfl rfl rfl dX10_upwards_7

theorem iX10_thrown_X10 : ∀ w ∈ u_ws RX10 TX10 15, w ∈ wsX10_thrown := by decide +kernel
set_option maxHeartbeats 4000000 in
set_option maxRecDepth 100000 in
/-- thrown -/
theorem c_X10_thrown {l : Launch} {y : zY} {D : va_G} (q : Nat → Nat) (h : Nat → Nat → Int32) : zM l y D yX10_thrown wsX10_thrown 0 0 [.ref (q 0)] (zMo y q h) (zMo y q h) (some (.int (h 0 1))) := by
  refine z_start (own := RX10) (cc := cX10_thrown) (maxL := 1) (ret := (some .int)) rfl (by decide +kernel) rfl (Nat.le_of_ble_eq_true rfl) rfl ?_
  intro E hEl hEy hED hC hf
  subst hEl hEy hED
  have hkR : 0 ≤ E.2.2.2.2.2.1.cells ∧ 0 ≤ E.2.2.2.2.2.1.slots := ⟨Nat.zero_le _, Nat.zero_le _⟩
  refine z_cast (lv := [(0, .ref (q 0))]) (ws := (zMo (zy E) q h)) (st := []) ?_ rfl rfl rfl
  refine z_aload_n hC 0 rfl dX10_thrown_0 ?_
  refine z_get hC 0 8 4 (v := .int ((h 0) 1)) rfl rfl iX10_thrown_X10 (by decide) (List.mem_of_getElem? (i := 1) (by decide +kernel)) rfl rfl dX10_thrown_1 ?_
  exact z_iret hC hf rfl rfl rfl dX10_thrown_4

theorem iX10_fails_X10 : ∀ w ∈ u_ws RX10 TX10 15, w ∈ wsX10_fails := by decide +kernel
set_option maxHeartbeats 4000000 in
set_option maxRecDepth 100000 in
/-- fails -/
theorem c_X10_fails {l : Launch} {y : zY} {D : va_G} (q : Nat → Nat) (h : Nat → Nat → Int32) (a b c : Int32) : zM l y D yX10_fails wsX10_fails 0 0 [.ref (q 0), .int a, .int b, .int c] (zMo y q h) (zMo y q (flG h a b c)) (some (.int (flR a b c))) := by
  refine z_start (own := RX10) (cc := cX10_fails) (maxL := 4) (ret := (some .boolean)) rfl (by decide +kernel) rfl (Nat.le_of_ble_eq_true rfl) rfl ?_
  intro E hEl hEy hED hC hf
  subst hEl hEy hED
  have hkR : 0 ≤ E.2.2.2.2.2.1.cells ∧ 0 ≤ E.2.2.2.2.2.1.slots := ⟨Nat.zero_le _, Nat.zero_le _⟩
  refine z_cast (lv := [(0, .ref (q 0)), (1, .int a), (2, .int b), (3, .int c)]) (ws := (zMo (zy E) q h)) (st := []) ?_ rfl rfl rfl
  refine z_aload_n hC 0 rfl dX10_fails_0 ?_
  refine z_iload_n hC 1 rfl dX10_fails_1 ?_
  refine z_if_ne hC 9 dX10_fails_2 (by decide) (fun c_2 => ?_) (fun c_2 => ?_)
  · refine z_iload_n hC 2 rfl dX10_fails_9 ?_
    refine z_if_ne hC 17 dX10_fails_10 (by decide) (fun c_10 => ?_) (fun c_10 => ?_)
    · refine z_iload_n hC 3 rfl dX10_fails_17 ?_
      refine z_if_ne hC 25 dX10_fails_18 (by decide) (fun c_18 => ?_) (fun c_18 => ?_)
      · refine z_iconst hC (nI 0) (by decide +kernel) dX10_fails_25 ?_
        refine z_put hC 0 8 4 (ws' := zMo (zy E) q (va_up h 0 (upd (h 0) 1 (nI 0)))) tyX10 .int rfl rfl iX10_fails_X10 tyX10_ok nmX10 (by decide) (List.mem_of_getElem? (i := 1) (by decide +kernel)) rfl rfl (by decide +kernel) rfl rfl (Nat.le_of_ble_eq_true rfl) rfl dX10_fails_26 ?_
        refine z_aload_n hC 0 rfl dX10_fails_29 ?_
        refine z_get hC 0 8 4 (v := .int (nI 0)) rfl rfl iX10_fails_X10 (by decide) (List.mem_of_getElem? (i := 1) (by decide +kernel)) rfl rfl dX10_fails_30 ?_
        refine z_if_eq hC 40 dX10_fails_33 (by decide) (fun c_33 => ?_) (fun c_33 => ?_)
        · refine z_iconst hC (nI 0) (by decide +kernel) dX10_fails_40 ?_
          exact z_zret hC hf rfl rfl (by rw [flR, flV, if_neg c_2, if_neg c_10, if_neg c_18]; rfl) (by unfold flG; rw [flV, if_neg c_2, if_neg c_10, if_neg c_18]) dX10_fails_41
        · exact absurd c_33 (by decide +kernel)
      · refine z_iconst hC (nI 3) (by decide +kernel) dX10_fails_21 ?_
        refine z_goto hC 26 dX10_fails_22 (by decide) ?_
        refine z_put hC 0 8 4 (ws' := zMo (zy E) q (va_up h 0 (upd (h 0) 1 (nI 3)))) tyX10 .int rfl rfl iX10_fails_X10 tyX10_ok nmX10 (by decide) (List.mem_of_getElem? (i := 1) (by decide +kernel)) rfl rfl (by decide +kernel) rfl rfl (Nat.le_of_ble_eq_true rfl) rfl dX10_fails_26 ?_
        refine z_aload_n hC 0 rfl dX10_fails_29 ?_
        refine z_get hC 0 8 4 (v := .int (nI 3)) rfl rfl iX10_fails_X10 (by decide) (List.mem_of_getElem? (i := 1) (by decide +kernel)) rfl rfl dX10_fails_30 ?_
        refine z_if_eq hC 40 dX10_fails_33 (by decide) (fun c_33 => ?_) (fun c_33 => ?_)
        · exact absurd c_33 (by decide +kernel)
        · refine z_iconst hC (nI 1) (by decide +kernel) dX10_fails_36 ?_
          refine z_goto hC 41 dX10_fails_37 (by decide) ?_
          exact z_zret hC hf rfl rfl (by rw [flR, flV, if_neg c_2, if_neg c_10, if_pos c_18]; rfl) (by unfold flG; rw [flV, if_neg c_2, if_neg c_10, if_pos c_18]) dX10_fails_41
    · refine z_iconst hC (nI 2) (by decide +kernel) dX10_fails_13 ?_
      refine z_goto hC 26 dX10_fails_14 (by decide) ?_
      refine z_put hC 0 8 4 (ws' := zMo (zy E) q (va_up h 0 (upd (h 0) 1 (nI 2)))) tyX10 .int rfl rfl iX10_fails_X10 tyX10_ok nmX10 (by decide) (List.mem_of_getElem? (i := 1) (by decide +kernel)) rfl rfl (by decide +kernel) rfl rfl (Nat.le_of_ble_eq_true rfl) rfl dX10_fails_26 ?_
      refine z_aload_n hC 0 rfl dX10_fails_29 ?_
      refine z_get hC 0 8 4 (v := .int (nI 2)) rfl rfl iX10_fails_X10 (by decide) (List.mem_of_getElem? (i := 1) (by decide +kernel)) rfl rfl dX10_fails_30 ?_
      refine z_if_eq hC 40 dX10_fails_33 (by decide) (fun c_33 => ?_) (fun c_33 => ?_)
      · exact absurd c_33 (by decide +kernel)
      · refine z_iconst hC (nI 1) (by decide +kernel) dX10_fails_36 ?_
        refine z_goto hC 41 dX10_fails_37 (by decide) ?_
        exact z_zret hC hf rfl rfl (by rw [flR, flV, if_neg c_2, if_pos c_10]; rfl) (by unfold flG; rw [flV, if_neg c_2, if_pos c_10]) dX10_fails_41
  · refine z_iconst hC (nI 1) (by decide +kernel) dX10_fails_5 ?_
    refine z_goto hC 26 dX10_fails_6 (by decide) ?_
    refine z_put hC 0 8 4 (ws' := zMo (zy E) q (va_up h 0 (upd (h 0) 1 (nI 1)))) tyX10 .int rfl rfl iX10_fails_X10 tyX10_ok nmX10 (by decide) (List.mem_of_getElem? (i := 1) (by decide +kernel)) rfl rfl (by decide +kernel) rfl rfl (Nat.le_of_ble_eq_true rfl) rfl dX10_fails_26 ?_
    refine z_aload_n hC 0 rfl dX10_fails_29 ?_
    refine z_get hC 0 8 4 (v := .int (nI 1)) rfl rfl iX10_fails_X10 (by decide) (List.mem_of_getElem? (i := 1) (by decide +kernel)) rfl rfl dX10_fails_30 ?_
    refine z_if_eq hC 40 dX10_fails_33 (by decide) (fun c_33 => ?_) (fun c_33 => ?_)
    · exact absurd c_33 (by decide +kernel)
    · refine z_iconst hC (nI 1) (by decide +kernel) dX10_fails_36 ?_
      refine z_goto hC 41 dX10_fails_37 (by decide) ?_
      exact z_zret hC hf rfl rfl (by rw [flR, flV, if_pos c_2]; rfl) (by unfold flG; rw [flV, if_pos c_2]) dX10_fails_41

theorem iX10_hold_X10 : ∀ w ∈ u_ws RX10 TX10 15, w ∈ wsX10_hold := by decide +kernel
set_option maxHeartbeats 4000000 in
set_option maxRecDepth 100000 in
/-- hold -/
theorem c_X10_hold {l : Launch} {y : zY} {D : va_G} (q : Nat → Nat) (h : Nat → Nat → Int32) : zM l y D yX10_hold wsX10_hold 0 0 [.ref (q 0)] (zMo y q h) (zMo y q (va_up h 3 (h 1))) (none) := by
  refine z_start (own := RX10) (cc := cX10_hold) (maxL := 2) (ret := none) rfl (by decide +kernel) rfl (Nat.le_of_ble_eq_true rfl) rfl ?_
  intro E hEl hEy hED hC hf
  subst hEl hEy hED
  have hkR : 0 ≤ E.2.2.2.2.2.1.cells ∧ 0 ≤ E.2.2.2.2.2.1.slots := ⟨Nat.zero_le _, Nat.zero_le _⟩
  refine z_cast (lv := [(0, .ref (q 0))]) (ws := (zMo (zy E) q h)) (st := []) ?_ rfl rfl rfl
  refine z_iconst hC (nI 0) (by decide +kernel) dX10_hold_0 ?_
  refine z_istore_n hC (by decide) (lv' := [(1, .int (nI 0)), (0, .ref (q 0))]) rfl dX10_hold_1 ?_
  have lp_2 : ∀ (d_2 k : Nat), 215 < k + d_2 → k ≤ 215 → Z E 0 0 [(0, .ref (q 0)), (1, .int (nI k))] (zMo (zy E) q (va_up h 3 (cpA (h 3) (h 1) k))) 2 [] := by
    intro d_2
    induction d_2 with
    | zero => intro k  q1 q2; omega
    | succ d_2 ih_2 =>
      intro k  q1_2 q2_2 
      refine z_iload_n hC 1 rfl dX10_hold_2 ?_
      refine z_sipush hC (nI 215) (by decide +kernel) dX10_hold_3 ?_
      refine z_icmp_ge hC 27 dX10_hold_6 (by decide) (fun c_6 => ?_) (fun c_6 => ?_)
      · have k_6 : 215 ≤ k := (nI_leI (by omega) (by omega)).mp c_6
        obtain rfl : k = 215 := by omega
        refine z_arrE 3 (g := h 1) (ws' := zMo (zy E) q (va_up h 3 (h 1))) (cpA_lt (h 3) (h 1) 215) rfl rfl ?_
        exact z_vret hC hf rfl rfl rfl dX10_hold_27
      · have k_6 : ¬ (215 ≤ k) := fun q => c_6 ((nI_leI (by omega) (by omega)).mpr q)
        refine z_aload_n hC 0 rfl dX10_hold_9 ?_
        refine z_get hC 0 8 2 (v := .ref (q 3)) rfl rfl iX10_hold_X10 (by decide) (List.mem_of_getElem? (i := 1) (by decide +kernel)) rfl rfl dX10_hold_10 ?_
        refine z_iload_n hC 1 rfl dX10_hold_13 ?_
        refine z_aload_n hC 0 rfl dX10_hold_14 ?_
        refine z_get hC 0 8 0 (v := .ref (q 1)) rfl rfl iX10_hold_X10 (by decide) (List.mem_of_getElem? (i := 2) (by decide +kernel)) rfl rfl dX10_hold_15 ?_
        refine z_iload_n hC 1 rfl dX10_hold_18 ?_
        refine z_iald hC 1 k (f := h 1) rfl rfl rfl (by omega) (by decide) dX10_hold_19 ?_
        refine z_iast hC 3 k ((h 1) k) (ws' := zMo (zy E) q (va_up h 3 (upd (cpA (h 3) (h 1) k) k ((h 1) k)))) rfl rfl rfl rfl (by omega) (by decide) rfl dX10_hold_20 ?_
        refine z_iinc hC 1 (nI (k + 1)) rfl z_i1 (by decide) (lv' := [(1, .int (nI (k + 1))), (0, .ref (q 0))]) rfl dX10_hold_21 ?_
        refine z_goto hC 2 dX10_hold_24 (by decide) ?_
        refine z_sub [1, 0] (lv' := [(0, .ref (q 0)), (1, .int (nI (k + 1)))]) rfl ?_
        exact z_cast (ih_2 (k + 1) (by omega) (by omega)) rfl rfl rfl
  refine z_sub [1, 0] (lv' := [(0, .ref (q 0)), (1, .int (nI 0))]) rfl ?_
  exact z_cast (lp_2 (215 + 1) 0 (by omega) (by omega)) rfl rfl rfl

theorem iX10_putBack_X10 : ∀ w ∈ u_ws RX10 TX10 15, w ∈ wsX10_putBack := by decide +kernel
set_option maxHeartbeats 4000000 in
set_option maxRecDepth 100000 in
/-- putBack -/
theorem c_X10_putBack {l : Launch} {y : zY} {D : va_G} (q : Nat → Nat) (h : Nat → Nat → Int32) : zM l y D yX10_putBack wsX10_putBack 0 0 [.ref (q 0)] (zMo y q h) (zMo y q (va_up h 1 (h 3))) (none) := by
  refine z_start (own := RX10) (cc := cX10_putBack) (maxL := 2) (ret := none) rfl (by decide +kernel) rfl (Nat.le_of_ble_eq_true rfl) rfl ?_
  intro E hEl hEy hED hC hf
  subst hEl hEy hED
  have hkR : 0 ≤ E.2.2.2.2.2.1.cells ∧ 0 ≤ E.2.2.2.2.2.1.slots := ⟨Nat.zero_le _, Nat.zero_le _⟩
  refine z_cast (lv := [(0, .ref (q 0))]) (ws := (zMo (zy E) q h)) (st := []) ?_ rfl rfl rfl
  refine z_iconst hC (nI 0) (by decide +kernel) dX10_putBack_0 ?_
  refine z_istore_n hC (by decide) (lv' := [(1, .int (nI 0)), (0, .ref (q 0))]) rfl dX10_putBack_1 ?_
  have lp_2 : ∀ (d_2 k : Nat), 215 < k + d_2 → k ≤ 215 → Z E 0 0 [(0, .ref (q 0)), (1, .int (nI k))] (zMo (zy E) q (va_up h 1 (cpA (h 1) (h 3) k))) 2 [] := by
    intro d_2
    induction d_2 with
    | zero => intro k  q1 q2; omega
    | succ d_2 ih_2 =>
      intro k  q1_2 q2_2 
      refine z_iload_n hC 1 rfl dX10_putBack_2 ?_
      refine z_sipush hC (nI 215) (by decide +kernel) dX10_putBack_3 ?_
      refine z_icmp_ge hC 27 dX10_putBack_6 (by decide) (fun c_6 => ?_) (fun c_6 => ?_)
      · have k_6 : 215 ≤ k := (nI_leI (by omega) (by omega)).mp c_6
        obtain rfl : k = 215 := by omega
        refine z_arrE 1 (g := h 3) (ws' := zMo (zy E) q (va_up h 1 (h 3))) (cpA_lt (h 1) (h 3) 215) rfl rfl ?_
        exact z_vret hC hf rfl rfl rfl dX10_putBack_27
      · have k_6 : ¬ (215 ≤ k) := fun q => c_6 ((nI_leI (by omega) (by omega)).mpr q)
        refine z_aload_n hC 0 rfl dX10_putBack_9 ?_
        refine z_get hC 0 8 0 (v := .ref (q 1)) rfl rfl iX10_putBack_X10 (by decide) (List.mem_of_getElem? (i := 1) (by decide +kernel)) rfl rfl dX10_putBack_10 ?_
        refine z_iload_n hC 1 rfl dX10_putBack_13 ?_
        refine z_aload_n hC 0 rfl dX10_putBack_14 ?_
        refine z_get hC 0 8 2 (v := .ref (q 3)) rfl rfl iX10_putBack_X10 (by decide) (List.mem_of_getElem? (i := 2) (by decide +kernel)) rfl rfl dX10_putBack_15 ?_
        refine z_iload_n hC 1 rfl dX10_putBack_18 ?_
        refine z_iald hC 3 k (f := h 3) rfl rfl rfl (by omega) (by decide) dX10_putBack_19 ?_
        refine z_iast hC 1 k ((h 3) k) (ws' := zMo (zy E) q (va_up h 1 (upd (cpA (h 1) (h 3) k) k ((h 3) k)))) rfl rfl rfl rfl (by omega) (by decide) rfl dX10_putBack_20 ?_
        refine z_iinc hC 1 (nI (k + 1)) rfl z_i1 (by decide) (lv' := [(1, .int (nI (k + 1))), (0, .ref (q 0))]) rfl dX10_putBack_21 ?_
        refine z_goto hC 2 dX10_putBack_24 (by decide) ?_
        refine z_sub [1, 0] (lv' := [(0, .ref (q 0)), (1, .int (nI (k + 1)))]) rfl ?_
        exact z_cast (ih_2 (k + 1) (by omega) (by omega)) rfl rfl rfl
  refine z_sub [1, 0] (lv' := [(0, .ref (q 0)), (1, .int (nI 0))]) rfl ?_
  exact z_cast (lp_2 (215 + 1) 0 (by omega) (by omega)) rfl rfl rfl

theorem iX10_drop_X10 : ∀ w ∈ u_ws RX10 TX10 15, w ∈ wsX10_drop := by decide +kernel
set_option maxHeartbeats 4000000 in
set_option maxRecDepth 100000 in
/-- drop -/
theorem c_X10_drop {l : Launch} {y : zY} {D : va_G} (q : Nat → Nat) (h : Nat → Nat → Int32) (s : Nat) (hs : s < 8) (hM : okM (h 1)) : zM l y D yX10_drop wsX10_drop 0 0 [.ref (q 0), .int (nI s)] (zMo y q h) (zMo y q (va_up h 1 (dmF (h 1) s))) (none) := by
  refine z_start (own := RX10) (cc := cX10_drop) (maxL := 6) (ret := none) rfl (by decide +kernel) rfl (Nat.le_of_ble_eq_true rfl) rfl ?_
  intro E hEl hEy hED hC hf
  subst hEl hEy hED
  have hkR : 0 ≤ E.2.2.2.2.2.1.cells ∧ 0 ≤ E.2.2.2.2.2.1.slots := ⟨Nat.zero_le _, Nat.zero_le _⟩
  refine z_cast (lv := [(0, .ref (q 0)), (1, .int (nI s))]) (ws := (zMo (zy E) q h)) (st := []) ?_ rfl rfl rfl
  refine z_iconst hC (nI 0) (by decide +kernel) dX10_drop_0 ?_
  refine z_istore_n hC (by decide) (lv' := [(2, .int (nI 0)), (0, .ref (q 0)), (1, .int (nI s))]) rfl dX10_drop_1 ?_
  refine z_iconst hC (nI 0) (by decide +kernel) dX10_drop_2 ?_
  refine z_istore_n hC (by decide) (lv' := [(3, .int (nI 0)), (2, .int (nI 0)), (0, .ref (q 0)), (1, .int (nI s))]) rfl dX10_drop_3 ?_
  have lp_4 : ∀ (d_4 i : Nat), (zhm (h 1) s) < i + d_4 → i ≤ (zhm (h 1) s) → Z E 0 0 [(0, .ref (q 0)), (1, .int (nI s)), (2, .int (nI ((dmI (h 1) s i).1))), (3, .int (nI i))] (zMo (zy E) q (va_up h 1 ((dmI (h 1) s i).2))) 4 [] := by
    intro d_4
    induction d_4 with
    | zero => intro i  q1 q2; omega
    | succ d_4 ih_4 =>
      intro i  q1_4 q2_4 
      have hz := (hM s hs).2
      have hd := dmI_le (h 1) s i
      refine z_iload_n hC 3 rfl dX10_drop_4 ?_
      refine z_aload_n hC 0 rfl dX10_drop_5 ?_
      refine z_get hC 0 8 0 (v := .ref (q 1)) rfl rfl iX10_drop_X10 (by decide) (List.mem_of_getElem? (i := 1) (by decide +kernel)) rfl rfl dX10_drop_6 ?_
      refine z_bipush hC (nI 12) (by decide +kernel) dX10_drop_9 ?_
      refine z_iload_n hC 1 rfl dX10_drop_11 ?_
      refine z_iadd hC dX10_drop_12 ?_
      refine z_top (nI (12 + s)) (nI_add _ _) ?_
      refine z_iald hC 1 (12 + s) (f := (dmI (h 1) s i).2) rfl rfl rfl (by omega) (by decide) dX10_drop_13 ?_
      refine z_top (nI (zhm (h 1) s)) (by rw [dmI_lo _ _ _ _ (by omega)]; exact (hM s hs).1) ?_
      refine z_icmp_ge hC 100 dX10_drop_14 (by decide) (fun c_14 => ?_) (fun c_14 => ?_)
      · have k_14 : (zhm (h 1) s) ≤ i := (nI_leI (by omega) (by omega)).mp c_14
        obtain rfl : i = zhm (h 1) s := by omega
        refine z_aload_n hC 0 rfl dX10_drop_100 ?_
        refine z_get hC 0 8 0 (v := .ref (q 1)) rfl rfl iX10_drop_X10 (by decide) (List.mem_of_getElem? (i := 1) (by decide +kernel)) rfl rfl dX10_drop_101 ?_
        refine z_bipush hC (nI 12) (by decide +kernel) dX10_drop_104 ?_
        refine z_iload_n hC 1 rfl dX10_drop_106 ?_
        refine z_iadd hC dX10_drop_107 ?_
        refine z_top (nI (12 + s)) (nI_add _ _) ?_
        refine z_iload_n hC 2 rfl dX10_drop_108 ?_
        refine z_iast hC 1 (12 + s) (nI ((dmI (h 1) s (zhm (h 1) s)).1)) (ws' := zMo (zy E) q (va_up h 1 (upd ((dmI (h 1) s (zhm (h 1) s)).2) (12 + s) (nI ((dmI (h 1) s (zhm (h 1) s)).1))))) rfl rfl rfl rfl (by omega) (by decide) rfl dX10_drop_109 ?_
        exact z_vret hC hf rfl rfl rfl dX10_drop_110
      · have k_14 : ¬ ((zhm (h 1) s) ≤ i) := fun q => c_14 ((nI_leI (by omega) (by omega)).mpr q)
        refine z_bipush hC (nI 6) (by decide +kernel) dX10_drop_17 ?_
        refine z_iload_n hC 1 rfl dX10_drop_19 ?_
        refine z_imul hC dX10_drop_20 ?_
        refine z_top (nI (6 * s)) (pk_mul _ _) ?_
        refine z_iload_n hC 3 rfl dX10_drop_21 ?_
        refine z_iadd hC dX10_drop_22 ?_
        refine z_top (nI ((6 * s) + i)) (nI_add _ _) ?_
        refine z_istore hC (by decide) (lv' := [(4, .int (nI ((6 * s) + i))), (0, .ref (q 0)), (1, .int (nI s)), (2, .int (nI ((dmI (h 1) s i).1))), (3, .int (nI i))]) rfl dX10_drop_23 ?_
        refine z_bipush hC (nI 6) (by decide +kernel) dX10_drop_25 ?_
        refine z_iload_n hC 2 rfl dX10_drop_27 ?_
        refine z_imul hC dX10_drop_28 ?_
        refine z_top (nI (6 * s)) (pk_mul _ _) ?_
        refine z_iload_n hC 3 rfl dX10_drop_29 ?_
        refine z_iadd hC dX10_drop_30 ?_
        refine z_top (nI ((6 * s) + ((dmI (h 1) s i).1))) (nI_add _ _) ?_
        refine z_istore hC (by decide) (lv' := [(5, .int (nI ((6 * s) + ((dmI (h 1) s i).1)))), (4, .int (nI ((6 * s) + i))), (0, .ref (q 0)), (1, .int (nI s)), (2, .int (nI ((dmI (h 1) s i).1))), (3, .int (nI i))]) rfl dX10_drop_31 ?_
        refine z_aload_n hC 2 rfl dX10_drop_33 ?_
        refine z_get hC 0 8 0 (v := .ref (q 1)) rfl rfl iX10_drop_X10 (by decide) (List.mem_of_getElem? (i := 1) (by decide +kernel)) rfl rfl dX10_drop_34 ?_
        refine z_bipush hC (nI 44) (by decide +kernel) dX10_drop_37 ?_
        refine z_iload hC 0 rfl dX10_drop_39 ?_
        refine z_iadd hC dX10_drop_41 ?_
        refine z_top (nI (44 + ((6 * s) + ((dmI (h 1) s i).1)))) (nI_add _ _) ?_
        refine z_aload_n hC 2 rfl dX10_drop_42 ?_
        refine z_get hC 0 8 0 (v := .ref (q 1)) rfl rfl iX10_drop_X10 (by decide) (List.mem_of_getElem? (i := 1) (by decide +kernel)) rfl rfl dX10_drop_43 ?_
        refine z_bipush hC (nI 44) (by decide +kernel) dX10_drop_46 ?_
        refine z_iload hC 1 rfl dX10_drop_48 ?_
        refine z_iadd hC dX10_drop_50 ?_
        refine z_top (nI (44 + ((6 * s) + i))) (nI_add _ _) ?_
        refine z_iald hC 1 (44 + ((6 * s) + i)) (f := (dmI (h 1) s i).2) rfl rfl rfl (by omega) (by decide) dX10_drop_51 ?_
        refine z_iast hC 1 (44 + ((6 * s) + ((dmI (h 1) s i).1))) (((dmI (h 1) s i).2) (44 + ((6 * s) + i))) (ws' := zMo (zy E) q (va_up h 1 (upd ((dmI (h 1) s i).2) (44 + ((6 * s) + ((dmI (h 1) s i).1))) (((dmI (h 1) s i).2) (44 + ((6 * s) + i)))))) rfl rfl rfl rfl (by omega) (by decide) rfl dX10_drop_52 ?_
        refine z_aload_n hC 2 rfl dX10_drop_53 ?_
        refine z_get hC 0 8 0 (v := .ref (q 1)) rfl rfl iX10_drop_X10 (by decide) (List.mem_of_getElem? (i := 1) (by decide +kernel)) rfl rfl dX10_drop_54 ?_
        refine z_bipush hC (nI 92) (by decide +kernel) dX10_drop_57 ?_
        refine z_iload hC 0 rfl dX10_drop_59 ?_
        refine z_iadd hC dX10_drop_61 ?_
        refine z_top (nI (92 + ((6 * s) + ((dmI (h 1) s i).1)))) (nI_add _ _) ?_
        refine z_aload_n hC 2 rfl dX10_drop_62 ?_
        refine z_get hC 0 8 0 (v := .ref (q 1)) rfl rfl iX10_drop_X10 (by decide) (List.mem_of_getElem? (i := 1) (by decide +kernel)) rfl rfl dX10_drop_63 ?_
        refine z_bipush hC (nI 92) (by decide +kernel) dX10_drop_66 ?_
        refine z_iload hC 1 rfl dX10_drop_68 ?_
        refine z_iadd hC dX10_drop_70 ?_
        refine z_top (nI (92 + ((6 * s) + i))) (nI_add _ _) ?_
        refine z_iald hC 1 (92 + ((6 * s) + i)) (f := upd ((dmI (h 1) s i).2) (44 + ((6 * s) + ((dmI (h 1) s i).1))) (((dmI (h 1) s i).2) (44 + ((6 * s) + i)))) rfl rfl rfl (by omega) (by decide) dX10_drop_71 ?_
        refine z_iast hC 1 (92 + ((6 * s) + ((dmI (h 1) s i).1))) ((upd ((dmI (h 1) s i).2) (44 + ((6 * s) + ((dmI (h 1) s i).1))) (((dmI (h 1) s i).2) (44 + ((6 * s) + i)))) (92 + ((6 * s) + i))) (ws' := zMo (zy E) q (va_up h 1 (upd (upd ((dmI (h 1) s i).2) (44 + ((6 * s) + ((dmI (h 1) s i).1))) (((dmI (h 1) s i).2) (44 + ((6 * s) + i)))) (92 + ((6 * s) + ((dmI (h 1) s i).1))) ((upd ((dmI (h 1) s i).2) (44 + ((6 * s) + ((dmI (h 1) s i).1))) (((dmI (h 1) s i).2) (44 + ((6 * s) + i)))) (92 + ((6 * s) + i)))))) rfl rfl rfl rfl (by omega) (by decide) rfl dX10_drop_72 ?_
        refine z_iload_n hC 4 rfl dX10_drop_73 ?_
        refine z_aload_n hC 2 rfl dX10_drop_74 ?_
        refine z_get hC 0 8 0 (v := .ref (q 1)) rfl rfl iX10_drop_X10 (by decide) (List.mem_of_getElem? (i := 1) (by decide +kernel)) rfl rfl dX10_drop_75 ?_
        refine z_bipush hC (nI 92) (by decide +kernel) dX10_drop_78 ?_
        refine z_iload hC 0 rfl dX10_drop_80 ?_
        refine z_iadd hC dX10_drop_82 ?_
        refine z_top (nI (92 + ((6 * s) + ((dmI (h 1) s i).1)))) (nI_add _ _) ?_
        refine z_iald hC 1 (92 + ((6 * s) + ((dmI (h 1) s i).1))) (f := upd (upd ((dmI (h 1) s i).2) (44 + ((6 * s) + ((dmI (h 1) s i).1))) (((dmI (h 1) s i).2) (44 + ((6 * s) + i)))) (92 + ((6 * s) + ((dmI (h 1) s i).1))) ((upd ((dmI (h 1) s i).2) (44 + ((6 * s) + ((dmI (h 1) s i).1))) (((dmI (h 1) s i).2) (44 + ((6 * s) + i)))) (92 + ((6 * s) + i)))) rfl rfl rfl (by omega) (by decide) dX10_drop_83 ?_
        refine z_if_le hC 91 dX10_drop_84 (by decide) (fun c_84 => ?_) (fun c_84 => ?_)
        · have e9 : (dmI (h 1) s (i + 1)).1 = (dmI (h 1) s i).1 := by simp only [dmI]; exact if_pos c_84
          refine z_iconst hC (nI 0) (by decide +kernel) dX10_drop_91 ?_
          refine z_iadd hC dX10_drop_92 ?_
          refine z_top (nI (((dmI (h 1) s i).1) + 0)) (nI_add _ _) ?_
          refine z_istore_n hC (by decide) (lv' := [(2, .int (nI (((dmI (h 1) s i).1) + 0))), (5, .int (nI ((6 * s) + ((dmI (h 1) s i).1)))), (4, .int (nI ((6 * s) + i))), (0, .ref (q 0)), (1, .int (nI s)), (3, .int (nI i))]) rfl dX10_drop_93 ?_
          refine z_iinc hC 5 (nI (i + 1)) rfl z_i1 (by decide) (lv' := [(3, .int (nI (i + 1))), (2, .int (nI (((dmI (h 1) s i).1) + 0))), (5, .int (nI ((6 * s) + ((dmI (h 1) s i).1)))), (4, .int (nI ((6 * s) + i))), (0, .ref (q 0)), (1, .int (nI s))]) rfl dX10_drop_94 ?_
          refine z_goto hC 4 dX10_drop_97 (by decide) ?_
          refine z_sub [4, 5, 1, 0] (lv' := [(0, .ref (q 0)), (1, .int (nI s)), (2, .int (nI (((dmI (h 1) s i).1) + 0))), (3, .int (nI (i + 1)))]) rfl ?_
          exact z_cast (ih_4 (i + 1) (by omega) (by omega)) (by rw [e9] <;> rfl) rfl rfl
        · have e9 : (dmI (h 1) s (i + 1)).1 = (dmI (h 1) s i).1 + 1 := by simp only [dmI]; exact if_neg c_84
          refine z_iconst hC (nI 1) (by decide +kernel) dX10_drop_87 ?_
          refine z_goto hC 92 dX10_drop_88 (by decide) ?_
          refine z_iadd hC dX10_drop_92 ?_
          refine z_top (nI (((dmI (h 1) s i).1) + 1)) (nI_add _ _) ?_
          refine z_istore_n hC (by decide) (lv' := [(2, .int (nI (((dmI (h 1) s i).1) + 1))), (5, .int (nI ((6 * s) + ((dmI (h 1) s i).1)))), (4, .int (nI ((6 * s) + i))), (0, .ref (q 0)), (1, .int (nI s)), (3, .int (nI i))]) rfl dX10_drop_93 ?_
          refine z_iinc hC 5 (nI (i + 1)) rfl z_i1 (by decide) (lv' := [(3, .int (nI (i + 1))), (2, .int (nI (((dmI (h 1) s i).1) + 1))), (5, .int (nI ((6 * s) + ((dmI (h 1) s i).1)))), (4, .int (nI ((6 * s) + i))), (0, .ref (q 0)), (1, .int (nI s))]) rfl dX10_drop_94 ?_
          refine z_goto hC 4 dX10_drop_97 (by decide) ?_
          refine z_sub [4, 5, 1, 0] (lv' := [(0, .ref (q 0)), (1, .int (nI s)), (2, .int (nI (((dmI (h 1) s i).1) + 1))), (3, .int (nI (i + 1)))]) rfl ?_
          exact z_cast (ih_4 (i + 1) (by omega) (by omega)) (by rw [e9] <;> rfl) rfl rfl
  refine z_sub [2, 3, 1, 0] (lv' := [(0, .ref (q 0)), (1, .int (nI s)), (2, .int (nI 0)), (3, .int (nI 0))]) rfl ?_
  exact z_cast (lp_4 ((zhm (h 1) s) + 1) 0 (by omega) (by omega)) rfl rfl rfl

theorem iX10_volumes_X10 : ∀ w ∈ u_ws RX10 TX10 15, w ∈ wsX10_volumes := by decide +kernel
set_option maxHeartbeats 4000000 in
set_option maxRecDepth 100000 in
/-- volumes -/
theorem c_X10_volumes {l : Launch} {y : zY} {D : va_G} (q : Nat → Nat) (h : Nat → Nat → Int32) (s : Nat) (hs : s < 8) (hM : okM (h 1)) : zM l y D yX10_volumes wsX10_volumes 0 0 [.ref (q 0), .int (nI s)] (zMo y q h) (zMo y q h) (some (.int (vmS (h 1) s (zhm (h 1) s)))) := by
  refine z_start (own := RX10) (cc := cX10_volumes) (maxL := 4) (ret := (some .int)) rfl (by decide +kernel) rfl (Nat.le_of_ble_eq_true rfl) rfl ?_
  intro E hEl hEy hED hC hf
  subst hEl hEy hED
  have hkR : 0 ≤ E.2.2.2.2.2.1.cells ∧ 0 ≤ E.2.2.2.2.2.1.slots := ⟨Nat.zero_le _, Nat.zero_le _⟩
  refine z_cast (lv := [(0, .ref (q 0)), (1, .int (nI s))]) (ws := (zMo (zy E) q h)) (st := []) ?_ rfl rfl rfl
  refine z_iconst hC (nI 0) (by decide +kernel) dX10_volumes_0 ?_
  refine z_istore_n hC (by decide) (lv' := [(2, .int (nI 0)), (0, .ref (q 0)), (1, .int (nI s))]) rfl dX10_volumes_1 ?_
  refine z_iconst hC (nI 0) (by decide +kernel) dX10_volumes_2 ?_
  refine z_istore_n hC (by decide) (lv' := [(3, .int (nI 0)), (2, .int (nI 0)), (0, .ref (q 0)), (1, .int (nI s))]) rfl dX10_volumes_3 ?_
  have lp_4 : ∀ (d_4 i : Nat), (zhm (h 1) s) < i + d_4 → i ≤ (zhm (h 1) s) → Z E 0 0 [(0, .ref (q 0)), (1, .int (nI s)), (2, .int (vmS (h 1) s i)), (3, .int (nI i))] (zMo (zy E) q h) 4 [] := by
    intro d_4
    induction d_4 with
    | zero => intro i  q1 q2; omega
    | succ d_4 ih_4 =>
      intro i  q1_4 q2_4 
      have hz := (hM s hs).2
      refine z_iload_n hC 3 rfl dX10_volumes_4 ?_
      refine z_aload_n hC 0 rfl dX10_volumes_5 ?_
      refine z_get hC 0 8 0 (v := .ref (q 1)) rfl rfl iX10_volumes_X10 (by decide) (List.mem_of_getElem? (i := 1) (by decide +kernel)) rfl rfl dX10_volumes_6 ?_
      refine z_bipush hC (nI 12) (by decide +kernel) dX10_volumes_9 ?_
      refine z_iload_n hC 1 rfl dX10_volumes_11 ?_
      refine z_iadd hC dX10_volumes_12 ?_
      refine z_top (nI (12 + s)) (nI_add _ _) ?_
      refine z_iald hC 1 (12 + s) (f := h 1) rfl rfl rfl (by omega) (by decide) dX10_volumes_13 ?_
      refine z_top (nI (zhm (h 1) s)) (hM s hs).1 ?_
      refine z_icmp_ge hC 40 dX10_volumes_14 (by decide) (fun c_14 => ?_) (fun c_14 => ?_)
      · have k_14 : (zhm (h 1) s) ≤ i := (nI_leI (by omega) (by omega)).mp c_14
        obtain rfl : i = zhm (h 1) s := by omega
        refine z_iload_n hC 2 rfl dX10_volumes_40 ?_
        exact z_iret hC hf rfl rfl rfl dX10_volumes_41
      · have k_14 : ¬ ((zhm (h 1) s) ≤ i) := fun q => c_14 ((nI_leI (by omega) (by omega)).mpr q)
        refine z_iload_n hC 2 rfl dX10_volumes_17 ?_
        refine z_aload_n hC 0 rfl dX10_volumes_18 ?_
        refine z_get hC 0 8 0 (v := .ref (q 1)) rfl rfl iX10_volumes_X10 (by decide) (List.mem_of_getElem? (i := 1) (by decide +kernel)) rfl rfl dX10_volumes_19 ?_
        refine z_bipush hC (nI 92) (by decide +kernel) dX10_volumes_22 ?_
        refine z_bipush hC (nI 6) (by decide +kernel) dX10_volumes_24 ?_
        refine z_iload_n hC 1 rfl dX10_volumes_26 ?_
        refine z_imul hC dX10_volumes_27 ?_
        refine z_top (nI (6 * s)) (pk_mul _ _) ?_
        refine z_iadd hC dX10_volumes_28 ?_
        refine z_top (nI (92 + (6 * s))) (nI_add _ _) ?_
        refine z_iload_n hC 3 rfl dX10_volumes_29 ?_
        refine z_iadd hC dX10_volumes_30 ?_
        refine z_top (nI ((92 + (6 * s)) + i)) (nI_add _ _) ?_
        refine z_iald hC 1 ((92 + (6 * s)) + i) (f := h 1) rfl rfl rfl (by omega) (by decide) dX10_volumes_31 ?_
        refine z_iadd hC dX10_volumes_32 ?_
        refine z_istore_n hC (by decide) (lv' := [(2, .int ((vmS (h 1) s i) + ((h 1) ((92 + (6 * s)) + i)))), (0, .ref (q 0)), (1, .int (nI s)), (3, .int (nI i))]) rfl dX10_volumes_33 ?_
        refine z_iinc hC 3 (nI (i + 1)) rfl z_i1 (by decide) (lv' := [(3, .int (nI (i + 1))), (2, .int ((vmS (h 1) s i) + ((h 1) ((92 + (6 * s)) + i)))), (0, .ref (q 0)), (1, .int (nI s))]) rfl dX10_volumes_34 ?_
        refine z_goto hC 4 dX10_volumes_37 (by decide) ?_
        refine z_sub [2, 3, 1, 0] (lv' := [(0, .ref (q 0)), (1, .int (nI s)), (2, .int ((vmS (h 1) s i) + ((h 1) ((92 + (6 * s)) + i)))), (3, .int (nI (i + 1)))]) rfl ?_
        exact z_cast (ih_4 (i + 1) (by omega) (by omega)) rfl rfl rfl
  refine z_sub [2, 3, 1, 0] (lv' := [(0, .ref (q 0)), (1, .int (nI s)), (2, .int (nI 0)), (3, .int (nI 0))]) rfl ?_
  exact z_cast (lp_4 ((zhm (h 1) s) + 1) 0 (by omega) (by omega)) rfl rfl rfl

theorem iX10_isSideLit_X10 : ∀ w ∈ u_ws RX10 TX10 15, w ∈ wsX10_isSideLit := by decide +kernel
set_option maxHeartbeats 4000000 in
set_option maxRecDepth 100000 in
/-- isSideLit -/
theorem c_X10_isSideLit {l : Launch} {y : zY} {D : va_G} (q : Nat → Nat) (h : Nat → Nat → Int32) (s t : Nat) (hs : s < 8) : zM l y D yX10_isSideLit wsX10_isSideLit 2 42 [.ref (q 0), .int (nI s), .int (nI t)] (zMo y q h) (zMo y q h) (some (.int (slS (h 1) s t))) := by
  refine z_start (own := RX10) (cc := cX10_isSideLit) (maxL := 5) (ret := (some .boolean)) rfl (by decide +kernel) rfl (Nat.le_of_ble_eq_true rfl) rfl ?_
  intro E hEl hEy hED hC hf
  subst hEl hEy hED
  have hkR : 0 ≤ E.2.2.2.2.2.1.cells ∧ 0 ≤ E.2.2.2.2.2.1.slots := ⟨Nat.zero_le _, Nat.zero_le _⟩
  refine z_cast (lv := [(0, .ref (q 0)), (1, .int (nI s)), (2, .int (nI t))]) (ws := (zMo (zy E) q h)) (st := []) ?_ rfl rfl rfl
  refine z_aload_n hC 0 rfl dX10_isSideLit_0 ?_
  refine z_get hC 0 8 0 (v := .ref (q 1)) rfl rfl iX10_isSideLit_X10 (by decide) (List.mem_of_getElem? (i := 1) (by decide +kernel)) rfl rfl dX10_isSideLit_1 ?_
  refine z_bipush hC (nI 8) (by decide +kernel) dX10_isSideLit_4 ?_
  refine z_iald hC 1 8 (f := h 1) rfl rfl rfl (by omega) (by decide) dX10_isSideLit_6 ?_
  refine z_iconst hC (nI 4) (by decide +kernel) dX10_isSideLit_7 ?_
  refine z_idiv hC dX10_isSideLit_8 (by decide +kernel) ?_
  refine z_istore_n hC (by decide) (lv' := [(3, .int (((h 1) 8) / (nI 4))), (0, .ref (q 0)), (1, .int (nI s)), (2, .int (nI t))]) rfl dX10_isSideLit_9 ?_
  refine z_iload_n hC 0 rfl dX10_isSideLit_10 ?_
  refine z_iconst hC (nI 1) (by decide +kernel) dX10_isSideLit_11 ?_
  refine z_icmp_ne hC 33 dX10_isSideLit_12 (by decide) (fun c_12 => ?_) (fun c_12 => ?_)
  · refine z_iload_n hC 0 rfl dX10_isSideLit_33 ?_
    refine z_if_ne hC 43 dX10_isSideLit_34 (by decide) (fun c_34 => ?_) (fun c_34 => ?_)
    · refine z_iload_n hC 2 rfl dX10_isSideLit_43 ?_
      refine z_iconst hC (nI 1) (by decide +kernel) dX10_isSideLit_44 ?_
      refine z_isub hC dX10_isSideLit_45 ?_
      refine z_istore hC (by decide) (lv' := [(4, .int ((nI s) - (nI 1))), (3, .int (((h 1) 8) / (nI 4))), (0, .ref (q 0)), (1, .int (nI s)), (2, .int (nI t))]) rfl dX10_isSideLit_46 ?_
      refine z_iload hC 0 rfl dX10_isSideLit_48 ?_
      refine z_callS hC (As := [.int ((nI s) - (nI 1))]) (st := []) (ws2 := zMo (zy E) q h) (B := []) (B' := []) (r := some (.int (isS ((nI s) - (nI 1))))) 1 (c_X10_isSite ((nI s) - (nI 1))) gX10_isSideLit_X10_isSite (by decide +kernel) rfl ⟨by decide, by decide⟩ [] rfl (by decide) rfl (Nat.le_of_ble_eq_true rfl) rfl rfl dX10_isSideLit_50 ?_ hkR
      refine z_if_eq hC 70 dX10_isSideLit_53 (by decide) (fun c_53 => ?_) (fun c_53 => ?_)
      · refine z_iconst hC (nI 1) (by decide +kernel) dX10_isSideLit_70 ?_
        refine z_goto hC 75 dX10_isSideLit_71 (by decide) ?_
        exact z_zret hC hf rfl rfl (by simp only [slS, slB, if_neg c_12, if_neg c_34, if_pos c_53]; try rfl) rfl dX10_isSideLit_75
      · have hx9 := (isS_in c_53).2
        refine z_aload_n hC 2 rfl dX10_isSideLit_56 ?_
        refine z_get hC 0 8 0 (v := .ref (q 1)) rfl rfl iX10_isSideLit_X10 (by decide) (List.mem_of_getElem? (i := 1) (by decide +kernel)) rfl rfl dX10_isSideLit_57 ?_
        refine z_bipush hC (nI 12) (by decide +kernel) dX10_isSideLit_60 ?_
        refine z_iload hC 0 rfl dX10_isSideLit_62 ?_
        refine z_iadd hC dX10_isSideLit_64 ?_
        refine z_top (nI (12 + (nI s - nI 1).toNatClampNeg)) (by rw [← nI_add 12]; exact congrArg (fun v => nI 12 + v) (isS_in c_53).1) ?_
        refine z_iald hC 1 (12 + (nI s - nI 1).toNatClampNeg) (f := h 1) rfl rfl rfl (by omega) (by decide) dX10_isSideLit_65 ?_
        refine z_iload_n hC 4 rfl dX10_isSideLit_66 ?_
        refine z_icmp_gt hC 74 dX10_isSideLit_67 (by decide) (fun c_67 => ?_) (fun c_67 => ?_)
        · refine z_iconst hC (nI 0) (by decide +kernel) dX10_isSideLit_74 ?_
          exact z_zret hC hf rfl rfl (by simp only [slS, slB, if_neg c_12, if_neg c_34, if_neg c_53, if_pos c_67]; try rfl) rfl dX10_isSideLit_75
        · refine z_iconst hC (nI 1) (by decide +kernel) dX10_isSideLit_70 ?_
          refine z_goto hC 75 dX10_isSideLit_71 (by decide) ?_
          exact z_zret hC hf rfl rfl (by simp only [slS, slB, if_neg c_12, if_neg c_34, if_neg c_53, if_neg c_67]; try rfl) rfl dX10_isSideLit_75
    · refine z_iload_n hC 2 rfl dX10_isSideLit_37 ?_
      refine z_iconst hC (nI 1) (by decide +kernel) dX10_isSideLit_38 ?_
      refine z_iadd hC dX10_isSideLit_39 ?_
      refine z_top (nI (s + 1)) (nI_add _ _) ?_
      refine z_goto hC 46 dX10_isSideLit_40 (by decide) ?_
      refine z_istore hC (by decide) (lv' := [(4, .int (nI (s + 1))), (3, .int (((h 1) 8) / (nI 4))), (0, .ref (q 0)), (1, .int (nI s)), (2, .int (nI t))]) rfl dX10_isSideLit_46 ?_
      refine z_iload hC 0 rfl dX10_isSideLit_48 ?_
      refine z_callS hC (As := [.int (nI (s + 1))]) (st := []) (ws2 := zMo (zy E) q h) (B := []) (B' := []) (r := some (.int (isS (nI (s + 1))))) 1 (c_X10_isSite (nI (s + 1))) gX10_isSideLit_X10_isSite (by decide +kernel) rfl ⟨by decide, by decide⟩ [] rfl (by decide) rfl (Nat.le_of_ble_eq_true rfl) rfl rfl dX10_isSideLit_50 ?_ hkR
      refine z_if_eq hC 70 dX10_isSideLit_53 (by decide) (fun c_53 => ?_) (fun c_53 => ?_)
      · refine z_iconst hC (nI 1) (by decide +kernel) dX10_isSideLit_70 ?_
        refine z_goto hC 75 dX10_isSideLit_71 (by decide) ?_
        exact z_zret hC hf rfl rfl (by simp only [slS, slB, if_neg c_12, if_pos c_34, if_pos c_53]; try rfl) rfl dX10_isSideLit_75
      · have hx9 := (isS_in c_53).2
        refine z_aload_n hC 2 rfl dX10_isSideLit_56 ?_
        refine z_get hC 0 8 0 (v := .ref (q 1)) rfl rfl iX10_isSideLit_X10 (by decide) (List.mem_of_getElem? (i := 1) (by decide +kernel)) rfl rfl dX10_isSideLit_57 ?_
        refine z_bipush hC (nI 12) (by decide +kernel) dX10_isSideLit_60 ?_
        refine z_iload hC 0 rfl dX10_isSideLit_62 ?_
        refine z_iadd hC dX10_isSideLit_64 ?_
        refine z_top (nI (12 + (nI (s + 1)).toNatClampNeg)) (by rw [← nI_add 12]; exact congrArg (fun v => nI 12 + v) (isS_in c_53).1) ?_
        refine z_iald hC 1 (12 + (nI (s + 1)).toNatClampNeg) (f := h 1) rfl rfl rfl (by omega) (by decide) dX10_isSideLit_65 ?_
        refine z_iload_n hC 4 rfl dX10_isSideLit_66 ?_
        refine z_icmp_gt hC 74 dX10_isSideLit_67 (by decide) (fun c_67 => ?_) (fun c_67 => ?_)
        · refine z_iconst hC (nI 0) (by decide +kernel) dX10_isSideLit_74 ?_
          exact z_zret hC hf rfl rfl (by simp only [slS, slB, if_neg c_12, if_pos c_34, if_neg c_53, if_pos c_67]; try rfl) rfl dX10_isSideLit_75
        · refine z_iconst hC (nI 1) (by decide +kernel) dX10_isSideLit_70 ?_
          refine z_goto hC 75 dX10_isSideLit_71 (by decide) ?_
          exact z_zret hC hf rfl rfl (by simp only [slS, slB, if_neg c_12, if_pos c_34, if_neg c_53, if_neg c_67]; try rfl) rfl dX10_isSideLit_75
  · refine z_aload_n hC 1 rfl dX10_isSideLit_15 ?_
    refine z_get hC 0 8 0 (v := .ref (q 1)) rfl rfl iX10_isSideLit_X10 (by decide) (List.mem_of_getElem? (i := 1) (by decide +kernel)) rfl rfl dX10_isSideLit_16 ?_
    refine z_bipush hC (nI 20) (by decide +kernel) dX10_isSideLit_19 ?_
    refine z_iload_n hC 2 rfl dX10_isSideLit_21 ?_
    refine z_iadd hC dX10_isSideLit_22 ?_
    refine z_top (nI (20 + s)) (nI_add _ _) ?_
    refine z_iald hC 1 (20 + s) (f := h 1) rfl rfl rfl (by omega) (by decide) dX10_isSideLit_23 ?_
    refine z_if_ne hC 31 dX10_isSideLit_24 (by decide) (fun c_24 => ?_) (fun c_24 => ?_)
    · refine z_iconst hC (nI 0) (by decide +kernel) dX10_isSideLit_31 ?_
      exact z_zret hC hf rfl rfl (by simp only [slS, if_pos c_12, if_neg c_24]; try rfl) rfl dX10_isSideLit_32
    · refine z_iconst hC (nI 1) (by decide +kernel) dX10_isSideLit_27 ?_
      refine z_goto hC 32 dX10_isSideLit_28 (by decide) ?_
      exact z_zret hC hf rfl rfl (by simp only [slS, if_pos c_12, if_pos c_24]; try rfl) rfl dX10_isSideLit_32

theorem iX10_faces_X10 : ∀ w ∈ u_ws RX10 TX10 15, w ∈ wsX10_faces := by decide +kernel
set_option maxHeartbeats 4000000 in
set_option maxRecDepth 100000 in
/-- faces -/
theorem c_X10_faces {l : Launch} {y : zY} {D : va_G} (q : Nat → Nat) (h : Nat → Nat → Int32) (s t : Nat) (hs : s < 8) : zM l y D yX10_faces wsX10_faces 3 66 [.ref (q 0), .int (nI s), .int (nI t)] (zMo y q h) (zMo y q h) (some (.int (fcM (h 1) s t))) := by
  refine z_start (own := RX10) (cc := cX10_faces) (maxL := 3) (ret := (some .int)) rfl (by decide +kernel) rfl (Nat.le_of_ble_eq_true rfl) rfl ?_
  intro E hEl hEy hED hC hf
  subst hEl hEy hED
  have hkR : 0 ≤ E.2.2.2.2.2.1.cells ∧ 0 ≤ E.2.2.2.2.2.1.slots := ⟨Nat.zero_le _, Nat.zero_le _⟩
  refine z_cast (lv := [(0, .ref (q 0)), (1, .int (nI s)), (2, .int (nI t))]) (ws := (zMo (zy E) q h)) (st := []) ?_ rfl rfl rfl
  refine z_aload_n hC 0 rfl dX10_faces_0 ?_
  refine z_iload_n hC 1 rfl dX10_faces_1 ?_
  refine z_iload_n hC 2 rfl dX10_faces_2 ?_
  refine z_callV hC (As := [.int (nI s), .int (nI t)]) (st := []) (ws2 := zMo (zy E) q h) (B := zMo (zy E) q h) (B' := zMo (zy E) q h) (r := some (.int (slS (h 1) s t))) 2 (c_X10_isSideLit q h s t (by omega)) gX10_faces_X10_isSideLit (q0 := 0) (ci := 8) (by decide +kernel) rfl rfl rfl ⟨by decide, by decide⟩ [0, 1, 2, 3, 4, 5, 6] rfl (by decide) rfl (Nat.le_of_ble_eq_true rfl) rfl rfl dX10_faces_3 ?_ hkR
  refine z_if_eq hC 13 dX10_faces_6 (by decide) (fun c_6 => ?_) (fun c_6 => ?_)
  · refine z_iconst hC (nI 0) (by decide +kernel) dX10_faces_13 ?_
    refine z_iload_n hC 2 rfl dX10_faces_14 ?_
    refine z_aload_n hC 0 rfl dX10_faces_15 ?_
    refine z_get hC 0 8 0 (v := .ref (q 1)) rfl rfl iX10_faces_X10 (by decide) (List.mem_of_getElem? (i := 1) (by decide +kernel)) rfl rfl dX10_faces_16 ?_
    refine z_bipush hC (nI 12) (by decide +kernel) dX10_faces_19 ?_
    refine z_iload_n hC 1 rfl dX10_faces_21 ?_
    refine z_iadd hC dX10_faces_22 ?_
    refine z_top (nI (12 + s)) (nI_add _ _) ?_
    refine z_iald hC 1 (12 + s) (f := h 1) rfl rfl rfl (by omega) (by decide) dX10_faces_23 ?_
    refine z_iconst hC (nI 1) (by decide +kernel) dX10_faces_24 ?_
    refine z_isub hC dX10_faces_25 ?_
    refine z_icmp_ne hC 33 dX10_faces_26 (by decide) (fun c_26 => ?_) (fun c_26 => ?_)
    · refine z_iconst hC (nI 0) (by decide +kernel) dX10_faces_33 ?_
      refine z_iadd hC dX10_faces_34 ?_
      refine z_top (nI (0 + 0)) (nI_add _ _) ?_
      exact z_iret hC hf rfl (by first | rfl | (simp only [fcM, if_pos c_6, if_neg c_26]; try rfl)) rfl dX10_faces_35
    · refine z_iconst hC (nI 1) (by decide +kernel) dX10_faces_29 ?_
      refine z_goto hC 34 dX10_faces_30 (by decide) ?_
      refine z_iadd hC dX10_faces_34 ?_
      refine z_top (nI (0 + 1)) (nI_add _ _) ?_
      exact z_iret hC hf rfl (by first | rfl | (simp only [fcM, if_pos c_6, if_pos c_26]; try rfl)) rfl dX10_faces_35
  · refine z_iconst hC (nI 1) (by decide +kernel) dX10_faces_9 ?_
    refine z_goto hC 14 dX10_faces_10 (by decide) ?_
    refine z_iload_n hC 2 rfl dX10_faces_14 ?_
    refine z_aload_n hC 0 rfl dX10_faces_15 ?_
    refine z_get hC 0 8 0 (v := .ref (q 1)) rfl rfl iX10_faces_X10 (by decide) (List.mem_of_getElem? (i := 1) (by decide +kernel)) rfl rfl dX10_faces_16 ?_
    refine z_bipush hC (nI 12) (by decide +kernel) dX10_faces_19 ?_
    refine z_iload_n hC 1 rfl dX10_faces_21 ?_
    refine z_iadd hC dX10_faces_22 ?_
    refine z_top (nI (12 + s)) (nI_add _ _) ?_
    refine z_iald hC 1 (12 + s) (f := h 1) rfl rfl rfl (by omega) (by decide) dX10_faces_23 ?_
    refine z_iconst hC (nI 1) (by decide +kernel) dX10_faces_24 ?_
    refine z_isub hC dX10_faces_25 ?_
    refine z_icmp_ne hC 33 dX10_faces_26 (by decide) (fun c_26 => ?_) (fun c_26 => ?_)
    · refine z_iconst hC (nI 0) (by decide +kernel) dX10_faces_33 ?_
      refine z_iadd hC dX10_faces_34 ?_
      refine z_top (nI (1 + 0)) (nI_add _ _) ?_
      exact z_iret hC hf rfl (by first | rfl | (simp only [fcM, if_neg c_6, if_neg c_26]; try rfl)) rfl dX10_faces_35
    · refine z_iconst hC (nI 1) (by decide +kernel) dX10_faces_29 ?_
      refine z_goto hC 34 dX10_faces_30 (by decide) ?_
      refine z_iadd hC dX10_faces_34 ?_
      refine z_top (nI (1 + 1)) (nI_add _ _) ?_
      exact z_iret hC hf rfl (by first | rfl | (simp only [fcM, if_neg c_6, if_pos c_26]; try rfl)) rfl dX10_faces_35

set_option maxHeartbeats 4000000 in
set_option maxRecDepth 100000 in
/-- rate -/
theorem c_X10_rate {l : Launch} {y : zY} {D : va_G} (k : Int32) : zM l y D yX10_rate wsX10_rate 0 0 [.int k] ([]) ([]) (some (.int (rt k))) := by
  refine z_start (own := RX10) (cc := cX10_rate) (maxL := 1) (ret := (some .int)) rfl (by decide +kernel) rfl (Nat.le_of_ble_eq_true rfl) rfl ?_
  intro E hEl hEy hED h hf
  subst hEl hEy hED
  have hkR : 0 ≤ E.2.2.2.2.2.1.cells ∧ 0 ≤ E.2.2.2.2.2.1.slots := ⟨Nat.zero_le _, Nat.zero_le _⟩
  refine z_cast (lv := [(0, .int k)]) (ws := ([])) (st := []) ?_ rfl rfl rfl
  refine z_iload_n h 0 rfl dX10_rate_0 ?_
  refine z_if_ne h 9 dX10_rate_1 (by decide) (fun c_1 => ?_) (fun c_1 => ?_)
  · refine z_iload_n h 0 rfl dX10_rate_9 ?_
    refine z_iconst h (nI 1) (by decide +kernel) dX10_rate_10 ?_
    refine z_icmp_ne h 18 dX10_rate_11 (by decide) (fun c_11 => ?_) (fun c_11 => ?_)
    · refine z_iconst h (nI 2) (by decide +kernel) dX10_rate_18 ?_
      exact z_iret h hf rfl (by rw [rt, if_neg c_1]; exact congrArg (fun v => some (Value.int v)) (if_neg c_11)) rfl dX10_rate_19
    · refine z_iconst h (nI 4) (by decide +kernel) dX10_rate_14 ?_
      refine z_goto h 19 dX10_rate_15 (by decide) ?_
      exact z_iret h hf rfl (by rw [rt, if_neg c_1]; exact congrArg (fun v => some (Value.int v)) (if_pos c_11)) rfl dX10_rate_19
  · refine z_bipush h (nI 6) (by decide +kernel) dX10_rate_4 ?_
    refine z_goto h 19 dX10_rate_6 (by decide) ?_
    exact z_iret h hf rfl (by rw [rt, if_pos c_1]) rfl dX10_rate_19

theorem iX10_walls_X10 : ∀ w ∈ u_ws RX10 TX10 15, w ∈ wsX10_walls := by decide +kernel
set_option maxHeartbeats 4000000 in
set_option maxRecDepth 100000 in
/-- walls -/
theorem c_X10_walls {l : Launch} {y : zY} {D : va_G} (q : Nat → Nat) (h : Nat → Nat → Int32) : zM l y D yX10_walls wsX10_walls 0 0 [.ref (q 0)] (zMo y q h) (zMo y q h) (some (.int (wlS (h 1) 8))) := by
  refine z_start (own := RX10) (cc := cX10_walls) (maxL := 3) (ret := (some .int)) rfl (by decide +kernel) rfl (Nat.le_of_ble_eq_true rfl) rfl ?_
  intro E hEl hEy hED hC hf
  subst hEl hEy hED
  have hkR : 0 ≤ E.2.2.2.2.2.1.cells ∧ 0 ≤ E.2.2.2.2.2.1.slots := ⟨Nat.zero_le _, Nat.zero_le _⟩
  refine z_cast (lv := [(0, .ref (q 0))]) (ws := (zMo (zy E) q h)) (st := []) ?_ rfl rfl rfl
  refine z_iconst hC (nI 0) (by decide +kernel) dX10_walls_0 ?_
  refine z_istore_n hC (by decide) (lv' := [(1, .int (nI 0)), (0, .ref (q 0))]) rfl dX10_walls_1 ?_
  refine z_iconst hC (nI 0) (by decide +kernel) dX10_walls_2 ?_
  refine z_istore_n hC (by decide) (lv' := [(2, .int (nI 0)), (1, .int (nI 0)), (0, .ref (q 0))]) rfl dX10_walls_3 ?_
  have lp_4 : ∀ (d_4 s : Nat), 8 < s + d_4 → s ≤ 8 → Z E 0 0 [(0, .ref (q 0)), (1, .int (wlS (h 1) s)), (2, .int (nI s))] (zMo (zy E) q h) 4 [] := by
    intro d_4
    induction d_4 with
    | zero => intro s  q1 q2; omega
    | succ d_4 ih_4 =>
      intro s  q1_4 q2_4 
      refine z_iload_n hC 2 rfl dX10_walls_4 ?_
      refine z_bipush hC (nI 8) (by decide +kernel) dX10_walls_5 ?_
      refine z_icmp_ge hC 28 dX10_walls_7 (by decide) (fun c_7 => ?_) (fun c_7 => ?_)
      · have k_7 : 8 ≤ s := (nI_leI (by omega) (by omega)).mp c_7
        obtain rfl : s = 8 := by omega
        refine z_iload_n hC 1 rfl dX10_walls_28 ?_
        exact z_iret hC hf rfl rfl rfl dX10_walls_29
      · have k_7 : ¬ (8 ≤ s) := fun q => c_7 ((nI_leI (by omega) (by omega)).mpr q)
        refine z_iload_n hC 1 rfl dX10_walls_10 ?_
        refine z_aload_n hC 0 rfl dX10_walls_11 ?_
        refine z_get hC 0 8 0 (v := .ref (q 1)) rfl rfl iX10_walls_X10 (by decide) (List.mem_of_getElem? (i := 1) (by decide +kernel)) rfl rfl dX10_walls_12 ?_
        refine z_bipush hC (nI 20) (by decide +kernel) dX10_walls_15 ?_
        refine z_iload_n hC 2 rfl dX10_walls_17 ?_
        refine z_iadd hC dX10_walls_18 ?_
        refine z_top (nI (20 + s)) (nI_add _ _) ?_
        refine z_iald hC 1 (20 + s) (f := h 1) rfl rfl rfl (by omega) (by decide) dX10_walls_19 ?_
        refine z_iadd hC dX10_walls_20 ?_
        refine z_istore_n hC (by decide) (lv' := [(1, .int ((wlS (h 1) s) + ((h 1) (20 + s)))), (0, .ref (q 0)), (2, .int (nI s))]) rfl dX10_walls_21 ?_
        refine z_iinc hC 2 (nI (s + 1)) rfl z_i1 (by decide) (lv' := [(2, .int (nI (s + 1))), (1, .int ((wlS (h 1) s) + ((h 1) (20 + s)))), (0, .ref (q 0))]) rfl dX10_walls_22 ?_
        refine z_goto hC 4 dX10_walls_25 (by decide) ?_
        refine z_sub [2, 1, 0] (lv' := [(0, .ref (q 0)), (1, .int ((wlS (h 1) s) + ((h 1) (20 + s)))), (2, .int (nI (s + 1)))]) rfl ?_
        exact z_cast (ih_4 (s + 1) (by omega) (by omega)) rfl rfl rfl
  refine z_sub [2, 1, 0] (lv' := [(0, .ref (q 0)), (1, .int (nI 0)), (2, .int (nI 0))]) rfl ?_
  exact z_cast (lp_4 (8 + 1) 0 (by omega) (by omega)) rfl rfl rfl
