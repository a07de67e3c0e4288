theorem tk_le (g : Nat → Nat → Int32) : ∀ k r c, r + k = 8 → (c 0 0 = nI r) → ∃ j, j ≤ 8 ∧ tkR g k r c 0 0 = nI j
  | 0, r, c, h, hc => ⟨r, by omega, hc⟩
  | k + 1, r, c, h, hc => by
    unfold tkR
    split
    · refine tk_le g k (r + 1) _ (by omega) ?_
      unfold dwC
      split <;> rfl
    · exact ⟨r + 1, by omega, rfl⟩
theorem tkC_n (g c : Nat → Nat → Int32) : ∃ j, j ≤ 8 ∧ tkC g c 0 0 = nI j := by
  unfold tkC
  split
  · exact ⟨0, by omega, rfl⟩
  · exact tk_le g 8 0 (tk0 g c) rfl rfl
def vsC (g c : Nat → Nat → Int32) (r s : Nat) : Int32 := if tkC g c 0 0 ≤ nI r then (-1) else tkC g c 2 (r * 8 + s)
theorem iX9_rounds_X2 : ∀ w ∈ u_ws RX2 TX2 5, w ∈ wsX9_rounds := by decide +kernel
theorem iX9_rounds_X5 : ∀ w ∈ u_ws RX5 TX5 10, w ∈ wsX9_rounds := by decide +kernel
theorem iX9_rounds_X9 : ∀ w ∈ u_ws RX9 TX9 5, w ∈ wsX9_rounds := by decide +kernel
set_option maxHeartbeats 4000000 in
set_option maxRecDepth 100000 in
/-- X9_rounds -/
theorem c_X9_rounds {l : Launch} {y : zY} {D : va_G} (q : Nat → Nat) (a : Nat → Nat → Nat) (g t c o n : Nat → Nat → Int32) (S : Nat → Nat → Nat → Int32) (hg : okH g) (hgb : okB g) : zM l y D yX9_rounds wsX9_rounds 5 117 [.ref (q 0)] (zCW y q a g t c o n S) (zCW y q a g t (tkC g c) o n S) (some (.int (tkC g c 0 0))) := by
  refine z_start (own := RX9) (cc := cX9_rounds) (maxL := 1) (ret := (some .int)) rfl (by decide +kernel) rfl (Nat.le_of_ble_eq_true rfl) (zCW_fst _ _ _ _ _ _ _ _ _ _ _ _ _ _ _) ?_
  intro E hEl hEy hED h hf
  subst hEl hEy hED
  have hkR : 0 ≤ E.2.2.2.2.2.1.cells ∧ 0 ≤ E.2.2.2.2.2.1.slots := ⟨Nat.zero_le _, Nat.zero_le _⟩
  refine z_cast (lv := [(0, .ref (q 0))]) (ws := (zCW (zy E) q a g t c o n S)) (st := []) ?_ rfl rfl rfl
  refine z_aload_n h 0 rfl dX9_rounds_0 ?_
  refine z_get h 0 7 3 (v := .ref (q 25)) rfl rfl iX9_rounds_X9 (by decide) (List.mem_of_getElem? (i := 1) (by decide +kernel)) rfl rfl dX9_rounds_1 ?_
  refine z_aload_n h 0 rfl dX9_rounds_4 ?_
  refine z_get h 0 7 0 (v := .ref (q 1)) rfl rfl iX9_rounds_X9 (by decide) (List.mem_of_getElem? (i := 2) (by decide +kernel)) rfl rfl dX9_rounds_5 ?_
  refine z_get h 1 4 7 (v := .ref (q 3)) rfl rfl iX9_rounds_X5 (by decide) (List.mem_of_getElem? (i := 3) (by decide +kernel)) rfl rfl dX9_rounds_8 ?_
  refine z_aload_n h 0 rfl dX9_rounds_11 ?_
  refine z_get h 0 7 0 (v := .ref (q 1)) rfl rfl iX9_rounds_X9 (by decide) (List.mem_of_getElem? (i := 2) (by decide +kernel)) rfl rfl dX9_rounds_12 ?_
  refine z_get h 1 4 9 (v := .ref (q 15)) rfl rfl iX9_rounds_X5 (by decide) (List.mem_of_getElem? (i := 4) (by decide +kernel)) rfl rfl dX9_rounds_15 ?_
  refine z_wV h (As := [.ref (q 3), .ref (q 15)]) (st := []) (ws2 := zCW (zy E) q a g t (tkC g c) o n S) (r := none) 2 (l_cnt (c_X2_take (fun i => q (1 + i)) (fun i => q (25 + i)) g c hg hgb)) gX9_rounds_X2_take (q0 := 25) (ci := 1) (by decide +kernel) rfl rfl rfl ⟨by decide, by decide⟩ (Nat.le_of_ble_eq_true rfl) rfl rfl dX9_rounds_18 ?_ hkR
  refine z_aload_n h 0 rfl dX9_rounds_21 ?_
  refine z_get h 0 7 3 (v := .ref (q 25)) rfl rfl iX9_rounds_X9 (by decide) (List.mem_of_getElem? (i := 1) (by decide +kernel)) rfl rfl dX9_rounds_22 ?_
  refine z_get h 25 1 0 (v := .int ((tkC g c 0) 0)) rfl rfl iX9_rounds_X2 (by decide) (List.mem_of_getElem? (i := 5) (by decide +kernel)) rfl rfl dX9_rounds_25 ?_
  exact z_iret h hf rfl rfl rfl dX9_rounds_28

theorem iX9_winner_X2 : ∀ w ∈ u_ws RX2 TX2 5, w ∈ wsX9_winner := by decide +kernel
theorem iX9_winner_X5 : ∀ w ∈ u_ws RX5 TX5 10, w ∈ wsX9_winner := by decide +kernel
theorem iX9_winner_X9 : ∀ w ∈ u_ws RX9 TX9 5, w ∈ wsX9_winner := by decide +kernel
set_option maxHeartbeats 4000000 in
set_option maxRecDepth 100000 in
/-- X9_winner -/
theorem c_X9_winner {l : Launch} {y : zY} {D : va_G} (q : Nat → Nat) (a : Nat → Nat → Nat) (g t c o n : Nat → Nat → Int32) (S : Nat → Nat → Nat → Int32) (hg : okH g) (hgb : okB g) : zM l y D yX9_winner wsX9_winner 5 117 [.ref (q 0)] (zCW y q a g t c o n S) (zCW y q a g t (tkC g c) o n S) (some (.int (tkC g c 0 1))) := by
  refine z_start (own := RX9) (cc := cX9_winner) (maxL := 1) (ret := (some .int)) rfl (by decide +kernel) rfl (Nat.le_of_ble_eq_true rfl) (zCW_fst _ _ _ _ _ _ _ _ _ _ _ _ _ _ _) ?_
  intro E hEl hEy hED h hf
  subst hEl hEy hED
  have hkR : 0 ≤ E.2.2.2.2.2.1.cells ∧ 0 ≤ E.2.2.2.2.2.1.slots := ⟨Nat.zero_le _, Nat.zero_le _⟩
  refine z_cast (lv := [(0, .ref (q 0))]) (ws := (zCW (zy E) q a g t c o n S)) (st := []) ?_ rfl rfl rfl
  refine z_aload_n h 0 rfl dX9_winner_0 ?_
  refine z_get h 0 7 3 (v := .ref (q 25)) rfl rfl iX9_winner_X9 (by decide) (List.mem_of_getElem? (i := 1) (by decide +kernel)) rfl rfl dX9_winner_1 ?_
  refine z_aload_n h 0 rfl dX9_winner_4 ?_
  refine z_get h 0 7 0 (v := .ref (q 1)) rfl rfl iX9_winner_X9 (by decide) (List.mem_of_getElem? (i := 2) (by decide +kernel)) rfl rfl dX9_winner_5 ?_
  refine z_get h 1 4 7 (v := .ref (q 3)) rfl rfl iX9_winner_X5 (by decide) (List.mem_of_getElem? (i := 3) (by decide +kernel)) rfl rfl dX9_winner_8 ?_
  refine z_aload_n h 0 rfl dX9_winner_11 ?_
  refine z_get h 0 7 0 (v := .ref (q 1)) rfl rfl iX9_winner_X9 (by decide) (List.mem_of_getElem? (i := 2) (by decide +kernel)) rfl rfl dX9_winner_12 ?_
  refine z_get h 1 4 9 (v := .ref (q 15)) rfl rfl iX9_winner_X5 (by decide) (List.mem_of_getElem? (i := 4) (by decide +kernel)) rfl rfl dX9_winner_15 ?_
  refine z_wV h (As := [.ref (q 3), .ref (q 15)]) (st := []) (ws2 := zCW (zy E) q a g t (tkC g c) o n S) (r := none) 2 (l_cnt (c_X2_take (fun i => q (1 + i)) (fun i => q (25 + i)) g c hg hgb)) gX9_winner_X2_take (q0 := 25) (ci := 1) (by decide +kernel) rfl rfl rfl ⟨by decide, by decide⟩ (Nat.le_of_ble_eq_true rfl) rfl rfl dX9_winner_18 ?_ hkR
  refine z_aload_n h 0 rfl dX9_winner_21 ?_
  refine z_get h 0 7 3 (v := .ref (q 25)) rfl rfl iX9_winner_X9 (by decide) (List.mem_of_getElem? (i := 1) (by decide +kernel)) rfl rfl dX9_winner_22 ?_
  refine z_get h 25 1 1 (v := .int ((tkC g c 0) 1)) rfl rfl iX9_winner_X2 (by decide) (List.mem_of_getElem? (i := 5) (by decide +kernel)) rfl rfl dX9_winner_25 ?_
  exact z_iret h hf rfl rfl rfl dX9_winner_28

theorem iX9_votes_X5 : ∀ w ∈ u_ws RX5 TX5 10, w ∈ wsX9_votes := by decide +kernel
theorem iX9_votes_X9 : ∀ w ∈ u_ws RX9 TX9 5, w ∈ wsX9_votes := by decide +kernel
set_option maxHeartbeats 4000000 in
set_option maxRecDepth 100000 in
/-- X9_votes -/
theorem c_X9_votes {l : Launch} {y : zY} {D : va_G} (q : Nat → Nat) (a : Nat → Nat → Nat) (g t c o n : Nat → Nat → Int32) (S : Nat → Nat → Nat → Int32) (r s : Nat) (hr : r < 2 ^ 31) (hs : s < 8) (hg : okH g) (hgb : okB g) (h0 : siC (nI s) = nI 0) : zM l y D yX9_votes wsX9_votes 5 117 [.ref (q 0), .int (nI r), .int (nI s)] (zCW y q a g t c o n S) (zCW y q a g t (tkC g c) o n S) (some (.int (vsC g c r s))) := by
  refine z_start (own := RX9) (cc := cX9_votes) (maxL := 3) (ret := (some .int)) rfl (by decide +kernel) rfl (Nat.le_of_ble_eq_true rfl) (zCW_fst _ _ _ _ _ _ _ _ _ _ _ _ _ _ _) ?_
  intro E hEl hEy hED h hf
  subst hEl hEy hED
  have hkR : 0 ≤ E.2.2.2.2.2.1.cells ∧ 0 ≤ E.2.2.2.2.2.1.slots := ⟨Nat.zero_le _, Nat.zero_le _⟩
  refine z_cast (lv := [(0, .ref (q 0)), (1, .int (nI r)), (2, .int (nI s))]) (ws := (zCW (zy E) q a g t c o n S)) (st := []) ?_ rfl rfl rfl
  refine z_iload_n h 1 rfl dX9_votes_0 ?_
  refine z_if_ge h 14 dX9_votes_1 (by decide) (fun c_1 => ?_) (fun c_1 => ?_)
  · refine z_iload_n h 2 rfl dX9_votes_14 ?_
    refine z_callS h (As := [.int (nI s)]) (st := []) (ws2 := zCW (zy E) q a g t c o n S) (B := []) (B' := []) (r := some (.int (siC (nI s)))) 1 (c_X9_siteRefusal (nI s)) gX9_votes_X9_siteRefusal (by decide +kernel) rfl ⟨by decide, by decide⟩ [] rfl (by decide) rfl (Nat.le_of_ble_eq_true rfl) rfl rfl dX9_votes_15 ?_ hkR
    refine z_top (nI 0) h0 ?_
    refine z_callS h (As := [.int (nI 0)]) (st := []) (ws2 := zCW (zy E) q a g t c o n S) (B := []) (B' := []) (r := none) 1 c_X9_throwFor_0 gX9_votes_X9_throwFor (by decide +kernel) rfl ⟨by decide, by decide⟩ [] rfl (by decide) rfl (Nat.le_of_ble_eq_true rfl) rfl rfl dX9_votes_18 ?_ hkR
    refine z_aload_n h 0 rfl dX9_votes_21 ?_
    refine z_get h 0 7 3 (v := .ref (q 25)) rfl rfl iX9_votes_X9 (by decide) (List.mem_of_getElem? (i := 3) (by decide +kernel)) rfl rfl dX9_votes_22 ?_
    refine z_aload_n h 0 rfl dX9_votes_25 ?_
    refine z_get h 0 7 0 (v := .ref (q 1)) rfl rfl iX9_votes_X9 (by decide) (List.mem_of_getElem? (i := 4) (by decide +kernel)) rfl rfl dX9_votes_26 ?_
    refine z_get h 1 4 7 (v := .ref (q 3)) rfl rfl iX9_votes_X5 (by decide) (List.mem_of_getElem? (i := 5) (by decide +kernel)) rfl rfl dX9_votes_29 ?_
    refine z_aload_n h 0 rfl dX9_votes_32 ?_
    refine z_get h 0 7 0 (v := .ref (q 1)) rfl rfl iX9_votes_X9 (by decide) (List.mem_of_getElem? (i := 4) (by decide +kernel)) rfl rfl dX9_votes_33 ?_
    refine z_get h 1 4 9 (v := .ref (q 15)) rfl rfl iX9_votes_X5 (by decide) (List.mem_of_getElem? (i := 6) (by decide +kernel)) rfl rfl dX9_votes_36 ?_
    refine z_wV h (As := [.ref (q 3), .ref (q 15)]) (st := []) (ws2 := zCW (zy E) q a g t (tkC g c) o n S) (r := none) 2 (l_cnt (c_X2_take (fun i => q (1 + i)) (fun i => q (25 + i)) g c hg hgb)) gX9_votes_X2_take (q0 := 25) (ci := 1) (by decide +kernel) rfl rfl rfl ⟨by decide, by decide⟩ (Nat.le_of_ble_eq_true rfl) rfl rfl dX9_votes_39 ?_ hkR
    refine z_aload_n h 0 rfl dX9_votes_42 ?_
    refine z_get h 0 7 3 (v := .ref (q 25)) rfl rfl iX9_votes_X9 (by decide) (List.mem_of_getElem? (i := 3) (by decide +kernel)) rfl rfl dX9_votes_43 ?_
    refine z_iload_n h 1 rfl dX9_votes_46 ?_
    refine z_iload_n h 2 rfl dX9_votes_47 ?_
    by_cases hv9 : (tkC g c) 0 0 ≤ nI r
    · skip
      refine z_wV h (As := [.int (nI r), .int (nI s)]) (st := []) (ws2 := zCW (zy E) q a g t (tkC g c) o n S) (r := some (.int (-1))) 2 (l_cno (c_X2_votesIn_0 (fun i => q (25 + i)) (tkC g c) r s hr hv9)) gX9_votes_X2_votesIn (q0 := 25) (ci := 1) (by decide +kernel) rfl rfl rfl ⟨by decide, by decide⟩ (Nat.le_of_ble_eq_true rfl) rfl rfl dX9_votes_48 ?_ hkR
      exact z_iret h hf rfl (by rw [vsC, if_pos hv9]) rfl dX9_votes_51
    · have hr8 : r < 8 := (by obtain ⟨j, hj, e⟩ := tkC_n g c; rw [e, nI_leI (by omega) (by omega)] at hv9; omega)
      refine z_wV h (As := [.int (nI r), .int (nI s)]) (st := []) (ws2 := zCW (zy E) q a g t (tkC g c) o n S) (r := some (.int ((tkC g c) 2 (r * 8 + s)))) 2 (l_cno (c_X2_votesIn_1 (fun i => q (25 + i)) (tkC g c) r s hr8 (by omega) hv9)) gX9_votes_X2_votesIn (q0 := 25) (ci := 1) (by decide +kernel) rfl rfl rfl ⟨by decide, by decide⟩ (Nat.le_of_ble_eq_true rfl) rfl rfl dX9_votes_48 ?_ hkR
      exact z_iret h hf rfl (by rw [vsC, if_neg hv9]) rfl dX9_votes_51
  · exact absurd (nI_pos' hr) c_1

