/-! does: whatever the number says, the law's sums hold behind it -/
def UN (n : Nat → Nat → Int32) : Prop := ∃ u k, u ≤ 4 ∧ k < 4 ∧ n 0 0 = nI u ∧ n 0 1 = nI k
theorem tp_lt {k : Nat} (hk : k < 4) : tpN k < 4 := by
  unfold tpN
  split <;> omega
theorem tm_lt {k : Nat} (hk : k < 4) : tmN k < 4 := by
  unfold tmN
  split <;> omega
theorem pu_n {n : Nat → Nat → Int32} {u j : Nat} (hu : u ≤ 4) (h : n 0 0 = nI u) : puN n j 0 0 = nI (if u = 4 then 4 else u + 1) := by
  have e : puN n j 0 0 = if nI 4 < n 0 0 + nI 1 then nI 4 else n 0 0 + nI 1 := rfl
  rw [e, h, nI_add]
  by_cases c : u = 4
  · subst c
    decide +kernel
  · rw [if_neg c, if_neg (by rw [nI_ltI (by omega) (by omega)]; omega)]
theorem UN_pu {n : Nat → Nat → Int32} {u k j : Nat} (hu : u ≤ 4) (h : n 0 0 = nI u) (hj : j < 4) : UN (puN n j) := by
  refine ⟨_, j, ?_, hj, pu_n hu h, rfl⟩
  split <;> omega
theorem low_v (x : Int32) {n : Nat} (h0 : 0 < n) (hn : n < 2 ^ 31) : ∃ j, j < n ∧ lowI x (nI n) = nI j := by
  obtain ⟨i, hi, e⟩ := pk_andE x (m := nI 2147483647) 31 (by decide +kernel)
  refine ⟨i % n, Nat.mod_lt _ h0, ?_⟩
  unfold lowI
  rw [e, pk_rem hi h0 hn]
theorem sn_900 {x : Int32} (h : ¬ nI 9000 ≤ x) : x + nI 900 ≤ nI 9999 := by
  have h1 := Int32.not_le.mp h
  rw [Int32.lt_iff_toInt_lt, nI_toInt (by omega)] at h1
  have h2 := Int32.le_toInt x
  rw [Int32.le_iff_toInt_le, Int32.toInt_add, nI_toInt (by omega), nI_toInt (by omega), Int.bmod_eq_of_le (by omega) (by omega)]
  omega
theorem wv_1d {g o : Nat → Nat → Int32} {d : Nat} (hd : d < 3) : wvC g o (1 + d) = g 1 d := by
  rcases (show d = 0 ∨ d = 1 ∨ d = 2 by omega) with rfl | rfl | rfl <;> rfl
theorem is_8 : ∀ s, s < 8 → ¬ isS (nI s) = 0 := by decide +kernel
theorem wi_20 : ∀ e, e < 20 → ¬ wi (nI (1 + e)) (nI 1) (nI 20) = 0 := by decide +kernel
theorem wi_99 : ∀ u, u < 99 → ¬ wi (nI (1 + u)) (nI 1) (nI 100) = 0 := by decide +kernel
theorem ba_8 : ∀ s, s < 8 → ∀ d, d < 3 → (¬ isN (nI ((s + 1 + d) % 8)) = 0 ∧ ¬ nI ((s + 1 + d) % 8) = (-1) ∧ ¬ nI s = nI ((s + 1 + d) % 8) ∧ ¬ nI s = (-1)) := by decide +kernel
theorem isN_m : ¬ isN (-1) = 0 := by decide +kernel
theorem IV_z {g : Nat → Nat → Int32} {ad : Int32} (I : IV g ad) : IV g (ad + nI 0) := by
  rw [show ad + nI 0 = ad from Int32.add_zero ad]
  exact I
set_option maxHeartbeats 1000000 in
theorem does_ok {l : Launch} {y : zY} {D : va_G} (q : Nat → Nat) (a : Nat → Nat → Nat) (g t c o n : Nat → Nat → Int32) (S : Nat → Nat → Nat → Int32) {ad : Int32} (I : IV g ad) (U : UN n) (v : Int32) : ∃ (g' n' : Nat → Nat → Int32) (S' : Nat → Nat → Nat → Int32) (r : Int32), zM l y D yL_does wsL_does 6 188 [.ref (q 0), .int v] (zCW y q a g t c o n S) (zCW y q a g' t c o n' S') (some (.int r)) ∧ IV g' (ad + r) ∧ UN n' := by
  obtain ⟨u9, k, hu9, hk4, hn0, hn4⟩ := id U
  obtain ⟨O, -⟩ := id I
  have hg := O.1
  have hgt := O.2.1
  have hgb := O.2.2.1
  have hU : ∀ j, j < 4 → UN (puN n j) := fun j hj => UN_pu (k := k) hu9 hn0 hj
  have hUk := hU _ (tp_lt hk4)
  obtain ⟨s, hs, es⟩ := low_v (v >>> (nI 4 &&& 31)) (n := 8) (by omega) (by omega)
  obtain ⟨d, hd, ed⟩ := low_v (v >>> (nI 7 &&& 31)) (n := 3) (by omega) (by omega)
  obtain ⟨u, hu, eu⟩ := low_v (v >>> (nI 9 &&& 31)) (n := 99) (by omega) (by omega)
  obtain ⟨e, he, ee⟩ := low_v (v >>> (nI 9 &&& 31)) (n := 20) (by omega) (by omega)
  obtain ⟨j, hj, ej⟩ := pk_andE v (m := nI 15) 4 (by decide +kernel)
  obtain ⟨b, hb, eb⟩ := O.2.2.2.1 d hd
  have hz := hg s hs
  rcases (show (j = 0 ∨ j = 1) ∨ (j = 2 ∨ j = 3 ∨ j = 4) ∨ (j = 5 ∨ j = 6 ∨ j = 7 ∨ j = 8) ∨ j = 9 ∨ (j = 10 ∨ j = 11) ∨ j = 12 ∨ j = 13 ∨ (j = 14 ∨ j = 15) by omega) with hj | hj | hj | hj | hj | hj | hj | hj
  · by_cases hA : nI 9000 ≤ wvC g o 0
    · by_cases hB : (v >>> (nI 12 &&& 31)) &&& nI 1 = nI 1
      · exact ⟨_, _, _, _, c_L_does_A1 q a g t c o n S v s d u j hs hd hu es ed eu ej hj k hk4 hn4 hA hg hB, IV_z (IV_sw I hs (by omega)), hUk⟩
      · exact ⟨_, _, _, _, c_L_does_A2 q a g t c o n S v s d u j hs hd hu es ed eu ej hj k hk4 hn4 hA hg hB, IV_z (IV_sw I hs (by omega)), hUk⟩
    · have h0 : srC g (nI 900) = nI 0 := by
        unfold srC
        rw [if_neg (by decide +kernel), if_pos (sn_900 (x := g 0 0) hA)]
      exact ⟨_, _, _, _, c_L_does_A0 q a g t c o n S v s d u j hs hd hu es ed eu ej hj k hk4 hn4 hA hg h0, IV_as I (by omega) h0, hUk⟩
  · by_cases hA : ¬ wvC g o 0 < nI 300 ∧ ¬ nI 47 < wvC g o (1 + d)
    · have h0 : prC g d (nI 3) = nI 0 := by
        have h1 := hA.2
        rw [wv_1d hd, eb, nI_ltI (by omega) (by omega)] at h1
        have h2 : nI 3 * nI 100 ≤ g 0 0 := by
          rw [show nI 3 * nI 100 = nI 300 by decide +kernel]
          exact Int32.not_lt.mp hA.1
        unfold prC
        rw [if_neg (wi_3 d hd), if_neg (by decide +kernel), if_pos h2, eb, nI_add, if_pos (by rw [nI_leI (by omega) (by omega)]; omega)]
      exact ⟨_, _, _, _, c_L_does_B0 q a g t c o n S v s d u j hs hd hu es ed eu ej hj k hk4 hn4 hA.1 hA.2 hg h0, IV_z (IV_pr I hd (by omega) h0), hUk⟩
    · exact ⟨_, _, _, _, c_L_does_B1 q a g t c o n S v s d u j hs hd hu es ed eu ej hj hA hg, IV_z I, U⟩
  · by_cases hA : ¬ wvC g o (1 + d) ≤ 0 ∧ ¬ nI 6 ≤ svC g s 0
    · have h6 : ¬ nI 6 ≤ g 2 s := hA.2
      have hlt : zh g s < 6 := by
        have h1 := h6
        rw [hz.1, nI_leI (by omega) (by omega)] at h1
        omega
      have h0 : stC g s d = nI 0 := by
        have h1 := hA.1
        rw [wv_1d hd] at h1
        unfold stC
        rw [if_neg (is_8 s hs), if_neg (wi_3 d hd), if_neg (fun e9 => h1 (by rw [e9]; exact Int32.le_refl _)), if_pos (Int32.not_le.mp h6)]
      exact ⟨_, _, _, _, c_L_does_C0 q a g t c o n S v s d u j hs hd hu es ed eu ej hj k hk4 hn4 hA.1 hA.2 hg hlt h0, IV_z (IV_st I hs hd hlt h0), hUk⟩
    · exact ⟨_, _, _, _, c_L_does_C1 q a g t c o n S v s d u j hs hd hu es ed eu ej hj hA hg, IV_z I, U⟩
  · by_cases hA : nI 5 ≤ wvC g o 10
    · exact ⟨_, _, _, _, c_L_does_D1 q a g t c o n S v s d u j hs hd hu es ed eu ej hj hA hg, IV_z I, U⟩
    · have h6 : ¬ nI 5 ≤ g 0 6 := hA
      have h5 : zt g < 5 := by
        have h1 := h6
        rw [hgt.1, nI_leI (by omega) (by have := hgt.2; omega)] at h1
        omega
      have h0 : toC g (nI (1 + e)) = nI 0 := by
        unfold toC
        rw [if_neg (wi_20 e he), if_pos (Int32.not_le.mp h6)]
      exact ⟨_, _, _, _, c_L_does_D0 q a g t c o n S v s d u j hs hd hu es ed eu ej hj k hk4 hn4 e he ee hA hg ⟨hgt.1, h5⟩ h0, IV_z (IV_at I (by omega) h0), hUk⟩
  · by_cases hA : wvC g o 10 ≤ 0
    · exact ⟨_, _, _, _, c_L_does_E1 q a g t c o n S v s d u j hs hd hu es ed eu ej hj hA hg, IV_z I, U⟩
    · have h6 : ¬ g 0 6 ≤ nI 0 := hA
      have ht : 0 < zt g := by
        have h1 := h6
        rw [hgt.1, nI_leI (by have := hgt.2; omega) (by omega)] at h1
        omega
      have hca : caC g (nI 0) (nI s) (nI d) (nI (1 + u)) = nI 0 := by
        have hi : ¬ itC g (nI 0) = 0 := it_lt hgt ht
        unfold caC
        rw [if_neg hi, if_neg (is_8 s hs), if_neg (wi_6 d (by omega)), if_neg (wi_99 u hu)]
      by_cases hB : raG g 0 s d (nI (1 + u)) = 0
      · have h0 : crC g 0 s d (nI (1 + u)) = nI 0 := by
          unfold crC
          rw [if_pos (show caC g (nI 0) (nI s) (nI d) (nI (1 + u)) = 0 from hca), if_pos hB]
        exact ⟨_, _, _, _, c_L_does_E0 q a g t c o n S v s d u j hs hd hu es ed eu ej hj k hk4 hn4 hA hg hgt hca hB h0, IV_z (IV_cr I ht hs (by omega) (by omega) (by omega) hB), hUk⟩
      · exact ⟨_, _, _, _, c_L_does_E2 q a g t c o n S v s d u j hs hd hu es ed eu ej hj hA hg hca hB, IV_z I, U⟩
  · exact ⟨_, _, _, _, c_L_does_F0 q a g t c o n S v s d u j hs hd hu es ed eu ej hj k hk4 hn4, IV_z (IV_rc I), hUk⟩
  · by_cases hA : nI 20 ≤ wvC g o 14
    · exact ⟨_, _, _, _, c_L_does_G1 q a g t c o n S v s d u j hs hd hu es ed eu ej hj hA hg, IV_z I, U⟩
    · have h6 : ¬ nI 20 ≤ g 0 7 := hA
      have h5 : zb g < 20 := by
        have h1 := h6
        rw [hgb.1, nI_leI (by omega) (by have := hgb.2; omega)] at h1
        omega
      obtain ⟨x1, x2, x3, x4⟩ := ba_8 s hs d hd
      have h0 : baC g (nI s) (nI ((s + 1 + d) % 8)) (-1) = nI 0 := by
        unfold baC baK
        rw [if_neg (is_8 s hs), if_neg x1, if_neg isN_m, if_neg x2, if_neg x3, if_neg x4, if_neg x2, if_pos (Int32.not_le.mp h6)]
      exact ⟨_, _, _, _, c_L_does_G0 q a g t c o n S v s d u j hs hd hu es ed eu ej hj k hk4 hn4 hA hg ⟨hgb.1, h5⟩ h0, IV_z (IV_bt I h0), hUk⟩
  · by_cases hB : (v >>> (nI 4 &&& 31)) &&& nI 3 = 0
    · exact ⟨_, _, _, _, c_L_does_H1 q a g t c o n S v s d u j hs hd hu es ed eu ej hj k hk4 hn4 hg hgt hB, IV_z (IV_h1 I), hUk⟩
    · exact ⟨_, _, _, _, c_L_does_H0 q a g t c o n S v s d u j hs hd hu es ed eu ej hj k hk4 hn4 hg hgt hB, IV_z (IV_h0 I).1, hUk⟩
