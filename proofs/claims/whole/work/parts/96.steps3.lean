/-! each call of the script, on: what is not refused -/
section STEPS
variable {l : Launch} {y : zY} {D : va_G} {q : Nat → Nat} {a : Nat → Nat → Nat} {qm : Nat → Nat} {bo : Nat} {F : Nat → Int64} {g t c o n : Nat → Nat → Int32} {S : Nat → Nat → Nat → Int32} {h : Nat → Nat → Int32} {u k : Nat}
theorem oc_recycle (R : RR g o n S h u k) : ocP l y D yX9_recycle wsX9_recycle 5 164 yX10_recycle wsX10_recycle 2 44 [] q a qm g t c o n S h := by
  obtain ⟨O, H, -, hu, hk, -, n1, hx, -⟩ := id R
  have hm := c_X10_recycle (l := l) (y := y) (D := D) qm h u hx hu
  obtain ⟨e, O', H'⟩ := re_rc O H
  rw [← e] at hm
  exact ⟨_, _, _, _, _, _, _, _, _, _, c_X9_recycle q a g t c o n S k hk n1, hm, RR_sv R O' H'⟩
theorem oc_hour_0 (R : RR g o n S h u k) : ocP l y D yX9_hour wsX9_hour 5 164 yX10_hour wsX10_hour 5 114 [.int (nI 0)] q a qm g t c o n S h := by
  obtain ⟨O, H, -, hu, hk, -, n1, hx, -⟩ := id R
  have hm := c_X10_hour_0 (l := l) (y := y) (D := D) qm h u hx hu (re_okM O H) (re_okTm O H)
  have hc := c_X9_hour (l := l) (y := y) (D := D) q a g t c o n S (nI 0) O.1 O.2.1 k hk n1
  obtain ⟨O', H', e⟩ := re_h0 (n := 48) rfl O H
  have e1 : phS g (nI 0) 1 = nI 0 + phV g (nI 0) := rfl
  have e2 : paF0 (h 1) = clF (ptF (pdF (psF (h 1) 48) 8) (ztm (pdF (psF (h 1) 48) 8))) (psA (h 1) 48) := rfl
  rw [e1, e] at hc
  rw [e2] at hm
  generalize clF (ptF (pdF (psF (h 1) 48) 8) (ztm (pdF (psF (h 1) 48) 8))) (psA (h 1) 48) = f9 at H' hm
  generalize psA (h 1) 48 = p9 at hc hm
  generalize phG g (nI 0) 1 = g9 at O' H' hc
  rw [show nI 0 + p9 = p9 from Int32.zero_add p9] at hc
  exact ⟨_, _, _, _, _, _, _, _, _, _, hc, hm, RR_sv R O' H'⟩
theorem oc_hour_1 (R : RR g o n S h u k) : ocP l y D yX9_hour wsX9_hour 5 164 yX10_hour wsX10_hour 5 114 [.int (nI 1)] q a qm g t c o n S h := by
  obtain ⟨O, H, -, hu, hk, -, n1, hx, -⟩ := id R
  have hm := c_X10_hour_1 (l := l) (y := y) (D := D) qm h u hx hu (re_okM O H) (re_okTm O H)
  have hc := c_X9_hour (l := l) (y := y) (D := D) q a g t c o n S (nI 1) O.1 O.2.1 k hk n1
  obtain ⟨O', H', e⟩ := re_h1 (n := 8) rfl O H
  have e1 : phS g (nI 1) 1 = nI 0 + phV g (nI 1) := rfl
  have e2 : paF1 (h 1) = clF (ptF (pdF (h 1) 8) (ztm (pdF (h 1) 8))) (nI 0) := rfl
  rw [e1, e] at hc
  rw [e2] at hm
  generalize clF (ptF (pdF (h 1) 8) (ztm (pdF (h 1) 8))) (nI 0) = f9 at H' hm
  generalize phG g (nI 1) 1 = g9 at O' H' hc
  rw [show nI 0 + nI 0 = nI 0 from Int32.zero_add _] at hc
  exact ⟨_, _, _, _, _, _, _, _, _, _, hc, hm, RR_sv R O' H'⟩
theorem oc_clearBallots (R : RR g o n S h u k) : ocP l y D yX9_clearBallots wsX9_clearBallots 5 164 yX10_clearBallots wsX10_clearBallots 1 21 [] q a qm g t c o n S h := by
  obtain ⟨O, H, -, hu, hk, -, n1, hx, -⟩ := id R
  have hm := c_X10_clearBallots (l := l) (y := y) (D := D) qm h u hx hu
  obtain ⟨e, O', H'⟩ := re_cb O H
  rw [← e] at hm
  exact ⟨_, _, _, _, _, _, _, _, _, _, c_X9_clearBallots q a g t c o n S k hk n1, hm, RR_sv R O' H'⟩
theorem oc_rounds (R : RR g o n S h u k) : ocP l y D yX9_rounds wsX9_rounds 5 117 yX10_rounds wsX10_rounds 3 73 [] q a qm g t c o n S h := by
  obtain ⟨O, H, -⟩ := id R
  have hm := c_X10_rounds (l := l) (y := y) (D := D) qm h (re_okM O H) (re_okBm O H) (re_okCh O H)
  have hc := c_X9_rounds (l := l) (y := y) (D := D) q a g t c o n S O.1 O.2.2.1
  rw [(re_ct (c := c) O H).1] at hc
  exact ⟨_, _, _, _, _, _, _, _, _, _, hc, hm, RR_cg R rfl rfl rfl rfl rfl⟩
theorem oc_winner (R : RR g o n S h u k) : ocP l y D yX9_winner wsX9_winner 5 117 yX10_winner wsX10_winner 3 73 [] q a qm g t c o n S h := by
  obtain ⟨O, H, -⟩ := id R
  have hm := c_X10_winner (l := l) (y := y) (D := D) qm h (re_okM O H) (re_okBm O H) (re_okCh O H)
  have hc := c_X9_winner (l := l) (y := y) (D := D) q a g t c o n S O.1 O.2.2.1
  rw [(re_ct (c := c) O H).2.1] at hc
  exact ⟨_, _, _, _, _, _, _, _, _, _, hc, hm, RR_cg R rfl rfl rfl rfl rfl⟩
theorem oc_bestWall (R : RR g o n S h u k) : ocP l y D yX9_bestWall wsX9_bestWall 5 122 yX10_bestWall wsX10_bestWall 7 163 [] q a qm g t c o n S h := by
  obtain ⟨O, H, -⟩ := id R
  have hm := c_X10_bestWall (l := l) (y := y) (D := D) qm h (re_okM O H) (re_okTm O H)
  have hc := c_X9_bestWall (l := l) (y := y) (D := D) q a g t c o n S O.1
  have e := (re_bw (t := t) O H 8 (Nat.le_refl _)).1
  generalize bwI g t 8 = B9 at e hc
  generalize bsI (h 1) 8 = C9 at e hm
  rw [e] at hc
  exact ⟨_, _, _, _, _, _, _, _, _, _, hc, hm, RR_cg R rfl rfl rfl rfl rfl⟩
theorem oc_clearOrders (R : RR g o n S h u k) : ocP l y D yX9_clearOrders wsX9_clearOrders 0 0 yX10_clearOrders wsX10_clearOrders 0 0 [] q a qm g t c o n S h := by
  obtain ⟨O, H, ⟨m, hm9, o0, h04, hB⟩, G⟩ := id R
  have hm := c_X10_clearOrders (l := l) (y := y) (D := D) qm h
  have hc := c_X9_clearOrders (l := l) (y := y) (D := D) q a g t c o n S
  rw [o0.trans h04.symm] at hc
  exact ⟨_, _, _, _, _, _, _, _, _, _, hc, hm, O, H, ⟨0, by omega, rfl, rfl, fun j hj => absurd hj (Nat.not_lt_zero _)⟩, G⟩
theorem oc_runOrders (R : RR g o n S h u k) : ocP l y D yX9_runOrders eRO 8 178 yX10_runOrders wsX10_runOrders 10 226 [] q a qm g t c o n S h := by
  obtain ⟨O, H, ⟨m, hm9, o0, h04, hB⟩, G⟩ := id R
  obtain ⟨hu, hk, n0, n1, hx, -⟩ := id G
  obtain ⟨G9, hG9⟩ : ∃ G9, gtC ogG ogV (h0t h) m = G9 := ⟨_, rfl⟩
  obtain ⟨e6, ⟨k0, k4, k1, k5, k2, k3, -⟩, f2, hrun⟩ := re_run O H hm9 hB G G9 hG9
  by_cases e : ffO o m 0 3 = (-1)
  · obtain ⟨R9, hR9⟩ : ∃ R9, gtC ogX ogY (svG G9 u) m = R9 := ⟨_, rfl⟩
    obtain ⟨O', H', r7, r2, r00, r5, r04, G'⟩ := hrun e R9 hR9
    have hm := c_X10_runOrders_0 (l := l) (y := y) (D := D) qm h m u h04 hm9 (re_okMT O H) hx hu G9 hG9 R9 hR9 (e6.trans e)
    have hc := c_X9_runOrders_0 (l := l) (y := y) (D := D) q a g t c o n S m o0 hm9 O.1 O.2.1 k hk n1 e
    rw [r7] at hm
    generalize rnC g o m = N9 at O' H' r7 r2 r00 hc hm
    exact ⟨_, _, _, _, _, _, _, _, _, _, hc, hm, O', H', ⟨m, hm9, r00.trans o0, (show h0t R9 0 4 = R9 0 4 from rfl).trans (r04.trans h04), fun j hj => by
      rw [r2, show h0t R9 5 = R9 5 from rfl, r5]
      exact hB j hj⟩, G'⟩
  · have hm := c_X10_runOrders_1 (l := l) (y := y) (D := D) qm h m u h04 hm9 (re_okMT O H) hx hu G9 hG9 (by rw [e6]; exact e)
    have hc := c_X9_runOrders_1 (l := l) (y := y) (D := D) q a g t c o n S m o0 hm9 O.1 O.2.1 k hk n1 e
    have f00 := ffO_00 o m
    rw [← e6] at hc
    generalize ffO o m = o9 at f2 f00 hc
    refine ⟨_, _, _, _, _, _, _, _, u, k, hc, hm, O, by rw [k1]; exact H, ⟨m, hm9, f00.trans o0, k4.trans h04, fun j hj => by
      rw [f2, k5]
      exact hB j hj⟩, ?_⟩
    rw [k2, k0]
    exact G
theorem oc_digest (R : RR g o n S h u k) : ∃ (a9 : Int64) (g' t' c' o' n' : Nat → Nat → Int32) (S' : Nat → Nat → Nat → Int32) (h' : Nat → Nat → Int32) (u' k' : Nat), zM l y D yX9_digest wsX9_digest 6 147 [.ref (q 0)] (zCW y q a g t c o n S) (zCW y q a g' t' c' o' n' S') (some (.long a9)) ∧ zM l y D yX10_digest wsX10_digest 7 163 [.ref (qm 0)] (zMo y qm h) (zMo y qm h') (some (.long a9)) ∧ RR g' o' n' S' h' u' k' := by
  obtain ⟨O, H, ⟨m, hm9, o0, h04, hB⟩, G⟩ := id R
  obtain ⟨hu, hk, n0, n1, hx, -⟩ := id G
  have hm := c_X10_digest (l := l) (y := y) (D := D) qm h (re_okM O H) (re_okTm O H) (re_okBm O H) (re_okCh O H)
  have hc := c_X9_digest (l := l) (y := y) (D := D) q a g t c o n S O.1 O.2.1 O.2.2.1
  rw [re_dg (t := t) (c := c) O H (o0.trans h04.symm) (n0.trans hx.symm)] at hc
  generalize dgD h = d9 at hc hm
  generalize bwI g t 8 = B9 at hc
  generalize tkC g c = T9 at hc
  exact ⟨_, _, _, _, _, _, _, _, _, _, hc, hm, RR_cg R rfl rfl rfl rfl rfl⟩
end STEPS
