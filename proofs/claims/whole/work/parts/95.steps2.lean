/-! each call of the script, on: what is asked -/
section STEPS
variable {l : Launch} {y : zY} {D : va_G} {q : Nat → Nat} {a : Nat → Nat → Nat} {qm : Nat → Nat} {bo : Nat} {F : Nat → Int64} {g t c o n : Nat → Nat → Int32} {S : Nat → Nat → Nat → Int32} {h : Nat → Nat → Int32} {u k : Nat}
theorem RR_h0 (R : RR g o n S h u k) : RR g o n S (h0t h) u k := RR_cg R rfl rfl rfl rfl rfl
theorem oc_block (hl : l.stackTraces = false) (R : RR g o n S h u k) (x1 x2 x3 : Int32) : ocW l y D yL_block wsL_block yX10_block wsX10_block 5 112 [.int x1, .int x2, .int x3] q a qm bo F g t c o n S h := by
  obtain ⟨v1, hv1, rfl⟩ := nI_of32 x1
  obtain ⟨v2, hv2, rfl⟩ := nI_of32 x2
  obtain ⟨v3, hv3, rfl⟩ := nI_of32 x3
  obtain ⟨O, H, -⟩ := id R
  have hm := c_X10_block (l := l) (y := y) (D := D) qm h v1 v2 v3 hv1 hv2 hv3
  by_cases e1 : isS (nI v1) = 0
  · exact mkT R 1 (by decide) (w_block_1 bo F (zMo y qm h) q a g t c o n S (nI v1) (nI v2) (nI v3) ⟨by decide, by decide⟩ ⟨by decide, by decide⟩ (x_X9_block_1 hl q a g t c o n S (nI v1) (nI v2) (nI v3) (if_pos e1))) hm (if_pos e1)
  by_cases e2 : isL (nI v2) = 0
  · exact mkT R 2 (by decide) (w_block_2 bo F (zMo y qm h) q a g t c o n S (nI v1) (nI v2) (nI v3) ⟨by decide, by decide⟩ ⟨by decide, by decide⟩ (x_X9_block_2 hl q a g t c o n S (nI v1) (nI v2) (nI v3) (if_neg e1) e2)) hm ((if_neg e1).trans (if_pos e2))
  by_cases e3 : wi (nI v3) (nI 0) (nI 2) = 0
  · exact mkT R 2 (by decide) (w_block_2 bo F (zMo y qm h) q a g t c o n S (nI v1) (nI v2) (nI v3) ⟨by decide, by decide⟩ ⟨by decide, by decide⟩ (x_X9_block_3 hl q a g t c o n S (nI v1) (nI v2) (nI v3) (if_neg e1) e2 e3)) hm ((if_neg e1).trans ((if_neg e2).trans (if_pos e3)))
  · have eT : blT v1 v2 v3 = 0 := (if_neg e1).trans ((if_neg e2).trans (if_neg e3))
    have b1 := isS_lt hv1 e1
    have b2 := wi_lt hv2 (by omega) (by omega) e2
    have b3 := wi_lt hv3 (by omega) (by omega) e3
    exact mk0 (w_block_0 bo F (zMo y qm h) q a g t c o n S (nI v1) (nI v2) (nI v3) ⟨by decide, by decide⟩ (c_X9_block q a g t c o n S v1 v2 v3 b1 (by omega) (if_neg e1) e2 e3)) hm eT (by rw [if_pos eT]; exact re_bv O H b1 (by omega) v3 (by omega)) rfl (RR_h0 R)
theorem oc_site (hl : l.stackTraces = false) (R : RR g o n S h u k) (x1 x2 : Int32) : ocW l y D yL_site wsL_site yX10_site wsX10_site 2 45 [.int x1, .int x2] q a qm bo F g t c o n S h := by
  obtain ⟨v1, hv1, rfl⟩ := nI_of32 x1
  obtain ⟨v2, hv2, rfl⟩ := nI_of32 x2
  obtain ⟨O, H, -⟩ := id R
  have hm := c_X10_site (l := l) (y := y) (D := D) qm h v1 v2 hv1 hv2 (re_okM O H)
  by_cases e1 : isS (nI v1) = 0
  · exact mkT R 1 (by decide) (w_site_1 bo F (zMo y qm h) q a g t c o n S (nI v1) (nI v2) ⟨by decide, by decide⟩ ⟨by decide, by decide⟩ (x_X9_site_1 hl q a g t c o n S (nI v1) (nI v2) (if_pos e1))) hm (if_pos e1)
  by_cases e2 : wi (nI v2) (nI 0) (nI 4) = 0
  · exact mkT R 2 (by decide) (w_site_2 bo F (zMo y qm h) q a g t c o n S (nI v1) (nI v2) ⟨by decide, by decide⟩ ⟨by decide, by decide⟩ (x_X9_site_2 hl q a g t c o n S (nI v1) (nI v2) (if_neg e1) e2)) hm ((if_neg e1).trans (if_pos e2))
  · have eT : siT v1 v2 = 0 := (if_neg e1).trans (if_neg e2)
    have b1 := isS_lt hv1 e1
    have b2 := wi_lt hv2 (by omega) (by omega) e2
    exact mk0 (w_site_0 bo F (zMo y qm h) q a g t c o n S (nI v1) (nI v2) ⟨by decide, by decide⟩ (c_X9_site q a g t c o n S v1 v2 b1 b2.2 O.1 (if_neg e1))) hm eT (by rw [if_pos eT]; exact re_sv H b1 v2) rfl (RR_h0 R)
theorem oc_tool (hl : l.stackTraces = false) (R : RR g o n S h u k) (x1 x2 : Int32) : ocW l y D yL_tool wsL_tool yX10_tool wsX10_tool 2 43 [.int x1, .int x2] q a qm bo F g t c o n S h := by
  obtain ⟨v1, hv1, rfl⟩ := nI_of32 x1
  obtain ⟨v2, hv2, rfl⟩ := nI_of32 x2
  obtain ⟨O, H, -⟩ := id R
  have hm := c_X10_tool (l := l) (y := y) (D := D) qm h v1 v2 hv1 hv2 (re_okTm O H)
  have ei := re_it O H (nI v1)
  by_cases e1 : itC g (nI v1) = 0
  · exact mkT R 1 (by decide) (w_tool_1 bo F (zMo y qm h) q a g t c o n S (nI v1) (nI v2) ⟨by decide, by decide⟩ ⟨by decide, by decide⟩ (x_X9_tool_1 hl q a g t c o n S (nI v1) (nI v2) e1)) hm (if_pos (by rw [← ei]; exact e1))
  by_cases e2 : wi (nI v2) (nI 0) (nI 2) = 0
  · exact mkT R 2 (by decide) (w_tool_2 bo F (zMo y qm h) q a g t c o n S (nI v1) (nI v2) ⟨by decide, by decide⟩ ⟨by decide, by decide⟩ (x_X9_tool_2 hl q a g t c o n S (nI v1) (nI v2) e1 e2)) hm ((if_neg (by rw [← ei]; exact e1)).trans (if_pos e2))
  · have eT : toT (h 1) v1 v2 = 0 := (if_neg (by rw [← ei]; exact e1)).trans (if_neg e2)
    have b1 := it_lt2 O hv1 e1
    have b2 := wi_lt hv2 (by omega) (by omega) e2
    have h5 := O.2.1.2
    exact mk0 (w_tool_0 bo F (zMo y qm h) q a g t c o n S (nI v1) (nI v2) ⟨by decide, by decide⟩ (c_X9_tool q a g t c o n S v1 v2 (by omega) b2.2 e1)) hm eT (by rw [if_pos eT]; exact re_tv H b1 v2 (by omega)) rfl (RR_h0 R)
theorem oc_whole (hl : l.stackTraces = false) (R : RR g o n S h u k) (x1 : Int32) : ocW l y D yL_whole wsL_whole yX10_whole wsX10_whole 2 47 [.int x1] q a qm bo F g t c o n S h := by
  obtain ⟨v1, hv1, rfl⟩ := nI_of32 x1
  obtain ⟨O, H, ⟨m, hm9, o0, h04, -⟩, -⟩ := id R
  have hm := c_X10_whole (l := l) (y := y) (D := D) qm h v1 hv1 (re_okM O H)
  by_cases e1 : wi (nI v1) (nI 0) (nI 15) = 0
  · exact mkT R 1 (by decide) (w_whole_1 bo F (zMo y qm h) q a g t c o n S (nI v1) ⟨by decide, by decide⟩ ⟨by decide, by decide⟩ (x_X9_whole_1 hl q a g t c o n S (nI v1) e1)) hm (if_pos e1)
  · have eT : whT v1 = 0 := if_neg e1
    have b1 := wi_lt hv1 (by omega) (by omega) e1
    exact mk0 (w_whole_0 bo F (zMo y qm h) q a g t c o n S (nI v1) ⟨by decide, by decide⟩ (c_X9_whole q a g t c o n S v1 b1.2 O.1)) hm eT (by rw [if_pos eT]; exact re_wv (h := h0t h) H (o0.trans h04.symm) v1 (by omega)) rfl (RR_h0 R)
theorem oc_votes (hl : l.stackTraces = false) (R : RR g o n S h u k) (x1 x2 : Int32) : ocW l y D yL_votes wsL_votes yX10_votes wsX10_votes 3 73 [.int x1, .int x2] q a qm bo F g t c o n S h := by
  obtain ⟨v1, hv1, rfl⟩ := nI_of32 x1
  obtain ⟨v2, hv2, rfl⟩ := nI_of32 x2
  obtain ⟨O, H, -⟩ := id R
  have hm := c_X10_votes (l := l) (y := y) (D := D) qm h v1 v2 hv1 hv2 (re_okM O H) (re_okBm O H) (re_okCh O H)
  by_cases e1 : nI v1 < 0
  · exact mkT R 1 (by decide) (w_votes_1 bo F (zMo y qm h) q a g t c o n S (nI v1) (nI v2) ⟨by decide, by decide⟩ ⟨by decide, by decide⟩ (x_X9_votes_1 hl q a g t c o n S (nI v1) (nI v2) e1)) hm (if_pos e1)
  by_cases e2 : isS (nI v2) = 0
  · exact mkT R 2 (by decide) (w_votes_2 bo F (zMo y qm h) q a g t c o n S (nI v1) (nI v2) ⟨by decide, by decide⟩ ⟨by decide, by decide⟩ (x_X9_votes_2 hl q a g t c o n S (nI v1) (nI v2) e1 (if_pos e2))) hm ((if_neg e1).trans (if_pos e2))
  · have eT : vtT (nI v1) (nI v2) = 0 := (if_neg e1).trans (if_neg e2)
    have b1 := nI_n31 hv1 e1
    have b2 := isS_lt hv2 e2
    exact mk0 (w_votes_0 bo F (zMo y qm h) q a g t c o n S (nI v1) (nI v2) ⟨by decide, by decide⟩ (c_X9_votes q a g t c o n S v1 v2 b1 b2 O.1 O.2.2.1 (if_neg e2))) hm eT (by rw [if_pos eT]; exact re_vc O H b1 b2) rfl (RR_cg R rfl rfl rfl rfl rfl)
theorem oc_reason (hl : l.stackTraces = false) (R : RR g o n S h u k) (x1 x2 x3 x4 : Int32) : ocW l y D yL_reason wsL_reason yX10_reason wsX10_reason 2 45 [.int x1, .int x2, .int x3, .int x4] q a qm bo F g t c o n S h := by
  obtain ⟨v1, hv1, rfl⟩ := nI_of32 x1
  obtain ⟨v2, hv2, rfl⟩ := nI_of32 x2
  obtain ⟨v3, hv3, rfl⟩ := nI_of32 x3
  obtain ⟨v4, hv4, rfl⟩ := nI_of32 x4
  obtain ⟨O, H, -⟩ := id R
  have hm := c_X10_reason (l := l) (y := y) (D := D) qm h v1 v2 v3 v4 hv1 hv2 hv3 hv4 (re_okM O H) (re_okTm O H) (re_okSp O H)
  rcases re_ca O H hv1 hv2 hv3 hv4 with ⟨e1, e2, -⟩ | ⟨e1, e2, -⟩ | ⟨e1, e2, b1, b2, b3, b4, b5, -⟩
  · exact mkT R 1 (by decide) (w_reason_1 bo F (zMo y qm h) q a g t c o n S (nI v1) (nI v2) (nI v3) (nI v4) ⟨by decide, by decide⟩ ⟨by decide, by decide⟩ (x_X9_reason_1 hl q a g t c o n S (nI v1) (nI v2) (nI v3) (nI v4) e1)) hm e2
  · exact mkT R 2 (by decide) (w_reason_2 bo F (zMo y qm h) q a g t c o n S (nI v1) (nI v2) (nI v3) (nI v4) ⟨by decide, by decide⟩ ⟨by decide, by decide⟩ (x_X9_reason_2 hl q a g t c o n S (nI v1) (nI v2) (nI v3) (nI v4) e1)) hm e2
  · have h5 := O.2.1.2
    exact mk0 (w_reason_0 bo F (zMo y qm h) q a g t c o n S (nI v1) (nI v2) (nI v3) (nI v4) ⟨by decide, by decide⟩ (c_X9_reason q a g t c o n S v1 v2 v3 (nI v4) (by omega) b2 b3 e1)) hm e2 (by rw [if_pos e2]; exact re_ra O H b1 b2 b3 (nI v4)) rfl (RR_h0 R)
theorem oc_volumeIn (hl : l.stackTraces = false) (R : RR g o n S h u k) (x1 x2 : Int32) : ocW l y D yL_volumeIn wsL_volumeIn yX10_volumeIn wsX10_volumeIn 6 138 [.int x1, .int x2] q a qm bo F g t c o n S h := by
  obtain ⟨v1, hv1, rfl⟩ := nI_of32 x1
  obtain ⟨v2, hv2, rfl⟩ := nI_of32 x2
  obtain ⟨O, H, -⟩ := id R
  have hm := c_X10_volumeIn (l := l) (y := y) (D := D) qm h v1 v2 hv1 hv2 (re_okM O H) (re_okTm O H)
  by_cases e1 : isS (nI v1) = 0
  · exact mkT R 1 (by decide) (w_volumeIn_1 bo F (zMo y qm h) q a g t c o n S (nI v1) (nI v2) ⟨by decide, by decide⟩ ⟨by decide, by decide⟩ (x_X9_volumeIn_1 hl q a g t c o n S (nI v1) (nI v2) (if_pos e1))) hm (if_pos e1)
  by_cases e2 : wi (nI v2) (nI 0) (nI 48) = 0
  · exact mkT R 2 (by decide) (w_volumeIn_2 bo F (zMo y qm h) q a g t c o n S (nI v1) (nI v2) ⟨by decide, by decide⟩ ⟨by decide, by decide⟩ (x_X9_volumeIn_2 hl q a g t c o n S (nI v1) (nI v2) (if_neg e1) e2)) hm ((if_neg e1).trans (if_pos e2))
  · have eT : viT v1 v2 = 0 := (if_neg e1).trans (if_neg e2)
    have b1 := isS_lt hv1 e1
    have b2 := wi_lt hv2 (by omega) (by omega) e2
    have e3 := re_vi (t := t) O H b1 (show v2 ≤ 1000 by omega)
    have hc := c_X9_volumeIn (l := l) (y := y) (D := D) q a g t c o n S v1 v2 b1 b2.2 O.1 (if_neg e1) e2
    generalize trT g (cpSt t g) v2 = T9 at e3 hc
    generalize pn0 (h 1) v2 = M9 at e3 hm
    exact mk0 (w_volumeIn_0 bo F (zMo y qm h) q a g t c o n S (nI v1) (nI v2) ⟨by decide, by decide⟩ hc) hm eT (by rw [if_pos eT]; exact e3) rfl (RR_cg R rfl rfl rfl rfl rfl)
theorem oc_goneIn (hl : l.stackTraces = false) (R : RR g o n S h u k) (x1 : Int32) : ocW l y D yL_goneIn wsL_goneIn yX10_goneIn wsX10_goneIn 5 114 [.int x1] q a qm bo F g t c o n S h := by
  obtain ⟨v1, hv1, rfl⟩ := nI_of32 x1
  obtain ⟨O, H, -⟩ := id R
  have hm := c_X10_goneIn (l := l) (y := y) (D := D) qm h v1 hv1 (re_okM O H) (re_okTm O H)
  by_cases e1 : isS (nI v1) = 0
  · exact mkT R 1 (by decide) (w_goneIn_1 bo F (zMo y qm h) q a g t c o n S (nI v1) ⟨by decide, by decide⟩ ⟨by decide, by decide⟩ (x_X9_goneIn_1 hl q a g t c o n S (nI v1) (if_pos e1))) hm (if_pos e1)
  · have eT : swT v1 = 0 := if_neg e1
    have b1 := isS_lt hv1 e1
    obtain ⟨g0, g1⟩ := re_gi (t := t) O H b1
    by_cases e2 : hbl g (nI v1) (nI 0) = 0
    · have e3 := g0 e2
      have hc := c_X9_goneIn_0 (l := l) (y := y) (D := D) q a g t c o n S v1 (if_neg e1) e2
      generalize gnM (h 1) v1 = X9 at e3 hm
      exact mk0 (w_goneIn_0 bo F (zMo y qm h) q a g t c o n S (nI v1) ⟨by decide, by decide⟩ hc) hm eT (by rw [if_pos eT]; exact e3.symm) rfl (RR_cg R rfl rfl rfl rfl rfl)
    · have e3 := g1 e2
      have hc := c_X9_goneIn_1 (l := l) (y := y) (D := D) q a g t c o n S v1 O.1 (if_neg e1) e2
      generalize gnM (h 1) v1 = X9 at e3 hm
      generalize gnT g (cpSt t g) v1 200 0 = T9 at hc
      generalize gnR g (cpSt t g) v1 200 0 = Y9 at e3 hc
      exact mk0 (w_goneIn_0 bo F (zMo y qm h) q a g t c o n S (nI v1) ⟨by decide, by decide⟩ hc) hm eT (by rw [if_pos eT]; exact e3) rfl (RR_cg R rfl rfl rfl rfl rfl)
theorem oc_minutesFor (hl : l.stackTraces = false) (R : RR g o n S h u k) (x1 x2 : Int32) : ocW l y D yL_minutesFor wsL_minutesFor yX10_minutesFor wsX10_minutesFor 2 43 [.int x1, .int x2] q a qm bo F g t c o n S h := by
  obtain ⟨v1, hv1, rfl⟩ := nI_of32 x1
  obtain ⟨v2, hv2, rfl⟩ := nI_of32 x2
  obtain ⟨O, H, -⟩ := id R
  have hm := c_X10_minutesFor (l := l) (y := y) (D := D) qm h v1 v2 hv1 hv2 (re_okTm O H) (re_okSp O H)
  have ei := re_it O H (nI v1)
  by_cases e1 : itC g (nI v1) = 0
  · exact mkT R 1 (by decide) (w_minutesFor_1 bo F (zMo y qm h) q a g t c o n S (nI v1) (nI v2) ⟨by decide, by decide⟩ ⟨by decide, by decide⟩ (x_X9_minutesFor_1 hl q a g t c o n S (nI v1) (nI v2) e1)) hm (if_pos (by rw [← ei]; exact e1))
  by_cases e2 : wi (nI v2) (nI 0) (nI 9999) = 0
  · exact mkT R 2 (by decide) (w_minutesFor_2 bo F (zMo y qm h) q a g t c o n S (nI v1) (nI v2) ⟨by decide, by decide⟩ ⟨by decide, by decide⟩ (x_X9_minutesFor_2 hl q a g t c o n S (nI v1) (nI v2) e1 e2)) hm ((if_neg (by rw [← ei]; exact e1)).trans (if_pos e2))
  · have eT : mtT (h 1) v1 v2 = 0 := (if_neg (by rw [← ei]; exact e1)).trans (if_neg e2)
    have b1 := it_lt2 O hv1 e1
    have h5 := O.2.1.2
    exact mk0 (w_minutesFor_0 bo F (zMo y qm h) q a g t c o n S (nI v1) (nI v2) ⟨by decide, by decide⟩ (c_X9_minutesFor q a g t c o n S v1 (nI v2) (by omega) e1 e2)) hm eT (by rw [if_pos eT]; exact re_mt O H b1 (nI v2)) rfl (RR_h0 R)
theorem oc_type (hl : l.stackTraces = false) (R : RR g o n S h u k) (x1 : Int32) : ocW l y D yL_type wsL_type yX10_type wsX10_type 1 23 [.int x1] q a qm bo F g t c o n S h := by
  obtain ⟨v1, hv1, rfl⟩ := nI_of32 x1
  obtain ⟨O, H, ⟨m, hm9, o0, h04, hB⟩, G⟩ := id R
  have hm := c_X10_type (l := l) (y := y) (D := D) qm h v1 m hv1 h04 hm9
  by_cases e1 : wi (nI v1) (nI 0) (nI 127) = 0
  · exact mkT R 1 (by decide) (w_type_1 bo F (zMo y qm h) q a g t c o n S (nI v1) ⟨by decide, by decide⟩ ⟨by decide, by decide⟩ (x_X9_type_1 hl q a g t c o n S (nI v1) e1)) hm (if_pos e1)
  by_cases e2 : nI 150 ≤ h 0 4
  · exact mkT R 2 (by decide) (w_type_2 bo F (zMo y qm h) q a g t c o n S (nI v1) ⟨by decide, by decide⟩ ⟨by decide, by decide⟩ (x_X9_type_2 hl q a g t c o n S (nI v1) e1 (by rw [o0, ← h04]; exact not_lt32.mpr e2))) hm ((if_neg e1).trans (if_pos e2))
  · have eT : tyT h v1 = 0 := (if_neg e1).trans (if_neg e2)
    have m150 : m < 150 := by
      rw [h04, nI_leI (by omega) (by omega)] at e2
      omega
    refine mk0 (w_type_0 bo F (zMo y qm h) q a g t c o n S (nI v1) ⟨by decide, by decide⟩ (c_X9_type q a g t c o n S m (nI v1) o0 m150 e1)) hm eT (by rw [if_pos eT]) rfl ⟨O, H, ⟨m + 1, by omega, rfl, rfl, fun j hj => ?_⟩, G⟩
    show upd (o 2) m (nI v1).toInt8.toInt32 j = upd (h 5) m (nI v1).toInt8.toInt32 j
    by_cases e : j = m
    · rw [e, pk_us, pk_us]
    · rw [pk_un e, pk_un e]; exact hB j (by omega)
theorem oc_undo (hl : l.stackTraces = false) (R : RR g o n S h u k) : ocW l y D yL_undo wsL_undo yX10_undo wsX10_undo 1 23 [] q a qm bo F g t c o n S h := by
  obtain ⟨O, H, T, G⟩ := id R
  obtain ⟨hu, hk, n0, n1, hx, -⟩ := id G
  have hm := c_X10_undo (l := l) (y := y) (D := D) qm h u hx hu
  by_cases e : u = 0
  · exact mkT R 1 (by decide) (w_undo_1 bo F (zMo y qm h) q a g t c o n S ⟨by decide, by decide⟩ ⟨by decide, by decide⟩ (x_X9_undo_1 hl q a g t c o n S (by rw [n0, e]; exact n123.2.2.2))) hm (if_pos e)
  · have eT : unT u = 0 := if_neg e
    obtain ⟨O', H', G', e3⟩ := re_undo (g := g) G (by omega)
    exact mk0 (w_undo_0 bo F (zMo y qm h) q a g t c o n S ⟨by decide, by decide⟩ (c_X9_undo q a g t c o n S k hk n1 (by rw [n0]; exact nI_ne0 (by omega) (by omega)))) hm eT (by rw [if_pos eT]; exact e3) rfl ⟨O', H', T, G'⟩
end STEPS
