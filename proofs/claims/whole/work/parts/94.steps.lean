/-! each call of the script: what the class does, what the model does, and that they agree -/
/-- the class's memories and the model's -/
def RR (g o n : Nat → Nat → Int32) (S : Nat → Nat → Nat → Int32) (h : Nat → Nat → Int32) (u k : Nat) : Prop := okS g ∧ reS g (h 1) ∧ (∃ m, m ≤ 150 ∧ o 0 0 = nI m ∧ h 0 4 = nI m ∧ ∀ j, j < m → o 2 j = h 5 j) ∧ rgR n S (h 2) (h 0 0) u k
theorem RR_cg {g o n h h' : Nat → Nat → Int32} {S : Nat → Nat → Nat → Int32} {u k : Nat} (R : RR g o n S h u k) (e1 : h' 1 = h 1) (e2 : h' 2 = h 2) (e5 : h' 5 = h 5) (e0 : h' 0 0 = h 0 0) (e4 : h' 0 4 = h 0 4) : RR g o n S h' u k := by
  obtain ⟨O, H, T, G⟩ := R
  unfold RR
  rw [e1, e2, e5, e0, e4]
  exact ⟨O, H, T, G⟩
theorem RR_sv {g g' o n h : Nat → Nat → Int32} {f' : Nat → Int32} {S : Nat → Nat → Nat → Int32} {u k : Nat} (R : RR g o n S h u k) (O' : okS g') (H' : reS g' f') : RR g' o (puN n (tpN k)) (zSs S (tpN k) (cpSa (S (tpN k)) g)) (va_up (svG (h0t h) u) 1 f') (svM u) (tpN k) := by
  obtain ⟨O, H, T, G⟩ := R
  exact ⟨O', H', T, re_sav (h := h0t h) O H G⟩
def ocW (l : Launch) (y : zY) (D : va_G) (nL : MethodName) (TL : List Cond) (nM : MethodName) (TM : List Cond) (fr lo : Nat) (as : List Value) (q : Nat → Nat) (a : Nat → Nat → Nat) (qm : Nat → Nat) (bo : Nat) (F : Nat → Int64) (g t c o n : Nat → Nat → Int32) (S : Nat → Nat → Nat → Int32) (h : Nat → Nat → Int32) : Prop := ∃ (kc : Nat) (bm : Int32) (F9 : Nat → Int64) (g' t' c' o' n' : Nat → Nat → Int32) (S' : Nat → Nat → Nat → Int32) (h' : Nat → Nat → Int32) (u' k' : Nat), kc < 4 ∧ zW l y D nL TL 8 230 1 6 (.ref (q 0) :: (as ++ [.ref bo])) (zOu y bo F ++ (zCW y q a g t c o n S ++ zMo y qm h)) (zOu y bo F9 ++ (zCW y q a g' t' c' o' n' S' ++ zMo y qm h)) (some (.int (nI kc))) ∧ zM l y D nM TM fr lo (.ref (qm 0) :: as) (zMo y qm h) (zMo y qm h') (some (.int bm)) ∧ h' 0 1 = nI kc ∧ (kc = 0 → F9 0 = bm.toInt64) ∧ RR g' o' n' S' h' u' k'
def ocP (l : Launch) (y : zY) (D : va_G) (nC : MethodName) (TC : List Cond) (f9 l9 : Nat) (nM : MethodName) (TM : List Cond) (fr lo : Nat) (as : List Value) (q : Nat → Nat) (a : Nat → Nat → Nat) (qm : Nat → Nat) (g t c o n : Nat → Nat → Int32) (S : Nat → Nat → Nat → Int32) (h : Nat → Nat → Int32) : Prop := ∃ (a9 : Int32) (g' t' c' o' n' : Nat → Nat → Int32) (S' : Nat → Nat → Nat → Int32) (h' : Nat → Nat → Int32) (u' k' : Nat), zM l y D nC TC f9 l9 (.ref (q 0) :: as) (zCW y q a g t c o n S) (zCW y q a g' t' c' o' n' S') (some (.int a9)) ∧ zM l y D nM TM fr lo (.ref (qm 0) :: as) (zMo y qm h) (zMo y qm h') (some (.int a9)) ∧ RR g' o' n' S' h' u' k'
theorem mkT {l : Launch} {y : zY} {D : va_G} {nL : MethodName} {TL : List Cond} {nM : MethodName} {TM : List Cond} {fr lo : Nat} {as : List Value} {q : Nat → Nat} {a : Nat → Nat → Nat} {qm : Nat → Nat} {bo : Nat} {F : Nat → Int64} {g t c o n : Nat → Nat → Int32} {S : Nat → Nat → Nat → Int32} {h : Nat → Nat → Int32} {u k : Nat} (R : RR g o n S h u k) (kc : Nat) (h1 : 1 ≤ kc ∧ kc < 4) {T : Nat} {G : Nat → Nat → Int32} {x : Int32} (hw : zW l y D nL TL 8 230 1 6 (.ref (q 0) :: (as ++ [.ref bo])) (zOu y bo F ++ (zCW y q a g t c o n S ++ zMo y qm h)) (zOu y bo F ++ (zCW y q a g t c o n S ++ zMo y qm h)) (some (.int (nI kc)))) (hm : zM l y D nM TM fr lo (.ref (qm 0) :: as) (zMo y qm h) (zMo y qm (mxG h T G)) (some (.int x))) (hT : T = kc) : ocW l y D nL TL nM TM fr lo as q a qm bo F g t c o n S h := by
  subst hT
  have e : mxG h T G = va_up h 0 (upd (h 0) 1 (nI T)) := if_neg (by omega)
  rw [e] at hm
  exact ⟨T, x, F, g, t, c, o, n, S, _, u, k, h1.2, hw, hm, rfl, fun q => absurd q (by omega), RR_cg R rfl rfl rfl rfl rfl⟩
theorem mk0 {l : Launch} {y : zY} {D : va_G} {nL : MethodName} {TL : List Cond} {nM : MethodName} {TM : List Cond} {fr lo : Nat} {as : List Value} {q : Nat → Nat} {a : Nat → Nat → Nat} {qm : Nat → Nat} {bo : Nat} {F : Nat → Int64} {g t c o n : Nat → Nat → Int32} {S : Nat → Nat → Nat → Int32} {h : Nat → Nat → Int32} {g' t' c' o' n' : Nat → Nat → Int32} {S' : Nat → Nat → Nat → Int32} {u' k' : Nat} {T : Nat} {G : Nat → Nat → Int32} {x b : Int32} (hw : zW l y D nL TL 8 230 1 6 (.ref (q 0) :: (as ++ [.ref bo])) (zOu y bo F ++ (zCW y q a g t c o n S ++ zMo y qm h)) (zOu y bo (vp_updL F 0 x.toInt64) ++ (zCW y q a g' t' c' o' n' S' ++ zMo y qm h)) (some (.int (nI 0)))) (hm : zM l y D nM TM fr lo (.ref (qm 0) :: as) (zMo y qm h) (zMo y qm (mxG h T G)) (some (.int b))) (hT : T = 0) (hx : x = b) (h01 : G 0 1 = nI 0) (R' : RR g' o' n' S' G u' k') : ocW l y D nL TL nM TM fr lo as q a qm bo F g t c o n S h := by
  subst hT hx
  have e : mxG h 0 G = G := if_pos rfl
  rw [e] at hm
  exact ⟨0, x, _, g', t', c', o', n', S', G, u', k', by omega, hw, hm, h01, fun _ => rfl, R'⟩
section STEPS
variable {l : Launch} {y : zY} {D : va_G} {q : Nat → Nat} {a : Nat → Nat → Nat} {qm : Nat → Nat} {bo : Nat} {F : Nat → Int64} {g t c o n : Nat → Nat → Int32} {S : Nat → Nat → Nat → Int32} {h : Nat → Nat → Int32} {u k : Nat}
theorem oc_addSnow (hl : l.stackTraces = false) (R : RR g o n S h u k) (x1 : Int32) : ocW l y D yL_addSnow wsL_addSnow yX10_addSnow wsX10_addSnow 2 45 [.int x1] q a qm bo F g t c o n S h := by
  obtain ⟨v1, hv1, rfl⟩ := nI_of32 x1
  obtain ⟨O, H, -, hu, hk, -, n1, hx, -⟩ := id R
  have hm := c_X10_addSnow (l := l) (y := y) (D := D) qm h v1 hv1 u hx hu
  rcases re_as O H hv1 with ⟨e1, e2⟩ | ⟨e1, e2⟩ | ⟨e1, e2, O', H', e3⟩
  · exact mkT R 1 (by decide) (w_addSnow_1 bo F (zMo y qm h) q a g t c o n S (nI v1) ⟨by decide, by decide⟩ ⟨by decide, by decide⟩ (x_X9_addSnow_2 hl q a g t c o n S (nI v1) e1)) hm e2
  · exact mkT R 2 (by decide) (w_addSnow_2 bo F (zMo y qm h) q a g t c o n S (nI v1) ⟨by decide, by decide⟩ ⟨by decide, by decide⟩ (x_X9_addSnow_3 hl q a g t c o n S (nI v1) e1)) hm e2
  · exact mk0 (w_addSnow_0 bo F (zMo y qm h) q a g t c o n S (nI v1) ⟨by decide, by decide⟩ (c_X9_addSnow q a g t c o n S (nI v1) e1 k hk n1)) hm e2 (by rw [if_pos e2]; exact e3) rfl (RR_sv R O' H')
theorem oc_press (hl : l.stackTraces = false) (R : RR g o n S h u k) (x1 x2 : Int32) : ocW l y D yL_press wsL_press yX10_press wsX10_press 3 66 [.int x1, .int x2] q a qm bo F g t c o n S h := by
  obtain ⟨v1, hv1, rfl⟩ := nI_of32 x1
  obtain ⟨v2, hv2, rfl⟩ := nI_of32 x2
  obtain ⟨O, H, -, hu, hk, -, n1, hx, -⟩ := id R
  have hm := c_X10_press (l := l) (y := y) (D := D) qm h v1 v2 hv1 hv2 u hx hu
  rcases re_pr O H hv1 hv2 with ⟨e1, e2⟩ | ⟨e1, e2⟩ | ⟨e0, e1, e2, O', H', e3⟩
  · exact mkT R 1 (by decide) (w_press_1 bo F (zMo y qm h) q a g t c o n S (nI v1) (nI v2) ⟨by decide, by decide⟩ ⟨by decide, by decide⟩ (x_X9_press_2 hl q a g t c o n S v1 (nI v2) hv1 e1)) hm e2
  · exact mkT R 2 (by decide) (w_press_2 bo F (zMo y qm h) q a g t c o n S (nI v1) (nI v2) ⟨by decide, by decide⟩ ⟨by decide, by decide⟩ (x_X9_press_3 hl q a g t c o n S v1 (nI v2) hv1 e1)) hm e2
  · exact mk0 (w_press_0 bo F (zMo y qm h) q a g t c o n S (nI v1) (nI v2) ⟨by decide, by decide⟩ (c_X9_press q a g t c o n S v1 (nI v2) e0 e1 k hk n1)) hm e2 (by rw [if_pos e2]; exact e3) rfl (RR_sv R O' H')
theorem oc_stack (hl : l.stackTraces = false) (R : RR g o n S h u k) (x1 x2 : Int32) : ocW l y D yL_stack wsL_stack yX10_stack wsX10_stack 3 67 [.int x1, .int x2] q a qm bo F g t c o n S h := by
  obtain ⟨v1, hv1, rfl⟩ := nI_of32 x1
  obtain ⟨v2, hv2, rfl⟩ := nI_of32 x2
  obtain ⟨O, H, -, hu, hk, -, n1, hx, -⟩ := id R
  have hm := c_X10_stack (l := l) (y := y) (D := D) qm h v1 v2 hv1 hv2 (re_okM O H) u hx hu
  rcases re_st O H hv1 hv2 with ⟨e1, e2⟩ | ⟨e1, e2⟩ | ⟨e1, e2⟩ | ⟨e8, e0, e1, e2, O', H', e3⟩
  · exact mkT R 1 (by decide) (w_stack_1 bo F (zMo y qm h) q a g t c o n S (nI v1) (nI v2) ⟨by decide, by decide⟩ ⟨by decide, by decide⟩ (x_X9_stack_1 hl q a g t c o n S v1 v2 hv1 hv2 e1)) hm e2
  · exact mkT R 2 (by decide) (w_stack_2 bo F (zMo y qm h) q a g t c o n S (nI v1) (nI v2) ⟨by decide, by decide⟩ ⟨by decide, by decide⟩ (x_X9_stack_2 hl q a g t c o n S v1 v2 hv1 hv2 e1)) hm e2
  · exact mkT R 3 (by decide) (w_stack_3 bo F (zMo y qm h) q a g t c o n S (nI v1) (nI v2) ⟨by decide, by decide⟩ ⟨by decide, by decide⟩ (x_X9_stack_3 hl q a g t c o n S v1 v2 hv1 hv2 e1)) hm e2
  · exact mk0 (w_stack_0 bo F (zMo y qm h) q a g t c o n S (nI v1) (nI v2) ⟨by decide, by decide⟩ (c_X9_stack q a g t c o n S v1 v2 e8 e0 (stC_ok O.1 hv1 hv2 (e1.trans n123.2.2.2)).2.2.2 O.1 e1 k hk n1)) hm e2 (by rw [if_pos e2]; exact e3) rfl (RR_sv R O' H')
theorem oc_setWall_0 (hl : l.stackTraces = false) (R : RR g o n S h u k) (x1 : Int32) : ocW l y D yL_setWall wsL_setWall yX10_setWall wsX10_setWall 3 65 [.int x1, .int (nI 0)] q a qm bo F g t c o n S h := by
  obtain ⟨v1, hv1, rfl⟩ := nI_of32 x1
  obtain ⟨O, H, -, hu, hk, -, n1, hx, -⟩ := id R
  have hm := c_X10_setWall_0 (l := l) (y := y) (D := D) qm h v1 hv1 u hx hu
  by_cases e : isS (nI v1) = 0
  · exact mkT R 1 (by decide) (w_setWall_1 bo F (zMo y qm h) q a g t c o n S (nI v1) (nI 0) ⟨by decide, by decide⟩ ⟨by decide, by decide⟩ (x_X9_setWall_1 hl q a g t c o n S (nI v1) (nI 0) (if_pos e))) hm (if_pos e)
  · have e2 : swT v1 = 0 := if_neg e
    obtain ⟨O', H'⟩ := re_sw (z := 0) O H (isS_lt hv1 e) (by omega)
    exact mk0 (w_setWall_0 bo F (zMo y qm h) q a g t c o n S (nI v1) (nI 0) ⟨by decide, by decide⟩ (c_X9_setWall_0 q a g t c o n S v1 (isS_lt hv1 e) (if_neg e) k hk n1)) hm e2 (by rw [if_pos e2]; exact re_wl H' 8 (Nat.le_refl _)) rfl (RR_sv R O' H')
theorem oc_setWall_1 (hl : l.stackTraces = false) (R : RR g o n S h u k) (x1 : Int32) : ocW l y D yL_setWall wsL_setWall yX10_setWall wsX10_setWall 3 65 [.int x1, .int (nI 1)] q a qm bo F g t c o n S h := by
  obtain ⟨v1, hv1, rfl⟩ := nI_of32 x1
  obtain ⟨O, H, -, hu, hk, -, n1, hx, -⟩ := id R
  have hm := c_X10_setWall_1 (l := l) (y := y) (D := D) qm h v1 hv1 u hx hu
  by_cases e : isS (nI v1) = 0
  · exact mkT R 1 (by decide) (w_setWall_1 bo F (zMo y qm h) q a g t c o n S (nI v1) (nI 1) ⟨by decide, by decide⟩ ⟨by decide, by decide⟩ (x_X9_setWall_1 hl q a g t c o n S (nI v1) (nI 1) (if_pos e))) hm (if_pos e)
  · have e2 : swT v1 = 0 := if_neg e
    obtain ⟨O', H'⟩ := re_sw (z := 1) O H (isS_lt hv1 e) (by omega)
    exact mk0 (w_setWall_0 bo F (zMo y qm h) q a g t c o n S (nI v1) (nI 1) ⟨by decide, by decide⟩ (c_X9_setWall_1 q a g t c o n S v1 (isS_lt hv1 e) (if_neg e) k hk n1)) hm e2 (by rw [if_pos e2]; exact re_wl H' 8 (Nat.le_refl _)) rfl (RR_sv R O' H')
theorem oc_addTool (hl : l.stackTraces = false) (R : RR g o n S h u k) (x1 : Int32) : ocW l y D yL_addTool wsL_addTool yX10_addTool wsX10_addTool 2 46 [.int x1] q a qm bo F g t c o n S h := by
  obtain ⟨v1, hv1, rfl⟩ := nI_of32 x1
  obtain ⟨O, H, -, hu, hk, -, n1, hx, -⟩ := id R
  have hm := c_X10_addTool (l := l) (y := y) (D := D) qm h v1 hv1 (re_okTm O H) u hx hu
  rcases re_at O H hv1 with ⟨e1, e2⟩ | ⟨e1, e2⟩ | ⟨e0, e1, e2, O', H', e3⟩
  · exact mkT R 1 (by decide) (w_addTool_1 bo F (zMo y qm h) q a g t c o n S (nI v1) ⟨by decide, by decide⟩ ⟨by decide, by decide⟩ (x_X9_addTool_2 hl q a g t c o n S (nI v1) e1)) hm e2
  · exact mkT R 2 (by decide) (w_addTool_2 bo F (zMo y qm h) q a g t c o n S (nI v1) ⟨by decide, by decide⟩ ⟨by decide, by decide⟩ (x_X9_addTool_3 hl q a g t c o n S (nI v1) e1)) hm e2
  · exact mk0 (w_addTool_0 bo F (zMo y qm h) q a g t c o n S (nI v1) ⟨by decide, by decide⟩ (c_X9_addTool q a g t c o n S (nI v1) ⟨O.2.1.1, e0⟩ e1 k hk n1)) hm e2 (by rw [if_pos e2]; exact e3) rfl (RR_sv R O' H')
theorem oc_carve (hl : l.stackTraces = false) (R : RR g o n S h u k) (x1 x2 x3 x4 : Int32) : ocW l y D yL_carve wsL_carve yX10_carve wsX10_carve 3 74 [.int x1, .int x2, .int x3, .int x4] q a qm bo F g t c o n S h := by
  obtain ⟨v1, hv1, rfl⟩ := nI_of32 x1
  obtain ⟨v2, hv2, rfl⟩ := nI_of32 x2
  obtain ⟨v3, hv3, rfl⟩ := nI_of32 x3
  obtain ⟨v4, hv4, rfl⟩ := nI_of32 x4
  obtain ⟨O, H, -, hu, hk, -, n1, hx, -⟩ := id R
  have hm := c_X10_carve (l := l) (y := y) (D := D) qm h v1 v2 v3 v4 hv1 hv2 hv3 hv4 (re_okM O H) (re_okTm O H) (re_okSp O H) u hx hu
  rcases re_ca O H hv1 hv2 hv3 hv4 with ⟨e1, -, e2⟩ | ⟨e1, -, e2⟩ | ⟨e1, -, b1, b2, b3, b4, b5, e2⟩
  · exact mkT R 1 (by decide) (w_carve_1 bo F (zMo y qm h) q a g t c o n S (nI v1) (nI v2) (nI v3) (nI v4) ⟨by decide, by decide⟩ ⟨by decide, by decide⟩ (x_X9_carve_1 hl q a g t c o n S v1 v2 v3 (nI v4) hv1 hv2 hv3 O.2.1 (by unfold crC; rw [e1, if_neg n123.1]))) hm e2
  · exact mkT R 2 (by decide) (w_carve_2 bo F (zMo y qm h) q a g t c o n S (nI v1) (nI v2) (nI v3) (nI v4) ⟨by decide, by decide⟩ ⟨by decide, by decide⟩ (x_X9_carve_2 hl q a g t c o n S v1 v2 v3 (nI v4) hv1 hv2 hv3 O.2.1 (by unfold crC; rw [e1, if_neg n123.2.1]))) hm e2
  · rw [← re_ra O H b1 b2 b3 (nI v4)] at e2
    by_cases e : raG g v1 v2 v3 (nI v4) = 0
    · rw [if_pos e] at e2
      obtain ⟨O', H', e3⟩ := re_cr O H b1 b2 b3 b4 b5 e
      have ht5 := O.2.1.2
      exact mk0 (w_carve_0 bo F (zMo y qm h) q a g t c o n S (nI v1) (nI v2) (nI v3) (nI v4) ⟨by decide, by decide⟩ (c_X9_carve q a g t c o n S v1 v2 v3 (nI v4) (by omega) b2 b3 O.1 O.2.1 (by unfold crC; rw [e1, if_pos n123.2.2.2, if_pos e]) k hk n1)) hm e2 (by rw [if_pos e2]; exact e3) rfl (RR_sv R O' H')
    · rw [if_neg e] at e2
      exact mkT R 3 (by decide) (w_carve_3 bo F (zMo y qm h) q a g t c o n S (nI v1) (nI v2) (nI v3) (nI v4) ⟨by decide, by decide⟩ ⟨by decide, by decide⟩ (x_X9_carve_3 hl q a g t c o n S v1 v2 v3 (nI v4) hv1 hv2 hv3 O.2.1 (by unfold crC; rw [e1, if_pos n123.2.2.2, if_neg e]))) hm e2
theorem oc_ballot (hl : l.stackTraces = false) (R : RR g o n S h u k) (x1 x2 x3 : Int32) : ocW l y D yL_ballot wsL_ballot yX10_ballot wsX10_ballot 2 42 [.int x1, .int x2, .int x3] q a qm bo F g t c o n S h := by
  obtain ⟨O, H, -, hu, hk, -, n1, hx, -⟩ := id R
  have hm := c_X10_ballot (l := l) (y := y) (D := D) qm h x1 x2 x3 (re_okBm O H) u hx hu
  rcases re_bt O H x1 x2 x3 with ⟨e1, e2⟩ | ⟨e1, e2⟩ | ⟨e0, e1, e2, O', H', e3⟩
  · exact mkT R 1 (by decide) (w_ballot_1 bo F (zMo y qm h) q a g t c o n S x1 x2 x3 ⟨by decide, by decide⟩ ⟨by decide, by decide⟩ (x_X9_ballot_2 hl q a g t c o n S x1 x2 x3 e1)) hm e2
  · exact mkT R 2 (by decide) (w_ballot_2 bo F (zMo y qm h) q a g t c o n S x1 x2 x3 ⟨by decide, by decide⟩ ⟨by decide, by decide⟩ (x_X9_ballot_3 hl q a g t c o n S x1 x2 x3 e1)) hm e2
  · exact mk0 (w_ballot_0 bo F (zMo y qm h) q a g t c o n S x1 x2 x3 ⟨by decide, by decide⟩ (c_X9_ballot q a g t c o n S x1 x2 x3 ⟨O.2.2.1.1, e0⟩ e1 k hk n1)) hm e2 (by rw [if_pos e2]; exact e3) rfl (RR_sv R O' H')
end STEPS
