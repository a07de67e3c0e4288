/-! the law's walk: its words, the script's rows, what its calls rest on -/
def eLaw : List Cond := wsL_law.map sE
abbrev zAA (E : zE) : Nat → Prop := E.2.2.2.2.2.2.2.2.2.2.2.2.2.1
theorem z_sld {E : zE} {own : String} {cc : ByteArray} {Ts : List Cond} {fr lo nL k n pc : Nat} {lv : List (Nat × Value)} {ws : va_W} {st : List Value} (h : zC E own cc Ts fr lo nL) {b L : Nat} {xs : Nat → Int32} (hX : va_X b L xs (zs E) (zs E).heap) (hbl : b < (zs E).heap.size) (hbA : ¬ zAA E b) {i : Nat} (hi : i < L) (hL : L < 2 ^ 31) (hd : decode cc pc = .ok (.iaload, 1)) (kk : Z E k n lv ws (pc + 1) (.int (xs i) :: st)) : Z E k n lv ws pc (.int (nI i) :: .ref b :: st) := by
  obtain ⟨l, y, D, p, e, R, s, m, args, below, meth, c, nL, A, Q⟩ := E
  obtain ⟨hx, hb, hml, hown, hts, hK, hA, hfr, hlo, hnl, hN, hV⟩ := h
  intro H locs ls hl hP hD hS
  have h2 := kk H locs ls hl hP hD hS
  have e : i = (nI i).toNatClampNeg := (nI_clamp (by omega)).symm
  rw [e] at h2
  exact va_sld hx hb hX hbl hbA hS (nI_in hi hL) hd h2
theorem z_slen {E : zE} {own : String} {cc : ByteArray} {Ts : List Cond} {fr lo nL k n pc : Nat} {lv : List (Nat × Value)} {ws : va_W} {st : List Value} (h : zC E own cc Ts fr lo nL) {b L : Nat} {xs : Nat → Int32} (hX : va_X b L xs (zs E) (zs E).heap) (hbl : b < (zs E).heap.size) (hbA : ¬ zAA E b) (hd : decode cc pc = .ok (.arraylength, 1)) (kk : Z E k n lv ws (pc + 1) (.int (nI L) :: st)) : Z E k n lv ws pc (.ref b :: st) := by
  obtain ⟨l, y, D, p, e, R, s, m, args, below, meth, c, nL, A, Q⟩ := E
  obtain ⟨hx, hb, hml, hown, hts, hK, hA, hfr, hlo, hnl, hN, hV⟩ := h
  intro H locs ls hl hP hD hS
  exact va_slen hx hb hX hbl hbA hS hd (kk H locs ls hl hP hD hS)
theorem law_mo {l : Launch} {y : zY} {D : va_G} {nm : MethodName} {T : List Cond} {fr lo : Nat} {as : List Value} {M M' : va_W} {r : Option Value} (X C : va_W) (h : zM l y D nm T fr lo as M M' r) : zM l y D nm T fr lo as (X ++ (C ++ M)) (X ++ (C ++ M')) r := by
  have h2 := z_mid (X ++ C) [] h
  rw [List.append_nil, List.append_nil, List.append_assoc, List.append_assoc] at h2
  exact h2
theorem law_rm {y : zY} {b : Nat} {F : Nat → Int64} {C M : va_W} (hC : C.length = 97) : (zOu y b F ++ (C ++ M))[98]? = M[0]? := by
  show (C ++ M)[97]? = M[0]?
  rw [List.getElem?_append_right (by omega), hC]
theorem law_rx {y : zY} {b : Nat} {F : Nat → Int64} {C M : va_W} (hC : C.length = 97) : (zOu y b F ++ (C ++ M))[1]? = C[0]? := by
  show (C ++ M)[0]? = C[0]?
  rw [List.getElem?_append_left (by omega)]
theorem law_0 {k : Nat} (hk : k < 4) (h : nI k = 0) : k = 0 := (nI_eq (by omega) (by omega)).mp (show nI k = nI 0 from h)
theorem law_c {x z : Int64} (h : x = z) : lg_cmp x z = 0 := by
  subst h
  unfold lg_cmp
  rw [if_neg (fun q => Int64.lt_irrefl q), if_pos rfl]
theorem egL_L_addSnow : GoodIn eLaw (va_wsS RL 79 yL_addSnow wsL_addSnow) := gX gL_law_L_addSnow (by decide +kernel)
theorem egL_L_press : GoodIn eLaw (va_wsS RL 88 yL_press wsL_press) := gX gL_law_L_press (by decide +kernel)
theorem egL_L_stack : GoodIn eLaw (va_wsS RL 92 yL_stack wsL_stack) := gX gL_law_L_stack (by decide +kernel)
theorem egL_L_setWall : GoodIn eLaw (va_wsS RL 95 yL_setWall wsL_setWall) := gX gL_law_L_setWall (by decide +kernel)
theorem egL_L_addTool : GoodIn eLaw (va_wsS RL 99 yL_addTool wsL_addTool) := gX gL_law_L_addTool (by decide +kernel)
theorem egL_L_carve : GoodIn eLaw (va_wsS RL 102 yL_carve wsL_carve) := gX gL_law_L_carve (by decide +kernel)
theorem egL_L_ballot : GoodIn eLaw (va_wsS RL 115 yL_ballot wsL_ballot) := gX gL_law_L_ballot (by decide +kernel)
theorem egL_L_block : GoodIn eLaw (va_wsS RL 123 yL_block wsL_block) := gX gL_law_L_block (by decide +kernel)
theorem egL_L_site : GoodIn eLaw (va_wsS RL 126 yL_site wsL_site) := gX gL_law_L_site (by decide +kernel)
theorem egL_L_tool : GoodIn eLaw (va_wsS RL 129 yL_tool wsL_tool) := gX gL_law_L_tool (by decide +kernel)
theorem egL_L_whole : GoodIn eLaw (va_wsS RL 132 yL_whole wsL_whole) := gX gL_law_L_whole (by decide +kernel)
theorem egL_L_votes : GoodIn eLaw (va_wsS RL 139 yL_votes wsL_votes) := gX gL_law_L_votes (by decide +kernel)
theorem egL_L_reason : GoodIn eLaw (va_wsS RL 146 yL_reason wsL_reason) := gX gL_law_L_reason (by decide +kernel)
theorem egL_L_volumeIn : GoodIn eLaw (va_wsS RL 149 yL_volumeIn wsL_volumeIn) := gX gL_law_L_volumeIn (by decide +kernel)
theorem egL_L_goneIn : GoodIn eLaw (va_wsS RL 152 yL_goneIn wsL_goneIn) := gX gL_law_L_goneIn (by decide +kernel)
theorem egL_L_minutesFor : GoodIn eLaw (va_wsS RL 159 yL_minutesFor wsL_minutesFor) := gX gL_law_L_minutesFor (by decide +kernel)
theorem egL_L_type : GoodIn eLaw (va_wsS RL 162 yL_type wsL_type) := gX gL_law_L_type (by decide +kernel)
theorem egL_L_undo : GoodIn eLaw (va_wsS RL 173 yL_undo wsL_undo) := gX gL_law_L_undo (by decide +kernel)
theorem egL_X10_addSnow : GoodIn eLaw (wsV RL 84 RX10 yX10_addSnow wsX10_addSnow) := gX gL_law_X10_addSnow (by decide +kernel)
theorem egL_X10_press : GoodIn eLaw (wsV RL 91 RX10 yX10_press wsX10_press) := gX gL_law_X10_press (by decide +kernel)
theorem egL_X10_stack : GoodIn eLaw (wsV RL 94 RX10 yX10_stack wsX10_stack) := gX gL_law_X10_stack (by decide +kernel)
theorem egL_X10_setWall : GoodIn eLaw (wsV RL 98 RX10 yX10_setWall wsX10_setWall) := gX gL_law_X10_setWall (by decide +kernel)
theorem egL_X10_addTool : GoodIn eLaw (wsV RL 101 RX10 yX10_addTool wsX10_addTool) := gX gL_law_X10_addTool (by decide +kernel)
theorem egL_X10_carve : GoodIn eLaw (wsV RL 105 RX10 yX10_carve wsX10_carve) := gX gL_law_X10_carve (by decide +kernel)
theorem egL_X10_recycle : GoodIn eLaw (wsV RL 109 RX10 yX10_recycle wsX10_recycle) := gX gL_law_X10_recycle (by decide +kernel)
theorem egL_X10_hour : GoodIn eLaw (wsV RL 114 RX10 yX10_hour wsX10_hour) := gX gL_law_X10_hour (by decide +kernel)
theorem egL_X10_ballot : GoodIn eLaw (wsV RL 118 RX10 yX10_ballot wsX10_ballot) := gX gL_law_X10_ballot (by decide +kernel)
theorem egL_X10_clearBallots : GoodIn eLaw (wsV RL 122 RX10 yX10_clearBallots wsX10_clearBallots) := gX gL_law_X10_clearBallots (by decide +kernel)
theorem egL_X10_block : GoodIn eLaw (wsV RL 125 RX10 yX10_block wsX10_block) := gX gL_law_X10_block (by decide +kernel)
theorem egL_X10_site : GoodIn eLaw (wsV RL 128 RX10 yX10_site wsX10_site) := gX gL_law_X10_site (by decide +kernel)
theorem egL_X10_tool : GoodIn eLaw (wsV RL 131 RX10 yX10_tool wsX10_tool) := gX gL_law_X10_tool (by decide +kernel)
theorem egL_X10_whole : GoodIn eLaw (wsV RL 134 RX10 yX10_whole wsX10_whole) := gX gL_law_X10_whole (by decide +kernel)
theorem egL_X10_rounds : GoodIn eLaw (wsV RL 138 RX10 yX10_rounds wsX10_rounds) := gX gL_law_X10_rounds (by decide +kernel)
theorem egL_X10_votes : GoodIn eLaw (wsV RL 141 RX10 yX10_votes wsX10_votes) := gX gL_law_X10_votes (by decide +kernel)
theorem egL_X10_winner : GoodIn eLaw (wsV RL 145 RX10 yX10_winner wsX10_winner) := gX gL_law_X10_winner (by decide +kernel)
theorem egL_X10_reason : GoodIn eLaw (wsV RL 148 RX10 yX10_reason wsX10_reason) := gX gL_law_X10_reason (by decide +kernel)
theorem egL_X10_volumeIn : GoodIn eLaw (wsV RL 151 RX10 yX10_volumeIn wsX10_volumeIn) := gX gL_law_X10_volumeIn (by decide +kernel)
theorem egL_X10_goneIn : GoodIn eLaw (wsV RL 154 RX10 yX10_goneIn wsX10_goneIn) := gX gL_law_X10_goneIn (by decide +kernel)
theorem egL_X10_bestWall : GoodIn eLaw (wsV RL 158 RX10 yX10_bestWall wsX10_bestWall) := gX gL_law_X10_bestWall (by decide +kernel)
theorem egL_X10_minutesFor : GoodIn eLaw (wsV RL 161 RX10 yX10_minutesFor wsX10_minutesFor) := gX gL_law_X10_minutesFor (by decide +kernel)
theorem egL_X10_type : GoodIn eLaw (wsV RL 164 RX10 yX10_type wsX10_type) := gX gL_law_X10_type (by decide +kernel)
theorem egL_X10_clearOrders : GoodIn eLaw (wsV RL 168 RX10 yX10_clearOrders wsX10_clearOrders) := gX gL_law_X10_clearOrders (by decide +kernel)
theorem egL_X10_runOrders : GoodIn eLaw (wsV RL 172 RX10 yX10_runOrders wsX10_runOrders) := gX gL_law_X10_runOrders (by decide +kernel)
theorem egL_X10_undo : GoodIn eLaw (wsV RL 176 RX10 yX10_undo wsX10_undo) := gX gL_law_X10_undo (by decide +kernel)
theorem egL_X10_digest : GoodIn eLaw (wsV RL 181 RX10 yX10_digest wsX10_digest) := gX gL_law_X10_digest (by decide +kernel)
theorem egL_X10_thrown : GoodIn eLaw (wsV RL 85 RX10 yX10_thrown wsX10_thrown) := gX gL_law_X10_thrown (by decide +kernel)
theorem egL_X9_recycle : GoodIn eLaw (wsV RL 106 RX9 yX9_recycle wsX9_recycle) := gX gL_law_X9_recycle (by decide +kernel)
theorem egL_X9_hour : GoodIn eLaw (wsV RL 110 RX9 yX9_hour wsX9_hour) := gX gL_law_X9_hour (by decide +kernel)
theorem egL_X9_clearBallots : GoodIn eLaw (wsV RL 119 RX9 yX9_clearBallots wsX9_clearBallots) := gX gL_law_X9_clearBallots (by decide +kernel)
theorem egL_X9_rounds : GoodIn eLaw (wsV RL 135 RX9 yX9_rounds wsX9_rounds) := gX gL_law_X9_rounds (by decide +kernel)
theorem egL_X9_winner : GoodIn eLaw (wsV RL 142 RX9 yX9_winner wsX9_winner) := gX gL_law_X9_winner (by decide +kernel)
theorem egL_X9_bestWall : GoodIn eLaw (wsV RL 155 RX9 yX9_bestWall wsX9_bestWall) := gX gL_law_X9_bestWall (by decide +kernel)
theorem egL_X9_clearOrders : GoodIn eLaw (wsV RL 165 RX9 yX9_clearOrders wsX9_clearOrders) := gX gL_law_X9_clearOrders (by decide +kernel)
theorem egL_X9_runOrders : GoodIn eLaw (wsV RL 169 RX9 yX9_runOrders eRO) := gMA (X := wsX9_runOrders) gL_law_X9_runOrders (by decide +kernel)
theorem egL_X9_digest : GoodIn eLaw (wsV RL 177 RX9 yX9_digest wsX9_digest) := gX gL_law_X9_digest (by decide +kernel)
