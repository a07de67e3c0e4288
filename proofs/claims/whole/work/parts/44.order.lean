/-! the model's orders: one is read -/
theorem woC_9 (B : Nat → Int32) (i e : Nat) : woC B i e = (-1) ∨ ∃ w, w < 9 ∧ woC B i e = nI w := woN_9 _
def mmR (B : Nat → Int32) (n : Nat) : Nat → Nat → Nat → (Nat → Int32) → Nat × (Nat → Int32) × Int32
  | 0, _, p, N => (p, N, (-1))
  | k + 1, j, p, N => if (rm9 B n p).2.2 = (-1) then mmR B n k (j + 1) (rm9 B n p).2.1 (upd N j (rm9 B n p).1) else ((rm9 B n p).2.1, upd N j (rm9 B n p).1, (rm9 B n p).2.2)
def mmS (B : Nat → Int32) (n m k p : Nat) (N : Nat → Int32) (F : Int32) : Nat × (Nat → Int32) × Int32 := if F = (-1) then mmR B n (m - k) k p N else (p, N, F)
theorem mm_out {B : Nat → Int32} {n m k p : Nat} {N : Nat → Int32} {F : Int32} {R : Nat × (Nat → Int32) × Int32} (h : mmS B n m k p N F = R) (c : ¬ F = (-1)) : R = (p, N, F) := by
  subst h
  exact if_neg c
theorem mm_end {B : Nat → Int32} {n m k p : Nat} {N : Nat → Int32} {R : Nat × (Nat → Int32) × Int32} (h : mmS B n m k p N (-1) = R) (c : m ≤ k) : R = (p, N, (-1)) := by
  subst h
  unfold mmS
  rw [if_pos rfl, show m - k = 0 by omega]
  rfl
theorem mm_step {B : Nat → Int32} {n m k p : Nat} {N : Nat → Int32} {R : Nat × (Nat → Int32) × Int32} {r : Int32 × Nat × Int32} (hr : rm9 B n p = r) (h : mmS B n m k p N (-1) = R) (c : k < m) : mmS B n m (k + 1) r.2.1 (upd N k r.1) r.2.2 = R := by
  subst h
  subst hr
  unfold mmS
  rw [if_pos rfl, show m - k = (m - (k + 1)) + 1 by omega]
  rfl
def ogR (B : Nat → Int32) (n w e : Nat) (N : Nat → Int32) : Nat × (Nat → Int32) × Int32 := if (mmS B n (nbN w) 0 e N (-1)).2.2 = (-1) then (skE B n (nI 32) (nI 32) (mmS B n (nbN w) 0 e N (-1)).1 + 1, (mmS B n (nbN w) 0 e N (-1)).2.1, if nwC B n (skE B n (nI 32) (nI 32) (mmS B n (nbN w) 0 e N (-1)).1) (nI 59) (nI 59) = 0 then nI (skE B n (nI 32) (nI 32) (mmS B n (nbN w) 0 e N (-1)).1) else (-1)) else ((mmS B n (nbN w) 0 e N (-1)).1 + 1, (mmS B n (nbN w) 0 e N (-1)).2.1, (mmS B n (nbN w) 0 e N (-1)).2.2)
theorem og_f {B : Nat → Int32} {n w e p : Nat} {N N9 : Nat → Int32} {F : Int32} (h : mmS B n (nbN w) 0 e N (-1) = (p, N9, F)) (c : ¬ F = (-1)) : ogR B n w e N = (p + 1, N9, F) := by
  unfold ogR
  rw [h, if_neg c]
theorem og_0 {B : Nat → Int32} {n w e p s : Nat} {N N9 : Nat → Int32} (h : mmS B n (nbN w) 0 e N (-1) = (p, N9, (-1))) (hs : skE B n (nI 32) (nI 32) p = s) (c : nwC B n s (nI 59) (nI 59) = 0) : ogR B n w e N = (s + 1, N9, nI s) := by
  unfold ogR
  rw [h, if_pos rfl, hs, if_pos c]
theorem og_1 {B : Nat → Int32} {n w e p s : Nat} {N N9 : Nat → Int32} (h : mmS B n (nbN w) 0 e N (-1) = (p, N9, (-1))) (hs : skE B n (nI 32) (nI 32) p = s) (c : ¬ nwC B n s (nI 59) (nI 59) = 0) : ogR B n w e N = (s + 1, N9, (-1)) := by
  unfold ogR
  rw [h, if_pos rfl, hs, if_neg c]
def roQ (h : Nat → Nat → Int32) (w : Nat) (R : Nat × (Nat → Int32) × Int32) : Nat → Nat → Int32 := va_up (va_up h 0 (upd (upd (upd (h 0) 5 (nI R.1)) 8 (nI w)) 6 R.2.2)) 6 R.2.1
def wqN (h : Nat → Nat → Int32) (n i : Nat) : Nat := (woC (h 5) i (skE (h 5) n (nI 97) (nI 122) i)).toNatClampNeg
def ogG (h : Nat → Nat → Int32) (n i : Nat) : Nat → Nat → Int32 := if nwC (h 5) n i (nI 97) (nI 122) = 0 then va_up h 0 (upd (h 0) 6 (nI i)) else if (woC (h 5) i (skE (h 5) n (nI 97) (nI 122) i)) = (-1) then va_up h 0 (upd (upd (upd (h 0) 5 (nI (skE (h 5) n (nI 97) (nI 122) i + 1))) 8 (-1)) 6 (nI i)) else roQ h (wqN h n i) (ogR (h 5) n (wqN h n i) (skE (h 5) n (nI 97) (nI 122) i) (h 6))
def ogV (h : Nat → Nat → Int32) (n i : Nat) : Int32 := if nwC (h 5) n i (nI 97) (nI 122) = 0 then nI 0 else if (woC (h 5) i (skE (h 5) n (nI 97) (nI 122) i)) = (-1) then nI 0 else if (ogR (h 5) n (wqN h n i) (skE (h 5) n (nI 97) (nI 122) i) (h 6)).2.2 = (-1) then nI 1 else nI 0
theorem ogG_a {h : Nat → Nat → Int32} {n i : Nat} (c : nwC (h 5) n i (nI 97) (nI 122) = 0) : ogG h n i = va_up h 0 (upd (h 0) 6 (nI i)) ∧ ogV h n i = nI 0 := ⟨if_pos c, if_pos c⟩
theorem ogG_b {h : Nat → Nat → Int32} {n i e : Nat} (c : ¬ nwC (h 5) n i (nI 97) (nI 122) = 0) (he : skE (h 5) n (nI 97) (nI 122) i = e) (hW : woC (h 5) i e = (-1)) : ogG h n i = va_up h 0 (upd (upd (upd (h 0) 5 (nI (e + 1))) 8 (-1)) 6 (nI i)) ∧ ogV h n i = nI 0 := by
  subst he
  exact ⟨(if_neg c).trans (if_pos hW), (if_neg c).trans (if_pos hW)⟩
theorem wq_e {h : Nat → Nat → Int32} {n i e w : Nat} (he : skE (h 5) n (nI 97) (nI 122) i = e) (hw : w < 9) (hW : woC (h 5) i e = nI w) : wqN h n i = w := by
  unfold wqN
  rw [he, hW, nI_clamp (by omega)]
theorem ogG_c {h : Nat → Nat → Int32} {n i e w : Nat} {R : Nat × (Nat → Int32) × Int32} (c : ¬ nwC (h 5) n i (nI 97) (nI 122) = 0) (he : skE (h 5) n (nI 97) (nI 122) i = e) (hw : w < 9) (hW : woC (h 5) i e = nI w) (hR : ogR (h 5) n w e (h 6) = R) : ogG h n i = roQ h w R ∧ ogV h n i = (if R.2.2 = (-1) then nI 1 else nI 0) := by
  have hq := wq_e he hw hW
  have hn : ¬ woC (h 5) i (skE (h 5) n (nI 97) (nI 122) i) = (-1) := by
    rw [he, hW]
    exact nI_n1 (by omega)
  unfold ogG ogV
  rw [if_neg c, if_neg hn, if_neg c, if_neg hn, hq, he, hR]
  exact ⟨rfl, rfl⟩
theorem rw_a (y : zY) (q : Nat → Nat) (h : Nat → Nat → Int32) {n i e : Nat} (he : skE (h 5) n (nI 97) (nI 122) i = e) (hW : woC (h 5) i e = (-1)) : zMo y q (rwG (va_up h 0 (upd (h 0) 6 (-1))) n i) = zMo y q (va_up h 0 (upd (upd (upd (h 0) 5 (nI e)) 8 (-1)) 6 (nI i))) := by
  unfold rwG
  rw [show (va_up h 0 (upd (h 0) 6 (-1))) 5 = h 5 from rfl, he, hW, if_pos rfl]
  rfl
theorem rw_b (y : zY) (q : Nat → Nat) (h : Nat → Nat → Int32) {n i e w : Nat} (he : skE (h 5) n (nI 97) (nI 122) i = e) (hw : w < 9) (hW : woC (h 5) i e = nI w) : zMo y q (rwG (va_up h 0 (upd (h 0) 6 (-1))) n i) = zMo y q (va_up h 0 (upd (upd (upd (h 0) 5 (nI e)) 8 (nI w)) 6 (-1))) := by
  unfold rwG
  rw [show (va_up h 0 (upd (h 0) 6 (-1))) 5 = h 5 from rfl, he, hW, if_neg (nI_n1 (by omega))]
  rfl
theorem rm_a (y : zY) (q : Nat → Nat) (h : Nat → Nat → Int32) (X N : Nat → Int32) {n p : Nat} {r : Int32 × Nat × Int32} (hr : rm9 (h 5) n p = r) : zMo y q (rmG (va_up (va_up h 0 X) 6 N) n p) = zMo y q (va_up (va_up h 0 (upd (upd X 5 (nI r.2.1)) 6 r.2.2)) 6 N) := by
  unfold rmG
  rw [show (va_up (va_up h 0 X) 6 N) 5 = h 5 from rfl, hr]
  rfl
theorem mo_66 (y : zY) (q : Nat → Nat) (h : Nat → Nat → Int32) (X N : Nat → Int32) (v : Int32) : zMo y q (va_up (va_up (va_up h 0 X) 6 N) 0 (upd ((va_up (va_up h 0 X) 6 N) 0) 6 v)) = zMo y q (va_up (va_up h 0 (upd X 6 v)) 6 N) := rfl
def cyU (h : Nat → Nat → Int32) (w : Nat) : Nat → Nat → Int32 := cyG h w (un (h 6 0)) (un (h 6 1)) (un (h 6 2)) (un (h 6 3))
def cyV (h : Nat → Nat → Int32) (w : Nat) : Int32 := if cyT (h 1) w (un (h 6 0)) (un (h 6 1)) (un (h 6 2)) (un (h 6 3)) = 0 then nI 1 else nI 0
theorem told_un (h : Nat → Nat → Int32) : toldU h (un (h 6 0)) (un (h 6 1)) (un (h 6 2)) (un (h 6 3)) := ⟨⟨un_e _, un_lt _⟩, ⟨un_e _, un_lt _⟩, ⟨un_e _, un_lt _⟩, ⟨un_e _, un_lt _⟩⟩
def ogX (h : Nat → Nat → Int32) (n i : Nat) : Nat → Nat → Int32 := if ogV h n i = 0 then ogG h n i else cyU (ogG h n i) (wqN h n i)
def ogY (h : Nat → Nat → Int32) (n i : Nat) : Int32 := if ogV h n i = 0 then nI 0 else cyV (ogG h n i) (wqN h n i)
theorem roQ_z (y : zY) (q : Nat → Nat) (h : Nat → Nat → Int32) (w s p : Nat) (F G : Int32) (N : Nat → Int32) : zMo y q (va_up (va_up h 0 (upd (upd (upd (upd (upd (upd (h 0) 5 (nI p)) 8 (nI w)) 6 F) 5 (nI s)) 6 G) 5 (nI (s + 1)))) 6 N) = zMo y q (roQ h w (s + 1, N, G)) := rfl
theorem cv_1 {h : Nat → Nat → Int32} {w : Nat} (c : ¬ cyV h w = 0) : cyV h w = nI 1 := by
  unfold cyV at c ⊢
  split at c
  · rename_i q; rw [if_pos q]
  · exact absurd rfl c
theorem cv_0 {h : Nat → Nat → Int32} {w : Nat} (c : cyV h w = 0) : cyV h w = nI 0 := c
theorem cyT_0 (f : Nat → Int32) (u0 u1 u2 u3 : Nat) : cyT f 0 u0 u1 u2 u3 = asT f u0 := by
  unfold cyT
  rw [if_pos rfl]
theorem cyF_0 (f : Nat → Int32) (u0 u1 u2 u3 : Nat) : cyF f 0 u0 u1 u2 u3 = asF f u0 := by
  unfold cyF
  rw [if_pos rfl]
theorem cyT_1 (f : Nat → Int32) (u0 u1 u2 u3 : Nat) : cyT f 1 u0 u1 u2 u3 = prT f u0 u1 := by
  unfold cyT
  rw [if_neg (show ¬ (1 = 0) by decide), if_pos rfl]
theorem cyF_1 (f : Nat → Int32) (u0 u1 u2 u3 : Nat) : cyF f 1 u0 u1 u2 u3 = prF f u0 u1 := by
  unfold cyF
  rw [if_neg (show ¬ (1 = 0) by decide), if_pos rfl]
theorem cyT_2 (f : Nat → Int32) (u0 u1 u2 u3 : Nat) : cyT f 2 u0 u1 u2 u3 = stT f u0 u1 := by
  unfold cyT
  rw [if_neg (show ¬ (2 = 0) by decide), if_neg (show ¬ (2 = 1) by decide), if_pos rfl]
theorem cyF_2 (f : Nat → Int32) (u0 u1 u2 u3 : Nat) : cyF f 2 u0 u1 u2 u3 = stF f u0 u1 := by
  unfold cyF
  rw [if_neg (show ¬ (2 = 0) by decide), if_neg (show ¬ (2 = 1) by decide), if_pos rfl]
theorem cyT_3 (f : Nat → Int32) (u0 u1 u2 u3 : Nat) : cyT f 3 u0 u1 u2 u3 = atT f u0 := by
  unfold cyT
  rw [if_neg (show ¬ (3 = 0) by decide), if_neg (show ¬ (3 = 1) by decide), if_neg (show ¬ (3 = 2) by decide), if_pos rfl]
theorem cyF_3 (f : Nat → Int32) (u0 u1 u2 u3 : Nat) : cyF f 3 u0 u1 u2 u3 = atF f u0 := by
  unfold cyF
  rw [if_neg (show ¬ (3 = 0) by decide), if_neg (show ¬ (3 = 1) by decide), if_neg (show ¬ (3 = 2) by decide), if_pos rfl]
theorem cyT_4 (f : Nat → Int32) (u0 u1 u2 u3 : Nat) : cyT f 4 u0 u1 u2 u3 = cvT f u0 u1 u2 u3 := by
  unfold cyT
  rw [if_neg (show ¬ (4 = 0) by decide), if_neg (show ¬ (4 = 1) by decide), if_neg (show ¬ (4 = 2) by decide), if_neg (show ¬ (4 = 3) by decide), if_pos rfl]
theorem cyF_4 (f : Nat → Int32) (u0 u1 u2 u3 : Nat) : cyF f 4 u0 u1 u2 u3 = dmF (cvE f u0 u1 u2 u3) u1 := by
  unfold cyF
  rw [if_neg (show ¬ (4 = 0) by decide), if_neg (show ¬ (4 = 1) by decide), if_neg (show ¬ (4 = 2) by decide), if_neg (show ¬ (4 = 3) by decide), if_pos rfl]
theorem cyT_5 (f : Nat → Int32) (u0 u1 u2 u3 : Nat) : cyT f 5 u0 u1 u2 u3 = swT u0 := by
  unfold cyT
  rw [if_neg (show ¬ (5 = 0) by decide), if_neg (show ¬ (5 = 1) by decide), if_neg (show ¬ (5 = 2) by decide), if_neg (show ¬ (5 = 3) by decide), if_neg (show ¬ (5 = 4) by decide), if_pos rfl]
theorem cyF_5 (f : Nat → Int32) (u0 u1 u2 u3 : Nat) : cyF f 5 u0 u1 u2 u3 = swF f u0 1 := by
  unfold cyF
  rw [if_neg (show ¬ (5 = 0) by decide), if_neg (show ¬ (5 = 1) by decide), if_neg (show ¬ (5 = 2) by decide), if_neg (show ¬ (5 = 3) by decide), if_neg (show ¬ (5 = 4) by decide), if_pos rfl]
theorem cyT_6 (f : Nat → Int32) (u0 u1 u2 u3 : Nat) : cyT f 6 u0 u1 u2 u3 = gbT u0 := by
  unfold cyT
  rw [if_neg (show ¬ (6 = 0) by decide), if_neg (show ¬ (6 = 1) by decide), if_neg (show ¬ (6 = 2) by decide), if_neg (show ¬ (6 = 3) by decide), if_neg (show ¬ (6 = 4) by decide), if_neg (show ¬ (6 = 5) by decide), if_pos rfl]
theorem cyF_6 (f : Nat → Int32) (u0 u1 u2 u3 : Nat) : cyF f 6 u0 u1 u2 u3 = pn0 f u0 := by
  unfold cyF
  rw [if_neg (show ¬ (6 = 0) by decide), if_neg (show ¬ (6 = 1) by decide), if_neg (show ¬ (6 = 2) by decide), if_neg (show ¬ (6 = 3) by decide), if_neg (show ¬ (6 = 4) by decide), if_neg (show ¬ (6 = 5) by decide), if_pos rfl]
theorem cyT_7 (f : Nat → Int32) (u0 u1 u2 u3 : Nat) : cyT f 7 u0 u1 u2 u3 = gbT u0 := by
  unfold cyT
  rw [if_neg (show ¬ (7 = 0) by decide), if_neg (show ¬ (7 = 1) by decide), if_neg (show ¬ (7 = 2) by decide), if_neg (show ¬ (7 = 3) by decide), if_neg (show ¬ (7 = 4) by decide), if_neg (show ¬ (7 = 5) by decide), if_neg (show ¬ (7 = 6) by decide), if_pos rfl]
theorem cyF_7 (f : Nat → Int32) (u0 u1 u2 u3 : Nat) : cyF f 7 u0 u1 u2 u3 = pn1 f u0 := by
  unfold cyF
  rw [if_neg (show ¬ (7 = 0) by decide), if_neg (show ¬ (7 = 1) by decide), if_neg (show ¬ (7 = 2) by decide), if_neg (show ¬ (7 = 3) by decide), if_neg (show ¬ (7 = 4) by decide), if_neg (show ¬ (7 = 5) by decide), if_neg (show ¬ (7 = 6) by decide), if_pos rfl]
theorem cyT_8 (f : Nat → Int32) (u0 u1 u2 u3 : Nat) : cyT f 8 u0 u1 u2 u3 = 0 := by
  unfold cyT
  rw [if_neg (show ¬ (8 = 0) by decide), if_neg (show ¬ (8 = 1) by decide), if_neg (show ¬ (8 = 2) by decide), if_neg (show ¬ (8 = 3) by decide), if_neg (show ¬ (8 = 4) by decide), if_neg (show ¬ (8 = 5) by decide), if_neg (show ¬ (8 = 6) by decide), if_neg (show ¬ (8 = 7) by decide)]
theorem cyF_8 (f : Nat → Int32) (u0 u1 u2 u3 : Nat) : cyF f 8 u0 u1 u2 u3 = reF f := by
  unfold cyF
  rw [if_neg (show ¬ (8 = 0) by decide), if_neg (show ¬ (8 = 1) by decide), if_neg (show ¬ (8 = 2) by decide), if_neg (show ¬ (8 = 3) by decide), if_neg (show ¬ (8 = 4) by decide), if_neg (show ¬ (8 = 5) by decide), if_neg (show ¬ (8 = 6) by decide), if_neg (show ¬ (8 = 7) by decide)]
/-- carriesOut, whatever the word -/
theorem c_X10_carriesOut {l : Launch} {y : zY} {D : va_G} (q : Nat → Nat) (h : Nat → Nat → Int32) (u0 u1 u2 u3 : Nat) (htu : toldU h u0 u1 u2 u3) (hM : okM (h 1)) (hT : okTm (h 1)) (hSp : okSp (h 1)) : ∀ w, w < 9 → h 0 8 = nI w → zM l y D yX10_carriesOut wsX10_carriesOut 7 160 [.ref (q 0)] (zMo y q h) (zMo y q (cyG h w u0 u1 u2 u3)) (some (.int (if cyT (h 1) w u0 u1 u2 u3 = 0 then nI 1 else nI 0))) :=
  w9 (by intro hw; rw [cyG, cyT_0, cyF_0]; exact c_X10_carriesOut_0 q h u0 u1 u2 u3 htu hM hT hSp hw) (by intro hw; rw [cyG, cyT_1, cyF_1]; exact c_X10_carriesOut_1 q h u0 u1 u2 u3 htu hM hT hSp hw) (by intro hw; rw [cyG, cyT_2, cyF_2]; exact c_X10_carriesOut_2 q h u0 u1 u2 u3 htu hM hT hSp hw) (by intro hw; rw [cyG, cyT_3, cyF_3]; exact c_X10_carriesOut_3 q h u0 u1 u2 u3 htu hM hT hSp hw) (by intro hw; rw [cyG, cyT_4, cyF_4]; exact c_X10_carriesOut_4 q h u0 u1 u2 u3 htu hM hT hSp hw) (by intro hw; rw [cyG, cyT_5, cyF_5]; exact c_X10_carriesOut_5 q h u0 u1 u2 u3 htu hM hT hSp hw) (by intro hw; rw [cyG, cyT_6, cyF_6]; exact c_X10_carriesOut_6 q h u0 u1 u2 u3 htu hM hT hSp hw) (by intro hw; rw [cyG, cyT_7, cyF_7]; exact c_X10_carriesOut_7 q h u0 u1 u2 u3 htu hM hT hSp hw) (by intro hw; rw [cyG, cyT_8, cyF_8]; exact c_X10_carriesOut_8 q h u0 u1 u2 u3 htu hM hT hSp hw)

theorem iX10_order_X10 : ∀ w ∈ u_ws RX10 TX10 15, w ∈ wsX10_order := by decide +kernel
set_option maxHeartbeats 4000000 in
set_option maxRecDepth 100000 in
/-- order 0 -/
theorem c_X10_order_0 {l : Launch} {y : zY} {D : va_G} (q : Nat → Nat) (h : Nat → Nat → Int32) (n i : Nat) (hn : h 0 4 = nI n) (hn1 : n ≤ 150) (hi : h 0 5 = nI i) (hi1 : i ≤ n) (hF : h 0 6 = (-1)) : zM l y D yX10_order wsX10_order 8 181 [.ref (q 0), .int (nI 0)] (zMo y q h) (zMo y q (ogG h n i)) (some (.int (ogV h n i))) := by
  refine z_start (own := RX10) (cc := cX10_order) (maxL := 3) (ret := (some .boolean)) rfl (by decide +kernel) rfl (Nat.le_of_ble_eq_true rfl) (zMo_fst _ _ _ _) ?_
  intro E hEl hEy hED hC hf
  subst hEl hEy hED
  have hkR : 0 ≤ E.2.2.2.2.2.1.cells ∧ 0 ≤ E.2.2.2.2.2.1.slots := ⟨Nat.zero_le _, Nat.zero_le _⟩
  refine z_cast (lv := [(0, .ref (q 0)), (1, .int (nI 0))]) (ws := (zMo (zy E) q h)) (st := []) ?_ rfl rfl rfl
  refine z_aload_n hC 0 rfl dX10_order_0 ?_
  refine z_aload_n hC 0 rfl dX10_order_1 ?_
  refine z_bipush hC (nI 97) (by decide +kernel) dX10_order_2 ?_
  refine z_bipush hC (nI 122) (by decide +kernel) dX10_order_4 ?_
  refine z_wV hC (As := [.int (nI 97), .int (nI 122)]) (st := [.ref (q 0)]) (ws2 := zMo (zy E) q h) (r := some (.int (nwC (h 5) n i (nI 97) (nI 122)))) 2 (c_X10_isAt q h n i hn hn1 (by first | exact hi | rfl) (by first | assumption | omega) (nI 97) (nI 122)) gX10_order_X10_isAt (q0 := 0) (ci := 8) (by decide +kernel) rfl rfl rfl ⟨by decide, by decide⟩ (Nat.le_of_ble_eq_true rfl) rfl rfl dX10_order_6 ?_ hkR
  by_cases s_9_1 : nwC (h 5) n i (nI 97) (nI 122) = 0
  · have s9_9 := s_9_1
    refine z_wV hC (As := [.int (nwC (h 5) n i (nI 97) (nI 122))]) (st := []) (ws2 := zMo (zy E) q (va_up h 0 (upd (h 0) 6 (duV (-1) (nwC (h 5) n i (nI 97) (nI 122)) i)))) (r := some (.int (duR (-1) (nwC (h 5) n i (nI 97) (nI 122)) i))) 1 (c_X10_due q h (nwC (h 5) n i (nI 97) (nI 122)) i (by first | exact hF | rfl) (by first | exact hi | rfl)) gX10_order_X10_due (q0 := 0) (ci := 8) (by decide +kernel) rfl rfl rfl ⟨by decide, by decide⟩ (Nat.le_of_ble_eq_true rfl) rfl rfl dX10_order_9 ?_ hkR
    refine z_top (nI 0) (du_0 (i := i) (by omega) s_9_1).2 ?_
    refine z_cast (lv := [(0, .ref (q 0)), (1, .int (nI 0))]) (ws := (zMo (zy E) q (va_up h 0 (upd (h 0) 6 (nI i))))) (st := [.int (nI 0)]) ?_ rfl (by rw [(du_0 (i := i) (by omega) s_9_1).1] <;> exact mo_6 _ q h _ _) rfl
    refine z_if_ne hC 17 dX10_order_12 (by decide) (fun c_12 => ?_) (fun c_12 => ?_)
    · exact absurd c_12 (by decide +kernel)
    · refine z_iconst hC (nI 0) (by decide +kernel) dX10_order_15 ?_
      have hG := ogG_a s9_9
      exact z_zret hC hf rfl (by decide +kernel) (by rw [hG.2]) (by rw [hG.1] <;> rfl) dX10_order_16
  · have s9_9 := s_9_1
    refine z_wV hC (As := [.int (nwC (h 5) n i (nI 97) (nI 122))]) (st := []) (ws2 := zMo (zy E) q (va_up h 0 (upd (h 0) 6 (duV (-1) (nwC (h 5) n i (nI 97) (nI 122)) i)))) (r := some (.int (duR (-1) (nwC (h 5) n i (nI 97) (nI 122)) i))) 1 (c_X10_due q h (nwC (h 5) n i (nI 97) (nI 122)) i (by first | exact hF | rfl) (by first | exact hi | rfl)) gX10_order_X10_due (q0 := 0) (ci := 8) (by decide +kernel) rfl rfl rfl ⟨by decide, by decide⟩ (Nat.le_of_ble_eq_true rfl) rfl rfl dX10_order_9 ?_ hkR
    refine z_top (nI 1) (du_1 (i := i) s_9_1).2 ?_
    refine z_cast (lv := [(0, .ref (q 0)), (1, .int (nI 0))]) (ws := (zMo (zy E) q (va_up h 0 (upd (h 0) 6 (-1))))) (st := [.int (nI 1)]) ?_ rfl (by rw [(du_1 (i := i) s_9_1).1] <;> exact mo_6 _ q h _ _) rfl
    refine z_if_ne hC 17 dX10_order_12 (by decide) (fun c_12 => ?_) (fun c_12 => ?_)
    · refine z_aload_n hC 0 rfl dX10_order_17 ?_
      obtain ⟨e9, he9⟩ : ∃ e, skE (h 5) n (nI 97) (nI 122) i = e := ⟨_, rfl⟩
      have hen : e9 ≤ n := by rw [← he9]; exact (skE_le (h 5) (nI 97) (nI 122) hi1).2
      rcases woC_9 (h 5) i e9 with hW | ⟨w9, hw9, hW⟩
      · skip
        refine z_wV hC (As := []) (st := []) (ws2 := zMo (zy E) q (rwG (va_up h 0 (upd (h 0) 6 (-1))) n i)) (r := none) 0 (c_X10_readWord q (va_up h 0 (upd (h 0) 6 (-1))) n i hn hn1 hi hi1) gX10_order_X10_readWord (q0 := 0) (ci := 8) (by decide +kernel) rfl rfl rfl ⟨by decide, by decide⟩ (Nat.le_of_ble_eq_true rfl) rfl rfl dX10_order_18 ?_ hkR
        refine z_cast (lv := [(0, .ref (q 0)), (1, .int (nI 0))]) (ws := (zMo (zy E) q (va_up h 0 (upd (upd (upd (h 0) 5 (nI e9)) 8 (-1)) 6 (nI i))))) (st := []) ?_ rfl (rw_a _ q h he9 hW) rfl
        refine z_iconst hC (nI 0) (by decide +kernel) dX10_order_21 ?_
        refine z_istore_n hC (by decide) (lv' := [(2, .int (nI 0)), (0, .ref (q 0)), (1, .int (nI 0))]) rfl dX10_order_22 ?_
        refine z_aload_n hC 1 rfl dX10_order_23 ?_
        refine z_get hC 0 8 11 (v := .int ((upd (upd (upd (h 0) 5 (nI e9)) 8 (-1)) 6 (nI i)) 6)) rfl rfl iX10_order_X10 (by decide) (List.mem_of_getElem? (i := 1) (by decide +kernel)) rfl rfl dX10_order_24 ?_
        refine z_top (nI i) rfl ?_
        refine z_iconst hC ((-1)) (by decide +kernel) dX10_order_27 ?_
        refine z_icmp_ne hC 58 dX10_order_28 (by decide) (fun c_28 => ?_) (fun c_28 => ?_)
        · refine z_aload_n hC 1 rfl dX10_order_58 ?_
          refine z_get hC 0 8 11 (v := .int ((upd (upd (upd (h 0) 5 (nI e9)) 8 (-1)) 6 (nI i)) 6)) rfl rfl iX10_order_X10 (by decide) (List.mem_of_getElem? (i := 1) (by decide +kernel)) rfl rfl dX10_order_59 ?_
          refine z_top (nI i) rfl ?_
          refine z_iconst hC ((-1)) (by decide +kernel) dX10_order_62 ?_
          refine z_icmp_ne hC 83 dX10_order_63 (by decide) (fun c_63 => ?_) (fun c_63 => ?_)
          · refine z_aload_n hC 1 rfl dX10_order_83 ?_
            refine z_dup hC dX10_order_84 rfl ?_
            refine z_get hC 0 8 10 (v := .int ((upd (upd (upd (h 0) 5 (nI e9)) 8 (-1)) 6 (nI i)) 5)) rfl rfl iX10_order_X10 (by decide) (List.mem_of_getElem? (i := 4) (by decide +kernel)) rfl rfl dX10_order_85 ?_
            refine z_top (nI e9) rfl ?_
            refine z_iconst hC (nI 1) (by decide +kernel) dX10_order_88 ?_
            refine z_iadd hC dX10_order_89 ?_
            refine z_top (nI (e9 + 1)) (nI_add _ _) ?_
            refine z_put hC 0 8 10 (ws' := zMo (zy E) q (va_up h 0 (upd (upd (upd (upd (h 0) 5 (nI e9)) 8 (-1)) 6 (nI i)) 5 (nI (e9 + 1))))) tyX10 .int rfl rfl iX10_order_X10 tyX10_ok nmX10 (by decide) (List.mem_of_getElem? (i := 4) (by decide +kernel)) rfl rfl (by decide +kernel) rfl rfl (Nat.le_of_ble_eq_true rfl) rfl dX10_order_90 ?_
            refine z_aload_n hC 1 rfl dX10_order_93 ?_
            refine z_get hC 0 8 11 (v := .int ((upd (upd (upd (upd (h 0) 5 (nI e9)) 8 (-1)) 6 (nI i)) 5 (nI (e9 + 1))) 6)) rfl rfl iX10_order_X10 (by decide) (List.mem_of_getElem? (i := 1) (by decide +kernel)) rfl rfl dX10_order_94 ?_
            refine z_top (nI i) rfl ?_
            refine z_iconst hC ((-1)) (by decide +kernel) dX10_order_97 ?_
            refine z_icmp_ne hC 116 dX10_order_98 (by decide) (fun c_98 => ?_) (fun c_98 => ?_)
            · refine z_iconst hC (nI 0) (by decide +kernel) dX10_order_116 ?_
              have hG := ogG_b s9_9 he9 hW
              exact z_zret hC hf rfl (by decide +kernel) (by rw [hG.2]) (by rw [hG.1] <;> rfl) dX10_order_117
            · exact absurd c_98 (nI_n1 (by omega))
          · exact absurd c_63 (nI_n1 (by omega))
        · exact absurd c_28 (nI_n1 (by omega))
      · have hnb := nb_4 w9 hw9
        refine z_wV hC (As := []) (st := []) (ws2 := zMo (zy E) q (rwG (va_up h 0 (upd (h 0) 6 (-1))) n i)) (r := none) 0 (c_X10_readWord q (va_up h 0 (upd (h 0) 6 (-1))) n i hn hn1 hi hi1) gX10_order_X10_readWord (q0 := 0) (ci := 8) (by decide +kernel) rfl rfl rfl ⟨by decide, by decide⟩ (Nat.le_of_ble_eq_true rfl) rfl rfl dX10_order_18 ?_ hkR
        refine z_cast (lv := [(0, .ref (q 0)), (1, .int (nI 0))]) (ws := (zMo (zy E) q (va_up h 0 (upd (upd (upd (h 0) 5 (nI e9)) 8 (nI w9)) 6 (-1))))) (st := []) ?_ rfl (rw_b _ q h he9 hw9 hW) rfl
        refine z_iconst hC (nI 0) (by decide +kernel) dX10_order_21 ?_
        refine z_istore_n hC (by decide) (lv' := [(2, .int (nI 0)), (0, .ref (q 0)), (1, .int (nI 0))]) rfl dX10_order_22 ?_
        have lp_23 : ∀ (d_23 k : Nat) (p9 : Nat) (N9 : Nat → Int32) (F9 : Int32), (nbN w9) < k + d_23 → k ≤ (nbN w9) → (mmS (h 5) n (nbN w9) k p9 N9 F9 = mmS (h 5) n (nbN w9) 0 e9 (h 6) (-1)) → (p9 ≤ n) → Z E 0 0 [(0, .ref (q 0)), (1, .int (nI 0)), (2, .int (nI k))] (zMo (zy E) q (va_up (va_up h 0 (upd (upd (upd (h 0) 5 (nI p9)) 8 (nI w9)) 6 F9)) 6 N9)) 23 [] := by
          intro d_23
          induction d_23 with
          | zero => intro k p9 N9 F9 q1 q2; omega
          | succ d_23 ih_23 =>
            intro k p9 N9 F9 q1_23 q2_23 hp hpn
            refine z_aload_n hC 0 rfl dX10_order_23 ?_
            refine z_get hC 0 8 11 (v := .int ((upd (upd (upd (h 0) 5 (nI p9)) 8 (nI w9)) 6 F9) 6)) rfl rfl iX10_order_X10 (by decide) (List.mem_of_getElem? (i := 1) (by decide +kernel)) rfl rfl dX10_order_24 ?_
            refine z_top F9 rfl ?_
            refine z_iconst hC ((-1)) (by decide +kernel) dX10_order_27 ?_
            refine z_icmp_ne hC 58 dX10_order_28 (by decide) (fun c_28 => ?_) (fun c_28 => ?_)
            · have hMM := mm_out hp c_28
              refine z_aload_n hC 0 rfl dX10_order_58 ?_
              refine z_get hC 0 8 11 (v := .int ((upd (upd (upd (h 0) 5 (nI p9)) 8 (nI w9)) 6 F9) 6)) rfl rfl iX10_order_X10 (by decide) (List.mem_of_getElem? (i := 1) (by decide +kernel)) rfl rfl dX10_order_59 ?_
              refine z_top F9 rfl ?_
              refine z_iconst hC ((-1)) (by decide +kernel) dX10_order_62 ?_
              refine z_icmp_ne hC 83 dX10_order_63 (by decide) (fun c_63 => ?_) (fun c_63 => ?_)
              · refine z_aload_n hC 0 rfl dX10_order_83 ?_
                refine z_dup hC dX10_order_84 rfl ?_
                refine z_get hC 0 8 10 (v := .int ((upd (upd (upd (h 0) 5 (nI p9)) 8 (nI w9)) 6 F9) 5)) rfl rfl iX10_order_X10 (by decide) (List.mem_of_getElem? (i := 4) (by decide +kernel)) rfl rfl dX10_order_85 ?_
                refine z_top (nI p9) rfl ?_
                refine z_iconst hC (nI 1) (by decide +kernel) dX10_order_88 ?_
                refine z_iadd hC dX10_order_89 ?_
                refine z_top (nI (p9 + 1)) (nI_add _ _) ?_
                refine z_put hC 0 8 10 (ws' := zMo (zy E) q (va_up (va_up h 0 (upd (upd (upd (upd (h 0) 5 (nI p9)) 8 (nI w9)) 6 F9) 5 (nI (p9 + 1)))) 6 N9)) tyX10 .int rfl rfl iX10_order_X10 tyX10_ok nmX10 (by decide) (List.mem_of_getElem? (i := 4) (by decide +kernel)) rfl rfl (by decide +kernel) rfl rfl (Nat.le_of_ble_eq_true rfl) rfl dX10_order_90 ?_
                refine z_aload_n hC 0 rfl dX10_order_93 ?_
                refine z_get hC 0 8 11 (v := .int ((upd (upd (upd (upd (h 0) 5 (nI p9)) 8 (nI w9)) 6 F9) 5 (nI (p9 + 1))) 6)) rfl rfl iX10_order_X10 (by decide) (List.mem_of_getElem? (i := 1) (by decide +kernel)) rfl rfl dX10_order_94 ?_
                refine z_top F9 rfl ?_
                refine z_iconst hC ((-1)) (by decide +kernel) dX10_order_97 ?_
                refine z_icmp_ne hC 116 dX10_order_98 (by decide) (fun c_98 => ?_) (fun c_98 => ?_)
                · refine z_iconst hC (nI 0) (by decide +kernel) dX10_order_116 ?_
                  have hG := ogG_c s9_9 he9 hw9 hW (og_f hMM c_28)
                  rw [if_neg c_28] at hG
                  exact z_zret hC hf rfl (by decide +kernel) (by rw [hG.2]) (by rw [hG.1] <;> rfl) dX10_order_117
                · exact absurd c_98 c_28
              · exact absurd c_63 c_28
            · obtain rfl : F9 = (-1) := c_28
              refine z_iload_n hC 2 rfl dX10_order_31 ?_
              refine z_aload_n hC 0 rfl dX10_order_32 ?_
              refine z_get hC 0 8 13 (v := .int ((upd (upd (upd (h 0) 5 (nI p9)) 8 (nI w9)) 6 (-1)) 8)) rfl rfl iX10_order_X10 (by decide) (List.mem_of_getElem? (i := 2) (by decide +kernel)) rfl rfl dX10_order_33 ?_
              refine z_top (nI w9) rfl ?_
              refine z_callS hC (As := [.int (nI w9)]) (st := [.int (nI k)]) (ws2 := zMo (zy E) q (va_up (va_up h 0 (upd (upd (upd (h 0) 5 (nI p9)) 8 (nI w9)) 6 (-1))) 6 N9)) (B := []) (B' := []) (r := some (.int (nI (nbN w9)))) 1 (c_X10_numbersOf w9 hw9) gX10_order_X10_numbersOf (by decide +kernel) rfl ⟨by decide, by decide⟩ [] rfl (by decide) rfl (Nat.le_of_ble_eq_true rfl) rfl rfl dX10_order_36 ?_ hkR
              refine z_icmp_ge hC 58 dX10_order_39 (by decide) (fun c_39 => ?_) (fun c_39 => ?_)
              · have k_39 : (nbN w9) ≤ k := (nI_leI (by omega) (by omega)).mp c_39
                have hMM := mm_end hp k_39
                refine z_aload_n hC 0 rfl dX10_order_58 ?_
                refine z_get hC 0 8 11 (v := .int ((upd (upd (upd (h 0) 5 (nI p9)) 8 (nI w9)) 6 (-1)) 6)) rfl rfl iX10_order_X10 (by decide) (List.mem_of_getElem? (i := 1) (by decide +kernel)) rfl rfl dX10_order_59 ?_
                refine z_top (-1) rfl ?_
                refine z_iconst hC ((-1)) (by decide +kernel) dX10_order_62 ?_
                refine z_icmp_ne hC 83 dX10_order_63 (by decide) (fun c_63 => ?_) (fun c_63 => ?_)
                · exact absurd rfl c_63
                · refine z_aload_n hC 0 rfl dX10_order_66 ?_
                  refine z_wV hC (As := []) (st := []) (ws2 := zMo (zy E) q (va_up (va_up h 0 (upd (upd (upd (upd (h 0) 5 (nI p9)) 8 (nI w9)) 6 (-1)) 5 (nI (skE (h 5) n (nI 32) (nI 32) p9)))) 6 N9)) (r := none) 0 (c_X10_passSpaces q (va_up (va_up h 0 (upd (upd (upd (h 0) 5 (nI p9)) 8 (nI w9)) 6 (-1))) 6 N9) n p9 hn hn1 (by first | exact hi | rfl) (by first | assumption | omega)) gX10_order_X10_passSpaces (q0 := 0) (ci := 8) (by decide +kernel) rfl rfl rfl ⟨by decide, by decide⟩ (Nat.le_of_ble_eq_true rfl) rfl rfl dX10_order_67 ?_ hkR
                  have hsn := (skE_le (h 5) (nI 32) (nI 32) hpn).2
                  generalize hs9 : skE (h 5) n (nI 32) (nI 32) p9 = s9 at hsn ⊢
                  refine z_aload_n hC 0 rfl dX10_order_70 ?_
                  refine z_aload_n hC 0 rfl dX10_order_71 ?_
                  refine z_bipush hC (nI 59) (by decide +kernel) dX10_order_72 ?_
                  refine z_bipush hC (nI 59) (by decide +kernel) dX10_order_74 ?_
                  refine z_wV hC (As := [.int (nI 59), .int (nI 59)]) (st := [.ref (q 0)]) (ws2 := zMo (zy E) q (va_up (va_up h 0 (upd (upd (upd (upd (h 0) 5 (nI p9)) 8 (nI w9)) 6 (-1)) 5 (nI (s9)))) 6 N9)) (r := some (.int (nwC (h 5) n s9 (nI 59) (nI 59)))) 2 (c_X10_isAt q (va_up (va_up h 0 (upd (upd (upd (upd (h 0) 5 (nI p9)) 8 (nI w9)) 6 (-1)) 5 (nI (s9)))) 6 N9) n s9 hn hn1 (by first | exact hi | rfl) (by first | assumption | omega) (nI 59) (nI 59)) gX10_order_X10_isAt (q0 := 0) (ci := 8) (by decide +kernel) rfl rfl rfl ⟨by decide, by decide⟩ (Nat.le_of_ble_eq_true rfl) rfl rfl dX10_order_76 ?_ hkR
                  by_cases s_79_10 : nwC (h 5) n s9 (nI 59) (nI 59) = 0
                  · have s9_79 := s_79_10
                    refine z_wV hC (As := [.int (nwC (h 5) n s9 (nI 59) (nI 59))]) (st := []) (ws2 := zMo (zy E) q (va_up (va_up (va_up h 0 (upd (upd (upd (upd (h 0) 5 (nI p9)) 8 (nI w9)) 6 (-1)) 5 (nI (s9)))) 6 N9) 0 (upd ((va_up (va_up h 0 (upd (upd (upd (upd (h 0) 5 (nI p9)) 8 (nI w9)) 6 (-1)) 5 (nI (s9)))) 6 N9) 0) 6 (duV (-1) (nwC (h 5) n s9 (nI 59) (nI 59)) s9)))) (r := some (.int (duR (-1) (nwC (h 5) n s9 (nI 59) (nI 59)) s9))) 1 (c_X10_due q (va_up (va_up h 0 (upd (upd (upd (upd (h 0) 5 (nI p9)) 8 (nI w9)) 6 (-1)) 5 (nI (s9)))) 6 N9) (nwC (h 5) n s9 (nI 59) (nI 59)) s9 (by first | exact hF | rfl) (by first | exact hi | rfl)) gX10_order_X10_due (q0 := 0) (ci := 8) (by decide +kernel) rfl rfl rfl ⟨by decide, by decide⟩ (Nat.le_of_ble_eq_true rfl) rfl rfl dX10_order_79 ?_ hkR
                    refine z_top (nI 0) (du_0 (i := s9) (by omega) s_79_10).2 ?_
                    refine z_cast (lv := [(0, .ref (q 0)), (1, .int (nI 0)), (2, .int (nI k))]) (ws := (zMo (zy E) q (va_up (va_up h 0 (upd (upd (upd (upd (upd (h 0) 5 (nI p9)) 8 (nI w9)) 6 (-1)) 5 (nI (s9))) 6 (nI s9))) 6 N9))) (st := [.int (nI 0)]) ?_ rfl (by rw [(du_0 (i := s9) (by omega) s_79_10).1] <;> exact mo_66 _ q h _ N9 _) rfl
                    refine z_istore_n hC (by decide) (lv' := [(2, .int (nI 0)), (0, .ref (q 0)), (1, .int (nI 0))]) rfl dX10_order_82 ?_
                    refine z_aload_n hC 1 rfl dX10_order_83 ?_
                    refine z_dup hC dX10_order_84 rfl ?_
                    refine z_get hC 0 8 10 (v := .int ((upd (upd (upd (upd (upd (h 0) 5 (nI p9)) 8 (nI w9)) 6 (-1)) 5 (nI (s9))) 6 (nI s9)) 5)) rfl rfl iX10_order_X10 (by decide) (List.mem_of_getElem? (i := 4) (by decide +kernel)) rfl rfl dX10_order_85 ?_
                    refine z_top (nI s9) rfl ?_
                    refine z_iconst hC (nI 1) (by decide +kernel) dX10_order_88 ?_
                    refine z_iadd hC dX10_order_89 ?_
                    refine z_top (nI (s9 + 1)) (nI_add _ _) ?_
                    refine z_put hC 0 8 10 (ws' := zMo (zy E) q (va_up (va_up h 0 (upd (upd (upd (upd (upd (upd (h 0) 5 (nI p9)) 8 (nI w9)) 6 (-1)) 5 (nI (s9))) 6 (nI s9)) 5 (nI (s9 + 1)))) 6 N9)) tyX10 .int rfl rfl iX10_order_X10 tyX10_ok nmX10 (by decide) (List.mem_of_getElem? (i := 4) (by decide +kernel)) rfl rfl (by decide +kernel) rfl rfl (Nat.le_of_ble_eq_true rfl) rfl dX10_order_90 ?_
                    refine z_aload_n hC 1 rfl dX10_order_93 ?_
                    refine z_get hC 0 8 11 (v := .int ((upd (upd (upd (upd (upd (upd (h 0) 5 (nI p9)) 8 (nI w9)) 6 (-1)) 5 (nI (s9))) 6 (nI s9)) 5 (nI (s9 + 1))) 6)) rfl rfl iX10_order_X10 (by decide) (List.mem_of_getElem? (i := 1) (by decide +kernel)) rfl rfl dX10_order_94 ?_
                    refine z_top (nI s9) rfl ?_
                    refine z_iconst hC ((-1)) (by decide +kernel) dX10_order_97 ?_
                    refine z_icmp_ne hC 116 dX10_order_98 (by decide) (fun c_98 => ?_) (fun c_98 => ?_)
                    · refine z_iconst hC (nI 0) (by decide +kernel) dX10_order_116 ?_
                      have hG := ogG_c s9_9 he9 hw9 hW (og_0 hMM hs9 s9_79)
                      rw [if_neg (nI_n1 (by omega))] at hG
                      exact z_zret hC hf rfl (by decide +kernel) (by rw [hG.2]) (by rw [hG.1] <;> rfl) dX10_order_117
                    · exact absurd c_98 (nI_n1 (by omega))
                  · have s9_79 := s_79_10
                    refine z_wV hC (As := [.int (nwC (h 5) n s9 (nI 59) (nI 59))]) (st := []) (ws2 := zMo (zy E) q (va_up (va_up (va_up h 0 (upd (upd (upd (upd (h 0) 5 (nI p9)) 8 (nI w9)) 6 (-1)) 5 (nI (s9)))) 6 N9) 0 (upd ((va_up (va_up h 0 (upd (upd (upd (upd (h 0) 5 (nI p9)) 8 (nI w9)) 6 (-1)) 5 (nI (s9)))) 6 N9) 0) 6 (duV (-1) (nwC (h 5) n s9 (nI 59) (nI 59)) s9)))) (r := some (.int (duR (-1) (nwC (h 5) n s9 (nI 59) (nI 59)) s9))) 1 (c_X10_due q (va_up (va_up h 0 (upd (upd (upd (upd (h 0) 5 (nI p9)) 8 (nI w9)) 6 (-1)) 5 (nI (s9)))) 6 N9) (nwC (h 5) n s9 (nI 59) (nI 59)) s9 (by first | exact hF | rfl) (by first | exact hi | rfl)) gX10_order_X10_due (q0 := 0) (ci := 8) (by decide +kernel) rfl rfl rfl ⟨by decide, by decide⟩ (Nat.le_of_ble_eq_true rfl) rfl rfl dX10_order_79 ?_ hkR
                    refine z_top (nI 1) (du_1 (i := s9) s_79_10).2 ?_
                    refine z_cast (lv := [(0, .ref (q 0)), (1, .int (nI 0)), (2, .int (nI k))]) (ws := (zMo (zy E) q (va_up (va_up h 0 (upd (upd (upd (upd (upd (h 0) 5 (nI p9)) 8 (nI w9)) 6 (-1)) 5 (nI (s9))) 6 (-1))) 6 N9))) (st := [.int (nI 1)]) ?_ rfl (by rw [(du_1 (i := s9) s_79_10).1] <;> exact mo_66 _ q h _ N9 _) rfl
                    refine z_istore_n hC (by decide) (lv' := [(2, .int (nI 1)), (0, .ref (q 0)), (1, .int (nI 0))]) rfl dX10_order_82 ?_
                    refine z_aload_n hC 1 rfl dX10_order_83 ?_
                    refine z_dup hC dX10_order_84 rfl ?_
                    refine z_get hC 0 8 10 (v := .int ((upd (upd (upd (upd (upd (h 0) 5 (nI p9)) 8 (nI w9)) 6 (-1)) 5 (nI (s9))) 6 (-1)) 5)) rfl rfl iX10_order_X10 (by decide) (List.mem_of_getElem? (i := 4) (by decide +kernel)) rfl rfl dX10_order_85 ?_
                    refine z_top (nI s9) rfl ?_
                    refine z_iconst hC (nI 1) (by decide +kernel) dX10_order_88 ?_
                    refine z_iadd hC dX10_order_89 ?_
                    refine z_top (nI (s9 + 1)) (nI_add _ _) ?_
                    refine z_put hC 0 8 10 (ws' := zMo (zy E) q (va_up (va_up h 0 (upd (upd (upd (upd (upd (upd (h 0) 5 (nI p9)) 8 (nI w9)) 6 (-1)) 5 (nI (s9))) 6 (-1)) 5 (nI (s9 + 1)))) 6 N9)) tyX10 .int rfl rfl iX10_order_X10 tyX10_ok nmX10 (by decide) (List.mem_of_getElem? (i := 4) (by decide +kernel)) rfl rfl (by decide +kernel) rfl rfl (Nat.le_of_ble_eq_true rfl) rfl dX10_order_90 ?_
                    refine z_aload_n hC 1 rfl dX10_order_93 ?_
                    refine z_get hC 0 8 11 (v := .int ((upd (upd (upd (upd (upd (upd (h 0) 5 (nI p9)) 8 (nI w9)) 6 (-1)) 5 (nI (s9))) 6 (-1)) 5 (nI (s9 + 1))) 6)) rfl rfl iX10_order_X10 (by decide) (List.mem_of_getElem? (i := 1) (by decide +kernel)) rfl rfl dX10_order_94 ?_
                    refine z_top (-1) rfl ?_
                    refine z_iconst hC ((-1)) (by decide +kernel) dX10_order_97 ?_
                    refine z_icmp_ne hC 116 dX10_order_98 (by decide) (fun c_98 => ?_) (fun c_98 => ?_)
                    · exact absurd rfl c_98
                    · refine z_iload_n hC 2 rfl dX10_order_101 ?_
                      refine z_if_eq hC 112 dX10_order_102 (by decide) (fun c_102 => ?_) (fun c_102 => ?_)
                      · refine z_iconst hC (nI 1) (by decide +kernel) dX10_order_112 ?_
                        refine z_goto hC 117 dX10_order_113 (by decide) ?_
                        have hG := ogG_c s9_9 he9 hw9 hW (og_1 hMM hs9 s9_79)
                        rw [if_pos rfl] at hG
                        exact z_zret hC hf rfl (by decide +kernel) (by rw [hG.2]) (by rw [hG.1] <;> rfl) dX10_order_117
                      · exact absurd c_102 (by decide +kernel)
              · have k_39 : ¬ ((nbN w9) ≤ k) := fun q => c_39 ((nI_leI (by omega) (by omega)).mpr q)
                refine z_aload_n hC 0 rfl dX10_order_42 ?_
                refine z_get hC 0 8 14 (v := .ref (q 6)) rfl rfl iX10_order_X10 (by decide) (List.mem_of_getElem? (i := 3) (by decide +kernel)) rfl rfl dX10_order_43 ?_
                refine z_iload_n hC 2 rfl dX10_order_46 ?_
                refine z_aload_n hC 0 rfl dX10_order_47 ?_
                refine z_wV hC (As := []) (st := [.int (nI k), .ref (q 6)]) (ws2 := zMo (zy E) q (rmG (va_up (va_up h 0 (upd (upd (upd (h 0) 5 (nI p9)) 8 (nI w9)) 6 (-1))) 6 N9) n p9)) (r := some (.int ((rm9 (h 5) n p9).1))) 0 (c_X10_readNumber q (va_up (va_up h 0 (upd (upd (upd (h 0) 5 (nI p9)) 8 (nI w9)) 6 (-1))) 6 N9) n p9 hn hn1 rfl hpn rfl) gX10_order_X10_readNumber (q0 := 0) (ci := 8) (by decide +kernel) rfl rfl rfl ⟨by decide, by decide⟩ (Nat.le_of_ble_eq_true rfl) rfl rfl dX10_order_48 ?_ hkR
                have hr8 := rm_le (h 5) hpn
                obtain ⟨r9, hr9⟩ : ∃ r, rm9 (h 5) n p9 = r := ⟨_, rfl⟩
                rw [hr9] at hr8
                refine z_top r9.1 (by rw [hr9]) ?_
                refine z_cast (lv := [(0, .ref (q 0)), (1, .int (nI 0)), (2, .int (nI k))]) (ws := (zMo (zy E) q (va_up (va_up h 0 (upd (upd (upd (upd (upd (h 0) 5 (nI p9)) 8 (nI w9)) 6 (-1)) 5 (nI r9.2.1)) 6 r9.2.2)) 6 N9))) (st := [.int r9.1, .int (nI k), .ref (q 6)]) ?_ rfl (rm_a _ q h _ N9 hr9) rfl
                refine z_iast hC 6 k r9.1 (ws' := zMo (zy E) q (va_up (va_up h 0 (upd (upd (upd (upd (upd (h 0) 5 (nI p9)) 8 (nI w9)) 6 (-1)) 5 (nI r9.2.1)) 6 r9.2.2)) 6 (upd N9 k r9.1))) rfl rfl rfl rfl (by omega) (by decide) rfl dX10_order_51 ?_
                refine z_iinc hC 2 (nI (k + 1)) rfl z_i1 (by decide) (lv' := [(2, .int (nI (k + 1))), (0, .ref (q 0)), (1, .int (nI 0))]) rfl dX10_order_52 ?_
                refine z_goto hC 23 dX10_order_55 (by decide) ?_
                refine z_sub [1, 2, 0] (lv' := [(0, .ref (q 0)), (1, .int (nI 0)), (2, .int (nI (k + 1)))]) rfl ?_
                exact z_cast (ih_23 (k + 1) r9.2.1 (upd N9 k r9.1) r9.2.2 (by omega) (by omega) (mm_step hr9 hp (Nat.not_le.mp k_39)) hr8) rfl rfl rfl
        refine z_sub [1, 2, 0] (lv' := [(0, .ref (q 0)), (1, .int (nI 0)), (2, .int (nI 0))]) rfl ?_
        exact z_cast (lp_23 ((nbN w9) + 1) 0 e9 (h 6) (-1) (by omega) (by omega) rfl hen) rfl rfl rfl
    · exact absurd c_12 (by decide +kernel)

set_option maxHeartbeats 4000000 in
set_option maxRecDepth 100000 in
/-- order 1 -/
theorem c_X10_order_1 {l : Launch} {y : zY} {D : va_G} (q : Nat → Nat) (h : Nat → Nat → Int32) (n i : Nat) (hn : h 0 4 = nI n) (hn1 : n ≤ 150) (hi : h 0 5 = nI i) (hi1 : i ≤ n) (hF : h 0 6 = (-1)) (hM : okM (h 1)) (hT : okTm (h 1)) (hSp : okSp (h 1)) : zM l y D yX10_order wsX10_order 8 181 [.ref (q 0), .int (nI 1)] (zMo y q h) (zMo y q (ogX h n i)) (some (.int (ogY h n i))) := by
  refine z_start (own := RX10) (cc := cX10_order) (maxL := 3) (ret := (some .boolean)) rfl (by decide +kernel) rfl (Nat.le_of_ble_eq_true rfl) (zMo_fst _ _ _ _) ?_
  intro E hEl hEy hED hC hf
  subst hEl hEy hED
  have hkR : 0 ≤ E.2.2.2.2.2.1.cells ∧ 0 ≤ E.2.2.2.2.2.1.slots := ⟨Nat.zero_le _, Nat.zero_le _⟩
  refine z_cast (lv := [(0, .ref (q 0)), (1, .int (nI 1))]) (ws := (zMo (zy E) q h)) (st := []) ?_ rfl rfl rfl
  refine z_aload_n hC 0 rfl dX10_order_0 ?_
  refine z_aload_n hC 0 rfl dX10_order_1 ?_
  refine z_bipush hC (nI 97) (by decide +kernel) dX10_order_2 ?_
  refine z_bipush hC (nI 122) (by decide +kernel) dX10_order_4 ?_
  refine z_wV hC (As := [.int (nI 97), .int (nI 122)]) (st := [.ref (q 0)]) (ws2 := zMo (zy E) q h) (r := some (.int (nwC (h 5) n i (nI 97) (nI 122)))) 2 (c_X10_isAt q h n i hn hn1 (by first | exact hi | rfl) (by first | assumption | omega) (nI 97) (nI 122)) gX10_order_X10_isAt (q0 := 0) (ci := 8) (by decide +kernel) rfl rfl rfl ⟨by decide, by decide⟩ (Nat.le_of_ble_eq_true rfl) rfl rfl dX10_order_6 ?_ hkR
  by_cases s_9_1 : nwC (h 5) n i (nI 97) (nI 122) = 0
  · have s9_9 := s_9_1
    refine z_wV hC (As := [.int (nwC (h 5) n i (nI 97) (nI 122))]) (st := []) (ws2 := zMo (zy E) q (va_up h 0 (upd (h 0) 6 (duV (-1) (nwC (h 5) n i (nI 97) (nI 122)) i)))) (r := some (.int (duR (-1) (nwC (h 5) n i (nI 97) (nI 122)) i))) 1 (c_X10_due q h (nwC (h 5) n i (nI 97) (nI 122)) i (by first | exact hF | rfl) (by first | exact hi | rfl)) gX10_order_X10_due (q0 := 0) (ci := 8) (by decide +kernel) rfl rfl rfl ⟨by decide, by decide⟩ (Nat.le_of_ble_eq_true rfl) rfl rfl dX10_order_9 ?_ hkR
    refine z_top (nI 0) (du_0 (i := i) (by omega) s_9_1).2 ?_
    refine z_cast (lv := [(0, .ref (q 0)), (1, .int (nI 1))]) (ws := (zMo (zy E) q (va_up h 0 (upd (h 0) 6 (nI i))))) (st := [.int (nI 0)]) ?_ rfl (by rw [(du_0 (i := i) (by omega) s_9_1).1] <;> exact mo_6 _ q h _ _) rfl
    refine z_if_ne hC 17 dX10_order_12 (by decide) (fun c_12 => ?_) (fun c_12 => ?_)
    · exact absurd c_12 (by decide +kernel)
    · refine z_iconst hC (nI 0) (by decide +kernel) dX10_order_15 ?_
      have hG := ogG_a s9_9
      have hz0 : ogV h n i = 0 := hG.2
      exact z_zret hC hf rfl (by decide +kernel) (by rw [ogY, if_pos hz0]) (by rw [ogX, if_pos hz0, hG.1] <;> rfl) dX10_order_16
  · have s9_9 := s_9_1
    refine z_wV hC (As := [.int (nwC (h 5) n i (nI 97) (nI 122))]) (st := []) (ws2 := zMo (zy E) q (va_up h 0 (upd (h 0) 6 (duV (-1) (nwC (h 5) n i (nI 97) (nI 122)) i)))) (r := some (.int (duR (-1) (nwC (h 5) n i (nI 97) (nI 122)) i))) 1 (c_X10_due q h (nwC (h 5) n i (nI 97) (nI 122)) i (by first | exact hF | rfl) (by first | exact hi | rfl)) gX10_order_X10_due (q0 := 0) (ci := 8) (by decide +kernel) rfl rfl rfl ⟨by decide, by decide⟩ (Nat.le_of_ble_eq_true rfl) rfl rfl dX10_order_9 ?_ hkR
    refine z_top (nI 1) (du_1 (i := i) s_9_1).2 ?_
    refine z_cast (lv := [(0, .ref (q 0)), (1, .int (nI 1))]) (ws := (zMo (zy E) q (va_up h 0 (upd (h 0) 6 (-1))))) (st := [.int (nI 1)]) ?_ rfl (by rw [(du_1 (i := i) s_9_1).1] <;> exact mo_6 _ q h _ _) rfl
    refine z_if_ne hC 17 dX10_order_12 (by decide) (fun c_12 => ?_) (fun c_12 => ?_)
    · refine z_aload_n hC 0 rfl dX10_order_17 ?_
      obtain ⟨e9, he9⟩ : ∃ e, skE (h 5) n (nI 97) (nI 122) i = e := ⟨_, rfl⟩
      have hen : e9 ≤ n := by rw [← he9]; exact (skE_le (h 5) (nI 97) (nI 122) hi1).2
      rcases woC_9 (h 5) i e9 with hW | ⟨w9, hw9, hW⟩
      · skip
        refine z_wV hC (As := []) (st := []) (ws2 := zMo (zy E) q (rwG (va_up h 0 (upd (h 0) 6 (-1))) n i)) (r := none) 0 (c_X10_readWord q (va_up h 0 (upd (h 0) 6 (-1))) n i hn hn1 hi hi1) gX10_order_X10_readWord (q0 := 0) (ci := 8) (by decide +kernel) rfl rfl rfl ⟨by decide, by decide⟩ (Nat.le_of_ble_eq_true rfl) rfl rfl dX10_order_18 ?_ hkR
        refine z_cast (lv := [(0, .ref (q 0)), (1, .int (nI 1))]) (ws := (zMo (zy E) q (va_up h 0 (upd (upd (upd (h 0) 5 (nI e9)) 8 (-1)) 6 (nI i))))) (st := []) ?_ rfl (rw_a _ q h he9 hW) rfl
        refine z_iconst hC (nI 0) (by decide +kernel) dX10_order_21 ?_
        refine z_istore_n hC (by decide) (lv' := [(2, .int (nI 0)), (0, .ref (q 0)), (1, .int (nI 1))]) rfl dX10_order_22 ?_
        refine z_aload_n hC 1 rfl dX10_order_23 ?_
        refine z_get hC 0 8 11 (v := .int ((upd (upd (upd (h 0) 5 (nI e9)) 8 (-1)) 6 (nI i)) 6)) rfl rfl iX10_order_X10 (by decide) (List.mem_of_getElem? (i := 1) (by decide +kernel)) rfl rfl dX10_order_24 ?_
        refine z_top (nI i) rfl ?_
        refine z_iconst hC ((-1)) (by decide +kernel) dX10_order_27 ?_
        refine z_icmp_ne hC 58 dX10_order_28 (by decide) (fun c_28 => ?_) (fun c_28 => ?_)
        · refine z_aload_n hC 1 rfl dX10_order_58 ?_
          refine z_get hC 0 8 11 (v := .int ((upd (upd (upd (h 0) 5 (nI e9)) 8 (-1)) 6 (nI i)) 6)) rfl rfl iX10_order_X10 (by decide) (List.mem_of_getElem? (i := 1) (by decide +kernel)) rfl rfl dX10_order_59 ?_
          refine z_top (nI i) rfl ?_
          refine z_iconst hC ((-1)) (by decide +kernel) dX10_order_62 ?_
          refine z_icmp_ne hC 83 dX10_order_63 (by decide) (fun c_63 => ?_) (fun c_63 => ?_)
          · refine z_aload_n hC 1 rfl dX10_order_83 ?_
            refine z_dup hC dX10_order_84 rfl ?_
            refine z_get hC 0 8 10 (v := .int ((upd (upd (upd (h 0) 5 (nI e9)) 8 (-1)) 6 (nI i)) 5)) rfl rfl iX10_order_X10 (by decide) (List.mem_of_getElem? (i := 4) (by decide +kernel)) rfl rfl dX10_order_85 ?_
            refine z_top (nI e9) rfl ?_
            refine z_iconst hC (nI 1) (by decide +kernel) dX10_order_88 ?_
            refine z_iadd hC dX10_order_89 ?_
            refine z_top (nI (e9 + 1)) (nI_add _ _) ?_
            refine z_put hC 0 8 10 (ws' := zMo (zy E) q (va_up h 0 (upd (upd (upd (upd (h 0) 5 (nI e9)) 8 (-1)) 6 (nI i)) 5 (nI (e9 + 1))))) tyX10 .int rfl rfl iX10_order_X10 tyX10_ok nmX10 (by decide) (List.mem_of_getElem? (i := 4) (by decide +kernel)) rfl rfl (by decide +kernel) rfl rfl (Nat.le_of_ble_eq_true rfl) rfl dX10_order_90 ?_
            refine z_aload_n hC 1 rfl dX10_order_93 ?_
            refine z_get hC 0 8 11 (v := .int ((upd (upd (upd (upd (h 0) 5 (nI e9)) 8 (-1)) 6 (nI i)) 5 (nI (e9 + 1))) 6)) rfl rfl iX10_order_X10 (by decide) (List.mem_of_getElem? (i := 1) (by decide +kernel)) rfl rfl dX10_order_94 ?_
            refine z_top (nI i) rfl ?_
            refine z_iconst hC ((-1)) (by decide +kernel) dX10_order_97 ?_
            refine z_icmp_ne hC 116 dX10_order_98 (by decide) (fun c_98 => ?_) (fun c_98 => ?_)
            · refine z_iconst hC (nI 0) (by decide +kernel) dX10_order_116 ?_
              have hG := ogG_b s9_9 he9 hW
              have hz0 : ogV h n i = 0 := hG.2
              exact z_zret hC hf rfl (by decide +kernel) (by rw [ogY, if_pos hz0]) (by rw [ogX, if_pos hz0, hG.1] <;> rfl) dX10_order_117
            · exact absurd c_98 (nI_n1 (by omega))
          · exact absurd c_63 (nI_n1 (by omega))
        · exact absurd c_28 (nI_n1 (by omega))
      · have hnb := nb_4 w9 hw9
        refine z_wV hC (As := []) (st := []) (ws2 := zMo (zy E) q (rwG (va_up h 0 (upd (h 0) 6 (-1))) n i)) (r := none) 0 (c_X10_readWord q (va_up h 0 (upd (h 0) 6 (-1))) n i hn hn1 hi hi1) gX10_order_X10_readWord (q0 := 0) (ci := 8) (by decide +kernel) rfl rfl rfl ⟨by decide, by decide⟩ (Nat.le_of_ble_eq_true rfl) rfl rfl dX10_order_18 ?_ hkR
        refine z_cast (lv := [(0, .ref (q 0)), (1, .int (nI 1))]) (ws := (zMo (zy E) q (va_up h 0 (upd (upd (upd (h 0) 5 (nI e9)) 8 (nI w9)) 6 (-1))))) (st := []) ?_ rfl (rw_b _ q h he9 hw9 hW) rfl
        refine z_iconst hC (nI 0) (by decide +kernel) dX10_order_21 ?_
        refine z_istore_n hC (by decide) (lv' := [(2, .int (nI 0)), (0, .ref (q 0)), (1, .int (nI 1))]) rfl dX10_order_22 ?_
        have lp_23 : ∀ (d_23 k : Nat) (p9 : Nat) (N9 : Nat → Int32) (F9 : Int32), (nbN w9) < k + d_23 → k ≤ (nbN w9) → (mmS (h 5) n (nbN w9) k p9 N9 F9 = mmS (h 5) n (nbN w9) 0 e9 (h 6) (-1)) → (p9 ≤ n) → Z E 0 0 [(0, .ref (q 0)), (1, .int (nI 1)), (2, .int (nI k))] (zMo (zy E) q (va_up (va_up h 0 (upd (upd (upd (h 0) 5 (nI p9)) 8 (nI w9)) 6 F9)) 6 N9)) 23 [] := by
          intro d_23
          induction d_23 with
          | zero => intro k p9 N9 F9 q1 q2; omega
          | succ d_23 ih_23 =>
            intro k p9 N9 F9 q1_23 q2_23 hp hpn
            refine z_aload_n hC 0 rfl dX10_order_23 ?_
            refine z_get hC 0 8 11 (v := .int ((upd (upd (upd (h 0) 5 (nI p9)) 8 (nI w9)) 6 F9) 6)) rfl rfl iX10_order_X10 (by decide) (List.mem_of_getElem? (i := 1) (by decide +kernel)) rfl rfl dX10_order_24 ?_
            refine z_top F9 rfl ?_
            refine z_iconst hC ((-1)) (by decide +kernel) dX10_order_27 ?_
            refine z_icmp_ne hC 58 dX10_order_28 (by decide) (fun c_28 => ?_) (fun c_28 => ?_)
            · have hMM := mm_out hp c_28
              refine z_aload_n hC 0 rfl dX10_order_58 ?_
              refine z_get hC 0 8 11 (v := .int ((upd (upd (upd (h 0) 5 (nI p9)) 8 (nI w9)) 6 F9) 6)) rfl rfl iX10_order_X10 (by decide) (List.mem_of_getElem? (i := 1) (by decide +kernel)) rfl rfl dX10_order_59 ?_
              refine z_top F9 rfl ?_
              refine z_iconst hC ((-1)) (by decide +kernel) dX10_order_62 ?_
              refine z_icmp_ne hC 83 dX10_order_63 (by decide) (fun c_63 => ?_) (fun c_63 => ?_)
              · refine z_aload_n hC 0 rfl dX10_order_83 ?_
                refine z_dup hC dX10_order_84 rfl ?_
                refine z_get hC 0 8 10 (v := .int ((upd (upd (upd (h 0) 5 (nI p9)) 8 (nI w9)) 6 F9) 5)) rfl rfl iX10_order_X10 (by decide) (List.mem_of_getElem? (i := 4) (by decide +kernel)) rfl rfl dX10_order_85 ?_
                refine z_top (nI p9) rfl ?_
                refine z_iconst hC (nI 1) (by decide +kernel) dX10_order_88 ?_
                refine z_iadd hC dX10_order_89 ?_
                refine z_top (nI (p9 + 1)) (nI_add _ _) ?_
                refine z_put hC 0 8 10 (ws' := zMo (zy E) q (va_up (va_up h 0 (upd (upd (upd (upd (h 0) 5 (nI p9)) 8 (nI w9)) 6 F9) 5 (nI (p9 + 1)))) 6 N9)) tyX10 .int rfl rfl iX10_order_X10 tyX10_ok nmX10 (by decide) (List.mem_of_getElem? (i := 4) (by decide +kernel)) rfl rfl (by decide +kernel) rfl rfl (Nat.le_of_ble_eq_true rfl) rfl dX10_order_90 ?_
                refine z_aload_n hC 0 rfl dX10_order_93 ?_
                refine z_get hC 0 8 11 (v := .int ((upd (upd (upd (upd (h 0) 5 (nI p9)) 8 (nI w9)) 6 F9) 5 (nI (p9 + 1))) 6)) rfl rfl iX10_order_X10 (by decide) (List.mem_of_getElem? (i := 1) (by decide +kernel)) rfl rfl dX10_order_94 ?_
                refine z_top F9 rfl ?_
                refine z_iconst hC ((-1)) (by decide +kernel) dX10_order_97 ?_
                refine z_icmp_ne hC 116 dX10_order_98 (by decide) (fun c_98 => ?_) (fun c_98 => ?_)
                · refine z_iconst hC (nI 0) (by decide +kernel) dX10_order_116 ?_
                  have hG := ogG_c s9_9 he9 hw9 hW (og_f hMM c_28)
                  rw [if_neg c_28] at hG
                  have hz0 : ogV h n i = 0 := hG.2
                  exact z_zret hC hf rfl (by decide +kernel) (by rw [ogY, if_pos hz0]) (by rw [ogX, if_pos hz0, hG.1] <;> rfl) dX10_order_117
                · exact absurd c_98 c_28
              · exact absurd c_63 c_28
            · obtain rfl : F9 = (-1) := c_28
              refine z_iload_n hC 2 rfl dX10_order_31 ?_
              refine z_aload_n hC 0 rfl dX10_order_32 ?_
              refine z_get hC 0 8 13 (v := .int ((upd (upd (upd (h 0) 5 (nI p9)) 8 (nI w9)) 6 (-1)) 8)) rfl rfl iX10_order_X10 (by decide) (List.mem_of_getElem? (i := 2) (by decide +kernel)) rfl rfl dX10_order_33 ?_
              refine z_top (nI w9) rfl ?_
              refine z_callS hC (As := [.int (nI w9)]) (st := [.int (nI k)]) (ws2 := zMo (zy E) q (va_up (va_up h 0 (upd (upd (upd (h 0) 5 (nI p9)) 8 (nI w9)) 6 (-1))) 6 N9)) (B := []) (B' := []) (r := some (.int (nI (nbN w9)))) 1 (c_X10_numbersOf w9 hw9) gX10_order_X10_numbersOf (by decide +kernel) rfl ⟨by decide, by decide⟩ [] rfl (by decide) rfl (Nat.le_of_ble_eq_true rfl) rfl rfl dX10_order_36 ?_ hkR
              refine z_icmp_ge hC 58 dX10_order_39 (by decide) (fun c_39 => ?_) (fun c_39 => ?_)
              · have k_39 : (nbN w9) ≤ k := (nI_leI (by omega) (by omega)).mp c_39
                have hMM := mm_end hp k_39
                refine z_aload_n hC 0 rfl dX10_order_58 ?_
                refine z_get hC 0 8 11 (v := .int ((upd (upd (upd (h 0) 5 (nI p9)) 8 (nI w9)) 6 (-1)) 6)) rfl rfl iX10_order_X10 (by decide) (List.mem_of_getElem? (i := 1) (by decide +kernel)) rfl rfl dX10_order_59 ?_
                refine z_top (-1) rfl ?_
                refine z_iconst hC ((-1)) (by decide +kernel) dX10_order_62 ?_
                refine z_icmp_ne hC 83 dX10_order_63 (by decide) (fun c_63 => ?_) (fun c_63 => ?_)
                · exact absurd rfl c_63
                · refine z_aload_n hC 0 rfl dX10_order_66 ?_
                  refine z_wV hC (As := []) (st := []) (ws2 := zMo (zy E) q (va_up (va_up h 0 (upd (upd (upd (upd (h 0) 5 (nI p9)) 8 (nI w9)) 6 (-1)) 5 (nI (skE (h 5) n (nI 32) (nI 32) p9)))) 6 N9)) (r := none) 0 (c_X10_passSpaces q (va_up (va_up h 0 (upd (upd (upd (h 0) 5 (nI p9)) 8 (nI w9)) 6 (-1))) 6 N9) n p9 hn hn1 (by first | exact hi | rfl) (by first | assumption | omega)) gX10_order_X10_passSpaces (q0 := 0) (ci := 8) (by decide +kernel) rfl rfl rfl ⟨by decide, by decide⟩ (Nat.le_of_ble_eq_true rfl) rfl rfl dX10_order_67 ?_ hkR
                  have hsn := (skE_le (h 5) (nI 32) (nI 32) hpn).2
                  generalize hs9 : skE (h 5) n (nI 32) (nI 32) p9 = s9 at hsn ⊢
                  refine z_aload_n hC 0 rfl dX10_order_70 ?_
                  refine z_aload_n hC 0 rfl dX10_order_71 ?_
                  refine z_bipush hC (nI 59) (by decide +kernel) dX10_order_72 ?_
                  refine z_bipush hC (nI 59) (by decide +kernel) dX10_order_74 ?_
                  refine z_wV hC (As := [.int (nI 59), .int (nI 59)]) (st := [.ref (q 0)]) (ws2 := zMo (zy E) q (va_up (va_up h 0 (upd (upd (upd (upd (h 0) 5 (nI p9)) 8 (nI w9)) 6 (-1)) 5 (nI (s9)))) 6 N9)) (r := some (.int (nwC (h 5) n s9 (nI 59) (nI 59)))) 2 (c_X10_isAt q (va_up (va_up h 0 (upd (upd (upd (upd (h 0) 5 (nI p9)) 8 (nI w9)) 6 (-1)) 5 (nI (s9)))) 6 N9) n s9 hn hn1 (by first | exact hi | rfl) (by first | assumption | omega) (nI 59) (nI 59)) gX10_order_X10_isAt (q0 := 0) (ci := 8) (by decide +kernel) rfl rfl rfl ⟨by decide, by decide⟩ (Nat.le_of_ble_eq_true rfl) rfl rfl dX10_order_76 ?_ hkR
                  by_cases s_79_10 : nwC (h 5) n s9 (nI 59) (nI 59) = 0
                  · have s9_79 := s_79_10
                    refine z_wV hC (As := [.int (nwC (h 5) n s9 (nI 59) (nI 59))]) (st := []) (ws2 := zMo (zy E) q (va_up (va_up (va_up h 0 (upd (upd (upd (upd (h 0) 5 (nI p9)) 8 (nI w9)) 6 (-1)) 5 (nI (s9)))) 6 N9) 0 (upd ((va_up (va_up h 0 (upd (upd (upd (upd (h 0) 5 (nI p9)) 8 (nI w9)) 6 (-1)) 5 (nI (s9)))) 6 N9) 0) 6 (duV (-1) (nwC (h 5) n s9 (nI 59) (nI 59)) s9)))) (r := some (.int (duR (-1) (nwC (h 5) n s9 (nI 59) (nI 59)) s9))) 1 (c_X10_due q (va_up (va_up h 0 (upd (upd (upd (upd (h 0) 5 (nI p9)) 8 (nI w9)) 6 (-1)) 5 (nI (s9)))) 6 N9) (nwC (h 5) n s9 (nI 59) (nI 59)) s9 (by first | exact hF | rfl) (by first | exact hi | rfl)) gX10_order_X10_due (q0 := 0) (ci := 8) (by decide +kernel) rfl rfl rfl ⟨by decide, by decide⟩ (Nat.le_of_ble_eq_true rfl) rfl rfl dX10_order_79 ?_ hkR
                    refine z_top (nI 0) (du_0 (i := s9) (by omega) s_79_10).2 ?_
                    refine z_cast (lv := [(0, .ref (q 0)), (1, .int (nI 1)), (2, .int (nI k))]) (ws := (zMo (zy E) q (va_up (va_up h 0 (upd (upd (upd (upd (upd (h 0) 5 (nI p9)) 8 (nI w9)) 6 (-1)) 5 (nI (s9))) 6 (nI s9))) 6 N9))) (st := [.int (nI 0)]) ?_ rfl (by rw [(du_0 (i := s9) (by omega) s_79_10).1] <;> exact mo_66 _ q h _ N9 _) rfl
                    refine z_istore_n hC (by decide) (lv' := [(2, .int (nI 0)), (0, .ref (q 0)), (1, .int (nI 1))]) rfl dX10_order_82 ?_
                    refine z_aload_n hC 1 rfl dX10_order_83 ?_
                    refine z_dup hC dX10_order_84 rfl ?_
                    refine z_get hC 0 8 10 (v := .int ((upd (upd (upd (upd (upd (h 0) 5 (nI p9)) 8 (nI w9)) 6 (-1)) 5 (nI (s9))) 6 (nI s9)) 5)) rfl rfl iX10_order_X10 (by decide) (List.mem_of_getElem? (i := 4) (by decide +kernel)) rfl rfl dX10_order_85 ?_
                    refine z_top (nI s9) rfl ?_
                    refine z_iconst hC (nI 1) (by decide +kernel) dX10_order_88 ?_
                    refine z_iadd hC dX10_order_89 ?_
                    refine z_top (nI (s9 + 1)) (nI_add _ _) ?_
                    refine z_put hC 0 8 10 (ws' := zMo (zy E) q (va_up (va_up h 0 (upd (upd (upd (upd (upd (upd (h 0) 5 (nI p9)) 8 (nI w9)) 6 (-1)) 5 (nI (s9))) 6 (nI s9)) 5 (nI (s9 + 1)))) 6 N9)) tyX10 .int rfl rfl iX10_order_X10 tyX10_ok nmX10 (by decide) (List.mem_of_getElem? (i := 4) (by decide +kernel)) rfl rfl (by decide +kernel) rfl rfl (Nat.le_of_ble_eq_true rfl) rfl dX10_order_90 ?_
                    refine z_aload_n hC 1 rfl dX10_order_93 ?_
                    refine z_get hC 0 8 11 (v := .int ((upd (upd (upd (upd (upd (upd (h 0) 5 (nI p9)) 8 (nI w9)) 6 (-1)) 5 (nI (s9))) 6 (nI s9)) 5 (nI (s9 + 1))) 6)) rfl rfl iX10_order_X10 (by decide) (List.mem_of_getElem? (i := 1) (by decide +kernel)) rfl rfl dX10_order_94 ?_
                    refine z_top (nI s9) rfl ?_
                    refine z_iconst hC ((-1)) (by decide +kernel) dX10_order_97 ?_
                    refine z_icmp_ne hC 116 dX10_order_98 (by decide) (fun c_98 => ?_) (fun c_98 => ?_)
                    · refine z_iconst hC (nI 0) (by decide +kernel) dX10_order_116 ?_
                      have hG := ogG_c s9_9 he9 hw9 hW (og_0 hMM hs9 s9_79)
                      rw [if_neg (nI_n1 (by omega))] at hG
                      have hz0 : ogV h n i = 0 := hG.2
                      exact z_zret hC hf rfl (by decide +kernel) (by rw [ogY, if_pos hz0]) (by rw [ogX, if_pos hz0, hG.1] <;> rfl) dX10_order_117
                    · exact absurd c_98 (nI_n1 (by omega))
                  · have s9_79 := s_79_10
                    refine z_wV hC (As := [.int (nwC (h 5) n s9 (nI 59) (nI 59))]) (st := []) (ws2 := zMo (zy E) q (va_up (va_up (va_up h 0 (upd (upd (upd (upd (h 0) 5 (nI p9)) 8 (nI w9)) 6 (-1)) 5 (nI (s9)))) 6 N9) 0 (upd ((va_up (va_up h 0 (upd (upd (upd (upd (h 0) 5 (nI p9)) 8 (nI w9)) 6 (-1)) 5 (nI (s9)))) 6 N9) 0) 6 (duV (-1) (nwC (h 5) n s9 (nI 59) (nI 59)) s9)))) (r := some (.int (duR (-1) (nwC (h 5) n s9 (nI 59) (nI 59)) s9))) 1 (c_X10_due q (va_up (va_up h 0 (upd (upd (upd (upd (h 0) 5 (nI p9)) 8 (nI w9)) 6 (-1)) 5 (nI (s9)))) 6 N9) (nwC (h 5) n s9 (nI 59) (nI 59)) s9 (by first | exact hF | rfl) (by first | exact hi | rfl)) gX10_order_X10_due (q0 := 0) (ci := 8) (by decide +kernel) rfl rfl rfl ⟨by decide, by decide⟩ (Nat.le_of_ble_eq_true rfl) rfl rfl dX10_order_79 ?_ hkR
                    refine z_top (nI 1) (du_1 (i := s9) s_79_10).2 ?_
                    refine z_cast (lv := [(0, .ref (q 0)), (1, .int (nI 1)), (2, .int (nI k))]) (ws := (zMo (zy E) q (va_up (va_up h 0 (upd (upd (upd (upd (upd (h 0) 5 (nI p9)) 8 (nI w9)) 6 (-1)) 5 (nI (s9))) 6 (-1))) 6 N9))) (st := [.int (nI 1)]) ?_ rfl (by rw [(du_1 (i := s9) s_79_10).1] <;> exact mo_66 _ q h _ N9 _) rfl
                    refine z_istore_n hC (by decide) (lv' := [(2, .int (nI 1)), (0, .ref (q 0)), (1, .int (nI 1))]) rfl dX10_order_82 ?_
                    refine z_aload_n hC 1 rfl dX10_order_83 ?_
                    refine z_dup hC dX10_order_84 rfl ?_
                    refine z_get hC 0 8 10 (v := .int ((upd (upd (upd (upd (upd (h 0) 5 (nI p9)) 8 (nI w9)) 6 (-1)) 5 (nI (s9))) 6 (-1)) 5)) rfl rfl iX10_order_X10 (by decide) (List.mem_of_getElem? (i := 4) (by decide +kernel)) rfl rfl dX10_order_85 ?_
                    refine z_top (nI s9) rfl ?_
                    refine z_iconst hC (nI 1) (by decide +kernel) dX10_order_88 ?_
                    refine z_iadd hC dX10_order_89 ?_
                    refine z_top (nI (s9 + 1)) (nI_add _ _) ?_
                    refine z_put hC 0 8 10 (ws' := zMo (zy E) q (va_up (va_up h 0 (upd (upd (upd (upd (upd (upd (h 0) 5 (nI p9)) 8 (nI w9)) 6 (-1)) 5 (nI (s9))) 6 (-1)) 5 (nI (s9 + 1)))) 6 N9)) tyX10 .int rfl rfl iX10_order_X10 tyX10_ok nmX10 (by decide) (List.mem_of_getElem? (i := 4) (by decide +kernel)) rfl rfl (by decide +kernel) rfl rfl (Nat.le_of_ble_eq_true rfl) rfl dX10_order_90 ?_
                    refine z_aload_n hC 1 rfl dX10_order_93 ?_
                    refine z_get hC 0 8 11 (v := .int ((upd (upd (upd (upd (upd (upd (h 0) 5 (nI p9)) 8 (nI w9)) 6 (-1)) 5 (nI (s9))) 6 (-1)) 5 (nI (s9 + 1))) 6)) rfl rfl iX10_order_X10 (by decide) (List.mem_of_getElem? (i := 1) (by decide +kernel)) rfl rfl dX10_order_94 ?_
                    refine z_top (-1) rfl ?_
                    refine z_iconst hC ((-1)) (by decide +kernel) dX10_order_97 ?_
                    refine z_icmp_ne hC 116 dX10_order_98 (by decide) (fun c_98 => ?_) (fun c_98 => ?_)
                    · exact absurd rfl c_98
                    · refine z_iload_n hC 2 rfl dX10_order_101 ?_
                      refine z_if_eq hC 112 dX10_order_102 (by decide) (fun c_102 => ?_) (fun c_102 => ?_)
                      · exact absurd c_102 (by decide +kernel)
                      · refine z_aload_n hC 1 rfl dX10_order_105 ?_
                        · refine z_cast (lv := [(2, .int (nI 1)), (0, .ref (q 0)), (1, .int (nI 1))]) (ws := (zMo (zy E) q (roQ h w9 (s9 + 1, N9, (-1))))) (st := [.ref (q 0)]) ?_ rfl (roQ_z _ q h w9 s9 p9 (-1) (-1) N9) rfl
                          refine z_wV hC (As := []) (st := []) (ws2 := zMo (zy E) q (cyU (roQ h w9 (s9 + 1, N9, (-1))) w9)) (r := some (.int (cyV (roQ h w9 (s9 + 1, N9, (-1))) w9))) 0 (c_X10_carriesOut q (roQ h w9 (s9 + 1, N9, (-1))) _ _ _ _ (told_un _) hM hT hSp w9 hw9 rfl) gX10_order_X10_carriesOut (q0 := 0) (ci := 8) (by decide +kernel) rfl rfl rfl ⟨by decide, by decide⟩ (Nat.le_of_ble_eq_true rfl) rfl rfl dX10_order_106 ?_ hkR
                          refine z_if_eq hC 116 dX10_order_109 (by decide) (fun c_109 => ?_) (fun c_109 => ?_)
                          · refine z_iconst hC (nI 0) (by decide +kernel) dX10_order_116 ?_
                            have hG := ogG_c s9_9 he9 hw9 hW (og_1 hMM hs9 s9_79)
                            rw [if_pos rfl] at hG
                            have hz0 : ¬ ogV h n i = 0 := by rw [hG.2]; decide +kernel
                            have hq := wq_e he9 hw9 hW
                            have hcv : cyV (roQ h w9 (s9 + 1, N9, (-1))) w9 = nI 0 := cv_0 c_109
                            exact z_zret hC hf rfl (by decide +kernel) (by rw [ogY, if_neg hz0, hG.1, hq, hcv]) (by rw [ogX, if_neg hz0, hG.1, hq]) dX10_order_117
                          · refine z_iconst hC (nI 1) (by decide +kernel) dX10_order_112 ?_
                            refine z_goto hC 117 dX10_order_113 (by decide) ?_
                            have hG := ogG_c s9_9 he9 hw9 hW (og_1 hMM hs9 s9_79)
                            rw [if_pos rfl] at hG
                            have hz0 : ¬ ogV h n i = 0 := by rw [hG.2]; decide +kernel
                            have hq := wq_e he9 hw9 hW
                            have hcv : cyV (roQ h w9 (s9 + 1, N9, (-1))) w9 = nI 1 := cv_1 c_109
                            exact z_zret hC hf rfl (by decide +kernel) (by rw [ogY, if_neg hz0, hG.1, hq, hcv]) (by rw [ogX, if_neg hz0, hG.1, hq]) dX10_order_117
              · have k_39 : ¬ ((nbN w9) ≤ k) := fun q => c_39 ((nI_leI (by omega) (by omega)).mpr q)
                refine z_aload_n hC 0 rfl dX10_order_42 ?_
                refine z_get hC 0 8 14 (v := .ref (q 6)) rfl rfl iX10_order_X10 (by decide) (List.mem_of_getElem? (i := 3) (by decide +kernel)) rfl rfl dX10_order_43 ?_
                refine z_iload_n hC 2 rfl dX10_order_46 ?_
                refine z_aload_n hC 0 rfl dX10_order_47 ?_
                refine z_wV hC (As := []) (st := [.int (nI k), .ref (q 6)]) (ws2 := zMo (zy E) q (rmG (va_up (va_up h 0 (upd (upd (upd (h 0) 5 (nI p9)) 8 (nI w9)) 6 (-1))) 6 N9) n p9)) (r := some (.int ((rm9 (h 5) n p9).1))) 0 (c_X10_readNumber q (va_up (va_up h 0 (upd (upd (upd (h 0) 5 (nI p9)) 8 (nI w9)) 6 (-1))) 6 N9) n p9 hn hn1 rfl hpn rfl) gX10_order_X10_readNumber (q0 := 0) (ci := 8) (by decide +kernel) rfl rfl rfl ⟨by decide, by decide⟩ (Nat.le_of_ble_eq_true rfl) rfl rfl dX10_order_48 ?_ hkR
                have hr8 := rm_le (h 5) hpn
                obtain ⟨r9, hr9⟩ : ∃ r, rm9 (h 5) n p9 = r := ⟨_, rfl⟩
                rw [hr9] at hr8
                refine z_top r9.1 (by rw [hr9]) ?_
                refine z_cast (lv := [(0, .ref (q 0)), (1, .int (nI 1)), (2, .int (nI k))]) (ws := (zMo (zy E) q (va_up (va_up h 0 (upd (upd (upd (upd (upd (h 0) 5 (nI p9)) 8 (nI w9)) 6 (-1)) 5 (nI r9.2.1)) 6 r9.2.2)) 6 N9))) (st := [.int r9.1, .int (nI k), .ref (q 6)]) ?_ rfl (rm_a _ q h _ N9 hr9) rfl
                refine z_iast hC 6 k r9.1 (ws' := zMo (zy E) q (va_up (va_up h 0 (upd (upd (upd (upd (upd (h 0) 5 (nI p9)) 8 (nI w9)) 6 (-1)) 5 (nI r9.2.1)) 6 r9.2.2)) 6 (upd N9 k r9.1))) rfl rfl rfl rfl (by omega) (by decide) rfl dX10_order_51 ?_
                refine z_iinc hC 2 (nI (k + 1)) rfl z_i1 (by decide) (lv' := [(2, .int (nI (k + 1))), (0, .ref (q 0)), (1, .int (nI 1))]) rfl dX10_order_52 ?_
                refine z_goto hC 23 dX10_order_55 (by decide) ?_
                refine z_sub [1, 2, 0] (lv' := [(0, .ref (q 0)), (1, .int (nI 1)), (2, .int (nI (k + 1)))]) rfl ?_
                exact z_cast (ih_23 (k + 1) r9.2.1 (upd N9 k r9.1) r9.2.2 (by omega) (by omega) (mm_step hr9 hp (Nat.not_le.mp k_39)) hr8) rfl rfl rfl
        refine z_sub [1, 2, 0] (lv' := [(0, .ref (q 0)), (1, .int (nI 1)), (2, .int (nI 0))]) rfl ?_
        exact z_cast (lp_23 ((nbN w9) + 1) 0 e9 (h 6) (-1) (by omega) (by omega) rfl hen) rfl rfl rfl
    · exact absurd c_12 (by decide +kernel)
