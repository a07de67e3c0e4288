def zCo (y : zY) (q : Nat → Nat) (c : Nat → Nat → Int32) : va_W := [(q 0, .inr (1, [.int (c 0 0), .int (c 0 1), .int (c 0 2), .ref (q 1), .ref (q 2)])), (q 1, .inl (y.1 1, 8, .inl (c 1))), (q 2, .inl (y.1 0, 64, .inl (c 2)))]
def zWv (y : zY) (x : Int32) : Value := if x.toNatClampNeg < 9 then .ref (y.2 x.toNatClampNeg) else .null
def zOt (y : zY) (q : Nat → Nat) (o : Nat → Nat → Int32) : va_W := [(q 0, .inr (2, [.int (o 0 0), zWv y (o 0 1), .ref (q 1), .int (o 0 2), .int (o 0 3), .ref (q 2)])), (q 1, .inl (y.1 0, 4, .inl (o 1))), (q 2, .inl (y.1 2, 150, .inl (o 2)))]
def zRo (q : Nat → Nat) : va_W := [(q 0, .inr (7, [.ref (q 1), .ref (q 31), .ref (q 28), .ref (q 25), .ref (q 17)]))]
def zCW (y : zY) (q : Nat → Nat) (a : Nat → Nat → Nat) (g t c o n : Nat → Nat → Int32) (S : Nat → Nat → Nat → Int32) : va_W := zRo q ++ (zSa y (fun i => q (1 + i)) g ++ (zSt y (fun i => q (17 + i)) t ++ (zCo y (fun i => q (25 + i)) c ++ (zOt y (fun i => q (28 + i)) o ++ zUs y (fun i => q (31 + i)) a n S))))
theorem zSa_fst (y : zY) (q : Nat → Nat) (g g' : Nat → Nat → Int32) : (zSa y q g').map Prod.fst = (zSa y q g).map Prod.fst := rfl
theorem zSt_fst (y : zY) (q : Nat → Nat) (g g' : Nat → Nat → Int32) : (zSt y q g').map Prod.fst = (zSt y q g).map Prod.fst := rfl
theorem zCo_fst (y : zY) (q : Nat → Nat) (g g' : Nat → Nat → Int32) : (zCo y q g').map Prod.fst = (zCo y q g).map Prod.fst := rfl
theorem zOt_fst (y : zY) (q : Nat → Nat) (g g' : Nat → Nat → Int32) : (zOt y q g').map Prod.fst = (zOt y q g).map Prod.fst := rfl
theorem zUs_fst (y : zY) (q : Nat → Nat) (a : Nat → Nat → Nat) (n n' : Nat → Nat → Int32) (S S' : Nat → Nat → Nat → Int32) : (zUs y q a n' S').map Prod.fst = (zUs y q a n S).map Prod.fst := by
  unfold zUs
  simp only [List.map_append, List.map_cons, List.map_nil]
  rw [zSa_fst y (a 0) (S 0) (S' 0), zSa_fst y (a 1) (S 1) (S' 1), zSa_fst y (a 2) (S 2) (S' 2), zSa_fst y (a 3) (S 3) (S' 3)]
theorem zCW_fst (y : zY) (q : Nat → Nat) (a : Nat → Nat → Nat) (g t c o n g' t' c' o' n' : Nat → Nat → Int32) (S S' : Nat → Nat → Nat → Int32) : (zCW y q a g' t' c' o' n' S').map Prod.fst = (zCW y q a g t c o n S).map Prod.fst := by
  unfold zCW
  simp only [List.map_append]
  rw [zSa_fst y (fun i => q (1 + i)) g g', zSt_fst y (fun i => q (17 + i)) t t', zCo_fst y (fun i => q (25 + i)) c c', zOt_fst y (fun i => q (28 + i)) o o', zUs_fst y (fun i => q (31 + i)) a n n' S S']
section
variable {l : Launch} {y : zY} {D : va_G} {nm : MethodName} {T : List Cond} {fr lo : Nat} {as : List Value} {r : Option Value} {q : Nat → Nat} {a : Nat → Nat → Nat} {g t c o n g' t' c' o' n' : Nat → Nat → Int32} {S S' : Nat → Nat → Nat → Int32}
theorem l_now (h : zM l y D nm T fr lo as (zSa y (fun i => q (1 + i)) g) (zSa y (fun i => q (1 + i)) g') r) : zM l y D nm T fr lo as (zCW y q a g t c o n S) (zCW y q a g' t c o n S) r := z_mid (zRo q) _ h
theorem l_nst (h : zM l y D nm T fr lo as (zSt y (fun i => q (3 + i)) g) (zSt y (fun i => q (3 + i)) g) r) : zM l y D nm T fr lo as (zCW y q a g t c o n S) (zCW y q a g t c o n S) r :=
  zM_cast rfl rfl (z_mid (B := zSt y (fun i => q (3 + i)) g) (B' := zSt y (fun i => q (3 + i)) g) (zRo q ++ [(q 1, .inr (4, [.int (g 0 0), .int (g 0 1), .int (g 0 2), .int (g 0 3), .int (g 0 4), .int (g 0 5), .ref (q 2), .ref (q 3), .ref (q 11), .ref (q 15)])), (q 2, .inl (y.1 0, 3, .inl (g 1)))]) ((zTo y (fun i => q (11 + i)) g ++ zBa y (fun i => q (15 + i)) g) ++ (zSt y (fun i => q (17 + i)) t ++ (zCo y (fun i => q (25 + i)) c ++ (zOt y (fun i => q (28 + i)) o ++ zUs y (fun i => q (31 + i)) a n S)))) h)
theorem l_nto (h : zM l y D nm T fr lo as (zTo y (fun i => q (11 + i)) g) (zTo y (fun i => q (11 + i)) g') r) (hS : zSa y (fun i => q (1 + i)) g' = [(q 1, .inr (4, [.int (g 0 0), .int (g 0 1), .int (g 0 2), .int (g 0 3), .int (g 0 4), .int (g 0 5), .ref (q 2), .ref (q 3), .ref (q 11), .ref (q 15)])), (q 2, .inl (y.1 0, 3, .inl (g 1)))] ++ (zSt y (fun i => q (3 + i)) g ++ (zTo y (fun i => q (11 + i)) g' ++ zBa y (fun i => q (15 + i)) g))) : zM l y D nm T fr lo as (zCW y q a g t c o n S) (zCW y q a g' t c o n S) r := by
  have h2 := z_mid (B := zTo y (fun i => q (11 + i)) g) (B' := zTo y (fun i => q (11 + i)) g') (zRo q ++ ([(q 1, .inr (4, [.int (g 0 0), .int (g 0 1), .int (g 0 2), .int (g 0 3), .int (g 0 4), .int (g 0 5), .ref (q 2), .ref (q 3), .ref (q 11), .ref (q 15)])), (q 2, .inl (y.1 0, 3, .inl (g 1)))] ++ zSt y (fun i => q (3 + i)) g)) (zBa y (fun i => q (15 + i)) g ++ (zSt y (fun i => q (17 + i)) t ++ (zCo y (fun i => q (25 + i)) c ++ (zOt y (fun i => q (28 + i)) o ++ zUs y (fun i => q (31 + i)) a n S)))) h
  refine zM_cast rfl ?_ h2
  unfold zCW
  rw [hS]
  rfl
theorem l_nba (h : zM l y D nm T fr lo as (zBa y (fun i => q (15 + i)) g) (zBa y (fun i => q (15 + i)) g') r) (hS : zSa y (fun i => q (1 + i)) g' = [(q 1, .inr (4, [.int (g 0 0), .int (g 0 1), .int (g 0 2), .int (g 0 3), .int (g 0 4), .int (g 0 5), .ref (q 2), .ref (q 3), .ref (q 11), .ref (q 15)])), (q 2, .inl (y.1 0, 3, .inl (g 1)))] ++ (zSt y (fun i => q (3 + i)) g ++ (zTo y (fun i => q (11 + i)) g ++ zBa y (fun i => q (15 + i)) g'))) : zM l y D nm T fr lo as (zCW y q a g t c o n S) (zCW y q a g' t c o n S) r := by
  have h2 := z_mid (B := zBa y (fun i => q (15 + i)) g) (B' := zBa y (fun i => q (15 + i)) g') (zRo q ++ ([(q 1, .inr (4, [.int (g 0 0), .int (g 0 1), .int (g 0 2), .int (g 0 3), .int (g 0 4), .int (g 0 5), .ref (q 2), .ref (q 3), .ref (q 11), .ref (q 15)])), (q 2, .inl (y.1 0, 3, .inl (g 1)))] ++ (zSt y (fun i => q (3 + i)) g ++ zTo y (fun i => q (11 + i)) g))) (zSt y (fun i => q (17 + i)) t ++ (zCo y (fun i => q (25 + i)) c ++ (zOt y (fun i => q (28 + i)) o ++ zUs y (fun i => q (31 + i)) a n S))) h
  refine zM_cast rfl ?_ h2
  unfold zCW
  rw [hS]
  rfl
theorem l_tri (h : zM l y D nm T fr lo as (zSt y (fun i => q (17 + i)) t) (zSt y (fun i => q (17 + i)) t') r) : zM l y D nm T fr lo as (zCW y q a g t c o n S) (zCW y q a g t' c o n S) r :=
  zM_cast (by simp only [zCW, List.append_assoc]) (by simp only [zCW, List.append_assoc]) (z_mid (zRo q ++ zSa y (fun i => q (1 + i)) g) (zCo y (fun i => q (25 + i)) c ++ (zOt y (fun i => q (28 + i)) o ++ zUs y (fun i => q (31 + i)) a n S)) h)
theorem l_cnt (h : zM l y D nm T fr lo as (zSa y (fun i => q (1 + i)) g ++ zCo y (fun i => q (25 + i)) c) (zSa y (fun i => q (1 + i)) g ++ zCo y (fun i => q (25 + i)) c') r) : zM l y D nm T fr lo as (zCW y q a g t c o n S) (zCW y q a g t c' o n S) r := z_two (B1 := zSa y (fun i => q (1 + i)) g) (B2 := zCo y (fun i => q (25 + i)) c) (B1' := zSa y (fun i => q (1 + i)) g) (B2' := zCo y (fun i => q (25 + i)) c') (zRo q) (zSt y (fun i => q (17 + i)) t) (zOt y (fun i => q (28 + i)) o ++ zUs y (fun i => q (31 + i)) a n S) rfl rfl h
theorem l_cno (h : zM l y D nm T fr lo as (zCo y (fun i => q (25 + i)) c) (zCo y (fun i => q (25 + i)) c') r) : zM l y D nm T fr lo as (zCW y q a g t c o n S) (zCW y q a g t c' o n S) r :=
  zM_cast (by simp only [zCW, List.append_assoc]) (by simp only [zCW, List.append_assoc]) (z_mid (zRo q ++ (zSa y (fun i => q (1 + i)) g ++ zSt y (fun i => q (17 + i)) t)) (zOt y (fun i => q (28 + i)) o ++ zUs y (fun i => q (31 + i)) a n S) h)
/-- the undo stack and now -/
theorem l_und (h : zM l y D nm T fr lo as (zUs y (fun i => q (31 + i)) a n S ++ zSa y (fun i => q (1 + i)) g) (zUs y (fun i => q (31 + i)) a n' S' ++ zSa y (fun i => q (1 + i)) g') r) : zM l y D nm T fr lo as (zCW y q a g t c o n S) (zCW y q a g' t c o n' S') r :=
  zM_cast (by simp only [zCW, List.append_assoc, List.append_nil]) (by simp only [zCW, List.append_assoc, List.append_nil]) (z_owt (B1 := zSa y (fun i => q (1 + i)) g) (B2 := zUs y (fun i => q (31 + i)) a n S) (B1' := zSa y (fun i => q (1 + i)) g') (B2' := zUs y (fun i => q (31 + i)) a n' S') (zRo q) (zSt y (fun i => q (17 + i)) t ++ (zCo y (fun i => q (25 + i)) c ++ zOt y (fun i => q (28 + i)) o)) [] rfl rfl h)
/-- the trial stacks, out of those that stand -/
theorem l_cpt (h : zM l y D nm T fr lo as (zSt y (fun i => q (17 + i)) t ++ zSt y (fun i => q (3 + i)) g) (zSt y (fun i => q (17 + i)) t' ++ zSt y (fun i => q (3 + i)) g) r) : zM l y D nm T fr lo as (zCW y q a g t c o n S) (zCW y q a g t' c o n S) r :=
  zM_cast rfl rfl (z_owt (B1 := zSt y (fun i => q (3 + i)) g) (B2 := zSt y (fun i => q (17 + i)) t) (B1' := zSt y (fun i => q (3 + i)) g) (B2' := zSt y (fun i => q (17 + i)) t') (zRo q ++ [(q 1, .inr (4, [.int (g 0 0), .int (g 0 1), .int (g 0 2), .int (g 0 3), .int (g 0 4), .int (g 0 5), .ref (q 2), .ref (q 3), .ref (q 11), .ref (q 15)])), (q 2, .inl (y.1 0, 3, .inl (g 1)))]) (zTo y (fun i => q (11 + i)) g ++ zBa y (fun i => q (15 + i)) g) (zCo y (fun i => q (25 + i)) c ++ (zOt y (fun i => q (28 + i)) o ++ zUs y (fun i => q (31 + i)) a n S)) rfl rfl h)
end
def tpN (k : Nat) : Nat := if k = 3 then 0 else k + 1
def tmN (k : Nat) : Nat := if k = 0 then 3 else k - 1
/-- push, from any top -/
theorem c_X7_push {l : Launch} {y : zY} {D : va_G} (q : Nat → Nat) (a : Nat → Nat → Nat) (n : Nat → Nat → Int32) (S : Nat → Nat → Nat → Int32) (p : Nat → Nat) (g : Nat → Nat → Int32) (k : Nat) (hk : k < 4) (hn : n 0 1 = nI k) : zM l y D yX7_push wsX7_push 4 143 [.ref (q 0), .ref (p 0)] (zUs y q a n S ++ zSa y p g) (zUs y q a (puN n (tpN k)) (zSs S (tpN k) (cpSa (S (tpN k)) g)) ++ zSa y p g) none := by
  rcases (show k = 0 ∨ k = 1 ∨ k = 2 ∨ k = 3 by omega) with rfl | rfl | rfl | rfl
  · exact c_X7_push_0 q a n S p g hn
  · exact c_X7_push_1 q a n S p g hn
  · exact c_X7_push_2 q a n S p g hn
  · exact c_X7_push_3 q a n S p g hn
theorem c_X7_pop {l : Launch} {y : zY} {D : va_G} (q : Nat → Nat) (a : Nat → Nat → Nat) (n : Nat → Nat → Int32) (S : Nat → Nat → Nat → Int32) (p : Nat → Nat) (g : Nat → Nat → Int32) (k : Nat) (hk : k < 4) (hn : n 0 1 = nI k) : zM l y D yX7_pop wsX7_pop 4 143 [.ref (q 0), .ref (p 0)] (zUs y q a n S ++ zSa y p g) (zUs y q a (poN n (tmN k)) S ++ zSa y p (cpSa g (S k))) none := by
  rcases (show k = 0 ∨ k = 1 ∨ k = 2 ∨ k = 3 by omega) with rfl | rfl | rfl | rfl
  · exact c_X7_pop_0 q a n S p g hn
  · exact c_X7_pop_1 q a n S p g hn
  · exact c_X7_pop_2 q a n S p g hn
  · exact c_X7_pop_3 q a n S p g hn
def itC (g : Nat → Nat → Int32) (x : Int32) : Int32 := if x < 0 then nI 0 else if g 0 6 ≤ x then nI 0 else nI 1
def isN (x : Int32) : Int32 := if x = (-1) then nI 1 else if isS x = 0 then nI 0 else nI 1
def srC (g : Nat → Nat → Int32) (u : Int32) : Int32 := if wi u (nI 1) (nI 9999) = 0 then nI 2 else if g 0 0 + u ≤ nI 9999 then nI 0 else nI 3
def prC (g : Nat → Nat → Int32) (k : Nat) (b : Int32) : Int32 := if wi (nI k) (nI 0) (nI 2) = 0 then nI 2 else if wi b (nI 1) (nI 50) = 0 then nI 2 else if b * nI 100 ≤ g 0 0 then (if g 1 k + b ≤ nI 50 then nI 0 else nI 3) else nI 3
def stC (g : Nat → Nat → Int32) (s k : Nat) : Int32 := if isS (nI s) = 0 then nI 1 else if wi (nI k) (nI 0) (nI 2) = 0 then nI 2 else if g 1 k = 0 then nI 3 else if g 2 s < nI 6 then nI 0 else nI 3
def siC (x : Int32) : Int32 := if isS x = 0 then nI 1 else nI 0
def toC (g : Nat → Nat → Int32) (v : Int32) : Int32 := if wi v (nI 1) (nI 20) = 0 then nI 2 else if g 0 6 < nI 5 then nI 0 else nI 3
def caC (g : Nat → Nat → Int32) (t s l u : Int32) : Int32 := if itC g t = 0 then nI 1 else if isS s = 0 then nI 1 else if wi l (nI 0) (nI 5) = 0 then nI 2 else if wi u (nI 1) (nI 100) = 0 then nI 2 else nI 0
def crC (g : Nat → Nat → Int32) (t s l : Nat) (u : Int32) : Int32 := if caC g (nI t) (nI s) (nI l) u = 0 then (if raG g t s l u = 0 then nI 0 else nI 3) else caC g (nI t) (nI s) (nI l) u
def baK (g : Nat → Nat → Int32) (a b c : Int32) : Int32 := if a = b then nI 2 else if a = c then nI 2 else if b = c then (if b = (-1) then (if g 0 7 < nI 20 then nI 0 else nI 3) else nI 2) else (if g 0 7 < nI 20 then nI 0 else nI 3)
def baC (g : Nat → Nat → Int32) (a b c : Int32) : Int32 := if isS a = 0 then nI 2 else if isN b = 0 then nI 2 else if isN c = 0 then nI 2 else if b = (-1) then (if c = (-1) then baK g a b c else nI 2) else baK g a b c
theorem wi_in {x a b : Int32} (h : ¬ wi x a b = 0) : ¬ x < a ∧ ¬ b < x := by
  unfold wi at h
  by_cases h1 : x < a
  · exact absurd (if_pos h1) h
  · rw [if_neg h1] at h
    by_cases h2 : b < x
    · exact absurd (if_pos h2) h
    · exact ⟨h1, h2⟩
theorem itC_lt {g : Nat → Nat → Int32} (hgt : okT g) {t : Nat} (ht : t < 2 ^ 32) (h : ¬ itC g (nI t) = 0) : t < zt g := by
  unfold itC at h
  by_cases h1 : nI t < 0
  · exact absurd (if_pos h1) h
  · rw [if_neg h1] at h
    by_cases h2 : g 0 6 ≤ nI t
    · exact absurd (if_pos h2) h
    · obtain ⟨j, hj, e⟩ := nI_of h1
      have e2 : t = j := by
        have := congrArg (fun v : Int32 => v.toBitVec.toNat) e
        simp only [pk_tn ht, pk_tn (show j < 2 ^ 32 by omega)] at this
        exact this
      subst e2
      rw [hgt.1, nI_leI (by have := hgt.2; omega) hj] at h2
      omega
theorem caC_ok {g : Nat → Nat → Int32} (hgt : okT g) {x s v : Nat} {u : Int32} (hx : x < 2 ^ 32) (hs : s < 2 ^ 32) (hv : v < 2 ^ 32) (h : caC g (nI x) (nI s) (nI v) u = 0) : x < zt g ∧ s < 8 ∧ v < 6 ∧ ¬ wi u (nI 1) (nI 100) = 0 := by
  unfold caC at h
  by_cases h1 : itC g (nI x) = 0
  · rw [if_pos h1] at h; exact absurd h (by decide +kernel)
  rw [if_neg h1] at h
  by_cases h2 : isS (nI s) = 0
  · rw [if_pos h2] at h; exact absurd h (by decide +kernel)
  rw [if_neg h2] at h
  by_cases h3 : wi (nI v) (nI 0) (nI 5) = 0
  · rw [if_pos h3] at h; exact absurd h (by decide +kernel)
  rw [if_neg h3] at h
  by_cases h4 : wi u (nI 1) (nI 100) = 0
  · rw [if_pos h4] at h; exact absurd h (by decide +kernel)
  have h5 := wi_lt hs (by omega) (by omega) h2
  have h6 := wi_lt hv (by omega) (by omega) h3
  exact ⟨itC_lt hgt hx h1, by omega, by omega, h4⟩
theorem iX9_isTool_X5 : ∀ w ∈ u_ws RX5 TX5 10, w ∈ wsX9_isTool := by decide +kernel
theorem iX9_isTool_X6 : ∀ w ∈ u_ws RX6 TX6 4, w ∈ wsX9_isTool := by decide +kernel
theorem iX9_isTool_X9 : ∀ w ∈ u_ws RX9 TX9 5, w ∈ wsX9_isTool := by decide +kernel
set_option maxHeartbeats 4000000 in
set_option maxRecDepth 100000 in
/-- X9_isTool -/
theorem c_X9_isTool {l : Launch} {y : zY} {D : va_G} (q : Nat → Nat) (a : Nat → Nat → Nat) (g t c o n : Nat → Nat → Int32) (S : Nat → Nat → Nat → Int32) (x : Int32) : zM l y D yX9_isTool wsX9_isTool 0 0 [.ref (q 0), .int x] (zCW y q a g t c o n S) (zCW y q a g t c o n S) (some (.int (itC g x))) := by
  refine z_start (own := RX9) (cc := cX9_isTool) (maxL := 2) (ret := (some .boolean)) rfl (by decide +kernel) rfl (Nat.le_of_ble_eq_true rfl) (zCW_fst _ _ _ _ _ _ _ _ _ _ _ _ _ _ _) ?_
  intro E hEl hEy hED h hf
  subst hEl hEy hED
  have hkR : 0 ≤ E.2.2.2.2.2.1.cells ∧ 0 ≤ E.2.2.2.2.2.1.slots := ⟨Nat.zero_le _, Nat.zero_le _⟩
  refine z_cast (lv := [(0, .ref (q 0)), (1, .int x)]) (ws := (zCW (zy E) q a g t c o n S)) (st := []) ?_ rfl rfl rfl
  refine z_iload_n h 1 rfl dX9_isTool_0 ?_
  refine z_if_lt h 22 dX9_isTool_1 (by decide) (fun c_1 => ?_) (fun c_1 => ?_)
  · refine z_iconst h (nI 0) (by decide +kernel) dX9_isTool_22 ?_
    exact z_zret h hf rfl rfl (by simp only [itC, if_pos c_1]) rfl dX9_isTool_23
  · refine z_iload_n h 1 rfl dX9_isTool_4 ?_
    refine z_aload_n h 0 rfl dX9_isTool_5 ?_
    refine z_get h 0 7 0 (v := .ref (q 1)) rfl rfl iX9_isTool_X9 (by decide) (List.mem_of_getElem? (i := 1) (by decide +kernel)) rfl rfl dX9_isTool_6 ?_
    refine z_get h 1 4 8 (v := .ref (q 11)) rfl rfl iX9_isTool_X5 (by decide) (List.mem_of_getElem? (i := 2) (by decide +kernel)) rfl rfl dX9_isTool_9 ?_
    refine z_get h 11 5 0 (v := .int ((g 0) 6)) rfl rfl iX9_isTool_X6 (by decide) (List.mem_of_getElem? (i := 3) (by decide +kernel)) rfl rfl dX9_isTool_12 ?_
    refine z_icmp_ge h 22 dX9_isTool_15 (by decide) (fun c_15 => ?_) (fun c_15 => ?_)
    · refine z_iconst h (nI 0) (by decide +kernel) dX9_isTool_22 ?_
      exact z_zret h hf rfl rfl (by simp only [itC, if_neg c_1, if_pos c_15]) rfl dX9_isTool_23
    · refine z_iconst h (nI 1) (by decide +kernel) dX9_isTool_18 ?_
      refine z_goto h 23 dX9_isTool_19 (by decide) ?_
      exact z_zret h hf rfl rfl (by simp only [itC, if_neg c_1, if_neg c_15]) rfl dX9_isTool_23

set_option maxHeartbeats 4000000 in
set_option maxRecDepth 100000 in
/-- isSiteOrNone -/
theorem c_X9_isSiteOrNone {l : Launch} {y : zY} {D : va_G} (x : Int32) : zM l y D yX9_isSiteOrNone wsX9_isSiteOrNone 2 42 [.int x] ([]) ([]) (some (.int (isN x))) := by
  refine z_start (own := RX9) (cc := cX9_isSiteOrNone) (maxL := 1) (ret := (some .boolean)) rfl (by decide +kernel) rfl (Nat.le_of_ble_eq_true rfl) rfl ?_
  intro E hEl hEy hED h hf
  subst hEl hEy hED
  have hkR : 0 ≤ E.2.2.2.2.2.1.cells ∧ 0 ≤ E.2.2.2.2.2.1.slots := ⟨Nat.zero_le _, Nat.zero_le _⟩
  refine z_cast (lv := [(0, .int x)]) (ws := ([])) (st := []) ?_ rfl rfl rfl
  refine z_iload_n h 0 rfl dX9_isSiteOrNone_0 ?_
  refine z_iconst h ((-1)) (by decide +kernel) dX9_isSiteOrNone_1 ?_
  refine z_icmp_eq h 12 dX9_isSiteOrNone_2 (by decide) (fun c_2 => ?_) (fun c_2 => ?_)
  · refine z_iconst h (nI 1) (by decide +kernel) dX9_isSiteOrNone_12 ?_
    refine z_goto h 17 dX9_isSiteOrNone_13 (by decide) ?_
    exact z_zret h hf rfl rfl (by simp only [isN, if_pos c_2]) rfl dX9_isSiteOrNone_17
  · refine z_iload_n h 0 rfl dX9_isSiteOrNone_5 ?_
    refine z_callS h (As := [.int x]) (st := []) (ws2 := []) (B := []) (B' := []) (r := some (.int (isS x))) 1 (c_X9_isSite x) gX9_isSiteOrNone_X9_isSite (by decide +kernel) rfl ⟨by decide, by decide⟩ [] rfl (by decide) rfl (Nat.le_of_ble_eq_true rfl) rfl rfl dX9_isSiteOrNone_6 ?_ hkR
    refine z_if_eq h 16 dX9_isSiteOrNone_9 (by decide) (fun c_9 => ?_) (fun c_9 => ?_)
    · refine z_iconst h (nI 0) (by decide +kernel) dX9_isSiteOrNone_16 ?_
      exact z_zret h hf rfl rfl (by simp only [isN, if_neg c_2, if_pos c_9]) rfl dX9_isSiteOrNone_17
    · refine z_iconst h (nI 1) (by decide +kernel) dX9_isSiteOrNone_12 ?_
      refine z_goto h 17 dX9_isSiteOrNone_13 (by decide) ?_
      exact z_zret h hf rfl rfl (by simp only [isN, if_neg c_2, if_neg c_9]) rfl dX9_isSiteOrNone_17

set_option maxHeartbeats 4000000 in
set_option maxRecDepth 100000 in
/-- siteRefusal -/
theorem c_X9_siteRefusal {l : Launch} {y : zY} {D : va_G} (x : Int32) : zM l y D yX9_siteRefusal wsX9_siteRefusal 2 42 [.int x] ([]) ([]) (some (.int (siC x))) := by
  refine z_start (own := RX9) (cc := cX9_siteRefusal) (maxL := 1) (ret := (some .int)) rfl (by decide +kernel) rfl (Nat.le_of_ble_eq_true rfl) rfl ?_
  intro E hEl hEy hED h hf
  subst hEl hEy hED
  have hkR : 0 ≤ E.2.2.2.2.2.1.cells ∧ 0 ≤ E.2.2.2.2.2.1.slots := ⟨Nat.zero_le _, Nat.zero_le _⟩
  refine z_cast (lv := [(0, .int x)]) (ws := ([])) (st := []) ?_ rfl rfl rfl
  refine z_iload_n h 0 rfl dX9_siteRefusal_0 ?_
  refine z_callS h (As := [.int x]) (st := []) (ws2 := []) (B := []) (B' := []) (r := some (.int (isS x))) 1 (c_X9_isSite x) gX9_siteRefusal_X9_isSite (by decide +kernel) rfl ⟨by decide, by decide⟩ [] rfl (by decide) rfl (Nat.le_of_ble_eq_true rfl) rfl rfl dX9_siteRefusal_1 ?_ hkR
  refine z_if_eq h 11 dX9_siteRefusal_4 (by decide) (fun c_4 => ?_) (fun c_4 => ?_)
  · refine z_iconst h (nI 1) (by decide +kernel) dX9_siteRefusal_11 ?_
    exact z_iret h hf rfl (by simp only [siC, if_pos c_4]) rfl dX9_siteRefusal_12
  · refine z_iconst h (nI 0) (by decide +kernel) dX9_siteRefusal_7 ?_
    refine z_goto h 12 dX9_siteRefusal_8 (by decide) ?_
    exact z_iret h hf rfl (by simp only [siC, if_neg c_4]) rfl dX9_siteRefusal_12

theorem iX9_snowRefusal_X5 : ∀ w ∈ u_ws RX5 TX5 10, w ∈ wsX9_snowRefusal := by decide +kernel
theorem iX9_snowRefusal_X9 : ∀ w ∈ u_ws RX9 TX9 5, w ∈ wsX9_snowRefusal := by decide +kernel
set_option maxHeartbeats 4000000 in
set_option maxRecDepth 100000 in
/-- X9_snowRefusal -/
theorem c_X9_snowRefusal {l : Launch} {y : zY} {D : va_G} (q : Nat → Nat) (a : Nat → Nat → Nat) (g t c o n : Nat → Nat → Int32) (S : Nat → Nat → Nat → Int32) (u : Int32) : zM l y D yX9_snowRefusal wsX9_snowRefusal 1 22 [.ref (q 0), .int u] (zCW y q a g t c o n S) (zCW y q a g t c o n S) (some (.int (srC g u))) := by
  refine z_start (own := RX9) (cc := cX9_snowRefusal) (maxL := 2) (ret := (some .int)) rfl (by decide +kernel) rfl (Nat.le_of_ble_eq_true rfl) (zCW_fst _ _ _ _ _ _ _ _ _ _ _ _ _ _ _) ?_
  intro E hEl hEy hED h hf
  subst hEl hEy hED
  have hkR : 0 ≤ E.2.2.2.2.2.1.cells ∧ 0 ≤ E.2.2.2.2.2.1.slots := ⟨Nat.zero_le _, Nat.zero_le _⟩
  refine z_cast (lv := [(0, .ref (q 0)), (1, .int u)]) (ws := (zCW (zy E) q a g t c o n S)) (st := []) ?_ rfl rfl rfl
  refine z_iload_n h 1 rfl dX9_snowRefusal_0 ?_
  refine z_iconst h (nI 1) (by decide +kernel) dX9_snowRefusal_1 ?_
  refine z_sipush h (nI 9999) (by decide +kernel) dX9_snowRefusal_2 ?_
  refine z_callS h (As := [.int u, .int (nI 1), .int (nI 9999)]) (st := []) (ws2 := zCW (zy E) q a g t c o n S) (B := []) (B' := []) (r := some (.int (wi u (nI 1) (nI 9999)))) 3 (c_X9_isWithin u (nI 1) (nI 9999)) gX9_snowRefusal_X9_isWithin (by decide +kernel) rfl ⟨by decide, by decide⟩ [] rfl (by decide) rfl (Nat.le_of_ble_eq_true rfl) rfl rfl dX9_snowRefusal_5 ?_ hkR
  refine z_if_ne h 13 dX9_snowRefusal_8 (by decide) (fun c_8 => ?_) (fun c_8 => ?_)
  · refine z_aload_n h 0 rfl dX9_snowRefusal_13 ?_
    refine z_get h 0 7 0 (v := .ref (q 1)) rfl rfl iX9_snowRefusal_X9 (by decide) (List.mem_of_getElem? (i := 1) (by decide +kernel)) rfl rfl dX9_snowRefusal_14 ?_
    refine z_get h 1 4 0 (v := .int ((g 0) 0)) rfl rfl iX9_snowRefusal_X5 (by decide) (List.mem_of_getElem? (i := 2) (by decide +kernel)) rfl rfl dX9_snowRefusal_17 ?_
    refine z_iload_n h 1 rfl dX9_snowRefusal_20 ?_
    refine z_iadd h dX9_snowRefusal_21 ?_
    refine z_sipush h (nI 9999) (by decide +kernel) dX9_snowRefusal_22 ?_
    refine z_icmp_le h 32 dX9_snowRefusal_25 (by decide) (fun c_25 => ?_) (fun c_25 => ?_)
    · refine z_iconst h (nI 0) (by decide +kernel) dX9_snowRefusal_32 ?_
      exact z_iret h hf rfl (by simp only [srC, if_neg c_8, if_pos c_25]) rfl dX9_snowRefusal_33
    · refine z_iconst h (nI 3) (by decide +kernel) dX9_snowRefusal_28 ?_
      refine z_goto h 33 dX9_snowRefusal_29 (by decide) ?_
      exact z_iret h hf rfl (by simp only [srC, if_neg c_8, if_neg c_25]) rfl dX9_snowRefusal_33
  · refine z_iconst h (nI 2) (by decide +kernel) dX9_snowRefusal_11 ?_
    exact z_iret h hf rfl (by simp only [srC, if_pos c_8]) rfl dX9_snowRefusal_12

theorem iX9_pressRefusal_X5 : ∀ w ∈ u_ws RX5 TX5 10, w ∈ wsX9_pressRefusal := by decide +kernel
theorem iX9_pressRefusal_X9 : ∀ w ∈ u_ws RX9 TX9 5, w ∈ wsX9_pressRefusal := by decide +kernel
set_option maxHeartbeats 4000000 in
set_option maxRecDepth 100000 in
/-- X9_pressRefusal -/
theorem c_X9_pressRefusal {l : Launch} {y : zY} {D : va_G} (q : Nat → Nat) (a : Nat → Nat → Nat) (g t c o n : Nat → Nat → Int32) (S : Nat → Nat → Nat → Int32) (k : Nat) (b : Int32) (hk : k < 2 ^ 32) : zM l y D yX9_pressRefusal wsX9_pressRefusal 1 22 [.ref (q 0), .int (nI k), .int b] (zCW y q a g t c o n S) (zCW y q a g t c o n S) (some (.int (prC g k b))) := by
  refine z_start (own := RX9) (cc := cX9_pressRefusal) (maxL := 4) (ret := (some .int)) rfl (by decide +kernel) rfl (Nat.le_of_ble_eq_true rfl) (zCW_fst _ _ _ _ _ _ _ _ _ _ _ _ _ _ _) ?_
  intro E hEl hEy hED h hf
  subst hEl hEy hED
  have hkR : 0 ≤ E.2.2.2.2.2.1.cells ∧ 0 ≤ E.2.2.2.2.2.1.slots := ⟨Nat.zero_le _, Nat.zero_le _⟩
  refine z_cast (lv := [(0, .ref (q 0)), (1, .int (nI k)), (2, .int b)]) (ws := (zCW (zy E) q a g t c o n S)) (st := []) ?_ rfl rfl rfl
  refine z_iload_n h 1 rfl dX9_pressRefusal_0 ?_
  refine z_iconst h (nI 0) (by decide +kernel) dX9_pressRefusal_1 ?_
  refine z_iconst h (nI 2) (by decide +kernel) dX9_pressRefusal_2 ?_
  refine z_callS h (As := [.int (nI k), .int (nI 0), .int (nI 2)]) (st := []) (ws2 := zCW (zy E) q a g t c o n S) (B := []) (B' := []) (r := some (.int (wi (nI k) (nI 0) (nI 2)))) 3 (c_X9_isWithin (nI k) (nI 0) (nI 2)) gX9_pressRefusal_X9_isWithin (by decide +kernel) rfl ⟨by decide, by decide⟩ [] rfl (by decide) rfl (Nat.le_of_ble_eq_true rfl) rfl rfl dX9_pressRefusal_3 ?_ hkR
  refine z_if_eq h 19 dX9_pressRefusal_6 (by decide) (fun c_6 => ?_) (fun c_6 => ?_)
  · refine z_iconst h (nI 2) (by decide +kernel) dX9_pressRefusal_19 ?_
    exact z_iret h hf rfl (by simp only [prC, if_pos c_6]) rfl dX9_pressRefusal_20
  · have hk3 := wi_lt hk (by omega) (by omega) c_6
    refine z_iload_n h 2 rfl dX9_pressRefusal_9 ?_
    refine z_iconst h (nI 1) (by decide +kernel) dX9_pressRefusal_10 ?_
    refine z_bipush h (nI 50) (by decide +kernel) dX9_pressRefusal_11 ?_
    refine z_callS h (As := [.int b, .int (nI 1), .int (nI 50)]) (st := []) (ws2 := zCW (zy E) q a g t c o n S) (B := []) (B' := []) (r := some (.int (wi b (nI 1) (nI 50)))) 3 (c_X9_isWithin b (nI 1) (nI 50)) gX9_pressRefusal_X9_isWithin (by decide +kernel) rfl ⟨by decide, by decide⟩ [] rfl (by decide) rfl (Nat.le_of_ble_eq_true rfl) rfl rfl dX9_pressRefusal_13 ?_ hkR
    refine z_if_ne h 21 dX9_pressRefusal_16 (by decide) (fun c_16 => ?_) (fun c_16 => ?_)
    · refine z_aload_n h 0 rfl dX9_pressRefusal_21 ?_
      refine z_get h 0 7 0 (v := .ref (q 1)) rfl rfl iX9_pressRefusal_X9 (by decide) (List.mem_of_getElem? (i := 1) (by decide +kernel)) rfl rfl dX9_pressRefusal_22 ?_
      refine z_get h 1 4 0 (v := .int ((g 0) 0)) rfl rfl iX9_pressRefusal_X5 (by decide) (List.mem_of_getElem? (i := 2) (by decide +kernel)) rfl rfl dX9_pressRefusal_25 ?_
      refine z_iload_n h 2 rfl dX9_pressRefusal_28 ?_
      refine z_bipush h (nI 100) (by decide +kernel) dX9_pressRefusal_29 ?_
      refine z_imul h dX9_pressRefusal_31 ?_
      refine z_icmp_ge h 39 dX9_pressRefusal_32 (by decide) (fun c_32 => ?_) (fun c_32 => ?_)
      · refine z_iconst h (nI 0) (by decide +kernel) dX9_pressRefusal_39 ?_
        refine z_istore_n h (by decide) (lv' := [(3, .int (nI 0)), (0, .ref (q 0)), (1, .int (nI k)), (2, .int b)]) rfl dX9_pressRefusal_40 ?_
        refine z_iload_n h 0 rfl dX9_pressRefusal_41 ?_
        refine z_if_ne h 61 dX9_pressRefusal_42 (by decide) (fun c_42 => ?_) (fun c_42 => ?_)
        · exact absurd c_42 (by decide +kernel)
        · refine z_aload_n h 1 rfl dX9_pressRefusal_45 ?_
          refine z_get h 0 7 0 (v := .ref (q 1)) rfl rfl iX9_pressRefusal_X9 (by decide) (List.mem_of_getElem? (i := 1) (by decide +kernel)) rfl rfl dX9_pressRefusal_46 ?_
          refine z_get h 1 4 6 (v := .ref (q 2)) rfl rfl iX9_pressRefusal_X5 (by decide) (List.mem_of_getElem? (i := 3) (by decide +kernel)) rfl rfl dX9_pressRefusal_49 ?_
          refine z_iload_n h 2 rfl dX9_pressRefusal_52 ?_
          refine z_iald h 2 k (f := g 1) rfl rfl rfl (by omega) (by decide) dX9_pressRefusal_53 ?_
          refine z_iload_n h 3 rfl dX9_pressRefusal_54 ?_
          refine z_iadd h dX9_pressRefusal_55 ?_
          refine z_bipush h (nI 50) (by decide +kernel) dX9_pressRefusal_56 ?_
          refine z_icmp_le h 65 dX9_pressRefusal_58 (by decide) (fun c_58 => ?_) (fun c_58 => ?_)
          · refine z_iconst h (nI 0) (by decide +kernel) dX9_pressRefusal_65 ?_
            exact z_iret h hf rfl (by simp only [prC, if_neg c_6, if_neg c_16, if_pos c_32, if_pos c_58]) rfl dX9_pressRefusal_66
          · refine z_iconst h (nI 3) (by decide +kernel) dX9_pressRefusal_61 ?_
            refine z_goto h 66 dX9_pressRefusal_62 (by decide) ?_
            exact z_iret h hf rfl (by simp only [prC, if_neg c_6, if_neg c_16, if_pos c_32, if_neg c_58]) rfl dX9_pressRefusal_66
      · refine z_iconst h (nI 1) (by decide +kernel) dX9_pressRefusal_35 ?_
        refine z_goto h 40 dX9_pressRefusal_36 (by decide) ?_
        refine z_istore_n h (by decide) (lv' := [(3, .int (nI 1)), (0, .ref (q 0)), (1, .int (nI k)), (2, .int b)]) rfl dX9_pressRefusal_40 ?_
        refine z_iload_n h 0 rfl dX9_pressRefusal_41 ?_
        refine z_if_ne h 61 dX9_pressRefusal_42 (by decide) (fun c_42 => ?_) (fun c_42 => ?_)
        · refine z_iconst h (nI 3) (by decide +kernel) dX9_pressRefusal_61 ?_
          refine z_goto h 66 dX9_pressRefusal_62 (by decide) ?_
          exact z_iret h hf rfl (by simp only [prC, if_neg c_6, if_neg c_16, if_neg c_32]) rfl dX9_pressRefusal_66
        · exact absurd c_42 (by decide +kernel)
    · refine z_iconst h (nI 2) (by decide +kernel) dX9_pressRefusal_19 ?_
      exact z_iret h hf rfl (by simp only [prC, if_neg c_6, if_pos c_16]) rfl dX9_pressRefusal_20

theorem iX9_stackRefusal_X4 : ∀ w ∈ u_ws RX4 TX4 7, w ∈ wsX9_stackRefusal := by decide +kernel
theorem iX9_stackRefusal_X5 : ∀ w ∈ u_ws RX5 TX5 10, w ∈ wsX9_stackRefusal := by decide +kernel
theorem iX9_stackRefusal_X9 : ∀ w ∈ u_ws RX9 TX9 5, w ∈ wsX9_stackRefusal := by decide +kernel
set_option maxHeartbeats 4000000 in
set_option maxRecDepth 100000 in
/-- X9_stackRefusal -/
theorem c_X9_stackRefusal {l : Launch} {y : zY} {D : va_G} (q : Nat → Nat) (a : Nat → Nat → Nat) (g t c o n : Nat → Nat → Int32) (S : Nat → Nat → Nat → Int32) (s k : Nat) (hs : s < 2 ^ 32) (hk : k < 2 ^ 32) : zM l y D yX9_stackRefusal wsX9_stackRefusal 2 42 [.ref (q 0), .int (nI s), .int (nI k)] (zCW y q a g t c o n S) (zCW y q a g t c o n S) (some (.int (stC g s k))) := by
  refine z_start (own := RX9) (cc := cX9_stackRefusal) (maxL := 3) (ret := (some .int)) rfl (by decide +kernel) rfl (Nat.le_of_ble_eq_true rfl) (zCW_fst _ _ _ _ _ _ _ _ _ _ _ _ _ _ _) ?_
  intro E hEl hEy hED h hf
  subst hEl hEy hED
  have hkR : 0 ≤ E.2.2.2.2.2.1.cells ∧ 0 ≤ E.2.2.2.2.2.1.slots := ⟨Nat.zero_le _, Nat.zero_le _⟩
  refine z_cast (lv := [(0, .ref (q 0)), (1, .int (nI s)), (2, .int (nI k))]) (ws := (zCW (zy E) q a g t c o n S)) (st := []) ?_ rfl rfl rfl
  refine z_iload_n h 1 rfl dX9_stackRefusal_0 ?_
  refine z_callS h (As := [.int (nI s)]) (st := []) (ws2 := zCW (zy E) q a g t c o n S) (B := []) (B' := []) (r := some (.int (isS (nI s)))) 1 (c_X9_isSite (nI s)) gX9_stackRefusal_X9_isSite (by decide +kernel) rfl ⟨by decide, by decide⟩ [] rfl (by decide) rfl (Nat.le_of_ble_eq_true rfl) rfl rfl dX9_stackRefusal_1 ?_ hkR
  refine z_if_ne h 9 dX9_stackRefusal_4 (by decide) (fun c_4 => ?_) (fun c_4 => ?_)
  · have hs8 := isS_lt hs c_4
    refine z_iload_n h 2 rfl dX9_stackRefusal_9 ?_
    refine z_iconst h (nI 0) (by decide +kernel) dX9_stackRefusal_10 ?_
    refine z_iconst h (nI 2) (by decide +kernel) dX9_stackRefusal_11 ?_
    refine z_callS h (As := [.int (nI k), .int (nI 0), .int (nI 2)]) (st := []) (ws2 := zCW (zy E) q a g t c o n S) (B := []) (B' := []) (r := some (.int (wi (nI k) (nI 0) (nI 2)))) 3 (c_X9_isWithin (nI k) (nI 0) (nI 2)) gX9_stackRefusal_X9_isWithin (by decide +kernel) rfl ⟨by decide, by decide⟩ [] rfl (by decide) rfl (Nat.le_of_ble_eq_true rfl) rfl rfl dX9_stackRefusal_12 ?_ hkR
    refine z_if_ne h 20 dX9_stackRefusal_15 (by decide) (fun c_15 => ?_) (fun c_15 => ?_)
    · have hk3 := wi_lt hk (by omega) (by omega) c_15
      refine z_aload_n h 0 rfl dX9_stackRefusal_20 ?_
      refine z_get h 0 7 0 (v := .ref (q 1)) rfl rfl iX9_stackRefusal_X9 (by decide) (List.mem_of_getElem? (i := 1) (by decide +kernel)) rfl rfl dX9_stackRefusal_21 ?_
      refine z_get h 1 4 6 (v := .ref (q 2)) rfl rfl iX9_stackRefusal_X5 (by decide) (List.mem_of_getElem? (i := 2) (by decide +kernel)) rfl rfl dX9_stackRefusal_24 ?_
      refine z_iload_n h 2 rfl dX9_stackRefusal_27 ?_
      refine z_iald h 2 k (f := g 1) rfl rfl rfl (by omega) (by decide) dX9_stackRefusal_28 ?_
      refine z_if_eq h 49 dX9_stackRefusal_29 (by decide) (fun c_29 => ?_) (fun c_29 => ?_)
      · refine z_iconst h (nI 3) (by decide +kernel) dX9_stackRefusal_49 ?_
        refine z_goto h 54 dX9_stackRefusal_50 (by decide) ?_
        exact z_iret h hf rfl (by simp only [stC, if_neg c_4, if_neg c_15, if_pos c_29]) rfl dX9_stackRefusal_54
      · refine z_aload_n h 0 rfl dX9_stackRefusal_32 ?_
        refine z_get h 0 7 0 (v := .ref (q 1)) rfl rfl iX9_stackRefusal_X9 (by decide) (List.mem_of_getElem? (i := 1) (by decide +kernel)) rfl rfl dX9_stackRefusal_33 ?_
        refine z_get h 1 4 7 (v := .ref (q 3)) rfl rfl iX9_stackRefusal_X5 (by decide) (List.mem_of_getElem? (i := 3) (by decide +kernel)) rfl rfl dX9_stackRefusal_36 ?_
        refine z_get h 3 3 0 (v := .ref (q 4)) rfl rfl iX9_stackRefusal_X4 (by decide) (List.mem_of_getElem? (i := 4) (by decide +kernel)) rfl rfl dX9_stackRefusal_39 ?_
        refine z_iload_n h 1 rfl dX9_stackRefusal_42 ?_
        refine z_iald h 4 s (f := g 2) rfl rfl rfl (by omega) (by decide) dX9_stackRefusal_43 ?_
        refine z_bipush h (nI 6) (by decide +kernel) dX9_stackRefusal_44 ?_
        refine z_icmp_lt h 53 dX9_stackRefusal_46 (by decide) (fun c_46 => ?_) (fun c_46 => ?_)
        · refine z_iconst h (nI 0) (by decide +kernel) dX9_stackRefusal_53 ?_
          exact z_iret h hf rfl (by simp only [stC, if_neg c_4, if_neg c_15, if_neg c_29, if_pos c_46]) rfl dX9_stackRefusal_54
        · refine z_iconst h (nI 3) (by decide +kernel) dX9_stackRefusal_49 ?_
          refine z_goto h 54 dX9_stackRefusal_50 (by decide) ?_
          exact z_iret h hf rfl (by simp only [stC, if_neg c_4, if_neg c_15, if_neg c_29, if_neg c_46]) rfl dX9_stackRefusal_54
    · refine z_iconst h (nI 2) (by decide +kernel) dX9_stackRefusal_18 ?_
      exact z_iret h hf rfl (by simp only [stC, if_neg c_4, if_pos c_15]) rfl dX9_stackRefusal_19
  · refine z_iconst h (nI 1) (by decide +kernel) dX9_stackRefusal_7 ?_
    exact z_iret h hf rfl (by simp only [stC, if_pos c_4]) rfl dX9_stackRefusal_8

theorem iX9_toolRefusal_X5 : ∀ w ∈ u_ws RX5 TX5 10, w ∈ wsX9_toolRefusal := by decide +kernel
theorem iX9_toolRefusal_X6 : ∀ w ∈ u_ws RX6 TX6 4, w ∈ wsX9_toolRefusal := by decide +kernel
theorem iX9_toolRefusal_X9 : ∀ w ∈ u_ws RX9 TX9 5, w ∈ wsX9_toolRefusal := by decide +kernel
set_option maxHeartbeats 4000000 in
set_option maxRecDepth 100000 in
/-- X9_toolRefusal -/
theorem c_X9_toolRefusal {l : Launch} {y : zY} {D : va_G} (q : Nat → Nat) (a : Nat → Nat → Nat) (g t c o n : Nat → Nat → Int32) (S : Nat → Nat → Nat → Int32) (v : Int32) : zM l y D yX9_toolRefusal wsX9_toolRefusal 1 22 [.ref (q 0), .int v] (zCW y q a g t c o n S) (zCW y q a g t c o n S) (some (.int (toC g v))) := by
  refine z_start (own := RX9) (cc := cX9_toolRefusal) (maxL := 2) (ret := (some .int)) rfl (by decide +kernel) rfl (Nat.le_of_ble_eq_true rfl) (zCW_fst _ _ _ _ _ _ _ _ _ _ _ _ _ _ _) ?_
  intro E hEl hEy hED h hf
  subst hEl hEy hED
  have hkR : 0 ≤ E.2.2.2.2.2.1.cells ∧ 0 ≤ E.2.2.2.2.2.1.slots := ⟨Nat.zero_le _, Nat.zero_le _⟩
  refine z_cast (lv := [(0, .ref (q 0)), (1, .int v)]) (ws := (zCW (zy E) q a g t c o n S)) (st := []) ?_ rfl rfl rfl
  refine z_iload_n h 1 rfl dX9_toolRefusal_0 ?_
  refine z_iconst h (nI 1) (by decide +kernel) dX9_toolRefusal_1 ?_
  refine z_bipush h (nI 20) (by decide +kernel) dX9_toolRefusal_2 ?_
  refine z_callS h (As := [.int v, .int (nI 1), .int (nI 20)]) (st := []) (ws2 := zCW (zy E) q a g t c o n S) (B := []) (B' := []) (r := some (.int (wi v (nI 1) (nI 20)))) 3 (c_X9_isWithin v (nI 1) (nI 20)) gX9_toolRefusal_X9_isWithin (by decide +kernel) rfl ⟨by decide, by decide⟩ [] rfl (by decide) rfl (Nat.le_of_ble_eq_true rfl) rfl rfl dX9_toolRefusal_4 ?_ hkR
  refine z_if_ne h 12 dX9_toolRefusal_7 (by decide) (fun c_7 => ?_) (fun c_7 => ?_)
  · refine z_aload_n h 0 rfl dX9_toolRefusal_12 ?_
    refine z_get h 0 7 0 (v := .ref (q 1)) rfl rfl iX9_toolRefusal_X9 (by decide) (List.mem_of_getElem? (i := 1) (by decide +kernel)) rfl rfl dX9_toolRefusal_13 ?_
    refine z_get h 1 4 8 (v := .ref (q 11)) rfl rfl iX9_toolRefusal_X5 (by decide) (List.mem_of_getElem? (i := 2) (by decide +kernel)) rfl rfl dX9_toolRefusal_16 ?_
    refine z_get h 11 5 0 (v := .int ((g 0) 6)) rfl rfl iX9_toolRefusal_X6 (by decide) (List.mem_of_getElem? (i := 3) (by decide +kernel)) rfl rfl dX9_toolRefusal_19 ?_
    refine z_iconst h (nI 5) (by decide +kernel) dX9_toolRefusal_22 ?_
    refine z_icmp_lt h 30 dX9_toolRefusal_23 (by decide) (fun c_23 => ?_) (fun c_23 => ?_)
    · refine z_iconst h (nI 0) (by decide +kernel) dX9_toolRefusal_30 ?_
      exact z_iret h hf rfl (by simp only [toC, if_neg c_7, if_pos c_23]) rfl dX9_toolRefusal_31
    · refine z_iconst h (nI 3) (by decide +kernel) dX9_toolRefusal_26 ?_
      refine z_goto h 31 dX9_toolRefusal_27 (by decide) ?_
      exact z_iret h hf rfl (by simp only [toC, if_neg c_7, if_neg c_23]) rfl dX9_toolRefusal_31
  · refine z_iconst h (nI 2) (by decide +kernel) dX9_toolRefusal_10 ?_
    exact z_iret h hf rfl (by simp only [toC, if_pos c_7]) rfl dX9_toolRefusal_11

set_option maxHeartbeats 4000000 in
set_option maxRecDepth 100000 in
/-- X9_carveArgumentsRefusal -/
theorem c_X9_carveArgumentsRefusal {l : Launch} {y : zY} {D : va_G} (q : Nat → Nat) (a : Nat → Nat → Nat) (g t c o n : Nat → Nat → Int32) (S : Nat → Nat → Nat → Int32) (x s v u : Int32) : zM l y D yX9_carveArgumentsRefusal wsX9_carveArgumentsRefusal 2 42 [.ref (q 0), .int x, .int s, .int v, .int u] (zCW y q a g t c o n S) (zCW y q a g t c o n S) (some (.int (caC g x s v u))) := by
  refine z_start (own := RX9) (cc := cX9_carveArgumentsRefusal) (maxL := 6) (ret := (some .int)) rfl (by decide +kernel) rfl (Nat.le_of_ble_eq_true rfl) (zCW_fst _ _ _ _ _ _ _ _ _ _ _ _ _ _ _) ?_
  intro E hEl hEy hED h hf
  subst hEl hEy hED
  have hkR : 0 ≤ E.2.2.2.2.2.1.cells ∧ 0 ≤ E.2.2.2.2.2.1.slots := ⟨Nat.zero_le _, Nat.zero_le _⟩
  refine z_cast (lv := [(0, .ref (q 0)), (1, .int x), (2, .int s), (3, .int v), (4, .int u)]) (ws := (zCW (zy E) q a g t c o n S)) (st := []) ?_ rfl rfl rfl
  refine z_aload_n h 0 rfl dX9_carveArgumentsRefusal_0 ?_
  refine z_iload_n h 1 rfl dX9_carveArgumentsRefusal_1 ?_
  refine z_wV h (As := [.int x]) (st := []) (ws2 := zCW (zy E) q a g t c o n S) (r := some (.int (itC g x))) 1 (c_X9_isTool q a g t c o n S x) gX9_carveArgumentsRefusal_X9_isTool (q0 := 0) (ci := 7) (by decide +kernel) rfl rfl rfl ⟨by decide, by decide⟩ (Nat.le_of_ble_eq_true rfl) rfl rfl dX9_carveArgumentsRefusal_2 ?_ hkR
  refine z_if_eq h 15 dX9_carveArgumentsRefusal_5 (by decide) (fun c_5 => ?_) (fun c_5 => ?_)
  · refine z_iconst h (nI 1) (by decide +kernel) dX9_carveArgumentsRefusal_15 ?_
    exact z_iret h hf rfl (by simp only [caC, if_pos c_5]) rfl dX9_carveArgumentsRefusal_16
  · refine z_iload_n h 2 rfl dX9_carveArgumentsRefusal_8 ?_
    refine z_callS h (As := [.int s]) (st := []) (ws2 := zCW (zy E) q a g t c o n S) (B := []) (B' := []) (r := some (.int (isS s))) 1 (c_X9_isSite s) gX9_carveArgumentsRefusal_X9_isSite (by decide +kernel) rfl ⟨by decide, by decide⟩ [] rfl (by decide) rfl (Nat.le_of_ble_eq_true rfl) rfl rfl dX9_carveArgumentsRefusal_9 ?_ hkR
    refine z_if_ne h 17 dX9_carveArgumentsRefusal_12 (by decide) (fun c_12 => ?_) (fun c_12 => ?_)
    · refine z_iload_n h 3 rfl dX9_carveArgumentsRefusal_17 ?_
      refine z_iconst h (nI 0) (by decide +kernel) dX9_carveArgumentsRefusal_18 ?_
      refine z_iconst h (nI 5) (by decide +kernel) dX9_carveArgumentsRefusal_19 ?_
      refine z_callS h (As := [.int v, .int (nI 0), .int (nI 5)]) (st := []) (ws2 := zCW (zy E) q a g t c o n S) (B := []) (B' := []) (r := some (.int (wi v (nI 0) (nI 5)))) 3 (c_X9_isWithin v (nI 0) (nI 5)) gX9_carveArgumentsRefusal_X9_isWithin (by decide +kernel) rfl ⟨by decide, by decide⟩ [] rfl (by decide) rfl (Nat.le_of_ble_eq_true rfl) rfl rfl dX9_carveArgumentsRefusal_20 ?_ hkR
      refine z_if_eq h 41 dX9_carveArgumentsRefusal_23 (by decide) (fun c_23 => ?_) (fun c_23 => ?_)
      · refine z_iconst h (nI 0) (by decide +kernel) dX9_carveArgumentsRefusal_41 ?_
        refine z_istore h (by decide) (lv' := [(5, .int (nI 0)), (0, .ref (q 0)), (1, .int x), (2, .int s), (3, .int v), (4, .int u)]) rfl dX9_carveArgumentsRefusal_42 ?_
        refine z_iload h 0 rfl dX9_carveArgumentsRefusal_44 ?_
        refine z_if_eq h 53 dX9_carveArgumentsRefusal_46 (by decide) (fun c_46 => ?_) (fun c_46 => ?_)
        · refine z_iconst h (nI 2) (by decide +kernel) dX9_carveArgumentsRefusal_53 ?_
          exact z_iret h hf rfl (by simp only [caC, if_neg c_5, if_neg c_12, if_pos c_23]) rfl dX9_carveArgumentsRefusal_54
        · exact absurd c_46 (by decide +kernel)
      · refine z_iload h 4 rfl dX9_carveArgumentsRefusal_26 ?_
        refine z_iconst h (nI 1) (by decide +kernel) dX9_carveArgumentsRefusal_28 ?_
        refine z_bipush h (nI 100) (by decide +kernel) dX9_carveArgumentsRefusal_29 ?_
        refine z_callS h (As := [.int u, .int (nI 1), .int (nI 100)]) (st := []) (ws2 := zCW (zy E) q a g t c o n S) (B := []) (B' := []) (r := some (.int (wi u (nI 1) (nI 100)))) 3 (c_X9_isWithin u (nI 1) (nI 100)) gX9_carveArgumentsRefusal_X9_isWithin (by decide +kernel) rfl ⟨by decide, by decide⟩ [] rfl (by decide) rfl (Nat.le_of_ble_eq_true rfl) rfl rfl dX9_carveArgumentsRefusal_31 ?_ hkR
        refine z_if_eq h 41 dX9_carveArgumentsRefusal_34 (by decide) (fun c_34 => ?_) (fun c_34 => ?_)
        · refine z_iconst h (nI 0) (by decide +kernel) dX9_carveArgumentsRefusal_41 ?_
          refine z_istore h (by decide) (lv' := [(5, .int (nI 0)), (0, .ref (q 0)), (1, .int x), (2, .int s), (3, .int v), (4, .int u)]) rfl dX9_carveArgumentsRefusal_42 ?_
          refine z_iload h 0 rfl dX9_carveArgumentsRefusal_44 ?_
          refine z_if_eq h 53 dX9_carveArgumentsRefusal_46 (by decide) (fun c_46 => ?_) (fun c_46 => ?_)
          · refine z_iconst h (nI 2) (by decide +kernel) dX9_carveArgumentsRefusal_53 ?_
            exact z_iret h hf rfl (by simp only [caC, if_neg c_5, if_neg c_12, if_neg c_23, if_pos c_34]) rfl dX9_carveArgumentsRefusal_54
          · exact absurd c_46 (by decide +kernel)
        · refine z_iconst h (nI 1) (by decide +kernel) dX9_carveArgumentsRefusal_37 ?_
          refine z_goto h 42 dX9_carveArgumentsRefusal_38 (by decide) ?_
          refine z_istore h (by decide) (lv' := [(5, .int (nI 1)), (0, .ref (q 0)), (1, .int x), (2, .int s), (3, .int v), (4, .int u)]) rfl dX9_carveArgumentsRefusal_42 ?_
          refine z_iload h 0 rfl dX9_carveArgumentsRefusal_44 ?_
          refine z_if_eq h 53 dX9_carveArgumentsRefusal_46 (by decide) (fun c_46 => ?_) (fun c_46 => ?_)
          · exact absurd c_46 (by decide +kernel)
          · refine z_iconst h (nI 0) (by decide +kernel) dX9_carveArgumentsRefusal_49 ?_
            refine z_goto h 54 dX9_carveArgumentsRefusal_50 (by decide) ?_
            exact z_iret h hf rfl (by simp only [caC, if_neg c_5, if_neg c_12, if_neg c_23, if_neg c_34]) rfl dX9_carveArgumentsRefusal_54
    · refine z_iconst h (nI 1) (by decide +kernel) dX9_carveArgumentsRefusal_15 ?_
      exact z_iret h hf rfl (by simp only [caC, if_neg c_5, if_pos c_12]) rfl dX9_carveArgumentsRefusal_16

theorem iX9_carveRefusal_X9 : ∀ w ∈ u_ws RX9 TX9 5, w ∈ wsX9_carveRefusal := by decide +kernel
set_option maxHeartbeats 4000000 in
set_option maxRecDepth 100000 in
/-- X9_carveRefusal -/
theorem c_X9_carveRefusal {l : Launch} {y : zY} {D : va_G} (q : Nat → Nat) (a : Nat → Nat → Nat) (g t c o n : Nat → Nat → Int32) (S : Nat → Nat → Nat → Int32) (x s v : Nat) (u : Int32) (hx : x < 2 ^ 32) (hs : s < 2 ^ 32) (hv : v < 2 ^ 32) (hgt : okT g) : zM l y D yX9_carveRefusal wsX9_carveRefusal 3 67 [.ref (q 0), .int (nI x), .int (nI s), .int (nI v), .int u] (zCW y q a g t c o n S) (zCW y q a g t c o n S) (some (.int (crC g x s v u))) := by
  refine z_start (own := RX9) (cc := cX9_carveRefusal) (maxL := 6) (ret := (some .int)) rfl (by decide +kernel) rfl (Nat.le_of_ble_eq_true rfl) (zCW_fst _ _ _ _ _ _ _ _ _ _ _ _ _ _ _) ?_
  intro E hEl hEy hED h hf
  subst hEl hEy hED
  have hkR : 0 ≤ E.2.2.2.2.2.1.cells ∧ 0 ≤ E.2.2.2.2.2.1.slots := ⟨Nat.zero_le _, Nat.zero_le _⟩
  refine z_cast (lv := [(0, .ref (q 0)), (1, .int (nI x)), (2, .int (nI s)), (3, .int (nI v)), (4, .int u)]) (ws := (zCW (zy E) q a g t c o n S)) (st := []) ?_ rfl rfl rfl
  refine z_aload_n h 0 rfl dX9_carveRefusal_0 ?_
  refine z_iload_n h 1 rfl dX9_carveRefusal_1 ?_
  refine z_iload_n h 2 rfl dX9_carveRefusal_2 ?_
  refine z_iload_n h 3 rfl dX9_carveRefusal_3 ?_
  refine z_iload h 4 rfl dX9_carveRefusal_4 ?_
  refine z_wV h (As := [.int (nI x), .int (nI s), .int (nI v), .int u]) (st := []) (ws2 := zCW (zy E) q a g t c o n S) (r := some (.int (caC g (nI x) (nI s) (nI v) u))) 4 (c_X9_carveArgumentsRefusal q a g t c o n S (nI x) (nI s) (nI v) u) gX9_carveRefusal_X9_carveArgumentsRefusal (q0 := 0) (ci := 7) (by decide +kernel) rfl rfl rfl ⟨by decide, by decide⟩ (Nat.le_of_ble_eq_true rfl) rfl rfl dX9_carveRefusal_6 ?_ hkR
  refine z_istore h (by decide) (lv' := [(5, .int (caC g (nI x) (nI s) (nI v) u)), (0, .ref (q 0)), (1, .int (nI x)), (2, .int (nI s)), (3, .int (nI v)), (4, .int u)]) rfl dX9_carveRefusal_9 ?_
  refine z_iload h 0 rfl dX9_carveRefusal_11 ?_
  refine z_if_eq h 19 dX9_carveRefusal_13 (by decide) (fun c_13 => ?_) (fun c_13 => ?_)
  · have hc9 := caC_ok hgt hx hs hv c_13
    have hz9 := hgt.2
    refine z_aload_n h 1 rfl dX9_carveRefusal_19 ?_
    refine z_get h 0 7 0 (v := .ref (q 1)) rfl rfl iX9_carveRefusal_X9 (by decide) (List.mem_of_getElem? (i := 1) (by decide +kernel)) rfl rfl dX9_carveRefusal_20 ?_
    refine z_iload_n h 2 rfl dX9_carveRefusal_23 ?_
    refine z_iload_n h 3 rfl dX9_carveRefusal_24 ?_
    refine z_iload_n h 4 rfl dX9_carveRefusal_25 ?_
    refine z_iload h 5 rfl dX9_carveRefusal_26 ?_
    refine z_wV h (As := [.int (nI x), .int (nI s), .int (nI v), .int u]) (st := []) (ws2 := zCW (zy E) q a g t c o n S) (r := some (.int (raG g x s v u))) 4 (l_now (c_X5_reasonAgainst (fun i => q (1 + i)) g x s v u (by omega) (by omega) (by omega))) gX9_carveRefusal_X5_reasonAgainst (q0 := 1) (ci := 4) (by decide +kernel) rfl rfl rfl ⟨by decide, by decide⟩ (Nat.le_of_ble_eq_true rfl) rfl rfl dX9_carveRefusal_28 ?_ hkR
    refine z_if_ne h 38 dX9_carveRefusal_31 (by decide) (fun c_31 => ?_) (fun c_31 => ?_)
    · refine z_iconst h (nI 3) (by decide +kernel) dX9_carveRefusal_38 ?_
      exact z_iret h hf rfl (by simp only [crC, if_pos c_13, if_neg c_31]) rfl dX9_carveRefusal_39
    · refine z_iconst h (nI 0) (by decide +kernel) dX9_carveRefusal_34 ?_
      refine z_goto h 39 dX9_carveRefusal_35 (by decide) ?_
      exact z_iret h hf rfl (by simp only [crC, if_pos c_13, if_pos c_31]) rfl dX9_carveRefusal_39
  · refine z_iload h 0 rfl dX9_carveRefusal_16 ?_
    exact z_iret h hf rfl (by simp only [crC, if_neg c_13]) rfl dX9_carveRefusal_18

theorem iX9_ballotRefusal_X1 : ∀ w ∈ u_ws RX1 TX1 2, w ∈ wsX9_ballotRefusal := by decide +kernel
theorem iX9_ballotRefusal_X5 : ∀ w ∈ u_ws RX5 TX5 10, w ∈ wsX9_ballotRefusal := by decide +kernel
theorem iX9_ballotRefusal_X9 : ∀ w ∈ u_ws RX9 TX9 5, w ∈ wsX9_ballotRefusal := by decide +kernel
set_option maxHeartbeats 4000000 in
set_option maxRecDepth 100000 in
/-- X9_ballotRefusal -/
theorem c_X9_ballotRefusal {l : Launch} {y : zY} {D : va_G} (q : Nat → Nat) (a : Nat → Nat → Nat) (g t c o n : Nat → Nat → Int32) (S : Nat → Nat → Nat → Int32) (x u v : Int32) : zM l y D yX9_ballotRefusal wsX9_ballotRefusal 3 62 [.ref (q 0), .int x, .int u, .int v] (zCW y q a g t c o n S) (zCW y q a g t c o n S) (some (.int (baC g x u v))) := by
  refine z_start (own := RX9) (cc := cX9_ballotRefusal) (maxL := 4) (ret := (some .int)) rfl (by decide +kernel) rfl (Nat.le_of_ble_eq_true rfl) (zCW_fst _ _ _ _ _ _ _ _ _ _ _ _ _ _ _) ?_
  intro E hEl hEy hED h hf
  subst hEl hEy hED
  have hkR : 0 ≤ E.2.2.2.2.2.1.cells ∧ 0 ≤ E.2.2.2.2.2.1.slots := ⟨Nat.zero_le _, Nat.zero_le _⟩
  refine z_cast (lv := [(0, .ref (q 0)), (1, .int x), (2, .int u), (3, .int v)]) (ws := (zCW (zy E) q a g t c o n S)) (st := []) ?_ rfl rfl rfl
  refine z_iload_n h 1 rfl dX9_ballotRefusal_0 ?_
  refine z_callS h (As := [.int x]) (st := []) (ws2 := zCW (zy E) q a g t c o n S) (B := []) (B' := []) (r := some (.int (isS x))) 1 (c_X9_isSite x) gX9_ballotRefusal_X9_isSite (by decide +kernel) rfl ⟨by decide, by decide⟩ [] rfl (by decide) rfl (Nat.le_of_ble_eq_true rfl) rfl rfl dX9_ballotRefusal_1 ?_ hkR
  refine z_if_eq h 21 dX9_ballotRefusal_4 (by decide) (fun c_4 => ?_) (fun c_4 => ?_)
  · refine z_iconst h (nI 2) (by decide +kernel) dX9_ballotRefusal_21 ?_
    exact z_iret h hf rfl (by simp only [baC, baK, if_pos c_4]) rfl dX9_ballotRefusal_22
  · refine z_iload_n h 2 rfl dX9_ballotRefusal_7 ?_
    refine z_callS h (As := [.int u]) (st := []) (ws2 := zCW (zy E) q a g t c o n S) (B := []) (B' := []) (r := some (.int (isN u))) 1 (c_X9_isSiteOrNone u) gX9_ballotRefusal_X9_isSiteOrNone (by decide +kernel) rfl ⟨by decide, by decide⟩ [] rfl (by decide) rfl (Nat.le_of_ble_eq_true rfl) rfl rfl dX9_ballotRefusal_8 ?_ hkR
    refine z_if_eq h 21 dX9_ballotRefusal_11 (by decide) (fun c_11 => ?_) (fun c_11 => ?_)
    · refine z_iconst h (nI 2) (by decide +kernel) dX9_ballotRefusal_21 ?_
      exact z_iret h hf rfl (by simp only [baC, baK, if_neg c_4, if_pos c_11]) rfl dX9_ballotRefusal_22
    · refine z_iload_n h 3 rfl dX9_ballotRefusal_14 ?_
      refine z_callS h (As := [.int v]) (st := []) (ws2 := zCW (zy E) q a g t c o n S) (B := []) (B' := []) (r := some (.int (isN v))) 1 (c_X9_isSiteOrNone v) gX9_ballotRefusal_X9_isSiteOrNone (by decide +kernel) rfl ⟨by decide, by decide⟩ [] rfl (by decide) rfl (Nat.le_of_ble_eq_true rfl) rfl rfl dX9_ballotRefusal_15 ?_ hkR
      refine z_if_ne h 23 dX9_ballotRefusal_18 (by decide) (fun c_18 => ?_) (fun c_18 => ?_)
      · refine z_iload_n h 2 rfl dX9_ballotRefusal_23 ?_
        refine z_iconst h ((-1)) (by decide +kernel) dX9_ballotRefusal_24 ?_
        refine z_icmp_ne h 35 dX9_ballotRefusal_25 (by decide) (fun c_25 => ?_) (fun c_25 => ?_)
        · refine z_iload_n h 1 rfl dX9_ballotRefusal_35 ?_
          refine z_iload_n h 2 rfl dX9_ballotRefusal_36 ?_
          refine z_icmp_eq h 55 dX9_ballotRefusal_37 (by decide) (fun c_37 => ?_) (fun c_37 => ?_)
          · refine z_iconst h (nI 2) (by decide +kernel) dX9_ballotRefusal_55 ?_
            exact z_iret h hf rfl (by simp only [baC, baK, if_neg c_4, if_neg c_11, if_neg c_18, if_neg c_25, if_pos c_37]) rfl dX9_ballotRefusal_56
          · refine z_iload_n h 1 rfl dX9_ballotRefusal_40 ?_
            refine z_iload_n h 3 rfl dX9_ballotRefusal_41 ?_
            refine z_icmp_eq h 55 dX9_ballotRefusal_42 (by decide) (fun c_42 => ?_) (fun c_42 => ?_)
            · refine z_iconst h (nI 2) (by decide +kernel) dX9_ballotRefusal_55 ?_
              exact z_iret h hf rfl (by simp only [baC, baK, if_neg c_4, if_neg c_11, if_neg c_18, if_neg c_25, if_neg c_37, if_pos c_42]) rfl dX9_ballotRefusal_56
            · refine z_iload_n h 2 rfl dX9_ballotRefusal_45 ?_
              refine z_iload_n h 3 rfl dX9_ballotRefusal_46 ?_
              refine z_icmp_ne h 57 dX9_ballotRefusal_47 (by decide) (fun c_47 => ?_) (fun c_47 => ?_)
              · refine z_aload_n h 0 rfl dX9_ballotRefusal_57 ?_
                refine z_get h 0 7 0 (v := .ref (q 1)) rfl rfl iX9_ballotRefusal_X9 (by decide) (List.mem_of_getElem? (i := 1) (by decide +kernel)) rfl rfl dX9_ballotRefusal_58 ?_
                refine z_get h 1 4 9 (v := .ref (q 15)) rfl rfl iX9_ballotRefusal_X5 (by decide) (List.mem_of_getElem? (i := 2) (by decide +kernel)) rfl rfl dX9_ballotRefusal_61 ?_
                refine z_get h 15 0 0 (v := .int ((g 0) 7)) rfl rfl iX9_ballotRefusal_X1 (by decide) (List.mem_of_getElem? (i := 3) (by decide +kernel)) rfl rfl dX9_ballotRefusal_64 ?_
                refine z_bipush h (nI 20) (by decide +kernel) dX9_ballotRefusal_67 ?_
                refine z_icmp_lt h 76 dX9_ballotRefusal_69 (by decide) (fun c_69 => ?_) (fun c_69 => ?_)
                · refine z_iconst h (nI 0) (by decide +kernel) dX9_ballotRefusal_76 ?_
                  exact z_iret h hf rfl (by simp only [baC, baK, if_neg c_4, if_neg c_11, if_neg c_18, if_neg c_25, if_neg c_37, if_neg c_42, if_neg c_47, if_pos c_69]) rfl dX9_ballotRefusal_77
                · refine z_iconst h (nI 3) (by decide +kernel) dX9_ballotRefusal_72 ?_
                  refine z_goto h 77 dX9_ballotRefusal_73 (by decide) ?_
                  exact z_iret h hf rfl (by simp only [baC, baK, if_neg c_4, if_neg c_11, if_neg c_18, if_neg c_25, if_neg c_37, if_neg c_42, if_neg c_47, if_neg c_69]) rfl dX9_ballotRefusal_77
              · refine z_iload_n h 2 rfl dX9_ballotRefusal_50 ?_
                refine z_iconst h ((-1)) (by decide +kernel) dX9_ballotRefusal_51 ?_
                refine z_icmp_eq h 57 dX9_ballotRefusal_52 (by decide) (fun c_52 => ?_) (fun c_52 => ?_)
                · exact absurd c_52 c_25
                · refine z_iconst h (nI 2) (by decide +kernel) dX9_ballotRefusal_55 ?_
                  exact z_iret h hf rfl (by simp only [baC, baK, if_neg c_4, if_neg c_11, if_neg c_18, if_neg c_25, if_neg c_37, if_neg c_42, if_pos c_47, if_neg c_52]) rfl dX9_ballotRefusal_56
        · refine z_iload_n h 3 rfl dX9_ballotRefusal_28 ?_
          refine z_iconst h ((-1)) (by decide +kernel) dX9_ballotRefusal_29 ?_
          refine z_icmp_eq h 35 dX9_ballotRefusal_30 (by decide) (fun c_30 => ?_) (fun c_30 => ?_)
          · refine z_iload_n h 1 rfl dX9_ballotRefusal_35 ?_
            refine z_iload_n h 2 rfl dX9_ballotRefusal_36 ?_
            refine z_icmp_eq h 55 dX9_ballotRefusal_37 (by decide) (fun c_37 => ?_) (fun c_37 => ?_)
            · refine z_iconst h (nI 2) (by decide +kernel) dX9_ballotRefusal_55 ?_
              exact z_iret h hf rfl (by simp only [baC, baK, if_neg c_4, if_neg c_11, if_neg c_18, if_pos c_25, if_pos c_30, if_pos c_37]) rfl dX9_ballotRefusal_56
            · refine z_iload_n h 1 rfl dX9_ballotRefusal_40 ?_
              refine z_iload_n h 3 rfl dX9_ballotRefusal_41 ?_
              refine z_icmp_eq h 55 dX9_ballotRefusal_42 (by decide) (fun c_42 => ?_) (fun c_42 => ?_)
              · refine z_iconst h (nI 2) (by decide +kernel) dX9_ballotRefusal_55 ?_
                exact z_iret h hf rfl (by simp only [baC, baK, if_neg c_4, if_neg c_11, if_neg c_18, if_pos c_25, if_pos c_30, if_neg c_37, if_pos c_42]) rfl dX9_ballotRefusal_56
              · refine z_iload_n h 2 rfl dX9_ballotRefusal_45 ?_
                refine z_iload_n h 3 rfl dX9_ballotRefusal_46 ?_
                refine z_icmp_ne h 57 dX9_ballotRefusal_47 (by decide) (fun c_47 => ?_) (fun c_47 => ?_)
                · refine z_aload_n h 0 rfl dX9_ballotRefusal_57 ?_
                  refine z_get h 0 7 0 (v := .ref (q 1)) rfl rfl iX9_ballotRefusal_X9 (by decide) (List.mem_of_getElem? (i := 1) (by decide +kernel)) rfl rfl dX9_ballotRefusal_58 ?_
                  refine z_get h 1 4 9 (v := .ref (q 15)) rfl rfl iX9_ballotRefusal_X5 (by decide) (List.mem_of_getElem? (i := 2) (by decide +kernel)) rfl rfl dX9_ballotRefusal_61 ?_
                  refine z_get h 15 0 0 (v := .int ((g 0) 7)) rfl rfl iX9_ballotRefusal_X1 (by decide) (List.mem_of_getElem? (i := 3) (by decide +kernel)) rfl rfl dX9_ballotRefusal_64 ?_
                  refine z_bipush h (nI 20) (by decide +kernel) dX9_ballotRefusal_67 ?_
                  refine z_icmp_lt h 76 dX9_ballotRefusal_69 (by decide) (fun c_69 => ?_) (fun c_69 => ?_)
                  · refine z_iconst h (nI 0) (by decide +kernel) dX9_ballotRefusal_76 ?_
                    exact z_iret h hf rfl (by simp only [baC, baK, if_neg c_4, if_neg c_11, if_neg c_18, if_pos c_25, if_pos c_30, if_neg c_37, if_neg c_42, if_neg c_47, if_pos c_69]) rfl dX9_ballotRefusal_77
                  · refine z_iconst h (nI 3) (by decide +kernel) dX9_ballotRefusal_72 ?_
                    refine z_goto h 77 dX9_ballotRefusal_73 (by decide) ?_
                    exact z_iret h hf rfl (by simp only [baC, baK, if_neg c_4, if_neg c_11, if_neg c_18, if_pos c_25, if_pos c_30, if_neg c_37, if_neg c_42, if_neg c_47, if_neg c_69]) rfl dX9_ballotRefusal_77
                · refine z_iload_n h 2 rfl dX9_ballotRefusal_50 ?_
                  refine z_iconst h ((-1)) (by decide +kernel) dX9_ballotRefusal_51 ?_
                  refine z_icmp_eq h 57 dX9_ballotRefusal_52 (by decide) (fun c_52 => ?_) (fun c_52 => ?_)
                  · refine z_aload_n h 0 rfl dX9_ballotRefusal_57 ?_
                    refine z_get h 0 7 0 (v := .ref (q 1)) rfl rfl iX9_ballotRefusal_X9 (by decide) (List.mem_of_getElem? (i := 1) (by decide +kernel)) rfl rfl dX9_ballotRefusal_58 ?_
                    refine z_get h 1 4 9 (v := .ref (q 15)) rfl rfl iX9_ballotRefusal_X5 (by decide) (List.mem_of_getElem? (i := 2) (by decide +kernel)) rfl rfl dX9_ballotRefusal_61 ?_
                    refine z_get h 15 0 0 (v := .int ((g 0) 7)) rfl rfl iX9_ballotRefusal_X1 (by decide) (List.mem_of_getElem? (i := 3) (by decide +kernel)) rfl rfl dX9_ballotRefusal_64 ?_
                    refine z_bipush h (nI 20) (by decide +kernel) dX9_ballotRefusal_67 ?_
                    refine z_icmp_lt h 76 dX9_ballotRefusal_69 (by decide) (fun c_69 => ?_) (fun c_69 => ?_)
                    · refine z_iconst h (nI 0) (by decide +kernel) dX9_ballotRefusal_76 ?_
                      exact z_iret h hf rfl (by simp only [baC, baK, if_neg c_4, if_neg c_11, if_neg c_18, if_pos c_25, if_pos c_30, if_neg c_37, if_neg c_42, if_pos c_47, if_pos c_52, if_pos c_69]) rfl dX9_ballotRefusal_77
                    · refine z_iconst h (nI 3) (by decide +kernel) dX9_ballotRefusal_72 ?_
                      refine z_goto h 77 dX9_ballotRefusal_73 (by decide) ?_
                      exact z_iret h hf rfl (by simp only [baC, baK, if_neg c_4, if_neg c_11, if_neg c_18, if_pos c_25, if_pos c_30, if_neg c_37, if_neg c_42, if_pos c_47, if_pos c_52, if_neg c_69]) rfl dX9_ballotRefusal_77
                  · exact absurd c_25 c_52
          · refine z_iconst h (nI 2) (by decide +kernel) dX9_ballotRefusal_33 ?_
            exact z_iret h hf rfl (by simp only [baC, baK, if_neg c_4, if_neg c_11, if_neg c_18, if_pos c_25, if_neg c_30]) rfl dX9_ballotRefusal_34
      · refine z_iconst h (nI 2) (by decide +kernel) dX9_ballotRefusal_21 ?_
        exact z_iret h hf rfl (by simp only [baC, baK, if_neg c_4, if_neg c_11, if_pos c_18]) rfl dX9_ballotRefusal_22

