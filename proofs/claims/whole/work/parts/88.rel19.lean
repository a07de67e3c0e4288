/-! the relation, on: one order read -/
theorem nw_cg {B B' : Nat → Int32} {n : Nat} (hB : ∀ j, j < n → B j = B' j) (i : Nat) (a b : Int32) : nwC B n i a b = nwC B' n i a b := by
  unfold nwC
  by_cases q : n ≤ i
  · rw [if_pos q, if_pos q]
  · rw [if_neg q, if_neg q, hB i (by omega)]
theorem sk_cg {B B' : Nat → Int32} {n : Nat} (hB : ∀ j, j < n → B j = B' j) (a b : Int32) (i : Nat) : skE B n a b i = skE B' n a b i := by
  have h1 : ∀ k i, skN B n a b k i = skN B' n a b k i := by
    intro k
    induction k with
    | zero => intro i; rfl
    | succ k ih =>
      intro i
      show (if nwC B n i a b = 0 then i else skN B n a b k (i + 1)) = (if nwC B' n i a b = 0 then i else skN B' n a b k (i + 1))
      rw [nw_cg hB, ih]
  exact h1 _ _
theorem dg_cg {B B' : Nat → Int32} {n : Nat} (hB : ∀ j, j < n → B j = B' j) : ∀ k p v, dgR B n k p v = dgM B' n k p v
  | 0, p, v => rfl
  | k + 1, p, v => by
    show (if nwC B n p (nI 48) (nI 57) = 0 then (p, v) else dgR B n k (p + 1) (v * nI 10 + B p - nI 48)) = (if nwC B' n p (nI 48) (nI 57) = 0 then (p, v) else dgM B' n k (p + 1) (nI 10 * v + B' p - nI 48))
    rw [nw_cg hB]
    by_cases q : nwC B' n p (nI 48) (nI 57) = 0
    · rw [if_pos q, if_pos q]
    · rw [if_neg q, if_neg q, dg_cg hB k, hB p (nwC_lt q), Int32.mul_comm]
theorem lt_cg {B B' : Nat → Int32} {n s : Nat} (hB : ∀ j, j < n → B j = B' j) : ∀ d, s + d ≤ n → ltI B s d = ltI B' s d
  | 0, _ => rfl
  | d + 1, h => by
    show (if 5 ≤ d then nI 0 else nI 27 * ltI B s d + B (s + d) - nI 96) = (if 5 ≤ d then nI 0 else nI 27 * ltI B' s d + B' (s + d) - nI 96)
    rw [lt_cg hB d (by omega), hB _ (by omega)]
theorem wo_cg {B B' : Nat → Int32} {n s e : Nat} (hB : ∀ j, j < n → B j = B' j) (hs : s ≤ e) (he : e ≤ n) : woC B s e = woC B' s e := by
  unfold woC
  rw [lt_cg hB (e - s) (by omega)]
/-- a digit is neither a space nor a semicolon -/
theorem nw_dig {B : Nat → Int32} {n q : Nat} (h : ¬ nwC B n q (nI 48) (nI 57) = 0) : nwC B n q (nI 32) (nI 32) = 0 ∧ nwC B n q (nI 59) (nI 59) = 0 := by
  unfold nwC at h ⊢
  by_cases c1 : n ≤ q
  · rw [if_pos c1] at h; exact absurd rfl h
  rw [if_neg c1] at h
  rw [if_neg c1, if_neg c1]
  by_cases c2 : B q < nI 48
  · rw [if_pos c2] at h; exact absurd rfl h
  rw [if_neg c2] at h
  by_cases c3 : nI 57 < B q
  · rw [if_pos c3] at h; exact absurd rfl h
  have h1 := not_lt32.mp c2
  have h2 := not_lt32.mp c3
  rw [if_neg (show ¬ B q < nI 32 from fun x => Int32.lt_irrefl (Int32.lt_of_lt_of_le x (Int32.le_trans (by decide +kernel : nI 32 ≤ nI 48) h1))), if_pos (show nI 32 < B q from Int32.lt_of_lt_of_le (by decide +kernel) h1), if_pos (show B q < nI 59 from Int32.lt_of_le_of_lt h2 (by decide +kernel))]
  exact ⟨rfl, rfl⟩
/-- the model's numbers and the semicolon behind them -/
def ogT (B : Nat → Int32) (n k j p : Nat) (N : Nat → Int32) : Nat × (Nat → Int32) × Int32 := if (mmR B n k j p N).2.2 = (-1) then (skE B n (nI 32) (nI 32) (mmR B n k j p N).1 + 1, (mmR B n k j p N).2.1, if nwC B n (skE B n (nI 32) (nI 32) (mmR B n k j p N).1) (nI 59) (nI 59) = 0 then nI (skE B n (nI 32) (nI 32) (mmR B n k j p N).1) else (-1)) else ((mmR B n k j p N).1 + 1, (mmR B n k j p N).2.1, (mmR B n k j p N).2.2)
theorem ogR_T (B : Nat → Int32) (n w e : Nat) (N : Nat → Int32) : ogR B n w e N = ogT B n (nbN w) 0 e N := by
  have e1 : mmS B n (nbN w) 0 e N (-1) = mmR B n (nbN w) 0 e N := if_pos rfl
  unfold ogR ogT
  rw [e1]
theorem nm_og {B B' : Nat → Int32} {n : Nat} (hn : n ≤ 150) (hB : ∀ j, j < n → B j = B' j) (f0 : Int32) : ∀ k j p N N', p ≤ n → (∀ i, i < j → N i = N' i) → ((nmR B n f0 k j p N).1 = nI 1 ∧ (ogT B' n k j p N').2.2 = (-1) ∧ (nmR B n f0 k j p N).2.1 = (ogT B' n k j p N').1 ∧ (nmR B n f0 k j p N).2.2.2 = f0 ∧ (∀ i, i < j + k → (nmR B n f0 k j p N).2.2.1 i = (ogT B' n k j p N').2.1 i) ∧ p < (nmR B n f0 k j p N).2.1 ∧ (nmR B n f0 k j p N).2.1 ≤ n) ∨ ((nmR B n f0 k j p N).1 = nI 0 ∧ ∃ t, t ≤ n ∧ (ogT B' n k j p N').2.2 = nI t ∧ (nmR B n f0 k j p N).2.2.2 = nI t)
  | 0, j, p, N, N', hp, hN => by
    obtain ⟨s1, s2⟩ := skE_le B (nI 32) (nI 32) hp
    have eT : ogT B' n 0 j p N' = (skE B' n (nI 32) (nI 32) p + 1, N', if nwC B' n (skE B' n (nI 32) (nI 32) p) (nI 59) (nI 59) = 0 then nI (skE B' n (nI 32) (nI 32) p) else (-1)) := if_pos rfl
    have eN : nmR B n f0 0 j p N = if smF B n p = 0 then (nI 0, skE B n (nI 32) (nI 32) p, N, nI (skE B n (nI 32) (nI 32) p)) else (nI 1, skE B n (nI 32) (nI 32) p + 1, N, f0) := rfl
    rw [eT, eN, ← sk_cg hB, ← nw_cg hB]
    unfold smF
    by_cases q : nwC B n (skE B n (nI 32) (nI 32) p) (nI 59) (nI 59) = 0
    · rw [if_pos q, if_pos q]
      exact Or.inr ⟨rfl, _, s2, rfl, rfl⟩
    · rw [if_neg q, if_neg q]
      have := nwC_lt q
      exact Or.inl ⟨rfl, rfl, rfl, rfl, fun i hi => hN i (by omega), by dsimp only; omega, by dsimp only; omega⟩
  | k + 1, j, p, N, N', hp, hN => by
    obtain ⟨s1, s2⟩ := skE_le B (nI 32) (nI 32) hp
    have eN : nmR B n f0 (k + 1) j p N = if rnF B n p = 0 then (nI 0, skE B n (nI 32) (nI 32) p, N, nI (skE B n (nI 32) (nI 32) p)) else nmR B n f0 k (j + 1) (rnD B n p).1 (upd N j (rnD B n p).2) := rfl
    have eM : mmR B' n (k + 1) j p N' = if (rm9 B' n p).2.2 = (-1) then mmR B' n k (j + 1) (rm9 B' n p).2.1 (upd N' j (rm9 B' n p).1) else ((rm9 B' n p).2.1, upd N' j (rm9 B' n p).1, (rm9 B' n p).2.2) := rfl
    -- a fault t
    have bad : ∀ t, t ≤ n → (rm9 B' n p).2.2 = nI t → (ogT B' n (k + 1) j p N').2.2 = nI t := fun t ht h => by
      have hn1 : ¬ (rm9 B' n p).2.2 = (-1) := by rw [h]; exact nI_n1 (by omega)
      unfold ogT
      rw [eM, if_neg hn1]
      dsimp only
      rw [if_neg hn1]
      exact h
    have good : (rm9 B' n p).2.2 = (-1) → ogT B' n (k + 1) j p N' = ogT B' n k (j + 1) (rm9 B' n p).2.1 (upd N' j (rm9 B' n p).1) := fun h => by
      unfold ogT
      rw [eM, if_pos h]
    rw [eN]
    by_cases c1 : nwC B n p (nI 32) (nI 32) = 0
    · have e1 : skE B n (nI 32) (nI 32) p = p := skE_0 c1
      have e2 : rnF B n p = 0 := if_pos e1
      have e3 : rm9 B' n p = (nI 0, p, nI p) := by
        unfold rm9
        rw [if_pos (show nwC B' n p (nI 32) (nI 32) = 0 by rw [← nw_cg hB]; exact c1)]
      rw [if_pos e2, e1]
      exact Or.inr ⟨rfl, p, hp, bad p hp (by rw [e3]), rfl⟩
    have c1' : ¬ nwC B' n p (nI 32) (nI 32) = 0 := by rw [← nw_cg hB]; exact c1
    have hgt : p < skE B n (nI 32) (nI 32) p := by
      rw [skE_1 c1]
      have := nwC_lt c1
      have := (skE_le B (nI 32) (nI 32) (show p + 1 ≤ n by omega)).1
      omega
    have hF : rnF B n p = nwC B n (skE B n (nI 32) (nI 32) p) (nI 48) (nI 57) := if_neg (by omega)
    rw [hF]
    by_cases c2 : nwC B n (skE B n (nI 32) (nI 32) p) (nI 48) (nI 57) = 0
    · rw [if_pos c2]
      have e3 : rm9 B' n p = (nI 0, skE B' n (nI 32) (nI 32) p, nI (skE B' n (nI 32) (nI 32) p)) := by
        unfold rm9
        rw [if_neg c1', if_pos (show nwC B' n (skE B' n (nI 32) (nI 32) p) (nI 48) (nI 57) = 0 by rw [← sk_cg hB, ← nw_cg hB]; exact c2)]
      exact Or.inr ⟨rfl, _, s2, bad _ s2 (by rw [e3, ← sk_cg hB]), rfl⟩
    · rw [if_neg c2]
      have e3 : rm9 B' n p = ((rnD B n p).2, (rnD B n p).1, if nwC B n (rnD B n p).1 (nI 48) (nI 57) = 0 then (-1) else nI (rnD B n p).1) := by
        unfold rm9 rnD
        rw [if_neg c1', ← sk_cg hB, ← nw_cg hB, if_neg c2, ← dg_cg hB, ← nw_cg hB]
      have hd := dg_le B n 4 (skE B n (nI 32) (nI 32) p) (nI 0) s2
      have hd2 : p < (rnD B n p).1 ∧ (rnD B n p).1 ≤ n := by
        unfold rnD
        exact ⟨by omega, hd.2⟩
      generalize rnD B n p = Dp at e3 hd2 ⊢
      obtain ⟨hd3, hd4⟩ := hd2
      have IH := nm_og hn hB f0 k (j + 1) Dp.1 (upd N j Dp.2) (upd N' j Dp.2) hd4 (fun i hi => by
        by_cases q : i = j
        · rw [q, pk_us, pk_us]
        · rw [pk_un q, pk_un q]; exact hN i (by omega))
      by_cases c3 : nwC B n Dp.1 (nI 48) (nI 57) = 0
      · rw [good (by rw [e3, if_pos c3]), e3]
        dsimp only
        rcases IH with ⟨i1, i2, i3, i4, i5, i6, i7⟩ | IH
        · exact Or.inl ⟨i1, i2, i3, i4, fun i hi => i5 i (by omega), by omega, i7⟩
        · exact Or.inr IH
      · -- a fifth digit: the class finds it with the next it wants
        obtain ⟨q1, q2⟩ := nw_dig c3
        have e1 : skE B n (nI 32) (nI 32) Dp.1 = Dp.1 := skE_0 q1
        have ef : (ogT B' n (k + 1) j p N').2.2 = nI Dp.1 := bad _ hd4 (by rw [e3, if_neg c3])
        have ec : (nmR B n f0 k (j + 1) Dp.1 (upd N j Dp.2)).1 = nI 0 ∧ (nmR B n f0 k (j + 1) Dp.1 (upd N j Dp.2)).2.2.2 = nI Dp.1 := by
          cases k with
          | zero =>
            have e5 : nmR B n f0 0 (j + 1) Dp.1 (upd N j Dp.2) = if smF B n Dp.1 = 0 then (nI 0, skE B n (nI 32) (nI 32) Dp.1, upd N j Dp.2, nI (skE B n (nI 32) (nI 32) Dp.1)) else (nI 1, skE B n (nI 32) (nI 32) Dp.1 + 1, upd N j Dp.2, f0) := rfl
            rw [e5, if_pos (show smF B n Dp.1 = 0 by unfold smF; rw [e1]; exact q2), e1]
            exact ⟨rfl, rfl⟩
          | succ k =>
            have e5 : nmR B n f0 (k + 1) (j + 1) Dp.1 (upd N j Dp.2) = if rnF B n Dp.1 = 0 then (nI 0, skE B n (nI 32) (nI 32) Dp.1, upd N j Dp.2, nI (skE B n (nI 32) (nI 32) Dp.1)) else nmR B n f0 k (j + 1 + 1) (rnD B n Dp.1).1 (upd (upd N j Dp.2) (j + 1) (rnD B n Dp.1).2) := rfl
            rw [e5, if_pos (show rnF B n Dp.1 = 0 from if_pos e1), e1]
            exact ⟨rfl, rfl⟩
        exact Or.inr ⟨ec.1, Dp.1, hd4, ef, ec.2⟩
