/-! the order text's reader -/
def nwC (B : Nat → Int32) (n i : Nat) (a b : Int32) : Int32 := if n ≤ i then nI 0 else if B i < a then nI 0 else if b < B i then nI 0 else nI 1
theorem nwC_01 (B : Nat → Int32) (n i : Nat) (a b : Int32) : nwC B n i a b = nI 0 ∨ nwC B n i a b = nI 1 := by
  unfold nwC
  split
  · exact Or.inl rfl
  · split
    · exact Or.inl rfl
    · split
      · exact Or.inl rfl
      · exact Or.inr rfl
theorem nwC_nz (B : Nat → Int32) (n i : Nat) (a b : Int32) : narrow .boolean (.int (nwC B n i a b)) = .int (nwC B n i a b) := by
  rcases nwC_01 B n i a b with e | e <;> rw [e] <;> decide +kernel
theorem nwC_lt {B : Nat → Int32} {n i : Nat} {a b : Int32} (h : ¬ nwC B n i a b = 0) : i < n := by
  unfold nwC at h
  by_cases q : n ≤ i
  · exact absurd (if_pos q) h
  · omega
def skN (B : Nat → Int32) (n : Nat) (a b : Int32) : Nat → Nat → Nat
  | 0, i => i
  | k + 1, i => if nwC B n i a b = 0 then i else skN B n a b k (i + 1)
def skE (B : Nat → Int32) (n : Nat) (a b : Int32) (i : Nat) : Nat := skN B n a b (n - i) i
theorem skE_0 {B : Nat → Int32} {n i : Nat} {a b : Int32} (h : nwC B n i a b = 0) : skE B n a b i = i := by
  unfold skE
  cases n - i with
  | zero => rfl
  | succ k => exact if_pos h
theorem skE_n {B : Nat → Int32} {n i : Nat} {a b : Int32} (h : n ≤ i) : skE B n a b i = i := by
  unfold skE
  rw [show n - i = 0 by omega]
  rfl
theorem skE_1 {B : Nat → Int32} {n i : Nat} {a b : Int32} (h : ¬ nwC B n i a b = 0) : skE B n a b i = skE B n a b (i + 1) := by
  have hi := nwC_lt h
  unfold skE
  rw [show n - i = (n - (i + 1)) + 1 by omega]
  exact if_neg h
theorem skN_le (B : Nat → Int32) (n : Nat) (a b : Int32) : ∀ k i, i + k ≤ n → i ≤ skN B n a b k i ∧ skN B n a b k i ≤ n
  | 0, i, h => ⟨Nat.le_refl i, h⟩
  | k + 1, i, h => by
    unfold skN
    split
    · exact ⟨Nat.le_refl i, by omega⟩
    · have := skN_le B n a b k (i + 1) (by omega)
      exact ⟨by omega, this.2⟩
theorem skE_le (B : Nat → Int32) {n i : Nat} (a b : Int32) (h : i ≤ n) : i ≤ skE B n a b i ∧ skE B n a b i ≤ n := skN_le B n a b (n - i) i (by omega)
theorem zOt_at {y : zY} {q : Nat → Nat} {o : Nat → Nat → Int32} {x : Int32} (h : o 0 2 = x) : zOt y q o = zOt y q (va_up o 0 (upd (o 0) 2 x)) := by
  have e : (va_up o 0 (upd (o 0) 2 x)) 0 2 = o 0 2 := h.symm
  unfold zOt
  rw [e]
  rfl
def dgR (B : Nat → Int32) (n : Nat) : Nat → Nat → Int32 → Nat × Int32
  | 0, p, v => (p, v)
  | k + 1, p, v => if nwC B n p (nI 48) (nI 57) = 0 then (p, v) else dgR B n k (p + 1) (v * nI 10 + B p - nI 48)
theorem dg_0 {B : Nat → Int32} {n p : Nat} {v : Int32} (k : Nat) (h : nwC B n p (nI 48) (nI 57) = 0) : dgR B n k p v = (p, v) := by
  cases k with
  | zero => rfl
  | succ k => exact if_pos h
theorem dg_1 {B : Nat → Int32} {n p d : Nat} {v : Int32} {R : Nat × Int32} (hd : d < 4) (hR : dgR B n (4 - d) p v = R) (h : ¬ nwC B n p (nI 48) (nI 57) = 0) : dgR B n (4 - (d + 1)) (p + 1) (v * nI 10 + B p - nI 48) = R := by
  rw [← hR, show 4 - d = (4 - (d + 1)) + 1 by omega]
  exact (if_neg h).symm
theorem dg_le (B : Nat → Int32) (n : Nat) : ∀ k p v, p ≤ n → p ≤ (dgR B n k p v).1 ∧ (dgR B n k p v).1 ≤ n
  | 0, p, v, h => ⟨Nat.le_refl p, h⟩
  | k + 1, p, v, h => by
    unfold dgR
    split
    · exact ⟨Nat.le_refl p, h⟩
    · rename_i q
      have := dg_le B n k (p + 1) (v * nI 10 + B p - nI 48) (nwC_lt q)
      exact ⟨by omega, this.2⟩
def rnF (B : Nat → Int32) (n i : Nat) : Int32 := if skE B n (nI 32) (nI 32) i = i then nI 0 else nwC B n (skE B n (nI 32) (nI 32) i) (nI 48) (nI 57)
def rnD (B : Nat → Int32) (n i : Nat) : Nat × Int32 := dgR B n 4 (skE B n (nI 32) (nI 32) i) (nI 0)
def rnG0 (o : Nat → Nat → Int32) (n i : Nat) : Nat → Nat → Int32 := va_up o 0 (upd (upd (o 0) 2 (nI (skE (o 2) n (nI 32) (nI 32) i))) 3 (nI (skE (o 2) n (nI 32) (nI 32) i)))
def rnG1 (o : Nat → Nat → Int32) (n i k : Nat) : Nat → Nat → Int32 := va_up (va_up o 0 (upd (o 0) 2 (nI (rnD (o 2) n i).1))) 1 (upd (o 1) k (rnD (o 2) n i).2)
theorem rnD_le (B : Nat → Int32) {n i : Nat} (h : i ≤ n) : i ≤ (rnD B n i).1 ∧ (rnD B n i).1 ≤ n := by
  have h1 := skE_le B (nI 32) (nI 32) h
  have h2 := dg_le B n 4 (skE B n (nI 32) (nI 32) i) (nI 0) h1.2
  exact ⟨Nat.le_trans h1.1 h2.1, h2.2⟩
def smF (B : Nat → Int32) (n i : Nat) : Int32 := nwC B n (skE B n (nI 32) (nI 32) i) (nI 59) (nI 59)
def smG1 (o : Nat → Nat → Int32) (n i : Nat) : Nat → Nat → Int32 := va_up o 0 (upd (o 0) 2 (nI (skE (o 2) n (nI 32) (nI 32) i + 1)))
def spR (B : Nat → Int32) (w s : Nat) : Nat → Nat → Int32
  | 0, _ => nI 1
  | k + 1, j => if B (s + j) = wbN w j then spR B w s k (j + 1) else nI 0
theorem sp_step {B : Nat → Int32} {w s j : Nat} {R : Int32} (hj : j < wlN w) (h : spR B w s (wlN w - j) j = R) : (B (s + j) = wbN w j → spR B w s (wlN w - (j + 1)) (j + 1) = R) ∧ (¬ B (s + j) = wbN w j → R = nI 0) := by
  subst h
  rw [show wlN w - j = (wlN w - (j + 1)) + 1 by omega]
  exact ⟨fun c => (if_pos c).symm, fun c => if_neg c⟩
def spC (B : Nat → Int32) (w s e : Nat) : Int32 := if wlN w = e - s then spR B w s (wlN w) 0 else nI 0
def wdR (B : Nat → Int32) (s e : Nat) : Nat → Nat → Nat
  | 0, _ => 9
  | k + 1, w => if spC B w s e = 0 then wdR B s e k (w + 1) else w
def wdC (B : Nat → Int32) (s e : Nat) : Nat := wdR B s e 9 0
theorem wd_step {B : Nat → Int32} {s e w R : Nat} (hw : w < 9) (h : wdR B s e (9 - w) w = R) : (spC B w s e = 0 → wdR B s e (9 - (w + 1)) (w + 1) = R) ∧ (¬ spC B w s e = 0 → R = w) := by
  subst h
  rw [show 9 - w = (9 - (w + 1)) + 1 by omega]
  exact ⟨fun c => (if_pos c).symm, fun c => if_neg c⟩
theorem wdR_le (B : Nat → Int32) (s e : Nat) : ∀ k w, w + k = 9 → wdR B s e k w ≤ 9
  | 0, w, h => Nat.le_refl 9
  | k + 1, w, h => by
    unfold wdR
    split
    · exact wdR_le B s e k (w + 1) (by omega)
    · omega
theorem wdC_le (B : Nat → Int32) (s e : Nat) : wdC B s e ≤ 9 := wdR_le B s e 9 0 rfl
theorem zWv_r (y : zY) {w : Nat} (hw : w < 9) : zWv y (nI w) = .ref (y.2 w) := by
  unfold zWv
  rw [nI_clamp (show w < 2 ^ 31 by omega), if_pos hw]
theorem zWv_9 (y : zY) : zWv y (nI 9) = .null := by
  unfold zWv
  rw [nI_clamp (show 9 < 2 ^ 31 by omega)]
  rfl
theorem zWv_f (y : zY) {w : Nat} (hw : w ≤ 9) : fits (.object "SnowSites$Word") (zWv y (nI w)) = true ∧ narrow (.object "SnowSites$Word") (zWv y (nI w)) = zWv y (nI w) := by
  rcases Nat.lt_or_ge w 9 with h | h
  · rw [zWv_r y h]; exact ⟨rfl, rfl⟩
  · rw [show w = 9 by omega, zWv_9]; exact ⟨rfl, rfl⟩
/-- the numbers behind a word, and the semicolon: whether all is there, where, the numbers, the fault -/
def nmR (B : Nat → Int32) (n : Nat) (f0 : Int32) : Nat → Nat → Nat → (Nat → Int32) → Int32 × Nat × (Nat → Int32) × Int32
  | 0, _, p, N => if smF B n p = 0 then (nI 0, skE B n (nI 32) (nI 32) p, N, nI (skE B n (nI 32) (nI 32) p)) else (nI 1, skE B n (nI 32) (nI 32) p + 1, N, f0)
  | k + 1, j, p, N => if rnF B n p = 0 then (nI 0, skE B n (nI 32) (nI 32) p, N, nI (skE B n (nI 32) (nI 32) p)) else nmR B n f0 k (j + 1) (rnD B n p).1 (upd N j (rnD B n p).2)
theorem nm_step {B : Nat → Int32} {n : Nat} {f0 : Int32} {m j p : Nat} {N : Nat → Int32} {R : Int32 × Nat × (Nat → Int32) × Int32} (hj : j < m) (h : nmR B n f0 (m - j) j p N = R) : (rnF B n p = 0 → R = (nI 0, skE B n (nI 32) (nI 32) p, N, nI (skE B n (nI 32) (nI 32) p))) ∧ (¬ rnF B n p = 0 → nmR B n f0 (m - (j + 1)) (j + 1) (rnD B n p).1 (upd N j (rnD B n p).2) = R) := by
  subst h
  rw [show m - j = (m - (j + 1)) + 1 by omega]
  exact ⟨fun c => if_pos c, fun c => (if_neg c).symm⟩
theorem nm_end {B : Nat → Int32} {n : Nat} {f0 : Int32} {m p : Nat} {N : Nat → Int32} {R : Int32 × Nat × (Nat → Int32) × Int32} (h : nmR B n f0 (m - m) m p N = R) : (smF B n p = 0 → R = (nI 0, skE B n (nI 32) (nI 32) p, N, nI (skE B n (nI 32) (nI 32) p))) ∧ (¬ smF B n p = 0 → R = (nI 1, skE B n (nI 32) (nI 32) p + 1, N, f0)) := by
  subst h
  rw [Nat.sub_self]
  exact ⟨fun c => if_pos c, fun c => if_neg c⟩
theorem nb_4 : ∀ w, w < 9 → nbN w ≤ 4 := by decide
/-- where the next order begins, its word's end, its word -/
def roS (B : Nat → Int32) (n i : Nat) : Nat := skE B n (nI 32) (nI 32) i
def roE (B : Nat → Int32) (n i : Nat) : Nat := skE B n (nI 97) (nI 122) (roS B n i)
def roW (B : Nat → Int32) (n i : Nat) : Nat := wdC B (roS B n i) (roE B n i)
def roR (o : Nat → Nat → Int32) (n i : Nat) : Int32 × Nat × (Nat → Int32) × Int32 := nmR (o 2) n (o 0 3) (nbN (roW (o 2) n i)) 0 (roE (o 2) n i) (o 1)
def roF (o : Nat → Nat → Int32) (n i : Nat) : Int32 := if n ≤ roS (o 2) n i then nI 0 else if roW (o 2) n i = 9 then nI 0 else (roR o n i).1
def roM (o : Nat → Nat → Int32) (w p : Nat) (f : Int32) (N : Nat → Int32) : Nat → Nat → Int32 := va_up (va_up o 0 (upd (upd (upd (o 0) 1 (nI w)) 2 (nI p)) 3 f)) 1 N
def roG (o : Nat → Nat → Int32) (n i : Nat) : Nat → Nat → Int32 := if n ≤ roS (o 2) n i then va_up o 0 (upd (o 0) 2 (nI (roS (o 2) n i))) else if roW (o 2) n i = 9 then roM o 9 (roE (o 2) n i) (nI (roS (o 2) n i)) (o 1) else roM o (roW (o 2) n i) (roR o n i).2.1 (roR o n i).2.2.2 (roR o n i).2.2.1
theorem nm_01 (B : Nat → Int32) (n : Nat) (f0 : Int32) : ∀ k j p N, p ≤ n → ((nmR B n f0 k j p N).1 = nI 0 ∨ (nmR B n f0 k j p N).1 = nI 1) ∧ (nmR B n f0 k j p N).2.1 ≤ n
  | 0, j, p, N, hp => by
    have h1 := skE_le B (nI 32) (nI 32) hp
    unfold nmR
    split
    · exact ⟨Or.inl rfl, h1.2⟩
    · rename_i q
      exact ⟨Or.inr rfl, nwC_lt q⟩
  | k + 1, j, p, N, hp => by
    have h1 := skE_le B (nI 32) (nI 32) hp
    unfold nmR
    split
    · exact ⟨Or.inl rfl, h1.2⟩
    · exact nm_01 B n f0 k (j + 1) _ _ (rnD_le B hp).2
theorem roF_01 {o : Nat → Nat → Int32} {n i : Nat} (hi : i ≤ n) : roF o n i = nI 0 ∨ roF o n i = nI 1 := by
  unfold roF
  have h1 := skE_le (o 2) (nI 32) (nI 32) hi
  have h2 := skE_le (o 2) (nI 97) (nI 122) h1.2
  split
  · exact Or.inl rfl
  · split
    · exact Or.inl rfl
    · exact (nm_01 (o 2) n (o 0 3) _ 0 _ (o 1) h2.2).1
theorem roF_nz {o : Nat → Nat → Int32} {n i : Nat} (hi : i ≤ n) : narrow .boolean (.int (roF o n i)) = .int (roF o n i) := by
  rcases roF_01 (o := o) hi with e | e <;> rw [e] <;> decide +kernel
/-- the text's numbers stand: its length, the place of the reader -/
def okO (o : Nat → Nat → Int32) (n i : Nat) : Prop := o 0 0 = nI n ∧ n ≤ 150 ∧ o 0 2 = nI i ∧ i ≤ n
theorem iX3_isNextWithin_X3 : ∀ w ∈ u_ws RX3 TX3 6, w ∈ wsX3_isNextWithin := by decide +kernel
set_option maxHeartbeats 4000000 in
set_option maxRecDepth 100000 in
/-- isNextWithin -/
theorem c_X3_isNextWithin {l : Launch} {y : zY} {D : va_G} (q : Nat → Nat) (o : Nat → Nat → Int32) (n i : Nat) (hn : o 0 0 = nI n) (hn1 : n ≤ 150) (hi : o 0 2 = nI i) (hi1 : i ≤ n) (a b : Int32) : zM l y D yX3_isNextWithin wsX3_isNextWithin 0 0 [.ref (q 0), .int a, .int b] (zOt y q o) (zOt y q o) (some (.int (nwC (o 2) n i a b))) := by
  refine z_start (own := RX3) (cc := cX3_isNextWithin) (maxL := 3) (ret := (some .boolean)) rfl (by decide +kernel) rfl (Nat.le_of_ble_eq_true rfl) rfl ?_
  intro E hEl hEy hED h hf
  subst hEl hEy hED
  have hkR : 0 ≤ E.2.2.2.2.2.1.cells ∧ 0 ≤ E.2.2.2.2.2.1.slots := ⟨Nat.zero_le _, Nat.zero_le _⟩
  refine z_cast (lv := [(0, .ref (q 0)), (1, .int a), (2, .int b)]) (ws := (zOt (zy E) q o)) (st := []) ?_ rfl rfl rfl
  refine z_aload_n h 0 rfl dX3_isNextWithin_0 ?_
  refine z_get h 0 2 3 (v := .int ((o 0) 2)) rfl rfl iX3_isNextWithin_X3 (by decide) (List.mem_of_getElem? (i := 1) (by decide +kernel)) rfl rfl dX3_isNextWithin_1 ?_
  refine z_top (nI i) hi ?_
  refine z_aload_n h 0 rfl dX3_isNextWithin_4 ?_
  refine z_get h 0 2 0 (v := .int ((o 0) 0)) rfl rfl iX3_isNextWithin_X3 (by decide) (List.mem_of_getElem? (i := 2) (by decide +kernel)) rfl rfl dX3_isNextWithin_5 ?_
  refine z_top (nI n) hn ?_
  refine z_icmp_ge h 41 dX3_isNextWithin_8 (by decide) (fun c_8 => ?_) (fun c_8 => ?_)
  · have k_8 : n ≤ i := (nI_leI (by omega) (by omega)).mp c_8
    refine z_iconst h (nI 0) (by decide +kernel) dX3_isNextWithin_41 ?_
    exact z_zret h hf rfl (by decide +kernel) (by simp only [nwC, if_pos k_8]) rfl dX3_isNextWithin_42
  · have k_8 : ¬ (n ≤ i) := fun q => c_8 ((nI_leI (by omega) (by omega)).mpr q)
    refine z_aload_n h 0 rfl dX3_isNextWithin_11 ?_
    refine z_get h 0 2 5 (v := .ref (q 2)) rfl rfl iX3_isNextWithin_X3 (by decide) (List.mem_of_getElem? (i := 3) (by decide +kernel)) rfl rfl dX3_isNextWithin_12 ?_
    refine z_aload_n h 0 rfl dX3_isNextWithin_15 ?_
    refine z_get h 0 2 3 (v := .int ((o 0) 2)) rfl rfl iX3_isNextWithin_X3 (by decide) (List.mem_of_getElem? (i := 1) (by decide +kernel)) rfl rfl dX3_isNextWithin_16 ?_
    refine z_top (nI i) hi ?_
    refine z_bald h 2 i (f := o 2) rfl rfl rfl (by omega) (by decide) dX3_isNextWithin_19 ?_
    refine z_iload_n h 1 rfl dX3_isNextWithin_20 ?_
    refine z_icmp_lt h 41 dX3_isNextWithin_21 (by decide) (fun c_21 => ?_) (fun c_21 => ?_)
    · refine z_iconst h (nI 0) (by decide +kernel) dX3_isNextWithin_41 ?_
      exact z_zret h hf rfl (by decide +kernel) (by simp only [nwC, if_neg k_8, if_pos c_21]) rfl dX3_isNextWithin_42
    · refine z_aload_n h 0 rfl dX3_isNextWithin_24 ?_
      refine z_get h 0 2 5 (v := .ref (q 2)) rfl rfl iX3_isNextWithin_X3 (by decide) (List.mem_of_getElem? (i := 3) (by decide +kernel)) rfl rfl dX3_isNextWithin_25 ?_
      refine z_aload_n h 0 rfl dX3_isNextWithin_28 ?_
      refine z_get h 0 2 3 (v := .int ((o 0) 2)) rfl rfl iX3_isNextWithin_X3 (by decide) (List.mem_of_getElem? (i := 1) (by decide +kernel)) rfl rfl dX3_isNextWithin_29 ?_
      refine z_top (nI i) hi ?_
      refine z_bald h 2 i (f := o 2) rfl rfl rfl (by omega) (by decide) dX3_isNextWithin_32 ?_
      refine z_iload_n h 2 rfl dX3_isNextWithin_33 ?_
      refine z_icmp_gt h 41 dX3_isNextWithin_34 (by decide) (fun c_34 => ?_) (fun c_34 => ?_)
      · refine z_iconst h (nI 0) (by decide +kernel) dX3_isNextWithin_41 ?_
        exact z_zret h hf rfl (by decide +kernel) (by simp only [nwC, if_neg k_8, if_neg c_21, if_pos c_34]) rfl dX3_isNextWithin_42
      · refine z_iconst h (nI 1) (by decide +kernel) dX3_isNextWithin_37 ?_
        refine z_goto h 42 dX3_isNextWithin_38 (by decide) ?_
        exact z_zret h hf rfl (by decide +kernel) (by simp only [nwC, if_neg k_8, if_neg c_21, if_neg c_34]) rfl dX3_isNextWithin_42

set_option maxHeartbeats 4000000 in
set_option maxRecDepth 100000 in
/-- isDigitNext -/
theorem c_X3_isDigitNext {l : Launch} {y : zY} {D : va_G} (q : Nat → Nat) (o : Nat → Nat → Int32) (n i : Nat) (hn : o 0 0 = nI n) (hn1 : n ≤ 150) (hi : o 0 2 = nI i) (hi1 : i ≤ n) : zM l y D yX3_isDigitNext wsX3_isDigitNext 1 22 [.ref (q 0)] (zOt y q o) (zOt y q o) (some (.int (nwC (o 2) n i (nI 48) (nI 57)))) := by
  refine z_start (own := RX3) (cc := cX3_isDigitNext) (maxL := 1) (ret := (some .boolean)) rfl (by decide +kernel) rfl (Nat.le_of_ble_eq_true rfl) rfl ?_
  intro E hEl hEy hED h hf
  subst hEl hEy hED
  have hkR : 0 ≤ E.2.2.2.2.2.1.cells ∧ 0 ≤ E.2.2.2.2.2.1.slots := ⟨Nat.zero_le _, Nat.zero_le _⟩
  refine z_cast (lv := [(0, .ref (q 0))]) (ws := (zOt (zy E) q o)) (st := []) ?_ rfl rfl rfl
  refine z_aload_n h 0 rfl dX3_isDigitNext_0 ?_
  refine z_bipush h (nI 48) (by decide +kernel) dX3_isDigitNext_1 ?_
  refine z_bipush h (nI 57) (by decide +kernel) dX3_isDigitNext_3 ?_
  refine z_wV h (As := [.int (nI 48), .int (nI 57)]) (st := []) (ws2 := zOt (zy E) q o) (r := some (.int (nwC (o 2) n i (nI 48) (nI 57)))) 2 (c_X3_isNextWithin q o n i hn hn1 hi hi1 (nI 48) (nI 57)) gX3_isDigitNext_X3_isNextWithin (q0 := 0) (ci := 2) (by decide +kernel) rfl rfl rfl ⟨by decide, by decide⟩ (Nat.le_of_ble_eq_true rfl) rfl rfl dX3_isDigitNext_5 ?_ hkR
  exact z_zret h hf rfl (nwC_nz _ _ _ _ _) rfl rfl dX3_isDigitNext_8

theorem iX3_skipSpaces_X3 : ∀ w ∈ u_ws RX3 TX3 6, w ∈ wsX3_skipSpaces := by decide +kernel
set_option maxHeartbeats 4000000 in
set_option maxRecDepth 100000 in
/-- X3_skipSpaces -/
theorem c_X3_skipSpaces {l : Launch} {y : zY} {D : va_G} (q : Nat → Nat) (o : Nat → Nat → Int32) (n i : Nat) (hn : o 0 0 = nI n) (hn1 : n ≤ 150) (hi : o 0 2 = nI i) (hi1 : i ≤ n) : zM l y D yX3_skipSpaces wsX3_skipSpaces 1 22 [.ref (q 0)] (zOt y q o) (zOt y q (va_up o 0 (upd (o 0) 2 (nI (skE (o 2) n (nI 32) (nI 32) i))))) (none) := by
  refine z_start (own := RX3) (cc := cX3_skipSpaces) (maxL := 1) (ret := none) rfl (by decide +kernel) rfl (Nat.le_of_ble_eq_true rfl) rfl ?_
  intro E hEl hEy hED h hf
  subst hEl hEy hED
  have hkR : 0 ≤ E.2.2.2.2.2.1.cells ∧ 0 ≤ E.2.2.2.2.2.1.slots := ⟨Nat.zero_le _, Nat.zero_le _⟩
  refine z_cast (lv := [(0, .ref (q 0))]) (ws := (zOt (zy E) q o)) (st := []) ?_ rfl rfl rfl
  have lp_0 : ∀ (d_0 j : Nat), n < j + d_0 → j ≤ n → (skE (o 2) n (nI 32) (nI 32) j = skE (o 2) n (nI 32) (nI 32) i) → Z E 0 0 [(0, .ref (q 0))] (zOt (zy E) q (va_up o 0 (upd (o 0) 2 (nI j)))) 0 [] := by
    intro d_0
    induction d_0 with
    | zero => intro j  q1 q2; omega
    | succ d_0 ih_0 =>
      intro j  q1_0 q2_0 hj
      refine z_aload_n h 0 rfl dX3_skipSpaces_0 ?_
      refine z_get h 0 2 3 (v := .int ((upd (o 0) 2 (nI j)) 2)) rfl rfl iX3_skipSpaces_X3 (by decide) (List.mem_of_getElem? (i := 1) (by decide +kernel)) rfl rfl dX3_skipSpaces_1 ?_
      refine z_top (nI j) rfl ?_
      refine z_aload_n h 0 rfl dX3_skipSpaces_4 ?_
      refine z_get h 0 2 0 (v := .int ((upd (o 0) 2 (nI j)) 0)) rfl rfl iX3_skipSpaces_X3 (by decide) (List.mem_of_getElem? (i := 2) (by decide +kernel)) rfl rfl dX3_skipSpaces_5 ?_
      refine z_top (nI n) hn ?_
      refine z_icmp_ge h 35 dX3_skipSpaces_8 (by decide) (fun c_8 => ?_) (fun c_8 => ?_)
      · have k_8 : n ≤ j := (nI_leI (by omega) (by omega)).mp c_8
        exact z_vret h hf rfl rfl (by rw [← hj, skE_n k_8]) dX3_skipSpaces_35
      · have k_8 : ¬ (n ≤ j) := fun q => c_8 ((nI_leI (by omega) (by omega)).mpr q)
        refine z_aload_n h 0 rfl dX3_skipSpaces_11 ?_
        refine z_bipush h (nI 32) (by decide +kernel) dX3_skipSpaces_12 ?_
        refine z_bipush h (nI 32) (by decide +kernel) dX3_skipSpaces_14 ?_
        refine z_wV h (As := [.int (nI 32), .int (nI 32)]) (st := []) (ws2 := zOt (zy E) q (va_up o 0 (upd (o 0) 2 (nI j)))) (r := some (.int (nwC (o 2) n j (nI 32) (nI 32)))) 2 (c_X3_isNextWithin q (va_up o 0 (upd (o 0) 2 (nI j))) n j hn hn1 rfl (by omega) (nI 32) (nI 32)) gX3_skipSpaces_X3_isNextWithin (q0 := 0) (ci := 2) (by decide +kernel) rfl rfl rfl ⟨by decide, by decide⟩ (Nat.le_of_ble_eq_true rfl) rfl rfl dX3_skipSpaces_16 ?_ hkR
        refine z_if_eq h 35 dX3_skipSpaces_19 (by decide) (fun c_19 => ?_) (fun c_19 => ?_)
        · exact z_vret h hf rfl rfl (by rw [← hj, skE_0 (B := o 2) c_19]) dX3_skipSpaces_35
        · refine z_aload_n h 0 rfl dX3_skipSpaces_22 ?_
          refine z_dup h dX3_skipSpaces_23 rfl ?_
          refine z_get h 0 2 3 (v := .int ((upd (o 0) 2 (nI j)) 2)) rfl rfl iX3_skipSpaces_X3 (by decide) (List.mem_of_getElem? (i := 1) (by decide +kernel)) rfl rfl dX3_skipSpaces_24 ?_
          refine z_top (nI j) rfl ?_
          refine z_iconst h (nI 1) (by decide +kernel) dX3_skipSpaces_27 ?_
          refine z_iadd h dX3_skipSpaces_28 ?_
          refine z_top (nI (j + 1)) (nI_add _ _) ?_
          refine z_put h 0 2 3 (ws' := zOt (zy E) q (va_up o 0 (upd (upd (o 0) 2 (nI j)) 2 (nI (j + 1))))) tyX3 .int rfl rfl iX3_skipSpaces_X3 tyX3_ok nmX3 (by decide) (List.mem_of_getElem? (i := 1) (by decide +kernel)) rfl rfl (by decide +kernel) rfl rfl (Nat.le_of_ble_eq_true rfl) rfl dX3_skipSpaces_29 ?_
          refine z_goto h 0 dX3_skipSpaces_32 (by decide) ?_
          refine z_sub [0] (lv' := [(0, .ref (q 0))]) rfl ?_
          exact z_cast (ih_0 (j + 1) (by omega) (by omega) ((skE_1 c_19).symm.trans hj)) rfl rfl rfl
  refine z_sub [0] (lv' := [(0, .ref (q 0))]) rfl ?_
  exact z_cast (lp_0 (n + 1) i (by omega) (by omega) rfl) rfl (zOt_at hi) rfl

theorem iX3_skipLetters_X3 : ∀ w ∈ u_ws RX3 TX3 6, w ∈ wsX3_skipLetters := by decide +kernel
set_option maxHeartbeats 4000000 in
set_option maxRecDepth 100000 in
/-- X3_skipLetters -/
theorem c_X3_skipLetters {l : Launch} {y : zY} {D : va_G} (q : Nat → Nat) (o : Nat → Nat → Int32) (n i : Nat) (hn : o 0 0 = nI n) (hn1 : n ≤ 150) (hi : o 0 2 = nI i) (hi1 : i ≤ n) : zM l y D yX3_skipLetters wsX3_skipLetters 1 22 [.ref (q 0)] (zOt y q o) (zOt y q (va_up o 0 (upd (o 0) 2 (nI (skE (o 2) n (nI 97) (nI 122) i))))) (none) := by
  refine z_start (own := RX3) (cc := cX3_skipLetters) (maxL := 1) (ret := none) rfl (by decide +kernel) rfl (Nat.le_of_ble_eq_true rfl) rfl ?_
  intro E hEl hEy hED h hf
  subst hEl hEy hED
  have hkR : 0 ≤ E.2.2.2.2.2.1.cells ∧ 0 ≤ E.2.2.2.2.2.1.slots := ⟨Nat.zero_le _, Nat.zero_le _⟩
  refine z_cast (lv := [(0, .ref (q 0))]) (ws := (zOt (zy E) q o)) (st := []) ?_ rfl rfl rfl
  have lp_0 : ∀ (d_0 j : Nat), n < j + d_0 → j ≤ n → (skE (o 2) n (nI 97) (nI 122) j = skE (o 2) n (nI 97) (nI 122) i) → Z E 0 0 [(0, .ref (q 0))] (zOt (zy E) q (va_up o 0 (upd (o 0) 2 (nI j)))) 0 [] := by
    intro d_0
    induction d_0 with
    | zero => intro j  q1 q2; omega
    | succ d_0 ih_0 =>
      intro j  q1_0 q2_0 hj
      refine z_aload_n h 0 rfl dX3_skipLetters_0 ?_
      refine z_get h 0 2 3 (v := .int ((upd (o 0) 2 (nI j)) 2)) rfl rfl iX3_skipLetters_X3 (by decide) (List.mem_of_getElem? (i := 1) (by decide +kernel)) rfl rfl dX3_skipLetters_1 ?_
      refine z_top (nI j) rfl ?_
      refine z_aload_n h 0 rfl dX3_skipLetters_4 ?_
      refine z_get h 0 2 0 (v := .int ((upd (o 0) 2 (nI j)) 0)) rfl rfl iX3_skipLetters_X3 (by decide) (List.mem_of_getElem? (i := 2) (by decide +kernel)) rfl rfl dX3_skipLetters_5 ?_
      refine z_top (nI n) hn ?_
      refine z_icmp_ge h 35 dX3_skipLetters_8 (by decide) (fun c_8 => ?_) (fun c_8 => ?_)
      · have k_8 : n ≤ j := (nI_leI (by omega) (by omega)).mp c_8
        exact z_vret h hf rfl rfl (by rw [← hj, skE_n k_8]) dX3_skipLetters_35
      · have k_8 : ¬ (n ≤ j) := fun q => c_8 ((nI_leI (by omega) (by omega)).mpr q)
        refine z_aload_n h 0 rfl dX3_skipLetters_11 ?_
        refine z_bipush h (nI 97) (by decide +kernel) dX3_skipLetters_12 ?_
        refine z_bipush h (nI 122) (by decide +kernel) dX3_skipLetters_14 ?_
        refine z_wV h (As := [.int (nI 97), .int (nI 122)]) (st := []) (ws2 := zOt (zy E) q (va_up o 0 (upd (o 0) 2 (nI j)))) (r := some (.int (nwC (o 2) n j (nI 97) (nI 122)))) 2 (c_X3_isNextWithin q (va_up o 0 (upd (o 0) 2 (nI j))) n j hn hn1 rfl (by omega) (nI 97) (nI 122)) gX3_skipLetters_X3_isNextWithin (q0 := 0) (ci := 2) (by decide +kernel) rfl rfl rfl ⟨by decide, by decide⟩ (Nat.le_of_ble_eq_true rfl) rfl rfl dX3_skipLetters_16 ?_ hkR
        refine z_if_eq h 35 dX3_skipLetters_19 (by decide) (fun c_19 => ?_) (fun c_19 => ?_)
        · exact z_vret h hf rfl rfl (by rw [← hj, skE_0 (B := o 2) c_19]) dX3_skipLetters_35
        · refine z_aload_n h 0 rfl dX3_skipLetters_22 ?_
          refine z_dup h dX3_skipLetters_23 rfl ?_
          refine z_get h 0 2 3 (v := .int ((upd (o 0) 2 (nI j)) 2)) rfl rfl iX3_skipLetters_X3 (by decide) (List.mem_of_getElem? (i := 1) (by decide +kernel)) rfl rfl dX3_skipLetters_24 ?_
          refine z_top (nI j) rfl ?_
          refine z_iconst h (nI 1) (by decide +kernel) dX3_skipLetters_27 ?_
          refine z_iadd h dX3_skipLetters_28 ?_
          refine z_top (nI (j + 1)) (nI_add _ _) ?_
          refine z_put h 0 2 3 (ws' := zOt (zy E) q (va_up o 0 (upd (upd (o 0) 2 (nI j)) 2 (nI (j + 1))))) tyX3 .int rfl rfl iX3_skipLetters_X3 tyX3_ok nmX3 (by decide) (List.mem_of_getElem? (i := 1) (by decide +kernel)) rfl rfl (by decide +kernel) rfl rfl (Nat.le_of_ble_eq_true rfl) rfl dX3_skipLetters_29 ?_
          refine z_goto h 0 dX3_skipLetters_32 (by decide) ?_
          refine z_sub [0] (lv' := [(0, .ref (q 0))]) rfl ?_
          exact z_cast (ih_0 (j + 1) (by omega) (by omega) ((skE_1 c_19).symm.trans hj)) rfl rfl rfl
  refine z_sub [0] (lv' := [(0, .ref (q 0))]) rfl ?_
  exact z_cast (lp_0 (n + 1) i (by omega) (by omega) rfl) rfl (zOt_at hi) rfl

theorem iX3_readNumber_X3 : ∀ w ∈ u_ws RX3 TX3 6, w ∈ wsX3_readNumber := by decide +kernel
set_option maxHeartbeats 4000000 in
set_option maxRecDepth 100000 in
/-- readNumber: no number -/
theorem c_X3_readNumber_0 {l : Launch} {y : zY} {D : va_G} (q : Nat → Nat) (o : Nat → Nat → Int32) (n i : Nat) (hn : o 0 0 = nI n) (hn1 : n ≤ 150) (hi : o 0 2 = nI i) (hi1 : i ≤ n) (k : Nat) (hk : k < 4) (h0 : rnF (o 2) n i = 0) : zM l y D yX3_readNumber wsX3_readNumber 2 42 [.ref (q 0), .int (nI k)] (zOt y q o) (zOt y q (rnG0 o n i)) (some (.int (nI 0))) := by
  have hs9 := (skE_le (o 2) (nI 32) (nI 32) hi1).2
  refine z_start (own := RX3) (cc := cX3_readNumber) (maxL := 5) (ret := (some .boolean)) rfl (by decide +kernel) rfl (Nat.le_of_ble_eq_true rfl) rfl ?_
  intro E hEl hEy hED h hf
  subst hEl hEy hED
  have hkR : 0 ≤ E.2.2.2.2.2.1.cells ∧ 0 ≤ E.2.2.2.2.2.1.slots := ⟨Nat.zero_le _, Nat.zero_le _⟩
  refine z_cast (lv := [(0, .ref (q 0)), (1, .int (nI k))]) (ws := (zOt (zy E) q o)) (st := []) ?_ rfl rfl rfl
  refine z_aload_n h 0 rfl dX3_readNumber_0 ?_
  refine z_get h 0 2 3 (v := .int ((o 0) 2)) rfl rfl iX3_readNumber_X3 (by decide) (List.mem_of_getElem? (i := 1) (by decide +kernel)) rfl rfl dX3_readNumber_1 ?_
  refine z_top (nI i) hi ?_
  refine z_istore_n h (by decide) (lv' := [(2, .int (nI i)), (0, .ref (q 0)), (1, .int (nI k))]) rfl dX3_readNumber_4 ?_
  refine z_aload_n h 1 rfl dX3_readNumber_5 ?_
  refine z_wV h (As := []) (st := []) (ws2 := zOt (zy E) q (va_up o 0 (upd (o 0) 2 (nI (skE (o 2) n (nI 32) (nI 32) i))))) (r := none) 0 (c_X3_skipSpaces q o n i hn hn1 (by first | exact hi | rfl) (by first | exact hi1 | exact (skE_le (o 2) (nI 32) (nI 32) hi1).2)) gX3_readNumber_X3_skipSpaces (q0 := 0) (ci := 2) (by decide +kernel) rfl rfl rfl ⟨by decide, by decide⟩ (Nat.le_of_ble_eq_true rfl) rfl rfl dX3_readNumber_6 ?_ hkR
  refine z_aload_n h 1 rfl dX3_readNumber_9 ?_
  refine z_get h 0 2 3 (v := .int ((upd (o 0) 2 (nI (skE (o 2) n (nI 32) (nI 32) i))) 2)) rfl rfl iX3_readNumber_X3 (by decide) (List.mem_of_getElem? (i := 1) (by decide +kernel)) rfl rfl dX3_readNumber_10 ?_
  refine z_top (nI (skE (o 2) n (nI 32) (nI 32) i)) rfl ?_
  refine z_iload_n h 0 rfl dX3_readNumber_13 ?_
  refine z_icmp_eq h 24 dX3_readNumber_14 (by decide) (fun c_14 => ?_) (fun c_14 => ?_)
  · have k_14 : (skE (o 2) n (nI 32) (nI 32) i) = i := (nI_eq (by omega) (by omega)).mp c_14
    refine z_aload_n h 1 rfl dX3_readNumber_24 ?_
    refine z_aload_n h 1 rfl dX3_readNumber_25 ?_
    refine z_get h 0 2 3 (v := .int ((upd (o 0) 2 (nI (skE (o 2) n (nI 32) (nI 32) i))) 2)) rfl rfl iX3_readNumber_X3 (by decide) (List.mem_of_getElem? (i := 1) (by decide +kernel)) rfl rfl dX3_readNumber_26 ?_
    refine z_top (nI (skE (o 2) n (nI 32) (nI 32) i)) rfl ?_
    refine z_put h 0 2 4 (ws' := zOt (zy E) q (va_up o 0 (upd (upd (o 0) 2 (nI (skE (o 2) n (nI 32) (nI 32) i))) 3 (nI (skE (o 2) n (nI 32) (nI 32) i))))) tyX3 .int rfl rfl iX3_readNumber_X3 tyX3_ok nmX3 (by decide) (List.mem_of_getElem? (i := 2) (by decide +kernel)) rfl rfl (by decide +kernel) rfl rfl (Nat.le_of_ble_eq_true rfl) rfl dX3_readNumber_29 ?_
    refine z_iconst h (nI 0) (by decide +kernel) dX3_readNumber_32 ?_
    exact z_zret h hf rfl (by decide +kernel) rfl rfl dX3_readNumber_33
  · have k_14 : ¬ ((skE (o 2) n (nI 32) (nI 32) i) = i) := fun q => c_14 ((nI_eq (by omega) (by omega)).mpr q)
    refine z_aload_n h 1 rfl dX3_readNumber_17 ?_
    refine z_wV h (As := []) (st := []) (ws2 := zOt (zy E) q (va_up o 0 (upd (o 0) 2 (nI (skE (o 2) n (nI 32) (nI 32) i))))) (r := some (.int (nwC (o 2) n (skE (o 2) n (nI 32) (nI 32) i) (nI 48) (nI 57)))) 0 (c_X3_isDigitNext q (va_up o 0 (upd (o 0) 2 (nI (skE (o 2) n (nI 32) (nI 32) i)))) n (skE (o 2) n (nI 32) (nI 32) i) hn hn1 (by first | exact hi | rfl) (by first | exact hi1 | exact (skE_le (o 2) (nI 32) (nI 32) hi1).2)) gX3_readNumber_X3_isDigitNext (q0 := 0) (ci := 2) (by decide +kernel) rfl rfl rfl ⟨by decide, by decide⟩ (Nat.le_of_ble_eq_true rfl) rfl rfl dX3_readNumber_18 ?_ hkR
    refine z_if_ne h 34 dX3_readNumber_21 (by decide) (fun c_21 => ?_) (fun c_21 => ?_)
    · exact absurd ((if_neg k_14).symm.trans h0) c_21
    · refine z_aload_n h 1 rfl dX3_readNumber_24 ?_
      refine z_aload_n h 1 rfl dX3_readNumber_25 ?_
      refine z_get h 0 2 3 (v := .int ((upd (o 0) 2 (nI (skE (o 2) n (nI 32) (nI 32) i))) 2)) rfl rfl iX3_readNumber_X3 (by decide) (List.mem_of_getElem? (i := 1) (by decide +kernel)) rfl rfl dX3_readNumber_26 ?_
      refine z_top (nI (skE (o 2) n (nI 32) (nI 32) i)) rfl ?_
      refine z_put h 0 2 4 (ws' := zOt (zy E) q (va_up o 0 (upd (upd (o 0) 2 (nI (skE (o 2) n (nI 32) (nI 32) i))) 3 (nI (skE (o 2) n (nI 32) (nI 32) i))))) tyX3 .int rfl rfl iX3_readNumber_X3 tyX3_ok nmX3 (by decide) (List.mem_of_getElem? (i := 2) (by decide +kernel)) rfl rfl (by decide +kernel) rfl rfl (Nat.le_of_ble_eq_true rfl) rfl dX3_readNumber_29 ?_
      refine z_iconst h (nI 0) (by decide +kernel) dX3_readNumber_32 ?_
      exact z_zret h hf rfl (by decide +kernel) rfl rfl dX3_readNumber_33

set_option maxHeartbeats 4000000 in
set_option maxRecDepth 100000 in
/-- readNumber -/
theorem c_X3_readNumber_1 {l : Launch} {y : zY} {D : va_G} (q : Nat → Nat) (o : Nat → Nat → Int32) (n i : Nat) (hn : o 0 0 = nI n) (hn1 : n ≤ 150) (hi : o 0 2 = nI i) (hi1 : i ≤ n) (k : Nat) (hk : k < 4) (h0 : ¬ rnF (o 2) n i = 0) : zM l y D yX3_readNumber wsX3_readNumber 2 42 [.ref (q 0), .int (nI k)] (zOt y q o) (zOt y q (rnG1 o n i k)) (some (.int (nI 1))) := by
  have hs9 := (skE_le (o 2) (nI 32) (nI 32) hi1).2
  have hq9 : ¬ skE (o 2) n (nI 32) (nI 32) i = i := fun q => h0 (if_pos q)
  have hq8 : ¬ nwC (o 2) n (skE (o 2) n (nI 32) (nI 32) i) (nI 48) (nI 57) = 0 := fun q => h0 ((if_neg hq9).trans q)
  refine z_start (own := RX3) (cc := cX3_readNumber) (maxL := 5) (ret := (some .boolean)) rfl (by decide +kernel) rfl (Nat.le_of_ble_eq_true rfl) rfl ?_
  intro E hEl hEy hED h hf
  subst hEl hEy hED
  have hkR : 0 ≤ E.2.2.2.2.2.1.cells ∧ 0 ≤ E.2.2.2.2.2.1.slots := ⟨Nat.zero_le _, Nat.zero_le _⟩
  refine z_cast (lv := [(0, .ref (q 0)), (1, .int (nI k))]) (ws := (zOt (zy E) q o)) (st := []) ?_ rfl rfl rfl
  refine z_aload_n h 0 rfl dX3_readNumber_0 ?_
  refine z_get h 0 2 3 (v := .int ((o 0) 2)) rfl rfl iX3_readNumber_X3 (by decide) (List.mem_of_getElem? (i := 1) (by decide +kernel)) rfl rfl dX3_readNumber_1 ?_
  refine z_top (nI i) hi ?_
  refine z_istore_n h (by decide) (lv' := [(2, .int (nI i)), (0, .ref (q 0)), (1, .int (nI k))]) rfl dX3_readNumber_4 ?_
  refine z_aload_n h 1 rfl dX3_readNumber_5 ?_
  refine z_wV h (As := []) (st := []) (ws2 := zOt (zy E) q (va_up o 0 (upd (o 0) 2 (nI (skE (o 2) n (nI 32) (nI 32) i))))) (r := none) 0 (c_X3_skipSpaces q o n i hn hn1 (by first | exact hi | rfl) (by first | assumption | exact hi1)) gX3_readNumber_X3_skipSpaces (q0 := 0) (ci := 2) (by decide +kernel) rfl rfl rfl ⟨by decide, by decide⟩ (Nat.le_of_ble_eq_true rfl) rfl rfl dX3_readNumber_6 ?_ hkR
  refine z_aload_n h 1 rfl dX3_readNumber_9 ?_
  refine z_get h 0 2 3 (v := .int ((upd (o 0) 2 (nI (skE (o 2) n (nI 32) (nI 32) i))) 2)) rfl rfl iX3_readNumber_X3 (by decide) (List.mem_of_getElem? (i := 1) (by decide +kernel)) rfl rfl dX3_readNumber_10 ?_
  refine z_top (nI (skE (o 2) n (nI 32) (nI 32) i)) rfl ?_
  refine z_iload_n h 0 rfl dX3_readNumber_13 ?_
  refine z_icmp_eq h 24 dX3_readNumber_14 (by decide) (fun c_14 => ?_) (fun c_14 => ?_)
  · exact absurd ((nI_eq (by omega) (by omega)).mp c_14) hq9
  · have k_14 : ¬ ((skE (o 2) n (nI 32) (nI 32) i) = i) := fun q => c_14 ((nI_eq (by omega) (by omega)).mpr q)
    refine z_aload_n h 1 rfl dX3_readNumber_17 ?_
    refine z_wV h (As := []) (st := []) (ws2 := zOt (zy E) q (va_up o 0 (upd (o 0) 2 (nI (skE (o 2) n (nI 32) (nI 32) i))))) (r := some (.int (nwC (o 2) n (skE (o 2) n (nI 32) (nI 32) i) (nI 48) (nI 57)))) 0 (c_X3_isDigitNext q (va_up o 0 (upd (o 0) 2 (nI (skE (o 2) n (nI 32) (nI 32) i)))) n (skE (o 2) n (nI 32) (nI 32) i) hn hn1 (by first | exact hi | rfl) (by first | assumption | exact hi1)) gX3_readNumber_X3_isDigitNext (q0 := 0) (ci := 2) (by decide +kernel) rfl rfl rfl ⟨by decide, by decide⟩ (Nat.le_of_ble_eq_true rfl) rfl rfl dX3_readNumber_18 ?_ hkR
    refine z_if_ne h 34 dX3_readNumber_21 (by decide) (fun c_21 => ?_) (fun c_21 => ?_)
    · refine z_iconst h (nI 0) (by decide +kernel) dX3_readNumber_34 ?_
      refine z_istore_n h (by decide) (lv' := [(3, .int (nI 0)), (2, .int (nI i)), (0, .ref (q 0)), (1, .int (nI k))]) rfl dX3_readNumber_35 ?_
      refine z_iconst h (nI 0) (by decide +kernel) dX3_readNumber_36 ?_
      refine z_istore h (by decide) (lv' := [(4, .int (nI 0)), (3, .int (nI 0)), (2, .int (nI i)), (0, .ref (q 0)), (1, .int (nI k))]) rfl dX3_readNumber_37 ?_
      have lp_39 : ∀ (d_39 d : Nat) (p9 : Nat) (v9 : Int32), 4 < d + d_39 → d ≤ 4 → (dgR (o 2) n (4 - d) p9 v9 = dgR (o 2) n 4 (skE (o 2) n (nI 32) (nI 32) i) (nI 0)) → (p9 ≤ n) → Z E 0 0 [(0, .ref (q 0)), (1, .int (nI k)), (2, .int (nI i)), (3, .int v9), (4, .int (nI d))] (zOt (zy E) q (va_up o 0 (upd (o 0) 2 (nI p9)))) 39 [] := by
        intro d_39
        induction d_39 with
        | zero => intro d p9 v9 q1 q2; omega
        | succ d_39 ih_39 =>
          intro d p9 v9 q1_39 q2_39 hp hpn
          refine z_iload h 4 rfl dX3_readNumber_39 ?_
          refine z_iconst h (nI 4) (by decide +kernel) dX3_readNumber_41 ?_
          refine z_icmp_ge h 86 dX3_readNumber_42 (by decide) (fun c_42 => ?_) (fun c_42 => ?_)
          · have k_42 : 4 ≤ d := (nI_leI (by omega) (by omega)).mp c_42
            obtain rfl : d = 4 := by omega
            have hp6 : (p9, v9) = rnD (o 2) n i := hp
            refine z_aload_n h 0 rfl dX3_readNumber_86 ?_
            refine z_get h 0 2 2 (v := .ref (q 1)) rfl rfl iX3_readNumber_X3 (by decide) (List.mem_of_getElem? (i := 4) (by decide +kernel)) rfl rfl dX3_readNumber_87 ?_
            refine z_iload_n h 1 rfl dX3_readNumber_90 ?_
            refine z_iload_n h 3 rfl dX3_readNumber_91 ?_
            refine z_iast h 1 k v9 (ws' := zOt (zy E) q (va_up (va_up o 0 (upd (o 0) 2 (nI p9))) 1 (upd (o 1) k v9))) rfl rfl rfl rfl (by omega) (by decide) rfl dX3_readNumber_92 ?_
            refine z_iconst h (nI 1) (by decide +kernel) dX3_readNumber_93 ?_
            exact z_zret h hf rfl (by decide +kernel) rfl (by unfold rnG1; rw [← hp6]) dX3_readNumber_94
          · have k_42 : ¬ (4 ≤ d) := fun q => c_42 ((nI_leI (by omega) (by omega)).mpr q)
            refine z_aload_n h 0 rfl dX3_readNumber_45 ?_
            refine z_wV h (As := []) (st := []) (ws2 := zOt (zy E) q (va_up o 0 (upd (o 0) 2 (nI p9)))) (r := some (.int (nwC (o 2) n p9 (nI 48) (nI 57)))) 0 (c_X3_isDigitNext q (va_up o 0 (upd (o 0) 2 (nI p9))) n p9 hn hn1 (by first | exact hi | rfl) (by first | assumption | exact hi1)) gX3_readNumber_X3_isDigitNext (q0 := 0) (ci := 2) (by decide +kernel) rfl rfl rfl ⟨by decide, by decide⟩ (Nat.le_of_ble_eq_true rfl) rfl rfl dX3_readNumber_46 ?_ hkR
            refine z_if_eq h 86 dX3_readNumber_49 (by decide) (fun c_49 => ?_) (fun c_49 => ?_)
            · have hp6 : (p9, v9) = rnD (o 2) n i := (dg_0 _ c_49).symm.trans hp
              refine z_aload_n h 0 rfl dX3_readNumber_86 ?_
              refine z_get h 0 2 2 (v := .ref (q 1)) rfl rfl iX3_readNumber_X3 (by decide) (List.mem_of_getElem? (i := 4) (by decide +kernel)) rfl rfl dX3_readNumber_87 ?_
              refine z_iload_n h 1 rfl dX3_readNumber_90 ?_
              refine z_iload_n h 3 rfl dX3_readNumber_91 ?_
              refine z_iast h 1 k v9 (ws' := zOt (zy E) q (va_up (va_up o 0 (upd (o 0) 2 (nI p9))) 1 (upd (o 1) k v9))) rfl rfl rfl rfl (by omega) (by decide) rfl dX3_readNumber_92 ?_
              refine z_iconst h (nI 1) (by decide +kernel) dX3_readNumber_93 ?_
              exact z_zret h hf rfl (by decide +kernel) rfl (by unfold rnG1; rw [← hp6]) dX3_readNumber_94
            · have hp7 := nwC_lt c_49
              refine z_iload_n h 3 rfl dX3_readNumber_52 ?_
              refine z_bipush h (nI 10) (by decide +kernel) dX3_readNumber_53 ?_
              refine z_imul h dX3_readNumber_55 ?_
              refine z_aload_n h 0 rfl dX3_readNumber_56 ?_
              refine z_get h 0 2 5 (v := .ref (q 2)) rfl rfl iX3_readNumber_X3 (by decide) (List.mem_of_getElem? (i := 3) (by decide +kernel)) rfl rfl dX3_readNumber_57 ?_
              refine z_aload_n h 0 rfl dX3_readNumber_60 ?_
              refine z_get h 0 2 3 (v := .int ((upd (o 0) 2 (nI p9)) 2)) rfl rfl iX3_readNumber_X3 (by decide) (List.mem_of_getElem? (i := 1) (by decide +kernel)) rfl rfl dX3_readNumber_61 ?_
              refine z_top (nI p9) rfl ?_
              refine z_bald h 2 p9 (f := o 2) rfl rfl rfl (by omega) (by decide) dX3_readNumber_64 ?_
              refine z_iadd h dX3_readNumber_65 ?_
              refine z_bipush h (nI 48) (by decide +kernel) dX3_readNumber_66 ?_
              refine z_isub h dX3_readNumber_68 ?_
              refine z_istore_n h (by decide) (lv' := [(3, .int (((v9 * (nI 10)) + ((o 2) p9)) - (nI 48))), (0, .ref (q 0)), (1, .int (nI k)), (2, .int (nI i)), (4, .int (nI d))]) rfl dX3_readNumber_69 ?_
              refine z_aload_n h 1 rfl dX3_readNumber_70 ?_
              refine z_dup h dX3_readNumber_71 rfl ?_
              refine z_get h 0 2 3 (v := .int ((upd (o 0) 2 (nI p9)) 2)) rfl rfl iX3_readNumber_X3 (by decide) (List.mem_of_getElem? (i := 1) (by decide +kernel)) rfl rfl dX3_readNumber_72 ?_
              refine z_top (nI p9) rfl ?_
              refine z_iconst h (nI 1) (by decide +kernel) dX3_readNumber_75 ?_
              refine z_iadd h dX3_readNumber_76 ?_
              refine z_top (nI (p9 + 1)) (nI_add _ _) ?_
              refine z_put h 0 2 3 (ws' := zOt (zy E) q (va_up o 0 (upd (upd (o 0) 2 (nI p9)) 2 (nI (p9 + 1))))) tyX3 .int rfl rfl iX3_readNumber_X3 tyX3_ok nmX3 (by decide) (List.mem_of_getElem? (i := 1) (by decide +kernel)) rfl rfl (by decide +kernel) rfl rfl (Nat.le_of_ble_eq_true rfl) rfl dX3_readNumber_77 ?_
              refine z_iinc h 4 (nI (d + 1)) rfl z_i1 (by decide) (lv' := [(4, .int (nI (d + 1))), (3, .int (((v9 * (nI 10)) + ((o 2) p9)) - (nI 48))), (0, .ref (q 0)), (1, .int (nI k)), (2, .int (nI i))]) rfl dX3_readNumber_80 ?_
              refine z_goto h 39 dX3_readNumber_83 (by decide) ?_
              refine z_sub [2, 3, 4, 1, 0] (lv' := [(0, .ref (q 0)), (1, .int (nI k)), (2, .int (nI i)), (3, .int (((v9 * (nI 10)) + ((o 2) p9)) - (nI 48))), (4, .int (nI (d + 1)))]) rfl ?_
              exact z_cast (ih_39 (d + 1) (p9 + 1) (((v9 * (nI 10)) + ((o 2) p9)) - (nI 48)) (by omega) (by omega) (dg_1 (by omega) hp c_49) (by omega)) rfl rfl rfl
      refine z_sub [3, 4, 2, 1, 0] (lv' := [(0, .ref (q 0)), (1, .int (nI k)), (2, .int (nI i)), (3, .int (nI 0)), (4, .int (nI 0))]) rfl ?_
      exact z_cast (lp_39 (4 + 1) 0 (skE (o 2) n (nI 32) (nI 32) i) (nI 0) (by omega) (by omega) rfl hs9) rfl rfl rfl
    · exact absurd c_21 hq8

theorem iX3_readSemicolon_X3 : ∀ w ∈ u_ws RX3 TX3 6, w ∈ wsX3_readSemicolon := by decide +kernel
set_option maxHeartbeats 4000000 in
set_option maxRecDepth 100000 in
/-- readSemicolon: none -/
theorem c_X3_readSemicolon_0 {l : Launch} {y : zY} {D : va_G} (q : Nat → Nat) (o : Nat → Nat → Int32) (n i : Nat) (hn : o 0 0 = nI n) (hn1 : n ≤ 150) (hi : o 0 2 = nI i) (hi1 : i ≤ n) (h0 : smF (o 2) n i = 0) : zM l y D yX3_readSemicolon wsX3_readSemicolon 2 42 [.ref (q 0)] (zOt y q o) (zOt y q (rnG0 o n i)) (some (.int (nI 0))) := by
  have hs9 := (skE_le (o 2) (nI 32) (nI 32) hi1).2
  refine z_start (own := RX3) (cc := cX3_readSemicolon) (maxL := 1) (ret := (some .boolean)) rfl (by decide +kernel) rfl (Nat.le_of_ble_eq_true rfl) rfl ?_
  intro E hEl hEy hED h hf
  subst hEl hEy hED
  have hkR : 0 ≤ E.2.2.2.2.2.1.cells ∧ 0 ≤ E.2.2.2.2.2.1.slots := ⟨Nat.zero_le _, Nat.zero_le _⟩
  refine z_cast (lv := [(0, .ref (q 0))]) (ws := (zOt (zy E) q o)) (st := []) ?_ rfl rfl rfl
  refine z_aload_n h 0 rfl dX3_readSemicolon_0 ?_
  refine z_wV h (As := []) (st := []) (ws2 := zOt (zy E) q (va_up o 0 (upd (o 0) 2 (nI (skE (o 2) n (nI 32) (nI 32) i))))) (r := none) 0 (c_X3_skipSpaces q o n i hn hn1 (by first | exact hi | rfl) (by first | exact hi1 | assumption)) gX3_readSemicolon_X3_skipSpaces (q0 := 0) (ci := 2) (by decide +kernel) rfl rfl rfl ⟨by decide, by decide⟩ (Nat.le_of_ble_eq_true rfl) rfl rfl dX3_readSemicolon_1 ?_ hkR
  refine z_aload_n h 0 rfl dX3_readSemicolon_4 ?_
  refine z_bipush h (nI 59) (by decide +kernel) dX3_readSemicolon_5 ?_
  refine z_bipush h (nI 59) (by decide +kernel) dX3_readSemicolon_7 ?_
  refine z_wV h (As := [.int (nI 59), .int (nI 59)]) (st := []) (ws2 := zOt (zy E) q (va_up o 0 (upd (o 0) 2 (nI (skE (o 2) n (nI 32) (nI 32) i))))) (r := some (.int (nwC (o 2) n (skE (o 2) n (nI 32) (nI 32) i) (nI 59) (nI 59)))) 2 (c_X3_isNextWithin q (va_up o 0 (upd (o 0) 2 (nI (skE (o 2) n (nI 32) (nI 32) i)))) n (skE (o 2) n (nI 32) (nI 32) i) hn hn1 (by first | exact hi | rfl) (by first | exact hi1 | assumption) (nI 59) (nI 59)) gX3_readSemicolon_X3_isNextWithin (q0 := 0) (ci := 2) (by decide +kernel) rfl rfl rfl ⟨by decide, by decide⟩ (Nat.le_of_ble_eq_true rfl) rfl rfl dX3_readSemicolon_9 ?_ hkR
  refine z_if_ne h 25 dX3_readSemicolon_12 (by decide) (fun c_12 => ?_) (fun c_12 => ?_)
  · exact absurd h0 c_12
  · refine z_aload_n h 0 rfl dX3_readSemicolon_15 ?_
    refine z_aload_n h 0 rfl dX3_readSemicolon_16 ?_
    refine z_get h 0 2 3 (v := .int ((upd (o 0) 2 (nI (skE (o 2) n (nI 32) (nI 32) i))) 2)) rfl rfl iX3_readSemicolon_X3 (by decide) (List.mem_of_getElem? (i := 1) (by decide +kernel)) rfl rfl dX3_readSemicolon_17 ?_
    refine z_top (nI (skE (o 2) n (nI 32) (nI 32) i)) rfl ?_
    refine z_put h 0 2 4 (ws' := zOt (zy E) q (va_up o 0 (upd (upd (o 0) 2 (nI (skE (o 2) n (nI 32) (nI 32) i))) 3 (nI (skE (o 2) n (nI 32) (nI 32) i))))) tyX3 .int rfl rfl iX3_readSemicolon_X3 tyX3_ok nmX3 (by decide) (List.mem_of_getElem? (i := 2) (by decide +kernel)) rfl rfl (by decide +kernel) rfl rfl (Nat.le_of_ble_eq_true rfl) rfl dX3_readSemicolon_20 ?_
    refine z_iconst h (nI 0) (by decide +kernel) dX3_readSemicolon_23 ?_
    exact z_zret h hf rfl (by decide +kernel) rfl rfl dX3_readSemicolon_24

set_option maxHeartbeats 4000000 in
set_option maxRecDepth 100000 in
/-- readSemicolon -/
theorem c_X3_readSemicolon_1 {l : Launch} {y : zY} {D : va_G} (q : Nat → Nat) (o : Nat → Nat → Int32) (n i : Nat) (hn : o 0 0 = nI n) (hn1 : n ≤ 150) (hi : o 0 2 = nI i) (hi1 : i ≤ n) (h0 : ¬ smF (o 2) n i = 0) : zM l y D yX3_readSemicolon wsX3_readSemicolon 2 42 [.ref (q 0)] (zOt y q o) (zOt y q (smG1 o n i)) (some (.int (nI 1))) := by
  have hs9 := (skE_le (o 2) (nI 32) (nI 32) hi1).2
  refine z_start (own := RX3) (cc := cX3_readSemicolon) (maxL := 1) (ret := (some .boolean)) rfl (by decide +kernel) rfl (Nat.le_of_ble_eq_true rfl) rfl ?_
  intro E hEl hEy hED h hf
  subst hEl hEy hED
  have hkR : 0 ≤ E.2.2.2.2.2.1.cells ∧ 0 ≤ E.2.2.2.2.2.1.slots := ⟨Nat.zero_le _, Nat.zero_le _⟩
  refine z_cast (lv := [(0, .ref (q 0))]) (ws := (zOt (zy E) q o)) (st := []) ?_ rfl rfl rfl
  refine z_aload_n h 0 rfl dX3_readSemicolon_0 ?_
  refine z_wV h (As := []) (st := []) (ws2 := zOt (zy E) q (va_up o 0 (upd (o 0) 2 (nI (skE (o 2) n (nI 32) (nI 32) i))))) (r := none) 0 (c_X3_skipSpaces q o n i hn hn1 (by first | exact hi | rfl) (by first | exact hi1 | assumption)) gX3_readSemicolon_X3_skipSpaces (q0 := 0) (ci := 2) (by decide +kernel) rfl rfl rfl ⟨by decide, by decide⟩ (Nat.le_of_ble_eq_true rfl) rfl rfl dX3_readSemicolon_1 ?_ hkR
  refine z_aload_n h 0 rfl dX3_readSemicolon_4 ?_
  refine z_bipush h (nI 59) (by decide +kernel) dX3_readSemicolon_5 ?_
  refine z_bipush h (nI 59) (by decide +kernel) dX3_readSemicolon_7 ?_
  refine z_wV h (As := [.int (nI 59), .int (nI 59)]) (st := []) (ws2 := zOt (zy E) q (va_up o 0 (upd (o 0) 2 (nI (skE (o 2) n (nI 32) (nI 32) i))))) (r := some (.int (nwC (o 2) n (skE (o 2) n (nI 32) (nI 32) i) (nI 59) (nI 59)))) 2 (c_X3_isNextWithin q (va_up o 0 (upd (o 0) 2 (nI (skE (o 2) n (nI 32) (nI 32) i)))) n (skE (o 2) n (nI 32) (nI 32) i) hn hn1 (by first | exact hi | rfl) (by first | exact hi1 | assumption) (nI 59) (nI 59)) gX3_readSemicolon_X3_isNextWithin (q0 := 0) (ci := 2) (by decide +kernel) rfl rfl rfl ⟨by decide, by decide⟩ (Nat.le_of_ble_eq_true rfl) rfl rfl dX3_readSemicolon_9 ?_ hkR
  refine z_if_ne h 25 dX3_readSemicolon_12 (by decide) (fun c_12 => ?_) (fun c_12 => ?_)
  · refine z_aload_n h 0 rfl dX3_readSemicolon_25 ?_
    refine z_dup h dX3_readSemicolon_26 rfl ?_
    refine z_get h 0 2 3 (v := .int ((upd (o 0) 2 (nI (skE (o 2) n (nI 32) (nI 32) i))) 2)) rfl rfl iX3_readSemicolon_X3 (by decide) (List.mem_of_getElem? (i := 1) (by decide +kernel)) rfl rfl dX3_readSemicolon_27 ?_
    refine z_top (nI (skE (o 2) n (nI 32) (nI 32) i)) rfl ?_
    refine z_iconst h (nI 1) (by decide +kernel) dX3_readSemicolon_30 ?_
    refine z_iadd h dX3_readSemicolon_31 ?_
    refine z_top (nI ((skE (o 2) n (nI 32) (nI 32) i) + 1)) (nI_add _ _) ?_
    refine z_put h 0 2 3 (ws' := zOt (zy E) q (va_up o 0 (upd (upd (o 0) 2 (nI (skE (o 2) n (nI 32) (nI 32) i))) 2 (nI ((skE (o 2) n (nI 32) (nI 32) i) + 1))))) tyX3 .int rfl rfl iX3_readSemicolon_X3 tyX3_ok nmX3 (by decide) (List.mem_of_getElem? (i := 1) (by decide +kernel)) rfl rfl (by decide +kernel) rfl rfl (Nat.le_of_ble_eq_true rfl) rfl dX3_readSemicolon_32 ?_
    refine z_iconst h (nI 1) (by decide +kernel) dX3_readSemicolon_35 ?_
    exact z_zret h hf rfl (by decide +kernel) rfl rfl dX3_readSemicolon_36
  · exact absurd c_12 h0

theorem iX3_isSpelled_X3 : ∀ w ∈ u_ws RX3 TX3 6, w ∈ wsX3_isSpelled := by decide +kernel
set_option maxHeartbeats 4000000 in
set_option maxRecDepth 100000 in
/-- isSpelled -/
theorem c_X3_isSpelled {l : Launch} {y : zY} {D : va_G} (q : Nat → Nat) (o : Nat → Nat → Int32) (w s e : Nat) (hw : w < 9) (hse : s ≤ e) (he : e ≤ 150) : zM l y D yX3_isSpelled wsX3_isSpelled 4 85 [.ref (q 0), .ref (y.2 (20 + w)), .int (nI s), .int (nI e)] (zOt y q o) (zOt y q o) (some (.int (spC (o 2) w s e))) := by
  have hl5 := (wl_5 w hw).2
  refine z_start (own := RX3) (cc := cX3_isSpelled) (maxL := 5) (ret := (some .boolean)) rfl (by decide +kernel) rfl (Nat.le_of_ble_eq_true rfl) rfl ?_
  intro E hEl hEy hED h hf
  subst hEl hEy hED
  have hkR : 0 ≤ E.2.2.2.2.2.1.cells ∧ 0 ≤ E.2.2.2.2.2.1.slots := ⟨Nat.zero_le _, Nat.zero_le _⟩
  refine z_cast (lv := [(0, .ref (q 0)), (1, .ref ((zy E).2 (20 + w))), (2, .int (nI s)), (3, .int (nI e))]) (ws := (zOt (zy E) q o)) (st := []) ?_ rfl rfl rfl
  refine z_aload_n h 1 rfl dX3_isSpelled_0 ?_
  refine z_oV h (As := []) (st := []) (ws2 := zOt (zy E) q o) (r := some (.int (nI (wlN w)))) 0 (z_any _ (c_length w (by omega))) (hzO (w := w) (by omega)) gX3_isSpelled_J0_length_8abf5 (by decide +kernel) rfl ⟨by decide, by decide⟩ (Nat.le_of_ble_eq_true rfl) rfl rfl dX3_isSpelled_1 ?_ hkR
  refine z_iload_n h 3 rfl dX3_isSpelled_4 ?_
  refine z_iload_n h 2 rfl dX3_isSpelled_5 ?_
  refine z_isub h dX3_isSpelled_6 ?_
  refine z_top (nI (e - s)) (pk_sub hse) ?_
  refine z_icmp_eq h 12 dX3_isSpelled_7 (by decide) (fun c_7 => ?_) (fun c_7 => ?_)
  · have k_7 : (wlN w) = (e - s) := (nI_eq (by omega) (by omega)).mp c_7
    refine z_iconst h (nI 0) (by decide +kernel) dX3_isSpelled_12 ?_
    refine z_istore h (by decide) (lv' := [(4, .int (nI 0)), (0, .ref (q 0)), (1, .ref ((zy E).2 (20 + w))), (2, .int (nI s)), (3, .int (nI e))]) rfl dX3_isSpelled_13 ?_
    have lp_15 : ∀ (d_15 j : Nat), (wlN w) < j + d_15 → j ≤ (wlN w) → (spR (o 2) w s (wlN w - j) j = spR (o 2) w s (wlN w) 0) → Z E 0 0 [(0, .ref (q 0)), (1, .ref ((zy E).2 (20 + w))), (2, .int (nI s)), (3, .int (nI e)), (4, .int (nI j))] (zOt (zy E) q o) 15 [] := by
      intro d_15
      induction d_15 with
      | zero => intro j  q1 q2; omega
      | succ d_15 ih_15 =>
        intro j  q1_15 q2_15 hj
        refine z_iload h 4 rfl dX3_isSpelled_15 ?_
        refine z_aload_n h 1 rfl dX3_isSpelled_17 ?_
        refine z_oV h (As := []) (st := [.int (nI j)]) (ws2 := zOt (zy E) q o) (r := some (.int (nI (wlN w)))) 0 (z_any _ (c_length w (by omega))) (hzO (w := w) (by omega)) gX3_isSpelled_J0_length_8abf5 (by decide +kernel) rfl ⟨by decide, by decide⟩ (Nat.le_of_ble_eq_true rfl) rfl rfl dX3_isSpelled_18 ?_ hkR
        refine z_icmp_ge h 50 dX3_isSpelled_21 (by decide) (fun c_21 => ?_) (fun c_21 => ?_)
        · have k_21 : (wlN w) ≤ j := (nI_leI (by omega) (by omega)).mp c_21
          obtain rfl : j = (wlN w) := by omega
          refine z_iconst h (nI 1) (by decide +kernel) dX3_isSpelled_50 ?_
          exact z_zret h hf rfl (by decide +kernel) (by unfold spC; rw [if_pos k_7, ← hj, Nat.sub_self]; rfl) rfl dX3_isSpelled_51
        · have k_21 : ¬ ((wlN w) ≤ j) := fun q => c_21 ((nI_leI (by omega) (by omega)).mpr q)
          refine z_aload_n h 0 rfl dX3_isSpelled_24 ?_
          refine z_get h 0 2 5 (v := .ref (q 2)) rfl rfl iX3_isSpelled_X3 (by decide) (List.mem_of_getElem? (i := 1) (by decide +kernel)) rfl rfl dX3_isSpelled_25 ?_
          refine z_iload_n h 2 rfl dX3_isSpelled_28 ?_
          refine z_iload h 4 rfl dX3_isSpelled_29 ?_
          refine z_iadd h dX3_isSpelled_31 ?_
          refine z_top (nI (s + j)) (nI_add _ _) ?_
          refine z_bald h 2 (s + j) (f := o 2) rfl rfl rfl (by omega) (by decide) dX3_isSpelled_32 ?_
          refine z_aload_n h 1 rfl dX3_isSpelled_33 ?_
          refine z_iload h 4 rfl dX3_isSpelled_34 ?_
          refine z_oV h (As := [.int (nI j)]) (st := [.int ((o 2) (s + j))]) (ws2 := zOt (zy E) q o) (r := some (.int (wbN w j))) 1 (z_any _ (c_charAt w j (by omega) (by omega))) (hzO (w := w) (by omega)) gX3_isSpelled_J0_charAt_5068e (by decide +kernel) rfl ⟨by decide, by decide⟩ (Nat.le_of_ble_eq_true rfl) rfl rfl dX3_isSpelled_36 ?_ hkR
          refine z_icmp_eq h 44 dX3_isSpelled_39 (by decide) (fun c_39 => ?_) (fun c_39 => ?_)
          · refine z_iinc h 4 (nI (j + 1)) rfl z_i1 (by decide) (lv' := [(4, .int (nI (j + 1))), (0, .ref (q 0)), (1, .ref ((zy E).2 (20 + w))), (2, .int (nI s)), (3, .int (nI e))]) rfl dX3_isSpelled_44 ?_
            refine z_goto h 15 dX3_isSpelled_47 (by decide) ?_
            refine z_sub [1, 2, 3, 4, 0] (lv' := [(0, .ref (q 0)), (1, .ref ((zy E).2 (20 + w))), (2, .int (nI s)), (3, .int (nI e)), (4, .int (nI (j + 1)))]) rfl ?_
            exact z_cast (ih_15 (j + 1) (by omega) (by omega) ((sp_step (by omega) hj).1 c_39)) rfl rfl rfl
          · refine z_iconst h (nI 0) (by decide +kernel) dX3_isSpelled_42 ?_
            exact z_zret h hf rfl (by decide +kernel) (by unfold spC; rw [if_pos k_7, (sp_step (by omega) hj).2 c_39]) rfl dX3_isSpelled_43
    refine z_sub [1, 2, 3, 4, 0] (lv' := [(0, .ref (q 0)), (1, .ref ((zy E).2 (20 + w))), (2, .int (nI s)), (3, .int (nI e)), (4, .int (nI 0))]) rfl ?_
    exact z_cast (lp_15 ((wlN w) + 1) 0 (by omega) (by omega) rfl) rfl rfl rfl
  · have k_7 : ¬ ((wlN w) = (e - s)) := fun q => c_7 ((nI_eq (by omega) (by omega)).mpr q)
    refine z_iconst h (nI 0) (by decide +kernel) dX3_isSpelled_10 ?_
    exact z_zret h hf rfl (by decide +kernel) (by unfold spC; rw [if_neg k_7]) rfl dX3_isSpelled_11

set_option maxHeartbeats 4000000 in
set_option maxRecDepth 100000 in
/-- wordBetween -/
theorem c_X3_wordBetween {l : Launch} {y : zY} {D : va_G} (q : Nat → Nat) (o : Nat → Nat → Int32) (s e : Nat) (hse : s ≤ e) (he : e ≤ 150) : zM l y D yX3_wordBetween wsX3_wordBetween 5 109 [.ref (q 0), .int (nI s), .int (nI e)] (zOt y q o) (zOt y q o) (some (zWv y (nI (wdC (o 2) s e)))) := by
  refine z_start (own := RX3) (cc := cX3_wordBetween) (maxL := 7) (ret := (some (.object "SnowSites$Word"))) rfl (by decide +kernel) rfl (Nat.le_of_ble_eq_true rfl) rfl ?_
  intro E hEl hEy hED h hf
  subst hEl hEy hED
  have hkR : 0 ≤ E.2.2.2.2.2.1.cells ∧ 0 ≤ E.2.2.2.2.2.1.slots := ⟨Nat.zero_le _, Nat.zero_le _⟩
  refine z_cast (lv := [(0, .ref (q 0)), (1, .int (nI s)), (2, .int (nI e))]) (ws := (zOt (zy E) q o)) (st := []) ?_ rfl rfl rfl
  refine z_getsN h hzW (host := "SnowSites") (by decide +kernel) dX3_wordBetween_0 ?_
  refine z_astore_n h (by decide) (lv' := [(3, .ref ((zy E).2 10)), (0, .ref (q 0)), (1, .int (nI s)), (2, .int (nI e))]) rfl dX3_wordBetween_3 ?_
  refine z_aload_n h 0 rfl dX3_wordBetween_4 ?_
  refine z_tlen h hzWt (v := nI 9) rfl dX3_wordBetween_5 ?_
  refine z_istore h (by decide) (lv' := [(4, .int (nI 9)), (3, .ref ((zy E).2 10)), (0, .ref (q 0)), (1, .int (nI s)), (2, .int (nI e))]) rfl dX3_wordBetween_6 ?_
  refine z_iconst h (nI 0) (by decide +kernel) dX3_wordBetween_8 ?_
  refine z_istore h (by decide) (lv' := [(5, .int (nI 0)), (4, .int (nI 9)), (3, .ref ((zy E).2 10)), (0, .ref (q 0)), (1, .int (nI s)), (2, .int (nI e))]) rfl dX3_wordBetween_9 ?_
  have lp_11 : ∀ (d_11 w : Nat), 9 < w + d_11 → w ≤ 9 → (wdR (o 2) s e (9 - w) w = wdC (o 2) s e) → Z E 0 0 [(0, .ref (q 0)), (1, .int (nI s)), (2, .int (nI e)), (3, .ref ((zy E).2 10)), (4, .int (nI 9)), (5, .int (nI w))] (zOt (zy E) q o) 11 [] := by
    intro d_11
    induction d_11 with
    | zero => intro w  q1 q2; omega
    | succ d_11 ih_11 =>
      intro w  q1_11 q2_11 hw
      refine z_iload h 5 rfl dX3_wordBetween_11 ?_
      refine z_iload h 4 rfl dX3_wordBetween_13 ?_
      refine z_icmp_ge h 47 dX3_wordBetween_15 (by decide) (fun c_15 => ?_) (fun c_15 => ?_)
      · have k_15 : 9 ≤ w := (nI_leI (by omega) (by omega)).mp c_15
        obtain rfl : w = 9 := by omega
        refine z_null h dX3_wordBetween_47 ?_
        exact z_aret h hf (Or.inl ⟨_, rfl⟩) (Or.inl rfl) (by rw [← hw, Nat.sub_self]; exact congrArg some (zWv_9 _)) rfl dX3_wordBetween_48
      · have k_15 : ¬ (9 ≤ w) := fun q => c_15 ((nI_leI (by omega) (by omega)).mpr q)
        refine z_aload_n h 3 rfl dX3_wordBetween_18 ?_
        refine z_iload h 5 rfl dX3_wordBetween_19 ?_
        refine z_tq h (C := "SnowSites$Word") hzWt w rfl (by omega) (by decide) rfl dX3_wordBetween_21 ?_
        refine z_astore h (by decide) (lv' := [(6, .ref ((zy E).2 w)), (0, .ref (q 0)), (1, .int (nI s)), (2, .int (nI e)), (3, .ref ((zy E).2 10)), (4, .int (nI 9)), (5, .int (nI w))]) rfl dX3_wordBetween_22 ?_
        refine z_aload_n h 1 rfl dX3_wordBetween_24 ?_
        refine z_aload h 0 rfl dX3_wordBetween_25 ?_
        refine z_getOF h (hzL (w := w) (by omega)) (List.mem_of_getElem? (i := 1) (by decide +kernel)) dX3_wordBetween_27 ?_
        refine z_iload_n h 2 rfl dX3_wordBetween_30 ?_
        refine z_iload_n h 3 rfl dX3_wordBetween_31 ?_
        refine z_wV h (As := [.ref ((zy E).2 (20 + w)), .int (nI s), .int (nI e)]) (st := []) (ws2 := zOt (zy E) q o) (r := some (.int (spC (o 2) w s e))) 3 (c_X3_isSpelled q o w s e (by omega) hse he) gX3_wordBetween_X3_isSpelled (q0 := 0) (ci := 2) (by decide +kernel) rfl rfl rfl ⟨by decide, by decide⟩ (Nat.le_of_ble_eq_true rfl) rfl rfl dX3_wordBetween_32 ?_ hkR
        refine z_if_eq h 41 dX3_wordBetween_35 (by decide) (fun c_35 => ?_) (fun c_35 => ?_)
        · refine z_iinc h 6 (nI (w + 1)) rfl z_i1 (by decide) (lv' := [(5, .int (nI (w + 1))), (6, .ref ((zy E).2 w)), (0, .ref (q 0)), (1, .int (nI s)), (2, .int (nI e)), (3, .ref ((zy E).2 10)), (4, .int (nI 9))]) rfl dX3_wordBetween_41 ?_
          refine z_goto h 11 dX3_wordBetween_44 (by decide) ?_
          refine z_sub [2, 3, 4, 5, 6, 0] (lv' := [(0, .ref (q 0)), (1, .int (nI s)), (2, .int (nI e)), (3, .ref ((zy E).2 10)), (4, .int (nI 9)), (5, .int (nI (w + 1)))]) rfl ?_
          exact z_cast (ih_11 (w + 1) (by omega) (by omega) ((wd_step (by omega) hw).1 c_35)) rfl rfl rfl
        · refine z_aload h 0 rfl dX3_wordBetween_38 ?_
          exact z_aret h hf (Or.inl ⟨_, rfl⟩) (Or.inr ⟨_, rfl⟩) (by rw [(wd_step (by omega) hw).2 c_35, zWv_r _ (by omega)]) rfl dX3_wordBetween_40
  refine z_sub [3, 4, 5, 2, 1, 0] (lv' := [(0, .ref (q 0)), (1, .int (nI s)), (2, .int (nI e)), (3, .ref ((zy E).2 10)), (4, .int (nI 9)), (5, .int (nI 0))]) rfl ?_
  exact z_cast (lp_11 (9 + 1) 0 (by omega) (by omega) rfl) rfl rfl rfl
