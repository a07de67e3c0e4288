def mjS (sd : Nat → Int32) (v : Nat → Nat) (n i : Nat) : Prop := ¬ sd i = 0 ∧ n < 2 * v i
theorem mj_1 {sd : Nat → Int32} {v : Nat → Nat} {n i j : Nat} (hn : smS v 8 = n) (hi : i < 8) (hj : j < 8) (h1 : mjS sd v n i) (h2 : mjS sd v n j) : i = j := by
  have a1 := h1.2
  have a2 := h2.2
  rcases Nat.lt_trichotomy i j with q | q | q
  · have := smS_2 (v := v) q 8 hj; omega
  · exact q
  · have := smS_2 (v := v) q 8 hi; omega
theorem vt_le {sd V : Nat → Int32} {v : Nat → Nat} {r n i : Nat} (hv : ∀ i, i < 8 → ¬ sd i = 0 → V (r * 8 + i) = nI (v i)) (hn : smS v 8 = n) (h20 : n ≤ 20) (hi : i < 8) (hs : ¬ sd i = 0) : (nI 2 * V (r * 8 + i) ≤ nI n ↔ ¬ mjS sd v n i) := by
  have h1 := smS_1 (v := v) 8 hi
  rw [hv i hi hs, pk_mul, nI_leI (by omega) (by omega)]
  unfold mjS
  exact ⟨fun h q => by have := q.2; omega, fun h => Nat.not_lt.mp fun q => h ⟨hs, q⟩⟩
theorem wn_1 {sd V : Nat → Int32} {v : Nat → Nat} {r n : Nat} (hv : ∀ i, i < 8 → ¬ sd i = 0 → V (r * 8 + i) = nI (v i)) (hn : smS v 8 = n) (h20 : n ≤ 20) (hno : ∀ i, i < 8 → ¬ mjS sd v n i) : ∀ k i, i + k = 8 → wnR V sd r (nI n) k i (nI (cnS sd i)) (lsS sd i) = if cnS sd 8 = 1 then lsS sd 8 else (-1)
  | 0, i, h => by
    have e : i = 8 := by omega
    subst e
    have hc := cnS_le sd 8
    show (if nI (cnS sd 8) = nI 1 then lsS sd 8 else (-1)) = _
    by_cases q : cnS sd 8 = 1
    · rw [if_pos q, q, if_pos rfl]
    · rw [if_neg q, if_neg (fun q2 => q ((nI_eq (by omega) (by omega)).mp q2))]
  | k + 1, i, h => by
    have IH := wn_1 hv hn h20 hno k (i + 1) (by omega)
    have e : wnR V sd r (nI n) (k + 1) i (nI (cnS sd i)) (lsS sd i) = if sd i = 0 then wnR V sd r (nI n) k (i + 1) (nI (cnS sd i)) (lsS sd i) else if nI 2 * V (r * 8 + i) ≤ nI n then wnR V sd r (nI n) k (i + 1) (nI (cnS sd i) + nI 1) (nI i) else nI i := rfl
    have e2 : cnS sd (i + 1) = cnS sd i + (if sd i = 0 then 0 else 1) := rfl
    have e3 : lsS sd (i + 1) = if sd i = 0 then lsS sd i else nI i := rfl
    rw [e]
    rw [e2, e3] at IH
    by_cases q : sd i = 0
    · rw [if_pos q]
      rw [if_pos q, if_pos q, Nat.add_zero] at IH
      exact IH
    · rw [if_neg q, if_pos ((vt_le hv hn h20 (by omega) q).mpr (hno i (by omega))), nI_add]
      rw [if_neg q, if_neg q] at IH
      exact IH
theorem wn_2 {sd V : Nat → Int32} {v : Nat → Nat} {r n i0 : Nat} (hv : ∀ i, i < 8 → ¬ sd i = 0 → V (r * 8 + i) = nI (v i)) (hn : smS v 8 = n) (h20 : n ≤ 20) (h8 : i0 < 8) (hm : mjS sd v n i0) : ∀ k i x z, i + k = 8 → i ≤ i0 → wnR V sd r (nI n) k i x z = nI i0
  | 0, i, x, z, h, hi => by omega
  | k + 1, i, x, z, h, hi => by
    have e : wnR V sd r (nI n) (k + 1) i x z = if sd i = 0 then wnR V sd r (nI n) k (i + 1) x z else if nI 2 * V (r * 8 + i) ≤ nI n then wnR V sd r (nI n) k (i + 1) (x + nI 1) (nI i) else nI i := rfl
    rw [e]
    by_cases q0 : i = i0
    · subst q0
      rw [if_neg hm.1, if_neg (fun q => (vt_le hv hn h20 h8 hm.1).mp q hm)]
    · by_cases q : sd i = 0
      · rw [if_pos q]; exact wn_2 hv hn h20 h8 hm k (i + 1) x z (by omega) (by omega)
      · rw [if_neg q, if_pos ((vt_le hv hn h20 (by omega) q).mpr (fun q2 => q0 (mj_1 hn (by omega) h8 q2 hm)))]
        exact wn_2 hv hn h20 h8 hm k (i + 1) _ _ (by omega) (by omega)
theorem sc_1 {sd V Vm f : Nat → Int32} {x : Int32} {v : Nat → Nat} {r n m : Nat} (hb : mbR sd x) (hV : ∀ j, j < 8 * (r + 1) → V j = Vm j) (hv : ∀ i, i < 8 → ¬ sd i = 0 → V (r * 8 + i) = nI (v i)) (hn : smS v 8 = n) (h20 : n ≤ 20) : ∀ S, S ≤ 8 → ((m = 1 ∨ ∀ i, i < 8 → ¬ mjS sd v n i) → (scI Vm f r m x (nI n) (-1) S).1 = if m = 1 then lsS sd S else (-1)) ∧ (¬ m = 1 → ∀ i0, i0 < 8 → mjS sd v n i0 → i0 < S → (scI Vm f r m x (nI n) (-1) S).1 = nI i0)
  | 0, _ => ⟨fun _ => by
      show (-1 : Int32) = if m = 1 then (-1) else (-1)
      split <;> rfl, fun _ i0 _ _ h => absurd h (Nat.not_lt_zero _)⟩
  | S + 1, h => by
    obtain ⟨i1, i2⟩ := sc_1 (f := f) (m := m) hb hV hv hn h20 S (by omega)
    have e : scI Vm f r m x (nI n) (-1) (S + 1) = if stB x (nI S) = nI 1 then ((if m = 1 then nI S else if nI 2 * Vm (8 * r + S) ≤ nI n then (scI Vm f r m x (nI n) (-1) S).1 else nI S), (if (scI Vm f r m x (nI n) (-1) S).2 = (-1) then nI S else if iwM Vm f r S (scI Vm f r m x (nI n) (-1) S).2.toNatClampNeg = 0 then (scI Vm f r m x (nI n) (-1) S).2 else nI S)) else scI Vm f r m x (nI n) (-1) S := rfl
    have e3 : lsS sd (S + 1) = if sd S = 0 then lsS sd S else nI S := rfl
    have eV : Vm (8 * r + S) = V (r * 8 + S) := by rw [← hV _ (by omega), Nat.mul_comm]
    rw [e, e3]
    by_cases q : sd S = 0
    · rw [if_neg (fun q2 => (mb_1 hb (show S < 8 by omega)).1.mp q2 q), if_pos q]
      refine ⟨i1, fun hm i0 h8 hj hi => i2 hm i0 h8 hj ?_⟩
      rcases Nat.lt_or_ge i0 S with q2 | q2
      · exact q2
      · have : i0 = S := by omega
        exact absurd (this ▸ q) hj.1
    · rw [if_pos ((mb_1 hb (show S < 8 by omega)).1.mpr q), if_neg q, eV]
      dsimp only
      refine ⟨fun hm => ?_, fun hm i0 h8 hj hi => ?_⟩
      · by_cases q1 : m = 1
        · rw [if_pos q1, if_pos q1]
        · rw [if_neg q1, if_neg q1, if_pos ((vt_le hv hn h20 (by omega) q).mpr ((hm.resolve_left q1) S (by omega))), i1 hm, if_neg q1]
      · rw [if_neg hm]
        by_cases q0 : S = i0
        · subst q0
          rw [if_neg (fun q2 => (vt_le hv hn h20 h8 q).mp q2 hj)]
        · rw [if_pos ((vt_le hv hn h20 (by omega) q).mpr (fun q2 => q0 (mj_1 hn (by omega) h8 q2 hj)))]
          exact i2 hm i0 h8 hj (by omega)
/-- the round's winner is the same -/
theorem wn_sc {sd V Vm f : Nat → Int32} {x : Int32} {v : Nat → Nat} {r n m : Nat} (hb : mbR sd x) (hV : ∀ j, j < 8 * (r + 1) → V j = Vm j) (hv : ∀ i, i < 8 → ¬ sd i = 0 → V (r * 8 + i) = nI (v i)) (hn : smS v 8 = n) (h20 : n ≤ 20) (hm : cnS sd 8 = m) : wnR V sd r (nI n) 8 0 (nI 0) (-1) = (scI Vm f r m x (nI n) (-1) 8).1 ∧ (m = 1 → ∃ i, i < 8 ∧ wnR V sd r (nI n) 8 0 (nI 0) (-1) = nI i) := by
  obtain ⟨s1, s2⟩ := sc_1 (f := f) (m := m) hb hV hv hn h20 8 (Nat.le_refl _)
  have hex : m = 1 → ∃ i, i < 8 ∧ ¬ sd i = 0 := fun h1 => Classical.byContradiction fun q => by
    have hz : ∀ S, S ≤ 8 → cnS sd S = 0 := by
      intro S
      induction S with
      | zero => intro _; rfl
      | succ S ih =>
        intro hS
        show cnS sd S + (if sd S = 0 then 0 else 1) = 0
        rw [ih (by omega), if_pos (Classical.byContradiction fun q2 => q ⟨S, by omega, q2⟩)]
    have := hz 8 (Nat.le_refl _)
    omega
  by_cases hmj : ∃ i0, i0 < 8 ∧ mjS sd v n i0
  · obtain ⟨i0, h8, hj⟩ := hmj
    have e1 := wn_2 hv hn h20 h8 hj 8 0 (nI 0) (-1) (by omega) (by omega)
    rw [e1]
    refine ⟨?_, fun _ => ⟨i0, h8, rfl⟩⟩
    by_cases q : m = 1
    · rw [s1 (Or.inl q), if_pos q, lsS_1 hj.1 8 h8 (by omega)]
    · exact (s2 q i0 h8 hj h8).symm
  · have hno : ∀ i, i < 8 → ¬ mjS sd v n i := fun i hi q => hmj ⟨i, hi, q⟩
    have e1 : wnR V sd r (nI n) 8 0 (nI 0) (-1) = if cnS sd 8 = 1 then lsS sd 8 else (-1) := wn_1 hv hn h20 hno 8 0 (by omega)
    rw [e1, s1 (Or.inr hno), hm]
    refine ⟨rfl, fun h1 => ?_⟩
    obtain ⟨i, hi, hs⟩ := hex h1
    rw [if_pos h1]
    exact ⟨i, hi, lsS_1 hs 8 hi (by omega)⟩
/-- the weakest -/
theorem ns_iw {g : Nat → Nat → Int32} {V Vm f : Nat → Int32} {r i w : Nat} (hvol : ∀ i, i < 8 → vSum (g 7) (i * 6) (zh g i) = vmS f i (zhm f i)) (hV : ∀ j, j < 8 * (r + 1) → V j = Vm j) (hi : i < 8) (hw : w < i) : nsC V (g 7) g r i w = iwM Vm f r i w := by
  unfold nsC iwM
  rw [hvol i hi, hvol w (by omega), hV (r * 8 + i) (by omega), hV (r * 8 + w) (by omega), Nat.mul_comm r 8]
  by_cases c1 : Vm (8 * r + i) = Vm (8 * r + w)
  · rw [if_pos c1, if_pos c1]
    by_cases c2 : vmS f i (zhm f i) = vmS f w (zhm f w)
    · rw [if_pos c2, if_neg (show ¬ i ≤ w by omega), if_neg (show ¬ vmS f w (zhm f w) < vmS f i (zhm f i) from fun q => by rw [c2] at q; exact Int32.lt_irrefl q)]
    · rw [if_neg c2]
      by_cases c3 : vmS f w (zhm f w) < vmS f i (zhm f i)
      · rw [if_pos c3, if_pos (Int32.le_of_lt c3)]
      · rw [if_neg c3, if_neg (fun q => c2 (Int32.le_antisymm (not_lt32.mp c3) q))]
  · rw [if_neg c1, if_neg c1]
theorem dw_sc {g : Nat → Nat → Int32} {sd V Vm f : Nat → Int32} {x N W : Int32} {r m : Nat} (hb : mbR sd x) (hvol : ∀ i, i < 8 → vSum (g 7) (i * 6) (zh g i) = vmS f i (zhm f i)) (hV : ∀ j, j < 8 * (r + 1) → V j = Vm j) : ∀ S, S ≤ 8 → dwI V sd g r S = (scI Vm f r m x N W S).2 ∧ ((dwI V sd g r S = (-1) ∧ ∀ i, i < S → sd i = 0) ∨ ∃ w, w < S ∧ ¬ sd w = 0 ∧ dwI V sd g r S = nI w)
  | 0, _ => ⟨rfl, Or.inl ⟨rfl, fun i h => absurd h (Nat.not_lt_zero _)⟩⟩
  | S + 1, h => by
    obtain ⟨i1, i2⟩ := dw_sc (N := N) (W := W) (m := m) hb hvol hV S (by omega)
    have e : scI Vm f r m x N W (S + 1) = if stB x (nI S) = nI 1 then ((if m = 1 then nI S else if nI 2 * Vm (8 * r + S) ≤ N then (scI Vm f r m x N W S).1 else nI S), (if (scI Vm f r m x N W S).2 = (-1) then nI S else if iwM Vm f r S (scI Vm f r m x N W S).2.toNatClampNeg = 0 then (scI Vm f r m x N W S).2 else nI S)) else scI Vm f r m x N W S := rfl
    have e2 : dwI V sd g r (S + 1) = if sd S = 0 then dwI V sd g r S else if dwI V sd g r S = (-1) then nI S else if nsC V (g 7) g r S (dwI V sd g r S).toNatClampNeg = 0 then dwI V sd g r S else nI S := rfl
    rw [e, e2, ← i1]
    generalize hd : dwI V sd g r S = d at i1 i2 ⊢
    by_cases q : sd S = 0
    · rw [if_pos q, if_neg (fun q2 => (mb_1 hb (show S < 8 by omega)).1.mp q2 q)]
      refine ⟨i1, ?_⟩
      rcases i2 with ⟨a1, a2⟩ | ⟨w, a1, a2, a3⟩
      · exact Or.inl ⟨a1, fun i hi => by
          by_cases q3 : i = S
          · rw [q3]; exact q
          · exact a2 i (by omega)⟩
      · exact Or.inr ⟨w, by omega, a2, a3⟩
    · rw [if_neg q, if_pos ((mb_1 hb (show S < 8 by omega)).1.mpr q)]
      dsimp only
      rcases i2 with ⟨a1, a2⟩ | ⟨w, a1, a2, a3⟩
      · rw [if_pos a1, if_pos a1]
        exact ⟨rfl, Or.inr ⟨S, by omega, q, rfl⟩⟩
      · have hd1 : ¬ d = (-1) := by rw [a3]; exact nI_n1 (by omega)
        rw [if_neg hd1, if_neg hd1, a3, nI_clamp (by omega), ns_iw hvol hV (by omega) a1]
        by_cases q3 : iwM Vm f r S w = 0
        · rw [if_pos q3]; exact ⟨rfl, Or.inr ⟨w, by omega, a2, rfl⟩⟩
        · rw [if_neg q3]; exact ⟨rfl, Or.inr ⟨S, by omega, q, rfl⟩⟩
/-- all rounds -/
theorem ct_v {g : Nat → Nat → Int32} {f : Nat → Int32} (hvol : ∀ i, i < 8 → vSum (g 7) (i * 6) (zh g i) = vmS f i (zhm f i)) (hB : zbm f = zb g) (h20 : zb g ≤ 20) (he : ∀ b, b < zb g → ∀ k, k < 3 → f (155 + 3 * b + k) = g 12 (b * 3 + k)) (hc : ∀ b, b < zb g → ∀ k, k < 3 → ¬ g 12 (b * 3 + k) = (-1) → ∃ j, j < 8 ∧ g 12 (b * 3 + k) = nI j) : ∀ k r m c x V, mbR (c 1) x → cnS (c 1) 8 = m → 1 ≤ m → c 0 0 = nI r → c 0 1 = (-1) → (∀ j, j < 8 * r → c 2 j = V j) → tkR g k r c 0 0 = nI (ctR f k r m x (-1) V).1 ∧ tkR g k r c 0 1 = (ctR f k r m x (-1) V).2.1 ∧ (∀ j, j < 8 * (ctR f k r m x (-1) V).1 → tkR g k r c 2 j = (ctR f k r m x (-1) V).2.2 j) ∧ (ctR f k r m x (-1) V).1 ≤ r + k
  | 0, r, m, c, x, V, hb, hm, h1, c0, c1, hV => ⟨c0, c1, hV, Nat.le_refl _⟩
  | k + 1, r, m, c, x, V, hb, hm, h1, c0, c1, hV => by
    obtain ⟨n, hn, v1, v2, v3, v, v4, v5⟩ := cb_cr (B := zb g) hb hV he hc (zb g) (Nat.le_refl _)
    have eT : tkR g (k + 1) r c = if wnC (cvC9 g c r) r = (-1) then tkR g k (r + 1) (dwC g (rhC (cvC9 g c r) r) r) else rhC (cvC9 g c r) r := rfl
    have eC : ctR f (k + 1) r m x (-1) V = if m = 0 then (r, (-1), V) else if (-1 : Int32) = (-1) then ctR f k (r + 1) (m - 1) (x &&& ((nI 1 <<< ((scI (crI V f r x (zbm f)).1 f r m x (crI V f r x (zbm f)).2 (-1) 8).2 &&& 31)) ^^^ (-1))) (scI (crI V f r x (zbm f)).1 f r m x (crI V f r x (zbm f)).2 (-1) 8).1 (crI V f r x (zbm f)).1 else (r, (-1), V) := rfl
    have w0 : wnC (cvC9 g c r) r = wnR (cbI (c 2) (g 12) (c 1) r (zb g)).1 (c 1) r (cbI (c 2) (g 12) (c 1) r (zb g)).2 8 0 (nI 0) (-1) := rfl
    have d0 : dwC g (rhC (cvC9 g c r) r) r = if dwI (cbI (c 2) (g 12) (c 1) r (zb g)).1 (c 1) g r 8 = (-1) then rhC (cvC9 g c r) r else va_up (rhC (cvC9 g c r) r) 1 (upd (c 1) (dwI (cbI (c 2) (g 12) (c 1) r (zb g)).1 (c 1) g r 8).toNatClampNeg (nI 0)) := rfl
    have r00 : rhC (cvC9 g c r) r 0 0 = nI (r + 1) := rfl
    have r01 : rhC (cvC9 g c r) r 0 1 = wnC (cvC9 g c r) r := rfl
    have r2 : rhC (cvC9 g c r) r 2 = (cbI (c 2) (g 12) (c 1) r (zb g)).1 := rfl
    rw [w0] at r01
    rw [eT, eC, w0, d0, if_neg (show ¬ m = 0 by omega), if_pos rfl, hB]
    generalize rhC (cvC9 g c r) r = RH at r00 r01 r2 ⊢
    generalize (cbI (c 2) (g 12) (c 1) r (zb g)) = P at v1 v2 v4 r01 r2 ⊢
    generalize crI V f r x (zb g) = Pm at v1 v3 ⊢
    obtain ⟨W1, W2⟩ := wn_sc (f := f) (m := m) hb v1 v4 v5 (by omega) hm
    obtain ⟨D1, D2⟩ := dw_sc (N := nI n) (W := (-1)) (m := m) hb hvol v1 8 (Nat.le_refl _)
    rw [v2] at r01
    rw [v2, v3, ← D1, ← W1]
    generalize wnR P.1 (c 1) r (nI n) 8 0 (nI 0) (-1) = W at r01 W1 W2 ⊢
    by_cases q : W = (-1)
    · have hm1 : ¬ m = 1 := fun q2 => by
        obtain ⟨i, hi, e⟩ := W2 q2
        rw [q] at e
        exact nI_n1 (show i < 2 ^ 31 by omega) e.symm
      rcases D2 with ⟨a1, a2⟩ | ⟨w, a1, a2, a3⟩
      · exfalso
        have : ∀ S, S ≤ 8 → cnS (c 1) S = 0 := by
          intro S
          induction S with
          | zero => intro _; rfl
          | succ S ih =>
            intro hS
            show cnS (c 1) S + (if c 1 S = 0 then 0 else 1) = 0
            rw [ih (by omega), if_pos (a2 S (by omega))]
        have := this 8 (Nat.le_refl _)
        omega
      · rw [if_pos q, a3, if_neg (nI_n1 (show w < 2 ^ 31 by omega)), nI_clamp (by omega), q]
        have hcn := (cnS_drop a2 8).2 a1
        have IH := ct_v hvol hB h20 he hc k (r + 1) (m - 1) (va_up RH 1 (upd (c 1) w (nI 0))) (x &&& ((nI 1 <<< (nI w &&& 31)) ^^^ (-1))) Pm.1 (mb_drop hb a1) (show cnS (upd (c 1) w (nI 0)) 8 = m - 1 by omega) (by omega) r00 (r01.trans q) (fun j hj => by
          show RH 2 j = Pm.1 j
          rw [r2]; exact v1 j hj)
        obtain ⟨k1, k2, k3, k4⟩ := IH
        exact ⟨k1, k2, k3, by omega⟩
    · rw [if_neg q]
      have eS : ∀ (k m' : Nat) (x' : Int32), ctR f k (r + 1) m' x' W Pm.1 = (r + 1, W, Pm.1) := fun k m' x' => by
        cases k with
        | zero => rfl
        | succ k =>
          show (if m' = 0 then (r + 1, W, Pm.1) else if W = (-1) then _ else (r + 1, W, Pm.1)) = _
          by_cases q2 : m' = 0
          · rw [if_pos q2]
          · rw [if_neg q2, if_neg q]
      rw [eS]
      refine ⟨r00, r01, fun j hj => ?_, by show r + 1 ≤ r + (k + 1); omega⟩
      rw [r2]
      exact v1 j hj

