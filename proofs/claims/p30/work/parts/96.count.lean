/-! the count of the ballots: what each round holds, and that a second count changes nothing -/
theorem cn_0 {sd : Nat → Int32} : ∀ S, (∀ i, i < S → sd i = 0) → cnS sd S = 0
  | 0, _ => rfl
  | S + 1, h => by
    show cnS sd S + (if sd S = 0 then 0 else 1) = 0
    rw [if_pos (h S (by omega)), cn_0 S (fun i hi => h i (by omega))]
theorem cn_cg {sd sd' : Nat → Int32} : ∀ S, (∀ i, i < S → sd i = sd' i) → cnS sd S = cnS sd' S
  | 0, _ => rfl
  | S + 1, h => by
    show cnS sd S + (if sd S = 0 then 0 else 1) = cnS sd' S + (if sd' S = 0 then 0 else 1)
    rw [cn_cg S (fun i hi => h i (by omega)), h S (by omega)]
theorem ch_v {ch sd : Nat → Int32} {b : Nat} : ∀ k, chR ch sd b k = (-1) ∨ ∃ j, j < 8 ∧ ¬ sd j = 0 ∧ chR ch sd b k = nI j
  | 0 => Or.inl rfl
  | k + 1 => by
    have ih := ch_v (ch := ch) (sd := sd) (b := b) k
    have e : chR ch sd b (k + 1) = if isS (ch (b * 3 + (2 - k))) = 0 then chR ch sd b k else if sd (ch (b * 3 + (2 - k))).toNatClampNeg = 0 then chR ch sd b k else ch (b * 3 + (2 - k)) := rfl
    rw [e]
    by_cases c : isS (ch (b * 3 + (2 - k))) = 0
    · rw [if_pos c]
      exact ih
    · rw [if_neg c]
      obtain ⟨j, hj, ej⟩ := isS_nat c
      rw [ej, nI_clamp (by omega)]
      by_cases d : sd j = 0
      · rw [if_pos d]
        exact ih
      · rw [if_neg d]
        exact Or.inr ⟨j, hj, d, rfl⟩
theorem ch_ag {ch sd sd' : Nat → Int32} {b : Nat} (h : ∀ i, i < 8 → sd i = sd' i) : ∀ k, chR ch sd b k = chR ch sd' b k
  | 0 => rfl
  | k + 1 => by
    have ih := ch_ag (ch := ch) (b := b) h k
    have e : chR ch sd b (k + 1) = if isS (ch (b * 3 + (2 - k))) = 0 then chR ch sd b k else if sd (ch (b * 3 + (2 - k))).toNatClampNeg = 0 then chR ch sd b k else ch (b * 3 + (2 - k)) := rfl
    have e2 : chR ch sd' b (k + 1) = if isS (ch (b * 3 + (2 - k))) = 0 then chR ch sd' b k else if sd' (ch (b * 3 + (2 - k))).toNatClampNeg = 0 then chR ch sd' b k else ch (b * 3 + (2 - k)) := rfl
    rw [e, e2, ih]
    by_cases c : isS (ch (b * 3 + (2 - k))) = 0
    · rw [if_pos c, if_pos c]
    · rw [if_neg c, if_neg c]
      obtain ⟨j, hj, ej⟩ := isS_nat c
      rw [ej, nI_clamp (by omega), h j hj]
theorem vt_hi {V sd : Nat → Int32} {r : Nat} : ∀ S j, r * 8 + S ≤ j → vtI V sd r S j = V j
  | 0, _, _ => rfl
  | S + 1, j, h => by
    show upd (vtI V sd r S) (r * 8 + S) _ j = V j
    rw [pk_un (by omega), vt_hi S j (by omega)]
theorem sd_hi {g : Nat → Nat → Int32} {F : Nat → Int32} : ∀ S j, S ≤ j → sdI g F S j = F j
  | 0, _, _ => rfl
  | S + 1, j, h => by
    show upd (sdI g F S) S _ j = F j
    rw [pk_un (by omega), sd_hi S j (by omega)]
/-- a round's votes -/
theorem cw_v {V ch sd : Nat → Int32} {r : Nat} : ∀ b, ∃ v : Nat → Nat, smS v 8 ≤ b ∧ (cbI V ch sd r b).2 = nI (smS v 8) ∧ (∀ i, i < 8 → (cbI V ch sd r b).1 (r * 8 + i) = if sd i = 0 then (-1) else nI (v i)) ∧ ∀ j, (j < r * 8 ∨ r * 8 + 8 ≤ j) → (cbI V ch sd r b).1 j = V j
  | 0 => by
    obtain ⟨h1, h2⟩ := vt_v V sd r 8
    have e0 : smS (fun _ => 0) 8 = 0 := rfl
    refine ⟨fun _ => 0, by rw [e0]; exact Nat.le_refl _, by rw [e0]; rfl, fun i hi => h1 i hi, fun j hj => ?_⟩
    rcases hj with q | q
    · exact h2 j q
    · exact vt_hi 8 j q
  | b + 1 => by
    obtain ⟨v, v1, v2, v3, v4⟩ := cw_v (V := V) (ch := ch) (sd := sd) (r := r) b
    rcases ch_v (ch := ch) (sd := sd) (b := b) 3 with c | ⟨j, hj, hsj, c⟩
    · rw [cb_0 c]
      exact ⟨v, by omega, v2, v3, v4⟩
    · rw [cb_1 (j := j) (by rw [c]; exact nI_nm1 (by omega)) (by rw [c]; exact nI_clamp (by omega))]
      have es := smS_inc (v := v) (j := j) 8 hj
      refine ⟨fun i => if i = j then v i + 1 else v i, by omega, ?_, fun i hi => ?_, fun i hi => ?_⟩
      · show (cbI V ch sd r b).2 + nI 1 = _
        rw [v2, es, nI_add]
      · show upd (cbI V ch sd r b).1 (r * 8 + j) _ (r * 8 + i) = _
        by_cases q : i = j
        · subst q
          rw [pk_us, v3 i hi, if_neg hsj, if_neg hsj]
          show nI (v i) + nI 1 = nI (if i = i then v i + 1 else v i)
          rw [if_pos rfl, nI_add]
        · rw [pk_un (by omega), v3 i hi]
          show (if sd i = 0 then (-1) else nI (v i)) = (if sd i = 0 then (-1) else nI (if i = j then v i + 1 else v i))
          rw [if_neg q]
      · show upd (cbI V ch sd r b).1 (r * 8 + j) _ i = _
        rw [pk_un (by omega), v4 i hi]
theorem cw_ag {V V' ch sd sd' : Nat → Int32} {r : Nat} (h : ∀ i, i < 8 → sd i = sd' i) (hV : ∀ j, j < r * 8 → V j = V' j) : ∀ b, (cbI V ch sd r b).2 = (cbI V' ch sd' r b).2 ∧ ∀ j, j < r * 8 + 8 → (cbI V ch sd r b).1 j = (cbI V' ch sd' r b).1 j
  | 0 => by
    obtain ⟨h1, h2⟩ := vt_v V sd r 8
    obtain ⟨h3, h4⟩ := vt_v V' sd' r 8
    refine ⟨rfl, fun j hj => ?_⟩
    show vtI V sd r 8 j = vtI V' sd' r 8 j
    rcases Nat.lt_or_ge j (r * 8) with q | q
    · rw [h2 j q, h4 j q, hV j q]
    · obtain ⟨i, rfl⟩ : ∃ i, j = r * 8 + i := ⟨j - r * 8, by omega⟩
      rw [h1 i (by omega), h3 i (by omega), h i (by omega)]
  | b + 1 => by
    obtain ⟨i1, i2⟩ := cw_ag (ch := ch) h hV b
    have e := ch_ag (ch := ch) (b := b) h 3
    rcases ch_v (ch := ch) (sd := sd) (b := b) 3 with c | ⟨j, hj, hsj, c⟩
    · rw [cb_0 c, cb_0 (e ▸ c)]
      exact ⟨i1, i2⟩
    · have c2 : chR ch sd' b 3 = nI j := e ▸ c
      rw [cb_1 (j := j) (by rw [c]; exact nI_nm1 (by omega)) (by rw [c]; exact nI_clamp (by omega)), cb_1 (j := j) (by rw [c2]; exact nI_nm1 (by omega)) (by rw [c2]; exact nI_clamp (by omega))]
      refine ⟨?_, fun i hi => ?_⟩
      · show (cbI V ch sd r b).2 + nI 1 = (cbI V' ch sd' r b).2 + nI 1
        rw [i1]
      · show upd (cbI V ch sd r b).1 (r * 8 + j) ((cbI V ch sd r b).1 (r * 8 + j) + nI 1) i = upd (cbI V' ch sd' r b).1 (r * 8 + j) ((cbI V' ch sd' r b).1 (r * 8 + j) + nI 1) i
        by_cases q : i = r * 8 + j
        · rw [q, pk_us, pk_us, i2 _ (by omega)]
        · rw [pk_un q, pk_un q, i2 i hi]
theorem wn_ag {V V' sd sd' : Nat → Int32} {r : Nat} {n : Int32} (h : ∀ i, i < 8 → sd i = sd' i) (hV : ∀ i, i < 8 → V (r * 8 + i) = V' (r * 8 + i)) : ∀ k i x z, i + k = 8 → wnR V sd r n k i x z = wnR V' sd' r n k i x z
  | 0, _, _, _, _ => rfl
  | k + 1, i, x, z, e => by
    show (if sd i = 0 then wnR V sd r n k (i + 1) x z else if nI 2 * V (r * 8 + i) ≤ n then wnR V sd r n k (i + 1) (x + nI 1) (nI i) else nI i) = (if sd' i = 0 then wnR V' sd' r n k (i + 1) x z else if nI 2 * V' (r * 8 + i) ≤ n then wnR V' sd' r n k (i + 1) (x + nI 1) (nI i) else nI i)
    rw [← h i (by omega), ← hV i (by omega), wn_ag h hV k (i + 1) x z (by omega), wn_ag h hV k (i + 1) (x + nI 1) (nI i) (by omega)]
theorem dw_v {V sd : Nat → Int32} {g : Nat → Nat → Int32} {r : Nat} : ∀ S, S ≤ 8 → (dwI V sd g r S = (-1) ∧ ∀ i, i < S → sd i = 0) ∨ ∃ j, j < S ∧ ¬ sd j = 0 ∧ dwI V sd g r S = nI j
  | 0, _ => Or.inl ⟨rfl, fun i hi => absurd hi (Nat.not_lt_zero _)⟩
  | S + 1, h => by
    have e : dwI V sd g r (S + 1) = if sd S = 0 then dwI V sd g r S else if dwI V sd g r S = (-1) then nI S else if nsC V (g 7) g r S (dwI V sd g r S).toNatClampNeg = 0 then dwI V sd g r S else nI S := rfl
    rw [e]
    rcases dw_v (V := V) (sd := sd) (g := g) (r := r) S (by omega) with ⟨i1, i2⟩ | ⟨j, hj, hs, i1⟩
    · by_cases c : sd S = 0
      · rw [if_pos c]
        refine Or.inl ⟨i1, fun i hi => ?_⟩
        by_cases q : i = S
        · rw [q, c]
        · exact i2 i (by omega)
      · rw [if_neg c, if_pos i1]
        exact Or.inr ⟨S, by omega, c, rfl⟩
    · refine Or.inr ?_
      by_cases c : sd S = 0
      · rw [if_pos c]
        exact ⟨j, by omega, hs, i1⟩
      · rw [if_neg c, if_neg (by rw [i1]; exact nI_nm1 (by omega))]
        split
        · exact ⟨j, by omega, hs, i1⟩
        · exact ⟨S, by omega, c, rfl⟩
theorem dw_ag {V V' sd sd' : Nat → Int32} {g : Nat → Nat → Int32} {r : Nat} (h : ∀ i, i < 8 → sd i = sd' i) (hV : ∀ i, i < 8 → V (r * 8 + i) = V' (r * 8 + i)) : ∀ S, S ≤ 8 → dwI V sd g r S = dwI V' sd' g r S
  | 0, _ => rfl
  | S + 1, hS => by
    have e : dwI V sd g r (S + 1) = if sd S = 0 then dwI V sd g r S else if dwI V sd g r S = (-1) then nI S else if nsC V (g 7) g r S (dwI V sd g r S).toNatClampNeg = 0 then dwI V sd g r S else nI S := rfl
    have e2 : dwI V' sd' g r (S + 1) = if sd' S = 0 then dwI V' sd' g r S else if dwI V' sd' g r S = (-1) then nI S else if nsC V' (g 7) g r S (dwI V' sd' g r S).toNatClampNeg = 0 then dwI V' sd' g r S else nI S := rfl
    rw [e, e2, ← dw_ag h hV S (by omega), ← h S (by omega)]
    rcases dw_v (V := V) (sd := sd) (g := g) (r := r) S (by omega) with ⟨i1, -⟩ | ⟨j, hj, -, i1⟩
    · rw [if_pos i1, if_pos i1]
    · have en : nsC V (g 7) g r S (dwI V sd g r S).toNatClampNeg = nsC V' (g 7) g r S (dwI V sd g r S).toNatClampNeg := by
        rw [i1, nI_clamp (by omega)]
        unfold nsC
        rw [hV S (by omega), hV j (by omega)]
      rw [en]
/-- a round ends the count, or at least two stand -/
theorem wn_v {V ch sd : Nat → Int32} {r B : Nat} (hB : B ≤ 20) (h1 : 1 ≤ cnS sd 8) : (wnR (cbI V ch sd r B).1 sd r (cbI V ch sd r B).2 8 0 (nI 0) (-1) = (-1) ∧ 2 ≤ cnS sd 8) ∨ ∃ w, w < 8 ∧ ¬ sd w = 0 ∧ wnR (cbI V ch sd r B).1 sd r (cbI V ch sd r B).2 8 0 (nI 0) (-1) = nI w := by
  obtain ⟨v, v1, v2, v3, -⟩ := cw_v (V := V) (ch := ch) (sd := sd) (r := r) B
  have hv : ∀ i, i < 8 → ¬ sd i = 0 → (cbI V ch sd r B).1 (r * 8 + i) = nI (v i) := fun i hi hs => by rw [v3 i hi, if_neg hs]
  rw [v2]
  by_cases hm : ∃ i, i < 8 ∧ mjS sd v (smS v 8) i
  · obtain ⟨i0, hi0, hm0⟩ := hm
    exact Or.inr ⟨i0, hi0, hm0.1, wn_2 hv rfl (by omega) hi0 hm0 8 0 (nI 0) (-1) rfl (Nat.zero_le _)⟩
  · have hno : ∀ i, i < 8 → ¬ mjS sd v (smS v 8) i := fun i hi q => hm ⟨i, hi, q⟩
    have h := wn_1 hv rfl (by omega) hno 8 0 rfl
    have h2 : wnR (cbI V ch sd r B).1 sd r (nI (smS v 8)) 8 0 (nI 0) (-1) = if cnS sd 8 = 1 then lsS sd 8 else (-1) := h
    rw [h2]
    by_cases c : cnS sd 8 = 1
    · rw [if_pos c]
      by_cases hs : ∃ i, i < 8 ∧ ¬ sd i = 0
      · obtain ⟨i, hi, hs⟩ := hs
        exact Or.inr ⟨i, hi, hs, lsS_1 hs 8 hi c⟩
      · exfalso
        have := cn_0 (sd := sd) 8 (fun i hi => Classical.byContradiction fun q => hs ⟨i, hi, q⟩)
        omega
    · rw [if_neg c]
      exact Or.inl ⟨rfl, by omega⟩
