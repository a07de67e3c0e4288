/-! sums over columns: what dropping, melting, cutting and stacking do to them -/
theorem vs_cg {F G : Nat → Int32} {b : Nat} : ∀ n, (∀ t, t < n → F (b + t) = G (b + t)) → vSum F b n = vSum G b n
  | 0, _ => rfl
  | n + 1, h => by
    show vSum F b n + F (b + n) = vSum G b n + G (b + n)
    rw [vs_cg n (fun t ht => h t (by omega)), h n (by omega)]
theorem vs_set {F : Nat → Int32} {b l : Nat} {x : Int32} : ∀ n, (l < n → vSum (upd F (b + l) x) b n = vSum F b n + (x - F (b + l))) ∧ (n ≤ l → vSum (upd F (b + l) x) b n = vSum F b n)
  | 0 => ⟨fun h => absurd h (Nat.not_lt_zero _), fun _ => rfl⟩
  | n + 1 => by
    obtain ⟨i1, i2⟩ := vs_set (F := F) (b := b) (l := l) (x := x) n
    have e : vSum (upd F (b + l) x) b (n + 1) = vSum (upd F (b + l) x) b n + upd F (b + l) x (b + n) := rfl
    have e2 : vSum F b (n + 1) = vSum F b n + F (b + n) := rfl
    rw [e, e2]
    refine ⟨fun h => ?_, fun h => ?_⟩
    · by_cases q : n = l
      · subst q
        rw [i2 (Nat.le_refl _), pk_us]
        generalize vSum F b n = A
        generalize F (b + n) = B
        grind
      · rw [i1 (by omega), pk_un (show b + n ≠ b + l by omega)]
        generalize vSum F b n = A
        generalize F (b + n) = B
        grind
    · rw [i2 (by omega), pk_un (show b + n ≠ b + l by omega)]
theorem vs_set0 {F : Nat → Int32} {s n : Nat} {x : Int32} (h : s < n) : vSum (upd F s x) 0 n = vSum F 0 n + (x - F s) := by
  have := (vs_set (F := F) (b := 0) (l := s) (x := x) n).1 h
  rw [Nat.zero_add] at this
  exact this
theorem vs_sub {T V L : Nat → Int32} {b : Nat} : ∀ n, (∀ t, t < n → T (b + t) = V (b + t) - L (b + t)) → vSum T b n = vSum V b n - vSum L b n
  | 0, _ => show nI 0 = nI 0 - nI 0 by decide +kernel
  | n + 1, h => by
    have e : vSum T b (n + 1) = vSum T b n + T (b + n) := rfl
    have e1 : vSum V b (n + 1) = vSum V b n + V (b + n) := rfl
    have e2 : vSum L b (n + 1) = vSum L b n + L (b + n) := rfl
    rw [e, e1, e2, vs_sub n (fun t ht => h t (by omega)), h n (by omega)]
    generalize vSum V b n = A
    generalize vSum L b n = B
    generalize V (b + n) = C
    generalize L (b + n) = D
    grind
theorem dr_sum {K V : Nat → Int32} {b n : Nat} (hV : ∀ t, t < n → ∃ a, a ≤ 100 ∧ V (b + t) = nI a) : ∀ i, i ≤ n → vSum (drI K V b i).2.2 b (drI K V b i).1 = vSum V b i ∧ ∀ j, j < b ∨ b + i ≤ j → (drI K V b i).2.2 j = V j
  | 0, _ => ⟨rfl, fun _ _ => rfl⟩
  | i + 1, h => by
    obtain ⟨i1, i2⟩ := dr_sum (K := K) hV i (by omega)
    have hl := drI_le K V b i
    obtain ⟨a, ha, ea⟩ := hV i (by omega)
    have ev : (drI K V b i).2.2 (b + i) = nI a := (i2 _ (Or.inr (Nat.le_refl _))).trans ea
    have e2 : vSum V b (i + 1) = vSum V b i + nI a := by
      show vSum V b i + V (b + i) = _
      rw [ea]
    have hd : drI K V b (i + 1) = if (drI K V b i).2.2 (b + i) ≤ 0 then drI K V b i else ((drI K V b i).1 + 1, upd (drI K V b i).2.1 (b + (drI K V b i).1) ((drI K V b i).2.1 (b + i)), upd (drI K V b i).2.2 (b + (drI K V b i).1) ((drI K V b i).2.2 (b + i))) := rfl
    rw [hd]
    clear hd
    generalize drI K V b i = X at i1 i2 hl ev ⊢
    by_cases c : X.2.2 (b + i) ≤ 0
    · rw [if_pos c]
      rw [ev] at c
      have a0 : a = 0 := by
        have := (nI_leI (by omega) (by omega)).mp (show nI a ≤ nI 0 from c)
        omega
      subst a0
      refine ⟨?_, fun j hj => i2 j (by omega)⟩
      rw [i1, e2]
      exact (Int32.add_zero _).symm
    · rw [if_neg c]
      refine ⟨?_, fun j hj => ?_⟩
      · have e3 : vSum (upd X.2.2 (b + X.1) (X.2.2 (b + i))) b (X.1 + 1) = vSum (upd X.2.2 (b + X.1) (X.2.2 (b + i))) b X.1 + upd X.2.2 (b + X.1) (X.2.2 (b + i)) (b + X.1) := rfl
        show vSum (upd X.2.2 (b + X.1) (X.2.2 (b + i))) b (X.1 + 1) = _
        rw [e3, pk_us, vs_cg (G := X.2.2) _ (fun t ht => pk_un (by omega)), i1, e2, ev]
      · show upd X.2.2 (b + X.1) (X.2.2 (b + i)) j = _
        rw [pk_un (by omega), i2 j (by omega)]
theorem tl_sum {g : Nat → Nat → Int32} {s : Nat} (hz : zh g s ≤ 6) (h : ∀ t, t < zh g s → ∃ x y, x ≤ y ∧ y ≤ 100 ∧ g 8 (s * 6 + t) = nI x ∧ g 7 (s * 6 + t) = nI y) : vSum (tlG g s 7) (s * 6) (zh (tlG g s) s) = vSum (g 7) (s * 6) (zh g s) - vSum (g 8) (s * 6) (zh g s) ∧ (∀ j, j < s * 6 ∨ s * 6 + 6 ≤ j → tlG g s 7 j = g 7 j) ∧ (∀ j, j ≠ s → tlG g s 2 j = g 2 j) ∧ tlG g s 8 = g 8 := by
  obtain ⟨t1, t2⟩ := tlV_v (g 7) (g 8) (s * 6) (zh g s)
  have e7 : tlG g s 7 = (drI (g 6) (tlV (g 7) (g 8) (s * 6) (zh g s)) (s * 6) (zh g s)).2.2 := rfl
  have e2 : tlG g s 2 = upd (g 2) s (nI (drI (g 6) (tlV (g 7) (g 8) (s * 6) (zh g s)) (s * 6) (zh g s)).1) := rfl
  have hl := drI_le (g 6) (tlV (g 7) (g 8) (s * 6) (zh g s)) (s * 6) (zh g s)
  have ez : zh (tlG g s) s = (drI (g 6) (tlV (g 7) (g 8) (s * 6) (zh g s)) (s * 6) (zh g s)).1 := by
    show (tlG g s 2 s).toNatClampNeg = _
    rw [e2, pk_us, nI_clamp (by omega)]
  obtain ⟨d1, d2⟩ := dr_sum (K := g 6) (V := tlV (g 7) (g 8) (s * 6) (zh g s)) (b := s * 6) (n := zh g s) (fun t ht => by
    obtain ⟨x, y, h1, h2, h3, h4⟩ := h t ht
    exact ⟨y - x, by omega, by rw [t1 t ht, h3, h4, pk_sub h1]⟩) (zh g s) (Nat.le_refl _)
  refine ⟨?_, fun j hj => ?_, fun j hj => ?_, rfl⟩
  · rw [ez, e7, d1]
    exact vs_sub _ t1
  · rw [e7, d2 j (by omega), t2 j (by omega)]
  · rw [e2, pk_un hj]
theorem mt_sum {g : Nat → Nat → Int32} {L : Nat → Int32} (hg : okH g) (h : ∀ s, s < 8 → ∀ t, t < zh g s → ∃ x y, x ≤ y ∧ y ≤ 100 ∧ L (s * 6 + t) = nI x ∧ g 7 (s * 6 + t) = nI y) : ∀ S, S ≤ 8 → (∀ s, s < S → vSum (mtG (va_up g 8 L) S 7) (s * 6) (zh (mtG (va_up g 8 L) S) s) = vSum (g 7) (s * 6) (zh g s) - vSum L (s * 6) (zh g s)) ∧ (∀ s, S ≤ s → mtG (va_up g 8 L) S 2 s = g 2 s) ∧ (∀ j, S * 6 ≤ j → mtG (va_up g 8 L) S 7 j = g 7 j) ∧ mtG (va_up g 8 L) S 8 = L
  | 0, _ => ⟨fun s hs => absurd hs (Nat.not_lt_zero _), fun _ _ => rfl, fun _ _ => rfl, rfl⟩
  | S + 1, hS => by
    obtain ⟨i1, i2, i3, i4⟩ := mt_sum hg h S (by omega)
    have hX := okH_mt (g := va_up g 8 L) hg S (by omega)
    have e : mtG (va_up g 8 L) (S + 1) = tlG (mtG (va_up g 8 L) S) S := rfl
    rw [e]
    clear e
    generalize mtG (va_up g 8 L) S = X at i1 i2 i3 i4 hX ⊢
    have ez : zh X S = zh g S := by
      show (X 2 S).toNatClampNeg = _
      rw [i2 S (Nat.le_refl _)]
      rfl
    have hz := (hg S (by omega)).2
    obtain ⟨a1, a2, a3, a4⟩ := tl_sum (g := X) (s := S) (by omega) (fun t ht => by
      obtain ⟨x, y, h1, h2, h3, h4⟩ := h S (by omega) t (by omega)
      exact ⟨x, y, h1, h2, by rw [i4]; exact h3, by rw [i3 _ (by omega)]; exact h4⟩)
    refine ⟨fun s hs => ?_, fun s hs => ?_, fun j hj => ?_, ?_⟩
    · by_cases q : s = S
      · subst q
        rw [a1, ez, i4, vs_cg (F := X 7) (G := g 7) _ (fun t ht => i3 _ (by omega))]
      · have ez2 : zh (tlG X S) s = zh X s := by
          show (tlG X S 2 s).toNatClampNeg = _
          rw [a3 s q]
          rfl
        have hz2 := (hX s (by omega)).2
        rw [ez2, vs_cg (F := tlG X S 7) (G := X 7) _ (fun t ht => a2 _ (by omega)), i1 s (by omega)]
    · rw [a3 s (by omega), i2 s (by omega)]
    · rw [a2 j (by omega), i3 j (by omega)]
    · rw [a4, i4]
theorem ml5_7 (g R : Nat → Nat → Int32) : ml5 g R 7 = R 7 := rfl
theorem ml5_z (g R : Nat → Nat → Int32) (s : Nat) : zh (ml5 g R) s = zh R s := rfl
theorem ml_sum {g : Nat → Nat → Int32} {f : Nat → Int32} {a : Nat} (ha : a < 12) (e8 : f 8 = nI a) (K : okK g) (R : stR g f) {s : Nat} (hs : s < 8) : vSum (mlG g (nI a) 7) (s * 6) (zh (mlG g (nI a)) s) = vSum (g 7) (s * 6) (zh g s) - vSum (mlO g (nI a) 8) (s * 6) (zh g s) := by
  obtain ⟨h1, -, -, -⟩ := mt_sum (g := g) (L := mlO g (nI a) 8) K.1 (fun s hs t ht => by
    obtain ⟨-, x, y, h1, h2, h3, h4⟩ := ps_in ha e8 K R hs ht
    exact ⟨x, y, h1, h2, (mlO_v (nI a) K.1 8 (Nat.le_refl _) s hs t ht).trans h3, h4⟩) 8 (Nat.le_refl _)
  have h2 := h1 s hs
  unfold mlG
  rw [ml5_7, ml5_z]
  unfold mlR
  exact h2
theorem hb_yes {g : Nat → Nat → Int32} (hg : okH g) {s l : Nat} (hs : s < 8) (hl : l < zh g s) : ¬ hbl g (nI s) (nI l) = 0 := by
  have hz := hg s hs
  have h0 : ¬ nI l < 0 := by
    rw [show (0 : Int32) = nI 0 from rfl, nI_ltI (by omega) (by omega)]
    omega
  have h1 : ¬ g 2 s ≤ nI l := by
    rw [hz.1, nI_leI (by omega) (by omega)]
    omega
  unfold hbl
  rw [zhA_n hs, if_neg h0, if_neg h1]
  decide +kernel
theorem mu_ls {g : Nat → Nat → Int32} (O : okS g) {a : Nat} (ea : g 0 4 = nI a) {s l : Nat} (hs : s < 8) (hl : l < zh g s) : muI g s l = lsV g (nI a) s l := by
  have hb := hb_yes O.1 hs hl
  obtain ⟨⟨d, hd, ed⟩, y, y1, y2, ey⟩ := O.2.2.2.2.2.2.2.1 s hs l hl
  have b0 : bvC g s l 0 = nI d := by
    unfold bvC
    rw [if_neg hb, if_pos (by decide +kernel), ed]
  have b1 : bvC g s l 1 = nI y := by
    unfold bvC
    rw [if_neg hb, if_neg (by decide +kernel), if_pos (by decide +kernel), ey]
  have b2 : bvC g s l 2 = fcs g s l (nI a) := by
    unfold bvC
    rw [if_neg hb, if_neg (by decide +kernel), if_neg (by decide +kernel), ea]
  have er : nI 6 - nI 2 * nI d = rt (nI d) := by
    rcases (show d = 0 ∨ d = 1 ∨ d = 2 by omega) with rfl | rfl | rfl <;> decide +kernel
  unfold muI mwI lsV
  rw [b0, b1, b2, ed, ey, er]
  generalize rt (nI d) * fcs g s l (nI a) = W
  by_cases c : nI y < W
  · rw [if_pos c, if_pos (Int32.le_of_lt c)]
  · rw [if_neg c]
    by_cases d2 : nI y ≤ W
    · rw [if_pos d2]
      exact Int32.le_antisymm d2 (Int32.not_lt.mp c)
    · rw [if_neg d2]
theorem mg_sum {g X : Nat → Nat → Int32} (O : okS g) {a : Nat} (ea : g 0 4 = nI a) (hX : okH X) {s : Nat} (hs : s < 8) (hz : zh X s = zh g s) (hl : ∀ t, t < zh g s → lsV X (nI a) s t = lsV g (nI a) s t) : ∀ n, n ≤ zh g s → vSum (mlO X (nI a) 8) (s * 6) n = mgI g s n
  | 0, _ => rfl
  | n + 1, h => by
    show vSum (mlO X (nI a) 8) (s * 6) n + mlO X (nI a) 8 (s * 6 + n) = mgI g s n + muI g s n
    rw [mg_sum O ea hX hs hz hl n (by omega), mlO_v (nI a) hX 8 (Nat.le_refl _) s hs n (by omega), hl n (by omega), mu_ls O ea hs (by omega)]
/-- what volumeIn(site, 1) tells -/
theorem vol_in {g : Nat → Nat → Int32} {f : Nat → Int32} (O : okS g) (H : reS g f) : ∀ s, s < 8 → ∀ T : Nat → Nat → Int32, vSum (trT g (cpSt T g) 1 7) (s * 6) (zh (trT g (cpSt T g) 1) s) = svC g s 1 - mgI g s (zh g s) := by
  intro s hs T
  obtain ⟨a, ha, ea⟩ := O.2.2.2.2.1
  have e8 : f 8 = nI a := by rw [H.2.2.2.2.2.2.1, ea]
  have er : hrI g 0 = nI a := by rw [hrI_v ea (by omega), Nat.add_zero, Nat.mod_eq_of_lt ha]
  have e1 : trT g (cpSt T g) 1 = mlG (cpSt T g) (nI a) := by
    show mlG (cpSt T g) (hrI g 0) = _
    rw [er]
  have z1 : zh (cpSt T g) s = zh g s := rfl
  have k1 : okH (cpSt T g) := okH_cp O.1
  have h := ml_sum (g := cpSt T g) ha e8 (okK_cg (g := g) rfl rfl rfl rfl (okK_of O)) (stR_cg (g := g) rfl rfl rfl rfl rfl (stR_of H)) hs
  rw [e1, h, z1, mg_sum O ea k1 hs z1 (fun t ht => rfl) _ (Nat.le_refl _)]
  rfl
