/-! the count, on: all its rounds -/
/-- what a round leaves, when it names the winner -/
def rhG (g c : Nat → Nat → Int32) (r : Nat) : Nat → Nat → Int32 := rhC (cvC9 g c r) r
theorem rh_v (g c : Nat → Nat → Int32) (r : Nat) : rhG g c r 0 0 = nI (r + 1) ∧ rhG g c r 0 1 = wnR (cbI (c 2) (g 12) (c 1) r (zb g)).1 (c 1) r (cbI (c 2) (g 12) (c 1) r (zb g)).2 8 0 (nI 0) (-1) ∧ rhG g c r 0 2 = (cbI (c 2) (g 12) (c 1) r (zb g)).2 ∧ (∀ i, 3 ≤ i → rhG g c r 0 i = c 0 i) ∧ rhG g c r 1 = c 1 ∧ rhG g c r 2 = (cbI (c 2) (g 12) (c 1) r (zb g)).1 ∧ ∀ x, 3 ≤ x → rhG g c r x = c x := by
  refine ⟨rfl, rfl, rfl, fun i hi => ?_, rfl, rfl, fun x hx => ?_⟩
  · show upd (upd (upd (c 0) 2 _) 0 _) 1 _ i = c 0 i
    rw [pk_un (by omega), pk_un (by omega), pk_un (by omega)]
  · show (if x = 0 then _ else if x = 0 then _ else if x = 2 then _ else c x) = c x
    rw [if_neg (by omega), if_neg (by omega), if_neg (by omega)]
theorem tk_go {g c : Nat → Nat → Int32} {k r : Nat} (h : rhG g c r 0 1 = (-1)) : tkR g (k + 1) r c = tkR g k (r + 1) (dwC g (rhG g c r) r) := if_pos h
theorem tk_end {g c : Nat → Nat → Int32} {k r : Nat} (h : ¬ rhG g c r 0 1 = (-1)) : tkR g (k + 1) r c = rhG g c r := if_neg h
theorem dwC_v {g c : Nat → Nat → Int32} {r j : Nat} (hj : j < 8) (h : dwI (c 2) (c 1) g r 8 = nI j) : dwC g c r = va_up c 1 (upd (c 1) j (nI 0)) := by
  unfold dwC
  rw [if_neg (by rw [h]; exact nI_nm1 (by omega)), h, nI_clamp (by omega)]
set_option maxRecDepth 20000 in
theorem ct1 {g : Nat → Nat → Int32} (h20 : zb g ≤ 20) : ∀ k r (c : Nat → Nat → Int32) m, cnS (c 1) 8 = m → 1 ≤ m → m ≤ k → ∃ R w, r < R ∧ R ≤ r + m ∧ w < 8 ∧ tkR g k r c 0 0 = nI R ∧ tkR g k r c 0 1 = nI w ∧ (∀ j, j < r * 8 → tkR g k r c 2 j = c 2 j) ∧ (∀ j, R * 8 ≤ j → tkR g k r c 2 j = c 2 j) ∧ (∀ i, 3 ≤ i → tkR g k r c 0 i = c 0 i) ∧ (∀ i, 8 ≤ i → tkR g k r c 1 i = c 1 i) ∧ (∀ x, 3 ≤ x → tkR g k r c x = c x) ∧ (∀ r9, r ≤ r9 → r9 < R → ∃ (sd : Nat → Int32) (v : Nat → Nat), smS v 8 ≤ zb g ∧ cnS sd 8 + r9 = m + r ∧ ∀ i, i < 8 → tkR g k r c 2 (r9 * 8 + i) = if sd i = 0 then (-1) else nI (v i)) ∧ ¬ tkR g k r c 2 ((R - 1) * 8 + w) = (-1)
  | 0, r, c, m, _, h1, hk => by omega
  | k + 1, r, c, m, hm, h1, hk => by
    obtain ⟨p1, p2, p3, p4, p5, p6, p7⟩ := rh_v g c r
    obtain ⟨v, v1, v2, v3, v4⟩ := cw_v (V := c 2) (ch := g 12) (sd := c 1) (r := r) (zb g)
    rcases wn_v (V := c 2) (ch := g 12) (sd := c 1) (r := r) (B := zb g) h20 (by omega) with ⟨q1, q2⟩ | ⟨w, hw, hsw, q1⟩
    · rw [← p2] at q1
      rw [tk_go q1]
      rcases dw_v (V := rhG g c r 2) (sd := rhG g c r 1) (g := g) (r := r) 8 (Nat.le_refl _) with ⟨-, d2⟩ | ⟨j, hj, hsj, d1⟩
      · exfalso
        rw [p5] at d2
        have := cn_0 (sd := c 1) 8 d2
        omega
      · rw [dwC_v hj d1]
        rw [p5] at hsj ⊢
        have hd := (cnS_drop (sd := c 1) hsj 8).2 hj
        obtain ⟨R, w, a1, a2, a3, a4, a5, a6, a7, a8, a9, a10, a11, a12⟩ := ct1 h20 k (r + 1) (va_up (rhG g c r) 1 (upd (c 1) j (nI 0))) (m - 1) (show cnS (upd (c 1) j (nI 0)) 8 = m - 1 by omega) (by omega) (by omega)
        have e2 : va_up (rhG g c r) 1 (upd (c 1) j (nI 0)) 2 = (cbI (c 2) (g 12) (c 1) r (zb g)).1 := p6
        have e0 : va_up (rhG g c r) 1 (upd (c 1) j (nI 0)) 0 = rhG g c r 0 := rfl
        have e1 : va_up (rhG g c r) 1 (upd (c 1) j (nI 0)) 1 = upd (c 1) j (nI 0) := rfl
        have ex : ∀ x, 3 ≤ x → va_up (rhG g c r) 1 (upd (c 1) j (nI 0)) x = c x := fun x hx => by
          show (if x = 1 then _ else rhG g c r x) = c x
          rw [if_neg (by omega), p7 x hx]
        generalize va_up (rhG g c r) 1 (upd (c 1) j (nI 0)) = c2 at a4 a5 a6 a7 a8 a9 a10 a11 a12 e2 e0 e1 ex ⊢
        generalize tkR g k (r + 1) c2 = T at a4 a5 a6 a7 a8 a9 a10 a11 a12 ⊢
        refine ⟨R, w, by omega, by omega, a3, a4, a5, fun j hj => ?_, fun j hj => ?_, fun i hi => ?_, fun i hi => ?_, fun x hx => ?_, fun r9 h1 h2 => ?_, a12⟩
        · rw [a6 j (by omega), e2, v4 j (by omega)]
        · rw [a7 j hj, e2, v4 j (by omega)]
        · rw [a8 i hi, e0, p4 i hi]
        · rw [a9 i hi, e1, pk_un (by omega)]
        · rw [a10 x hx, ex x hx]
        · by_cases q : r9 = r
          · subst q
            exact ⟨c 1, v, v1, by omega, fun i hi => by rw [a6 _ (by omega), e2, v3 i hi]⟩
          · obtain ⟨sd, v9, b1, b2, b3⟩ := a11 r9 (by omega) h2
            exact ⟨sd, v9, b1, by omega, b3⟩
    · rw [← p2] at q1
      rw [tk_end (by rw [q1]; exact nI_nm1 (by omega))]
      refine ⟨r + 1, w, by omega, by omega, hw, p1, q1, fun j hj => ?_, fun j hj => ?_, p4, fun i hi => ?_, p7, fun r9 h1 h2 => ?_, ?_⟩
      · rw [p6, v4 j (by omega)]
      · rw [p6, v4 j (by omega)]
      · rw [p5]
      · obtain rfl : r = r9 := by omega
        exact ⟨c 1, v, v1, by omega, fun i hi => by rw [p6, v3 i hi]⟩
      · rw [p6, Nat.add_sub_cancel, v3 w hw, if_neg hsw]
        have h2 : v w ≤ smS v 8 := smS_1 8 hw
        exact nI_nm1 (by omega)
theorem ct2 {g : Nat → Nat → Int32} (h20 : zb g ≤ 20) : ∀ k r (c c' : Nat → Nat → Int32) m, r + k ≤ 8 → (∀ i, i < 8 → c 1 i = c' 1 i) → (∀ j, j < r * 8 → c 2 j = c' 2 j) → cnS (c 1) 8 = m → 1 ≤ m → m ≤ k → tkR g k r c 0 0 = tkR g k r c' 0 0 ∧ tkR g k r c 0 1 = tkR g k r c' 0 1 ∧ tkR g k r c 0 2 = tkR g k r c' 0 2 ∧ (∀ i, i < 8 → tkR g k r c 1 i = tkR g k r c' 1 i) ∧ ∀ R, R ≤ 8 → tkR g k r c 0 0 = nI R → ∀ j, j < R * 8 → tkR g k r c 2 j = tkR g k r c' 2 j
  | 0, r, c, c', m, _, _, _, _, h1, hk => by omega
  | k + 1, r, c, c', m, hr, hs, hV, hm, h1, hk => by
    obtain ⟨p1, p2, p3, p4, p5, p6, p7⟩ := rh_v g c r
    obtain ⟨s1, s2, s3, s4, s5, s6, s7⟩ := rh_v g c' r
    obtain ⟨g1, g2⟩ := cw_ag (V := c 2) (V' := c' 2) (ch := g 12) (r := r) hs hV (zb g)
    have gV : ∀ i, i < 8 → (cbI (c 2) (g 12) (c 1) r (zb g)).1 (r * 8 + i) = (cbI (c' 2) (g 12) (c' 1) r (zb g)).1 (r * 8 + i) := fun i hi => g2 _ (by omega)
    have ew : rhG g c r 0 1 = rhG g c' r 0 1 := by
      rw [p2, s2, g1]
      exact wn_ag hs gV 8 0 _ _ rfl
    rcases wn_v (V := c 2) (ch := g 12) (sd := c 1) (r := r) (B := zb g) h20 (by omega) with ⟨q1, q2⟩ | ⟨w, hw, hsw, q1⟩
    · rw [← p2] at q1
      rw [tk_go q1, tk_go (ew ▸ q1)]
      have hd9 : dwI (rhG g c r 2) (rhG g c r 1) g r 8 = dwI (rhG g c' r 2) (rhG g c' r 1) g r 8 := by
        rw [p5, p6, s5, s6]
        exact dw_ag hs gV 8 (Nat.le_refl _)
      rcases dw_v (V := rhG g c r 2) (sd := rhG g c r 1) (g := g) (r := r) 8 (Nat.le_refl _) with ⟨-, d2⟩ | ⟨j, hj, hsj, d1⟩
      · exfalso
        rw [p5] at d2
        have := cn_0 (sd := c 1) 8 d2
        omega
      · rw [dwC_v hj d1, dwC_v hj (hd9 ▸ d1)]
        rw [p5] at hsj ⊢
        rw [s5]
        have hd := (cnS_drop (sd := c 1) hsj 8).2 hj
        exact ct2 h20 k (r + 1) _ _ (m - 1) (by omega) (fun i hi => by
          show upd (c 1) j (nI 0) i = upd (c' 1) j (nI 0) i
          by_cases q : i = j
          · rw [q, pk_us, pk_us]
          · rw [pk_un q, pk_un q, hs i hi]) (fun i hi => by
          show rhG g c r 2 i = rhG g c' r 2 i
          rw [p6, s6, g2 i (by omega)]) (show cnS (upd (c 1) j (nI 0)) 8 = m - 1 by omega) (by omega) (by omega)
    · rw [← p2] at q1
      rw [tk_end (by rw [q1]; exact nI_nm1 (by omega)), tk_end (by rw [← ew, q1]; exact nI_nm1 (by omega))]
      refine ⟨by rw [p1, s1], ew, by rw [p3, s3, g1], fun i hi => by rw [p5, s5, hs i hi], fun R hR e j hj => ?_⟩
      rw [p1] at e
      have := (nI_eq (by omega) (by omega)).mp e
      rw [p6, s6, g2 j (by omega)]
