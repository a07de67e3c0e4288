/-! the law's sums, on: carving, an hour, what is undone -/
theorem ra_ok {g : Nat → Nat → Int32} (hg : okH g) {t s l : Nat} {u : Int32} (hs : s < 8) (hl : l < 6) (h : raG g t s l u = 0) : l < zh g s ∧ u ≤ g 7 (s * 6 + l) := by
  have hz := hg s hs
  unfold raG at h
  by_cases c1 : hbl g (nI s) (nI 0) = 0
  · rw [if_pos c1] at h
    exact absurd h (by decide +kernel)
  rw [if_neg c1] at h
  by_cases c2 : hbl g (nI s) (nI l) = 0
  · rw [if_pos c2] at h
    exact absurd h (by decide +kernel)
  rw [if_neg c2] at h
  refine ⟨?_, ?_⟩
  · rcases Nat.lt_or_ge l (zh g s) with q | q
    · exact q
    · exfalso
      apply c2
      have h2 : g 2 s ≤ nI l := by
        rw [hz.1, nI_leI (by omega) (by omega)]
        exact q
      unfold hbl
      rw [zhA_n hs, if_pos h2]
      split <;> rfl
  · by_cases c3 : u ≤ g 7 (s * 6 + l)
    · exact c3
    · rw [if_neg c3] at h
      exact absurd h (by decide +kernel)
theorem IV_cr {g : Nat → Nat → Int32} {ad : Int32} (I : IV g ad) {s l u : Nat} (ht : 0 < zt g) (hs : s < 8) (hl : l < 6) (hu1 : 1 ≤ u) (hu : u ≤ 100) (h0 : raG g 0 s l (nI u) = 0) : IV (coG g 0 s l (nI u)) ad := by
  obtain ⟨O, ⟨f, H⟩, h1, h2⟩ := I
  obtain ⟨O2, H2, -⟩ := re_cr O H ht hs hl hu1 hu h0
  obtain ⟨hlz, hle⟩ := ra_ok O.1 hs hl h0
  have hK := (okK_of O).2.1
  have hz := (O.1 s hs).2
  have t : tot (coG g 0 s l (nI u)) = g 0 0 + nI 100 * (g 1 0 + g 1 1 + g 1 2) + vAll (coG g 0 s l (nI u)) 8 + (g 0 2 + nI u) + vSum (g 5) 0 8 := rfl
  have e7 : coG g 0 s l (nI u) 7 = (drI (g 6) (upd (g 7) (s * 6 + l) (g 7 (s * 6 + l) - nI u)) (s * 6) (zh g s)).2.2 := rfl
  have e2 : coG g 0 s l (nI u) 2 = upd (g 2) s (nI (drI (g 6) (upd (g 7) (s * 6 + l) (g 7 (s * 6 + l) - nI u)) (s * 6) (zh g s)).1) := rfl
  have e4 : coG g 0 s l (nI u) 4 = upd (g 4) s (g 4 s + nI u) := rfl
  have hl2 := drI_le (g 6) (upd (g 7) (s * 6 + l) (g 7 (s * 6 + l) - nI u)) (s * 6) (zh g s)
  obtain ⟨-, y, y1, y2, ey⟩ := hK s hs l hlz
  have huy : u ≤ y := by
    rw [ey, nI_leI (by omega) (by omega)] at hle
    exact hle
  obtain ⟨d1, d2⟩ := dr_sum (K := g 6) (V := upd (g 7) (s * 6 + l) (g 7 (s * 6 + l) - nI u)) (b := s * 6) (n := zh g s) (fun t ht => by
    by_cases q : t = l
    · subst q
      exact ⟨y - u, by omega, by rw [pk_us, ey, pk_sub huy]⟩
    · obtain ⟨-, x, x1, x2, ex⟩ := hK s hs t ht
      exact ⟨x, x2, by rw [pk_un (by omega), ex]⟩) (zh g s) (Nat.le_refl _)
  have ez : zh (coG g 0 s l (nI u)) s = (drI (g 6) (upd (g 7) (s * 6 + l) (g 7 (s * 6 + l) - nI u)) (s * 6) (zh g s)).1 := by
    show (coG g 0 s l (nI u) 2 s).toNatClampNeg = _
    rw [e2, pk_us, nI_clamp (by omega)]
  have ev : vAll (coG g 0 s l (nI u)) 8 = vAll g 8 + ((g 7 (s * 6 + l) - nI u) - g 7 (s * 6 + l)) := (vA_pt (s := s) (by
    rw [ez, e7, d1]
    exact (vs_set _).1 hlz) 8 (fun i hi q => by
    have ez2 : zh (coG g 0 s l (nI u)) i = zh g i := by
      show (coG g 0 s l (nI u) 2 i).toNatClampNeg = _
      rw [e2, pk_un q]
      rfl
    have hzi := (O.1 i hi).2
    rw [ez2, e7]
    exact vs_cg _ (fun t ht => by rw [d2 _ (by omega), pk_un (by omega)]))).1 hs
  refine ⟨O2, ⟨_, H2⟩, ?_, ?_⟩
  · rw [t, ev, ← h1]
    unfold tot
    generalize vAll g 8 = A
    generalize vSum (g 5) 0 8 = B
    generalize g 7 (s * 6 + l) = C
    generalize nI u = D
    grind
  · rw [e4, vs_set0 hs]
    show _ = (g 0 2 + nI u) + g 0 3
    rw [h2]
    generalize g 4 s = C
    generalize nI u = D
    grind
/-- an hour in the sun -/
theorem IV_h0 {g : Nat → Nat → Int32} {ad : Int32} (I : IV g ad) : IV (phG g (nI 0) 1) ad ∧ phS g (nI 0) 1 = mgA g 8 ∧ ∀ s, s < 8 → svC (phG g (nI 0) 1) s 1 = svC g s 1 - mgI g s (zh g s) := by
  obtain ⟨O, ⟨f, H⟩, h1, h2⟩ := I
  obtain ⟨O2, H2, -⟩ := re_h0 (n := 48) rfl O H
  obtain ⟨a, ha, ea⟩ := O.2.2.2.2.1
  obtain ⟨m1, m2, m3, m4⟩ := ml_all (m := 48) rfl O H ha ea
  have e1 : phG g (nI 0) 1 = hrG (mlG g (nI a)) := by
    show hrG (phM g (nI 0)) = _
    unfold phM
    rw [if_pos (by decide +kernel), ea]
  have e2 : phS g (nI 0) 1 = mlS g (nI a) := by
    show nI 0 + phV g (nI 0) = _
    unfold phV
    rw [if_pos (by decide +kernel), ea]
    exact Int32.zero_add _
  obtain ⟨q1, -, -, -, q5⟩ := hrG_v (G := mlG g (nI a)) ha (by rw [mlG_0]; exact ea)
  have b7 : hrG (mlG g (nI a)) 7 = mlG g (nI a) 7 := q5 7 (by decide) (by decide)
  have b2 : hrG (mlG g (nI a)) 2 = mlG g (nI a) 2 := q5 2 (by decide) (by decide)
  have b5 : hrG (mlG g (nI a)) 5 = mlG g (nI a) 5 := q5 5 (by decide) (by decide)
  have b4 : hrG (mlG g (nI a)) 4 = g 4 := q5 4 (by decide) (by decide)
  have b1 : hrG (mlG g (nI a)) 1 = g 1 := q5 1 (by decide) (by decide)
  have b00 : hrG (mlG g (nI a)) 0 0 = g 0 0 := q1 0 (by decide) (by decide)
  have b02 : hrG (mlG g (nI a)) 0 2 = g 0 2 := q1 2 (by decide) (by decide)
  have b03 : hrG (mlG g (nI a)) 0 3 = g 0 3 := q1 3 (by decide) (by decide)
  have bz : ∀ s, zh (hrG (mlG g (nI a))) s = zh (mlG g (nI a)) s := fun s => by
    show (hrG (mlG g (nI a)) 2 s).toNatClampNeg = _
    rw [b2]
    rfl
  rw [e2, m1]
  rw [e1] at O2 H2 ⊢
  refine ⟨⟨O2, ⟨_, H2⟩, ?_, ?_⟩, rfl, fun s hs => ?_⟩
  · unfold tot
    rw [b1, b00, b02, b5, m3, vA_cg (g := mlG g (nI a)) (g' := hrG (mlG g (nI a))) 8 (fun s hs => by rw [b7, bz s]), m2, ← h1]
    unfold tot
    generalize vAll g 8 = A
    generalize vSum (g 5) 0 8 = B
    generalize mgA g 8 = C
    grind
  · rw [b4, b02, b03, h2]
  · rw [← m4 s hs, ← b7, ← bz s]
    rfl
theorem IV_h1 {g : Nat → Nat → Int32} {ad : Int32} (I : IV g ad) : IV (phG g (nI 1) 1) ad := by
  obtain ⟨O, ⟨f, H⟩, h1, h2⟩ := I
  obtain ⟨O2, H2, -⟩ := re_h1 (n := 8) rfl O H
  obtain ⟨a, ha, ea⟩ := O.2.2.2.2.1
  have e1 : phG g (nI 1) 1 = hrG g := by
    show hrG (phM g (nI 1)) = _
    unfold phM
    rw [if_neg (by decide +kernel)]
  obtain ⟨q1, -, -, -, q5⟩ := hrG_v (G := g) ha ea
  have b7 : hrG g 7 = g 7 := q5 7 (by decide) (by decide)
  have b2 : hrG g 2 = g 2 := q5 2 (by decide) (by decide)
  have b5 : hrG g 5 = g 5 := q5 5 (by decide) (by decide)
  have b4 : hrG g 4 = g 4 := q5 4 (by decide) (by decide)
  have b1 : hrG g 1 = g 1 := q5 1 (by decide) (by decide)
  have b00 : hrG g 0 0 = g 0 0 := q1 0 (by decide) (by decide)
  have b02 : hrG g 0 2 = g 0 2 := q1 2 (by decide) (by decide)
  have b03 : hrG g 0 3 = g 0 3 := q1 3 (by decide) (by decide)
  have bz : ∀ s, zh (hrG g) s = zh g s := fun s => by
    show (hrG g 2 s).toNatClampNeg = _
    rw [b2]
    rfl
  rw [e1] at O2 H2 ⊢
  refine ⟨O2, ⟨_, H2⟩, ?_, ?_⟩
  · unfold tot
    rw [b1, b00, b02, b5, vA_cg (g := g) (g' := hrG g) 8 (fun s hs => by rw [b7, bz s])]
    exact h1
  · rw [b4, b02, b03, h2]
theorem eqS_tr {a b c : Nat → Nat → Int32} (h : eqS a b) (h2 : eqS b c) : eqS a c := by
  obtain ⟨a0, a1, a2, a3, a4, a5, a6, a7, a9, a10, a11, a12⟩ := h
  obtain ⟨b0, b1, b2, b3, b4, b5, b6, b7, b9, b10, b11, b12⟩ := h2
  exact ⟨fun j hj => (a0 j hj).trans (b0 j hj), a1.trans b1, a2.trans b2, a3.trans b3, a4.trans b4, a5.trans b5, a6.trans b6, a7.trans b7, a9.trans b9, a10.trans b10, a11.trans b11, a12.trans b12⟩
theorem IV_eq {g g' : Nat → Nat → Int32} {ad : Int32} (e : eqS g' g) (I : IV g ad) : IV g' ad := by
  obtain ⟨O, ⟨f, H⟩, h1, h2⟩ := I
  refine ⟨okS_cg e O, ⟨f, reS_cg e H⟩, ?_, ?_⟩
  · obtain ⟨a0, a1, a2, a3, a4, a5, a6, a7, -⟩ := e
    unfold tot
    rw [a0 0 (by decide), a0 2 (by decide), a1, a5, vA_cg (g := g) (g' := g') 8 (fun s hs => by unfold zh; rw [a7, a2])]
    exact h1
  · obtain ⟨a0, a1, a2, a3, a4, a5, a6, a7, -⟩ := e
    rw [a4, a0 2 (by decide), a0 3 (by decide)]
    exact h2
/-- what is the same has the same checksum -/
theorem dg_eq {g g' t t' c c' o n n' : Nat → Nat → Int32} {f : Nat → Int32} (O : okS g) (H : reS g f) (e : eqS g' g) (hn : n' 0 0 = n 0 0) : dgC g' t' c' o n' = dgC g t c o n := by
  have q1 := re_dg (g := g) (t := t) (c := c) (o := o) (n := n) (h := fun i => if i = 1 then f else fun j => if j = 4 then o 0 0 else n 0 0) O H rfl rfl
  have q2 := re_dg (g := g') (t := t') (c := c') (o := o) (n := n') (h := fun i => if i = 1 then f else fun j => if j = 4 then o 0 0 else n 0 0) (okS_cg e O) (reS_cg e H) rfl hn
  rw [q1, q2]
theorem IV_00 : IV (fun _ _ => 0) 0 := by
  have e : (0 : Int32).toNatClampNeg = 0 := by decide +kernel
  have ez : ∀ s, zh (fun _ _ => 0) s = 0 := fun s => e
  have et : zt (fun _ _ => 0) = 0 := e
  have eb : zb (fun _ _ => 0) = 0 := e
  refine ⟨⟨fun s hs => ⟨by rw [ez]; rfl, by rw [ez]; omega⟩, ⟨by rw [et]; rfl, by rw [et]; omega⟩, ⟨by rw [eb]; rfl, by rw [eb]; omega⟩, fun k hk => ⟨0, by omega, rfl⟩, ⟨0, by omega, rfl⟩, fun t ht => ?_, fun b hb => ?_, fun s hs t ht => ?_, fun s hs => Or.inl rfl⟩, ⟨fun _ => 0, ⟨rfl, fun k hk => rfl, rfl, rfl, by decide +kernel, rfl, rfl, rfl, rfl, rfl, fun s hs => ⟨rfl, rfl, rfl, rfl, fun t ht => ⟨rfl, rfl⟩⟩, fun t ht => ⟨rfl, rfl, rfl⟩, fun i hi => rfl⟩⟩, by decide +kernel, by decide +kernel⟩
  · rw [et] at ht; exact absurd ht (Nat.not_lt_zero _)
  · rw [eb] at hb; exact absurd hb (Nat.not_lt_zero _)
  · rw [ez] at ht; exact absurd ht (Nat.not_lt_zero _)
