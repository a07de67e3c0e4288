theorem re_it {g : Nat → Nat → Int32} {f : Nat → Int32} (O : okS g) (H : reS g f) (x : Int32) : itC g x = wi x (nI 0) (f 10 - nI 1) := by
  have e10 := H.2.2.2.2.2.2.2.2.1
  obtain ⟨h1, h2⟩ := O.2.1
  unfold itC wi
  rw [e10, h1]
  by_cases c : x < 0
  · rw [if_pos c, if_pos (show x < nI 0 from c)]
  · rw [if_neg c, if_neg (show ¬ x < nI 0 from c)]
    obtain ⟨j, hj, rfl⟩ := nI_of c
    rcases Nat.eq_zero_or_pos (zt g) with q | q
    · rw [q, if_pos (nI_0le j hj), show nI 0 - nI 1 = -1 by decide +kernel, if_pos]
      exact Int32.lt_of_lt_of_le (show (-1 : Int32) < nI 0 by decide +kernel) (nI_0le j hj)
    · rw [pk_sub (by omega)]
      by_cases c2 : zt g ≤ j
      · rw [if_pos ((nI_leI (by omega) hj).mpr c2), if_pos ((nI_ltI (by omega) hj).mpr (by omega))]
      · rw [if_neg (fun q2 => c2 ((nI_leI (by omega) hj).mp q2)), if_neg (fun q2 => by have := (nI_ltI (by omega) hj).mp q2; omega)]
theorem it_lt2 {g : Nat → Nat → Int32} (O : okS g) {t : Nat} (ht : t < 2 ^ 32) (h : ¬ itC g (nI t) = 0) : t < zt g := by
  obtain ⟨h1, h2⟩ := O.2.1
  unfold itC at h
  by_cases c : nI t < 0
  · rw [if_pos c] at h; exact absurd rfl h
  rw [if_neg c] at h
  have ht2 := nI_n31 ht c
  by_cases c2 : g 0 6 ≤ nI t
  · rw [if_pos c2] at h; exact absurd rfl h
  · rw [h1, nI_leI (by omega) ht2] at c2
    omega
theorem re_mt {g : Nat → Nat → Int32} {f : Nat → Int32} (O : okS g) (H : reS g f) {t : Nat} (ht : t < zt g) (u : Int32) : mtc (g 9 t) u = upw u (f (140 + t)) := by
  obtain ⟨⟨a, a1, a2, e⟩, -⟩ := O.2.2.2.2.2.1 t ht
  rw [(H.2.2.2.2.2.2.2.2.2.2.2.1 t ht).1, e]
  unfold mtc upw
  rw [if_pos ((nI_leI (by omega) (by omega)).mpr a1)]
theorem re_ra {g : Nat → Nat → Int32} {f : Nat → Int32} (O : okS g) (H : reS g f) {t s v : Nat} (ht : t < zt g) (hs : s < 8) (hv : v < 6) (u : Int32) : raG g t s v u = whM f t s v u := by
  obtain ⟨b1, b2, b3, b4, b5⟩ := H.2.2.2.2.2.2.2.2.2.2.1 s hs
  have hz := O.1 s hs
  have ha : ∀ x, x < 6 → hbl g (nI s) (nI x) = if g 2 s ≤ nI x then nI 0 else nI 1 := fun x hx => by
    unfold hbl
    rw [zhA_n hs, if_neg (show ¬ nI x < 0 from fun q => by rw [show (0 : Int32) = nI 0 from rfl, nI_ltI (by omega) (by omega)] at q; omega)]
  unfold raG whM
  rw [ha 0 (by omega), ha v hv, b1, hz.1, re_mt O H ht u, (H.2.2.2.2.2.2.2.2.2.2.2.1 t ht).2.1]
  rcases Nat.eq_zero_or_pos (zh g s) with q | q
  · rw [q, if_pos (show nI 0 = 0 from rfl), if_pos]
    rw [if_pos (show nI 0 ≤ nI 0 from nI_0le 0 (by omega))]; rfl
  · rw [if_neg (nI_ne0 q (by omega)), if_neg (show ¬ nI (zh g s) ≤ nI 0 from fun q2 => by have := (nI_leI (by omega) (by omega)).mp q2; omega), if_neg (show ¬ nI 1 = 0 by decide +kernel)]
    by_cases c : v < zh g s
    · rw [if_neg (show ¬ nI (zh g s) ≤ nI v from fun q2 => by have := (nI_leI (by omega) (by omega)).mp q2; omega), if_neg (show ¬ nI 1 = 0 by decide +kernel), if_pos (show nI v < nI (zh g s) from (nI_ltI (by omega) (by omega)).mpr c), (b5 v c).2]
    · rw [if_pos (show nI (zh g s) ≤ nI v from (nI_leI (by omega) (by omega)).mpr (by omega)), if_pos (show nI 0 = 0 from rfl), if_neg (show ¬ nI v < nI (zh g s) from fun q2 => by have := (nI_ltI (by omega) (by omega)).mp q2; omega)]
/-- what a carving (and a reason) is refused for, before the reason -/
theorem re_ca {g : Nat → Nat → Int32} {f : Nat → Int32} (O : okS g) (H : reS g f) {t s v u : Nat} (ht : t < 2 ^ 32) (hs : s < 2 ^ 32) (hv : v < 2 ^ 32) (hu : u < 2 ^ 32) : (caC g (nI t) (nI s) (nI v) (nI u) = nI 1 ∧ rsT f t s v u = 1 ∧ cvT f t s v u = 1) ∨ (caC g (nI t) (nI s) (nI v) (nI u) = nI 2 ∧ rsT f t s v u = 2 ∧ cvT f t s v u = 2) ∨ (caC g (nI t) (nI s) (nI v) (nI u) = nI 0 ∧ rsT f t s v u = 0 ∧ t < zt g ∧ s < 8 ∧ v < 6 ∧ 1 ≤ u ∧ u ≤ 100 ∧ cvT f t s v u = if whM f t s v (nI u) = 0 then 0 else 3) := by
  unfold caC rsT cvT
  rw [← re_it O H]
  by_cases h1 : itC g (nI t) = 0
  · rw [if_pos h1, if_pos h1, if_pos h1]; exact Or.inl ⟨rfl, rfl, rfl⟩
  rw [if_neg h1, if_neg h1, if_neg h1]
  by_cases h2 : isS (nI s) = 0
  · rw [if_pos h2, if_pos h2, if_pos h2]; exact Or.inl ⟨rfl, rfl, rfl⟩
  rw [if_neg h2, if_neg h2, if_neg h2]
  by_cases h3 : isL (nI v) = 0
  · rw [if_pos (show wi (nI v) (nI 0) (nI 5) = 0 from h3), if_pos h3, if_pos h3]; exact Or.inr (Or.inl ⟨rfl, rfl, rfl⟩)
  rw [if_neg (show ¬ wi (nI v) (nI 0) (nI 5) = 0 from h3), if_neg h3, if_neg h3]
  by_cases h4 : wi (nI u) (nI 1) (nI 100) = 0
  · rw [if_pos h4, if_pos h4, if_pos h4]; exact Or.inr (Or.inl ⟨rfl, rfl, rfl⟩)
  rw [if_neg h4, if_neg h4, if_neg h4]
  have q3 := wi_lt hv (by omega) (by omega) h3
  have q4 := wi_lt hu (by omega) (by omega) h4
  exact Or.inr (Or.inr ⟨rfl, rfl, it_lt2 O ht h1, isS_lt hs h2, by omega, q4.1, q4.2, rfl⟩)
theorem re_cr {g : Nat → Nat → Int32} {f : Nat → Int32} (O : okS g) (H : reS g f) {t s v u : Nat} (ht : t < zt g) (hs : s < 8) (hv : v < 6) (hu1 : 1 ≤ u) (hu : u ≤ 100) (h0 : raG g t s v (nI u) = 0) : okS (coG g t s v (nI u)) ∧ reS (coG g t s v (nI u)) (dmF (cvE f t s v u) s) ∧ g 7 (s * 6 + v) - nI u = cvE f t s v u (92 + 6 * s + v) := by
  have ezm := re_zh H hs
  have emt := re_mt O H ht (nI u)
  obtain ⟨o1, o2, o3, o5, o6, o7, o8, o9, o10⟩ := O
  obtain ⟨r0, r1, r2, r3, r4, r5, r6, r7, r8, r9, r10, r11, r12⟩ := H
  have hz := o1 s hs
  have ht5 := o2.2
  obtain ⟨d1, d2, d3, d4, d5⟩ := r10 s hs
  -- what the reason 0 says
  have hvz : v < zh g s ∧ nI u ≤ g 7 (s * 6 + v) ∧ mtc (g 9 t) (nI u) ≤ g 10 t := by
    unfold raG at h0
    by_cases c1 : hbl g (nI s) (nI 0) = 0
    · rw [if_pos c1] at h0; exact absurd h0 (by decide +kernel)
    rw [if_neg c1] at h0
    by_cases c2 : hbl g (nI s) (nI v) = 0
    · rw [if_pos c2] at h0; exact absurd h0 (by decide +kernel)
    rw [if_neg c2] at h0
    by_cases c3 : nI u ≤ g 7 (s * 6 + v)
    · rw [if_pos c3] at h0
      by_cases c4 : mtc (g 9 t) (nI u) ≤ g 10 t
      · refine ⟨?_, c3, c4⟩
        unfold hbl at c2
        rw [zhA_n hs, if_neg (show ¬ nI v < 0 from fun q => by rw [show (0 : Int32) = nI 0 from rfl, nI_ltI (by omega) (by omega)] at q; omega)] at c2
        by_cases c5 : g 2 s ≤ nI v
        · rw [if_pos c5] at c2; exact absurd rfl c2
        · rw [hz.1, nI_leI (by omega) (by omega)] at c5; omega
      · rw [if_neg c4] at h0; exact absurd h0 (by decide +kernel)
    · rw [if_neg c3] at h0; exact absurd h0 (by decide +kernel)
  obtain ⟨hvz, hle, hmle⟩ := hvz
  obtain ⟨⟨sp, sp1, sp2, esp⟩, mi, mi2, emi⟩ := o7 t ht
  obtain ⟨-, vol, vol1, vol2, evol⟩ := o9 s hs v hvz
  have em : mtc (g 9 t) (nI u) = nI ((u + sp - 1) / sp) := by
    rw [esp]
    unfold mtc
    rw [if_pos ((nI_leI (by omega) (by omega)).mpr sp1), nI_add, pk_sub (by omega), pk_div (by omega) (by omega) (by omega)]
  have hm0 : (u + sp - 1) / sp ≤ u + sp - 1 := Nat.div_le_self _ _
  generalize hmm : (u + sp - 1) / sp = mm at em hm0
  rw [em, emi, nI_leI (by omega) (by omega)] at hmle
  rw [evol, nI_leI (by omega) (by omega)] at hle
  -- the memories
  have F145 : cvE f t s v u (145 + t) = f (145 + t) - nI mm := by
    unfold cvE cvC cvB cvA
    rw [← emt, em]
    exact (pk_un (by omega)).trans ((pk_un (by omega)).trans ((pk_un (by omega)).trans ((pk_un (by omega)).trans (if_pos rfl))))
  have F150 : cvE f t s v u (150 + t) = f (150 + t) + nI mm := by
    unfold cvE cvC cvB cvA
    rw [← emt, em]
    refine (pk_un (by omega)).trans ((pk_un (by omega)).trans ((pk_un (by omega)).trans ((if_pos rfl).trans ?_)))
    rw [pk_un (by omega)]
  have Fv : cvE f t s v u (92 + 6 * s + v) = f (92 + 6 * s + v) - nI u := by
    unfold cvE cvC cvB cvA
    refine (pk_un (by omega)).trans ((pk_un (by omega)).trans ((if_pos rfl).trans ?_))
    rw [pk_un (by omega), pk_un (by omega)]
  have F5 : cvE f t s v u 5 = f 5 + nI u := by
    unfold cvE cvC cvB cvA
    refine (pk_un (by omega)).trans ((if_pos rfl).trans ?_)
    rw [pk_un (by omega), pk_un (by omega), pk_un (by omega)]
  have F28 : cvE f t s v u (28 + s) = f (28 + s) + nI u := by
    unfold cvE cvC cvB cvA
    refine (if_pos rfl).trans ?_
    rw [pk_un (by omega), pk_un (by omega), pk_un (by omega), pk_un (by omega)]
  have Fo : ∀ j, j ≠ 5 → j ≠ 28 + s → j ≠ 92 + 6 * s + v → j ≠ 145 + t → j ≠ 150 + t → cvE f t s v u j = f j := fun j a1 a2 a3 a4 a5 => by
    unfold cvE cvC cvB cvA
    exact (pk_un a2).trans ((pk_un a1).trans ((pk_un a3).trans ((pk_un a5).trans (pk_un a4))))
  let G2 : Nat → Nat → Int32 := va_up (va_up (va_up (usG g t (mtc (g 9 t) (nI u))) 0 (upd (g 0) 2 (g 0 2 + nI u))) 7 (upd (g 7) (s * 6 + v) (g 7 (s * 6 + v) - nI u))) 4 (upd (g 4) s (g 4 s + nI u))
  have eG : coG g t s v (nI u) = drG G2 s := rfl
  have gz : ∀ j, zh G2 j = zh g j := fun j => rfl
  have g7 : ∀ j, G2 7 j = if j = s * 6 + v then g 7 (s * 6 + v) - nI u else g 7 j := fun j => rfl
  have g4 : ∀ j, G2 4 j = if j = s then g 4 s + nI u else g 4 j := fun j => rfl
  have g10 : ∀ j, G2 10 j = if j = t then g 10 t - nI mm else g 10 j := fun j => by rw [← em]; rfl
  have g11 : ∀ j, G2 11 j = if j = t then g 11 t + nI mm else g 11 j := fun j => by rw [← em]; rfl
  have hsi : siR G2 (cvE f t s v u) s := by
    refine ⟨(Fo _ (by omega) (by omega) (by omega) (by omega) (by omega)).trans d1, (Fo _ (by omega) (by omega) (by omega) (by omega) (by omega)).trans d2, ?_, fun w hw => ⟨?_, ?_⟩⟩
    · rw [F28, g4, if_pos rfl, d3]
    · have hw2 : w < zh g s := hw
      rw [Fo _ (by omega) (by omega) (by omega) (by omega) (by omega)]; exact (d5 w hw).1
    · have hw2 : w < zh g s := hw
      rw [g7]
      by_cases q : w = v
      · rw [if_pos (by omega), q, Fv, (d5 v hvz).2]
      · rw [if_neg (by omega), Fo _ (by omega) (by omega) (by omega) (by omega) (by omega)]; exact (d5 w hw).2
  obtain ⟨k1, k2, k3, k4, k5, k6⟩ := re_dr (g := G2) (f := cvE f t s v u) hs hz hsi (fun w hw => by
    have hw2 : w < zh g s := hw
    obtain ⟨w1, a, w2, w3, w4⟩ := o9 s hs w hw2
    refine ⟨w1, ?_⟩
    rw [g7]
    by_cases q : w = v
    · rw [if_pos (by omega), evol, pk_sub hle]; exact ⟨vol - u, by omega, rfl⟩
    · rw [if_neg (by omega)]; exact ⟨a, w3, w4⟩)
  rw [eG]
  have fo : ∀ j, j ≠ 12 + s → (j < 44 + 6 * s ∨ (44 + 6 * s + 6 ≤ j ∧ j < 92 + 6 * s) ∨ 92 + 6 * s + 6 ≤ j) → j ≠ 5 → j ≠ 28 + s → j ≠ 145 + t → j ≠ 150 + t → dmF (cvE f t s v u) s j = f j := fun j a1 a2 a3 a4 a5 a6 => (k6 j a1 a2).trans (Fo j a3 a4 (by omega) a5 a6)
  have zo : ∀ j, j ≠ s → zh (drG G2 s) j = zh g j := fun j hj => by unfold zh; rw [k4 j hj]; rfl
  refine ⟨⟨fun j hj => ?_, o2, o3, o5, o6, fun x hx => ?_, o8, fun j hj x hx => ?_, o10⟩, ⟨?_, fun k hk => ?_, ?_, ?_, ?_, ?_, ?_, ?_, ?_, ?_, fun j hj => ?_, fun x hx => ?_, fun i hi => ?_⟩, ?_⟩
  · by_cases q : j = s
    · subst q; exact k2
    · rw [zo j q, k4 j q]; exact o1 j hj
  · have hx2 : x < zt g := hx
    obtain ⟨w1, w2⟩ := o7 x hx2
    refine ⟨w1, ?_⟩
    show ∃ a, a ≤ 60 ∧ G2 10 x = nI a
    rw [g10]
    by_cases q : x = t
    · rw [if_pos q, emi, pk_sub hmle]; exact ⟨mi - mm, by omega, rfl⟩
    · rw [if_neg q]; exact w2
  · by_cases q : j = s
    · subst q; exact k3 x hx
    · rw [zo j q] at hx
      have hj6 := (o1 j hj).2
      obtain ⟨w1, w2⟩ := k5 (j * 6 + x) (by omega)
      rw [w1, w2, g7, if_neg (by omega)]
      exact o9 j hj x hx
  · exact (fo _ (by omega) (by omega) (by omega) (by omega) (by omega) (by omega)).trans r0
  · exact (fo _ (by omega) (by omega) (by omega) (by omega) (by omega) (by omega)).trans (r1 k hk)
  · exact (fo _ (by omega) (by omega) (by omega) (by omega) (by omega) (by omega)).trans r2
  · rw [k6 _ (by omega) (by omega), F5, r3]; rfl
  · exact (fo _ (by omega) (by omega) (by omega) (by omega) (by omega) (by omega)).trans r4
  · exact (fo _ (by omega) (by omega) (by omega) (by omega) (by omega) (by omega)).trans r5
  · exact (fo _ (by omega) (by omega) (by omega) (by omega) (by omega) (by omega)).trans r6
  · exact (fo _ (by omega) (by omega) (by omega) (by omega) (by omega) (by omega)).trans r7
  · exact (fo _ (by omega) (by omega) (by omega) (by omega) (by omega) (by omega)).trans r8
  · exact (fo _ (by omega) (by omega) (by omega) (by omega) (by omega) (by omega)).trans r9
  · obtain ⟨w1, w2, w3, w4, w5⟩ := r10 j hj
    by_cases q : j = s
    · subst q
      obtain ⟨v1, v2, v3, v4⟩ := k1
      exact ⟨v1, v2, v3, (fo _ (by omega) (by omega) (by omega) (by omega) (by omega) (by omega)).trans d4, v4⟩
    · refine ⟨?_, (fo _ (by omega) (by omega) (by omega) (by omega) (by omega) (by omega)).trans w2, ?_, (fo _ (by omega) (by omega) (by omega) (by omega) (by omega) (by omega)).trans w4, fun x hx => ?_⟩
      · rw [fo _ (by omega) (by omega) (by omega) (by omega) (by omega) (by omega), k4 j q]; exact w1
      · rw [fo _ (by omega) (by omega) (by omega) (by omega) (by omega) (by omega)]
        show f (28 + j) = G2 4 j
        rw [g4, if_neg q]; exact w3
      · rw [zo j q] at hx
        have hj6 := (o1 j hj).2
        obtain ⟨y1, y2⟩ := k5 (j * 6 + x) (by omega)
        rw [y1, y2, g7, if_neg (by omega), fo _ (by omega) (by omega) (by omega) (by omega) (by omega) (by omega), fo _ (by omega) (by omega) (by omega) (by omega) (by omega) (by omega)]
        exact w5 x hx
  · have hx2 : x < zt g := hx
    obtain ⟨w1, w2, w3⟩ := r11 x hx2
    refine ⟨(fo _ (by omega) (by omega) (by omega) (by omega) (by omega) (by omega)).trans w1, ?_, ?_⟩
    · rw [k6 _ (by omega) (by omega)]
      show cvE f t s v u (145 + x) = G2 10 x
      rw [g10]
      by_cases q : x = t
      · rw [if_pos q, q, F145, (r11 t ht).2.1]
      · rw [if_neg q, Fo _ (by omega) (by omega) (by omega) (by omega) (by omega)]; exact w2
    · rw [k6 _ (by omega) (by omega)]
      show cvE f t s v u (150 + x) = G2 11 x
      rw [g11]
      by_cases q : x = t
      · rw [if_pos q, q, F150, (r11 t ht).2.2]
      · rw [if_neg q, Fo _ (by omega) (by omega) (by omega) (by omega) (by omega)]; exact w3
  · exact (fo _ (by omega) (by omega) (by omega) (by omega) (by omega) (by omega)).trans (r12 i hi)
  · rw [Fv, (d5 v hvz).2]

