theorem rsM_v (L : Nat → Int32) : ∀ n, (∀ t, t < n → rsM L n t = nI 60) ∧ ∀ t, n ≤ t → rsM L n t = L t
  | 0 => ⟨fun t ht => absurd ht (Nat.not_lt_zero _), fun t _ => rfl⟩
  | n + 1 => by
    obtain ⟨i1, i2⟩ := rsM_v L n
    have e : rsM L (n + 1) = upd (rsM L n) n (nI 60) := rfl
    rw [e]
    refine ⟨fun t ht => ?_, fun t ht => ?_⟩
    · by_cases q : t = n
      · subst q; exact pk_us
      · rw [pk_un q]; exact i1 t (by omega)
    · rw [pk_un (by omega)]; exact i2 t (by omega)
theorem ptF_v (L : Nat → Int32) : ∀ n, (∀ t, t < n → ptF L n (145 + t) = nI 60) ∧ ∀ j, j < 145 ∨ 145 + n ≤ j → ptF L n j = L j
  | 0 => ⟨fun t ht => absurd ht (Nat.not_lt_zero _), fun t _ => rfl⟩
  | n + 1 => by
    obtain ⟨i1, i2⟩ := ptF_v L n
    have e : ptF L (n + 1) = upd (ptF L n) (145 + n) (nI 60) := rfl
    rw [e]
    refine ⟨fun t ht => ?_, fun t ht => ?_⟩
    · by_cases q : t = n
      · subst q; exact pk_us
      · rw [pk_un (by omega)]; exact i1 t (by omega)
    · rw [pk_un (by omega)]; exact i2 t (by omega)
/-- the clock -/
theorem clF_v {Q : Nat → Int32} {a : Nat} (ha : a < 12) (e8 : Q 8 = nI a) (A : Int32) : clF Q A 6 = Q 6 + A ∧ clF Q A 8 = (if a + 1 < 12 then nI (a + 1) else nI 0) ∧ clF Q A 9 = (if a + 1 < 12 then Q 9 else Q 9 + nI 1) ∧ ∀ j, j ≠ 6 → j ≠ 8 → j ≠ 9 → clF Q A j = Q j := by
  have e1 : (upd (upd Q 6 (Q 6 + A)) 8 ((upd Q 6 (Q 6 + A)) 8 + nI 1)) 8 = nI (a + 1) := by
    rw [pk_us, pk_un (by decide), e8, nI_add]
  unfold clF
  rw [e1]
  by_cases c : a + 1 < 12
  · rw [if_neg (show ¬ nI (a + 1) = nI 12 from fun q => by have := (nI_eq (by omega) (by omega)).mp q; omega), if_pos c, if_pos c]
    refine ⟨?_, e1, ?_, fun j a1 a2 a3 => ?_⟩
    · rw [pk_un (by decide), pk_us]
    · rw [pk_un (by decide), pk_un (by decide)]
    · rw [pk_un a2, pk_un a1]
  · rw [if_pos (show nI (a + 1) = nI 12 from by rw [show a + 1 = 12 by omega]), if_neg c, if_neg c]
    refine ⟨?_, ?_, ?_, fun j a1 a2 a3 => ?_⟩
    · rw [pk_un (by decide), pk_un (by decide), pk_un (by decide), pk_us]
    · rw [pk_un (by decide), pk_us]
    · rw [pk_us, pk_un (by decide), pk_un (by decide), pk_un (by decide)]
    · rw [pk_un a3, pk_un a2, pk_un a2, pk_un a1]
theorem hrG_v {G : Nat → Nat → Int32} {a : Nat} (ha : a < 12) (e4 : G 0 4 = nI a) : (∀ j, j ≠ 4 → j ≠ 5 → hrG G 0 j = G 0 j) ∧ hrG G 0 4 = (if a + 1 < 12 then nI (a + 1) else nI 0) ∧ hrG G 0 5 = (if a + 1 < 12 then G 0 5 else G 0 5 + nI 1) ∧ hrG G 10 = rsM (G 10) (zt G) ∧ ∀ r, r ≠ 0 → r ≠ 10 → hrG G r = G r := by
  unfold hrG
  rw [pk_us, e4, nI_add]
  by_cases c : a + 1 < 12
  · rw [if_pos ((nI_ltI (by omega) (by omega)).mpr c), if_pos c, if_pos c]
    exact ⟨fun j a1 a2 => pk_un (f := G 0) (k := 4) a1, show upd (G 0) 4 (nI (a + 1)) 4 = _ from pk_us, show upd (G 0) 4 (nI (a + 1)) 5 = _ from pk_un (by decide), rfl, fun r a1 a2 => (if_neg a1).trans (if_neg a2)⟩
  · rw [if_neg (fun q => c ((nI_ltI (by omega) (by omega)).mp q)), if_neg c, if_neg c]
    refine ⟨fun j a1 a2 => ?_, ?_, ?_, rfl, fun r a1 a2 => (if_neg a1).trans (if_neg a2)⟩
    · show (upd (upd (upd (G 0) 4 (nI (a + 1))) 4 (nI 0)) 5 ((upd (upd (G 0) 4 (nI (a + 1))) 4 (nI 0)) 5 + nI 1)) j = _
      rw [pk_un a2, pk_un a1, pk_un a1]
    · show (upd (upd (upd (G 0) 4 (nI (a + 1))) 4 (nI 0)) 5 ((upd (upd (G 0) 4 (nI (a + 1))) 4 (nI 0)) 5 + nI 1)) 4 = _
      rw [pk_un (by decide), pk_us]
    · show (upd (upd (upd (G 0) 4 (nI (a + 1))) 4 (nI 0)) 5 ((upd (upd (G 0) 4 (nI (a + 1))) 4 (nI 0)) 5 + nI 1)) 5 = _
      rw [pk_us, pk_un (by decide), pk_un (by decide)]
theorem re_ck {g G : Nat → Nat → Int32} {f P : Nat → Int32} {A : Int32} (O : okS g) (H : reS g f) (K : okK G) (R : stR G P) (h5 : ∀ s, s < 8 → P (36 + s) = G 5 s) (hs : vSum (G 5) 0 8 = vSum (g 5) 0 8 + A) (hG : ∀ r, r ≠ 2 → r ≠ 5 → r ≠ 6 → r ≠ 7 → r ≠ 8 → G r = g r) (hP : ∀ j, j < 12 ∨ 140 ≤ j → P j = f j) : okS (hrG G) ∧ reS (hrG G) (clF (ptF P (ztm P)) A) := by
  obtain ⟨o1, o2, o3, o5, ⟨a, ha, ea⟩, o7, o8, o9, o10⟩ := O
  have ezt := re_zt H
  obtain ⟨r0, r1, r2, r3, r4, r5, r6, r7, r8, r9, r10, r11, r12⟩ := H
  have G0 := hG 0 (by decide) (by decide) (by decide) (by decide) (by decide)
  have eP : ztm P = zt g := by
    rw [← ezt]
    unfold ztm
    rw [hP 10 (by omega)]
  rw [eP]
  obtain ⟨t1, t2⟩ := ptF_v P (zt g)
  have ht5 := o2.2
  have e8 : ptF P (zt g) 8 = nI a := by rw [t2 8 (by omega), hP 8 (by omega), r6, ea]
  obtain ⟨c6, c8, c9, co⟩ := clF_v ha e8 A
  obtain ⟨k0, k4, k5, k10, ko⟩ := hrG_v (G := G) ha (by rw [G0]; exact ea)
  have q2 := ko 2 (by decide) (by decide)
  have q3 := ko 3 (by decide) (by decide)
  have q4 := ko 4 (by decide) (by decide)
  have q5 := ko 5 (by decide) (by decide)
  have q6 := ko 6 (by decide) (by decide)
  have q7 := ko 7 (by decide) (by decide)
  have ezG : zt G = zt g := by unfold zt; rw [G0]
  have zG : ∀ s, zh (hrG G) s = zh G s := fun s => by unfold zh; rw [q2]
  have zT : zt (hrG G) = zt g := by unfold zt; rw [k0 6 (by decide) (by decide), G0]
  have zB : zb (hrG G) = zb g := by unfold zb; rw [k0 7 (by decide) (by decide), G0]
  have q9 : hrG G 9 = g 9 := (ko 9 (by decide) (by decide)).trans (hG 9 (by decide) (by decide) (by decide) (by decide) (by decide))
  have q11 : hrG G 11 = g 11 := (ko 11 (by decide) (by decide)).trans (hG 11 (by decide) (by decide) (by decide) (by decide) (by decide))
  have q12 : hrG G 12 = g 12 := (ko 12 (by decide) (by decide)).trans (hG 12 (by decide) (by decide) (by decide) (by decide) (by decide))
  have q1 : hrG G 1 = g 1 := (ko 1 (by decide) (by decide)).trans (hG 1 (by decide) (by decide) (by decide) (by decide) (by decide))
  have m60 : ∀ t, t < zt g → hrG G 10 t = nI 60 := fun t ht => by rw [k10, ezG]; exact (rsM_v _ _).1 t ht
  have cP : ∀ j, j ≠ 6 → j ≠ 8 → j ≠ 9 → (j < 145 ∨ 145 + zt g ≤ j) → clF (ptF P (zt g)) A j = P j := fun j a1 a2 a3 a4 => (co j a1 a2 a3).trans (t2 j a4)
  have cF : ∀ j, j ≠ 6 → j ≠ 8 → j ≠ 9 → (j < 145 ∨ 145 + zt g ≤ j) → (j < 12 ∨ 140 ≤ j) → clF (ptF P (zt g)) A j = f j := fun j a1 a2 a3 a4 a5 => (cP j a1 a2 a3 a4).trans (hP j a5)
  refine ⟨⟨fun s hs => ?_, ?_, ?_, fun k hk => ?_, ?_, fun t ht => ?_, fun b hb k hk => ?_, fun s hs t ht => ?_, fun s hs => ?_⟩, ⟨?_, fun k hk => ?_, ?_, ?_, ?_, ?_, ?_, ?_, ?_, ?_, fun s hs => ?_, fun t ht => ?_, fun i hi => ?_⟩⟩
  · rw [zG, q2]; exact K.1 s hs
  · unfold okT; rw [zT, k0 6 (by decide) (by decide), G0]; exact o2
  · unfold okB; rw [zB, k0 7 (by decide) (by decide), G0]; exact o3
  · rw [q1]; exact o5 k hk
  · rw [k4]
    by_cases c : a + 1 < 12
    · rw [if_pos c]; exact ⟨a + 1, c, rfl⟩
    · rw [if_neg c]; exact ⟨0, by omega, rfl⟩
  · rw [zT] at ht
    rw [q9, m60 t ht]
    exact ⟨(o7 t ht).1, 60, by omega, rfl⟩
  · rw [zB] at hb
    rw [q12]; exact o8 b hb k hk
  · rw [zG] at ht
    rw [q6, q7]; exact K.2.1 s hs t ht
  · rw [q3]; exact K.2.2 s hs
  · rw [cF 0 (by decide) (by decide) (by decide) (by omega) (by omega), k0 0 (by decide) (by decide), G0]; exact r0
  · rw [cF _ (by omega) (by omega) (by omega) (by omega) (by omega), q1]; exact r1 k hk
  · rw [cF 4 (by decide) (by decide) (by decide) (by omega) (by omega), k0 1 (by decide) (by decide), G0]; exact r2
  · rw [cF 5 (by decide) (by decide) (by decide) (by omega) (by omega), k0 2 (by decide) (by decide), G0]; exact r3
  · rw [c6, t2 6 (by omega), hP 6 (by omega), r4, q5, hs]
  · rw [cF 7 (by decide) (by decide) (by decide) (by omega) (by omega), k0 3 (by decide) (by decide), G0]; exact r5
  · rw [c8, k4]
  · rw [c9, k5, t2 9 (by omega), hP 9 (by omega), r7, G0]
  · rw [cF 10 (by decide) (by decide) (by decide) (by omega) (by omega), k0 6 (by decide) (by decide), G0]; exact r8
  · rw [cF 11 (by decide) (by decide) (by decide) (by omega) (by omega), k0 7 (by decide) (by decide), G0]; exact r9
  · obtain ⟨w1, w2, w3, w4⟩ := R s hs
    rw [zG, q2, q3, q4, q5, q6, q7, cP _ (by omega) (by omega) (by omega) (by omega), cP _ (by omega) (by omega) (by omega) (by omega), cP _ (by omega) (by omega) (by omega) (by omega), cP _ (by omega) (by omega) (by omega) (by omega)]
    refine ⟨w1, w2, w3, h5 s hs, fun t ht => ?_⟩
    have h6 := (K.1 s hs).2
    rw [cP _ (by omega) (by omega) (by omega) (by omega), cP _ (by omega) (by omega) (by omega) (by omega)]
    exact w4 t ht
  · rw [zT] at ht
    obtain ⟨w1, w2, w3⟩ := r11 t ht
    rw [q9, q11, m60 t ht]
    refine ⟨?_, ?_, ?_⟩
    · rw [cF _ (by omega) (by omega) (by omega) (by omega) (by omega)]; exact w1
    · rw [co _ (by omega) (by omega) (by omega)]; exact t1 t ht
    · rw [cF _ (by omega) (by omega) (by omega) (by omega) (by omega)]; exact w3
  · rw [zB] at hi
    rw [q12, cF _ (by omega) (by omega) (by omega) (by omega) (by omega)]; exact r12 i hi
/-- a drop of nothing -/
theorem dm_id {f : Nat → Int32} {s : Nat} : ∀ n, (∀ t, t < n → ¬ f (92 + (6 * s + t)) ≤ 0) → (dmI f s n).1 = n ∧ ∀ j, (dmI f s n).2 j = f j
  | 0, _ => ⟨rfl, fun j => rfl⟩
  | n + 1, h => by
    obtain ⟨i1, i2⟩ := dm_id (f := f) (s := s) n (fun t ht => h t (by omega))
    have eB : dmI f s (n + 1) = (if (upd (upd (dmI f s n).2 (44 + (6 * s + (dmI f s n).1)) ((dmI f s n).2 (44 + (6 * s + n)))) (92 + (6 * s + (dmI f s n).1)) ((upd (dmI f s n).2 (44 + (6 * s + (dmI f s n).1)) ((dmI f s n).2 (44 + (6 * s + n)))) (92 + (6 * s + n)))) (92 + (6 * s + (dmI f s n).1)) ≤ 0 then (dmI f s n).1 else (dmI f s n).1 + 1, upd (upd (dmI f s n).2 (44 + (6 * s + (dmI f s n).1)) ((dmI f s n).2 (44 + (6 * s + n)))) (92 + (6 * s + (dmI f s n).1)) ((upd (dmI f s n).2 (44 + (6 * s + (dmI f s n).1)) ((dmI f s n).2 (44 + (6 * s + n)))) (92 + (6 * s + n)))) := rfl
    rw [eB]
    generalize dmI f s n = B at i1 i2 ⊢
    obtain ⟨d, F⟩ := B
    dsimp only at i1 i2 ⊢
    subst i1
    have u : ∀ j, upd F (44 + (6 * s + d)) (F (44 + (6 * s + d))) j = F j := fun j => by
      by_cases q : j = 44 + (6 * s + d)
      · rw [q, pk_us]
      · exact pk_un q
    rw [pk_us, u, i2 (92 + (6 * s + d)), if_neg (h d (Nat.lt_succ_self d))]
    refine ⟨rfl, fun j => ?_⟩
    by_cases q : j = 92 + (6 * s + d)
    · rw [q, pk_us]
    · rw [pk_un q, u]; exact i2 j
theorem pd_id {g : Nat → Nat → Int32} {f : Nat → Int32} (K : okK g) (R : stR g f) : ∀ S, S ≤ 8 → ∀ j, pdF f S j = f j
  | 0, _, _ => rfl
  | S + 1, h, j => by
    have IH := pd_id K R S (by omega)
    have e : pdF f (S + 1) = dmF (pdF f S) S := rfl
    rw [e]
    generalize pdF f S = P at IH
    have hz := K.1 S (by omega)
    have b1 := (R S (by omega)).1
    have ezm : zhm P S = zh g S := by unfold zhm zh; rw [IH, b1]
    obtain ⟨d1, d2⟩ := dm_id (f := P) (s := S) (zh g S) (fun t ht => by
      obtain ⟨-, y, y1, y2, ey⟩ := K.2.1 S (by omega) t ht
      rw [IH, ← Nat.add_assoc, ((R S (by omega)).2.2.2 t ht).2, ey]
      exact nI_nle (by omega) (by omega))
    unfold dmF
    rw [ezm, d1]
    by_cases q : j = 12 + S
    · rw [q, pk_us, b1, ← hz.1]
    · rw [pk_un q, d2, IH]
/-- the hour, sunny (0) or cloudy (1) -/
theorem re_h0 {g : Nat → Nat → Int32} {f : Nat → Int32} {n : Nat} (hn : n = 48) (O : okS g) (H : reS g f) : okS (phG g (nI 0) 1) ∧ reS (phG g (nI 0) 1) (clF (ptF (pdF (psF f n) 8) (ztm (pdF (psF f n) 8))) (psA f n)) ∧ phV g (nI 0) = psA f n := by
  obtain ⟨a, ha, ea⟩ := O.2.2.2.2.1
  have e8 : f 8 = nI a := by rw [H.2.2.2.2.2.2.1, ea]
  obtain ⟨X, x0, x1, x2, x3, x4, x5, x6, x7⟩ := re_ml1 hn ha e8 (okK_of O) (stR_of H)
  have eg : phG g (nI 0) 1 = hrG (ml5 g X) := by
    show hrG (phM g (nI 0)) = _
    unfold phM
    rw [if_pos (show nI 0 = 0 from rfl), ea, x0]
  have ev : phV g (nI 0) = psA f n := by
    unfold phV
    rw [if_pos (show nI 0 = 0 from rfl), ea, x3]
  rw [eg, ev]
  generalize psA f n = A at x4 ⊢
  generalize pdF (psF f n) 8 = P at x2 x5 x7 ⊢
  obtain ⟨w1, w2⟩ := re_ck O H x1 x2 (fun s hs => x5 s hs (H.2.2.2.2.2.2.2.2.2.2.1 s hs).2.2.2.1) x4 x6 x7
  exact ⟨w1, w2, rfl⟩
theorem re_h1 {g : Nat → Nat → Int32} {f : Nat → Int32} {n : Nat} (hn : n = 8) (O : okS g) (H : reS g f) : okS (phG g (nI 1) 1) ∧ reS (phG g (nI 1) 1) (clF (ptF (pdF f n) (ztm (pdF f n))) (nI 0)) ∧ phV g (nI 1) = nI 0 := by
  have eg : phG g (nI 1) 1 = hrG g := by
    show hrG (phM g (nI 1)) = _
    unfold phM
    rw [if_neg (show ¬ nI 1 = 0 by decide +kernel)]
  have ev : phV g (nI 1) = nI 0 := by
    unfold phV
    rw [if_neg (show ¬ nI 1 = 0 by decide +kernel)]
  have hid := pd_id (okK_of O) (stR_of H) n (by omega)
  rw [eg, ev]
  generalize pdF f n = P at hid
  have e : P = f := funext hid
  rw [e]
  obtain ⟨w1, w2⟩ := re_ck (A := nI 0) O H (okK_of O) (stR_of H) (fun s hs => (H.2.2.2.2.2.2.2.2.2.2.1 s hs).2.2.2.1) (Int32.add_zero _).symm (fun r _ _ _ _ _ => rfl) (fun j _ => rfl)
  exact ⟨w1, w2, rfl⟩
