/-- after the first S sites: X the class's stack, M the model's row -/
def mlP (g : Nat → Nat → Int32) (F : Nat → Int32) (L : Nat → Int32) (S : Nat) (X : Nat → Nat → Int32) (M : Nat → Int32) : Prop :=
  (∀ s, s < S → siR X M s ∧ (X 2 s = nI (zh X s) ∧ zh X s ≤ 6) ∧ (∀ t, t < zh X s → (∃ a, a < 3 ∧ X 6 (s * 6 + t) = nI a) ∧ ∃ a, 1 ≤ a ∧ a ≤ 100 ∧ X 7 (s * 6 + t) = nI a) ∧ X 5 s = g 5 s + vSum L (s * 6) (zh g s)) ∧
  (∀ s, S ≤ s → X 2 s = g 2 s ∧ X 5 s = g 5 s) ∧ (∀ j, S * 6 ≤ j → X 6 j = g 6 j ∧ X 7 j = g 7 j) ∧ (∀ r, r ≠ 2 → r ≠ 5 → r ≠ 6 → r ≠ 7 → r ≠ 8 → X r = g r) ∧ X 8 = L ∧
  (∀ j, j < 12 ∨ (20 ≤ j ∧ j < 44) ∨ 140 ≤ j ∨ (12 + S ≤ j ∧ j < 20) ∨ (44 + 6 * S ≤ j ∧ j < 92) ∨ (92 + 6 * S ≤ j) → M j = F j)
theorem mlP_step {g : Nat → Nat → Int32} {f F L : Nat → Int32} {a : Nat} (ha : a < 12) (e8 : f 8 = nI a) (K : okK g) (R : stR g f) (hF1 : ∀ j, j < 36 ∨ (44 ≤ j ∧ j < 92) ∨ 140 ≤ j → F j = f j) (hF2 : ∀ i, i < 48 → F (92 + i) = f (92 + i) - psV f i) (hL : ∀ s, s < 8 → ∀ t, t < zh g s → L (s * 6 + t) = lsV g (nI a) s t) {S : Nat} (hS : S < 8) {X : Nat → Nat → Int32} {M : Nat → Int32} (P : mlP g F L S X M) : mlP g F L (S + 1) (tlG X S) (dmF M S) := by
  obtain ⟨p1, p2, p3, p4, p5, p6⟩ := P
  obtain ⟨b1, b2, b3, b5⟩ := R S hS
  have hz := K.1 S hS
  have ez : zh X S = zh g S := by unfold zh; rw [(p2 S (Nat.le_refl _)).1]
  obtain ⟨t1, t2⟩ := tlV_v (X 7) (X 8) (S * 6) (zh X S)
  let X' : Nat → Nat → Int32 := va_up (va_up X 7 (tlV (X 7) (X 8) (S * 6) (zh X S))) 5 (upd (X 5) S (X 5 S + vSum (X 8) (S * 6) (zh X S)))
  have eX : tlG X S = drG X' S := rfl
  have x2 : X' 2 = X 2 := rfl
  have x3 : X' 3 = X 3 := rfl
  have x4 : X' 4 = X 4 := rfl
  have x6 : X' 6 = X 6 := rfl
  have x7 : X' 7 = tlV (X 7) (X 8) (S * 6) (zh X S) := rfl
  have xz : ∀ s, zh X' s = zh X s := fun s => rfl
  have v7 : ∀ t, t < zh g S → X' 7 (S * 6 + t) = g 7 (S * 6 + t) - lsV g (nI a) S t := fun t ht => by
    rw [x7, t1 t (by rw [ez]; exact ht), (p3 _ (by omega)).2, p5, hL S hS t ht]
  have hsi : siR X' M S := by
    refine ⟨?_, ?_, ?_, fun t ht => ?_⟩
    · rw [p6 _ (by omega), hF1 _ (by omega), b1, x2, (p2 S (Nat.le_refl _)).1]
    · rw [p6 _ (by omega), hF1 _ (by omega), b2, x3, p4 3 (by decide) (by decide) (by decide) (by decide) (by decide)]
    · rw [p6 _ (by omega), hF1 _ (by omega), b3, x4, p4 4 (by decide) (by decide) (by decide) (by decide) (by decide)]
    · rw [xz, ez] at ht
      have h6 : t < 6 := by omega
      obtain ⟨c1, c2⟩ := b5 t ht
      refine ⟨?_, ?_⟩
      · rw [p6 _ (by omega), hF1 _ (by omega), c1, x6, (p3 _ (by omega)).1]
      · rw [p6 _ (by omega), show 92 + 6 * S + t = 92 + (6 * S + t) by omega, hF2 _ (by omega), v7 t ht, (ps_in ha e8 K R hS ht).1, ← Nat.add_assoc, c2]
  obtain ⟨k1, k2, k3, k4, k5, k6⟩ := re_dr (g := X') (f := M) hS (by rw [x2, xz, ez, (p2 S (Nat.le_refl _)).1]; exact hz) hsi (fun t ht => by
    rw [xz, ez] at ht
    obtain ⟨w1, -⟩ := K.2.1 S hS t ht
    obtain ⟨-, x, y, y1, y2, e1, e2⟩ := ps_in ha e8 K R hS ht
    rw [x6, (p3 _ (by omega)).1, v7 t ht, e1, e2, pk_sub y1]
    exact ⟨w1, y - x, by omega, rfl⟩)
  rw [eX]
  have r5 : drG X' S 5 = upd (X 5) S (X 5 S + vSum (X 8) (S * 6) (zh X S)) := rfl
  have ro : ∀ r, r ≠ 2 → r ≠ 5 → r ≠ 6 → r ≠ 7 → drG X' S r = X r := fun r a1 a2 a3 a4 => (if_neg a1).trans ((if_neg a4).trans ((if_neg a3).trans ((if_neg a2).trans (if_neg a4))))
  have zo : ∀ j, j ≠ S → zh (drG X' S) j = zh X j := fun j hj => by unfold zh; rw [k4 j hj, x2]
  refine ⟨fun s hs => ?_, fun s hs => ?_, fun j hj => ?_, fun r a1 a2 a3 a4 a5 => ?_, ?_, fun j hj => ?_⟩
  · by_cases q : s = S
    · subst q
      refine ⟨k1, k2, k3, ?_⟩
      rw [r5, pk_us, p5, ez, (p2 s (Nat.le_refl _)).2]
    · obtain ⟨q1, q2, q3, q4⟩ := p1 s (by omega)
      obtain ⟨s1, s2, s3, s4⟩ := q1
      have h6 := q2.2
      refine ⟨⟨?_, ?_, ?_, fun t ht => ?_⟩, ?_, fun t ht => ?_, ?_⟩
      · rw [k6 _ (by omega) (by omega), k4 s q, x2]; exact s1
      · rw [k6 _ (by omega) (by omega), ro 3 (by decide) (by decide) (by decide) (by decide)]; exact s2
      · rw [k6 _ (by omega) (by omega), ro 4 (by decide) (by decide) (by decide) (by decide)]; exact s3
      · rw [zo s q] at ht
        obtain ⟨y1, y2⟩ := k5 (s * 6 + t) (by omega)
        rw [k6 _ (by omega) (by omega), k6 _ (by omega) (by omega), y1, y2, x6, x7, t2 _ (by omega)]
        exact s4 t ht
      · rw [k4 s q, zo s q, x2]; exact q2
      · rw [zo s q] at ht
        obtain ⟨y1, y2⟩ := k5 (s * 6 + t) (by omega)
        rw [y1, y2, x6, x7, t2 _ (by omega)]
        exact q3 t ht
      · rw [r5, pk_un q]; exact q4
  · rw [k4 s (by omega), x2, r5, pk_un (by omega)]; exact p2 s (by omega)
  · obtain ⟨y1, y2⟩ := k5 j (by omega)
    have h6 := hz.2
    rw [y1, y2, x6, x7, t2 _ (by omega)]
    exact p3 j (by omega)
  · rw [ro r a1 a2 a3 a4]; exact p4 r a1 a2 a3 a4 a5
  · rw [ro 8 (by decide) (by decide) (by decide) (by decide)]; exact p5
  · rw [k6 j (by omega) (by omega)]; exact p6 j (by omega)
theorem mlP_all {g : Nat → Nat → Int32} {f F L : Nat → Int32} {a : Nat} (ha : a < 12) (e8 : f 8 = nI a) (K : okK g) (R : stR g f) (hF1 : ∀ j, j < 36 ∨ (44 ≤ j ∧ j < 92) ∨ 140 ≤ j → F j = f j) (hF2 : ∀ i, i < 48 → F (92 + i) = f (92 + i) - psV f i) (hL : ∀ s, s < 8 → ∀ t, t < zh g s → L (s * 6 + t) = lsV g (nI a) s t) : ∀ S, S ≤ 8 → mlP g F L S (mtG (va_up g 8 L) S) (pdF F S)
  | 0, _ => ⟨fun s hs => absurd hs (Nat.not_lt_zero _), fun s _ => ⟨rfl, rfl⟩, fun j _ => ⟨rfl, rfl⟩, fun r _ _ _ _ h8 => if_neg h8, rfl, fun j _ => rfl⟩
  | S + 1, h => mlP_step ha e8 K R hF1 hF2 hL (by omega) (mlP_all ha e8 K R hF1 hF2 hL S (by omega))
/-- the sum of what melts -/
theorem mtS_v {g : Nat → Nat → Int32} {f F L : Nat → Int32} {a : Nat} (ha : a < 12) (e8 : f 8 = nI a) (K : okK g) (R : stR g f) (hF1 : ∀ j, j < 36 ∨ (44 ≤ j ∧ j < 92) ∨ 140 ≤ j → F j = f j) (hF2 : ∀ i, i < 48 → F (92 + i) = f (92 + i) - psV f i) (hL : ∀ s, s < 8 → ∀ t, t < zh g s → L (s * 6 + t) = lsV g (nI a) s t) : ∀ S, S ≤ 8 → mtS (va_up g 8 L) S = vSum (psV f) 0 (6 * S) ∧ ∀ G5 : Nat → Int32, (∀ s, s < S → G5 s = g 5 s + vSum L (s * 6) (zh g s)) → vSum G5 0 S = vSum (g 5) 0 S + vSum (psV f) 0 (6 * S)
  | 0, _ => ⟨rfl, fun _ _ => (Int32.add_zero _).symm⟩
  | S + 1, h => by
    obtain ⟨i1, i2⟩ := mtS_v ha e8 K R hF1 hF2 hL S (by omega)
    obtain ⟨-, p2, p3, p4, p5, p6⟩ := mlP_all ha e8 K R hF1 hF2 hL S (by omega)
    have ez : zh (mtG (va_up g 8 L) S) S = zh g S := by unfold zh; rw [(p2 S (Nat.le_refl _)).1]
    have hz := (K.1 S (by omega)).2
    have e6 : vSum (psV f) (6 * S) 6 = vSum L (S * 6) (zh g S) := by
      have h1 := vs_cut (F := psV f) (L := fun j => L j) (b := 6 * S) (n := zh g S) (fun t ht => by rw [(ps_in ha e8 K R (by omega) ht).1, ← hL S (by omega) t ht, Nat.mul_comm]) (6 - zh g S) (fun t h1 h2 => ps_out K R (by omega) h1 (by omega))
      rw [show zh g S + (6 - zh g S) = 6 by omega] at h1
      rw [h1, Nat.mul_comm]
    have e7 : vSum (psV f) 0 (6 * (S + 1)) = vSum (psV f) 0 (6 * S) + vSum L (S * 6) (zh g S) := by
      rw [show 6 * (S + 1) = 6 * S + 6 by omega, vs_app, Nat.zero_add, e6]
    refine ⟨?_, fun G5 h5 => ?_⟩
    · show mtS (va_up g 8 L) S + vSum (mtG (va_up g 8 L) S 8) (S * 6) (zh (mtG (va_up g 8 L) S) S) = _
      rw [i1, p5, ez, e7]
    · show vSum G5 0 S + G5 (0 + S) = vSum (g 5) 0 S + g 5 (0 + S) + _
      rw [i2 G5 (fun s hs => h5 s (by omega)), Nat.zero_add, h5 S (Nat.lt_succ_self S), e7]
      generalize vSum (g 5) 0 S = x1
      generalize vSum (psV f) 0 (6 * S) = x2
      generalize g 5 S = x3
      generalize vSum L (S * 6) (zh g S) = x4
      ac_rfl
theorem re_ml0 {g X : Nat → Nat → Int32} {f F L M : Nat → Int32} {a : Nat} {PA : Int32} (ha : a < 12) (e8 : f 8 = nI a) (K : okK g) (R : stR g f) (hF1 : ∀ j, j < 36 ∨ (44 ≤ j ∧ j < 92) ∨ 140 ≤ j → F j = f j) (hF3 : ∀ s, s < 8 → F (36 + s) = f (36 + s) + vSum (psV f) (6 * s) 6) (hL : ∀ s, s < 8 → ∀ t, t < zh g s → L (s * 6 + t) = lsV g (nI a) s t) (P : mlP g F L 8 X M) (hS : ∀ G5 : Nat → Int32, (∀ s, s < 8 → G5 s = g 5 s + vSum L (s * 6) (zh g s)) → vSum G5 0 8 = vSum (g 5) 0 8 + PA) : okK (ml5 g X) ∧ stR (ml5 g X) M ∧ vSum (ml5 g X 5) 0 8 = vSum (g 5) 0 8 + PA ∧ (∀ s, s < 8 → f (36 + s) = g 5 s → M (36 + s) = ml5 g X 5 s) ∧ (∀ r, r ≠ 2 → r ≠ 5 → r ≠ 6 → r ≠ 7 → r ≠ 8 → ml5 g X r = g r) ∧ ∀ j, j < 12 ∨ 140 ≤ j → M j = f j := by
  obtain ⟨p1, p2, p3, p4, p5, p6⟩ := P
  have m2 : ml5 g X 2 = X 2 := rfl
  have m5 : ml5 g X 5 = X 5 := rfl
  have m6 : ml5 g X 6 = X 6 := rfl
  have m7 : ml5 g X 7 = X 7 := rfl
  have mo : ∀ r, r ≠ 2 → r ≠ 5 → r ≠ 6 → r ≠ 7 → r ≠ 8 → ml5 g X r = g r := fun r a1 a2 a3 a4 a5 => (if_neg a5).trans ((if_neg a4).trans ((if_neg a3).trans ((if_neg a2).trans (if_neg a1))))
  have m3 : X 3 = g 3 := p4 3 (by decide) (by decide) (by decide) (by decide) (by decide)
  have m4 : X 4 = g 4 := p4 4 (by decide) (by decide) (by decide) (by decide) (by decide)
  refine ⟨⟨fun s hs => (p1 s hs).2.1, fun s hs => (p1 s hs).2.2.1, fun s hs => ?_⟩, fun s hs => ?_, ?_, fun s hs h5 => ?_, mo, fun j hj => ?_⟩
  · rw [mo 3 (by decide) (by decide) (by decide) (by decide) (by decide)]; exact K.2.2 s hs
  · obtain ⟨q1, q2, q3, q4⟩ := (p1 s hs).1
    rw [m3] at q2
    rw [m4] at q3
    exact ⟨q1, by rw [mo 3 (by decide) (by decide) (by decide) (by decide) (by decide)]; exact q2, by rw [mo 4 (by decide) (by decide) (by decide) (by decide) (by decide)]; exact q3, q4⟩
  · rw [m5]; exact hS _ (fun s hs => (p1 s hs).2.2.2)
  · rw [p6 _ (by omega), hF3 s hs, h5, m5, (p1 s hs).2.2.2]
    have hz := (K.1 s hs).2
    have h1 := vs_cut (F := psV f) (L := fun j => L j) (b := 6 * s) (n := zh g s) (fun t ht => by rw [(ps_in ha e8 K R hs ht).1, ← hL s hs t ht, Nat.mul_comm]) (6 - zh g s) (fun t h1 h2 => ps_out K R hs h1 (by omega))
    rw [show zh g s + (6 - zh g s) = 6 by omega] at h1
    rw [h1, Nat.mul_comm]
  · rw [p6 _ (by omega)]; exact hF1 j (by omega)
/-- one hour's melting -/
theorem re_ml1 {g : Nat → Nat → Int32} {f : Nat → Int32} {a n : Nat} (hn : n = 48) (ha : a < 12) (e8 : f 8 = nI a) (K : okK g) (R : stR g f) : ∃ X, mlG g (nI a) = ml5 g X ∧ okK (ml5 g X) ∧ stR (ml5 g X) (pdF (psF f n) 8) ∧ mlS g (nI a) = psA f n ∧ vSum (ml5 g X 5) 0 8 = vSum (g 5) 0 8 + psA f n ∧ (∀ s, s < 8 → f (36 + s) = g 5 s → pdF (psF f n) 8 (36 + s) = ml5 g X 5 s) ∧ (∀ r, r ≠ 2 → r ≠ 5 → r ≠ 6 → r ≠ 7 → r ≠ 8 → ml5 g X r = g r) ∧ ∀ j, j < 12 ∨ 140 ≤ j → pdF (psF f n) 8 j = f j := by
  obtain ⟨f1, f2, f3, f4⟩ := ps_F f n (by omega)
  have hF1 : ∀ j, j < 36 ∨ (44 ≤ j ∧ j < 92) ∨ 140 ≤ j → psF f n j = f j := fun j hj => f1 j (by omega)
  have hL : ∀ s, s < 8 → ∀ t, t < zh g s → mlO g (nI a) 8 (s * 6 + t) = lsV g (nI a) s t := fun s hs t ht => mlO_v (nI a) K.1 8 (Nat.le_refl _) s hs t ht
  have hF2 : ∀ i, i < 48 → psF f n (92 + i) = f (92 + i) - psV f i := fun i hi => f2 i (by omega)
  have hF3 : ∀ s, s < 8 → psF f n (36 + s) = f (36 + s) + vSum (psV f) (6 * s) 6 := fun s hs => by
    rw [f3 s hs, show min 6 (n - 6 * s) = 6 by omega]
  have P := mlP_all ha e8 K R hF1 hF2 hL 8 (Nat.le_refl _)
  obtain ⟨s1, s2⟩ := mtS_v ha e8 K R hF1 hF2 hL 8 (Nat.le_refl _)
  rw [show 6 * 8 = n by omega, ← f4] at s1 s2
  obtain ⟨q1, q2, q3⟩ := re_ml0 ha e8 K R hF1 hF3 hL P s2
  exact ⟨_, rfl, q1, q2, s1, q3⟩

