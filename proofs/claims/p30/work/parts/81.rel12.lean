theorem okK_cg {g g' : Nat → Nat → Int32} (h2 : g' 2 = g 2) (h3 : g' 3 = g 3) (h6 : g' 6 = g 6) (h7 : g' 7 = g 7) (K : okK g) : okK g' := by
  have ez : ∀ s, zh g' s = zh g s := fun s => by unfold zh; rw [h2]
  refine ⟨fun s hs => by rw [ez, h2]; exact K.1 s hs, fun s hs t ht => ?_, fun s hs => by rw [h3]; exact K.2.2 s hs⟩
  rw [ez] at ht
  rw [h6, h7]
  exact K.2.1 s hs t ht
theorem stR_cg {g g' : Nat → Nat → Int32} {f : Nat → Int32} (h2 : g' 2 = g 2) (h3 : g' 3 = g 3) (h4 : g' 4 = g 4) (h6 : g' 6 = g 6) (h7 : g' 7 = g 7) (R : stR g f) : stR g' f := fun s hs => by
  have ez : zh g' s = zh g s := by unfold zh; rw [h2]
  obtain ⟨b1, b2, b3, b4⟩ := R s hs
  unfold siR
  rw [ez, h2, h3, h4, h6, h7]
  exact ⟨b1, b2, b3, b4⟩
theorem st_vm {g : Nat → Nat → Int32} {f : Nat → Int32} (R : stR g f) {s : Nat} (hs : s < 8) : ∀ t, t ≤ zh g s → vSum (g 7) (s * 6) t = vmS f s t
  | 0, _ => rfl
  | t + 1, h => by
    have h1 := st_vm R hs t (by omega)
    have h2 := ((R s hs).2.2.2 t (by omega)).2
    unfold vSum vmS
    rw [h1, h2]
theorem hrI_v {g : Nat → Nat → Int32} {a i : Nat} (ea : g 0 4 = nI a) (h : a + i < 2 ^ 31) : hrI g i = nI ((a + i) % 12) := by
  unfold hrI
  rw [ea, nI_add, pk_rem h (by omega) (by omega)]
theorem cl_lo {P : Nat → Int32} {z b : Nat} {A : Int32} (hb : b < 12) (e8 : P 8 = nI b) : clF (ptF P z) A 8 = nI ((b + 1) % 12) ∧ ∀ j, 12 ≤ j → j < 145 → clF (ptF P z) A j = P j := by
  obtain ⟨-, t2⟩ := ptF_v P z
  obtain ⟨-, c8, -, co⟩ := clF_v (Q := ptF P z) hb (by rw [t2 8 (by omega)]; exact e8) A
  refine ⟨?_, fun j h1 h2 => by rw [co j (by omega) (by omega) (by omega), t2 j (by omega)]⟩
  rw [c8]
  by_cases c : b + 1 < 12
  · rw [if_pos c, Nat.mod_eq_of_lt c]
  · rw [if_neg c, show b + 1 = 12 by omega]
theorem re_t1 {T : Nat → Nat → Int32} {F : Nat → Int32} {b : Nat} (hb : b < 12) (e8 : F 8 = nI b) (K : okK T) (R : stR T F) : okK (mlG T (nI b)) ∧ stR (mlG T (nI b)) (paF0 F) ∧ mlS T (nI b) = psA F 48 ∧ paF0 F 8 = nI ((b + 1) % 12) := by
  obtain ⟨X, x0, x1, x2, x3, -, -, -, x7⟩ := re_ml1 (n := 48) rfl hb e8 K R
  have e : paF0 F = clF (ptF (pdF (psF F 48) 8) (ztm (pdF (psF F 48) 8))) (psA F 48) := rfl
  rw [x0, e]
  generalize psA F 48 = A at x3 ⊢
  generalize pdF (psF F 48) 8 = P at x2 x7 ⊢
  obtain ⟨c1, c2⟩ := cl_lo (P := P) (z := ztm P) (A := A) hb (by rw [x7 8 (by omega)]; exact e8)
  refine ⟨x1, fun s hs => ?_, x3, c1⟩
  obtain ⟨q1, q2, q3, q4⟩ := x2 s hs
  have h6 := (x1.1 s hs).2
  refine ⟨by rw [c2 _ (by omega) (by omega)]; exact q1, by rw [c2 _ (by omega) (by omega)]; exact q2, by rw [c2 _ (by omega) (by omega)]; exact q3, fun t ht => ?_⟩
  rw [c2 _ (by omega) (by omega), c2 _ (by omega) (by omega)]
  exact q4 t ht
theorem re_tr {g t : Nat → Nat → Int32} {f : Nat → Int32} {a : Nat} (ha : a < 12) (ea : g 0 4 = nI a) (e8 : f 8 = nI a) (K : okK t) (R : stR t f) : ∀ i, i ≤ 1000 → okK (trT g t i) ∧ stR (trT g t i) (pn0 f i) ∧ trS g t i = pnS f i ∧ pn0 f i 8 = nI ((a + i) % 12)
  | 0, _ => ⟨K, R, rfl, by rw [Nat.add_zero, Nat.mod_eq_of_lt ha]; exact e8⟩
  | i + 1, h => by
    obtain ⟨i1, i2, i3, i4⟩ := re_tr ha ea e8 K R i (by omega)
    have e1 : trT g t (i + 1) = mlG (trT g t i) (hrI g i) := rfl
    have e2 : trS g t (i + 1) = trS g t i + mlS (trT g t i) (hrI g i) := rfl
    have e3 : pn0 f (i + 1) = paF0 (pn0 f i) := rfl
    have e4 : pnS f (i + 1) = pnS f i + psA (pn0 f i) 48 := rfl
    rw [e1, e2, e3, e4, hrI_v ea (by omega), i3]
    generalize trT g t i = T at i1 i2 ⊢
    generalize pn0 f i = F at i2 i4 ⊢
    obtain ⟨w1, w2, w3, w4⟩ := re_t1 (Nat.mod_lt _ (by omega)) i4 i1 i2
    refine ⟨w1, w2, by rw [w3], ?_⟩
    rw [w4, show ((a + i) % 12 + 1) % 12 = (a + (i + 1)) % 12 by omega]
/-- volumeIn -/
theorem re_vi {g t : Nat → Nat → Int32} {f : Nat → Int32} (O : okS g) (H : reS g f) {s d : Nat} (hs : s < 8) (hd : d ≤ 1000) : vSum (trT g (cpSt t g) d 7) (s * 6) (zh (trT g (cpSt t g) d) s) = vmM (pn0 f d) s := by
  obtain ⟨a, ha, ea⟩ := O.2.2.2.2.1
  have e8 : f 8 = nI a := by rw [H.2.2.2.2.2.2.1, ea]
  obtain ⟨-, w2, -, -⟩ := re_tr (t := cpSt t g) ha ea e8 (okK_cg (g := g) rfl rfl rfl rfl (okK_of O)) (stR_cg (g := g) rfl rfl rfl rfl rfl (stR_of H)) d hd
  generalize trT g (cpSt t g) d = T at w2 ⊢
  generalize pn0 f d = F at w2 ⊢
  unfold vmM
  rw [st_zh w2 hs]
  exact st_vm w2 hs _ (Nat.le_refl _)
theorem hb_0 {T : Nat → Nat → Int32} {F : Nat → Int32} (K : okK T) (R : stR T F) {s : Nat} (hs : s < 8) : hbl T (nI s) (nI 0) = 0 ↔ F (12 + s) ≤ 0 := by
  have hz := K.1 s hs
  unfold hbl
  rw [zhA_n hs, if_neg (show ¬ nI 0 < 0 by decide +kernel), (R s hs).1]
  by_cases c : T 2 s ≤ nI 0
  · rw [if_pos c]; exact ⟨fun _ => c, fun _ => rfl⟩
  · rw [if_neg c]; exact ⟨fun q => absurd q (by decide +kernel), fun q => absurd q c⟩
/-- bestWall -/
theorem re_bw {g t : Nat → Nat → Int32} {f : Nat → Int32} (O : okS g) (H : reS g f) : ∀ s, s ≤ 8 → (bwI g t s).1 = (bsI f s).1 ∧ (bwI g t s).2.1 = (bsI f s).2
  | 0, _ => ⟨rfl, rfl⟩
  | s + 1, h => by
    obtain ⟨i1, i2⟩ := re_bw (t := t) O H s (by omega)
    obtain ⟨a, ha, ea⟩ := O.2.2.2.2.1
    have e8 : f 8 = nI a := by rw [H.2.2.2.2.2.2.1, ea]
    have e20 := (H.2.2.2.2.2.2.2.2.2.2.1 s (by omega)).2.1
    have t1 := (re_tr (t := cpSt t g) ha ea e8 (okK_cg (g := g) rfl rfl rfl rfl (okK_of O)) (stR_cg (g := g) rfl rfl rfl rfl rfl (stR_of H)) 12 (by omega)).2.2.1
    have K2 : okK (bwW g (bwI g t s).2.2 s) := by
      refine ⟨okK_of O |>.1, (okK_of O).2.1, fun j hj => ?_⟩
      show upd (g 3) s (nI 1) j = nI 0 ∨ upd (g 3) s (nI 1) j = nI 1
      by_cases q : j = s
      · rw [q, pk_us]; exact Or.inr rfl
      · rw [pk_un q]; exact (okK_of O).2.2 j hj
    have R2 : stR (bwW g (bwI g t s).2.2 s) (upd f (20 + s) (nI 1)) := fun j hj => by
      obtain ⟨b1, b2, b3, b4⟩ := stR_of H j hj
      have h6 := (O.1 j hj).2
      refine ⟨by rw [pk_un (by omega)]; exact b1, ?_, by rw [pk_un (by omega)]; exact b3, fun v hv => ?_⟩
      · show upd f (20 + s) (nI 1) (20 + j) = upd (g 3) s (nI 1) j
        by_cases q : j = s
        · rw [q, pk_us, pk_us]
        · rw [pk_un q, pk_un (by omega)]; exact b2
      · have hv2 : v < zh g j := hv
        rw [pk_un (by omega), pk_un (by omega)]
        exact b4 v hv2
    have t2 := (re_tr (t := bwW g (bwI g t s).2.2 s) ha ea (by rw [pk_un (by omega)]; exact e8) K2 R2 12 (by omega)).2.2.1
    rw [bwI, bsI]
    by_cases c : g 3 s = 0
    · rw [if_pos c, if_pos (show f (20 + s) = 0 by rw [e20]; exact c), t1, t2, i1, i2]
      by_cases c2 : pnS f 12 - pnS (upd f (20 + s) (nI 1)) 12 ≤ (bsI f s).2
      · rw [if_pos c2, if_pos c2]; exact ⟨rfl, rfl⟩
      · rw [if_neg c2, if_neg c2]; exact ⟨rfl, rfl⟩
    · rw [if_neg c, if_neg (show ¬ f (20 + s) = 0 by rw [e20]; exact c)]
      exact ⟨i1, i2⟩

