/-! the relation, on: what is saved, and undone -/
theorem re_cgf {g : Nat → Nat → Int32} {f f' : Nat → Int32} (O : okS g) (h : ∀ j, j < 215 → f' j = f j) (H : reS g f) : reS g f' := by
  obtain ⟨r0, r1, r2, r3, r4, r5, r6, r7, r8, r9, r10, r11, r12⟩ := H
  refine ⟨(h _ (by omega)).trans r0, fun k hk => (h _ (by omega)).trans (r1 k hk), (h _ (by omega)).trans r2, (h _ (by omega)).trans r3, (h _ (by omega)).trans r4, (h _ (by omega)).trans r5, (h _ (by omega)).trans r6, (h _ (by omega)).trans r7, (h _ (by omega)).trans r8, (h _ (by omega)).trans r9, fun s hs => ?_, fun t ht => ?_, fun i hi => ?_⟩
  · obtain ⟨b1, b2, b3, b4, b5⟩ := r10 s hs
    have h6 := (O.1 s hs).2
    refine ⟨(h _ (by omega)).trans b1, (h _ (by omega)).trans b2, (h _ (by omega)).trans b3, (h _ (by omega)).trans b4, fun t ht => ?_⟩
    have ht6 : t < 6 := Nat.lt_of_lt_of_le ht h6
    exact ⟨(h _ (by omega)).trans (b5 t ht).1, (h _ (by omega)).trans (b5 t ht).2⟩
  · have ht5 : t < 5 := Nat.lt_of_lt_of_le ht O.2.1.2
    obtain ⟨b1, b2, b3⟩ := r11 t ht
    exact ⟨(h _ (by omega)).trans b1, (h _ (by omega)).trans b2, (h _ (by omega)).trans b3⟩
  · have hz := O.2.2.1.2
    exact (h _ (by omega)).trans (r12 i hi)
/-- two states that are the same but for the losses -/
def eqS (g' g : Nat → Nat → Int32) : Prop := (∀ j, j < 8 → g' 0 j = g 0 j) ∧ g' 1 = g 1 ∧ g' 2 = g 2 ∧ g' 3 = g 3 ∧ g' 4 = g 4 ∧ g' 5 = g 5 ∧ g' 6 = g 6 ∧ g' 7 = g 7 ∧ g' 9 = g 9 ∧ g' 10 = g 10 ∧ g' 11 = g 11 ∧ g' 12 = g 12
theorem eqS_cp (t g : Nat → Nat → Int32) : eqS (cpSa t g) g := by
  refine ⟨fun j hj => ?_, rfl, rfl, rfl, rfl, rfl, rfl, rfl, rfl, rfl, rfl, rfl⟩
  rcases (show j = 0 ∨ j = 1 ∨ j = 2 ∨ j = 3 ∨ j = 4 ∨ j = 5 ∨ j = 6 ∨ j = 7 by omega) with rfl | rfl | rfl | rfl | rfl | rfl | rfl | rfl <;> rfl
theorem okS_cg {g' g : Nat → Nat → Int32} (e : eqS g' g) (O : okS g) : okS g' := by
  obtain ⟨e0, e1, e2, e3, e4, e5, e6, e7, e9, e10, e11, e12⟩ := e
  obtain ⟨o1, o2, o3, o5, o6, o7, o8, o9, o10⟩ := O
  have zH : ∀ s, zh g' s = zh g s := fun s => by unfold zh; rw [e2]
  have zT : zt g' = zt g := by unfold zt; rw [e0 6 (by omega)]
  have zB : zb g' = zb g := by unfold zb; rw [e0 7 (by omega)]
  refine ⟨fun s hs => ?_, ?_, ?_, fun k hk => ?_, ?_, fun t ht => ?_, fun b hb => ?_, fun s hs t ht => ?_, fun s hs => ?_⟩
  · rw [zH, e2]; exact o1 s hs
  · unfold okT; rw [zT, e0 6 (by omega)]; exact o2
  · unfold okB; rw [zB, e0 7 (by omega)]; exact o3
  · rw [e1]; exact o5 k hk
  · rw [e0 4 (by omega)]; exact o6
  · rw [zT] at ht; rw [e9, e10]; exact o7 t ht
  · rw [zB] at hb; rw [e12]; exact o8 b hb
  · rw [zH] at ht; rw [e6, e7]; exact o9 s hs t ht
  · rw [e3]; exact o10 s hs
theorem reS_cg {g' g : Nat → Nat → Int32} {f : Nat → Int32} (e : eqS g' g) (H : reS g f) : reS g' f := by
  obtain ⟨e0, e1, e2, e3, e4, e5, e6, e7, e9, e10, e11, e12⟩ := e
  obtain ⟨r0, r1, r2, r3, r4, r5, r6, r7, r8, r9, r10, r11, r12⟩ := H
  have zH : ∀ s, zh g' s = zh g s := fun s => by unfold zh; rw [e2]
  have zT : zt g' = zt g := by unfold zt; rw [e0 6 (by omega)]
  have zB : zb g' = zb g := by unfold zb; rw [e0 7 (by omega)]
  unfold reS
  rw [e0 0 (by omega), e0 1 (by omega), e0 2 (by omega), e0 3 (by omega), e0 4 (by omega), e0 5 (by omega), e0 6 (by omega), e0 7 (by omega), e1, e2, e3, e4, e5, e6, e7, e9, e10, e11, e12, zT, zB]
  refine ⟨r0, r1, r2, r3, r4, r5, r6, r7, r8, r9, fun s hs => ?_, r11, r12⟩
  rw [zH]
  exact r10 s hs
/-- the ring: row i is state slot i -/
def slN (k u i : Nat) : Nat := (k + 5 - u + i) % 4
def rgR (n : Nat → Nat → Int32) (S : Nat → Nat → Nat → Int32) (K : Nat → Int32) (x : Int32) (u k : Nat) : Prop := u ≤ 4 ∧ k < 4 ∧ n 0 0 = nI u ∧ n 0 1 = nI k ∧ x = nI u ∧ ∀ i, i < u → okS (S (slN k u i)) ∧ reS (S (slN k u i)) (fun j => K (215 * i + j))
theorem cpK_v (K f : Nat → Int32) (m : Nat) : ∀ n, (∀ j, j < n → cpK K f m n (215 * m + j) = f j) ∧ ∀ j, j < 215 * m → cpK K f m n j = K j
  | 0 => ⟨fun j h => absurd h (Nat.not_lt_zero _), fun j _ => rfl⟩
  | n + 1 => by
    obtain ⟨i1, i2⟩ := cpK_v K f m n
    have e : cpK K f m (n + 1) = upd (cpK K f m n) (215 * m + n) (f n) := rfl
    rw [e]
    refine ⟨fun j hj => ?_, fun j hj => by rw [pk_un (by omega)]; exact i2 j hj⟩
    by_cases q : j = n
    · rw [q, pk_us]
    · rw [pk_un (by omega)]; exact i1 j (by omega)
theorem skK_v (K : Nat → Int32) : ∀ n, (∀ j, j < n → skK K n j = K (215 + j)) ∧ ∀ j, n ≤ j → skK K n j = K j
  | 0 => ⟨fun j h => absurd h (Nat.not_lt_zero _), fun j _ => rfl⟩
  | n + 1 => by
    obtain ⟨i1, i2⟩ := skK_v K n
    have e : skK K (n + 1) = upd (skK K n) n (skK K n (215 + n)) := rfl
    rw [e]
    refine ⟨fun j hj => ?_, fun j hj => by rw [pk_un (by omega)]; exact i2 j (by omega)⟩
    by_cases q : j = n
    · rw [q, pk_us, i2 _ (by omega)]
    · rw [pk_un q]; exact i1 j (by omega)
theorem re_push {g n h : Nat → Nat → Int32} {S : Nat → Nat → Nat → Int32} {u k a b : Nat} (ha : a = 215) (hb : b = 645) (O : okS g) (H : reS g (h 1)) (R : rgR n S (h 2) (h 0 0) u k) : rgR (puN n (tpN k)) (zSs S (tpN k) (cpSa (S (tpN k)) g)) (if u = 4 then cpK (skK (h 2) b) (h 1) 3 a else cpK (h 2) (h 1) u a) (nI (svM u)) (svM u) (tpN k) := by
  obtain ⟨hu, hk, n0, n1, hx, hr⟩ := R
  have hk' : tpN k = (k + 1) % 4 := by
    unfold tpN
    by_cases q : k = 3
    · rw [if_pos q, q]
    · rw [if_neg q]; omega
  have e1 : puN n (tpN k) 0 1 = nI (tpN k) := rfl
  have e0 : puN n (tpN k) 0 0 = nI (svM u) := by
    show (if nI 4 < n 0 0 + nI 1 then nI 4 else n 0 0 + nI 1) = _
    rw [n0, nI_add]
    unfold svM
    by_cases q : u = 4
    · rw [if_pos ((nI_ltI (by omega) (by omega)).mpr (by omega)), if_pos q]
    · rw [if_neg (fun q2 => by have := (nI_ltI (by omega) (by omega)).mp q2; omega), if_neg q]
  have zs : ∀ i, zSs S (tpN k) (cpSa (S (tpN k)) g) i = if i = tpN k then cpSa (S (tpN k)) g else S i := fun i => rfl
  have hnew : okS (cpSa (S (tpN k)) g) ∧ reS (cpSa (S (tpN k)) g) (h 1) := ⟨okS_cg (eqS_cp _ _) O, reS_cg (eqS_cp _ _) H⟩
  refine ⟨by unfold svM; split <;> omega, by rw [hk']; omega, e0, e1, rfl, fun i hi => ?_⟩
  rw [zs]
  by_cases q : u = 4
  · have hs : svM u = 4 := by unfold svM; rw [if_pos q]
    rw [hs] at hi ⊢
    rw [if_pos q]
    obtain ⟨c1, c2⟩ := cpK_v (skK (h 2) b) (h 1) 3 a
    by_cases q2 : i = 3
    · rw [if_pos (show slN (tpN k) 4 i = tpN k by unfold slN; rw [hk']; omega)]
      exact ⟨hnew.1, re_cgf hnew.1 (fun j hj => by rw [q2]; exact c1 j (by omega)) hnew.2⟩
    · rw [if_neg (show ¬ slN (tpN k) 4 i = tpN k by unfold slN; rw [hk']; omega), show slN (tpN k) 4 i = slN k u (i + 1) by unfold slN; rw [hk', q]; omega]
      obtain ⟨w1, w2⟩ := hr (i + 1) (by omega)
      refine ⟨w1, re_cgf w1 (fun j hj => ?_) w2⟩
      show cpK (skK (h 2) b) (h 1) 3 a (215 * i + j) = h 2 (215 * (i + 1) + j)
      rw [c2 _ (by omega), (skK_v (h 2) b).1 _ (by omega)]
      congr 1
      omega
  · have hs : svM u = u + 1 := by unfold svM; rw [if_neg q]
    rw [hs] at hi ⊢
    rw [if_neg q]
    obtain ⟨c1, c2⟩ := cpK_v (h 2) (h 1) u a
    by_cases q2 : i = u
    · rw [if_pos (show slN (tpN k) (u + 1) i = tpN k by unfold slN; rw [hk']; omega)]
      exact ⟨hnew.1, re_cgf hnew.1 (fun j hj => by rw [q2]; exact c1 j (by omega)) hnew.2⟩
    · rw [if_neg (show ¬ slN (tpN k) (u + 1) i = tpN k by unfold slN; rw [hk']; omega), show slN (tpN k) (u + 1) i = slN k u i by unfold slN; rw [hk']; omega]
      obtain ⟨w1, w2⟩ := hr i (by omega)
      refine ⟨w1, re_cgf w1 (fun j hj => ?_) w2⟩
      exact c2 _ (by have : 215 * i + 215 ≤ 215 * u := by omega
                     omega)
/-- the same, in the model's words -/
theorem re_sav {g n h : Nat → Nat → Int32} {S : Nat → Nat → Nat → Int32} {u k : Nat} (O : okS g) (H : reS g (h 1)) (R : rgR n S (h 2) (h 0 0) u k) : rgR (puN n (tpN k)) (zSs S (tpN k) (cpSa (S (tpN k)) g)) (svG h u 2) (svG h u 0 0) (svM u) (tpN k) := by
  have e2 : svG h u 2 = if u = 4 then cpK (skK (h 2) 645) (h 1) 3 215 else cpK (h 2) (h 1) u 215 := rfl
  have e0 : svG h u 0 0 = nI (svM u) := rfl
  rw [e2, e0]
  exact re_push rfl rfl O H R
theorem re_undo {g n h : Nat → Nat → Int32} {S : Nat → Nat → Nat → Int32} {u k : Nat} (R : rgR n S (h 2) (h 0 0) u k) (h0 : 1 ≤ u) : okS (cpSa g (S k)) ∧ reS (cpSa g (S k)) (fun j => h 2 (215 * (u - 1) + j)) ∧ rgR (poN n (tmN k)) S (h 2) (nI (u - 1)) (u - 1) (tmN k) ∧ poN n (tmN k) 0 0 = nI (u - 1) := by
  obtain ⟨hu, hk, n0, n1, hx, hr⟩ := R
  have hk' : tmN k = (k + 3) % 4 := by
    unfold tmN
    by_cases q : k = 0
    · rw [if_pos q, q]
    · rw [if_neg q]; omega
  have e1 : poN n (tmN k) 0 1 = nI (tmN k) := rfl
  have e0 : poN n (tmN k) 0 0 = nI (u - 1) := by
    show n 0 0 - nI 1 = _
    rw [n0, pk_sub h0]
  obtain ⟨w1, w2⟩ := hr (u - 1) (by omega)
  rw [show slN k u (u - 1) = k by unfold slN; omega] at w1 w2
  refine ⟨okS_cg (eqS_cp _ _) w1, reS_cg (eqS_cp _ _) w2, ⟨by omega, by rw [hk']; omega, e0, e1, rfl, fun i hi => ?_⟩, e0⟩
  rw [show slN (tmN k) (u - 1) i = slN k u i by unfold slN; rw [hk']; omega]
  exact hr i (by omega)
