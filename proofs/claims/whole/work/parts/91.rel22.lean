/-! the relation, on: runOrders -/
theorem re_run {g o n h : Nat → Nat → Int32} {S : Nat → Nat → Nat → Int32} {m u k : Nat} (O : okS g) (H : reS g (h 1)) (hm : m ≤ 150) (hB : ∀ j, j < m → o 2 j = h 5 j) (R : rgR n S (h 2) (h 0 0) u k) (G9 : Nat → Nat → Int32) (hG9 : gtC ogG ogV (h0t h) m = G9) : G9 0 6 = ffO o m 0 3 ∧ kpI (h0t h) G9 ∧ ffO o m 2 = o 2 ∧ (ffO o m 0 3 = (-1) → ∀ R9, gtC ogX ogY (svG G9 u) m = R9 → okS (rnC g o m).1 ∧ reS (rnC g o m).1 (R9 1) ∧ R9 0 7 = nI (rnC g o m).2.2 ∧ (rnC g o m).2.1 2 = o 2 ∧ (rnC g o m).2.1 0 0 = o 0 0 ∧ R9 5 = h 5 ∧ R9 0 4 = h 0 4 ∧ rgR (puN n (tpN k)) (zSs S (tpN k) (cpSa (S (tpN k)) g)) (R9 2) (R9 0 0) (svM u) (tpN k)) := by
  have e6 : G9 0 6 = ffO o m 0 3 := by rw [← hG9]; exact (re_ff (h := h0t h) hm hB).symm
  have hk : kpI (h0t h) G9 := by rw [← hG9]; exact gt_kp _ _
  have f2 : ffO o m 2 = o 2 := ffR_2 m 150 (rwO o) 0
  refine ⟨e6, hk, f2, fun hf R9 hR9 => ?_⟩
  obtain ⟨k0, k4, k1, k5, k2, k3, k44⟩ := hk
  have g1 : G9 1 = h 1 := k1
  have g5 : G9 5 = h 5 := k5
  have g2 : G9 2 = h 2 := k2
  have g00 : G9 0 0 = h 0 0 := k0
  have g04 : G9 0 4 = h 0 4 := k4
  -- the second pass finds no fault either
  have hf2 : ffR m 150 (rwO (ffO o m)) 0 0 3 = (-1) := by
    have h1 : ffO (ffO o m) m 0 3 = gtC ogG ogV (h0t h) m 0 6 := re_ff (o := ffO o m) (h := h0t h) hm (fun j hj => by rw [f2]; exact hB j hj)
    rw [hG9, e6, hf] at h1
    exact h1
  have hs5 : svG G9 u 5 = h 5 := g5
  have eC := gtC_e ogX ogY (svG G9 u) m _ rfl
  rw [hR9] at eC
  have hB2 : ∀ j, j < m → rwO (ffO o m) 2 j = gtH (svG G9 u) (skE (svG G9 u 5) m (nI 32) (nI 32) 0) 5 j := fun j hj => by
    show ffO o m 2 j = svG G9 u 5 j
    rw [f2, hs5]; exact hB j hj
  have h1 : skE (rwO (ffO o m) 2) m (nI 32) (nI 32) 0 = skE (svG G9 u 5) m (nI 32) (nI 32) 0 := sk_cg hB2 _ _ _
  have hrn := rn_gt hm 150 m g (rwO (ffO o m)) 0 (gtH (svG G9 u) (skE (svG G9 u 5) m (nI 32) (nI 32) 0)) (skE (svG G9 u 5) m (nI 32) (nI 32) 0) 0 O (show reS g (G9 1) by rw [g1]; exact H) hB2 (Nat.zero_le _) (by omega) h1 (by omega) rfl rfl hf2
  rw [← eC] at hrn
  obtain ⟨i1, i2, i3, i4, i5, i6, i7, i8, i9⟩ := hrn
  have eR : rnR m 150 g (rwO (ffO o m)) 0 0 = rnC g o m := rfl
  rw [eR] at i1 i2 i3 i4 i5
  have r2 : rwO (ffO o m) 2 = ffO o m 2 := rfl
  have r00 : rwO (ffO o m) 0 0 = ffO o m 0 0 := rfl
  have t5 : gtH (svG G9 u) (skE (svG G9 u 5) m (nI 32) (nI 32) 0) 5 = svG G9 u 5 := rfl
  have t04 : gtH (svG G9 u) (skE (svG G9 u 5) m (nI 32) (nI 32) 0) 0 4 = G9 0 4 := rfl
  have t00 : gtH (svG G9 u) (skE (svG G9 u 5) m (nI 32) (nI 32) 0) 0 0 = svG G9 u 0 0 := rfl
  have t2 : gtH (svG G9 u) (skE (svG G9 u 5) m (nI 32) (nI 32) 0) 2 = svG G9 u 2 := rfl
  refine ⟨i1, i2, i3, by rw [i4, r2, f2], by rw [i5, r00, ffO_00], by rw [i6, t5, hs5], by rw [i7, t04, g04], ?_⟩
  rw [i9, t2, i8, t00]
  exact re_sav (h := G9) O (by rw [g1]; exact H) (by rw [g2, g00]; exact R)
