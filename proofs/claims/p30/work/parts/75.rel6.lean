theorem re_st {g : Nat → Nat → Int32} {f : Nat → Int32} (O : okS g) (H : reS g f) {s k : Nat} (hs : s < 2 ^ 32) (hk : k < 2 ^ 32) : (stC g s k = nI 1 ∧ stT f s k = 1) ∨ (stC g s k = nI 2 ∧ stT f s k = 2) ∨ (stC g s k = nI 3 ∧ stT f s k = 3) ∨ (s < 8 ∧ k < 3 ∧ stC g s k = nI 0 ∧ stT f s k = 0 ∧ okS (pbG g s k) ∧ reS (pbG g s k) (stF f s k) ∧ pbG g s k 2 s - nI 1 = nI (zhm f s)) := by
  unfold stC stT
  by_cases h1 : isS (nI s) = 0
  · rw [if_pos h1, if_pos h1]; exact Or.inl ⟨rfl, rfl⟩
  rw [if_neg h1, if_neg h1]
  by_cases h2 : isK (nI k) = 0
  · rw [if_pos (show wi (nI k) (nI 0) (nI 2) = 0 from h2), if_pos h2]; exact Or.inr (Or.inl ⟨rfl, rfl⟩)
  rw [if_neg (show ¬ wi (nI k) (nI 0) (nI 2) = 0 from h2), if_neg h2]
  have hk3 := isK_lt hk h2
  have hs8 := isS_lt hs h1
  have ezm := re_zh H hs8
  obtain ⟨o1, o2, o3, o5, o6, o7, o8, o9, o10⟩ := O
  obtain ⟨r0, r1, r2, r3, r4, r5, r6, r7, r8, r9, r10, r11, r12⟩ := H
  obtain ⟨a, ha, ea⟩ := o5 k hk3
  have e1 := r1 k hk3
  have hz := o1 s hs8
  have b1 := (r10 s hs8).1
  rw [e1, ea, b1]
  by_cases c1 : a = 0
  · subst c1
    rw [if_pos (show nI 0 = 0 from rfl), if_pos (show nI 0 ≤ 0 by decide +kernel)]
    exact Or.inr (Or.inr (Or.inl ⟨rfl, rfl⟩))
  rw [if_neg (nI_ne0 (by omega) (by omega)), if_neg (nI_nle (by omega) (by omega))]
  by_cases c2 : g 2 s < nI 6
  · rw [if_pos c2, if_neg (not_le32.mpr c2)]
    have hz6 : zh g s < 6 := by
      rw [hz.1, nI_ltI (by omega) (by omega)] at c2
      exact c2
    have p1 : ∀ j, pbG g s k 1 j = if j = k then g 1 k - nI 1 else g 1 j := fun j => rfl
    have p2 : ∀ j, pbG g s k 2 j = if j = s then nI (zh g s + 1) else g 2 j := fun j => rfl
    have p6 : ∀ j, pbG g s k 6 j = if j = s * 6 + zh g s then nI k else g 6 j := fun j => rfl
    have p7 : ∀ j, pbG g s k 7 j = if j = s * 6 + zh g s then nI 100 else g 7 j := fun j => rfl
    have pz : ∀ j, zh (pbG g s k) j = if j = s then zh g s + 1 else zh g j := fun j => by
      unfold zh
      rw [p2]
      by_cases q : j = s
      · rw [if_pos q, if_pos q]; exact nI_clamp (by omega)
      · rw [if_neg q, if_neg q]
    have uo : ∀ j, j ≠ 1 + k → j ≠ 44 + 6 * s + zh g s → j ≠ 92 + 6 * s + zh g s → j ≠ 12 + s → stF f s k j = f j := fun j a1 a2 a3 a4 => by
      unfold stF
      rw [ezm]
      exact (pk_un a4).trans ((pk_un a3).trans ((pk_un a2).trans (pk_un a1)))
    have u1 : stF f s k (1 + k) = f (1 + k) - nI 1 := by
      unfold stF
      rw [ezm]
      exact (pk_un (by omega)).trans ((pk_un (by omega)).trans ((pk_un (by omega)).trans (if_pos rfl)))
    have u6 : stF f s k (44 + 6 * s + zh g s) = nI k := by
      unfold stF
      rw [ezm]
      exact (pk_un (by omega)).trans ((pk_un (by omega)).trans (if_pos rfl))
    have u7 : stF f s k (92 + 6 * s + zh g s) = nI 100 := by
      unfold stF
      rw [ezm]
      exact (pk_un (by omega)).trans (if_pos rfl)
    have u2 : stF f s k (12 + s) = nI (zh g s + 1) := by
      unfold stF
      rw [ezm, show ∀ (F : Nat → Int32) (x : Int32), upd F (12 + s) x (12 + s) = x from fun F x => if_pos rfl, pk_un (by omega), pk_un (by omega), pk_un (by omega), b1, hz.1, nI_add]
    refine Or.inr (Or.inr (Or.inr ⟨hs8, hk3, rfl, rfl, ⟨fun j hj => ?_, o2, o3, fun j hj => ?_, o6, o7, o8, fun j hj t ht => ?_, o10⟩, ⟨(uo _ (by omega) (by omega) (by omega) (by omega)).trans r0, fun j hj => ?_, (uo _ (by omega) (by omega) (by omega) (by omega)).trans r2, (uo _ (by omega) (by omega) (by omega) (by omega)).trans r3, (uo _ (by omega) (by omega) (by omega) (by omega)).trans r4, (uo _ (by omega) (by omega) (by omega) (by omega)).trans r5, (uo _ (by omega) (by omega) (by omega) (by omega)).trans r6, (uo _ (by omega) (by omega) (by omega) (by omega)).trans r7, (uo _ (by omega) (by omega) (by omega) (by omega)).trans r8, (uo _ (by omega) (by omega) (by omega) (by omega)).trans r9, fun j hj => ?_, fun t ht => ?_, fun i hi => (uo _ (by omega) (by omega) (by omega) (by omega)).trans (r12 i hi)⟩, ?_⟩))
    · rw [pz, p2]
      by_cases q : j = s
      · rw [if_pos q, if_pos q]; exact ⟨rfl, by omega⟩
      · rw [if_neg q, if_neg q]; exact o1 j hj
    · rw [p1]
      by_cases q : j = k
      · rw [if_pos q, ea, pk_sub (by omega)]; exact ⟨a - 1, by omega, rfl⟩
      · rw [if_neg q]; exact o5 j hj
    · rw [pz] at ht
      rw [p6, p7]
      have hzj := (o1 j hj).2
      by_cases q : j = s
      · subst q
        rw [if_pos rfl] at ht
        by_cases q2 : t = zh g j
        · rw [if_pos (by omega), if_pos (by omega)]; exact ⟨⟨k, hk3, rfl⟩, 100, by omega, by omega, rfl⟩
        · rw [if_neg (by omega), if_neg (by omega)]; exact o9 j hj t (by omega)
      · rw [if_neg q] at ht
        rw [if_neg (by omega), if_neg (by omega)]; exact o9 j hj t ht
    · rw [p1]
      by_cases q : j = k
      · rw [if_pos q, q, u1, e1]
      · rw [if_neg q, uo _ (by omega) (by omega) (by omega) (by omega)]; exact r1 j hj
    · obtain ⟨d1, d2, d3, d4, d5⟩ := r10 j hj
      have hzj := (o1 j hj).2
      refine ⟨?_, (uo _ (by omega) (by omega) (by omega) (by omega)).trans d2, (uo _ (by omega) (by omega) (by omega) (by omega)).trans d3, (uo _ (by omega) (by omega) (by omega) (by omega)).trans d4, fun t ht => ?_⟩
      · rw [p2]
        by_cases q : j = s
        · rw [if_pos q, q, u2]
        · rw [if_neg q, uo _ (by omega) (by omega) (by omega) (by omega)]; exact d1
      · rw [pz] at ht
        rw [p6, p7]
        by_cases q : j = s
        · subst q
          rw [if_pos rfl] at ht
          by_cases q2 : t = zh g j
          · subst q2
            rw [if_pos rfl, if_pos rfl]; exact ⟨u6, u7⟩
          · rw [if_neg (by omega), if_neg (by omega), uo _ (by omega) (by omega) (by omega) (by omega), uo _ (by omega) (by omega) (by omega) (by omega)]
            exact d5 t (by omega)
        · rw [if_neg q] at ht
          rw [if_neg (by omega), if_neg (by omega), uo _ (by omega) (by omega) (by omega) (by omega), uo _ (by omega) (by omega) (by omega) (by omega)]
          exact d5 t ht
    · have ht5 : t < 5 := Nat.lt_of_lt_of_le ht o2.2
      obtain ⟨d1, d2, d3⟩ := r11 t ht
      exact ⟨(uo _ (by omega) (by omega) (by omega) (by omega)).trans d1, (uo _ (by omega) (by omega) (by omega) (by omega)).trans d2, (uo _ (by omega) (by omega) (by omega) (by omega)).trans d3⟩
    · rw [p2, if_pos rfl, ezm, pk_sub (by omega), Nat.add_sub_cancel]
  · rw [if_neg c2, if_pos (not_lt32.mp c2)]
    exact Or.inr (Or.inr (Or.inl ⟨rfl, rfl⟩))

