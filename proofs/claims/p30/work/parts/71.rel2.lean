theorem re_wl {g : Nat → Nat → Int32} {f : Nat → Int32} (H : reS g f) : ∀ s, s ≤ 8 → vSum (g 3) 0 s = wlS f s
  | 0, _ => rfl
  | s + 1, h => by
    have h1 := re_wl H s (by omega)
    have h2 := (H.2.2.2.2.2.2.2.2.2.2.1 s (by omega)).2.1
    unfold vSum wlS
    rw [h1, h2, Nat.zero_add]
theorem re_sw {g : Nat → Nat → Int32} {f : Nat → Int32} (O : okS g) (H : reS g f) {s z : Nat} (hs : s < 8) (hz : z < 2) : okS (va_up g 3 (upd (g 3) s (nI z))) ∧ reS (va_up g 3 (upd (g 3) s (nI z))) (swF f s z) := by
  obtain ⟨o1, o2, o3, o5, o6, o7, o8, o9, o10⟩ := O
  obtain ⟨r0, r1, r2, r3, r4, r5, r6, r7, r8, r9, r10, r11, r12⟩ := H
  refine ⟨⟨o1, o2, o3, o5, o6, o7, o8, o9, fun j hj => ?_⟩, ?_⟩
  · show upd (g 3) s (nI z) j = nI 0 ∨ upd (g 3) s (nI z) j = nI 1
    by_cases q : j = s
    · rw [show upd (g 3) s (nI z) j = nI z from if_pos q]
      rcases (show z = 0 ∨ z = 1 by omega) with rfl | rfl
      · exact Or.inl rfl
      · exact Or.inr rfl
    · rw [show upd (g 3) s (nI z) j = g 3 j from if_neg q]
      exact o10 j hj
  · have u : ∀ j, j ≠ 20 + s → swF f s z j = f j := fun j hj => pk_un hj
    refine ⟨(u _ (by omega)).trans r0, fun k hk => (u _ (by omega)).trans (r1 k hk), (u _ (by omega)).trans r2, (u _ (by omega)).trans r3, (u _ (by omega)).trans r4, (u _ (by omega)).trans r5, (u _ (by omega)).trans r6, (u _ (by omega)).trans r7, (u _ (by omega)).trans r8, (u _ (by omega)).trans r9, fun j hj => ?_, fun t ht => ?_, fun i hi => (u _ (by omega)).trans (r12 i hi)⟩
    · obtain ⟨b1, b2, b3, b4, b5⟩ := r10 j hj
      refine ⟨(u _ (by omega)).trans b1, ?_, (u _ (by omega)).trans b3, (u _ (by omega)).trans b4, fun t ht => ?_⟩
      · show swF f s z (20 + j) = upd (g 3) s (nI z) j
        by_cases q : j = s
        · subst q
          rw [show upd (g 3) j (nI z) j = nI z from if_pos rfl]
          exact if_pos rfl
        · rw [show upd (g 3) s (nI z) j = g 3 j from if_neg q, u _ (by omega), b2]
      · have h6 := (o1 j hj).2
        have ht6 : t < 6 := Nat.lt_of_lt_of_le ht h6
        exact ⟨(u _ (by omega)).trans (b5 t ht).1, (u _ (by omega)).trans (b5 t ht).2⟩
    · have h5 := o2.2
      have ht5 : t < 5 := Nat.lt_of_lt_of_le ht h5
      obtain ⟨b1, b2, b3⟩ := r11 t ht
      exact ⟨(u _ (by omega)).trans b1, (u _ (by omega)).trans b2, (u _ (by omega)).trans b3⟩
/-- addTool -/
theorem re_at {g : Nat → Nat → Int32} {f : Nat → Int32} (O : okS g) (H : reS g f) {v : Nat} (hv : v < 2 ^ 32) : (toC g (nI v) = nI 2 ∧ atT f v = 1) ∨ (toC g (nI v) = nI 3 ∧ atT f v = 2) ∨ (zt g < 5 ∧ toC g (nI v) = nI 0 ∧ atT f v = 0 ∧ okS (taG g (nI v)) ∧ reS (taG g (nI v)) (atF f v) ∧ taG g (nI v) 0 6 - nI 1 = nI (ztm f)) := by
  have e10 := H.2.2.2.2.2.2.2.2.1
  have ez := re_zt H
  unfold toC atT
  by_cases h1 : wi (nI v) (nI 1) (nI 20) = 0
  · rw [if_pos h1, if_pos h1]; exact Or.inl ⟨rfl, rfl⟩
  rw [if_neg h1, if_neg h1, e10]
  have hv2 := wi_lt hv (by omega) (by omega) h1
  by_cases h2 : g 0 6 < nI 5
  · rw [if_pos h2, if_neg (not_le32.mpr h2)]
    have hz5 : zt g < 5 := by
      have h3 := O.2.1.2
      rw [O.2.1.1, nI_ltI (by omega) (by omega)] at h2
      exact h2
    have et : zt (taG g (nI v)) = zt g + 1 := by
      unfold zt
      exact nI_clamp (by omega)
    obtain ⟨o1, o2, o3, o5, o6, o7, o8, o9, o10⟩ := O
    obtain ⟨r0, r1, r2, r3, r4, r5, r6, r7, r8, r9, r10, r11, r12⟩ := H
    have u10 : atF f v 10 = f 10 + nI 1 := by
      unfold atF
      rw [show ∀ (F : Nat → Int32) (x : Int32), upd F 10 x 10 = x from fun F x => if_pos rfl, pk_un (by omega), pk_un (by omega), pk_un (by omega)]
    have uo : ∀ j, j ≠ 10 → j ≠ 140 + zt g → j ≠ 145 + zt g → j ≠ 150 + zt g → atF f v j = f j := fun j a1 a2 a3 a4 => by
      unfold atF
      rw [ez]
      exact (pk_un a1).trans ((pk_un a4).trans ((pk_un a3).trans (pk_un a2)))
    have us : atF f v (140 + zt g) = nI v ∧ atF f v (145 + zt g) = nI 60 ∧ atF f v (150 + zt g) = nI 0 := by
      unfold atF
      rw [ez]
      exact ⟨(pk_un (by omega)).trans ((pk_un (by omega)).trans ((pk_un (by omega)).trans (if_pos rfl))), (pk_un (by omega)).trans ((pk_un (by omega)).trans (if_pos rfl)), (pk_un (by omega)).trans (if_pos rfl)⟩
    have t9 : ∀ t, taG g (nI v) 9 t = (if t = zt g then nI v else g 9 t) ∧ taG g (nI v) 10 t = (if t = zt g then nI 60 else g 10 t) ∧ taG g (nI v) 11 t = (if t = zt g then nI 0 else g 11 t) := fun t => ⟨rfl, rfl, rfl⟩
    refine Or.inr (Or.inr ⟨hz5, rfl, rfl, ⟨o1, okT_ta hz5, o3, o5, o6, fun t ht => ?_, o8, o9, o10⟩, ⟨(uo _ (by omega) (by omega) (by omega) (by omega)).trans r0, fun k hk => (uo _ (by omega) (by omega) (by omega) (by omega)).trans (r1 k hk), (uo _ (by omega) (by omega) (by omega) (by omega)).trans r2, (uo _ (by omega) (by omega) (by omega) (by omega)).trans r3, (uo _ (by omega) (by omega) (by omega) (by omega)).trans r4, (uo _ (by omega) (by omega) (by omega) (by omega)).trans r5, (uo _ (by omega) (by omega) (by omega) (by omega)).trans r6, (uo _ (by omega) (by omega) (by omega) (by omega)).trans r7, ?_, (uo _ (by omega) (by omega) (by omega) (by omega)).trans r9, fun s hs => ?_, fun t ht => ?_, fun i hi => (uo _ (by omega) (by omega) (by omega) (by omega)).trans (r12 i hi)⟩, ?_⟩)
    · rw [et] at ht
      obtain ⟨a1, a2, a3⟩ := t9 t
      rw [a1, a2]
      by_cases q : t = zt g
      · rw [if_pos q, if_pos q]; exact ⟨⟨v, hv2.1, hv2.2, rfl⟩, 60, by omega, rfl⟩
      · rw [if_neg q, if_neg q]; exact o7 t (by omega)
    · rw [u10, r8, o2.1, nI_add]; rfl
    · obtain ⟨b1, b2, b3, b4, b5⟩ := r10 s hs
      have h6 := (o1 s hs).2
      refine ⟨(uo _ (by omega) (by omega) (by omega) (by omega)).trans b1, (uo _ (by omega) (by omega) (by omega) (by omega)).trans b2, (uo _ (by omega) (by omega) (by omega) (by omega)).trans b3, (uo _ (by omega) (by omega) (by omega) (by omega)).trans b4, fun t ht => ?_⟩
      have ht6 : t < 6 := Nat.lt_of_lt_of_le ht h6
      exact ⟨(uo _ (by omega) (by omega) (by omega) (by omega)).trans (b5 t ht).1, (uo _ (by omega) (by omega) (by omega) (by omega)).trans (b5 t ht).2⟩
    · rw [et] at ht
      obtain ⟨a1, a2, a3⟩ := t9 t
      rw [a1, a2, a3]
      by_cases q : t = zt g
      · subst q
        rw [if_pos rfl, if_pos rfl, if_pos rfl]
        exact us
      · rw [if_neg q, if_neg q, if_neg q, uo _ (by omega) (by omega) (by omega) (by omega), uo _ (by omega) (by omega) (by omega) (by omega), uo _ (by omega) (by omega) (by omega) (by omega)]
        exact r11 t (by omega)
    · show nI (zt g + 1) - nI 1 = nI (ztm f)
      rw [ez, pk_sub (by omega), Nat.add_sub_cancel]
  · rw [if_neg h2, if_pos (not_lt32.mp h2)]
    exact Or.inr (Or.inl ⟨rfl, rfl⟩)

