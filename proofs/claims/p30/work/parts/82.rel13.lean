theorem isN_n {x : Int32} (h : ¬ isN x = 0) : x = (-1) ∨ ¬ isS x = 0 := by
  unfold isN at h
  by_cases c : x = (-1)
  · exact Or.inl c
  · rw [if_neg c] at h
    by_cases c2 : isS x = 0
    · rw [if_pos c2] at h; exact absurd rfl h
    · exact Or.inr c2
theorem re_bt {g : Nat → Nat → Int32} {f : Nat → Int32} (O : okS g) (H : reS g f) (a b c : Int32) : (baC g a b c = nI 2 ∧ btT f a b c = 1) ∨ (baC g a b c = nI 3 ∧ btT f a b c = 2) ∨ (zb g < 20 ∧ baC g a b c = nI 0 ∧ btT f a b c = 0 ∧ okS (baG g a b c) ∧ reS (baG g a b c) (btF f a b c) ∧ baG g a b c 0 7 = nI (zbm f + 1)) := by
  have e11 := H.2.2.2.2.2.2.2.2.2.1
  have ez := re_zb H
  have hz := O.2.2.1
  have m1 : ¬ (nI 1 = 0) := by decide +kernel
  -- what is wrong with the ballot itself
  have key : (baC g a b c = nI 2 ∧ (nmE a b c = 0 ∨ (¬ nmE a b c = 0 ∧ unE a b c = 0))) ∨ (¬ nmE a b c = 0 ∧ ¬ unE a b c = 0 ∧ baC g a b c = (if g 0 7 < nI 20 then nI 0 else nI 3) ∧ ¬ isS a = 0 ∧ ¬ isN b = 0 ∧ ¬ isN c = 0) := by
    unfold baC nmE
    by_cases h1 : isS a = 0
    · rw [if_pos h1, if_pos h1]; exact Or.inl ⟨rfl, Or.inl rfl⟩
    rw [if_neg h1, if_neg h1]
    have ha1 : ¬ a = (-1) := fun q => by
      obtain ⟨j, hj, e⟩ := isS_nat h1
      rw [q] at e
      exact absurd e.symm (nI_n1 (by omega))
    by_cases h2 : isN b = 0
    · have hb1 : ¬ b = (-1) := fun q => by unfold isN at h2; rw [if_pos q] at h2; exact absurd h2 m1
      have hb2 : isS b = 0 := by
        unfold isN at h2
        rw [if_neg hb1] at h2
        by_cases q : isS b = 0
        · exact q
        · rw [if_neg q] at h2; exact absurd h2 m1
      rw [if_pos h2, if_neg hb1, if_pos hb2]
      exact Or.inl ⟨rfl, Or.inl rfl⟩
    rw [if_neg h2]
    by_cases h3 : isN c = 0
    · have hc1 : ¬ c = (-1) := fun q => by unfold isN at h3; rw [if_pos q] at h3; exact absurd h3 m1
      have hc2 : isS c = 0 := by
        unfold isN at h3
        rw [if_neg hc1] at h3
        by_cases q : isS c = 0
        · exact q
        · rw [if_neg q] at h3; exact absurd h3 m1
      rw [if_pos h3]
      refine Or.inl ⟨rfl, Or.inl ?_⟩
      by_cases q : b = (-1)
      · rw [if_pos q, if_neg hc1]; rfl
      · rw [if_neg q]
        by_cases q2 : isS b = 0
        · rw [if_pos q2]; rfl
        · rw [if_neg q2, if_neg hc1, if_pos hc2]; rfl
    rw [if_neg h3]
    by_cases hb : b = (-1)
    · rw [if_pos hb, if_pos hb]
      by_cases hc : c = (-1)
      · rw [if_pos hc, if_pos hc]
        unfold baK unE
        rw [hb, hc, if_neg ha1, if_neg ha1, if_neg ha1, if_neg ha1, if_pos rfl, if_pos rfl, if_pos rfl, if_pos rfl]
        exact Or.inr ⟨m1, m1, rfl, h1, by rw [← hb]; exact h2, by rw [← hc]; exact h3⟩
      · rw [if_neg hc, if_neg hc]; exact Or.inl ⟨rfl, Or.inl rfl⟩
    rw [if_neg hb, if_neg hb]
    have hb2 : ¬ isS b = 0 := (isN_n h2).resolve_left hb
    rw [if_neg hb2]
    have e1 : ¬ (if c = (-1) then nI 1 else if isS c = 0 then nI 0 else nI 1) = 0 := by
      by_cases hc : c = (-1)
      · rw [if_pos hc]; exact m1
      · rw [if_neg hc, if_neg ((isN_n h3).resolve_left hc)]; exact m1
    unfold baK unE
    by_cases q1 : a = b
    · rw [if_pos q1, if_pos q1]; exact Or.inl ⟨rfl, Or.inr ⟨e1, rfl⟩⟩
    rw [if_neg q1, if_neg q1]
    by_cases q2 : a = c
    · rw [if_pos q2, if_pos q2]; exact Or.inl ⟨rfl, Or.inr ⟨e1, rfl⟩⟩
    rw [if_neg q2, if_neg q2]
    by_cases q3 : b = c
    · rw [if_pos q3, if_pos q3, if_neg hb, if_neg hb]; exact Or.inl ⟨rfl, Or.inr ⟨e1, rfl⟩⟩
    · rw [if_neg q3, if_neg q3]; exact Or.inr ⟨e1, m1, rfl, h1, h2, h3⟩
  unfold btT
  rcases key with ⟨k1, k2 | ⟨k2, k3⟩⟩ | ⟨k1, k2, k3, ha, hb, hc⟩
  · rw [if_pos k2]; exact Or.inl ⟨k1, rfl⟩
  · rw [if_neg k2, if_pos k3]; exact Or.inl ⟨k1, rfl⟩
  rw [if_neg k1, if_neg k2, k3, e11]
  by_cases c2 : g 0 7 < nI 20
  · rw [if_pos c2, if_neg (not_le32.mpr c2)]
    have hz20 : zb g < 20 := by
      rw [hz.1, nI_ltI (by have := hz.2; omega) (by omega)] at c2
      exact c2
    obtain ⟨o1, o2, o3, o5, o6, o7, o8, o9, o10⟩ := O
    obtain ⟨r0, r1, r2, r3, r4, r5, r6, r7, r8, r9, r10, r11, r12⟩ := H
    have p12 : ∀ j, baG g a b c 12 j = if j = zb g * 3 + 2 then c else if j = zb g * 3 + 1 then b else if j = zb g * 3 then a else g 12 j := fun j => rfl
    have p07 : baG g a b c 0 7 = nI (zb g + 1) := rfl
    have p0 : ∀ j, j ≠ 7 → baG g a b c 0 j = g 0 j := fun j hj => if_neg hj
    have zB : zb (baG g a b c) = zb g + 1 := by unfold zb at p07 ⊢; rw [p07]; exact nI_clamp (by unfold zb at hz20; omega)
    have uF : ∀ j, btF f a b c j = if j = 11 then nI (zb g + 1) else if j = 155 + 3 * zb g + 2 then c else if j = 155 + 3 * zb g + 1 then b else if j = 155 + 3 * zb g then a else f j := fun j => by
      unfold btF
      rw [ez]
      rfl
    have uo : ∀ j, j ≠ 11 → j < 155 + 3 * zb g → btF f a b c j = f j := fun j h1 h2 => by
      rw [uF, if_neg h1, if_neg (by omega), if_neg (by omega), if_neg (by omega)]
    refine Or.inr (Or.inr ⟨hz20, rfl, rfl, ⟨o1, o2, ⟨by rw [zB, p07], by omega⟩, o5, o6, o7, fun j hj k hk h => ?_, o9, o10⟩, ⟨(uo _ (by omega) (by omega)).trans r0, fun k hk => (uo _ (by omega) (by omega)).trans (r1 k hk), (uo _ (by omega) (by omega)).trans r2, (uo _ (by omega) (by omega)).trans r3, (uo _ (by omega) (by omega)).trans r4, (uo _ (by omega) (by omega)).trans r5, (uo _ (by omega) (by omega)).trans r6, (uo _ (by omega) (by omega)).trans r7, (uo _ (by omega) (by omega)).trans r8, ?_, fun s hs => ?_, fun t ht => ?_, fun i hi => ?_⟩, ?_⟩)
    · rw [zB] at hj
      rw [p12] at h ⊢
      by_cases q2 : 3 * j + k = zb g * 3 + 2
      · rw [if_pos q2] at h ⊢
        exact isS_nat ((isN_n hc).resolve_left h)
      rw [if_neg q2] at h ⊢
      by_cases q1 : 3 * j + k = zb g * 3 + 1
      · rw [if_pos q1] at h ⊢
        exact isS_nat ((isN_n hb).resolve_left h)
      rw [if_neg q1] at h ⊢
      by_cases q0 : 3 * j + k = zb g * 3
      · rw [if_pos q0] at h ⊢
        exact isS_nat ha
      rw [if_neg q0] at h ⊢
      exact o8 j (by omega) k hk h
    · rw [uF, if_pos rfl, p07]
    · obtain ⟨w1, w2, w3, w4, w5⟩ := r10 s hs
      have h6 := (o1 s hs).2
      refine ⟨(uo _ (by omega) (by omega)).trans w1, (uo _ (by omega) (by omega)).trans w2, (uo _ (by omega) (by omega)).trans w3, (uo _ (by omega) (by omega)).trans w4, fun t ht => ?_⟩
      have ht6 : t < 6 := Nat.lt_of_lt_of_le ht h6
      exact ⟨(uo _ (by omega) (by omega)).trans (w5 t ht).1, (uo _ (by omega) (by omega)).trans (w5 t ht).2⟩
    · have ht5 : t < 5 := Nat.lt_of_lt_of_le ht o2.2
      obtain ⟨w1, w2, w3⟩ := r11 t ht
      exact ⟨(uo _ (by omega) (by omega)).trans w1, (uo _ (by omega) (by omega)).trans w2, (uo _ (by omega) (by omega)).trans w3⟩
    · rw [zB] at hi
      rw [uF, p12, if_neg (show ¬ 155 + i = 11 by omega)]
      by_cases q2 : i = zb g * 3 + 2
      · rw [if_pos q2, if_pos (by omega)]
      rw [if_neg q2, if_neg (show ¬ 155 + i = 155 + 3 * zb g + 2 by omega)]
      by_cases q1 : i = zb g * 3 + 1
      · rw [if_pos q1, if_pos (by omega)]
      rw [if_neg q1, if_neg (show ¬ 155 + i = 155 + 3 * zb g + 1 by omega)]
      by_cases q0 : i = zb g * 3
      · rw [if_pos q0, if_pos (by omega)]
      rw [if_neg q0, if_neg (show ¬ 155 + i = 155 + 3 * zb g by omega)]
      exact r12 i (by omega)
    · rw [p07, ez]
  · rw [if_neg c2, if_pos (not_lt32.mp c2)]
    exact Or.inr (Or.inl ⟨rfl, rfl⟩)

