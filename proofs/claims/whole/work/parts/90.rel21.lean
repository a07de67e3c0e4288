/-! the relation, on: an order carried out; all orders -/
theorem n123 : ¬ (nI 1 = 0) ∧ ¬ (nI 2 = 0) ∧ ¬ (nI 3 = 0) ∧ nI 0 = 0 := by decide +kernel
theorem co_cy {g o : Nat → Nat → Int32} {f M : Nat → Int32} (O : okS g) (H : reS g f) {w : Nat} (hw : w < 9) (hN : ∀ i, i < nbN w → o 1 i = M i) : (orC g o w = 0 ∧ cyT f w (un (M 0)) (un (M 1)) (un (M 2)) (un (M 3)) = 0 ∧ okS (coF g o w) ∧ reS (coF g o w) (cyF f w (un (M 0)) (un (M 1)) (un (M 2)) (un (M 3)))) ∨ (¬ orC g o w = 0 ∧ ¬ cyT f w (un (M 0)) (un (M 1)) (un (M 2)) (un (M 3)) = 0) := by
  obtain ⟨z1, z2, z3, z0⟩ := n123
  have m1 : ¬ (1 : Nat) = 0 := by decide
  have m2 : ¬ (2 : Nat) = 0 := by decide
  have m3 : ¬ (3 : Nat) = 0 := by decide
  rcases (show w = 0 ∨ w = 1 ∨ w = 2 ∨ w = 3 ∨ w = 4 ∨ w = 5 ∨ w = 6 ∨ w = 7 ∨ w = 8 by omega) with rfl | rfl | rfl | rfl | rfl | rfl | rfl | rfl | rfl
  · have e0 := hN 0 (by decide)
    rw [orC_0, coF_0, cyT_0, cyF_0]
    rw [e0, show M 0 = nI (un (M 0)) from un_e _]
    generalize hu : un (M 0) = u
    have hl : u < 2 ^ 32 := by rw [← hu]; exact un_lt _
    have e9 : un (nI u) = u := by rw [← hu, ← un_e]
    rw [e9]
    rcases re_as O H hl with ⟨a, b⟩ | ⟨a, b⟩ | ⟨a, b, c, d, -⟩
    · rw [a, b]; exact Or.inr ⟨z2, m1⟩
    · rw [a, b]; exact Or.inr ⟨z3, m2⟩
    · exact Or.inl ⟨a.trans z0, b, c, d⟩
  · have e0 := hN 0 (by decide)
    have e1 := hN 1 (by decide)
    rw [orC_1, coF_1, cyT_1, cyF_1]
    rw [e0, e1]
    have hu := un_e (M 1)
    have hl0 := un_lt (M 0)
    have hl1 := un_lt (M 1)
    generalize un (M 0) = u0 at hl0 ⊢
    generalize un (M 1) = u1 at hu hl1 ⊢
    rw [hu]
    rcases re_pr O H hl0 hl1 with ⟨a, b⟩ | ⟨a, b⟩ | ⟨-, a, b, c, d, -⟩
    · rw [a, b]; exact Or.inr ⟨z2, m1⟩
    · rw [a, b]; exact Or.inr ⟨z3, m2⟩
    · exact Or.inl ⟨a.trans z0, b, c, d⟩
  · have e0 := hN 0 (by decide)
    have e1 := hN 1 (by decide)
    rw [orC_2, coF_2, cyT_2, cyF_2]
    rw [e0, e1]
    have hl0 := un_lt (M 0)
    have hl1 := un_lt (M 1)
    generalize un (M 0) = u0 at hl0 ⊢
    generalize un (M 1) = u1 at hl1 ⊢
    rcases re_st O H hl0 hl1 with ⟨a, b⟩ | ⟨a, b⟩ | ⟨a, b⟩ | ⟨-, -, a, b, c, d, -⟩
    · rw [a, b]; exact Or.inr ⟨z1, m1⟩
    · rw [a, b]; exact Or.inr ⟨z2, m2⟩
    · rw [a, b]; exact Or.inr ⟨z3, m3⟩
    · exact Or.inl ⟨a.trans z0, b, c, d⟩
  · have e0 := hN 0 (by decide)
    rw [orC_3, coF_3, cyT_3, cyF_3]
    rw [e0]
    have hu := un_e (M 0)
    have hl0 := un_lt (M 0)
    generalize un (M 0) = u0 at hu hl0 ⊢
    rw [hu]
    rcases re_at O H hl0 with ⟨a, b⟩ | ⟨a, b⟩ | ⟨-, a, b, c, d, -⟩
    · rw [a, b]; exact Or.inr ⟨z2, m1⟩
    · rw [a, b]; exact Or.inr ⟨z3, m2⟩
    · exact Or.inl ⟨a.trans z0, b, c, d⟩
  · have e0 := hN 0 (by decide)
    have e1 := hN 1 (by decide)
    have e2 := hN 2 (by decide)
    have e3 := hN 3 (by decide)
    rw [orC_4, coF_4, cyT_4, cyF_4]
    rw [e0, e1, e2, e3]
    have hu := un_e (M 3)
    have hl0 := un_lt (M 0)
    have hl1 := un_lt (M 1)
    have hl2 := un_lt (M 2)
    have hl3 := un_lt (M 3)
    generalize un (M 0) = u0 at hl0 ⊢
    generalize un (M 1) = u1 at hl1 ⊢
    generalize un (M 2) = u2 at hl2 ⊢
    generalize un (M 3) = u3 at hu hl3 ⊢
    rw [hu]
    rcases re_ca O H hl0 hl1 hl2 hl3 with ⟨a, -, b⟩ | ⟨a, -, b⟩ | ⟨a, -, b1, b2, b3, b4, b5, b6⟩
    · unfold crC
      rw [a, b, if_neg z1]; exact Or.inr ⟨z1, m1⟩
    · unfold crC
      rw [a, b, if_neg z2]; exact Or.inr ⟨z2, m2⟩
    · have er := re_ra O H b1 b2 b3 (nI u3)
      unfold crC
      rw [a, if_pos z0, b6, ← er]
      by_cases q : raG g u0 u1 u2 (nI u3) = 0
      · rw [if_pos q, if_pos q]
        obtain ⟨k1, k2, -⟩ := re_cr O H b1 b2 b3 b4 b5 q
        exact Or.inl ⟨z0, rfl, k1, k2⟩
      · rw [if_neg q, if_neg q]
        exact Or.inr ⟨z3, m3⟩
  · have e0 := hN 0 (by decide)
    rw [orC_5, coF_5, cyT_5, cyF_5]
    rw [e0]
    have hu := un_e (M 0)
    have hl0 := un_lt (M 0)
    generalize un (M 0) = u0 at hu hl0 ⊢
    rw [hu]
    unfold siC swT
    by_cases q : isS (nI u0) = 0
    · rw [if_pos q, if_pos q]; exact Or.inr ⟨z1, m1⟩
    · rw [if_neg q, if_neg q]
      obtain ⟨k1, k2⟩ := re_sw (z := 1) O H (isS_lt hl0 q) (by omega)
      exact Or.inl ⟨z0, rfl, k1, k2⟩
  · have e0 := hN 0 (by decide)
    rw [orC_6, coF_6, cyT_6, cyF_6]
    rw [e0]
    have hu := un_e (M 0)
    generalize un (M 0) = u0 at hu ⊢
    rw [hu]
    obtain ⟨k1, k2, -⟩ := re_p0 O H u0
    generalize phG g (nI 0) u0 = G at k1 k2 ⊢
    generalize pn0 f u0 = F at k2 ⊢
    unfold hoC gbT
    by_cases q : wi (nI u0) (nI 1) (nI 24) = 0
    · rw [if_pos q, if_pos q]; exact Or.inr ⟨z2, m1⟩
    · rw [if_neg q, if_neg q]; exact Or.inl ⟨z0, rfl, k1, k2⟩
  · have e0 := hN 0 (by decide)
    rw [orC_7, coF_7, cyT_7, cyF_7]
    rw [e0]
    have hu := un_e (M 0)
    generalize un (M 0) = u0 at hu ⊢
    rw [hu]
    obtain ⟨k1, k2, -⟩ := re_p1 O H u0
    generalize phG g (nI 1) u0 = G at k1 k2 ⊢
    generalize pn1 f u0 = F at k2 ⊢
    unfold hoC gbT
    by_cases q : wi (nI u0) (nI 1) (nI 24) = 0
    · rw [if_pos q, if_pos q]; exact Or.inr ⟨z2, m1⟩
    · rw [if_neg q, if_neg q]; exact Or.inl ⟨z0, rfl, k1, k2⟩
  · rw [orC_8, coF_8, cyT_8, cyF_8]
    obtain ⟨-, k1, k2⟩ := re_rc O H
    exact Or.inl ⟨z0, rfl, k1, k2⟩
/-- all orders, where none has a fault -/
theorem rn_gt {n : Nat} (hn : n ≤ 150) : ∀ k km g o p h s d, okS g → reS g (h 1) → (∀ j, j < n → o 2 j = h 5 j) → p ≤ n → n ≤ p + k → skE (o 2) n (nI 32) (nI 32) p = s → n ≤ s + km → o 0 3 = (-1) → h 0 7 = nI d → ffR n k o p 0 3 = (-1) → okS (rnR n k g o p d).1 ∧ reS (rnR n k g o p d).1 ((if s < n then gtR ogX ogY n km h s else h) 1) ∧ (if s < n then gtR ogX ogY n km h s else h) 0 7 = nI (rnR n k g o p d).2.2 ∧ (rnR n k g o p d).2.1 2 = o 2 ∧ (rnR n k g o p d).2.1 0 0 = o 0 0 ∧ (if s < n then gtR ogX ogY n km h s else h) 5 = h 5 ∧ (if s < n then gtR ogX ogY n km h s else h) 0 4 = h 0 4 ∧ (if s < n then gtR ogX ogY n km h s else h) 0 0 = h 0 0 ∧ (if s < n then gtR ogX ogY n km h s else h) 2 = h 2
  | 0, km, g, o, p, h, s, d, O, H, hB, hp, hk, hs, hkm, ho, h7, hf => by
    have h1 := (skE_le (o 2) (nI 32) (nI 32) hp).1
    rw [if_neg (show ¬ s < n by omega)]
    exact ⟨O, H, h7, rfl, rfl, rfl, rfl, rfl, rfl⟩
  | k + 1, km, g, o, p, h, s, d, O, H, hB, hp, hk, hs, hkm, ho, h7, hf => by
    have eF : ffR n (k + 1) o p = if roF o n p = 0 then roG o n p else ffR n k (roG o n p) (roP o n p) := rfl
    have eR : rnR n (k + 1) g o p d = if roF o n p = 0 then (g, roG o n p, d) else if orC g (roG o n p) (roW (o 2) n p) = 0 then rnR n k (coF g (roG o n p) (roW (o 2) n p)) (roG o n p) (roP o n p) (d + 1) else (g, roG o n p, d) := rfl
    have e2 := roG_2b o n p
    have e00 := roG_00 o n p
    rw [eF] at hf
    rw [eR]
    by_cases hsn : s < n
    · rw [if_pos hsn]
      obtain ⟨km', rfl⟩ : ∃ j, km = j + 1 := ⟨km - 1, by omega⟩
      have eM : gtR ogX ogY n (km' + 1) h s = if ogY h n s = 0 then ogX h n s else if spP (ogX h n s) n < n then gtR ogX ogY n km' (spG (ogX h n s) n) (spP (ogX h n s) n) else spG (ogX h n s) n := rfl
      rw [eM]
      rcases od_1 hn hB hp hs hsn with ⟨a1, a2, t, a3, a4, a5⟩ | ⟨a1, a2, a3, a4, a5, a6, a7, a8, a9, a10⟩
      · exfalso
        rw [if_pos a1, a4] at hf
        exact nI_n1 (show t < 2 ^ 31 by omega) hf
      · rw [if_neg a1] at hf
        rw [if_neg a1]
        have eX : ogX h n s = cyU (ogG h n s) (wqN h n s) := if_neg a2
        have eY : ogY h n s = cyV (ogG h n s) (wqN h n s) := if_neg a2
        obtain ⟨p0, -, -, -, b4, -, b1, b5, b0, b7, -⟩ := og_ok hn (Nat.le_of_lt hsn) a2
        obtain ⟨-, -, -, -, b2, -, -⟩ := ogG_kp h n s
        rw [eX, eY, a9]
        generalize roW (o 2) n p = w at a8 a10 ⊢
        have hC := co_cy (o := roG o n p) (M := ogG h n s 6) O (by rw [b1]; exact H : reS g (ogG h n s 1)) a8 a10
        have eU : cyU (ogG h n s) w = cyM (ogG h n s) (cyT (ogG h n s 1) w (un (ogG h n s 6 0)) (un (ogG h n s 6 1)) (un (ogG h n s 6 2)) (un (ogG h n s 6 3))) (cyF (ogG h n s 1) w (un (ogG h n s 6 0)) (un (ogG h n s 6 1)) (un (ogG h n s 6 2)) (un (ogG h n s 6 3))) := rfl
        have eV : cyV (ogG h n s) w = if cyT (ogG h n s 1) w (un (ogG h n s 6 0)) (un (ogG h n s 6 1)) (un (ogG h n s 6 2)) (un (ogG h n s 6 3)) = 0 then nI 1 else nI 0 := rfl
        rw [eU, eV]
        generalize cyT (ogG h n s 1) w (un (ogG h n s 6 0)) (un (ogG h n s 6 1)) (un (ogG h n s 6 2)) (un (ogG h n s 6 3)) = T at hC ⊢
        generalize cyF (ogG h n s 1) w (un (ogG h n s 6 0)) (un (ogG h n s 6 1)) (un (ogG h n s 6 2)) (un (ogG h n s 6 3)) = f' at hC ⊢
        rcases hC with ⟨c1, c2, c3, c4⟩ | ⟨c1, c2⟩
        · rw [if_pos c1, if_pos c2, if_neg n123.1, c2]
          have eMm : cyM (ogG h n s) 0 f' = va_up (va_up (ogG h n s) 0 (upd (upd (ogG h n s 0) 1 (nI 0)) 7 (ogG h n s 0 7 + nI 1))) 1 f' := if_pos rfl
          rw [eMm]
          have d1 : (va_up (va_up (ogG h n s) 0 (upd (upd (ogG h n s 0) 1 (nI 0)) 7 (ogG h n s 0 7 + nI 1))) 1 f') 1 = f' := rfl
          have d5 : (va_up (va_up (ogG h n s) 0 (upd (upd (ogG h n s 0) 1 (nI 0)) 7 (ogG h n s 0 7 + nI 1))) 1 f') 5 = ogG h n s 5 := rfl
          have d2 : (va_up (va_up (ogG h n s) 0 (upd (upd (ogG h n s 0) 1 (nI 0)) 7 (ogG h n s 0 7 + nI 1))) 1 f') 2 = ogG h n s 2 := rfl
          have d07 : (va_up (va_up (ogG h n s) 0 (upd (upd (ogG h n s 0) 1 (nI 0)) 7 (ogG h n s 0 7 + nI 1))) 1 f') 0 7 = ogG h n s 0 7 + nI 1 := rfl
          have d05 : (va_up (va_up (ogG h n s) 0 (upd (upd (ogG h n s 0) 1 (nI 0)) 7 (ogG h n s 0 7 + nI 1))) 1 f') 0 5 = ogG h n s 0 5 := rfl
          have d04 : (va_up (va_up (ogG h n s) 0 (upd (upd (ogG h n s 0) 1 (nI 0)) 7 (ogG h n s 0 7 + nI 1))) 1 f') 0 4 = ogG h n s 0 4 := rfl
          have d00 : (va_up (va_up (ogG h n s) 0 (upd (upd (ogG h n s 0) 1 (nI 0)) 7 (ogG h n s 0 7 + nI 1))) 1 f') 0 0 = ogG h n s 0 0 := rfl
          generalize (va_up (va_up (ogG h n s) 0 (upd (upd (ogG h n s 0) 1 (nI 0)) 7 (ogG h n s 0 7 + nI 1))) 1 f') = X at d1 d5 d2 d07 d05 d04 d00 ⊢
          have hsp : skE (roG o n p 2) n (nI 32) (nI 32) (roP o n p) = spP X n := by
            unfold spP
            rw [d05, a5, nI_clamp (by omega), e2, d5, b5]
            exact sk_cg hB _ _ _
          have IH := rn_gt hn k km' (coF g (roG o n p) w) (roG o n p) (roP o n p) (spG X n) (spP X n) (d + 1) c3 (show reS (coF g (roG o n p) w) (X 1) by rw [d1]; exact c4) (fun j hj => by
            show roG o n p 2 j = X 5 j
            rw [e2, d5, b5]; exact hB j hj) a4 (by have := (skE_le (o 2) (nI 32) (nI 32) hp).1; omega) hsp (by
              have := (skE_le (roG o n p 2) (nI 32) (nI 32) a4).1
              omega) (by rw [a7]; exact ho) (show X 0 7 = nI (d + 1) by rw [d07, b7, h7, nI_add]) hf
          obtain ⟨i1, i2, i3, i4, i5, i6, i7, i8, i9⟩ := IH
          have s5 : spG X n 5 = X 5 := rfl
          have s2 : spG X n 2 = X 2 := rfl
          have s04 : spG X n 0 4 = X 0 4 := rfl
          have s00 : spG X n 0 0 = X 0 0 := rfl
          exact ⟨i1, i2, i3, by rw [i4, e2], by rw [i5, e00], by rw [i6, s5, d5, b5], by rw [i7, s04, d04, b4], by rw [i8, s00, d00, b0], by rw [i9, s2, d2, b2]⟩
        · rw [if_neg c1, if_neg c2, if_pos n123.2.2.2]
          have eMm : cyM (ogG h n s) T f' = va_up (ogG h n s) 0 (upd (upd (ogG h n s 0) 1 (nI T)) 7 (ogG h n s 0 7 + nI 0)) := if_neg c2
          rw [eMm]
          refine ⟨O, ?_, ?_, e2, e00, b5, b4, b0, b2⟩
          · show reS g (ogG h n s 1)
            rw [b1]; exact H
          · show ogG h n s 0 7 + nI 0 = nI d
            rw [b7, h7, nI_add]; rfl
    · rw [if_neg hsn]
      obtain ⟨b1, b2⟩ := od_0 (o := o) (n := n) (p := p) (by rw [hs]; omega)
      rw [if_pos b1]
      exact ⟨O, H, h7, e2, e00, rfl, rfl, rfl, rfl⟩
