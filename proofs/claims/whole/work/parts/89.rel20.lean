/-! the relation, on: an order as both read it; the first fault -/
/-- both find a fault at the same place, or both read the same order and go on at the same place -/
theorem od_1 {o h : Nat → Nat → Int32} {n p s : Nat} (hn : n ≤ 150) (hB : ∀ j, j < n → o 2 j = h 5 j) (hp : p ≤ n) (hs : skE (o 2) n (nI 32) (nI 32) p = s) (hsn : s < n) : (roF o n p = 0 ∧ ogV h n s = 0 ∧ ∃ t, t ≤ n ∧ roG o n p 0 3 = nI t ∧ ogG h n s 0 6 = nI t) ∨ (¬ roF o n p = 0 ∧ ¬ ogV h n s = 0 ∧ s < roP o n p ∧ roP o n p ≤ n ∧ ogG h n s 0 5 = nI (roP o n p) ∧ ogG h n s 0 6 = (-1) ∧ roG o n p 0 3 = o 0 3 ∧ roW (o 2) n p < 9 ∧ wqN h n s = roW (o 2) n p ∧ ∀ i, i < nbN (roW (o 2) n p) → roG o n p 1 i = ogG h n s 6 i) := by
  have eS : roS (o 2) n p = s := hs
  have eE : roE (o 2) n p = skE (o 2) n (nI 97) (nI 122) s := by unfold roE; rw [eS]
  obtain ⟨e1, e2⟩ := skE_le (o 2) (nI 97) (nI 122) (Nat.le_of_lt hsn)
  have hl : ∀ j, s ≤ j → j < skE (o 2) n (nI 97) (nI 122) s → ∃ c, 1 ≤ c ∧ c ≤ 26 ∧ o 2 j = nI (96 + c) := fun j h1 h2 => nw_let (skN_in _ _ _ _ _ _ _ h1 h2)
  have hW := wd_wo hl
  have eW : roW (o 2) n p = wdC (o 2) s (skE (o 2) n (nI 97) (nI 122) s) := by unfold roW; rw [eS, eE]
  rw [← eW] at hW
  have ns : ¬ n ≤ roS (o 2) n p := by rw [eS]; omega
  have eF : roF o n p = if roW (o 2) n p = 9 then nI 0 else (roR o n p).1 := if_neg ns
  have eG : roG o n p = if roW (o 2) n p = 9 then roM o 9 (roE (o 2) n p) (nI (roS (o 2) n p)) (o 1) else roM o (roW (o 2) n p) (roR o n p).2.1 (roR o n p).2.2.2 (roR o n p).2.2.1 := if_neg ns
  have eP : roP o n p = if roW (o 2) n p = 9 then roE (o 2) n p else (roR o n p).2.1 := if_neg ns
  have m3 : ∀ w q f N, roM o w q f N 0 3 = f := fun w q f N => rfl
  have m1 : ∀ w q f N, roM o w q f N 1 = N := fun w q f N => rfl
  rw [eF, eG, eP]
  have hcg : skE (o 2) n (nI 97) (nI 122) s = skE (h 5) n (nI 97) (nI 122) s := sk_cg hB _ _ _
  have hwc := wo_cg hB e1 e2
  rw [hwc] at hW
  rw [hcg] at hW
  rcases hW with ⟨w1, w2⟩ | ⟨w1, w2⟩
  · rw [w1, if_pos rfl, if_pos rfl, if_pos rfl, m3, eS]
    refine Or.inl ⟨rfl, ?_⟩
    by_cases c : nwC (h 5) n s (nI 97) (nI 122) = 0
    · obtain ⟨a1, a2⟩ := ogG_a c
      rw [a1, a2]
      exact ⟨rfl, s, Nat.le_of_lt hsn, rfl, rfl⟩
    · obtain ⟨a1, a2⟩ := ogG_b c rfl w2
      rw [a1, a2]
      exact ⟨rfl, s, Nat.le_of_lt hsn, rfl, rfl⟩
  · generalize hw : roW (o 2) n p = w at w1 w2
    have n9 : ¬ w = 9 := by omega
    rw [if_neg n9, if_neg n9, if_neg n9, m3, m1]
    have c : ¬ nwC (h 5) n s (nI 97) (nI 122) = 0 := fun q => by
      have e3 : skE (h 5) n (nI 97) (nI 122) s = s := skE_0 q
      rw [e3] at w2
      have e4 : woC (h 5) s s = (-1) := by
        unfold woC
        rw [Nat.sub_self, if_pos (by omega)]
        exact (by decide +kernel : woN (nI 0) = (-1))
      rw [e4] at w2
      exact nI_n1 (show w < 2 ^ 31 by omega) w2.symm
    obtain ⟨a1, a2⟩ := ogG_c c rfl w1 w2 rfl
    have eq9 : wqN h n s = w := by
      unfold wqN
      rw [w2]
      exact nI_clamp (by omega)
    have eR : roR o n p = nmR (o 2) n (o 0 3) (nbN w) 0 (skE (o 2) n (nI 97) (nI 122) s) (o 1) := by
      unfold roR
      rw [hw, eE]
    rw [a1, a2, eR, ogR_T, ← hcg, eq9]
    rcases nm_og (B' := h 5) hn hB (o 0 3) (nbN w) 0 (skE (o 2) n (nI 97) (nI 122) s) (o 1) (h 6) e2 (fun i hi => absurd hi (Nat.not_lt_zero _)) with ⟨i1, i2, i3, i4, i5, i6, i7⟩ | ⟨i1, t, t1, t2, t3⟩
    · rw [i1, i2, i4, i3]
      rw [i3] at i6 i7
      have m : ¬ (nI 1 = 0) := by decide +kernel
      refine Or.inr ⟨m, by rw [if_pos rfl]; exact m, by omega, i7, rfl, ?_, rfl, w1, rfl, fun i hi => ?_⟩
      · show (ogT (h 5) n (nbN w) 0 (skE (o 2) n (nI 97) (nI 122) s) (h 6)).2.2 = (-1)
        exact i2
      · exact i5 i (by omega)
    · rw [i1, t2]
      refine Or.inl ⟨rfl, by rw [if_neg (nI_n1 (by omega))]; rfl, t, t1, t3, ?_⟩
      show (ogT (h 5) n (nbN w) 0 (skE (o 2) n (nI 97) (nI 122) s) (h 6)).2.2 = nI t
      exact t2
/-- at the text's end -/
theorem od_0 {o : Nat → Nat → Int32} {n p : Nat} (h : n ≤ skE (o 2) n (nI 32) (nI 32) p) : roF o n p = 0 ∧ roG o n p 0 3 = o 0 3 := by
  have ns : n ≤ roS (o 2) n p := h
  refine ⟨if_pos ns, ?_⟩
  have e : roG o n p = va_up o 0 (upd (o 0) 2 (nI (roS (o 2) n p))) := if_pos ns
  rw [e]
  rfl
theorem roG_2b (o : Nat → Nat → Int32) (n p : Nat) : roG o n p 2 = o 2 := by
  unfold roG
  split
  · rfl
  · split <;> rfl
theorem ffR_2 (n : Nat) : ∀ k o p, ffR n k o p 2 = o 2
  | 0, o, p => rfl
  | k + 1, o, p => by
    show (if roF o n p = 0 then roG o n p else ffR n k (roG o n p) (roP o n p)) 2 = o 2
    by_cases q : roF o n p = 0
    · rw [if_pos q]; exact roG_2b o n p
    · rw [if_neg q, ffR_2 n k, roG_2b]
theorem ogG_kp (h : Nat → Nat → Int32) (n i : Nat) : kpI h (ogG h n i) := og_kp n i ⟨rfl, rfl, rfl, rfl, rfl, rfl, rfl⟩
/-- the first fault: the same place, or none in both -/
theorem ff_gt {n : Nat} (hn : n ≤ 150) : ∀ k km o p h s, (∀ j, j < n → o 2 j = h 5 j) → p ≤ n → n ≤ p + k → skE (o 2) n (nI 32) (nI 32) p = s → n ≤ s + km → o 0 3 = (-1) → h 0 6 = (-1) → ffR n k o p 0 3 = (if s < n then gtR ogG ogV n km h s else h) 0 6
  | 0, km, o, p, h, s, hB, hp, hk, hs, hkm, ho, hh => by
    have h1 := (skE_le (o 2) (nI 32) (nI 32) hp).1
    rw [if_neg (show ¬ s < n by omega)]
    show o 0 3 = h 0 6
    rw [ho, hh]
  | k + 1, km, o, p, h, s, hB, hp, hk, hs, hkm, ho, hh => by
    have eF : ffR n (k + 1) o p = if roF o n p = 0 then roG o n p else ffR n k (roG o n p) (roP o n p) := rfl
    rw [eF]
    by_cases hsn : s < n
    · rw [if_pos hsn]
      obtain ⟨km', rfl⟩ : ∃ j, km = j + 1 := ⟨km - 1, by omega⟩
      have eM : gtR ogG ogV n (km' + 1) h s = if ogV h n s = 0 then ogG h n s else if spP (ogG h n s) n < n then gtR ogG ogV n km' (spG (ogG h n s) n) (spP (ogG h n s) n) else spG (ogG h n s) n := rfl
      rw [eM]
      rcases od_1 hn hB hp hs hsn with ⟨a1, a2, t, a3, a4, a5⟩ | ⟨a1, a2, a3, a4, a5, a6, a7, -, -, -⟩
      · rw [if_pos a1, if_pos a2, a4, a5]
      · rw [if_neg a1, if_neg a2]
        have hk5 : ogG h n s 5 = h 5 := (ogG_kp h n s).2.2.2.1
        have e2 := roG_2b o n p
        have hB2 : ∀ j, j < n → roG o n p 2 j = ogG h n s 5 j := fun j hj => by rw [e2, hk5]; exact hB j hj
        have hsp : skE (roG o n p 2) n (nI 32) (nI 32) (roP o n p) = spP (ogG h n s) n := by
          unfold spP
          rw [a5, nI_clamp (by omega), e2, hk5]
          exact sk_cg hB _ _ _
        have IH := ff_gt hn k km' (roG o n p) (roP o n p) (spG (ogG h n s) n) (spP (ogG h n s) n) (fun j hj => hB2 j hj) a4 (by have := (skE_le (o 2) (nI 32) (nI 32) hp).1; omega) hsp (by
          have := (skE_le (roG o n p 2) (nI 32) (nI 32) a4).1
          omega) (by rw [a7]; exact ho) (show ogG h n s 0 6 = (-1) from a6)
        exact IH
    · rw [if_neg hsn]
      obtain ⟨b1, b2⟩ := od_0 (o := o) (n := n) (p := p) (by rw [hs]; omega)
      rw [if_pos b1, b2, ho, hh]
theorem gtC_e (G : (Nat → Nat → Int32) → Nat → Nat → Nat → Nat → Int32) (V : (Nat → Nat → Int32) → Nat → Nat → Int32) (h : Nat → Nat → Int32) (n s : Nat) (hs : skE (h 5) n (nI 32) (nI 32) 0 = s) : gtC G V h n = if s < n then gtR G V n n (gtH h s) s else gtH h s := by
  subst hs
  rfl
/-- firstFault -/
theorem re_ff {o h : Nat → Nat → Int32} {n : Nat} (hn : n ≤ 150) (hB : ∀ j, j < n → o 2 j = h 5 j) : ffO o n 0 3 = gtC ogG ogV h n 0 6 := by
  have e := gtC_e ogG ogV h n _ rfl
  rw [e]
  have hB2 : ∀ j, j < n → rwO o 2 j = h 5 j := hB
  have h1 : skE (rwO o 2) n (nI 32) (nI 32) 0 = skE (h 5) n (nI 32) (nI 32) 0 := sk_cg hB2 _ _ _
  have hle := (skE_le (h 5) (n := n) (i := 0) (nI 32) (nI 32) (Nat.zero_le _))
  exact ff_gt hn 150 n (rwO o) 0 (gtH h (skE (h 5) n (nI 32) (nI 32) 0)) _ hB2 (Nat.zero_le _) (by omega) h1 (by omega) rfl rfl
