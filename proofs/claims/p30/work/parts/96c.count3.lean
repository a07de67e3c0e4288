/-! the count, on: a second count changes nothing; what isCountSo asks -/
theorem tk0_v (g c : Nat → Nat → Int32) : tk0 g c 0 0 = nI 0 ∧ tk0 g c 0 1 = (-1) ∧ (∀ i, 2 ≤ i → tk0 g c 0 i = c 0 i) ∧ tk0 g c 1 = sdI g (c 1) 8 ∧ ∀ x, 2 ≤ x → tk0 g c x = c x := by
  refine ⟨rfl, rfl, fun i hi => ?_, rfl, fun x hx => ?_⟩
  · show upd (upd (c 0) 0 _) 1 _ i = c 0 i
    rw [pk_un (by omega), pk_un (by omega)]
  · show (if x = 1 then _ else if x = 0 then _ else c x) = c x
    rw [if_neg (by omega), if_neg (by omega)]
theorem tk_m {g : Nat → Nat → Int32} {f : Nat → Int32} (O : okS g) (H : reS g f) (c : Nat → Nat → Int32) : cnS (tk0 g c 1) 8 = cmM f 8 := by
  rw [(tk0_v g c).2.2.2.1]
  exact (sc_cm O H (c 1) 8 (Nat.le_refl _)).2
theorem tk_id {g : Nat → Nat → Int32} {f : Nat → Int32} (O : okS g) (H : reS g f) (c : Nat → Nat → Int32) : tkC g (tkC g c) = tkC g c := by
  by_cases c0 : scN g 8 = 0
  · have e : ∀ c, tkC g c = tk0 g c := fun c => if_pos c0
    rw [e c, e (tk0 g c)]
    obtain ⟨a1, a2, a3, a4, a5⟩ := tk0_v g c
    obtain ⟨b1, b2, b3, b4, b5⟩ := tk0_v g (tk0 g c)
    funext x i
    rcases (show x = 0 ∨ x = 1 ∨ 2 ≤ x by omega) with rfl | rfl | q
    · rcases (show i = 0 ∨ i = 1 ∨ 2 ≤ i by omega) with rfl | rfl | q2
      · rw [b1, a1]
      · rw [b2, a2]
      · rw [b3 i q2]
    · rw [b4, a4]
      rcases Nat.lt_or_ge i 8 with q | q
      · rw [sd_v g _ 8 i q, sd_v g _ 8 i q]
      · rw [sd_hi 8 i q]
    · rw [b5 x q]
  · have e : ∀ c, tkC g c = tkR g 8 0 (tk0 g c) := fun c => if_neg c0
    rw [e c, e (tkR g 8 0 (tk0 g c))]
    have h20 := O.2.2.1.2
    have hm8 := cm_le f 8
    have hm1 : 1 ≤ cmM f 8 := by
      rcases Nat.eq_zero_or_pos (cmM f 8) with q | q
      · exfalso
        apply c0
        rw [(sc_cm O H (c 1) 8 (Nat.le_refl _)).1, q]
        rfl
      · exact q
    obtain ⟨a1, a2, a3, a4, a5⟩ := tk0_v g c
    obtain ⟨R, w, r1, r2, r3, r4, r5, r6, r7, r8, r9, r10, -, -⟩ := ct1 h20 8 0 (tk0 g c) (cmM f 8) (tk_m O H c) hm1 hm8
    have hc2 := fun c9 => ct2 h20 8 0 (tk0 g c9) (tk0 g c) (cmM f 8) (by omega) (fun i hi => by rw [(tk0_v g c9).2.2.2.1, a4, sd_v g _ 8 i hi, sd_v g _ 8 i hi]) (fun j hj => absurd hj (by omega)) (tk_m O H c9) hm1 hm8
    generalize tkR g 8 0 (tk0 g c) = T at r4 r5 r6 r7 r8 r9 r10 hc2 ⊢
    obtain ⟨k1, k2, k3, k4, k5⟩ := hc2 T
    obtain ⟨b1, b2, b3, b4, b5⟩ := tk0_v g T
    obtain ⟨R2, w2, s1, s2, s3, s4, s5, s6, s7, s8, s9, s10, -, -⟩ := ct1 h20 8 0 (tk0 g T) (cmM f 8) (tk_m O H T) hm1 hm8
    generalize tkR g 8 0 (tk0 g T) = T2 at s4 s5 s6 s7 s8 s9 s10 k1 k2 k3 k4 k5 ⊢
    funext x i
    rcases (show x = 0 ∨ x = 1 ∨ x = 2 ∨ 3 ≤ x by omega) with rfl | rfl | rfl | q
    · rcases (show i = 0 ∨ i = 1 ∨ i = 2 ∨ 3 ≤ i by omega) with rfl | rfl | rfl | q2
      · exact k1
      · exact k2
      · exact k3
      · rw [s8 i q2, b3 i (by omega)]
    · rcases Nat.lt_or_ge i 8 with q | q
      · exact k4 i q
      · rw [s9 i q, b4, sd_hi 8 i q]
    · rcases Nat.lt_or_ge i (R2 * 8) with q | q
      · exact k5 R2 (by omega) s4 i q
      · rw [s7 i q, b5 2 (by omega)]
    · rw [s10 x q, b5 x (by omega)]
theorem sg_v {F sd : Nat → Int32} {v : Nat → Nat} : ∀ n, (∀ i, i < n → F i = if sd i = 0 then (-1) else nI (v i)) → ∃ x, x ≤ smS v n ∧ sgI F n = nI x
  | 0, _ => ⟨0, Nat.le_refl _, rfl⟩
  | n + 1, h => by
    obtain ⟨x, hx, e⟩ := sg_v (F := F) (sd := sd) (v := v) n (fun i hi => h i (by omega))
    have e1 : sgI F (n + 1) = sgI F n + (if F n ≤ 0 then nI 0 else F n) := rfl
    have e2 : smS v (n + 1) = smS v n + v n := rfl
    rw [e1, e, e2]
    by_cases c : F n ≤ 0
    · rw [if_pos c]
      exact ⟨x, by omega, Int32.add_zero _⟩
    · rw [if_neg c]
      have hn := h n (by omega)
      by_cases d : sd n = 0
      · exfalso
        rw [if_pos d] at hn
        rw [hn] at c
        exact c (by decide +kernel)
      · rw [if_neg d] at hn
        rw [hn, nI_add]
        exact ⟨x + v n, by omega, rfl⟩
theorem st_v {F sd : Nat → Int32} {v : Nat → Nat} : ∀ n, (∀ i, i < n → v i < 2 ^ 31) → (∀ i, i < n → F i = if sd i = 0 then (-1) else nI (v i)) → stI F n = nI (cnS sd n)
  | 0, _, _ => rfl
  | n + 1, hv, h => by
    have e1 : stI F (n + 1) = stI F n + (if F n = (-1) then nI 0 else nI 1) := rfl
    have e2 : cnS sd (n + 1) = cnS sd n + (if sd n = 0 then 0 else 1) := rfl
    rw [e1, e2, st_v n (fun i hi => hv i (by omega)) (fun i hi => h i (by omega)), h n (by omega)]
    by_cases d : sd n = 0
    · rw [if_pos d, if_pos d, if_pos rfl, nI_add]
    · rw [if_neg d, if_neg d, if_neg (nI_nm1 (hv n (by omega))), nI_add]
/-- what isCountSo asks -/
theorem ct_so {g : Nat → Nat → Int32} {f : Nat → Int32} (O : okS g) (H : reS g f) (c C : Nat → Nat → Int32) (hC : tkC g c = C) : tkC g C = C ∧ ((scN g 8 = nI 0 ∧ C 0 0 = nI 0 ∧ C 0 1 = (-1)) ∨ ∃ r m w, 1 ≤ r ∧ m ≤ 8 ∧ r ≤ m ∧ w < 8 ∧ scN g 8 = nI m ∧ C 0 0 = nI r ∧ C 0 1 = nI w ∧ (∀ r9, r9 < r → sgI (fun s => vsC g C r9 s) 8 ≤ g 0 7) ∧ (∀ r9, r9 < r → stI (fun s => vsC g C r9 s) 8 = nI m - nI r9) ∧ ¬ vsC g C (r - 1) w = (-1)) := by
  have hid := tk_id O H c
  rw [hC] at hid
  refine ⟨hid, ?_⟩
  by_cases c0 : scN g 8 = 0
  · have e : tkC g c = tk0 g c := if_pos c0
    obtain ⟨a1, a2, -⟩ := tk0_v g c
    rw [← hC, e]
    exact Or.inl ⟨c0, a1, a2⟩
  · have e : tkC g c = tkR g 8 0 (tk0 g c) := if_neg c0
    have h20 := O.2.2.1.2
    have h7 : g 0 7 = nI (zb g) := O.2.2.1.1
    have hm8 := cm_le f 8
    have esc := (sc_cm O H (c 1) 8 (Nat.le_refl _)).1
    have hm1 : 1 ≤ cmM f 8 := by
      rcases Nat.eq_zero_or_pos (cmM f 8) with q | q
      · exfalso
        apply c0
        rw [esc, q]
        rfl
      · exact q
    obtain ⟨R, w, r1, r2, r3, r4, r5, -, -, -, -, -, r11, r12⟩ := ct1 h20 8 0 (tk0 g c) (cmM f 8) (tk_m O H c) hm1 hm8
    rw [← e, hC] at r4 r5 r11 r12
    have vs : ∀ r9 s, r9 < R → vsC g C r9 s = C 2 (r9 * 8 + s) := fun r9 s h9 => by
      unfold vsC
      rw [hid, r4, if_neg (by rw [nI_leI (by omega) (by omega)]; omega)]
    refine Or.inr ⟨R, cmM f 8, w, by omega, hm8, by omega, r3, esc, r4, r5, fun r9 h9 => ?_, fun r9 h9 => ?_, ?_⟩
    · obtain ⟨sd, v, v1, v2, v3⟩ := r11 r9 (by omega) h9
      obtain ⟨x, hx, ex⟩ := sg_v (F := fun s => vsC g C r9 s) (sd := sd) (v := v) 8 (fun i hi => by
        show vsC g C r9 i = _
        rw [vs r9 i h9, v3 i hi])
      rw [ex, h7, nI_leI (by omega) (by omega)]
      omega
    · obtain ⟨sd, v, v1, v2, v3⟩ := r11 r9 (by omega) h9
      rw [st_v (F := fun s => vsC g C r9 s) (sd := sd) (v := v) 8 (fun i hi => by
        have := smS_1 (v := v) 8 hi
        omega) (fun i hi => by
        show vsC g C r9 i = _
        rw [vs r9 i h9, v3 i hi]), pk_sub (by omega)]
      congr 1
      omega
    · rw [vs (R - 1) w (by omega)]
      exact r12
