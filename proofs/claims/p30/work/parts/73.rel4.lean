theorem nI_0le (t : Nat) (h : t < 2 ^ 31) : nI 0 ≤ nI t := (nI_leI (by omega) h).mpr (Nat.zero_le t)
theorem zhA_n {g : Nat → Nat → Int32} {j : Nat} (hj : j < 8) : zhA g (nI j) = g 2 j := by
  unfold zhA
  have h0 : ¬ nI j < 0 := by
    rw [show (0 : Int32) = nI 0 from rfl, nI_ltI (by omega) (by omega)]
    omega
  have h1 : ¬ nI 8 ≤ nI j := by
    rw [nI_leI (by omega) (by omega)]
    omega
  rw [if_neg h0, if_neg h1, nI_clamp (by omega)]
theorem zhA_o {g : Nat → Nat → Int32} {x : Int32} (h : isS x = 0) : zhA g x = nI 0 := by
  unfold zhA
  by_cases h0 : x < 0
  · rw [if_pos h0]
  · rw [if_neg h0]
    by_cases h1 : nI 8 ≤ x
    · rw [if_pos h1]
    · exfalso
      obtain ⟨j, hj, rfl⟩ := nI_of h0
      rw [nI_leI (by omega) hj] at h1
      unfold isS wi at h
      rw [if_neg (show ¬ nI j < nI 0 from h0), if_neg (show ¬ nI 7 < nI j by rw [nI_ltI (by omega) hj]; omega)] at h
      exact absurd h (by decide +kernel)
theorem re_sl {g : Nat → Nat → Int32} {f : Nat → Int32} (H : reS g f) (x : Int32) {t : Nat} (ht : t < 2 ^ 31) : (if zhA g x ≤ nI t then nI 1 else nI 0) = (if slB f x t = 0 then nI 0 else nI 1) := by
  unfold slB
  by_cases q : isS x = 0
  · rw [if_pos q, zhA_o q, if_pos (nI_0le t ht)]
    decide +kernel
  · rw [if_neg q]
    obtain ⟨j, hj, rfl⟩ := isS_nat q
    rw [zhA_n hj, nI_clamp (by omega), (H.2.2.2.2.2.2.2.2.2.2.1 j hj).1]
    by_cases c : nI t < g 2 j
    · rw [if_pos c, if_neg (not_le32.mpr c)]
      decide +kernel
    · rw [if_neg c, if_pos (not_lt32.mp c)]
      decide +kernel
theorem re_fc {g : Nat → Nat → Int32} {f : Nat → Int32} (O : okS g) (H : reS g f) {s t : Nat} (hs : s < 8) (ht : t < 2 ^ 31) : fcs g s t (g 0 4) = fcM f s t := by
  obtain ⟨a, ha, ea⟩ := O.2.2.2.2.1
  have e8 := H.2.2.2.2.2.2.1
  obtain ⟨b1, b2, -⟩ := H.2.2.2.2.2.2.2.2.2.2.1 s hs
  have hw := O.2.2.2.2.2.2.2.2 s hs
  have key : fcS g s t (g 0 4) = (if slS f s t = 0 then nI 0 else nI 1) := by
    unfold fcS slS
    rw [e8, ea, b2]
    have hd : ∀ a, a < 12 → (nI a / nI 4 = nI 1 ↔ 4 ≤ a ∧ a < 8) ∧ (nI a / nI 4 = 0 ↔ a < 4) := by decide +kernel
    obtain ⟨d1, d2⟩ := hd a ha
    by_cases c1 : a < 4
    · rw [if_neg (show ¬ nI 4 ≤ nI a by rw [nI_leI (by omega) (by omega)]; omega), if_neg (show ¬ nI a / nI 4 = nI 1 from fun q => by have := d1.mp q; omega), if_pos (d2.mpr c1), nI_add]
      exact re_sl H _ ht
    · rw [if_pos (show nI 4 ≤ nI a by rw [nI_leI (by omega) (by omega)]; omega)]
      by_cases c2 : a < 8
      · rw [if_neg (show ¬ nI 8 ≤ nI a by rw [nI_leI (by omega) (by omega)]; omega), if_pos (d1.mpr ⟨by omega, c2⟩)]
        rcases hw with w0 | w1
        · rw [w0]; decide +kernel
        · rw [w1]; decide +kernel
      · rw [if_pos (show nI 8 ≤ nI a by rw [nI_leI (by omega) (by omega)]; omega), if_neg (show ¬ nI a / nI 4 = nI 1 from fun q => by have := d1.mp q; omega), if_neg (show ¬ nI a / nI 4 = 0 from fun q => by have := d2.mp q; omega)]
        exact re_sl H _ ht
  unfold fcs fcM
  rw [key, b1]
theorem re_bv {g : Nat → Nat → Int32} {f : Nat → Int32} (O : okS g) (H : reS g f) {s v : Nat} (hs : s < 8) (hv : v < 6) : ∀ w, w < 3 → bvC g s v w = bvM f s v w := by
  obtain ⟨b1, b2, b3, b4, b5⟩ := H.2.2.2.2.2.2.2.2.2.2.1 s hs
  have hz := O.1 s hs
  intro w hw
  unfold bvC bvM hbl
  rw [zhA_n hs, b1]
  have h0 : ¬ nI v < 0 := by
    rw [show (0 : Int32) = nI 0 from rfl, nI_ltI (by omega) (by omega)]
    omega
  rw [if_neg h0]
  by_cases c : nI v < g 2 s
  · rw [if_neg (not_le32.mpr c), if_neg (show ¬ nI 1 = 0 by decide +kernel), if_pos c]
    have hvz : v < zh g s := by
      rw [hz.1, nI_ltI (by omega) (by omega)] at c
      exact c
    obtain ⟨k1, k2⟩ := b5 v hvz
    rcases (show w = 0 ∨ w = 1 ∨ w = 2 by omega) with rfl | rfl | rfl
    · rw [if_pos (show nI 0 = 0 from rfl), if_pos (show nI 0 = 0 from rfl), ← k1, Nat.add_assoc]
    · rw [if_neg (show ¬ nI 1 = 0 by decide +kernel), if_neg (show ¬ nI 1 = 0 by decide +kernel), if_pos (show nI 1 = 1 from rfl), if_pos rfl, ← k2, Nat.add_assoc]
    · rw [if_neg (show ¬ nI 2 = 0 by decide +kernel), if_neg (show ¬ nI 2 = 0 by decide +kernel), if_neg (show ¬ nI 2 = 1 by decide +kernel), if_neg (show ¬ nI 2 = nI 1 by decide +kernel)]
      exact re_fc O H hs (by omega)
  · rw [if_pos (not_lt32.mp c), if_pos (show nI 0 = 0 from rfl), if_neg c]

