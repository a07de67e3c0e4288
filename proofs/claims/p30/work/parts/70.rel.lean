/-- what is always so of a state -/
def okS (g : Nat → Nat → Int32) : Prop := okH g ∧ okT g ∧ okB g ∧ (∀ k, k < 3 → ∃ a, a ≤ 50 ∧ g 1 k = nI a) ∧ (∃ a, a < 12 ∧ g 0 4 = nI a) ∧ (∀ t, t < zt g → (∃ a, 1 ≤ a ∧ a ≤ 20 ∧ g 9 t = nI a) ∧ ∃ a, a ≤ 60 ∧ g 10 t = nI a) ∧ (∀ b, b < zb g → ∀ k, k < 3 → ¬ g 12 (3 * b + k) = (-1) → ∃ j, j < 8 ∧ g 12 (3 * b + k) = nI j) ∧ (∀ s, s < 8 → ∀ t, t < zh g s → (∃ a, a < 3 ∧ g 6 (s * 6 + t) = nI a) ∧ ∃ a, 1 ≤ a ∧ a ≤ 100 ∧ g 7 (s * 6 + t) = nI a) ∧ ∀ s, s < 8 → g 3 s = nI 0 ∨ g 3 s = nI 1
/-- the row says what the state says -/
def reS (g : Nat → Nat → Int32) (f : Nat → Int32) : Prop := f 0 = g 0 0 ∧ (∀ k, k < 3 → f (1 + k) = g 1 k) ∧ f 4 = g 0 1 ∧ f 5 = g 0 2 ∧ f 6 = vSum (g 5) 0 8 ∧ f 7 = g 0 3 ∧ f 8 = g 0 4 ∧ f 9 = g 0 5 ∧ f 10 = g 0 6 ∧ f 11 = g 0 7 ∧ (∀ s, s < 8 → f (12 + s) = g 2 s ∧ f (20 + s) = g 3 s ∧ f (28 + s) = g 4 s ∧ f (36 + s) = g 5 s ∧ ∀ t, t < zh g s → f (44 + 6 * s + t) = g 6 (s * 6 + t) ∧ f (92 + 6 * s + t) = g 7 (s * 6 + t)) ∧ (∀ t, t < zt g → f (140 + t) = g 9 t ∧ f (145 + t) = g 10 t ∧ f (150 + t) = g 11 t) ∧ ∀ i, i < 3 * zb g → f (155 + i) = g 12 i
theorem re_zh {g : Nat → Nat → Int32} {f : Nat → Int32} (H : reS g f) {s : Nat} (hs : s < 8) : zhm f s = zh g s := by
  unfold zhm zh
  rw [(H.2.2.2.2.2.2.2.2.2.2.1 s hs).1]
theorem re_zt {g : Nat → Nat → Int32} {f : Nat → Int32} (H : reS g f) : ztm f = zt g := by
  unfold ztm zt
  rw [H.2.2.2.2.2.2.2.2.1]
theorem re_zb {g : Nat → Nat → Int32} {f : Nat → Int32} (H : reS g f) : zbm f = zb g := by
  unfold zbm zb
  rw [H.2.2.2.2.2.2.2.2.2.1]
/-- a number of the class's refusals, and of what the model throws: 1 index, 2 argument, 3 state; ix: is there an index to be refused -/
theorem not_le32 {a b : Int32} : ¬ a ≤ b ↔ b < a := Int32.not_le
theorem not_lt32 {a b : Int32} : ¬ a < b ↔ b ≤ a := Int32.not_lt
/-- numbers change, stacks and tools do not -/
theorem re_low {g g' : Nat → Nat → Int32} {f f' : Nat → Int32} (H : reS g f) (hg : ∀ r, r ≠ 0 → r ≠ 1 → g' r = g r) (hzt : g' 0 6 = g 0 6) (hzb : zb g' ≤ zb g) (hf : ∀ j, 12 ≤ j → f' j = f j) (e0 : f' 0 = g' 0 0) (e1 : ∀ k, k < 3 → f' (1 + k) = g' 1 k) (e4 : f' 4 = g' 0 1) (e5 : f' 5 = g' 0 2) (e6 : f' 6 = f 6) (e7 : f' 7 = g' 0 3) (e8 : f' 8 = g' 0 4) (e9 : f' 9 = g' 0 5) (e10 : f' 10 = f 10) (e11 : f' 11 = g' 0 7) : reS g' f' := by
  obtain ⟨r0, r1, r2, r3, r4, r5, r6, r7, r8, r9, r10, r11, r12⟩ := H
  have q2 := hg 2 (by decide) (by decide)
  have q5 := hg 5 (by decide) (by decide)
  have ez : ∀ s, zh g' s = zh g s := fun s => by unfold zh; rw [q2]
  have et : zt g' = zt g := by unfold zt; rw [hzt]
  refine ⟨e0, e1, e4, e5, by rw [e6, r4, q5], e7, e8, e9, by rw [e10, r8, hzt], e11, fun s hs => ?_, fun t ht => ?_, fun i hi => ?_⟩
  · obtain ⟨b1, b2, b3, b4, b5⟩ := r10 s hs
    rw [hf _ (by omega), hf _ (by omega), hf _ (by omega), hf _ (by omega), q2, q5, hg 3 (by decide) (by decide), hg 4 (by decide) (by decide), hg 6 (by decide) (by decide), hg 7 (by decide) (by decide), ez]
    refine ⟨b1, b2, b3, b4, fun t ht => ?_⟩
    rw [hf _ (by omega), hf _ (by omega)]
    exact b5 t ht
  · rw [et] at ht
    rw [hf _ (by omega), hf _ (by omega), hf _ (by omega), hg 9 (by decide) (by decide), hg 10 (by decide) (by decide), hg 11 (by decide) (by decide)]
    exact r11 t ht
  · rw [hf _ (by omega), hg 12 (by decide) (by decide)]
    exact r12 i (by omega)
theorem ok_low {g g' : Nat → Nat → Int32} (O : okS g) (hg : ∀ r, r ≠ 0 → r ≠ 1 → g' r = g r) (hzt : g' 0 6 = g 0 6) (hB : okB g') (hzb : zb g' ≤ zb g) (h1 : ∀ k, k < 3 → ∃ a, a ≤ 50 ∧ g' 1 k = nI a) (h4 : ∃ a, a < 12 ∧ g' 0 4 = nI a) : okS g' := by
  obtain ⟨o1, o2, o3, o5, o6, o7, o8, o9, o10⟩ := O
  have q2 := hg 2 (by decide) (by decide)
  have ez : ∀ s, zh g' s = zh g s := fun s => by unfold zh; rw [q2]
  have et : zt g' = zt g := by unfold zt; rw [hzt]
  refine ⟨fun s hs => ?_, okT_of hzt o2, hB, h1, h4, fun t ht => ?_, fun b hb k hk => ?_, fun s hs t ht => ?_, fun s hs => ?_⟩
  · rw [ez, q2]; exact o1 s hs
  · rw [et] at ht
    rw [hg 9 (by decide) (by decide), hg 10 (by decide) (by decide)]
    exact o7 t ht
  · rw [hg 12 (by decide) (by decide)]
    exact o8 b (by omega) k hk
  · rw [ez] at ht
    rw [hg 6 (by decide) (by decide), hg 7 (by decide) (by decide)]
    exact o9 s hs t ht
  · rw [hg 3 (by decide) (by decide)]
    exact o10 s hs
/-- addSnow -/
theorem re_as {g : Nat → Nat → Int32} {f : Nat → Int32} (O : okS g) (H : reS g f) {u : Nat} (hu : u < 2 ^ 32) : (srC g (nI u) = nI 2 ∧ asT f u = 1) ∨ (srC g (nI u) = nI 3 ∧ asT f u = 2) ∨ (srC g (nI u) = nI 0 ∧ asT f u = 0 ∧ okS (tsG g (nI u)) ∧ reS (tsG g (nI u)) (asF f u) ∧ tsG g (nI u) 0 0 = f 0 + nI u) := by
  have e0 := H.1
  unfold srC asT
  by_cases h1 : wi (nI u) (nI 1) (nI 9999) = 0
  · rw [if_pos h1, if_pos h1]; exact Or.inl ⟨rfl, rfl⟩
  rw [if_neg h1, if_neg h1, e0]
  by_cases h2 : g 0 0 + nI u ≤ nI 9999
  · rw [if_pos h2, if_neg (not_lt32.mpr h2)]
    have hu9 : ∀ j, j ≠ 0 → asF f u j = f j := fun j hj => pk_un hj
    have hl : ∀ r, r ≠ 0 → r ≠ 1 → tsG g (nI u) r = g r := fun r h0 h1 => if_neg h0
    refine Or.inr (Or.inr ⟨rfl, rfl, ok_low O hl rfl O.2.2.1 (Nat.le_refl _) O.2.2.2.1 O.2.2.2.2.1, re_low H hl rfl (Nat.le_refl _) (fun j hj => hu9 j (by omega)) ?_ (fun j hj => (hu9 _ (by omega)).trans (H.2.1 j hj)) ((hu9 _ (by omega)).trans H.2.2.1) ((hu9 _ (by omega)).trans H.2.2.2.1) (hu9 _ (by omega)) ((hu9 _ (by omega)).trans H.2.2.2.2.2.1) ((hu9 _ (by omega)).trans H.2.2.2.2.2.2.1) ((hu9 _ (by omega)).trans H.2.2.2.2.2.2.2.1) (hu9 _ (by omega)) ((hu9 _ (by omega)).trans H.2.2.2.2.2.2.2.2.2.1), rfl⟩)
    show f 0 + nI u = g 0 0 + nI u
    rw [e0]
  · rw [if_neg h2, if_pos (not_le32.mp h2)]
    exact Or.inr (Or.inl ⟨rfl, rfl⟩)
/-- press -/
theorem re_pr {g : Nat → Nat → Int32} {f : Nat → Int32} (O : okS g) (H : reS g f) {k b : Nat} (hk : k < 2 ^ 32) (hb : b < 2 ^ 32) : (prC g k (nI b) = nI 2 ∧ prT f k b = 1) ∨ (prC g k (nI b) = nI 3 ∧ prT f k b = 2) ∨ (k < 3 ∧ prC g k (nI b) = nI 0 ∧ prT f k b = 0 ∧ okS (mkG g k (nI b)) ∧ reS (mkG g k (nI b)) (prF f k b) ∧ mkG g k (nI b) 1 k = prF f k b (1 + k)) := by
  have e0 := H.1
  unfold prC prT
  by_cases h1 : isK (nI k) = 0
  · rw [if_pos (show wi (nI k) (nI 0) (nI 2) = 0 from h1), if_pos h1]; exact Or.inl ⟨rfl, rfl⟩
  rw [if_neg (show ¬ wi (nI k) (nI 0) (nI 2) = 0 from h1), if_neg h1]
  by_cases h2 : wi (nI b) (nI 1) (nI 50) = 0
  · rw [if_pos h2, if_pos h2]; exact Or.inl ⟨rfl, rfl⟩
  rw [if_neg h2, if_neg h2]
  have hk3 := isK_lt hk h1
  have hb2 := wi_lt hb (by omega) (by omega) h2
  obtain ⟨d, hd, ed⟩ := O.2.2.2.1 k hk3
  have e1 := H.2.1 k hk3
  have em : nI b * nI 100 = nI (100 * b) := by rw [pk_mul, Nat.mul_comm]
  rw [em, e0, e1, ed, nI_add]
  by_cases c1 : nI (100 * b) ≤ g 0 0
  · rw [if_pos c1, if_neg (not_lt32.mpr c1)]
    by_cases h4 : d + b ≤ 50
    · have c2 : nI (d + b) ≤ nI 50 := (nI_leI (by omega) (by omega)).mpr h4
      rw [if_pos c2, if_neg (not_lt32.mpr c2)]
      have u0 : prF f k b 0 = f 0 - nI (100 * b) := (pk_un (by omega)).trans ((pk_un (by omega)).trans (if_pos rfl))
      have u4 : prF f k b 4 = f 4 + nI b := by
        show upd _ 4 _ 4 = _
        rw [show ∀ (F : Nat → Int32) (v : Int32), upd F 4 v 4 = v from fun F v => if_pos rfl, pk_un (by omega), pk_un (by omega)]
      have uk : ∀ j, j < 3 → prF f k b (1 + j) = if j = k then f (1 + k) + nI b else f (1 + j) := fun j hj => by
        have a1 : prF f k b (1 + j) = upd (upd f 0 (f 0 - nI (100 * b))) (1 + k) (upd f 0 (f 0 - nI (100 * b)) (1 + k) + nI b) (1 + j) := pk_un (by omega)
        rw [a1]
        by_cases q : j = k
        · subst q
          rw [if_pos rfl, show ∀ (F : Nat → Int32) (v : Int32), upd F (1 + j) v (1 + j) = v from fun F v => if_pos rfl, pk_un (by omega)]
        · rw [if_neg q, pk_un (by omega), pk_un (by omega)]
      have uo : ∀ j, 5 ≤ j → prF f k b j = f j := fun j hj => (pk_un (by omega)).trans ((pk_un (by omega)).trans (pk_un (by omega)))
      have s1 : ∀ j, j < 3 → mkG g k (nI b) 1 j = if j = k then g 1 k + nI b else g 1 j := fun j hj => rfl
      refine Or.inr (Or.inr ⟨hk3, rfl, rfl, ok_low O (fun r h0 h1 => (if_neg h1).trans (if_neg h0)) rfl O.2.2.1 (Nat.le_refl _) (fun j hj => ?_) O.2.2.2.2.1, re_low H (fun r h0 h1 => (if_neg h1).trans (if_neg h0)) rfl (Nat.le_refl _) (fun j hj => uo j (by omega)) ?_ (fun j hj => ?_) ?_ ((uo 5 (by omega)).trans H.2.2.2.1) (uo 6 (by omega)) ((uo 7 (by omega)).trans H.2.2.2.2.2.1) ((uo 8 (by omega)).trans H.2.2.2.2.2.2.1) ((uo 9 (by omega)).trans H.2.2.2.2.2.2.2.1) (uo 10 (by omega)) ((uo 11 (by omega)).trans H.2.2.2.2.2.2.2.2.2.1), ?_⟩)
      · rw [s1 j hj]
        by_cases q : j = k
        · rw [if_pos q, ed, nI_add]; exact ⟨d + b, h4, rfl⟩
        · rw [if_neg q]; exact O.2.2.2.1 j hj
      · rw [u0, e0]
        show g 0 0 - nI (100 * b) = g 0 0 - nI b * nI 100
        rw [em]
      · rw [uk j hj, s1 j hj, e1, H.2.1 j hj]
      · rw [u4, H.2.2.1]; rfl
      · rw [uk k hk3, s1 k hk3, if_pos rfl, if_pos rfl, e1]
    · have c2 : ¬ nI (d + b) ≤ nI 50 := fun q => h4 ((nI_leI (by omega) (by omega)).mp q)
      rw [if_neg c2, if_pos (not_le32.mp c2)]
      exact Or.inr (Or.inl ⟨rfl, rfl⟩)
  · rw [if_neg c1, if_pos (not_le32.mp c1)]
    exact Or.inr (Or.inl ⟨rfl, rfl⟩)
/-- recycle -/
theorem re_rc {g : Nat → Nat → Int32} {f : Nat → Int32} (O : okS g) (H : reS g f) : obU g = reN f ∧ okS (obG g) ∧ reS (obG g) (reF f) := by
  have e0 := H.1
  have e5 := H.2.2.2.1
  have eu : obU g = reN f := by
    unfold obU reN
    rw [e0, e5]
    by_cases q : nI 9999 - g 0 0 < g 0 2
    · rw [if_pos q, if_pos (Int32.le_of_lt q)]
    · rw [if_neg q]
      by_cases q2 : nI 9999 - g 0 0 ≤ g 0 2
      · rw [if_pos q2]
        exact Int32.le_antisymm (not_lt32.mp q) q2
      · rw [if_neg q2]
  have u5 : reF f 5 = f 5 - reN f := (pk_un (by omega)).trans ((pk_un (by omega)).trans (if_pos rfl))
  have u0 : reF f 0 = f 0 + reN f := by
    have a1 : reF f 0 = upd f 5 (f 5 - reN f) 0 + reN f := (pk_un (by omega)).trans (if_pos rfl)
    rw [a1, pk_un (by omega)]
  have u7 : reF f 7 = f 7 + reN f := by
    have a1 : reF f 7 = upd (upd f 5 (f 5 - reN f)) 0 (upd f 5 (f 5 - reN f) 0 + reN f) 7 + reN f := by
      unfold reF
      exact if_pos rfl
    rw [a1, pk_un (by omega), pk_un (by omega)]
  have uo : ∀ j, j ≠ 0 → j ≠ 5 → j ≠ 7 → reF f j = f j := fun j h1 h2 h3 => (pk_un h3).trans ((pk_un h1).trans (pk_un h2))
  refine ⟨eu, ok_low O (fun r h0 h1 => if_neg h0) rfl O.2.2.1 (Nat.le_refl _) O.2.2.2.1 O.2.2.2.2.1, re_low H (fun r h0 h1 => if_neg h0) rfl (Nat.le_refl _) (fun j hj => uo j (by omega) (by omega) (by omega)) ?_ (fun j hj => (uo _ (by omega) (by omega) (by omega)).trans (H.2.1 j hj)) ((uo 4 (by omega) (by omega) (by omega)).trans H.2.2.1) ?_ (uo 6 (by omega) (by omega) (by omega)) ?_ ((uo 8 (by omega) (by omega) (by omega)).trans H.2.2.2.2.2.2.1) ((uo 9 (by omega) (by omega) (by omega)).trans H.2.2.2.2.2.2.2.1) (uo 10 (by omega) (by omega) (by omega)) ((uo 11 (by omega) (by omega) (by omega)).trans H.2.2.2.2.2.2.2.2.2.1)⟩
  · rw [u0, e0, ← eu]; rfl
  · rw [u5, e5, ← eu]; rfl
  · rw [u7, H.2.2.2.2.2.1, ← eu]; rfl

