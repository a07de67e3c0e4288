theorem dd_1 {K V : Nat → Int32} {f : Nat → Int32} {s n : Nat} (hs : s < 8) (hn : n ≤ 6) (hK : ∀ i, i < n → f (44 + 6 * s + i) = K (s * 6 + i)) (hV : ∀ i, i < n → f (92 + 6 * s + i) = V (s * 6 + i)) : ∀ i, i ≤ n → (drI K V (s * 6) i).1 = (dmI f s i).1 ∧ (drI K V (s * 6) i).1 ≤ i ∧ (∀ t, t < (drI K V (s * 6) i).1 → (dmI f s i).2 (44 + 6 * s + t) = (drI K V (s * 6) i).2.1 (s * 6 + t) ∧ (dmI f s i).2 (92 + 6 * s + t) = (drI K V (s * 6) i).2.2 (s * 6 + t) ∧ ∃ j, j < n ∧ (drI K V (s * 6) i).2.1 (s * 6 + t) = K (s * 6 + j) ∧ (drI K V (s * 6) i).2.2 (s * 6 + t) = V (s * 6 + j) ∧ ¬ V (s * 6 + j) ≤ 0) ∧ (∀ j, j < s * 6 ∨ s * 6 + i ≤ j → (drI K V (s * 6) i).2.1 j = K j ∧ (drI K V (s * 6) i).2.2 j = V j) ∧ (∀ j, j < 44 + 6 * s ∨ (44 + 6 * s + i ≤ j ∧ j < 92 + 6 * s) ∨ 92 + 6 * s + i ≤ j → (dmI f s i).2 j = f j)
  | 0, _ => ⟨rfl, Nat.le_refl 0, fun t ht => absurd ht (Nat.not_lt_zero _), fun j _ => ⟨rfl, rfl⟩, fun j _ => rfl⟩
  | i + 1, hi => by
    have IH := dd_1 hs hn hK hV i (by omega)
    have eA : drI K V (s * 6) (i + 1) = if (drI K V (s * 6) i).2.2 (s * 6 + i) ≤ 0 then drI K V (s * 6) i else ((drI K V (s * 6) i).1 + 1, upd (drI K V (s * 6) i).2.1 (s * 6 + (drI K V (s * 6) i).1) ((drI K V (s * 6) i).2.1 (s * 6 + i)), upd (drI K V (s * 6) i).2.2 (s * 6 + (drI K V (s * 6) i).1) ((drI K V (s * 6) i).2.2 (s * 6 + i))) := rfl
    have eB : dmI f s (i + 1) = (if (upd (upd (dmI f s i).2 (44 + (6 * s + (dmI f s i).1)) ((dmI f s i).2 (44 + (6 * s + i)))) (92 + (6 * s + (dmI f s i).1)) ((upd (dmI f s i).2 (44 + (6 * s + (dmI f s i).1)) ((dmI f s i).2 (44 + (6 * s + i)))) (92 + (6 * s + i)))) (92 + (6 * s + (dmI f s i).1)) ≤ 0 then (dmI f s i).1 else (dmI f s i).1 + 1, upd (upd (dmI f s i).2 (44 + (6 * s + (dmI f s i).1)) ((dmI f s i).2 (44 + (6 * s + i)))) (92 + (6 * s + (dmI f s i).1)) ((upd (dmI f s i).2 (44 + (6 * s + (dmI f s i).1)) ((dmI f s i).2 (44 + (6 * s + i)))) (92 + (6 * s + i)))) := rfl
    rw [eA, eB]
    generalize drI K V (s * 6) i = A at IH ⊢
    generalize dmI f s i = B at IH ⊢
    obtain ⟨d, F⟩ := B
    obtain ⟨d', K', V'⟩ := A
    obtain ⟨i1, i2, i3, i4, i5⟩ := IH
    dsimp only at i1 i2 i3 i4 i5 ⊢
    subst i1
    have vi : V' (s * 6 + i) = V (s * 6 + i) := (i4 _ (Or.inr (Nat.le_refl _))).2
    have ki : K' (s * 6 + i) = K (s * 6 + i) := (i4 _ (Or.inr (Nat.le_refl _))).1
    have fk : F (44 + (6 * s + i)) = K (s * 6 + i) := by rw [i5 _ (by omega), ← Nat.add_assoc, hK i (by omega)]
    have fv : F (92 + (6 * s + i)) = V (s * 6 + i) := by rw [i5 _ (by omega), ← Nat.add_assoc, hV i (by omega)]
    rw [pk_us, pk_un (show 92 + (6 * s + i) ≠ 44 + (6 * s + d') by omega), fk, fv]
    have out5 : ∀ j, j < 44 + 6 * s ∨ (44 + 6 * s + (i + 1) ≤ j ∧ j < 92 + 6 * s) ∨ 92 + 6 * s + (i + 1) ≤ j → upd (upd F (44 + (6 * s + d')) (K (s * 6 + i))) (92 + (6 * s + d')) (V (s * 6 + i)) j = f j := fun j hj => by
      rw [pk_un (by omega), pk_un (by omega)]
      exact i5 j (by omega)
    have lowF : ∀ t, t < d' → upd (upd F (44 + (6 * s + d')) (K (s * 6 + i))) (92 + (6 * s + d')) (V (s * 6 + i)) (44 + 6 * s + t) = F (44 + 6 * s + t) ∧ upd (upd F (44 + (6 * s + d')) (K (s * 6 + i))) (92 + (6 * s + d')) (V (s * 6 + i)) (92 + 6 * s + t) = F (92 + 6 * s + t) := fun t ht => by
      rw [pk_un (by omega), pk_un (by omega), pk_un (by omega), pk_un (by omega)]
      exact ⟨rfl, rfl⟩
    by_cases c : V (s * 6 + i) ≤ 0
    · have c' : V' (s * 6 + i) ≤ 0 := by rw [vi]; exact c
      rw [if_pos c', if_pos c]
      dsimp only
      refine ⟨rfl, by omega, fun t ht => ?_, fun j hj => i4 j (by omega), out5⟩
      obtain ⟨l1, l2⟩ := lowF t ht
      rw [l1, l2]
      exact i3 t ht
    · have c' : ¬ V' (s * 6 + i) ≤ 0 := by rw [vi]; exact c
      rw [if_neg c', if_neg c, vi, ki]
      dsimp only
      refine ⟨rfl, by omega, fun t ht => ?_, fun j hj => ?_, out5⟩
      · by_cases q : t = d'
        · subst q
          rw [pk_un (show 44 + 6 * s + t ≠ 92 + (6 * s + t) by omega), ← Nat.add_assoc, pk_us, ← Nat.add_assoc, pk_us, pk_us, pk_us]
          exact ⟨rfl, rfl, i, by omega, rfl, rfl, c⟩
        · obtain ⟨l1, l2⟩ := lowF t (by omega)
          rw [l1, l2, pk_un (show s * 6 + t ≠ s * 6 + d' by omega), pk_un (show s * 6 + t ≠ s * 6 + d' by omega)]
          exact i3 t (by omega)
      · rw [pk_un (by omega), pk_un (by omega)]
        exact i4 j (by omega)
/-- the site's part of the relation, without how much has melted -/
def siR (g : Nat → Nat → Int32) (f : Nat → Int32) (s : Nat) : Prop := f (12 + s) = g 2 s ∧ f (20 + s) = g 3 s ∧ f (28 + s) = g 4 s ∧ ∀ t, t < zh g s → f (44 + 6 * s + t) = g 6 (s * 6 + t) ∧ f (92 + 6 * s + t) = g 7 (s * 6 + t)
/-- a site dropped: the class's and the model's -/
theorem re_dr {g : Nat → Nat → Int32} {f : Nat → Int32} {s : Nat} (hs : s < 8) (hz : g 2 s = nI (zh g s) ∧ zh g s ≤ 6) (H : siR g f s) (hk : ∀ t, t < zh g s → (∃ a, a < 3 ∧ g 6 (s * 6 + t) = nI a) ∧ ∃ a, a ≤ 100 ∧ g 7 (s * 6 + t) = nI a) : siR (drG g s) (dmF f s) s ∧ (drG g s 2 s = nI (zh (drG g s) s) ∧ zh (drG g s) s ≤ 6) ∧ (∀ t, t < zh (drG g s) s → (∃ a, a < 3 ∧ drG g s 6 (s * 6 + t) = nI a) ∧ ∃ a, 1 ≤ a ∧ a ≤ 100 ∧ drG g s 7 (s * 6 + t) = nI a) ∧ (∀ j, j ≠ s → drG g s 2 j = g 2 j) ∧ (∀ j, j < s * 6 ∨ s * 6 + 6 ≤ j → drG g s 6 j = g 6 j ∧ drG g s 7 j = g 7 j) ∧ ∀ j, j ≠ 12 + s → (j < 44 + 6 * s ∨ (44 + 6 * s + 6 ≤ j ∧ j < 92 + 6 * s) ∨ 92 + 6 * s + 6 ≤ j) → dmF f s j = f j := by
  obtain ⟨h1, h2, h3, h4⟩ := H
  have ezm : zhm f s = zh g s := by unfold zhm zh; rw [h1]
  obtain ⟨d1, d2, d3, d4, d5⟩ := dd_1 hs hz.2 (fun i hi => (h4 i hi).1) (fun i hi => (h4 i hi).2) (zh g s) (Nat.le_refl _)
  have e2 : drG g s 2 s = nI (drI (g 6) (g 7) (s * 6) (zh g s)).1 := if_pos rfl
  have ez : zh (drG g s) s = (drI (g 6) (g 7) (s * 6) (zh g s)).1 := by
    unfold zh at e2 ⊢
    rw [e2]
    exact nI_clamp (by unfold zh at d2 hz; omega)
  have e6 : drG g s 6 = (drI (g 6) (g 7) (s * 6) (zh g s)).2.1 := rfl
  have e7 : drG g s 7 = (drI (g 6) (g 7) (s * 6) (zh g s)).2.2 := rfl
  have ef : ∀ j, j ≠ 12 + s → dmF f s j = (dmI f s (zh g s)).2 j := fun j hj => by
    unfold dmF
    rw [ezm]
    exact pk_un hj
  have ef2 : dmF f s (12 + s) = nI (drI (g 6) (g 7) (s * 6) (zh g s)).1 := by
    unfold dmF
    rw [ezm, pk_us, d1]
  refine ⟨⟨by rw [ef2, e2], ?_, ?_, fun t ht => ?_⟩, ⟨by rw [e2, ez], by rw [ez]; omega⟩, fun t ht => ?_, fun j hj => if_neg hj, fun j hj => ?_, fun j hj h => ?_⟩
  · rw [ef _ (by omega), d5 _ (by omega)]; exact h2
  · rw [ef _ (by omega), d5 _ (by omega)]; exact h3
  · rw [ez] at ht
    rw [ef _ (by omega), ef _ (by omega), e6, e7]
    exact ⟨(d3 t ht).1, (d3 t ht).2.1⟩
  · rw [ez] at ht
    obtain ⟨-, -, j, hj, k1, k2, k3⟩ := d3 t ht
    obtain ⟨k4, a, ha, ea⟩ := hk j hj
    rw [e6, e7, k1, k2]
    refine ⟨k4, a, ?_, ha, ea⟩
    rw [ea] at k3
    rcases Nat.eq_zero_or_pos a with rfl | q
    · exact absurd (show nI 0 ≤ 0 by decide +kernel) k3
    · exact q
  · rw [e6, e7]; exact d4 j (by omega)
  · rw [ef _ hj]; exact d5 j (by omega)

