theorem re_sc {g : Nat → Nat → Int32} {f : Nat → Int32} (H : reS g f) : ∀ s, s ≤ 8 → scN g s = scM f s
  | 0, _ => rfl
  | s + 1, h => by
    have h1 := re_sc H s (by omega)
    have h2 := (H.2.2.2.2.2.2.2.2.2.2.1 s (by omega)).1
    unfold scN scM
    rw [h1, h2]
theorem re_vm {g : Nat → Nat → Int32} {f : Nat → Int32} (H : reS g f) {s : Nat} (hs : s < 8) : ∀ t, t ≤ zh g s → vSum (g 7) (s * 6) t = vmS f s t
  | 0, _ => rfl
  | t + 1, h => by
    have h1 := re_vm H hs t (by omega)
    have h2 := ((H.2.2.2.2.2.2.2.2.2.2.1 s hs).2.2.2.2 t (by omega)).2
    unfold vSum vmS
    rw [h1, h2]
theorem re_sv {g : Nat → Nat → Int32} {f : Nat → Int32} (H : reS g f) {s : Nat} (hs : s < 8) (w : Nat) : svC g s w = svV f s w := by
  obtain ⟨b1, b2, b3, b4, -⟩ := H.2.2.2.2.2.2.2.2.2.2.1 s hs
  unfold svC svV
  rw [b1, b2, b3, b4, re_zh H hs, re_vm H hs _ (Nat.le_refl _)]
theorem re_tv {g : Nat → Nat → Int32} {f : Nat → Int32} (H : reS g f) {t : Nat} (ht : t < zt g) : ∀ w, w < 3 → tvC g t w = tvM f t w := by
  obtain ⟨b1, b2, b3⟩ := H.2.2.2.2.2.2.2.2.2.2.2.1 t ht
  intro w hw
  rcases (show w = 0 ∨ w = 1 ∨ w = 2 by omega) with rfl | rfl | rfl
  · exact b1.symm
  · exact b2.symm
  · exact b3.symm
theorem mxN_cg {F G : Nat → Int32} {h : Int64} : ∀ k, (∀ j, j < k → F j = G j) → mxN F h k = mxN G h k
  | 0, _ => rfl
  | k + 1, e => by
    have h1 := mxN_cg (F := F) (G := G) (h := h) k (fun j hj => e j (by omega))
    unfold mxN
    rw [h1, e k (by omega)]
theorem re_dt {g : Nat → Nat → Int32} {f : Nat → Int32} (H : reS g f) (h : Int64) : ∀ t, t ≤ zt g → mtL g h t = dtL f h t
  | 0, _ => rfl
  | t + 1, ht => by
    have h1 := re_dt H h t (by omega)
    unfold mtL dtL
    rw [h1]
    exact mxN_cg 3 (fun w hw => re_tv H (by omega) w hw)
theorem re_va {g : Nat → Nat → Int32} {f : Nat → Int32} (H : reS g f) : vAll g 8 = vaM f 8 := by
  have h1 : ∀ s, s ≤ 8 → vAll g s = vaM f s := by
    intro s
    induction s with
    | zero => intro _; rfl
    | succ s ih =>
      intro h
      unfold vAll vaM
      rw [ih (by omega), re_zh H (by omega), re_vm H (by omega) _ (Nat.le_refl _)]
  exact h1 8 (Nat.le_refl 8)
/-- the whole's values; n: the text's length -/
theorem re_wv {g o h : Nat → Nat → Int32} (H : reS g (h 1)) (hl : o 0 0 = h 0 4) : ∀ w, w < 16 → wvC g o w = wvM h w := by
  have hv := re_va H
  have hs := re_sc H 8 (Nat.le_refl 8)
  have hw := re_wl H 8 (Nat.le_refl 8)
  obtain ⟨r0, r1, r2, r3, r4, r5, r6, r7, r8, r9, -⟩ := H
  intro w hw9
  rcases (show w = 0 ∨ w = 1 ∨ w = 2 ∨ w = 3 ∨ w = 4 ∨ w = 5 ∨ w = 6 ∨ w = 7 ∨ w = 8 ∨ w = 9 ∨ w = 10 ∨ w = 11 ∨ w = 12 ∨ w = 13 ∨ w = 14 ∨ w = 15 by omega) with rfl | rfl | rfl | rfl | rfl | rfl | rfl | rfl | rfl | rfl | rfl | rfl | rfl | rfl | rfl | rfl
  · exact r0.symm
  · exact (r1 0 (by omega)).symm
  · exact (r1 1 (by omega)).symm
  · exact (r1 2 (by omega)).symm
  · exact r2.symm
  · exact hs
  · exact hv
  · exact r3.symm
  · exact r4.symm
  · exact r5.symm
  · exact r8.symm
  · exact hw
  · exact r6.symm
  · exact r7.symm
  · exact r9.symm
  · exact hl

