theorem re_ml {g : Nat → Nat → Int32} {f : Nat → Int32} (O : okS g) (H : reS g f) {s : Nat} (hs : s < 8) (h : Int64) : ∀ v, v ≤ zh g s → msL g s h v = dsL f s h v
  | 0, _ => rfl
  | v + 1, hv => by
    have h1 := re_ml O H hs h v (by omega)
    have h6 := (O.1 s hs).2
    unfold msL dsL
    rw [h1]
    exact mxN_cg 3 (fun w hw => re_bv O H hs (by omega) w hw)
theorem re_ds {g : Nat → Nat → Int32} {f : Nat → Int32} (O : okS g) (H : reS g f) (h : Int64) : ∀ s, s ≤ 8 → msA g h s = dsA f h s
  | 0, _ => rfl
  | s + 1, hs => by
    have h1 := re_ds O H h s (by omega)
    unfold msA msC dsA
    rw [h1, mxN_cg (F := fun w => svC g s w) (G := fun w => svV f s w) 5 (fun w hw => re_sv H (by omega) w), re_zh H (by omega)]
    exact re_ml O H (by omega) _ _ (Nat.le_refl _)

