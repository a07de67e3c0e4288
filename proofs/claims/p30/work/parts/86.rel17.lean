/-- two states that are the same but for the losses -/
def eqS (g' g : Nat → Nat → Int32) : Prop := (∀ j, j < 8 → g' 0 j = g 0 j) ∧ g' 1 = g 1 ∧ g' 2 = g 2 ∧ g' 3 = g 3 ∧ g' 4 = g 4 ∧ g' 5 = g 5 ∧ g' 6 = g 6 ∧ g' 7 = g 7 ∧ g' 9 = g 9 ∧ g' 10 = g 10 ∧ g' 11 = g 11 ∧ g' 12 = g 12
theorem eqS_cp (t g : Nat → Nat → Int32) : eqS (cpSa t g) g := by
  refine ⟨fun j hj => ?_, rfl, rfl, rfl, rfl, rfl, rfl, rfl, rfl, rfl, rfl, rfl⟩
  rcases (show j = 0 ∨ j = 1 ∨ j = 2 ∨ j = 3 ∨ j = 4 ∨ j = 5 ∨ j = 6 ∨ j = 7 by omega) with rfl | rfl | rfl | rfl | rfl | rfl | rfl | rfl <;> rfl
theorem okS_cg {g' g : Nat → Nat → Int32} (e : eqS g' g) (O : okS g) : okS g' := by
  obtain ⟨e0, e1, e2, e3, e4, e5, e6, e7, e9, e10, e11, e12⟩ := e
  obtain ⟨o1, o2, o3, o5, o6, o7, o8, o9, o10⟩ := O
  have zH : ∀ s, zh g' s = zh g s := fun s => by unfold zh; rw [e2]
  have zT : zt g' = zt g := by unfold zt; rw [e0 6 (by omega)]
  have zB : zb g' = zb g := by unfold zb; rw [e0 7 (by omega)]
  refine ⟨fun s hs => ?_, ?_, ?_, fun k hk => ?_, ?_, fun t ht => ?_, fun b hb => ?_, fun s hs t ht => ?_, fun s hs => ?_⟩
  · rw [zH, e2]; exact o1 s hs
  · unfold okT; rw [zT, e0 6 (by omega)]; exact o2
  · unfold okB; rw [zB, e0 7 (by omega)]; exact o3
  · rw [e1]; exact o5 k hk
  · rw [e0 4 (by omega)]; exact o6
  · rw [zT] at ht; rw [e9, e10]; exact o7 t ht
  · rw [zB] at hb; rw [e12]; exact o8 b hb
  · rw [zH] at ht; rw [e6, e7]; exact o9 s hs t ht
  · rw [e3]; exact o10 s hs
theorem reS_cg {g' g : Nat → Nat → Int32} {f : Nat → Int32} (e : eqS g' g) (H : reS g f) : reS g' f := by
  obtain ⟨e0, e1, e2, e3, e4, e5, e6, e7, e9, e10, e11, e12⟩ := e
  obtain ⟨r0, r1, r2, r3, r4, r5, r6, r7, r8, r9, r10, r11, r12⟩ := H
  have zH : ∀ s, zh g' s = zh g s := fun s => by unfold zh; rw [e2]
  have zT : zt g' = zt g := by unfold zt; rw [e0 6 (by omega)]
  have zB : zb g' = zb g := by unfold zb; rw [e0 7 (by omega)]
  unfold reS
  rw [e0 0 (by omega), e0 1 (by omega), e0 2 (by omega), e0 3 (by omega), e0 4 (by omega), e0 5 (by omega), e0 6 (by omega), e0 7 (by omega), e1, e2, e3, e4, e5, e6, e7, e9, e10, e11, e12, zT, zB]
  refine ⟨r0, r1, r2, r3, r4, r5, r6, r7, r8, r9, fun s hs => ?_, r11, r12⟩
  rw [zH]
  exact r10 s hs
