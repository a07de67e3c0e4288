theorem okT_ta {g : Nat → Nat → Int32} {v : Int32} (hlt : zt g < 5) : okT (taG g v) := by
  have e2 : taG g v 0 6 = nI (zt g + 1) := rfl
  have e3 : zt (taG g v) = zt g + 1 := by unfold zt; rw [e2]; exact nI_clamp (by omega)
  unfold okT
  rw [e3]
  exact ⟨e2, by omega⟩
