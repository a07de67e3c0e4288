theorem nI_n1 {i : Nat} (h : i < 2 ^ 31) : ¬ nI i = (-1) := by
  intro q
  have h1 := nI_toInt h
  rw [q, show ((-1 : Int32)).toInt = -1 by decide +kernel] at h1
  omega
