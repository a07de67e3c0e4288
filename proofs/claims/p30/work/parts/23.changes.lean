theorem wi_lt {k a b : Nat} (hk : k < 2 ^ 32) (ha : a < 2 ^ 31) (hb : b < 2 ^ 31) (h : ¬ wi (nI k) (nI a) (nI b) = 0) : a ≤ k ∧ k ≤ b := by
  unfold wi at h
  split at h
  · exact absurd rfl h
  · split at h
    · exact absurd rfl h
    · rename_i h1 h2
      have h0 : ¬ nI k < 0 := by
        intro q
        apply h1
        rw [Int32.lt_iff_toInt_lt] at q ⊢
        rw [nI_toInt ha]
        have : (0 : Int32).toInt = 0 := rfl
        omega
      obtain ⟨j, hj, e⟩ := nI_of h0
      have e2 : k = j := by
        have := congrArg (fun v : Int32 => v.toBitVec.toNat) e
        simp only [pk_tn hk, pk_tn (show j < 2 ^ 32 by omega)] at this
        exact this
      subst e2
      rw [nI_ltI hj ha] at h1
      rw [nI_ltI hb hj] at h2
      omega
theorem isS_lt {k : Nat} (hk : k < 2 ^ 32) (h : ¬ isS (nI k) = 0) : k < 8 := by have := wi_lt hk (by omega) (by omega) h; omega
theorem isK_lt {k : Nat} (hk : k < 2 ^ 32) (h : ¬ isK (nI k) = 0) : k < 3 := by have := wi_lt hk (by omega) (by omega) h; omega
def h0t (h : Nat → Nat → Int32) : Nat → Nat → Int32 := va_up h 0 (upd (h 0) 1 (nI 0))
def asT (f : Nat → Int32) (u : Nat) : Nat := if wi (nI u) (nI 1) (nI 9999) = 0 then 1 else if nI 9999 < f 0 + nI u then 2 else 0
def asF (f : Nat → Int32) (u : Nat) : Nat → Int32 := upd f 0 (f 0 + nI u)
def prT (f : Nat → Int32) (k b : Nat) : Nat := if isK (nI k) = 0 then 1 else if wi (nI b) (nI 1) (nI 50) = 0 then 1 else if f 0 < nI (100 * b) then 2 else if nI 50 < f (1 + k) + nI b then 2 else 0
def prF (f : Nat → Int32) (k b : Nat) : Nat → Int32 := upd (upd (upd f 0 (f 0 - nI (100 * b))) (1 + k) (upd f 0 (f 0 - nI (100 * b)) (1 + k) + nI b)) 4 (upd (upd f 0 (f 0 - nI (100 * b))) (1 + k) (upd f 0 (f 0 - nI (100 * b)) (1 + k) + nI b) 4 + nI b)
