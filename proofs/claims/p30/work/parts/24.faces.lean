def stT (f : Nat → Int32) (s k : Nat) : Nat := if isS (nI s) = 0 then 1 else if isK (nI k) = 0 then 2 else if f (1 + k) ≤ 0 then 3 else if nI 6 ≤ f (12 + s) then 3 else 0
def stF (f : Nat → Int32) (s k : Nat) : Nat → Int32 := upd (upd (upd (upd f (1 + k) (f (1 + k) - nI 1)) (44 + 6 * s + zhm f s) (nI k)) (92 + 6 * s + zhm f s) (nI 100)) (12 + s) (upd (upd (upd f (1 + k) (f (1 + k) - nI 1)) (44 + 6 * s + zhm f s) (nI k)) (92 + 6 * s + zhm f s) (nI 100) (12 + s) + nI 1)
def swF (f : Nat → Int32) (s v : Nat) : Nat → Int32 := upd f (20 + s) (nI v)
def atT (f : Nat → Int32) (v : Nat) : Nat := if wi (nI v) (nI 1) (nI 20) = 0 then 1 else if nI 5 ≤ f 10 then 2 else 0
def atF (f : Nat → Int32) (v : Nat) : Nat → Int32 := upd (upd (upd (upd f (140 + ztm f) (nI v)) (145 + ztm f) (nI 60)) (150 + ztm f) (nI 0)) 10 (upd (upd (upd f (140 + ztm f) (nI v)) (145 + ztm f) (nI 60)) (150 + ztm f) (nI 0) 10 + nI 1)
