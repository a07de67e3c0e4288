def rsT (f : Nat → Int32) (t s v u : Nat) : Nat := if wi (nI t) (nI 0) (f 10 - nI 1) = 0 then 1 else if isS (nI s) = 0 then 1 else if isL (nI v) = 0 then 2 else if wi (nI u) (nI 1) (nI 100) = 0 then 2 else 0
def cvT (f : Nat → Int32) (t s v u : Nat) : Nat := if wi (nI t) (nI 0) (f 10 - nI 1) = 0 then 1 else if isS (nI s) = 0 then 1 else if isL (nI v) = 0 then 2 else if wi (nI u) (nI 1) (nI 100) = 0 then 2 else if whM f t s v (nI u) = 0 then 0 else 3
def cvA (f : Nat → Int32) (t : Nat) (w : Int32) : Nat → Int32 := upd (upd f (145 + t) (f (145 + t) - w)) (150 + t) (upd f (145 + t) (f (145 + t) - w) (150 + t) + w)
def cvB (f : Nat → Int32) (s v : Nat) (u : Int32) : Nat → Int32 := upd f (92 + 6 * s + v) (f (92 + 6 * s + v) - u)
def cvC (f : Nat → Int32) (s : Nat) (u : Int32) : Nat → Int32 := upd (upd f 5 (f 5 + u)) (28 + s) (upd f 5 (f 5 + u) (28 + s) + u)
def cvE (f : Nat → Int32) (t s v u : Nat) : Nat → Int32 := cvC (cvB (cvA f t (upw (nI u) (f (140 + t)))) s v (nI u)) s (nI u)
