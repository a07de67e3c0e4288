def vmM (f : Nat → Int32) (s : Nat) : Int32 := vmS f s (zhm f s)
def bsI (f : Nat → Int32) : Nat → Int32 × Int32
  | 0 => ((-1), nI 0)
  | s + 1 => if f (20 + s) = 0 then (if pnS f 12 - pnS (upd f (20 + s) (nI 1)) 12 ≤ (bsI f s).2 then bsI f s else (nI s, pnS f 12 - pnS (upd f (20 + s) (nI 1)) 12)) else bsI f s
