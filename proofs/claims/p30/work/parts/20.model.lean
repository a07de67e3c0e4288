def isK (x : Int32) : Int32 := wi x (nI 0) (nI 2)
def isL (x : Int32) : Int32 := wi x (nI 0) (nI 5)
def upw (a b : Int32) : Int32 := (a + b - nI 1) / b
def zhm (f : Nat → Int32) (s : Nat) : Nat := (f (12 + s)).toNatClampNeg
def dmI (f : Nat → Int32) (s : Nat) : Nat → Nat × (Nat → Int32)
  | 0 => (0, f)
  | i + 1 => (if (upd (upd (dmI f s i).2 (44 + (6 * s + (dmI f s i).1)) ((dmI f s i).2 (44 + (6 * s + i)))) (92 + (6 * s + (dmI f s i).1)) ((upd (dmI f s i).2 (44 + (6 * s + (dmI f s i).1)) ((dmI f s i).2 (44 + (6 * s + i)))) (92 + (6 * s + i)))) (92 + (6 * s + (dmI f s i).1)) ≤ 0 then (dmI f s i).1 else (dmI f s i).1 + 1,
      upd (upd (dmI f s i).2 (44 + (6 * s + (dmI f s i).1)) ((dmI f s i).2 (44 + (6 * s + i)))) (92 + (6 * s + (dmI f s i).1)) ((upd (dmI f s i).2 (44 + (6 * s + (dmI f s i).1)) ((dmI f s i).2 (44 + (6 * s + i)))) (92 + (6 * s + i))))
def dmF (f : Nat → Int32) (s : Nat) : Nat → Int32 := upd (dmI f s (zhm f s)).2 (12 + s) (nI (dmI f s (zhm f s)).1)
def vmS (f : Nat → Int32) (s : Nat) : Nat → Int32
  | 0 => nI 0
  | i + 1 => vmS f s i + f (92 + 6 * s + i)
def slB (f : Nat → Int32) (x : Int32) (t : Nat) : Int32 := if isS x = 0 then nI 1 else if nI t < f (12 + x.toNatClampNeg) then nI 0 else nI 1
def slS (f : Nat → Int32) (s t : Nat) : Int32 := if f 8 / nI 4 = nI 1 then (if f (20 + s) = 0 then nI 1 else nI 0) else if f 8 / nI 4 = 0 then slB f (nI (s + 1)) t else slB f (nI s - nI 1) t
def fcM (f : Nat → Int32) (s t : Nat) : Int32 := (if slS f s t = 0 then nI 0 else nI 1) + (if nI t = f (12 + s) - nI 1 then nI 1 else nI 0)
def wlS (f : Nat → Int32) : Nat → Int32
  | 0 => nI 0
  | s + 1 => wlS f s + f (20 + s)
