def whM (f : Nat → Int32) (t s v : Nat) (u : Int32) : Int32 := if f (12 + s) = 0 then nI 1 else if nI v < f (12 + s) then (if u ≤ f (92 + 6 * s + v) then (if upw u (f (140 + t)) ≤ f (145 + t) then nI 0 else nI 4) else nI 3) else nI 2
def reN (f : Nat → Int32) : Int32 := if nI 9999 - f 0 ≤ f 5 then nI 9999 - f 0 else f 5
def reF (f : Nat → Int32) : Nat → Int32 := upd (upd (upd f 5 (f 5 - reN f)) 0 (upd f 5 (f 5 - reN f) 0 + reN f)) 7 (upd (upd f 5 (f 5 - reN f)) 0 (upd f 5 (f 5 - reN f) 0 + reN f) 7 + reN f)
def bvM (f : Nat → Int32) (s v w : Nat) : Int32 := if nI v < f (12 + s) then (if nI w = 0 then f (44 + (6 * s + v)) else if nI w = nI 1 then f (92 + (6 * s + v)) else fcM f s v) else (-1)
def tvM (f : Nat → Int32) (t w : Nat) : Int32 := if nI w = 0 then f (140 + t) else if nI w = nI 1 then f (145 + t) else f (150 + t)
def svV (f : Nat → Int32) (s w : Nat) : Int32 := if w = 0 then f (12 + s) else if w = 1 then vmS f s (zhm f s) else if w = 2 then f (20 + s) else if w = 3 then f (28 + s) else f (36 + s)
def scM (f : Nat → Int32) : Nat → Int32
  | 0 => nI 0
  | s + 1 => scM f s + (if f (12 + s) ≤ 0 then nI 0 else nI 1)
def vaM (f : Nat → Int32) : Nat → Int32
  | 0 => nI 0
  | s + 1 => vaM f s + vmS f s (zhm f s)
def wvM (h : Nat → Nat → Int32) (w : Nat) : Int32 := if w < 5 then h 1 w else if w = 5 then scM (h 1) 8 else if w = 6 then vaM (h 1) 8 else if w = 7 then h 1 5 else if w = 8 then h 1 6 else if w = 9 then h 1 7 else if w = 10 then h 1 10 else if w = 11 then wlS (h 1) 8 else if w = 12 then h 1 8 else if w = 13 then h 1 9 else if w = 14 then h 1 11 else h 0 4
