def dsL (f : Nat → Int32) (s : Nat) (h0 : Int64) : Nat → Int64
  | 0 => h0
  | v + 1 => mxN (fun w => bvM f s v w) (dsL f s h0 v) 3
def dsA (f : Nat → Int32) (h0 : Int64) : Nat → Int64
  | 0 => h0
  | s + 1 => dsL f s (mxN (fun w => svV f s w) (dsA f h0 s) 5) (zhm f s)
def dtL (f : Nat → Int32) (h0 : Int64) : Nat → Int64
  | 0 => h0
  | t + 1 => mxN (fun w => tvM f t w) (dtL f h0 t) 3
def dgS (h : Nat → Nat → Int32) : Int64 := 1346020 + (h 0 0).toInt64
def dgT (h : Nat → Nat → Int32) : Int64 := dtL (h 1) (dsA (h 1) (mxN (fun w => wvM (h0t h) w) (dgS h) 16) 8) (ztm (h 1))
def dgD (h : Nat → Nat → Int32) : Int64 := mx (mx (mxN (ctC (h0t h)).2.2 (mx (dgT h) (nI (ctC (h0t h)).1)) (8 * (ctC (h0t h)).1)) (ctC (h0t h)).2.1) (bsI (h 1) 8).1
