def zbm (f : Nat → Int32) : Nat := (f 11).toNatClampNeg
def nmE (a b c : Int32) : Int32 := if isS a = 0 then nI 0 else if b = (-1) then (if c = (-1) then nI 1 else nI 0) else if isS b = 0 then nI 0 else if c = (-1) then nI 1 else if isS c = 0 then nI 0 else nI 1
def unE (a b c : Int32) : Int32 := if a = b then nI 0 else if a = c then nI 0 else if b = c then (if b = (-1) then nI 1 else nI 0) else nI 1
def btT (f : Nat → Int32) (a b c : Int32) : Nat := if nmE a b c = 0 then 1 else if unE a b c = 0 then 1 else if nI 20 ≤ f 11 then 2 else 0
def btF (f : Nat → Int32) (a b c : Int32) : Nat → Int32 := upd (upd (upd (upd f (155 + 3 * zbm f) a) (155 + 3 * zbm f + 1) b) (155 + 3 * zbm f + 2) c) 11 (nI (zbm f + 1))
def stB (x : Int32) (y : Int32) : Int32 := (x >>> (y &&& 31)) &&& nI 1
def cvI (V : Nat → Int32) (r : Nat) (x : Int32) : Nat → Nat → Int32
  | 0 => V
  | s + 1 => upd (cvI V r x s) (8 * r + s) (if stB x (nI s) = nI 1 then nI 0 else (-1))
def faR (f : Nat → Int32) (x : Int32) (b : Nat) : Nat → Nat → Nat
  | 0, a => a
  | k + 1, a => if f (155 + 3 * b + a) = (-1) then faR f x b k (a + 1) else if stB x (f (155 + 3 * b + a)) = 0 then faR f x b k (a + 1) else a
def faC (f : Nat → Int32) (x : Int32) (b : Nat) : Nat := faR f x b 3 0
def crI (V f : Nat → Int32) (r : Nat) (x : Int32) : Nat → (Nat → Int32) × Int32
  | 0 => (cvI V r x 8, nI 0)
  | b + 1 => if faC f x b < 3 then (upd (crI V f r x b).1 (8 * r + (f (155 + 3 * b + faC f x b)).toNatClampNeg) ((crI V f r x b).1 (8 * r + (f (155 + 3 * b + faC f x b)).toNatClampNeg) + nI 1), (crI V f r x b).2 + nI 1) else crI V f r x b
def iwM (V f : Nat → Int32) (r s w : Nat) : Int32 := if V (8 * r + s) = V (8 * r + w) then (if vmS f s (zhm f s) = vmS f w (zhm f w) then (if s ≤ w then nI 0 else nI 1) else if vmS f w (zhm f w) ≤ vmS f s (zhm f s) then nI 0 else nI 1) else if V (8 * r + w) ≤ V (8 * r + s) then nI 0 else nI 1
def cxM (f : Nat → Int32) : Nat → Int32
  | 0 => nI 0
  | s + 1 => cxM f s ||| (if f (12 + s) ≤ 0 then nI 0 else nI 1 <<< (nI s &&& 31))
def cmM (f : Nat → Int32) : Nat → Nat
  | 0 => 0
  | s + 1 => cmM f s + (if f (12 + s) ≤ 0 then 0 else 1)
def scI (V f : Nat → Int32) (t m : Nat) (x n W : Int32) : Nat → Int32 × Int32
  | 0 => (W, (-1))
  | i + 1 => if stB x (nI i) = nI 1 then ((if m = 1 then nI i else if nI 2 * V (8 * t + i) ≤ n then (scI V f t m x n W i).1 else nI i), (if (scI V f t m x n W i).2 = (-1) then nI i else if iwM V f t i (scI V f t m x n W i).2.toNatClampNeg = 0 then (scI V f t m x n W i).2 else nI i)) else scI V f t m x n W i
def ctR (f : Nat → Int32) : Nat → Nat → Nat → Int32 → Int32 → (Nat → Int32) → Nat × Int32 × (Nat → Int32)
  | 0, t, _, _, W, V => (t, W, V)
  | k + 1, t, m, x, W, V => if m = 0 then (t, W, V) else if W = (-1) then ctR f k (t + 1) (m - 1) (x &&& ((nI 1 <<< ((scI (crI V f t x (zbm f)).1 f t m x (crI V f t x (zbm f)).2 W 8).2 &&& 31)) ^^^ (-1))) (scI (crI V f t x (zbm f)).1 f t m x (crI V f t x (zbm f)).2 W 8).1 (crI V f t x (zbm f)).1 else (t, W, V)
def ctC (h : Nat → Nat → Int32) : Nat × Int32 × (Nat → Int32) := ctR (h 1) 8 0 (cmM (h 1) 8) (cxM (h 1) 8) (-1) (h 4)
theorem nI_n31 {r : Nat} (hr : r < 2 ^ 32) (h : ¬ nI r < 0) : r < 2 ^ 31 := by
  obtain ⟨j, hj, e⟩ := nI_of h
  have e2 : r = j := by
    have := congrArg (fun v : Int32 => v.toBitVec.toNat) e
    simp only [pk_tn hr, pk_tn (show j < 2 ^ 32 by omega)] at this
    exact this
  omega
