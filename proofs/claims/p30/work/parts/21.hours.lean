def psV (f : Nat → Int32) (c : Nat) : Int32 := if f (12 + c / 6) ≤ nI (c % 6) then nI 0 else if rt (f (44 + c)) * fcM f (c / 6) (c % 6) ≤ f (92 + c) then rt (f (44 + c)) * fcM f (c / 6) (c % 6) else f (92 + c)
def psF (f : Nat → Int32) : Nat → Nat → Int32
  | 0 => f
  | c + 1 => upd (upd (psF f c) (92 + c) (psF f c (92 + c) - psV (psF f c) c)) (36 + c / 6) ((upd (psF f c) (92 + c) (psF f c (92 + c) - psV (psF f c) c)) (36 + c / 6) + psV (psF f c) c)
def psA (f : Nat → Int32) : Nat → Int32
  | 0 => nI 0
  | c + 1 => psA f c + psV (psF f c) c
def pdF (f : Nat → Int32) : Nat → Nat → Int32
  | 0 => f
  | s + 1 => dmF (pdF f s) s
def ptF (f : Nat → Int32) : Nat → Nat → Int32
  | 0 => f
  | t + 1 => upd (ptF f t) (145 + t) (nI 60)
def ztm (f : Nat → Int32) : Nat := (f 10).toNatClampNeg
/-- the end of an hour: the melted, the clock -/
def clF (f : Nat → Int32) (a : Int32) : Nat → Int32 := if (upd (upd f 6 (f 6 + a)) 8 ((upd f 6 (f 6 + a)) 8 + nI 1)) 8 = nI 12 then upd (upd (upd (upd f 6 (f 6 + a)) 8 ((upd f 6 (f 6 + a)) 8 + nI 1)) 8 (nI 0)) 9 ((upd (upd (upd f 6 (f 6 + a)) 8 ((upd f 6 (f 6 + a)) 8 + nI 1)) 8 (nI 0)) 9 + nI 1) else upd (upd f 6 (f 6 + a)) 8 ((upd f 6 (f 6 + a)) 8 + nI 1)
/-- the row behind an hour of sun; behind an hour of clouds -/
def paF0 (f : Nat → Int32) : Nat → Int32 := clF (ptF (pdF (psF f 48) 8) (ztm (pdF (psF f 48) 8))) (psA f 48)
def pn0 (f : Nat → Int32) : Nat → Nat → Int32
  | 0 => f
  | n + 1 => paF0 (pn0 f n)
def pnS (f : Nat → Int32) : Nat → Int32
  | 0 => nI 0
  | n + 1 => pnS f n + psA (pn0 f n) 48
