/-- the i-th year with something, of n years from y on -/
def yl (f : Nat → Nat) : Nat → Nat → Nat → Option Nat
  | 0, _, _ => none
  | n + 1, y, i => if 0 < f y then (if i = 0 then some y else yl f n (y + 1) (i - 1)) else yl f n (y + 1) i
def oY (q : Option Nat) : Int32 := match q with
  | some y => nI y
  | none => nONE
