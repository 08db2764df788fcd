/-! the reference's front and stakes -/
def fM (m : Nat → Int32) : Nat → Int32 := if 0 < nt (m 11) then upd m 11 (nI (nt (m 11) - 1)) else if nt (m 10) < nt (m 5) then m else upd (upd (upd (upd m 10 (nI (nt (m 10) - nt (m 10) / nt (m 5) * nt (m 5)))) 12 (m 12 + nI (nt (m 10) / nt (m 5)))) 13 (m 7)) 11 (m 6)
def fA (m : Nat → Int32) (acc : Nat → Int64) : Nat → Int64 := if 0 < nt (m 11) then acc else if nt (m 10) < nt (m 5) then acc else vp_updL acc 3 (acc 3 + (nI (nt (m 10) / nt (m 5) * nt (m 5))).toInt64)
/-- where a stake comes to rest: d bands from b on -/
def mvW (m : Nat → Int32) : Nat → Nat → Int32 → Nat × Int32
  | 0, b, x => (b, x)
  | d + 1, b, x => if x < m (14 + 6 * b + 1) then (b, x) else mvW m d (b + 1) (x - m (14 + 6 * b + 1))
def mvM (m : Nat → Int32) (s : Nat) (r : Nat × Int32) : Nat → Int32 := if r.1 = nt (m 8) then upd m (74 + 6 * s + 4) (nI 2) else upd (upd m (74 + 6 * s) (nI r.1)) (74 + 6 * s + 1) r.2
def mvR (m : Nat → Int32) (s : Nat) : Nat × Int32 := mvW m (nt (m 8) - nt (m (74 + 6 * s))) (nt (m (74 + 6 * s))) (m (74 + 6 * s + 1) + (m (14 + 6 * nt (m (74 + 6 * s)) + 1) * m (14 + 6 * nt (m (74 + 6 * s)) + 2)) / nI 1000)
