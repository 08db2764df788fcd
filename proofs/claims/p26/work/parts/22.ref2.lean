/-- stakes that stand, of the first n -/
def stN (m : Nat → Int32) : Nat → Nat := fun s => if m (74 + 6 * s + 4) = 0 then 1 else 0
