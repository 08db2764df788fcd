/-! the reference's state in one piece: its row of numbers, its ice, its accounts -/
def fI (f : Nat → Nat → Nat) : Nat → Int32 := fun k => nI (f (k / 801) (k % 801))
def fset (f : Nat → Nat → Nat) (b : Nat) (r : Nat → Nat) : Nat → Nat → Nat := fun b' => if b' = b then r else f b'
theorem fset_s (f : Nat → Nat → Nat) (b : Nat) (r : Nat → Nat) : fset f b r b = r := by simp [fset]
theorem fset_n (f : Nat → Nat → Nat) {b b' : Nat} (r : Nat → Nat) (h : b' ≠ b) : fset f b r b' = f b' := by simp [fset, h]
theorem fset_ss (f : Nat → Nat → Nat) (b : Nat) (r r' : Nat → Nat) : fset (fset f b r) b r' = fset f b r' := by
  funext x
  by_cases h : x = b <;> simp [fset, h]
theorem fI_at (f : Nat → Nat → Nat) {b y : Nat} (h : y < 801) : fI f (801 * b + y) = nI (f b y) := by
  unfold fI
  rw [show (801 * b + y) / 801 = b by omega, show (801 * b + y) % 801 = y by omega]
