/-! the reference's year, first half: weather and what a band gives -/
def nt (x : Int32) : Nat := x.toNatClampNeg
def rg (x : Int32) (lo hi : Nat) : Prop := x = nI (nt x) ∧ lo ≤ nt x ∧ nt x ≤ hi
theorem nt_nI {n : Nat} (h : n < 2 ^ 31) : nt (nI n) = n := nI_clamp h
theorem rg_nI {n lo hi : Nat} (h1 : lo ≤ n) (h2 : n ≤ hi) (h : hi < 2 ^ 31) : rg (nI n) lo hi := by
  unfold rg
  rw [nt_nI (by omega)]
  exact ⟨rfl, h1, h2⟩
/-- ranges that hold of the row of numbers at all times -/
def IV (m : Nat → Int32) : Prop := rg (m 0) 0 5000 ∧ rg (m 1) 0 500 ∧ rg (m 2) 0 9000 ∧ rg (m 3) 0 500 ∧ rg (m 4) 0 5000 ∧ rg (m 5) 1 1000000 ∧ rg (m 6) 0 50 ∧ rg (m 7) 0 800 ∧ rg (m 8) 0 10 ∧ rg (m 9) 0 6 ∧ (∀ b, b < nt (m 8) → rg (m (14 + 6 * b)) 0 5000 ∧ rg (m (14 + 6 * b + 1)) 100 5000 ∧ rg (m (14 + 6 * b + 2)) 0 500) ∧ (∀ s, s < nt (m 9) → rg (m (74 + 6 * s)) 0 9 ∧ nt (m (74 + 6 * s)) < nt (m 8))
def snS (m : Nat → Int32) (b : Nat) : Nat := snN (nt (m 0)) (nt (m 1)) (nt (m 4)) (nt (m (14 + 6 * b)))
def mlS (m : Nat → Int32) (b : Nat) : Nat := mlN (nt (m 2)) (nt (m 3)) (nt (m 4)) (nt (m (14 + 6 * b)))
theorem snS_le {m : Nat → Int32} (I : IV m) {b : Nat} (hb : b < nt (m 8)) : snS m b ≤ 30000 := snN_le I.1.2.2 I.2.1.2.2 I.2.2.2.2.1.2.2 (I.2.2.2.2.2.2.2.2.2.2.1 b hb).1.2.2
theorem mlS_le {m : Nat → Int32} (I : IV m) {b : Nat} (hb : b < nt (m 8)) : mlS m b ≤ 34000 := mlN_le I.2.2.1.2.2 I.2.2.2.1.2.2 I.2.2.2.2.1.2.2 (I.2.2.2.2.2.2.2.2.2.2.1 b hb).1.2.2
/-- the row of a band when the years from k on have been melted -/
def rwT (g : Nat → Nat) (n ml k : Nat) : Nat → Nat := fun y => if k ≤ y then g y - tt g n ml y else g y
theorem rwT_0 (g : Nat → Nat) (n ml : Nat) : rwT g n ml 0 = fun y => g y - tt g n ml y := by
  funext y
  simp [rwT]
theorem rwT_n (g : Nat → Nat) {n ml : Nat} : rwT g n ml n = g := by
  funext y
  unfold rwT tt
  by_cases h : n ≤ y
  · rw [if_pos h, if_neg (by omega)]
    omega
  · rw [if_neg h]
theorem rwT_s (g : Nat → Nat) {n ml k : Nat} : fu (rwT g n ml (k + 1)) k (g k - tt g n ml k) = rwT g n ml k := by
  funext y
  unfold fu rwT
  by_cases h : y = k
  · rw [if_pos h, if_pos (by omega), h]
  · rw [if_neg h]
    by_cases h2 : k ≤ y
    · rw [if_pos h2, if_pos (by omega)]
    · rw [if_neg h2, if_neg (by omega)]
theorem rwT_done {g : Nat → Nat} {n ml k : Nat} (h : ml ≤ sm g n - sm g k) (hk : k ≤ n) : rwT g n ml k = rwT g n ml 0 := by
  funext y
  unfold rwT
  by_cases h2 : k ≤ y
  · rw [if_pos h2, if_pos (by omega)]
  · rw [if_neg h2, if_pos (by omega)]
    unfold tt
    have := sm_mono g (show y + 1 ≤ k by omega)
    rw [if_pos (by omega)]
    omega
theorem nONE_T : (nONE < nI 0) = True := by
  rw [eq_iff_iff]
  exact ⟨fun _ => trivial, fun _ => nONE_lt⟩
/-- weather of a band: on the ice, the numbers, the accounts -/
def wG (m : Nat → Int32) (f : Nat → Nat → Nat) (b : Nat) : Nat → Nat := fu (f b) (nt (m 7)) (f b (nt (m 7)) + snS m b)
def wT (m : Nat → Int32) (f : Nat → Nat → Nat) (b : Nat) : Nat := min (mlS m b) (sm (wG m f b) (nt (m 7) + 1))
def wF (m : Nat → Int32) (f : Nat → Nat → Nat) (b : Nat) : Nat → Nat → Nat := fset f b (rwT (wG m f b) (nt (m 7) + 1) (mlS m b) 0)
def wM (m : Nat → Int32) (f : Nat → Nat → Nat) (b : Nat) : Nat → Int32 := upd m (14 + 6 * b + 3) (nI (wT m f b))
def wA (m : Nat → Int32) (f : Nat → Nat → Nat) (acc : Nat → Int64) (b : Nat) : Nat → Int64 := vp_updL (vp_updL acc 1 (acc 1 + (nI (snS m b)).toInt64)) 2 ((vp_updL acc 1 (acc 1 + (nI (snS m b)).toInt64)) 2 + (nI (wT m f b)).toInt64)
theorem rg_get {x : Int32} {lo hi : Nat} (h : rg x lo hi) : ∃ n, x = nI n ∧ lo ≤ n ∧ n ≤ hi := ⟨nt x, h⟩
