/-! snow and melt: numbers with a sign, rounded down -/
theorem bm64 {x : Int} (h1 : -9223372036854775808 ≤ x) (h2 : x < 9223372036854775808) : x.bmod (2 ^ 64) = x := Int.bmod_eq_of_le (by omega) (by omega)
theorem bm32 {x : Int} (h1 : -2147483648 ≤ x) (h2 : x < 2147483648) : x.bmod (2 ^ 32) = x := Int.bmod_eq_of_le (by omega) (by omega)
def zI (z : Int) : Int32 := Int32.ofInt z
theorem zI_toInt {z : Int} (h1 : -2147483648 ≤ z) (h2 : z < 2147483648) : (zI z).toInt = z := by
  unfold zI
  rw [Int32.toInt_ofInt]
  exact bm32 h1 h2
theorem zI_of {x : Int32} {z : Int} (h : x.toInt = z) : x = zI z := by
  apply Int32.toInt_inj.mp
  rw [h, zI_toInt]
  · have := Int32.le_toInt x
    omega
  · have := Int32.toInt_lt x
    omega
theorem zI_nat (n : Nat) : zI (n : Int) = nI n := rfl
/-- growth or fall times the height above the middle, in hundredths, rounded down -/
def gz (g mid h : Nat) : Int := ((g : Int) * ((h : Int) - (mid : Int))) / 100
def snN (s g mid h : Nat) : Nat := ((s : Int) + gz g mid h).toNat
def mlN (s g mid h : Nat) : Nat := ((s : Int) - gz g mid h).toNat
theorem gmul {g mid h : Nat} (hg : g ≤ 500) (hm : mid ≤ 5000) (hh : h ≤ 5000) : -2500000 ≤ (g : Int) * ((h : Int) - (mid : Int)) ∧ (g : Int) * ((h : Int) - (mid : Int)) ≤ 2500000 := by
  have h1 : (g : Int) * ((h : Int) - (mid : Int)) ≤ 500 * 5000 := by
    rcases Int.le_total 0 ((h : Int) - (mid : Int)) with h2 | h2
    · exact Int.mul_le_mul (by omega) (by omega) h2 (by omega)
    · have := Int.mul_nonpos_of_nonneg_of_nonpos (show (0 : Int) ≤ g by omega) h2
      omega
  have h3 : (g : Int) * ((mid : Int) - (h : Int)) ≤ 500 * 5000 := by
    rcases Int.le_total 0 ((mid : Int) - (h : Int)) with h2 | h2
    · exact Int.mul_le_mul (by omega) (by omega) h2 (by omega)
    · have := Int.mul_nonpos_of_nonneg_of_nonpos (show (0 : Int) ≤ g by omega) h2
      omega
  have h4 : (g : Int) * ((mid : Int) - (h : Int)) = -((g : Int) * ((h : Int) - (mid : Int))) := by
    rw [← Int.mul_neg]
    congr 1
    omega
  omega
theorem gz_in {g mid h : Nat} (hg : g ≤ 500) (hm : mid ≤ 5000) (hh : h ≤ 5000) : -25000 ≤ gz g mid h ∧ gz g mid h ≤ 25000 := by
  have := gmul hg hm hh
  unfold gz
  omega
theorem snN_le {s g mid h : Nat} (hs : s ≤ 5000) (hg : g ≤ 500) (hm : mid ≤ 5000) (hh : h ≤ 5000) : snN s g mid h ≤ 30000 := by
  have := gz_in hg hm hh
  unfold snN
  omega
theorem mlN_le {s g mid h : Nat} (hs : s ≤ 9000) (hg : g ≤ 500) (hm : mid ≤ 5000) (hh : h ≤ 5000) : mlN s g mid h ≤ 34000 := by
  have := gz_in hg hm hh
  unfold mlN
  omega
theorem gprod {g mid h : Nat} (hg : g ≤ 500) (hm : mid ≤ 5000) (hh : h ≤ 5000) : ((nI g).toInt64 * (nI h - nI mid).toInt64).toInt = (g : Int) * ((h : Int) - (mid : Int)) := by
  have h1 := gmul hg hm hh
  rw [Int64.toInt_mul, Int32.toInt_toInt64, Int32.toInt_toInt64, nI_toInt (by omega), pk_sub_toInt (by omega) (by omega), bm64 (by omega) (by omega)]
theorem zI_pos {z : Int} (h1 : -2147483648 ≤ z) (h2 : z < 2147483648) : (nI 0 ≤ zI z) = (0 ≤ z) := by
  rw [Int32.le_iff_toInt_le, zI_toInt h1 h2]
  rfl
theorem zI_toNat {z : Int} (h : 0 ≤ z) : zI z = nI z.toNat := by
  rw [← zI_nat, Int.toNat_of_nonneg h]
theorem zI_add (n : Nat) (z : Int) : nI n + zI z = zI ((n : Int) + z) := by
  unfold zI nI
  rw [Int32.ofInt_add]
  rfl
theorem zI_sub (n : Nat) (z : Int) : nI n - zI z = zI ((n : Int) - z) := by
  unfold zI nI
  rw [Int32.ofInt_sub]
  rfl
