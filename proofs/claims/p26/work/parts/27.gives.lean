/-! the reference's year, second half: what a band gives, the front -/
def f2 (f : Nat → Nat → Nat) (b y v : Nat) : Nat → Nat → Nat := fun b' y' => if b' = b ∧ y' = y then v else f b' y'
theorem fset_f2 (f : Nat → Nat → Nat) (b y v : Nat) : fset f b (fu (f b) y v) = f2 f b y v := by
  funext b' y'
  unfold fset fu f2
  by_cases h : b' = b
  · subst h
    simp
  · simp [h]
theorem gv_l {s c : Nat} (hs : s < 2 ^ 31) (hc : c ≤ 500) : (((nI s).toInt64 * (nI c).toInt64) / (1000 : Int64)).toInt32 = nI (s * c / 1000) := by
  have h1 : s * c ≤ 2 ^ 31 * 500 := Nat.mul_le_mul (by omega) hc
  have h2 : (s : Int) * (c : Int) = ((s * c : Nat) : Int) := by rw [Int.natCast_mul]
  have t1000 : (1000 : Int64).toInt = 1000 := by decide
  have a1 : ((nI s).toInt64 * (nI c).toInt64).toInt = ((s * c : Nat) : Int) := by
    rw [Int64.toInt_mul, Int32.toInt_toInt64, Int32.toInt_toInt64, nI_toInt hs, nI_toInt (by omega), h2, bm64 (by omega) (by omega)]
  have a2 : (((nI s).toInt64 * (nI c).toInt64) / (1000 : Int64)).toInt = ((s * c / 1000 : Nat) : Int) := by
    rw [Int64.toInt_div, a1, t1000, Int.tdiv_eq_ediv_of_nonneg (by omega), bm64 (by omega) (by omega)]
    omega
  rw [← zI_nat]
  exact zI_of (by rw [Int64.toInt_toInt32, a2, bm32 (by omega) (by omega)])
theorem tb_z {g : Nat → Nat} {L k y : Nat} (h : L ≤ sm g k) (hk : k ≤ y) : tb g L y = 0 := by
  have := sm_mono g hk
  unfold tb
  omega
/-- rows when the years below k have been given -/
def gR (f : Nat → Nat → Nat) (b L : Nat) (lst : Bool) (k : Nat) : Nat → Nat → Nat := fun b' y => if y < k then (if b' = b then f b y - tb (f b) L y else if b' = b + 1 ∧ lst = false then f (b + 1) y + tb (f b) L y else f b' y) else f b' y
theorem gR_0 (f : Nat → Nat → Nat) (b L : Nat) (lst : Bool) : gR f b L lst 0 = f := by
  funext b' y
  simp [gR]
theorem gR_done {f : Nat → Nat → Nat} {b L : Nat} {lst : Bool} {k n : Nat} (h : L ≤ sm (f b) k) (hk : k ≤ n) : gR f b L lst k = gR f b L lst n := by
  funext b' y
  unfold gR
  by_cases h1 : y < k
  · rw [if_pos h1, if_pos (show y < n by omega)]
  · rw [if_neg h1]
    by_cases h2 : y < n
    · rw [if_pos h2, tb_z h (by omega)]
      by_cases h3 : b' = b
      · rw [if_pos h3, h3]
        rfl
      · rw [if_neg h3]
        by_cases h4 : b' = b + 1 ∧ lst = false
        · rw [if_pos h4, h4.1]
          rfl
        · rw [if_neg h4]
    · rw [if_neg h2]
theorem gR_sT (f : Nat → Nat → Nat) (b L k : Nat) : f2 (gR f b L true k) b k (f b k - tb (f b) L k) = gR f b L true (k + 1) := by
  funext b' y
  unfold f2 gR
  by_cases h1 : y = k
  · subst h1
    by_cases h2 : b' = b
    · subst h2
      simp
    · simp [h2]
  · have e : (y < k + 1) = (y < k) := by rw [eq_iff_iff]; omega
    simp only [h1, and_false, if_false, e]
theorem gR_sF (f : Nat → Nat → Nat) (b L k : Nat) : f2 (f2 (gR f b L false k) b k (f b k - tb (f b) L k)) (b + 1) k (f (b + 1) k + tb (f b) L k) = gR f b L false (k + 1) := by
  funext b' y
  unfold f2 gR
  by_cases h1 : y = k
  · subst h1
    by_cases h2 : b' = b
    · subst h2
      simp
    · by_cases h3 : b' = b + 1
      · subst h3
        simp
      · simp [h2, h3]
  · have e : (y < k + 1) = (y < k) := by rw [eq_iff_iff]; omega
    simp only [h1, and_false, if_false, e]
theorem f2_n (f : Nat → Nat → Nat) {b y v b' y' : Nat} (h : b' ≠ b) : f2 f b y v b' y' = f b' y' := by
  unfold f2
  rw [if_neg (fun q => h q.1)]
theorem gR_k (f : Nat → Nat → Nat) (b L : Nat) (lst : Bool) (k b' : Nat) : gR f b L lst k b' k = f b' k := by
  unfold gR
  rw [if_neg (by omega)]
def bI (lst : Bool) : Int32 := cond lst (nI 1) (nI 0)
theorem bI_f : (bI false = nI 0) = True := eq_true rfl
theorem bI_t : (bI true = nI 0) = False := eq_false (by decide)
def gL (m : Nat → Int32) (f : Nat → Nat → Nat) (b : Nat) : Nat := sm (f b) (nt (m 7) + 1) * nt (m (14 + 6 * b + 2)) / 1000
def gM (m : Nat → Int32) (f : Nat → Nat → Nat) (b : Nat) : Nat → Int32 := if b + 1 = nt (m 8) then upd (upd m (14 + 6 * b + 4) (nI (gL m f b))) 10 (m 10 + nI (gL m f b)) else upd (upd m (14 + 6 * b + 4) (nI (gL m f b))) (14 + 6 * (b + 1) + 5) (nI (gL m f b))
def gF (m : Nat → Int32) (f : Nat → Nat → Nat) (b : Nat) : Nat → Nat → Nat := gR f b (gL m f b) (decide (b + 1 = nt (m 8))) (nt (m 7) + 1)
theorem upd_id (m : Nat → Int32) (k : Nat) : upd m k (m k) = m := by
  funext j
  by_cases h : j = k
  · subst h
    rw [pk_us]
  · rw [pk_un h]
theorem nI_a0 (x : Int32) : x + nI 0 = x := Int32.add_zero x
