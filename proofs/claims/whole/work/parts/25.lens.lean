/-! the reference's state in one piece: its row of numbers, its ice, its accounts -/
def P3 (ad : Nat → Nat) (M : Mm) (m : Nat → Int32) (ice : Nat → Int32) (acc : Nat → Int64) : Mm := (fun a => if a = ad 251 then m else if a = ad 252 then ice else M.1 a, fun a => if a = ad 253 then acc else M.2 a)
def fI (f : Nat → Nat → Nat) : Nat → Int32 := fun k => nI (f (k / 801) (k % 801))
def fset (f : Nat → Nat → Nat) (b : Nat) (r : Nat → Nat) : Nat → Nat → Nat := fun b' => if b' = b then r else f b'
theorem fset_s (f : Nat → Nat → Nat) (b : Nat) (r : Nat → Nat) : fset f b r b = r := by simp [fset]
theorem fset_n (f : Nat → Nat → Nat) {b b' : Nat} (r : Nat → Nat) (h : b' ≠ b) : fset f b r b' = f b' := by simp [fset, h]
theorem fset_ss (f : Nat → Nat → Nat) (b : Nat) (r r' : Nat → Nat) : fset (fset f b r) b r' = fset f b r' := by
  funext x
  by_cases h : x = b <;> simp [fset, h]
theorem P3_m (ad : Nat → Nat) (M : Mm) (m ice : Nat → Int32) (acc : Nat → Int64) (k : Nat) : gI (P3 ad M m ice acc) (ad 251) k = m k := by simp [P3, gI]
theorem P3_i {ad : Nat → Nat} (hi : ∀ a b : Nat, (ad a = ad b) = (a = b)) (M : Mm) (m ice : Nat → Int32) (acc : Nat → Int64) (k : Nat) : gI (P3 ad M m ice acc) (ad 252) k = ice k := by simp [P3, gI, hi]
theorem P3_a (ad : Nat → Nat) (M : Mm) (m ice : Nat → Int32) (acc : Nat → Int64) (k : Nat) : gJ (P3 ad M m ice acc) (ad 253) k = acc k := by simp [P3, gJ]
theorem P3_o {ad : Nat → Nat} (hi : ∀ a b : Nat, (ad a = ad b) = (a = b)) (M : Mm) (m ice : Nat → Int32) (acc : Nat → Int64) {r : Nat} (k : Nat) (h1 : r ≠ 251) (h2 : r ≠ 252) : gI (P3 ad M m ice acc) (ad r) k = gI M (ad r) k := by simp [P3, gI, hi, h1, h2]
theorem P3_oj {ad : Nat → Nat} (hi : ∀ a b : Nat, (ad a = ad b) = (a = b)) (M : Mm) (m ice : Nat → Int32) (acc : Nat → Int64) {r : Nat} (k : Nat) (h1 : r ≠ 253) : gJ (P3 ad M m ice acc) (ad r) k = gJ M (ad r) k := by simp [P3, gJ, hi, h1]
theorem fI_at (f : Nat → Nat → Nat) {b y : Nat} (h : y < 801) : fI f (801 * b + y) = nI (f b y) := by
  unfold fI
  rw [show (801 * b + y) / 801 = b by omega, show (801 * b + y) % 801 = y by omega]
theorem sP3_m (ad : Nat → Nat) (M : Mm) (m ice : Nat → Int32) (acc : Nat → Int64) (k : Nat) (v : Int32) : sI (P3 ad M m ice acc) (ad 251) k v = P3 ad M (upd m k v) ice acc := by
  unfold sI P3 up2 upd
  refine congrArg (fun z => (z, _)) ?_
  funext a j
  by_cases h : a = ad 251
  · simp [h]
  · simp [h]
theorem sP3_i {ad : Nat → Nat} (hi : ∀ a b : Nat, (ad a = ad b) = (a = b)) (M : Mm) (m : Nat → Int32) (f : Nat → Nat → Nat) (acc : Nat → Int64) {b y : Nat} (v : Nat) (h : y < 801) : sI (P3 ad M m (fI f) acc) (ad 252) (801 * b + y) (nI v) = P3 ad M m (fI (fset f b (fu (f b) y v))) acc := by
  unfold sI P3 up2
  refine congrArg (fun z => (z, _)) ?_
  funext a j
  by_cases h1 : a = ad 251
  · have h2 : ¬ a = ad 252 := by
      rw [h1, hi]
      omega
    simp [h1, hi]
  · by_cases h2 : a = ad 252
    · simp only [h1, h2, if_true, true_and, hi, if_false]
      by_cases hj : j = 801 * b + y
      · rw [if_pos hj, hj, if_neg (by omega), fI_at _ h, fset_s, fu_s]
      · rw [if_neg hj, if_neg (by omega), if_neg (by omega)]
        unfold fI fset fu
        by_cases hb : j / 801 = b
        · rw [if_pos hb, if_neg (by omega), hb]
        · rw [if_neg hb]
    · simp [h1, h2]
theorem sP3_a (ad : Nat → Nat) (M : Mm) (m ice : Nat → Int32) (acc : Nat → Int64) (k : Nat) (v : Int64) : sJ (P3 ad M m ice acc) (ad 253) k v = P3 ad M m ice (vp_updL acc k v) := by
  unfold sJ P3 up2 vp_updL
  refine congrArg (fun z => (_, z)) ?_
  funext a j
  by_cases h : a = ad 253
  · simp [h]
  · simp [h]
theorem RP_P3 {ad : Nat → Nat} (hi : ∀ a b : Nat, (ad a = ad b) = (a = b)) (M : Mm) (m : Nat → Int32) (f : Nat → Nat → Nat) (acc : Nat → Int64) : RP ad (P3 ad M m (fI f) acc) m f acc := ⟨fun k _ => P3_m _ _ _ _ _ _, fun b y _ hy => by rw [P3_i hi, fI_at _ hy], fun k _ => P3_a _ _ _ _ _ _⟩
theorem P3_eta (ad : Nat → Nat) (M : Mm) (h : ad 252 ≠ ad 251) : P3 ad M (M.1 (ad 251)) (M.1 (ad 252)) (M.2 (ad 253)) = M := by
  unfold P3
  have e1 : (fun a => if a = ad 251 then M.1 (ad 251) else if a = ad 252 then M.1 (ad 252) else M.1 a) = M.1 := by
    funext a
    by_cases h1 : a = ad 251
    · simp [h1]
    · by_cases h2 : a = ad 252
      · simp [h2, h]
      · simp [h1, h2]
  have e2 : (fun a => if a = ad 253 then M.2 (ad 253) else M.2 a) = M.2 := by
    funext a
    by_cases h1 : a = ad 253 <;> simp [h1]
  rw [e1, e2]
