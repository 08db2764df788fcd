/-! the reference's state set aside and brought back -/
def aM (ad : Nat → Nat) (M : Mm) (d1 s1 d2 s2 d3 s3 : Nat) : Mm := cpQ (cpR (cpR M (ad d1) (ad s1) (fun k => k) (fun k => k) 8010) (ad d2) (ad s2) (fun k => k) (fun k => k) 110) (ad d3) (ad s3) (fun k => k) (fun k => k) 4
theorem aM_I {ad : Nat → Nat} (hi : ∀ a b : Nat, (ad a = ad b) = (a = b)) (M : Mm) {d1 s1 d2 s2 d3 s3 : Nat} {r : Nat} (h1 : r ≠ d1) (h2 : r ≠ d2) : (aM ad M d1 s1 d2 s2 d3 s3).1 (ad r) = M.1 (ad r) := by
  unfold aM
  rw [cpQ_I, cpR_o _ _ _ (by rw [Ne, hi]; exact h2), cpR_o _ _ _ (by rw [Ne, hi]; exact h1)]
theorem aM_J {ad : Nat → Nat} (hi : ∀ a b : Nat, (ad a = ad b) = (a = b)) (M : Mm) {d1 s1 d2 s2 d3 s3 : Nat} {r : Nat} (h1 : r ≠ d3) : (aM ad M d1 s1 d2 s2 d3 s3).2 (ad r) = M.2 (ad r) := by
  unfold aM
  rw [cpQ_o _ _ _ (by rw [Ne, hi]; exact h1), cpR_J, cpR_J]
theorem aM_1 {ad : Nat → Nat} (hi : ∀ a b : Nat, (ad a = ad b) = (a = b)) (M : Mm) {d1 s1 d2 s2 d3 s3 : Nat} (h1 : d1 ≠ d2) (h2 : s1 ≠ d1) {k : Nat} (hk : k < 8010) : (aM ad M d1 s1 d2 s2 d3 s3).1 (ad d1) k = M.1 (ad s1) k := by
  unfold aM
  rw [cpQ_I, cpR_o _ _ _ (by rw [Ne, hi]; exact h1)]
  exact cpR_i M (φ := fun k => k) (ψ := fun k => k) (fun i k h1 h2 => by omega) (fun i k _ _ e => absurd e (by rw [hi]; exact h2)) k hk
theorem aM_1n {ad : Nat → Nat} (hi : ∀ a b : Nat, (ad a = ad b) = (a = b)) (M : Mm) {d1 s1 d2 s2 d3 s3 : Nat} (h1 : d1 ≠ d2) {k : Nat} (hk : 8010 ≤ k) : (aM ad M d1 s1 d2 s2 d3 s3).1 (ad d1) k = M.1 (ad d1) k := by
  unfold aM
  rw [cpQ_I, cpR_o _ _ _ (by rw [Ne, hi]; exact h1), cpR_n _ (fun i hi' => by omega)]
theorem aM_2 {ad : Nat → Nat} (hi : ∀ a b : Nat, (ad a = ad b) = (a = b)) (M : Mm) {d1 s1 d2 s2 d3 s3 : Nat} (h1 : s2 ≠ d2) (h2 : s2 ≠ d1) {k : Nat} (hk : k < 110) : (aM ad M d1 s1 d2 s2 d3 s3).1 (ad d2) k = M.1 (ad s2) k := by
  unfold aM
  rw [cpQ_I]
  refine (cpR_i _ (φ := fun k => k) (ψ := fun k => k) (fun i k h1 h2 => by omega) (fun i k _ _ e => absurd e (by rw [hi]; exact h1)) k hk).trans ?_
  rw [cpR_o _ _ _ (by rw [Ne, hi]; exact h2)]
theorem aM_3 {ad : Nat → Nat} (hi : ∀ a b : Nat, (ad a = ad b) = (a = b)) (M : Mm) {d1 s1 d2 s2 d3 s3 : Nat} (h1 : s3 ≠ d3) {k : Nat} (hk : k < 4) : (aM ad M d1 s1 d2 s2 d3 s3).2 (ad d3) k = M.2 (ad s3) k := by
  unfold aM
  refine (cpQ_i _ (φ := fun k => k) (ψ := fun k => k) (fun i k h1 h2 => by omega) (fun i k _ _ e => absurd e (by rw [hi]; exact h1)) k hk).trans ?_
  rw [cpR_J, cpR_J]
def bF (s t : Sx) : Nat → Nat → Nat := fun b y => if b < 10 then s.2.1 b y else t.2.1 b y
