/-! the reference's oldest state dropped -/
def dM (ad : Nat → Nat) (st : Nat) (M : Mm) : Mm := cpR M (ad (lcA st)) (ad (lcA (st + 1))) (fun k => lcO st + k) (fun k => lcO (st + 1) + k) 5010
def dM4 (ad : Nat → Nat) (M : Mm) : Mm := cpR (dM ad 2 (dM ad 1 (dM ad 0 M))) (ad 257) (ad 257) (fun k => k) (fun k => k + 110) 330
def dM5 (ad : Nat → Nat) (M : Mm) : Mm := cpQ (dM4 ad M) (ad 260) (ad 260) (fun k => k) (fun k => k + 4) 12
def dM6 (ad : Nat → Nat) (M : Mm) : Mm := sI (dM5 ad M) (ad 250) 10 (nI 3)
theorem dM_o {ad : Nat → Nat} (hi : ∀ a b : Nat, (ad a = ad b) = (a = b)) (st : Nat) (M : Mm) {r : Nat} (h1 : r ≠ 258) (h2 : r ≠ 259) : (dM ad st M).1 (ad r) = M.1 (ad r) := cpR_o _ _ _ (lcA_ne hi h1 h2) _
theorem dM_J (ad : Nat → Nat) (st : Nat) (M : Mm) : (dM ad st M).2 = M.2 := cpR_J _ _ _ _ _ _
theorem dM_n {ad : Nat → Nat} (hi : ∀ a b : Nat, (ad a = ad b) = (a = b)) (M : Mm) {st k j : Nat} (h : k ≠ st) (hs : st < 4) (hk : k < 4) (hj : j < 5010) : (dM ad st M).1 (ad (lcA k)) (lcO k + j) = M.1 (ad (lcA k)) (lcO k + j) := by
  unfold dM
  by_cases e : lcA k = lcA st
  · rw [e, cpR_n _ (fun i hi' => lc_sep h hk hs hj hi' e)]
  · rw [cpR_o _ _ _ (by rw [Ne, hi]; exact e)]
theorem dM_i {ad : Nat → Nat} (hi : ∀ a b : Nat, (ad a = ad b) = (a = b)) (M : Mm) {st j : Nat} (hs : st < 3) (hj : j < 5010) : (dM ad st M).1 (ad (lcA st)) (lcO st + j) = M.1 (ad (lcA (st + 1))) (lcO (st + 1) + j) := by
  unfold dM
  exact cpR_i _ (φ := fun k => lcO st + k) (fun i k h1 h2 => by omega) (fun i k h1 h2 e => lc_sep (show st ≠ st + 1 by omega) (by omega) (by omega) (by omega) h2 (by rw [hi] at e; exact e.symm)) j hj
theorem dM6_I {ad : Nat → Nat} (hi : ∀ a b : Nat, (ad a = ad b) = (a = b)) (M : Mm) {r : Nat} (h0 : r ≠ 250) (h1 : r ≠ 257) (h2 : r ≠ 258) (h3 : r ≠ 259) : (dM6 ad M).1 (ad r) = M.1 (ad r) := by
  unfold dM6
  rw [sI_1 _ _ _ (by rw [Ne, hi]; exact h0)]
  unfold dM5
  rw [cpQ_I]
  unfold dM4
  rw [cpR_o _ _ _ (by rw [Ne, hi]; exact h1), dM_o hi _ _ h2 h3, dM_o hi _ _ h2 h3, dM_o hi _ _ h2 h3]
theorem dM6_J {ad : Nat → Nat} (hi : ∀ a b : Nat, (ad a = ad b) = (a = b)) (M : Mm) {r : Nat} (h0 : r ≠ 260) : (dM6 ad M).2 (ad r) = M.2 (ad r) := by
  unfold dM6
  rw [sI_2]
  unfold dM5
  rw [cpQ_o _ _ _ (by rw [Ne, hi]; exact h0)]
  unfold dM4
  rw [cpR_J, dM_J, dM_J, dM_J]
theorem dM6_c (ad : Nat → Nat) (M : Mm) : gI (dM6 ad M) (ad 250) 10 = nI 3 := by
  unfold dM6
  exact gI_s _ _ _ _
theorem dM6_0 {ad : Nat → Nat} (hi : ∀ a b : Nat, (ad a = ad b) = (a = b)) (M : Mm) {j : Nat} (hj : j ≠ 10) : gI (dM6 ad M) (ad 250) j = gI M (ad 250) j := by
  unfold dM6
  rw [gI_k _ _ _ hj]
  unfold gI dM5
  rw [cpQ_I]
  unfold dM4
  rw [cpR_o _ _ _ (by rw [Ne, hi]; omega), dM_o hi _ _ (by omega) (by omega), dM_o hi _ _ (by omega) (by omega), dM_o hi _ _ (by omega) (by omega)]
theorem dM6_257 {ad : Nat → Nat} (hi : ∀ a b : Nat, (ad a = ad b) = (a = b)) (M : Mm) {k : Nat} (hk : k < 330) : (dM6 ad M).1 (ad 257) k = M.1 (ad 257) (k + 110) := by
  unfold dM6
  rw [sI_1 _ _ _ (by rw [Ne, hi]; omega)]
  unfold dM5
  rw [cpQ_I]
  unfold dM4
  rw [cpR_sh _ _ _ (by omega) hk]
  rw [dM_o hi _ _ (by omega) (by omega), dM_o hi _ _ (by omega) (by omega), dM_o hi _ _ (by omega) (by omega)]
theorem dM6_260 (ad : Nat → Nat) (M : Mm) {k : Nat} (hk : k < 12) : (dM6 ad M).2 (ad 260) k = M.2 (ad 260) (k + 4) := by
  unfold dM6
  rw [sI_2]
  unfold dM5
  rw [cpQ_sh _ _ _ (by omega) hk]
  unfold dM4
  rw [cpR_J, dM_J, dM_J, dM_J]
theorem dM6_lc {ad : Nat → Nat} (hi : ∀ a b : Nat, (ad a = ad b) = (a = b)) (M : Mm) (k : Nat) : (dM6 ad M).1 (ad (lcA k)) = (dM ad 2 (dM ad 1 (dM ad 0 M))).1 (ad (lcA k)) := by
  unfold dM6
  rw [sI_1 _ _ _ (Ne.symm (lcA_ne hi (by omega) (by omega)))]
  unfold dM5
  rw [cpQ_I]
  unfold dM4
  rw [cpR_o _ _ _ (Ne.symm (lcA_ne hi (by omega) (by omega)))]
theorem dM6_ice {ad : Nat → Nat} (hi : ∀ a b : Nat, (ad a = ad b) = (a = b)) (M : Mm) {k j : Nat} (hk : k < 3) (hj : j < 5010) : (dM6 ad M).1 (ad (lcA k)) (lcO k + j) = M.1 (ad (lcA (k + 1))) (lcO (k + 1) + j) := by
  rw [dM6_lc hi]
  rcases (show k = 0 ∨ k = 1 ∨ k = 2 by omega) with rfl | rfl | rfl
  · rw [dM_n hi _ (by omega) (by omega) (by omega) hj, dM_n hi _ (by omega) (by omega) (by omega) hj, dM_i hi _ (by omega) hj]
  · rw [dM_n hi _ (by omega) (by omega) (by omega) hj, dM_i hi _ (by omega) hj, dM_n hi _ (by omega) (by omega) (by omega) hj]
  · rw [dM_i hi _ (by omega) hj, dM_n hi _ (by omega) (by omega) (by omega) hj, dM_n hi _ (by omega) (by omega) (by omega) hj]
theorem dM6_SV {ad : Nat → Nat} (hi : ∀ a b : Nat, (ad a = ad b) = (a = b)) {M : Mm} {k : Nat} (hk : k < 3) {s : Sx} (hs : SV ad M (k + 1) s) : SV ad (dM6 ad M) k s := by
  obtain ⟨s1, s2, s3⟩ := hs
  refine ⟨fun j hj => ?_, fun b y hb hy => ?_, fun j hj => ?_⟩
  · rw [dM6_257 hi M (by omega), show 110 * k + j + 110 = 110 * (k + 1) + j by omega]
    exact s1 j hj
  · rw [dM6_ice hi M hk (by omega)]
    exact s2 b y hb hy
  · rw [dM6_260 ad M (by omega), show 4 * k + j + 4 = 4 * (k + 1) + j by omega]
    exact s3 j hj

