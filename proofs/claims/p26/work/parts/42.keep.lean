/-! the reference's kept states -/
def SV (ad : Nat → Nat) (M : Mm) (k : Nat) (s : Sx) : Prop := (∀ j, j < 110 → M.1 (ad 257) (110 * k + j) = s.1 j) ∧ (∀ b y, b < 10 → y < 501 → M.1 (ad (lcA k)) (lcO k + (501 * b + y)) = nI (s.2.1 b y)) ∧ (∀ j, j < 4 → M.2 (ad 260) (4 * k + j) = s.2.2 j)
def psiK (k : Nat) : Nat := 801 * (k / 501) + (k - k / 501 * 501)
theorem lcA_ne {ad : Nat → Nat} (hi : ∀ a b : Nat, (ad a = ad b) = (a = b)) {r st : Nat} (h1 : r ≠ 258) (h2 : r ≠ 259) : ad r ≠ ad (lcA st) := by
  intro h
  rw [hi] at h
  unfold lcA at h
  split at h <;> omega
theorem lc_sep {st st' i k : Nat} (h : st ≠ st') (h1 : st < 4) (h2 : st' < 4) (hi : i < 5010) (hk : k < 5010) (e : lcA st = lcA st') : lcO st + i ≠ lcO st' + k := by
  unfold lcA at e
  unfold lcO
  split at e <;> split at e <;> simp only [*, if_true, if_false] <;> omega
def kM1 (ad : Nat → Nat) (M : Mm) (n : Nat) : Mm := cpR M (ad (lcA n)) (ad 252) (fun k => lcO n + k) psiK 5010
def kM2 (ad : Nat → Nat) (M : Mm) (n : Nat) : Mm := cpR (kM1 ad M n) (ad 257) (ad 251) (fun k => 110 * n + k) (fun k => k) 110
def kM3 (ad : Nat → Nat) (M : Mm) (n : Nat) : Mm := cpQ (kM2 ad M n) (ad 260) (ad 253) (fun k => 4 * n + k) (fun k => k) 4
def kM4 (ad : Nat → Nat) (M : Mm) (n : Nat) : Mm := sI (kM3 ad M n) (ad 250) 10 (nI (n + 1))
theorem kM4_I {ad : Nat → Nat} (M : Mm) (n : Nat) {a : Nat} (h0 : a ≠ ad 250) (h1 : a ≠ ad 257) (h2 : a ≠ ad (lcA n)) : (kM4 ad M n).1 a = M.1 a := by
  unfold kM4
  rw [sI_1 _ _ _ h0]
  unfold kM3
  rw [cpQ_I]
  unfold kM2
  rw [cpR_o _ _ _ h1]
  unfold kM1
  rw [cpR_o _ _ _ h2]
theorem kM4_J {ad : Nat → Nat} (M : Mm) (n : Nat) {a : Nat} (h0 : a ≠ ad 260) : (kM4 ad M n).2 a = M.2 a := by
  unfold kM4
  rw [sI_2]
  unfold kM3
  rw [cpQ_o _ _ _ h0]
  unfold kM2
  rw [cpR_J]
  unfold kM1
  rw [cpR_J]
theorem kM4_c {ad : Nat → Nat} (M : Mm) (n : Nat) : gI (kM4 ad M n) (ad 250) 10 = nI (n + 1) := by
  unfold kM4
  exact gI_s _ _ _ _
theorem kM4_0 {ad : Nat → Nat} (hi : ∀ a b : Nat, (ad a = ad b) = (a = b)) (M : Mm) (n : Nat) {j : Nat} (hj : j ≠ 10) : gI (kM4 ad M n) (ad 250) j = gI M (ad 250) j := by
  unfold kM4
  rw [gI_k _ _ _ hj]
  unfold gI kM3
  rw [cpQ_I]
  unfold kM2
  rw [cpR_o _ _ _ (by rw [Ne, hi]; omega)]
  unfold kM1
  rw [cpR_o _ _ _ (lcA_ne hi (by omega) (by omega))]
theorem kM4_257 {ad : Nat → Nat} (hi : ∀ a b : Nat, (ad a = ad b) = (a = b)) (M : Mm) (n : Nat) : (kM4 ad M n).1 (ad 257) = (kM2 ad M n).1 (ad 257) := by
  unfold kM4
  rw [sI_1 _ _ _ (by rw [Ne, hi]; omega)]
  unfold kM3
  rw [cpQ_I]
theorem kM4_lc {ad : Nat → Nat} (hi : ∀ a b : Nat, (ad a = ad b) = (a = b)) (M : Mm) (n k : Nat) : (kM4 ad M n).1 (ad (lcA k)) = (kM1 ad M n).1 (ad (lcA k)) := by
  unfold kM4
  rw [sI_1 _ _ _ (Ne.symm (lcA_ne hi (by omega) (by omega)))]
  unfold kM3
  rw [cpQ_I]
  unfold kM2
  rw [cpR_o _ _ _ (Ne.symm (lcA_ne hi (by omega) (by omega)))]
theorem kM4_old {ad : Nat → Nat} (hi : ∀ a b : Nat, (ad a = ad b) = (a = b)) {M : Mm} {n k : Nat} (hn : n < 4) (hk : k < n) {s : Sx} (hs : SV ad M k s) : SV ad (kM4 ad M n) k s := by
  obtain ⟨s1, s2, s3⟩ := hs
  refine ⟨fun j hj => ?_, fun b y hb hy => ?_, fun j hj => ?_⟩
  · rw [kM4_257 hi]
    unfold kM2
    rw [cpR_n _ (fun i hi' => by omega)]
    unfold kM1
    rw [cpR_o _ _ _ (lcA_ne hi (by omega) (by omega))]
    exact s1 j hj
  · rw [kM4_lc hi]
    unfold kM1
    by_cases e : lcA k = lcA n
    · have s2' := s2 b y hb hy
      rw [e] at s2' ⊢
      rw [cpR_n _ (fun i hi' => lc_sep (show k ≠ n by omega) (by omega) hn (by omega) hi' e)]
      exact s2'
    · rw [cpR_o _ _ _ (by rw [Ne, hi]; exact e)]
      exact s2 b y hb hy
  · unfold kM4
    rw [sI_2]
    unfold kM3
    rw [cpQ_n _ (fun i hi' => by omega)]
    unfold kM2
    rw [cpR_J]
    unfold kM1
    rw [cpR_J]
    exact s3 j hj

