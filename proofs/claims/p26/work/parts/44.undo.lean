/-! the reference's keep, undo, and what is set aside -/
def hp (n : Nat) (h : Nat → Sx) (s : Sx) : Nat → Sx := if n = 4 then (fun k => if k = 3 then s else h (k + 1)) else (fun k => if k = n then s else h k)
def np (n : Nat) : Nat := if n = 4 then 4 else n + 1
def FK (ad : Nat → Nat) (M M' : Mm) : Prop := (∀ r, r ≠ 250 → r ≠ 257 → r ≠ 258 → r ≠ 259 → M'.1 (ad r) = M.1 (ad r)) ∧ (∀ r, r ≠ 260 → M'.2 (ad r) = M.2 (ad r)) ∧ (∀ j, j ≠ 10 → gI M' (ad 250) j = gI M (ad 250) j)
theorem FK_t {ad : Nat → Nat} {M M' M'' : Mm} (h : FK ad M M') (h' : FK ad M' M'') : FK ad M M'' := ⟨fun r a b c d => (h'.1 r a b c d).trans (h.1 r a b c d), fun r a => (h'.2.1 r a).trans (h.2.1 r a), fun j a => (h'.2.2 j a).trans (h.2.2 j a)⟩
theorem kM4_FK {ad : Nat → Nat} (hi : ∀ a b : Nat, (ad a = ad b) = (a = b)) (M : Mm) (n : Nat) : FK ad M (kM4 ad M n) := ⟨fun r h0 h1 h2 h3 => kM4_I M n (by rw [Ne, hi]; exact h0) (by rw [Ne, hi]; exact h1) (lcA_ne hi h2 h3), fun r h0 => kM4_J M n (by rw [Ne, hi]; exact h0), fun j hj => kM4_0 hi M n hj⟩
theorem dM6_FK {ad : Nat → Nat} (hi : ∀ a b : Nat, (ad a = ad b) = (a = b)) (M : Mm) : FK ad M (dM6 ad M) := ⟨fun r h0 h1 h2 h3 => dM6_I hi M h0 h1 h2 h3, fun r h0 => dM6_J hi M h0, fun j hj => dM6_0 hi M hj⟩
/-- states that are the same as far as is looked at -/
def EQs (s s' : Sx) : Prop := (∀ k, k < 110 → s'.1 k = s.1 k) ∧ (∀ b y, b < 10 → s'.2.1 b y = s.2.1 b y) ∧ (∀ k, k < 4 → s'.2.2 k = s.2.2 k)
def Zs (s : Sx) : Prop := ∀ b y, b < 10 → 501 ≤ y → s.2.1 b y = 0
theorem EQ_Z {s s' : Sx} (e : EQs s s') (z : Zs s) : Zs s' := fun b y hb hy => (e.2.1 b y hb).trans (z b y hb hy)
def uM1 (ad : Nat → Nat) (M : Mm) (n : Nat) : Mm := cpR (sI M (ad 250) 10 (nI n)) (ad 252) (ad (lcA n)) psiK (fun k => lcO n + k) 5010
def uM2 (ad : Nat → Nat) (M : Mm) (n : Nat) : Mm := cpR (uM1 ad M n) (ad 251) (ad 257) (fun k => k) (fun k => 110 * n + k) 110
def uM3 (ad : Nat → Nat) (M : Mm) (n : Nat) : Mm := cpQ (uM2 ad M n) (ad 253) (ad 260) (fun k => k) (fun k => 4 * n + k) 4
theorem uM3_I {ad : Nat → Nat} (hi : ∀ a b : Nat, (ad a = ad b) = (a = b)) (M : Mm) (n : Nat) {r : Nat} (h0 : r ≠ 250) (h1 : r ≠ 251) (h2 : r ≠ 252) : (uM3 ad M n).1 (ad r) = M.1 (ad r) := by
  unfold uM3
  rw [cpQ_I]
  unfold uM2
  rw [cpR_o _ _ _ (by rw [Ne, hi]; exact h1)]
  unfold uM1
  rw [cpR_o _ _ _ (by rw [Ne, hi]; exact h2), sI_1 _ _ _ (by rw [Ne, hi]; exact h0)]
theorem uM3_J {ad : Nat → Nat} (hi : ∀ a b : Nat, (ad a = ad b) = (a = b)) (M : Mm) (n : Nat) {r : Nat} (h0 : r ≠ 253) : (uM3 ad M n).2 (ad r) = M.2 (ad r) := by
  unfold uM3
  rw [cpQ_o _ _ _ (by rw [Ne, hi]; exact h0)]
  unfold uM2
  rw [cpR_J]
  unfold uM1
  rw [cpR_J, sI_2]
theorem uM3_c {ad : Nat → Nat} (hi : ∀ a b : Nat, (ad a = ad b) = (a = b)) (M : Mm) (n : Nat) : gI (uM3 ad M n) (ad 250) 10 = nI n := by
  unfold gI uM3
  rw [cpQ_I]
  unfold uM2
  rw [cpR_o _ _ _ (by rw [Ne, hi]; omega)]
  unfold uM1
  rw [cpR_o _ _ _ (by rw [Ne, hi]; omega)]
  exact gI_s _ _ _ _
theorem uM3_0 {ad : Nat → Nat} (hi : ∀ a b : Nat, (ad a = ad b) = (a = b)) (M : Mm) (n : Nat) {j : Nat} (hj : j ≠ 10) : gI (uM3 ad M n) (ad 250) j = gI M (ad 250) j := by
  unfold gI uM3
  rw [cpQ_I]
  unfold uM2
  rw [cpR_o _ _ _ (by rw [Ne, hi]; omega)]
  unfold uM1
  rw [cpR_o _ _ _ (by rw [Ne, hi]; omega)]
  exact gI_k _ _ _ hj
theorem uM3_SV {ad : Nat → Nat} (hi : ∀ a b : Nat, (ad a = ad b) = (a = b)) {M : Mm} {n k : Nat} {s : Sx} (hs : SV ad M k s) : SV ad (uM3 ad M n) k s := by
  obtain ⟨s1, s2, s3⟩ := hs
  have hl : lcA k ≠ 250 ∧ lcA k ≠ 251 ∧ lcA k ≠ 252 := by
    unfold lcA
    split <;> omega
  refine ⟨fun j hj => ?_, fun b y hb hy => ?_, fun j hj => ?_⟩
  · rw [uM3_I hi M n (by omega) (by omega) (by omega)]
    exact s1 j hj
  · rw [uM3_I hi M n hl.1 hl.2.1 hl.2.2]
    exact s2 b y hb hy
  · rw [uM3_J hi M n (by omega)]
    exact s3 j hj
def uF (s t : Sx) : Nat → Nat → Nat := fun b y => if b < 10 ∧ y < 501 then t.2.1 b y else s.2.1 b y
theorem uM3_EQ {ad : Nat → Nat} (hi : ∀ a b : Nat, (ad a = ad b) = (a = b)) {M : Mm} {n : Nat} {s t : Sx} (hz : Zs s) (hzt : Zs t) (hs : SV ad M n t) : EQs t ((uM3 ad M n).1 (ad 251), uF s t, (uM3 ad M n).2 (ad 253)) := by
  obtain ⟨s1, s2, s3⟩ := hs
  refine ⟨fun k hk => ?_, fun b y hb => ?_, fun k hk => ?_⟩
  · show (uM3 ad M n).1 (ad 251) k = _
    unfold uM3
    rw [cpQ_I]
    unfold uM2
    have h1 := cpR_i (uM1 ad M n) (d := ad 251) (s := ad 257) (φ := fun k => k) (ψ := fun k => 110 * n + k) (N := 110) (fun i k h1 h2 => by omega) (fun i k h1 h2 e => absurd e (by rw [hi]; omega)) k hk
    refine h1.trans ?_
    unfold uM1
    rw [cpR_o _ _ _ (by rw [Ne, hi]; omega), sI_1 _ _ _ (by rw [Ne, hi]; omega)]
    exact s1 k hk
  · show uF s t b y = _
    unfold uF
    by_cases h : y < 501
    · rw [if_pos ⟨hb, h⟩]
    · rw [if_neg (fun q => h q.2), hz b y hb (by omega), hzt b y hb (by omega)]
  · show (uM3 ad M n).2 (ad 253) k = _
    unfold uM3
    have h1 := cpQ_i (uM2 ad M n) (d := ad 253) (s := ad 260) (φ := fun k => k) (ψ := fun k => 4 * n + k) (N := 4) (fun i k h1 h2 => by omega) (fun i k h1 h2 e => absurd e (by rw [hi]; omega)) k hk
    refine h1.trans ?_
    unfold uM2
    rw [cpR_J]
    unfold uM1
    rw [cpR_J, sI_2]
    exact s3 k hk

