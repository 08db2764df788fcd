/-! a stake's year -/
theorem IV_upd {m : Nat → Int32} (I : IV m) {k : Nat} (v : Int32) (h1 : 10 ≤ k) (h2 : ∀ b, b < 10 → k ≠ 14 + 6 * b ∧ k ≠ 14 + 6 * b + 1 ∧ k ≠ 14 + 6 * b + 2) (h3 : ∀ s, s < 6 → k ≠ 74 + 6 * s) : IV (upd m k v) := by
  have hnb := I.2.2.2.2.2.2.2.2.1.2.2
  have hns := I.2.2.2.2.2.2.2.2.2.1.2.2
  have e8 : upd m k v 8 = m 8 := pk_un (by omega)
  have e9 : upd m k v 9 = m 9 := pk_un (by omega)
  unfold IV
  rw [pk_un (show 0 ≠ k by omega), pk_un (show 1 ≠ k by omega), pk_un (show 2 ≠ k by omega), pk_un (show 3 ≠ k by omega), pk_un (show 4 ≠ k by omega), pk_un (show 5 ≠ k by omega), pk_un (show 6 ≠ k by omega), pk_un (show 7 ≠ k by omega), e8, e9]
  obtain ⟨i0, i1, i2, i3, i4, i5, i6, i7, i8, i9, ib, is⟩ := I
  refine ⟨i0, i1, i2, i3, i4, i5, i6, i7, i8, i9, fun b hb => ?_, fun s hs => ?_⟩
  · obtain ⟨q1, q2, q3⟩ := h2 b (by omega)
    rw [pk_un (Ne.symm q1), pk_un (Ne.symm q2), pk_un (Ne.symm q3)]
    exact ib b hb
  · have q1 := h3 s (by omega)
    rw [pk_un (Ne.symm q1)]
    exact is s hs
theorem IV_stk {m : Nat → Int32} (I : IV m) {s b : Nat} (hs : s < 6) (hb : b < nt (m 8)) : IV (upd m (74 + 6 * s) (nI b)) := by
  have hnb := I.2.2.2.2.2.2.2.2.1.2.2
  have hns := I.2.2.2.2.2.2.2.2.2.1.2.2
  have e8 : upd m (74 + 6 * s) (nI b) 8 = m 8 := pk_un (by omega)
  have e9 : upd m (74 + 6 * s) (nI b) 9 = m 9 := pk_un (by omega)
  unfold IV
  rw [pk_un (show 0 ≠ _ by omega), pk_un (show 1 ≠ _ by omega), pk_un (show 2 ≠ _ by omega), pk_un (show 3 ≠ _ by omega), pk_un (show 4 ≠ _ by omega), pk_un (show 5 ≠ _ by omega), pk_un (show 6 ≠ _ by omega), pk_un (show 7 ≠ _ by omega), e8, e9]
  obtain ⟨i0, i1, i2, i3, i4, i5, i6, i7, i8, i9, ib, is⟩ := I
  refine ⟨i0, i1, i2, i3, i4, i5, i6, i7, i8, i9, fun b' hb' => ?_, fun s' hs' => ?_⟩
  · rw [pk_un (show 14 + 6 * b' ≠ _ by omega), pk_un (show 14 + 6 * b' + 1 ≠ _ by omega), pk_un (show 14 + 6 * b' + 2 ≠ _ by omega)]
    exact ib b' hb'
  · by_cases h : s' = s
    · subst h
      rw [pk_us, nt_nI (by omega)]
      exact ⟨rg_nI (by omega) (by omega) (by omega), hb⟩
    · rw [pk_un (show 74 + 6 * s' ≠ _ by omega)]
      exact is s' hs'
theorem snS_upd {m : Nat → Int32} {b k : Nat} (v : Int32) (h0 : 5 ≤ k) (h1 : k ≠ 14 + 6 * b) : snS (upd m k v) b = snS m b := by
  unfold snS
  rw [pk_un (show 0 ≠ k by omega), pk_un (show 1 ≠ k by omega), pk_un (show 4 ≠ k by omega), pk_un (Ne.symm h1)]
def kB (m : Nat → Int32) (s : Nat) : Nat := nt (m (74 + 6 * s))
def kC (m : Nat → Int32) (s : Nat) : Int32 := (m (74 + 6 * s + 3) + nI (snS m (kB m s))) - m (14 + 6 * kB m s + 3)
def kU (m : Nat → Int32) (s : Nat) : Nat → Int32 := upd (upd m (74 + 6 * s + 5) (m (74 + 6 * s + 5) + nI 1)) (74 + 6 * s + 3) (kC m s)
def kM (m : Nat → Int32) (s : Nat) : Nat → Int32 := if -(m (74 + 6 * s + 2)) ≤ kC m s then mvM (kU m s) s (mvR (kU m s) s) else upd (kU m s) (74 + 6 * s + 4) (nI 1)
theorem kU_IV {m : Nat → Int32} (I : IV m) {s : Nat} (hs : s < 6) : IV (kU m s) := by
  unfold kU
  exact IV_upd (IV_upd I _ (by omega) (fun b hb => by omega) (fun s' _ => by omega)) _ (by omega) (fun b hb => by omega) (fun s' _ => by omega)
