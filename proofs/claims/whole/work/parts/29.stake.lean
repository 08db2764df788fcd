/-! a stake's year -/
theorem IV_upd {m : Nat → Int32} (I : IV m) {k : Nat} (v : Int32) (h1 : 10 ≤ k) (h2 : ∀ b, b < 10 → k ≠ 14 + 6 * b ∧ k ≠ 14 + 6 * b + 1 ∧ k ≠ 14 + 6 * b + 2) (h3 : ∀ s, s < 6 → k ≠ 74 + 6 * s) : IV (upd m k v) := by
  have hnb := I.2.2.2.2.2.2.2.2.1.2.2
  have hns := I.2.2.2.2.2.2.2.2.2.1.2.2
  have e8 : upd m k v 8 = m 8 := pk_un (by omega)
  have e9 : upd m k v 9 = m 9 := pk_un (by omega)
  unfold IV
  rw [pk_un (show 0 ≠ k by omega), pk_un (show 1 ≠ k by omega), pk_un (show 2 ≠ k by omega), pk_un (show 3 ≠ k by omega), pk_un (show 4 ≠ k by omega), pk_un (show 5 ≠ k by omega), pk_un (show 6 ≠ k by omega), pk_un (show 7 ≠ k by omega), e8, e9]
  obtain ⟨i0, i1, i2, i3, i4, i5, i6, i7, i8, i9, ib, is⟩ := I
  refine ⟨i0, i1, i2, i3, i4, i5, i6, i7, i8, i9, fun b hb => ?_, fun s hs => ?_⟩
  · obtain ⟨q1, q2, q3⟩ := h2 b (by omega)
    rw [pk_un (Ne.symm q1), pk_un (Ne.symm q2), pk_un (Ne.symm q3)]
    exact ib b hb
  · have q1 := h3 s (by omega)
    rw [pk_un (Ne.symm q1)]
    exact is s hs
theorem IV_stk {m : Nat → Int32} (I : IV m) {s b : Nat} (hs : s < 6) (hb : b < nt (m 8)) : IV (upd m (74 + 6 * s) (nI b)) := by
  have hnb := I.2.2.2.2.2.2.2.2.1.2.2
  have hns := I.2.2.2.2.2.2.2.2.2.1.2.2
  have e8 : upd m (74 + 6 * s) (nI b) 8 = m 8 := pk_un (by omega)
  have e9 : upd m (74 + 6 * s) (nI b) 9 = m 9 := pk_un (by omega)
  unfold IV
  rw [pk_un (show 0 ≠ _ by omega), pk_un (show 1 ≠ _ by omega), pk_un (show 2 ≠ _ by omega), pk_un (show 3 ≠ _ by omega), pk_un (show 4 ≠ _ by omega), pk_un (show 5 ≠ _ by omega), pk_un (show 6 ≠ _ by omega), pk_un (show 7 ≠ _ by omega), e8, e9]
  obtain ⟨i0, i1, i2, i3, i4, i5, i6, i7, i8, i9, ib, is⟩ := I
  refine ⟨i0, i1, i2, i3, i4, i5, i6, i7, i8, i9, fun b' hb' => ?_, fun s' hs' => ?_⟩
  · rw [pk_un (show 14 + 6 * b' ≠ _ by omega), pk_un (show 14 + 6 * b' + 1 ≠ _ by omega), pk_un (show 14 + 6 * b' + 2 ≠ _ by omega)]
    exact ib b' hb'
  · by_cases h : s' = s
    · subst h
      rw [pk_us, nt_nI (by omega)]
      exact ⟨rg_nI (by omega) (by omega) (by omega), hb⟩
    · rw [pk_un (show 74 + 6 * s' ≠ _ by omega)]
      exact is s' hs'
theorem snS_upd {m : Nat → Int32} {b k : Nat} (v : Int32) (h0 : 5 ≤ k) (h1 : k ≠ 14 + 6 * b) : snS (upd m k v) b = snS m b := by
  unfold snS
  rw [pk_un (show 0 ≠ k by omega), pk_un (show 1 ≠ k by omega), pk_un (show 4 ≠ k by omega), pk_un (Ne.symm h1)]
def kB (m : Nat → Int32) (s : Nat) : Nat := nt (m (74 + 6 * s))
def kC (m : Nat → Int32) (s : Nat) : Int32 := (m (74 + 6 * s + 3) + nI (snS m (kB m s))) - m (14 + 6 * kB m s + 3)
def kU (m : Nat → Int32) (s : Nat) : Nat → Int32 := upd (upd m (74 + 6 * s + 5) (m (74 + 6 * s + 5) + nI 1)) (74 + 6 * s + 3) (kC m s)
def kM (m : Nat → Int32) (s : Nat) : Nat → Int32 := if -(m (74 + 6 * s + 2)) ≤ kC m s then mvM (kU m s) s (mvR (kU m s) s) else upd (kU m s) (74 + 6 * s + 4) (nI 1)
theorem kU_IV {m : Nat → Int32} (I : IV m) {s : Nat} (hs : s < 6) : IV (kU m s) := by
  unfold kU
  exact IV_upd (IV_upd I _ (by omega) (fun b hb => by omega) (fun s' _ => by omega)) _ (by omega) (fun b hb => by omega) (fun s' _ => by omega)
theorem x7_stepStake {ad : Nat → Nat} {T : Ty} {R : Rm} (G : RG ad T R) {M : Mm} {m : Nat → Int32} {f : Nat → Nat → Nat} {acc : Nat → Int64} (I : IV m) {s : Nat} (hs : s < nt (m 9)) : fn_X7_stepStake T R (ad 250) (nI s) (P3 ad M m (fI f) acc) = some ((), P3 ad M (kM m s) (fI f) acc) := by
  have G0 := G
  have hs6 : s < 6 := Nat.lt_of_lt_of_le hs I.2.2.2.2.2.2.2.2.2.1.2.2
  have hnb10 := I.2.2.2.2.2.2.2.2.1.2.2
  obtain ⟨hb1, hb2⟩ := I.2.2.2.2.2.2.2.2.2.2.2 s hs
  obtain ⟨b, hb, -, hb9⟩ := rg_get hb1
  have hntb : kB m s = b := by
    unfold kB
    rw [hb, nt_nI (by omega)]
  have hb2' : b < nt (m 8) := by
    rw [show nt (m (74 + 6 * s)) = b from hntb] at hb2
    exact hb2
  have e0 := fun M => x7_ofStake G0 M (b := s) (k := 0) (by omega)
  have e5 := fun M => x7_ofStake G0 M (b := s) (k := 5) (by omega)
  have e3 := fun M => x7_ofStake G0 M (b := s) (k := 3) (by omega)
  have e2 := fun M => x7_ofStake G0 M (b := s) (k := 2) (by omega)
  have p5 := fun M v => x7_putStake G0 M (b := s) (k := 5) v (by omega)
  have p3 := fun M v => x7_putStake G0 M (b := s) (k := 3) v (by omega)
  have p4 := fun M v => x7_putStake G0 M (b := s) (k := 4) v (by omega)
  have o3 := fun M => x7_of G0 M (b := b) (k := 3) (by omega)
  have I1 : IV (upd m (74 + 6 * s + 5) (m (74 + 6 * s + 5) + nI 1)) := IV_upd I _ (by omega) (fun b hb => by omega) (fun s' _ => by omega)
  have esn := x7_sn G0 (M := M) (f := f) (acc := acc) I1 (b := b) (by rw [pk_un (by omega)]; exact hb2')
  rw [snS_upd _ (by omega) (by omega)] at esn
  have hm := x7_moves G0 (M := M) (ice := fI f) (acc := acc) (kU_IV I hs6) (s := s) (by unfold kU; rw [pk_un (by omega), pk_un (by omega)]; exact hs)
  unfold kM
  unfold kU kC at hm ⊢
  rw [hntb] at hm ⊢
  obtain ⟨hi, k0, k251, n251, r251, k252, n252, r252, k253, n253, r253, k254, n254, r254, k255, n255, r255, k256, n256, r256, k257, n257, r257, k258, n258, r258, k259, n259, r259, k260, n260, r260, k261, n261, r261⟩ := G
  unfold fn_X7_stepStake
  by_cases hc : -(m (74 + 6 * s + 2)) ≤ m (74 + 6 * s + 3) + nI (snS m b) - m (14 + 6 * b + 3)
  · rw [if_pos hc]
    simp (disch := omega) only [↓lm1, l0, l1, l2, l3, l4, l5, l6, l7, l8, l9, l10, l11, l12, l13, l14, l31, l32, l44, l48, l50, l57, l59, l60, l74, l100, l110, l126, l300, l330, l500, l501, l801, l1000, l5000, l5010, l8010, l8192, l9000, l10000, l1000000, nI_add, pk_mul, nI_clamp, nI_leI, nI_ltI, nI_eq, chk_d, chk_t, chk_inb, rfm_s, bnd_e, cal_e, calR_e, if_pos, if_neg, k0, k251, n251, r251, k252, n252, r252, k253, n253, r253, k254, n254, r254, k255, n255, r255, k256, n256, r256, k257, n257, r257, k258, n258, r258, k259, n259, r259, k260, n260, r260, k261, n261, r261, P3_m, sP3_m, e0, e5, e3, e2, p5, p3, p4, o3, hb, esn, pk_un, pk_us, hc, if_true, Nat.add_zero, hm]
  · rw [if_neg hc]
    simp (disch := omega) only [↓lm1, l0, l1, l2, l3, l4, l5, l6, l7, l8, l9, l10, l11, l12, l13, l14, l31, l32, l44, l48, l50, l57, l59, l60, l74, l100, l110, l126, l300, l330, l500, l501, l801, l1000, l5000, l5010, l8010, l8192, l9000, l10000, l1000000, nI_add, pk_mul, nI_clamp, nI_leI, nI_ltI, nI_eq, chk_d, chk_t, chk_inb, rfm_s, bnd_e, cal_e, calR_e, if_pos, if_neg, k0, k251, n251, r251, k252, n252, r252, k253, n253, r253, k254, n254, r254, k255, n255, r255, k256, n256, r256, k257, n257, r257, k258, n258, r258, k259, n259, r259, k260, n260, r260, k261, n261, r261, P3_m, sP3_m, e0, e5, e3, e2, p5, p3, p4, o3, hb, esn, pk_un, pk_us, hc, if_false, Nat.add_zero]
