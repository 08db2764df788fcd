/-! both together: the first fault of a text -/
def rsn (tx : Nat → Nat) (tl a y : Nat) : Nat := match pY tx tl a with
  | none => 1
  | some p => if nm tx a (p.1 - a) ≤ 5000 ∧ nm tx (p.1 + 1) (p.2 - (p.1 + 1)) ≤ 9000 then (if y = 500 then 3 else 0) else 2
def nx (tx : Nat → Nat) (tl a : Nat) : Nat := match pY tx tl a with
  | none => 0
  | some p => p.2 + 1
theorem rs_n {tx : Nat → Nat} {tl a y : Nat} (h : pY tx tl a = none) : rsn tx tl a y = 1 := by
  unfold rsn
  rw [h]
theorem rs_s {tx : Nat → Nat} {tl a y e e2 : Nat} (h : pY tx tl a = some (e, e2)) : rsn tx tl a y = if nm tx a (e - a) ≤ 5000 ∧ nm tx (e + 1) (e2 - (e + 1)) ≤ 9000 then (if y = 500 then 3 else 0) else 2 := by
  unfold rsn
  rw [h]
theorem nx_s {tx : Nat → Nat} {tl a e e2 : Nat} (h : pY tx tl a = some (e, e2)) : nx tx tl a = e2 + 1 := by
  unfold nx
  rw [h]
theorem pY_b {tx : Nat → Nat} {tl a e e2 : Nat} (h : pY tx tl a = some (e, e2)) : a < e ∧ e + 1 < e2 ∧ e2 < tl ∧ nm tx a (e - a) ≤ 9999 ∧ nm tx (e + 1) (e2 - (e + 1)) ≤ 9999 := by
  obtain ⟨h1, h2⟩ := pY_s h
  obtain ⟨p1, p2, p3, p4, p5, p6⟩ := pN_s h1
  obtain ⟨s1, s2, s3, s4, s5, s6⟩ := pN_s h2
  exact ⟨p2, s2, s3, nm_4 (by omega) (fun x a b => p6 x a (by omega)), nm_4 (by omega) (fun x a b => s6 x a (by omega))⟩
theorem rs_0 {tx : Nat → Nat} {tl a y : Nat} (h : rsn tx tl a y = 0) : y ≠ 500 ∧ ∃ e e2, pY tx tl a = some (e, e2) ∧ nm tx a (e - a) ≤ 5000 ∧ nm tx (e + 1) (e2 - (e + 1)) ≤ 9000 ∧ nx tx tl a = e2 + 1 := by
  cases hp : pY tx tl a with
  | none =>
    rw [rs_n hp] at h
    omega
  | some p =>
    obtain ⟨e, e2⟩ := p
    rw [rs_s hp] at h
    split at h
    · rename_i hc
      split at h
      · omega
      · rename_i hy
        exact ⟨hy, e, e2, rfl, hc.1, hc.2, nx_s hp⟩
    · omega
theorem rs_le (tx : Nat → Nat) (tl a y : Nat) : rsn tx tl a y ≤ 3 := by
  cases hp : pY tx tl a with
  | none =>
    rw [rs_n hp]
    omega
  | some p =>
    obtain ⟨e, e2⟩ := p
    rw [rs_s hp]
    split
    · split <;> omega
    · omega
/-- years that are possible, from the i-th on at a; and where they end -/
def ps (tx : Nat → Nat) (tl Y : Nat) : Nat → Nat → Nat → Nat × Nat
  | 0, i, a => (i, a)
  | d + 1, i, a => if a < tl ∧ rsn tx tl a (Y + i) = 0 then ps tx tl Y d (i + 1) (nx tx tl a) else (i, a)
theorem ps_t {tx : Nat → Nat} {tl Y d i a : Nat} (h : a < tl ∧ rsn tx tl a (Y + i) = 0) : ps tx tl Y (d + 1) i a = ps tx tl Y d (i + 1) (nx tx tl a) := if_pos h
theorem ps_f {tx : Nat → Nat} {tl Y d i a : Nat} (h : ¬ (a < tl ∧ rsn tx tl a (Y + i) = 0)) : ps tx tl Y (d + 1) i a = (i, a) := if_neg h
theorem ps_nx {tx : Nat → Nat} {tl Y i a : Nat} (hY : Y + i ≤ 500) (ha : 4 * i ≤ a) (h : a < tl ∧ rsn tx tl a (Y + i) = 0) : 4 * (i + 1) ≤ nx tx tl a ∧ nx tx tl a ≤ tl ∧ Y + (i + 1) ≤ 500 := by
  obtain ⟨h1, e, e2, h2, -, -, h5⟩ := rs_0 h.2
  obtain ⟨b1, b2, b3, -, -⟩ := pY_b h2
  rw [h5]
  omega
/-- the end: where a text stops, or its first year that isn't possible -/
theorem ps_e {tx : Nat → Nat} {tl Y : Nat} (htl : tl ≤ 60) : ∀ d i a, d + i = 60 → 4 * i ≤ a → a ≤ tl → Y + i ≤ 500 → i ≤ (ps tx tl Y d i a).1 ∧ 4 * (ps tx tl Y d i a).1 ≤ (ps tx tl Y d i a).2 ∧ (ps tx tl Y d i a).2 ≤ tl ∧ Y + (ps tx tl Y d i a).1 ≤ 500 ∧ ((ps tx tl Y d i a).2 < tl → rsn tx tl (ps tx tl Y d i a).2 (Y + (ps tx tl Y d i a).1) ≠ 0) := by
  intro d
  induction d with
  | zero =>
    intro i a h1 h2 h3 h4
    omega
  | succ d ih =>
    intro i a h1 h2 h3 h4
    by_cases h : a < tl ∧ rsn tx tl a (Y + i) = 0
    · rw [ps_t h]
      obtain ⟨n1, n2, n3⟩ := ps_nx h4 h2 h
      obtain ⟨q1, q2, q3, q4, q5⟩ := ih (i + 1) (nx tx tl a) (by omega) n1 n2 n3
      exact ⟨by omega, q2, q3, q4, q5⟩
    · rw [ps_f h]
      exact ⟨Nat.le_refl _, h2, h3, h4, fun h5 h6 => h ⟨h5, h6⟩⟩
/-- the class's reason -/
theorem x6_reasonAt {ad : Nat → Nat} {T : Ty} {R : Rm} (X : XG ad T R) (w0 : isK T (ad 0) 6 = true) (zx : R (ad 0) 2 = some (ad 207)) {b : Nat} (z0 : R (ad 0) 3 = some b) (k0 : isK T b 5 = true) {M : Mm} {tl : Nat} {tx : Nat → Nat} (ct : CT ad M tl tx) {Y : Nat} (h6 : gI M b 6 = nI Y) {a i : Nat} (ha : a ≤ tl) (hY : Y + i ≤ 500) : fn_X6_reasonAt T R (ad 0) (nI a) (nI i) M = some (nI (rsn tx tl a (Y + i)), M) := by
  have x1 := X.1
  have f0 : fLeast 0 = nI 0 := rfl
  have f2 : fLeast 2 = nI 0 := rfl
  have m0 : fMost 0 = nI 5000 := rfl
  have m2 : fMost 2 = nI 9000 := rfl
  unfold fn_X6_reasonAt
  cases hp : pY tx tl a with
  | none =>
    have q := x4_yearN X ct ha hp
    rw [rs_n hp]
    simp (disch := omega) only [↓cal_w6, ↓cal_w7, ↓lm1, l0, l1, l2, l3, l4, l5, l6, l7, l8, l9, l10, l11, l12, l13, l14, l31, l32, l44, l48, l50, l57, l59, l60, l74, l100, l110, l126, l300, l330, l500, l501, l801, l1000, l5000, l5010, l8010, l8192, l9000, l10000, l1000000, and_self, and_true, true_and, and_false, false_and, nI_add, pk_mul, nI_clamp, ↓reduceIte, eF, lT, lF, leT, leF, chk_d, chk_t, chk_inb, rfm_s, bnd_e, cal_e, calR_e, w0, zx, x1, ↓cal_q q, q, nONE_leF]
  | some p =>
    obtain ⟨e, e2⟩ := p
    obtain ⟨q1, q2, q3⟩ := x4_year X ct ha hp
    obtain ⟨b1, b2, b3, b4, b5⟩ := pY_b hp
    have ct2 := ct.2.1
    rw [rs_s hp]
    by_cases c1 : nm tx a (e - a) ≤ 5000
    · have e1 : (nI 0 ≤ nI (nm tx a (e - a)) ∧ nI (nm tx a (e - a)) ≤ nI 5000) = True := in_t (by omega) c1 (by omega)
      by_cases c2 : nm tx (e + 1) (e2 - (e + 1)) ≤ 9000
      · have e3 : (nI 0 ≤ nI (nm tx (e + 1) (e2 - (e + 1))) ∧ nI (nm tx (e + 1) (e2 - (e + 1))) ≤ nI 9000) = True := in_t (by omega) c2 (by omega)
        rw [if_pos (And.intro c1 c2)]
        by_cases c3 : Y + i = 500
        · rw [if_pos c3]
          simp (disch := omega) only [↓cal_w6, ↓cal_w7, ↓lm1, l0, l1, l2, l3, l4, l5, l6, l7, l8, l9, l10, l11, l12, l13, l14, l31, l32, l44, l48, l50, l57, l59, l60, l74, l100, l110, l126, l300, l330, l500, l501, l801, l1000, l5000, l5010, l8010, l8192, l9000, l10000, l1000000, and_self, and_true, true_and, and_false, false_and, nI_add, pk_mul, nI_clamp, ↓reduceIte, eF, lT, lF, leT, leF, chk_d, chk_t, chk_inb, rfm_s, bnd_e, cal_e, calR_e, w0, zx, x1, ↓cal_q q1, q1, q2, q3, f0, f2, m0, m2, e1, e3, z0, k0, h6]
        · rw [if_neg c3]
          simp (disch := omega) only [↓cal_w6, ↓cal_w7, ↓lm1, l0, l1, l2, l3, l4, l5, l6, l7, l8, l9, l10, l11, l12, l13, l14, l31, l32, l44, l48, l50, l57, l59, l60, l74, l100, l110, l126, l300, l330, l500, l501, l801, l1000, l5000, l5010, l8010, l8192, l9000, l10000, l1000000, and_self, and_true, true_and, and_false, false_and, nI_add, pk_mul, nI_clamp, ↓reduceIte, eF, lT, lF, leT, leF, chk_d, chk_t, chk_inb, rfm_s, bnd_e, cal_e, calR_e, w0, zx, x1, ↓cal_q q1, q1, q2, q3, f0, f2, m0, m2, e1, e3, z0, k0, h6]
      · have e3 : (nI 0 ≤ nI (nm tx (e + 1) (e2 - (e + 1))) ∧ nI (nm tx (e + 1) (e2 - (e + 1))) ≤ nI 9000) = False := in_hi (by omega) (by omega)
        rw [if_neg (c := nm tx a (e - a) ≤ 5000 ∧ nm tx (e + 1) (e2 - (e + 1)) ≤ 9000) (fun h => c2 h.2)]
        simp (disch := omega) only [↓cal_w6, ↓cal_w7, ↓lm1, l0, l1, l2, l3, l4, l5, l6, l7, l8, l9, l10, l11, l12, l13, l14, l31, l32, l44, l48, l50, l57, l59, l60, l74, l100, l110, l126, l300, l330, l500, l501, l801, l1000, l5000, l5010, l8010, l8192, l9000, l10000, l1000000, and_self, and_true, true_and, and_false, false_and, nI_add, pk_mul, nI_clamp, ↓reduceIte, eF, lT, lF, leT, leF, chk_d, chk_t, chk_inb, rfm_s, bnd_e, cal_e, calR_e, w0, zx, x1, ↓cal_q q1, q1, q2, q3, f0, f2, m0, m2, e1, e3]
    · have e1 : (nI 0 ≤ nI (nm tx a (e - a)) ∧ nI (nm tx a (e - a)) ≤ nI 5000) = False := in_hi (by omega) (by omega)
      rw [if_neg (c := nm tx a (e - a) ≤ 5000 ∧ nm tx (e + 1) (e2 - (e + 1)) ≤ 9000) (fun h => c1 h.1)]
      simp (disch := omega) only [↓cal_w6, ↓cal_w7, ↓lm1, l0, l1, l2, l3, l4, l5, l6, l7, l8, l9, l10, l11, l12, l13, l14, l31, l32, l44, l48, l50, l57, l59, l60, l74, l100, l110, l126, l300, l330, l500, l501, l801, l1000, l5000, l5010, l8010, l8192, l9000, l10000, l1000000, and_self, and_true, true_and, and_false, false_and, nI_add, pk_mul, nI_clamp, ↓reduceIte, eF, lT, lF, leT, leF, chk_d, chk_t, chk_inb, rfm_s, bnd_e, cal_e, calR_e, w0, zx, x1, ↓cal_q q1, q1, q2, f0, m0, e1]
theorem x6_poss_loop {ad : Nat → Nat} {T : Ty} {R : Rm} (X : XG ad T R) (w0 : isK T (ad 0) 6 = true) (zx : R (ad 0) 2 = some (ad 207)) {b : Nat} (z0 : R (ad 0) 3 = some b) (k0 : isK T b 5 = true) {M : Mm} {tl : Nat} {tx : Nat → Nat} (ct : CT ad M tl tx) {Y : Nat} (h6 : gI M b 6 = nI Y) : ∀ d i a fuel, d + i = 60 → 4 * i ≤ a → a ≤ tl → Y + i ≤ 500 → d < fuel → fb_X6_possibleYears_4 T R (ad 0) fuel (nI a) (nI i) M = some (nI (ps tx tl Y d i a).1, M) := by
  have x1 := X.1
  have ct1 := ct.1
  have ct2 := ct.2.1
  intro d
  induction d with
  | zero =>
    intro i a fuel h1 h2 h3 h4 hf
    omega
  | succ d ih =>
    intro i a fuel h1 h2 h3 h4 hf
    obtain ⟨n', rfl⟩ : ∃ n', fuel = n' + 1 := ⟨fuel - 1, by omega⟩
    rw [fbs_X6_possibleYears_4]
    unfold fs_X6_possibleYears_4
    have hr := x6_reasonAt X w0 zx z0 k0 ct h6 h3 h4
    have hle := rs_le tx tl a (Y + i)
    by_cases ha : a < tl
    · by_cases hs : rsn tx tl a (Y + i) = 0
      · obtain ⟨n1, n2, n3⟩ := ps_nx h4 h2 ⟨ha, hs⟩
        have ih' := ih (i + 1) (nx tx tl a) n' (by omega) n1 n2 n3 (by omega)
        obtain ⟨-, e, e2, g1, -, -, g4⟩ := rs_0 hs
        obtain ⟨q1, -, -⟩ := x4_year X ct h3 g1
        rw [← g4] at q1
        rw [ps_t ⟨ha, hs⟩]
        rw [hs] at hr
        simp (disch := omega) only [↓cal_w6, ↓cal_w7, ↓lm1, l0, l1, l2, l3, l4, l5, l6, l7, l8, l9, l10, l11, l12, l13, l14, l31, l32, l44, l48, l50, l57, l59, l60, l74, l100, l110, l126, l300, l330, l500, l501, l801, l1000, l5000, l5010, l8010, l8192, l9000, l10000, l1000000, and_self, and_true, true_and, and_false, false_and, nI_add, pk_mul, nI_clamp, ↓reduceIte, eF, lT, lF, leT, leF, chk_d, chk_t, chk_inb, rfm_s, bnd_e, cal_e, calR_e, w0, zx, x1, ct1, hr, q1, ih']
      · rw [ps_f (fun h => hs h.2)]
        simp (disch := omega) only [↓cal_w6, ↓cal_w7, ↓lm1, l0, l1, l2, l3, l4, l5, l6, l7, l8, l9, l10, l11, l12, l13, l14, l31, l32, l44, l48, l50, l57, l59, l60, l74, l100, l110, l126, l300, l330, l500, l501, l801, l1000, l5000, l5010, l8010, l8192, l9000, l10000, l1000000, and_self, and_true, true_and, and_false, false_and, nI_add, pk_mul, nI_clamp, ↓reduceIte, eF, lT, lF, leT, leF, chk_d, chk_t, chk_inb, rfm_s, bnd_e, cal_e, calR_e, w0, zx, x1, ct1, hr]
    · rw [ps_f (fun h => ha h.1)]
      simp (disch := omega) only [↓cal_w6, ↓cal_w7, ↓lm1, l0, l1, l2, l3, l4, l5, l6, l7, l8, l9, l10, l11, l12, l13, l14, l31, l32, l44, l48, l50, l57, l59, l60, l74, l100, l110, l126, l300, l330, l500, l501, l801, l1000, l5000, l5010, l8010, l8192, l9000, l10000, l1000000, and_self, and_true, true_and, and_false, false_and, nI_add, pk_mul, nI_clamp, ↓reduceIte, eF, lT, lF, leT, leF, chk_d, chk_t, chk_inb, rfm_s, bnd_e, cal_e, calR_e, w0, zx, x1, ct1]
theorem x4_start_loop {ad : Nat → Nat} {T : Ty} {R : Rm} (X : XG ad T R) {M : Mm} {tl : Nat} {tx : Nat → Nat} (ct : CT ad M tl tx) {Y : Nat} : ∀ d i a fuel, d + i = 60 → 4 * i ≤ a → a ≤ tl → Y + i ≤ 500 → d < fuel → fb_X4_startOfYear_4 T R (ad 207) (nI (ps tx tl Y d i a).1) fuel (nI a) (nI i) M = some (nI (ps tx tl Y d i a).2, M) := by
  have x1 := X.1
  have ct2 := ct.2.1
  intro d
  induction d with
  | zero =>
    intro i a fuel h1 h2 h3 h4 hf
    omega
  | succ d ih =>
    intro i a fuel h1 h2 h3 h4 hf
    obtain ⟨n', rfl⟩ : ∃ n', fuel = n' + 1 := ⟨fuel - 1, by omega⟩
    rw [fbs_X4_startOfYear_4]
    unfold fs_X4_startOfYear_4
    by_cases h : a < tl ∧ rsn tx tl a (Y + i) = 0
    · obtain ⟨n1, n2, n3⟩ := ps_nx h4 h2 h
      obtain ⟨p1, p2, p3, p4, -⟩ := ps_e (tx := tx) (Y := Y) ct2 d (i + 1) (nx tx tl a) (by omega) n1 n2 n3
      have ih' := ih (i + 1) (nx tx tl a) n' (by omega) n1 n2 n3 (by omega)
      obtain ⟨-, e, e2, g1, -, -, g4⟩ := rs_0 h.2
      obtain ⟨q1, -, -⟩ := x4_year X ct h3 g1
      rw [← g4] at q1
      rw [ps_t h]
      simp (disch := omega) only [↓cal_w6, ↓cal_w7, ↓lm1, l0, l1, l2, l3, l4, l5, l6, l7, l8, l9, l10, l11, l12, l13, l14, l31, l32, l44, l48, l50, l57, l59, l60, l74, l100, l110, l126, l300, l330, l500, l501, l801, l1000, l5000, l5010, l8010, l8192, l9000, l10000, l1000000, and_self, and_true, true_and, and_false, false_and, nI_add, pk_mul, nI_clamp, ↓reduceIte, eF, lT, lF, leT, leF, chk_d, chk_t, chk_inb, rfm_s, bnd_e, cal_e, calR_e, x1, q1, ih']
    · rw [ps_f h]
      simp (disch := omega) only [↓cal_w6, ↓cal_w7, ↓lm1, l0, l1, l2, l3, l4, l5, l6, l7, l8, l9, l10, l11, l12, l13, l14, l31, l32, l44, l48, l50, l57, l59, l60, l74, l100, l110, l126, l300, l330, l500, l501, l801, l1000, l5000, l5010, l8010, l8192, l9000, l10000, l1000000, and_self, and_true, true_and, and_false, false_and, nI_add, pk_mul, nI_clamp, ↓reduceIte, eF, lT, lF, leT, leF, chk_d, chk_t, chk_inb, rfm_s, bnd_e, cal_e, calR_e]
/-- the reference's reason -/
theorem x7_reason_loop {ad : Nat → Nat} {T : Ty} {R : Rm} (G : RG ad T R) {tl : Nat} {tx : Nat → Nat} (htl : tl ≤ 60) (htx : ∀ k, k < tl → 32 ≤ tx k ∧ tx k ≤ 126) {Y : Nat} : ∀ d i a fuel (M : Mm), d + i = 60 → 4 * i ≤ a → a ≤ tl → Y + i ≤ 500 → RX ad M tl tx → gI M (ad 250) 13 = nI a → d < fuel → ∃ M', fb_X7_reason_13 T R (ad 250) fuel (nI (Y + i)) M = some (nI (if (ps tx tl Y d i a).2 < tl then rsn tx tl (ps tx tl Y d i a).2 (Y + (ps tx tl Y d i a).1) else 0), M') ∧ FJ ad M M' ∧ ((ps tx tl Y d i a).2 < tl → gI M' (ad 250) 14 = nI (ps tx tl Y d i a).2) := by
  have hi := G.1
  have k250 := G.2.1
  intro d
  induction d with
  | zero =>
    intro i a fuel M h1 h2 h3 h4 rx h13 hf
    omega
  | succ d ih =>
    intro i a fuel M h1 h2 h3 h4 rx h13 hf
    obtain ⟨n', rfl⟩ : ∃ n', fuel = n' + 1 := ⟨fuel - 1, by omega⟩
    have rx1 := rx.1
    by_cases ha : a < tl
    rotate_left
    · rw [ps_f (fun h => ha h.1), if_neg ha]
      refine ⟨M, ?_, FJ_r ad M, fun h => absurd h ha⟩
      rw [fbs_X7_reason_13]
      unfold fs_X7_reason_13
      simp (disch := omega) only [↓cal_w6, ↓cal_w7, ↓lm1, l0, l1, l2, l3, l4, l5, l6, l7, l8, l9, l10, l11, l12, l13, l14, l31, l32, l44, l48, l50, l57, l59, l60, l74, l100, l110, l126, l300, l330, l500, l501, l801, l1000, l5000, l5010, l8010, l8192, l9000, l10000, l1000000, and_self, and_true, true_and, and_false, false_and, nI_add, pk_mul, nI_clamp, ↓reduceIte, eF, lT, lF, leT, leF, chk_d, chk_t, chk_inb, rfm_s, bnd_e, cal_e, calR_e, k250, rx1, h13]
    have f0 := FJ_s hi M (k := 14) (by omega) (nI a)
    obtain ⟨M1, q1, q2, q3, q4⟩ := x7_readYear G htl htx (a := a) (by omega) (FJ_RX f0 rx) ((gI_k _ _ _ (by omega)).trans h13)
    have q3' : gI M1 (ad 250) 14 = nI a := q3.trans (gI_s _ _ _ _)
    cases hp : pY tx tl a with
    | none =>
      have hn : ¬ (a < tl ∧ rsn tx tl a (Y + i) = 0) := fun h => by
        rw [rs_n hp] at h
        omega
      rw [hp] at q1
      have ei : bI (none : Option (Nat × Nat)).isSome = nI 0 := rfl
      rw [ei] at q1
      rw [ps_f hn]
      refine ⟨M1, ?_, FJ_t f0 q2, fun _ => q3'⟩
      show _ = some (nI (if a < tl then rsn tx tl a (Y + i) else 0), M1)
      rw [if_pos ha, rs_n hp, fbs_X7_reason_13]
      unfold fs_X7_reason_13
      simp (disch := omega) only [↓cal_w6, ↓cal_w7, ↓lm1, l0, l1, l2, l3, l4, l5, l6, l7, l8, l9, l10, l11, l12, l13, l14, l31, l32, l44, l48, l50, l57, l59, l60, l74, l100, l110, l126, l300, l330, l500, l501, l801, l1000, l5000, l5010, l8010, l8192, l9000, l10000, l1000000, and_self, and_true, true_and, and_false, false_and, nI_add, pk_mul, nI_clamp, ↓reduceIte, eF, lT, lF, leT, leF, chk_d, chk_t, chk_inb, rfm_s, bnd_e, cal_e, calR_e, k250, rx1, h13, q1]
    | some p =>
      obtain ⟨e, e2⟩ := p
      obtain ⟨g13, g16, g15⟩ := q4 e e2 hp
      obtain ⟨b1, b2, b3, b4, b5⟩ := pY_b hp
      rw [hp] at q1
      have ei : bI (some (e, e2)).isSome = nI 1 := rfl
      rw [ei] at q1
      have ers := rs_s (y := Y + i) hp
      by_cases c1 : nm tx a (e - a) ≤ 5000
      · by_cases c2 : nm tx (e + 1) (e2 - (e + 1)) ≤ 9000
        · rw [if_pos (And.intro c1 c2)] at ers
          by_cases c3 : Y + i = 500
          · rw [if_pos c3] at ers
            rw [ps_f (fun h => by omega)]
            refine ⟨M1, ?_, FJ_t f0 q2, fun _ => q3'⟩
            show _ = some (nI (if a < tl then rsn tx tl a (Y + i) else 0), M1)
            rw [if_pos ha, ers, fbs_X7_reason_13]
            unfold fs_X7_reason_13
            simp (disch := omega) only [↓cal_w6, ↓cal_w7, ↓lm1, l0, l1, l2, l3, l4, l5, l6, l7, l8, l9, l10, l11, l12, l13, l14, l31, l32, l44, l48, l50, l57, l59, l60, l74, l100, l110, l126, l300, l330, l500, l501, l801, l1000, l5000, l5010, l8010, l8192, l9000, l10000, l1000000, and_self, and_true, true_and, and_false, false_and, nI_add, pk_mul, nI_clamp, ↓reduceIte, eF, lT, lF, leT, leF, chk_d, chk_t, chk_inb, rfm_s, bnd_e, cal_e, calR_e, k250, rx1, h13, q1, g16, g15, c3]
          · rw [if_neg c3] at ers
            obtain ⟨n1, n2, n3⟩ := ps_nx h4 h2 ⟨ha, ers⟩
            have en := nx_s hp
            obtain ⟨M2, u1, u2, u3⟩ := ih (i + 1) (nx tx tl a) n' M1 (by omega) n1 n2 n3 (FJ_RX (FJ_t f0 q2) rx) (by rw [en]; exact g13) (by omega)
            rw [ps_t ⟨ha, ers⟩]
            refine ⟨M2, ?_, FJ_t (FJ_t f0 q2) u2, u3⟩
            rw [← u1, fbs_X7_reason_13]
            unfold fs_X7_reason_13
            simp (disch := omega) only [↓cal_w6, ↓cal_w7, ↓lm1, l0, l1, l2, l3, l4, l5, l6, l7, l8, l9, l10, l11, l12, l13, l14, l31, l32, l44, l48, l50, l57, l59, l60, l74, l100, l110, l126, l300, l330, l500, l501, l801, l1000, l5000, l5010, l8010, l8192, l9000, l10000, l1000000, and_self, and_true, true_and, and_false, false_and, nI_add, pk_mul, nI_clamp, ↓reduceIte, eF, lT, lF, leT, leF, chk_d, chk_t, chk_inb, rfm_s, bnd_e, cal_e, calR_e, k250, rx1, h13, q1, g16, g15, Nat.add_assoc]
        · rw [if_neg (fun h => c2 h.2)] at ers
          rw [ps_f (fun h => by omega)]
          refine ⟨M1, ?_, FJ_t f0 q2, fun _ => q3'⟩
          show _ = some (nI (if a < tl then rsn tx tl a (Y + i) else 0), M1)
          rw [if_pos ha, ers, fbs_X7_reason_13]
          unfold fs_X7_reason_13
          simp (disch := omega) only [↓cal_w6, ↓cal_w7, ↓lm1, l0, l1, l2, l3, l4, l5, l6, l7, l8, l9, l10, l11, l12, l13, l14, l31, l32, l44, l48, l50, l57, l59, l60, l74, l100, l110, l126, l300, l330, l500, l501, l801, l1000, l5000, l5010, l8010, l8192, l9000, l10000, l1000000, and_self, and_true, true_and, and_false, false_and, nI_add, pk_mul, nI_clamp, ↓reduceIte, eF, lT, lF, leT, leF, chk_d, chk_t, chk_inb, rfm_s, bnd_e, cal_e, calR_e, k250, rx1, h13, q1, g16, g15]
      · rw [if_neg (fun h => c1 h.1)] at ers
        rw [ps_f (fun h => by omega)]
        refine ⟨M1, ?_, FJ_t f0 q2, fun _ => q3'⟩
        show _ = some (nI (if a < tl then rsn tx tl a (Y + i) else 0), M1)
        rw [if_pos ha, ers, fbs_X7_reason_13]
        unfold fs_X7_reason_13
        simp (disch := omega) only [↓cal_w6, ↓cal_w7, ↓lm1, l0, l1, l2, l3, l4, l5, l6, l7, l8, l9, l10, l11, l12, l13, l14, l31, l32, l44, l48, l50, l57, l59, l60, l74, l100, l110, l126, l300, l330, l500, l501, l801, l1000, l5000, l5010, l8010, l8192, l9000, l10000, l1000000, and_self, and_true, true_and, and_false, false_and, nI_add, pk_mul, nI_clamp, ↓reduceIte, eF, lT, lF, leT, leF, chk_d, chk_t, chk_inb, rfm_s, bnd_e, cal_e, calR_e, k250, rx1, h13, q1, g16, g15]
/-- both find the same -/
theorem x7_reason {ad : Nat → Nat} {T : Ty} {R : Rm} (G : RG ad T R) {M : Mm} {tl : Nat} {tx : Nat → Nat} (htl : tl ≤ 60) (htx : ∀ k, k < tl → 32 ≤ tx k ∧ tx k ≤ 126) {Y : Nat} (hY : Y ≤ 500) (rx : RX ad M tl tx) (p7 : gI M (ad 251) 7 = nI Y) : ∃ M', fn_X7_reason T R (ad 250) M = some (nI (if (ps tx tl Y 60 0 0).2 < tl then rsn tx tl (ps tx tl Y 60 0 0).2 (Y + (ps tx tl Y 60 0 0).1) else 0), M') ∧ FJ ad M M' ∧ ((ps tx tl Y 60 0 0).2 < tl → gI M' (ad 250) 14 = nI (ps tx tl Y 60 0 0).2) := by
  have hi := G.1
  have f0 := FJ_s hi M (k := 13) (by omega) (nI 0)
  obtain ⟨M', q1, q2, q3⟩ := x7_reason_loop G htl htx (Y := Y) 60 0 0 FU (sI M (ad 250) 13 (nI 0)) (by omega) (by omega) (by omega) (by omega) (FJ_RX f0 rx) (gI_s _ _ _ _) (FU_gt (by omega))
  refine ⟨M', ?_, FJ_t f0 q2, q3⟩
  rw [← q1]
  have p7' : gI (sI M (ad 250) 13 (nI 0)) (ad 251) 7 = nI Y := (gI_o _ _ _ (by rw [Ne, hi]; omega)).trans p7
  obtain ⟨-, k0, k251, n251, r251, -⟩ := G
  unfold fn_X7_reason
  simp (disch := omega) only [↓cal_w6, ↓cal_w7, ↓lm1, l0, l1, l2, l3, l4, l5, l6, l7, l8, l9, l10, l11, l12, l13, l14, l31, l32, l44, l48, l50, l57, l59, l60, l74, l100, l110, l126, l300, l330, l500, l501, l801, l1000, l5000, l5010, l8010, l8192, l9000, l10000, l1000000, and_self, and_true, true_and, and_false, false_and, nI_add, pk_mul, nI_clamp, ↓reduceIte, eF, lT, lF, leT, leF, chk_d, chk_t, chk_inb, rfm_s, bnd_e, cal_e, calR_e, k0, k251, n251, r251, p7', Nat.add_zero]
theorem x6_possible {ad : Nat → Nat} {T : Ty} {R : Rm} (X : XG ad T R) (w0 : isK T (ad 0) 6 = true) (zx : R (ad 0) 2 = some (ad 207)) {b : Nat} (z0 : R (ad 0) 3 = some b) (k0 : isK T b 5 = true) {M : Mm} {tl : Nat} {tx : Nat → Nat} (ct : CT ad M tl tx) {Y : Nat} (hY : Y ≤ 500) (h6 : gI M b 6 = nI Y) : fn_X6_possibleYears T R (ad 0) M = some (nI (ps tx tl Y 60 0 0).1, M) ∧ fn_X4_startOfYear T R (ad 207) (nI (ps tx tl Y 60 0 0).1) M = some (nI (ps tx tl Y 60 0 0).2, M) := by
  constructor
  · unfold fn_X6_possibleYears
    exact x6_poss_loop X w0 zx z0 k0 ct h6 60 0 0 FU (by omega) (by omega) (by omega) (by omega) (FU_gt (by omega))
  · unfold fn_X4_startOfYear
    exact x4_start_loop X ct 60 0 0 FU (by omega) (by omega) (by omega) (by omega) (FU_gt (by omega))
theorem g_fault {ad : Nat → Nat} {T : Ty} {M : Mm} {R : Rm} {s : Sx} {n : Nat} {h : Nat → Sx} {tl' : Nat} {tx : Nat → Nat} {β : Nat → Nat} {σ : Nat → Nat → Nat} (w : WD ad T M R s n h tl' tx β σ) (x : Int32) : SR ad T R (fn_X6_fault T R (ad 0) x M) (fun M1 => fn_X7_fault T R (ad 250) x M1) := by
  have w1 := w
  obtain ⟨G, hs, ct, GR, rsw, rk, rx⟩ := w
  have hi := GR.1
  have b4 := CG_bs G (show 4 < 5 by omega)
  have tg := CG_tg G (.inr b4)
  have tg0 := tg
  have hM := M_TV hi M (β 4)
  have rt := hs.2.2.1
  have rt0 := rt
  obtain ⟨Y, nb, ns, g, hY5, hz⟩ := hs.2.2.2.2.1
  have P := RS_RP rsw
  have I := g.1.1
  have hY8 := g.2.2.2.2.1
  have hnb := g.2.2.2.2.2.1
  have hns := g.2.2.2.2.2.2.1
  have n7 := g.2.2.2.2.2.2.2.1
  have n8 := g.2.2.2.2.2.2.2.2.1
  have n9 := g.2.2.2.2.2.2.2.2.2
  have h7 := g.2.1
  have h8 := g.2.2.1
  have h9 := g.2.2.2.1
  have hK : 1000000 * nb + 300000 * Y < 2 ^ 30 := by omega
  have z0 := G.2.2.2.2.1
  have w0 := G.1
  have p7 : gI M (ad 251) 7 = nI Y := (P.1 7 (by omega)).trans h7
  have p8 : gI M (ad 251) 8 = nI nb := (P.1 8 (by omega)).trans h8
  have p9 : gI M (ad 251) 9 = nI ns := (P.1 9 (by omega)).trans h9
  have GR0 := GR
  obtain ⟨_, kR, k251, n251, r251, k252, n252, r252, k253, n253, r253, k254, n254, r254, k255, n255, r255, k256, n256, r256, k257, n257, r257, k258, n258, r258, k259, n259, r259, k260, n260, r260, k261, n261, r261⟩ := GR
  obtain ⟨t1, t04, t05, t06, t40, t41, t42, t43, tl, tb, ts⟩ := rt
  rw [h8] at t04
  rw [h9] at t05
  rw [h7] at t06
  obtain ⟨hq, k0, r00, r01, r02, r03, k1, n1, k2, n2, k3, n3, k4, rb, kb, rl, lg, rs, ks, sl, si⟩ := tg
  have X := CG_XG G
  have x1 := X.1
  have zx : R (ad 0) 2 = some (ad 207) := G.2.2.2.1
  have ct1 := ct.1
  have htl := ct.2.1
  by_cases hx : nI 0 ≤ x ∧ x ≤ nI 1
  rotate_left
  · have hx' : (nI 0 ≤ x ∧ x ≤ nI 1) = False := eq_false hx
    refine SR_no w1 (-2000000001) ?_ ?_
    · unfold fn_X6_fault
      simp (disch := omega) only [↓cal_w6, ↓cal_w7, ↓lm1, l0, l1, l2, l3, l4, l5, l6, l7, l8, l9, l10, l11, l12, l13, l14, l31, l32, l44, l48, l50, l57, l59, l60, l74, l100, l110, l126, l300, l330, l500, l501, l801, l1000, l5000, l5010, l8010, l8192, l9000, l10000, l1000000, and_self, and_true, true_and, and_false, false_and, nI_add, pk_mul, nI_clamp, ↓reduceIte, eF, lT, lF, leT, leF, chk_d, chk_t, chk_inb, rfm_s, bnd_e, cal_e, calR_e, hx']
    · show fn_X7_fault T R (ad 250) x M = _
      unfold fn_X7_fault
      simp (disch := omega) only [↓cal_w6, ↓cal_w7, ↓lm1, l0, l1, l2, l3, l4, l5, l6, l7, l8, l9, l10, l11, l12, l13, l14, l31, l32, l44, l48, l50, l57, l59, l60, l74, l100, l110, l126, l300, l330, l500, l501, l801, l1000, l5000, l5010, l8010, l8192, l9000, l10000, l1000000, and_self, and_true, true_and, and_false, false_and, nI_add, pk_mul, nI_clamp, ↓reduceIte, eF, lT, lF, leT, leF, chk_d, chk_t, chk_inb, rfm_s, bnd_e, cal_e, calR_e, hx']
  obtain ⟨v, rfl, v1, v2⟩ := bet hx (by omega) (by omega)
  have hx' : (nI 0 ≤ nI v ∧ nI v ≤ nI 1) = True := eq_true hx
  have h6 : gI M (qq ad (β 4) 0) 6 = nI Y := t06
  obtain ⟨a1, a2⟩ := x6_possible X w0 zx z0 k0 ct hY5 h6
  obtain ⟨M', q1, q2, q3⟩ := x7_reason GR0 htl ct.2.2.2 hY5 rx p7
  obtain ⟨e1, e2, e3, e4, e5⟩ := ps_e (tx := tx) (Y := Y) htl 60 0 0 (by omega) (by omega) (by omega) (by omega)
  have hr := x6_reasonAt X w0 zx z0 k0 ct h6 e3 e4
  have hle := rs_le tx tl' (ps tx tl' Y 60 0 0).2 (Y + (ps tx tl' Y 60 0 0).1)
  by_cases hc : (ps tx tl' Y 60 0 0).2 < tl'
  · have hne := e5 hc
    have q3' := q3 hc
    rw [if_pos hc] at q1
    rcases (show v = 0 ∨ v = 1 by omega) with rfl | rfl
    · refine ⟨nI (ps tx tl' Y 60 0 0).2, M, M', ?_, ?_, s, n, h, tl', tx, β, σ, WD_J w1 q2⟩
      · unfold fn_X6_fault
        simp (disch := omega) only [↓cal_w6, ↓cal_w7, ↓lm1, l0, l1, l2, l3, l4, l5, l6, l7, l8, l9, l10, l11, l12, l13, l14, l31, l32, l44, l48, l50, l57, l59, l60, l74, l100, l110, l126, l300, l330, l500, l501, l801, l1000, l5000, l5010, l8010, l8192, l9000, l10000, l1000000, and_self, and_true, true_and, and_false, false_and, nI_add, pk_mul, nI_clamp, ↓reduceIte, eF, lT, lF, leT, leF, chk_d, chk_t, chk_inb, rfm_s, bnd_e, cal_e, calR_e, hx', w0, zx, x1, a1, a2, ct1]
      · show fn_X7_fault T R (ad 250) _ M = _
        unfold fn_X7_fault
        simp (disch := omega) only [↓cal_w6, ↓cal_w7, ↓lm1, l0, l1, l2, l3, l4, l5, l6, l7, l8, l9, l10, l11, l12, l13, l14, l31, l32, l44, l48, l50, l57, l59, l60, l74, l100, l110, l126, l300, l330, l500, l501, l801, l1000, l5000, l5010, l8010, l8192, l9000, l10000, l1000000, and_self, and_true, true_and, and_false, false_and, nI_add, pk_mul, nI_clamp, ↓reduceIte, eF, lT, lF, leT, leF, chk_d, chk_t, chk_inb, rfm_s, bnd_e, cal_e, calR_e, hx', kR, q1, q3']
    · refine ⟨nI (rsn tx tl' (ps tx tl' Y 60 0 0).2 (Y + (ps tx tl' Y 60 0 0).1)), M, M', ?_, ?_, s, n, h, tl', tx, β, σ, WD_J w1 q2⟩
      · unfold fn_X6_fault
        simp (disch := omega) only [↓cal_w6, ↓cal_w7, ↓lm1, l0, l1, l2, l3, l4, l5, l6, l7, l8, l9, l10, l11, l12, l13, l14, l31, l32, l44, l48, l50, l57, l59, l60, l74, l100, l110, l126, l300, l330, l500, l501, l801, l1000, l5000, l5010, l8010, l8192, l9000, l10000, l1000000, and_self, and_true, true_and, and_false, false_and, nI_add, pk_mul, nI_clamp, ↓reduceIte, eF, lT, lF, leT, leF, chk_d, chk_t, chk_inb, rfm_s, bnd_e, cal_e, calR_e, hx', w0, zx, x1, a1, a2, ct1, hr]
      · show fn_X7_fault T R (ad 250) _ M = _
        unfold fn_X7_fault
        simp (disch := omega) only [↓cal_w6, ↓cal_w7, ↓lm1, l0, l1, l2, l3, l4, l5, l6, l7, l8, l9, l10, l11, l12, l13, l14, l31, l32, l44, l48, l50, l57, l59, l60, l74, l100, l110, l126, l300, l330, l500, l501, l801, l1000, l5000, l5010, l8010, l8192, l9000, l10000, l1000000, and_self, and_true, true_and, and_false, false_and, nI_add, pk_mul, nI_clamp, ↓reduceIte, eF, lT, lF, leT, leF, chk_d, chk_t, chk_inb, rfm_s, bnd_e, cal_e, calR_e, hx', kR, q1]
  · rw [if_neg hc] at q1
    refine ⟨-2000000004, M, M', ?_, ?_, s, n, h, tl', tx, β, σ, WD_J w1 q2⟩
    · unfold fn_X6_fault
      simp (disch := omega) only [↓cal_w6, ↓cal_w7, ↓lm1, l0, l1, l2, l3, l4, l5, l6, l7, l8, l9, l10, l11, l12, l13, l14, l31, l32, l44, l48, l50, l57, l59, l60, l74, l100, l110, l126, l300, l330, l500, l501, l801, l1000, l5000, l5010, l8010, l8192, l9000, l10000, l1000000, and_self, and_true, true_and, and_false, false_and, nI_add, pk_mul, nI_clamp, ↓reduceIte, eF, lT, lF, leT, leF, chk_d, chk_t, chk_inb, rfm_s, bnd_e, cal_e, calR_e, hx', w0, zx, x1, a1, a2, ct1]
    · show fn_X7_fault T R (ad 250) _ M = _
      unfold fn_X7_fault
      simp (disch := omega) only [↓cal_w6, ↓cal_w7, ↓lm1, l0, l1, l2, l3, l4, l5, l6, l7, l8, l9, l10, l11, l12, l13, l14, l31, l32, l44, l48, l50, l57, l59, l60, l74, l100, l110, l126, l300, l330, l500, l501, l801, l1000, l5000, l5010, l8010, l8192, l9000, l10000, l1000000, and_self, and_true, true_and, and_false, false_and, nI_add, pk_mul, nI_clamp, ↓reduceIte, eF, lT, lF, leT, leF, chk_d, chk_t, chk_inb, rfm_s, bnd_e, cal_e, calR_e, hx', kR, q1]
