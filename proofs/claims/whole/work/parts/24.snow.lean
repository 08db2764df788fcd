/-! snow and melt: numbers with a sign, rounded down -/
theorem bm64 {x : Int} (h1 : -9223372036854775808 ≤ x) (h2 : x < 9223372036854775808) : x.bmod (2 ^ 64) = x := Int.bmod_eq_of_le (by omega) (by omega)
theorem bm32 {x : Int} (h1 : -2147483648 ≤ x) (h2 : x < 2147483648) : x.bmod (2 ^ 32) = x := Int.bmod_eq_of_le (by omega) (by omega)
def zI (z : Int) : Int32 := Int32.ofInt z
theorem zI_toInt {z : Int} (h1 : -2147483648 ≤ z) (h2 : z < 2147483648) : (zI z).toInt = z := by
  unfold zI
  rw [Int32.toInt_ofInt]
  exact bm32 h1 h2
theorem zI_of {x : Int32} {z : Int} (h : x.toInt = z) : x = zI z := by
  apply Int32.toInt_inj.mp
  rw [h, zI_toInt]
  · have := Int32.le_toInt x
    omega
  · have := Int32.toInt_lt x
    omega
theorem zI_nat (n : Nat) : zI (n : Int) = nI n := rfl
theorem x7_floor {T : Ty} {R : Rm} {v : Int64} {M : Mm} {z : Int} (hv : v.toInt = z) (h1 : -1000000000 ≤ z) (h2 : z ≤ 1000000000) : fn_X7_floor T R v (nI 100) M = some (zI (z / 100), M) := by
  have h100 : (nI 100).toInt64 = (100 : Int64) := by decide
  have hne : decide (¬ (100 : Int64) = 0) = true := by decide
  have t100 : (100 : Int64).toInt = 100 := by decide
  have t1 : (1 : Int64).toInt = 1 := by decide
  have t0 : (0 : Int64).toInt = 0 := by decide
  unfold fn_X7_floor
  rw [h100]
  simp only [lg_cmp_lt, hne, chk_t]
  by_cases h : v < 0
  · rw [if_pos h]
    have hz : z < 0 := by
      have := Int64.lt_iff_toInt_lt.mp h
      rw [hv, t0] at this
      exact this
    have a1 : ((100 : Int64) - 1 - v).toInt = 99 - z := by
      rw [Int64.toInt_sub, Int64.toInt_sub, hv, t100, t1, bm64 (x := 100 - 1) (by omega) (by omega), bm64 (by omega) (by omega)]
      omega
    have a2 : (((100 : Int64) - 1 - v) / 100).toInt = (99 - z) / 100 := by
      rw [Int64.toInt_div, a1, t100, Int.tdiv_eq_ediv_of_nonneg (by omega), bm64 (by omega) (by omega)]
    have a3 : (-(((100 : Int64) - 1 - v) / 100)).toInt = z / 100 := by
      rw [Int64.toInt_neg, a2, bm64 (by omega) (by omega)]
      omega
    rw [show (-(((100 : Int64) - 1 - v) / 100)).toInt32 = zI (z / 100) from zI_of (by rw [Int64.toInt_toInt32, a3, bm32 (by omega) (by omega)])]
  · rw [if_neg h]
    have hz : 0 ≤ z := by
      have := Int64.le_iff_toInt_le.mp (Int64.not_lt.mp h)
      rw [hv, t0] at this
      exact this
    have a2 : (v / 100).toInt = z / 100 := by
      rw [Int64.toInt_div, hv, t100, Int.tdiv_eq_ediv_of_nonneg (by omega), bm64 (by omega) (by omega)]
    rw [show (v / 100).toInt32 = zI (z / 100) from zI_of (by rw [Int64.toInt_toInt32, a2, bm32 (by omega) (by omega)])]
/-- growth or fall times the height above the middle, in hundredths, rounded down -/
def gz (g mid h : Nat) : Int := ((g : Int) * ((h : Int) - (mid : Int))) / 100
def snN (s g mid h : Nat) : Nat := ((s : Int) + gz g mid h).toNat
def mlN (s g mid h : Nat) : Nat := ((s : Int) - gz g mid h).toNat
theorem gmul {g mid h : Nat} (hg : g ≤ 500) (hm : mid ≤ 5000) (hh : h ≤ 5000) : -2500000 ≤ (g : Int) * ((h : Int) - (mid : Int)) ∧ (g : Int) * ((h : Int) - (mid : Int)) ≤ 2500000 := by
  have h1 : (g : Int) * ((h : Int) - (mid : Int)) ≤ 500 * 5000 := by
    rcases Int.le_total 0 ((h : Int) - (mid : Int)) with h2 | h2
    · exact Int.mul_le_mul (by omega) (by omega) h2 (by omega)
    · have := Int.mul_nonpos_of_nonneg_of_nonpos (show (0 : Int) ≤ g by omega) h2
      omega
  have h3 : (g : Int) * ((mid : Int) - (h : Int)) ≤ 500 * 5000 := by
    rcases Int.le_total 0 ((mid : Int) - (h : Int)) with h2 | h2
    · exact Int.mul_le_mul (by omega) (by omega) h2 (by omega)
    · have := Int.mul_nonpos_of_nonneg_of_nonpos (show (0 : Int) ≤ g by omega) h2
      omega
  have h4 : (g : Int) * ((mid : Int) - (h : Int)) = -((g : Int) * ((h : Int) - (mid : Int))) := by
    rw [← Int.mul_neg]
    congr 1
    omega
  omega
theorem gz_in {g mid h : Nat} (hg : g ≤ 500) (hm : mid ≤ 5000) (hh : h ≤ 5000) : -25000 ≤ gz g mid h ∧ gz g mid h ≤ 25000 := by
  have := gmul hg hm hh
  unfold gz
  omega
theorem snN_le {s g mid h : Nat} (hs : s ≤ 5000) (hg : g ≤ 500) (hm : mid ≤ 5000) (hh : h ≤ 5000) : snN s g mid h ≤ 30000 := by
  have := gz_in hg hm hh
  unfold snN
  omega
theorem mlN_le {s g mid h : Nat} (hs : s ≤ 9000) (hg : g ≤ 500) (hm : mid ≤ 5000) (hh : h ≤ 5000) : mlN s g mid h ≤ 34000 := by
  have := gz_in hg hm hh
  unfold mlN
  omega
theorem gprod {g mid h : Nat} (hg : g ≤ 500) (hm : mid ≤ 5000) (hh : h ≤ 5000) : ((nI g).toInt64 * (nI h - nI mid).toInt64).toInt = (g : Int) * ((h : Int) - (mid : Int)) := by
  have h1 := gmul hg hm hh
  rw [Int64.toInt_mul, Int32.toInt_toInt64, Int32.toInt_toInt64, nI_toInt (by omega), pk_sub_toInt (by omega) (by omega), bm64 (by omega) (by omega)]
theorem zI_pos {z : Int} (h1 : -2147483648 ≤ z) (h2 : z < 2147483648) : (nI 0 ≤ zI z) = (0 ≤ z) := by
  rw [Int32.le_iff_toInt_le, zI_toInt h1 h2]
  rfl
theorem zI_toNat {z : Int} (h : 0 ≤ z) : zI z = nI z.toNat := by
  rw [← zI_nat, Int.toNat_of_nonneg h]
theorem zI_add (n : Nat) (z : Int) : nI n + zI z = zI ((n : Int) + z) := by
  unfold zI nI
  rw [Int32.ofInt_add]
  rfl
theorem zI_sub (n : Nat) (z : Int) : nI n - zI z = zI ((n : Int) - z) := by
  unfold zI nI
  rw [Int32.ofInt_sub]
  rfl
theorem x7_snowOf {ad : Nat → Nat} {T : Ty} {R : Rm} (G : RG ad T R) {M : Mm} {m : Nat → Int32} {f : Nat → Nat → Nat} {acc : Nat → Int64} (P : RP ad M m f acc) {b s g mid h : Nat} (hb : b < 10) (h0 : m 0 = nI s) (h1 : m 1 = nI g) (h4 : m 4 = nI mid) (hh : m (14 + 6 * b) = nI h) (bs : s ≤ 5000) (bg : g ≤ 500) (bm : mid ≤ 5000) (bh : h ≤ 5000) : fn_X7_snowOf T R (ad 250) (nI b) M = some (nI (snN s g mid h), M) := by
  have G0 := G
  obtain ⟨hi, k0, k251, n251, r251, k252, n252, r252, k253, n253, r253, k254, n254, r254, k255, n255, r255, k256, n256, r256, k257, n257, r257, k258, n258, r258, k259, n259, r259, k260, n260, r260, k261, n261, r261⟩ := G
  obtain ⟨pm, pf, pa⟩ := P
  have g0 : gI M (ad 251) 0 = nI s := (pm 0 (by omega)).trans h0
  have g1 : gI M (ad 251) 1 = nI g := (pm 1 (by omega)).trans h1
  have g4 : gI M (ad 251) 4 = nI mid := (pm 4 (by omega)).trans h4
  have gh : gI M (ad 251) (14 + 6 * b) = nI h := (pm _ (by omega)).trans hh
  have e1 := x7_of G0 M (b := b) (k := 0) (by omega)
  have e2 := fun (M : Mm) => x7_floor (T := T) (R := R) (M := M) (gprod bg bm bh) (by have := gmul bg bm bh; omega) (by have := gmul bg bm bh; omega)
  have hz := gz_in bg bm bh
  unfold fn_X7_snowOf
  simp (disch := omega) only [↓lm1, l0, l1, l2, l3, l4, l5, l6, l7, l8, l9, l10, l11, l12, l13, l14, l31, l32, l44, l48, l50, l57, l59, l60, l74, l100, l110, l126, l300, l330, l500, l501, l801, l1000, l5000, l5010, l8010, l8192, l9000, l10000, l1000000, nI_add, pk_mul, nI_clamp, nI_leI, nI_ltI, nI_eq, chk_d, chk_t, chk_inb, rfm_s, bnd_e, cal_e, calR_e, if_pos, if_neg, k0, k251, n251, r251, k252, n252, r252, k253, n253, r253, k254, n254, r254, k255, n255, r255, k256, n256, r256, k257, n257, r257, k258, n258, r258, k259, n259, r259, k260, n260, r260, k261, n261, r261, e1, g0, g1, g4, gh, Nat.add_zero, e2]
  unfold gz at hz
  rw [zI_add]
  unfold snN gz
  by_cases hp : (0 : Int) ≤ (s : Int) + ((g : Int) * ((h : Int) - (mid : Int))) / 100
  · rw [if_pos ((zI_pos (by omega) (by omega)).mpr hp), zI_toNat hp]
  · rw [if_neg (fun h => hp ((zI_pos (by omega) (by omega)).mp h)), Int.toNat_of_nonpos (by omega)]
theorem x7_meltOf {ad : Nat → Nat} {T : Ty} {R : Rm} (G : RG ad T R) {M : Mm} {m : Nat → Int32} {f : Nat → Nat → Nat} {acc : Nat → Int64} (P : RP ad M m f acc) {b s g mid h : Nat} (hb : b < 10) (h0 : m 2 = nI s) (h1 : m 3 = nI g) (h4 : m 4 = nI mid) (hh : m (14 + 6 * b) = nI h) (bs : s ≤ 9000) (bg : g ≤ 500) (bm : mid ≤ 5000) (bh : h ≤ 5000) : fn_X7_meltOf T R (ad 250) (nI b) M = some (nI (mlN s g mid h), M) := by
  have G0 := G
  obtain ⟨hi, k0, k251, n251, r251, k252, n252, r252, k253, n253, r253, k254, n254, r254, k255, n255, r255, k256, n256, r256, k257, n257, r257, k258, n258, r258, k259, n259, r259, k260, n260, r260, k261, n261, r261⟩ := G
  obtain ⟨pm, pf, pa⟩ := P
  have g0 : gI M (ad 251) 2 = nI s := (pm 2 (by omega)).trans h0
  have g1 : gI M (ad 251) 3 = nI g := (pm 3 (by omega)).trans h1
  have g4 : gI M (ad 251) 4 = nI mid := (pm 4 (by omega)).trans h4
  have gh : gI M (ad 251) (14 + 6 * b) = nI h := (pm _ (by omega)).trans hh
  have e1 := x7_of G0 M (b := b) (k := 0) (by omega)
  have e2 := fun (M : Mm) => x7_floor (T := T) (R := R) (M := M) (gprod bg bm bh) (by have := gmul bg bm bh; omega) (by have := gmul bg bm bh; omega)
  have hz := gz_in bg bm bh
  unfold fn_X7_meltOf
  simp (disch := omega) only [↓lm1, l0, l1, l2, l3, l4, l5, l6, l7, l8, l9, l10, l11, l12, l13, l14, l31, l32, l44, l48, l50, l57, l59, l60, l74, l100, l110, l126, l300, l330, l500, l501, l801, l1000, l5000, l5010, l8010, l8192, l9000, l10000, l1000000, nI_add, pk_mul, nI_clamp, nI_leI, nI_ltI, nI_eq, chk_d, chk_t, chk_inb, rfm_s, bnd_e, cal_e, calR_e, if_pos, if_neg, k0, k251, n251, r251, k252, n252, r252, k253, n253, r253, k254, n254, r254, k255, n255, r255, k256, n256, r256, k257, n257, r257, k258, n258, r258, k259, n259, r259, k260, n260, r260, k261, n261, r261, e1, g0, g1, g4, gh, Nat.add_zero, e2]
  unfold gz at hz
  rw [zI_sub]
  unfold mlN gz
  by_cases hp : (0 : Int) ≤ (s : Int) - ((g : Int) * ((h : Int) - (mid : Int))) / 100
  · rw [if_pos ((zI_pos (by omega) (by omega)).mpr hp), zI_toNat hp]
  · rw [if_neg (fun h => hp ((zI_pos (by omega) (by omega)).mp h)), Int.toNat_of_nonpos (by omega)]
