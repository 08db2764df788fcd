/-! the reference's year, first half: weather and what a band gives -/
def nt (x : Int32) : Nat := x.toNatClampNeg
def rg (x : Int32) (lo hi : Nat) : Prop := x = nI (nt x) ∧ lo ≤ nt x ∧ nt x ≤ hi
theorem nt_nI {n : Nat} (h : n < 2 ^ 31) : nt (nI n) = n := nI_clamp h
theorem rg_nI {n lo hi : Nat} (h1 : lo ≤ n) (h2 : n ≤ hi) (h : hi < 2 ^ 31) : rg (nI n) lo hi := by
  unfold rg
  rw [nt_nI (by omega)]
  exact ⟨rfl, h1, h2⟩
/-- ranges that hold of the row of numbers at all times -/
def IV (m : Nat → Int32) : Prop := rg (m 0) 0 5000 ∧ rg (m 1) 0 500 ∧ rg (m 2) 0 9000 ∧ rg (m 3) 0 500 ∧ rg (m 4) 0 5000 ∧ rg (m 5) 1 1000000 ∧ rg (m 6) 0 50 ∧ rg (m 7) 0 800 ∧ rg (m 8) 0 10 ∧ rg (m 9) 0 6 ∧ (∀ b, b < nt (m 8) → rg (m (14 + 6 * b)) 0 5000 ∧ rg (m (14 + 6 * b + 1)) 100 5000 ∧ rg (m (14 + 6 * b + 2)) 0 500) ∧ (∀ s, s < nt (m 9) → rg (m (74 + 6 * s)) 0 9 ∧ nt (m (74 + 6 * s)) < nt (m 8))
def snS (m : Nat → Int32) (b : Nat) : Nat := snN (nt (m 0)) (nt (m 1)) (nt (m 4)) (nt (m (14 + 6 * b)))
def mlS (m : Nat → Int32) (b : Nat) : Nat := mlN (nt (m 2)) (nt (m 3)) (nt (m 4)) (nt (m (14 + 6 * b)))
theorem snS_le {m : Nat → Int32} (I : IV m) {b : Nat} (hb : b < nt (m 8)) : snS m b ≤ 30000 := snN_le I.1.2.2 I.2.1.2.2 I.2.2.2.2.1.2.2 (I.2.2.2.2.2.2.2.2.2.2.1 b hb).1.2.2
theorem mlS_le {m : Nat → Int32} (I : IV m) {b : Nat} (hb : b < nt (m 8)) : mlS m b ≤ 34000 := mlN_le I.2.2.1.2.2 I.2.2.2.1.2.2 I.2.2.2.2.1.2.2 (I.2.2.2.2.2.2.2.2.2.2.1 b hb).1.2.2
theorem x7_sn {ad : Nat → Nat} {T : Ty} {R : Rm} (G : RG ad T R) {M : Mm} {m : Nat → Int32} {f : Nat → Nat → Nat} {acc : Nat → Int64} (I : IV m) {b : Nat} (hb : b < nt (m 8)) : fn_X7_snowOf T R (ad 250) (nI b) (P3 ad M m (fI f) acc) = some (nI (snS m b), P3 ad M m (fI f) acc) := by
  have hb10 : b < 10 := Nat.lt_of_lt_of_le hb I.2.2.2.2.2.2.2.2.1.2.2
  exact x7_snowOf G (RP_P3 G.1 M m f acc) hb10 I.1.1 I.2.1.1 I.2.2.2.2.1.1 (I.2.2.2.2.2.2.2.2.2.2.1 b hb).1.1 I.1.2.2 I.2.1.2.2 I.2.2.2.2.1.2.2 (I.2.2.2.2.2.2.2.2.2.2.1 b hb).1.2.2
theorem x7_ml {ad : Nat → Nat} {T : Ty} {R : Rm} (G : RG ad T R) {M : Mm} {m : Nat → Int32} {f : Nat → Nat → Nat} {acc : Nat → Int64} (I : IV m) {b : Nat} (hb : b < nt (m 8)) : fn_X7_meltOf T R (ad 250) (nI b) (P3 ad M m (fI f) acc) = some (nI (mlS m b), P3 ad M m (fI f) acc) := by
  have hb10 : b < 10 := Nat.lt_of_lt_of_le hb I.2.2.2.2.2.2.2.2.1.2.2
  exact x7_meltOf G (RP_P3 G.1 M m f acc) hb10 I.2.2.1.1 I.2.2.2.1.1 I.2.2.2.2.1.1 (I.2.2.2.2.2.2.2.2.2.2.1 b hb).1.1 I.2.2.1.2.2 I.2.2.2.1.2.2 I.2.2.2.2.1.2.2 (I.2.2.2.2.2.2.2.2.2.2.1 b hb).1.2.2
/-- the row of a band when the years from k on have been melted -/
def rwT (g : Nat → Nat) (n ml k : Nat) : Nat → Nat := fun y => if k ≤ y then g y - tt g n ml y else g y
theorem rwT_0 (g : Nat → Nat) (n ml : Nat) : rwT g n ml 0 = fun y => g y - tt g n ml y := by
  funext y
  simp [rwT]
theorem rwT_n (g : Nat → Nat) {n ml : Nat} : rwT g n ml n = g := by
  funext y
  unfold rwT tt
  by_cases h : n ≤ y
  · rw [if_pos h, if_neg (by omega)]
    omega
  · rw [if_neg h]
theorem rwT_s (g : Nat → Nat) {n ml k : Nat} : fu (rwT g n ml (k + 1)) k (g k - tt g n ml k) = rwT g n ml k := by
  funext y
  unfold fu rwT
  by_cases h : y = k
  · rw [if_pos h, if_pos (by omega), h]
  · rw [if_neg h]
    by_cases h2 : k ≤ y
    · rw [if_pos h2, if_pos (by omega)]
    · rw [if_neg h2, if_neg (by omega)]
theorem rwT_done {g : Nat → Nat} {n ml k : Nat} (h : ml ≤ sm g n - sm g k) (hk : k ≤ n) : rwT g n ml k = rwT g n ml 0 := by
  funext y
  unfold rwT
  by_cases h2 : k ≤ y
  · rw [if_pos h2, if_pos (by omega)]
  · rw [if_neg h2, if_pos (by omega)]
    unfold tt
    have := sm_mono g (show y + 1 ≤ k by omega)
    rw [if_pos (by omega)]
    omega
theorem nONE_T : (nONE < nI 0) = True := by
  rw [eq_iff_iff]
  exact ⟨fun _ => trivial, fun _ => nONE_lt⟩
theorem x7_melt_loop {ad : Nat → Nat} {T : Ty} {R : Rm} (G : RG ad T R) {M : Mm} {m : Nat → Int32} {f : Nat → Nat → Nat} {acc : Nat → Int64} {j131 : Int32 → Mm → Option (Unit × Mm)} {b n ml : Nat} {g : Nat → Nat} (hb : b < 10) (hn : n ≤ 801) (hg : sm g n < 2 ^ 31) (hml : ml ≤ 34000) : ∀ k fuel, k ≤ n → k < fuel → fb_X7_weather_57 T R (ad 250) (nI b) j131 fuel (nI (ml - (sm g n - sm g k))) (nI (min ml (sm g n - sm g k))) (nI k + nONE) (P3 ad M m (fI (fset f b (rwT g n ml k))) acc) = j131 (nI (min ml (sm g n))) (P3 ad M m (fI (fset f b (rwT g n ml 0))) acc) := by
  obtain ⟨hi, k0, k251, n251, r251, k252, n252, r252, k253, n253, r253, k254, n254, r254, k255, n255, r255, k256, n256, r256, k257, n257, r257, k258, n258, r258, k259, n259, r259, k260, n260, r260, k261, n261, r261⟩ := G
  intro k
  induction k with
  | zero =>
    intro fuel h1 h2
    obtain ⟨q, rfl⟩ : ∃ q, fuel = q + 1 := ⟨fuel - 1, by omega⟩
    rw [fbs_X7_weather_57]
    unfold fs_X7_weather_57
    simp (disch := omega) only [↓lm1, l0, l1, l2, l3, l4, l5, l6, l7, l8, l9, l10, l11, l12, l13, l14, l31, l32, l44, l48, l50, l57, l59, l60, l74, l100, l110, l126, l300, l330, l500, l501, l801, l1000, l5000, l5010, l8010, l8192, l9000, l10000, l1000000, nI_add, pk_mul, nI_clamp, nI_leI, nI_ltI, nI_eq, chk_d, chk_t, chk_inb, rfm_s, bnd_e, cal_e, calR_e, if_pos, if_neg, k0, k251, n251, r251, k252, n252, r252, k253, n253, r253, k254, n254, r254, k255, n255, r255, k256, n256, r256, k257, n257, r257, k258, n258, r258, k259, n259, r259, k260, n260, r260, k261, n261, r261, nI_n1, nONE_T, sm_0, Nat.sub_zero, if_true]
  | succ k ih =>
    intro fuel h1 h2
    obtain ⟨q, rfl⟩ : ∃ q, fuel = q + 1 := ⟨fuel - 1, by omega⟩
    have s1 := sm_s g k
    have s2 := sm_mono g h1
    have hnk : ¬ nI k < nI 0 := nI_pos (by omega)
    have hv : rwT g n ml (k + 1) k = g k := by
      unfold rwT
      rw [if_neg (by omega)]
    have htt : tt g n ml k = min (g k) (ml - (sm g n - sm g (k + 1))) := by
      unfold tt
      rw [if_pos (by omega)]
    have hrow := rwT_s g (n := n) (ml := ml) (k := k)
    rw [htt] at hrow
    rw [fbs_X7_weather_57]
    unfold fs_X7_weather_57 fs_X7_weather_93
    by_cases h0 : ml ≤ sm g n - sm g (k + 1)
    · have e1 : min ml (sm g n - sm g (k + 1)) = min ml (sm g n) := by omega
      simp (disch := omega) only [↓lm1, l0, l1, l2, l3, l4, l5, l6, l7, l8, l9, l10, l11, l12, l13, l14, l31, l32, l44, l48, l50, l57, l59, l60, l74, l100, l110, l126, l300, l330, l500, l501, l801, l1000, l5000, l5010, l8010, l8192, l9000, l10000, l1000000, nI_add, pk_mul, nI_clamp, nI_leI, nI_ltI, nI_eq, chk_d, chk_t, chk_inb, rfm_s, bnd_e, cal_e, calR_e, if_pos, if_neg, k0, k251, n251, r251, k252, n252, r252, k253, n253, r253, k254, n254, r254, k255, n255, r255, k256, n256, r256, k257, n257, r257, k258, n258, r258, k259, n259, r259, k260, n260, r260, k261, n261, r261, nI_m1, hnk, if_false, e1, rwT_done h0 h1]
    · have hfi := fI_at (fset f b (rwT g n ml (k + 1))) (b := b) (y := k) (by omega)
      rw [fset_s, hv] at hfi
      have ih' := ih q (by omega) (by omega)
      by_cases hle : ml - (sm g n - sm g (k + 1)) ≤ g k
      · have e0 : min (g k) (ml - (sm g n - sm g (k + 1))) = ml - (sm g n - sm g (k + 1)) := by omega
        rw [e0] at hrow
        have e2 : ml - (sm g n - sm g (k + 1)) - (ml - (sm g n - sm g (k + 1))) = ml - (sm g n - sm g k) := by omega
        have e3 : min ml (sm g n - sm g (k + 1)) + (ml - (sm g n - sm g (k + 1))) = min ml (sm g n - sm g k) := by omega
        simp (disch := omega) only [↓lm1, l0, l1, l2, l3, l4, l5, l6, l7, l8, l9, l10, l11, l12, l13, l14, l31, l32, l44, l48, l50, l57, l59, l60, l74, l100, l110, l126, l300, l330, l500, l501, l801, l1000, l5000, l5010, l8010, l8192, l9000, l10000, l1000000, nI_add, pk_mul, nI_clamp, nI_leI, nI_ltI, nI_eq, chk_d, chk_t, chk_inb, rfm_s, bnd_e, cal_e, calR_e, if_pos, if_neg, k0, k251, n251, r251, k252, n252, r252, k253, n253, r253, k254, n254, r254, k255, n255, r255, k256, n256, r256, k257, n257, r257, k258, n258, r258, k259, n259, r259, k260, n260, r260, k261, n261, r261, nI_m1, hnk, if_false, P3_i hi, hfi, nIs, sP3_i hi, fset_ss, fset_s, hrow, e2, e3]
        exact ih'
      · have e0 : min (g k) (ml - (sm g n - sm g (k + 1))) = g k := by omega
        rw [e0] at hrow
        have e2 : ml - (sm g n - sm g (k + 1)) - g k = ml - (sm g n - sm g k) := by omega
        have e3 : min ml (sm g n - sm g (k + 1)) + g k = min ml (sm g n - sm g k) := by omega
        simp (disch := omega) only [↓lm1, l0, l1, l2, l3, l4, l5, l6, l7, l8, l9, l10, l11, l12, l13, l14, l31, l32, l44, l48, l50, l57, l59, l60, l74, l100, l110, l126, l300, l330, l500, l501, l801, l1000, l5000, l5010, l8010, l8192, l9000, l10000, l1000000, nI_add, pk_mul, nI_clamp, nI_leI, nI_ltI, nI_eq, chk_d, chk_t, chk_inb, rfm_s, bnd_e, cal_e, calR_e, if_pos, if_neg, k0, k251, n251, r251, k252, n252, r252, k253, n253, r253, k254, n254, r254, k255, n255, r255, k256, n256, r256, k257, n257, r257, k258, n258, r258, k259, n259, r259, k260, n260, r260, k261, n261, r261, nI_m1, hnk, if_false, P3_i hi, hfi, nIs, sP3_i hi, fset_ss, fset_s, hrow, e2, e3]
        exact ih'
/-- weather of a band: on the ice, the numbers, the accounts -/
def wG (m : Nat → Int32) (f : Nat → Nat → Nat) (b : Nat) : Nat → Nat := fu (f b) (nt (m 7)) (f b (nt (m 7)) + snS m b)
def wT (m : Nat → Int32) (f : Nat → Nat → Nat) (b : Nat) : Nat := min (mlS m b) (sm (wG m f b) (nt (m 7) + 1))
def wF (m : Nat → Int32) (f : Nat → Nat → Nat) (b : Nat) : Nat → Nat → Nat := fset f b (rwT (wG m f b) (nt (m 7) + 1) (mlS m b) 0)
def wM (m : Nat → Int32) (f : Nat → Nat → Nat) (b : Nat) : Nat → Int32 := upd m (14 + 6 * b + 3) (nI (wT m f b))
def wA (m : Nat → Int32) (f : Nat → Nat → Nat) (acc : Nat → Int64) (b : Nat) : Nat → Int64 := vp_updL (vp_updL acc 1 (acc 1 + (nI (snS m b)).toInt64)) 2 ((vp_updL acc 1 (acc 1 + (nI (snS m b)).toInt64)) 2 + (nI (wT m f b)).toInt64)
theorem rg_get {x : Int32} {lo hi : Nat} (h : rg x lo hi) : ∃ n, x = nI n ∧ lo ≤ n ∧ n ≤ hi := ⟨nt x, h⟩
theorem x7_weather {ad : Nat → Nat} {T : Ty} {R : Rm} (G : RG ad T R) {M : Mm} {m : Nat → Int32} {f : Nat → Nat → Nat} {acc : Nat → Int64} (I : IV m) {b : Nat} (hb : b < nt (m 8)) (hB : sm (wG m f b) (nt (m 7) + 1) < 2 ^ 31) : fn_X7_weather T R (ad 250) (nI b) (P3 ad M m (fI f) acc) = some ((), P3 ad M (wM m f b) (fI (wF m f b)) (wA m f acc b)) := by
  have G0 := G
  have hb10 : b < 10 := Nat.lt_of_lt_of_le hb I.2.2.2.2.2.2.2.2.1.2.2
  obtain ⟨Y, hY, -, hY8⟩ := rg_get I.2.2.2.2.2.2.2.1
  have hnt : nt (m 7) = Y := by rw [hY, nt_nI (by omega)]
  have hml := mlS_le I hb
  have e1 := x7_sn G (M := M) (f := f) (acc := acc) I hb
  have e2 := fun f' acc' => x7_ml G (M := M) (f := f') (acc := acc') I hb
  have eg : fset f b (fu (f b) Y (f b Y + snS m b)) = fset f b (rwT (wG m f b) (Y + 1) (mlS m b) (Y + 1)) := by
    rw [rwT_n]
    unfold wG
    rw [hnt]
  rw [hnt] at hB
  have hl := fun j acc' => x7_melt_loop G (M := M) (m := m) (f := f) (acc := acc') (j131 := j) (ml := mlS m b) hb10 (show Y + 1 ≤ 801 by omega) hB hml (Y + 1) FU (Nat.le_refl _) (FU_gt (by omega))
  simp only [Nat.sub_self, Nat.sub_zero, Nat.min_zero, nI_m1] at hl
  have hfi := fI_at f (b := b) (y := Y) (by omega)
  have hp := fun M v => x7_put G0 M (b := b) (k := 3) v (by omega)
  unfold wM wF wA wT
  rw [hnt]
  obtain ⟨hi, k0, k251, n251, r251, k252, n252, r252, k253, n253, r253, k254, n254, r254, k255, n255, r255, k256, n256, r256, k257, n257, r257, k258, n258, r258, k259, n259, r259, k260, n260, r260, k261, n261, r261⟩ := G
  unfold fn_X7_weather
  simp (disch := omega) only [↓lm1, l0, l1, l2, l3, l4, l5, l6, l7, l8, l9, l10, l11, l12, l13, l14, l31, l32, l44, l48, l50, l57, l59, l60, l74, l100, l110, l126, l300, l330, l500, l501, l801, l1000, l5000, l5010, l8010, l8192, l9000, l10000, l1000000, nI_add, pk_mul, nI_clamp, nI_leI, nI_ltI, nI_eq, chk_d, chk_t, chk_inb, rfm_s, bnd_e, cal_e, calR_e, if_pos, if_neg, k0, k251, n251, r251, k252, n252, r252, k253, n253, r253, k254, n254, r254, k255, n255, r255, k256, n256, r256, k257, n257, r257, k258, n258, r258, k259, n259, r259, k260, n260, r260, k261, n261, r261, e1, P3_m, P3_i hi, hY, hfi, sP3_i hi, P3_a, sP3_a, e2, eg]
  rw [hl]
  unfold fs_X7_weather_131
  simp (disch := omega) only [↓lm1, l0, l1, l2, l3, l4, l5, l6, l7, l8, l9, l10, l11, l12, l13, l14, l31, l32, l44, l48, l50, l57, l59, l60, l74, l100, l110, l126, l300, l330, l500, l501, l801, l1000, l5000, l5010, l8010, l8192, l9000, l10000, l1000000, nI_add, pk_mul, nI_clamp, nI_leI, nI_ltI, nI_eq, chk_d, chk_t, chk_inb, rfm_s, bnd_e, cal_e, calR_e, if_pos, if_neg, k0, k251, n251, r251, k252, n252, r252, k253, n253, r253, k254, n254, r254, k255, n255, r255, k256, n256, r256, k257, n257, r257, k258, n258, r258, k259, n259, r259, k260, n260, r260, k261, n261, r261, hp, sP3_m, sP3_a, P3_a]
