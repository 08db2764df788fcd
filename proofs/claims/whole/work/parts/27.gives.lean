/-! the reference's year, second half: what a band gives, the front -/
def f2 (f : Nat → Nat → Nat) (b y v : Nat) : Nat → Nat → Nat := fun b' y' => if b' = b ∧ y' = y then v else f b' y'
theorem fset_f2 (f : Nat → Nat → Nat) (b y v : Nat) : fset f b (fu (f b) y v) = f2 f b y v := by
  funext b' y'
  unfold fset fu f2
  by_cases h : b' = b
  · subst h
    simp
  · simp [h]
theorem sP3_i2 {ad : Nat → Nat} (hi : ∀ a b : Nat, (ad a = ad b) = (a = b)) (M : Mm) (m : Nat → Int32) (f : Nat → Nat → Nat) (acc : Nat → Int64) {b y : Nat} (v : Nat) (h : y < 801) : sI (P3 ad M m (fI f) acc) (ad 252) (801 * b + y) (nI v) = P3 ad M m (fI (f2 f b y v)) acc := by
  rw [sP3_i hi M m f acc v h, fset_f2]
theorem gv_l {s c : Nat} (hs : s < 2 ^ 31) (hc : c ≤ 500) : (((nI s).toInt64 * (nI c).toInt64) / (1000 : Int64)).toInt32 = nI (s * c / 1000) := by
  have h1 : s * c ≤ 2 ^ 31 * 500 := Nat.mul_le_mul (by omega) hc
  have h2 : (s : Int) * (c : Int) = ((s * c : Nat) : Int) := by rw [Int.natCast_mul]
  have t1000 : (1000 : Int64).toInt = 1000 := by decide
  have a1 : ((nI s).toInt64 * (nI c).toInt64).toInt = ((s * c : Nat) : Int) := by
    rw [Int64.toInt_mul, Int32.toInt_toInt64, Int32.toInt_toInt64, nI_toInt hs, nI_toInt (by omega), h2, bm64 (by omega) (by omega)]
  have a2 : (((nI s).toInt64 * (nI c).toInt64) / (1000 : Int64)).toInt = ((s * c / 1000 : Nat) : Int) := by
    rw [Int64.toInt_div, a1, t1000, Int.tdiv_eq_ediv_of_nonneg (by omega), bm64 (by omega) (by omega)]
    omega
  rw [← zI_nat]
  exact zI_of (by rw [Int64.toInt_toInt32, a2, bm32 (by omega) (by omega)])
theorem tb_z {g : Nat → Nat} {L k y : Nat} (h : L ≤ sm g k) (hk : k ≤ y) : tb g L y = 0 := by
  have := sm_mono g hk
  unfold tb
  omega
/-- rows when the years below k have been given -/
def gR (f : Nat → Nat → Nat) (b L : Nat) (lst : Bool) (k : Nat) : Nat → Nat → Nat := fun b' y => if y < k then (if b' = b then f b y - tb (f b) L y else if b' = b + 1 ∧ lst = false then f (b + 1) y + tb (f b) L y else f b' y) else f b' y
theorem gR_0 (f : Nat → Nat → Nat) (b L : Nat) (lst : Bool) : gR f b L lst 0 = f := by
  funext b' y
  simp [gR]
theorem gR_done {f : Nat → Nat → Nat} {b L : Nat} {lst : Bool} {k n : Nat} (h : L ≤ sm (f b) k) (hk : k ≤ n) : gR f b L lst k = gR f b L lst n := by
  funext b' y
  unfold gR
  by_cases h1 : y < k
  · rw [if_pos h1, if_pos (show y < n by omega)]
  · rw [if_neg h1]
    by_cases h2 : y < n
    · rw [if_pos h2, tb_z h (by omega)]
      by_cases h3 : b' = b
      · rw [if_pos h3, h3]
        rfl
      · rw [if_neg h3]
        by_cases h4 : b' = b + 1 ∧ lst = false
        · rw [if_pos h4, h4.1]
          rfl
        · rw [if_neg h4]
    · rw [if_neg h2]
theorem gR_sT (f : Nat → Nat → Nat) (b L k : Nat) : f2 (gR f b L true k) b k (f b k - tb (f b) L k) = gR f b L true (k + 1) := by
  funext b' y
  unfold f2 gR
  by_cases h1 : y = k
  · subst h1
    by_cases h2 : b' = b
    · subst h2
      simp
    · simp [h2]
  · have e : (y < k + 1) = (y < k) := by rw [eq_iff_iff]; omega
    simp only [h1, and_false, if_false, e]
theorem gR_sF (f : Nat → Nat → Nat) (b L k : Nat) : f2 (f2 (gR f b L false k) b k (f b k - tb (f b) L k)) (b + 1) k (f (b + 1) k + tb (f b) L k) = gR f b L false (k + 1) := by
  funext b' y
  unfold f2 gR
  by_cases h1 : y = k
  · subst h1
    by_cases h2 : b' = b
    · subst h2
      simp
    · by_cases h3 : b' = b + 1
      · subst h3
        simp
      · simp [h2, h3]
  · have e : (y < k + 1) = (y < k) := by rw [eq_iff_iff]; omega
    simp only [h1, and_false, if_false, e]
theorem f2_n (f : Nat → Nat → Nat) {b y v b' y' : Nat} (h : b' ≠ b) : f2 f b y v b' y' = f b' y' := by
  unfold f2
  rw [if_neg (fun q => h q.1)]
theorem gR_k (f : Nat → Nat → Nat) (b L : Nat) (lst : Bool) (k b' : Nat) : gR f b L lst k b' k = f b' k := by
  unfold gR
  rw [if_neg (by omega)]
def bI (lst : Bool) : Int32 := cond lst (nI 1) (nI 0)
theorem bI_f : (bI false = nI 0) = True := eq_true rfl
theorem bI_t : (bI true = nI 0) = False := eq_false (by decide)
theorem x7_gives_loop {ad : Nat → Nat} {T : Ty} {R : Rm} (G : RG ad T R) {M : Mm} {m : Nat → Int32} {f : Nat → Nat → Nat} {acc : Nat → Int64} {b L Y : Nat} {lst : Bool} (hY : m 7 = nI Y) (hY8 : Y ≤ 800) (hb : b < 10) (hb2 : lst = false → b + 1 < 10) (hf : ∀ y, y ≤ Y → f b y < 2 ^ 31) (hL : L < 2 ^ 31) : ∀ d k fuel, k + d = Y + 1 → d < fuel → fb_X7_gives_81 T R (ad 250) (nI b) fuel (nI (L - sm (f b) k)) (bI lst) (nI k) (P3 ad M m (fI (gR f b L lst k)) acc) = some ((), P3 ad M m (fI (gR f b L lst (Y + 1))) acc) := by
  obtain ⟨hi, k0, k251, n251, r251, k252, n252, r252, k253, n253, r253, k254, n254, r254, k255, n255, r255, k256, n256, r256, k257, n257, r257, k258, n258, r258, k259, n259, r259, k260, n260, r260, k261, n261, r261⟩ := G
  intro d
  induction d with
  | zero =>
    intro k fuel h1 h2
    obtain ⟨q, rfl⟩ : ∃ q, fuel = q + 1 := ⟨fuel - 1, by omega⟩
    have e : k = Y + 1 := by omega
    subst e
    rw [fbs_X7_gives_81]
    unfold fs_X7_gives_81
    simp (disch := omega) only [↓lm1, l0, l1, l2, l3, l4, l5, l6, l7, l8, l9, l10, l11, l12, l13, l14, l31, l32, l44, l48, l50, l57, l59, l60, l74, l100, l110, l126, l300, l330, l500, l501, l801, l1000, l5000, l5010, l8010, l8192, l9000, l10000, l1000000, nI_add, pk_mul, nI_clamp, nI_leI, nI_ltI, nI_eq, chk_d, chk_t, chk_inb, rfm_s, bnd_e, cal_e, calR_e, if_pos, if_neg, k0, k251, n251, r251, k252, n252, r252, k253, n253, r253, k254, n254, r254, k255, n255, r255, k256, n256, r256, k257, n257, r257, k258, n258, r258, k259, n259, r259, k260, n260, r260, k261, n261, r261, P3_m, hY]
  | succ d ih =>
    intro k fuel h1 h2
    obtain ⟨q, rfl⟩ : ∃ q, fuel = q + 1 := ⟨fuel - 1, by omega⟩
    have hfk := hf k (by omega)
    rw [fbs_X7_gives_81]
    unfold fs_X7_gives_81 fs_X7_gives_124 fs_X7_gives_173
    by_cases h0 : L ≤ sm (f b) k
    · simp (disch := omega) only [↓lm1, l0, l1, l2, l3, l4, l5, l6, l7, l8, l9, l10, l11, l12, l13, l14, l31, l32, l44, l48, l50, l57, l59, l60, l74, l100, l110, l126, l300, l330, l500, l501, l801, l1000, l5000, l5010, l8010, l8192, l9000, l10000, l1000000, nI_add, pk_mul, nI_clamp, nI_leI, nI_ltI, nI_eq, chk_d, chk_t, chk_inb, rfm_s, bnd_e, cal_e, calR_e, if_pos, if_neg, k0, k251, n251, r251, k252, n252, r252, k253, n253, r253, k254, n254, r254, k255, n255, r255, k256, n256, r256, k257, n257, r257, k258, n258, r258, k259, n259, r259, k260, n260, r260, k261, n261, r261, P3_m, hY, gR_done h0 (show k ≤ Y + 1 by omega)]
    · have s1 := sm_s (f b) k
      have htb : tb (f b) L k = min (f b k) (L - sm (f b) k) := rfl
      have ih' := ih (k + 1) q (by omega) (by omega)
      have hfi := fI_at (gR f b L lst k) (b := b) (y := k) (by omega)
      rw [gR_k] at hfi
      have hfi2 := fun v => fI_at (f2 (gR f b L lst k) b k v) (b := b + 1) (y := k) (by omega)
      have hfi3 : ∀ v, fI (f2 (gR f b L lst k) b k v) (801 * (b + 1) + k) = nI (f (b + 1) k) := fun v => by
        rw [hfi2, f2_n _ (by omega), gR_k]
      by_cases hle : L - sm (f b) k ≤ f b k
      · have e0 : tb (f b) L k = L - sm (f b) k := by omega
        have e2 : L - sm (f b) k - (L - sm (f b) k) = L - sm (f b) (k + 1) := by omega
        cases lst with
        | true =>
          have g1 := gR_sT f b L k
          rw [e0] at g1
          simp (disch := omega) only [↓lm1, l0, l1, l2, l3, l4, l5, l6, l7, l8, l9, l10, l11, l12, l13, l14, l31, l32, l44, l48, l50, l57, l59, l60, l74, l100, l110, l126, l300, l330, l500, l501, l801, l1000, l5000, l5010, l8010, l8192, l9000, l10000, l1000000, nI_add, pk_mul, nI_clamp, nI_leI, nI_ltI, nI_eq, chk_d, chk_t, chk_inb, rfm_s, bnd_e, cal_e, calR_e, if_pos, if_neg, k0, k251, n251, r251, k252, n252, r252, k253, n253, r253, k254, n254, r254, k255, n255, r255, k256, n256, r256, k257, n257, r257, k258, n258, r258, k259, n259, r259, k260, n260, r260, k261, n261, r261, P3_m, hY, P3_i hi, hfi, nIs, sP3_i2 hi, bI_t, if_false, g1, e2]
          exact ih'
        | false =>
          have hb3 := hb2 rfl
          have g1 := gR_sF f b L k
          rw [e0] at g1
          simp (disch := omega) only [↓lm1, l0, l1, l2, l3, l4, l5, l6, l7, l8, l9, l10, l11, l12, l13, l14, l31, l32, l44, l48, l50, l57, l59, l60, l74, l100, l110, l126, l300, l330, l500, l501, l801, l1000, l5000, l5010, l8010, l8192, l9000, l10000, l1000000, nI_add, pk_mul, nI_clamp, nI_leI, nI_ltI, nI_eq, chk_d, chk_t, chk_inb, rfm_s, bnd_e, cal_e, calR_e, if_pos, if_neg, k0, k251, n251, r251, k252, n252, r252, k253, n253, r253, k254, n254, r254, k255, n255, r255, k256, n256, r256, k257, n257, r257, k258, n258, r258, k259, n259, r259, k260, n260, r260, k261, n261, r261, P3_m, hY, P3_i hi, hfi, nIs, sP3_i2 hi, bI_f, if_true, g1, e2, hfi3]
          exact ih'
      · have e0 : tb (f b) L k = f b k := by omega
        have e2 : L - sm (f b) k - f b k = L - sm (f b) (k + 1) := by omega
        cases lst with
        | true =>
          have g1 := gR_sT f b L k
          rw [e0] at g1
          simp (disch := omega) only [↓lm1, l0, l1, l2, l3, l4, l5, l6, l7, l8, l9, l10, l11, l12, l13, l14, l31, l32, l44, l48, l50, l57, l59, l60, l74, l100, l110, l126, l300, l330, l500, l501, l801, l1000, l5000, l5010, l8010, l8192, l9000, l10000, l1000000, nI_add, pk_mul, nI_clamp, nI_leI, nI_ltI, nI_eq, chk_d, chk_t, chk_inb, rfm_s, bnd_e, cal_e, calR_e, if_pos, if_neg, k0, k251, n251, r251, k252, n252, r252, k253, n253, r253, k254, n254, r254, k255, n255, r255, k256, n256, r256, k257, n257, r257, k258, n258, r258, k259, n259, r259, k260, n260, r260, k261, n261, r261, P3_m, hY, P3_i hi, hfi, nIs, sP3_i2 hi, bI_t, if_false, g1, e2]
          exact ih'
        | false =>
          have hb3 := hb2 rfl
          have g1 := gR_sF f b L k
          rw [e0] at g1
          simp (disch := omega) only [↓lm1, l0, l1, l2, l3, l4, l5, l6, l7, l8, l9, l10, l11, l12, l13, l14, l31, l32, l44, l48, l50, l57, l59, l60, l74, l100, l110, l126, l300, l330, l500, l501, l801, l1000, l5000, l5010, l8010, l8192, l9000, l10000, l1000000, nI_add, pk_mul, nI_clamp, nI_leI, nI_ltI, nI_eq, chk_d, chk_t, chk_inb, rfm_s, bnd_e, cal_e, calR_e, if_pos, if_neg, k0, k251, n251, r251, k252, n252, r252, k253, n253, r253, k254, n254, r254, k255, n255, r255, k256, n256, r256, k257, n257, r257, k258, n258, r258, k259, n259, r259, k260, n260, r260, k261, n261, r261, P3_m, hY, P3_i hi, hfi, nIs, sP3_i2 hi, bI_f, if_true, g1, e2, hfi3]
          exact ih'
def gL (m : Nat → Int32) (f : Nat → Nat → Nat) (b : Nat) : Nat := sm (f b) (nt (m 7) + 1) * nt (m (14 + 6 * b + 2)) / 1000
def gM (m : Nat → Int32) (f : Nat → Nat → Nat) (b : Nat) : Nat → Int32 := if b + 1 = nt (m 8) then upd (upd m (14 + 6 * b + 4) (nI (gL m f b))) 10 (m 10 + nI (gL m f b)) else upd (upd m (14 + 6 * b + 4) (nI (gL m f b))) (14 + 6 * (b + 1) + 5) (nI (gL m f b))
def gF (m : Nat → Int32) (f : Nat → Nat → Nat) (b : Nat) : Nat → Nat → Nat := gR f b (gL m f b) (decide (b + 1 = nt (m 8))) (nt (m 7) + 1)
theorem upd_id (m : Nat → Int32) (k : Nat) : upd m k (m k) = m := by
  funext j
  by_cases h : j = k
  · subst h
    rw [pk_us]
  · rw [pk_un h]
theorem nI_a0 (x : Int32) : x + nI 0 = x := Int32.add_zero x
theorem x7_gives {ad : Nat → Nat} {T : Ty} {R : Rm} (G : RG ad T R) {M : Mm} {m : Nat → Int32} {f : Nat → Nat → Nat} {acc : Nat → Int64} (I : IV m) {b : Nat} (hb : b < nt (m 8)) (hB : sm (f b) (nt (m 7) + 1) < 2 ^ 31) : fn_X7_gives T R (ad 250) (nI b) (P3 ad M m (fI f) acc) = some ((), P3 ad M (gM m f b) (fI (gF m f b)) acc) := by
  have G0 := G
  obtain ⟨Y, hY, -, hY8⟩ := rg_get I.2.2.2.2.2.2.2.1
  obtain ⟨nb, hnb, -, hnb10⟩ := rg_get I.2.2.2.2.2.2.2.2.1
  have hnt : nt (m 7) = Y := by rw [hY, nt_nI (by omega)]
  have hnt8 : nt (m 8) = nb := by rw [hnb, nt_nI (by omega)]
  obtain ⟨cr, hcr, -, hcr5⟩ := rg_get (I.2.2.2.2.2.2.2.2.2.2.1 b hb).2.2
  have hntc : nt (m (14 + 6 * b + 2)) = cr := by rw [hcr, nt_nI (by omega)]
  have hLe : gL m f b = sm (f b) (Y + 1) * cr / 1000 := by
    unfold gL
    rw [hnt, hntc]
  rw [hnt] at hB
  rw [hnt8] at hb
  have hb10 : b < 10 := by omega
  have e1 := x7_iceOf G (RP_P3 G.1 M m f acc) hY (by omega) hb10
  have hL : gL m f b < 2 ^ 31 := by
    rw [hLe]
    have := Nat.mul_le_mul (Nat.le_refl (sm (f b) (Y + 1))) hcr5
    omega
  have e2 := fun M => x7_of G0 M (b := b) (k := 2) (by omega)
  have e3 := fun M v => x7_put G0 M (b := b) (k := 4) v (by omega)
  have egv := gv_l hB hcr5
  rw [← hLe] at egv
  have hl := fun m' hm' lst h3 => x7_gives_loop G (M := M) (m := m') (f := f) (acc := acc) (b := b) (L := gL m f b) (Y := Y) (lst := lst) hm' hY8 hb10 h3 (fun y hy => Nat.lt_of_le_of_lt (sm_le1 (f b) (show y < Y + 1 by omega)) hB) hL (Y + 1) 0 FU (by omega) (FU_gt (by omega))
  simp only [sm_0, Nat.sub_zero, gR_0] at hl
  unfold gM gF
  rw [hnt, hnt8]
  obtain ⟨hi, k0, k251, n251, r251, k252, n252, r252, k253, n253, r253, k254, n254, r254, k255, n255, r255, k256, n256, r256, k257, n257, r257, k258, n258, r258, k259, n259, r259, k260, n260, r260, k261, n261, r261⟩ := G
  by_cases hlast : b + 1 = nb
  · have hd : decide (b + 1 = nb) = true := decide_eq_true hlast
    rw [if_pos hlast, hd]
    have hl' := hl (upd (upd m (14 + 6 * b + 4) (nI (gL m f b))) 10 (m 10 + nI (gL m f b))) (by rw [pk_un (by omega), pk_un (by omega), hY]) true (fun h => by cases h)
    unfold fn_X7_gives fs_X7_gives_45 fs_X7_gives_63 fs_X7_gives_78
    simp (disch := omega) only [↓lm1, l0, l1, l2, l3, l4, l5, l6, l7, l8, l9, l10, l11, l12, l13, l14, l31, l32, l44, l48, l50, l57, l59, l60, l74, l100, l110, l126, l300, l330, l500, l501, l801, l1000, l5000, l5010, l8010, l8192, l9000, l10000, l1000000, nI_add, pk_mul, nI_clamp, nI_leI, nI_ltI, nI_eq, chk_d, chk_t, chk_inb, rfm_s, bnd_e, cal_e, calR_e, if_pos, if_neg, k0, k251, n251, r251, k252, n252, r252, k253, n253, r253, k254, n254, r254, k255, n255, r255, k256, n256, r256, k257, n257, r257, k258, n258, r258, k259, n259, r259, k260, n260, r260, k261, n261, r261, e1, e2, P3_m, hcr, ← l1000, egv, e3, sP3_m, pk_un, hnb, nIs]
    exact hl'
  · have hd : decide (b + 1 = nb) = false := decide_eq_false hlast
    rw [if_neg hlast, hd]
    have hl' := hl (upd (upd m (14 + 6 * b + 4) (nI (gL m f b))) (14 + 6 * (b + 1) + 5) (nI (gL m f b))) (by rw [pk_un (by omega), pk_un (by omega), hY]) false (fun h => by omega)
    have e4 := fun M v => x7_put G0 M (b := b + 1) (k := 5) v (by omega)
    have hid : upd (upd m (14 + 6 * b + 4) (nI (gL m f b))) 10 (m 10) = upd m (14 + 6 * b + 4) (nI (gL m f b)) := by
      have := upd_id (upd m (14 + 6 * b + 4) (nI (gL m f b))) 10
      rw [pk_un (by omega)] at this
      exact this
    unfold fn_X7_gives fs_X7_gives_45 fs_X7_gives_63 fs_X7_gives_78
    simp (disch := omega) only [↓lm1, l0, l1, l2, l3, l4, l5, l6, l7, l8, l9, l10, l11, l12, l13, l14, l31, l32, l44, l48, l50, l57, l59, l60, l74, l100, l110, l126, l300, l330, l500, l501, l801, l1000, l5000, l5010, l8010, l8192, l9000, l10000, l1000000, nI_add, pk_mul, nI_clamp, nI_leI, nI_ltI, nI_eq, chk_d, chk_t, chk_inb, rfm_s, bnd_e, cal_e, calR_e, if_pos, if_neg, k0, k251, n251, r251, k252, n252, r252, k253, n253, r253, k254, n254, r254, k255, n255, r255, k256, n256, r256, k257, n257, r257, k258, n258, r258, k259, n259, r259, k260, n260, r260, k261, n261, r261, e1, e2, P3_m, hcr, ← l1000, egv, e3, sP3_m, pk_un, hnb, nIs, nI_a0, hid, e4]
    exact hl'
