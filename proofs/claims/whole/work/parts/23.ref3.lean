/-- the i-th year with something, of n years from y on -/
def yl (f : Nat → Nat) : Nat → Nat → Nat → Option Nat
  | 0, _, _ => none
  | n + 1, y, i => if 0 < f y then (if i = 0 then some y else yl f n (y + 1) (i - 1)) else yl f n (y + 1) i
def oY (q : Option Nat) : Int32 := match q with
  | some y => nI y
  | none => nONE
theorem x7_yearOf {ad : Nat → Nat} {T : Ty} {R : Rm} (G : RG ad T R) {M : Mm} {m : Nat → Int32} {f : Nat → Nat → Nat} {acc : Nat → Int64} (P : RP ad M m f acc) {Y b : Nat} (hY : m 7 = nI Y) (hY8 : Y < 801) (hb : b < 10) (hf : ∀ y, y ≤ Y → f b y < 2 ^ 31) {i : Nat} (hi31 : i < 2 ^ 31) : fn_X7_yearOf T R (ad 250) (nI b) (nI i) M = some (oY (yl (f b) (Y + 1) 0 i), M) := by
  obtain ⟨hi, k0, k251, n251, r251, k252, n252, r252, k253, n253, r253, k254, n254, r254, k255, n255, r255, k256, n256, r256, k257, n257, r257, k258, n258, r258, k259, n259, r259, k260, n260, r260, k261, n261, r261⟩ := G
  obtain ⟨pm, pf, pa⟩ := P
  have h7 : gI M (ad 251) 7 = nI Y := (pm 7 (by omega)).trans hY
  have key : ∀ (x2 : Int32) d y n i, y + d = Y + 1 → d < n → i < 2 ^ 31 → fb_X7_yearOf_5 T R (ad 250) (nI b) x2 n (nI i) (nI y) M = some (oY (yl (f b) d y i), M) := by
    intro x2 d
    induction d with
    | zero =>
      intro y n i h1 h2 h3
      obtain ⟨k, rfl⟩ : ∃ k, n = k + 1 := ⟨n - 1, by omega⟩
      rw [fbs_X7_yearOf_5]
      unfold fs_X7_yearOf_5
      simp (disch := omega) only [↓lm1, l0, l1, l2, l3, l4, l5, l6, l7, l8, l9, l10, l11, l12, l13, l14, l31, l32, l44, l48, l50, l57, l59, l60, l74, l100, l110, l126, l300, l330, l500, l501, l801, l1000, l5000, l5010, l8010, l8192, l9000, l10000, l1000000, nI_add, pk_mul, nI_clamp, nI_leI, nI_ltI, nI_eq, chk_d, chk_t, chk_inb, rfm_s, bnd_e, cal_e, calR_e, if_pos, if_neg, k0, k251, n251, r251, k252, n252, r252, k253, n253, r253, k254, n254, r254, k255, n255, r255, k256, n256, r256, k257, n257, r257, k258, n258, r258, k259, n259, r259, k260, n260, r260, k261, n261, r261, h7]
      rfl
    | succ d ih =>
      intro y n i h1 h2 h3
      obtain ⟨k, rfl⟩ : ∃ k, n = k + 1 := ⟨n - 1, by omega⟩
      have hfy := hf y (by omega)
      rw [fbs_X7_yearOf_5]
      unfold fs_X7_yearOf_5 fs_X7_yearOf_43 yl
      by_cases h0 : 0 < f b y
      · by_cases hi0 : i = 0
        · simp (disch := omega) only [↓lm1, l0, l1, l2, l3, l4, l5, l6, l7, l8, l9, l10, l11, l12, l13, l14, l31, l32, l44, l48, l50, l57, l59, l60, l74, l100, l110, l126, l300, l330, l500, l501, l801, l1000, l5000, l5010, l8010, l8192, l9000, l10000, l1000000, nI_add, pk_mul, nI_clamp, nI_leI, nI_ltI, nI_eq, chk_d, chk_t, chk_inb, rfm_s, bnd_e, cal_e, calR_e, if_pos, if_neg, k0, k251, n251, r251, k252, n252, r252, k253, n253, r253, k254, n254, r254, k255, n255, r255, k256, n256, r256, k257, n257, r257, k258, n258, r258, k259, n259, r259, k260, n260, r260, k261, n261, r261, h7, pf]
          rfl
        · obtain ⟨i', rfl⟩ : ∃ i', i = i' + 1 := ⟨i - 1, by omega⟩
          simp (disch := omega) only [↓lm1, l0, l1, l2, l3, l4, l5, l6, l7, l8, l9, l10, l11, l12, l13, l14, l31, l32, l44, l48, l50, l57, l59, l60, l74, l100, l110, l126, l300, l330, l500, l501, l801, l1000, l5000, l5010, l8010, l8192, l9000, l10000, l1000000, nI_add, pk_mul, nI_clamp, nI_leI, nI_ltI, nI_eq, chk_d, chk_t, chk_inb, rfm_s, bnd_e, cal_e, calR_e, if_pos, if_neg, k0, k251, n251, r251, k252, n252, r252, k253, n253, r253, k254, n254, r254, k255, n255, r255, k256, n256, r256, k257, n257, r257, k258, n258, r258, k259, n259, r259, k260, n260, r260, k261, n261, r261, h7, pf, nI_m1]
          exact ih (y + 1) k i' (by omega) (by omega) (by omega)
      · simp (disch := omega) only [↓lm1, l0, l1, l2, l3, l4, l5, l6, l7, l8, l9, l10, l11, l12, l13, l14, l31, l32, l44, l48, l50, l57, l59, l60, l74, l100, l110, l126, l300, l330, l500, l501, l801, l1000, l5000, l5010, l8010, l8192, l9000, l10000, l1000000, nI_add, pk_mul, nI_clamp, nI_leI, nI_ltI, nI_eq, chk_d, chk_t, chk_inb, rfm_s, bnd_e, cal_e, calR_e, if_pos, if_neg, k0, k251, n251, r251, k252, n252, r252, k253, n253, r253, k254, n254, r254, k255, n255, r255, k256, n256, r256, k257, n257, r257, k258, n258, r258, k259, n259, r259, k260, n260, r260, k261, n261, r261, h7, pf]
        exact ih (y + 1) k i (by omega) (by omega) h3
  unfold fn_X7_yearOf
  simp only [l0]
  exact key _ (Y + 1) 0 FU i (by omega) (FU_gt (by omega)) hi31
/-- without layers any number finds none -/
theorem x7_yearOf0 {ad : Nat → Nat} {T : Ty} {R : Rm} (G : RG ad T R) {M : Mm} {m : Nat → Int32} {f : Nat → Nat → Nat} {acc : Nat → Int64} (P : RP ad M m f acc) {Y b : Nat} (hY : m 7 = nI Y) (hY8 : Y < 801) (hb : b < 10) (hf : ∀ y, y ≤ Y → f b y = 0) (x : Int32) : fn_X7_yearOf T R (ad 250) (nI b) x M = some (nONE, M) := by
  obtain ⟨hi, k0, k251, n251, r251, k252, n252, r252, k253, n253, r253, k254, n254, r254, k255, n255, r255, k256, n256, r256, k257, n257, r257, k258, n258, r258, k259, n259, r259, k260, n260, r260, k261, n261, r261⟩ := G
  obtain ⟨pm, pf, pa⟩ := P
  have h7 : gI M (ad 251) 7 = nI Y := (pm 7 (by omega)).trans hY
  have key : ∀ (x2 : Int32) d y n, y + d = Y + 1 → d < n → fb_X7_yearOf_5 T R (ad 250) (nI b) x2 n x (nI y) M = some (nONE, M) := by
    intro x2 d
    induction d with
    | zero =>
      intro y n h1 h2
      obtain ⟨k, rfl⟩ : ∃ k, n = k + 1 := ⟨n - 1, by omega⟩
      rw [fbs_X7_yearOf_5]
      unfold fs_X7_yearOf_5
      simp (disch := omega) only [↓lm1, l0, l1, l2, l3, l4, l5, l6, l7, l8, l9, l10, l11, l12, l13, l14, l31, l32, l44, l48, l50, l57, l59, l60, l74, l100, l110, l126, l300, l330, l500, l501, l801, l1000, l5000, l5010, l8010, l8192, l9000, l10000, l1000000, nI_add, pk_mul, nI_clamp, nI_leI, nI_ltI, nI_eq, chk_d, chk_t, chk_inb, rfm_s, bnd_e, cal_e, calR_e, if_pos, if_neg, k0, k251, n251, r251, k252, n252, r252, k253, n253, r253, k254, n254, r254, k255, n255, r255, k256, n256, r256, k257, n257, r257, k258, n258, r258, k259, n259, r259, k260, n260, r260, k261, n261, r261, h7]
    | succ d ih =>
      intro y n h1 h2
      obtain ⟨k, rfl⟩ : ∃ k, n = k + 1 := ⟨n - 1, by omega⟩
      have hfy := hf y (by omega)
      rw [fbs_X7_yearOf_5]
      unfold fs_X7_yearOf_5 fs_X7_yearOf_43
      simp (disch := omega) only [↓lm1, l0, l1, l2, l3, l4, l5, l6, l7, l8, l9, l10, l11, l12, l13, l14, l31, l32, l44, l48, l50, l57, l59, l60, l74, l100, l110, l126, l300, l330, l500, l501, l801, l1000, l5000, l5010, l8010, l8192, l9000, l10000, l1000000, nI_add, pk_mul, nI_clamp, nI_leI, nI_ltI, nI_eq, chk_d, chk_t, chk_inb, rfm_s, bnd_e, cal_e, calR_e, if_pos, if_neg, k0, k251, n251, r251, k252, n252, r252, k253, n253, r253, k254, n254, r254, k255, n255, r255, k256, n256, r256, k257, n257, r257, k258, n258, r258, k259, n259, r259, k260, n260, r260, k261, n261, r261, h7, pf, hfy]
      exact ih (y + 1) k (by omega) (by omega)
  unfold fn_X7_yearOf
  simp only [l0]
  exact key _ (Y + 1) 0 FU (by omega) (FU_gt (by omega))
theorem x7_oldest {ad : Nat → Nat} {T : Ty} {R : Rm} (G : RG ad T R) {M : Mm} {m : Nat → Int32} {f : Nat → Nat → Nat} {acc : Nat → Int64} (P : RP ad M m f acc) {Y nb : Nat} (hY : m 7 = nI Y) (hY8 : Y < 801) (hb : m 8 = nI nb) (hb10 : nb ≤ 10) (hf : ∀ y, y ≤ Y → sm (fun b => f b y) nb < 2 ^ 31) : fn_X7_oldest T R (ad 250) M = some (match yl (fun y => sm (fun b => f b y) nb) (Y + 1) 0 0 with | some y => nI y | none => -2000000004, M) := by
  have G0 := G
  have P0 := P
  obtain ⟨hi, k0, k251, n251, r251, k252, n252, r252, k253, n253, r253, k254, n254, r254, k255, n255, r255, k256, n256, r256, k257, n257, r257, k258, n258, r258, k259, n259, r259, k260, n260, r260, k261, n261, r261⟩ := G
  obtain ⟨pm, pf, pa⟩ := P
  have h7 : gI M (ad 251) 7 = nI Y := (pm 7 (by omega)).trans hY
  have h1 := fun y (h : y < 801) => x7_leftOf G0 P0 hb hb10 h
  have key : ∀ d y n, y + d = Y + 1 → d < n → fb_X7_oldest_2 T R (ad 250) n (nI y) M = some (match yl (fun y => sm (fun b => f b y) nb) d y 0 with | some y => nI y | none => -2000000004, M) := by
    intro d
    induction d with
    | zero =>
      intro y n h1' h2
      obtain ⟨k, rfl⟩ : ∃ k, n = k + 1 := ⟨n - 1, by omega⟩
      rw [fbs_X7_oldest_2]
      unfold fs_X7_oldest_2
      simp (disch := omega) only [↓lm1, l0, l1, l2, l3, l4, l5, l6, l7, l8, l9, l10, l11, l12, l13, l14, l31, l32, l44, l48, l50, l57, l59, l60, l74, l100, l110, l126, l300, l330, l500, l501, l801, l1000, l5000, l5010, l8010, l8192, l9000, l10000, l1000000, nI_add, pk_mul, nI_clamp, nI_leI, nI_ltI, nI_eq, chk_d, chk_t, chk_inb, rfm_s, bnd_e, cal_e, calR_e, if_pos, if_neg, k0, k251, n251, r251, k252, n252, r252, k253, n253, r253, k254, n254, r254, k255, n255, r255, k256, n256, r256, k257, n257, r257, k258, n258, r258, k259, n259, r259, k260, n260, r260, k261, n261, r261, h7]
      rfl
    | succ d ih =>
      intro y n h1' h2
      obtain ⟨k, rfl⟩ : ∃ k, n = k + 1 := ⟨n - 1, by omega⟩
      have hfy := hf y (by omega)
      rw [fbs_X7_oldest_2]
      unfold fs_X7_oldest_2 yl
      by_cases h0 : 0 < sm (fun b => f b y) nb
      · simp (disch := omega) only [↓lm1, l0, l1, l2, l3, l4, l5, l6, l7, l8, l9, l10, l11, l12, l13, l14, l31, l32, l44, l48, l50, l57, l59, l60, l74, l100, l110, l126, l300, l330, l500, l501, l801, l1000, l5000, l5010, l8010, l8192, l9000, l10000, l1000000, nI_add, pk_mul, nI_clamp, nI_leI, nI_ltI, nI_eq, chk_d, chk_t, chk_inb, rfm_s, bnd_e, cal_e, calR_e, if_pos, if_neg, k0, k251, n251, r251, k252, n252, r252, k253, n253, r253, k254, n254, r254, k255, n255, r255, k256, n256, r256, k257, n257, r257, k258, n258, r258, k259, n259, r259, k260, n260, r260, k261, n261, r261, h7, h1, if_true]
      · simp (disch := omega) only [↓lm1, l0, l1, l2, l3, l4, l5, l6, l7, l8, l9, l10, l11, l12, l13, l14, l31, l32, l44, l48, l50, l57, l59, l60, l74, l100, l110, l126, l300, l330, l500, l501, l801, l1000, l5000, l5010, l8010, l8192, l9000, l10000, l1000000, nI_add, pk_mul, nI_clamp, nI_leI, nI_ltI, nI_eq, chk_d, chk_t, chk_inb, rfm_s, bnd_e, cal_e, calR_e, if_pos, if_neg, k0, k251, n251, r251, k252, n252, r252, k253, n253, r253, k254, n254, r254, k255, n255, r255, k256, n256, r256, k257, n257, r257, k258, n258, r258, k259, n259, r259, k260, n260, r260, k261, n261, r261, h7, h1]
        exact ih (y + 1) k (by omega) (by omega)
  unfold fn_X7_oldest
  simp only [l0]
  exact key (Y + 1) 0 FU (by omega) (FU_gt (by omega))
