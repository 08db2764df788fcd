theorem x7_allOfBands {ad : Nat → Nat} {T : Ty} {R : Rm} (G : RG ad T R) {M : Mm} {m : Nat → Int32} {f : Nat → Nat → Nat} {acc : Nat → Int64} (P : RP ad M m f acc) {Y nb : Nat} (hY : m 7 = nI Y) (hY8 : Y < 801) (hb : m 8 = nI nb) (hb10 : nb ≤ 10) : fn_X7_allOfBands T R (ad 250) M = some (nI (sm (fun b => sm (f b) (Y + 1)) nb), M) := by
  have G0 := G
  have P0 := P
  obtain ⟨hi, k0, k251, n251, r251, k252, n252, r252, k253, n253, r253, k254, n254, r254, k255, n255, r255, k256, n256, r256, k257, n257, r257, k258, n258, r258, k259, n259, r259, k260, n260, r260, k261, n261, r261⟩ := G
  obtain ⟨pm, pf, pa⟩ := P
  have h8 : gI M (ad 251) 8 = nI nb := (pm 8 (by omega)).trans hb
  have h1 := fun b (h : b < 10) => x7_iceOf G0 P0 hY hY8 h
  unfold fn_X7_allOfBands fb_X7_allOfBands_4
  simp only [l0]
  refine lp_acc (hi := nb) (g := fun b => sm (f b) (Y + 1)) ?_ ?_ FU (FU_gt (by omega))
  · intro j s i hi
    unfold fs_X7_allOfBands_4
    simp (disch := omega) only [↓lm1, l0, l1, l2, l3, l4, l5, l6, l7, l8, l9, l10, l11, l12, l13, l14, l31, l32, l44, l48, l50, l57, l59, l60, l74, l100, l110, l126, l300, l330, l500, l501, l801, l1000, l5000, l5010, l8010, l8192, l9000, l10000, l1000000, nI_add, pk_mul, nI_clamp, nI_leI, nI_ltI, nI_eq, chk_d, chk_t, chk_inb, rfm_s, bnd_e, cal_e, calR_e, if_pos, if_neg, k0, k251, n251, r251, k252, n252, r252, k253, n253, r253, k254, n254, r254, k255, n255, r255, k256, n256, r256, k257, n257, r257, k258, n258, r258, k259, n259, r259, k260, n260, r260, k261, n261, r261, h8, h1]
  · intro j s
    unfold fs_X7_allOfBands_4
    simp (disch := omega) only [↓lm1, l0, l1, l2, l3, l4, l5, l6, l7, l8, l9, l10, l11, l12, l13, l14, l31, l32, l44, l48, l50, l57, l59, l60, l74, l100, l110, l126, l300, l330, l500, l501, l801, l1000, l5000, l5010, l8010, l8192, l9000, l10000, l1000000, nI_add, pk_mul, nI_clamp, nI_leI, nI_ltI, nI_eq, chk_d, chk_t, chk_inb, rfm_s, bnd_e, cal_e, calR_e, if_pos, if_neg, k0, k251, n251, r251, k252, n252, r252, k253, n253, r253, k254, n254, r254, k255, n255, r255, k256, n256, r256, k257, n257, r257, k258, n258, r258, k259, n259, r259, k260, n260, r260, k261, n261, r261, h8]
theorem x7_allByYears {ad : Nat → Nat} {T : Ty} {R : Rm} (G : RG ad T R) {M : Mm} {m : Nat → Int32} {f : Nat → Nat → Nat} {acc : Nat → Int64} (P : RP ad M m f acc) {Y nb : Nat} (hY : m 7 = nI Y) (hY8 : Y < 801) (hb : m 8 = nI nb) (hb10 : nb ≤ 10) : fn_X7_allByYears T R (ad 250) M = some (nI (sm (fun y => sm (fun b => f b y) nb) (Y + 1)), M) := by
  have G0 := G
  have P0 := P
  obtain ⟨hi, k0, k251, n251, r251, k252, n252, r252, k253, n253, r253, k254, n254, r254, k255, n255, r255, k256, n256, r256, k257, n257, r257, k258, n258, r258, k259, n259, r259, k260, n260, r260, k261, n261, r261⟩ := G
  obtain ⟨pm, pf, pa⟩ := P
  have h7 : gI M (ad 251) 7 = nI Y := (pm 7 (by omega)).trans hY
  have h1 := fun y (h : y < 801) => x7_leftOf G0 P0 hb hb10 h
  unfold fn_X7_allByYears fb_X7_allByYears_4
  simp only [l0]
  refine lp_acc (hi := Y + 1) (g := fun y => sm (fun b => f b y) nb) ?_ ?_ FU (FU_gt (by omega))
  · intro j s i hi
    unfold fs_X7_allByYears_4
    simp (disch := omega) only [↓lm1, l0, l1, l2, l3, l4, l5, l6, l7, l8, l9, l10, l11, l12, l13, l14, l31, l32, l44, l48, l50, l57, l59, l60, l74, l100, l110, l126, l300, l330, l500, l501, l801, l1000, l5000, l5010, l8010, l8192, l9000, l10000, l1000000, nI_add, pk_mul, nI_clamp, nI_leI, nI_ltI, nI_eq, chk_d, chk_t, chk_inb, rfm_s, bnd_e, cal_e, calR_e, if_pos, if_neg, k0, k251, n251, r251, k252, n252, r252, k253, n253, r253, k254, n254, r254, k255, n255, r255, k256, n256, r256, k257, n257, r257, k258, n258, r258, k259, n259, r259, k260, n260, r260, k261, n261, r261, h7, h1]
  · intro j s
    unfold fs_X7_allByYears_4
    simp (disch := omega) only [↓lm1, l0, l1, l2, l3, l4, l5, l6, l7, l8, l9, l10, l11, l12, l13, l14, l31, l32, l44, l48, l50, l57, l59, l60, l74, l100, l110, l126, l300, l330, l500, l501, l801, l1000, l5000, l5010, l8010, l8192, l9000, l10000, l1000000, nI_add, pk_mul, nI_clamp, nI_leI, nI_ltI, nI_eq, chk_d, chk_t, chk_inb, rfm_s, bnd_e, cal_e, calR_e, if_pos, if_neg, k0, k251, n251, r251, k252, n252, r252, k253, n253, r253, k254, n254, r254, k255, n255, r255, k256, n256, r256, k257, n257, r257, k258, n258, r258, k259, n259, r259, k260, n260, r260, k261, n261, r261, h7]
theorem x7_allLayers {ad : Nat → Nat} {T : Ty} {R : Rm} (G : RG ad T R) {M : Mm} {m : Nat → Int32} {f : Nat → Nat → Nat} {acc : Nat → Int64} (P : RP ad M m f acc) {Y nb : Nat} (hY : m 7 = nI Y) (hY8 : Y < 801) (hb : m 8 = nI nb) (hb10 : nb ≤ 10) (hf : ∀ b y, b < nb → y ≤ Y → f b y < 2 ^ 31) : fn_X7_allLayers T R (ad 250) M = some (nI (sm (fun b => sm (cnt (f b)) (Y + 1)) nb), M) := by
  have G0 := G
  have P0 := P
  obtain ⟨hi, k0, k251, n251, r251, k252, n252, r252, k253, n253, r253, k254, n254, r254, k255, n255, r255, k256, n256, r256, k257, n257, r257, k258, n258, r258, k259, n259, r259, k260, n260, r260, k261, n261, r261⟩ := G
  obtain ⟨pm, pf, pa⟩ := P
  have h8 : gI M (ad 251) 8 = nI nb := (pm 8 (by omega)).trans hb
  unfold fn_X7_allLayers fb_X7_allLayers_4
  simp only [l0]
  refine lp_acc (hi := nb) (g := fun b => sm (cnt (f b)) (Y + 1)) ?_ ?_ FU (FU_gt (by omega))
  · intro j s i hi
    have h1 := x7_layersOf G0 P0 hY hY8 (show i < 10 by omega) (fun y hy => hf i y hi hy)
    unfold fs_X7_allLayers_4
    simp (disch := omega) only [↓lm1, l0, l1, l2, l3, l4, l5, l6, l7, l8, l9, l10, l11, l12, l13, l14, l31, l32, l44, l48, l50, l57, l59, l60, l74, l100, l110, l126, l300, l330, l500, l501, l801, l1000, l5000, l5010, l8010, l8192, l9000, l10000, l1000000, nI_add, pk_mul, nI_clamp, nI_leI, nI_ltI, nI_eq, chk_d, chk_t, chk_inb, rfm_s, bnd_e, cal_e, calR_e, if_pos, if_neg, k0, k251, n251, r251, k252, n252, r252, k253, n253, r253, k254, n254, r254, k255, n255, r255, k256, n256, r256, k257, n257, r257, k258, n258, r258, k259, n259, r259, k260, n260, r260, k261, n261, r261, h8, h1]
  · intro j s
    unfold fs_X7_allLayers_4
    simp (disch := omega) only [↓lm1, l0, l1, l2, l3, l4, l5, l6, l7, l8, l9, l10, l11, l12, l13, l14, l31, l32, l44, l48, l50, l57, l59, l60, l74, l100, l110, l126, l300, l330, l500, l501, l801, l1000, l5000, l5010, l8010, l8192, l9000, l10000, l1000000, nI_add, pk_mul, nI_clamp, nI_leI, nI_ltI, nI_eq, chk_d, chk_t, chk_inb, rfm_s, bnd_e, cal_e, calR_e, if_pos, if_neg, k0, k251, n251, r251, k252, n252, r252, k253, n253, r253, k254, n254, r254, k255, n255, r255, k256, n256, r256, k257, n257, r257, k258, n258, r258, k259, n259, r259, k260, n260, r260, k261, n261, r261, h8]
theorem x7_differentYears {ad : Nat → Nat} {T : Ty} {R : Rm} (G : RG ad T R) {M : Mm} {m : Nat → Int32} {f : Nat → Nat → Nat} {acc : Nat → Int64} (P : RP ad M m f acc) {Y nb : Nat} (hY : m 7 = nI Y) (hY8 : Y < 801) (hb : m 8 = nI nb) (hb10 : nb ≤ 10) (hf : ∀ y, y ≤ Y → sm (fun b => f b y) nb < 2 ^ 31) : fn_X7_differentYears T R (ad 250) M = some (nI (sm (cnt (fun y => sm (fun b => f b y) nb)) (Y + 1)), M) := by
  have G0 := G
  have P0 := P
  obtain ⟨hi, k0, k251, n251, r251, k252, n252, r252, k253, n253, r253, k254, n254, r254, k255, n255, r255, k256, n256, r256, k257, n257, r257, k258, n258, r258, k259, n259, r259, k260, n260, r260, k261, n261, r261⟩ := G
  obtain ⟨pm, pf, pa⟩ := P
  have h7 : gI M (ad 251) 7 = nI Y := (pm 7 (by omega)).trans hY
  have h1 := fun y (h : y < 801) => x7_leftOf G0 P0 hb hb10 h
  unfold fn_X7_differentYears fb_X7_differentYears_4
  simp only [l0]
  refine lp_acc (hi := Y + 1) (g := cnt (fun y => sm (fun b => f b y) nb)) ?_ ?_ FU (FU_gt (by omega))
  · intro j s i hi
    have hfi := hf i (by omega)
    unfold fs_X7_differentYears_4 fs_X7_differentYears_29 cnt
    by_cases h0 : 0 < sm (fun b => f b i) nb
    · simp (disch := omega) only [↓lm1, l0, l1, l2, l3, l4, l5, l6, l7, l8, l9, l10, l11, l12, l13, l14, l31, l32, l44, l48, l50, l57, l59, l60, l74, l100, l110, l126, l300, l330, l500, l501, l801, l1000, l5000, l5010, l8010, l8192, l9000, l10000, l1000000, nI_add, pk_mul, nI_clamp, nI_leI, nI_ltI, nI_eq, chk_d, chk_t, chk_inb, rfm_s, bnd_e, cal_e, calR_e, if_pos, if_neg, k0, k251, n251, r251, k252, n252, r252, k253, n253, r253, k254, n254, r254, k255, n255, r255, k256, n256, r256, k257, n257, r257, k258, n258, r258, k259, n259, r259, k260, n260, r260, k261, n261, r261, h7, h1]
    · simp (disch := omega) only [↓lm1, l0, l1, l2, l3, l4, l5, l6, l7, l8, l9, l10, l11, l12, l13, l14, l31, l32, l44, l48, l50, l57, l59, l60, l74, l100, l110, l126, l300, l330, l500, l501, l801, l1000, l5000, l5010, l8010, l8192, l9000, l10000, l1000000, nI_add, pk_mul, nI_clamp, nI_leI, nI_ltI, nI_eq, chk_d, chk_t, chk_inb, rfm_s, bnd_e, cal_e, calR_e, if_pos, if_neg, k0, k251, n251, r251, k252, n252, r252, k253, n253, r253, k254, n254, r254, k255, n255, r255, k256, n256, r256, k257, n257, r257, k258, n258, r258, k259, n259, r259, k260, n260, r260, k261, n261, r261, h7, h1]
  · intro j s
    unfold fs_X7_differentYears_4
    simp (disch := omega) only [↓lm1, l0, l1, l2, l3, l4, l5, l6, l7, l8, l9, l10, l11, l12, l13, l14, l31, l32, l44, l48, l50, l57, l59, l60, l74, l100, l110, l126, l300, l330, l500, l501, l801, l1000, l5000, l5010, l8010, l8192, l9000, l10000, l1000000, nI_add, pk_mul, nI_clamp, nI_leI, nI_ltI, nI_eq, chk_d, chk_t, chk_inb, rfm_s, bnd_e, cal_e, calR_e, if_pos, if_neg, k0, k251, n251, r251, k252, n252, r252, k253, n253, r253, k254, n254, r254, k255, n255, r255, k256, n256, r256, k257, n257, r257, k258, n258, r258, k259, n259, r259, k260, n260, r260, k261, n261, r261, h7]
/-- stakes that stand, of the first n -/
def stN (m : Nat → Int32) : Nat → Nat := fun s => if m (74 + 6 * s + 4) = 0 then 1 else 0
theorem x7_standing {ad : Nat → Nat} {T : Ty} {R : Rm} (G : RG ad T R) {M : Mm} {m : Nat → Int32} {f : Nat → Nat → Nat} {acc : Nat → Int64} (P : RP ad M m f acc) {ns : Nat} (hs : m 9 = nI ns) (hs6 : ns ≤ 6) : fn_X7_standing T R (ad 250) M = some (nI (sm (stN m) ns), M) := by
  have G0 := G
  obtain ⟨hi, k0, k251, n251, r251, k252, n252, r252, k253, n253, r253, k254, n254, r254, k255, n255, r255, k256, n256, r256, k257, n257, r257, k258, n258, r258, k259, n259, r259, k260, n260, r260, k261, n261, r261⟩ := G
  obtain ⟨pm, pf, pa⟩ := P
  have h9 : gI M (ad 251) 9 = nI ns := (pm 9 (by omega)).trans hs
  have h1 := fun s (h : s < 6) => x7_ofStake G0 M (b := s) (k := 4) (by omega)
  have h2 := fun s (h : s < 6) => pm (74 + 6 * s + 4) (by omega)
  unfold fn_X7_standing fb_X7_standing_4
  simp only [l0]
  refine lp_acc (hi := ns) (g := stN m) ?_ ?_ FU (FU_gt (by omega))
  · intro j s i hi
    unfold fs_X7_standing_4 fs_X7_standing_30 stN
    by_cases h0 : m (74 + 6 * i + 4) = 0
    · simp (disch := omega) only [↓lm1, l0, l1, l2, l3, l4, l5, l6, l7, l8, l9, l10, l11, l12, l13, l14, l31, l32, l44, l48, l50, l57, l59, l60, l74, l100, l110, l126, l300, l330, l500, l501, l801, l1000, l5000, l5010, l8010, l8192, l9000, l10000, l1000000, nI_add, pk_mul, nI_clamp, nI_leI, nI_ltI, nI_eq, chk_d, chk_t, chk_inb, rfm_s, bnd_e, cal_e, calR_e, if_pos, if_neg, k0, k251, n251, r251, k252, n252, r252, k253, n253, r253, k254, n254, r254, k255, n255, r255, k256, n256, r256, k257, n257, r257, k258, n258, r258, k259, n259, r259, k260, n260, r260, k261, n261, r261, h9, h1, h2, h0, if_true]
    · have h0' : ¬ m (74 + 6 * i + 4) = nI 0 := h0
      simp (disch := omega) only [↓lm1, l0, l1, l2, l3, l4, l5, l6, l7, l8, l9, l10, l11, l12, l13, l14, l31, l32, l44, l48, l50, l57, l59, l60, l74, l100, l110, l126, l300, l330, l500, l501, l801, l1000, l5000, l5010, l8010, l8192, l9000, l10000, l1000000, nI_add, pk_mul, nI_clamp, nI_leI, nI_ltI, nI_eq, chk_d, chk_t, chk_inb, rfm_s, bnd_e, cal_e, calR_e, if_pos, if_neg, k0, k251, n251, r251, k252, n252, r252, k253, n253, r253, k254, n254, r254, k255, n255, r255, k256, n256, r256, k257, n257, r257, k258, n258, r258, k259, n259, r259, k260, n260, r260, k261, n261, r261, h9, h1, h2, h0', if_false]
  · intro j s
    unfold fs_X7_standing_4
    simp (disch := omega) only [↓lm1, l0, l1, l2, l3, l4, l5, l6, l7, l8, l9, l10, l11, l12, l13, l14, l31, l32, l44, l48, l50, l57, l59, l60, l74, l100, l110, l126, l300, l330, l500, l501, l801, l1000, l5000, l5010, l8010, l8192, l9000, l10000, l1000000, nI_add, pk_mul, nI_clamp, nI_leI, nI_ltI, nI_eq, chk_d, chk_t, chk_inb, rfm_s, bnd_e, cal_e, calR_e, if_pos, if_neg, k0, k251, n251, r251, k252, n252, r252, k253, n253, r253, k254, n254, r254, k255, n255, r255, k256, n256, r256, k257, n257, r257, k258, n258, r258, k259, n259, r259, k260, n260, r260, k261, n261, r261, h9]
