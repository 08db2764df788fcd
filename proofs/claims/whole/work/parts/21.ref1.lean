/-! the reference: where its rows lie, what they hold; its reads -/
def RG (ad : Nat → Nat) (T : Ty) (R : Rm) : Prop := (∀ a b : Nat, (ad a = ad b) = (a = b)) ∧ isK T (ad 250) 7 = true ∧ isK T (ad 251) 9 = true ∧ lnT T (ad 251) = 110 ∧ R (ad 250) 0 = some (ad 251) ∧ isK T (ad 252) 9 = true ∧ lnT T (ad 252) = 8010 ∧ R (ad 250) 1 = some (ad 252) ∧ isK T (ad 253) 10 = true ∧ lnT T (ad 253) = 4 ∧ R (ad 250) 2 = some (ad 253) ∧ isK T (ad 254) 9 = true ∧ lnT T (ad 254) = 110 ∧ R (ad 250) 3 = some (ad 254) ∧ isK T (ad 255) 9 = true ∧ lnT T (ad 255) = 8010 ∧ R (ad 250) 4 = some (ad 255) ∧ isK T (ad 256) 10 = true ∧ lnT T (ad 256) = 4 ∧ R (ad 250) 5 = some (ad 256) ∧ isK T (ad 257) 9 = true ∧ lnT T (ad 257) = 440 ∧ R (ad 250) 6 = some (ad 257) ∧ isK T (ad 258) 9 = true ∧ lnT T (ad 258) = 10020 ∧ R (ad 250) 7 = some (ad 258) ∧ isK T (ad 259) 9 = true ∧ lnT T (ad 259) = 10020 ∧ R (ad 250) 8 = some (ad 259) ∧ isK T (ad 260) 10 = true ∧ lnT T (ad 260) = 16 ∧ R (ad 250) 9 = some (ad 260) ∧ isK T (ad 261) 9 = true ∧ lnT T (ad 261) = 60 ∧ R (ad 250) 11 = some (ad 261)
def RP (ad : Nat → Nat) (M : Mm) (m : Nat → Int32) (f : Nat → Nat → Nat) (acc : Nat → Int64) : Prop := (∀ k, k < 110 → gI M (ad 251) k = m k) ∧ (∀ b y, b < 10 → y < 801 → gI M (ad 252) (801 * b + y) = nI (f b y)) ∧ (∀ k, k < 4 → gJ M (ad 253) k = acc k)
theorem FU_gt {n : Nat} (h : n < 10000) : n < FU := h
theorem lp_acc {M : Mm} {f : (Int32 → Int32 → Mm → Option (Int32 × Mm)) → Int32 → Int32 → Mm → Option (Int32 × Mm)} {z : Int32 → Int32 → Mm → Option (Int32 × Mm)} {hi : Nat} {g : Nat → Nat} (hs : ∀ j s i, i < hi → f j (nI s) (nI i) M = j (nI (s + g i)) (nI (i + 1)) M) (he : ∀ j s, f j (nI s) (nI hi) M = some (nI s, M)) (n : Nat) (hn : hi < n) : lp f z n (nI 0) (nI 0) M = some (nI (sm g hi), M) := by
  have key : ∀ d i n, i + d = hi → d < n → lp f z n (nI (sm g i)) (nI i) M = some (nI (sm g hi), M) := by
    intro d
    induction d with
    | zero =>
      intro i n h1 h2
      obtain ⟨k, rfl⟩ : ∃ k, n = k + 1 := ⟨n - 1, by omega⟩
      have e : i = hi := by omega
      rw [e]
      exact he _ _
    | succ d ih =>
      intro i n h1 h2
      obtain ⟨k, rfl⟩ : ∃ k, n = k + 1 := ⟨n - 1, by omega⟩
      show f (lp f z k) (nI (sm g i)) (nI i) M = _
      rw [hs _ _ _ (by omega)]
      exact ih (i + 1) k (by omega) (by omega)
  exact key hi 0 n (by omega) hn
theorem x7_in (T : Ty) (R : Rm) (x a b : Int32) (M : Mm) : fn_X7_in T R x a b M = some (if a ≤ x ∧ x ≤ b then 1 else 0, M) := by
  unfold fn_X7_in
  by_cases h1 : x < a
  · rw [if_pos h1, if_neg (fun h => Int32.not_lt.mpr h.1 h1)]
  · rw [if_neg h1]
    by_cases h2 : b < x
    · rw [if_pos h2, if_neg (fun h => Int32.not_lt.mpr h.2 h2)]
    · rw [if_neg h2, if_pos ⟨Int32.not_lt.mp h1, Int32.not_lt.mp h2⟩]
theorem x7_of {ad : Nat → Nat} {T : Ty} {R : Rm} (G : RG ad T R) (M : Mm) {b k : Nat} (h : 14 + 6 * b + k < 110) : fn_X7_of T R (ad 250) (nI b) (nI k) M = some (gI M (ad 251) (14 + 6 * b + k), M) := by
  obtain ⟨hi, k0, k251, n251, r251, k252, n252, r252, k253, n253, r253, k254, n254, r254, k255, n255, r255, k256, n256, r256, k257, n257, r257, k258, n258, r258, k259, n259, r259, k260, n260, r260, k261, n261, r261⟩ := G
  unfold fn_X7_of
  simp (disch := omega) only [↓lm1, l0, l1, l2, l3, l4, l5, l6, l7, l8, l9, l10, l11, l12, l13, l14, l31, l32, l44, l48, l50, l57, l59, l60, l74, l100, l110, l126, l300, l330, l500, l501, l801, l1000, l5000, l5010, l8010, l8192, l9000, l10000, l1000000, nI_add, pk_mul, nI_clamp, nI_leI, nI_ltI, nI_eq, chk_d, chk_t, chk_inb, rfm_s, bnd_e, cal_e, calR_e, if_pos, if_neg, k0, k251, n251, r251, k252, n252, r252, k253, n253, r253, k254, n254, r254, k255, n255, r255, k256, n256, r256, k257, n257, r257, k258, n258, r258, k259, n259, r259, k260, n260, r260, k261, n261, r261]
theorem x7_put {ad : Nat → Nat} {T : Ty} {R : Rm} (G : RG ad T R) (M : Mm) {b k : Nat} (v : Int32) (h : 14 + 6 * b + k < 110) : fn_X7_put T R (ad 250) (nI b) (nI k) v M = some ((), sI M (ad 251) (14 + 6 * b + k) v) := by
  obtain ⟨hi, k0, k251, n251, r251, k252, n252, r252, k253, n253, r253, k254, n254, r254, k255, n255, r255, k256, n256, r256, k257, n257, r257, k258, n258, r258, k259, n259, r259, k260, n260, r260, k261, n261, r261⟩ := G
  unfold fn_X7_put
  simp (disch := omega) only [↓lm1, l0, l1, l2, l3, l4, l5, l6, l7, l8, l9, l10, l11, l12, l13, l14, l31, l32, l44, l48, l50, l57, l59, l60, l74, l100, l110, l126, l300, l330, l500, l501, l801, l1000, l5000, l5010, l8010, l8192, l9000, l10000, l1000000, nI_add, pk_mul, nI_clamp, nI_leI, nI_ltI, nI_eq, chk_d, chk_t, chk_inb, rfm_s, bnd_e, cal_e, calR_e, if_pos, if_neg, k0, k251, n251, r251, k252, n252, r252, k253, n253, r253, k254, n254, r254, k255, n255, r255, k256, n256, r256, k257, n257, r257, k258, n258, r258, k259, n259, r259, k260, n260, r260, k261, n261, r261]
theorem x7_ofStake {ad : Nat → Nat} {T : Ty} {R : Rm} (G : RG ad T R) (M : Mm) {b k : Nat} (h : 74 + 6 * b + k < 110) : fn_X7_ofStake T R (ad 250) (nI b) (nI k) M = some (gI M (ad 251) (74 + 6 * b + k), M) := by
  obtain ⟨hi, k0, k251, n251, r251, k252, n252, r252, k253, n253, r253, k254, n254, r254, k255, n255, r255, k256, n256, r256, k257, n257, r257, k258, n258, r258, k259, n259, r259, k260, n260, r260, k261, n261, r261⟩ := G
  unfold fn_X7_ofStake
  simp (disch := omega) only [↓lm1, l0, l1, l2, l3, l4, l5, l6, l7, l8, l9, l10, l11, l12, l13, l14, l31, l32, l44, l48, l50, l57, l59, l60, l74, l100, l110, l126, l300, l330, l500, l501, l801, l1000, l5000, l5010, l8010, l8192, l9000, l10000, l1000000, nI_add, pk_mul, nI_clamp, nI_leI, nI_ltI, nI_eq, chk_d, chk_t, chk_inb, rfm_s, bnd_e, cal_e, calR_e, if_pos, if_neg, k0, k251, n251, r251, k252, n252, r252, k253, n253, r253, k254, n254, r254, k255, n255, r255, k256, n256, r256, k257, n257, r257, k258, n258, r258, k259, n259, r259, k260, n260, r260, k261, n261, r261]
theorem x7_putStake {ad : Nat → Nat} {T : Ty} {R : Rm} (G : RG ad T R) (M : Mm) {b k : Nat} (v : Int32) (h : 74 + 6 * b + k < 110) : fn_X7_putStake T R (ad 250) (nI b) (nI k) v M = some ((), sI M (ad 251) (74 + 6 * b + k) v) := by
  obtain ⟨hi, k0, k251, n251, r251, k252, n252, r252, k253, n253, r253, k254, n254, r254, k255, n255, r255, k256, n256, r256, k257, n257, r257, k258, n258, r258, k259, n259, r259, k260, n260, r260, k261, n261, r261⟩ := G
  unfold fn_X7_putStake
  simp (disch := omega) only [↓lm1, l0, l1, l2, l3, l4, l5, l6, l7, l8, l9, l10, l11, l12, l13, l14, l31, l32, l44, l48, l50, l57, l59, l60, l74, l100, l110, l126, l300, l330, l500, l501, l801, l1000, l5000, l5010, l8010, l8192, l9000, l10000, l1000000, nI_add, pk_mul, nI_clamp, nI_leI, nI_ltI, nI_eq, chk_d, chk_t, chk_inb, rfm_s, bnd_e, cal_e, calR_e, if_pos, if_neg, k0, k251, n251, r251, k252, n252, r252, k253, n253, r253, k254, n254, r254, k255, n255, r255, k256, n256, r256, k257, n257, r257, k258, n258, r258, k259, n259, r259, k260, n260, r260, k261, n261, r261]
theorem x7_iceOf {ad : Nat → Nat} {T : Ty} {R : Rm} (G : RG ad T R) {M : Mm} {m : Nat → Int32} {f : Nat → Nat → Nat} {acc : Nat → Int64} (P : RP ad M m f acc) {Y b : Nat} (hY : m 7 = nI Y) (hY8 : Y < 801) (hb : b < 10) : fn_X7_iceOf T R (ad 250) (nI b) M = some (nI (sm (f b) (Y + 1)), M) := by
  obtain ⟨hi, k0, k251, n251, r251, k252, n252, r252, k253, n253, r253, k254, n254, r254, k255, n255, r255, k256, n256, r256, k257, n257, r257, k258, n258, r258, k259, n259, r259, k260, n260, r260, k261, n261, r261⟩ := G
  obtain ⟨pm, pf, pa⟩ := P
  have h7 : gI M (ad 251) 7 = nI Y := (pm 7 (by omega)).trans hY
  unfold fn_X7_iceOf fb_X7_iceOf_4
  simp only [l0]
  refine lp_acc (hi := Y + 1) (g := f b) ?_ ?_ FU (FU_gt (by omega))
  · intro j s i hi
    unfold fs_X7_iceOf_4
    simp (disch := omega) only [↓lm1, l0, l1, l2, l3, l4, l5, l6, l7, l8, l9, l10, l11, l12, l13, l14, l31, l32, l44, l48, l50, l57, l59, l60, l74, l100, l110, l126, l300, l330, l500, l501, l801, l1000, l5000, l5010, l8010, l8192, l9000, l10000, l1000000, nI_add, pk_mul, nI_clamp, nI_leI, nI_ltI, nI_eq, chk_d, chk_t, chk_inb, rfm_s, bnd_e, cal_e, calR_e, if_pos, if_neg, k0, k251, n251, r251, k252, n252, r252, k253, n253, r253, k254, n254, r254, k255, n255, r255, k256, n256, r256, k257, n257, r257, k258, n258, r258, k259, n259, r259, k260, n260, r260, k261, n261, r261, h7, pf]
  · intro j s
    unfold fs_X7_iceOf_4
    simp (disch := omega) only [↓lm1, l0, l1, l2, l3, l4, l5, l6, l7, l8, l9, l10, l11, l12, l13, l14, l31, l32, l44, l48, l50, l57, l59, l60, l74, l100, l110, l126, l300, l330, l500, l501, l801, l1000, l5000, l5010, l8010, l8192, l9000, l10000, l1000000, nI_add, pk_mul, nI_clamp, nI_leI, nI_ltI, nI_eq, chk_d, chk_t, chk_inb, rfm_s, bnd_e, cal_e, calR_e, if_pos, if_neg, k0, k251, n251, r251, k252, n252, r252, k253, n253, r253, k254, n254, r254, k255, n255, r255, k256, n256, r256, k257, n257, r257, k258, n258, r258, k259, n259, r259, k260, n260, r260, k261, n261, r261, h7]
theorem x7_leftOf {ad : Nat → Nat} {T : Ty} {R : Rm} (G : RG ad T R) {M : Mm} {m : Nat → Int32} {f : Nat → Nat → Nat} {acc : Nat → Int64} (P : RP ad M m f acc) {nb y : Nat} (hb : m 8 = nI nb) (hb10 : nb ≤ 10) (hy : y < 801) : fn_X7_leftOf T R (ad 250) (nI y) M = some (nI (sm (fun b => f b y) nb), M) := by
  obtain ⟨hi, k0, k251, n251, r251, k252, n252, r252, k253, n253, r253, k254, n254, r254, k255, n255, r255, k256, n256, r256, k257, n257, r257, k258, n258, r258, k259, n259, r259, k260, n260, r260, k261, n261, r261⟩ := G
  obtain ⟨pm, pf, pa⟩ := P
  have h8 : gI M (ad 251) 8 = nI nb := (pm 8 (by omega)).trans hb
  unfold fn_X7_leftOf fb_X7_leftOf_4
  simp only [l0]
  refine lp_acc (hi := nb) (g := fun b => f b y) ?_ ?_ FU (FU_gt (by omega))
  · intro j s i hi
    unfold fs_X7_leftOf_4
    simp (disch := omega) only [↓lm1, l0, l1, l2, l3, l4, l5, l6, l7, l8, l9, l10, l11, l12, l13, l14, l31, l32, l44, l48, l50, l57, l59, l60, l74, l100, l110, l126, l300, l330, l500, l501, l801, l1000, l5000, l5010, l8010, l8192, l9000, l10000, l1000000, nI_add, pk_mul, nI_clamp, nI_leI, nI_ltI, nI_eq, chk_d, chk_t, chk_inb, rfm_s, bnd_e, cal_e, calR_e, if_pos, if_neg, k0, k251, n251, r251, k252, n252, r252, k253, n253, r253, k254, n254, r254, k255, n255, r255, k256, n256, r256, k257, n257, r257, k258, n258, r258, k259, n259, r259, k260, n260, r260, k261, n261, r261, h8, pf]
  · intro j s
    unfold fs_X7_leftOf_4
    simp (disch := omega) only [↓lm1, l0, l1, l2, l3, l4, l5, l6, l7, l8, l9, l10, l11, l12, l13, l14, l31, l32, l44, l48, l50, l57, l59, l60, l74, l100, l110, l126, l300, l330, l500, l501, l801, l1000, l5000, l5010, l8010, l8192, l9000, l10000, l1000000, nI_add, pk_mul, nI_clamp, nI_leI, nI_ltI, nI_eq, chk_d, chk_t, chk_inb, rfm_s, bnd_e, cal_e, calR_e, if_pos, if_neg, k0, k251, n251, r251, k252, n252, r252, k253, n253, r253, k254, n254, r254, k255, n255, r255, k256, n256, r256, k257, n257, r257, k258, n258, r258, k259, n259, r259, k260, n260, r260, k261, n261, r261, h8]
def cnt (f : Nat → Nat) : Nat → Nat := fun y => if 0 < f y then 1 else 0
theorem x7_layersOf {ad : Nat → Nat} {T : Ty} {R : Rm} (G : RG ad T R) {M : Mm} {m : Nat → Int32} {f : Nat → Nat → Nat} {acc : Nat → Int64} (P : RP ad M m f acc) {Y b : Nat} (hY : m 7 = nI Y) (hY8 : Y < 801) (hb : b < 10) (hf : ∀ y, y ≤ Y → f b y < 2 ^ 31) : fn_X7_layersOf T R (ad 250) (nI b) M = some (nI (sm (cnt (f b)) (Y + 1)), M) := by
  obtain ⟨hi, k0, k251, n251, r251, k252, n252, r252, k253, n253, r253, k254, n254, r254, k255, n255, r255, k256, n256, r256, k257, n257, r257, k258, n258, r258, k259, n259, r259, k260, n260, r260, k261, n261, r261⟩ := G
  obtain ⟨pm, pf, pa⟩ := P
  have h7 : gI M (ad 251) 7 = nI Y := (pm 7 (by omega)).trans hY
  unfold fn_X7_layersOf fb_X7_layersOf_4
  simp only [l0]
  refine lp_acc (hi := Y + 1) (g := cnt (f b)) ?_ ?_ FU (FU_gt (by omega))
  · intro j s i hi
    have hfi := hf i (by omega)
    unfold fs_X7_layersOf_4 fs_X7_layersOf_36 cnt
    by_cases h0 : 0 < f b i
    · simp (disch := omega) only [↓lm1, l0, l1, l2, l3, l4, l5, l6, l7, l8, l9, l10, l11, l12, l13, l14, l31, l32, l44, l48, l50, l57, l59, l60, l74, l100, l110, l126, l300, l330, l500, l501, l801, l1000, l5000, l5010, l8010, l8192, l9000, l10000, l1000000, nI_add, pk_mul, nI_clamp, nI_leI, nI_ltI, nI_eq, chk_d, chk_t, chk_inb, rfm_s, bnd_e, cal_e, calR_e, if_pos, if_neg, k0, k251, n251, r251, k252, n252, r252, k253, n253, r253, k254, n254, r254, k255, n255, r255, k256, n256, r256, k257, n257, r257, k258, n258, r258, k259, n259, r259, k260, n260, r260, k261, n261, r261, h7, pf]
    · simp (disch := omega) only [↓lm1, l0, l1, l2, l3, l4, l5, l6, l7, l8, l9, l10, l11, l12, l13, l14, l31, l32, l44, l48, l50, l57, l59, l60, l74, l100, l110, l126, l300, l330, l500, l501, l801, l1000, l5000, l5010, l8010, l8192, l9000, l10000, l1000000, nI_add, pk_mul, nI_clamp, nI_leI, nI_ltI, nI_eq, chk_d, chk_t, chk_inb, rfm_s, bnd_e, cal_e, calR_e, if_pos, if_neg, k0, k251, n251, r251, k252, n252, r252, k253, n253, r253, k254, n254, r254, k255, n255, r255, k256, n256, r256, k257, n257, r257, k258, n258, r258, k259, n259, r259, k260, n260, r260, k261, n261, r261, h7, pf]
  · intro j s
    unfold fs_X7_layersOf_4
    simp (disch := omega) only [↓lm1, l0, l1, l2, l3, l4, l5, l6, l7, l8, l9, l10, l11, l12, l13, l14, l31, l32, l44, l48, l50, l57, l59, l60, l74, l100, l110, l126, l300, l330, l500, l501, l801, l1000, l5000, l5010, l8010, l8192, l9000, l10000, l1000000, nI_add, pk_mul, nI_clamp, nI_leI, nI_ltI, nI_eq, chk_d, chk_t, chk_inb, rfm_s, bnd_e, cal_e, calR_e, if_pos, if_neg, k0, k251, n251, r251, k252, n252, r252, k253, n253, r253, k254, n254, r254, k255, n255, r255, k256, n256, r256, k257, n257, r257, k258, n258, r258, k259, n259, r259, k260, n260, r260, k261, n261, r261, h7]
