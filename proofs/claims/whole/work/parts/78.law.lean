/-! the law's body, call by call, and its loop -/
theorem fbs_L_law_18 (T : Ty) (L : Nat) (xs : Nat → Int32) (a1 a2 n : Nat) : fb_L_law_18 T L xs a1 a2 (n + 1) = fs_L_law_18 T L xs a1 a2 (fb_L_law_18 T L xs a1 a2 n) := rfl
theorem lc_0 (r : Int64) : (lg_cmp r r = nI 0) = True := eq_true ((lg_cmp_eq r r).mpr rfl)
def lawS (ad : Nat → Nat) (T : Ty) (q : Option (Int32 × Mm × Rm)) (j : Int32 → Mm → Rm → Option (Int32 × Mm × Rm)) (i : Nat) : Prop := ∃ M' R', WW ad T M' R' ∧ q = j (nI (i + 5)) M' R'
theorem law_740 (T : Ty) (L : Nat) (xs : Nat → Int32) (a1 a2 : Nat) (j : Int32 → Mm → Rm → Option (Int32 × Mm × Rm)) (i : Nat) (M : Mm) (R : Rm) : fs_L_law_740 T L xs a1 a2 j (nI i) M R = j (nI (i + 5)) M R := by
  unfold fs_L_law_740
  simp only [l5, nI_add, bnd_e]
theorem law_go {L i : Nat} (hi5 : i + 5 ≤ L) (hL : L ≤ 2560) : ¬ (Int32.ofNat L - (5 : Int32) < nI i) := by
  have e : Int32.ofNat L - (5 : Int32) = nI (L - 5) := by
    rw [show Int32.ofNat L = nI L from rfl, l5, nIs (by omega)]
  rw [e, nI_ltI (by omega) (by omega)]
  omega
theorem law_stop {L i : Nat} (hi5 : L < i + 5) (hi : i ≤ L) (hL : L ≤ 2560) : Int32.ofNat L - (5 : Int32) < nI i := by
  by_cases h : 5 ≤ L
  · have e : Int32.ofNat L - (5 : Int32) = nI (L - 5) := by
      rw [show Int32.ofNat L = nI L from rfl, l5, nIs (by omega)]
    rw [e, nI_ltI (by omega) (by omega)]
    omega
  · have h1 : nI L - nI 5 < nI 0 := pk_sneg (by omega) (by omega)
    have h2 : nI 0 ≤ nI i := by
      rw [nI_leI (by omega) (by omega)]
      omega
    rw [show Int32.ofNat L = nI L from rfl, l5]
    exact Int32.lt_of_lt_of_le h1 h2
theorem lb_0 {ad : Nat → Nat} {T : Ty} {M : Mm} {R : Rm} {s : Sx} {n : Nat} {h : Nat → Sx} {tl : Nat} {tx : Nat → Nat} {β : Nat → Nat} {σ : Nat → Nat → Nat} (w : WD ad T M R s n h tl tx β σ) {L : Nat} (xs : Nat → Int32) (j : Int32 → Mm → Rm → Option (Int32 × Mm × Rm)) {i : Nat} (hi5 : i + 5 ≤ L) (hL : L ≤ 2560) : lawS ad T (chk (inb (nI i + (1 : Int32)) L) <| chk (inb (nI i + (2 : Int32)) L) <| chk (isK T (ad 0) 6) <| calR (fn_X6_set T (ad 0) (xs (nI i + (1 : Int32)).toNatClampNeg) (xs (nI i + (2 : Int32)).toNatClampNeg) M R) fun r M1 R1 => chk (isK T (ad 250) 7) <| cal (fn_X7_set T R1 (ad 250) (xs (nI i + (1 : Int32)).toNatClampNeg) (xs (nI i + (2 : Int32)).toNatClampNeg) M1) fun r2 M2 => if r = r2 then (fs_L_law_740 T L xs (ad 0) (ad 250) j) (nI i) M2 R1 else some ((0 : Int32), M2, R1)) j i := by
  have w0 := w.1.1
  have kR := w.2.2.2.1.2.1
  obtain ⟨r, M1, R1, M2, q6, q7, ww⟩ := g_set w (xs (i + 1)) (xs (i + 2))
  have q7 : fn_X7_set T R1 (ad 250) (xs (i + 1)) (xs (i + 2)) M1 = some (r, M2) := q7
  refine ⟨M2, R1, ww, ?_⟩
  simp (disch := omega) only [↓cal_w6, ↓cal_w7, ↓lm1, l0, l1, l2, l3, l4, l5, l6, l7, l8, l9, l10, l11, l12, l13, l14, l31, l32, l44, l48, l50, l57, l59, l60, l74, l100, l110, l126, l300, l330, l500, l501, l801, l1000, l5000, l5010, l8010, l8192, l9000, l10000, l1000000, and_self, and_true, true_and, and_false, false_and, nI_add, pk_mul, nI_clamp, ↓reduceIte, eF, lT, lF, leT, leF, chk_d, chk_t, chk_inb, rfm_s, bnd_e, cal_e, calR_e, ↓chk_q w0, ↓chk_q kR, ↓calR_q q6, q6, calR_u, ↓cal_q q7, q7, law_740]
theorem lb_1 {ad : Nat → Nat} {T : Ty} {M : Mm} {R : Rm} {s : Sx} {n : Nat} {h : Nat → Sx} {tl : Nat} {tx : Nat → Nat} {β : Nat → Nat} {σ : Nat → Nat → Nat} (w : WD ad T M R s n h tl tx β σ) {L : Nat} (xs : Nat → Int32) (j : Int32 → Mm → Rm → Option (Int32 × Mm × Rm)) {i : Nat} (hi5 : i + 5 ≤ L) (hL : L ≤ 2560) : lawS ad T (chk (inb (nI i + (1 : Int32)) L) <| chk (inb (nI i + (2 : Int32)) L) <| chk (inb (nI i + (3 : Int32)) L) <| chk (inb (nI i + (4 : Int32)) L) <| chk (isK T (ad 0) 6) <| calR (fn_X6_band T (ad 0) (xs (nI i + (1 : Int32)).toNatClampNeg) (xs (nI i + (2 : Int32)).toNatClampNeg) (xs (nI i + (3 : Int32)).toNatClampNeg) (xs (nI i + (4 : Int32)).toNatClampNeg) M R) fun r M1 R1 => chk (isK T (ad 250) 7) <| cal (fn_X7_band T R1 (ad 250) (xs (nI i + (1 : Int32)).toNatClampNeg) (xs (nI i + (2 : Int32)).toNatClampNeg) (xs (nI i + (3 : Int32)).toNatClampNeg) (xs (nI i + (4 : Int32)).toNatClampNeg) M1) fun r2 M2 => if r = r2 then (fs_L_law_740 T L xs (ad 0) (ad 250) j) (nI i) M2 R1 else some ((0 : Int32), M2, R1)) j i := by
  have w0 := w.1.1
  have kR := w.2.2.2.1.2.1
  obtain ⟨r, M1, R1, M2, q6, q7, ww⟩ := g_band w (xs (i + 1)) (xs (i + 2)) (xs (i + 3)) (xs (i + 4))
  have q7 : fn_X7_band T R1 (ad 250) (xs (i + 1)) (xs (i + 2)) (xs (i + 3)) (xs (i + 4)) M1 = some (r, M2) := q7
  refine ⟨M2, R1, ww, ?_⟩
  simp (disch := omega) only [↓cal_w6, ↓cal_w7, ↓lm1, l0, l1, l2, l3, l4, l5, l6, l7, l8, l9, l10, l11, l12, l13, l14, l31, l32, l44, l48, l50, l57, l59, l60, l74, l100, l110, l126, l300, l330, l500, l501, l801, l1000, l5000, l5010, l8010, l8192, l9000, l10000, l1000000, and_self, and_true, true_and, and_false, false_and, nI_add, pk_mul, nI_clamp, ↓reduceIte, eF, lT, lF, leT, leF, chk_d, chk_t, chk_inb, rfm_s, bnd_e, cal_e, calR_e, ↓chk_q w0, ↓chk_q kR, ↓calR_q q6, q6, calR_u, ↓cal_q q7, q7, law_740]
theorem lb_2 {ad : Nat → Nat} {T : Ty} {M : Mm} {R : Rm} {s : Sx} {n : Nat} {h : Nat → Sx} {tl : Nat} {tx : Nat → Nat} {β : Nat → Nat} {σ : Nat → Nat → Nat} (w : WD ad T M R s n h tl tx β σ) {L : Nat} (xs : Nat → Int32) (j : Int32 → Mm → Rm → Option (Int32 × Mm × Rm)) {i : Nat} (hi5 : i + 5 ≤ L) (hL : L ≤ 2560) : lawS ad T (chk (inb (nI i + (1 : Int32)) L) <| chk (inb (nI i + (2 : Int32)) L) <| chk (isK T (ad 0) 6) <| calR (fn_X6_creep T (ad 0) (xs (nI i + (1 : Int32)).toNatClampNeg) (xs (nI i + (2 : Int32)).toNatClampNeg) M R) fun r M1 R1 => chk (isK T (ad 250) 7) <| cal (fn_X7_creep T R1 (ad 250) (xs (nI i + (1 : Int32)).toNatClampNeg) (xs (nI i + (2 : Int32)).toNatClampNeg) M1) fun r2 M2 => if r = r2 then (fs_L_law_740 T L xs (ad 0) (ad 250) j) (nI i) M2 R1 else some ((0 : Int32), M2, R1)) j i := by
  have w0 := w.1.1
  have kR := w.2.2.2.1.2.1
  obtain ⟨r, M1, R1, M2, q6, q7, ww⟩ := g_creep w (xs (i + 1)) (xs (i + 2))
  have q7 : fn_X7_creep T R1 (ad 250) (xs (i + 1)) (xs (i + 2)) M1 = some (r, M2) := q7
  refine ⟨M2, R1, ww, ?_⟩
  simp (disch := omega) only [↓cal_w6, ↓cal_w7, ↓lm1, l0, l1, l2, l3, l4, l5, l6, l7, l8, l9, l10, l11, l12, l13, l14, l31, l32, l44, l48, l50, l57, l59, l60, l74, l100, l110, l126, l300, l330, l500, l501, l801, l1000, l5000, l5010, l8010, l8192, l9000, l10000, l1000000, and_self, and_true, true_and, and_false, false_and, nI_add, pk_mul, nI_clamp, ↓reduceIte, eF, lT, lF, leT, leF, chk_d, chk_t, chk_inb, rfm_s, bnd_e, cal_e, calR_e, ↓chk_q w0, ↓chk_q kR, ↓calR_q q6, q6, calR_u, ↓cal_q q7, q7, law_740]
theorem lb_3 {ad : Nat → Nat} {T : Ty} {M : Mm} {R : Rm} {s : Sx} {n : Nat} {h : Nat → Sx} {tl : Nat} {tx : Nat → Nat} {β : Nat → Nat} {σ : Nat → Nat → Nat} (w : WD ad T M R s n h tl tx β σ) {L : Nat} (xs : Nat → Int32) (j : Int32 → Mm → Rm → Option (Int32 × Mm × Rm)) {i : Nat} (hi5 : i + 5 ≤ L) (hL : L ≤ 2560) : lawS ad T (chk (inb (nI i + (1 : Int32)) L) <| chk (inb (nI i + (2 : Int32)) L) <| chk (isK T (ad 0) 6) <| cal (fn_X6_bandInfo T R (ad 0) (xs (nI i + (1 : Int32)).toNatClampNeg) (xs (nI i + (2 : Int32)).toNatClampNeg) M) fun r M1 => chk (isK T (ad 250) 7) <| cal (fn_X7_bandInfo T R (ad 250) (xs (nI i + (1 : Int32)).toNatClampNeg) (xs (nI i + (2 : Int32)).toNatClampNeg) M1) fun r2 M2 => if r = r2 then (fs_L_law_740 T L xs (ad 0) (ad 250) j) (nI i) M2 R else some ((0 : Int32), M2, R)) j i := by
  have w0 := w.1.1
  have kR := w.2.2.2.1.2.1
  obtain ⟨r, q6, q7⟩ := g_bandInfo w (xs (i + 1)) (xs (i + 2))
  refine ⟨M, R, ⟨s, n, h, tl, tx, β, σ, w⟩, ?_⟩
  simp (disch := omega) only [↓cal_w6, ↓cal_w7, ↓lm1, l0, l1, l2, l3, l4, l5, l6, l7, l8, l9, l10, l11, l12, l13, l14, l31, l32, l44, l48, l50, l57, l59, l60, l74, l100, l110, l126, l300, l330, l500, l501, l801, l1000, l5000, l5010, l8010, l8192, l9000, l10000, l1000000, and_self, and_true, true_and, and_false, false_and, nI_add, pk_mul, nI_clamp, ↓reduceIte, eF, lT, lF, leT, leF, chk_d, chk_t, chk_inb, rfm_s, bnd_e, cal_e, calR_e, ↓chk_q w0, ↓chk_q kR, ↓cal_q q6, q6, ↓cal_q q7, q7, law_740]
theorem lb_4 {ad : Nat → Nat} {T : Ty} {M : Mm} {R : Rm} {s : Sx} {n : Nat} {h : Nat → Sx} {tl : Nat} {tx : Nat → Nat} {β : Nat → Nat} {σ : Nat → Nat → Nat} (w : WD ad T M R s n h tl tx β σ) {L : Nat} (xs : Nat → Int32) (j : Int32 → Mm → Rm → Option (Int32 × Mm × Rm)) {i : Nat} (hi5 : i + 5 ≤ L) (hL : L ≤ 2560) : lawS ad T (chk (inb (nI i + (1 : Int32)) L) <| chk (inb (nI i + (2 : Int32)) L) <| chk (inb (nI i + (3 : Int32)) L) <| chk (isK T (ad 0) 6) <| cal (fn_X6_layer T R (ad 0) (xs (nI i + (1 : Int32)).toNatClampNeg) (xs (nI i + (2 : Int32)).toNatClampNeg) (xs (nI i + (3 : Int32)).toNatClampNeg) M) fun r M1 => chk (isK T (ad 250) 7) <| cal (fn_X7_layer T R (ad 250) (xs (nI i + (1 : Int32)).toNatClampNeg) (xs (nI i + (2 : Int32)).toNatClampNeg) (xs (nI i + (3 : Int32)).toNatClampNeg) M1) fun r2 M2 => if r = r2 then (fs_L_law_740 T L xs (ad 0) (ad 250) j) (nI i) M2 R else some ((0 : Int32), M2, R)) j i := by
  have w0 := w.1.1
  have kR := w.2.2.2.1.2.1
  obtain ⟨r, q6, q7⟩ := g_layer w (xs (i + 1)) (xs (i + 2)) (xs (i + 3))
  refine ⟨M, R, ⟨s, n, h, tl, tx, β, σ, w⟩, ?_⟩
  simp (disch := omega) only [↓cal_w6, ↓cal_w7, ↓lm1, l0, l1, l2, l3, l4, l5, l6, l7, l8, l9, l10, l11, l12, l13, l14, l31, l32, l44, l48, l50, l57, l59, l60, l74, l100, l110, l126, l300, l330, l500, l501, l801, l1000, l5000, l5010, l8010, l8192, l9000, l10000, l1000000, and_self, and_true, true_and, and_false, false_and, nI_add, pk_mul, nI_clamp, ↓reduceIte, eF, lT, lF, leT, leF, chk_d, chk_t, chk_inb, rfm_s, bnd_e, cal_e, calR_e, ↓chk_q w0, ↓chk_q kR, ↓cal_q q6, q6, ↓cal_q q7, q7, law_740]
theorem lb_5 {ad : Nat → Nat} {T : Ty} {M : Mm} {R : Rm} {s : Sx} {n : Nat} {h : Nat → Sx} {tl : Nat} {tx : Nat → Nat} {β : Nat → Nat} {σ : Nat → Nat → Nat} (w : WD ad T M R s n h tl tx β σ) {L : Nat} (xs : Nat → Int32) (j : Int32 → Mm → Rm → Option (Int32 × Mm × Rm)) {i : Nat} (hi5 : i + 5 ≤ L) (hL : L ≤ 2560) : lawS ad T (chk (inb (nI i + (1 : Int32)) L) <| chk (isK T (ad 0) 6) <| cal (fn_X6_ofYear T R (ad 0) (xs (nI i + (1 : Int32)).toNatClampNeg) M) fun r M1 => chk (isK T (ad 250) 7) <| cal (fn_X7_ofYear T R (ad 250) (xs (nI i + (1 : Int32)).toNatClampNeg) M1) fun r2 M2 => if r = r2 then (fs_L_law_740 T L xs (ad 0) (ad 250) j) (nI i) M2 R else some ((0 : Int32), M2, R)) j i := by
  have w0 := w.1.1
  have kR := w.2.2.2.1.2.1
  obtain ⟨r, q6, q7⟩ := g_ofYear w (xs (i + 1))
  refine ⟨M, R, ⟨s, n, h, tl, tx, β, σ, w⟩, ?_⟩
  simp (disch := omega) only [↓cal_w6, ↓cal_w7, ↓lm1, l0, l1, l2, l3, l4, l5, l6, l7, l8, l9, l10, l11, l12, l13, l14, l31, l32, l44, l48, l50, l57, l59, l60, l74, l100, l110, l126, l300, l330, l500, l501, l801, l1000, l5000, l5010, l8010, l8192, l9000, l10000, l1000000, and_self, and_true, true_and, and_false, false_and, nI_add, pk_mul, nI_clamp, ↓reduceIte, eF, lT, lF, leT, leF, chk_d, chk_t, chk_inb, rfm_s, bnd_e, cal_e, calR_e, ↓chk_q w0, ↓chk_q kR, ↓cal_q q6, q6, ↓cal_q q7, q7, law_740]
theorem lb_6 {ad : Nat → Nat} {T : Ty} {M : Mm} {R : Rm} {s : Sx} {n : Nat} {h : Nat → Sx} {tl : Nat} {tx : Nat → Nat} {β : Nat → Nat} {σ : Nat → Nat → Nat} (w : WD ad T M R s n h tl tx β σ) {L : Nat} (xs : Nat → Int32) (j : Int32 → Mm → Rm → Option (Int32 × Mm × Rm)) {i : Nat} (hi5 : i + 5 ≤ L) (hL : L ≤ 2560) : lawS ad T (chk (isK T (ad 0) 6) <| cal (fn_X6_line T R (ad 0) M) fun r M1 => chk (isK T (ad 250) 7) <| cal (fn_X7_line T R (ad 250) M1) fun r2 M2 => if r = r2 then (fs_L_law_740 T L xs (ad 0) (ad 250) j) (nI i) M2 R else some ((0 : Int32), M2, R)) j i := by
  have w0 := w.1.1
  have kR := w.2.2.2.1.2.1
  obtain ⟨r, q6, q7⟩ := g_line w
  refine ⟨M, R, ⟨s, n, h, tl, tx, β, σ, w⟩, ?_⟩
  simp (disch := omega) only [↓cal_w6, ↓cal_w7, ↓lm1, l0, l1, l2, l3, l4, l5, l6, l7, l8, l9, l10, l11, l12, l13, l14, l31, l32, l44, l48, l50, l57, l59, l60, l74, l100, l110, l126, l300, l330, l500, l501, l801, l1000, l5000, l5010, l8010, l8192, l9000, l10000, l1000000, and_self, and_true, true_and, and_false, false_and, nI_add, pk_mul, nI_clamp, ↓reduceIte, eF, lT, lF, leT, leF, chk_d, chk_t, chk_inb, rfm_s, bnd_e, cal_e, calR_e, ↓chk_q w0, ↓chk_q kR, ↓cal_q q6, q6, ↓cal_q q7, q7, law_740]
theorem lb_7 {ad : Nat → Nat} {T : Ty} {M : Mm} {R : Rm} {s : Sx} {n : Nat} {h : Nat → Sx} {tl : Nat} {tx : Nat → Nat} {β : Nat → Nat} {σ : Nat → Nat → Nat} (w : WD ad T M R s n h tl tx β σ) {L : Nat} (xs : Nat → Int32) (j : Int32 → Mm → Rm → Option (Int32 × Mm × Rm)) {i : Nat} (hi5 : i + 5 ≤ L) (hL : L ≤ 2560) : lawS ad T (chk (inb (nI i + (1 : Int32)) L) <| chk (isK T (ad 0) 6) <| cal (fn_X6_front T R (ad 0) (xs (nI i + (1 : Int32)).toNatClampNeg) M) fun r M1 => chk (isK T (ad 250) 7) <| cal (fn_X7_front T R (ad 250) (xs (nI i + (1 : Int32)).toNatClampNeg) M1) fun r2 M2 => if r = r2 then (fs_L_law_740 T L xs (ad 0) (ad 250) j) (nI i) M2 R else some ((0 : Int32), M2, R)) j i := by
  have w0 := w.1.1
  have kR := w.2.2.2.1.2.1
  obtain ⟨r, q6, q7⟩ := g_front w (xs (i + 1))
  refine ⟨M, R, ⟨s, n, h, tl, tx, β, σ, w⟩, ?_⟩
  simp (disch := omega) only [↓cal_w6, ↓cal_w7, ↓lm1, l0, l1, l2, l3, l4, l5, l6, l7, l8, l9, l10, l11, l12, l13, l14, l31, l32, l44, l48, l50, l57, l59, l60, l74, l100, l110, l126, l300, l330, l500, l501, l801, l1000, l5000, l5010, l8010, l8192, l9000, l10000, l1000000, and_self, and_true, true_and, and_false, false_and, nI_add, pk_mul, nI_clamp, ↓reduceIte, eF, lT, lF, leT, leF, chk_d, chk_t, chk_inb, rfm_s, bnd_e, cal_e, calR_e, ↓chk_q w0, ↓chk_q kR, ↓cal_q q6, q6, ↓cal_q q7, q7, law_740]
theorem lb_8 {ad : Nat → Nat} {T : Ty} {M : Mm} {R : Rm} {s : Sx} {n : Nat} {h : Nat → Sx} {tl : Nat} {tx : Nat → Nat} {β : Nat → Nat} {σ : Nat → Nat → Nat} (w : WD ad T M R s n h tl tx β σ) {L : Nat} (xs : Nat → Int32) (j : Int32 → Mm → Rm → Option (Int32 × Mm × Rm)) {i : Nat} (hi5 : i + 5 ≤ L) (hL : L ≤ 2560) : lawS ad T (chk (inb (nI i + (1 : Int32)) L) <| chk (isK T (ad 0) 6) <| cal (fn_X6_account T R (ad 0) (xs (nI i + (1 : Int32)).toNatClampNeg) M) fun r M1 => chk (isK T (ad 250) 7) <| cal (fn_X7_account T R (ad 250) (xs (nI i + (1 : Int32)).toNatClampNeg) M1) fun r2 M2 => if (lg_cmp r r2) = 0 then (fs_L_law_740 T L xs (ad 0) (ad 250) j) (nI i) M2 R else some ((0 : Int32), M2, R)) j i := by
  have w0 := w.1.1
  have kR := w.2.2.2.1.2.1
  obtain ⟨r, q6, q7⟩ := g_account w (xs (i + 1))
  refine ⟨M, R, ⟨s, n, h, tl, tx, β, σ, w⟩, ?_⟩
  simp (disch := omega) only [↓cal_w6, ↓cal_w7, ↓lm1, l0, l1, l2, l3, l4, l5, l6, l7, l8, l9, l10, l11, l12, l13, l14, l31, l32, l44, l48, l50, l57, l59, l60, l74, l100, l110, l126, l300, l330, l500, l501, l801, l1000, l5000, l5010, l8010, l8192, l9000, l10000, l1000000, and_self, and_true, true_and, and_false, false_and, nI_add, pk_mul, nI_clamp, ↓reduceIte, eF, lT, lF, leT, leF, chk_d, chk_t, chk_inb, rfm_s, bnd_e, cal_e, calR_e, ↓chk_q w0, ↓chk_q kR, ↓cal_q q6, q6, ↓cal_q q7, q7, law_740, lc_0]
theorem lb_9 {ad : Nat → Nat} {T : Ty} {M : Mm} {R : Rm} {s : Sx} {n : Nat} {h : Nat → Sx} {tl : Nat} {tx : Nat → Nat} {β : Nat → Nat} {σ : Nat → Nat → Nat} (w : WD ad T M R s n h tl tx β σ) {L : Nat} (xs : Nat → Int32) (j : Int32 → Mm → Rm → Option (Int32 × Mm × Rm)) {i : Nat} (hi5 : i + 5 ≤ L) (hL : L ≤ 2560) : lawS ad T (chk (inb (nI i + (1 : Int32)) L) <| chk (isK T (ad 0) 6) <| cal (fn_X6_count T R (ad 0) (xs (nI i + (1 : Int32)).toNatClampNeg) M) fun r M1 => chk (isK T (ad 250) 7) <| cal (fn_X7_count T R (ad 250) (xs (nI i + (1 : Int32)).toNatClampNeg) M1) fun r2 M2 => if r = r2 then (fs_L_law_740 T L xs (ad 0) (ad 250) j) (nI i) M2 R else some ((0 : Int32), M2, R)) j i := by
  have w0 := w.1.1
  have kR := w.2.2.2.1.2.1
  obtain ⟨r, q6, q7⟩ := g_count w (xs (i + 1))
  refine ⟨M, R, ⟨s, n, h, tl, tx, β, σ, w⟩, ?_⟩
  simp (disch := omega) only [↓cal_w6, ↓cal_w7, ↓lm1, l0, l1, l2, l3, l4, l5, l6, l7, l8, l9, l10, l11, l12, l13, l14, l31, l32, l44, l48, l50, l57, l59, l60, l74, l100, l110, l126, l300, l330, l500, l501, l801, l1000, l5000, l5010, l8010, l8192, l9000, l10000, l1000000, and_self, and_true, true_and, and_false, false_and, nI_add, pk_mul, nI_clamp, ↓reduceIte, eF, lT, lF, leT, leF, chk_d, chk_t, chk_inb, rfm_s, bnd_e, cal_e, calR_e, ↓chk_q w0, ↓chk_q kR, ↓cal_q q6, q6, ↓cal_q q7, q7, law_740]
theorem lb_10 {ad : Nat → Nat} {T : Ty} {M : Mm} {R : Rm} {s : Sx} {n : Nat} {h : Nat → Sx} {tl : Nat} {tx : Nat → Nat} {β : Nat → Nat} {σ : Nat → Nat → Nat} (w : WD ad T M R s n h tl tx β σ) {L : Nat} (xs : Nat → Int32) (j : Int32 → Mm → Rm → Option (Int32 × Mm × Rm)) {i : Nat} (hi5 : i + 5 ≤ L) (hL : L ≤ 2560) : lawS ad T (chk (inb (nI i + (1 : Int32)) L) <| chk (inb (nI i + (2 : Int32)) L) <| chk (inb (nI i + (3 : Int32)) L) <| chk (isK T (ad 0) 6) <| calR (fn_X6_stake T (ad 0) (xs (nI i + (1 : Int32)).toNatClampNeg) (xs (nI i + (2 : Int32)).toNatClampNeg) (xs (nI i + (3 : Int32)).toNatClampNeg) M R) fun r M1 R1 => chk (isK T (ad 250) 7) <| cal (fn_X7_stake T R1 (ad 250) (xs (nI i + (1 : Int32)).toNatClampNeg) (xs (nI i + (2 : Int32)).toNatClampNeg) (xs (nI i + (3 : Int32)).toNatClampNeg) M1) fun r2 M2 => if r = r2 then (fs_L_law_740 T L xs (ad 0) (ad 250) j) (nI i) M2 R1 else some ((0 : Int32), M2, R1)) j i := by
  have w0 := w.1.1
  have kR := w.2.2.2.1.2.1
  obtain ⟨r, M1, R1, M2, q6, q7, ww⟩ := g_stake w (xs (i + 1)) (xs (i + 2)) (xs (i + 3))
  have q7 : fn_X7_stake T R1 (ad 250) (xs (i + 1)) (xs (i + 2)) (xs (i + 3)) M1 = some (r, M2) := q7
  refine ⟨M2, R1, ww, ?_⟩
  simp (disch := omega) only [↓cal_w6, ↓cal_w7, ↓lm1, l0, l1, l2, l3, l4, l5, l6, l7, l8, l9, l10, l11, l12, l13, l14, l31, l32, l44, l48, l50, l57, l59, l60, l74, l100, l110, l126, l300, l330, l500, l501, l801, l1000, l5000, l5010, l8010, l8192, l9000, l10000, l1000000, and_self, and_true, true_and, and_false, false_and, nI_add, pk_mul, nI_clamp, ↓reduceIte, eF, lT, lF, leT, leF, chk_d, chk_t, chk_inb, rfm_s, bnd_e, cal_e, calR_e, ↓chk_q w0, ↓chk_q kR, ↓calR_q q6, q6, calR_u, ↓cal_q q7, q7, law_740]
theorem lb_11 {ad : Nat → Nat} {T : Ty} {M : Mm} {R : Rm} {s : Sx} {n : Nat} {h : Nat → Sx} {tl : Nat} {tx : Nat → Nat} {β : Nat → Nat} {σ : Nat → Nat → Nat} (w : WD ad T M R s n h tl tx β σ) {L : Nat} (xs : Nat → Int32) (j : Int32 → Mm → Rm → Option (Int32 × Mm × Rm)) {i : Nat} (hi5 : i + 5 ≤ L) (hL : L ≤ 2560) : lawS ad T (chk (inb (nI i + (1 : Int32)) L) <| chk (isK T (ad 0) 6) <| calR (fn_X6_pull T (ad 0) (xs (nI i + (1 : Int32)).toNatClampNeg) M R) fun r M1 R1 => chk (isK T (ad 250) 7) <| cal (fn_X7_pull T R1 (ad 250) (xs (nI i + (1 : Int32)).toNatClampNeg) M1) fun r2 M2 => if r = r2 then (fs_L_law_740 T L xs (ad 0) (ad 250) j) (nI i) M2 R1 else some ((0 : Int32), M2, R1)) j i := by
  have w0 := w.1.1
  have kR := w.2.2.2.1.2.1
  obtain ⟨r, M1, R1, M2, q6, q7, ww⟩ := g_pull w (xs (i + 1))
  have q7 : fn_X7_pull T R1 (ad 250) (xs (i + 1)) M1 = some (r, M2) := q7
  refine ⟨M2, R1, ww, ?_⟩
  simp (disch := omega) only [↓cal_w6, ↓cal_w7, ↓lm1, l0, l1, l2, l3, l4, l5, l6, l7, l8, l9, l10, l11, l12, l13, l14, l31, l32, l44, l48, l50, l57, l59, l60, l74, l100, l110, l126, l300, l330, l500, l501, l801, l1000, l5000, l5010, l8010, l8192, l9000, l10000, l1000000, and_self, and_true, true_and, and_false, false_and, nI_add, pk_mul, nI_clamp, ↓reduceIte, eF, lT, lF, leT, leF, chk_d, chk_t, chk_inb, rfm_s, bnd_e, cal_e, calR_e, ↓chk_q w0, ↓chk_q kR, ↓calR_q q6, q6, calR_u, ↓cal_q q7, q7, law_740]
theorem lb_12 {ad : Nat → Nat} {T : Ty} {M : Mm} {R : Rm} {s : Sx} {n : Nat} {h : Nat → Sx} {tl : Nat} {tx : Nat → Nat} {β : Nat → Nat} {σ : Nat → Nat → Nat} (w : WD ad T M R s n h tl tx β σ) {L : Nat} (xs : Nat → Int32) (j : Int32 → Mm → Rm → Option (Int32 × Mm × Rm)) {i : Nat} (hi5 : i + 5 ≤ L) (hL : L ≤ 2560) : lawS ad T (chk (inb (nI i + (1 : Int32)) L) <| chk (inb (nI i + (2 : Int32)) L) <| chk (isK T (ad 0) 6) <| cal (fn_X6_stakeInfo T R (ad 0) (xs (nI i + (1 : Int32)).toNatClampNeg) (xs (nI i + (2 : Int32)).toNatClampNeg) M) fun r M1 => chk (isK T (ad 250) 7) <| cal (fn_X7_stakeInfo T R (ad 250) (xs (nI i + (1 : Int32)).toNatClampNeg) (xs (nI i + (2 : Int32)).toNatClampNeg) M1) fun r2 M2 => if r = r2 then (fs_L_law_740 T L xs (ad 0) (ad 250) j) (nI i) M2 R else some ((0 : Int32), M2, R)) j i := by
  have w0 := w.1.1
  have kR := w.2.2.2.1.2.1
  obtain ⟨r, q6, q7⟩ := g_stakeInfo w (xs (i + 1)) (xs (i + 2))
  refine ⟨M, R, ⟨s, n, h, tl, tx, β, σ, w⟩, ?_⟩
  simp (disch := omega) only [↓cal_w6, ↓cal_w7, ↓lm1, l0, l1, l2, l3, l4, l5, l6, l7, l8, l9, l10, l11, l12, l13, l14, l31, l32, l44, l48, l50, l57, l59, l60, l74, l100, l110, l126, l300, l330, l500, l501, l801, l1000, l5000, l5010, l8010, l8192, l9000, l10000, l1000000, and_self, and_true, true_and, and_false, false_and, nI_add, pk_mul, nI_clamp, ↓reduceIte, eF, lT, lF, leT, leF, chk_d, chk_t, chk_inb, rfm_s, bnd_e, cal_e, calR_e, ↓chk_q w0, ↓chk_q kR, ↓cal_q q6, q6, ↓cal_q q7, q7, law_740]
theorem lb_13 {ad : Nat → Nat} {T : Ty} {M : Mm} {R : Rm} {s : Sx} {n : Nat} {h : Nat → Sx} {tl : Nat} {tx : Nat → Nat} {β : Nat → Nat} {σ : Nat → Nat → Nat} (w : WD ad T M R s n h tl tx β σ) {L : Nat} (xs : Nat → Int32) (j : Int32 → Mm → Rm → Option (Int32 × Mm × Rm)) {i : Nat} (hi5 : i + 5 ≤ L) (hL : L ≤ 2560) : lawS ad T (chk (inb (nI i + (1 : Int32)) L) <| chk (isK T (ad 0) 6) <| cal (fn_X6_stakesIn T R (ad 0) (xs (nI i + (1 : Int32)).toNatClampNeg) M) fun r M1 => chk (isK T (ad 250) 7) <| cal (fn_X7_stakesIn T R (ad 250) (xs (nI i + (1 : Int32)).toNatClampNeg) M1) fun r2 M2 => if r = r2 then (fs_L_law_740 T L xs (ad 0) (ad 250) j) (nI i) M2 R else some ((0 : Int32), M2, R)) j i := by
  have w0 := w.1.1
  have kR := w.2.2.2.1.2.1
  obtain ⟨r, q6, q7⟩ := g_stakesIn w (xs (i + 1))
  refine ⟨M, R, ⟨s, n, h, tl, tx, β, σ, w⟩, ?_⟩
  simp (disch := omega) only [↓cal_w6, ↓cal_w7, ↓lm1, l0, l1, l2, l3, l4, l5, l6, l7, l8, l9, l10, l11, l12, l13, l14, l31, l32, l44, l48, l50, l57, l59, l60, l74, l100, l110, l126, l300, l330, l500, l501, l801, l1000, l5000, l5010, l8010, l8192, l9000, l10000, l1000000, and_self, and_true, true_and, and_false, false_and, nI_add, pk_mul, nI_clamp, ↓reduceIte, eF, lT, lF, leT, leF, chk_d, chk_t, chk_inb, rfm_s, bnd_e, cal_e, calR_e, ↓chk_q w0, ↓chk_q kR, ↓cal_q q6, q6, ↓cal_q q7, q7, law_740]
theorem lb_14 {ad : Nat → Nat} {T : Ty} {M : Mm} {R : Rm} {s : Sx} {n : Nat} {h : Nat → Sx} {tl : Nat} {tx : Nat → Nat} {β : Nat → Nat} {σ : Nat → Nat → Nat} (w : WD ad T M R s n h tl tx β σ) {L : Nat} (xs : Nat → Int32) (j : Int32 → Mm → Rm → Option (Int32 × Mm × Rm)) {i : Nat} (hi5 : i + 5 ≤ L) (hL : L ≤ 2560) : lawS ad T (chk (inb (nI i + (1 : Int32)) L) <| chk (isK T (ad 0) 6) <| calR (fn_X6_years T (ad 0) (xs (nI i + (1 : Int32)).toNatClampNeg) M R) fun r M1 R1 => chk (isK T (ad 250) 7) <| cal (fn_X7_years T R1 (ad 250) (xs (nI i + (1 : Int32)).toNatClampNeg) M1) fun r2 M2 => if r = r2 then (fs_L_law_740 T L xs (ad 0) (ad 250) j) (nI i) M2 R1 else some ((0 : Int32), M2, R1)) j i := by
  have w0 := w.1.1
  have kR := w.2.2.2.1.2.1
  obtain ⟨r, M1, R1, M2, q6, q7, ww⟩ := g_years w (xs (i + 1))
  have q7 : fn_X7_years T R1 (ad 250) (xs (i + 1)) M1 = some (r, M2) := q7
  refine ⟨M2, R1, ww, ?_⟩
  simp (disch := omega) only [↓cal_w6, ↓cal_w7, ↓lm1, l0, l1, l2, l3, l4, l5, l6, l7, l8, l9, l10, l11, l12, l13, l14, l31, l32, l44, l48, l50, l57, l59, l60, l74, l100, l110, l126, l300, l330, l500, l501, l801, l1000, l5000, l5010, l8010, l8192, l9000, l10000, l1000000, and_self, and_true, true_and, and_false, false_and, nI_add, pk_mul, nI_clamp, ↓reduceIte, eF, lT, lF, leT, leF, chk_d, chk_t, chk_inb, rfm_s, bnd_e, cal_e, calR_e, ↓chk_q w0, ↓chk_q kR, ↓calR_q q6, q6, calR_u, ↓cal_q q7, q7, law_740]
theorem lb_15 {ad : Nat → Nat} {T : Ty} {M : Mm} {R : Rm} {s : Sx} {n : Nat} {h : Nat → Sx} {tl : Nat} {tx : Nat → Nat} {β : Nat → Nat} {σ : Nat → Nat → Nat} (w : WD ad T M R s n h tl tx β σ) {L : Nat} (xs : Nat → Int32) (j : Int32 → Mm → Rm → Option (Int32 × Mm × Rm)) {i : Nat} (hi5 : i + 5 ≤ L) (hL : L ≤ 2560) : lawS ad T (chk (inb (nI i + (1 : Int32)) L) <| chk (inb (nI i + (2 : Int32)) L) <| chk (isK T (ad 0) 6) <| cal (fn_X6_ifYears T R (ad 0) (xs (nI i + (1 : Int32)).toNatClampNeg) (xs (nI i + (2 : Int32)).toNatClampNeg) M) fun r M1 => chk (isK T (ad 250) 7) <| cal (fn_X7_ifYears T R (ad 250) (xs (nI i + (1 : Int32)).toNatClampNeg) (xs (nI i + (2 : Int32)).toNatClampNeg) M1) fun r2 M2 => if r = r2 then (fs_L_law_740 T L xs (ad 0) (ad 250) j) (nI i) M2 R else some ((0 : Int32), M2, R)) j i := by
  have w0 := w.1.1
  have kR := w.2.2.2.1.2.1
  obtain ⟨r, M1, M2, q6, q7, ww⟩ := g_ifYears w (xs (i + 1)) (xs (i + 2))
  have q7 : fn_X7_ifYears T R (ad 250) (xs (i + 1)) (xs (i + 2)) M1 = some (r, M2) := q7
  refine ⟨M2, R, ww, ?_⟩
  simp (disch := omega) only [↓cal_w6, ↓cal_w7, ↓lm1, l0, l1, l2, l3, l4, l5, l6, l7, l8, l9, l10, l11, l12, l13, l14, l31, l32, l44, l48, l50, l57, l59, l60, l74, l100, l110, l126, l300, l330, l500, l501, l801, l1000, l5000, l5010, l8010, l8192, l9000, l10000, l1000000, and_self, and_true, true_and, and_false, false_and, nI_add, pk_mul, nI_clamp, ↓reduceIte, eF, lT, lF, leT, leF, chk_d, chk_t, chk_inb, rfm_s, bnd_e, cal_e, calR_e, ↓chk_q w0, ↓chk_q kR, ↓cal_q q6, q6, ↓cal_q q7, q7, law_740]
theorem lb_16 {ad : Nat → Nat} {T : Ty} {M : Mm} {R : Rm} {s : Sx} {n : Nat} {h : Nat → Sx} {tl : Nat} {tx : Nat → Nat} {β : Nat → Nat} {σ : Nat → Nat → Nat} (w : WD ad T M R s n h tl tx β σ) {L : Nat} (xs : Nat → Int32) (j : Int32 → Mm → Rm → Option (Int32 × Mm × Rm)) {i : Nat} (hi5 : i + 5 ≤ L) (hL : L ≤ 2560) : lawS ad T (chk (inb (nI i + (1 : Int32)) L) <| chk (isK T (ad 0) 6) <| cal (fn_X6_yearsTo T R (ad 0) (xs (nI i + (1 : Int32)).toNatClampNeg) M) fun r M1 => chk (isK T (ad 250) 7) <| cal (fn_X7_yearsTo T R (ad 250) (xs (nI i + (1 : Int32)).toNatClampNeg) M1) fun r2 M2 => if r = r2 then (fs_L_law_740 T L xs (ad 0) (ad 250) j) (nI i) M2 R else some ((0 : Int32), M2, R)) j i := by
  have w0 := w.1.1
  have kR := w.2.2.2.1.2.1
  obtain ⟨r, M1, M2, q6, q7, ww⟩ := g_yearsTo w (xs (i + 1))
  have q7 : fn_X7_yearsTo T R (ad 250) (xs (i + 1)) M1 = some (r, M2) := q7
  refine ⟨M2, R, ww, ?_⟩
  simp (disch := omega) only [↓cal_w6, ↓cal_w7, ↓lm1, l0, l1, l2, l3, l4, l5, l6, l7, l8, l9, l10, l11, l12, l13, l14, l31, l32, l44, l48, l50, l57, l59, l60, l74, l100, l110, l126, l300, l330, l500, l501, l801, l1000, l5000, l5010, l8010, l8192, l9000, l10000, l1000000, and_self, and_true, true_and, and_false, false_and, nI_add, pk_mul, nI_clamp, ↓reduceIte, eF, lT, lF, leT, leF, chk_d, chk_t, chk_inb, rfm_s, bnd_e, cal_e, calR_e, ↓chk_q w0, ↓chk_q kR, ↓cal_q q6, q6, ↓cal_q q7, q7, law_740]
theorem lb_17 {ad : Nat → Nat} {T : Ty} {M : Mm} {R : Rm} {s : Sx} {n : Nat} {h : Nat → Sx} {tl : Nat} {tx : Nat → Nat} {β : Nat → Nat} {σ : Nat → Nat → Nat} (w : WD ad T M R s n h tl tx β σ) {L : Nat} (xs : Nat → Int32) (j : Int32 → Mm → Rm → Option (Int32 × Mm × Rm)) {i : Nat} (hi5 : i + 5 ≤ L) (hL : L ≤ 2560) : lawS ad T (chk (isK T (ad 0) 6) <| cal (fn_X6_steadyMelt T R (ad 0) M) fun r M1 => chk (isK T (ad 250) 7) <| cal (fn_X7_steadyMelt T R (ad 250) M1) fun r2 M2 => if r = r2 then (fs_L_law_740 T L xs (ad 0) (ad 250) j) (nI i) M2 R else some ((0 : Int32), M2, R)) j i := by
  have w0 := w.1.1
  have kR := w.2.2.2.1.2.1
  obtain ⟨r, q6, q7⟩ := g_steady w
  refine ⟨M, R, ⟨s, n, h, tl, tx, β, σ, w⟩, ?_⟩
  simp (disch := omega) only [↓cal_w6, ↓cal_w7, ↓lm1, l0, l1, l2, l3, l4, l5, l6, l7, l8, l9, l10, l11, l12, l13, l14, l31, l32, l44, l48, l50, l57, l59, l60, l74, l100, l110, l126, l300, l330, l500, l501, l801, l1000, l5000, l5010, l8010, l8192, l9000, l10000, l1000000, and_self, and_true, true_and, and_false, false_and, nI_add, pk_mul, nI_clamp, ↓reduceIte, eF, lT, lF, leT, leF, chk_d, chk_t, chk_inb, rfm_s, bnd_e, cal_e, calR_e, ↓chk_q w0, ↓chk_q kR, ↓cal_q q6, q6, ↓cal_q q7, q7, law_740]
theorem lb_18 {ad : Nat → Nat} {T : Ty} {M : Mm} {R : Rm} {s : Sx} {n : Nat} {h : Nat → Sx} {tl : Nat} {tx : Nat → Nat} {β : Nat → Nat} {σ : Nat → Nat → Nat} (w : WD ad T M R s n h tl tx β σ) {L : Nat} (xs : Nat → Int32) (j : Int32 → Mm → Rm → Option (Int32 × Mm × Rm)) {i : Nat} (hi5 : i + 5 ≤ L) (hL : L ≤ 2560) : lawS ad T (chk (isK T (ad 0) 6) <| calR (fn_X6_undo T (ad 0) M R) fun r M1 R1 => chk (isK T (ad 250) 7) <| cal (fn_X7_undo T R1 (ad 250) M1) fun r2 M2 => if r = r2 then (fs_L_law_740 T L xs (ad 0) (ad 250) j) (nI i) M2 R1 else some ((0 : Int32), M2, R1)) j i := by
  have w0 := w.1.1
  have kR := w.2.2.2.1.2.1
  obtain ⟨r, M1, R1, M2, q6, q7, ww⟩ := g_undo w
  have q7 : fn_X7_undo T R1 (ad 250)  M1 = some (r, M2) := q7
  refine ⟨M2, R1, ww, ?_⟩
  simp (disch := omega) only [↓cal_w6, ↓cal_w7, ↓lm1, l0, l1, l2, l3, l4, l5, l6, l7, l8, l9, l10, l11, l12, l13, l14, l31, l32, l44, l48, l50, l57, l59, l60, l74, l100, l110, l126, l300, l330, l500, l501, l801, l1000, l5000, l5010, l8010, l8192, l9000, l10000, l1000000, and_self, and_true, true_and, and_false, false_and, nI_add, pk_mul, nI_clamp, ↓reduceIte, eF, lT, lF, leT, leF, chk_d, chk_t, chk_inb, rfm_s, bnd_e, cal_e, calR_e, ↓chk_q w0, ↓chk_q kR, ↓calR_q q6, q6, calR_u, ↓cal_q q7, q7, law_740]
theorem lb_19 {ad : Nat → Nat} {T : Ty} {M : Mm} {R : Rm} {s : Sx} {n : Nat} {h : Nat → Sx} {tl : Nat} {tx : Nat → Nat} {β : Nat → Nat} {σ : Nat → Nat → Nat} (w : WD ad T M R s n h tl tx β σ) {L : Nat} (xs : Nat → Int32) (j : Int32 → Mm → Rm → Option (Int32 × Mm × Rm)) {i : Nat} (hi5 : i + 5 ≤ L) (hL : L ≤ 2560) : lawS ad T (chk (inb (nI i + (1 : Int32)) L) <| chk (isK T (ad 0) 6) <| cal (fn_X6_type T R (ad 0) (xs (nI i + (1 : Int32)).toNatClampNeg) M) fun r M1 => chk (isK T (ad 250) 7) <| cal (fn_X7_type T R (ad 250) (xs (nI i + (1 : Int32)).toNatClampNeg) M1) fun r2 M2 => if r = r2 then (fs_L_law_740 T L xs (ad 0) (ad 250) j) (nI i) M2 R else some ((0 : Int32), M2, R)) j i := by
  have w0 := w.1.1
  have kR := w.2.2.2.1.2.1
  obtain ⟨r, M1, M2, q6, q7, ww⟩ := g_type w (xs (i + 1))
  have q7 : fn_X7_type T R (ad 250) (xs (i + 1)) M1 = some (r, M2) := q7
  refine ⟨M2, R, ww, ?_⟩
  simp (disch := omega) only [↓cal_w6, ↓cal_w7, ↓lm1, l0, l1, l2, l3, l4, l5, l6, l7, l8, l9, l10, l11, l12, l13, l14, l31, l32, l44, l48, l50, l57, l59, l60, l74, l100, l110, l126, l300, l330, l500, l501, l801, l1000, l5000, l5010, l8010, l8192, l9000, l10000, l1000000, and_self, and_true, true_and, and_false, false_and, nI_add, pk_mul, nI_clamp, ↓reduceIte, eF, lT, lF, leT, leF, chk_d, chk_t, chk_inb, rfm_s, bnd_e, cal_e, calR_e, ↓chk_q w0, ↓chk_q kR, ↓cal_q q6, q6, ↓cal_q q7, q7, law_740]
theorem lb_20 {ad : Nat → Nat} {T : Ty} {M : Mm} {R : Rm} {s : Sx} {n : Nat} {h : Nat → Sx} {tl : Nat} {tx : Nat → Nat} {β : Nat → Nat} {σ : Nat → Nat → Nat} (w : WD ad T M R s n h tl tx β σ) {L : Nat} (xs : Nat → Int32) (j : Int32 → Mm → Rm → Option (Int32 × Mm × Rm)) {i : Nat} (hi5 : i + 5 ≤ L) (hL : L ≤ 2560) : lawS ad T (chk (isK T (ad 0) 6) <| cal (fn_X6_clearText T R (ad 0) M) fun r M1 => chk (isK T (ad 250) 7) <| cal (fn_X7_clearText T R (ad 250) M1) fun r2 M2 => if r = r2 then (fs_L_law_740 T L xs (ad 0) (ad 250) j) (nI i) M2 R else some ((0 : Int32), M2, R)) j i := by
  have w0 := w.1.1
  have kR := w.2.2.2.1.2.1
  obtain ⟨r, M1, M2, q6, q7, ww⟩ := g_clearText w
  have q7 : fn_X7_clearText T R (ad 250)  M1 = some (r, M2) := q7
  refine ⟨M2, R, ww, ?_⟩
  simp (disch := omega) only [↓cal_w6, ↓cal_w7, ↓lm1, l0, l1, l2, l3, l4, l5, l6, l7, l8, l9, l10, l11, l12, l13, l14, l31, l32, l44, l48, l50, l57, l59, l60, l74, l100, l110, l126, l300, l330, l500, l501, l801, l1000, l5000, l5010, l8010, l8192, l9000, l10000, l1000000, and_self, and_true, true_and, and_false, false_and, nI_add, pk_mul, nI_clamp, ↓reduceIte, eF, lT, lF, leT, leF, chk_d, chk_t, chk_inb, rfm_s, bnd_e, cal_e, calR_e, ↓chk_q w0, ↓chk_q kR, ↓cal_q q6, q6, ↓cal_q q7, q7, law_740]
theorem lb_21 {ad : Nat → Nat} {T : Ty} {M : Mm} {R : Rm} {s : Sx} {n : Nat} {h : Nat → Sx} {tl : Nat} {tx : Nat → Nat} {β : Nat → Nat} {σ : Nat → Nat → Nat} (w : WD ad T M R s n h tl tx β σ) {L : Nat} (xs : Nat → Int32) (j : Int32 → Mm → Rm → Option (Int32 × Mm × Rm)) {i : Nat} (hi5 : i + 5 ≤ L) (hL : L ≤ 2560) : lawS ad T (chk (inb (nI i + (1 : Int32)) L) <| chk (isK T (ad 0) 6) <| cal (fn_X6_fault T R (ad 0) (xs (nI i + (1 : Int32)).toNatClampNeg) M) fun r M1 => chk (isK T (ad 250) 7) <| cal (fn_X7_fault T R (ad 250) (xs (nI i + (1 : Int32)).toNatClampNeg) M1) fun r2 M2 => if r = r2 then (fs_L_law_740 T L xs (ad 0) (ad 250) j) (nI i) M2 R else some ((0 : Int32), M2, R)) j i := by
  have w0 := w.1.1
  have kR := w.2.2.2.1.2.1
  obtain ⟨r, M1, M2, q6, q7, ww⟩ := g_fault w (xs (i + 1))
  have q7 : fn_X7_fault T R (ad 250) (xs (i + 1)) M1 = some (r, M2) := q7
  refine ⟨M2, R, ww, ?_⟩
  simp (disch := omega) only [↓cal_w6, ↓cal_w7, ↓lm1, l0, l1, l2, l3, l4, l5, l6, l7, l8, l9, l10, l11, l12, l13, l14, l31, l32, l44, l48, l50, l57, l59, l60, l74, l100, l110, l126, l300, l330, l500, l501, l801, l1000, l5000, l5010, l8010, l8192, l9000, l10000, l1000000, and_self, and_true, true_and, and_false, false_and, nI_add, pk_mul, nI_clamp, ↓reduceIte, eF, lT, lF, leT, leF, chk_d, chk_t, chk_inb, rfm_s, bnd_e, cal_e, calR_e, ↓chk_q w0, ↓chk_q kR, ↓cal_q q6, q6, ↓cal_q q7, q7, law_740]
theorem lb_22 {ad : Nat → Nat} {T : Ty} {M : Mm} {R : Rm} {s : Sx} {n : Nat} {h : Nat → Sx} {tl : Nat} {tx : Nat → Nat} {β : Nat → Nat} {σ : Nat → Nat → Nat} (w : WD ad T M R s n h tl tx β σ) {L : Nat} (xs : Nat → Int32) (j : Int32 → Mm → Rm → Option (Int32 × Mm × Rm)) {i : Nat} (hi5 : i + 5 ≤ L) (hL : L ≤ 2560) : lawS ad T (chk (isK T (ad 0) 6) <| calR (fn_X6_live T (ad 0) M R) fun r M1 R1 => chk (isK T (ad 250) 7) <| cal (fn_X7_live T R1 (ad 250) M1) fun r2 M2 => if r = r2 then (fs_L_law_740 T L xs (ad 0) (ad 250) j) (nI i) M2 R1 else some ((0 : Int32), M2, R1)) j i := by
  have w0 := w.1.1
  have kR := w.2.2.2.1.2.1
  obtain ⟨r, M1, R1, M2, q6, q7, ww⟩ := g_live w
  have q7 : fn_X7_live T R1 (ad 250)  M1 = some (r, M2) := q7
  refine ⟨M2, R1, ww, ?_⟩
  simp (disch := omega) only [↓cal_w6, ↓cal_w7, ↓lm1, l0, l1, l2, l3, l4, l5, l6, l7, l8, l9, l10, l11, l12, l13, l14, l31, l32, l44, l48, l50, l57, l59, l60, l74, l100, l110, l126, l300, l330, l500, l501, l801, l1000, l5000, l5010, l8010, l8192, l9000, l10000, l1000000, and_self, and_true, true_and, and_false, false_and, nI_add, pk_mul, nI_clamp, ↓reduceIte, eF, lT, lF, leT, leF, chk_d, chk_t, chk_inb, rfm_s, bnd_e, cal_e, calR_e, ↓chk_q w0, ↓chk_q kR, ↓calR_q q6, q6, calR_u, ↓cal_q q7, q7, law_740]
theorem law_step {ad : Nat → Nat} {T : Ty} {M : Mm} {R : Rm} (ww : WW ad T M R) {L : Nat} (xs : Nat → Int32) (j : Int32 → Mm → Rm → Option (Int32 × Mm × Rm)) {i : Nat} (hi5 : i + 5 ≤ L) (hL : L ≤ 2560) : lawS ad T (fs_L_law_18 T L xs (ad 0) (ad 250) j (nI i) M R) j i := by
  obtain ⟨s, n, h, tl, tx, β, σ, w⟩ := ww
  unfold fs_L_law_18
  rw [if_neg (law_go hi5 hL), chk_inb (by omega) (by omega), bnd_e]
  generalize xs (nI i).toNatClampNeg &&& (31 : Int32) = v
  by_cases h0 : v = 0
  · rw [if_pos h0]
    exact lb_0 w xs j hi5 hL
  rw [if_neg h0]
  by_cases h1 : v = 1
  · rw [if_pos h1]
    exact lb_1 w xs j hi5 hL
  rw [if_neg h1]
  by_cases h2 : v = 2
  · rw [if_pos h2]
    exact lb_2 w xs j hi5 hL
  rw [if_neg h2]
  by_cases h3 : v = 3
  · rw [if_pos h3]
    exact lb_3 w xs j hi5 hL
  rw [if_neg h3]
  by_cases h4 : v = 4
  · rw [if_pos h4]
    exact lb_4 w xs j hi5 hL
  rw [if_neg h4]
  by_cases h5 : v = 5
  · rw [if_pos h5]
    exact lb_5 w xs j hi5 hL
  rw [if_neg h5]
  by_cases h6 : v = 6
  · rw [if_pos h6]
    exact lb_6 w xs j hi5 hL
  rw [if_neg h6]
  by_cases h7 : v = 7
  · rw [if_pos h7]
    exact lb_7 w xs j hi5 hL
  rw [if_neg h7]
  by_cases h8 : v = 8
  · rw [if_pos h8]
    exact lb_8 w xs j hi5 hL
  rw [if_neg h8]
  by_cases h9 : v = 9
  · rw [if_pos h9]
    exact lb_9 w xs j hi5 hL
  rw [if_neg h9]
  by_cases h10 : v = 10
  · rw [if_pos h10]
    exact lb_10 w xs j hi5 hL
  rw [if_neg h10]
  by_cases h11 : v = 11
  · rw [if_pos h11]
    exact lb_11 w xs j hi5 hL
  rw [if_neg h11]
  by_cases h12 : v = 12
  · rw [if_pos h12]
    exact lb_12 w xs j hi5 hL
  rw [if_neg h12]
  by_cases h13 : v = 13
  · rw [if_pos h13]
    exact lb_13 w xs j hi5 hL
  rw [if_neg h13]
  by_cases h14 : v = 14
  · rw [if_pos h14]
    exact lb_14 w xs j hi5 hL
  rw [if_neg h14]
  by_cases h15 : v = 15
  · rw [if_pos h15]
    exact lb_15 w xs j hi5 hL
  rw [if_neg h15]
  by_cases h16 : v = 16
  · rw [if_pos h16]
    exact lb_16 w xs j hi5 hL
  rw [if_neg h16]
  by_cases h17 : v = 17
  · rw [if_pos h17]
    exact lb_17 w xs j hi5 hL
  rw [if_neg h17]
  by_cases h18 : v = 18
  · rw [if_pos h18]
    exact lb_18 w xs j hi5 hL
  rw [if_neg h18]
  by_cases h19 : v = 19
  · rw [if_pos h19]
    exact lb_19 w xs j hi5 hL
  rw [if_neg h19]
  by_cases h20 : v = 20
  · rw [if_pos h20]
    exact lb_20 w xs j hi5 hL
  rw [if_neg h20]
  by_cases h21 : v = 21
  · rw [if_pos h21]
    exact lb_21 w xs j hi5 hL
  rw [if_neg h21]
  by_cases h22 : v = 22
  · rw [if_pos h22]
    exact lb_22 w xs j hi5 hL
  rw [if_neg h22]
  exact ⟨M, R, ⟨s, n, h, tl, tx, β, σ, w⟩, law_740 _ _ _ _ _ _ _ _ _⟩
theorem law_loop {ad : Nat → Nat} {T : Ty} {L : Nat} (xs : Nat → Int32) (hL : L ≤ 2560) : ∀ d i fuel (M : Mm) (R : Rm), WW ad T M R → i ≤ L → L < i + 5 * d + 5 → d < fuel → ∃ M9 R9, fb_L_law_18 T L xs (ad 0) (ad 250) fuel (nI i) M R = some (nI 1, M9, R9) := by
  have stop : ∀ i n' (M : Mm) (R : Rm), i ≤ L → L < i + 5 → fb_L_law_18 T L xs (ad 0) (ad 250) (n' + 1) (nI i) M R = some (nI 1, M, R) := fun i n' M R hi h => by
    rw [fbs_L_law_18]
    unfold fs_L_law_18
    rw [if_pos (law_stop h hi hL)]
    rfl
  intro d
  induction d with
  | zero =>
    intro i fuel M R ww hi h hf
    obtain ⟨n', rfl⟩ : ∃ n', fuel = n' + 1 := ⟨fuel - 1, by omega⟩
    exact ⟨M, R, stop i n' M R hi (by omega)⟩
  | succ d ih =>
    intro i fuel M R ww hi h hf
    obtain ⟨n', rfl⟩ : ∃ n', fuel = n' + 1 := ⟨fuel - 1, by omega⟩
    by_cases h5 : L < i + 5
    · exact ⟨M, R, stop i n' M R hi h5⟩
    · obtain ⟨M', R', ww', e⟩ := law_step ww xs (fb_L_law_18 T L xs (ad 0) (ad 250) n') (i := i) (by omega) hL
      obtain ⟨M9, R9, q⟩ := ih (i + 5) n' M' R' ww' (by omega) (by omega) (by omega)
      exact ⟨M9, R9, by rw [fbs_L_law_18, e, q]⟩
theorem main_eq : MainEq := by
  intro ad T M R L xs hL h
  have hi : ∀ a b : Nat, (exA ad a = exA ad b) = (a = b) := exA_inj (fun r s hr hs e => h.2.2.2 r s (by rw [E04_n.1]; exact hr) (by rw [E04_n.1]; exact hs) e)
  have ww := first_WW hi (Rep_ex h)
  obtain ⟨M9, R9, q⟩ := law_loop xs hL 512 0 FU M R ww (by omega) (by omega) (FU_gt (by omega))
  rw [exA_lt ad (by decide), exA_lt ad (by decide)] at q
  exact ⟨M9, R9, q⟩
