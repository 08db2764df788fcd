/-! a text read: a year, and the first fault -/
def pY (tx : Nat → Nat) (tl a : Nat) : Option (Nat × Nat) := match pN tx tl 44 a with
  | none => none
  | some e => match pN tx tl 59 (e + 1) with
    | none => none
    | some e2 => some (e, e2)
theorem pY_n {tx : Nat → Nat} {tl a : Nat} (h : pN tx tl 44 a = none) : pY tx tl a = none := by
  unfold pY
  rw [h]
theorem pY_1 {tx : Nat → Nat} {tl a e : Nat} (h : pN tx tl 44 a = some e) (h2 : pN tx tl 59 (e + 1) = none) : pY tx tl a = none := by
  unfold pY
  rw [h]
  show (match pN tx tl 59 (e + 1) with | none => none | some e2 => some (e, e2)) = none
  rw [h2]
theorem pY_2 {tx : Nat → Nat} {tl a e e2 : Nat} (h : pN tx tl 44 a = some e) (h2 : pN tx tl 59 (e + 1) = some e2) : pY tx tl a = some (e, e2) := by
  unfold pY
  rw [h]
  show (match pN tx tl 59 (e + 1) with | none => none | some e2 => some (e, e2)) = some (e, e2)
  rw [h2]
theorem pY_s {tx : Nat → Nat} {tl a e e2 : Nat} (h : pY tx tl a = some (e, e2)) : pN tx tl 44 a = some e ∧ pN tx tl 59 (e + 1) = some e2 := by
  cases h1 : pN tx tl 44 a with
  | none =>
    rw [pY_n h1] at h
    cases h
  | some e' =>
    cases h2 : pN tx tl 59 (e' + 1) with
    | none =>
      rw [pY_1 h1 h2] at h
      cases h
    | some e2' =>
      rw [pY_2 h1 h2] at h
      cases h
      exact ⟨rfl, h2⟩
/-- the class's year -/
theorem x4_year {ad : Nat → Nat} {T : Ty} {R : Rm} (X : XG ad T R) {M : Mm} {tl : Nat} {tx : Nat → Nat} (ct : CT ad M tl tx) {a e e2 : Nat} (ha : a ≤ tl) (h : pY tx tl a = some (e, e2)) : fn_X4_endOfYear T R (ad 207) (nI a) M = some (nI (e2 + 1), M) ∧ fn_X4_snowOfYear T R (ad 207) (nI a) M = some (nI (nm tx a (e - a)), M) ∧ fn_X4_meltOfYear T R (ad 207) (nI a) M = some (nI (nm tx (e + 1) (e2 - (e + 1))), M) := by
  obtain ⟨h1, h2⟩ := pY_s h
  have ct2 := ct.2.1
  obtain ⟨p1, p2, p3, p4, p5, p6⟩ := pN_s h1
  obtain ⟨s1, s2, s3, s4, s5, s6⟩ := pN_s h2
  obtain ⟨r, q1, q2, q3⟩ := x4_num X ct (a := a) (ch := 44) ha (by omega) (by omega)
  obtain ⟨r', q1', q2', q3'⟩ := x4_num X ct (a := e + 1) (ch := 59) (by omega) (by omega) (by omega)
  have n1 := x4_numberAt X ct ha (ch := 44) (by omega) (by omega) h1
  have n2 := x4_numberAt X ct (a := e + 1) (by omega) (ch := 59) (by omega) (by omega) h2
  rw [q3 e h1] at q1 q2
  rw [q3' e2 h2] at q1' q2'
  rw [h1] at q2
  rw [h2] at q2'
  have i1 : bI (some e).isSome = nI 1 := rfl
  have i2 : bI (some e2).isSome = nI 1 := rfl
  rw [i1] at q2
  rw [i2] at q2'
  have x1 := X.1
  refine ⟨?_, ?_, ?_⟩
  · unfold fn_X4_endOfYear
    simp (disch := omega) only [↓cal_w6, ↓cal_w7, ↓lm1, l0, l1, l2, l3, l4, l5, l6, l7, l8, l9, l10, l11, l12, l13, l14, l31, l32, l44, l48, l50, l57, l59, l60, l74, l100, l110, l126, l300, l330, l500, l501, l801, l1000, l5000, l5010, l8010, l8192, l9000, l10000, l1000000, and_self, and_true, true_and, and_false, false_and, nI_add, pk_mul, nI_clamp, ↓reduceIte, eF, lT, lF, leT, leF, chk_d, chk_t, chk_inb, rfm_s, bnd_e, cal_e, calR_e, x1, q1, q2, q1', q2']
  · unfold fn_X4_snowOfYear
    simp (disch := omega) only [↓cal_w6, ↓cal_w7, ↓lm1, l0, l1, l2, l3, l4, l5, l6, l7, l8, l9, l10, l11, l12, l13, l14, l31, l32, l44, l48, l50, l57, l59, l60, l74, l100, l110, l126, l300, l330, l500, l501, l801, l1000, l5000, l5010, l8010, l8192, l9000, l10000, l1000000, and_self, and_true, true_and, and_false, false_and, nI_add, pk_mul, nI_clamp, ↓reduceIte, eF, lT, lF, leT, leF, chk_d, chk_t, chk_inb, rfm_s, bnd_e, cal_e, calR_e, x1, n1]
  · unfold fn_X4_meltOfYear
    simp (disch := omega) only [↓cal_w6, ↓cal_w7, ↓lm1, l0, l1, l2, l3, l4, l5, l6, l7, l8, l9, l10, l11, l12, l13, l14, l31, l32, l44, l48, l50, l57, l59, l60, l74, l100, l110, l126, l300, l330, l500, l501, l801, l1000, l5000, l5010, l8010, l8192, l9000, l10000, l1000000, and_self, and_true, true_and, and_false, false_and, nI_add, pk_mul, nI_clamp, ↓reduceIte, eF, lT, lF, leT, leF, chk_d, chk_t, chk_inb, rfm_s, bnd_e, cal_e, calR_e, x1, q1, n2]
theorem x4_yearN {ad : Nat → Nat} {T : Ty} {R : Rm} (X : XG ad T R) {M : Mm} {tl : Nat} {tx : Nat → Nat} (ct : CT ad M tl tx) {a : Nat} (ha : a ≤ tl) (h : pY tx tl a = none) : fn_X4_endOfYear T R (ad 207) (nI a) M = some (nONE, M) := by
  have ct2 := ct.2.1
  have x1 := X.1
  obtain ⟨r, q1, q2, q3⟩ := x4_num X ct (a := a) (ch := 44) ha (by omega) (by omega)
  cases h1 : pN tx tl 44 a with
  | none =>
    rw [h1] at q2
    have i1 : bI (none : Option Nat).isSome = nI 0 := rfl
    rw [i1] at q2
    unfold fn_X4_endOfYear
    simp (disch := omega) only [↓cal_w6, ↓cal_w7, ↓lm1, l0, l1, l2, l3, l4, l5, l6, l7, l8, l9, l10, l11, l12, l13, l14, l31, l32, l44, l48, l50, l57, l59, l60, l74, l100, l110, l126, l300, l330, l500, l501, l801, l1000, l5000, l5010, l8010, l8192, l9000, l10000, l1000000, and_self, and_true, true_and, and_false, false_and, nI_add, pk_mul, nI_clamp, ↓reduceIte, eF, lT, lF, leT, leF, chk_d, chk_t, chk_inb, rfm_s, bnd_e, cal_e, calR_e, x1, q1, q2]
  | some e =>
    obtain ⟨p1, p2, p3, p4, p5, p6⟩ := pN_s h1
    rw [q3 e h1] at q1 q2
    rw [h1] at q2
    have i1 : bI (some e).isSome = nI 1 := rfl
    rw [i1] at q2
    obtain ⟨r', q1', q2', q3'⟩ := x4_num X ct (a := e + 1) (ch := 59) (by omega) (by omega) (by omega)
    cases h2 : pN tx tl 59 (e + 1) with
    | none =>
      rw [h2] at q2'
      have i2 : bI (none : Option Nat).isSome = nI 0 := rfl
      rw [i2] at q2'
      unfold fn_X4_endOfYear
      simp (disch := omega) only [↓cal_w6, ↓cal_w7, ↓lm1, l0, l1, l2, l3, l4, l5, l6, l7, l8, l9, l10, l11, l12, l13, l14, l31, l32, l44, l48, l50, l57, l59, l60, l74, l100, l110, l126, l300, l330, l500, l501, l801, l1000, l5000, l5010, l8010, l8192, l9000, l10000, l1000000, and_self, and_true, true_and, and_false, false_and, nI_add, pk_mul, nI_clamp, ↓reduceIte, eF, lT, lF, leT, leF, chk_d, chk_t, chk_inb, rfm_s, bnd_e, cal_e, calR_e, x1, q1, q2, q1', q2']
    | some e2 =>
      rw [pY_2 h1 h2] at h
      cases h
/-- the reference's number -/
theorem x7_here {ad : Nat → Nat} {T : Ty} {R : Rm} (G : RG ad T R) {M : Mm} {tl : Nat} {tx : Nat → Nat} (rx : RX ad M tl tx) (htl : tl ≤ 60) {x : Nat} (hx : x < 2 ^ 31) (h13 : gI M (ad 250) 13 = nI x) : fn_X7_here T R (ad 250) M = some (if x < tl then nI (tx x) else nONE, M) := by
  obtain ⟨rx1, rx2⟩ := rx
  obtain ⟨hi, k0, k251, n251, r251, k252, n252, r252, k253, n253, r253, k254, n254, r254, k255, n255, r255, k256, n256, r256, k257, n257, r257, k258, n258, r258, k259, n259, r259, k260, n260, r260, k261, n261, r261⟩ := G
  unfold fn_X7_here
  by_cases h : x < tl
  · have c := rx2 x h
    simp (disch := omega) only [↓cal_w6, ↓cal_w7, ↓lm1, l0, l1, l2, l3, l4, l5, l6, l7, l8, l9, l10, l11, l12, l13, l14, l31, l32, l44, l48, l50, l57, l59, l60, l74, l100, l110, l126, l300, l330, l500, l501, l801, l1000, l5000, l5010, l8010, l8192, l9000, l10000, l1000000, and_self, and_true, true_and, and_false, false_and, nI_add, pk_mul, nI_clamp, ↓reduceIte, eF, lT, lF, leT, leF, chk_d, chk_t, chk_inb, rfm_s, bnd_e, cal_e, calR_e, k0, k251, n251, r251, k252, n252, r252, k253, n253, r253, k254, n254, r254, k255, n255, r255, k256, n256, r256, k257, n257, r257, k258, n258, r258, k259, n259, r259, k260, n260, r260, k261, n261, r261, rx1, h13, h, c]
  · simp (disch := omega) only [↓cal_w6, ↓cal_w7, ↓lm1, l0, l1, l2, l3, l4, l5, l6, l7, l8, l9, l10, l11, l12, l13, l14, l31, l32, l44, l48, l50, l57, l59, l60, l74, l100, l110, l126, l300, l330, l500, l501, l801, l1000, l5000, l5010, l8010, l8192, l9000, l10000, l1000000, and_self, and_true, true_and, and_false, false_and, nI_add, pk_mul, nI_clamp, ↓reduceIte, eF, lT, lF, leT, leF, chk_d, chk_t, chk_inb, rfm_s, bnd_e, cal_e, calR_e, k0, k251, n251, r251, k252, n252, r252, k253, n253, r253, k254, n254, r254, k255, n255, r255, k256, n256, r256, k257, n257, r257, k258, n258, r258, k259, n259, r259, k260, n260, r260, k261, n261, r261, rx1, h13, h]
theorem nONE_in : (nI 48 ≤ nONE ∧ nONE ≤ nI 57) = False := eq_false (by decide)
theorem x7_rn_loop {ad : Nat → Nat} {T : Ty} {R : Rm} (G : RG ad T R) {tl : Nat} {tx : Nat → Nat} (htl : tl ≤ 60) (htx : ∀ k, k < tl → 32 ≤ tx k ∧ tx k ≤ 126) {a : Nat} (ha : a ≤ 60) (ch : Int32) (j66 : Int32 → Mm → Option (Int32 × Mm)) : ∀ k x fuel (M : Mm), x + k = a + 4 → a ≤ x → RX ad M tl tx → gI M (ad 250) 13 = nI x → gI M (ad 250) 15 = nI (nm tx a (x - a)) → k < fuel → ∃ M', fb_X7_readNumber_10 T R (ad 250) ch j66 fuel (nI a) M = j66 (nI a) M' ∧ FJ ad M M' ∧ gI M' (ad 250) 13 = nI (dr tx tl k x) ∧ gI M' (ad 250) 15 = nI (nm tx a (dr tx tl k x - a)) ∧ gI M' (ad 250) 16 = gI M (ad 250) 16 ∧ gI M' (ad 250) 14 = gI M (ad 250) 14 := by
  have hi := G.1
  have k250 := G.2.1
  intro k
  induction k with
  | zero =>
    intro x fuel M h1 h2 rx h13 h15 hf
    obtain ⟨n', rfl⟩ : ∃ n', fuel = n' + 1 := ⟨fuel - 1, by omega⟩
    refine ⟨M, ?_, FJ_r ad M, h13, h15, rfl, rfl⟩
    rw [fbs_X7_readNumber_10]
    unfold fs_X7_readNumber_10
    simp (disch := omega) only [↓cal_w6, ↓cal_w7, ↓lm1, l0, l1, l2, l3, l4, l5, l6, l7, l8, l9, l10, l11, l12, l13, l14, l31, l32, l44, l48, l50, l57, l59, l60, l74, l100, l110, l126, l300, l330, l500, l501, l801, l1000, l5000, l5010, l8010, l8192, l9000, l10000, l1000000, and_self, and_true, true_and, and_false, false_and, nI_add, pk_mul, nI_clamp, ↓reduceIte, eF, lT, lF, leT, leF, chk_d, chk_t, chk_inb, rfm_s, bnd_e, cal_e, calR_e, k250, h13]
  | succ k ih =>
    intro x fuel M h1 h2 rx h13 h15 hf
    obtain ⟨n', rfl⟩ : ∃ n', fuel = n' + 1 := ⟨fuel - 1, by omega⟩
    have he := x7_here G rx htl (by omega) h13
    cases hd : dgB tx tl x with
    | true =>
      obtain ⟨d1, d2, d3⟩ := dg_lt hd
      rw [if_pos d1] at he
      have ein : (nI 48 ≤ nI (tx x) ∧ nI (tx x) ≤ nI 57) = True := in_t d2 d3 (by omega)
      have es : nI (10 * nm tx a (x - a) + tx x) - nI 48 = nI (nm tx a (x + 1 - a)) := by
        rw [nIs (by omega), show x + 1 - a = (x - a) + 1 by omega, nm_s, show a + (x - a) = x by omega]
        congr 1
        omega
      have f1 := FJ_t (FJ_s hi M (k := 15) (by omega) (nI (nm tx a (x + 1 - a)))) (FJ_s hi (sI M (ad 250) 15 (nI (nm tx a (x + 1 - a)))) (k := 13) (by omega) (nI (x + 1)))
      have g13 : gI (sI M (ad 250) 15 (nI (nm tx a (x + 1 - a)))) (ad 250) 13 = nI x := (gI_k M (ad 250) _ (by omega)).trans h13
      obtain ⟨M', q1, q2, q3, q4, q5, q6⟩ := ih (x + 1) n' (sI (sI M (ad 250) 15 (nI (nm tx a (x + 1 - a)))) (ad 250) 13 (nI (x + 1))) (by omega) (by omega) (FJ_RX f1 rx) (gI_s _ _ _ _) ((gI_k _ (ad 250) _ (by omega)).trans (gI_s _ _ _ _)) (by omega)
      refine ⟨M', ?_, FJ_t f1 q2, ?_, ?_, ?_, ?_⟩
      · rw [← q1, fbs_X7_readNumber_10]
        unfold fs_X7_readNumber_10
        simp (disch := omega) only [↓cal_w6, ↓cal_w7, ↓lm1, l0, l1, l2, l3, l4, l5, l6, l7, l8, l9, l10, l11, l12, l13, l14, l31, l32, l44, l48, l50, l57, l59, l60, l74, l100, l110, l126, l300, l330, l500, l501, l801, l1000, l5000, l5010, l8010, l8192, l9000, l10000, l1000000, and_self, and_true, true_and, and_false, false_and, nI_add, pk_mul, nI_clamp, ↓reduceIte, eF, lT, lF, leT, leF, chk_d, chk_t, chk_inb, rfm_s, bnd_e, cal_e, calR_e, k250, h13, ↓cal_q he, he, ein, h15, es, g13]
      · rw [dr_t hd]
        exact q3
      · rw [dr_t hd]
        exact q4
      · rw [q5, gI_k _ _ _ (by omega), gI_k _ _ _ (by omega)]
      · rw [q6, gI_k _ _ _ (by omega), gI_k _ _ _ (by omega)]
    | false =>
      refine ⟨M, ?_, FJ_r ad M, ?_, ?_, rfl, rfl⟩
      · rw [fbs_X7_readNumber_10]
        unfold fs_X7_readNumber_10
        by_cases hx : x < tl
        · rw [if_pos hx] at he
          have := htx x hx
          have ein : (nI 48 ≤ nI (tx x) ∧ nI (tx x) ≤ nI 57) = False := eq_false (fun hh => by
            obtain ⟨u1, u2⟩ := hh
            rw [nI_leI (by omega) (by omega)] at u1 u2
            have : dgB tx tl x = true := decide_eq_true ⟨hx, u1, u2⟩
            rw [hd] at this
            cases this)
          simp (disch := omega) only [↓cal_w6, ↓cal_w7, ↓lm1, l0, l1, l2, l3, l4, l5, l6, l7, l8, l9, l10, l11, l12, l13, l14, l31, l32, l44, l48, l50, l57, l59, l60, l74, l100, l110, l126, l300, l330, l500, l501, l801, l1000, l5000, l5010, l8010, l8192, l9000, l10000, l1000000, and_self, and_true, true_and, and_false, false_and, nI_add, pk_mul, nI_clamp, ↓reduceIte, eF, lT, lF, leT, leF, chk_d, chk_t, chk_inb, rfm_s, bnd_e, cal_e, calR_e, k250, h13, ↓cal_q he, he, ein]
        · rw [if_neg hx] at he
          simp (disch := omega) only [↓cal_w6, ↓cal_w7, ↓lm1, l0, l1, l2, l3, l4, l5, l6, l7, l8, l9, l10, l11, l12, l13, l14, l31, l32, l44, l48, l50, l57, l59, l60, l74, l100, l110, l126, l300, l330, l500, l501, l801, l1000, l5000, l5010, l8010, l8192, l9000, l10000, l1000000, and_self, and_true, true_and, and_false, false_and, nI_add, pk_mul, nI_clamp, ↓reduceIte, eF, lT, lF, leT, leF, chk_d, chk_t, chk_inb, rfm_s, bnd_e, cal_e, calR_e, k250, h13, ↓cal_q he, he, nONE_in]
      · rw [dr_f hd]
        exact h13
      · rw [dr_f hd]
        exact h15
theorem nONE_ne {n : Nat} (h : n < 2 ^ 31) : (nONE = nI n) = False := eq_false (fun e => by
  have := nI_nON h
  rw [← e] at this
  exact this.mp rfl)
theorem x7_readNumber {ad : Nat → Nat} {T : Ty} {R : Rm} (G : RG ad T R) {tl : Nat} {tx : Nat → Nat} (htl : tl ≤ 60) (htx : ∀ k, k < tl → 32 ≤ tx k ∧ tx k ≤ 126) {a : Nat} (ha : a ≤ 60) {ch : Nat} (hch : ch ≤ 126) {M : Mm} (rx : RX ad M tl tx) (h13 : gI M (ad 250) 13 = nI a) : ∃ M', fn_X7_readNumber T R (ad 250) (nI ch) M = some (bI (pN tx tl ch a).isSome, M') ∧ FJ ad M M' ∧ gI M' (ad 250) 13 = nI (dr tx tl 4 a + 1) ∧ gI M' (ad 250) 15 = nI (nm tx a (dr tx tl 4 a - a)) ∧ gI M' (ad 250) 16 = gI M (ad 250) 16 ∧ gI M' (ad 250) 14 = gI M (ad 250) 14 := by
  have hi := G.1
  have k250 := G.2.1
  obtain ⟨b1, b2, b3, b4⟩ := dr_b (tx := tx) (tl := tl) 4 a
  have f0 := FJ_s hi M (k := 15) (by omega) (nI 0)
  have e0 : nm tx a (a - a) = 0 := by
    rw [Nat.sub_self]
    rfl
  obtain ⟨M', q1, q2, q3, q4, q5, q6⟩ := x7_rn_loop G htl htx ha (nI ch) (fs_X7_readNumber_66 T R (ad 250) (nI ch)) 4 a FU (sI M (ad 250) 15 (nI 0)) rfl (by omega) (FJ_RX f0 rx) ((gI_k _ _ _ (by omega)).trans h13) (by rw [e0]; exact gI_s _ _ _ _) (FU_gt (by omega))
  have rx' := FJ_RX (FJ_t f0 q2) rx
  have he := x7_here G rx' htl (by omega) q3
  have z0 : isZ (nI 0) = true := isZ0
  have z1 : isZ (nI 1) = true := isZ1
  refine ⟨sI M' (ad 250) 13 (nI (dr tx tl 4 a + 1)), ?_, FJ_t (FJ_t f0 q2) (FJ_s hi M' (by omega) _), gI_s _ _ _ _, ?_, ?_, ?_⟩
  · have e66 : fs_X7_readNumber_66 T R (ad 250) (nI ch) (nI a) M' = some (bI (pN tx tl ch a).isSome, sI M' (ad 250) 13 (nI (dr tx tl 4 a + 1))) := by
      unfold fs_X7_readNumber_66 fs_X7_readNumber_86 fs_X7_readNumber_87
      by_cases h1 : a < dr tx tl 4 a
      · by_cases h2 : dr tx tl 4 a < tl
        · rw [if_pos h2] at he
          have hb := htx _ h2
          by_cases h3 : tx (dr tx tl 4 a) = ch
          · have ep : pN tx tl ch a = some (dr tx tl 4 a) := if_pos ⟨h1, h2, h3⟩
            have ei : bI (some (dr tx tl 4 a)).isSome = nI 1 := rfl
            rw [ep, ei]
            rw [h3] at he
            simp (disch := omega) only [↓cal_w6, ↓cal_w7, ↓lm1, l0, l1, l2, l3, l4, l5, l6, l7, l8, l9, l10, l11, l12, l13, l14, l31, l32, l44, l48, l50, l57, l59, l60, l74, l100, l110, l126, l300, l330, l500, l501, l801, l1000, l5000, l5010, l8010, l8192, l9000, l10000, l1000000, and_self, and_true, true_and, and_false, false_and, nI_add, pk_mul, nI_clamp, ↓reduceIte, eF, lT, lF, leT, leF, chk_d, chk_t, chk_inb, rfm_s, bnd_e, cal_e, calR_e, k250, q3, ↓cal_q he, he, z1]
          · have ep : pN tx tl ch a = none := if_neg (fun h => h3 h.2.2)
            have ei : bI (none : Option Nat).isSome = nI 0 := rfl
            rw [ep, ei]
            simp (disch := omega) only [↓cal_w6, ↓cal_w7, ↓lm1, l0, l1, l2, l3, l4, l5, l6, l7, l8, l9, l10, l11, l12, l13, l14, l31, l32, l44, l48, l50, l57, l59, l60, l74, l100, l110, l126, l300, l330, l500, l501, l801, l1000, l5000, l5010, l8010, l8192, l9000, l10000, l1000000, and_self, and_true, true_and, and_false, false_and, nI_add, pk_mul, nI_clamp, ↓reduceIte, eF, lT, lF, leT, leF, chk_d, chk_t, chk_inb, rfm_s, bnd_e, cal_e, calR_e, k250, q3, ↓cal_q he, he, z0]
        · rw [if_neg h2] at he
          have ep : pN tx tl ch a = none := if_neg (fun h => h2 h.2.1)
          have ei : bI (none : Option Nat).isSome = nI 0 := rfl
          have en := nONE_ne (n := ch) (by omega)
          rw [ep, ei]
          simp (disch := omega) only [↓cal_w6, ↓cal_w7, ↓lm1, l0, l1, l2, l3, l4, l5, l6, l7, l8, l9, l10, l11, l12, l13, l14, l31, l32, l44, l48, l50, l57, l59, l60, l74, l100, l110, l126, l300, l330, l500, l501, l801, l1000, l5000, l5010, l8010, l8192, l9000, l10000, l1000000, and_self, and_true, true_and, and_false, false_and, nI_add, pk_mul, nI_clamp, ↓reduceIte, eF, lT, lF, leT, leF, chk_d, chk_t, chk_inb, rfm_s, bnd_e, cal_e, calR_e, k250, q3, ↓cal_q he, he, en, z0]
      · have ep : pN tx tl ch a = none := if_neg (fun h => h1 h.1)
        have ei : bI (none : Option Nat).isSome = nI 0 := rfl
        rw [ep, ei]
        simp (disch := omega) only [↓cal_w6, ↓cal_w7, ↓lm1, l0, l1, l2, l3, l4, l5, l6, l7, l8, l9, l10, l11, l12, l13, l14, l31, l32, l44, l48, l50, l57, l59, l60, l74, l100, l110, l126, l300, l330, l500, l501, l801, l1000, l5000, l5010, l8010, l8192, l9000, l10000, l1000000, and_self, and_true, true_and, and_false, false_and, nI_add, pk_mul, nI_clamp, ↓reduceIte, eF, lT, lF, leT, leF, chk_d, chk_t, chk_inb, rfm_s, bnd_e, cal_e, calR_e, k250, q3, z0]
    unfold fn_X7_readNumber
    simp (disch := omega) only [↓cal_w6, ↓cal_w7, ↓lm1, l0, l1, l2, l3, l4, l5, l6, l7, l8, l9, l10, l11, l12, l13, l14, l31, l32, l44, l48, l50, l57, l59, l60, l74, l100, l110, l126, l300, l330, l500, l501, l801, l1000, l5000, l5010, l8010, l8192, l9000, l10000, l1000000, and_self, and_true, true_and, and_false, false_and, nI_add, pk_mul, nI_clamp, ↓reduceIte, eF, lT, lF, leT, leF, chk_d, chk_t, chk_inb, rfm_s, bnd_e, cal_e, calR_e, k250, h13, q1, e66]
  · rw [gI_k _ _ _ (by omega)]
    exact q4
  · rw [gI_k _ _ _ (by omega), q5, gI_k _ _ _ (by omega)]
  · rw [gI_k _ _ _ (by omega), q6, gI_k _ _ _ (by omega)]
theorem x7_readYear {ad : Nat → Nat} {T : Ty} {R : Rm} (G : RG ad T R) {tl : Nat} {tx : Nat → Nat} (htl : tl ≤ 60) (htx : ∀ k, k < tl → 32 ≤ tx k ∧ tx k ≤ 126) {a : Nat} (ha : a ≤ 60) {M : Mm} (rx : RX ad M tl tx) (h13 : gI M (ad 250) 13 = nI a) : ∃ M', fn_X7_readYear T R (ad 250) M = some (bI (pY tx tl a).isSome, M') ∧ FJ ad M M' ∧ gI M' (ad 250) 14 = gI M (ad 250) 14 ∧ ∀ e e2, pY tx tl a = some (e, e2) → gI M' (ad 250) 13 = nI (e2 + 1) ∧ gI M' (ad 250) 16 = nI (nm tx a (e - a)) ∧ gI M' (ad 250) 15 = nI (nm tx (e + 1) (e2 - (e + 1))) := by
  have hi := G.1
  have k250 := G.2.1
  obtain ⟨M1, q1, q2, q3, q4, q5, q6⟩ := x7_readNumber G htl htx ha (ch := 44) (by omega) rx h13
  cases h1 : pN tx tl 44 a with
  | none =>
    rw [h1] at q1
    have ei : bI (none : Option Nat).isSome = nI 0 := rfl
    rw [ei] at q1
    have ep := pY_n h1
    refine ⟨M1, ?_, q2, q6, fun e e2 h => ?_⟩
    · rw [ep]
      have ei2 : bI (none : Option (Nat × Nat)).isSome = nI 0 := rfl
      rw [ei2]
      unfold fn_X7_readYear
      simp (disch := omega) only [↓cal_w6, ↓cal_w7, ↓lm1, l0, l1, l2, l3, l4, l5, l6, l7, l8, l9, l10, l11, l12, l13, l14, l31, l32, l44, l48, l50, l57, l59, l60, l74, l100, l110, l126, l300, l330, l500, l501, l801, l1000, l5000, l5010, l8010, l8192, l9000, l10000, l1000000, and_self, and_true, true_and, and_false, false_and, nI_add, pk_mul, nI_clamp, ↓reduceIte, eF, lT, lF, leT, leF, chk_d, chk_t, chk_inb, rfm_s, bnd_e, cal_e, calR_e, k250, q1]
    · rw [ep] at h
      cases h
  | some e =>
    obtain ⟨p1, p2, p3, p4, p5, p6⟩ := pN_s h1
    rw [h1] at q1
    have ei : bI (some e).isSome = nI 1 := rfl
    rw [ei] at q1
    rw [← p1] at q3 q4
    have f1 := FJ_s hi M1 (k := 16) (by omega) (nI (nm tx a (e - a)))
    have rx1 := FJ_RX (FJ_t q2 f1) rx
    obtain ⟨M2, u1, u2, u3, u4, u5, u6⟩ := x7_readNumber G htl htx (a := e + 1) (by omega) (ch := 59) (by omega) rx1 ((gI_k _ _ _ (by omega)).trans q3)
    refine ⟨M2, ?_, FJ_t (FJ_t q2 f1) u2, ?_, fun e' e2' h => ?_⟩
    · cases h2 : pN tx tl 59 (e + 1) with
      | none =>
        rw [h2] at u1
        have ei1 : bI (none : Option Nat).isSome = nI 0 := rfl
        rw [ei1] at u1
        rw [pY_1 h1 h2]
        have ei2 : bI (none : Option (Nat × Nat)).isSome = nI 0 := rfl
        rw [ei2]
        unfold fn_X7_readYear
        simp (disch := omega) only [↓cal_w6, ↓cal_w7, ↓lm1, l0, l1, l2, l3, l4, l5, l6, l7, l8, l9, l10, l11, l12, l13, l14, l31, l32, l44, l48, l50, l57, l59, l60, l74, l100, l110, l126, l300, l330, l500, l501, l801, l1000, l5000, l5010, l8010, l8192, l9000, l10000, l1000000, and_self, and_true, true_and, and_false, false_and, nI_add, pk_mul, nI_clamp, ↓reduceIte, eF, lT, lF, leT, leF, chk_d, chk_t, chk_inb, rfm_s, bnd_e, cal_e, calR_e, k250, q1, q4, u1, isZ0]
      | some e2 =>
        rw [h2] at u1
        have ei1 : bI (some e2).isSome = nI 1 := rfl
        rw [ei1] at u1
        rw [pY_2 h1 h2]
        have ei2 : bI (some (e, e2)).isSome = nI 1 := rfl
        rw [ei2]
        unfold fn_X7_readYear
        simp (disch := omega) only [↓cal_w6, ↓cal_w7, ↓lm1, l0, l1, l2, l3, l4, l5, l6, l7, l8, l9, l10, l11, l12, l13, l14, l31, l32, l44, l48, l50, l57, l59, l60, l74, l100, l110, l126, l300, l330, l500, l501, l801, l1000, l5000, l5010, l8010, l8192, l9000, l10000, l1000000, and_self, and_true, true_and, and_false, false_and, nI_add, pk_mul, nI_clamp, ↓reduceIte, eF, lT, lF, leT, leF, chk_d, chk_t, chk_inb, rfm_s, bnd_e, cal_e, calR_e, k250, q1, q4, u1, isZ1]
    · rw [u6, gI_k _ _ _ (by omega)]
      exact q6
    · obtain ⟨s1, s2⟩ := pY_s h
      rw [h1] at s1
      cases s1
      obtain ⟨t1, -⟩ := pN_s s2
      rw [← t1] at u3 u4
      exact ⟨u3, u5.trans (gI_s _ _ _ _), u4⟩
