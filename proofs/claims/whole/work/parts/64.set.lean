/-! both together: settings, creep, years -/
theorem isZ_1 : isZ (nI 1) = true := by decide
theorem fb_set {k : Nat} (hk : k < 7) : fLeast k = nI (if k = 5 then 1 else 0) ∧ fMost k = nI (if k = 0 then 5000 else if k = 1 then 500 else if k = 2 then 9000 else if k = 3 then 500 else if k = 4 then 5000 else if k = 5 then 1000000 else 50) := by
  rcases (show k = 0 ∨ k = 1 ∨ k = 2 ∨ k = 3 ∨ k = 4 ∨ k = 5 ∨ k = 6 by omega) with rfl | rfl | rfl | rfl | rfl | rfl | rfl <;> exact ⟨rfl, rfl⟩
def loS (k : Nat) : Nat := if k = 5 then 1 else 0
def hiS (k : Nat) : Nat := if k = 0 then 5000 else if k = 1 then 500 else if k = 2 then 9000 else if k = 3 then 500 else if k = 4 then 5000 else if k = 5 then 1000000 else 50
theorem hiS_lt (k : Nat) : hiS k ≤ 1000000 := by
  unfold hiS
  repeat' split
  all_goals omega
theorem loS_lt (k : Nat) : loS k ≤ 1 := by
  unfold loS
  split <;> omega
theorem x7_isSetting {T : Ty} {R : Rm} (M : Mm) {k : Nat} (hk : k < 7) (y : Int32) : fn_X7_isSetting T R (nI k) y M = some (if nI (loS k) ≤ y ∧ y ≤ nI (hiS k) then nI 1 else nI 0, M) := by
  unfold fn_X7_isSetting
  rcases (show k = 0 ∨ k = 1 ∨ k = 2 ∨ k = 3 ∨ k = 4 ∨ k = 5 ∨ k = 6 by omega) with rfl | rfl | rfl | rfl | rfl | rfl | rfl
  · rw [show loS 0 = 0 from rfl, show hiS 0 = 5000 from rfl]
    by_cases hy : nI 0 ≤ y ∧ y ≤ nI 5000
    · have hy' : (nI 0 ≤ y ∧ y ≤ nI 5000) = True := eq_true hy
      simp (disch := omega) only [↓cal_w6, ↓cal_w7, ↓lm1, l0, l1, l2, l3, l4, l5, l6, l7, l8, l9, l10, l11, l12, l13, l14, l31, l32, l44, l48, l50, l57, l59, l60, l74, l100, l110, l126, l300, l330, l500, l501, l801, l1000, l5000, l5010, l8010, l8192, l9000, l10000, l1000000, and_self, and_true, true_and, and_false, false_and, nI_add, pk_mul, nI_clamp, ↓reduceIte, eF, lT, lF, leT, leF, chk_d, chk_t, chk_inb, rfm_s, bnd_e, cal_e, calR_e, hy', isZ1]
    · have hy' : (nI 0 ≤ y ∧ y ≤ nI 5000) = False := eq_false hy
      simp (disch := omega) only [↓cal_w6, ↓cal_w7, ↓lm1, l0, l1, l2, l3, l4, l5, l6, l7, l8, l9, l10, l11, l12, l13, l14, l31, l32, l44, l48, l50, l57, l59, l60, l74, l100, l110, l126, l300, l330, l500, l501, l801, l1000, l5000, l5010, l8010, l8192, l9000, l10000, l1000000, and_self, and_true, true_and, and_false, false_and, nI_add, pk_mul, nI_clamp, ↓reduceIte, eF, lT, lF, leT, leF, chk_d, chk_t, chk_inb, rfm_s, bnd_e, cal_e, calR_e, hy', isZ0]
  · rw [show loS 1 = 0 from rfl, show hiS 1 = 500 from rfl]
    by_cases hy : nI 0 ≤ y ∧ y ≤ nI 500
    · have hy' : (nI 0 ≤ y ∧ y ≤ nI 500) = True := eq_true hy
      simp (disch := omega) only [↓cal_w6, ↓cal_w7, ↓lm1, l0, l1, l2, l3, l4, l5, l6, l7, l8, l9, l10, l11, l12, l13, l14, l31, l32, l44, l48, l50, l57, l59, l60, l74, l100, l110, l126, l300, l330, l500, l501, l801, l1000, l5000, l5010, l8010, l8192, l9000, l10000, l1000000, and_self, and_true, true_and, and_false, false_and, nI_add, pk_mul, nI_clamp, ↓reduceIte, eF, lT, lF, leT, leF, chk_d, chk_t, chk_inb, rfm_s, bnd_e, cal_e, calR_e, hy', isZ1]
    · have hy' : (nI 0 ≤ y ∧ y ≤ nI 500) = False := eq_false hy
      simp (disch := omega) only [↓cal_w6, ↓cal_w7, ↓lm1, l0, l1, l2, l3, l4, l5, l6, l7, l8, l9, l10, l11, l12, l13, l14, l31, l32, l44, l48, l50, l57, l59, l60, l74, l100, l110, l126, l300, l330, l500, l501, l801, l1000, l5000, l5010, l8010, l8192, l9000, l10000, l1000000, and_self, and_true, true_and, and_false, false_and, nI_add, pk_mul, nI_clamp, ↓reduceIte, eF, lT, lF, leT, leF, chk_d, chk_t, chk_inb, rfm_s, bnd_e, cal_e, calR_e, hy', isZ0]
  · rw [show loS 2 = 0 from rfl, show hiS 2 = 9000 from rfl]
    by_cases hy : nI 0 ≤ y ∧ y ≤ nI 9000
    · have hy' : (nI 0 ≤ y ∧ y ≤ nI 9000) = True := eq_true hy
      simp (disch := omega) only [↓cal_w6, ↓cal_w7, ↓lm1, l0, l1, l2, l3, l4, l5, l6, l7, l8, l9, l10, l11, l12, l13, l14, l31, l32, l44, l48, l50, l57, l59, l60, l74, l100, l110, l126, l300, l330, l500, l501, l801, l1000, l5000, l5010, l8010, l8192, l9000, l10000, l1000000, and_self, and_true, true_and, and_false, false_and, nI_add, pk_mul, nI_clamp, ↓reduceIte, eF, lT, lF, leT, leF, chk_d, chk_t, chk_inb, rfm_s, bnd_e, cal_e, calR_e, hy', isZ1]
    · have hy' : (nI 0 ≤ y ∧ y ≤ nI 9000) = False := eq_false hy
      simp (disch := omega) only [↓cal_w6, ↓cal_w7, ↓lm1, l0, l1, l2, l3, l4, l5, l6, l7, l8, l9, l10, l11, l12, l13, l14, l31, l32, l44, l48, l50, l57, l59, l60, l74, l100, l110, l126, l300, l330, l500, l501, l801, l1000, l5000, l5010, l8010, l8192, l9000, l10000, l1000000, and_self, and_true, true_and, and_false, false_and, nI_add, pk_mul, nI_clamp, ↓reduceIte, eF, lT, lF, leT, leF, chk_d, chk_t, chk_inb, rfm_s, bnd_e, cal_e, calR_e, hy', isZ0]
  · rw [show loS 3 = 0 from rfl, show hiS 3 = 500 from rfl]
    by_cases hy : nI 0 ≤ y ∧ y ≤ nI 500
    · have hy' : (nI 0 ≤ y ∧ y ≤ nI 500) = True := eq_true hy
      simp (disch := omega) only [↓cal_w6, ↓cal_w7, ↓lm1, l0, l1, l2, l3, l4, l5, l6, l7, l8, l9, l10, l11, l12, l13, l14, l31, l32, l44, l48, l50, l57, l59, l60, l74, l100, l110, l126, l300, l330, l500, l501, l801, l1000, l5000, l5010, l8010, l8192, l9000, l10000, l1000000, and_self, and_true, true_and, and_false, false_and, nI_add, pk_mul, nI_clamp, ↓reduceIte, eF, lT, lF, leT, leF, chk_d, chk_t, chk_inb, rfm_s, bnd_e, cal_e, calR_e, hy', isZ1]
    · have hy' : (nI 0 ≤ y ∧ y ≤ nI 500) = False := eq_false hy
      simp (disch := omega) only [↓cal_w6, ↓cal_w7, ↓lm1, l0, l1, l2, l3, l4, l5, l6, l7, l8, l9, l10, l11, l12, l13, l14, l31, l32, l44, l48, l50, l57, l59, l60, l74, l100, l110, l126, l300, l330, l500, l501, l801, l1000, l5000, l5010, l8010, l8192, l9000, l10000, l1000000, and_self, and_true, true_and, and_false, false_and, nI_add, pk_mul, nI_clamp, ↓reduceIte, eF, lT, lF, leT, leF, chk_d, chk_t, chk_inb, rfm_s, bnd_e, cal_e, calR_e, hy', isZ0]
  · rw [show loS 4 = 0 from rfl, show hiS 4 = 5000 from rfl]
    by_cases hy : nI 0 ≤ y ∧ y ≤ nI 5000
    · have hy' : (nI 0 ≤ y ∧ y ≤ nI 5000) = True := eq_true hy
      simp (disch := omega) only [↓cal_w6, ↓cal_w7, ↓lm1, l0, l1, l2, l3, l4, l5, l6, l7, l8, l9, l10, l11, l12, l13, l14, l31, l32, l44, l48, l50, l57, l59, l60, l74, l100, l110, l126, l300, l330, l500, l501, l801, l1000, l5000, l5010, l8010, l8192, l9000, l10000, l1000000, and_self, and_true, true_and, and_false, false_and, nI_add, pk_mul, nI_clamp, ↓reduceIte, eF, lT, lF, leT, leF, chk_d, chk_t, chk_inb, rfm_s, bnd_e, cal_e, calR_e, hy', isZ1]
    · have hy' : (nI 0 ≤ y ∧ y ≤ nI 5000) = False := eq_false hy
      simp (disch := omega) only [↓cal_w6, ↓cal_w7, ↓lm1, l0, l1, l2, l3, l4, l5, l6, l7, l8, l9, l10, l11, l12, l13, l14, l31, l32, l44, l48, l50, l57, l59, l60, l74, l100, l110, l126, l300, l330, l500, l501, l801, l1000, l5000, l5010, l8010, l8192, l9000, l10000, l1000000, and_self, and_true, true_and, and_false, false_and, nI_add, pk_mul, nI_clamp, ↓reduceIte, eF, lT, lF, leT, leF, chk_d, chk_t, chk_inb, rfm_s, bnd_e, cal_e, calR_e, hy', isZ0]
  · rw [show loS 5 = 1 from rfl, show hiS 5 = 1000000 from rfl]
    by_cases hy : nI 1 ≤ y ∧ y ≤ nI 1000000
    · have hy' : (nI 1 ≤ y ∧ y ≤ nI 1000000) = True := eq_true hy
      simp (disch := omega) only [↓cal_w6, ↓cal_w7, ↓lm1, l0, l1, l2, l3, l4, l5, l6, l7, l8, l9, l10, l11, l12, l13, l14, l31, l32, l44, l48, l50, l57, l59, l60, l74, l100, l110, l126, l300, l330, l500, l501, l801, l1000, l5000, l5010, l8010, l8192, l9000, l10000, l1000000, and_self, and_true, true_and, and_false, false_and, nI_add, pk_mul, nI_clamp, ↓reduceIte, eF, lT, lF, leT, leF, chk_d, chk_t, chk_inb, rfm_s, bnd_e, cal_e, calR_e, hy', isZ1]
    · have hy' : (nI 1 ≤ y ∧ y ≤ nI 1000000) = False := eq_false hy
      simp (disch := omega) only [↓cal_w6, ↓cal_w7, ↓lm1, l0, l1, l2, l3, l4, l5, l6, l7, l8, l9, l10, l11, l12, l13, l14, l31, l32, l44, l48, l50, l57, l59, l60, l74, l100, l110, l126, l300, l330, l500, l501, l801, l1000, l5000, l5010, l8010, l8192, l9000, l10000, l1000000, and_self, and_true, true_and, and_false, false_and, nI_add, pk_mul, nI_clamp, ↓reduceIte, eF, lT, lF, leT, leF, chk_d, chk_t, chk_inb, rfm_s, bnd_e, cal_e, calR_e, hy', isZ0]
  · rw [show loS 6 = 0 from rfl, show hiS 6 = 50 from rfl]
    by_cases hy : nI 0 ≤ y ∧ y ≤ nI 50
    · have hy' : (nI 0 ≤ y ∧ y ≤ nI 50) = True := eq_true hy
      simp (disch := omega) only [↓cal_w6, ↓cal_w7, ↓lm1, l0, l1, l2, l3, l4, l5, l6, l7, l8, l9, l10, l11, l12, l13, l14, l31, l32, l44, l48, l50, l57, l59, l60, l74, l100, l110, l126, l300, l330, l500, l501, l801, l1000, l5000, l5010, l8010, l8192, l9000, l10000, l1000000, and_self, and_true, true_and, and_false, false_and, nI_add, pk_mul, nI_clamp, ↓reduceIte, eF, lT, lF, leT, leF, chk_d, chk_t, chk_inb, rfm_s, bnd_e, cal_e, calR_e, hy', isZ1]
    · have hy' : (nI 0 ≤ y ∧ y ≤ nI 50) = False := eq_false hy
      simp (disch := omega) only [↓cal_w6, ↓cal_w7, ↓lm1, l0, l1, l2, l3, l4, l5, l6, l7, l8, l9, l10, l11, l12, l13, l14, l31, l32, l44, l48, l50, l57, l59, l60, l74, l100, l110, l126, l300, l330, l500, l501, l801, l1000, l5000, l5010, l8010, l8192, l9000, l10000, l1000000, and_self, and_true, true_and, and_false, false_and, nI_add, pk_mul, nI_clamp, ↓reduceIte, eF, lT, lF, leT, leF, chk_d, chk_t, chk_inb, rfm_s, bnd_e, cal_e, calR_e, hy', isZ0]
theorem x7_isSettingN {T : Ty} {R : Rm} (M : Mm) {x : Int32} (hx : x < nI 0 ∨ nI 7 ≤ x) (y : Int32) : fn_X7_isSetting T R x y M = some (nI 0, M) := by
  have ek := fun k (hk : k < 7) => eX hx hk (by omega)
  have k0' := ek 0 (by omega)
  have k1' := ek 1 (by omega)
  have k2' := ek 2 (by omega)
  have k3' := ek 3 (by omega)
  have k4' := ek 4 (by omega)
  have k5' := ek 5 (by omega)
  have k6' := ek 6 (by omega)
  unfold fn_X7_isSetting
  simp only [↓lm1, l0, l1, l2, l3, l4, l5, l6, l7, l8, l9, l10, l11, l12, l13, l14, l31, l32, l44, l48, l50, l57, l59, l60, l74, l100, l110, l126, l300, l330, l500, l501, l801, l1000, l5000, l5010, l8010, l8192, l9000, l10000, l1000000, ↓reduceIte, k0', k1', k2', k3', k4', k5', k6']
theorem g_set {ad : Nat → Nat} {T : Ty} {M : Mm} {R : Rm} {s : Sx} {n : Nat} {h : Nat → Sx} {tl' : Nat} {tx : Nat → Nat} {β : Nat → Nat} {σ : Nat → Nat → Nat} (w : WD ad T M R s n h tl' tx β σ) (x y : Int32) : SW ad T (fn_X6_set T (ad 0) x y M R) (fun R1 M1 => fn_X7_set T R1 (ad 250) x y M1) := by
  have w1 := w
  have w0 := w.1.1
  have ok := w.2.1.2.2.2.2.1
  have I := OK_IV ok
  rcases ix_c x (n := 7) (by omega) with ⟨k, hk, rfl⟩ | hx
  · have a3 : (nI 0 ≤ nI k ∧ nI k ≤ nI 6) = True := in_t (by omega) (by omega) (by omega)
    obtain ⟨f1, f2⟩ := fb_set hk
    have f1' : fLeast k = nI (loS k) := f1
    have f2' : fMost k = nI (hiS k) := f2
    have hlo := loS_lt k
    have hhi := hiS_lt k
    by_cases hy : nI (loS k) ≤ y ∧ y ≤ nI (hiS k)
    · obtain ⟨v, rfl, v1, v2⟩ := bet hy (by omega) (by omega)
      have hy' : (nI (loS k) ≤ nI v ∧ nI v ≤ nI (hiS k)) = True := eq_true hy
      obtain ⟨M', R', β', p1, G', GR', rt', fy, m7, m8, rr, eM, nx⟩ := step_rec w
      have tg := CG_tg G' (.inr (CG_bs G' (show 4 < 5 by omega)))
      have z0 := G'.2.2.2.2.1
      have hIv : IV (upd s.1 k (nI v)) := IV_set I hk (show rg (nI v) (loS k) (hiS k) from rg_nI v1 v2 (by omega))
      obtain ⟨M3, q1, q2⟩ := nx (up2 (CC ad M' (β' 4)) 1 k (nI v)) (CL ad M' (β' 4)) (upd s.1 k (nI v), s.2.1, s.2.2) R' σ G' GR' (fun _ _ => rfl) (RT_set I rt' hk (nI v)) (OK_upd ok hIv (by omega))
      have e1 := rt'.1 k hk
      have hqq : gI M' (qq ad (β' 4) 1) k = s.1 k := e1
      obtain ⟨hq, k0, r00, r01, r02, r03, k1, n1, k2, n2, k3, n3, k4, rb, kb, rl, lg, rs, ks, sl, si⟩ := tg
      have e2 := TV_s hq M' (CC ad M' (β' 4)) (CL ad M' (β' 4)) (j := 1) k (nI v) (by omega)
      rw [eM] at e2
      refine ⟨s.1 k, TV (qq ad (β' 4)) M' (up2 (CC ad M' (β' 4)) 1 k (nI v)) (CL ad M' (β' 4)), R', _, ?_, ?_, _, _, _, _, _, _, _, q2⟩
      · unfold fn_X6_set
        simp (disch := omega) only [↓cal_w6, ↓cal_w7, ↓lm1, l0, l1, l2, l3, l4, l5, l6, l7, l8, l9, l10, l11, l12, l13, l14, l31, l32, l44, l48, l50, l57, l59, l60, l74, l100, l110, l126, l300, l330, l500, l501, l801, l1000, l5000, l5010, l8010, l8192, l9000, l10000, l1000000, and_self, and_true, true_and, and_false, false_and, nI_add, pk_mul, nI_clamp, ↓reduceIte, eF, lT, lF, leT, leF, chk_d, chk_t, chk_inb, rfm_s, bnd_e, cal_e, calR_e, x6_isWithin, a3, f1', f2', hy', w0, p1, calR_u, z0, k0, r00, r01, r02, r03, k1, n1, k2, n2, k3, n3, k4, rb, kb, rl, rs, ks, hqq, e2]
      · obtain ⟨hi, k0, k251, n251, r251, k252, n252, r252, k253, n253, r253, k254, n254, r254, k255, n255, r255, k256, n256, r256, k257, n257, r257, k258, n258, r258, k259, n259, r259, k260, n260, r260, k261, n261, r261⟩ := GR'
        have e4 := P3_m ad M3 s.1 (fI s.2.1) s.2.2 k
        have e5 := sP3_m ad M3 s.1 (fI s.2.1) s.2.2 k (nI v)
        have e4' : gI (PS ad M3 s) (ad 251) k = s.1 k := e4
        have e5' : sI (PS ad M3 s) (ad 251) k (nI v) = PS ad M3 (upd s.1 k (nI v), s.2.1, s.2.2) := e5
        have e6 := x7_isSetting (T := T) (R := R') (TV (qq ad (β' 4)) M' (up2 (CC ad M' (β' 4)) 1 k (nI v)) (CL ad M' (β' 4))) hk (nI v)
        show fn_X7_set T R' (ad 250) (nI k) (nI v) _ = _
        unfold fn_X7_set
        simp (disch := omega) only [↓cal_w6, ↓cal_w7, ↓lm1, l0, l1, l2, l3, l4, l5, l6, l7, l8, l9, l10, l11, l12, l13, l14, l31, l32, l44, l48, l50, l57, l59, l60, l74, l100, l110, l126, l300, l330, l500, l501, l801, l1000, l5000, l5010, l8010, l8192, l9000, l10000, l1000000, and_self, and_true, true_and, and_false, false_and, nI_add, pk_mul, nI_clamp, ↓reduceIte, eF, lT, lF, leT, leF, chk_d, chk_t, chk_inb, rfm_s, bnd_e, cal_e, calR_e, e6, hy', k0, k251, n251, r251, k252, n252, r252, k253, n253, r253, k254, n254, r254, k255, n255, r255, k256, n256, r256, k257, n257, r257, k258, n258, r258, k259, n259, r259, k260, n260, r260, k261, n261, r261, q1, e4', e5']
    · have hy' : (nI (loS k) ≤ y ∧ y ≤ nI (hiS k)) = False := eq_false hy
      refine SW_no w1 (-2000000001) ?_ ?_
      · unfold fn_X6_set
        simp (disch := omega) only [↓cal_w6, ↓cal_w7, ↓lm1, l0, l1, l2, l3, l4, l5, l6, l7, l8, l9, l10, l11, l12, l13, l14, l31, l32, l44, l48, l50, l57, l59, l60, l74, l100, l110, l126, l300, l330, l500, l501, l801, l1000, l5000, l5010, l8010, l8192, l9000, l10000, l1000000, and_self, and_true, true_and, and_false, false_and, nI_add, pk_mul, nI_clamp, ↓reduceIte, eF, lT, lF, leT, leF, chk_d, chk_t, chk_inb, rfm_s, bnd_e, cal_e, calR_e, x6_isWithin, a3, f1', f2', hy']
      · show fn_X7_set T R (ad 250) (nI k) y M = _
        have e6 := x7_isSetting (T := T) (R := R) M hk y
        unfold fn_X7_set
        simp (disch := omega) only [↓cal_w6, ↓cal_w7, ↓lm1, l0, l1, l2, l3, l4, l5, l6, l7, l8, l9, l10, l11, l12, l13, l14, l31, l32, l44, l48, l50, l57, l59, l60, l74, l100, l110, l126, l300, l330, l500, l501, l801, l1000, l5000, l5010, l8010, l8192, l9000, l10000, l1000000, and_self, and_true, true_and, and_false, false_and, nI_add, pk_mul, nI_clamp, ↓reduceIte, eF, lT, lF, leT, leF, chk_d, chk_t, chk_inb, rfm_s, bnd_e, cal_e, calR_e, e6, hy']
  · have a3 : (nI 0 ≤ x ∧ x ≤ nI 6) = False := in_f (by omega) (by omega) hx
    refine SW_no w1 (-2000000001) ?_ ?_
    · unfold fn_X6_set
      simp (disch := omega) only [↓cal_w6, ↓cal_w7, ↓lm1, l0, l1, l2, l3, l4, l5, l6, l7, l8, l9, l10, l11, l12, l13, l14, l31, l32, l44, l48, l50, l57, l59, l60, l74, l100, l110, l126, l300, l330, l500, l501, l801, l1000, l5000, l5010, l8010, l8192, l9000, l10000, l1000000, and_self, and_true, true_and, and_false, false_and, nI_add, pk_mul, nI_clamp, ↓reduceIte, eF, lT, lF, leT, leF, chk_d, chk_t, chk_inb, rfm_s, bnd_e, cal_e, calR_e, x6_isWithin, a3]
    · show fn_X7_set T R (ad 250) x y M = _
      have e6 := x7_isSettingN (T := T) (R := R) M hx y
      unfold fn_X7_set
      simp (disch := omega) only [↓cal_w6, ↓cal_w7, ↓lm1, l0, l1, l2, l3, l4, l5, l6, l7, l8, l9, l10, l11, l12, l13, l14, l31, l32, l44, l48, l50, l57, l59, l60, l74, l100, l110, l126, l300, l330, l500, l501, l801, l1000, l5000, l5010, l8010, l8192, l9000, l10000, l1000000, and_self, and_true, true_and, and_false, false_and, nI_add, pk_mul, nI_clamp, ↓reduceIte, eF, lT, lF, leT, leF, chk_d, chk_t, chk_inb, rfm_s, bnd_e, cal_e, calR_e, e6]
theorem g_creep {ad : Nat → Nat} {T : Ty} {M : Mm} {R : Rm} {s : Sx} {n : Nat} {h : Nat → Sx} {tl' : Nat} {tx : Nat → Nat} {β : Nat → Nat} {σ : Nat → Nat → Nat} (w : WD ad T M R s n h tl' tx β σ) (x y : Int32) : SW ad T (fn_X6_creep T (ad 0) x y M R) (fun R1 M1 => fn_X7_creep T R1 (ad 250) x y M1) := by
  have w1 := w
  obtain ⟨G, hs, ct, GR, rsw, rk, rx⟩ := w
  have hi := GR.1
  have b4 := CG_bs G (show 4 < 5 by omega)
  have tg := CG_tg G (.inr b4)
  have tg0 := tg
  have hM := M_TV hi M (β 4)
  have rt := hs.2.2.1
  have rt0 := rt
  obtain ⟨Y, nb, ns, g, hY5, hz⟩ := hs.2.2.2.2.1
  have P := RS_RP rsw
  have I := g.1.1
  have hY8 := g.2.2.2.2.1
  have hnb := g.2.2.2.2.2.1
  have hns := g.2.2.2.2.2.2.1
  have n7 := g.2.2.2.2.2.2.2.1
  have n8 := g.2.2.2.2.2.2.2.2.1
  have n9 := g.2.2.2.2.2.2.2.2.2
  have h7 := g.2.1
  have h8 := g.2.2.1
  have h9 := g.2.2.2.1
  have hK : 1000000 * nb + 300000 * Y < 2 ^ 30 := by omega
  have z0 := G.2.2.2.2.1
  have w0 := G.1
  have p7 : gI M (ad 251) 7 = nI Y := (P.1 7 (by omega)).trans h7
  have p8 : gI M (ad 251) 8 = nI nb := (P.1 8 (by omega)).trans h8
  have p9 : gI M (ad 251) 9 = nI ns := (P.1 9 (by omega)).trans h9
  have GR0 := GR
  obtain ⟨_, kR, k251, n251, r251, k252, n252, r252, k253, n253, r253, k254, n254, r254, k255, n255, r255, k256, n256, r256, k257, n257, r257, k258, n258, r258, k259, n259, r259, k260, n260, r260, k261, n261, r261⟩ := GR
  obtain ⟨t1, t04, t05, t06, t40, t41, t42, t43, tl, tb, ts⟩ := rt
  rw [h8] at t04
  rw [h9] at t05
  rw [h7] at t06
  obtain ⟨hq, k0, r00, r01, r02, r03, k1, n1, k2, n2, k3, n3, k4, rb, kb, rl, lg, rs, ks, sl, si⟩ := tg
  have ok := hs.2.2.2.2.1
  rcases ix_c x (n := nb) (by omega) with ⟨b, hb, rfl⟩ | hx
  · have a1 := x5_hasBand tg0 M (l := CL ad M (β 4)) t04 hnb hb
    rw [hM] at a1
    have a2 := x7_isBand GR0 p8 hnb hb
    have hb8 : b < nt (s.1 8) := by omega
    by_cases hy : nI 0 ≤ y ∧ y ≤ nI 500
    · obtain ⟨v, rfl, v1, v2⟩ := bet hy (by omega) (by omega)
      have hy' : (nI 0 ≤ nI v ∧ nI v ≤ nI 500) = True := eq_true hy
      obtain ⟨M', R', β', p1, G', GR', rt', fy, m7, m8, rr, eM, nx⟩ := step_rec w1
      have tg' := CG_tg G' (.inr (CG_bs G' (show 4 < 5 by omega)))
      have z0' := G'.2.2.2.2.1
      obtain ⟨M3, q1, q2⟩ := nx (up2 (CC ad M' (β' 4)) (5 + 3 * b) 3 (nI v)) (CL ad M' (β' 4)) (upd s.1 (14 + 6 * b + 2) (nI v), s.2.1, s.2.2) R' σ G' GR' (fun _ _ => rfl) (RT_creep I rt' hb8 (nI v)) (OK_upd ok (IV_creep I (by omega) v2) (by omega))
      have e1 := (rt'.2.2.2.2.2.2.2.2.2.1 b hb8).1 2 (by omega)
      have hqq : gI M' (qq ad (β' 4) (5 + 3 * b)) 3 = s.1 (14 + 6 * b + 2) := e1
      refine ⟨s.1 (14 + 6 * b + 2), TV (qq ad (β' 4)) M' (up2 (CC ad M' (β' 4)) (5 + 3 * b) 3 (nI v)) (CL ad M' (β' 4)), R', _, ?_, ?_, _, _, _, _, _, _, _, q2⟩
      · obtain ⟨hqx, k0x, r00x, r01x, r02x, r03x, k1x, n1x, k2x, n2x, k3x, n3x, k4x, rbx, kbx, rlx, lgx, rsx, ksx, slx, six⟩ := tg'
        have e2 := TV_s hqx M' (CC ad M' (β' 4)) (CL ad M' (β' 4)) (j := 5 + 3 * b) 3 (nI v) (by omega)
        rw [eM] at e2
        unfold fn_X6_creep
        simp (disch := omega) only [↓cal_w6, ↓cal_w7, ↓lm1, l0, l1, l2, l3, l4, l5, l6, l7, l8, l9, l10, l11, l12, l13, l14, l31, l32, l44, l48, l50, l57, l59, l60, l74, l100, l110, l126, l300, l330, l500, l501, l801, l1000, l5000, l5010, l8010, l8192, l9000, l10000, l1000000, and_self, and_true, true_and, and_false, false_and, nI_add, pk_mul, nI_clamp, ↓reduceIte, eF, lT, lF, leT, leF, chk_d, chk_t, chk_inb, rfm_s, bnd_e, cal_e, calR_e, ↓chk_q w0, ↓rfm_q z0, ↓chk_q k0, w0, z0, k0, r00, r01, r02, r03, k1, n1, k2, n2, k3, n3, k4, rb, kb, rl, rs, ks, ↓cal_q a1, a1, x6_isWithin, hy', p1, calR_u, z0', k0x, r00x, r01x, r02x, r03x, k1x, n1x, k2x, n2x, k3x, n3x, k4x, rbx, kbx, rlx, rsx, ksx, hqq, e2]
      · have a2' := x7_isBand GR' (M := TV (qq ad (β' 4)) M' (up2 (CC ad M' (β' 4)) (5 + 3 * b) 3 (nI v)) (CL ad M' (β' 4))) (nb := nb) ?_ hnb hb
        · have o0 := x7_of GR' (PS ad M3 s) (b := b) (k := 2) (by omega)
          have o1 := x7_put GR' (PS ad M3 s) (b := b) (k := 2) (nI v) (by omega)
          have e4 : gI (PS ad M3 s) (ad 251) (14 + 6 * b + 2) = s.1 (14 + 6 * b + 2) := P3_m ad M3 s.1 (fI s.2.1) s.2.2 _
          have e5 : sI (PS ad M3 s) (ad 251) (14 + 6 * b + 2) (nI v) = PS ad M3 (upd s.1 (14 + 6 * b + 2) (nI v), s.2.1, s.2.2) := sP3_m ad M3 s.1 (fI s.2.1) s.2.2 _ (nI v)
          rw [e4] at o0
          rw [e5] at o1
          have kR' := GR'.2.1
          show fn_X7_creep T R' (ad 250) (nI b) (nI v) _ = _
          unfold fn_X7_creep
          simp (disch := omega) only [↓cal_w6, ↓cal_w7, ↓lm1, l0, l1, l2, l3, l4, l5, l6, l7, l8, l9, l10, l11, l12, l13, l14, l31, l32, l44, l48, l50, l57, l59, l60, l74, l100, l110, l126, l300, l330, l500, l501, l801, l1000, l5000, l5010, l8010, l8192, l9000, l10000, l1000000, and_self, and_true, true_and, and_false, false_and, nI_add, pk_mul, nI_clamp, ↓reduceIte, eF, lT, lF, leT, leF, chk_d, chk_t, chk_inb, rfm_s, bnd_e, cal_e, calR_e, kR', ↓cal_q a2, a2', x7_in', hy', q1, o0, o1]
        · have b4' := CG_bs G' (show 4 < 5 by omega)
          have f2 := FY_t fy (FY_TV hi (.inr b4') M' (up2 (CC ad M' (β' 4)) (5 + 3 * b) 3 (nI v)) (CL ad M' (β' 4)))
          exact (congrFun (f2 251 (by omega)).1 8).trans p8
    · have hy' : (nI 0 ≤ y ∧ y ≤ nI 500) = False := eq_false hy
      refine SW_no w1 (-2000000001) ?_ ?_
      · unfold fn_X6_creep
        simp (disch := omega) only [↓cal_w6, ↓cal_w7, ↓lm1, l0, l1, l2, l3, l4, l5, l6, l7, l8, l9, l10, l11, l12, l13, l14, l31, l32, l44, l48, l50, l57, l59, l60, l74, l100, l110, l126, l300, l330, l500, l501, l801, l1000, l5000, l5010, l8010, l8192, l9000, l10000, l1000000, and_self, and_true, true_and, and_false, false_and, nI_add, pk_mul, nI_clamp, ↓reduceIte, eF, lT, lF, leT, leF, chk_d, chk_t, chk_inb, rfm_s, bnd_e, cal_e, calR_e, ↓chk_q w0, ↓rfm_q z0, ↓chk_q k0, w0, z0, k0, r00, r01, r02, r03, k1, n1, k2, n2, k3, n3, k4, rb, kb, rl, rs, ks, ↓cal_q a1, a1, x6_isWithin, hy']
      · show fn_X7_creep T R (ad 250) (nI b) y M = _
        unfold fn_X7_creep
        simp (disch := omega) only [↓cal_w6, ↓cal_w7, ↓lm1, l0, l1, l2, l3, l4, l5, l6, l7, l8, l9, l10, l11, l12, l13, l14, l31, l32, l44, l48, l50, l57, l59, l60, l74, l100, l110, l126, l300, l330, l500, l501, l801, l1000, l5000, l5010, l8010, l8192, l9000, l10000, l1000000, and_self, and_true, true_and, and_false, false_and, nI_add, pk_mul, nI_clamp, ↓reduceIte, eF, lT, lF, leT, leF, chk_d, chk_t, chk_inb, rfm_s, bnd_e, cal_e, calR_e, ↓chk_q kR, kR, k251, n251, r251, k252, n252, r252, k253, n253, r253, k254, n254, r254, k255, n255, r255, k256, n256, r256, k257, n257, r257, k258, n258, r258, k259, n259, r259, k260, n260, r260, k261, n261, r261, ↓cal_q a2, a2, x7_in', hy']
  · have a1 := x5_hasBandN tg0 M (l := CL ad M (β 4)) t04 hx
    rw [hM] at a1
    have a2 := x7_isBandN GR0 p8 hnb hx
    refine SW_no w1 (-2000000001) ?_ ?_
    · unfold fn_X6_creep
      simp (disch := omega) only [↓cal_w6, ↓cal_w7, ↓lm1, l0, l1, l2, l3, l4, l5, l6, l7, l8, l9, l10, l11, l12, l13, l14, l31, l32, l44, l48, l50, l57, l59, l60, l74, l100, l110, l126, l300, l330, l500, l501, l801, l1000, l5000, l5010, l8010, l8192, l9000, l10000, l1000000, and_self, and_true, true_and, and_false, false_and, nI_add, pk_mul, nI_clamp, ↓reduceIte, eF, lT, lF, leT, leF, chk_d, chk_t, chk_inb, rfm_s, bnd_e, cal_e, calR_e, ↓chk_q w0, ↓rfm_q z0, ↓chk_q k0, w0, z0, k0, r00, r01, r02, r03, k1, n1, k2, n2, k3, n3, k4, rb, kb, rl, rs, ks, ↓cal_q a1, a1]
    · show fn_X7_creep T R (ad 250) x y M = _
      unfold fn_X7_creep
      simp (disch := omega) only [↓cal_w6, ↓cal_w7, ↓lm1, l0, l1, l2, l3, l4, l5, l6, l7, l8, l9, l10, l11, l12, l13, l14, l31, l32, l44, l48, l50, l57, l59, l60, l74, l100, l110, l126, l300, l330, l500, l501, l801, l1000, l5000, l5010, l8010, l8192, l9000, l10000, l1000000, and_self, and_true, true_and, and_false, false_and, nI_add, pk_mul, nI_clamp, ↓reduceIte, eF, lT, lF, leT, leF, chk_d, chk_t, chk_inb, rfm_s, bnd_e, cal_e, calR_e, ↓chk_q kR, kR, k251, n251, r251, k252, n252, r252, k253, n253, r253, k254, n254, r254, k255, n255, r255, k256, n256, r256, k257, n257, r257, k258, n258, r258, k259, n259, r259, k260, n260, r260, k261, n261, r261, ↓cal_q a2, a2]
