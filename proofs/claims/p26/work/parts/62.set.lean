/-! settings, creep, years -/
theorem isZ_1 : isZ (nI 1) = true := by decide
theorem fb_set {k : Nat} (hk : k < 7) : fLeast k = nI (if k = 5 then 1 else 0) ∧ fMost k = nI (if k = 0 then 5000 else if k = 1 then 500 else if k = 2 then 9000 else if k = 3 then 500 else if k = 4 then 5000 else if k = 5 then 1000000 else 50) := by
  rcases (show k = 0 ∨ k = 1 ∨ k = 2 ∨ k = 3 ∨ k = 4 ∨ k = 5 ∨ k = 6 by omega) with rfl | rfl | rfl | rfl | rfl | rfl | rfl <;> exact ⟨rfl, rfl⟩
def loS (k : Nat) : Nat := if k = 5 then 1 else 0
def hiS (k : Nat) : Nat := if k = 0 then 5000 else if k = 1 then 500 else if k = 2 then 9000 else if k = 3 then 500 else if k = 4 then 5000 else if k = 5 then 1000000 else 50
theorem hiS_lt (k : Nat) : hiS k ≤ 1000000 := by
  unfold hiS
  repeat' split
  all_goals omega
theorem loS_lt (k : Nat) : loS k ≤ 1 := by
  unfold loS
  split <;> omega
theorem c_set {ad : Nat → Nat} {T : Ty} {M : Mm} {R : Rm} {s : Sx} {n : Nat} {h : Nat → Sx} (w : WQ ad T M R s n h) {Y nb ns : Nat} (g : GS (1000000 * nb + 300000 * Y) Y nb ns s) (hY5 : Y ≤ 500) {k v : Nat} (hk : k < 7) (v1 : loS k ≤ v) (v2 : v ≤ hiS k) : ∃ M' R', fn_X6_set T (ad 0) (nI k) (nI v) M R = some (s.1 k, M', R') ∧ WQ ad T M' R' (upd s.1 k (nI v), s.2.1, s.2.2) (np n) (hp n h s) := by
  have ok := WQ_OK w
  have w0 := (WQ_n w).2
  have I := OK_IV ok
  have a3 : (nI 0 ≤ nI k ∧ nI k ≤ nI 6) = True := in_t (by omega) (by omega) (by omega)
  obtain ⟨f1, f2⟩ := fb_set hk
  have f1' : fLeast k = nI (loS k) := f1
  have f2' : fMost k = nI (hiS k) := f2
  have hlo := loS_lt k
  have hhi := hiS_lt k
  have hy' : (nI (loS k) ≤ nI v ∧ nI v ≤ nI (hiS k)) = True := in_t v1 v2 (by omega)
  obtain ⟨M', R', β', σ, p1, hi, G', rt', eM, nx⟩ := step_recQ w
  have tg := CG_tg G' (.inr (CG_bs G' (show 4 < 5 by omega)))
  have z0 := G'.2.2.2.2.1
  have hIv : IV (upd s.1 k (nI v)) := IV_set I hk (show rg (nI v) (loS k) (hiS k) from rg_nI v1 v2 (by omega))
  have q2 := nx (up2 (CC ad M' (β' 4)) 1 k (nI v)) (CL ad M' (β' 4)) (upd s.1 k (nI v), s.2.1, s.2.2) R' σ G' (fun _ _ => rfl) (RT_set I rt' hk (nI v)) (OK_upd ok hIv (by omega))
  have e1 := rt'.1 k hk
  have hqq : gI M' (qq ad (β' 4) 1) k = s.1 k := e1
  obtain ⟨hq, k0, r00, r01, r02, r03, k1, n1, k2, n2, k3, n3, k4, rb, kb, rl, lg, rs, ks, sl, si⟩ := tg
  have e2 := TV_s hq M' (CC ad M' (β' 4)) (CL ad M' (β' 4)) (j := 1) k (nI v) (by omega)
  rw [eM] at e2
  refine ⟨TV (qq ad (β' 4)) M' (up2 (CC ad M' (β' 4)) 1 k (nI v)) (CL ad M' (β' 4)), R', ?_, q2⟩
  unfold fn_X6_set
  simp (disch := omega) only [↓cal_w6, ↓lm1, l0, l1, l2, l3, l4, l5, l6, l7, l8, l9, l10, l11, l12, l13, l14, l31, l32, l44, l48, l50, l57, l59, l60, l74, l100, l110, l126, l300, l330, l500, l501, l801, l1000, l5000, l5010, l8010, l8192, l9000, l10000, l1000000, and_self, and_true, true_and, and_false, false_and, nI_add, pk_mul, nI_clamp, ↓reduceIte, eF, lT, lF, leT, leF, chk_d, chk_t, chk_inb, rfm_s, bnd_e, cal_e, calR_e, x6_isWithin, a3, f1', f2', hy', w0, p1, calR_u, z0, k0, r00, r01, r02, r03, k1, n1, k2, n2, k3, n3, k4, rb, kb, rl, rs, ks, hqq, e2]
theorem c_setX {ad : Nat → Nat} {T : Ty} {M : Mm} {R : Rm} {k : Nat} (hk : k < 7) {y : Int32} (hy : ¬ (nI (loS k) ≤ y ∧ y ≤ nI (hiS k))) : fn_X6_set T (ad 0) (nI k) y M R = some (-2000000001, M, R) := by
  have a3 : (nI 0 ≤ nI k ∧ nI k ≤ nI 6) = True := in_t (by omega) (by omega) (by omega)
  obtain ⟨f1, f2⟩ := fb_set hk
  have f1' : fLeast k = nI (loS k) := f1
  have f2' : fMost k = nI (hiS k) := f2
  have hlo := loS_lt k
  have hhi := hiS_lt k
  have hy' : (nI (loS k) ≤ y ∧ y ≤ nI (hiS k)) = False := eq_false hy
  unfold fn_X6_set
  simp (disch := omega) only [↓cal_w6, ↓lm1, l0, l1, l2, l3, l4, l5, l6, l7, l8, l9, l10, l11, l12, l13, l14, l31, l32, l44, l48, l50, l57, l59, l60, l74, l100, l110, l126, l300, l330, l500, l501, l801, l1000, l5000, l5010, l8010, l8192, l9000, l10000, l1000000, and_self, and_true, true_and, and_false, false_and, nI_add, pk_mul, nI_clamp, ↓reduceIte, eF, lT, lF, leT, leF, chk_d, chk_t, chk_inb, rfm_s, bnd_e, cal_e, calR_e, x6_isWithin, a3, f1', f2', hy']
theorem c_set7 {ad : Nat → Nat} {T : Ty} {M : Mm} {R : Rm} (y : Int32) : fn_X6_set T (ad 0) (nI 7) y M R = some (-2000000001, M, R) := by
  have a3 : (nI 0 ≤ nI 7 ∧ nI 7 ≤ nI 6) = False := in_f (by omega) (by omega) (.inr (Int32.le_refl _))
  unfold fn_X6_set
  simp (disch := omega) only [↓cal_w6, ↓lm1, l0, l1, l2, l3, l4, l5, l6, l7, l8, l9, l10, l11, l12, l13, l14, l31, l32, l44, l48, l50, l57, l59, l60, l74, l100, l110, l126, l300, l330, l500, l501, l801, l1000, l5000, l5010, l8010, l8192, l9000, l10000, l1000000, and_self, and_true, true_and, and_false, false_and, nI_add, pk_mul, nI_clamp, ↓reduceIte, eF, lT, lF, leT, leF, chk_d, chk_t, chk_inb, rfm_s, bnd_e, cal_e, calR_e, x6_isWithin, a3]
theorem c_creep {ad : Nat → Nat} {T : Ty} {M : Mm} {R : Rm} {s : Sx} {n : Nat} {h : Nat → Sx} (w : WQ ad T M R s n h) {Y nb ns : Nat} (g : GS (1000000 * nb + 300000 * Y) Y nb ns s) (hY5 : Y ≤ 500) {b v : Nat} (hb : b < nb) (hv : v ≤ 500) : ∃ M' R', fn_X6_creep T (ad 0) (nI b) (nI v) M R = some (s.1 (14 + 6 * b + 2), M', R') ∧ WQ ad T M' R' (upd s.1 (14 + 6 * b + 2) (nI v), s.2.1, s.2.2) (np n) (hp n h s) := by
  have w1 := w
  have ok := WQ_OK w
  obtain ⟨tx, β, σ, hi, G, hs, ct⟩ := w
  have b4 := CG_bs G (show 4 < 5 by omega)
  have tg := CG_tg G (.inr b4)
  have tg0 := tg
  have hM := M_TV hi M (β 4)
  have rt := hs.2.2.1
  have rt0 := rt
  have I := g.1.1
  have hY8 := g.2.2.2.2.1
  have hnb := g.2.2.2.2.2.1
  have hns := g.2.2.2.2.2.2.1
  have n7 := g.2.2.2.2.2.2.2.1
  have n8 := g.2.2.2.2.2.2.2.2.1
  have n9 := g.2.2.2.2.2.2.2.2.2
  have h7 := g.2.1
  have h8 := g.2.2.1
  have h9 := g.2.2.2.1
  have hK : 1000000 * nb + 300000 * Y < 2 ^ 30 := by omega
  have z0 := G.2.2.2.2.1
  have w0 := G.1
  obtain ⟨t1, t04, t05, t06, t40, t41, t42, t43, tl, tb, ts⟩ := rt
  rw [h8] at t04
  rw [h9] at t05
  rw [h7] at t06
  obtain ⟨hq, k0, r00, r01, r02, r03, k1, n1, k2, n2, k3, n3, k4, rb, kb, rl, lg, rs, ks, sl, si⟩ := tg
  have a1 := x5_hasBand tg0 M (l := CL ad M (β 4)) t04 hnb hb
  rw [hM] at a1
  have hb8 : b < nt (s.1 8) := by omega
  have hy' : (nI 0 ≤ nI v ∧ nI v ≤ nI 500) = True := in_t (by omega) hv (by omega)
  obtain ⟨M', R', β', σ', p1, hi', G', rt', eM, nx⟩ := step_recQ w1
  have tg' := CG_tg G' (.inr (CG_bs G' (show 4 < 5 by omega)))
  have z0' := G'.2.2.2.2.1
  have q2 := nx (up2 (CC ad M' (β' 4)) (5 + 3 * b) 3 (nI v)) (CL ad M' (β' 4)) (upd s.1 (14 + 6 * b + 2) (nI v), s.2.1, s.2.2) R' σ' G' (fun _ _ => rfl) (RT_creep I rt' hb8 (nI v)) (OK_upd ok (IV_creep I (by omega) hv) (by omega))
  have e1 := (rt'.2.2.2.2.2.2.2.2.2.1 b hb8).1 2 (by omega)
  have hqq : gI M' (qq ad (β' 4) (5 + 3 * b)) 3 = s.1 (14 + 6 * b + 2) := e1
  refine ⟨TV (qq ad (β' 4)) M' (up2 (CC ad M' (β' 4)) (5 + 3 * b) 3 (nI v)) (CL ad M' (β' 4)), R', ?_, q2⟩
  obtain ⟨hqx, k0x, r00x, r01x, r02x, r03x, k1x, n1x, k2x, n2x, k3x, n3x, k4x, rbx, kbx, rlx, lgx, rsx, ksx, slx, six⟩ := tg'
  have e2 := TV_s hqx M' (CC ad M' (β' 4)) (CL ad M' (β' 4)) (j := 5 + 3 * b) 3 (nI v) (by omega)
  rw [eM] at e2
  unfold fn_X6_creep
  simp (disch := omega) only [↓cal_w6, ↓lm1, l0, l1, l2, l3, l4, l5, l6, l7, l8, l9, l10, l11, l12, l13, l14, l31, l32, l44, l48, l50, l57, l59, l60, l74, l100, l110, l126, l300, l330, l500, l501, l801, l1000, l5000, l5010, l8010, l8192, l9000, l10000, l1000000, and_self, and_true, true_and, and_false, false_and, nI_add, pk_mul, nI_clamp, ↓reduceIte, eF, lT, lF, leT, leF, chk_d, chk_t, chk_inb, rfm_s, bnd_e, cal_e, calR_e, ↓chk_q w0, ↓rfm_q z0, ↓chk_q k0, w0, z0, k0, r00, r01, r02, r03, k1, n1, k2, n2, k3, n3, k4, rb, kb, rl, rs, ks, ↓cal_q a1, a1, x6_isWithin, hy', p1, calR_u, z0', k0x, r00x, r01x, r02x, r03x, k1x, n1x, k2x, n2x, k3x, n3x, k4x, rbx, kbx, rlx, rsx, ksx, hqq, e2]
theorem c_creepN {ad : Nat → Nat} {T : Ty} {M : Mm} {R : Rm} {s : Sx} {n : Nat} {h : Nat → Sx} (w : WQ ad T M R s n h) {Y nb ns : Nat} (g : GS (1000000 * nb + 300000 * Y) Y nb ns s) (hY5 : Y ≤ 500) (y : Int32) : fn_X6_creep T (ad 0) (nI nb) y M R = some (-2000000001, M, R) := by
  obtain ⟨tx, β, σ, hi, G, hs, ct⟩ := w
  have b4 := CG_bs G (show 4 < 5 by omega)
  have tg := CG_tg G (.inr b4)
  have tg0 := tg
  have hM := M_TV hi M (β 4)
  have rt := hs.2.2.1
  have rt0 := rt
  have I := g.1.1
  have hY8 := g.2.2.2.2.1
  have hnb := g.2.2.2.2.2.1
  have hns := g.2.2.2.2.2.2.1
  have n7 := g.2.2.2.2.2.2.2.1
  have n8 := g.2.2.2.2.2.2.2.2.1
  have n9 := g.2.2.2.2.2.2.2.2.2
  have h7 := g.2.1
  have h8 := g.2.2.1
  have h9 := g.2.2.2.1
  have hK : 1000000 * nb + 300000 * Y < 2 ^ 30 := by omega
  have z0 := G.2.2.2.2.1
  have w0 := G.1
  obtain ⟨t1, t04, t05, t06, t40, t41, t42, t43, tl, tb, ts⟩ := rt
  rw [h8] at t04
  rw [h9] at t05
  rw [h7] at t06
  obtain ⟨hq, k0, r00, r01, r02, r03, k1, n1, k2, n2, k3, n3, k4, rb, kb, rl, lg, rs, ks, sl, si⟩ := tg
  have a1 := x5_hasBandN tg0 M (l := CL ad M (β 4)) t04 (x := nI nb) (.inr (Int32.le_refl _))
  rw [hM] at a1
  unfold fn_X6_creep
  simp (disch := omega) only [↓cal_w6, ↓lm1, l0, l1, l2, l3, l4, l5, l6, l7, l8, l9, l10, l11, l12, l13, l14, l31, l32, l44, l48, l50, l57, l59, l60, l74, l100, l110, l126, l300, l330, l500, l501, l801, l1000, l5000, l5010, l8010, l8192, l9000, l10000, l1000000, and_self, and_true, true_and, and_false, false_and, nI_add, pk_mul, nI_clamp, ↓reduceIte, eF, lT, lF, leT, leF, chk_d, chk_t, chk_inb, rfm_s, bnd_e, cal_e, calR_e, ↓chk_q w0, ↓rfm_q z0, ↓chk_q k0, w0, z0, k0, r00, r01, r02, r03, k1, n1, k2, n2, k3, n3, k4, rb, kb, rl, rs, ks, ↓cal_q a1, a1]
theorem c_years {ad : Nat → Nat} {T : Ty} {M : Mm} {R : Rm} {s : Sx} {n : Nat} {h : Nat → Sx} (w : WQ ad T M R s n h) {Y nb ns : Nat} (g : GS (1000000 * nb + 300000 * Y) Y nb ns s) (hY5 : Y ≤ 500) (hz : Zs s) {v : Nat} (h0 : 0 < nb) (v1 : 1 ≤ v) (v2 : v ≤ 100) (hYv : Y + v ≤ 500) : ∃ M' R', fn_X6_years T (ad 0) (nI v) M R = some ((sYs v s).1 12 - s.1 12, M', R') ∧ WQ ad T M' R' (sYs v s) (np n) (hp n h s) := by
  have w1 := w
  obtain ⟨tx, β, σ, hi, G, hs, ct⟩ := w
  have b4 := CG_bs G (show 4 < 5 by omega)
  have tg := CG_tg G (.inr b4)
  have tg0 := tg
  have hM := M_TV hi M (β 4)
  have rt := hs.2.2.1
  have rt0 := rt
  have I := g.1.1
  have hY8 := g.2.2.2.2.1
  have hnb := g.2.2.2.2.2.1
  have hns := g.2.2.2.2.2.2.1
  have n7 := g.2.2.2.2.2.2.2.1
  have n8 := g.2.2.2.2.2.2.2.2.1
  have n9 := g.2.2.2.2.2.2.2.2.2
  have h7 := g.2.1
  have h8 := g.2.2.1
  have h9 := g.2.2.2.1
  have hK : 1000000 * nb + 300000 * Y < 2 ^ 30 := by omega
  have z0 := G.2.2.2.2.1
  have w0 := G.1
  obtain ⟨t1, t04, t05, t06, t40, t41, t42, t43, tl, tb, ts⟩ := rt
  rw [h8] at t04
  rw [h9] at t05
  rw [h7] at t06
  obtain ⟨hq, k0, r00, r01, r02, r03, k1, n1, k2, n2, k3, n3, k4, rb, kb, rl, lg, rs, ks, sl, si⟩ := tg
  have hx' : (nI 1 ≤ nI v ∧ nI v ≤ nI 100) = True := in_t v1 v2 (by omega)
  obtain ⟨M', R', β', σ', p1, hi', G', rt', eM, nx⟩ := step_recQ w1
  have b4' := CG_bs G' (show 4 < 5 by omega)
  have tg' := CG_tg G' (.inr b4')
  have z0' := G'.2.2.2.2.1
  obtain ⟨c', l', u1, u2⟩ := x5_years tg' M' g (n := v) (by omega) (by omega) (by omega) rt'
  rw [eM] at u1
  obtain ⟨ok', -, -⟩ := OK_Ys g hz v hYv
  have q2 := nx c' l' (sYs v s) R' σ' G' (fun _ _ => rfl) u2 ok'
  obtain ⟨hqx, k0x, r00x, r01x, r02x, r03x, k1x, n1x, k2x, n2x, k3x, n3x, k4x, rbx, kbx, rlx, lgx, rsx, ksx, slx, six⟩ := tg'
  have e1 : gI M' (qq ad (β' 4) 4) 2 = s.1 12 := rt'.2.2.2.2.2.2.1
  have e2 : gI (TV (qq ad (β' 4)) M' c' l') (qq ad (β' 4) 4) 2 = (sYs v s).1 12 := (TV_g hqx M' c' l' 2 (by omega)).trans u2.2.2.2.2.2.2.1
  refine ⟨TV (qq ad (β' 4)) M' c' l', R', ?_, q2⟩
  unfold fn_X6_years
  simp (disch := omega) only [↓cal_w6, ↓lm1, l0, l1, l2, l3, l4, l5, l6, l7, l8, l9, l10, l11, l12, l13, l14, l31, l32, l44, l48, l50, l57, l59, l60, l74, l100, l110, l126, l300, l330, l500, l501, l801, l1000, l5000, l5010, l8010, l8192, l9000, l10000, l1000000, and_self, and_true, true_and, and_false, false_and, nI_add, pk_mul, nI_clamp, ↓reduceIte, eF, lT, lF, leT, leF, chk_d, chk_t, chk_inb, rfm_s, bnd_e, cal_e, calR_e, x6_isWithin, hx', ↓chk_q w0, ↓rfm_q z0, ↓chk_q k0, w0, z0, k0, r00, r01, r02, r03, k1, n1, k2, n2, k3, n3, k4, rb, kb, rl, rs, ks, gCC, t04, t06, p1, calR_u, z0', k0x, r00x, r01x, r02x, r03x, k1x, n1x, k2x, n2x, k3x, n3x, k4x, rbx, kbx, rlx, rsx, ksx, e1, u1, e2]
theorem c_yearsS {ad : Nat → Nat} {T : Ty} {M : Mm} {R : Rm} {s : Sx} {n : Nat} {h : Nat → Sx} (w : WQ ad T M R s n h) {Y nb ns : Nat} (g : GS (1000000 * nb + 300000 * Y) Y nb ns s) (hY5 : Y ≤ 500) {v : Nat} (h0 : nb = 0) (v1 : 1 ≤ v) (v2 : v ≤ 100) : fn_X6_years T (ad 0) (nI v) M R = some (-2000000002, M, R) := by
  obtain ⟨tx, β, σ, hi, G, hs, ct⟩ := w
  have b4 := CG_bs G (show 4 < 5 by omega)
  have tg := CG_tg G (.inr b4)
  have tg0 := tg
  have hM := M_TV hi M (β 4)
  have rt := hs.2.2.1
  have rt0 := rt
  have I := g.1.1
  have hY8 := g.2.2.2.2.1
  have hnb := g.2.2.2.2.2.1
  have hns := g.2.2.2.2.2.2.1
  have n7 := g.2.2.2.2.2.2.2.1
  have n8 := g.2.2.2.2.2.2.2.2.1
  have n9 := g.2.2.2.2.2.2.2.2.2
  have h7 := g.2.1
  have h8 := g.2.2.1
  have h9 := g.2.2.2.1
  have hK : 1000000 * nb + 300000 * Y < 2 ^ 30 := by omega
  have z0 := G.2.2.2.2.1
  have w0 := G.1
  obtain ⟨t1, t04, t05, t06, t40, t41, t42, t43, tl, tb, ts⟩ := rt
  rw [h8] at t04
  rw [h9] at t05
  rw [h7] at t06
  obtain ⟨hq, k0, r00, r01, r02, r03, k1, n1, k2, n2, k3, n3, k4, rb, kb, rl, lg, rs, ks, sl, si⟩ := tg
  subst h0
  have hx' : (nI 1 ≤ nI v ∧ nI v ≤ nI 100) = True := in_t v1 v2 (by omega)
  unfold fn_X6_years
  simp (disch := omega) only [↓cal_w6, ↓lm1, l0, l1, l2, l3, l4, l5, l6, l7, l8, l9, l10, l11, l12, l13, l14, l31, l32, l44, l48, l50, l57, l59, l60, l74, l100, l110, l126, l300, l330, l500, l501, l801, l1000, l5000, l5010, l8010, l8192, l9000, l10000, l1000000, and_self, and_true, true_and, and_false, false_and, nI_add, pk_mul, nI_clamp, ↓reduceIte, eF, lT, lF, leT, leF, chk_d, chk_t, chk_inb, rfm_s, bnd_e, cal_e, calR_e, x6_isWithin, hx', ↓chk_q w0, ↓rfm_q z0, ↓chk_q k0, w0, z0, k0, r00, r01, r02, r03, k1, n1, k2, n2, k3, n3, k4, rb, kb, rl, rs, ks, gCC, t04]
theorem c_yearsL {ad : Nat → Nat} {T : Ty} {M : Mm} {R : Rm} {s : Sx} {n : Nat} {h : Nat → Sx} (w : WQ ad T M R s n h) {Y nb ns : Nat} (g : GS (1000000 * nb + 300000 * Y) Y nb ns s) (hY5 : Y ≤ 500) {v : Nat} (h0 : 0 < nb) (v1 : 1 ≤ v) (v2 : v ≤ 100) (hYv : ¬ Y + v ≤ 500) : fn_X6_years T (ad 0) (nI v) M R = some (-2000000003, M, R) := by
  obtain ⟨tx, β, σ, hi, G, hs, ct⟩ := w
  have b4 := CG_bs G (show 4 < 5 by omega)
  have tg := CG_tg G (.inr b4)
  have tg0 := tg
  have hM := M_TV hi M (β 4)
  have rt := hs.2.2.1
  have rt0 := rt
  have I := g.1.1
  have hY8 := g.2.2.2.2.1
  have hnb := g.2.2.2.2.2.1
  have hns := g.2.2.2.2.2.2.1
  have n7 := g.2.2.2.2.2.2.2.1
  have n8 := g.2.2.2.2.2.2.2.2.1
  have n9 := g.2.2.2.2.2.2.2.2.2
  have h7 := g.2.1
  have h8 := g.2.2.1
  have h9 := g.2.2.2.1
  have hK : 1000000 * nb + 300000 * Y < 2 ^ 30 := by omega
  have z0 := G.2.2.2.2.1
  have w0 := G.1
  obtain ⟨t1, t04, t05, t06, t40, t41, t42, t43, tl, tb, ts⟩ := rt
  rw [h8] at t04
  rw [h9] at t05
  rw [h7] at t06
  obtain ⟨hq, k0, r00, r01, r02, r03, k1, n1, k2, n2, k3, n3, k4, rb, kb, rl, lg, rs, ks, sl, si⟩ := tg
  have hx' : (nI 1 ≤ nI v ∧ nI v ≤ nI 100) = True := in_t v1 v2 (by omega)
  unfold fn_X6_years
  simp (disch := omega) only [↓cal_w6, ↓lm1, l0, l1, l2, l3, l4, l5, l6, l7, l8, l9, l10, l11, l12, l13, l14, l31, l32, l44, l48, l50, l57, l59, l60, l74, l100, l110, l126, l300, l330, l500, l501, l801, l1000, l5000, l5010, l8010, l8192, l9000, l10000, l1000000, and_self, and_true, true_and, and_false, false_and, nI_add, pk_mul, nI_clamp, ↓reduceIte, eF, lT, lF, leT, leF, chk_d, chk_t, chk_inb, rfm_s, bnd_e, cal_e, calR_e, x6_isWithin, hx', ↓chk_q w0, ↓rfm_q z0, ↓chk_q k0, w0, z0, k0, r00, r01, r02, r03, k1, n1, k2, n2, k3, n3, k4, rb, kb, rl, rs, ks, gCC, t04, t06]
theorem c_yearsN {ad : Nat → Nat} {T : Ty} {M : Mm} {R : Rm} {x : Int32} (hx : ¬ (nI 1 ≤ x ∧ x ≤ nI 100)) : fn_X6_years T (ad 0) x M R = some (-2000000001, M, R) := by
  have hx' : (nI 1 ≤ x ∧ x ≤ nI 100) = False := eq_false hx
  unfold fn_X6_years
  simp (disch := omega) only [↓cal_w6, ↓lm1, l0, l1, l2, l3, l4, l5, l6, l7, l8, l9, l10, l11, l12, l13, l14, l31, l32, l44, l48, l50, l57, l59, l60, l74, l100, l110, l126, l300, l330, l500, l501, l801, l1000, l5000, l5010, l8010, l8192, l9000, l10000, l1000000, and_self, and_true, true_and, and_false, false_and, nI_add, pk_mul, nI_clamp, ↓reduceIte, eF, lT, lF, leT, leF, chk_d, chk_t, chk_inb, rfm_s, bnd_e, cal_e, calR_e, x6_isWithin, hx']
