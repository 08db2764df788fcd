/-! years ahead -/
theorem WQ_trial {ad : Nat → Nat} {T : Ty} {M : Mm} {R : Rm} {s : Sx} {n : Nat} {h : Nat → Sx} (w : WQ ad T M R s n h) (c : Nat → Nat → Int32) (l : Nat → Int64) : WQ ad T (TV (qq ad 1) M c l) R s n h := by
  obtain ⟨tx, β, σ, hi, G, hs, ct⟩ := w
  exact ⟨tx, β, σ, hi, G, CS_trial hi G hs c l, CT_FX ct (TV_out hi (.inl rfl) (.inr (.inr (.inl rfl))) M c l).1 (TV_out hi (.inl rfl) (.inr (.inr (.inr (.inl rfl)))) M c l).1⟩
theorem copy_q {ad : Nat → Nat} {T : Ty} {M : Mm} {R : Rm} {s : Sx} {n : Nat} {h : Nat → Sx} {β : Nat → Nat} {σ : Nat → Nat → Nat} (hi : ∀ a b : Nat, (ad a = ad b) = (a = b)) (G : CG ad T R β σ) (hs : CS ad M s n h β σ) {K Y nb ns : Nat} (g : GS K Y nb ns s) : ∃ c l, fn_X5_copyFrom T R (qq ad 1 0) (qq ad (β 4) 0) M = some ((), TV (qq ad 1) M c l) ∧ RT QT (σ 1) c l s := by
  have b4 := CG_bs G (show 4 < 5 by omega)
  have hne : β 4 ≠ 1 := by
    unfold BS at b4
    omega
  obtain ⟨c', l', p1, p2⟩ := x5_copyFrom (CG_tg G (.inl rfl)) (CG_tg G (.inr b4)) M (d := CC ad M (β 4)) (ld := CL ad M (β 4)) (fun c l j k hj => TV_o M c l k (fun j' hj' => qq_sep hi (.inr b4) (.inl rfl) hne hj hj')) (fun c l k => TV_oj M c l k (qq_sep hi (.inr b4) (.inl rfl) hne (by omega) (by omega))) g hs.2.2.1 (CC ad M 1) (CL ad M 1)
  rw [M_TV hi M 1] at p1
  exact ⟨c', l', p1, p2⟩
theorem t64 (x : Int32) : x.toInt64.toInt32 = x := by simp
theorem c_if0 {ad : Nat → Nat} {T : Ty} {M : Mm} {R : Rm} {s : Sx} {n : Nat} {h : Nat → Sx} (w : WQ ad T M R s n h) {Y nb ns : Nat} (g : GS (1000000 * nb + 300000 * Y) Y nb ns s) (hY5 : Y ≤ 500) {v : Nat} (h0 : 0 < nb) (v1 : 1 ≤ v) (v2 : v ≤ 100) : ∃ M', fn_X6_ifYears T R (ad 0) (nI v) (nI 0) M = some ((sYs v s).1 10 + nI (tot (sYs v s).2.1 (Y + v) nb), M') ∧ WQ ad T M' R s n h := by
  have w1 := w
  obtain ⟨tx, β, σ, hi, G, hs, ct⟩ := w
  have b4 := CG_bs G (show 4 < 5 by omega)
  have tg := CG_tg G (.inr b4)
  have tg0 := tg
  have hM := M_TV hi M (β 4)
  have rt := hs.2.2.1
  have rt0 := rt
  have I := g.1.1
  have hY8 := g.2.2.2.2.1
  have hnb := g.2.2.2.2.2.1
  have hns := g.2.2.2.2.2.2.1
  have n7 := g.2.2.2.2.2.2.2.1
  have n8 := g.2.2.2.2.2.2.2.2.1
  have n9 := g.2.2.2.2.2.2.2.2.2
  have h7 := g.2.1
  have h8 := g.2.2.1
  have h9 := g.2.2.2.1
  have hK : 1000000 * nb + 300000 * Y < 2 ^ 30 := by omega
  have z0 := G.2.2.2.2.1
  have w0 := G.1
  obtain ⟨t1, t04, t05, t06, t40, t41, t42, t43, tl, tb, ts⟩ := rt
  rw [h8] at t04
  rw [h9] at t05
  rw [h7] at t06
  obtain ⟨hq, k0, r00, r01, r02, r03, k1, n1, k2, n2, k3, n3, k4, rb, kb, rl, lg, rs, ks, sl, si⟩ := tg
  have hx' : (nI 1 ≤ nI v ∧ nI v ≤ nI 100) = True := in_t v1 v2 (by omega)
  have hy' : (nI 0 ≤ nI 0 ∧ nI 0 ≤ nI 4) = True := in_t (by omega) (by omega) (by omega)
  have h0' : ¬ nb = 0 := by omega
  have zt : R (ad 0) 0 = some (qq ad 1 0) := G.2.1
  have tg1 := CG_tg G (.inl rfl)
  have k1' : isK T (qq ad 1 0) 5 = true := tg1.2.1
  have g1 := GS_Ys g v (by omega) (by omega)
  obtain ⟨c, la, u1, u2⟩ := copy_q hi G hs g
  obtain ⟨c2, lb, u3, u4⟩ := x5_years tg1 M g (n := v) (by omega) (by omega) (by omega) u2
  refine ⟨TV (qq ad 1) M c2 lb, ?_, WQ_trial w1 c2 lb⟩
  have r1 := x5_allIce tg1 M g1 (by omega) u4
  unfold fn_X6_ifYears
  simp (disch := omega) only [↓cal_w6, ↓lm1, l0, l1, l2, l3, l4, l5, l6, l7, l8, l9, l10, l11, l12, l13, l14, l31, l32, l44, l48, l50, l57, l59, l60, l74, l100, l110, l126, l300, l330, l500, l501, l801, l1000, l5000, l5010, l8010, l8192, l9000, l10000, l1000000, and_self, and_true, true_and, and_false, false_and, nI_add, pk_mul, nI_clamp, ↓reduceIte, eF, lT, lF, leT, leF, chk_d, chk_t, chk_inb, rfm_s, bnd_e, cal_e, calR_e, hx', hy', ↓chk_q w0, ↓rfm_q z0, ↓chk_q k0, w0, z0, k0, r00, r01, r02, r03, k1, n1, k2, n2, k3, n3, k4, rb, kb, rl, rs, ks, gCC, t04, h0', zt, k1', ↓cal_q u1, ↓cal_q u3, r1, t64]
theorem c_if1 {ad : Nat → Nat} {T : Ty} {M : Mm} {R : Rm} {s : Sx} {n : Nat} {h : Nat → Sx} (w : WQ ad T M R s n h) {Y nb ns : Nat} (g : GS (1000000 * nb + 300000 * Y) Y nb ns s) (hY5 : Y ≤ 500) {v : Nat} (h0 : 0 < nb) (v1 : 1 ≤ v) (v2 : v ≤ 100) : ∃ M', fn_X6_ifYears T R (ad 0) (nI v) (nI 1) M = some ((sYs v s).1 12 - s.1 12, M') ∧ WQ ad T M' R s n h := by
  have w1 := w
  obtain ⟨tx, β, σ, hi, G, hs, ct⟩ := w
  have b4 := CG_bs G (show 4 < 5 by omega)
  have tg := CG_tg G (.inr b4)
  have tg0 := tg
  have hM := M_TV hi M (β 4)
  have rt := hs.2.2.1
  have rt0 := rt
  have I := g.1.1
  have hY8 := g.2.2.2.2.1
  have hnb := g.2.2.2.2.2.1
  have hns := g.2.2.2.2.2.2.1
  have n7 := g.2.2.2.2.2.2.2.1
  have n8 := g.2.2.2.2.2.2.2.2.1
  have n9 := g.2.2.2.2.2.2.2.2.2
  have h7 := g.2.1
  have h8 := g.2.2.1
  have h9 := g.2.2.2.1
  have hK : 1000000 * nb + 300000 * Y < 2 ^ 30 := by omega
  have z0 := G.2.2.2.2.1
  have w0 := G.1
  obtain ⟨t1, t04, t05, t06, t40, t41, t42, t43, tl, tb, ts⟩ := rt
  rw [h8] at t04
  rw [h9] at t05
  rw [h7] at t06
  obtain ⟨hq, k0, r00, r01, r02, r03, k1, n1, k2, n2, k3, n3, k4, rb, kb, rl, lg, rs, ks, sl, si⟩ := tg
  have hx' : (nI 1 ≤ nI v ∧ nI v ≤ nI 100) = True := in_t v1 v2 (by omega)
  have hy' : (nI 0 ≤ nI 1 ∧ nI 1 ≤ nI 4) = True := in_t (by omega) (by omega) (by omega)
  have h0' : ¬ nb = 0 := by omega
  have zt : R (ad 0) 0 = some (qq ad 1 0) := G.2.1
  have tg1 := CG_tg G (.inl rfl)
  have k1' : isK T (qq ad 1 0) 5 = true := tg1.2.1
  have g1 := GS_Ys g v (by omega) (by omega)
  obtain ⟨c, la, u1, u2⟩ := copy_q hi G hs g
  obtain ⟨c2, lb, u3, u4⟩ := x5_years tg1 M g (n := v) (by omega) (by omega) (by omega) u2
  refine ⟨TV (qq ad 1) M c2 lb, ?_, WQ_trial w1 c2 lb⟩
  have hne : β 4 ≠ 1 := by
    unfold BS at b4
    omega
  have r1 : CC ad (TV (qq ad 1) M c2 lb) 1 4 2 = (sYs v s).1 12 := (TV_g tg1.1 M c2 lb 2 (by omega)).trans u4.2.2.2.2.2.2.1
  have r2 : CC ad (TV (qq ad 1) M c2 lb) (β 4) 4 2 = s.1 12 := (congrFun (CC_n hi (.inl rfl) (.inr b4) hne M c2 lb (j := 4) (by omega)) 2).trans t42
  have k14 : isK T (qq ad 1 4) 1 = true := tg1.2.2.2.2.2.2.2.2.2.2.2.2.1
  have r14 : R (qq ad 1 0) 3 = some (qq ad 1 4) := tg1.2.2.2.2.2.1
  unfold fn_X6_ifYears
  simp (disch := omega) only [↓cal_w6, ↓lm1, l0, l1, l2, l3, l4, l5, l6, l7, l8, l9, l10, l11, l12, l13, l14, l31, l32, l44, l48, l50, l57, l59, l60, l74, l100, l110, l126, l300, l330, l500, l501, l801, l1000, l5000, l5010, l8010, l8192, l9000, l10000, l1000000, and_self, and_true, true_and, and_false, false_and, nI_add, pk_mul, nI_clamp, ↓reduceIte, eF, lT, lF, leT, leF, chk_d, chk_t, chk_inb, rfm_s, bnd_e, cal_e, calR_e, hx', hy', ↓chk_q w0, ↓rfm_q z0, ↓chk_q k0, w0, z0, k0, r00, r01, r02, r03, k1, n1, k2, n2, k3, n3, k4, rb, kb, rl, rs, ks, gCC, t04, h0', zt, k1', ↓cal_q u1, ↓cal_q u3, k14, r14, r1, r2]
theorem c_ifN {ad : Nat → Nat} {T : Ty} {M : Mm} {R : Rm} {x y : Int32} (hx : ¬ ((nI 1 ≤ x ∧ x ≤ nI 100) ∧ (nI 0 ≤ y ∧ y ≤ nI 4))) : fn_X6_ifYears T R (ad 0) x y M = some (-2000000001, M) := by
  unfold fn_X6_ifYears
  by_cases h1 : nI 1 ≤ x ∧ x ≤ nI 100
  rotate_left
  · simp (disch := omega) only [↓cal_w6, ↓lm1, l0, l1, l2, l3, l4, l5, l6, l7, l8, l9, l10, l11, l12, l13, l14, l31, l32, l44, l48, l50, l57, l59, l60, l74, l100, l110, l126, l300, l330, l500, l501, l801, l1000, l5000, l5010, l8010, l8192, l9000, l10000, l1000000, and_self, and_true, true_and, and_false, false_and, nI_add, pk_mul, nI_clamp, ↓reduceIte, eF, lT, lF, leT, leF, chk_d, chk_t, chk_inb, rfm_s, bnd_e, cal_e, calR_e, eq_false h1]
  by_cases h2 : nI 0 ≤ y ∧ y ≤ nI 4
  rotate_left
  · simp (disch := omega) only [↓cal_w6, ↓lm1, l0, l1, l2, l3, l4, l5, l6, l7, l8, l9, l10, l11, l12, l13, l14, l31, l32, l44, l48, l50, l57, l59, l60, l74, l100, l110, l126, l300, l330, l500, l501, l801, l1000, l5000, l5010, l8010, l8192, l9000, l10000, l1000000, and_self, and_true, true_and, and_false, false_and, nI_add, pk_mul, nI_clamp, ↓reduceIte, eF, lT, lF, leT, leF, chk_d, chk_t, chk_inb, rfm_s, bnd_e, cal_e, calR_e, eq_true h1, eq_false h2]
  exact absurd ⟨h1, h2⟩ hx
def soB (w : Nat) (p : Int32) (s : Sx) (Y nb ns : Nat) : Bool := if w = 0 then !decide (s.1 12 ≤ p) else if w = 1 then decide (tot s.2.1 Y nb = 0) else decide (sm (stN s.1) ns = 0)
theorem nI_nf {k : Nat} (h : k < 2 ^ 31) : (nI k = -2000000004) = False := eq_false (fun e => nI_pos h (by
  rw [e]
  decide))
theorem x6_isSo {ad : Nat → Nat} {T : Ty} {R : Rm} {σ : Nat → Nat} (tg : TG T R (qq ad 1) σ) (w0 : isK T (ad 0) 6 = true) (zt : R (ad 0) 0 = some (qq ad 1 0)) (M : Mm) {c : Nat → Nat → Int32} {l : Nat → Int64} {s : Sx} {K Y nb ns : Nat} (g : GS K Y nb ns s) (hK : K < 2 ^ 30) (rt : RT QT σ c l s) {w : Nat} (hw : w < 3) (p : Int32) : fn_X6_isSoInTrial T R (ad 0) (nI w) p (TV (qq ad 1) M c l) = some (bI (soB w p s Y nb ns), TV (qq ad 1) M c l) := by
  have k1' : isK T (qq ad 1 0) 5 = true := tg.2.1
  have k14 : isK T (qq ad 1 4) 1 = true := tg.2.2.2.2.2.2.2.2.2.2.2.2.1
  have r14 : R (qq ad 1 0) 3 = some (qq ad 1 4) := tg.2.2.2.2.2.1
  have hns := g.2.2.2.2.2.2.1
  obtain ⟨F, _, hF⟩ := GS_tot g
  unfold fn_X6_isSoInTrial
  rcases (show w = 0 ∨ w = 1 ∨ w = 2 by omega) with rfl | rfl | rfl
  · have r1 : gI (TV (qq ad 1) M c l) (qq ad 1 4) 2 = s.1 12 := (TV_g tg.1 M c l 2 (by omega)).trans rt.2.2.2.2.2.2.1
    by_cases hc : s.1 12 ≤ p
    · have e : soB 0 p s Y nb ns = false := by simp [soB, hc]
      rw [e]
      simp (disch := omega) only [↓cal_w6, ↓lm1, l0, l1, l2, l3, l4, l5, l6, l7, l8, l9, l10, l11, l12, l13, l14, l31, l32, l44, l48, l50, l57, l59, l60, l74, l100, l110, l126, l300, l330, l500, l501, l801, l1000, l5000, l5010, l8010, l8192, l9000, l10000, l1000000, and_self, and_true, true_and, and_false, false_and, nI_add, pk_mul, nI_clamp, ↓reduceIte, eF, lT, lF, leT, leF, chk_d, chk_t, chk_inb, rfm_s, bnd_e, cal_e, calR_e, w0, zt, k1', k14, r14, r1, hc, bI, cond_false]
    · have e : soB 0 p s Y nb ns = true := by simp [soB, hc]
      rw [e]
      simp (disch := omega) only [↓cal_w6, ↓lm1, l0, l1, l2, l3, l4, l5, l6, l7, l8, l9, l10, l11, l12, l13, l14, l31, l32, l44, l48, l50, l57, l59, l60, l74, l100, l110, l126, l300, l330, l500, l501, l801, l1000, l5000, l5010, l8010, l8192, l9000, l10000, l1000000, and_self, and_true, true_and, and_false, false_and, nI_add, pk_mul, nI_clamp, ↓reduceIte, eF, lT, lF, leT, leF, chk_d, chk_t, chk_inb, rfm_s, bnd_e, cal_e, calR_e, w0, zt, k1', k14, r14, r1, hc, bI, cond_true]
  · have r1 := x5_bandIce tg M g rt
    by_cases hc : tot s.2.1 Y nb = 0
    · have e : soB 1 p s Y nb ns = true := by simp [soB, hc]
      rw [e]
      rw [hc] at r1
      simp (disch := omega) only [↓cal_w6, ↓lm1, l0, l1, l2, l3, l4, l5, l6, l7, l8, l9, l10, l11, l12, l13, l14, l31, l32, l44, l48, l50, l57, l59, l60, l74, l100, l110, l126, l300, l330, l500, l501, l801, l1000, l5000, l5010, l8010, l8192, l9000, l10000, l1000000, and_self, and_true, true_and, and_false, false_and, nI_add, pk_mul, nI_clamp, ↓reduceIte, eF, lT, lF, leT, leF, chk_d, chk_t, chk_inb, rfm_s, bnd_e, cal_e, calR_e, w0, zt, k1', r1, bI, cond_true]
    · have e : soB 1 p s Y nb ns = false := by simp [soB, hc]
      rw [e]
      simp (disch := omega) only [↓cal_w6, ↓lm1, l0, l1, l2, l3, l4, l5, l6, l7, l8, l9, l10, l11, l12, l13, l14, l31, l32, l44, l48, l50, l57, l59, l60, l74, l100, l110, l126, l300, l330, l500, l501, l801, l1000, l5000, l5010, l8010, l8192, l9000, l10000, l1000000, and_self, and_true, true_and, and_false, false_and, nI_add, pk_mul, nI_clamp, ↓reduceIte, eF, lT, lF, leT, leF, chk_d, chk_t, chk_inb, rfm_s, bnd_e, cal_e, calR_e, w0, zt, k1', r1, bI, cond_false]
  · have r1 := x5_standing tg M g rt
    have hle : sm (stN s.1) ns ≤ ns := by
      have hl : ∀ k, sm (stN s.1) k ≤ k := by
        intro k
        induction k with
        | zero => exact Nat.le_refl _
        | succ k ih =>
          rw [sm_s]
          have : stN s.1 k ≤ 1 := by
            unfold stN
            split <;> omega
          omega
      exact hl ns
    by_cases hc : sm (stN s.1) ns = 0
    · have e : soB 2 p s Y nb ns = true := by simp [soB, hc]
      rw [e]
      rw [hc] at r1
      simp (disch := omega) only [↓cal_w6, ↓lm1, l0, l1, l2, l3, l4, l5, l6, l7, l8, l9, l10, l11, l12, l13, l14, l31, l32, l44, l48, l50, l57, l59, l60, l74, l100, l110, l126, l300, l330, l500, l501, l801, l1000, l5000, l5010, l8010, l8192, l9000, l10000, l1000000, and_self, and_true, true_and, and_false, false_and, nI_add, pk_mul, nI_clamp, ↓reduceIte, eF, lT, lF, leT, leF, chk_d, chk_t, chk_inb, rfm_s, bnd_e, cal_e, calR_e, w0, zt, k1', r1, bI, cond_true]
    · have e : soB 2 p s Y nb ns = false := by simp [soB, hc]
      rw [e]
      simp (disch := omega) only [↓cal_w6, ↓lm1, l0, l1, l2, l3, l4, l5, l6, l7, l8, l9, l10, l11, l12, l13, l14, l31, l32, l44, l48, l50, l57, l59, l60, l74, l100, l110, l126, l300, l330, l500, l501, l801, l1000, l5000, l5010, l8010, l8192, l9000, l10000, l1000000, and_self, and_true, true_and, and_false, false_and, nI_add, pk_mul, nI_clamp, ↓reduceIte, eF, lT, lF, leT, leF, chk_d, chk_t, chk_inb, rfm_s, bnd_e, cal_e, calR_e, w0, zt, k1', r1, bI, cond_false]
def yt (w : Nat) (s : Sx) (Y nb ns : Nat) : Nat → Nat → Int32
  | 0, _ => -2000000004
  | d + 1, j => if soB w ((sYs j s).1 12) (sYs (j + 1) s) (Y + (j + 1)) nb ns = true then nI (j + 1) else yt w s Y nb ns d (j + 1)
theorem yt_t {w : Nat} {s : Sx} {Y nb ns d j : Nat} (h : soB w ((sYs j s).1 12) (sYs (j + 1) s) (Y + (j + 1)) nb ns = true) : yt w s Y nb ns (d + 1) j = nI (j + 1) := if_pos h
theorem yt_f {w : Nat} {s : Sx} {Y nb ns d j : Nat} (h : soB w ((sYs j s).1 12) (sYs (j + 1) s) (Y + (j + 1)) nb ns = false) : yt w s Y nb ns (d + 1) j = yt w s Y nb ns d (j + 1) := if_neg (by rw [h]; decide)
theorem bIt : bI true = nI 1 := rfl
theorem bIf : bI false = nI 0 := rfl
theorem x6_yearsTo_loop {ad : Nat → Nat} {T : Ty} {R : Rm} {σ : Nat → Nat} (tg : TG T R (qq ad 1) σ) (w0 : isK T (ad 0) 6 = true) (zt : R (ad 0) 0 = some (qq ad 1 0)) (M : Mm) {s : Sx} {Y nb ns : Nat} (g : GS (1000000 * nb + 300000 * Y) Y nb ns s) (hY5 : Y ≤ 500) (hn : 0 < nb) {w : Nat} (hw : w < 3) : ∀ d j c l fuel, j + d = 300 → RT QT σ c l (sYs j s) → d < fuel → ∃ c' l', fb_X6_yearsTo_38 T R (ad 0) (nI w) fuel (nI (j + 1)) (TV (qq ad 1) M c l) = some (yt w s Y nb ns d j, TV (qq ad 1) M c' l') := by
  have hnb := g.2.2.2.2.2.1
  have k1' : isK T (qq ad 1 0) 5 = true := tg.2.1
  have k14 : isK T (qq ad 1 4) 1 = true := tg.2.2.2.2.2.2.2.2.2.2.2.2.1
  have r14 : R (qq ad 1 0) 3 = some (qq ad 1 4) := tg.2.2.2.2.2.1
  intro d
  induction d with
  | zero =>
    intro j c l fuel h1 rt hf
    obtain ⟨n', rfl⟩ : ∃ n', fuel = n' + 1 := ⟨fuel - 1, by omega⟩
    refine ⟨c, l, ?_⟩
    rw [fbs_X6_yearsTo_38]
    unfold fs_X6_yearsTo_38
    simp (disch := omega) only [↓cal_w6, ↓lm1, l0, l1, l2, l3, l4, l5, l6, l7, l8, l9, l10, l11, l12, l13, l14, l31, l32, l44, l48, l50, l57, l59, l60, l74, l100, l110, l126, l300, l330, l500, l501, l801, l1000, l5000, l5010, l8010, l8192, l9000, l10000, l1000000, and_self, and_true, true_and, and_false, false_and, nI_add, pk_mul, nI_clamp, ↓reduceIte, eF, lT, lF, leT, leF, chk_d, chk_t, chk_inb, rfm_s, bnd_e, cal_e, calR_e, yt]
  | succ d ih =>
    intro j c l fuel h1 rt hf
    obtain ⟨n', rfl⟩ : ∃ n', fuel = n' + 1 := ⟨fuel - 1, by omega⟩
    have gj := GS_Ys g j (by omega) (by omega)
    have gj1 := GS_Ys g (j + 1) (by omega) (by omega)
    obtain ⟨c', l', p1, p2⟩ := x5_year tg M gj (by omega) hn (by omega) rt
    have rt1 : RT QT σ c' l' (sYs (j + 1) s) := p2
    have r1 : gI (TV (qq ad 1) M c l) (qq ad 1 4) 2 = (sYs j s).1 12 := (TV_g tg.1 M c l 2 (by omega)).trans rt.2.2.2.2.2.2.1
    have so := x6_isSo tg w0 zt M gj1 (by omega) rt1 hw ((sYs j s).1 12)
    cases hs : soB w ((sYs j s).1 12) (sYs (j + 1) s) (Y + (j + 1)) nb ns with
    | true =>
      rw [hs, bIt] at so
      refine ⟨c', l', ?_⟩
      rw [yt_t hs, fbs_X6_yearsTo_38]
      unfold fs_X6_yearsTo_38
      simp (disch := omega) only [↓cal_w6, ↓lm1, l0, l1, l2, l3, l4, l5, l6, l7, l8, l9, l10, l11, l12, l13, l14, l31, l32, l44, l48, l50, l57, l59, l60, l74, l100, l110, l126, l300, l330, l500, l501, l801, l1000, l5000, l5010, l8010, l8192, l9000, l10000, l1000000, and_self, and_true, true_and, and_false, false_and, nI_add, pk_mul, nI_clamp, ↓reduceIte, eF, lT, lF, leT, leF, chk_d, chk_t, chk_inb, rfm_s, bnd_e, cal_e, calR_e, w0, zt, k1', k14, r14, r1, p1, so]
    | false =>
      rw [hs, bIf] at so
      obtain ⟨c2, lb, q⟩ := ih (j + 1) c' l' n' (by omega) rt1 (by omega)
      refine ⟨c2, lb, ?_⟩
      rw [yt_f hs, ← q, fbs_X6_yearsTo_38]
      unfold fs_X6_yearsTo_38
      simp (disch := omega) only [↓cal_w6, ↓lm1, l0, l1, l2, l3, l4, l5, l6, l7, l8, l9, l10, l11, l12, l13, l14, l31, l32, l44, l48, l50, l57, l59, l60, l74, l100, l110, l126, l300, l330, l500, l501, l801, l1000, l5000, l5010, l8010, l8192, l9000, l10000, l1000000, and_self, and_true, true_and, and_false, false_and, nI_add, pk_mul, nI_clamp, ↓reduceIte, eF, lT, lF, leT, leF, chk_d, chk_t, chk_inb, rfm_s, bnd_e, cal_e, calR_e, w0, zt, k1', k14, r14, r1, p1, so]
theorem c_to {ad : Nat → Nat} {T : Ty} {M : Mm} {R : Rm} {s : Sx} {n : Nat} {h : Nat → Sx} (w : WQ ad T M R s n h) {Y nb ns : Nat} (g : GS (1000000 * nb + 300000 * Y) Y nb ns s) (hY5 : Y ≤ 500) {v : Nat} (h0 : 0 < nb) (v2 : v ≤ 2) : ∃ M', fn_X6_yearsTo T R (ad 0) (nI v) M = some (yt v s Y nb ns 300 0, M') ∧ WQ ad T M' R s n h := by
  have w1 := w
  obtain ⟨tx, β, σ, hi, G, hs, ct⟩ := w
  have b4 := CG_bs G (show 4 < 5 by omega)
  have tg := CG_tg G (.inr b4)
  have tg0 := tg
  have hM := M_TV hi M (β 4)
  have rt := hs.2.2.1
  have rt0 := rt
  have I := g.1.1
  have hY8 := g.2.2.2.2.1
  have hnb := g.2.2.2.2.2.1
  have hns := g.2.2.2.2.2.2.1
  have n7 := g.2.2.2.2.2.2.2.1
  have n8 := g.2.2.2.2.2.2.2.2.1
  have n9 := g.2.2.2.2.2.2.2.2.2
  have h7 := g.2.1
  have h8 := g.2.2.1
  have h9 := g.2.2.2.1
  have hK : 1000000 * nb + 300000 * Y < 2 ^ 30 := by omega
  have z0 := G.2.2.2.2.1
  have w0 := G.1
  obtain ⟨t1, t04, t05, t06, t40, t41, t42, t43, tl, tb, ts⟩ := rt
  rw [h8] at t04
  rw [h9] at t05
  rw [h7] at t06
  obtain ⟨hq, k0, r00, r01, r02, r03, k1, n1, k2, n2, k3, n3, k4, rb, kb, rl, lg, rs, ks, sl, si⟩ := tg
  have hx' : (nI 0 ≤ nI v ∧ nI v ≤ nI 2) = True := in_t (by omega) v2 (by omega)
  have h0' : ¬ nb = 0 := by omega
  have zt : R (ad 0) 0 = some (qq ad 1 0) := G.2.1
  have tg1 := CG_tg G (.inl rfl)
  have k1' : isK T (qq ad 1 0) 5 = true := tg1.2.1
  obtain ⟨c, la, u1, u2⟩ := copy_q hi G hs g
  obtain ⟨c2, lb, u3⟩ := x6_yearsTo_loop tg1 w0 zt M g hY5 (by omega) (w := v) (by omega) 300 0 c la FU (by omega) u2 (FU_gt (by omega))
  have e01 : (nI (0 + 1) : Int32) = nI 1 := rfl
  rw [e01] at u3
  refine ⟨TV (qq ad 1) M c2 lb, ?_, WQ_trial w1 c2 lb⟩
  unfold fn_X6_yearsTo
  simp (disch := omega) only [↓cal_w6, ↓lm1, l0, l1, l2, l3, l4, l5, l6, l7, l8, l9, l10, l11, l12, l13, l14, l31, l32, l44, l48, l50, l57, l59, l60, l74, l100, l110, l126, l300, l330, l500, l501, l801, l1000, l5000, l5010, l8010, l8192, l9000, l10000, l1000000, and_self, and_true, true_and, and_false, false_and, nI_add, pk_mul, nI_clamp, ↓reduceIte, eF, lT, lF, leT, leF, chk_d, chk_t, chk_inb, rfm_s, bnd_e, cal_e, calR_e, hx', ↓chk_q w0, ↓rfm_q z0, ↓chk_q k0, w0, z0, k0, r00, r01, r02, r03, k1, n1, k2, n2, k3, n3, k4, rb, kb, rl, rs, ks, gCC, t04, h0', zt, k1', ↓cal_q u1, u3]
theorem c_toS {ad : Nat → Nat} {T : Ty} {M : Mm} {R : Rm} {s : Sx} {n : Nat} {h : Nat → Sx} (w : WQ ad T M R s n h) {Y nb ns : Nat} (g : GS (1000000 * nb + 300000 * Y) Y nb ns s) (hY5 : Y ≤ 500) {v : Nat} (h0 : nb = 0) (v2 : v ≤ 2) : fn_X6_yearsTo T R (ad 0) (nI v) M = some (-2000000002, M) := by
  obtain ⟨tx, β, σ, hi, G, hs, ct⟩ := w
  have b4 := CG_bs G (show 4 < 5 by omega)
  have tg := CG_tg G (.inr b4)
  have tg0 := tg
  have hM := M_TV hi M (β 4)
  have rt := hs.2.2.1
  have rt0 := rt
  have I := g.1.1
  have hY8 := g.2.2.2.2.1
  have hnb := g.2.2.2.2.2.1
  have hns := g.2.2.2.2.2.2.1
  have n7 := g.2.2.2.2.2.2.2.1
  have n8 := g.2.2.2.2.2.2.2.2.1
  have n9 := g.2.2.2.2.2.2.2.2.2
  have h7 := g.2.1
  have h8 := g.2.2.1
  have h9 := g.2.2.2.1
  have hK : 1000000 * nb + 300000 * Y < 2 ^ 30 := by omega
  have z0 := G.2.2.2.2.1
  have w0 := G.1
  obtain ⟨t1, t04, t05, t06, t40, t41, t42, t43, tl, tb, ts⟩ := rt
  rw [h8] at t04
  rw [h9] at t05
  rw [h7] at t06
  obtain ⟨hq, k0, r00, r01, r02, r03, k1, n1, k2, n2, k3, n3, k4, rb, kb, rl, lg, rs, ks, sl, si⟩ := tg
  subst h0
  have hx' : (nI 0 ≤ nI v ∧ nI v ≤ nI 2) = True := in_t (by omega) v2 (by omega)
  unfold fn_X6_yearsTo
  simp (disch := omega) only [↓cal_w6, ↓lm1, l0, l1, l2, l3, l4, l5, l6, l7, l8, l9, l10, l11, l12, l13, l14, l31, l32, l44, l48, l50, l57, l59, l60, l74, l100, l110, l126, l300, l330, l500, l501, l801, l1000, l5000, l5010, l8010, l8192, l9000, l10000, l1000000, and_self, and_true, true_and, and_false, false_and, nI_add, pk_mul, nI_clamp, ↓reduceIte, eF, lT, lF, leT, leF, chk_d, chk_t, chk_inb, rfm_s, bnd_e, cal_e, calR_e, hx', ↓chk_q w0, ↓rfm_q z0, ↓chk_q k0, w0, z0, k0, r00, r01, r02, r03, k1, n1, k2, n2, k3, n3, k4, rb, kb, rl, rs, ks, gCC, t04]
theorem c_toN {ad : Nat → Nat} {T : Ty} {M : Mm} {R : Rm} : fn_X6_yearsTo T R (ad 0) (nI 3) M = some (-2000000001, M) := by
  have hx' : (nI 0 ≤ nI 3 ∧ nI 3 ≤ nI 2) = False := in_f (by omega) (by omega) (.inr (Int32.le_refl _))
  unfold fn_X6_yearsTo
  simp (disch := omega) only [↓cal_w6, ↓lm1, l0, l1, l2, l3, l4, l5, l6, l7, l8, l9, l10, l11, l12, l13, l14, l31, l32, l44, l48, l50, l57, l59, l60, l74, l100, l110, l126, l300, l330, l500, l501, l801, l1000, l5000, l5010, l8010, l8192, l9000, l10000, l1000000, and_self, and_true, true_and, and_false, false_and, nI_add, pk_mul, nI_clamp, ↓reduceIte, eF, lT, lF, leT, leF, chk_d, chk_t, chk_inb, rfm_s, bnd_e, cal_e, calR_e, hx']
theorem lg_lt' (a b : Int64) : (lg_cmp a b < nI 0) = (a < b) := propext (lg_cmp_lt a b)
theorem nIm1 (k : Nat) : nI k - nI 1 = nI k + nONE := by
  cases k with
  | zero => decide
  | succ k =>
    rw [nI_m1, nIs (by omega)]
    rfl
theorem mlX_mono (m : Nat → Int32) {x y b : Nat} (h : x ≤ y) : mlX m x b ≤ mlX m y b := by
  unfold mlX mlN
  omega
theorem bal_anti (m : Nat → Int32) {x y : Nat} (h : x ≤ y) : ∀ n, bal m y n ≤ bal m x n := by
  intro n
  induction n with
  | zero => exact Int.le_refl _
  | succ n ih =>
    have h1 : bal m y (n + 1) = bal m y n + ((snS m n : Int) - (mlX m y n : Int)) := rfl
    have h2 : bal m x (n + 1) = bal m x n + ((snS m n : Int) - (mlX m x n : Int)) := rfl
    have h3 := mlX_mono m (b := n) h
    omega
theorem snS_2 (m : Nat → Int32) (v : Int32) (b : Nat) : snS (upd m 2 v) b = snS m b := by
  unfold snS
  rw [pk_un (show 0 ≠ 2 by omega), pk_un (show 1 ≠ 2 by omega), pk_un (show 4 ≠ 2 by omega), pk_un (show 14 + 6 * b ≠ 2 by omega)]
theorem mlS_2 (m : Nat → Int32) {x : Nat} (hx : x ≤ 9000) (b : Nat) : mlS (upd m 2 (nI x)) b = mlX m x b := by
  unfold mlS mlX
  rw [pk_us, nt_nI (by omega), pk_un (show 3 ≠ 2 by omega), pk_un (show 4 ≠ 2 by omega), pk_un (show 14 + 6 * b ≠ 2 by omega)]
def pw : Nat → Nat
  | 0 => 1
  | i + 1 => 2 * pw i
theorem pw_s (i : Nat) : pw (i + 1) = 2 * pw i := rfl
theorem pw_pos : ∀ i, 0 < pw i := by
  intro i
  induction i with
  | zero => exact Nat.one_pos
  | succ i ih =>
    rw [pw_s]
    omega
theorem x6_steady_step {ad : Nat → Nat} {T : Ty} {R : Rm} {M : Mm} {b : Nat} (w0 : isK T (ad 0) 6 = true) (z0 : R (ad 0) 3 = some b) (k0 : isK T b 5 = true) {p : Nat → Bool} (ow : ∀ x, x ≤ 9000 → fn_X5_snowOutweighsMelt T R b (nI x) M = some (bI (p x), M)) {t melt : Nat} (ht : 0 < t) (ht2 : t ≤ 8192) (hm : melt ≤ 9000) (n' : Nat) : fb_X6_steadyMelt_41 T R (ad 0) (n' + 1) (nI melt) (nI t) M = fb_X6_steadyMelt_41 T R (ad 0) n' (nI (if melt + t ≤ 9000 ∧ p (melt + t) = true then melt + t else melt)) (nI (t / 2)) M := by
  have e9 : fMost 2 = nI 9000 := rfl
  have ed := nI_d (a := t) (b := 2) (by omega) (by omega) (by omega)
  by_cases h1 : melt + t ≤ 9000
  · have o := ow (melt + t) h1
    cases hp : p (melt + t) with
    | true =>
      rw [hp, bIt] at o
      have ei : (if melt + t ≤ 9000 ∧ true = true then melt + t else melt) = melt + t := if_pos ⟨h1, rfl⟩
      rw [ei, fbs_X6_steadyMelt_41]
      unfold fs_X6_steadyMelt_41 fs_X6_steadyMelt_73
      simp (disch := omega) only [↓cal_w6, ↓lm1, l0, l1, l2, l3, l4, l5, l6, l7, l8, l9, l10, l11, l12, l13, l14, l31, l32, l44, l48, l50, l57, l59, l60, l74, l100, l110, l126, l300, l330, l500, l501, l801, l1000, l5000, l5010, l8010, l8192, l9000, l10000, l1000000, and_self, and_true, true_and, and_false, false_and, nI_add, pk_mul, nI_clamp, ↓reduceIte, eF, lT, lF, leT, leF, chk_d, chk_t, chk_inb, rfm_s, bnd_e, cal_e, calR_e, w0, z0, k0, e9, ed, o]
    | false =>
      rw [hp, bIf] at o
      have ei : (if melt + t ≤ 9000 ∧ false = true then melt + t else melt) = melt := if_neg (fun h => by cases h.2)
      rw [ei, fbs_X6_steadyMelt_41]
      unfold fs_X6_steadyMelt_41 fs_X6_steadyMelt_73
      simp (disch := omega) only [↓cal_w6, ↓lm1, l0, l1, l2, l3, l4, l5, l6, l7, l8, l9, l10, l11, l12, l13, l14, l31, l32, l44, l48, l50, l57, l59, l60, l74, l100, l110, l126, l300, l330, l500, l501, l801, l1000, l5000, l5010, l8010, l8192, l9000, l10000, l1000000, and_self, and_true, true_and, and_false, false_and, nI_add, pk_mul, nI_clamp, ↓reduceIte, eF, lT, lF, leT, leF, chk_d, chk_t, chk_inb, rfm_s, bnd_e, cal_e, calR_e, w0, z0, k0, e9, ed, o]
  · have ei : (if melt + t ≤ 9000 ∧ p (melt + t) = true then melt + t else melt) = melt := if_neg (fun h => h1 h.1)
    rw [ei, fbs_X6_steadyMelt_41]
    unfold fs_X6_steadyMelt_41 fs_X6_steadyMelt_73
    simp (disch := omega) only [↓cal_w6, ↓lm1, l0, l1, l2, l3, l4, l5, l6, l7, l8, l9, l10, l11, l12, l13, l14, l31, l32, l44, l48, l50, l57, l59, l60, l74, l100, l110, l126, l300, l330, l500, l501, l801, l1000, l5000, l5010, l8010, l8192, l9000, l10000, l1000000, and_self, and_true, true_and, and_false, false_and, nI_add, pk_mul, nI_clamp, ↓reduceIte, eF, lT, lF, leT, leF, chk_d, chk_t, chk_inb, rfm_s, bnd_e, cal_e, calR_e, w0, z0, k0, e9, ed]
theorem x6_steady_end {ad : Nat → Nat} {T : Ty} {R : Rm} (M : Mm) (melt n' : Nat) : fb_X6_steadyMelt_41 T R (ad 0) (n' + 1) (nI melt) (nI 0) M = some (nI melt, M) := by
  rw [fbs_X6_steadyMelt_41]
  unfold fs_X6_steadyMelt_41
  simp (disch := omega) only [↓cal_w6, ↓lm1, l0, l1, l2, l3, l4, l5, l6, l7, l8, l9, l10, l11, l12, l13, l14, l31, l32, l44, l48, l50, l57, l59, l60, l74, l100, l110, l126, l300, l330, l500, l501, l801, l1000, l5000, l5010, l8010, l8192, l9000, l10000, l1000000, and_self, and_true, true_and, and_false, false_and, nI_add, pk_mul, nI_clamp, ↓reduceIte, eF, lT, lF, leT, leF, chk_d, chk_t, chk_inb, rfm_s, bnd_e, cal_e, calR_e]
theorem x6_steady_loop {ad : Nat → Nat} {T : Ty} {R : Rm} {M : Mm} {b : Nat} (w0 : isK T (ad 0) 6 = true) (z0 : R (ad 0) 3 = some b) (k0 : isK T b 5 = true) {p : Nat → Bool} (ow : ∀ x, x ≤ 9000 → fn_X5_snowOutweighsMelt T R b (nI x) M = some (bI (p x), M)) (anti : ∀ x y, x ≤ y → p y = true → p x = true) : ∀ i melt fuel, pw i ≤ 8192 → melt ≤ 9000 → p melt = true → (∀ x, x ≤ 9000 → p x = true → x < melt + 2 * pw i) → i + 1 < fuel → ∃ r, r ≤ 9000 ∧ p r = true ∧ (∀ x, x ≤ 9000 → p x = true → x ≤ r) ∧ fb_X6_steadyMelt_41 T R (ad 0) fuel (nI melt) (nI (pw i)) M = some (nI r, M) := by
  intro i
  induction i with
  | zero =>
    intro melt fuel h1 h2 h3 h4 hf
    obtain ⟨n', rfl⟩ : ∃ n', fuel = n' + 1 + 1 := ⟨fuel - 2, by omega⟩
    have e1 : pw 0 = 1 := rfl
    rw [e1] at h4
    rw [e1, x6_steady_step w0 z0 k0 ow (by omega) (by omega) h2]
    have e2 : (1 : Nat) / 2 = 0 := rfl
    rw [e2, x6_steady_end]
    by_cases hc : melt + 1 ≤ 9000 ∧ p (melt + 1) = true
    · rw [if_pos hc]
      refine ⟨melt + 1, hc.1, hc.2, fun x hx hp => ?_, rfl⟩
      have := h4 x hx hp
      omega
    · rw [if_neg hc]
      refine ⟨melt, h2, h3, fun x hx hp => ?_, rfl⟩
      have := h4 x hx hp
      refine Nat.le_of_not_lt (fun h => hc ⟨by omega, anti _ x (by omega) hp⟩)
  | succ i ih =>
    intro melt fuel h1 h2 h3 h4 hf
    obtain ⟨n', rfl⟩ : ∃ n', fuel = n' + 1 := ⟨fuel - 1, by omega⟩
    have e1 := pw_s i
    have e2 := pw_pos i
    have e3 : pw (i + 1) / 2 = pw i := by omega
    rw [x6_steady_step w0 z0 k0 ow (by omega) h1 h2, e3]
    by_cases hc : melt + pw (i + 1) ≤ 9000 ∧ p (melt + pw (i + 1)) = true
    · rw [if_pos hc]
      refine ih _ n' (by omega) hc.1 hc.2 (fun x hx hp => ?_) (by omega)
      have := h4 x hx hp
      omega
    · rw [if_neg hc]
      refine ih _ n' (by omega) h2 h3 (fun x hx hp => ?_) (by omega)
      refine Nat.lt_of_not_le (fun h => hc ⟨by omega, anti _ x (by omega) hp⟩)
theorem c_steadyS {ad : Nat → Nat} {T : Ty} {M : Mm} {R : Rm} {s : Sx} {n : Nat} {h : Nat → Sx} (w : WQ ad T M R s n h) {Y nb ns : Nat} (g : GS (1000000 * nb + 300000 * Y) Y nb ns s) (hY5 : Y ≤ 500) (h0 : nb = 0) : fn_X6_steadyMelt T R (ad 0) M = some (-2000000002, M) := by
  obtain ⟨tx, β, σ, hi, G, hs, ct⟩ := w
  have b4 := CG_bs G (show 4 < 5 by omega)
  have tg := CG_tg G (.inr b4)
  have tg0 := tg
  have hM := M_TV hi M (β 4)
  have rt := hs.2.2.1
  have rt0 := rt
  have I := g.1.1
  have hY8 := g.2.2.2.2.1
  have hnb := g.2.2.2.2.2.1
  have hns := g.2.2.2.2.2.2.1
  have n7 := g.2.2.2.2.2.2.2.1
  have n8 := g.2.2.2.2.2.2.2.2.1
  have n9 := g.2.2.2.2.2.2.2.2.2
  have h7 := g.2.1
  have h8 := g.2.2.1
  have h9 := g.2.2.2.1
  have hK : 1000000 * nb + 300000 * Y < 2 ^ 30 := by omega
  have z0 := G.2.2.2.2.1
  have w0 := G.1
  obtain ⟨t1, t04, t05, t06, t40, t41, t42, t43, tl, tb, ts⟩ := rt
  rw [h8] at t04
  rw [h9] at t05
  rw [h7] at t06
  obtain ⟨hq, k0, r00, r01, r02, r03, k1, n1, k2, n2, k3, n3, k4, rb, kb, rl, lg, rs, ks, sl, si⟩ := tg
  subst h0
  unfold fn_X6_steadyMelt
  simp (disch := omega) only [↓cal_w6, ↓lm1, l0, l1, l2, l3, l4, l5, l6, l7, l8, l9, l10, l11, l12, l13, l14, l31, l32, l44, l48, l50, l57, l59, l60, l74, l100, l110, l126, l300, l330, l500, l501, l801, l1000, l5000, l5010, l8010, l8192, l9000, l10000, l1000000, and_self, and_true, true_and, and_false, false_and, nI_add, pk_mul, nI_clamp, ↓reduceIte, eF, lT, lF, leT, leF, chk_d, chk_t, chk_inb, rfm_s, bnd_e, cal_e, calR_e, ↓chk_q w0, ↓rfm_q z0, ↓chk_q k0, w0, z0, k0, r00, r01, r02, r03, k1, n1, k2, n2, k3, n3, k4, rb, kb, rl, rs, ks, gCC, t04]
theorem c_steady {ad : Nat → Nat} {T : Ty} {M : Mm} {R : Rm} {s : Sx} {n : Nat} {h : Nat → Sx} (w : WQ ad T M R s n h) {Y nb ns : Nat} (g : GS (1000000 * nb + 300000 * Y) Y nb ns s) (hY5 : Y ≤ 500) (h0 : 0 < nb) : (bal s.1 0 nb < 0 ∧ fn_X6_steadyMelt T R (ad 0) M = some (-2000000004, M)) ∨ ∃ r, r ≤ 9000 ∧ 0 ≤ bal s.1 r nb ∧ (∀ x, x ≤ 9000 → 0 ≤ bal s.1 x nb → x ≤ r) ∧ fn_X6_steadyMelt T R (ad 0) M = some (nI r, M) := by
  obtain ⟨tx, β, σ, hi, G, hs, ct⟩ := w
  have b4 := CG_bs G (show 4 < 5 by omega)
  have tg := CG_tg G (.inr b4)
  have tg0 := tg
  have hM := M_TV hi M (β 4)
  have rt := hs.2.2.1
  have rt0 := rt
  have I := g.1.1
  have hY8 := g.2.2.2.2.1
  have hnb := g.2.2.2.2.2.1
  have hns := g.2.2.2.2.2.2.1
  have n7 := g.2.2.2.2.2.2.2.1
  have n8 := g.2.2.2.2.2.2.2.2.1
  have n9 := g.2.2.2.2.2.2.2.2.2
  have h7 := g.2.1
  have h8 := g.2.2.1
  have h9 := g.2.2.2.1
  have hK : 1000000 * nb + 300000 * Y < 2 ^ 30 := by omega
  have z0 := G.2.2.2.2.1
  have w0 := G.1
  obtain ⟨t1, t04, t05, t06, t40, t41, t42, t43, tl, tb, ts⟩ := rt
  rw [h8] at t04
  rw [h9] at t05
  rw [h7] at t06
  obtain ⟨hq, k0, r00, r01, r02, r03, k1, n1, k2, n2, k3, n3, k4, rb, kb, rl, lg, rs, ks, sl, si⟩ := tg
  have f2 : fLeast 2 = nI 0 := rfl
  have h0' : ¬ nb = 0 := by omega
  have ow : ∀ x, x ≤ 9000 → fn_X5_snowOutweighsMelt T R (qq ad (β 4) 0) (nI x) M = some (bI (decide (0 ≤ bal s.1 x nb)), M) := fun x hx => by
    have o := x5_outweighs tg0 M g rt0 hx
    rw [hM] at o
    exact o
  have anti : ∀ x y, x ≤ y → decide (0 ≤ bal s.1 y nb) = true → decide (0 ≤ bal s.1 x nb) = true := fun x y hxy hp => by
    have h1 := of_decide_eq_true hp
    have h2 := bal_anti s.1 hxy nb
    exact decide_eq_true (by omega)
  cases hp0 : decide (0 ≤ bal s.1 0 nb) with
  | false =>
    have o := ow 0 (by omega)
    rw [hp0, bIf] at o
    refine .inl ⟨Int.not_le.mp (of_decide_eq_false hp0), ?_⟩
    unfold fn_X6_steadyMelt
    simp (disch := omega) only [↓cal_w6, ↓lm1, l0, l1, l2, l3, l4, l5, l6, l7, l8, l9, l10, l11, l12, l13, l14, l31, l32, l44, l48, l50, l57, l59, l60, l74, l100, l110, l126, l300, l330, l500, l501, l801, l1000, l5000, l5010, l8010, l8192, l9000, l10000, l1000000, and_self, and_true, true_and, and_false, false_and, nI_add, pk_mul, nI_clamp, ↓reduceIte, eF, lT, lF, leT, leF, chk_d, chk_t, chk_inb, rfm_s, bnd_e, cal_e, calR_e, ↓chk_q w0, ↓rfm_q z0, ↓chk_q k0, w0, z0, k0, r00, r01, r02, r03, k1, n1, k2, n2, k3, n3, k4, rb, kb, rl, rs, ks, gCC, t04, h0', f2, o]
  | true =>
    have o := ow 0 (by omega)
    rw [hp0, bIt] at o
    obtain ⟨r, r1, r2, r3, r4⟩ := x6_steady_loop w0 z0 k0 ow anti 13 0 FU (by decide) (by omega) hp0 (fun x hx _ => by
      have e : pw 13 = 8192 := rfl
      omega) (FU_gt (by omega))
    have e13 : pw 13 = 8192 := rfl
    rw [e13] at r4
    refine .inr ⟨r, r1, of_decide_eq_true r2, fun x hx hp => r3 x hx (decide_eq_true hp), ?_⟩
    unfold fn_X6_steadyMelt
    simp (disch := omega) only [↓cal_w6, ↓lm1, l0, l1, l2, l3, l4, l5, l6, l7, l8, l9, l10, l11, l12, l13, l14, l31, l32, l44, l48, l50, l57, l59, l60, l74, l100, l110, l126, l300, l330, l500, l501, l801, l1000, l5000, l5010, l8010, l8192, l9000, l10000, l1000000, and_self, and_true, true_and, and_false, false_and, nI_add, pk_mul, nI_clamp, ↓reduceIte, eF, lT, lF, leT, leF, chk_d, chk_t, chk_inb, rfm_s, bnd_e, cal_e, calR_e, l8192, ↓chk_q w0, ↓rfm_q z0, ↓chk_q k0, w0, z0, k0, r00, r01, r02, r03, k1, n1, k2, n2, k3, n3, k4, rb, kb, rl, rs, ks, gCC, t04, h0', f2, o, r4]
theorem c_typeN {ad : Nat → Nat} {T : Ty} {M : Mm} {R : Rm} : fn_X6_type T R (ad 0) (nI 31) M = some (-2000000001, M) := by
  have hx' : (nI 32 ≤ nI 31 ∧ nI 31 ≤ nI 126) = False := in_lo (by omega) (by omega)
  unfold fn_X6_type
  simp (disch := omega) only [↓cal_w6, ↓lm1, l0, l1, l2, l3, l4, l5, l6, l7, l8, l9, l10, l11, l12, l13, l14, l31, l32, l44, l48, l50, l57, l59, l60, l74, l100, l110, l126, l300, l330, l500, l501, l801, l1000, l5000, l5010, l8010, l8192, l9000, l10000, l1000000, and_self, and_true, true_and, and_false, false_and, nI_add, pk_mul, nI_clamp, ↓reduceIte, eF, lT, lF, leT, leF, chk_d, chk_t, chk_inb, rfm_s, bnd_e, cal_e, calR_e, hx']
theorem c_faultN {ad : Nat → Nat} {T : Ty} {M : Mm} {R : Rm} : fn_X6_fault T R (ad 0) (nI 2) M = some (-2000000001, M) := by
  have hx' : (nI 0 ≤ nI 2 ∧ nI 2 ≤ nI 1) = False := in_f (by omega) (by omega) (.inr (Int32.le_refl _))
  unfold fn_X6_fault
  simp (disch := omega) only [↓cal_w6, ↓lm1, l0, l1, l2, l3, l4, l5, l6, l7, l8, l9, l10, l11, l12, l13, l14, l31, l32, l44, l48, l50, l57, l59, l60, l74, l100, l110, l126, l300, l330, l500, l501, l801, l1000, l5000, l5010, l8010, l8192, l9000, l10000, l1000000, and_self, and_true, true_and, and_false, false_and, nI_add, pk_mul, nI_clamp, ↓reduceIte, eF, lT, lF, leT, leF, chk_d, chk_t, chk_inb, rfm_s, bnd_e, cal_e, calR_e, hx']
theorem c_fault0 {ad : Nat → Nat} {T : Ty} {M : Mm} {R : Rm} {s : Sx} {n : Nat} {h : Nat → Sx} (w : WQ ad T M R s n h) : fn_X6_fault T R (ad 0) (nI 0) M = some (-2000000004, M) := by
  obtain ⟨tx, β, σ, hi, G, hs, ct⟩ := w
  have w0 := G.1
  have gw := G.2.2.2.1
  have gk := G.2.2.2.2.2.2.2.2.2.2.2.1
  have gt1 := ct.1
  have a3 : (nI 0 ≤ nI 0 ∧ nI 0 ≤ nI 1) = True := in_t (by omega) (by omega) (by omega)
  have py : fn_X6_possibleYears T R (ad 0) M = some (nI 0, M) := by
    have key : ∀ fuel, 0 < fuel → fb_X6_possibleYears_4 T R (ad 0) fuel (nI 0) (nI 0) M = some (nI 0, M) := by
      intro fuel hf
      obtain ⟨n', rfl⟩ : ∃ n', fuel = n' + 1 := ⟨fuel - 1, by omega⟩
      rw [fbs_X6_possibleYears_4]
      unfold fs_X6_possibleYears_4
      simp (disch := omega) only [↓cal_w6, ↓lm1, l0, l1, l2, l3, l4, l5, l6, l7, l8, l9, l10, l11, l12, l13, l14, l31, l32, l44, l48, l50, l57, l59, l60, l74, l100, l110, l126, l300, l330, l500, l501, l801, l1000, l5000, l5010, l8010, l8192, l9000, l10000, l1000000, and_self, and_true, true_and, and_false, false_and, nI_add, pk_mul, nI_clamp, ↓reduceIte, eF, lT, lF, leT, leF, chk_d, chk_t, chk_inb, rfm_s, bnd_e, cal_e, calR_e, w0, gw, gk, gt1]
    unfold fn_X6_possibleYears
    simp only [l0]
    exact key FU (by decide)
  have sy : fn_X4_startOfYear T R (ad 207) (nI 0) M = some (nI 0, M) := by
    have key : ∀ fuel, 0 < fuel → fb_X4_startOfYear_4 T R (ad 207) (nI 0) fuel (nI 0) (nI 0) M = some (nI 0, M) := by
      intro fuel hf
      obtain ⟨n', rfl⟩ : ∃ n', fuel = n' + 1 := ⟨fuel - 1, by omega⟩
      rw [fbs_X4_startOfYear_4]
      unfold fs_X4_startOfYear_4
      simp (disch := omega) only [↓cal_w6, ↓lm1, l0, l1, l2, l3, l4, l5, l6, l7, l8, l9, l10, l11, l12, l13, l14, l31, l32, l44, l48, l50, l57, l59, l60, l74, l100, l110, l126, l300, l330, l500, l501, l801, l1000, l5000, l5010, l8010, l8192, l9000, l10000, l1000000, and_self, and_true, true_and, and_false, false_and, nI_add, pk_mul, nI_clamp, ↓reduceIte, eF, lT, lF, leT, leF, chk_d, chk_t, chk_inb, rfm_s, bnd_e, cal_e, calR_e]
    unfold fn_X4_startOfYear
    simp only [l0]
    exact key FU (by decide)
  unfold fn_X6_fault
  simp (disch := omega) only [↓cal_w6, ↓lm1, l0, l1, l2, l3, l4, l5, l6, l7, l8, l9, l10, l11, l12, l13, l14, l31, l32, l44, l48, l50, l57, l59, l60, l74, l100, l110, l126, l300, l330, l500, l501, l801, l1000, l5000, l5010, l8010, l8192, l9000, l10000, l1000000, and_self, and_true, true_and, and_false, false_and, nI_add, pk_mul, nI_clamp, ↓reduceIte, eF, lT, lF, leT, leF, chk_d, chk_t, chk_inb, rfm_s, bnd_e, cal_e, calR_e, x6_isWithin, a3, w0, gw, gk, py, sy, gt1]
