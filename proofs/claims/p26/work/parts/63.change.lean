/-! a band more, a stake more, a stake less, back -/
theorem x5_isBelowAll {T : Ty} {R : Rm} {q σ : Nat → Nat} (G : TG T R q σ) (M : Mm) {c : Nat → Nat → Int32} {l : Nat → Int64} {nb : Nat} (h4 : c 0 4 = nI nb) (hnb : nb ≤ 10) (x : Int32) (p : Bool) (hp : p = decide (nb = 0 ∨ x < c (5 + 3 * (nb - 1)) 1)) : fn_X5_isBelowAll T R (q 0) x (TV q M c l) = some (bI p, TV q M c l) := by
  obtain ⟨hq, k0, r00, r01, r02, r03, k1, n1, k2, n2, k3, n3, k4, rb, kb, rl, lg, rs, ks, sl, si⟩ := G
  unfold fn_X5_isBelowAll
  by_cases h0 : nb = 0
  · subst h0
    have ep : p = true := by rw [hp]; exact decide_eq_true (.inl rfl)
    rw [ep]
    simp (disch := omega) only [↓cal_w6, ↓lm1, l0, l1, l2, l3, l4, l5, l6, l7, l8, l9, l10, l11, l12, l13, l14, l31, l32, l44, l48, l50, l57, l59, l60, l74, l100, l110, l126, l300, l330, l500, l501, l801, l1000, l5000, l5010, l8010, l8192, l9000, l10000, l1000000, and_self, and_true, true_and, and_false, false_and, nI_add, pk_mul, nI_clamp, ↓reduceIte, eF, lT, lF, leT, leF, chk_d, chk_t, chk_inb, rfm_s, bnd_e, cal_e, calR_e, k0, r00, r01, r02, r03, k1, n1, k2, n2, k3, n3, k4, rb, kb, rl, rs, ks, TV_g hq, h4, bI, cond_true]
  · by_cases h1 : x < c (5 + 3 * (nb - 1)) 1
    · have ep : p = true := by rw [hp]; exact decide_eq_true (.inr h1)
      have h2 : (c (5 + 3 * (nb - 1)) 1 ≤ x) = False := eq_false (Int32.not_le.mpr h1)
      rw [ep]
      simp (disch := omega) only [↓cal_w6, ↓lm1, l0, l1, l2, l3, l4, l5, l6, l7, l8, l9, l10, l11, l12, l13, l14, l31, l32, l44, l48, l50, l57, l59, l60, l74, l100, l110, l126, l300, l330, l500, l501, l801, l1000, l5000, l5010, l8010, l8192, l9000, l10000, l1000000, and_self, and_true, true_and, and_false, false_and, nI_add, pk_mul, nI_clamp, ↓reduceIte, eF, lT, lF, leT, leF, chk_d, chk_t, chk_inb, rfm_s, bnd_e, cal_e, calR_e, k0, r00, r01, r02, r03, k1, n1, k2, n2, k3, n3, k4, rb, kb, rl, rs, ks, TV_g hq, h4, nIs, h2, bI, cond_true]
    · have ep : p = false := by rw [hp]; exact decide_eq_false (fun hh => hh.elim h0 h1)
      have h2 : (c (5 + 3 * (nb - 1)) 1 ≤ x) = True := eq_true (Int32.not_lt.mp h1)
      rw [ep]
      simp (disch := omega) only [↓cal_w6, ↓lm1, l0, l1, l2, l3, l4, l5, l6, l7, l8, l9, l10, l11, l12, l13, l14, l31, l32, l44, l48, l50, l57, l59, l60, l74, l100, l110, l126, l300, l330, l500, l501, l801, l1000, l5000, l5010, l8010, l8192, l9000, l10000, l1000000, and_self, and_true, true_and, and_false, false_and, nI_add, pk_mul, nI_clamp, ↓reduceIte, eF, lT, lF, leT, leF, chk_d, chk_t, chk_inb, rfm_s, bnd_e, cal_e, calR_e, k0, r00, r01, r02, r03, k1, n1, k2, n2, k3, n3, k4, rb, kb, rl, rs, ks, TV_g hq, h4, nIs, h2, bI, cond_false]
theorem c_bandX {ad : Nat → Nat} {T : Ty} {M : Mm} {R : Rm} {x y z u : Int32} (hx : ¬ ((nI 0 ≤ x ∧ x ≤ nI 5000) ∧ (nI 100 ≤ y ∧ y ≤ nI 5000) ∧ (nI 0 ≤ z ∧ z ≤ nI 500) ∧ (nI 0 ≤ u ∧ u ≤ nI 1000000))) : fn_X6_band T (ad 0) x y z u M R = some (-2000000001, M, R) := by
  unfold fn_X6_band
  by_cases h1 : nI 0 ≤ x ∧ x ≤ nI 5000
  rotate_left
  · simp (disch := omega) only [↓cal_w6, ↓lm1, l0, l1, l2, l3, l4, l5, l6, l7, l8, l9, l10, l11, l12, l13, l14, l31, l32, l44, l48, l50, l57, l59, l60, l74, l100, l110, l126, l300, l330, l500, l501, l801, l1000, l5000, l5010, l8010, l8192, l9000, l10000, l1000000, and_self, and_true, true_and, and_false, false_and, nI_add, pk_mul, nI_clamp, ↓reduceIte, eF, lT, lF, leT, leF, chk_d, chk_t, chk_inb, rfm_s, bnd_e, cal_e, calR_e, x6_isWithin, eq_false h1]
  by_cases h2 : nI 100 ≤ y ∧ y ≤ nI 5000
  rotate_left
  · simp (disch := omega) only [↓cal_w6, ↓lm1, l0, l1, l2, l3, l4, l5, l6, l7, l8, l9, l10, l11, l12, l13, l14, l31, l32, l44, l48, l50, l57, l59, l60, l74, l100, l110, l126, l300, l330, l500, l501, l801, l1000, l5000, l5010, l8010, l8192, l9000, l10000, l1000000, and_self, and_true, true_and, and_false, false_and, nI_add, pk_mul, nI_clamp, ↓reduceIte, eF, lT, lF, leT, leF, chk_d, chk_t, chk_inb, rfm_s, bnd_e, cal_e, calR_e, x6_isWithin, eq_true h1, eq_false h2]
  by_cases h3 : nI 0 ≤ z ∧ z ≤ nI 500
  rotate_left
  · simp (disch := omega) only [↓cal_w6, ↓lm1, l0, l1, l2, l3, l4, l5, l6, l7, l8, l9, l10, l11, l12, l13, l14, l31, l32, l44, l48, l50, l57, l59, l60, l74, l100, l110, l126, l300, l330, l500, l501, l801, l1000, l5000, l5010, l8010, l8192, l9000, l10000, l1000000, and_self, and_true, true_and, and_false, false_and, nI_add, pk_mul, nI_clamp, ↓reduceIte, eF, lT, lF, leT, leF, chk_d, chk_t, chk_inb, rfm_s, bnd_e, cal_e, calR_e, x6_isWithin, eq_true h1, eq_true h2, eq_false h3]
  by_cases h4 : nI 0 ≤ u ∧ u ≤ nI 1000000
  rotate_left
  · simp (disch := omega) only [↓cal_w6, ↓lm1, l0, l1, l2, l3, l4, l5, l6, l7, l8, l9, l10, l11, l12, l13, l14, l31, l32, l44, l48, l50, l57, l59, l60, l74, l100, l110, l126, l300, l330, l500, l501, l801, l1000, l5000, l5010, l8010, l8192, l9000, l10000, l1000000, and_self, and_true, true_and, and_false, false_and, nI_add, pk_mul, nI_clamp, ↓reduceIte, eF, lT, lF, leT, leF, chk_d, chk_t, chk_inb, rfm_s, bnd_e, cal_e, calR_e, x6_isWithin, eq_true h1, eq_true h2, eq_true h3, eq_false h4]
  exact absurd ⟨h1, h2, h3, h4⟩ hx
theorem c_band_all {ad : Nat → Nat} {T : Ty} {M : Mm} {R : Rm} {s : Sx} {n : Nat} {h : Nat → Sx} (w : WQ ad T M R s n h) {Y nb ns : Nat} (g : GS (1000000 * nb + 300000 * Y) Y nb ns s) (hY5 : Y ≤ 500) {x y z u : Nat} (hx : x ≤ 5000) (y1 : 100 ≤ y) (y2 : y ≤ 5000) (hz' : z ≤ 500) (hu : u ≤ 1000000) : ((nb = 0 ∨ nI x < s.1 (14 + 6 * (nb - 1) + 0)) → (Zs s → nb < 10 → ∃ M' R', fn_X6_band T (ad 0) (nI x) (nI y) (nI z) (nI u) M R = some (nI nb, M', R') ∧ WQ ad T M' R' (sB (nI x) (nI y) (nI z) u s) (np n) (hp n h s)) ∧ (nb = 10 → fn_X6_band T (ad 0) (nI x) (nI y) (nI z) (nI u) M R = some (-2000000003, M, R))) ∧ (¬ (nb = 0 ∨ nI x < s.1 (14 + 6 * (nb - 1) + 0)) → fn_X6_band T (ad 0) (nI x) (nI y) (nI z) (nI u) M R = some (-2000000002, M, R)) := by
  have w1 := w
  obtain ⟨tx, β, σ, hi, G, hs, ct⟩ := w
  have b4 := CG_bs G (show 4 < 5 by omega)
  have tg := CG_tg G (.inr b4)
  have tg0 := tg
  have hM := M_TV hi M (β 4)
  have rt := hs.2.2.1
  have rt0 := rt
  have I := g.1.1
  have hY8 := g.2.2.2.2.1
  have hnb := g.2.2.2.2.2.1
  have hns := g.2.2.2.2.2.2.1
  have n7 := g.2.2.2.2.2.2.2.1
  have n8 := g.2.2.2.2.2.2.2.2.1
  have n9 := g.2.2.2.2.2.2.2.2.2
  have h7 := g.2.1
  have h8 := g.2.2.1
  have h9 := g.2.2.2.1
  have hK : 1000000 * nb + 300000 * Y < 2 ^ 30 := by omega
  have z0 := G.2.2.2.2.1
  have w0 := G.1
  obtain ⟨t1, t04, t05, t06, t40, t41, t42, t43, tl, tb, ts⟩ := rt
  rw [h8] at t04
  rw [h9] at t05
  rw [h7] at t06
  obtain ⟨hq, k0, r00, r01, r02, r03, k1, n1, k2, n2, k3, n3, k4, rb, kb, rl, lg, rs, ks, sl, si⟩ := tg
  have hx' : (nI 0 ≤ nI x ∧ nI x ≤ nI 5000) = True := in_t (by omega) hx (by omega)
  have hy' : (nI 100 ≤ nI y ∧ nI y ≤ nI 5000) = True := in_t y1 y2 (by omega)
  have hz2 : (nI 0 ≤ nI z ∧ nI z ≤ nI 500) = True := in_t (by omega) hz' (by omega)
  have hu' : (nI 0 ≤ nI u ∧ nI u ≤ nI 1000000) = True := in_t (by omega) hu (by omega)
  have a5 := x5_isBelowAll tg0 M (c := CC ad M (β 4)) (l := CL ad M (β 4)) t04 hnb (nI x) _ rfl
  rw [hM] at a5
  have hlast : 0 < nb → CC ad M (β 4) (5 + 3 * (nb - 1)) 1 = s.1 (14 + 6 * (nb - 1) + 0) := fun h0 => (tb (nb - 1) (by omega)).1 0 (by omega)
  have he : decide (nb = 0 ∨ nI x < CC ad M (β 4) (5 + 3 * (nb - 1)) 1) = decide (nb = 0 ∨ nI x < s.1 (14 + 6 * (nb - 1) + 0)) := by
    by_cases h0 : nb = 0
    · simp [h0]
    · rw [hlast (by omega)]
  rw [he] at a5
  refine ⟨fun hb => ?_, fun hb => ?_⟩
  · rw [decide_eq_true hb] at a5
    have e1 : bI true = nI 1 := rfl
    rw [e1] at a5
    refine ⟨fun hz hn => ?_, fun hn => ?_⟩
    · obtain ⟨M', R', β', σ', p1, hi', G', rt', eM, nx⟩ := step_recQ w1
      have b4' := CG_bs G' (show 4 < 5 by omega)
      have tg' := CG_tg G' (.inr b4')
      have z0' := G'.2.2.2.2.1
      obtain ⟨c', l', v1, v2⟩ := x5_addBand tg' M' g rt' hn (nI x) (nI y) (nI z) hu
      rw [eM] at v1
      have q2 := nx c' l' _ R' σ' G' (fun _ _ => rfl) v2 (OK_B g hY5 hz hn hx y1 y2 hz' hu)
      have k0' := tg'.2.1
      refine ⟨TV (qq ad (β' 4)) M' c' l', R', ?_, q2⟩
      unfold fn_X6_band
      simp (disch := omega) only [↓cal_w6, ↓lm1, l0, l1, l2, l3, l4, l5, l6, l7, l8, l9, l10, l11, l12, l13, l14, l31, l32, l44, l48, l50, l57, l59, l60, l74, l100, l110, l126, l300, l330, l500, l501, l801, l1000, l5000, l5010, l8010, l8192, l9000, l10000, l1000000, and_self, and_true, true_and, and_false, false_and, nI_add, pk_mul, nI_clamp, ↓reduceIte, eF, lT, lF, leT, leF, chk_d, chk_t, chk_inb, rfm_s, bnd_e, cal_e, calR_e, x6_isWithin, hx', hy', hz2, hu', ↓chk_q w0, ↓rfm_q z0, ↓chk_q k0, w0, z0, k0, r00, r01, r02, r03, k1, n1, k2, n2, k3, n3, k4, rb, kb, rl, rs, ks, ↓cal_q a5, a5, gCC, t04, p1, calR_u, z0', k0', v1]
    · unfold fn_X6_band
      simp (disch := omega) only [↓cal_w6, ↓lm1, l0, l1, l2, l3, l4, l5, l6, l7, l8, l9, l10, l11, l12, l13, l14, l31, l32, l44, l48, l50, l57, l59, l60, l74, l100, l110, l126, l300, l330, l500, l501, l801, l1000, l5000, l5010, l8010, l8192, l9000, l10000, l1000000, and_self, and_true, true_and, and_false, false_and, nI_add, pk_mul, nI_clamp, ↓reduceIte, eF, lT, lF, leT, leF, chk_d, chk_t, chk_inb, rfm_s, bnd_e, cal_e, calR_e, x6_isWithin, hx', hy', hz2, hu', ↓chk_q w0, ↓rfm_q z0, ↓chk_q k0, w0, z0, k0, r00, r01, r02, r03, k1, n1, k2, n2, k3, n3, k4, rb, kb, rl, rs, ks, ↓cal_q a5, a5, gCC, t04]
  · rw [decide_eq_false hb] at a5
    have e1 : bI false = nI 0 := rfl
    rw [e1] at a5
    unfold fn_X6_band
    simp (disch := omega) only [↓cal_w6, ↓lm1, l0, l1, l2, l3, l4, l5, l6, l7, l8, l9, l10, l11, l12, l13, l14, l31, l32, l44, l48, l50, l57, l59, l60, l74, l100, l110, l126, l300, l330, l500, l501, l801, l1000, l5000, l5010, l8010, l8192, l9000, l10000, l1000000, and_self, and_true, true_and, and_false, false_and, nI_add, pk_mul, nI_clamp, ↓reduceIte, eF, lT, lF, leT, leF, chk_d, chk_t, chk_inb, rfm_s, bnd_e, cal_e, calR_e, x6_isWithin, hx', hy', hz2, hu', ↓chk_q w0, ↓rfm_q z0, ↓chk_q k0, w0, z0, k0, r00, r01, r02, r03, k1, n1, k2, n2, k3, n3, k4, rb, kb, rl, rs, ks, ↓cal_q a5, a5]
theorem c_stakeN {ad : Nat → Nat} {T : Ty} {M : Mm} {R : Rm} {s : Sx} {n : Nat} {h : Nat → Sx} (w : WQ ad T M R s n h) {Y nb ns : Nat} (g : GS (1000000 * nb + 300000 * Y) Y nb ns s) (hY5 : Y ≤ 500) (y z : Int32) : fn_X6_stake T (ad 0) (nI nb) y z M R = some (-2000000001, M, R) := by
  obtain ⟨tx, β, σ, hi, G, hs, ct⟩ := w
  have b4 := CG_bs G (show 4 < 5 by omega)
  have tg := CG_tg G (.inr b4)
  have tg0 := tg
  have hM := M_TV hi M (β 4)
  have rt := hs.2.2.1
  have rt0 := rt
  have I := g.1.1
  have hY8 := g.2.2.2.2.1
  have hnb := g.2.2.2.2.2.1
  have hns := g.2.2.2.2.2.2.1
  have n7 := g.2.2.2.2.2.2.2.1
  have n8 := g.2.2.2.2.2.2.2.2.1
  have n9 := g.2.2.2.2.2.2.2.2.2
  have h7 := g.2.1
  have h8 := g.2.2.1
  have h9 := g.2.2.2.1
  have hK : 1000000 * nb + 300000 * Y < 2 ^ 30 := by omega
  have z0 := G.2.2.2.2.1
  have w0 := G.1
  obtain ⟨t1, t04, t05, t06, t40, t41, t42, t43, tl, tb, ts⟩ := rt
  rw [h8] at t04
  rw [h9] at t05
  rw [h7] at t06
  obtain ⟨hq, k0, r00, r01, r02, r03, k1, n1, k2, n2, k3, n3, k4, rb, kb, rl, lg, rs, ks, sl, si⟩ := tg
  have a1 := x5_hasBandN tg0 M (l := CL ad M (β 4)) t04 (x := nI nb) (.inr (Int32.le_refl _))
  rw [hM] at a1
  unfold fn_X6_stake
  simp (disch := omega) only [↓cal_w6, ↓lm1, l0, l1, l2, l3, l4, l5, l6, l7, l8, l9, l10, l11, l12, l13, l14, l31, l32, l44, l48, l50, l57, l59, l60, l74, l100, l110, l126, l300, l330, l500, l501, l801, l1000, l5000, l5010, l8010, l8192, l9000, l10000, l1000000, and_self, and_true, true_and, and_false, false_and, nI_add, pk_mul, nI_clamp, ↓reduceIte, eF, lT, lF, leT, leF, chk_d, chk_t, chk_inb, rfm_s, bnd_e, cal_e, calR_e, ↓chk_q w0, ↓rfm_q z0, ↓chk_q k0, w0, z0, k0, r00, r01, r02, r03, k1, n1, k2, n2, k3, n3, k4, rb, kb, rl, rs, ks, ↓cal_q a1, a1]
theorem c_stake_all {ad : Nat → Nat} {T : Ty} {M : Mm} {R : Rm} {s : Sx} {n : Nat} {h : Nat → Sx} (w : WQ ad T M R s n h) {Y nb ns : Nat} (g : GS (1000000 * nb + 300000 * Y) Y nb ns s) (hY5 : Y ≤ 500) {b y z : Nat} (hb : b < nb) (hy : y < nt (s.1 (14 + 6 * b + 1))) (z1 : 1 ≤ z) (z2 : z ≤ 10000) : (sAt s.1 (nI b) (nI y) ns 0 = true → fn_X6_stake T (ad 0) (nI b) (nI y) (nI z) M R = some (-2000000002, M, R)) ∧ (sAt s.1 (nI b) (nI y) ns 0 = false → ns = 6 → fn_X6_stake T (ad 0) (nI b) (nI y) (nI z) M R = some (-2000000003, M, R)) ∧ (sAt s.1 (nI b) (nI y) ns 0 = false → ns < 6 → Zs s → ∃ M' R', fn_X6_stake T (ad 0) (nI b) (nI y) (nI z) M R = some (nI ns, M', R') ∧ WQ ad T M' R' (sS (nI b) (nI y) (nI z) s) (np n) (hp n h s)) := by
  have w1 := w
  obtain ⟨tx, β, σ, hi, G, hs, ct⟩ := w
  have b4 := CG_bs G (show 4 < 5 by omega)
  have tg := CG_tg G (.inr b4)
  have tg0 := tg
  have hM := M_TV hi M (β 4)
  have rt := hs.2.2.1
  have rt0 := rt
  have I := g.1.1
  have hY8 := g.2.2.2.2.1
  have hnb := g.2.2.2.2.2.1
  have hns := g.2.2.2.2.2.2.1
  have n7 := g.2.2.2.2.2.2.2.1
  have n8 := g.2.2.2.2.2.2.2.2.1
  have n9 := g.2.2.2.2.2.2.2.2.2
  have h7 := g.2.1
  have h8 := g.2.2.1
  have h9 := g.2.2.2.1
  have hK : 1000000 * nb + 300000 * Y < 2 ^ 30 := by omega
  have z0 := G.2.2.2.2.1
  have w0 := G.1
  obtain ⟨t1, t04, t05, t06, t40, t41, t42, t43, tl, tb, ts⟩ := rt
  rw [h8] at t04
  rw [h9] at t05
  rw [h7] at t06
  obtain ⟨hq, k0, r00, r01, r02, r03, k1, n1, k2, n2, k3, n3, k4, rb, kb, rl, lg, rs, ks, sl, si⟩ := tg
  have a1 := x5_hasBand tg0 M (l := CL ad M (β 4)) t04 hnb hb
  rw [hM] at a1
  have hb8 : b < nt (s.1 8) := by omega
  have rgl := (I.2.2.2.2.2.2.2.2.2.2.1 b hb8).2.1
  have q1 := (tb b hb8).1 1 (by omega)
  simp only [Nat.reduceAdd] at q1
  have kb' := kb b (by omega)
  obtain ⟨e1', e2', e3'⟩ := rgl
  generalize hlen : nt (s.1 (14 + 6 * b + 1)) = len at e1' e2' e3' hy
  rw [e1'] at q1
  have hy' : (nI 0 ≤ nI y ∧ nI y ≤ nI (len - 1)) = True := in_t (by omega) (by omega) (by omega)
  have hz2 : (nI 1 ≤ nI z ∧ nI z ≤ nI 10000) = True := in_t z1 z2 (by omega)
  have a6 := x5_isStakeAt tg0 M g rt0 (nI b) (nI y)
  rw [hM] at a6
  refine ⟨fun hst => ?_, fun hst hn => ?_, fun hst hn hz => ?_⟩
  · rw [hst] at a6
    have e1 : bI true = nI 1 := rfl
    rw [e1] at a6
    unfold fn_X6_stake
    simp (disch := omega) only [↓cal_w6, ↓lm1, l0, l1, l2, l3, l4, l5, l6, l7, l8, l9, l10, l11, l12, l13, l14, l31, l32, l44, l48, l50, l57, l59, l60, l74, l100, l110, l126, l300, l330, l500, l501, l801, l1000, l5000, l5010, l8010, l8192, l9000, l10000, l1000000, and_self, and_true, true_and, and_false, false_and, nI_add, pk_mul, nI_clamp, ↓reduceIte, eF, lT, lF, leT, leF, chk_d, chk_t, chk_inb, rfm_s, bnd_e, cal_e, calR_e, ↓chk_q w0, ↓rfm_q z0, ↓chk_q k0, w0, z0, k0, r00, r01, r02, r03, k1, n1, k2, n2, k3, n3, k4, rb, kb, rl, rs, ks, ↓cal_q a1, gCC, q1, nIs, hy', hz2, kb', a6]
  · rw [hst] at a6
    have e1 : bI false = nI 0 := rfl
    rw [e1] at a6
    unfold fn_X6_stake
    simp (disch := omega) only [↓cal_w6, ↓lm1, l0, l1, l2, l3, l4, l5, l6, l7, l8, l9, l10, l11, l12, l13, l14, l31, l32, l44, l48, l50, l57, l59, l60, l74, l100, l110, l126, l300, l330, l500, l501, l801, l1000, l5000, l5010, l8010, l8192, l9000, l10000, l1000000, and_self, and_true, true_and, and_false, false_and, nI_add, pk_mul, nI_clamp, ↓reduceIte, eF, lT, lF, leT, leF, chk_d, chk_t, chk_inb, rfm_s, bnd_e, cal_e, calR_e, ↓chk_q w0, ↓rfm_q z0, ↓chk_q k0, w0, z0, k0, r00, r01, r02, r03, k1, n1, k2, n2, k3, n3, k4, rb, kb, rl, rs, ks, ↓cal_q a1, gCC, q1, nIs, hy', hz2, kb', a6, t05]
  · rw [hst] at a6
    have e1 : bI false = nI 0 := rfl
    rw [e1] at a6
    obtain ⟨M', R', β', σ', p1, hi', G', rt', eM, nx⟩ := step_recQ w1
    have b4' := CG_bs G' (show 4 < 5 by omega)
    have tg' := CG_tg G' (.inr b4')
    have z0' := G'.2.2.2.2.1
    obtain ⟨c', v1, v2⟩ := x5_addStake tg' M' (l := CL ad M' (β' 4)) g rt' hn (nI b) (nI y) (nI z)
    rw [eM] at v1
    have u2 := nx c' (CL ad M' (β' 4)) _ R' σ' G' (fun _ _ => rfl) v2 (OK_S g hY5 hz hn hb (nI y) (nI z))
    have k0' := tg'.2.1
    refine ⟨TV (qq ad (β' 4)) M' c' (CL ad M' (β' 4)), R', ?_, u2⟩
    unfold fn_X6_stake
    simp (disch := omega) only [↓cal_w6, ↓lm1, l0, l1, l2, l3, l4, l5, l6, l7, l8, l9, l10, l11, l12, l13, l14, l31, l32, l44, l48, l50, l57, l59, l60, l74, l100, l110, l126, l300, l330, l500, l501, l801, l1000, l5000, l5010, l8010, l8192, l9000, l10000, l1000000, and_self, and_true, true_and, and_false, false_and, nI_add, pk_mul, nI_clamp, ↓reduceIte, eF, lT, lF, leT, leF, chk_d, chk_t, chk_inb, rfm_s, bnd_e, cal_e, calR_e, ↓chk_q w0, ↓rfm_q z0, ↓chk_q k0, w0, z0, k0, r00, r01, r02, r03, k1, n1, k2, n2, k3, n3, k4, rb, kb, rl, rs, ks, ↓cal_q a1, gCC, q1, nIs, hy', hz2, kb', a6, t05, p1, calR_u, z0', k0', v1]
theorem CG_pull {ad : Nat → Nat} (hi : ∀ a b : Nat, (ad a = ad b) = (a = b)) {T : Ty} {R R' : Rm} {β : Nat → Nat} {σ : Nat → Nat → Nat} {σ' : Nat → Nat} (G : CG ad T R β σ) (h : ∀ a, a ≠ qq ad (β 4) 3 → R' a = R a) (t : TG T R' (qq ad (β 4)) σ') : CG ad T R' β (fun B => if B = β 4 then σ' else σ B) := by
  have b4 := CG_bs G (show 4 < 5 by omega)
  have o := fun r (hr : r = 0 ∨ r = 42 ∨ r = 207 ∨ r = 208 ∨ 250 ≤ r) => h (ad r) (qq_out hi (.inr b4) hr (by omega))
  obtain ⟨a1, a2, a3, a4, a5, a6, a7, a8, a9, a10, a11, a12, a13, a14, a15⟩ := G
  refine ⟨a1, by rw [o 0 (by omega)]; exact a2, by rw [o 0 (by omega)]; exact a3, by rw [o 0 (by omega)]; exact a4, by rw [o 0 (by omega)]; exact a5, a6, a7, fun k hk => by rw [o 42 (by omega)]; exact a8 k hk, a9, a10, fun B hB => ?_, a12, by rw [o 207 (by omega)]; exact a13, a14, a15⟩
  show TG T R' (qq ad B) (if B = β 4 then σ' else σ B)
  by_cases e : B = β 4
  · rw [if_pos e, e]
    exact t
  · rw [if_neg e]
    exact TG_R0 (a11 B hB) (fun j hj => h _ (qq_sep hi hB (.inr b4) e hj (by omega)))
theorem c_pull {ad : Nat → Nat} {T : Ty} {M : Mm} {R : Rm} {s : Sx} {n : Nat} {h : Nat → Sx} (w : WQ ad T M R s n h) {Y nb ns : Nat} (g : GS (1000000 * nb + 300000 * Y) Y nb ns s) (hY5 : Y ≤ 500) (hz : Zs s) {i : Nat} (hi' : i < ns) : ∃ M' R', fn_X6_pull T (ad 0) (nI i) M R = some (s.1 (74 + 6 * i + 3), M', R') ∧ WQ ad T M' R' (sP i s) (np n) (hp n h s) := by
  have w1 := w
  obtain ⟨tx, β, σ, hi, G, hs, ct⟩ := w
  have b4 := CG_bs G (show 4 < 5 by omega)
  have tg := CG_tg G (.inr b4)
  have tg0 := tg
  have hM := M_TV hi M (β 4)
  have rt := hs.2.2.1
  have rt0 := rt
  have I := g.1.1
  have hY8 := g.2.2.2.2.1
  have hnb := g.2.2.2.2.2.1
  have hns := g.2.2.2.2.2.2.1
  have n7 := g.2.2.2.2.2.2.2.1
  have n8 := g.2.2.2.2.2.2.2.2.1
  have n9 := g.2.2.2.2.2.2.2.2.2
  have h7 := g.2.1
  have h8 := g.2.2.1
  have h9 := g.2.2.2.1
  have hK : 1000000 * nb + 300000 * Y < 2 ^ 30 := by omega
  have z0 := G.2.2.2.2.1
  have w0 := G.1
  obtain ⟨t1, t04, t05, t06, t40, t41, t42, t43, tl, tb, ts⟩ := rt
  rw [h8] at t04
  rw [h9] at t05
  rw [h7] at t06
  obtain ⟨hq, k0, r00, r01, r02, r03, k1, n1, k2, n2, k3, n3, k4, rb, kb, rl, lg, rs, ks, sl, si⟩ := tg
  have a1 := x5_hasStake tg0 M (l := CL ad M (β 4)) t05 (by omega) hi'
  rw [hM] at a1
  obtain ⟨M', R', β', σ', p1, hi2, G', rt', eM, nx⟩ := step_recQ w1
  have b4' := CG_bs G' (show 4 < 5 by omega)
  have tg' := CG_tg G' (.inr b4')
  have z0' := G'.2.2.2.2.1
  obtain ⟨c', R2, v1, v2, v3, v4⟩ := x5_removeStake tg' M' (l := CL ad M' (β' 4)) g rt' hi'
  rw [eM] at v1
  have G2 := CG_pull hi G' v2 v3
  have hs2 : ∀ k, k < 4 → (fun B => if B = β' 4 then sgP (σ' (β' 4)) ns i else σ' B) (β' k) = σ' (β' k) := fun k hk => if_neg (CG_bi G' (by omega) (by omega) (by omega))
  have rt2 : RT QT ((fun B => if B = β' 4 then sgP (σ' (β' 4)) ns i else σ' B) (β' 4)) c' (CL ad M' (β' 4)) (sP i s) := by
    show RT QT (if β' 4 = β' 4 then sgP (σ' (β' 4)) ns i else σ' (β' 4)) _ _ _
    rw [if_pos rfl]
    exact v4
  have u2 := nx c' (CL ad M' (β' 4)) (sP i s) R2 _ G2 hs2 rt2 (OK_P g hY5 hz hi')
  have k0' := tg'.2.1
  refine ⟨TV (qq ad (β' 4)) M' c' (CL ad M' (β' 4)), R2, ?_, u2⟩
  unfold fn_X6_pull
  simp (disch := omega) only [↓cal_w6, ↓lm1, l0, l1, l2, l3, l4, l5, l6, l7, l8, l9, l10, l11, l12, l13, l14, l31, l32, l44, l48, l50, l57, l59, l60, l74, l100, l110, l126, l300, l330, l500, l501, l801, l1000, l5000, l5010, l8010, l8192, l9000, l10000, l1000000, and_self, and_true, true_and, and_false, false_and, nI_add, pk_mul, nI_clamp, ↓reduceIte, eF, lT, lF, leT, leF, chk_d, chk_t, chk_inb, rfm_s, bnd_e, cal_e, calR_e, ↓chk_q w0, ↓rfm_q z0, ↓chk_q k0, w0, z0, k0, r00, r01, r02, r03, k1, n1, k2, n2, k3, n3, k4, rb, kb, rl, rs, ks, ↓cal_q a1, p1, calR_u, z0', k0', v1]
theorem c_pullN {ad : Nat → Nat} {T : Ty} {M : Mm} {R : Rm} {s : Sx} {n : Nat} {h : Nat → Sx} (w : WQ ad T M R s n h) {Y nb ns : Nat} (g : GS (1000000 * nb + 300000 * Y) Y nb ns s) (hY5 : Y ≤ 500) : fn_X6_pull T (ad 0) (nI ns) M R = some (-2000000001, M, R) := by
  obtain ⟨tx, β, σ, hi, G, hs, ct⟩ := w
  have b4 := CG_bs G (show 4 < 5 by omega)
  have tg := CG_tg G (.inr b4)
  have tg0 := tg
  have hM := M_TV hi M (β 4)
  have rt := hs.2.2.1
  have rt0 := rt
  have I := g.1.1
  have hY8 := g.2.2.2.2.1
  have hnb := g.2.2.2.2.2.1
  have hns := g.2.2.2.2.2.2.1
  have n7 := g.2.2.2.2.2.2.2.1
  have n8 := g.2.2.2.2.2.2.2.2.1
  have n9 := g.2.2.2.2.2.2.2.2.2
  have h7 := g.2.1
  have h8 := g.2.2.1
  have h9 := g.2.2.2.1
  have hK : 1000000 * nb + 300000 * Y < 2 ^ 30 := by omega
  have z0 := G.2.2.2.2.1
  have w0 := G.1
  obtain ⟨t1, t04, t05, t06, t40, t41, t42, t43, tl, tb, ts⟩ := rt
  rw [h8] at t04
  rw [h9] at t05
  rw [h7] at t06
  obtain ⟨hq, k0, r00, r01, r02, r03, k1, n1, k2, n2, k3, n3, k4, rb, kb, rl, lg, rs, ks, sl, si⟩ := tg
  have a1 := x5_hasStakeN tg0 M (l := CL ad M (β 4)) t05 (x := nI ns) (.inr (Int32.le_refl _))
  rw [hM] at a1
  unfold fn_X6_pull
  simp (disch := omega) only [↓cal_w6, ↓lm1, l0, l1, l2, l3, l4, l5, l6, l7, l8, l9, l10, l11, l12, l13, l14, l31, l32, l44, l48, l50, l57, l59, l60, l74, l100, l110, l126, l300, l330, l500, l501, l801, l1000, l5000, l5010, l8010, l8192, l9000, l10000, l1000000, and_self, and_true, true_and, and_false, false_and, nI_add, pk_mul, nI_clamp, ↓reduceIte, eF, lT, lF, leT, leF, chk_d, chk_t, chk_inb, rfm_s, bnd_e, cal_e, calR_e, ↓chk_q w0, ↓rfm_q z0, ↓chk_q k0, w0, z0, k0, r00, r01, r02, r03, k1, n1, k2, n2, k3, n3, k4, rb, kb, rl, rs, ks, ↓cal_q a1, a1]
theorem c_undo0 {ad : Nat → Nat} {T : Ty} {M : Mm} {R : Rm} {s : Sx} {h : Nat → Sx} (w : WQ ad T M R s 0 h) : fn_X6_undo T (ad 0) M R = some (-2000000002, M, R) := by
  obtain ⟨tx, β, σ, hi, G, hs, ct⟩ := w
  have h4 := hs.1
  have w0 := G.1
  unfold fn_X6_undo
  simp (disch := omega) only [↓cal_w6, ↓lm1, l0, l1, l2, l3, l4, l5, l6, l7, l8, l9, l10, l11, l12, l13, l14, l31, l32, l44, l48, l50, l57, l59, l60, l74, l100, l110, l126, l300, l330, l500, l501, l801, l1000, l5000, l5010, l8010, l8192, l9000, l10000, l1000000, and_self, and_true, true_and, and_false, false_and, nI_add, pk_mul, nI_clamp, ↓reduceIte, eF, lT, lF, leT, leF, chk_d, chk_t, chk_inb, rfm_s, bnd_e, cal_e, calR_e, ↓chk_q w0, h4]
theorem c_undo {ad : Nat → Nat} {T : Ty} {M : Mm} {R : Rm} {s : Sx} {n : Nat} {h : Nat → Sx} (w : WQ ad T M R s (n + 1) h) : ∃ M' R', fn_X6_undo T (ad 0) M R = some (nI n, M', R') ∧ WQ ad T M' R' (h n) n h := by
  obtain ⟨tx, β, σ, hi, G, hs, ct⟩ := w
  obtain ⟨M', R', β', p1, G', hs', fy, rr, m7, m8⟩ := x6_undo hi G hs
  exact ⟨M', R', p1, tx, β', σ, hi, G', hs', CT_FX ct m7 m8⟩
