/-! both together: years -/
theorem g_years {ad : Nat → Nat} {T : Ty} {M : Mm} {R : Rm} {s : Sx} {n : Nat} {h : Nat → Sx} {tl' : Nat} {tx : Nat → Nat} {β : Nat → Nat} {σ : Nat → Nat → Nat} (w : WD ad T M R s n h tl' tx β σ) (x : Int32) : SW ad T (fn_X6_years T (ad 0) x M R) (fun R1 M1 => fn_X7_years T R1 (ad 250) x M1) := by
  have w1 := w
  obtain ⟨G, hs, ct, GR, rsw, rk, rx⟩ := w
  have hi := GR.1
  have b4 := CG_bs G (show 4 < 5 by omega)
  have tg := CG_tg G (.inr b4)
  have tg0 := tg
  have hM := M_TV hi M (β 4)
  have rt := hs.2.2.1
  have rt0 := rt
  obtain ⟨Y, nb, ns, g, hY5, hz⟩ := hs.2.2.2.2.1
  have P := RS_RP rsw
  have I := g.1.1
  have hY8 := g.2.2.2.2.1
  have hnb := g.2.2.2.2.2.1
  have hns := g.2.2.2.2.2.2.1
  have n7 := g.2.2.2.2.2.2.2.1
  have n8 := g.2.2.2.2.2.2.2.2.1
  have n9 := g.2.2.2.2.2.2.2.2.2
  have h7 := g.2.1
  have h8 := g.2.2.1
  have h9 := g.2.2.2.1
  have hK : 1000000 * nb + 300000 * Y < 2 ^ 30 := by omega
  have z0 := G.2.2.2.2.1
  have w0 := G.1
  have p7 : gI M (ad 251) 7 = nI Y := (P.1 7 (by omega)).trans h7
  have p8 : gI M (ad 251) 8 = nI nb := (P.1 8 (by omega)).trans h8
  have p9 : gI M (ad 251) 9 = nI ns := (P.1 9 (by omega)).trans h9
  have GR0 := GR
  obtain ⟨_, kR, k251, n251, r251, k252, n252, r252, k253, n253, r253, k254, n254, r254, k255, n255, r255, k256, n256, r256, k257, n257, r257, k258, n258, r258, k259, n259, r259, k260, n260, r260, k261, n261, r261⟩ := GR
  obtain ⟨t1, t04, t05, t06, t40, t41, t42, t43, tl, tb, ts⟩ := rt
  rw [h8] at t04
  rw [h9] at t05
  rw [h7] at t06
  obtain ⟨hq, k0, r00, r01, r02, r03, k1, n1, k2, n2, k3, n3, k4, rb, kb, rl, lg, rs, ks, sl, si⟩ := tg
  by_cases hx : nI 1 ≤ x ∧ x ≤ nI 100
  · obtain ⟨v, rfl, v1, v2⟩ := bet hx (by omega) (by omega)
    have hx' : (nI 1 ≤ nI v ∧ nI v ≤ nI 100) = True := eq_true hx
    by_cases h0 : nb = 0
    · subst h0
      refine SW_no w1 (-2000000002) ?_ ?_
      · unfold fn_X6_years
        simp (disch := omega) only [↓cal_w6, ↓cal_w7, ↓lm1, l0, l1, l2, l3, l4, l5, l6, l7, l8, l9, l10, l11, l12, l13, l14, l31, l32, l44, l48, l50, l57, l59, l60, l74, l100, l110, l126, l300, l330, l500, l501, l801, l1000, l5000, l5010, l8010, l8192, l9000, l10000, l1000000, and_self, and_true, true_and, and_false, false_and, nI_add, pk_mul, nI_clamp, ↓reduceIte, eF, lT, lF, leT, leF, chk_d, chk_t, chk_inb, rfm_s, bnd_e, cal_e, calR_e, x6_isWithin, hx', ↓chk_q w0, ↓rfm_q z0, ↓chk_q k0, w0, z0, k0, r00, r01, r02, r03, k1, n1, k2, n2, k3, n3, k4, rb, kb, rl, rs, ks, gCC, t04]
      · show fn_X7_years T R (ad 250) (nI v) M = _
        unfold fn_X7_years
        simp (disch := omega) only [↓cal_w6, ↓cal_w7, ↓lm1, l0, l1, l2, l3, l4, l5, l6, l7, l8, l9, l10, l11, l12, l13, l14, l31, l32, l44, l48, l50, l57, l59, l60, l74, l100, l110, l126, l300, l330, l500, l501, l801, l1000, l5000, l5010, l8010, l8192, l9000, l10000, l1000000, and_self, and_true, true_and, and_false, false_and, nI_add, pk_mul, nI_clamp, ↓reduceIte, eF, lT, lF, leT, leF, chk_d, chk_t, chk_inb, rfm_s, bnd_e, cal_e, calR_e, ↓chk_q kR, kR, k251, n251, r251, k252, n252, r252, k253, n253, r253, k254, n254, r254, k255, n255, r255, k256, n256, r256, k257, n257, r257, k258, n258, r258, k259, n259, r259, k260, n260, r260, k261, n261, r261, x7_in', hx', p8]
    · by_cases hYv : Y + v ≤ 500
      · obtain ⟨M', R', β', p1, G', GR', rt', fy, m7, m8, rr, eM, nx⟩ := step_rec w1
        have b4' := CG_bs G' (show 4 < 5 by omega)
        have tg' := CG_tg G' (.inr b4')
        have z0' := G'.2.2.2.2.1
        obtain ⟨c', l', u1, u2⟩ := x5_years tg' M' g (n := v) (by omega) (by omega) (by omega) rt'
        rw [eM] at u1
        obtain ⟨ok', -, -⟩ := OK_Ys g hz v hYv
        obtain ⟨M3, q1, q2⟩ := nx c' l' (sYs v s) R' σ G' GR' (fun _ _ => rfl) u2 ok'
        have f2 := FY_t fy (FY_TV hi (.inr b4') M' c' l')
        obtain ⟨hqx, k0x, r00x, r01x, r02x, r03x, k1x, n1x, k2x, n2x, k3x, n3x, k4x, rbx, kbx, rlx, lgx, rsx, ksx, slx, six⟩ := tg'
        have e1 : gI M' (qq ad (β' 4) 4) 2 = s.1 12 := rt'.2.2.2.2.2.2.1
        have e2 : gI (TV (qq ad (β' 4)) M' c' l') (qq ad (β' 4) 4) 2 = (sYs v s).1 12 := (TV_g hqx M' c' l' 2 (by omega)).trans u2.2.2.2.2.2.2.1
        refine ⟨(sYs v s).1 12 - s.1 12, TV (qq ad (β' 4)) M' c' l', R', _, ?_, ?_, _, _, _, _, _, _, _, q2⟩
        · unfold fn_X6_years
          simp (disch := omega) only [↓cal_w6, ↓cal_w7, ↓lm1, l0, l1, l2, l3, l4, l5, l6, l7, l8, l9, l10, l11, l12, l13, l14, l31, l32, l44, l48, l50, l57, l59, l60, l74, l100, l110, l126, l300, l330, l500, l501, l801, l1000, l5000, l5010, l8010, l8192, l9000, l10000, l1000000, and_self, and_true, true_and, and_false, false_and, nI_add, pk_mul, nI_clamp, ↓reduceIte, eF, lT, lF, leT, leF, chk_d, chk_t, chk_inb, rfm_s, bnd_e, cal_e, calR_e, x6_isWithin, hx', ↓chk_q w0, ↓rfm_q z0, ↓chk_q k0, w0, z0, k0, r00, r01, r02, r03, k1, n1, k2, n2, k3, n3, k4, rb, kb, rl, rs, ks, gCC, t04, t06, p1, calR_u, z0', k0x, r00x, r01x, r02x, r03x, k1x, n1x, k2x, n2x, k3x, n3x, k4x, rbx, kbx, rlx, rsx, ksx, e1, u1, e2]
        · have p8' : gI (TV (qq ad (β' 4)) M' c' l') (ad 251) 8 = nI nb := (congrFun (f2 251 (by omega)).1 8).trans p8
          have p7' : gI (TV (qq ad (β' 4)) M' c' l') (ad 251) 7 = nI Y := (congrFun (f2 251 (by omega)).1 7).trans p7
          have r1 := x7_goOn GR' (M := M3) (n := v) g (by omega) (by omega) (by omega)
          have e4 : gI (PS ad M3 s) (ad 251) 12 = s.1 12 := P3_m ad M3 s.1 (fI s.2.1) s.2.2 _
          have e5 : gI (PS ad M3 (sYs v s)) (ad 251) 12 = (sYs v s).1 12 := P3_m ad M3 _ _ _ _
          obtain ⟨hi, k0, k251, n251, r251, k252, n252, r252, k253, n253, r253, k254, n254, r254, k255, n255, r255, k256, n256, r256, k257, n257, r257, k258, n258, r258, k259, n259, r259, k260, n260, r260, k261, n261, r261⟩ := GR'
          show fn_X7_years T R' (ad 250) (nI v) _ = _
          unfold fn_X7_years
          simp (disch := omega) only [↓cal_w6, ↓cal_w7, ↓lm1, l0, l1, l2, l3, l4, l5, l6, l7, l8, l9, l10, l11, l12, l13, l14, l31, l32, l44, l48, l50, l57, l59, l60, l74, l100, l110, l126, l300, l330, l500, l501, l801, l1000, l5000, l5010, l8010, l8192, l9000, l10000, l1000000, and_self, and_true, true_and, and_false, false_and, nI_add, pk_mul, nI_clamp, ↓reduceIte, eF, lT, lF, leT, leF, chk_d, chk_t, chk_inb, rfm_s, bnd_e, cal_e, calR_e, k0, k251, n251, r251, x7_in', hx', p8', p7', q1, e4, r1, e5]
      · refine SW_no w1 (-2000000003) ?_ ?_
        · unfold fn_X6_years
          simp (disch := omega) only [↓cal_w6, ↓cal_w7, ↓lm1, l0, l1, l2, l3, l4, l5, l6, l7, l8, l9, l10, l11, l12, l13, l14, l31, l32, l44, l48, l50, l57, l59, l60, l74, l100, l110, l126, l300, l330, l500, l501, l801, l1000, l5000, l5010, l8010, l8192, l9000, l10000, l1000000, and_self, and_true, true_and, and_false, false_and, nI_add, pk_mul, nI_clamp, ↓reduceIte, eF, lT, lF, leT, leF, chk_d, chk_t, chk_inb, rfm_s, bnd_e, cal_e, calR_e, x6_isWithin, hx', ↓chk_q w0, ↓rfm_q z0, ↓chk_q k0, w0, z0, k0, r00, r01, r02, r03, k1, n1, k2, n2, k3, n3, k4, rb, kb, rl, rs, ks, gCC, t04, t06]
        · show fn_X7_years T R (ad 250) (nI v) M = _
          unfold fn_X7_years
          simp (disch := omega) only [↓cal_w6, ↓cal_w7, ↓lm1, l0, l1, l2, l3, l4, l5, l6, l7, l8, l9, l10, l11, l12, l13, l14, l31, l32, l44, l48, l50, l57, l59, l60, l74, l100, l110, l126, l300, l330, l500, l501, l801, l1000, l5000, l5010, l8010, l8192, l9000, l10000, l1000000, and_self, and_true, true_and, and_false, false_and, nI_add, pk_mul, nI_clamp, ↓reduceIte, eF, lT, lF, leT, leF, chk_d, chk_t, chk_inb, rfm_s, bnd_e, cal_e, calR_e, ↓chk_q kR, kR, k251, n251, r251, k252, n252, r252, k253, n253, r253, k254, n254, r254, k255, n255, r255, k256, n256, r256, k257, n257, r257, k258, n258, r258, k259, n259, r259, k260, n260, r260, k261, n261, r261, x7_in', hx', p8, p7]
  · have hx' : (nI 1 ≤ x ∧ x ≤ nI 100) = False := eq_false hx
    refine SW_no w1 (-2000000001) ?_ ?_
    · unfold fn_X6_years
      simp (disch := omega) only [↓cal_w6, ↓cal_w7, ↓lm1, l0, l1, l2, l3, l4, l5, l6, l7, l8, l9, l10, l11, l12, l13, l14, l31, l32, l44, l48, l50, l57, l59, l60, l74, l100, l110, l126, l300, l330, l500, l501, l801, l1000, l5000, l5010, l8010, l8192, l9000, l10000, l1000000, and_self, and_true, true_and, and_false, false_and, nI_add, pk_mul, nI_clamp, ↓reduceIte, eF, lT, lF, leT, leF, chk_d, chk_t, chk_inb, rfm_s, bnd_e, cal_e, calR_e, x6_isWithin, hx']
    · show fn_X7_years T R (ad 250) x M = _
      unfold fn_X7_years
      simp (disch := omega) only [↓cal_w6, ↓cal_w7, ↓lm1, l0, l1, l2, l3, l4, l5, l6, l7, l8, l9, l10, l11, l12, l13, l14, l31, l32, l44, l48, l50, l57, l59, l60, l74, l100, l110, l126, l300, l330, l500, l501, l801, l1000, l5000, l5010, l8010, l8192, l9000, l10000, l1000000, and_self, and_true, true_and, and_false, false_and, nI_add, pk_mul, nI_clamp, ↓reduceIte, eF, lT, lF, leT, leF, chk_d, chk_t, chk_inb, rfm_s, bnd_e, cal_e, calR_e, x7_in', hx']
