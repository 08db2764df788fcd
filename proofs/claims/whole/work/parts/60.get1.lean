/-! the questions: what is known of bands -/
theorem M7_sn {ad : Nat → Nat} {T : Ty} {R : Rm} (G : RG ad T R) {M : Mm} {s : Sx} (rs : RS ad M s) (I : IV s.1) {b : Nat} (hb : b < nt (s.1 8)) : fn_X7_snowOf T R (ad 250) (nI b) M = some (nI (snS s.1 b), M) := by
  have h : fn_X7_snowOf T R (ad 250) (nI b) (PS ad M s) = some (nI (snS s.1 b), PS ad M s) := x7_sn G I hb
  rw [RS_PS G.1 rs] at h
  exact h
theorem M7_ml {ad : Nat → Nat} {T : Ty} {R : Rm} (G : RG ad T R) {M : Mm} {s : Sx} (rs : RS ad M s) (I : IV s.1) {b : Nat} (hb : b < nt (s.1 8)) : fn_X7_meltOf T R (ad 250) (nI b) M = some (nI (mlS s.1 b), M) := by
  have h : fn_X7_meltOf T R (ad 250) (nI b) (PS ad M s) = some (nI (mlS s.1 b), PS ad M s) := x7_ml G I hb
  rw [RS_PS G.1 rs] at h
  exact h
theorem g_bandInfo {ad : Nat → Nat} {T : Ty} {M : Mm} {R : Rm} {s : Sx} {n : Nat} {h : Nat → Sx} {tl' : Nat} {tx : Nat → Nat} {β : Nat → Nat} {σ : Nat → Nat → Nat} (w : WD ad T M R s n h tl' tx β σ) (x y : Int32) : ∃ r, fn_X6_bandInfo T R (ad 0) x y M = some (r, M) ∧ fn_X7_bandInfo T R (ad 250) x y M = some (r, M) := by
  obtain ⟨G, hs, ct, GR, rsw, rk, rx⟩ := w
  have hi := GR.1
  have b4 := CG_bs G (show 4 < 5 by omega)
  have tg := CG_tg G (.inr b4)
  have tg0 := tg
  have hM := M_TV hi M (β 4)
  have rt := hs.2.2.1
  have rt0 := rt
  obtain ⟨Y, nb, ns, g, hY5, hz⟩ := hs.2.2.2.2.1
  have P := RS_RP rsw
  have I := g.1.1
  have hY8 := g.2.2.2.2.1
  have hnb := g.2.2.2.2.2.1
  have hns := g.2.2.2.2.2.2.1
  have n7 := g.2.2.2.2.2.2.2.1
  have n8 := g.2.2.2.2.2.2.2.2.1
  have n9 := g.2.2.2.2.2.2.2.2.2
  have h7 := g.2.1
  have h8 := g.2.2.1
  have h9 := g.2.2.2.1
  have hK : 1000000 * nb + 300000 * Y < 2 ^ 30 := by omega
  have z0 := G.2.2.2.2.1
  have w0 := G.1
  have p7 : gI M (ad 251) 7 = nI Y := (P.1 7 (by omega)).trans h7
  have p8 : gI M (ad 251) 8 = nI nb := (P.1 8 (by omega)).trans h8
  have p9 : gI M (ad 251) 9 = nI ns := (P.1 9 (by omega)).trans h9
  have GR0 := GR
  obtain ⟨_, kR, k251, n251, r251, k252, n252, r252, k253, n253, r253, k254, n254, r254, k255, n255, r255, k256, n256, r256, k257, n257, r257, k258, n258, r258, k259, n259, r259, k260, n260, r260, k261, n261, r261⟩ := GR
  obtain ⟨t1, t04, t05, t06, t40, t41, t42, t43, tl, tb, ts⟩ := rt
  rw [h8] at t04
  rw [h9] at t05
  rw [h7] at t06
  obtain ⟨hq, k0, r00, r01, r02, r03, k1, n1, k2, n2, k3, n3, k4, rb, kb, rl, lg, rs, ks, sl, si⟩ := tg
  rcases ix_c x (n := nb) (by omega) with ⟨b, hb, rfl⟩ | hx
  · have a1 := x5_hasBand tg0 M (l := CL ad M (β 4)) t04 hnb hb
    rw [hM] at a1
    have a2 := x7_isBand GR0 p8 hnb hb
    rcases ix_c y (n := 12) (by omega) with ⟨j, hj, rfl⟩ | hy
    · have a3 : (nI 0 ≤ nI j ∧ nI j ≤ nI 11) = True := in_t (by omega) (by omega) (by omega)
      have hb8 : b < nt (s.1 8) := by omega
      obtain ⟨v1, v2, v3⟩ := tb b hb8
      have kl := (lg b (by omega)).1
      have o0 := fun k (hk : 14 + 6 * b + k < 110) => x7_of GR0 M (b := b) (k := k) hk
      have pv := fun k (hk : k < 6) => P.1 (14 + 6 * b + k) (by omega)
      have hrow := GS_row g hb
      have hc31 : sm (s.2.1 b) 801 < 2 ^ 31 := by omega
      have hf31 : ∀ y, y ≤ Y → s.2.1 b y < 2 ^ 31 := fun y hy => Nat.lt_of_le_of_lt (sm_le1 (s.2.1 b) (show y < 801 by omega)) hc31
      rcases (show j = 0 ∨ j = 1 ∨ j = 2 ∨ j = 3 ∨ j = 4 ∨ j = 5 ∨ j = 6 ∨ j = 7 ∨ j = 8 ∨ j = 9 ∨ j = 10 ∨ j = 11 by omega) with rfl | rfl | rfl | rfl | rfl | rfl | rfl | rfl | rfl | rfl | rfl | rfl
      · refine ⟨s.1 (14 + 6 * b + 0), ?_, ?_⟩
        · have q1 := v1 0 (by omega)
          simp only [Nat.reduceAdd] at q1
          unfold fn_X6_bandInfo
          simp (disch := omega) only [↓cal_w6, ↓cal_w7, ↓lm1, l0, l1, l2, l3, l4, l5, l6, l7, l8, l9, l10, l11, l12, l13, l14, l31, l32, l44, l48, l50, l57, l59, l60, l74, l100, l110, l126, l300, l330, l500, l501, l801, l1000, l5000, l5010, l8010, l8192, l9000, l10000, l1000000, and_self, and_true, true_and, and_false, false_and, nI_add, pk_mul, nI_clamp, ↓reduceIte, eF, lT, lF, leT, leF, chk_d, chk_t, chk_inb, rfm_s, bnd_e, cal_e, calR_e, ↓chk_q w0, ↓rfm_q z0, ↓chk_q k0, w0, z0, k0, r00, r01, r02, r03, k1, n1, k2, n2, k3, n3, k4, rb, kb, rl, rs, ks, ↓cal_q a1, a1, x6_isWithin, a3, if_true, gCC, q1]
        · have q2 := pv 0 (by omega)
          unfold fn_X7_bandInfo fn_X7_infoOf
          simp (disch := omega) only [↓cal_w6, ↓cal_w7, ↓lm1, l0, l1, l2, l3, l4, l5, l6, l7, l8, l9, l10, l11, l12, l13, l14, l31, l32, l44, l48, l50, l57, l59, l60, l74, l100, l110, l126, l300, l330, l500, l501, l801, l1000, l5000, l5010, l8010, l8192, l9000, l10000, l1000000, and_self, and_true, true_and, and_false, false_and, nI_add, pk_mul, nI_clamp, ↓reduceIte, eF, lT, lF, leT, leF, chk_d, chk_t, chk_inb, rfm_s, bnd_e, cal_e, calR_e, ↓chk_q kR, kR, k251, n251, r251, k252, n252, r252, k253, n253, r253, k254, n254, r254, k255, n255, r255, k256, n256, r256, k257, n257, r257, k258, n258, r258, k259, n259, r259, k260, n260, r260, k261, n261, r261, ↓cal_q a2, a2, x7_in', a3, if_true, o0, q2]
      · refine ⟨s.1 (14 + 6 * b + 1), ?_, ?_⟩
        · have q1 := v1 1 (by omega)
          simp only [Nat.reduceAdd] at q1
          unfold fn_X6_bandInfo
          simp (disch := omega) only [↓cal_w6, ↓cal_w7, ↓lm1, l0, l1, l2, l3, l4, l5, l6, l7, l8, l9, l10, l11, l12, l13, l14, l31, l32, l44, l48, l50, l57, l59, l60, l74, l100, l110, l126, l300, l330, l500, l501, l801, l1000, l5000, l5010, l8010, l8192, l9000, l10000, l1000000, and_self, and_true, true_and, and_false, false_and, nI_add, pk_mul, nI_clamp, ↓reduceIte, eF, lT, lF, leT, leF, chk_d, chk_t, chk_inb, rfm_s, bnd_e, cal_e, calR_e, ↓chk_q w0, ↓rfm_q z0, ↓chk_q k0, w0, z0, k0, r00, r01, r02, r03, k1, n1, k2, n2, k3, n3, k4, rb, kb, rl, rs, ks, ↓cal_q a1, a1, x6_isWithin, a3, if_true, gCC, q1]
        · have q2 := pv 1 (by omega)
          unfold fn_X7_bandInfo fn_X7_infoOf
          simp (disch := omega) only [↓cal_w6, ↓cal_w7, ↓lm1, l0, l1, l2, l3, l4, l5, l6, l7, l8, l9, l10, l11, l12, l13, l14, l31, l32, l44, l48, l50, l57, l59, l60, l74, l100, l110, l126, l300, l330, l500, l501, l801, l1000, l5000, l5010, l8010, l8192, l9000, l10000, l1000000, and_self, and_true, true_and, and_false, false_and, nI_add, pk_mul, nI_clamp, ↓reduceIte, eF, lT, lF, leT, leF, chk_d, chk_t, chk_inb, rfm_s, bnd_e, cal_e, calR_e, ↓chk_q kR, kR, k251, n251, r251, k252, n252, r252, k253, n253, r253, k254, n254, r254, k255, n255, r255, k256, n256, r256, k257, n257, r257, k258, n258, r258, k259, n259, r259, k260, n260, r260, k261, n261, r261, ↓cal_q a2, a2, x7_in', a3, if_true, o0, q2]
      · refine ⟨s.1 (14 + 6 * b + 2), ?_, ?_⟩
        · have q1 := v1 2 (by omega)
          simp only [Nat.reduceAdd] at q1
          unfold fn_X6_bandInfo
          simp (disch := omega) only [↓cal_w6, ↓cal_w7, ↓lm1, l0, l1, l2, l3, l4, l5, l6, l7, l8, l9, l10, l11, l12, l13, l14, l31, l32, l44, l48, l50, l57, l59, l60, l74, l100, l110, l126, l300, l330, l500, l501, l801, l1000, l5000, l5010, l8010, l8192, l9000, l10000, l1000000, and_self, and_true, true_and, and_false, false_and, nI_add, pk_mul, nI_clamp, ↓reduceIte, eF, lT, lF, leT, leF, chk_d, chk_t, chk_inb, rfm_s, bnd_e, cal_e, calR_e, ↓chk_q w0, ↓rfm_q z0, ↓chk_q k0, w0, z0, k0, r00, r01, r02, r03, k1, n1, k2, n2, k3, n3, k4, rb, kb, rl, rs, ks, ↓cal_q a1, a1, x6_isWithin, a3, if_true, gCC, q1]
        · have q2 := pv 2 (by omega)
          unfold fn_X7_bandInfo fn_X7_infoOf
          simp (disch := omega) only [↓cal_w6, ↓cal_w7, ↓lm1, l0, l1, l2, l3, l4, l5, l6, l7, l8, l9, l10, l11, l12, l13, l14, l31, l32, l44, l48, l50, l57, l59, l60, l74, l100, l110, l126, l300, l330, l500, l501, l801, l1000, l5000, l5010, l8010, l8192, l9000, l10000, l1000000, and_self, and_true, true_and, and_false, false_and, nI_add, pk_mul, nI_clamp, ↓reduceIte, eF, lT, lF, leT, leF, chk_d, chk_t, chk_inb, rfm_s, bnd_e, cal_e, calR_e, ↓chk_q kR, kR, k251, n251, r251, k252, n252, r252, k253, n253, r253, k254, n254, r254, k255, n255, r255, k256, n256, r256, k257, n257, r257, k258, n258, r258, k259, n259, r259, k260, n260, r260, k261, n261, r261, ↓cal_q a2, a2, x7_in', a3, if_true, o0, q2]
      · refine ⟨nI (sm (s.2.1 b) (Y + 1)), ?_, ?_⟩
        · have q1 := LY_ice v3
          rw [GS_801 g hb] at q1
          unfold fn_X6_bandInfo
          simp (disch := omega) only [↓cal_w6, ↓cal_w7, ↓lm1, l0, l1, l2, l3, l4, l5, l6, l7, l8, l9, l10, l11, l12, l13, l14, l31, l32, l44, l48, l50, l57, l59, l60, l74, l100, l110, l126, l300, l330, l500, l501, l801, l1000, l5000, l5010, l8010, l8192, l9000, l10000, l1000000, and_self, and_true, true_and, and_false, false_and, nI_add, pk_mul, nI_clamp, ↓reduceIte, eF, lT, lF, leT, leF, chk_d, chk_t, chk_inb, rfm_s, bnd_e, cal_e, calR_e, ↓chk_q w0, ↓rfm_q z0, ↓chk_q k0, w0, z0, k0, r00, r01, r02, r03, k1, n1, k2, n2, k3, n3, k4, rb, kb, rl, rs, ks, kl, ↓cal_q a1, a1, x6_isWithin, a3, if_true, gCC, q1]
        · have q2 := x7_iceOf GR0 P h7 (by omega) (show b < 10 by omega)
          unfold fn_X7_bandInfo fn_X7_infoOf
          simp (disch := omega) only [↓cal_w6, ↓cal_w7, ↓lm1, l0, l1, l2, l3, l4, l5, l6, l7, l8, l9, l10, l11, l12, l13, l14, l31, l32, l44, l48, l50, l57, l59, l60, l74, l100, l110, l126, l300, l330, l500, l501, l801, l1000, l5000, l5010, l8010, l8192, l9000, l10000, l1000000, and_self, and_true, true_and, and_false, false_and, nI_add, pk_mul, nI_clamp, ↓reduceIte, eF, lT, lF, leT, leF, chk_d, chk_t, chk_inb, rfm_s, bnd_e, cal_e, calR_e, ↓chk_q kR, kR, k251, n251, r251, k252, n252, r252, k253, n253, r253, k254, n254, r254, k255, n255, r255, k256, n256, r256, k257, n257, r257, k258, n258, r258, k259, n259, r259, k260, n260, r260, k261, n261, r261, ↓cal_q a2, a2, x7_in', a3, if_true, q2]
      · refine ⟨nI (sm (cnt (s.2.1 b)) (Y + 1)), ?_, ?_⟩
        · have q1 := x2_number hq (lg b (by omega)) M (CL ad M (β 4)) v3 hc31
          rw [hM, GS_c801 g hb] at q1
          unfold fn_X6_bandInfo
          simp (disch := omega) only [↓cal_w6, ↓cal_w7, ↓lm1, l0, l1, l2, l3, l4, l5, l6, l7, l8, l9, l10, l11, l12, l13, l14, l31, l32, l44, l48, l50, l57, l59, l60, l74, l100, l110, l126, l300, l330, l500, l501, l801, l1000, l5000, l5010, l8010, l8192, l9000, l10000, l1000000, and_self, and_true, true_and, and_false, false_and, nI_add, pk_mul, nI_clamp, ↓reduceIte, eF, lT, lF, leT, leF, chk_d, chk_t, chk_inb, rfm_s, bnd_e, cal_e, calR_e, ↓chk_q w0, ↓rfm_q z0, ↓chk_q k0, w0, z0, k0, r00, r01, r02, r03, k1, n1, k2, n2, k3, n3, k4, rb, kb, rl, rs, ks, kl, ↓cal_q a1, a1, x6_isWithin, a3, if_true, q1]
        · have q2 := x7_layersOf GR0 P h7 (by omega) (show b < 10 by omega) hf31
          unfold fn_X7_bandInfo fn_X7_infoOf
          simp (disch := omega) only [↓cal_w6, ↓cal_w7, ↓lm1, l0, l1, l2, l3, l4, l5, l6, l7, l8, l9, l10, l11, l12, l13, l14, l31, l32, l44, l48, l50, l57, l59, l60, l74, l100, l110, l126, l300, l330, l500, l501, l801, l1000, l5000, l5010, l8010, l8192, l9000, l10000, l1000000, and_self, and_true, true_and, and_false, false_and, nI_add, pk_mul, nI_clamp, ↓reduceIte, eF, lT, lF, leT, leF, chk_d, chk_t, chk_inb, rfm_s, bnd_e, cal_e, calR_e, ↓chk_q kR, kR, k251, n251, r251, k252, n252, r252, k253, n253, r253, k254, n254, r254, k255, n255, r255, k256, n256, r256, k257, n257, r257, k258, n258, r258, k259, n259, r259, k260, n260, r260, k261, n261, r261, ↓cal_q a2, a2, x7_in', a3, if_true, q2]
      · have q2 := x7_yearOf GR0 P h7 (by omega) (show b < 10 by omega) hf31 (i := 0) (by omega)
        have q3 := x7_found (T := T) (R := R) M (yl (s.2.1 b) (Y + 1) 0 0) (fun y e => by
          have := yl_lt e
          omega)
        rcases v3 with ⟨e0, hl⟩ | ⟨o, t, ht, hl⟩
        · have ey : yl (s.2.1 b) (Y + 1) 0 0 = none := yl_z (fun z _ hz => sm_0y e0 (by omega))
          rw [ey] at q2 q3
          simp only [fO_s, fO_n] at q3
          refine ⟨-2000000004, ?_, ?_⟩
          · have q1 := hl.2.1
            rw [e0] at q1
            unfold fn_X6_bandInfo
            simp (disch := omega) only [↓cal_w6, ↓cal_w7, ↓lm1, l0, l1, l2, l3, l4, l5, l6, l7, l8, l9, l10, l11, l12, l13, l14, l31, l32, l44, l48, l50, l57, l59, l60, l74, l100, l110, l126, l300, l330, l500, l501, l801, l1000, l5000, l5010, l8010, l8192, l9000, l10000, l1000000, and_self, and_true, true_and, and_false, false_and, nI_add, pk_mul, nI_clamp, ↓reduceIte, eF, lT, lF, leT, leF, chk_d, chk_t, chk_inb, rfm_s, bnd_e, cal_e, calR_e, ↓chk_q w0, ↓rfm_q z0, ↓chk_q k0, w0, z0, k0, r00, r01, r02, r03, k1, n1, k2, n2, k3, n3, k4, rb, kb, rl, rs, ks, kl, ↓cal_q a1, a1, x6_isWithin, a3, if_true, gCC, q1]
          · unfold fn_X7_bandInfo fn_X7_infoOf
            simp (disch := omega) only [↓cal_w6, ↓cal_w7, ↓lm1, l0, l1, l2, l3, l4, l5, l6, l7, l8, l9, l10, l11, l12, l13, l14, l31, l32, l44, l48, l50, l57, l59, l60, l74, l100, l110, l126, l300, l330, l500, l501, l801, l1000, l5000, l5010, l8010, l8192, l9000, l10000, l1000000, and_self, and_true, true_and, and_false, false_and, nI_add, pk_mul, nI_clamp, ↓reduceIte, eF, lT, lF, leT, leF, chk_d, chk_t, chk_inb, rfm_s, bnd_e, cal_e, calR_e, ↓chk_q kR, kR, k251, n251, r251, k252, n252, r252, k253, n253, r253, k254, n254, r254, k255, n255, r255, k256, n256, r256, k257, n257, r257, k258, n258, r258, k259, n259, r259, k260, n260, r260, k261, n261, r261, ↓cal_q a2, a2, x7_in', a3, if_true, q2, q3]
        · obtain ⟨t1', t2', t3', t4', t5', t6'⟩ := ht
          have hoY : o < Y + 1 := by
            refine Nat.lt_of_not_le (fun hh => ?_)
            rw [GS_z g hb (by omega)] at t3'
            omega
          have ey : yl (s.2.1 b) (Y + 1) 0 0 = some o := yl_first t5' t3' hoY
          rw [ey] at q2 q3
          simp only [fO_s, fO_n] at q3
          have hpos := sm_le1 (s.2.1 b) (show o < 801 by omega)
          refine ⟨nI o, ?_, ?_⟩
          · have q1 := hl.2.1
            have q4 := hl.2.2.1
            unfold fn_X6_bandInfo
            simp (disch := omega) only [↓cal_w6, ↓cal_w7, ↓lm1, l0, l1, l2, l3, l4, l5, l6, l7, l8, l9, l10, l11, l12, l13, l14, l31, l32, l44, l48, l50, l57, l59, l60, l74, l100, l110, l126, l300, l330, l500, l501, l801, l1000, l5000, l5010, l8010, l8192, l9000, l10000, l1000000, and_self, and_true, true_and, and_false, false_and, nI_add, pk_mul, nI_clamp, ↓reduceIte, eF, lT, lF, leT, leF, chk_d, chk_t, chk_inb, rfm_s, bnd_e, cal_e, calR_e, ↓chk_q w0, ↓rfm_q z0, ↓chk_q k0, w0, z0, k0, r00, r01, r02, r03, k1, n1, k2, n2, k3, n3, k4, rb, kb, rl, rs, ks, kl, ↓cal_q a1, a1, x6_isWithin, a3, if_true, gCC, q1, q4]
          · unfold fn_X7_bandInfo fn_X7_infoOf
            simp (disch := omega) only [↓cal_w6, ↓cal_w7, ↓lm1, l0, l1, l2, l3, l4, l5, l6, l7, l8, l9, l10, l11, l12, l13, l14, l31, l32, l44, l48, l50, l57, l59, l60, l74, l100, l110, l126, l300, l330, l500, l501, l801, l1000, l5000, l5010, l8010, l8192, l9000, l10000, l1000000, and_self, and_true, true_and, and_false, false_and, nI_add, pk_mul, nI_clamp, ↓reduceIte, eF, lT, lF, leT, leF, chk_d, chk_t, chk_inb, rfm_s, bnd_e, cal_e, calR_e, ↓chk_q kR, kR, k251, n251, r251, k252, n252, r252, k253, n253, r253, k254, n254, r254, k255, n255, r255, k256, n256, r256, k257, n257, r257, k258, n258, r258, k259, n259, r259, k260, n260, r260, k261, n261, r261, ↓cal_q a2, a2, x7_in', a3, if_true, q2, q3]
      · have q5 := x7_layersOf GR0 P h7 (by omega) (show b < 10 by omega) hf31
        rcases v3 with ⟨e0, hl⟩ | ⟨o, t, ht, hl⟩
        · have q2 := fun x => x7_yearOf0 GR0 P h7 (by omega) (show b < 10 by omega) (fun y hy => sm_0y e0 (by omega)) x
          have q3 := x7_found (T := T) (R := R) M none (fun y e => by cases e)
          have q3' : fn_X7_found T R nONE M = some (-2000000004, M) := q3
          refine ⟨-2000000004, ?_, ?_⟩
          · have q1 := hl.2.1
            rw [e0] at q1
            unfold fn_X6_bandInfo
            simp (disch := omega) only [↓cal_w6, ↓cal_w7, ↓lm1, l0, l1, l2, l3, l4, l5, l6, l7, l8, l9, l10, l11, l12, l13, l14, l31, l32, l44, l48, l50, l57, l59, l60, l74, l100, l110, l126, l300, l330, l500, l501, l801, l1000, l5000, l5010, l8010, l8192, l9000, l10000, l1000000, and_self, and_true, true_and, and_false, false_and, nI_add, pk_mul, nI_clamp, ↓reduceIte, eF, lT, lF, leT, leF, chk_d, chk_t, chk_inb, rfm_s, bnd_e, cal_e, calR_e, ↓chk_q w0, ↓rfm_q z0, ↓chk_q k0, w0, z0, k0, r00, r01, r02, r03, k1, n1, k2, n2, k3, n3, k4, rb, kb, rl, rs, ks, kl, ↓cal_q a1, a1, x6_isWithin, a3, if_true, gCC, q1]
          · unfold fn_X7_bandInfo fn_X7_infoOf
            simp (disch := omega) only [↓cal_w6, ↓cal_w7, ↓lm1, l0, l1, l2, l3, l4, l5, l6, l7, l8, l9, l10, l11, l12, l13, l14, l31, l32, l44, l48, l50, l57, l59, l60, l74, l100, l110, l126, l300, l330, l500, l501, l801, l1000, l5000, l5010, l8010, l8192, l9000, l10000, l1000000, and_self, and_true, true_and, and_false, false_and, nI_add, pk_mul, nI_clamp, ↓reduceIte, eF, lT, lF, leT, leF, chk_d, chk_t, chk_inb, rfm_s, bnd_e, cal_e, calR_e, ↓chk_q kR, kR, k251, n251, r251, k252, n252, r252, k253, n253, r253, k254, n254, r254, k255, n255, r255, k256, n256, r256, k257, n257, r257, k258, n258, r258, k259, n259, r259, k260, n260, r260, k261, n261, r261, ↓cal_q a2, a2, x7_in', a3, if_true, q5, q2, q3']
        · obtain ⟨t1', t2', t3', t4', t5', t6'⟩ := ht
          have htY : t < Y + 1 := by
            refine Nat.lt_of_not_le (fun hh => ?_)
            rw [GS_z g hb (by omega)] at t4'
            omega
          have hct : cnt (s.2.1 b) t = 1 := if_pos t4'
          have hcs : sm (cnt (s.2.1 b)) (Y + 1) = sm (cnt (s.2.1 b)) t + 1 := by
            rw [sm_tail (show t + 1 ≤ Y + 1 by omega) (fun y h1 h2 => cnt_z (t6' y (by omega) (by omega))), sm_s, hct]
          have ey : yl (s.2.1 b) (Y + 1) 0 (sm (cnt (s.2.1 b)) t) = some t := yl_at (by omega) (by omega) t4' (by rw [sm_0]; omega)
          have hcl : sm (cnt (s.2.1 b)) t ≤ t := by
            have hle : ∀ k, sm (cnt (s.2.1 b)) k ≤ k := by
              intro k
              induction k with
              | zero => exact Nat.le_refl _
              | succ k ih =>
                rw [sm_s]
                have : cnt (s.2.1 b) k ≤ 1 := by
                  unfold cnt
                  split <;> omega
                omega
            exact hle t
          have q2 := x7_yearOf GR0 P h7 (by omega) (show b < 10 by omega) hf31 (i := sm (cnt (s.2.1 b)) t) (by omega)
          have q3 := x7_found (T := T) (R := R) M (some t) (fun y e => by
            cases e
            omega)
          rw [ey] at q2
          simp only [fO_s] at q3
          have hpos := sm_le1 (s.2.1 b) (show t < 801 by omega)
          have e1 : sm (cnt (s.2.1 b)) t + 1 - 1 = sm (cnt (s.2.1 b)) t := rfl
          refine ⟨nI t, ?_, ?_⟩
          · have q1 := hl.2.1
            have q4 := hl.2.2.2
            unfold fn_X6_bandInfo
            simp (disch := omega) only [↓cal_w6, ↓cal_w7, ↓lm1, l0, l1, l2, l3, l4, l5, l6, l7, l8, l9, l10, l11, l12, l13, l14, l31, l32, l44, l48, l50, l57, l59, l60, l74, l100, l110, l126, l300, l330, l500, l501, l801, l1000, l5000, l5010, l8010, l8192, l9000, l10000, l1000000, and_self, and_true, true_and, and_false, false_and, nI_add, pk_mul, nI_clamp, ↓reduceIte, eF, lT, lF, leT, leF, chk_d, chk_t, chk_inb, rfm_s, bnd_e, cal_e, calR_e, ↓chk_q w0, ↓rfm_q z0, ↓chk_q k0, w0, z0, k0, r00, r01, r02, r03, k1, n1, k2, n2, k3, n3, k4, rb, kb, rl, rs, ks, kl, ↓cal_q a1, a1, x6_isWithin, a3, if_true, gCC, q1, q4]
          · rw [hcs] at q5
            unfold fn_X7_bandInfo fn_X7_infoOf
            simp (disch := omega) only [↓cal_w6, ↓cal_w7, ↓lm1, l0, l1, l2, l3, l4, l5, l6, l7, l8, l9, l10, l11, l12, l13, l14, l31, l32, l44, l48, l50, l57, l59, l60, l74, l100, l110, l126, l300, l330, l500, l501, l801, l1000, l5000, l5010, l8010, l8192, l9000, l10000, l1000000, and_self, and_true, true_and, and_false, false_and, nI_add, pk_mul, nI_clamp, ↓reduceIte, eF, lT, lF, leT, leF, chk_d, chk_t, chk_inb, rfm_s, bnd_e, cal_e, calR_e, ↓chk_q kR, kR, k251, n251, r251, k252, n252, r252, k253, n253, r253, k254, n254, r254, k255, n255, r255, k256, n256, r256, k257, n257, r257, k258, n258, r258, k259, n259, r259, k260, n260, r260, k261, n261, r261, ↓cal_q a2, a2, x7_in', a3, if_true, q5, nIs, e1, q2, q3]
      · refine ⟨nI (snS s.1 b), ?_, ?_⟩
        · have q1 := v1 0 (by omega)
          simp only [Nat.reduceAdd, Nat.add_zero] at q1
          have q2 := x5_sn tg0 M (l := CL ad M (β 4)) I t1 hb8
          rw [hM] at q2
          unfold fn_X6_bandInfo
          simp (disch := omega) only [↓cal_w6, ↓cal_w7, ↓lm1, l0, l1, l2, l3, l4, l5, l6, l7, l8, l9, l10, l11, l12, l13, l14, l31, l32, l44, l48, l50, l57, l59, l60, l74, l100, l110, l126, l300, l330, l500, l501, l801, l1000, l5000, l5010, l8010, l8192, l9000, l10000, l1000000, and_self, and_true, true_and, and_false, false_and, nI_add, pk_mul, nI_clamp, ↓reduceIte, eF, lT, lF, leT, leF, chk_d, chk_t, chk_inb, rfm_s, bnd_e, cal_e, calR_e, ↓chk_q w0, ↓rfm_q z0, ↓chk_q k0, w0, z0, k0, r00, r01, r02, r03, k1, n1, k2, n2, k3, n3, k4, rb, kb, rl, rs, ks, kl, ↓cal_q a1, a1, x6_isWithin, a3, if_true, gCC, q1, q2]
        · have q2 := M7_sn GR0 rsw I hb8
          unfold fn_X7_bandInfo fn_X7_infoOf
          simp (disch := omega) only [↓cal_w6, ↓cal_w7, ↓lm1, l0, l1, l2, l3, l4, l5, l6, l7, l8, l9, l10, l11, l12, l13, l14, l31, l32, l44, l48, l50, l57, l59, l60, l74, l100, l110, l126, l300, l330, l500, l501, l801, l1000, l5000, l5010, l8010, l8192, l9000, l10000, l1000000, and_self, and_true, true_and, and_false, false_and, nI_add, pk_mul, nI_clamp, ↓reduceIte, eF, lT, lF, leT, leF, chk_d, chk_t, chk_inb, rfm_s, bnd_e, cal_e, calR_e, ↓chk_q kR, kR, k251, n251, r251, k252, n252, r252, k253, n253, r253, k254, n254, r254, k255, n255, r255, k256, n256, r256, k257, n257, r257, k258, n258, r258, k259, n259, r259, k260, n260, r260, k261, n261, r261, ↓cal_q a2, a2, x7_in', a3, if_true, q2]
      · refine ⟨nI (mlS s.1 b), ?_, ?_⟩
        · have q1 := v1 0 (by omega)
          simp only [Nat.reduceAdd, Nat.add_zero] at q1
          have q2 := x5_ml tg0 M (l := CL ad M (β 4)) I t1 hb8
          rw [hM] at q2
          have q3 := t1 2 (by omega)
          unfold fn_X6_bandInfo
          simp (disch := omega) only [↓cal_w6, ↓cal_w7, ↓lm1, l0, l1, l2, l3, l4, l5, l6, l7, l8, l9, l10, l11, l12, l13, l14, l31, l32, l44, l48, l50, l57, l59, l60, l74, l100, l110, l126, l300, l330, l500, l501, l801, l1000, l5000, l5010, l8010, l8192, l9000, l10000, l1000000, and_self, and_true, true_and, and_false, false_and, nI_add, pk_mul, nI_clamp, ↓reduceIte, eF, lT, lF, leT, leF, chk_d, chk_t, chk_inb, rfm_s, bnd_e, cal_e, calR_e, ↓chk_q w0, ↓rfm_q z0, ↓chk_q k0, w0, z0, k0, r00, r01, r02, r03, k1, n1, k2, n2, k3, n3, k4, rb, kb, rl, rs, ks, kl, ↓cal_q a1, a1, x6_isWithin, a3, if_true, gCC, q1, q3, q2]
        · have q2 := M7_ml GR0 rsw I hb8
          unfold fn_X7_bandInfo fn_X7_infoOf
          simp (disch := omega) only [↓cal_w6, ↓cal_w7, ↓lm1, l0, l1, l2, l3, l4, l5, l6, l7, l8, l9, l10, l11, l12, l13, l14, l31, l32, l44, l48, l50, l57, l59, l60, l74, l100, l110, l126, l300, l330, l500, l501, l801, l1000, l5000, l5010, l8010, l8192, l9000, l10000, l1000000, and_self, and_true, true_and, and_false, false_and, nI_add, pk_mul, nI_clamp, ↓reduceIte, eF, lT, lF, leT, leF, chk_d, chk_t, chk_inb, rfm_s, bnd_e, cal_e, calR_e, ↓chk_q kR, kR, k251, n251, r251, k252, n252, r252, k253, n253, r253, k254, n254, r254, k255, n255, r255, k256, n256, r256, k257, n257, r257, k258, n258, r258, k259, n259, r259, k260, n260, r260, k261, n261, r261, ↓cal_q a2, a2, x7_in', a3, if_true, q2]
      · refine ⟨s.1 (14 + 6 * b + 3), ?_, ?_⟩
        · have q1 := v1 3 (by omega)
          simp only [Nat.reduceAdd] at q1
          unfold fn_X6_bandInfo
          simp (disch := omega) only [↓cal_w6, ↓cal_w7, ↓lm1, l0, l1, l2, l3, l4, l5, l6, l7, l8, l9, l10, l11, l12, l13, l14, l31, l32, l44, l48, l50, l57, l59, l60, l74, l100, l110, l126, l300, l330, l500, l501, l801, l1000, l5000, l5010, l8010, l8192, l9000, l10000, l1000000, and_self, and_true, true_and, and_false, false_and, nI_add, pk_mul, nI_clamp, ↓reduceIte, eF, lT, lF, leT, leF, chk_d, chk_t, chk_inb, rfm_s, bnd_e, cal_e, calR_e, ↓chk_q w0, ↓rfm_q z0, ↓chk_q k0, w0, z0, k0, r00, r01, r02, r03, k1, n1, k2, n2, k3, n3, k4, rb, kb, rl, rs, ks, ↓cal_q a1, a1, x6_isWithin, a3, if_true, gCC, q1]
        · have q2 := pv 3 (by omega)
          unfold fn_X7_bandInfo fn_X7_infoOf
          simp (disch := omega) only [↓cal_w6, ↓cal_w7, ↓lm1, l0, l1, l2, l3, l4, l5, l6, l7, l8, l9, l10, l11, l12, l13, l14, l31, l32, l44, l48, l50, l57, l59, l60, l74, l100, l110, l126, l300, l330, l500, l501, l801, l1000, l5000, l5010, l8010, l8192, l9000, l10000, l1000000, and_self, and_true, true_and, and_false, false_and, nI_add, pk_mul, nI_clamp, ↓reduceIte, eF, lT, lF, leT, leF, chk_d, chk_t, chk_inb, rfm_s, bnd_e, cal_e, calR_e, ↓chk_q kR, kR, k251, n251, r251, k252, n252, r252, k253, n253, r253, k254, n254, r254, k255, n255, r255, k256, n256, r256, k257, n257, r257, k258, n258, r258, k259, n259, r259, k260, n260, r260, k261, n261, r261, ↓cal_q a2, a2, x7_in', a3, if_true, nIs, Nat.reduceAdd, Nat.reduceSub, o0, q2]
      · refine ⟨s.1 (14 + 6 * b + 4), ?_, ?_⟩
        · have q1 := v1 4 (by omega)
          simp only [Nat.reduceAdd] at q1
          unfold fn_X6_bandInfo
          simp (disch := omega) only [↓cal_w6, ↓cal_w7, ↓lm1, l0, l1, l2, l3, l4, l5, l6, l7, l8, l9, l10, l11, l12, l13, l14, l31, l32, l44, l48, l50, l57, l59, l60, l74, l100, l110, l126, l300, l330, l500, l501, l801, l1000, l5000, l5010, l8010, l8192, l9000, l10000, l1000000, and_self, and_true, true_and, and_false, false_and, nI_add, pk_mul, nI_clamp, ↓reduceIte, eF, lT, lF, leT, leF, chk_d, chk_t, chk_inb, rfm_s, bnd_e, cal_e, calR_e, ↓chk_q w0, ↓rfm_q z0, ↓chk_q k0, w0, z0, k0, r00, r01, r02, r03, k1, n1, k2, n2, k3, n3, k4, rb, kb, rl, rs, ks, ↓cal_q a1, a1, x6_isWithin, a3, if_true, gCC, q1]
        · have q2 := pv 4 (by omega)
          unfold fn_X7_bandInfo fn_X7_infoOf
          simp (disch := omega) only [↓cal_w6, ↓cal_w7, ↓lm1, l0, l1, l2, l3, l4, l5, l6, l7, l8, l9, l10, l11, l12, l13, l14, l31, l32, l44, l48, l50, l57, l59, l60, l74, l100, l110, l126, l300, l330, l500, l501, l801, l1000, l5000, l5010, l8010, l8192, l9000, l10000, l1000000, and_self, and_true, true_and, and_false, false_and, nI_add, pk_mul, nI_clamp, ↓reduceIte, eF, lT, lF, leT, leF, chk_d, chk_t, chk_inb, rfm_s, bnd_e, cal_e, calR_e, ↓chk_q kR, kR, k251, n251, r251, k252, n252, r252, k253, n253, r253, k254, n254, r254, k255, n255, r255, k256, n256, r256, k257, n257, r257, k258, n258, r258, k259, n259, r259, k260, n260, r260, k261, n261, r261, ↓cal_q a2, a2, x7_in', a3, if_true, nIs, Nat.reduceAdd, Nat.reduceSub, o0, q2]
      · refine ⟨s.1 (14 + 6 * b + 5), ?_, ?_⟩
        · have q1 := v2 trivial
          unfold fn_X6_bandInfo
          simp (disch := omega) only [↓cal_w6, ↓cal_w7, ↓lm1, l0, l1, l2, l3, l4, l5, l6, l7, l8, l9, l10, l11, l12, l13, l14, l31, l32, l44, l48, l50, l57, l59, l60, l74, l100, l110, l126, l300, l330, l500, l501, l801, l1000, l5000, l5010, l8010, l8192, l9000, l10000, l1000000, and_self, and_true, true_and, and_false, false_and, nI_add, pk_mul, nI_clamp, ↓reduceIte, eF, lT, lF, leT, leF, chk_d, chk_t, chk_inb, rfm_s, bnd_e, cal_e, calR_e, ↓chk_q w0, ↓rfm_q z0, ↓chk_q k0, w0, z0, k0, r00, r01, r02, r03, k1, n1, k2, n2, k3, n3, k4, rb, kb, rl, rs, ks, ↓cal_q a1, a1, x6_isWithin, a3, if_true, gCC, q1]
        · have q2 := pv 5 (by omega)
          unfold fn_X7_bandInfo fn_X7_infoOf
          simp (disch := omega) only [↓cal_w6, ↓cal_w7, ↓lm1, l0, l1, l2, l3, l4, l5, l6, l7, l8, l9, l10, l11, l12, l13, l14, l31, l32, l44, l48, l50, l57, l59, l60, l74, l100, l110, l126, l300, l330, l500, l501, l801, l1000, l5000, l5010, l8010, l8192, l9000, l10000, l1000000, and_self, and_true, true_and, and_false, false_and, nI_add, pk_mul, nI_clamp, ↓reduceIte, eF, lT, lF, leT, leF, chk_d, chk_t, chk_inb, rfm_s, bnd_e, cal_e, calR_e, ↓chk_q kR, kR, k251, n251, r251, k252, n252, r252, k253, n253, r253, k254, n254, r254, k255, n255, r255, k256, n256, r256, k257, n257, r257, k258, n258, r258, k259, n259, r259, k260, n260, r260, k261, n261, r261, ↓cal_q a2, a2, x7_in', a3, if_true, nIs, Nat.reduceAdd, Nat.reduceSub, o0, q2]
    · have a3 : (nI 0 ≤ y ∧ y ≤ nI 11) = False := in_f (by omega) (by omega) hy
      refine ⟨-2000000001, ?_, ?_⟩
      · unfold fn_X6_bandInfo
        simp (disch := omega) only [↓cal_w6, ↓cal_w7, ↓lm1, l0, l1, l2, l3, l4, l5, l6, l7, l8, l9, l10, l11, l12, l13, l14, l31, l32, l44, l48, l50, l57, l59, l60, l74, l100, l110, l126, l300, l330, l500, l501, l801, l1000, l5000, l5010, l8010, l8192, l9000, l10000, l1000000, and_self, and_true, true_and, and_false, false_and, nI_add, pk_mul, nI_clamp, ↓reduceIte, eF, lT, lF, leT, leF, chk_d, chk_t, chk_inb, rfm_s, bnd_e, cal_e, calR_e, ↓chk_q w0, ↓rfm_q z0, ↓chk_q k0, w0, z0, k0, r00, r01, r02, r03, k1, n1, k2, n2, k3, n3, k4, rb, kb, rl, rs, ks, ↓cal_q a1, a1, x6_isWithin, a3, if_false]
      · unfold fn_X7_bandInfo
        simp (disch := omega) only [↓cal_w6, ↓cal_w7, ↓lm1, l0, l1, l2, l3, l4, l5, l6, l7, l8, l9, l10, l11, l12, l13, l14, l31, l32, l44, l48, l50, l57, l59, l60, l74, l100, l110, l126, l300, l330, l500, l501, l801, l1000, l5000, l5010, l8010, l8192, l9000, l10000, l1000000, and_self, and_true, true_and, and_false, false_and, nI_add, pk_mul, nI_clamp, ↓reduceIte, eF, lT, lF, leT, leF, chk_d, chk_t, chk_inb, rfm_s, bnd_e, cal_e, calR_e, ↓chk_q kR, kR, k251, n251, r251, k252, n252, r252, k253, n253, r253, k254, n254, r254, k255, n255, r255, k256, n256, r256, k257, n257, r257, k258, n258, r258, k259, n259, r259, k260, n260, r260, k261, n261, r261, ↓cal_q a2, a2, x7_in', a3, if_false]
  · have a1 := x5_hasBandN tg0 M (l := CL ad M (β 4)) t04 hx
    rw [hM] at a1
    have a2 := x7_isBandN GR0 p8 hnb hx
    refine ⟨-2000000001, ?_, ?_⟩
    · unfold fn_X6_bandInfo
      simp (disch := omega) only [↓cal_w6, ↓cal_w7, ↓lm1, l0, l1, l2, l3, l4, l5, l6, l7, l8, l9, l10, l11, l12, l13, l14, l31, l32, l44, l48, l50, l57, l59, l60, l74, l100, l110, l126, l300, l330, l500, l501, l801, l1000, l5000, l5010, l8010, l8192, l9000, l10000, l1000000, and_self, and_true, true_and, and_false, false_and, nI_add, pk_mul, nI_clamp, ↓reduceIte, eF, lT, lF, leT, leF, chk_d, chk_t, chk_inb, rfm_s, bnd_e, cal_e, calR_e, ↓chk_q w0, ↓rfm_q z0, ↓chk_q k0, w0, z0, k0, r00, r01, r02, r03, k1, n1, k2, n2, k3, n3, k4, rb, kb, rl, rs, ks, ↓cal_q a1, a1]
    · unfold fn_X7_bandInfo
      simp (disch := omega) only [↓cal_w6, ↓cal_w7, ↓lm1, l0, l1, l2, l3, l4, l5, l6, l7, l8, l9, l10, l11, l12, l13, l14, l31, l32, l44, l48, l50, l57, l59, l60, l74, l100, l110, l126, l300, l330, l500, l501, l801, l1000, l5000, l5010, l8010, l8192, l9000, l10000, l1000000, and_self, and_true, true_and, and_false, false_and, nI_add, pk_mul, nI_clamp, ↓reduceIte, eF, lT, lF, leT, leF, chk_d, chk_t, chk_inb, rfm_s, bnd_e, cal_e, calR_e, ↓chk_q kR, kR, k251, n251, r251, k252, n252, r252, k253, n253, r253, k254, n254, r254, k255, n255, r255, k256, n256, r256, k257, n257, r257, k258, n258, r258, k259, n259, r259, k260, n260, r260, k261, n261, r261, ↓cal_q a2, a2]
