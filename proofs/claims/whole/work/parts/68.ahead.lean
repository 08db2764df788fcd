/-! both together: years ahead -/
def SR {ρ : Type} (ad : Nat → Nat) (T : Ty) (R : Rm) (q6 : Option (ρ × Mm)) (q7 : Mm → Option (ρ × Mm)) : Prop := ∃ r M1 M2, q6 = some (r, M1) ∧ q7 M1 = some (r, M2) ∧ WW ad T M2 R
theorem SR_no {ρ : Type} {ad : Nat → Nat} {T : Ty} {q6 : Option (ρ × Mm)} {q7 : Mm → Option (ρ × Mm)} {M : Mm} {R : Rm} {s : Sx} {n : Nat} {h : Nat → Sx} {tl : Nat} {tx : Nat → Nat} {β : Nat → Nat} {σ : Nat → Nat → Nat} (w : WD ad T M R s n h tl tx β σ) (r : ρ) (h6 : q6 = some (r, M)) (h7 : q7 M = some (r, M)) : SR ad T R q6 q7 := ⟨r, M, M, h6, h7, s, n, h, tl, tx, β, σ, w⟩
theorem aM_0 {ad : Nat → Nat} (hi : ∀ a b : Nat, (ad a = ad b) = (a = b)) (M : Mm) {d1 s1 d2 s2 d3 s3 : Nat} {r : Nat} (h1 : r ≠ d1) (h2 : r ≠ d2) (h3 : r ≠ d3) : (aM ad M d1 s1 d2 s2 d3 s3).1 (ad r) = M.1 (ad r) ∧ (aM ad M d1 s1 d2 s2 d3 s3).2 (ad r) = M.2 (ad r) := ⟨aM_I hi M h1 h2, aM_J hi M h3⟩
/-- the reference's memory behind a look ahead: set aside, gone on, brought back -/
def aS (ad : Nat → Nat) (M : Mm) : Mm := aM ad M 255 252 254 251 256 253
def aB (ad : Nat → Nat) (M : Mm) : Mm := aM ad M 252 255 251 254 253 256
theorem back_w {ad : Nat → Nat} {T : Ty} {M : Mm} {R : Rm} {s : Sx} {n : Nat} {h : Nat → Sx} {tl : Nat} {tx : Nat → Nat} {β : Nat → Nat} {σ : Nat → Nat → Nat} (w : WD ad T M R s n h tl tx β σ) (c : Nat → Nat → Int32) (l : Nat → Int64) (t : Sx) : WW ad T (aB ad (PS ad (aS ad (TV (qq ad 1) M c l)) t)) R := by
  obtain ⟨G, hs, ct, GR, rsw, rk, rx⟩ := w
  have hi := GR.1
  have f1 := FY_TV hi (.inl rfl) M c l
  obtain ⟨sa, rs1⟩ := SA_set hi (FY_RS f1 rsw)
  have cs1 := CS_trial hi G hs c l
  have ct1 : CT ad (TV (qq ad 1) M c l) tl tx := CT_FX ct (TV_out hi (.inl rfl) (.inr (.inr (.inl rfl))) M c l).1 (TV_out hi (.inl rfl) (.inr (.inr (.inr (.inl rfl)))) M c l).1
  have sa2 : SA ad (PS ad (aS ad (TV (qq ad 1) M c l)) t) s := by
    obtain ⟨a1, a2, a3⟩ := sa
    refine ⟨fun k hk => ?_, fun k hk => ?_, fun k hk => ?_⟩
    · rw [PS_I hi _ _ (by omega) (by omega)]
      exact a1 k hk
    · rw [PS_I hi _ _ (by omega) (by omega)]
      exact a2 k hk
    · rw [PS_J hi _ _ (by omega)]
      exact a3 k hk
  obtain ⟨s', b1, b2⟩ := SA_back hi sa2 (PS_RS hi _ t)
  have fr : ∀ r, r < 251 ∨ 256 < r → (aB ad (PS ad (aS ad (TV (qq ad 1) M c l)) t)).1 (ad r) = (TV (qq ad 1) M c l).1 (ad r) ∧ (aB ad (PS ad (aS ad (TV (qq ad 1) M c l)) t)).2 (ad r) = (TV (qq ad 1) M c l).2 (ad r) := fun r hr => by
    unfold aB aS
    obtain ⟨x1, x2⟩ := aM_0 hi (PS ad (aM ad (TV (qq ad 1) M c l) 255 252 254 251 256 253) t) (d1 := 252) (s1 := 255) (d2 := 251) (s2 := 254) (d3 := 253) (s3 := 256) (r := r) (by omega) (by omega) (by omega)
    obtain ⟨y1, y2⟩ := aM_0 hi (TV (qq ad 1) M c l) (d1 := 255) (s1 := 252) (d2 := 254) (s2 := 251) (d3 := 256) (s3 := 253) (r := r) (by omega) (by omega) (by omega)
    rw [x1, x2, PS_I hi _ _ (by omega) (by omega), PS_J hi _ _ (by omega)]
    exact ⟨y1, y2⟩
  obtain ⟨c1, c2, c3, c4, c5, c6⟩ := CS_FX G cs1 (fun r hr => fr r (by omega))
  refine ⟨s', n, h, tl, tx, β, σ, G, ⟨c1, c2, EQ_RT b2 (OK_IV c5) c3, c4, EQ_OK b2 c5, c6⟩, CT_FX ct1 (fr 207 (by omega)).1 (fr 208 (by omega)).1, GR, b1, ?_, ?_⟩
  · exact RK_fr (FY_RK f1 rk) (congrFun (fr 250 (by omega)).1 10) (fr 257 (by omega)).1 (fr 258 (by omega)).1 (fr 259 (by omega)).1 (fr 260 (by omega)).2
  · exact RX_fr (FY_RX f1 rx) (congrFun (fr 250 (by omega)).1 12) (fr 261 (by omega)).1
theorem copy_w {ad : Nat → Nat} {T : Ty} {M : Mm} {R : Rm} {s : Sx} {n : Nat} {h : Nat → Sx} {tl : Nat} {tx : Nat → Nat} {β : Nat → Nat} {σ : Nat → Nat → Nat} (w : WD ad T M R s n h tl tx β σ) {K Y nb ns : Nat} (g : GS K Y nb ns s) : ∃ c l, fn_X5_copyFrom T R (qq ad 1 0) (qq ad (β 4) 0) M = some ((), TV (qq ad 1) M c l) ∧ RT QT (σ 1) c l s := by
  obtain ⟨G, hs, ct, GR, rsw, rk, rx⟩ := w
  have hi := GR.1
  have b4 := CG_bs G (show 4 < 5 by omega)
  have hne : β 4 ≠ 1 := by
    unfold BS at b4
    omega
  obtain ⟨c', l', p1, p2⟩ := x5_copyFrom (CG_tg G (.inl rfl)) (CG_tg G (.inr b4)) M (d := CC ad M (β 4)) (ld := CL ad M (β 4)) (fun c l j k hj => TV_o M c l k (fun j' hj' => qq_sep hi (.inr b4) (.inl rfl) hne hj hj')) (fun c l k => TV_oj M c l k (qq_sep hi (.inr b4) (.inl rfl) hne (by omega) (by omega))) g hs.2.2.1 (CC ad M 1) (CL ad M 1)
  rw [M_TV hi M 1] at p1
  exact ⟨c', l', p1, p2⟩
theorem t64 (x : Int32) : x.toInt64.toInt32 = x := by simp
theorem tot_0 {f : Nat → Nat → Nat} {Y nb : Nat} (h : tot f Y nb = 0) : yl (fun y => sm (fun b => f b y) nb) (Y + 1) 0 0 = none := by
  unfold tot at h
  rw [sm_swap] at h
  exact yl_z (fun z _ hz => sm_0y (n := Y + 1) h (by omega))
theorem g_ifYears {ad : Nat → Nat} {T : Ty} {M : Mm} {R : Rm} {s : Sx} {n : Nat} {h : Nat → Sx} {tl' : Nat} {tx : Nat → Nat} {β : Nat → Nat} {σ : Nat → Nat → Nat} (w : WD ad T M R s n h tl' tx β σ) (x y : Int32) : SR ad T R (fn_X6_ifYears T R (ad 0) x y M) (fun M1 => fn_X7_ifYears T R (ad 250) x y M1) := by
  have w1 := w
  obtain ⟨G, hs, ct, GR, rsw, rk, rx⟩ := w
  have hi := GR.1
  have b4 := CG_bs G (show 4 < 5 by omega)
  have tg := CG_tg G (.inr b4)
  have tg0 := tg
  have hM := M_TV hi M (β 4)
  have rt := hs.2.2.1
  have rt0 := rt
  obtain ⟨Y, nb, ns, g, hY5, hz⟩ := hs.2.2.2.2.1
  have P := RS_RP rsw
  have I := g.1.1
  have hY8 := g.2.2.2.2.1
  have hnb := g.2.2.2.2.2.1
  have hns := g.2.2.2.2.2.2.1
  have n7 := g.2.2.2.2.2.2.2.1
  have n8 := g.2.2.2.2.2.2.2.2.1
  have n9 := g.2.2.2.2.2.2.2.2.2
  have h7 := g.2.1
  have h8 := g.2.2.1
  have h9 := g.2.2.2.1
  have hK : 1000000 * nb + 300000 * Y < 2 ^ 30 := by omega
  have z0 := G.2.2.2.2.1
  have w0 := G.1
  have p7 : gI M (ad 251) 7 = nI Y := (P.1 7 (by omega)).trans h7
  have p8 : gI M (ad 251) 8 = nI nb := (P.1 8 (by omega)).trans h8
  have p9 : gI M (ad 251) 9 = nI ns := (P.1 9 (by omega)).trans h9
  have GR0 := GR
  obtain ⟨_, kR, k251, n251, r251, k252, n252, r252, k253, n253, r253, k254, n254, r254, k255, n255, r255, k256, n256, r256, k257, n257, r257, k258, n258, r258, k259, n259, r259, k260, n260, r260, k261, n261, r261⟩ := GR
  obtain ⟨t1, t04, t05, t06, t40, t41, t42, t43, tl, tb, ts⟩ := rt
  rw [h8] at t04
  rw [h9] at t05
  rw [h7] at t06
  obtain ⟨hq, k0, r00, r01, r02, r03, k1, n1, k2, n2, k3, n3, k4, rb, kb, rl, lg, rs, ks, sl, si⟩ := tg
  by_cases hx : nI 1 ≤ x ∧ x ≤ nI 100
  rotate_left
  · have hx' : (nI 1 ≤ x ∧ x ≤ nI 100) = False := eq_false hx
    refine SR_no w1 (-2000000001) ?_ ?_
    · unfold fn_X6_ifYears
      simp (disch := omega) only [↓cal_w6, ↓cal_w7, ↓lm1, l0, l1, l2, l3, l4, l5, l6, l7, l8, l9, l10, l11, l12, l13, l14, l31, l32, l44, l48, l50, l57, l59, l60, l74, l100, l110, l126, l300, l330, l500, l501, l801, l1000, l5000, l5010, l8010, l8192, l9000, l10000, l1000000, and_self, and_true, true_and, and_false, false_and, nI_add, pk_mul, nI_clamp, ↓reduceIte, eF, lT, lF, leT, leF, chk_d, chk_t, chk_inb, rfm_s, bnd_e, cal_e, calR_e, hx']
    · show fn_X7_ifYears T R (ad 250) x y M = _
      unfold fn_X7_ifYears
      simp (disch := omega) only [↓cal_w6, ↓cal_w7, ↓lm1, l0, l1, l2, l3, l4, l5, l6, l7, l8, l9, l10, l11, l12, l13, l14, l31, l32, l44, l48, l50, l57, l59, l60, l74, l100, l110, l126, l300, l330, l500, l501, l801, l1000, l5000, l5010, l8010, l8192, l9000, l10000, l1000000, and_self, and_true, true_and, and_false, false_and, nI_add, pk_mul, nI_clamp, ↓reduceIte, eF, lT, lF, leT, leF, chk_d, chk_t, chk_inb, rfm_s, bnd_e, cal_e, calR_e, hx']
  obtain ⟨v, rfl, v1, v2⟩ := bet hx (by omega) (by omega)
  have hx' : (nI 1 ≤ nI v ∧ nI v ≤ nI 100) = True := eq_true hx
  by_cases hy : nI 0 ≤ y ∧ y ≤ nI 4
  rotate_left
  · have hy' : (nI 0 ≤ y ∧ y ≤ nI 4) = False := eq_false hy
    refine SR_no w1 (-2000000001) ?_ ?_
    · unfold fn_X6_ifYears
      simp (disch := omega) only [↓cal_w6, ↓cal_w7, ↓lm1, l0, l1, l2, l3, l4, l5, l6, l7, l8, l9, l10, l11, l12, l13, l14, l31, l32, l44, l48, l50, l57, l59, l60, l74, l100, l110, l126, l300, l330, l500, l501, l801, l1000, l5000, l5010, l8010, l8192, l9000, l10000, l1000000, and_self, and_true, true_and, and_false, false_and, nI_add, pk_mul, nI_clamp, ↓reduceIte, eF, lT, lF, leT, leF, chk_d, chk_t, chk_inb, rfm_s, bnd_e, cal_e, calR_e, hx', hy']
    · show fn_X7_ifYears T R (ad 250) (nI v) y M = _
      unfold fn_X7_ifYears
      simp (disch := omega) only [↓cal_w6, ↓cal_w7, ↓lm1, l0, l1, l2, l3, l4, l5, l6, l7, l8, l9, l10, l11, l12, l13, l14, l31, l32, l44, l48, l50, l57, l59, l60, l74, l100, l110, l126, l300, l330, l500, l501, l801, l1000, l5000, l5010, l8010, l8192, l9000, l10000, l1000000, and_self, and_true, true_and, and_false, false_and, nI_add, pk_mul, nI_clamp, ↓reduceIte, eF, lT, lF, leT, leF, chk_d, chk_t, chk_inb, rfm_s, bnd_e, cal_e, calR_e, hx', hy']
  obtain ⟨j, rfl, j1, j2⟩ := bet hy (by omega) (by omega)
  have hy' : (nI 0 ≤ nI j ∧ nI j ≤ nI 4) = True := eq_true hy
  by_cases h0 : nb = 0
  · subst h0
    refine SR_no w1 (-2000000002) ?_ ?_
    · unfold fn_X6_ifYears
      simp (disch := omega) only [↓cal_w6, ↓cal_w7, ↓lm1, l0, l1, l2, l3, l4, l5, l6, l7, l8, l9, l10, l11, l12, l13, l14, l31, l32, l44, l48, l50, l57, l59, l60, l74, l100, l110, l126, l300, l330, l500, l501, l801, l1000, l5000, l5010, l8010, l8192, l9000, l10000, l1000000, and_self, and_true, true_and, and_false, false_and, nI_add, pk_mul, nI_clamp, ↓reduceIte, eF, lT, lF, leT, leF, chk_d, chk_t, chk_inb, rfm_s, bnd_e, cal_e, calR_e, hx', hy', ↓chk_q w0, ↓rfm_q z0, ↓chk_q k0, w0, z0, k0, r00, r01, r02, r03, k1, n1, k2, n2, k3, n3, k4, rb, kb, rl, rs, ks, gCC, t04]
    · show fn_X7_ifYears T R (ad 250) (nI v) (nI j) M = _
      unfold fn_X7_ifYears
      simp (disch := omega) only [↓cal_w6, ↓cal_w7, ↓lm1, l0, l1, l2, l3, l4, l5, l6, l7, l8, l9, l10, l11, l12, l13, l14, l31, l32, l44, l48, l50, l57, l59, l60, l74, l100, l110, l126, l300, l330, l500, l501, l801, l1000, l5000, l5010, l8010, l8192, l9000, l10000, l1000000, and_self, and_true, true_and, and_false, false_and, nI_add, pk_mul, nI_clamp, ↓reduceIte, eF, lT, lF, leT, leF, chk_d, chk_t, chk_inb, rfm_s, bnd_e, cal_e, calR_e, hx', hy', ↓chk_q kR, kR, k251, n251, r251, k252, n252, r252, k253, n253, r253, k254, n254, r254, k255, n255, r255, k256, n256, r256, k257, n257, r257, k258, n258, r258, k259, n259, r259, k260, n260, r260, k261, n261, r261, p8]
  have tz := z0
  have zt : R (ad 0) 0 = some (qq ad 1 0) := G.2.1
  have tg1 := CG_tg G (.inl rfl)
  have k1' : isK T (qq ad 1 0) 5 = true := tg1.2.1
  have g1 := GS_Ys g v (by omega) (by omega)
  obtain ⟨c, la, u1, u2⟩ := copy_w w1 g
  obtain ⟨c2, lb, u3, u4⟩ := x5_years tg1 M g (n := v) (by omega) (by omega) (by omega) u2
  have hne : β 4 ≠ 1 := by
    unfold BS at b4
    omega
  -- the reference
  have f1 := FY_TV hi (.inl rfl) M c2 lb
  have q8 : gI (TV (qq ad 1) M c2 lb) (ad 251) 8 = nI nb := (congrFun (f1 251 (by omega)).1 8).trans p8
  obtain ⟨sa, rs1⟩ := SA_set hi (FY_RS f1 rsw)
  have a1 : fn_X7_setAside T R (ad 250) (TV (qq ad 1) M c2 lb) = some ((), aS ad (TV (qq ad 1) M c2 lb)) := x7_setAside GR0 _
  have a2 := x7_goOn GR0 (M := aS ad (TV (qq ad 1) M c2 lb)) (n := v) g (by omega) (by omega) (by omega)
  rw [show PS ad (aS ad (TV (qq ad 1) M c2 lb)) s = aS ad (TV (qq ad 1) M c2 lb) from RS_PS hi rs1] at a2
  have a3 : fn_X7_bringBack T R (ad 250) (PS ad (aS ad (TV (qq ad 1) M c2 lb)) (sYs v s)) = some ((), aB ad (PS ad (aS ad (TV (qq ad 1) M c2 lb)) (sYs v s))) := x7_bringBack GR0 _
  have rs2 := PS_RS hi (aS ad (TV (qq ad 1) M c2 lb)) (sYs v s)
  have P2 := RS_RP rs2
  have hnb2 := g1.2.2.1
  have main : ∃ r, (∀ k : Int32 → Mm → Option (Int32 × Mm), k r (TV (qq ad 1) M c2 lb) = some (r, TV (qq ad 1) M c2 lb) → fn_X6_ifYears T R (ad 0) (nI v) (nI j) M = some (r, TV (qq ad 1) M c2 lb)) ∧ fn_X7_brought T R (ad 250) (nI j) (PS ad (aS ad (TV (qq ad 1) M c2 lb)) (sYs v s)) = some (r, PS ad (aS ad (TV (qq ad 1) M c2 lb)) (sYs v s)) := by
    rcases (show j = 0 ∨ j = 1 ∨ j = 2 ∨ j = 3 ∨ j = 4 by omega) with rfl | rfl | rfl | rfl | rfl
    · have r1 := x5_allIce tg1 M g1 (by omega) u4
      have r2 : fn_X7_allOfBands T R (ad 250) (PS ad (aS ad (TV (qq ad 1) M c2 lb)) (sYs v s)) = some (nI (tot (sYs v s).2.1 (Y + v) nb), _) := x7_allOfBands GR0 P2 g1.2.1 (by omega) g1.2.2.1 hnb
      have r3 := P2.1 10 (by omega)
      refine ⟨(sYs v s).1 10 + nI (tot (sYs v s).2.1 (Y + v) nb), fun _ _ => ?_, ?_⟩
      · unfold fn_X6_ifYears
        simp (disch := omega) only [↓cal_w6, ↓cal_w7, ↓lm1, l0, l1, l2, l3, l4, l5, l6, l7, l8, l9, l10, l11, l12, l13, l14, l31, l32, l44, l48, l50, l57, l59, l60, l74, l100, l110, l126, l300, l330, l500, l501, l801, l1000, l5000, l5010, l8010, l8192, l9000, l10000, l1000000, and_self, and_true, true_and, and_false, false_and, nI_add, pk_mul, nI_clamp, ↓reduceIte, eF, lT, lF, leT, leF, chk_d, chk_t, chk_inb, rfm_s, bnd_e, cal_e, calR_e, hx', hy', ↓chk_q w0, ↓rfm_q z0, ↓chk_q k0, w0, z0, k0, r00, r01, r02, r03, k1, n1, k2, n2, k3, n3, k4, rb, kb, rl, rs, ks, gCC, t04, h0, zt, k1', ↓cal_q u1, ↓cal_q u3, r1, t64]
      · unfold fn_X7_brought
        simp (disch := omega) only [↓cal_w6, ↓cal_w7, ↓lm1, l0, l1, l2, l3, l4, l5, l6, l7, l8, l9, l10, l11, l12, l13, l14, l31, l32, l44, l48, l50, l57, l59, l60, l74, l100, l110, l126, l300, l330, l500, l501, l801, l1000, l5000, l5010, l8010, l8192, l9000, l10000, l1000000, and_self, and_true, true_and, and_false, false_and, nI_add, pk_mul, nI_clamp, ↓reduceIte, eF, lT, lF, leT, leF, chk_d, chk_t, chk_inb, rfm_s, bnd_e, cal_e, calR_e, ↓chk_q kR, kR, k251, n251, r251, k252, n252, r252, k253, n253, r253, k254, n254, r254, k255, n255, r255, k256, n256, r256, k257, n257, r257, k258, n258, r258, k259, n259, r259, k260, n260, r260, k261, n261, r261, r2, r3]
    · have r1 : CC ad (TV (qq ad 1) M c2 lb) 1 4 2 = (sYs v s).1 12 := (TV_g tg1.1 M c2 lb 2 (by omega)).trans u4.2.2.2.2.2.2.1
      have r2 : CC ad (TV (qq ad 1) M c2 lb) (β 4) 4 2 = s.1 12 := (congrFun (CC_n hi (.inl rfl) (.inr b4) hne M c2 lb (j := 4) (by omega)) 2).trans t42
      have r3 := P2.1 12 (by omega)
      have r4 : gI (PS ad (aS ad (TV (qq ad 1) M c2 lb)) (sYs v s)) (ad 254) 12 = s.1 12 := by
        unfold gI
        rw [PS_I hi _ _ (by omega) (by omega)]
        exact sa.2.1 12 (by omega)
      have k14 : isK T (qq ad 1 4) 1 = true := tg1.2.2.2.2.2.2.2.2.2.2.2.2.1
      have r14 : R (qq ad 1 0) 3 = some (qq ad 1 4) := tg1.2.2.2.2.2.1
      refine ⟨(sYs v s).1 12 - s.1 12, fun _ _ => ?_, ?_⟩
      · unfold fn_X6_ifYears
        simp (disch := omega) only [↓cal_w6, ↓cal_w7, ↓lm1, l0, l1, l2, l3, l4, l5, l6, l7, l8, l9, l10, l11, l12, l13, l14, l31, l32, l44, l48, l50, l57, l59, l60, l74, l100, l110, l126, l300, l330, l500, l501, l801, l1000, l5000, l5010, l8010, l8192, l9000, l10000, l1000000, and_self, and_true, true_and, and_false, false_and, nI_add, pk_mul, nI_clamp, ↓reduceIte, eF, lT, lF, leT, leF, chk_d, chk_t, chk_inb, rfm_s, bnd_e, cal_e, calR_e, hx', hy', ↓chk_q w0, ↓rfm_q z0, ↓chk_q k0, w0, z0, k0, r00, r01, r02, r03, k1, n1, k2, n2, k3, n3, k4, rb, kb, rl, rs, ks, gCC, t04, h0, zt, k1', ↓cal_q u1, ↓cal_q u3, k14, r14, r1, r2]
      · unfold fn_X7_brought
        simp (disch := omega) only [↓cal_w6, ↓cal_w7, ↓lm1, l0, l1, l2, l3, l4, l5, l6, l7, l8, l9, l10, l11, l12, l13, l14, l31, l32, l44, l48, l50, l57, l59, l60, l74, l100, l110, l126, l300, l330, l500, l501, l801, l1000, l5000, l5010, l8010, l8192, l9000, l10000, l1000000, and_self, and_true, true_and, and_false, false_and, nI_add, pk_mul, nI_clamp, ↓reduceIte, eF, lT, lF, leT, leF, chk_d, chk_t, chk_inb, rfm_s, bnd_e, cal_e, calR_e, ↓chk_q kR, kR, k251, n251, r251, k252, n252, r252, k253, n253, r253, k254, n254, r254, k255, n255, r255, k256, n256, r256, k257, n257, r257, k258, n258, r258, k259, n259, r259, k260, n260, r260, k261, n261, r261, r3, r4]
    · have r1 : gJ (TV (qq ad 1) M c2 lb) (qq ad 1 0) 9 = (sYs v s).2.2 2 := (TV_gj (qq ad 1) M c2 lb 9).trans (u4.2.2.2.2.2.2.2.2.1 2 (by omega))
      have r2 : gJ (TV (qq ad 1) M c2 lb) (qq ad (β 4) 0) 9 = s.2.2 2 := (congrFun (CL_n hi (.inl rfl) (.inr b4) hne M c2 lb) 9).trans (tl 2 (by omega))
      have r3 := P2.2.2 2 (by omega)
      have r4 : gJ (PS ad (aS ad (TV (qq ad 1) M c2 lb)) (sYs v s)) (ad 256) 2 = s.2.2 2 := by
        unfold gJ
        rw [PS_J hi _ _ (by omega)]
        exact sa.2.2 2 (by omega)
      refine ⟨((sYs v s).2.2 2 - s.2.2 2).toInt32, fun _ _ => ?_, ?_⟩
      · unfold fn_X6_ifYears
        simp (disch := omega) only [↓cal_w6, ↓cal_w7, ↓lm1, l0, l1, l2, l3, l4, l5, l6, l7, l8, l9, l10, l11, l12, l13, l14, l31, l32, l44, l48, l50, l57, l59, l60, l74, l100, l110, l126, l300, l330, l500, l501, l801, l1000, l5000, l5010, l8010, l8192, l9000, l10000, l1000000, and_self, and_true, true_and, and_false, false_and, nI_add, pk_mul, nI_clamp, ↓reduceIte, eF, lT, lF, leT, leF, chk_d, chk_t, chk_inb, rfm_s, bnd_e, cal_e, calR_e, hx', hy', ↓chk_q w0, ↓rfm_q z0, ↓chk_q k0, w0, z0, k0, r00, r01, r02, r03, k1, n1, k2, n2, k3, n3, k4, rb, kb, rl, rs, ks, gCC, t04, h0, zt, k1', ↓cal_q u1, ↓cal_q u3, r1, r2]
      · unfold fn_X7_brought
        simp (disch := omega) only [↓cal_w6, ↓cal_w7, ↓lm1, l0, l1, l2, l3, l4, l5, l6, l7, l8, l9, l10, l11, l12, l13, l14, l31, l32, l44, l48, l50, l57, l59, l60, l74, l100, l110, l126, l300, l330, l500, l501, l801, l1000, l5000, l5010, l8010, l8192, l9000, l10000, l1000000, and_self, and_true, true_and, and_false, false_and, nI_add, pk_mul, nI_clamp, ↓reduceIte, eF, lT, lF, leT, leF, chk_d, chk_t, chk_inb, rfm_s, bnd_e, cal_e, calR_e, ↓chk_q kR, kR, k251, n251, r251, k252, n252, r252, k253, n253, r253, k254, n254, r254, k255, n255, r255, k256, n256, r256, k257, n257, r257, k258, n258, r258, k259, n259, r259, k260, n260, r260, k261, n261, r261, r3, r4]
    · have r1 := x5_standing tg1 M g1 u4
      have r2 := x7_standing GR0 P2 g1.2.2.2.1 hns
      refine ⟨nI (sm (stN (sYs v s).1) ns), fun _ _ => ?_, ?_⟩
      · unfold fn_X6_ifYears
        simp (disch := omega) only [↓cal_w6, ↓cal_w7, ↓lm1, l0, l1, l2, l3, l4, l5, l6, l7, l8, l9, l10, l11, l12, l13, l14, l31, l32, l44, l48, l50, l57, l59, l60, l74, l100, l110, l126, l300, l330, l500, l501, l801, l1000, l5000, l5010, l8010, l8192, l9000, l10000, l1000000, and_self, and_true, true_and, and_false, false_and, nI_add, pk_mul, nI_clamp, ↓reduceIte, eF, lT, lF, leT, leF, chk_d, chk_t, chk_inb, rfm_s, bnd_e, cal_e, calR_e, hx', hy', ↓chk_q w0, ↓rfm_q z0, ↓chk_q k0, w0, z0, k0, r00, r01, r02, r03, k1, n1, k2, n2, k3, n3, k4, rb, kb, rl, rs, ks, gCC, t04, h0, zt, k1', ↓cal_q u1, ↓cal_q u3, r1]
      · unfold fn_X7_brought
        simp (disch := omega) only [↓cal_w6, ↓cal_w7, ↓lm1, l0, l1, l2, l3, l4, l5, l6, l7, l8, l9, l10, l11, l12, l13, l14, l31, l32, l44, l48, l50, l57, l59, l60, l74, l100, l110, l126, l300, l330, l500, l501, l801, l1000, l5000, l5010, l8010, l8192, l9000, l10000, l1000000, and_self, and_true, true_and, and_false, false_and, nI_add, pk_mul, nI_clamp, ↓reduceIte, eF, lT, lF, leT, leF, chk_d, chk_t, chk_inb, rfm_s, bnd_e, cal_e, calR_e, ↓chk_q kR, kR, k251, n251, r251, k252, n252, r252, k253, n253, r253, k254, n254, r254, k255, n255, r255, k256, n256, r256, k257, n257, r257, k258, n258, r258, k259, n259, r259, k260, n260, r260, k261, n261, r261, r2]
    · have r1 := x5_bandIce tg1 M g1 u4
      have r2 := x7_oldest GR0 P2 g1.2.1 (by omega) g1.2.2.1 hnb (fun y hy => by
        have := GS_col g1 (y := y)
        omega)
      by_cases ht : tot (sYs v s).2.1 (Y + v) nb = 0
      · rw [tot_0 ht] at r2
        rw [ht] at r1
        refine ⟨-2000000004, fun _ _ => ?_, ?_⟩
        · unfold fn_X6_ifYears
          simp (disch := omega) only [↓cal_w6, ↓cal_w7, ↓lm1, l0, l1, l2, l3, l4, l5, l6, l7, l8, l9, l10, l11, l12, l13, l14, l31, l32, l44, l48, l50, l57, l59, l60, l74, l100, l110, l126, l300, l330, l500, l501, l801, l1000, l5000, l5010, l8010, l8192, l9000, l10000, l1000000, and_self, and_true, true_and, and_false, false_and, nI_add, pk_mul, nI_clamp, ↓reduceIte, eF, lT, lF, leT, leF, chk_d, chk_t, chk_inb, rfm_s, bnd_e, cal_e, calR_e, hx', hy', ↓chk_q w0, ↓rfm_q z0, ↓chk_q k0, w0, z0, k0, r00, r01, r02, r03, k1, n1, k2, n2, k3, n3, k4, rb, kb, rl, rs, ks, gCC, t04, h0, zt, k1', ↓cal_q u1, ↓cal_q u3, r1]
        · unfold fn_X7_brought
          simp (disch := omega) only [↓cal_w6, ↓cal_w7, ↓lm1, l0, l1, l2, l3, l4, l5, l6, l7, l8, l9, l10, l11, l12, l13, l14, l31, l32, l44, l48, l50, l57, l59, l60, l74, l100, l110, l126, l300, l330, l500, l501, l801, l1000, l5000, l5010, l8010, l8192, l9000, l10000, l1000000, and_self, and_true, true_and, and_false, false_and, nI_add, pk_mul, nI_clamp, ↓reduceIte, eF, lT, lF, leT, leF, chk_d, chk_t, chk_inb, rfm_s, bnd_e, cal_e, calR_e, ↓chk_q kR, kR, k251, n251, r251, k252, n252, r252, k253, n253, r253, k254, n254, r254, k255, n255, r255, k256, n256, r256, k257, n257, r257, k258, n258, r258, k259, n259, r259, k260, n260, r260, k261, n261, r261, r2]
      · obtain ⟨v', r3, r4⟩ := x5_oldestYear tg1 M g1 u4 (by omega)
        obtain ⟨F, _, hF⟩ := GS_tot g1
        rw [r4] at r2
        refine ⟨nI v', fun _ _ => ?_, ?_⟩
        · unfold fn_X6_ifYears
          simp (disch := omega) only [↓cal_w6, ↓cal_w7, ↓lm1, l0, l1, l2, l3, l4, l5, l6, l7, l8, l9, l10, l11, l12, l13, l14, l31, l32, l44, l48, l50, l57, l59, l60, l74, l100, l110, l126, l300, l330, l500, l501, l801, l1000, l5000, l5010, l8010, l8192, l9000, l10000, l1000000, and_self, and_true, true_and, and_false, false_and, nI_add, pk_mul, nI_clamp, ↓reduceIte, eF, lT, lF, leT, leF, chk_d, chk_t, chk_inb, rfm_s, bnd_e, cal_e, calR_e, hx', hy', ↓chk_q w0, ↓rfm_q z0, ↓chk_q k0, w0, z0, k0, r00, r01, r02, r03, k1, n1, k2, n2, k3, n3, k4, rb, kb, rl, rs, ks, gCC, t04, h0, zt, k1', ↓cal_q u1, ↓cal_q u3, r1, r3]
        · unfold fn_X7_brought
          simp (disch := omega) only [↓cal_w6, ↓cal_w7, ↓lm1, l0, l1, l2, l3, l4, l5, l6, l7, l8, l9, l10, l11, l12, l13, l14, l31, l32, l44, l48, l50, l57, l59, l60, l74, l100, l110, l126, l300, l330, l500, l501, l801, l1000, l5000, l5010, l8010, l8192, l9000, l10000, l1000000, and_self, and_true, true_and, and_false, false_and, nI_add, pk_mul, nI_clamp, ↓reduceIte, eF, lT, lF, leT, leF, chk_d, chk_t, chk_inb, rfm_s, bnd_e, cal_e, calR_e, ↓chk_q kR, kR, k251, n251, r251, k252, n252, r252, k253, n253, r253, k254, n254, r254, k255, n255, r255, k256, n256, r256, k257, n257, r257, k258, n258, r258, k259, n259, r259, k260, n260, r260, k261, n261, r261, r2]
  obtain ⟨r, m1, m2⟩ := main
  refine ⟨r, TV (qq ad 1) M c2 lb, aB ad (PS ad (aS ad (TV (qq ad 1) M c2 lb)) (sYs v s)), m1 (fun r M => some (r, M)) rfl, ?_, back_w w1 c2 lb (sYs v s)⟩
  show fn_X7_ifYears T R (ad 250) (nI v) (nI j) (TV (qq ad 1) M c2 lb) = _
  unfold fn_X7_ifYears
  simp (disch := omega) only [↓cal_w6, ↓cal_w7, ↓lm1, l0, l1, l2, l3, l4, l5, l6, l7, l8, l9, l10, l11, l12, l13, l14, l31, l32, l44, l48, l50, l57, l59, l60, l74, l100, l110, l126, l300, l330, l500, l501, l801, l1000, l5000, l5010, l8010, l8192, l9000, l10000, l1000000, and_self, and_true, true_and, and_false, false_and, nI_add, pk_mul, nI_clamp, ↓reduceIte, eF, lT, lF, leT, leF, chk_d, chk_t, chk_inb, rfm_s, bnd_e, cal_e, calR_e, hx', hy', ↓chk_q kR, kR, k251, n251, r251, k252, n252, r252, k253, n253, r253, k254, n254, r254, k255, n255, r255, k256, n256, r256, k257, n257, r257, k258, n258, r258, k259, n259, r259, k260, n260, r260, k261, n261, r261, q8, h0, ↓cal_q a1, a1, a2, m2, a3]
