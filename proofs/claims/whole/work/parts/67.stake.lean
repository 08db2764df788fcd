/-! both together: a stake more, a stake less, back -/
theorem x7_stake_tail {ad : Nat → Nat} {T : Ty} {R : Rm} (G : RG ad T R) {M M3 : Mm} {s : Sx} {K Y nb ns : Nat} (g : GS K Y nb ns s) (hn : ns < 6) (p9 : gI M (ad 251) 9 = nI ns) {x y z : Int32} (j : Int32 → Mm → Option (Int32 × Mm)) (hk : fn_X7_keep T R (ad 250) M = some ((), PS ad M3 s)) : fs_X7_stake_41 T R (ad 250) x y z j (nI ns) M = some (nI ns, PS ad M3 (sS x y z s)) := by
  have G0 := G
  have h9 := g.2.2.2.1
  have n9 := g.2.2.2.2.2.2.2.2.2
  have e : PS ad M3 (sS x y z s) = P3 ad M3 (mS s.1 ns x y z) (fI s.2.1) s.2.2 := by
    unfold sS PS
    rw [n9]
  rw [e]
  have o := fun (M : Mm) (k : Nat) (w : Int32) (hk : k < 6) => x7_putStake G0 M (b := ns) (k := k) w (by omega)
  obtain ⟨hi, k0, k251, n251, r251, k252, n252, r252, k253, n253, r253, k254, n254, r254, k255, n255, r255, k256, n256, r256, k257, n257, r257, k258, n258, r258, k259, n259, r259, k260, n260, r260, k261, n261, r261⟩ := G
  unfold PS at hk
  unfold fs_X7_stake_41 mS
  simp (disch := omega) only [↓cal_w6, ↓cal_w7, ↓lm1, l0, l1, l2, l3, l4, l5, l6, l7, l8, l9, l10, l11, l12, l13, l14, l31, l32, l44, l48, l50, l57, l59, l60, l74, l100, l110, l126, l300, l330, l500, l501, l801, l1000, l5000, l5010, l8010, l8192, l9000, l10000, l1000000, and_self, and_true, true_and, and_false, false_and, nI_add, pk_mul, nI_clamp, ↓reduceIte, eF, lT, lF, leT, leF, chk_d, chk_t, chk_inb, rfm_s, bnd_e, cal_e, calR_e, k0, k251, n251, r251, k252, n252, r252, k253, n253, r253, k254, n254, r254, k255, n255, r255, k256, n256, r256, k257, n257, r257, k258, n258, r258, k259, n259, r259, k260, n260, r260, k261, n261, r261, p9, hk, o, P3_m, sP3_m, h9]
theorem x7_stake_full {ad : Nat → Nat} {T : Ty} {R : Rm} (G : RG ad T R) {M : Mm} (p9 : gI M (ad 251) 9 = nI 6) {x y z : Int32} (j : Int32 → Mm → Option (Int32 × Mm)) : fs_X7_stake_41 T R (ad 250) x y z j (nI 6) M = some (-2000000003, M) := by
  obtain ⟨hi, k0, k251, n251, r251, k252, n252, r252, k253, n253, r253, k254, n254, r254, k255, n255, r255, k256, n256, r256, k257, n257, r257, k258, n258, r258, k259, n259, r259, k260, n260, r260, k261, n261, r261⟩ := G
  unfold fs_X7_stake_41
  simp (disch := omega) only [↓cal_w6, ↓cal_w7, ↓lm1, l0, l1, l2, l3, l4, l5, l6, l7, l8, l9, l10, l11, l12, l13, l14, l31, l32, l44, l48, l50, l57, l59, l60, l74, l100, l110, l126, l300, l330, l500, l501, l801, l1000, l5000, l5010, l8010, l8192, l9000, l10000, l1000000, and_self, and_true, true_and, and_false, false_and, nI_add, pk_mul, nI_clamp, ↓reduceIte, eF, lT, lF, leT, leF, chk_d, chk_t, chk_inb, rfm_s, bnd_e, cal_e, calR_e, k0, k251, n251, r251, k252, n252, r252, k253, n253, r253, k254, n254, r254, k255, n255, r255, k256, n256, r256, k257, n257, r257, k258, n258, r258, k259, n259, r259, k260, n260, r260, k261, n261, r261, p9]
theorem x7_stake_loop {ad : Nat → Nat} {T : Ty} {R : Rm} (G : RG ad T R) {M : Mm} {m : Nat → Int32} {ns : Nat} (hm : ∀ k, k < 110 → gI M (ad 251) k = m k) (hns : ns ≤ 6) (h9 : m 9 = nI ns) (x y z : Int32) : ∀ d i fuel, i + d = ns → d < fuel → fb_X7_stake_41 T R (ad 250) x y z fuel (nI i) M = if sAt m x y d i = true then some (-2000000002, M) else fs_X7_stake_41 T R (ad 250) x y z (fun _ _ => none) (nI ns) M := by
  have G0 := G
  have p9 : gI M (ad 251) 9 = nI ns := (hm 9 (by omega)).trans h9
  obtain ⟨hi, k0, k251, n251, r251, -⟩ := G
  intro d
  induction d with
  | zero =>
    intro i fuel h1 hf
    obtain ⟨n', rfl⟩ : ∃ n', fuel = n' + 1 := ⟨fuel - 1, by omega⟩
    obtain rfl : i = ns := by omega
    have e0 : sAt m x y 0 i = false := rfl
    rw [e0, if_neg (by decide), fbs_X7_stake_41]
    unfold fs_X7_stake_41
    simp (disch := omega) only [↓cal_w6, ↓cal_w7, ↓lm1, l0, l1, l2, l3, l4, l5, l6, l7, l8, l9, l10, l11, l12, l13, l14, l31, l32, l44, l48, l50, l57, l59, l60, l74, l100, l110, l126, l300, l330, l500, l501, l801, l1000, l5000, l5010, l8010, l8192, l9000, l10000, l1000000, and_self, and_true, true_and, and_false, false_and, nI_add, pk_mul, nI_clamp, ↓reduceIte, eF, lT, lF, leT, leF, chk_d, chk_t, chk_inb, rfm_s, bnd_e, cal_e, calR_e, ↓chk_q k0, ↓rfm_q r251, ↓chk_q k251, n251, p9]
  | succ d ih =>
    intro i fuel h1 hf
    obtain ⟨n', rfl⟩ : ∃ n', fuel = n' + 1 := ⟨fuel - 1, by omega⟩
    have ih' := ih (i + 1) n' (by omega) (by omega)
    have o4 := x7_ofStake G0 M (b := i) (k := 4) (by omega)
    have o0 := x7_ofStake G0 M (b := i) (k := 0) (by omega)
    have o1 := x7_ofStake G0 M (b := i) (k := 1) (by omega)
    rw [hm (74 + 6 * i + 4) (by omega)] at o4
    rw [hm (74 + 6 * i + 0) (by omega), Nat.add_zero] at o0
    rw [hm (74 + 6 * i + 1) (by omega)] at o1
    have es : sAt m x y (d + 1) i = if m (74 + 6 * i + 4) = nI 0 ∧ m (74 + 6 * i) = x ∧ m (74 + 6 * i + 1) = y then true else sAt m x y d (i + 1) := rfl
    rw [fbs_X7_stake_41]
    by_cases e4 : m (74 + 6 * i + 4) = nI 0
    · by_cases e0 : m (74 + 6 * i) = x
      · by_cases e1 : m (74 + 6 * i + 1) = y
        · rw [es.trans (if_pos ⟨e4, e0, e1⟩), if_pos rfl]
          unfold fs_X7_stake_41
          simp (disch := omega) only [↓cal_w6, ↓cal_w7, ↓lm1, l0, l1, l2, l3, l4, l5, l6, l7, l8, l9, l10, l11, l12, l13, l14, l31, l32, l44, l48, l50, l57, l59, l60, l74, l100, l110, l126, l300, l330, l500, l501, l801, l1000, l5000, l5010, l8010, l8192, l9000, l10000, l1000000, and_self, and_true, true_and, and_false, false_and, nI_add, pk_mul, nI_clamp, ↓reduceIte, eF, lT, lF, leT, leF, chk_d, chk_t, chk_inb, rfm_s, bnd_e, cal_e, calR_e, ↓chk_q k0, ↓rfm_q r251, ↓chk_q k251, n251, p9, o4, o0, o1, e4, e0, e1]
        · rw [es.trans (if_neg (fun h => e1 h.2.2)), ← ih']
          unfold fs_X7_stake_41 fs_X7_stake_88
          simp (disch := omega) only [↓cal_w6, ↓cal_w7, ↓lm1, l0, l1, l2, l3, l4, l5, l6, l7, l8, l9, l10, l11, l12, l13, l14, l31, l32, l44, l48, l50, l57, l59, l60, l74, l100, l110, l126, l300, l330, l500, l501, l801, l1000, l5000, l5010, l8010, l8192, l9000, l10000, l1000000, and_self, and_true, true_and, and_false, false_and, nI_add, pk_mul, nI_clamp, ↓reduceIte, eF, lT, lF, leT, leF, chk_d, chk_t, chk_inb, rfm_s, bnd_e, cal_e, calR_e, ↓chk_q k0, ↓rfm_q r251, ↓chk_q k251, n251, p9, o4, o0, o1, e4, e0, e1]
      · rw [es.trans (if_neg (fun h => e0 h.2.1)), ← ih']
        unfold fs_X7_stake_41 fs_X7_stake_88
        simp (disch := omega) only [↓cal_w6, ↓cal_w7, ↓lm1, l0, l1, l2, l3, l4, l5, l6, l7, l8, l9, l10, l11, l12, l13, l14, l31, l32, l44, l48, l50, l57, l59, l60, l74, l100, l110, l126, l300, l330, l500, l501, l801, l1000, l5000, l5010, l8010, l8192, l9000, l10000, l1000000, and_self, and_true, true_and, and_false, false_and, nI_add, pk_mul, nI_clamp, ↓reduceIte, eF, lT, lF, leT, leF, chk_d, chk_t, chk_inb, rfm_s, bnd_e, cal_e, calR_e, ↓chk_q k0, ↓rfm_q r251, ↓chk_q k251, n251, p9, o4, o0, e4, e0]
    · rw [es.trans (if_neg (fun h => e4 h.1)), ← ih']
      unfold fs_X7_stake_41 fs_X7_stake_88
      simp (disch := omega) only [↓cal_w6, ↓cal_w7, ↓lm1, l0, l1, l2, l3, l4, l5, l6, l7, l8, l9, l10, l11, l12, l13, l14, l31, l32, l44, l48, l50, l57, l59, l60, l74, l100, l110, l126, l300, l330, l500, l501, l801, l1000, l5000, l5010, l8010, l8192, l9000, l10000, l1000000, and_self, and_true, true_and, and_false, false_and, nI_add, pk_mul, nI_clamp, ↓reduceIte, eF, lT, lF, leT, leF, chk_d, chk_t, chk_inb, rfm_s, bnd_e, cal_e, calR_e, ↓chk_q k0, ↓rfm_q r251, ↓chk_q k251, n251, p9, o4, e4]
theorem g_stake {ad : Nat → Nat} {T : Ty} {M : Mm} {R : Rm} {s : Sx} {n : Nat} {h : Nat → Sx} {tl' : Nat} {tx : Nat → Nat} {β : Nat → Nat} {σ : Nat → Nat → Nat} (w : WD ad T M R s n h tl' tx β σ) (x y z : Int32) : SW ad T (fn_X6_stake T (ad 0) x y z M R) (fun R1 M1 => fn_X7_stake T R1 (ad 250) x y z M1) := by
  have w1 := w
  obtain ⟨G, hs, ct, GR, rsw, rk, rx⟩ := w
  have hi := GR.1
  have b4 := CG_bs G (show 4 < 5 by omega)
  have tg := CG_tg G (.inr b4)
  have tg0 := tg
  have hM := M_TV hi M (β 4)
  have rt := hs.2.2.1
  have rt0 := rt
  obtain ⟨Y, nb, ns, g, hY5, hz⟩ := hs.2.2.2.2.1
  have P := RS_RP rsw
  have I := g.1.1
  have hY8 := g.2.2.2.2.1
  have hnb := g.2.2.2.2.2.1
  have hns := g.2.2.2.2.2.2.1
  have n7 := g.2.2.2.2.2.2.2.1
  have n8 := g.2.2.2.2.2.2.2.2.1
  have n9 := g.2.2.2.2.2.2.2.2.2
  have h7 := g.2.1
  have h8 := g.2.2.1
  have h9 := g.2.2.2.1
  have hK : 1000000 * nb + 300000 * Y < 2 ^ 30 := by omega
  have z0 := G.2.2.2.2.1
  have w0 := G.1
  have p7 : gI M (ad 251) 7 = nI Y := (P.1 7 (by omega)).trans h7
  have p8 : gI M (ad 251) 8 = nI nb := (P.1 8 (by omega)).trans h8
  have p9 : gI M (ad 251) 9 = nI ns := (P.1 9 (by omega)).trans h9
  have GR0 := GR
  obtain ⟨_, kR, k251, n251, r251, k252, n252, r252, k253, n253, r253, k254, n254, r254, k255, n255, r255, k256, n256, r256, k257, n257, r257, k258, n258, r258, k259, n259, r259, k260, n260, r260, k261, n261, r261⟩ := GR
  obtain ⟨t1, t04, t05, t06, t40, t41, t42, t43, tl, tb, ts⟩ := rt
  rw [h8] at t04
  rw [h9] at t05
  rw [h7] at t06
  obtain ⟨hq, k0, r00, r01, r02, r03, k1, n1, k2, n2, k3, n3, k4, rb, kb, rl, lg, rs, ks, sl, si⟩ := tg
  rcases ix_c x (n := nb) (by omega) with ⟨b, hb, rfl⟩ | hx
  rotate_left
  · have a1 := x5_hasBandN tg0 M (l := CL ad M (β 4)) t04 hx
    rw [hM] at a1
    have a2 := x7_isBandN GR0 p8 hnb hx
    refine SW_no w1 (-2000000001) ?_ ?_
    · unfold fn_X6_stake
      simp (disch := omega) only [↓cal_w6, ↓cal_w7, ↓lm1, l0, l1, l2, l3, l4, l5, l6, l7, l8, l9, l10, l11, l12, l13, l14, l31, l32, l44, l48, l50, l57, l59, l60, l74, l100, l110, l126, l300, l330, l500, l501, l801, l1000, l5000, l5010, l8010, l8192, l9000, l10000, l1000000, and_self, and_true, true_and, and_false, false_and, nI_add, pk_mul, nI_clamp, ↓reduceIte, eF, lT, lF, leT, leF, chk_d, chk_t, chk_inb, rfm_s, bnd_e, cal_e, calR_e, ↓chk_q w0, ↓rfm_q z0, ↓chk_q k0, w0, z0, k0, r00, r01, r02, r03, k1, n1, k2, n2, k3, n3, k4, rb, kb, rl, rs, ks, ↓cal_q a1, a1]
    · show fn_X7_stake T R (ad 250) x y z M = _
      unfold fn_X7_stake
      simp (disch := omega) only [↓cal_w6, ↓cal_w7, ↓lm1, l0, l1, l2, l3, l4, l5, l6, l7, l8, l9, l10, l11, l12, l13, l14, l31, l32, l44, l48, l50, l57, l59, l60, l74, l100, l110, l126, l300, l330, l500, l501, l801, l1000, l5000, l5010, l8010, l8192, l9000, l10000, l1000000, and_self, and_true, true_and, and_false, false_and, nI_add, pk_mul, nI_clamp, ↓reduceIte, eF, lT, lF, leT, leF, chk_d, chk_t, chk_inb, rfm_s, bnd_e, cal_e, calR_e, ↓chk_q kR, kR, k251, n251, r251, k252, n252, r252, k253, n253, r253, k254, n254, r254, k255, n255, r255, k256, n256, r256, k257, n257, r257, k258, n258, r258, k259, n259, r259, k260, n260, r260, k261, n261, r261, ↓cal_q a2, a2]
  have a1 := x5_hasBand tg0 M (l := CL ad M (β 4)) t04 hnb hb
  rw [hM] at a1
  have hb8 : b < nt (s.1 8) := by omega
  obtain ⟨len, hl, l1', l2'⟩ := rg_get (I.2.2.2.2.2.2.2.2.2.2.1 b hb8).2.1
  have q1 := (tb b hb8).1 1 (by omega)
  simp only [Nat.reduceAdd] at q1
  have kb' := kb b (by omega)
  rw [hl] at q1
  have rq1 := rb b (by omega)
  have a2 : ∀ (R1 : Rm) (M1 : Mm), RG ad T R1 → (∀ k, k < 110 → gI M1 (ad 251) k = s.1 k) → fn_X7_isBand T R1 (ad 250) (nI b) M1 = some (nI 1, M1) ∧ fn_X7_of T R1 (ad 250) (nI b) (nI 1) M1 = some (nI len, M1) := fun R1 M1 G1 hm => by
    refine ⟨x7_isBand G1 ((hm 8 (by omega)).trans h8) hnb hb, ?_⟩
    have o1 := x7_of G1 M1 (b := b) (k := 1) (by omega)
    rw [hm _ (by omega), hl] at o1
    exact o1
  by_cases hy : nI 0 ≤ y ∧ y ≤ nI (len - 1)
  rotate_left
  · have hy' : (nI 0 ≤ y ∧ y ≤ nI (len - 1)) = False := eq_false hy
    obtain ⟨b1, b2⟩ := a2 R M GR0 P.1
    refine SW_no w1 (-2000000001) ?_ ?_
    · unfold fn_X6_stake
      simp (disch := omega) only [↓cal_w6, ↓cal_w7, ↓lm1, l0, l1, l2, l3, l4, l5, l6, l7, l8, l9, l10, l11, l12, l13, l14, l31, l32, l44, l48, l50, l57, l59, l60, l74, l100, l110, l126, l300, l330, l500, l501, l801, l1000, l5000, l5010, l8010, l8192, l9000, l10000, l1000000, and_self, and_true, true_and, and_false, false_and, nI_add, pk_mul, nI_clamp, ↓reduceIte, eF, lT, lF, leT, leF, chk_d, chk_t, chk_inb, rfm_s, bnd_e, cal_e, calR_e, ↓chk_q w0, ↓rfm_q z0, ↓chk_q k0, w0, z0, k0, r00, r01, r02, r03, k1, n1, k2, n2, k3, n3, k4, rb, kb, rl, rs, ks, ↓cal_q a1, gCC, q1, nIs, hy', kb']
    · show fn_X7_stake T R (ad 250) (nI b) y z M = _
      unfold fn_X7_stake
      simp (disch := omega) only [↓cal_w6, ↓cal_w7, ↓lm1, l0, l1, l2, l3, l4, l5, l6, l7, l8, l9, l10, l11, l12, l13, l14, l31, l32, l44, l48, l50, l57, l59, l60, l74, l100, l110, l126, l300, l330, l500, l501, l801, l1000, l5000, l5010, l8010, l8192, l9000, l10000, l1000000, and_self, and_true, true_and, and_false, false_and, nI_add, pk_mul, nI_clamp, ↓reduceIte, eF, lT, lF, leT, leF, chk_d, chk_t, chk_inb, rfm_s, bnd_e, cal_e, calR_e, ↓chk_q kR, kR, k251, n251, r251, k252, n252, r252, k253, n253, r253, k254, n254, r254, k255, n255, r255, k256, n256, r256, k257, n257, r257, k258, n258, r258, k259, n259, r259, k260, n260, r260, k261, n261, r261, ↓cal_q b1, b2, nIs, hy']
  have hy' : (nI 0 ≤ y ∧ y ≤ nI (len - 1)) = True := eq_true hy
  by_cases hz' : nI 1 ≤ z ∧ z ≤ nI 10000
  rotate_left
  · have hz2 : (nI 1 ≤ z ∧ z ≤ nI 10000) = False := eq_false hz'
    obtain ⟨b1, b2⟩ := a2 R M GR0 P.1
    refine SW_no w1 (-2000000001) ?_ ?_
    · unfold fn_X6_stake
      simp (disch := omega) only [↓cal_w6, ↓cal_w7, ↓lm1, l0, l1, l2, l3, l4, l5, l6, l7, l8, l9, l10, l11, l12, l13, l14, l31, l32, l44, l48, l50, l57, l59, l60, l74, l100, l110, l126, l300, l330, l500, l501, l801, l1000, l5000, l5010, l8010, l8192, l9000, l10000, l1000000, and_self, and_true, true_and, and_false, false_and, nI_add, pk_mul, nI_clamp, ↓reduceIte, eF, lT, lF, leT, leF, chk_d, chk_t, chk_inb, rfm_s, bnd_e, cal_e, calR_e, ↓chk_q w0, ↓rfm_q z0, ↓chk_q k0, w0, z0, k0, r00, r01, r02, r03, k1, n1, k2, n2, k3, n3, k4, rb, kb, rl, rs, ks, ↓cal_q a1, gCC, q1, nIs, hy', hz2, kb']
    · show fn_X7_stake T R (ad 250) (nI b) y z M = _
      unfold fn_X7_stake
      simp (disch := omega) only [↓cal_w6, ↓cal_w7, ↓lm1, l0, l1, l2, l3, l4, l5, l6, l7, l8, l9, l10, l11, l12, l13, l14, l31, l32, l44, l48, l50, l57, l59, l60, l74, l100, l110, l126, l300, l330, l500, l501, l801, l1000, l5000, l5010, l8010, l8192, l9000, l10000, l1000000, and_self, and_true, true_and, and_false, false_and, nI_add, pk_mul, nI_clamp, ↓reduceIte, eF, lT, lF, leT, leF, chk_d, chk_t, chk_inb, rfm_s, bnd_e, cal_e, calR_e, ↓chk_q kR, kR, k251, n251, r251, k252, n252, r252, k253, n253, r253, k254, n254, r254, k255, n255, r255, k256, n256, r256, k257, n257, r257, k258, n258, r258, k259, n259, r259, k260, n260, r260, k261, n261, r261, ↓cal_q b1, b2, nIs, hy', hz2]
  have hz2 : (nI 1 ≤ z ∧ z ≤ nI 10000) = True := eq_true hz'
  have a6 := x5_isStakeAt tg0 M g rt0 (nI b) y
  rw [hM] at a6
  have ref : ∀ (R1 : Rm) (M1 : Mm), RG ad T R1 → (∀ k, k < 110 → gI M1 (ad 251) k = s.1 k) → fn_X7_stake T R1 (ad 250) (nI b) y z M1 = if sAt s.1 (nI b) y ns 0 = true then some (-2000000002, M1) else fs_X7_stake_41 T R1 (ad 250) (nI b) y z (fun _ _ => none) (nI ns) M1 := fun R1 M1 G1 hm => by
    obtain ⟨b1, b2⟩ := a2 R1 M1 G1 hm
    have lo := x7_stake_loop G1 hm hns h9 (nI b) y z ns 0 FU (by omega) (FU_gt (by omega))
    rw [← lo]
    have k250 := G1.2.1
    unfold fn_X7_stake
    simp (disch := omega) only [↓cal_w6, ↓cal_w7, ↓lm1, l0, l1, l2, l3, l4, l5, l6, l7, l8, l9, l10, l11, l12, l13, l14, l31, l32, l44, l48, l50, l57, l59, l60, l74, l100, l110, l126, l300, l330, l500, l501, l801, l1000, l5000, l5010, l8010, l8192, l9000, l10000, l1000000, and_self, and_true, true_and, and_false, false_and, nI_add, pk_mul, nI_clamp, ↓reduceIte, eF, lT, lF, leT, leF, chk_d, chk_t, chk_inb, rfm_s, bnd_e, cal_e, calR_e, k250, b1, b2, nIs, hy', hz2]
  cases hst : sAt s.1 (nI b) y ns 0 with
  | true =>
    rw [hst] at a6
    have e1 : bI true = nI 1 := rfl
    rw [e1] at a6
    refine SW_no w1 (-2000000002) ?_ ?_
    · unfold fn_X6_stake
      simp (disch := omega) only [↓cal_w6, ↓cal_w7, ↓lm1, l0, l1, l2, l3, l4, l5, l6, l7, l8, l9, l10, l11, l12, l13, l14, l31, l32, l44, l48, l50, l57, l59, l60, l74, l100, l110, l126, l300, l330, l500, l501, l801, l1000, l5000, l5010, l8010, l8192, l9000, l10000, l1000000, and_self, and_true, true_and, and_false, false_and, nI_add, pk_mul, nI_clamp, ↓reduceIte, eF, lT, lF, leT, leF, chk_d, chk_t, chk_inb, rfm_s, bnd_e, cal_e, calR_e, ↓chk_q w0, ↓rfm_q z0, ↓chk_q k0, w0, z0, k0, r00, r01, r02, r03, k1, n1, k2, n2, k3, n3, k4, rb, kb, rl, rs, ks, ↓cal_q a1, gCC, q1, nIs, hy', hz2, kb', a6]
    · show fn_X7_stake T R (ad 250) (nI b) y z M = _
      rw [ref R M GR0 P.1, hst, if_pos rfl]
  | false =>
    rw [hst] at a6
    have e1 : bI false = nI 0 := rfl
    rw [e1] at a6
    by_cases hn : ns < 6
    · obtain ⟨M', R', β', p1, G', GR', rt', fy, m7, m8, rr, eM, nx⟩ := step_rec w1
      have b4' := CG_bs G' (show 4 < 5 by omega)
      have tg' := CG_tg G' (.inr b4')
      have z0' := G'.2.2.2.2.1
      obtain ⟨c', v1, v2⟩ := x5_addStake tg' M' (l := CL ad M' (β' 4)) g rt' hn (nI b) y z
      rw [eM] at v1
      obtain ⟨M3, u1, u2⟩ := nx c' (CL ad M' (β' 4)) _ R' σ G' GR' (fun _ _ => rfl) v2 (OK_S g hY5 hz hn hb y z)
      have f2 := FY_t fy (FY_TV hi (.inr b4') M' c' (CL ad M' (β' 4)))
      have k0' := tg'.2.1
      refine ⟨nI ns, TV (qq ad (β' 4)) M' c' (CL ad M' (β' 4)), R', _, ?_, ?_, _, _, _, _, _, _, _, u2⟩
      · unfold fn_X6_stake
        simp (disch := omega) only [↓cal_w6, ↓cal_w7, ↓lm1, l0, l1, l2, l3, l4, l5, l6, l7, l8, l9, l10, l11, l12, l13, l14, l31, l32, l44, l48, l50, l57, l59, l60, l74, l100, l110, l126, l300, l330, l500, l501, l801, l1000, l5000, l5010, l8010, l8192, l9000, l10000, l1000000, and_self, and_true, true_and, and_false, false_and, nI_add, pk_mul, nI_clamp, ↓reduceIte, eF, lT, lF, leT, leF, chk_d, chk_t, chk_inb, rfm_s, bnd_e, cal_e, calR_e, ↓chk_q w0, ↓rfm_q z0, ↓chk_q k0, w0, z0, k0, r00, r01, r02, r03, k1, n1, k2, n2, k3, n3, k4, rb, kb, rl, rs, ks, ↓cal_q a1, gCC, q1, nIs, hy', hz2, kb', a6, t05, p1, calR_u, z0', k0', v1]
      · show fn_X7_stake T R' (ad 250) (nI b) y z _ = _
        have hm : ∀ k, k < 110 → gI (TV (qq ad (β' 4)) M' c' (CL ad M' (β' 4))) (ad 251) k = s.1 k := fun k hk => (congrFun (f2 251 (by omega)).1 k).trans (P.1 k hk)
        rw [ref R' _ GR' hm, hst, if_neg (by decide)]
        exact x7_stake_tail GR' g hn ((hm 9 (by omega)).trans h9) _ u1
    · have hn6 : ns = 6 := by omega
      refine SW_no w1 (-2000000003) ?_ ?_
      · unfold fn_X6_stake
        simp (disch := omega) only [↓cal_w6, ↓cal_w7, ↓lm1, l0, l1, l2, l3, l4, l5, l6, l7, l8, l9, l10, l11, l12, l13, l14, l31, l32, l44, l48, l50, l57, l59, l60, l74, l100, l110, l126, l300, l330, l500, l501, l801, l1000, l5000, l5010, l8010, l8192, l9000, l10000, l1000000, and_self, and_true, true_and, and_false, false_and, nI_add, pk_mul, nI_clamp, ↓reduceIte, eF, lT, lF, leT, leF, chk_d, chk_t, chk_inb, rfm_s, bnd_e, cal_e, calR_e, ↓chk_q w0, ↓rfm_q z0, ↓chk_q k0, w0, z0, k0, r00, r01, r02, r03, k1, n1, k2, n2, k3, n3, k4, rb, kb, rl, rs, ks, ↓cal_q a1, gCC, q1, nIs, hy', hz2, kb', a6, t05]
      · show fn_X7_stake T R (ad 250) (nI b) y z M = _
        rw [ref R M GR0 P.1, hst, if_neg (by decide), hn6]
        rw [hn6] at p9
        exact x7_stake_full GR0 p9 _
theorem CG_pull {ad : Nat → Nat} (hi : ∀ a b : Nat, (ad a = ad b) = (a = b)) {T : Ty} {R R' : Rm} {β : Nat → Nat} {σ : Nat → Nat → Nat} {σ' : Nat → Nat} (G : CG ad T R β σ) (h : ∀ a, a ≠ qq ad (β 4) 3 → R' a = R a) (t : TG T R' (qq ad (β 4)) σ') : CG ad T R' β (fun B => if B = β 4 then σ' else σ B) := by
  have b4 := CG_bs G (show 4 < 5 by omega)
  have o := fun r (hr : r = 0 ∨ r = 42 ∨ r = 207 ∨ r = 208 ∨ 250 ≤ r) => h (ad r) (qq_out hi (.inr b4) hr (by omega))
  obtain ⟨a1, a2, a3, a4, a5, a6, a7, a8, a9, a10, a11, a12, a13, a14, a15⟩ := G
  refine ⟨a1, by rw [o 0 (by omega)]; exact a2, by rw [o 0 (by omega)]; exact a3, by rw [o 0 (by omega)]; exact a4, by rw [o 0 (by omega)]; exact a5, a6, a7, fun k hk => by rw [o 42 (by omega)]; exact a8 k hk, a9, a10, fun B hB => ?_, a12, by rw [o 207 (by omega)]; exact a13, a14, a15⟩
  show TG T R' (qq ad B) (if B = β 4 then σ' else σ B)
  by_cases e : B = β 4
  · rw [if_pos e, e]
    exact t
  · rw [if_neg e]
    exact TG_R0 (a11 B hB) (fun j hj => h _ (qq_sep hi hB (.inr b4) e hj (by omega)))
theorem pX_0 (m : Nat → Int32) (i : Nat) : pX m i (74 + 6 * i) = m := by
  funext j
  unfold pX
  exact if_neg (by omega)
theorem x7_pull_loop {ad : Nat → Nat} {T : Ty} {R : Rm} (G : RG ad T R) {M : Mm} {m : Nat → Int32} {ice : Nat → Int32} {acc : Nat → Int64} {i ns : Nat} (hns : ns ≤ 5) (h9 : m 9 = nI ns) (x r : Int32) : ∀ d k fuel, k + d = 74 + 6 * ns → 74 + 6 * i ≤ k → d < fuel → fb_X7_pull_41 T R (ad 250) x fuel r (nI k) (P3 ad M (pX m i k) ice acc) = some (r, P3 ad M (pX m i (74 + 6 * ns)) ice acc) := by
  obtain ⟨hi, k0, k251, n251, r251, -⟩ := G
  intro d
  induction d with
  | zero =>
    intro k fuel h1 hk hf
    obtain ⟨n', rfl⟩ : ∃ n', fuel = n' + 1 := ⟨fuel - 1, by omega⟩
    obtain rfl : k = 74 + 6 * ns := by omega
    have e9 : pX m i (74 + 6 * ns) 9 = nI ns := (pX_o (by omega)).trans h9
    rw [fbs_X7_pull_41]
    unfold fs_X7_pull_41
    simp (disch := omega) only [↓cal_w6, ↓cal_w7, ↓lm1, l0, l1, l2, l3, l4, l5, l6, l7, l8, l9, l10, l11, l12, l13, l14, l31, l32, l44, l48, l50, l57, l59, l60, l74, l100, l110, l126, l300, l330, l500, l501, l801, l1000, l5000, l5010, l8010, l8192, l9000, l10000, l1000000, and_self, and_true, true_and, and_false, false_and, nI_add, pk_mul, nI_clamp, ↓reduceIte, eF, lT, lF, leT, leF, chk_d, chk_t, chk_inb, rfm_s, bnd_e, cal_e, calR_e, ↓chk_q k0, ↓rfm_q r251, ↓chk_q k251, n251, P3_m, e9]
  | succ d ih =>
    intro k fuel h1 hk hf
    obtain ⟨n', rfl⟩ : ∃ n', fuel = n' + 1 := ⟨fuel - 1, by omega⟩
    have ih' := ih (k + 1) n' (by omega) (by omega) (by omega)
    have e9 : pX m i k 9 = nI ns := (pX_o (by omega)).trans h9
    have es := pX_s m i k hk
    rw [fbs_X7_pull_41]
    unfold fs_X7_pull_41
    simp (disch := omega) only [↓cal_w6, ↓cal_w7, ↓lm1, l0, l1, l2, l3, l4, l5, l6, l7, l8, l9, l10, l11, l12, l13, l14, l31, l32, l44, l48, l50, l57, l59, l60, l74, l100, l110, l126, l300, l330, l500, l501, l801, l1000, l5000, l5010, l8010, l8192, l9000, l10000, l1000000, and_self, and_true, true_and, and_false, false_and, nI_add, pk_mul, nI_clamp, ↓reduceIte, eF, lT, lF, leT, leF, chk_d, chk_t, chk_inb, rfm_s, bnd_e, cal_e, calR_e, ↓chk_q k0, ↓rfm_q r251, ↓chk_q k251, n251, P3_m, sP3_m, e9, es, ih']
theorem g_pull {ad : Nat → Nat} {T : Ty} {M : Mm} {R : Rm} {s : Sx} {n : Nat} {h : Nat → Sx} {tl' : Nat} {tx : Nat → Nat} {β : Nat → Nat} {σ : Nat → Nat → Nat} (w : WD ad T M R s n h tl' tx β σ) (x : Int32) : SW ad T (fn_X6_pull T (ad 0) x M R) (fun R1 M1 => fn_X7_pull T R1 (ad 250) x M1) := by
  have w1 := w
  obtain ⟨G, hs, ct, GR, rsw, rk, rx⟩ := w
  have hi := GR.1
  have b4 := CG_bs G (show 4 < 5 by omega)
  have tg := CG_tg G (.inr b4)
  have tg0 := tg
  have hM := M_TV hi M (β 4)
  have rt := hs.2.2.1
  have rt0 := rt
  obtain ⟨Y, nb, ns, g, hY5, hz⟩ := hs.2.2.2.2.1
  have P := RS_RP rsw
  have I := g.1.1
  have hY8 := g.2.2.2.2.1
  have hnb := g.2.2.2.2.2.1
  have hns := g.2.2.2.2.2.2.1
  have n7 := g.2.2.2.2.2.2.2.1
  have n8 := g.2.2.2.2.2.2.2.2.1
  have n9 := g.2.2.2.2.2.2.2.2.2
  have h7 := g.2.1
  have h8 := g.2.2.1
  have h9 := g.2.2.2.1
  have hK : 1000000 * nb + 300000 * Y < 2 ^ 30 := by omega
  have z0 := G.2.2.2.2.1
  have w0 := G.1
  have p7 : gI M (ad 251) 7 = nI Y := (P.1 7 (by omega)).trans h7
  have p8 : gI M (ad 251) 8 = nI nb := (P.1 8 (by omega)).trans h8
  have p9 : gI M (ad 251) 9 = nI ns := (P.1 9 (by omega)).trans h9
  have GR0 := GR
  obtain ⟨_, kR, k251, n251, r251, k252, n252, r252, k253, n253, r253, k254, n254, r254, k255, n255, r255, k256, n256, r256, k257, n257, r257, k258, n258, r258, k259, n259, r259, k260, n260, r260, k261, n261, r261⟩ := GR
  obtain ⟨t1, t04, t05, t06, t40, t41, t42, t43, tl, tb, ts⟩ := rt
  rw [h8] at t04
  rw [h9] at t05
  rw [h7] at t06
  obtain ⟨hq, k0, r00, r01, r02, r03, k1, n1, k2, n2, k3, n3, k4, rb, kb, rl, lg, rs, ks, sl, si⟩ := tg
  rcases ix_c x (n := ns) (by omega) with ⟨i, hi', rfl⟩ | hx
  rotate_left
  · have a1 := x5_hasStakeN tg0 M (l := CL ad M (β 4)) t05 hx
    rw [hM] at a1
    have a2 := x7_isStakeN GR0 p9 (by omega) hx
    refine SW_no w1 (-2000000001) ?_ ?_
    · unfold fn_X6_pull
      simp (disch := omega) only [↓cal_w6, ↓cal_w7, ↓lm1, l0, l1, l2, l3, l4, l5, l6, l7, l8, l9, l10, l11, l12, l13, l14, l31, l32, l44, l48, l50, l57, l59, l60, l74, l100, l110, l126, l300, l330, l500, l501, l801, l1000, l5000, l5010, l8010, l8192, l9000, l10000, l1000000, and_self, and_true, true_and, and_false, false_and, nI_add, pk_mul, nI_clamp, ↓reduceIte, eF, lT, lF, leT, leF, chk_d, chk_t, chk_inb, rfm_s, bnd_e, cal_e, calR_e, ↓chk_q w0, ↓rfm_q z0, ↓chk_q k0, w0, z0, k0, r00, r01, r02, r03, k1, n1, k2, n2, k3, n3, k4, rb, kb, rl, rs, ks, ↓cal_q a1, a1]
    · show fn_X7_pull T R (ad 250) x M = _
      unfold fn_X7_pull
      simp (disch := omega) only [↓cal_w6, ↓cal_w7, ↓lm1, l0, l1, l2, l3, l4, l5, l6, l7, l8, l9, l10, l11, l12, l13, l14, l31, l32, l44, l48, l50, l57, l59, l60, l74, l100, l110, l126, l300, l330, l500, l501, l801, l1000, l5000, l5010, l8010, l8192, l9000, l10000, l1000000, and_self, and_true, true_and, and_false, false_and, nI_add, pk_mul, nI_clamp, ↓reduceIte, eF, lT, lF, leT, leF, chk_d, chk_t, chk_inb, rfm_s, bnd_e, cal_e, calR_e, ↓chk_q kR, kR, k251, n251, r251, k252, n252, r252, k253, n253, r253, k254, n254, r254, k255, n255, r255, k256, n256, r256, k257, n257, r257, k258, n258, r258, k259, n259, r259, k260, n260, r260, k261, n261, r261, ↓cal_q a2, a2]
  have a1 := x5_hasStake tg0 M (l := CL ad M (β 4)) t05 (by omega) hi'
  rw [hM] at a1
  obtain ⟨M', R', β', p1, G', GR', rt', fy, m7, m8, rr, eM, nx⟩ := step_rec w1
  have b4' := CG_bs G' (show 4 < 5 by omega)
  have tg' := CG_tg G' (.inr b4')
  have z0' := G'.2.2.2.2.1
  obtain ⟨c', R2, v1, v2, v3, v4⟩ := x5_removeStake tg' M' (l := CL ad M' (β' 4)) g rt' hi'
  rw [eM] at v1
  have G2 := CG_pull hi G' v2 v3
  have GR2 : RG ad T R2 := RG_R GR' (v2 _ (qq_out hi (.inr b4') (by omega) (by omega)))
  have hs2 : ∀ k, k < 4 → (fun B => if B = β' 4 then sgP (σ (β' 4)) ns i else σ B) (β' k) = σ (β' k) := fun k hk => if_neg (CG_bi G' (by omega) (by omega) (by omega))
  have rt2 : RT QT ((fun B => if B = β' 4 then sgP (σ (β' 4)) ns i else σ B) (β' 4)) c' (CL ad M' (β' 4)) (sP i s) := by
    show RT QT (if β' 4 = β' 4 then sgP (σ (β' 4)) ns i else σ (β' 4)) _ _ _
    rw [if_pos rfl]
    exact v4
  obtain ⟨M3, u1, u2⟩ := nx c' (CL ad M' (β' 4)) (sP i s) R2 _ G2 GR2 hs2 rt2 (OK_P g hY5 hz hi')
  have f2 := FY_t fy (FY_TV hi (.inr b4') M' c' (CL ad M' (β' 4)))
  have k0' := tg'.2.1
  refine ⟨s.1 (74 + 6 * i + 3), TV (qq ad (β' 4)) M' c' (CL ad M' (β' 4)), R2, _, ?_, ?_, _, _, _, _, _, _, _, u2⟩
  · unfold fn_X6_pull
    simp (disch := omega) only [↓cal_w6, ↓cal_w7, ↓lm1, l0, l1, l2, l3, l4, l5, l6, l7, l8, l9, l10, l11, l12, l13, l14, l31, l32, l44, l48, l50, l57, l59, l60, l74, l100, l110, l126, l300, l330, l500, l501, l801, l1000, l5000, l5010, l8010, l8192, l9000, l10000, l1000000, and_self, and_true, true_and, and_false, false_and, nI_add, pk_mul, nI_clamp, ↓reduceIte, eF, lT, lF, leT, leF, chk_d, chk_t, chk_inb, rfm_s, bnd_e, cal_e, calR_e, ↓chk_q w0, ↓rfm_q z0, ↓chk_q k0, w0, z0, k0, r00, r01, r02, r03, k1, n1, k2, n2, k3, n3, k4, rb, kb, rl, rs, ks, ↓cal_q a1, p1, calR_u, z0', k0', v1]
  · have hm : ∀ k, k < 110 → gI (TV (qq ad (β' 4)) M' c' (CL ad M' (β' 4))) (ad 251) k = s.1 k := fun k hk => (congrFun (f2 251 (by omega)).1 k).trans (P.1 k hk)
    have a2 := x7_isStake GR2 ((hm 9 (by omega)).trans h9) (by omega) hi'
    have o3 := x7_ofStake GR2 (PS ad M3 s) (b := i) (k := 3) (by omega)
    have e3 : gI (PS ad M3 s) (ad 251) (74 + 6 * i + 3) = s.1 (74 + 6 * i + 3) := P3_m ad M3 s.1 (fI s.2.1) s.2.2 _
    rw [e3] at o3
    have e9 : gI (PS ad M3 s) (ad 251) 9 = nI ns := (P3_m ad M3 s.1 (fI s.2.1) s.2.2 9).trans h9
    have e5 : sI (PS ad M3 s) (ad 251) 9 (nI (ns - 1)) = P3 ad M3 (upd s.1 9 (nI (ns - 1))) (fI s.2.1) s.2.2 := sP3_m ad M3 s.1 (fI s.2.1) s.2.2 9 (nI (ns - 1))
    have lo := x7_pull_loop GR2 (M := M3) (m := upd s.1 9 (nI (ns - 1))) (ice := fI s.2.1) (acc := s.2.2) (i := i) (ns := ns - 1) (by omega) pk_us (nI i) (s.1 (74 + 6 * i + 3)) (6 * (ns - 1) - 6 * i) (74 + 6 * i) FU (by omega) (by omega) (FU_gt (by omega))
    rw [pX_0] at lo
    have ee : PS ad M3 (sP i s) = P3 ad M3 (pX (upd s.1 9 (nI (ns - 1))) i (74 + 6 * (ns - 1))) (fI s.2.1) s.2.2 := by
      unfold sP PS pM
      rw [n9]
    rw [ee]
    obtain ⟨-, k250, k251', n251', r251', -⟩ := GR2
    show fn_X7_pull T R2 (ad 250) (nI i) _ = _
    unfold fn_X7_pull
    simp (disch := omega) only [↓cal_w6, ↓cal_w7, ↓lm1, l0, l1, l2, l3, l4, l5, l6, l7, l8, l9, l10, l11, l12, l13, l14, l31, l32, l44, l48, l50, l57, l59, l60, l74, l100, l110, l126, l300, l330, l500, l501, l801, l1000, l5000, l5010, l8010, l8192, l9000, l10000, l1000000, and_self, and_true, true_and, and_false, false_and, nI_add, pk_mul, nI_clamp, ↓reduceIte, eF, lT, lF, leT, leF, chk_d, chk_t, chk_inb, rfm_s, bnd_e, cal_e, calR_e, k250, k251', n251', r251', a2, u1, o3, e9, nIs, e5, lo]
theorem g_undo {ad : Nat → Nat} {T : Ty} {M : Mm} {R : Rm} {s : Sx} {n : Nat} {h : Nat → Sx} {tl' : Nat} {tx : Nat → Nat} {β : Nat → Nat} {σ : Nat → Nat → Nat} (w : WD ad T M R s n h tl' tx β σ) : SW ad T (fn_X6_undo T (ad 0) M R) (fun R1 M1 => fn_X7_undo T R1 (ad 250) M1) := by
  have w1 := w
  obtain ⟨G, hs, ct, GR, rsw, rk, rx⟩ := w
  have hi := GR.1
  have n4 := hs.2.1
  cases n with
  | zero =>
    have h4 := hs.1
    have r4 := rk.1
    have w0 := G.1
    have kR := GR.2.1
    refine SW_no w1 (-2000000002) ?_ ?_
    · unfold fn_X6_undo
      simp (disch := omega) only [↓cal_w6, ↓cal_w7, ↓lm1, l0, l1, l2, l3, l4, l5, l6, l7, l8, l9, l10, l11, l12, l13, l14, l31, l32, l44, l48, l50, l57, l59, l60, l74, l100, l110, l126, l300, l330, l500, l501, l801, l1000, l5000, l5010, l8010, l8192, l9000, l10000, l1000000, and_self, and_true, true_and, and_false, false_and, nI_add, pk_mul, nI_clamp, ↓reduceIte, eF, lT, lF, leT, leF, chk_d, chk_t, chk_inb, rfm_s, bnd_e, cal_e, calR_e, ↓chk_q w0, h4]
    · show fn_X7_undo T R (ad 250) M = _
      unfold fn_X7_undo
      simp (disch := omega) only [↓cal_w6, ↓cal_w7, ↓lm1, l0, l1, l2, l3, l4, l5, l6, l7, l8, l9, l10, l11, l12, l13, l14, l31, l32, l44, l48, l50, l57, l59, l60, l74, l100, l110, l126, l300, l330, l500, l501, l801, l1000, l5000, l5010, l8010, l8192, l9000, l10000, l1000000, and_self, and_true, true_and, and_false, false_and, nI_add, pk_mul, nI_clamp, ↓reduceIte, eF, lT, lF, leT, leF, chk_d, chk_t, chk_inb, rfm_s, bnd_e, cal_e, calR_e, ↓chk_q kR, r4]
  | succ n =>
    obtain ⟨M', R', β', p1, G', hs', fy, rr, m7, m8⟩ := x6_undo hi G hs
    have GR' := RG_R GR (rr 250 (by omega))
    have rk' := FY_RK fy rk
    have rs' := FY_RS fy rsw
    have u1 := x7_undo1 GR' (M := M') (n := n) (by omega) rk'.1
    have okn := hs.2.2.2.2.2 n (by omega)
    have zs : Zs s := by
      obtain ⟨_, _, _, _, _, z⟩ := hs.2.2.2.2.1
      exact z
    have zn : Zs (h n) := by
      obtain ⟨_, _, _, _, _, z⟩ := okn
      exact z
    have svn := rk'.2.2 n (by omega)
    have e := uM3_EQ hi zs zn svn
    have rs2 := uM3_RS hi rs' svn
    have f : FX ad M' (uM3 ad M' n) := fun r hr => ⟨uM3_I hi M' n (by omega) (by omega) (by omega), uM3_J hi M' n (by omega)⟩
    obtain ⟨c1, c2, c3, c4, c5, c6⟩ := CS_FX G' hs' f
    refine ⟨nI n, M', R', uM3 ad M' n, p1, u1, _, n, h, tl', tx, β', σ, G', ⟨c1, c2, EQ_RT e (OK_IV c5) c3, c4, EQ_OK e c5, c6⟩, ?_, GR', rs2, ⟨uM3_c hi M' n, by omega, fun k hk => uM3_SV hi (rk'.2.2 k (by omega))⟩, ?_⟩
    · exact CT_FX (CT_FX ct m7 m8) (f 207 (by omega)).1 (f 208 (by omega)).1
    · exact RX_fr (FY_RX fy rx) (uM3_0 hi M' n (by omega)) (uM3_I hi M' n (by omega) (by omega) (by omega))
