/-! both together: a band more -/
theorem fI_congr {f g : Nat → Nat → Nat} (h : ∀ b y, y < 801 → f b y = g b y) : fI f = fI g := by
  funext k
  unfold fI
  rw [h _ _ (Nat.mod_lt _ (by omega))]
def zB (f : Nat → Nat → Nat) (b k : Nat) : Nat → Nat → Nat := fun b' y => if b' = b ∧ y < k then 0 else f b' y
theorem zB_0 (f : Nat → Nat → Nat) (b : Nat) : zB f b 0 = f := by
  funext b' y
  unfold zB
  exact if_neg (by omega)
theorem zB_s (f : Nat → Nat → Nat) (b k : Nat) : f2 (zB f b k) b k 0 = zB f b (k + 1) := by
  funext b' y
  unfold f2 zB
  by_cases h : b' = b ∧ y = k
  · rw [if_pos h, if_pos (by omega)]
  · rw [if_neg h]
    by_cases h2 : b' = b ∧ y < k
    · rw [if_pos h2, if_pos (by omega)]
    · rw [if_neg h2, if_neg (by omega)]
theorem zB_e (f : Nat → Nat → Nat) (b Y v : Nat) : fI (f2 (zB f b 801) b Y v) = fI (fset f b (rB Y v)) := fI_congr (fun b' y hy => by
  unfold f2 zB
  by_cases h : b' = b
  · subst h
    rw [fset_s]
    unfold rB
    by_cases h2 : y = Y
    · rw [if_pos ⟨rfl, h2⟩, if_pos h2]
    · rw [if_neg (by omega), if_pos ⟨rfl, hy⟩, if_neg h2]
  · rw [if_neg (by omega), if_neg (by omega), fset_n _ _ h])
theorem x7_lay {ad : Nat → Nat} {T : Ty} {R : Rm} (G : RG ad T R) {M : Mm} {m : Nat → Int32} {f : Nat → Nat → Nat} {acc : Nat → Int64} {b v Y : Nat} (hb : b < 10) (h7 : m 7 = nI Y) (hY8 : Y < 801) : fn_X7_lay T R (ad 250) (nI b) (nI v) (P3 ad M m (fI f) acc) = some ((), P3 ad M m (fI (fset f b (rB Y v))) (vp_updL acc 0 (acc 0 + (nI v).toInt64))) := by
  obtain ⟨hi, k0, k251, n251, r251, k252, n252, r252, k253, n253, r253, k254, n254, r254, k255, n255, r255, k256, n256, r256, k257, n257, r257, k258, n258, r258, k259, n259, r259, k260, n260, r260, k261, n261, r261⟩ := G
  have key : ∀ d k fuel, k + d = 801 → d < fuel → fb_X7_lay_2 T R (ad 250) (nI b) (nI v) fuel (nI k) (P3 ad M m (fI (zB f b k)) acc) = some ((), P3 ad M m (fI (fset f b (rB Y v))) (vp_updL acc 0 (acc 0 + (nI v).toInt64))) := by
    intro d
    induction d with
    | zero =>
      intro k fuel h1 hf
      obtain ⟨n', rfl⟩ : ∃ n', fuel = n' + 1 := ⟨fuel - 1, by omega⟩
      obtain rfl : k = 801 := by omega
      have e2 := sP3_i2 hi M m (zB f b 801) acc (b := b) (y := Y) v hY8
      rw [zB_e] at e2
      rw [fbs_X7_lay_2]
      unfold fs_X7_lay_2
      simp (disch := omega) only [↓cal_w6, ↓cal_w7, ↓lm1, l0, l1, l2, l3, l4, l5, l6, l7, l8, l9, l10, l11, l12, l13, l14, l31, l32, l44, l48, l50, l57, l59, l60, l74, l100, l110, l126, l300, l330, l500, l501, l801, l1000, l5000, l5010, l8010, l8192, l9000, l10000, l1000000, and_self, and_true, true_and, and_false, false_and, nI_add, pk_mul, nI_clamp, ↓reduceIte, eF, lT, lF, leT, leF, chk_d, chk_t, chk_inb, rfm_s, bnd_e, cal_e, calR_e, k0, k251, n251, r251, k252, n252, r252, k253, n253, r253, k254, n254, r254, k255, n255, r255, k256, n256, r256, k257, n257, r257, k258, n258, r258, k259, n259, r259, k260, n260, r260, k261, n261, r261, P3_m, h7, e2, P3_a, sP3_a]
    | succ d ih =>
      intro k fuel h1 hf
      obtain ⟨n', rfl⟩ : ∃ n', fuel = n' + 1 := ⟨fuel - 1, by omega⟩
      have ih' := ih (k + 1) n' (by omega) (by omega)
      have e2 := sP3_i2 hi M m (zB f b k) acc (b := b) (y := k) 0 (by omega)
      rw [zB_s] at e2
      rw [fbs_X7_lay_2]
      unfold fs_X7_lay_2
      simp (disch := omega) only [↓cal_w6, ↓cal_w7, ↓lm1, l0, l1, l2, l3, l4, l5, l6, l7, l8, l9, l10, l11, l12, l13, l14, l31, l32, l44, l48, l50, l57, l59, l60, l74, l100, l110, l126, l300, l330, l500, l501, l801, l1000, l5000, l5010, l8010, l8192, l9000, l10000, l1000000, and_self, and_true, true_and, and_false, false_and, nI_add, pk_mul, nI_clamp, ↓reduceIte, eF, lT, lF, leT, leF, chk_d, chk_t, chk_inb, rfm_s, bnd_e, cal_e, calR_e, k0, k251, n251, r251, k252, n252, r252, k253, n253, r253, k254, n254, r254, k255, n255, r255, k256, n256, r256, k257, n257, r257, k258, n258, r258, k259, n259, r259, k260, n260, r260, k261, n261, r261, e2, ih']
  have h := key 801 0 FU (by omega) (FU_gt (by omega))
  rw [zB_0] at h
  unfold fn_X7_lay
  simp only [l0]
  exact h
theorem x7_band78 {ad : Nat → Nat} {T : Ty} {R : Rm} (G : RG ad T R) {M M3 : Mm} {s : Sx} {K Y nb ns : Nat} (g : GS K Y nb ns s) (hn : nb < 10) {h len cr : Int32} {v : Nat} (hk : fn_X7_keep T R (ad 250) M = some ((), PS ad M3 s)) : fs_X7_band_78 T R (ad 250) h len cr (nI v) (nI nb) M = some (nI nb, PS ad M3 (sB h len cr v s)) := by
  have G0 := G
  have h7 := g.2.1
  have h8 := g.2.2.1
  have hY8 := g.2.2.2.2.1
  have n7 := g.2.2.2.2.2.2.2.1
  have n8 := g.2.2.2.2.2.2.2.2.1
  have e : PS ad M3 (sB h len cr v s) = P3 ad M3 (mB s.1 nb h len cr) (fI (fset s.2.1 nb (rB Y v))) (vp_updL s.2.2 0 (s.2.2 0 + (nI v).toInt64)) := by
    unfold sB PS
    rw [n7, n8]
  have hl := x7_lay G0 (M := M3) (m := mB s.1 nb h len cr) (f := s.2.1) (acc := s.2.2) (b := nb) (v := v) (Y := Y) hn ((mB_o (by omega) (by omega)).trans h7) (by omega)
  unfold mB at hl
  rw [e]
  have o := fun (M : Mm) (k : Nat) (w : Int32) (hk : k < 6) => x7_put G0 M (b := nb) (k := k) w (by omega)
  obtain ⟨hi, k0, k251, n251, r251, k252, n252, r252, k253, n253, r253, k254, n254, r254, k255, n255, r255, k256, n256, r256, k257, n257, r257, k258, n258, r258, k259, n259, r259, k260, n260, r260, k261, n261, r261⟩ := G
  unfold PS at hk
  unfold fs_X7_band_78 mB
  simp (disch := omega) only [↓cal_w6, ↓cal_w7, ↓lm1, l0, l1, l2, l3, l4, l5, l6, l7, l8, l9, l10, l11, l12, l13, l14, l31, l32, l44, l48, l50, l57, l59, l60, l74, l100, l110, l126, l300, l330, l500, l501, l801, l1000, l5000, l5010, l8010, l8192, l9000, l10000, l1000000, and_self, and_true, true_and, and_false, false_and, nI_add, pk_mul, nI_clamp, ↓reduceIte, eF, lT, lF, leT, leF, chk_d, chk_t, chk_inb, rfm_s, bnd_e, cal_e, calR_e, k0, k251, n251, r251, k252, n252, r252, k253, n253, r253, k254, n254, r254, k255, n255, r255, k256, n256, r256, k257, n257, r257, k258, n258, r258, k259, n259, r259, k260, n260, r260, k261, n261, r261, hk, o, P3_m, sP3_m, hl]
theorem x5_isBelowAll {T : Ty} {R : Rm} {q σ : Nat → Nat} (G : TG T R q σ) (M : Mm) {c : Nat → Nat → Int32} {l : Nat → Int64} {nb : Nat} (h4 : c 0 4 = nI nb) (hnb : nb ≤ 10) (x : Int32) (p : Bool) (hp : p = decide (nb = 0 ∨ x < c (5 + 3 * (nb - 1)) 1)) : fn_X5_isBelowAll T R (q 0) x (TV q M c l) = some (bI p, TV q M c l) := by
  obtain ⟨hq, k0, r00, r01, r02, r03, k1, n1, k2, n2, k3, n3, k4, rb, kb, rl, lg, rs, ks, sl, si⟩ := G
  unfold fn_X5_isBelowAll
  by_cases h0 : nb = 0
  · subst h0
    have ep : p = true := by rw [hp]; exact decide_eq_true (.inl rfl)
    rw [ep]
    simp (disch := omega) only [↓cal_w6, ↓cal_w7, ↓lm1, l0, l1, l2, l3, l4, l5, l6, l7, l8, l9, l10, l11, l12, l13, l14, l31, l32, l44, l48, l50, l57, l59, l60, l74, l100, l110, l126, l300, l330, l500, l501, l801, l1000, l5000, l5010, l8010, l8192, l9000, l10000, l1000000, and_self, and_true, true_and, and_false, false_and, nI_add, pk_mul, nI_clamp, ↓reduceIte, eF, lT, lF, leT, leF, chk_d, chk_t, chk_inb, rfm_s, bnd_e, cal_e, calR_e, k0, r00, r01, r02, r03, k1, n1, k2, n2, k3, n3, k4, rb, kb, rl, rs, ks, TV_g hq, h4, bI, cond_true]
  · by_cases h1 : x < c (5 + 3 * (nb - 1)) 1
    · have ep : p = true := by rw [hp]; exact decide_eq_true (.inr h1)
      have h2 : (c (5 + 3 * (nb - 1)) 1 ≤ x) = False := eq_false (Int32.not_le.mpr h1)
      rw [ep]
      simp (disch := omega) only [↓cal_w6, ↓cal_w7, ↓lm1, l0, l1, l2, l3, l4, l5, l6, l7, l8, l9, l10, l11, l12, l13, l14, l31, l32, l44, l48, l50, l57, l59, l60, l74, l100, l110, l126, l300, l330, l500, l501, l801, l1000, l5000, l5010, l8010, l8192, l9000, l10000, l1000000, and_self, and_true, true_and, and_false, false_and, nI_add, pk_mul, nI_clamp, ↓reduceIte, eF, lT, lF, leT, leF, chk_d, chk_t, chk_inb, rfm_s, bnd_e, cal_e, calR_e, k0, r00, r01, r02, r03, k1, n1, k2, n2, k3, n3, k4, rb, kb, rl, rs, ks, TV_g hq, h4, nIs, h2, bI, cond_true]
    · have ep : p = false := by rw [hp]; exact decide_eq_false (fun hh => hh.elim h0 h1)
      have h2 : (c (5 + 3 * (nb - 1)) 1 ≤ x) = True := eq_true (Int32.not_lt.mp h1)
      rw [ep]
      simp (disch := omega) only [↓cal_w6, ↓cal_w7, ↓lm1, l0, l1, l2, l3, l4, l5, l6, l7, l8, l9, l10, l11, l12, l13, l14, l31, l32, l44, l48, l50, l57, l59, l60, l74, l100, l110, l126, l300, l330, l500, l501, l801, l1000, l5000, l5010, l8010, l8192, l9000, l10000, l1000000, and_self, and_true, true_and, and_false, false_and, nI_add, pk_mul, nI_clamp, ↓reduceIte, eF, lT, lF, leT, leF, chk_d, chk_t, chk_inb, rfm_s, bnd_e, cal_e, calR_e, k0, r00, r01, r02, r03, k1, n1, k2, n2, k3, n3, k4, rb, kb, rl, rs, ks, TV_g hq, h4, nIs, h2, bI, cond_false]
theorem g_band {ad : Nat → Nat} {T : Ty} {M : Mm} {R : Rm} {s : Sx} {n : Nat} {h : Nat → Sx} {tl' : Nat} {tx : Nat → Nat} {β : Nat → Nat} {σ : Nat → Nat → Nat} (w : WD ad T M R s n h tl' tx β σ) (x y z u : Int32) : SW ad T (fn_X6_band T (ad 0) x y z u M R) (fun R1 M1 => fn_X7_band T R1 (ad 250) x y z u M1) := by
  have w1 := w
  obtain ⟨G, hs, ct, GR, rsw, rk, rx⟩ := w
  have hi := GR.1
  have b4 := CG_bs G (show 4 < 5 by omega)
  have tg := CG_tg G (.inr b4)
  have tg0 := tg
  have hM := M_TV hi M (β 4)
  have rt := hs.2.2.1
  have rt0 := rt
  obtain ⟨Y, nb, ns, g, hY5, hz⟩ := hs.2.2.2.2.1
  have P := RS_RP rsw
  have I := g.1.1
  have hY8 := g.2.2.2.2.1
  have hnb := g.2.2.2.2.2.1
  have hns := g.2.2.2.2.2.2.1
  have n7 := g.2.2.2.2.2.2.2.1
  have n8 := g.2.2.2.2.2.2.2.2.1
  have n9 := g.2.2.2.2.2.2.2.2.2
  have h7 := g.2.1
  have h8 := g.2.2.1
  have h9 := g.2.2.2.1
  have hK : 1000000 * nb + 300000 * Y < 2 ^ 30 := by omega
  have z0 := G.2.2.2.2.1
  have w0 := G.1
  have p7 : gI M (ad 251) 7 = nI Y := (P.1 7 (by omega)).trans h7
  have p8 : gI M (ad 251) 8 = nI nb := (P.1 8 (by omega)).trans h8
  have p9 : gI M (ad 251) 9 = nI ns := (P.1 9 (by omega)).trans h9
  have GR0 := GR
  obtain ⟨_, kR, k251, n251, r251, k252, n252, r252, k253, n253, r253, k254, n254, r254, k255, n255, r255, k256, n256, r256, k257, n257, r257, k258, n258, r258, k259, n259, r259, k260, n260, r260, k261, n261, r261⟩ := GR
  obtain ⟨t1, t04, t05, t06, t40, t41, t42, t43, tl, tb, ts⟩ := rt
  rw [h8] at t04
  rw [h9] at t05
  rw [h7] at t06
  obtain ⟨hq, k0, r00, r01, r02, r03, k1, n1, k2, n2, k3, n3, k4, rb, kb, rl, lg, rs, ks, sl, si⟩ := tg
  by_cases hx : nI 0 ≤ x ∧ x ≤ nI 5000
  rotate_left
  · have hx' : (nI 0 ≤ x ∧ x ≤ nI 5000) = False := eq_false hx
    refine SW_no w1 (-2000000001) ?_ ?_
    · unfold fn_X6_band
      simp (disch := omega) only [↓cal_w6, ↓cal_w7, ↓lm1, l0, l1, l2, l3, l4, l5, l6, l7, l8, l9, l10, l11, l12, l13, l14, l31, l32, l44, l48, l50, l57, l59, l60, l74, l100, l110, l126, l300, l330, l500, l501, l801, l1000, l5000, l5010, l8010, l8192, l9000, l10000, l1000000, and_self, and_true, true_and, and_false, false_and, nI_add, pk_mul, nI_clamp, ↓reduceIte, eF, lT, lF, leT, leF, chk_d, chk_t, chk_inb, rfm_s, bnd_e, cal_e, calR_e, x6_isWithin, hx']
    · show fn_X7_band T R (ad 250) x y z u M = _
      unfold fn_X7_band
      simp (disch := omega) only [↓cal_w6, ↓cal_w7, ↓lm1, l0, l1, l2, l3, l4, l5, l6, l7, l8, l9, l10, l11, l12, l13, l14, l31, l32, l44, l48, l50, l57, l59, l60, l74, l100, l110, l126, l300, l330, l500, l501, l801, l1000, l5000, l5010, l8010, l8192, l9000, l10000, l1000000, and_self, and_true, true_and, and_false, false_and, nI_add, pk_mul, nI_clamp, ↓reduceIte, eF, lT, lF, leT, leF, chk_d, chk_t, chk_inb, rfm_s, bnd_e, cal_e, calR_e, x7_in', hx']
  have hx' : (nI 0 ≤ x ∧ x ≤ nI 5000) = True := eq_true hx
  by_cases hy : nI 100 ≤ y ∧ y ≤ nI 5000
  rotate_left
  · have hy' : (nI 100 ≤ y ∧ y ≤ nI 5000) = False := eq_false hy
    refine SW_no w1 (-2000000001) ?_ ?_
    · unfold fn_X6_band
      simp (disch := omega) only [↓cal_w6, ↓cal_w7, ↓lm1, l0, l1, l2, l3, l4, l5, l6, l7, l8, l9, l10, l11, l12, l13, l14, l31, l32, l44, l48, l50, l57, l59, l60, l74, l100, l110, l126, l300, l330, l500, l501, l801, l1000, l5000, l5010, l8010, l8192, l9000, l10000, l1000000, and_self, and_true, true_and, and_false, false_and, nI_add, pk_mul, nI_clamp, ↓reduceIte, eF, lT, lF, leT, leF, chk_d, chk_t, chk_inb, rfm_s, bnd_e, cal_e, calR_e, x6_isWithin, hx', hy']
    · show fn_X7_band T R (ad 250) x y z u M = _
      unfold fn_X7_band
      simp (disch := omega) only [↓cal_w6, ↓cal_w7, ↓lm1, l0, l1, l2, l3, l4, l5, l6, l7, l8, l9, l10, l11, l12, l13, l14, l31, l32, l44, l48, l50, l57, l59, l60, l74, l100, l110, l126, l300, l330, l500, l501, l801, l1000, l5000, l5010, l8010, l8192, l9000, l10000, l1000000, and_self, and_true, true_and, and_false, false_and, nI_add, pk_mul, nI_clamp, ↓reduceIte, eF, lT, lF, leT, leF, chk_d, chk_t, chk_inb, rfm_s, bnd_e, cal_e, calR_e, x7_in', hx', hy']
  have hy' : (nI 100 ≤ y ∧ y ≤ nI 5000) = True := eq_true hy
  by_cases hz' : nI 0 ≤ z ∧ z ≤ nI 500
  rotate_left
  · have hz2 : (nI 0 ≤ z ∧ z ≤ nI 500) = False := eq_false hz'
    refine SW_no w1 (-2000000001) ?_ ?_
    · unfold fn_X6_band
      simp (disch := omega) only [↓cal_w6, ↓cal_w7, ↓lm1, l0, l1, l2, l3, l4, l5, l6, l7, l8, l9, l10, l11, l12, l13, l14, l31, l32, l44, l48, l50, l57, l59, l60, l74, l100, l110, l126, l300, l330, l500, l501, l801, l1000, l5000, l5010, l8010, l8192, l9000, l10000, l1000000, and_self, and_true, true_and, and_false, false_and, nI_add, pk_mul, nI_clamp, ↓reduceIte, eF, lT, lF, leT, leF, chk_d, chk_t, chk_inb, rfm_s, bnd_e, cal_e, calR_e, x6_isWithin, hx', hy', hz2]
    · show fn_X7_band T R (ad 250) x y z u M = _
      unfold fn_X7_band
      simp (disch := omega) only [↓cal_w6, ↓cal_w7, ↓lm1, l0, l1, l2, l3, l4, l5, l6, l7, l8, l9, l10, l11, l12, l13, l14, l31, l32, l44, l48, l50, l57, l59, l60, l74, l100, l110, l126, l300, l330, l500, l501, l801, l1000, l5000, l5010, l8010, l8192, l9000, l10000, l1000000, and_self, and_true, true_and, and_false, false_and, nI_add, pk_mul, nI_clamp, ↓reduceIte, eF, lT, lF, leT, leF, chk_d, chk_t, chk_inb, rfm_s, bnd_e, cal_e, calR_e, x7_in', hx', hy', hz2]
  have hz2 : (nI 0 ≤ z ∧ z ≤ nI 500) = True := eq_true hz'
  by_cases hu : nI 0 ≤ u ∧ u ≤ nI 1000000
  rotate_left
  · have hu' : (nI 0 ≤ u ∧ u ≤ nI 1000000) = False := eq_false hu
    refine SW_no w1 (-2000000001) ?_ ?_
    · unfold fn_X6_band
      simp (disch := omega) only [↓cal_w6, ↓cal_w7, ↓lm1, l0, l1, l2, l3, l4, l5, l6, l7, l8, l9, l10, l11, l12, l13, l14, l31, l32, l44, l48, l50, l57, l59, l60, l74, l100, l110, l126, l300, l330, l500, l501, l801, l1000, l5000, l5010, l8010, l8192, l9000, l10000, l1000000, and_self, and_true, true_and, and_false, false_and, nI_add, pk_mul, nI_clamp, ↓reduceIte, eF, lT, lF, leT, leF, chk_d, chk_t, chk_inb, rfm_s, bnd_e, cal_e, calR_e, x6_isWithin, hx', hy', hz2, hu']
    · show fn_X7_band T R (ad 250) x y z u M = _
      unfold fn_X7_band
      simp (disch := omega) only [↓cal_w6, ↓cal_w7, ↓lm1, l0, l1, l2, l3, l4, l5, l6, l7, l8, l9, l10, l11, l12, l13, l14, l31, l32, l44, l48, l50, l57, l59, l60, l74, l100, l110, l126, l300, l330, l500, l501, l801, l1000, l5000, l5010, l8010, l8192, l9000, l10000, l1000000, and_self, and_true, true_and, and_false, false_and, nI_add, pk_mul, nI_clamp, ↓reduceIte, eF, lT, lF, leT, leF, chk_d, chk_t, chk_inb, rfm_s, bnd_e, cal_e, calR_e, x7_in', hx', hy', hz2, hu']
  have hu' : (nI 0 ≤ u ∧ u ≤ nI 1000000) = True := eq_true hu
  have a5 := x5_isBelowAll tg0 M (c := CC ad M (β 4)) (l := CL ad M (β 4)) t04 hnb x _ rfl
  rw [hM] at a5
  have hlast : 0 < nb → CC ad M (β 4) (5 + 3 * (nb - 1)) 1 = s.1 (14 + 6 * (nb - 1) + 0) := fun h0 => (tb (nb - 1) (by omega)).1 0 (by omega)
  -- the reference's question, at any memory that holds the same numbers
  have ref : ∀ (R1 : Rm) (M1 : Mm), RG ad T R1 → (∀ k, k < 110 → gI M1 (ad 251) k = s.1 k) → (nb = 0 ∨ x < CC ad M (β 4) (5 + 3 * (nb - 1)) 1) → fn_X7_band T R1 (ad 250) x y z u M1 = fs_X7_band_78 T R1 (ad 250) x y z u (nI nb) M1 := by
    intro R1 M1 G1 hm hb
    have G10 := G1
    have p8' : gI M1 (ad 251) 8 = nI nb := (hm 8 (by omega)).trans h8
    by_cases h0 : nb = 0
    · subst h0
      clear kR k251 n251 r251
      obtain ⟨hi', k0', k251, n251, r251, -⟩ := G1
      unfold fn_X7_band
      simp (disch := omega) only [↓cal_w6, ↓cal_w7, ↓lm1, l0, l1, l2, l3, l4, l5, l6, l7, l8, l9, l10, l11, l12, l13, l14, l31, l32, l44, l48, l50, l57, l59, l60, l74, l100, l110, l126, l300, l330, l500, l501, l801, l1000, l5000, l5010, l8010, l8192, l9000, l10000, l1000000, and_self, and_true, true_and, and_false, false_and, nI_add, pk_mul, nI_clamp, ↓reduceIte, eF, lT, lF, leT, leF, chk_d, chk_t, chk_inb, rfm_s, bnd_e, cal_e, calR_e, k0', k251, n251, r251, x7_in', hx', hy', hz2, hu', p8']
    · have hlt : x < s.1 (14 + 6 * (nb - 1) + 0) := by
        rw [← hlast (by omega)]
        exact hb.resolve_left h0
      have o0 := x7_of G10 M1 (b := nb - 1) (k := 0) (by omega)
      rw [hm _ (by omega)] at o0
      clear kR k251 n251 r251
      obtain ⟨hi', k0', k251, n251, r251, -⟩ := G1
      unfold fn_X7_band
      simp (disch := omega) only [↓cal_w6, ↓cal_w7, ↓lm1, l0, l1, l2, l3, l4, l5, l6, l7, l8, l9, l10, l11, l12, l13, l14, l31, l32, l44, l48, l50, l57, l59, l60, l74, l100, l110, l126, l300, l330, l500, l501, l801, l1000, l5000, l5010, l8010, l8192, l9000, l10000, l1000000, and_self, and_true, true_and, and_false, false_and, nI_add, pk_mul, nI_clamp, ↓reduceIte, eF, lT, lF, leT, leF, chk_d, chk_t, chk_inb, rfm_s, bnd_e, cal_e, calR_e, k0', k251, n251, r251, x7_in', hx', hy', hz2, hu', p8', nIs, o0, hlt]
  by_cases hb : nb = 0 ∨ x < CC ad M (β 4) (5 + 3 * (nb - 1)) 1
  · rw [decide_eq_true hb] at a5
    have e1 : bI true = nI 1 := rfl
    rw [e1] at a5
    by_cases hn : nb < 10
    · obtain ⟨xv, rfl, x1, x2⟩ := bet hx (by omega) (by omega)
      obtain ⟨yv, rfl, y1, y2⟩ := bet hy (by omega) (by omega)
      obtain ⟨zv, rfl, z1, z2⟩ := bet hz' (by omega) (by omega)
      obtain ⟨uv, rfl, u1, u2⟩ := bet hu (by omega) (by omega)
      obtain ⟨M', R', β', p1, G', GR', rt', fy, m7, m8, rr, eM, nx⟩ := step_rec w1
      have b4' := CG_bs G' (show 4 < 5 by omega)
      have tg' := CG_tg G' (.inr b4')
      have z0' := G'.2.2.2.2.1
      obtain ⟨c', l', v1, v2⟩ := x5_addBand tg' M' g rt' hn (nI xv) (nI yv) (nI zv) u2
      rw [eM] at v1
      obtain ⟨M3, q1, q2⟩ := nx c' l' _ R' σ G' GR' (fun _ _ => rfl) v2 (OK_B g hY5 hz hn x2 y1 y2 z2 u2)
      have f2 := FY_t fy (FY_TV hi (.inr b4') M' c' l')
      have k0' := tg'.2.1
      refine ⟨nI nb, TV (qq ad (β' 4)) M' c' l', R', _, ?_, ?_, _, _, _, _, _, _, _, q2⟩
      · unfold fn_X6_band
        simp (disch := omega) only [↓cal_w6, ↓cal_w7, ↓lm1, l0, l1, l2, l3, l4, l5, l6, l7, l8, l9, l10, l11, l12, l13, l14, l31, l32, l44, l48, l50, l57, l59, l60, l74, l100, l110, l126, l300, l330, l500, l501, l801, l1000, l5000, l5010, l8010, l8192, l9000, l10000, l1000000, and_self, and_true, true_and, and_false, false_and, nI_add, pk_mul, nI_clamp, ↓reduceIte, eF, lT, lF, leT, leF, chk_d, chk_t, chk_inb, rfm_s, bnd_e, cal_e, calR_e, x6_isWithin, hx', hy', hz2, hu', ↓chk_q w0, ↓rfm_q z0, ↓chk_q k0, w0, z0, k0, r00, r01, r02, r03, k1, n1, k2, n2, k3, n3, k4, rb, kb, rl, rs, ks, ↓cal_q a5, a5, gCC, t04, p1, calR_u, z0', k0', v1]
      · show fn_X7_band T R' (ad 250) _ _ _ _ _ = _
        rw [ref R' _ GR' (fun k hk => (congrFun (f2 251 (by omega)).1 k).trans (P.1 k hk)) hb]
        exact x7_band78 GR' g hn q1
    · have hn10 : nb = 10 := by omega
      refine SW_no w1 (-2000000003) ?_ ?_
      · unfold fn_X6_band
        simp (disch := omega) only [↓cal_w6, ↓cal_w7, ↓lm1, l0, l1, l2, l3, l4, l5, l6, l7, l8, l9, l10, l11, l12, l13, l14, l31, l32, l44, l48, l50, l57, l59, l60, l74, l100, l110, l126, l300, l330, l500, l501, l801, l1000, l5000, l5010, l8010, l8192, l9000, l10000, l1000000, and_self, and_true, true_and, and_false, false_and, nI_add, pk_mul, nI_clamp, ↓reduceIte, eF, lT, lF, leT, leF, chk_d, chk_t, chk_inb, rfm_s, bnd_e, cal_e, calR_e, x6_isWithin, hx', hy', hz2, hu', ↓chk_q w0, ↓rfm_q z0, ↓chk_q k0, w0, z0, k0, r00, r01, r02, r03, k1, n1, k2, n2, k3, n3, k4, rb, kb, rl, rs, ks, ↓cal_q a5, a5, gCC, t04]
      · show fn_X7_band T R (ad 250) x y z u M = _
        rw [ref R M GR0 P.1 hb, hn10]
        unfold fs_X7_band_78
        simp (disch := omega) only [↓cal_w6, ↓cal_w7, ↓lm1, l0, l1, l2, l3, l4, l5, l6, l7, l8, l9, l10, l11, l12, l13, l14, l31, l32, l44, l48, l50, l57, l59, l60, l74, l100, l110, l126, l300, l330, l500, l501, l801, l1000, l5000, l5010, l8010, l8192, l9000, l10000, l1000000, and_self, and_true, true_and, and_false, false_and, nI_add, pk_mul, nI_clamp, ↓reduceIte, eF, lT, lF, leT, leF, chk_d, chk_t, chk_inb, rfm_s, bnd_e, cal_e, calR_e]
  · rw [decide_eq_false hb] at a5
    have e1 : bI false = nI 0 := rfl
    rw [e1] at a5
    refine SW_no w1 (-2000000002) ?_ ?_
    · unfold fn_X6_band
      simp (disch := omega) only [↓cal_w6, ↓cal_w7, ↓lm1, l0, l1, l2, l3, l4, l5, l6, l7, l8, l9, l10, l11, l12, l13, l14, l31, l32, l44, l48, l50, l57, l59, l60, l74, l100, l110, l126, l300, l330, l500, l501, l801, l1000, l5000, l5010, l8010, l8192, l9000, l10000, l1000000, and_self, and_true, true_and, and_false, false_and, nI_add, pk_mul, nI_clamp, ↓reduceIte, eF, lT, lF, leT, leF, chk_d, chk_t, chk_inb, rfm_s, bnd_e, cal_e, calR_e, x6_isWithin, hx', hy', hz2, hu', ↓chk_q w0, ↓rfm_q z0, ↓chk_q k0, w0, z0, k0, r00, r01, r02, r03, k1, n1, k2, n2, k3, n3, k4, rb, kb, rl, rs, ks, ↓cal_q a5, a5]
    · have h0 : nb ≠ 0 := fun e => hb (.inl e)
      have hlt : (x < s.1 (14 + 6 * (nb - 1) + 0)) = False := eq_false (fun e => hb (.inr (by
        rw [hlast (by omega)]
        exact e)))
      have o0 := x7_of GR0 M (b := nb - 1) (k := 0) (by omega)
      rw [P.1 _ (by omega)] at o0
      show fn_X7_band T R (ad 250) x y z u M = _
      unfold fn_X7_band
      simp (disch := omega) only [↓cal_w6, ↓cal_w7, ↓lm1, l0, l1, l2, l3, l4, l5, l6, l7, l8, l9, l10, l11, l12, l13, l14, l31, l32, l44, l48, l50, l57, l59, l60, l74, l100, l110, l126, l300, l330, l500, l501, l801, l1000, l5000, l5010, l8010, l8192, l9000, l10000, l1000000, and_self, and_true, true_and, and_false, false_and, nI_add, pk_mul, nI_clamp, ↓reduceIte, eF, lT, lF, leT, leF, chk_d, chk_t, chk_inb, rfm_s, bnd_e, cal_e, calR_e, ↓chk_q kR, kR, k251, n251, r251, k252, n252, r252, k253, n253, r253, k254, n254, r254, k255, n255, r255, k256, n256, r256, k257, n257, r257, k258, n258, r258, k259, n259, r259, k260, n260, r260, k261, n261, r261, x7_in', hx', hy', hz2, hu', p8, nIs, o0, hlt]
