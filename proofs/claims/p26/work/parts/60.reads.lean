/-! the world of the class alone, and what it answers, as numbers of the state -/
def WQ (ad : Nat → Nat) (T : Ty) (M : Mm) (R : Rm) (s : Sx) (n : Nat) (h : Nat → Sx) : Prop := ∃ tx β σ, (∀ a b : Nat, (ad a = ad b) = (a = b)) ∧ CG ad T R β σ ∧ CS ad M s n h β σ ∧ CT ad M 0 tx
theorem WQ_GS {ad : Nat → Nat} {T : Ty} {M : Mm} {R : Rm} {s : Sx} {n : Nat} {h : Nat → Sx} (w : WQ ad T M R s n h) : ∃ Y nb ns, GS (1000000 * nb + 300000 * Y) Y nb ns s ∧ Y ≤ 500 ∧ Zs s := by
  obtain ⟨tx, β, σ, hi, G, hs, ct⟩ := w
  exact hs.2.2.2.2.1
theorem WQ_n {ad : Nat → Nat} {T : Ty} {M : Mm} {R : Rm} {s : Sx} {n : Nat} {h : Nat → Sx} (w : WQ ad T M R s n h) : n ≤ 4 ∧ isK T (ad 0) 6 = true := by
  obtain ⟨tx, β, σ, hi, G, hs, ct⟩ := w
  exact ⟨hs.2.1, G.1⟩
theorem nn_c (x : Int32) (h : ¬ x < nI 0) : ∃ i, i < 2 ^ 31 ∧ x = nI i := by
  have e : x = zI x.toInt := zI_of rfl
  have h1 := Int32.le_toInt x
  have h2 := Int32.toInt_lt x
  rw [e, zI_neg (by omega) (by omega)] at h
  exact ⟨x.toInt.toNat, by omega, e.trans (zI_toNat (by omega))⟩
theorem nONE_leF : (nI 0 ≤ nONE) = False := eq_false (by decide)
theorem GS_31 {Y nb ns : Nat} {s : Sx} (g : GS (1000000 * nb + 300000 * Y) Y nb ns s) (hY : Y ≤ 500) {b : Nat} (hb : b < nb) : sm (s.2.1 b) 801 < 2 ^ 31 ∧ ∀ y, y ≤ Y → s.2.1 b y < 2 ^ 31 := by
  have hnb := g.2.2.2.2.2.1
  have h1 := GS_row g hb
  have h2 : sm (s.2.1 b) 801 < 2 ^ 31 := by omega
  exact ⟨h2, fun y hy => Nat.lt_of_le_of_lt (sm_le1 (s.2.1 b) (show y < 801 by omega)) h2⟩
theorem yl_801 {K Y nb ns : Nat} {s : Sx} (g : GS K Y nb ns s) {b : Nat} (hb : b < nb) (i : Nat) : yl (s.2.1 b) 801 0 i = yl (s.2.1 b) (Y + 1) 0 i := by
  have hY8 := g.2.2.2.2.1
  have h := yl_a (g := s.2.1 b) (m := 800 - Y) (n := Y + 1) (y := 0) (i := i) (fun z h1 h2 => GS_z g hb (by omega))
  rw [show Y + 1 + (800 - Y) = 801 by omega] at h
  exact h
theorem cnt_le (g : Nat → Nat) : ∀ k, sm (cnt g) k ≤ k := by
  intro k
  induction k with
  | zero => exact Nat.le_refl _
  | succ k ih =>
    rw [sm_s]
    have : cnt g k ≤ 1 := by
      unfold cnt
      split <;> omega
    omega
theorem r_b0 {ad : Nat → Nat} {T : Ty} {M : Mm} {R : Rm} {s : Sx} {n : Nat} {h : Nat → Sx} (w : WQ ad T M R s n h) {Y nb ns : Nat} (g : GS (1000000 * nb + 300000 * Y) Y nb ns s) (hY5 : Y ≤ 500) {b : Nat} (hb : b < nb) : fn_X6_bandInfo T R (ad 0) (nI b) (nI 0) M = some (s.1 (14 + 6 * b), M) := by
  obtain ⟨tx, β, σ, hi, G, hs, ct⟩ := w
  have b4 := CG_bs G (show 4 < 5 by omega)
  have tg := CG_tg G (.inr b4)
  have tg0 := tg
  have hM := M_TV hi M (β 4)
  have rt := hs.2.2.1
  have rt0 := rt
  have I := g.1.1
  have hY8 := g.2.2.2.2.1
  have hnb := g.2.2.2.2.2.1
  have hns := g.2.2.2.2.2.2.1
  have n7 := g.2.2.2.2.2.2.2.1
  have n8 := g.2.2.2.2.2.2.2.2.1
  have n9 := g.2.2.2.2.2.2.2.2.2
  have h7 := g.2.1
  have h8 := g.2.2.1
  have h9 := g.2.2.2.1
  have hK : 1000000 * nb + 300000 * Y < 2 ^ 30 := by omega
  have z0 := G.2.2.2.2.1
  have w0 := G.1
  obtain ⟨t1, t04, t05, t06, t40, t41, t42, t43, tl, tb, ts⟩ := rt
  rw [h8] at t04
  rw [h9] at t05
  rw [h7] at t06
  obtain ⟨hq, k0, r00, r01, r02, r03, k1, n1, k2, n2, k3, n3, k4, rb, kb, rl, lg, rs, ks, sl, si⟩ := tg
  have a1 := x5_hasBand tg0 M (l := CL ad M (β 4)) t04 hnb hb
  rw [hM] at a1
  have hb8 : b < nt (s.1 8) := by omega
  obtain ⟨v1, v2, v3⟩ := tb b hb8
  have kl := (lg b (by omega)).1
  have hrow := GS_row g hb
  have hc31 : sm (s.2.1 b) 801 < 2 ^ 31 := by omega
  have hf31 : ∀ y, y ≤ Y → s.2.1 b y < 2 ^ 31 := fun y hy => Nat.lt_of_le_of_lt (sm_le1 (s.2.1 b) (show y < 801 by omega)) hc31
  have a3 : (nI 0 ≤ nI 0 ∧ nI 0 ≤ nI 11) = True := in_t (by omega) (by omega) (by omega)
  have q1 := v1 0 (by omega)
  simp only [Nat.reduceAdd, Nat.add_zero] at q1
  unfold fn_X6_bandInfo
  simp (disch := omega) only [↓cal_w6, ↓lm1, l0, l1, l2, l3, l4, l5, l6, l7, l8, l9, l10, l11, l12, l13, l14, l31, l32, l44, l48, l50, l57, l59, l60, l74, l100, l110, l126, l300, l330, l500, l501, l801, l1000, l5000, l5010, l8010, l8192, l9000, l10000, l1000000, and_self, and_true, true_and, and_false, false_and, nI_add, pk_mul, nI_clamp, ↓reduceIte, eF, lT, lF, leT, leF, chk_d, chk_t, chk_inb, rfm_s, bnd_e, cal_e, calR_e, ↓chk_q w0, ↓rfm_q z0, ↓chk_q k0, w0, z0, k0, r00, r01, r02, r03, k1, n1, k2, n2, k3, n3, k4, rb, kb, rl, rs, ks, ↓cal_q a1, a1, x6_isWithin, a3, if_true, gCC, q1]
theorem r_b1 {ad : Nat → Nat} {T : Ty} {M : Mm} {R : Rm} {s : Sx} {n : Nat} {h : Nat → Sx} (w : WQ ad T M R s n h) {Y nb ns : Nat} (g : GS (1000000 * nb + 300000 * Y) Y nb ns s) (hY5 : Y ≤ 500) {b : Nat} (hb : b < nb) : fn_X6_bandInfo T R (ad 0) (nI b) (nI 1) M = some (s.1 (14 + 6 * b + 1), M) := by
  obtain ⟨tx, β, σ, hi, G, hs, ct⟩ := w
  have b4 := CG_bs G (show 4 < 5 by omega)
  have tg := CG_tg G (.inr b4)
  have tg0 := tg
  have hM := M_TV hi M (β 4)
  have rt := hs.2.2.1
  have rt0 := rt
  have I := g.1.1
  have hY8 := g.2.2.2.2.1
  have hnb := g.2.2.2.2.2.1
  have hns := g.2.2.2.2.2.2.1
  have n7 := g.2.2.2.2.2.2.2.1
  have n8 := g.2.2.2.2.2.2.2.2.1
  have n9 := g.2.2.2.2.2.2.2.2.2
  have h7 := g.2.1
  have h8 := g.2.2.1
  have h9 := g.2.2.2.1
  have hK : 1000000 * nb + 300000 * Y < 2 ^ 30 := by omega
  have z0 := G.2.2.2.2.1
  have w0 := G.1
  obtain ⟨t1, t04, t05, t06, t40, t41, t42, t43, tl, tb, ts⟩ := rt
  rw [h8] at t04
  rw [h9] at t05
  rw [h7] at t06
  obtain ⟨hq, k0, r00, r01, r02, r03, k1, n1, k2, n2, k3, n3, k4, rb, kb, rl, lg, rs, ks, sl, si⟩ := tg
  have a1 := x5_hasBand tg0 M (l := CL ad M (β 4)) t04 hnb hb
  rw [hM] at a1
  have hb8 : b < nt (s.1 8) := by omega
  obtain ⟨v1, v2, v3⟩ := tb b hb8
  have kl := (lg b (by omega)).1
  have hrow := GS_row g hb
  have hc31 : sm (s.2.1 b) 801 < 2 ^ 31 := by omega
  have hf31 : ∀ y, y ≤ Y → s.2.1 b y < 2 ^ 31 := fun y hy => Nat.lt_of_le_of_lt (sm_le1 (s.2.1 b) (show y < 801 by omega)) hc31
  have a3 : (nI 0 ≤ nI 1 ∧ nI 1 ≤ nI 11) = True := in_t (by omega) (by omega) (by omega)
  have q1 := v1 1 (by omega)
  simp only [Nat.reduceAdd] at q1
  unfold fn_X6_bandInfo
  simp (disch := omega) only [↓cal_w6, ↓lm1, l0, l1, l2, l3, l4, l5, l6, l7, l8, l9, l10, l11, l12, l13, l14, l31, l32, l44, l48, l50, l57, l59, l60, l74, l100, l110, l126, l300, l330, l500, l501, l801, l1000, l5000, l5010, l8010, l8192, l9000, l10000, l1000000, and_self, and_true, true_and, and_false, false_and, nI_add, pk_mul, nI_clamp, ↓reduceIte, eF, lT, lF, leT, leF, chk_d, chk_t, chk_inb, rfm_s, bnd_e, cal_e, calR_e, ↓chk_q w0, ↓rfm_q z0, ↓chk_q k0, w0, z0, k0, r00, r01, r02, r03, k1, n1, k2, n2, k3, n3, k4, rb, kb, rl, rs, ks, ↓cal_q a1, a1, x6_isWithin, a3, if_true, gCC, q1]
theorem r_b2 {ad : Nat → Nat} {T : Ty} {M : Mm} {R : Rm} {s : Sx} {n : Nat} {h : Nat → Sx} (w : WQ ad T M R s n h) {Y nb ns : Nat} (g : GS (1000000 * nb + 300000 * Y) Y nb ns s) (hY5 : Y ≤ 500) {b : Nat} (hb : b < nb) : fn_X6_bandInfo T R (ad 0) (nI b) (nI 2) M = some (s.1 (14 + 6 * b + 2), M) := by
  obtain ⟨tx, β, σ, hi, G, hs, ct⟩ := w
  have b4 := CG_bs G (show 4 < 5 by omega)
  have tg := CG_tg G (.inr b4)
  have tg0 := tg
  have hM := M_TV hi M (β 4)
  have rt := hs.2.2.1
  have rt0 := rt
  have I := g.1.1
  have hY8 := g.2.2.2.2.1
  have hnb := g.2.2.2.2.2.1
  have hns := g.2.2.2.2.2.2.1
  have n7 := g.2.2.2.2.2.2.2.1
  have n8 := g.2.2.2.2.2.2.2.2.1
  have n9 := g.2.2.2.2.2.2.2.2.2
  have h7 := g.2.1
  have h8 := g.2.2.1
  have h9 := g.2.2.2.1
  have hK : 1000000 * nb + 300000 * Y < 2 ^ 30 := by omega
  have z0 := G.2.2.2.2.1
  have w0 := G.1
  obtain ⟨t1, t04, t05, t06, t40, t41, t42, t43, tl, tb, ts⟩ := rt
  rw [h8] at t04
  rw [h9] at t05
  rw [h7] at t06
  obtain ⟨hq, k0, r00, r01, r02, r03, k1, n1, k2, n2, k3, n3, k4, rb, kb, rl, lg, rs, ks, sl, si⟩ := tg
  have a1 := x5_hasBand tg0 M (l := CL ad M (β 4)) t04 hnb hb
  rw [hM] at a1
  have hb8 : b < nt (s.1 8) := by omega
  obtain ⟨v1, v2, v3⟩ := tb b hb8
  have kl := (lg b (by omega)).1
  have hrow := GS_row g hb
  have hc31 : sm (s.2.1 b) 801 < 2 ^ 31 := by omega
  have hf31 : ∀ y, y ≤ Y → s.2.1 b y < 2 ^ 31 := fun y hy => Nat.lt_of_le_of_lt (sm_le1 (s.2.1 b) (show y < 801 by omega)) hc31
  have a3 : (nI 0 ≤ nI 2 ∧ nI 2 ≤ nI 11) = True := in_t (by omega) (by omega) (by omega)
  have q1 := v1 2 (by omega)
  simp only [Nat.reduceAdd] at q1
  unfold fn_X6_bandInfo
  simp (disch := omega) only [↓cal_w6, ↓lm1, l0, l1, l2, l3, l4, l5, l6, l7, l8, l9, l10, l11, l12, l13, l14, l31, l32, l44, l48, l50, l57, l59, l60, l74, l100, l110, l126, l300, l330, l500, l501, l801, l1000, l5000, l5010, l8010, l8192, l9000, l10000, l1000000, and_self, and_true, true_and, and_false, false_and, nI_add, pk_mul, nI_clamp, ↓reduceIte, eF, lT, lF, leT, leF, chk_d, chk_t, chk_inb, rfm_s, bnd_e, cal_e, calR_e, ↓chk_q w0, ↓rfm_q z0, ↓chk_q k0, w0, z0, k0, r00, r01, r02, r03, k1, n1, k2, n2, k3, n3, k4, rb, kb, rl, rs, ks, ↓cal_q a1, a1, x6_isWithin, a3, if_true, gCC, q1]
theorem r_b3 {ad : Nat → Nat} {T : Ty} {M : Mm} {R : Rm} {s : Sx} {n : Nat} {h : Nat → Sx} (w : WQ ad T M R s n h) {Y nb ns : Nat} (g : GS (1000000 * nb + 300000 * Y) Y nb ns s) (hY5 : Y ≤ 500) {b : Nat} (hb : b < nb) : fn_X6_bandInfo T R (ad 0) (nI b) (nI 3) M = some (nI (sm (s.2.1 b) (Y + 1)), M) := by
  obtain ⟨tx, β, σ, hi, G, hs, ct⟩ := w
  have b4 := CG_bs G (show 4 < 5 by omega)
  have tg := CG_tg G (.inr b4)
  have tg0 := tg
  have hM := M_TV hi M (β 4)
  have rt := hs.2.2.1
  have rt0 := rt
  have I := g.1.1
  have hY8 := g.2.2.2.2.1
  have hnb := g.2.2.2.2.2.1
  have hns := g.2.2.2.2.2.2.1
  have n7 := g.2.2.2.2.2.2.2.1
  have n8 := g.2.2.2.2.2.2.2.2.1
  have n9 := g.2.2.2.2.2.2.2.2.2
  have h7 := g.2.1
  have h8 := g.2.2.1
  have h9 := g.2.2.2.1
  have hK : 1000000 * nb + 300000 * Y < 2 ^ 30 := by omega
  have z0 := G.2.2.2.2.1
  have w0 := G.1
  obtain ⟨t1, t04, t05, t06, t40, t41, t42, t43, tl, tb, ts⟩ := rt
  rw [h8] at t04
  rw [h9] at t05
  rw [h7] at t06
  obtain ⟨hq, k0, r00, r01, r02, r03, k1, n1, k2, n2, k3, n3, k4, rb, kb, rl, lg, rs, ks, sl, si⟩ := tg
  have a1 := x5_hasBand tg0 M (l := CL ad M (β 4)) t04 hnb hb
  rw [hM] at a1
  have hb8 : b < nt (s.1 8) := by omega
  obtain ⟨v1, v2, v3⟩ := tb b hb8
  have kl := (lg b (by omega)).1
  have hrow := GS_row g hb
  have hc31 : sm (s.2.1 b) 801 < 2 ^ 31 := by omega
  have hf31 : ∀ y, y ≤ Y → s.2.1 b y < 2 ^ 31 := fun y hy => Nat.lt_of_le_of_lt (sm_le1 (s.2.1 b) (show y < 801 by omega)) hc31
  have a3 : (nI 0 ≤ nI 3 ∧ nI 3 ≤ nI 11) = True := in_t (by omega) (by omega) (by omega)
  have q1 := LY_ice v3
  rw [GS_801 g hb] at q1
  unfold fn_X6_bandInfo
  simp (disch := omega) only [↓cal_w6, ↓lm1, l0, l1, l2, l3, l4, l5, l6, l7, l8, l9, l10, l11, l12, l13, l14, l31, l32, l44, l48, l50, l57, l59, l60, l74, l100, l110, l126, l300, l330, l500, l501, l801, l1000, l5000, l5010, l8010, l8192, l9000, l10000, l1000000, and_self, and_true, true_and, and_false, false_and, nI_add, pk_mul, nI_clamp, ↓reduceIte, eF, lT, lF, leT, leF, chk_d, chk_t, chk_inb, rfm_s, bnd_e, cal_e, calR_e, ↓chk_q w0, ↓rfm_q z0, ↓chk_q k0, w0, z0, k0, r00, r01, r02, r03, k1, n1, k2, n2, k3, n3, k4, rb, kb, rl, rs, ks, kl, ↓cal_q a1, a1, x6_isWithin, a3, if_true, gCC, q1]
theorem r_b4 {ad : Nat → Nat} {T : Ty} {M : Mm} {R : Rm} {s : Sx} {n : Nat} {h : Nat → Sx} (w : WQ ad T M R s n h) {Y nb ns : Nat} (g : GS (1000000 * nb + 300000 * Y) Y nb ns s) (hY5 : Y ≤ 500) {b : Nat} (hb : b < nb) : fn_X6_bandInfo T R (ad 0) (nI b) (nI 4) M = some (nI (sm (cnt (s.2.1 b)) (Y + 1)), M) := by
  obtain ⟨tx, β, σ, hi, G, hs, ct⟩ := w
  have b4 := CG_bs G (show 4 < 5 by omega)
  have tg := CG_tg G (.inr b4)
  have tg0 := tg
  have hM := M_TV hi M (β 4)
  have rt := hs.2.2.1
  have rt0 := rt
  have I := g.1.1
  have hY8 := g.2.2.2.2.1
  have hnb := g.2.2.2.2.2.1
  have hns := g.2.2.2.2.2.2.1
  have n7 := g.2.2.2.2.2.2.2.1
  have n8 := g.2.2.2.2.2.2.2.2.1
  have n9 := g.2.2.2.2.2.2.2.2.2
  have h7 := g.2.1
  have h8 := g.2.2.1
  have h9 := g.2.2.2.1
  have hK : 1000000 * nb + 300000 * Y < 2 ^ 30 := by omega
  have z0 := G.2.2.2.2.1
  have w0 := G.1
  obtain ⟨t1, t04, t05, t06, t40, t41, t42, t43, tl, tb, ts⟩ := rt
  rw [h8] at t04
  rw [h9] at t05
  rw [h7] at t06
  obtain ⟨hq, k0, r00, r01, r02, r03, k1, n1, k2, n2, k3, n3, k4, rb, kb, rl, lg, rs, ks, sl, si⟩ := tg
  have a1 := x5_hasBand tg0 M (l := CL ad M (β 4)) t04 hnb hb
  rw [hM] at a1
  have hb8 : b < nt (s.1 8) := by omega
  obtain ⟨v1, v2, v3⟩ := tb b hb8
  have kl := (lg b (by omega)).1
  have hrow := GS_row g hb
  have hc31 : sm (s.2.1 b) 801 < 2 ^ 31 := by omega
  have hf31 : ∀ y, y ≤ Y → s.2.1 b y < 2 ^ 31 := fun y hy => Nat.lt_of_le_of_lt (sm_le1 (s.2.1 b) (show y < 801 by omega)) hc31
  have a3 : (nI 0 ≤ nI 4 ∧ nI 4 ≤ nI 11) = True := in_t (by omega) (by omega) (by omega)
  have q1 := x2_number hq (lg b (by omega)) M (CL ad M (β 4)) v3 hc31
  rw [hM, GS_c801 g hb] at q1
  unfold fn_X6_bandInfo
  simp (disch := omega) only [↓cal_w6, ↓lm1, l0, l1, l2, l3, l4, l5, l6, l7, l8, l9, l10, l11, l12, l13, l14, l31, l32, l44, l48, l50, l57, l59, l60, l74, l100, l110, l126, l300, l330, l500, l501, l801, l1000, l5000, l5010, l8010, l8192, l9000, l10000, l1000000, and_self, and_true, true_and, and_false, false_and, nI_add, pk_mul, nI_clamp, ↓reduceIte, eF, lT, lF, leT, leF, chk_d, chk_t, chk_inb, rfm_s, bnd_e, cal_e, calR_e, ↓chk_q w0, ↓rfm_q z0, ↓chk_q k0, w0, z0, k0, r00, r01, r02, r03, k1, n1, k2, n2, k3, n3, k4, rb, kb, rl, rs, ks, kl, ↓cal_q a1, a1, x6_isWithin, a3, if_true, q1]
theorem r_b5 {ad : Nat → Nat} {T : Ty} {M : Mm} {R : Rm} {s : Sx} {n : Nat} {h : Nat → Sx} (w : WQ ad T M R s n h) {Y nb ns : Nat} (g : GS (1000000 * nb + 300000 * Y) Y nb ns s) (hY5 : Y ≤ 500) {b : Nat} (hb : b < nb) : fn_X6_bandInfo T R (ad 0) (nI b) (nI 5) M = some (fO (yl (s.2.1 b) (Y + 1) 0 0), M) := by
  obtain ⟨tx, β, σ, hi, G, hs, ct⟩ := w
  have b4 := CG_bs G (show 4 < 5 by omega)
  have tg := CG_tg G (.inr b4)
  have tg0 := tg
  have hM := M_TV hi M (β 4)
  have rt := hs.2.2.1
  have rt0 := rt
  have I := g.1.1
  have hY8 := g.2.2.2.2.1
  have hnb := g.2.2.2.2.2.1
  have hns := g.2.2.2.2.2.2.1
  have n7 := g.2.2.2.2.2.2.2.1
  have n8 := g.2.2.2.2.2.2.2.2.1
  have n9 := g.2.2.2.2.2.2.2.2.2
  have h7 := g.2.1
  have h8 := g.2.2.1
  have h9 := g.2.2.2.1
  have hK : 1000000 * nb + 300000 * Y < 2 ^ 30 := by omega
  have z0 := G.2.2.2.2.1
  have w0 := G.1
  obtain ⟨t1, t04, t05, t06, t40, t41, t42, t43, tl, tb, ts⟩ := rt
  rw [h8] at t04
  rw [h9] at t05
  rw [h7] at t06
  obtain ⟨hq, k0, r00, r01, r02, r03, k1, n1, k2, n2, k3, n3, k4, rb, kb, rl, lg, rs, ks, sl, si⟩ := tg
  have a1 := x5_hasBand tg0 M (l := CL ad M (β 4)) t04 hnb hb
  rw [hM] at a1
  have hb8 : b < nt (s.1 8) := by omega
  obtain ⟨v1, v2, v3⟩ := tb b hb8
  have kl := (lg b (by omega)).1
  have hrow := GS_row g hb
  have hc31 : sm (s.2.1 b) 801 < 2 ^ 31 := by omega
  have hf31 : ∀ y, y ≤ Y → s.2.1 b y < 2 ^ 31 := fun y hy => Nat.lt_of_le_of_lt (sm_le1 (s.2.1 b) (show y < 801 by omega)) hc31
  have a3 : (nI 0 ≤ nI 5 ∧ nI 5 ≤ nI 11) = True := in_t (by omega) (by omega) (by omega)
  rcases v3 with ⟨e0, hl⟩ | ⟨o, t, ht, hl⟩
  · have ey : yl (s.2.1 b) (Y + 1) 0 0 = none := yl_z (fun z _ hz => sm_0y e0 (by omega))
    rw [ey, fO_n]
    have q1 := hl.2.1
    rw [e0] at q1
    unfold fn_X6_bandInfo
    simp (disch := omega) only [↓cal_w6, ↓lm1, l0, l1, l2, l3, l4, l5, l6, l7, l8, l9, l10, l11, l12, l13, l14, l31, l32, l44, l48, l50, l57, l59, l60, l74, l100, l110, l126, l300, l330, l500, l501, l801, l1000, l5000, l5010, l8010, l8192, l9000, l10000, l1000000, and_self, and_true, true_and, and_false, false_and, nI_add, pk_mul, nI_clamp, ↓reduceIte, eF, lT, lF, leT, leF, chk_d, chk_t, chk_inb, rfm_s, bnd_e, cal_e, calR_e, ↓chk_q w0, ↓rfm_q z0, ↓chk_q k0, w0, z0, k0, r00, r01, r02, r03, k1, n1, k2, n2, k3, n3, k4, rb, kb, rl, rs, ks, kl, ↓cal_q a1, a1, x6_isWithin, a3, if_true, gCC, q1]
  · obtain ⟨t1', t2', t3', t4', t5', t6'⟩ := ht
    have hoY : o < Y + 1 := by
      refine Nat.lt_of_not_le (fun hh => ?_)
      rw [GS_z g hb (by omega)] at t3'
      omega
    have ey : yl (s.2.1 b) (Y + 1) 0 0 = some o := yl_first t5' t3' hoY
    rw [ey, fO_s]
    have hpos := sm_le1 (s.2.1 b) (show o < 801 by omega)
    have q1 := hl.2.1
    have q4 := hl.2.2.1
    unfold fn_X6_bandInfo
    simp (disch := omega) only [↓cal_w6, ↓lm1, l0, l1, l2, l3, l4, l5, l6, l7, l8, l9, l10, l11, l12, l13, l14, l31, l32, l44, l48, l50, l57, l59, l60, l74, l100, l110, l126, l300, l330, l500, l501, l801, l1000, l5000, l5010, l8010, l8192, l9000, l10000, l1000000, and_self, and_true, true_and, and_false, false_and, nI_add, pk_mul, nI_clamp, ↓reduceIte, eF, lT, lF, leT, leF, chk_d, chk_t, chk_inb, rfm_s, bnd_e, cal_e, calR_e, ↓chk_q w0, ↓rfm_q z0, ↓chk_q k0, w0, z0, k0, r00, r01, r02, r03, k1, n1, k2, n2, k3, n3, k4, rb, kb, rl, rs, ks, kl, ↓cal_q a1, a1, x6_isWithin, a3, if_true, gCC, q1, q4]
theorem r_b6 {ad : Nat → Nat} {T : Ty} {M : Mm} {R : Rm} {s : Sx} {n : Nat} {h : Nat → Sx} (w : WQ ad T M R s n h) {Y nb ns : Nat} (g : GS (1000000 * nb + 300000 * Y) Y nb ns s) (hY5 : Y ≤ 500) {b : Nat} (hb : b < nb) (hc0 : 0 < sm (cnt (s.2.1 b)) (Y + 1)) : fn_X6_bandInfo T R (ad 0) (nI b) (nI 6) M = some (fO (yl (s.2.1 b) (Y + 1) 0 (sm (cnt (s.2.1 b)) (Y + 1) - 1)), M) := by
  obtain ⟨tx, β, σ, hi, G, hs, ct⟩ := w
  have b4 := CG_bs G (show 4 < 5 by omega)
  have tg := CG_tg G (.inr b4)
  have tg0 := tg
  have hM := M_TV hi M (β 4)
  have rt := hs.2.2.1
  have rt0 := rt
  have I := g.1.1
  have hY8 := g.2.2.2.2.1
  have hnb := g.2.2.2.2.2.1
  have hns := g.2.2.2.2.2.2.1
  have n7 := g.2.2.2.2.2.2.2.1
  have n8 := g.2.2.2.2.2.2.2.2.1
  have n9 := g.2.2.2.2.2.2.2.2.2
  have h7 := g.2.1
  have h8 := g.2.2.1
  have h9 := g.2.2.2.1
  have hK : 1000000 * nb + 300000 * Y < 2 ^ 30 := by omega
  have z0 := G.2.2.2.2.1
  have w0 := G.1
  obtain ⟨t1, t04, t05, t06, t40, t41, t42, t43, tl, tb, ts⟩ := rt
  rw [h8] at t04
  rw [h9] at t05
  rw [h7] at t06
  obtain ⟨hq, k0, r00, r01, r02, r03, k1, n1, k2, n2, k3, n3, k4, rb, kb, rl, lg, rs, ks, sl, si⟩ := tg
  have a1 := x5_hasBand tg0 M (l := CL ad M (β 4)) t04 hnb hb
  rw [hM] at a1
  have hb8 : b < nt (s.1 8) := by omega
  obtain ⟨v1, v2, v3⟩ := tb b hb8
  have kl := (lg b (by omega)).1
  have hrow := GS_row g hb
  have hc31 : sm (s.2.1 b) 801 < 2 ^ 31 := by omega
  have hf31 : ∀ y, y ≤ Y → s.2.1 b y < 2 ^ 31 := fun y hy => Nat.lt_of_le_of_lt (sm_le1 (s.2.1 b) (show y < 801 by omega)) hc31
  have a3 : (nI 0 ≤ nI 6 ∧ nI 6 ≤ nI 11) = True := in_t (by omega) (by omega) (by omega)
  rcases v3 with ⟨e0, hl⟩ | ⟨o, t, ht, hl⟩
  · exfalso
    rw [sm_z (fun y hy => cnt_z (sm_0y e0 (show y < 801 by omega)))] at hc0
    omega
  · obtain ⟨t1', t2', t3', t4', t5', t6'⟩ := ht
    have htY : t < Y + 1 := by
      refine Nat.lt_of_not_le (fun hh => ?_)
      rw [GS_z g hb (by omega)] at t4'
      omega
    have hct : cnt (s.2.1 b) t = 1 := if_pos t4'
    have hcs : sm (cnt (s.2.1 b)) (Y + 1) = sm (cnt (s.2.1 b)) t + 1 := by
      rw [sm_tail (show t + 1 ≤ Y + 1 by omega) (fun y h1 h2 => cnt_z (t6' y (by omega) (by omega))), sm_s, hct]
    have ey : yl (s.2.1 b) (Y + 1) 0 (sm (cnt (s.2.1 b)) t) = some t := yl_at (by omega) (by omega) t4' (by rw [sm_0]; omega)
    have e1 : sm (cnt (s.2.1 b)) (Y + 1) - 1 = sm (cnt (s.2.1 b)) t := by omega
    rw [e1, ey, fO_s]
    have hpos := sm_le1 (s.2.1 b) (show t < 801 by omega)
    have q1 := hl.2.1
    have q4 := hl.2.2.2
    unfold fn_X6_bandInfo
    simp (disch := omega) only [↓cal_w6, ↓lm1, l0, l1, l2, l3, l4, l5, l6, l7, l8, l9, l10, l11, l12, l13, l14, l31, l32, l44, l48, l50, l57, l59, l60, l74, l100, l110, l126, l300, l330, l500, l501, l801, l1000, l5000, l5010, l8010, l8192, l9000, l10000, l1000000, and_self, and_true, true_and, and_false, false_and, nI_add, pk_mul, nI_clamp, ↓reduceIte, eF, lT, lF, leT, leF, chk_d, chk_t, chk_inb, rfm_s, bnd_e, cal_e, calR_e, ↓chk_q w0, ↓rfm_q z0, ↓chk_q k0, w0, z0, k0, r00, r01, r02, r03, k1, n1, k2, n2, k3, n3, k4, rb, kb, rl, rs, ks, kl, ↓cal_q a1, a1, x6_isWithin, a3, if_true, gCC, q1, q4]
theorem r_b7 {ad : Nat → Nat} {T : Ty} {M : Mm} {R : Rm} {s : Sx} {n : Nat} {h : Nat → Sx} (w : WQ ad T M R s n h) {Y nb ns : Nat} (g : GS (1000000 * nb + 300000 * Y) Y nb ns s) (hY5 : Y ≤ 500) {b : Nat} (hb : b < nb) : fn_X6_bandInfo T R (ad 0) (nI b) (nI 7) M = some (nI (snS s.1 b), M) := by
  obtain ⟨tx, β, σ, hi, G, hs, ct⟩ := w
  have b4 := CG_bs G (show 4 < 5 by omega)
  have tg := CG_tg G (.inr b4)
  have tg0 := tg
  have hM := M_TV hi M (β 4)
  have rt := hs.2.2.1
  have rt0 := rt
  have I := g.1.1
  have hY8 := g.2.2.2.2.1
  have hnb := g.2.2.2.2.2.1
  have hns := g.2.2.2.2.2.2.1
  have n7 := g.2.2.2.2.2.2.2.1
  have n8 := g.2.2.2.2.2.2.2.2.1
  have n9 := g.2.2.2.2.2.2.2.2.2
  have h7 := g.2.1
  have h8 := g.2.2.1
  have h9 := g.2.2.2.1
  have hK : 1000000 * nb + 300000 * Y < 2 ^ 30 := by omega
  have z0 := G.2.2.2.2.1
  have w0 := G.1
  obtain ⟨t1, t04, t05, t06, t40, t41, t42, t43, tl, tb, ts⟩ := rt
  rw [h8] at t04
  rw [h9] at t05
  rw [h7] at t06
  obtain ⟨hq, k0, r00, r01, r02, r03, k1, n1, k2, n2, k3, n3, k4, rb, kb, rl, lg, rs, ks, sl, si⟩ := tg
  have a1 := x5_hasBand tg0 M (l := CL ad M (β 4)) t04 hnb hb
  rw [hM] at a1
  have hb8 : b < nt (s.1 8) := by omega
  obtain ⟨v1, v2, v3⟩ := tb b hb8
  have kl := (lg b (by omega)).1
  have hrow := GS_row g hb
  have hc31 : sm (s.2.1 b) 801 < 2 ^ 31 := by omega
  have hf31 : ∀ y, y ≤ Y → s.2.1 b y < 2 ^ 31 := fun y hy => Nat.lt_of_le_of_lt (sm_le1 (s.2.1 b) (show y < 801 by omega)) hc31
  have a3 : (nI 0 ≤ nI 7 ∧ nI 7 ≤ nI 11) = True := in_t (by omega) (by omega) (by omega)
  have q1 := v1 0 (by omega)
  simp only [Nat.reduceAdd, Nat.add_zero] at q1
  have q2 := x5_sn tg0 M (l := CL ad M (β 4)) I t1 hb8
  rw [hM] at q2
  unfold fn_X6_bandInfo
  simp (disch := omega) only [↓cal_w6, ↓lm1, l0, l1, l2, l3, l4, l5, l6, l7, l8, l9, l10, l11, l12, l13, l14, l31, l32, l44, l48, l50, l57, l59, l60, l74, l100, l110, l126, l300, l330, l500, l501, l801, l1000, l5000, l5010, l8010, l8192, l9000, l10000, l1000000, and_self, and_true, true_and, and_false, false_and, nI_add, pk_mul, nI_clamp, ↓reduceIte, eF, lT, lF, leT, leF, chk_d, chk_t, chk_inb, rfm_s, bnd_e, cal_e, calR_e, ↓chk_q w0, ↓rfm_q z0, ↓chk_q k0, w0, z0, k0, r00, r01, r02, r03, k1, n1, k2, n2, k3, n3, k4, rb, kb, rl, rs, ks, kl, ↓cal_q a1, a1, x6_isWithin, a3, if_true, gCC, q1, q2]
theorem r_b8 {ad : Nat → Nat} {T : Ty} {M : Mm} {R : Rm} {s : Sx} {n : Nat} {h : Nat → Sx} (w : WQ ad T M R s n h) {Y nb ns : Nat} (g : GS (1000000 * nb + 300000 * Y) Y nb ns s) (hY5 : Y ≤ 500) {b : Nat} (hb : b < nb) : fn_X6_bandInfo T R (ad 0) (nI b) (nI 8) M = some (nI (mlS s.1 b), M) := by
  obtain ⟨tx, β, σ, hi, G, hs, ct⟩ := w
  have b4 := CG_bs G (show 4 < 5 by omega)
  have tg := CG_tg G (.inr b4)
  have tg0 := tg
  have hM := M_TV hi M (β 4)
  have rt := hs.2.2.1
  have rt0 := rt
  have I := g.1.1
  have hY8 := g.2.2.2.2.1
  have hnb := g.2.2.2.2.2.1
  have hns := g.2.2.2.2.2.2.1
  have n7 := g.2.2.2.2.2.2.2.1
  have n8 := g.2.2.2.2.2.2.2.2.1
  have n9 := g.2.2.2.2.2.2.2.2.2
  have h7 := g.2.1
  have h8 := g.2.2.1
  have h9 := g.2.2.2.1
  have hK : 1000000 * nb + 300000 * Y < 2 ^ 30 := by omega
  have z0 := G.2.2.2.2.1
  have w0 := G.1
  obtain ⟨t1, t04, t05, t06, t40, t41, t42, t43, tl, tb, ts⟩ := rt
  rw [h8] at t04
  rw [h9] at t05
  rw [h7] at t06
  obtain ⟨hq, k0, r00, r01, r02, r03, k1, n1, k2, n2, k3, n3, k4, rb, kb, rl, lg, rs, ks, sl, si⟩ := tg
  have a1 := x5_hasBand tg0 M (l := CL ad M (β 4)) t04 hnb hb
  rw [hM] at a1
  have hb8 : b < nt (s.1 8) := by omega
  obtain ⟨v1, v2, v3⟩ := tb b hb8
  have kl := (lg b (by omega)).1
  have hrow := GS_row g hb
  have hc31 : sm (s.2.1 b) 801 < 2 ^ 31 := by omega
  have hf31 : ∀ y, y ≤ Y → s.2.1 b y < 2 ^ 31 := fun y hy => Nat.lt_of_le_of_lt (sm_le1 (s.2.1 b) (show y < 801 by omega)) hc31
  have a3 : (nI 0 ≤ nI 8 ∧ nI 8 ≤ nI 11) = True := in_t (by omega) (by omega) (by omega)
  have q1 := v1 0 (by omega)
  simp only [Nat.reduceAdd, Nat.add_zero] at q1
  have q2 := x5_ml tg0 M (l := CL ad M (β 4)) I t1 hb8
  rw [hM] at q2
  have q3 := t1 2 (by omega)
  unfold fn_X6_bandInfo
  simp (disch := omega) only [↓cal_w6, ↓lm1, l0, l1, l2, l3, l4, l5, l6, l7, l8, l9, l10, l11, l12, l13, l14, l31, l32, l44, l48, l50, l57, l59, l60, l74, l100, l110, l126, l300, l330, l500, l501, l801, l1000, l5000, l5010, l8010, l8192, l9000, l10000, l1000000, and_self, and_true, true_and, and_false, false_and, nI_add, pk_mul, nI_clamp, ↓reduceIte, eF, lT, lF, leT, leF, chk_d, chk_t, chk_inb, rfm_s, bnd_e, cal_e, calR_e, ↓chk_q w0, ↓rfm_q z0, ↓chk_q k0, w0, z0, k0, r00, r01, r02, r03, k1, n1, k2, n2, k3, n3, k4, rb, kb, rl, rs, ks, kl, ↓cal_q a1, a1, x6_isWithin, a3, if_true, gCC, q1, q3, q2]
theorem r_b9 {ad : Nat → Nat} {T : Ty} {M : Mm} {R : Rm} {s : Sx} {n : Nat} {h : Nat → Sx} (w : WQ ad T M R s n h) {Y nb ns : Nat} (g : GS (1000000 * nb + 300000 * Y) Y nb ns s) (hY5 : Y ≤ 500) {b : Nat} (hb : b < nb) : fn_X6_bandInfo T R (ad 0) (nI b) (nI 9) M = some (s.1 (14 + 6 * b + 3), M) := by
  obtain ⟨tx, β, σ, hi, G, hs, ct⟩ := w
  have b4 := CG_bs G (show 4 < 5 by omega)
  have tg := CG_tg G (.inr b4)
  have tg0 := tg
  have hM := M_TV hi M (β 4)
  have rt := hs.2.2.1
  have rt0 := rt
  have I := g.1.1
  have hY8 := g.2.2.2.2.1
  have hnb := g.2.2.2.2.2.1
  have hns := g.2.2.2.2.2.2.1
  have n7 := g.2.2.2.2.2.2.2.1
  have n8 := g.2.2.2.2.2.2.2.2.1
  have n9 := g.2.2.2.2.2.2.2.2.2
  have h7 := g.2.1
  have h8 := g.2.2.1
  have h9 := g.2.2.2.1
  have hK : 1000000 * nb + 300000 * Y < 2 ^ 30 := by omega
  have z0 := G.2.2.2.2.1
  have w0 := G.1
  obtain ⟨t1, t04, t05, t06, t40, t41, t42, t43, tl, tb, ts⟩ := rt
  rw [h8] at t04
  rw [h9] at t05
  rw [h7] at t06
  obtain ⟨hq, k0, r00, r01, r02, r03, k1, n1, k2, n2, k3, n3, k4, rb, kb, rl, lg, rs, ks, sl, si⟩ := tg
  have a1 := x5_hasBand tg0 M (l := CL ad M (β 4)) t04 hnb hb
  rw [hM] at a1
  have hb8 : b < nt (s.1 8) := by omega
  obtain ⟨v1, v2, v3⟩ := tb b hb8
  have kl := (lg b (by omega)).1
  have hrow := GS_row g hb
  have hc31 : sm (s.2.1 b) 801 < 2 ^ 31 := by omega
  have hf31 : ∀ y, y ≤ Y → s.2.1 b y < 2 ^ 31 := fun y hy => Nat.lt_of_le_of_lt (sm_le1 (s.2.1 b) (show y < 801 by omega)) hc31
  have a3 : (nI 0 ≤ nI 9 ∧ nI 9 ≤ nI 11) = True := in_t (by omega) (by omega) (by omega)
  have q1 := v1 3 (by omega)
  simp only [Nat.reduceAdd] at q1
  unfold fn_X6_bandInfo
  simp (disch := omega) only [↓cal_w6, ↓lm1, l0, l1, l2, l3, l4, l5, l6, l7, l8, l9, l10, l11, l12, l13, l14, l31, l32, l44, l48, l50, l57, l59, l60, l74, l100, l110, l126, l300, l330, l500, l501, l801, l1000, l5000, l5010, l8010, l8192, l9000, l10000, l1000000, and_self, and_true, true_and, and_false, false_and, nI_add, pk_mul, nI_clamp, ↓reduceIte, eF, lT, lF, leT, leF, chk_d, chk_t, chk_inb, rfm_s, bnd_e, cal_e, calR_e, ↓chk_q w0, ↓rfm_q z0, ↓chk_q k0, w0, z0, k0, r00, r01, r02, r03, k1, n1, k2, n2, k3, n3, k4, rb, kb, rl, rs, ks, ↓cal_q a1, a1, x6_isWithin, a3, if_true, gCC, q1]
theorem r_b10 {ad : Nat → Nat} {T : Ty} {M : Mm} {R : Rm} {s : Sx} {n : Nat} {h : Nat → Sx} (w : WQ ad T M R s n h) {Y nb ns : Nat} (g : GS (1000000 * nb + 300000 * Y) Y nb ns s) (hY5 : Y ≤ 500) {b : Nat} (hb : b < nb) : fn_X6_bandInfo T R (ad 0) (nI b) (nI 10) M = some (s.1 (14 + 6 * b + 4), M) := by
  obtain ⟨tx, β, σ, hi, G, hs, ct⟩ := w
  have b4 := CG_bs G (show 4 < 5 by omega)
  have tg := CG_tg G (.inr b4)
  have tg0 := tg
  have hM := M_TV hi M (β 4)
  have rt := hs.2.2.1
  have rt0 := rt
  have I := g.1.1
  have hY8 := g.2.2.2.2.1
  have hnb := g.2.2.2.2.2.1
  have hns := g.2.2.2.2.2.2.1
  have n7 := g.2.2.2.2.2.2.2.1
  have n8 := g.2.2.2.2.2.2.2.2.1
  have n9 := g.2.2.2.2.2.2.2.2.2
  have h7 := g.2.1
  have h8 := g.2.2.1
  have h9 := g.2.2.2.1
  have hK : 1000000 * nb + 300000 * Y < 2 ^ 30 := by omega
  have z0 := G.2.2.2.2.1
  have w0 := G.1
  obtain ⟨t1, t04, t05, t06, t40, t41, t42, t43, tl, tb, ts⟩ := rt
  rw [h8] at t04
  rw [h9] at t05
  rw [h7] at t06
  obtain ⟨hq, k0, r00, r01, r02, r03, k1, n1, k2, n2, k3, n3, k4, rb, kb, rl, lg, rs, ks, sl, si⟩ := tg
  have a1 := x5_hasBand tg0 M (l := CL ad M (β 4)) t04 hnb hb
  rw [hM] at a1
  have hb8 : b < nt (s.1 8) := by omega
  obtain ⟨v1, v2, v3⟩ := tb b hb8
  have kl := (lg b (by omega)).1
  have hrow := GS_row g hb
  have hc31 : sm (s.2.1 b) 801 < 2 ^ 31 := by omega
  have hf31 : ∀ y, y ≤ Y → s.2.1 b y < 2 ^ 31 := fun y hy => Nat.lt_of_le_of_lt (sm_le1 (s.2.1 b) (show y < 801 by omega)) hc31
  have a3 : (nI 0 ≤ nI 10 ∧ nI 10 ≤ nI 11) = True := in_t (by omega) (by omega) (by omega)
  have q1 := v1 4 (by omega)
  simp only [Nat.reduceAdd] at q1
  unfold fn_X6_bandInfo
  simp (disch := omega) only [↓cal_w6, ↓lm1, l0, l1, l2, l3, l4, l5, l6, l7, l8, l9, l10, l11, l12, l13, l14, l31, l32, l44, l48, l50, l57, l59, l60, l74, l100, l110, l126, l300, l330, l500, l501, l801, l1000, l5000, l5010, l8010, l8192, l9000, l10000, l1000000, and_self, and_true, true_and, and_false, false_and, nI_add, pk_mul, nI_clamp, ↓reduceIte, eF, lT, lF, leT, leF, chk_d, chk_t, chk_inb, rfm_s, bnd_e, cal_e, calR_e, ↓chk_q w0, ↓rfm_q z0, ↓chk_q k0, w0, z0, k0, r00, r01, r02, r03, k1, n1, k2, n2, k3, n3, k4, rb, kb, rl, rs, ks, ↓cal_q a1, a1, x6_isWithin, a3, if_true, gCC, q1]
theorem r_b11 {ad : Nat → Nat} {T : Ty} {M : Mm} {R : Rm} {s : Sx} {n : Nat} {h : Nat → Sx} (w : WQ ad T M R s n h) {Y nb ns : Nat} (g : GS (1000000 * nb + 300000 * Y) Y nb ns s) (hY5 : Y ≤ 500) {b : Nat} (hb : b < nb) : fn_X6_bandInfo T R (ad 0) (nI b) (nI 11) M = some (s.1 (14 + 6 * b + 5), M) := by
  obtain ⟨tx, β, σ, hi, G, hs, ct⟩ := w
  have b4 := CG_bs G (show 4 < 5 by omega)
  have tg := CG_tg G (.inr b4)
  have tg0 := tg
  have hM := M_TV hi M (β 4)
  have rt := hs.2.2.1
  have rt0 := rt
  have I := g.1.1
  have hY8 := g.2.2.2.2.1
  have hnb := g.2.2.2.2.2.1
  have hns := g.2.2.2.2.2.2.1
  have n7 := g.2.2.2.2.2.2.2.1
  have n8 := g.2.2.2.2.2.2.2.2.1
  have n9 := g.2.2.2.2.2.2.2.2.2
  have h7 := g.2.1
  have h8 := g.2.2.1
  have h9 := g.2.2.2.1
  have hK : 1000000 * nb + 300000 * Y < 2 ^ 30 := by omega
  have z0 := G.2.2.2.2.1
  have w0 := G.1
  obtain ⟨t1, t04, t05, t06, t40, t41, t42, t43, tl, tb, ts⟩ := rt
  rw [h8] at t04
  rw [h9] at t05
  rw [h7] at t06
  obtain ⟨hq, k0, r00, r01, r02, r03, k1, n1, k2, n2, k3, n3, k4, rb, kb, rl, lg, rs, ks, sl, si⟩ := tg
  have a1 := x5_hasBand tg0 M (l := CL ad M (β 4)) t04 hnb hb
  rw [hM] at a1
  have hb8 : b < nt (s.1 8) := by omega
  obtain ⟨v1, v2, v3⟩ := tb b hb8
  have kl := (lg b (by omega)).1
  have hrow := GS_row g hb
  have hc31 : sm (s.2.1 b) 801 < 2 ^ 31 := by omega
  have hf31 : ∀ y, y ≤ Y → s.2.1 b y < 2 ^ 31 := fun y hy => Nat.lt_of_le_of_lt (sm_le1 (s.2.1 b) (show y < 801 by omega)) hc31
  have a3 : (nI 0 ≤ nI 11 ∧ nI 11 ≤ nI 11) = True := in_t (by omega) (by omega) (by omega)
  have q1 := v2 trivial
  unfold fn_X6_bandInfo
  simp (disch := omega) only [↓cal_w6, ↓lm1, l0, l1, l2, l3, l4, l5, l6, l7, l8, l9, l10, l11, l12, l13, l14, l31, l32, l44, l48, l50, l57, l59, l60, l74, l100, l110, l126, l300, l330, l500, l501, l801, l1000, l5000, l5010, l8010, l8192, l9000, l10000, l1000000, and_self, and_true, true_and, and_false, false_and, nI_add, pk_mul, nI_clamp, ↓reduceIte, eF, lT, lF, leT, leF, chk_d, chk_t, chk_inb, rfm_s, bnd_e, cal_e, calR_e, ↓chk_q w0, ↓rfm_q z0, ↓chk_q k0, w0, z0, k0, r00, r01, r02, r03, k1, n1, k2, n2, k3, n3, k4, rb, kb, rl, rs, ks, ↓cal_q a1, a1, x6_isWithin, a3, if_true, gCC, q1]
theorem r_bN {ad : Nat → Nat} {T : Ty} {M : Mm} {R : Rm} {s : Sx} {n : Nat} {h : Nat → Sx} (w : WQ ad T M R s n h) {Y nb ns : Nat} (g : GS (1000000 * nb + 300000 * Y) Y nb ns s) (hY5 : Y ≤ 500) (y : Int32) : fn_X6_bandInfo T R (ad 0) (nI nb) y M = some (-2000000001, M) := by
  obtain ⟨tx, β, σ, hi, G, hs, ct⟩ := w
  have b4 := CG_bs G (show 4 < 5 by omega)
  have tg := CG_tg G (.inr b4)
  have tg0 := tg
  have hM := M_TV hi M (β 4)
  have rt := hs.2.2.1
  have rt0 := rt
  have I := g.1.1
  have hY8 := g.2.2.2.2.1
  have hnb := g.2.2.2.2.2.1
  have hns := g.2.2.2.2.2.2.1
  have n7 := g.2.2.2.2.2.2.2.1
  have n8 := g.2.2.2.2.2.2.2.2.1
  have n9 := g.2.2.2.2.2.2.2.2.2
  have h7 := g.2.1
  have h8 := g.2.2.1
  have h9 := g.2.2.2.1
  have hK : 1000000 * nb + 300000 * Y < 2 ^ 30 := by omega
  have z0 := G.2.2.2.2.1
  have w0 := G.1
  obtain ⟨t1, t04, t05, t06, t40, t41, t42, t43, tl, tb, ts⟩ := rt
  rw [h8] at t04
  rw [h9] at t05
  rw [h7] at t06
  obtain ⟨hq, k0, r00, r01, r02, r03, k1, n1, k2, n2, k3, n3, k4, rb, kb, rl, lg, rs, ks, sl, si⟩ := tg
  have a1 := x5_hasBandN tg0 M (l := CL ad M (β 4)) t04 (x := nI nb) (.inr (Int32.le_refl _))
  rw [hM] at a1
  unfold fn_X6_bandInfo
  simp (disch := omega) only [↓cal_w6, ↓lm1, l0, l1, l2, l3, l4, l5, l6, l7, l8, l9, l10, l11, l12, l13, l14, l31, l32, l44, l48, l50, l57, l59, l60, l74, l100, l110, l126, l300, l330, l500, l501, l801, l1000, l5000, l5010, l8010, l8192, l9000, l10000, l1000000, and_self, and_true, true_and, and_false, false_and, nI_add, pk_mul, nI_clamp, ↓reduceIte, eF, lT, lF, leT, leF, chk_d, chk_t, chk_inb, rfm_s, bnd_e, cal_e, calR_e, ↓chk_q w0, ↓rfm_q z0, ↓chk_q k0, w0, z0, k0, r00, r01, r02, r03, k1, n1, k2, n2, k3, n3, k4, rb, kb, rl, rs, ks, ↓cal_q a1, a1]
theorem r_lN {ad : Nat → Nat} {T : Ty} {M : Mm} {R : Rm} {s : Sx} {n : Nat} {h : Nat → Sx} (w : WQ ad T M R s n h) {Y nb ns : Nat} (g : GS (1000000 * nb + 300000 * Y) Y nb ns s) (hY5 : Y ≤ 500) (y z : Int32) : fn_X6_layer T R (ad 0) (nI nb) y z M = some (-2000000001, M) := by
  obtain ⟨tx, β, σ, hi, G, hs, ct⟩ := w
  have b4 := CG_bs G (show 4 < 5 by omega)
  have tg := CG_tg G (.inr b4)
  have tg0 := tg
  have hM := M_TV hi M (β 4)
  have rt := hs.2.2.1
  have rt0 := rt
  have I := g.1.1
  have hY8 := g.2.2.2.2.1
  have hnb := g.2.2.2.2.2.1
  have hns := g.2.2.2.2.2.2.1
  have n7 := g.2.2.2.2.2.2.2.1
  have n8 := g.2.2.2.2.2.2.2.2.1
  have n9 := g.2.2.2.2.2.2.2.2.2
  have h7 := g.2.1
  have h8 := g.2.2.1
  have h9 := g.2.2.2.1
  have hK : 1000000 * nb + 300000 * Y < 2 ^ 30 := by omega
  have z0 := G.2.2.2.2.1
  have w0 := G.1
  obtain ⟨t1, t04, t05, t06, t40, t41, t42, t43, tl, tb, ts⟩ := rt
  rw [h8] at t04
  rw [h9] at t05
  rw [h7] at t06
  obtain ⟨hq, k0, r00, r01, r02, r03, k1, n1, k2, n2, k3, n3, k4, rb, kb, rl, lg, rs, ks, sl, si⟩ := tg
  have a1 := x5_hasBandN tg0 M (l := CL ad M (β 4)) t04 (x := nI nb) (.inr (Int32.le_refl _))
  rw [hM] at a1
  unfold fn_X6_layer
  simp (disch := omega) only [↓cal_w6, ↓lm1, l0, l1, l2, l3, l4, l5, l6, l7, l8, l9, l10, l11, l12, l13, l14, l31, l32, l44, l48, l50, l57, l59, l60, l74, l100, l110, l126, l300, l330, l500, l501, l801, l1000, l5000, l5010, l8010, l8192, l9000, l10000, l1000000, and_self, and_true, true_and, and_false, false_and, nI_add, pk_mul, nI_clamp, ↓reduceIte, eF, lT, lF, leT, leF, chk_d, chk_t, chk_inb, rfm_s, bnd_e, cal_e, calR_e, ↓chk_q w0, ↓rfm_q z0, ↓chk_q k0, w0, z0, k0, r00, r01, r02, r03, k1, n1, k2, n2, k3, n3, k4, rb, kb, rl, rs, ks, ↓cal_q a1, a1]
theorem r_l {ad : Nat → Nat} {T : Ty} {M : Mm} {R : Rm} {s : Sx} {n : Nat} {h : Nat → Sx} (w : WQ ad T M R s n h) {Y nb ns : Nat} (g : GS (1000000 * nb + 300000 * Y) Y nb ns s) (hY5 : Y ≤ 500) {b i : Nat} (hb : b < nb) (hi31 : i < 2 ^ 31) : fn_X6_layer T R (ad 0) (nI b) (nI i) (nI 0) M = some (fO (yl (s.2.1 b) (Y + 1) 0 i), M) ∧ ∀ t, yl (s.2.1 b) (Y + 1) 0 i = some t → fn_X6_layer T R (ad 0) (nI b) (nI i) (nI 1) M = some (nI (s.2.1 b t), M) := by
  obtain ⟨tx, β, σ, hi, G, hs, ct⟩ := w
  have b4 := CG_bs G (show 4 < 5 by omega)
  have tg := CG_tg G (.inr b4)
  have tg0 := tg
  have hM := M_TV hi M (β 4)
  have rt := hs.2.2.1
  have rt0 := rt
  have I := g.1.1
  have hY8 := g.2.2.2.2.1
  have hnb := g.2.2.2.2.2.1
  have hns := g.2.2.2.2.2.2.1
  have n7 := g.2.2.2.2.2.2.2.1
  have n8 := g.2.2.2.2.2.2.2.2.1
  have n9 := g.2.2.2.2.2.2.2.2.2
  have h7 := g.2.1
  have h8 := g.2.2.1
  have h9 := g.2.2.2.1
  have hK : 1000000 * nb + 300000 * Y < 2 ^ 30 := by omega
  have z0 := G.2.2.2.2.1
  have w0 := G.1
  obtain ⟨t1, t04, t05, t06, t40, t41, t42, t43, tl, tb, ts⟩ := rt
  rw [h8] at t04
  rw [h9] at t05
  rw [h7] at t06
  obtain ⟨hq, k0, r00, r01, r02, r03, k1, n1, k2, n2, k3, n3, k4, rb, kb, rl, lg, rs, ks, sl, si⟩ := tg
  have a1 := x5_hasBand tg0 M (l := CL ad M (β 4)) t04 hnb hb
  rw [hM] at a1
  obtain ⟨hc31, hf31⟩ := GS_31 g hY5 hb
  obtain ⟨v1, v2, v3⟩ := tb b (by omega)
  have kl := (lg b (by omega)).1
  have hy : ¬ nI i < nI 0 := nI_pos hi31
  have q1 := x2_yearOfLayer hq (lg b (by omega)) M (CL ad M (β 4)) v3 hc31 hi31
  rw [hM, yl_801 g hb] at q1
  have a30 : (nI 0 ≤ nI 0 ∧ nI 0 ≤ nI 1) = True := in_t (by omega) (by omega) (by omega)
  have a31 : (nI 0 ≤ nI 1 ∧ nI 1 ≤ nI 1) = True := in_t (by omega) (by omega) (by omega)
  cases e : yl (s.2.1 b) (Y + 1) 0 i with
  | none =>
    rw [e] at q1
    have e0 : oY none = nONE := rfl
    rw [e0] at q1
    refine ⟨?_, fun t ht => by cases ht⟩
    rw [fO_n]
    unfold fn_X6_layer
    simp (disch := omega) only [↓cal_w6, ↓lm1, l0, l1, l2, l3, l4, l5, l6, l7, l8, l9, l10, l11, l12, l13, l14, l31, l32, l44, l48, l50, l57, l59, l60, l74, l100, l110, l126, l300, l330, l500, l501, l801, l1000, l5000, l5010, l8010, l8192, l9000, l10000, l1000000, and_self, and_true, true_and, and_false, false_and, nI_add, pk_mul, nI_clamp, ↓reduceIte, eF, lT, lF, leT, leF, chk_d, chk_t, chk_inb, rfm_s, bnd_e, cal_e, calR_e, ↓chk_q w0, ↓rfm_q z0, ↓chk_q k0, w0, z0, k0, r00, r01, r02, r03, k1, n1, k2, n2, k3, n3, k4, rb, kb, rl, rs, ks, kl, ↓cal_q a1, a1, hy, x6_isWithin, a30, q1, nONE_leF]
  | some t =>
    have htY := yl_lt e
    rw [e] at q1
    have e0 : oY (some t) = nI t := rfl
    rw [e0] at q1
    have q3 := x2_leftOf hq (lg b (by omega)) M (c := CC ad M (β 4)) (CL ad M (β 4)) (show t < 801 by omega)
    rw [hM, LY_row v3 t (by omega)] at q3
    refine ⟨?_, fun t' ht => ?_⟩
    · rw [fO_s]
      unfold fn_X6_layer
      simp (disch := omega) only [↓cal_w6, ↓lm1, l0, l1, l2, l3, l4, l5, l6, l7, l8, l9, l10, l11, l12, l13, l14, l31, l32, l44, l48, l50, l57, l59, l60, l74, l100, l110, l126, l300, l330, l500, l501, l801, l1000, l5000, l5010, l8010, l8192, l9000, l10000, l1000000, and_self, and_true, true_and, and_false, false_and, nI_add, pk_mul, nI_clamp, ↓reduceIte, eF, lT, lF, leT, leF, chk_d, chk_t, chk_inb, rfm_s, bnd_e, cal_e, calR_e, ↓chk_q w0, ↓rfm_q z0, ↓chk_q k0, w0, z0, k0, r00, r01, r02, r03, k1, n1, k2, n2, k3, n3, k4, rb, kb, rl, rs, ks, kl, ↓cal_q a1, a1, hy, x6_isWithin, a30, q1]
    · cases ht
      unfold fn_X6_layer
      simp (disch := omega) only [↓cal_w6, ↓lm1, l0, l1, l2, l3, l4, l5, l6, l7, l8, l9, l10, l11, l12, l13, l14, l31, l32, l44, l48, l50, l57, l59, l60, l74, l100, l110, l126, l300, l330, l500, l501, l801, l1000, l5000, l5010, l8010, l8192, l9000, l10000, l1000000, and_self, and_true, true_and, and_false, false_and, nI_add, pk_mul, nI_clamp, ↓reduceIte, eF, lT, lF, leT, leF, chk_d, chk_t, chk_inb, rfm_s, bnd_e, cal_e, calR_e, ↓chk_q w0, ↓rfm_q z0, ↓chk_q k0, w0, z0, k0, r00, r01, r02, r03, k1, n1, k2, n2, k3, n3, k4, rb, kb, rl, rs, ks, kl, ↓cal_q a1, a1, hy, x6_isWithin, a31, q1, q3]
theorem r_oy {ad : Nat → Nat} {T : Ty} {M : Mm} {R : Rm} {s : Sx} {n : Nat} {h : Nat → Sx} (w : WQ ad T M R s n h) {Y nb ns : Nat} (g : GS (1000000 * nb + 300000 * Y) Y nb ns s) (hY5 : Y ≤ 500) {y : Nat} (hy : y ≤ 500) : fn_X6_ofYear T R (ad 0) (nI y) M = some (nI (sm (fun b => s.2.1 b y) nb), M) := by
  obtain ⟨tx, β, σ, hi, G, hs, ct⟩ := w
  have b4 := CG_bs G (show 4 < 5 by omega)
  have tg := CG_tg G (.inr b4)
  have tg0 := tg
  have hM := M_TV hi M (β 4)
  have rt := hs.2.2.1
  have rt0 := rt
  have I := g.1.1
  have hY8 := g.2.2.2.2.1
  have hnb := g.2.2.2.2.2.1
  have hns := g.2.2.2.2.2.2.1
  have n7 := g.2.2.2.2.2.2.2.1
  have n8 := g.2.2.2.2.2.2.2.2.1
  have n9 := g.2.2.2.2.2.2.2.2.2
  have h7 := g.2.1
  have h8 := g.2.2.1
  have h9 := g.2.2.2.1
  have hK : 1000000 * nb + 300000 * Y < 2 ^ 30 := by omega
  have z0 := G.2.2.2.2.1
  have w0 := G.1
  obtain ⟨t1, t04, t05, t06, t40, t41, t42, t43, tl, tb, ts⟩ := rt
  rw [h8] at t04
  rw [h9] at t05
  rw [h7] at t06
  obtain ⟨hq, k0, r00, r01, r02, r03, k1, n1, k2, n2, k3, n3, k4, rb, kb, rl, lg, rs, ks, sl, si⟩ := tg
  have a3 : (nI 0 ≤ nI y ∧ nI y ≤ nI 500) = True := in_t (by omega) (by omega) (by omega)
  have q1 := x5_leftOf tg0 M g rt0 (show y < 801 by omega)
  rw [hM] at q1
  unfold fn_X6_ofYear
  simp (disch := omega) only [↓cal_w6, ↓lm1, l0, l1, l2, l3, l4, l5, l6, l7, l8, l9, l10, l11, l12, l13, l14, l31, l32, l44, l48, l50, l57, l59, l60, l74, l100, l110, l126, l300, l330, l500, l501, l801, l1000, l5000, l5010, l8010, l8192, l9000, l10000, l1000000, and_self, and_true, true_and, and_false, false_and, nI_add, pk_mul, nI_clamp, ↓reduceIte, eF, lT, lF, leT, leF, chk_d, chk_t, chk_inb, rfm_s, bnd_e, cal_e, calR_e, ↓chk_q w0, ↓rfm_q z0, ↓chk_q k0, w0, z0, k0, r00, r01, r02, r03, k1, n1, k2, n2, k3, n3, k4, rb, kb, rl, rs, ks, x6_isWithin, a3, q1]
theorem r_oyN {ad : Nat → Nat} {T : Ty} {M : Mm} {R : Rm} : fn_X6_ofYear T R (ad 0) (nI 501) M = some (-2000000001, M) := by
  have a3 : (nI 0 ≤ nI 501 ∧ nI 501 ≤ nI 500) = False := in_f (by omega) (by omega) (.inr (Int32.le_refl _))
  unfold fn_X6_ofYear
  simp (disch := omega) only [↓cal_w6, ↓lm1, l0, l1, l2, l3, l4, l5, l6, l7, l8, l9, l10, l11, l12, l13, l14, l31, l32, l44, l48, l50, l57, l59, l60, l74, l100, l110, l126, l300, l330, l500, l501, l801, l1000, l5000, l5010, l8010, l8192, l9000, l10000, l1000000, and_self, and_true, true_and, and_false, false_and, nI_add, pk_mul, nI_clamp, ↓reduceIte, eF, lT, lF, leT, leF, chk_d, chk_t, chk_inb, rfm_s, bnd_e, cal_e, calR_e, x6_isWithin, a3]
/-- the lowest band with as much snow as melt, among the first k -/
def lnB (m : Nat → Int32) : Nat → Option Nat
  | 0 => none
  | k + 1 => if mlS m k ≤ snS m k then some k else lnB m k
theorem r_line {ad : Nat → Nat} {T : Ty} {M : Mm} {R : Rm} {s : Sx} {n : Nat} {h : Nat → Sx} (w : WQ ad T M R s n h) {Y nb ns : Nat} (g : GS (1000000 * nb + 300000 * Y) Y nb ns s) (hY5 : Y ≤ 500) : fn_X6_line T R (ad 0) M = some (fO (lnB s.1 nb), M) := by
  obtain ⟨tx, β, σ, hi, G, hs, ct⟩ := w
  have b4 := CG_bs G (show 4 < 5 by omega)
  have tg := CG_tg G (.inr b4)
  have tg0 := tg
  have hM := M_TV hi M (β 4)
  have rt := hs.2.2.1
  have rt0 := rt
  have I := g.1.1
  have hY8 := g.2.2.2.2.1
  have hnb := g.2.2.2.2.2.1
  have hns := g.2.2.2.2.2.2.1
  have n7 := g.2.2.2.2.2.2.2.1
  have n8 := g.2.2.2.2.2.2.2.2.1
  have n9 := g.2.2.2.2.2.2.2.2.2
  have h7 := g.2.1
  have h8 := g.2.2.1
  have h9 := g.2.2.2.1
  have hK : 1000000 * nb + 300000 * Y < 2 ^ 30 := by omega
  have z0 := G.2.2.2.2.1
  have w0 := G.1
  obtain ⟨t1, t04, t05, t06, t40, t41, t42, t43, tl, tb, ts⟩ := rt
  rw [h8] at t04
  rw [h9] at t05
  rw [h7] at t06
  obtain ⟨hq, k0, r00, r01, r02, r03, k1, n1, k2, n2, k3, n3, k4, rb, kb, rl, lg, rs, ks, sl, si⟩ := tg
  have c1 : ∀ k fuel, k ≤ nb → k < fuel → fb_X6_line_10 T R (ad 0) fuel (nI k + nONE) M = some (fO (lnB s.1 k), M) := by
    intro k
    induction k with
    | zero =>
      intro fuel _ hf
      obtain ⟨n', rfl⟩ : ∃ n', fuel = n' + 1 := ⟨fuel - 1, by omega⟩
      rw [fbs_X6_line_10, nI_n1]
      unfold fs_X6_line_10
      simp (disch := omega) only [↓cal_w6, ↓lm1, l0, l1, l2, l3, l4, l5, l6, l7, l8, l9, l10, l11, l12, l13, l14, l31, l32, l44, l48, l50, l57, l59, l60, l74, l100, l110, l126, l300, l330, l500, l501, l801, l1000, l5000, l5010, l8010, l8192, l9000, l10000, l1000000, and_self, and_true, true_and, and_false, false_and, nI_add, pk_mul, nI_clamp, ↓reduceIte, eF, lT, lF, leT, leF, chk_d, chk_t, chk_inb, rfm_s, bnd_e, cal_e, calR_e, nONE_lt, lnB, fO_n]
    | succ k ih =>
      intro fuel hk hf
      obtain ⟨n', rfl⟩ : ∃ n', fuel = n' + 1 := ⟨fuel - 1, by omega⟩
      have ih' := ih n' (by omega) (by omega)
      have hb8 : k < nt (s.1 8) := by omega
      obtain ⟨v1, v2, v3⟩ := tb k hb8
      have q0 := v1 0 (by omega)
      simp only [Nat.reduceAdd, Nat.add_zero] at q0
      have q1 := x5_sn tg0 M (l := CL ad M (β 4)) I t1 hb8
      have q2 := x5_ml tg0 M (l := CL ad M (β 4)) I t1 hb8
      rw [hM] at q1 q2
      have q3 := t1 2 (by omega)
      have b1 := snS_le I hb8
      have b2 := mlS_le I hb8
      rw [fbs_X6_line_10, nI_m1]
      unfold fs_X6_line_10
      by_cases hc : mlS s.1 k ≤ snS s.1 k
      · simp (disch := omega) only [↓cal_w6, ↓lm1, l0, l1, l2, l3, l4, l5, l6, l7, l8, l9, l10, l11, l12, l13, l14, l31, l32, l44, l48, l50, l57, l59, l60, l74, l100, l110, l126, l300, l330, l500, l501, l801, l1000, l5000, l5010, l8010, l8192, l9000, l10000, l1000000, and_self, and_true, true_and, and_false, false_and, nI_add, pk_mul, nI_clamp, ↓reduceIte, eF, lT, lF, leT, leF, chk_d, chk_t, chk_inb, rfm_s, bnd_e, cal_e, calR_e, ↓chk_q w0, ↓rfm_q z0, ↓chk_q k0, w0, z0, k0, r00, r01, r02, r03, k1, n1, k2, n2, k3, n3, k4, rb, kb, rl, rs, ks, gCC, q0, q1, q2, q3, hc, fO_s, lnB]
      · have hc' : (nI (snS s.1 k) < nI (mlS s.1 k)) = True := lT (by omega) (by omega)
        simp (disch := omega) only [↓cal_w6, ↓lm1, l0, l1, l2, l3, l4, l5, l6, l7, l8, l9, l10, l11, l12, l13, l14, l31, l32, l44, l48, l50, l57, l59, l60, l74, l100, l110, l126, l300, l330, l500, l501, l801, l1000, l5000, l5010, l8010, l8192, l9000, l10000, l1000000, and_self, and_true, true_and, and_false, false_and, nI_add, pk_mul, nI_clamp, ↓reduceIte, eF, lT, lF, leT, leF, chk_d, chk_t, chk_inb, rfm_s, bnd_e, cal_e, calR_e, ↓chk_q w0, ↓rfm_q z0, ↓chk_q k0, w0, z0, k0, r00, r01, r02, r03, k1, n1, k2, n2, k3, n3, k4, rb, kb, rl, rs, ks, gCC, q0, q1, q2, q3, hc, hc', ih', lnB]
  have d1 := c1 nb FU (by omega) (FU_gt (by omega))
  have e1 : nI nb - nI 1 = nI nb + nONE := by
    cases nb with
    | zero => decide
    | succ k => rw [nI_m1, nIs (by omega)]; rfl
  unfold fn_X6_line
  simp (disch := omega) only [↓cal_w6, ↓lm1, l0, l1, l2, l3, l4, l5, l6, l7, l8, l9, l10, l11, l12, l13, l14, l31, l32, l44, l48, l50, l57, l59, l60, l74, l100, l110, l126, l300, l330, l500, l501, l801, l1000, l5000, l5010, l8010, l8192, l9000, l10000, l1000000, and_self, and_true, true_and, and_false, false_and, nI_add, pk_mul, nI_clamp, ↓reduceIte, eF, lT, lF, leT, leF, chk_d, chk_t, chk_inb, rfm_s, bnd_e, cal_e, calR_e, ↓chk_q w0, ↓rfm_q z0, ↓chk_q k0, w0, z0, k0, r00, r01, r02, r03, k1, n1, k2, n2, k3, n3, k4, rb, kb, rl, rs, ks, gCC, t04, e1, d1]
theorem JV_front {K : Nat} {m : Nat → Int32} {f : Nat → Nat → Nat} (J : JV K m f) (hK : K < 2 ^ 31) : ∃ P, m 12 = nI P ∧ P < 2 ^ 31 ∧ (P = 0 → m 13 = nONE) ∧ (0 < P → m 13 ≠ nONE) := by
  obtain ⟨-, ⟨F, P, r, -, h2, -, -, h5, h6, h7⟩, -, -⟩ := J
  exact ⟨P, h2, by omega, h6, h7⟩
theorem r_f0 {ad : Nat → Nat} {T : Ty} {M : Mm} {R : Rm} {s : Sx} {n : Nat} {h : Nat → Sx} (w : WQ ad T M R s n h) {Y nb ns : Nat} (g : GS (1000000 * nb + 300000 * Y) Y nb ns s) (hY5 : Y ≤ 500) : fn_X6_front T R (ad 0) (nI 0) M = some (s.1 10, M) := by
  obtain ⟨tx, β, σ, hi, G, hs, ct⟩ := w
  have b4 := CG_bs G (show 4 < 5 by omega)
  have tg := CG_tg G (.inr b4)
  have tg0 := tg
  have hM := M_TV hi M (β 4)
  have rt := hs.2.2.1
  have rt0 := rt
  have I := g.1.1
  have hY8 := g.2.2.2.2.1
  have hnb := g.2.2.2.2.2.1
  have hns := g.2.2.2.2.2.2.1
  have n7 := g.2.2.2.2.2.2.2.1
  have n8 := g.2.2.2.2.2.2.2.2.1
  have n9 := g.2.2.2.2.2.2.2.2.2
  have h7 := g.2.1
  have h8 := g.2.2.1
  have h9 := g.2.2.2.1
  have hK : 1000000 * nb + 300000 * Y < 2 ^ 30 := by omega
  have z0 := G.2.2.2.2.1
  have w0 := G.1
  obtain ⟨t1, t04, t05, t06, t40, t41, t42, t43, tl, tb, ts⟩ := rt
  rw [h8] at t04
  rw [h9] at t05
  rw [h7] at t06
  obtain ⟨hq, k0, r00, r01, r02, r03, k1, n1, k2, n2, k3, n3, k4, rb, kb, rl, lg, rs, ks, sl, si⟩ := tg
  have a3 : (nI 0 ≤ nI 0 ∧ nI 0 ≤ nI 3) = True := in_t (by omega) (by omega) (by omega)
  unfold fn_X6_front
  simp (disch := omega) only [↓cal_w6, ↓lm1, l0, l1, l2, l3, l4, l5, l6, l7, l8, l9, l10, l11, l12, l13, l14, l31, l32, l44, l48, l50, l57, l59, l60, l74, l100, l110, l126, l300, l330, l500, l501, l801, l1000, l5000, l5010, l8010, l8192, l9000, l10000, l1000000, and_self, and_true, true_and, and_false, false_and, nI_add, pk_mul, nI_clamp, ↓reduceIte, eF, lT, lF, leT, leF, chk_d, chk_t, chk_inb, rfm_s, bnd_e, cal_e, calR_e, ↓chk_q w0, ↓rfm_q z0, ↓chk_q k0, w0, z0, k0, r00, r01, r02, r03, k1, n1, k2, n2, k3, n3, k4, rb, kb, rl, rs, ks, x6_isWithin, a3, gCC, t40]
theorem r_f1 {ad : Nat → Nat} {T : Ty} {M : Mm} {R : Rm} {s : Sx} {n : Nat} {h : Nat → Sx} (w : WQ ad T M R s n h) {Y nb ns : Nat} (g : GS (1000000 * nb + 300000 * Y) Y nb ns s) (hY5 : Y ≤ 500) : fn_X6_front T R (ad 0) (nI 1) M = some (s.1 11, M) := by
  obtain ⟨tx, β, σ, hi, G, hs, ct⟩ := w
  have b4 := CG_bs G (show 4 < 5 by omega)
  have tg := CG_tg G (.inr b4)
  have tg0 := tg
  have hM := M_TV hi M (β 4)
  have rt := hs.2.2.1
  have rt0 := rt
  have I := g.1.1
  have hY8 := g.2.2.2.2.1
  have hnb := g.2.2.2.2.2.1
  have hns := g.2.2.2.2.2.2.1
  have n7 := g.2.2.2.2.2.2.2.1
  have n8 := g.2.2.2.2.2.2.2.2.1
  have n9 := g.2.2.2.2.2.2.2.2.2
  have h7 := g.2.1
  have h8 := g.2.2.1
  have h9 := g.2.2.2.1
  have hK : 1000000 * nb + 300000 * Y < 2 ^ 30 := by omega
  have z0 := G.2.2.2.2.1
  have w0 := G.1
  obtain ⟨t1, t04, t05, t06, t40, t41, t42, t43, tl, tb, ts⟩ := rt
  rw [h8] at t04
  rw [h9] at t05
  rw [h7] at t06
  obtain ⟨hq, k0, r00, r01, r02, r03, k1, n1, k2, n2, k3, n3, k4, rb, kb, rl, lg, rs, ks, sl, si⟩ := tg
  have a3 : (nI 0 ≤ nI 1 ∧ nI 1 ≤ nI 3) = True := in_t (by omega) (by omega) (by omega)
  unfold fn_X6_front
  simp (disch := omega) only [↓cal_w6, ↓lm1, l0, l1, l2, l3, l4, l5, l6, l7, l8, l9, l10, l11, l12, l13, l14, l31, l32, l44, l48, l50, l57, l59, l60, l74, l100, l110, l126, l300, l330, l500, l501, l801, l1000, l5000, l5010, l8010, l8192, l9000, l10000, l1000000, and_self, and_true, true_and, and_false, false_and, nI_add, pk_mul, nI_clamp, ↓reduceIte, eF, lT, lF, leT, leF, chk_d, chk_t, chk_inb, rfm_s, bnd_e, cal_e, calR_e, ↓chk_q w0, ↓rfm_q z0, ↓chk_q k0, w0, z0, k0, r00, r01, r02, r03, k1, n1, k2, n2, k3, n3, k4, rb, kb, rl, rs, ks, x6_isWithin, a3, gCC, t41]
theorem r_f2 {ad : Nat → Nat} {T : Ty} {M : Mm} {R : Rm} {s : Sx} {n : Nat} {h : Nat → Sx} (w : WQ ad T M R s n h) {Y nb ns : Nat} (g : GS (1000000 * nb + 300000 * Y) Y nb ns s) (hY5 : Y ≤ 500) : fn_X6_front T R (ad 0) (nI 2) M = some (s.1 12, M) := by
  obtain ⟨tx, β, σ, hi, G, hs, ct⟩ := w
  have b4 := CG_bs G (show 4 < 5 by omega)
  have tg := CG_tg G (.inr b4)
  have tg0 := tg
  have hM := M_TV hi M (β 4)
  have rt := hs.2.2.1
  have rt0 := rt
  have I := g.1.1
  have hY8 := g.2.2.2.2.1
  have hnb := g.2.2.2.2.2.1
  have hns := g.2.2.2.2.2.2.1
  have n7 := g.2.2.2.2.2.2.2.1
  have n8 := g.2.2.2.2.2.2.2.2.1
  have n9 := g.2.2.2.2.2.2.2.2.2
  have h7 := g.2.1
  have h8 := g.2.2.1
  have h9 := g.2.2.2.1
  have hK : 1000000 * nb + 300000 * Y < 2 ^ 30 := by omega
  have z0 := G.2.2.2.2.1
  have w0 := G.1
  obtain ⟨t1, t04, t05, t06, t40, t41, t42, t43, tl, tb, ts⟩ := rt
  rw [h8] at t04
  rw [h9] at t05
  rw [h7] at t06
  obtain ⟨hq, k0, r00, r01, r02, r03, k1, n1, k2, n2, k3, n3, k4, rb, kb, rl, lg, rs, ks, sl, si⟩ := tg
  have a3 : (nI 0 ≤ nI 2 ∧ nI 2 ≤ nI 3) = True := in_t (by omega) (by omega) (by omega)
  unfold fn_X6_front
  simp (disch := omega) only [↓cal_w6, ↓lm1, l0, l1, l2, l3, l4, l5, l6, l7, l8, l9, l10, l11, l12, l13, l14, l31, l32, l44, l48, l50, l57, l59, l60, l74, l100, l110, l126, l300, l330, l500, l501, l801, l1000, l5000, l5010, l8010, l8192, l9000, l10000, l1000000, and_self, and_true, true_and, and_false, false_and, nI_add, pk_mul, nI_clamp, ↓reduceIte, eF, lT, lF, leT, leF, chk_d, chk_t, chk_inb, rfm_s, bnd_e, cal_e, calR_e, ↓chk_q w0, ↓rfm_q z0, ↓chk_q k0, w0, z0, k0, r00, r01, r02, r03, k1, n1, k2, n2, k3, n3, k4, rb, kb, rl, rs, ks, x6_isWithin, a3, gCC, t42]
theorem r_f3 {ad : Nat → Nat} {T : Ty} {M : Mm} {R : Rm} {s : Sx} {n : Nat} {h : Nat → Sx} (w : WQ ad T M R s n h) {Y nb ns : Nat} (g : GS (1000000 * nb + 300000 * Y) Y nb ns s) (hY5 : Y ≤ 500) {P : Nat} (hP : s.1 12 = nI P) (hP31 : P < 2 ^ 31) : fn_X6_front T R (ad 0) (nI 3) M = some (if P = 0 then -2000000004 else s.1 13, M) := by
  obtain ⟨tx, β, σ, hi, G, hs, ct⟩ := w
  have b4 := CG_bs G (show 4 < 5 by omega)
  have tg := CG_tg G (.inr b4)
  have tg0 := tg
  have hM := M_TV hi M (β 4)
  have rt := hs.2.2.1
  have rt0 := rt
  have I := g.1.1
  have hY8 := g.2.2.2.2.1
  have hnb := g.2.2.2.2.2.1
  have hns := g.2.2.2.2.2.2.1
  have n7 := g.2.2.2.2.2.2.2.1
  have n8 := g.2.2.2.2.2.2.2.2.1
  have n9 := g.2.2.2.2.2.2.2.2.2
  have h7 := g.2.1
  have h8 := g.2.2.1
  have h9 := g.2.2.2.1
  have hK : 1000000 * nb + 300000 * Y < 2 ^ 30 := by omega
  have z0 := G.2.2.2.2.1
  have w0 := G.1
  obtain ⟨t1, t04, t05, t06, t40, t41, t42, t43, tl, tb, ts⟩ := rt
  rw [h8] at t04
  rw [h9] at t05
  rw [h7] at t06
  obtain ⟨hq, k0, r00, r01, r02, r03, k1, n1, k2, n2, k3, n3, k4, rb, kb, rl, lg, rs, ks, sl, si⟩ := tg
  have a3 : (nI 0 ≤ nI 3 ∧ nI 3 ≤ nI 3) = True := in_t (by omega) (by omega) (by omega)
  by_cases h0 : P = 0
  · subst h0
    rw [if_pos rfl]
    unfold fn_X6_front
    simp (disch := omega) only [↓cal_w6, ↓lm1, l0, l1, l2, l3, l4, l5, l6, l7, l8, l9, l10, l11, l12, l13, l14, l31, l32, l44, l48, l50, l57, l59, l60, l74, l100, l110, l126, l300, l330, l500, l501, l801, l1000, l5000, l5010, l8010, l8192, l9000, l10000, l1000000, and_self, and_true, true_and, and_false, false_and, nI_add, pk_mul, nI_clamp, ↓reduceIte, eF, lT, lF, leT, leF, chk_d, chk_t, chk_inb, rfm_s, bnd_e, cal_e, calR_e, ↓chk_q w0, ↓rfm_q z0, ↓chk_q k0, w0, z0, k0, r00, r01, r02, r03, k1, n1, k2, n2, k3, n3, k4, rb, kb, rl, rs, ks, x6_isWithin, a3, gCC, t42, hP]
  · have hne : s.1 12 ≠ nI 0 := by rw [hP, Ne, nI_eq (by omega) (by omega)]; exact h0
    have q4 := t43 hne
    rw [if_neg h0]
    unfold fn_X6_front
    simp (disch := omega) only [↓cal_w6, ↓lm1, l0, l1, l2, l3, l4, l5, l6, l7, l8, l9, l10, l11, l12, l13, l14, l31, l32, l44, l48, l50, l57, l59, l60, l74, l100, l110, l126, l300, l330, l500, l501, l801, l1000, l5000, l5010, l8010, l8192, l9000, l10000, l1000000, and_self, and_true, true_and, and_false, false_and, nI_add, pk_mul, nI_clamp, ↓reduceIte, eF, lT, lF, leT, leF, chk_d, chk_t, chk_inb, rfm_s, bnd_e, cal_e, calR_e, ↓chk_q w0, ↓rfm_q z0, ↓chk_q k0, w0, z0, k0, r00, r01, r02, r03, k1, n1, k2, n2, k3, n3, k4, rb, kb, rl, rs, ks, x6_isWithin, a3, gCC, t42, hP, q4]
theorem r_fN {ad : Nat → Nat} {T : Ty} {M : Mm} {R : Rm} : fn_X6_front T R (ad 0) (nI 4) M = some (-2000000001, M) := by
  have a3 : (nI 0 ≤ nI 4 ∧ nI 4 ≤ nI 3) = False := in_f (by omega) (by omega) (.inr (Int32.le_refl _))
  unfold fn_X6_front
  simp (disch := omega) only [↓cal_w6, ↓lm1, l0, l1, l2, l3, l4, l5, l6, l7, l8, l9, l10, l11, l12, l13, l14, l31, l32, l44, l48, l50, l57, l59, l60, l74, l100, l110, l126, l300, l330, l500, l501, l801, l1000, l5000, l5010, l8010, l8192, l9000, l10000, l1000000, and_self, and_true, true_and, and_false, false_and, nI_add, pk_mul, nI_clamp, ↓reduceIte, eF, lT, lF, leT, leF, chk_d, chk_t, chk_inb, rfm_s, bnd_e, cal_e, calR_e, x6_isWithin, a3]
theorem r_a0 {ad : Nat → Nat} {T : Ty} {M : Mm} {R : Rm} {s : Sx} {n : Nat} {h : Nat → Sx} (w : WQ ad T M R s n h) {Y nb ns : Nat} (g : GS (1000000 * nb + 300000 * Y) Y nb ns s) (hY5 : Y ≤ 500) : fn_X6_account T R (ad 0) (nI 0) M = some (s.2.2 0, M) := by
  obtain ⟨tx, β, σ, hi, G, hs, ct⟩ := w
  have b4 := CG_bs G (show 4 < 5 by omega)
  have tg := CG_tg G (.inr b4)
  have tg0 := tg
  have hM := M_TV hi M (β 4)
  have rt := hs.2.2.1
  have rt0 := rt
  have I := g.1.1
  have hY8 := g.2.2.2.2.1
  have hnb := g.2.2.2.2.2.1
  have hns := g.2.2.2.2.2.2.1
  have n7 := g.2.2.2.2.2.2.2.1
  have n8 := g.2.2.2.2.2.2.2.2.1
  have n9 := g.2.2.2.2.2.2.2.2.2
  have h7 := g.2.1
  have h8 := g.2.2.1
  have h9 := g.2.2.2.1
  have hK : 1000000 * nb + 300000 * Y < 2 ^ 30 := by omega
  have z0 := G.2.2.2.2.1
  have w0 := G.1
  obtain ⟨t1, t04, t05, t06, t40, t41, t42, t43, tl, tb, ts⟩ := rt
  rw [h8] at t04
  rw [h9] at t05
  rw [h7] at t06
  obtain ⟨hq, k0, r00, r01, r02, r03, k1, n1, k2, n2, k3, n3, k4, rb, kb, rl, lg, rs, ks, sl, si⟩ := tg
  have a3 : (nI 0 ≤ nI 0 ∧ nI 0 ≤ nI 5) = True := in_t (by omega) (by omega) (by omega)
  have q1 := tl 0 (by omega)
  simp only [Nat.reduceAdd] at q1
  unfold fn_X6_account
  simp (disch := omega) only [↓cal_w6, ↓lm1, l0, l1, l2, l3, l4, l5, l6, l7, l8, l9, l10, l11, l12, l13, l14, l31, l32, l44, l48, l50, l57, l59, l60, l74, l100, l110, l126, l300, l330, l500, l501, l801, l1000, l5000, l5010, l8010, l8192, l9000, l10000, l1000000, and_self, and_true, true_and, and_false, false_and, nI_add, pk_mul, nI_clamp, ↓reduceIte, eF, lT, lF, leT, leF, chk_d, chk_t, chk_inb, rfm_s, bnd_e, cal_e, calR_e, ↓chk_q w0, ↓rfm_q z0, ↓chk_q k0, w0, z0, k0, r00, r01, r02, r03, k1, n1, k2, n2, k3, n3, k4, rb, kb, rl, rs, ks, x6_isWithin, a3, gCL, q1]
theorem r_a1 {ad : Nat → Nat} {T : Ty} {M : Mm} {R : Rm} {s : Sx} {n : Nat} {h : Nat → Sx} (w : WQ ad T M R s n h) {Y nb ns : Nat} (g : GS (1000000 * nb + 300000 * Y) Y nb ns s) (hY5 : Y ≤ 500) : fn_X6_account T R (ad 0) (nI 1) M = some (s.2.2 1, M) := by
  obtain ⟨tx, β, σ, hi, G, hs, ct⟩ := w
  have b4 := CG_bs G (show 4 < 5 by omega)
  have tg := CG_tg G (.inr b4)
  have tg0 := tg
  have hM := M_TV hi M (β 4)
  have rt := hs.2.2.1
  have rt0 := rt
  have I := g.1.1
  have hY8 := g.2.2.2.2.1
  have hnb := g.2.2.2.2.2.1
  have hns := g.2.2.2.2.2.2.1
  have n7 := g.2.2.2.2.2.2.2.1
  have n8 := g.2.2.2.2.2.2.2.2.1
  have n9 := g.2.2.2.2.2.2.2.2.2
  have h7 := g.2.1
  have h8 := g.2.2.1
  have h9 := g.2.2.2.1
  have hK : 1000000 * nb + 300000 * Y < 2 ^ 30 := by omega
  have z0 := G.2.2.2.2.1
  have w0 := G.1
  obtain ⟨t1, t04, t05, t06, t40, t41, t42, t43, tl, tb, ts⟩ := rt
  rw [h8] at t04
  rw [h9] at t05
  rw [h7] at t06
  obtain ⟨hq, k0, r00, r01, r02, r03, k1, n1, k2, n2, k3, n3, k4, rb, kb, rl, lg, rs, ks, sl, si⟩ := tg
  have a3 : (nI 0 ≤ nI 1 ∧ nI 1 ≤ nI 5) = True := in_t (by omega) (by omega) (by omega)
  have q1 := tl 1 (by omega)
  simp only [Nat.reduceAdd] at q1
  unfold fn_X6_account
  simp (disch := omega) only [↓cal_w6, ↓lm1, l0, l1, l2, l3, l4, l5, l6, l7, l8, l9, l10, l11, l12, l13, l14, l31, l32, l44, l48, l50, l57, l59, l60, l74, l100, l110, l126, l300, l330, l500, l501, l801, l1000, l5000, l5010, l8010, l8192, l9000, l10000, l1000000, and_self, and_true, true_and, and_false, false_and, nI_add, pk_mul, nI_clamp, ↓reduceIte, eF, lT, lF, leT, leF, chk_d, chk_t, chk_inb, rfm_s, bnd_e, cal_e, calR_e, ↓chk_q w0, ↓rfm_q z0, ↓chk_q k0, w0, z0, k0, r00, r01, r02, r03, k1, n1, k2, n2, k3, n3, k4, rb, kb, rl, rs, ks, x6_isWithin, a3, gCL, q1]
theorem r_a2 {ad : Nat → Nat} {T : Ty} {M : Mm} {R : Rm} {s : Sx} {n : Nat} {h : Nat → Sx} (w : WQ ad T M R s n h) {Y nb ns : Nat} (g : GS (1000000 * nb + 300000 * Y) Y nb ns s) (hY5 : Y ≤ 500) : fn_X6_account T R (ad 0) (nI 2) M = some (s.2.2 2, M) := by
  obtain ⟨tx, β, σ, hi, G, hs, ct⟩ := w
  have b4 := CG_bs G (show 4 < 5 by omega)
  have tg := CG_tg G (.inr b4)
  have tg0 := tg
  have hM := M_TV hi M (β 4)
  have rt := hs.2.2.1
  have rt0 := rt
  have I := g.1.1
  have hY8 := g.2.2.2.2.1
  have hnb := g.2.2.2.2.2.1
  have hns := g.2.2.2.2.2.2.1
  have n7 := g.2.2.2.2.2.2.2.1
  have n8 := g.2.2.2.2.2.2.2.2.1
  have n9 := g.2.2.2.2.2.2.2.2.2
  have h7 := g.2.1
  have h8 := g.2.2.1
  have h9 := g.2.2.2.1
  have hK : 1000000 * nb + 300000 * Y < 2 ^ 30 := by omega
  have z0 := G.2.2.2.2.1
  have w0 := G.1
  obtain ⟨t1, t04, t05, t06, t40, t41, t42, t43, tl, tb, ts⟩ := rt
  rw [h8] at t04
  rw [h9] at t05
  rw [h7] at t06
  obtain ⟨hq, k0, r00, r01, r02, r03, k1, n1, k2, n2, k3, n3, k4, rb, kb, rl, lg, rs, ks, sl, si⟩ := tg
  have a3 : (nI 0 ≤ nI 2 ∧ nI 2 ≤ nI 5) = True := in_t (by omega) (by omega) (by omega)
  have q1 := tl 2 (by omega)
  simp only [Nat.reduceAdd] at q1
  unfold fn_X6_account
  simp (disch := omega) only [↓cal_w6, ↓lm1, l0, l1, l2, l3, l4, l5, l6, l7, l8, l9, l10, l11, l12, l13, l14, l31, l32, l44, l48, l50, l57, l59, l60, l74, l100, l110, l126, l300, l330, l500, l501, l801, l1000, l5000, l5010, l8010, l8192, l9000, l10000, l1000000, and_self, and_true, true_and, and_false, false_and, nI_add, pk_mul, nI_clamp, ↓reduceIte, eF, lT, lF, leT, leF, chk_d, chk_t, chk_inb, rfm_s, bnd_e, cal_e, calR_e, ↓chk_q w0, ↓rfm_q z0, ↓chk_q k0, w0, z0, k0, r00, r01, r02, r03, k1, n1, k2, n2, k3, n3, k4, rb, kb, rl, rs, ks, x6_isWithin, a3, gCL, q1]
theorem r_a3 {ad : Nat → Nat} {T : Ty} {M : Mm} {R : Rm} {s : Sx} {n : Nat} {h : Nat → Sx} (w : WQ ad T M R s n h) {Y nb ns : Nat} (g : GS (1000000 * nb + 300000 * Y) Y nb ns s) (hY5 : Y ≤ 500) : fn_X6_account T R (ad 0) (nI 3) M = some (s.2.2 3, M) := by
  obtain ⟨tx, β, σ, hi, G, hs, ct⟩ := w
  have b4 := CG_bs G (show 4 < 5 by omega)
  have tg := CG_tg G (.inr b4)
  have tg0 := tg
  have hM := M_TV hi M (β 4)
  have rt := hs.2.2.1
  have rt0 := rt
  have I := g.1.1
  have hY8 := g.2.2.2.2.1
  have hnb := g.2.2.2.2.2.1
  have hns := g.2.2.2.2.2.2.1
  have n7 := g.2.2.2.2.2.2.2.1
  have n8 := g.2.2.2.2.2.2.2.2.1
  have n9 := g.2.2.2.2.2.2.2.2.2
  have h7 := g.2.1
  have h8 := g.2.2.1
  have h9 := g.2.2.2.1
  have hK : 1000000 * nb + 300000 * Y < 2 ^ 30 := by omega
  have z0 := G.2.2.2.2.1
  have w0 := G.1
  obtain ⟨t1, t04, t05, t06, t40, t41, t42, t43, tl, tb, ts⟩ := rt
  rw [h8] at t04
  rw [h9] at t05
  rw [h7] at t06
  obtain ⟨hq, k0, r00, r01, r02, r03, k1, n1, k2, n2, k3, n3, k4, rb, kb, rl, lg, rs, ks, sl, si⟩ := tg
  have a3 : (nI 0 ≤ nI 3 ∧ nI 3 ≤ nI 5) = True := in_t (by omega) (by omega) (by omega)
  have q1 := tl 3 (by omega)
  simp only [Nat.reduceAdd] at q1
  unfold fn_X6_account
  simp (disch := omega) only [↓cal_w6, ↓lm1, l0, l1, l2, l3, l4, l5, l6, l7, l8, l9, l10, l11, l12, l13, l14, l31, l32, l44, l48, l50, l57, l59, l60, l74, l100, l110, l126, l300, l330, l500, l501, l801, l1000, l5000, l5010, l8010, l8192, l9000, l10000, l1000000, and_self, and_true, true_and, and_false, false_and, nI_add, pk_mul, nI_clamp, ↓reduceIte, eF, lT, lF, leT, leF, chk_d, chk_t, chk_inb, rfm_s, bnd_e, cal_e, calR_e, ↓chk_q w0, ↓rfm_q z0, ↓chk_q k0, w0, z0, k0, r00, r01, r02, r03, k1, n1, k2, n2, k3, n3, k4, rb, kb, rl, rs, ks, x6_isWithin, a3, gCL, q1]
theorem r_a4 {ad : Nat → Nat} {T : Ty} {M : Mm} {R : Rm} {s : Sx} {n : Nat} {h : Nat → Sx} (w : WQ ad T M R s n h) {Y nb ns : Nat} (g : GS (1000000 * nb + 300000 * Y) Y nb ns s) (hY5 : Y ≤ 500) : fn_X6_account T R (ad 0) (nI 4) M = some ((s.1 10 + nI (tot s.2.1 Y nb)).toInt64, M) := by
  obtain ⟨tx, β, σ, hi, G, hs, ct⟩ := w
  have b4 := CG_bs G (show 4 < 5 by omega)
  have tg := CG_tg G (.inr b4)
  have tg0 := tg
  have hM := M_TV hi M (β 4)
  have rt := hs.2.2.1
  have rt0 := rt
  have I := g.1.1
  have hY8 := g.2.2.2.2.1
  have hnb := g.2.2.2.2.2.1
  have hns := g.2.2.2.2.2.2.1
  have n7 := g.2.2.2.2.2.2.2.1
  have n8 := g.2.2.2.2.2.2.2.2.1
  have n9 := g.2.2.2.2.2.2.2.2.2
  have h7 := g.2.1
  have h8 := g.2.2.1
  have h9 := g.2.2.2.1
  have hK : 1000000 * nb + 300000 * Y < 2 ^ 30 := by omega
  have z0 := G.2.2.2.2.1
  have w0 := G.1
  obtain ⟨t1, t04, t05, t06, t40, t41, t42, t43, tl, tb, ts⟩ := rt
  rw [h8] at t04
  rw [h9] at t05
  rw [h7] at t06
  obtain ⟨hq, k0, r00, r01, r02, r03, k1, n1, k2, n2, k3, n3, k4, rb, kb, rl, lg, rs, ks, sl, si⟩ := tg
  have a3 : (nI 0 ≤ nI 4 ∧ nI 4 ≤ nI 5) = True := in_t (by omega) (by omega) (by omega)
  have q1 := x5_allIce tg0 M g (by omega) rt0
  rw [hM] at q1
  unfold fn_X6_account
  simp (disch := omega) only [↓cal_w6, ↓lm1, l0, l1, l2, l3, l4, l5, l6, l7, l8, l9, l10, l11, l12, l13, l14, l31, l32, l44, l48, l50, l57, l59, l60, l74, l100, l110, l126, l300, l330, l500, l501, l801, l1000, l5000, l5010, l8010, l8192, l9000, l10000, l1000000, and_self, and_true, true_and, and_false, false_and, nI_add, pk_mul, nI_clamp, ↓reduceIte, eF, lT, lF, leT, leF, chk_d, chk_t, chk_inb, rfm_s, bnd_e, cal_e, calR_e, ↓chk_q w0, ↓rfm_q z0, ↓chk_q k0, w0, z0, k0, r00, r01, r02, r03, k1, n1, k2, n2, k3, n3, k4, rb, kb, rl, rs, ks, x6_isWithin, a3, q1]
theorem r_a5 {ad : Nat → Nat} {T : Ty} {M : Mm} {R : Rm} {s : Sx} {n : Nat} {h : Nat → Sx} (w : WQ ad T M R s n h) {Y nb ns : Nat} (g : GS (1000000 * nb + 300000 * Y) Y nb ns s) (hY5 : Y ≤ 500) : fn_X6_account T R (ad 0) (nI 5) M = some ((s.1 10 + nI (tot s.2.1 Y nb)).toInt64, M) := by
  obtain ⟨tx, β, σ, hi, G, hs, ct⟩ := w
  have b4 := CG_bs G (show 4 < 5 by omega)
  have tg := CG_tg G (.inr b4)
  have tg0 := tg
  have hM := M_TV hi M (β 4)
  have rt := hs.2.2.1
  have rt0 := rt
  have I := g.1.1
  have hY8 := g.2.2.2.2.1
  have hnb := g.2.2.2.2.2.1
  have hns := g.2.2.2.2.2.2.1
  have n7 := g.2.2.2.2.2.2.2.1
  have n8 := g.2.2.2.2.2.2.2.2.1
  have n9 := g.2.2.2.2.2.2.2.2.2
  have h7 := g.2.1
  have h8 := g.2.2.1
  have h9 := g.2.2.2.1
  have hK : 1000000 * nb + 300000 * Y < 2 ^ 30 := by omega
  have z0 := G.2.2.2.2.1
  have w0 := G.1
  obtain ⟨t1, t04, t05, t06, t40, t41, t42, t43, tl, tb, ts⟩ := rt
  rw [h8] at t04
  rw [h9] at t05
  rw [h7] at t06
  obtain ⟨hq, k0, r00, r01, r02, r03, k1, n1, k2, n2, k3, n3, k4, rb, kb, rl, lg, rs, ks, sl, si⟩ := tg
  have a3 : (nI 0 ≤ nI 5 ∧ nI 5 ≤ nI 5) = True := in_t (by omega) (by omega) (by omega)
  have q1 := x5_allIceByYears tg0 M g (by omega) rt0
  rw [hM] at q1
  unfold fn_X6_account
  simp (disch := omega) only [↓cal_w6, ↓lm1, l0, l1, l2, l3, l4, l5, l6, l7, l8, l9, l10, l11, l12, l13, l14, l31, l32, l44, l48, l50, l57, l59, l60, l74, l100, l110, l126, l300, l330, l500, l501, l801, l1000, l5000, l5010, l8010, l8192, l9000, l10000, l1000000, and_self, and_true, true_and, and_false, false_and, nI_add, pk_mul, nI_clamp, ↓reduceIte, eF, lT, lF, leT, leF, chk_d, chk_t, chk_inb, rfm_s, bnd_e, cal_e, calR_e, ↓chk_q w0, ↓rfm_q z0, ↓chk_q k0, w0, z0, k0, r00, r01, r02, r03, k1, n1, k2, n2, k3, n3, k4, rb, kb, rl, rs, ks, x6_isWithin, a3, q1]
theorem r_aN {ad : Nat → Nat} {T : Ty} {M : Mm} {R : Rm} : fn_X6_account T R (ad 0) (nI 6) M = some (-2000000001, M) := by
  have a3 : (nI 0 ≤ nI 6 ∧ nI 6 ≤ nI 5) = False := in_f (by omega) (by omega) (.inr (Int32.le_refl _))
  unfold fn_X6_account
  simp (disch := omega) only [↓cal_w6, ↓lm1, l0, l1, l2, l3, l4, l5, l6, l7, l8, l9, l10, l11, l12, l13, l14, l31, l32, l44, l48, l50, l57, l59, l60, l74, l100, l110, l126, l300, l330, l500, l501, l801, l1000, l5000, l5010, l8010, l8192, l9000, l10000, l1000000, and_self, and_true, true_and, and_false, false_and, nI_add, pk_mul, nI_clamp, ↓reduceIte, eF, lT, lF, leT, leF, chk_d, chk_t, chk_inb, rfm_s, bnd_e, cal_e, calR_e, x6_isWithin, a3]
theorem eX {x : Int32} {k n : Nat} (hx : x < nI 0 ∨ nI n ≤ x) (hk : k < n) (hn : n < 2 ^ 31) : (x = nI k) = False := eq_false (fun e => by
  subst e
  rcases hx with h | h
  · exact nI_pos (by omega) h
  · rw [nI_leI (by omega) (by omega)] at h
    omega)
theorem in_hi {j a b : Nat} (h1 : b < j) (hj : j < 2 ^ 31) : (nI a ≤ nI j ∧ nI j ≤ nI b) = False := eq_false (fun h => by
  have := h.2
  rw [nI_leI (by omega) (by omega)] at this
  omega)
theorem r_c0 {ad : Nat → Nat} {T : Ty} {M : Mm} {R : Rm} {s : Sx} {n : Nat} {h : Nat → Sx} (w : WQ ad T M R s n h) {Y nb ns : Nat} (g : GS (1000000 * nb + 300000 * Y) Y nb ns s) (hY5 : Y ≤ 500) : fn_X6_count T R (ad 0) (nI 0) M = some (nI nb, M) := by
  obtain ⟨tx, β, σ, hi, G, hs, ct⟩ := w
  have b4 := CG_bs G (show 4 < 5 by omega)
  have tg := CG_tg G (.inr b4)
  have tg0 := tg
  have hM := M_TV hi M (β 4)
  have rt := hs.2.2.1
  have rt0 := rt
  have I := g.1.1
  have hY8 := g.2.2.2.2.1
  have hnb := g.2.2.2.2.2.1
  have hns := g.2.2.2.2.2.2.1
  have n7 := g.2.2.2.2.2.2.2.1
  have n8 := g.2.2.2.2.2.2.2.2.1
  have n9 := g.2.2.2.2.2.2.2.2.2
  have h7 := g.2.1
  have h8 := g.2.2.1
  have h9 := g.2.2.2.1
  have hK : 1000000 * nb + 300000 * Y < 2 ^ 30 := by omega
  have z0 := G.2.2.2.2.1
  have w0 := G.1
  obtain ⟨t1, t04, t05, t06, t40, t41, t42, t43, tl, tb, ts⟩ := rt
  rw [h8] at t04
  rw [h9] at t05
  rw [h7] at t06
  obtain ⟨hq, k0, r00, r01, r02, r03, k1, n1, k2, n2, k3, n3, k4, rb, kb, rl, lg, rs, ks, sl, si⟩ := tg
  have a3 : (nI 0 ≤ nI 0 ∧ nI 0 ≤ nI 14) = True := in_t (by omega) (by omega) (by omega)
  have a4 : (nI 6 ≤ nI 0 ∧ nI 0 ≤ nI 12) = False := in_lo (by omega) (by omega)
  unfold fn_X6_count
  simp (disch := omega) only [↓cal_w6, ↓lm1, l0, l1, l2, l3, l4, l5, l6, l7, l8, l9, l10, l11, l12, l13, l14, l31, l32, l44, l48, l50, l57, l59, l60, l74, l100, l110, l126, l300, l330, l500, l501, l801, l1000, l5000, l5010, l8010, l8192, l9000, l10000, l1000000, and_self, and_true, true_and, and_false, false_and, nI_add, pk_mul, nI_clamp, ↓reduceIte, eF, lT, lF, leT, leF, chk_d, chk_t, chk_inb, rfm_s, bnd_e, cal_e, calR_e, ↓chk_q w0, ↓rfm_q z0, ↓chk_q k0, w0, z0, k0, r00, r01, r02, r03, k1, n1, k2, n2, k3, n3, k4, rb, kb, rl, rs, ks, x6_isWithin, a3, a4, gCC, t04]
theorem r_c1 {ad : Nat → Nat} {T : Ty} {M : Mm} {R : Rm} {s : Sx} {n : Nat} {h : Nat → Sx} (w : WQ ad T M R s n h) {Y nb ns : Nat} (g : GS (1000000 * nb + 300000 * Y) Y nb ns s) (hY5 : Y ≤ 500) : fn_X6_count T R (ad 0) (nI 1) M = some (nI Y, M) := by
  obtain ⟨tx, β, σ, hi, G, hs, ct⟩ := w
  have b4 := CG_bs G (show 4 < 5 by omega)
  have tg := CG_tg G (.inr b4)
  have tg0 := tg
  have hM := M_TV hi M (β 4)
  have rt := hs.2.2.1
  have rt0 := rt
  have I := g.1.1
  have hY8 := g.2.2.2.2.1
  have hnb := g.2.2.2.2.2.1
  have hns := g.2.2.2.2.2.2.1
  have n7 := g.2.2.2.2.2.2.2.1
  have n8 := g.2.2.2.2.2.2.2.2.1
  have n9 := g.2.2.2.2.2.2.2.2.2
  have h7 := g.2.1
  have h8 := g.2.2.1
  have h9 := g.2.2.2.1
  have hK : 1000000 * nb + 300000 * Y < 2 ^ 30 := by omega
  have z0 := G.2.2.2.2.1
  have w0 := G.1
  obtain ⟨t1, t04, t05, t06, t40, t41, t42, t43, tl, tb, ts⟩ := rt
  rw [h8] at t04
  rw [h9] at t05
  rw [h7] at t06
  obtain ⟨hq, k0, r00, r01, r02, r03, k1, n1, k2, n2, k3, n3, k4, rb, kb, rl, lg, rs, ks, sl, si⟩ := tg
  have a3 : (nI 0 ≤ nI 1 ∧ nI 1 ≤ nI 14) = True := in_t (by omega) (by omega) (by omega)
  have a4 : (nI 6 ≤ nI 1 ∧ nI 1 ≤ nI 12) = False := in_lo (by omega) (by omega)
  unfold fn_X6_count
  simp (disch := omega) only [↓cal_w6, ↓lm1, l0, l1, l2, l3, l4, l5, l6, l7, l8, l9, l10, l11, l12, l13, l14, l31, l32, l44, l48, l50, l57, l59, l60, l74, l100, l110, l126, l300, l330, l500, l501, l801, l1000, l5000, l5010, l8010, l8192, l9000, l10000, l1000000, and_self, and_true, true_and, and_false, false_and, nI_add, pk_mul, nI_clamp, ↓reduceIte, eF, lT, lF, leT, leF, chk_d, chk_t, chk_inb, rfm_s, bnd_e, cal_e, calR_e, ↓chk_q w0, ↓rfm_q z0, ↓chk_q k0, w0, z0, k0, r00, r01, r02, r03, k1, n1, k2, n2, k3, n3, k4, rb, kb, rl, rs, ks, x6_isWithin, a3, a4, gCC, t06]
theorem r_c2 {ad : Nat → Nat} {T : Ty} {M : Mm} {R : Rm} {s : Sx} {n : Nat} {h : Nat → Sx} (w : WQ ad T M R s n h) {Y nb ns : Nat} (g : GS (1000000 * nb + 300000 * Y) Y nb ns s) (hY5 : Y ≤ 500) : fn_X6_count T R (ad 0) (nI 2) M = some (nI ns, M) := by
  obtain ⟨tx, β, σ, hi, G, hs, ct⟩ := w
  have b4 := CG_bs G (show 4 < 5 by omega)
  have tg := CG_tg G (.inr b4)
  have tg0 := tg
  have hM := M_TV hi M (β 4)
  have rt := hs.2.2.1
  have rt0 := rt
  have I := g.1.1
  have hY8 := g.2.2.2.2.1
  have hnb := g.2.2.2.2.2.1
  have hns := g.2.2.2.2.2.2.1
  have n7 := g.2.2.2.2.2.2.2.1
  have n8 := g.2.2.2.2.2.2.2.2.1
  have n9 := g.2.2.2.2.2.2.2.2.2
  have h7 := g.2.1
  have h8 := g.2.2.1
  have h9 := g.2.2.2.1
  have hK : 1000000 * nb + 300000 * Y < 2 ^ 30 := by omega
  have z0 := G.2.2.2.2.1
  have w0 := G.1
  obtain ⟨t1, t04, t05, t06, t40, t41, t42, t43, tl, tb, ts⟩ := rt
  rw [h8] at t04
  rw [h9] at t05
  rw [h7] at t06
  obtain ⟨hq, k0, r00, r01, r02, r03, k1, n1, k2, n2, k3, n3, k4, rb, kb, rl, lg, rs, ks, sl, si⟩ := tg
  have a3 : (nI 0 ≤ nI 2 ∧ nI 2 ≤ nI 14) = True := in_t (by omega) (by omega) (by omega)
  have a4 : (nI 6 ≤ nI 2 ∧ nI 2 ≤ nI 12) = False := in_lo (by omega) (by omega)
  unfold fn_X6_count
  simp (disch := omega) only [↓cal_w6, ↓lm1, l0, l1, l2, l3, l4, l5, l6, l7, l8, l9, l10, l11, l12, l13, l14, l31, l32, l44, l48, l50, l57, l59, l60, l74, l100, l110, l126, l300, l330, l500, l501, l801, l1000, l5000, l5010, l8010, l8192, l9000, l10000, l1000000, and_self, and_true, true_and, and_false, false_and, nI_add, pk_mul, nI_clamp, ↓reduceIte, eF, lT, lF, leT, leF, chk_d, chk_t, chk_inb, rfm_s, bnd_e, cal_e, calR_e, ↓chk_q w0, ↓rfm_q z0, ↓chk_q k0, w0, z0, k0, r00, r01, r02, r03, k1, n1, k2, n2, k3, n3, k4, rb, kb, rl, rs, ks, x6_isWithin, a3, a4, gCC, t05]
theorem r_c3 {ad : Nat → Nat} {T : Ty} {M : Mm} {R : Rm} {s : Sx} {n : Nat} {h : Nat → Sx} (w : WQ ad T M R s n h) {Y nb ns : Nat} (g : GS (1000000 * nb + 300000 * Y) Y nb ns s) (hY5 : Y ≤ 500) : fn_X6_count T R (ad 0) (nI 3) M = some (nI (sm (stN s.1) ns), M) := by
  obtain ⟨tx, β, σ, hi, G, hs, ct⟩ := w
  have b4 := CG_bs G (show 4 < 5 by omega)
  have tg := CG_tg G (.inr b4)
  have tg0 := tg
  have hM := M_TV hi M (β 4)
  have rt := hs.2.2.1
  have rt0 := rt
  have I := g.1.1
  have hY8 := g.2.2.2.2.1
  have hnb := g.2.2.2.2.2.1
  have hns := g.2.2.2.2.2.2.1
  have n7 := g.2.2.2.2.2.2.2.1
  have n8 := g.2.2.2.2.2.2.2.2.1
  have n9 := g.2.2.2.2.2.2.2.2.2
  have h7 := g.2.1
  have h8 := g.2.2.1
  have h9 := g.2.2.2.1
  have hK : 1000000 * nb + 300000 * Y < 2 ^ 30 := by omega
  have z0 := G.2.2.2.2.1
  have w0 := G.1
  obtain ⟨t1, t04, t05, t06, t40, t41, t42, t43, tl, tb, ts⟩ := rt
  rw [h8] at t04
  rw [h9] at t05
  rw [h7] at t06
  obtain ⟨hq, k0, r00, r01, r02, r03, k1, n1, k2, n2, k3, n3, k4, rb, kb, rl, lg, rs, ks, sl, si⟩ := tg
  have a3 : (nI 0 ≤ nI 3 ∧ nI 3 ≤ nI 14) = True := in_t (by omega) (by omega) (by omega)
  have a4 : (nI 6 ≤ nI 3 ∧ nI 3 ≤ nI 12) = False := in_lo (by omega) (by omega)
  have q1 := x5_standing tg0 M g rt0
  rw [hM] at q1
  unfold fn_X6_count
  simp (disch := omega) only [↓cal_w6, ↓lm1, l0, l1, l2, l3, l4, l5, l6, l7, l8, l9, l10, l11, l12, l13, l14, l31, l32, l44, l48, l50, l57, l59, l60, l74, l100, l110, l126, l300, l330, l500, l501, l801, l1000, l5000, l5010, l8010, l8192, l9000, l10000, l1000000, and_self, and_true, true_and, and_false, false_and, nI_add, pk_mul, nI_clamp, ↓reduceIte, eF, lT, lF, leT, leF, chk_d, chk_t, chk_inb, rfm_s, bnd_e, cal_e, calR_e, ↓chk_q w0, ↓rfm_q z0, ↓chk_q k0, w0, z0, k0, r00, r01, r02, r03, k1, n1, k2, n2, k3, n3, k4, rb, kb, rl, rs, ks, x6_isWithin, a3, a4, q1]
theorem r_c4 {ad : Nat → Nat} {T : Ty} {M : Mm} {R : Rm} {s : Sx} {n : Nat} {h : Nat → Sx} (w : WQ ad T M R s n h) {Y nb ns : Nat} (g : GS (1000000 * nb + 300000 * Y) Y nb ns s) (hY5 : Y ≤ 500) : fn_X6_count T R (ad 0) (nI 4) M = some (nI (sm (fun b => sm (cnt (s.2.1 b)) (Y + 1)) nb), M) := by
  obtain ⟨tx, β, σ, hi, G, hs, ct⟩ := w
  have b4 := CG_bs G (show 4 < 5 by omega)
  have tg := CG_tg G (.inr b4)
  have tg0 := tg
  have hM := M_TV hi M (β 4)
  have rt := hs.2.2.1
  have rt0 := rt
  have I := g.1.1
  have hY8 := g.2.2.2.2.1
  have hnb := g.2.2.2.2.2.1
  have hns := g.2.2.2.2.2.2.1
  have n7 := g.2.2.2.2.2.2.2.1
  have n8 := g.2.2.2.2.2.2.2.2.1
  have n9 := g.2.2.2.2.2.2.2.2.2
  have h7 := g.2.1
  have h8 := g.2.2.1
  have h9 := g.2.2.2.1
  have hK : 1000000 * nb + 300000 * Y < 2 ^ 30 := by omega
  have z0 := G.2.2.2.2.1
  have w0 := G.1
  obtain ⟨t1, t04, t05, t06, t40, t41, t42, t43, tl, tb, ts⟩ := rt
  rw [h8] at t04
  rw [h9] at t05
  rw [h7] at t06
  obtain ⟨hq, k0, r00, r01, r02, r03, k1, n1, k2, n2, k3, n3, k4, rb, kb, rl, lg, rs, ks, sl, si⟩ := tg
  have a3 : (nI 0 ≤ nI 4 ∧ nI 4 ≤ nI 14) = True := in_t (by omega) (by omega) (by omega)
  have a4 : (nI 6 ≤ nI 4 ∧ nI 4 ≤ nI 12) = False := in_lo (by omega) (by omega)
  have q1 := x5_layersOfAll tg0 M g (by omega) rt0
  rw [hM] at q1
  unfold fn_X6_count
  simp (disch := omega) only [↓cal_w6, ↓lm1, l0, l1, l2, l3, l4, l5, l6, l7, l8, l9, l10, l11, l12, l13, l14, l31, l32, l44, l48, l50, l57, l59, l60, l74, l100, l110, l126, l300, l330, l500, l501, l801, l1000, l5000, l5010, l8010, l8192, l9000, l10000, l1000000, and_self, and_true, true_and, and_false, false_and, nI_add, pk_mul, nI_clamp, ↓reduceIte, eF, lT, lF, leT, leF, chk_d, chk_t, chk_inb, rfm_s, bnd_e, cal_e, calR_e, ↓chk_q w0, ↓rfm_q z0, ↓chk_q k0, w0, z0, k0, r00, r01, r02, r03, k1, n1, k2, n2, k3, n3, k4, rb, kb, rl, rs, ks, x6_isWithin, a3, a4, q1]
theorem r_c5 {ad : Nat → Nat} {T : Ty} {M : Mm} {R : Rm} {s : Sx} {n : Nat} {h : Nat → Sx} (w : WQ ad T M R s n h) {Y nb ns : Nat} (g : GS (1000000 * nb + 300000 * Y) Y nb ns s) (hY5 : Y ≤ 500) : fn_X6_count T R (ad 0) (nI 5) M = some (nI (sm (cnt (fun y => sm (fun b => s.2.1 b y) nb)) (Y + 1)), M) := by
  obtain ⟨tx, β, σ, hi, G, hs, ct⟩ := w
  have b4 := CG_bs G (show 4 < 5 by omega)
  have tg := CG_tg G (.inr b4)
  have tg0 := tg
  have hM := M_TV hi M (β 4)
  have rt := hs.2.2.1
  have rt0 := rt
  have I := g.1.1
  have hY8 := g.2.2.2.2.1
  have hnb := g.2.2.2.2.2.1
  have hns := g.2.2.2.2.2.2.1
  have n7 := g.2.2.2.2.2.2.2.1
  have n8 := g.2.2.2.2.2.2.2.2.1
  have n9 := g.2.2.2.2.2.2.2.2.2
  have h7 := g.2.1
  have h8 := g.2.2.1
  have h9 := g.2.2.2.1
  have hK : 1000000 * nb + 300000 * Y < 2 ^ 30 := by omega
  have z0 := G.2.2.2.2.1
  have w0 := G.1
  obtain ⟨t1, t04, t05, t06, t40, t41, t42, t43, tl, tb, ts⟩ := rt
  rw [h8] at t04
  rw [h9] at t05
  rw [h7] at t06
  obtain ⟨hq, k0, r00, r01, r02, r03, k1, n1, k2, n2, k3, n3, k4, rb, kb, rl, lg, rs, ks, sl, si⟩ := tg
  have a3 : (nI 0 ≤ nI 5 ∧ nI 5 ≤ nI 14) = True := in_t (by omega) (by omega) (by omega)
  have a4 : (nI 6 ≤ nI 5 ∧ nI 5 ≤ nI 12) = False := in_lo (by omega) (by omega)
  have q1 := x5_differentYears tg0 M g (by omega) rt0
  rw [hM] at q1
  unfold fn_X6_count
  simp (disch := omega) only [↓cal_w6, ↓lm1, l0, l1, l2, l3, l4, l5, l6, l7, l8, l9, l10, l11, l12, l13, l14, l31, l32, l44, l48, l50, l57, l59, l60, l74, l100, l110, l126, l300, l330, l500, l501, l801, l1000, l5000, l5010, l8010, l8192, l9000, l10000, l1000000, and_self, and_true, true_and, and_false, false_and, nI_add, pk_mul, nI_clamp, ↓reduceIte, eF, lT, lF, leT, leF, chk_d, chk_t, chk_inb, rfm_s, bnd_e, cal_e, calR_e, ↓chk_q w0, ↓rfm_q z0, ↓chk_q k0, w0, z0, k0, r00, r01, r02, r03, k1, n1, k2, n2, k3, n3, k4, rb, kb, rl, rs, ks, x6_isWithin, a3, a4, q1]
theorem r_c6 {ad : Nat → Nat} {T : Ty} {M : Mm} {R : Rm} {s : Sx} {n : Nat} {h : Nat → Sx} (w : WQ ad T M R s n h) {Y nb ns : Nat} (g : GS (1000000 * nb + 300000 * Y) Y nb ns s) (hY5 : Y ≤ 500) {j : Nat} (h6 : 6 ≤ j) (h12 : j ≤ 12) : fn_X6_count T R (ad 0) (nI j) M = some (s.1 (j - 6), M) := by
  obtain ⟨tx, β, σ, hi, G, hs, ct⟩ := w
  have b4 := CG_bs G (show 4 < 5 by omega)
  have tg := CG_tg G (.inr b4)
  have tg0 := tg
  have hM := M_TV hi M (β 4)
  have rt := hs.2.2.1
  have rt0 := rt
  have I := g.1.1
  have hY8 := g.2.2.2.2.1
  have hnb := g.2.2.2.2.2.1
  have hns := g.2.2.2.2.2.2.1
  have n7 := g.2.2.2.2.2.2.2.1
  have n8 := g.2.2.2.2.2.2.2.2.1
  have n9 := g.2.2.2.2.2.2.2.2.2
  have h7 := g.2.1
  have h8 := g.2.2.1
  have h9 := g.2.2.2.1
  have hK : 1000000 * nb + 300000 * Y < 2 ^ 30 := by omega
  have z0 := G.2.2.2.2.1
  have w0 := G.1
  obtain ⟨t1, t04, t05, t06, t40, t41, t42, t43, tl, tb, ts⟩ := rt
  rw [h8] at t04
  rw [h9] at t05
  rw [h7] at t06
  obtain ⟨hq, k0, r00, r01, r02, r03, k1, n1, k2, n2, k3, n3, k4, rb, kb, rl, lg, rs, ks, sl, si⟩ := tg
  have a3 : (nI 0 ≤ nI j ∧ nI j ≤ nI 14) = True := in_t (by omega) (by omega) (by omega)
  have a4 : (nI 6 ≤ nI j ∧ nI j ≤ nI 12) = True := in_t (by omega) (by omega) (by omega)
  have q1 := t1 (j - 6) (by omega)
  unfold fn_X6_count
  simp (disch := omega) only [↓cal_w6, ↓lm1, l0, l1, l2, l3, l4, l5, l6, l7, l8, l9, l10, l11, l12, l13, l14, l31, l32, l44, l48, l50, l57, l59, l60, l74, l100, l110, l126, l300, l330, l500, l501, l801, l1000, l5000, l5010, l8010, l8192, l9000, l10000, l1000000, and_self, and_true, true_and, and_false, false_and, nI_add, pk_mul, nI_clamp, ↓reduceIte, eF, lT, lF, leT, leF, chk_d, chk_t, chk_inb, rfm_s, bnd_e, cal_e, calR_e, ↓chk_q w0, ↓rfm_q z0, ↓chk_q k0, w0, z0, k0, r00, r01, r02, r03, k1, n1, k2, n2, k3, n3, k4, rb, kb, rl, rs, ks, x6_isWithin, a3, a4, gCC, nIs, q1]
theorem r_c13 {ad : Nat → Nat} {T : Ty} {M : Mm} {R : Rm} {s : Sx} {n : Nat} {h : Nat → Sx} (w : WQ ad T M R s n h) {Y nb ns : Nat} (g : GS (1000000 * nb + 300000 * Y) Y nb ns s) (hY5 : Y ≤ 500) : fn_X6_count T R (ad 0) (nI 13) M = some (nI n, M) := by
  obtain ⟨tx, β, σ, hi, G, hs, ct⟩ := w
  have b4 := CG_bs G (show 4 < 5 by omega)
  have tg := CG_tg G (.inr b4)
  have tg0 := tg
  have hM := M_TV hi M (β 4)
  have rt := hs.2.2.1
  have rt0 := rt
  have I := g.1.1
  have hY8 := g.2.2.2.2.1
  have hnb := g.2.2.2.2.2.1
  have hns := g.2.2.2.2.2.2.1
  have n7 := g.2.2.2.2.2.2.2.1
  have n8 := g.2.2.2.2.2.2.2.2.1
  have n9 := g.2.2.2.2.2.2.2.2.2
  have h7 := g.2.1
  have h8 := g.2.2.1
  have h9 := g.2.2.2.1
  have hK : 1000000 * nb + 300000 * Y < 2 ^ 30 := by omega
  have z0 := G.2.2.2.2.1
  have w0 := G.1
  obtain ⟨t1, t04, t05, t06, t40, t41, t42, t43, tl, tb, ts⟩ := rt
  rw [h8] at t04
  rw [h9] at t05
  rw [h7] at t06
  obtain ⟨hq, k0, r00, r01, r02, r03, k1, n1, k2, n2, k3, n3, k4, rb, kb, rl, lg, rs, ks, sl, si⟩ := tg
  have hc4 := hs.1
  have a3 : (nI 0 ≤ nI 13 ∧ nI 13 ≤ nI 14) = True := in_t (by omega) (by omega) (by omega)
  have a4 : (nI 6 ≤ nI 13 ∧ nI 13 ≤ nI 12) = False := in_hi (by omega) (by omega)
  unfold fn_X6_count
  simp (disch := omega) only [↓cal_w6, ↓lm1, l0, l1, l2, l3, l4, l5, l6, l7, l8, l9, l10, l11, l12, l13, l14, l31, l32, l44, l48, l50, l57, l59, l60, l74, l100, l110, l126, l300, l330, l500, l501, l801, l1000, l5000, l5010, l8010, l8192, l9000, l10000, l1000000, and_self, and_true, true_and, and_false, false_and, nI_add, pk_mul, nI_clamp, ↓reduceIte, eF, lT, lF, leT, leF, chk_d, chk_t, chk_inb, rfm_s, bnd_e, cal_e, calR_e, ↓chk_q w0, ↓rfm_q z0, ↓chk_q k0, w0, z0, k0, r00, r01, r02, r03, k1, n1, k2, n2, k3, n3, k4, rb, kb, rl, rs, ks, x6_isWithin, a3, a4, hc4]
theorem r_cN {ad : Nat → Nat} {T : Ty} {M : Mm} {R : Rm} : fn_X6_count T R (ad 0) (nI 15) M = some (-2000000001, M) := by
  have a3 : (nI 0 ≤ nI 15 ∧ nI 15 ≤ nI 14) = False := in_f (by omega) (by omega) (.inr (Int32.le_refl _))
  unfold fn_X6_count
  simp (disch := omega) only [↓cal_w6, ↓lm1, l0, l1, l2, l3, l4, l5, l6, l7, l8, l9, l10, l11, l12, l13, l14, l31, l32, l44, l48, l50, l57, l59, l60, l74, l100, l110, l126, l300, l330, l500, l501, l801, l1000, l5000, l5010, l8010, l8192, l9000, l10000, l1000000, and_self, and_true, true_and, and_false, false_and, nI_add, pk_mul, nI_clamp, ↓reduceIte, eF, lT, lF, leT, leF, chk_d, chk_t, chk_inb, rfm_s, bnd_e, cal_e, calR_e, x6_isWithin, a3]
theorem r_s {ad : Nat → Nat} {T : Ty} {M : Mm} {R : Rm} {s : Sx} {n : Nat} {h : Nat → Sx} (w : WQ ad T M R s n h) {Y nb ns : Nat} (g : GS (1000000 * nb + 300000 * Y) Y nb ns s) (hY5 : Y ≤ 500) {i j : Nat} (hi' : i < ns) (hj : j < 6) : fn_X6_stakeInfo T R (ad 0) (nI i) (nI j) M = some (s.1 (74 + 6 * i + j), M) := by
  obtain ⟨tx, β, σ, hi, G, hs, ct⟩ := w
  have b4 := CG_bs G (show 4 < 5 by omega)
  have tg := CG_tg G (.inr b4)
  have tg0 := tg
  have hM := M_TV hi M (β 4)
  have rt := hs.2.2.1
  have rt0 := rt
  have I := g.1.1
  have hY8 := g.2.2.2.2.1
  have hnb := g.2.2.2.2.2.1
  have hns := g.2.2.2.2.2.2.1
  have n7 := g.2.2.2.2.2.2.2.1
  have n8 := g.2.2.2.2.2.2.2.2.1
  have n9 := g.2.2.2.2.2.2.2.2.2
  have h7 := g.2.1
  have h8 := g.2.2.1
  have h9 := g.2.2.2.1
  have hK : 1000000 * nb + 300000 * Y < 2 ^ 30 := by omega
  have z0 := G.2.2.2.2.1
  have w0 := G.1
  obtain ⟨t1, t04, t05, t06, t40, t41, t42, t43, tl, tb, ts⟩ := rt
  rw [h8] at t04
  rw [h9] at t05
  rw [h7] at t06
  obtain ⟨hq, k0, r00, r01, r02, r03, k1, n1, k2, n2, k3, n3, k4, rb, kb, rl, lg, rs, ks, sl, si⟩ := tg
  have a1 := x5_hasStake tg0 M (l := CL ad M (β 4)) t05 (by omega) hi'
  rw [hM] at a1
  have a3 : (nI 0 ≤ nI j ∧ nI j ≤ nI 5) = True := in_t (by omega) (by omega) (by omega)
  have q1 := ts i (by omega)
  have sli := sl i (by omega)
  have kss := ks (σ (β 4) i) sli
  have q1j := q1 j hj
  unfold fn_X6_stakeInfo
  rcases (show j = 0 ∨ j = 1 ∨ j = 2 ∨ j = 3 ∨ j = 4 ∨ j = 5 by omega) with rfl | rfl | rfl | rfl | rfl | rfl <;> simp (disch := omega) only [↓cal_w6, ↓lm1, l0, l1, l2, l3, l4, l5, l6, l7, l8, l9, l10, l11, l12, l13, l14, l31, l32, l44, l48, l50, l57, l59, l60, l74, l100, l110, l126, l300, l330, l500, l501, l801, l1000, l5000, l5010, l8010, l8192, l9000, l10000, l1000000, and_self, and_true, true_and, and_false, false_and, nI_add, pk_mul, nI_clamp, ↓reduceIte, eF, lT, lF, leT, leF, chk_d, chk_t, chk_inb, rfm_s, bnd_e, cal_e, calR_e, ↓chk_q w0, ↓rfm_q z0, ↓chk_q k0, w0, z0, k0, r00, r01, r02, r03, k1, n1, k2, n2, k3, n3, k4, rb, kb, rl, rs, ks, ↓cal_q a1, a1, x6_isWithin, a3, kss, gCC, q1j]
theorem r_sN {ad : Nat → Nat} {T : Ty} {M : Mm} {R : Rm} {s : Sx} {n : Nat} {h : Nat → Sx} (w : WQ ad T M R s n h) {Y nb ns : Nat} (g : GS (1000000 * nb + 300000 * Y) Y nb ns s) (hY5 : Y ≤ 500) (y : Int32) : fn_X6_stakeInfo T R (ad 0) (nI ns) y M = some (-2000000001, M) := by
  obtain ⟨tx, β, σ, hi, G, hs, ct⟩ := w
  have b4 := CG_bs G (show 4 < 5 by omega)
  have tg := CG_tg G (.inr b4)
  have tg0 := tg
  have hM := M_TV hi M (β 4)
  have rt := hs.2.2.1
  have rt0 := rt
  have I := g.1.1
  have hY8 := g.2.2.2.2.1
  have hnb := g.2.2.2.2.2.1
  have hns := g.2.2.2.2.2.2.1
  have n7 := g.2.2.2.2.2.2.2.1
  have n8 := g.2.2.2.2.2.2.2.2.1
  have n9 := g.2.2.2.2.2.2.2.2.2
  have h7 := g.2.1
  have h8 := g.2.2.1
  have h9 := g.2.2.2.1
  have hK : 1000000 * nb + 300000 * Y < 2 ^ 30 := by omega
  have z0 := G.2.2.2.2.1
  have w0 := G.1
  obtain ⟨t1, t04, t05, t06, t40, t41, t42, t43, tl, tb, ts⟩ := rt
  rw [h8] at t04
  rw [h9] at t05
  rw [h7] at t06
  obtain ⟨hq, k0, r00, r01, r02, r03, k1, n1, k2, n2, k3, n3, k4, rb, kb, rl, lg, rs, ks, sl, si⟩ := tg
  have a1 := x5_hasStakeN tg0 M (l := CL ad M (β 4)) t05 (x := nI ns) (.inr (Int32.le_refl _))
  rw [hM] at a1
  unfold fn_X6_stakeInfo
  simp (disch := omega) only [↓cal_w6, ↓lm1, l0, l1, l2, l3, l4, l5, l6, l7, l8, l9, l10, l11, l12, l13, l14, l31, l32, l44, l48, l50, l57, l59, l60, l74, l100, l110, l126, l300, l330, l500, l501, l801, l1000, l5000, l5010, l8010, l8192, l9000, l10000, l1000000, and_self, and_true, true_and, and_false, false_and, nI_add, pk_mul, nI_clamp, ↓reduceIte, eF, lT, lF, leT, leF, chk_d, chk_t, chk_inb, rfm_s, bnd_e, cal_e, calR_e, ↓chk_q w0, ↓rfm_q z0, ↓chk_q k0, w0, z0, k0, r00, r01, r02, r03, k1, n1, k2, n2, k3, n3, k4, rb, kb, rl, rs, ks, ↓cal_q a1, a1]
/-- the bits of the stakes that stand in a band -/
def sbB (m : Nat → Int32) (x : Int32) : Nat → Int32
  | 0 => nI 0
  | k + 1 => if m (74 + 6 * k + 4) = nI 0 ∧ m (74 + 6 * k + 0) = x then sbB m x k ||| ((1 : Int32) <<< (nI k &&& 31)) else sbB m x k
theorem or_0 (x : Int32) : x ||| nI 0 = x := Int32.or_zero
theorem r_si {ad : Nat → Nat} {T : Ty} {M : Mm} {R : Rm} {s : Sx} {n : Nat} {h : Nat → Sx} (w : WQ ad T M R s n h) {Y nb ns : Nat} (g : GS (1000000 * nb + 300000 * Y) Y nb ns s) (hY5 : Y ≤ 500) {b : Nat} (hb : b < nb) : fn_X6_stakesIn T R (ad 0) (nI b) M = some (sbB s.1 (nI b) ns, M) := by
  obtain ⟨tx, β, σ, hi, G, hs, ct⟩ := w
  have b4 := CG_bs G (show 4 < 5 by omega)
  have tg := CG_tg G (.inr b4)
  have tg0 := tg
  have hM := M_TV hi M (β 4)
  have rt := hs.2.2.1
  have rt0 := rt
  have I := g.1.1
  have hY8 := g.2.2.2.2.1
  have hnb := g.2.2.2.2.2.1
  have hns := g.2.2.2.2.2.2.1
  have n7 := g.2.2.2.2.2.2.2.1
  have n8 := g.2.2.2.2.2.2.2.2.1
  have n9 := g.2.2.2.2.2.2.2.2.2
  have h7 := g.2.1
  have h8 := g.2.2.1
  have h9 := g.2.2.2.1
  have hK : 1000000 * nb + 300000 * Y < 2 ^ 30 := by omega
  have z0 := G.2.2.2.2.1
  have w0 := G.1
  obtain ⟨t1, t04, t05, t06, t40, t41, t42, t43, tl, tb, ts⟩ := rt
  rw [h8] at t04
  rw [h9] at t05
  rw [h7] at t06
  obtain ⟨hq, k0, r00, r01, r02, r03, k1, n1, k2, n2, k3, n3, k4, rb, kb, rl, lg, rs, ks, sl, si⟩ := tg
  have a1 := x5_hasBand tg0 M (l := CL ad M (β 4)) t04 hnb hb
  rw [hM] at a1
  have c1 : ∀ d k fuel, k + d = ns → d < fuel → fb_X6_stakesIn_18 T R (ad 0) (nI b) fuel (sbB s.1 (nI b) k) (nI k) M = some (sbB s.1 (nI b) ns, M) := by
    intro d
    induction d with
    | zero =>
      intro k fuel h1 hf
      obtain ⟨n', rfl⟩ : ∃ n', fuel = n' + 1 := ⟨fuel - 1, by omega⟩
      obtain rfl : k = ns := by omega
      rw [fbs_X6_stakesIn_18]
      unfold fs_X6_stakesIn_18
      simp (disch := omega) only [↓cal_w6, ↓lm1, l0, l1, l2, l3, l4, l5, l6, l7, l8, l9, l10, l11, l12, l13, l14, l31, l32, l44, l48, l50, l57, l59, l60, l74, l100, l110, l126, l300, l330, l500, l501, l801, l1000, l5000, l5010, l8010, l8192, l9000, l10000, l1000000, and_self, and_true, true_and, and_false, false_and, nI_add, pk_mul, nI_clamp, ↓reduceIte, eF, lT, lF, leT, leF, chk_d, chk_t, chk_inb, rfm_s, bnd_e, cal_e, calR_e, ↓chk_q w0, ↓rfm_q z0, ↓chk_q k0, w0, z0, k0, r00, r01, r02, r03, k1, n1, k2, n2, k3, n3, k4, rb, kb, rl, rs, ks, gCC, t05]
    | succ d ih =>
      intro k fuel h1 hf
      obtain ⟨n', rfl⟩ : ∃ n', fuel = n' + 1 := ⟨fuel - 1, by omega⟩
      have ih' := ih (k + 1) n' (by omega) (by omega)
      have q4 := ts k (by omega) 4 (by omega)
      have q0 := ts k (by omega) 0 (by omega)
      have slk := sl k (by omega)
      have kss := ks (σ (β 4) k) slk
      rw [← ih', fbs_X6_stakesIn_18]
      unfold fs_X6_stakesIn_18 fs_X6_stakesIn_66
      by_cases e4 : s.1 (74 + 6 * k + 4) = nI 0
      · by_cases e0 : s.1 (74 + 6 * k + 0) = nI b
        · simp (disch := omega) only [↓cal_w6, ↓lm1, l0, l1, l2, l3, l4, l5, l6, l7, l8, l9, l10, l11, l12, l13, l14, l31, l32, l44, l48, l50, l57, l59, l60, l74, l100, l110, l126, l300, l330, l500, l501, l801, l1000, l5000, l5010, l8010, l8192, l9000, l10000, l1000000, and_self, and_true, true_and, and_false, false_and, nI_add, pk_mul, nI_clamp, ↓reduceIte, eF, lT, lF, leT, leF, chk_d, chk_t, chk_inb, rfm_s, bnd_e, cal_e, calR_e, ↓chk_q w0, ↓rfm_q z0, ↓chk_q k0, w0, z0, k0, r00, r01, r02, r03, k1, n1, k2, n2, k3, n3, k4, rb, kb, rl, rs, ks, kss, gCC, t05, q4, q0, e4, e0, sbB]
        · simp (disch := omega) only [↓cal_w6, ↓lm1, l0, l1, l2, l3, l4, l5, l6, l7, l8, l9, l10, l11, l12, l13, l14, l31, l32, l44, l48, l50, l57, l59, l60, l74, l100, l110, l126, l300, l330, l500, l501, l801, l1000, l5000, l5010, l8010, l8192, l9000, l10000, l1000000, and_self, and_true, true_and, and_false, false_and, nI_add, pk_mul, nI_clamp, ↓reduceIte, eF, lT, lF, leT, leF, chk_d, chk_t, chk_inb, rfm_s, bnd_e, cal_e, calR_e, ↓chk_q w0, ↓rfm_q z0, ↓chk_q k0, w0, z0, k0, r00, r01, r02, r03, k1, n1, k2, n2, k3, n3, k4, rb, kb, rl, rs, ks, kss, gCC, t05, q4, q0, e4, e0, sbB]
      · simp (disch := omega) only [↓cal_w6, ↓lm1, l0, l1, l2, l3, l4, l5, l6, l7, l8, l9, l10, l11, l12, l13, l14, l31, l32, l44, l48, l50, l57, l59, l60, l74, l100, l110, l126, l300, l330, l500, l501, l801, l1000, l5000, l5010, l8010, l8192, l9000, l10000, l1000000, and_self, and_true, true_and, and_false, false_and, nI_add, pk_mul, nI_clamp, ↓reduceIte, eF, lT, lF, leT, leF, chk_d, chk_t, chk_inb, rfm_s, bnd_e, cal_e, calR_e, ↓chk_q w0, ↓rfm_q z0, ↓chk_q k0, w0, z0, k0, r00, r01, r02, r03, k1, n1, k2, n2, k3, n3, k4, rb, kb, rl, rs, ks, kss, gCC, t05, q4, q0, e4, sbB]
  have d1 := c1 ns 0 FU (by omega) (FU_gt (by omega))
  have e0 : sbB s.1 (nI b) 0 = nI 0 := rfl
  rw [e0] at d1
  unfold fn_X6_stakesIn
  simp (disch := omega) only [↓cal_w6, ↓lm1, l0, l1, l2, l3, l4, l5, l6, l7, l8, l9, l10, l11, l12, l13, l14, l31, l32, l44, l48, l50, l57, l59, l60, l74, l100, l110, l126, l300, l330, l500, l501, l801, l1000, l5000, l5010, l8010, l8192, l9000, l10000, l1000000, and_self, and_true, true_and, and_false, false_and, nI_add, pk_mul, nI_clamp, ↓reduceIte, eF, lT, lF, leT, leF, chk_d, chk_t, chk_inb, rfm_s, bnd_e, cal_e, calR_e, ↓chk_q w0, ↓rfm_q z0, ↓chk_q k0, w0, z0, k0, r00, r01, r02, r03, k1, n1, k2, n2, k3, n3, k4, rb, kb, rl, rs, ks, ↓cal_q a1, a1, d1]
theorem r_siN {ad : Nat → Nat} {T : Ty} {M : Mm} {R : Rm} {s : Sx} {n : Nat} {h : Nat → Sx} (w : WQ ad T M R s n h) {Y nb ns : Nat} (g : GS (1000000 * nb + 300000 * Y) Y nb ns s) (hY5 : Y ≤ 500) : fn_X6_stakesIn T R (ad 0) nONE M = some (-2000000001, M) := by
  obtain ⟨tx, β, σ, hi, G, hs, ct⟩ := w
  have b4 := CG_bs G (show 4 < 5 by omega)
  have tg := CG_tg G (.inr b4)
  have tg0 := tg
  have hM := M_TV hi M (β 4)
  have rt := hs.2.2.1
  have rt0 := rt
  have I := g.1.1
  have hY8 := g.2.2.2.2.1
  have hnb := g.2.2.2.2.2.1
  have hns := g.2.2.2.2.2.2.1
  have n7 := g.2.2.2.2.2.2.2.1
  have n8 := g.2.2.2.2.2.2.2.2.1
  have n9 := g.2.2.2.2.2.2.2.2.2
  have h7 := g.2.1
  have h8 := g.2.2.1
  have h9 := g.2.2.2.1
  have hK : 1000000 * nb + 300000 * Y < 2 ^ 30 := by omega
  have z0 := G.2.2.2.2.1
  have w0 := G.1
  obtain ⟨t1, t04, t05, t06, t40, t41, t42, t43, tl, tb, ts⟩ := rt
  rw [h8] at t04
  rw [h9] at t05
  rw [h7] at t06
  obtain ⟨hq, k0, r00, r01, r02, r03, k1, n1, k2, n2, k3, n3, k4, rb, kb, rl, lg, rs, ks, sl, si⟩ := tg
  have a1 := x5_hasBandN tg0 M (l := CL ad M (β 4)) t04 (x := nONE) (.inl (by decide))
  rw [hM] at a1
  unfold fn_X6_stakesIn
  simp (disch := omega) only [↓cal_w6, ↓lm1, l0, l1, l2, l3, l4, l5, l6, l7, l8, l9, l10, l11, l12, l13, l14, l31, l32, l44, l48, l50, l57, l59, l60, l74, l100, l110, l126, l300, l330, l500, l501, l801, l1000, l5000, l5010, l8010, l8192, l9000, l10000, l1000000, and_self, and_true, true_and, and_false, false_and, nI_add, pk_mul, nI_clamp, ↓reduceIte, eF, lT, lF, leT, leF, chk_d, chk_t, chk_inb, rfm_s, bnd_e, cal_e, calR_e, ↓chk_q w0, ↓rfm_q z0, ↓chk_q k0, w0, z0, k0, r00, r01, r02, r03, k1, n1, k2, n2, k3, n3, k4, rb, kb, rl, rs, ks, ↓cal_q a1, a1]
