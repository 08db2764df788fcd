/-! what the class's tongue answers -/
theorem GS_z {K Y nb ns : Nat} {s : Sx} (g : GS K Y nb ns s) {b y : Nat} (hb : b < nb) (hy : Y < y) : s.2.1 b y = 0 := g.1.2.2.1 b y (by rw [g.2.2.2.2.2.2.2.2.1]; exact hb) (by rw [g.2.2.2.2.2.2.2.1]; exact hy)
theorem GS_801 {K Y nb ns : Nat} {s : Sx} (g : GS K Y nb ns s) {b : Nat} (hb : b < nb) : sm (s.2.1 b) 801 = sm (s.2.1 b) (Y + 1) := sm_tail (by have := g.2.2.2.2.1; omega) (fun _ h _ => GS_z g hb (by omega))
theorem GS_c801 {K Y nb ns : Nat} {s : Sx} (g : GS K Y nb ns s) {b : Nat} (hb : b < nb) : sm (cnt (s.2.1 b)) 801 = sm (cnt (s.2.1 b)) (Y + 1) := sm_tail (by have := g.2.2.2.2.1; omega) (fun _ h _ => cnt_z (GS_z g hb (by omega)))
theorem GS_tot {K Y nb ns : Nat} {s : Sx} (g : GS K Y nb ns s) : ∃ F, s.1 10 = nI F ∧ F + tot s.2.1 Y nb ≤ K := by
  obtain ⟨⟨I, ⟨F, P, r, a1, a2, a3, a4, a5, a6, a7⟩, z, q⟩, h7, h8, h9, hY, hnb, hns, n7, n8, n9⟩ := g
  rw [n7, n8] at a5
  exact ⟨F, a1, by omega⟩
theorem GS_row {K Y nb ns : Nat} {s : Sx} (g : GS K Y nb ns s) {b : Nat} (hb : b < nb) : sm (s.2.1 b) 801 ≤ K := by
  obtain ⟨F, -, h⟩ := GS_tot g
  have := tot_ge s.2.1 (Y := Y) hb
  rw [GS_801 g hb]
  omega
theorem sm_swap (f : Nat → Nat → Nat) (n m : Nat) : sm (fun b => sm (f b) m) n = sm (fun y => sm (fun b => f b y) n) m := by
  induction n with
  | zero =>
    rw [sm_0]
    exact (sm_z (fun _ _ => rfl)).symm
  | succ n ih =>
    rw [sm_s, ih]
    have e : (fun y => sm (fun b => f b y) (n + 1)) = (fun y => sm (fun b => f b y) n + f n y) := rfl
    rw [e, sm_add]
theorem GS_col {K Y nb ns : Nat} {s : Sx} (g : GS K Y nb ns s) {y : Nat} : sm (fun b => s.2.1 b y) nb ≤ K := by
  obtain ⟨F, -, h⟩ := GS_tot g
  by_cases hy : y < Y + 1
  · have h1 := sm_le1 (fun y => sm (fun b => s.2.1 b y) nb) hy
    have h2 := sm_swap s.2.1 nb (Y + 1)
    unfold tot at h
    have h3 : (fun y => sm (fun b => s.2.1 b y) nb) y = sm (fun b => s.2.1 b y) nb := rfl
    omega
  · rw [sm_z (fun b hb => GS_z g hb (by omega))]
    omega
theorem x5_hasBand {T : Ty} {R : Rm} {q σ : Nat → Nat} (G : TG T R q σ) (M : Mm) {c : Nat → Nat → Int32} {l : Nat → Int64} {nb : Nat} (h4 : c 0 4 = nI nb) (hnb : nb ≤ 10) {b : Nat} (hb : b < nb) : fn_X5_hasBand T R (q 0) (nI b) (TV q M c l) = some (nI 1, TV q M c l) := by
  obtain ⟨hq, k0, r00, r01, r02, r03, k1, n1, k2, n2, k3, n3, k4, rb, kb, rl, lg, rs, ks, sl, si⟩ := G
  have h0 : ¬ nI b < nI 0 := nI_pos (by omega)
  unfold fn_X5_hasBand
  simp (disch := omega) only [↓lm1, l0, l1, l2, l3, l4, l5, l6, l7, l8, l9, l10, l11, l12, l13, l14, l31, l32, l44, l48, l50, l57, l59, l60, l74, l100, l110, l126, l300, l330, l500, l501, l801, l1000, l5000, l5010, l8010, l8192, l9000, l10000, l1000000, nI_add, pk_mul, nI_clamp, nI_leI, nI_ltI, nI_eq, chk_d, chk_t, chk_inb, rfm_s, bnd_e, cal_e, calR_e, if_pos, if_neg, k0, TV_g hq, h4, h0, if_false]
theorem x5_hasBandN {T : Ty} {R : Rm} {q σ : Nat → Nat} (G : TG T R q σ) (M : Mm) {c : Nat → Nat → Int32} {l : Nat → Int64} {nb : Nat} (h4 : c 0 4 = nI nb) {x : Int32} (hx : x < 0 ∨ nI nb ≤ x) : fn_X5_hasBand T R (q 0) x (TV q M c l) = some (nI 0, TV q M c l) := by
  obtain ⟨hq, k0, r00, r01, r02, r03, k1, n1, k2, n2, k3, n3, k4, rb, kb, rl, lg, rs, ks, sl, si⟩ := G
  unfold fn_X5_hasBand
  by_cases h0 : x < 0
  · rw [if_pos h0]
    rfl
  · rw [if_neg h0]
    have h1 : nI nb ≤ x := hx.resolve_left h0
    simp (disch := omega) only [↓lm1, l0, l1, l2, l3, l4, l5, l6, l7, l8, l9, l10, l11, l12, l13, l14, l31, l32, l44, l48, l50, l57, l59, l60, l74, l100, l110, l126, l300, l330, l500, l501, l801, l1000, l5000, l5010, l8010, l8192, l9000, l10000, l1000000, chk_d, chk_t, chk_inb, rfm_s, bnd_e, cal_e, calR_e, if_pos, if_neg, k0, TV_g hq, h4, h1, if_true]
theorem x5_hasStake {T : Ty} {R : Rm} {q σ : Nat → Nat} (G : TG T R q σ) (M : Mm) {c : Nat → Nat → Int32} {l : Nat → Int64} {nb : Nat} (h4 : c 0 5 = nI nb) (hnb : nb ≤ 10) {b : Nat} (hb : b < nb) : fn_X5_hasStake T R (q 0) (nI b) (TV q M c l) = some (nI 1, TV q M c l) := by
  obtain ⟨hq, k0, r00, r01, r02, r03, k1, n1, k2, n2, k3, n3, k4, rb, kb, rl, lg, rs, ks, sl, si⟩ := G
  have h0 : ¬ nI b < nI 0 := nI_pos (by omega)
  unfold fn_X5_hasStake
  simp (disch := omega) only [↓lm1, l0, l1, l2, l3, l4, l5, l6, l7, l8, l9, l10, l11, l12, l13, l14, l31, l32, l44, l48, l50, l57, l59, l60, l74, l100, l110, l126, l300, l330, l500, l501, l801, l1000, l5000, l5010, l8010, l8192, l9000, l10000, l1000000, nI_add, pk_mul, nI_clamp, nI_leI, nI_ltI, nI_eq, chk_d, chk_t, chk_inb, rfm_s, bnd_e, cal_e, calR_e, if_pos, if_neg, k0, TV_g hq, h4, h0, if_false]
theorem x5_hasStakeN {T : Ty} {R : Rm} {q σ : Nat → Nat} (G : TG T R q σ) (M : Mm) {c : Nat → Nat → Int32} {l : Nat → Int64} {nb : Nat} (h4 : c 0 5 = nI nb) {x : Int32} (hx : x < 0 ∨ nI nb ≤ x) : fn_X5_hasStake T R (q 0) x (TV q M c l) = some (nI 0, TV q M c l) := by
  obtain ⟨hq, k0, r00, r01, r02, r03, k1, n1, k2, n2, k3, n3, k4, rb, kb, rl, lg, rs, ks, sl, si⟩ := G
  unfold fn_X5_hasStake
  by_cases h0 : x < 0
  · rw [if_pos h0]
    rfl
  · rw [if_neg h0]
    have h1 : nI nb ≤ x := hx.resolve_left h0
    simp (disch := omega) only [↓lm1, l0, l1, l2, l3, l4, l5, l6, l7, l8, l9, l10, l11, l12, l13, l14, l31, l32, l44, l48, l50, l57, l59, l60, l74, l100, l110, l126, l300, l330, l500, l501, l801, l1000, l5000, l5010, l8010, l8192, l9000, l10000, l1000000, chk_d, chk_t, chk_inb, rfm_s, bnd_e, cal_e, calR_e, if_pos, if_neg, k0, TV_g hq, h4, h1, if_true]
theorem x5_leftOf {T : Ty} {R : Rm} {q σ : Nat → Nat} (G : TG T R q σ) (M : Mm) {c : Nat → Nat → Int32} {l : Nat → Int64} {s : Sx} {K Y nb ns : Nat} (g : GS K Y nb ns s) (rt : RT QT σ c l s) {y : Nat} (hy : y < 801) : fn_X5_leftOf T R (q 0) (nI y) (TV q M c l) = some (nI (sm (fun b => s.2.1 b y) nb), TV q M c l) := by
  have hnb := g.2.2.2.2.2.1
  have n8 := g.2.2.2.2.2.2.2.2.1
  obtain ⟨t1, t04, t05, t06, t40, t41, t42, t43, tl, tb, ts⟩ := rt
  rw [g.2.2.1] at t04
  obtain ⟨hq, k0, r00, r01, r02, r03, k1, n1, k2, n2, k3, n3, k4, rb, kb, rl, lg, rs, ks, sl, si⟩ := G
  have e1 := fun b (h : b < 10) => x2_leftOf hq (lg b h) M (c := c) l hy
  have e2 := fun b (h : b < nb) => LY_row (tb b (by omega)).2.2 y hy
  have e3 := fun b (h : b < 10) => (lg b h).1
  unfold fn_X5_leftOf fb_X5_leftOf_4
  simp only [l0]
  refine lp_acc (hi := nb) (g := fun b => s.2.1 b y) ?_ ?_ FU (FU_gt (by omega))
  · intro j s i hi
    unfold fs_X5_leftOf_4
    simp (disch := omega) only [↓lm1, l0, l1, l2, l3, l4, l5, l6, l7, l8, l9, l10, l11, l12, l13, l14, l31, l32, l44, l48, l50, l57, l59, l60, l74, l100, l110, l126, l300, l330, l500, l501, l801, l1000, l5000, l5010, l8010, l8192, l9000, l10000, l1000000, nI_add, pk_mul, nI_clamp, nI_leI, nI_ltI, nI_eq, chk_d, chk_t, chk_inb, rfm_s, bnd_e, cal_e, calR_e, if_pos, if_neg, k0, r00, r01, r02, r03, k1, n1, k2, n2, k3, n3, k4, rb, kb, rl, rs, ks, TV_g hq, t04, e1, e2, e3]
  · intro j s
    unfold fs_X5_leftOf_4
    simp (disch := omega) only [↓lm1, l0, l1, l2, l3, l4, l5, l6, l7, l8, l9, l10, l11, l12, l13, l14, l31, l32, l44, l48, l50, l57, l59, l60, l74, l100, l110, l126, l300, l330, l500, l501, l801, l1000, l5000, l5010, l8010, l8192, l9000, l10000, l1000000, nI_add, pk_mul, nI_clamp, nI_leI, nI_ltI, nI_eq, chk_d, chk_t, chk_inb, rfm_s, bnd_e, cal_e, calR_e, if_pos, if_neg, k0, r00, r01, r02, r03, k1, n1, k2, n2, k3, n3, k4, rb, kb, rl, rs, ks, TV_g hq, t04]
theorem x5_bandIce {T : Ty} {R : Rm} {q σ : Nat → Nat} (G : TG T R q σ) (M : Mm) {c : Nat → Nat → Int32} {l : Nat → Int64} {s : Sx} {K Y nb ns : Nat} (g : GS K Y nb ns s) (rt : RT QT σ c l s) : fn_X5_bandIce T R (q 0) (TV q M c l) = some (nI (tot s.2.1 Y nb), TV q M c l) := by
  have hnb := g.2.2.2.2.2.1
  have n8 := g.2.2.2.2.2.2.2.2.1
  obtain ⟨t1, t04, t05, t06, t40, t41, t42, t43, tl, tb, ts⟩ := rt
  rw [g.2.2.1] at t04
  obtain ⟨hq, k0, r00, r01, r02, r03, k1, n1, k2, n2, k3, n3, k4, rb, kb, rl, lg, rs, ks, sl, si⟩ := G
  have e2 := fun b (h : b < nb) => (LY_ice (tb b (by omega)).2.2).trans (congrArg nI (GS_801 g h))
  have e3 := fun b (h : b < 10) => (lg b h).1
  unfold fn_X5_bandIce fb_X5_bandIce_4
  simp only [l0]
  refine lp_acc (hi := nb) (g := fun b => sm (s.2.1 b) (Y + 1)) ?_ ?_ FU (FU_gt (by omega))
  · intro j s i hi
    unfold fs_X5_bandIce_4
    simp (disch := omega) only [↓lm1, l0, l1, l2, l3, l4, l5, l6, l7, l8, l9, l10, l11, l12, l13, l14, l31, l32, l44, l48, l50, l57, l59, l60, l74, l100, l110, l126, l300, l330, l500, l501, l801, l1000, l5000, l5010, l8010, l8192, l9000, l10000, l1000000, nI_add, pk_mul, nI_clamp, nI_leI, nI_ltI, nI_eq, chk_d, chk_t, chk_inb, rfm_s, bnd_e, cal_e, calR_e, if_pos, if_neg, k0, r00, r01, r02, r03, k1, n1, k2, n2, k3, n3, k4, rb, kb, rl, rs, ks, TV_g hq, t04, e2, e3]
  · intro j s
    unfold fs_X5_bandIce_4
    simp (disch := omega) only [↓lm1, l0, l1, l2, l3, l4, l5, l6, l7, l8, l9, l10, l11, l12, l13, l14, l31, l32, l44, l48, l50, l57, l59, l60, l74, l100, l110, l126, l300, l330, l500, l501, l801, l1000, l5000, l5010, l8010, l8192, l9000, l10000, l1000000, nI_add, pk_mul, nI_clamp, nI_leI, nI_ltI, nI_eq, chk_d, chk_t, chk_inb, rfm_s, bnd_e, cal_e, calR_e, if_pos, if_neg, k0, r00, r01, r02, r03, k1, n1, k2, n2, k3, n3, k4, rb, kb, rl, rs, ks, TV_g hq, t04]
theorem x5_standing {T : Ty} {R : Rm} {q σ : Nat → Nat} (G : TG T R q σ) (M : Mm) {c : Nat → Nat → Int32} {l : Nat → Int64} {s : Sx} {K Y nb ns : Nat} (g : GS K Y nb ns s) (rt : RT QT σ c l s) : fn_X5_standingStakes T R (q 0) (TV q M c l) = some (nI (sm (stN s.1) ns), TV q M c l) := by
  have hns := g.2.2.2.2.2.2.1
  have n9 := g.2.2.2.2.2.2.2.2.2
  obtain ⟨t1, t04, t05, t06, t40, t41, t42, t43, tl, tb, ts⟩ := rt
  rw [g.2.2.2.1] at t05
  obtain ⟨hq, k0, r00, r01, r02, r03, k1, n1, k2, n2, k3, n3, k4, rb, kb, rl, lg, rs, ks, sl, si⟩ := G
  have e2 := fun i (h : i < ns) => ts i (by omega) 4 (by omega)
  unfold fn_X5_standingStakes fb_X5_standingStakes_4
  simp only [l0]
  refine lp_acc (hi := ns) (g := stN s.1) ?_ ?_ FU (FU_gt (by omega))
  · intro j a i hi
    have kss := ks (σ i) (sl i (by omega))
    have sli := sl i (by omega)
    unfold fs_X5_standingStakes_4 fs_X5_standingStakes_27 stN
    by_cases h0 : s.1 (74 + 6 * i + 4) = 0
    · simp (disch := omega) only [↓lm1, l0, l1, l2, l3, l4, l5, l6, l7, l8, l9, l10, l11, l12, l13, l14, l31, l32, l44, l48, l50, l57, l59, l60, l74, l100, l110, l126, l300, l330, l500, l501, l801, l1000, l5000, l5010, l8010, l8192, l9000, l10000, l1000000, nI_add, pk_mul, nI_clamp, nI_leI, nI_ltI, nI_eq, chk_d, chk_t, chk_inb, rfm_s, bnd_e, cal_e, calR_e, if_pos, if_neg, k0, r00, r01, r02, r03, k1, n1, k2, n2, k3, n3, k4, rb, kb, rl, rs, ks, TV_g hq, t05, kss, e2, h0, if_true]
    · have h0' : ¬ s.1 (74 + 6 * i + 4) = nI 0 := h0
      simp (disch := omega) only [↓lm1, l0, l1, l2, l3, l4, l5, l6, l7, l8, l9, l10, l11, l12, l13, l14, l31, l32, l44, l48, l50, l57, l59, l60, l74, l100, l110, l126, l300, l330, l500, l501, l801, l1000, l5000, l5010, l8010, l8192, l9000, l10000, l1000000, nI_add, pk_mul, nI_clamp, nI_leI, nI_ltI, nI_eq, chk_d, chk_t, chk_inb, rfm_s, bnd_e, cal_e, calR_e, if_pos, if_neg, k0, r00, r01, r02, r03, k1, n1, k2, n2, k3, n3, k4, rb, kb, rl, rs, ks, TV_g hq, t05, kss, e2, h0', if_false, Nat.add_zero]
  · intro j s
    unfold fs_X5_standingStakes_4
    simp (disch := omega) only [↓lm1, l0, l1, l2, l3, l4, l5, l6, l7, l8, l9, l10, l11, l12, l13, l14, l31, l32, l44, l48, l50, l57, l59, l60, l74, l100, l110, l126, l300, l330, l500, l501, l801, l1000, l5000, l5010, l8010, l8192, l9000, l10000, l1000000, nI_add, pk_mul, nI_clamp, nI_leI, nI_ltI, nI_eq, chk_d, chk_t, chk_inb, rfm_s, bnd_e, cal_e, calR_e, if_pos, if_neg, k0, r00, r01, r02, r03, k1, n1, k2, n2, k3, n3, k4, rb, kb, rl, rs, ks, TV_g hq, t05]
theorem x5_layersOfAll {T : Ty} {R : Rm} {q σ : Nat → Nat} (G : TG T R q σ) (M : Mm) {c : Nat → Nat → Int32} {l : Nat → Int64} {s : Sx} {K Y nb ns : Nat} (g : GS K Y nb ns s) (hK : K < 2 ^ 30) (rt : RT QT σ c l s) : fn_X5_layersOfAllBands T R (q 0) (TV q M c l) = some (nI (sm (fun b => sm (cnt (s.2.1 b)) (Y + 1)) nb), TV q M c l) := by
  have hnb := g.2.2.2.2.2.1
  have n8 := g.2.2.2.2.2.2.2.2.1
  obtain ⟨t1, t04, t05, t06, t40, t41, t42, t43, tl, tb, ts⟩ := rt
  rw [g.2.2.1] at t04
  obtain ⟨hq, k0, r00, r01, r02, r03, k1, n1, k2, n2, k3, n3, k4, rb, kb, rl, lg, rs, ks, sl, si⟩ := G
  have e2 := fun b (h : b < nb) => x2_number hq (lg b (by omega)) M l (tb b (by omega)).2.2 (Nat.lt_of_le_of_lt (GS_row g h) (by omega))
  have e3 := fun b (h : b < 10) => (lg b h).1
  unfold fn_X5_layersOfAllBands fb_X5_layersOfAllBands_4
  simp only [l0]
  refine lp_acc (hi := nb) (g := fun b => sm (cnt (s.2.1 b)) (Y + 1)) ?_ ?_ FU (FU_gt (by omega))
  · intro j a i hi
    have e4 := e2 i hi
    rw [GS_c801 g hi] at e4
    unfold fs_X5_layersOfAllBands_4
    simp (disch := omega) only [↓lm1, l0, l1, l2, l3, l4, l5, l6, l7, l8, l9, l10, l11, l12, l13, l14, l31, l32, l44, l48, l50, l57, l59, l60, l74, l100, l110, l126, l300, l330, l500, l501, l801, l1000, l5000, l5010, l8010, l8192, l9000, l10000, l1000000, nI_add, pk_mul, nI_clamp, nI_leI, nI_ltI, nI_eq, chk_d, chk_t, chk_inb, rfm_s, bnd_e, cal_e, calR_e, if_pos, if_neg, k0, r00, r01, r02, r03, k1, n1, k2, n2, k3, n3, k4, rb, kb, rl, rs, ks, TV_g hq, t04, e4, e3]
  · intro j s
    unfold fs_X5_layersOfAllBands_4
    simp (disch := omega) only [↓lm1, l0, l1, l2, l3, l4, l5, l6, l7, l8, l9, l10, l11, l12, l13, l14, l31, l32, l44, l48, l50, l57, l59, l60, l74, l100, l110, l126, l300, l330, l500, l501, l801, l1000, l5000, l5010, l8010, l8192, l9000, l10000, l1000000, nI_add, pk_mul, nI_clamp, nI_leI, nI_ltI, nI_eq, chk_d, chk_t, chk_inb, rfm_s, bnd_e, cal_e, calR_e, if_pos, if_neg, k0, r00, r01, r02, r03, k1, n1, k2, n2, k3, n3, k4, rb, kb, rl, rs, ks, TV_g hq, t04]
theorem x5_differentYears {T : Ty} {R : Rm} {q σ : Nat → Nat} (G : TG T R q σ) (M : Mm) {c : Nat → Nat → Int32} {l : Nat → Int64} {s : Sx} {K Y nb ns : Nat} (g : GS K Y nb ns s) (hK : K < 2 ^ 30) (rt : RT QT σ c l s) : fn_X5_differentYears T R (q 0) (TV q M c l) = some (nI (sm (cnt (fun y => sm (fun b => s.2.1 b y) nb)) (Y + 1)), TV q M c l) := by
  have G0 := G
  have rt0 := rt
  have hY := g.2.2.2.2.1
  obtain ⟨t1, t04, t05, t06, t40, t41, t42, t43, tl, tb, ts⟩ := rt
  rw [g.2.1] at t06
  obtain ⟨hq, k0, r00, r01, r02, r03, k1, n1, k2, n2, k3, n3, k4, rb, kb, rl, lg, rs, ks, sl, si⟩ := G
  have e2 := fun y (h : y < 801) => x5_leftOf G0 M g rt0 h
  unfold fn_X5_differentYears fb_X5_differentYears_4
  simp only [l0]
  refine lp_acc (hi := Y + 1) (g := cnt (fun y => sm (fun b => s.2.1 b y) nb)) ?_ ?_ FU (FU_gt (by omega))
  · intro j a i hi
    have e3 : sm (fun b => s.2.1 b i) nb < 2 ^ 31 := Nat.lt_of_le_of_lt (GS_col g) (by omega)
    unfold fs_X5_differentYears_4 fs_X5_differentYears_23 cnt
    by_cases h0 : 0 < sm (fun b => s.2.1 b i) nb
    · simp (disch := omega) only [↓lm1, l0, l1, l2, l3, l4, l5, l6, l7, l8, l9, l10, l11, l12, l13, l14, l31, l32, l44, l48, l50, l57, l59, l60, l74, l100, l110, l126, l300, l330, l500, l501, l801, l1000, l5000, l5010, l8010, l8192, l9000, l10000, l1000000, nI_add, pk_mul, nI_clamp, nI_leI, nI_ltI, nI_eq, chk_d, chk_t, chk_inb, rfm_s, bnd_e, cal_e, calR_e, if_pos, if_neg, k0, r00, r01, r02, r03, k1, n1, k2, n2, k3, n3, k4, rb, kb, rl, rs, ks, TV_g hq, t06, e2]
    · simp (disch := omega) only [↓lm1, l0, l1, l2, l3, l4, l5, l6, l7, l8, l9, l10, l11, l12, l13, l14, l31, l32, l44, l48, l50, l57, l59, l60, l74, l100, l110, l126, l300, l330, l500, l501, l801, l1000, l5000, l5010, l8010, l8192, l9000, l10000, l1000000, nI_add, pk_mul, nI_clamp, nI_leI, nI_ltI, nI_eq, chk_d, chk_t, chk_inb, rfm_s, bnd_e, cal_e, calR_e, if_pos, if_neg, k0, r00, r01, r02, r03, k1, n1, k2, n2, k3, n3, k4, rb, kb, rl, rs, ks, TV_g hq, t06, e2, Nat.add_zero]
  · intro j s
    unfold fs_X5_differentYears_4
    simp (disch := omega) only [↓lm1, l0, l1, l2, l3, l4, l5, l6, l7, l8, l9, l10, l11, l12, l13, l14, l31, l32, l44, l48, l50, l57, l59, l60, l74, l100, l110, l126, l300, l330, l500, l501, l801, l1000, l5000, l5010, l8010, l8192, l9000, l10000, l1000000, nI_add, pk_mul, nI_clamp, nI_leI, nI_ltI, nI_eq, chk_d, chk_t, chk_inb, rfm_s, bnd_e, cal_e, calR_e, if_pos, if_neg, k0, r00, r01, r02, r03, k1, n1, k2, n2, k3, n3, k4, rb, kb, rl, rs, ks, TV_g hq, t06]
theorem l64_add {a b : Nat} (h : a + b < 2 ^ 31) : (nI a).toInt64 + (nI b).toInt64 = (nI a + nI b).toInt64 := by
  apply Int64.toInt_inj.mp
  rw [nI_add, Int64.toInt_add, Int32.toInt_toInt64, Int32.toInt_toInt64, Int32.toInt_toInt64, nI_toInt (by omega), nI_toInt (by omega), nI_toInt h, bm64 (by omega) (by omega)]
  omega
theorem x5_allIce {T : Ty} {R : Rm} {q σ : Nat → Nat} (G : TG T R q σ) (M : Mm) {c : Nat → Nat → Int32} {l : Nat → Int64} {s : Sx} {K Y nb ns : Nat} (g : GS K Y nb ns s) (hK : K < 2 ^ 30) (rt : RT QT σ c l s) : fn_X5_allIce T R (q 0) (TV q M c l) = some ((s.1 10 + nI (tot s.2.1 Y nb)).toInt64, TV q M c l) := by
  obtain ⟨F, hF, hle⟩ := GS_tot g
  have e1 := x5_bandIce G M g rt
  have t40 := rt.2.2.2.2.1
  obtain ⟨hq, k0, r00, r01, r02, r03, k1, n1, k2, n2, k3, n3, k4, rb, kb, rl, lg, rs, ks, sl, si⟩ := G
  unfold fn_X5_allIce
  simp (disch := omega) only [chk_d, chk_t, chk_inb, rfm_s, bnd_e, cal_e, calR_e, if_pos, if_neg, k0, r00, r01, r02, r03, k1, n1, k2, n2, k3, n3, k4, rb, kb, rl, rs, ks, TV_g hq, e1, t40, hF]
  rw [l64_add (by omega), nI_add, nI_add, Nat.add_comm]
theorem x5_allIceByYears {T : Ty} {R : Rm} {q σ : Nat → Nat} (G : TG T R q σ) (M : Mm) {c : Nat → Nat → Int32} {l : Nat → Int64} {s : Sx} {K Y nb ns : Nat} (g : GS K Y nb ns s) (hK : K < 2 ^ 30) (rt : RT QT σ c l s) : fn_X5_allIceByYears T R (q 0) (TV q M c l) = some ((s.1 10 + nI (tot s.2.1 Y nb)).toInt64, TV q M c l) := by
  have G0 := G
  have rt0 := rt
  have hY := g.2.2.2.2.1
  obtain ⟨F, hF, hle⟩ := GS_tot g
  obtain ⟨t1, t04, t05, t06, t40, t41, t42, t43, tl, tb, ts⟩ := rt
  rw [g.2.1] at t06
  rw [hF] at t40
  obtain ⟨hq, k0, r00, r01, r02, r03, k1, n1, k2, n2, k3, n3, k4, rb, kb, rl, lg, rs, ks, sl, si⟩ := G
  have hsw := sm_swap s.2.1 nb (Y + 1)
  have e2 := fun y (h : y < 801) => x5_leftOf G0 M g rt0 h
  have key : ∀ d y fuel, y + d = Y + 1 → d < fuel → fb_X5_allIceByYears_11 T R (q 0) fuel (nI (F + sm (fun y => sm (fun b => s.2.1 b y) nb) y)).toInt64 (nI y) (TV q M c l) = some ((nI F + nI (tot s.2.1 Y nb)).toInt64, TV q M c l) := by
    intro d
    induction d with
    | zero =>
      intro y fuel h1 h2
      obtain ⟨n, rfl⟩ : ∃ n', fuel = n' + 1 := ⟨fuel - 1, by omega⟩
      have e : y = Y + 1 := by omega
      subst e
      rw [fbs_X5_allIceByYears_11]
      unfold fs_X5_allIceByYears_11
      simp (disch := omega) only [↓lm1, l0, l1, l2, l3, l4, l5, l6, l7, l8, l9, l10, l11, l12, l13, l14, l31, l32, l44, l48, l50, l57, l59, l60, l74, l100, l110, l126, l300, l330, l500, l501, l801, l1000, l5000, l5010, l8010, l8192, l9000, l10000, l1000000, nI_add, pk_mul, nI_clamp, nI_leI, nI_ltI, nI_eq, chk_d, chk_t, chk_inb, rfm_s, bnd_e, cal_e, calR_e, if_pos, if_neg, k0, TV_g hq, t06]
      unfold tot
      rw [hsw]
    | succ d ih =>
      intro y fuel h1 h2
      obtain ⟨n, rfl⟩ : ∃ n', fuel = n' + 1 := ⟨fuel - 1, by omega⟩
      have hm := sm_mono (fun y => sm (fun b => s.2.1 b y) nb) (show y + 1 ≤ Y + 1 by omega)
      have hs := sm_s (fun y => sm (fun b => s.2.1 b y) nb) y
      unfold tot at hle
      have ih' := ih (y + 1) n (by omega) (by omega)
      have ea : (nI (F + sm (fun y => sm (fun b => s.2.1 b y) nb) y)).toInt64 + (nI (sm (fun b => s.2.1 b y) nb)).toInt64 = (nI (F + sm (fun y => sm (fun b => s.2.1 b y) nb) (y + 1))).toInt64 := by
        rw [l64_add (by omega), nI_add, hs, Nat.add_assoc]
      rw [fbs_X5_allIceByYears_11]
      unfold fs_X5_allIceByYears_11
      simp (disch := omega) only [↓lm1, l0, l1, l2, l3, l4, l5, l6, l7, l8, l9, l10, l11, l12, l13, l14, l31, l32, l44, l48, l50, l57, l59, l60, l74, l100, l110, l126, l300, l330, l500, l501, l801, l1000, l5000, l5010, l8010, l8192, l9000, l10000, l1000000, nI_add, pk_mul, nI_clamp, nI_leI, nI_ltI, nI_eq, chk_d, chk_t, chk_inb, rfm_s, bnd_e, cal_e, calR_e, if_pos, if_neg, k0, TV_g hq, t06, e2, ea]
      rw [nI_add] at ih'
      exact ih'
  have hk := key (Y + 1) 0 FU (by omega) (FU_gt (by omega))
  rw [sm_0, Nat.add_zero] at hk
  rw [hF]
  unfold fn_X5_allIceByYears
  simp (disch := omega) only [↓lm1, l0, l1, l2, l3, l4, l5, l6, l7, l8, l9, l10, l11, l12, l13, l14, l31, l32, l44, l48, l50, l57, l59, l60, l74, l100, l110, l126, l300, l330, l500, l501, l801, l1000, l5000, l5010, l8010, l8192, l9000, l10000, l1000000, chk_d, chk_t, chk_inb, rfm_s, bnd_e, cal_e, calR_e, if_pos, if_neg, k0, r00, r01, r02, r03, k1, n1, k2, n2, k3, n3, k4, rb, kb, rl, rs, ks, TV_g hq, t40, hk]

