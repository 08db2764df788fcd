/-! the class's year in one -/
theorem x5_y1 {T : Ty} {R : Rm} {q σ : Nat → Nat} (G : TG T R q σ) (M : Mm) {s : Sx} {K Y nb ns : Nat} (g : GS K Y nb ns s) (hK : K + 300000 < 2 ^ 30) (j : Int32 → Mm → Option (Unit × Mm)) : ∀ d b (c : Nat → Nat → Int32) (l : Nat → Int64) fuel, RT (fun b => b = 0) σ c l (itU sW b s) → b + d = nb → d < fuel → ∃ c' l', RT (fun b => b = 0) σ c' l' (itU sW nb s) ∧ fb_X5_letYearGoBy_12 T R (q 0) j fuel (nI b) (TV q M c l) = fs_X5_letYearGoBy_12 T R (q 0) (fun _ _ => none) j (nI nb) (TV q M c' l') := by
  have G0 := G
  obtain ⟨hq, k0, r00, r01, r02, r03, k1, n1, k2, n2, k3, n3, k4, rb, kb, rl, lg, rs, ks, sl, si⟩ := G
  intro d
  induction d with
  | zero =>
    intro b c l fuel rt h1 h2
    obtain ⟨n, rfl⟩ : ∃ n, fuel = n + 1 := ⟨fuel - 1, by omega⟩
    have e : b = nb := by omega
    subst e
    have gk := GS_WU g b (Nat.le_refl _)
    have hb10 := gk.2.2.2.2.2.1
    have t04 := rt.2.1
    rw [gk.2.2.1] at t04
    refine ⟨c, l, rt, ?_⟩
    rw [fbs_X5_letYearGoBy_12]
    unfold fs_X5_letYearGoBy_12
    simp (disch := omega) only [↓lm1, l0, l1, l2, l3, l4, l5, l6, l7, l8, l9, l10, l11, l12, l13, l14, l31, l32, l44, l48, l50, l57, l59, l60, l74, l100, l110, l126, l300, l330, l500, l501, l801, l1000, l5000, l5010, l8010, l8192, l9000, l10000, l1000000, nI_add, pk_mul, nI_clamp, nI_leI, nI_ltI, nI_eq, chk_d, chk_t, chk_inb, rfm_s, bnd_e, cal_e, calR_e, if_pos, if_neg, k0, TV_g hq, t04]
  | succ d ih =>
    intro b c l fuel rt h1 h2
    obtain ⟨n, rfl⟩ : ∃ n, fuel = n + 1 := ⟨fuel - 1, by omega⟩
    have gk := GS_WU g b (by omega)
    have hb10 := gk.2.2.2.2.2.1
    have t04 := rt.2.1
    rw [gk.2.2.1] at t04
    obtain ⟨c1, lA, p1, p2⟩ := x5_snowAndMelt G0 M gk (by omega) rt (show b < nb by omega)
    obtain ⟨c', l', r1, r2⟩ := ih (b + 1) c1 lA n p2 (by omega) (by omega)
    refine ⟨c', l', r1, ?_⟩
    rw [← r2, fbs_X5_letYearGoBy_12]
    unfold fs_X5_letYearGoBy_12
    simp (disch := omega) only [↓lm1, l0, l1, l2, l3, l4, l5, l6, l7, l8, l9, l10, l11, l12, l13, l14, l31, l32, l44, l48, l50, l57, l59, l60, l74, l100, l110, l126, l300, l330, l500, l501, l801, l1000, l5000, l5010, l8010, l8192, l9000, l10000, l1000000, nI_add, pk_mul, nI_clamp, nI_leI, nI_ltI, nI_eq, chk_d, chk_t, chk_inb, rfm_s, bnd_e, cal_e, calR_e, if_pos, if_neg, k0, r01, k2, n2, rb, TV_g hq, t04, p1]
theorem x5_y3 {T : Ty} {R : Rm} {q σ : Nat → Nat} (G : TG T R q σ) (M : Mm) {l : Nat → Int64} {s : Sx} {K Y nb ns : Nat} (g : GS K Y nb ns s) : ∀ d i (c : Nat → Nat → Int32) fuel, RT QT σ c l (itU sK i s) → i + d = ns → d < fuel → ∃ c', fb_X5_letYearGoBy_76 T R (q 0) fuel (nI i) (TV q M c l) = some ((), TV q M c' l) ∧ RT QT σ c' l (itU sK ns s) := by
  have G0 := G
  obtain ⟨hq, k0, r00, r01, r02, r03, k1, n1, k2, n2, k3, n3, k4, rb, kb, rl, lg, rs, ks, sl, si⟩ := G
  intro d
  induction d with
  | zero =>
    intro i c fuel rt h1 h2
    obtain ⟨n, rfl⟩ : ∃ n, fuel = n + 1 := ⟨fuel - 1, by omega⟩
    have e : i = ns := by omega
    subst e
    have gk := GS_KU g i (Nat.le_refl _)
    have hn6 := gk.2.2.2.2.2.2.1
    have t05 := rt.2.2.1
    rw [gk.2.2.2.1] at t05
    refine ⟨c, ?_, rt⟩
    rw [fbs_X5_letYearGoBy_76]
    unfold fs_X5_letYearGoBy_76
    simp (disch := omega) only [↓lm1, l0, l1, l2, l3, l4, l5, l6, l7, l8, l9, l10, l11, l12, l13, l14, l31, l32, l44, l48, l50, l57, l59, l60, l74, l100, l110, l126, l300, l330, l500, l501, l801, l1000, l5000, l5010, l8010, l8192, l9000, l10000, l1000000, nI_add, pk_mul, nI_clamp, nI_leI, nI_ltI, nI_eq, chk_d, chk_t, chk_inb, rfm_s, bnd_e, cal_e, calR_e, if_pos, if_neg, k0, TV_g hq, t05]
  | succ d ih =>
    intro i c fuel rt h1 h2
    obtain ⟨n, rfl⟩ : ∃ n, fuel = n + 1 := ⟨fuel - 1, by omega⟩
    have gk := GS_KU g i (by omega)
    have hn6 := gk.2.2.2.2.2.2.1
    have t05 := rt.2.2.1
    rw [gk.2.2.2.1] at t05
    have hi9 : i < nt ((itU sK i s).1 9) := by rw [gk.2.2.2.2.2.2.2.2.2]; omega
    have hS := sl i (by omega)
    have s4 := rt.2.2.2.2.2.2.2.2.2.2 i hi9 4 (by omega)
    have kss := ks (σ i) hS
    have hstep : itU sK (i + 1) s = sK i (itU sK i s) := rfl
    by_cases h0 : (itU sK i s).1 (74 + 6 * i + 4) = nI 0
    · obtain ⟨c1, p1, p2⟩ := x5_ride G0 M (l := l) (c := c) (m := (itU sK i s).1) (f := (itU sK i s).2.1) (acc := (itU sK i s).2.2) gk.1.1 rt hi9
      rw [← sK_p h0, ← hstep] at p2
      obtain ⟨c', r1, r2⟩ := ih (i + 1) c1 n p2 (by omega) (by omega)
      refine ⟨c', ?_, r2⟩
      rw [← r1, fbs_X5_letYearGoBy_76]
      unfold fs_X5_letYearGoBy_76 fs_X5_letYearGoBy_106
      simp (disch := omega) only [↓lm1, l0, l1, l2, l3, l4, l5, l6, l7, l8, l9, l10, l11, l12, l13, l14, l31, l32, l44, l48, l50, l57, l59, l60, l74, l100, l110, l126, l300, l330, l500, l501, l801, l1000, l5000, l5010, l8010, l8192, l9000, l10000, l1000000, nI_add, pk_mul, nI_clamp, nI_leI, nI_ltI, nI_eq, chk_d, chk_t, chk_inb, rfm_s, bnd_e, cal_e, calR_e, if_pos, if_neg, k0, r02, k3, n3, rs, kss, TV_g hq, t05, s4, h0, if_true, p1]
    · have p2 := rt
      rw [← sK_n h0, ← hstep] at p2
      obtain ⟨c', r1, r2⟩ := ih (i + 1) c n p2 (by omega) (by omega)
      refine ⟨c', ?_, r2⟩
      rw [← r1, fbs_X5_letYearGoBy_76]
      unfold fs_X5_letYearGoBy_76 fs_X5_letYearGoBy_106
      simp (disch := omega) only [↓lm1, l0, l1, l2, l3, l4, l5, l6, l7, l8, l9, l10, l11, l12, l13, l14, l31, l32, l44, l48, l50, l57, l59, l60, l74, l100, l110, l126, l300, l330, l500, l501, l801, l1000, l5000, l5010, l8010, l8192, l9000, l10000, l1000000, nI_add, pk_mul, nI_clamp, nI_leI, nI_ltI, nI_eq, chk_d, chk_t, chk_inb, rfm_s, bnd_e, cal_e, calR_e, if_pos, if_neg, k0, r02, k3, n3, rs, kss, TV_g hq, t05, s4, h0, if_false]
theorem x5_year {T : Ty} {R : Rm} {q σ : Nat → Nat} (G : TG T R q σ) (M : Mm) {c : Nat → Nat → Int32} {l : Nat → Int64} {s : Sx} {K Y nb ns : Nat} (g : GS K Y nb ns s) (hY : Y < 800) (hn : 0 < nb) (hK : K + 300000 < 2 ^ 30) (rt : RT QT σ c l s) : ∃ c' l', fn_X5_letYearGoBy T R (q 0) (TV q M c l) = some ((), TV q M c' l') ∧ RT QT σ c' l' (sY s) := by
  have G0 := G
  have g1 := GS_I0 g hY
  have g2 := GS_WU g1 nb (Nat.le_refl _)
  have g3 := GS_GD nb _ g2 (Nat.le_refl _)
  have h10 := g.2.2.2.2.2.1
  have h6 := g.2.2.2.2.2.2.1
  have g4 := GS_F g3 (by omega)
  have t06 := rt.2.2.2.1
  have rt0 : RT (fun b => b = 0) σ (up2 c 0 6 (s.1 7 + nI 1)) l (itU sW 0 (sI0 s)) := by
    have e : ∀ k, k ≠ 7 → (sI0 s).1 k = s.1 k := fun k h => pk_un h
    show RT _ σ _ l (sI0 s)
    obtain ⟨t1, t04, t05, t06, t40, t41, t42, t43, tl, tb, ts⟩ := rt
    refine ⟨fun k hk => ?_, ?_, ?_, ?_, ?_, ?_, ?_, fun h => ?_, tl, fun b hb => ?_, fun i hi k hk => ?_⟩
    · rw [up2_c _ _ (by omega), e k (by omega)]
      exact t1 k hk
    · rw [up2_k _ _ (by omega), e _ (by omega)]
      exact t04
    · rw [up2_k _ _ (by omega), e _ (by omega)]
      exact t05
    · rw [up2_s]
      exact (pk_us (f := s.1) (k := 7) (x := s.1 7 + nI 1)).symm
    · rw [up2_c _ _ (by omega), e _ (by omega)]
      exact t40
    · rw [up2_c _ _ (by omega), e _ (by omega)]
      exact t41
    · rw [up2_c _ _ (by omega), e _ (by omega)]
      exact t42
    · rw [e _ (by omega)] at h
      rw [up2_c _ _ (by omega), e _ (by omega)]
      exact t43 h
    · rw [e 8 (by omega)] at hb
      obtain ⟨v1, v2, v3⟩ := tb b hb
      have hb' : b < nb := by rw [g.2.2.2.2.2.2.2.2.1] at hb; exact hb
      refine ⟨fun k hk => ?_, fun h => ?_, LY_fr v3 (up2_r _ _ (by omega)) (up2_r _ _ (by omega))⟩
      · rw [up2_c _ _ (by omega), e _ (by omega)]
        exact v1 k hk
      · rw [up2_c _ _ (by omega), e _ (by omega)]
        exact v2 trivial
    · rw [e 9 (by omega)] at hi
      have hi' : i < ns := by rw [g.2.2.2.2.2.2.2.2.2] at hi; exact hi
      rw [up2_c _ _ (by omega), e _ (by omega)]
      exact ts i hi k hk
  obtain ⟨c1, lA, p1, p2⟩ := x5_y1 G0 M g1 hK (fb_X5_letYearGoBy_76 T R (q 0) FU) nb 0 _ l FU rt0 (by omega) (FU_gt (by omega))
  obtain ⟨c2, u1, u2⟩ := x5_creepDown G0 M (l := lA) (by omega) g2 hn p1
  obtain ⟨c3, r, v1, v2⟩ := x5_calve G0 M (l := lA) (by omega) g3 u2
  obtain ⟨c4, w1, w2⟩ := x5_y3 G0 M (l := vp_updL lA 10 (lA 10 + r.toInt64)) g4 ns 0 c3 FU v2 (by omega) (FU_gt (by omega))
  refine ⟨c4, vp_updL lA 10 (lA 10 + r.toInt64), ?_, ?_⟩
  · obtain ⟨hq, k0, r00, r01, r02, r03, k1, n1, k2, n2, k3, n3, k4, rb, kb, rl, lg, rs, ks, sl, si⟩ := G
    have y5 := u2.1 5 (by omega)
    have y6 := u2.1 6 (by omega)
    have y7 := u2.2.2.2.1
    have x4 := p1.2.1
    rw [g2.2.2.1] at x4
    unfold fn_X5_letYearGoBy
    simp (disch := omega) only [↓lm1, l0, l1, l2, l3, l4, l5, l6, l7, l8, l9, l10, l11, l12, l13, l14, l31, l32, l44, l48, l50, l57, l59, l60, l74, l100, l110, l126, l300, l330, l500, l501, l801, l1000, l5000, l5010, l8010, l8192, l9000, l10000, l1000000, chk_d, chk_t, chk_inb, rfm_s, bnd_e, cal_e, calR_e, if_pos, if_neg, k0, TV_g hq, TV_s hq, t06, p2]
    unfold fs_X5_letYearGoBy_12
    simp (disch := omega) only [↓lm1, l0, l1, l2, l3, l4, l5, l6, l7, l8, l9, l10, l11, l12, l13, l14, l31, l32, l44, l48, l50, l57, l59, l60, l74, l100, l110, l126, l300, l330, l500, l501, l801, l1000, l5000, l5010, l8010, l8192, l9000, l10000, l1000000, nI_add, pk_mul, nI_clamp, nI_leI, nI_ltI, nI_eq, chk_d, chk_t, chk_inb, rfm_s, bnd_e, cal_e, calR_e, if_pos, if_neg, k0, r00, r01, r02, r03, k1, n1, k2, n2, k3, n3, k4, rb, kb, rl, rs, ks, TV_g hq, TV_s hq, TV_gj, TV_sj, x4, u1, y5, y6, y7, v1, w1]
  · unfold sY
    rw [g.2.2.2.2.2.2.2.2.1, g.2.2.2.2.2.2.2.2.2]
    exact w2
theorem x5_years {T : Ty} {R : Rm} {q σ : Nat → Nat} (G : TG T R q σ) (M : Mm) {s : Sx} {K Y nb ns n : Nat} (g : GS K Y nb ns s) (hn : 0 < nb) (hY : Y + n ≤ 800) (hK : K + 300000 * n < 2 ^ 30) {c : Nat → Nat → Int32} {l : Nat → Int64} (rt : RT QT σ c l s) : ∃ c' l', fn_X5_letYearsGoBy T R (q 0) (nI n) (TV q M c l) = some ((), TV q M c' l') ∧ RT QT σ c' l' (sYs n s) := by
  have G0 := G
  obtain ⟨hq, k0, r00, r01, r02, r03, k1, n1, k2, n2, k3, n3, k4, rb, kb, rl, lg, rs, ks, sl, si⟩ := G
  have key : ∀ d k (c : Nat → Nat → Int32) (l : Nat → Int64) fuel, RT QT σ c l (sYs k s) → k + d = n → d < fuel → ∃ c' l', fb_X5_letYearsGoBy_2 T R (q 0) (nI n) fuel (nI k) (TV q M c l) = some ((), TV q M c' l') ∧ RT QT σ c' l' (sYs n s) := by
    intro d
    induction d with
    | zero =>
      intro k c l fuel rt h1 h2
      obtain ⟨p, rfl⟩ : ∃ p, fuel = p + 1 := ⟨fuel - 1, by omega⟩
      have e : k = n := by omega
      subst e
      refine ⟨c, l, ?_, rt⟩
      rw [fbs_X5_letYearsGoBy_2]
      unfold fs_X5_letYearsGoBy_2
      simp (disch := omega) only [↓lm1, l0, l1, l2, l3, l4, l5, l6, l7, l8, l9, l10, l11, l12, l13, l14, l31, l32, l44, l48, l50, l57, l59, l60, l74, l100, l110, l126, l300, l330, l500, l501, l801, l1000, l5000, l5010, l8010, l8192, l9000, l10000, l1000000, nI_add, pk_mul, nI_clamp, nI_leI, nI_ltI, nI_eq, chk_d, chk_t, chk_inb, rfm_s, bnd_e, cal_e, calR_e, if_pos, if_neg]
    | succ d ih =>
      intro k c l fuel rt h1 h2
      obtain ⟨p, rfl⟩ : ∃ p, fuel = p + 1 := ⟨fuel - 1, by omega⟩
      obtain ⟨c1, lA, p1, p2⟩ := x5_year G0 M (GS_Ys g k (by omega) (by omega)) (by omega) hn (by omega) rt
      obtain ⟨c', l', r1, r2⟩ := ih (k + 1) c1 lA p p2 (by omega) (by omega)
      refine ⟨c', l', ?_, r2⟩
      rw [← r1, fbs_X5_letYearsGoBy_2]
      unfold fs_X5_letYearsGoBy_2
      simp (disch := omega) only [↓lm1, l0, l1, l2, l3, l4, l5, l6, l7, l8, l9, l10, l11, l12, l13, l14, l31, l32, l44, l48, l50, l57, l59, l60, l74, l100, l110, l126, l300, l330, l500, l501, l801, l1000, l5000, l5010, l8010, l8192, l9000, l10000, l1000000, nI_add, pk_mul, nI_clamp, nI_leI, nI_ltI, nI_eq, chk_d, chk_t, chk_inb, rfm_s, bnd_e, cal_e, calR_e, if_pos, if_neg, k0, p1]
  unfold fn_X5_letYearsGoBy
  simp only [l0]
  exact key n 0 c l FU rt (by omega) (FU_gt (by omega))

