/-! the class's year: snow and melt -/
theorem tt_ext {g : Nat → Nat} {n w : Nat} (hn : n ≤ 801) (hz : ∀ y, n ≤ y → y < 801 → g y = 0) {y : Nat} (hy : y < 801) : tt g 801 w y = tt g n w y := by
  have e : sm g 801 = sm g n := sm_tail hn hz
  unfold tt
  rw [if_pos hy, e]
  by_cases h : y < n
  · rw [if_pos h]
  · rw [if_neg h, hz y (by omega) hy]
    omega
theorem rwT_ext {g : Nat → Nat} {n w : Nat} (hn : n ≤ 801) (hz : ∀ y, n ≤ y → y < 801 → g y = 0) {y : Nat} (hy : y < 801) : rwT g n w 0 y = rwT g 801 w 0 y := by
  rw [rwT_0, rwT_0]
  show g y - tt g n w y = g y - tt g 801 w y
  rw [tt_ext hn hz hy]
theorem x5_snowAndMelt {T : Ty} {R : Rm} {q σ : Nat → Nat} (G : TG T R q σ) (M : Mm) {c : Nat → Nat → Int32} {l : Nat → Int64} {s : Sx} {K Y nb ns : Nat} (g : GS K Y nb ns s) (hK : K < 2 ^ 30) (rt : RT (fun b => b = 0) σ c l s) {b : Nat} (hb : b < nb) : ∃ c' l', fn_X5_snowAndMelt T R (q 0) (q (5 + 3 * b)) (TV q M c l) = some ((), TV q M c' l') ∧ RT (fun b => b = 0) σ c' l' (sW b s) := by
  have G0 := G
  obtain ⟨m, f, acc⟩ := s
  obtain ⟨J, h7, h8, h9, hY, hnb, hns, n7, n8, n9⟩ := g
  obtain ⟨t1, t04, t05, t06, t40, t41, t42, t43, tl, tb, ts⟩ := rt
  simp only at J h7 h8 h9 n7 n8 n9 t1 t04 t05 t06 t40 t41 t42 t43 tl tb ts
  obtain ⟨hq, k0, r00, r01, r02, r03, k1, n1, k2, n2, k3, n3, k4, rb, kb, rl, lg, rs, ks, sl, si⟩ := G
  have hb8 : b < nt (m 8) := by omega
  have hsn := snS_le J.1 hb8
  have hml := mlS_le J.1 hb8
  obtain ⟨tb1, tb2, tb3⟩ := tb b hb8
  have hle := JV_le J hb8
  have hwg := wG_sum m f b
  rw [n7] at hle hwg
  have hz : ∀ y, Y + 1 ≤ y → f b y = 0 := fun y hy => J.2.2.1 b y hb8 (by omega)
  have hzw : ∀ y, Y + 1 ≤ y → y < 801 → wG m f b y = 0 := fun y hy _ => by
    unfold wG
    rw [n7, fu_n _ (by omega)]
    exact hz y hy
  have hws : sm (wG m f b) 801 = sm (wG m f b) (Y + 1) := sm_tail (by omega) hzw
  have lgb := lg b (by omega)
  obtain ⟨c1, p1, p2, p3⟩ := x2_add hq lgb M l tb3 (y := Y) (v := snS m b) (by omega) (by omega)
  have ewg : fu (f b) Y (f b Y + snS m b) = wG m f b := by
    unfold wG
    rw [n7]
  rw [ewg] at p2
  have c11 : c1 1 = c 1 := p3 1 (by omega) (by omega)
  obtain ⟨c2, u1, u2, u3⟩ := x2_takeFromLatest hq lgb M (vp_updL l 8 (l 8 + (nI (snS m b)).toInt64)) p2 (w := mlS m b) (by omega) (by omega)
  have hfr := FR_t p3 u3
  have e1 := x5_sn G0 M (c := c) (l := l) J.1 t1 hb8
  have e2 := x5_ml G0 M (c := c1) (l := vp_updL l 8 (l 8 + (nI (snS m b)).toInt64)) J.1 (fun k hk => by rw [c11]; exact t1 k hk) hb8
  have hh : c (5 + 3 * b) 1 = m (14 + 6 * b) := tb1 0 (by omega)
  have c1b : c1 (5 + 3 * b) = c (5 + 3 * b) := p3 _ (by omega) (by omega)
  have c10 : c1 0 = c 0 := p3 _ (by omega) (by omega)
  have c12 : c1 1 2 = m 2 := by
    rw [c11]
    exact t1 2 (by omega)
  have hwT : min (mlS m b) (sm (wG m f b) 801) = wT m f b := by
    unfold wT
    rw [hws, n7]
  rw [hwT] at u1
  have kl := lgb.1
  refine ⟨up2 c2 (5 + 3 * b) 4 (nI (wT m f b)), vp_updL (vp_updL l 8 (l 8 + (nI (snS m b)).toInt64)) 9 (vp_updL l 8 (l 8 + (nI (snS m b)).toInt64) 9 + (nI (wT m f b)).toInt64), ?_, ?_⟩
  · unfold fn_X5_snowAndMelt
    simp (disch := omega) only [↓lm1, l0, l1, l2, l3, l4, l5, l6, l7, l8, l9, l10, l11, l12, l13, l14, l31, l32, l44, l48, l50, l57, l59, l60, l74, l100, l110, l126, l300, l330, l500, l501, l801, l1000, l5000, l5010, l8010, l8192, l9000, l10000, l1000000, nI_add, pk_mul, nI_clamp, nI_leI, nI_ltI, nI_eq, chk_d, chk_t, chk_inb, rfm_s, bnd_e, cal_e, calR_e, if_pos, if_neg, k0, r00, r01, r02, r03, k1, n1, k2, n2, k3, n3, k4, rb, kb, rl, rs, ks, kl, TV_g hq, TV_s hq, TV_gj, TV_sj, hh, t06, h7, e1, p1, c1b, c12, e2, u1, up2_s]
  · have em : ∀ k, k ≠ 14 + 6 * b + 5 → k ≠ 14 + 6 * b + 3 → (sW b (m, f, acc)).1 k = m k := fun k h1 h2 => by
      show upd (wM m f b) (14 + 6 * b + 5) (nI 0) k = m k
      unfold wM
      rw [pk_un h1, pk_un h2]
    have em3 : (sW b (m, f, acc)).1 (14 + 6 * b + 3) = nI (wT m f b) := by
      show upd (wM m f b) (14 + 6 * b + 5) (nI 0) _ = _
      unfold wM
      rw [pk_un (by omega), pk_us]
    have ec : ∀ j, j ≠ 5 + 3 * b → j ≠ 5 + 3 * b + 1 → j ≠ 5 + 3 * b + 1 + 1 → up2 c2 (5 + 3 * b) 4 (nI (wT m f b)) j = c j := fun j h1 h2 h3 => by
      rw [up2_r _ _ h1]
      exact hfr j h2 h3
    refine ⟨fun k hk => ?_, ?_, ?_, ?_, ?_, ?_, ?_, fun h => ?_, fun k hk => ?_, fun b' hb' => ?_, fun i hi k hk => ?_⟩
    · rw [ec 1 (by omega) (by omega) (by omega), em k (by omega) (by omega)]
      exact t1 k hk
    · rw [ec 0 (by omega) (by omega) (by omega), em _ (by omega) (by omega)]
      exact t04
    · rw [ec 0 (by omega) (by omega) (by omega), em _ (by omega) (by omega)]
      exact t05
    · rw [ec 0 (by omega) (by omega) (by omega), em _ (by omega) (by omega)]
      exact t06
    · rw [ec 4 (by omega) (by omega) (by omega), em _ (by omega) (by omega)]
      exact t40
    · rw [ec 4 (by omega) (by omega) (by omega), em _ (by omega) (by omega)]
      exact t41
    · rw [ec 4 (by omega) (by omega) (by omega), em _ (by omega) (by omega)]
      exact t42
    · rw [em _ (by omega) (by omega)] at h
      rw [ec 4 (by omega) (by omega) (by omega), em _ (by omega) (by omega)]
      exact t43 h
    · show _ = wA m f acc b k
      unfold wA
      have q1 := tl 1 (by omega)
      have q2 := tl 2 (by omega)
      simp only [Nat.reduceAdd] at q1 q2
      rcases (show k = 0 ∨ k = 1 ∨ k = 2 ∨ k = 3 by omega) with rfl | rfl | rfl | rfl
      · simp (disch := omega) only [pk_uLn, pk_uLs, Nat.reduceAdd]
        exact tl 0 (by omega)
      · simp (disch := omega) only [pk_uLn, pk_uLs, Nat.reduceAdd, q1]
      · simp (disch := omega) only [pk_uLn, pk_uLs, Nat.reduceAdd, q2]
      · simp (disch := omega) only [pk_uLn, pk_uLs, Nat.reduceAdd]
        exact tl 3 (by omega)
    · rw [em 8 (by omega) (by omega), n8] at hb'
      by_cases hbb : b' = b
      · subst hbb
        refine ⟨fun k hk => ?_, fun h0 => ?_, ?_⟩
        · by_cases hk3 : k = 3
          · subst hk3
            rw [up2_s, em3]
          · rw [up2_k _ _ (by omega), em _ (by omega) (by omega), hfr _ (by omega) (by omega)]
            exact tb1 k hk
        · subst h0
          have := J.2.2.2
          rw [up2_k _ _ (by omega), hfr _ (by omega) (by omega)]
          show c (5 + 3 * 0) 6 = upd (wM m f 0) (14 + 6 * 0 + 5) (nI 0) (14 + 6 * 0 + 5)
          rw [pk_us, tb2 rfl]
          exact this
        · refine LY_congr (LY_fr u2 (up2_r _ _ (by omega)) (up2_r _ _ (by omega))) (fun y hy => ?_)
          show wF m f b' b' y = _
          unfold wF
          rw [fset_s, n7]
          exact rwT_ext (by omega) hzw hy
      · obtain ⟨v1, v2, v3⟩ := tb b' (by omega)
        refine ⟨fun k hk => ?_, fun h0 => ?_, ?_⟩
        · rw [ec _ (by omega) (by omega) (by omega), em _ (by omega) (by omega)]
          exact v1 k hk
        · rw [ec _ (by omega) (by omega) (by omega), em _ (by omega) (by omega)]
          exact v2 h0
        · have e : (sW b (m, f, acc)).2.1 b' = f b' := by
            show wF m f b b' = _
            unfold wF
            rw [fset_n _ _ hbb]
          rw [e]
          exact LY_fr v3 (ec _ (by omega) (by omega) (by omega)) (ec _ (by omega) (by omega) (by omega))
    · rw [em 9 (by omega) (by omega)] at hi
      have h6 := sl i (by omega)
      rw [ec _ (by omega) (by omega) (by omega), em _ (by omega) (by omega)]
      exact ts i hi k hk

