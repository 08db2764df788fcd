/-! the class's year: creep -/
def Qk (k : Nat) : Nat → Prop := fun b => b = 0 ∨ k < b
theorem x0_iceToGive {T : Ty} {R : Rm} {q σ : Nat → Nat} (G : TG T R q σ) (M : Mm) {c : Nat → Nat → Int32} {l : Nat → Int64} {b s cr : Nat} (hb : b < 10) (h1 : c (5 + 3 * b + 1) 1 = nI s) (h2 : c (5 + 3 * b) 3 = nI cr) (hs : s < 2 ^ 31) (hc : cr ≤ 500) : fn_X0_iceToGive T R (q (5 + 3 * b)) (TV q M c l) = some (nI (s * cr / 1000), TV q M c l) := by
  obtain ⟨hq, k0, r00, r01, r02, r03, k1, n1, k2, n2, k3, n3, k4, rb, kb, rl, lg, rs, ks, sl, si⟩ := G
  have egv := gv_l hs hc
  have kl := (lg b hb).1
  unfold fn_X0_iceToGive
  simp (disch := omega) only [↓lm1, l0, l1, l2, l3, l4, l5, l6, l7, l8, l9, l10, l11, l12, l13, l14, l31, l32, l44, l48, l50, l57, l59, l60, l74, l100, l110, l126, l300, l330, l500, l501, l801, l1000, l5000, l5010, l8010, l8192, l9000, l10000, l1000000, nI_add, pk_mul, nI_clamp, nI_leI, nI_ltI, nI_eq, chk_d, chk_t, chk_inb, rfm_s, bnd_e, cal_e, calR_e, if_pos, if_neg, k0, r00, r01, r02, r03, k1, n1, k2, n2, k3, n3, k4, rb, kb, rl, rs, ks, kl, TV_g hq, h1, h2]
  simp only [← l1000, egv]
theorem gF_b {m : Nat → Int32} {f : Nat → Nat → Nat} {b Y : Nat} (n7 : nt (m 7) = Y) (hz : ∀ y, Y + 1 ≤ y → f b y = 0) (y : Nat) (hy : y < 801) : gF m f b b y = rwB (f b) (gL m f b) 801 y := by
  unfold gF gR rwB
  rw [if_pos hy, n7]
  by_cases h : y < Y + 1
  · rw [if_pos h, if_pos rfl]
  · rw [if_neg h, hz y (by omega)]
    omega
theorem gF_b1 {m : Nat → Int32} {f : Nat → Nat → Nat} {b Y : Nat} (n7 : nt (m 7) = Y) (hz : ∀ y, Y + 1 ≤ y → f b y = 0) (hl : ¬ b + 1 = nt (m 8)) (y : Nat) (hy : y < 801) : gF m f b (b + 1) y = rwU (f (b + 1)) (f b) (gL m f b) 801 y := by
  unfold gF gR rwU
  rw [if_pos hy, n7, decide_eq_false hl]
  by_cases h : y < Y + 1
  · rw [if_pos h, if_neg (by omega), if_pos ⟨rfl, rfl⟩]
  · rw [if_neg h, tb_0 (hz y (by omega))]
    rfl
theorem gF_o {m : Nat → Int32} {f : Nat → Nat → Nat} {b b' : Nat} (h1 : b' ≠ b) (h2 : ¬ b + 1 = nt (m 8) → b' ≠ b + 1) : gF m f b b' = f b' := by
  unfold gF
  exact gR_o h1 (fun h => h2 (of_decide_eq_false h))
theorem x5_creepDown_loop {T : Ty} {R : Rm} {q σ : Nat → Nat} (G : TG T R q σ) (M : Mm) {l : Nat → Int64} {K Y nb ns : Nat} (hK : K < 2 ^ 30) : ∀ k (s : Sx) (c : Nat → Nat → Int32) fuel, GS K Y nb ns s → k ≤ nb → RT (Qk k) σ c l s → k < fuel → ∃ c', fb_X5_creepDown_7 T R (q 0) fuel (nI k + nONE) (TV q M c l) = some ((), TV q M c' l) ∧ RT (fun _ => True) σ c' l (itD sG k s) := by
  have G0 := G
  obtain ⟨hq, k0, r00, r01, r02, r03, k1, n1, k2, n2, k3, n3, k4, rb, kb, rl, lg, rs, ks, sl, si⟩ := G
  intro k
  induction k with
  | zero =>
    intro s c fuel g hk rt hf
    obtain ⟨n, rfl⟩ : ∃ n, fuel = n + 1 := ⟨fuel - 1, by omega⟩
    refine ⟨c, ?_, ?_⟩
    · rw [fbs_X5_creepDown_7]
      unfold fs_X5_creepDown_7
      simp (disch := omega) only [↓lm1, l0, l1, l2, l3, l4, l5, l6, l7, l8, l9, l10, l11, l12, l13, l14, l31, l32, l44, l48, l50, l57, l59, l60, l74, l100, l110, l126, l300, l330, l500, l501, l801, l1000, l5000, l5010, l8010, l8192, l9000, l10000, l1000000, nI_add, pk_mul, nI_clamp, nI_leI, nI_ltI, nI_eq, chk_d, chk_t, chk_inb, rfm_s, bnd_e, cal_e, calR_e, if_pos, if_neg, nI_n1, nONE_T, if_true]
    · obtain ⟨t1, t04, t05, t06, t40, t41, t42, t43, tl, tb, ts⟩ := rt
      refine ⟨t1, t04, t05, t06, t40, t41, t42, t43, tl, fun b hb => ?_, ts⟩
      obtain ⟨v1, v2, v3⟩ := tb b hb
      exact ⟨v1, fun _ => v2 (by unfold Qk; omega), v3⟩
  | succ b ih =>
    intro s c fuel g hk rt hf
    obtain ⟨n, rfl⟩ : ∃ n, fuel = n + 1 := ⟨fuel - 1, by omega⟩
    have gG := GS_G g (show b < nb by omega)
    obtain ⟨m, f, acc⟩ := s
    obtain ⟨J, h7, h8, h9, hY, hnb, hns, n7, n8, n9⟩ := g
    obtain ⟨t1, t04, t05, t06, t40, t41, t42, t43, tl, tb, ts⟩ := rt
    simp only at J h7 h8 h9 n7 n8 n9 t1 t04 t05 t06 t40 t41 t42 t43 tl tb ts
    have hb8 : b < nt (m 8) := by omega
    have hle := JV_le J hb8
    have hgl := gL_le J hb8
    rw [n7] at hle hgl
    obtain ⟨tb1, tb2, tb3⟩ := tb b hb8
    have hz : ∀ y, Y + 1 ≤ y → f b y = 0 := fun y hy => J.2.2.1 b y hb8 (by omega)
    have hs8 : sm (f b) 801 = sm (f b) (Y + 1) := sm_tail (by omega) (fun y h1 _ => hz y h1)
    obtain ⟨cr, hcr, -, hcr5⟩ := rg_get (J.1.2.2.2.2.2.2.2.2.2.2.1 b hb8).2.2
    have hntc : nt (m (14 + 6 * b + 2)) = cr := by rw [hcr, nt_nI (by omega)]
    have hgl2 : sm (f b) 801 * cr / 1000 = gL m f b := by
      unfold gL
      rw [n7, hntc, hs8]
    have lgb := lg b (by omega)
    have e1 := x0_iceToGive G0 M (l := l) (show b < 10 by omega) (LY_ice tb3) ((tb1 2 (by omega)).trans hcr) (by omega) hcr5
    rw [hgl2] at e1
    have hc1 : ∀ j, j ≠ 5 + 3 * b → up2 c (5 + 3 * b) 5 (nI (gL m f b)) j = c j := fun j h => up2_r _ _ h
    have tb3' : LY (up2 c (5 + 3 * b) 5 (nI (gL m f b))) (5 + 3 * b + 1) (f b) := LY_fr tb3 (hc1 _ (by omega)) (hc1 _ (by omega))
    have hnk : ¬ nI b < nI 0 := nI_pos (by omega)
    have kl := lgb.1
    by_cases hl : b + 1 = nb
    · obtain ⟨c2, p1, p2, p3⟩ := x2_giveN hq lgb M l tb3' (w := gL m f b) (by omega) (by omega)
      have ec : ∀ j, j ≠ 4 → j ≠ 5 + 3 * b → j ≠ 5 + 3 * b + 1 → j ≠ 5 + 3 * b + 1 + 1 → up2 c2 4 0 (m 10 + nI (gL m f b)) j = c j := fun j h0 h1 h2 h3 => by
        rw [up2_r _ _ h0, p3 j h2 h3, hc1 j h1]
      have c24 : c2 4 = c 4 := (p3 4 (by omega) (by omega)).trans (hc1 4 (by omega))
      have c2b : c2 (5 + 3 * b) = up2 c (5 + 3 * b) 5 (nI (gL m f b)) (5 + 3 * b) := p3 _ (by omega) (by omega)
      have em : ∀ j, j ≠ 10 → j ≠ 14 + 6 * b + 4 → (sG b (m, f, acc)).1 j = m j := fun j h1 h2 => by
        show gM m f b j = m j
        unfold gM
        rw [if_pos (by omega), pk_un h1, pk_un h2]
      have rt' : RT (Qk b) σ (up2 c2 4 0 (m 10 + nI (gL m f b))) l (sG b (m, f, acc)) := by
        refine ⟨fun k hk => ?_, ?_, ?_, ?_, ?_, ?_, ?_, fun h => ?_, fun k hk => ?_, fun b' hb' => ?_, fun i hi k hk => ?_⟩
        · rw [ec 1 (by omega) (by omega) (by omega) (by omega), em k (by omega) (by omega)]
          exact t1 k hk
        · rw [ec 0 (by omega) (by omega) (by omega) (by omega), em _ (by omega) (by omega)]
          exact t04
        · rw [ec 0 (by omega) (by omega) (by omega) (by omega), em _ (by omega) (by omega)]
          exact t05
        · rw [ec 0 (by omega) (by omega) (by omega) (by omega), em _ (by omega) (by omega)]
          exact t06
        · rw [up2_s]
          show _ = gM m f b 10
          unfold gM
          rw [if_pos (by omega), pk_us]
        · rw [up2_k _ _ (by omega), c24, em _ (by omega) (by omega)]
          exact t41
        · rw [up2_k _ _ (by omega), c24, em _ (by omega) (by omega)]
          exact t42
        · rw [em _ (by omega) (by omega)] at h
          rw [up2_k _ _ (by omega), c24, em _ (by omega) (by omega)]
          exact t43 h
        · exact tl k hk
        · rw [em 8 (by omega) (by omega), n8] at hb'
          by_cases hbb : b' = b
          · subst hbb
            refine ⟨fun k hk => ?_, fun h0 => ?_, ?_⟩
            · rw [up2_c _ _ (by omega), c2b]
              by_cases hk4 : k = 4
              · subst hk4
                rw [up2_s]
                show _ = gM m f b' (14 + 6 * b' + 4)
                unfold gM
                rw [if_pos (by omega), pk_un (by omega), pk_us]
              · rw [up2_k _ _ (by omega), em _ (by omega) (by omega)]
                exact tb1 k hk
            · rw [up2_c _ _ (by omega), c2b, up2_k _ _ (by omega), em _ (by omega) (by omega)]
              unfold Qk at h0 tb2
              exact tb2 (by omega)
            · exact LY_congr (LY_fr p2 (up2_r _ _ (by omega)) (up2_r _ _ (by omega))) (gF_b n7 hz)
          · obtain ⟨v1, v2, v3⟩ := tb b' (by omega)
            refine ⟨fun k hk => ?_, fun h0 => ?_, ?_⟩
            · rw [ec _ (by omega) (by omega) (by omega) (by omega), em _ (by omega) (by omega)]
              exact v1 k hk
            · rw [ec _ (by omega) (by omega) (by omega) (by omega), em _ (by omega) (by omega)]
              unfold Qk at h0 v2
              exact v2 (by omega)
            · have e : (sG b (m, f, acc)).2.1 b' = f b' := gF_o (m := m) hbb (fun h => absurd (show b + 1 = nt (m 8) by omega) h)
              rw [e]
              exact LY_fr v3 (ec _ (by omega) (by omega) (by omega) (by omega)) (ec _ (by omega) (by omega) (by omega) (by omega))
        · rw [em 9 (by omega) (by omega)] at hi
          have h6 := sl i (by omega)
          rw [ec _ (by omega) (by omega) (by omega) (by omega), em _ (by omega) (by omega)]
          exact ts i hi k hk
      obtain ⟨c', r1, r2⟩ := ih (sG b (m, f, acc)) _ n gG (by omega) rt' (by omega)
      refine ⟨c', ?_, r2⟩
      have p1' := p1
      rw [← r1, fbs_X5_creepDown_7]
      unfold fs_X5_creepDown_7 fs_X5_creepDown_104
      simp (disch := omega) only [↓lm1, l0, l1, l2, l3, l4, l5, l6, l7, l8, l9, l10, l11, l12, l13, l14, l31, l32, l44, l48, l50, l57, l59, l60, l74, l100, l110, l126, l300, l330, l500, l501, l801, l1000, l5000, l5010, l8010, l8192, l9000, l10000, l1000000, nI_add, pk_mul, nI_clamp, nI_leI, nI_ltI, nI_eq, chk_d, chk_t, chk_inb, rfm_s, bnd_e, cal_e, calR_e, if_pos, if_neg, k0, r00, r01, r02, r03, k1, n1, k2, n2, k3, n3, k4, rb, kb, rl, rs, ks, kl, nI_m1, hnk, if_false, TV_g hq, TV_s hq, e1, up2_s, up2_c, t04, h8, p1, c2b, c24, t40]
    · have lgb1 := lg (b + 1) (by omega)
      obtain ⟨w1, w2, w3⟩ := tb (b + 1) (by omega)
      have w3' : LY (up2 c (5 + 3 * b) 5 (nI (gL m f b))) (5 + 3 * (b + 1) + 1) (f (b + 1)) := LY_fr w3 (hc1 _ (by omega)) (hc1 _ (by omega))
      obtain ⟨c2, p1, p2, p4, p3⟩ := x2_give hq lgb lgb1 (by omega) M l tb3' w3' (w := gL m f b) (by omega) (by omega)
      have ec : ∀ j, j ≠ 5 + 3 * b → j ≠ 5 + 3 * b + 1 → j ≠ 5 + 3 * b + 1 + 1 → j ≠ 5 + 3 * (b + 1) → j ≠ 5 + 3 * (b + 1) + 1 → j ≠ 5 + 3 * (b + 1) + 1 + 1 → up2 c2 (5 + 3 * (b + 1)) 6 (nI (gL m f b)) j = c j := fun j h0 h1 h2 h3 h4 h5 => by
        rw [up2_r _ _ h3, p3 j h1 h2 h4 h5, hc1 j h0]
      have c2b : c2 (5 + 3 * b) = up2 c (5 + 3 * b) 5 (nI (gL m f b)) (5 + 3 * b) := p3 _ (by omega) (by omega) (by omega) (by omega)
      have c2b1 : c2 (5 + 3 * (b + 1)) = c (5 + 3 * (b + 1)) := (p3 _ (by omega) (by omega) (by omega) (by omega)).trans (hc1 _ (by omega))
      have em : ∀ j, j ≠ 14 + 6 * (b + 1) + 5 → j ≠ 14 + 6 * b + 4 → (sG b (m, f, acc)).1 j = m j := fun j h1 h2 => by
        show gM m f b j = m j
        unfold gM
        rw [if_neg (by omega), pk_un h1, pk_un h2]
      have rt' : RT (Qk b) σ (up2 c2 (5 + 3 * (b + 1)) 6 (nI (gL m f b))) l (sG b (m, f, acc)) := by
        refine ⟨fun k hk => ?_, ?_, ?_, ?_, ?_, ?_, ?_, fun h => ?_, fun k hk => ?_, fun b' hb' => ?_, fun i hi k hk => ?_⟩
        · rw [ec 1 (by omega) (by omega) (by omega) (by omega) (by omega) (by omega), em k (by omega) (by omega)]
          exact t1 k hk
        · rw [ec 0 (by omega) (by omega) (by omega) (by omega) (by omega) (by omega), em _ (by omega) (by omega)]
          exact t04
        · rw [ec 0 (by omega) (by omega) (by omega) (by omega) (by omega) (by omega), em _ (by omega) (by omega)]
          exact t05
        · rw [ec 0 (by omega) (by omega) (by omega) (by omega) (by omega) (by omega), em _ (by omega) (by omega)]
          exact t06
        · rw [ec 4 (by omega) (by omega) (by omega) (by omega) (by omega) (by omega), em _ (by omega) (by omega)]
          exact t40
        · rw [ec 4 (by omega) (by omega) (by omega) (by omega) (by omega) (by omega), em _ (by omega) (by omega)]
          exact t41
        · rw [ec 4 (by omega) (by omega) (by omega) (by omega) (by omega) (by omega), em _ (by omega) (by omega)]
          exact t42
        · rw [em _ (by omega) (by omega)] at h
          rw [ec 4 (by omega) (by omega) (by omega) (by omega) (by omega) (by omega), em _ (by omega) (by omega)]
          exact t43 h
        · exact tl k hk
        · rw [em 8 (by omega) (by omega), n8] at hb'
          by_cases hbb : b' = b
          · subst hbb
            refine ⟨fun k hk => ?_, fun h0 => ?_, ?_⟩
            · rw [up2_c _ _ (by omega), c2b]
              by_cases hk4 : k = 4
              · subst hk4
                rw [up2_s]
                show _ = gM m f b' (14 + 6 * b' + 4)
                unfold gM
                rw [if_neg (by omega), pk_un (by omega), pk_us]
              · rw [up2_k _ _ (by omega), em _ (by omega) (by omega)]
                exact tb1 k hk
            · rw [up2_c _ _ (by omega), c2b, up2_k _ _ (by omega), em _ (by omega) (by omega)]
              unfold Qk at h0 tb2
              exact tb2 (by omega)
            · exact LY_congr (LY_fr p2 (up2_r _ _ (by omega)) (up2_r _ _ (by omega))) (gF_b n7 hz)
          · by_cases hbb1 : b' = b + 1
            · subst hbb1
              refine ⟨fun k hk => ?_, fun h0 => ?_, ?_⟩
              · rw [up2_k _ _ (by omega), c2b1, em _ (by omega) (by omega)]
                exact w1 k hk
              · rw [up2_s]
                show _ = gM m f b (14 + 6 * (b + 1) + 5)
                unfold gM
                rw [if_neg (by omega), pk_us]
              · exact LY_congr (LY_fr p4 (up2_r _ _ (by omega)) (up2_r _ _ (by omega))) (gF_b1 (m := m) n7 hz (by omega))
            · obtain ⟨v1, v2, v3⟩ := tb b' (by omega)
              refine ⟨fun k hk => ?_, fun h0 => ?_, ?_⟩
              · rw [ec _ (by omega) (by omega) (by omega) (by omega) (by omega) (by omega), em _ (by omega) (by omega)]
                exact v1 k hk
              · rw [ec _ (by omega) (by omega) (by omega) (by omega) (by omega) (by omega), em _ (by omega) (by omega)]
                unfold Qk at h0 v2
                exact v2 (by omega)
              · have e : (sG b (m, f, acc)).2.1 b' = f b' := gF_o hbb (fun _ => hbb1)
                rw [e]
                exact LY_fr v3 (ec _ (by omega) (by omega) (by omega) (by omega) (by omega) (by omega)) (ec _ (by omega) (by omega) (by omega) (by omega) (by omega) (by omega))
        · rw [em 9 (by omega) (by omega)] at hi
          have h6 := sl i (by omega)
          rw [ec _ (by omega) (by omega) (by omega) (by omega) (by omega) (by omega), em _ (by omega) (by omega)]
          exact ts i hi k hk
      obtain ⟨c', r1, r2⟩ := ih (sG b (m, f, acc)) _ n gG (by omega) rt' (by omega)
      refine ⟨c', ?_, r2⟩
      rw [← r1, fbs_X5_creepDown_7]
      unfold fs_X5_creepDown_7 fs_X5_creepDown_104
      simp (disch := omega) only [↓lm1, l0, l1, l2, l3, l4, l5, l6, l7, l8, l9, l10, l11, l12, l13, l14, l31, l32, l44, l48, l50, l57, l59, l60, l74, l100, l110, l126, l300, l330, l500, l501, l801, l1000, l5000, l5010, l8010, l8192, l9000, l10000, l1000000, nI_add, pk_mul, nI_clamp, nI_leI, nI_ltI, nI_eq, chk_d, chk_t, chk_inb, rfm_s, bnd_e, cal_e, calR_e, if_pos, if_neg, k0, r00, r01, r02, r03, k1, n1, k2, n2, k3, n3, k4, rb, kb, rl, rs, ks, kl, nI_m1, hnk, if_false, TV_g hq, TV_s hq, e1, up2_s, up2_c, t04, h8, p1, c2b]
theorem x5_creepDown {T : Ty} {R : Rm} {q σ : Nat → Nat} (G : TG T R q σ) (M : Mm) {l : Nat → Int64} {K Y nb ns : Nat} (hK : K < 2 ^ 30) {s : Sx} {c : Nat → Nat → Int32} (g : GS K Y nb ns s) (hn : 0 < nb) (rt : RT (fun b => b = 0) σ c l s) : ∃ c', fn_X5_creepDown T R (q 0) (TV q M c l) = some ((), TV q M c' l) ∧ RT (fun _ => True) σ c' l (itD sG nb s) := by
  have G0 := G
  have hnb := g.2.2.2.2.2.1
  have h8 := g.2.2.1
  have rt' : RT (Qk nb) σ c l s := by
    obtain ⟨t1, t04, t05, t06, t40, t41, t42, t43, tl, tb, ts⟩ := rt
    refine ⟨t1, t04, t05, t06, t40, t41, t42, t43, tl, fun b hb => ?_, ts⟩
    obtain ⟨v1, v2, v3⟩ := tb b hb
    rw [g.2.2.2.2.2.2.2.2.1] at hb
    exact ⟨v1, fun h => v2 (by unfold Qk at h; omega), v3⟩
  have t04 := rt.2.1
  obtain ⟨c', r1, r2⟩ := x5_creepDown_loop G0 M (l := l) hK nb s c FU g (Nat.le_refl _) rt' (FU_gt (by omega))
  refine ⟨c', ?_, r2⟩
  obtain ⟨hq, k0, r00, r01, r02, r03, k1, n1, k2, n2, k3, n3, k4, rb, kb, rl, lg, rs, ks, sl, si⟩ := G
  have en : nI nb - nI 1 = nI nb + nONE := by
    obtain ⟨k, rfl⟩ : ∃ k, nb = k + 1 := ⟨nb - 1, by omega⟩
    rw [nI_m1, nIs (by omega)]
    rfl
  unfold fn_X5_creepDown
  simp (disch := omega) only [↓lm1, l0, l1, l2, l3, l4, l5, l6, l7, l8, l9, l10, l11, l12, l13, l14, l31, l32, l44, l48, l50, l57, l59, l60, l74, l100, l110, l126, l300, l330, l500, l501, l801, l1000, l5000, l5010, l8010, l8192, l9000, l10000, l1000000, chk_d, chk_t, chk_inb, rfm_s, bnd_e, cal_e, calR_e, if_pos, if_neg, k0, r00, r01, r02, r03, k1, n1, k2, n2, k3, n3, k4, rb, kb, rl, rs, ks, TV_g hq, t04, h8, en, r1]

