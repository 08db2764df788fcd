/-! both together: the years until something is so -/
def soB (w : Nat) (p : Int32) (s : Sx) (Y nb ns : Nat) : Bool := if w = 0 then !decide (s.1 12 ≤ p) else if w = 1 then decide (tot s.2.1 Y nb = 0) else decide (sm (stN s.1) ns = 0)
theorem nI_nf {k : Nat} (h : k < 2 ^ 31) : (nI k = -2000000004) = False := eq_false (fun e => nI_pos h (by
  rw [e]
  decide))
theorem x6_isSo {ad : Nat → Nat} {T : Ty} {R : Rm} {σ : Nat → Nat} (tg : TG T R (qq ad 1) σ) (w0 : isK T (ad 0) 6 = true) (zt : R (ad 0) 0 = some (qq ad 1 0)) (M : Mm) {c : Nat → Nat → Int32} {l : Nat → Int64} {s : Sx} {K Y nb ns : Nat} (g : GS K Y nb ns s) (hK : K < 2 ^ 30) (rt : RT QT σ c l s) {w : Nat} (hw : w < 3) (p : Int32) : fn_X6_isSoInTrial T R (ad 0) (nI w) p (TV (qq ad 1) M c l) = some (bI (soB w p s Y nb ns), TV (qq ad 1) M c l) := by
  have k1' : isK T (qq ad 1 0) 5 = true := tg.2.1
  have k14 : isK T (qq ad 1 4) 1 = true := tg.2.2.2.2.2.2.2.2.2.2.2.2.1
  have r14 : R (qq ad 1 0) 3 = some (qq ad 1 4) := tg.2.2.2.2.2.1
  have hns := g.2.2.2.2.2.2.1
  obtain ⟨F, _, hF⟩ := GS_tot g
  unfold fn_X6_isSoInTrial
  rcases (show w = 0 ∨ w = 1 ∨ w = 2 by omega) with rfl | rfl | rfl
  · have r1 : gI (TV (qq ad 1) M c l) (qq ad 1 4) 2 = s.1 12 := (TV_g tg.1 M c l 2 (by omega)).trans rt.2.2.2.2.2.2.1
    by_cases hc : s.1 12 ≤ p
    · have e : soB 0 p s Y nb ns = false := by simp [soB, hc]
      rw [e]
      simp (disch := omega) only [↓cal_w6, ↓cal_w7, ↓lm1, l0, l1, l2, l3, l4, l5, l6, l7, l8, l9, l10, l11, l12, l13, l14, l31, l32, l44, l48, l50, l57, l59, l60, l74, l100, l110, l126, l300, l330, l500, l501, l801, l1000, l5000, l5010, l8010, l8192, l9000, l10000, l1000000, and_self, and_true, true_and, and_false, false_and, nI_add, pk_mul, nI_clamp, ↓reduceIte, eF, lT, lF, leT, leF, chk_d, chk_t, chk_inb, rfm_s, bnd_e, cal_e, calR_e, w0, zt, k1', k14, r14, r1, hc, bI, cond_false]
    · have e : soB 0 p s Y nb ns = true := by simp [soB, hc]
      rw [e]
      simp (disch := omega) only [↓cal_w6, ↓cal_w7, ↓lm1, l0, l1, l2, l3, l4, l5, l6, l7, l8, l9, l10, l11, l12, l13, l14, l31, l32, l44, l48, l50, l57, l59, l60, l74, l100, l110, l126, l300, l330, l500, l501, l801, l1000, l5000, l5010, l8010, l8192, l9000, l10000, l1000000, and_self, and_true, true_and, and_false, false_and, nI_add, pk_mul, nI_clamp, ↓reduceIte, eF, lT, lF, leT, leF, chk_d, chk_t, chk_inb, rfm_s, bnd_e, cal_e, calR_e, w0, zt, k1', k14, r14, r1, hc, bI, cond_true]
  · have r1 := x5_bandIce tg M g rt
    by_cases hc : tot s.2.1 Y nb = 0
    · have e : soB 1 p s Y nb ns = true := by simp [soB, hc]
      rw [e]
      rw [hc] at r1
      simp (disch := omega) only [↓cal_w6, ↓cal_w7, ↓lm1, l0, l1, l2, l3, l4, l5, l6, l7, l8, l9, l10, l11, l12, l13, l14, l31, l32, l44, l48, l50, l57, l59, l60, l74, l100, l110, l126, l300, l330, l500, l501, l801, l1000, l5000, l5010, l8010, l8192, l9000, l10000, l1000000, and_self, and_true, true_and, and_false, false_and, nI_add, pk_mul, nI_clamp, ↓reduceIte, eF, lT, lF, leT, leF, chk_d, chk_t, chk_inb, rfm_s, bnd_e, cal_e, calR_e, w0, zt, k1', r1, bI, cond_true]
    · have e : soB 1 p s Y nb ns = false := by simp [soB, hc]
      rw [e]
      simp (disch := omega) only [↓cal_w6, ↓cal_w7, ↓lm1, l0, l1, l2, l3, l4, l5, l6, l7, l8, l9, l10, l11, l12, l13, l14, l31, l32, l44, l48, l50, l57, l59, l60, l74, l100, l110, l126, l300, l330, l500, l501, l801, l1000, l5000, l5010, l8010, l8192, l9000, l10000, l1000000, and_self, and_true, true_and, and_false, false_and, nI_add, pk_mul, nI_clamp, ↓reduceIte, eF, lT, lF, leT, leF, chk_d, chk_t, chk_inb, rfm_s, bnd_e, cal_e, calR_e, w0, zt, k1', r1, bI, cond_false]
  · have r1 := x5_standing tg M g rt
    have hle : sm (stN s.1) ns ≤ ns := by
      have hl : ∀ k, sm (stN s.1) k ≤ k := by
        intro k
        induction k with
        | zero => exact Nat.le_refl _
        | succ k ih =>
          rw [sm_s]
          have : stN s.1 k ≤ 1 := by
            unfold stN
            split <;> omega
          omega
      exact hl ns
    by_cases hc : sm (stN s.1) ns = 0
    · have e : soB 2 p s Y nb ns = true := by simp [soB, hc]
      rw [e]
      rw [hc] at r1
      simp (disch := omega) only [↓cal_w6, ↓cal_w7, ↓lm1, l0, l1, l2, l3, l4, l5, l6, l7, l8, l9, l10, l11, l12, l13, l14, l31, l32, l44, l48, l50, l57, l59, l60, l74, l100, l110, l126, l300, l330, l500, l501, l801, l1000, l5000, l5010, l8010, l8192, l9000, l10000, l1000000, and_self, and_true, true_and, and_false, false_and, nI_add, pk_mul, nI_clamp, ↓reduceIte, eF, lT, lF, leT, leF, chk_d, chk_t, chk_inb, rfm_s, bnd_e, cal_e, calR_e, w0, zt, k1', r1, bI, cond_true]
    · have e : soB 2 p s Y nb ns = false := by simp [soB, hc]
      rw [e]
      simp (disch := omega) only [↓cal_w6, ↓cal_w7, ↓lm1, l0, l1, l2, l3, l4, l5, l6, l7, l8, l9, l10, l11, l12, l13, l14, l31, l32, l44, l48, l50, l57, l59, l60, l74, l100, l110, l126, l300, l330, l500, l501, l801, l1000, l5000, l5010, l8010, l8192, l9000, l10000, l1000000, and_self, and_true, true_and, and_false, false_and, nI_add, pk_mul, nI_clamp, ↓reduceIte, eF, lT, lF, leT, leF, chk_d, chk_t, chk_inb, rfm_s, bnd_e, cal_e, calR_e, w0, zt, k1', r1, bI, cond_false]
theorem x7_isSo {ad : Nat → Nat} {T : Ty} {R : Rm} (G : RG ad T R) (M : Mm) {s : Sx} {K Y nb ns : Nat} (g : GS K Y nb ns s) (hK : K < 2 ^ 30) {w : Nat} (hw : w < 3) (p : Int32) : fn_X7_isSo T R (ad 250) (nI w) p (PS ad M s) = some (bI (soB w p s Y nb ns), PS ad M s) := by
  have G0 := G
  have P := RS_RP (PS_RS G.1 M s)
  have hns := g.2.2.2.2.2.2.1
  have hnb := g.2.2.2.2.2.1
  have hY8 := g.2.2.2.2.1
  obtain ⟨F, _, hF⟩ := GS_tot g
  obtain ⟨hi, k0, k251, n251, r251, -⟩ := G
  unfold fn_X7_isSo
  rcases (show w = 0 ∨ w = 1 ∨ w = 2 by omega) with rfl | rfl | rfl
  · have r1 := P.1 12 (by omega)
    by_cases hc : s.1 12 ≤ p
    · have e : soB 0 p s Y nb ns = false := by simp [soB, hc]
      rw [e]
      simp (disch := omega) only [↓cal_w6, ↓cal_w7, ↓lm1, l0, l1, l2, l3, l4, l5, l6, l7, l8, l9, l10, l11, l12, l13, l14, l31, l32, l44, l48, l50, l57, l59, l60, l74, l100, l110, l126, l300, l330, l500, l501, l801, l1000, l5000, l5010, l8010, l8192, l9000, l10000, l1000000, and_self, and_true, true_and, and_false, false_and, nI_add, pk_mul, nI_clamp, ↓reduceIte, eF, lT, lF, leT, leF, chk_d, chk_t, chk_inb, rfm_s, bnd_e, cal_e, calR_e, k0, k251, n251, r251, r1, hc, bI, cond_false]
    · have e : soB 0 p s Y nb ns = true := by simp [soB, hc]
      rw [e]
      simp (disch := omega) only [↓cal_w6, ↓cal_w7, ↓lm1, l0, l1, l2, l3, l4, l5, l6, l7, l8, l9, l10, l11, l12, l13, l14, l31, l32, l44, l48, l50, l57, l59, l60, l74, l100, l110, l126, l300, l330, l500, l501, l801, l1000, l5000, l5010, l8010, l8192, l9000, l10000, l1000000, and_self, and_true, true_and, and_false, false_and, nI_add, pk_mul, nI_clamp, ↓reduceIte, eF, lT, lF, leT, leF, chk_d, chk_t, chk_inb, rfm_s, bnd_e, cal_e, calR_e, k0, k251, n251, r251, r1, hc, bI, cond_true]
  · have r1 : fn_X7_allOfBands T R (ad 250) (PS ad M s) = some (nI (tot s.2.1 Y nb), PS ad M s) := x7_allOfBands G0 P g.2.1 (by omega) g.2.2.1 hnb
    by_cases hc : tot s.2.1 Y nb = 0
    · have e : soB 1 p s Y nb ns = true := by simp [soB, hc]
      rw [e]
      rw [hc] at r1
      simp (disch := omega) only [↓cal_w6, ↓cal_w7, ↓lm1, l0, l1, l2, l3, l4, l5, l6, l7, l8, l9, l10, l11, l12, l13, l14, l31, l32, l44, l48, l50, l57, l59, l60, l74, l100, l110, l126, l300, l330, l500, l501, l801, l1000, l5000, l5010, l8010, l8192, l9000, l10000, l1000000, and_self, and_true, true_and, and_false, false_and, nI_add, pk_mul, nI_clamp, ↓reduceIte, eF, lT, lF, leT, leF, chk_d, chk_t, chk_inb, rfm_s, bnd_e, cal_e, calR_e, k0, r1, bI, cond_true]
    · have e : soB 1 p s Y nb ns = false := by simp [soB, hc]
      rw [e]
      simp (disch := omega) only [↓cal_w6, ↓cal_w7, ↓lm1, l0, l1, l2, l3, l4, l5, l6, l7, l8, l9, l10, l11, l12, l13, l14, l31, l32, l44, l48, l50, l57, l59, l60, l74, l100, l110, l126, l300, l330, l500, l501, l801, l1000, l5000, l5010, l8010, l8192, l9000, l10000, l1000000, and_self, and_true, true_and, and_false, false_and, nI_add, pk_mul, nI_clamp, ↓reduceIte, eF, lT, lF, leT, leF, chk_d, chk_t, chk_inb, rfm_s, bnd_e, cal_e, calR_e, k0, r1, bI, cond_false]
  · have r1 := x7_standing G0 P g.2.2.2.1 hns
    have hle : sm (stN s.1) ns ≤ ns := by
      have hl : ∀ k, sm (stN s.1) k ≤ k := by
        intro k
        induction k with
        | zero => exact Nat.le_refl _
        | succ k ih =>
          rw [sm_s]
          have : stN s.1 k ≤ 1 := by
            unfold stN
            split <;> omega
          omega
      exact hl ns
    by_cases hc : sm (stN s.1) ns = 0
    · have e : soB 2 p s Y nb ns = true := by simp [soB, hc]
      rw [e]
      rw [hc] at r1
      simp (disch := omega) only [↓cal_w6, ↓cal_w7, ↓lm1, l0, l1, l2, l3, l4, l5, l6, l7, l8, l9, l10, l11, l12, l13, l14, l31, l32, l44, l48, l50, l57, l59, l60, l74, l100, l110, l126, l300, l330, l500, l501, l801, l1000, l5000, l5010, l8010, l8192, l9000, l10000, l1000000, and_self, and_true, true_and, and_false, false_and, nI_add, pk_mul, nI_clamp, ↓reduceIte, eF, lT, lF, leT, leF, chk_d, chk_t, chk_inb, rfm_s, bnd_e, cal_e, calR_e, k0, r1, bI, cond_true]
    · have e : soB 2 p s Y nb ns = false := by simp [soB, hc]
      rw [e]
      simp (disch := omega) only [↓cal_w6, ↓cal_w7, ↓lm1, l0, l1, l2, l3, l4, l5, l6, l7, l8, l9, l10, l11, l12, l13, l14, l31, l32, l44, l48, l50, l57, l59, l60, l74, l100, l110, l126, l300, l330, l500, l501, l801, l1000, l5000, l5010, l8010, l8192, l9000, l10000, l1000000, and_self, and_true, true_and, and_false, false_and, nI_add, pk_mul, nI_clamp, ↓reduceIte, eF, lT, lF, leT, leF, chk_d, chk_t, chk_inb, rfm_s, bnd_e, cal_e, calR_e, k0, r1, bI, cond_false]
def yt (w : Nat) (s : Sx) (Y nb ns : Nat) : Nat → Nat → Int32
  | 0, _ => -2000000004
  | d + 1, j => if soB w ((sYs j s).1 12) (sYs (j + 1) s) (Y + (j + 1)) nb ns = true then nI (j + 1) else yt w s Y nb ns d (j + 1)
theorem yt_t {w : Nat} {s : Sx} {Y nb ns d j : Nat} (h : soB w ((sYs j s).1 12) (sYs (j + 1) s) (Y + (j + 1)) nb ns = true) : yt w s Y nb ns (d + 1) j = nI (j + 1) := if_pos h
theorem yt_f {w : Nat} {s : Sx} {Y nb ns d j : Nat} (h : soB w ((sYs j s).1 12) (sYs (j + 1) s) (Y + (j + 1)) nb ns = false) : yt w s Y nb ns (d + 1) j = yt w s Y nb ns d (j + 1) := if_neg (by rw [h]; decide)
theorem bIt : bI true = nI 1 := rfl
theorem bIf : bI false = nI 0 := rfl
theorem x6_yearsTo_loop {ad : Nat → Nat} {T : Ty} {R : Rm} {σ : Nat → Nat} (tg : TG T R (qq ad 1) σ) (w0 : isK T (ad 0) 6 = true) (zt : R (ad 0) 0 = some (qq ad 1 0)) (M : Mm) {s : Sx} {Y nb ns : Nat} (g : GS (1000000 * nb + 300000 * Y) Y nb ns s) (hY5 : Y ≤ 500) (hn : 0 < nb) {w : Nat} (hw : w < 3) : ∀ d j c l fuel, j + d = 300 → RT QT σ c l (sYs j s) → d < fuel → ∃ c' l', fb_X6_yearsTo_38 T R (ad 0) (nI w) fuel (nI (j + 1)) (TV (qq ad 1) M c l) = some (yt w s Y nb ns d j, TV (qq ad 1) M c' l') := by
  have hnb := g.2.2.2.2.2.1
  have k1' : isK T (qq ad 1 0) 5 = true := tg.2.1
  have k14 : isK T (qq ad 1 4) 1 = true := tg.2.2.2.2.2.2.2.2.2.2.2.2.1
  have r14 : R (qq ad 1 0) 3 = some (qq ad 1 4) := tg.2.2.2.2.2.1
  intro d
  induction d with
  | zero =>
    intro j c l fuel h1 rt hf
    obtain ⟨n', rfl⟩ : ∃ n', fuel = n' + 1 := ⟨fuel - 1, by omega⟩
    refine ⟨c, l, ?_⟩
    rw [fbs_X6_yearsTo_38]
    unfold fs_X6_yearsTo_38
    simp (disch := omega) only [↓cal_w6, ↓cal_w7, ↓lm1, l0, l1, l2, l3, l4, l5, l6, l7, l8, l9, l10, l11, l12, l13, l14, l31, l32, l44, l48, l50, l57, l59, l60, l74, l100, l110, l126, l300, l330, l500, l501, l801, l1000, l5000, l5010, l8010, l8192, l9000, l10000, l1000000, and_self, and_true, true_and, and_false, false_and, nI_add, pk_mul, nI_clamp, ↓reduceIte, eF, lT, lF, leT, leF, chk_d, chk_t, chk_inb, rfm_s, bnd_e, cal_e, calR_e, yt]
  | succ d ih =>
    intro j c l fuel h1 rt hf
    obtain ⟨n', rfl⟩ : ∃ n', fuel = n' + 1 := ⟨fuel - 1, by omega⟩
    have gj := GS_Ys g j (by omega) (by omega)
    have gj1 := GS_Ys g (j + 1) (by omega) (by omega)
    obtain ⟨c', l', p1, p2⟩ := x5_year tg M gj (by omega) hn (by omega) rt
    have rt1 : RT QT σ c' l' (sYs (j + 1) s) := p2
    have r1 : gI (TV (qq ad 1) M c l) (qq ad 1 4) 2 = (sYs j s).1 12 := (TV_g tg.1 M c l 2 (by omega)).trans rt.2.2.2.2.2.2.1
    have so := x6_isSo tg w0 zt M gj1 (by omega) rt1 hw ((sYs j s).1 12)
    cases hs : soB w ((sYs j s).1 12) (sYs (j + 1) s) (Y + (j + 1)) nb ns with
    | true =>
      rw [hs, bIt] at so
      refine ⟨c', l', ?_⟩
      rw [yt_t hs, fbs_X6_yearsTo_38]
      unfold fs_X6_yearsTo_38
      simp (disch := omega) only [↓cal_w6, ↓cal_w7, ↓lm1, l0, l1, l2, l3, l4, l5, l6, l7, l8, l9, l10, l11, l12, l13, l14, l31, l32, l44, l48, l50, l57, l59, l60, l74, l100, l110, l126, l300, l330, l500, l501, l801, l1000, l5000, l5010, l8010, l8192, l9000, l10000, l1000000, and_self, and_true, true_and, and_false, false_and, nI_add, pk_mul, nI_clamp, ↓reduceIte, eF, lT, lF, leT, leF, chk_d, chk_t, chk_inb, rfm_s, bnd_e, cal_e, calR_e, w0, zt, k1', k14, r14, r1, p1, so]
    | false =>
      rw [hs, bIf] at so
      obtain ⟨c2, lb, q⟩ := ih (j + 1) c' l' n' (by omega) rt1 (by omega)
      refine ⟨c2, lb, ?_⟩
      rw [yt_f hs, ← q, fbs_X6_yearsTo_38]
      unfold fs_X6_yearsTo_38
      simp (disch := omega) only [↓cal_w6, ↓cal_w7, ↓lm1, l0, l1, l2, l3, l4, l5, l6, l7, l8, l9, l10, l11, l12, l13, l14, l31, l32, l44, l48, l50, l57, l59, l60, l74, l100, l110, l126, l300, l330, l500, l501, l801, l1000, l5000, l5010, l8010, l8192, l9000, l10000, l1000000, and_self, and_true, true_and, and_false, false_and, nI_add, pk_mul, nI_clamp, ↓reduceIte, eF, lT, lF, leT, leF, chk_d, chk_t, chk_inb, rfm_s, bnd_e, cal_e, calR_e, w0, zt, k1', k14, r14, r1, p1, so]
theorem x7_83 {ad : Nat → Nat} {T : Ty} {R : Rm} (G : RG ad T R) (x r : Int32) (M : Mm) : fs_X7_yearsTo_83 T R (ad 250) x r M = some (r, aB ad M) := by
  have a3 : fn_X7_bringBack T R (ad 250) M = some ((), aB ad M) := x7_bringBack G _
  have k0 := G.2.1
  unfold fs_X7_yearsTo_83
  simp only [k0, chk_t, a3, cal_e]
theorem x7_yearsTo_loop {ad : Nat → Nat} {T : Ty} {R : Rm} (G : RG ad T R) (M : Mm) {s : Sx} {Y nb ns : Nat} (g : GS (1000000 * nb + 300000 * Y) Y nb ns s) (hY5 : Y ≤ 500) (hn : 0 < nb) {w : Nat} (hw : w < 3) : ∀ d j fuel, j + d = 300 → d + 1 < fuel → ∃ t, fb_X7_yearsTo_34 T R (ad 250) (nI w) (fs_X7_yearsTo_83 T R (ad 250) (nI w)) fuel (-2000000004) (nI (j + 1)) (PS ad M (sYs j s)) = some (yt w s Y nb ns d j, aB ad (PS ad M t)) := by
  have hnb := g.2.2.2.2.2.1
  have G0 := G
  have e83 := x7_83 G (nI w)
  obtain ⟨hi, k0, k251, n251, r251, -⟩ := G
  intro d
  induction d with
  | zero =>
    intro j fuel h1 hf
    obtain ⟨n', rfl⟩ : ∃ n', fuel = n' + 1 := ⟨fuel - 1, by omega⟩
    refine ⟨sYs j s, ?_⟩
    rw [fbs_X7_yearsTo_34]
    unfold fs_X7_yearsTo_34
    simp (disch := omega) only [↓cal_w6, ↓cal_w7, ↓lm1, l0, l1, l2, l3, l4, l5, l6, l7, l8, l9, l10, l11, l12, l13, l14, l31, l32, l44, l48, l50, l57, l59, l60, l74, l100, l110, l126, l300, l330, l500, l501, l801, l1000, l5000, l5010, l8010, l8192, l9000, l10000, l1000000, and_self, and_true, true_and, and_false, false_and, nI_add, pk_mul, nI_clamp, ↓reduceIte, eF, lT, lF, leT, leF, chk_d, chk_t, chk_inb, rfm_s, bnd_e, cal_e, calR_e, yt, e83]
  | succ d ih =>
    intro j fuel h1 hf
    obtain ⟨n', rfl⟩ : ∃ n', fuel = n' + 1 := ⟨fuel - 1, by omega⟩
    have gj := GS_Ys g j (by omega) (by omega)
    have gj1 := GS_Ys g (j + 1) (by omega) (by omega)
    have p1 := x7_year G0 (M := M) gj (by omega) hn (by omega)
    have p1' : fn_X7_year T R (ad 250) (PS ad M (sYs j s)) = some ((), PS ad M (sYs (j + 1) s)) := p1
    have r1 : gI (PS ad M (sYs j s)) (ad 251) 12 = (sYs j s).1 12 := P3_m ad M _ _ _ _
    have so := x7_isSo G0 M gj1 (by omega) hw ((sYs j s).1 12)
    cases hs : soB w ((sYs j s).1 12) (sYs (j + 1) s) (Y + (j + 1)) nb ns with
    | true =>
      rw [hs, bIt] at so
      obtain ⟨n2, rfl⟩ : ∃ n2, n' = n2 + 1 := ⟨n' - 1, by omega⟩
      refine ⟨sYs (j + 1) s, ?_⟩
      have nxt : fb_X7_yearsTo_34 T R (ad 250) (nI w) (fs_X7_yearsTo_83 T R (ad 250) (nI w)) (n2 + 1) (nI (j + 1)) (nI (j + 1 + 1)) (PS ad M (sYs (j + 1) s)) = some (nI (j + 1), aB ad (PS ad M (sYs (j + 1) s))) := by
        have enf := nI_nf (show j + 1 < 2 ^ 31 by omega)
        rw [fbs_X7_yearsTo_34]
        unfold fs_X7_yearsTo_34
        by_cases h3 : 300 < j + 1 + 1
        · simp (disch := omega) only [↓cal_w6, ↓cal_w7, ↓lm1, l0, l1, l2, l3, l4, l5, l6, l7, l8, l9, l10, l11, l12, l13, l14, l31, l32, l44, l48, l50, l57, l59, l60, l74, l100, l110, l126, l300, l330, l500, l501, l801, l1000, l5000, l5010, l8010, l8192, l9000, l10000, l1000000, and_self, and_true, true_and, and_false, false_and, nI_add, pk_mul, nI_clamp, ↓reduceIte, eF, lT, lF, leT, leF, chk_d, chk_t, chk_inb, rfm_s, bnd_e, cal_e, calR_e, e83]
        · simp (disch := omega) only [↓cal_w6, ↓cal_w7, ↓lm1, l0, l1, l2, l3, l4, l5, l6, l7, l8, l9, l10, l11, l12, l13, l14, l31, l32, l44, l48, l50, l57, l59, l60, l74, l100, l110, l126, l300, l330, l500, l501, l801, l1000, l5000, l5010, l8010, l8192, l9000, l10000, l1000000, and_self, and_true, true_and, and_false, false_and, nI_add, pk_mul, nI_clamp, ↓reduceIte, eF, lT, lF, leT, leF, chk_d, chk_t, chk_inb, rfm_s, bnd_e, cal_e, calR_e, e83, enf]
      rw [yt_t hs, fbs_X7_yearsTo_34]
      unfold fs_X7_yearsTo_34 fs_X7_yearsTo_76
      simp (disch := omega) only [↓cal_w6, ↓cal_w7, ↓lm1, l0, l1, l2, l3, l4, l5, l6, l7, l8, l9, l10, l11, l12, l13, l14, l31, l32, l44, l48, l50, l57, l59, l60, l74, l100, l110, l126, l300, l330, l500, l501, l801, l1000, l5000, l5010, l8010, l8192, l9000, l10000, l1000000, and_self, and_true, true_and, and_false, false_and, nI_add, pk_mul, nI_clamp, ↓reduceIte, eF, lT, lF, leT, leF, chk_d, chk_t, chk_inb, rfm_s, bnd_e, cal_e, calR_e, k0, k251, n251, r251, r1, p1', so, nxt]
    | false =>
      rw [hs, bIf] at so
      obtain ⟨t, q⟩ := ih (j + 1) n' (by omega) (by omega)
      refine ⟨t, ?_⟩
      rw [yt_f hs, ← q, fbs_X7_yearsTo_34]
      unfold fs_X7_yearsTo_34 fs_X7_yearsTo_76
      simp (disch := omega) only [↓cal_w6, ↓cal_w7, ↓lm1, l0, l1, l2, l3, l4, l5, l6, l7, l8, l9, l10, l11, l12, l13, l14, l31, l32, l44, l48, l50, l57, l59, l60, l74, l100, l110, l126, l300, l330, l500, l501, l801, l1000, l5000, l5010, l8010, l8192, l9000, l10000, l1000000, and_self, and_true, true_and, and_false, false_and, nI_add, pk_mul, nI_clamp, ↓reduceIte, eF, lT, lF, leT, leF, chk_d, chk_t, chk_inb, rfm_s, bnd_e, cal_e, calR_e, k0, k251, n251, r251, r1, p1', so]
theorem g_yearsTo {ad : Nat → Nat} {T : Ty} {M : Mm} {R : Rm} {s : Sx} {n : Nat} {h : Nat → Sx} {tl' : Nat} {tx : Nat → Nat} {β : Nat → Nat} {σ : Nat → Nat → Nat} (w : WD ad T M R s n h tl' tx β σ) (x : Int32) : SR ad T R (fn_X6_yearsTo T R (ad 0) x M) (fun M1 => fn_X7_yearsTo T R (ad 250) x M1) := by
  have w1 := w
  obtain ⟨G, hs, ct, GR, rsw, rk, rx⟩ := w
  have hi := GR.1
  have b4 := CG_bs G (show 4 < 5 by omega)
  have tg := CG_tg G (.inr b4)
  have tg0 := tg
  have hM := M_TV hi M (β 4)
  have rt := hs.2.2.1
  have rt0 := rt
  obtain ⟨Y, nb, ns, g, hY5, hz⟩ := hs.2.2.2.2.1
  have P := RS_RP rsw
  have I := g.1.1
  have hY8 := g.2.2.2.2.1
  have hnb := g.2.2.2.2.2.1
  have hns := g.2.2.2.2.2.2.1
  have n7 := g.2.2.2.2.2.2.2.1
  have n8 := g.2.2.2.2.2.2.2.2.1
  have n9 := g.2.2.2.2.2.2.2.2.2
  have h7 := g.2.1
  have h8 := g.2.2.1
  have h9 := g.2.2.2.1
  have hK : 1000000 * nb + 300000 * Y < 2 ^ 30 := by omega
  have z0 := G.2.2.2.2.1
  have w0 := G.1
  have p7 : gI M (ad 251) 7 = nI Y := (P.1 7 (by omega)).trans h7
  have p8 : gI M (ad 251) 8 = nI nb := (P.1 8 (by omega)).trans h8
  have p9 : gI M (ad 251) 9 = nI ns := (P.1 9 (by omega)).trans h9
  have GR0 := GR
  obtain ⟨_, kR, k251, n251, r251, k252, n252, r252, k253, n253, r253, k254, n254, r254, k255, n255, r255, k256, n256, r256, k257, n257, r257, k258, n258, r258, k259, n259, r259, k260, n260, r260, k261, n261, r261⟩ := GR
  obtain ⟨t1, t04, t05, t06, t40, t41, t42, t43, tl, tb, ts⟩ := rt
  rw [h8] at t04
  rw [h9] at t05
  rw [h7] at t06
  obtain ⟨hq, k0, r00, r01, r02, r03, k1, n1, k2, n2, k3, n3, k4, rb, kb, rl, lg, rs, ks, sl, si⟩ := tg
  by_cases hx : nI 0 ≤ x ∧ x ≤ nI 2
  rotate_left
  · have hx' : (nI 0 ≤ x ∧ x ≤ nI 2) = False := eq_false hx
    refine SR_no w1 (-2000000001) ?_ ?_
    · unfold fn_X6_yearsTo
      simp (disch := omega) only [↓cal_w6, ↓cal_w7, ↓lm1, l0, l1, l2, l3, l4, l5, l6, l7, l8, l9, l10, l11, l12, l13, l14, l31, l32, l44, l48, l50, l57, l59, l60, l74, l100, l110, l126, l300, l330, l500, l501, l801, l1000, l5000, l5010, l8010, l8192, l9000, l10000, l1000000, and_self, and_true, true_and, and_false, false_and, nI_add, pk_mul, nI_clamp, ↓reduceIte, eF, lT, lF, leT, leF, chk_d, chk_t, chk_inb, rfm_s, bnd_e, cal_e, calR_e, hx']
    · show fn_X7_yearsTo T R (ad 250) x M = _
      unfold fn_X7_yearsTo
      simp (disch := omega) only [↓cal_w6, ↓cal_w7, ↓lm1, l0, l1, l2, l3, l4, l5, l6, l7, l8, l9, l10, l11, l12, l13, l14, l31, l32, l44, l48, l50, l57, l59, l60, l74, l100, l110, l126, l300, l330, l500, l501, l801, l1000, l5000, l5010, l8010, l8192, l9000, l10000, l1000000, and_self, and_true, true_and, and_false, false_and, nI_add, pk_mul, nI_clamp, ↓reduceIte, eF, lT, lF, leT, leF, chk_d, chk_t, chk_inb, rfm_s, bnd_e, cal_e, calR_e, hx']
  obtain ⟨v, rfl, v1, v2⟩ := bet hx (by omega) (by omega)
  have hx' : (nI 0 ≤ nI v ∧ nI v ≤ nI 2) = True := eq_true hx
  by_cases h0 : nb = 0
  · subst h0
    refine SR_no w1 (-2000000002) ?_ ?_
    · unfold fn_X6_yearsTo
      simp (disch := omega) only [↓cal_w6, ↓cal_w7, ↓lm1, l0, l1, l2, l3, l4, l5, l6, l7, l8, l9, l10, l11, l12, l13, l14, l31, l32, l44, l48, l50, l57, l59, l60, l74, l100, l110, l126, l300, l330, l500, l501, l801, l1000, l5000, l5010, l8010, l8192, l9000, l10000, l1000000, and_self, and_true, true_and, and_false, false_and, nI_add, pk_mul, nI_clamp, ↓reduceIte, eF, lT, lF, leT, leF, chk_d, chk_t, chk_inb, rfm_s, bnd_e, cal_e, calR_e, hx', ↓chk_q w0, ↓rfm_q z0, ↓chk_q k0, w0, z0, k0, r00, r01, r02, r03, k1, n1, k2, n2, k3, n3, k4, rb, kb, rl, rs, ks, gCC, t04]
    · show fn_X7_yearsTo T R (ad 250) (nI v) M = _
      unfold fn_X7_yearsTo
      simp (disch := omega) only [↓cal_w6, ↓cal_w7, ↓lm1, l0, l1, l2, l3, l4, l5, l6, l7, l8, l9, l10, l11, l12, l13, l14, l31, l32, l44, l48, l50, l57, l59, l60, l74, l100, l110, l126, l300, l330, l500, l501, l801, l1000, l5000, l5010, l8010, l8192, l9000, l10000, l1000000, and_self, and_true, true_and, and_false, false_and, nI_add, pk_mul, nI_clamp, ↓reduceIte, eF, lT, lF, leT, leF, chk_d, chk_t, chk_inb, rfm_s, bnd_e, cal_e, calR_e, hx', ↓chk_q kR, kR, k251, n251, r251, k252, n252, r252, k253, n253, r253, k254, n254, r254, k255, n255, r255, k256, n256, r256, k257, n257, r257, k258, n258, r258, k259, n259, r259, k260, n260, r260, k261, n261, r261, p8]
  have zt : R (ad 0) 0 = some (qq ad 1 0) := G.2.1
  have tg1 := CG_tg G (.inl rfl)
  have k1' : isK T (qq ad 1 0) 5 = true := tg1.2.1
  obtain ⟨c, la, u1, u2⟩ := copy_w w1 g
  obtain ⟨c2, lb, u3⟩ := x6_yearsTo_loop tg1 w0 zt M g hY5 (by omega) (w := v) (by omega) 300 0 c la FU (by omega) u2 (FU_gt (by omega))
  have e01 : (nI (0 + 1) : Int32) = nI 1 := rfl
  rw [e01] at u3
  have f1 := FY_TV hi (.inl rfl) M c2 lb
  have q8 : gI (TV (qq ad 1) M c2 lb) (ad 251) 8 = nI nb := (congrFun (f1 251 (by omega)).1 8).trans p8
  obtain ⟨sa, rs1⟩ := SA_set hi (FY_RS f1 rsw)
  have a1 : fn_X7_setAside T R (ad 250) (TV (qq ad 1) M c2 lb) = some ((), aS ad (TV (qq ad 1) M c2 lb)) := x7_setAside GR0 _
  obtain ⟨t, a2⟩ := x7_yearsTo_loop GR0 (aS ad (TV (qq ad 1) M c2 lb)) g hY5 (by omega) (w := v) (by omega) 300 0 FU (by omega) (FU_gt (by omega))
  have es : PS ad (aS ad (TV (qq ad 1) M c2 lb)) (sYs 0 s) = aS ad (TV (qq ad 1) M c2 lb) := RS_PS hi rs1
  rw [e01, es] at a2
  refine ⟨yt v s Y nb ns 300 0, TV (qq ad 1) M c2 lb, aB ad (PS ad (aS ad (TV (qq ad 1) M c2 lb)) t), ?_, ?_, back_w w1 c2 lb t⟩
  · unfold fn_X6_yearsTo
    simp (disch := omega) only [↓cal_w6, ↓cal_w7, ↓lm1, l0, l1, l2, l3, l4, l5, l6, l7, l8, l9, l10, l11, l12, l13, l14, l31, l32, l44, l48, l50, l57, l59, l60, l74, l100, l110, l126, l300, l330, l500, l501, l801, l1000, l5000, l5010, l8010, l8192, l9000, l10000, l1000000, and_self, and_true, true_and, and_false, false_and, nI_add, pk_mul, nI_clamp, ↓reduceIte, eF, lT, lF, leT, leF, chk_d, chk_t, chk_inb, rfm_s, bnd_e, cal_e, calR_e, hx', ↓chk_q w0, ↓rfm_q z0, ↓chk_q k0, w0, z0, k0, r00, r01, r02, r03, k1, n1, k2, n2, k3, n3, k4, rb, kb, rl, rs, ks, gCC, t04, h0, zt, k1', ↓cal_q u1, u3]
  · show fn_X7_yearsTo T R (ad 250) (nI v) (TV (qq ad 1) M c2 lb) = _
    unfold fn_X7_yearsTo
    simp (disch := omega) only [↓cal_w6, ↓cal_w7, ↓lm1, l0, l1, l2, l3, l4, l5, l6, l7, l8, l9, l10, l11, l12, l13, l14, l31, l32, l44, l48, l50, l57, l59, l60, l74, l100, l110, l126, l300, l330, l500, l501, l801, l1000, l5000, l5010, l8010, l8192, l9000, l10000, l1000000, and_self, and_true, true_and, and_false, false_and, nI_add, pk_mul, nI_clamp, ↓reduceIte, eF, lT, lF, leT, leF, chk_d, chk_t, chk_inb, rfm_s, bnd_e, cal_e, calR_e, hx', ↓chk_q kR, kR, k251, n251, r251, k252, n252, r252, k253, n253, r253, k254, n254, r254, k255, n255, r255, k256, n256, r256, k257, n257, r257, k258, n258, r258, k259, n259, r259, k260, n260, r260, k261, n261, r261, q8, h0, ↓cal_q a1, a2]
