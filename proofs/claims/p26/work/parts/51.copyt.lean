def CB (c' d : Nat → Nat → Int32) (n : Nat) : Prop := (∀ k, k < 7 → c' 1 k = d 1 k) ∧ ∀ b, b < n → (∀ k, k < 6 → c' (5 + 3 * b) (k + 1) = d (5 + 3 * b) (k + 1)) ∧ (∀ g, LY d (5 + 3 * b + 1) g → LY c' (5 + 3 * b + 1) g)
def CK (σ σ' : Nat → Nat) (c' d : Nat → Nat → Int32) (n : Nat) : Prop := ∀ i, i < n → ∀ k, k < 6 → c' (35 + σ i) k = d (35 + σ' i) k
theorem CB_o {c c' d : Nat → Nat → Int32} {n : Nat} (hn : n ≤ 10) (h : CB c d n) (e : ∀ j, 0 < j → j ≠ 4 → j < 35 → c' j = c j) : CB c' d n := by
  refine ⟨fun k hk => ?_, fun b hb => ⟨fun k hk => ?_, fun g hg => ?_⟩⟩
  · rw [e 1 (by omega) (by omega) (by omega)]
    exact h.1 k hk
  · rw [e _ (by omega) (by omega) (by omega)]
    exact (h.2 b hb).1 k hk
  · exact LY_fr ((h.2 b hb).2 g hg) (e _ (by omega) (by omega) (by omega)) (e _ (by omega) (by omega) (by omega))
theorem x5_cp1 {q q' σ σ' : Nat → Nat} {T : Ty} {R : Rm} (G : TG T R q σ) (G' : TG T R q' σ') (M : Mm) {d : Nat → Nat → Int32} (hd : ∀ c l j k, j < 41 → gI (TV q M c l) (q' j) k = d j k) {nb : Nat} (hnb : nb ≤ 10) (h4 : d 0 4 = nI nb) (l : Nat → Int64) (j48 : Int32 → Mm → Option (Unit × Mm)) : ∀ e b (c : Nat → Nat → Int32) fuel, b + e = nb → CB c d b → e < fuel → ∃ c', CB c' d nb ∧ fb_X5_copyFrom_17 T R (q 0) (q' 0) j48 fuel (nI b) (TV q M c l) = j48 (nI 0) (TV q M c' l) := by
  have G0 := G
  have hr0 := (show isK T (q' 0) 5 = true ∧ R (q' 0) 1 = some (q' 2) ∧ isK T (q' 2) 11 = true ∧ lnT T (q' 2) = 10 ∧ (∀ i, i < 10 → R (q' 2) i = some (q' (5 + 3 * i))) by
    obtain ⟨hq, k0, r00, r01, r02, r03, k1, n1, k2, n2, k3, n3, k4, rb, kb, rl, lg, rs, ks, sl, si⟩ := G'
    exact ⟨k0, r01, k2, n2, rb⟩)
  obtain ⟨k0', r01', k2', n2', rb'⟩ := hr0
  obtain ⟨hq, k0, r00, r01, r02, r03, k1, n1, k2, n2, k3, n3, k4, rb, kb, rl, lg, rs, ks, sl, si⟩ := G
  intro e
  induction e with
  | zero =>
    intro b c fuel h1 hc h2
    obtain ⟨n, rfl⟩ : ∃ n, fuel = n + 1 := ⟨fuel - 1, by omega⟩
    have hb : b = nb := by omega
    subst hb
    refine ⟨c, hc, ?_⟩
    rw [fbs_X5_copyFrom_17]
    unfold fs_X5_copyFrom_17
    simp (disch := omega) only [↓lm1, l0, l1, l2, l3, l4, l5, l6, l7, l8, l9, l10, l11, l12, l13, l14, l31, l32, l44, l48, l50, l57, l59, l60, l74, l100, l110, l126, l300, l330, l500, l501, l801, l1000, l5000, l5010, l8010, l8192, l9000, l10000, l1000000, nI_add, pk_mul, nI_clamp, nI_leI, nI_ltI, nI_eq, chk_d, chk_t, chk_inb, rfm_s, bnd_e, cal_e, calR_e, if_pos, if_neg, k0', hd, h4]
  | succ e ih =>
    intro b c fuel h1 hc h2
    obtain ⟨n, rfl⟩ : ∃ n, fuel = n + 1 := ⟨fuel - 1, by omega⟩
    obtain ⟨c1, p1, p2, p3, p4⟩ := x0_copyFrom G0 G' M hd c l (b := b) (by omega)
    obtain ⟨c', r1, r2⟩ := ih (b + 1) c1 n (by omega) ⟨fun k hk => by rw [p4 1 (by omega) (by omega) (by omega)]; exact hc.1 k hk, fun b' hb' => by
      by_cases e : b' = b
      · subst e
        exact ⟨p2, p3⟩
      · obtain ⟨v1, v2⟩ := hc.2 b' (by omega)
        refine ⟨fun k hk => ?_, fun g hg => ?_⟩
        · rw [p4 _ (by omega) (by omega) (by omega)]
          exact v1 k hk
        · exact LY_fr (v2 g hg) (p4 _ (by omega) (by omega) (by omega)) (p4 _ (by omega) (by omega) (by omega))⟩ (by omega)
    refine ⟨c', r1, ?_⟩
    rw [← r2, fbs_X5_copyFrom_17]
    unfold fs_X5_copyFrom_17
    simp (disch := omega) only [↓lm1, l0, l1, l2, l3, l4, l5, l6, l7, l8, l9, l10, l11, l12, l13, l14, l31, l32, l44, l48, l50, l57, l59, l60, l74, l100, l110, l126, l300, l330, l500, l501, l801, l1000, l5000, l5010, l8010, l8192, l9000, l10000, l1000000, nI_add, pk_mul, nI_clamp, nI_leI, nI_ltI, nI_eq, chk_d, chk_t, chk_inb, rfm_s, bnd_e, cal_e, calR_e, if_pos, if_neg, k0', r01', k2', n2', rb', k0, r01, k2, n2, rb, kb, hd, h4, p1]
theorem x5_cp2 {q q' σ σ' : Nat → Nat} {T : Ty} {R : Rm} (G : TG T R q σ) (G' : TG T R q' σ') (M : Mm) {d : Nat → Nat → Int32} (hd : ∀ c l j k, j < 41 → gI (TV q M c l) (q' j) k = d j k) {nb ns : Nat} (hnb : nb ≤ 10) (hns : ns ≤ 6) (h5 : d 0 5 = nI ns) (l : Nat → Int64) : ∀ e i (c : Nat → Nat → Int32) fuel, i + e = ns → CB c d nb → CK σ σ' c d i → e < fuel → ∃ c', CB c' d nb ∧ CK σ σ' c' d ns ∧ fb_X5_copyFrom_48 T R (q 0) (q' 0) fuel (nI i) (TV q M c l) = fs_X5_copyFrom_48 T R (q 0) (q' 0) (fun _ _ => none) (nI ns) (TV q M c' l) := by
  have G0 := G
  have hr0 := (show isK T (q' 0) 5 = true ∧ R (q' 0) 2 = some (q' 3) ∧ isK T (q' 3) 12 = true ∧ lnT T (q' 3) = 6 ∧ (∀ i, i < 6 → R (q' 3) i = some (q' (35 + σ' i))) ∧ (∀ i, i < 6 → σ' i < 6) by
    obtain ⟨hq, k0, r00, r01, r02, r03, k1, n1, k2, n2, k3, n3, k4, rb, kb, rl, lg, rs, ks, sl, si⟩ := G'
    exact ⟨k0, r02, k3, n3, rs, sl⟩)
  obtain ⟨k0', r02', k3', n3', rs', sl'⟩ := hr0
  obtain ⟨hq, k0, r00, r01, r02, r03, k1, n1, k2, n2, k3, n3, k4, rb, kb, rl, lg, rs, ks, sl, si⟩ := G
  intro e
  induction e with
  | zero =>
    intro i c fuel h1 hc hk h2
    obtain ⟨n, rfl⟩ : ∃ n, fuel = n + 1 := ⟨fuel - 1, by omega⟩
    have hb : i = ns := by omega
    subst hb
    refine ⟨c, hc, hk, ?_⟩
    rw [fbs_X5_copyFrom_48]
    unfold fs_X5_copyFrom_48
    simp (disch := omega) only [↓lm1, l0, l1, l2, l3, l4, l5, l6, l7, l8, l9, l10, l11, l12, l13, l14, l31, l32, l44, l48, l50, l57, l59, l60, l74, l100, l110, l126, l300, l330, l500, l501, l801, l1000, l5000, l5010, l8010, l8192, l9000, l10000, l1000000, nI_add, pk_mul, nI_clamp, nI_leI, nI_ltI, nI_eq, chk_d, chk_t, chk_inb, rfm_s, bnd_e, cal_e, calR_e, if_pos, if_neg, k0', hd, h5]
  | succ e ih =>
    intro i c fuel h1 hc hk h2
    obtain ⟨n, rfl⟩ : ∃ n, fuel = n + 1 := ⟨fuel - 1, by omega⟩
    have s6 := sl i (by omega)
    have s6' := sl' i (by omega)
    obtain ⟨c1, p1, p2, p3⟩ := x3_copyFrom G0 G' M hd c l (i := σ i) (j := σ' i) s6 s6'
    obtain ⟨c', r1, r2, r3⟩ := ih (i + 1) c1 n (by omega) (CB_o hnb hc (fun j _ _ hj => p3 j (by omega))) (fun i' hi' k hk' => by
      by_cases e : i' = i
      · subst e
        exact p2 k hk'
      · have : σ i' ≠ σ i := fun h => e (si i' i (by omega) (by omega) h)
        rw [p3 _ (by omega)]
        exact hk i' (by omega) k hk') (by omega)
    refine ⟨c', r1, r2, ?_⟩
    have kss := ks (σ i) s6
    rw [← r3, fbs_X5_copyFrom_48]
    unfold fs_X5_copyFrom_48
    simp (disch := omega) only [↓lm1, l0, l1, l2, l3, l4, l5, l6, l7, l8, l9, l10, l11, l12, l13, l14, l31, l32, l44, l48, l50, l57, l59, l60, l74, l100, l110, l126, l300, l330, l500, l501, l801, l1000, l5000, l5010, l8010, l8192, l9000, l10000, l1000000, nI_add, pk_mul, nI_clamp, nI_leI, nI_ltI, nI_eq, chk_d, chk_t, chk_inb, rfm_s, bnd_e, cal_e, calR_e, if_pos, if_neg, k0', r02', k3', n3', rs', k0, r02, k3, n3, rs, kss, hd, h5, p1]
theorem x5_copyFrom {q q' σ σ' : Nat → Nat} {T : Ty} {R : Rm} (G : TG T R q σ) (G' : TG T R q' σ') (M : Mm) {d : Nat → Nat → Int32} {ld : Nat → Int64} (hd : ∀ c l j k, j < 41 → gI (TV q M c l) (q' j) k = d j k) (hdj : ∀ c l k, gJ (TV q M c l) (q' 0) k = ld k) {s : Sx} {K Y nb ns : Nat} (g : GS K Y nb ns s) (rt : RT QT σ' d ld s) (c : Nat → Nat → Int32) (l : Nat → Int64) : ∃ c' l', fn_X5_copyFrom T R (q 0) (q' 0) (TV q M c l) = some ((), TV q M c' l') ∧ RT QT σ c' l' s := by
  have G0 := G
  have hr0 := (show isK T (q' 0) 5 = true ∧ R (q' 0) 0 = some (q' 1) ∧ isK T (q' 1) 9 = true ∧ lnT T (q' 1) = 7 ∧ R (q' 0) 3 = some (q' 4) by
    obtain ⟨hq, k0, r00, r01, r02, r03, k1, n1, k2, n2, k3, n3, k4, rb, kb, rl, lg, rs, ks, sl, si⟩ := G'
    exact ⟨k0, r00, k1, n1, r03⟩)
  obtain ⟨k0', r00', k1', n1', r03'⟩ := hr0
  have hnb := g.2.2.2.2.2.1
  have hns := g.2.2.2.2.2.2.1
  have n8 := g.2.2.2.2.2.2.2.2.1
  have n9 := g.2.2.2.2.2.2.2.2.2
  obtain ⟨t1, t04, t05, t06, t40, t41, t42, t43, tl, tb, ts⟩ := rt
  rw [g.2.2.1] at t04
  rw [g.2.2.2.1] at t05
  obtain ⟨hq, k0, r00, r01, r02, r03, k1, n1, k2, n2, k3, n3, k4, rb, kb, rl, lg, rs, ks, sl, si⟩ := G
  have e1 := TV_cp hq M c l (j := 1) (n := 7) (r := d 1) (by omega) (fun k => hd c l 1 k (by omega))
  have ec : cpok (nI 0) (nI 0) (nI 7) 7 7 = true := cpok_t (by omega) (by omega) (by omega)
  obtain ⟨c1, p1, p2⟩ := x5_cp1 G0 G' M hd hnb t04 l (fb_X5_copyFrom_48 T R (q 0) (q' 0) FU) nb 0 (cset c 1 (va_cpy (d 1) (c 1) 0 0 7)) FU (by omega) ⟨fun k hk => by
    rw [cset_s, pk_cpy_in (by omega) (by omega)]
    exact congrArg (d 1) (by omega), fun b hb => absurd hb (by omega)⟩ (FU_gt (by omega))
  obtain ⟨c2, u1, u2, u3⟩ := x5_cp2 G0 G' M hd hnb hns t05 l ns 0 c1 FU (by omega) p1 (fun i hi => absurd hi (by omega)) (FU_gt (by omega))
  obtain ⟨c3, w1, w2, w3⟩ := x1_copyFrom G0 G' M hd c2 l
  have hc3 : CB c3 d nb := CB_o hnb u1 (fun j _ h4 _ => w3 j h4)
  refine ⟨up2 (up2 (up2 c3 0 4 (d 0 4)) 0 5 (d 0 5)) 0 6 (d 0 6), vp_updL (vp_updL (vp_updL (vp_updL l 7 (ld 7)) 8 (ld 8)) 9 (ld 9)) 10 (ld 10), ?_, ?_⟩
  · unfold fn_X5_copyFrom
    simp (disch := omega) only [↓lm1, l0, l1, l2, l3, l4, l5, l6, l7, l8, l9, l10, l11, l12, l13, l14, l31, l32, l44, l48, l50, l57, l59, l60, l74, l100, l110, l126, l300, l330, l500, l501, l801, l1000, l5000, l5010, l8010, l8192, l9000, l10000, l1000000, nI_add, pk_mul, nI_clamp, nI_leI, nI_ltI, nI_eq, chk_d, chk_t, chk_inb, rfm_s, bnd_e, cal_e, calR_e, if_pos, if_neg, k0', r00', k1', n1', k0, r00, k1, n1, ec, e1, p2, u3]
    unfold fs_X5_copyFrom_48
    simp (disch := omega) only [↓lm1, l0, l1, l2, l3, l4, l5, l6, l7, l8, l9, l10, l11, l12, l13, l14, l31, l32, l44, l48, l50, l57, l59, l60, l74, l100, l110, l126, l300, l330, l500, l501, l801, l1000, l5000, l5010, l8010, l8192, l9000, l10000, l1000000, nI_add, pk_mul, nI_clamp, nI_leI, nI_ltI, nI_eq, chk_d, chk_t, chk_inb, rfm_s, bnd_e, cal_e, calR_e, if_pos, if_neg, k0', r03', k0, r03, k4, hd, hdj, t05, w1, TV_s hq, TV_sj]
  · have eo : ∀ j, j ≠ 0 → up2 (up2 (up2 c3 0 4 (d 0 4)) 0 5 (d 0 5)) 0 6 (d 0 6) j = c3 j := fun j h => by
      rw [up2_r _ _ h, up2_r _ _ h, up2_r _ _ h]
    refine ⟨fun k hk => ?_, ?_, ?_, ?_, ?_, ?_, ?_, fun h => ?_, fun k hk => ?_, fun b hb => ?_, fun i hi k hk => ?_⟩
    · rw [eo 1 (by omega), hc3.1 k hk]
      exact t1 k hk
    · rw [up2_k _ _ (by omega), up2_k _ _ (by omega), up2_s, t04, g.2.2.1]
    · rw [up2_k _ _ (by omega), up2_s, t05, g.2.2.2.1]
    · rw [up2_s]
      exact t06
    · rw [eo 4 (by omega), w2 0 (by omega)]
      exact t40
    · rw [eo 4 (by omega), w2 1 (by omega)]
      exact t41
    · rw [eo 4 (by omega), w2 2 (by omega)]
      exact t42
    · rw [eo 4 (by omega), w2 3 (by omega)]
      exact t43 h
    · rcases (show k = 0 ∨ k = 1 ∨ k = 2 ∨ k = 3 by omega) with rfl | rfl | rfl | rfl <;> simp (disch := omega) only [Nat.reduceAdd, pk_uLs, pk_uLn]
      · exact tl 0 hk
      · exact tl 1 hk
      · exact tl 2 hk
      · exact tl 3 hk
    · obtain ⟨v1, v2, v3⟩ := tb b hb
      rw [n8] at hb
      obtain ⟨x1, x2⟩ := hc3.2 b hb
      refine ⟨fun k hk => ?_, fun h => ?_, ?_⟩
      · rw [eo _ (by omega), x1 k (by omega)]
        exact v1 k hk
      · rw [eo _ (by omega), x1 5 (by omega)]
        exact v2 h
      · exact LY_fr (x2 _ v3) (eo _ (by omega)) (eo _ (by omega))
    · have hi' := hi
      rw [n9] at hi'
      rw [eo _ (by omega), w3 _ (by omega), u2 i hi' k hk]
      exact ts i hi k hk

