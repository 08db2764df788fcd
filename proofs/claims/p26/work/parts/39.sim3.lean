/-! the class's year: the front, the stakes -/
def QT : Nat → Prop := fun _ => True
theorem RT_4 {Q : Nat → Prop} {σ : Nat → Nat} {c c' : Nat → Nat → Int32} {l l' : Nat → Int64} {s s' : Sx} (rt : RT Q σ c l s) (hc : ∀ j, j ≠ 4 → c' j = c j) (hm : ∀ k, k < 10 ∨ 13 < k → s'.1 k = s.1 k) (hf : s'.2.1 = s.2.1) (h0 : c' 4 0 = s'.1 10) (h1 : c' 4 1 = s'.1 11) (h2 : c' 4 2 = s'.1 12) (h3 : s'.1 12 ≠ nI 0 → c' 4 3 = s'.1 13) (hl : ∀ k, k < 4 → l' (7 + k) = s'.2.2 k) : RT Q σ c' l' s' := by
  obtain ⟨t1, t04, t05, t06, t40, t41, t42, t43, tl, tb, ts⟩ := rt
  refine ⟨fun k hk => ?_, ?_, ?_, ?_, h0, h1, h2, h3, hl, fun b hb => ?_, fun i hi k hk => ?_⟩
  · rw [hc 1 (by omega), hm k (by omega)]
    exact t1 k hk
  · rw [hc 0 (by omega), hm _ (by omega)]
    exact t04
  · rw [hc 0 (by omega), hm _ (by omega)]
    exact t05
  · rw [hc 0 (by omega), hm _ (by omega)]
    exact t06
  · rw [hm 8 (by omega)] at hb
    obtain ⟨v1, v2, v3⟩ := tb b hb
    refine ⟨fun k hk => ?_, fun h => ?_, ?_⟩
    · rw [hc _ (by omega), hm _ (by omega)]
      exact v1 k hk
    · rw [hc _ (by omega), hm _ (by omega)]
      exact v2 h
    · rw [hf]
      exact LY_fr v3 (hc _ (by omega)) (hc _ (by omega))
  · rw [hm 9 (by omega)] at hi
    rw [hc _ (by omega), hm _ (by omega)]
    exact ts i hi k hk
theorem n64_0 : (nI 0).toInt64 = 0 := by decide
theorem x5_calve {T : Ty} {R : Rm} {q σ : Nat → Nat} (G : TG T R q σ) (M : Mm) {l : Nat → Int64} {K Y nb ns : Nat} (hK : K < 2 ^ 30) {s : Sx} {c : Nat → Nat → Int32} (g : GS K Y nb ns s) (rt : RT QT σ c l s) : ∃ c' r, fn_X1_calve T R (q 4) (s.1 5) (s.1 6) (s.1 7) (TV q M c l) = some (r, TV q M c' l) ∧ RT QT σ c' (vp_updL l 10 (l 10 + r.toInt64)) (sF s) := by
  obtain ⟨m, f, acc⟩ := s
  obtain ⟨J, h7, h8, h9, hY, hnb, hns, n7, n8, n9⟩ := g
  obtain ⟨I, ⟨F, P, r, a1, a2, a3, a4, a5, a6, a7⟩, z, q9⟩ := J
  have rt0 := rt
  obtain ⟨t1, t04, t05, t06, t40, t41, t42, t43, tl, tb, ts⟩ := rt
  simp only at I h7 h8 h9 n7 n8 n9 a1 a2 a3 a5 a6 a7 t1 t04 t05 t06 t40 t41 t42 t43 tl tb ts ⊢
  have n10 : nt (m 10) = F := by rw [a1, nt_nI (by omega)]
  have n11 : nt (m 11) = r := by rw [a3, nt_nI (by omega)]
  obtain ⟨pc, hp, hp1, hp2⟩ := rg_get I.2.2.2.2.2.1
  have n5 : nt (m 5) = pc := by rw [hp, nt_nI (by omega)]
  have hsm : (sF (m, f, acc)).1 = fM m := rfl
  have hsa : (sF (m, f, acc)).2.2 = fA m acc := rfl
  have q3 := tl 3 (by omega)
  simp only [Nat.reduceAdd] at q3
  have hl0 : ∀ k, k < 4 → vp_updL l 10 (l 10 + (nI 0).toInt64) (7 + k) = acc k := fun k hk => by
    rw [n64_0, Int64.add_zero]
    rcases (show k < 3 ∨ k = 3 by omega) with h | rfl
    · rw [pk_uLn (by omega)]
      exact tl k hk
    · simp only [Nat.reduceAdd, pk_uLs]
      exact q3
  obtain ⟨hq, k0, r00, r01, r02, r03, k1, n1, k2, n2, k3, n3, k4, rb, kb, rl, lg, rs, ks, sl, si⟩ := G
  unfold fn_X1_calve
  by_cases h1 : 0 < r
  · have ef : fM m = upd m 11 (nI (r - 1)) := by
      unfold fM
      rw [n11, if_pos h1]
    have ea : fA m acc = acc := by
      unfold fA
      rw [n11, if_pos h1]
    refine ⟨up2 c 4 1 (nI (r - 1)), nI 0, ?_, RT_4 rt0 (fun j h => up2_r _ _ h) (fun k hk => ?_) rfl ?_ ?_ ?_ (fun h => ?_) ?_⟩
    · simp (disch := omega) only [↓lm1, l0, l1, l2, l3, l4, l5, l6, l7, l8, l9, l10, l11, l12, l13, l14, l31, l32, l44, l48, l50, l57, l59, l60, l74, l100, l110, l126, l300, l330, l500, l501, l801, l1000, l5000, l5010, l8010, l8192, l9000, l10000, l1000000, nI_add, pk_mul, nI_clamp, nI_leI, nI_ltI, nI_eq, chk_d, chk_t, chk_inb, rfm_s, bnd_e, cal_e, calR_e, if_pos, if_neg, k0, r00, r01, r02, r03, k1, n1, k2, n2, k3, n3, k4, rb, kb, rl, rs, ks, TV_g hq, TV_s hq, t41, a3, nIs]
    · rw [hsm, ef]
      exact pk_un (by omega)
    · rw [hsm, ef, up2_k _ _ (by omega), pk_un (by omega)]
      exact t40
    · rw [hsm, ef, up2_s, pk_us]
    · rw [hsm, ef, up2_k _ _ (by omega), pk_un (by omega)]
      exact t42
    · rw [hsm, ef, pk_un (by omega)] at h
      rw [hsm, ef, up2_k _ _ (by omega), pk_un (by omega)]
      exact t43 h
    · rw [hsa, ea]
      exact hl0
  · by_cases h2 : F < pc
    · have ef : fM m = m := by
        unfold fM
        rw [n11, n10, n5, if_neg h1, if_pos h2]
      have ea : fA m acc = acc := by
        unfold fA
        rw [n11, n10, n5, if_neg h1, if_pos h2]
      refine ⟨c, nI 0, ?_, RT_4 rt0 (fun j h => rfl) (fun k hk => ?_) rfl ?_ ?_ ?_ (fun h => ?_) ?_⟩
      · simp (disch := omega) only [↓lm1, l0, l1, l2, l3, l4, l5, l6, l7, l8, l9, l10, l11, l12, l13, l14, l31, l32, l44, l48, l50, l57, l59, l60, l74, l100, l110, l126, l300, l330, l500, l501, l801, l1000, l5000, l5010, l8010, l8192, l9000, l10000, l1000000, nI_add, pk_mul, nI_clamp, nI_leI, nI_ltI, nI_eq, chk_d, chk_t, chk_inb, rfm_s, bnd_e, cal_e, calR_e, if_pos, if_neg, k0, r00, r01, r02, r03, k1, n1, k2, n2, k3, n3, k4, rb, kb, rl, rs, ks, TV_g hq, TV_s hq, t41, a3, hp, t40, a1]
      · rw [hsm, ef]
      · rw [hsm, ef]
        exact t40
      · rw [hsm, ef]
        exact t41
      · rw [hsm, ef]
        exact t42
      · rw [hsm, ef] at h ⊢
        exact t43 h
      · rw [hsa, ea]
        exact hl0
    · have ef : fM m = upd (upd (upd (upd m 10 (nI (F - F / pc * pc))) 12 (m 12 + nI (F / pc))) 13 (m 7)) 11 (m 6) := by
        unfold fM
        rw [n11, n10, n5, if_neg h1, if_neg h2]
      have ea : fA m acc = vp_updL acc 3 (acc 3 + (nI (F / pc * pc)).toInt64) := by
        unfold fA
        rw [n11, n10, n5, if_neg h1, if_neg h2]
      have hqq := Nat.div_mul_le_self F pc
      have hd := nI_d (show F < 2 ^ 31 by omega) (show 0 < pc by omega) (show pc < 2 ^ 31 by omega)
      generalize F / pc = p at hqq hd ef ea
      refine ⟨up2 (up2 (up2 (up2 c 4 2 (m 12 + nI p)) 4 0 (nI (F - p * pc))) 4 1 (m 6)) 4 3 (m 7), nI (p * pc), ?_, RT_4 rt0 (fun j h => ?_) (fun k hk => ?_) rfl ?_ ?_ ?_ (fun h => ?_) (fun k hk => ?_)⟩
      · simp (disch := omega) only [↓lm1, l0, l1, l2, l3, l4, l5, l6, l7, l8, l9, l10, l11, l12, l13, l14, l31, l32, l44, l48, l50, l57, l59, l60, l74, l100, l110, l126, l300, l330, l500, l501, l801, l1000, l5000, l5010, l8010, l8192, l9000, l10000, l1000000, nI_add, pk_mul, nI_clamp, nI_leI, nI_ltI, nI_eq, chk_d, chk_t, chk_inb, rfm_s, bnd_e, cal_e, calR_e, if_pos, if_neg, k0, r00, r01, r02, r03, k1, n1, k2, n2, k3, n3, k4, rb, kb, rl, rs, ks, TV_g hq, TV_s hq, t41, a3, hp, t40, a1, hd, t42, up2_k, nIs]
      · rw [up2_r _ _ h, up2_r _ _ h, up2_r _ _ h, up2_r _ _ h]
      · rw [hsm, ef, pk_un (by omega), pk_un (by omega), pk_un (by omega), pk_un (by omega)]
      · rw [hsm, ef, up2_k _ _ (by omega), up2_k _ _ (by omega), up2_s, pk_un (by omega), pk_un (by omega), pk_un (by omega), pk_us]
      · rw [hsm, ef, up2_k _ _ (by omega), up2_s, pk_us]
      · rw [hsm, ef, up2_k _ _ (by omega), up2_k _ _ (by omega), up2_k _ _ (by omega), up2_s, pk_un (by omega), pk_un (by omega), pk_us]
      · rw [hsm, ef, up2_s, pk_un (by omega), pk_us]
      · rw [hsa, ea]
        rcases (show k < 3 ∨ k = 3 by omega) with h | rfl
        · rw [pk_uLn (by omega), pk_uLn (by omega)]
          exact tl k hk
        · simp only [Nat.reduceAdd, pk_uLs, q3]
def cMv (c : Nat → Nat → Int32) (S nb : Nat) (r : Nat × Int32) : Nat → Nat → Int32 := if r.1 = nb then up2 c S 4 (nI 2) else up2 (up2 c S 0 (nI r.1)) S 1 r.2
theorem x5_moveDown_loop {T : Ty} {R : Rm} {q σ : Nat → Nat} (G : TG T R q σ) (M : Mm) {l : Nat → Int64} {c : Nat → Nat → Int32} {m : Nat → Int32} {nb S : Nat} (x2 : Int32) (h4 : c 0 4 = nI nb) (hnb : nb ≤ 10) (hl : ∀ b, b < nb → c (5 + 3 * b) 2 = m (14 + 6 * b + 1)) (hS : S < 6) : ∀ d b x fuel, b + d = nb → d < fuel → fb_X5_moveDown_8 T R (q 0) (q (35 + S)) x2 fuel x (nI b) (TV q M c l) = some ((), TV q M (cMv c (35 + S) nb (mvW m d b x)) l) := by
  obtain ⟨hq, k0, r00, r01, r02, r03, k1, n1, k2, n2, k3, n3, k4, rb, kb, rl, lg, rs, ks, sl, si⟩ := G
  intro d
  induction d with
  | zero =>
    intro b x fuel h1 h2
    obtain ⟨n, rfl⟩ : ∃ n, fuel = n + 1 := ⟨fuel - 1, by omega⟩
    rw [fbs_X5_moveDown_8]
    unfold fs_X5_moveDown_8 cMv mvW
    rw [if_pos (show (b, x).1 = nb from (by omega : b = nb))]
    simp (disch := omega) only [↓lm1, l0, l1, l2, l3, l4, l5, l6, l7, l8, l9, l10, l11, l12, l13, l14, l31, l32, l44, l48, l50, l57, l59, l60, l74, l100, l110, l126, l300, l330, l500, l501, l801, l1000, l5000, l5010, l8010, l8192, l9000, l10000, l1000000, nI_add, pk_mul, nI_clamp, nI_leI, nI_ltI, nI_eq, chk_d, chk_t, chk_inb, rfm_s, bnd_e, cal_e, calR_e, if_pos, if_neg, k0, r00, r01, r02, r03, k1, n1, k2, n2, k3, n3, k4, rb, kb, rl, rs, ks, TV_g hq, TV_s hq, h4]
  | succ d ih =>
    intro b x fuel h1 h2
    obtain ⟨n, rfl⟩ : ∃ n, fuel = n + 1 := ⟨fuel - 1, by omega⟩
    rw [fbs_X5_moveDown_8]
    unfold fs_X5_moveDown_8 mvW
    by_cases h3 : x < m (14 + 6 * b + 1)
    · rw [if_pos h3]
      unfold cMv
      rw [if_neg (show ¬ (b, x).1 = nb from (by omega : ¬ b = nb))]
      have h3' : ¬ m (14 + 6 * b + 1) ≤ x := Int32.not_le.mpr h3
      simp (disch := omega) only [↓lm1, l0, l1, l2, l3, l4, l5, l6, l7, l8, l9, l10, l11, l12, l13, l14, l31, l32, l44, l48, l50, l57, l59, l60, l74, l100, l110, l126, l300, l330, l500, l501, l801, l1000, l5000, l5010, l8010, l8192, l9000, l10000, l1000000, nI_add, pk_mul, nI_clamp, nI_leI, nI_ltI, nI_eq, chk_d, chk_t, chk_inb, rfm_s, bnd_e, cal_e, calR_e, if_pos, if_neg, k0, r00, r01, r02, r03, k1, n1, k2, n2, k3, n3, k4, rb, kb, rl, rs, ks, TV_g hq, TV_s hq, h4, hl, h3', if_false]
    · rw [if_neg h3]
      have h3' : m (14 + 6 * b + 1) ≤ x := Int32.not_lt.mp h3
      simp (disch := omega) only [↓lm1, l0, l1, l2, l3, l4, l5, l6, l7, l8, l9, l10, l11, l12, l13, l14, l31, l32, l44, l48, l50, l57, l59, l60, l74, l100, l110, l126, l300, l330, l500, l501, l801, l1000, l5000, l5010, l8010, l8192, l9000, l10000, l1000000, nI_add, pk_mul, nI_clamp, nI_leI, nI_ltI, nI_eq, chk_d, chk_t, chk_inb, rfm_s, bnd_e, cal_e, calR_e, if_pos, if_neg, k0, r00, r01, r02, r03, k1, n1, k2, n2, k3, n3, k4, rb, kb, rl, rs, ks, TV_g hq, TV_s hq, h4, hl, h3', if_true]
      exact ih (b + 1) _ n (by omega) (by omega)
theorem kU_o {m : Nat → Int32} {s k : Nat} (h1 : k ≠ 74 + 6 * s + 5) (h2 : k ≠ 74 + 6 * s + 3) : kU m s k = m k := by
  unfold kU
  rw [pk_un h2, pk_un h1]
theorem kM_s {m : Nat → Int32} {s k : Nat} (h : k < 74 + 6 * s ∨ 74 + 6 * s + 5 < k) : kM m s k = m k := by
  unfold kM kU mvM
  split
  · split
    · rw [pk_un (by omega), pk_un (by omega), pk_un (by omega)]
    · rw [pk_un (by omega), pk_un (by omega), pk_un (by omega), pk_un (by omega)]
  · rw [pk_un (by omega), pk_un (by omega), pk_un (by omega)]
theorem RT_K {Q : Nat → Prop} {σ : Nat → Nat} (sl : ∀ j, j < 6 → σ j < 6) (si : ∀ i j, i < 6 → j < 6 → σ i = σ j → i = j) {c c' : Nat → Nat → Int32} {l : Nat → Int64} {m m' : Nat → Int32} {f : Nat → Nat → Nat} {acc : Nat → Int64} (I : IV m) (rt : RT Q σ c l (m, f, acc)) {i : Nat} (hi : i < nt (m 9)) (hc : ∀ j, j ≠ 35 + σ i → c' j = c j) (hm : ∀ k, k < 74 + 6 * i ∨ 74 + 6 * i + 5 < k → m' k = m k) (hs : ∀ k, k < 6 → c' (35 + σ i) k = m' (74 + 6 * i + k)) : RT Q σ c' l (m', f, acc) := by
  have hns := I.2.2.2.2.2.2.2.2.2.1.2.2
  have hnb := I.2.2.2.2.2.2.2.2.1.2.2
  obtain ⟨t1, t04, t05, t06, t40, t41, t42, t43, tl, tb, ts⟩ := rt
  simp only at t1 t04 t05 t06 t40 t41 t42 t43 tl tb ts
  refine ⟨fun k hk => ?_, ?_, ?_, ?_, ?_, ?_, ?_, fun h => ?_, tl, fun b hb => ?_, fun i' hi' k hk => ?_⟩
  · show _ = m' k
    rw [hc 1 (by omega), hm k (by omega)]
    exact t1 k hk
  · show _ = m' 8
    rw [hc 0 (by omega), hm _ (by omega)]
    exact t04
  · show _ = m' 9
    rw [hc 0 (by omega), hm _ (by omega)]
    exact t05
  · show _ = m' 7
    rw [hc 0 (by omega), hm _ (by omega)]
    exact t06
  · show _ = m' 10
    rw [hc 4 (by omega), hm _ (by omega)]
    exact t40
  · show _ = m' 11
    rw [hc 4 (by omega), hm _ (by omega)]
    exact t41
  · show _ = m' 12
    rw [hc 4 (by omega), hm _ (by omega)]
    exact t42
  · have h' : m' 12 ≠ nI 0 := h
    rw [hm 12 (by omega)] at h'
    show _ = m' 13
    rw [hc 4 (by omega), hm _ (by omega)]
    exact t43 h'
  · have hb' : b < nt (m' 8) := hb
    rw [hm 8 (by omega)] at hb'
    obtain ⟨v1, v2, v3⟩ := tb b hb'
    refine ⟨fun k hk => ?_, fun h => ?_, ?_⟩
    · show _ = m' (14 + 6 * b + k)
      rw [hc _ (by omega), hm _ (by omega)]
      exact v1 k hk
    · show _ = m' (14 + 6 * b + 5)
      rw [hc _ (by omega), hm _ (by omega)]
      exact v2 h
    · exact LY_fr v3 (hc _ (by omega)) (hc _ (by omega))
  · have hi'' : i' < nt (m' 9) := hi'
    rw [hm 9 (by omega)] at hi''
    show _ = m' (74 + 6 * i' + k)
    by_cases e : i' = i
    · subst e
      exact hs k hk
    · have hne : σ i' ≠ σ i := fun h => e (si i' i (by omega) (by omega) h)
      rw [hc _ (by omega), hm _ (by omega)]
      exact ts i' hi'' k hk
theorem x5_ride {T : Ty} {R : Rm} {q σ : Nat → Nat} (G : TG T R q σ) (M : Mm) {l : Nat → Int64} {c : Nat → Nat → Int32} {m : Nat → Int32} {f : Nat → Nat → Nat} {acc : Nat → Int64} (I : IV m) (rt : RT QT σ c l (m, f, acc)) {i : Nat} (hi : i < nt (m 9)) : ∃ c', fn_X5_ride T R (q 0) (q (35 + σ i)) (TV q M c l) = some ((), TV q M c' l) ∧ RT QT σ c' l (kM m i, f, acc) := by
  have G0 := G
  have rt0 := rt
  have hns := I.2.2.2.2.2.2.2.2.2.1.2.2
  obtain ⟨nb, h8, -, hnb⟩ := rg_get I.2.2.2.2.2.2.2.2.1
  have n8 : nt (m 8) = nb := by rw [h8, nt_nI (by omega)]
  obtain ⟨hb1, hb2⟩ := I.2.2.2.2.2.2.2.2.2.2.2 i hi
  obtain ⟨b, hb, -, hb9⟩ := rg_get hb1
  have hkB : kB m i = b := by
    unfold kB
    rw [hb, nt_nI (by omega)]
  have hntb : nt (m (74 + 6 * i)) = b := hkB
  rw [hntb, n8] at hb2
  have hb8 : b < nt (m 8) := by omega
  obtain ⟨t1, t04, t05, t06, t40, t41, t42, t43, tl, tb, ts⟩ := rt
  simp only at t1 t04 t05 t06 t40 t41 t42 t43 tl tb ts
  obtain ⟨tb1, tb2, tb3⟩ := tb b hb8
  have hS := (show σ i < 6 by
    obtain ⟨hq, k0, r00, r01, r02, r03, k1, n1, k2, n2, k3, n3, k4, rb, kb, rl, lg, rs, ks, sl, si⟩ := G
    exact sl i (by omega))
  have s0 := ts i hi 0 (by omega)
  have s1 := ts i hi 1 (by omega)
  have s2 := ts i hi 2 (by omega)
  have s3 := ts i hi 3 (by omega)
  have s5 := ts i hi 5 (by omega)
  rw [Nat.add_zero] at s0
  have bl := tb1 0 (by omega)
  have bw1 := tb1 1 (by omega)
  have bw2 := tb1 2 (by omega)
  have bm := tb1 3 (by omega)
  simp only [Nat.reduceAdd, Nat.add_zero] at bl bw1 bw2 bm
  have hkC : m (74 + 6 * i + 3) + (nI (snS m b) - m (14 + 6 * b + 3)) = kC m i := by
    unfold kC
    rw [hkB, Int32.sub_eq_add_neg, Int32.sub_eq_add_neg, Int32.add_assoc]
  have e1 := x5_sn G0 M (c := up2 c (35 + σ i) 5 (m (74 + 6 * i + 5) + nI 1)) (l := l) I (fun k hk => by rw [up2_c _ _ (by omega)]; exact t1 k hk) hb8
  have hmv := fun x2 x => x5_moveDown_loop G0 M (l := l) (c := up2 (up2 c (35 + σ i) 5 (m (74 + 6 * i + 5) + nI 1)) (35 + σ i) 3 (kC m i)) (m := kU m i) (nb := nb) (S := σ i) x2 (by rw [up2_c _ _ (by omega), up2_c _ _ (by omega), t04, h8]) hnb (fun b' hb' => by rw [up2_c _ _ (by omega), up2_c _ _ (by omega), kU_o (by omega) (by omega)]; exact (tb b' (by omega)).1 1 (by omega)) hS (nb - b) b x FU (by omega) (FU_gt (by omega))
  have hmR : mvR (kU m i) i = mvW (kU m i) (nb - b) b (m (74 + 6 * i + 1) + (m (14 + 6 * b + 1) * m (14 + 6 * b + 2)) / nI 1000) := by
    unfold mvR
    rw [kU_o (k := 8) (by omega) (by omega), kU_o (k := 74 + 6 * i) (by omega) (by omega), kU_o (k := 74 + 6 * i + 1) (by omega) (by omega), hntb, n8, kU_o (k := 14 + 6 * b + 1) (by omega) (by omega), kU_o (k := 14 + 6 * b + 2) (by omega) (by omega)]
  have hU8 : nt (kU m i 8) = nb := by rw [kU_o (by omega) (by omega), n8]
  have hUs : ∀ k, k < 6 → up2 (up2 c (35 + σ i) 5 (m (74 + 6 * i + 5) + nI 1)) (35 + σ i) 3 (kC m i) (35 + σ i) k = kU m i (74 + 6 * i + k) := fun k hk => by
    unfold kU
    by_cases e3 : k = 3
    · subst e3
      rw [up2_s, pk_us]
    · rw [up2_k _ _ e3, pk_un (by omega)]
      by_cases e5 : k = 5
      · subst e5
        rw [up2_s, pk_us]
      · rw [up2_k _ _ e5, pk_un (by omega)]
        exact ts i hi k hk
  have hUo : ∀ j, j ≠ 35 + σ i → up2 (up2 c (35 + σ i) 5 (m (74 + 6 * i + 5) + nI 1)) (35 + σ i) 3 (kC m i) j = c j := fun j h => by
    rw [up2_r _ _ h, up2_r _ _ h]
  obtain ⟨hq, k0, r00, r01, r02, r03, k1, n1, k2, n2, k3, n3, k4, rb, kb, rl, lg, rs, ks, sl, si⟩ := G
  have hnb0 : ¬ nI b < nI 0 := nI_pos (by omega)
  unfold fn_X5_ride fn_X5_hasBand fn_X0_way fn_X5_moveDown
  by_cases hcc : -(m (74 + 6 * i + 2)) ≤ kC m i
  · refine ⟨cMv (up2 (up2 c (35 + σ i) 5 (m (74 + 6 * i + 5) + nI 1)) (35 + σ i) 3 (kC m i)) (35 + σ i) nb (mvR (kU m i) i), ?_, ?_⟩
    · rw [hmR]
      simp (disch := omega) only [↓lm1, l0, l1, l2, l3, l4, l5, l6, l7, l8, l9, l10, l11, l12, l13, l14, l31, l32, l44, l48, l50, l57, l59, l60, l74, l100, l110, l126, l300, l330, l500, l501, l801, l1000, l5000, l5010, l8010, l8192, l9000, l10000, l1000000, nI_add, pk_mul, nI_clamp, nI_leI, nI_ltI, nI_eq, chk_d, chk_t, chk_inb, rfm_s, bnd_e, cal_e, calR_e, if_pos, if_neg, k0, r00, r01, r02, r03, k1, n1, k2, n2, k3, n3, k4, rb, kb, rl, rs, ks, TV_g hq, TV_s hq, s0, hb, hnb0, if_false, t04, h8, s5, up2_c, bl, e1, up2_k, up2_s, s3, bm, hkC, s2, hcc, if_true, bw1, bw2, s1, hmv]
    · refine RT_K sl si I rt0 hi (fun j h => ?_) (fun k h => kM_s h) (fun k hk => ?_)
      · unfold cMv
        split
        · rw [up2_r _ _ h]
          exact hUo j h
        · rw [up2_r _ _ h, up2_r _ _ h]
          exact hUo j h
      · unfold kM
        rw [if_pos hcc]
        unfold mvM cMv
        rw [hU8]
        split
        · by_cases e4 : k = 4
          · subst e4
            rw [up2_s, pk_us]
          · rw [up2_k _ _ e4, pk_un (by omega)]
            exact hUs k hk
        · by_cases e1 : k = 1
          · subst e1
            rw [up2_s, pk_us]
          · rw [up2_k _ _ e1, pk_un (by omega)]
            by_cases e0 : k = 0
            · subst e0
              rw [up2_s, Nat.add_zero, pk_us]
            · rw [up2_k _ _ e0, pk_un (by omega)]
              exact hUs k hk
  · refine ⟨up2 (up2 (up2 c (35 + σ i) 5 (m (74 + 6 * i + 5) + nI 1)) (35 + σ i) 3 (kC m i)) (35 + σ i) 4 (nI 1), ?_, ?_⟩
    · simp (disch := omega) only [↓lm1, l0, l1, l2, l3, l4, l5, l6, l7, l8, l9, l10, l11, l12, l13, l14, l31, l32, l44, l48, l50, l57, l59, l60, l74, l100, l110, l126, l300, l330, l500, l501, l801, l1000, l5000, l5010, l8010, l8192, l9000, l10000, l1000000, nI_add, pk_mul, nI_clamp, nI_leI, nI_ltI, nI_eq, chk_d, chk_t, chk_inb, rfm_s, bnd_e, cal_e, calR_e, if_pos, if_neg, k0, r00, r01, r02, r03, k1, n1, k2, n2, k3, n3, k4, rb, kb, rl, rs, ks, TV_g hq, TV_s hq, s0, hb, hnb0, if_false, t04, h8, s5, up2_c, bl, e1, up2_k, up2_s, s3, bm, hkC, s2, hcc]
    · refine RT_K sl si I rt0 hi (fun j h => ?_) (fun k h => kM_s h) (fun k hk => ?_)
      · rw [up2_r _ _ h]
        exact hUo j h
      · unfold kM
        rw [if_neg hcc]
        by_cases e4 : k = 4
        · subst e4
          rw [up2_s, pk_us]
        · rw [up2_k _ _ e4, pk_un (by omega)]
          exact hUs k hk

