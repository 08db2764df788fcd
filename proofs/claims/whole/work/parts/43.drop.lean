/-! the reference's oldest state dropped -/
def dM (ad : Nat → Nat) (st : Nat) (M : Mm) : Mm := cpR M (ad (lcA st)) (ad (lcA (st + 1))) (fun k => lcO st + k) (fun k => lcO (st + 1) + k) 5010
def dM4 (ad : Nat → Nat) (M : Mm) : Mm := cpR (dM ad 2 (dM ad 1 (dM ad 0 M))) (ad 257) (ad 257) (fun k => k) (fun k => k + 110) 330
def dM5 (ad : Nat → Nat) (M : Mm) : Mm := cpQ (dM4 ad M) (ad 260) (ad 260) (fun k => k) (fun k => k + 4) 12
def dM6 (ad : Nat → Nat) (M : Mm) : Mm := sI (dM5 ad M) (ad 250) 10 (nI 3)
theorem x7_drop9 {ad : Nat → Nat} {T : Ty} {R : Rm} (G : RG ad T R) (M : Mm) {st : Nat} (hs : st < 3) (j2 : Int32 → Mm → Option (Unit × Mm)) : fb_X7_dropOldest_9 T R (ad 250) j2 FU (nI st) (nI 0) M = j2 (nI (st + 1)) (dM ad st M) := by
  have G0 := G
  have ki := fun M k v (hk : k < 5010) => x7_keepIce G0 M (st := st) (k := k) v (by omega) hk
  have kt := fun M k (hk : k < 5010) => x7_keptIce G0 M (st := st + 1) (k := k) (by omega) hk
  have key : ∀ e k fuel, k + e = 5010 → e < fuel → fb_X7_dropOldest_9 T R (ad 250) j2 fuel (nI st) (nI k) (cpR M (ad (lcA st)) (ad (lcA (st + 1))) (fun k => lcO st + k) (fun k => lcO (st + 1) + k) k) = j2 (nI (st + 1)) (dM ad st M) := by
    obtain ⟨hi, k0, k251, n251, r251, k252, n252, r252, k253, n253, r253, k254, n254, r254, k255, n255, r255, k256, n256, r256, k257, n257, r257, k258, n258, r258, k259, n259, r259, k260, n260, r260, k261, n261, r261⟩ := G
    intro e
    induction e with
    | zero =>
      intro k fuel h1 h2
      obtain ⟨n, rfl⟩ : ∃ n', fuel = n' + 1 := ⟨fuel - 1, by omega⟩
      have e : k = 5010 := by omega
      subst e
      rw [fbs_X7_dropOldest_9]
      unfold fs_X7_dropOldest_9
      simp (disch := omega) only [↓lm1, l0, l1, l2, l3, l4, l5, l6, l7, l8, l9, l10, l11, l12, l13, l14, l31, l32, l44, l48, l50, l57, l59, l60, l74, l100, l110, l126, l300, l330, l500, l501, l801, l1000, l5000, l5010, l8010, l8192, l9000, l10000, l1000000, nI_add, pk_mul, nI_clamp, nI_leI, nI_ltI, nI_eq, chk_d, chk_t, chk_inb, rfm_s, bnd_e, cal_e, calR_e, if_pos, if_neg]
      rfl
    | succ e ih =>
      intro k fuel h1 h2
      obtain ⟨n, rfl⟩ : ∃ n', fuel = n' + 1 := ⟨fuel - 1, by omega⟩
      have ih' := ih (k + 1) n (by omega) (by omega)
      rw [fbs_X7_dropOldest_9]
      unfold fs_X7_dropOldest_9
      simp (disch := omega) only [↓lm1, l0, l1, l2, l3, l4, l5, l6, l7, l8, l9, l10, l11, l12, l13, l14, l31, l32, l44, l48, l50, l57, l59, l60, l74, l100, l110, l126, l300, l330, l500, l501, l801, l1000, l5000, l5010, l8010, l8192, l9000, l10000, l1000000, nI_add, pk_mul, nI_clamp, nI_leI, nI_ltI, nI_eq, chk_d, chk_t, chk_inb, rfm_s, bnd_e, cal_e, calR_e, if_pos, if_neg, k0, kt, ki]
      exact ih'
  exact key 5010 0 FU (by omega) (FU_gt (by omega))
theorem dM_o {ad : Nat → Nat} (hi : ∀ a b : Nat, (ad a = ad b) = (a = b)) (st : Nat) (M : Mm) {r : Nat} (h1 : r ≠ 258) (h2 : r ≠ 259) : (dM ad st M).1 (ad r) = M.1 (ad r) := cpR_o _ _ _ (lcA_ne hi h1 h2) _
theorem dM_J (ad : Nat → Nat) (st : Nat) (M : Mm) : (dM ad st M).2 = M.2 := cpR_J _ _ _ _ _ _
theorem dM_n {ad : Nat → Nat} (hi : ∀ a b : Nat, (ad a = ad b) = (a = b)) (M : Mm) {st k j : Nat} (h : k ≠ st) (hs : st < 4) (hk : k < 4) (hj : j < 5010) : (dM ad st M).1 (ad (lcA k)) (lcO k + j) = M.1 (ad (lcA k)) (lcO k + j) := by
  unfold dM
  by_cases e : lcA k = lcA st
  · rw [e, cpR_n _ (fun i hi' => lc_sep h hk hs hj hi' e)]
  · rw [cpR_o _ _ _ (by rw [Ne, hi]; exact e)]
theorem dM_i {ad : Nat → Nat} (hi : ∀ a b : Nat, (ad a = ad b) = (a = b)) (M : Mm) {st j : Nat} (hs : st < 3) (hj : j < 5010) : (dM ad st M).1 (ad (lcA st)) (lcO st + j) = M.1 (ad (lcA (st + 1))) (lcO (st + 1) + j) := by
  unfold dM
  exact cpR_i _ (φ := fun k => lcO st + k) (fun i k h1 h2 => by omega) (fun i k h1 h2 e => lc_sep (show st ≠ st + 1 by omega) (by omega) (by omega) (by omega) h2 (by rw [hi] at e; exact e.symm)) j hj
theorem x7_dropOldest {ad : Nat → Nat} {T : Ty} {R : Rm} (G : RG ad T R) {M : Mm} (h : gI M (ad 250) 10 = nI 4) : fn_X7_dropOldest T R (ad 250) M = some ((), dM6 ad M) := by
  have G0 := G
  have d9 := fun M st j (hs : st < 3) => x7_drop9 G0 M hs j
  obtain ⟨hi, k0, k251, n251, r251, k252, n252, r252, k253, n253, r253, k254, n254, r254, k255, n255, r255, k256, n256, r256, k257, n257, r257, k258, n258, r258, k259, n259, r259, k260, n260, r260, k261, n261, r261⟩ := G
  have h3 : gI (dM ad 2 (dM ad 1 (dM ad 0 M))) (ad 250) 10 = nI 4 := by
    show (dM ad 2 (dM ad 1 (dM ad 0 M))).1 (ad 250) 10 = _
    rw [dM_o hi _ _ (by omega) (by omega), dM_o hi _ _ (by omega) (by omega), dM_o hi _ _ (by omega) (by omega)]
    exact h
  have a2 := lp_cpR (F := fun j => fs_X7_dropOldest_44 T R (ad 250) j (fb_X7_dropOldest_74 T R (ad 250) FU)) (z := fun _ _ => none) (N := 330) (d := ad 257) (s := ad 257) (φ := fun k => k) (ψ := fun k => k + 110) (P := fun M => gI M (ad 250) 10 = nI 4) (J := fb_X7_dropOldest_74 T R (ad 250) FU (nI 0)) (fun k M hk hp => (gI_o M _ _ (by rw [Ne, hi]; omega)).trans hp) (fun j k M hk hp => by
    unfold fs_X7_dropOldest_44
    simp (disch := omega) only [↓lm1, l0, l1, l2, l3, l4, l5, l6, l7, l8, l9, l10, l11, l12, l13, l14, l31, l32, l44, l48, l50, l57, l59, l60, l74, l100, l110, l126, l300, l330, l500, l501, l801, l1000, l5000, l5010, l8010, l8192, l9000, l10000, l1000000, nI_add, pk_mul, nI_clamp, nI_leI, nI_ltI, nI_eq, chk_d, chk_t, chk_inb, rfm_s, bnd_e, cal_e, calR_e, if_pos, if_neg, k0, k251, n251, r251, k252, n252, r252, k253, n253, r253, k254, n254, r254, k255, n255, r255, k256, n256, r256, k257, n257, r257, k258, n258, r258, k259, n259, r259, k260, n260, r260, k261, n261, r261]) (fun j M hp => by
    unfold fs_X7_dropOldest_44
    simp (disch := omega) only [↓lm1, l0, l1, l2, l3, l4, l5, l6, l7, l8, l9, l10, l11, l12, l13, l14, l31, l32, l44, l48, l50, l57, l59, l60, l74, l100, l110, l126, l300, l330, l500, l501, l801, l1000, l5000, l5010, l8010, l8192, l9000, l10000, l1000000, nI_add, pk_mul, nI_clamp, nI_leI, nI_ltI, nI_eq, chk_d, chk_t, chk_inb, rfm_s, bnd_e, cal_e, calR_e, if_pos, if_neg]) h3 (FU_gt (show 330 < 10000 by omega))
  have a3 := lp_cpQ (F := fun j => fs_X7_dropOldest_74 T R (ad 250) j) (z := fun _ _ => none) (N := 12) (d := ad 260) (s := ad 260) (φ := fun k => k) (ψ := fun k => k + 4) (P := fun M => gI M (ad 250) 10 = nI 4) (J := fun M => some ((), sI M (ad 250) 10 (nI 3))) (fun k M hk hp => hp) (fun j k M hk hp => by
    unfold fs_X7_dropOldest_74
    simp (disch := omega) only [↓lm1, l0, l1, l2, l3, l4, l5, l6, l7, l8, l9, l10, l11, l12, l13, l14, l31, l32, l44, l48, l50, l57, l59, l60, l74, l100, l110, l126, l300, l330, l500, l501, l801, l1000, l5000, l5010, l8010, l8192, l9000, l10000, l1000000, nI_add, pk_mul, nI_clamp, nI_leI, nI_ltI, nI_eq, chk_d, chk_t, chk_inb, rfm_s, bnd_e, cal_e, calR_e, if_pos, if_neg, k0, k251, n251, r251, k252, n252, r252, k253, n253, r253, k254, n254, r254, k255, n255, r255, k256, n256, r256, k257, n257, r257, k258, n258, r258, k259, n259, r259, k260, n260, r260, k261, n261, r261]) (fun j M hp => by
    unfold fs_X7_dropOldest_74
    simp (disch := omega) only [↓lm1, l0, l1, l2, l3, l4, l5, l6, l7, l8, l9, l10, l11, l12, l13, l14, l31, l32, l44, l48, l50, l57, l59, l60, l74, l100, l110, l126, l300, l330, l500, l501, l801, l1000, l5000, l5010, l8010, l8192, l9000, l10000, l1000000, nI_add, pk_mul, nI_clamp, nI_leI, nI_ltI, nI_eq, chk_d, chk_t, chk_inb, rfm_s, bnd_e, cal_e, calR_e, if_pos, if_neg, k0, k251, n251, r251, k252, n252, r252, k253, n253, r253, k254, n254, r254, k255, n255, r255, k256, n256, r256, k257, n257, r257, k258, n258, r258, k259, n259, r259, k260, n260, r260, k261, n261, r261, hp, nIs]) a2.2 (FU_gt (show 12 < 10000 by omega))
  have f0 : fb_X7_dropOldest_2 T R (ad 250) (fb_X7_dropOldest_44 T R (ad 250) (fb_X7_dropOldest_74 T R (ad 250) FU) FU) FU = fs_X7_dropOldest_2 T R (ad 250) (fb_X7_dropOldest_2 T R (ad 250) (fb_X7_dropOldest_44 T R (ad 250) (fb_X7_dropOldest_74 T R (ad 250) FU) FU) 9999) (fb_X7_dropOldest_44 T R (ad 250) (fb_X7_dropOldest_74 T R (ad 250) FU) FU) := fbs_X7_dropOldest_2 T R (ad 250) _ 9999
  have f1 := fbs_X7_dropOldest_2 T R (ad 250) (fb_X7_dropOldest_44 T R (ad 250) (fb_X7_dropOldest_74 T R (ad 250) FU) FU) 9998
  have f2 := fbs_X7_dropOldest_2 T R (ad 250) (fb_X7_dropOldest_44 T R (ad 250) (fb_X7_dropOldest_74 T R (ad 250) FU) FU) 9997
  have f3 := fbs_X7_dropOldest_2 T R (ad 250) (fb_X7_dropOldest_44 T R (ad 250) (fb_X7_dropOldest_74 T R (ad 250) FU) FU) 9996
  simp only [Nat.reduceAdd] at f1 f2 f3
  unfold fn_X7_dropOldest
  rw [f0]
  unfold fs_X7_dropOldest_2
  simp (disch := omega) only [↓lm1, l0, l1, l2, l3, l4, l5, l6, l7, l8, l9, l10, l11, l12, l13, l14, l31, l32, l44, l48, l50, l57, l59, l60, l74, l100, l110, l126, l300, l330, l500, l501, l801, l1000, l5000, l5010, l8010, l8192, l9000, l10000, l1000000, nI_add, pk_mul, nI_clamp, nI_leI, nI_ltI, nI_eq, if_neg, d9, Nat.reduceAdd]
  rw [f1]
  unfold fs_X7_dropOldest_2
  simp (disch := omega) only [↓lm1, l0, l1, l2, l3, l4, l5, l6, l7, l8, l9, l10, l11, l12, l13, l14, l31, l32, l44, l48, l50, l57, l59, l60, l74, l100, l110, l126, l300, l330, l500, l501, l801, l1000, l5000, l5010, l8010, l8192, l9000, l10000, l1000000, nI_add, pk_mul, nI_clamp, nI_leI, nI_ltI, nI_eq, if_neg, d9, Nat.reduceAdd]
  rw [f2]
  unfold fs_X7_dropOldest_2
  simp (disch := omega) only [↓lm1, l0, l1, l2, l3, l4, l5, l6, l7, l8, l9, l10, l11, l12, l13, l14, l31, l32, l44, l48, l50, l57, l59, l60, l74, l100, l110, l126, l300, l330, l500, l501, l801, l1000, l5000, l5010, l8010, l8192, l9000, l10000, l1000000, nI_add, pk_mul, nI_clamp, nI_leI, nI_ltI, nI_eq, if_neg, d9, Nat.reduceAdd]
  rw [f3]
  unfold fs_X7_dropOldest_2
  simp (disch := omega) only [↓lm1, l0, l1, l2, l3, l4, l5, l6, l7, l8, l9, l10, l11, l12, l13, l14, l31, l32, l44, l48, l50, l57, l59, l60, l74, l100, l110, l126, l300, l330, l500, l501, l801, l1000, l5000, l5010, l8010, l8192, l9000, l10000, l1000000, nI_add, pk_mul, nI_clamp, nI_leI, nI_ltI, nI_eq, if_pos]
  unfold fb_X7_dropOldest_44
  rw [a2.1]
  unfold fb_X7_dropOldest_74
  exact a3.1
theorem dM6_I {ad : Nat → Nat} (hi : ∀ a b : Nat, (ad a = ad b) = (a = b)) (M : Mm) {r : Nat} (h0 : r ≠ 250) (h1 : r ≠ 257) (h2 : r ≠ 258) (h3 : r ≠ 259) : (dM6 ad M).1 (ad r) = M.1 (ad r) := by
  unfold dM6
  rw [sI_1 _ _ _ (by rw [Ne, hi]; exact h0)]
  unfold dM5
  rw [cpQ_I]
  unfold dM4
  rw [cpR_o _ _ _ (by rw [Ne, hi]; exact h1), dM_o hi _ _ h2 h3, dM_o hi _ _ h2 h3, dM_o hi _ _ h2 h3]
theorem dM6_J {ad : Nat → Nat} (hi : ∀ a b : Nat, (ad a = ad b) = (a = b)) (M : Mm) {r : Nat} (h0 : r ≠ 260) : (dM6 ad M).2 (ad r) = M.2 (ad r) := by
  unfold dM6
  rw [sI_2]
  unfold dM5
  rw [cpQ_o _ _ _ (by rw [Ne, hi]; exact h0)]
  unfold dM4
  rw [cpR_J, dM_J, dM_J, dM_J]
theorem dM6_c (ad : Nat → Nat) (M : Mm) : gI (dM6 ad M) (ad 250) 10 = nI 3 := by
  unfold dM6
  exact gI_s _ _ _ _
theorem dM6_0 {ad : Nat → Nat} (hi : ∀ a b : Nat, (ad a = ad b) = (a = b)) (M : Mm) {j : Nat} (hj : j ≠ 10) : gI (dM6 ad M) (ad 250) j = gI M (ad 250) j := by
  unfold dM6
  rw [gI_k _ _ _ hj]
  unfold gI dM5
  rw [cpQ_I]
  unfold dM4
  rw [cpR_o _ _ _ (by rw [Ne, hi]; omega), dM_o hi _ _ (by omega) (by omega), dM_o hi _ _ (by omega) (by omega), dM_o hi _ _ (by omega) (by omega)]
theorem dM6_257 {ad : Nat → Nat} (hi : ∀ a b : Nat, (ad a = ad b) = (a = b)) (M : Mm) {k : Nat} (hk : k < 330) : (dM6 ad M).1 (ad 257) k = M.1 (ad 257) (k + 110) := by
  unfold dM6
  rw [sI_1 _ _ _ (by rw [Ne, hi]; omega)]
  unfold dM5
  rw [cpQ_I]
  unfold dM4
  rw [cpR_sh _ _ _ (by omega) hk]
  rw [dM_o hi _ _ (by omega) (by omega), dM_o hi _ _ (by omega) (by omega), dM_o hi _ _ (by omega) (by omega)]
theorem dM6_260 (ad : Nat → Nat) (M : Mm) {k : Nat} (hk : k < 12) : (dM6 ad M).2 (ad 260) k = M.2 (ad 260) (k + 4) := by
  unfold dM6
  rw [sI_2]
  unfold dM5
  rw [cpQ_sh _ _ _ (by omega) hk]
  unfold dM4
  rw [cpR_J, dM_J, dM_J, dM_J]
theorem dM6_lc {ad : Nat → Nat} (hi : ∀ a b : Nat, (ad a = ad b) = (a = b)) (M : Mm) (k : Nat) : (dM6 ad M).1 (ad (lcA k)) = (dM ad 2 (dM ad 1 (dM ad 0 M))).1 (ad (lcA k)) := by
  unfold dM6
  rw [sI_1 _ _ _ (Ne.symm (lcA_ne hi (by omega) (by omega)))]
  unfold dM5
  rw [cpQ_I]
  unfold dM4
  rw [cpR_o _ _ _ (Ne.symm (lcA_ne hi (by omega) (by omega)))]
theorem dM6_ice {ad : Nat → Nat} (hi : ∀ a b : Nat, (ad a = ad b) = (a = b)) (M : Mm) {k j : Nat} (hk : k < 3) (hj : j < 5010) : (dM6 ad M).1 (ad (lcA k)) (lcO k + j) = M.1 (ad (lcA (k + 1))) (lcO (k + 1) + j) := by
  rw [dM6_lc hi]
  rcases (show k = 0 ∨ k = 1 ∨ k = 2 by omega) with rfl | rfl | rfl
  · rw [dM_n hi _ (by omega) (by omega) (by omega) hj, dM_n hi _ (by omega) (by omega) (by omega) hj, dM_i hi _ (by omega) hj]
  · rw [dM_n hi _ (by omega) (by omega) (by omega) hj, dM_i hi _ (by omega) hj, dM_n hi _ (by omega) (by omega) (by omega) hj]
  · rw [dM_i hi _ (by omega) hj, dM_n hi _ (by omega) (by omega) (by omega) hj, dM_n hi _ (by omega) (by omega) (by omega) hj]
theorem dM6_SV {ad : Nat → Nat} (hi : ∀ a b : Nat, (ad a = ad b) = (a = b)) {M : Mm} {k : Nat} (hk : k < 3) {s : Sx} (hs : SV ad M (k + 1) s) : SV ad (dM6 ad M) k s := by
  obtain ⟨s1, s2, s3⟩ := hs
  refine ⟨fun j hj => ?_, fun b y hb hy => ?_, fun j hj => ?_⟩
  · rw [dM6_257 hi M (by omega), show 110 * k + j + 110 = 110 * (k + 1) + j by omega]
    exact s1 j hj
  · rw [dM6_ice hi M hk (by omega)]
    exact s2 b y hb hy
  · rw [dM6_260 ad M (by omega), show 4 * k + j + 4 = 4 * (k + 1) + j by omega]
    exact s3 j hj
