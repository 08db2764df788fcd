/-! the reference's keep, undo, and what is set aside -/
def RK (ad : Nat → Nat) (M : Mm) (n : Nat) (h : Nat → Sx) : Prop := gI M (ad 250) 10 = nI n ∧ n ≤ 4 ∧ ∀ k, k < n → SV ad M k (h k)
def hp (n : Nat) (h : Nat → Sx) (s : Sx) : Nat → Sx := if n = 4 then (fun k => if k = 3 then s else h (k + 1)) else (fun k => if k = n then s else h k)
def np (n : Nat) : Nat := if n = 4 then 4 else n + 1
def FK (ad : Nat → Nat) (M M' : Mm) : Prop := (∀ r, r ≠ 250 → r ≠ 257 → r ≠ 258 → r ≠ 259 → M'.1 (ad r) = M.1 (ad r)) ∧ (∀ r, r ≠ 260 → M'.2 (ad r) = M.2 (ad r)) ∧ (∀ j, j ≠ 10 → gI M' (ad 250) j = gI M (ad 250) j)
theorem FK_t {ad : Nat → Nat} {M M' M'' : Mm} (h : FK ad M M') (h' : FK ad M' M'') : FK ad M M'' := ⟨fun r a b c d => (h'.1 r a b c d).trans (h.1 r a b c d), fun r a => (h'.2.1 r a).trans (h.2.1 r a), fun j a => (h'.2.2 j a).trans (h.2.2 j a)⟩
theorem FK_RS {ad : Nat → Nat} {M M' : Mm} {s : Sx} (h : FK ad M M') (hs : RS ad M s) : RS ad M' s := ⟨(h.1 251 (by omega) (by omega) (by omega) (by omega)).trans hs.1, (h.1 252 (by omega) (by omega) (by omega) (by omega)).trans hs.2.1, (h.2.1 253 (by omega)).trans hs.2.2⟩
theorem kM4_FK {ad : Nat → Nat} (hi : ∀ a b : Nat, (ad a = ad b) = (a = b)) (M : Mm) (n : Nat) : FK ad M (kM4 ad M n) := ⟨fun r h0 h1 h2 h3 => kM4_I M n (by rw [Ne, hi]; exact h0) (by rw [Ne, hi]; exact h1) (lcA_ne hi h2 h3), fun r h0 => kM4_J M n (by rw [Ne, hi]; exact h0), fun j hj => kM4_0 hi M n hj⟩
theorem dM6_FK {ad : Nat → Nat} (hi : ∀ a b : Nat, (ad a = ad b) = (a = b)) (M : Mm) : FK ad M (dM6 ad M) := ⟨fun r h0 h1 h2 h3 => dM6_I hi M h0 h1 h2 h3, fun r h0 => dM6_J hi M h0, fun j hj => dM6_0 hi M hj⟩
theorem x7_keep {ad : Nat → Nat} {T : Ty} {R : Rm} (G : RG ad T R) {M : Mm} {s : Sx} {n : Nat} {h : Nat → Sx} (hs : RS ad M s) (hk : RK ad M n h) : ∃ M', fn_X7_keep T R (ad 250) M = some ((), M') ∧ RK ad M' (np n) (hp n h s) ∧ FK ad M M' := by
  have G0 := G
  obtain ⟨k1, k2, k3⟩ := hk
  obtain ⟨hi, k0, k251, n251, r251, k252, n252, r252, k253, n253, r253, k254, n254, r254, k255, n255, r255, k256, n256, r256, k257, n257, r257, k258, n258, r258, k259, n259, r259, k260, n260, r260, k261, n261, r261⟩ := G
  by_cases h4 : n = 4
  · subst h4
    have e1 := x7_dropOldest G0 k1
    have e2 := x7_keep12 G0 (n := 3) (by omega) (dM6_c ad M)
    have f1 := dM6_FK hi M
    refine ⟨kM4 ad (dM6 ad M) 3, ?_, ⟨kM4_c _ _, by decide, fun k hk => ?_⟩, FK_t f1 (kM4_FK hi _ _)⟩
    · unfold fn_X7_keep
      simp (disch := omega) only [↓lm1, l0, l1, l2, l3, l4, l5, l6, l7, l8, l9, l10, l11, l12, l13, l14, l31, l32, l44, l48, l50, l57, l59, l60, l74, l100, l110, l126, l300, l330, l500, l501, l801, l1000, l5000, l5010, l8010, l8192, l9000, l10000, l1000000, chk_d, chk_t, chk_inb, rfm_s, bnd_e, cal_e, calR_e, if_pos, if_neg, k0, k1, if_true, e1, e2]
    · unfold hp
      rw [if_pos rfl]
      by_cases h3 : k = 3
      · subst h3
        rw [if_pos rfl]
        exact kM4_new hi (FK_RS f1 hs)
      · have hk' : k < 4 := hk
        rw [if_neg h3]
        exact kM4_old hi (by omega) (by omega) (dM6_SV hi (by omega) (k3 (k + 1) (by omega)))
  · have e2 := x7_keep12 G0 (n := n) (by omega) k1
    have hn : np n = n + 1 := if_neg h4
    rw [hn]
    refine ⟨kM4 ad M n, ?_, ⟨kM4_c _ _, by omega, fun k hk => ?_⟩, kM4_FK hi _ _⟩
    · unfold fn_X7_keep
      simp (disch := omega) only [↓lm1, l0, l1, l2, l3, l4, l5, l6, l7, l8, l9, l10, l11, l12, l13, l14, l31, l32, l44, l48, l50, l57, l59, l60, l74, l100, l110, l126, l300, l330, l500, l501, l801, l1000, l5000, l5010, l8010, l8192, l9000, l10000, l1000000, nI_add, pk_mul, nI_clamp, nI_leI, nI_ltI, nI_eq, chk_d, chk_t, chk_inb, rfm_s, bnd_e, cal_e, calR_e, if_pos, if_neg, k0, k1, e2]
    · unfold hp
      rw [if_neg h4]
      by_cases h3 : k = n
      · subst h3
        rw [if_pos rfl]
        exact kM4_new hi hs
      · rw [if_neg h3]
        exact kM4_old hi (by omega) (by omega) (k3 k (by omega))
/-- states that are the same as far as is looked at -/
def EQs (s s' : Sx) : Prop := (∀ k, k < 110 → s'.1 k = s.1 k) ∧ (∀ b y, b < 10 → s'.2.1 b y = s.2.1 b y) ∧ (∀ k, k < 4 → s'.2.2 k = s.2.2 k)
def Zs (s : Sx) : Prop := ∀ b y, b < 10 → 501 ≤ y → s.2.1 b y = 0
theorem EQ_Z {s s' : Sx} (e : EQs s s') (z : Zs s) : Zs s' := fun b y hb hy => (e.2.1 b y hb).trans (z b y hb hy)
def uM1 (ad : Nat → Nat) (M : Mm) (n : Nat) : Mm := cpR (sI M (ad 250) 10 (nI n)) (ad 252) (ad (lcA n)) psiK (fun k => lcO n + k) 5010
def uM2 (ad : Nat → Nat) (M : Mm) (n : Nat) : Mm := cpR (uM1 ad M n) (ad 251) (ad 257) (fun k => k) (fun k => 110 * n + k) 110
def uM3 (ad : Nat → Nat) (M : Mm) (n : Nat) : Mm := cpQ (uM2 ad M n) (ad 253) (ad 260) (fun k => k) (fun k => 4 * n + k) 4
theorem x7_undo1 {ad : Nat → Nat} {T : Ty} {R : Rm} (G : RG ad T R) {M : Mm} {n : Nat} (hn : n < 4) (h : gI M (ad 250) 10 = nI (n + 1)) : fn_X7_undo T R (ad 250) M = some (nI n, uM3 ad M n) := by
  have G0 := G
  have kt := fun M k (hk : k < 5010) => x7_keptIce G0 M (st := n) (k := k) hn hk
  obtain ⟨hi, k0, k251, n251, r251, k252, n252, r252, k253, n253, r253, k254, n254, r254, k255, n255, r255, k256, n256, r256, k257, n257, r257, k258, n258, r258, k259, n259, r259, k260, n260, r260, k261, n261, r261⟩ := G
  have h0 : gI (sI M (ad 250) 10 (nI n)) (ad 250) 10 = nI n := gI_s _ _ _ _
  have a1 := fun J => lp_cpR (F := fun j => fs_X7_undo_22 T R (ad 250) j (fb_X7_undo_66 T R (ad 250) J FU)) (z := fun _ _ => none) (N := 5010) (d := ad 252) (s := ad (lcA n)) (φ := psiK) (ψ := fun k => lcO n + k) (P := fun M => gI M (ad 250) 10 = nI n) (J := fb_X7_undo_66 T R (ad 250) J FU (nI 0)) (fun k M hk hp => (gI_o M _ _ (by rw [Ne, hi]; omega)).trans hp) (fun j k M hk hp => by
    have hd : k / 501 * 501 ≤ k := Nat.div_mul_le_self k 501
    unfold fs_X7_undo_22 psiK
    simp (disch := omega) only [↓lm1, l0, l1, l2, l3, l4, l5, l6, l7, l8, l9, l10, l11, l12, l13, l14, l31, l32, l44, l48, l50, l57, l59, l60, l74, l100, l110, l126, l300, l330, l500, l501, l801, l1000, l5000, l5010, l8010, l8192, l9000, l10000, l1000000, nI_add, pk_mul, nI_clamp, nI_leI, nI_ltI, nI_eq, chk_d, chk_t, chk_inb, rfm_s, bnd_e, cal_e, calR_e, if_pos, if_neg, k0, k251, n251, r251, k252, n252, r252, k253, n253, r253, k254, n254, r254, k255, n255, r255, k256, n256, r256, k257, n257, r257, k258, n258, r258, k259, n259, r259, k260, n260, r260, k261, n261, r261, nI_d, nIs, hp, kt]) (fun j M hp => by
    unfold fs_X7_undo_22
    simp (disch := omega) only [↓lm1, l0, l1, l2, l3, l4, l5, l6, l7, l8, l9, l10, l11, l12, l13, l14, l31, l32, l44, l48, l50, l57, l59, l60, l74, l100, l110, l126, l300, l330, l500, l501, l801, l1000, l5000, l5010, l8010, l8192, l9000, l10000, l1000000, nI_add, pk_mul, nI_clamp, nI_leI, nI_ltI, nI_eq, chk_d, chk_t, chk_inb, rfm_s, bnd_e, cal_e, calR_e, if_pos, if_neg]) h0 (FU_gt (show 5010 < 10000 by omega))
  have a2 := lp_cpR (F := fun j => fs_X7_undo_66 T R (ad 250) j (fb_X7_undo_100 T R (ad 250) FU)) (z := fun _ _ => none) (N := 110) (d := ad 251) (s := ad 257) (φ := fun k => k) (ψ := fun k => 110 * n + k) (P := fun M => gI M (ad 250) 10 = nI n) (J := fb_X7_undo_100 T R (ad 250) FU (nI 0)) (fun k M hk hp => (gI_o M _ _ (by rw [Ne, hi]; omega)).trans hp) (fun j k M hk hp => by
    unfold fs_X7_undo_66
    simp (disch := omega) only [↓lm1, l0, l1, l2, l3, l4, l5, l6, l7, l8, l9, l10, l11, l12, l13, l14, l31, l32, l44, l48, l50, l57, l59, l60, l74, l100, l110, l126, l300, l330, l500, l501, l801, l1000, l5000, l5010, l8010, l8192, l9000, l10000, l1000000, nI_add, pk_mul, nI_clamp, nI_leI, nI_ltI, nI_eq, chk_d, chk_t, chk_inb, rfm_s, bnd_e, cal_e, calR_e, if_pos, if_neg, k0, k251, n251, r251, k252, n252, r252, k253, n253, r253, k254, n254, r254, k255, n255, r255, k256, n256, r256, k257, n257, r257, k258, n258, r258, k259, n259, r259, k260, n260, r260, k261, n261, r261, hp]) (fun j M hp => by
    unfold fs_X7_undo_66
    simp (disch := omega) only [↓lm1, l0, l1, l2, l3, l4, l5, l6, l7, l8, l9, l10, l11, l12, l13, l14, l31, l32, l44, l48, l50, l57, l59, l60, l74, l100, l110, l126, l300, l330, l500, l501, l801, l1000, l5000, l5010, l8010, l8192, l9000, l10000, l1000000, nI_add, pk_mul, nI_clamp, nI_leI, nI_ltI, nI_eq, chk_d, chk_t, chk_inb, rfm_s, bnd_e, cal_e, calR_e, if_pos, if_neg]) (a1 (fb_X7_undo_100 T R (ad 250) FU)).2 (FU_gt (show 110 < 10000 by omega))
  have a3 := lp_cpQ (F := fun j => fs_X7_undo_100 T R (ad 250) j) (z := fun _ _ => none) (N := 4) (d := ad 253) (s := ad 260) (φ := fun k => k) (ψ := fun k => 4 * n + k) (P := fun M => gI M (ad 250) 10 = nI n) (J := fun M => some (nI n, M)) (fun k M hk hp => hp) (fun j k M hk hp => by
    unfold fs_X7_undo_100
    simp (disch := omega) only [↓lm1, l0, l1, l2, l3, l4, l5, l6, l7, l8, l9, l10, l11, l12, l13, l14, l31, l32, l44, l48, l50, l57, l59, l60, l74, l100, l110, l126, l300, l330, l500, l501, l801, l1000, l5000, l5010, l8010, l8192, l9000, l10000, l1000000, nI_add, pk_mul, nI_clamp, nI_leI, nI_ltI, nI_eq, chk_d, chk_t, chk_inb, rfm_s, bnd_e, cal_e, calR_e, if_pos, if_neg, k0, k251, n251, r251, k252, n252, r252, k253, n253, r253, k254, n254, r254, k255, n255, r255, k256, n256, r256, k257, n257, r257, k258, n258, r258, k259, n259, r259, k260, n260, r260, k261, n261, r261, hp]) (fun j M hp => by
    unfold fs_X7_undo_100
    simp (disch := omega) only [↓lm1, l0, l1, l2, l3, l4, l5, l6, l7, l8, l9, l10, l11, l12, l13, l14, l31, l32, l44, l48, l50, l57, l59, l60, l74, l100, l110, l126, l300, l330, l500, l501, l801, l1000, l5000, l5010, l8010, l8192, l9000, l10000, l1000000, nI_add, pk_mul, nI_clamp, nI_leI, nI_ltI, nI_eq, chk_d, chk_t, chk_inb, rfm_s, bnd_e, cal_e, calR_e, if_pos, if_neg, k0, k251, n251, r251, k252, n252, r252, k253, n253, r253, k254, n254, r254, k255, n255, r255, k256, n256, r256, k257, n257, r257, k258, n258, r258, k259, n259, r259, k260, n260, r260, k261, n261, r261, hp]) a2.2 (FU_gt (show 4 < 10000 by omega))
  unfold fn_X7_undo
  have e1 : n + 1 - 1 = n := rfl
  simp (disch := omega) only [↓lm1, l0, l1, l2, l3, l4, l5, l6, l7, l8, l9, l10, l11, l12, l13, l14, l31, l32, l44, l48, l50, l57, l59, l60, l74, l100, l110, l126, l300, l330, l500, l501, l801, l1000, l5000, l5010, l8010, l8192, l9000, l10000, l1000000, nI_add, pk_mul, nI_clamp, nI_leI, nI_ltI, nI_eq, chk_d, chk_t, chk_inb, rfm_s, bnd_e, cal_e, calR_e, if_pos, if_neg, k0, h, nIs, e1]
  unfold fb_X7_undo_22
  rw [(a1 _).1]
  unfold fb_X7_undo_66
  rw [a2.1]
  unfold fb_X7_undo_100
  exact a3.1
theorem uM3_I {ad : Nat → Nat} (hi : ∀ a b : Nat, (ad a = ad b) = (a = b)) (M : Mm) (n : Nat) {r : Nat} (h0 : r ≠ 250) (h1 : r ≠ 251) (h2 : r ≠ 252) : (uM3 ad M n).1 (ad r) = M.1 (ad r) := by
  unfold uM3
  rw [cpQ_I]
  unfold uM2
  rw [cpR_o _ _ _ (by rw [Ne, hi]; exact h1)]
  unfold uM1
  rw [cpR_o _ _ _ (by rw [Ne, hi]; exact h2), sI_1 _ _ _ (by rw [Ne, hi]; exact h0)]
theorem uM3_J {ad : Nat → Nat} (hi : ∀ a b : Nat, (ad a = ad b) = (a = b)) (M : Mm) (n : Nat) {r : Nat} (h0 : r ≠ 253) : (uM3 ad M n).2 (ad r) = M.2 (ad r) := by
  unfold uM3
  rw [cpQ_o _ _ _ (by rw [Ne, hi]; exact h0)]
  unfold uM2
  rw [cpR_J]
  unfold uM1
  rw [cpR_J, sI_2]
theorem uM3_c {ad : Nat → Nat} (hi : ∀ a b : Nat, (ad a = ad b) = (a = b)) (M : Mm) (n : Nat) : gI (uM3 ad M n) (ad 250) 10 = nI n := by
  unfold gI uM3
  rw [cpQ_I]
  unfold uM2
  rw [cpR_o _ _ _ (by rw [Ne, hi]; omega)]
  unfold uM1
  rw [cpR_o _ _ _ (by rw [Ne, hi]; omega)]
  exact gI_s _ _ _ _
theorem uM3_0 {ad : Nat → Nat} (hi : ∀ a b : Nat, (ad a = ad b) = (a = b)) (M : Mm) (n : Nat) {j : Nat} (hj : j ≠ 10) : gI (uM3 ad M n) (ad 250) j = gI M (ad 250) j := by
  unfold gI uM3
  rw [cpQ_I]
  unfold uM2
  rw [cpR_o _ _ _ (by rw [Ne, hi]; omega)]
  unfold uM1
  rw [cpR_o _ _ _ (by rw [Ne, hi]; omega)]
  exact gI_k _ _ _ hj
theorem uM3_SV {ad : Nat → Nat} (hi : ∀ a b : Nat, (ad a = ad b) = (a = b)) {M : Mm} {n k : Nat} {s : Sx} (hs : SV ad M k s) : SV ad (uM3 ad M n) k s := by
  obtain ⟨s1, s2, s3⟩ := hs
  have hl : lcA k ≠ 250 ∧ lcA k ≠ 251 ∧ lcA k ≠ 252 := by
    unfold lcA
    split <;> omega
  refine ⟨fun j hj => ?_, fun b y hb hy => ?_, fun j hj => ?_⟩
  · rw [uM3_I hi M n (by omega) (by omega) (by omega)]
    exact s1 j hj
  · rw [uM3_I hi M n hl.1 hl.2.1 hl.2.2]
    exact s2 b y hb hy
  · rw [uM3_J hi M n (by omega)]
    exact s3 j hj
def uF (s t : Sx) : Nat → Nat → Nat := fun b y => if b < 10 ∧ y < 501 then t.2.1 b y else s.2.1 b y
theorem uM3_RS {ad : Nat → Nat} (hi : ∀ a b : Nat, (ad a = ad b) = (a = b)) {M : Mm} {n : Nat} {s t : Sx} (hr : RS ad M s) (hs : SV ad M n t) : RS ad (uM3 ad M n) ((uM3 ad M n).1 (ad 251), uF s t, (uM3 ad M n).2 (ad 253)) := by
  obtain ⟨r1, r2, r3⟩ := hr
  obtain ⟨s1, s2, s3⟩ := hs
  refine ⟨rfl, ?_, rfl⟩
  funext j
  unfold uM3
  rw [cpQ_I]
  unfold uM2
  rw [cpR_o _ _ _ (by rw [Ne, hi]; omega)]
  unfold uM1
  show _ = fI (uF s t) j
  unfold fI uF
  by_cases h : j / 801 < 10 ∧ j % 801 < 501
  · rw [if_pos h]
    have hj : 501 * (j / 801) + j % 801 < 5010 := by omega
    have e : psiK (501 * (j / 801) + j % 801) = j := by
      unfold psiK
      omega
    have h1 := cpR_i (sI M (ad 250) 10 (nI n)) (d := ad 252) (s := ad (lcA n)) (φ := psiK) (ψ := fun k => lcO n + k) (N := 5010) (fun i k h1 h2 => by unfold psiK; omega) (fun i k h1 h2 e => absurd e.symm (lcA_ne hi (by omega) (by omega))) _ hj
    rw [e] at h1
    rw [h1, sI_1 _ _ _ (Ne.symm (lcA_ne hi (by omega) (by omega)))]
    exact s2 _ _ h.1 h.2
  · rw [if_neg h, cpR_n _ (fun k hk => by unfold psiK; omega), sI_1 _ _ _ (by rw [Ne, hi]; omega), r2]
    rfl
theorem uM3_EQ {ad : Nat → Nat} (hi : ∀ a b : Nat, (ad a = ad b) = (a = b)) {M : Mm} {n : Nat} {s t : Sx} (hz : Zs s) (hzt : Zs t) (hs : SV ad M n t) : EQs t ((uM3 ad M n).1 (ad 251), uF s t, (uM3 ad M n).2 (ad 253)) := by
  obtain ⟨s1, s2, s3⟩ := hs
  refine ⟨fun k hk => ?_, fun b y hb => ?_, fun k hk => ?_⟩
  · show (uM3 ad M n).1 (ad 251) k = _
    unfold uM3
    rw [cpQ_I]
    unfold uM2
    have h1 := cpR_i (uM1 ad M n) (d := ad 251) (s := ad 257) (φ := fun k => k) (ψ := fun k => 110 * n + k) (N := 110) (fun i k h1 h2 => by omega) (fun i k h1 h2 e => absurd e (by rw [hi]; omega)) k hk
    refine h1.trans ?_
    unfold uM1
    rw [cpR_o _ _ _ (by rw [Ne, hi]; omega), sI_1 _ _ _ (by rw [Ne, hi]; omega)]
    exact s1 k hk
  · show uF s t b y = _
    unfold uF
    by_cases h : y < 501
    · rw [if_pos ⟨hb, h⟩]
    · rw [if_neg (fun q => h q.2), hz b y hb (by omega), hzt b y hb (by omega)]
  · show (uM3 ad M n).2 (ad 253) k = _
    unfold uM3
    have h1 := cpQ_i (uM2 ad M n) (d := ad 253) (s := ad 260) (φ := fun k => k) (ψ := fun k => 4 * n + k) (N := 4) (fun i k h1 h2 => by omega) (fun i k h1 h2 e => absurd e (by rw [hi]; omega)) k hk
    refine h1.trans ?_
    unfold uM2
    rw [cpR_J]
    unfold uM1
    rw [cpR_J, sI_2]
    exact s3 k hk
