/-! the reference's kept states -/
def SV (ad : Nat → Nat) (M : Mm) (k : Nat) (s : Sx) : Prop := (∀ j, j < 110 → M.1 (ad 257) (110 * k + j) = s.1 j) ∧ (∀ b y, b < 10 → y < 501 → M.1 (ad (lcA k)) (lcO k + (501 * b + y)) = nI (s.2.1 b y)) ∧ (∀ j, j < 4 → M.2 (ad 260) (4 * k + j) = s.2.2 j)
def RS (ad : Nat → Nat) (M : Mm) (s : Sx) : Prop := M.1 (ad 251) = s.1 ∧ M.1 (ad 252) = fI s.2.1 ∧ M.2 (ad 253) = s.2.2
def psiK (k : Nat) : Nat := 801 * (k / 501) + (k - k / 501 * 501)
theorem lcA_ne {ad : Nat → Nat} (hi : ∀ a b : Nat, (ad a = ad b) = (a = b)) {r st : Nat} (h1 : r ≠ 258) (h2 : r ≠ 259) : ad r ≠ ad (lcA st) := by
  intro h
  rw [hi] at h
  unfold lcA at h
  split at h <;> omega
theorem lc_sep {st st' i k : Nat} (h : st ≠ st') (h1 : st < 4) (h2 : st' < 4) (hi : i < 5010) (hk : k < 5010) (e : lcA st = lcA st') : lcO st + i ≠ lcO st' + k := by
  unfold lcA at e
  unfold lcO
  split at e <;> split at e <;> simp only [*, if_true, if_false] <;> omega
def kM1 (ad : Nat → Nat) (M : Mm) (n : Nat) : Mm := cpR M (ad (lcA n)) (ad 252) (fun k => lcO n + k) psiK 5010
def kM2 (ad : Nat → Nat) (M : Mm) (n : Nat) : Mm := cpR (kM1 ad M n) (ad 257) (ad 251) (fun k => 110 * n + k) (fun k => k) 110
def kM3 (ad : Nat → Nat) (M : Mm) (n : Nat) : Mm := cpQ (kM2 ad M n) (ad 260) (ad 253) (fun k => 4 * n + k) (fun k => k) 4
def kM4 (ad : Nat → Nat) (M : Mm) (n : Nat) : Mm := sI (kM3 ad M n) (ad 250) 10 (nI (n + 1))
theorem x7_keep12 {ad : Nat → Nat} {T : Ty} {R : Rm} (G : RG ad T R) {M : Mm} {n : Nat} (hn : n < 4) (h : gI M (ad 250) 10 = nI n) : fs_X7_keep_12 T R (ad 250) M = some ((), kM4 ad M n) := by
  have G0 := G
  have ki := fun M k v (hk : k < 5010) => x7_keepIce G0 M (st := n) (k := k) v hn hk
  obtain ⟨hi, k0, k251, n251, r251, k252, n252, r252, k253, n253, r253, k254, n254, r254, k255, n255, r255, k256, n256, r256, k257, n257, r257, k258, n258, r258, k259, n259, r259, k260, n260, r260, k261, n261, r261⟩ := G
  have a1 := fun J => lp_cpR (F := fun j => fs_X7_keep_14 T R (ad 250) j (fb_X7_keep_58 T R (ad 250) J FU)) (z := fun _ _ => none) (N := 5010) (d := ad (lcA n)) (s := ad 252) (φ := fun k => lcO n + k) (ψ := psiK) (P := fun M => gI M (ad 250) 10 = nI n) (J := fb_X7_keep_58 T R (ad 250) J FU (nI 0)) (fun k M hk hp => (gI_o M _ _ (lcA_ne hi (by omega) (by omega))).trans hp) (fun j k M hk hp => by
    have hd : k / 501 * 501 ≤ k := Nat.div_mul_le_self k 501
    unfold fs_X7_keep_14 psiK
    simp (disch := omega) only [↓lm1, l0, l1, l2, l3, l4, l5, l6, l7, l8, l9, l10, l11, l12, l13, l14, l31, l32, l44, l48, l50, l57, l59, l60, l74, l100, l110, l126, l300, l330, l500, l501, l801, l1000, l5000, l5010, l8010, l8192, l9000, l10000, l1000000, nI_add, pk_mul, nI_clamp, nI_leI, nI_ltI, nI_eq, chk_d, chk_t, chk_inb, rfm_s, bnd_e, cal_e, calR_e, if_pos, if_neg, k0, k251, n251, r251, k252, n252, r252, k253, n253, r253, k254, n254, r254, k255, n255, r255, k256, n256, r256, k257, n257, r257, k258, n258, r258, k259, n259, r259, k260, n260, r260, k261, n261, r261, nI_d, nIs, hp, ki]) (fun j M hp => by
    unfold fs_X7_keep_14
    simp (disch := omega) only [↓lm1, l0, l1, l2, l3, l4, l5, l6, l7, l8, l9, l10, l11, l12, l13, l14, l31, l32, l44, l48, l50, l57, l59, l60, l74, l100, l110, l126, l300, l330, l500, l501, l801, l1000, l5000, l5010, l8010, l8192, l9000, l10000, l1000000, nI_add, pk_mul, nI_clamp, nI_leI, nI_ltI, nI_eq, chk_d, chk_t, chk_inb, rfm_s, bnd_e, cal_e, calR_e, if_pos, if_neg]) h (FU_gt (show 5010 < 10000 by omega))
  have a2 := lp_cpR (F := fun j => fs_X7_keep_58 T R (ad 250) j (fb_X7_keep_92 T R (ad 250) FU)) (z := fun _ _ => none) (N := 110) (d := ad 257) (s := ad 251) (φ := fun k => 110 * n + k) (ψ := fun k => k) (P := fun M => gI M (ad 250) 10 = nI n) (J := fb_X7_keep_92 T R (ad 250) FU (nI 0)) (fun k M hk hp => (gI_o M _ _ (by rw [Ne, hi]; omega)).trans hp) (fun j k M hk hp => by
    unfold fs_X7_keep_58
    simp (disch := omega) only [↓lm1, l0, l1, l2, l3, l4, l5, l6, l7, l8, l9, l10, l11, l12, l13, l14, l31, l32, l44, l48, l50, l57, l59, l60, l74, l100, l110, l126, l300, l330, l500, l501, l801, l1000, l5000, l5010, l8010, l8192, l9000, l10000, l1000000, nI_add, pk_mul, nI_clamp, nI_leI, nI_ltI, nI_eq, chk_d, chk_t, chk_inb, rfm_s, bnd_e, cal_e, calR_e, if_pos, if_neg, k0, k251, n251, r251, k252, n252, r252, k253, n253, r253, k254, n254, r254, k255, n255, r255, k256, n256, r256, k257, n257, r257, k258, n258, r258, k259, n259, r259, k260, n260, r260, k261, n261, r261, hp]) (fun j M hp => by
    unfold fs_X7_keep_58
    simp (disch := omega) only [↓lm1, l0, l1, l2, l3, l4, l5, l6, l7, l8, l9, l10, l11, l12, l13, l14, l31, l32, l44, l48, l50, l57, l59, l60, l74, l100, l110, l126, l300, l330, l500, l501, l801, l1000, l5000, l5010, l8010, l8192, l9000, l10000, l1000000, nI_add, pk_mul, nI_clamp, nI_leI, nI_ltI, nI_eq, chk_d, chk_t, chk_inb, rfm_s, bnd_e, cal_e, calR_e, if_pos, if_neg]) (a1 (fb_X7_keep_92 T R (ad 250) FU)).2 (FU_gt (show 110 < 10000 by omega))
  have a3 := lp_cpQ (F := fun j => fs_X7_keep_92 T R (ad 250) j) (z := fun _ _ => none) (N := 4) (d := ad 260) (s := ad 253) (φ := fun k => 4 * n + k) (ψ := fun k => k) (P := fun M => gI M (ad 250) 10 = nI n) (J := fun M => some ((), sI M (ad 250) 10 (nI (n + 1)))) (fun k M hk hp => hp) (fun j k M hk hp => by
    unfold fs_X7_keep_92
    simp (disch := omega) only [↓lm1, l0, l1, l2, l3, l4, l5, l6, l7, l8, l9, l10, l11, l12, l13, l14, l31, l32, l44, l48, l50, l57, l59, l60, l74, l100, l110, l126, l300, l330, l500, l501, l801, l1000, l5000, l5010, l8010, l8192, l9000, l10000, l1000000, nI_add, pk_mul, nI_clamp, nI_leI, nI_ltI, nI_eq, chk_d, chk_t, chk_inb, rfm_s, bnd_e, cal_e, calR_e, if_pos, if_neg, k0, k251, n251, r251, k252, n252, r252, k253, n253, r253, k254, n254, r254, k255, n255, r255, k256, n256, r256, k257, n257, r257, k258, n258, r258, k259, n259, r259, k260, n260, r260, k261, n261, r261, hp]) (fun j M hp => by
    unfold fs_X7_keep_92
    simp (disch := omega) only [↓lm1, l0, l1, l2, l3, l4, l5, l6, l7, l8, l9, l10, l11, l12, l13, l14, l31, l32, l44, l48, l50, l57, l59, l60, l74, l100, l110, l126, l300, l330, l500, l501, l801, l1000, l5000, l5010, l8010, l8192, l9000, l10000, l1000000, nI_add, pk_mul, nI_clamp, nI_leI, nI_ltI, nI_eq, chk_d, chk_t, chk_inb, rfm_s, bnd_e, cal_e, calR_e, if_pos, if_neg, k0, k251, n251, r251, k252, n252, r252, k253, n253, r253, k254, n254, r254, k255, n255, r255, k256, n256, r256, k257, n257, r257, k258, n258, r258, k259, n259, r259, k260, n260, r260, k261, n261, r261, hp]) a2.2 (FU_gt (show 4 < 10000 by omega))
  unfold fs_X7_keep_12 fb_X7_keep_14
  simp only [l0]
  rw [(a1 _).1]
  unfold fb_X7_keep_58
  rw [a2.1]
  unfold fb_X7_keep_92
  exact a3.1
theorem kM4_I {ad : Nat → Nat} (M : Mm) (n : Nat) {a : Nat} (h0 : a ≠ ad 250) (h1 : a ≠ ad 257) (h2 : a ≠ ad (lcA n)) : (kM4 ad M n).1 a = M.1 a := by
  unfold kM4
  rw [sI_1 _ _ _ h0]
  unfold kM3
  rw [cpQ_I]
  unfold kM2
  rw [cpR_o _ _ _ h1]
  unfold kM1
  rw [cpR_o _ _ _ h2]
theorem kM4_J {ad : Nat → Nat} (M : Mm) (n : Nat) {a : Nat} (h0 : a ≠ ad 260) : (kM4 ad M n).2 a = M.2 a := by
  unfold kM4
  rw [sI_2]
  unfold kM3
  rw [cpQ_o _ _ _ h0]
  unfold kM2
  rw [cpR_J]
  unfold kM1
  rw [cpR_J]
theorem kM4_c {ad : Nat → Nat} (M : Mm) (n : Nat) : gI (kM4 ad M n) (ad 250) 10 = nI (n + 1) := by
  unfold kM4
  exact gI_s _ _ _ _
theorem kM4_0 {ad : Nat → Nat} (hi : ∀ a b : Nat, (ad a = ad b) = (a = b)) (M : Mm) (n : Nat) {j : Nat} (hj : j ≠ 10) : gI (kM4 ad M n) (ad 250) j = gI M (ad 250) j := by
  unfold kM4
  rw [gI_k _ _ _ hj]
  unfold gI kM3
  rw [cpQ_I]
  unfold kM2
  rw [cpR_o _ _ _ (by rw [Ne, hi]; omega)]
  unfold kM1
  rw [cpR_o _ _ _ (lcA_ne hi (by omega) (by omega))]
theorem kM4_257 {ad : Nat → Nat} (hi : ∀ a b : Nat, (ad a = ad b) = (a = b)) (M : Mm) (n : Nat) : (kM4 ad M n).1 (ad 257) = (kM2 ad M n).1 (ad 257) := by
  unfold kM4
  rw [sI_1 _ _ _ (by rw [Ne, hi]; omega)]
  unfold kM3
  rw [cpQ_I]
theorem kM4_lc {ad : Nat → Nat} (hi : ∀ a b : Nat, (ad a = ad b) = (a = b)) (M : Mm) (n k : Nat) : (kM4 ad M n).1 (ad (lcA k)) = (kM1 ad M n).1 (ad (lcA k)) := by
  unfold kM4
  rw [sI_1 _ _ _ (Ne.symm (lcA_ne hi (by omega) (by omega)))]
  unfold kM3
  rw [cpQ_I]
  unfold kM2
  rw [cpR_o _ _ _ (Ne.symm (lcA_ne hi (by omega) (by omega)))]
theorem kM4_new {ad : Nat → Nat} (hi : ∀ a b : Nat, (ad a = ad b) = (a = b)) {M : Mm} {n : Nat} {s : Sx} (hs : RS ad M s) : SV ad (kM4 ad M n) n s := by
  obtain ⟨s1, s2, s3⟩ := hs
  refine ⟨fun j hj => ?_, fun b y hb hy => ?_, fun j hj => ?_⟩
  · rw [kM4_257 hi]
    unfold kM2
    rw [cpR_i _ (fun i k h1 h2 => by omega) (fun i k h1 h2 e => absurd e (by rw [hi]; omega)) j hj]
    unfold kM1
    rw [cpR_o _ _ _ (lcA_ne hi (by omega) (by omega)), s1]
  · rw [kM4_lc hi]
    unfold kM1
    rw [cpR_i _ (φ := fun k => lcO n + k) (fun i k h1 h2 => by omega) (fun i k h1 h2 e => absurd e (lcA_ne hi (by omega) (by omega))) (501 * b + y) (by omega), s2]
    rw [show psiK (501 * b + y) = 801 * b + y by unfold psiK; omega]
    exact fI_at _ (by omega)
  · unfold kM4
    rw [sI_2]
    unfold kM3
    rw [cpQ_i _ (fun i k h1 h2 => by omega) (fun i k h1 h2 e => absurd e (by rw [hi]; omega)) j hj]
    unfold kM2
    rw [cpR_J]
    unfold kM1
    rw [cpR_J, s3]
theorem kM4_old {ad : Nat → Nat} (hi : ∀ a b : Nat, (ad a = ad b) = (a = b)) {M : Mm} {n k : Nat} (hn : n < 4) (hk : k < n) {s : Sx} (hs : SV ad M k s) : SV ad (kM4 ad M n) k s := by
  obtain ⟨s1, s2, s3⟩ := hs
  refine ⟨fun j hj => ?_, fun b y hb hy => ?_, fun j hj => ?_⟩
  · rw [kM4_257 hi]
    unfold kM2
    rw [cpR_n _ (fun i hi' => by omega)]
    unfold kM1
    rw [cpR_o _ _ _ (lcA_ne hi (by omega) (by omega))]
    exact s1 j hj
  · rw [kM4_lc hi]
    unfold kM1
    by_cases e : lcA k = lcA n
    · have s2' := s2 b y hb hy
      rw [e] at s2' ⊢
      rw [cpR_n _ (fun i hi' => lc_sep (show k ≠ n by omega) (by omega) hn (by omega) hi' e)]
      exact s2'
    · rw [cpR_o _ _ _ (by rw [Ne, hi]; exact e)]
      exact s2 b y hb hy
  · unfold kM4
    rw [sI_2]
    unfold kM3
    rw [cpQ_n _ (fun i hi' => by omega)]
    unfold kM2
    rw [cpR_J]
    unfold kM1
    rw [cpR_J]
    exact s3 j hj
