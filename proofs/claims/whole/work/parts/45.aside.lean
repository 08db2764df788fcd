/-! the reference's state set aside and brought back -/
def SA (ad : Nat → Nat) (M : Mm) (s : Sx) : Prop := (∀ k, k < 8010 → M.1 (ad 255) k = fI s.2.1 k) ∧ (∀ k, k < 110 → M.1 (ad 254) k = s.1 k) ∧ (∀ k, k < 4 → M.2 (ad 256) k = s.2.2 k)
def aM (ad : Nat → Nat) (M : Mm) (d1 s1 d2 s2 d3 s3 : Nat) : Mm := cpQ (cpR (cpR M (ad d1) (ad s1) (fun k => k) (fun k => k) 8010) (ad d2) (ad s2) (fun k => k) (fun k => k) 110) (ad d3) (ad s3) (fun k => k) (fun k => k) 4
theorem x7_setAside {ad : Nat → Nat} {T : Ty} {R : Rm} (G : RG ad T R) (M : Mm) : fn_X7_setAside T R (ad 250) M = some ((), aM ad M 255 252 254 251 256 253) := by
  obtain ⟨hi, k0, k251, n251, r251, k252, n252, r252, k253, n253, r253, k254, n254, r254, k255, n255, r255, k256, n256, r256, k257, n257, r257, k258, n258, r258, k259, n259, r259, k260, n260, r260, k261, n261, r261⟩ := G
  have a1 := fun J => lp_cpR (F := fun j => fs_X7_setAside_2 T R (ad 250) j (fb_X7_setAside_29 T R (ad 250) J FU)) (z := fun _ _ => none) (N := 8010) (d := ad 255) (s := ad 252) (φ := fun k => k) (ψ := fun k => k) (P := fun _ => True) (J := fb_X7_setAside_29 T R (ad 250) J FU (nI 0)) (fun k M hk hp => trivial) (fun j k M hk hp => by
    unfold fs_X7_setAside_2
    simp (disch := omega) only [↓lm1, l0, l1, l2, l3, l4, l5, l6, l7, l8, l9, l10, l11, l12, l13, l14, l31, l32, l44, l48, l50, l57, l59, l60, l74, l100, l110, l126, l300, l330, l500, l501, l801, l1000, l5000, l5010, l8010, l8192, l9000, l10000, l1000000, nI_add, pk_mul, nI_clamp, nI_leI, nI_ltI, nI_eq, chk_d, chk_t, chk_inb, rfm_s, bnd_e, cal_e, calR_e, if_pos, if_neg, k0, k251, n251, r251, k252, n252, r252, k253, n253, r253, k254, n254, r254, k255, n255, r255, k256, n256, r256, k257, n257, r257, k258, n258, r258, k259, n259, r259, k260, n260, r260, k261, n261, r261]) (fun j M hp => by
    unfold fs_X7_setAside_2
    simp (disch := omega) only [↓lm1, l0, l1, l2, l3, l4, l5, l6, l7, l8, l9, l10, l11, l12, l13, l14, l31, l32, l44, l48, l50, l57, l59, l60, l74, l100, l110, l126, l300, l330, l500, l501, l801, l1000, l5000, l5010, l8010, l8192, l9000, l10000, l1000000, nI_add, pk_mul, nI_clamp, nI_leI, nI_ltI, nI_eq, chk_d, chk_t, chk_inb, rfm_s, bnd_e, cal_e, calR_e, if_pos, if_neg]) (M := M) trivial (FU_gt (show 8010 < 10000 by omega))
  have a2 := fun M => lp_cpR (F := fun j => fs_X7_setAside_29 T R (ad 250) j (fb_X7_setAside_55 T R (ad 250) FU)) (z := fun _ _ => none) (N := 110) (d := ad 254) (s := ad 251) (φ := fun k => k) (ψ := fun k => k) (P := fun _ => True) (J := fb_X7_setAside_55 T R (ad 250) FU (nI 0)) (fun k M hk hp => trivial) (fun j k M hk hp => by
    unfold fs_X7_setAside_29
    simp (disch := omega) only [↓lm1, l0, l1, l2, l3, l4, l5, l6, l7, l8, l9, l10, l11, l12, l13, l14, l31, l32, l44, l48, l50, l57, l59, l60, l74, l100, l110, l126, l300, l330, l500, l501, l801, l1000, l5000, l5010, l8010, l8192, l9000, l10000, l1000000, nI_add, pk_mul, nI_clamp, nI_leI, nI_ltI, nI_eq, chk_d, chk_t, chk_inb, rfm_s, bnd_e, cal_e, calR_e, if_pos, if_neg, k0, k251, n251, r251, k252, n252, r252, k253, n253, r253, k254, n254, r254, k255, n255, r255, k256, n256, r256, k257, n257, r257, k258, n258, r258, k259, n259, r259, k260, n260, r260, k261, n261, r261]) (fun j M hp => by
    unfold fs_X7_setAside_29
    simp (disch := omega) only [↓lm1, l0, l1, l2, l3, l4, l5, l6, l7, l8, l9, l10, l11, l12, l13, l14, l31, l32, l44, l48, l50, l57, l59, l60, l74, l100, l110, l126, l300, l330, l500, l501, l801, l1000, l5000, l5010, l8010, l8192, l9000, l10000, l1000000, nI_add, pk_mul, nI_clamp, nI_leI, nI_ltI, nI_eq, chk_d, chk_t, chk_inb, rfm_s, bnd_e, cal_e, calR_e, if_pos, if_neg]) (M := M) trivial (FU_gt (show 110 < 10000 by omega))
  have a3 := fun M => lp_cpQ (F := fun j => fs_X7_setAside_55 T R (ad 250) j) (z := fun _ _ => none) (N := 4) (d := ad 256) (s := ad 253) (φ := fun k => k) (ψ := fun k => k) (P := fun _ => True) (J := fun M => some ((), M)) (fun k M hk hp => trivial) (fun j k M hk hp => by
    unfold fs_X7_setAside_55
    simp (disch := omega) only [↓lm1, l0, l1, l2, l3, l4, l5, l6, l7, l8, l9, l10, l11, l12, l13, l14, l31, l32, l44, l48, l50, l57, l59, l60, l74, l100, l110, l126, l300, l330, l500, l501, l801, l1000, l5000, l5010, l8010, l8192, l9000, l10000, l1000000, nI_add, pk_mul, nI_clamp, nI_leI, nI_ltI, nI_eq, chk_d, chk_t, chk_inb, rfm_s, bnd_e, cal_e, calR_e, if_pos, if_neg, k0, k251, n251, r251, k252, n252, r252, k253, n253, r253, k254, n254, r254, k255, n255, r255, k256, n256, r256, k257, n257, r257, k258, n258, r258, k259, n259, r259, k260, n260, r260, k261, n261, r261]) (fun j M hp => by
    unfold fs_X7_setAside_55
    simp (disch := omega) only [↓lm1, l0, l1, l2, l3, l4, l5, l6, l7, l8, l9, l10, l11, l12, l13, l14, l31, l32, l44, l48, l50, l57, l59, l60, l74, l100, l110, l126, l300, l330, l500, l501, l801, l1000, l5000, l5010, l8010, l8192, l9000, l10000, l1000000, nI_add, pk_mul, nI_clamp, nI_leI, nI_ltI, nI_eq, chk_d, chk_t, chk_inb, rfm_s, bnd_e, cal_e, calR_e, if_pos, if_neg, k0, k251, n251, r251, k252, n252, r252, k253, n253, r253, k254, n254, r254, k255, n255, r255, k256, n256, r256, k257, n257, r257, k258, n258, r258, k259, n259, r259, k260, n260, r260, k261, n261, r261]) (M := M) trivial (FU_gt (show 4 < 10000 by omega))
  unfold fn_X7_setAside fb_X7_setAside_2
  simp only [l0]
  rw [(a1 _).1]
  unfold fb_X7_setAside_29
  rw [(a2 _).1]
  unfold fb_X7_setAside_55
  exact (a3 _).1
theorem x7_bringBack {ad : Nat → Nat} {T : Ty} {R : Rm} (G : RG ad T R) (M : Mm) : fn_X7_bringBack T R (ad 250) M = some ((), aM ad M 252 255 251 254 253 256) := by
  obtain ⟨hi, k0, k251, n251, r251, k252, n252, r252, k253, n253, r253, k254, n254, r254, k255, n255, r255, k256, n256, r256, k257, n257, r257, k258, n258, r258, k259, n259, r259, k260, n260, r260, k261, n261, r261⟩ := G
  have a1 := fun J => lp_cpR (F := fun j => fs_X7_bringBack_2 T R (ad 250) j (fb_X7_bringBack_29 T R (ad 250) J FU)) (z := fun _ _ => none) (N := 8010) (d := ad 252) (s := ad 255) (φ := fun k => k) (ψ := fun k => k) (P := fun _ => True) (J := fb_X7_bringBack_29 T R (ad 250) J FU (nI 0)) (fun k M hk hp => trivial) (fun j k M hk hp => by
    unfold fs_X7_bringBack_2
    simp (disch := omega) only [↓lm1, l0, l1, l2, l3, l4, l5, l6, l7, l8, l9, l10, l11, l12, l13, l14, l31, l32, l44, l48, l50, l57, l59, l60, l74, l100, l110, l126, l300, l330, l500, l501, l801, l1000, l5000, l5010, l8010, l8192, l9000, l10000, l1000000, nI_add, pk_mul, nI_clamp, nI_leI, nI_ltI, nI_eq, chk_d, chk_t, chk_inb, rfm_s, bnd_e, cal_e, calR_e, if_pos, if_neg, k0, k251, n251, r251, k252, n252, r252, k253, n253, r253, k254, n254, r254, k255, n255, r255, k256, n256, r256, k257, n257, r257, k258, n258, r258, k259, n259, r259, k260, n260, r260, k261, n261, r261]) (fun j M hp => by
    unfold fs_X7_bringBack_2
    simp (disch := omega) only [↓lm1, l0, l1, l2, l3, l4, l5, l6, l7, l8, l9, l10, l11, l12, l13, l14, l31, l32, l44, l48, l50, l57, l59, l60, l74, l100, l110, l126, l300, l330, l500, l501, l801, l1000, l5000, l5010, l8010, l8192, l9000, l10000, l1000000, nI_add, pk_mul, nI_clamp, nI_leI, nI_ltI, nI_eq, chk_d, chk_t, chk_inb, rfm_s, bnd_e, cal_e, calR_e, if_pos, if_neg]) (M := M) trivial (FU_gt (show 8010 < 10000 by omega))
  have a2 := fun M => lp_cpR (F := fun j => fs_X7_bringBack_29 T R (ad 250) j (fb_X7_bringBack_55 T R (ad 250) FU)) (z := fun _ _ => none) (N := 110) (d := ad 251) (s := ad 254) (φ := fun k => k) (ψ := fun k => k) (P := fun _ => True) (J := fb_X7_bringBack_55 T R (ad 250) FU (nI 0)) (fun k M hk hp => trivial) (fun j k M hk hp => by
    unfold fs_X7_bringBack_29
    simp (disch := omega) only [↓lm1, l0, l1, l2, l3, l4, l5, l6, l7, l8, l9, l10, l11, l12, l13, l14, l31, l32, l44, l48, l50, l57, l59, l60, l74, l100, l110, l126, l300, l330, l500, l501, l801, l1000, l5000, l5010, l8010, l8192, l9000, l10000, l1000000, nI_add, pk_mul, nI_clamp, nI_leI, nI_ltI, nI_eq, chk_d, chk_t, chk_inb, rfm_s, bnd_e, cal_e, calR_e, if_pos, if_neg, k0, k251, n251, r251, k252, n252, r252, k253, n253, r253, k254, n254, r254, k255, n255, r255, k256, n256, r256, k257, n257, r257, k258, n258, r258, k259, n259, r259, k260, n260, r260, k261, n261, r261]) (fun j M hp => by
    unfold fs_X7_bringBack_29
    simp (disch := omega) only [↓lm1, l0, l1, l2, l3, l4, l5, l6, l7, l8, l9, l10, l11, l12, l13, l14, l31, l32, l44, l48, l50, l57, l59, l60, l74, l100, l110, l126, l300, l330, l500, l501, l801, l1000, l5000, l5010, l8010, l8192, l9000, l10000, l1000000, nI_add, pk_mul, nI_clamp, nI_leI, nI_ltI, nI_eq, chk_d, chk_t, chk_inb, rfm_s, bnd_e, cal_e, calR_e, if_pos, if_neg]) (M := M) trivial (FU_gt (show 110 < 10000 by omega))
  have a3 := fun M => lp_cpQ (F := fun j => fs_X7_bringBack_55 T R (ad 250) j) (z := fun _ _ => none) (N := 4) (d := ad 253) (s := ad 256) (φ := fun k => k) (ψ := fun k => k) (P := fun _ => True) (J := fun M => some ((), M)) (fun k M hk hp => trivial) (fun j k M hk hp => by
    unfold fs_X7_bringBack_55
    simp (disch := omega) only [↓lm1, l0, l1, l2, l3, l4, l5, l6, l7, l8, l9, l10, l11, l12, l13, l14, l31, l32, l44, l48, l50, l57, l59, l60, l74, l100, l110, l126, l300, l330, l500, l501, l801, l1000, l5000, l5010, l8010, l8192, l9000, l10000, l1000000, nI_add, pk_mul, nI_clamp, nI_leI, nI_ltI, nI_eq, chk_d, chk_t, chk_inb, rfm_s, bnd_e, cal_e, calR_e, if_pos, if_neg, k0, k251, n251, r251, k252, n252, r252, k253, n253, r253, k254, n254, r254, k255, n255, r255, k256, n256, r256, k257, n257, r257, k258, n258, r258, k259, n259, r259, k260, n260, r260, k261, n261, r261]) (fun j M hp => by
    unfold fs_X7_bringBack_55
    simp (disch := omega) only [↓lm1, l0, l1, l2, l3, l4, l5, l6, l7, l8, l9, l10, l11, l12, l13, l14, l31, l32, l44, l48, l50, l57, l59, l60, l74, l100, l110, l126, l300, l330, l500, l501, l801, l1000, l5000, l5010, l8010, l8192, l9000, l10000, l1000000, nI_add, pk_mul, nI_clamp, nI_leI, nI_ltI, nI_eq, chk_d, chk_t, chk_inb, rfm_s, bnd_e, cal_e, calR_e, if_pos, if_neg, k0, k251, n251, r251, k252, n252, r252, k253, n253, r253, k254, n254, r254, k255, n255, r255, k256, n256, r256, k257, n257, r257, k258, n258, r258, k259, n259, r259, k260, n260, r260, k261, n261, r261]) (M := M) trivial (FU_gt (show 4 < 10000 by omega))
  unfold fn_X7_bringBack fb_X7_bringBack_2
  simp only [l0]
  rw [(a1 _).1]
  unfold fb_X7_bringBack_29
  rw [(a2 _).1]
  unfold fb_X7_bringBack_55
  exact (a3 _).1
theorem aM_I {ad : Nat → Nat} (hi : ∀ a b : Nat, (ad a = ad b) = (a = b)) (M : Mm) {d1 s1 d2 s2 d3 s3 : Nat} {r : Nat} (h1 : r ≠ d1) (h2 : r ≠ d2) : (aM ad M d1 s1 d2 s2 d3 s3).1 (ad r) = M.1 (ad r) := by
  unfold aM
  rw [cpQ_I, cpR_o _ _ _ (by rw [Ne, hi]; exact h2), cpR_o _ _ _ (by rw [Ne, hi]; exact h1)]
theorem aM_J {ad : Nat → Nat} (hi : ∀ a b : Nat, (ad a = ad b) = (a = b)) (M : Mm) {d1 s1 d2 s2 d3 s3 : Nat} {r : Nat} (h1 : r ≠ d3) : (aM ad M d1 s1 d2 s2 d3 s3).2 (ad r) = M.2 (ad r) := by
  unfold aM
  rw [cpQ_o _ _ _ (by rw [Ne, hi]; exact h1), cpR_J, cpR_J]
theorem aM_1 {ad : Nat → Nat} (hi : ∀ a b : Nat, (ad a = ad b) = (a = b)) (M : Mm) {d1 s1 d2 s2 d3 s3 : Nat} (h1 : d1 ≠ d2) (h2 : s1 ≠ d1) {k : Nat} (hk : k < 8010) : (aM ad M d1 s1 d2 s2 d3 s3).1 (ad d1) k = M.1 (ad s1) k := by
  unfold aM
  rw [cpQ_I, cpR_o _ _ _ (by rw [Ne, hi]; exact h1)]
  exact cpR_i M (φ := fun k => k) (ψ := fun k => k) (fun i k h1 h2 => by omega) (fun i k _ _ e => absurd e (by rw [hi]; exact h2)) k hk
theorem aM_1n {ad : Nat → Nat} (hi : ∀ a b : Nat, (ad a = ad b) = (a = b)) (M : Mm) {d1 s1 d2 s2 d3 s3 : Nat} (h1 : d1 ≠ d2) {k : Nat} (hk : 8010 ≤ k) : (aM ad M d1 s1 d2 s2 d3 s3).1 (ad d1) k = M.1 (ad d1) k := by
  unfold aM
  rw [cpQ_I, cpR_o _ _ _ (by rw [Ne, hi]; exact h1), cpR_n _ (fun i hi' => by omega)]
theorem aM_2 {ad : Nat → Nat} (hi : ∀ a b : Nat, (ad a = ad b) = (a = b)) (M : Mm) {d1 s1 d2 s2 d3 s3 : Nat} (h1 : s2 ≠ d2) (h2 : s2 ≠ d1) {k : Nat} (hk : k < 110) : (aM ad M d1 s1 d2 s2 d3 s3).1 (ad d2) k = M.1 (ad s2) k := by
  unfold aM
  rw [cpQ_I]
  refine (cpR_i _ (φ := fun k => k) (ψ := fun k => k) (fun i k h1 h2 => by omega) (fun i k _ _ e => absurd e (by rw [hi]; exact h1)) k hk).trans ?_
  rw [cpR_o _ _ _ (by rw [Ne, hi]; exact h2)]
theorem aM_3 {ad : Nat → Nat} (hi : ∀ a b : Nat, (ad a = ad b) = (a = b)) (M : Mm) {d1 s1 d2 s2 d3 s3 : Nat} (h1 : s3 ≠ d3) {k : Nat} (hk : k < 4) : (aM ad M d1 s1 d2 s2 d3 s3).2 (ad d3) k = M.2 (ad s3) k := by
  unfold aM
  refine (cpQ_i _ (φ := fun k => k) (ψ := fun k => k) (fun i k h1 h2 => by omega) (fun i k _ _ e => absurd e (by rw [hi]; exact h1)) k hk).trans ?_
  rw [cpR_J, cpR_J]
theorem SA_set {ad : Nat → Nat} (hi : ∀ a b : Nat, (ad a = ad b) = (a = b)) {M : Mm} {s : Sx} (hs : RS ad M s) : SA ad (aM ad M 255 252 254 251 256 253) s ∧ RS ad (aM ad M 255 252 254 251 256 253) s := by
  obtain ⟨r1, r2, r3⟩ := hs
  refine ⟨⟨fun k hk => ?_, fun k hk => ?_, fun k hk => ?_⟩, ⟨?_, ?_, ?_⟩⟩
  · rw [aM_1 hi _ (by omega) (by omega) hk, r2]
  · rw [aM_2 hi _ (by omega) (by omega) hk, r1]
  · rw [aM_3 hi _ (by omega) hk, r3]
  · rw [aM_I hi _ (by omega) (by omega), r1]
  · rw [aM_I hi _ (by omega) (by omega), r2]
  · rw [aM_J hi _ (by omega), r3]
def bF (s t : Sx) : Nat → Nat → Nat := fun b y => if b < 10 then s.2.1 b y else t.2.1 b y
theorem SA_back {ad : Nat → Nat} (hi : ∀ a b : Nat, (ad a = ad b) = (a = b)) {M : Mm} {s t : Sx} (ha : SA ad M s) (ht : RS ad M t) : ∃ s', RS ad (aM ad M 252 255 251 254 253 256) s' ∧ EQs s s' := by
  obtain ⟨a1, a2, a3⟩ := ha
  refine ⟨((aM ad M 252 255 251 254 253 256).1 (ad 251), bF s t, (aM ad M 252 255 251 254 253 256).2 (ad 253)), ⟨rfl, ?_, rfl⟩, ⟨fun k hk => ?_, fun b y hb => ?_, fun k hk => ?_⟩⟩
  · funext k
    show _ = fI (bF s t) k
    by_cases h : k < 8010
    · rw [aM_1 hi _ (by omega) (by omega) h, a1 k h]
      unfold fI bF
      rw [if_pos (by omega)]
    · rw [aM_1n hi _ (by omega) (by omega), ht.2.1]
      unfold fI bF
      rw [if_neg (by omega)]
  · show (aM ad M 252 255 251 254 253 256).1 (ad 251) k = _
    rw [aM_2 hi _ (by omega) (by omega) hk]
    exact a2 k hk
  · show bF s t b y = _
    unfold bF
    rw [if_pos hb]
  · show (aM ad M 252 255 251 254 253 256).2 (ad 253) k = _
    rw [aM_3 hi _ (by omega) hk]
    exact a3 k hk
theorem RS_PS {ad : Nat → Nat} (hi : ∀ a b : Nat, (ad a = ad b) = (a = b)) {M : Mm} {s : Sx} (hs : RS ad M s) : PS ad M s = M := by
  obtain ⟨r1, r2, r3⟩ := hs
  unfold PS
  rw [← r1, ← r2, ← r3]
  exact P3_eta ad M (by rw [Ne, hi]; omega)
theorem PS_RS {ad : Nat → Nat} (hi : ∀ a b : Nat, (ad a = ad b) = (a = b)) (M : Mm) (s : Sx) : RS ad (PS ad M s) s := ⟨funext fun k => P3_m _ _ _ _ _ k, funext fun k => P3_i hi _ _ _ _ k, funext fun k => P3_a _ _ _ _ _ k⟩
theorem PS_I {ad : Nat → Nat} (hi : ∀ a b : Nat, (ad a = ad b) = (a = b)) (M : Mm) (s : Sx) {r : Nat} (h1 : r ≠ 251) (h2 : r ≠ 252) : (PS ad M s).1 (ad r) = M.1 (ad r) := funext fun k => P3_o hi _ _ _ _ k h1 h2
theorem PS_J {ad : Nat → Nat} (hi : ∀ a b : Nat, (ad a = ad b) = (a = b)) (M : Mm) (s : Sx) {r : Nat} (h1 : r ≠ 253) : (PS ad M s).2 (ad r) = M.2 (ad r) := funext fun k => P3_oj hi _ _ _ _ k h1
