/-! the reference's front and stakes -/
def fM (m : Nat → Int32) : Nat → Int32 := if 0 < nt (m 11) then upd m 11 (nI (nt (m 11) - 1)) else if nt (m 10) < nt (m 5) then m else upd (upd (upd (upd m 10 (nI (nt (m 10) - nt (m 10) / nt (m 5) * nt (m 5)))) 12 (m 12 + nI (nt (m 10) / nt (m 5)))) 13 (m 7)) 11 (m 6)
def fA (m : Nat → Int32) (acc : Nat → Int64) : Nat → Int64 := if 0 < nt (m 11) then acc else if nt (m 10) < nt (m 5) then acc else vp_updL acc 3 (acc 3 + (nI (nt (m 10) / nt (m 5) * nt (m 5))).toInt64)
theorem x7_stepFront {ad : Nat → Nat} {T : Ty} {R : Rm} (G : RG ad T R) {M : Mm} {m : Nat → Int32} {ice : Nat → Int32} {acc : Nat → Int64} {F r pc : Nat} (hF : m 10 = nI F) (hF2 : F < 2 ^ 31) (hr : m 11 = nI r) (hr2 : r ≤ 50) (hp : m 5 = nI pc) (hp1 : 1 ≤ pc) (hp2 : pc ≤ 1000000) : fn_X7_stepFront T R (ad 250) (P3 ad M m ice acc) = some ((), P3 ad M (fM m) ice (fA m acc)) := by
  obtain ⟨hi, k0, k251, n251, r251, k252, n252, r252, k253, n253, r253, k254, n254, r254, k255, n255, r255, k256, n256, r256, k257, n257, r257, k258, n258, r258, k259, n259, r259, k260, n260, r260, k261, n261, r261⟩ := G
  have n10 : nt (m 10) = F := by rw [hF, nt_nI (by omega)]
  have n11 : nt (m 11) = r := by rw [hr, nt_nI (by omega)]
  have n5 : nt (m 5) = pc := by rw [hp, nt_nI (by omega)]
  unfold fn_X7_stepFront fM fA
  rw [n10, n11, n5]
  by_cases h1 : 0 < r
  · rw [if_pos h1, if_pos h1]
    simp (disch := omega) only [↓lm1, l0, l1, l2, l3, l4, l5, l6, l7, l8, l9, l10, l11, l12, l13, l14, l31, l32, l44, l48, l50, l57, l59, l60, l74, l100, l110, l126, l300, l330, l500, l501, l801, l1000, l5000, l5010, l8010, l8192, l9000, l10000, l1000000, nI_add, pk_mul, nI_clamp, nI_leI, nI_ltI, nI_eq, chk_d, chk_t, chk_inb, rfm_s, bnd_e, cal_e, calR_e, if_pos, if_neg, k0, k251, n251, r251, k252, n252, r252, k253, n253, r253, k254, n254, r254, k255, n255, r255, k256, n256, r256, k257, n257, r257, k258, n258, r258, k259, n259, r259, k260, n260, r260, k261, n261, r261, P3_m, hr, nIs, sP3_m]
  · rw [if_neg h1, if_neg h1]
    by_cases h2 : F < pc
    · rw [if_pos h2, if_pos h2]
      simp (disch := omega) only [↓lm1, l0, l1, l2, l3, l4, l5, l6, l7, l8, l9, l10, l11, l12, l13, l14, l31, l32, l44, l48, l50, l57, l59, l60, l74, l100, l110, l126, l300, l330, l500, l501, l801, l1000, l5000, l5010, l8010, l8192, l9000, l10000, l1000000, nI_add, pk_mul, nI_clamp, nI_leI, nI_ltI, nI_eq, chk_d, chk_t, chk_inb, rfm_s, bnd_e, cal_e, calR_e, if_pos, if_neg, k0, k251, n251, r251, k252, n252, r252, k253, n253, r253, k254, n254, r254, k255, n255, r255, k256, n256, r256, k257, n257, r257, k258, n258, r258, k259, n259, r259, k260, n260, r260, k261, n261, r261, P3_m, hr, hF, hp]
    · rw [if_neg h2, if_neg h2]
      have hq := Nat.div_mul_le_self F pc
      have hd := nI_d hF2 (show 0 < pc by omega) (show pc < 2 ^ 31 by omega)
      generalize F / pc = p at hq hd ⊢
      simp (disch := omega) only [↓lm1, l0, l1, l2, l3, l4, l5, l6, l7, l8, l9, l10, l11, l12, l13, l14, l31, l32, l44, l48, l50, l57, l59, l60, l74, l100, l110, l126, l300, l330, l500, l501, l801, l1000, l5000, l5010, l8010, l8192, l9000, l10000, l1000000, nI_add, pk_mul, nI_clamp, nI_leI, nI_ltI, nI_eq, chk_d, chk_t, chk_inb, rfm_s, bnd_e, cal_e, calR_e, if_pos, if_neg, k0, k251, n251, r251, k252, n252, r252, k253, n253, r253, k254, n254, r254, k255, n255, r255, k256, n256, r256, k257, n257, r257, k258, n258, r258, k259, n259, r259, k260, n260, r260, k261, n261, r261, P3_m, P3_a, hr, hF, hp, hd, nIs, sP3_m, sP3_a, pk_un]
/-- where a stake comes to rest: d bands from b on -/
def mvW (m : Nat → Int32) : Nat → Nat → Int32 → Nat × Int32
  | 0, b, x => (b, x)
  | d + 1, b, x => if x < m (14 + 6 * b + 1) then (b, x) else mvW m d (b + 1) (x - m (14 + 6 * b + 1))
def mvM (m : Nat → Int32) (s : Nat) (r : Nat × Int32) : Nat → Int32 := if r.1 = nt (m 8) then upd m (74 + 6 * s + 4) (nI 2) else upd (upd m (74 + 6 * s) (nI r.1)) (74 + 6 * s + 1) r.2
def mvR (m : Nat → Int32) (s : Nat) : Nat × Int32 := mvW m (nt (m 8) - nt (m (74 + 6 * s))) (nt (m (74 + 6 * s))) (m (74 + 6 * s + 1) + (m (14 + 6 * nt (m (74 + 6 * s)) + 1) * m (14 + 6 * nt (m (74 + 6 * s)) + 2)) / nI 1000)
theorem x7_moves_loop {ad : Nat → Nat} {T : Ty} {R : Rm} (G : RG ad T R) {M : Mm} {m : Nat → Int32} {ice : Nat → Int32} {acc : Nat → Int64} {nb s : Nat} (hnb : m 8 = nI nb) (hnb10 : nb ≤ 10) (hs : s < 6) : ∀ d b x fuel, b + d = nb → d < fuel → fb_X7_moves_32 T R (ad 250) (nI s) (fs_X7_moves_68 T R (ad 250) (nI s)) fuel (nI b) x (P3 ad M m ice acc) = some ((), P3 ad M (mvM m s (mvW m d b x)) ice acc) := by
  have G0 := G
  have n8 : nt (m 8) = nb := by rw [hnb, nt_nI (by omega)]
  have e1 := fun M v => x7_putStake G0 M (b := s) (k := 4) v (by omega)
  have e2 := fun M v => x7_putStake G0 M (b := s) (k := 0) v (by omega)
  have e3 := fun M v => x7_putStake G0 M (b := s) (k := 1) v (by omega)
  obtain ⟨hi, k0, k251, n251, r251, k252, n252, r252, k253, n253, r253, k254, n254, r254, k255, n255, r255, k256, n256, r256, k257, n257, r257, k258, n258, r258, k259, n259, r259, k260, n260, r260, k261, n261, r261⟩ := G
  intro d
  induction d with
  | zero =>
    intro b x fuel h1 h2
    obtain ⟨q, rfl⟩ : ∃ q, fuel = q + 1 := ⟨fuel - 1, by omega⟩
    rw [fbs_X7_moves_32]
    unfold fs_X7_moves_32 fs_X7_moves_68 mvM mvW
    rw [n8, if_pos (show b = nb by omega)]
    simp (disch := omega) only [↓lm1, l0, l1, l2, l3, l4, l5, l6, l7, l8, l9, l10, l11, l12, l13, l14, l31, l32, l44, l48, l50, l57, l59, l60, l74, l100, l110, l126, l300, l330, l500, l501, l801, l1000, l5000, l5010, l8010, l8192, l9000, l10000, l1000000, nI_add, pk_mul, nI_clamp, nI_leI, nI_ltI, nI_eq, chk_d, chk_t, chk_inb, rfm_s, bnd_e, cal_e, calR_e, if_pos, if_neg, k0, k251, n251, r251, k252, n252, r252, k253, n253, r253, k254, n254, r254, k255, n255, r255, k256, n256, r256, k257, n257, r257, k258, n258, r258, k259, n259, r259, k260, n260, r260, k261, n261, r261, P3_m, hnb, e1, sP3_m]
  | succ d ih =>
    intro b x fuel h1 h2
    obtain ⟨q, rfl⟩ : ∃ q, fuel = q + 1 := ⟨fuel - 1, by omega⟩
    have e4 := fun M => x7_of G0 M (b := b) (k := 1) (by omega)
    rw [fbs_X7_moves_32]
    unfold fs_X7_moves_32 mvW
    by_cases h3 : x < m (14 + 6 * b + 1)
    · rw [if_pos h3]
      unfold fs_X7_moves_68 mvM
      rw [n8, if_neg (show ¬ (b, x).1 = nb from by show ¬ b = nb; omega)]
      simp (disch := omega) only [↓lm1, l0, l1, l2, l3, l4, l5, l6, l7, l8, l9, l10, l11, l12, l13, l14, l31, l32, l44, l48, l50, l57, l59, l60, l74, l100, l110, l126, l300, l330, l500, l501, l801, l1000, l5000, l5010, l8010, l8192, l9000, l10000, l1000000, nI_add, pk_mul, nI_clamp, nI_leI, nI_ltI, nI_eq, chk_d, chk_t, chk_inb, rfm_s, bnd_e, cal_e, calR_e, if_pos, if_neg, k0, k251, n251, r251, k252, n252, r252, k253, n253, r253, k254, n254, r254, k255, n255, r255, k256, n256, r256, k257, n257, r257, k258, n258, r258, k259, n259, r259, k260, n260, r260, k261, n261, r261, P3_m, hnb, e2, e3, e4, sP3_m, h3, if_true, Nat.add_zero]
    · rw [if_neg h3]
      simp (disch := omega) only [↓lm1, l0, l1, l2, l3, l4, l5, l6, l7, l8, l9, l10, l11, l12, l13, l14, l31, l32, l44, l48, l50, l57, l59, l60, l74, l100, l110, l126, l300, l330, l500, l501, l801, l1000, l5000, l5010, l8010, l8192, l9000, l10000, l1000000, nI_add, pk_mul, nI_clamp, nI_leI, nI_ltI, nI_eq, chk_d, chk_t, chk_inb, rfm_s, bnd_e, cal_e, calR_e, if_pos, if_neg, k0, k251, n251, r251, k252, n252, r252, k253, n253, r253, k254, n254, r254, k255, n255, r255, k256, n256, r256, k257, n257, r257, k258, n258, r258, k259, n259, r259, k260, n260, r260, k261, n261, r261, P3_m, hnb, e4, h3, if_false]
      exact ih (b + 1) _ q (by omega) (by omega)
theorem x7_moves {ad : Nat → Nat} {T : Ty} {R : Rm} (G : RG ad T R) {M : Mm} {m : Nat → Int32} {ice : Nat → Int32} {acc : Nat → Int64} (I : IV m) {s : Nat} (hs : s < nt (m 9)) : fn_X7_moves T R (ad 250) (nI s) (P3 ad M m ice acc) = some ((), P3 ad M (mvM m s (mvR m s)) ice acc) := by
  have G0 := G
  have hs6 : s < 6 := Nat.lt_of_lt_of_le hs I.2.2.2.2.2.2.2.2.2.1.2.2
  obtain ⟨nb, hnb, -, hnb10⟩ := rg_get I.2.2.2.2.2.2.2.2.1
  have hnt8 : nt (m 8) = nb := by rw [hnb, nt_nI (by omega)]
  obtain ⟨hb1, hb2⟩ := I.2.2.2.2.2.2.2.2.2.2.2 s hs
  obtain ⟨b, hb, -, hb9⟩ := rg_get hb1
  have hntb : nt (m (74 + 6 * s)) = b := by rw [hb, nt_nI (by omega)]
  rw [hntb, hnt8] at hb2
  have e1 := fun M => x7_ofStake G0 M (b := s) (k := 0) (by omega)
  have e2 := fun M => x7_ofStake G0 M (b := s) (k := 1) (by omega)
  have e3 := fun M => x7_of G0 M (b := b) (k := 1) (by omega)
  have e4 := fun M => x7_of G0 M (b := b) (k := 2) (by omega)
  have hl := fun x => x7_moves_loop G0 (M := M) (ice := ice) (acc := acc) (s := s) hnb hnb10 hs6 (nb - b) b x FU (by omega) (FU_gt (by omega))
  unfold mvR
  rw [hntb, hnt8]
  obtain ⟨hi, k0, k251, n251, r251, k252, n252, r252, k253, n253, r253, k254, n254, r254, k255, n255, r255, k256, n256, r256, k257, n257, r257, k258, n258, r258, k259, n259, r259, k260, n260, r260, k261, n261, r261⟩ := G
  unfold fn_X7_moves
  simp (disch := omega) only [↓lm1, l0, l1, l2, l3, l4, l5, l6, l7, l8, l9, l10, l11, l12, l13, l14, l31, l32, l44, l48, l50, l57, l59, l60, l74, l100, l110, l126, l300, l330, l500, l501, l801, l1000, l5000, l5010, l8010, l8192, l9000, l10000, l1000000, nI_add, pk_mul, nI_clamp, nI_leI, nI_ltI, nI_eq, chk_d, chk_t, chk_inb, rfm_s, bnd_e, cal_e, calR_e, if_pos, if_neg, k0, k251, n251, r251, k252, n252, r252, k253, n253, r253, k254, n254, r254, k255, n255, r255, k256, n256, r256, k257, n257, r257, k258, n258, r258, k259, n259, r259, k260, n260, r260, k261, n261, r261, P3_m, e1, e2, e3, e4, hb, Nat.add_zero]
  exact hl _
