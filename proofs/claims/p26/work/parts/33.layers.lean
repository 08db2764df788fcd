/-! the class's Layers -/
theorem fu_id (g : Nat → Nat) (y : Nat) : fu g y (g y) = g := by
  funext x
  unfold fu
  by_cases h : x = y
  · rw [if_pos h, h]
  · rw [if_neg h]
theorem x2_take {q : Nat → Nat} (hq : ∀ a b : Nat, (q a = q b) = (a = b)) {T : Ty} {R : Rm} {a : Nat} (L : LG T R q a) (M : Mm) {c : Nat → Nat → Int32} (l : Nat → Int64) {g : Nat → Nat} {o t : Int32} (h : LW c a g o t) {y w : Nat} (hy : y < 801) (hw : w < 2 ^ 31) (hg : g y < 2 ^ 31) : ∃ c', fn_X2_takeOfYear T R (q a) (nI y) (nI w) (TV q M c l) = some (nI (min (g y) w), TV q M c' l) ∧ LW c' a (fu g y (g y - min (g y) w)) o t ∧ FR c c' a := by
  obtain ⟨hrow, hice, w3, w4⟩ := h
  have e1 := x2_leftOf hq L M (c := c) l hy
  obtain ⟨g1, g2, g3, g4, g5⟩ := L
  unfold fn_X2_takeOfYear
  by_cases hp : min (g y) w = 0
  · refine ⟨c, ?_, ?_, FR_r c a⟩
    · rw [hp]
      by_cases h1 : w < g y
      · have hw0 : w = 0 := by omega
        subst hw0
        simp (disch := omega) only [↓lm1, l0, l1, l2, l3, l4, l5, l6, l7, l8, l9, l10, l11, l12, l13, l14, l31, l32, l44, l48, l50, l57, l59, l60, l74, l100, l110, l126, l300, l330, l500, l501, l801, l1000, l5000, l5010, l8010, l8192, l9000, l10000, l1000000, nI_add, pk_mul, nI_clamp, nI_leI, nI_ltI, nI_eq, chk_d, chk_t, chk_inb, rfm_s, bnd_e, cal_e, calR_e, if_pos, if_neg, g1, e1, hrow]
      · have hg0 : g y = 0 := by omega
        simp (disch := omega) only [↓lm1, l0, l1, l2, l3, l4, l5, l6, l7, l8, l9, l10, l11, l12, l13, l14, l31, l32, l44, l48, l50, l57, l59, l60, l74, l100, l110, l126, l300, l330, l500, l501, l801, l1000, l5000, l5010, l8010, l8192, l9000, l10000, l1000000, nI_add, pk_mul, nI_clamp, nI_leI, nI_ltI, nI_eq, chk_d, chk_t, chk_inb, rfm_s, bnd_e, cal_e, calR_e, if_pos, if_neg, g1, e1, hrow, hg0]
    · rw [hp, Nat.sub_zero, fu_id]
      exact ⟨hrow, hice, w3, w4⟩
  · have hle := sm_le1 g hy
    have es : sm (fu g y (g y - min (g y) w)) 801 = sm g 801 - min (g y) w := by
      have := sm_fu g (v := g y - min (g y) w) hy
      omega
    refine ⟨up2 (up2 c (a + 1) y (nI (g y - min (g y) w))) a 1 (nI (sm g 801 - min (g y) w)), ?_, ⟨fun y' hy' => ?_, ?_, ?_, ?_⟩, fun j h1 h2 => ?_⟩
    · by_cases h1 : w < g y
      · have e : min (g y) w = w := by omega
        rw [e] at hp ⊢
        simp (disch := omega) only [↓lm1, l0, l1, l2, l3, l4, l5, l6, l7, l8, l9, l10, l11, l12, l13, l14, l31, l32, l44, l48, l50, l57, l59, l60, l74, l100, l110, l126, l300, l330, l500, l501, l801, l1000, l5000, l5010, l8010, l8192, l9000, l10000, l1000000, nI_add, pk_mul, nI_clamp, nI_leI, nI_ltI, nI_eq, chk_d, chk_t, chk_inb, rfm_s, bnd_e, cal_e, calR_e, if_pos, if_neg, g1, g2, g3, g4, e1, hrow, TV_g hq, TV_s hq, nIs, hice, up2_c]
      · have e : min (g y) w = g y := by omega
        rw [e] at hp ⊢
        simp (disch := omega) only [↓lm1, l0, l1, l2, l3, l4, l5, l6, l7, l8, l9, l10, l11, l12, l13, l14, l31, l32, l44, l48, l50, l57, l59, l60, l74, l100, l110, l126, l300, l330, l500, l501, l801, l1000, l5000, l5010, l8010, l8192, l9000, l10000, l1000000, nI_add, pk_mul, nI_clamp, nI_leI, nI_ltI, nI_eq, chk_d, chk_t, chk_inb, rfm_s, bnd_e, cal_e, calR_e, if_pos, if_neg, g1, g2, g3, g4, e1, hrow, TV_g hq, TV_s hq, nIs, hice, up2_c]
    · rw [up2_c _ _ (by omega)]
      unfold fu
      by_cases e : y' = y
      · subst e
        rw [if_pos rfl, up2_s]
      · rw [if_neg e, up2_k _ _ e]
        exact hrow y' hy'
    · rw [up2_s, es]
    · rw [up2_k _ _ (by omega), up2_c _ _ (by omega)]
      exact w3
    · rw [up2_k _ _ (by omega), up2_c _ _ (by omega)]
      exact w4
    · rw [up2_r _ _ h1, up2_r _ _ h2]
def BR (g : Nat → Nat) (o t : Nat) : Prop := o ≤ t ∧ t < 801 ∧ (∀ y, y < o → g y = 0) ∧ (∀ y, t < y → y < 801 → g y = 0)
theorem LW_3 {c : Nat → Nat → Int32} {a : Nat} {g : Nat → Nat} {o t : Int32} (h : LW c a g o t) (t' : Int32) : LW (up2 c a 3 t') a g o t' := by
  obtain ⟨h1, h2, h3, h4⟩ := h
  refine ⟨fun y hy => ?_, ?_, ?_, up2_s _ _ _ _⟩
  · rw [up2_c _ _ (by omega)]
    exact h1 y hy
  · rw [up2_k _ _ (by omega)]
    exact h2
  · rw [up2_k _ _ (by omega)]
    exact h3
theorem LW_2 {c : Nat → Nat → Int32} {a : Nat} {g : Nat → Nat} {o t : Int32} (h : LW c a g o t) (o' : Int32) : LW (up2 c a 2 o') a g o' t := by
  obtain ⟨h1, h2, h3, h4⟩ := h
  refine ⟨fun y hy => ?_, ?_, up2_s _ _ _ _, ?_⟩
  · rw [up2_c _ _ (by omega)]
    exact h1 y hy
  · rw [up2_k _ _ (by omega)]
    exact h2
  · rw [up2_k _ _ (by omega)]
    exact h4
theorem FR_u (c : Nat → Nat → Int32) (a k : Nat) (v : Int32) : FR c (up2 c a k v) a := fun j h1 _ => up2_r c v h1
theorem x2_nar54 {q : Nat → Nat} (hq : ∀ a b : Nat, (q a = q b) = (a = b)) {T : Ty} {R : Rm} {a : Nat} (L : LG T R q a) (M : Mm) (l : Nat → Int64) {g : Nat → Nat} {o : Nat} (hg : ∀ y, y < 801 → g y < 2 ^ 31) (h0 : 0 < g o) : ∀ d (c : Nat → Nat → Int32) fuel, LW c a g (nI o) (nI (o + d)) → BR g o (o + d) → d < fuel → ∃ c', fb_X2_narrow_54 T R (q a) fuel (TV q M c l) = some ((), TV q M c' l) ∧ LY c' a g ∧ FR c c' a := by
  have L0 := L
  obtain ⟨g1, g2, g3, g4, g5⟩ := L
  intro d
  induction d with
  | zero =>
    intro c fuel h hb h2
    obtain ⟨n, rfl⟩ : ∃ n, fuel = n + 1 := ⟨fuel - 1, by omega⟩
    obtain ⟨b1, b2, b3, b4⟩ := hb
    refine ⟨c, ?_, .inr ⟨o, o, ⟨Nat.le_refl _, b2, h0, h0, b3, b4⟩, h⟩, FR_r c a⟩
    obtain ⟨hrow, hice, w3, w4⟩ := h
    rw [fbs_X2_narrow_54]
    unfold fs_X2_narrow_54
    simp (disch := omega) only [↓lm1, l0, l1, l2, l3, l4, l5, l6, l7, l8, l9, l10, l11, l12, l13, l14, l31, l32, l44, l48, l50, l57, l59, l60, l74, l100, l110, l126, l300, l330, l500, l501, l801, l1000, l5000, l5010, l8010, l8192, l9000, l10000, l1000000, nI_add, pk_mul, nI_clamp, nI_leI, nI_ltI, nI_eq, chk_d, chk_t, chk_inb, rfm_s, bnd_e, cal_e, calR_e, if_pos, if_neg, g1, TV_g hq, w3, w4]
  | succ d ih =>
    intro c fuel h hb h2
    obtain ⟨n, rfl⟩ : ∃ n, fuel = n + 1 := ⟨fuel - 1, by omega⟩
    have hb0 := hb
    have hw := h
    obtain ⟨b1, b2, b3, b4⟩ := hb
    obtain ⟨hrow, hice, w3, w4⟩ := h
    have e1 := x2_leftOf hq L0 M (c := c) l b2
    have hgt := hg _ b2
    rw [fbs_X2_narrow_54]
    unfold fs_X2_narrow_54
    by_cases hz : g (o + (d + 1)) = 0
    · obtain ⟨c', r1, r2, r3⟩ := ih (up2 c a 3 (nI (o + d))) n (LW_3 hw _) ⟨by omega, by omega, b3, fun y h3 h4 => by
        by_cases e : y = o + (d + 1)
        · rw [e]
          exact hz
        · exact b4 y (by omega) h4⟩ (by omega)
      refine ⟨c', ?_, r2, FR_t (FR_u c a 3 _) r3⟩
      rw [← r1]
      have e2 : o + (d + 1) - 1 = o + d := by omega
      simp (disch := omega) only [↓lm1, l0, l1, l2, l3, l4, l5, l6, l7, l8, l9, l10, l11, l12, l13, l14, l31, l32, l44, l48, l50, l57, l59, l60, l74, l100, l110, l126, l300, l330, l500, l501, l801, l1000, l5000, l5010, l8010, l8192, l9000, l10000, l1000000, nI_add, pk_mul, nI_clamp, nI_leI, nI_ltI, nI_eq, chk_d, chk_t, chk_inb, rfm_s, bnd_e, cal_e, calR_e, if_pos, if_neg, g1, TV_g hq, w3, w4, e1, hrow, hz, if_true, nIs, TV_s hq, e2]
    · refine ⟨c, ?_, .inr ⟨o, o + (d + 1), ⟨b1, b2, h0, by omega, b3, b4⟩, hw⟩, FR_r c a⟩
      simp (disch := omega) only [↓lm1, l0, l1, l2, l3, l4, l5, l6, l7, l8, l9, l10, l11, l12, l13, l14, l31, l32, l44, l48, l50, l57, l59, l60, l74, l100, l110, l126, l300, l330, l500, l501, l801, l1000, l5000, l5010, l8010, l8192, l9000, l10000, l1000000, nI_add, pk_mul, nI_clamp, nI_leI, nI_ltI, nI_eq, chk_d, chk_t, chk_inb, rfm_s, bnd_e, cal_e, calR_e, if_pos, if_neg, g1, TV_g hq, w3, w4, e1, hrow]
theorem x2_nar19 {q : Nat → Nat} (hq : ∀ a b : Nat, (q a = q b) = (a = b)) {T : Ty} {R : Rm} {a : Nat} (L : LG T R q a) (M : Mm) (l : Nat → Int64) {g : Nat → Nat} (hg : ∀ y, y < 801 → g y < 2 ^ 31) (h0 : 0 < sm g 801) : ∀ d o (c : Nat → Nat → Int32) fuel, LW c a g (nI o) (nI (o + d)) → BR g o (o + d) → d < fuel → ∃ c', fb_X2_narrow_19 T R (q a) (fb_X2_narrow_54 T R (q a) FU) fuel (TV q M c l) = some ((), TV q M c' l) ∧ LY c' a g ∧ FR c c' a := by
  have L0 := L
  obtain ⟨g1, g2, g3, g4, g5⟩ := L
  intro d
  induction d with
  | zero =>
    intro o c fuel h hb h2
    obtain ⟨n, rfl⟩ : ∃ n, fuel = n + 1 := ⟨fuel - 1, by omega⟩
    have hgo : 0 < g o := by
      obtain ⟨b1, b2, b3, b4⟩ := hb
      refine Nat.pos_of_ne_zero (fun e => ?_)
      have : sm g 801 = 0 := sm_z (fun y hy => by
        rcases Nat.lt_trichotomy y o with h3 | h3 | h3
        · exact b3 y h3
        · rw [h3]
          exact e
        · exact b4 y h3 hy)
      omega
    obtain ⟨c', r1, r2, r3⟩ := x2_nar54 hq L0 M l hg hgo 0 c FU h hb (FU_gt (by omega))
    refine ⟨c', ?_, r2, r3⟩
    rw [← r1]
    obtain ⟨hrow, hice, w3, w4⟩ := h
    obtain ⟨b1, b2, b3, b4⟩ := hb
    rw [fbs_X2_narrow_19]
    unfold fs_X2_narrow_19
    simp (disch := omega) only [↓lm1, l0, l1, l2, l3, l4, l5, l6, l7, l8, l9, l10, l11, l12, l13, l14, l31, l32, l44, l48, l50, l57, l59, l60, l74, l100, l110, l126, l300, l330, l500, l501, l801, l1000, l5000, l5010, l8010, l8192, l9000, l10000, l1000000, nI_add, pk_mul, nI_clamp, nI_leI, nI_ltI, nI_eq, chk_d, chk_t, chk_inb, rfm_s, bnd_e, cal_e, calR_e, if_pos, if_neg, g1, TV_g hq, w3, w4]
  | succ d ih =>
    intro o c fuel h hb h2
    obtain ⟨n, rfl⟩ : ∃ n, fuel = n + 1 := ⟨fuel - 1, by omega⟩
    have hb0 := hb
    have hw := h
    obtain ⟨b1, b2, b3, b4⟩ := hb
    obtain ⟨hrow, hice, w3, w4⟩ := h
    have e1 := x2_leftOf hq L0 M (c := c) l (show o < 801 by omega)
    have hgt := hg o (by omega)
    by_cases hz : g o = 0
    · have ea : o + (d + 1) = o + 1 + d := by omega
      obtain ⟨c', r1, r2, r3⟩ := ih (o + 1) (up2 c a 2 (nI (o + 1))) n (by rw [← ea]; exact LW_2 hw _) ⟨by omega, by omega, fun y h3 => by
        by_cases e : y = o
        · rw [e]
          exact hz
        · exact b3 y (by omega), fun y h3 h4 => b4 y (by omega) h4⟩ (by omega)
      refine ⟨c', ?_, r2, FR_t (FR_u c a 2 _) r3⟩
      rw [← r1, fbs_X2_narrow_19]
      unfold fs_X2_narrow_19
      simp (disch := omega) only [↓lm1, l0, l1, l2, l3, l4, l5, l6, l7, l8, l9, l10, l11, l12, l13, l14, l31, l32, l44, l48, l50, l57, l59, l60, l74, l100, l110, l126, l300, l330, l500, l501, l801, l1000, l5000, l5010, l8010, l8192, l9000, l10000, l1000000, nI_add, pk_mul, nI_clamp, nI_leI, nI_ltI, nI_eq, chk_d, chk_t, chk_inb, rfm_s, bnd_e, cal_e, calR_e, if_pos, if_neg, g1, TV_g hq, w3, w4, e1, hrow, hz, if_true, TV_s hq]
    · obtain ⟨c', r1, r2, r3⟩ := x2_nar54 hq L0 M l hg (show 0 < g o by omega) (d + 1) c FU hw hb0 (FU_gt (by omega))
      refine ⟨c', ?_, r2, r3⟩
      rw [← r1, fbs_X2_narrow_19]
      unfold fs_X2_narrow_19
      simp (disch := omega) only [↓lm1, l0, l1, l2, l3, l4, l5, l6, l7, l8, l9, l10, l11, l12, l13, l14, l31, l32, l44, l48, l50, l57, l59, l60, l74, l100, l110, l126, l300, l330, l500, l501, l801, l1000, l5000, l5010, l8010, l8192, l9000, l10000, l1000000, nI_add, pk_mul, nI_clamp, nI_leI, nI_ltI, nI_eq, chk_d, chk_t, chk_inb, rfm_s, bnd_e, cal_e, calR_e, if_pos, if_neg, g1, TV_g hq, w3, w4, e1, hrow]
theorem nONE_le : (nONE ≤ nI 801) = True := eq_true (by decide)
theorem x2_narrow {q : Nat → Nat} (hq : ∀ a b : Nat, (q a = q b) = (a = b)) {T : Ty} {R : Rm} {a : Nat} (L : LG T R q a) (M : Mm) (l : Nat → Int64) {g : Nat → Nat} (hg : sm g 801 < 2 ^ 31) {c : Nat → Nat → Int32} {o t : Int32} (h : LW c a g o t) (hb : sm g 801 = 0 ∨ ∃ o' t', o = nI o' ∧ t = nI t' ∧ BR g o' t') : ∃ c', fn_X2_narrow T R (q a) (TV q M c l) = some ((), TV q M c' l) ∧ LY c' a g ∧ FR c c' a := by
  have L0 := L
  obtain ⟨g1, g2, g3, g4, g5⟩ := L
  by_cases h0 : sm g 801 = 0
  · have hw := h
    obtain ⟨hrow, hice, w3, w4⟩ := h
    rw [h0] at hice
    refine ⟨up2 (up2 c a 2 (nI 801)) a 3 nONE, ?_, .inl ⟨h0, LW_3 (LW_2 hw _) _⟩, FR_t (FR_u c a 2 _) (FR_u _ a 3 _)⟩
    have e19 : ∀ j54, fb_X2_narrow_19 T R (q a) j54 FU = fs_X2_narrow_19 T R (q a) (fb_X2_narrow_19 T R (q a) j54 9999) j54 := fun j54 => fbs_X2_narrow_19 T R (q a) j54 9999
    have e54 : fb_X2_narrow_54 T R (q a) FU = fs_X2_narrow_54 T R (q a) (fb_X2_narrow_54 T R (q a) 9999) := fbs_X2_narrow_54 T R (q a) 9999
    unfold fn_X2_narrow
    rw [e19, e54]
    unfold fs_X2_narrow_19 fs_X2_narrow_54
    simp (disch := omega) only [↓lm1, l0, l1, l2, l3, l4, l5, l6, l7, l8, l9, l10, l11, l12, l13, l14, l31, l32, l44, l48, l50, l57, l59, l60, l74, l100, l110, l126, l300, l330, l500, l501, l801, l1000, l5000, l5010, l8010, l8192, l9000, l10000, l1000000, nI_add, pk_mul, nI_clamp, nI_leI, nI_ltI, nI_eq, chk_d, chk_t, chk_inb, rfm_s, bnd_e, cal_e, calR_e, if_pos, if_neg, g1, TV_g hq, TV_s hq, hice, if_true, up2_s, up2_k, nONE_le]
  · have hw := h
    obtain ⟨hrow, hice, w3, w4⟩ := h
    rcases hb with hb | ⟨o', t', rfl, rfl, hb⟩
    · exact absurd hb h0
    · obtain ⟨d, rfl⟩ : ∃ d, t' = o' + d := ⟨t' - o', by have := hb.1; omega⟩
      obtain ⟨c', r1, r2, r3⟩ := x2_nar19 hq L0 M l (fun y hy => Nat.lt_of_le_of_lt (sm_le1 g hy) hg) (show 0 < sm g 801 by omega) d o' c FU hw hb (FU_gt (by have := hb.2.1; omega))
      refine ⟨c', ?_, r2, r3⟩
      rw [← r1]
      unfold fn_X2_narrow
      simp (disch := omega) only [↓lm1, l0, l1, l2, l3, l4, l5, l6, l7, l8, l9, l10, l11, l12, l13, l14, l31, l32, l44, l48, l50, l57, l59, l60, l74, l100, l110, l126, l300, l330, l500, l501, l801, l1000, l5000, l5010, l8010, l8192, l9000, l10000, l1000000, nI_add, pk_mul, nI_clamp, nI_leI, nI_ltI, nI_eq, chk_d, chk_t, chk_inb, rfm_s, bnd_e, cal_e, calR_e, if_pos, if_neg, g1, TV_g hq, hice]

