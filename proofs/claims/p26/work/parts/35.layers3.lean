/-! the class's Layers: giving to another one, counting, emptying -/
def FR2 (c c' : Nat → Nat → Int32) (a b : Nat) : Prop := ∀ j, j ≠ a → j ≠ a + 1 → j ≠ b → j ≠ b + 1 → c' j = c j
theorem FR2_t {c c' c'' : Nat → Nat → Int32} {a b : Nat} (h : FR2 c c' a b) (h' : FR2 c' c'' a b) : FR2 c c'' a b := fun j h1 h2 h3 h4 => (h' j h1 h2 h3 h4).trans (h j h1 h2 h3 h4)
theorem FR2_a {c c' : Nat → Nat → Int32} {a b : Nat} (h : FR c c' a) : FR2 c c' a b := fun j h1 h2 _ _ => h j h1 h2
theorem FR2_b {c c' : Nat → Nat → Int32} {a b : Nat} (h : FR c c' b) : FR2 c c' a b := fun j _ _ h3 h4 => h j h3 h4
theorem x2_give_loop {q : Nat → Nat} (hq : ∀ a b : Nat, (q a = q b) = (a = b)) {T : Ty} {R : Rm} {a b : Nat} (L : LG T R q a) (L2 : LG T R q b) (hab : a + 1 < b) (M : Mm) (l : Nat → Int64) {g g0 : Nat → Nat} (hg : sm g 801 < 2 ^ 31) {o t w : Nat} (hw : w < 2 ^ 31) (ht8 : t < 801) (ht : ∀ y, t < y → y < 801 → g y = 0) (w0 : Int32) (j60 : Mm → Option (Unit × Mm)) : ∀ d k (c : Nat → Nat → Int32) fuel, k + d = t + 1 → LW c a (rwB g w k) (nI o) (nI t) → LY c b (rwU g0 g w k) → d < fuel → ∃ c', fb_X2_giveFromOldest_15 T R (q a) w0 (q b) j60 fuel (nI (w - sm g k)) (nI k) (TV q M c l) = j60 (TV q M c' l) ∧ LW c' a (rwB g w 801) (nI o) (nI t) ∧ LY c' b (rwU g0 g w 801) ∧ FR2 c c' a b := by
  have L0 := L
  have L20 := L2
  obtain ⟨g1, g2, g3, g4, g5⟩ := L
  have b1 := L2.1
  intro d
  induction d with
  | zero =>
    intro k c fuel h1 h hu h2
    obtain ⟨n, rfl⟩ : ∃ n, fuel = n + 1 := ⟨fuel - 1, by omega⟩
    have hko : k = t + 1 := by omega
    subst hko
    rw [rwB_d (show t + 1 ≤ 801 by omega) (fun y h3 h4 => tb_0 (ht y (by omega) h4))] at h
    rw [rwU_d (show t + 1 ≤ 801 by omega) (fun y h3 h4 => tb_0 (ht y (by omega) h4))] at hu
    refine ⟨c, ?_, h, hu, FR2_a (FR_r c a)⟩
    obtain ⟨hrow, hice, w3, w4⟩ := h
    rw [fbs_X2_giveFromOldest_15]
    unfold fs_X2_giveFromOldest_15
    simp (disch := omega) only [↓lm1, l0, l1, l2, l3, l4, l5, l6, l7, l8, l9, l10, l11, l12, l13, l14, l31, l32, l44, l48, l50, l57, l59, l60, l74, l100, l110, l126, l300, l330, l500, l501, l801, l1000, l5000, l5010, l8010, l8192, l9000, l10000, l1000000, nI_add, pk_mul, nI_clamp, nI_leI, nI_ltI, nI_eq, chk_d, chk_t, chk_inb, rfm_s, bnd_e, cal_e, calR_e, if_pos, if_neg, g1, TV_g hq, w4]
  | succ d ih =>
    intro k c fuel h1 h hu h2
    obtain ⟨n, rfl⟩ : ∃ n, fuel = n + 1 := ⟨fuel - 1, by omega⟩
    have s1 := sm_s g k
    have s2 := sm_le1 g (show k < 801 by omega)
    have hw4 := h.2.2.2
    rw [fbs_X2_giveFromOldest_15]
    unfold fs_X2_giveFromOldest_15 fs_X2_giveFromOldest_54
    by_cases h0 : w ≤ sm g k
    · rw [rwB_d (show k ≤ 801 by omega) (fun y h3 h4 => tb_z h0 h3)] at h
      rw [rwU_d (show k ≤ 801 by omega) (fun y h3 h4 => tb_z h0 h3)] at hu
      refine ⟨c, ?_, h, hu, FR2_a (FR_r c a)⟩
      simp (disch := omega) only [↓lm1, l0, l1, l2, l3, l4, l5, l6, l7, l8, l9, l10, l11, l12, l13, l14, l31, l32, l44, l48, l50, l57, l59, l60, l74, l100, l110, l126, l300, l330, l500, l501, l801, l1000, l5000, l5010, l8010, l8192, l9000, l10000, l1000000, nI_add, pk_mul, nI_clamp, nI_leI, nI_ltI, nI_eq, chk_d, chk_t, chk_inb, rfm_s, bnd_e, cal_e, calR_e, if_pos, if_neg, g1, TV_g hq, hw4]
    · have htb : tb g w k = min (g k) (w - sm g k) := rfl
      have hv : rwB g w k k = g k := by
        unfold rwB
        rw [if_neg (by omega)]
      have hv2 : rwU g0 g w k k = g0 k := by
        unfold rwU
        rw [if_neg (by omega)]
      have hrow := rwB_s g w k
      have hrow2 := rwU_s g0 g w k
      rw [htb] at hrow hrow2
      obtain ⟨c1, p1, p2, p3⟩ := x2_take hq L0 M l h (y := k) (w := w - sm g k) (by omega) (by omega) (by rw [hv]; omega)
      rw [hv, hrow] at p2
      rw [hv] at p1
      have hu1 : LY c1 b (rwU g0 g w k) := LY_fr hu (p3 b (by omega) (by omega)) (p3 (b + 1) (by omega) (by omega))
      obtain ⟨c3, u1, u2, u3⟩ := x2_add hq L20 M l hu1 (y := k) (v := min (g k) (w - sm g k)) (by omega) (by omega)
      rw [hv2, hrow2] at u2
      have p2' : LW c3 a (rwB g w (k + 1)) (nI o) (nI t) := LW_fr p2 (u3 a (by omega) (by omega)) (u3 (a + 1) (by omega) (by omega))
      obtain ⟨c2, r1, r2, r4, r3⟩ := ih (k + 1) c3 n (by omega) p2' u2 (by omega)
      refine ⟨c2, ?_, r2, r4, FR2_t (FR2_a p3) (FR2_t (FR2_b u3) r3)⟩
      have e3 : w - sm g k - min (g k) (w - sm g k) = w - sm g (k + 1) := by omega
      rw [← r1]
      simp (disch := omega) only [↓lm1, l0, l1, l2, l3, l4, l5, l6, l7, l8, l9, l10, l11, l12, l13, l14, l31, l32, l44, l48, l50, l57, l59, l60, l74, l100, l110, l126, l300, l330, l500, l501, l801, l1000, l5000, l5010, l8010, l8192, l9000, l10000, l1000000, nI_add, pk_mul, nI_clamp, nI_leI, nI_ltI, nI_eq, chk_d, chk_t, chk_inb, rfm_s, bnd_e, cal_e, calR_e, if_pos, if_neg, g1, b1, TV_g hq, hw4, p1, nIs, e3, u1]
theorem x2_give {q : Nat → Nat} (hq : ∀ a b : Nat, (q a = q b) = (a = b)) {T : Ty} {R : Rm} {a b : Nat} (L : LG T R q a) (L2 : LG T R q b) (hab : a + 1 < b) (M : Mm) {c : Nat → Nat → Int32} (l : Nat → Int64) {g g0 : Nat → Nat} (h : LY c a g) (hu : LY c b g0) (hg : sm g 801 < 2 ^ 31) {w : Nat} (hw : w ≤ sm g 801) : ∃ c', fn_X2_giveFromOldest T R (q a) (nI w) (q b) (TV q M c l) = some ((), TV q M c' l) ∧ LY c' a (rwB g w 801) ∧ LY c' b (rwU g0 g w 801) ∧ FR2 c c' a b := by
  have L0 := L
  have hr := rwB_sum hw
  rcases h with ⟨h0, h⟩ | ⟨o, t, ht, h⟩
  · have e0 : rwB g w 801 = g := (rwB_d (n := 801) (Nat.zero_le _) (fun y _ h4 => tb_0 (sm_0y h0 h4))).symm.trans (by
      funext y
      simp [rwB])
    have e0' : rwU g0 g w 801 = g0 := (rwU_d (n := 801) (Nat.zero_le _) (fun y _ h4 => tb_0 (sm_0y h0 h4))).symm.trans (by
      funext y
      simp [rwU])
    rw [e0, e0']
    obtain ⟨c', r1, r2, r3⟩ := x2_narrow hq L0 M l hg h (.inl h0)
    refine ⟨c', ?_, r2, LY_fr hu (r3 b (by omega) (by omega)) (r3 (b + 1) (by omega) (by omega)), FR2_a r3⟩
    obtain ⟨g1, g2, g3, g4, g5⟩ := L
    obtain ⟨hrow, hice, w3, w4⟩ := h
    have e17 : ∀ j46, fb_X2_giveFromOldest_15 T R (q a) (nI w) (q b) j46 FU = fs_X2_giveFromOldest_15 T R (q a) (nI w) (q b) (fb_X2_giveFromOldest_15 T R (q a) (nI w) (q b) j46 9999) j46 := fun j46 => fbs_X2_giveFromOldest_15 T R (q a) (nI w) (q b) j46 9999
    have hlt : (nONE < nI 801) = True := eq_true (by decide)
    unfold fn_X2_giveFromOldest
    rw [e17]
    unfold fs_X2_giveFromOldest_15 fs_X2_giveFromOldest_60
    simp (disch := omega) only [↓lm1, l0, l1, l2, l3, l4, l5, l6, l7, l8, l9, l10, l11, l12, l13, l14, l31, l32, l44, l48, l50, l57, l59, l60, l74, l100, l110, l126, l300, l330, l500, l501, l801, l1000, l5000, l5010, l8010, l8192, l9000, l10000, l1000000, chk_t, bnd_e, cal_e, g1, TV_g hq, w3, w4, hlt, if_true, r1]
  · have hb := TI_br ht
    obtain ⟨t1, t2, t3, t4, t5, t6⟩ := ht
    have hs0 : sm g o = 0 := sm_z t5
    have hh : LW c a (rwB g w o) (nI o) (nI t) := by
      have e : rwB g w o = g := by
        funext y
        unfold rwB
        by_cases h1 : y < o
        · rw [if_pos h1, t5 y h1]
          omega
        · rw [if_neg h1]
      rw [e]
      exact h
    have hh2 : LY c b (rwU g0 g w o) := by
      have e : rwU g0 g w o = g0 := by
        funext y
        unfold rwU
        by_cases h1 : y < o
        · rw [if_pos h1, tb_0 (t5 y h1)]
          rfl
        · rw [if_neg h1]
      rw [e]
      exact hu
    obtain ⟨c1, p1, p2, p4, p3⟩ := x2_give_loop hq L0 L2 hab M l hg (show w < 2 ^ 31 by omega) t2 t6 (nI w) (fs_X2_giveFromOldest_60 T R (q a) (nI w) (q b)) (t + 1 - o) o c FU (by omega) hh hh2 (FU_gt (by omega))
    obtain ⟨c', r1, r2, r3⟩ := x2_narrow hq L0 M l (by omega) p2 (.inr ⟨o, t, rfl, rfl, rwB_br hb⟩)
    refine ⟨c', ?_, r2, LY_fr p4 (r3 b (by omega) (by omega)) (r3 (b + 1) (by omega) (by omega)), FR2_t p3 (FR2_a r3)⟩
    obtain ⟨g1, g2, g3, g4, g5⟩ := L
    obtain ⟨hrow, hice, w3, w4⟩ := h
    rw [hs0, Nat.sub_zero] at p1
    unfold fn_X2_giveFromOldest
    simp (disch := omega) only [↓lm1, l0, l1, l2, l3, l4, l5, l6, l7, l8, l9, l10, l11, l12, l13, l14, l31, l32, l44, l48, l50, l57, l59, l60, l74, l100, l110, l126, l300, l330, l500, l501, l801, l1000, l5000, l5010, l8010, l8192, l9000, l10000, l1000000, nI_add, pk_mul, nI_clamp, nI_leI, nI_ltI, nI_eq, chk_d, chk_t, chk_inb, rfm_s, bnd_e, cal_e, calR_e, if_pos, if_neg, g1, TV_g hq, w3, w4, hice, p1]
    unfold fs_X2_giveFromOldest_60
    simp (disch := omega) only [chk_t, bnd_e, cal_e, g1, r1]
theorem cnt_z {g : Nat → Nat} {y : Nat} (h : g y = 0) : cnt g y = 0 := by
  unfold cnt
  rw [h]
  rfl
theorem x2_number {q : Nat → Nat} (hq : ∀ a b : Nat, (q a = q b) = (a = b)) {T : Ty} {R : Rm} {a : Nat} (L : LG T R q a) (M : Mm) {c : Nat → Nat → Int32} (l : Nat → Int64) {g : Nat → Nat} (h : LY c a g) (hg : sm g 801 < 2 ^ 31) : fn_X2_number T R (q a) (TV q M c l) = some (nI (sm (cnt g) 801), TV q M c l) := by
  have L0 := L
  have hrow := LY_row h
  obtain ⟨g1, g2, g3, g4, g5⟩ := L
  rcases h with ⟨h0, h⟩ | ⟨o, t, ht, h⟩
  · obtain ⟨-, hice, w3, w4⟩ := h
    have hs : sm (cnt g) 801 = 0 := sm_z (fun y hy => cnt_z (sm_0y h0 hy))
    have e7 : fb_X2_number_7 T R (q a) FU = fs_X2_number_7 T R (q a) (fb_X2_number_7 T R (q a) 9999) := fbs_X2_number_7 T R (q a) 9999
    have hlt : (nONE < nI 801) = True := eq_true (by decide)
    unfold fn_X2_number
    rw [e7, hs]
    unfold fs_X2_number_7
    simp (disch := omega) only [↓lm1, l0, l1, l2, l3, l4, l5, l6, l7, l8, l9, l10, l11, l12, l13, l14, l31, l32, l44, l48, l50, l57, l59, l60, l74, l100, l110, l126, l300, l330, l500, l501, l801, l1000, l5000, l5010, l8010, l8192, l9000, l10000, l1000000, chk_t, bnd_e, cal_e, g1, TV_g hq, w3, w4, hlt, if_true]
  · obtain ⟨-, hice, w3, w4⟩ := h
    obtain ⟨t1, t2, t3, t4, t5, t6⟩ := ht
    have key : ∀ d k fuel, k + d = t + 1 → d < fuel → fb_X2_number_7 T R (q a) fuel (nI (sm (cnt g) k)) (nI k) (TV q M c l) = some (nI (sm (cnt g) 801), TV q M c l) := by
      intro d
      induction d with
      | zero =>
        intro k fuel h1 h2
        obtain ⟨n, rfl⟩ : ∃ n, fuel = n + 1 := ⟨fuel - 1, by omega⟩
        have hk : k = t + 1 := by omega
        subst hk
        rw [sm_tail (f := cnt g) (show t + 1 ≤ 801 by omega) (fun y h3 h4 => cnt_z (t6 y (by omega) h4)), fbs_X2_number_7]
        unfold fs_X2_number_7
        simp (disch := omega) only [↓lm1, l0, l1, l2, l3, l4, l5, l6, l7, l8, l9, l10, l11, l12, l13, l14, l31, l32, l44, l48, l50, l57, l59, l60, l74, l100, l110, l126, l300, l330, l500, l501, l801, l1000, l5000, l5010, l8010, l8192, l9000, l10000, l1000000, nI_add, pk_mul, nI_clamp, nI_leI, nI_ltI, nI_eq, chk_d, chk_t, chk_inb, rfm_s, bnd_e, cal_e, calR_e, if_pos, if_neg, g1, TV_g hq, w4]
      | succ d ih =>
        intro k fuel h1 h2
        obtain ⟨n, rfl⟩ : ∃ n, fuel = n + 1 := ⟨fuel - 1, by omega⟩
        have e1 := x2_leftOf hq L0 M (c := c) l (show k < 801 by omega)
        have hgk := Nat.lt_of_le_of_lt (sm_le1 g (show k < 801 by omega)) hg
        have ih' := ih (k + 1) n (by omega) (by omega)
        rw [sm_s] at ih'
        rw [fbs_X2_number_7]
        unfold fs_X2_number_7 fs_X2_number_26
        by_cases hz : g k = 0
        · rw [cnt_z hz, Nat.add_zero] at ih'
          simp (disch := omega) only [↓lm1, l0, l1, l2, l3, l4, l5, l6, l7, l8, l9, l10, l11, l12, l13, l14, l31, l32, l44, l48, l50, l57, l59, l60, l74, l100, l110, l126, l300, l330, l500, l501, l801, l1000, l5000, l5010, l8010, l8192, l9000, l10000, l1000000, nI_add, pk_mul, nI_clamp, nI_leI, nI_ltI, nI_eq, chk_d, chk_t, chk_inb, rfm_s, bnd_e, cal_e, calR_e, if_pos, if_neg, g1, TV_g hq, w4, e1, hrow]
          exact ih'
        · have hc : cnt g k = 1 := by
            unfold cnt
            rw [if_pos (by omega)]
          rw [hc] at ih'
          simp (disch := omega) only [↓lm1, l0, l1, l2, l3, l4, l5, l6, l7, l8, l9, l10, l11, l12, l13, l14, l31, l32, l44, l48, l50, l57, l59, l60, l74, l100, l110, l126, l300, l330, l500, l501, l801, l1000, l5000, l5010, l8010, l8192, l9000, l10000, l1000000, nI_add, pk_mul, nI_clamp, nI_leI, nI_ltI, nI_eq, chk_d, chk_t, chk_inb, rfm_s, bnd_e, cal_e, calR_e, if_pos, if_neg, g1, TV_g hq, w4, e1, hrow]
          exact ih'
    have hk := key (t + 1 - o) o FU (by omega) (FU_gt (by omega))
    rw [show sm (cnt g) o = 0 from sm_z (fun y hy => cnt_z (t5 y hy))] at hk
    unfold fn_X2_number
    simp (disch := omega) only [↓lm1, l0, l1, l2, l3, l4, l5, l6, l7, l8, l9, l10, l11, l12, l13, l14, l31, l32, l44, l48, l50, l57, l59, l60, l74, l100, l110, l126, l300, l330, l500, l501, l801, l1000, l5000, l5010, l8010, l8192, l9000, l10000, l1000000, chk_t, bnd_e, cal_e, g1, TV_g hq, w3, w4, hk]
theorem yl_z {g : Nat → Nat} : ∀ {n y i : Nat}, (∀ z, y ≤ z → z < y + n → g z = 0) → yl g n y i = none := by
  intro n
  induction n with
  | zero => exact fun _ => rfl
  | succ n ih =>
    intro y i h
    unfold yl
    rw [if_neg (by rw [h y (by omega) (by omega)]; omega)]
    exact ih (fun z h1 h2 => h z (by omega) (by omega))
theorem yl_a {g : Nat → Nat} {m : Nat} : ∀ {n y i : Nat}, (∀ z, y + n ≤ z → z < y + n + m → g z = 0) → yl g (n + m) y i = yl g n y i := by
  intro n
  induction n with
  | zero =>
    intro y i h
    rw [Nat.zero_add]
    exact yl_z (fun z h1 h2 => h z (by omega) (by omega))
  | succ n ih =>
    intro y i h
    have ih' := fun i => ih (y := y + 1) (i := i) (fun z h1 h2 => h z (by omega) (by omega))
    rw [show n + 1 + m = (n + m) + 1 by omega]
    unfold yl
    rw [ih', ih']
theorem yl_b {g : Nat → Nat} {i : Nat} : ∀ {o n y : Nat}, (∀ z, y ≤ z → z < y + o → g z = 0) → yl g (o + n) y i = yl g n (y + o) i := by
  intro o
  induction o with
  | zero =>
    intro n y h
    rw [Nat.zero_add, Nat.add_zero]
  | succ o ih =>
    intro n y h
    rw [show o + 1 + n = (o + n) + 1 by omega]
    unfold yl
    rw [if_neg (by rw [h y (by omega) (by omega)]; omega), ih (fun z h1 h2 => h z (by omega) (by omega)), show y + 1 + o = y + (o + 1) by omega]
    cases n <;> rfl
theorem x2_yearOfLayer {q : Nat → Nat} (hq : ∀ a b : Nat, (q a = q b) = (a = b)) {T : Ty} {R : Rm} {a : Nat} (L : LG T R q a) (M : Mm) {c : Nat → Nat → Int32} (l : Nat → Int64) {g : Nat → Nat} (h : LY c a g) (hg : sm g 801 < 2 ^ 31) {i : Nat} (hi : i < 2 ^ 31) : fn_X2_yearOfLayer T R (q a) (nI i) (TV q M c l) = some (oY (yl g 801 0 i), TV q M c l) := by
  have L0 := L
  have hrow := LY_row h
  obtain ⟨g1, g2, g3, g4, g5⟩ := L
  rcases h with ⟨h0, h⟩ | ⟨o, t, ht, h⟩
  · obtain ⟨-, hice, w3, w4⟩ := h
    have hs : yl g 801 0 i = none := yl_z (fun y _ hy => sm_0y h0 (by omega))
    have e7 : fb_X2_yearOfLayer_7 T R (q a) (nI i) FU = fs_X2_yearOfLayer_7 T R (q a) (nI i) (fb_X2_yearOfLayer_7 T R (q a) (nI i) 9999) := fbs_X2_yearOfLayer_7 T R (q a) (nI i) 9999
    have hlt : (nONE < nI 801) = True := eq_true (by decide)
    unfold fn_X2_yearOfLayer
    rw [e7, hs]
    unfold fs_X2_yearOfLayer_7
    simp (disch := omega) only [↓lm1, l0, l1, l2, l3, l4, l5, l6, l7, l8, l9, l10, l11, l12, l13, l14, l31, l32, l44, l48, l50, l57, l59, l60, l74, l100, l110, l126, l300, l330, l500, l501, l801, l1000, l5000, l5010, l8010, l8192, l9000, l10000, l1000000, chk_t, bnd_e, cal_e, g1, TV_g hq, w3, w4, hlt, if_true]
    rfl
  · obtain ⟨-, hice, w3, w4⟩ := h
    obtain ⟨t1, t2, t3, t4, t5, t6⟩ := ht
    have key : ∀ d k p fuel, k + d = t + 1 → p ≤ i → p ≤ k → d < fuel → fb_X2_yearOfLayer_7 T R (q a) (nI i) fuel (nI p) (nI k) (TV q M c l) = some (oY (yl g d k (i - p)), TV q M c l) := by
      intro d
      induction d with
      | zero =>
        intro k p fuel h1 hp hpk h2
        obtain ⟨n, rfl⟩ : ∃ n, fuel = n + 1 := ⟨fuel - 1, by omega⟩
        have hk : k = t + 1 := by omega
        subst hk
        rw [fbs_X2_yearOfLayer_7]
        unfold fs_X2_yearOfLayer_7
        simp (disch := omega) only [↓lm1, l0, l1, l2, l3, l4, l5, l6, l7, l8, l9, l10, l11, l12, l13, l14, l31, l32, l44, l48, l50, l57, l59, l60, l74, l100, l110, l126, l300, l330, l500, l501, l801, l1000, l5000, l5010, l8010, l8192, l9000, l10000, l1000000, nI_add, pk_mul, nI_clamp, nI_leI, nI_ltI, nI_eq, chk_d, chk_t, chk_inb, rfm_s, bnd_e, cal_e, calR_e, if_pos, if_neg, g1, TV_g hq, w4]
        rfl
      | succ d ih =>
        intro k p fuel h1 hp hpk h2
        obtain ⟨n, rfl⟩ : ∃ n, fuel = n + 1 := ⟨fuel - 1, by omega⟩
        have e1 := x2_leftOf hq L0 M (c := c) l (show k < 801 by omega)
        have hgk := Nat.lt_of_le_of_lt (sm_le1 g (show k < 801 by omega)) hg
        rw [fbs_X2_yearOfLayer_7]
        unfold fs_X2_yearOfLayer_7 fs_X2_yearOfLayer_33 yl
        by_cases hz : g k = 0
        · have ih' := ih (k + 1) p n (by omega) hp (by omega) (by omega)
          rw [if_neg (show ¬ 0 < g k by omega)]
          simp (disch := omega) only [↓lm1, l0, l1, l2, l3, l4, l5, l6, l7, l8, l9, l10, l11, l12, l13, l14, l31, l32, l44, l48, l50, l57, l59, l60, l74, l100, l110, l126, l300, l330, l500, l501, l801, l1000, l5000, l5010, l8010, l8192, l9000, l10000, l1000000, nI_add, pk_mul, nI_clamp, nI_leI, nI_ltI, nI_eq, chk_d, chk_t, chk_inb, rfm_s, bnd_e, cal_e, calR_e, if_pos, if_neg, g1, TV_g hq, w4, e1, hrow]
          exact ih'
        · rw [if_pos (show 0 < g k by omega)]
          by_cases hpi : p = i
          · rw [if_pos (show i - p = 0 by omega)]
            simp (disch := omega) only [↓lm1, l0, l1, l2, l3, l4, l5, l6, l7, l8, l9, l10, l11, l12, l13, l14, l31, l32, l44, l48, l50, l57, l59, l60, l74, l100, l110, l126, l300, l330, l500, l501, l801, l1000, l5000, l5010, l8010, l8192, l9000, l10000, l1000000, nI_add, pk_mul, nI_clamp, nI_leI, nI_ltI, nI_eq, chk_d, chk_t, chk_inb, rfm_s, bnd_e, cal_e, calR_e, if_pos, if_neg, g1, TV_g hq, w4, e1, hrow]
            rfl
          · have ih' := ih (k + 1) (p + 1) n (by omega) (by omega) (by omega) (by omega)
            rw [if_neg (show ¬ i - p = 0 by omega), show i - p - 1 = i - (p + 1) by omega]
            simp (disch := omega) only [↓lm1, l0, l1, l2, l3, l4, l5, l6, l7, l8, l9, l10, l11, l12, l13, l14, l31, l32, l44, l48, l50, l57, l59, l60, l74, l100, l110, l126, l300, l330, l500, l501, l801, l1000, l5000, l5010, l8010, l8192, l9000, l10000, l1000000, nI_add, pk_mul, nI_clamp, nI_leI, nI_ltI, nI_eq, chk_d, chk_t, chk_inb, rfm_s, bnd_e, cal_e, calR_e, if_pos, if_neg, g1, TV_g hq, w4, e1, hrow]
            exact ih'
    have hk := key (t + 1 - o) o 0 FU (by omega) (by omega) (by omega) (FU_gt (by omega))
    rw [Nat.sub_zero] at hk
    have e2 : yl g 801 0 i = yl g (t + 1 - o) o i := by
      have e3 := yl_b (g := g) (i := i) (o := o) (n := 801 - o) (y := 0) (fun z h1 h2 => t5 z (by omega))
      have e4 := yl_a (g := g) (i := i) (m := 800 - t) (n := t + 1 - o) (y := o) (fun z h1 h2 => t6 z (by omega) (by omega))
      rw [show o + (801 - o) = 801 by omega, Nat.zero_add] at e3
      rw [show t + 1 - o + (800 - t) = 801 - o by omega] at e4
      rw [e3, e4]
    rw [e2]
    unfold fn_X2_yearOfLayer
    simp (disch := omega) only [↓lm1, l0, l1, l2, l3, l4, l5, l6, l7, l8, l9, l10, l11, l12, l13, l14, l31, l32, l44, l48, l50, l57, l59, l60, l74, l100, l110, l126, l300, l330, l500, l501, l801, l1000, l5000, l5010, l8010, l8192, l9000, l10000, l1000000, chk_t, bnd_e, cal_e, g1, TV_g hq, w3, w4, hk]
theorem x2_empty {q : Nat → Nat} (hq : ∀ a b : Nat, (q a = q b) = (a = b)) {T : Ty} {R : Rm} {a : Nat} (L : LG T R q a) (M : Mm) (c : Nat → Nat → Int32) (l : Nat → Int64) : ∃ c', fn_X2_empty T R (q a) (TV q M c l) = some ((), TV q M c' l) ∧ LY c' a (fun _ => 0) ∧ FR c c' a := by
  have L0 := L
  obtain ⟨g1, g2, g3, g4, g5⟩ := L
  have key : ∀ d k (c : Nat → Nat → Int32) fuel, k + d = 801 → (∀ y, y < k → c (a + 1) y = nI 0) → d < fuel → ∃ c', fb_J7_fill_53178_5 T R (q (a + 1)) (nI 0) fuel (nI k) (nI 801) (TV q M c l) = some ((), TV q M c' l) ∧ (∀ y, y < 801 → c' (a + 1) y = nI 0) ∧ FR c c' a ∧ c' a = c a := by
    intro d
    induction d with
    | zero =>
      intro k c fuel h1 h h2
      obtain ⟨n, rfl⟩ : ∃ n, fuel = n + 1 := ⟨fuel - 1, by omega⟩
      have hk : k = 801 := by omega
      subst hk
      refine ⟨c, ?_, h, FR_r c a, rfl⟩
      rw [fbs_J7_fill_53178_5]
      unfold fs_J7_fill_53178_5
      simp (disch := omega) only [↓lm1, l0, l1, l2, l3, l4, l5, l6, l7, l8, l9, l10, l11, l12, l13, l14, l31, l32, l44, l48, l50, l57, l59, l60, l74, l100, l110, l126, l300, l330, l500, l501, l801, l1000, l5000, l5010, l8010, l8192, l9000, l10000, l1000000, nI_add, pk_mul, nI_clamp, nI_leI, nI_ltI, nI_eq, chk_d, chk_t, chk_inb, rfm_s, bnd_e, cal_e, calR_e, if_pos, if_neg]
    | succ d ih =>
      intro k c fuel h1 h h2
      obtain ⟨n, rfl⟩ : ∃ n, fuel = n + 1 := ⟨fuel - 1, by omega⟩
      obtain ⟨c', r1, r2, r3, r4⟩ := ih (k + 1) (up2 c (a + 1) k (nI 0)) n (by omega) (fun y hy => by
        by_cases e : y = k
        · subst e
          rw [up2_s]
        · rw [up2_k _ _ e]
          exact h y (by omega)) (by omega)
      refine ⟨c', ?_, r2, fun j h3 h4 => (r3 j h3 h4).trans (up2_r _ _ h4), r4.trans (up2_r _ _ (by omega))⟩
      rw [← r1, fbs_J7_fill_53178_5]
      unfold fs_J7_fill_53178_5
      simp (disch := omega) only [↓lm1, l0, l1, l2, l3, l4, l5, l6, l7, l8, l9, l10, l11, l12, l13, l14, l31, l32, l44, l48, l50, l57, l59, l60, l74, l100, l110, l126, l300, l330, l500, l501, l801, l1000, l5000, l5010, l8010, l8192, l9000, l10000, l1000000, nI_add, pk_mul, nI_clamp, nI_leI, nI_ltI, nI_eq, chk_d, chk_t, chk_inb, rfm_s, bnd_e, cal_e, calR_e, if_pos, if_neg, g3, g4, TV_s hq]
  obtain ⟨c1, p1, p2, p3, p4⟩ := key 801 0 c FU (by omega) (fun y hy => absurd hy (by omega)) (FU_gt (by omega))
  have hz : sm (fun _ => 0) 801 = 0 := sm_z (fun _ _ => rfl)
  have hlw : LW (up2 c1 a 1 (nI 0)) a (fun _ => 0) (c1 a 2) (c1 a 3) := by
    refine ⟨fun y hy => ?_, ?_, ?_, ?_⟩
    · rw [up2_c _ _ (by omega)]
      exact p2 y hy
    · rw [up2_s, hz]
    · rw [up2_k _ _ (by omega)]
    · rw [up2_k _ _ (by omega)]
  obtain ⟨c2, r1, r2, r3⟩ := x2_narrow hq L0 M l (g := fun _ => 0) (by rw [hz]; omega) hlw (.inl hz)
  refine ⟨c2, ?_, r2, FR_t p3 (FR_t (FR_u c1 a 1 _) r3)⟩
  have e801 : Int32.ofNat 801 = nI 801 := rfl
  unfold fn_X2_empty fn_J7_fill_53178
  simp (disch := omega) only [↓lm1, l0, l1, l2, l3, l4, l5, l6, l7, l8, l9, l10, l11, l12, l13, l14, l31, l32, l44, l48, l50, l57, l59, l60, l74, l100, l110, l126, l300, l330, l500, l501, l801, l1000, l5000, l5010, l8010, l8192, l9000, l10000, l1000000, chk_d, chk_t, chk_inb, rfm_s, bnd_e, cal_e, calR_e, if_pos, if_neg, g1, g2, g3, g4, e801, p1, TV_s hq, r1]

