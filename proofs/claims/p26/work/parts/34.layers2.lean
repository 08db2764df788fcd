/-! the class's Layers: what melts, what is given -/
theorem rwT_z {g : Nat → Nat} {n w k : Nat} (h : ∀ y, y < k → g y = 0) : rwT g n w k = rwT g n w 0 := by
  funext y
  unfold rwT
  by_cases h2 : k ≤ y
  · rw [if_pos h2, if_pos (by omega)]
  · rw [if_neg h2, if_pos (by omega), h y (by omega)]
    omega
theorem rwT_le (g : Nat → Nat) (n w k y : Nat) : rwT g n w k y ≤ g y := by
  unfold rwT
  split <;> omega
theorem nI_plt {k : Nat} (h : k < 2 ^ 31) : (nI k + nONE < nI k) = True := eq_true (by
  cases k with
  | zero =>
    rw [nI_n1]
    exact nONE_lt
  | succ k =>
    rw [nI_m1, nI_ltI (by omega) (by omega)]
    omega)
theorem x2_take_loop {q : Nat → Nat} (hq : ∀ a b : Nat, (q a = q b) = (a = b)) {T : Ty} {R : Rm} {a : Nat} (L : LG T R q a) (M : Mm) (l : Nat → Int64) {g : Nat → Nat} (hg : sm g 801 < 2 ^ 31) {o t w : Nat} (hw : w < 2 ^ 31) (ho : ∀ y, y < o → g y = 0) (ho8 : o ≤ 801) (tk w0 : Int32) (j46 : Int32 → Mm → Option (Int32 × Mm)) : ∀ d k (c : Nat → Nat → Int32) fuel, k = o + d → k ≤ 801 → LW c a (rwT g 801 w k) (nI o) (nI t) → d < fuel → ∃ c', fb_X2_takeFromLatest_17 T R (q a) w0 j46 fuel tk (nI (min w (sm g 801) - min w (sm g 801 - sm g k))) (nI k + nONE) (TV q M c l) = j46 tk (TV q M c' l) ∧ LW c' a (rwT g 801 w 0) (nI o) (nI t) ∧ FR c c' a := by
  have L0 := L
  obtain ⟨g1, g2, g3, g4, g5⟩ := L
  intro d
  induction d with
  | zero =>
    intro k c fuel h1 h8 h h2
    obtain ⟨n, rfl⟩ : ∃ n, fuel = n + 1 := ⟨fuel - 1, by omega⟩
    have hko : k = o := by omega
    subst hko
    rw [rwT_z ho] at h
    refine ⟨c, ?_, h, FR_r c a⟩
    obtain ⟨hrow, hice, w3, w4⟩ := h
    rw [fbs_X2_takeFromLatest_17]
    unfold fs_X2_takeFromLatest_17
    simp (disch := omega) only [↓lm1, l0, l1, l2, l3, l4, l5, l6, l7, l8, l9, l10, l11, l12, l13, l14, l31, l32, l44, l48, l50, l57, l59, l60, l74, l100, l110, l126, l300, l330, l500, l501, l801, l1000, l5000, l5010, l8010, l8192, l9000, l10000, l1000000, nI_add, pk_mul, nI_clamp, nI_leI, nI_ltI, nI_eq, chk_d, chk_t, chk_inb, rfm_s, bnd_e, cal_e, calR_e, if_pos, if_neg, g1, TV_g hq, w3, nI_plt, if_true]
  | succ d ih =>
    intro k c fuel h1 h8 h h2
    obtain ⟨n, rfl⟩ : ∃ n, fuel = n + 1 := ⟨fuel - 1, by omega⟩
    obtain ⟨k, rfl⟩ : ∃ k', k = k' + 1 := ⟨k - 1, by omega⟩
    have s1 := sm_s g k
    have s2 := sm_mono g (show k + 1 ≤ 801 by omega)
    have hw3 := h.2.2.1
    rw [fbs_X2_takeFromLatest_17]
    unfold fs_X2_takeFromLatest_17
    by_cases h0 : min w (sm g 801) - min w (sm g 801 - sm g (k + 1)) = 0
    · have e : rwT g 801 w (k + 1) = rwT g 801 w 0 := by
        by_cases h3 : w ≤ sm g 801 - sm g (k + 1)
        · exact rwT_done h3 (by omega)
        · exact rwT_z (fun y hy => by
            have := sm_le1 g hy
            omega)
      rw [e] at h
      refine ⟨c, ?_, h, FR_r c a⟩
      rw [h0]
      simp (disch := omega) only [↓lm1, l0, l1, l2, l3, l4, l5, l6, l7, l8, l9, l10, l11, l12, l13, l14, l31, l32, l44, l48, l50, l57, l59, l60, l74, l100, l110, l126, l300, l330, l500, l501, l801, l1000, l5000, l5010, l8010, l8192, l9000, l10000, l1000000, nI_add, pk_mul, nI_clamp, nI_leI, nI_ltI, nI_eq, chk_d, chk_t, chk_inb, rfm_s, bnd_e, cal_e, calR_e, if_pos, if_neg, g1, TV_g hq, hw3, nI_m1]
    · have htt : tt g 801 w k = min (g k) (min w (sm g 801) - min w (sm g 801 - sm g (k + 1))) := by
        unfold tt
        rw [if_pos (by omega)]
        omega
      have hv : rwT g 801 w (k + 1) k = g k := by
        unfold rwT
        rw [if_neg (by omega)]
      have hrow := rwT_s g (n := 801) (ml := w) (k := k)
      rw [htt] at hrow
      obtain ⟨c1, p1, p2, p3⟩ := x2_take hq L0 M l h (y := k) (w := min w (sm g 801) - min w (sm g 801 - sm g (k + 1))) (by omega) (by omega) (by rw [hv]; omega)
      rw [hv, hrow] at p2
      rw [hv] at p1
      obtain ⟨c2, r1, r2, r3⟩ := ih k c1 n (by omega) (by omega) p2 (by omega)
      refine ⟨c2, ?_, r2, FR_t p3 r3⟩
      have e3 : min w (sm g 801) - min w (sm g 801 - sm g (k + 1)) - min (g k) (min w (sm g 801) - min w (sm g 801 - sm g (k + 1))) = min w (sm g 801) - min w (sm g 801 - sm g k) := by omega
      rw [← r1]
      simp (disch := omega) only [↓lm1, l0, l1, l2, l3, l4, l5, l6, l7, l8, l9, l10, l11, l12, l13, l14, l31, l32, l44, l48, l50, l57, l59, l60, l74, l100, l110, l126, l300, l330, l500, l501, l801, l1000, l5000, l5010, l8010, l8192, l9000, l10000, l1000000, nI_add, pk_mul, nI_clamp, nI_leI, nI_ltI, nI_eq, chk_d, chk_t, chk_inb, rfm_s, bnd_e, cal_e, calR_e, if_pos, if_neg, g1, TV_g hq, hw3, nI_m1, p1, nIs, e3]
theorem rwT_br {g : Nat → Nat} {o t w : Nat} (h : BR g o t) : BR (rwT g 801 w 0) o t := by
  obtain ⟨b1, b2, b3, b4⟩ := h
  refine ⟨b1, b2, fun y hy => ?_, fun y h1 h2 => ?_⟩
  · have := rwT_le g 801 w 0 y
    rw [b3 y hy] at this
    omega
  · have := rwT_le g 801 w 0 y
    rw [b4 y h1 h2] at this
    omega
theorem TI_br {g : Nat → Nat} {o t : Nat} (h : TI g o t) : BR g o t := ⟨h.1, h.2.1, h.2.2.2.2.1, h.2.2.2.2.2⟩
theorem x2_takeFromLatest {q : Nat → Nat} (hq : ∀ a b : Nat, (q a = q b) = (a = b)) {T : Ty} {R : Rm} {a : Nat} (L : LG T R q a) (M : Mm) {c : Nat → Nat → Int32} (l : Nat → Int64) {g : Nat → Nat} (h : LY c a g) (hg : sm g 801 < 2 ^ 31) {w : Nat} (hw : w < 2 ^ 31) : ∃ c', fn_X2_takeFromLatest T R (q a) (nI w) (TV q M c l) = some (nI (min w (sm g 801)), TV q M c' l) ∧ LY c' a (rwT g 801 w 0) ∧ FR c c' a := by
  have L0 := L
  have hr := rwT_sum g 801 w
  have hmin : (if nI (sm g 801) < nI w then nI (sm g 801) else nI w) = nI (min w (sm g 801)) := by
    by_cases h1 : sm g 801 < w
    · simp (disch := omega) only [nI_add, pk_mul, nI_clamp, nI_leI, nI_ltI, nI_eq, if_pos]
      omega
    · simp (disch := omega) only [nI_add, pk_mul, nI_clamp, nI_leI, nI_ltI, nI_eq, if_neg]
      omega
  rcases h with ⟨h0, h⟩ | ⟨o, t, ht, h⟩
  · have hrow0 : rwT g 801 w 0 = rwT g 801 w 801 := (rwT_z (fun y hy => sm_0y h0 hy)).symm
    have hz : sm (rwT g 801 w 0) 801 = 0 := by omega
    have hh : LW c a (rwT g 801 w 0) (nI 801) nONE := by
      rw [hrow0, rwT_n]
      exact h
    obtain ⟨c', r1, r2, r3⟩ := x2_narrow hq L0 M l (by omega) hh (.inl hz)
    refine ⟨c', ?_, r2, r3⟩
    obtain ⟨g1, g2, g3, g4, g5⟩ := L
    obtain ⟨hrow, hice, w3, w4⟩ := h
    have e17 : ∀ j46, fb_X2_takeFromLatest_17 T R (q a) (nI w) j46 FU = fs_X2_takeFromLatest_17 T R (q a) (nI w) (fb_X2_takeFromLatest_17 T R (q a) (nI w) j46 9999) j46 := fun j46 => fbs_X2_takeFromLatest_17 T R (q a) (nI w) j46 9999
    have hlt : (nONE < nI 801) = True := eq_true (by decide)
    unfold fn_X2_takeFromLatest
    rw [e17]
    unfold fs_X2_takeFromLatest_17 fs_X2_takeFromLatest_46
    simp (disch := omega) only [↓lm1, l0, l1, l2, l3, l4, l5, l6, l7, l8, l9, l10, l11, l12, l13, l14, l31, l32, l44, l48, l50, l57, l59, l60, l74, l100, l110, l126, l300, l330, l500, l501, l801, l1000, l5000, l5010, l8010, l8192, l9000, l10000, l1000000, chk_t, bnd_e, cal_e, g1, TV_g hq, w3, w4, hice, hmin, hlt, if_true, r1]
  · have hb := TI_br ht
    obtain ⟨t1, t2, t3, t4, t5, t6⟩ := ht
    have est : sm g (t + 1) = sm g 801 := (sm_tail (by omega) (fun y h1 h2 => t6 y (by omega) h2)).symm
    have hh : LW c a (rwT g 801 w (t + 1)) (nI o) (nI t) := by
      have e : rwT g 801 w (t + 1) = g := by
        funext y
        unfold rwT
        by_cases h1 : t + 1 ≤ y
        · rw [if_pos h1]
          by_cases h2 : y < 801
          · rw [t6 y (by omega) h2]
            omega
          · unfold tt
            rw [if_neg h2]
            rfl
        · rw [if_neg h1]
      rw [e]
      exact h
    obtain ⟨c1, p1, p2, p3⟩ := x2_take_loop hq L0 M l hg hw t5 (by omega) (nI (min w (sm g 801))) (nI w) (fs_X2_takeFromLatest_46 T R (q a) (nI w)) (t + 1 - o) (t + 1) c FU (by omega) (by omega) hh (FU_gt (by omega))
    obtain ⟨c', r1, r2, r3⟩ := x2_narrow hq L0 M l (by omega) p2 (.inr ⟨o, t, rfl, rfl, rwT_br hb⟩)
    refine ⟨c', ?_, r2, FR_t p3 r3⟩
    obtain ⟨g1, g2, g3, g4, g5⟩ := L
    obtain ⟨hrow, hice, w3, w4⟩ := h
    rw [est, Nat.sub_self, Nat.min_zero, Nat.sub_zero, nI_m1] at p1
    unfold fn_X2_takeFromLatest
    simp (disch := omega) only [↓lm1, l0, l1, l2, l3, l4, l5, l6, l7, l8, l9, l10, l11, l12, l13, l14, l31, l32, l44, l48, l50, l57, l59, l60, l74, l100, l110, l126, l300, l330, l500, l501, l801, l1000, l5000, l5010, l8010, l8192, l9000, l10000, l1000000, chk_t, bnd_e, cal_e, g1, TV_g hq, w3, w4, hice, hmin, p1]
    unfold fs_X2_takeFromLatest_46
    simp (disch := omega) only [chk_t, bnd_e, cal_e, g1, r1]
/-- rows when the years below k have been given -/
def rwB (g : Nat → Nat) (L k : Nat) : Nat → Nat := fun y => if y < k then g y - tb g L y else g y
def rwU (h g : Nat → Nat) (L k : Nat) : Nat → Nat := fun y => if y < k then h y + tb g L y else h y
theorem rwB_s (g : Nat → Nat) (L k : Nat) : fu (rwB g L k) k (g k - tb g L k) = rwB g L (k + 1) := by
  funext y
  unfold fu rwB
  by_cases h : y = k
  · subst h
    rw [if_pos rfl, if_pos (by omega)]
  · rw [if_neg h]
    by_cases h2 : y < k
    · rw [if_pos h2, if_pos (by omega)]
    · rw [if_neg h2, if_neg (by omega)]
theorem rwU_s (h g : Nat → Nat) (L k : Nat) : fu (rwU h g L k) k (h k + tb g L k) = rwU h g L (k + 1) := by
  funext y
  unfold fu rwU
  by_cases e : y = k
  · subst e
    rw [if_pos rfl, if_pos (by omega)]
  · rw [if_neg e]
    by_cases h2 : y < k
    · rw [if_pos h2, if_pos (by omega)]
    · rw [if_neg h2, if_neg (by omega)]
theorem rwB_d {g : Nat → Nat} {L k n : Nat} (hk : k ≤ n) (h : ∀ y, k ≤ y → y < n → tb g L y = 0) : rwB g L k = rwB g L n := by
  funext y
  unfold rwB
  by_cases h2 : y < k
  · rw [if_pos h2, if_pos (by omega)]
  · rw [if_neg h2]
    by_cases h3 : y < n
    · rw [if_pos h3, h y (by omega) h3]
      omega
    · rw [if_neg h3]
theorem rwU_d {h0 g : Nat → Nat} {L k n : Nat} (hk : k ≤ n) (h : ∀ y, k ≤ y → y < n → tb g L y = 0) : rwU h0 g L k = rwU h0 g L n := by
  funext y
  unfold rwU
  by_cases h2 : y < k
  · rw [if_pos h2, if_pos (by omega)]
  · rw [if_neg h2]
    by_cases h3 : y < n
    · rw [if_pos h3, h y (by omega) h3]
      omega
    · rw [if_neg h3]
theorem tb_0 {g : Nat → Nat} {L y : Nat} (h : g y = 0) : tb g L y = 0 := by
  unfold tb
  omega
theorem rwB_le (g : Nat → Nat) (L k y : Nat) : rwB g L k y ≤ g y := by
  unfold rwB
  split <;> omega
theorem rwB_sum {g : Nat → Nat} {L : Nat} (h : L ≤ sm g 801) : sm (rwB g L 801) 801 + L = sm g 801 := by
  have e : sm (rwB g L 801) 801 = sm (fun y => g y - tb g L y) 801 := sm_congr (fun y hy => by
    unfold rwB
    rw [if_pos hy])
  have := sm_sub (f := g) (g := tb g L) (n := 801) (fun y _ => tb_le g L y)
  rw [tb_sum] at this
  rw [e]
  omega
theorem rwB_br {g : Nat → Nat} {L k o t : Nat} (h : BR g o t) : BR (rwB g L k) o t := by
  obtain ⟨b1, b2, b3, b4⟩ := h
  refine ⟨b1, b2, fun y hy => ?_, fun y h1 h2 => ?_⟩
  · have := rwB_le g L k y
    rw [b3 y hy] at this
    omega
  · have := rwB_le g L k y
    rw [b4 y h1 h2] at this
    omega
theorem x2_giveN_loop {q : Nat → Nat} (hq : ∀ a b : Nat, (q a = q b) = (a = b)) {T : Ty} {R : Rm} {a : Nat} (L : LG T R q a) (M : Mm) (l : Nat → Int64) {g : Nat → Nat} (hg : sm g 801 < 2 ^ 31) {o t w : Nat} (hw : w < 2 ^ 31) (ht8 : t < 801) (ht : ∀ y, t < y → y < 801 → g y = 0) (w0 : Int32) (j60 : Mm → Option (Unit × Mm)) : ∀ d k (c : Nat → Nat → Int32) fuel, k + d = t + 1 → LW c a (rwB g w k) (nI o) (nI t) → d < fuel → ∃ c', fb_X2_giveFromOldest_N_15 T R (q a) w0 j60 fuel (nI (w - sm g k)) (nI k) (TV q M c l) = j60 (TV q M c' l) ∧ LW c' a (rwB g w 801) (nI o) (nI t) ∧ FR c c' a := by
  have L0 := L
  obtain ⟨g1, g2, g3, g4, g5⟩ := L
  intro d
  induction d with
  | zero =>
    intro k c fuel h1 h h2
    obtain ⟨n, rfl⟩ : ∃ n, fuel = n + 1 := ⟨fuel - 1, by omega⟩
    have hko : k = t + 1 := by omega
    subst hko
    rw [rwB_d (show t + 1 ≤ 801 by omega) (fun y h3 h4 => tb_0 (ht y (by omega) h4))] at h
    refine ⟨c, ?_, h, FR_r c a⟩
    obtain ⟨hrow, hice, w3, w4⟩ := h
    rw [fbs_X2_giveFromOldest_N_15]
    unfold fs_X2_giveFromOldest_N_15
    simp (disch := omega) only [↓lm1, l0, l1, l2, l3, l4, l5, l6, l7, l8, l9, l10, l11, l12, l13, l14, l31, l32, l44, l48, l50, l57, l59, l60, l74, l100, l110, l126, l300, l330, l500, l501, l801, l1000, l5000, l5010, l8010, l8192, l9000, l10000, l1000000, nI_add, pk_mul, nI_clamp, nI_leI, nI_ltI, nI_eq, chk_d, chk_t, chk_inb, rfm_s, bnd_e, cal_e, calR_e, if_pos, if_neg, g1, TV_g hq, w4]
  | succ d ih =>
    intro k c fuel h1 h h2
    obtain ⟨n, rfl⟩ : ∃ n, fuel = n + 1 := ⟨fuel - 1, by omega⟩
    have s1 := sm_s g k
    have s2 := sm_le1 g (show k < 801 by omega)
    have hw4 := h.2.2.2
    rw [fbs_X2_giveFromOldest_N_15]
    unfold fs_X2_giveFromOldest_N_15 fs_X2_giveFromOldest_N_54
    by_cases h0 : w ≤ sm g k
    · rw [rwB_d (show k ≤ 801 by omega) (fun y h3 h4 => tb_z h0 h3)] at h
      refine ⟨c, ?_, h, FR_r c a⟩
      simp (disch := omega) only [↓lm1, l0, l1, l2, l3, l4, l5, l6, l7, l8, l9, l10, l11, l12, l13, l14, l31, l32, l44, l48, l50, l57, l59, l60, l74, l100, l110, l126, l300, l330, l500, l501, l801, l1000, l5000, l5010, l8010, l8192, l9000, l10000, l1000000, nI_add, pk_mul, nI_clamp, nI_leI, nI_ltI, nI_eq, chk_d, chk_t, chk_inb, rfm_s, bnd_e, cal_e, calR_e, if_pos, if_neg, g1, TV_g hq, hw4]
    · have htb : tb g w k = min (g k) (w - sm g k) := rfl
      have hv : rwB g w k k = g k := by
        unfold rwB
        rw [if_neg (by omega)]
      have hrow := rwB_s g w k
      rw [htb] at hrow
      obtain ⟨c1, p1, p2, p3⟩ := x2_take hq L0 M l h (y := k) (w := w - sm g k) (by omega) (by omega) (by rw [hv]; omega)
      rw [hv, hrow] at p2
      rw [hv] at p1
      obtain ⟨c2, r1, r2, r3⟩ := ih (k + 1) c1 n (by omega) p2 (by omega)
      refine ⟨c2, ?_, r2, FR_t p3 r3⟩
      have e3 : w - sm g k - min (g k) (w - sm g k) = w - sm g (k + 1) := by omega
      rw [← r1]
      simp (disch := omega) only [↓lm1, l0, l1, l2, l3, l4, l5, l6, l7, l8, l9, l10, l11, l12, l13, l14, l31, l32, l44, l48, l50, l57, l59, l60, l74, l100, l110, l126, l300, l330, l500, l501, l801, l1000, l5000, l5010, l8010, l8192, l9000, l10000, l1000000, nI_add, pk_mul, nI_clamp, nI_leI, nI_ltI, nI_eq, chk_d, chk_t, chk_inb, rfm_s, bnd_e, cal_e, calR_e, if_pos, if_neg, g1, TV_g hq, hw4, p1, nIs, e3]
theorem x2_giveN {q : Nat → Nat} (hq : ∀ a b : Nat, (q a = q b) = (a = b)) {T : Ty} {R : Rm} {a : Nat} (L : LG T R q a) (M : Mm) {c : Nat → Nat → Int32} (l : Nat → Int64) {g : Nat → Nat} (h : LY c a g) (hg : sm g 801 < 2 ^ 31) {w : Nat} (hw : w ≤ sm g 801) : ∃ c', fn_X2_giveFromOldest_N T R (q a) (nI w) (TV q M c l) = some ((), TV q M c' l) ∧ LY c' a (rwB g w 801) ∧ FR c c' a := by
  have L0 := L
  have hr := rwB_sum hw
  rcases h with ⟨h0, h⟩ | ⟨o, t, ht, h⟩
  · have e0 : rwB g w 801 = g := (rwB_d (n := 801) (Nat.zero_le _) (fun y _ h4 => tb_0 (sm_0y h0 h4))).symm.trans (by
      funext y
      simp [rwB])
    rw [e0]
    obtain ⟨c', r1, r2, r3⟩ := x2_narrow hq L0 M l hg h (.inl h0)
    refine ⟨c', ?_, r2, r3⟩
    obtain ⟨g1, g2, g3, g4, g5⟩ := L
    obtain ⟨hrow, hice, w3, w4⟩ := h
    have e17 : ∀ j46, fb_X2_giveFromOldest_N_15 T R (q a) (nI w) j46 FU = fs_X2_giveFromOldest_N_15 T R (q a) (nI w) (fb_X2_giveFromOldest_N_15 T R (q a) (nI w) j46 9999) j46 := fun j46 => fbs_X2_giveFromOldest_N_15 T R (q a) (nI w) j46 9999
    have hlt : (nONE < nI 801) = True := eq_true (by decide)
    unfold fn_X2_giveFromOldest_N
    rw [e17]
    unfold fs_X2_giveFromOldest_N_15 fs_X2_giveFromOldest_N_60
    simp (disch := omega) only [↓lm1, l0, l1, l2, l3, l4, l5, l6, l7, l8, l9, l10, l11, l12, l13, l14, l31, l32, l44, l48, l50, l57, l59, l60, l74, l100, l110, l126, l300, l330, l500, l501, l801, l1000, l5000, l5010, l8010, l8192, l9000, l10000, l1000000, chk_t, bnd_e, cal_e, g1, TV_g hq, w3, w4, hlt, if_true, r1]
  · have hb := TI_br ht
    obtain ⟨t1, t2, t3, t4, t5, t6⟩ := ht
    have hs0 : sm g o = 0 := sm_z t5
    have hh : LW c a (rwB g w o) (nI o) (nI t) := by
      have e : rwB g w o = g := by
        funext y
        unfold rwB
        by_cases h1 : y < o
        · rw [if_pos h1, t5 y h1]
          omega
        · rw [if_neg h1]
      rw [e]
      exact h
    obtain ⟨c1, p1, p2, p3⟩ := x2_giveN_loop hq L0 M l hg (show w < 2 ^ 31 by omega) t2 t6 (nI w) (fs_X2_giveFromOldest_N_60 T R (q a) (nI w)) (t + 1 - o) o c FU (by omega) hh (FU_gt (by omega))
    obtain ⟨c', r1, r2, r3⟩ := x2_narrow hq L0 M l (by omega) p2 (.inr ⟨o, t, rfl, rfl, rwB_br hb⟩)
    refine ⟨c', ?_, r2, FR_t p3 r3⟩
    obtain ⟨g1, g2, g3, g4, g5⟩ := L
    obtain ⟨hrow, hice, w3, w4⟩ := h
    rw [hs0, Nat.sub_zero] at p1
    unfold fn_X2_giveFromOldest_N
    simp (disch := omega) only [↓lm1, l0, l1, l2, l3, l4, l5, l6, l7, l8, l9, l10, l11, l12, l13, l14, l31, l32, l44, l48, l50, l57, l59, l60, l74, l100, l110, l126, l300, l330, l500, l501, l801, l1000, l5000, l5010, l8010, l8192, l9000, l10000, l1000000, nI_add, pk_mul, nI_clamp, nI_leI, nI_ltI, nI_eq, chk_d, chk_t, chk_inb, rfm_s, bnd_e, cal_e, calR_e, if_pos, if_neg, g1, TV_g hq, w3, w4, hice, p1]
    unfold fs_X2_giveFromOldest_N_60
    simp (disch := omega) only [chk_t, bnd_e, cal_e, g1, r1]

