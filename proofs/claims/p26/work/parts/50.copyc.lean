/-! the class's tongue copied from another one -/
def cset (c : Nat → Nat → Int32) (j : Nat) (r : Nat → Int32) : Nat → Nat → Int32 := fun i => if i = j then r else c i
theorem cset_s (c : Nat → Nat → Int32) (j : Nat) (r : Nat → Int32) : cset c j r j = r := by simp [cset]
theorem cset_n (c : Nat → Nat → Int32) {i j : Nat} (r : Nat → Int32) (h : i ≠ j) : cset c j r i = c i := by simp [cset, h]
theorem ov_row {q : Nat → Nat} (hq : ∀ a b : Nat, (q a = q b) = (a = b)) {c : Nat → Nat → Int32} {g : Nat → Nat → Int32} {j : Nat} (r : Nat → Int32) {n : Nat} (hj : j < n) : (fun b => if b = q j then r else ov q c n g b) = ov q (cset c j r) n g := by
  funext a
  by_cases h : ∃ j', j' < n ∧ a = q j'
  · obtain ⟨j', h1, rfl⟩ := h
    rw [ov_in hq h1, ov_in hq h1]
    unfold cset
    simp only [hq]
  · have h' : ∀ j', j' < n → a ≠ q j' := fun j' h1 e => h ⟨j', h1, e⟩
    rw [ov_out h', ov_out h', if_neg (h' j hj)]
theorem TV_cp {q : Nat → Nat} (hq : ∀ a b : Nat, (q a = q b) = (a = b)) (M : Mm) (c : Nat → Nat → Int32) (l : Nat → Int64) {j a0 n : Nat} {r : Nat → Int32} (hj : j < 41) (hr : ∀ k, gI (TV q M c l) a0 k = r k) : cpI (TV q M c l) a0 (q j) 0 0 n = TV q M (cset c j (va_cpy r (c j) 0 0 n)) l := by
  have e1 : (TV q M c l).1 a0 = r := funext hr
  have e2 : (TV q M c l).1 (q j) = c j := ov_in hq hj
  unfold cpI
  rw [e1, e2]
  unfold TV
  rw [← ov_row hq _ hj]
theorem cpok_t {n n0 n1 : Nat} (hn : n < 2 ^ 31) (h0 : n ≤ n0) (h1 : n ≤ n1) : cpok (nI 0) (nI 0) (nI n) n0 n1 = true := by
  unfold cpok
  rw [nI_clamp (show 0 < 2 ^ 31 by omega), nI_clamp hn]
  exact decide_eq_true ⟨by decide, by decide, nI_pos hn, by omega, by omega⟩
def FR3 (c c' : Nat → Nat → Int32) (b : Nat) : Prop := ∀ j, j ≠ 5 + 3 * b → j ≠ 5 + 3 * b + 1 → j ≠ 5 + 3 * b + 1 + 1 → c' j = c j
theorem x2_copyFrom {q q' : Nat → Nat} (hq : ∀ a b : Nat, (q a = q b) = (a = b)) {T : Ty} {R : Rm} {a : Nat} (L : LG T R q a) (L' : LG T R q' a) (M : Mm) {d : Nat → Nat → Int32} (hd : ∀ c l j k, j < 41 → gI (TV q M c l) (q' j) k = d j k) (c : Nat → Nat → Int32) (l : Nat → Int64) : ∃ c', fn_X2_copyFrom T R (q a) (q' a) (TV q M c l) = some ((), TV q M c' l) ∧ (∀ g, LY d a g → LY c' a g) ∧ FR c c' a := by
  obtain ⟨g1, g2, g3, g4, g5⟩ := L
  obtain ⟨g1', g2', g3', g4', g5'⟩ := L'
  have e1 := TV_cp hq M c l (j := a + 1) (n := 801) (r := d (a + 1)) (by omega) (fun k => hd c l (a + 1) k (by omega))
  refine ⟨up2 (up2 (up2 (cset c (a + 1) (va_cpy (d (a + 1)) (c (a + 1)) 0 0 801)) a 1 (d a 1)) a 2 (d a 2)) a 3 (d a 3), ?_, fun g h => ?_, fun j h1 h2 => ?_⟩
  · have ec : cpok (nI 0) (nI 0) (nI 801) 801 801 = true := cpok_t (by omega) (by omega) (by omega)
    unfold fn_X2_copyFrom
    simp (disch := omega) only [↓lm1, l0, l1, l2, l3, l4, l5, l6, l7, l8, l9, l10, l11, l12, l13, l14, l31, l32, l44, l48, l50, l57, l59, l60, l74, l100, l110, l126, l300, l330, l500, l501, l801, l1000, l5000, l5010, l8010, l8192, l9000, l10000, l1000000, nI_add, pk_mul, nI_clamp, nI_leI, nI_ltI, nI_eq, chk_d, chk_t, chk_inb, rfm_s, bnd_e, cal_e, calR_e, if_pos, if_neg, g1, g2, g3, g4, g1', g2', g3', g4', ec, e1, hd, TV_s hq]
  · have hw : ∀ o t, LW d a g o t → LW (up2 (up2 (up2 (cset c (a + 1) (va_cpy (d (a + 1)) (c (a + 1)) 0 0 801)) a 1 (d a 1)) a 2 (d a 2)) a 3 (d a 3)) a g o t := fun o t h => by
      obtain ⟨h1, h2, h3, h4⟩ := h
      refine ⟨fun y hy => ?_, ?_, ?_, ?_⟩
      · rw [up2_c _ _ (by omega), up2_c _ _ (by omega), up2_c _ _ (by omega), cset_s, pk_cpy_in (by omega) (by omega)]
        rw [show 0 + (y - 0) = y by omega]
        exact h1 y hy
      · rw [up2_k _ _ (by omega), up2_k _ _ (by omega), up2_s, h2]
      · rw [up2_k _ _ (by omega), up2_s, h3]
      · rw [up2_s, h4]
    rcases h with ⟨h0, h⟩ | ⟨o, t, ht, h⟩
    · exact .inl ⟨h0, hw _ _ h⟩
    · exact .inr ⟨o, t, ht, hw _ _ h⟩
  · rw [up2_r _ _ h1, up2_r _ _ h1, up2_r _ _ h1, cset_n _ _ h2]
theorem x0_copyFrom {q q' σ σ' : Nat → Nat} {T : Ty} {R : Rm} (G : TG T R q σ) (G' : TG T R q' σ') (M : Mm) {d : Nat → Nat → Int32} (hd : ∀ c l j k, j < 41 → gI (TV q M c l) (q' j) k = d j k) (c : Nat → Nat → Int32) (l : Nat → Int64) {b : Nat} (hb : b < 10) : ∃ c', fn_X0_copyFrom T R (q (5 + 3 * b)) (q' (5 + 3 * b)) (TV q M c l) = some ((), TV q M c' l) ∧ (∀ k, k < 6 → c' (5 + 3 * b) (k + 1) = d (5 + 3 * b) (k + 1)) ∧ (∀ g, LY d (5 + 3 * b + 1) g → LY c' (5 + 3 * b + 1) g) ∧ FR3 c c' b := by
  have hr0 := (show isK T (q' (5 + 3 * b)) 0 = true ∧ R (q' (5 + 3 * b)) 0 = some (q' (5 + 3 * b + 1)) ∧ LG T R q' (5 + 3 * b + 1) by
    obtain ⟨hq, k0, r00, r01, r02, r03, k1, n1, k2, n2, k3, n3, k4, rb, kb, rl, lg, rs, ks, sl, si⟩ := G'
    exact ⟨kb b hb, rl b hb, lg b hb⟩)
  obtain ⟨kb', rl', lg'⟩ := hr0
  obtain ⟨hq, k0, r00, r01, r02, r03, k1, n1, k2, n2, k3, n3, k4, rb, kb, rl, lg, rs, ks, sl, si⟩ := G
  obtain ⟨c1, p1, p2, p3⟩ := x2_copyFrom hq (lg b hb) lg' M hd c l
  have kl := (lg b hb).1
  refine ⟨up2 (up2 (up2 (up2 (up2 (up2 c1 (5 + 3 * b) 1 (d (5 + 3 * b) 1)) (5 + 3 * b) 2 (d (5 + 3 * b) 2)) (5 + 3 * b) 3 (d (5 + 3 * b) 3)) (5 + 3 * b) 4 (d (5 + 3 * b) 4)) (5 + 3 * b) 5 (d (5 + 3 * b) 5)) (5 + 3 * b) 6 (d (5 + 3 * b) 6), ?_, fun k hk => ?_, fun g h => ?_, fun j h1 h2 h3 => ?_⟩
  · unfold fn_X0_copyFrom
    simp (disch := omega) only [↓lm1, l0, l1, l2, l3, l4, l5, l6, l7, l8, l9, l10, l11, l12, l13, l14, l31, l32, l44, l48, l50, l57, l59, l60, l74, l100, l110, l126, l300, l330, l500, l501, l801, l1000, l5000, l5010, l8010, l8192, l9000, l10000, l1000000, chk_d, chk_t, chk_inb, rfm_s, bnd_e, cal_e, calR_e, if_pos, if_neg, k0, r00, r01, r02, r03, k1, n1, k2, n2, k3, n3, k4, rb, kb, rl, rs, ks, kb', rl', kl, p1, hd, TV_s hq]
  · rcases (show k = 0 ∨ k = 1 ∨ k = 2 ∨ k = 3 ∨ k = 4 ∨ k = 5 by omega) with rfl | rfl | rfl | rfl | rfl | rfl <;> simp (disch := omega) only [Nat.reduceAdd, up2_s, up2_k]
  · exact LY_fr (p2 g h) (by simp (disch := omega) only [up2_r]) (by simp (disch := omega) only [up2_r])
  · rw [up2_r _ _ h1, up2_r _ _ h1, up2_r _ _ h1, up2_r _ _ h1, up2_r _ _ h1, up2_r _ _ h1]
    exact p3 j h2 h3
theorem x3_copyFrom {q q' σ σ' : Nat → Nat} {T : Ty} {R : Rm} (G : TG T R q σ) (G' : TG T R q' σ') (M : Mm) {d : Nat → Nat → Int32} (hd : ∀ c l j k, j < 41 → gI (TV q M c l) (q' j) k = d j k) (c : Nat → Nat → Int32) (l : Nat → Int64) {i j : Nat} (hi : i < 6) (hj : j < 6) : ∃ c', fn_X3_copyFrom T R (q (35 + i)) (q' (35 + j)) (TV q M c l) = some ((), TV q M c' l) ∧ (∀ k, k < 6 → c' (35 + i) k = d (35 + j) k) ∧ (∀ j', j' ≠ 35 + i → c' j' = c j') := by
  have hr0 := (show isK T (q' (35 + j)) 3 = true by
    obtain ⟨hq, k0, r00, r01, r02, r03, k1, n1, k2, n2, k3, n3, k4, rb, kb, rl, lg, rs, ks, sl, si⟩ := G'
    exact ks j hj)
  obtain ⟨hq, k0, r00, r01, r02, r03, k1, n1, k2, n2, k3, n3, k4, rb, kb, rl, lg, rs, ks, sl, si⟩ := G
  refine ⟨up2 (up2 (up2 (up2 (up2 (up2 c (35 + i) 0 (d (35 + j) 0)) (35 + i) 1 (d (35 + j) 1)) (35 + i) 2 (d (35 + j) 2)) (35 + i) 3 (d (35 + j) 3)) (35 + i) 4 (d (35 + j) 4)) (35 + i) 5 (d (35 + j) 5), ?_, fun k hk => ?_, fun j' h1 => ?_⟩
  · unfold fn_X3_copyFrom
    simp (disch := omega) only [↓lm1, l0, l1, l2, l3, l4, l5, l6, l7, l8, l9, l10, l11, l12, l13, l14, l31, l32, l44, l48, l50, l57, l59, l60, l74, l100, l110, l126, l300, l330, l500, l501, l801, l1000, l5000, l5010, l8010, l8192, l9000, l10000, l1000000, chk_d, chk_t, chk_inb, rfm_s, bnd_e, cal_e, calR_e, if_pos, if_neg, ks, hr0, hd, TV_s hq]
  · rcases (show k = 0 ∨ k = 1 ∨ k = 2 ∨ k = 3 ∨ k = 4 ∨ k = 5 by omega) with rfl | rfl | rfl | rfl | rfl | rfl <;> simp (disch := omega) only [up2_s, up2_k]
  · rw [up2_r _ _ h1, up2_r _ _ h1, up2_r _ _ h1, up2_r _ _ h1, up2_r _ _ h1, up2_r _ _ h1]
theorem x1_copyFrom {q q' σ σ' : Nat → Nat} {T : Ty} {R : Rm} (G : TG T R q σ) (G' : TG T R q' σ') (M : Mm) {d : Nat → Nat → Int32} (hd : ∀ c l j k, j < 41 → gI (TV q M c l) (q' j) k = d j k) (c : Nat → Nat → Int32) (l : Nat → Int64) : ∃ c', fn_X1_copyFrom T R (q 4) (q' 4) (TV q M c l) = some ((), TV q M c' l) ∧ (∀ k, k < 4 → c' 4 k = d 4 k) ∧ (∀ j', j' ≠ 4 → c' j' = c j') := by
  have hr0 := (show isK T (q' 4) 1 = true by
    obtain ⟨hq, k0, r00, r01, r02, r03, k1, n1, k2, n2, k3, n3, k4, rb, kb, rl, lg, rs, ks, sl, si⟩ := G'
    exact k4)
  obtain ⟨hq, k0, r00, r01, r02, r03, k1, n1, k2, n2, k3, n3, k4, rb, kb, rl, lg, rs, ks, sl, si⟩ := G
  refine ⟨up2 (up2 (up2 (up2 c 4 0 (d 4 0)) 4 1 (d 4 1)) 4 2 (d 4 2)) 4 3 (d 4 3), ?_, fun k hk => ?_, fun j' h1 => ?_⟩
  · unfold fn_X1_copyFrom
    simp (disch := omega) only [↓lm1, l0, l1, l2, l3, l4, l5, l6, l7, l8, l9, l10, l11, l12, l13, l14, l31, l32, l44, l48, l50, l57, l59, l60, l74, l100, l110, l126, l300, l330, l500, l501, l801, l1000, l5000, l5010, l8010, l8192, l9000, l10000, l1000000, chk_d, chk_t, chk_inb, rfm_s, bnd_e, cal_e, calR_e, if_pos, if_neg, k4, hr0, hd, TV_s hq]
  · rcases (show k = 0 ∨ k = 1 ∨ k = 2 ∨ k = 3 by omega) with rfl | rfl | rfl | rfl <;> simp (disch := omega) only [up2_s, up2_k]
  · rw [up2_r _ _ h1, up2_r _ _ h1, up2_r _ _ h1, up2_r _ _ h1]

