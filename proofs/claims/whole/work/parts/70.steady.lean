/-! both together: the melt that the snow outweighs -/
theorem lg_lt' (a b : Int64) : (lg_cmp a b < nI 0) = (a < b) := propext (lg_cmp_lt a b)
theorem upd_uu (m : Nat → Int32) (k : Nat) (v w : Int32) : upd (upd m k v) k w = upd m k w := by
  funext j
  by_cases h : j = k
  · subst h
    rw [pk_us, pk_us]
  · rw [pk_un h, pk_un h, pk_un h]
theorem nIm1 (k : Nat) : nI k - nI 1 = nI k + nONE := by
  cases k with
  | zero => decide
  | succ k =>
    rw [nI_m1, nIs (by omega)]
    rfl
theorem mlX_mono (m : Nat → Int32) {x y b : Nat} (h : x ≤ y) : mlX m x b ≤ mlX m y b := by
  unfold mlX mlN
  omega
theorem bal_anti (m : Nat → Int32) {x y : Nat} (h : x ≤ y) : ∀ n, bal m y n ≤ bal m x n := by
  intro n
  induction n with
  | zero => exact Int.le_refl _
  | succ n ih =>
    have h1 : bal m y (n + 1) = bal m y n + ((snS m n : Int) - (mlX m y n : Int)) := rfl
    have h2 : bal m x (n + 1) = bal m x n + ((snS m n : Int) - (mlX m x n : Int)) := rfl
    have h3 := mlX_mono m (b := n) h
    omega
theorem snS_2 (m : Nat → Int32) (v : Int32) (b : Nat) : snS (upd m 2 v) b = snS m b := by
  unfold snS
  rw [pk_un (show 0 ≠ 2 by omega), pk_un (show 1 ≠ 2 by omega), pk_un (show 4 ≠ 2 by omega), pk_un (show 14 + 6 * b ≠ 2 by omega)]
theorem mlS_2 (m : Nat → Int32) {x : Nat} (hx : x ≤ 9000) (b : Nat) : mlS (upd m 2 (nI x)) b = mlX m x b := by
  unfold mlS mlX
  rw [pk_us, nt_nI (by omega), pk_un (show 3 ≠ 2 by omega), pk_un (show 4 ≠ 2 by omega), pk_un (show 14 + 6 * b ≠ 2 by omega)]
theorem x7_isSteady {ad : Nat → Nat} {T : Ty} {R : Rm} (G : RG ad T R) (M : Mm) {m : Nat → Int32} {f : Nat → Nat → Nat} {acc : Nat → Int64} (I : IV m) {nb x : Nat} (h8 : m 8 = nI nb) (n8 : nt (m 8) = nb) (hnb : nb ≤ 10) (hx : x ≤ 9000) : fn_X7_isSteady T R (ad 250) (P3 ad M (upd m 2 (nI x)) (fI f) acc) = some (bI (decide (0 ≤ bal m x nb)), P3 ad M (upd m 2 (nI x)) (fI f) acc) := by
  have G0 := G
  have I' : IV (upd m 2 (nI x)) := IV_set I (k := 2) (by omega) (show rg (nI x) 0 9000 from rg_nI (by omega) hx (by omega))
  have t0 : (0 : Int64).toInt = 0 := by decide
  have e8 : upd m 2 (nI x) 8 = nI nb := (pk_un (show 8 ≠ 2 by omega)).trans h8
  obtain ⟨hi, k0, k251, n251, r251, -⟩ := G
  have key : ∀ d b fuel (a : Int64), a.toInt = bal m x b → b + d = nb → d < fuel → fb_X7_isSteady_4 T R (ad 250) fuel a (nI b) (P3 ad M (upd m 2 (nI x)) (fI f) acc) = some (bI (decide (0 ≤ bal m x nb)), P3 ad M (upd m 2 (nI x)) (fI f) acc) := by
    intro d
    induction d with
    | zero =>
      intro b fuel a ha hb hf
      obtain ⟨n', rfl⟩ : ∃ n', fuel = n' + 1 := ⟨fuel - 1, by omega⟩
      obtain rfl : b = nb := by omega
      rw [fbs_X7_isSteady_4]
      unfold fs_X7_isSteady_4
      by_cases hc : 0 ≤ bal m x b
      · have hz : (a < 0) = False := eq_false (fun h => by
          have := Int64.lt_iff_toInt_lt.mp h
          rw [ha, t0] at this
          omega)
        rw [decide_eq_true hc]
        simp (disch := omega) only [↓cal_w6, ↓cal_w7, ↓lm1, l0, l1, l2, l3, l4, l5, l6, l7, l8, l9, l10, l11, l12, l13, l14, l31, l32, l44, l48, l50, l57, l59, l60, l74, l100, l110, l126, l300, l330, l500, l501, l801, l1000, l5000, l5010, l8010, l8192, l9000, l10000, l1000000, and_self, and_true, true_and, and_false, false_and, nI_add, pk_mul, nI_clamp, ↓reduceIte, eF, lT, lF, leT, leF, chk_d, chk_t, chk_inb, rfm_s, bnd_e, cal_e, calR_e, k0, k251, n251, r251, P3_m, e8, lg_lt', hz, bI, cond_true]
      · have hz : (a < 0) = True := eq_true (Int64.lt_iff_toInt_lt.mpr (by
          rw [ha, t0]
          omega))
        rw [decide_eq_false hc]
        simp (disch := omega) only [↓cal_w6, ↓cal_w7, ↓lm1, l0, l1, l2, l3, l4, l5, l6, l7, l8, l9, l10, l11, l12, l13, l14, l31, l32, l44, l48, l50, l57, l59, l60, l74, l100, l110, l126, l300, l330, l500, l501, l801, l1000, l5000, l5010, l8010, l8192, l9000, l10000, l1000000, and_self, and_true, true_and, and_false, false_and, nI_add, pk_mul, nI_clamp, ↓reduceIte, eF, lT, lF, leT, leF, chk_d, chk_t, chk_inb, rfm_s, bnd_e, cal_e, calR_e, k0, k251, n251, r251, P3_m, e8, lg_lt', hz, bI, cond_false]
    | succ d ih =>
      intro b fuel a ha hb hf
      obtain ⟨n', rfl⟩ : ∃ n', fuel = n' + 1 := ⟨fuel - 1, by omega⟩
      have hb8 : b < nt (upd m 2 (nI x) 8) := by
        rw [e8, nt_nI (by omega)]
        omega
      have q1 := x7_sn G0 (M := M) (f := f) (acc := acc) I' hb8
      have q2 := x7_ml G0 (M := M) (f := f) (acc := acc) I' hb8
      have l1' := snS_le I' hb8
      have l2' := mlS_le I' hb8
      rw [snS_2] at q1 l1'
      rw [mlS_2 m hx] at q2 l2'
      obtain ⟨z1, z2⟩ := bal_in I hx b (by omega)
      have hn : (a + (nI (snS m b) - nI (mlX m x b)).toInt64).toInt = bal m x (b + 1) := by
        have h2 : bal m x (b + 1) = bal m x b + ((snS m b : Int) - (mlX m x b : Int)) := rfl
        rw [Int64.toInt_add, Int32.toInt_toInt64, pk_sub_toInt (by omega) (by omega), ha, bm64 (by omega) (by omega), h2]
      have ih' := ih (b + 1) n' _ hn (by omega) (by omega)
      rw [← ih', fbs_X7_isSteady_4]
      unfold fs_X7_isSteady_4
      simp (disch := omega) only [↓cal_w6, ↓cal_w7, ↓lm1, l0, l1, l2, l3, l4, l5, l6, l7, l8, l9, l10, l11, l12, l13, l14, l31, l32, l44, l48, l50, l57, l59, l60, l74, l100, l110, l126, l300, l330, l500, l501, l801, l1000, l5000, l5010, l8010, l8192, l9000, l10000, l1000000, and_self, and_true, true_and, and_false, false_and, nI_add, pk_mul, nI_clamp, ↓reduceIte, eF, lT, lF, leT, leF, chk_d, chk_t, chk_inb, rfm_s, bnd_e, cal_e, calR_e, k0, k251, n251, r251, P3_m, e8, q1, q2]
  unfold fn_X7_isSteady
  simp only [l0]
  exact key nb 0 FU 0 rfl (by omega) (FU_gt (by omega))
/-- the greatest one below k -/
def gdm (p : Nat → Bool) : Nat → Int32
  | 0 => nONE
  | k + 1 => if p k = true then nI k else gdm p k
theorem gdm_t {p : Nat → Bool} {k : Nat} (h : p k = true) : gdm p (k + 1) = nI k := if_pos h
theorem gdm_f {p : Nat → Bool} {k : Nat} (h : p k = false) : gdm p (k + 1) = gdm p k := if_neg (by rw [h]; decide)
theorem gdm_no {p : Nat → Bool} : ∀ {k : Nat}, (∀ x, x < k → p x = false) → gdm p k = nONE := by
  intro k
  induction k with
  | zero => exact fun _ => rfl
  | succ k ih =>
    intro h
    rw [gdm_f (h k (by omega))]
    exact ih (fun x hx => h x (by omega))
theorem gdm_at {p : Nat → Bool} {r : Nat} (hp : p r = true) : ∀ {k : Nat}, r < k → (∀ x, x < k → p x = true → x ≤ r) → gdm p k = nI r := by
  intro k
  induction k with
  | zero => exact fun h => absurd h (by omega)
  | succ k ih =>
    intro h1 h2
    by_cases e : r = k
    · subst e
      exact gdm_t hp
    · have hk : p k = false := by
        cases hq : p k with
        | false => rfl
        | true =>
          have := h2 k (by omega) hq
          omega
      rw [gdm_f hk]
      exact ih (by omega) (fun x hx => h2 x (by omega))
theorem x7_steady_loop {ad : Nat → Nat} {T : Ty} {R : Rm} (G : RG ad T R) (M : Mm) {m : Nat → Int32} {f : Nat → Nat → Nat} {acc : Nat → Int64} (I : IV m) {nb : Nat} (h8 : m 8 = nI nb) (n8 : nt (m 8) = nb) (hnb : nb ≤ 10) (had : Int32) (j58 : Int32 → Mm → Option (Int32 × Mm)) : ∀ k fuel, k ≤ 9001 → k < fuel → fb_X7_steadyMelt_29 T R (ad 250) j58 fuel had (P3 ad M (upd m 2 (nI k + nONE)) (fI f) acc) = j58 had (P3 ad M (upd m 2 (gdm (fun x => decide (0 ≤ bal m x nb)) k)) (fI f) acc) := by
  have G0 := G
  obtain ⟨hi, k0, k251, n251, r251, -⟩ := G
  intro k
  induction k with
  | zero =>
    intro fuel _ hf
    obtain ⟨n', rfl⟩ : ∃ n', fuel = n' + 1 := ⟨fuel - 1, by omega⟩
    have e : gdm (fun x => decide (0 ≤ bal m x nb)) 0 = nONE := rfl
    rw [fbs_X7_steadyMelt_29, nI_n1, e]
    unfold fs_X7_steadyMelt_29
    simp (disch := omega) only [↓cal_w6, ↓cal_w7, ↓lm1, l0, l1, l2, l3, l4, l5, l6, l7, l8, l9, l10, l11, l12, l13, l14, l31, l32, l44, l48, l50, l57, l59, l60, l74, l100, l110, l126, l300, l330, l500, l501, l801, l1000, l5000, l5010, l8010, l8192, l9000, l10000, l1000000, and_self, and_true, true_and, and_false, false_and, nI_add, pk_mul, nI_clamp, ↓reduceIte, eF, lT, lF, leT, leF, chk_d, chk_t, chk_inb, rfm_s, bnd_e, cal_e, calR_e, k0, k251, n251, r251, P3_m, pk_us, nONE_lt]
  | succ k ih =>
    intro fuel hk hf
    obtain ⟨n', rfl⟩ : ∃ n', fuel = n' + 1 := ⟨fuel - 1, by omega⟩
    have ih' := ih n' (by omega) (by omega)
    have st := x7_isSteady G0 M (f := f) (acc := acc) I h8 n8 hnb (x := k) (by omega)
    rw [fbs_X7_steadyMelt_29, nI_m1]
    unfold fs_X7_steadyMelt_29
    cases hp : decide (0 ≤ bal m k nb) with
    | true =>
      rw [hp, bIt] at st
      rw [gdm_t (p := fun x => decide (0 ≤ bal m x nb)) hp]
      simp (disch := omega) only [↓cal_w6, ↓cal_w7, ↓lm1, l0, l1, l2, l3, l4, l5, l6, l7, l8, l9, l10, l11, l12, l13, l14, l31, l32, l44, l48, l50, l57, l59, l60, l74, l100, l110, l126, l300, l330, l500, l501, l801, l1000, l5000, l5010, l8010, l8192, l9000, l10000, l1000000, and_self, and_true, true_and, and_false, false_and, nI_add, pk_mul, nI_clamp, ↓reduceIte, eF, lT, lF, leT, leF, chk_d, chk_t, chk_inb, rfm_s, bnd_e, cal_e, calR_e, k0, k251, n251, r251, P3_m, pk_us, st]
    | false =>
      rw [hp, bIf] at st
      rw [gdm_f (p := fun x => decide (0 ≤ bal m x nb)) hp, ← ih']
      simp (disch := omega) only [↓cal_w6, ↓cal_w7, ↓lm1, l0, l1, l2, l3, l4, l5, l6, l7, l8, l9, l10, l11, l12, l13, l14, l31, l32, l44, l48, l50, l57, l59, l60, l74, l100, l110, l126, l300, l330, l500, l501, l801, l1000, l5000, l5010, l8010, l8192, l9000, l10000, l1000000, and_self, and_true, true_and, and_false, false_and, nI_add, pk_mul, nI_clamp, ↓reduceIte, eF, lT, lF, leT, leF, chk_d, chk_t, chk_inb, rfm_s, bnd_e, cal_e, calR_e, k0, k251, n251, r251, P3_m, sP3_m, pk_us, upd_uu, nIm1, st]
def pw : Nat → Nat
  | 0 => 1
  | i + 1 => 2 * pw i
theorem pw_s (i : Nat) : pw (i + 1) = 2 * pw i := rfl
theorem pw_pos : ∀ i, 0 < pw i := by
  intro i
  induction i with
  | zero => exact Nat.one_pos
  | succ i ih =>
    rw [pw_s]
    omega
theorem x6_steady_step {ad : Nat → Nat} {T : Ty} {R : Rm} {M : Mm} {b : Nat} (w0 : isK T (ad 0) 6 = true) (z0 : R (ad 0) 3 = some b) (k0 : isK T b 5 = true) {p : Nat → Bool} (ow : ∀ x, x ≤ 9000 → fn_X5_snowOutweighsMelt T R b (nI x) M = some (bI (p x), M)) {t melt : Nat} (ht : 0 < t) (ht2 : t ≤ 8192) (hm : melt ≤ 9000) (n' : Nat) : fb_X6_steadyMelt_41 T R (ad 0) (n' + 1) (nI melt) (nI t) M = fb_X6_steadyMelt_41 T R (ad 0) n' (nI (if melt + t ≤ 9000 ∧ p (melt + t) = true then melt + t else melt)) (nI (t / 2)) M := by
  have e9 : fMost 2 = nI 9000 := rfl
  have ed := nI_d (a := t) (b := 2) (by omega) (by omega) (by omega)
  by_cases h1 : melt + t ≤ 9000
  · have o := ow (melt + t) h1
    cases hp : p (melt + t) with
    | true =>
      rw [hp, bIt] at o
      have ei : (if melt + t ≤ 9000 ∧ true = true then melt + t else melt) = melt + t := if_pos ⟨h1, rfl⟩
      rw [ei, fbs_X6_steadyMelt_41]
      unfold fs_X6_steadyMelt_41 fs_X6_steadyMelt_73
      simp (disch := omega) only [↓cal_w6, ↓cal_w7, ↓lm1, l0, l1, l2, l3, l4, l5, l6, l7, l8, l9, l10, l11, l12, l13, l14, l31, l32, l44, l48, l50, l57, l59, l60, l74, l100, l110, l126, l300, l330, l500, l501, l801, l1000, l5000, l5010, l8010, l8192, l9000, l10000, l1000000, and_self, and_true, true_and, and_false, false_and, nI_add, pk_mul, nI_clamp, ↓reduceIte, eF, lT, lF, leT, leF, chk_d, chk_t, chk_inb, rfm_s, bnd_e, cal_e, calR_e, w0, z0, k0, e9, ed, o]
    | false =>
      rw [hp, bIf] at o
      have ei : (if melt + t ≤ 9000 ∧ false = true then melt + t else melt) = melt := if_neg (fun h => by cases h.2)
      rw [ei, fbs_X6_steadyMelt_41]
      unfold fs_X6_steadyMelt_41 fs_X6_steadyMelt_73
      simp (disch := omega) only [↓cal_w6, ↓cal_w7, ↓lm1, l0, l1, l2, l3, l4, l5, l6, l7, l8, l9, l10, l11, l12, l13, l14, l31, l32, l44, l48, l50, l57, l59, l60, l74, l100, l110, l126, l300, l330, l500, l501, l801, l1000, l5000, l5010, l8010, l8192, l9000, l10000, l1000000, and_self, and_true, true_and, and_false, false_and, nI_add, pk_mul, nI_clamp, ↓reduceIte, eF, lT, lF, leT, leF, chk_d, chk_t, chk_inb, rfm_s, bnd_e, cal_e, calR_e, w0, z0, k0, e9, ed, o]
  · have ei : (if melt + t ≤ 9000 ∧ p (melt + t) = true then melt + t else melt) = melt := if_neg (fun h => h1 h.1)
    rw [ei, fbs_X6_steadyMelt_41]
    unfold fs_X6_steadyMelt_41 fs_X6_steadyMelt_73
    simp (disch := omega) only [↓cal_w6, ↓cal_w7, ↓lm1, l0, l1, l2, l3, l4, l5, l6, l7, l8, l9, l10, l11, l12, l13, l14, l31, l32, l44, l48, l50, l57, l59, l60, l74, l100, l110, l126, l300, l330, l500, l501, l801, l1000, l5000, l5010, l8010, l8192, l9000, l10000, l1000000, and_self, and_true, true_and, and_false, false_and, nI_add, pk_mul, nI_clamp, ↓reduceIte, eF, lT, lF, leT, leF, chk_d, chk_t, chk_inb, rfm_s, bnd_e, cal_e, calR_e, w0, z0, k0, e9, ed]
theorem x6_steady_end {ad : Nat → Nat} {T : Ty} {R : Rm} (M : Mm) (melt n' : Nat) : fb_X6_steadyMelt_41 T R (ad 0) (n' + 1) (nI melt) (nI 0) M = some (nI melt, M) := by
  rw [fbs_X6_steadyMelt_41]
  unfold fs_X6_steadyMelt_41
  simp (disch := omega) only [↓cal_w6, ↓cal_w7, ↓lm1, l0, l1, l2, l3, l4, l5, l6, l7, l8, l9, l10, l11, l12, l13, l14, l31, l32, l44, l48, l50, l57, l59, l60, l74, l100, l110, l126, l300, l330, l500, l501, l801, l1000, l5000, l5010, l8010, l8192, l9000, l10000, l1000000, and_self, and_true, true_and, and_false, false_and, nI_add, pk_mul, nI_clamp, ↓reduceIte, eF, lT, lF, leT, leF, chk_d, chk_t, chk_inb, rfm_s, bnd_e, cal_e, calR_e]
theorem x6_steady_loop {ad : Nat → Nat} {T : Ty} {R : Rm} {M : Mm} {b : Nat} (w0 : isK T (ad 0) 6 = true) (z0 : R (ad 0) 3 = some b) (k0 : isK T b 5 = true) {p : Nat → Bool} (ow : ∀ x, x ≤ 9000 → fn_X5_snowOutweighsMelt T R b (nI x) M = some (bI (p x), M)) (anti : ∀ x y, x ≤ y → p y = true → p x = true) : ∀ i melt fuel, pw i ≤ 8192 → melt ≤ 9000 → p melt = true → (∀ x, x ≤ 9000 → p x = true → x < melt + 2 * pw i) → i + 1 < fuel → ∃ r, r ≤ 9000 ∧ p r = true ∧ (∀ x, x ≤ 9000 → p x = true → x ≤ r) ∧ fb_X6_steadyMelt_41 T R (ad 0) fuel (nI melt) (nI (pw i)) M = some (nI r, M) := by
  intro i
  induction i with
  | zero =>
    intro melt fuel h1 h2 h3 h4 hf
    obtain ⟨n', rfl⟩ : ∃ n', fuel = n' + 1 + 1 := ⟨fuel - 2, by omega⟩
    have e1 : pw 0 = 1 := rfl
    rw [e1] at h4
    rw [e1, x6_steady_step w0 z0 k0 ow (by omega) (by omega) h2]
    have e2 : (1 : Nat) / 2 = 0 := rfl
    rw [e2, x6_steady_end]
    by_cases hc : melt + 1 ≤ 9000 ∧ p (melt + 1) = true
    · rw [if_pos hc]
      refine ⟨melt + 1, hc.1, hc.2, fun x hx hp => ?_, rfl⟩
      have := h4 x hx hp
      omega
    · rw [if_neg hc]
      refine ⟨melt, h2, h3, fun x hx hp => ?_, rfl⟩
      have := h4 x hx hp
      refine Nat.le_of_not_lt (fun h => hc ⟨by omega, anti _ x (by omega) hp⟩)
  | succ i ih =>
    intro melt fuel h1 h2 h3 h4 hf
    obtain ⟨n', rfl⟩ : ∃ n', fuel = n' + 1 := ⟨fuel - 1, by omega⟩
    have e1 := pw_s i
    have e2 := pw_pos i
    have e3 : pw (i + 1) / 2 = pw i := by omega
    rw [x6_steady_step w0 z0 k0 ow (by omega) h1 h2, e3]
    by_cases hc : melt + pw (i + 1) ≤ 9000 ∧ p (melt + pw (i + 1)) = true
    · rw [if_pos hc]
      refine ih _ n' (by omega) hc.1 hc.2 (fun x hx hp => ?_) (by omega)
      have := h4 x hx hp
      omega
    · rw [if_neg hc]
      refine ih _ n' (by omega) h2 h3 (fun x hx hp => ?_) (by omega)
      refine Nat.lt_of_not_le (fun h => hc ⟨by omega, anti _ x (by omega) hp⟩)
theorem g_steady {ad : Nat → Nat} {T : Ty} {M : Mm} {R : Rm} {s : Sx} {n : Nat} {h : Nat → Sx} {tl' : Nat} {tx : Nat → Nat} {β : Nat → Nat} {σ : Nat → Nat → Nat} (w : WD ad T M R s n h tl' tx β σ) : ∃ r, fn_X6_steadyMelt T R (ad 0) M = some (r, M) ∧ fn_X7_steadyMelt T R (ad 250) M = some (r, M) := by
  obtain ⟨G, hs, ct, GR, rsw, rk, rx⟩ := w
  have hi := GR.1
  have b4 := CG_bs G (show 4 < 5 by omega)
  have tg := CG_tg G (.inr b4)
  have tg0 := tg
  have hM := M_TV hi M (β 4)
  have rt := hs.2.2.1
  have rt0 := rt
  obtain ⟨Y, nb, ns, g, hY5, hz⟩ := hs.2.2.2.2.1
  have P := RS_RP rsw
  have I := g.1.1
  have hY8 := g.2.2.2.2.1
  have hnb := g.2.2.2.2.2.1
  have hns := g.2.2.2.2.2.2.1
  have n7 := g.2.2.2.2.2.2.2.1
  have n8 := g.2.2.2.2.2.2.2.2.1
  have n9 := g.2.2.2.2.2.2.2.2.2
  have h7 := g.2.1
  have h8 := g.2.2.1
  have h9 := g.2.2.2.1
  have hK : 1000000 * nb + 300000 * Y < 2 ^ 30 := by omega
  have z0 := G.2.2.2.2.1
  have w0 := G.1
  have p7 : gI M (ad 251) 7 = nI Y := (P.1 7 (by omega)).trans h7
  have p8 : gI M (ad 251) 8 = nI nb := (P.1 8 (by omega)).trans h8
  have p9 : gI M (ad 251) 9 = nI ns := (P.1 9 (by omega)).trans h9
  have GR0 := GR
  obtain ⟨_, kR, k251, n251, r251, k252, n252, r252, k253, n253, r253, k254, n254, r254, k255, n255, r255, k256, n256, r256, k257, n257, r257, k258, n258, r258, k259, n259, r259, k260, n260, r260, k261, n261, r261⟩ := GR
  obtain ⟨t1, t04, t05, t06, t40, t41, t42, t43, tl, tb, ts⟩ := rt
  rw [h8] at t04
  rw [h9] at t05
  rw [h7] at t06
  obtain ⟨hq, k0, r00, r01, r02, r03, k1, n1, k2, n2, k3, n3, k4, rb, kb, rl, lg, rs, ks, sl, si⟩ := tg
  have f2 : fLeast 2 = nI 0 := rfl
  by_cases h0 : nb = 0
  · subst h0
    refine ⟨-2000000002, ?_, ?_⟩
    · unfold fn_X6_steadyMelt
      simp (disch := omega) only [↓cal_w6, ↓cal_w7, ↓lm1, l0, l1, l2, l3, l4, l5, l6, l7, l8, l9, l10, l11, l12, l13, l14, l31, l32, l44, l48, l50, l57, l59, l60, l74, l100, l110, l126, l300, l330, l500, l501, l801, l1000, l5000, l5010, l8010, l8192, l9000, l10000, l1000000, and_self, and_true, true_and, and_false, false_and, nI_add, pk_mul, nI_clamp, ↓reduceIte, eF, lT, lF, leT, leF, chk_d, chk_t, chk_inb, rfm_s, bnd_e, cal_e, calR_e, ↓chk_q w0, ↓rfm_q z0, ↓chk_q k0, w0, z0, k0, r00, r01, r02, r03, k1, n1, k2, n2, k3, n3, k4, rb, kb, rl, rs, ks, gCC, t04]
    · unfold fn_X7_steadyMelt
      simp (disch := omega) only [↓cal_w6, ↓cal_w7, ↓lm1, l0, l1, l2, l3, l4, l5, l6, l7, l8, l9, l10, l11, l12, l13, l14, l31, l32, l44, l48, l50, l57, l59, l60, l74, l100, l110, l126, l300, l330, l500, l501, l801, l1000, l5000, l5010, l8010, l8192, l9000, l10000, l1000000, and_self, and_true, true_and, and_false, false_and, nI_add, pk_mul, nI_clamp, ↓reduceIte, eF, lT, lF, leT, leF, chk_d, chk_t, chk_inb, rfm_s, bnd_e, cal_e, calR_e, ↓chk_q kR, kR, k251, n251, r251, k252, n252, r252, k253, n253, r253, k254, n254, r254, k255, n255, r255, k256, n256, r256, k257, n257, r257, k258, n258, r258, k259, n259, r259, k260, n260, r260, k261, n261, r261, p8]
  have ow : ∀ x, x ≤ 9000 → fn_X5_snowOutweighsMelt T R (qq ad (β 4) 0) (nI x) M = some (bI (decide (0 ≤ bal s.1 x nb)), M) := fun x hx => by
    have o := x5_outweighs tg0 M g rt0 hx
    rw [hM] at o
    exact o
  have anti : ∀ x y, x ≤ y → decide (0 ≤ bal s.1 y nb) = true → decide (0 ≤ bal s.1 x nb) = true := fun x y hxy hp => by
    have h1 := of_decide_eq_true hp
    have h2 := bal_anti s.1 hxy nb
    exact decide_eq_true (by omega)
  -- the reference
  have ref : ∀ v r : Int32, gdm (fun x => decide (0 ≤ bal s.1 x nb)) 9001 = v → (if nI 0 ≤ v then v else -2000000004) = r → fn_X7_steadyMelt T R (ad 250) M = some (r, M) := by
    intro v r hv hr
    have eM := RS_PS hi rsw
    have lo := x7_steady_loop GR0 M (f := s.2.1) (acc := s.2.2) I h8 n8 hnb (s.1 2) (fs_X7_steadyMelt_58 T R (ad 250)) 9001 FU (by omega) (FU_gt (by omega))
    rw [nI_m1, hv] at lo
    have p2 : gI M (ad 251) 2 = s.1 2 := P.1 2 (by omega)
    have e9 : sI M (ad 251) 2 (nI 9000) = P3 ad M (upd s.1 2 (nI 9000)) (fI s.2.1) s.2.2 := by
      have h := sP3_m ad M s.1 (fI s.2.1) s.2.2 2 (nI 9000)
      have e : P3 ad M s.1 (fI s.2.1) s.2.2 = M := eM
      rw [e] at h
      exact h
    have eb : P3 ad M s.1 (fI s.2.1) s.2.2 = M := eM
    have e58 : fs_X7_steadyMelt_58 T R (ad 250) (s.1 2) (P3 ad M (upd s.1 2 v) (fI s.2.1) s.2.2) = some (r, M) := by
      rw [← hr]
      unfold fs_X7_steadyMelt_58
      by_cases hc : nI 0 ≤ v
      · simp (disch := omega) only [↓cal_w6, ↓cal_w7, ↓lm1, l0, l1, l2, l3, l4, l5, l6, l7, l8, l9, l10, l11, l12, l13, l14, l31, l32, l44, l48, l50, l57, l59, l60, l74, l100, l110, l126, l300, l330, l500, l501, l801, l1000, l5000, l5010, l8010, l8192, l9000, l10000, l1000000, and_self, and_true, true_and, and_false, false_and, nI_add, pk_mul, nI_clamp, ↓reduceIte, eF, lT, lF, leT, leF, chk_d, chk_t, chk_inb, rfm_s, bnd_e, cal_e, calR_e, ↓chk_q kR, kR, k251, n251, r251, k252, n252, r252, k253, n253, r253, k254, n254, r254, k255, n255, r255, k256, n256, r256, k257, n257, r257, k258, n258, r258, k259, n259, r259, k260, n260, r260, k261, n261, r261, P3_m, sP3_m, pk_us, upd_uu, upd_id, eb, hc]
      · simp (disch := omega) only [↓cal_w6, ↓cal_w7, ↓lm1, l0, l1, l2, l3, l4, l5, l6, l7, l8, l9, l10, l11, l12, l13, l14, l31, l32, l44, l48, l50, l57, l59, l60, l74, l100, l110, l126, l300, l330, l500, l501, l801, l1000, l5000, l5010, l8010, l8192, l9000, l10000, l1000000, and_self, and_true, true_and, and_false, false_and, nI_add, pk_mul, nI_clamp, ↓reduceIte, eF, lT, lF, leT, leF, chk_d, chk_t, chk_inb, rfm_s, bnd_e, cal_e, calR_e, ↓chk_q kR, kR, k251, n251, r251, k252, n252, r252, k253, n253, r253, k254, n254, r254, k255, n255, r255, k256, n256, r256, k257, n257, r257, k258, n258, r258, k259, n259, r259, k260, n260, r260, k261, n261, r261, P3_m, sP3_m, pk_us, upd_uu, upd_id, eb, hc]
    rw [e58] at lo
    unfold fn_X7_steadyMelt
    simp (disch := omega) only [↓cal_w6, ↓cal_w7, ↓lm1, l0, l1, l2, l3, l4, l5, l6, l7, l8, l9, l10, l11, l12, l13, l14, l31, l32, l44, l48, l50, l57, l59, l60, l74, l100, l110, l126, l300, l330, l500, l501, l801, l1000, l5000, l5010, l8010, l8192, l9000, l10000, l1000000, and_self, and_true, true_and, and_false, false_and, nI_add, pk_mul, nI_clamp, ↓reduceIte, eF, lT, lF, leT, leF, chk_d, chk_t, chk_inb, rfm_s, bnd_e, cal_e, calR_e, l9000, ↓chk_q kR, kR, k251, n251, r251, k252, n252, r252, k253, n253, r253, k254, n254, r254, k255, n255, r255, k256, n256, r256, k257, n257, r257, k258, n258, r258, k259, n259, r259, k260, n260, r260, k261, n261, r261, p8, h0, p2, e9, lo]
  cases hp0 : decide (0 ≤ bal s.1 0 nb) with
  | false =>
    have o := ow 0 (by omega)
    rw [hp0, bIf] at o
    refine ⟨-2000000004, ?_, ref nONE _ (gdm_no (fun x hx => ?_)) (by decide)⟩
    · unfold fn_X6_steadyMelt
      simp (disch := omega) only [↓cal_w6, ↓cal_w7, ↓lm1, l0, l1, l2, l3, l4, l5, l6, l7, l8, l9, l10, l11, l12, l13, l14, l31, l32, l44, l48, l50, l57, l59, l60, l74, l100, l110, l126, l300, l330, l500, l501, l801, l1000, l5000, l5010, l8010, l8192, l9000, l10000, l1000000, and_self, and_true, true_and, and_false, false_and, nI_add, pk_mul, nI_clamp, ↓reduceIte, eF, lT, lF, leT, leF, chk_d, chk_t, chk_inb, rfm_s, bnd_e, cal_e, calR_e, ↓chk_q w0, ↓rfm_q z0, ↓chk_q k0, w0, z0, k0, r00, r01, r02, r03, k1, n1, k2, n2, k3, n3, k4, rb, kb, rl, rs, ks, gCC, t04, h0, f2, o]
    · cases hq : decide (0 ≤ bal s.1 x nb) with
      | false => rfl
      | true =>
        have := anti 0 x (by omega) hq
        rw [hp0] at this
        cases this
  | true =>
    have o := ow 0 (by omega)
    rw [hp0, bIt] at o
    obtain ⟨r, r1, r2, r3, r4⟩ := x6_steady_loop w0 z0 k0 ow anti 13 0 FU (by decide) (by omega) hp0 (fun x hx _ => by
      have e : pw 13 = 8192 := rfl
      omega) (FU_gt (by omega))
    have e13 : pw 13 = 8192 := rfl
    rw [e13] at r4
    refine ⟨nI r, ?_, ref (nI r) _ (gdm_at (p := fun x => decide (0 ≤ bal s.1 x nb)) r2 (by omega) (fun x hx hp => r3 x (by omega) hp)) (if_pos (by
      rw [nI_leI (by omega) (by omega)]
      omega))⟩
    unfold fn_X6_steadyMelt
    simp (disch := omega) only [↓cal_w6, ↓cal_w7, ↓lm1, l0, l1, l2, l3, l4, l5, l6, l7, l8, l9, l10, l11, l12, l13, l14, l31, l32, l44, l48, l50, l57, l59, l60, l74, l100, l110, l126, l300, l330, l500, l501, l801, l1000, l5000, l5010, l8010, l8192, l9000, l10000, l1000000, and_self, and_true, true_and, and_false, false_and, nI_add, pk_mul, nI_clamp, ↓reduceIte, eF, lT, lF, leT, leF, chk_d, chk_t, chk_inb, rfm_s, bnd_e, cal_e, calR_e, l8192, ↓chk_q w0, ↓rfm_q z0, ↓chk_q k0, w0, z0, k0, r00, r01, r02, r03, k1, n1, k2, n2, k3, n3, k4, rb, kb, rl, rs, ks, gCC, t04, h0, f2, o, r4]
