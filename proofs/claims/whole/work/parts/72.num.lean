/-! a text read: digits, a number and the sign behind it -/
def dgB (tx : Nat → Nat) (tl a : Nat) : Bool := decide (a < tl ∧ 48 ≤ tx a ∧ tx a ≤ 57)
def dr (tx : Nat → Nat) (tl : Nat) : Nat → Nat → Nat
  | 0, a => a
  | k + 1, a => if dgB tx tl a = true then dr tx tl k (a + 1) else a
theorem dr_t {tx : Nat → Nat} {tl k a : Nat} (h : dgB tx tl a = true) : dr tx tl (k + 1) a = dr tx tl k (a + 1) := if_pos h
theorem dr_f {tx : Nat → Nat} {tl k a : Nat} (h : dgB tx tl a = false) : dr tx tl (k + 1) a = a := if_neg (by rw [h]; decide)
theorem dr_b {tx : Nat → Nat} {tl : Nat} : ∀ (k a : Nat), a ≤ dr tx tl k a ∧ dr tx tl k a ≤ a + k ∧ (∀ x, a ≤ x → x < dr tx tl k a → dgB tx tl x = true) ∧ (dr tx tl k a < a + k → dgB tx tl (dr tx tl k a) = false) := by
  intro k
  induction k with
  | zero =>
    intro a
    have e : dr tx tl 0 a = a := rfl
    rw [e]
    exact ⟨by omega, by omega, fun x h1 h2 => by omega, fun h => by omega⟩
  | succ k ih =>
    intro a
    cases h : dgB tx tl a with
    | true =>
      rw [dr_t h]
      obtain ⟨a1, a2, a3, a4⟩ := ih (a + 1)
      refine ⟨by omega, by omega, fun x h1 h2 => ?_, fun h => a4 (by omega)⟩
      by_cases e : x = a
      · rw [e]
        exact h
      · exact a3 x (by omega) h2
    | false =>
      rw [dr_f h]
      exact ⟨by omega, by omega, fun x h1 h2 => by omega, fun _ => h⟩
theorem dg_lt {tx : Nat → Nat} {tl a : Nat} (h : dgB tx tl a = true) : a < tl ∧ 48 ≤ tx a ∧ tx a ≤ 57 := of_decide_eq_true h
/-- a number begins at a, and the sign ch stands behind it: where -/
def pN (tx : Nat → Nat) (tl ch a : Nat) : Option Nat := if a < dr tx tl 4 a ∧ dr tx tl 4 a < tl ∧ tx (dr tx tl 4 a) = ch then some (dr tx tl 4 a) else none
theorem pN_s {tx : Nat → Nat} {tl ch a e : Nat} (h : pN tx tl ch a = some e) : e = dr tx tl 4 a ∧ a < e ∧ e < tl ∧ tx e = ch ∧ e ≤ a + 4 ∧ ∀ x, a ≤ x → x < e → 48 ≤ tx x ∧ tx x ≤ 57 := by
  unfold pN at h
  obtain ⟨b1, b2, b3, b4⟩ := dr_b (tx := tx) (tl := tl) 4 a
  split at h
  · rename_i hc
    cases h
    exact ⟨rfl, hc.1, hc.2.1, hc.2.2, b2, fun x h1 h2 => (dg_lt (b3 x h1 h2)).2⟩
  · cases h
/-- the class's end of a number -/
theorem x4_isDigit {ad : Nat → Nat} {T : Ty} {R : Rm} (X : XG ad T R) {M : Mm} {tl : Nat} {tx : Nat → Nat} (ct : CT ad M tl tx) {a : Nat} (ha : a < tl) : fn_X4_isDigitAt T R (ad 207) (nI a) M = some (bI (dgB tx tl a), M) := by
  obtain ⟨x1, x2, x3, x4⟩ := X
  obtain ⟨ct1, ct2, ct3, ct4⟩ := ct
  have c3 := ct3 a ha
  have c4 := ct4 a ha
  unfold fn_X4_isDigitAt
  by_cases h1 : 48 ≤ tx a
  · by_cases h2 : tx a ≤ 57
    · have e : dgB tx tl a = true := decide_eq_true ⟨ha, h1, h2⟩
      rw [e]
      simp (disch := omega) only [↓cal_w6, ↓cal_w7, ↓lm1, l0, l1, l2, l3, l4, l5, l6, l7, l8, l9, l10, l11, l12, l13, l14, l31, l32, l44, l48, l50, l57, l59, l60, l74, l100, l110, l126, l300, l330, l500, l501, l801, l1000, l5000, l5010, l8010, l8192, l9000, l10000, l1000000, and_self, and_true, true_and, and_false, false_and, nI_add, pk_mul, nI_clamp, ↓reduceIte, eF, lT, lF, leT, leF, chk_d, chk_t, chk_inb, rfm_s, bnd_e, cal_e, calR_e, x1, x2, x3, x4, ct1, c3, bI, cond_true]
    · have e : dgB tx tl a = false := decide_eq_false (fun h => h2 h.2.2)
      rw [e]
      simp (disch := omega) only [↓cal_w6, ↓cal_w7, ↓lm1, l0, l1, l2, l3, l4, l5, l6, l7, l8, l9, l10, l11, l12, l13, l14, l31, l32, l44, l48, l50, l57, l59, l60, l74, l100, l110, l126, l300, l330, l500, l501, l801, l1000, l5000, l5010, l8010, l8192, l9000, l10000, l1000000, and_self, and_true, true_and, and_false, false_and, nI_add, pk_mul, nI_clamp, ↓reduceIte, eF, lT, lF, leT, leF, chk_d, chk_t, chk_inb, rfm_s, bnd_e, cal_e, calR_e, x1, x2, x3, x4, ct1, c3, bI, cond_false]
  · have e : dgB tx tl a = false := decide_eq_false (fun h => h1 h.2.1)
    rw [e]
    simp (disch := omega) only [↓cal_w6, ↓cal_w7, ↓lm1, l0, l1, l2, l3, l4, l5, l6, l7, l8, l9, l10, l11, l12, l13, l14, l31, l32, l44, l48, l50, l57, l59, l60, l74, l100, l110, l126, l300, l330, l500, l501, l801, l1000, l5000, l5010, l8010, l8192, l9000, l10000, l1000000, and_self, and_true, true_and, and_false, false_and, nI_add, pk_mul, nI_clamp, ↓reduceIte, eF, lT, lF, leT, leF, chk_d, chk_t, chk_inb, rfm_s, bnd_e, cal_e, calR_e, x1, x2, x3, x4, ct1, c3, bI, cond_false]
theorem x4_end_loop {ad : Nat → Nat} {T : Ty} {R : Rm} (X : XG ad T R) {M : Mm} {tl : Nat} {tx : Nat → Nat} (ct : CT ad M tl tx) (a : Int32) (j24 : Int32 → Mm → Option (Int32 × Mm)) : ∀ k x fuel, x + k = tl → k < fuel → fb_X4_endOfNumber_2 T R (ad 207) a j24 fuel (nI x) M = j24 (nI (dr tx tl k x)) M := by
  have x1 := X.1
  have ct1 := ct.1
  have ct2 := ct.2.1
  intro k
  induction k with
  | zero =>
    intro x fuel h1 hf
    obtain ⟨n', rfl⟩ : ∃ n', fuel = n' + 1 := ⟨fuel - 1, by omega⟩
    have e : dr tx tl 0 x = x := rfl
    rw [fbs_X4_endOfNumber_2, e]
    unfold fs_X4_endOfNumber_2
    simp (disch := omega) only [↓cal_w6, ↓cal_w7, ↓lm1, l0, l1, l2, l3, l4, l5, l6, l7, l8, l9, l10, l11, l12, l13, l14, l31, l32, l44, l48, l50, l57, l59, l60, l74, l100, l110, l126, l300, l330, l500, l501, l801, l1000, l5000, l5010, l8010, l8192, l9000, l10000, l1000000, and_self, and_true, true_and, and_false, false_and, nI_add, pk_mul, nI_clamp, ↓reduceIte, eF, lT, lF, leT, leF, chk_d, chk_t, chk_inb, rfm_s, bnd_e, cal_e, calR_e, x1, ct1]
  | succ k ih =>
    intro x fuel h1 hf
    obtain ⟨n', rfl⟩ : ∃ n', fuel = n' + 1 := ⟨fuel - 1, by omega⟩
    have d := x4_isDigit X ct (a := x) (by omega)
    cases hd : dgB tx tl x with
    | true =>
      rw [hd, bIt] at d
      have ih' := ih (x + 1) n' (by omega) (by omega)
      rw [dr_t hd, ← ih', fbs_X4_endOfNumber_2]
      unfold fs_X4_endOfNumber_2
      simp (disch := omega) only [↓cal_w6, ↓cal_w7, ↓lm1, l0, l1, l2, l3, l4, l5, l6, l7, l8, l9, l10, l11, l12, l13, l14, l31, l32, l44, l48, l50, l57, l59, l60, l74, l100, l110, l126, l300, l330, l500, l501, l801, l1000, l5000, l5010, l8010, l8192, l9000, l10000, l1000000, and_self, and_true, true_and, and_false, false_and, nI_add, pk_mul, nI_clamp, ↓reduceIte, eF, lT, lF, leT, leF, chk_d, chk_t, chk_inb, rfm_s, bnd_e, cal_e, calR_e, x1, ct1, d]
    | false =>
      rw [hd, bIf] at d
      rw [dr_f hd, fbs_X4_endOfNumber_2]
      unfold fs_X4_endOfNumber_2
      simp (disch := omega) only [↓cal_w6, ↓cal_w7, ↓lm1, l0, l1, l2, l3, l4, l5, l6, l7, l8, l9, l10, l11, l12, l13, l14, l31, l32, l44, l48, l50, l57, l59, l60, l74, l100, l110, l126, l300, l330, l500, l501, l801, l1000, l5000, l5010, l8010, l8192, l9000, l10000, l1000000, and_self, and_true, true_and, and_false, false_and, nI_add, pk_mul, nI_clamp, ↓reduceIte, eF, lT, lF, leT, leF, chk_d, chk_t, chk_inb, rfm_s, bnd_e, cal_e, calR_e, x1, ct1, d]
theorem x4_end {ad : Nat → Nat} {T : Ty} {R : Rm} (X : XG ad T R) {M : Mm} {tl : Nat} {tx : Nat → Nat} (ct : CT ad M tl tx) {a : Nat} (ha : a ≤ tl) : fn_X4_endOfNumber T R (ad 207) (nI a) M = some (if 1 ≤ dr tx tl (tl - a) a - a ∧ dr tx tl (tl - a) a - a ≤ 4 then nI (dr tx tl (tl - a) a) else nONE, M) := by
  have lo := x4_end_loop X ct (nI a) (fs_X4_endOfNumber_24 T R (ad 207) (nI a)) (tl - a) a FU (by omega) (FU_gt (by have := ct.2.1; omega))
  obtain ⟨b1, b2, -, -⟩ := dr_b (tx := tx) (tl := tl) (tl - a) a
  have ct2 := ct.2.1
  unfold fn_X4_endOfNumber
  rw [lo]
  unfold fs_X4_endOfNumber_24
  generalize dr tx tl (tl - a) a = E at *
  by_cases h1 : 1 ≤ E - a
  · by_cases h2 : E - a ≤ 4
    · rw [if_pos (And.intro h1 h2)]
      simp (disch := omega) only [↓cal_w6, ↓cal_w7, ↓lm1, l0, l1, l2, l3, l4, l5, l6, l7, l8, l9, l10, l11, l12, l13, l14, l31, l32, l44, l48, l50, l57, l59, l60, l74, l100, l110, l126, l300, l330, l500, l501, l801, l1000, l5000, l5010, l8010, l8192, l9000, l10000, l1000000, and_self, and_true, true_and, and_false, false_and, nI_add, pk_mul, nI_clamp, ↓reduceIte, eF, lT, lF, leT, leF, chk_d, chk_t, chk_inb, rfm_s, bnd_e, cal_e, calR_e, nIs]
    · rw [if_neg (c := 1 ≤ E - a ∧ E - a ≤ 4) (fun h => h2 h.2)]
      simp (disch := omega) only [↓cal_w6, ↓cal_w7, ↓lm1, l0, l1, l2, l3, l4, l5, l6, l7, l8, l9, l10, l11, l12, l13, l14, l31, l32, l44, l48, l50, l57, l59, l60, l74, l100, l110, l126, l300, l330, l500, l501, l801, l1000, l5000, l5010, l8010, l8192, l9000, l10000, l1000000, and_self, and_true, true_and, and_false, false_and, nI_add, pk_mul, nI_clamp, ↓reduceIte, eF, lT, lF, leT, leF, chk_d, chk_t, chk_inb, rfm_s, bnd_e, cal_e, calR_e, nIs]
  · rw [if_neg (c := 1 ≤ E - a ∧ E - a ≤ 4) (fun h => h1 h.1)]
    simp (disch := omega) only [↓cal_w6, ↓cal_w7, ↓lm1, l0, l1, l2, l3, l4, l5, l6, l7, l8, l9, l10, l11, l12, l13, l14, l31, l32, l44, l48, l50, l57, l59, l60, l74, l100, l110, l126, l300, l330, l500, l501, l801, l1000, l5000, l5010, l8010, l8192, l9000, l10000, l1000000, and_self, and_true, true_and, and_false, false_and, nI_add, pk_mul, nI_clamp, ↓reduceIte, eF, lT, lF, leT, leF, chk_d, chk_t, chk_inb, rfm_s, bnd_e, cal_e, calR_e, nIs]
theorem x4_sign {ad : Nat → Nat} {T : Ty} {R : Rm} (X : XG ad T R) {M : Mm} {tl : Nat} {tx : Nat → Nat} (ct : CT ad M tl tx) {e ch : Nat} (he : e ≤ 60) (hch : ch ≤ 126) : fn_X4_isSignAt T R (ad 207) (nI e) (nI ch) M = some (bI (decide (e < tl ∧ tx e = ch)), M) := by
  obtain ⟨x1, x2, x3, x4⟩ := X
  obtain ⟨ct1, ct2, ct3, ct4⟩ := ct
  unfold fn_X4_isSignAt
  by_cases h1 : e < tl
  · have c3 := ct3 e h1
    have c4 := ct4 e h1
    by_cases h2 : tx e = ch
    · rw [decide_eq_true (And.intro h1 h2)]
      rw [h2] at c3
      simp (disch := omega) only [↓cal_w6, ↓cal_w7, ↓lm1, l0, l1, l2, l3, l4, l5, l6, l7, l8, l9, l10, l11, l12, l13, l14, l31, l32, l44, l48, l50, l57, l59, l60, l74, l100, l110, l126, l300, l330, l500, l501, l801, l1000, l5000, l5010, l8010, l8192, l9000, l10000, l1000000, and_self, and_true, true_and, and_false, false_and, nI_add, pk_mul, nI_clamp, ↓reduceIte, eF, lT, lF, leT, leF, chk_d, chk_t, chk_inb, rfm_s, bnd_e, cal_e, calR_e, x1, x2, x3, x4, ct1, c3, bI, cond_true]
    · rw [decide_eq_false (fun h => h2 h.2)]
      simp (disch := omega) only [↓cal_w6, ↓cal_w7, ↓lm1, l0, l1, l2, l3, l4, l5, l6, l7, l8, l9, l10, l11, l12, l13, l14, l31, l32, l44, l48, l50, l57, l59, l60, l74, l100, l110, l126, l300, l330, l500, l501, l801, l1000, l5000, l5010, l8010, l8192, l9000, l10000, l1000000, and_self, and_true, true_and, and_false, false_and, nI_add, pk_mul, nI_clamp, ↓reduceIte, eF, lT, lF, leT, leF, chk_d, chk_t, chk_inb, rfm_s, bnd_e, cal_e, calR_e, x1, x2, x3, x4, ct1, c3, bI, cond_false]
  · rw [decide_eq_false (fun h => h1 h.1)]
    simp (disch := omega) only [↓cal_w6, ↓cal_w7, ↓lm1, l0, l1, l2, l3, l4, l5, l6, l7, l8, l9, l10, l11, l12, l13, l14, l31, l32, l44, l48, l50, l57, l59, l60, l74, l100, l110, l126, l300, l330, l500, l501, l801, l1000, l5000, l5010, l8010, l8192, l9000, l10000, l1000000, and_self, and_true, true_and, and_false, false_and, nI_add, pk_mul, nI_clamp, ↓reduceIte, eF, lT, lF, leT, leF, chk_d, chk_t, chk_inb, rfm_s, bnd_e, cal_e, calR_e, x1, x2, x3, x4, ct1, bI, cond_false]
theorem x4_signN {ad : Nat → Nat} {T : Ty} {R : Rm} (M : Mm) (x : Int32) : fn_X4_isSignAt T R (ad 207) nONE x M = some (nI 0, M) := by
  unfold fn_X4_isSignAt
  simp (disch := omega) only [↓cal_w6, ↓cal_w7, ↓lm1, l0, l1, l2, l3, l4, l5, l6, l7, l8, l9, l10, l11, l12, l13, l14, l31, l32, l44, l48, l50, l57, l59, l60, l74, l100, l110, l126, l300, l330, l500, l501, l801, l1000, l5000, l5010, l8010, l8192, l9000, l10000, l1000000, and_self, and_true, true_and, and_false, false_and, nI_add, pk_mul, nI_clamp, ↓reduceIte, eF, lT, lF, leT, leF, chk_d, chk_t, chk_inb, rfm_s, bnd_e, cal_e, calR_e, nONE_lt]
/-- the class finds a number and the sign behind it just where the reference does -/
theorem x4_num {ad : Nat → Nat} {T : Ty} {R : Rm} (X : XG ad T R) {M : Mm} {tl : Nat} {tx : Nat → Nat} (ct : CT ad M tl tx) {a ch : Nat} (ha : a ≤ tl) (hch : ch ≤ 126) (hnd : ch < 48 ∨ 57 < ch) : ∃ r, fn_X4_endOfNumber T R (ad 207) (nI a) M = some (r, M) ∧ fn_X4_isSignAt T R (ad 207) r (nI ch) M = some (bI (pN tx tl ch a).isSome, M) ∧ ∀ e, pN tx tl ch a = some e → r = nI e := by
  have ct2 := ct.2.1
  have en := x4_end X ct ha
  obtain ⟨b1, b2, b3, b4⟩ := dr_b (tx := tx) (tl := tl) (tl - a) a
  obtain ⟨d1, d2, d3, d4⟩ := dr_b (tx := tx) (tl := tl) 4 a
  have nE : dgB tx tl (dr tx tl (tl - a) a) = false := by
    cases h : dgB tx tl (dr tx tl (tl - a) a) with
    | false => rfl
    | true =>
      have h1 := (dg_lt h).1
      rw [b4 (by omega)] at h
      cases h
  by_cases h : 1 ≤ dr tx tl (tl - a) a - a ∧ dr tx tl (tl - a) a - a ≤ 4
  · have ee : dr tx tl 4 a = dr tx tl (tl - a) a := by
      rcases Nat.lt_trichotomy (dr tx tl 4 a) (dr tx tl (tl - a) a) with h1 | h1 | h1
      · have h2 := b3 _ d1 h1
        rw [d4 (by omega)] at h2
        cases h2
      · exact h1
      · have h2 := d3 _ b1 h1
        rw [nE] at h2
        cases h2
    rw [if_pos h] at en
    refine ⟨_, en, ?_, fun e he => ?_⟩
    · rw [x4_sign X ct (by omega) hch]
      unfold pN
      rw [ee]
      by_cases h1 : dr tx tl (tl - a) a < tl ∧ tx (dr tx tl (tl - a) a) = ch
      · rw [decide_eq_true h1, if_pos ⟨by omega, h1⟩]
        rfl
      · rw [decide_eq_false h1, if_neg (fun h2 => h1 h2.2)]
        rfl
    · rw [(pN_s he).1, ee]
  · rw [if_neg h] at en
    have hn : pN tx tl ch a = none := by
      refine if_neg (fun h2 => ?_)
      by_cases h3 : dr tx tl (tl - a) a = a
      · have h4 := d3 a (by omega) h2.1
        rw [h3] at nE
        rw [nE] at h4
        cases h4
      · have h4 := (dg_lt (b3 (dr tx tl 4 a) d1 (by omega))).2
        rw [h2.2.2] at h4
        omega
    refine ⟨nONE, en, ?_, fun e he => ?_⟩
    · rw [x4_signN, hn]
      rfl
    · rw [hn] at he
      cases he
/-- the number of k digits from a on -/
def nm (tx : Nat → Nat) (a : Nat) : Nat → Nat
  | 0 => 0
  | k + 1 => 10 * nm tx a k + (tx (a + k) - 48)
theorem nm_s (tx : Nat → Nat) (a k : Nat) : nm tx a (k + 1) = 10 * nm tx a k + (tx (a + k) - 48) := rfl
theorem nm_lt {tx : Nat → Nat} {a : Nat} : ∀ {k : Nat}, (∀ x, a ≤ x → x < a + k → 48 ≤ tx x ∧ tx x ≤ 57) → nm tx a k + 1 ≤ 10 ^ k := by
  intro k
  induction k with
  | zero => exact fun _ => Nat.le_refl _
  | succ k ih =>
    intro h
    have h1 := ih (fun x a b => h x a (by omega))
    have h2 := h (a + k) (by omega) (by omega)
    rw [nm_s, Nat.pow_succ]
    omega
theorem nm_4 {tx : Nat → Nat} {a k : Nat} (hk : k ≤ 4) (h : ∀ x, a ≤ x → x < a + k → 48 ≤ tx x ∧ tx x ≤ 57) : nm tx a k ≤ 9999 := by
  have h1 := nm_lt h
  have h2 : 10 ^ k ≤ 10 ^ 4 := Nat.pow_le_pow_right (by omega) hk
  have h3 : (10 : Nat) ^ 4 = 10000 := rfl
  omega
/-- the class reads a number -/
theorem x4_numberAt {ad : Nat → Nat} {T : Ty} {R : Rm} (X : XG ad T R) {M : Mm} {tl : Nat} {tx : Nat → Nat} (ct : CT ad M tl tx) {a e ch : Nat} (ha : a ≤ tl) (hch : ch ≤ 126) (hnd : ch < 48 ∨ 57 < ch) (hp : pN tx tl ch a = some e) : fn_X4_numberAt T R (ad 207) (nI a) M = some (nI (nm tx a (e - a)), M) := by
  obtain ⟨r, q1, q2, q3⟩ := x4_num X ct ha hch hnd
  rw [q3 e hp] at q1
  obtain ⟨p1, p2, p3, p4, p5, p6⟩ := pN_s hp
  obtain ⟨x1, x2, x3, x4⟩ := X
  obtain ⟨ct1, ct2, ct3, ct4⟩ := ct
  have key : ∀ d k fuel, k + d = e - a → d < fuel → fb_X4_numberAt_11 T R (ad 207) (nI a) fuel (nI e) (nI (nm tx a k)) (nI (a + k)) M = some (nI (nm tx a (e - a)), M) := by
    intro d
    induction d with
    | zero =>
      intro k fuel h1 hf
      obtain ⟨n', rfl⟩ : ∃ n', fuel = n' + 1 := ⟨fuel - 1, by omega⟩
      obtain rfl : k = e - a := by omega
      rw [fbs_X4_numberAt_11]
      unfold fs_X4_numberAt_11
      simp (disch := omega) only [↓cal_w6, ↓cal_w7, ↓lm1, l0, l1, l2, l3, l4, l5, l6, l7, l8, l9, l10, l11, l12, l13, l14, l31, l32, l44, l48, l50, l57, l59, l60, l74, l100, l110, l126, l300, l330, l500, l501, l801, l1000, l5000, l5010, l8010, l8192, l9000, l10000, l1000000, and_self, and_true, true_and, and_false, false_and, nI_add, pk_mul, nI_clamp, ↓reduceIte, eF, lT, lF, leT, leF, chk_d, chk_t, chk_inb, rfm_s, bnd_e, cal_e, calR_e]
    | succ d ih =>
      intro k fuel h1 hf
      obtain ⟨n', rfl⟩ : ∃ n', fuel = n' + 1 := ⟨fuel - 1, by omega⟩
      have ih' := ih (k + 1) n' (by omega) (by omega)
      have c3 := ct3 (a + k) (by omega)
      obtain ⟨c4, c5⟩ := p6 (a + k) (by omega) (by omega)
      have es : nI (nm tx a k * 10) + (nI (tx (a + k)) - nI 48) = nI (nm tx a (k + 1)) := by
        rw [nIs c4, nI_add, nm_s, Nat.mul_comm]
      rw [← ih', fbs_X4_numberAt_11]
      unfold fs_X4_numberAt_11
      simp (disch := omega) only [↓cal_w6, ↓cal_w7, ↓lm1, l0, l1, l2, l3, l4, l5, l6, l7, l8, l9, l10, l11, l12, l13, l14, l31, l32, l44, l48, l50, l57, l59, l60, l74, l100, l110, l126, l300, l330, l500, l501, l801, l1000, l5000, l5010, l8010, l8192, l9000, l10000, l1000000, and_self, and_true, true_and, and_false, false_and, nI_add, pk_mul, nI_clamp, ↓reduceIte, eF, lT, lF, leT, leF, chk_d, chk_t, chk_inb, rfm_s, bnd_e, cal_e, calR_e, x1, x2, x3, x4, c3, es, Nat.add_assoc]
  have k0 := key (e - a) 0 FU (by omega) (FU_gt (by omega))
  have e0 : nm tx a 0 = 0 := rfl
  rw [e0, Nat.add_zero] at k0
  unfold fn_X4_numberAt
  simp (disch := omega) only [↓cal_w6, ↓cal_w7, ↓lm1, l0, l1, l2, l3, l4, l5, l6, l7, l8, l9, l10, l11, l12, l13, l14, l31, l32, l44, l48, l50, l57, l59, l60, l74, l100, l110, l126, l300, l330, l500, l501, l801, l1000, l5000, l5010, l8010, l8192, l9000, l10000, l1000000, and_self, and_true, true_and, and_false, false_and, nI_add, pk_mul, nI_clamp, ↓reduceIte, eF, lT, lF, leT, leF, chk_d, chk_t, chk_inb, rfm_s, bnd_e, cal_e, calR_e, x1, q1, k0]
