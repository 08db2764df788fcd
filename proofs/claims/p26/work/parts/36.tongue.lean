/-! the class's tongue: its cells, and what it is to the reference's state -/
def TG (T : Ty) (R : Rm) (q : Nat → Nat) (σ : Nat → Nat) : Prop := (∀ a b : Nat, (q a = q b) = (a = b)) ∧ isK T (q 0) 5 = true ∧ R (q 0) 0 = some (q 1) ∧ R (q 0) 1 = some (q 2) ∧ R (q 0) 2 = some (q 3) ∧ R (q 0) 3 = some (q 4) ∧ isK T (q 1) 9 = true ∧ lnT T (q 1) = 7 ∧ isK T (q 2) 11 = true ∧ lnT T (q 2) = 10 ∧ isK T (q 3) 12 = true ∧ lnT T (q 3) = 6 ∧ isK T (q 4) 1 = true ∧ (∀ i, i < 10 → R (q 2) i = some (q (5 + 3 * i))) ∧ (∀ i, i < 10 → isK T (q (5 + 3 * i)) 0 = true) ∧ (∀ i, i < 10 → R (q (5 + 3 * i)) 0 = some (q (5 + 3 * i + 1))) ∧ (∀ i, i < 10 → LG T R q (5 + 3 * i + 1)) ∧ (∀ j, j < 6 → R (q 3) j = some (q (35 + σ j))) ∧ (∀ j, j < 6 → isK T (q (35 + j)) 3 = true) ∧ (∀ j, j < 6 → σ j < 6) ∧ (∀ i j, i < 6 → j < 6 → σ i = σ j → i = j)
def RT (Q : Nat → Prop) (σ : Nat → Nat) (c : Nat → Nat → Int32) (l : Nat → Int64) (s : Sx) : Prop := (∀ k, k < 7 → c 1 k = s.1 k) ∧ c 0 4 = s.1 8 ∧ c 0 5 = s.1 9 ∧ c 0 6 = s.1 7 ∧ c 4 0 = s.1 10 ∧ c 4 1 = s.1 11 ∧ c 4 2 = s.1 12 ∧ (s.1 12 ≠ nI 0 → c 4 3 = s.1 13) ∧ (∀ k, k < 4 → l (7 + k) = s.2.2 k) ∧ (∀ b, b < nt (s.1 8) → (∀ k, k < 5 → c (5 + 3 * b) (k + 1) = s.1 (14 + 6 * b + k)) ∧ (Q b → c (5 + 3 * b) 6 = s.1 (14 + 6 * b + 5)) ∧ LY c (5 + 3 * b + 1) (s.2.1 b)) ∧ (∀ i, i < nt (s.1 9) → ∀ k, k < 6 → c (35 + σ i) k = s.1 (74 + 6 * i + k))
theorem i32_neg {x : Int32} : (0 ≤ x ^^^ nI 100) = (0 ≤ x) := by
  have h1 : ∀ y : Int32, (0 ≤ y) = (y.toBitVec.msb = false) := fun y => by
    rw [eq_iff_iff, Int32.le_iff_toInt_le, BitVec.msb_eq_toInt, Int32.toInt_toBitVec]
    have : (0 : Int32).toInt = 0 := by decide
    rw [this]
    constructor
    · intro h
      exact decide_eq_false (by omega)
    · intro h
      have := of_decide_eq_false h
      omega
  rw [h1, h1, Int32.toBitVec_xor, BitVec.msb_xor]
  have : (nI 100).toBitVec.msb = false := by decide
  rw [this, Bool.xor_false]
theorem j9_floor {T : Ty} {R : Rm} {x : Int32} {M : Mm} {z : Int} (hx : x.toInt = z) (h1 : -1000000000 ≤ z) (h2 : z ≤ 1000000000) : fn_J9_floorDiv_7cf53 T R x (nI 100) M = some (zI (z / 100), M) := by
  have t100 : (nI 100).toInt = 100 := by decide
  have t1 : (1 : Int32).toInt = 1 := by decide
  have t0 : (0 : Int32).toInt = 0 := by decide
  have hne : decide (¬ nI 100 = 0) = true := by decide
  have hte := Int.tdiv_eq_ediv (a := z) (b := 100)
  have hsg : Int.sign 100 = 1 := by decide
  rw [hsg] at hte
  have hd : (x / nI 100).toInt = z.tdiv 100 := by
    rw [Int32.toInt_div, hx, t100, bm32]
    · split at hte <;> omega
    · split at hte <;> omega
  unfold fn_J9_floorDiv_7cf53
  simp only [hne, chk_t, bnd_e, i32_neg]
  by_cases h : 0 ≤ x
  · rw [if_pos h]
    have hz : 0 ≤ z := by
      have := Int32.le_iff_toInt_le.mp h
      rw [hx, t0] at this
      exact this
    rw [if_pos (.inl hz)] at hte
    rw [zI_of (hd.trans (show z.tdiv 100 = z / 100 by omega))]
  · rw [if_neg h]
    have hz : z < 0 := by
      have := Int32.le_iff_toInt_le (x := 0) (y := x)
      rw [hx, t0] at this
      have h' := mt this.mpr h
      omega
    have hm : (x / nI 100 * nI 100).toInt = z.tdiv 100 * 100 := by
      rw [Int32.toInt_mul, hd, t100, bm32]
      · split at hte <;> omega
      · split at hte <;> omega
    by_cases hdv : (100 : Int) ∣ z
    · rw [if_pos (.inr hdv)] at hte
      have e : x / nI 100 * nI 100 = x := by
        apply Int32.toInt_inj.mp
        rw [hm, hx]
        omega
      rw [if_pos e, zI_of (hd.trans (show z.tdiv 100 = z / 100 by omega))]
    · rw [if_neg (by omega)] at hte
      have e : ¬ x / nI 100 * nI 100 = x := fun e => by
        have := congrArg Int32.toInt e
        rw [hm, hx] at this
        omega
      have e2 : (x / nI 100 - 1).toInt = z / 100 := by
        rw [Int32.toInt_sub, hd, t1, bm32 (by omega) (by omega)]
        omega
      rw [if_neg e, zI_of e2]
theorem gp32 {g mid h : Nat} (hg : g ≤ 500) (hm : mid ≤ 5000) (hh : h ≤ 5000) : (nI g * (nI h - nI mid)).toInt = (g : Int) * ((h : Int) - (mid : Int)) := by
  have h1 := gmul hg hm hh
  rw [Int32.toInt_mul, nI_toInt (by omega), pk_sub_toInt (by omega) (by omega), bm32 (by omega) (by omega)]
theorem zI_gt {z : Int} (h1 : -2147483648 ≤ z) (h2 : z < 2147483648) : (nI 0 < zI z) = (0 < z) := by
  rw [eq_iff_iff, Int32.lt_iff_toInt_lt, zI_toInt h1 h2]
  rfl
theorem x5_snowAt {T : Ty} {R : Rm} {q σ : Nat → Nat} (G : TG T R q σ) (M : Mm) {c : Nat → Nat → Int32} {l : Nat → Int64} {s g mid h : Nat} (h0 : c 1 0 = nI s) (h1 : c 1 1 = nI g) (h4 : c 1 4 = nI mid) (bs : s ≤ 5000) (bg : g ≤ 500) (bm : mid ≤ 5000) (bh : h ≤ 5000) : fn_X5_snowAt T R (q 0) (nI h) (TV q M c l) = some (nI (snN s g mid h), TV q M c l) := by
  obtain ⟨hq, k0, r00, r01, r02, r03, k1, n1, k2, n2, k3, n3, k4, rb, kb, rl, lg, rs, ks, sl, si⟩ := G
  have e2 := fun (M : Mm) => j9_floor (T := T) (R := R) (M := M) (gp32 bg bm bh) (by have := gmul bg bm bh; omega) (by have := gmul bg bm bh; omega)
  have hz := gz_in bg bm bh
  unfold fn_X5_snowAt
  simp (disch := omega) only [↓lm1, l0, l1, l2, l3, l4, l5, l6, l7, l8, l9, l10, l11, l12, l13, l14, l31, l32, l44, l48, l50, l57, l59, l60, l74, l100, l110, l126, l300, l330, l500, l501, l801, l1000, l5000, l5010, l8010, l8192, l9000, l10000, l1000000, nI_add, pk_mul, nI_clamp, nI_leI, nI_ltI, nI_eq, chk_d, chk_t, chk_inb, rfm_s, bnd_e, cal_e, calR_e, if_pos, if_neg, k0, r00, r01, r02, r03, k1, n1, k2, n2, k3, n3, k4, rb, kb, rl, rs, ks, TV_g hq, h0, h1, h4, e2]
  unfold gz at hz
  rw [zI_add]
  unfold snN gz
  by_cases hp : (0 : Int) < (s : Int) + ((g : Int) * ((h : Int) - (mid : Int))) / 100
  · simp only [zI_gt (z := (s : Int) + ((g : Int) * ((h : Int) - (mid : Int))) / 100) (by omega) (by omega), hp, if_true]
    rw [zI_toNat (by omega)]
  · simp only [zI_gt (z := (s : Int) + ((g : Int) * ((h : Int) - (mid : Int))) / 100) (by omega) (by omega), hp, if_false]
    rw [Int.toNat_of_nonpos (by omega)]
theorem x5_meltAt {T : Ty} {R : Rm} {q σ : Nat → Nat} (G : TG T R q σ) (M : Mm) {c : Nat → Nat → Int32} {l : Nat → Int64} {s g mid h : Nat} (h1 : c 1 3 = nI g) (h4 : c 1 4 = nI mid) (bs : s ≤ 9000) (bg : g ≤ 500) (bm : mid ≤ 5000) (bh : h ≤ 5000) : fn_X5_meltAt T R (q 0) (nI h) (nI s) (TV q M c l) = some (nI (mlN s g mid h), TV q M c l) := by
  obtain ⟨hq, k0, r00, r01, r02, r03, k1, n1, k2, n2, k3, n3, k4, rb, kb, rl, lg, rs, ks, sl, si⟩ := G
  have e2 := fun (M : Mm) => j9_floor (T := T) (R := R) (M := M) (gp32 bg bm bh) (by have := gmul bg bm bh; omega) (by have := gmul bg bm bh; omega)
  have hz := gz_in bg bm bh
  unfold fn_X5_meltAt
  simp (disch := omega) only [↓lm1, l0, l1, l2, l3, l4, l5, l6, l7, l8, l9, l10, l11, l12, l13, l14, l31, l32, l44, l48, l50, l57, l59, l60, l74, l100, l110, l126, l300, l330, l500, l501, l801, l1000, l5000, l5010, l8010, l8192, l9000, l10000, l1000000, nI_add, pk_mul, nI_clamp, nI_leI, nI_ltI, nI_eq, chk_d, chk_t, chk_inb, rfm_s, bnd_e, cal_e, calR_e, if_pos, if_neg, k0, r00, r01, r02, r03, k1, n1, k2, n2, k3, n3, k4, rb, kb, rl, rs, ks, TV_g hq, h1, h4, e2]
  unfold gz at hz
  rw [zI_sub]
  unfold mlN gz
  by_cases hp : (0 : Int) < (s : Int) - ((g : Int) * ((h : Int) - (mid : Int))) / 100
  · simp only [zI_gt (z := (s : Int) - ((g : Int) * ((h : Int) - (mid : Int))) / 100) (by omega) (by omega), hp, if_true]
    rw [zI_toNat (by omega)]
  · simp only [zI_gt (z := (s : Int) - ((g : Int) * ((h : Int) - (mid : Int))) / 100) (by omega) (by omega), hp, if_false]
    rw [Int.toNat_of_nonpos (by omega)]
/-- in the terms of the state -/
theorem x5_sn {T : Ty} {R : Rm} {q σ : Nat → Nat} (G : TG T R q σ) (M : Mm) {c : Nat → Nat → Int32} {l : Nat → Int64} {m : Nat → Int32} (I : IV m) (h1 : ∀ k, k < 7 → c 1 k = m k) {b : Nat} (hb : b < nt (m 8)) : fn_X5_snowAt T R (q 0) (m (14 + 6 * b)) (TV q M c l) = some (nI (snS m b), TV q M c l) := by
  have hh := (I.2.2.2.2.2.2.2.2.2.2.1 b hb).1
  rw [hh.1]
  exact x5_snowAt G M ((h1 0 (by omega)).trans I.1.1) ((h1 1 (by omega)).trans I.2.1.1) ((h1 4 (by omega)).trans I.2.2.2.2.1.1) I.1.2.2 I.2.1.2.2 I.2.2.2.2.1.2.2 hh.2.2
def mlX (m : Nat → Int32) (x b : Nat) : Nat := mlN x (nt (m 3)) (nt (m 4)) (nt (m (14 + 6 * b)))
theorem x5_mlX {T : Ty} {R : Rm} {q σ : Nat → Nat} (G : TG T R q σ) (M : Mm) {c : Nat → Nat → Int32} {l : Nat → Int64} {m : Nat → Int32} (I : IV m) (h1 : ∀ k, k < 7 → c 1 k = m k) {b x : Nat} (hb : b < nt (m 8)) (hx : x ≤ 9000) : fn_X5_meltAt T R (q 0) (m (14 + 6 * b)) (nI x) (TV q M c l) = some (nI (mlX m x b), TV q M c l) := by
  have hh := (I.2.2.2.2.2.2.2.2.2.2.1 b hb).1
  rw [hh.1]
  unfold mlX
  exact x5_meltAt G M ((h1 3 (by omega)).trans I.2.2.2.1.1) ((h1 4 (by omega)).trans I.2.2.2.2.1.1) hx I.2.2.2.1.2.2 I.2.2.2.2.1.2.2 hh.2.2
theorem x5_ml {T : Ty} {R : Rm} {q σ : Nat → Nat} (G : TG T R q σ) (M : Mm) {c : Nat → Nat → Int32} {l : Nat → Int64} {m : Nat → Int32} (I : IV m) (h1 : ∀ k, k < 7 → c 1 k = m k) {b : Nat} (hb : b < nt (m 8)) : fn_X5_meltAt T R (q 0) (m (14 + 6 * b)) (m 2) (TV q M c l) = some (nI (mlS m b), TV q M c l) := by
  have h2 := I.2.2.1
  have := x5_mlX G M (l := l) I h1 hb h2.2.2
  rw [← h2.1] at this
  exact this

