/-! more that the class's tongue answers -/
theorem yl_first {g : Nat → Nat} {v n : Nat} (h0 : ∀ z, z < v → g z = 0) (h1 : 0 < g v) (h2 : v < n) : yl g n 0 0 = some v := by
  have e := yl_b (g := g) (i := 0) (o := v) (n := n - v) (y := 0) (fun z _ hz => h0 z (by omega))
  rw [show v + (n - v) = n by omega, Nat.zero_add] at e
  rw [e]
  obtain ⟨k, hk⟩ : ∃ k, n - v = k + 1 := ⟨n - v - 1, by omega⟩
  rw [hk]
  unfold yl
  rw [if_pos h1, if_pos rfl]
theorem x5_oldestYear {T : Ty} {R : Rm} {q σ : Nat → Nat} (G : TG T R q σ) (M : Mm) {c : Nat → Nat → Int32} {l : Nat → Int64} {s : Sx} {K Y nb ns : Nat} (g : GS K Y nb ns s) (rt : RT QT σ c l s) (ht : 0 < tot s.2.1 Y nb) : ∃ v, fn_X5_oldestYear T R (q 0) (TV q M c l) = some (nI v, TV q M c l) ∧ yl (fun y => sm (fun b => s.2.1 b y) nb) (Y + 1) 0 0 = some v := by
  have hnb := g.2.2.2.2.2.1
  have hY := g.2.2.2.2.1
  have n8 := g.2.2.2.2.2.2.2.2.1
  have g0 := g
  obtain ⟨t1, t04, t05, t06, t40, t41, t42, t43, tl, tb, ts⟩ := rt
  rw [g.2.2.1] at t04
  obtain ⟨hq, k0, r00, r01, r02, r03, k1, n1, k2, n2, k3, n3, k4, rb, kb, rl, lg, rs, ks, sl, si⟩ := G
  have e3 := fun b (h : b < 10) => (lg b h).1
  have key : ∀ d b v fuel, b + d = nb → v ≤ 801 → (∀ b', b' < b → ∀ y, y < v → s.2.1 b' y = 0) → (v = 801 ∨ ∃ b', b' < b ∧ 0 < s.2.1 b' v) → d < fuel → ∃ v', v' ≤ 801 ∧ (∀ b', b' < nb → ∀ y, y < v' → s.2.1 b' y = 0) ∧ (v' = 801 ∨ ∃ b', b' < nb ∧ 0 < s.2.1 b' v') ∧ fb_X5_oldestYear_6 T R (q 0) fuel (nI v) (nI b) (TV q M c l) = some (nI v', TV q M c l) := by
    intro d
    induction d with
    | zero =>
      intro b v fuel h1 hv h3 h4 h2
      obtain ⟨n, rfl⟩ : ∃ n', fuel = n' + 1 := ⟨fuel - 1, by omega⟩
      have e : b = nb := by omega
      subst e
      refine ⟨v, hv, h3, h4, ?_⟩
      rw [fbs_X5_oldestYear_6]
      unfold fs_X5_oldestYear_6
      simp (disch := omega) only [↓lm1, l0, l1, l2, l3, l4, l5, l6, l7, l8, l9, l10, l11, l12, l13, l14, l31, l32, l44, l48, l50, l57, l59, l60, l74, l100, l110, l126, l300, l330, l500, l501, l801, l1000, l5000, l5010, l8010, l8192, l9000, l10000, l1000000, nI_add, pk_mul, nI_clamp, nI_leI, nI_ltI, nI_eq, chk_d, chk_t, chk_inb, rfm_s, bnd_e, cal_e, calR_e, if_pos, if_neg, k0, TV_g hq, t04]
    | succ d ih =>
      intro b v fuel h1 hv h3 h4 h2
      obtain ⟨n, rfl⟩ : ∃ n', fuel = n' + 1 := ⟨fuel - 1, by omega⟩
      have hly := (tb b (by omega)).2.2
      have hst : ∃ o, o ≤ 801 ∧ c (5 + 3 * b + 1) 2 = nI o ∧ (∀ y, y < o → s.2.1 b y = 0) ∧ (o = 801 ∨ 0 < s.2.1 b o) := by
        rcases hly with ⟨h0, h⟩ | ⟨o, t, ht, h⟩
        · exact ⟨801, by omega, h.2.2.1, fun y hy => sm_0y h0 hy, .inl rfl⟩
        · obtain ⟨t1, t2, t3, t4, t5, t6⟩ := ht
          exact ⟨o, by omega, h.2.2.1, t5, .inr t3⟩
      obtain ⟨o, ho, ho2, ho3, ho4⟩ := hst
      by_cases hov : o < v
      · obtain ⟨v', r1, r2, r3, r4⟩ := ih (b + 1) o n (by omega) ho (fun b' hb' y hy => by
          by_cases e : b' = b
          · subst e
            exact ho3 y hy
          · exact h3 b' (by omega) y (by omega)) (by
          rcases ho4 with h | h
          · exact .inl h
          · exact .inr ⟨b, by omega, h⟩) (by omega)
        refine ⟨v', r1, r2, r3, ?_⟩
        rw [← r4, fbs_X5_oldestYear_6]
        unfold fs_X5_oldestYear_6
        simp (disch := omega) only [↓lm1, l0, l1, l2, l3, l4, l5, l6, l7, l8, l9, l10, l11, l12, l13, l14, l31, l32, l44, l48, l50, l57, l59, l60, l74, l100, l110, l126, l300, l330, l500, l501, l801, l1000, l5000, l5010, l8010, l8192, l9000, l10000, l1000000, nI_add, pk_mul, nI_clamp, nI_leI, nI_ltI, nI_eq, chk_d, chk_t, chk_inb, rfm_s, bnd_e, cal_e, calR_e, if_pos, if_neg, k0, r00, r01, r02, r03, k1, n1, k2, n2, k3, n3, k4, rb, kb, rl, rs, ks, e3, TV_g hq, t04, ho2]
      · obtain ⟨v', r1, r2, r3, r4⟩ := ih (b + 1) v n (by omega) hv (fun b' hb' y hy => by
          by_cases e : b' = b
          · subst e
            exact ho3 y (by omega)
          · exact h3 b' (by omega) y hy) (by
          rcases h4 with h | ⟨b', h5, h6⟩
          · exact .inl h
          · exact .inr ⟨b', by omega, h6⟩) (by omega)
        refine ⟨v', r1, r2, r3, ?_⟩
        rw [← r4, fbs_X5_oldestYear_6]
        unfold fs_X5_oldestYear_6
        simp (disch := omega) only [↓lm1, l0, l1, l2, l3, l4, l5, l6, l7, l8, l9, l10, l11, l12, l13, l14, l31, l32, l44, l48, l50, l57, l59, l60, l74, l100, l110, l126, l300, l330, l500, l501, l801, l1000, l5000, l5010, l8010, l8192, l9000, l10000, l1000000, nI_add, pk_mul, nI_clamp, nI_leI, nI_ltI, nI_eq, chk_d, chk_t, chk_inb, rfm_s, bnd_e, cal_e, calR_e, if_pos, if_neg, k0, r00, r01, r02, r03, k1, n1, k2, n2, k3, n3, k4, rb, kb, rl, rs, ks, e3, TV_g hq, t04, ho2]
  obtain ⟨v, r1, r2, r3, r4⟩ := key nb 0 801 FU (by omega) (by omega) (fun b' hb' => absurd hb' (by omega)) (.inl rfl) (FU_gt (by omega))
  have hv : v ≠ 801 := fun e => by
    have : tot s.2.1 Y nb = 0 := sm_z (fun b hb => sm_z (fun y hy => r2 b hb y (by omega)))
    omega
  obtain ⟨b', h5, h6⟩ := r3.resolve_left hv
  have hvY : v < Y + 1 := by
    refine Nat.lt_of_not_le (fun h => ?_)
    rw [GS_z g0 h5 (by omega)] at h6
    omega
  refine ⟨v, ?_, yl_first (fun z hz => sm_z (fun b hb => r2 b hb z hz)) ?_ hvY⟩
  · unfold fn_X5_oldestYear
    simp only [l0, l801]
    exact r4
  · exact Nat.lt_of_lt_of_le h6 (sm_le1 (fun b => s.2.1 b v) h5)
/-- a stake that stands at a place, among d from i on -/
def sAt (m : Nat → Int32) (b p : Int32) : Nat → Nat → Bool
  | 0, _ => false
  | d + 1, i => if m (74 + 6 * i + 4) = nI 0 ∧ m (74 + 6 * i) = b ∧ m (74 + 6 * i + 1) = p then true else sAt m b p d (i + 1)
theorem x5_isStakeAt {T : Ty} {R : Rm} {q σ : Nat → Nat} (G : TG T R q σ) (M : Mm) {c : Nat → Nat → Int32} {l : Nat → Int64} {s : Sx} {K Y nb ns : Nat} (g : GS K Y nb ns s) (rt : RT QT σ c l s) (b p : Int32) : fn_X5_isStakeAt T R (q 0) b p (TV q M c l) = some (bI (sAt s.1 b p ns 0), TV q M c l) := by
  have hns := g.2.2.2.2.2.2.1
  have n9 := g.2.2.2.2.2.2.2.2.2
  obtain ⟨t1, t04, t05, t06, t40, t41, t42, t43, tl, tb, ts⟩ := rt
  rw [g.2.2.2.1] at t05
  obtain ⟨hq, k0, r00, r01, r02, r03, k1, n1, k2, n2, k3, n3, k4, rb, kb, rl, lg, rs, ks, sl, si⟩ := G
  have key : ∀ d i fuel, i + d = ns → d < fuel → fb_X5_isStakeAt_2 T R (q 0) b p fuel (nI i) (TV q M c l) = some (bI (sAt s.1 b p d i), TV q M c l) := by
    intro d
    induction d with
    | zero =>
      intro i fuel h1 h2
      obtain ⟨n, rfl⟩ : ∃ n', fuel = n' + 1 := ⟨fuel - 1, by omega⟩
      rw [fbs_X5_isStakeAt_2]
      unfold fs_X5_isStakeAt_2
      simp (disch := omega) only [↓lm1, l0, l1, l2, l3, l4, l5, l6, l7, l8, l9, l10, l11, l12, l13, l14, l31, l32, l44, l48, l50, l57, l59, l60, l74, l100, l110, l126, l300, l330, l500, l501, l801, l1000, l5000, l5010, l8010, l8192, l9000, l10000, l1000000, nI_add, pk_mul, nI_clamp, nI_leI, nI_ltI, nI_eq, chk_d, chk_t, chk_inb, rfm_s, bnd_e, cal_e, calR_e, if_pos, if_neg, k0, TV_g hq, t05]
      rfl
    | succ d ih =>
      intro i fuel h1 h2
      obtain ⟨n, rfl⟩ : ∃ n', fuel = n' + 1 := ⟨fuel - 1, by omega⟩
      have s4 := ts i (by omega) 4 (by omega)
      have s0 := ts i (by omega) 0 (by omega)
      have s1 := ts i (by omega) 1 (by omega)
      rw [Nat.add_zero] at s0
      have kss := ks (σ i) (sl i (by omega))
      have sli := sl i (by omega)
      have ih' := ih (i + 1) n (by omega) (by omega)
      have hstep : sAt s.1 b p (d + 1) i = if s.1 (74 + 6 * i + 4) = nI 0 ∧ s.1 (74 + 6 * i) = b ∧ s.1 (74 + 6 * i + 1) = p then true else sAt s.1 b p d (i + 1) := rfl
      rw [fbs_X5_isStakeAt_2, hstep]
      by_cases h4 : s.1 (74 + 6 * i + 4) = nI 0
      · by_cases h0 : s.1 (74 + 6 * i) = b
        · by_cases h1' : s.1 (74 + 6 * i + 1) = p
          · rw [if_pos ⟨h4, h0, h1'⟩]
            unfold fs_X5_isStakeAt_2 fs_X5_isStakeAt_50
            simp (disch := omega) only [↓lm1, l0, l1, l2, l3, l4, l5, l6, l7, l8, l9, l10, l11, l12, l13, l14, l31, l32, l44, l48, l50, l57, l59, l60, l74, l100, l110, l126, l300, l330, l500, l501, l801, l1000, l5000, l5010, l8010, l8192, l9000, l10000, l1000000, nI_add, pk_mul, nI_clamp, nI_leI, nI_ltI, nI_eq, chk_d, chk_t, chk_inb, rfm_s, bnd_e, cal_e, calR_e, if_pos, if_neg, k0, r00, r01, r02, r03, k1, n1, k2, n2, k3, n3, k4, rb, kb, rl, rs, ks, TV_g hq, t05, kss, s4, h4, s0, h0, s1, h1', if_true]
            rfl
          · rw [if_neg (fun z => h1' z.2.2)]
            unfold fs_X5_isStakeAt_2 fs_X5_isStakeAt_50
            simp (disch := omega) only [↓lm1, l0, l1, l2, l3, l4, l5, l6, l7, l8, l9, l10, l11, l12, l13, l14, l31, l32, l44, l48, l50, l57, l59, l60, l74, l100, l110, l126, l300, l330, l500, l501, l801, l1000, l5000, l5010, l8010, l8192, l9000, l10000, l1000000, nI_add, pk_mul, nI_clamp, nI_leI, nI_ltI, nI_eq, chk_d, chk_t, chk_inb, rfm_s, bnd_e, cal_e, calR_e, if_pos, if_neg, k0, r00, r01, r02, r03, k1, n1, k2, n2, k3, n3, k4, rb, kb, rl, rs, ks, TV_g hq, t05, kss, s4, h4, s0, h0, s1, h1', if_true, if_false]
            exact ih'
        · rw [if_neg (fun z => h0 z.2.1)]
          unfold fs_X5_isStakeAt_2 fs_X5_isStakeAt_50
          simp (disch := omega) only [↓lm1, l0, l1, l2, l3, l4, l5, l6, l7, l8, l9, l10, l11, l12, l13, l14, l31, l32, l44, l48, l50, l57, l59, l60, l74, l100, l110, l126, l300, l330, l500, l501, l801, l1000, l5000, l5010, l8010, l8192, l9000, l10000, l1000000, nI_add, pk_mul, nI_clamp, nI_leI, nI_ltI, nI_eq, chk_d, chk_t, chk_inb, rfm_s, bnd_e, cal_e, calR_e, if_pos, if_neg, k0, r00, r01, r02, r03, k1, n1, k2, n2, k3, n3, k4, rb, kb, rl, rs, ks, TV_g hq, t05, kss, s4, h4, s0, h0, if_true, if_false]
          exact ih'
      · rw [if_neg (fun z => h4 z.1)]
        unfold fs_X5_isStakeAt_2 fs_X5_isStakeAt_50
        simp (disch := omega) only [↓lm1, l0, l1, l2, l3, l4, l5, l6, l7, l8, l9, l10, l11, l12, l13, l14, l31, l32, l44, l48, l50, l57, l59, l60, l74, l100, l110, l126, l300, l330, l500, l501, l801, l1000, l5000, l5010, l8010, l8192, l9000, l10000, l1000000, nI_add, pk_mul, nI_clamp, nI_leI, nI_ltI, nI_eq, chk_d, chk_t, chk_inb, rfm_s, bnd_e, cal_e, calR_e, if_pos, if_neg, k0, r00, r01, r02, r03, k1, n1, k2, n2, k3, n3, k4, rb, kb, rl, rs, ks, TV_g hq, t05, kss, s4, h4, if_false]
        exact ih'
  unfold fn_X5_isStakeAt
  simp only [l0]
  exact key ns 0 FU (by omega) (FU_gt (by omega))
/-- snow less melt of the first n bands -/
def bal (m : Nat → Int32) (x : Nat) : Nat → Int
  | 0 => 0
  | n + 1 => bal m x n + ((snS m n : Int) - (mlX m x n : Int))
theorem mlX_le {m : Nat → Int32} (I : IV m) {b x : Nat} (hx : x ≤ 9000) (hb : b < nt (m 8)) : mlX m x b ≤ 34000 := mlN_le hx I.2.2.2.1.2.2 I.2.2.2.2.1.2.2 (I.2.2.2.2.2.2.2.2.2.2.1 b hb).1.2.2
theorem bal_in {m : Nat → Int32} (I : IV m) {x : Nat} (hx : x ≤ 9000) : ∀ n, n ≤ nt (m 8) → -34000 * (n : Int) ≤ bal m x n ∧ bal m x n ≤ 34000 * (n : Int) := by
  intro n
  induction n with
  | zero =>
    intro _
    unfold bal
    omega
  | succ n ih =>
    intro h
    have h1 := ih (by omega)
    have h2 := snS_le I (show n < nt (m 8) by omega)
    have h3 := mlX_le I hx (show n < nt (m 8) by omega)
    unfold bal
    omega
theorem zI_zadd (a b : Int) : zI a + zI b = zI (a + b) := (Int32.ofInt_add a b).symm
theorem zI_zsub (a b : Nat) : nI a - nI b = zI ((a : Int) - (b : Int)) := zI_sub a (b : Int)
theorem zI_neg {z : Int} (h1 : -2147483648 ≤ z) (h2 : z < 2147483648) : (zI z < nI 0) = (z < 0) := by
  rw [eq_iff_iff, Int32.lt_iff_toInt_lt, zI_toInt h1 h2]
  rfl
theorem x5_outweighs {T : Ty} {R : Rm} {q σ : Nat → Nat} (G : TG T R q σ) (M : Mm) {c : Nat → Nat → Int32} {l : Nat → Int64} {s : Sx} {K Y nb ns : Nat} (g : GS K Y nb ns s) (rt : RT QT σ c l s) {x : Nat} (hx : x ≤ 9000) : fn_X5_snowOutweighsMelt T R (q 0) (nI x) (TV q M c l) = some (bI (decide (0 ≤ bal s.1 x nb)), TV q M c l) := by
  have G0 := G
  have hnb := g.2.2.2.2.2.1
  have n8 := g.2.2.2.2.2.2.2.2.1
  have I := g.1.1
  obtain ⟨t1, t04, t05, t06, t40, t41, t42, t43, tl, tb, ts⟩ := rt
  rw [g.2.2.1] at t04
  obtain ⟨hq, k0, r00, r01, r02, r03, k1, n1, k2, n2, k3, n3, k4, rb, kb, rl, lg, rs, ks, sl, si⟩ := G
  have hbi := bal_in I hx nb (by omega)
  have key : ∀ d b fuel, b + d = nb → d < fuel → fb_X5_snowOutweighsMelt_4 T R (q 0) (nI x) fuel (zI (bal s.1 x b)) (nI b) (TV q M c l) = some (bI (decide (0 ≤ bal s.1 x nb)), TV q M c l) := by
    intro d
    induction d with
    | zero =>
      intro b fuel h1 h2
      obtain ⟨n, rfl⟩ : ∃ n', fuel = n' + 1 := ⟨fuel - 1, by omega⟩
      have e : b = nb := by omega
      subst e
      have hz := zI_neg (z := bal s.1 x b) (by omega) (by omega)
      rw [fbs_X5_snowOutweighsMelt_4]
      unfold fs_X5_snowOutweighsMelt_4
      by_cases h0 : 0 ≤ bal s.1 x b
      · rw [decide_eq_true h0]
        simp (disch := omega) only [↓lm1, l0, l1, l2, l3, l4, l5, l6, l7, l8, l9, l10, l11, l12, l13, l14, l31, l32, l44, l48, l50, l57, l59, l60, l74, l100, l110, l126, l300, l330, l500, l501, l801, l1000, l5000, l5010, l8010, l8192, l9000, l10000, l1000000, nI_add, pk_mul, nI_clamp, nI_leI, nI_ltI, nI_eq, chk_d, chk_t, chk_inb, rfm_s, bnd_e, cal_e, calR_e, if_pos, if_neg, k0, TV_g hq, t04, hz]
        rfl
      · rw [decide_eq_false h0]
        simp (disch := omega) only [↓lm1, l0, l1, l2, l3, l4, l5, l6, l7, l8, l9, l10, l11, l12, l13, l14, l31, l32, l44, l48, l50, l57, l59, l60, l74, l100, l110, l126, l300, l330, l500, l501, l801, l1000, l5000, l5010, l8010, l8192, l9000, l10000, l1000000, nI_add, pk_mul, nI_clamp, nI_leI, nI_ltI, nI_eq, chk_d, chk_t, chk_inb, rfm_s, bnd_e, cal_e, calR_e, if_pos, if_neg, k0, TV_g hq, t04, hz]
        rfl
    | succ d ih =>
      intro b fuel h1 h2
      obtain ⟨n, rfl⟩ : ∃ n', fuel = n' + 1 := ⟨fuel - 1, by omega⟩
      have hb8 : b < nt (s.1 8) := by omega
      have e1 := x5_sn G0 M (c := c) (l := l) I t1 hb8
      have e2 := x5_mlX G0 M (c := c) (l := l) I t1 hb8 hx
      have hh : c (5 + 3 * b) 1 = s.1 (14 + 6 * b) := (tb b hb8).1 0 (by omega)
      have ih' := ih (b + 1) n (by omega) (by omega)
      have ea : zI (bal s.1 x b) + (nI (snS s.1 b) - nI (mlX s.1 x b)) = zI (bal s.1 x (b + 1)) := by
        rw [zI_zsub, zI_zadd]
        rfl
      rw [fbs_X5_snowOutweighsMelt_4]
      unfold fs_X5_snowOutweighsMelt_4
      simp (disch := omega) only [↓lm1, l0, l1, l2, l3, l4, l5, l6, l7, l8, l9, l10, l11, l12, l13, l14, l31, l32, l44, l48, l50, l57, l59, l60, l74, l100, l110, l126, l300, l330, l500, l501, l801, l1000, l5000, l5010, l8010, l8192, l9000, l10000, l1000000, nI_add, pk_mul, nI_clamp, nI_leI, nI_ltI, nI_eq, chk_d, chk_t, chk_inb, rfm_s, bnd_e, cal_e, calR_e, if_pos, if_neg, k0, r00, r01, r02, r03, k1, n1, k2, n2, k3, n3, k4, rb, kb, rl, rs, ks, TV_g hq, t04, hh, e1, e2, ea]
      exact ih'
  unfold fn_X5_snowOutweighsMelt
  simp only [l0]
  exact key nb 0 FU (by omega) (FU_gt (by omega))

