/-! refusals, thoughts -/
theorem rf_law {ad : Nat → Nat} {T : Ty} {M : Mm} {R : Rm} {s : Sx} {n : Nat} {h : Nat → Sx} (w : WQ ad T M R s n h) {Y nb ns : Nat} (g : GS (1000000 * nb + 300000 * Y) Y nb ns s) (hY5 : Y ≤ 500) : fn_L_refuses T (ad 0) M R = some (1, M, R) := by
  have w0 := (WQ_n w).2
  have c13 : fn_X6_count T R (ad 0) 13 M = some (_, M) := r_c13 w g hY5
  have c0 : fn_X6_count T R (ad 0) 0 M = some (_, M) := r_c0 w g hY5
  have c2 : fn_X6_count T R (ad 0) 2 M = some (_, M) := r_c2 w g hY5
  have p1 : fn_X6_set T (ad 0) 7 0 M R = some (-2000000001, M, R) := c_set7 _
  have p2 : fn_X6_set T (ad 0) 0 5001 M R = some (-2000000001, M, R) := c_setX (k := 0) (by omega) (by decide)
  have p3 : fn_X6_set T (ad 0) 1 501 M R = some (-2000000001, M, R) := c_setX (k := 1) (by omega) (by decide)
  have p4 : fn_X6_set T (ad 0) 2 9001 M R = some (-2000000001, M, R) := c_setX (k := 2) (by omega) (by decide)
  have p5 : fn_X6_set T (ad 0) 5 0 M R = some (-2000000001, M, R) := c_setX (k := 5) (by omega) (by decide)
  have p6 : fn_X6_set T (ad 0) 6 (-1) M R = some (-2000000001, M, R) := c_setX (k := 6) (by omega) (by decide)
  have b1 : fn_X6_band T (ad 0) 5001 100 0 0 M R = some (-2000000001, M, R) := c_bandX (by decide)
  have b2 : fn_X6_band T (ad 0) 0 99 0 0 M R = some (-2000000001, M, R) := c_bandX (by decide)
  have b3 : fn_X6_band T (ad 0) 0 100 501 0 M R = some (-2000000001, M, R) := c_bandX (by decide)
  have b4 : fn_X6_band T (ad 0) 0 100 0 1000001 M R = some (-2000000001, M, R) := c_bandX (by decide)
  have d1 : fn_X6_creep T (ad 0) (nI nb) 0 M R = some (-2000000001, M, R) := c_creepN w g hY5 _
  have d2 : fn_X6_bandInfo T R (ad 0) (nI nb) 0 M = some (-2000000001, M) := r_bN w g hY5 _
  have d3 : fn_X6_layer T R (ad 0) (nI nb) 0 0 M = some (-2000000001, M) := r_lN w g hY5 _ _
  have d4 : fn_X6_ofYear T R (ad 0) 501 M = some (-2000000001, M) := r_oyN
  have d5 : fn_X6_front T R (ad 0) 4 M = some (-2000000001, M) := r_fN
  have d6 : fn_X6_account T R (ad 0) 6 M = some (-2000000001, M) := r_aN
  have d7 : fn_X6_count T R (ad 0) 15 M = some (-2000000001, M) := r_cN
  have e1 : fn_X6_stake T (ad 0) (nI nb) 0 1 M R = some (-2000000001, M, R) := c_stakeN w g hY5 _ _
  have e2 : fn_X6_pull T (ad 0) (nI ns) M R = some (-2000000001, M, R) := c_pullN w g hY5
  have e3 : fn_X6_stakeInfo T R (ad 0) (nI ns) 0 M = some (-2000000001, M) := r_sN w g hY5 _
  have e4 : fn_X6_stakesIn T R (ad 0) (-1) M = some (-2000000001, M) := r_siN w g hY5
  have e5 : fn_X6_years T (ad 0) 0 M R = some (-2000000001, M, R) := c_yearsN (by decide)
  have e6 : fn_X6_years T (ad 0) 101 M R = some (-2000000001, M, R) := c_yearsN (by decide)
  have e7 : fn_X6_ifYears T R (ad 0) 0 0 M = some (-2000000001, M) := c_ifN (by decide)
  have e8 : fn_X6_ifYears T R (ad 0) 1 5 M = some (-2000000001, M) := c_ifN (by decide)
  have e9 : fn_X6_yearsTo T R (ad 0) 3 M = some (-2000000001, M) := c_toN
  have e10 : fn_X6_type T R (ad 0) 31 M = some (-2000000001, M) := c_typeN
  have e11 : fn_X6_fault T R (ad 0) 2 M = some (-2000000001, M) := c_faultN
  have eself : ∀ x : Int32, (x = x) = True := fun x => eq_true rfl
  have z10 : ((1 : Int32) = 0) = False := eq_false (by decide)
  have t239 : fs_L_refuses_239 T (ad 0) (nI n) (nI nb) (nI ns) 1 M R = some (1, M, R) := by
    unfold fs_L_refuses_239 fs_L_refuses_368
    simp only [z10, ↓reduceIte, ↓chk_q w0, ↓calR_q e1, ↓calR_q e2, ↓cal_q e3, ↓cal_q e4, ↓calR_q e5, ↓calR_q e6, ↓cal_q e7, ↓cal_q e8, ↓cal_q e9, ↓cal_q e10, ↓cal_q e11, eself, ↓cal_q c13, ↓cal_q c0, ↓cal_q c2]
  unfold fn_L_refuses
  simp only [↓chk_q w0, ↓cal_q c13, ↓cal_q c0, ↓cal_q c2, ↓calR_q p1, ↓calR_q p2, ↓calR_q p3, ↓calR_q p4, ↓calR_q p5, ↓calR_q p6, ↓calR_q b1, ↓calR_q b2, ↓calR_q b3, ↓calR_q b4, ↓calR_q d1, ↓cal_q d2, ↓cal_q d3, ↓cal_q d4, ↓cal_q d5, ↓cal_q d6, ↓cal_q d7, eself, lgE, ↓reduceIte, t239]
/-- pieces that have broken off so far, j years on -/
def PC (s : Sx) (j : Nat) : Nat := nt ((sYs j s).1 12)
theorem pc_step {K Y nb ns : Nat} {t : Sx} (g : GS K Y nb ns t) (hY : Y < 800) (h0 : 0 < nb) (hK : K < 2 ^ 29) : ∃ P D, t.1 12 = nI P ∧ (sY t).1 12 = nI (P + D) ∧ P + D < 2 ^ 30 := by
  obtain ⟨F, r, P, sz, rs, m10, m11, m12, m5, m6, r50, rs2, sz1, sz2, hF, hP, hFK, y7, yo, yb, yw, y10, y11, y12, -⟩ := yr_all g hY h0 hK
  refine ⟨P, _, m12, y12, ?_⟩
  generalize hD : (if 0 < r then 0 else (F + gv t (nb - 1)) / sz) = D
  have hDz : D * sz ≤ F + gv t (nb - 1) := by
    rw [← hD]
    split
    · omega
    · exact Nat.div_mul_le_self _ _
  have hDl : D ≤ D * sz := Nat.le_mul_of_pos_right D (by omega)
  omega
theorem pc_at {Y nb ns : Nat} {s : Sx} (g : GS (1000000 * nb + 300000 * Y) Y nb ns s) (hY5 : Y ≤ 500) (h0 : 0 < nb) {j : Nat} (hj : j < 300) : (sYs j s).1 12 = nI (PC s j) ∧ (sYs (j + 1) s).1 12 = nI (PC s (j + 1)) ∧ PC s j ≤ PC s (j + 1) ∧ PC s (j + 1) < 2 ^ 30 := by
  have hnb := g.2.2.2.2.2.1
  obtain ⟨P, D, h1, h2, h3⟩ := pc_step (GS_Ys g j (by omega) (by omega)) (by omega) h0 (by omega)
  have h2 : (sYs (j + 1) s).1 12 = nI (P + D) := h2
  have e1 : PC s j = P := by
    unfold PC
    rw [h1, nt_nI (by omega)]
  have e2 : PC s (j + 1) = P + D := by
    unfold PC
    rw [h2, nt_nI (by omega)]
  rw [e1, e2]
  exact ⟨h1, h2, by omega, h3⟩
theorem pc_mono {Y nb ns : Nat} {s : Sx} (g : GS (1000000 * nb + 300000 * Y) Y nb ns s) (hY5 : Y ≤ 500) (h0 : 0 < nb) : ∀ j, j ≤ 300 → ∀ i, i ≤ j → PC s i ≤ PC s j := by
  intro j
  induction j with
  | zero =>
    intro _ i hi
    obtain rfl : i = 0 := by omega
    exact Nat.le_refl _
  | succ j ih =>
    intro hj i hi
    by_cases h : i = j + 1
    · subst h
      exact Nat.le_refl _
    · have h1 := ih (by omega) i (by omega)
      have h2 := (pc_at g hY5 h0 (show j < 300 by omega)).2.2.1
      omega
theorem so_pc {Y nb ns : Nat} {s : Sx} (g : GS (1000000 * nb + 300000 * Y) Y nb ns s) (hY5 : Y ≤ 500) (h0 : 0 < nb) {j : Nat} (hj : j < 300) (Y' : Nat) : soB 0 ((sYs j s).1 12) (sYs (j + 1) s) Y' nb ns = decide (PC s j < PC s (j + 1)) := by
  obtain ⟨h1, h2, h3, h4⟩ := pc_at g hY5 h0 hj
  unfold soB
  rw [if_pos rfl, h1, h2]
  by_cases c : PC s j < PC s (j + 1)
  · have e : ¬ nI (PC s (j + 1)) ≤ nI (PC s j) := by
      rw [nI_leI (by omega) (by omega)]
      omega
    rw [decide_eq_true c, decide_eq_false e]
    rfl
  · have e : nI (PC s (j + 1)) ≤ nI (PC s j) := by
      rw [nI_leI (by omega) (by omega)]
      omega
    rw [decide_eq_false c, decide_eq_true e]
    rfl
theorem yt_spec {Y nb ns : Nat} {s : Sx} (g : GS (1000000 * nb + 300000 * Y) Y nb ns s) (hY5 : Y ≤ 500) (h0 : 0 < nb) : ∀ d j, j + d = 300 → (yt 0 s Y nb ns d j = -2000000004 ∧ ∀ i, j ≤ i → i < 300 → PC s (i + 1) ≤ PC s i) ∨ ∃ k, j ≤ k ∧ k < 300 ∧ yt 0 s Y nb ns d j = nI (k + 1) ∧ PC s k < PC s (k + 1) ∧ ∀ i, j ≤ i → i < k → PC s (i + 1) ≤ PC s i := by
  intro d
  induction d with
  | zero => exact fun j hj => .inl ⟨rfl, fun i h1 h2 => absurd h1 (by omega)⟩
  | succ d ih =>
    intro j hj
    have hs := so_pc g hY5 h0 (show j < 300 by omega) (Y + (j + 1))
    by_cases c : PC s j < PC s (j + 1)
    · rw [decide_eq_true c] at hs
      exact .inr ⟨j, Nat.le_refl _, by omega, yt_t hs, c, fun i h1 h2 => by omega⟩
    · rw [decide_eq_false c] at hs
      rw [yt_f hs]
      rcases ih (j + 1) (by omega) with ⟨a1, a2⟩ | ⟨k, k1, k2, k3, k4, k5⟩
      · refine .inl ⟨a1, fun i h1 h2 => ?_⟩
        by_cases h : i = j
        · subst h
          omega
        · exact a2 i (by omega) h2
      · refine .inr ⟨k, by omega, k2, k3, k4, fun i h1 h2 => ?_⟩
        by_cases h : i = j
        · subst h
          omega
        · exact k5 i (by omega) h2
/-- the first year with a piece, against the pieces of v years -/
theorem first_pc {Y nb ns : Nat} {s : Sx} (g : GS (1000000 * nb + 300000 * Y) Y nb ns s) (hY5 : Y ≤ 500) (h0 : 0 < nb) {v : Nat} (hv : v ≤ 300) : (PC s 0 < PC s v ∧ ∃ k, k < v ∧ yt 0 s Y nb ns 300 0 = nI (k + 1)) ∨ (PC s v = PC s 0 ∧ (yt 0 s Y nb ns 300 0 = -2000000004 ∨ ∃ k, v ≤ k ∧ k < 300 ∧ yt 0 s Y nb ns 300 0 = nI (k + 1))) := by
  have flat : ∀ j, j ≤ 300 → (∀ i, i < j → PC s (i + 1) ≤ PC s i) → PC s j = PC s 0 := by
    intro j
    induction j with
    | zero => exact fun _ _ => rfl
    | succ j ih =>
      intro hj h
      have h1 := ih (by omega) (fun i hi => h i (by omega))
      have h2 := h j (by omega)
      have h3 := (pc_at g hY5 h0 (show j < 300 by omega)).2.2.1
      omega
  rcases yt_spec g hY5 h0 300 0 rfl with ⟨a1, a2⟩ | ⟨k, k1, k2, k3, k4, k5⟩
  · exact .inr ⟨flat v hv (fun i hi => a2 i (by omega) (by omega)), .inl a1⟩
  · by_cases h : k < v
    · refine .inl ⟨?_, k, h, k3⟩
      have h1 := flat k (by omega) (fun i hi => k5 i (by omega) hi)
      have h2 := pc_mono g hY5 h0 v hv (k + 1) (by omega)
      omega
    · exact .inr ⟨flat v hv (fun i hi => k5 i (by omega) (by omega)), .inr ⟨k, by omega, k2, k3⟩⟩
theorem snS_u2 (m : Nat → Int32) (v : Int32) (b : Nat) : snS (upd m 2 v) b = snS m b := snS_2 m v b
theorem mlX_2 (m : Nat → Int32) (v : Int32) (x b : Nat) : mlX (upd m 2 v) x b = mlX m x b := by
  unfold mlX
  rw [pk_un (show 3 ≠ 2 by omega), pk_un (show 4 ≠ 2 by omega), pk_un (show 14 + 6 * b ≠ 2 by omega)]
theorem bal_2 (m : Nat → Int32) (v : Int32) (x : Nat) : ∀ n, bal (upd m 2 v) x n = bal m x n := by
  intro n
  induction n with
  | zero => rfl
  | succ n ih =>
    have h1 : bal (upd m 2 v) x (n + 1) = bal (upd m 2 v) x n + ((snS (upd m 2 v) n : Int) - (mlX (upd m 2 v) x n : Int)) := rfl
    have h2 : bal m x (n + 1) = bal m x n + ((snS m n : Int) - (mlX m x n : Int)) := rfl
    rw [h1, h2, ih, snS_2, mlX_2]
/-- what comes behind the steady melt has been set -/
theorem th_219 {ad : Nat → Nat} {T : Ty} {M : Mm} {R : Rm} {s : Sx} {n : Nat} {h : Nat → Sx} {Y nb ns r : Nat} (w : WQ ad T M R (upd s.1 2 (nI r), s.2.1, s.2.2) n h) (g : GS (1000000 * nb + 300000 * Y) Y nb ns s) (g6 : GS (1000000 * nb + 300000 * Y) Y nb ns (upd s.1 2 (nI r), s.2.1, s.2.2)) (hY5 : Y ≤ 500) (hr : r ≤ 9000) (x1 x11 : Int32) {o : Option (Int32 × Mm × Rm)} (hE : ∀ (j : Int32 → Int32 → Int64 → Int32 → Mm → Rm → Option (Int32 × Mm × Rm)) (a : Int64), a.toInt = bal s.1 r nb → fs_L_thoughts_219 T (ad 0) x1 j (nI r) x11 a (nI nb) M R = o) : ∀ d b fuel (a : Int64), a.toInt = bal s.1 r b → b + d = nb → d < fuel → fb_L_thoughts_219 T (ad 0) x1 fuel (nI r) x11 a (nI b) M R = o := by
  have w0 := (WQ_n w).2
  have hnb := g.2.2.2.2.2.1
  have n8 := g.2.2.2.2.2.2.2.2.1
  have I := g.1.1
  have c0 : fn_X6_count T R (ad 0) 0 M = some (_, M) := r_c0 w g6 hY5
  intro d
  induction d with
  | zero =>
    intro b fuel a ha hb hf
    obtain ⟨n', rfl⟩ : ∃ n', fuel = n' + 1 := ⟨fuel - 1, by omega⟩
    obtain rfl : b = nb := by omega
    rw [fbs_L_thoughts_219]
    exact hE _ a ha
  | succ d ih =>
    intro b fuel a ha hb hf
    obtain ⟨n', rfl⟩ : ∃ n', fuel = n' + 1 := ⟨fuel - 1, by omega⟩
    have hbn : b < nb := by omega
    have q7 : fn_X6_bandInfo T R (ad 0) (nI b) 7 M = some (nI (snS s.1 b), M) := by
      have h := r_b7 w g6 hY5 hbn
      rw [snS_u2] at h
      exact h
    have q8 : fn_X6_bandInfo T R (ad 0) (nI b) 8 M = some (nI (mlX s.1 r b), M) := by
      have h := r_b8 w g6 hY5 hbn
      rw [mlS_2 s.1 hr] at h
      exact h
    have l1' := snS_le I (b := b) (by omega)
    have l2' := mlX_le I (b := b) hr (by omega)
    obtain ⟨z1, z2⟩ := bal_in I hr b (by omega)
    have hn : (a + (nI (snS s.1 b) - nI (mlX s.1 r b)).toInt64).toInt = bal s.1 r (b + 1) := by
      have h2 : bal s.1 r (b + 1) = bal s.1 r b + ((snS s.1 b : Int) - (mlX s.1 r b : Int)) := rfl
      rw [Int64.toInt_add, Int32.toInt_toInt64, pk_sub_toInt (by omega) (by omega), ha, bm64 (by omega) (by omega), h2]
    have ih' := ih (b + 1) n' _ hn (by omega) (by omega)
    have c : (nI nb ≤ nI b) = False := leF hbn (by omega)
    rw [fbs_L_thoughts_219]
    unfold fs_L_thoughts_219
    simp only [↓chk_q w0, ↓cal_q c0, c, ↓reduceIte, ↓cal_q q7, ↓cal_q q8, bnd_e, nI_p1]
    exact ih'
theorem GS_upd {Y nb ns : Nat} {s : Sx} (g : GS (1000000 * nb + 300000 * Y) Y nb ns s) {k : Nat} {v : Int32} (hI : IV (upd s.1 k v)) (h7 : k ≠ 7 ∧ k ≠ 8 ∧ k ≠ 9 ∧ k ≠ 10 ∧ k ≠ 11 ∧ k ≠ 12 ∧ k ≠ 13 ∧ k ≠ 19) : GS (1000000 * nb + 300000 * Y) Y nb ns (upd s.1 k v, s.2.1, s.2.2) := by
  obtain ⟨J, a7, a8, a9, b1, b2, b3, n7, n8, n9⟩ := g
  have e : ∀ j, j ≠ k → upd s.1 k v j = s.1 j := fun j hj => pk_un hj
  exact GS_mk (JV_m J hI (e _ (by omega)) (e _ (by omega)) (e _ (by omega)) (e _ (by omega)) (e _ (by omega)) (e _ (by omega)) (e _ (by omega))) ((e 7 (by omega)).trans a7) ((e 8 (by omega)).trans a8) ((e 9 (by omega)).trans a9) b1 b2 b3
