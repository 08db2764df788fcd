/-! sound: layers of a band -/
theorem yl_nx {g : Nat → Nat} {N k : Nat} (hk : k < sm (cnt g) N) : ∀ d pos, pos + d = N → sm (cnt g) pos = k → ∃ t, pos ≤ t ∧ t < N ∧ 0 < g t ∧ (∀ z, pos ≤ z → z < t → g z = 0) ∧ yl g N 0 k = some t := by
  intro d
  induction d with
  | zero =>
    intro pos h1 h2
    obtain rfl : pos = N := by omega
    omega
  | succ d ih =>
    intro pos h1 h2
    by_cases c : 0 < g pos
    · refine ⟨pos, Nat.le_refl _, by omega, c, fun z h3 h4 => by omega, yl_at (by omega) (by omega) c ?_⟩
      rw [sm_0]
      omega
    · have hz : g pos = 0 := by omega
      obtain ⟨t, t1, t2, t3, t4, t5⟩ := ih (pos + 1) (by omega) (by rw [sm_s, cnt_z hz]; omega)
      refine ⟨t, by omega, t2, t3, fun z h3 h4 => ?_, t5⟩
      by_cases hzp : z = pos
      · rw [hzp]
        exact hz
      · exact t4 z (by omega) h4
theorem yl_end {g : Nat → Nat} : ∀ {n y i : Nat}, sm (cnt g) (y + n) ≤ sm (cnt g) y + i → yl g n y i = none := by
  intro n
  induction n with
  | zero => exact fun _ => rfl
  | succ n ih =>
    intro y i h
    have e : y + (n + 1) = y + 1 + n := by omega
    rw [e] at h
    have hs := sm_s (cnt g) y
    have hm := sm_mono (cnt g) (show y + 1 ≤ y + 1 + n by omega)
    unfold yl
    by_cases c : 0 < g y
    · have hc : cnt g y = 1 := if_pos c
      rw [if_pos c, if_neg (by omega)]
      exact ih (by omega)
    · have hc : cnt g y = 0 := if_neg c
      rw [if_neg c]
      exact ih (by omega)
theorem cnt_full {g : Nat → Nat} {pos N : Nat} (h : sm (cnt g) pos = sm (cnt g) N) {z : Nat} (h1 : pos ≤ z) (h2 : z < N) : g z = 0 := by
  have a := sm_mono (cnt g) h1
  have b := sm_ge (cnt g) h2
  have c : cnt g z = 0 := by omega
  unfold cnt at c
  split at c
  · omega
  · omega
theorem nt_pos {pos : Nat} {t : Nat} (h : pos ≤ t) (ht : t < 2 ^ 31) : (nI t ≤ nI pos + nONE) = False := by
  cases pos with
  | zero =>
    rw [nI_n1]
    exact eq_false (fun h2 => nI_pos ht (Int32.lt_of_le_of_lt h2 nONE_lt))
  | succ p =>
    rw [nI_m1]
    exact leF (by omega) ht
theorem cnt_t {g : Nat → Nat} {t : Nat} (h : 0 < g t) : cnt g t = 1 := if_pos h
theorem lm1' : (-1 : Int32) = nI 0 + nONE := by decide
abbrev J170 : Type := Int32 → Int32 → Int64 → Int32 → Int32 → Int32 → Int32 → Int32 → Int32 → Int32 → Int32 → Mm → Option (Int32 × Mm)
theorem so_56 {ad : Nat → Nat} {T : Ty} {M : Mm} {R : Rm} {s : Sx} {n : Nat} {h : Nat → Sx} (w : WQ ad T M R s n h) {Y nb ns : Nat} (g : GS (1000000 * nb + 300000 * Y) Y nb ns s) (hY5 : Y ≤ 500) {b cn : Nat} (hb : b < nb) (hcn : sm (cnt (s.2.1 b)) (Y + 1) = cn) (J : J170) (x1 : Int32) (l3 : Int64) (x5 x6 x7 : Int32) : ∀ d k pos fuel, k + d = cn → sm (cnt (s.2.1 b)) pos = k → pos ≤ Y + 1 → (k = 0 → pos = 0) → (0 < k → 0 < pos ∧ yl (s.2.1 b) (Y + 1) 0 (k - 1) = some (pos - 1)) → d < fuel → ∃ pos', pos' ≤ Y + 1 ∧ (cn = 0 → pos' = 0) ∧ (0 < cn → 0 < pos' ∧ yl (s.2.1 b) (Y + 1) 0 (cn - 1) = some (pos' - 1)) ∧ fb_L_sound_56 T R (ad 0) J fuel x1 (nI Y) l3 x5 x6 x7 (nI b) (nI cn) (nI (sm (s.2.1 b) pos)) (nI pos + nONE) (nI k) M = J x1 (nI Y) l3 x5 x6 (nI b) (nI cn) (nI (sm (s.2.1 b) (Y + 1))) (nI pos' + nONE) (nI (sbN s.1 b ns)) (if mlS s.1 b ≤ snS s.1 b then nI b else x7) M := by
  have w0 := (WQ_n w).2
  have I := g.1.1
  have hns := g.2.2.2.2.2.2.1
  have n8 := g.2.2.2.2.2.2.2.2.1
  obtain ⟨hc31, hf31⟩ := GS_31 g hY5 hb
  have hcl := cnt_le (s.2.1 b) (Y + 1)
  rw [hcn] at hcl
  have b1 := snS_le I (b := b) (by omega)
  have b2 := mlS_le I (b := b) (by omega)
  intro d
  induction d with
  | zero =>
    intro k pos fuel h1 h2 h3 h4 h5 hf
    obtain ⟨n', rfl⟩ : ∃ n', fuel = n' + 1 := ⟨fuel - 1, by omega⟩
    obtain rfl : k = cn := by omega
    refine ⟨pos, h3, h4, h5, ?_⟩
    have ez : sm (s.2.1 b) (Y + 1) = sm (s.2.1 b) pos := sm_tail h3 (fun y y1 y2 => cnt_full (h2.trans hcn.symm) y1 y2)
    have qs : fn_X6_stakesIn T R (ad 0) (nI b) M = some (nI (sbN s.1 b ns), M) := by
      rw [← sbB_N s.1 b ns hns]
      exact r_si w g hY5 hb
    have q7 : fn_X6_bandInfo T R (ad 0) (nI b) 7 M = some (_, M) := r_b7 w g hY5 hb
    have q8 : fn_X6_bandInfo T R (ad 0) (nI b) 8 M = some (_, M) := r_b8 w g hY5 hb
    rw [fbs_L_sound_56, ez]
    unfold fs_L_sound_56
    by_cases c : mlS s.1 b ≤ snS s.1 b
    · have c' : (nI (snS s.1 b) < nI (mlS s.1 b)) = False := lF c (by omega)
      rw [if_pos c]
      simp (disch := omega) only [leT, ↓reduceIte, ↓chk_q w0, ↓cal_q qs, ↓cal_q q7, ↓cal_q q8, c']
    · have c' : (nI (snS s.1 b) < nI (mlS s.1 b)) = True := lT (by omega) (by omega)
      rw [if_neg c]
      simp (disch := omega) only [leT, ↓reduceIte, ↓chk_q w0, ↓cal_q qs, ↓cal_q q7, ↓cal_q q8, c']
  | succ d ih =>
    intro k pos fuel h1 h2 h3 h4 h5 hf
    obtain ⟨n', rfl⟩ : ∃ n', fuel = n' + 1 := ⟨fuel - 1, by omega⟩
    obtain ⟨t, t1, t2, t3, t4, t5⟩ := yl_nx (g := s.2.1 b) (N := Y + 1) (k := k) (by omega) (Y + 1 - pos) pos (by omega) h2
    have es : sm (s.2.1 b) (t + 1) = sm (s.2.1 b) pos + s.2.1 b t := by
      rw [sm_s, sm_tail t1 t4]
    have ec : sm (cnt (s.2.1 b)) (t + 1) = k + 1 := by
      rw [sm_s, sm_tail t1 (fun y y1 y2 => cnt_z (t4 y y1 y2)), h2, cnt_t t3]
    obtain ⟨pos', p0, p1, p2, p3⟩ := ih (k + 1) (t + 1) n' (by omega) ec (by omega) (fun h => absurd h (by omega)) (fun _ => ⟨by omega, t5⟩) (by omega)
    refine ⟨pos', p0, p1, p2, ?_⟩
    have hg31 := hf31 t (by omega)
    obtain ⟨ql, ql1⟩ := r_l w g hY5 hb (i := k) (by omega)
    rw [t5, fO_s] at ql
    have q0 : fn_X6_layer T R (ad 0) (nI b) (nI k) 0 M = some (nI t, M) := ql
    have q1 : fn_X6_layer T R (ad 0) (nI b) (nI k) 1 M = some (nI (s.2.1 b t), M) := ql1 t t5
    have c1 : (nI t ≤ nI pos + nONE) = False := nt_pos t1 (by omega)
    have c2 : (nI (s.2.1 b t) < nI 1) = False := lF (by omega) hg31
    have c3 : (nI t ≤ nI Y) = True := leT (by omega) (by omega)
    have c4 : (nI cn ≤ nI k) = False := leF (by omega) (by omega)
    rw [← p3, fbs_L_sound_56]
    unfold fs_L_sound_56
    simp (disch := omega) only [c4, ↓reduceIte, ↓chk_q w0, ↓cal_q q0, ↓cal_q q1, c1, c2, c3, bnd_e, l1, nI_add, es, nI_m1]
/-- what is known of one band -/
theorem so_170 {ad : Nat → Nat} {T : Ty} {M : Mm} {R : Rm} {s : Sx} {n : Nat} {h : Nat → Sx} (w : WQ ad T M R s n h) {Y nb ns : Nat} (g : GS (1000000 * nb + 300000 * Y) Y nb ns s) (hY5 : Y ≤ 500) (ev : EV s) {b cn pos : Nat} (hb : b < nb) (hcn : sm (cnt (s.2.1 b)) (Y + 1) = cn) (hp0 : pos ≤ Y + 1) (hp1 : cn = 0 → pos = 0) (hp2 : 0 < cn → 0 < pos ∧ yl (s.2.1 b) (Y + 1) 0 (cn - 1) = some (pos - 1)) (J : Int32 → Int32 → Int64 → Int32 → Int32 → Int32 → Int32 → Mm → Option (Int32 × Mm)) (x1 x2 : Int32) (l3 : Int64) (N : Nat) (ln : Int32) : fs_L_sound_170 T R (ad 0) J x1 x2 l3 (nI N) (nI (mkN s.1 ns b)) (nI b) (nI cn) (nI (sm (s.2.1 b) (Y + 1))) (nI pos + nONE) (nI (sbN s.1 b ns)) ln M = J x1 x2 (l3 + (nI (sm (s.2.1 b) (Y + 1))).toInt64) (nI (N + cn)) (nI (mkN s.1 ns (b + 1))) ln (nI (b + 1)) M := by
  have w0 := (WQ_n w).2
  have I := g.1.1
  have hnb := g.2.2.2.2.2.1
  have hns := g.2.2.2.2.2.2.1
  have n8 := g.2.2.2.2.2.2.2.2.1
  obtain ⟨e1, e2, e3, -, -, -⟩ := ev
  rw [n8] at e1 e2 e3
  have hcl := cnt_le (s.2.1 b) (Y + 1)
  rw [hcn] at hcl
  have b1 := snS_le I (b := b) (by omega)
  have b2 := mlS_le I (b := b) (by omega)
  obtain ⟨mk, mk31, emk⟩ := e2 b hb
  have q3 : fn_X6_bandInfo T R (ad 0) (nI b) 3 M = some (_, M) := r_b3 w g hY5 hb
  have q5 : fn_X6_bandInfo T R (ad 0) (nI b) 5 M = some (_, M) := r_b5 w g hY5 hb
  have q7 : fn_X6_bandInfo T R (ad 0) (nI b) 7 M = some (_, M) := r_b7 w g hY5 hb
  have q8 : fn_X6_bandInfo T R (ad 0) (nI b) 8 M = some (_, M) := r_b8 w g hY5 hb
  have q9 : fn_X6_bandInfo T R (ad 0) (nI b) 9 M = some (_, M) := r_b9 w g hY5 hb
  have q0 : fn_X6_bandInfo T R (ad 0) (nI b) 0 M = some (_, M) := r_b0 w g hY5 hb
  have q11 : fn_X6_bandInfo T R (ad 0) (nI b) 11 M = some (_, M) := r_b11 w g hY5 hb
  have ql : fn_X6_layer T R (ad 0) (nI b) (nI cn) 0 M = some (_, M) := (r_l w g hY5 hb (i := cn) (by omega)).1
  have eend : yl (s.2.1 b) (Y + 1) 0 cn = none := yl_end (by rw [Nat.zero_add, sm_0]; omega)
  rw [eend, fO_n] at ql
  rw [emk] at q9
  -- the end, and the row of checks ahead of it
  have t363 : ∀ (x10' : Int32) (M' : Mm), fs_L_sound_363 T R (ad 0) J x1 x2 l3 (nI N) (nI (mkN s.1 ns b)) ln (nI b) (nI cn) x10' (nI (sbN s.1 b ns)) M' = J x1 x2 (l3 + x10'.toInt64) (nI (N + cn)) (nI (mkN s.1 ns (b + 1))) ln (nI (b + 1)) M' := fun x10' M' => by
    unfold fs_L_sound_363
    simp only [bnd_e, nI_or, l1, nI_add, mkN_s]
  have ap : (nI (sbN s.1 b ns) &&& nI (mkN s.1 ns b) = 0) = True := eq_true (by
    rw [nI_and, bits_apart s.1 (by omega)]
    rfl)
  have p7 : (nI (snS s.1 b) < 0) = False := eq_false (nI_pos (by omega))
  have p8 : (nI (mlS s.1 b) < 0) = False := eq_false (nI_pos (by omega))
  have p9 : (nI mk < 0) = False := eq_false (nI_pos mk31)
  have t264 : ∀ x10' : Int32, fs_L_sound_264 T R (ad 0) J x1 x2 l3 (nI N) (nI (mkN s.1 ns b)) ln (nI b) (nI cn) x10' (nI (sbN s.1 b ns)) M = J x1 x2 (l3 + x10'.toInt64) (nI (N + cn)) (nI (mkN s.1 ns (b + 1))) ln (nI (b + 1)) M := fun x10' => by
    unfold fs_L_sound_264
    by_cases hb0 : b = 0
    · subst hb0
      have c0 : (nI 0 ≤ 0) = True := eq_true (by decide)
      simp only [ap, ↓reduceIte, ↓chk_q w0, ↓cal_q q7, p7, ↓cal_q q8, p8, ↓cal_q q9, p9, c0, t363]
    · obtain ⟨b', rfl⟩ : ∃ b', b = b' + 1 := ⟨b - 1, by omega⟩
      have c0 : (nI (b' + 1) ≤ 0) = False := leF (b := 0) (by omega) (by omega)
      have em1 : nI (b' + 1) - (1 : Int32) = nI b' := by
        rw [l1, nIs (by omega), Nat.add_sub_cancel]
      have r0 : fn_X6_bandInfo T R (ad 0) (nI b') 0 M = some (_, M) := r_b0 w g hY5 (by omega)
      have r10 : fn_X6_bandInfo T R (ad 0) (nI b') 10 M = some (_, M) := r_b10 w g hY5 (by omega)
      have hh := e1 b' hb
      obtain ⟨h1a, -, h1b⟩ := (I.2.2.2.2.2.2.2.2.2.2.1 b' (by omega)).1
      obtain ⟨h2a, -, h2b⟩ := (I.2.2.2.2.2.2.2.2.2.2.1 (b' + 1) (by omega)).1
      have ch : (s.1 (14 + 6 * b') ≤ s.1 (14 + 6 * (b' + 1))) = False := by
        rw [h1a, h2a]
        exact leF hh (by omega)
      rcases e3 b' hb with h | h
      · have cg : (s.1 (14 + 6 * (b' + 1) + 5) = s.1 (14 + 6 * b' + 4)) = True := eq_true h
        simp only [ap, ↓reduceIte, ↓chk_q w0, ↓cal_q q7, p7, ↓cal_q q8, p8, ↓cal_q q9, p9, c0, ↓cal_q q0, em1, ↓cal_q r0, r0, cal_e, ch, ↓cal_q q11, ↓cal_q r10, r10, cg, t363]
      · have cz : (s.1 (14 + 6 * (b' + 1) + 5) = 0) = True := eq_true h
        by_cases hg : s.1 (14 + 6 * (b' + 1) + 5) = s.1 (14 + 6 * b' + 4)
        · have cg : (s.1 (14 + 6 * (b' + 1) + 5) = s.1 (14 + 6 * b' + 4)) = True := eq_true hg
          simp only [ap, ↓reduceIte, ↓chk_q w0, ↓cal_q q7, p7, ↓cal_q q8, p8, ↓cal_q q9, p9, c0, ↓cal_q q0, em1, ↓cal_q r0, r0, cal_e, ch, ↓cal_q q11, ↓cal_q r10, r10, cg, t363]
        · have cg : (s.1 (14 + 6 * (b' + 1) + 5) = s.1 (14 + 6 * b' + 4)) = False := eq_false hg
          simp only [ap, ↓reduceIte, ↓chk_q w0, ↓cal_q q7, p7, ↓cal_q q8, p8, ↓cal_q q9, p9, c0, ↓cal_q q0, em1, ↓cal_q r0, r0, cal_e, ch, ↓cal_q q11, ↓cal_q r10, r10, cg, cz, t363]
  have en : (nI (sm (s.2.1 b) (Y + 1)) = nI (sm (s.2.1 b) (Y + 1))) = True := eq_true rfl
  by_cases c0 : cn = 0
  · subst c0
    rw [eend, fO_n] at q5
    have z1 : ((nI 0 : Int32) = 0) = True := eq_true rfl
    have z2 : ((nI 0 : Int32) ≤ 0) = True := eq_true (by decide)
    unfold fs_L_sound_170 fs_L_sound_208 fs_L_sound_225
    simp only [↓chk_q w0, ↓cal_q q3, ↓reduceIte, ↓cal_q ql, z1, z2, ↓cal_q q5, t264]
  · obtain ⟨k1, k2⟩ := hp2 (by omega)
    have q6 : fn_X6_bandInfo T R (ad 0) (nI b) 6 M = some (_, M) := r_b6 w g hY5 hb (by omega)
    rw [hcn, k2, fO_s] at q6
    obtain ⟨t, t1, t2, t3, t4, t5⟩ := yl_nx (g := s.2.1 b) (N := Y + 1) (k := 0) (by omega) (Y + 1) 0 (by omega) rfl
    have qf : fn_X6_layer T R (ad 0) (nI b) 0 0 M = some (_, M) := (r_l w g hY5 hb (i := 0) (by omega)).1
    rw [t5, fO_s] at q5 qf
    have z1 : ((nI cn : Int32) = 0) = False := eF (b := 0) c0 (by omega) (by omega)
    have z2 : ((nI cn : Int32) ≤ 0) = False := leF (b := 0) (by omega) (by omega)
    have z3 : (nI t = (-2000000004 : Int32)) = False := nI_nf (by omega)
    have z4 : nI pos + nONE = nI (pos - 1) := by
      obtain ⟨p', rfl⟩ : ∃ p', pos = p' + 1 := ⟨pos - 1, by omega⟩
      rw [nI_m1, Nat.add_sub_cancel]
    rw [z4]
    unfold fs_L_sound_170 fs_L_sound_208 fs_L_sound_225
    simp only [↓chk_q w0, ↓cal_q q3, ↓reduceIte, ↓cal_q ql, z1, z2, ↓cal_q q5, z3, ↓cal_q qf, ↓cal_q q6, t264]
