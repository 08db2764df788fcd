/-! thoughts answer 1, and all is as it was -/
theorem WE_M {ad : Nat → Nat} {T : Ty} {M M' : Mm} {R : Rm} {s : Sx} {n : Nat} {h : Nat → Sx} (w : WE ad T M R s n h) (w' : WQ ad T M' R s n h) : WE ad T M' R s n h := ⟨w', w.2⟩
/-- behind the years looked at: back, the steady melt, set and taken back -/
theorem th_134 {ad : Nat → Nat} {T : Ty} {M : Mm} {R : Rm} {s s' : Sx} {n : Nat} {h : Nat → Sx} (hn : n ≤ 4) (w' : WE ad T M R s' (np n) (hp n h s)) {Y nb ns : Nat} (g : GS (1000000 * nb + 300000 * Y) Y nb ns s) (hY5 : Y ≤ 500) (h0 : 0 < nb) (x1 : Int32) (z : Int32) : ∃ M' R' n' h', fs_L_thoughts_134 T (ad 0) x1 (nI Y) ((s.1 10 + nI (tot s.2.1 Y nb)).toInt64) z z M R = some (1, M', R') ∧ WE ad T M' R' s n' h' := by
  have w0 := (WQ_n w'.1).2
  have hnb := g.2.2.2.2.2.1
  have I := g.1.1
  obtain ⟨m, h', M5, R5, u1, m4, w5⟩ := c_back hn w'
  have c1 : fn_X6_count T R5 (ad 0) 1 M5 = some (_, M5) := r_c1 w5.1 g hY5
  have a4 : fn_X6_account T R5 (ad 0) 4 M5 = some (_, M5) := r_a4 w5.1 g hY5
  have c8 : fn_X6_count T R5 (ad 0) 8 M5 = some (s.1 2, M5) := r_c6 w5.1 g hY5 (j := 8) (by omega) (by omega)
  obtain ⟨em2, -, hm2⟩ := I.2.2.1
  have eself : ∀ x : Int32, (x = x) = True := fun x => eq_true rfl
  have xm : (nI m < (0 : Int32)) = False := eq_false (nI_pos (by omega))
  have x2 : (s.1 2 < (0 : Int32)) = False := by
    rw [em2]
    exact eq_false (nI_pos (by omega))
  rcases c_steady w5.1 g hY5 h0 with ⟨-, st⟩ | ⟨r, r1, r2, r3, st⟩
  · refine ⟨M5, R5, m, h', ?_, w5⟩
    unfold fs_L_thoughts_134
    simp only [eself, ↓reduceIte, ↓chk_q w0, ↓calR_q u1, xm, ↓cal_q c1, ↓cal_q a4, lgE, ↓cal_q st, ↓cal_q c8, x2]
  · obtain ⟨M6, R6, s1, s2⟩ := c_set w5.1 g hY5 (k := 2) (v := r) (by omega) (by
      unfold loS
      rw [if_neg (by omega)]
      omega) r1
    have s1 : fn_X6_set T (ad 0) 2 (nI r) M5 R5 = some (s.1 2, M6, R6) := s1
    have I' : IV (upd s.1 2 (nI r)) := IV_set I (k := 2) (by omega) (show rg (nI r) 0 9000 from rg_nI (by omega) r1 (by omega))
    have g6 := GS_upd g I' (by omega)
    have w6 := WE_mk w5 s2 (EV_upd I (k := 2) (.inl (by omega)) (nI r) w5.2.1)
    have hm4 : m ≤ 4 := by omega
    obtain ⟨m', h'', M7, R7, u2, m4', w7⟩ := c_back hm4 w6
    have xm' : (nI m' < (0 : Int32)) = False := eq_false (nI_pos (by omega))
    have c8' : fn_X6_count T R7 (ad 0) 8 M7 = some (s.1 2, M7) := r_c6 w7.1 g hY5 (j := 8) (by omega) (by omega)
    have c0' : fn_X6_count T R6 (ad 0) 0 M6 = some (_, M6) := r_c0 w6.1 g6 hY5
    have st' : fn_X6_steadyMelt T R6 (ad 0) M6 = some (nI r, M6) := by
      rcases c_steady w6.1 g6 hY5 h0 with ⟨b1, -⟩ | ⟨r', q1, q2, q3, q4⟩
      · have b1 : bal (upd s.1 2 (nI r)) 0 nb < 0 := b1
        rw [bal_2] at b1
        have := bal_anti s.1 (show 0 ≤ r by omega) nb
        omega
      · have q2 : 0 ≤ bal (upd s.1 2 (nI r)) r' nb := q2
        rw [bal_2] at q2
        have q5 := r3 r' q1 q2
        have q6 := q3 r r1 (by
          show 0 ≤ bal (upd s.1 2 (nI r)) r nb
          rw [bal_2]
          exact r2)
        obtain rfl : r' = r := by omega
        exact q4
    refine ⟨M7, R7, m', h'', ?_, w7⟩
    have hne : (nI r = (-2000000004 : Int32)) = False := nI_nf (by omega)
    have t0 : (0 : Int64).toInt = 0 := by decide
    have main := th_219 w6.1 g g6 hY5 r1 x1 (s.1 2) (o := some (1, M7, R7)) (fun j a ha => by
      have xa : (lg_cmp a 0 < (0 : Int32)) = False := eq_false (fun hh => by
        have h1 := (lg_cmp_lt a 0).mp hh
        have h2 := Int64.lt_iff_toInt_lt.mp h1
        rw [ha, t0] at h2
        omega)
      have cle : (nI nb ≤ nI nb) = True := eq_true (Int32.le_refl _)
      have w0' := (WQ_n w6.1).2
      unfold fs_L_thoughts_219
      simp only [↓chk_q w0', ↓cal_q c0', cle, ↓reduceIte, xa, ↓cal_q st', eself, ↓calR_q u2, xm', ↓cal_q c8']) nb 0 FU 0 t0 (by omega) (FU_gt (by omega))
    unfold fs_L_thoughts_134
    simp only [eself, ↓reduceIte, ↓chk_q w0, ↓calR_q u1, xm, ↓cal_q c1, ↓cal_q a4, lgE, ↓cal_q st, ↓cal_q c8, hne, ↓calR_q s1]
    exact main
theorem th_law {ad : Nat → Nat} {T : Ty} {M : Mm} {R : Rm} {s : Sx} {n : Nat} {h : Nat → Sx} (w : WE ad T M R s n h) {Y nb ns : Nat} (g : GS (1000000 * nb + 300000 * Y) Y nb ns s) (hY5 : Y ≤ 500) (hz : Zs s) (h0 : 0 < nb) (x : Int32) : ∃ M' R' n' h', fn_L_thoughts T (ad 0) x M R = some (1, M', R') ∧ WE ad T M' R' s n' h' := by
  have w0 := (WQ_n w.1).2
  have hn4 := (WQ_n w.1).1
  have hnb := g.2.2.2.2.2.1
  have hlw := lw_lt x (show 0 < 40 by omega)
  have lo : fn_L_low T R x 40 M = some (_, M) := low_r x (k := 40) (by omega) (by omega) M
  generalize lw x 40 = v0 at hlw lo
  have e1 : (1 : Int32) + nI v0 = nI (v0 + 1) := by
    rw [l1, nI_add, Nat.add_comm]
  obtain ⟨M1, i1, w1⟩ := c_if1 w.1 g hY5 (v := v0 + 1) h0 (by omega) (by omega)
  obtain ⟨M2, i2, w2⟩ := c_if0 w1 g hY5 (v := v0 + 1) h0 (by omega) (by omega)
  obtain ⟨M3, i3, w3⟩ := c_to w2 g hY5 (v := 0) h0 (by omega)
  have i1 : fn_X6_ifYears T R (ad 0) (nI (v0 + 1)) 1 M = some (_, M1) := i1
  have i2 : fn_X6_ifYears T R (ad 0) (nI (v0 + 1)) 0 M1 = some (_, M2) := i2
  have i3 : fn_X6_yearsTo T R (ad 0) 0 M2 = some (_, M3) := i3
  have c1 : fn_X6_count T R (ad 0) 1 M3 = some (_, M3) := r_c1 w3 g hY5
  have a4 : fn_X6_account T R (ad 0) 4 M3 = some (_, M3) := r_a4 w3 g hY5
  have eself : ∀ x : Int32, (x = x) = True := fun x => eq_true rfl
  have we3 := WE_M w w3
  unfold fn_L_thoughts
  by_cases hYv : Y + (v0 + 1) ≤ 500
  · obtain ⟨M4, R4, y1, y2⟩ := c_years w3 g hY5 hz (v := v0 + 1) h0 (by omega) (by omega) hYv
    obtain ⟨-, g4, -⟩ := OK_Ys g hz (v0 + 1) hYv
    have we4 := WE_mk we3 y2 (EV_Ys g hY5 h0 w.2.1 (v0 + 1) (by omega))
    have a4' : fn_X6_account T R4 (ad 0) 4 M4 = some (_, M4) := r_a4 y2 g4 hYv
    have xY : (nI Y + nI (v0 + 1) ≤ (500 : Int32)) = True := by
      rw [nI_add, l500]
      exact leT hYv (by omega)
    obtain ⟨p1, p1', -, p1b⟩ := pc_at g hY5 h0 (show 0 < 300 by omega)
    obtain ⟨-, p2, -, p2b⟩ := pc_at g hY5 h0 (show v0 < 300 by omega)
    have hmono := pc_mono g hY5 h0 (v0 + 1) (by omega) 0 (by omega)
    have p1 : s.1 12 = nI (PC s 0) := p1
    have epc : (sYs (v0 + 1) s).1 12 - s.1 12 = nI (PC s (v0 + 1) - PC s 0) := by
      rw [p2, p1, nIs hmono]
    rw [epc] at i1 y1
    rcases first_pc g hY5 h0 (v := v0 + 1) (by omega) with ⟨f1, k, f2, f3⟩ | ⟨f1, f2⟩
    · rw [f3] at i3
      obtain ⟨M', R', n', h', t1, t2⟩ := th_134 hn4 we4 g hY5 h0 x 1
      refine ⟨M', R', n', h', ?_, t2⟩
      have z1 : (nI (k + 1) = (-2000000004 : Int32)) = False := nI_nf (by omega)
      have z2 : (nI (v0 + 1) < nI (k + 1)) = False := lF (by omega) (by omega)
      have z3 : (nI (PC s (v0 + 1) - PC s 0) ≤ (0 : Int32)) = False := leF (b := 0) (by omega) (by omega)
      have t125 : fs_L_thoughts_125 T (ad 0) x (nI (PC s (v0 + 1) - PC s 0)) (nI Y) ((s.1 10 + nI (tot s.2.1 Y nb)).toInt64) 1 M4 R4 = some (1, M', R') := by
        unfold fs_L_thoughts_125
        simp only [z3, ↓reduceIte, t1]
      simp only [↓cal_q lo, e1, bnd_e, ↓chk_q w0, ↓cal_q i1, ↓cal_q i2, ↓cal_q i3, ↓cal_q c1, ↓cal_q a4, xY, ↓reduceIte, ↓calR_q y1, eself, ↓cal_q a4', lgE, z1, z2, t125]
    · obtain ⟨M', R', n', h', t1, t2⟩ := th_134 hn4 we4 g hY5 h0 x 0
      refine ⟨M', R', n', h', ?_, t2⟩
      have z3 : (nI (PC s (v0 + 1) - PC s 0) ≤ (0 : Int32)) = True := eq_true (by
        rw [show PC s (v0 + 1) - PC s 0 = 0 by omega]
        decide)
      have t124 : fs_L_thoughts_124 T (ad 0) x (nI (PC s (v0 + 1) - PC s 0)) (nI Y) ((s.1 10 + nI (tot s.2.1 Y nb)).toInt64) M4 R4 = some (1, M', R') := by
        unfold fs_L_thoughts_124 fs_L_thoughts_125
        simp only [z3, ↓reduceIte, t1]
      rcases f2 with f2 | ⟨k, k1, k2, f2⟩
      · rw [f2] at i3
        simp only [↓cal_q lo, e1, bnd_e, ↓chk_q w0, ↓cal_q i1, ↓cal_q i2, ↓cal_q i3, ↓cal_q c1, ↓cal_q a4, xY, ↓reduceIte, ↓calR_q y1, eself, ↓cal_q a4', lgE, t124]
      · rw [f2] at i3
        have z1 : (nI (k + 1) = (-2000000004 : Int32)) = False := nI_nf (by omega)
        have z2 : (nI (v0 + 1) < nI (k + 1)) = True := lT (by omega) (by omega)
        simp only [↓cal_q lo, e1, bnd_e, ↓chk_q w0, ↓cal_q i1, ↓cal_q i2, ↓cal_q i3, ↓cal_q c1, ↓cal_q a4, xY, ↓reduceIte, ↓calR_q y1, eself, ↓cal_q a4', lgE, z1, z2, t124]
  · have y1 := c_yearsL w3 g hY5 (v := v0 + 1) h0 (by omega) (by omega) hYv
    have xY : (nI Y + nI (v0 + 1) ≤ (500 : Int32)) = False := by
      rw [nI_add, l500]
      exact leF (by omega) (by omega)
    refine ⟨M3, R, n, h, ?_, we3⟩
    simp only [↓cal_q lo, e1, bnd_e, ↓chk_q w0, ↓cal_q i1, ↓cal_q i2, ↓cal_q i3, ↓cal_q c1, ↓cal_q a4, xY, ↓reduceIte, ↓calR_q y1, eself, lgE]
