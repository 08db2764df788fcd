/-! the law's year -/
abbrev J25 : Type := Int32 → (Nat → Int32) → (Nat → Int32) → (Nat → Int32) → Int32 → Int32 → Int64 → Int64 → Int32 → Int32 → Mm → Rm → Option (Int32 × Mm × Rm)
def Fil (s : Sx) (f2 f3 f4 : Nat → Int32) (b : Nat) : Prop := ∀ j, j < b → f2 j = nI (ic s j) ∧ f3 j = nI (snS s.1 j) ∧ f4 j = nI (mlS s.1 j)
theorem yr_25 {ad : Nat → Nat} {T : Ty} {M : Mm} {R : Rm} {s : Sx} {n : Nat} {h : Nat → Sx} (w : WQ ad T M R s n h) {Y nb ns : Nat} (g : GS (1000000 * nb + 300000 * Y) Y nb ns s) (hY5 : Y ≤ 500) (J : J25) (h0 : 0 < nb) (z : Int32 → (Nat → Int32) → (Nat → Int32) → (Nat → Int32) → Int32 → Mm → Rm → Option (Int32 × Mm × Rm)) {o : Option (Int32 × Mm × Rm)} (hE : ∀ j25 f2 f3 f4, Fil s f2 f3 f4 nb → fs_L_year_25 T (ad 0) j25 J (nI nb) f2 f3 f4 (nI nb) M R = o) : ∀ d b f2 f3 f4 fuel, b + d = nb → Fil s f2 f3 f4 b → d < fuel → fb_L_year_25 T (ad 0) J fuel (nI nb) f2 f3 f4 (nI b) M R = o := by
  have w0 := (WQ_n w).2
  have hnb := g.2.2.2.2.2.1
  have n7 := g.2.2.2.2.2.2.2.1
  intro d
  induction d with
  | zero =>
    intro b f2 f3 f4 fuel h1 h2 hf
    obtain ⟨n', rfl⟩ : ∃ n', fuel = n' + 1 := ⟨fuel - 1, by omega⟩
    obtain rfl : b = nb := by omega
    rw [fbs_L_year_25]
    exact hE _ f2 f3 f4 h2
  | succ d ih =>
    intro b f2 f3 f4 fuel h1 h2 hf
    obtain ⟨n', rfl⟩ : ∃ n', fuel = n' + 1 := ⟨fuel - 1, by omega⟩
    have hb : b < nb := by omega
    have q3 : fn_X6_bandInfo T R (ad 0) (nI b) 3 M = some (_, M) := r_b3 w g hY5 hb
    have q7 : fn_X6_bandInfo T R (ad 0) (nI b) 7 M = some (_, M) := r_b7 w g hY5 hb
    have q8 : fn_X6_bandInfo T R (ad 0) (nI b) 8 M = some (_, M) := r_b8 w g hY5 hb
    have eic : sm (s.2.1 b) (Y + 1) = ic s b := by
      unfold ic
      rw [n7]
    rw [eic] at q3
    have c : (nI nb ≤ nI b) = False := leF hb (by omega)
    have cl : (nI b).toNatClampNeg = b := nI_clamp (by omega)
    have ci : inb (nI b) 10 = true := by
      have := chk_inb (α := Unit) (k := b) (n := 10) (x := some ()) (by omega) (by omega)
      unfold chk at this
      split at this
      · assumption
      · cases this
    have ih' := ih (b + 1) (upd f2 b (nI (ic s b))) (upd f3 b (nI (snS s.1 b))) (upd f4 b (nI (mlS s.1 b))) n' (by omega) (fun j hj => by
      by_cases hjb : j = b
      · subst hjb
        rw [pk_us, pk_us, pk_us]
        exact ⟨rfl, rfl, rfl⟩
      · rw [pk_un hjb, pk_un hjb, pk_un hjb]
        exact h2 j (by omega)) (by omega)
    rw [fbs_L_year_25]
    unfold fs_L_year_25
    simp only [c, ↓reduceIte, ↓chk_q w0, ↓cal_q q3, ↓chk_q ci, bnd_e, ↓cal_q q7, ↓cal_q q8, cl, nI_p1]
    exact ih'
theorem yr_182 {ad : Nat → Nat} {T : Ty} {M : Mm} {R : Rm} {s : Sx} {n : Nat} {h : Nat → Sx} (w : WQ ad T M R (sY s) n h) {Y nb ns : Nat} (g : GS (1000000 * nb + 300000 * Y) Y nb ns s) (g' : GS (1000000 * nb + 300000 * (Y + 1)) (Y + 1) nb ns (sY s)) (hY5 : Y < 500) (h0 : 0 < nb) {f2 f3 f4 : Nat → Int32} (hf : Fil s f2 f3 f4 nb) {F r P sz rs : Nat} (m10 : s.1 10 = nI F) (m11 : s.1 11 = nI r) (m12 : s.1 12 = nI P) (m5 : s.1 5 = nI sz) (m6 : s.1 6 = nI rs) (r50 : r ≤ 50) (rs2 : rs ≤ 50) (sz1 : 1 ≤ sz) (sz2 : sz ≤ 1000000) (hF : F + gv s (nb - 1) < 2 ^ 30) (hP : P + F + gv s (nb - 1) < 2 ^ 30) {D : Nat} (hD : (if 0 < r then 0 else (F + gv s (nb - 1)) / sz) = D) (yo : ∀ j, j < 7 ∨ j = 8 ∨ j = 9 → (sY s).1 j = s.1 j) (yb : ∀ b k, b < nb → k < 3 → (sY s).1 (14 + 6 * b + k) = s.1 (14 + 6 * b + k)) (yw : ∀ b, b < nb → (sY s).1 (14 + 6 * b + 3) = nI (wv s b) ∧ (sY s).1 (14 + 6 * b + 4) = nI (gv s b) ∧ (sY s).1 (14 + 6 * b + 5) = nI (pv s b) ∧ sm ((sY s).2.1 b) (Y + 2) + gv s b = th s b + pv s b) (y10 : (sY s).1 10 = nI (F + gv s (nb - 1) - D * sz)) (y11 : (sY s).1 11 = nI (if 0 < r then r - 1 else if (F + gv s (nb - 1)) / sz = 0 then 0 else rs)) (y12 : (sY s).1 12 = nI (P + D)) (y13 : (sY s).1 13 = (if D = 0 then s.1 13 else nI (Y + 1))) (ya1 : (sY s).2.2 1 = accL (fun b => snS s.1 b) (s.2.2 1) nb) (ya2 : (sY s).2.2 2 = accL (fun b => wv s b) (s.2.2 2) nb) : ∀ d b fuel, b + d = nb → d < fuel → fb_L_year_182 T (ad 0) (fs_L_year_373 T (ad 0)) fuel (nI nb) f2 f3 f4 (nI F) (nI r) (accL (fun b => snS s.1 b) (s.2.2 1) b) (accL (fun b => wv s b) (s.2.2 2) b) (nI Y) (nI D) (nI (pv s b)) (nI b) M R = some (1, M, R) := by
  have w0 := (WQ_n w).2
  have hnb := g.2.2.2.2.2.1
  have n7 := g.2.2.2.2.2.2.2.1
  have n8 := g.2.2.2.2.2.2.2.2.1
  have I := g.1.1
  have hth : ∀ b, b < nb → ic s b ≤ 1000000 * nb + 300000 * Y ∧ gv s b ≤ th s b := fun b hb => by
    have h1 := JV_le g.1 (b := b) (by omega)
    have h2 := (I.2.2.2.2.2.2.2.2.2.2.1 b (by omega)).2.2.2.2
    have h3 : th s b * nt (s.1 (14 + 6 * b + 2)) ≤ th s b * 500 := Nat.mul_le_mul_left _ h2
    refine ⟨h1, ?_⟩
    unfold gv
    omega
  have hDz : D * sz ≤ F + gv s (nb - 1) := by
    rw [← hD]
    split
    · omega
    · exact Nat.div_mul_le_self _ _
  have hDl : D ≤ D * sz := Nat.le_mul_of_pos_right D (by omega)
  intro d
  induction d with
  | zero =>
    intro b fuel h1 hfu
    obtain ⟨n', rfl⟩ : ∃ n', fuel = n' + 1 := ⟨fuel - 1, by omega⟩
    obtain rfl : b = nb := by omega
    have c11 : fn_X6_count T R (ad 0) 11 M = some (_, M) := r_c6 w g' (by omega) (j := 11) (by omega) (by omega)
    have c12 : fn_X6_count T R (ad 0) 12 M = some (_, M) := r_c6 w g' (by omega) (j := 12) (by omega) (by omega)
    have a1 : fn_X6_account T R (ad 0) 1 M = some (_, M) := r_a1 w g' (by omega)
    have a2 : fn_X6_account T R (ad 0) 2 M = some (_, M) := r_a2 w g' (by omega)
    have f0 : fn_X6_front T R (ad 0) 0 M = some (_, M) := r_f0 w g' (by omega)
    have f1 : fn_X6_front T R (ad 0) 1 M = some (_, M) := r_f1 w g' (by omega)
    have f3' : fn_X6_front T R (ad 0) 3 M = some (_, M) := r_f3 w g' (by omega) y12 (by omega)
    have e5 : (sY s).1 (11 - 6) = nI sz := (yo 5 (by omega)).trans m5
    have e6 : (sY s).1 (12 - 6) = nI rs := (yo 6 (by omega)).trans m6
    rw [e5] at c11
    rw [e6] at c12
    rw [ya1] at a1
    rw [ya2] at a2
    rw [y10] at f0
    rw [y11] at f1
    have epv : pv s b = gv s (b - 1) := if_neg (by omega)
    have cle : (nI b ≤ nI b) = True := eq_true (Int32.le_refl _)
    have cs : (¬ nI sz = (0 : Int32)) := by
      rw [l0, nI_eq (by omega) (by omega)]
      omega
    have eself : ∀ x : Int32, (x = x) = True := fun x => eq_true rfl
    have esub : nI (F + gv s (b - 1)) - nI D * nI sz = nI (F + gv s (b - 1) - D * sz) := by
      rw [pk_mul, nIs hDz]
    rw [fbs_L_year_182]
    unfold fs_L_year_182
    rw [epv]
    -- the last row of checks
    have t466 : fs_L_year_466 T (ad 0) f2 f3 f4 (nI r) (nI D) M R = some (1, M, R) := by
      unfold fs_L_year_466
      by_cases hr : 0 < r
      · have x1 : ((0 : Int32) < nI r) = True := lT (a := 0) hr (by omega)
        simp only [x1, ↓reduceIte]
      · have x1 : ((0 : Int32) < nI r) = False := lF (b := r) (a := 0) (by omega) (by omega)
        by_cases hd : 0 < D
        · have x2 : ((0 : Int32) < nI D) = True := lT (a := 0) hd (by omega)
          simp only [x1, x2, ↓reduceIte]
        · have x2 : ((0 : Int32) < nI D) = False := lF (b := D) (a := 0) (by omega) (by omega)
          rw [if_neg hr] at hD
          have x3 : (nI (if 0 < r then r - 1 else if (F + gv s (b - 1)) / sz = 0 then 0 else rs) = (0 : Int32)) = True := eq_true (by
            rw [if_neg hr, if_pos (by omega)]
            rfl)
          simp only [x1, x2, ↓reduceIte, ↓chk_q w0, ↓cal_q f1, x3]
    have t451 : fs_L_year_451 T (ad 0) f2 f3 f4 (nI r) (nI sz) (nI D) M R = some (1, M, R) := by
      unfold fs_L_year_451
      by_cases hr : 0 < r
      · have x1 : ((0 : Int32) < nI r) = True := lT (a := 0) hr (by omega)
        simp only [x1, ↓reduceIte, t466]
      · have x1 : ((0 : Int32) < nI r) = False := lF (b := r) (a := 0) (by omega) (by omega)
        rw [if_neg hr] at hD
        have hlt : F + gv s (b - 1) - D * sz < sz := by
          have h1 := Nat.div_add_mod (F + gv s (b - 1)) sz
          have h2 := Nat.mod_lt (F + gv s (b - 1)) (show sz > 0 by omega)
          rw [hD, Nat.mul_comm] at h1
          omega
        have x4 : (nI sz ≤ nI (F + gv s (b - 1) - D * sz)) = False := leF hlt (by omega)
        simp only [x1, ↓reduceIte, ↓chk_q w0, ↓cal_q f0, x4, t466]
    have t373 : fs_L_year_373 T (ad 0) f2 f3 f4 (nI (F + gv s (b - 1))) (nI r) (accL (fun b => snS s.1 b) (s.2.2 1) b) (accL (fun b => wv s b) (s.2.2 2) b) (nI Y) (nI D) (nI sz) (nI D) M R = some (1, M, R) := by
      unfold fs_L_year_373
      by_cases hd : D = 0
      · have x1 : (nI D = (0 : Int32)) = True := eq_true (by rw [hd]; rfl)
        simp only [↓chk_q w0, ↓cal_q a1, lgE, ↓reduceIte, ↓cal_q a2, eself, ↓cal_q f0, esub, x1, t451]
      · have x1 : (nI D = (0 : Int32)) = False := eF (b := 0) hd (by omega) (by omega)
        have hr : ¬ 0 < r := fun hr => by
          rw [if_pos hr] at hD
          omega
        rw [if_neg hr] at hD
        have e1 : (if 0 < r then r - 1 else if (F + gv s (b - 1)) / sz = 0 then 0 else rs) = rs := by
          rw [if_neg hr, if_neg (by omega)]
        rw [e1] at f1
        rw [if_neg (show ¬ P + D = 0 by omega), y13, if_neg hd] at f3'
        simp only [↓chk_q w0, ↓cal_q a1, lgE, ↓reduceIte, ↓cal_q a2, eself, ↓cal_q f0, esub, x1, ↓cal_q f1, ↓cal_q c12, ↓cal_q f3', nI_p1, t451]
    by_cases hr : 0 < r
    · have x1 : (nI r ≤ (0 : Int32)) = False := leF (b := 0) hr (by omega)
      have hd : D = 0 := by rw [← hD, if_pos hr]
      rw [hd] at t373
      have e0 : (nI 0 : Int32) = 0 := rfl
      rw [e0] at t373
      simp only [cle, ↓reduceIte, ↓chk_q w0, ↓cal_q c11, nI_add, bnd_e, x1, hd]
      exact t373
    · have x1 : (nI r ≤ (0 : Int32)) = True := eq_true (by
        rw [show r = 0 by omega]
        decide)
      rw [if_neg hr] at hD
      have ed : nI (F + gv s (b - 1)) / nI sz = nI D := by
        rw [nI_d (by omega) (by omega) (by omega), hD]
      simp only [cle, ↓reduceIte, ↓chk_q w0, ↓cal_q c11, nI_add, bnd_e, x1, chk_d cs, ed]
      exact t373
  | succ d ih =>
    intro b fuel h1 hfu
    obtain ⟨n', rfl⟩ : ∃ n', fuel = n' + 1 := ⟨fuel - 1, by omega⟩
    have hb : b < nb := by omega
    have ih' := ih (b + 1) n' (by omega) (by omega)
    obtain ⟨g2, g3, g4⟩ := hf b hb
    obtain ⟨w3, w4, w5, w6⟩ := yw b hb
    obtain ⟨hic, hgt⟩ := hth b hb
    have hsn := snS_le I (b := b) (by omega)
    have hml := mlS_le I (b := b) (by omega)
    have hwv := wv_le s b
    have q9 : fn_X6_bandInfo T R (ad 0) (nI b) 9 M = some (_, M) := r_b9 w g' (by omega) hb
    have q10 : fn_X6_bandInfo T R (ad 0) (nI b) 10 M = some (_, M) := r_b10 w g' (by omega) hb
    have q2 : fn_X6_bandInfo T R (ad 0) (nI b) 2 M = some (_, M) := r_b2 w g' (by omega) hb
    have q11 : fn_X6_bandInfo T R (ad 0) (nI b) 11 M = some (_, M) := r_b11 w g' (by omega) hb
    have q3 : fn_X6_bandInfo T R (ad 0) (nI b) 3 M = some (_, M) := r_b3 w g' (by omega) hb
    obtain ⟨ec, -, c5⟩ := (I.2.2.2.2.2.2.2.2.2.2.1 b (by omega)).2.2
    rw [w3] at q9
    rw [w4] at q10
    rw [yb b 2 hb (by omega), ec] at q2
    rw [w5] at q11
    have w6 : sm ((sY s).2.1 b) (Y + 1 + 1) + gv s b = th s b + pv s b := w6
    have e3 : sm ((sY s).2.1 b) (Y + 1 + 1) = th s b - gv s b + pv s b := by omega
    rw [e3] at q3
    have cl : (nI b).toNatClampNeg = b := nI_clamp (by omega)
    have ci : inb (nI b) 10 = true := by
      have := chk_inb (α := Unit) (k := b) (n := 10) (x := some ()) (by omega) (by omega)
      unfold chk at this
      split at this
      · assumption
      · cases this
    have c : (nI nb ≤ nI b) = False := leF hb (by omega)
    have eth : nI (ic s b) + nI (snS s.1 b) - nI (wv s b) = nI (th s b) := by
      rw [nI_add, nIs hwv]
      rfl
    have egv : ((nI (th s b)).toInt64 * (nI (nt (s.1 (14 + 6 * b + 2)))).toInt64 / 1000).toInt32 = nI (gv s b) := by
      have hlt : th s b < 2 ^ 31 := by
        unfold th
        omega
      exact gv_l hlt c5
    have eic3 : nI (th s b) - nI (gv s b) + nI (pv s b) = nI (th s b - gv s b + pv s b) := by
      rw [nIs hgt, nI_add]
    have epv : nI (gv s b) = nI (pv s (b + 1)) := rfl
    have eself : ∀ x : Int32, (x = x) = True := fun x => eq_true rfl
    have t258 : ∀ j182, fs_L_year_258 T (ad 0) j182 (nI nb) f2 f3 f4 (nI F) (nI r) (accL (fun b => snS s.1 b) (s.2.2 1) b) (accL (fun b => wv s b) (s.2.2 2) b) (nI Y) (nI D) (nI (pv s b)) (nI b) (nI (wv s b)) (nI (th s b)) (nI (gv s b)) (nI (wv s b)) (nI (wv s b)) M R = j182 (nI nb) f2 f3 f4 (nI F) (nI r) (accL (fun b => snS s.1 b) (s.2.2 1) (b + 1)) (accL (fun b => wv s b) (s.2.2 2) (b + 1)) (nI Y) (nI D) (nI (pv s (b + 1))) (nI (b + 1)) M R := fun j182 => by
      unfold fs_L_year_258
      simp only [eself, ↓reduceIte, ↓chk_q w0, ↓cal_q q2, egv, ↓cal_q q11, ↓cal_q q3, eic3, ↓chk_q ci, bnd_e, cl, g3, nI_p1]
      rfl
    rw [fbs_L_year_182]
    unfold fs_L_year_182
    by_cases hm : ic s b + snS s.1 b ≤ mlS s.1 b
    · have ew : wv s b = ic s b + snS s.1 b := Nat.min_eq_right hm
      have x1 : (nI (ic s b) + nI (snS s.1 b) ≤ nI (mlS s.1 b)) = True := by
        rw [nI_add]
        exact leT hm (by omega)
      have x2 : nI (ic s b) + nI (snS s.1 b) = nI (wv s b) := by rw [nI_add, ew]
      simp only [c, ↓reduceIte, ↓chk_q w0, ↓cal_q q9, ↓chk_q ci, bnd_e, cl, g2, g3, g4, ↓cal_q q10, x1]
      rw [eth, x2, t258]
      exact ih'
    · have ew : wv s b = mlS s.1 b := Nat.min_eq_left (by omega)
      have x1 : (nI (ic s b) + nI (snS s.1 b) ≤ nI (mlS s.1 b)) = False := by
        rw [nI_add]
        exact leF (by omega) (by omega)
      simp only [c, ↓reduceIte, ↓chk_q w0, ↓cal_q q9, ↓chk_q ci, bnd_e, cl, g2, g3, g4, ↓cal_q q10, x1]
      rw [eth, ← ew, t258]
      exact ih'
theorem yr_law {ad : Nat → Nat} {T : Ty} {M : Mm} {R : Rm} {s : Sx} {n : Nat} {h : Nat → Sx} (w : WQ ad T M R s n h) {Y nb ns : Nat} (g : GS (1000000 * nb + 300000 * Y) Y nb ns s) (hY5 : Y ≤ 500) (hz : Zs s) (h0 : 0 < nb) (hY : Y < 500) : ∃ M' R', fn_L_year T (ad 0) M R = some (1, M', R') ∧ WQ ad T M' R' (sY s) (np n) (hp n h s) := by
  have w0 := (WQ_n w).2
  have hnb := g.2.2.2.2.2.1
  have n7 := g.2.2.2.2.2.2.2.1
  obtain ⟨M', R', p1, p2⟩ := c_years w g hY5 hz h0 (v := 1) (by omega) (by omega) (by omega)
  obtain ⟨-, g', -⟩ := OK_Ys g hz 1 (by omega)
  have p2 : WQ ad T M' R' (sY s) (np n) (hp n h s) := p2
  have g' : GS (1000000 * nb + 300000 * (Y + 1)) (Y + 1) nb ns (sY s) := g'
  obtain ⟨F, r, P, sz, rs, m10, m11, m12, m5, m6, r50, rs2, sz1, sz2, hF, hP, hFK, y7, yo, yb, yw, y10, y11, y12, y13, ya0, ya1, ya2, ya3, ys⟩ := yr_all g (by omega) h0 (by omega)
  have p1 : fn_X6_years T (ad 0) 1 M R = some ((sY s).1 12 - s.1 12, M', R') := p1
  generalize hD : (if 0 < r then 0 else (F + gv s (nb - 1)) / sz) = D at y10 y12 y13 ya3
  have hDz : D * sz ≤ F + gv s (nb - 1) := by
    rw [← hD]
    split
    · omega
    · exact Nat.div_mul_le_self _ _
  have hDl : D ≤ D * sz := Nat.le_mul_of_pos_right D (by omega)
  have eD : (sY s).1 12 - s.1 12 = nI D := by
    rw [y12, m12, nIs (by omega), Nat.add_sub_cancel_left]
  rw [eD] at p1
  refine ⟨M', R', ?_, p2⟩
  have w0' := (WQ_n p2).2
  have c0 : fn_X6_count T R (ad 0) 0 M = some (_, M) := r_c0 w g hY5
  have f0 : fn_X6_front T R (ad 0) 0 M = some (_, M) := r_f0 w g hY5
  have f1 : fn_X6_front T R (ad 0) 1 M = some (_, M) := r_f1 w g hY5
  have f2 : fn_X6_front T R (ad 0) 2 M = some (_, M) := r_f2 w g hY5
  have a1 : fn_X6_account T R (ad 0) 1 M = some (_, M) := r_a1 w g hY5
  have a2 : fn_X6_account T R (ad 0) 2 M = some (_, M) := r_a2 w g hY5
  have c1 : fn_X6_count T R (ad 0) 1 M = some (_, M) := r_c1 w g hY5
  have c1' : fn_X6_count T R' (ad 0) 1 M' = some (_, M') := r_c1 p2 g' (by omega)
  have f1' : fn_X6_front T R' (ad 0) 1 M' = some (_, M') := r_f1 p2 g' (by omega)
  have f2' : fn_X6_front T R' (ad 0) 2 M' = some (_, M') := r_f2 p2 g' (by omega)
  rw [m10] at f0
  rw [m11] at f1
  rw [m12] at f2
  rw [y11] at f1'
  rw [y12] at f2'
  have eself : ∀ x : Int32, (x = x) = True := fun x => eq_true rfl
  have xD : (nI D < (0 : Int32)) = False := eq_false (nI_pos (by omega))
  have main := yr_25 w g hY5 (fs_L_year_176 T (ad 0)) h0 (fun _ _ _ _ _ _ _ => none) (o := some (1, M', R')) (fun j25 ga gb gc hfil => by
    have t176 : fs_L_year_176 T (ad 0) (nI nb) ga gb gc (nI F) (nI r) (s.2.2 1) (s.2.2 2) (nI Y) (nI D) M' R' = some (1, M', R') := by
      have k := yr_182 p2 g g' hY h0 hfil m10 m11 m12 m5 m6 r50 rs2 sz1 sz2 hF hP hD yo yb yw y10 y11 y12 y13 ya1 ya2 nb 0 FU (by omega) (FU_gt (by omega))
      unfold fs_L_year_176
      exact k
    have cle : (nI nb ≤ nI nb) = True := eq_true (Int32.le_refl _)
    unfold fs_L_year_25
    by_cases hr : 0 < r
    · have x1 : (nI r ≤ (0 : Int32)) = False := leF (b := 0) hr (by omega)
      have hd : D = 0 := by rw [← hD, if_pos hr]
      have x2 : (nI D = (0 : Int32)) = True := eq_true (by rw [hd]; rfl)
      rw [if_pos hr] at f1'
      have x3 : nI r - (1 : Int32) = nI (r - 1) := by rw [l1, nIs (by omega)]
      simp only [cle, ↓reduceIte, ↓chk_q w0, ↓cal_q f0, ↓cal_q f1, ↓cal_q f2, ↓cal_q a1, ↓cal_q a2, ↓cal_q c1, ↓calR_q p1, xD, ↓cal_q c1', nI_p1, eself, ↓cal_q f2', nI_add, x1, x2, ↓cal_q f1', x3, t176]
    · have x1 : (nI r ≤ (0 : Int32)) = True := eq_true (by
        rw [show r = 0 by omega]
        decide)
      simp only [cle, ↓reduceIte, ↓chk_q w0, ↓cal_q f0, ↓cal_q f1, ↓cal_q f2, ↓cal_q a1, ↓cal_q a2, ↓cal_q c1, ↓calR_q p1, xD, ↓cal_q c1', nI_p1, eself, ↓cal_q f2', nI_add, x1, t176]) nb 0 (fun _ => 0) (fun _ => 0) (fun _ => 0) FU (by omega) (fun j hj => absurd hj (by omega)) (FU_gt (by omega))
  unfold fn_L_year
  simp only [↓chk_q w0, ↓cal_q c0]
  exact main
