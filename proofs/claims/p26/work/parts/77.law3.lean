/-! the law's loop: a band; the loop itself -/
theorem rB_at {Y v : Nat} (h : 0 < v) : yl (rB Y v) (Y + 1) 0 0 = some Y := yl_first (fun z hz => if_neg (by omega)) (by
  show 0 < (if Y = Y then v else 0)
  rw [if_pos rfl]
  exact h) (by omega)
theorem l_230A {ad : Nat → Nat} {T : Ty} {L : Nat} {xs : Nat → Int32} {J : J78} {k H gg : Nat} {M : Mm} {R : Rm} {s : Sx} {n : Nat} {h : Nat → Sx} (hJ : Gd ad T J (k + 1)) (w : WE ad T M R s n h) (hH : H ≤ 5000) (hg : gg ≤ 3 * k) {nb t : Nat} (n8 : nt (s.1 8) = nb) (ht : t ≤ 5000) (hlow : nb = 0 ∨ nI t < s.1 (14 + 6 * (nb - 1) + 0)) (x5 : Int32) : OKq (fs_L_law_230 T L xs (ad 0) J (nI H) (nI k) x5 (nI nb) (nI t) gg 1 M R) := by
  obtain ⟨Y, nb', ns, g, hY5, hz⟩ := WQ_GS w.1
  obtain rfl : nb' = nb := g.2.2.2.2.2.2.2.2.1.symm.trans n8
  have w0 := (WQ_n w.1).2
  have hnb := g.2.2.2.2.2.1
  obtain ⟨i, hi, lo1⟩ := low_z (T := T) (R := R) (x5 >>> ((4 : Int32) &&& 31)) (k := 20000) (by omega) (by omega) M
  obtain ⟨a, ha, lo2⟩ := low_z (T := T) (R := R) (x5 >>> ((7 : Int32) &&& 31)) (k := 900) (by omega) (by omega) M
  obtain ⟨c, hc, lo3⟩ := low_z (T := T) (R := R) (x5 >>> ((11 : Int32) &&& 31)) (k := 501) (by omega) (by omega) M
  have lo1 : fn_L_low T R (x5 >>> ((4 : Int32) &&& 31)) 20000 M = some (nI i, M) := lo1
  have lo2 : fn_L_low T R (x5 >>> ((7 : Int32) &&& 31)) 900 M = some (nI a, M) := lo2
  have lo3 : fn_L_low T R (x5 >>> ((11 : Int32) &&& 31)) 501 M = some (nI c, M) := lo3
  have e100 : (100 : Int32) + nI a = nI (100 + a) := by rw [l100, nI_add]
  have a0 : fn_X6_account T R (ad 0) 0 M = some (_, M) := r_a0 w.1 g hY5
  have eself : ∀ x : Int32, (x = x) = True := fun x => eq_true rfl
  have z10 : ((1 : Int32) = 0) = False := eq_false (by decide)
  obtain ⟨A, -⟩ := c_band_all w.1 g hY5 (x := t) (y := 100 + a) (z := c) (u := i) ht (by omega) (by omega) (by omega) (by omega)
  obtain ⟨A1, A2⟩ := A hlow
  unfold fs_L_law_230 fs_L_law_312 fs_L_law_381 fs_L_law_392
  by_cases hn : nb' < 10
  · obtain ⟨M', R', p1, p2⟩ := A1 hz hn
    have w' := WE_mk w p2 (EV_B g hY5 hn ht (by omega) hlow w.2.1)
    obtain ⟨Y', nb2, ns2, g2, hY2, hz2⟩ := WQ_GS p2
    have w0' := (WQ_n p2).2
    have n7 := g.2.2.2.2.2.2.2.1
    have em : (sB (nI t) (nI (100 + a)) (nI c) i s).1 = mB s.1 nb' (nI t) (nI (100 + a)) (nI c) := by
      show mB s.1 (nt (s.1 8)) _ _ _ = _
      rw [n8]
    have ef : (sB (nI t) (nI (100 + a)) (nI c) i s).2.1 = fset s.2.1 nb' (rB Y i) := by
      show fset s.2.1 (nt (s.1 8)) (rB (nt (s.1 7)) i) = _
      rw [n8, n7]
    have ea : (sB (nI t) (nI (100 + a)) (nI c) i s).2.2 0 = s.2.2 0 + (nI i).toInt64 := by
      show vp_updL s.2.2 0 (s.2.2 0 + (nI i).toInt64) 0 = _
      exact pk_uLs
    have k8 : nb2 = nb' + 1 := by
      rw [← g2.2.2.2.2.2.2.2.2.1, em, mB_8, g.2.2.1, nI_add, nt_nI (by omega)]
    have k7 : Y' = Y := by
      rw [← g2.2.2.2.2.2.2.2.1, em, mB_o (by omega) (by omega)]
      exact n7
    have efb : (sB (nI t) (nI (100 + a)) (nI c) i s).2.1 nb' = rB Y i := by rw [ef, fset_s]
    have b4 : mB s.1 nb' (nI t) (nI (100 + a)) (nI c) (14 + 6 * nb' + 4) = nI 0 := by
      unfold mB
      rw [pk_un (by omega), pk_us]
    have q3 : fn_X6_bandInfo T R' (ad 0) (nI nb') 3 M' = some (nI i, M') := by
      have hh := r_b3 p2 g2 hY2 (b := nb') (by omega)
      rw [efb, k7, rB_sum] at hh
      exact hh
    have q10 : fn_X6_bandInfo T R' (ad 0) (nI nb') 10 M' = some (0, M') := by
      have hh := r_b10 p2 g2 hY2 (b := nb') (by omega)
      rw [em, b4] at hh
      exact hh
    have a0' : fn_X6_account T R' (ad 0) 0 M' = some (_, M') := r_a0 p2 g2 hY2
    rw [ea] at a0'
    have c1' : fn_X6_count T R' (ad 0) 1 M' = some (nI Y, M') := by
      have hh := r_c1 p2 g2 hY2
      rw [k7] at hh
      exact hh
    have xn : ((nI nb' : Int32) < 0) = False := eq_false (nI_pos (by omega))
    have x10 : (nI nb' = (10 : Int32)) = False := eF (b := 10) (by omega) (by omega) (by omega)
    refine OKq_of ?_ (l_1051 (L := L) (xs := xs) hJ w' ht (show gg ≤ 3 * (k + 1) by omega) (by
      rw [em, mB_8, g.2.2.1, nI_add, nt_nI (by omega)]
      omega))
    by_cases hi0 : i = 0
    · have xi : (nI i ≤ (0 : Int32)) = True := eq_true (by rw [hi0]; decide)
      simp only [↓cal_q lo1, ↓chk_q w0, ↓cal_q a0, ↓cal_q lo2, ↓cal_q lo3, e100, ↓calR_q p1, z10, x10, ↓reduceIte, eself, xn, ↓cal_q q3, ↓cal_q a0', lgE, ↓cal_q q10, xi]
    · have xi : (nI i ≤ (0 : Int32)) = False := leF (b := 0) (by omega) (by omega)
      have ql : fn_X6_layer T R' (ad 0) (nI nb') 0 0 M' = some (nI Y, M') := by
        have hh := (r_l p2 g2 hY2 (b := nb') (i := 0) (by omega) (by omega)).1
        rw [efb, k7, rB_at (by omega), fO_s] at hh
        exact hh
      simp only [↓cal_q lo1, ↓chk_q w0, ↓cal_q a0, ↓cal_q lo2, ↓cal_q lo3, e100, ↓calR_q p1, z10, x10, ↓reduceIte, eself, xn, ↓cal_q q3, ↓cal_q a0', lgE, ↓cal_q q10, xi, ↓cal_q ql, ↓cal_q c1']
  · have hn10 : nb' = 10 := by omega
    have p1 := A2 hn10
    have x10 : (nI nb' = (10 : Int32)) = True := eq_true (by rw [hn10]; rfl)
    have y2 : ((-2000000003 : Int32) < 0) = True := eq_true (by decide)
    refine OKq_of ?_ (l_1051 (L := L) (xs := xs) hJ w hH (show gg ≤ 3 * (k + 1) by omega) (by omega))
    simp only [↓cal_q lo1, ↓chk_q w0, ↓cal_q a0, ↓cal_q lo2, ↓cal_q lo3, e100, ↓calR_q p1, z10, x10, ↓reduceIte, eself, y2]
theorem l_230B {ad : Nat → Nat} {T : Ty} {L : Nat} {xs : Nat → Int32} {J : J78} {k H gg : Nat} {M : Mm} {R : Rm} {s : Sx} {n : Nat} {h : Nat → Sx} (hJ : Gd ad T J (k + 1)) (w : WE ad T M R s n h) (hH : H ≤ 5000) (hg : gg ≤ 3 * k) {nb t : Nat} (n8 : nt (s.1 8) = nb) (ht : t ≤ 5000) (hlow : ¬ (nb = 0 ∨ nI t < s.1 (14 + 6 * (nb - 1) + 0))) (x5 : Int32) : OKq (fs_L_law_230 T L xs (ad 0) J (nI H) (nI k) x5 (nI nb) (nI t) gg 0 M R) := by
  obtain ⟨Y, nb', ns, g, hY5, hz⟩ := WQ_GS w.1
  obtain rfl : nb' = nb := g.2.2.2.2.2.2.2.2.1.symm.trans n8
  have w0 := (WQ_n w.1).2
  obtain ⟨i, hi, lo1⟩ := low_z (T := T) (R := R) (x5 >>> ((4 : Int32) &&& 31)) (k := 20000) (by omega) (by omega) M
  obtain ⟨a, ha, lo2⟩ := low_z (T := T) (R := R) (x5 >>> ((7 : Int32) &&& 31)) (k := 900) (by omega) (by omega) M
  obtain ⟨c, hc, lo3⟩ := low_z (T := T) (R := R) (x5 >>> ((11 : Int32) &&& 31)) (k := 501) (by omega) (by omega) M
  have lo1 : fn_L_low T R (x5 >>> ((4 : Int32) &&& 31)) 20000 M = some (nI i, M) := lo1
  have lo2 : fn_L_low T R (x5 >>> ((7 : Int32) &&& 31)) 900 M = some (nI a, M) := lo2
  have lo3 : fn_L_low T R (x5 >>> ((11 : Int32) &&& 31)) 501 M = some (nI c, M) := lo3
  have e100 : (100 : Int32) + nI a = nI (100 + a) := by rw [l100, nI_add]
  have a0 : fn_X6_account T R (ad 0) 0 M = some (_, M) := r_a0 w.1 g hY5
  have eself : ∀ x : Int32, (x = x) = True := fun x => eq_true rfl
  obtain ⟨-, B⟩ := c_band_all w.1 g hY5 (x := t) (y := 100 + a) (z := c) (u := i) ht (by omega) (by omega) (by omega) (by omega)
  have p1 := B hlow
  have y2 : ((-2000000002 : Int32) < 0) = True := eq_true (by decide)
  unfold fs_L_law_230 fs_L_law_312 fs_L_law_381 fs_L_law_392
  refine OKq_of ?_ (l_1051 (L := L) (xs := xs) hJ w hH (show gg ≤ 3 * (k + 1) by omega) (by omega))
  simp only [↓cal_q lo1, ↓chk_q w0, ↓cal_q a0, ↓cal_q lo2, ↓cal_q lo3, e100, ↓calR_q p1, ↓reduceIte, eself, y2]
theorem l_204 {ad : Nat → Nat} {T : Ty} {L : Nat} {xs : Nat → Int32} {J : J78} {k H gg : Nat} {M : Mm} {R : Rm} {s : Sx} {n : Nat} {h : Nat → Sx} (hJ : Gd ad T J (k + 1)) (w : WE ad T M R s n h) (hH : H ≤ 5000) (hg : gg ≤ 3 * k) {nb t : Nat} (n8 : nt (s.1 8) = nb) (ht : t ≤ 5000) (x5 : Int32) : OKq (fs_L_law_204 T L xs (ad 0) J (nI H) (nI k) x5 (nI nb) gg (nI t) M R) := by
  have hA := fun hlow => l_230A (L := L) (xs := xs) hJ w hH hg n8 ht hlow x5
  have hB := fun hlow => l_230B (L := L) (xs := xs) hJ w hH hg n8 ht hlow x5
  obtain ⟨Y, nb', ns, g, hY5, hz⟩ := WQ_GS w.1
  obtain rfl : nb' = nb := g.2.2.2.2.2.2.2.2.1.symm.trans n8
  have w0 := (WQ_n w.1).2
  have hnb := g.2.2.2.2.2.1
  unfold fs_L_law_204 fs_L_law_225
  by_cases h0 : nb' = 0
  · have x0 : (nI nb' = (0 : Int32)) = True := eq_true (by rw [h0]; rfl)
    refine OKq_of ?_ (hA (.inl h0))
    simp only [x0, ↓reduceIte]
  · have x0 : (nI nb' = (0 : Int32)) = False := eF (b := 0) h0 (by omega) (by omega)
    have e1 : nI nb' - (1 : Int32) = nI (nb' - 1) := by rw [l1, nIs (by omega)]
    have q0 : fn_X6_bandInfo T R (ad 0) (nI (nb' - 1)) 0 M = some (s.1 (14 + 6 * (nb' - 1)), M) := r_b0 w.1 g hY5 (b := nb' - 1) (by omega)
    by_cases c : nI t < s.1 (14 + 6 * (nb' - 1))
    · have x1 : (s.1 (14 + 6 * (nb' - 1)) ≤ nI t) = False := eq_false (Int32.not_le.mpr c)
      refine OKq_of ?_ (hA (.inr c))
      simp only [x0, ↓reduceIte, ↓chk_q w0, e1, ↓cal_q q0, q0, cal_e, x1]
    · have x1 : (s.1 (14 + 6 * (nb' - 1)) ≤ nI t) = True := eq_true (Int32.not_lt.mp c)
      refine OKq_of ?_ (hB (fun hh => hh.elim h0 c))
      simp only [x0, ↓reduceIte, ↓chk_q w0, e1, ↓cal_q q0, q0, cal_e, x1]
theorem to_c {H l : Nat} (hH : H ≤ 5000) (hl : l < 600) : (∃ t, t ≤ 5000 ∧ nI H - (1 : Int32) - nI l = nI t) ∨ ((0 : Int32) ≤ nI H - (1 : Int32) - nI l) = False := by
  have e : (nI H - (1 : Int32) - nI l).toInt = (H : Int) - 1 - l := by
    rw [l1, Int32.toInt_sub, pk_sub_toInt (by omega) (by omega), nI_toInt (by omega), bm32 (by omega) (by omega)]
    omega
  have ez := zI_of e
  by_cases c : 0 ≤ (H : Int) - 1 - l
  · left
    refine ⟨((H : Int) - 1 - l).toNat, by omega, ?_⟩
    rw [ez, zI_toNat c]
  · right
    rw [ez, l0, zI_pos (by omega) (by omega)]
    exact eq_false c
theorem l_bandp {ad : Nat → Nat} {T : Ty} {L : Nat} {xs : Nat → Int32} {J : J78} {k H gg : Nat} {M : Mm} {R : Rm} {s : Sx} {n : Nat} {h : Nat → Sx} (hJ : Gd ad T J (k + 1)) (w : WE ad T M R s n h) (hH : H ≤ 5000) (hg : gg ≤ 3 * k) {nb : Nat} (n8 : nt (s.1 8) = nb) (x5 b : Int32) : OKq (fs_L_law_156 T L xs (ad 0) J (nI H) (nI k) x5 (nI nb) 0 gg b M R) := by
  have h204 := fun t ht => l_204 (L := L) (xs := xs) hJ w hH hg (t := t) n8 ht x5
  obtain ⟨u, hu, lo1⟩ := low_z (T := T) (R := R) (x5 >>> ((20 : Int32) &&& 31)) (k := 4) (by omega) (by omega) M
  have lo1 : fn_L_low T R (x5 >>> ((20 : Int32) &&& 31)) 4 M = some (nI u, M) := lo1
  obtain ⟨l, hl, lo2⟩ := low_z (T := T) (R := R) x5 (k := 600) (by omega) (by omega) M
  have lo2 : fn_L_low T R x5 600 M = some (nI l, M) := lo2
  have eself : ∀ x : Int32, (x = x) = True := fun x => eq_true rfl
  unfold fs_L_law_156
  by_cases hu0 : u = 0
  · have x0 : (nI u = (0 : Int32)) = True := eq_true (by rw [hu0]; rfl)
    have x1 : ((0 : Int32) ≤ nI H) = True := leT (a := 0) (by omega) (by omega)
    refine OKq_of ?_ (h204 H hH)
    unfold fs_L_law_191
    simp only [eself, ↓reduceIte, ↓cal_q lo1, x0, x1]
  · have x0 : (nI u = (0 : Int32)) = False := eF (b := 0) hu0 (by omega) (by omega)
    rcases to_c hH hl with ⟨t, ht, et⟩ | hneg
    · have x1 : ((0 : Int32) ≤ nI t) = True := leT (a := 0) (by omega) (by omega)
      refine OKq_of ?_ (h204 t ht)
      unfold fs_L_law_191
      simp only [eself, ↓reduceIte, ↓cal_q lo1, x0, ↓cal_q lo2, et, x1]
    · refine OKq_of ?_ (h204 0 (by omega))
      unfold fs_L_law_191
      simp only [eself, ↓reduceIte, ↓cal_q lo1, x0, ↓cal_q lo2, hneg]
      rfl
theorem l_156 {ad : Nat → Nat} {T : Ty} {L : Nat} {xs : Nat → Int32} {J : J78} {k H gg : Nat} {M : Mm} {R : Rm} {s : Sx} {n : Nat} {h : Nat → Sx} (hJ : Gd ad T J (k + 1)) (hk : k < 50) (w : WE ad T M R s n h) (hH : H ≤ 5000) (hg : gg ≤ 3 * k) {nb b : Nat} (n8 : nt (s.1 8) = nb) (hb : b < nb) (x5 x7 : Int32) : OKq (fs_L_law_156 T L xs (ad 0) J (nI H) (nI k) x5 (nI nb) x7 gg (nI b) M R) := by
  by_cases h0 : x7 = 0
  · rw [h0]
    exact l_bandp hJ w hH hg n8 x5 _
  by_cases h3 : (3 : Int32) ≤ x7
  · by_cases h33 : x7 = 3
    · rw [h33]
      exact l_stake hJ w hH hg n8 hb x5
    · refine OKq_of ?_ (l_722 (L := L) (xs := xs) hJ hk w hH hg n8 hb x5 x7)
      unfold fs_L_law_156
      simp only [h0, h3, h33, ↓reduceIte]
  · exact l_setting hJ w hH hg (by omega) x5 _ x7 _ h0 h3
theorem lot_r {L : Nat} (xs : Nat → Int32) (hL : L ≤ 260) {i : Nat} (hi : i < 2 ^ 31) : ∃ r, fn_L_lot L xs (nI i) = some r := by
  unfold fn_L_lot
  by_cases c : L ≤ i
  · have x : (Int32.ofNat L ≤ nI i) = True := leT c hi
    simp only [x, ↓reduceIte]
    exact ⟨_, rfl⟩
  · have x : (Int32.ofNat L ≤ nI i) = False := leF (by omega) (by omega)
    simp only [x, ↓reduceIte]
    rw [chk_inb hi (by omega)]
    exact ⟨_, rfl⟩
theorem calX_q {α : Type} {q : Option Int32} {r : Int32} (h : q = some r) (k : Int32 → Option α) : calX q k = k r := by
  rw [h]
  rfl
theorem law_loop {ad : Nat → Nat} {T : Ty} {L : Nat} {xs : Nat → Int32} (hL : L ≤ 260) : ∀ d k fuel, k + d = 50 → d < fuel → Gd ad T (fb_L_law_78 T L xs (ad 0) fuel) k := by
  intro d
  induction d with
  | zero =>
    intro k fuel h1 hf H gg M R hI
    obtain ⟨n', rfl⟩ : ∃ n', fuel = n' + 1 := ⟨fuel - 1, by omega⟩
    obtain ⟨s, n, h, w, hH, hg, h0⟩ := hI
    obtain rfl : k = 50 := by omega
    obtain ⟨Y, nb, ns, g, hY5, hz⟩ := WQ_GS w.1
    have n8 := g.2.2.2.2.2.2.2.2.1
    have rf := rf_law w.1 g hY5
    obtain ⟨x, lx⟩ := lot_r xs hL (i := 101) (by omega)
    have lx : fn_L_lot L xs 101 = some x := lx
    obtain ⟨M', R', n', h', t1, t2⟩ := th_law w g hY5 hz (by have := h0 (by omega); omega) x
    have x50 : ((50 : Int32) ≤ nI 50) = True := eq_true (by decide)
    have z10 : ((1 : Int32) = 0) = False := eq_false (by decide)
    rw [fbs_L_law_78]
    refine ⟨M', R', ?_⟩
    unfold fs_L_law_78
    simp only [x50, ↓reduceIte, ↓calR_q rf, z10, ↓calX_q lx, ↓calR_q t1]
  | succ d ih =>
    intro k fuel h1 hf H gg M R hI
    obtain ⟨n', rfl⟩ : ∃ n', fuel = n' + 1 := ⟨fuel - 1, by omega⟩
    have hJ := ih (k + 1) n' (by omega) (by omega)
    obtain ⟨s, n, h, w, hH, hg, h0⟩ := hI
    obtain ⟨Y, nb, ns, g, hY5, hz⟩ := WQ_GS w.1
    have n8 := g.2.2.2.2.2.2.2.2.1
    have hnb := g.2.2.2.2.2.1
    have w0 := (WQ_n w.1).2
    have c0 : fn_X6_count T R (ad 0) 0 M = some (_, M) := r_c0 w.1 g hY5
    have x50 : ((50 : Int32) ≤ nI k) = False := by
      rw [l50]
      exact leF (by omega) (by omega)
    have e2 : (2 : Int32) * nI k = nI (2 * k) := by rw [l2, pk_mul]
    have e21 : (2 : Int32) * nI k + (1 : Int32) = nI (2 * k + 1) := by rw [e2, nI_p1]
    obtain ⟨x, lx⟩ := lot_r xs hL (i := 2 * k) (by omega)
    obtain ⟨y, ly⟩ := lot_r xs hL (i := 2 * k + 1) (by omega)
    rw [← e2] at lx
    rw [← e21] at ly
    rw [fbs_L_law_78]
    unfold fs_L_law_78
    -- 136 for any way to go on
    have t136 : ∀ x7 : Int32, (nb = 0 → x7 = 0) → OKq (fs_L_law_136 T L xs (ad 0) (fb_L_law_78 T L xs (ad 0) n') (nI H) (nI k) x y (nI nb) gg x7 M R) := fun x7 h7 => by
      unfold fs_L_law_136
      by_cases hz0 : nb = 0
      · have x0 : (nI nb = (0 : Int32)) = True := eq_true (by rw [hz0]; rfl)
        rw [h7 hz0]
        refine OKq_of ?_ (l_bandp (L := L) (xs := xs) hJ w hH hg n8 y 0)
        simp only [x0, ↓reduceIte]
      · have x0 : (nI nb = (0 : Int32)) = False := eF (b := 0) hz0 (by omega) (by omega)
        obtain ⟨b, hb, lo⟩ := low_z (T := T) (R := R) (x >>> ((5 : Int32) &&& 31)) (k := nb) (by omega) (by omega) M
        refine OKq_of ?_ (l_156 (L := L) (xs := xs) hJ (by omega) w hH hg n8 hb y x7)
        simp only [x0, ↓reduceIte, ↓cal_q lo]
    by_cases h3 : 3 ≤ k
    · have x3 : ((3 : Int32) ≤ nI k) = True := leT (a := 3) h3 (by omega)
      have hnz : ¬ nb = 0 := by
        have := h0 (by omega)
        omega
      by_cases h5 : 5 ≤ k
      · have x5 : ((5 : Int32) ≤ nI k) = True := leT (a := 5) h5 (by omega)
        obtain ⟨v, hv, lo⟩ := low_z (T := T) (R := R) x (k := 14) (by omega) (by omega) M
        have lo : fn_L_low T R x 14 M = some (nI v, M) := lo
        refine OKq_of ?_ (t136 (nI v) (fun hh => absurd hh hnz))
        simp only [x50, ↓reduceIte, ↓calX_q lx, ↓calX_q ly, ↓chk_q w0, ↓cal_q c0, x3, x5, ↓cal_q lo]
      · have x5 : ((5 : Int32) ≤ nI k) = False := leF (a := 5) (by omega) (by omega)
        refine OKq_of ?_ (t136 3 (fun hh => absurd hh hnz))
        simp only [x50, ↓reduceIte, ↓calX_q lx, ↓calX_q ly, ↓chk_q w0, ↓cal_q c0, x3, x5]
    · have x3 : ((3 : Int32) ≤ nI k) = False := leF (a := 3) (by omega) (by omega)
      refine OKq_of ?_ (t136 0 (fun _ => rfl))
      simp only [x50, ↓reduceIte, ↓calX_q lx, ↓calX_q ly, ↓chk_q w0, ↓cal_q c0, x3]
theorem law_8 {ad : Nat → Nat} {T : Ty} {L : Nat} {xs : Nat → Int32} (hL : L ≤ 260) {M : Mm} {R : Rm} {s : Sx} {h : Nat → Sx} (w : WE ad T M R s 0 h) (h8 : nt (s.1 8) = 0) : OKq (fs_L_law_8 T L xs (ad 0) 0 M R) := by
  obtain ⟨Y, nb, ns, g, hY5, hz⟩ := WQ_GS w.1
  obtain rfl : nb = 0 := g.2.2.2.2.2.2.2.2.1.symm.trans h8
  have w0 := (WQ_n w.1).2
  have rf := rf_law w.1 g hY5
  have u := c_undo0 w.1
  have so := so_all w.1 g hY5 w.2.1
  have y1 : fn_X6_years T (ad 0) 1 M R = some (-2000000002, M, R) := c_yearsS w.1 g hY5 (v := 1) rfl (by omega) (by omega)
  have y2 : fn_X6_yearsTo T R (ad 0) 0 M = some (-2000000002, M) := c_toS w.1 g hY5 (v := 0) rfl (by omega)
  have y3 := c_steadyS w.1 g hY5 rfl
  have y4 : fn_X6_fault T R (ad 0) 0 M = some (-2000000004, M) := c_fault0 w.1
  have eself : ∀ x : Int32, (x = x) = True := fun x => eq_true rfl
  have z10 : ((1 : Int32) = 0) = False := eq_false (by decide)
  have lo := law_loop (ad := ad) (T := T) (xs := xs) hL 50 0 FU (by omega) (FU_gt (by omega)) 5000 0 M R ⟨s, 0, h, w, Nat.le_refl _, Nat.zero_le _, fun hh => absurd hh (by omega)⟩
  refine OKq_of ?_ lo
  unfold fs_L_law_8
  simp only [↓calR_q rf, z10, ↓reduceIte, ↓chk_q w0, ↓calR_q u, eself, ↓cal_q so, ↓calR_q y1, ↓cal_q y2, ↓cal_q y3, ↓cal_q y4]
  rfl
