/-! the law's loop: years, thoughts, a stake less -/
abbrev J78 : Type := Int32 → Int32 → Nat → Mm → Rm → Option (Int32 × Mm × Rm)
def OKq (q : Option (Int32 × Mm × Rm)) : Prop := ∃ M9 R9, q = some (1, M9, R9)
def Inv (ad : Nat → Nat) (T : Ty) (k H gg : Nat) (M : Mm) (R : Rm) : Prop := ∃ s n h, WE ad T M R s n h ∧ H ≤ 5000 ∧ gg ≤ 3 * k ∧ (0 < k → 0 < nt (s.1 8))
def Gd (ad : Nat → Nat) (T : Ty) (J : J78) (k : Nat) : Prop := ∀ H gg M R, Inv ad T k H gg M R → OKq (J (nI H) (nI k) gg M R)
theorem OKq_of {q q' : Option (Int32 × Mm × Rm)} (h : q = q') (hq : OKq q') : OKq q := by
  rw [h]
  exact hq
theorem l_1051 {ad : Nat → Nat} {T : Ty} {L : Nat} {xs : Nat → Int32} {J : J78} {k H gg : Nat} {M : Mm} {R : Rm} {s : Sx} {n : Nat} {h : Nat → Sx} (hJ : Gd ad T J (k + 1)) (w : WE ad T M R s n h) (hH : H ≤ 5000) (hg : gg ≤ 3 * (k + 1)) (h0 : 0 < nt (s.1 8)) : OKq (fs_L_law_1051 T L xs (ad 0) J (nI H) (nI k) gg M R) := by
  obtain ⟨Y, nb, ns, g, hY5, hz⟩ := WQ_GS w.1
  have so := so_all w.1 g hY5 w.2.1
  have z10 : ((1 : Int32) = 0) = False := eq_false (by decide)
  refine OKq_of ?_ (hJ H gg M R ⟨s, n, h, w, hH, hg, fun _ => h0⟩)
  unfold fs_L_law_1051
  simp only [↓cal_q so, z10, ↓reduceIte, bnd_e, nI_p1]
theorem l_1018 {ad : Nat → Nat} {T : Ty} {L : Nat} {xs : Nat → Int32} {J : J78} {k H gg : Nat} {M : Mm} {R : Rm} {s : Sx} {n : Nat} {h : Nat → Sx} (hJ : Gd ad T J (k + 1)) (w : WE ad T M R s n h) (hH : H ≤ 5000) (hg : gg ≤ 3 * (k + 1)) {nb : Nat} (n8 : nt (s.1 8) = nb) (h0 : 0 < nb) (x5 : Int32) : OKq (fs_L_law_1018 T L xs (ad 0) J (nI H) (nI k) x5 (nI nb) gg M R) := by
  obtain ⟨Y, nb', ns, g, hY5, hz⟩ := WQ_GS w.1
  obtain rfl : nb' = nb := g.2.2.2.2.2.2.2.2.1.symm.trans n8
  have w0 := (WQ_n w.1).2
  have hnb := g.2.2.2.2.2.1
  have c1 : fn_X6_count T R (ad 0) 1 M = some (_, M) := r_c1 w.1 g hY5
  have x6 : (nI nb' ≤ (0 : Int32)) = False := leF (b := 0) h0 (by omega)
  unfold fs_L_law_1018
  by_cases hY : 60 ≤ Y
  · have x60 : ((60 : Int32) ≤ nI Y) = True := by
      rw [l60]
      exact leT hY (by omega)
    refine OKq_of ?_ (l_1051 (L := L) (xs := xs) hJ w hH hg (by omega))
    simp only [x6, ↓reduceIte, ↓chk_q w0, ↓cal_q c1, x60]
  · have x60 : ((60 : Int32) ≤ nI Y) = False := by
      rw [l60]
      exact leF (by omega) (by omega)
    have hlw := lw_lt x5 (show 0 < 20 by omega)
    have lo : fn_L_low T R x5 20 M = some (_, M) := low_r x5 (k := 20) (by omega) (by omega) M
    generalize lw x5 20 = v0 at hlw lo
    have e1 : (1 : Int32) + nI v0 = nI (v0 + 1) := by
      rw [l1, nI_add, Nat.add_comm]
    obtain ⟨M4, R4, y1, y2⟩ := c_years w.1 g hY5 hz (v := v0 + 1) h0 (by omega) (by omega) (by omega)
    obtain ⟨-, g4, -⟩ := OK_Ys g hz (v0 + 1) (by omega)
    have we4 := WE_mk w y2 (EV_Ys g hY5 h0 w.2.1 (v0 + 1) (by omega))
    obtain ⟨p1, -, -, -⟩ := pc_at g hY5 h0 (show 0 < 300 by omega)
    obtain ⟨-, p2, -, p2b⟩ := pc_at g hY5 h0 (show v0 < 300 by omega)
    have hmono := pc_mono g hY5 h0 (v0 + 1) (by omega) 0 (by omega)
    have p1 : s.1 12 = nI (PC s 0) := p1
    have epc : (sYs (v0 + 1) s).1 12 - s.1 12 = nI (PC s (v0 + 1) - PC s 0) := by
      rw [p2, p1, nIs hmono]
    rw [epc] at y1
    have xr : ((0 : Int32) ≤ nI (PC s (v0 + 1) - PC s 0)) = True := leT (a := 0) (by omega) (by omega)
    refine OKq_of ?_ (l_1051 (L := L) (xs := xs) hJ we4 hH hg (by rw [g4.2.2.2.2.2.2.2.2.1]; exact h0))
    simp only [x6, ↓reduceIte, ↓chk_q w0, ↓cal_q c1, x60, ↓cal_q lo, e1, ↓calR_q y1, xr]
theorem l_995 {ad : Nat → Nat} {T : Ty} {L : Nat} {xs : Nat → Int32} {J : J78} {k H gg : Nat} {M : Mm} {R : Rm} {s : Sx} {n : Nat} {h : Nat → Sx} (hJ : Gd ad T J (k + 1)) (w : WE ad T M R s n h) (hH : H ≤ 5000) (hg : gg ≤ 3 * (k + 1)) {nb : Nat} (n8 : nt (s.1 8) = nb) (h0 : 0 < nb) (x5 x7 : Int32) : OKq (fs_L_law_995 T L xs (ad 0) J (nI H) (nI k) x5 (nI nb) x7 gg M R) := by
  have h1018 := l_1018 (L := L) (xs := xs) hJ w hH hg n8 h0 x5
  obtain ⟨Y, nb', ns, g, hY5, hz⟩ := WQ_GS w.1
  obtain rfl : nb' = nb := g.2.2.2.2.2.2.2.2.1.symm.trans n8
  have hnb := g.2.2.2.2.2.1
  have x6 : (nI nb' ≤ (0 : Int32)) = False := leF (b := 0) h0 (by omega)
  have z10 : ((1 : Int32) = 0) = False := eq_false (by decide)
  unfold fs_L_law_995
  by_cases c : x7 = 12
  · obtain ⟨M', R', n', h', t1, t2⟩ := th_law w g hY5 hz h0 x5
    refine OKq_of ?_ (l_1051 (L := L) (xs := xs) hJ t2 hH hg (by omega))
    simp only [c, x6, ↓reduceIte, ↓calR_q t1, z10]
  · refine OKq_of ?_ h1018
    simp only [c, ↓reduceIte]
theorem l_953 {ad : Nat → Nat} {T : Ty} {L : Nat} {xs : Nat → Int32} {J : J78} {k H : Nat} (hJ : Gd ad T J (k + 1)) (hk : k < 50) (hH : H ≤ 5000) (x5 : Int32) : ∀ d j fuel gg M R s n h, j + d = 3 → WE ad T M R s n h → 0 < nt (s.1 8) → gg ≤ 3 * k + j → d < fuel → OKq (fb_L_law_953 T L xs (ad 0) (fs_L_law_992 T L xs (ad 0) J) fuel (nI H) (nI k) x5 (nI j) gg M R) := by
  have hlw := lw_lt x5 (show 0 < 3 by omega)
  intro d
  induction d with
  | zero =>
    intro j fuel gg M R s n h h1 w h0 hg hf
    obtain ⟨n', rfl⟩ : ∃ n', fuel = n' + 1 := ⟨fuel - 1, by omega⟩
    have lo : fn_L_low T R x5 3 M = some (_, M) := low_r x5 (k := 3) (by omega) (by omega) M
    have x1 : ((1 : Int32) + nI (lw x5 3) ≤ nI j) = True := by
      rw [l1, nI_add]
      exact leT (by omega) (by omega)
    rw [fbs_L_law_953]
    refine OKq_of ?_ (l_1051 (L := L) (xs := xs) hJ w hH (show gg ≤ 3 * (k + 1) by omega) h0)
    unfold fs_L_law_953 fs_L_law_992
    simp only [↓cal_q lo, x1, ↓reduceIte]
  | succ d ih =>
    intro j fuel gg M R s n h h1 w h0 hg hf
    obtain ⟨n', rfl⟩ : ∃ n', fuel = n' + 1 := ⟨fuel - 1, by omega⟩
    obtain ⟨Y, nb, ns, g, hY5, hz⟩ := WQ_GS w.1
    have n8 := g.2.2.2.2.2.2.2.2.1
    have hnb := g.2.2.2.2.2.1
    have w0 := (WQ_n w.1).2
    have lo : fn_L_low T R x5 3 M = some (_, M) := low_r x5 (k := 3) (by omega) (by omega) M
    have c1 : fn_X6_count T R (ad 0) 1 M = some (_, M) := r_c1 w.1 g hY5
    rw [fbs_L_law_953]
    by_cases hj : 1 + lw x5 3 ≤ j
    · have x1 : ((1 : Int32) + nI (lw x5 3) ≤ nI j) = True := by
        rw [l1, nI_add]
        exact leT hj (by omega)
      refine OKq_of ?_ (l_1051 (L := L) (xs := xs) hJ w hH (show gg ≤ 3 * (k + 1) by omega) h0)
      unfold fs_L_law_953 fs_L_law_992
      simp only [↓cal_q lo, x1, ↓reduceIte]
    · have x1 : ((1 : Int32) + nI (lw x5 3) ≤ nI j) = False := by
        rw [l1, nI_add]
        exact leF (by omega) (by omega)
      by_cases hY : 500 ≤ Y
      · have x2 : ((500 : Int32) ≤ nI Y) = True := by
          rw [l500]
          exact leT hY (by omega)
        refine OKq_of ?_ (l_1051 (L := L) (xs := xs) hJ w hH (show gg ≤ 3 * (k + 1) by omega) h0)
        unfold fs_L_law_953 fs_L_law_992
        simp only [↓cal_q lo, x1, ↓reduceIte, ↓chk_q w0, ↓cal_q c1, x2]
      · have x2 : ((500 : Int32) ≤ nI Y) = False := by
          rw [l500]
          exact leF (by omega) (by omega)
        obtain ⟨M', R', y1, y2⟩ := yr_law w.1 g hY5 hz (by omega) (by omega)
        have ev' := EV_Y g (by omega) (by omega) (by omega) w.2.1
        have g1 := GS_Y g (by omega) (by omega)
        have w' := WE_mk w y2 ev'
        have ih' := ih (j + 1) n' (gg + 1) M' R' _ _ _ (by omega) w' (by rw [g1.2.2.2.2.2.2.2.2.1]; omega) (by omega) (by omega)
        have cg : decide (gg + 1 ≤ 1000) = true := decide_eq_true (by omega)
        have z10 : ((1 : Int32) = 0) = False := eq_false (by decide)
        refine OKq_of ?_ ih'
        unfold fs_L_law_953
        simp only [↓cal_q lo, x1, ↓reduceIte, ↓chk_q w0, ↓cal_q c1, x2, ↓chk_q cg, ↓calR_q y1, z10, bnd_e, nI_p1]
theorem l_938 {ad : Nat → Nat} {T : Ty} {L : Nat} {xs : Nat → Int32} {J : J78} {k H gg : Nat} {M : Mm} {R : Rm} {s : Sx} {n : Nat} {h : Nat → Sx} (hJ : Gd ad T J (k + 1)) (hk : k < 50) (w : WE ad T M R s n h) (hH : H ≤ 5000) (hg : gg ≤ 3 * k) {nb : Nat} (n8 : nt (s.1 8) = nb) (h0 : 0 < nb) (x5 x7 : Int32) : OKq (fs_L_law_938 T L xs (ad 0) J (nI H) (nI k) x5 (nI nb) x7 gg M R) := by
  have h995 := l_995 (L := L) (xs := xs) hJ w hH (show gg ≤ 3 * (k + 1) by omega) n8 h0 x5 x7
  obtain ⟨Y, nb', ns, g, hY5, hz⟩ := WQ_GS w.1
  obtain rfl : nb' = nb := g.2.2.2.2.2.2.2.2.1.symm.trans n8
  have hnb := g.2.2.2.2.2.1
  have x6 : (nI nb' ≤ (0 : Int32)) = False := leF (b := 0) h0 (by omega)
  unfold fs_L_law_938
  by_cases c : (12 : Int32) ≤ x7
  · refine OKq_of ?_ h995
    simp only [c, ↓reduceIte]
  · refine OKq_of ?_ (l_953 (L := L) (xs := xs) hJ hk hH x5 3 0 FU gg M R s n h rfl w (by omega) (by omega) (FU_gt (by omega)))
    simp only [c, x6, ↓reduceIte]
    rfl
theorem l_815 {ad : Nat → Nat} {T : Ty} {L : Nat} {xs : Nat → Int32} {J : J78} {k H gg : Nat} {M : Mm} {R : Rm} {s : Sx} {n : Nat} {h : Nat → Sx} (hJ : Gd ad T J (k + 1)) (hk : k < 50) (w : WE ad T M R s n h) (hH : H ≤ 5000) (hg : gg ≤ 3 * k) {nb : Nat} (n8 : nt (s.1 8) = nb) (h0 : 0 < nb) (x5 x7 : Int32) : OKq (fs_L_law_815 T L xs (ad 0) J (nI H) (nI k) x5 (nI nb) x7 gg M R) := by
  have h938 := l_938 (L := L) (xs := xs) hJ hk w hH hg n8 h0 x5 x7
  obtain ⟨Y, nb', ns, g, hY5, hz⟩ := WQ_GS w.1
  obtain rfl : nb' = nb := g.2.2.2.2.2.2.2.2.1.symm.trans n8
  have w0 := (WQ_n w.1).2
  have hns := g.2.2.2.2.2.2.1
  have n9 := g.2.2.2.2.2.2.2.2.2
  have c2 : fn_X6_count T R (ad 0) 2 M = some (_, M) := r_c2 w.1 g hY5
  unfold fs_L_law_815
  by_cases c : x7 = 5
  rotate_left
  · refine OKq_of ?_ h938
    simp only [c, ↓reduceIte]
  by_cases h9 : ns = 0
  · have x1 : (nI ns ≤ (0 : Int32)) = True := eq_true (by rw [h9]; decide)
    refine OKq_of ?_ h938
    simp only [c, ↓reduceIte, ↓chk_q w0, ↓cal_q c2, x1]
  have x1 : (nI ns ≤ (0 : Int32)) = False := leF (b := 0) (by omega) (by omega)
  have lo : fn_L_low T R x5 3 M = some (_, M) := low_r x5 (k := 3) (by omega) (by omega) M
  have hlw := lw_lt x5 (show 0 < 3 by omega)
  generalize lw x5 3 = l3 at lo hlw
  by_cases hl : l3 = 0
  rotate_left
  · have x2 : (nI l3 = (0 : Int32)) = False := eF (b := 0) hl (by omega) (by omega)
    refine OKq_of ?_ h938
    simp only [c, ↓reduceIte, ↓chk_q w0, ↓cal_q c2, x1, ↓cal_q lo, x2]
  have x2 : (nI l3 = (0 : Int32)) = True := eq_true (by rw [hl]; rfl)
  have lo2 := low_r (T := T) (R := R) (x5 >>> ((2 : Int32) &&& 31)) (k := ns) (by omega) (by omega) M
  have hi := lw_lt (x5 >>> ((2 : Int32) &&& 31)) (show 0 < ns by omega)
  generalize lw (x5 >>> ((2 : Int32) &&& 31)) ns = i at lo2 hi
  have q3 : fn_X6_stakeInfo T R (ad 0) (nI i) 3 M = some (_, M) := r_s w.1 g hY5 (i := i) (j := 3) hi (by omega)
  obtain ⟨M', R', p1, p2⟩ := c_pull w.1 g hY5 hz hi
  have ev' := EV_P g hY5 hi w.2.1
  have w' := WE_mk w p2 ev'
  obtain ⟨Y', nb2, ns2, g2, hY2, hz2⟩ := WQ_GS p2
  have w0' := (WQ_n p2).2
  have em : (sP i s).1 = pM s.1 ns i := by
    show pM s.1 (nt (s.1 9)) i = _
    rw [n9]
  have k9 : ns2 = ns - 1 := by
    rw [← g2.2.2.2.2.2.2.2.2.2, em, pM_9, nt_nI (by omega)]
  have k8 : nt ((sP i s).1 8) = nt (s.1 8) := by rw [em, pM_o (by omega) (by omega)]
  have c2' : fn_X6_count T R' (ad 0) 2 M' = some (_, M') := r_c2 p2 g2 hY2
  rw [k9] at c2'
  have e1 : nI ns - (1 : Int32) = nI (ns - 1) := by rw [l1, nIs (by omega)]
  have eself : ∀ x : Int32, (x = x) = True := fun x => eq_true rfl
  have h1051 := l_1051 (L := L) (xs := xs) hJ w' hH (show gg ≤ 3 * (k + 1) by omega) (by omega)
  by_cases hi1 : ns ≤ i + 1
  · have x3 : (nI ns ≤ nI i + (1 : Int32)) = True := by
      rw [nI_p1]
      exact leT hi1 (by omega)
    refine OKq_of ?_ h1051
    unfold fs_L_law_887 fs_L_law_935
    simp only [c, ↓reduceIte, ↓chk_q w0, ↓cal_q c2, x1, ↓cal_q lo, x2, ↓cal_q lo2, ↓cal_q q3, x3, ↓calR_q p1, eself, ↓cal_q c2', e1]
  · have x3 : (nI ns ≤ nI (i + 1)) = False := leF (by omega) (by omega)
    have q2 : fn_X6_stakeInfo T R (ad 0) (nI (i + 1)) 2 M = some (_, M) := r_s w.1 g hY5 (i := i + 1) (j := 2) (by omega) (by omega)
    have q2' : fn_X6_stakeInfo T R' (ad 0) (nI i) 2 M' = some (s.1 (74 + 6 * (i + 1) + 2), M') := by
      have hh := r_s p2 g2 hY2 (i := i) (j := 2) (by omega) (by omega)
      rw [em, pM_s (show i < ns - 1 by omega) (Nat.le_refl i) (by omega)] at hh
      exact hh
    refine OKq_of ?_ h1051
    unfold fs_L_law_887 fs_L_law_935
    simp only [c, ↓reduceIte, ↓chk_q w0, ↓cal_q c2, x1, ↓cal_q lo, x2, ↓cal_q lo2, ↓cal_q q3, nI_p1, x3, ↓cal_q q2, q2, cal_e, ↓calR_q p1, eself, ↓cal_q c2', e1, ↓cal_q q2']
