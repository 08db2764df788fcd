/-! the law's loop: creep, a stake, a setting, a band -/
theorem l_722 {ad : Nat → Nat} {T : Ty} {L : Nat} {xs : Nat → Int32} {J : J78} {k H gg : Nat} {M : Mm} {R : Rm} {s : Sx} {n : Nat} {h : Nat → Sx} (hJ : Gd ad T J (k + 1)) (hk : k < 50) (w : WE ad T M R s n h) (hH : H ≤ 5000) (hg : gg ≤ 3 * k) {nb b : Nat} (n8 : nt (s.1 8) = nb) (hb : b < nb) (x5 x7 : Int32) : OKq (fs_L_law_722 T L xs (ad 0) J (nI H) (nI k) x5 (nI nb) x7 (nI b) gg M R) := by
  have h815 := l_815 (L := L) (xs := xs) hJ hk w hH hg n8 (by omega) x5 x7
  obtain ⟨Y, nb', ns, g, hY5, hz⟩ := WQ_GS w.1
  obtain rfl : nb' = nb := g.2.2.2.2.2.2.2.2.1.symm.trans n8
  have w0 := (WQ_n w.1).2
  have hn4 := (WQ_n w.1).1
  have hnb := g.2.2.2.2.2.1
  have I := g.1.1
  unfold fs_L_law_722
  by_cases c : x7 = 4
  rotate_left
  · refine OKq_of ?_ h815
    simp only [c, ↓reduceIte]
  have x6 : (nI nb' ≤ (0 : Int32)) = False := leF (b := 0) (by omega) (by omega)
  have q2 : fn_X6_bandInfo T R (ad 0) (nI b) 2 M = some (_, M) := r_b2 w.1 g hY5 hb
  have lo : fn_L_low T R x5 501 M = some (_, M) := low_r x5 (k := 501) (by omega) (by omega) M
  have hlw := lw_lt x5 (show 0 < 501 by omega)
  generalize hv : lw x5 501 = v at hlw lo
  obtain ⟨M', R', p1, p2⟩ := c_creep w.1 g hY5 (b := b) (v := v) hb (by omega)
  have w' := WE_mk w p2 (EV_upd I (k := 14 + 6 * b + 2) (.inr ⟨b, by omega, rfl⟩) (nI v) w.2.1)
  have g' := GS_upd g (k := 14 + 6 * b + 2) (v := nI v) (IV_creep I (by omega) (by omega)) (by omega)
  have q2' : fn_X6_bandInfo T R' (ad 0) (nI b) 2 M' = some (nI v, M') := by
    have hh := r_b2 p2 g' hY5 hb
    rw [show (upd s.1 (14 + 6 * b + 2) (nI v), s.2.1, s.2.2).1 (14 + 6 * b + 2) = nI v from pk_us] at hh
    exact hh
  have lo' : fn_L_low T R' x5 501 M' = some (nI v, M') := by
    have hh := low_r (T := T) (R := R') x5 (k := 501) (by omega) (by omega) M'
    rw [hv] at hh
    exact hh
  have lo2 : fn_L_low T R' (x5 >>> ((9 : Int32) &&& 31)) 2 M' = some (_, M') := low_r _ (k := 2) (by omega) (by omega) M'
  have hl2 := lw_lt (x5 >>> ((9 : Int32) &&& 31)) (show 0 < 2 by omega)
  generalize lw (x5 >>> ((9 : Int32) &&& 31)) 2 = u at lo2 hl2
  have eself : ∀ x : Int32, (x = x) = True := fun x => eq_true rfl
  by_cases hu : u = 0
  · have x2 : (nI u = (0 : Int32)) = True := eq_true (by rw [hu]; rfl)
    obtain ⟨m, h', M5, R5, u1, m4, w5⟩ := c_back hn4 w'
    have xm : (nI m < (0 : Int32)) = False := eq_false (nI_pos (by omega))
    have q5 : fn_X6_bandInfo T R5 (ad 0) (nI b) 2 M5 = some (_, M5) := r_b2 w5.1 g hY5 hb
    refine OKq_of ?_ (l_1051 (L := L) (xs := xs) hJ w5 hH (show gg ≤ 3 * (k + 1) by omega) (by omega))
    unfold fs_L_law_812
    simp only [c, ↓reduceIte, x6, ↓chk_q w0, ↓cal_q q2, ↓cal_q lo, ↓calR_q p1, eself, ↓cal_q q2', ↓cal_q lo', ↓cal_q lo2, x2, ↓calR_q u1, xm, ↓cal_q q5]
  · have x2 : (nI u = (0 : Int32)) = False := eF (b := 0) hu (by omega) (by omega)
    refine OKq_of ?_ (l_1051 (L := L) (xs := xs) hJ w' hH (show gg ≤ 3 * (k + 1) by omega) (by
      show 0 < nt (upd s.1 (14 + 6 * b + 2) (nI v) 8)
      rw [pk_un (by omega)]
      omega))
    unfold fs_L_law_812
    simp only [c, ↓reduceIte, x6, ↓chk_q w0, ↓cal_q q2, ↓cal_q lo, ↓calR_q p1, eself, ↓cal_q q2', ↓cal_q lo', ↓cal_q lo2, x2]
theorem sAt_t {m : Nat → Int32} {b p : Int32} : ∀ d i k, i ≤ k → k < i + d → m (74 + 6 * k + 4) = nI 0 → m (74 + 6 * k) = b → m (74 + 6 * k + 1) = p → sAt m b p d i = true := by
  intro d
  induction d with
  | zero => exact fun i k h1 h2 => absurd h1 (by omega)
  | succ d ih =>
    intro i k h1 h2 h3 h4 h5
    have es : sAt m b p (d + 1) i = if m (74 + 6 * i + 4) = nI 0 ∧ m (74 + 6 * i) = b ∧ m (74 + 6 * i + 1) = p then true else sAt m b p d (i + 1) := rfl
    rw [es]
    by_cases c : m (74 + 6 * i + 4) = nI 0 ∧ m (74 + 6 * i) = b ∧ m (74 + 6 * i + 1) = p
    · rw [if_pos c]
    · rw [if_neg c]
      by_cases hik : k = i
      · subst hik
        exact absurd ⟨h3, h4, h5⟩ c
      · exact ih (i + 1) k (by omega) (by omega) h3 h4 h5
theorem mS_at {m : Nat → Int32} {i b p d : Nat} : mS m i (nI b) (nI p) (nI d) (74 + 6 * i) = nI b ∧ mS m i (nI b) (nI p) (nI d) (74 + 6 * i + 1) = nI p ∧ mS m i (nI b) (nI p) (nI d) (74 + 6 * i + 3) = nI 0 ∧ mS m i (nI b) (nI p) (nI d) (74 + 6 * i + 4) = nI 0 ∧ mS m i (nI b) (nI p) (nI d) (74 + 6 * i + 5) = nI 0 := by
  unfold mS
  refine ⟨?_, ?_, ?_, ?_, pk_us⟩
  · rw [pk_un (by omega), pk_un (by omega), pk_un (by omega), pk_un (by omega), pk_un (by omega)]
    exact pk_us
  · rw [pk_un (by omega), pk_un (by omega), pk_un (by omega), pk_un (by omega), pk_us]
  · rw [pk_un (by omega), pk_un (by omega), pk_us]
  · rw [pk_un (by omega), pk_us]
/-- how 3: a stake -/
theorem l_stake {ad : Nat → Nat} {T : Ty} {L : Nat} {xs : Nat → Int32} {J : J78} {k H gg : Nat} {M : Mm} {R : Rm} {s : Sx} {n : Nat} {h : Nat → Sx} (hJ : Gd ad T J (k + 1)) (w : WE ad T M R s n h) (hH : H ≤ 5000) (hg : gg ≤ 3 * k) {nb b : Nat} (n8 : nt (s.1 8) = nb) (hb : b < nb) (x5 : Int32) : OKq (fs_L_law_156 T L xs (ad 0) J (nI H) (nI k) x5 (nI nb) 3 gg (nI b) M R) := by
  obtain ⟨Y, nb', ns, g, hY5, hz⟩ := WQ_GS w.1
  obtain rfl : nb' = nb := g.2.2.2.2.2.2.2.2.1.symm.trans n8
  have w0 := (WQ_n w.1).2
  have hnb := g.2.2.2.2.2.1
  have hns := g.2.2.2.2.2.2.1
  have n9 := g.2.2.2.2.2.2.2.2.2
  have I := g.1.1
  have x6 : (nI nb' ≤ (0 : Int32)) = False := leF (b := 0) (by omega) (by omega)
  have z30 : ((3 : Int32) = 0) = False := eq_false (by decide)
  have z33 : ((3 : Int32) ≤ 3) = True := eq_true (by decide)
  have eself : ∀ x : Int32, (x = x) = True := fun x => eq_true rfl
  obtain ⟨el, l1', l2'⟩ := (I.2.2.2.2.2.2.2.2.2.2.1 b (by omega)).2.1
  have q1 : fn_X6_bandInfo T R (ad 0) (nI b) 1 M = some (s.1 (14 + 6 * b + 1), M) := r_b1 w.1 g hY5 hb
  have allA := fun y z (hy : y < nt (s.1 (14 + 6 * b + 1))) z1 z2 => c_stake_all w.1 g hY5 (b := b) (y := y) (z := z) hb hy z1 z2
  generalize hlen : nt (s.1 (14 + 6 * b + 1)) = len at el l1' l2'
  rw [el] at q1
  have lo := low_r (T := T) (R := R) x5 (k := len) (by omega) (by omega) M
  have hp := lw_lt x5 (show 0 < len by omega)
  generalize lw x5 len = p at lo hp
  have lo2 : fn_L_low T R (x5 >>> ((6 : Int32) &&& 31)) 4000 M = some (_, M) := low_r _ (k := 4000) (by omega) (by omega) M
  have hd := lw_lt (x5 >>> ((6 : Int32) &&& 31)) (show 0 < 4000 by omega)
  generalize lw (x5 >>> ((6 : Int32) &&& 31)) 4000 = d at lo2 hd
  have e1 : (1 : Int32) + nI d = nI (d + 1) := by
    rw [l1, nI_add, Nat.add_comm]
  have c2 : fn_X6_count T R (ad 0) 2 M = some (_, M) := r_c2 w.1 g hY5
  obtain ⟨A1, A2, A3⟩ := allA p (d + 1) (by omega) (by omega) (by omega)
  have xS : (nI ns = (-2000000002 : Int32)) = False := eq_false (fun e => nI_pos (show ns < 2 ^ 31 by omega) (by rw [e]; decide))
  have xL : (nI ns = (-2000000003 : Int32)) = False := eq_false (fun e => nI_pos (show ns < 2 ^ 31 by omega) (by rw [e]; decide))
  have xS' : ((-2000000002 : Int32) = nI ns) = False := eq_false (fun e => nI_pos (show ns < 2 ^ 31 by omega) (by rw [← e]; decide))
  have xL' : ((-2000000003 : Int32) = nI ns) = False := eq_false (fun e => nI_pos (show ns < 2 ^ 31 by omega) (by rw [← e]; decide))
  have y1 : ((-2000000002 : Int32) < 0) = True := eq_true (by decide)
  have y2 : ((-2000000003 : Int32) < 0) = True := eq_true (by decide)
  have y3 : ((-2000000002 : Int32) = -2000000003) = False := eq_false (by decide)
  have y4 : ((-2000000003 : Int32) = -2000000002) = False := eq_false (by decide)
  unfold fs_L_law_156 fs_L_law_640 fs_L_law_703 fs_L_law_719
  cases hst : sAt s.1 (nI b) (nI p) ns 0 with
  | true =>
    have a := A1 hst
    refine OKq_of ?_ (l_1051 (L := L) (xs := xs) hJ w hH (show gg ≤ 3 * (k + 1) by omega) (by omega))
    simp only [z30, z33, eself, ↓reduceIte, x6, ↓chk_q w0, ↓cal_q q1, ↓cal_q lo, ↓cal_q lo2, bnd_e, e1, ↓cal_q c2, ↓calR_q a, xS', y1, y3]
  | false =>
    by_cases hn : ns < 6
    · obtain ⟨M', R', a, p2⟩ := A3 hst hn hz
      have w' := WE_mk w p2 (EV_S g hY5 hn hb (by rw [hlen]; exact hp) (by omega) w.2.1)
      obtain ⟨Y', nb2, ns2, g2, hY2, hz2⟩ := WQ_GS p2
      have w0' := (WQ_n p2).2
      have em : (sS (nI b) (nI p) (nI (d + 1)) s).1 = mS s.1 ns (nI b) (nI p) (nI (d + 1)) := by
        show mS s.1 (nt (s.1 9)) _ _ _ = _
        rw [n9]
      obtain ⟨m0, m1, m3, m4, m5⟩ := mS_at (m := s.1) (i := ns) (b := b) (p := p) (d := d + 1)
      have k9 : ns2 = ns + 1 := by
        rw [← g2.2.2.2.2.2.2.2.2.2, em, mS_9, g.2.2.2.1, nI_add, nt_nI (by omega)]
      have k8 : nb2 = nb' := by
        rw [← g2.2.2.2.2.2.2.2.2.1, em, mS_o (by omega) (by omega)]
        exact n8
      have q0' : fn_X6_stakeInfo T R' (ad 0) (nI ns) 0 M' = some (nI b, M') := by
        have hh := r_s p2 g2 hY2 (i := ns) (j := 0) (by omega) (by omega)
        have m00 : mS s.1 ns (nI b) (nI p) (nI (d + 1)) (74 + 6 * ns + 0) = nI b := m0
        rw [em, m00] at hh
        exact hh
      have q1' : fn_X6_stakeInfo T R' (ad 0) (nI ns) 1 M' = some (nI p, M') := by
        have hh := r_s p2 g2 hY2 (i := ns) (j := 1) (by omega) (by omega)
        rw [em, m1] at hh
        exact hh
      have q3' : fn_X6_stakeInfo T R' (ad 0) (nI ns) 3 M' = some (0, M') := by
        have hh := r_s p2 g2 hY2 (i := ns) (j := 3) (by omega) (by omega)
        rw [em, m3] at hh
        exact hh
      have q5' : fn_X6_stakeInfo T R' (ad 0) (nI ns) 5 M' = some (0, M') := by
        have hh := r_s p2 g2 hY2 (i := ns) (j := 5) (by omega) (by omega)
        rw [em, m5] at hh
        exact hh
      have again : fn_X6_stake T (ad 0) (nI b) (nI p) 1 M' R' = some (-2000000002, M', R') := by
        refine (c_stake_all p2 g2 hY2 (b := b) (y := p) (z := 1) (by omega) ?_ (by omega) (by omega)).1 ?_
        · rw [em, mS_o (by omega) (by omega), hlen]
          exact hp
        · rw [em]
          exact sAt_t ns2 0 ns (by omega) (by omega) m4 m0 m1
      have xn : ((nI ns : Int32) < 0) = False := eq_false (nI_pos (by omega))
      refine OKq_of ?_ (l_1051 (L := L) (xs := xs) hJ w' hH (show gg ≤ 3 * (k + 1) by omega) (by
        rw [em, mS_o (by omega) (by omega)]
        omega))
      simp only [z30, z33, eself, ↓reduceIte, x6, ↓chk_q w0, ↓cal_q q1, ↓cal_q lo, ↓cal_q lo2, bnd_e, e1, ↓cal_q c2, ↓calR_q a, xn, ↓cal_q q0', ↓cal_q q1', ↓cal_q q3', ↓cal_q q5', ↓calR_q again, xL]
    · have hn6 : ns = 6 := by omega
      have a := A2 hst hn6
      have z6 : (nI ns = (6 : Int32)) = True := eq_true (by rw [hn6]; rfl)
      refine OKq_of ?_ (l_1051 (L := L) (xs := xs) hJ w hH (show gg ≤ 3 * (k + 1) by omega) (by omega))
      simp only [z30, z33, eself, ↓reduceIte, x6, ↓chk_q w0, ↓cal_q q1, ↓cal_q lo, ↓cal_q lo2, bnd_e, e1, ↓cal_q c2, ↓calR_q a, xL', y4, y2, z6]
/-- a setting -/
theorem l_515 {ad : Nat → Nat} {T : Ty} {L : Nat} {xs : Nat → Int32} {J : J78} {k H gg : Nat} {M : Mm} {R : Rm} {s : Sx} {n : Nat} {h : Nat → Sx} (hJ : Gd ad T J (k + 1)) (w : WE ad T M R s n h) (hH : H ≤ 5000) (hg : gg ≤ 3 * k) (h0 : 0 < nt (s.1 8)) {q v : Nat} (hq : q < 7) (v1 : loS q ≤ v) (v2 : v ≤ hiS q) : OKq (fs_L_law_515 T L xs (ad 0) J (nI H) (nI k) (nI q) gg (nI v) M R) := by
  obtain ⟨Y, nb, ns, g, hY5, hz⟩ := WQ_GS w.1
  have w0 := (WQ_n w.1).2
  have I := g.1.1
  have hhi := hiS_lt q
  have e6 : (6 : Int32) + nI q = nI (6 + q) := by rw [l6, nI_add]
  have c6 : fn_X6_count T R (ad 0) (nI (6 + q)) M = some (s.1 q, M) := by
    have hh := r_c6 w.1 g hY5 (j := 6 + q) (by omega) (by omega)
    rw [show 6 + q - 6 = q by omega] at hh
    exact hh
  obtain ⟨M', R', p1, p2⟩ := c_set w.1 g hY5 hq v1 v2
  have w' := WE_mk w p2 (EV_upd I (k := q) (.inl hq) (nI v) w.2.1)
  have g' := GS_upd g (k := q) (v := nI v) (IV_set I hq (show rg (nI v) (loS q) (hiS q) from rg_nI v1 v2 (by omega))) (by omega)
  have c6' : fn_X6_count T R' (ad 0) (nI (6 + q)) M' = some (nI v, M') := by
    have hh := r_c6 p2 g' hY5 (j := 6 + q) (by omega) (by omega)
    rw [show 6 + q - 6 = q by omega, show (upd s.1 q (nI v), s.2.1, s.2.2).1 q = nI v from pk_us] at hh
    exact hh
  have eself : ∀ x : Int32, (x = x) = True := fun x => eq_true rfl
  refine OKq_of ?_ (l_1051 (L := L) (xs := xs) hJ w' hH (show gg ≤ 3 * (k + 1) by omega) (by
    show 0 < nt (upd s.1 q (nI v) 8)
    rw [pk_un (by omega)]
    exact h0))
  unfold fs_L_law_515
  simp only [↓chk_q w0, e6, ↓cal_q c6, ↓calR_q p1, eself, ↓reduceIte, ↓cal_q c6', c6, c6', cal_e]
theorem low_z {T : Ty} {R : Rm} (x : Int32) {k : Nat} (h0 : 0 < k) (hk : k < 2 ^ 31) (M : Mm) : ∃ v, v < k ∧ fn_L_low T R x (nI k) M = some (nI v, M) := ⟨lw x k, lw_lt x h0, low_r x h0 hk M⟩
theorem l_setting {ad : Nat → Nat} {T : Ty} {L : Nat} {xs : Nat → Int32} {J : J78} {k H gg : Nat} {M : Mm} {R : Rm} {s : Sx} {n : Nat} {h : Nat → Sx} (hJ : Gd ad T J (k + 1)) (w : WE ad T M R s n h) (hH : H ≤ 5000) (hg : gg ≤ 3 * k) (h0 : 0 < nt (s.1 8)) (x5 x6 x7 b : Int32) (z0 : ¬ x7 = 0) (z3 : ¬ (3 : Int32) ≤ x7) : OKq (fs_L_law_156 T L xs (ad 0) J (nI H) (nI k) x5 x6 x7 gg b M R) := by
  have hS := fun q v (hq : q < 7) v1 v2 => l_515 (L := L) (xs := xs) hJ w hH hg h0 (q := q) (v := v) hq v1 v2
  obtain ⟨q, hq, lo⟩ := low_z (T := T) (R := R) x5 (k := 7) (by omega) (by omega) M
  have lo : fn_L_low T R x5 7 M = some (nI q, M) := lo
  have eq := fun j (hj : j < 7) (hqj : q ≠ j) => eF hqj (show q < 2 ^ 31 by omega) (show j < 2 ^ 31 by omega)
  unfold fs_L_law_156
  rcases (show q = 0 ∨ q = 1 ∨ q = 2 ∨ q = 3 ∨ q = 4 ∨ q = 5 ∨ q = 6 by omega) with rfl | rfl | rfl | rfl | rfl | rfl | rfl
  · obtain ⟨v, hv, lo2⟩ := low_z (T := T) (R := R) (x5 >>> ((3 : Int32) &&& 31)) (k := 2500) (by omega) (by omega) M
    have lo2 : fn_L_low T R (x5 >>> ((3 : Int32) &&& 31)) 2500 M = some (nI v, M) := lo2
    have t : (nI 0 = (0 : Int32)) = True := eq_true rfl
    refine OKq_of ?_ (hS 0 v hq (by show 0 ≤ v; omega) (by show v ≤ 5000; omega))
    simp only [z0, z3, ↓reduceIte, ↓cal_q lo, bnd_e, t, ↓cal_q lo2]
  · obtain ⟨v, hv, lo2⟩ := low_z (T := T) (R := R) (x5 >>> ((3 : Int32) &&& 31)) (k := 120) (by omega) (by omega) M
    have lo2 : fn_L_low T R (x5 >>> ((3 : Int32) &&& 31)) 120 M = some (nI v, M) := lo2
    have f0 : (nI 1 = (0 : Int32)) = False := eq 0 (by omega) (by omega)
    have t : (nI 1 = (1 : Int32)) = True := eq_true rfl
    refine OKq_of ?_ (hS 1 v hq (by show 0 ≤ v; omega) (by show v ≤ 500; omega))
    unfold fs_L_law_445
    simp only [z0, z3, ↓reduceIte, ↓cal_q lo, bnd_e, f0, t, ↓cal_q lo2]
  · obtain ⟨v, hv, lo2⟩ := low_z (T := T) (R := R) (x5 >>> ((3 : Int32) &&& 31)) (k := 3000) (by omega) (by omega) M
    have lo2 : fn_L_low T R (x5 >>> ((3 : Int32) &&& 31)) 3000 M = some (nI v, M) := lo2
    have f0 : (nI 2 = (0 : Int32)) = False := eq 0 (by omega) (by omega)
    have f1 : (nI 2 = (1 : Int32)) = False := eq 1 (by omega) (by omega)
    have f3 : (nI 2 = (3 : Int32)) = False := eq 3 (by omega) (by omega)
    have t : (nI 2 = (2 : Int32)) = True := eq_true rfl
    refine OKq_of ?_ (hS 2 v hq (by show 0 ≤ v; omega) (by show v ≤ 9000; omega))
    simp only [z0, z3, ↓reduceIte, ↓cal_q lo, bnd_e, f0, f1, f3, t, ↓cal_q lo2]
  · obtain ⟨v, hv, lo2⟩ := low_z (T := T) (R := R) (x5 >>> ((3 : Int32) &&& 31)) (k := 120) (by omega) (by omega) M
    have lo2 : fn_L_low T R (x5 >>> ((3 : Int32) &&& 31)) 120 M = some (nI v, M) := lo2
    have f0 : (nI 3 = (0 : Int32)) = False := eq 0 (by omega) (by omega)
    have f1 : (nI 3 = (1 : Int32)) = False := eq 1 (by omega) (by omega)
    have t : (nI 3 = (3 : Int32)) = True := eq_true rfl
    refine OKq_of ?_ (hS 3 v hq (by show 0 ≤ v; omega) (by show v ≤ 500; omega))
    unfold fs_L_law_445
    simp only [z0, z3, ↓reduceIte, ↓cal_q lo, bnd_e, f0, f1, t, ↓cal_q lo2]
  · obtain ⟨v, hv, lo2⟩ := low_z (T := T) (R := R) (x5 >>> ((3 : Int32) &&& 31)) (k := 5001) (by omega) (by omega) M
    have lo2 : fn_L_low T R (x5 >>> ((3 : Int32) &&& 31)) 5001 M = some (nI v, M) := lo2
    have f0 : (nI 4 = (0 : Int32)) = False := eq 0 (by omega) (by omega)
    have f1 : (nI 4 = (1 : Int32)) = False := eq 1 (by omega) (by omega)
    have f3 : (nI 4 = (3 : Int32)) = False := eq 3 (by omega) (by omega)
    have f2 : (nI 4 = (2 : Int32)) = False := eq 2 (by omega) (by omega)
    have t : (nI 4 = (4 : Int32)) = True := eq_true rfl
    refine OKq_of ?_ (hS 4 v hq (by show 0 ≤ v; omega) (by show v ≤ 5000; omega))
    simp only [z0, z3, ↓reduceIte, ↓cal_q lo, bnd_e, f0, f1, f3, f2, t, ↓cal_q lo2]
  · obtain ⟨v, hv, lo2⟩ := low_z (T := T) (R := R) (x5 >>> ((3 : Int32) &&& 31)) (k := 5000) (by omega) (by omega) M
    have lo2 : fn_L_low T R (x5 >>> ((3 : Int32) &&& 31)) 5000 M = some (nI v, M) := lo2
    have f0 : (nI 5 = (0 : Int32)) = False := eq 0 (by omega) (by omega)
    have f1 : (nI 5 = (1 : Int32)) = False := eq 1 (by omega) (by omega)
    have f3 : (nI 5 = (3 : Int32)) = False := eq 3 (by omega) (by omega)
    have f2 : (nI 5 = (2 : Int32)) = False := eq 2 (by omega) (by omega)
    have f4 : (nI 5 = (4 : Int32)) = False := eq 4 (by omega) (by omega)
    have t : (nI 5 = (5 : Int32)) = True := eq_true rfl
    have e1 : (1 : Int32) + nI v = nI (1 + v) := by rw [l1, nI_add]
    refine OKq_of ?_ (hS 5 (1 + v) hq (by show 1 ≤ 1 + v; omega) (by show 1 + v ≤ 1000000; omega))
    simp only [z0, z3, ↓reduceIte, ↓cal_q lo, bnd_e, f0, f1, f3, f2, f4, t, ↓cal_q lo2, e1]
  · obtain ⟨v, hv, lo2⟩ := low_z (T := T) (R := R) (x5 >>> ((3 : Int32) &&& 31)) (k := 6) (by omega) (by omega) M
    have lo2 : fn_L_low T R (x5 >>> ((3 : Int32) &&& 31)) 6 M = some (nI v, M) := lo2
    have f0 : (nI 6 = (0 : Int32)) = False := eq 0 (by omega) (by omega)
    have f1 : (nI 6 = (1 : Int32)) = False := eq 1 (by omega) (by omega)
    have f3 : (nI 6 = (3 : Int32)) = False := eq 3 (by omega) (by omega)
    have f2 : (nI 6 = (2 : Int32)) = False := eq 2 (by omega) (by omega)
    have f4 : (nI 6 = (4 : Int32)) = False := eq 4 (by omega) (by omega)
    have f5 : (nI 6 = (5 : Int32)) = False := eq 5 (by omega) (by omega)
    refine OKq_of ?_ (hS 6 v hq (by show 0 ≤ v; omega) (by show v ≤ 50; omega))
    simp only [z0, z3, ↓reduceIte, ↓cal_q lo, bnd_e, f0, f1, f3, f2, f4, f5, ↓cal_q lo2]
