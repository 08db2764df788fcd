/-! sound: all bands, years, stakes -/
theorem lgE (a : Int64) : (lg_cmp a a = 0) = True := eq_true ((lg_cmp_eq a a).mpr rfl)
abbrev J403 : Type := Int32 → Int64 → Int32 → Int32 → Int32 → Int32 → Int64 → Int32 → Mm → Option (Int32 × Mm)
theorem so_32 {ad : Nat → Nat} {T : Ty} {M : Mm} {R : Rm} {s : Sx} {n : Nat} {h : Nat → Sx} (w : WQ ad T M R s n h) {Y nb ns : Nat} (g : GS (1000000 * nb + 300000 * Y) Y nb ns s) (hY5 : Y ≤ 500) (ev : EV s) (J : J403) (a : Int64) : ∀ d b fuel, b + d = nb → d < fuel → fb_L_sound_32 T R (ad 0) J fuel (nI nb) (nI Y) (accL (fun b => sm (s.2.1 b) (Y + 1)) a b) (nI (sm (fun b => sm (cnt (s.2.1 b)) (Y + 1)) b)) (nI (mkN s.1 ns b)) (fO (lnB s.1 b)) (nI b) M = J (nI Y) (accL (fun b => sm (s.2.1 b) (Y + 1)) a nb) (nI (sm (fun b => sm (cnt (s.2.1 b)) (Y + 1)) nb)) (nI (mkN s.1 ns nb)) (fO (lnB s.1 nb)) 0 ((s.1 10).toInt64) 0 M := by
  have w0 := (WQ_n w).2
  have hnb := g.2.2.2.2.2.1
  intro d
  induction d with
  | zero =>
    intro b fuel h1 hf
    obtain ⟨n', rfl⟩ : ∃ n', fuel = n' + 1 := ⟨fuel - 1, by omega⟩
    obtain rfl : b = nb := by omega
    have f0 : fn_X6_front T R (ad 0) 0 M = some (_, M) := r_f0 w g hY5
    have c : (nI b ≤ nI b) = True := eq_true (Int32.le_refl _)
    rw [fbs_L_sound_32]
    unfold fs_L_sound_32
    simp only [c, ↓reduceIte, ↓chk_q w0, ↓cal_q f0, bnd_e]
  | succ d ih =>
    intro b fuel h1 hf
    obtain ⟨n', rfl⟩ : ∃ n', fuel = n' + 1 := ⟨fuel - 1, by omega⟩
    have ih' := ih (b + 1) n' (by omega) (by omega)
    have hb : b < nb := by omega
    have q4 : fn_X6_bandInfo T R (ad 0) (nI b) 4 M = some (_, M) := r_b4 w g hY5 hb
    have c : (nI nb ≤ nI b) = False := leF hb (by omega)
    have hcl := cnt_le (s.2.1 b) (Y + 1)
    generalize hcn : sm (cnt (s.2.1 b)) (Y + 1) = cn at q4 hcl
    obtain ⟨pos', p0, p1, p2, p3⟩ := so_56 w g hY5 hb hcn (fs_L_sound_170 T R (ad 0) (fb_L_sound_32 T R (ad 0) J n')) (nI nb) (accL (fun b => sm (s.2.1 b) (Y + 1)) a b) (nI (sm (fun b => sm (cnt (s.2.1 b)) (Y + 1)) b)) (nI (mkN s.1 ns b)) (fO (lnB s.1 b)) cn 0 0 FU (by omega) rfl (by omega) (fun _ => rfl) (fun h => absurd h (by omega)) (FU_gt (by omega))
    have p4 := so_170 w g hY5 ev hb hcn p0 p1 p2 (fb_L_sound_32 T R (ad 0) J n') (nI nb) (nI Y) (accL (fun b => sm (s.2.1 b) (Y + 1)) a b) (sm (fun b => sm (cnt (s.2.1 b)) (Y + 1)) b) (if mlS s.1 b ≤ snS s.1 b then nI b else fO (lnB s.1 b))
    have el : (if mlS s.1 b ≤ snS s.1 b then nI b else fO (lnB s.1 b)) = fO (lnB s.1 (b + 1)) := by
      unfold lnB
      by_cases h : mlS s.1 b ≤ snS s.1 b
      · rw [if_pos h, if_pos h, fO_s]
      · rw [if_neg h, if_neg h]
        cases b <;> rfl
    have e1 : sm (fun b => sm (cnt (s.2.1 b)) (Y + 1)) b + cn = sm (fun b => sm (cnt (s.2.1 b)) (Y + 1)) (b + 1) := by
      rw [sm_s, hcn]
    rw [el] at p3 p4
    rw [p4, e1] at p3
    have e2 : accL (fun b => sm (s.2.1 b) (Y + 1)) a b + (nI (sm (s.2.1 b) (Y + 1))).toInt64 = accL (fun b => sm (s.2.1 b) (Y + 1)) a (b + 1) := rfl
    rw [e2, ih'] at p3
    rw [fbs_L_sound_32]
    unfold fs_L_sound_32
    simp only [c, ↓reduceIte, ↓chk_q w0, ↓cal_q q4]
    rw [lm1', l0]
    exact p3
theorem so_403 {ad : Nat → Nat} {T : Ty} {M : Mm} {R : Rm} {s : Sx} {n : Nat} {h : Nat → Sx} (w : WQ ad T M R s n h) {Y nb ns : Nat} (g : GS (1000000 * nb + 300000 * Y) Y nb ns s) (hY5 : Y ≤ 500) (J : Int32 → Int64 → Int32 → Int32 → Int32 → Int32 → Int64 → Int32 → Int32 → Mm → Option (Int32 × Mm)) (l3 a : Int64) (x5 x6 x7 : Int32) : ∀ d y fuel, y + d = Y + 1 → d < fuel → fb_L_sound_403 T R (ad 0) J fuel (nI Y) l3 x5 x6 x7 (nI (sm (cnt (fun y => sm (fun b => s.2.1 b y) nb)) y)) (accL (fun y => sm (fun b => s.2.1 b y) nb) a y) (nI y) M = J (nI Y) l3 x5 x6 x7 (nI (sm (cnt (fun y => sm (fun b => s.2.1 b y) nb)) (Y + 1))) (accL (fun y => sm (fun b => s.2.1 b y) nb) a (Y + 1)) 0 0 M := by
  have w0 := (WQ_n w).2
  have hnb := g.2.2.2.2.2.1
  intro d
  induction d with
  | zero =>
    intro y fuel h1 hf
    obtain ⟨n', rfl⟩ : ∃ n', fuel = n' + 1 := ⟨fuel - 1, by omega⟩
    obtain rfl : y = Y + 1 := by omega
    have c : (nI Y < nI (Y + 1)) = True := lT (by omega) (by omega)
    rw [fbs_L_sound_403]
    unfold fs_L_sound_403
    simp only [c, ↓reduceIte]
  | succ d ih =>
    intro y fuel h1 hf
    obtain ⟨n', rfl⟩ : ∃ n', fuel = n' + 1 := ⟨fuel - 1, by omega⟩
    have ih' := ih (y + 1) n' (by omega) (by omega)
    have q := r_oy w g hY5 (y := y) (by omega)
    have hc31 := GS_col g (y := y)
    have c : (nI Y < nI y) = False := lF (by omega) (by omega)
    rw [sm_s, accL_s] at ih'
    rw [← ih', fbs_L_sound_403]
    unfold fs_L_sound_403 fs_L_sound_425
    by_cases h0 : sm (fun b => s.2.1 b y) nb = 0
    · have ec : cnt (fun y => sm (fun b => s.2.1 b y) nb) y = 0 := cnt_z h0
      have z : ((nI (sm (fun b => s.2.1 b y) nb) : Int32) ≤ 0) = True := eq_true (by rw [h0]; decide)
      simp only [c, ↓reduceIte, ↓chk_q w0, ↓cal_q q, z, bnd_e, ec, nI_p0, nI_p1]
    · have ec : cnt (fun y => sm (fun b => s.2.1 b y) nb) y = 1 := cnt_t (by omega)
      have z : ((nI (sm (fun b => s.2.1 b y) nb) : Int32) ≤ 0) = False := leF (b := 0) (by omega) (by omega)
      simp only [c, ↓reduceIte, ↓chk_q w0, ↓cal_q q, z, bnd_e, ec, nI_p1]
theorem so_452 {ad : Nat → Nat} {T : Ty} {M : Mm} {R : Rm} {s : Sx} {n : Nat} {h : Nat → Sx} (w : WQ ad T M R s n h) {Y nb ns : Nat} (g : GS (1000000 * nb + 300000 * Y) Y nb ns s) (hY5 : Y ≤ 500) (ev : EV s) {l3 l9 : Int64} (e3 : l3 = (s.1 10 + nI (tot s.2.1 Y nb)).toInt64) (e9 : l9 = (s.1 10 + nI (tot s.2.1 Y nb)).toInt64) : ∀ d i fuel, i + d = ns → d < fuel → fb_L_sound_452 T R (ad 0) (fs_L_sound_768 T R (ad 0)) fuel (nI Y) l3 (nI (sm (fun b => sm (cnt (s.2.1 b)) (Y + 1)) nb)) (nI (mkN s.1 ns nb)) (fO (lnB s.1 nb)) (nI (sm (cnt (fun y => sm (fun b => s.2.1 b y) nb)) (Y + 1))) l9 (nI (sm (stN s.1) i)) (nI i) M = some (1, M) := by
  have w0 := (WQ_n w).2
  have I := g.1.1
  have hnb := g.2.2.2.2.2.1
  have hns := g.2.2.2.2.2.2.1
  have n7 := g.2.2.2.2.2.2.2.1
  have n8 := g.2.2.2.2.2.2.2.2.1
  have n9 := g.2.2.2.2.2.2.2.2.2
  obtain ⟨-, -, -, ev4, ev5, ev6⟩ := ev
  rw [n7, n8] at ev4
  rw [n7, n9] at ev5
  obtain ⟨F, P, r, m10, m12, m11, r50, hFK, -, -⟩ := g.1.2.1
  have c2 : fn_X6_count T R (ad 0) 2 M = some (_, M) := r_c2 w g hY5
  intro d
  induction d with
  | zero =>
    intro i fuel h1 hf
    obtain ⟨n', rfl⟩ : ∃ n', fuel = n' + 1 := ⟨fuel - 1, by omega⟩
    obtain rfl : i = ns := by omega
    have a4 : fn_X6_account T R (ad 0) 4 M = some (_, M) := r_a4 w g hY5
    have a5 : fn_X6_account T R (ad 0) 5 M = some (_, M) := r_a5 w g hY5
    have a0 : fn_X6_account T R (ad 0) 0 M = some (_, M) := r_a0 w g hY5
    have a1 : fn_X6_account T R (ad 0) 1 M = some (_, M) := r_a1 w g hY5
    have a2 : fn_X6_account T R (ad 0) 2 M = some (_, M) := r_a2 w g hY5
    have a3 : fn_X6_account T R (ad 0) 3 M = some (_, M) := r_a3 w g hY5
    have c3 : fn_X6_count T R (ad 0) 3 M = some (_, M) := r_c3 w g hY5
    have c4 : fn_X6_count T R (ad 0) 4 M = some (_, M) := r_c4 w g hY5
    have c5 : fn_X6_count T R (ad 0) 5 M = some (_, M) := r_c5 w g hY5
    have ql := r_line w g hY5
    have f0 : fn_X6_front T R (ad 0) 0 M = some (_, M) := r_f0 w g hY5
    have f1 : fn_X6_front T R (ad 0) 1 M = some (_, M) := r_f1 w g hY5
    have f2 : fn_X6_front T R (ad 0) 2 M = some (_, M) := r_f2 w g hY5
    have f3 : fn_X6_front T R (ad 0) 3 M = some (_, M) := r_f3 w g hY5 m12 (by omega)
    have d0 : (s.1 10 < 0) = False := by
      rw [m10]
      exact eq_false (nI_pos (by omega))
    have d1 : (s.1 11 < 0) = False := by
      rw [m11]
      exact eq_false (nI_pos (by omega))
    have c : (nI i ≤ nI i) = True := eq_true (Int32.le_refl _)
    rw [fbs_L_sound_452]
    unfold fs_L_sound_452
    simp only [↓chk_q w0, ↓cal_q c2, c, ↓reduceIte, ↓cal_q a4, e3, e9, lgE, ↓cal_q a5, ↓cal_q a0, ↓cal_q a1, ↓cal_q a2, ↓cal_q a3, ev4, ↓cal_q c3, ↓cal_q c4, ↓cal_q c5, ↓cal_q ql, ↓cal_q f0, d0, ↓cal_q f1, d1, ↓cal_q f3]
    unfold fs_L_sound_768 fs_L_sound_781
    by_cases hp : P = 0
    · have hz : (s.1 12 = 0) = True := eq_true (by rw [m12, hp]; rfl)
      simp only [hp, ↓reduceIte, ↓chk_q w0, ↓cal_q f2, hz]
    · have hz : (s.1 12 = 0) = False := by
        rw [m12]
        exact eF (b := 0) hp (by omega) (by omega)
      obtain ⟨y, y1, y2⟩ := ev6 (by
        rw [m12, Ne, nI_eq (by omega) (by omega)]
        exact hp)
      have hn : (nI y = (-2000000004 : Int32)) = False := nI_nf (by omega)
      simp only [hp, ↓reduceIte, y2, hn, ↓chk_q w0, ↓cal_q f2, hz]
  | succ d ih =>
    intro i fuel h1 hf
    obtain ⟨n', rfl⟩ : ∃ n', fuel = n' + 1 := ⟨fuel - 1, by omega⟩
    have ih' := ih (i + 1) n' (by omega) (by omega)
    have hi : i < ns := by omega
    have q0 : fn_X6_stakeInfo T R (ad 0) (nI i) 0 M = some (s.1 (74 + 6 * i), M) := r_s w g hY5 (i := i) (j := 0) hi (by omega)
    have q1 : fn_X6_stakeInfo T R (ad 0) (nI i) 1 M = some (_, M) := r_s w g hY5 (i := i) (j := 1) hi (by omega)
    have q2 : fn_X6_stakeInfo T R (ad 0) (nI i) 2 M = some (_, M) := r_s w g hY5 (i := i) (j := 2) hi (by omega)
    have q3 : fn_X6_stakeInfo T R (ad 0) (nI i) 3 M = some (_, M) := r_s w g hY5 (i := i) (j := 3) hi (by omega)
    have q4 : fn_X6_stakeInfo T R (ad 0) (nI i) 4 M = some (_, M) := r_s w g hY5 (i := i) (j := 4) hi (by omega)
    have q5 : fn_X6_stakeInfo T R (ad 0) (nI i) 5 M = some (_, M) := r_s w g hY5 (i := i) (j := 5) hi (by omega)
    obtain ⟨⟨p, p1, p2⟩, s0, s1, y, y1, y2⟩ := ev5 i hi
    obtain ⟨hb1, hb2⟩ := I.2.2.2.2.2.2.2.2.2.2.2 i (by omega)
    generalize hbb : nt (s.1 (74 + 6 * i)) = b at p2 hb2
    have eb : s.1 (74 + 6 * i) = nI b := by
      have := hb1.1
      rw [hbb] at this
      exact this
    obtain ⟨el, l1', l2'⟩ := (I.2.2.2.2.2.2.2.2.2.2.1 b hb2).2.1
    have r1 : fn_X6_bandInfo T R (ad 0) (nI b) 1 M = some (_, M) := r_b1 w g hY5 (by omega)
    have rs : fn_X6_stakesIn T R (ad 0) (nI b) M = some (nI (sbN s.1 b ns), M) := by
      rw [← sbB_N s.1 b ns hns]
      exact r_si w g hY5 (by omega)
    rw [eb] at q0
    rw [p1] at q1
    rw [y2] at q5
    have cn : (nI ns ≤ nI i) = False := leF hi (by omega)
    have cp : ((nI p : Int32) < 0) = False := eq_false (nI_pos (by omega))
    have cl : (s.1 (14 + 6 * b + 1) ≤ nI p) = False := by
      rw [el]
      exact leF p2 (by omega)
    have cy : (nI y ≤ nI Y) = True := leT y1 (by omega)
    have hm64 : mkN s.1 ns nb < 2 ^ 31 := Nat.lt_of_lt_of_le (mkN_lt s.1 nb) (Nat.pow_le_pow_right (by omega) (by omega))
    have hs64 : sbN s.1 b ns < 2 ^ 31 := Nat.lt_of_lt_of_le (sbN_lt s.1 b ns) (Nat.pow_le_pow_right (by omega) (by omega))
    have b1 := bit6 hm64 (show i < 6 by omega)
    have b2 := bit6 hs64 (show i < 6 by omega)
    rw [bit_t] at b1 b2
    have tm := mkN_t s.1 ns i nb
    have ts := sbN_t s.1 b i ns
    rw [sm_s (stN s.1) i] at ih'
    have z10 : ((1 : Int32) = 0) = False := eq_false (by decide)
    have z01 : ((0 : Int32) = 1) = False := eq_false (by decide)
    have z00 : (nI 0 = (1 : Int32)) = False := eq_false (by decide)
    have z11 : (nI 1 = (1 : Int32)) = True := eq_true rfl
    have z1n : (nI 1 = (0 : Int32)) = False := eq_false (by decide)
    rw [fbs_L_sound_452]
    unfold fs_L_sound_452 fs_L_sound_477 fs_L_sound_491 fs_L_sound_512 fs_L_sound_571 fs_L_sound_594 fs_L_sound_623
    by_cases h4 : s.1 (74 + 6 * i + 4) = nI 0
    · have h4' : (s.1 (74 + 6 * i + 4) = 0) = True := eq_true h4
      have h41 : (s.1 (74 + 6 * i + 4) = 1) = False := by
        rw [h4]
        exact z00
      have est : stN s.1 i = 1 := if_pos h4
      have t1 := tm.mpr ⟨hi, h4, b, by omega, eb⟩
      have t2 := ts.mpr ⟨hi, h4, eb⟩
      rw [if_pos t1] at b1
      rw [if_pos t2] at b2
      have cc : (s.1 (74 + 6 * i + 3) < -(s.1 (74 + 6 * i + 2))) = False := eq_false (Int32.not_lt.mpr (s0 h4))
      rw [est] at ih'
      simp only [↓chk_q w0, ↓cal_q c2, cn, ↓reduceIte, ↓cal_q q4, h4', z10, bnd_e, b1, z11, ↓cal_q q1, cp, ↓cal_q q0, ↓cal_q r1, r1, cal_e, cl, ↓cal_q rs, rs, b2, z1n, ↓cal_q q3, ↓cal_q q2, cc, h41, ↓cal_q q5, cy, nI_p1, ih']
    · have h4' : (s.1 (74 + 6 * i + 4) = 0) = False := eq_false h4
      have est : stN s.1 i = 0 := if_neg h4
      have t1 : ¬ (mkN s.1 ns nb).testBit i = true := fun h => h4 (tm.mp h).2.1
      rw [if_neg t1] at b1
      rw [est] at ih'
      by_cases h5 : s.1 (74 + 6 * i + 4) = nI 1
      · have h51 : (s.1 (74 + 6 * i + 4) = 1) = True := eq_true h5
        have cc : (-(s.1 (74 + 6 * i + 2)) ≤ s.1 (74 + 6 * i + 3)) = False := eq_false (s1 h5)
        simp only [↓chk_q w0, ↓cal_q c2, cn, ↓reduceIte, ↓cal_q q4, h4', z01, bnd_e, b1, z00, ↓cal_q q1, cp, ↓cal_q q0, ↓cal_q r1, r1, cal_e, cl, h51, ↓cal_q q3, ↓cal_q q2, cc, ↓cal_q q5, cy, nI_p1, nI_p0, ih']
      · have h51 : (s.1 (74 + 6 * i + 4) = 1) = False := eq_false h5
        simp only [↓chk_q w0, ↓cal_q c2, cn, ↓reduceIte, ↓cal_q q4, h4', z01, bnd_e, b1, z00, ↓cal_q q1, cp, ↓cal_q q0, ↓cal_q r1, r1, cal_e, cl, h51, ↓cal_q q5, cy, nI_p1, nI_p0, ih']
theorem so_all {ad : Nat → Nat} {T : Ty} {M : Mm} {R : Rm} {s : Sx} {n : Nat} {h : Nat → Sx} (w : WQ ad T M R s n h) {Y nb ns : Nat} (g : GS (1000000 * nb + 300000 * Y) Y nb ns s) (hY5 : Y ≤ 500) (ev : EV s) : fn_L_sound T R (ad 0) M = some (1, M) := by
  have w0 := (WQ_n w).2
  have hnb := g.2.2.2.2.2.1
  have c0 : fn_X6_count T R (ad 0) 0 M = some (_, M) := r_c0 w g hY5
  have c1 : fn_X6_count T R (ad 0) 1 M = some (_, M) := r_c1 w g hY5
  have f0 : fn_X6_front T R (ad 0) 0 M = some (_, M) := r_f0 w g hY5
  obtain ⟨F, m10, hF⟩ := GS_tot g
  have eJ : ∀ f : Nat → Nat, ∀ k, sm f k = tot s.2.1 Y nb → accL f ((s.1 10).toInt64) k = (s.1 10 + nI (tot s.2.1 Y nb)).toInt64 := fun f k h => by
    rw [accL_sm _ _ _ (by omega), h, m10, J_add (by omega), nI_add]
  have h1 := so_32 w g hY5 ev (fb_L_sound_403 T R (ad 0) (fb_L_sound_452 T R (ad 0) (fs_L_sound_768 T R (ad 0)) FU) FU) ((s.1 10).toInt64) nb 0 FU (by omega) (FU_gt (by omega))
  have h2 := so_403 w g hY5 (fb_L_sound_452 T R (ad 0) (fs_L_sound_768 T R (ad 0)) FU) (accL (fun b => sm (s.2.1 b) (Y + 1)) ((s.1 10).toInt64) nb) ((s.1 10).toInt64) (nI (sm (fun b => sm (cnt (s.2.1 b)) (Y + 1)) nb)) (nI (mkN s.1 ns nb)) (fO (lnB s.1 nb)) (Y + 1) 0 FU (by omega) (FU_gt (by omega))
  have h3 := so_452 w g hY5 ev (eJ (fun b => sm (s.2.1 b) (Y + 1)) nb rfl) (eJ (fun y => sm (fun b => s.2.1 b y) nb) (Y + 1) (sm_swap s.2.1 nb (Y + 1)).symm) ns 0 FU (by omega) (FU_gt (by have := g.2.2.2.2.2.2.1; omega))
  have h4 := h2.trans h3
  have h5 := h1.trans h4
  unfold fn_L_sound
  simp only [↓chk_q w0, ↓cal_q c0, ↓cal_q c1, ↓cal_q f0, bnd_e]
  exact h5
