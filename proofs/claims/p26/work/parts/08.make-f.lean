def fn_L_lot (L : Nat) (xs : Nat → Int32) (x1 : Int32) : Option Int32 :=
  if (Int32.ofNat L) ≤ x1 then (
    some (((-2049193025 : Int32) * (x1 + (2161 : Int32))) + (1993 : Int32))) else (
    chk (inb x1 L) <|
    some (xs x1.toNatClampNeg))
abbrev rm_L_lot : Room := { frames := 0, cells := 0, slots := 0, locals := 0 }
theorem hd_L_lot : yL_lot.cls ≠ "java/lang/invoke/MethodHandle" ∧ yL_lot.cls ≠ "java/lang/invoke/VarHandle" ∧ (parseMethodDescriptor yL_lot.desc).map (fun d => d.parameters.length) = some 2 := ⟨by decide +kernel, by decide +kernel, by decide +kernel⟩
set_option maxHeartbeats 4000000 in
set_option maxRecDepth 100000 in
theorem ct_L_lot {l : Launch} {D : va_G} {cy : Cy} {T : Ty} {R : Rm} {b L : Nat} {xs : Nat → Int32} {x1 : Int32} {M : Mm} {r : Int32} (h : fn_L_lot L xs x1 = some r) : CtX l yL_lot cL_lot 2 (some .int) rm_L_lot D cy T M R b L xs [.ref b, .int x1] r := by
  unfold fn_L_lot at h
  refine enterX (plainFor_of_name (by decide +kernel)) (Nat.le_of_ble_eq_true rfl) (fun p e s m args below meth c A C hX hbl hbA hP hD hS ls hl => ?_)
  have hl : lv_has ls 2 [(0, .ref b), (1, .int x1)] := hl
  obtain ⟨hx, hb, hr, hml, hown, hts, hK, hA, hlk, hSt⟩ := id C
  refine lv_iload_n hx hb dL_lot_0 rfl (lv_at hl 1 rfl) ?_
  refine lv_aload_n hx hb dL_lot_1 rfl (lv_at hl 0 rfl) ?_
  refine va_slen hx hb hX hbl hbA hS dL_lot_2 ?_
  refine lv_icmp_ge (tgt := 12) hx hb dL_lot_3 (by decide) (fun c_1 => ?_) (fun c_1 => ?_)
  · replace h := ite_t h c_1
    refine lv_ldc (own := RL) (v := -2049193025) hx hb hown (hts _ wl_514) dL_lot_12 ?_
    refine lv_iload_n hx hb dL_lot_14 rfl (lv_at hl 1 rfl) ?_
    refine lv_sipush (v := 2161) hx hb dL_lot_15 (by decide) ?_
    refine lv_iadd hx hb dL_lot_18 ?_
    refine lv_imul hx hb dL_lot_19 ?_
    refine lv_sipush (v := 1993) hx hb dL_lot_20 (by decide) ?_
    refine lv_iadd hx hb dL_lot_23 ?_
    cases h
    exact rt_i C hP hD hS dL_lot_24
  · replace h := ite_f h c_1
    refine lv_aload_n hx hb dL_lot_6 rfl (lv_at hl 0 rfl) ?_
    refine lv_iload_n hx hb dL_lot_7 rfl (lv_at hl 1 rfl) ?_
    obtain ⟨k_2, h⟩ := chk_some h
    refine va_sld hx hb hX hbl hbA hS (inb_vp k_2) dL_lot_8 ?_
    refine lv_goto (tgt := 24) hx hb dL_lot_9 (by decide) ?_
    cases h
    exact rt_i C hP hD hS dL_lot_24
def fs_L_year_466 (T : Ty) (a0 : Nat) (f2 : (Nat → Int32)) (f3 : (Nat → Int32)) (f4 : (Nat → Int32)) (x6 : Int32) (x16 : Int32) (M : Mm) (R : Rm) : Option (Int32 × Mm × Rm) :=
  if 0 < x6 then (
    some ((1 : Int32), M, R)) else (
    if 0 < x16 then (
      some ((1 : Int32), M, R)) else (
      chk (isK T a0 6) <|
      cal (fn_X6_front T R a0 (1 : Int32) M) fun r_4 M_5 =>
      if r_4 = 0 then (
        some ((1 : Int32), M_5, R)) else (
        some ((0 : Int32), M_5, R))))
def fs_L_year_451 (T : Ty) (a0 : Nat) (f2 : (Nat → Int32)) (f3 : (Nat → Int32)) (f4 : (Nat → Int32)) (x6 : Int32) (x15 : Int32) (x16 : Int32) (M : Mm) (R : Rm) : Option (Int32 × Mm × Rm) :=
  if 0 < x6 then (
    (fs_L_year_466 T a0) f2 f3 f4 x6 x16 M R) else (
    chk (isK T a0 6) <|
    cal (fn_X6_front T R a0 (0 : Int32) M) fun r_10 M_11 =>
    if x15 ≤ r_10 then (
      some ((0 : Int32), M_11, R)) else (
      (fs_L_year_466 T a0) f2 f3 f4 x6 x16 M_11 R))
def fs_L_year_373 (T : Ty) (a0 : Nat) (f2 : (Nat → Int32)) (f3 : (Nat → Int32)) (f4 : (Nat → Int32)) (x5 : Int32) (x6 : Int32) (l8 : Int64) (l10 : Int64) (x12 : Int32) (x13 : Int32) (x15 : Int32) (s0 : Int32) (M : Mm) (R : Rm) : Option (Int32 × Mm × Rm) :=
  chk (isK T a0 6) <|
  cal (fn_X6_account T R a0 (1 : Int32) M) fun r_15 M_16 =>
  if (lg_cmp r_15 l8) = 0 then (
    cal (fn_X6_account T R a0 (2 : Int32) M_16) fun r_19 M_20 =>
    if (lg_cmp r_19 l10) = 0 then (
      if x13 = s0 then (
        cal (fn_X6_front T R a0 (0 : Int32) M_20) fun r_24 M_25 =>
        if r_24 = (x5 - (s0 * x15)) then (
          if s0 = 0 then (
            (fs_L_year_451 T a0) f2 f3 f4 x6 x15 s0 M_25 R) else (
            cal (fn_X6_front T R a0 (1 : Int32) M_25) fun r_29 M_30 =>
            cal (fn_X6_count T R a0 (12 : Int32) M_30) fun r_32 M_33 =>
            if r_29 = r_32 then (
              cal (fn_X6_front T R a0 (3 : Int32) M_33) fun r_36 M_37 =>
              if r_36 = (x12 + (1 : Int32)) then (
                (fs_L_year_451 T a0) f2 f3 f4 x6 x15 s0 M_37 R) else (
                some ((0 : Int32), M_37, R))) else (
              some ((0 : Int32), M_33, R)))) else (
          some ((0 : Int32), M_25, R))) else (
        some ((0 : Int32), M_20, R))) else (
      some ((0 : Int32), M_20, R))) else (
    some ((0 : Int32), M_16, R))
def fs_L_year_258 (T : Ty) (a0 : Nat) (j182 : Int32 → (Nat → Int32) → (Nat → Int32) → (Nat → Int32) → Int32 → Int32 → Int64 → Int64 → Int32 → Int32 → Int32 → Int32 → Mm → Rm → Option (Int32 × Mm × Rm)) (x1 : Int32) (f2 : (Nat → Int32)) (f3 : (Nat → Int32)) (f4 : (Nat → Int32)) (x5 : Int32) (x6 : Int32) (l8 : Int64) (l10 : Int64) (x12 : Int32) (x13 : Int32) (x14 : Int32) (x15 : Int32) (x16 : Int32) (x17 : Int32) (x18 : Int32) (s0 : Int32) (s1 : Int32) (M : Mm) (R : Rm) : Option (Int32 × Mm × Rm) :=
  if s0 = s1 then (
    chk (isK T a0 6) <|
    cal (fn_X6_bandInfo T R a0 x15 (2 : Int32) M) fun r_42 M_43 =>
    if x18 = ((((x17.toInt64) * (r_42.toInt64)) / (1000 : Int64)).toInt32) then (
      cal (fn_X6_bandInfo T R a0 x15 (11 : Int32) M_43) fun r_46 M_47 =>
      if r_46 = x14 then (
        cal (fn_X6_bandInfo T R a0 x15 (3 : Int32) M_47) fun r_50 M_51 =>
        if r_50 = ((x17 - x18) + x14) then (
          chk (inb x15 10) <|
          bnd (l8 + ((f3 x15.toNatClampNeg).toInt64)) fun v_55 =>
          bnd (l10 + (x16.toInt64)) fun v_56 =>
          bnd (x15 + (1 : Int32)) fun v_57 =>
          j182 x1 f2 f3 f4 x5 x6 v_55 v_56 x12 x13 x18 v_57 M_51 R) else (
          some ((0 : Int32), M_51, R))) else (
        some ((0 : Int32), M_47, R))) else (
      some ((0 : Int32), M_43, R))) else (
    some ((0 : Int32), M, R))
def fs_L_year_182 (T : Ty) (a0 : Nat) (j182 : Int32 → (Nat → Int32) → (Nat → Int32) → (Nat → Int32) → Int32 → Int32 → Int64 → Int64 → Int32 → Int32 → Int32 → Int32 → Mm → Rm → Option (Int32 × Mm × Rm)) (j373 : (Nat → Int32) → (Nat → Int32) → (Nat → Int32) → Int32 → Int32 → Int64 → Int64 → Int32 → Int32 → Int32 → Int32 → Mm → Rm → Option (Int32 × Mm × Rm)) (x1 : Int32) (f2 : (Nat → Int32)) (f3 : (Nat → Int32)) (f4 : (Nat → Int32)) (x5 : Int32) (x6 : Int32) (l8 : Int64) (l10 : Int64) (x12 : Int32) (x13 : Int32) (x14 : Int32) (x15 : Int32) (M : Mm) (R : Rm) : Option (Int32 × Mm × Rm) :=
  if x1 ≤ x15 then (
    chk (isK T a0 6) <|
    cal (fn_X6_count T R a0 (11 : Int32) M) fun r_60 M_61 =>
    bnd (x5 + x14) fun v_63 =>
    if x6 ≤ 0 then (
      chk (decide (¬ r_60 = 0)) <|
      j373 f2 f3 f4 v_63 x6 l8 l10 x12 x13 r_60 (v_63 / r_60) M_61 R) else (
      j373 f2 f3 f4 v_63 x6 l8 l10 x12 x13 r_60 (0 : Int32) M_61 R)) else (
    chk (isK T a0 6) <|
    cal (fn_X6_bandInfo T R a0 x15 (9 : Int32) M) fun r_67 M_68 =>
    chk (inb x15 10) <|
    bnd (((f2 x15.toNatClampNeg) + (f3 x15.toNatClampNeg)) - r_67) fun v_71 =>
    cal (fn_X6_bandInfo T R a0 x15 (10 : Int32) M_68) fun r_72 M_73 =>
    if ((f2 x15.toNatClampNeg) + (f3 x15.toNatClampNeg)) ≤ (f4 x15.toNatClampNeg) then (
      (fs_L_year_258 T a0 j182) x1 f2 f3 f4 x5 x6 l8 l10 x12 x13 x14 x15 r_67 v_71 r_72 r_67 ((f2 x15.toNatClampNeg) + (f3 x15.toNatClampNeg)) M_73 R) else (
      (fs_L_year_258 T a0 j182) x1 f2 f3 f4 x5 x6 l8 l10 x12 x13 x14 x15 r_67 v_71 r_72 r_67 (f4 x15.toNatClampNeg) M_73 R))
def fb_L_year_182 (T : Ty) (a0 : Nat) (j373 : (Nat → Int32) → (Nat → Int32) → (Nat → Int32) → Int32 → Int32 → Int64 → Int64 → Int32 → Int32 → Int32 → Int32 → Mm → Rm → Option (Int32 × Mm × Rm)) : Nat → Int32 → (Nat → Int32) → (Nat → Int32) → (Nat → Int32) → Int32 → Int32 → Int64 → Int64 → Int32 → Int32 → Int32 → Int32 → Mm → Rm → Option (Int32 × Mm × Rm) :=
  lp (fun j182 => fs_L_year_182 T a0 j182 j373) (fun _ _ _ _ _ _ _ _ _ _ _ _ _ _ => none)
def fs_L_year_176 (T : Ty) (a0 : Nat) (x1 : Int32) (f2 : (Nat → Int32)) (f3 : (Nat → Int32)) (f4 : (Nat → Int32)) (x5 : Int32) (x6 : Int32) (l8 : Int64) (l10 : Int64) (x12 : Int32) (x13 : Int32) (M : Mm) (R : Rm) : Option (Int32 × Mm × Rm) :=
  (fb_L_year_182 T a0 (fs_L_year_373 T a0) FU) x1 f2 f3 f4 x5 x6 l8 l10 x12 x13 (0 : Int32) (0 : Int32) M R
def fs_L_year_25 (T : Ty) (a0 : Nat) (j25 : Int32 → (Nat → Int32) → (Nat → Int32) → (Nat → Int32) → Int32 → Mm → Rm → Option (Int32 × Mm × Rm)) (j176 : Int32 → (Nat → Int32) → (Nat → Int32) → (Nat → Int32) → Int32 → Int32 → Int64 → Int64 → Int32 → Int32 → Mm → Rm → Option (Int32 × Mm × Rm)) (x1 : Int32) (f2 : (Nat → Int32)) (f3 : (Nat → Int32)) (f4 : (Nat → Int32)) (x5 : Int32) (M : Mm) (R : Rm) : Option (Int32 × Mm × Rm) :=
  if x1 ≤ x5 then (
    chk (isK T a0 6) <|
    cal (fn_X6_front T R a0 (0 : Int32) M) fun r_78 M_79 =>
    cal (fn_X6_front T R a0 (1 : Int32) M_79) fun r_81 M_82 =>
    cal (fn_X6_front T R a0 (2 : Int32) M_82) fun r_84 M_85 =>
    cal (fn_X6_account T R a0 (1 : Int32) M_85) fun r_87 M_88 =>
    cal (fn_X6_account T R a0 (2 : Int32) M_88) fun r_90 M_91 =>
    cal (fn_X6_count T R a0 (1 : Int32) M_91) fun r_93 M_94 =>
    calR (fn_X6_years T a0 (1 : Int32) M_94 R) fun r_96 M_97 R_99 =>
    if r_96 < 0 then (
      some ((0 : Int32), M_97, R_99)) else (
      cal (fn_X6_count T R_99 a0 (1 : Int32) M_97) fun r_101 M_102 =>
      if r_101 = (r_93 + (1 : Int32)) then (
        cal (fn_X6_front T R_99 a0 (2 : Int32) M_102) fun r_105 M_106 =>
        if r_105 = (r_84 + r_96) then (
          if r_81 ≤ 0 then (
            j176 x1 f2 f3 f4 r_78 r_81 r_87 r_90 r_93 r_96 M_106 R_99) else (
            if r_96 = 0 then (
              cal (fn_X6_front T R_99 a0 (1 : Int32) M_106) fun r_111 M_112 =>
              if r_111 = (r_81 - (1 : Int32)) then (
                j176 x1 f2 f3 f4 r_78 r_81 r_87 r_90 r_93 r_96 M_112 R_99) else (
                some ((0 : Int32), M_112, R_99))) else (
              some ((0 : Int32), M_106, R_99)))) else (
          some ((0 : Int32), M_106, R_99))) else (
        some ((0 : Int32), M_102, R_99)))) else (
    chk (isK T a0 6) <|
    cal (fn_X6_bandInfo T R a0 x5 (3 : Int32) M) fun r_116 M_117 =>
    chk (inb x5 10) <|
    bnd (upd f2 x5.toNatClampNeg r_116) fun g_120 =>
    cal (fn_X6_bandInfo T R a0 x5 (7 : Int32) M_117) fun r_121 M_122 =>
    bnd (upd f3 x5.toNatClampNeg r_121) fun g_124 =>
    cal (fn_X6_bandInfo T R a0 x5 (8 : Int32) M_122) fun r_125 M_126 =>
    bnd (upd f4 x5.toNatClampNeg r_125) fun g_128 =>
    bnd (x5 + (1 : Int32)) fun v_129 =>
    j25 x1 g_120 g_124 g_128 v_129 M_126 R)
def fb_L_year_25 (T : Ty) (a0 : Nat) (j176 : Int32 → (Nat → Int32) → (Nat → Int32) → (Nat → Int32) → Int32 → Int32 → Int64 → Int64 → Int32 → Int32 → Mm → Rm → Option (Int32 × Mm × Rm)) : Nat → Int32 → (Nat → Int32) → (Nat → Int32) → (Nat → Int32) → Int32 → Mm → Rm → Option (Int32 × Mm × Rm) :=
  lp (fun j25 => fs_L_year_25 T a0 j25 j176) (fun _ _ _ _ _ _ _ => none)
def fn_L_year (T : Ty) (a0 : Nat) (M : Mm) (R : Rm) : Option (Int32 × Mm × Rm) :=
  chk (isK T a0 6) <|
  cal (fn_X6_count T R a0 (0 : Int32) M) fun r_135 M_136 =>
  (fb_L_year_25 T a0 (fs_L_year_176 T a0) FU) r_135 (fun _ => 0) (fun _ => 0) (fun _ => 0) (0 : Int32) M_136 R
abbrev rm_L_year : Room := { frames := 7, cells := 3, slots := 30, locals := 156 }
theorem hd_L_year : yL_year.cls ≠ "java/lang/invoke/MethodHandle" ∧ yL_year.cls ≠ "java/lang/invoke/VarHandle" ∧ (parseMethodDescriptor yL_year.desc).map (fun d => d.parameters.length) = some 1 := ⟨by decide +kernel, by decide +kernel, by decide +kernel⟩
set_option maxHeartbeats 4000000 in
set_option maxRecDepth 100000 in
theorem bs_L_year_466 {p : Program} {l : Launch} {e : Env} {s : State} {m : MethodId} {args : Array Value} {below : List Frame} {meth : Method} {c : Code} {D : va_G} {cy : Cy} {A : Nat → Prop} {T : Ty} {R9 : Rm} {r : Int32} {M9 : Mm} {q2 q3 q4 : Nat} {a0 : Nat} (C : Cx RL cL_year 19 (some .boolean) p s m args meth c D cy A) :
    ∀ (f2 : (Nat → Int32)) (f3 : (Nat → Int32)) (f4 : (Nat → Int32)) (x6 : Int32) (x16 : Int32) (M : Mm) (R : Rm) (H : Heap) (locs : List Loc), fs_L_year_466 T a0 f2 f3 f4 x6 x16 M R = some (r, M9, R9) → va_P D vwCl (YX cy q2 f2 q3 f3 q4 f4 ++ WL cy T M R) H → va_D A (YX cy q2 f2 q3 f3 q4 f4 ++ WL cy T M R) → va_S A s.heap H locs → ∀ ls : Array Slot, lv_has ls 19 [(0, .ref a0), (2, .ref q2), (3, .ref q3), (4, .ref q4), (6, .int x6), (16, .int x16)] → W p l e rm_L_year s m args below meth c H locs 3 30 (MQ below (QcI D cy T M9 R9 A r) args s 3 30 A) (F0 m 466 ls []) := by
  intro f2 f3 f4 x6 x16 M R H locs h hP hD hS ls hl
  unfold fs_L_year_466 at h
  obtain ⟨hx, hb, hr, hml, hown, hts, hK, hA, hlk, hSt⟩ := id C
  refine lv_iload hx hb dL_year_466 (lv_at hl 4 rfl) ?_
  refine lv_if_gt (tgt := 484) hx hb dL_year_468 (by decide) (fun c_1 => ?_) (fun c_1 => ?_)
  · replace h := ite_t h c_1
    refine lv_iconst (v := 1) hx hb dL_year_484 (by decide) ?_
    refine lv_goto (tgt := 489) hx hb dL_year_485 (by decide) ?_
    cases h
    exact rt_y C hP hD hS rfl dL_year_489
  · replace h := ite_f h c_1
    refine lv_iload hx hb dL_year_471 (lv_at hl 5 rfl) ?_
    refine lv_if_gt (tgt := 484) hx hb dL_year_473 (by decide) (fun c_2 => ?_) (fun c_2 => ?_)
    · replace h := ite_t h c_2
      refine lv_iconst (v := 1) hx hb dL_year_484 (by decide) ?_
      refine lv_goto (tgt := 489) hx hb dL_year_485 (by decide) ?_
      cases h
      exact rt_y C hP hD hS rfl dL_year_489
    · replace h := ite_f h c_2
      refine lv_aload_n hx hb dL_year_476 rfl (lv_at hl 0 rfl) ?_
      refine lv_iconst (v := 1) hx hb dL_year_477 (by decide) ?_
      obtain ⟨k_3, h⟩ := chk_some h
      obtain ⟨r_4, M_5, hc_6, h⟩ := cal_some h
      refine yc_Vi (As := [.int (1 : Int32)]) (rest := []) C (ct_X6_front hc_6) k_3 (by decide) rfl wl_277 wl_278 wl_279 wl_2 wl_280 hd_X6_front ⟨Nat.le_of_ble_eq_true rfl, Nat.le_of_ble_eq_true rfl⟩ ⟨rfl, rfl⟩ ⟨Nat.le_refl _, Nat.le_refl _⟩ rfl (Nat.le_of_ble_eq_true rfl) rfl hl.1 hP hD hS dL_year_478 (fun H locs hP hD hS => ?_)
      refine lv_if_ne (tgt := 488) hx hb dL_year_481 (by decide) (fun c_7 => ?_) (fun c_7 => ?_)
      · replace h := ite_f h c_7
        refine lv_iconst (v := 0) hx hb dL_year_488 (by decide) ?_
        cases h
        exact rt_y C hP hD hS rfl dL_year_489
      · replace h := ite_t h c_7
        refine lv_iconst (v := 1) hx hb dL_year_484 (by decide) ?_
        refine lv_goto (tgt := 489) hx hb dL_year_485 (by decide) ?_
        cases h
        exact rt_y C hP hD hS rfl dL_year_489
set_option maxHeartbeats 4000000 in
set_option maxRecDepth 100000 in
theorem bs_L_year_451 {p : Program} {l : Launch} {e : Env} {s : State} {m : MethodId} {args : Array Value} {below : List Frame} {meth : Method} {c : Code} {D : va_G} {cy : Cy} {A : Nat → Prop} {T : Ty} {R9 : Rm} {r : Int32} {M9 : Mm} {q2 q3 q4 : Nat} {a0 : Nat} (C : Cx RL cL_year 19 (some .boolean) p s m args meth c D cy A) :
    ∀ (f2 : (Nat → Int32)) (f3 : (Nat → Int32)) (f4 : (Nat → Int32)) (x6 : Int32) (x15 : Int32) (x16 : Int32) (M : Mm) (R : Rm) (H : Heap) (locs : List Loc), fs_L_year_451 T a0 f2 f3 f4 x6 x15 x16 M R = some (r, M9, R9) → va_P D vwCl (YX cy q2 f2 q3 f3 q4 f4 ++ WL cy T M R) H → va_D A (YX cy q2 f2 q3 f3 q4 f4 ++ WL cy T M R) → va_S A s.heap H locs → ∀ ls : Array Slot, lv_has ls 19 [(0, .ref a0), (2, .ref q2), (3, .ref q3), (4, .ref q4), (6, .int x6), (15, .int x15), (16, .int x16)] → W p l e rm_L_year s m args below meth c H locs 3 30 (MQ below (QcI D cy T M9 R9 A r) args s 3 30 A) (F0 m 451 ls []) := by
  intro f2 f3 f4 x6 x15 x16 M R H locs h hP hD hS ls hl
  unfold fs_L_year_451 at h
  obtain ⟨hx, hb, hr, hml, hown, hts, hK, hA, hlk, hSt⟩ := id C
  refine lv_iload hx hb dL_year_451 (lv_at hl 4 rfl) ?_
  refine lv_if_gt (tgt := 466) hx hb dL_year_453 (by decide) (fun c_8 => ?_) (fun c_8 => ?_)
  · replace h := ite_t h c_8
    exact (bs_L_year_466 C) _ _ _ _ _ _ _ _ _ h hP hD hS _ (lv_sub hl [0, 1, 2, 3, 4, 6] rfl)
  · replace h := ite_f h c_8
    refine lv_aload_n hx hb dL_year_456 rfl (lv_at hl 0 rfl) ?_
    refine lv_iconst (v := 0) hx hb dL_year_457 (by decide) ?_
    obtain ⟨k_9, h⟩ := chk_some h
    obtain ⟨r_10, M_11, hc_12, h⟩ := cal_some h
    refine yc_Vi (As := [.int (0 : Int32)]) (rest := []) C (ct_X6_front hc_12) k_9 (by decide) rfl wl_277 wl_278 wl_279 wl_2 wl_280 hd_X6_front ⟨Nat.le_of_ble_eq_true rfl, Nat.le_of_ble_eq_true rfl⟩ ⟨rfl, rfl⟩ ⟨Nat.le_refl _, Nat.le_refl _⟩ rfl (Nat.le_of_ble_eq_true rfl) rfl hl.1 hP hD hS dL_year_458 (fun H locs hP hD hS => ?_)
    refine lv_iload hx hb dL_year_461 (lv_at hl 5 rfl) ?_
    refine lv_icmp_ge (tgt := 488) hx hb dL_year_463 (by decide) (fun c_13 => ?_) (fun c_13 => ?_)
    · replace h := ite_t h c_13
      refine lv_iconst (v := 0) hx hb dL_year_488 (by decide) ?_
      cases h
      exact rt_y C hP hD hS rfl dL_year_489
    · replace h := ite_f h c_13
      exact (bs_L_year_466 C) _ _ _ _ _ _ _ _ _ h hP hD hS _ (lv_sub hl [0, 1, 2, 3, 4, 6] rfl)
set_option maxHeartbeats 4000000 in
set_option maxRecDepth 100000 in
theorem bs_L_year_373 {p : Program} {l : Launch} {e : Env} {s : State} {m : MethodId} {args : Array Value} {below : List Frame} {meth : Method} {c : Code} {D : va_G} {cy : Cy} {A : Nat → Prop} {T : Ty} {R9 : Rm} {r : Int32} {M9 : Mm} {q2 q3 q4 : Nat} {a0 : Nat} (C : Cx RL cL_year 19 (some .boolean) p s m args meth c D cy A) :
    ∀ (f2 : (Nat → Int32)) (f3 : (Nat → Int32)) (f4 : (Nat → Int32)) (x5 : Int32) (x6 : Int32) (l8 : Int64) (l10 : Int64) (x12 : Int32) (x13 : Int32) (x15 : Int32) (s0 : Int32) (M : Mm) (R : Rm) (H : Heap) (locs : List Loc), fs_L_year_373 T a0 f2 f3 f4 x5 x6 l8 l10 x12 x13 x15 s0 M R = some (r, M9, R9) → va_P D vwCl (YX cy q2 f2 q3 f3 q4 f4 ++ WL cy T M R) H → va_D A (YX cy q2 f2 q3 f3 q4 f4 ++ WL cy T M R) → va_S A s.heap H locs → ∀ ls : Array Slot, lv_has ls 19 [(0, .ref a0), (2, .ref q2), (3, .ref q3), (4, .ref q4), (5, .int x5), (6, .int x6), (8, .long l8), (10, .long l10), (12, .int x12), (13, .int x13), (15, .int x15)] → W p l e rm_L_year s m args below meth c H locs 3 30 (MQ below (QcI D cy T M9 R9 A r) args s 3 30 A) (F0 m 373 ls [.int s0]) := by
  intro f2 f3 f4 x5 x6 l8 l10 x12 x13 x15 s0 M R H locs h hP hD hS ls hl
  unfold fs_L_year_373 at h
  obtain ⟨hx, hb, hr, hml, hown, hts, hK, hA, hlk, hSt⟩ := id C
  refine lv_istore (lv' := [(16, .int s0), (0, .ref a0), (2, .ref q2), (3, .ref q3), (4, .ref q4), (5, .int x5), (6, .int x6), (8, .long l8), (10, .long l10), (12, .int x12), (13, .int x13), (15, .int x15)]) hx hb dL_year_373 hl (by decide) rfl (fun ls hl => ?_)
  refine lv_aload_n hx hb dL_year_375 rfl (lv_at hl 1 rfl) ?_
  refine lv_iconst (v := 1) hx hb dL_year_376 (by decide) ?_
  obtain ⟨k_14, h⟩ := chk_some h
  obtain ⟨r_15, M_16, hc_17, h⟩ := cal_some h
  refine yc_Vl (As := [.int (1 : Int32)]) (rest := []) C (ct_X6_account hc_17) k_14 (by decide) rfl wl_286 wl_287 wl_288 wl_2 wl_289 hd_X6_account ⟨Nat.le_of_ble_eq_true rfl, Nat.le_of_ble_eq_true rfl⟩ ⟨rfl, rfl⟩ ⟨Nat.le_refl _, Nat.le_refl _⟩ rfl (Nat.le_of_ble_eq_true rfl) rfl hl.1 hP hD hS dL_year_377 (fun H locs hP hD hS => ?_)
  refine lv_lload hx hb dL_year_380 (lv_at hl 7 rfl) ?_
  refine W.lcmp hx hb dL_year_382 ?_
  refine lv_if_ne (tgt := 488) hx hb dL_year_383 (by decide) (fun c_18 => ?_) (fun c_18 => ?_)
  · replace h := ite_f h c_18
    refine lv_iconst (v := 0) hx hb dL_year_488 (by decide) ?_
    cases h
    exact rt_y C hP hD hS rfl dL_year_489
  · replace h := ite_t h c_18
    refine lv_aload_n hx hb dL_year_386 rfl (lv_at hl 1 rfl) ?_
    refine lv_iconst (v := 2) hx hb dL_year_387 (by decide) ?_
    obtain ⟨r_19, M_20, hc_21, h⟩ := cal_some h
    refine yc_Vl (As := [.int (2 : Int32)]) (rest := []) C (ct_X6_account hc_21) k_14 (by decide) rfl wl_286 wl_287 wl_288 wl_2 wl_289 hd_X6_account ⟨Nat.le_of_ble_eq_true rfl, Nat.le_of_ble_eq_true rfl⟩ ⟨rfl, rfl⟩ ⟨Nat.le_refl _, Nat.le_refl _⟩ rfl (Nat.le_of_ble_eq_true rfl) rfl hl.1 hP hD hS dL_year_388 (fun H locs hP hD hS => ?_)
    refine lv_lload hx hb dL_year_391 (lv_at hl 8 rfl) ?_
    refine W.lcmp hx hb dL_year_393 ?_
    refine lv_if_ne (tgt := 488) hx hb dL_year_394 (by decide) (fun c_22 => ?_) (fun c_22 => ?_)
    · replace h := ite_f h c_22
      refine lv_iconst (v := 0) hx hb dL_year_488 (by decide) ?_
      cases h
      exact rt_y C hP hD hS rfl dL_year_489
    · replace h := ite_t h c_22
      refine lv_iload hx hb dL_year_397 (lv_at hl 10 rfl) ?_
      refine lv_iload hx hb dL_year_399 (lv_at hl 0 rfl) ?_
      refine lv_icmp_ne (tgt := 488) hx hb dL_year_401 (by decide) (fun c_23 => ?_) (fun c_23 => ?_)
      · replace h := ite_f h c_23
        refine lv_iconst (v := 0) hx hb dL_year_488 (by decide) ?_
        cases h
        exact rt_y C hP hD hS rfl dL_year_489
      · replace h := ite_t h c_23
        refine lv_aload_n hx hb dL_year_404 rfl (lv_at hl 1 rfl) ?_
        refine lv_iconst (v := 0) hx hb dL_year_405 (by decide) ?_
        obtain ⟨r_24, M_25, hc_26, h⟩ := cal_some h
        refine yc_Vi (As := [.int (0 : Int32)]) (rest := []) C (ct_X6_front hc_26) k_14 (by decide) rfl wl_277 wl_278 wl_279 wl_2 wl_280 hd_X6_front ⟨Nat.le_of_ble_eq_true rfl, Nat.le_of_ble_eq_true rfl⟩ ⟨rfl, rfl⟩ ⟨Nat.le_refl _, Nat.le_refl _⟩ rfl (Nat.le_of_ble_eq_true rfl) rfl hl.1 hP hD hS dL_year_406 (fun H locs hP hD hS => ?_)
        refine lv_iload hx hb dL_year_409 (lv_at hl 5 rfl) ?_
        refine lv_iload hx hb dL_year_411 (lv_at hl 0 rfl) ?_
        refine lv_iload hx hb dL_year_413 (lv_at hl 11 rfl) ?_
        refine lv_imul hx hb dL_year_415 ?_
        refine lv_isub hx hb dL_year_416 ?_
        refine lv_icmp_ne (tgt := 488) hx hb dL_year_417 (by decide) (fun c_27 => ?_) (fun c_27 => ?_)
        · replace h := ite_f h c_27
          refine lv_iconst (v := 0) hx hb dL_year_488 (by decide) ?_
          cases h
          exact rt_y C hP hD hS rfl dL_year_489
        · replace h := ite_t h c_27
          refine lv_iload hx hb dL_year_420 (lv_at hl 0 rfl) ?_
          refine lv_if_eq (tgt := 451) hx hb dL_year_422 (by decide) (fun c_28 => ?_) (fun c_28 => ?_)
          · replace h := ite_t h c_28
            exact (bs_L_year_451 C) _ _ _ _ _ _ _ _ _ _ h hP hD hS _ (lv_sub hl [1, 2, 3, 4, 6, 11, 0] rfl)
          · replace h := ite_f h c_28
            refine lv_aload_n hx hb dL_year_425 rfl (lv_at hl 1 rfl) ?_
            refine lv_iconst (v := 1) hx hb dL_year_426 (by decide) ?_
            obtain ⟨r_29, M_30, hc_31, h⟩ := cal_some h
            refine yc_Vi (As := [.int (1 : Int32)]) (rest := []) C (ct_X6_front hc_31) k_14 (by decide) rfl wl_277 wl_278 wl_279 wl_2 wl_280 hd_X6_front ⟨Nat.le_of_ble_eq_true rfl, Nat.le_of_ble_eq_true rfl⟩ ⟨rfl, rfl⟩ ⟨Nat.le_refl _, Nat.le_refl _⟩ rfl (Nat.le_of_ble_eq_true rfl) rfl hl.1 hP hD hS dL_year_427 (fun H locs hP hD hS => ?_)
            refine lv_aload_n hx hb dL_year_430 rfl (lv_at hl 1 rfl) ?_
            refine lv_bipush (v := 12) hx hb dL_year_431 (by decide) ?_
            obtain ⟨r_32, M_33, hc_34, h⟩ := cal_some h
            refine yc_Vi (As := [.int (12 : Int32)]) (rest := [.int r_29]) C (ct_X6_count hc_34) k_14 (by decide) rfl wl_103 wl_104 wl_105 wl_2 wl_106 hd_X6_count ⟨Nat.le_of_ble_eq_true rfl, Nat.le_of_ble_eq_true rfl⟩ ⟨rfl, rfl⟩ ⟨Nat.le_refl _, Nat.le_refl _⟩ rfl (Nat.le_of_ble_eq_true rfl) rfl hl.1 hP hD hS dL_year_433 (fun H locs hP hD hS => ?_)
            refine lv_icmp_ne (tgt := 488) hx hb dL_year_436 (by decide) (fun c_35 => ?_) (fun c_35 => ?_)
            · replace h := ite_f h c_35
              refine lv_iconst (v := 0) hx hb dL_year_488 (by decide) ?_
              cases h
              exact rt_y C hP hD hS rfl dL_year_489
            · replace h := ite_t h c_35
              refine lv_aload_n hx hb dL_year_439 rfl (lv_at hl 1 rfl) ?_
              refine lv_iconst (v := 3) hx hb dL_year_440 (by decide) ?_
              obtain ⟨r_36, M_37, hc_38, h⟩ := cal_some h
              refine yc_Vi (As := [.int (3 : Int32)]) (rest := []) C (ct_X6_front hc_38) k_14 (by decide) rfl wl_277 wl_278 wl_279 wl_2 wl_280 hd_X6_front ⟨Nat.le_of_ble_eq_true rfl, Nat.le_of_ble_eq_true rfl⟩ ⟨rfl, rfl⟩ ⟨Nat.le_refl _, Nat.le_refl _⟩ rfl (Nat.le_of_ble_eq_true rfl) rfl hl.1 hP hD hS dL_year_441 (fun H locs hP hD hS => ?_)
              refine lv_iload hx hb dL_year_444 (lv_at hl 9 rfl) ?_
              refine lv_iconst (v := 1) hx hb dL_year_446 (by decide) ?_
              refine lv_iadd hx hb dL_year_447 ?_
              refine lv_icmp_ne (tgt := 488) hx hb dL_year_448 (by decide) (fun c_39 => ?_) (fun c_39 => ?_)
              · replace h := ite_f h c_39
                refine lv_iconst (v := 0) hx hb dL_year_488 (by decide) ?_
                cases h
                exact rt_y C hP hD hS rfl dL_year_489
              · replace h := ite_t h c_39
                exact (bs_L_year_451 C) _ _ _ _ _ _ _ _ _ _ h hP hD hS _ (lv_sub hl [1, 2, 3, 4, 6, 11, 0] rfl)
set_option maxHeartbeats 4000000 in
set_option maxRecDepth 100000 in
theorem bs_L_year_258 {p : Program} {l : Launch} {e : Env} {s : State} {m : MethodId} {args : Array Value} {below : List Frame} {meth : Method} {c : Code} {D : va_G} {cy : Cy} {A : Nat → Prop} {T : Ty} {R9 : Rm} {r : Int32} {M9 : Mm} {q2 q3 q4 : Nat} {a0 : Nat} {j182 : Int32 → (Nat → Int32) → (Nat → Int32) → (Nat → Int32) → Int32 → Int32 → Int64 → Int64 → Int32 → Int32 → Int32 → Int32 → Mm → Rm → Option (Int32 × Mm × Rm)} (C : Cx RL cL_year 19 (some .boolean) p s m args meth c D cy A)
    (hj182 : ∀ (x1 : Int32) (f2 : (Nat → Int32)) (f3 : (Nat → Int32)) (f4 : (Nat → Int32)) (x5 : Int32) (x6 : Int32) (l8 : Int64) (l10 : Int64) (x12 : Int32) (x13 : Int32) (x14 : Int32) (x15 : Int32) (M : Mm) (R : Rm) (H : Heap) (locs : List Loc), j182 x1 f2 f3 f4 x5 x6 l8 l10 x12 x13 x14 x15 M R = some (r, M9, R9) → va_P D vwCl (YX cy q2 f2 q3 f3 q4 f4 ++ WL cy T M R) H → va_D A (YX cy q2 f2 q3 f3 q4 f4 ++ WL cy T M R) → va_S A s.heap H locs → ∀ ls : Array Slot, lv_has ls 19 [(0, .ref a0), (1, .int x1), (2, .ref q2), (3, .ref q3), (4, .ref q4), (5, .int x5), (6, .int x6), (8, .long l8), (10, .long l10), (12, .int x12), (13, .int x13), (14, .int x14), (15, .int x15)] → W p l e rm_L_year s m args below meth c H locs 3 30 (MQ below (QcI D cy T M9 R9 A r) args s 3 30 A) (F0 m 182 ls [])) :
    ∀ (x1 : Int32) (f2 : (Nat → Int32)) (f3 : (Nat → Int32)) (f4 : (Nat → Int32)) (x5 : Int32) (x6 : Int32) (l8 : Int64) (l10 : Int64) (x12 : Int32) (x13 : Int32) (x14 : Int32) (x15 : Int32) (x16 : Int32) (x17 : Int32) (x18 : Int32) (s0 : Int32) (s1 : Int32) (M : Mm) (R : Rm) (H : Heap) (locs : List Loc), fs_L_year_258 T a0 j182 x1 f2 f3 f4 x5 x6 l8 l10 x12 x13 x14 x15 x16 x17 x18 s0 s1 M R = some (r, M9, R9) → va_P D vwCl (YX cy q2 f2 q3 f3 q4 f4 ++ WL cy T M R) H → va_D A (YX cy q2 f2 q3 f3 q4 f4 ++ WL cy T M R) → va_S A s.heap H locs → ∀ ls : Array Slot, lv_has ls 19 [(0, .ref a0), (1, .int x1), (2, .ref q2), (3, .ref q3), (4, .ref q4), (5, .int x5), (6, .int x6), (8, .long l8), (10, .long l10), (12, .int x12), (13, .int x13), (14, .int x14), (15, .int x15), (16, .int x16), (17, .int x17), (18, .int x18)] → W p l e rm_L_year s m args below meth c H locs 3 30 (MQ below (QcI D cy T M9 R9 A r) args s 3 30 A) (F0 m 258 ls [.int s1, .int s0]) := by
  intro x1 f2 f3 f4 x5 x6 l8 l10 x12 x13 x14 x15 x16 x17 x18 s0 s1 M R H locs h hP hD hS ls hl
  unfold fs_L_year_258 at h
  obtain ⟨hx, hb, hr, hml, hown, hts, hK, hA, hlk, hSt⟩ := id C
  refine lv_icmp_ne (tgt := 314) hx hb dL_year_258 (by decide) (fun c_40 => ?_) (fun c_40 => ?_)
  · replace h := ite_f h c_40
    refine lv_iconst (v := 0) hx hb dL_year_314 (by decide) ?_
    cases h
    exact rt_y C hP hD hS rfl dL_year_315
  · replace h := ite_t h c_40
    refine lv_iload hx hb dL_year_261 (lv_at hl 15 rfl) ?_
    refine lv_iload hx hb dL_year_263 (lv_at hl 14 rfl) ?_
    refine lv_i2l hx hb dL_year_265 rfl ?_
    refine lv_aload_n hx hb dL_year_266 rfl (lv_at hl 0 rfl) ?_
    refine lv_iload hx hb dL_year_267 (lv_at hl 12 rfl) ?_
    refine lv_iconst (v := 2) hx hb dL_year_269 (by decide) ?_
    obtain ⟨k_41, h⟩ := chk_some h
    obtain ⟨r_42, M_43, hc_44, h⟩ := cal_some h
    refine yc_Vi (As := [.int x15, .int (2 : Int32)]) (rest := [.long (x17.toInt64), .int x18]) C (ct_X6_bandInfo hc_44) k_41 (by decide) rfl wl_235 wl_236 wl_237 wl_2 wl_238 hd_X6_bandInfo ⟨Nat.le_of_ble_eq_true rfl, Nat.le_of_ble_eq_true rfl⟩ ⟨rfl, rfl⟩ ⟨Nat.le_refl _, Nat.le_refl _⟩ rfl (Nat.le_of_ble_eq_true rfl) rfl hl.1 hP hD hS dL_year_270 (fun H locs hP hD hS => ?_)
    refine lv_i2l hx hb dL_year_273 rfl ?_
    refine lv_lmul hx hb dL_year_274 ?_
    refine lv_ldc2 (own := RL) (v := 1000) hx hb hown (hts _ wl_522) dL_year_275 ?_
    refine lv_ldiv hx hb dL_year_278 (by decide) ?_
    refine lv_l2i hx hb dL_year_279 rfl ?_
    refine lv_icmp_ne (tgt := 314) hx hb dL_year_280 (by decide) (fun c_45 => ?_) (fun c_45 => ?_)
    · replace h := ite_f h c_45
      refine lv_iconst (v := 0) hx hb dL_year_314 (by decide) ?_
      cases h
      exact rt_y C hP hD hS rfl dL_year_315
    · replace h := ite_t h c_45
      refine lv_aload_n hx hb dL_year_283 rfl (lv_at hl 0 rfl) ?_
      refine lv_iload hx hb dL_year_284 (lv_at hl 12 rfl) ?_
      refine lv_bipush (v := 11) hx hb dL_year_286 (by decide) ?_
      obtain ⟨r_46, M_47, hc_48, h⟩ := cal_some h
      refine yc_Vi (As := [.int x15, .int (11 : Int32)]) (rest := []) C (ct_X6_bandInfo hc_48) k_41 (by decide) rfl wl_235 wl_236 wl_237 wl_2 wl_238 hd_X6_bandInfo ⟨Nat.le_of_ble_eq_true rfl, Nat.le_of_ble_eq_true rfl⟩ ⟨rfl, rfl⟩ ⟨Nat.le_refl _, Nat.le_refl _⟩ rfl (Nat.le_of_ble_eq_true rfl) rfl hl.1 hP hD hS dL_year_288 (fun H locs hP hD hS => ?_)
      refine lv_iload hx hb dL_year_291 (lv_at hl 11 rfl) ?_
      refine lv_icmp_ne (tgt := 314) hx hb dL_year_293 (by decide) (fun c_49 => ?_) (fun c_49 => ?_)
      · replace h := ite_f h c_49
        refine lv_iconst (v := 0) hx hb dL_year_314 (by decide) ?_
        cases h
        exact rt_y C hP hD hS rfl dL_year_315
      · replace h := ite_t h c_49
        refine lv_aload_n hx hb dL_year_296 rfl (lv_at hl 0 rfl) ?_
        refine lv_iload hx hb dL_year_297 (lv_at hl 12 rfl) ?_
        refine lv_iconst (v := 3) hx hb dL_year_299 (by decide) ?_
        obtain ⟨r_50, M_51, hc_52, h⟩ := cal_some h
        refine yc_Vi (As := [.int x15, .int (3 : Int32)]) (rest := []) C (ct_X6_bandInfo hc_52) k_41 (by decide) rfl wl_235 wl_236 wl_237 wl_2 wl_238 hd_X6_bandInfo ⟨Nat.le_of_ble_eq_true rfl, Nat.le_of_ble_eq_true rfl⟩ ⟨rfl, rfl⟩ ⟨Nat.le_refl _, Nat.le_refl _⟩ rfl (Nat.le_of_ble_eq_true rfl) rfl hl.1 hP hD hS dL_year_300 (fun H locs hP hD hS => ?_)
        refine lv_iload hx hb dL_year_303 (lv_at hl 14 rfl) ?_
        refine lv_iload hx hb dL_year_305 (lv_at hl 15 rfl) ?_
        refine lv_isub hx hb dL_year_307 ?_
        refine lv_iload hx hb dL_year_308 (lv_at hl 11 rfl) ?_
        refine lv_iadd hx hb dL_year_310 ?_
        refine lv_icmp_eq (tgt := 316) hx hb dL_year_311 (by decide) (fun c_53 => ?_) (fun c_53 => ?_)
        · replace h := ite_t h c_53
          refine lv_lload hx hb dL_year_316 (lv_at hl 7 rfl) ?_
          refine lv_aload_n hx hb dL_year_318 rfl (lv_at hl 3 rfl) ?_
          refine lv_iload hx hb dL_year_319 (lv_at hl 12 rfl) ?_
          obtain ⟨k_54, h⟩ := chk_some h
          refine ya_3 C hP k_54 dL_year_321 ?_
          refine lv_i2l hx hb dL_year_322 rfl ?_
          refine lv_ladd hx hb dL_year_323 ?_
          refine lv_topl (fun v_55 ev_55 => ?_)
          replace h := bnd_at h ev_55
          refine lv_lstore (lv' := [(8, .long v_55), (0, .ref a0), (1, .int x1), (2, .ref q2), (3, .ref q3), (4, .ref q4), (5, .int x5), (6, .int x6), (10, .long l10), (12, .int x12), (13, .int x13), (14, .int x14), (15, .int x15), (16, .int x16), (17, .int x17), (18, .int x18)]) hx hb dL_year_324 hl (by decide) rfl (fun ls hl => ?_)
          refine lv_lload hx hb dL_year_326 (lv_at hl 8 rfl) ?_
          refine lv_iload hx hb dL_year_328 (lv_at hl 13 rfl) ?_
          refine lv_i2l hx hb dL_year_330 rfl ?_
          refine lv_ladd hx hb dL_year_331 ?_
          refine lv_topl (fun v_56 ev_56 => ?_)
          replace h := bnd_at h ev_56
          refine lv_lstore (lv' := [(10, .long v_56), (8, .long v_55), (0, .ref a0), (1, .int x1), (2, .ref q2), (3, .ref q3), (4, .ref q4), (5, .int x5), (6, .int x6), (12, .int x12), (13, .int x13), (14, .int x14), (15, .int x15), (16, .int x16), (17, .int x17), (18, .int x18)]) hx hb dL_year_332 hl (by decide) rfl (fun ls hl => ?_)
          refine lv_iload hx hb dL_year_334 (lv_at hl 15 rfl) ?_
          refine lv_istore (lv' := [(14, .int x18), (10, .long v_56), (8, .long v_55), (0, .ref a0), (1, .int x1), (2, .ref q2), (3, .ref q3), (4, .ref q4), (5, .int x5), (6, .int x6), (12, .int x12), (13, .int x13), (15, .int x15), (16, .int x16), (17, .int x17), (18, .int x18)]) hx hb dL_year_336 hl (by decide) rfl (fun ls hl => ?_)
          obtain ⟨v_57, ev_57⟩ : ∃ y : Int32, y = (x15 + (1 : Int32)) := ⟨_, rfl⟩
          replace h := bnd_at h ev_57
          refine lv_iinc (v := v_57) (lv' := [(15, .int v_57), (14, .int x18), (10, .long v_56), (8, .long v_55), (0, .ref a0), (1, .int x1), (2, .ref q2), (3, .ref q3), (4, .ref q4), (5, .int x5), (6, .int x6), (12, .int x12), (13, .int x13), (16, .int x16), (17, .int x17), (18, .int x18)]) hx hb dL_year_338 hl (k := 12) rfl (by rw [ev_57]; rfl) (by decide) rfl (fun ls hl => ?_)
          refine lv_goto (tgt := 182) hx hb dL_year_341 (by decide) ?_
          exact hj182 _ _ _ _ _ _ _ _ _ _ _ _ _ _ _ _ h hP hD hS _ (lv_sub hl [4, 5, 6, 7, 8, 9, 10, 3, 2, 11, 12, 1, 0] rfl)
        · replace h := ite_f h c_53
          refine lv_iconst (v := 0) hx hb dL_year_314 (by decide) ?_
          cases h
          exact rt_y C hP hD hS rfl dL_year_315
set_option maxHeartbeats 4000000 in
set_option maxRecDepth 100000 in
theorem bs_L_year_182 {p : Program} {l : Launch} {e : Env} {s : State} {m : MethodId} {args : Array Value} {below : List Frame} {meth : Method} {c : Code} {D : va_G} {cy : Cy} {A : Nat → Prop} {T : Ty} {R9 : Rm} {r : Int32} {M9 : Mm} {q2 q3 q4 : Nat} {a0 : Nat} {j182 : Int32 → (Nat → Int32) → (Nat → Int32) → (Nat → Int32) → Int32 → Int32 → Int64 → Int64 → Int32 → Int32 → Int32 → Int32 → Mm → Rm → Option (Int32 × Mm × Rm)} {j373 : (Nat → Int32) → (Nat → Int32) → (Nat → Int32) → Int32 → Int32 → Int64 → Int64 → Int32 → Int32 → Int32 → Int32 → Mm → Rm → Option (Int32 × Mm × Rm)} (C : Cx RL cL_year 19 (some .boolean) p s m args meth c D cy A)
    (hj182 : ∀ (x1 : Int32) (f2 : (Nat → Int32)) (f3 : (Nat → Int32)) (f4 : (Nat → Int32)) (x5 : Int32) (x6 : Int32) (l8 : Int64) (l10 : Int64) (x12 : Int32) (x13 : Int32) (x14 : Int32) (x15 : Int32) (M : Mm) (R : Rm) (H : Heap) (locs : List Loc), j182 x1 f2 f3 f4 x5 x6 l8 l10 x12 x13 x14 x15 M R = some (r, M9, R9) → va_P D vwCl (YX cy q2 f2 q3 f3 q4 f4 ++ WL cy T M R) H → va_D A (YX cy q2 f2 q3 f3 q4 f4 ++ WL cy T M R) → va_S A s.heap H locs → ∀ ls : Array Slot, lv_has ls 19 [(0, .ref a0), (1, .int x1), (2, .ref q2), (3, .ref q3), (4, .ref q4), (5, .int x5), (6, .int x6), (8, .long l8), (10, .long l10), (12, .int x12), (13, .int x13), (14, .int x14), (15, .int x15)] → W p l e rm_L_year s m args below meth c H locs 3 30 (MQ below (QcI D cy T M9 R9 A r) args s 3 30 A) (F0 m 182 ls []))
    (hj373 : ∀ (f2 : (Nat → Int32)) (f3 : (Nat → Int32)) (f4 : (Nat → Int32)) (x5 : Int32) (x6 : Int32) (l8 : Int64) (l10 : Int64) (x12 : Int32) (x13 : Int32) (x15 : Int32) (s0 : Int32) (M : Mm) (R : Rm) (H : Heap) (locs : List Loc), j373 f2 f3 f4 x5 x6 l8 l10 x12 x13 x15 s0 M R = some (r, M9, R9) → va_P D vwCl (YX cy q2 f2 q3 f3 q4 f4 ++ WL cy T M R) H → va_D A (YX cy q2 f2 q3 f3 q4 f4 ++ WL cy T M R) → va_S A s.heap H locs → ∀ ls : Array Slot, lv_has ls 19 [(0, .ref a0), (2, .ref q2), (3, .ref q3), (4, .ref q4), (5, .int x5), (6, .int x6), (8, .long l8), (10, .long l10), (12, .int x12), (13, .int x13), (15, .int x15)] → W p l e rm_L_year s m args below meth c H locs 3 30 (MQ below (QcI D cy T M9 R9 A r) args s 3 30 A) (F0 m 373 ls [.int s0])) :
    ∀ (x1 : Int32) (f2 : (Nat → Int32)) (f3 : (Nat → Int32)) (f4 : (Nat → Int32)) (x5 : Int32) (x6 : Int32) (l8 : Int64) (l10 : Int64) (x12 : Int32) (x13 : Int32) (x14 : Int32) (x15 : Int32) (M : Mm) (R : Rm) (H : Heap) (locs : List Loc), fs_L_year_182 T a0 j182 j373 x1 f2 f3 f4 x5 x6 l8 l10 x12 x13 x14 x15 M R = some (r, M9, R9) → va_P D vwCl (YX cy q2 f2 q3 f3 q4 f4 ++ WL cy T M R) H → va_D A (YX cy q2 f2 q3 f3 q4 f4 ++ WL cy T M R) → va_S A s.heap H locs → ∀ ls : Array Slot, lv_has ls 19 [(0, .ref a0), (1, .int x1), (2, .ref q2), (3, .ref q3), (4, .ref q4), (5, .int x5), (6, .int x6), (8, .long l8), (10, .long l10), (12, .int x12), (13, .int x13), (14, .int x14), (15, .int x15)] → W p l e rm_L_year s m args below meth c H locs 3 30 (MQ below (QcI D cy T M9 R9 A r) args s 3 30 A) (F0 m 182 ls []) := by
  intro x1 f2 f3 f4 x5 x6 l8 l10 x12 x13 x14 x15 M R H locs h hP hD hS ls hl
  unfold fs_L_year_182 at h
  obtain ⟨hx, hb, hr, hml, hown, hts, hK, hA, hlk, hSt⟩ := id C
  refine lv_iload hx hb dL_year_182 (lv_at hl 12 rfl) ?_
  refine lv_iload_n hx hb dL_year_184 rfl (lv_at hl 1 rfl) ?_
  refine lv_icmp_ge (tgt := 344) hx hb dL_year_185 (by decide) (fun c_58 => ?_) (fun c_58 => ?_)
  · replace h := ite_t h c_58
    refine lv_aload_n hx hb dL_year_344 rfl (lv_at hl 0 rfl) ?_
    refine lv_bipush (v := 11) hx hb dL_year_345 (by decide) ?_
    obtain ⟨k_59, h⟩ := chk_some h
    obtain ⟨r_60, M_61, hc_62, h⟩ := cal_some h
    refine yc_Vi (As := [.int (11 : Int32)]) (rest := []) C (ct_X6_count hc_62) k_59 (by decide) rfl wl_103 wl_104 wl_105 wl_2 wl_106 hd_X6_count ⟨Nat.le_of_ble_eq_true rfl, Nat.le_of_ble_eq_true rfl⟩ ⟨rfl, rfl⟩ ⟨Nat.le_refl _, Nat.le_refl _⟩ rfl (Nat.le_of_ble_eq_true rfl) rfl hl.1 hP hD hS dL_year_347 (fun H locs hP hD hS => ?_)
    refine lv_istore (lv' := [(15, .int r_60), (0, .ref a0), (1, .int x1), (2, .ref q2), (3, .ref q3), (4, .ref q4), (5, .int x5), (6, .int x6), (8, .long l8), (10, .long l10), (12, .int x12), (13, .int x13), (14, .int x14)]) hx hb dL_year_350 hl (by decide) rfl (fun ls hl => ?_)
    refine lv_iload hx hb dL_year_352 (lv_at hl 6 rfl) ?_
    refine lv_iload hx hb dL_year_354 (lv_at hl 12 rfl) ?_
    refine lv_iadd hx hb dL_year_356 ?_
    refine lv_topi (fun v_63 ev_63 => ?_)
    replace h := bnd_at h ev_63
    refine lv_istore (lv' := [(5, .int v_63), (15, .int r_60), (0, .ref a0), (1, .int x1), (2, .ref q2), (3, .ref q3), (4, .ref q4), (6, .int x6), (8, .long l8), (10, .long l10), (12, .int x12), (13, .int x13), (14, .int x14)]) hx hb dL_year_357 hl (by decide) rfl (fun ls hl => ?_)
    refine lv_iload hx hb dL_year_359 (lv_at hl 7 rfl) ?_
    refine lv_if_le (tgt := 368) hx hb dL_year_361 (by decide) (fun c_64 => ?_) (fun c_64 => ?_)
    · replace h := ite_t h c_64
      refine lv_iload hx hb dL_year_368 (lv_at hl 0 rfl) ?_
      refine lv_iload hx hb dL_year_370 (lv_at hl 1 rfl) ?_
      obtain ⟨k_65, h⟩ := chk_some h
      refine lv_idiv hx hb dL_year_372 (of_decide_eq_true k_65) ?_
      exact hj373 _ _ _ _ _ _ _ _ _ _ _ _ _ _ _ h hP hD hS _ (lv_sub hl [2, 4, 5, 6, 0, 7, 8, 9, 10, 11, 1] rfl)
    · replace h := ite_f h c_64
      refine lv_iconst (v := 0) hx hb dL_year_364 (by decide) ?_
      refine lv_goto (tgt := 373) hx hb dL_year_365 (by decide) ?_
      exact hj373 _ _ _ _ _ _ _ _ _ _ _ _ _ _ _ h hP hD hS _ (lv_sub hl [2, 4, 5, 6, 0, 7, 8, 9, 10, 11, 1] rfl)
  · replace h := ite_f h c_58
    refine lv_aload_n hx hb dL_year_188 rfl (lv_at hl 0 rfl) ?_
    refine lv_iload hx hb dL_year_189 (lv_at hl 12 rfl) ?_
    refine lv_bipush (v := 9) hx hb dL_year_191 (by decide) ?_
    obtain ⟨k_66, h⟩ := chk_some h
    obtain ⟨r_67, M_68, hc_69, h⟩ := cal_some h
    refine yc_Vi (As := [.int x15, .int (9 : Int32)]) (rest := []) C (ct_X6_bandInfo hc_69) k_66 (by decide) rfl wl_235 wl_236 wl_237 wl_2 wl_238 hd_X6_bandInfo ⟨Nat.le_of_ble_eq_true rfl, Nat.le_of_ble_eq_true rfl⟩ ⟨rfl, rfl⟩ ⟨Nat.le_refl _, Nat.le_refl _⟩ rfl (Nat.le_of_ble_eq_true rfl) rfl hl.1 hP hD hS dL_year_193 (fun H locs hP hD hS => ?_)
    refine lv_istore (lv' := [(16, .int r_67), (0, .ref a0), (1, .int x1), (2, .ref q2), (3, .ref q3), (4, .ref q4), (5, .int x5), (6, .int x6), (8, .long l8), (10, .long l10), (12, .int x12), (13, .int x13), (14, .int x14), (15, .int x15)]) hx hb dL_year_196 hl (by decide) rfl (fun ls hl => ?_)
    refine lv_aload_n hx hb dL_year_198 rfl (lv_at hl 3 rfl) ?_
    refine lv_iload hx hb dL_year_199 (lv_at hl 13 rfl) ?_
    obtain ⟨k_70, h⟩ := chk_some h
    refine ya_2 C hP k_70 dL_year_201 ?_
    refine lv_aload_n hx hb dL_year_202 rfl (lv_at hl 4 rfl) ?_
    refine lv_iload hx hb dL_year_203 (lv_at hl 13 rfl) ?_
    refine ya_3 C hP k_70 dL_year_205 ?_
    refine lv_iadd hx hb dL_year_206 ?_
    refine lv_iload hx hb dL_year_207 (lv_at hl 0 rfl) ?_
    refine lv_isub hx hb dL_year_209 ?_
    refine lv_topi (fun v_71 ev_71 => ?_)
    replace h := bnd_at h ev_71
    refine lv_istore (lv' := [(17, .int v_71), (16, .int r_67), (0, .ref a0), (1, .int x1), (2, .ref q2), (3, .ref q3), (4, .ref q4), (5, .int x5), (6, .int x6), (8, .long l8), (10, .long l10), (12, .int x12), (13, .int x13), (14, .int x14), (15, .int x15)]) hx hb dL_year_210 hl (by decide) rfl (fun ls hl => ?_)
    refine lv_aload_n hx hb dL_year_212 rfl (lv_at hl 2 rfl) ?_
    refine lv_iload hx hb dL_year_213 (lv_at hl 14 rfl) ?_
    refine lv_bipush (v := 10) hx hb dL_year_215 (by decide) ?_
    obtain ⟨r_72, M_73, hc_74, h⟩ := cal_some h
    refine yc_Vi (As := [.int x15, .int (10 : Int32)]) (rest := []) C (ct_X6_bandInfo hc_74) k_66 (by decide) rfl wl_235 wl_236 wl_237 wl_2 wl_238 hd_X6_bandInfo ⟨Nat.le_of_ble_eq_true rfl, Nat.le_of_ble_eq_true rfl⟩ ⟨rfl, rfl⟩ ⟨Nat.le_refl _, Nat.le_refl _⟩ rfl (Nat.le_of_ble_eq_true rfl) rfl hl.1 hP hD hS dL_year_217 (fun H locs hP hD hS => ?_)
    refine lv_istore (lv' := [(18, .int r_72), (17, .int v_71), (16, .int r_67), (0, .ref a0), (1, .int x1), (2, .ref q2), (3, .ref q3), (4, .ref q4), (5, .int x5), (6, .int x6), (8, .long l8), (10, .long l10), (12, .int x12), (13, .int x13), (14, .int x14), (15, .int x15)]) hx hb dL_year_220 hl (by decide) rfl (fun ls hl => ?_)
    refine lv_iload hx hb dL_year_222 (lv_at hl 2 rfl) ?_
    refine lv_aload hx hb dL_year_224 (lv_at hl 7 rfl) ?_
    refine lv_iload hx hb dL_year_226 (lv_at hl 15 rfl) ?_
    refine ya_4 C hP k_70 dL_year_228 ?_
    refine lv_aload_n hx hb dL_year_229 rfl (lv_at hl 5 rfl) ?_
    refine lv_iload hx hb dL_year_230 (lv_at hl 15 rfl) ?_
    refine ya_2 C hP k_70 dL_year_232 ?_
    refine lv_aload_n hx hb dL_year_233 rfl (lv_at hl 6 rfl) ?_
    refine lv_iload hx hb dL_year_234 (lv_at hl 15 rfl) ?_
    refine ya_3 C hP k_70 dL_year_236 ?_
    refine lv_iadd hx hb dL_year_237 ?_
    refine lv_icmp_ge (tgt := 249) hx hb dL_year_238 (by decide) (fun c_75 => ?_) (fun c_75 => ?_)
    · replace h := ite_t h c_75
      refine lv_aload_n hx hb dL_year_249 rfl (lv_at hl 5 rfl) ?_
      refine lv_iload hx hb dL_year_250 (lv_at hl 15 rfl) ?_
      refine ya_2 C hP k_70 dL_year_252 ?_
      refine lv_aload_n hx hb dL_year_253 rfl (lv_at hl 6 rfl) ?_
      refine lv_iload hx hb dL_year_254 (lv_at hl 15 rfl) ?_
      refine ya_3 C hP k_70 dL_year_256 ?_
      refine lv_iadd hx hb dL_year_257 ?_
      exact (bs_L_year_258 C hj182) _ _ _ _ _ _ _ _ _ _ _ _ _ _ _ _ _ _ _ _ _ h hP hD hS _ (lv_sub hl [3, 4, 5, 6, 7, 8, 9, 10, 11, 12, 13, 14, 15, 2, 1, 0] rfl)
    · replace h := ite_f h c_75
      refine lv_aload hx hb dL_year_241 (lv_at hl 7 rfl) ?_
      refine lv_iload hx hb dL_year_243 (lv_at hl 15 rfl) ?_
      refine ya_4 C hP k_70 dL_year_245 ?_
      refine lv_goto (tgt := 258) hx hb dL_year_246 (by decide) ?_
      exact (bs_L_year_258 C hj182) _ _ _ _ _ _ _ _ _ _ _ _ _ _ _ _ _ _ _ _ _ h hP hD hS _ (lv_sub hl [3, 4, 5, 6, 7, 8, 9, 10, 11, 12, 13, 14, 15, 2, 1, 0] rfl)
theorem bt_L_year_182 {p : Program} {l : Launch} {e : Env} {s : State} {m : MethodId} {args : Array Value} {below : List Frame} {meth : Method} {c : Code} {D : va_G} {cy : Cy} {A : Nat → Prop} {T : Ty} {R9 : Rm} {r : Int32} {M9 : Mm} {q2 q3 q4 : Nat} {a0 : Nat} {j373 : (Nat → Int32) → (Nat → Int32) → (Nat → Int32) → Int32 → Int32 → Int64 → Int64 → Int32 → Int32 → Int32 → Int32 → Mm → Rm → Option (Int32 × Mm × Rm)} (C : Cx RL cL_year 19 (some .boolean) p s m args meth c D cy A)
    (hj373 : ∀ (f2 : (Nat → Int32)) (f3 : (Nat → Int32)) (f4 : (Nat → Int32)) (x5 : Int32) (x6 : Int32) (l8 : Int64) (l10 : Int64) (x12 : Int32) (x13 : Int32) (x15 : Int32) (s0 : Int32) (M : Mm) (R : Rm) (H : Heap) (locs : List Loc), j373 f2 f3 f4 x5 x6 l8 l10 x12 x13 x15 s0 M R = some (r, M9, R9) → va_P D vwCl (YX cy q2 f2 q3 f3 q4 f4 ++ WL cy T M R) H → va_D A (YX cy q2 f2 q3 f3 q4 f4 ++ WL cy T M R) → va_S A s.heap H locs → ∀ ls : Array Slot, lv_has ls 19 [(0, .ref a0), (2, .ref q2), (3, .ref q3), (4, .ref q4), (5, .int x5), (6, .int x6), (8, .long l8), (10, .long l10), (12, .int x12), (13, .int x13), (15, .int x15)] → W p l e rm_L_year s m args below meth c H locs 3 30 (MQ below (QcI D cy T M9 R9 A r) args s 3 30 A) (F0 m 373 ls [.int s0])) :
    ∀ n : Nat, ∀ (x1 : Int32) (f2 : (Nat → Int32)) (f3 : (Nat → Int32)) (f4 : (Nat → Int32)) (x5 : Int32) (x6 : Int32) (l8 : Int64) (l10 : Int64) (x12 : Int32) (x13 : Int32) (x14 : Int32) (x15 : Int32) (M : Mm) (R : Rm) (H : Heap) (locs : List Loc), fb_L_year_182 T a0 j373 n x1 f2 f3 f4 x5 x6 l8 l10 x12 x13 x14 x15 M R = some (r, M9, R9) → va_P D vwCl (YX cy q2 f2 q3 f3 q4 f4 ++ WL cy T M R) H → va_D A (YX cy q2 f2 q3 f3 q4 f4 ++ WL cy T M R) → va_S A s.heap H locs → ∀ ls : Array Slot, lv_has ls 19 [(0, .ref a0), (1, .int x1), (2, .ref q2), (3, .ref q3), (4, .ref q4), (5, .int x5), (6, .int x6), (8, .long l8), (10, .long l10), (12, .int x12), (13, .int x13), (14, .int x14), (15, .int x15)] → W p l e rm_L_year s m args below meth c H locs 3 30 (MQ below (QcI D cy T M9 R9 A r) args s 3 30 A) (F0 m 182 ls []) := by
  intro n
  induction n with
  | zero =>
    intro _ _ _ _ _ _ _ _ _ _ _ _ _ _ H locs h
    exact absurd (show (none : Option (Int32 × Mm × Rm)) = some _ from h) (by simp)
  | succ n ih => exact fun u0 u1 u2 u3 u4 u5 u6 u7 u8 u9 u10 u11 u12 u13 H locs h => bs_L_year_182 (a0 := a0) C ih hj373 u0 u1 u2 u3 u4 u5 u6 u7 u8 u9 u10 u11 u12 u13 H locs h
set_option maxHeartbeats 4000000 in
set_option maxRecDepth 100000 in
theorem bs_L_year_176 {p : Program} {l : Launch} {e : Env} {s : State} {m : MethodId} {args : Array Value} {below : List Frame} {meth : Method} {c : Code} {D : va_G} {cy : Cy} {A : Nat → Prop} {T : Ty} {R9 : Rm} {r : Int32} {M9 : Mm} {q2 q3 q4 : Nat} {a0 : Nat} (C : Cx RL cL_year 19 (some .boolean) p s m args meth c D cy A) :
    ∀ (x1 : Int32) (f2 : (Nat → Int32)) (f3 : (Nat → Int32)) (f4 : (Nat → Int32)) (x5 : Int32) (x6 : Int32) (l8 : Int64) (l10 : Int64) (x12 : Int32) (x13 : Int32) (M : Mm) (R : Rm) (H : Heap) (locs : List Loc), fs_L_year_176 T a0 x1 f2 f3 f4 x5 x6 l8 l10 x12 x13 M R = some (r, M9, R9) → va_P D vwCl (YX cy q2 f2 q3 f3 q4 f4 ++ WL cy T M R) H → va_D A (YX cy q2 f2 q3 f3 q4 f4 ++ WL cy T M R) → va_S A s.heap H locs → ∀ ls : Array Slot, lv_has ls 19 [(0, .ref a0), (1, .int x1), (2, .ref q2), (3, .ref q3), (4, .ref q4), (5, .int x5), (6, .int x6), (8, .long l8), (10, .long l10), (12, .int x12), (13, .int x13)] → W p l e rm_L_year s m args below meth c H locs 3 30 (MQ below (QcI D cy T M9 R9 A r) args s 3 30 A) (F0 m 176 ls []) := by
  intro x1 f2 f3 f4 x5 x6 l8 l10 x12 x13 M R H locs h hP hD hS ls hl
  unfold fs_L_year_176 at h
  obtain ⟨hx, hb, hr, hml, hown, hts, hK, hA, hlk, hSt⟩ := id C
  refine lv_iconst (v := 0) hx hb dL_year_176 (by decide) ?_
  refine lv_istore (lv' := [(14, .int (0 : Int32)), (0, .ref a0), (1, .int x1), (2, .ref q2), (3, .ref q3), (4, .ref q4), (5, .int x5), (6, .int x6), (8, .long l8), (10, .long l10), (12, .int x12), (13, .int x13)]) hx hb dL_year_177 hl (by decide) rfl (fun ls hl => ?_)
  refine lv_iconst (v := 0) hx hb dL_year_179 (by decide) ?_
  refine lv_istore (lv' := [(15, .int (0 : Int32)), (14, .int (0 : Int32)), (0, .ref a0), (1, .int x1), (2, .ref q2), (3, .ref q3), (4, .ref q4), (5, .int x5), (6, .int x6), (8, .long l8), (10, .long l10), (12, .int x12), (13, .int x13)]) hx hb dL_year_180 hl (by decide) rfl (fun ls hl => ?_)
  exact (bt_L_year_182 C (bs_L_year_373 C) FU) _ _ _ _ _ _ _ _ _ _ _ _ _ _ _ _ h hP hD hS _ (lv_sub hl [2, 3, 4, 5, 6, 7, 8, 9, 10, 11, 12, 1, 0] rfl)
set_option maxHeartbeats 4000000 in
set_option maxRecDepth 100000 in
theorem bs_L_year_25 {p : Program} {l : Launch} {e : Env} {s : State} {m : MethodId} {args : Array Value} {below : List Frame} {meth : Method} {c : Code} {D : va_G} {cy : Cy} {A : Nat → Prop} {T : Ty} {R9 : Rm} {r : Int32} {M9 : Mm} {q2 q3 q4 : Nat} {a0 : Nat} {j25 : Int32 → (Nat → Int32) → (Nat → Int32) → (Nat → Int32) → Int32 → Mm → Rm → Option (Int32 × Mm × Rm)} {j176 : Int32 → (Nat → Int32) → (Nat → Int32) → (Nat → Int32) → Int32 → Int32 → Int64 → Int64 → Int32 → Int32 → Mm → Rm → Option (Int32 × Mm × Rm)} (C : Cx RL cL_year 19 (some .boolean) p s m args meth c D cy A)
    (hj25 : ∀ (x1 : Int32) (f2 : (Nat → Int32)) (f3 : (Nat → Int32)) (f4 : (Nat → Int32)) (x5 : Int32) (M : Mm) (R : Rm) (H : Heap) (locs : List Loc), j25 x1 f2 f3 f4 x5 M R = some (r, M9, R9) → va_P D vwCl (YX cy q2 f2 q3 f3 q4 f4 ++ WL cy T M R) H → va_D A (YX cy q2 f2 q3 f3 q4 f4 ++ WL cy T M R) → va_S A s.heap H locs → ∀ ls : Array Slot, lv_has ls 19 [(0, .ref a0), (1, .int x1), (2, .ref q2), (3, .ref q3), (4, .ref q4), (5, .int x5)] → W p l e rm_L_year s m args below meth c H locs 3 30 (MQ below (QcI D cy T M9 R9 A r) args s 3 30 A) (F0 m 25 ls []))
    (hj176 : ∀ (x1 : Int32) (f2 : (Nat → Int32)) (f3 : (Nat → Int32)) (f4 : (Nat → Int32)) (x5 : Int32) (x6 : Int32) (l8 : Int64) (l10 : Int64) (x12 : Int32) (x13 : Int32) (M : Mm) (R : Rm) (H : Heap) (locs : List Loc), j176 x1 f2 f3 f4 x5 x6 l8 l10 x12 x13 M R = some (r, M9, R9) → va_P D vwCl (YX cy q2 f2 q3 f3 q4 f4 ++ WL cy T M R) H → va_D A (YX cy q2 f2 q3 f3 q4 f4 ++ WL cy T M R) → va_S A s.heap H locs → ∀ ls : Array Slot, lv_has ls 19 [(0, .ref a0), (1, .int x1), (2, .ref q2), (3, .ref q3), (4, .ref q4), (5, .int x5), (6, .int x6), (8, .long l8), (10, .long l10), (12, .int x12), (13, .int x13)] → W p l e rm_L_year s m args below meth c H locs 3 30 (MQ below (QcI D cy T M9 R9 A r) args s 3 30 A) (F0 m 176 ls [])) :
    ∀ (x1 : Int32) (f2 : (Nat → Int32)) (f3 : (Nat → Int32)) (f4 : (Nat → Int32)) (x5 : Int32) (M : Mm) (R : Rm) (H : Heap) (locs : List Loc), fs_L_year_25 T a0 j25 j176 x1 f2 f3 f4 x5 M R = some (r, M9, R9) → va_P D vwCl (YX cy q2 f2 q3 f3 q4 f4 ++ WL cy T M R) H → va_D A (YX cy q2 f2 q3 f3 q4 f4 ++ WL cy T M R) → va_S A s.heap H locs → ∀ ls : Array Slot, lv_has ls 19 [(0, .ref a0), (1, .int x1), (2, .ref q2), (3, .ref q3), (4, .ref q4), (5, .int x5)] → W p l e rm_L_year s m args below meth c H locs 3 30 (MQ below (QcI D cy T M9 R9 A r) args s 3 30 A) (F0 m 25 ls []) := by
  intro x1 f2 f3 f4 x5 M R H locs h hP hD hS ls hl
  unfold fs_L_year_25 at h
  obtain ⟨hx, hb, hr, hml, hown, hts, hK, hA, hlk, hSt⟩ := id C
  refine lv_iload hx hb dL_year_25 (lv_at hl 5 rfl) ?_
  refine lv_iload_n hx hb dL_year_27 rfl (lv_at hl 1 rfl) ?_
  refine lv_icmp_ge (tgt := 73) hx hb dL_year_28 (by decide) (fun c_76 => ?_) (fun c_76 => ?_)
  · replace h := ite_t h c_76
    refine lv_aload_n hx hb dL_year_73 rfl (lv_at hl 0 rfl) ?_
    refine lv_iconst (v := 0) hx hb dL_year_74 (by decide) ?_
    obtain ⟨k_77, h⟩ := chk_some h
    obtain ⟨r_78, M_79, hc_80, h⟩ := cal_some h
    refine yc_Vi (As := [.int (0 : Int32)]) (rest := []) C (ct_X6_front hc_80) k_77 (by decide) rfl wl_277 wl_278 wl_279 wl_2 wl_280 hd_X6_front ⟨Nat.le_of_ble_eq_true rfl, Nat.le_of_ble_eq_true rfl⟩ ⟨rfl, rfl⟩ ⟨Nat.le_refl _, Nat.le_refl _⟩ rfl (Nat.le_of_ble_eq_true rfl) rfl hl.1 hP hD hS dL_year_75 (fun H locs hP hD hS => ?_)
    refine lv_istore (lv' := [(5, .int r_78), (0, .ref a0), (1, .int x1), (2, .ref q2), (3, .ref q3), (4, .ref q4)]) hx hb dL_year_78 hl (by decide) rfl (fun ls hl => ?_)
    refine lv_aload_n hx hb dL_year_80 rfl (lv_at hl 1 rfl) ?_
    refine lv_iconst (v := 1) hx hb dL_year_81 (by decide) ?_
    obtain ⟨r_81, M_82, hc_83, h⟩ := cal_some h
    refine yc_Vi (As := [.int (1 : Int32)]) (rest := []) C (ct_X6_front hc_83) k_77 (by decide) rfl wl_277 wl_278 wl_279 wl_2 wl_280 hd_X6_front ⟨Nat.le_of_ble_eq_true rfl, Nat.le_of_ble_eq_true rfl⟩ ⟨rfl, rfl⟩ ⟨Nat.le_refl _, Nat.le_refl _⟩ rfl (Nat.le_of_ble_eq_true rfl) rfl hl.1 hP hD hS dL_year_82 (fun H locs hP hD hS => ?_)
    refine lv_istore (lv' := [(6, .int r_81), (5, .int r_78), (0, .ref a0), (1, .int x1), (2, .ref q2), (3, .ref q3), (4, .ref q4)]) hx hb dL_year_85 hl (by decide) rfl (fun ls hl => ?_)
    refine lv_aload_n hx hb dL_year_87 rfl (lv_at hl 2 rfl) ?_
    refine lv_iconst (v := 2) hx hb dL_year_88 (by decide) ?_
    obtain ⟨r_84, M_85, hc_86, h⟩ := cal_some h
    refine yc_Vi (As := [.int (2 : Int32)]) (rest := []) C (ct_X6_front hc_86) k_77 (by decide) rfl wl_277 wl_278 wl_279 wl_2 wl_280 hd_X6_front ⟨Nat.le_of_ble_eq_true rfl, Nat.le_of_ble_eq_true rfl⟩ ⟨rfl, rfl⟩ ⟨Nat.le_refl _, Nat.le_refl _⟩ rfl (Nat.le_of_ble_eq_true rfl) rfl hl.1 hP hD hS dL_year_89 (fun H locs hP hD hS => ?_)
    refine lv_istore (lv' := [(7, .int r_84), (6, .int r_81), (5, .int r_78), (0, .ref a0), (1, .int x1), (2, .ref q2), (3, .ref q3), (4, .ref q4)]) hx hb dL_year_92 hl (by decide) rfl (fun ls hl => ?_)
    refine lv_aload_n hx hb dL_year_94 rfl (lv_at hl 3 rfl) ?_
    refine lv_iconst (v := 1) hx hb dL_year_95 (by decide) ?_
    obtain ⟨r_87, M_88, hc_89, h⟩ := cal_some h
    refine yc_Vl (As := [.int (1 : Int32)]) (rest := []) C (ct_X6_account hc_89) k_77 (by decide) rfl wl_286 wl_287 wl_288 wl_2 wl_289 hd_X6_account ⟨Nat.le_of_ble_eq_true rfl, Nat.le_of_ble_eq_true rfl⟩ ⟨rfl, rfl⟩ ⟨Nat.le_refl _, Nat.le_refl _⟩ rfl (Nat.le_of_ble_eq_true rfl) rfl hl.1 hP hD hS dL_year_96 (fun H locs hP hD hS => ?_)
    refine lv_lstore (lv' := [(8, .long r_87), (7, .int r_84), (6, .int r_81), (5, .int r_78), (0, .ref a0), (1, .int x1), (2, .ref q2), (3, .ref q3), (4, .ref q4)]) hx hb dL_year_99 hl (by decide) rfl (fun ls hl => ?_)
    refine lv_aload_n hx hb dL_year_101 rfl (lv_at hl 4 rfl) ?_
    refine lv_iconst (v := 2) hx hb dL_year_102 (by decide) ?_
    obtain ⟨r_90, M_91, hc_92, h⟩ := cal_some h
    refine yc_Vl (As := [.int (2 : Int32)]) (rest := []) C (ct_X6_account hc_92) k_77 (by decide) rfl wl_286 wl_287 wl_288 wl_2 wl_289 hd_X6_account ⟨Nat.le_of_ble_eq_true rfl, Nat.le_of_ble_eq_true rfl⟩ ⟨rfl, rfl⟩ ⟨Nat.le_refl _, Nat.le_refl _⟩ rfl (Nat.le_of_ble_eq_true rfl) rfl hl.1 hP hD hS dL_year_103 (fun H locs hP hD hS => ?_)
    refine lv_lstore (lv' := [(10, .long r_90), (8, .long r_87), (7, .int r_84), (6, .int r_81), (5, .int r_78), (0, .ref a0), (1, .int x1), (2, .ref q2), (3, .ref q3), (4, .ref q4)]) hx hb dL_year_106 hl (by decide) rfl (fun ls hl => ?_)
    refine lv_aload_n hx hb dL_year_108 rfl (lv_at hl 5 rfl) ?_
    refine lv_iconst (v := 1) hx hb dL_year_109 (by decide) ?_
    obtain ⟨r_93, M_94, hc_95, h⟩ := cal_some h
    refine yc_Vi (As := [.int (1 : Int32)]) (rest := []) C (ct_X6_count hc_95) k_77 (by decide) rfl wl_103 wl_104 wl_105 wl_2 wl_106 hd_X6_count ⟨Nat.le_of_ble_eq_true rfl, Nat.le_of_ble_eq_true rfl⟩ ⟨rfl, rfl⟩ ⟨Nat.le_refl _, Nat.le_refl _⟩ rfl (Nat.le_of_ble_eq_true rfl) rfl hl.1 hP hD hS dL_year_110 (fun H locs hP hD hS => ?_)
    refine lv_istore (lv' := [(12, .int r_93), (10, .long r_90), (8, .long r_87), (7, .int r_84), (6, .int r_81), (5, .int r_78), (0, .ref a0), (1, .int x1), (2, .ref q2), (3, .ref q3), (4, .ref q4)]) hx hb dL_year_113 hl (by decide) rfl (fun ls hl => ?_)
    refine lv_aload_n hx hb dL_year_115 rfl (lv_at hl 6 rfl) ?_
    refine lv_iconst (v := 1) hx hb dL_year_116 (by decide) ?_
    obtain ⟨r_96, M_97, R_99, hc_98, h⟩ := calR_some h
    refine yc_Vi (As := [.int (1 : Int32)]) (rest := []) C (ct_X6_years hc_98) k_77 (by decide) rfl wl_355 wl_356 wl_357 wl_2 wl_358 hd_X6_years ⟨Nat.le_of_ble_eq_true rfl, Nat.le_of_ble_eq_true rfl⟩ ⟨rfl, rfl⟩ ⟨Nat.le_refl _, Nat.le_refl _⟩ rfl (Nat.le_of_ble_eq_true rfl) rfl hl.1 hP hD hS dL_year_117 (fun H locs hP hD hS => ?_)
    refine lv_istore (lv' := [(13, .int r_96), (12, .int r_93), (10, .long r_90), (8, .long r_87), (7, .int r_84), (6, .int r_81), (5, .int r_78), (0, .ref a0), (1, .int x1), (2, .ref q2), (3, .ref q3), (4, .ref q4)]) hx hb dL_year_120 hl (by decide) rfl (fun ls hl => ?_)
    refine lv_iload hx hb dL_year_122 (lv_at hl 0 rfl) ?_
    refine lv_if_lt (tgt := 174) hx hb dL_year_124 (by decide) (fun c_100 => ?_) (fun c_100 => ?_)
    · replace h := ite_t h c_100
      refine lv_iconst (v := 0) hx hb dL_year_174 (by decide) ?_
      cases h
      exact rt_y C hP hD hS rfl dL_year_175
    · replace h := ite_f h c_100
      refine lv_aload_n hx hb dL_year_127 rfl (lv_at hl 7 rfl) ?_
      refine lv_iconst (v := 1) hx hb dL_year_128 (by decide) ?_
      obtain ⟨r_101, M_102, hc_103, h⟩ := cal_some h
      refine yc_Vi (As := [.int (1 : Int32)]) (rest := []) C (ct_X6_count hc_103) k_77 (by decide) rfl wl_103 wl_104 wl_105 wl_2 wl_106 hd_X6_count ⟨Nat.le_of_ble_eq_true rfl, Nat.le_of_ble_eq_true rfl⟩ ⟨rfl, rfl⟩ ⟨Nat.le_refl _, Nat.le_refl _⟩ rfl (Nat.le_of_ble_eq_true rfl) rfl hl.1 hP hD hS dL_year_129 (fun H locs hP hD hS => ?_)
      refine lv_iload hx hb dL_year_132 (lv_at hl 1 rfl) ?_
      refine lv_iconst (v := 1) hx hb dL_year_134 (by decide) ?_
      refine lv_iadd hx hb dL_year_135 ?_
      refine lv_icmp_ne (tgt := 174) hx hb dL_year_136 (by decide) (fun c_104 => ?_) (fun c_104 => ?_)
      · replace h := ite_f h c_104
        refine lv_iconst (v := 0) hx hb dL_year_174 (by decide) ?_
        cases h
        exact rt_y C hP hD hS rfl dL_year_175
      · replace h := ite_t h c_104
        refine lv_aload_n hx hb dL_year_139 rfl (lv_at hl 7 rfl) ?_
        refine lv_iconst (v := 2) hx hb dL_year_140 (by decide) ?_
        obtain ⟨r_105, M_106, hc_107, h⟩ := cal_some h
        refine yc_Vi (As := [.int (2 : Int32)]) (rest := []) C (ct_X6_front hc_107) k_77 (by decide) rfl wl_277 wl_278 wl_279 wl_2 wl_280 hd_X6_front ⟨Nat.le_of_ble_eq_true rfl, Nat.le_of_ble_eq_true rfl⟩ ⟨rfl, rfl⟩ ⟨Nat.le_refl _, Nat.le_refl _⟩ rfl (Nat.le_of_ble_eq_true rfl) rfl hl.1 hP hD hS dL_year_141 (fun H locs hP hD hS => ?_)
        refine lv_iload hx hb dL_year_144 (lv_at hl 4 rfl) ?_
        refine lv_iload hx hb dL_year_146 (lv_at hl 0 rfl) ?_
        refine lv_iadd hx hb dL_year_148 ?_
        refine lv_icmp_ne (tgt := 174) hx hb dL_year_149 (by decide) (fun c_108 => ?_) (fun c_108 => ?_)
        · replace h := ite_f h c_108
          refine lv_iconst (v := 0) hx hb dL_year_174 (by decide) ?_
          cases h
          exact rt_y C hP hD hS rfl dL_year_175
        · replace h := ite_t h c_108
          refine lv_iload hx hb dL_year_152 (lv_at hl 5 rfl) ?_
          refine lv_if_le (tgt := 176) hx hb dL_year_154 (by decide) (fun c_109 => ?_) (fun c_109 => ?_)
          · replace h := ite_t h c_109
            exact hj176 _ _ _ _ _ _ _ _ _ _ _ _ _ _ h hP hD hS _ (lv_sub hl [7, 8, 9, 10, 11, 6, 5, 3, 2, 1, 0] rfl)
          · replace h := ite_f h c_109
            refine lv_iload hx hb dL_year_157 (lv_at hl 0 rfl) ?_
            refine lv_if_ne (tgt := 174) hx hb dL_year_159 (by decide) (fun c_110 => ?_) (fun c_110 => ?_)
            · replace h := ite_f h c_110
              refine lv_iconst (v := 0) hx hb dL_year_174 (by decide) ?_
              cases h
              exact rt_y C hP hD hS rfl dL_year_175
            · replace h := ite_t h c_110
              refine lv_aload_n hx hb dL_year_162 rfl (lv_at hl 7 rfl) ?_
              refine lv_iconst (v := 1) hx hb dL_year_163 (by decide) ?_
              obtain ⟨r_111, M_112, hc_113, h⟩ := cal_some h
              refine yc_Vi (As := [.int (1 : Int32)]) (rest := []) C (ct_X6_front hc_113) k_77 (by decide) rfl wl_277 wl_278 wl_279 wl_2 wl_280 hd_X6_front ⟨Nat.le_of_ble_eq_true rfl, Nat.le_of_ble_eq_true rfl⟩ ⟨rfl, rfl⟩ ⟨Nat.le_refl _, Nat.le_refl _⟩ rfl (Nat.le_of_ble_eq_true rfl) rfl hl.1 hP hD hS dL_year_164 (fun H locs hP hD hS => ?_)
              refine lv_iload hx hb dL_year_167 (lv_at hl 5 rfl) ?_
              refine lv_iconst (v := 1) hx hb dL_year_169 (by decide) ?_
              refine lv_isub hx hb dL_year_170 ?_
              refine lv_icmp_eq (tgt := 176) hx hb dL_year_171 (by decide) (fun c_114 => ?_) (fun c_114 => ?_)
              · replace h := ite_t h c_114
                exact hj176 _ _ _ _ _ _ _ _ _ _ _ _ _ _ h hP hD hS _ (lv_sub hl [7, 8, 9, 10, 11, 6, 5, 3, 2, 1, 0] rfl)
              · replace h := ite_f h c_114
                refine lv_iconst (v := 0) hx hb dL_year_174 (by decide) ?_
                cases h
                exact rt_y C hP hD hS rfl dL_year_175
  · replace h := ite_f h c_76
    refine lv_aload_n hx hb dL_year_31 rfl (lv_at hl 2 rfl) ?_
    refine lv_iload hx hb dL_year_32 (lv_at hl 5 rfl) ?_
    refine lv_aload_n hx hb dL_year_34 rfl (lv_at hl 0 rfl) ?_
    refine lv_iload hx hb dL_year_35 (lv_at hl 5 rfl) ?_
    refine lv_iconst (v := 3) hx hb dL_year_37 (by decide) ?_
    obtain ⟨k_115, h⟩ := chk_some h
    obtain ⟨r_116, M_117, hc_118, h⟩ := cal_some h
    refine yc_Vi (As := [.int x5, .int (3 : Int32)]) (rest := [.int x5, .ref q2]) C (ct_X6_bandInfo hc_118) k_115 (by decide) rfl wl_235 wl_236 wl_237 wl_2 wl_238 hd_X6_bandInfo ⟨Nat.le_of_ble_eq_true rfl, Nat.le_of_ble_eq_true rfl⟩ ⟨rfl, rfl⟩ ⟨Nat.le_refl _, Nat.le_refl _⟩ rfl (Nat.le_of_ble_eq_true rfl) rfl hl.1 hP hD hS dL_year_38 (fun H locs hP hD hS => ?_)
    obtain ⟨k_119, h⟩ := chk_some h
    refine yw_2 C hP hD hS k_119 dL_year_41 (fun g_120 H locs eg_120 hP hD hS => ?_)
    replace h := bnd_at h eg_120
    refine lv_aload_n hx hb dL_year_42 rfl (lv_at hl 3 rfl) ?_
    refine lv_iload hx hb dL_year_43 (lv_at hl 5 rfl) ?_
    refine lv_aload_n hx hb dL_year_45 rfl (lv_at hl 0 rfl) ?_
    refine lv_iload hx hb dL_year_46 (lv_at hl 5 rfl) ?_
    refine lv_bipush (v := 7) hx hb dL_year_48 (by decide) ?_
    obtain ⟨r_121, M_122, hc_123, h⟩ := cal_some h
    refine yc_Vi (As := [.int x5, .int (7 : Int32)]) (rest := [.int x5, .ref q3]) C (ct_X6_bandInfo hc_123) k_115 (by decide) rfl wl_235 wl_236 wl_237 wl_2 wl_238 hd_X6_bandInfo ⟨Nat.le_of_ble_eq_true rfl, Nat.le_of_ble_eq_true rfl⟩ ⟨rfl, rfl⟩ ⟨Nat.le_refl _, Nat.le_refl _⟩ rfl (Nat.le_of_ble_eq_true rfl) rfl hl.1 hP hD hS dL_year_50 (fun H locs hP hD hS => ?_)
    refine yw_3 C hP hD hS k_119 dL_year_53 (fun g_124 H locs eg_124 hP hD hS => ?_)
    replace h := bnd_at h eg_124
    refine lv_aload hx hb dL_year_54 (lv_at hl 4 rfl) ?_
    refine lv_iload hx hb dL_year_56 (lv_at hl 5 rfl) ?_
    refine lv_aload_n hx hb dL_year_58 rfl (lv_at hl 0 rfl) ?_
    refine lv_iload hx hb dL_year_59 (lv_at hl 5 rfl) ?_
    refine lv_bipush (v := 8) hx hb dL_year_61 (by decide) ?_
    obtain ⟨r_125, M_126, hc_127, h⟩ := cal_some h
    refine yc_Vi (As := [.int x5, .int (8 : Int32)]) (rest := [.int x5, .ref q4]) C (ct_X6_bandInfo hc_127) k_115 (by decide) rfl wl_235 wl_236 wl_237 wl_2 wl_238 hd_X6_bandInfo ⟨Nat.le_of_ble_eq_true rfl, Nat.le_of_ble_eq_true rfl⟩ ⟨rfl, rfl⟩ ⟨Nat.le_refl _, Nat.le_refl _⟩ rfl (Nat.le_of_ble_eq_true rfl) rfl hl.1 hP hD hS dL_year_63 (fun H locs hP hD hS => ?_)
    refine yw_4 C hP hD hS k_119 dL_year_66 (fun g_128 H locs eg_128 hP hD hS => ?_)
    replace h := bnd_at h eg_128
    obtain ⟨v_129, ev_129⟩ : ∃ y : Int32, y = (x5 + (1 : Int32)) := ⟨_, rfl⟩
    replace h := bnd_at h ev_129
    refine lv_iinc (v := v_129) (lv' := [(5, .int v_129), (0, .ref a0), (1, .int x1), (2, .ref q2), (3, .ref q3), (4, .ref q4)]) hx hb dL_year_67 hl (k := 5) rfl (by rw [ev_129]; rfl) (by decide) rfl (fun ls hl => ?_)
    refine lv_goto (tgt := 25) hx hb dL_year_70 (by decide) ?_
    exact hj25 _ _ _ _ _ _ _ _ _ h hP hD hS _ (lv_sub hl [1, 2, 3, 4, 5, 0] rfl)
theorem bt_L_year_25 {p : Program} {l : Launch} {e : Env} {s : State} {m : MethodId} {args : Array Value} {below : List Frame} {meth : Method} {c : Code} {D : va_G} {cy : Cy} {A : Nat → Prop} {T : Ty} {R9 : Rm} {r : Int32} {M9 : Mm} {q2 q3 q4 : Nat} {a0 : Nat} {j176 : Int32 → (Nat → Int32) → (Nat → Int32) → (Nat → Int32) → Int32 → Int32 → Int64 → Int64 → Int32 → Int32 → Mm → Rm → Option (Int32 × Mm × Rm)} (C : Cx RL cL_year 19 (some .boolean) p s m args meth c D cy A)
    (hj176 : ∀ (x1 : Int32) (f2 : (Nat → Int32)) (f3 : (Nat → Int32)) (f4 : (Nat → Int32)) (x5 : Int32) (x6 : Int32) (l8 : Int64) (l10 : Int64) (x12 : Int32) (x13 : Int32) (M : Mm) (R : Rm) (H : Heap) (locs : List Loc), j176 x1 f2 f3 f4 x5 x6 l8 l10 x12 x13 M R = some (r, M9, R9) → va_P D vwCl (YX cy q2 f2 q3 f3 q4 f4 ++ WL cy T M R) H → va_D A (YX cy q2 f2 q3 f3 q4 f4 ++ WL cy T M R) → va_S A s.heap H locs → ∀ ls : Array Slot, lv_has ls 19 [(0, .ref a0), (1, .int x1), (2, .ref q2), (3, .ref q3), (4, .ref q4), (5, .int x5), (6, .int x6), (8, .long l8), (10, .long l10), (12, .int x12), (13, .int x13)] → W p l e rm_L_year s m args below meth c H locs 3 30 (MQ below (QcI D cy T M9 R9 A r) args s 3 30 A) (F0 m 176 ls [])) :
    ∀ n : Nat, ∀ (x1 : Int32) (f2 : (Nat → Int32)) (f3 : (Nat → Int32)) (f4 : (Nat → Int32)) (x5 : Int32) (M : Mm) (R : Rm) (H : Heap) (locs : List Loc), fb_L_year_25 T a0 j176 n x1 f2 f3 f4 x5 M R = some (r, M9, R9) → va_P D vwCl (YX cy q2 f2 q3 f3 q4 f4 ++ WL cy T M R) H → va_D A (YX cy q2 f2 q3 f3 q4 f4 ++ WL cy T M R) → va_S A s.heap H locs → ∀ ls : Array Slot, lv_has ls 19 [(0, .ref a0), (1, .int x1), (2, .ref q2), (3, .ref q3), (4, .ref q4), (5, .int x5)] → W p l e rm_L_year s m args below meth c H locs 3 30 (MQ below (QcI D cy T M9 R9 A r) args s 3 30 A) (F0 m 25 ls []) := by
  intro n
  induction n with
  | zero =>
    intro _ _ _ _ _ _ _ H locs h
    exact absurd (show (none : Option (Int32 × Mm × Rm)) = some _ from h) (by simp)
  | succ n ih => exact fun u0 u1 u2 u3 u4 u5 u6 H locs h => bs_L_year_25 (a0 := a0) C ih hj176 u0 u1 u2 u3 u4 u5 u6 H locs h
set_option maxHeartbeats 4000000 in
set_option maxRecDepth 100000 in
theorem ct_L_year {l : Launch} {D : va_G} {cy : Cy} {T : Ty} {R : Rm} {a0 : Nat} {M : Mm} {r : Int32} {M9 : Mm} {R9 : Rm} (h : fn_L_year T a0 M R = some (r, M9, R9)) : CtY l yL_year cL_year 19 (some .boolean) rm_L_year D cy T M R [.ref a0] M9 R9 r := by
  unfold fn_L_year at h
  refine enterY (plainFor_of_name (by decide +kernel)) (Nat.le_of_ble_eq_true rfl) (fun p e s m args below meth c A C hP hD hS ls hl => ?_)
  have hl : lv_has ls 19 [(0, .ref a0)] := hl
  obtain ⟨hx, hb, hr, hml, hown, hts, hK, hA, hlk, hSt⟩ := id C
  refine lv_aload_n hx hb dL_year_0 rfl (lv_at hl 0 rfl) ?_
  refine lv_iconst (v := 0) hx hb dL_year_1 (by decide) ?_
  obtain ⟨k_134, h⟩ := chk_some h
  obtain ⟨r_135, M_136, hc_137, h⟩ := cal_some h
  refine cl_Vi (As := [.int (0 : Int32)]) (rest := []) C (ct_X6_count hc_137) k_134 (by decide) rfl wl_103 wl_104 wl_105 wl_2 wl_106 hd_X6_count ⟨Nat.le_of_ble_eq_true rfl, Nat.le_of_ble_eq_true rfl⟩ ⟨rfl, rfl⟩ ⟨Nat.le_of_ble_eq_true rfl, Nat.le_of_ble_eq_true rfl⟩ rfl (Nat.le_of_ble_eq_true rfl) rfl hl.1 hP hD hS dL_year_2 (fun H locs hP hD hS => ?_)
  refine lv_istore_n (lv' := [(1, .int r_135), (0, .ref a0)]) hx hb dL_year_5 rfl hl (by decide) rfl (fun ls hl => ?_)
  refine lv_bipush (v := 10) hx hb dL_year_6 (by decide) ?_
  refine na_9 trivial C hP hD hS (Nat.le_of_ble_eq_true rfl) (Nat.le_of_ble_eq_true rfl) dL_year_8 (fun q2 H hP hD hS => ?_)
  refine lv_astore_n (lv' := [(2, .ref q2), (1, .int r_135), (0, .ref a0)]) hx hb dL_year_10 rfl hl (by decide) rfl (fun ls hl => ?_)
  refine lv_bipush (v := 10) hx hb dL_year_11 (by decide) ?_
  refine na_9 trivial C hP hD hS (Nat.le_of_ble_eq_true rfl) (Nat.le_of_ble_eq_true rfl) dL_year_13 (fun q3 H hP hD hS => ?_)
  refine lv_astore_n (lv' := [(3, .ref q3), (2, .ref q2), (1, .int r_135), (0, .ref a0)]) hx hb dL_year_15 rfl hl (by decide) rfl (fun ls hl => ?_)
  refine lv_bipush (v := 10) hx hb dL_year_16 (by decide) ?_
  refine na_9 trivial C hP hD hS (Nat.le_of_ble_eq_true rfl) (Nat.le_of_ble_eq_true rfl) dL_year_18 (fun q4 H hP hD hS => ?_)
  refine lv_astore (lv' := [(4, .ref q4), (3, .ref q3), (2, .ref q2), (1, .int r_135), (0, .ref a0)]) hx hb dL_year_20 hl (by decide) rfl (fun ls hl => ?_)
  obtain ⟨hP, hD⟩ := yx_in hP hD
  refine lv_iconst (v := 0) hx hb dL_year_22 (by decide) ?_
  refine lv_istore (lv' := [(5, .int (0 : Int32)), (4, .ref q4), (3, .ref q3), (2, .ref q2), (1, .int r_135), (0, .ref a0)]) hx hb dL_year_23 hl (by decide) rfl (fun ls hl => ?_)
  exact (bt_L_year_25 C (bs_L_year_176 C) FU) _ _ _ _ _ _ _ _ _ h hP hD hS _ (lv_sub hl [5, 4, 3, 2, 1, 0] rfl)
