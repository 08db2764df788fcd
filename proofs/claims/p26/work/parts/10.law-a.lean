theorem cg_ok {g : Nat} (h : g ≤ 1000) : 250 + 3 * g ≤ room_1.cells ∧ 49235 + 30 * g ≤ room_1.slots := ⟨by show 250 + 3 * g ≤ 600000; omega, by show 49235 + 30 * g ≤ 7302250; omega⟩
theorem cg_ok3 {g : Nat} (h : g + 1 ≤ 1000) : 250 + 3 * g + 3 ≤ room_1.cells ∧ 49235 + 30 * g + 30 ≤ room_1.slots := ⟨by show 250 + 3 * g + 3 ≤ 600000; omega, by show 49235 + 30 * g + 30 ≤ 7302250; omega⟩
def calX {α : Type} (q : Option Int32) (k : Int32 → Option α) : Option α := match q with
  | some u => k u
  | none => none
theorem calX_some {α : Type} {q : Option Int32} {k : Int32 → Option α} {v : α} (h : calX q k = some v) : ∃ r, q = some r ∧ k r = some v := by
  cases q with
  | none => cases h
  | some u => exact ⟨u, rfl, h⟩
def fs_L_law_1051 (T : Ty) (L : Nat) (xs : Nat → Int32) (a1 : Nat) (j78 : Int32 → Int32 → Nat → Mm → Rm → Option (Int32 × Mm × Rm)) (x2 : Int32) (x3 : Int32) (g : Nat) (M : Mm) (R : Rm) : Option (Int32 × Mm × Rm) :=
  cal (fn_L_sound T R a1 M) fun r_1 M_2 =>
  if r_1 = 0 then (
    some ((0 : Int32), M_2, R)) else (
    bnd (x3 + (1 : Int32)) fun v_5 =>
    j78 x2 v_5 g M_2 R)
def fs_L_law_1018 (T : Ty) (L : Nat) (xs : Nat → Int32) (a1 : Nat) (j78 : Int32 → Int32 → Nat → Mm → Rm → Option (Int32 × Mm × Rm)) (x2 : Int32) (x3 : Int32) (x5 : Int32) (x6 : Int32) (g : Nat) (M : Mm) (R : Rm) : Option (Int32 × Mm × Rm) :=
  if x6 ≤ 0 then (
    (fs_L_law_1051 T L xs a1 j78) x2 x3 g M R) else (
    chk (isK T a1 6) <|
    cal (fn_X6_count T R a1 (1 : Int32) M) fun r_8 M_9 =>
    if (60 : Int32) ≤ r_8 then (
      (fs_L_law_1051 T L xs a1 j78) x2 x3 g M_9 R) else (
      cal (fn_L_low T R x5 (20 : Int32) M_9) fun r_12 M_13 =>
      calR (fn_X6_years T a1 ((1 : Int32) + r_12) M_13 R) fun r_15 M_16 R_18 =>
      if 0 ≤ r_15 then (
        (fs_L_law_1051 T L xs a1 j78) x2 x3 g M_16 R_18) else (
        some ((0 : Int32), M_16, R_18))))
def fs_L_law_995 (T : Ty) (L : Nat) (xs : Nat → Int32) (a1 : Nat) (j78 : Int32 → Int32 → Nat → Mm → Rm → Option (Int32 × Mm × Rm)) (x2 : Int32) (x3 : Int32) (x5 : Int32) (x6 : Int32) (x7 : Int32) (g : Nat) (M : Mm) (R : Rm) : Option (Int32 × Mm × Rm) :=
  if x7 = (12 : Int32) then (
    if x6 ≤ 0 then (
      (fs_L_law_1018 T L xs a1 j78) x2 x3 x5 x6 g M R) else (
      calR (fn_L_thoughts T a1 x5 M R) fun r_22 M_23 R_25 =>
      if r_22 = 0 then (
        some ((0 : Int32), M_23, R_25)) else (
        (fs_L_law_1051 T L xs a1 j78) x2 x3 g M_23 R_25))) else (
    (fs_L_law_1018 T L xs a1 j78) x2 x3 x5 x6 g M R)
def fs_L_law_992 (T : Ty) (L : Nat) (xs : Nat → Int32) (a1 : Nat) (j78 : Int32 → Int32 → Nat → Mm → Rm → Option (Int32 × Mm × Rm)) (x2 : Int32) (x3 : Int32) (g : Nat) (M : Mm) (R : Rm) : Option (Int32 × Mm × Rm) :=
  (fs_L_law_1051 T L xs a1 j78) x2 x3 g M R
def fs_L_law_953 (T : Ty) (L : Nat) (xs : Nat → Int32) (a1 : Nat) (j953 : Int32 → Int32 → Int32 → Int32 → Nat → Mm → Rm → Option (Int32 × Mm × Rm)) (j992 : Int32 → Int32 → Nat → Mm → Rm → Option (Int32 × Mm × Rm)) (x2 : Int32) (x3 : Int32) (x5 : Int32) (x9 : Int32) (g : Nat) (M : Mm) (R : Rm) : Option (Int32 × Mm × Rm) :=
  cal (fn_L_low T R x5 (3 : Int32) M) fun r_27 M_28 =>
  if ((1 : Int32) + r_27) ≤ x9 then (
    j992 x2 x3 g M_28 R) else (
    chk (isK T a1 6) <|
    cal (fn_X6_count T R a1 (1 : Int32) M_28) fun r_32 M_33 =>
    if (500 : Int32) ≤ r_32 then (
      j992 x2 x3 g M_33 R) else (
      chk (decide (g + 1 ≤ 1000)) <|
      calR (fn_L_year T a1 M_33 R) fun r_36 M_37 R_38 =>
      if r_36 = 0 then (
        some ((0 : Int32), M_37, R_38)) else (
        bnd (x9 + (1 : Int32)) fun v_42 =>
        j953 x2 x3 x5 v_42 (g + 1) M_37 R_38)))
def fb_L_law_953 (T : Ty) (L : Nat) (xs : Nat → Int32) (a1 : Nat) (j992 : Int32 → Int32 → Nat → Mm → Rm → Option (Int32 × Mm × Rm)) : Nat → Int32 → Int32 → Int32 → Int32 → Nat → Mm → Rm → Option (Int32 × Mm × Rm) :=
  lp (fun j953 => fs_L_law_953 T L xs a1 j953 j992) (fun _ _ _ _ _ _ _ => none)
def fs_L_law_938 (T : Ty) (L : Nat) (xs : Nat → Int32) (a1 : Nat) (j78 : Int32 → Int32 → Nat → Mm → Rm → Option (Int32 × Mm × Rm)) (x2 : Int32) (x3 : Int32) (x5 : Int32) (x6 : Int32) (x7 : Int32) (g : Nat) (M : Mm) (R : Rm) : Option (Int32 × Mm × Rm) :=
  if (12 : Int32) ≤ x7 then (
    (fs_L_law_995 T L xs a1 j78) x2 x3 x5 x6 x7 g M R) else (
    if x6 ≤ 0 then (
      (fs_L_law_995 T L xs a1 j78) x2 x3 x5 x6 x7 g M R) else (
      (fb_L_law_953 T L xs a1 (fs_L_law_992 T L xs a1 j78) FU) x2 x3 x5 (0 : Int32) g M R))
def fs_L_law_935 (T : Ty) (L : Nat) (xs : Nat → Int32) (a1 : Nat) (j78 : Int32 → Int32 → Nat → Mm → Rm → Option (Int32 × Mm × Rm)) (x2 : Int32) (x3 : Int32) (g : Nat) (M : Mm) (R : Rm) : Option (Int32 × Mm × Rm) :=
  (fs_L_law_1051 T L xs a1 j78) x2 x3 g M R
def fs_L_law_887 (T : Ty) (L : Nat) (xs : Nat → Int32) (a1 : Nat) (j78 : Int32 → Int32 → Nat → Mm → Rm → Option (Int32 × Mm × Rm)) (x2 : Int32) (x3 : Int32) (x9 : Int32) (x10 : Int32) (x11 : Int32) (g : Nat) (s0 : Int32) (M : Mm) (R : Rm) : Option (Int32 × Mm × Rm) :=
  chk (isK T a1 6) <|
  calR (fn_X6_pull T a1 x10 M R) fun r_46 M_47 R_49 =>
  if r_46 = x11 then (
    cal (fn_X6_count T R_49 a1 (2 : Int32) M_47) fun r_51 M_52 =>
    if r_51 = (x9 - (1 : Int32)) then (
      if x9 ≤ (x10 + (1 : Int32)) then (
        (fs_L_law_935 T L xs a1 j78) x2 x3 g M_52 R_49) else (
        cal (fn_X6_stakeInfo T R_49 a1 x10 (2 : Int32) M_52) fun r_56 M_57 =>
        if r_56 = s0 then (
          (fs_L_law_935 T L xs a1 j78) x2 x3 g M_57 R_49) else (
          some ((0 : Int32), M_57, R_49)))) else (
      some ((0 : Int32), M_52, R_49))) else (
    some ((0 : Int32), M_47, R_49))
def fs_L_law_815 (T : Ty) (L : Nat) (xs : Nat → Int32) (a1 : Nat) (j78 : Int32 → Int32 → Nat → Mm → Rm → Option (Int32 × Mm × Rm)) (x2 : Int32) (x3 : Int32) (x5 : Int32) (x6 : Int32) (x7 : Int32) (g : Nat) (M : Mm) (R : Rm) : Option (Int32 × Mm × Rm) :=
  if x7 = (5 : Int32) then (
    chk (isK T a1 6) <|
    cal (fn_X6_count T R a1 (2 : Int32) M) fun r_62 M_63 =>
    if r_62 ≤ 0 then (
      (fs_L_law_938 T L xs a1 j78) x2 x3 x5 x6 x7 g M_63 R) else (
      cal (fn_L_low T R x5 (3 : Int32) M_63) fun r_66 M_67 =>
      if r_66 = 0 then (
        cal (fn_X6_count T R a1 (2 : Int32) M_67) fun r_70 M_71 =>
        cal (fn_L_low T R (x5 >>> ((2 : Int32) &&& 31)) r_70 M_71) fun r_73 M_74 =>
        cal (fn_X6_stakeInfo T R a1 r_73 (3 : Int32) M_74) fun r_76 M_77 =>
        if r_70 ≤ (r_73 + (1 : Int32)) then (
          (fs_L_law_887 T L xs a1 j78) x2 x3 r_70 r_73 r_76 g (0 : Int32) M_77 R) else (
          cal (fn_X6_stakeInfo T R a1 (r_73 + (1 : Int32)) (2 : Int32) M_77) fun r_80 M_81 =>
          (fs_L_law_887 T L xs a1 j78) x2 x3 r_70 r_73 r_76 g r_80 M_81 R)) else (
        (fs_L_law_938 T L xs a1 j78) x2 x3 x5 x6 x7 g M_67 R))) else (
    (fs_L_law_938 T L xs a1 j78) x2 x3 x5 x6 x7 g M R)
def fs_L_law_812 (T : Ty) (L : Nat) (xs : Nat → Int32) (a1 : Nat) (j78 : Int32 → Int32 → Nat → Mm → Rm → Option (Int32 × Mm × Rm)) (x2 : Int32) (x3 : Int32) (g : Nat) (M : Mm) (R : Rm) : Option (Int32 × Mm × Rm) :=
  (fs_L_law_1051 T L xs a1 j78) x2 x3 g M R
def fs_L_law_722 (T : Ty) (L : Nat) (xs : Nat → Int32) (a1 : Nat) (j78 : Int32 → Int32 → Nat → Mm → Rm → Option (Int32 × Mm × Rm)) (x2 : Int32) (x3 : Int32) (x5 : Int32) (x6 : Int32) (x7 : Int32) (x8 : Int32) (g : Nat) (M : Mm) (R : Rm) : Option (Int32 × Mm × Rm) :=
  if x7 = (4 : Int32) then (
    if x6 ≤ 0 then (
      (fs_L_law_815 T L xs a1 j78) x2 x3 x5 x6 x7 g M R) else (
      chk (isK T a1 6) <|
      cal (fn_X6_bandInfo T R a1 x8 (2 : Int32) M) fun r_86 M_87 =>
      cal (fn_L_low T R x5 (501 : Int32) M_87) fun r_89 M_90 =>
      calR (fn_X6_creep T a1 x8 r_89 M_90 R) fun r_92 M_93 R_95 =>
      if r_92 = r_86 then (
        cal (fn_X6_bandInfo T R_95 a1 x8 (2 : Int32) M_93) fun r_97 M_98 =>
        cal (fn_L_low T R_95 x5 (501 : Int32) M_98) fun r_100 M_101 =>
        if r_97 = r_100 then (
          cal (fn_L_low T R_95 (x5 >>> ((9 : Int32) &&& 31)) (2 : Int32) M_101) fun r_104 M_105 =>
          if r_104 = 0 then (
            calR (fn_X6_undo T a1 M_105 R_95) fun r_108 M_109 R_111 =>
            if r_108 < 0 then (
              some ((0 : Int32), M_109, R_111)) else (
              cal (fn_X6_bandInfo T R_111 a1 x8 (2 : Int32) M_109) fun r_113 M_114 =>
              if r_113 = r_86 then (
                (fs_L_law_812 T L xs a1 j78) x2 x3 g M_114 R_111) else (
                some ((0 : Int32), M_114, R_111)))) else (
            (fs_L_law_812 T L xs a1 j78) x2 x3 g M_105 R_95)) else (
          some ((0 : Int32), M_101, R_95))) else (
        some ((0 : Int32), M_93, R_95)))) else (
    (fs_L_law_815 T L xs a1 j78) x2 x3 x5 x6 x7 g M R)
def fs_L_law_719 (T : Ty) (L : Nat) (xs : Nat → Int32) (a1 : Nat) (j78 : Int32 → Int32 → Nat → Mm → Rm → Option (Int32 × Mm × Rm)) (x2 : Int32) (x3 : Int32) (g : Nat) (M : Mm) (R : Rm) : Option (Int32 × Mm × Rm) :=
  (fs_L_law_1051 T L xs a1 j78) x2 x3 g M R
def fs_L_law_703 (T : Ty) (L : Nat) (xs : Nat → Int32) (a1 : Nat) (j78 : Int32 → Int32 → Nat → Mm → Rm → Option (Int32 × Mm × Rm)) (x2 : Int32) (x3 : Int32) (x11 : Int32) (x12 : Int32) (g : Nat) (M : Mm) (R : Rm) : Option (Int32 × Mm × Rm) :=
  if x12 = (-2000000003 : Int32) then (
    if x11 = (6 : Int32) then (
      (fs_L_law_719 T L xs a1 j78) x2 x3 g M R) else (
      some ((0 : Int32), M, R))) else (
    (fs_L_law_719 T L xs a1 j78) x2 x3 g M R)
def fs_L_law_640 (T : Ty) (L : Nat) (xs : Nat → Int32) (a1 : Nat) (j78 : Int32 → Int32 → Nat → Mm → Rm → Option (Int32 × Mm × Rm)) (x2 : Int32) (x3 : Int32) (x8 : Int32) (x9 : Int32) (x11 : Int32) (x12 : Int32) (g : Nat) (M : Mm) (R : Rm) : Option (Int32 × Mm × Rm) :=
  if x12 < 0 then (
    (fs_L_law_703 T L xs a1 j78) x2 x3 x11 x12 g M R) else (
    chk (isK T a1 6) <|
    cal (fn_X6_stakeInfo T R a1 x12 (0 : Int32) M) fun r_121 M_122 =>
    if r_121 = x8 then (
      cal (fn_X6_stakeInfo T R a1 x12 (1 : Int32) M_122) fun r_125 M_126 =>
      if r_125 = x9 then (
        cal (fn_X6_stakeInfo T R a1 x12 (3 : Int32) M_126) fun r_129 M_130 =>
        if r_129 = 0 then (
          cal (fn_X6_stakeInfo T R a1 x12 (5 : Int32) M_130) fun r_133 M_134 =>
          if r_133 = 0 then (
            calR (fn_X6_stake T a1 x8 x9 (1 : Int32) M_134 R) fun r_137 M_138 R_140 =>
            if r_137 = (-2000000002 : Int32) then (
              (fs_L_law_703 T L xs a1 j78) x2 x3 x11 x12 g M_138 R_140) else (
              some ((0 : Int32), M_138, R_140))) else (
            some ((0 : Int32), M_134, R))) else (
          some ((0 : Int32), M_130, R))) else (
        some ((0 : Int32), M_126, R))) else (
      some ((0 : Int32), M_122, R)))
def fs_L_law_515 (T : Ty) (L : Nat) (xs : Nat → Int32) (a1 : Nat) (j78 : Int32 → Int32 → Nat → Mm → Rm → Option (Int32 × Mm × Rm)) (x2 : Int32) (x3 : Int32) (x9 : Int32) (g : Nat) (s0 : Int32) (M : Mm) (R : Rm) : Option (Int32 × Mm × Rm) :=
  chk (isK T a1 6) <|
  cal (fn_X6_count T R a1 ((6 : Int32) + x9) M) fun r_143 M_144 =>
  calR (fn_X6_set T a1 x9 s0 M_144 R) fun r_146 M_147 R_149 =>
  if r_146 = r_143 then (
    cal (fn_X6_count T R_149 a1 ((6 : Int32) + x9) M_147) fun r_151 M_152 =>
    if r_151 = s0 then (
      (fs_L_law_1051 T L xs a1 j78) x2 x3 g M_152 R_149) else (
      some ((0 : Int32), M_152, R_149))) else (
    some ((0 : Int32), M_147, R_149))
def fs_L_law_445 (T : Ty) (L : Nat) (xs : Nat → Int32) (a1 : Nat) (j78 : Int32 → Int32 → Nat → Mm → Rm → Option (Int32 × Mm × Rm)) (x2 : Int32) (x3 : Int32) (x9 : Int32) (x10 : Int32) (g : Nat) (M : Mm) (R : Rm) : Option (Int32 × Mm × Rm) :=
  cal (fn_L_low T R x10 (120 : Int32) M) fun r_155 M_156 =>
  (fs_L_law_515 T L xs a1 j78) x2 x3 x9 g r_155 M_156 R
def fs_L_law_392 (T : Ty) (L : Nat) (xs : Nat → Int32) (a1 : Nat) (j78 : Int32 → Int32 → Nat → Mm → Rm → Option (Int32 × Mm × Rm)) (x3 : Int32) (g : Nat) (s0 : Int32) (M : Mm) (R : Rm) : Option (Int32 × Mm × Rm) :=
  (fs_L_law_1051 T L xs a1 j78) s0 x3 g M R
def fs_L_law_381 (T : Ty) (L : Nat) (xs : Nat → Int32) (a1 : Nat) (j78 : Int32 → Int32 → Nat → Mm → Rm → Option (Int32 × Mm × Rm)) (x2 : Int32) (x3 : Int32) (x9 : Int32) (x14 : Int32) (g : Nat) (M : Mm) (R : Rm) : Option (Int32 × Mm × Rm) :=
  if x14 < 0 then (
    (fs_L_law_392 T L xs a1 j78) x3 g x2 M R) else (
    (fs_L_law_392 T L xs a1 j78) x3 g x9 M R)
def fs_L_law_312 (T : Ty) (L : Nat) (xs : Nat → Int32) (a1 : Nat) (j78 : Int32 → Int32 → Nat → Mm → Rm → Option (Int32 × Mm × Rm)) (x2 : Int32) (x3 : Int32) (x9 : Int32) (x11 : Int32) (l12 : Int64) (x14 : Int32) (g : Nat) (s0 : Int32) (s1 : Int32) (M : Mm) (R : Rm) : Option (Int32 × Mm × Rm) :=
  if s0 = s1 then (
    if x14 < 0 then (
      (fs_L_law_381 T L xs a1 j78) x2 x3 x9 x14 g M R) else (
      chk (isK T a1 6) <|
      cal (fn_X6_bandInfo T R a1 x14 (3 : Int32) M) fun r_162 M_163 =>
      if r_162 = x11 then (
        cal (fn_X6_account T R a1 (0 : Int32) M_163) fun r_166 M_167 =>
        if (lg_cmp r_166 (l12 + (x11.toInt64))) = 0 then (
          cal (fn_X6_bandInfo T R a1 x14 (10 : Int32) M_167) fun r_170 M_171 =>
          if r_170 = 0 then (
            if x11 ≤ 0 then (
              (fs_L_law_381 T L xs a1 j78) x2 x3 x9 x14 g M_171 R) else (
              cal (fn_X6_layer T R a1 x14 (0 : Int32) (0 : Int32) M_171) fun r_175 M_176 =>
              cal (fn_X6_count T R a1 (1 : Int32) M_176) fun r_178 M_179 =>
              if r_175 = r_178 then (
                (fs_L_law_381 T L xs a1 j78) x2 x3 x9 x14 g M_179 R) else (
                some ((0 : Int32), M_179, R)))) else (
            some ((0 : Int32), M_171, R))) else (
          some ((0 : Int32), M_167, R))) else (
        some ((0 : Int32), M_163, R)))) else (
    some ((0 : Int32), M, R))
def fs_L_law_230 (T : Ty) (L : Nat) (xs : Nat → Int32) (a1 : Nat) (j78 : Int32 → Int32 → Nat → Mm → Rm → Option (Int32 × Mm × Rm)) (x2 : Int32) (x3 : Int32) (x5 : Int32) (x6 : Int32) (x9 : Int32) (g : Nat) (s0 : Int32) (M : Mm) (R : Rm) : Option (Int32 × Mm × Rm) :=
  cal (fn_L_low T R (x5 >>> ((4 : Int32) &&& 31)) (20000 : Int32) M) fun r_182 M_183 =>
  chk (isK T a1 6) <|
  cal (fn_X6_account T R a1 (0 : Int32) M_183) fun r_186 M_187 =>
  cal (fn_L_low T R (x5 >>> ((7 : Int32) &&& 31)) (900 : Int32) M_187) fun r_189 M_190 =>
  cal (fn_L_low T R (x5 >>> ((11 : Int32) &&& 31)) (501 : Int32) M_190) fun r_192 M_193 =>
  calR (fn_X6_band T a1 x9 ((100 : Int32) + r_189) r_192 r_182 M_193 R) fun r_195 M_196 R_198 =>
  if s0 = 0 then (
    (fs_L_law_312 T L xs a1 j78) x2 x3 x9 r_182 r_186 r_195 g r_195 (-2000000002 : Int32) M_196 R_198) else (
    if x6 = (10 : Int32) then (
      (fs_L_law_312 T L xs a1 j78) x2 x3 x9 r_182 r_186 r_195 g r_195 (-2000000003 : Int32) M_196 R_198) else (
      (fs_L_law_312 T L xs a1 j78) x2 x3 x9 r_182 r_186 r_195 g r_195 x6 M_196 R_198))
def fs_L_law_225 (T : Ty) (L : Nat) (xs : Nat → Int32) (a1 : Nat) (j78 : Int32 → Int32 → Nat → Mm → Rm → Option (Int32 × Mm × Rm)) (x2 : Int32) (x3 : Int32) (x5 : Int32) (x6 : Int32) (x9 : Int32) (g : Nat) (M : Mm) (R : Rm) : Option (Int32 × Mm × Rm) :=
  (fs_L_law_230 T L xs a1 j78) x2 x3 x5 x6 x9 g (1 : Int32) M R
def fs_L_law_204 (T : Ty) (L : Nat) (xs : Nat → Int32) (a1 : Nat) (j78 : Int32 → Int32 → Nat → Mm → Rm → Option (Int32 × Mm × Rm)) (x2 : Int32) (x3 : Int32) (x5 : Int32) (x6 : Int32) (g : Nat) (s0 : Int32) (M : Mm) (R : Rm) : Option (Int32 × Mm × Rm) :=
  if x6 = 0 then (
    (fs_L_law_225 T L xs a1 j78) x2 x3 x5 x6 s0 g M R) else (
    chk (isK T a1 6) <|
    cal (fn_X6_bandInfo T R a1 (x6 - (1 : Int32)) (0 : Int32) M) fun r_203 M_204 =>
    if r_203 ≤ s0 then (
      (fs_L_law_230 T L xs a1 j78) x2 x3 x5 x6 s0 g (0 : Int32) M_204 R) else (
      (fs_L_law_225 T L xs a1 j78) x2 x3 x5 x6 s0 g M_204 R))
def fs_L_law_191 (T : Ty) (L : Nat) (xs : Nat → Int32) (a1 : Nat) (j78 : Int32 → Int32 → Nat → Mm → Rm → Option (Int32 × Mm × Rm)) (x2 : Int32) (x3 : Int32) (x5 : Int32) (x6 : Int32) (g : Nat) (s0 : Int32) (M : Mm) (R : Rm) : Option (Int32 × Mm × Rm) :=
  if 0 ≤ s0 then (
    (fs_L_law_204 T L xs a1 j78) x2 x3 x5 x6 g s0 M R) else (
    (fs_L_law_204 T L xs a1 j78) x2 x3 x5 x6 g (0 : Int32) M R)
def fs_L_law_156 (T : Ty) (L : Nat) (xs : Nat → Int32) (a1 : Nat) (j78 : Int32 → Int32 → Nat → Mm → Rm → Option (Int32 × Mm × Rm)) (x2 : Int32) (x3 : Int32) (x5 : Int32) (x6 : Int32) (x7 : Int32) (g : Nat) (s0 : Int32) (M : Mm) (R : Rm) : Option (Int32 × Mm × Rm) :=
  if x7 = 0 then (
    cal (fn_L_low T R (x5 >>> ((20 : Int32) &&& 31)) (4 : Int32) M) fun r_258 M_259 =>
    if r_258 = 0 then (
      (fs_L_law_191 T L xs a1 j78) x2 x3 x5 x6 g x2 M_259 R) else (
      cal (fn_L_low T R x5 (600 : Int32) M_259) fun r_262 M_263 =>
      (fs_L_law_191 T L xs a1 j78) x2 x3 x5 x6 g ((x2 - (1 : Int32)) - r_262) M_263 R)) else (
    if (3 : Int32) ≤ x7 then (
      if x7 = (3 : Int32) then (
        if x6 ≤ 0 then (
          (fs_L_law_722 T L xs a1 j78) x2 x3 x5 x6 x7 s0 g M R) else (
          chk (isK T a1 6) <|
          cal (fn_X6_bandInfo T R a1 s0 (1 : Int32) M) fun r_213 M_214 =>
          cal (fn_L_low T R x5 r_213 M_214) fun r_216 M_217 =>
          cal (fn_L_low T R (x5 >>> ((6 : Int32) &&& 31)) (4000 : Int32) M_217) fun r_219 M_220 =>
          bnd ((1 : Int32) + r_219) fun v_222 =>
          cal (fn_X6_count T R a1 (2 : Int32) M_220) fun r_223 M_224 =>
          calR (fn_X6_stake T a1 s0 r_216 v_222 M_224 R) fun r_226 M_227 R_229 =>
          if r_226 = r_223 then (
            (fs_L_law_640 T L xs a1 j78) x2 x3 s0 r_216 r_223 r_226 g M_227 R_229) else (
            if r_226 = (-2000000002 : Int32) then (
              (fs_L_law_640 T L xs a1 j78) x2 x3 s0 r_216 r_223 r_226 g M_227 R_229) else (
              if r_226 = (-2000000003 : Int32) then (
                (fs_L_law_640 T L xs a1 j78) x2 x3 s0 r_216 r_223 r_226 g M_227 R_229) else (
                some ((0 : Int32), M_227, R_229)))))) else (
        (fs_L_law_722 T L xs a1 j78) x2 x3 x5 x6 x7 s0 g M R)) else (
      cal (fn_L_low T R x5 (7 : Int32) M) fun r_233 M_234 =>
      bnd (x5 >>> ((3 : Int32) &&& 31)) fun v_236 =>
      if r_233 = 0 then (
        cal (fn_L_low T R v_236 (2500 : Int32) M_234) fun r_255 M_256 =>
        (fs_L_law_515 T L xs a1 j78) x2 x3 r_233 g r_255 M_256 R) else (
        if r_233 = (1 : Int32) then (
          (fs_L_law_445 T L xs a1 j78) x2 x3 r_233 v_236 g M_234 R) else (
          if r_233 = (3 : Int32) then (
            (fs_L_law_445 T L xs a1 j78) x2 x3 r_233 v_236 g M_234 R) else (
            if r_233 = (2 : Int32) then (
              cal (fn_L_low T R v_236 (3000 : Int32) M_234) fun r_252 M_253 =>
              (fs_L_law_515 T L xs a1 j78) x2 x3 r_233 g r_252 M_253 R) else (
              if r_233 = (4 : Int32) then (
                cal (fn_L_low T R v_236 (5001 : Int32) M_234) fun r_249 M_250 =>
                (fs_L_law_515 T L xs a1 j78) x2 x3 r_233 g r_249 M_250 R) else (
                if r_233 = (5 : Int32) then (
                  cal (fn_L_low T R v_236 (5000 : Int32) M_234) fun r_246 M_247 =>
                  (fs_L_law_515 T L xs a1 j78) x2 x3 r_233 g ((1 : Int32) + r_246) M_247 R) else (
                  cal (fn_L_low T R v_236 (6 : Int32) M_234) fun r_243 M_244 =>
                  (fs_L_law_515 T L xs a1 j78) x2 x3 r_233 g r_243 M_244 R))))))))
def fs_L_law_136 (T : Ty) (L : Nat) (xs : Nat → Int32) (a1 : Nat) (j78 : Int32 → Int32 → Nat → Mm → Rm → Option (Int32 × Mm × Rm)) (x2 : Int32) (x3 : Int32) (x4 : Int32) (x5 : Int32) (x6 : Int32) (g : Nat) (s0 : Int32) (M : Mm) (R : Rm) : Option (Int32 × Mm × Rm) :=
  if x6 = 0 then (
    (fs_L_law_156 T L xs a1 j78) x2 x3 x5 x6 s0 g (0 : Int32) M R) else (
    cal (fn_L_low T R (x4 >>> ((5 : Int32) &&& 31)) x6 M) fun r_266 M_267 =>
    (fs_L_law_156 T L xs a1 j78) x2 x3 x5 x6 s0 g r_266 M_267 R)
def fs_L_law_78 (T : Ty) (L : Nat) (xs : Nat → Int32) (a1 : Nat) (j78 : Int32 → Int32 → Nat → Mm → Rm → Option (Int32 × Mm × Rm)) (x2 : Int32) (x3 : Int32) (g : Nat) (M : Mm) (R : Rm) : Option (Int32 × Mm × Rm) :=
  if (50 : Int32) ≤ x3 then (
    calR (fn_L_refuses T a1 M R) fun r_270 M_271 R_273 =>
    if r_270 = 0 then (
      some ((0 : Int32), M_271, R_273)) else (
      calX (fn_L_lot L xs (101 : Int32)) fun r_275 =>
      calR (fn_L_thoughts T a1 r_275 M_271 R_273) fun r_277 M_278 R_280 =>
      if r_277 = 0 then (
        some ((0 : Int32), M_278, R_280)) else (
        some ((1 : Int32), M_278, R_280)))) else (
    calX (fn_L_lot L xs ((2 : Int32) * x3)) fun r_282 =>
    calX (fn_L_lot L xs (((2 : Int32) * x3) + (1 : Int32))) fun r_284 =>
    chk (isK T a1 6) <|
    cal (fn_X6_count T R a1 (0 : Int32) M) fun r_287 M_288 =>
    if (3 : Int32) ≤ x3 then (
      if (5 : Int32) ≤ x3 then (
        cal (fn_L_low T R r_282 (14 : Int32) M_288) fun r_292 M_293 =>
        (fs_L_law_136 T L xs a1 j78) x2 x3 r_282 r_284 r_287 g r_292 M_293 R) else (
        (fs_L_law_136 T L xs a1 j78) x2 x3 r_282 r_284 r_287 g (3 : Int32) M_288 R)) else (
      (fs_L_law_136 T L xs a1 j78) x2 x3 r_282 r_284 r_287 g (0 : Int32) M_288 R))
def fb_L_law_78 (T : Ty) (L : Nat) (xs : Nat → Int32) (a1 : Nat) : Nat → Int32 → Int32 → Nat → Mm → Rm → Option (Int32 × Mm × Rm) :=
  lp (fun j78 => fs_L_law_78 T L xs a1 j78) (fun _ _ _ _ _ => none)
def fs_L_law_8 (T : Ty) (L : Nat) (xs : Nat → Int32) (a1 : Nat) (g : Nat) (M : Mm) (R : Rm) : Option (Int32 × Mm × Rm) :=
  calR (fn_L_refuses T a1 M R) fun r_295 M_296 R_298 =>
  if r_295 = 0 then (
    some ((0 : Int32), M_296, R_298)) else (
    chk (isK T a1 6) <|
    calR (fn_X6_undo T a1 M_296 R_298) fun r_301 M_302 R_304 =>
    if r_301 = (-2000000002 : Int32) then (
      cal (fn_L_sound T R_304 a1 M_302) fun r_306 M_307 =>
      if r_306 = 0 then (
        some ((0 : Int32), M_307, R_304)) else (
        calR (fn_X6_years T a1 (1 : Int32) M_307 R_304) fun r_310 M_311 R_313 =>
        if r_310 = (-2000000002 : Int32) then (
          cal (fn_X6_yearsTo T R_313 a1 (0 : Int32) M_311) fun r_315 M_316 =>
          if r_315 = (-2000000002 : Int32) then (
            cal (fn_X6_steadyMelt T R_313 a1 M_316) fun r_319 M_320 =>
            if r_319 = (-2000000002 : Int32) then (
              cal (fn_X6_fault T R_313 a1 (0 : Int32) M_320) fun r_323 M_324 =>
              if r_323 = (-2000000004 : Int32) then (
                (fb_L_law_78 T L xs a1 FU) (5000 : Int32) (0 : Int32) g M_324 R_313) else (
                some ((0 : Int32), M_324, R_313))) else (
              some ((0 : Int32), M_320, R_313))) else (
            some ((0 : Int32), M_316, R_313))) else (
          some ((0 : Int32), M_311, R_313)))) else (
      some ((0 : Int32), M_302, R_304)))
set_option maxHeartbeats 8000000 in
set_option maxRecDepth 100000 in
theorem bs_L_law_1051 {p : Program} {l : Launch} {e : Env} {s : State} {m : MethodId} {below : List Frame} {meth : Method} {c : Code} {D : va_G} {cy : Cy} {T : Ty} {R9 : Rm} {M9 : Mm} {b L : Nat} {xs : Nat → Int32} {a1 : Nat} {j78 : Int32 → Int32 → Nat → Mm → Rm → Option (Int32 × Mm × Rm)} (C : Cx RL cL_law 15 ret p s m #[Value.ref b] meth c D cy (fun q : Nat => s.heap.size ≤ q)) (hX : va_X b L xs s s.heap) (hbl : b < s.heap.size) (hbA : ¬ (fun q : Nat => s.heap.size ≤ q) b)
    (hj78 : ∀ (x2 : Int32) (x3 : Int32) (g : Nat) (M : Mm) (R : Rm) (H : Heap) (locs : List Loc), j78 x2 x3 g M R = some (1, M9, R9) → g ≤ 1000 → va_P D vwCl (WL cy T M R) H → va_D (fun q : Nat => s.heap.size ≤ q) (WL cy T M R) → va_S (fun q : Nat => s.heap.size ≤ q) s.heap H locs → ∀ ls : Array Slot, lv_has ls 15 [(0, .ref b), (1, .ref a1), (2, .int x2), (3, .int x3)] → W p l e room_1 s m #[Value.ref b] below meth c H locs (250 + 3 * g) (49235 + 30 * g) (lw_Z below #[Value.ref b] s) (F0 m 78 ls [])) :
    ∀ (x2 : Int32) (x3 : Int32) (g : Nat) (M : Mm) (R : Rm) (H : Heap) (locs : List Loc), fs_L_law_1051 T L xs a1 j78 x2 x3 g M R = some (1, M9, R9) → g ≤ 1000 → va_P D vwCl (WL cy T M R) H → va_D (fun q : Nat => s.heap.size ≤ q) (WL cy T M R) → va_S (fun q : Nat => s.heap.size ≤ q) s.heap H locs → ∀ ls : Array Slot, lv_has ls 15 [(0, .ref b), (1, .ref a1), (2, .int x2), (3, .int x3)] → W p l e room_1 s m #[Value.ref b] below meth c H locs (250 + 3 * g) (49235 + 30 * g) (lw_Z below #[Value.ref b] s) (F0 m 1051 ls []) := by
  intro x2 x3 g M R H locs h hg hP hD hS ls hl
  unfold fs_L_law_1051 at h
  obtain ⟨hx, hb, hr, hml, hown, hts, hK, hA, hlk, hSt⟩ := id C
  refine lv_aload_n hx hb dL_law_1051 rfl (lv_at hl 1 rfl) ?_
  obtain ⟨r_1, M_2, hc_3, h⟩ := cal_some h
  refine cl_Si (As := [.ref a1]) (rest := []) C (ct_L_sound hc_3) wl_496 wl_497 wl_98 wl_498 hd_L_sound ⟨Nat.le_of_ble_eq_true rfl, Nat.le_of_ble_eq_true rfl⟩ ⟨rfl, rfl⟩ (cg_ok hg) rfl (Nat.le_of_ble_eq_true rfl) rfl hl.1 hP hD hS dL_law_1052 (fun H locs hP hD hS => ?_)
  refine lv_if_ne (tgt := 1060) hx hb dL_law_1055 (by decide) (fun c_4 => ?_) (fun c_4 => ?_)
  · replace h := ite_f h c_4
    obtain ⟨v_5, ev_5⟩ : ∃ y : Int32, y = (x3 + (1 : Int32)) := ⟨_, rfl⟩
    replace h := bnd_at h ev_5
    refine lv_iinc (v := v_5) (lv' := [(3, .int v_5), (0, .ref b), (1, .ref a1), (2, .int x2)]) hx hb dL_law_1060 hl (k := 3) rfl (by rw [ev_5]; rfl) (by decide) rfl (fun ls hl => ?_)
    refine lv_goto (tgt := 78) hx hb dL_law_1063 (by decide) ?_
    exact hj78 _ _ _ _ _ _ _ h hg hP hD hS _ (lv_sub hl [1, 2, 3, 0] rfl)
  · replace h := ite_t h c_4
    refine lv_iconst (v := 0) hx hb dL_law_1058 (by decide) ?_
    exact absurd (show some (0 : Int32) = some 1 from congrArg (Option.map Prod.fst) h) (by decide)
set_option maxHeartbeats 8000000 in
set_option maxRecDepth 100000 in
theorem bs_L_law_1018 {p : Program} {l : Launch} {e : Env} {s : State} {m : MethodId} {below : List Frame} {meth : Method} {c : Code} {D : va_G} {cy : Cy} {T : Ty} {R9 : Rm} {M9 : Mm} {b L : Nat} {xs : Nat → Int32} {a1 : Nat} {j78 : Int32 → Int32 → Nat → Mm → Rm → Option (Int32 × Mm × Rm)} (C : Cx RL cL_law 15 ret p s m #[Value.ref b] meth c D cy (fun q : Nat => s.heap.size ≤ q)) (hX : va_X b L xs s s.heap) (hbl : b < s.heap.size) (hbA : ¬ (fun q : Nat => s.heap.size ≤ q) b)
    (hj78 : ∀ (x2 : Int32) (x3 : Int32) (g : Nat) (M : Mm) (R : Rm) (H : Heap) (locs : List Loc), j78 x2 x3 g M R = some (1, M9, R9) → g ≤ 1000 → va_P D vwCl (WL cy T M R) H → va_D (fun q : Nat => s.heap.size ≤ q) (WL cy T M R) → va_S (fun q : Nat => s.heap.size ≤ q) s.heap H locs → ∀ ls : Array Slot, lv_has ls 15 [(0, .ref b), (1, .ref a1), (2, .int x2), (3, .int x3)] → W p l e room_1 s m #[Value.ref b] below meth c H locs (250 + 3 * g) (49235 + 30 * g) (lw_Z below #[Value.ref b] s) (F0 m 78 ls [])) :
    ∀ (x2 : Int32) (x3 : Int32) (x5 : Int32) (x6 : Int32) (g : Nat) (M : Mm) (R : Rm) (H : Heap) (locs : List Loc), fs_L_law_1018 T L xs a1 j78 x2 x3 x5 x6 g M R = some (1, M9, R9) → g ≤ 1000 → va_P D vwCl (WL cy T M R) H → va_D (fun q : Nat => s.heap.size ≤ q) (WL cy T M R) → va_S (fun q : Nat => s.heap.size ≤ q) s.heap H locs → ∀ ls : Array Slot, lv_has ls 15 [(0, .ref b), (1, .ref a1), (2, .int x2), (3, .int x3), (5, .int x5), (6, .int x6)] → W p l e room_1 s m #[Value.ref b] below meth c H locs (250 + 3 * g) (49235 + 30 * g) (lw_Z below #[Value.ref b] s) (F0 m 1018 ls []) := by
  intro x2 x3 x5 x6 g M R H locs h hg hP hD hS ls hl
  unfold fs_L_law_1018 at h
  obtain ⟨hx, hb, hr, hml, hown, hts, hK, hA, hlk, hSt⟩ := id C
  refine lv_iload hx hb dL_law_1018 (lv_at hl 5 rfl) ?_
  refine lv_if_le (tgt := 1051) hx hb dL_law_1020 (by decide) (fun c_6 => ?_) (fun c_6 => ?_)
  · replace h := ite_t h c_6
    exact (bs_L_law_1051 C hX hbl hbA hj78) _ _ _ _ _ _ _ h hg hP hD hS _ (lv_sub hl [0, 1, 2, 3] rfl)
  · replace h := ite_f h c_6
    refine lv_aload_n hx hb dL_law_1023 rfl (lv_at hl 1 rfl) ?_
    refine lv_iconst (v := 1) hx hb dL_law_1024 (by decide) ?_
    obtain ⟨k_7, h⟩ := chk_some h
    obtain ⟨r_8, M_9, hc_10, h⟩ := cal_some h
    refine cl_Vi (As := [.int (1 : Int32)]) (rest := []) C (ct_X6_count hc_10) k_7 (by decide) rfl wl_103 wl_104 wl_105 wl_2 wl_106 hd_X6_count ⟨Nat.le_of_ble_eq_true rfl, Nat.le_of_ble_eq_true rfl⟩ ⟨rfl, rfl⟩ (cg_ok hg) rfl (Nat.le_of_ble_eq_true rfl) rfl hl.1 hP hD hS dL_law_1025 (fun H locs hP hD hS => ?_)
    refine lv_bipush (v := 60) hx hb dL_law_1028 (by decide) ?_
    refine lv_icmp_ge (tgt := 1051) hx hb dL_law_1030 (by decide) (fun c_11 => ?_) (fun c_11 => ?_)
    · replace h := ite_t h c_11
      exact (bs_L_law_1051 C hX hbl hbA hj78) _ _ _ _ _ _ _ h hg hP hD hS _ (lv_sub hl [0, 1, 2, 3] rfl)
    · replace h := ite_f h c_11
      refine lv_aload_n hx hb dL_law_1033 rfl (lv_at hl 1 rfl) ?_
      refine lv_iconst (v := 1) hx hb dL_law_1034 (by decide) ?_
      refine lv_iload hx hb dL_law_1035 (lv_at hl 4 rfl) ?_
      refine lv_bipush (v := 20) hx hb dL_law_1037 (by decide) ?_
      obtain ⟨r_12, M_13, hc_14, h⟩ := cal_some h
      refine cl_Si (As := [.int x5, .int (20 : Int32)]) (rest := [.int (1 : Int32), .ref a1]) C (ct_L_low hc_14) wl_515 wl_516 wl_98 wl_517 hd_L_low ⟨Nat.le_of_ble_eq_true rfl, Nat.le_of_ble_eq_true rfl⟩ ⟨rfl, rfl⟩ (cg_ok hg) rfl (Nat.le_of_ble_eq_true rfl) rfl hl.1 hP hD hS dL_law_1039 (fun H locs hP hD hS => ?_)
      refine lv_iadd hx hb dL_law_1042 ?_
      obtain ⟨r_15, M_16, R_18, hc_17, h⟩ := calR_some h
      refine cl_Vi (As := [.int ((1 : Int32) + r_12)]) (rest := []) C (ct_X6_years hc_17) k_7 (by decide) rfl wl_355 wl_356 wl_357 wl_2 wl_358 hd_X6_years ⟨Nat.le_of_ble_eq_true rfl, Nat.le_of_ble_eq_true rfl⟩ ⟨rfl, rfl⟩ (cg_ok hg) rfl (Nat.le_of_ble_eq_true rfl) rfl hl.1 hP hD hS dL_law_1043 (fun H locs hP hD hS => ?_)
      refine lv_if_ge (tgt := 1051) hx hb dL_law_1046 (by decide) (fun c_19 => ?_) (fun c_19 => ?_)
      · replace h := ite_t h c_19
        exact (bs_L_law_1051 C hX hbl hbA hj78) _ _ _ _ _ _ _ h hg hP hD hS _ (lv_sub hl [0, 1, 2, 3] rfl)
      · replace h := ite_f h c_19
        refine lv_iconst (v := 0) hx hb dL_law_1049 (by decide) ?_
        exact absurd (show some (0 : Int32) = some 1 from congrArg (Option.map Prod.fst) h) (by decide)
set_option maxHeartbeats 8000000 in
set_option maxRecDepth 100000 in
theorem bs_L_law_995 {p : Program} {l : Launch} {e : Env} {s : State} {m : MethodId} {below : List Frame} {meth : Method} {c : Code} {D : va_G} {cy : Cy} {T : Ty} {R9 : Rm} {M9 : Mm} {b L : Nat} {xs : Nat → Int32} {a1 : Nat} {j78 : Int32 → Int32 → Nat → Mm → Rm → Option (Int32 × Mm × Rm)} (C : Cx RL cL_law 15 ret p s m #[Value.ref b] meth c D cy (fun q : Nat => s.heap.size ≤ q)) (hX : va_X b L xs s s.heap) (hbl : b < s.heap.size) (hbA : ¬ (fun q : Nat => s.heap.size ≤ q) b)
    (hj78 : ∀ (x2 : Int32) (x3 : Int32) (g : Nat) (M : Mm) (R : Rm) (H : Heap) (locs : List Loc), j78 x2 x3 g M R = some (1, M9, R9) → g ≤ 1000 → va_P D vwCl (WL cy T M R) H → va_D (fun q : Nat => s.heap.size ≤ q) (WL cy T M R) → va_S (fun q : Nat => s.heap.size ≤ q) s.heap H locs → ∀ ls : Array Slot, lv_has ls 15 [(0, .ref b), (1, .ref a1), (2, .int x2), (3, .int x3)] → W p l e room_1 s m #[Value.ref b] below meth c H locs (250 + 3 * g) (49235 + 30 * g) (lw_Z below #[Value.ref b] s) (F0 m 78 ls [])) :
    ∀ (x2 : Int32) (x3 : Int32) (x5 : Int32) (x6 : Int32) (x7 : Int32) (g : Nat) (M : Mm) (R : Rm) (H : Heap) (locs : List Loc), fs_L_law_995 T L xs a1 j78 x2 x3 x5 x6 x7 g M R = some (1, M9, R9) → g ≤ 1000 → va_P D vwCl (WL cy T M R) H → va_D (fun q : Nat => s.heap.size ≤ q) (WL cy T M R) → va_S (fun q : Nat => s.heap.size ≤ q) s.heap H locs → ∀ ls : Array Slot, lv_has ls 15 [(0, .ref b), (1, .ref a1), (2, .int x2), (3, .int x3), (5, .int x5), (6, .int x6), (7, .int x7)] → W p l e room_1 s m #[Value.ref b] below meth c H locs (250 + 3 * g) (49235 + 30 * g) (lw_Z below #[Value.ref b] s) (F0 m 995 ls []) := by
  intro x2 x3 x5 x6 x7 g M R H locs h hg hP hD hS ls hl
  unfold fs_L_law_995 at h
  obtain ⟨hx, hb, hr, hml, hown, hts, hK, hA, hlk, hSt⟩ := id C
  refine lv_iload hx hb dL_law_995 (lv_at hl 6 rfl) ?_
  refine lv_bipush (v := 12) hx hb dL_law_997 (by decide) ?_
  refine lv_icmp_ne (tgt := 1018) hx hb dL_law_999 (by decide) (fun c_20 => ?_) (fun c_20 => ?_)
  · replace h := ite_f h c_20
    exact (bs_L_law_1018 C hX hbl hbA hj78) _ _ _ _ _ _ _ _ _ h hg hP hD hS _ (lv_sub hl [0, 1, 2, 3, 4, 5] rfl)
  · replace h := ite_t h c_20
    refine lv_iload hx hb dL_law_1002 (lv_at hl 5 rfl) ?_
    refine lv_if_le (tgt := 1018) hx hb dL_law_1004 (by decide) (fun c_21 => ?_) (fun c_21 => ?_)
    · replace h := ite_t h c_21
      exact (bs_L_law_1018 C hX hbl hbA hj78) _ _ _ _ _ _ _ _ _ h hg hP hD hS _ (lv_sub hl [0, 1, 2, 3, 4, 5] rfl)
    · replace h := ite_f h c_21
      refine lv_aload_n hx hb dL_law_1007 rfl (lv_at hl 1 rfl) ?_
      refine lv_iload hx hb dL_law_1008 (lv_at hl 4 rfl) ?_
      obtain ⟨r_22, M_23, R_25, hc_24, h⟩ := calR_some h
      refine cl_Si (As := [.ref a1, .int x5]) (rest := []) C (ct_L_thoughts hc_24) wl_523 wl_524 wl_98 wl_525 hd_L_thoughts ⟨Nat.le_of_ble_eq_true rfl, Nat.le_of_ble_eq_true rfl⟩ ⟨rfl, rfl⟩ (cg_ok hg) rfl (Nat.le_of_ble_eq_true rfl) rfl hl.1 hP hD hS dL_law_1010 (fun H locs hP hD hS => ?_)
      refine lv_if_ne (tgt := 1051) hx hb dL_law_1013 (by decide) (fun c_26 => ?_) (fun c_26 => ?_)
      · replace h := ite_f h c_26
        exact (bs_L_law_1051 C hX hbl hbA hj78) _ _ _ _ _ _ _ h hg hP hD hS _ (lv_sub hl [0, 1, 2, 3] rfl)
      · replace h := ite_t h c_26
        refine lv_iconst (v := 0) hx hb dL_law_1016 (by decide) ?_
        exact absurd (show some (0 : Int32) = some 1 from congrArg (Option.map Prod.fst) h) (by decide)
set_option maxHeartbeats 8000000 in
set_option maxRecDepth 100000 in
theorem bs_L_law_992 {p : Program} {l : Launch} {e : Env} {s : State} {m : MethodId} {below : List Frame} {meth : Method} {c : Code} {D : va_G} {cy : Cy} {T : Ty} {R9 : Rm} {M9 : Mm} {b L : Nat} {xs : Nat → Int32} {a1 : Nat} {j78 : Int32 → Int32 → Nat → Mm → Rm → Option (Int32 × Mm × Rm)} (C : Cx RL cL_law 15 ret p s m #[Value.ref b] meth c D cy (fun q : Nat => s.heap.size ≤ q)) (hX : va_X b L xs s s.heap) (hbl : b < s.heap.size) (hbA : ¬ (fun q : Nat => s.heap.size ≤ q) b)
    (hj78 : ∀ (x2 : Int32) (x3 : Int32) (g : Nat) (M : Mm) (R : Rm) (H : Heap) (locs : List Loc), j78 x2 x3 g M R = some (1, M9, R9) → g ≤ 1000 → va_P D vwCl (WL cy T M R) H → va_D (fun q : Nat => s.heap.size ≤ q) (WL cy T M R) → va_S (fun q : Nat => s.heap.size ≤ q) s.heap H locs → ∀ ls : Array Slot, lv_has ls 15 [(0, .ref b), (1, .ref a1), (2, .int x2), (3, .int x3)] → W p l e room_1 s m #[Value.ref b] below meth c H locs (250 + 3 * g) (49235 + 30 * g) (lw_Z below #[Value.ref b] s) (F0 m 78 ls [])) :
    ∀ (x2 : Int32) (x3 : Int32) (g : Nat) (M : Mm) (R : Rm) (H : Heap) (locs : List Loc), fs_L_law_992 T L xs a1 j78 x2 x3 g M R = some (1, M9, R9) → g ≤ 1000 → va_P D vwCl (WL cy T M R) H → va_D (fun q : Nat => s.heap.size ≤ q) (WL cy T M R) → va_S (fun q : Nat => s.heap.size ≤ q) s.heap H locs → ∀ ls : Array Slot, lv_has ls 15 [(0, .ref b), (1, .ref a1), (2, .int x2), (3, .int x3)] → W p l e room_1 s m #[Value.ref b] below meth c H locs (250 + 3 * g) (49235 + 30 * g) (lw_Z below #[Value.ref b] s) (F0 m 992 ls []) := by
  intro x2 x3 g M R H locs h hg hP hD hS ls hl
  unfold fs_L_law_992 at h
  obtain ⟨hx, hb, hr, hml, hown, hts, hK, hA, hlk, hSt⟩ := id C
  refine lv_goto (tgt := 1051) hx hb dL_law_992 (by decide) ?_
  exact (bs_L_law_1051 C hX hbl hbA hj78) _ _ _ _ _ _ _ h hg hP hD hS _ (lv_sub hl [0, 1, 2, 3] rfl)
set_option maxHeartbeats 8000000 in
set_option maxRecDepth 100000 in
theorem bs_L_law_953 {p : Program} {l : Launch} {e : Env} {s : State} {m : MethodId} {below : List Frame} {meth : Method} {c : Code} {D : va_G} {cy : Cy} {T : Ty} {R9 : Rm} {M9 : Mm} {b L : Nat} {xs : Nat → Int32} {a1 : Nat} {j953 : Int32 → Int32 → Int32 → Int32 → Nat → Mm → Rm → Option (Int32 × Mm × Rm)} {j992 : Int32 → Int32 → Nat → Mm → Rm → Option (Int32 × Mm × Rm)} (C : Cx RL cL_law 15 ret p s m #[Value.ref b] meth c D cy (fun q : Nat => s.heap.size ≤ q)) (hX : va_X b L xs s s.heap) (hbl : b < s.heap.size) (hbA : ¬ (fun q : Nat => s.heap.size ≤ q) b)
    (hj953 : ∀ (x2 : Int32) (x3 : Int32) (x5 : Int32) (x9 : Int32) (g : Nat) (M : Mm) (R : Rm) (H : Heap) (locs : List Loc), j953 x2 x3 x5 x9 g M R = some (1, M9, R9) → g ≤ 1000 → va_P D vwCl (WL cy T M R) H → va_D (fun q : Nat => s.heap.size ≤ q) (WL cy T M R) → va_S (fun q : Nat => s.heap.size ≤ q) s.heap H locs → ∀ ls : Array Slot, lv_has ls 15 [(0, .ref b), (1, .ref a1), (2, .int x2), (3, .int x3), (5, .int x5), (9, .int x9)] → W p l e room_1 s m #[Value.ref b] below meth c H locs (250 + 3 * g) (49235 + 30 * g) (lw_Z below #[Value.ref b] s) (F0 m 953 ls []))
    (hj992 : ∀ (x2 : Int32) (x3 : Int32) (g : Nat) (M : Mm) (R : Rm) (H : Heap) (locs : List Loc), j992 x2 x3 g M R = some (1, M9, R9) → g ≤ 1000 → va_P D vwCl (WL cy T M R) H → va_D (fun q : Nat => s.heap.size ≤ q) (WL cy T M R) → va_S (fun q : Nat => s.heap.size ≤ q) s.heap H locs → ∀ ls : Array Slot, lv_has ls 15 [(0, .ref b), (1, .ref a1), (2, .int x2), (3, .int x3)] → W p l e room_1 s m #[Value.ref b] below meth c H locs (250 + 3 * g) (49235 + 30 * g) (lw_Z below #[Value.ref b] s) (F0 m 992 ls [])) :
    ∀ (x2 : Int32) (x3 : Int32) (x5 : Int32) (x9 : Int32) (g : Nat) (M : Mm) (R : Rm) (H : Heap) (locs : List Loc), fs_L_law_953 T L xs a1 j953 j992 x2 x3 x5 x9 g M R = some (1, M9, R9) → g ≤ 1000 → va_P D vwCl (WL cy T M R) H → va_D (fun q : Nat => s.heap.size ≤ q) (WL cy T M R) → va_S (fun q : Nat => s.heap.size ≤ q) s.heap H locs → ∀ ls : Array Slot, lv_has ls 15 [(0, .ref b), (1, .ref a1), (2, .int x2), (3, .int x3), (5, .int x5), (9, .int x9)] → W p l e room_1 s m #[Value.ref b] below meth c H locs (250 + 3 * g) (49235 + 30 * g) (lw_Z below #[Value.ref b] s) (F0 m 953 ls []) := by
  intro x2 x3 x5 x9 g M R H locs h hg hP hD hS ls hl
  unfold fs_L_law_953 at h
  obtain ⟨hx, hb, hr, hml, hown, hts, hK, hA, hlk, hSt⟩ := id C
  refine lv_iload hx hb dL_law_953 (lv_at hl 5 rfl) ?_
  refine lv_iconst (v := 1) hx hb dL_law_955 (by decide) ?_
  refine lv_iload hx hb dL_law_956 (lv_at hl 4 rfl) ?_
  refine lv_iconst (v := 3) hx hb dL_law_958 (by decide) ?_
  obtain ⟨r_27, M_28, hc_29, h⟩ := cal_some h
  refine cl_Si (As := [.int x5, .int (3 : Int32)]) (rest := [.int (1 : Int32), .int x9]) C (ct_L_low hc_29) wl_515 wl_516 wl_98 wl_517 hd_L_low ⟨Nat.le_of_ble_eq_true rfl, Nat.le_of_ble_eq_true rfl⟩ ⟨rfl, rfl⟩ (cg_ok hg) rfl (Nat.le_of_ble_eq_true rfl) rfl hl.1 hP hD hS dL_law_959 (fun H locs hP hD hS => ?_)
  refine lv_iadd hx hb dL_law_962 ?_
  refine lv_icmp_ge (tgt := 992) hx hb dL_law_963 (by decide) (fun c_30 => ?_) (fun c_30 => ?_)
  · replace h := ite_t h c_30
    exact hj992 _ _ _ _ _ _ _ h hg hP hD hS _ (lv_sub hl [0, 1, 2, 3] rfl)
  · replace h := ite_f h c_30
    refine lv_aload_n hx hb dL_law_966 rfl (lv_at hl 1 rfl) ?_
    refine lv_iconst (v := 1) hx hb dL_law_967 (by decide) ?_
    obtain ⟨k_31, h⟩ := chk_some h
    obtain ⟨r_32, M_33, hc_34, h⟩ := cal_some h
    refine cl_Vi (As := [.int (1 : Int32)]) (rest := []) C (ct_X6_count hc_34) k_31 (by decide) rfl wl_103 wl_104 wl_105 wl_2 wl_106 hd_X6_count ⟨Nat.le_of_ble_eq_true rfl, Nat.le_of_ble_eq_true rfl⟩ ⟨rfl, rfl⟩ (cg_ok hg) rfl (Nat.le_of_ble_eq_true rfl) rfl hl.1 hP hD hS dL_law_968 (fun H locs hP hD hS => ?_)
    refine lv_sipush (v := 500) hx hb dL_law_971 (by decide) ?_
    refine lv_icmp_ge (tgt := 992) hx hb dL_law_974 (by decide) (fun c_35 => ?_) (fun c_35 => ?_)
    · replace h := ite_t h c_35
      exact hj992 _ _ _ _ _ _ _ h hg hP hD hS _ (lv_sub hl [0, 1, 2, 3] rfl)
    · replace h := ite_f h c_35
      refine lv_aload_n hx hb dL_law_977 rfl (lv_at hl 1 rfl) ?_
      obtain ⟨k_40, h⟩ := chk_some h
      obtain ⟨r_36, M_37, R_38, hc_39, h⟩ := calR_some h
      have k_40 := of_decide_eq_true k_40
      refine cl_Y (As := [.ref a1]) (rest := []) C (ct_L_year hc_39) wl_519 wl_520 wl_98 wl_521 hd_L_year ⟨Nat.le_of_ble_eq_true rfl, Nat.le_of_ble_eq_true rfl⟩ ⟨rfl, rfl⟩ (cg_ok3 k_40) rfl (Nat.le_of_ble_eq_true rfl) rfl hl.1 hP hD hS dL_law_978 (fun H locs hP hD hS => ?_)
      refine W.widen (k := 250 + 3 * (g + 1)) (n := 49235 + 30 * (g + 1)) (by omega) (by omega) ?_
      have hg := k_40
      refine lv_if_ne (tgt := 986) hx hb dL_law_981 (by decide) (fun c_41 => ?_) (fun c_41 => ?_)
      · replace h := ite_f h c_41
        obtain ⟨v_42, ev_42⟩ : ∃ y : Int32, y = (x9 + (1 : Int32)) := ⟨_, rfl⟩
        replace h := bnd_at h ev_42
        refine lv_iinc (v := v_42) (lv' := [(9, .int v_42), (0, .ref b), (1, .ref a1), (2, .int x2), (3, .int x3), (5, .int x5)]) hx hb dL_law_986 hl (k := 5) rfl (by rw [ev_42]; rfl) (by decide) rfl (fun ls hl => ?_)
        refine lv_goto (tgt := 953) hx hb dL_law_989 (by decide) ?_
        exact hj953 _ _ _ _ _ _ _ _ _ h hg hP hD hS _ (lv_sub hl [1, 2, 3, 4, 5, 0] rfl)
      · replace h := ite_t h c_41
        refine lv_iconst (v := 0) hx hb dL_law_984 (by decide) ?_
        exact absurd (show some (0 : Int32) = some 1 from congrArg (Option.map Prod.fst) h) (by decide)
theorem bt_L_law_953 {p : Program} {l : Launch} {e : Env} {s : State} {m : MethodId} {below : List Frame} {meth : Method} {c : Code} {D : va_G} {cy : Cy} {T : Ty} {R9 : Rm} {M9 : Mm} {b L : Nat} {xs : Nat → Int32} {a1 : Nat} {j992 : Int32 → Int32 → Nat → Mm → Rm → Option (Int32 × Mm × Rm)} (C : Cx RL cL_law 15 ret p s m #[Value.ref b] meth c D cy (fun q : Nat => s.heap.size ≤ q)) (hX : va_X b L xs s s.heap) (hbl : b < s.heap.size) (hbA : ¬ (fun q : Nat => s.heap.size ≤ q) b)
    (hj992 : ∀ (x2 : Int32) (x3 : Int32) (g : Nat) (M : Mm) (R : Rm) (H : Heap) (locs : List Loc), j992 x2 x3 g M R = some (1, M9, R9) → g ≤ 1000 → va_P D vwCl (WL cy T M R) H → va_D (fun q : Nat => s.heap.size ≤ q) (WL cy T M R) → va_S (fun q : Nat => s.heap.size ≤ q) s.heap H locs → ∀ ls : Array Slot, lv_has ls 15 [(0, .ref b), (1, .ref a1), (2, .int x2), (3, .int x3)] → W p l e room_1 s m #[Value.ref b] below meth c H locs (250 + 3 * g) (49235 + 30 * g) (lw_Z below #[Value.ref b] s) (F0 m 992 ls [])) :
    ∀ n : Nat, ∀ (x2 : Int32) (x3 : Int32) (x5 : Int32) (x9 : Int32) (g : Nat) (M : Mm) (R : Rm) (H : Heap) (locs : List Loc), fb_L_law_953 T L xs a1 j992 n x2 x3 x5 x9 g M R = some (1, M9, R9) → g ≤ 1000 → va_P D vwCl (WL cy T M R) H → va_D (fun q : Nat => s.heap.size ≤ q) (WL cy T M R) → va_S (fun q : Nat => s.heap.size ≤ q) s.heap H locs → ∀ ls : Array Slot, lv_has ls 15 [(0, .ref b), (1, .ref a1), (2, .int x2), (3, .int x3), (5, .int x5), (9, .int x9)] → W p l e room_1 s m #[Value.ref b] below meth c H locs (250 + 3 * g) (49235 + 30 * g) (lw_Z below #[Value.ref b] s) (F0 m 953 ls []) := by
  intro n
  induction n with
  | zero =>
    intro _ _ _ _ _ _ _ H locs h
    exact absurd (show (none : Option (Int32 × Mm × Rm)) = some _ from h) (by simp)
  | succ n ih => exact fun u0 u1 u2 u3 u4 u5 u6 H locs h => bs_L_law_953 (a1 := a1) C hX hbl hbA ih hj992 u0 u1 u2 u3 u4 u5 u6 H locs h
set_option maxHeartbeats 8000000 in
set_option maxRecDepth 100000 in
theorem bs_L_law_938 {p : Program} {l : Launch} {e : Env} {s : State} {m : MethodId} {below : List Frame} {meth : Method} {c : Code} {D : va_G} {cy : Cy} {T : Ty} {R9 : Rm} {M9 : Mm} {b L : Nat} {xs : Nat → Int32} {a1 : Nat} {j78 : Int32 → Int32 → Nat → Mm → Rm → Option (Int32 × Mm × Rm)} (C : Cx RL cL_law 15 ret p s m #[Value.ref b] meth c D cy (fun q : Nat => s.heap.size ≤ q)) (hX : va_X b L xs s s.heap) (hbl : b < s.heap.size) (hbA : ¬ (fun q : Nat => s.heap.size ≤ q) b)
    (hj78 : ∀ (x2 : Int32) (x3 : Int32) (g : Nat) (M : Mm) (R : Rm) (H : Heap) (locs : List Loc), j78 x2 x3 g M R = some (1, M9, R9) → g ≤ 1000 → va_P D vwCl (WL cy T M R) H → va_D (fun q : Nat => s.heap.size ≤ q) (WL cy T M R) → va_S (fun q : Nat => s.heap.size ≤ q) s.heap H locs → ∀ ls : Array Slot, lv_has ls 15 [(0, .ref b), (1, .ref a1), (2, .int x2), (3, .int x3)] → W p l e room_1 s m #[Value.ref b] below meth c H locs (250 + 3 * g) (49235 + 30 * g) (lw_Z below #[Value.ref b] s) (F0 m 78 ls [])) :
    ∀ (x2 : Int32) (x3 : Int32) (x5 : Int32) (x6 : Int32) (x7 : Int32) (g : Nat) (M : Mm) (R : Rm) (H : Heap) (locs : List Loc), fs_L_law_938 T L xs a1 j78 x2 x3 x5 x6 x7 g M R = some (1, M9, R9) → g ≤ 1000 → va_P D vwCl (WL cy T M R) H → va_D (fun q : Nat => s.heap.size ≤ q) (WL cy T M R) → va_S (fun q : Nat => s.heap.size ≤ q) s.heap H locs → ∀ ls : Array Slot, lv_has ls 15 [(0, .ref b), (1, .ref a1), (2, .int x2), (3, .int x3), (5, .int x5), (6, .int x6), (7, .int x7)] → W p l e room_1 s m #[Value.ref b] below meth c H locs (250 + 3 * g) (49235 + 30 * g) (lw_Z below #[Value.ref b] s) (F0 m 938 ls []) := by
  intro x2 x3 x5 x6 x7 g M R H locs h hg hP hD hS ls hl
  unfold fs_L_law_938 at h
  obtain ⟨hx, hb, hr, hml, hown, hts, hK, hA, hlk, hSt⟩ := id C
  refine lv_iload hx hb dL_law_938 (lv_at hl 6 rfl) ?_
  refine lv_bipush (v := 12) hx hb dL_law_940 (by decide) ?_
  refine lv_icmp_ge (tgt := 995) hx hb dL_law_942 (by decide) (fun c_43 => ?_) (fun c_43 => ?_)
  · replace h := ite_t h c_43
    exact (bs_L_law_995 C hX hbl hbA hj78) _ _ _ _ _ _ _ _ _ _ h hg hP hD hS _ (lv_sub hl [0, 1, 2, 3, 4, 5, 6] rfl)
  · replace h := ite_f h c_43
    refine lv_iload hx hb dL_law_945 (lv_at hl 5 rfl) ?_
    refine lv_if_le (tgt := 995) hx hb dL_law_947 (by decide) (fun c_44 => ?_) (fun c_44 => ?_)
    · replace h := ite_t h c_44
      exact (bs_L_law_995 C hX hbl hbA hj78) _ _ _ _ _ _ _ _ _ _ h hg hP hD hS _ (lv_sub hl [0, 1, 2, 3, 4, 5, 6] rfl)
    · replace h := ite_f h c_44
      refine lv_iconst (v := 0) hx hb dL_law_950 (by decide) ?_
      refine lv_istore (lv' := [(9, .int (0 : Int32)), (0, .ref b), (1, .ref a1), (2, .int x2), (3, .int x3), (5, .int x5), (6, .int x6), (7, .int x7)]) hx hb dL_law_951 hl (by decide) rfl (fun ls hl => ?_)
      exact (bt_L_law_953 C hX hbl hbA (bs_L_law_992 C hX hbl hbA hj78) FU) _ _ _ _ _ _ _ _ _ h hg hP hD hS _ (lv_sub hl [1, 2, 3, 4, 5, 0] rfl)
set_option maxHeartbeats 8000000 in
set_option maxRecDepth 100000 in
theorem bs_L_law_935 {p : Program} {l : Launch} {e : Env} {s : State} {m : MethodId} {below : List Frame} {meth : Method} {c : Code} {D : va_G} {cy : Cy} {T : Ty} {R9 : Rm} {M9 : Mm} {b L : Nat} {xs : Nat → Int32} {a1 : Nat} {j78 : Int32 → Int32 → Nat → Mm → Rm → Option (Int32 × Mm × Rm)} (C : Cx RL cL_law 15 ret p s m #[Value.ref b] meth c D cy (fun q : Nat => s.heap.size ≤ q)) (hX : va_X b L xs s s.heap) (hbl : b < s.heap.size) (hbA : ¬ (fun q : Nat => s.heap.size ≤ q) b)
    (hj78 : ∀ (x2 : Int32) (x3 : Int32) (g : Nat) (M : Mm) (R : Rm) (H : Heap) (locs : List Loc), j78 x2 x3 g M R = some (1, M9, R9) → g ≤ 1000 → va_P D vwCl (WL cy T M R) H → va_D (fun q : Nat => s.heap.size ≤ q) (WL cy T M R) → va_S (fun q : Nat => s.heap.size ≤ q) s.heap H locs → ∀ ls : Array Slot, lv_has ls 15 [(0, .ref b), (1, .ref a1), (2, .int x2), (3, .int x3)] → W p l e room_1 s m #[Value.ref b] below meth c H locs (250 + 3 * g) (49235 + 30 * g) (lw_Z below #[Value.ref b] s) (F0 m 78 ls [])) :
    ∀ (x2 : Int32) (x3 : Int32) (g : Nat) (M : Mm) (R : Rm) (H : Heap) (locs : List Loc), fs_L_law_935 T L xs a1 j78 x2 x3 g M R = some (1, M9, R9) → g ≤ 1000 → va_P D vwCl (WL cy T M R) H → va_D (fun q : Nat => s.heap.size ≤ q) (WL cy T M R) → va_S (fun q : Nat => s.heap.size ≤ q) s.heap H locs → ∀ ls : Array Slot, lv_has ls 15 [(0, .ref b), (1, .ref a1), (2, .int x2), (3, .int x3)] → W p l e room_1 s m #[Value.ref b] below meth c H locs (250 + 3 * g) (49235 + 30 * g) (lw_Z below #[Value.ref b] s) (F0 m 935 ls []) := by
  intro x2 x3 g M R H locs h hg hP hD hS ls hl
  unfold fs_L_law_935 at h
  obtain ⟨hx, hb, hr, hml, hown, hts, hK, hA, hlk, hSt⟩ := id C
  refine lv_goto (tgt := 1051) hx hb dL_law_935 (by decide) ?_
  exact (bs_L_law_1051 C hX hbl hbA hj78) _ _ _ _ _ _ _ h hg hP hD hS _ (lv_sub hl [0, 1, 2, 3] rfl)
set_option maxHeartbeats 8000000 in
set_option maxRecDepth 100000 in
theorem bs_L_law_887 {p : Program} {l : Launch} {e : Env} {s : State} {m : MethodId} {below : List Frame} {meth : Method} {c : Code} {D : va_G} {cy : Cy} {T : Ty} {R9 : Rm} {M9 : Mm} {b L : Nat} {xs : Nat → Int32} {a1 : Nat} {j78 : Int32 → Int32 → Nat → Mm → Rm → Option (Int32 × Mm × Rm)} (C : Cx RL cL_law 15 ret p s m #[Value.ref b] meth c D cy (fun q : Nat => s.heap.size ≤ q)) (hX : va_X b L xs s s.heap) (hbl : b < s.heap.size) (hbA : ¬ (fun q : Nat => s.heap.size ≤ q) b)
    (hj78 : ∀ (x2 : Int32) (x3 : Int32) (g : Nat) (M : Mm) (R : Rm) (H : Heap) (locs : List Loc), j78 x2 x3 g M R = some (1, M9, R9) → g ≤ 1000 → va_P D vwCl (WL cy T M R) H → va_D (fun q : Nat => s.heap.size ≤ q) (WL cy T M R) → va_S (fun q : Nat => s.heap.size ≤ q) s.heap H locs → ∀ ls : Array Slot, lv_has ls 15 [(0, .ref b), (1, .ref a1), (2, .int x2), (3, .int x3)] → W p l e room_1 s m #[Value.ref b] below meth c H locs (250 + 3 * g) (49235 + 30 * g) (lw_Z below #[Value.ref b] s) (F0 m 78 ls [])) :
    ∀ (x2 : Int32) (x3 : Int32) (x9 : Int32) (x10 : Int32) (x11 : Int32) (g : Nat) (s0 : Int32) (M : Mm) (R : Rm) (H : Heap) (locs : List Loc), fs_L_law_887 T L xs a1 j78 x2 x3 x9 x10 x11 g s0 M R = some (1, M9, R9) → g ≤ 1000 → va_P D vwCl (WL cy T M R) H → va_D (fun q : Nat => s.heap.size ≤ q) (WL cy T M R) → va_S (fun q : Nat => s.heap.size ≤ q) s.heap H locs → ∀ ls : Array Slot, lv_has ls 15 [(0, .ref b), (1, .ref a1), (2, .int x2), (3, .int x3), (9, .int x9), (10, .int x10), (11, .int x11)] → W p l e room_1 s m #[Value.ref b] below meth c H locs (250 + 3 * g) (49235 + 30 * g) (lw_Z below #[Value.ref b] s) (F0 m 887 ls [.int s0]) := by
  intro x2 x3 x9 x10 x11 g s0 M R H locs h hg hP hD hS ls hl
  unfold fs_L_law_887 at h
  obtain ⟨hx, hb, hr, hml, hown, hts, hK, hA, hlk, hSt⟩ := id C
  refine lv_istore (lv' := [(12, .int s0), (0, .ref b), (1, .ref a1), (2, .int x2), (3, .int x3), (9, .int x9), (10, .int x10), (11, .int x11)]) hx hb dL_law_887 hl (by decide) rfl (fun ls hl => ?_)
  refine lv_aload_n hx hb dL_law_889 rfl (lv_at hl 2 rfl) ?_
  refine lv_iload hx hb dL_law_890 (lv_at hl 6 rfl) ?_
  obtain ⟨k_45, h⟩ := chk_some h
  obtain ⟨r_46, M_47, R_49, hc_48, h⟩ := calR_some h
  refine cl_Vi (As := [.int x10]) (rest := []) C (ct_X6_pull hc_48) k_45 (by decide) rfl wl_327 wl_328 wl_329 wl_2 wl_330 hd_X6_pull ⟨Nat.le_of_ble_eq_true rfl, Nat.le_of_ble_eq_true rfl⟩ ⟨rfl, rfl⟩ (cg_ok hg) rfl (Nat.le_of_ble_eq_true rfl) rfl hl.1 hP hD hS dL_law_892 (fun H locs hP hD hS => ?_)
  refine lv_iload hx hb dL_law_895 (lv_at hl 7 rfl) ?_
  refine lv_icmp_ne (tgt := 933) hx hb dL_law_897 (by decide) (fun c_50 => ?_) (fun c_50 => ?_)
  · replace h := ite_f h c_50
    refine lv_iconst (v := 0) hx hb dL_law_933 (by decide) ?_
    exact absurd (show some (0 : Int32) = some 1 from congrArg (Option.map Prod.fst) h) (by decide)
  · replace h := ite_t h c_50
    refine lv_aload_n hx hb dL_law_900 rfl (lv_at hl 2 rfl) ?_
    refine lv_iconst (v := 2) hx hb dL_law_901 (by decide) ?_
    obtain ⟨r_51, M_52, hc_53, h⟩ := cal_some h
    refine cl_Vi (As := [.int (2 : Int32)]) (rest := []) C (ct_X6_count hc_53) k_45 (by decide) rfl wl_103 wl_104 wl_105 wl_2 wl_106 hd_X6_count ⟨Nat.le_of_ble_eq_true rfl, Nat.le_of_ble_eq_true rfl⟩ ⟨rfl, rfl⟩ (cg_ok hg) rfl (Nat.le_of_ble_eq_true rfl) rfl hl.1 hP hD hS dL_law_902 (fun H locs hP hD hS => ?_)
    refine lv_iload hx hb dL_law_905 (lv_at hl 5 rfl) ?_
    refine lv_iconst (v := 1) hx hb dL_law_907 (by decide) ?_
    refine lv_isub hx hb dL_law_908 ?_
    refine lv_icmp_ne (tgt := 933) hx hb dL_law_909 (by decide) (fun c_54 => ?_) (fun c_54 => ?_)
    · replace h := ite_f h c_54
      refine lv_iconst (v := 0) hx hb dL_law_933 (by decide) ?_
      exact absurd (show some (0 : Int32) = some 1 from congrArg (Option.map Prod.fst) h) (by decide)
    · replace h := ite_t h c_54
      refine lv_iload hx hb dL_law_912 (lv_at hl 6 rfl) ?_
      refine lv_iconst (v := 1) hx hb dL_law_914 (by decide) ?_
      refine lv_iadd hx hb dL_law_915 ?_
      refine lv_iload hx hb dL_law_916 (lv_at hl 5 rfl) ?_
      refine lv_icmp_ge (tgt := 935) hx hb dL_law_918 (by decide) (fun c_55 => ?_) (fun c_55 => ?_)
      · replace h := ite_t h c_55
        exact (bs_L_law_935 C hX hbl hbA hj78) _ _ _ _ _ _ _ h hg hP hD hS _ (lv_sub hl [1, 2, 3, 4] rfl)
      · replace h := ite_f h c_55
        refine lv_aload_n hx hb dL_law_921 rfl (lv_at hl 2 rfl) ?_
        refine lv_iload hx hb dL_law_922 (lv_at hl 6 rfl) ?_
        refine lv_iconst (v := 2) hx hb dL_law_924 (by decide) ?_
        obtain ⟨r_56, M_57, hc_58, h⟩ := cal_some h
        refine cl_Vi (As := [.int x10, .int (2 : Int32)]) (rest := []) C (ct_X6_stakeInfo hc_58) k_45 (by decide) rfl wl_340 wl_341 wl_342 wl_2 wl_343 hd_X6_stakeInfo ⟨Nat.le_of_ble_eq_true rfl, Nat.le_of_ble_eq_true rfl⟩ ⟨rfl, rfl⟩ (cg_ok hg) rfl (Nat.le_of_ble_eq_true rfl) rfl hl.1 hP hD hS dL_law_925 (fun H locs hP hD hS => ?_)
        refine lv_iload hx hb dL_law_928 (lv_at hl 0 rfl) ?_
        refine lv_icmp_eq (tgt := 935) hx hb dL_law_930 (by decide) (fun c_59 => ?_) (fun c_59 => ?_)
        · replace h := ite_t h c_59
          exact (bs_L_law_935 C hX hbl hbA hj78) _ _ _ _ _ _ _ h hg hP hD hS _ (lv_sub hl [1, 2, 3, 4] rfl)
        · replace h := ite_f h c_59
          refine lv_iconst (v := 0) hx hb dL_law_933 (by decide) ?_
          exact absurd (show some (0 : Int32) = some 1 from congrArg (Option.map Prod.fst) h) (by decide)
set_option maxHeartbeats 8000000 in
set_option maxRecDepth 100000 in
theorem bs_L_law_815 {p : Program} {l : Launch} {e : Env} {s : State} {m : MethodId} {below : List Frame} {meth : Method} {c : Code} {D : va_G} {cy : Cy} {T : Ty} {R9 : Rm} {M9 : Mm} {b L : Nat} {xs : Nat → Int32} {a1 : Nat} {j78 : Int32 → Int32 → Nat → Mm → Rm → Option (Int32 × Mm × Rm)} (C : Cx RL cL_law 15 ret p s m #[Value.ref b] meth c D cy (fun q : Nat => s.heap.size ≤ q)) (hX : va_X b L xs s s.heap) (hbl : b < s.heap.size) (hbA : ¬ (fun q : Nat => s.heap.size ≤ q) b)
    (hj78 : ∀ (x2 : Int32) (x3 : Int32) (g : Nat) (M : Mm) (R : Rm) (H : Heap) (locs : List Loc), j78 x2 x3 g M R = some (1, M9, R9) → g ≤ 1000 → va_P D vwCl (WL cy T M R) H → va_D (fun q : Nat => s.heap.size ≤ q) (WL cy T M R) → va_S (fun q : Nat => s.heap.size ≤ q) s.heap H locs → ∀ ls : Array Slot, lv_has ls 15 [(0, .ref b), (1, .ref a1), (2, .int x2), (3, .int x3)] → W p l e room_1 s m #[Value.ref b] below meth c H locs (250 + 3 * g) (49235 + 30 * g) (lw_Z below #[Value.ref b] s) (F0 m 78 ls [])) :
    ∀ (x2 : Int32) (x3 : Int32) (x5 : Int32) (x6 : Int32) (x7 : Int32) (g : Nat) (M : Mm) (R : Rm) (H : Heap) (locs : List Loc), fs_L_law_815 T L xs a1 j78 x2 x3 x5 x6 x7 g M R = some (1, M9, R9) → g ≤ 1000 → va_P D vwCl (WL cy T M R) H → va_D (fun q : Nat => s.heap.size ≤ q) (WL cy T M R) → va_S (fun q : Nat => s.heap.size ≤ q) s.heap H locs → ∀ ls : Array Slot, lv_has ls 15 [(0, .ref b), (1, .ref a1), (2, .int x2), (3, .int x3), (5, .int x5), (6, .int x6), (7, .int x7)] → W p l e room_1 s m #[Value.ref b] below meth c H locs (250 + 3 * g) (49235 + 30 * g) (lw_Z below #[Value.ref b] s) (F0 m 815 ls []) := by
  intro x2 x3 x5 x6 x7 g M R H locs h hg hP hD hS ls hl
  unfold fs_L_law_815 at h
  obtain ⟨hx, hb, hr, hml, hown, hts, hK, hA, hlk, hSt⟩ := id C
  refine lv_iload hx hb dL_law_815 (lv_at hl 6 rfl) ?_
  refine lv_iconst (v := 5) hx hb dL_law_817 (by decide) ?_
  refine lv_icmp_ne (tgt := 938) hx hb dL_law_818 (by decide) (fun c_60 => ?_) (fun c_60 => ?_)
  · replace h := ite_f h c_60
    exact (bs_L_law_938 C hX hbl hbA hj78) _ _ _ _ _ _ _ _ _ _ h hg hP hD hS _ (lv_sub hl [0, 1, 2, 3, 4, 5, 6] rfl)
  · replace h := ite_t h c_60
    refine lv_aload_n hx hb dL_law_821 rfl (lv_at hl 1 rfl) ?_
    refine lv_iconst (v := 2) hx hb dL_law_822 (by decide) ?_
    obtain ⟨k_61, h⟩ := chk_some h
    obtain ⟨r_62, M_63, hc_64, h⟩ := cal_some h
    refine cl_Vi (As := [.int (2 : Int32)]) (rest := []) C (ct_X6_count hc_64) k_61 (by decide) rfl wl_103 wl_104 wl_105 wl_2 wl_106 hd_X6_count ⟨Nat.le_of_ble_eq_true rfl, Nat.le_of_ble_eq_true rfl⟩ ⟨rfl, rfl⟩ (cg_ok hg) rfl (Nat.le_of_ble_eq_true rfl) rfl hl.1 hP hD hS dL_law_823 (fun H locs hP hD hS => ?_)
    refine lv_if_le (tgt := 938) hx hb dL_law_826 (by decide) (fun c_65 => ?_) (fun c_65 => ?_)
    · replace h := ite_t h c_65
      exact (bs_L_law_938 C hX hbl hbA hj78) _ _ _ _ _ _ _ _ _ _ h hg hP hD hS _ (lv_sub hl [0, 1, 2, 3, 4, 5, 6] rfl)
    · replace h := ite_f h c_65
      refine lv_iload hx hb dL_law_829 (lv_at hl 4 rfl) ?_
      refine lv_iconst (v := 3) hx hb dL_law_831 (by decide) ?_
      obtain ⟨r_66, M_67, hc_68, h⟩ := cal_some h
      refine cl_Si (As := [.int x5, .int (3 : Int32)]) (rest := []) C (ct_L_low hc_68) wl_515 wl_516 wl_98 wl_517 hd_L_low ⟨Nat.le_of_ble_eq_true rfl, Nat.le_of_ble_eq_true rfl⟩ ⟨rfl, rfl⟩ (cg_ok hg) rfl (Nat.le_of_ble_eq_true rfl) rfl hl.1 hP hD hS dL_law_832 (fun H locs hP hD hS => ?_)
      refine lv_if_ne (tgt := 938) hx hb dL_law_835 (by decide) (fun c_69 => ?_) (fun c_69 => ?_)
      · replace h := ite_f h c_69
        exact (bs_L_law_938 C hX hbl hbA hj78) _ _ _ _ _ _ _ _ _ _ h hg hP hD hS _ (lv_sub hl [0, 1, 2, 3, 4, 5, 6] rfl)
      · replace h := ite_t h c_69
        refine lv_aload_n hx hb dL_law_838 rfl (lv_at hl 1 rfl) ?_
        refine lv_iconst (v := 2) hx hb dL_law_839 (by decide) ?_
        obtain ⟨r_70, M_71, hc_72, h⟩ := cal_some h
        refine cl_Vi (As := [.int (2 : Int32)]) (rest := []) C (ct_X6_count hc_72) k_61 (by decide) rfl wl_103 wl_104 wl_105 wl_2 wl_106 hd_X6_count ⟨Nat.le_of_ble_eq_true rfl, Nat.le_of_ble_eq_true rfl⟩ ⟨rfl, rfl⟩ (cg_ok hg) rfl (Nat.le_of_ble_eq_true rfl) rfl hl.1 hP hD hS dL_law_840 (fun H locs hP hD hS => ?_)
        refine lv_istore (lv' := [(9, .int r_70), (0, .ref b), (1, .ref a1), (2, .int x2), (3, .int x3), (5, .int x5), (6, .int x6), (7, .int x7)]) hx hb dL_law_843 hl (by decide) rfl (fun ls hl => ?_)
        refine lv_iload hx hb dL_law_845 (lv_at hl 5 rfl) ?_
        refine lv_iconst (v := 2) hx hb dL_law_847 (by decide) ?_
        refine lv_ishr hx hb dL_law_848 ?_
        refine lv_iload hx hb dL_law_849 (lv_at hl 0 rfl) ?_
        obtain ⟨r_73, M_74, hc_75, h⟩ := cal_some h
        refine cl_Si (As := [.int (x5 >>> ((2 : Int32) &&& 31)), .int r_70]) (rest := []) C (ct_L_low hc_75) wl_515 wl_516 wl_98 wl_517 hd_L_low ⟨Nat.le_of_ble_eq_true rfl, Nat.le_of_ble_eq_true rfl⟩ ⟨rfl, rfl⟩ (cg_ok hg) rfl (Nat.le_of_ble_eq_true rfl) rfl hl.1 hP hD hS dL_law_851 (fun H locs hP hD hS => ?_)
        refine lv_istore (lv' := [(10, .int r_73), (9, .int r_70), (0, .ref b), (1, .ref a1), (2, .int x2), (3, .int x3), (5, .int x5), (6, .int x6), (7, .int x7)]) hx hb dL_law_854 hl (by decide) rfl (fun ls hl => ?_)
        refine lv_aload_n hx hb dL_law_856 rfl (lv_at hl 3 rfl) ?_
        refine lv_iload hx hb dL_law_857 (lv_at hl 0 rfl) ?_
        refine lv_iconst (v := 3) hx hb dL_law_859 (by decide) ?_
        obtain ⟨r_76, M_77, hc_78, h⟩ := cal_some h
        refine cl_Vi (As := [.int r_73, .int (3 : Int32)]) (rest := []) C (ct_X6_stakeInfo hc_78) k_61 (by decide) rfl wl_340 wl_341 wl_342 wl_2 wl_343 hd_X6_stakeInfo ⟨Nat.le_of_ble_eq_true rfl, Nat.le_of_ble_eq_true rfl⟩ ⟨rfl, rfl⟩ (cg_ok hg) rfl (Nat.le_of_ble_eq_true rfl) rfl hl.1 hP hD hS dL_law_860 (fun H locs hP hD hS => ?_)
        refine lv_istore (lv' := [(11, .int r_76), (10, .int r_73), (9, .int r_70), (0, .ref b), (1, .ref a1), (2, .int x2), (3, .int x3), (5, .int x5), (6, .int x6), (7, .int x7)]) hx hb dL_law_863 hl (by decide) rfl (fun ls hl => ?_)
        refine lv_iload hx hb dL_law_865 (lv_at hl 1 rfl) ?_
        refine lv_iconst (v := 1) hx hb dL_law_867 (by decide) ?_
        refine lv_iadd hx hb dL_law_868 ?_
        refine lv_iload hx hb dL_law_869 (lv_at hl 2 rfl) ?_
        refine lv_icmp_ge (tgt := 886) hx hb dL_law_871 (by decide) (fun c_79 => ?_) (fun c_79 => ?_)
        · replace h := ite_t h c_79
          refine lv_iconst (v := 0) hx hb dL_law_886 (by decide) ?_
          exact (bs_L_law_887 C hX hbl hbA hj78) _ _ _ _ _ _ _ _ _ _ _ h hg hP hD hS _ (lv_sub hl [3, 4, 5, 6, 2, 1, 0] rfl)
        · replace h := ite_f h c_79
          refine lv_aload_n hx hb dL_law_874 rfl (lv_at hl 4 rfl) ?_
          refine lv_iload hx hb dL_law_875 (lv_at hl 1 rfl) ?_
          refine lv_iconst (v := 1) hx hb dL_law_877 (by decide) ?_
          refine lv_iadd hx hb dL_law_878 ?_
          refine lv_iconst (v := 2) hx hb dL_law_879 (by decide) ?_
          obtain ⟨r_80, M_81, hc_82, h⟩ := cal_some h
          refine cl_Vi (As := [.int (r_73 + (1 : Int32)), .int (2 : Int32)]) (rest := []) C (ct_X6_stakeInfo hc_82) k_61 (by decide) rfl wl_340 wl_341 wl_342 wl_2 wl_343 hd_X6_stakeInfo ⟨Nat.le_of_ble_eq_true rfl, Nat.le_of_ble_eq_true rfl⟩ ⟨rfl, rfl⟩ (cg_ok hg) rfl (Nat.le_of_ble_eq_true rfl) rfl hl.1 hP hD hS dL_law_880 (fun H locs hP hD hS => ?_)
          refine lv_goto (tgt := 887) hx hb dL_law_883 (by decide) ?_
          exact (bs_L_law_887 C hX hbl hbA hj78) _ _ _ _ _ _ _ _ _ _ _ h hg hP hD hS _ (lv_sub hl [3, 4, 5, 6, 2, 1, 0] rfl)
set_option maxHeartbeats 8000000 in
set_option maxRecDepth 100000 in
theorem bs_L_law_812 {p : Program} {l : Launch} {e : Env} {s : State} {m : MethodId} {below : List Frame} {meth : Method} {c : Code} {D : va_G} {cy : Cy} {T : Ty} {R9 : Rm} {M9 : Mm} {b L : Nat} {xs : Nat → Int32} {a1 : Nat} {j78 : Int32 → Int32 → Nat → Mm → Rm → Option (Int32 × Mm × Rm)} (C : Cx RL cL_law 15 ret p s m #[Value.ref b] meth c D cy (fun q : Nat => s.heap.size ≤ q)) (hX : va_X b L xs s s.heap) (hbl : b < s.heap.size) (hbA : ¬ (fun q : Nat => s.heap.size ≤ q) b)
    (hj78 : ∀ (x2 : Int32) (x3 : Int32) (g : Nat) (M : Mm) (R : Rm) (H : Heap) (locs : List Loc), j78 x2 x3 g M R = some (1, M9, R9) → g ≤ 1000 → va_P D vwCl (WL cy T M R) H → va_D (fun q : Nat => s.heap.size ≤ q) (WL cy T M R) → va_S (fun q : Nat => s.heap.size ≤ q) s.heap H locs → ∀ ls : Array Slot, lv_has ls 15 [(0, .ref b), (1, .ref a1), (2, .int x2), (3, .int x3)] → W p l e room_1 s m #[Value.ref b] below meth c H locs (250 + 3 * g) (49235 + 30 * g) (lw_Z below #[Value.ref b] s) (F0 m 78 ls [])) :
    ∀ (x2 : Int32) (x3 : Int32) (g : Nat) (M : Mm) (R : Rm) (H : Heap) (locs : List Loc), fs_L_law_812 T L xs a1 j78 x2 x3 g M R = some (1, M9, R9) → g ≤ 1000 → va_P D vwCl (WL cy T M R) H → va_D (fun q : Nat => s.heap.size ≤ q) (WL cy T M R) → va_S (fun q : Nat => s.heap.size ≤ q) s.heap H locs → ∀ ls : Array Slot, lv_has ls 15 [(0, .ref b), (1, .ref a1), (2, .int x2), (3, .int x3)] → W p l e room_1 s m #[Value.ref b] below meth c H locs (250 + 3 * g) (49235 + 30 * g) (lw_Z below #[Value.ref b] s) (F0 m 812 ls []) := by
  intro x2 x3 g M R H locs h hg hP hD hS ls hl
  unfold fs_L_law_812 at h
  obtain ⟨hx, hb, hr, hml, hown, hts, hK, hA, hlk, hSt⟩ := id C
  refine lv_goto (tgt := 1051) hx hb dL_law_812 (by decide) ?_
  exact (bs_L_law_1051 C hX hbl hbA hj78) _ _ _ _ _ _ _ h hg hP hD hS _ (lv_sub hl [0, 1, 2, 3] rfl)
set_option maxHeartbeats 8000000 in
set_option maxRecDepth 100000 in
theorem bs_L_law_722 {p : Program} {l : Launch} {e : Env} {s : State} {m : MethodId} {below : List Frame} {meth : Method} {c : Code} {D : va_G} {cy : Cy} {T : Ty} {R9 : Rm} {M9 : Mm} {b L : Nat} {xs : Nat → Int32} {a1 : Nat} {j78 : Int32 → Int32 → Nat → Mm → Rm → Option (Int32 × Mm × Rm)} (C : Cx RL cL_law 15 ret p s m #[Value.ref b] meth c D cy (fun q : Nat => s.heap.size ≤ q)) (hX : va_X b L xs s s.heap) (hbl : b < s.heap.size) (hbA : ¬ (fun q : Nat => s.heap.size ≤ q) b)
    (hj78 : ∀ (x2 : Int32) (x3 : Int32) (g : Nat) (M : Mm) (R : Rm) (H : Heap) (locs : List Loc), j78 x2 x3 g M R = some (1, M9, R9) → g ≤ 1000 → va_P D vwCl (WL cy T M R) H → va_D (fun q : Nat => s.heap.size ≤ q) (WL cy T M R) → va_S (fun q : Nat => s.heap.size ≤ q) s.heap H locs → ∀ ls : Array Slot, lv_has ls 15 [(0, .ref b), (1, .ref a1), (2, .int x2), (3, .int x3)] → W p l e room_1 s m #[Value.ref b] below meth c H locs (250 + 3 * g) (49235 + 30 * g) (lw_Z below #[Value.ref b] s) (F0 m 78 ls [])) :
    ∀ (x2 : Int32) (x3 : Int32) (x5 : Int32) (x6 : Int32) (x7 : Int32) (x8 : Int32) (g : Nat) (M : Mm) (R : Rm) (H : Heap) (locs : List Loc), fs_L_law_722 T L xs a1 j78 x2 x3 x5 x6 x7 x8 g M R = some (1, M9, R9) → g ≤ 1000 → va_P D vwCl (WL cy T M R) H → va_D (fun q : Nat => s.heap.size ≤ q) (WL cy T M R) → va_S (fun q : Nat => s.heap.size ≤ q) s.heap H locs → ∀ ls : Array Slot, lv_has ls 15 [(0, .ref b), (1, .ref a1), (2, .int x2), (3, .int x3), (5, .int x5), (6, .int x6), (7, .int x7), (8, .int x8)] → W p l e room_1 s m #[Value.ref b] below meth c H locs (250 + 3 * g) (49235 + 30 * g) (lw_Z below #[Value.ref b] s) (F0 m 722 ls []) := by
  intro x2 x3 x5 x6 x7 x8 g M R H locs h hg hP hD hS ls hl
  unfold fs_L_law_722 at h
  obtain ⟨hx, hb, hr, hml, hown, hts, hK, hA, hlk, hSt⟩ := id C
  refine lv_iload hx hb dL_law_722 (lv_at hl 6 rfl) ?_
  refine lv_iconst (v := 4) hx hb dL_law_724 (by decide) ?_
  refine lv_icmp_ne (tgt := 815) hx hb dL_law_725 (by decide) (fun c_83 => ?_) (fun c_83 => ?_)
  · replace h := ite_f h c_83
    exact (bs_L_law_815 C hX hbl hbA hj78) _ _ _ _ _ _ _ _ _ _ h hg hP hD hS _ (lv_sub hl [0, 1, 2, 3, 4, 5, 6] rfl)
  · replace h := ite_t h c_83
    refine lv_iload hx hb dL_law_728 (lv_at hl 5 rfl) ?_
    refine lv_if_le (tgt := 815) hx hb dL_law_730 (by decide) (fun c_84 => ?_) (fun c_84 => ?_)
    · replace h := ite_t h c_84
      exact (bs_L_law_815 C hX hbl hbA hj78) _ _ _ _ _ _ _ _ _ _ h hg hP hD hS _ (lv_sub hl [0, 1, 2, 3, 4, 5, 6] rfl)
    · replace h := ite_f h c_84
      refine lv_aload_n hx hb dL_law_733 rfl (lv_at hl 1 rfl) ?_
      refine lv_iload hx hb dL_law_734 (lv_at hl 7 rfl) ?_
      refine lv_iconst (v := 2) hx hb dL_law_736 (by decide) ?_
      obtain ⟨k_85, h⟩ := chk_some h
      obtain ⟨r_86, M_87, hc_88, h⟩ := cal_some h
      refine cl_Vi (As := [.int x8, .int (2 : Int32)]) (rest := []) C (ct_X6_bandInfo hc_88) k_85 (by decide) rfl wl_235 wl_236 wl_237 wl_2 wl_238 hd_X6_bandInfo ⟨Nat.le_of_ble_eq_true rfl, Nat.le_of_ble_eq_true rfl⟩ ⟨rfl, rfl⟩ (cg_ok hg) rfl (Nat.le_of_ble_eq_true rfl) rfl hl.1 hP hD hS dL_law_737 (fun H locs hP hD hS => ?_)
      refine lv_istore (lv' := [(9, .int r_86), (0, .ref b), (1, .ref a1), (2, .int x2), (3, .int x3), (5, .int x5), (6, .int x6), (7, .int x7), (8, .int x8)]) hx hb dL_law_740 hl (by decide) rfl (fun ls hl => ?_)
      refine lv_aload_n hx hb dL_law_742 rfl (lv_at hl 2 rfl) ?_
      refine lv_iload hx hb dL_law_743 (lv_at hl 8 rfl) ?_
      refine lv_iload hx hb dL_law_745 (lv_at hl 5 rfl) ?_
      refine lv_sipush (v := 501) hx hb dL_law_747 (by decide) ?_
      obtain ⟨r_89, M_90, hc_91, h⟩ := cal_some h
      refine cl_Si (As := [.int x5, .int (501 : Int32)]) (rest := [.int x8, .ref a1]) C (ct_L_low hc_91) wl_515 wl_516 wl_98 wl_517 hd_L_low ⟨Nat.le_of_ble_eq_true rfl, Nat.le_of_ble_eq_true rfl⟩ ⟨rfl, rfl⟩ (cg_ok hg) rfl (Nat.le_of_ble_eq_true rfl) rfl hl.1 hP hD hS dL_law_750 (fun H locs hP hD hS => ?_)
      obtain ⟨r_92, M_93, R_95, hc_94, h⟩ := calR_some h
      refine cl_Vi (As := [.int x8, .int r_89]) (rest := []) C (ct_X6_creep hc_94) k_85 (by decide) rfl wl_225 wl_226 wl_227 wl_2 wl_228 hd_X6_creep ⟨Nat.le_of_ble_eq_true rfl, Nat.le_of_ble_eq_true rfl⟩ ⟨rfl, rfl⟩ (cg_ok hg) rfl (Nat.le_of_ble_eq_true rfl) rfl hl.1 hP hD hS dL_law_753 (fun H locs hP hD hS => ?_)
      refine lv_iload hx hb dL_law_756 (lv_at hl 0 rfl) ?_
      refine lv_icmp_ne (tgt := 810) hx hb dL_law_758 (by decide) (fun c_96 => ?_) (fun c_96 => ?_)
      · replace h := ite_f h c_96
        refine lv_iconst (v := 0) hx hb dL_law_810 (by decide) ?_
        exact absurd (show some (0 : Int32) = some 1 from congrArg (Option.map Prod.fst) h) (by decide)
      · replace h := ite_t h c_96
        refine lv_aload_n hx hb dL_law_761 rfl (lv_at hl 2 rfl) ?_
        refine lv_iload hx hb dL_law_762 (lv_at hl 8 rfl) ?_
        refine lv_iconst (v := 2) hx hb dL_law_764 (by decide) ?_
        obtain ⟨r_97, M_98, hc_99, h⟩ := cal_some h
        refine cl_Vi (As := [.int x8, .int (2 : Int32)]) (rest := []) C (ct_X6_bandInfo hc_99) k_85 (by decide) rfl wl_235 wl_236 wl_237 wl_2 wl_238 hd_X6_bandInfo ⟨Nat.le_of_ble_eq_true rfl, Nat.le_of_ble_eq_true rfl⟩ ⟨rfl, rfl⟩ (cg_ok hg) rfl (Nat.le_of_ble_eq_true rfl) rfl hl.1 hP hD hS dL_law_765 (fun H locs hP hD hS => ?_)
        refine lv_iload hx hb dL_law_768 (lv_at hl 5 rfl) ?_
        refine lv_sipush (v := 501) hx hb dL_law_770 (by decide) ?_
        obtain ⟨r_100, M_101, hc_102, h⟩ := cal_some h
        refine cl_Si (As := [.int x5, .int (501 : Int32)]) (rest := [.int r_97]) C (ct_L_low hc_102) wl_515 wl_516 wl_98 wl_517 hd_L_low ⟨Nat.le_of_ble_eq_true rfl, Nat.le_of_ble_eq_true rfl⟩ ⟨rfl, rfl⟩ (cg_ok hg) rfl (Nat.le_of_ble_eq_true rfl) rfl hl.1 hP hD hS dL_law_773 (fun H locs hP hD hS => ?_)
        refine lv_icmp_ne (tgt := 810) hx hb dL_law_776 (by decide) (fun c_103 => ?_) (fun c_103 => ?_)
        · replace h := ite_f h c_103
          refine lv_iconst (v := 0) hx hb dL_law_810 (by decide) ?_
          exact absurd (show some (0 : Int32) = some 1 from congrArg (Option.map Prod.fst) h) (by decide)
        · replace h := ite_t h c_103
          refine lv_iload hx hb dL_law_779 (lv_at hl 5 rfl) ?_
          refine lv_bipush (v := 9) hx hb dL_law_781 (by decide) ?_
          refine lv_ishr hx hb dL_law_783 ?_
          refine lv_iconst (v := 2) hx hb dL_law_784 (by decide) ?_
          obtain ⟨r_104, M_105, hc_106, h⟩ := cal_some h
          refine cl_Si (As := [.int (x5 >>> ((9 : Int32) &&& 31)), .int (2 : Int32)]) (rest := []) C (ct_L_low hc_106) wl_515 wl_516 wl_98 wl_517 hd_L_low ⟨Nat.le_of_ble_eq_true rfl, Nat.le_of_ble_eq_true rfl⟩ ⟨rfl, rfl⟩ (cg_ok hg) rfl (Nat.le_of_ble_eq_true rfl) rfl hl.1 hP hD hS dL_law_785 (fun H locs hP hD hS => ?_)
          refine lv_if_ne (tgt := 812) hx hb dL_law_788 (by decide) (fun c_107 => ?_) (fun c_107 => ?_)
          · replace h := ite_f h c_107
            exact (bs_L_law_812 C hX hbl hbA hj78) _ _ _ _ _ _ _ h hg hP hD hS _ (lv_sub hl [1, 2, 3, 4] rfl)
          · replace h := ite_t h c_107
            refine lv_aload_n hx hb dL_law_791 rfl (lv_at hl 2 rfl) ?_
            obtain ⟨r_108, M_109, R_111, hc_110, h⟩ := calR_some h
            refine cl_Vi (As := []) (rest := []) C (ct_X6_undo hc_110) k_85 (by decide) rfl wl_492 wl_493 wl_494 wl_2 wl_495 hd_X6_undo ⟨Nat.le_of_ble_eq_true rfl, Nat.le_of_ble_eq_true rfl⟩ ⟨rfl, rfl⟩ (cg_ok hg) rfl (Nat.le_of_ble_eq_true rfl) rfl hl.1 hP hD hS dL_law_792 (fun H locs hP hD hS => ?_)
            refine lv_if_lt (tgt := 810) hx hb dL_law_795 (by decide) (fun c_112 => ?_) (fun c_112 => ?_)
            · replace h := ite_t h c_112
              refine lv_iconst (v := 0) hx hb dL_law_810 (by decide) ?_
              exact absurd (show some (0 : Int32) = some 1 from congrArg (Option.map Prod.fst) h) (by decide)
            · replace h := ite_f h c_112
              refine lv_aload_n hx hb dL_law_798 rfl (lv_at hl 2 rfl) ?_
              refine lv_iload hx hb dL_law_799 (lv_at hl 8 rfl) ?_
              refine lv_iconst (v := 2) hx hb dL_law_801 (by decide) ?_
              obtain ⟨r_113, M_114, hc_115, h⟩ := cal_some h
              refine cl_Vi (As := [.int x8, .int (2 : Int32)]) (rest := []) C (ct_X6_bandInfo hc_115) k_85 (by decide) rfl wl_235 wl_236 wl_237 wl_2 wl_238 hd_X6_bandInfo ⟨Nat.le_of_ble_eq_true rfl, Nat.le_of_ble_eq_true rfl⟩ ⟨rfl, rfl⟩ (cg_ok hg) rfl (Nat.le_of_ble_eq_true rfl) rfl hl.1 hP hD hS dL_law_802 (fun H locs hP hD hS => ?_)
              refine lv_iload hx hb dL_law_805 (lv_at hl 0 rfl) ?_
              refine lv_icmp_eq (tgt := 812) hx hb dL_law_807 (by decide) (fun c_116 => ?_) (fun c_116 => ?_)
              · replace h := ite_t h c_116
                exact (bs_L_law_812 C hX hbl hbA hj78) _ _ _ _ _ _ _ h hg hP hD hS _ (lv_sub hl [1, 2, 3, 4] rfl)
              · replace h := ite_f h c_116
                refine lv_iconst (v := 0) hx hb dL_law_810 (by decide) ?_
                exact absurd (show some (0 : Int32) = some 1 from congrArg (Option.map Prod.fst) h) (by decide)
set_option maxHeartbeats 8000000 in
set_option maxRecDepth 100000 in
theorem bs_L_law_719 {p : Program} {l : Launch} {e : Env} {s : State} {m : MethodId} {below : List Frame} {meth : Method} {c : Code} {D : va_G} {cy : Cy} {T : Ty} {R9 : Rm} {M9 : Mm} {b L : Nat} {xs : Nat → Int32} {a1 : Nat} {j78 : Int32 → Int32 → Nat → Mm → Rm → Option (Int32 × Mm × Rm)} (C : Cx RL cL_law 15 ret p s m #[Value.ref b] meth c D cy (fun q : Nat => s.heap.size ≤ q)) (hX : va_X b L xs s s.heap) (hbl : b < s.heap.size) (hbA : ¬ (fun q : Nat => s.heap.size ≤ q) b)
    (hj78 : ∀ (x2 : Int32) (x3 : Int32) (g : Nat) (M : Mm) (R : Rm) (H : Heap) (locs : List Loc), j78 x2 x3 g M R = some (1, M9, R9) → g ≤ 1000 → va_P D vwCl (WL cy T M R) H → va_D (fun q : Nat => s.heap.size ≤ q) (WL cy T M R) → va_S (fun q : Nat => s.heap.size ≤ q) s.heap H locs → ∀ ls : Array Slot, lv_has ls 15 [(0, .ref b), (1, .ref a1), (2, .int x2), (3, .int x3)] → W p l e room_1 s m #[Value.ref b] below meth c H locs (250 + 3 * g) (49235 + 30 * g) (lw_Z below #[Value.ref b] s) (F0 m 78 ls [])) :
    ∀ (x2 : Int32) (x3 : Int32) (g : Nat) (M : Mm) (R : Rm) (H : Heap) (locs : List Loc), fs_L_law_719 T L xs a1 j78 x2 x3 g M R = some (1, M9, R9) → g ≤ 1000 → va_P D vwCl (WL cy T M R) H → va_D (fun q : Nat => s.heap.size ≤ q) (WL cy T M R) → va_S (fun q : Nat => s.heap.size ≤ q) s.heap H locs → ∀ ls : Array Slot, lv_has ls 15 [(0, .ref b), (1, .ref a1), (2, .int x2), (3, .int x3)] → W p l e room_1 s m #[Value.ref b] below meth c H locs (250 + 3 * g) (49235 + 30 * g) (lw_Z below #[Value.ref b] s) (F0 m 719 ls []) := by
  intro x2 x3 g M R H locs h hg hP hD hS ls hl
  unfold fs_L_law_719 at h
  obtain ⟨hx, hb, hr, hml, hown, hts, hK, hA, hlk, hSt⟩ := id C
  refine lv_goto (tgt := 1051) hx hb dL_law_719 (by decide) ?_
  exact (bs_L_law_1051 C hX hbl hbA hj78) _ _ _ _ _ _ _ h hg hP hD hS _ (lv_sub hl [0, 1, 2, 3] rfl)
set_option maxHeartbeats 8000000 in
set_option maxRecDepth 100000 in
theorem bs_L_law_703 {p : Program} {l : Launch} {e : Env} {s : State} {m : MethodId} {below : List Frame} {meth : Method} {c : Code} {D : va_G} {cy : Cy} {T : Ty} {R9 : Rm} {M9 : Mm} {b L : Nat} {xs : Nat → Int32} {a1 : Nat} {j78 : Int32 → Int32 → Nat → Mm → Rm → Option (Int32 × Mm × Rm)} (C : Cx RL cL_law 15 ret p s m #[Value.ref b] meth c D cy (fun q : Nat => s.heap.size ≤ q)) (hX : va_X b L xs s s.heap) (hbl : b < s.heap.size) (hbA : ¬ (fun q : Nat => s.heap.size ≤ q) b)
    (hj78 : ∀ (x2 : Int32) (x3 : Int32) (g : Nat) (M : Mm) (R : Rm) (H : Heap) (locs : List Loc), j78 x2 x3 g M R = some (1, M9, R9) → g ≤ 1000 → va_P D vwCl (WL cy T M R) H → va_D (fun q : Nat => s.heap.size ≤ q) (WL cy T M R) → va_S (fun q : Nat => s.heap.size ≤ q) s.heap H locs → ∀ ls : Array Slot, lv_has ls 15 [(0, .ref b), (1, .ref a1), (2, .int x2), (3, .int x3)] → W p l e room_1 s m #[Value.ref b] below meth c H locs (250 + 3 * g) (49235 + 30 * g) (lw_Z below #[Value.ref b] s) (F0 m 78 ls [])) :
    ∀ (x2 : Int32) (x3 : Int32) (x11 : Int32) (x12 : Int32) (g : Nat) (M : Mm) (R : Rm) (H : Heap) (locs : List Loc), fs_L_law_703 T L xs a1 j78 x2 x3 x11 x12 g M R = some (1, M9, R9) → g ≤ 1000 → va_P D vwCl (WL cy T M R) H → va_D (fun q : Nat => s.heap.size ≤ q) (WL cy T M R) → va_S (fun q : Nat => s.heap.size ≤ q) s.heap H locs → ∀ ls : Array Slot, lv_has ls 15 [(0, .ref b), (1, .ref a1), (2, .int x2), (3, .int x3), (11, .int x11), (12, .int x12)] → W p l e room_1 s m #[Value.ref b] below meth c H locs (250 + 3 * g) (49235 + 30 * g) (lw_Z below #[Value.ref b] s) (F0 m 703 ls []) := by
  intro x2 x3 x11 x12 g M R H locs h hg hP hD hS ls hl
  unfold fs_L_law_703 at h
  obtain ⟨hx, hb, hr, hml, hown, hts, hK, hA, hlk, hSt⟩ := id C
  refine lv_iload hx hb dL_law_703 (lv_at hl 5 rfl) ?_
  refine lv_ldc (own := RL) (v := -2000000003) hx hb hown (hts _ wl_5) dL_law_705 ?_
  refine lv_icmp_ne (tgt := 719) hx hb dL_law_707 (by decide) (fun c_117 => ?_) (fun c_117 => ?_)
  · replace h := ite_f h c_117
    exact (bs_L_law_719 C hX hbl hbA hj78) _ _ _ _ _ _ _ h hg hP hD hS _ (lv_sub hl [0, 1, 2, 3] rfl)
  · replace h := ite_t h c_117
    refine lv_iload hx hb dL_law_710 (lv_at hl 4 rfl) ?_
    refine lv_bipush (v := 6) hx hb dL_law_712 (by decide) ?_
    refine lv_icmp_eq (tgt := 719) hx hb dL_law_714 (by decide) (fun c_118 => ?_) (fun c_118 => ?_)
    · replace h := ite_t h c_118
      exact (bs_L_law_719 C hX hbl hbA hj78) _ _ _ _ _ _ _ h hg hP hD hS _ (lv_sub hl [0, 1, 2, 3] rfl)
    · replace h := ite_f h c_118
      refine lv_iconst (v := 0) hx hb dL_law_717 (by decide) ?_
      exact absurd (show some (0 : Int32) = some 1 from congrArg (Option.map Prod.fst) h) (by decide)
set_option maxHeartbeats 8000000 in
set_option maxRecDepth 100000 in
theorem bs_L_law_640 {p : Program} {l : Launch} {e : Env} {s : State} {m : MethodId} {below : List Frame} {meth : Method} {c : Code} {D : va_G} {cy : Cy} {T : Ty} {R9 : Rm} {M9 : Mm} {b L : Nat} {xs : Nat → Int32} {a1 : Nat} {j78 : Int32 → Int32 → Nat → Mm → Rm → Option (Int32 × Mm × Rm)} (C : Cx RL cL_law 15 ret p s m #[Value.ref b] meth c D cy (fun q : Nat => s.heap.size ≤ q)) (hX : va_X b L xs s s.heap) (hbl : b < s.heap.size) (hbA : ¬ (fun q : Nat => s.heap.size ≤ q) b)
    (hj78 : ∀ (x2 : Int32) (x3 : Int32) (g : Nat) (M : Mm) (R : Rm) (H : Heap) (locs : List Loc), j78 x2 x3 g M R = some (1, M9, R9) → g ≤ 1000 → va_P D vwCl (WL cy T M R) H → va_D (fun q : Nat => s.heap.size ≤ q) (WL cy T M R) → va_S (fun q : Nat => s.heap.size ≤ q) s.heap H locs → ∀ ls : Array Slot, lv_has ls 15 [(0, .ref b), (1, .ref a1), (2, .int x2), (3, .int x3)] → W p l e room_1 s m #[Value.ref b] below meth c H locs (250 + 3 * g) (49235 + 30 * g) (lw_Z below #[Value.ref b] s) (F0 m 78 ls [])) :
    ∀ (x2 : Int32) (x3 : Int32) (x8 : Int32) (x9 : Int32) (x11 : Int32) (x12 : Int32) (g : Nat) (M : Mm) (R : Rm) (H : Heap) (locs : List Loc), fs_L_law_640 T L xs a1 j78 x2 x3 x8 x9 x11 x12 g M R = some (1, M9, R9) → g ≤ 1000 → va_P D vwCl (WL cy T M R) H → va_D (fun q : Nat => s.heap.size ≤ q) (WL cy T M R) → va_S (fun q : Nat => s.heap.size ≤ q) s.heap H locs → ∀ ls : Array Slot, lv_has ls 15 [(0, .ref b), (1, .ref a1), (2, .int x2), (3, .int x3), (8, .int x8), (9, .int x9), (11, .int x11), (12, .int x12)] → W p l e room_1 s m #[Value.ref b] below meth c H locs (250 + 3 * g) (49235 + 30 * g) (lw_Z below #[Value.ref b] s) (F0 m 640 ls []) := by
  intro x2 x3 x8 x9 x11 x12 g M R H locs h hg hP hD hS ls hl
  unfold fs_L_law_640 at h
  obtain ⟨hx, hb, hr, hml, hown, hts, hK, hA, hlk, hSt⟩ := id C
  refine lv_iload hx hb dL_law_640 (lv_at hl 7 rfl) ?_
  refine lv_if_lt (tgt := 703) hx hb dL_law_642 (by decide) (fun c_119 => ?_) (fun c_119 => ?_)
  · replace h := ite_t h c_119
    exact (bs_L_law_703 C hX hbl hbA hj78) _ _ _ _ _ _ _ _ _ h hg hP hD hS _ (lv_sub hl [0, 1, 2, 3, 6, 7] rfl)
  · replace h := ite_f h c_119
    refine lv_aload_n hx hb dL_law_645 rfl (lv_at hl 1 rfl) ?_
    refine lv_iload hx hb dL_law_646 (lv_at hl 7 rfl) ?_
    refine lv_iconst (v := 0) hx hb dL_law_648 (by decide) ?_
    obtain ⟨k_120, h⟩ := chk_some h
    obtain ⟨r_121, M_122, hc_123, h⟩ := cal_some h
    refine cl_Vi (As := [.int x12, .int (0 : Int32)]) (rest := []) C (ct_X6_stakeInfo hc_123) k_120 (by decide) rfl wl_340 wl_341 wl_342 wl_2 wl_343 hd_X6_stakeInfo ⟨Nat.le_of_ble_eq_true rfl, Nat.le_of_ble_eq_true rfl⟩ ⟨rfl, rfl⟩ (cg_ok hg) rfl (Nat.le_of_ble_eq_true rfl) rfl hl.1 hP hD hS dL_law_649 (fun H locs hP hD hS => ?_)
    refine lv_iload hx hb dL_law_652 (lv_at hl 4 rfl) ?_
    refine lv_icmp_ne (tgt := 717) hx hb dL_law_654 (by decide) (fun c_124 => ?_) (fun c_124 => ?_)
    · replace h := ite_f h c_124
      refine lv_iconst (v := 0) hx hb dL_law_717 (by decide) ?_
      exact absurd (show some (0 : Int32) = some 1 from congrArg (Option.map Prod.fst) h) (by decide)
    · replace h := ite_t h c_124
      refine lv_aload_n hx hb dL_law_657 rfl (lv_at hl 1 rfl) ?_
      refine lv_iload hx hb dL_law_658 (lv_at hl 7 rfl) ?_
      refine lv_iconst (v := 1) hx hb dL_law_660 (by decide) ?_
      obtain ⟨r_125, M_126, hc_127, h⟩ := cal_some h
      refine cl_Vi (As := [.int x12, .int (1 : Int32)]) (rest := []) C (ct_X6_stakeInfo hc_127) k_120 (by decide) rfl wl_340 wl_341 wl_342 wl_2 wl_343 hd_X6_stakeInfo ⟨Nat.le_of_ble_eq_true rfl, Nat.le_of_ble_eq_true rfl⟩ ⟨rfl, rfl⟩ (cg_ok hg) rfl (Nat.le_of_ble_eq_true rfl) rfl hl.1 hP hD hS dL_law_661 (fun H locs hP hD hS => ?_)
      refine lv_iload hx hb dL_law_664 (lv_at hl 5 rfl) ?_
      refine lv_icmp_ne (tgt := 717) hx hb dL_law_666 (by decide) (fun c_128 => ?_) (fun c_128 => ?_)
      · replace h := ite_f h c_128
        refine lv_iconst (v := 0) hx hb dL_law_717 (by decide) ?_
        exact absurd (show some (0 : Int32) = some 1 from congrArg (Option.map Prod.fst) h) (by decide)
      · replace h := ite_t h c_128
        refine lv_aload_n hx hb dL_law_669 rfl (lv_at hl 1 rfl) ?_
        refine lv_iload hx hb dL_law_670 (lv_at hl 7 rfl) ?_
        refine lv_iconst (v := 3) hx hb dL_law_672 (by decide) ?_
        obtain ⟨r_129, M_130, hc_131, h⟩ := cal_some h
        refine cl_Vi (As := [.int x12, .int (3 : Int32)]) (rest := []) C (ct_X6_stakeInfo hc_131) k_120 (by decide) rfl wl_340 wl_341 wl_342 wl_2 wl_343 hd_X6_stakeInfo ⟨Nat.le_of_ble_eq_true rfl, Nat.le_of_ble_eq_true rfl⟩ ⟨rfl, rfl⟩ (cg_ok hg) rfl (Nat.le_of_ble_eq_true rfl) rfl hl.1 hP hD hS dL_law_673 (fun H locs hP hD hS => ?_)
        refine lv_if_ne (tgt := 717) hx hb dL_law_676 (by decide) (fun c_132 => ?_) (fun c_132 => ?_)
        · replace h := ite_f h c_132
          refine lv_iconst (v := 0) hx hb dL_law_717 (by decide) ?_
          exact absurd (show some (0 : Int32) = some 1 from congrArg (Option.map Prod.fst) h) (by decide)
        · replace h := ite_t h c_132
          refine lv_aload_n hx hb dL_law_679 rfl (lv_at hl 1 rfl) ?_
          refine lv_iload hx hb dL_law_680 (lv_at hl 7 rfl) ?_
          refine lv_iconst (v := 5) hx hb dL_law_682 (by decide) ?_
          obtain ⟨r_133, M_134, hc_135, h⟩ := cal_some h
          refine cl_Vi (As := [.int x12, .int (5 : Int32)]) (rest := []) C (ct_X6_stakeInfo hc_135) k_120 (by decide) rfl wl_340 wl_341 wl_342 wl_2 wl_343 hd_X6_stakeInfo ⟨Nat.le_of_ble_eq_true rfl, Nat.le_of_ble_eq_true rfl⟩ ⟨rfl, rfl⟩ (cg_ok hg) rfl (Nat.le_of_ble_eq_true rfl) rfl hl.1 hP hD hS dL_law_683 (fun H locs hP hD hS => ?_)
          refine lv_if_ne (tgt := 717) hx hb dL_law_686 (by decide) (fun c_136 => ?_) (fun c_136 => ?_)
          · replace h := ite_f h c_136
            refine lv_iconst (v := 0) hx hb dL_law_717 (by decide) ?_
            exact absurd (show some (0 : Int32) = some 1 from congrArg (Option.map Prod.fst) h) (by decide)
          · replace h := ite_t h c_136
            refine lv_aload_n hx hb dL_law_689 rfl (lv_at hl 1 rfl) ?_
            refine lv_iload hx hb dL_law_690 (lv_at hl 4 rfl) ?_
            refine lv_iload hx hb dL_law_692 (lv_at hl 5 rfl) ?_
            refine lv_iconst (v := 1) hx hb dL_law_694 (by decide) ?_
            obtain ⟨r_137, M_138, R_140, hc_139, h⟩ := calR_some h
            refine cl_Vi (As := [.int x8, .int x9, .int (1 : Int32)]) (rest := []) C (ct_X6_stake hc_139) k_120 (by decide) rfl wl_309 wl_310 wl_311 wl_2 wl_312 hd_X6_stake ⟨Nat.le_of_ble_eq_true rfl, Nat.le_of_ble_eq_true rfl⟩ ⟨rfl, rfl⟩ (cg_ok hg) rfl (Nat.le_of_ble_eq_true rfl) rfl hl.1 hP hD hS dL_law_695 (fun H locs hP hD hS => ?_)
            refine lv_ldc (own := RL) (v := -2000000002) hx hb hown (hts _ wl_3) dL_law_698 ?_
            refine lv_icmp_ne (tgt := 717) hx hb dL_law_700 (by decide) (fun c_141 => ?_) (fun c_141 => ?_)
            · replace h := ite_f h c_141
              refine lv_iconst (v := 0) hx hb dL_law_717 (by decide) ?_
              exact absurd (show some (0 : Int32) = some 1 from congrArg (Option.map Prod.fst) h) (by decide)
            · replace h := ite_t h c_141
              exact (bs_L_law_703 C hX hbl hbA hj78) _ _ _ _ _ _ _ _ _ h hg hP hD hS _ (lv_sub hl [0, 1, 2, 3, 6, 7] rfl)
set_option maxHeartbeats 8000000 in
set_option maxRecDepth 100000 in
theorem bs_L_law_515 {p : Program} {l : Launch} {e : Env} {s : State} {m : MethodId} {below : List Frame} {meth : Method} {c : Code} {D : va_G} {cy : Cy} {T : Ty} {R9 : Rm} {M9 : Mm} {b L : Nat} {xs : Nat → Int32} {a1 : Nat} {j78 : Int32 → Int32 → Nat → Mm → Rm → Option (Int32 × Mm × Rm)} (C : Cx RL cL_law 15 ret p s m #[Value.ref b] meth c D cy (fun q : Nat => s.heap.size ≤ q)) (hX : va_X b L xs s s.heap) (hbl : b < s.heap.size) (hbA : ¬ (fun q : Nat => s.heap.size ≤ q) b)
    (hj78 : ∀ (x2 : Int32) (x3 : Int32) (g : Nat) (M : Mm) (R : Rm) (H : Heap) (locs : List Loc), j78 x2 x3 g M R = some (1, M9, R9) → g ≤ 1000 → va_P D vwCl (WL cy T M R) H → va_D (fun q : Nat => s.heap.size ≤ q) (WL cy T M R) → va_S (fun q : Nat => s.heap.size ≤ q) s.heap H locs → ∀ ls : Array Slot, lv_has ls 15 [(0, .ref b), (1, .ref a1), (2, .int x2), (3, .int x3)] → W p l e room_1 s m #[Value.ref b] below meth c H locs (250 + 3 * g) (49235 + 30 * g) (lw_Z below #[Value.ref b] s) (F0 m 78 ls [])) :
    ∀ (x2 : Int32) (x3 : Int32) (x9 : Int32) (g : Nat) (s0 : Int32) (M : Mm) (R : Rm) (H : Heap) (locs : List Loc), fs_L_law_515 T L xs a1 j78 x2 x3 x9 g s0 M R = some (1, M9, R9) → g ≤ 1000 → va_P D vwCl (WL cy T M R) H → va_D (fun q : Nat => s.heap.size ≤ q) (WL cy T M R) → va_S (fun q : Nat => s.heap.size ≤ q) s.heap H locs → ∀ ls : Array Slot, lv_has ls 15 [(0, .ref b), (1, .ref a1), (2, .int x2), (3, .int x3), (9, .int x9)] → W p l e room_1 s m #[Value.ref b] below meth c H locs (250 + 3 * g) (49235 + 30 * g) (lw_Z below #[Value.ref b] s) (F0 m 515 ls [.int s0]) := by
  intro x2 x3 x9 g s0 M R H locs h hg hP hD hS ls hl
  unfold fs_L_law_515 at h
  obtain ⟨hx, hb, hr, hml, hown, hts, hK, hA, hlk, hSt⟩ := id C
  refine lv_istore (lv' := [(11, .int s0), (0, .ref b), (1, .ref a1), (2, .int x2), (3, .int x3), (9, .int x9)]) hx hb dL_law_515 hl (by decide) rfl (fun ls hl => ?_)
  refine lv_aload_n hx hb dL_law_517 rfl (lv_at hl 2 rfl) ?_
  refine lv_bipush (v := 6) hx hb dL_law_518 (by decide) ?_
  refine lv_iload hx hb dL_law_520 (lv_at hl 5 rfl) ?_
  refine lv_iadd hx hb dL_law_522 ?_
  obtain ⟨k_142, h⟩ := chk_some h
  obtain ⟨r_143, M_144, hc_145, h⟩ := cal_some h
  refine cl_Vi (As := [.int ((6 : Int32) + x9)]) (rest := []) C (ct_X6_count hc_145) k_142 (by decide) rfl wl_103 wl_104 wl_105 wl_2 wl_106 hd_X6_count ⟨Nat.le_of_ble_eq_true rfl, Nat.le_of_ble_eq_true rfl⟩ ⟨rfl, rfl⟩ (cg_ok hg) rfl (Nat.le_of_ble_eq_true rfl) rfl hl.1 hP hD hS dL_law_523 (fun H locs hP hD hS => ?_)
  refine lv_istore (lv' := [(12, .int r_143), (11, .int s0), (0, .ref b), (1, .ref a1), (2, .int x2), (3, .int x3), (9, .int x9)]) hx hb dL_law_526 hl (by decide) rfl (fun ls hl => ?_)
  refine lv_aload_n hx hb dL_law_528 rfl (lv_at hl 3 rfl) ?_
  refine lv_iload hx hb dL_law_529 (lv_at hl 6 rfl) ?_
  refine lv_iload hx hb dL_law_531 (lv_at hl 1 rfl) ?_
  obtain ⟨r_146, M_147, R_149, hc_148, h⟩ := calR_some h
  refine cl_Vi (As := [.int x9, .int s0]) (rest := []) C (ct_X6_set hc_148) k_142 (by decide) rfl wl_143 wl_144 wl_145 wl_2 wl_146 hd_X6_set ⟨Nat.le_of_ble_eq_true rfl, Nat.le_of_ble_eq_true rfl⟩ ⟨rfl, rfl⟩ (cg_ok hg) rfl (Nat.le_of_ble_eq_true rfl) rfl hl.1 hP hD hS dL_law_533 (fun H locs hP hD hS => ?_)
  refine lv_iload hx hb dL_law_536 (lv_at hl 0 rfl) ?_
  refine lv_icmp_ne (tgt := 555) hx hb dL_law_538 (by decide) (fun c_150 => ?_) (fun c_150 => ?_)
  · replace h := ite_f h c_150
    refine lv_iconst (v := 0) hx hb dL_law_555 (by decide) ?_
    exact absurd (show some (0 : Int32) = some 1 from congrArg (Option.map Prod.fst) h) (by decide)
  · replace h := ite_t h c_150
    refine lv_aload_n hx hb dL_law_541 rfl (lv_at hl 3 rfl) ?_
    refine lv_bipush (v := 6) hx hb dL_law_542 (by decide) ?_
    refine lv_iload hx hb dL_law_544 (lv_at hl 6 rfl) ?_
    refine lv_iadd hx hb dL_law_546 ?_
    obtain ⟨r_151, M_152, hc_153, h⟩ := cal_some h
    refine cl_Vi (As := [.int ((6 : Int32) + x9)]) (rest := []) C (ct_X6_count hc_153) k_142 (by decide) rfl wl_103 wl_104 wl_105 wl_2 wl_106 hd_X6_count ⟨Nat.le_of_ble_eq_true rfl, Nat.le_of_ble_eq_true rfl⟩ ⟨rfl, rfl⟩ (cg_ok hg) rfl (Nat.le_of_ble_eq_true rfl) rfl hl.1 hP hD hS dL_law_547 (fun H locs hP hD hS => ?_)
    refine lv_iload hx hb dL_law_550 (lv_at hl 1 rfl) ?_
    refine lv_icmp_eq (tgt := 557) hx hb dL_law_552 (by decide) (fun c_154 => ?_) (fun c_154 => ?_)
    · replace h := ite_t h c_154
      refine lv_goto (tgt := 1051) hx hb dL_law_557 (by decide) ?_
      exact (bs_L_law_1051 C hX hbl hbA hj78) _ _ _ _ _ _ _ h hg hP hD hS _ (lv_sub hl [2, 3, 4, 5] rfl)
    · replace h := ite_f h c_154
      refine lv_iconst (v := 0) hx hb dL_law_555 (by decide) ?_
      exact absurd (show some (0 : Int32) = some 1 from congrArg (Option.map Prod.fst) h) (by decide)
set_option maxHeartbeats 8000000 in
set_option maxRecDepth 100000 in
theorem bs_L_law_445 {p : Program} {l : Launch} {e : Env} {s : State} {m : MethodId} {below : List Frame} {meth : Method} {c : Code} {D : va_G} {cy : Cy} {T : Ty} {R9 : Rm} {M9 : Mm} {b L : Nat} {xs : Nat → Int32} {a1 : Nat} {j78 : Int32 → Int32 → Nat → Mm → Rm → Option (Int32 × Mm × Rm)} (C : Cx RL cL_law 15 ret p s m #[Value.ref b] meth c D cy (fun q : Nat => s.heap.size ≤ q)) (hX : va_X b L xs s s.heap) (hbl : b < s.heap.size) (hbA : ¬ (fun q : Nat => s.heap.size ≤ q) b)
    (hj78 : ∀ (x2 : Int32) (x3 : Int32) (g : Nat) (M : Mm) (R : Rm) (H : Heap) (locs : List Loc), j78 x2 x3 g M R = some (1, M9, R9) → g ≤ 1000 → va_P D vwCl (WL cy T M R) H → va_D (fun q : Nat => s.heap.size ≤ q) (WL cy T M R) → va_S (fun q : Nat => s.heap.size ≤ q) s.heap H locs → ∀ ls : Array Slot, lv_has ls 15 [(0, .ref b), (1, .ref a1), (2, .int x2), (3, .int x3)] → W p l e room_1 s m #[Value.ref b] below meth c H locs (250 + 3 * g) (49235 + 30 * g) (lw_Z below #[Value.ref b] s) (F0 m 78 ls [])) :
    ∀ (x2 : Int32) (x3 : Int32) (x9 : Int32) (x10 : Int32) (g : Nat) (M : Mm) (R : Rm) (H : Heap) (locs : List Loc), fs_L_law_445 T L xs a1 j78 x2 x3 x9 x10 g M R = some (1, M9, R9) → g ≤ 1000 → va_P D vwCl (WL cy T M R) H → va_D (fun q : Nat => s.heap.size ≤ q) (WL cy T M R) → va_S (fun q : Nat => s.heap.size ≤ q) s.heap H locs → ∀ ls : Array Slot, lv_has ls 15 [(0, .ref b), (1, .ref a1), (2, .int x2), (3, .int x3), (9, .int x9), (10, .int x10)] → W p l e room_1 s m #[Value.ref b] below meth c H locs (250 + 3 * g) (49235 + 30 * g) (lw_Z below #[Value.ref b] s) (F0 m 445 ls []) := by
  intro x2 x3 x9 x10 g M R H locs h hg hP hD hS ls hl
  unfold fs_L_law_445 at h
  obtain ⟨hx, hb, hr, hml, hown, hts, hK, hA, hlk, hSt⟩ := id C
  refine lv_iload hx hb dL_law_445 (lv_at hl 5 rfl) ?_
  refine lv_bipush (v := 120) hx hb dL_law_447 (by decide) ?_
  obtain ⟨r_155, M_156, hc_157, h⟩ := cal_some h
  refine cl_Si (As := [.int x10, .int (120 : Int32)]) (rest := []) C (ct_L_low hc_157) wl_515 wl_516 wl_98 wl_517 hd_L_low ⟨Nat.le_of_ble_eq_true rfl, Nat.le_of_ble_eq_true rfl⟩ ⟨rfl, rfl⟩ (cg_ok hg) rfl (Nat.le_of_ble_eq_true rfl) rfl hl.1 hP hD hS dL_law_449 (fun H locs hP hD hS => ?_)
  refine lv_goto (tgt := 515) hx hb dL_law_452 (by decide) ?_
  exact (bs_L_law_515 C hX hbl hbA hj78) _ _ _ _ _ _ _ _ _ h hg hP hD hS _ (lv_sub hl [0, 1, 2, 3, 4] rfl)
set_option maxHeartbeats 8000000 in
set_option maxRecDepth 100000 in
theorem bs_L_law_392 {p : Program} {l : Launch} {e : Env} {s : State} {m : MethodId} {below : List Frame} {meth : Method} {c : Code} {D : va_G} {cy : Cy} {T : Ty} {R9 : Rm} {M9 : Mm} {b L : Nat} {xs : Nat → Int32} {a1 : Nat} {j78 : Int32 → Int32 → Nat → Mm → Rm → Option (Int32 × Mm × Rm)} (C : Cx RL cL_law 15 ret p s m #[Value.ref b] meth c D cy (fun q : Nat => s.heap.size ≤ q)) (hX : va_X b L xs s s.heap) (hbl : b < s.heap.size) (hbA : ¬ (fun q : Nat => s.heap.size ≤ q) b)
    (hj78 : ∀ (x2 : Int32) (x3 : Int32) (g : Nat) (M : Mm) (R : Rm) (H : Heap) (locs : List Loc), j78 x2 x3 g M R = some (1, M9, R9) → g ≤ 1000 → va_P D vwCl (WL cy T M R) H → va_D (fun q : Nat => s.heap.size ≤ q) (WL cy T M R) → va_S (fun q : Nat => s.heap.size ≤ q) s.heap H locs → ∀ ls : Array Slot, lv_has ls 15 [(0, .ref b), (1, .ref a1), (2, .int x2), (3, .int x3)] → W p l e room_1 s m #[Value.ref b] below meth c H locs (250 + 3 * g) (49235 + 30 * g) (lw_Z below #[Value.ref b] s) (F0 m 78 ls [])) :
    ∀ (x3 : Int32) (g : Nat) (s0 : Int32) (M : Mm) (R : Rm) (H : Heap) (locs : List Loc), fs_L_law_392 T L xs a1 j78 x3 g s0 M R = some (1, M9, R9) → g ≤ 1000 → va_P D vwCl (WL cy T M R) H → va_D (fun q : Nat => s.heap.size ≤ q) (WL cy T M R) → va_S (fun q : Nat => s.heap.size ≤ q) s.heap H locs → ∀ ls : Array Slot, lv_has ls 15 [(0, .ref b), (1, .ref a1), (3, .int x3)] → W p l e room_1 s m #[Value.ref b] below meth c H locs (250 + 3 * g) (49235 + 30 * g) (lw_Z below #[Value.ref b] s) (F0 m 392 ls [.int s0]) := by
  intro x3 g s0 M R H locs h hg hP hD hS ls hl
  unfold fs_L_law_392 at h
  obtain ⟨hx, hb, hr, hml, hown, hts, hK, hA, hlk, hSt⟩ := id C
  refine lv_istore_n (lv' := [(2, .int s0), (0, .ref b), (1, .ref a1), (3, .int x3)]) hx hb dL_law_392 rfl hl (by decide) rfl (fun ls hl => ?_)
  refine lv_goto (tgt := 1051) hx hb dL_law_393 (by decide) ?_
  exact (bs_L_law_1051 C hX hbl hbA hj78) _ _ _ _ _ _ _ h hg hP hD hS _ (lv_sub hl [1, 2, 0, 3] rfl)
set_option maxHeartbeats 8000000 in
set_option maxRecDepth 100000 in
theorem bs_L_law_381 {p : Program} {l : Launch} {e : Env} {s : State} {m : MethodId} {below : List Frame} {meth : Method} {c : Code} {D : va_G} {cy : Cy} {T : Ty} {R9 : Rm} {M9 : Mm} {b L : Nat} {xs : Nat → Int32} {a1 : Nat} {j78 : Int32 → Int32 → Nat → Mm → Rm → Option (Int32 × Mm × Rm)} (C : Cx RL cL_law 15 ret p s m #[Value.ref b] meth c D cy (fun q : Nat => s.heap.size ≤ q)) (hX : va_X b L xs s s.heap) (hbl : b < s.heap.size) (hbA : ¬ (fun q : Nat => s.heap.size ≤ q) b)
    (hj78 : ∀ (x2 : Int32) (x3 : Int32) (g : Nat) (M : Mm) (R : Rm) (H : Heap) (locs : List Loc), j78 x2 x3 g M R = some (1, M9, R9) → g ≤ 1000 → va_P D vwCl (WL cy T M R) H → va_D (fun q : Nat => s.heap.size ≤ q) (WL cy T M R) → va_S (fun q : Nat => s.heap.size ≤ q) s.heap H locs → ∀ ls : Array Slot, lv_has ls 15 [(0, .ref b), (1, .ref a1), (2, .int x2), (3, .int x3)] → W p l e room_1 s m #[Value.ref b] below meth c H locs (250 + 3 * g) (49235 + 30 * g) (lw_Z below #[Value.ref b] s) (F0 m 78 ls [])) :
    ∀ (x2 : Int32) (x3 : Int32) (x9 : Int32) (x14 : Int32) (g : Nat) (M : Mm) (R : Rm) (H : Heap) (locs : List Loc), fs_L_law_381 T L xs a1 j78 x2 x3 x9 x14 g M R = some (1, M9, R9) → g ≤ 1000 → va_P D vwCl (WL cy T M R) H → va_D (fun q : Nat => s.heap.size ≤ q) (WL cy T M R) → va_S (fun q : Nat => s.heap.size ≤ q) s.heap H locs → ∀ ls : Array Slot, lv_has ls 15 [(0, .ref b), (1, .ref a1), (2, .int x2), (3, .int x3), (9, .int x9), (14, .int x14)] → W p l e room_1 s m #[Value.ref b] below meth c H locs (250 + 3 * g) (49235 + 30 * g) (lw_Z below #[Value.ref b] s) (F0 m 381 ls []) := by
  intro x2 x3 x9 x14 g M R H locs h hg hP hD hS ls hl
  unfold fs_L_law_381 at h
  obtain ⟨hx, hb, hr, hml, hown, hts, hK, hA, hlk, hSt⟩ := id C
  refine lv_iload hx hb dL_law_381 (lv_at hl 5 rfl) ?_
  refine lv_if_lt (tgt := 391) hx hb dL_law_383 (by decide) (fun c_158 => ?_) (fun c_158 => ?_)
  · replace h := ite_t h c_158
    refine lv_iload_n hx hb dL_law_391 rfl (lv_at hl 2 rfl) ?_
    exact (bs_L_law_392 C hX hbl hbA hj78) _ _ _ _ _ _ _ h hg hP hD hS _ (lv_sub hl [0, 1, 3] rfl)
  · replace h := ite_f h c_158
    refine lv_iload hx hb dL_law_386 (lv_at hl 4 rfl) ?_
    refine lv_goto (tgt := 392) hx hb dL_law_388 (by decide) ?_
    exact (bs_L_law_392 C hX hbl hbA hj78) _ _ _ _ _ _ _ h hg hP hD hS _ (lv_sub hl [0, 1, 3] rfl)
set_option maxHeartbeats 8000000 in
set_option maxRecDepth 100000 in
theorem bs_L_law_312 {p : Program} {l : Launch} {e : Env} {s : State} {m : MethodId} {below : List Frame} {meth : Method} {c : Code} {D : va_G} {cy : Cy} {T : Ty} {R9 : Rm} {M9 : Mm} {b L : Nat} {xs : Nat → Int32} {a1 : Nat} {j78 : Int32 → Int32 → Nat → Mm → Rm → Option (Int32 × Mm × Rm)} (C : Cx RL cL_law 15 ret p s m #[Value.ref b] meth c D cy (fun q : Nat => s.heap.size ≤ q)) (hX : va_X b L xs s s.heap) (hbl : b < s.heap.size) (hbA : ¬ (fun q : Nat => s.heap.size ≤ q) b)
    (hj78 : ∀ (x2 : Int32) (x3 : Int32) (g : Nat) (M : Mm) (R : Rm) (H : Heap) (locs : List Loc), j78 x2 x3 g M R = some (1, M9, R9) → g ≤ 1000 → va_P D vwCl (WL cy T M R) H → va_D (fun q : Nat => s.heap.size ≤ q) (WL cy T M R) → va_S (fun q : Nat => s.heap.size ≤ q) s.heap H locs → ∀ ls : Array Slot, lv_has ls 15 [(0, .ref b), (1, .ref a1), (2, .int x2), (3, .int x3)] → W p l e room_1 s m #[Value.ref b] below meth c H locs (250 + 3 * g) (49235 + 30 * g) (lw_Z below #[Value.ref b] s) (F0 m 78 ls [])) :
    ∀ (x2 : Int32) (x3 : Int32) (x9 : Int32) (x11 : Int32) (l12 : Int64) (x14 : Int32) (g : Nat) (s0 : Int32) (s1 : Int32) (M : Mm) (R : Rm) (H : Heap) (locs : List Loc), fs_L_law_312 T L xs a1 j78 x2 x3 x9 x11 l12 x14 g s0 s1 M R = some (1, M9, R9) → g ≤ 1000 → va_P D vwCl (WL cy T M R) H → va_D (fun q : Nat => s.heap.size ≤ q) (WL cy T M R) → va_S (fun q : Nat => s.heap.size ≤ q) s.heap H locs → ∀ ls : Array Slot, lv_has ls 15 [(0, .ref b), (1, .ref a1), (2, .int x2), (3, .int x3), (9, .int x9), (11, .int x11), (12, .long l12), (14, .int x14)] → W p l e room_1 s m #[Value.ref b] below meth c H locs (250 + 3 * g) (49235 + 30 * g) (lw_Z below #[Value.ref b] s) (F0 m 312 ls [.int s1, .int s0]) := by
  intro x2 x3 x9 x11 l12 x14 g s0 s1 M R H locs h hg hP hD hS ls hl
  unfold fs_L_law_312 at h
  obtain ⟨hx, hb, hr, hml, hown, hts, hK, hA, hlk, hSt⟩ := id C
  refine lv_icmp_ne (tgt := 379) hx hb dL_law_312 (by decide) (fun c_159 => ?_) (fun c_159 => ?_)
  · replace h := ite_f h c_159
    refine lv_iconst (v := 0) hx hb dL_law_379 (by decide) ?_
    exact absurd (show some (0 : Int32) = some 1 from congrArg (Option.map Prod.fst) h) (by decide)
  · replace h := ite_t h c_159
    refine lv_iload hx hb dL_law_315 (lv_at hl 7 rfl) ?_
    refine lv_if_lt (tgt := 381) hx hb dL_law_317 (by decide) (fun c_160 => ?_) (fun c_160 => ?_)
    · replace h := ite_t h c_160
      exact (bs_L_law_381 C hX hbl hbA hj78) _ _ _ _ _ _ _ _ _ h hg hP hD hS _ (lv_sub hl [0, 1, 2, 3, 4, 7] rfl)
    · replace h := ite_f h c_160
      refine lv_aload_n hx hb dL_law_320 rfl (lv_at hl 1 rfl) ?_
      refine lv_iload hx hb dL_law_321 (lv_at hl 7 rfl) ?_
      refine lv_iconst (v := 3) hx hb dL_law_323 (by decide) ?_
      obtain ⟨k_161, h⟩ := chk_some h
      obtain ⟨r_162, M_163, hc_164, h⟩ := cal_some h
      refine cl_Vi (As := [.int x14, .int (3 : Int32)]) (rest := []) C (ct_X6_bandInfo hc_164) k_161 (by decide) rfl wl_235 wl_236 wl_237 wl_2 wl_238 hd_X6_bandInfo ⟨Nat.le_of_ble_eq_true rfl, Nat.le_of_ble_eq_true rfl⟩ ⟨rfl, rfl⟩ (cg_ok hg) rfl (Nat.le_of_ble_eq_true rfl) rfl hl.1 hP hD hS dL_law_324 (fun H locs hP hD hS => ?_)
      refine lv_iload hx hb dL_law_327 (lv_at hl 5 rfl) ?_
      refine lv_icmp_ne (tgt := 379) hx hb dL_law_329 (by decide) (fun c_165 => ?_) (fun c_165 => ?_)
      · replace h := ite_f h c_165
        refine lv_iconst (v := 0) hx hb dL_law_379 (by decide) ?_
        exact absurd (show some (0 : Int32) = some 1 from congrArg (Option.map Prod.fst) h) (by decide)
      · replace h := ite_t h c_165
        refine lv_aload_n hx hb dL_law_332 rfl (lv_at hl 1 rfl) ?_
        refine lv_iconst (v := 0) hx hb dL_law_333 (by decide) ?_
        obtain ⟨r_166, M_167, hc_168, h⟩ := cal_some h
        refine cl_Vl (As := [.int (0 : Int32)]) (rest := []) C (ct_X6_account hc_168) k_161 (by decide) rfl wl_286 wl_287 wl_288 wl_2 wl_289 hd_X6_account ⟨Nat.le_of_ble_eq_true rfl, Nat.le_of_ble_eq_true rfl⟩ ⟨rfl, rfl⟩ (cg_ok hg) rfl (Nat.le_of_ble_eq_true rfl) rfl hl.1 hP hD hS dL_law_334 (fun H locs hP hD hS => ?_)
        refine lv_lload hx hb dL_law_337 (lv_at hl 6 rfl) ?_
        refine lv_iload hx hb dL_law_339 (lv_at hl 5 rfl) ?_
        refine lv_i2l hx hb dL_law_341 rfl ?_
        refine lv_ladd hx hb dL_law_342 ?_
        refine W.lcmp hx hb dL_law_343 ?_
        refine lv_if_ne (tgt := 379) hx hb dL_law_344 (by decide) (fun c_169 => ?_) (fun c_169 => ?_)
        · replace h := ite_f h c_169
          refine lv_iconst (v := 0) hx hb dL_law_379 (by decide) ?_
          exact absurd (show some (0 : Int32) = some 1 from congrArg (Option.map Prod.fst) h) (by decide)
        · replace h := ite_t h c_169
          refine lv_aload_n hx hb dL_law_347 rfl (lv_at hl 1 rfl) ?_
          refine lv_iload hx hb dL_law_348 (lv_at hl 7 rfl) ?_
          refine lv_bipush (v := 10) hx hb dL_law_350 (by decide) ?_
          obtain ⟨r_170, M_171, hc_172, h⟩ := cal_some h
          refine cl_Vi (As := [.int x14, .int (10 : Int32)]) (rest := []) C (ct_X6_bandInfo hc_172) k_161 (by decide) rfl wl_235 wl_236 wl_237 wl_2 wl_238 hd_X6_bandInfo ⟨Nat.le_of_ble_eq_true rfl, Nat.le_of_ble_eq_true rfl⟩ ⟨rfl, rfl⟩ (cg_ok hg) rfl (Nat.le_of_ble_eq_true rfl) rfl hl.1 hP hD hS dL_law_352 (fun H locs hP hD hS => ?_)
          refine lv_if_ne (tgt := 379) hx hb dL_law_355 (by decide) (fun c_173 => ?_) (fun c_173 => ?_)
          · replace h := ite_f h c_173
            refine lv_iconst (v := 0) hx hb dL_law_379 (by decide) ?_
            exact absurd (show some (0 : Int32) = some 1 from congrArg (Option.map Prod.fst) h) (by decide)
          · replace h := ite_t h c_173
            refine lv_iload hx hb dL_law_358 (lv_at hl 5 rfl) ?_
            refine lv_if_le (tgt := 381) hx hb dL_law_360 (by decide) (fun c_174 => ?_) (fun c_174 => ?_)
            · replace h := ite_t h c_174
              exact (bs_L_law_381 C hX hbl hbA hj78) _ _ _ _ _ _ _ _ _ h hg hP hD hS _ (lv_sub hl [0, 1, 2, 3, 4, 7] rfl)
            · replace h := ite_f h c_174
              refine lv_aload_n hx hb dL_law_363 rfl (lv_at hl 1 rfl) ?_
              refine lv_iload hx hb dL_law_364 (lv_at hl 7 rfl) ?_
              refine lv_iconst (v := 0) hx hb dL_law_366 (by decide) ?_
              refine lv_iconst (v := 0) hx hb dL_law_367 (by decide) ?_
              obtain ⟨r_175, M_176, hc_177, h⟩ := cal_some h
              refine cl_Vi (As := [.int x14, .int (0 : Int32), .int (0 : Int32)]) (rest := []) C (ct_X6_layer hc_177) k_161 (by decide) rfl wl_263 wl_264 wl_265 wl_2 wl_266 hd_X6_layer ⟨Nat.le_of_ble_eq_true rfl, Nat.le_of_ble_eq_true rfl⟩ ⟨rfl, rfl⟩ (cg_ok hg) rfl (Nat.le_of_ble_eq_true rfl) rfl hl.1 hP hD hS dL_law_368 (fun H locs hP hD hS => ?_)
              refine lv_aload_n hx hb dL_law_371 rfl (lv_at hl 1 rfl) ?_
              refine lv_iconst (v := 1) hx hb dL_law_372 (by decide) ?_
              obtain ⟨r_178, M_179, hc_180, h⟩ := cal_some h
              refine cl_Vi (As := [.int (1 : Int32)]) (rest := [.int r_175]) C (ct_X6_count hc_180) k_161 (by decide) rfl wl_103 wl_104 wl_105 wl_2 wl_106 hd_X6_count ⟨Nat.le_of_ble_eq_true rfl, Nat.le_of_ble_eq_true rfl⟩ ⟨rfl, rfl⟩ (cg_ok hg) rfl (Nat.le_of_ble_eq_true rfl) rfl hl.1 hP hD hS dL_law_373 (fun H locs hP hD hS => ?_)
              refine lv_icmp_eq (tgt := 381) hx hb dL_law_376 (by decide) (fun c_181 => ?_) (fun c_181 => ?_)
              · replace h := ite_t h c_181
                exact (bs_L_law_381 C hX hbl hbA hj78) _ _ _ _ _ _ _ _ _ h hg hP hD hS _ (lv_sub hl [0, 1, 2, 3, 4, 7] rfl)
              · replace h := ite_f h c_181
                refine lv_iconst (v := 0) hx hb dL_law_379 (by decide) ?_
                exact absurd (show some (0 : Int32) = some 1 from congrArg (Option.map Prod.fst) h) (by decide)
set_option maxHeartbeats 8000000 in
set_option maxRecDepth 100000 in
theorem bs_L_law_230 {p : Program} {l : Launch} {e : Env} {s : State} {m : MethodId} {below : List Frame} {meth : Method} {c : Code} {D : va_G} {cy : Cy} {T : Ty} {R9 : Rm} {M9 : Mm} {b L : Nat} {xs : Nat → Int32} {a1 : Nat} {j78 : Int32 → Int32 → Nat → Mm → Rm → Option (Int32 × Mm × Rm)} (C : Cx RL cL_law 15 ret p s m #[Value.ref b] meth c D cy (fun q : Nat => s.heap.size ≤ q)) (hX : va_X b L xs s s.heap) (hbl : b < s.heap.size) (hbA : ¬ (fun q : Nat => s.heap.size ≤ q) b)
    (hj78 : ∀ (x2 : Int32) (x3 : Int32) (g : Nat) (M : Mm) (R : Rm) (H : Heap) (locs : List Loc), j78 x2 x3 g M R = some (1, M9, R9) → g ≤ 1000 → va_P D vwCl (WL cy T M R) H → va_D (fun q : Nat => s.heap.size ≤ q) (WL cy T M R) → va_S (fun q : Nat => s.heap.size ≤ q) s.heap H locs → ∀ ls : Array Slot, lv_has ls 15 [(0, .ref b), (1, .ref a1), (2, .int x2), (3, .int x3)] → W p l e room_1 s m #[Value.ref b] below meth c H locs (250 + 3 * g) (49235 + 30 * g) (lw_Z below #[Value.ref b] s) (F0 m 78 ls [])) :
    ∀ (x2 : Int32) (x3 : Int32) (x5 : Int32) (x6 : Int32) (x9 : Int32) (g : Nat) (s0 : Int32) (M : Mm) (R : Rm) (H : Heap) (locs : List Loc), fs_L_law_230 T L xs a1 j78 x2 x3 x5 x6 x9 g s0 M R = some (1, M9, R9) → g ≤ 1000 → va_P D vwCl (WL cy T M R) H → va_D (fun q : Nat => s.heap.size ≤ q) (WL cy T M R) → va_S (fun q : Nat => s.heap.size ≤ q) s.heap H locs → ∀ ls : Array Slot, lv_has ls 15 [(0, .ref b), (1, .ref a1), (2, .int x2), (3, .int x3), (5, .int x5), (6, .int x6), (9, .int x9)] → W p l e room_1 s m #[Value.ref b] below meth c H locs (250 + 3 * g) (49235 + 30 * g) (lw_Z below #[Value.ref b] s) (F0 m 230 ls [.int s0]) := by
  intro x2 x3 x5 x6 x9 g s0 M R H locs h hg hP hD hS ls hl
  unfold fs_L_law_230 at h
  obtain ⟨hx, hb, hr, hml, hown, hts, hK, hA, hlk, hSt⟩ := id C
  refine lv_istore (lv' := [(10, .int s0), (0, .ref b), (1, .ref a1), (2, .int x2), (3, .int x3), (5, .int x5), (6, .int x6), (9, .int x9)]) hx hb dL_law_230 hl (by decide) rfl (fun ls hl => ?_)
  refine lv_iload hx hb dL_law_232 (lv_at hl 5 rfl) ?_
  refine lv_iconst (v := 4) hx hb dL_law_234 (by decide) ?_
  refine lv_ishr hx hb dL_law_235 ?_
  refine lv_sipush (v := 20000) hx hb dL_law_236 (by decide) ?_
  obtain ⟨r_182, M_183, hc_184, h⟩ := cal_some h
  refine cl_Si (As := [.int (x5 >>> ((4 : Int32) &&& 31)), .int (20000 : Int32)]) (rest := []) C (ct_L_low hc_184) wl_515 wl_516 wl_98 wl_517 hd_L_low ⟨Nat.le_of_ble_eq_true rfl, Nat.le_of_ble_eq_true rfl⟩ ⟨rfl, rfl⟩ (cg_ok hg) rfl (Nat.le_of_ble_eq_true rfl) rfl hl.1 hP hD hS dL_law_239 (fun H locs hP hD hS => ?_)
  refine lv_istore (lv' := [(11, .int r_182), (10, .int s0), (0, .ref b), (1, .ref a1), (2, .int x2), (3, .int x3), (5, .int x5), (6, .int x6), (9, .int x9)]) hx hb dL_law_242 hl (by decide) rfl (fun ls hl => ?_)
  refine lv_aload_n hx hb dL_law_244 rfl (lv_at hl 3 rfl) ?_
  refine lv_iconst (v := 0) hx hb dL_law_245 (by decide) ?_
  obtain ⟨k_185, h⟩ := chk_some h
  obtain ⟨r_186, M_187, hc_188, h⟩ := cal_some h
  refine cl_Vl (As := [.int (0 : Int32)]) (rest := []) C (ct_X6_account hc_188) k_185 (by decide) rfl wl_286 wl_287 wl_288 wl_2 wl_289 hd_X6_account ⟨Nat.le_of_ble_eq_true rfl, Nat.le_of_ble_eq_true rfl⟩ ⟨rfl, rfl⟩ (cg_ok hg) rfl (Nat.le_of_ble_eq_true rfl) rfl hl.1 hP hD hS dL_law_246 (fun H locs hP hD hS => ?_)
  refine lv_lstore (lv' := [(12, .long r_186), (11, .int r_182), (10, .int s0), (0, .ref b), (1, .ref a1), (2, .int x2), (3, .int x3), (5, .int x5), (6, .int x6), (9, .int x9)]) hx hb dL_law_249 hl (by decide) rfl (fun ls hl => ?_)
  refine lv_aload_n hx hb dL_law_251 rfl (lv_at hl 4 rfl) ?_
  refine lv_iload hx hb dL_law_252 (lv_at hl 9 rfl) ?_
  refine lv_bipush (v := 100) hx hb dL_law_254 (by decide) ?_
  refine lv_iload hx hb dL_law_256 (lv_at hl 7 rfl) ?_
  refine lv_bipush (v := 7) hx hb dL_law_258 (by decide) ?_
  refine lv_ishr hx hb dL_law_260 ?_
  refine lv_sipush (v := 900) hx hb dL_law_261 (by decide) ?_
  obtain ⟨r_189, M_190, hc_191, h⟩ := cal_some h
  refine cl_Si (As := [.int (x5 >>> ((7 : Int32) &&& 31)), .int (900 : Int32)]) (rest := [.int (100 : Int32), .int x9, .ref a1]) C (ct_L_low hc_191) wl_515 wl_516 wl_98 wl_517 hd_L_low ⟨Nat.le_of_ble_eq_true rfl, Nat.le_of_ble_eq_true rfl⟩ ⟨rfl, rfl⟩ (cg_ok hg) rfl (Nat.le_of_ble_eq_true rfl) rfl hl.1 hP hD hS dL_law_264 (fun H locs hP hD hS => ?_)
  refine lv_iadd hx hb dL_law_267 ?_
  refine lv_iload hx hb dL_law_268 (lv_at hl 7 rfl) ?_
  refine lv_bipush (v := 11) hx hb dL_law_270 (by decide) ?_
  refine lv_ishr hx hb dL_law_272 ?_
  refine lv_sipush (v := 501) hx hb dL_law_273 (by decide) ?_
  obtain ⟨r_192, M_193, hc_194, h⟩ := cal_some h
  refine cl_Si (As := [.int (x5 >>> ((11 : Int32) &&& 31)), .int (501 : Int32)]) (rest := [.int ((100 : Int32) + r_189), .int x9, .ref a1]) C (ct_L_low hc_194) wl_515 wl_516 wl_98 wl_517 hd_L_low ⟨Nat.le_of_ble_eq_true rfl, Nat.le_of_ble_eq_true rfl⟩ ⟨rfl, rfl⟩ (cg_ok hg) rfl (Nat.le_of_ble_eq_true rfl) rfl hl.1 hP hD hS dL_law_276 (fun H locs hP hD hS => ?_)
  refine lv_iload hx hb dL_law_279 (lv_at hl 1 rfl) ?_
  obtain ⟨r_195, M_196, R_198, hc_197, h⟩ := calR_some h
  refine cl_Vi (As := [.int x9, .int ((100 : Int32) + r_189), .int r_192, .int r_182]) (rest := []) C (ct_X6_band hc_197) k_185 (by decide) rfl wl_182 wl_183 wl_184 wl_2 wl_185 hd_X6_band ⟨Nat.le_of_ble_eq_true rfl, Nat.le_of_ble_eq_true rfl⟩ ⟨rfl, rfl⟩ (cg_ok hg) rfl (Nat.le_of_ble_eq_true rfl) rfl hl.1 hP hD hS dL_law_281 (fun H locs hP hD hS => ?_)
  refine lv_istore (lv' := [(14, .int r_195), (12, .long r_186), (11, .int r_182), (10, .int s0), (0, .ref b), (1, .ref a1), (2, .int x2), (3, .int x3), (5, .int x5), (6, .int x6), (9, .int x9)]) hx hb dL_law_284 hl (by decide) rfl (fun ls hl => ?_)
  refine lv_iload hx hb dL_law_286 (lv_at hl 0 rfl) ?_
  refine lv_iload hx hb dL_law_288 (lv_at hl 3 rfl) ?_
  refine lv_if_ne (tgt := 298) hx hb dL_law_290 (by decide) (fun c_199 => ?_) (fun c_199 => ?_)
  · replace h := ite_f h c_199
    refine lv_iload hx hb dL_law_298 (lv_at hl 9 rfl) ?_
    refine lv_bipush (v := 10) hx hb dL_law_300 (by decide) ?_
    refine lv_icmp_ne (tgt := 310) hx hb dL_law_302 (by decide) (fun c_200 => ?_) (fun c_200 => ?_)
    · replace h := ite_f h c_200
      refine lv_iload hx hb dL_law_310 (lv_at hl 9 rfl) ?_
      exact (bs_L_law_312 C hX hbl hbA hj78) _ _ _ _ _ _ _ _ _ _ _ _ _ h hg hP hD hS _ (lv_sub hl [4, 5, 6, 7, 10, 2, 1, 0] rfl)
    · replace h := ite_t h c_200
      refine lv_ldc (own := RL) (v := -2000000003) hx hb hown (hts _ wl_5) dL_law_305 ?_
      refine lv_goto (tgt := 312) hx hb dL_law_307 (by decide) ?_
      exact (bs_L_law_312 C hX hbl hbA hj78) _ _ _ _ _ _ _ _ _ _ _ _ _ h hg hP hD hS _ (lv_sub hl [4, 5, 6, 7, 10, 2, 1, 0] rfl)
  · replace h := ite_t h c_199
    refine lv_ldc (own := RL) (v := -2000000002) hx hb hown (hts _ wl_3) dL_law_293 ?_
    refine lv_goto (tgt := 312) hx hb dL_law_295 (by decide) ?_
    exact (bs_L_law_312 C hX hbl hbA hj78) _ _ _ _ _ _ _ _ _ _ _ _ _ h hg hP hD hS _ (lv_sub hl [4, 5, 6, 7, 10, 2, 1, 0] rfl)
set_option maxHeartbeats 8000000 in
set_option maxRecDepth 100000 in
theorem bs_L_law_225 {p : Program} {l : Launch} {e : Env} {s : State} {m : MethodId} {below : List Frame} {meth : Method} {c : Code} {D : va_G} {cy : Cy} {T : Ty} {R9 : Rm} {M9 : Mm} {b L : Nat} {xs : Nat → Int32} {a1 : Nat} {j78 : Int32 → Int32 → Nat → Mm → Rm → Option (Int32 × Mm × Rm)} (C : Cx RL cL_law 15 ret p s m #[Value.ref b] meth c D cy (fun q : Nat => s.heap.size ≤ q)) (hX : va_X b L xs s s.heap) (hbl : b < s.heap.size) (hbA : ¬ (fun q : Nat => s.heap.size ≤ q) b)
    (hj78 : ∀ (x2 : Int32) (x3 : Int32) (g : Nat) (M : Mm) (R : Rm) (H : Heap) (locs : List Loc), j78 x2 x3 g M R = some (1, M9, R9) → g ≤ 1000 → va_P D vwCl (WL cy T M R) H → va_D (fun q : Nat => s.heap.size ≤ q) (WL cy T M R) → va_S (fun q : Nat => s.heap.size ≤ q) s.heap H locs → ∀ ls : Array Slot, lv_has ls 15 [(0, .ref b), (1, .ref a1), (2, .int x2), (3, .int x3)] → W p l e room_1 s m #[Value.ref b] below meth c H locs (250 + 3 * g) (49235 + 30 * g) (lw_Z below #[Value.ref b] s) (F0 m 78 ls [])) :
    ∀ (x2 : Int32) (x3 : Int32) (x5 : Int32) (x6 : Int32) (x9 : Int32) (g : Nat) (M : Mm) (R : Rm) (H : Heap) (locs : List Loc), fs_L_law_225 T L xs a1 j78 x2 x3 x5 x6 x9 g M R = some (1, M9, R9) → g ≤ 1000 → va_P D vwCl (WL cy T M R) H → va_D (fun q : Nat => s.heap.size ≤ q) (WL cy T M R) → va_S (fun q : Nat => s.heap.size ≤ q) s.heap H locs → ∀ ls : Array Slot, lv_has ls 15 [(0, .ref b), (1, .ref a1), (2, .int x2), (3, .int x3), (5, .int x5), (6, .int x6), (9, .int x9)] → W p l e room_1 s m #[Value.ref b] below meth c H locs (250 + 3 * g) (49235 + 30 * g) (lw_Z below #[Value.ref b] s) (F0 m 225 ls []) := by
  intro x2 x3 x5 x6 x9 g M R H locs h hg hP hD hS ls hl
  unfold fs_L_law_225 at h
  obtain ⟨hx, hb, hr, hml, hown, hts, hK, hA, hlk, hSt⟩ := id C
  refine lv_iconst (v := 1) hx hb dL_law_225 (by decide) ?_
  refine lv_goto (tgt := 230) hx hb dL_law_226 (by decide) ?_
  exact (bs_L_law_230 C hX hbl hbA hj78) _ _ _ _ _ _ _ _ _ _ _ h hg hP hD hS _ (lv_sub hl [0, 1, 2, 3, 4, 5, 6] rfl)
set_option maxHeartbeats 8000000 in
set_option maxRecDepth 100000 in
theorem bs_L_law_204 {p : Program} {l : Launch} {e : Env} {s : State} {m : MethodId} {below : List Frame} {meth : Method} {c : Code} {D : va_G} {cy : Cy} {T : Ty} {R9 : Rm} {M9 : Mm} {b L : Nat} {xs : Nat → Int32} {a1 : Nat} {j78 : Int32 → Int32 → Nat → Mm → Rm → Option (Int32 × Mm × Rm)} (C : Cx RL cL_law 15 ret p s m #[Value.ref b] meth c D cy (fun q : Nat => s.heap.size ≤ q)) (hX : va_X b L xs s s.heap) (hbl : b < s.heap.size) (hbA : ¬ (fun q : Nat => s.heap.size ≤ q) b)
    (hj78 : ∀ (x2 : Int32) (x3 : Int32) (g : Nat) (M : Mm) (R : Rm) (H : Heap) (locs : List Loc), j78 x2 x3 g M R = some (1, M9, R9) → g ≤ 1000 → va_P D vwCl (WL cy T M R) H → va_D (fun q : Nat => s.heap.size ≤ q) (WL cy T M R) → va_S (fun q : Nat => s.heap.size ≤ q) s.heap H locs → ∀ ls : Array Slot, lv_has ls 15 [(0, .ref b), (1, .ref a1), (2, .int x2), (3, .int x3)] → W p l e room_1 s m #[Value.ref b] below meth c H locs (250 + 3 * g) (49235 + 30 * g) (lw_Z below #[Value.ref b] s) (F0 m 78 ls [])) :
    ∀ (x2 : Int32) (x3 : Int32) (x5 : Int32) (x6 : Int32) (g : Nat) (s0 : Int32) (M : Mm) (R : Rm) (H : Heap) (locs : List Loc), fs_L_law_204 T L xs a1 j78 x2 x3 x5 x6 g s0 M R = some (1, M9, R9) → g ≤ 1000 → va_P D vwCl (WL cy T M R) H → va_D (fun q : Nat => s.heap.size ≤ q) (WL cy T M R) → va_S (fun q : Nat => s.heap.size ≤ q) s.heap H locs → ∀ ls : Array Slot, lv_has ls 15 [(0, .ref b), (1, .ref a1), (2, .int x2), (3, .int x3), (5, .int x5), (6, .int x6)] → W p l e room_1 s m #[Value.ref b] below meth c H locs (250 + 3 * g) (49235 + 30 * g) (lw_Z below #[Value.ref b] s) (F0 m 204 ls [.int s0]) := by
  intro x2 x3 x5 x6 g s0 M R H locs h hg hP hD hS ls hl
  unfold fs_L_law_204 at h
  obtain ⟨hx, hb, hr, hml, hown, hts, hK, hA, hlk, hSt⟩ := id C
  refine lv_istore (lv' := [(9, .int s0), (0, .ref b), (1, .ref a1), (2, .int x2), (3, .int x3), (5, .int x5), (6, .int x6)]) hx hb dL_law_204 hl (by decide) rfl (fun ls hl => ?_)
  refine lv_iload hx hb dL_law_206 (lv_at hl 6 rfl) ?_
  refine lv_if_eq (tgt := 225) hx hb dL_law_208 (by decide) (fun c_201 => ?_) (fun c_201 => ?_)
  · replace h := ite_t h c_201
    exact (bs_L_law_225 C hX hbl hbA hj78) _ _ _ _ _ _ _ _ _ _ h hg hP hD hS _ (lv_sub hl [1, 2, 3, 4, 5, 6, 0] rfl)
  · replace h := ite_f h c_201
    refine lv_iload hx hb dL_law_211 (lv_at hl 0 rfl) ?_
    refine lv_aload_n hx hb dL_law_213 rfl (lv_at hl 2 rfl) ?_
    refine lv_iload hx hb dL_law_214 (lv_at hl 6 rfl) ?_
    refine lv_iconst (v := 1) hx hb dL_law_216 (by decide) ?_
    refine lv_isub hx hb dL_law_217 ?_
    refine lv_iconst (v := 0) hx hb dL_law_218 (by decide) ?_
    obtain ⟨k_202, h⟩ := chk_some h
    obtain ⟨r_203, M_204, hc_205, h⟩ := cal_some h
    refine cl_Vi (As := [.int (x6 - (1 : Int32)), .int (0 : Int32)]) (rest := [.int s0]) C (ct_X6_bandInfo hc_205) k_202 (by decide) rfl wl_235 wl_236 wl_237 wl_2 wl_238 hd_X6_bandInfo ⟨Nat.le_of_ble_eq_true rfl, Nat.le_of_ble_eq_true rfl⟩ ⟨rfl, rfl⟩ (cg_ok hg) rfl (Nat.le_of_ble_eq_true rfl) rfl hl.1 hP hD hS dL_law_219 (fun H locs hP hD hS => ?_)
    refine lv_icmp_ge (tgt := 229) hx hb dL_law_222 (by decide) (fun c_206 => ?_) (fun c_206 => ?_)
    · replace h := ite_t h c_206
      refine lv_iconst (v := 0) hx hb dL_law_229 (by decide) ?_
      exact (bs_L_law_230 C hX hbl hbA hj78) _ _ _ _ _ _ _ _ _ _ _ h hg hP hD hS _ (lv_sub hl [1, 2, 3, 4, 5, 6, 0] rfl)
    · replace h := ite_f h c_206
      exact (bs_L_law_225 C hX hbl hbA hj78) _ _ _ _ _ _ _ _ _ _ h hg hP hD hS _ (lv_sub hl [1, 2, 3, 4, 5, 6, 0] rfl)
set_option maxHeartbeats 8000000 in
set_option maxRecDepth 100000 in
theorem bs_L_law_191 {p : Program} {l : Launch} {e : Env} {s : State} {m : MethodId} {below : List Frame} {meth : Method} {c : Code} {D : va_G} {cy : Cy} {T : Ty} {R9 : Rm} {M9 : Mm} {b L : Nat} {xs : Nat → Int32} {a1 : Nat} {j78 : Int32 → Int32 → Nat → Mm → Rm → Option (Int32 × Mm × Rm)} (C : Cx RL cL_law 15 ret p s m #[Value.ref b] meth c D cy (fun q : Nat => s.heap.size ≤ q)) (hX : va_X b L xs s s.heap) (hbl : b < s.heap.size) (hbA : ¬ (fun q : Nat => s.heap.size ≤ q) b)
    (hj78 : ∀ (x2 : Int32) (x3 : Int32) (g : Nat) (M : Mm) (R : Rm) (H : Heap) (locs : List Loc), j78 x2 x3 g M R = some (1, M9, R9) → g ≤ 1000 → va_P D vwCl (WL cy T M R) H → va_D (fun q : Nat => s.heap.size ≤ q) (WL cy T M R) → va_S (fun q : Nat => s.heap.size ≤ q) s.heap H locs → ∀ ls : Array Slot, lv_has ls 15 [(0, .ref b), (1, .ref a1), (2, .int x2), (3, .int x3)] → W p l e room_1 s m #[Value.ref b] below meth c H locs (250 + 3 * g) (49235 + 30 * g) (lw_Z below #[Value.ref b] s) (F0 m 78 ls [])) :
    ∀ (x2 : Int32) (x3 : Int32) (x5 : Int32) (x6 : Int32) (g : Nat) (s0 : Int32) (M : Mm) (R : Rm) (H : Heap) (locs : List Loc), fs_L_law_191 T L xs a1 j78 x2 x3 x5 x6 g s0 M R = some (1, M9, R9) → g ≤ 1000 → va_P D vwCl (WL cy T M R) H → va_D (fun q : Nat => s.heap.size ≤ q) (WL cy T M R) → va_S (fun q : Nat => s.heap.size ≤ q) s.heap H locs → ∀ ls : Array Slot, lv_has ls 15 [(0, .ref b), (1, .ref a1), (2, .int x2), (3, .int x3), (5, .int x5), (6, .int x6)] → W p l e room_1 s m #[Value.ref b] below meth c H locs (250 + 3 * g) (49235 + 30 * g) (lw_Z below #[Value.ref b] s) (F0 m 191 ls [.int s0]) := by
  intro x2 x3 x5 x6 g s0 M R H locs h hg hP hD hS ls hl
  unfold fs_L_law_191 at h
  obtain ⟨hx, hb, hr, hml, hown, hts, hK, hA, hlk, hSt⟩ := id C
  refine lv_istore (lv' := [(9, .int s0), (0, .ref b), (1, .ref a1), (2, .int x2), (3, .int x3), (5, .int x5), (6, .int x6)]) hx hb dL_law_191 hl (by decide) rfl (fun ls hl => ?_)
  refine lv_iload hx hb dL_law_193 (lv_at hl 0 rfl) ?_
  refine lv_if_ge (tgt := 202) hx hb dL_law_195 (by decide) (fun c_207 => ?_) (fun c_207 => ?_)
  · replace h := ite_t h c_207
    refine lv_iload hx hb dL_law_202 (lv_at hl 0 rfl) ?_
    exact (bs_L_law_204 C hX hbl hbA hj78) _ _ _ _ _ _ _ _ _ _ h hg hP hD hS _ (lv_sub hl [1, 2, 3, 4, 5, 6] rfl)
  · replace h := ite_f h c_207
    refine lv_iconst (v := 0) hx hb dL_law_198 (by decide) ?_
    refine lv_goto (tgt := 204) hx hb dL_law_199 (by decide) ?_
    exact (bs_L_law_204 C hX hbl hbA hj78) _ _ _ _ _ _ _ _ _ _ h hg hP hD hS _ (lv_sub hl [1, 2, 3, 4, 5, 6] rfl)
set_option maxHeartbeats 8000000 in
set_option maxRecDepth 100000 in
theorem bs_L_law_156 {p : Program} {l : Launch} {e : Env} {s : State} {m : MethodId} {below : List Frame} {meth : Method} {c : Code} {D : va_G} {cy : Cy} {T : Ty} {R9 : Rm} {M9 : Mm} {b L : Nat} {xs : Nat → Int32} {a1 : Nat} {j78 : Int32 → Int32 → Nat → Mm → Rm → Option (Int32 × Mm × Rm)} (C : Cx RL cL_law 15 ret p s m #[Value.ref b] meth c D cy (fun q : Nat => s.heap.size ≤ q)) (hX : va_X b L xs s s.heap) (hbl : b < s.heap.size) (hbA : ¬ (fun q : Nat => s.heap.size ≤ q) b)
    (hj78 : ∀ (x2 : Int32) (x3 : Int32) (g : Nat) (M : Mm) (R : Rm) (H : Heap) (locs : List Loc), j78 x2 x3 g M R = some (1, M9, R9) → g ≤ 1000 → va_P D vwCl (WL cy T M R) H → va_D (fun q : Nat => s.heap.size ≤ q) (WL cy T M R) → va_S (fun q : Nat => s.heap.size ≤ q) s.heap H locs → ∀ ls : Array Slot, lv_has ls 15 [(0, .ref b), (1, .ref a1), (2, .int x2), (3, .int x3)] → W p l e room_1 s m #[Value.ref b] below meth c H locs (250 + 3 * g) (49235 + 30 * g) (lw_Z below #[Value.ref b] s) (F0 m 78 ls [])) :
    ∀ (x2 : Int32) (x3 : Int32) (x5 : Int32) (x6 : Int32) (x7 : Int32) (g : Nat) (s0 : Int32) (M : Mm) (R : Rm) (H : Heap) (locs : List Loc), fs_L_law_156 T L xs a1 j78 x2 x3 x5 x6 x7 g s0 M R = some (1, M9, R9) → g ≤ 1000 → va_P D vwCl (WL cy T M R) H → va_D (fun q : Nat => s.heap.size ≤ q) (WL cy T M R) → va_S (fun q : Nat => s.heap.size ≤ q) s.heap H locs → ∀ ls : Array Slot, lv_has ls 15 [(0, .ref b), (1, .ref a1), (2, .int x2), (3, .int x3), (5, .int x5), (6, .int x6), (7, .int x7)] → W p l e room_1 s m #[Value.ref b] below meth c H locs (250 + 3 * g) (49235 + 30 * g) (lw_Z below #[Value.ref b] s) (F0 m 156 ls [.int s0]) := by
  intro x2 x3 x5 x6 x7 g s0 M R H locs h hg hP hD hS ls hl
  unfold fs_L_law_156 at h
  obtain ⟨hx, hb, hr, hml, hown, hts, hK, hA, hlk, hSt⟩ := id C
  refine lv_istore (lv' := [(8, .int s0), (0, .ref b), (1, .ref a1), (2, .int x2), (3, .int x3), (5, .int x5), (6, .int x6), (7, .int x7)]) hx hb dL_law_156 hl (by decide) rfl (fun ls hl => ?_)
  refine lv_iload hx hb dL_law_158 (lv_at hl 7 rfl) ?_
  refine lv_if_ne (tgt := 396) hx hb dL_law_160 (by decide) (fun c_208 => ?_) (fun c_208 => ?_)
  · replace h := ite_f h c_208
    refine lv_iload hx hb dL_law_396 (lv_at hl 7 rfl) ?_
    refine lv_iconst (v := 3) hx hb dL_law_398 (by decide) ?_
    refine lv_icmp_ge (tgt := 560) hx hb dL_law_399 (by decide) (fun c_209 => ?_) (fun c_209 => ?_)
    · replace h := ite_t h c_209
      refine lv_iload hx hb dL_law_560 (lv_at hl 7 rfl) ?_
      refine lv_iconst (v := 3) hx hb dL_law_562 (by decide) ?_
      refine lv_icmp_ne (tgt := 722) hx hb dL_law_563 (by decide) (fun c_210 => ?_) (fun c_210 => ?_)
      · replace h := ite_f h c_210
        exact (bs_L_law_722 C hX hbl hbA hj78) _ _ _ _ _ _ _ _ _ _ _ h hg hP hD hS _ (lv_sub hl [1, 2, 3, 4, 5, 6, 7, 0] rfl)
      · replace h := ite_t h c_210
        refine lv_iload hx hb dL_law_566 (lv_at hl 6 rfl) ?_
        refine lv_if_le (tgt := 722) hx hb dL_law_568 (by decide) (fun c_211 => ?_) (fun c_211 => ?_)
        · replace h := ite_t h c_211
          exact (bs_L_law_722 C hX hbl hbA hj78) _ _ _ _ _ _ _ _ _ _ _ h hg hP hD hS _ (lv_sub hl [1, 2, 3, 4, 5, 6, 7, 0] rfl)
        · replace h := ite_f h c_211
          refine lv_iload hx hb dL_law_571 (lv_at hl 5 rfl) ?_
          refine lv_aload_n hx hb dL_law_573 rfl (lv_at hl 2 rfl) ?_
          refine lv_iload hx hb dL_law_574 (lv_at hl 0 rfl) ?_
          refine lv_iconst (v := 1) hx hb dL_law_576 (by decide) ?_
          obtain ⟨k_212, h⟩ := chk_some h
          obtain ⟨r_213, M_214, hc_215, h⟩ := cal_some h
          refine cl_Vi (As := [.int s0, .int (1 : Int32)]) (rest := [.int x5]) C (ct_X6_bandInfo hc_215) k_212 (by decide) rfl wl_235 wl_236 wl_237 wl_2 wl_238 hd_X6_bandInfo ⟨Nat.le_of_ble_eq_true rfl, Nat.le_of_ble_eq_true rfl⟩ ⟨rfl, rfl⟩ (cg_ok hg) rfl (Nat.le_of_ble_eq_true rfl) rfl hl.1 hP hD hS dL_law_577 (fun H locs hP hD hS => ?_)
          obtain ⟨r_216, M_217, hc_218, h⟩ := cal_some h
          refine cl_Si (As := [.int x5, .int r_213]) (rest := []) C (ct_L_low hc_218) wl_515 wl_516 wl_98 wl_517 hd_L_low ⟨Nat.le_of_ble_eq_true rfl, Nat.le_of_ble_eq_true rfl⟩ ⟨rfl, rfl⟩ (cg_ok hg) rfl (Nat.le_of_ble_eq_true rfl) rfl hl.1 hP hD hS dL_law_580 (fun H locs hP hD hS => ?_)
          refine lv_istore (lv' := [(9, .int r_216), (8, .int s0), (0, .ref b), (1, .ref a1), (2, .int x2), (3, .int x3), (5, .int x5), (6, .int x6), (7, .int x7)]) hx hb dL_law_583 hl (by decide) rfl (fun ls hl => ?_)
          refine lv_iconst (v := 1) hx hb dL_law_585 (by decide) ?_
          refine lv_iload hx hb dL_law_586 (lv_at hl 6 rfl) ?_
          refine lv_bipush (v := 6) hx hb dL_law_588 (by decide) ?_
          refine lv_ishr hx hb dL_law_590 ?_
          refine lv_sipush (v := 4000) hx hb dL_law_591 (by decide) ?_
          obtain ⟨r_219, M_220, hc_221, h⟩ := cal_some h
          refine cl_Si (As := [.int (x5 >>> ((6 : Int32) &&& 31)), .int (4000 : Int32)]) (rest := [.int (1 : Int32)]) C (ct_L_low hc_221) wl_515 wl_516 wl_98 wl_517 hd_L_low ⟨Nat.le_of_ble_eq_true rfl, Nat.le_of_ble_eq_true rfl⟩ ⟨rfl, rfl⟩ (cg_ok hg) rfl (Nat.le_of_ble_eq_true rfl) rfl hl.1 hP hD hS dL_law_594 (fun H locs hP hD hS => ?_)
          refine lv_iadd hx hb dL_law_597 ?_
          refine lv_topi (fun v_222 ev_222 => ?_)
          replace h := bnd_at h ev_222
          refine lv_istore (lv' := [(10, .int v_222), (9, .int r_216), (8, .int s0), (0, .ref b), (1, .ref a1), (2, .int x2), (3, .int x3), (5, .int x5), (6, .int x6), (7, .int x7)]) hx hb dL_law_598 hl (by decide) rfl (fun ls hl => ?_)
          refine lv_aload_n hx hb dL_law_600 rfl (lv_at hl 4 rfl) ?_
          refine lv_iconst (v := 2) hx hb dL_law_601 (by decide) ?_
          obtain ⟨r_223, M_224, hc_225, h⟩ := cal_some h
          refine cl_Vi (As := [.int (2 : Int32)]) (rest := []) C (ct_X6_count hc_225) k_212 (by decide) rfl wl_103 wl_104 wl_105 wl_2 wl_106 hd_X6_count ⟨Nat.le_of_ble_eq_true rfl, Nat.le_of_ble_eq_true rfl⟩ ⟨rfl, rfl⟩ (cg_ok hg) rfl (Nat.le_of_ble_eq_true rfl) rfl hl.1 hP hD hS dL_law_602 (fun H locs hP hD hS => ?_)
          refine lv_istore (lv' := [(11, .int r_223), (10, .int v_222), (9, .int r_216), (8, .int s0), (0, .ref b), (1, .ref a1), (2, .int x2), (3, .int x3), (5, .int x5), (6, .int x6), (7, .int x7)]) hx hb dL_law_605 hl (by decide) rfl (fun ls hl => ?_)
          refine lv_aload_n hx hb dL_law_607 rfl (lv_at hl 5 rfl) ?_
          refine lv_iload hx hb dL_law_608 (lv_at hl 3 rfl) ?_
          refine lv_iload hx hb dL_law_610 (lv_at hl 2 rfl) ?_
          refine lv_iload hx hb dL_law_612 (lv_at hl 1 rfl) ?_
          obtain ⟨r_226, M_227, R_229, hc_228, h⟩ := calR_some h
          refine cl_Vi (As := [.int s0, .int r_216, .int v_222]) (rest := []) C (ct_X6_stake hc_228) k_212 (by decide) rfl wl_309 wl_310 wl_311 wl_2 wl_312 hd_X6_stake ⟨Nat.le_of_ble_eq_true rfl, Nat.le_of_ble_eq_true rfl⟩ ⟨rfl, rfl⟩ (cg_ok hg) rfl (Nat.le_of_ble_eq_true rfl) rfl hl.1 hP hD hS dL_law_614 (fun H locs hP hD hS => ?_)
          refine lv_istore (lv' := [(12, .int r_226), (11, .int r_223), (10, .int v_222), (9, .int r_216), (8, .int s0), (0, .ref b), (1, .ref a1), (2, .int x2), (3, .int x3), (5, .int x5), (6, .int x6), (7, .int x7)]) hx hb dL_law_617 hl (by decide) rfl (fun ls hl => ?_)
          refine lv_iload hx hb dL_law_619 (lv_at hl 0 rfl) ?_
          refine lv_iload hx hb dL_law_621 (lv_at hl 1 rfl) ?_
          refine lv_icmp_eq (tgt := 640) hx hb dL_law_623 (by decide) (fun c_230 => ?_) (fun c_230 => ?_)
          · replace h := ite_t h c_230
            exact (bs_L_law_640 C hX hbl hbA hj78) _ _ _ _ _ _ _ _ _ _ _ h hg hP hD hS _ (lv_sub hl [5, 6, 7, 8, 4, 3, 1, 0] rfl)
          · replace h := ite_f h c_230
            refine lv_iload hx hb dL_law_626 (lv_at hl 0 rfl) ?_
            refine lv_ldc (own := RL) (v := -2000000002) hx hb hown (hts _ wl_3) dL_law_628 ?_
            refine lv_icmp_eq (tgt := 640) hx hb dL_law_630 (by decide) (fun c_231 => ?_) (fun c_231 => ?_)
            · replace h := ite_t h c_231
              exact (bs_L_law_640 C hX hbl hbA hj78) _ _ _ _ _ _ _ _ _ _ _ h hg hP hD hS _ (lv_sub hl [5, 6, 7, 8, 4, 3, 1, 0] rfl)
            · replace h := ite_f h c_231
              refine lv_iload hx hb dL_law_633 (lv_at hl 0 rfl) ?_
              refine lv_ldc (own := RL) (v := -2000000003) hx hb hown (hts _ wl_5) dL_law_635 ?_
              refine lv_icmp_ne (tgt := 717) hx hb dL_law_637 (by decide) (fun c_232 => ?_) (fun c_232 => ?_)
              · replace h := ite_f h c_232
                refine lv_iconst (v := 0) hx hb dL_law_717 (by decide) ?_
                exact absurd (show some (0 : Int32) = some 1 from congrArg (Option.map Prod.fst) h) (by decide)
              · replace h := ite_t h c_232
                exact (bs_L_law_640 C hX hbl hbA hj78) _ _ _ _ _ _ _ _ _ _ _ h hg hP hD hS _ (lv_sub hl [5, 6, 7, 8, 4, 3, 1, 0] rfl)
    · replace h := ite_f h c_209
      refine lv_iload hx hb dL_law_402 (lv_at hl 5 rfl) ?_
      refine lv_bipush (v := 7) hx hb dL_law_404 (by decide) ?_
      obtain ⟨r_233, M_234, hc_235, h⟩ := cal_some h
      refine cl_Si (As := [.int x5, .int (7 : Int32)]) (rest := []) C (ct_L_low hc_235) wl_515 wl_516 wl_98 wl_517 hd_L_low ⟨Nat.le_of_ble_eq_true rfl, Nat.le_of_ble_eq_true rfl⟩ ⟨rfl, rfl⟩ (cg_ok hg) rfl (Nat.le_of_ble_eq_true rfl) rfl hl.1 hP hD hS dL_law_406 (fun H locs hP hD hS => ?_)
      refine lv_istore (lv' := [(9, .int r_233), (8, .int s0), (0, .ref b), (1, .ref a1), (2, .int x2), (3, .int x3), (5, .int x5), (6, .int x6), (7, .int x7)]) hx hb dL_law_409 hl (by decide) rfl (fun ls hl => ?_)
      refine lv_iload hx hb dL_law_411 (lv_at hl 6 rfl) ?_
      refine lv_iconst (v := 3) hx hb dL_law_413 (by decide) ?_
      refine lv_ishr hx hb dL_law_414 ?_
      refine lv_topi (fun v_236 ev_236 => ?_)
      replace h := bnd_at h ev_236
      refine lv_istore (lv' := [(10, .int v_236), (9, .int r_233), (8, .int s0), (0, .ref b), (1, .ref a1), (2, .int x2), (3, .int x3), (5, .int x5), (6, .int x6), (7, .int x7)]) hx hb dL_law_415 hl (by decide) rfl (fun ls hl => ?_)
      refine lv_iload hx hb dL_law_417 (lv_at hl 1 rfl) ?_
      refine lv_if_ne (tgt := 433) hx hb dL_law_419 (by decide) (fun c_237 => ?_) (fun c_237 => ?_)
      · replace h := ite_f h c_237
        refine lv_iload hx hb dL_law_433 (lv_at hl 1 rfl) ?_
        refine lv_iconst (v := 1) hx hb dL_law_435 (by decide) ?_
        refine lv_icmp_eq (tgt := 445) hx hb dL_law_436 (by decide) (fun c_238 => ?_) (fun c_238 => ?_)
        · replace h := ite_t h c_238
          exact (bs_L_law_445 C hX hbl hbA hj78) _ _ _ _ _ _ _ _ _ h hg hP hD hS _ (lv_sub hl [3, 4, 5, 6, 1, 0] rfl)
        · replace h := ite_f h c_238
          refine lv_iload hx hb dL_law_439 (lv_at hl 1 rfl) ?_
          refine lv_iconst (v := 3) hx hb dL_law_441 (by decide) ?_
          refine lv_icmp_ne (tgt := 455) hx hb dL_law_442 (by decide) (fun c_239 => ?_) (fun c_239 => ?_)
          · replace h := ite_f h c_239
            refine lv_iload hx hb dL_law_455 (lv_at hl 1 rfl) ?_
            refine lv_iconst (v := 2) hx hb dL_law_457 (by decide) ?_
            refine lv_icmp_ne (tgt := 472) hx hb dL_law_458 (by decide) (fun c_240 => ?_) (fun c_240 => ?_)
            · replace h := ite_f h c_240
              refine lv_iload hx hb dL_law_472 (lv_at hl 1 rfl) ?_
              refine lv_iconst (v := 4) hx hb dL_law_474 (by decide) ?_
              refine lv_icmp_ne (tgt := 489) hx hb dL_law_475 (by decide) (fun c_241 => ?_) (fun c_241 => ?_)
              · replace h := ite_f h c_241
                refine lv_iload hx hb dL_law_489 (lv_at hl 1 rfl) ?_
                refine lv_iconst (v := 5) hx hb dL_law_491 (by decide) ?_
                refine lv_icmp_ne (tgt := 508) hx hb dL_law_492 (by decide) (fun c_242 => ?_) (fun c_242 => ?_)
                · replace h := ite_f h c_242
                  refine lv_iload hx hb dL_law_508 (lv_at hl 0 rfl) ?_
                  refine lv_bipush (v := 6) hx hb dL_law_510 (by decide) ?_
                  obtain ⟨r_243, M_244, hc_245, h⟩ := cal_some h
                  refine cl_Si (As := [.int v_236, .int (6 : Int32)]) (rest := []) C (ct_L_low hc_245) wl_515 wl_516 wl_98 wl_517 hd_L_low ⟨Nat.le_of_ble_eq_true rfl, Nat.le_of_ble_eq_true rfl⟩ ⟨rfl, rfl⟩ (cg_ok hg) rfl (Nat.le_of_ble_eq_true rfl) rfl hl.1 hP hD hS dL_law_512 (fun H locs hP hD hS => ?_)
                  exact (bs_L_law_515 C hX hbl hbA hj78) _ _ _ _ _ _ _ _ _ h hg hP hD hS _ (lv_sub hl [3, 4, 5, 6, 1] rfl)
                · replace h := ite_t h c_242
                  refine lv_iconst (v := 1) hx hb dL_law_495 (by decide) ?_
                  refine lv_iload hx hb dL_law_496 (lv_at hl 0 rfl) ?_
                  refine lv_sipush (v := 5000) hx hb dL_law_498 (by decide) ?_
                  obtain ⟨r_246, M_247, hc_248, h⟩ := cal_some h
                  refine cl_Si (As := [.int v_236, .int (5000 : Int32)]) (rest := [.int (1 : Int32)]) C (ct_L_low hc_248) wl_515 wl_516 wl_98 wl_517 hd_L_low ⟨Nat.le_of_ble_eq_true rfl, Nat.le_of_ble_eq_true rfl⟩ ⟨rfl, rfl⟩ (cg_ok hg) rfl (Nat.le_of_ble_eq_true rfl) rfl hl.1 hP hD hS dL_law_501 (fun H locs hP hD hS => ?_)
                  refine lv_iadd hx hb dL_law_504 ?_
                  refine lv_goto (tgt := 515) hx hb dL_law_505 (by decide) ?_
                  exact (bs_L_law_515 C hX hbl hbA hj78) _ _ _ _ _ _ _ _ _ h hg hP hD hS _ (lv_sub hl [3, 4, 5, 6, 1] rfl)
              · replace h := ite_t h c_241
                refine lv_iload hx hb dL_law_478 (lv_at hl 0 rfl) ?_
                refine lv_sipush (v := 5001) hx hb dL_law_480 (by decide) ?_
                obtain ⟨r_249, M_250, hc_251, h⟩ := cal_some h
                refine cl_Si (As := [.int v_236, .int (5001 : Int32)]) (rest := []) C (ct_L_low hc_251) wl_515 wl_516 wl_98 wl_517 hd_L_low ⟨Nat.le_of_ble_eq_true rfl, Nat.le_of_ble_eq_true rfl⟩ ⟨rfl, rfl⟩ (cg_ok hg) rfl (Nat.le_of_ble_eq_true rfl) rfl hl.1 hP hD hS dL_law_483 (fun H locs hP hD hS => ?_)
                refine lv_goto (tgt := 515) hx hb dL_law_486 (by decide) ?_
                exact (bs_L_law_515 C hX hbl hbA hj78) _ _ _ _ _ _ _ _ _ h hg hP hD hS _ (lv_sub hl [3, 4, 5, 6, 1] rfl)
            · replace h := ite_t h c_240
              refine lv_iload hx hb dL_law_461 (lv_at hl 0 rfl) ?_
              refine lv_sipush (v := 3000) hx hb dL_law_463 (by decide) ?_
              obtain ⟨r_252, M_253, hc_254, h⟩ := cal_some h
              refine cl_Si (As := [.int v_236, .int (3000 : Int32)]) (rest := []) C (ct_L_low hc_254) wl_515 wl_516 wl_98 wl_517 hd_L_low ⟨Nat.le_of_ble_eq_true rfl, Nat.le_of_ble_eq_true rfl⟩ ⟨rfl, rfl⟩ (cg_ok hg) rfl (Nat.le_of_ble_eq_true rfl) rfl hl.1 hP hD hS dL_law_466 (fun H locs hP hD hS => ?_)
              refine lv_goto (tgt := 515) hx hb dL_law_469 (by decide) ?_
              exact (bs_L_law_515 C hX hbl hbA hj78) _ _ _ _ _ _ _ _ _ h hg hP hD hS _ (lv_sub hl [3, 4, 5, 6, 1] rfl)
          · replace h := ite_t h c_239
            exact (bs_L_law_445 C hX hbl hbA hj78) _ _ _ _ _ _ _ _ _ h hg hP hD hS _ (lv_sub hl [3, 4, 5, 6, 1, 0] rfl)
      · replace h := ite_t h c_237
        refine lv_iload hx hb dL_law_422 (lv_at hl 0 rfl) ?_
        refine lv_sipush (v := 2500) hx hb dL_law_424 (by decide) ?_
        obtain ⟨r_255, M_256, hc_257, h⟩ := cal_some h
        refine cl_Si (As := [.int v_236, .int (2500 : Int32)]) (rest := []) C (ct_L_low hc_257) wl_515 wl_516 wl_98 wl_517 hd_L_low ⟨Nat.le_of_ble_eq_true rfl, Nat.le_of_ble_eq_true rfl⟩ ⟨rfl, rfl⟩ (cg_ok hg) rfl (Nat.le_of_ble_eq_true rfl) rfl hl.1 hP hD hS dL_law_427 (fun H locs hP hD hS => ?_)
        refine lv_goto (tgt := 515) hx hb dL_law_430 (by decide) ?_
        exact (bs_L_law_515 C hX hbl hbA hj78) _ _ _ _ _ _ _ _ _ h hg hP hD hS _ (lv_sub hl [3, 4, 5, 6, 1] rfl)
  · replace h := ite_t h c_208
    refine lv_iload hx hb dL_law_163 (lv_at hl 5 rfl) ?_
    refine lv_bipush (v := 20) hx hb dL_law_165 (by decide) ?_
    refine lv_ishr hx hb dL_law_167 ?_
    refine lv_iconst (v := 4) hx hb dL_law_168 (by decide) ?_
    obtain ⟨r_258, M_259, hc_260, h⟩ := cal_some h
    refine cl_Si (As := [.int (x5 >>> ((20 : Int32) &&& 31)), .int (4 : Int32)]) (rest := []) C (ct_L_low hc_260) wl_515 wl_516 wl_98 wl_517 hd_L_low ⟨Nat.le_of_ble_eq_true rfl, Nat.le_of_ble_eq_true rfl⟩ ⟨rfl, rfl⟩ (cg_ok hg) rfl (Nat.le_of_ble_eq_true rfl) rfl hl.1 hP hD hS dL_law_169 (fun H locs hP hD hS => ?_)
    refine lv_if_ne (tgt := 179) hx hb dL_law_172 (by decide) (fun c_261 => ?_) (fun c_261 => ?_)
    · replace h := ite_f h c_261
      refine lv_iload_n hx hb dL_law_179 rfl (lv_at hl 3 rfl) ?_
      refine lv_iconst (v := 1) hx hb dL_law_180 (by decide) ?_
      refine lv_isub hx hb dL_law_181 ?_
      refine lv_iload hx hb dL_law_182 (lv_at hl 5 rfl) ?_
      refine lv_sipush (v := 600) hx hb dL_law_184 (by decide) ?_
      obtain ⟨r_262, M_263, hc_264, h⟩ := cal_some h
      refine cl_Si (As := [.int x5, .int (600 : Int32)]) (rest := [.int (x2 - (1 : Int32))]) C (ct_L_low hc_264) wl_515 wl_516 wl_98 wl_517 hd_L_low ⟨Nat.le_of_ble_eq_true rfl, Nat.le_of_ble_eq_true rfl⟩ ⟨rfl, rfl⟩ (cg_ok hg) rfl (Nat.le_of_ble_eq_true rfl) rfl hl.1 hP hD hS dL_law_187 (fun H locs hP hD hS => ?_)
      refine lv_isub hx hb dL_law_190 ?_
      exact (bs_L_law_191 C hX hbl hbA hj78) _ _ _ _ _ _ _ _ _ _ h hg hP hD hS _ (lv_sub hl [1, 2, 3, 4, 5, 6] rfl)
    · replace h := ite_t h c_261
      refine lv_iload_n hx hb dL_law_175 rfl (lv_at hl 3 rfl) ?_
      refine lv_goto (tgt := 191) hx hb dL_law_176 (by decide) ?_
      exact (bs_L_law_191 C hX hbl hbA hj78) _ _ _ _ _ _ _ _ _ _ h hg hP hD hS _ (lv_sub hl [1, 2, 3, 4, 5, 6] rfl)
set_option maxHeartbeats 8000000 in
set_option maxRecDepth 100000 in
theorem bs_L_law_136 {p : Program} {l : Launch} {e : Env} {s : State} {m : MethodId} {below : List Frame} {meth : Method} {c : Code} {D : va_G} {cy : Cy} {T : Ty} {R9 : Rm} {M9 : Mm} {b L : Nat} {xs : Nat → Int32} {a1 : Nat} {j78 : Int32 → Int32 → Nat → Mm → Rm → Option (Int32 × Mm × Rm)} (C : Cx RL cL_law 15 ret p s m #[Value.ref b] meth c D cy (fun q : Nat => s.heap.size ≤ q)) (hX : va_X b L xs s s.heap) (hbl : b < s.heap.size) (hbA : ¬ (fun q : Nat => s.heap.size ≤ q) b)
    (hj78 : ∀ (x2 : Int32) (x3 : Int32) (g : Nat) (M : Mm) (R : Rm) (H : Heap) (locs : List Loc), j78 x2 x3 g M R = some (1, M9, R9) → g ≤ 1000 → va_P D vwCl (WL cy T M R) H → va_D (fun q : Nat => s.heap.size ≤ q) (WL cy T M R) → va_S (fun q : Nat => s.heap.size ≤ q) s.heap H locs → ∀ ls : Array Slot, lv_has ls 15 [(0, .ref b), (1, .ref a1), (2, .int x2), (3, .int x3)] → W p l e room_1 s m #[Value.ref b] below meth c H locs (250 + 3 * g) (49235 + 30 * g) (lw_Z below #[Value.ref b] s) (F0 m 78 ls [])) :
    ∀ (x2 : Int32) (x3 : Int32) (x4 : Int32) (x5 : Int32) (x6 : Int32) (g : Nat) (s0 : Int32) (M : Mm) (R : Rm) (H : Heap) (locs : List Loc), fs_L_law_136 T L xs a1 j78 x2 x3 x4 x5 x6 g s0 M R = some (1, M9, R9) → g ≤ 1000 → va_P D vwCl (WL cy T M R) H → va_D (fun q : Nat => s.heap.size ≤ q) (WL cy T M R) → va_S (fun q : Nat => s.heap.size ≤ q) s.heap H locs → ∀ ls : Array Slot, lv_has ls 15 [(0, .ref b), (1, .ref a1), (2, .int x2), (3, .int x3), (4, .int x4), (5, .int x5), (6, .int x6)] → W p l e room_1 s m #[Value.ref b] below meth c H locs (250 + 3 * g) (49235 + 30 * g) (lw_Z below #[Value.ref b] s) (F0 m 136 ls [.int s0]) := by
  intro x2 x3 x4 x5 x6 g s0 M R H locs h hg hP hD hS ls hl
  unfold fs_L_law_136 at h
  obtain ⟨hx, hb, hr, hml, hown, hts, hK, hA, hlk, hSt⟩ := id C
  refine lv_istore (lv' := [(7, .int s0), (0, .ref b), (1, .ref a1), (2, .int x2), (3, .int x3), (4, .int x4), (5, .int x5), (6, .int x6)]) hx hb dL_law_136 hl (by decide) rfl (fun ls hl => ?_)
  refine lv_iload hx hb dL_law_138 (lv_at hl 7 rfl) ?_
  refine lv_if_ne (tgt := 147) hx hb dL_law_140 (by decide) (fun c_265 => ?_) (fun c_265 => ?_)
  · replace h := ite_f h c_265
    refine lv_iload hx hb dL_law_147 (lv_at hl 5 rfl) ?_
    refine lv_iconst (v := 5) hx hb dL_law_149 (by decide) ?_
    refine lv_ishr hx hb dL_law_150 ?_
    refine lv_iload hx hb dL_law_151 (lv_at hl 7 rfl) ?_
    obtain ⟨r_266, M_267, hc_268, h⟩ := cal_some h
    refine cl_Si (As := [.int (x4 >>> ((5 : Int32) &&& 31)), .int x6]) (rest := []) C (ct_L_low hc_268) wl_515 wl_516 wl_98 wl_517 hd_L_low ⟨Nat.le_of_ble_eq_true rfl, Nat.le_of_ble_eq_true rfl⟩ ⟨rfl, rfl⟩ (cg_ok hg) rfl (Nat.le_of_ble_eq_true rfl) rfl hl.1 hP hD hS dL_law_153 (fun H locs hP hD hS => ?_)
    exact (bs_L_law_156 C hX hbl hbA hj78) _ _ _ _ _ _ _ _ _ _ _ h hg hP hD hS _ (lv_sub hl [1, 2, 3, 4, 6, 7, 0] rfl)
  · replace h := ite_t h c_265
    refine lv_iconst (v := 0) hx hb dL_law_143 (by decide) ?_
    refine lv_goto (tgt := 156) hx hb dL_law_144 (by decide) ?_
    exact (bs_L_law_156 C hX hbl hbA hj78) _ _ _ _ _ _ _ _ _ _ _ h hg hP hD hS _ (lv_sub hl [1, 2, 3, 4, 6, 7, 0] rfl)
set_option maxHeartbeats 8000000 in
set_option maxRecDepth 100000 in
theorem bs_L_law_78 {p : Program} {l : Launch} {e : Env} {s : State} {m : MethodId} {below : List Frame} {meth : Method} {c : Code} {D : va_G} {cy : Cy} {T : Ty} {R9 : Rm} {M9 : Mm} {b L : Nat} {xs : Nat → Int32} {a1 : Nat} {j78 : Int32 → Int32 → Nat → Mm → Rm → Option (Int32 × Mm × Rm)} (C : Cx RL cL_law 15 ret p s m #[Value.ref b] meth c D cy (fun q : Nat => s.heap.size ≤ q)) (hX : va_X b L xs s s.heap) (hbl : b < s.heap.size) (hbA : ¬ (fun q : Nat => s.heap.size ≤ q) b)
    (hj78 : ∀ (x2 : Int32) (x3 : Int32) (g : Nat) (M : Mm) (R : Rm) (H : Heap) (locs : List Loc), j78 x2 x3 g M R = some (1, M9, R9) → g ≤ 1000 → va_P D vwCl (WL cy T M R) H → va_D (fun q : Nat => s.heap.size ≤ q) (WL cy T M R) → va_S (fun q : Nat => s.heap.size ≤ q) s.heap H locs → ∀ ls : Array Slot, lv_has ls 15 [(0, .ref b), (1, .ref a1), (2, .int x2), (3, .int x3)] → W p l e room_1 s m #[Value.ref b] below meth c H locs (250 + 3 * g) (49235 + 30 * g) (lw_Z below #[Value.ref b] s) (F0 m 78 ls [])) :
    ∀ (x2 : Int32) (x3 : Int32) (g : Nat) (M : Mm) (R : Rm) (H : Heap) (locs : List Loc), fs_L_law_78 T L xs a1 j78 x2 x3 g M R = some (1, M9, R9) → g ≤ 1000 → va_P D vwCl (WL cy T M R) H → va_D (fun q : Nat => s.heap.size ≤ q) (WL cy T M R) → va_S (fun q : Nat => s.heap.size ≤ q) s.heap H locs → ∀ ls : Array Slot, lv_has ls 15 [(0, .ref b), (1, .ref a1), (2, .int x2), (3, .int x3)] → W p l e room_1 s m #[Value.ref b] below meth c H locs (250 + 3 * g) (49235 + 30 * g) (lw_Z below #[Value.ref b] s) (F0 m 78 ls []) := by
  intro x2 x3 g M R H locs h hg hP hD hS ls hl
  unfold fs_L_law_78 at h
  obtain ⟨hx, hb, hr, hml, hown, hts, hK, hA, hlk, hSt⟩ := id C
  refine lv_iload_n hx hb dL_law_78 rfl (lv_at hl 3 rfl) ?_
  refine lv_bipush (v := 50) hx hb dL_law_79 (by decide) ?_
  refine lv_icmp_ge (tgt := 1066) hx hb dL_law_81 (by decide) (fun c_269 => ?_) (fun c_269 => ?_)
  · replace h := ite_t h c_269
    refine lv_aload_n hx hb dL_law_1066 rfl (lv_at hl 1 rfl) ?_
    obtain ⟨r_270, M_271, R_273, hc_272, h⟩ := calR_some h
    refine cl_Si (As := [.ref a1]) (rest := []) C (ct_L_refuses hc_272) wl_96 wl_97 wl_98 wl_99 hd_L_refuses ⟨Nat.le_of_ble_eq_true rfl, Nat.le_of_ble_eq_true rfl⟩ ⟨rfl, rfl⟩ (cg_ok hg) rfl (Nat.le_of_ble_eq_true rfl) rfl hl.1 hP hD hS dL_law_1067 (fun H locs hP hD hS => ?_)
    refine lv_if_eq (tgt := 1090) hx hb dL_law_1070 (by decide) (fun c_274 => ?_) (fun c_274 => ?_)
    · replace h := ite_t h c_274
      refine lv_iconst (v := 0) hx hb dL_law_1090 (by decide) ?_
      exact absurd (show some (0 : Int32) = some 1 from congrArg (Option.map Prod.fst) h) (by decide)
    · replace h := ite_f h c_274
      refine lv_aload_n hx hb dL_law_1073 rfl (lv_at hl 1 rfl) ?_
      refine lv_aload_n hx hb dL_law_1074 rfl (lv_at hl 0 rfl) ?_
      refine lv_bipush (v := 101) hx hb dL_law_1075 (by decide) ?_
      obtain ⟨r_275, hc_276, h⟩ := calX_some h
      refine cl_X (As := [.ref b, .int (101 : Int32)]) (rest := [.ref a1]) C hX hbl hbA (ct_L_lot hc_276) wl_511 wl_512 wl_98 wl_513 hd_L_lot ⟨Nat.le_of_ble_eq_true rfl, Nat.le_of_ble_eq_true rfl⟩ ⟨rfl, rfl⟩ (cg_ok hg) rfl (Nat.le_of_ble_eq_true rfl) rfl hl.1 hP hD hS dL_law_1077 (fun H locs hP hD hS => ?_)
      obtain ⟨r_277, M_278, R_280, hc_279, h⟩ := calR_some h
      refine cl_Si (As := [.ref a1, .int r_275]) (rest := []) C (ct_L_thoughts hc_279) wl_523 wl_524 wl_98 wl_525 hd_L_thoughts ⟨Nat.le_of_ble_eq_true rfl, Nat.le_of_ble_eq_true rfl⟩ ⟨rfl, rfl⟩ (cg_ok hg) rfl (Nat.le_of_ble_eq_true rfl) rfl hl.1 hP hD hS dL_law_1080 (fun H locs hP hD hS => ?_)
      refine lv_if_eq (tgt := 1090) hx hb dL_law_1083 (by decide) (fun c_281 => ?_) (fun c_281 => ?_)
      · replace h := ite_t h c_281
        refine lv_iconst (v := 0) hx hb dL_law_1090 (by decide) ?_
        exact absurd (show some (0 : Int32) = some 1 from congrArg (Option.map Prod.fst) h) (by decide)
      · replace h := ite_f h c_281
        refine lv_iconst (v := 1) hx hb dL_law_1086 (by decide) ?_
        refine lv_goto (tgt := 1091) hx hb dL_law_1087 (by decide) ?_
        refine va_forget (fun q hq => hS.2.2 q hq) ?_
        refine W.widen (k := 600000) (n := 7302250) (cg_ok hg).1 (cg_ok hg).2 ?_
        exact lw_ret hx hb hr hlk dL_law_1091
  · replace h := ite_f h c_269
    refine lv_aload_n hx hb dL_law_84 rfl (lv_at hl 0 rfl) ?_
    refine lv_iconst (v := 2) hx hb dL_law_85 (by decide) ?_
    refine lv_iload_n hx hb dL_law_86 rfl (lv_at hl 3 rfl) ?_
    refine lv_imul hx hb dL_law_87 ?_
    obtain ⟨r_282, hc_283, h⟩ := calX_some h
    refine cl_X (As := [.ref b, .int ((2 : Int32) * x3)]) (rest := []) C hX hbl hbA (ct_L_lot hc_283) wl_511 wl_512 wl_98 wl_513 hd_L_lot ⟨Nat.le_of_ble_eq_true rfl, Nat.le_of_ble_eq_true rfl⟩ ⟨rfl, rfl⟩ (cg_ok hg) rfl (Nat.le_of_ble_eq_true rfl) rfl hl.1 hP hD hS dL_law_88 (fun H locs hP hD hS => ?_)
    refine lv_istore (lv' := [(4, .int r_282), (0, .ref b), (1, .ref a1), (2, .int x2), (3, .int x3)]) hx hb dL_law_91 hl (by decide) rfl (fun ls hl => ?_)
    refine lv_aload_n hx hb dL_law_93 rfl (lv_at hl 1 rfl) ?_
    refine lv_iconst (v := 2) hx hb dL_law_94 (by decide) ?_
    refine lv_iload_n hx hb dL_law_95 rfl (lv_at hl 4 rfl) ?_
    refine lv_imul hx hb dL_law_96 ?_
    refine lv_iconst (v := 1) hx hb dL_law_97 (by decide) ?_
    refine lv_iadd hx hb dL_law_98 ?_
    obtain ⟨r_284, hc_285, h⟩ := calX_some h
    refine cl_X (As := [.ref b, .int (((2 : Int32) * x3) + (1 : Int32))]) (rest := []) C hX hbl hbA (ct_L_lot hc_285) wl_511 wl_512 wl_98 wl_513 hd_L_lot ⟨Nat.le_of_ble_eq_true rfl, Nat.le_of_ble_eq_true rfl⟩ ⟨rfl, rfl⟩ (cg_ok hg) rfl (Nat.le_of_ble_eq_true rfl) rfl hl.1 hP hD hS dL_law_99 (fun H locs hP hD hS => ?_)
    refine lv_istore (lv' := [(5, .int r_284), (4, .int r_282), (0, .ref b), (1, .ref a1), (2, .int x2), (3, .int x3)]) hx hb dL_law_102 hl (by decide) rfl (fun ls hl => ?_)
    refine lv_aload_n hx hb dL_law_104 rfl (lv_at hl 3 rfl) ?_
    refine lv_iconst (v := 0) hx hb dL_law_105 (by decide) ?_
    obtain ⟨k_286, h⟩ := chk_some h
    obtain ⟨r_287, M_288, hc_289, h⟩ := cal_some h
    refine cl_Vi (As := [.int (0 : Int32)]) (rest := []) C (ct_X6_count hc_289) k_286 (by decide) rfl wl_103 wl_104 wl_105 wl_2 wl_106 hd_X6_count ⟨Nat.le_of_ble_eq_true rfl, Nat.le_of_ble_eq_true rfl⟩ ⟨rfl, rfl⟩ (cg_ok hg) rfl (Nat.le_of_ble_eq_true rfl) rfl hl.1 hP hD hS dL_law_106 (fun H locs hP hD hS => ?_)
    refine lv_istore (lv' := [(6, .int r_287), (5, .int r_284), (4, .int r_282), (0, .ref b), (1, .ref a1), (2, .int x2), (3, .int x3)]) hx hb dL_law_109 hl (by decide) rfl (fun ls hl => ?_)
    refine lv_iload_n hx hb dL_law_111 rfl (lv_at hl 6 rfl) ?_
    refine lv_iconst (v := 3) hx hb dL_law_112 (by decide) ?_
    refine lv_icmp_ge (tgt := 120) hx hb dL_law_113 (by decide) (fun c_290 => ?_) (fun c_290 => ?_)
    · replace h := ite_t h c_290
      refine lv_iload_n hx hb dL_law_120 rfl (lv_at hl 6 rfl) ?_
      refine lv_iconst (v := 5) hx hb dL_law_121 (by decide) ?_
      refine lv_icmp_ge (tgt := 129) hx hb dL_law_122 (by decide) (fun c_291 => ?_) (fun c_291 => ?_)
      · replace h := ite_t h c_291
        refine lv_iload hx hb dL_law_129 (lv_at hl 2 rfl) ?_
        refine lv_bipush (v := 14) hx hb dL_law_131 (by decide) ?_
        obtain ⟨r_292, M_293, hc_294, h⟩ := cal_some h
        refine cl_Si (As := [.int r_282, .int (14 : Int32)]) (rest := []) C (ct_L_low hc_294) wl_515 wl_516 wl_98 wl_517 hd_L_low ⟨Nat.le_of_ble_eq_true rfl, Nat.le_of_ble_eq_true rfl⟩ ⟨rfl, rfl⟩ (cg_ok hg) rfl (Nat.le_of_ble_eq_true rfl) rfl hl.1 hP hD hS dL_law_133 (fun H locs hP hD hS => ?_)
        exact (bs_L_law_136 C hX hbl hbA hj78) _ _ _ _ _ _ _ _ _ _ _ h hg hP hD hS _ (lv_sub hl [3, 4, 5, 6, 2, 1, 0] rfl)
      · replace h := ite_f h c_291
        refine lv_iconst (v := 3) hx hb dL_law_125 (by decide) ?_
        refine lv_goto (tgt := 136) hx hb dL_law_126 (by decide) ?_
        exact (bs_L_law_136 C hX hbl hbA hj78) _ _ _ _ _ _ _ _ _ _ _ h hg hP hD hS _ (lv_sub hl [3, 4, 5, 6, 2, 1, 0] rfl)
    · replace h := ite_f h c_290
      refine lv_iconst (v := 0) hx hb dL_law_116 (by decide) ?_
      refine lv_goto (tgt := 136) hx hb dL_law_117 (by decide) ?_
      exact (bs_L_law_136 C hX hbl hbA hj78) _ _ _ _ _ _ _ _ _ _ _ h hg hP hD hS _ (lv_sub hl [3, 4, 5, 6, 2, 1, 0] rfl)
theorem bt_L_law_78 {p : Program} {l : Launch} {e : Env} {s : State} {m : MethodId} {below : List Frame} {meth : Method} {c : Code} {D : va_G} {cy : Cy} {T : Ty} {R9 : Rm} {M9 : Mm} {b L : Nat} {xs : Nat → Int32} {a1 : Nat} (C : Cx RL cL_law 15 ret p s m #[Value.ref b] meth c D cy (fun q : Nat => s.heap.size ≤ q)) (hX : va_X b L xs s s.heap) (hbl : b < s.heap.size) (hbA : ¬ (fun q : Nat => s.heap.size ≤ q) b) :
    ∀ n : Nat, ∀ (x2 : Int32) (x3 : Int32) (g : Nat) (M : Mm) (R : Rm) (H : Heap) (locs : List Loc), fb_L_law_78 T L xs a1 n x2 x3 g M R = some (1, M9, R9) → g ≤ 1000 → va_P D vwCl (WL cy T M R) H → va_D (fun q : Nat => s.heap.size ≤ q) (WL cy T M R) → va_S (fun q : Nat => s.heap.size ≤ q) s.heap H locs → ∀ ls : Array Slot, lv_has ls 15 [(0, .ref b), (1, .ref a1), (2, .int x2), (3, .int x3)] → W p l e room_1 s m #[Value.ref b] below meth c H locs (250 + 3 * g) (49235 + 30 * g) (lw_Z below #[Value.ref b] s) (F0 m 78 ls []) := by
  intro n
  induction n with
  | zero =>
    intro _ _ _ _ _ H locs h
    exact absurd (show (none : Option (Int32 × Mm × Rm)) = some _ from h) (by simp)
  | succ n ih => exact fun u0 u1 u2 u3 u4 H locs h => bs_L_law_78 (a1 := a1) C hX hbl hbA ih u0 u1 u2 u3 u4 H locs h
set_option maxHeartbeats 8000000 in
set_option maxRecDepth 100000 in
theorem bs_L_law_8 {p : Program} {l : Launch} {e : Env} {s : State} {m : MethodId} {below : List Frame} {meth : Method} {c : Code} {D : va_G} {cy : Cy} {T : Ty} {R9 : Rm} {M9 : Mm} {b L : Nat} {xs : Nat → Int32} {a1 : Nat} (C : Cx RL cL_law 15 ret p s m #[Value.ref b] meth c D cy (fun q : Nat => s.heap.size ≤ q)) (hX : va_X b L xs s s.heap) (hbl : b < s.heap.size) (hbA : ¬ (fun q : Nat => s.heap.size ≤ q) b) :
    ∀ (g : Nat) (M : Mm) (R : Rm) (H : Heap) (locs : List Loc), fs_L_law_8 T L xs a1 g M R = some (1, M9, R9) → g ≤ 1000 → va_P D vwCl (WL cy T M R) H → va_D (fun q : Nat => s.heap.size ≤ q) (WL cy T M R) → va_S (fun q : Nat => s.heap.size ≤ q) s.heap H locs → ∀ ls : Array Slot, lv_has ls 15 [(0, .ref b), (1, .ref a1)] → W p l e room_1 s m #[Value.ref b] below meth c H locs (250 + 3 * g) (49235 + 30 * g) (lw_Z below #[Value.ref b] s) (F0 m 8 ls []) := by
  intro g M R H locs h hg hP hD hS ls hl
  unfold fs_L_law_8 at h
  obtain ⟨hx, hb, hr, hml, hown, hts, hK, hA, hlk, hSt⟩ := id C
  refine lv_aload_n hx hb dL_law_8 rfl (lv_at hl 1 rfl) ?_
  obtain ⟨r_295, M_296, R_298, hc_297, h⟩ := calR_some h
  refine cl_Si (As := [.ref a1]) (rest := []) C (ct_L_refuses hc_297) wl_96 wl_97 wl_98 wl_99 hd_L_refuses ⟨Nat.le_of_ble_eq_true rfl, Nat.le_of_ble_eq_true rfl⟩ ⟨rfl, rfl⟩ (cg_ok hg) rfl (Nat.le_of_ble_eq_true rfl) rfl hl.1 hP hD hS dL_law_9 (fun H locs hP hD hS => ?_)
  refine lv_if_eq (tgt := 70) hx hb dL_law_12 (by decide) (fun c_299 => ?_) (fun c_299 => ?_)
  · replace h := ite_t h c_299
    refine lv_iconst (v := 0) hx hb dL_law_70 (by decide) ?_
    exact absurd (show some (0 : Int32) = some 1 from congrArg (Option.map Prod.fst) h) (by decide)
  · replace h := ite_f h c_299
    refine lv_aload_n hx hb dL_law_15 rfl (lv_at hl 1 rfl) ?_
    obtain ⟨k_300, h⟩ := chk_some h
    obtain ⟨r_301, M_302, R_304, hc_303, h⟩ := calR_some h
    refine cl_Vi (As := []) (rest := []) C (ct_X6_undo hc_303) k_300 (by decide) rfl wl_492 wl_493 wl_494 wl_2 wl_495 hd_X6_undo ⟨Nat.le_of_ble_eq_true rfl, Nat.le_of_ble_eq_true rfl⟩ ⟨rfl, rfl⟩ (cg_ok hg) rfl (Nat.le_of_ble_eq_true rfl) rfl hl.1 hP hD hS dL_law_16 (fun H locs hP hD hS => ?_)
    refine lv_ldc (own := RL) (v := -2000000002) hx hb hown (hts _ wl_3) dL_law_19 ?_
    refine lv_icmp_ne (tgt := 70) hx hb dL_law_21 (by decide) (fun c_305 => ?_) (fun c_305 => ?_)
    · replace h := ite_f h c_305
      refine lv_iconst (v := 0) hx hb dL_law_70 (by decide) ?_
      exact absurd (show some (0 : Int32) = some 1 from congrArg (Option.map Prod.fst) h) (by decide)
    · replace h := ite_t h c_305
      refine lv_aload_n hx hb dL_law_24 rfl (lv_at hl 1 rfl) ?_
      obtain ⟨r_306, M_307, hc_308, h⟩ := cal_some h
      refine cl_Si (As := [.ref a1]) (rest := []) C (ct_L_sound hc_308) wl_496 wl_497 wl_98 wl_498 hd_L_sound ⟨Nat.le_of_ble_eq_true rfl, Nat.le_of_ble_eq_true rfl⟩ ⟨rfl, rfl⟩ (cg_ok hg) rfl (Nat.le_of_ble_eq_true rfl) rfl hl.1 hP hD hS dL_law_25 (fun H locs hP hD hS => ?_)
      refine lv_if_eq (tgt := 70) hx hb dL_law_28 (by decide) (fun c_309 => ?_) (fun c_309 => ?_)
      · replace h := ite_t h c_309
        refine lv_iconst (v := 0) hx hb dL_law_70 (by decide) ?_
        exact absurd (show some (0 : Int32) = some 1 from congrArg (Option.map Prod.fst) h) (by decide)
      · replace h := ite_f h c_309
        refine lv_aload_n hx hb dL_law_31 rfl (lv_at hl 1 rfl) ?_
        refine lv_iconst (v := 1) hx hb dL_law_32 (by decide) ?_
        obtain ⟨r_310, M_311, R_313, hc_312, h⟩ := calR_some h
        refine cl_Vi (As := [.int (1 : Int32)]) (rest := []) C (ct_X6_years hc_312) k_300 (by decide) rfl wl_355 wl_356 wl_357 wl_2 wl_358 hd_X6_years ⟨Nat.le_of_ble_eq_true rfl, Nat.le_of_ble_eq_true rfl⟩ ⟨rfl, rfl⟩ (cg_ok hg) rfl (Nat.le_of_ble_eq_true rfl) rfl hl.1 hP hD hS dL_law_33 (fun H locs hP hD hS => ?_)
        refine lv_ldc (own := RL) (v := -2000000002) hx hb hown (hts _ wl_3) dL_law_36 ?_
        refine lv_icmp_ne (tgt := 70) hx hb dL_law_38 (by decide) (fun c_314 => ?_) (fun c_314 => ?_)
        · replace h := ite_f h c_314
          refine lv_iconst (v := 0) hx hb dL_law_70 (by decide) ?_
          exact absurd (show some (0 : Int32) = some 1 from congrArg (Option.map Prod.fst) h) (by decide)
        · replace h := ite_t h c_314
          refine lv_aload_n hx hb dL_law_41 rfl (lv_at hl 1 rfl) ?_
          refine lv_iconst (v := 0) hx hb dL_law_42 (by decide) ?_
          obtain ⟨r_315, M_316, hc_317, h⟩ := cal_some h
          refine cl_Vi (As := [.int (0 : Int32)]) (rest := []) C (ct_X6_yearsTo hc_317) k_300 (by decide) rfl wl_430 wl_431 wl_432 wl_2 wl_433 hd_X6_yearsTo ⟨Nat.le_of_ble_eq_true rfl, Nat.le_of_ble_eq_true rfl⟩ ⟨rfl, rfl⟩ (cg_ok hg) rfl (Nat.le_of_ble_eq_true rfl) rfl hl.1 hP hD hS dL_law_43 (fun H locs hP hD hS => ?_)
          refine lv_ldc (own := RL) (v := -2000000002) hx hb hown (hts _ wl_3) dL_law_46 ?_
          refine lv_icmp_ne (tgt := 70) hx hb dL_law_48 (by decide) (fun c_318 => ?_) (fun c_318 => ?_)
          · replace h := ite_f h c_318
            refine lv_iconst (v := 0) hx hb dL_law_70 (by decide) ?_
            exact absurd (show some (0 : Int32) = some 1 from congrArg (Option.map Prod.fst) h) (by decide)
          · replace h := ite_t h c_318
            refine lv_aload_n hx hb dL_law_51 rfl (lv_at hl 1 rfl) ?_
            obtain ⟨r_319, M_320, hc_321, h⟩ := cal_some h
            refine cl_Vi (As := []) (rest := []) C (ct_X6_steadyMelt hc_321) k_300 (by decide) rfl wl_503 wl_504 wl_505 wl_2 wl_506 hd_X6_steadyMelt ⟨Nat.le_of_ble_eq_true rfl, Nat.le_of_ble_eq_true rfl⟩ ⟨rfl, rfl⟩ (cg_ok hg) rfl (Nat.le_of_ble_eq_true rfl) rfl hl.1 hP hD hS dL_law_52 (fun H locs hP hD hS => ?_)
            refine lv_ldc (own := RL) (v := -2000000002) hx hb hown (hts _ wl_3) dL_law_55 ?_
            refine lv_icmp_ne (tgt := 70) hx hb dL_law_57 (by decide) (fun c_322 => ?_) (fun c_322 => ?_)
            · replace h := ite_f h c_322
              refine lv_iconst (v := 0) hx hb dL_law_70 (by decide) ?_
              exact absurd (show some (0 : Int32) = some 1 from congrArg (Option.map Prod.fst) h) (by decide)
            · replace h := ite_t h c_322
              refine lv_aload_n hx hb dL_law_60 rfl (lv_at hl 1 rfl) ?_
              refine lv_iconst (v := 0) hx hb dL_law_61 (by decide) ?_
              obtain ⟨r_323, M_324, hc_325, h⟩ := cal_some h
              refine cl_Vi (As := [.int (0 : Int32)]) (rest := []) C (ct_X6_fault hc_325) k_300 (by decide) rfl wl_447 wl_448 wl_449 wl_2 wl_450 hd_X6_fault ⟨Nat.le_of_ble_eq_true rfl, Nat.le_of_ble_eq_true rfl⟩ ⟨rfl, rfl⟩ (cg_ok hg) rfl (Nat.le_of_ble_eq_true rfl) rfl hl.1 hP hD hS dL_law_62 (fun H locs hP hD hS => ?_)
              refine lv_ldc (own := RL) (v := -2000000004) hx hb hown (hts _ wl_4) dL_law_65 ?_
              refine lv_icmp_eq (tgt := 72) hx hb dL_law_67 (by decide) (fun c_326 => ?_) (fun c_326 => ?_)
              · replace h := ite_t h c_326
                refine lv_sipush (v := 5000) hx hb dL_law_72 (by decide) ?_
                refine lv_istore_n (lv' := [(2, .int (5000 : Int32)), (0, .ref b), (1, .ref a1)]) hx hb dL_law_75 rfl hl (by decide) rfl (fun ls hl => ?_)
                refine lv_iconst (v := 0) hx hb dL_law_76 (by decide) ?_
                refine lv_istore_n (lv' := [(3, .int (0 : Int32)), (2, .int (5000 : Int32)), (0, .ref b), (1, .ref a1)]) hx hb dL_law_77 rfl hl (by decide) rfl (fun ls hl => ?_)
                exact (bt_L_law_78 C hX hbl hbA FU) _ _ _ _ _ _ _ h hg hP hD hS _ (lv_sub hl [2, 3, 1, 0] rfl)
              · replace h := ite_f h c_326
                refine lv_iconst (v := 0) hx hb dL_law_70 (by decide) ?_
                exact absurd (show some (0 : Int32) = some 1 from congrArg (Option.map Prod.fst) h) (by decide)
