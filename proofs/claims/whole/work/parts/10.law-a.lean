def fs_L_law_740 (T : Ty) (L : Nat) (xs : Nat → Int32) (a1 : Nat) (a2 : Nat) (j18 : Int32 → Mm → Rm → Option (Int32 × Mm × Rm)) (x3 : Int32) (M : Mm) (R : Rm) : Option (Int32 × Mm × Rm) :=
  bnd (x3 + (5 : Int32)) fun v_1 =>
  j18 v_1 M R
def fs_L_law_18 (T : Ty) (L : Nat) (xs : Nat → Int32) (a1 : Nat) (a2 : Nat) (j18 : Int32 → Mm → Rm → Option (Int32 × Mm × Rm)) (x3 : Int32) (M : Mm) (R : Rm) : Option (Int32 × Mm × Rm) :=
  if ((Int32.ofNat L) - (5 : Int32)) < x3 then (
    some ((1 : Int32), M, R)) else (
    chk (inb x3 L) <|
    bnd ((xs x3.toNatClampNeg) &&& (31 : Int32)) fun v_4 =>
    if v_4 = 0 then (
      chk (inb (x3 + (1 : Int32)) L) <|
      chk (inb (x3 + (2 : Int32)) L) <|
      chk (isK T a1 6) <|
      calR (fn_X6_set T a1 (xs (x3 + (1 : Int32)).toNatClampNeg) (xs (x3 + (2 : Int32)).toNatClampNeg) M R) fun r_9 M_10 R_12 =>
      chk (isK T a2 7) <|
      cal (fn_X7_set T R_12 a2 (xs (x3 + (1 : Int32)).toNatClampNeg) (xs (x3 + (2 : Int32)).toNatClampNeg) M_10) fun r_14 M_15 =>
      if r_9 = r_14 then (
        (fs_L_law_740 T L xs a1 a2 j18) x3 M_15 R_12) else (
        some ((0 : Int32), M_15, R_12))) else (
    if v_4 = 1 then (
      chk (inb (x3 + (1 : Int32)) L) <|
      chk (inb (x3 + (2 : Int32)) L) <|
      chk (inb (x3 + (3 : Int32)) L) <|
      chk (inb (x3 + (4 : Int32)) L) <|
      chk (isK T a1 6) <|
      calR (fn_X6_band T a1 (xs (x3 + (1 : Int32)).toNatClampNeg) (xs (x3 + (2 : Int32)).toNatClampNeg) (xs (x3 + (3 : Int32)).toNatClampNeg) (xs (x3 + (4 : Int32)).toNatClampNeg) M R) fun r_24 M_25 R_27 =>
      chk (isK T a2 7) <|
      cal (fn_X7_band T R_27 a2 (xs (x3 + (1 : Int32)).toNatClampNeg) (xs (x3 + (2 : Int32)).toNatClampNeg) (xs (x3 + (3 : Int32)).toNatClampNeg) (xs (x3 + (4 : Int32)).toNatClampNeg) M_25) fun r_29 M_30 =>
      if r_24 = r_29 then (
        (fs_L_law_740 T L xs a1 a2 j18) x3 M_30 R_27) else (
        some ((0 : Int32), M_30, R_27))) else (
    if v_4 = 2 then (
      chk (inb (x3 + (1 : Int32)) L) <|
      chk (inb (x3 + (2 : Int32)) L) <|
      chk (isK T a1 6) <|
      calR (fn_X6_creep T a1 (xs (x3 + (1 : Int32)).toNatClampNeg) (xs (x3 + (2 : Int32)).toNatClampNeg) M R) fun r_37 M_38 R_40 =>
      chk (isK T a2 7) <|
      cal (fn_X7_creep T R_40 a2 (xs (x3 + (1 : Int32)).toNatClampNeg) (xs (x3 + (2 : Int32)).toNatClampNeg) M_38) fun r_42 M_43 =>
      if r_37 = r_42 then (
        (fs_L_law_740 T L xs a1 a2 j18) x3 M_43 R_40) else (
        some ((0 : Int32), M_43, R_40))) else (
    if v_4 = 3 then (
      chk (inb (x3 + (1 : Int32)) L) <|
      chk (inb (x3 + (2 : Int32)) L) <|
      chk (isK T a1 6) <|
      cal (fn_X6_bandInfo T R a1 (xs (x3 + (1 : Int32)).toNatClampNeg) (xs (x3 + (2 : Int32)).toNatClampNeg) M) fun r_50 M_51 =>
      chk (isK T a2 7) <|
      cal (fn_X7_bandInfo T R a2 (xs (x3 + (1 : Int32)).toNatClampNeg) (xs (x3 + (2 : Int32)).toNatClampNeg) M_51) fun r_54 M_55 =>
      if r_50 = r_54 then (
        (fs_L_law_740 T L xs a1 a2 j18) x3 M_55 R) else (
        some ((0 : Int32), M_55, R))) else (
    if v_4 = 4 then (
      chk (inb (x3 + (1 : Int32)) L) <|
      chk (inb (x3 + (2 : Int32)) L) <|
      chk (inb (x3 + (3 : Int32)) L) <|
      chk (isK T a1 6) <|
      cal (fn_X6_layer T R a1 (xs (x3 + (1 : Int32)).toNatClampNeg) (xs (x3 + (2 : Int32)).toNatClampNeg) (xs (x3 + (3 : Int32)).toNatClampNeg) M) fun r_63 M_64 =>
      chk (isK T a2 7) <|
      cal (fn_X7_layer T R a2 (xs (x3 + (1 : Int32)).toNatClampNeg) (xs (x3 + (2 : Int32)).toNatClampNeg) (xs (x3 + (3 : Int32)).toNatClampNeg) M_64) fun r_67 M_68 =>
      if r_63 = r_67 then (
        (fs_L_law_740 T L xs a1 a2 j18) x3 M_68 R) else (
        some ((0 : Int32), M_68, R))) else (
    if v_4 = 5 then (
      chk (inb (x3 + (1 : Int32)) L) <|
      chk (isK T a1 6) <|
      cal (fn_X6_ofYear T R a1 (xs (x3 + (1 : Int32)).toNatClampNeg) M) fun r_74 M_75 =>
      chk (isK T a2 7) <|
      cal (fn_X7_ofYear T R a2 (xs (x3 + (1 : Int32)).toNatClampNeg) M_75) fun r_78 M_79 =>
      if r_74 = r_78 then (
        (fs_L_law_740 T L xs a1 a2 j18) x3 M_79 R) else (
        some ((0 : Int32), M_79, R))) else (
    if v_4 = 6 then (
      chk (isK T a1 6) <|
      cal (fn_X6_line T R a1 M) fun r_84 M_85 =>
      chk (isK T a2 7) <|
      cal (fn_X7_line T R a2 M_85) fun r_88 M_89 =>
      if r_84 = r_88 then (
        (fs_L_law_740 T L xs a1 a2 j18) x3 M_89 R) else (
        some ((0 : Int32), M_89, R))) else (
    if v_4 = 7 then (
      chk (inb (x3 + (1 : Int32)) L) <|
      chk (isK T a1 6) <|
      cal (fn_X6_front T R a1 (xs (x3 + (1 : Int32)).toNatClampNeg) M) fun r_95 M_96 =>
      chk (isK T a2 7) <|
      cal (fn_X7_front T R a2 (xs (x3 + (1 : Int32)).toNatClampNeg) M_96) fun r_99 M_100 =>
      if r_95 = r_99 then (
        (fs_L_law_740 T L xs a1 a2 j18) x3 M_100 R) else (
        some ((0 : Int32), M_100, R))) else (
    if v_4 = 8 then (
      chk (inb (x3 + (1 : Int32)) L) <|
      chk (isK T a1 6) <|
      cal (fn_X6_account T R a1 (xs (x3 + (1 : Int32)).toNatClampNeg) M) fun r_106 M_107 =>
      chk (isK T a2 7) <|
      cal (fn_X7_account T R a2 (xs (x3 + (1 : Int32)).toNatClampNeg) M_107) fun r_110 M_111 =>
      if (lg_cmp r_106 r_110) = 0 then (
        (fs_L_law_740 T L xs a1 a2 j18) x3 M_111 R) else (
        some ((0 : Int32), M_111, R))) else (
    if v_4 = 9 then (
      chk (inb (x3 + (1 : Int32)) L) <|
      chk (isK T a1 6) <|
      cal (fn_X6_count T R a1 (xs (x3 + (1 : Int32)).toNatClampNeg) M) fun r_117 M_118 =>
      chk (isK T a2 7) <|
      cal (fn_X7_count T R a2 (xs (x3 + (1 : Int32)).toNatClampNeg) M_118) fun r_121 M_122 =>
      if r_117 = r_121 then (
        (fs_L_law_740 T L xs a1 a2 j18) x3 M_122 R) else (
        some ((0 : Int32), M_122, R))) else (
    if v_4 = 10 then (
      chk (inb (x3 + (1 : Int32)) L) <|
      chk (inb (x3 + (2 : Int32)) L) <|
      chk (inb (x3 + (3 : Int32)) L) <|
      chk (isK T a1 6) <|
      calR (fn_X6_stake T a1 (xs (x3 + (1 : Int32)).toNatClampNeg) (xs (x3 + (2 : Int32)).toNatClampNeg) (xs (x3 + (3 : Int32)).toNatClampNeg) M R) fun r_130 M_131 R_133 =>
      chk (isK T a2 7) <|
      cal (fn_X7_stake T R_133 a2 (xs (x3 + (1 : Int32)).toNatClampNeg) (xs (x3 + (2 : Int32)).toNatClampNeg) (xs (x3 + (3 : Int32)).toNatClampNeg) M_131) fun r_135 M_136 =>
      if r_130 = r_135 then (
        (fs_L_law_740 T L xs a1 a2 j18) x3 M_136 R_133) else (
        some ((0 : Int32), M_136, R_133))) else (
    if v_4 = 11 then (
      chk (inb (x3 + (1 : Int32)) L) <|
      chk (isK T a1 6) <|
      calR (fn_X6_pull T a1 (xs (x3 + (1 : Int32)).toNatClampNeg) M R) fun r_142 M_143 R_145 =>
      chk (isK T a2 7) <|
      cal (fn_X7_pull T R_145 a2 (xs (x3 + (1 : Int32)).toNatClampNeg) M_143) fun r_147 M_148 =>
      if r_142 = r_147 then (
        (fs_L_law_740 T L xs a1 a2 j18) x3 M_148 R_145) else (
        some ((0 : Int32), M_148, R_145))) else (
    if v_4 = 12 then (
      chk (inb (x3 + (1 : Int32)) L) <|
      chk (inb (x3 + (2 : Int32)) L) <|
      chk (isK T a1 6) <|
      cal (fn_X6_stakeInfo T R a1 (xs (x3 + (1 : Int32)).toNatClampNeg) (xs (x3 + (2 : Int32)).toNatClampNeg) M) fun r_155 M_156 =>
      chk (isK T a2 7) <|
      cal (fn_X7_stakeInfo T R a2 (xs (x3 + (1 : Int32)).toNatClampNeg) (xs (x3 + (2 : Int32)).toNatClampNeg) M_156) fun r_159 M_160 =>
      if r_155 = r_159 then (
        (fs_L_law_740 T L xs a1 a2 j18) x3 M_160 R) else (
        some ((0 : Int32), M_160, R))) else (
    if v_4 = 13 then (
      chk (inb (x3 + (1 : Int32)) L) <|
      chk (isK T a1 6) <|
      cal (fn_X6_stakesIn T R a1 (xs (x3 + (1 : Int32)).toNatClampNeg) M) fun r_166 M_167 =>
      chk (isK T a2 7) <|
      cal (fn_X7_stakesIn T R a2 (xs (x3 + (1 : Int32)).toNatClampNeg) M_167) fun r_170 M_171 =>
      if r_166 = r_170 then (
        (fs_L_law_740 T L xs a1 a2 j18) x3 M_171 R) else (
        some ((0 : Int32), M_171, R))) else (
    if v_4 = 14 then (
      chk (inb (x3 + (1 : Int32)) L) <|
      chk (isK T a1 6) <|
      calR (fn_X6_years T a1 (xs (x3 + (1 : Int32)).toNatClampNeg) M R) fun r_177 M_178 R_180 =>
      chk (isK T a2 7) <|
      cal (fn_X7_years T R_180 a2 (xs (x3 + (1 : Int32)).toNatClampNeg) M_178) fun r_182 M_183 =>
      if r_177 = r_182 then (
        (fs_L_law_740 T L xs a1 a2 j18) x3 M_183 R_180) else (
        some ((0 : Int32), M_183, R_180))) else (
    if v_4 = 15 then (
      chk (inb (x3 + (1 : Int32)) L) <|
      chk (inb (x3 + (2 : Int32)) L) <|
      chk (isK T a1 6) <|
      cal (fn_X6_ifYears T R a1 (xs (x3 + (1 : Int32)).toNatClampNeg) (xs (x3 + (2 : Int32)).toNatClampNeg) M) fun r_190 M_191 =>
      chk (isK T a2 7) <|
      cal (fn_X7_ifYears T R a2 (xs (x3 + (1 : Int32)).toNatClampNeg) (xs (x3 + (2 : Int32)).toNatClampNeg) M_191) fun r_194 M_195 =>
      if r_190 = r_194 then (
        (fs_L_law_740 T L xs a1 a2 j18) x3 M_195 R) else (
        some ((0 : Int32), M_195, R))) else (
    if v_4 = 16 then (
      chk (inb (x3 + (1 : Int32)) L) <|
      chk (isK T a1 6) <|
      cal (fn_X6_yearsTo T R a1 (xs (x3 + (1 : Int32)).toNatClampNeg) M) fun r_201 M_202 =>
      chk (isK T a2 7) <|
      cal (fn_X7_yearsTo T R a2 (xs (x3 + (1 : Int32)).toNatClampNeg) M_202) fun r_205 M_206 =>
      if r_201 = r_205 then (
        (fs_L_law_740 T L xs a1 a2 j18) x3 M_206 R) else (
        some ((0 : Int32), M_206, R))) else (
    if v_4 = 17 then (
      chk (isK T a1 6) <|
      cal (fn_X6_steadyMelt T R a1 M) fun r_211 M_212 =>
      chk (isK T a2 7) <|
      cal (fn_X7_steadyMelt T R a2 M_212) fun r_215 M_216 =>
      if r_211 = r_215 then (
        (fs_L_law_740 T L xs a1 a2 j18) x3 M_216 R) else (
        some ((0 : Int32), M_216, R))) else (
    if v_4 = 18 then (
      chk (isK T a1 6) <|
      calR (fn_X6_undo T a1 M R) fun r_221 M_222 R_224 =>
      chk (isK T a2 7) <|
      cal (fn_X7_undo T R_224 a2 M_222) fun r_226 M_227 =>
      if r_221 = r_226 then (
        (fs_L_law_740 T L xs a1 a2 j18) x3 M_227 R_224) else (
        some ((0 : Int32), M_227, R_224))) else (
    if v_4 = 19 then (
      chk (inb (x3 + (1 : Int32)) L) <|
      chk (isK T a1 6) <|
      cal (fn_X6_type T R a1 (xs (x3 + (1 : Int32)).toNatClampNeg) M) fun r_233 M_234 =>
      chk (isK T a2 7) <|
      cal (fn_X7_type T R a2 (xs (x3 + (1 : Int32)).toNatClampNeg) M_234) fun r_237 M_238 =>
      if r_233 = r_237 then (
        (fs_L_law_740 T L xs a1 a2 j18) x3 M_238 R) else (
        some ((0 : Int32), M_238, R))) else (
    if v_4 = 20 then (
      chk (isK T a1 6) <|
      cal (fn_X6_clearText T R a1 M) fun r_243 M_244 =>
      chk (isK T a2 7) <|
      cal (fn_X7_clearText T R a2 M_244) fun r_247 M_248 =>
      if r_243 = r_247 then (
        (fs_L_law_740 T L xs a1 a2 j18) x3 M_248 R) else (
        some ((0 : Int32), M_248, R))) else (
    if v_4 = 21 then (
      chk (inb (x3 + (1 : Int32)) L) <|
      chk (isK T a1 6) <|
      cal (fn_X6_fault T R a1 (xs (x3 + (1 : Int32)).toNatClampNeg) M) fun r_254 M_255 =>
      chk (isK T a2 7) <|
      cal (fn_X7_fault T R a2 (xs (x3 + (1 : Int32)).toNatClampNeg) M_255) fun r_258 M_259 =>
      if r_254 = r_258 then (
        (fs_L_law_740 T L xs a1 a2 j18) x3 M_259 R) else (
        some ((0 : Int32), M_259, R))) else (
    if v_4 = 22 then (
      chk (isK T a1 6) <|
      calR (fn_X6_live T a1 M R) fun r_264 M_265 R_267 =>
      chk (isK T a2 7) <|
      cal (fn_X7_live T R_267 a2 M_265) fun r_269 M_270 =>
      if r_264 = r_269 then (
        (fs_L_law_740 T L xs a1 a2 j18) x3 M_270 R_267) else (
        some ((0 : Int32), M_270, R_267))) else (
      (fs_L_law_740 T L xs a1 a2 j18) x3 M R))))))))))))))))))))))))
def fb_L_law_18 (T : Ty) (L : Nat) (xs : Nat → Int32) (a1 : Nat) (a2 : Nat) : Nat → Int32 → Mm → Rm → Option (Int32 × Mm × Rm) :=
  lp (fun j18 => fs_L_law_18 T L xs a1 a2 j18) (fun _ _ _ => none)
set_option maxHeartbeats 8000000 in
set_option maxRecDepth 100000 in
theorem bs_L_law_740 {p : Program} {l : Launch} {e : Env} {s : State} {m : MethodId} {below : List Frame} {meth : Method} {c : Code} {D : va_G} {cy : Cy} {T : Ty} {R9 : Rm} {M9 : Mm} {b L : Nat} {xs : Nat → Int32} {a1 : Nat} {a2 : Nat} {j18 : Int32 → Mm → Rm → Option (Int32 × Mm × Rm)} (C : Cx RL cL_law 4 ret p s m #[Value.ref b] meth c D cy (fun q : Nat => s.heap.size ≤ q)) (hX : va_X b L xs s s.heap) (hbl : b < s.heap.size) (hbA : ¬ (fun q : Nat => s.heap.size ≤ q) b)
    (hj18 : ∀ (x3 : Int32) (M : Mm) (R : Rm) (H : Heap) (locs : List Loc), j18 x3 M R = some (1, M9, R9) → va_P D vwCl (WL cy T M R) H → va_D (fun q : Nat => s.heap.size ≤ q) (WL cy T M R) → va_S (fun q : Nat => s.heap.size ≤ q) s.heap H locs → ∀ ls : Array Slot, lv_has ls 4 [(0, .ref b), (1, .ref a1), (2, .ref a2), (3, .int x3)] → W p l e room_1 s m #[Value.ref b] below meth c H locs 262 86056 (lw_Z below #[Value.ref b] s) (F0 m 18 ls [])) :
    ∀ (x3 : Int32) (M : Mm) (R : Rm) (H : Heap) (locs : List Loc), fs_L_law_740 T L xs a1 a2 j18 x3 M R = some (1, M9, R9) → va_P D vwCl (WL cy T M R) H → va_D (fun q : Nat => s.heap.size ≤ q) (WL cy T M R) → va_S (fun q : Nat => s.heap.size ≤ q) s.heap H locs → ∀ ls : Array Slot, lv_has ls 4 [(0, .ref b), (1, .ref a1), (2, .ref a2), (3, .int x3)] → W p l e room_1 s m #[Value.ref b] below meth c H locs 262 86056 (lw_Z below #[Value.ref b] s) (F0 m 740 ls []) := by
  intro x3 M R H locs h hP hD hS ls hl
  unfold fs_L_law_740 at h
  obtain ⟨hx, hb, hr, hml, hown, hts, hK, hA, hlk, hSt⟩ := id C
  obtain ⟨v_1, ev_1⟩ : ∃ y : Int32, y = (x3 + (5 : Int32)) := ⟨_, rfl⟩
  replace h := bnd_at h ev_1
  refine lv_iinc (v := v_1) (lv' := [(3, .int v_1), (0, .ref b), (1, .ref a1), (2, .ref a2)]) hx hb dL_law_740 hl (k := 3) rfl (by rw [ev_1]; rfl) (by decide) rfl (fun ls hl => ?_)
  refine lv_goto (tgt := 18) hx hb dL_law_743 (by decide) ?_
  exact hj18 _ _ _ _ _ h hP hD hS _ (lv_sub hl [1, 2, 3, 0] rfl)
set_option maxHeartbeats 8000000 in
set_option maxRecDepth 100000 in
theorem bs_L_law_18 {p : Program} {l : Launch} {e : Env} {s : State} {m : MethodId} {below : List Frame} {meth : Method} {c : Code} {D : va_G} {cy : Cy} {T : Ty} {R9 : Rm} {M9 : Mm} {b L : Nat} {xs : Nat → Int32} {a1 : Nat} {a2 : Nat} {j18 : Int32 → Mm → Rm → Option (Int32 × Mm × Rm)} (C : Cx RL cL_law 4 ret p s m #[Value.ref b] meth c D cy (fun q : Nat => s.heap.size ≤ q)) (hX : va_X b L xs s s.heap) (hbl : b < s.heap.size) (hbA : ¬ (fun q : Nat => s.heap.size ≤ q) b)
    (hj18 : ∀ (x3 : Int32) (M : Mm) (R : Rm) (H : Heap) (locs : List Loc), j18 x3 M R = some (1, M9, R9) → va_P D vwCl (WL cy T M R) H → va_D (fun q : Nat => s.heap.size ≤ q) (WL cy T M R) → va_S (fun q : Nat => s.heap.size ≤ q) s.heap H locs → ∀ ls : Array Slot, lv_has ls 4 [(0, .ref b), (1, .ref a1), (2, .ref a2), (3, .int x3)] → W p l e room_1 s m #[Value.ref b] below meth c H locs 262 86056 (lw_Z below #[Value.ref b] s) (F0 m 18 ls [])) :
    ∀ (x3 : Int32) (M : Mm) (R : Rm) (H : Heap) (locs : List Loc), fs_L_law_18 T L xs a1 a2 j18 x3 M R = some (1, M9, R9) → va_P D vwCl (WL cy T M R) H → va_D (fun q : Nat => s.heap.size ≤ q) (WL cy T M R) → va_S (fun q : Nat => s.heap.size ≤ q) s.heap H locs → ∀ ls : Array Slot, lv_has ls 4 [(0, .ref b), (1, .ref a1), (2, .ref a2), (3, .int x3)] → W p l e room_1 s m #[Value.ref b] below meth c H locs 262 86056 (lw_Z below #[Value.ref b] s) (F0 m 18 ls []) := by
  intro x3 M R H locs h hP hD hS ls hl
  unfold fs_L_law_18 at h
  obtain ⟨hx, hb, hr, hml, hown, hts, hK, hA, hlk, hSt⟩ := id C
  refine lv_iload_n hx hb dL_law_18 rfl (lv_at hl 3 rfl) ?_
  refine lv_aload_n hx hb dL_law_19 rfl (lv_at hl 0 rfl) ?_
  refine va_slen hx hb hX hbl hbA hS dL_law_20 ?_
  refine lv_iconst (v := 5) hx hb dL_law_21 (by decide) ?_
  refine lv_isub hx hb dL_law_22 ?_
  refine lv_icmp_gt (tgt := 746) hx hb dL_law_23 (by decide) (fun c_2 => ?_) (fun c_2 => ?_)
  · replace h := ite_t h c_2
    refine lv_iconst (v := 1) hx hb dL_law_746 (by decide) ?_
    refine va_forget (fun q hq => hS.2.2 q hq) ?_
    refine W.widen (k := 600000) (n := 7302250) (Nat.le_of_ble_eq_true rfl) (Nat.le_of_ble_eq_true rfl) ?_
    exact lw_ret hx hb hr hlk dL_law_747
  · replace h := ite_f h c_2
    refine lv_aload_n hx hb dL_law_26 rfl (lv_at hl 0 rfl) ?_
    refine lv_iload_n hx hb dL_law_27 rfl (lv_at hl 3 rfl) ?_
    obtain ⟨k_3, h⟩ := chk_some h
    refine va_sld hx hb hX hbl hbA hS (inb_vp k_3) dL_law_28 ?_
    refine lv_bipush (v := 31) hx hb dL_law_29 (by decide) ?_
    refine lv_iand hx hb dL_law_31 ?_
    refine lv_topi (fun v_4 ev_4 => ?_)
    replace h := bnd_at h ev_4
    by_cases q_5 : v_4 = 0
    · replace h := ite_t h q_5
      refine lv_tableIn (off := 108) (tgt := 140) hx hb dL_law_32 (by rw [q_5]; decide) (by rw [q_5]; decide) (by rw [q_5]; rfl) (by decide) ?_
      refine lv_aload_n hx hb dL_law_140 rfl (lv_at hl 1 rfl) ?_
      refine lv_aload_n hx hb dL_law_141 rfl (lv_at hl 0 rfl) ?_
      refine lv_iload_n hx hb dL_law_142 rfl (lv_at hl 3 rfl) ?_
      refine lv_iconst (v := 1) hx hb dL_law_143 (by decide) ?_
      refine lv_iadd hx hb dL_law_144 ?_
      obtain ⟨k_6, h⟩ := chk_some h
      refine va_sld hx hb hX hbl hbA hS (inb_vp k_6) dL_law_145 ?_
      refine lv_aload_n hx hb dL_law_146 rfl (lv_at hl 0 rfl) ?_
      refine lv_iload_n hx hb dL_law_147 rfl (lv_at hl 3 rfl) ?_
      refine lv_iconst (v := 2) hx hb dL_law_148 (by decide) ?_
      refine lv_iadd hx hb dL_law_149 ?_
      obtain ⟨k_7, h⟩ := chk_some h
      refine va_sld hx hb hX hbl hbA hS (inb_vp k_7) dL_law_150 ?_
      obtain ⟨k_8, h⟩ := chk_some h
      obtain ⟨r_9, M_10, R_12, hc_11, h⟩ := calR_some h
      refine cl_Vi (As := [.int (xs (x3 + (1 : Int32)).toNatClampNeg), .int (xs (x3 + (2 : Int32)).toNatClampNeg)]) (rest := []) C (ct_X6_set hc_11) k_8 (by decide) rfl wl_112 wl_113 wl_114 wl_2 wl_115 hd_X6_set ⟨Nat.le_of_ble_eq_true rfl, Nat.le_of_ble_eq_true rfl⟩ ⟨rfl, rfl⟩ ⟨Nat.le_of_ble_eq_true rfl, Nat.le_of_ble_eq_true rfl⟩ rfl (Nat.le_of_ble_eq_true rfl) rfl hl.1 hP hD hS dL_law_151 (fun H locs hP hD hS => ?_)
      refine lv_aload_n hx hb dL_law_154 rfl (lv_at hl 2 rfl) ?_
      refine lv_aload_n hx hb dL_law_155 rfl (lv_at hl 0 rfl) ?_
      refine lv_iload_n hx hb dL_law_156 rfl (lv_at hl 3 rfl) ?_
      refine lv_iconst (v := 1) hx hb dL_law_157 (by decide) ?_
      refine lv_iadd hx hb dL_law_158 ?_
      refine va_sld hx hb hX hbl hbA hS (inb_vp k_6) dL_law_159 ?_
      refine lv_aload_n hx hb dL_law_160 rfl (lv_at hl 0 rfl) ?_
      refine lv_iload_n hx hb dL_law_161 rfl (lv_at hl 3 rfl) ?_
      refine lv_iconst (v := 2) hx hb dL_law_162 (by decide) ?_
      refine lv_iadd hx hb dL_law_163 ?_
      refine va_sld hx hb hX hbl hbA hS (inb_vp k_7) dL_law_164 ?_
      obtain ⟨k_13, h⟩ := chk_some h
      obtain ⟨r_14, M_15, hc_16, h⟩ := cal_some h
      refine cl_Vi (As := [.int (xs (x3 + (1 : Int32)).toNatClampNeg), .int (xs (x3 + (2 : Int32)).toNatClampNeg)]) (rest := [.int r_9]) C (ct_X7_set hc_16) k_13 (by decide) rfl wl_156 wl_157 wl_158 wl_5 wl_159 hd_X7_set ⟨Nat.le_of_ble_eq_true rfl, Nat.le_of_ble_eq_true rfl⟩ ⟨rfl, rfl⟩ ⟨Nat.le_of_ble_eq_true rfl, Nat.le_of_ble_eq_true rfl⟩ rfl (Nat.le_of_ble_eq_true rfl) rfl hl.1 hP hD hS dL_law_165 (fun H locs hP hD hS => ?_)
      refine lv_icmp_eq (tgt := 740) hx hb dL_law_168 (by decide) (fun c_17 => ?_) (fun c_17 => ?_)
      · replace h := ite_t h c_17
        exact (bs_L_law_740 C hX hbl hbA hj18) _ _ _ _ _ h hP hD hS _ (lv_sub hl [0, 1, 2, 3] rfl)
      · replace h := ite_f h c_17
        refine lv_iconst (v := 0) hx hb dL_law_171 (by decide) ?_
        exact absurd (show some (0 : Int32) = some 1 from congrArg (Option.map Prod.fst) h) (by decide)
    · replace h := ite_f h q_5
      by_cases q_18 : v_4 = 1
      · replace h := ite_t h q_18
        refine lv_tableIn (off := 141) (tgt := 173) hx hb dL_law_32 (by rw [q_18]; decide) (by rw [q_18]; decide) (by rw [q_18]; rfl) (by decide) ?_
        refine lv_aload_n hx hb dL_law_173 rfl (lv_at hl 1 rfl) ?_
        refine lv_aload_n hx hb dL_law_174 rfl (lv_at hl 0 rfl) ?_
        refine lv_iload_n hx hb dL_law_175 rfl (lv_at hl 3 rfl) ?_
        refine lv_iconst (v := 1) hx hb dL_law_176 (by decide) ?_
        refine lv_iadd hx hb dL_law_177 ?_
        obtain ⟨k_19, h⟩ := chk_some h
        refine va_sld hx hb hX hbl hbA hS (inb_vp k_19) dL_law_178 ?_
        refine lv_aload_n hx hb dL_law_179 rfl (lv_at hl 0 rfl) ?_
        refine lv_iload_n hx hb dL_law_180 rfl (lv_at hl 3 rfl) ?_
        refine lv_iconst (v := 2) hx hb dL_law_181 (by decide) ?_
        refine lv_iadd hx hb dL_law_182 ?_
        obtain ⟨k_20, h⟩ := chk_some h
        refine va_sld hx hb hX hbl hbA hS (inb_vp k_20) dL_law_183 ?_
        refine lv_aload_n hx hb dL_law_184 rfl (lv_at hl 0 rfl) ?_
        refine lv_iload_n hx hb dL_law_185 rfl (lv_at hl 3 rfl) ?_
        refine lv_iconst (v := 3) hx hb dL_law_186 (by decide) ?_
        refine lv_iadd hx hb dL_law_187 ?_
        obtain ⟨k_21, h⟩ := chk_some h
        refine va_sld hx hb hX hbl hbA hS (inb_vp k_21) dL_law_188 ?_
        refine lv_aload_n hx hb dL_law_189 rfl (lv_at hl 0 rfl) ?_
        refine lv_iload_n hx hb dL_law_190 rfl (lv_at hl 3 rfl) ?_
        refine lv_iconst (v := 4) hx hb dL_law_191 (by decide) ?_
        refine lv_iadd hx hb dL_law_192 ?_
        obtain ⟨k_22, h⟩ := chk_some h
        refine va_sld hx hb hX hbl hbA hS (inb_vp k_22) dL_law_193 ?_
        obtain ⟨k_23, h⟩ := chk_some h
        obtain ⟨r_24, M_25, R_27, hc_26, h⟩ := calR_some h
        refine cl_Vi (As := [.int (xs (x3 + (1 : Int32)).toNatClampNeg), .int (xs (x3 + (2 : Int32)).toNatClampNeg), .int (xs (x3 + (3 : Int32)).toNatClampNeg), .int (xs (x3 + (4 : Int32)).toNatClampNeg)]) (rest := []) C (ct_X6_band hc_26) k_23 (by decide) rfl wl_185 wl_186 wl_187 wl_2 wl_188 hd_X6_band ⟨Nat.le_of_ble_eq_true rfl, Nat.le_of_ble_eq_true rfl⟩ ⟨rfl, rfl⟩ ⟨Nat.le_of_ble_eq_true rfl, Nat.le_of_ble_eq_true rfl⟩ rfl (Nat.le_of_ble_eq_true rfl) rfl hl.1 hP hD hS dL_law_194 (fun H locs hP hD hS => ?_)
        refine lv_aload_n hx hb dL_law_197 rfl (lv_at hl 2 rfl) ?_
        refine lv_aload_n hx hb dL_law_198 rfl (lv_at hl 0 rfl) ?_
        refine lv_iload_n hx hb dL_law_199 rfl (lv_at hl 3 rfl) ?_
        refine lv_iconst (v := 1) hx hb dL_law_200 (by decide) ?_
        refine lv_iadd hx hb dL_law_201 ?_
        refine va_sld hx hb hX hbl hbA hS (inb_vp k_19) dL_law_202 ?_
        refine lv_aload_n hx hb dL_law_203 rfl (lv_at hl 0 rfl) ?_
        refine lv_iload_n hx hb dL_law_204 rfl (lv_at hl 3 rfl) ?_
        refine lv_iconst (v := 2) hx hb dL_law_205 (by decide) ?_
        refine lv_iadd hx hb dL_law_206 ?_
        refine va_sld hx hb hX hbl hbA hS (inb_vp k_20) dL_law_207 ?_
        refine lv_aload_n hx hb dL_law_208 rfl (lv_at hl 0 rfl) ?_
        refine lv_iload_n hx hb dL_law_209 rfl (lv_at hl 3 rfl) ?_
        refine lv_iconst (v := 3) hx hb dL_law_210 (by decide) ?_
        refine lv_iadd hx hb dL_law_211 ?_
        refine va_sld hx hb hX hbl hbA hS (inb_vp k_21) dL_law_212 ?_
        refine lv_aload_n hx hb dL_law_213 rfl (lv_at hl 0 rfl) ?_
        refine lv_iload_n hx hb dL_law_214 rfl (lv_at hl 3 rfl) ?_
        refine lv_iconst (v := 4) hx hb dL_law_215 (by decide) ?_
        refine lv_iadd hx hb dL_law_216 ?_
        refine va_sld hx hb hX hbl hbA hS (inb_vp k_22) dL_law_217 ?_
        obtain ⟨k_28, h⟩ := chk_some h
        obtain ⟨r_29, M_30, hc_31, h⟩ := cal_some h
        refine cl_Vi (As := [.int (xs (x3 + (1 : Int32)).toNatClampNeg), .int (xs (x3 + (2 : Int32)).toNatClampNeg), .int (xs (x3 + (3 : Int32)).toNatClampNeg), .int (xs (x3 + (4 : Int32)).toNatClampNeg)]) (rest := [.int r_24]) C (ct_X7_band hc_31) k_28 (by decide) rfl wl_234 wl_235 wl_236 wl_5 wl_237 hd_X7_band ⟨Nat.le_of_ble_eq_true rfl, Nat.le_of_ble_eq_true rfl⟩ ⟨rfl, rfl⟩ ⟨Nat.le_of_ble_eq_true rfl, Nat.le_of_ble_eq_true rfl⟩ rfl (Nat.le_of_ble_eq_true rfl) rfl hl.1 hP hD hS dL_law_218 (fun H locs hP hD hS => ?_)
        refine lv_icmp_eq (tgt := 740) hx hb dL_law_221 (by decide) (fun c_32 => ?_) (fun c_32 => ?_)
        · replace h := ite_t h c_32
          exact (bs_L_law_740 C hX hbl hbA hj18) _ _ _ _ _ h hP hD hS _ (lv_sub hl [0, 1, 2, 3] rfl)
        · replace h := ite_f h c_32
          refine lv_iconst (v := 0) hx hb dL_law_224 (by decide) ?_
          exact absurd (show some (0 : Int32) = some 1 from congrArg (Option.map Prod.fst) h) (by decide)
      · replace h := ite_f h q_18
        by_cases q_33 : v_4 = 2
        · replace h := ite_t h q_33
          refine lv_tableIn (off := 194) (tgt := 226) hx hb dL_law_32 (by rw [q_33]; decide) (by rw [q_33]; decide) (by rw [q_33]; rfl) (by decide) ?_
          refine lv_aload_n hx hb dL_law_226 rfl (lv_at hl 1 rfl) ?_
          refine lv_aload_n hx hb dL_law_227 rfl (lv_at hl 0 rfl) ?_
          refine lv_iload_n hx hb dL_law_228 rfl (lv_at hl 3 rfl) ?_
          refine lv_iconst (v := 1) hx hb dL_law_229 (by decide) ?_
          refine lv_iadd hx hb dL_law_230 ?_
          obtain ⟨k_34, h⟩ := chk_some h
          refine va_sld hx hb hX hbl hbA hS (inb_vp k_34) dL_law_231 ?_
          refine lv_aload_n hx hb dL_law_232 rfl (lv_at hl 0 rfl) ?_
          refine lv_iload_n hx hb dL_law_233 rfl (lv_at hl 3 rfl) ?_
          refine lv_iconst (v := 2) hx hb dL_law_234 (by decide) ?_
          refine lv_iadd hx hb dL_law_235 ?_
          obtain ⟨k_35, h⟩ := chk_some h
          refine va_sld hx hb hX hbl hbA hS (inb_vp k_35) dL_law_236 ?_
          obtain ⟨k_36, h⟩ := chk_some h
          obtain ⟨r_37, M_38, R_40, hc_39, h⟩ := calR_some h
          refine cl_Vi (As := [.int (xs (x3 + (1 : Int32)).toNatClampNeg), .int (xs (x3 + (2 : Int32)).toNatClampNeg)]) (rest := []) C (ct_X6_creep hc_39) k_36 (by decide) rfl wl_252 wl_253 wl_254 wl_2 wl_255 hd_X6_creep ⟨Nat.le_of_ble_eq_true rfl, Nat.le_of_ble_eq_true rfl⟩ ⟨rfl, rfl⟩ ⟨Nat.le_of_ble_eq_true rfl, Nat.le_of_ble_eq_true rfl⟩ rfl (Nat.le_of_ble_eq_true rfl) rfl hl.1 hP hD hS dL_law_237 (fun H locs hP hD hS => ?_)
          refine lv_aload_n hx hb dL_law_240 rfl (lv_at hl 2 rfl) ?_
          refine lv_aload_n hx hb dL_law_241 rfl (lv_at hl 0 rfl) ?_
          refine lv_iload_n hx hb dL_law_242 rfl (lv_at hl 3 rfl) ?_
          refine lv_iconst (v := 1) hx hb dL_law_243 (by decide) ?_
          refine lv_iadd hx hb dL_law_244 ?_
          refine va_sld hx hb hX hbl hbA hS (inb_vp k_34) dL_law_245 ?_
          refine lv_aload_n hx hb dL_law_246 rfl (lv_at hl 0 rfl) ?_
          refine lv_iload_n hx hb dL_law_247 rfl (lv_at hl 3 rfl) ?_
          refine lv_iconst (v := 2) hx hb dL_law_248 (by decide) ?_
          refine lv_iadd hx hb dL_law_249 ?_
          refine va_sld hx hb hX hbl hbA hS (inb_vp k_35) dL_law_250 ?_
          obtain ⟨k_41, h⟩ := chk_some h
          obtain ⟨r_42, M_43, hc_44, h⟩ := cal_some h
          refine cl_Vi (As := [.int (xs (x3 + (1 : Int32)).toNatClampNeg), .int (xs (x3 + (2 : Int32)).toNatClampNeg)]) (rest := [.int r_37]) C (ct_X7_creep hc_44) k_41 (by decide) rfl wl_262 wl_263 wl_264 wl_5 wl_265 hd_X7_creep ⟨Nat.le_of_ble_eq_true rfl, Nat.le_of_ble_eq_true rfl⟩ ⟨rfl, rfl⟩ ⟨Nat.le_of_ble_eq_true rfl, Nat.le_of_ble_eq_true rfl⟩ rfl (Nat.le_of_ble_eq_true rfl) rfl hl.1 hP hD hS dL_law_251 (fun H locs hP hD hS => ?_)
          refine lv_icmp_eq (tgt := 740) hx hb dL_law_254 (by decide) (fun c_45 => ?_) (fun c_45 => ?_)
          · replace h := ite_t h c_45
            exact (bs_L_law_740 C hX hbl hbA hj18) _ _ _ _ _ h hP hD hS _ (lv_sub hl [0, 1, 2, 3] rfl)
          · replace h := ite_f h c_45
            refine lv_iconst (v := 0) hx hb dL_law_257 (by decide) ?_
            exact absurd (show some (0 : Int32) = some 1 from congrArg (Option.map Prod.fst) h) (by decide)
        · replace h := ite_f h q_33
          by_cases q_46 : v_4 = 3
          · replace h := ite_t h q_46
            refine lv_tableIn (off := 227) (tgt := 259) hx hb dL_law_32 (by rw [q_46]; decide) (by rw [q_46]; decide) (by rw [q_46]; rfl) (by decide) ?_
            refine lv_aload_n hx hb dL_law_259 rfl (lv_at hl 1 rfl) ?_
            refine lv_aload_n hx hb dL_law_260 rfl (lv_at hl 0 rfl) ?_
            refine lv_iload_n hx hb dL_law_261 rfl (lv_at hl 3 rfl) ?_
            refine lv_iconst (v := 1) hx hb dL_law_262 (by decide) ?_
            refine lv_iadd hx hb dL_law_263 ?_
            obtain ⟨k_47, h⟩ := chk_some h
            refine va_sld hx hb hX hbl hbA hS (inb_vp k_47) dL_law_264 ?_
            refine lv_aload_n hx hb dL_law_265 rfl (lv_at hl 0 rfl) ?_
            refine lv_iload_n hx hb dL_law_266 rfl (lv_at hl 3 rfl) ?_
            refine lv_iconst (v := 2) hx hb dL_law_267 (by decide) ?_
            refine lv_iadd hx hb dL_law_268 ?_
            obtain ⟨k_48, h⟩ := chk_some h
            refine va_sld hx hb hX hbl hbA hS (inb_vp k_48) dL_law_269 ?_
            obtain ⟨k_49, h⟩ := chk_some h
            obtain ⟨r_50, M_51, hc_52, h⟩ := cal_some h
            refine cl_Vi (As := [.int (xs (x3 + (1 : Int32)).toNatClampNeg), .int (xs (x3 + (2 : Int32)).toNatClampNeg)]) (rest := []) C (ct_X6_bandInfo hc_52) k_49 (by decide) rfl wl_270 wl_271 wl_272 wl_2 wl_273 hd_X6_bandInfo ⟨Nat.le_of_ble_eq_true rfl, Nat.le_of_ble_eq_true rfl⟩ ⟨rfl, rfl⟩ ⟨Nat.le_of_ble_eq_true rfl, Nat.le_of_ble_eq_true rfl⟩ rfl (Nat.le_of_ble_eq_true rfl) rfl hl.1 hP hD hS dL_law_270 (fun H locs hP hD hS => ?_)
            refine lv_aload_n hx hb dL_law_273 rfl (lv_at hl 2 rfl) ?_
            refine lv_aload_n hx hb dL_law_274 rfl (lv_at hl 0 rfl) ?_
            refine lv_iload_n hx hb dL_law_275 rfl (lv_at hl 3 rfl) ?_
            refine lv_iconst (v := 1) hx hb dL_law_276 (by decide) ?_
            refine lv_iadd hx hb dL_law_277 ?_
            refine va_sld hx hb hX hbl hbA hS (inb_vp k_47) dL_law_278 ?_
            refine lv_aload_n hx hb dL_law_279 rfl (lv_at hl 0 rfl) ?_
            refine lv_iload_n hx hb dL_law_280 rfl (lv_at hl 3 rfl) ?_
            refine lv_iconst (v := 2) hx hb dL_law_281 (by decide) ?_
            refine lv_iadd hx hb dL_law_282 ?_
            refine va_sld hx hb hX hbl hbA hS (inb_vp k_48) dL_law_283 ?_
            obtain ⟨k_53, h⟩ := chk_some h
            obtain ⟨r_54, M_55, hc_56, h⟩ := cal_some h
            refine cl_Vi (As := [.int (xs (x3 + (1 : Int32)).toNatClampNeg), .int (xs (x3 + (2 : Int32)).toNatClampNeg)]) (rest := [.int r_50]) C (ct_X7_bandInfo hc_56) k_53 (by decide) rfl wl_301 wl_302 wl_303 wl_5 wl_304 hd_X7_bandInfo ⟨Nat.le_of_ble_eq_true rfl, Nat.le_of_ble_eq_true rfl⟩ ⟨rfl, rfl⟩ ⟨Nat.le_of_ble_eq_true rfl, Nat.le_of_ble_eq_true rfl⟩ rfl (Nat.le_of_ble_eq_true rfl) rfl hl.1 hP hD hS dL_law_284 (fun H locs hP hD hS => ?_)
            refine lv_icmp_eq (tgt := 740) hx hb dL_law_287 (by decide) (fun c_57 => ?_) (fun c_57 => ?_)
            · replace h := ite_t h c_57
              exact (bs_L_law_740 C hX hbl hbA hj18) _ _ _ _ _ h hP hD hS _ (lv_sub hl [0, 1, 2, 3] rfl)
            · replace h := ite_f h c_57
              refine lv_iconst (v := 0) hx hb dL_law_290 (by decide) ?_
              exact absurd (show some (0 : Int32) = some 1 from congrArg (Option.map Prod.fst) h) (by decide)
          · replace h := ite_f h q_46
            by_cases q_58 : v_4 = 4
            · replace h := ite_t h q_58
              refine lv_tableIn (off := 260) (tgt := 292) hx hb dL_law_32 (by rw [q_58]; decide) (by rw [q_58]; decide) (by rw [q_58]; rfl) (by decide) ?_
              refine lv_aload_n hx hb dL_law_292 rfl (lv_at hl 1 rfl) ?_
              refine lv_aload_n hx hb dL_law_293 rfl (lv_at hl 0 rfl) ?_
              refine lv_iload_n hx hb dL_law_294 rfl (lv_at hl 3 rfl) ?_
              refine lv_iconst (v := 1) hx hb dL_law_295 (by decide) ?_
              refine lv_iadd hx hb dL_law_296 ?_
              obtain ⟨k_59, h⟩ := chk_some h
              refine va_sld hx hb hX hbl hbA hS (inb_vp k_59) dL_law_297 ?_
              refine lv_aload_n hx hb dL_law_298 rfl (lv_at hl 0 rfl) ?_
              refine lv_iload_n hx hb dL_law_299 rfl (lv_at hl 3 rfl) ?_
              refine lv_iconst (v := 2) hx hb dL_law_300 (by decide) ?_
              refine lv_iadd hx hb dL_law_301 ?_
              obtain ⟨k_60, h⟩ := chk_some h
              refine va_sld hx hb hX hbl hbA hS (inb_vp k_60) dL_law_302 ?_
              refine lv_aload_n hx hb dL_law_303 rfl (lv_at hl 0 rfl) ?_
              refine lv_iload_n hx hb dL_law_304 rfl (lv_at hl 3 rfl) ?_
              refine lv_iconst (v := 3) hx hb dL_law_305 (by decide) ?_
              refine lv_iadd hx hb dL_law_306 ?_
              obtain ⟨k_61, h⟩ := chk_some h
              refine va_sld hx hb hX hbl hbA hS (inb_vp k_61) dL_law_307 ?_
              obtain ⟨k_62, h⟩ := chk_some h
              obtain ⟨r_63, M_64, hc_65, h⟩ := cal_some h
              refine cl_Vi (As := [.int (xs (x3 + (1 : Int32)).toNatClampNeg), .int (xs (x3 + (2 : Int32)).toNatClampNeg), .int (xs (x3 + (3 : Int32)).toNatClampNeg)]) (rest := []) C (ct_X6_layer hc_65) k_62 (by decide) rfl wl_336 wl_337 wl_338 wl_2 wl_339 hd_X6_layer ⟨Nat.le_of_ble_eq_true rfl, Nat.le_of_ble_eq_true rfl⟩ ⟨rfl, rfl⟩ ⟨Nat.le_of_ble_eq_true rfl, Nat.le_of_ble_eq_true rfl⟩ rfl (Nat.le_of_ble_eq_true rfl) rfl hl.1 hP hD hS dL_law_308 (fun H locs hP hD hS => ?_)
              refine lv_aload_n hx hb dL_law_311 rfl (lv_at hl 2 rfl) ?_
              refine lv_aload_n hx hb dL_law_312 rfl (lv_at hl 0 rfl) ?_
              refine lv_iload_n hx hb dL_law_313 rfl (lv_at hl 3 rfl) ?_
              refine lv_iconst (v := 1) hx hb dL_law_314 (by decide) ?_
              refine lv_iadd hx hb dL_law_315 ?_
              refine va_sld hx hb hX hbl hbA hS (inb_vp k_59) dL_law_316 ?_
              refine lv_aload_n hx hb dL_law_317 rfl (lv_at hl 0 rfl) ?_
              refine lv_iload_n hx hb dL_law_318 rfl (lv_at hl 3 rfl) ?_
              refine lv_iconst (v := 2) hx hb dL_law_319 (by decide) ?_
              refine lv_iadd hx hb dL_law_320 ?_
              refine va_sld hx hb hX hbl hbA hS (inb_vp k_60) dL_law_321 ?_
              refine lv_aload_n hx hb dL_law_322 rfl (lv_at hl 0 rfl) ?_
              refine lv_iload_n hx hb dL_law_323 rfl (lv_at hl 3 rfl) ?_
              refine lv_iconst (v := 3) hx hb dL_law_324 (by decide) ?_
              refine lv_iadd hx hb dL_law_325 ?_
              refine va_sld hx hb hX hbl hbA hS (inb_vp k_61) dL_law_326 ?_
              obtain ⟨k_66, h⟩ := chk_some h
              obtain ⟨r_67, M_68, hc_69, h⟩ := cal_some h
              refine cl_Vi (As := [.int (xs (x3 + (1 : Int32)).toNatClampNeg), .int (xs (x3 + (2 : Int32)).toNatClampNeg), .int (xs (x3 + (3 : Int32)).toNatClampNeg)]) (rest := [.int r_63]) C (ct_X7_layer hc_69) k_66 (by decide) rfl wl_345 wl_346 wl_347 wl_5 wl_348 hd_X7_layer ⟨Nat.le_of_ble_eq_true rfl, Nat.le_of_ble_eq_true rfl⟩ ⟨rfl, rfl⟩ ⟨Nat.le_of_ble_eq_true rfl, Nat.le_of_ble_eq_true rfl⟩ rfl (Nat.le_of_ble_eq_true rfl) rfl hl.1 hP hD hS dL_law_327 (fun H locs hP hD hS => ?_)
              refine lv_icmp_eq (tgt := 740) hx hb dL_law_330 (by decide) (fun c_70 => ?_) (fun c_70 => ?_)
              · replace h := ite_t h c_70
                exact (bs_L_law_740 C hX hbl hbA hj18) _ _ _ _ _ h hP hD hS _ (lv_sub hl [0, 1, 2, 3] rfl)
              · replace h := ite_f h c_70
                refine lv_iconst (v := 0) hx hb dL_law_333 (by decide) ?_
                exact absurd (show some (0 : Int32) = some 1 from congrArg (Option.map Prod.fst) h) (by decide)
            · replace h := ite_f h q_58
              by_cases q_71 : v_4 = 5
              · replace h := ite_t h q_71
                refine lv_tableIn (off := 303) (tgt := 335) hx hb dL_law_32 (by rw [q_71]; decide) (by rw [q_71]; decide) (by rw [q_71]; rfl) (by decide) ?_
                refine lv_aload_n hx hb dL_law_335 rfl (lv_at hl 1 rfl) ?_
                refine lv_aload_n hx hb dL_law_336 rfl (lv_at hl 0 rfl) ?_
                refine lv_iload_n hx hb dL_law_337 rfl (lv_at hl 3 rfl) ?_
                refine lv_iconst (v := 1) hx hb dL_law_338 (by decide) ?_
                refine lv_iadd hx hb dL_law_339 ?_
                obtain ⟨k_72, h⟩ := chk_some h
                refine va_sld hx hb hX hbl hbA hS (inb_vp k_72) dL_law_340 ?_
                obtain ⟨k_73, h⟩ := chk_some h
                obtain ⟨r_74, M_75, hc_76, h⟩ := cal_some h
                refine cl_Vi (As := [.int (xs (x3 + (1 : Int32)).toNatClampNeg)]) (rest := []) C (ct_X6_ofYear hc_76) k_73 (by decide) rfl wl_349 wl_350 wl_351 wl_2 wl_352 hd_X6_ofYear ⟨Nat.le_of_ble_eq_true rfl, Nat.le_of_ble_eq_true rfl⟩ ⟨rfl, rfl⟩ ⟨Nat.le_of_ble_eq_true rfl, Nat.le_of_ble_eq_true rfl⟩ rfl (Nat.le_of_ble_eq_true rfl) rfl hl.1 hP hD hS dL_law_341 (fun H locs hP hD hS => ?_)
                refine lv_aload_n hx hb dL_law_344 rfl (lv_at hl 2 rfl) ?_
                refine lv_aload_n hx hb dL_law_345 rfl (lv_at hl 0 rfl) ?_
                refine lv_iload_n hx hb dL_law_346 rfl (lv_at hl 3 rfl) ?_
                refine lv_iconst (v := 1) hx hb dL_law_347 (by decide) ?_
                refine lv_iadd hx hb dL_law_348 ?_
                refine va_sld hx hb hX hbl hbA hS (inb_vp k_72) dL_law_349 ?_
                obtain ⟨k_77, h⟩ := chk_some h
                obtain ⟨r_78, M_79, hc_80, h⟩ := cal_some h
                refine cl_Vi (As := [.int (xs (x3 + (1 : Int32)).toNatClampNeg)]) (rest := [.int r_74]) C (ct_X7_ofYear hc_80) k_77 (by decide) rfl wl_358 wl_359 wl_360 wl_5 wl_361 hd_X7_ofYear ⟨Nat.le_of_ble_eq_true rfl, Nat.le_of_ble_eq_true rfl⟩ ⟨rfl, rfl⟩ ⟨Nat.le_of_ble_eq_true rfl, Nat.le_of_ble_eq_true rfl⟩ rfl (Nat.le_of_ble_eq_true rfl) rfl hl.1 hP hD hS dL_law_350 (fun H locs hP hD hS => ?_)
                refine lv_icmp_eq (tgt := 740) hx hb dL_law_353 (by decide) (fun c_81 => ?_) (fun c_81 => ?_)
                · replace h := ite_t h c_81
                  exact (bs_L_law_740 C hX hbl hbA hj18) _ _ _ _ _ h hP hD hS _ (lv_sub hl [0, 1, 2, 3] rfl)
                · replace h := ite_f h c_81
                  refine lv_iconst (v := 0) hx hb dL_law_356 (by decide) ?_
                  exact absurd (show some (0 : Int32) = some 1 from congrArg (Option.map Prod.fst) h) (by decide)
              · replace h := ite_f h q_71
                by_cases q_82 : v_4 = 6
                · replace h := ite_t h q_82
                  refine lv_tableIn (off := 326) (tgt := 358) hx hb dL_law_32 (by rw [q_82]; decide) (by rw [q_82]; decide) (by rw [q_82]; rfl) (by decide) ?_
                  refine lv_aload_n hx hb dL_law_358 rfl (lv_at hl 1 rfl) ?_
                  obtain ⟨k_83, h⟩ := chk_some h
                  obtain ⟨r_84, M_85, hc_86, h⟩ := cal_some h
                  refine cl_Vi (As := []) (rest := []) C (ct_X6_line hc_86) k_83 (by decide) rfl wl_366 wl_367 wl_368 wl_2 wl_369 hd_X6_line ⟨Nat.le_of_ble_eq_true rfl, Nat.le_of_ble_eq_true rfl⟩ ⟨rfl, rfl⟩ ⟨Nat.le_of_ble_eq_true rfl, Nat.le_of_ble_eq_true rfl⟩ rfl (Nat.le_of_ble_eq_true rfl) rfl hl.1 hP hD hS dL_law_359 (fun H locs hP hD hS => ?_)
                  refine lv_aload_n hx hb dL_law_362 rfl (lv_at hl 2 rfl) ?_
                  obtain ⟨k_87, h⟩ := chk_some h
                  obtain ⟨r_88, M_89, hc_90, h⟩ := cal_some h
                  refine cl_Vi (As := []) (rest := [.int r_84]) C (ct_X7_line hc_90) k_87 (by decide) rfl wl_370 wl_371 wl_372 wl_5 wl_373 hd_X7_line ⟨Nat.le_of_ble_eq_true rfl, Nat.le_of_ble_eq_true rfl⟩ ⟨rfl, rfl⟩ ⟨Nat.le_of_ble_eq_true rfl, Nat.le_of_ble_eq_true rfl⟩ rfl (Nat.le_of_ble_eq_true rfl) rfl hl.1 hP hD hS dL_law_363 (fun H locs hP hD hS => ?_)
                  refine lv_icmp_eq (tgt := 740) hx hb dL_law_366 (by decide) (fun c_91 => ?_) (fun c_91 => ?_)
                  · replace h := ite_t h c_91
                    exact (bs_L_law_740 C hX hbl hbA hj18) _ _ _ _ _ h hP hD hS _ (lv_sub hl [0, 1, 2, 3] rfl)
                  · replace h := ite_f h c_91
                    refine lv_iconst (v := 0) hx hb dL_law_369 (by decide) ?_
                    exact absurd (show some (0 : Int32) = some 1 from congrArg (Option.map Prod.fst) h) (by decide)
                · replace h := ite_f h q_82
                  by_cases q_92 : v_4 = 7
                  · replace h := ite_t h q_92
                    refine lv_tableIn (off := 339) (tgt := 371) hx hb dL_law_32 (by rw [q_92]; decide) (by rw [q_92]; decide) (by rw [q_92]; rfl) (by decide) ?_
                    refine lv_aload_n hx hb dL_law_371 rfl (lv_at hl 1 rfl) ?_
                    refine lv_aload_n hx hb dL_law_372 rfl (lv_at hl 0 rfl) ?_
                    refine lv_iload_n hx hb dL_law_373 rfl (lv_at hl 3 rfl) ?_
                    refine lv_iconst (v := 1) hx hb dL_law_374 (by decide) ?_
                    refine lv_iadd hx hb dL_law_375 ?_
                    obtain ⟨k_93, h⟩ := chk_some h
                    refine va_sld hx hb hX hbl hbA hS (inb_vp k_93) dL_law_376 ?_
                    obtain ⟨k_94, h⟩ := chk_some h
                    obtain ⟨r_95, M_96, hc_97, h⟩ := cal_some h
                    refine cl_Vi (As := [.int (xs (x3 + (1 : Int32)).toNatClampNeg)]) (rest := []) C (ct_X6_front hc_97) k_94 (by decide) rfl wl_374 wl_375 wl_376 wl_2 wl_377 hd_X6_front ⟨Nat.le_of_ble_eq_true rfl, Nat.le_of_ble_eq_true rfl⟩ ⟨rfl, rfl⟩ ⟨Nat.le_of_ble_eq_true rfl, Nat.le_of_ble_eq_true rfl⟩ rfl (Nat.le_of_ble_eq_true rfl) rfl hl.1 hP hD hS dL_law_377 (fun H locs hP hD hS => ?_)
                    refine lv_aload_n hx hb dL_law_380 rfl (lv_at hl 2 rfl) ?_
                    refine lv_aload_n hx hb dL_law_381 rfl (lv_at hl 0 rfl) ?_
                    refine lv_iload_n hx hb dL_law_382 rfl (lv_at hl 3 rfl) ?_
                    refine lv_iconst (v := 1) hx hb dL_law_383 (by decide) ?_
                    refine lv_iadd hx hb dL_law_384 ?_
                    refine va_sld hx hb hX hbl hbA hS (inb_vp k_93) dL_law_385 ?_
                    obtain ⟨k_98, h⟩ := chk_some h
                    obtain ⟨r_99, M_100, hc_101, h⟩ := cal_some h
                    refine cl_Vi (As := [.int (xs (x3 + (1 : Int32)).toNatClampNeg)]) (rest := [.int r_95]) C (ct_X7_front hc_101) k_98 (by decide) rfl wl_383 wl_384 wl_385 wl_5 wl_386 hd_X7_front ⟨Nat.le_of_ble_eq_true rfl, Nat.le_of_ble_eq_true rfl⟩ ⟨rfl, rfl⟩ ⟨Nat.le_of_ble_eq_true rfl, Nat.le_of_ble_eq_true rfl⟩ rfl (Nat.le_of_ble_eq_true rfl) rfl hl.1 hP hD hS dL_law_386 (fun H locs hP hD hS => ?_)
                    refine lv_icmp_eq (tgt := 740) hx hb dL_law_389 (by decide) (fun c_102 => ?_) (fun c_102 => ?_)
                    · replace h := ite_t h c_102
                      exact (bs_L_law_740 C hX hbl hbA hj18) _ _ _ _ _ h hP hD hS _ (lv_sub hl [0, 1, 2, 3] rfl)
                    · replace h := ite_f h c_102
                      refine lv_iconst (v := 0) hx hb dL_law_392 (by decide) ?_
                      exact absurd (show some (0 : Int32) = some 1 from congrArg (Option.map Prod.fst) h) (by decide)
                  · replace h := ite_f h q_92
                    by_cases q_103 : v_4 = 8
                    · replace h := ite_t h q_103
                      refine lv_tableIn (off := 362) (tgt := 394) hx hb dL_law_32 (by rw [q_103]; decide) (by rw [q_103]; decide) (by rw [q_103]; rfl) (by decide) ?_
                      refine lv_aload_n hx hb dL_law_394 rfl (lv_at hl 1 rfl) ?_
                      refine lv_aload_n hx hb dL_law_395 rfl (lv_at hl 0 rfl) ?_
                      refine lv_iload_n hx hb dL_law_396 rfl (lv_at hl 3 rfl) ?_
                      refine lv_iconst (v := 1) hx hb dL_law_397 (by decide) ?_
                      refine lv_iadd hx hb dL_law_398 ?_
                      obtain ⟨k_104, h⟩ := chk_some h
                      refine va_sld hx hb hX hbl hbA hS (inb_vp k_104) dL_law_399 ?_
                      obtain ⟨k_105, h⟩ := chk_some h
                      obtain ⟨r_106, M_107, hc_108, h⟩ := cal_some h
                      refine cl_Vl (As := [.int (xs (x3 + (1 : Int32)).toNatClampNeg)]) (rest := []) C (ct_X6_account hc_108) k_105 (by decide) rfl wl_387 wl_388 wl_389 wl_2 wl_390 hd_X6_account ⟨Nat.le_of_ble_eq_true rfl, Nat.le_of_ble_eq_true rfl⟩ ⟨rfl, rfl⟩ ⟨Nat.le_of_ble_eq_true rfl, Nat.le_of_ble_eq_true rfl⟩ rfl (Nat.le_of_ble_eq_true rfl) rfl hl.1 hP hD hS dL_law_400 (fun H locs hP hD hS => ?_)
                      refine lv_aload_n hx hb dL_law_403 rfl (lv_at hl 2 rfl) ?_
                      refine lv_aload_n hx hb dL_law_404 rfl (lv_at hl 0 rfl) ?_
                      refine lv_iload_n hx hb dL_law_405 rfl (lv_at hl 3 rfl) ?_
                      refine lv_iconst (v := 1) hx hb dL_law_406 (by decide) ?_
                      refine lv_iadd hx hb dL_law_407 ?_
                      refine va_sld hx hb hX hbl hbA hS (inb_vp k_104) dL_law_408 ?_
                      obtain ⟨k_109, h⟩ := chk_some h
                      obtain ⟨r_110, M_111, hc_112, h⟩ := cal_some h
                      refine cl_Vl (As := [.int (xs (x3 + (1 : Int32)).toNatClampNeg)]) (rest := [.long r_106]) C (ct_X7_account hc_112) k_109 (by decide) rfl wl_411 wl_412 wl_413 wl_5 wl_414 hd_X7_account ⟨Nat.le_of_ble_eq_true rfl, Nat.le_of_ble_eq_true rfl⟩ ⟨rfl, rfl⟩ ⟨Nat.le_of_ble_eq_true rfl, Nat.le_of_ble_eq_true rfl⟩ rfl (Nat.le_of_ble_eq_true rfl) rfl hl.1 hP hD hS dL_law_409 (fun H locs hP hD hS => ?_)
                      refine W.lcmp hx hb dL_law_412 ?_
                      refine lv_if_eq (tgt := 740) hx hb dL_law_413 (by decide) (fun c_113 => ?_) (fun c_113 => ?_)
                      · replace h := ite_t h c_113
                        exact (bs_L_law_740 C hX hbl hbA hj18) _ _ _ _ _ h hP hD hS _ (lv_sub hl [0, 1, 2, 3] rfl)
                      · replace h := ite_f h c_113
                        refine lv_iconst (v := 0) hx hb dL_law_416 (by decide) ?_
                        exact absurd (show some (0 : Int32) = some 1 from congrArg (Option.map Prod.fst) h) (by decide)
                    · replace h := ite_f h q_103
                      by_cases q_114 : v_4 = 9
                      · replace h := ite_t h q_114
                        refine lv_tableIn (off := 386) (tgt := 418) hx hb dL_law_32 (by rw [q_114]; decide) (by rw [q_114]; decide) (by rw [q_114]; rfl) (by decide) ?_
                        refine lv_aload_n hx hb dL_law_418 rfl (lv_at hl 1 rfl) ?_
                        refine lv_aload_n hx hb dL_law_419 rfl (lv_at hl 0 rfl) ?_
                        refine lv_iload_n hx hb dL_law_420 rfl (lv_at hl 3 rfl) ?_
                        refine lv_iconst (v := 1) hx hb dL_law_421 (by decide) ?_
                        refine lv_iadd hx hb dL_law_422 ?_
                        obtain ⟨k_115, h⟩ := chk_some h
                        refine va_sld hx hb hX hbl hbA hS (inb_vp k_115) dL_law_423 ?_
                        obtain ⟨k_116, h⟩ := chk_some h
                        obtain ⟨r_117, M_118, hc_119, h⟩ := cal_some h
                        refine cl_Vi (As := [.int (xs (x3 + (1 : Int32)).toNatClampNeg)]) (rest := []) C (ct_X6_count hc_119) k_116 (by decide) rfl wl_424 wl_425 wl_426 wl_2 wl_427 hd_X6_count ⟨Nat.le_of_ble_eq_true rfl, Nat.le_of_ble_eq_true rfl⟩ ⟨rfl, rfl⟩ ⟨Nat.le_of_ble_eq_true rfl, Nat.le_of_ble_eq_true rfl⟩ rfl (Nat.le_of_ble_eq_true rfl) rfl hl.1 hP hD hS dL_law_424 (fun H locs hP hD hS => ?_)
                        refine lv_aload_n hx hb dL_law_427 rfl (lv_at hl 2 rfl) ?_
                        refine lv_aload_n hx hb dL_law_428 rfl (lv_at hl 0 rfl) ?_
                        refine lv_iload_n hx hb dL_law_429 rfl (lv_at hl 3 rfl) ?_
                        refine lv_iconst (v := 1) hx hb dL_law_430 (by decide) ?_
                        refine lv_iadd hx hb dL_law_431 ?_
                        refine va_sld hx hb hX hbl hbA hS (inb_vp k_115) dL_law_432 ?_
                        obtain ⟨k_120, h⟩ := chk_some h
                        obtain ⟨r_121, M_122, hc_123, h⟩ := cal_some h
                        refine cl_Vi (As := [.int (xs (x3 + (1 : Int32)).toNatClampNeg)]) (rest := [.int r_117]) C (ct_X7_count hc_123) k_120 (by decide) rfl wl_445 wl_446 wl_447 wl_5 wl_448 hd_X7_count ⟨Nat.le_of_ble_eq_true rfl, Nat.le_of_ble_eq_true rfl⟩ ⟨rfl, rfl⟩ ⟨Nat.le_of_ble_eq_true rfl, Nat.le_of_ble_eq_true rfl⟩ rfl (Nat.le_of_ble_eq_true rfl) rfl hl.1 hP hD hS dL_law_433 (fun H locs hP hD hS => ?_)
                        refine lv_icmp_eq (tgt := 740) hx hb dL_law_436 (by decide) (fun c_124 => ?_) (fun c_124 => ?_)
                        · replace h := ite_t h c_124
                          exact (bs_L_law_740 C hX hbl hbA hj18) _ _ _ _ _ h hP hD hS _ (lv_sub hl [0, 1, 2, 3] rfl)
                        · replace h := ite_f h c_124
                          refine lv_iconst (v := 0) hx hb dL_law_439 (by decide) ?_
                          exact absurd (show some (0 : Int32) = some 1 from congrArg (Option.map Prod.fst) h) (by decide)
                      · replace h := ite_f h q_114
                        by_cases q_125 : v_4 = 10
                        · replace h := ite_t h q_125
                          refine lv_tableIn (off := 409) (tgt := 441) hx hb dL_law_32 (by rw [q_125]; decide) (by rw [q_125]; decide) (by rw [q_125]; rfl) (by decide) ?_
                          refine lv_aload_n hx hb dL_law_441 rfl (lv_at hl 1 rfl) ?_
                          refine lv_aload_n hx hb dL_law_442 rfl (lv_at hl 0 rfl) ?_
                          refine lv_iload_n hx hb dL_law_443 rfl (lv_at hl 3 rfl) ?_
                          refine lv_iconst (v := 1) hx hb dL_law_444 (by decide) ?_
                          refine lv_iadd hx hb dL_law_445 ?_
                          obtain ⟨k_126, h⟩ := chk_some h
                          refine va_sld hx hb hX hbl hbA hS (inb_vp k_126) dL_law_446 ?_
                          refine lv_aload_n hx hb dL_law_447 rfl (lv_at hl 0 rfl) ?_
                          refine lv_iload_n hx hb dL_law_448 rfl (lv_at hl 3 rfl) ?_
                          refine lv_iconst (v := 2) hx hb dL_law_449 (by decide) ?_
                          refine lv_iadd hx hb dL_law_450 ?_
                          obtain ⟨k_127, h⟩ := chk_some h
                          refine va_sld hx hb hX hbl hbA hS (inb_vp k_127) dL_law_451 ?_
                          refine lv_aload_n hx hb dL_law_452 rfl (lv_at hl 0 rfl) ?_
                          refine lv_iload_n hx hb dL_law_453 rfl (lv_at hl 3 rfl) ?_
                          refine lv_iconst (v := 3) hx hb dL_law_454 (by decide) ?_
                          refine lv_iadd hx hb dL_law_455 ?_
                          obtain ⟨k_128, h⟩ := chk_some h
                          refine va_sld hx hb hX hbl hbA hS (inb_vp k_128) dL_law_456 ?_
                          obtain ⟨k_129, h⟩ := chk_some h
                          obtain ⟨r_130, M_131, R_133, hc_132, h⟩ := calR_some h
                          refine cl_Vi (As := [.int (xs (x3 + (1 : Int32)).toNatClampNeg), .int (xs (x3 + (2 : Int32)).toNatClampNeg), .int (xs (x3 + (3 : Int32)).toNatClampNeg)]) (rest := []) C (ct_X6_stake hc_132) k_129 (by decide) rfl wl_466 wl_467 wl_468 wl_2 wl_469 hd_X6_stake ⟨Nat.le_of_ble_eq_true rfl, Nat.le_of_ble_eq_true rfl⟩ ⟨rfl, rfl⟩ ⟨Nat.le_of_ble_eq_true rfl, Nat.le_of_ble_eq_true rfl⟩ rfl (Nat.le_of_ble_eq_true rfl) rfl hl.1 hP hD hS dL_law_457 (fun H locs hP hD hS => ?_)
                          refine lv_aload_n hx hb dL_law_460 rfl (lv_at hl 2 rfl) ?_
                          refine lv_aload_n hx hb dL_law_461 rfl (lv_at hl 0 rfl) ?_
                          refine lv_iload_n hx hb dL_law_462 rfl (lv_at hl 3 rfl) ?_
                          refine lv_iconst (v := 1) hx hb dL_law_463 (by decide) ?_
                          refine lv_iadd hx hb dL_law_464 ?_
                          refine va_sld hx hb hX hbl hbA hS (inb_vp k_126) dL_law_465 ?_
                          refine lv_aload_n hx hb dL_law_466 rfl (lv_at hl 0 rfl) ?_
                          refine lv_iload_n hx hb dL_law_467 rfl (lv_at hl 3 rfl) ?_
                          refine lv_iconst (v := 2) hx hb dL_law_468 (by decide) ?_
                          refine lv_iadd hx hb dL_law_469 ?_
                          refine va_sld hx hb hX hbl hbA hS (inb_vp k_127) dL_law_470 ?_
                          refine lv_aload_n hx hb dL_law_471 rfl (lv_at hl 0 rfl) ?_
                          refine lv_iload_n hx hb dL_law_472 rfl (lv_at hl 3 rfl) ?_
                          refine lv_iconst (v := 3) hx hb dL_law_473 (by decide) ?_
                          refine lv_iadd hx hb dL_law_474 ?_
                          refine va_sld hx hb hX hbl hbA hS (inb_vp k_128) dL_law_475 ?_
                          obtain ⟨k_134, h⟩ := chk_some h
                          obtain ⟨r_135, M_136, hc_137, h⟩ := cal_some h
                          refine cl_Vi (As := [.int (xs (x3 + (1 : Int32)).toNatClampNeg), .int (xs (x3 + (2 : Int32)).toNatClampNeg), .int (xs (x3 + (3 : Int32)).toNatClampNeg)]) (rest := [.int r_130]) C (ct_X7_stake hc_137) k_134 (by decide) rfl wl_484 wl_485 wl_486 wl_5 wl_487 hd_X7_stake ⟨Nat.le_of_ble_eq_true rfl, Nat.le_of_ble_eq_true rfl⟩ ⟨rfl, rfl⟩ ⟨Nat.le_of_ble_eq_true rfl, Nat.le_of_ble_eq_true rfl⟩ rfl (Nat.le_of_ble_eq_true rfl) rfl hl.1 hP hD hS dL_law_476 (fun H locs hP hD hS => ?_)
                          refine lv_icmp_eq (tgt := 740) hx hb dL_law_479 (by decide) (fun c_138 => ?_) (fun c_138 => ?_)
                          · replace h := ite_t h c_138
                            exact (bs_L_law_740 C hX hbl hbA hj18) _ _ _ _ _ h hP hD hS _ (lv_sub hl [0, 1, 2, 3] rfl)
                          · replace h := ite_f h c_138
                            refine lv_iconst (v := 0) hx hb dL_law_482 (by decide) ?_
                            exact absurd (show some (0 : Int32) = some 1 from congrArg (Option.map Prod.fst) h) (by decide)
                        · replace h := ite_f h q_125
                          by_cases q_139 : v_4 = 11
                          · replace h := ite_t h q_139
                            refine lv_tableIn (off := 452) (tgt := 484) hx hb dL_law_32 (by rw [q_139]; decide) (by rw [q_139]; decide) (by rw [q_139]; rfl) (by decide) ?_
                            refine lv_aload_n hx hb dL_law_484 rfl (lv_at hl 1 rfl) ?_
                            refine lv_aload_n hx hb dL_law_485 rfl (lv_at hl 0 rfl) ?_
                            refine lv_iload_n hx hb dL_law_486 rfl (lv_at hl 3 rfl) ?_
                            refine lv_iconst (v := 1) hx hb dL_law_487 (by decide) ?_
                            refine lv_iadd hx hb dL_law_488 ?_
                            obtain ⟨k_140, h⟩ := chk_some h
                            refine va_sld hx hb hX hbl hbA hS (inb_vp k_140) dL_law_489 ?_
                            obtain ⟨k_141, h⟩ := chk_some h
                            obtain ⟨r_142, M_143, R_145, hc_144, h⟩ := calR_some h
                            refine cl_Vi (As := [.int (xs (x3 + (1 : Int32)).toNatClampNeg)]) (rest := []) C (ct_X6_pull hc_144) k_141 (by decide) rfl wl_492 wl_493 wl_494 wl_2 wl_495 hd_X6_pull ⟨Nat.le_of_ble_eq_true rfl, Nat.le_of_ble_eq_true rfl⟩ ⟨rfl, rfl⟩ ⟨Nat.le_of_ble_eq_true rfl, Nat.le_of_ble_eq_true rfl⟩ rfl (Nat.le_of_ble_eq_true rfl) rfl hl.1 hP hD hS dL_law_490 (fun H locs hP hD hS => ?_)
                            refine lv_aload_n hx hb dL_law_493 rfl (lv_at hl 2 rfl) ?_
                            refine lv_aload_n hx hb dL_law_494 rfl (lv_at hl 0 rfl) ?_
                            refine lv_iload_n hx hb dL_law_495 rfl (lv_at hl 3 rfl) ?_
                            refine lv_iconst (v := 1) hx hb dL_law_496 (by decide) ?_
                            refine lv_iadd hx hb dL_law_497 ?_
                            refine va_sld hx hb hX hbl hbA hS (inb_vp k_140) dL_law_498 ?_
                            obtain ⟨k_146, h⟩ := chk_some h
                            obtain ⟨r_147, M_148, hc_149, h⟩ := cal_some h
                            refine cl_Vi (As := [.int (xs (x3 + (1 : Int32)).toNatClampNeg)]) (rest := [.int r_142]) C (ct_X7_pull hc_149) k_146 (by decide) rfl wl_505 wl_506 wl_507 wl_5 wl_508 hd_X7_pull ⟨Nat.le_of_ble_eq_true rfl, Nat.le_of_ble_eq_true rfl⟩ ⟨rfl, rfl⟩ ⟨Nat.le_of_ble_eq_true rfl, Nat.le_of_ble_eq_true rfl⟩ rfl (Nat.le_of_ble_eq_true rfl) rfl hl.1 hP hD hS dL_law_499 (fun H locs hP hD hS => ?_)
                            refine lv_icmp_eq (tgt := 740) hx hb dL_law_502 (by decide) (fun c_150 => ?_) (fun c_150 => ?_)
                            · replace h := ite_t h c_150
                              exact (bs_L_law_740 C hX hbl hbA hj18) _ _ _ _ _ h hP hD hS _ (lv_sub hl [0, 1, 2, 3] rfl)
                            · replace h := ite_f h c_150
                              refine lv_iconst (v := 0) hx hb dL_law_505 (by decide) ?_
                              exact absurd (show some (0 : Int32) = some 1 from congrArg (Option.map Prod.fst) h) (by decide)
                          · replace h := ite_f h q_139
                            by_cases q_151 : v_4 = 12
                            · replace h := ite_t h q_151
                              refine lv_tableIn (off := 475) (tgt := 507) hx hb dL_law_32 (by rw [q_151]; decide) (by rw [q_151]; decide) (by rw [q_151]; rfl) (by decide) ?_
                              refine lv_aload_n hx hb dL_law_507 rfl (lv_at hl 1 rfl) ?_
                              refine lv_aload_n hx hb dL_law_508 rfl (lv_at hl 0 rfl) ?_
                              refine lv_iload_n hx hb dL_law_509 rfl (lv_at hl 3 rfl) ?_
                              refine lv_iconst (v := 1) hx hb dL_law_510 (by decide) ?_
                              refine lv_iadd hx hb dL_law_511 ?_
                              obtain ⟨k_152, h⟩ := chk_some h
                              refine va_sld hx hb hX hbl hbA hS (inb_vp k_152) dL_law_512 ?_
                              refine lv_aload_n hx hb dL_law_513 rfl (lv_at hl 0 rfl) ?_
                              refine lv_iload_n hx hb dL_law_514 rfl (lv_at hl 3 rfl) ?_
                              refine lv_iconst (v := 2) hx hb dL_law_515 (by decide) ?_
                              refine lv_iadd hx hb dL_law_516 ?_
                              obtain ⟨k_153, h⟩ := chk_some h
                              refine va_sld hx hb hX hbl hbA hS (inb_vp k_153) dL_law_517 ?_
                              obtain ⟨k_154, h⟩ := chk_some h
                              obtain ⟨r_155, M_156, hc_157, h⟩ := cal_some h
                              refine cl_Vi (As := [.int (xs (x3 + (1 : Int32)).toNatClampNeg), .int (xs (x3 + (2 : Int32)).toNatClampNeg)]) (rest := []) C (ct_X6_stakeInfo hc_157) k_154 (by decide) rfl wl_513 wl_514 wl_515 wl_2 wl_516 hd_X6_stakeInfo ⟨Nat.le_of_ble_eq_true rfl, Nat.le_of_ble_eq_true rfl⟩ ⟨rfl, rfl⟩ ⟨Nat.le_of_ble_eq_true rfl, Nat.le_of_ble_eq_true rfl⟩ rfl (Nat.le_of_ble_eq_true rfl) rfl hl.1 hP hD hS dL_law_518 (fun H locs hP hD hS => ?_)
                              refine lv_aload_n hx hb dL_law_521 rfl (lv_at hl 2 rfl) ?_
                              refine lv_aload_n hx hb dL_law_522 rfl (lv_at hl 0 rfl) ?_
                              refine lv_iload_n hx hb dL_law_523 rfl (lv_at hl 3 rfl) ?_
                              refine lv_iconst (v := 1) hx hb dL_law_524 (by decide) ?_
                              refine lv_iadd hx hb dL_law_525 ?_
                              refine va_sld hx hb hX hbl hbA hS (inb_vp k_152) dL_law_526 ?_
                              refine lv_aload_n hx hb dL_law_527 rfl (lv_at hl 0 rfl) ?_
                              refine lv_iload_n hx hb dL_law_528 rfl (lv_at hl 3 rfl) ?_
                              refine lv_iconst (v := 2) hx hb dL_law_529 (by decide) ?_
                              refine lv_iadd hx hb dL_law_530 ?_
                              refine va_sld hx hb hX hbl hbA hS (inb_vp k_153) dL_law_531 ?_
                              obtain ⟨k_158, h⟩ := chk_some h
                              obtain ⟨r_159, M_160, hc_161, h⟩ := cal_some h
                              refine cl_Vi (As := [.int (xs (x3 + (1 : Int32)).toNatClampNeg), .int (xs (x3 + (2 : Int32)).toNatClampNeg)]) (rest := [.int r_155]) C (ct_X7_stakeInfo hc_161) k_158 (by decide) rfl wl_524 wl_525 wl_526 wl_5 wl_527 hd_X7_stakeInfo ⟨Nat.le_of_ble_eq_true rfl, Nat.le_of_ble_eq_true rfl⟩ ⟨rfl, rfl⟩ ⟨Nat.le_of_ble_eq_true rfl, Nat.le_of_ble_eq_true rfl⟩ rfl (Nat.le_of_ble_eq_true rfl) rfl hl.1 hP hD hS dL_law_532 (fun H locs hP hD hS => ?_)
                              refine lv_icmp_eq (tgt := 740) hx hb dL_law_535 (by decide) (fun c_162 => ?_) (fun c_162 => ?_)
                              · replace h := ite_t h c_162
                                exact (bs_L_law_740 C hX hbl hbA hj18) _ _ _ _ _ h hP hD hS _ (lv_sub hl [0, 1, 2, 3] rfl)
                              · replace h := ite_f h c_162
                                refine lv_iconst (v := 0) hx hb dL_law_538 (by decide) ?_
                                exact absurd (show some (0 : Int32) = some 1 from congrArg (Option.map Prod.fst) h) (by decide)
                            · replace h := ite_f h q_151
                              by_cases q_163 : v_4 = 13
                              · replace h := ite_t h q_163
                                refine lv_tableIn (off := 508) (tgt := 540) hx hb dL_law_32 (by rw [q_163]; decide) (by rw [q_163]; decide) (by rw [q_163]; rfl) (by decide) ?_
                                refine lv_aload_n hx hb dL_law_540 rfl (lv_at hl 1 rfl) ?_
                                refine lv_aload_n hx hb dL_law_541 rfl (lv_at hl 0 rfl) ?_
                                refine lv_iload_n hx hb dL_law_542 rfl (lv_at hl 3 rfl) ?_
                                refine lv_iconst (v := 1) hx hb dL_law_543 (by decide) ?_
                                refine lv_iadd hx hb dL_law_544 ?_
                                obtain ⟨k_164, h⟩ := chk_some h
                                refine va_sld hx hb hX hbl hbA hS (inb_vp k_164) dL_law_545 ?_
                                obtain ⟨k_165, h⟩ := chk_some h
                                obtain ⟨r_166, M_167, hc_168, h⟩ := cal_some h
                                refine cl_Vi (As := [.int (xs (x3 + (1 : Int32)).toNatClampNeg)]) (rest := []) C (ct_X6_stakesIn hc_168) k_165 (by decide) rfl wl_528 wl_529 wl_530 wl_2 wl_531 hd_X6_stakesIn ⟨Nat.le_of_ble_eq_true rfl, Nat.le_of_ble_eq_true rfl⟩ ⟨rfl, rfl⟩ ⟨Nat.le_of_ble_eq_true rfl, Nat.le_of_ble_eq_true rfl⟩ rfl (Nat.le_of_ble_eq_true rfl) rfl hl.1 hP hD hS dL_law_546 (fun H locs hP hD hS => ?_)
                                refine lv_aload_n hx hb dL_law_549 rfl (lv_at hl 2 rfl) ?_
                                refine lv_aload_n hx hb dL_law_550 rfl (lv_at hl 0 rfl) ?_
                                refine lv_iload_n hx hb dL_law_551 rfl (lv_at hl 3 rfl) ?_
                                refine lv_iconst (v := 1) hx hb dL_law_552 (by decide) ?_
                                refine lv_iadd hx hb dL_law_553 ?_
                                refine va_sld hx hb hX hbl hbA hS (inb_vp k_164) dL_law_554 ?_
                                obtain ⟨k_169, h⟩ := chk_some h
                                obtain ⟨r_170, M_171, hc_172, h⟩ := cal_some h
                                refine cl_Vi (As := [.int (xs (x3 + (1 : Int32)).toNatClampNeg)]) (rest := [.int r_166]) C (ct_X7_stakesIn hc_172) k_169 (by decide) rfl wl_532 wl_533 wl_534 wl_5 wl_535 hd_X7_stakesIn ⟨Nat.le_of_ble_eq_true rfl, Nat.le_of_ble_eq_true rfl⟩ ⟨rfl, rfl⟩ ⟨Nat.le_of_ble_eq_true rfl, Nat.le_of_ble_eq_true rfl⟩ rfl (Nat.le_of_ble_eq_true rfl) rfl hl.1 hP hD hS dL_law_555 (fun H locs hP hD hS => ?_)
                                refine lv_icmp_eq (tgt := 740) hx hb dL_law_558 (by decide) (fun c_173 => ?_) (fun c_173 => ?_)
                                · replace h := ite_t h c_173
                                  exact (bs_L_law_740 C hX hbl hbA hj18) _ _ _ _ _ h hP hD hS _ (lv_sub hl [0, 1, 2, 3] rfl)
                                · replace h := ite_f h c_173
                                  refine lv_iconst (v := 0) hx hb dL_law_561 (by decide) ?_
                                  exact absurd (show some (0 : Int32) = some 1 from congrArg (Option.map Prod.fst) h) (by decide)
                              · replace h := ite_f h q_163
                                by_cases q_174 : v_4 = 14
                                · replace h := ite_t h q_174
                                  refine lv_tableIn (off := 531) (tgt := 563) hx hb dL_law_32 (by rw [q_174]; decide) (by rw [q_174]; decide) (by rw [q_174]; rfl) (by decide) ?_
                                  refine lv_aload_n hx hb dL_law_563 rfl (lv_at hl 1 rfl) ?_
                                  refine lv_aload_n hx hb dL_law_564 rfl (lv_at hl 0 rfl) ?_
                                  refine lv_iload_n hx hb dL_law_565 rfl (lv_at hl 3 rfl) ?_
                                  refine lv_iconst (v := 1) hx hb dL_law_566 (by decide) ?_
                                  refine lv_iadd hx hb dL_law_567 ?_
                                  obtain ⟨k_175, h⟩ := chk_some h
                                  refine va_sld hx hb hX hbl hbA hS (inb_vp k_175) dL_law_568 ?_
                                  obtain ⟨k_176, h⟩ := chk_some h
                                  obtain ⟨r_177, M_178, R_180, hc_179, h⟩ := calR_some h
                                  refine cl_Vi (As := [.int (xs (x3 + (1 : Int32)).toNatClampNeg)]) (rest := []) C (ct_X6_years hc_179) k_176 (by decide) rfl wl_536 wl_537 wl_538 wl_2 wl_539 hd_X6_years ⟨Nat.le_of_ble_eq_true rfl, Nat.le_of_ble_eq_true rfl⟩ ⟨rfl, rfl⟩ ⟨Nat.le_of_ble_eq_true rfl, Nat.le_of_ble_eq_true rfl⟩ rfl (Nat.le_of_ble_eq_true rfl) rfl hl.1 hP hD hS dL_law_569 (fun H locs hP hD hS => ?_)
                                  refine lv_aload_n hx hb dL_law_572 rfl (lv_at hl 2 rfl) ?_
                                  refine lv_aload_n hx hb dL_law_573 rfl (lv_at hl 0 rfl) ?_
                                  refine lv_iload_n hx hb dL_law_574 rfl (lv_at hl 3 rfl) ?_
                                  refine lv_iconst (v := 1) hx hb dL_law_575 (by decide) ?_
                                  refine lv_iadd hx hb dL_law_576 ?_
                                  refine va_sld hx hb hX hbl hbA hS (inb_vp k_175) dL_law_577 ?_
                                  obtain ⟨k_181, h⟩ := chk_some h
                                  obtain ⟨r_182, M_183, hc_184, h⟩ := cal_some h
                                  refine cl_Vi (As := [.int (xs (x3 + (1 : Int32)).toNatClampNeg)]) (rest := [.int r_177]) C (ct_X7_years hc_184) k_181 (by decide) rfl wl_600 wl_601 wl_602 wl_5 wl_603 hd_X7_years ⟨Nat.le_of_ble_eq_true rfl, Nat.le_of_ble_eq_true rfl⟩ ⟨rfl, rfl⟩ ⟨Nat.le_of_ble_eq_true rfl, Nat.le_of_ble_eq_true rfl⟩ rfl (Nat.le_of_ble_eq_true rfl) rfl hl.1 hP hD hS dL_law_578 (fun H locs hP hD hS => ?_)
                                  refine lv_icmp_eq (tgt := 740) hx hb dL_law_581 (by decide) (fun c_185 => ?_) (fun c_185 => ?_)
                                  · replace h := ite_t h c_185
                                    exact (bs_L_law_740 C hX hbl hbA hj18) _ _ _ _ _ h hP hD hS _ (lv_sub hl [0, 1, 2, 3] rfl)
                                  · replace h := ite_f h c_185
                                    refine lv_iconst (v := 0) hx hb dL_law_584 (by decide) ?_
                                    exact absurd (show some (0 : Int32) = some 1 from congrArg (Option.map Prod.fst) h) (by decide)
                                · replace h := ite_f h q_174
                                  by_cases q_186 : v_4 = 15
                                  · replace h := ite_t h q_186
                                    refine lv_tableIn (off := 554) (tgt := 586) hx hb dL_law_32 (by rw [q_186]; decide) (by rw [q_186]; decide) (by rw [q_186]; rfl) (by decide) ?_
                                    refine lv_aload_n hx hb dL_law_586 rfl (lv_at hl 1 rfl) ?_
                                    refine lv_aload_n hx hb dL_law_587 rfl (lv_at hl 0 rfl) ?_
                                    refine lv_iload_n hx hb dL_law_588 rfl (lv_at hl 3 rfl) ?_
                                    refine lv_iconst (v := 1) hx hb dL_law_589 (by decide) ?_
                                    refine lv_iadd hx hb dL_law_590 ?_
                                    obtain ⟨k_187, h⟩ := chk_some h
                                    refine va_sld hx hb hX hbl hbA hS (inb_vp k_187) dL_law_591 ?_
                                    refine lv_aload_n hx hb dL_law_592 rfl (lv_at hl 0 rfl) ?_
                                    refine lv_iload_n hx hb dL_law_593 rfl (lv_at hl 3 rfl) ?_
                                    refine lv_iconst (v := 2) hx hb dL_law_594 (by decide) ?_
                                    refine lv_iadd hx hb dL_law_595 ?_
                                    obtain ⟨k_188, h⟩ := chk_some h
                                    refine va_sld hx hb hX hbl hbA hS (inb_vp k_188) dL_law_596 ?_
                                    obtain ⟨k_189, h⟩ := chk_some h
                                    obtain ⟨r_190, M_191, hc_192, h⟩ := cal_some h
                                    refine cl_Vi (As := [.int (xs (x3 + (1 : Int32)).toNatClampNeg), .int (xs (x3 + (2 : Int32)).toNatClampNeg)]) (rest := []) C (ct_X6_ifYears hc_192) k_189 (by decide) rfl wl_633 wl_634 wl_635 wl_2 wl_636 hd_X6_ifYears ⟨Nat.le_of_ble_eq_true rfl, Nat.le_of_ble_eq_true rfl⟩ ⟨rfl, rfl⟩ ⟨Nat.le_of_ble_eq_true rfl, Nat.le_of_ble_eq_true rfl⟩ rfl (Nat.le_of_ble_eq_true rfl) rfl hl.1 hP hD hS dL_law_597 (fun H locs hP hD hS => ?_)
                                    refine lv_aload_n hx hb dL_law_600 rfl (lv_at hl 2 rfl) ?_
                                    refine lv_aload_n hx hb dL_law_601 rfl (lv_at hl 0 rfl) ?_
                                    refine lv_iload_n hx hb dL_law_602 rfl (lv_at hl 3 rfl) ?_
                                    refine lv_iconst (v := 1) hx hb dL_law_603 (by decide) ?_
                                    refine lv_iadd hx hb dL_law_604 ?_
                                    refine va_sld hx hb hX hbl hbA hS (inb_vp k_187) dL_law_605 ?_
                                    refine lv_aload_n hx hb dL_law_606 rfl (lv_at hl 0 rfl) ?_
                                    refine lv_iload_n hx hb dL_law_607 rfl (lv_at hl 3 rfl) ?_
                                    refine lv_iconst (v := 2) hx hb dL_law_608 (by decide) ?_
                                    refine lv_iadd hx hb dL_law_609 ?_
                                    refine va_sld hx hb hX hbl hbA hS (inb_vp k_188) dL_law_610 ?_
                                    obtain ⟨k_193, h⟩ := chk_some h
                                    obtain ⟨r_194, M_195, hc_196, h⟩ := cal_some h
                                    refine cl_Vi (As := [.int (xs (x3 + (1 : Int32)).toNatClampNeg), .int (xs (x3 + (2 : Int32)).toNatClampNeg)]) (rest := [.int r_190]) C (ct_X7_ifYears hc_196) k_193 (by decide) rfl wl_644 wl_645 wl_646 wl_5 wl_647 hd_X7_ifYears ⟨Nat.le_of_ble_eq_true rfl, Nat.le_of_ble_eq_true rfl⟩ ⟨rfl, rfl⟩ ⟨Nat.le_of_ble_eq_true rfl, Nat.le_of_ble_eq_true rfl⟩ rfl (Nat.le_of_ble_eq_true rfl) rfl hl.1 hP hD hS dL_law_611 (fun H locs hP hD hS => ?_)
                                    refine lv_icmp_eq (tgt := 740) hx hb dL_law_614 (by decide) (fun c_197 => ?_) (fun c_197 => ?_)
                                    · replace h := ite_t h c_197
                                      exact (bs_L_law_740 C hX hbl hbA hj18) _ _ _ _ _ h hP hD hS _ (lv_sub hl [0, 1, 2, 3] rfl)
                                    · replace h := ite_f h c_197
                                      refine lv_iconst (v := 0) hx hb dL_law_617 (by decide) ?_
                                      exact absurd (show some (0 : Int32) = some 1 from congrArg (Option.map Prod.fst) h) (by decide)
                                  · replace h := ite_f h q_186
                                    by_cases q_198 : v_4 = 16
                                    · replace h := ite_t h q_198
                                      refine lv_tableIn (off := 587) (tgt := 619) hx hb dL_law_32 (by rw [q_198]; decide) (by rw [q_198]; decide) (by rw [q_198]; rfl) (by decide) ?_
                                      refine lv_aload_n hx hb dL_law_619 rfl (lv_at hl 1 rfl) ?_
                                      refine lv_aload_n hx hb dL_law_620 rfl (lv_at hl 0 rfl) ?_
                                      refine lv_iload_n hx hb dL_law_621 rfl (lv_at hl 3 rfl) ?_
                                      refine lv_iconst (v := 1) hx hb dL_law_622 (by decide) ?_
                                      refine lv_iadd hx hb dL_law_623 ?_
                                      obtain ⟨k_199, h⟩ := chk_some h
                                      refine va_sld hx hb hX hbl hbA hS (inb_vp k_199) dL_law_624 ?_
                                      obtain ⟨k_200, h⟩ := chk_some h
                                      obtain ⟨r_201, M_202, hc_203, h⟩ := cal_some h
                                      refine cl_Vi (As := [.int (xs (x3 + (1 : Int32)).toNatClampNeg)]) (rest := []) C (ct_X6_yearsTo hc_203) k_200 (by decide) rfl wl_664 wl_665 wl_666 wl_2 wl_667 hd_X6_yearsTo ⟨Nat.le_of_ble_eq_true rfl, Nat.le_of_ble_eq_true rfl⟩ ⟨rfl, rfl⟩ ⟨Nat.le_of_ble_eq_true rfl, Nat.le_of_ble_eq_true rfl⟩ rfl (Nat.le_of_ble_eq_true rfl) rfl hl.1 hP hD hS dL_law_625 (fun H locs hP hD hS => ?_)
                                      refine lv_aload_n hx hb dL_law_628 rfl (lv_at hl 2 rfl) ?_
                                      refine lv_aload_n hx hb dL_law_629 rfl (lv_at hl 0 rfl) ?_
                                      refine lv_iload_n hx hb dL_law_630 rfl (lv_at hl 3 rfl) ?_
                                      refine lv_iconst (v := 1) hx hb dL_law_631 (by decide) ?_
                                      refine lv_iadd hx hb dL_law_632 ?_
                                      refine va_sld hx hb hX hbl hbA hS (inb_vp k_199) dL_law_633 ?_
                                      obtain ⟨k_204, h⟩ := chk_some h
                                      obtain ⟨r_205, M_206, hc_207, h⟩ := cal_some h
                                      refine cl_Vi (As := [.int (xs (x3 + (1 : Int32)).toNatClampNeg)]) (rest := [.int r_201]) C (ct_X7_yearsTo hc_207) k_204 (by decide) rfl wl_673 wl_674 wl_675 wl_5 wl_676 hd_X7_yearsTo ⟨Nat.le_of_ble_eq_true rfl, Nat.le_of_ble_eq_true rfl⟩ ⟨rfl, rfl⟩ ⟨Nat.le_of_ble_eq_true rfl, Nat.le_of_ble_eq_true rfl⟩ rfl (Nat.le_of_ble_eq_true rfl) rfl hl.1 hP hD hS dL_law_634 (fun H locs hP hD hS => ?_)
                                      refine lv_icmp_eq (tgt := 740) hx hb dL_law_637 (by decide) (fun c_208 => ?_) (fun c_208 => ?_)
                                      · replace h := ite_t h c_208
                                        exact (bs_L_law_740 C hX hbl hbA hj18) _ _ _ _ _ h hP hD hS _ (lv_sub hl [0, 1, 2, 3] rfl)
                                      · replace h := ite_f h c_208
                                        refine lv_iconst (v := 0) hx hb dL_law_640 (by decide) ?_
                                        exact absurd (show some (0 : Int32) = some 1 from congrArg (Option.map Prod.fst) h) (by decide)
                                    · replace h := ite_f h q_198
                                      by_cases q_209 : v_4 = 17
                                      · replace h := ite_t h q_209
                                        refine lv_tableIn (off := 610) (tgt := 642) hx hb dL_law_32 (by rw [q_209]; decide) (by rw [q_209]; decide) (by rw [q_209]; rfl) (by decide) ?_
                                        refine lv_aload_n hx hb dL_law_642 rfl (lv_at hl 1 rfl) ?_
                                        obtain ⟨k_210, h⟩ := chk_some h
                                        obtain ⟨r_211, M_212, hc_213, h⟩ := cal_some h
                                        refine cl_Vi (As := []) (rest := []) C (ct_X6_steadyMelt hc_213) k_210 (by decide) rfl wl_681 wl_682 wl_683 wl_2 wl_684 hd_X6_steadyMelt ⟨Nat.le_of_ble_eq_true rfl, Nat.le_of_ble_eq_true rfl⟩ ⟨rfl, rfl⟩ ⟨Nat.le_of_ble_eq_true rfl, Nat.le_of_ble_eq_true rfl⟩ rfl (Nat.le_of_ble_eq_true rfl) rfl hl.1 hP hD hS dL_law_643 (fun H locs hP hD hS => ?_)
                                        refine lv_aload_n hx hb dL_law_646 rfl (lv_at hl 2 rfl) ?_
                                        obtain ⟨k_214, h⟩ := chk_some h
                                        obtain ⟨r_215, M_216, hc_217, h⟩ := cal_some h
                                        refine cl_Vi (As := []) (rest := [.int r_211]) C (ct_X7_steadyMelt hc_217) k_214 (by decide) rfl wl_689 wl_690 wl_691 wl_5 wl_692 hd_X7_steadyMelt ⟨Nat.le_of_ble_eq_true rfl, Nat.le_of_ble_eq_true rfl⟩ ⟨rfl, rfl⟩ ⟨Nat.le_of_ble_eq_true rfl, Nat.le_of_ble_eq_true rfl⟩ rfl (Nat.le_of_ble_eq_true rfl) rfl hl.1 hP hD hS dL_law_647 (fun H locs hP hD hS => ?_)
                                        refine lv_icmp_eq (tgt := 740) hx hb dL_law_650 (by decide) (fun c_218 => ?_) (fun c_218 => ?_)
                                        · replace h := ite_t h c_218
                                          exact (bs_L_law_740 C hX hbl hbA hj18) _ _ _ _ _ h hP hD hS _ (lv_sub hl [0, 1, 2, 3] rfl)
                                        · replace h := ite_f h c_218
                                          refine lv_iconst (v := 0) hx hb dL_law_653 (by decide) ?_
                                          exact absurd (show some (0 : Int32) = some 1 from congrArg (Option.map Prod.fst) h) (by decide)
                                      · replace h := ite_f h q_209
                                        by_cases q_219 : v_4 = 18
                                        · replace h := ite_t h q_219
                                          refine lv_tableIn (off := 623) (tgt := 655) hx hb dL_law_32 (by rw [q_219]; decide) (by rw [q_219]; decide) (by rw [q_219]; rfl) (by decide) ?_
                                          refine lv_aload_n hx hb dL_law_655 rfl (lv_at hl 1 rfl) ?_
                                          obtain ⟨k_220, h⟩ := chk_some h
                                          obtain ⟨r_221, M_222, R_224, hc_223, h⟩ := calR_some h
                                          refine cl_Vi (As := []) (rest := []) C (ct_X6_undo hc_223) k_220 (by decide) rfl wl_697 wl_698 wl_699 wl_2 wl_700 hd_X6_undo ⟨Nat.le_of_ble_eq_true rfl, Nat.le_of_ble_eq_true rfl⟩ ⟨rfl, rfl⟩ ⟨Nat.le_of_ble_eq_true rfl, Nat.le_of_ble_eq_true rfl⟩ rfl (Nat.le_of_ble_eq_true rfl) rfl hl.1 hP hD hS dL_law_656 (fun H locs hP hD hS => ?_)
                                          refine lv_aload_n hx hb dL_law_659 rfl (lv_at hl 2 rfl) ?_
                                          obtain ⟨k_225, h⟩ := chk_some h
                                          obtain ⟨r_226, M_227, hc_228, h⟩ := cal_some h
                                          refine cl_Vi (As := []) (rest := [.int r_221]) C (ct_X7_undo hc_228) k_225 (by decide) rfl wl_701 wl_702 wl_703 wl_5 wl_704 hd_X7_undo ⟨Nat.le_of_ble_eq_true rfl, Nat.le_of_ble_eq_true rfl⟩ ⟨rfl, rfl⟩ ⟨Nat.le_of_ble_eq_true rfl, Nat.le_of_ble_eq_true rfl⟩ rfl (Nat.le_of_ble_eq_true rfl) rfl hl.1 hP hD hS dL_law_660 (fun H locs hP hD hS => ?_)
                                          refine lv_icmp_eq (tgt := 740) hx hb dL_law_663 (by decide) (fun c_229 => ?_) (fun c_229 => ?_)
                                          · replace h := ite_t h c_229
                                            exact (bs_L_law_740 C hX hbl hbA hj18) _ _ _ _ _ h hP hD hS _ (lv_sub hl [0, 1, 2, 3] rfl)
                                          · replace h := ite_f h c_229
                                            refine lv_iconst (v := 0) hx hb dL_law_666 (by decide) ?_
                                            exact absurd (show some (0 : Int32) = some 1 from congrArg (Option.map Prod.fst) h) (by decide)
                                        · replace h := ite_f h q_219
                                          by_cases q_230 : v_4 = 19
                                          · replace h := ite_t h q_230
                                            refine lv_tableIn (off := 636) (tgt := 668) hx hb dL_law_32 (by rw [q_230]; decide) (by rw [q_230]; decide) (by rw [q_230]; rfl) (by decide) ?_
                                            refine lv_aload_n hx hb dL_law_668 rfl (lv_at hl 1 rfl) ?_
                                            refine lv_aload_n hx hb dL_law_669 rfl (lv_at hl 0 rfl) ?_
                                            refine lv_iload_n hx hb dL_law_670 rfl (lv_at hl 3 rfl) ?_
                                            refine lv_iconst (v := 1) hx hb dL_law_671 (by decide) ?_
                                            refine lv_iadd hx hb dL_law_672 ?_
                                            obtain ⟨k_231, h⟩ := chk_some h
                                            refine va_sld hx hb hX hbl hbA hS (inb_vp k_231) dL_law_673 ?_
                                            obtain ⟨k_232, h⟩ := chk_some h
                                            obtain ⟨r_233, M_234, hc_235, h⟩ := cal_some h
                                            refine cl_Vi (As := [.int (xs (x3 + (1 : Int32)).toNatClampNeg)]) (rest := []) C (ct_X6_type hc_235) k_232 (by decide) rfl wl_705 wl_706 wl_707 wl_2 wl_708 hd_X6_type ⟨Nat.le_of_ble_eq_true rfl, Nat.le_of_ble_eq_true rfl⟩ ⟨rfl, rfl⟩ ⟨Nat.le_of_ble_eq_true rfl, Nat.le_of_ble_eq_true rfl⟩ rfl (Nat.le_of_ble_eq_true rfl) rfl hl.1 hP hD hS dL_law_674 (fun H locs hP hD hS => ?_)
                                            refine lv_aload_n hx hb dL_law_677 rfl (lv_at hl 2 rfl) ?_
                                            refine lv_aload_n hx hb dL_law_678 rfl (lv_at hl 0 rfl) ?_
                                            refine lv_iload_n hx hb dL_law_679 rfl (lv_at hl 3 rfl) ?_
                                            refine lv_iconst (v := 1) hx hb dL_law_680 (by decide) ?_
                                            refine lv_iadd hx hb dL_law_681 ?_
                                            refine va_sld hx hb hX hbl hbA hS (inb_vp k_231) dL_law_682 ?_
                                            obtain ⟨k_236, h⟩ := chk_some h
                                            obtain ⟨r_237, M_238, hc_239, h⟩ := cal_some h
                                            refine cl_Vi (As := [.int (xs (x3 + (1 : Int32)).toNatClampNeg)]) (rest := [.int r_233]) C (ct_X7_type hc_239) k_236 (by decide) rfl wl_713 wl_714 wl_715 wl_5 wl_716 hd_X7_type ⟨Nat.le_of_ble_eq_true rfl, Nat.le_of_ble_eq_true rfl⟩ ⟨rfl, rfl⟩ ⟨Nat.le_of_ble_eq_true rfl, Nat.le_of_ble_eq_true rfl⟩ rfl (Nat.le_of_ble_eq_true rfl) rfl hl.1 hP hD hS dL_law_683 (fun H locs hP hD hS => ?_)
                                            refine lv_icmp_eq (tgt := 740) hx hb dL_law_686 (by decide) (fun c_240 => ?_) (fun c_240 => ?_)
                                            · replace h := ite_t h c_240
                                              exact (bs_L_law_740 C hX hbl hbA hj18) _ _ _ _ _ h hP hD hS _ (lv_sub hl [0, 1, 2, 3] rfl)
                                            · replace h := ite_f h c_240
                                              refine lv_iconst (v := 0) hx hb dL_law_689 (by decide) ?_
                                              exact absurd (show some (0 : Int32) = some 1 from congrArg (Option.map Prod.fst) h) (by decide)
                                          · replace h := ite_f h q_230
                                            by_cases q_241 : v_4 = 20
                                            · replace h := ite_t h q_241
                                              refine lv_tableIn (off := 659) (tgt := 691) hx hb dL_law_32 (by rw [q_241]; decide) (by rw [q_241]; decide) (by rw [q_241]; rfl) (by decide) ?_
                                              refine lv_aload_n hx hb dL_law_691 rfl (lv_at hl 1 rfl) ?_
                                              obtain ⟨k_242, h⟩ := chk_some h
                                              obtain ⟨r_243, M_244, hc_245, h⟩ := cal_some h
                                              refine cl_Vi (As := []) (rest := []) C (ct_X6_clearText hc_245) k_242 (by decide) rfl wl_717 wl_718 wl_719 wl_2 wl_720 hd_X6_clearText ⟨Nat.le_of_ble_eq_true rfl, Nat.le_of_ble_eq_true rfl⟩ ⟨rfl, rfl⟩ ⟨Nat.le_of_ble_eq_true rfl, Nat.le_of_ble_eq_true rfl⟩ rfl (Nat.le_of_ble_eq_true rfl) rfl hl.1 hP hD hS dL_law_692 (fun H locs hP hD hS => ?_)
                                              refine lv_aload_n hx hb dL_law_695 rfl (lv_at hl 2 rfl) ?_
                                              obtain ⟨k_246, h⟩ := chk_some h
                                              obtain ⟨r_247, M_248, hc_249, h⟩ := cal_some h
                                              refine cl_Vi (As := []) (rest := [.int r_243]) C (ct_X7_clearText hc_249) k_246 (by decide) rfl wl_721 wl_722 wl_723 wl_5 wl_724 hd_X7_clearText ⟨Nat.le_of_ble_eq_true rfl, Nat.le_of_ble_eq_true rfl⟩ ⟨rfl, rfl⟩ ⟨Nat.le_of_ble_eq_true rfl, Nat.le_of_ble_eq_true rfl⟩ rfl (Nat.le_of_ble_eq_true rfl) rfl hl.1 hP hD hS dL_law_696 (fun H locs hP hD hS => ?_)
                                              refine lv_icmp_eq (tgt := 740) hx hb dL_law_699 (by decide) (fun c_250 => ?_) (fun c_250 => ?_)
                                              · replace h := ite_t h c_250
                                                exact (bs_L_law_740 C hX hbl hbA hj18) _ _ _ _ _ h hP hD hS _ (lv_sub hl [0, 1, 2, 3] rfl)
                                              · replace h := ite_f h c_250
                                                refine lv_iconst (v := 0) hx hb dL_law_702 (by decide) ?_
                                                exact absurd (show some (0 : Int32) = some 1 from congrArg (Option.map Prod.fst) h) (by decide)
                                            · replace h := ite_f h q_241
                                              by_cases q_251 : v_4 = 21
                                              · replace h := ite_t h q_251
                                                refine lv_tableIn (off := 672) (tgt := 704) hx hb dL_law_32 (by rw [q_251]; decide) (by rw [q_251]; decide) (by rw [q_251]; rfl) (by decide) ?_
                                                refine lv_aload_n hx hb dL_law_704 rfl (lv_at hl 1 rfl) ?_
                                                refine lv_aload_n hx hb dL_law_705 rfl (lv_at hl 0 rfl) ?_
                                                refine lv_iload_n hx hb dL_law_706 rfl (lv_at hl 3 rfl) ?_
                                                refine lv_iconst (v := 1) hx hb dL_law_707 (by decide) ?_
                                                refine lv_iadd hx hb dL_law_708 ?_
                                                obtain ⟨k_252, h⟩ := chk_some h
                                                refine va_sld hx hb hX hbl hbA hS (inb_vp k_252) dL_law_709 ?_
                                                obtain ⟨k_253, h⟩ := chk_some h
                                                obtain ⟨r_254, M_255, hc_256, h⟩ := cal_some h
                                                refine cl_Vi (As := [.int (xs (x3 + (1 : Int32)).toNatClampNeg)]) (rest := []) C (ct_X6_fault hc_256) k_253 (by decide) rfl wl_725 wl_726 wl_727 wl_2 wl_728 hd_X6_fault ⟨Nat.le_of_ble_eq_true rfl, Nat.le_of_ble_eq_true rfl⟩ ⟨rfl, rfl⟩ ⟨Nat.le_of_ble_eq_true rfl, Nat.le_of_ble_eq_true rfl⟩ rfl (Nat.le_of_ble_eq_true rfl) rfl hl.1 hP hD hS dL_law_710 (fun H locs hP hD hS => ?_)
                                                refine lv_aload_n hx hb dL_law_713 rfl (lv_at hl 2 rfl) ?_
                                                refine lv_aload_n hx hb dL_law_714 rfl (lv_at hl 0 rfl) ?_
                                                refine lv_iload_n hx hb dL_law_715 rfl (lv_at hl 3 rfl) ?_
                                                refine lv_iconst (v := 1) hx hb dL_law_716 (by decide) ?_
                                                refine lv_iadd hx hb dL_law_717 ?_
                                                refine va_sld hx hb hX hbl hbA hS (inb_vp k_252) dL_law_718 ?_
                                                obtain ⟨k_257, h⟩ := chk_some h
                                                obtain ⟨r_258, M_259, hc_260, h⟩ := cal_some h
                                                refine cl_Vi (As := [.int (xs (x3 + (1 : Int32)).toNatClampNeg)]) (rest := [.int r_254]) C (ct_X7_fault hc_260) k_257 (by decide) rfl wl_770 wl_771 wl_772 wl_5 wl_773 hd_X7_fault ⟨Nat.le_of_ble_eq_true rfl, Nat.le_of_ble_eq_true rfl⟩ ⟨rfl, rfl⟩ ⟨Nat.le_of_ble_eq_true rfl, Nat.le_of_ble_eq_true rfl⟩ rfl (Nat.le_of_ble_eq_true rfl) rfl hl.1 hP hD hS dL_law_719 (fun H locs hP hD hS => ?_)
                                                refine lv_icmp_eq (tgt := 740) hx hb dL_law_722 (by decide) (fun c_261 => ?_) (fun c_261 => ?_)
                                                · replace h := ite_t h c_261
                                                  exact (bs_L_law_740 C hX hbl hbA hj18) _ _ _ _ _ h hP hD hS _ (lv_sub hl [0, 1, 2, 3] rfl)
                                                · replace h := ite_f h c_261
                                                  refine lv_iconst (v := 0) hx hb dL_law_725 (by decide) ?_
                                                  exact absurd (show some (0 : Int32) = some 1 from congrArg (Option.map Prod.fst) h) (by decide)
                                              · replace h := ite_f h q_251
                                                by_cases q_262 : v_4 = 22
                                                · replace h := ite_t h q_262
                                                  refine lv_tableIn (off := 695) (tgt := 727) hx hb dL_law_32 (by rw [q_262]; decide) (by rw [q_262]; decide) (by rw [q_262]; rfl) (by decide) ?_
                                                  refine lv_aload_n hx hb dL_law_727 rfl (lv_at hl 1 rfl) ?_
                                                  obtain ⟨k_263, h⟩ := chk_some h
                                                  obtain ⟨r_264, M_265, R_267, hc_266, h⟩ := calR_some h
                                                  refine cl_Vi (As := []) (rest := []) C (ct_X6_live hc_266) k_263 (by decide) rfl wl_794 wl_795 wl_796 wl_2 wl_797 hd_X6_live ⟨Nat.le_of_ble_eq_true rfl, Nat.le_of_ble_eq_true rfl⟩ ⟨rfl, rfl⟩ ⟨Nat.le_of_ble_eq_true rfl, Nat.le_of_ble_eq_true rfl⟩ rfl (Nat.le_of_ble_eq_true rfl) rfl hl.1 hP hD hS dL_law_728 (fun H locs hP hD hS => ?_)
                                                  refine lv_aload_n hx hb dL_law_731 rfl (lv_at hl 2 rfl) ?_
                                                  obtain ⟨k_268, h⟩ := chk_some h
                                                  obtain ⟨r_269, M_270, hc_271, h⟩ := cal_some h
                                                  refine cl_Vi (As := []) (rest := [.int r_264]) C (ct_X7_live hc_271) k_268 (by decide) rfl wl_798 wl_799 wl_800 wl_5 wl_801 hd_X7_live ⟨Nat.le_of_ble_eq_true rfl, Nat.le_of_ble_eq_true rfl⟩ ⟨rfl, rfl⟩ ⟨Nat.le_of_ble_eq_true rfl, Nat.le_of_ble_eq_true rfl⟩ rfl (Nat.le_of_ble_eq_true rfl) rfl hl.1 hP hD hS dL_law_732 (fun H locs hP hD hS => ?_)
                                                  refine lv_icmp_eq (tgt := 740) hx hb dL_law_735 (by decide) (fun c_272 => ?_) (fun c_272 => ?_)
                                                  · replace h := ite_t h c_272
                                                    exact (bs_L_law_740 C hX hbl hbA hj18) _ _ _ _ _ h hP hD hS _ (lv_sub hl [0, 1, 2, 3] rfl)
                                                  · replace h := ite_f h c_272
                                                    refine lv_iconst (v := 0) hx hb dL_law_738 (by decide) ?_
                                                    exact absurd (show some (0 : Int32) = some 1 from congrArg (Option.map Prod.fst) h) (by decide)
                                                · replace h := ite_f h q_262
                                                  refine lv_tableOut (tgt := 740) hx hb dL_law_32 (by have zq_5 := i32ne (k := 0) q_5 (by decide); have zq_18 := i32ne (k := 1) q_18 (by decide); have zq_33 := i32ne (k := 2) q_33 (by decide); have zq_46 := i32ne (k := 3) q_46 (by decide); have zq_58 := i32ne (k := 4) q_58 (by decide); have zq_71 := i32ne (k := 5) q_71 (by decide); have zq_82 := i32ne (k := 6) q_82 (by decide); have zq_92 := i32ne (k := 7) q_92 (by decide); have zq_103 := i32ne (k := 8) q_103 (by decide); have zq_114 := i32ne (k := 9) q_114 (by decide); have zq_125 := i32ne (k := 10) q_125 (by decide); have zq_139 := i32ne (k := 11) q_139 (by decide); have zq_151 := i32ne (k := 12) q_151 (by decide); have zq_163 := i32ne (k := 13) q_163 (by decide); have zq_174 := i32ne (k := 14) q_174 (by decide); have zq_186 := i32ne (k := 15) q_186 (by decide); have zq_198 := i32ne (k := 16) q_198 (by decide); have zq_209 := i32ne (k := 17) q_209 (by decide); have zq_219 := i32ne (k := 18) q_219 (by decide); have zq_230 := i32ne (k := 19) q_230 (by decide); have zq_241 := i32ne (k := 20) q_241 (by decide); have zq_251 := i32ne (k := 21) q_251 (by decide); have zq_262 := i32ne (k := 22) q_262 (by decide); omega) (by decide) ?_
                                                  exact (bs_L_law_740 C hX hbl hbA hj18) _ _ _ _ _ h hP hD hS _ (lv_sub hl [0, 1, 2, 3] rfl)
theorem bt_L_law_18 {p : Program} {l : Launch} {e : Env} {s : State} {m : MethodId} {below : List Frame} {meth : Method} {c : Code} {D : va_G} {cy : Cy} {T : Ty} {R9 : Rm} {M9 : Mm} {b L : Nat} {xs : Nat → Int32} {a1 : Nat} {a2 : Nat} (C : Cx RL cL_law 4 ret p s m #[Value.ref b] meth c D cy (fun q : Nat => s.heap.size ≤ q)) (hX : va_X b L xs s s.heap) (hbl : b < s.heap.size) (hbA : ¬ (fun q : Nat => s.heap.size ≤ q) b) :
    ∀ n : Nat, ∀ (x3 : Int32) (M : Mm) (R : Rm) (H : Heap) (locs : List Loc), fb_L_law_18 T L xs a1 a2 n x3 M R = some (1, M9, R9) → va_P D vwCl (WL cy T M R) H → va_D (fun q : Nat => s.heap.size ≤ q) (WL cy T M R) → va_S (fun q : Nat => s.heap.size ≤ q) s.heap H locs → ∀ ls : Array Slot, lv_has ls 4 [(0, .ref b), (1, .ref a1), (2, .ref a2), (3, .int x3)] → W p l e room_1 s m #[Value.ref b] below meth c H locs 262 86056 (lw_Z below #[Value.ref b] s) (F0 m 18 ls []) := by
  intro n
  induction n with
  | zero =>
    intro _ _ _ H locs h
    exact absurd (show (none : Option (Int32 × Mm × Rm)) = some _ from h) (by simp)
  | succ n ih => exact fun u0 u1 u2 H locs h => bs_L_law_18 (a1 := a1) (a2 := a2) C hX hbl hbA ih u0 u1 u2 H locs h
