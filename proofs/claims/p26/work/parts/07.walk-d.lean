abbrev rm_L_low : Room := { frames := 0, cells := 0, slots := 0, locals := 0 }
theorem hd_L_low : yL_low.cls ≠ "java/lang/invoke/MethodHandle" ∧ yL_low.cls ≠ "java/lang/invoke/VarHandle" ∧ (parseMethodDescriptor yL_low.desc).map (fun d => d.parameters.length) = some 2 := ⟨by decide +kernel, by decide +kernel, by decide +kernel⟩
set_option maxHeartbeats 4000000 in
set_option maxRecDepth 100000 in
theorem ct_L_low {l : Launch} {D : va_G} {cy : Cy} {T : Ty} {R : Rm} {x0 : Int32} {x1 : Int32} {M : Mm} {r : Int32} {M9 : Mm} (h : fn_L_low T R x0 x1 M = some (r, M9)) : Ct QcI l yL_low cL_low 2 (some .int) rm_L_low D cy T M R [.int x0, .int x1] M9 R r := by
  unfold fn_L_low at h
  refine enter (plainFor_of_name (by decide +kernel)) (Nat.le_of_ble_eq_true rfl) (fun p e s m args below meth c A C hP hD hS ls hl => ?_)
  have hl : lv_has ls 2 [(0, .int x0), (1, .int x1)] := hl
  obtain ⟨hx, hb, hr, hml, hown, hts, hK, hA, hlk, hSt⟩ := id C
  refine lv_iload_n hx hb dL_low_0 rfl (lv_at hl 0 rfl) ?_
  refine lv_ldc (own := RL) (v := 2147483647) hx hb hown (hts _ wl_518) dL_low_1 ?_
  refine lv_iand hx hb dL_low_3 ?_
  refine lv_iload_n hx hb dL_low_4 rfl (lv_at hl 1 rfl) ?_
  obtain ⟨k_1, h⟩ := chk_some h
  refine lv_irem hx hb dL_low_5 (of_decide_eq_true k_1) ?_
  cases h
  exact rt_i C hP hD hS dL_low_6
abbrev rm_L_sound : Room := { frames := 4, cells := 0, slots := 0, locals := 88 }
theorem hd_L_sound : yL_sound.cls ≠ "java/lang/invoke/MethodHandle" ∧ yL_sound.cls ≠ "java/lang/invoke/VarHandle" ∧ (parseMethodDescriptor yL_sound.desc).map (fun d => d.parameters.length) = some 1 := ⟨by decide +kernel, by decide +kernel, by decide +kernel⟩
set_option maxHeartbeats 4000000 in
set_option maxRecDepth 100000 in
theorem bs_L_sound_781 {p : Program} {l : Launch} {e : Env} {s : State} {m : MethodId} {args : Array Value} {below : List Frame} {meth : Method} {c : Code} {D : va_G} {cy : Cy} {A : Nat → Prop} {T : Ty} {R : Rm} {r : Int32} {M9 : Mm} {a0 : Nat} (C : Cx RL cL_sound 14 (some .boolean) p s m args meth c D cy A) :
    ∀ (s0 : Int32) (s1 : Int32) (M : Mm) (H : Heap) (locs : List Loc), fs_L_sound_781 T R a0 s0 s1 M = some (r, M9) → va_P D vwCl (WL cy T M R) H → va_D A (WL cy T M R) → va_S A s.heap H locs → ∀ ls : Array Slot, lv_has ls 14 [] → W p l e rm_L_sound s m args below meth c H locs 0 0 (MQ below (QcI D cy T M9 R A r) args s 0 0 A) (F0 m 781 ls [.int s1, .int s0]) := by
  intro s0 s1 M H locs h hP hD hS ls hl
  unfold fs_L_sound_781 at h
  obtain ⟨hx, hb, hr, hml, hown, hts, hK, hA, hlk, hSt⟩ := id C
  refine lv_icmp_ne (tgt := 788) hx hb dL_sound_781 (by decide) (fun c_1 => ?_) (fun c_1 => ?_)
  · replace h := ite_f h c_1
    refine lv_iconst (v := 0) hx hb dL_sound_788 (by decide) ?_
    cases h
    exact rt_z C hP hD hS rfl dL_sound_789
  · replace h := ite_t h c_1
    refine lv_iconst (v := 1) hx hb dL_sound_784 (by decide) ?_
    refine lv_goto (tgt := 789) hx hb dL_sound_785 (by decide) ?_
    cases h
    exact rt_z C hP hD hS rfl dL_sound_789
set_option maxHeartbeats 4000000 in
set_option maxRecDepth 100000 in
theorem bs_L_sound_768 {p : Program} {l : Launch} {e : Env} {s : State} {m : MethodId} {args : Array Value} {below : List Frame} {meth : Method} {c : Code} {D : va_G} {cy : Cy} {A : Nat → Prop} {T : Ty} {R : Rm} {r : Int32} {M9 : Mm} {a0 : Nat} (C : Cx RL cL_sound 14 (some .boolean) p s m args meth c D cy A) :
    ∀ (s0 : Int32) (M : Mm) (H : Heap) (locs : List Loc), fs_L_sound_768 T R a0 s0 M = some (r, M9) → va_P D vwCl (WL cy T M R) H → va_D A (WL cy T M R) → va_S A s.heap H locs → ∀ ls : Array Slot, lv_has ls 14 [(0, .ref a0)] → W p l e rm_L_sound s m args below meth c H locs 0 0 (MQ below (QcI D cy T M9 R A r) args s 0 0 A) (F0 m 768 ls [.int s0]) := by
  intro s0 M H locs h hP hD hS ls hl
  unfold fs_L_sound_768 at h
  obtain ⟨hx, hb, hr, hml, hown, hts, hK, hA, hlk, hSt⟩ := id C
  refine lv_aload_n hx hb dL_sound_768 rfl (lv_at hl 0 rfl) ?_
  refine lv_iconst (v := 2) hx hb dL_sound_769 (by decide) ?_
  obtain ⟨k_2, h⟩ := chk_some h
  obtain ⟨r_3, M_4, hc_5, h⟩ := cal_some h
  refine cl_Vi (As := [.int (2 : Int32)]) (rest := [.int s0]) C (ct_X6_front hc_5) k_2 (by decide) rfl wl_277 wl_278 wl_279 wl_2 wl_280 hd_X6_front ⟨Nat.le_of_ble_eq_true rfl, Nat.le_of_ble_eq_true rfl⟩ ⟨rfl, rfl⟩ ⟨Nat.zero_le _, Nat.zero_le _⟩ rfl (Nat.le_of_ble_eq_true rfl) rfl hl.1 hP hD hS dL_sound_770 (fun H locs hP hD hS => ?_)
  refine lv_if_ne (tgt := 780) hx hb dL_sound_773 (by decide) (fun c_6 => ?_) (fun c_6 => ?_)
  · replace h := ite_f h c_6
    refine lv_iconst (v := 0) hx hb dL_sound_780 (by decide) ?_
    exact (bs_L_sound_781 C) _ _ _ _ _ h hP hD hS _ (lv_sub hl [] rfl)
  · replace h := ite_t h c_6
    refine lv_iconst (v := 1) hx hb dL_sound_776 (by decide) ?_
    refine lv_goto (tgt := 781) hx hb dL_sound_777 (by decide) ?_
    exact (bs_L_sound_781 C) _ _ _ _ _ h hP hD hS _ (lv_sub hl [] rfl)
set_option maxHeartbeats 4000000 in
set_option maxRecDepth 100000 in
theorem bs_L_sound_623 {p : Program} {l : Launch} {e : Env} {s : State} {m : MethodId} {args : Array Value} {below : List Frame} {meth : Method} {c : Code} {D : va_G} {cy : Cy} {A : Nat → Prop} {T : Ty} {R : Rm} {r : Int32} {M9 : Mm} {a0 : Nat} {j452 : Int32 → Int64 → Int32 → Int32 → Int32 → Int32 → Int64 → Int32 → Int32 → Mm → Option (Int32 × Mm)} (C : Cx RL cL_sound 14 (some .boolean) p s m args meth c D cy A)
    (hj452 : ∀ (x2 : Int32) (l3 : Int64) (x5 : Int32) (x6 : Int32) (x7 : Int32) (x8 : Int32) (l9 : Int64) (x11 : Int32) (x12 : Int32) (M : Mm) (H : Heap) (locs : List Loc), j452 x2 l3 x5 x6 x7 x8 l9 x11 x12 M = some (r, M9) → va_P D vwCl (WL cy T M R) H → va_D A (WL cy T M R) → va_S A s.heap H locs → ∀ ls : Array Slot, lv_has ls 14 [(0, .ref a0), (2, .int x2), (3, .long l3), (5, .int x5), (6, .int x6), (7, .int x7), (8, .int x8), (9, .long l9), (11, .int x11), (12, .int x12)] → W p l e rm_L_sound s m args below meth c H locs 0 0 (MQ below (QcI D cy T M9 R A r) args s 0 0 A) (F0 m 452 ls [])) :
    ∀ (x2 : Int32) (l3 : Int64) (x5 : Int32) (x6 : Int32) (x7 : Int32) (x8 : Int32) (l9 : Int64) (x11 : Int32) (x12 : Int32) (M : Mm) (H : Heap) (locs : List Loc), fs_L_sound_623 T R a0 j452 x2 l3 x5 x6 x7 x8 l9 x11 x12 M = some (r, M9) → va_P D vwCl (WL cy T M R) H → va_D A (WL cy T M R) → va_S A s.heap H locs → ∀ ls : Array Slot, lv_has ls 14 [(0, .ref a0), (2, .int x2), (3, .long l3), (5, .int x5), (6, .int x6), (7, .int x7), (8, .int x8), (9, .long l9), (11, .int x11), (12, .int x12)] → W p l e rm_L_sound s m args below meth c H locs 0 0 (MQ below (QcI D cy T M9 R A r) args s 0 0 A) (F0 m 623 ls []) := by
  intro x2 l3 x5 x6 x7 x8 l9 x11 x12 M H locs h hP hD hS ls hl
  unfold fs_L_sound_623 at h
  obtain ⟨hx, hb, hr, hml, hown, hts, hK, hA, hlk, hSt⟩ := id C
  refine lv_aload_n hx hb dL_sound_623 rfl (lv_at hl 0 rfl) ?_
  refine lv_iload hx hb dL_sound_624 (lv_at hl 9 rfl) ?_
  refine lv_iconst (v := 5) hx hb dL_sound_626 (by decide) ?_
  obtain ⟨k_7, h⟩ := chk_some h
  obtain ⟨r_8, M_9, hc_10, h⟩ := cal_some h
  refine cl_Vi (As := [.int x12, .int (5 : Int32)]) (rest := []) C (ct_X6_stakeInfo hc_10) k_7 (by decide) rfl wl_340 wl_341 wl_342 wl_2 wl_343 hd_X6_stakeInfo ⟨Nat.le_of_ble_eq_true rfl, Nat.le_of_ble_eq_true rfl⟩ ⟨rfl, rfl⟩ ⟨Nat.zero_le _, Nat.zero_le _⟩ rfl (Nat.le_of_ble_eq_true rfl) rfl hl.1 hP hD hS dL_sound_627 (fun H locs hP hD hS => ?_)
  refine lv_iload_n hx hb dL_sound_630 rfl (lv_at hl 1 rfl) ?_
  refine lv_icmp_le (tgt := 636) hx hb dL_sound_631 (by decide) (fun c_11 => ?_) (fun c_11 => ?_)
  · replace h := ite_t h c_11
    obtain ⟨v_12, ev_12⟩ : ∃ y : Int32, y = (x12 + (1 : Int32)) := ⟨_, rfl⟩
    replace h := bnd_at h ev_12
    refine lv_iinc (v := v_12) (lv' := [(12, .int v_12), (0, .ref a0), (2, .int x2), (3, .long l3), (5, .int x5), (6, .int x6), (7, .int x7), (8, .int x8), (9, .long l9), (11, .int x11)]) hx hb dL_sound_636 hl (k := 9) rfl (by rw [ev_12]; rfl) (by decide) rfl (fun ls hl => ?_)
    refine lv_goto (tgt := 452) hx hb dL_sound_639 (by decide) ?_
    exact hj452 _ _ _ _ _ _ _ _ _ _ _ _ h hP hD hS _ (lv_sub hl [1, 2, 3, 4, 5, 6, 7, 8, 9, 0] rfl)
  · replace h := ite_f h c_11
    refine lv_iconst (v := 0) hx hb dL_sound_634 (by decide) ?_
    cases h
    exact rt_z C hP hD hS rfl dL_sound_635
set_option maxHeartbeats 4000000 in
set_option maxRecDepth 100000 in
theorem bs_L_sound_594 {p : Program} {l : Launch} {e : Env} {s : State} {m : MethodId} {args : Array Value} {below : List Frame} {meth : Method} {c : Code} {D : va_G} {cy : Cy} {A : Nat → Prop} {T : Ty} {R : Rm} {r : Int32} {M9 : Mm} {a0 : Nat} {j452 : Int32 → Int64 → Int32 → Int32 → Int32 → Int32 → Int64 → Int32 → Int32 → Mm → Option (Int32 × Mm)} (C : Cx RL cL_sound 14 (some .boolean) p s m args meth c D cy A)
    (hj452 : ∀ (x2 : Int32) (l3 : Int64) (x5 : Int32) (x6 : Int32) (x7 : Int32) (x8 : Int32) (l9 : Int64) (x11 : Int32) (x12 : Int32) (M : Mm) (H : Heap) (locs : List Loc), j452 x2 l3 x5 x6 x7 x8 l9 x11 x12 M = some (r, M9) → va_P D vwCl (WL cy T M R) H → va_D A (WL cy T M R) → va_S A s.heap H locs → ∀ ls : Array Slot, lv_has ls 14 [(0, .ref a0), (2, .int x2), (3, .long l3), (5, .int x5), (6, .int x6), (7, .int x7), (8, .int x8), (9, .long l9), (11, .int x11), (12, .int x12)] → W p l e rm_L_sound s m args below meth c H locs 0 0 (MQ below (QcI D cy T M9 R A r) args s 0 0 A) (F0 m 452 ls [])) :
    ∀ (x2 : Int32) (l3 : Int64) (x5 : Int32) (x6 : Int32) (x7 : Int32) (x8 : Int32) (l9 : Int64) (x11 : Int32) (x12 : Int32) (M : Mm) (H : Heap) (locs : List Loc), fs_L_sound_594 T R a0 j452 x2 l3 x5 x6 x7 x8 l9 x11 x12 M = some (r, M9) → va_P D vwCl (WL cy T M R) H → va_D A (WL cy T M R) → va_S A s.heap H locs → ∀ ls : Array Slot, lv_has ls 14 [(0, .ref a0), (2, .int x2), (3, .long l3), (5, .int x5), (6, .int x6), (7, .int x7), (8, .int x8), (9, .long l9), (11, .int x11), (12, .int x12)] → W p l e rm_L_sound s m args below meth c H locs 0 0 (MQ below (QcI D cy T M9 R A r) args s 0 0 A) (F0 m 594 ls []) := by
  intro x2 l3 x5 x6 x7 x8 l9 x11 x12 M H locs h hP hD hS ls hl
  unfold fs_L_sound_594 at h
  obtain ⟨hx, hb, hr, hml, hown, hts, hK, hA, hlk, hSt⟩ := id C
  refine lv_aload_n hx hb dL_sound_594 rfl (lv_at hl 0 rfl) ?_
  refine lv_iload hx hb dL_sound_595 (lv_at hl 9 rfl) ?_
  refine lv_iconst (v := 4) hx hb dL_sound_597 (by decide) ?_
  obtain ⟨k_13, h⟩ := chk_some h
  obtain ⟨r_14, M_15, hc_16, h⟩ := cal_some h
  refine cl_Vi (As := [.int x12, .int (4 : Int32)]) (rest := []) C (ct_X6_stakeInfo hc_16) k_13 (by decide) rfl wl_340 wl_341 wl_342 wl_2 wl_343 hd_X6_stakeInfo ⟨Nat.le_of_ble_eq_true rfl, Nat.le_of_ble_eq_true rfl⟩ ⟨rfl, rfl⟩ ⟨Nat.zero_le _, Nat.zero_le _⟩ rfl (Nat.le_of_ble_eq_true rfl) rfl hl.1 hP hD hS dL_sound_598 (fun H locs hP hD hS => ?_)
  refine lv_iconst (v := 1) hx hb dL_sound_601 (by decide) ?_
  refine lv_icmp_ne (tgt := 623) hx hb dL_sound_602 (by decide) (fun c_17 => ?_) (fun c_17 => ?_)
  · replace h := ite_f h c_17
    exact (bs_L_sound_623 C hj452) _ _ _ _ _ _ _ _ _ _ _ _ h hP hD hS _ (lv_sub hl [0, 1, 2, 3, 4, 5, 6, 7, 8, 9] rfl)
  · replace h := ite_t h c_17
    refine lv_aload_n hx hb dL_sound_605 rfl (lv_at hl 0 rfl) ?_
    refine lv_iload hx hb dL_sound_606 (lv_at hl 9 rfl) ?_
    refine lv_iconst (v := 3) hx hb dL_sound_608 (by decide) ?_
    obtain ⟨r_18, M_19, hc_20, h⟩ := cal_some h
    refine cl_Vi (As := [.int x12, .int (3 : Int32)]) (rest := []) C (ct_X6_stakeInfo hc_20) k_13 (by decide) rfl wl_340 wl_341 wl_342 wl_2 wl_343 hd_X6_stakeInfo ⟨Nat.le_of_ble_eq_true rfl, Nat.le_of_ble_eq_true rfl⟩ ⟨rfl, rfl⟩ ⟨Nat.zero_le _, Nat.zero_le _⟩ rfl (Nat.le_of_ble_eq_true rfl) rfl hl.1 hP hD hS dL_sound_609 (fun H locs hP hD hS => ?_)
    refine lv_aload_n hx hb dL_sound_612 rfl (lv_at hl 0 rfl) ?_
    refine lv_iload hx hb dL_sound_613 (lv_at hl 9 rfl) ?_
    refine lv_iconst (v := 2) hx hb dL_sound_615 (by decide) ?_
    obtain ⟨r_21, M_22, hc_23, h⟩ := cal_some h
    refine cl_Vi (As := [.int x12, .int (2 : Int32)]) (rest := [.int r_18]) C (ct_X6_stakeInfo hc_23) k_13 (by decide) rfl wl_340 wl_341 wl_342 wl_2 wl_343 hd_X6_stakeInfo ⟨Nat.le_of_ble_eq_true rfl, Nat.le_of_ble_eq_true rfl⟩ ⟨rfl, rfl⟩ ⟨Nat.zero_le _, Nat.zero_le _⟩ rfl (Nat.le_of_ble_eq_true rfl) rfl hl.1 hP hD hS dL_sound_616 (fun H locs hP hD hS => ?_)
    refine lv_ineg hx hb dL_sound_619 ?_
    refine lv_icmp_ge (tgt := 634) hx hb dL_sound_620 (by decide) (fun c_24 => ?_) (fun c_24 => ?_)
    · replace h := ite_t h c_24
      refine lv_iconst (v := 0) hx hb dL_sound_634 (by decide) ?_
      cases h
      exact rt_z C hP hD hS rfl dL_sound_635
    · replace h := ite_f h c_24
      exact (bs_L_sound_623 C hj452) _ _ _ _ _ _ _ _ _ _ _ _ h hP hD hS _ (lv_sub hl [0, 1, 2, 3, 4, 5, 6, 7, 8, 9] rfl)
set_option maxHeartbeats 4000000 in
set_option maxRecDepth 100000 in
theorem bs_L_sound_571 {p : Program} {l : Launch} {e : Env} {s : State} {m : MethodId} {args : Array Value} {below : List Frame} {meth : Method} {c : Code} {D : va_G} {cy : Cy} {A : Nat → Prop} {T : Ty} {R : Rm} {r : Int32} {M9 : Mm} {a0 : Nat} {j452 : Int32 → Int64 → Int32 → Int32 → Int32 → Int32 → Int64 → Int32 → Int32 → Mm → Option (Int32 × Mm)} (C : Cx RL cL_sound 14 (some .boolean) p s m args meth c D cy A)
    (hj452 : ∀ (x2 : Int32) (l3 : Int64) (x5 : Int32) (x6 : Int32) (x7 : Int32) (x8 : Int32) (l9 : Int64) (x11 : Int32) (x12 : Int32) (M : Mm) (H : Heap) (locs : List Loc), j452 x2 l3 x5 x6 x7 x8 l9 x11 x12 M = some (r, M9) → va_P D vwCl (WL cy T M R) H → va_D A (WL cy T M R) → va_S A s.heap H locs → ∀ ls : Array Slot, lv_has ls 14 [(0, .ref a0), (2, .int x2), (3, .long l3), (5, .int x5), (6, .int x6), (7, .int x7), (8, .int x8), (9, .long l9), (11, .int x11), (12, .int x12)] → W p l e rm_L_sound s m args below meth c H locs 0 0 (MQ below (QcI D cy T M9 R A r) args s 0 0 A) (F0 m 452 ls [])) :
    ∀ (x2 : Int32) (l3 : Int64) (x5 : Int32) (x6 : Int32) (x7 : Int32) (x8 : Int32) (l9 : Int64) (x11 : Int32) (x12 : Int32) (x13 : Int32) (M : Mm) (H : Heap) (locs : List Loc), fs_L_sound_571 T R a0 j452 x2 l3 x5 x6 x7 x8 l9 x11 x12 x13 M = some (r, M9) → va_P D vwCl (WL cy T M R) H → va_D A (WL cy T M R) → va_S A s.heap H locs → ∀ ls : Array Slot, lv_has ls 14 [(0, .ref a0), (2, .int x2), (3, .long l3), (5, .int x5), (6, .int x6), (7, .int x7), (8, .int x8), (9, .long l9), (11, .int x11), (12, .int x12), (13, .int x13)] → W p l e rm_L_sound s m args below meth c H locs 0 0 (MQ below (QcI D cy T M9 R A r) args s 0 0 A) (F0 m 571 ls []) := by
  intro x2 l3 x5 x6 x7 x8 l9 x11 x12 x13 M H locs h hP hD hS ls hl
  unfold fs_L_sound_571 at h
  obtain ⟨hx, hb, hr, hml, hown, hts, hK, hA, hlk, hSt⟩ := id C
  refine lv_iload hx hb dL_sound_571 (lv_at hl 10 rfl) ?_
  refine lv_if_eq (tgt := 594) hx hb dL_sound_573 (by decide) (fun c_25 => ?_) (fun c_25 => ?_)
  · replace h := ite_t h c_25
    exact (bs_L_sound_594 C hj452) _ _ _ _ _ _ _ _ _ _ _ _ h hP hD hS _ (lv_sub hl [0, 1, 2, 3, 4, 5, 6, 7, 8, 9] rfl)
  · replace h := ite_f h c_25
    refine lv_aload_n hx hb dL_sound_576 rfl (lv_at hl 0 rfl) ?_
    refine lv_iload hx hb dL_sound_577 (lv_at hl 9 rfl) ?_
    refine lv_iconst (v := 3) hx hb dL_sound_579 (by decide) ?_
    obtain ⟨k_26, h⟩ := chk_some h
    obtain ⟨r_27, M_28, hc_29, h⟩ := cal_some h
    refine cl_Vi (As := [.int x12, .int (3 : Int32)]) (rest := []) C (ct_X6_stakeInfo hc_29) k_26 (by decide) rfl wl_340 wl_341 wl_342 wl_2 wl_343 hd_X6_stakeInfo ⟨Nat.le_of_ble_eq_true rfl, Nat.le_of_ble_eq_true rfl⟩ ⟨rfl, rfl⟩ ⟨Nat.zero_le _, Nat.zero_le _⟩ rfl (Nat.le_of_ble_eq_true rfl) rfl hl.1 hP hD hS dL_sound_580 (fun H locs hP hD hS => ?_)
    refine lv_aload_n hx hb dL_sound_583 rfl (lv_at hl 0 rfl) ?_
    refine lv_iload hx hb dL_sound_584 (lv_at hl 9 rfl) ?_
    refine lv_iconst (v := 2) hx hb dL_sound_586 (by decide) ?_
    obtain ⟨r_30, M_31, hc_32, h⟩ := cal_some h
    refine cl_Vi (As := [.int x12, .int (2 : Int32)]) (rest := [.int r_27]) C (ct_X6_stakeInfo hc_32) k_26 (by decide) rfl wl_340 wl_341 wl_342 wl_2 wl_343 hd_X6_stakeInfo ⟨Nat.le_of_ble_eq_true rfl, Nat.le_of_ble_eq_true rfl⟩ ⟨rfl, rfl⟩ ⟨Nat.zero_le _, Nat.zero_le _⟩ rfl (Nat.le_of_ble_eq_true rfl) rfl hl.1 hP hD hS dL_sound_587 (fun H locs hP hD hS => ?_)
    refine lv_ineg hx hb dL_sound_590 ?_
    refine lv_icmp_lt (tgt := 634) hx hb dL_sound_591 (by decide) (fun c_33 => ?_) (fun c_33 => ?_)
    · replace h := ite_t h c_33
      refine lv_iconst (v := 0) hx hb dL_sound_634 (by decide) ?_
      cases h
      exact rt_z C hP hD hS rfl dL_sound_635
    · replace h := ite_f h c_33
      exact (bs_L_sound_594 C hj452) _ _ _ _ _ _ _ _ _ _ _ _ h hP hD hS _ (lv_sub hl [0, 1, 2, 3, 4, 5, 6, 7, 8, 9] rfl)
set_option maxHeartbeats 4000000 in
set_option maxRecDepth 100000 in
theorem bs_L_sound_512 {p : Program} {l : Launch} {e : Env} {s : State} {m : MethodId} {args : Array Value} {below : List Frame} {meth : Method} {c : Code} {D : va_G} {cy : Cy} {A : Nat → Prop} {T : Ty} {R : Rm} {r : Int32} {M9 : Mm} {a0 : Nat} {j452 : Int32 → Int64 → Int32 → Int32 → Int32 → Int32 → Int64 → Int32 → Int32 → Mm → Option (Int32 × Mm)} (C : Cx RL cL_sound 14 (some .boolean) p s m args meth c D cy A)
    (hj452 : ∀ (x2 : Int32) (l3 : Int64) (x5 : Int32) (x6 : Int32) (x7 : Int32) (x8 : Int32) (l9 : Int64) (x11 : Int32) (x12 : Int32) (M : Mm) (H : Heap) (locs : List Loc), j452 x2 l3 x5 x6 x7 x8 l9 x11 x12 M = some (r, M9) → va_P D vwCl (WL cy T M R) H → va_D A (WL cy T M R) → va_S A s.heap H locs → ∀ ls : Array Slot, lv_has ls 14 [(0, .ref a0), (2, .int x2), (3, .long l3), (5, .int x5), (6, .int x6), (7, .int x7), (8, .int x8), (9, .long l9), (11, .int x11), (12, .int x12)] → W p l e rm_L_sound s m args below meth c H locs 0 0 (MQ below (QcI D cy T M9 R A r) args s 0 0 A) (F0 m 452 ls [])) :
    ∀ (x2 : Int32) (l3 : Int64) (x5 : Int32) (x6 : Int32) (x7 : Int32) (x8 : Int32) (l9 : Int64) (x11 : Int32) (x12 : Int32) (x13 : Int32) (s0 : Int32) (s1 : Int32) (M : Mm) (H : Heap) (locs : List Loc), fs_L_sound_512 T R a0 j452 x2 l3 x5 x6 x7 x8 l9 x11 x12 x13 s0 s1 M = some (r, M9) → va_P D vwCl (WL cy T M R) H → va_D A (WL cy T M R) → va_S A s.heap H locs → ∀ ls : Array Slot, lv_has ls 14 [(0, .ref a0), (2, .int x2), (3, .long l3), (5, .int x5), (6, .int x6), (7, .int x7), (8, .int x8), (9, .long l9), (11, .int x11), (12, .int x12), (13, .int x13)] → W p l e rm_L_sound s m args below meth c H locs 0 0 (MQ below (QcI D cy T M9 R A r) args s 0 0 A) (F0 m 512 ls [.int s1, .int s0]) := by
  intro x2 l3 x5 x6 x7 x8 l9 x11 x12 x13 s0 s1 M H locs h hP hD hS ls hl
  unfold fs_L_sound_512 at h
  obtain ⟨hx, hb, hr, hml, hown, hts, hK, hA, hlk, hSt⟩ := id C
  refine lv_icmp_ne (tgt := 634) hx hb dL_sound_512 (by decide) (fun c_34 => ?_) (fun c_34 => ?_)
  · replace h := ite_f h c_34
    refine lv_iconst (v := 0) hx hb dL_sound_634 (by decide) ?_
    cases h
    exact rt_z C hP hD hS rfl dL_sound_635
  · replace h := ite_t h c_34
    refine lv_aload_n hx hb dL_sound_515 rfl (lv_at hl 0 rfl) ?_
    refine lv_iload hx hb dL_sound_516 (lv_at hl 9 rfl) ?_
    refine lv_iconst (v := 1) hx hb dL_sound_518 (by decide) ?_
    obtain ⟨k_35, h⟩ := chk_some h
    obtain ⟨r_36, M_37, hc_38, h⟩ := cal_some h
    refine cl_Vi (As := [.int x12, .int (1 : Int32)]) (rest := []) C (ct_X6_stakeInfo hc_38) k_35 (by decide) rfl wl_340 wl_341 wl_342 wl_2 wl_343 hd_X6_stakeInfo ⟨Nat.le_of_ble_eq_true rfl, Nat.le_of_ble_eq_true rfl⟩ ⟨rfl, rfl⟩ ⟨Nat.zero_le _, Nat.zero_le _⟩ rfl (Nat.le_of_ble_eq_true rfl) rfl hl.1 hP hD hS dL_sound_519 (fun H locs hP hD hS => ?_)
    refine lv_if_lt (tgt := 634) hx hb dL_sound_522 (by decide) (fun c_39 => ?_) (fun c_39 => ?_)
    · replace h := ite_t h c_39
      refine lv_iconst (v := 0) hx hb dL_sound_634 (by decide) ?_
      cases h
      exact rt_z C hP hD hS rfl dL_sound_635
    · replace h := ite_f h c_39
      refine lv_aload_n hx hb dL_sound_525 rfl (lv_at hl 0 rfl) ?_
      refine lv_iload hx hb dL_sound_526 (lv_at hl 9 rfl) ?_
      refine lv_iconst (v := 1) hx hb dL_sound_528 (by decide) ?_
      obtain ⟨r_40, M_41, hc_42, h⟩ := cal_some h
      refine cl_Vi (As := [.int x12, .int (1 : Int32)]) (rest := []) C (ct_X6_stakeInfo hc_42) k_35 (by decide) rfl wl_340 wl_341 wl_342 wl_2 wl_343 hd_X6_stakeInfo ⟨Nat.le_of_ble_eq_true rfl, Nat.le_of_ble_eq_true rfl⟩ ⟨rfl, rfl⟩ ⟨Nat.zero_le _, Nat.zero_le _⟩ rfl (Nat.le_of_ble_eq_true rfl) rfl hl.1 hP hD hS dL_sound_529 (fun H locs hP hD hS => ?_)
      refine lv_aload_n hx hb dL_sound_532 rfl (lv_at hl 0 rfl) ?_
      refine lv_aload_n hx hb dL_sound_533 rfl (lv_at hl 0 rfl) ?_
      refine lv_iload hx hb dL_sound_534 (lv_at hl 9 rfl) ?_
      refine lv_iconst (v := 0) hx hb dL_sound_536 (by decide) ?_
      obtain ⟨r_43, M_44, hc_45, h⟩ := cal_some h
      refine cl_Vi (As := [.int x12, .int (0 : Int32)]) (rest := [.ref a0, .int r_40]) C (ct_X6_stakeInfo hc_45) k_35 (by decide) rfl wl_340 wl_341 wl_342 wl_2 wl_343 hd_X6_stakeInfo ⟨Nat.le_of_ble_eq_true rfl, Nat.le_of_ble_eq_true rfl⟩ ⟨rfl, rfl⟩ ⟨Nat.zero_le _, Nat.zero_le _⟩ rfl (Nat.le_of_ble_eq_true rfl) rfl hl.1 hP hD hS dL_sound_537 (fun H locs hP hD hS => ?_)
      refine lv_iconst (v := 1) hx hb dL_sound_540 (by decide) ?_
      obtain ⟨r_46, M_47, hc_48, h⟩ := cal_some h
      refine cl_Vi (As := [.int r_43, .int (1 : Int32)]) (rest := [.int r_40]) C (ct_X6_bandInfo hc_48) k_35 (by decide) rfl wl_235 wl_236 wl_237 wl_2 wl_238 hd_X6_bandInfo ⟨Nat.le_of_ble_eq_true rfl, Nat.le_of_ble_eq_true rfl⟩ ⟨rfl, rfl⟩ ⟨Nat.zero_le _, Nat.zero_le _⟩ rfl (Nat.le_of_ble_eq_true rfl) rfl hl.1 hP hD hS dL_sound_541 (fun H locs hP hD hS => ?_)
      refine lv_icmp_ge (tgt := 634) hx hb dL_sound_544 (by decide) (fun c_49 => ?_) (fun c_49 => ?_)
      · replace h := ite_t h c_49
        refine lv_iconst (v := 0) hx hb dL_sound_634 (by decide) ?_
        cases h
        exact rt_z C hP hD hS rfl dL_sound_635
      · replace h := ite_f h c_49
        refine lv_iload hx hb dL_sound_547 (lv_at hl 10 rfl) ?_
        refine lv_if_eq (tgt := 571) hx hb dL_sound_549 (by decide) (fun c_50 => ?_) (fun c_50 => ?_)
        · replace h := ite_t h c_50
          exact (bs_L_sound_571 C hj452) _ _ _ _ _ _ _ _ _ _ _ _ _ h hP hD hS _ (lv_sub hl [0, 1, 2, 3, 4, 5, 6, 7, 8, 9, 10] rfl)
        · replace h := ite_f h c_50
          refine lv_aload_n hx hb dL_sound_552 rfl (lv_at hl 0 rfl) ?_
          refine lv_aload_n hx hb dL_sound_553 rfl (lv_at hl 0 rfl) ?_
          refine lv_iload hx hb dL_sound_554 (lv_at hl 9 rfl) ?_
          refine lv_iconst (v := 0) hx hb dL_sound_556 (by decide) ?_
          obtain ⟨r_51, M_52, hc_53, h⟩ := cal_some h
          refine cl_Vi (As := [.int x12, .int (0 : Int32)]) (rest := [.ref a0]) C (ct_X6_stakeInfo hc_53) k_35 (by decide) rfl wl_340 wl_341 wl_342 wl_2 wl_343 hd_X6_stakeInfo ⟨Nat.le_of_ble_eq_true rfl, Nat.le_of_ble_eq_true rfl⟩ ⟨rfl, rfl⟩ ⟨Nat.zero_le _, Nat.zero_le _⟩ rfl (Nat.le_of_ble_eq_true rfl) rfl hl.1 hP hD hS dL_sound_557 (fun H locs hP hD hS => ?_)
          obtain ⟨r_54, M_55, hc_56, h⟩ := cal_some h
          refine cl_Vi (As := [.int r_51]) (rest := []) C (ct_X6_stakesIn hc_56) k_35 (by decide) rfl wl_351 wl_352 wl_353 wl_2 wl_354 hd_X6_stakesIn ⟨Nat.le_of_ble_eq_true rfl, Nat.le_of_ble_eq_true rfl⟩ ⟨rfl, rfl⟩ ⟨Nat.zero_le _, Nat.zero_le _⟩ rfl (Nat.le_of_ble_eq_true rfl) rfl hl.1 hP hD hS dL_sound_560 (fun H locs hP hD hS => ?_)
          refine lv_iload hx hb dL_sound_563 (lv_at hl 9 rfl) ?_
          refine lv_ishr hx hb dL_sound_565 ?_
          refine lv_iconst (v := 1) hx hb dL_sound_566 (by decide) ?_
          refine lv_iand hx hb dL_sound_567 ?_
          refine lv_if_eq (tgt := 634) hx hb dL_sound_568 (by decide) (fun c_57 => ?_) (fun c_57 => ?_)
          · replace h := ite_t h c_57
            refine lv_iconst (v := 0) hx hb dL_sound_634 (by decide) ?_
            cases h
            exact rt_z C hP hD hS rfl dL_sound_635
          · replace h := ite_f h c_57
            exact (bs_L_sound_571 C hj452) _ _ _ _ _ _ _ _ _ _ _ _ _ h hP hD hS _ (lv_sub hl [0, 1, 2, 3, 4, 5, 6, 7, 8, 9, 10] rfl)
set_option maxHeartbeats 4000000 in
set_option maxRecDepth 100000 in
theorem bs_L_sound_491 {p : Program} {l : Launch} {e : Env} {s : State} {m : MethodId} {args : Array Value} {below : List Frame} {meth : Method} {c : Code} {D : va_G} {cy : Cy} {A : Nat → Prop} {T : Ty} {R : Rm} {r : Int32} {M9 : Mm} {a0 : Nat} {j452 : Int32 → Int64 → Int32 → Int32 → Int32 → Int32 → Int64 → Int32 → Int32 → Mm → Option (Int32 × Mm)} (C : Cx RL cL_sound 14 (some .boolean) p s m args meth c D cy A)
    (hj452 : ∀ (x2 : Int32) (l3 : Int64) (x5 : Int32) (x6 : Int32) (x7 : Int32) (x8 : Int32) (l9 : Int64) (x11 : Int32) (x12 : Int32) (M : Mm) (H : Heap) (locs : List Loc), j452 x2 l3 x5 x6 x7 x8 l9 x11 x12 M = some (r, M9) → va_P D vwCl (WL cy T M R) H → va_D A (WL cy T M R) → va_S A s.heap H locs → ∀ ls : Array Slot, lv_has ls 14 [(0, .ref a0), (2, .int x2), (3, .long l3), (5, .int x5), (6, .int x6), (7, .int x7), (8, .int x8), (9, .long l9), (11, .int x11), (12, .int x12)] → W p l e rm_L_sound s m args below meth c H locs 0 0 (MQ below (QcI D cy T M9 R A r) args s 0 0 A) (F0 m 452 ls [])) :
    ∀ (x2 : Int32) (l3 : Int64) (x5 : Int32) (x6 : Int32) (x7 : Int32) (x8 : Int32) (l9 : Int64) (x12 : Int32) (x13 : Int32) (s0 : Int32) (s1 : Int32) (M : Mm) (H : Heap) (locs : List Loc), fs_L_sound_491 T R a0 j452 x2 l3 x5 x6 x7 x8 l9 x12 x13 s0 s1 M = some (r, M9) → va_P D vwCl (WL cy T M R) H → va_D A (WL cy T M R) → va_S A s.heap H locs → ∀ ls : Array Slot, lv_has ls 14 [(0, .ref a0), (2, .int x2), (3, .long l3), (5, .int x5), (6, .int x6), (7, .int x7), (8, .int x8), (9, .long l9), (12, .int x12), (13, .int x13)] → W p l e rm_L_sound s m args below meth c H locs 0 0 (MQ below (QcI D cy T M9 R A r) args s 0 0 A) (F0 m 491 ls [.int s1, .int s0]) := by
  intro x2 l3 x5 x6 x7 x8 l9 x12 x13 s0 s1 M H locs h hP hD hS ls hl
  unfold fs_L_sound_491 at h
  obtain ⟨hx, hb, hr, hml, hown, hts, hK, hA, hlk, hSt⟩ := id C
  refine lv_iadd hx hb dL_sound_491 ?_
  refine lv_topi (fun v_58 ev_58 => ?_)
  replace h := bnd_at h ev_58
  refine lv_istore (lv' := [(11, .int v_58), (0, .ref a0), (2, .int x2), (3, .long l3), (5, .int x5), (6, .int x6), (7, .int x7), (8, .int x8), (9, .long l9), (12, .int x12), (13, .int x13)]) hx hb dL_sound_492 hl (by decide) rfl (fun ls hl => ?_)
  refine lv_iload hx hb dL_sound_494 (lv_at hl 10 rfl) ?_
  refine lv_iload hx hb dL_sound_496 (lv_at hl 5 rfl) ?_
  refine lv_iload hx hb dL_sound_498 (lv_at hl 9 rfl) ?_
  refine lv_ishr hx hb dL_sound_500 ?_
  refine lv_iconst (v := 1) hx hb dL_sound_501 (by decide) ?_
  refine lv_iand hx hb dL_sound_502 ?_
  refine lv_iconst (v := 1) hx hb dL_sound_503 (by decide) ?_
  refine lv_icmp_ne (tgt := 511) hx hb dL_sound_504 (by decide) (fun c_59 => ?_) (fun c_59 => ?_)
  · replace h := ite_f h c_59
    refine lv_iconst (v := 0) hx hb dL_sound_511 (by decide) ?_
    exact (bs_L_sound_512 C hj452) _ _ _ _ _ _ _ _ _ _ _ _ _ _ _ h hP hD hS _ (lv_sub hl [1, 2, 3, 4, 5, 6, 7, 8, 0, 9, 10] rfl)
  · replace h := ite_t h c_59
    refine lv_iconst (v := 1) hx hb dL_sound_507 (by decide) ?_
    refine lv_goto (tgt := 512) hx hb dL_sound_508 (by decide) ?_
    exact (bs_L_sound_512 C hj452) _ _ _ _ _ _ _ _ _ _ _ _ _ _ _ h hP hD hS _ (lv_sub hl [1, 2, 3, 4, 5, 6, 7, 8, 0, 9, 10] rfl)
set_option maxHeartbeats 4000000 in
set_option maxRecDepth 100000 in
theorem bs_L_sound_477 {p : Program} {l : Launch} {e : Env} {s : State} {m : MethodId} {args : Array Value} {below : List Frame} {meth : Method} {c : Code} {D : va_G} {cy : Cy} {A : Nat → Prop} {T : Ty} {R : Rm} {r : Int32} {M9 : Mm} {a0 : Nat} {j452 : Int32 → Int64 → Int32 → Int32 → Int32 → Int32 → Int64 → Int32 → Int32 → Mm → Option (Int32 × Mm)} (C : Cx RL cL_sound 14 (some .boolean) p s m args meth c D cy A)
    (hj452 : ∀ (x2 : Int32) (l3 : Int64) (x5 : Int32) (x6 : Int32) (x7 : Int32) (x8 : Int32) (l9 : Int64) (x11 : Int32) (x12 : Int32) (M : Mm) (H : Heap) (locs : List Loc), j452 x2 l3 x5 x6 x7 x8 l9 x11 x12 M = some (r, M9) → va_P D vwCl (WL cy T M R) H → va_D A (WL cy T M R) → va_S A s.heap H locs → ∀ ls : Array Slot, lv_has ls 14 [(0, .ref a0), (2, .int x2), (3, .long l3), (5, .int x5), (6, .int x6), (7, .int x7), (8, .int x8), (9, .long l9), (11, .int x11), (12, .int x12)] → W p l e rm_L_sound s m args below meth c H locs 0 0 (MQ below (QcI D cy T M9 R A r) args s 0 0 A) (F0 m 452 ls [])) :
    ∀ (x2 : Int32) (l3 : Int64) (x5 : Int32) (x6 : Int32) (x7 : Int32) (x8 : Int32) (l9 : Int64) (x11 : Int32) (x12 : Int32) (s0 : Int32) (M : Mm) (H : Heap) (locs : List Loc), fs_L_sound_477 T R a0 j452 x2 l3 x5 x6 x7 x8 l9 x11 x12 s0 M = some (r, M9) → va_P D vwCl (WL cy T M R) H → va_D A (WL cy T M R) → va_S A s.heap H locs → ∀ ls : Array Slot, lv_has ls 14 [(0, .ref a0), (2, .int x2), (3, .long l3), (5, .int x5), (6, .int x6), (7, .int x7), (8, .int x8), (9, .long l9), (11, .int x11), (12, .int x12)] → W p l e rm_L_sound s m args below meth c H locs 0 0 (MQ below (QcI D cy T M9 R A r) args s 0 0 A) (F0 m 477 ls [.int s0]) := by
  intro x2 l3 x5 x6 x7 x8 l9 x11 x12 s0 M H locs h hP hD hS ls hl
  unfold fs_L_sound_477 at h
  obtain ⟨hx, hb, hr, hml, hown, hts, hK, hA, hlk, hSt⟩ := id C
  refine lv_istore (lv' := [(13, .int s0), (0, .ref a0), (2, .int x2), (3, .long l3), (5, .int x5), (6, .int x6), (7, .int x7), (8, .int x8), (9, .long l9), (11, .int x11), (12, .int x12)]) hx hb dL_sound_477 hl (by decide) rfl (fun ls hl => ?_)
  refine lv_iload hx hb dL_sound_479 (lv_at hl 9 rfl) ?_
  refine lv_iload hx hb dL_sound_481 (lv_at hl 0 rfl) ?_
  refine lv_if_eq (tgt := 490) hx hb dL_sound_483 (by decide) (fun c_60 => ?_) (fun c_60 => ?_)
  · replace h := ite_t h c_60
    refine lv_iconst (v := 0) hx hb dL_sound_490 (by decide) ?_
    exact (bs_L_sound_491 C hj452) _ _ _ _ _ _ _ _ _ _ _ _ _ _ h hP hD hS _ (lv_sub hl [1, 2, 3, 4, 5, 6, 7, 8, 10, 0] rfl)
  · replace h := ite_f h c_60
    refine lv_iconst (v := 1) hx hb dL_sound_486 (by decide) ?_
    refine lv_goto (tgt := 491) hx hb dL_sound_487 (by decide) ?_
    exact (bs_L_sound_491 C hj452) _ _ _ _ _ _ _ _ _ _ _ _ _ _ h hP hD hS _ (lv_sub hl [1, 2, 3, 4, 5, 6, 7, 8, 10, 0] rfl)
set_option maxHeartbeats 4000000 in
set_option maxRecDepth 100000 in
theorem bs_L_sound_452 {p : Program} {l : Launch} {e : Env} {s : State} {m : MethodId} {args : Array Value} {below : List Frame} {meth : Method} {c : Code} {D : va_G} {cy : Cy} {A : Nat → Prop} {T : Ty} {R : Rm} {r : Int32} {M9 : Mm} {a0 : Nat} {j452 : Int32 → Int64 → Int32 → Int32 → Int32 → Int32 → Int64 → Int32 → Int32 → Mm → Option (Int32 × Mm)} {j768 : Int32 → Mm → Option (Int32 × Mm)} (C : Cx RL cL_sound 14 (some .boolean) p s m args meth c D cy A)
    (hj452 : ∀ (x2 : Int32) (l3 : Int64) (x5 : Int32) (x6 : Int32) (x7 : Int32) (x8 : Int32) (l9 : Int64) (x11 : Int32) (x12 : Int32) (M : Mm) (H : Heap) (locs : List Loc), j452 x2 l3 x5 x6 x7 x8 l9 x11 x12 M = some (r, M9) → va_P D vwCl (WL cy T M R) H → va_D A (WL cy T M R) → va_S A s.heap H locs → ∀ ls : Array Slot, lv_has ls 14 [(0, .ref a0), (2, .int x2), (3, .long l3), (5, .int x5), (6, .int x6), (7, .int x7), (8, .int x8), (9, .long l9), (11, .int x11), (12, .int x12)] → W p l e rm_L_sound s m args below meth c H locs 0 0 (MQ below (QcI D cy T M9 R A r) args s 0 0 A) (F0 m 452 ls []))
    (hj768 : ∀ (s0 : Int32) (M : Mm) (H : Heap) (locs : List Loc), j768 s0 M = some (r, M9) → va_P D vwCl (WL cy T M R) H → va_D A (WL cy T M R) → va_S A s.heap H locs → ∀ ls : Array Slot, lv_has ls 14 [(0, .ref a0)] → W p l e rm_L_sound s m args below meth c H locs 0 0 (MQ below (QcI D cy T M9 R A r) args s 0 0 A) (F0 m 768 ls [.int s0])) :
    ∀ (x2 : Int32) (l3 : Int64) (x5 : Int32) (x6 : Int32) (x7 : Int32) (x8 : Int32) (l9 : Int64) (x11 : Int32) (x12 : Int32) (M : Mm) (H : Heap) (locs : List Loc), fs_L_sound_452 T R a0 j452 j768 x2 l3 x5 x6 x7 x8 l9 x11 x12 M = some (r, M9) → va_P D vwCl (WL cy T M R) H → va_D A (WL cy T M R) → va_S A s.heap H locs → ∀ ls : Array Slot, lv_has ls 14 [(0, .ref a0), (2, .int x2), (3, .long l3), (5, .int x5), (6, .int x6), (7, .int x7), (8, .int x8), (9, .long l9), (11, .int x11), (12, .int x12)] → W p l e rm_L_sound s m args below meth c H locs 0 0 (MQ below (QcI D cy T M9 R A r) args s 0 0 A) (F0 m 452 ls []) := by
  intro x2 l3 x5 x6 x7 x8 l9 x11 x12 M H locs h hP hD hS ls hl
  unfold fs_L_sound_452 at h
  obtain ⟨hx, hb, hr, hml, hown, hts, hK, hA, hlk, hSt⟩ := id C
  refine lv_iload hx hb dL_sound_452 (lv_at hl 9 rfl) ?_
  refine lv_aload_n hx hb dL_sound_454 rfl (lv_at hl 0 rfl) ?_
  refine lv_iconst (v := 2) hx hb dL_sound_455 (by decide) ?_
  obtain ⟨k_61, h⟩ := chk_some h
  obtain ⟨r_62, M_63, hc_64, h⟩ := cal_some h
  refine cl_Vi (As := [.int (2 : Int32)]) (rest := [.int x12]) C (ct_X6_count hc_64) k_61 (by decide) rfl wl_103 wl_104 wl_105 wl_2 wl_106 hd_X6_count ⟨Nat.le_of_ble_eq_true rfl, Nat.le_of_ble_eq_true rfl⟩ ⟨rfl, rfl⟩ ⟨Nat.zero_le _, Nat.zero_le _⟩ rfl (Nat.le_of_ble_eq_true rfl) rfl hl.1 hP hD hS dL_sound_456 (fun H locs hP hD hS => ?_)
  refine lv_icmp_ge (tgt := 642) hx hb dL_sound_459 (by decide) (fun c_65 => ?_) (fun c_65 => ?_)
  · replace h := ite_t h c_65
    refine lv_aload_n hx hb dL_sound_642 rfl (lv_at hl 0 rfl) ?_
    refine lv_iconst (v := 4) hx hb dL_sound_643 (by decide) ?_
    obtain ⟨r_66, M_67, hc_68, h⟩ := cal_some h
    refine cl_Vl (As := [.int (4 : Int32)]) (rest := []) C (ct_X6_account hc_68) k_61 (by decide) rfl wl_286 wl_287 wl_288 wl_2 wl_289 hd_X6_account ⟨Nat.le_of_ble_eq_true rfl, Nat.le_of_ble_eq_true rfl⟩ ⟨rfl, rfl⟩ ⟨Nat.zero_le _, Nat.zero_le _⟩ rfl (Nat.le_of_ble_eq_true rfl) rfl hl.1 hP hD hS dL_sound_644 (fun H locs hP hD hS => ?_)
    refine lv_lload_n hx hb dL_sound_647 rfl (lv_at hl 2 rfl) ?_
    refine W.lcmp hx hb dL_sound_648 ?_
    refine lv_if_ne (tgt := 788) hx hb dL_sound_649 (by decide) (fun c_69 => ?_) (fun c_69 => ?_)
    · replace h := ite_f h c_69
      refine lv_iconst (v := 0) hx hb dL_sound_788 (by decide) ?_
      cases h
      exact rt_z C hP hD hS rfl dL_sound_789
    · replace h := ite_t h c_69
      refine lv_aload_n hx hb dL_sound_652 rfl (lv_at hl 0 rfl) ?_
      refine lv_iconst (v := 5) hx hb dL_sound_653 (by decide) ?_
      obtain ⟨r_70, M_71, hc_72, h⟩ := cal_some h
      refine cl_Vl (As := [.int (5 : Int32)]) (rest := []) C (ct_X6_account hc_72) k_61 (by decide) rfl wl_286 wl_287 wl_288 wl_2 wl_289 hd_X6_account ⟨Nat.le_of_ble_eq_true rfl, Nat.le_of_ble_eq_true rfl⟩ ⟨rfl, rfl⟩ ⟨Nat.zero_le _, Nat.zero_le _⟩ rfl (Nat.le_of_ble_eq_true rfl) rfl hl.1 hP hD hS dL_sound_654 (fun H locs hP hD hS => ?_)
      refine lv_lload hx hb dL_sound_657 (lv_at hl 7 rfl) ?_
      refine W.lcmp hx hb dL_sound_659 ?_
      refine lv_if_ne (tgt := 788) hx hb dL_sound_660 (by decide) (fun c_73 => ?_) (fun c_73 => ?_)
      · replace h := ite_f h c_73
        refine lv_iconst (v := 0) hx hb dL_sound_788 (by decide) ?_
        cases h
        exact rt_z C hP hD hS rfl dL_sound_789
      · replace h := ite_t h c_73
        refine lv_lload_n hx hb dL_sound_663 rfl (lv_at hl 2 rfl) ?_
        refine lv_lload hx hb dL_sound_664 (lv_at hl 7 rfl) ?_
        refine W.lcmp hx hb dL_sound_666 ?_
        refine lv_if_ne (tgt := 788) hx hb dL_sound_667 (by decide) (fun c_74 => ?_) (fun c_74 => ?_)
        · replace h := ite_f h c_74
          refine lv_iconst (v := 0) hx hb dL_sound_788 (by decide) ?_
          cases h
          exact rt_z C hP hD hS rfl dL_sound_789
        · replace h := ite_t h c_74
          refine lv_lload_n hx hb dL_sound_670 rfl (lv_at hl 2 rfl) ?_
          refine lv_aload_n hx hb dL_sound_671 rfl (lv_at hl 0 rfl) ?_
          refine lv_iconst (v := 0) hx hb dL_sound_672 (by decide) ?_
          obtain ⟨r_75, M_76, hc_77, h⟩ := cal_some h
          refine cl_Vl (As := [.int (0 : Int32)]) (rest := [.long l3]) C (ct_X6_account hc_77) k_61 (by decide) rfl wl_286 wl_287 wl_288 wl_2 wl_289 hd_X6_account ⟨Nat.le_of_ble_eq_true rfl, Nat.le_of_ble_eq_true rfl⟩ ⟨rfl, rfl⟩ ⟨Nat.zero_le _, Nat.zero_le _⟩ rfl (Nat.le_of_ble_eq_true rfl) rfl hl.1 hP hD hS dL_sound_673 (fun H locs hP hD hS => ?_)
          refine lv_aload_n hx hb dL_sound_676 rfl (lv_at hl 0 rfl) ?_
          refine lv_iconst (v := 1) hx hb dL_sound_677 (by decide) ?_
          obtain ⟨r_78, M_79, hc_80, h⟩ := cal_some h
          refine cl_Vl (As := [.int (1 : Int32)]) (rest := [.long r_75, .long l3]) C (ct_X6_account hc_80) k_61 (by decide) rfl wl_286 wl_287 wl_288 wl_2 wl_289 hd_X6_account ⟨Nat.le_of_ble_eq_true rfl, Nat.le_of_ble_eq_true rfl⟩ ⟨rfl, rfl⟩ ⟨Nat.zero_le _, Nat.zero_le _⟩ rfl (Nat.le_of_ble_eq_true rfl) rfl hl.1 hP hD hS dL_sound_678 (fun H locs hP hD hS => ?_)
          refine lv_ladd hx hb dL_sound_681 ?_
          refine lv_aload_n hx hb dL_sound_682 rfl (lv_at hl 0 rfl) ?_
          refine lv_iconst (v := 2) hx hb dL_sound_683 (by decide) ?_
          obtain ⟨r_81, M_82, hc_83, h⟩ := cal_some h
          refine cl_Vl (As := [.int (2 : Int32)]) (rest := [.long (r_75 + r_78), .long l3]) C (ct_X6_account hc_83) k_61 (by decide) rfl wl_286 wl_287 wl_288 wl_2 wl_289 hd_X6_account ⟨Nat.le_of_ble_eq_true rfl, Nat.le_of_ble_eq_true rfl⟩ ⟨rfl, rfl⟩ ⟨Nat.zero_le _, Nat.zero_le _⟩ rfl (Nat.le_of_ble_eq_true rfl) rfl hl.1 hP hD hS dL_sound_684 (fun H locs hP hD hS => ?_)
          refine lv_lsub hx hb dL_sound_687 ?_
          refine lv_aload_n hx hb dL_sound_688 rfl (lv_at hl 0 rfl) ?_
          refine lv_iconst (v := 3) hx hb dL_sound_689 (by decide) ?_
          obtain ⟨r_84, M_85, hc_86, h⟩ := cal_some h
          refine cl_Vl (As := [.int (3 : Int32)]) (rest := [.long ((r_75 + r_78) - r_81), .long l3]) C (ct_X6_account hc_86) k_61 (by decide) rfl wl_286 wl_287 wl_288 wl_2 wl_289 hd_X6_account ⟨Nat.le_of_ble_eq_true rfl, Nat.le_of_ble_eq_true rfl⟩ ⟨rfl, rfl⟩ ⟨Nat.zero_le _, Nat.zero_le _⟩ rfl (Nat.le_of_ble_eq_true rfl) rfl hl.1 hP hD hS dL_sound_690 (fun H locs hP hD hS => ?_)
          refine lv_lsub hx hb dL_sound_693 ?_
          refine W.lcmp hx hb dL_sound_694 ?_
          refine lv_if_ne (tgt := 788) hx hb dL_sound_695 (by decide) (fun c_87 => ?_) (fun c_87 => ?_)
          · replace h := ite_f h c_87
            refine lv_iconst (v := 0) hx hb dL_sound_788 (by decide) ?_
            cases h
            exact rt_z C hP hD hS rfl dL_sound_789
          · replace h := ite_t h c_87
            refine lv_aload_n hx hb dL_sound_698 rfl (lv_at hl 0 rfl) ?_
            refine lv_iconst (v := 3) hx hb dL_sound_699 (by decide) ?_
            obtain ⟨r_88, M_89, hc_90, h⟩ := cal_some h
            refine cl_Vi (As := [.int (3 : Int32)]) (rest := []) C (ct_X6_count hc_90) k_61 (by decide) rfl wl_103 wl_104 wl_105 wl_2 wl_106 hd_X6_count ⟨Nat.le_of_ble_eq_true rfl, Nat.le_of_ble_eq_true rfl⟩ ⟨rfl, rfl⟩ ⟨Nat.zero_le _, Nat.zero_le _⟩ rfl (Nat.le_of_ble_eq_true rfl) rfl hl.1 hP hD hS dL_sound_700 (fun H locs hP hD hS => ?_)
            refine lv_iload hx hb dL_sound_703 (lv_at hl 8 rfl) ?_
            refine lv_icmp_ne (tgt := 788) hx hb dL_sound_705 (by decide) (fun c_91 => ?_) (fun c_91 => ?_)
            · replace h := ite_f h c_91
              refine lv_iconst (v := 0) hx hb dL_sound_788 (by decide) ?_
              cases h
              exact rt_z C hP hD hS rfl dL_sound_789
            · replace h := ite_t h c_91
              refine lv_aload_n hx hb dL_sound_708 rfl (lv_at hl 0 rfl) ?_
              refine lv_iconst (v := 4) hx hb dL_sound_709 (by decide) ?_
              obtain ⟨r_92, M_93, hc_94, h⟩ := cal_some h
              refine cl_Vi (As := [.int (4 : Int32)]) (rest := []) C (ct_X6_count hc_94) k_61 (by decide) rfl wl_103 wl_104 wl_105 wl_2 wl_106 hd_X6_count ⟨Nat.le_of_ble_eq_true rfl, Nat.le_of_ble_eq_true rfl⟩ ⟨rfl, rfl⟩ ⟨Nat.zero_le _, Nat.zero_le _⟩ rfl (Nat.le_of_ble_eq_true rfl) rfl hl.1 hP hD hS dL_sound_710 (fun H locs hP hD hS => ?_)
              refine lv_iload hx hb dL_sound_713 (lv_at hl 3 rfl) ?_
              refine lv_icmp_ne (tgt := 788) hx hb dL_sound_715 (by decide) (fun c_95 => ?_) (fun c_95 => ?_)
              · replace h := ite_f h c_95
                refine lv_iconst (v := 0) hx hb dL_sound_788 (by decide) ?_
                cases h
                exact rt_z C hP hD hS rfl dL_sound_789
              · replace h := ite_t h c_95
                refine lv_aload_n hx hb dL_sound_718 rfl (lv_at hl 0 rfl) ?_
                refine lv_iconst (v := 5) hx hb dL_sound_719 (by decide) ?_
                obtain ⟨r_96, M_97, hc_98, h⟩ := cal_some h
                refine cl_Vi (As := [.int (5 : Int32)]) (rest := []) C (ct_X6_count hc_98) k_61 (by decide) rfl wl_103 wl_104 wl_105 wl_2 wl_106 hd_X6_count ⟨Nat.le_of_ble_eq_true rfl, Nat.le_of_ble_eq_true rfl⟩ ⟨rfl, rfl⟩ ⟨Nat.zero_le _, Nat.zero_le _⟩ rfl (Nat.le_of_ble_eq_true rfl) rfl hl.1 hP hD hS dL_sound_720 (fun H locs hP hD hS => ?_)
                refine lv_iload hx hb dL_sound_723 (lv_at hl 6 rfl) ?_
                refine lv_icmp_ne (tgt := 788) hx hb dL_sound_725 (by decide) (fun c_99 => ?_) (fun c_99 => ?_)
                · replace h := ite_f h c_99
                  refine lv_iconst (v := 0) hx hb dL_sound_788 (by decide) ?_
                  cases h
                  exact rt_z C hP hD hS rfl dL_sound_789
                · replace h := ite_t h c_99
                  refine lv_aload_n hx hb dL_sound_728 rfl (lv_at hl 0 rfl) ?_
                  obtain ⟨r_100, M_101, hc_102, h⟩ := cal_some h
                  refine cl_Vi (As := []) (rest := []) C (ct_X6_line hc_102) k_61 (by decide) rfl wl_499 wl_500 wl_501 wl_2 wl_502 hd_X6_line ⟨Nat.le_of_ble_eq_true rfl, Nat.le_of_ble_eq_true rfl⟩ ⟨rfl, rfl⟩ ⟨Nat.zero_le _, Nat.zero_le _⟩ rfl (Nat.le_of_ble_eq_true rfl) rfl hl.1 hP hD hS dL_sound_729 (fun H locs hP hD hS => ?_)
                  refine lv_iload hx hb dL_sound_732 (lv_at hl 5 rfl) ?_
                  refine lv_icmp_ne (tgt := 788) hx hb dL_sound_734 (by decide) (fun c_103 => ?_) (fun c_103 => ?_)
                  · replace h := ite_f h c_103
                    refine lv_iconst (v := 0) hx hb dL_sound_788 (by decide) ?_
                    cases h
                    exact rt_z C hP hD hS rfl dL_sound_789
                  · replace h := ite_t h c_103
                    refine lv_aload_n hx hb dL_sound_737 rfl (lv_at hl 0 rfl) ?_
                    refine lv_iconst (v := 0) hx hb dL_sound_738 (by decide) ?_
                    obtain ⟨r_104, M_105, hc_106, h⟩ := cal_some h
                    refine cl_Vi (As := [.int (0 : Int32)]) (rest := []) C (ct_X6_front hc_106) k_61 (by decide) rfl wl_277 wl_278 wl_279 wl_2 wl_280 hd_X6_front ⟨Nat.le_of_ble_eq_true rfl, Nat.le_of_ble_eq_true rfl⟩ ⟨rfl, rfl⟩ ⟨Nat.zero_le _, Nat.zero_le _⟩ rfl (Nat.le_of_ble_eq_true rfl) rfl hl.1 hP hD hS dL_sound_739 (fun H locs hP hD hS => ?_)
                    refine lv_if_lt (tgt := 788) hx hb dL_sound_742 (by decide) (fun c_107 => ?_) (fun c_107 => ?_)
                    · replace h := ite_t h c_107
                      refine lv_iconst (v := 0) hx hb dL_sound_788 (by decide) ?_
                      cases h
                      exact rt_z C hP hD hS rfl dL_sound_789
                    · replace h := ite_f h c_107
                      refine lv_aload_n hx hb dL_sound_745 rfl (lv_at hl 0 rfl) ?_
                      refine lv_iconst (v := 1) hx hb dL_sound_746 (by decide) ?_
                      obtain ⟨r_108, M_109, hc_110, h⟩ := cal_some h
                      refine cl_Vi (As := [.int (1 : Int32)]) (rest := []) C (ct_X6_front hc_110) k_61 (by decide) rfl wl_277 wl_278 wl_279 wl_2 wl_280 hd_X6_front ⟨Nat.le_of_ble_eq_true rfl, Nat.le_of_ble_eq_true rfl⟩ ⟨rfl, rfl⟩ ⟨Nat.zero_le _, Nat.zero_le _⟩ rfl (Nat.le_of_ble_eq_true rfl) rfl hl.1 hP hD hS dL_sound_747 (fun H locs hP hD hS => ?_)
                      refine lv_if_lt (tgt := 788) hx hb dL_sound_750 (by decide) (fun c_111 => ?_) (fun c_111 => ?_)
                      · replace h := ite_t h c_111
                        refine lv_iconst (v := 0) hx hb dL_sound_788 (by decide) ?_
                        cases h
                        exact rt_z C hP hD hS rfl dL_sound_789
                      · replace h := ite_f h c_111
                        refine lv_aload_n hx hb dL_sound_753 rfl (lv_at hl 0 rfl) ?_
                        refine lv_iconst (v := 3) hx hb dL_sound_754 (by decide) ?_
                        obtain ⟨r_112, M_113, hc_114, h⟩ := cal_some h
                        refine cl_Vi (As := [.int (3 : Int32)]) (rest := []) C (ct_X6_front hc_114) k_61 (by decide) rfl wl_277 wl_278 wl_279 wl_2 wl_280 hd_X6_front ⟨Nat.le_of_ble_eq_true rfl, Nat.le_of_ble_eq_true rfl⟩ ⟨rfl, rfl⟩ ⟨Nat.zero_le _, Nat.zero_le _⟩ rfl (Nat.le_of_ble_eq_true rfl) rfl hl.1 hP hD hS dL_sound_755 (fun H locs hP hD hS => ?_)
                        refine lv_ldc (own := RL) (v := -2000000004) hx hb hown (hts _ wl_4) dL_sound_758 ?_
                        refine lv_icmp_ne (tgt := 767) hx hb dL_sound_760 (by decide) (fun c_115 => ?_) (fun c_115 => ?_)
                        · replace h := ite_f h c_115
                          refine lv_iconst (v := 0) hx hb dL_sound_767 (by decide) ?_
                          exact hj768 _ _ _ _ h hP hD hS _ (lv_sub hl [0] rfl)
                        · replace h := ite_t h c_115
                          refine lv_iconst (v := 1) hx hb dL_sound_763 (by decide) ?_
                          refine lv_goto (tgt := 768) hx hb dL_sound_764 (by decide) ?_
                          exact hj768 _ _ _ _ h hP hD hS _ (lv_sub hl [0] rfl)
  · replace h := ite_f h c_65
    refine lv_aload_n hx hb dL_sound_462 rfl (lv_at hl 0 rfl) ?_
    refine lv_iload hx hb dL_sound_463 (lv_at hl 9 rfl) ?_
    refine lv_iconst (v := 4) hx hb dL_sound_465 (by decide) ?_
    obtain ⟨r_116, M_117, hc_118, h⟩ := cal_some h
    refine cl_Vi (As := [.int x12, .int (4 : Int32)]) (rest := []) C (ct_X6_stakeInfo hc_118) k_61 (by decide) rfl wl_340 wl_341 wl_342 wl_2 wl_343 hd_X6_stakeInfo ⟨Nat.le_of_ble_eq_true rfl, Nat.le_of_ble_eq_true rfl⟩ ⟨rfl, rfl⟩ ⟨Nat.zero_le _, Nat.zero_le _⟩ rfl (Nat.le_of_ble_eq_true rfl) rfl hl.1 hP hD hS dL_sound_466 (fun H locs hP hD hS => ?_)
    refine lv_if_ne (tgt := 476) hx hb dL_sound_469 (by decide) (fun c_119 => ?_) (fun c_119 => ?_)
    · replace h := ite_f h c_119
      refine lv_iconst (v := 0) hx hb dL_sound_476 (by decide) ?_
      exact (bs_L_sound_477 C hj452) _ _ _ _ _ _ _ _ _ _ _ _ _ h hP hD hS _ (lv_sub hl [0, 1, 2, 3, 4, 5, 6, 7, 8, 9] rfl)
    · replace h := ite_t h c_119
      refine lv_iconst (v := 1) hx hb dL_sound_472 (by decide) ?_
      refine lv_goto (tgt := 477) hx hb dL_sound_473 (by decide) ?_
      exact (bs_L_sound_477 C hj452) _ _ _ _ _ _ _ _ _ _ _ _ _ h hP hD hS _ (lv_sub hl [0, 1, 2, 3, 4, 5, 6, 7, 8, 9] rfl)
theorem bt_L_sound_452 {p : Program} {l : Launch} {e : Env} {s : State} {m : MethodId} {args : Array Value} {below : List Frame} {meth : Method} {c : Code} {D : va_G} {cy : Cy} {A : Nat → Prop} {T : Ty} {R : Rm} {r : Int32} {M9 : Mm} {a0 : Nat} {j768 : Int32 → Mm → Option (Int32 × Mm)} (C : Cx RL cL_sound 14 (some .boolean) p s m args meth c D cy A)
    (hj768 : ∀ (s0 : Int32) (M : Mm) (H : Heap) (locs : List Loc), j768 s0 M = some (r, M9) → va_P D vwCl (WL cy T M R) H → va_D A (WL cy T M R) → va_S A s.heap H locs → ∀ ls : Array Slot, lv_has ls 14 [(0, .ref a0)] → W p l e rm_L_sound s m args below meth c H locs 0 0 (MQ below (QcI D cy T M9 R A r) args s 0 0 A) (F0 m 768 ls [.int s0])) :
    ∀ n : Nat, ∀ (x2 : Int32) (l3 : Int64) (x5 : Int32) (x6 : Int32) (x7 : Int32) (x8 : Int32) (l9 : Int64) (x11 : Int32) (x12 : Int32) (M : Mm) (H : Heap) (locs : List Loc), fb_L_sound_452 T R a0 j768 n x2 l3 x5 x6 x7 x8 l9 x11 x12 M = some (r, M9) → va_P D vwCl (WL cy T M R) H → va_D A (WL cy T M R) → va_S A s.heap H locs → ∀ ls : Array Slot, lv_has ls 14 [(0, .ref a0), (2, .int x2), (3, .long l3), (5, .int x5), (6, .int x6), (7, .int x7), (8, .int x8), (9, .long l9), (11, .int x11), (12, .int x12)] → W p l e rm_L_sound s m args below meth c H locs 0 0 (MQ below (QcI D cy T M9 R A r) args s 0 0 A) (F0 m 452 ls []) := by
  intro n
  induction n with
  | zero =>
    intro _ _ _ _ _ _ _ _ _ _ H locs h
    exact absurd (show (none : Option (Int32 × Mm)) = some _ from h) (by simp)
  | succ n ih => exact fun u0 u1 u2 u3 u4 u5 u6 u7 u8 u9 H locs h => bs_L_sound_452 (a0 := a0) C ih hj768 u0 u1 u2 u3 u4 u5 u6 u7 u8 u9 H locs h
set_option maxHeartbeats 4000000 in
set_option maxRecDepth 100000 in
theorem bs_L_sound_425 {p : Program} {l : Launch} {e : Env} {s : State} {m : MethodId} {args : Array Value} {below : List Frame} {meth : Method} {c : Code} {D : va_G} {cy : Cy} {A : Nat → Prop} {T : Ty} {R : Rm} {r : Int32} {M9 : Mm} {a0 : Nat} {j403 : Int32 → Int64 → Int32 → Int32 → Int32 → Int32 → Int64 → Int32 → Mm → Option (Int32 × Mm)} (C : Cx RL cL_sound 14 (some .boolean) p s m args meth c D cy A)
    (hj403 : ∀ (x2 : Int32) (l3 : Int64) (x5 : Int32) (x6 : Int32) (x7 : Int32) (x8 : Int32) (l9 : Int64) (x11 : Int32) (M : Mm) (H : Heap) (locs : List Loc), j403 x2 l3 x5 x6 x7 x8 l9 x11 M = some (r, M9) → va_P D vwCl (WL cy T M R) H → va_D A (WL cy T M R) → va_S A s.heap H locs → ∀ ls : Array Slot, lv_has ls 14 [(0, .ref a0), (2, .int x2), (3, .long l3), (5, .int x5), (6, .int x6), (7, .int x7), (8, .int x8), (9, .long l9), (11, .int x11)] → W p l e rm_L_sound s m args below meth c H locs 0 0 (MQ below (QcI D cy T M9 R A r) args s 0 0 A) (F0 m 403 ls [])) :
    ∀ (x2 : Int32) (l3 : Int64) (x5 : Int32) (x6 : Int32) (x7 : Int32) (l9 : Int64) (x11 : Int32) (s0 : Int32) (s1 : Int32) (M : Mm) (H : Heap) (locs : List Loc), fs_L_sound_425 T R a0 j403 x2 l3 x5 x6 x7 l9 x11 s0 s1 M = some (r, M9) → va_P D vwCl (WL cy T M R) H → va_D A (WL cy T M R) → va_S A s.heap H locs → ∀ ls : Array Slot, lv_has ls 14 [(0, .ref a0), (2, .int x2), (3, .long l3), (5, .int x5), (6, .int x6), (7, .int x7), (9, .long l9), (11, .int x11)] → W p l e rm_L_sound s m args below meth c H locs 0 0 (MQ below (QcI D cy T M9 R A r) args s 0 0 A) (F0 m 425 ls [.int s1, .int s0]) := by
  intro x2 l3 x5 x6 x7 l9 x11 s0 s1 M H locs h hP hD hS ls hl
  unfold fs_L_sound_425 at h
  obtain ⟨hx, hb, hr, hml, hown, hts, hK, hA, hlk, hSt⟩ := id C
  refine lv_iadd hx hb dL_sound_425 ?_
  refine lv_topi (fun v_120 ev_120 => ?_)
  replace h := bnd_at h ev_120
  refine lv_istore (lv' := [(8, .int v_120), (0, .ref a0), (2, .int x2), (3, .long l3), (5, .int x5), (6, .int x6), (7, .int x7), (9, .long l9), (11, .int x11)]) hx hb dL_sound_426 hl (by decide) rfl (fun ls hl => ?_)
  refine lv_lload hx hb dL_sound_428 (lv_at hl 7 rfl) ?_
  refine lv_aload_n hx hb dL_sound_430 rfl (lv_at hl 1 rfl) ?_
  refine lv_iload hx hb dL_sound_431 (lv_at hl 8 rfl) ?_
  obtain ⟨k_121, h⟩ := chk_some h
  obtain ⟨r_122, M_123, hc_124, h⟩ := cal_some h
  refine cl_Vi (As := [.int x11]) (rest := [.long l9]) C (ct_X6_ofYear hc_124) k_121 (by decide) rfl wl_272 wl_273 wl_274 wl_2 wl_275 hd_X6_ofYear ⟨Nat.le_of_ble_eq_true rfl, Nat.le_of_ble_eq_true rfl⟩ ⟨rfl, rfl⟩ ⟨Nat.zero_le _, Nat.zero_le _⟩ rfl (Nat.le_of_ble_eq_true rfl) rfl hl.1 hP hD hS dL_sound_433 (fun H locs hP hD hS => ?_)
  refine lv_i2l hx hb dL_sound_436 rfl ?_
  refine lv_ladd hx hb dL_sound_437 ?_
  refine lv_topl (fun v_125 ev_125 => ?_)
  replace h := bnd_at h ev_125
  refine lv_lstore (lv' := [(9, .long v_125), (8, .int v_120), (0, .ref a0), (2, .int x2), (3, .long l3), (5, .int x5), (6, .int x6), (7, .int x7), (11, .int x11)]) hx hb dL_sound_438 hl (by decide) rfl (fun ls hl => ?_)
  obtain ⟨v_126, ev_126⟩ : ∃ y : Int32, y = (x11 + (1 : Int32)) := ⟨_, rfl⟩
  replace h := bnd_at h ev_126
  refine lv_iinc (v := v_126) (lv' := [(11, .int v_126), (9, .long v_125), (8, .int v_120), (0, .ref a0), (2, .int x2), (3, .long l3), (5, .int x5), (6, .int x6), (7, .int x7)]) hx hb dL_sound_440 hl (k := 8) rfl (by rw [ev_126]; rfl) (by decide) rfl (fun ls hl => ?_)
  refine lv_goto (tgt := 403) hx hb dL_sound_443 (by decide) ?_
  exact hj403 _ _ _ _ _ _ _ _ _ _ _ h hP hD hS _ (lv_sub hl [3, 4, 5, 6, 7, 8, 2, 1, 0] rfl)
set_option maxHeartbeats 4000000 in
set_option maxRecDepth 100000 in
theorem bs_L_sound_403 {p : Program} {l : Launch} {e : Env} {s : State} {m : MethodId} {args : Array Value} {below : List Frame} {meth : Method} {c : Code} {D : va_G} {cy : Cy} {A : Nat → Prop} {T : Ty} {R : Rm} {r : Int32} {M9 : Mm} {a0 : Nat} {j403 : Int32 → Int64 → Int32 → Int32 → Int32 → Int32 → Int64 → Int32 → Mm → Option (Int32 × Mm)} {j452 : Int32 → Int64 → Int32 → Int32 → Int32 → Int32 → Int64 → Int32 → Int32 → Mm → Option (Int32 × Mm)} (C : Cx RL cL_sound 14 (some .boolean) p s m args meth c D cy A)
    (hj403 : ∀ (x2 : Int32) (l3 : Int64) (x5 : Int32) (x6 : Int32) (x7 : Int32) (x8 : Int32) (l9 : Int64) (x11 : Int32) (M : Mm) (H : Heap) (locs : List Loc), j403 x2 l3 x5 x6 x7 x8 l9 x11 M = some (r, M9) → va_P D vwCl (WL cy T M R) H → va_D A (WL cy T M R) → va_S A s.heap H locs → ∀ ls : Array Slot, lv_has ls 14 [(0, .ref a0), (2, .int x2), (3, .long l3), (5, .int x5), (6, .int x6), (7, .int x7), (8, .int x8), (9, .long l9), (11, .int x11)] → W p l e rm_L_sound s m args below meth c H locs 0 0 (MQ below (QcI D cy T M9 R A r) args s 0 0 A) (F0 m 403 ls []))
    (hj452 : ∀ (x2 : Int32) (l3 : Int64) (x5 : Int32) (x6 : Int32) (x7 : Int32) (x8 : Int32) (l9 : Int64) (x11 : Int32) (x12 : Int32) (M : Mm) (H : Heap) (locs : List Loc), j452 x2 l3 x5 x6 x7 x8 l9 x11 x12 M = some (r, M9) → va_P D vwCl (WL cy T M R) H → va_D A (WL cy T M R) → va_S A s.heap H locs → ∀ ls : Array Slot, lv_has ls 14 [(0, .ref a0), (2, .int x2), (3, .long l3), (5, .int x5), (6, .int x6), (7, .int x7), (8, .int x8), (9, .long l9), (11, .int x11), (12, .int x12)] → W p l e rm_L_sound s m args below meth c H locs 0 0 (MQ below (QcI D cy T M9 R A r) args s 0 0 A) (F0 m 452 ls [])) :
    ∀ (x2 : Int32) (l3 : Int64) (x5 : Int32) (x6 : Int32) (x7 : Int32) (x8 : Int32) (l9 : Int64) (x11 : Int32) (M : Mm) (H : Heap) (locs : List Loc), fs_L_sound_403 T R a0 j403 j452 x2 l3 x5 x6 x7 x8 l9 x11 M = some (r, M9) → va_P D vwCl (WL cy T M R) H → va_D A (WL cy T M R) → va_S A s.heap H locs → ∀ ls : Array Slot, lv_has ls 14 [(0, .ref a0), (2, .int x2), (3, .long l3), (5, .int x5), (6, .int x6), (7, .int x7), (8, .int x8), (9, .long l9), (11, .int x11)] → W p l e rm_L_sound s m args below meth c H locs 0 0 (MQ below (QcI D cy T M9 R A r) args s 0 0 A) (F0 m 403 ls []) := by
  intro x2 l3 x5 x6 x7 x8 l9 x11 M H locs h hP hD hS ls hl
  unfold fs_L_sound_403 at h
  obtain ⟨hx, hb, hr, hml, hown, hts, hK, hA, hlk, hSt⟩ := id C
  refine lv_iload hx hb dL_sound_403 (lv_at hl 8 rfl) ?_
  refine lv_iload_n hx hb dL_sound_405 rfl (lv_at hl 1 rfl) ?_
  refine lv_icmp_gt (tgt := 446) hx hb dL_sound_406 (by decide) (fun c_127 => ?_) (fun c_127 => ?_)
  · replace h := ite_t h c_127
    refine lv_iconst (v := 0) hx hb dL_sound_446 (by decide) ?_
    refine lv_istore (lv' := [(11, .int (0 : Int32)), (0, .ref a0), (2, .int x2), (3, .long l3), (5, .int x5), (6, .int x6), (7, .int x7), (8, .int x8), (9, .long l9)]) hx hb dL_sound_447 hl (by decide) rfl (fun ls hl => ?_)
    refine lv_iconst (v := 0) hx hb dL_sound_449 (by decide) ?_
    refine lv_istore (lv' := [(12, .int (0 : Int32)), (11, .int (0 : Int32)), (0, .ref a0), (2, .int x2), (3, .long l3), (5, .int x5), (6, .int x6), (7, .int x7), (8, .int x8), (9, .long l9)]) hx hb dL_sound_450 hl (by decide) rfl (fun ls hl => ?_)
    exact hj452 _ _ _ _ _ _ _ _ _ _ _ _ h hP hD hS _ (lv_sub hl [2, 3, 4, 5, 6, 7, 8, 9, 1, 0] rfl)
  · replace h := ite_f h c_127
    refine lv_iload hx hb dL_sound_409 (lv_at hl 6 rfl) ?_
    refine lv_aload_n hx hb dL_sound_411 rfl (lv_at hl 0 rfl) ?_
    refine lv_iload hx hb dL_sound_412 (lv_at hl 8 rfl) ?_
    obtain ⟨k_128, h⟩ := chk_some h
    obtain ⟨r_129, M_130, hc_131, h⟩ := cal_some h
    refine cl_Vi (As := [.int x11]) (rest := [.int x8]) C (ct_X6_ofYear hc_131) k_128 (by decide) rfl wl_272 wl_273 wl_274 wl_2 wl_275 hd_X6_ofYear ⟨Nat.le_of_ble_eq_true rfl, Nat.le_of_ble_eq_true rfl⟩ ⟨rfl, rfl⟩ ⟨Nat.zero_le _, Nat.zero_le _⟩ rfl (Nat.le_of_ble_eq_true rfl) rfl hl.1 hP hD hS dL_sound_414 (fun H locs hP hD hS => ?_)
    refine lv_if_le (tgt := 424) hx hb dL_sound_417 (by decide) (fun c_132 => ?_) (fun c_132 => ?_)
    · replace h := ite_t h c_132
      refine lv_iconst (v := 0) hx hb dL_sound_424 (by decide) ?_
      exact (bs_L_sound_425 C hj403) _ _ _ _ _ _ _ _ _ _ _ _ h hP hD hS _ (lv_sub hl [0, 1, 2, 3, 4, 5, 7, 8] rfl)
    · replace h := ite_f h c_132
      refine lv_iconst (v := 1) hx hb dL_sound_420 (by decide) ?_
      refine lv_goto (tgt := 425) hx hb dL_sound_421 (by decide) ?_
      exact (bs_L_sound_425 C hj403) _ _ _ _ _ _ _ _ _ _ _ _ h hP hD hS _ (lv_sub hl [0, 1, 2, 3, 4, 5, 7, 8] rfl)
theorem bt_L_sound_403 {p : Program} {l : Launch} {e : Env} {s : State} {m : MethodId} {args : Array Value} {below : List Frame} {meth : Method} {c : Code} {D : va_G} {cy : Cy} {A : Nat → Prop} {T : Ty} {R : Rm} {r : Int32} {M9 : Mm} {a0 : Nat} {j452 : Int32 → Int64 → Int32 → Int32 → Int32 → Int32 → Int64 → Int32 → Int32 → Mm → Option (Int32 × Mm)} (C : Cx RL cL_sound 14 (some .boolean) p s m args meth c D cy A)
    (hj452 : ∀ (x2 : Int32) (l3 : Int64) (x5 : Int32) (x6 : Int32) (x7 : Int32) (x8 : Int32) (l9 : Int64) (x11 : Int32) (x12 : Int32) (M : Mm) (H : Heap) (locs : List Loc), j452 x2 l3 x5 x6 x7 x8 l9 x11 x12 M = some (r, M9) → va_P D vwCl (WL cy T M R) H → va_D A (WL cy T M R) → va_S A s.heap H locs → ∀ ls : Array Slot, lv_has ls 14 [(0, .ref a0), (2, .int x2), (3, .long l3), (5, .int x5), (6, .int x6), (7, .int x7), (8, .int x8), (9, .long l9), (11, .int x11), (12, .int x12)] → W p l e rm_L_sound s m args below meth c H locs 0 0 (MQ below (QcI D cy T M9 R A r) args s 0 0 A) (F0 m 452 ls [])) :
    ∀ n : Nat, ∀ (x2 : Int32) (l3 : Int64) (x5 : Int32) (x6 : Int32) (x7 : Int32) (x8 : Int32) (l9 : Int64) (x11 : Int32) (M : Mm) (H : Heap) (locs : List Loc), fb_L_sound_403 T R a0 j452 n x2 l3 x5 x6 x7 x8 l9 x11 M = some (r, M9) → va_P D vwCl (WL cy T M R) H → va_D A (WL cy T M R) → va_S A s.heap H locs → ∀ ls : Array Slot, lv_has ls 14 [(0, .ref a0), (2, .int x2), (3, .long l3), (5, .int x5), (6, .int x6), (7, .int x7), (8, .int x8), (9, .long l9), (11, .int x11)] → W p l e rm_L_sound s m args below meth c H locs 0 0 (MQ below (QcI D cy T M9 R A r) args s 0 0 A) (F0 m 403 ls []) := by
  intro n
  induction n with
  | zero =>
    intro _ _ _ _ _ _ _ _ _ H locs h
    exact absurd (show (none : Option (Int32 × Mm)) = some _ from h) (by simp)
  | succ n ih => exact fun u0 u1 u2 u3 u4 u5 u6 u7 u8 H locs h => bs_L_sound_403 (a0 := a0) C ih hj452 u0 u1 u2 u3 u4 u5 u6 u7 u8 H locs h
set_option maxHeartbeats 4000000 in
set_option maxRecDepth 100000 in
theorem bs_L_sound_363 {p : Program} {l : Launch} {e : Env} {s : State} {m : MethodId} {args : Array Value} {below : List Frame} {meth : Method} {c : Code} {D : va_G} {cy : Cy} {A : Nat → Prop} {T : Ty} {R : Rm} {r : Int32} {M9 : Mm} {a0 : Nat} {j32 : Int32 → Int32 → Int64 → Int32 → Int32 → Int32 → Int32 → Mm → Option (Int32 × Mm)} (C : Cx RL cL_sound 14 (some .boolean) p s m args meth c D cy A)
    (hj32 : ∀ (x1 : Int32) (x2 : Int32) (l3 : Int64) (x5 : Int32) (x6 : Int32) (x7 : Int32) (x8 : Int32) (M : Mm) (H : Heap) (locs : List Loc), j32 x1 x2 l3 x5 x6 x7 x8 M = some (r, M9) → va_P D vwCl (WL cy T M R) H → va_D A (WL cy T M R) → va_S A s.heap H locs → ∀ ls : Array Slot, lv_has ls 14 [(0, .ref a0), (1, .int x1), (2, .int x2), (3, .long l3), (5, .int x5), (6, .int x6), (7, .int x7), (8, .int x8)] → W p l e rm_L_sound s m args below meth c H locs 0 0 (MQ below (QcI D cy T M9 R A r) args s 0 0 A) (F0 m 32 ls [])) :
    ∀ (x1 : Int32) (x2 : Int32) (l3 : Int64) (x5 : Int32) (x6 : Int32) (x7 : Int32) (x8 : Int32) (x9 : Int32) (x10 : Int32) (x12 : Int32) (M : Mm) (H : Heap) (locs : List Loc), fs_L_sound_363 T R a0 j32 x1 x2 l3 x5 x6 x7 x8 x9 x10 x12 M = some (r, M9) → va_P D vwCl (WL cy T M R) H → va_D A (WL cy T M R) → va_S A s.heap H locs → ∀ ls : Array Slot, lv_has ls 14 [(0, .ref a0), (1, .int x1), (2, .int x2), (3, .long l3), (5, .int x5), (6, .int x6), (7, .int x7), (8, .int x8), (9, .int x9), (10, .int x10), (12, .int x12)] → W p l e rm_L_sound s m args below meth c H locs 0 0 (MQ below (QcI D cy T M9 R A r) args s 0 0 A) (F0 m 363 ls []) := by
  intro x1 x2 l3 x5 x6 x7 x8 x9 x10 x12 M H locs h hP hD hS ls hl
  unfold fs_L_sound_363 at h
  obtain ⟨hx, hb, hr, hml, hown, hts, hK, hA, hlk, hSt⟩ := id C
  refine lv_iload hx hb dL_sound_363 (lv_at hl 5 rfl) ?_
  refine lv_iload hx hb dL_sound_365 (lv_at hl 10 rfl) ?_
  refine lv_ior hx hb dL_sound_367 ?_
  refine lv_topi (fun v_133 ev_133 => ?_)
  replace h := bnd_at h ev_133
  refine lv_istore (lv' := [(6, .int v_133), (0, .ref a0), (1, .int x1), (2, .int x2), (3, .long l3), (5, .int x5), (7, .int x7), (8, .int x8), (9, .int x9), (10, .int x10), (12, .int x12)]) hx hb dL_sound_368 hl (by decide) rfl (fun ls hl => ?_)
  refine lv_iload hx hb dL_sound_370 (lv_at hl 5 rfl) ?_
  refine lv_iload hx hb dL_sound_372 (lv_at hl 8 rfl) ?_
  refine lv_iadd hx hb dL_sound_374 ?_
  refine lv_topi (fun v_134 ev_134 => ?_)
  replace h := bnd_at h ev_134
  refine lv_istore (lv' := [(5, .int v_134), (6, .int v_133), (0, .ref a0), (1, .int x1), (2, .int x2), (3, .long l3), (7, .int x7), (8, .int x8), (9, .int x9), (10, .int x10), (12, .int x12)]) hx hb dL_sound_375 hl (by decide) rfl (fun ls hl => ?_)
  refine lv_lload_n hx hb dL_sound_377 rfl (lv_at hl 5 rfl) ?_
  refine lv_iload hx hb dL_sound_378 (lv_at hl 9 rfl) ?_
  refine lv_i2l hx hb dL_sound_380 rfl ?_
  refine lv_ladd hx hb dL_sound_381 ?_
  refine lv_topl (fun v_135 ev_135 => ?_)
  replace h := bnd_at h ev_135
  refine lv_lstore_n (lv' := [(3, .long v_135), (5, .int v_134), (6, .int v_133), (0, .ref a0), (1, .int x1), (2, .int x2), (7, .int x7), (8, .int x8), (9, .int x9), (10, .int x10), (12, .int x12)]) hx hb dL_sound_382 rfl hl (by decide) rfl (fun ls hl => ?_)
  obtain ⟨v_136, ev_136⟩ : ∃ y : Int32, y = (x8 + (1 : Int32)) := ⟨_, rfl⟩
  replace h := bnd_at h ev_136
  refine lv_iinc (v := v_136) (lv' := [(8, .int v_136), (3, .long v_135), (5, .int v_134), (6, .int v_133), (0, .ref a0), (1, .int x1), (2, .int x2), (7, .int x7), (9, .int x9), (10, .int x10), (12, .int x12)]) hx hb dL_sound_383 hl (k := 7) rfl (by rw [ev_136]; rfl) (by decide) rfl (fun ls hl => ?_)
  refine lv_goto (tgt := 32) hx hb dL_sound_386 (by decide) ?_
  exact hj32 _ _ _ _ _ _ _ _ _ _ h hP hD hS _ (lv_sub hl [4, 5, 6, 1, 2, 3, 7, 0] rfl)
set_option maxHeartbeats 4000000 in
set_option maxRecDepth 100000 in
theorem bs_L_sound_264 {p : Program} {l : Launch} {e : Env} {s : State} {m : MethodId} {args : Array Value} {below : List Frame} {meth : Method} {c : Code} {D : va_G} {cy : Cy} {A : Nat → Prop} {T : Ty} {R : Rm} {r : Int32} {M9 : Mm} {a0 : Nat} {j32 : Int32 → Int32 → Int64 → Int32 → Int32 → Int32 → Int32 → Mm → Option (Int32 × Mm)} (C : Cx RL cL_sound 14 (some .boolean) p s m args meth c D cy A)
    (hj32 : ∀ (x1 : Int32) (x2 : Int32) (l3 : Int64) (x5 : Int32) (x6 : Int32) (x7 : Int32) (x8 : Int32) (M : Mm) (H : Heap) (locs : List Loc), j32 x1 x2 l3 x5 x6 x7 x8 M = some (r, M9) → va_P D vwCl (WL cy T M R) H → va_D A (WL cy T M R) → va_S A s.heap H locs → ∀ ls : Array Slot, lv_has ls 14 [(0, .ref a0), (1, .int x1), (2, .int x2), (3, .long l3), (5, .int x5), (6, .int x6), (7, .int x7), (8, .int x8)] → W p l e rm_L_sound s m args below meth c H locs 0 0 (MQ below (QcI D cy T M9 R A r) args s 0 0 A) (F0 m 32 ls [])) :
    ∀ (x1 : Int32) (x2 : Int32) (l3 : Int64) (x5 : Int32) (x6 : Int32) (x7 : Int32) (x8 : Int32) (x9 : Int32) (x10 : Int32) (x12 : Int32) (M : Mm) (H : Heap) (locs : List Loc), fs_L_sound_264 T R a0 j32 x1 x2 l3 x5 x6 x7 x8 x9 x10 x12 M = some (r, M9) → va_P D vwCl (WL cy T M R) H → va_D A (WL cy T M R) → va_S A s.heap H locs → ∀ ls : Array Slot, lv_has ls 14 [(0, .ref a0), (1, .int x1), (2, .int x2), (3, .long l3), (5, .int x5), (6, .int x6), (7, .int x7), (8, .int x8), (9, .int x9), (10, .int x10), (12, .int x12)] → W p l e rm_L_sound s m args below meth c H locs 0 0 (MQ below (QcI D cy T M9 R A r) args s 0 0 A) (F0 m 264 ls []) := by
  intro x1 x2 l3 x5 x6 x7 x8 x9 x10 x12 M H locs h hP hD hS ls hl
  unfold fs_L_sound_264 at h
  obtain ⟨hx, hb, hr, hml, hown, hts, hK, hA, hlk, hSt⟩ := id C
  refine lv_iload hx hb dL_sound_264 (lv_at hl 10 rfl) ?_
  refine lv_iload hx hb dL_sound_266 (lv_at hl 5 rfl) ?_
  refine lv_iand hx hb dL_sound_268 ?_
  refine lv_if_ne (tgt := 361) hx hb dL_sound_269 (by decide) (fun c_137 => ?_) (fun c_137 => ?_)
  · replace h := ite_f h c_137
    refine lv_iconst (v := 0) hx hb dL_sound_361 (by decide) ?_
    cases h
    exact rt_z C hP hD hS rfl dL_sound_362
  · replace h := ite_t h c_137
    refine lv_aload_n hx hb dL_sound_272 rfl (lv_at hl 0 rfl) ?_
    refine lv_iload hx hb dL_sound_273 (lv_at hl 7 rfl) ?_
    refine lv_bipush (v := 7) hx hb dL_sound_275 (by decide) ?_
    obtain ⟨k_138, h⟩ := chk_some h
    obtain ⟨r_139, M_140, hc_141, h⟩ := cal_some h
    refine cl_Vi (As := [.int x8, .int (7 : Int32)]) (rest := []) C (ct_X6_bandInfo hc_141) k_138 (by decide) rfl wl_235 wl_236 wl_237 wl_2 wl_238 hd_X6_bandInfo ⟨Nat.le_of_ble_eq_true rfl, Nat.le_of_ble_eq_true rfl⟩ ⟨rfl, rfl⟩ ⟨Nat.zero_le _, Nat.zero_le _⟩ rfl (Nat.le_of_ble_eq_true rfl) rfl hl.1 hP hD hS dL_sound_277 (fun H locs hP hD hS => ?_)
    refine lv_if_lt (tgt := 361) hx hb dL_sound_280 (by decide) (fun c_142 => ?_) (fun c_142 => ?_)
    · replace h := ite_t h c_142
      refine lv_iconst (v := 0) hx hb dL_sound_361 (by decide) ?_
      cases h
      exact rt_z C hP hD hS rfl dL_sound_362
    · replace h := ite_f h c_142
      refine lv_aload_n hx hb dL_sound_283 rfl (lv_at hl 0 rfl) ?_
      refine lv_iload hx hb dL_sound_284 (lv_at hl 7 rfl) ?_
      refine lv_bipush (v := 8) hx hb dL_sound_286 (by decide) ?_
      obtain ⟨r_143, M_144, hc_145, h⟩ := cal_some h
      refine cl_Vi (As := [.int x8, .int (8 : Int32)]) (rest := []) C (ct_X6_bandInfo hc_145) k_138 (by decide) rfl wl_235 wl_236 wl_237 wl_2 wl_238 hd_X6_bandInfo ⟨Nat.le_of_ble_eq_true rfl, Nat.le_of_ble_eq_true rfl⟩ ⟨rfl, rfl⟩ ⟨Nat.zero_le _, Nat.zero_le _⟩ rfl (Nat.le_of_ble_eq_true rfl) rfl hl.1 hP hD hS dL_sound_288 (fun H locs hP hD hS => ?_)
      refine lv_if_lt (tgt := 361) hx hb dL_sound_291 (by decide) (fun c_146 => ?_) (fun c_146 => ?_)
      · replace h := ite_t h c_146
        refine lv_iconst (v := 0) hx hb dL_sound_361 (by decide) ?_
        cases h
        exact rt_z C hP hD hS rfl dL_sound_362
      · replace h := ite_f h c_146
        refine lv_aload_n hx hb dL_sound_294 rfl (lv_at hl 0 rfl) ?_
        refine lv_iload hx hb dL_sound_295 (lv_at hl 7 rfl) ?_
        refine lv_bipush (v := 9) hx hb dL_sound_297 (by decide) ?_
        obtain ⟨r_147, M_148, hc_149, h⟩ := cal_some h
        refine cl_Vi (As := [.int x8, .int (9 : Int32)]) (rest := []) C (ct_X6_bandInfo hc_149) k_138 (by decide) rfl wl_235 wl_236 wl_237 wl_2 wl_238 hd_X6_bandInfo ⟨Nat.le_of_ble_eq_true rfl, Nat.le_of_ble_eq_true rfl⟩ ⟨rfl, rfl⟩ ⟨Nat.zero_le _, Nat.zero_le _⟩ rfl (Nat.le_of_ble_eq_true rfl) rfl hl.1 hP hD hS dL_sound_299 (fun H locs hP hD hS => ?_)
        refine lv_if_lt (tgt := 361) hx hb dL_sound_302 (by decide) (fun c_150 => ?_) (fun c_150 => ?_)
        · replace h := ite_t h c_150
          refine lv_iconst (v := 0) hx hb dL_sound_361 (by decide) ?_
          cases h
          exact rt_z C hP hD hS rfl dL_sound_362
        · replace h := ite_f h c_150
          refine lv_iload hx hb dL_sound_305 (lv_at hl 7 rfl) ?_
          refine lv_if_le (tgt := 363) hx hb dL_sound_307 (by decide) (fun c_151 => ?_) (fun c_151 => ?_)
          · replace h := ite_t h c_151
            exact (bs_L_sound_363 C hj32) _ _ _ _ _ _ _ _ _ _ _ _ _ h hP hD hS _ (lv_sub hl [0, 1, 2, 3, 4, 5, 6, 7, 8, 9, 10] rfl)
          · replace h := ite_f h c_151
            refine lv_aload_n hx hb dL_sound_310 rfl (lv_at hl 0 rfl) ?_
            refine lv_iload hx hb dL_sound_311 (lv_at hl 7 rfl) ?_
            refine lv_iconst (v := 0) hx hb dL_sound_313 (by decide) ?_
            obtain ⟨r_152, M_153, hc_154, h⟩ := cal_some h
            refine cl_Vi (As := [.int x8, .int (0 : Int32)]) (rest := []) C (ct_X6_bandInfo hc_154) k_138 (by decide) rfl wl_235 wl_236 wl_237 wl_2 wl_238 hd_X6_bandInfo ⟨Nat.le_of_ble_eq_true rfl, Nat.le_of_ble_eq_true rfl⟩ ⟨rfl, rfl⟩ ⟨Nat.zero_le _, Nat.zero_le _⟩ rfl (Nat.le_of_ble_eq_true rfl) rfl hl.1 hP hD hS dL_sound_314 (fun H locs hP hD hS => ?_)
            refine lv_aload_n hx hb dL_sound_317 rfl (lv_at hl 0 rfl) ?_
            refine lv_iload hx hb dL_sound_318 (lv_at hl 7 rfl) ?_
            refine lv_iconst (v := 1) hx hb dL_sound_320 (by decide) ?_
            refine lv_isub hx hb dL_sound_321 ?_
            refine lv_iconst (v := 0) hx hb dL_sound_322 (by decide) ?_
            obtain ⟨r_155, M_156, hc_157, h⟩ := cal_some h
            refine cl_Vi (As := [.int (x8 - (1 : Int32)), .int (0 : Int32)]) (rest := [.int r_152]) C (ct_X6_bandInfo hc_157) k_138 (by decide) rfl wl_235 wl_236 wl_237 wl_2 wl_238 hd_X6_bandInfo ⟨Nat.le_of_ble_eq_true rfl, Nat.le_of_ble_eq_true rfl⟩ ⟨rfl, rfl⟩ ⟨Nat.zero_le _, Nat.zero_le _⟩ rfl (Nat.le_of_ble_eq_true rfl) rfl hl.1 hP hD hS dL_sound_323 (fun H locs hP hD hS => ?_)
            refine lv_icmp_ge (tgt := 361) hx hb dL_sound_326 (by decide) (fun c_158 => ?_) (fun c_158 => ?_)
            · replace h := ite_t h c_158
              refine lv_iconst (v := 0) hx hb dL_sound_361 (by decide) ?_
              cases h
              exact rt_z C hP hD hS rfl dL_sound_362
            · replace h := ite_f h c_158
              refine lv_aload_n hx hb dL_sound_329 rfl (lv_at hl 0 rfl) ?_
              refine lv_iload hx hb dL_sound_330 (lv_at hl 7 rfl) ?_
              refine lv_bipush (v := 11) hx hb dL_sound_332 (by decide) ?_
              obtain ⟨r_159, M_160, hc_161, h⟩ := cal_some h
              refine cl_Vi (As := [.int x8, .int (11 : Int32)]) (rest := []) C (ct_X6_bandInfo hc_161) k_138 (by decide) rfl wl_235 wl_236 wl_237 wl_2 wl_238 hd_X6_bandInfo ⟨Nat.le_of_ble_eq_true rfl, Nat.le_of_ble_eq_true rfl⟩ ⟨rfl, rfl⟩ ⟨Nat.zero_le _, Nat.zero_le _⟩ rfl (Nat.le_of_ble_eq_true rfl) rfl hl.1 hP hD hS dL_sound_334 (fun H locs hP hD hS => ?_)
              refine lv_aload_n hx hb dL_sound_337 rfl (lv_at hl 0 rfl) ?_
              refine lv_iload hx hb dL_sound_338 (lv_at hl 7 rfl) ?_
              refine lv_iconst (v := 1) hx hb dL_sound_340 (by decide) ?_
              refine lv_isub hx hb dL_sound_341 ?_
              refine lv_bipush (v := 10) hx hb dL_sound_342 (by decide) ?_
              obtain ⟨r_162, M_163, hc_164, h⟩ := cal_some h
              refine cl_Vi (As := [.int (x8 - (1 : Int32)), .int (10 : Int32)]) (rest := [.int r_159]) C (ct_X6_bandInfo hc_164) k_138 (by decide) rfl wl_235 wl_236 wl_237 wl_2 wl_238 hd_X6_bandInfo ⟨Nat.le_of_ble_eq_true rfl, Nat.le_of_ble_eq_true rfl⟩ ⟨rfl, rfl⟩ ⟨Nat.zero_le _, Nat.zero_le _⟩ rfl (Nat.le_of_ble_eq_true rfl) rfl hl.1 hP hD hS dL_sound_344 (fun H locs hP hD hS => ?_)
              refine lv_icmp_eq (tgt := 363) hx hb dL_sound_347 (by decide) (fun c_165 => ?_) (fun c_165 => ?_)
              · replace h := ite_t h c_165
                exact (bs_L_sound_363 C hj32) _ _ _ _ _ _ _ _ _ _ _ _ _ h hP hD hS _ (lv_sub hl [0, 1, 2, 3, 4, 5, 6, 7, 8, 9, 10] rfl)
              · replace h := ite_f h c_165
                refine lv_aload_n hx hb dL_sound_350 rfl (lv_at hl 0 rfl) ?_
                refine lv_iload hx hb dL_sound_351 (lv_at hl 7 rfl) ?_
                refine lv_bipush (v := 11) hx hb dL_sound_353 (by decide) ?_
                obtain ⟨r_166, M_167, hc_168, h⟩ := cal_some h
                refine cl_Vi (As := [.int x8, .int (11 : Int32)]) (rest := []) C (ct_X6_bandInfo hc_168) k_138 (by decide) rfl wl_235 wl_236 wl_237 wl_2 wl_238 hd_X6_bandInfo ⟨Nat.le_of_ble_eq_true rfl, Nat.le_of_ble_eq_true rfl⟩ ⟨rfl, rfl⟩ ⟨Nat.zero_le _, Nat.zero_le _⟩ rfl (Nat.le_of_ble_eq_true rfl) rfl hl.1 hP hD hS dL_sound_355 (fun H locs hP hD hS => ?_)
                refine lv_if_eq (tgt := 363) hx hb dL_sound_358 (by decide) (fun c_169 => ?_) (fun c_169 => ?_)
                · replace h := ite_t h c_169
                  exact (bs_L_sound_363 C hj32) _ _ _ _ _ _ _ _ _ _ _ _ _ h hP hD hS _ (lv_sub hl [0, 1, 2, 3, 4, 5, 6, 7, 8, 9, 10] rfl)
                · replace h := ite_f h c_169
                  refine lv_iconst (v := 0) hx hb dL_sound_361 (by decide) ?_
                  cases h
                  exact rt_z C hP hD hS rfl dL_sound_362
set_option maxHeartbeats 4000000 in
set_option maxRecDepth 100000 in
theorem bs_L_sound_225 {p : Program} {l : Launch} {e : Env} {s : State} {m : MethodId} {args : Array Value} {below : List Frame} {meth : Method} {c : Code} {D : va_G} {cy : Cy} {A : Nat → Prop} {T : Ty} {R : Rm} {r : Int32} {M9 : Mm} {a0 : Nat} {j32 : Int32 → Int32 → Int64 → Int32 → Int32 → Int32 → Int32 → Mm → Option (Int32 × Mm)} (C : Cx RL cL_sound 14 (some .boolean) p s m args meth c D cy A)
    (hj32 : ∀ (x1 : Int32) (x2 : Int32) (l3 : Int64) (x5 : Int32) (x6 : Int32) (x7 : Int32) (x8 : Int32) (M : Mm) (H : Heap) (locs : List Loc), j32 x1 x2 l3 x5 x6 x7 x8 M = some (r, M9) → va_P D vwCl (WL cy T M R) H → va_D A (WL cy T M R) → va_S A s.heap H locs → ∀ ls : Array Slot, lv_has ls 14 [(0, .ref a0), (1, .int x1), (2, .int x2), (3, .long l3), (5, .int x5), (6, .int x6), (7, .int x7), (8, .int x8)] → W p l e rm_L_sound s m args below meth c H locs 0 0 (MQ below (QcI D cy T M9 R A r) args s 0 0 A) (F0 m 32 ls [])) :
    ∀ (x1 : Int32) (x2 : Int32) (l3 : Int64) (x5 : Int32) (x6 : Int32) (x7 : Int32) (x8 : Int32) (x9 : Int32) (x10 : Int32) (x11 : Int32) (x12 : Int32) (s0 : Int32) (s1 : Int32) (M : Mm) (H : Heap) (locs : List Loc), fs_L_sound_225 T R a0 j32 x1 x2 l3 x5 x6 x7 x8 x9 x10 x11 x12 s0 s1 M = some (r, M9) → va_P D vwCl (WL cy T M R) H → va_D A (WL cy T M R) → va_S A s.heap H locs → ∀ ls : Array Slot, lv_has ls 14 [(0, .ref a0), (1, .int x1), (2, .int x2), (3, .long l3), (5, .int x5), (6, .int x6), (7, .int x7), (8, .int x8), (9, .int x9), (10, .int x10), (11, .int x11), (12, .int x12)] → W p l e rm_L_sound s m args below meth c H locs 0 0 (MQ below (QcI D cy T M9 R A r) args s 0 0 A) (F0 m 225 ls [.int s1, .int s0]) := by
  intro x1 x2 l3 x5 x6 x7 x8 x9 x10 x11 x12 s0 s1 M H locs h hP hD hS ls hl
  unfold fs_L_sound_225 at h
  obtain ⟨hx, hb, hr, hml, hown, hts, hK, hA, hlk, hSt⟩ := id C
  refine lv_icmp_ne (tgt := 361) hx hb dL_sound_225 (by decide) (fun c_170 => ?_) (fun c_170 => ?_)
  · replace h := ite_f h c_170
    refine lv_iconst (v := 0) hx hb dL_sound_361 (by decide) ?_
    cases h
    exact rt_z C hP hD hS rfl dL_sound_362
  · replace h := ite_t h c_170
    refine lv_iload hx hb dL_sound_228 (lv_at hl 8 rfl) ?_
    refine lv_if_le (tgt := 264) hx hb dL_sound_230 (by decide) (fun c_171 => ?_) (fun c_171 => ?_)
    · replace h := ite_t h c_171
      exact (bs_L_sound_264 C hj32) _ _ _ _ _ _ _ _ _ _ _ _ _ h hP hD hS _ (lv_sub hl [0, 1, 2, 3, 4, 5, 6, 7, 8, 9, 11] rfl)
    · replace h := ite_f h c_171
      refine lv_aload_n hx hb dL_sound_233 rfl (lv_at hl 0 rfl) ?_
      refine lv_iload hx hb dL_sound_234 (lv_at hl 7 rfl) ?_
      refine lv_iconst (v := 5) hx hb dL_sound_236 (by decide) ?_
      obtain ⟨k_172, h⟩ := chk_some h
      obtain ⟨r_173, M_174, hc_175, h⟩ := cal_some h
      refine cl_Vi (As := [.int x8, .int (5 : Int32)]) (rest := []) C (ct_X6_bandInfo hc_175) k_172 (by decide) rfl wl_235 wl_236 wl_237 wl_2 wl_238 hd_X6_bandInfo ⟨Nat.le_of_ble_eq_true rfl, Nat.le_of_ble_eq_true rfl⟩ ⟨rfl, rfl⟩ ⟨Nat.zero_le _, Nat.zero_le _⟩ rfl (Nat.le_of_ble_eq_true rfl) rfl hl.1 hP hD hS dL_sound_237 (fun H locs hP hD hS => ?_)
      refine lv_aload_n hx hb dL_sound_240 rfl (lv_at hl 0 rfl) ?_
      refine lv_iload hx hb dL_sound_241 (lv_at hl 7 rfl) ?_
      refine lv_iconst (v := 0) hx hb dL_sound_243 (by decide) ?_
      refine lv_iconst (v := 0) hx hb dL_sound_244 (by decide) ?_
      obtain ⟨r_176, M_177, hc_178, h⟩ := cal_some h
      refine cl_Vi (As := [.int x8, .int (0 : Int32), .int (0 : Int32)]) (rest := [.int r_173]) C (ct_X6_layer hc_178) k_172 (by decide) rfl wl_263 wl_264 wl_265 wl_2 wl_266 hd_X6_layer ⟨Nat.le_of_ble_eq_true rfl, Nat.le_of_ble_eq_true rfl⟩ ⟨rfl, rfl⟩ ⟨Nat.zero_le _, Nat.zero_le _⟩ rfl (Nat.le_of_ble_eq_true rfl) rfl hl.1 hP hD hS dL_sound_245 (fun H locs hP hD hS => ?_)
      refine lv_icmp_ne (tgt := 361) hx hb dL_sound_248 (by decide) (fun c_179 => ?_) (fun c_179 => ?_)
      · replace h := ite_f h c_179
        refine lv_iconst (v := 0) hx hb dL_sound_361 (by decide) ?_
        cases h
        exact rt_z C hP hD hS rfl dL_sound_362
      · replace h := ite_t h c_179
        refine lv_aload_n hx hb dL_sound_251 rfl (lv_at hl 0 rfl) ?_
        refine lv_iload hx hb dL_sound_252 (lv_at hl 7 rfl) ?_
        refine lv_bipush (v := 6) hx hb dL_sound_254 (by decide) ?_
        obtain ⟨r_180, M_181, hc_182, h⟩ := cal_some h
        refine cl_Vi (As := [.int x8, .int (6 : Int32)]) (rest := []) C (ct_X6_bandInfo hc_182) k_172 (by decide) rfl wl_235 wl_236 wl_237 wl_2 wl_238 hd_X6_bandInfo ⟨Nat.le_of_ble_eq_true rfl, Nat.le_of_ble_eq_true rfl⟩ ⟨rfl, rfl⟩ ⟨Nat.zero_le _, Nat.zero_le _⟩ rfl (Nat.le_of_ble_eq_true rfl) rfl hl.1 hP hD hS dL_sound_256 (fun H locs hP hD hS => ?_)
        refine lv_iload hx hb dL_sound_259 (lv_at hl 10 rfl) ?_
        refine lv_icmp_ne (tgt := 361) hx hb dL_sound_261 (by decide) (fun c_183 => ?_) (fun c_183 => ?_)
        · replace h := ite_f h c_183
          refine lv_iconst (v := 0) hx hb dL_sound_361 (by decide) ?_
          cases h
          exact rt_z C hP hD hS rfl dL_sound_362
        · replace h := ite_t h c_183
          exact (bs_L_sound_264 C hj32) _ _ _ _ _ _ _ _ _ _ _ _ _ h hP hD hS _ (lv_sub hl [0, 1, 2, 3, 4, 5, 6, 7, 8, 9, 11] rfl)
set_option maxHeartbeats 4000000 in
set_option maxRecDepth 100000 in
theorem bs_L_sound_208 {p : Program} {l : Launch} {e : Env} {s : State} {m : MethodId} {args : Array Value} {below : List Frame} {meth : Method} {c : Code} {D : va_G} {cy : Cy} {A : Nat → Prop} {T : Ty} {R : Rm} {r : Int32} {M9 : Mm} {a0 : Nat} {j32 : Int32 → Int32 → Int64 → Int32 → Int32 → Int32 → Int32 → Mm → Option (Int32 × Mm)} (C : Cx RL cL_sound 14 (some .boolean) p s m args meth c D cy A)
    (hj32 : ∀ (x1 : Int32) (x2 : Int32) (l3 : Int64) (x5 : Int32) (x6 : Int32) (x7 : Int32) (x8 : Int32) (M : Mm) (H : Heap) (locs : List Loc), j32 x1 x2 l3 x5 x6 x7 x8 M = some (r, M9) → va_P D vwCl (WL cy T M R) H → va_D A (WL cy T M R) → va_S A s.heap H locs → ∀ ls : Array Slot, lv_has ls 14 [(0, .ref a0), (1, .int x1), (2, .int x2), (3, .long l3), (5, .int x5), (6, .int x6), (7, .int x7), (8, .int x8)] → W p l e rm_L_sound s m args below meth c H locs 0 0 (MQ below (QcI D cy T M9 R A r) args s 0 0 A) (F0 m 32 ls [])) :
    ∀ (x1 : Int32) (x2 : Int32) (l3 : Int64) (x5 : Int32) (x6 : Int32) (x7 : Int32) (x8 : Int32) (x9 : Int32) (x10 : Int32) (x11 : Int32) (x12 : Int32) (s0 : Int32) (M : Mm) (H : Heap) (locs : List Loc), fs_L_sound_208 T R a0 j32 x1 x2 l3 x5 x6 x7 x8 x9 x10 x11 x12 s0 M = some (r, M9) → va_P D vwCl (WL cy T M R) H → va_D A (WL cy T M R) → va_S A s.heap H locs → ∀ ls : Array Slot, lv_has ls 14 [(0, .ref a0), (1, .int x1), (2, .int x2), (3, .long l3), (5, .int x5), (6, .int x6), (7, .int x7), (8, .int x8), (9, .int x9), (10, .int x10), (11, .int x11), (12, .int x12)] → W p l e rm_L_sound s m args below meth c H locs 0 0 (MQ below (QcI D cy T M9 R A r) args s 0 0 A) (F0 m 208 ls [.int s0]) := by
  intro x1 x2 l3 x5 x6 x7 x8 x9 x10 x11 x12 s0 M H locs h hP hD hS ls hl
  unfold fs_L_sound_208 at h
  obtain ⟨hx, hb, hr, hml, hown, hts, hK, hA, hlk, hSt⟩ := id C
  refine lv_aload_n hx hb dL_sound_208 rfl (lv_at hl 0 rfl) ?_
  refine lv_iload hx hb dL_sound_209 (lv_at hl 7 rfl) ?_
  refine lv_iconst (v := 5) hx hb dL_sound_211 (by decide) ?_
  obtain ⟨k_184, h⟩ := chk_some h
  obtain ⟨r_185, M_186, hc_187, h⟩ := cal_some h
  refine cl_Vi (As := [.int x8, .int (5 : Int32)]) (rest := [.int s0]) C (ct_X6_bandInfo hc_187) k_184 (by decide) rfl wl_235 wl_236 wl_237 wl_2 wl_238 hd_X6_bandInfo ⟨Nat.le_of_ble_eq_true rfl, Nat.le_of_ble_eq_true rfl⟩ ⟨rfl, rfl⟩ ⟨Nat.zero_le _, Nat.zero_le _⟩ rfl (Nat.le_of_ble_eq_true rfl) rfl hl.1 hP hD hS dL_sound_212 (fun H locs hP hD hS => ?_)
  refine lv_ldc (own := RL) (v := -2000000004) hx hb hown (hts _ wl_4) dL_sound_215 ?_
  refine lv_icmp_ne (tgt := 224) hx hb dL_sound_217 (by decide) (fun c_188 => ?_) (fun c_188 => ?_)
  · replace h := ite_f h c_188
    refine lv_iconst (v := 0) hx hb dL_sound_224 (by decide) ?_
    exact (bs_L_sound_225 C hj32) _ _ _ _ _ _ _ _ _ _ _ _ _ _ _ _ h hP hD hS _ (lv_sub hl [0, 1, 2, 3, 4, 5, 6, 7, 8, 9, 10, 11] rfl)
  · replace h := ite_t h c_188
    refine lv_iconst (v := 1) hx hb dL_sound_220 (by decide) ?_
    refine lv_goto (tgt := 225) hx hb dL_sound_221 (by decide) ?_
    exact (bs_L_sound_225 C hj32) _ _ _ _ _ _ _ _ _ _ _ _ _ _ _ _ h hP hD hS _ (lv_sub hl [0, 1, 2, 3, 4, 5, 6, 7, 8, 9, 10, 11] rfl)
set_option maxHeartbeats 4000000 in
set_option maxRecDepth 100000 in
theorem bs_L_sound_170 {p : Program} {l : Launch} {e : Env} {s : State} {m : MethodId} {args : Array Value} {below : List Frame} {meth : Method} {c : Code} {D : va_G} {cy : Cy} {A : Nat → Prop} {T : Ty} {R : Rm} {r : Int32} {M9 : Mm} {a0 : Nat} {j32 : Int32 → Int32 → Int64 → Int32 → Int32 → Int32 → Int32 → Mm → Option (Int32 × Mm)} (C : Cx RL cL_sound 14 (some .boolean) p s m args meth c D cy A)
    (hj32 : ∀ (x1 : Int32) (x2 : Int32) (l3 : Int64) (x5 : Int32) (x6 : Int32) (x7 : Int32) (x8 : Int32) (M : Mm) (H : Heap) (locs : List Loc), j32 x1 x2 l3 x5 x6 x7 x8 M = some (r, M9) → va_P D vwCl (WL cy T M R) H → va_D A (WL cy T M R) → va_S A s.heap H locs → ∀ ls : Array Slot, lv_has ls 14 [(0, .ref a0), (1, .int x1), (2, .int x2), (3, .long l3), (5, .int x5), (6, .int x6), (7, .int x7), (8, .int x8)] → W p l e rm_L_sound s m args below meth c H locs 0 0 (MQ below (QcI D cy T M9 R A r) args s 0 0 A) (F0 m 32 ls [])) :
    ∀ (x1 : Int32) (x2 : Int32) (l3 : Int64) (x5 : Int32) (x6 : Int32) (x8 : Int32) (x9 : Int32) (x10 : Int32) (x11 : Int32) (x12 : Int32) (s0 : Int32) (M : Mm) (H : Heap) (locs : List Loc), fs_L_sound_170 T R a0 j32 x1 x2 l3 x5 x6 x8 x9 x10 x11 x12 s0 M = some (r, M9) → va_P D vwCl (WL cy T M R) H → va_D A (WL cy T M R) → va_S A s.heap H locs → ∀ ls : Array Slot, lv_has ls 14 [(0, .ref a0), (1, .int x1), (2, .int x2), (3, .long l3), (5, .int x5), (6, .int x6), (8, .int x8), (9, .int x9), (10, .int x10), (11, .int x11), (12, .int x12)] → W p l e rm_L_sound s m args below meth c H locs 0 0 (MQ below (QcI D cy T M9 R A r) args s 0 0 A) (F0 m 170 ls [.int s0]) := by
  intro x1 x2 l3 x5 x6 x8 x9 x10 x11 x12 s0 M H locs h hP hD hS ls hl
  unfold fs_L_sound_170 at h
  obtain ⟨hx, hb, hr, hml, hown, hts, hK, hA, hlk, hSt⟩ := id C
  refine lv_istore (lv' := [(7, .int s0), (0, .ref a0), (1, .int x1), (2, .int x2), (3, .long l3), (5, .int x5), (6, .int x6), (8, .int x8), (9, .int x9), (10, .int x10), (11, .int x11), (12, .int x12)]) hx hb dL_sound_170 hl (by decide) rfl (fun ls hl => ?_)
  refine lv_iload hx hb dL_sound_172 (lv_at hl 9 rfl) ?_
  refine lv_aload_n hx hb dL_sound_174 rfl (lv_at hl 1 rfl) ?_
  refine lv_iload hx hb dL_sound_175 (lv_at hl 7 rfl) ?_
  refine lv_iconst (v := 3) hx hb dL_sound_177 (by decide) ?_
  obtain ⟨k_189, h⟩ := chk_some h
  obtain ⟨r_190, M_191, hc_192, h⟩ := cal_some h
  refine cl_Vi (As := [.int x8, .int (3 : Int32)]) (rest := [.int x10]) C (ct_X6_bandInfo hc_192) k_189 (by decide) rfl wl_235 wl_236 wl_237 wl_2 wl_238 hd_X6_bandInfo ⟨Nat.le_of_ble_eq_true rfl, Nat.le_of_ble_eq_true rfl⟩ ⟨rfl, rfl⟩ ⟨Nat.zero_le _, Nat.zero_le _⟩ rfl (Nat.le_of_ble_eq_true rfl) rfl hl.1 hP hD hS dL_sound_178 (fun H locs hP hD hS => ?_)
  refine lv_icmp_ne (tgt := 361) hx hb dL_sound_181 (by decide) (fun c_193 => ?_) (fun c_193 => ?_)
  · replace h := ite_f h c_193
    refine lv_iconst (v := 0) hx hb dL_sound_361 (by decide) ?_
    cases h
    exact rt_z C hP hD hS rfl dL_sound_362
  · replace h := ite_t h c_193
    refine lv_aload_n hx hb dL_sound_184 rfl (lv_at hl 1 rfl) ?_
    refine lv_iload hx hb dL_sound_185 (lv_at hl 7 rfl) ?_
    refine lv_iload hx hb dL_sound_187 (lv_at hl 8 rfl) ?_
    refine lv_iconst (v := 0) hx hb dL_sound_189 (by decide) ?_
    obtain ⟨r_194, M_195, hc_196, h⟩ := cal_some h
    refine cl_Vi (As := [.int x8, .int x9, .int (0 : Int32)]) (rest := []) C (ct_X6_layer hc_196) k_189 (by decide) rfl wl_263 wl_264 wl_265 wl_2 wl_266 hd_X6_layer ⟨Nat.le_of_ble_eq_true rfl, Nat.le_of_ble_eq_true rfl⟩ ⟨rfl, rfl⟩ ⟨Nat.zero_le _, Nat.zero_le _⟩ rfl (Nat.le_of_ble_eq_true rfl) rfl hl.1 hP hD hS dL_sound_190 (fun H locs hP hD hS => ?_)
    refine lv_ldc (own := RL) (v := -2000000004) hx hb hown (hts _ wl_4) dL_sound_193 ?_
    refine lv_icmp_ne (tgt := 361) hx hb dL_sound_195 (by decide) (fun c_197 => ?_) (fun c_197 => ?_)
    · replace h := ite_f h c_197
      refine lv_iconst (v := 0) hx hb dL_sound_361 (by decide) ?_
      cases h
      exact rt_z C hP hD hS rfl dL_sound_362
    · replace h := ite_t h c_197
      refine lv_iload hx hb dL_sound_198 (lv_at hl 8 rfl) ?_
      refine lv_if_ne (tgt := 207) hx hb dL_sound_200 (by decide) (fun c_198 => ?_) (fun c_198 => ?_)
      · replace h := ite_f h c_198
        refine lv_iconst (v := 0) hx hb dL_sound_207 (by decide) ?_
        exact (bs_L_sound_208 C hj32) _ _ _ _ _ _ _ _ _ _ _ _ _ _ _ h hP hD hS _ (lv_sub hl [1, 2, 3, 4, 5, 6, 0, 7, 8, 9, 10, 11] rfl)
      · replace h := ite_t h c_198
        refine lv_iconst (v := 1) hx hb dL_sound_203 (by decide) ?_
        refine lv_goto (tgt := 208) hx hb dL_sound_204 (by decide) ?_
        exact (bs_L_sound_208 C hj32) _ _ _ _ _ _ _ _ _ _ _ _ _ _ _ h hP hD hS _ (lv_sub hl [1, 2, 3, 4, 5, 6, 0, 7, 8, 9, 10, 11] rfl)
set_option maxHeartbeats 4000000 in
set_option maxRecDepth 100000 in
theorem bs_L_sound_56 {p : Program} {l : Launch} {e : Env} {s : State} {m : MethodId} {args : Array Value} {below : List Frame} {meth : Method} {c : Code} {D : va_G} {cy : Cy} {A : Nat → Prop} {T : Ty} {R : Rm} {r : Int32} {M9 : Mm} {a0 : Nat} {j56 : Int32 → Int32 → Int64 → Int32 → Int32 → Int32 → Int32 → Int32 → Int32 → Int32 → Int32 → Mm → Option (Int32 × Mm)} {j170 : Int32 → Int32 → Int64 → Int32 → Int32 → Int32 → Int32 → Int32 → Int32 → Int32 → Int32 → Mm → Option (Int32 × Mm)} (C : Cx RL cL_sound 14 (some .boolean) p s m args meth c D cy A)
    (hj56 : ∀ (x1 : Int32) (x2 : Int32) (l3 : Int64) (x5 : Int32) (x6 : Int32) (x7 : Int32) (x8 : Int32) (x9 : Int32) (x10 : Int32) (x11 : Int32) (x12 : Int32) (M : Mm) (H : Heap) (locs : List Loc), j56 x1 x2 l3 x5 x6 x7 x8 x9 x10 x11 x12 M = some (r, M9) → va_P D vwCl (WL cy T M R) H → va_D A (WL cy T M R) → va_S A s.heap H locs → ∀ ls : Array Slot, lv_has ls 14 [(0, .ref a0), (1, .int x1), (2, .int x2), (3, .long l3), (5, .int x5), (6, .int x6), (7, .int x7), (8, .int x8), (9, .int x9), (10, .int x10), (11, .int x11), (12, .int x12)] → W p l e rm_L_sound s m args below meth c H locs 0 0 (MQ below (QcI D cy T M9 R A r) args s 0 0 A) (F0 m 56 ls []))
    (hj170 : ∀ (x1 : Int32) (x2 : Int32) (l3 : Int64) (x5 : Int32) (x6 : Int32) (x8 : Int32) (x9 : Int32) (x10 : Int32) (x11 : Int32) (x12 : Int32) (s0 : Int32) (M : Mm) (H : Heap) (locs : List Loc), j170 x1 x2 l3 x5 x6 x8 x9 x10 x11 x12 s0 M = some (r, M9) → va_P D vwCl (WL cy T M R) H → va_D A (WL cy T M R) → va_S A s.heap H locs → ∀ ls : Array Slot, lv_has ls 14 [(0, .ref a0), (1, .int x1), (2, .int x2), (3, .long l3), (5, .int x5), (6, .int x6), (8, .int x8), (9, .int x9), (10, .int x10), (11, .int x11), (12, .int x12)] → W p l e rm_L_sound s m args below meth c H locs 0 0 (MQ below (QcI D cy T M9 R A r) args s 0 0 A) (F0 m 170 ls [.int s0])) :
    ∀ (x1 : Int32) (x2 : Int32) (l3 : Int64) (x5 : Int32) (x6 : Int32) (x7 : Int32) (x8 : Int32) (x9 : Int32) (x10 : Int32) (x11 : Int32) (x12 : Int32) (M : Mm) (H : Heap) (locs : List Loc), fs_L_sound_56 T R a0 j56 j170 x1 x2 l3 x5 x6 x7 x8 x9 x10 x11 x12 M = some (r, M9) → va_P D vwCl (WL cy T M R) H → va_D A (WL cy T M R) → va_S A s.heap H locs → ∀ ls : Array Slot, lv_has ls 14 [(0, .ref a0), (1, .int x1), (2, .int x2), (3, .long l3), (5, .int x5), (6, .int x6), (7, .int x7), (8, .int x8), (9, .int x9), (10, .int x10), (11, .int x11), (12, .int x12)] → W p l e rm_L_sound s m args below meth c H locs 0 0 (MQ below (QcI D cy T M9 R A r) args s 0 0 A) (F0 m 56 ls []) := by
  intro x1 x2 l3 x5 x6 x7 x8 x9 x10 x11 x12 M H locs h hP hD hS ls hl
  unfold fs_L_sound_56 at h
  obtain ⟨hx, hb, hr, hml, hown, hts, hK, hA, hlk, hSt⟩ := id C
  refine lv_iload hx hb dL_sound_56 (lv_at hl 11 rfl) ?_
  refine lv_iload hx hb dL_sound_58 (lv_at hl 8 rfl) ?_
  refine lv_icmp_ge (tgt := 136) hx hb dL_sound_60 (by decide) (fun c_199 => ?_) (fun c_199 => ?_)
  · replace h := ite_t h c_199
    refine lv_aload_n hx hb dL_sound_136 rfl (lv_at hl 0 rfl) ?_
    refine lv_iload hx hb dL_sound_137 (lv_at hl 7 rfl) ?_
    obtain ⟨k_200, h⟩ := chk_some h
    obtain ⟨r_201, M_202, hc_203, h⟩ := cal_some h
    refine cl_Vi (As := [.int x8]) (rest := []) C (ct_X6_stakesIn hc_203) k_200 (by decide) rfl wl_351 wl_352 wl_353 wl_2 wl_354 hd_X6_stakesIn ⟨Nat.le_of_ble_eq_true rfl, Nat.le_of_ble_eq_true rfl⟩ ⟨rfl, rfl⟩ ⟨Nat.zero_le _, Nat.zero_le _⟩ rfl (Nat.le_of_ble_eq_true rfl) rfl hl.1 hP hD hS dL_sound_139 (fun H locs hP hD hS => ?_)
    refine lv_istore (lv' := [(12, .int r_201), (0, .ref a0), (1, .int x1), (2, .int x2), (3, .long l3), (5, .int x5), (6, .int x6), (7, .int x7), (8, .int x8), (9, .int x9), (10, .int x10), (11, .int x11)]) hx hb dL_sound_142 hl (by decide) rfl (fun ls hl => ?_)
    refine lv_aload_n hx hb dL_sound_144 rfl (lv_at hl 1 rfl) ?_
    refine lv_iload hx hb dL_sound_145 (lv_at hl 8 rfl) ?_
    refine lv_bipush (v := 7) hx hb dL_sound_147 (by decide) ?_
    obtain ⟨r_204, M_205, hc_206, h⟩ := cal_some h
    refine cl_Vi (As := [.int x8, .int (7 : Int32)]) (rest := []) C (ct_X6_bandInfo hc_206) k_200 (by decide) rfl wl_235 wl_236 wl_237 wl_2 wl_238 hd_X6_bandInfo ⟨Nat.le_of_ble_eq_true rfl, Nat.le_of_ble_eq_true rfl⟩ ⟨rfl, rfl⟩ ⟨Nat.zero_le _, Nat.zero_le _⟩ rfl (Nat.le_of_ble_eq_true rfl) rfl hl.1 hP hD hS dL_sound_149 (fun H locs hP hD hS => ?_)
    refine lv_aload_n hx hb dL_sound_152 rfl (lv_at hl 1 rfl) ?_
    refine lv_iload hx hb dL_sound_153 (lv_at hl 8 rfl) ?_
    refine lv_bipush (v := 8) hx hb dL_sound_155 (by decide) ?_
    obtain ⟨r_207, M_208, hc_209, h⟩ := cal_some h
    refine cl_Vi (As := [.int x8, .int (8 : Int32)]) (rest := [.int r_204]) C (ct_X6_bandInfo hc_209) k_200 (by decide) rfl wl_235 wl_236 wl_237 wl_2 wl_238 hd_X6_bandInfo ⟨Nat.le_of_ble_eq_true rfl, Nat.le_of_ble_eq_true rfl⟩ ⟨rfl, rfl⟩ ⟨Nat.zero_le _, Nat.zero_le _⟩ rfl (Nat.le_of_ble_eq_true rfl) rfl hl.1 hP hD hS dL_sound_157 (fun H locs hP hD hS => ?_)
    refine lv_icmp_lt (tgt := 168) hx hb dL_sound_160 (by decide) (fun c_210 => ?_) (fun c_210 => ?_)
    · replace h := ite_t h c_210
      refine lv_iload hx hb dL_sound_168 (lv_at hl 7 rfl) ?_
      exact hj170 _ _ _ _ _ _ _ _ _ _ _ _ _ _ h hP hD hS _ (lv_sub hl [1, 2, 3, 4, 5, 6, 8, 9, 10, 11, 0] rfl)
    · replace h := ite_f h c_210
      refine lv_iload hx hb dL_sound_163 (lv_at hl 8 rfl) ?_
      refine lv_goto (tgt := 170) hx hb dL_sound_165 (by decide) ?_
      exact hj170 _ _ _ _ _ _ _ _ _ _ _ _ _ _ h hP hD hS _ (lv_sub hl [1, 2, 3, 4, 5, 6, 8, 9, 10, 11, 0] rfl)
  · replace h := ite_f h c_199
    refine lv_aload_n hx hb dL_sound_63 rfl (lv_at hl 0 rfl) ?_
    refine lv_iload hx hb dL_sound_64 (lv_at hl 7 rfl) ?_
    refine lv_iload hx hb dL_sound_66 (lv_at hl 11 rfl) ?_
    refine lv_iconst (v := 0) hx hb dL_sound_68 (by decide) ?_
    obtain ⟨k_211, h⟩ := chk_some h
    obtain ⟨r_212, M_213, hc_214, h⟩ := cal_some h
    refine cl_Vi (As := [.int x8, .int x12, .int (0 : Int32)]) (rest := []) C (ct_X6_layer hc_214) k_211 (by decide) rfl wl_263 wl_264 wl_265 wl_2 wl_266 hd_X6_layer ⟨Nat.le_of_ble_eq_true rfl, Nat.le_of_ble_eq_true rfl⟩ ⟨rfl, rfl⟩ ⟨Nat.zero_le _, Nat.zero_le _⟩ rfl (Nat.le_of_ble_eq_true rfl) rfl hl.1 hP hD hS dL_sound_69 (fun H locs hP hD hS => ?_)
    refine lv_iload hx hb dL_sound_72 (lv_at hl 10 rfl) ?_
    refine lv_icmp_le (tgt := 103) hx hb dL_sound_74 (by decide) (fun c_215 => ?_) (fun c_215 => ?_)
    · replace h := ite_t h c_215
      refine lv_iconst (v := 0) hx hb dL_sound_103 (by decide) ?_
      cases h
      exact rt_z C hP hD hS rfl dL_sound_104
    · replace h := ite_f h c_215
      refine lv_aload_n hx hb dL_sound_77 rfl (lv_at hl 0 rfl) ?_
      refine lv_iload hx hb dL_sound_78 (lv_at hl 7 rfl) ?_
      refine lv_iload hx hb dL_sound_80 (lv_at hl 11 rfl) ?_
      refine lv_iconst (v := 1) hx hb dL_sound_82 (by decide) ?_
      obtain ⟨r_216, M_217, hc_218, h⟩ := cal_some h
      refine cl_Vi (As := [.int x8, .int x12, .int (1 : Int32)]) (rest := []) C (ct_X6_layer hc_218) k_211 (by decide) rfl wl_263 wl_264 wl_265 wl_2 wl_266 hd_X6_layer ⟨Nat.le_of_ble_eq_true rfl, Nat.le_of_ble_eq_true rfl⟩ ⟨rfl, rfl⟩ ⟨Nat.zero_le _, Nat.zero_le _⟩ rfl (Nat.le_of_ble_eq_true rfl) rfl hl.1 hP hD hS dL_sound_83 (fun H locs hP hD hS => ?_)
      refine lv_iconst (v := 1) hx hb dL_sound_86 (by decide) ?_
      refine lv_icmp_lt (tgt := 103) hx hb dL_sound_87 (by decide) (fun c_219 => ?_) (fun c_219 => ?_)
      · replace h := ite_t h c_219
        refine lv_iconst (v := 0) hx hb dL_sound_103 (by decide) ?_
        cases h
        exact rt_z C hP hD hS rfl dL_sound_104
      · replace h := ite_f h c_219
        refine lv_aload_n hx hb dL_sound_90 rfl (lv_at hl 0 rfl) ?_
        refine lv_iload hx hb dL_sound_91 (lv_at hl 7 rfl) ?_
        refine lv_iload hx hb dL_sound_93 (lv_at hl 11 rfl) ?_
        refine lv_iconst (v := 0) hx hb dL_sound_95 (by decide) ?_
        obtain ⟨r_220, M_221, hc_222, h⟩ := cal_some h
        refine cl_Vi (As := [.int x8, .int x12, .int (0 : Int32)]) (rest := []) C (ct_X6_layer hc_222) k_211 (by decide) rfl wl_263 wl_264 wl_265 wl_2 wl_266 hd_X6_layer ⟨Nat.le_of_ble_eq_true rfl, Nat.le_of_ble_eq_true rfl⟩ ⟨rfl, rfl⟩ ⟨Nat.zero_le _, Nat.zero_le _⟩ rfl (Nat.le_of_ble_eq_true rfl) rfl hl.1 hP hD hS dL_sound_96 (fun H locs hP hD hS => ?_)
        refine lv_iload_n hx hb dL_sound_99 rfl (lv_at hl 2 rfl) ?_
        refine lv_icmp_le (tgt := 105) hx hb dL_sound_100 (by decide) (fun c_223 => ?_) (fun c_223 => ?_)
        · replace h := ite_t h c_223
          refine lv_aload_n hx hb dL_sound_105 rfl (lv_at hl 0 rfl) ?_
          refine lv_iload hx hb dL_sound_106 (lv_at hl 7 rfl) ?_
          refine lv_iload hx hb dL_sound_108 (lv_at hl 11 rfl) ?_
          refine lv_iconst (v := 0) hx hb dL_sound_110 (by decide) ?_
          obtain ⟨r_224, M_225, hc_226, h⟩ := cal_some h
          refine cl_Vi (As := [.int x8, .int x12, .int (0 : Int32)]) (rest := []) C (ct_X6_layer hc_226) k_211 (by decide) rfl wl_263 wl_264 wl_265 wl_2 wl_266 hd_X6_layer ⟨Nat.le_of_ble_eq_true rfl, Nat.le_of_ble_eq_true rfl⟩ ⟨rfl, rfl⟩ ⟨Nat.zero_le _, Nat.zero_le _⟩ rfl (Nat.le_of_ble_eq_true rfl) rfl hl.1 hP hD hS dL_sound_111 (fun H locs hP hD hS => ?_)
          refine lv_istore (lv' := [(11, .int r_224), (0, .ref a0), (1, .int x1), (2, .int x2), (3, .long l3), (5, .int x5), (6, .int x6), (7, .int x7), (8, .int x8), (9, .int x9), (10, .int x10), (12, .int x12)]) hx hb dL_sound_114 hl (by decide) rfl (fun ls hl => ?_)
          refine lv_iload hx hb dL_sound_116 (lv_at hl 10 rfl) ?_
          refine lv_aload_n hx hb dL_sound_118 rfl (lv_at hl 1 rfl) ?_
          refine lv_iload hx hb dL_sound_119 (lv_at hl 8 rfl) ?_
          refine lv_iload hx hb dL_sound_121 (lv_at hl 11 rfl) ?_
          refine lv_iconst (v := 1) hx hb dL_sound_123 (by decide) ?_
          obtain ⟨r_227, M_228, hc_229, h⟩ := cal_some h
          refine cl_Vi (As := [.int x8, .int x12, .int (1 : Int32)]) (rest := [.int x10]) C (ct_X6_layer hc_229) k_211 (by decide) rfl wl_263 wl_264 wl_265 wl_2 wl_266 hd_X6_layer ⟨Nat.le_of_ble_eq_true rfl, Nat.le_of_ble_eq_true rfl⟩ ⟨rfl, rfl⟩ ⟨Nat.zero_le _, Nat.zero_le _⟩ rfl (Nat.le_of_ble_eq_true rfl) rfl hl.1 hP hD hS dL_sound_124 (fun H locs hP hD hS => ?_)
          refine lv_iadd hx hb dL_sound_127 ?_
          refine lv_topi (fun v_230 ev_230 => ?_)
          replace h := bnd_at h ev_230
          refine lv_istore (lv' := [(10, .int v_230), (11, .int r_224), (0, .ref a0), (1, .int x1), (2, .int x2), (3, .long l3), (5, .int x5), (6, .int x6), (7, .int x7), (8, .int x8), (9, .int x9), (12, .int x12)]) hx hb dL_sound_128 hl (by decide) rfl (fun ls hl => ?_)
          obtain ⟨v_231, ev_231⟩ : ∃ y : Int32, y = (x12 + (1 : Int32)) := ⟨_, rfl⟩
          replace h := bnd_at h ev_231
          refine lv_iinc (v := v_231) (lv' := [(12, .int v_231), (10, .int v_230), (11, .int r_224), (0, .ref a0), (1, .int x1), (2, .int x2), (3, .long l3), (5, .int x5), (6, .int x6), (7, .int x7), (8, .int x8), (9, .int x9)]) hx hb dL_sound_130 hl (k := 11) rfl (by rw [ev_231]; rfl) (by decide) rfl (fun ls hl => ?_)
          refine lv_goto (tgt := 56) hx hb dL_sound_133 (by decide) ?_
          exact hj56 _ _ _ _ _ _ _ _ _ _ _ _ _ _ h hP hD hS _ (lv_sub hl [3, 4, 5, 6, 7, 8, 9, 10, 11, 1, 2, 0] rfl)
        · replace h := ite_f h c_223
          refine lv_iconst (v := 0) hx hb dL_sound_103 (by decide) ?_
          cases h
          exact rt_z C hP hD hS rfl dL_sound_104
theorem bt_L_sound_56 {p : Program} {l : Launch} {e : Env} {s : State} {m : MethodId} {args : Array Value} {below : List Frame} {meth : Method} {c : Code} {D : va_G} {cy : Cy} {A : Nat → Prop} {T : Ty} {R : Rm} {r : Int32} {M9 : Mm} {a0 : Nat} {j170 : Int32 → Int32 → Int64 → Int32 → Int32 → Int32 → Int32 → Int32 → Int32 → Int32 → Int32 → Mm → Option (Int32 × Mm)} (C : Cx RL cL_sound 14 (some .boolean) p s m args meth c D cy A)
    (hj170 : ∀ (x1 : Int32) (x2 : Int32) (l3 : Int64) (x5 : Int32) (x6 : Int32) (x8 : Int32) (x9 : Int32) (x10 : Int32) (x11 : Int32) (x12 : Int32) (s0 : Int32) (M : Mm) (H : Heap) (locs : List Loc), j170 x1 x2 l3 x5 x6 x8 x9 x10 x11 x12 s0 M = some (r, M9) → va_P D vwCl (WL cy T M R) H → va_D A (WL cy T M R) → va_S A s.heap H locs → ∀ ls : Array Slot, lv_has ls 14 [(0, .ref a0), (1, .int x1), (2, .int x2), (3, .long l3), (5, .int x5), (6, .int x6), (8, .int x8), (9, .int x9), (10, .int x10), (11, .int x11), (12, .int x12)] → W p l e rm_L_sound s m args below meth c H locs 0 0 (MQ below (QcI D cy T M9 R A r) args s 0 0 A) (F0 m 170 ls [.int s0])) :
    ∀ n : Nat, ∀ (x1 : Int32) (x2 : Int32) (l3 : Int64) (x5 : Int32) (x6 : Int32) (x7 : Int32) (x8 : Int32) (x9 : Int32) (x10 : Int32) (x11 : Int32) (x12 : Int32) (M : Mm) (H : Heap) (locs : List Loc), fb_L_sound_56 T R a0 j170 n x1 x2 l3 x5 x6 x7 x8 x9 x10 x11 x12 M = some (r, M9) → va_P D vwCl (WL cy T M R) H → va_D A (WL cy T M R) → va_S A s.heap H locs → ∀ ls : Array Slot, lv_has ls 14 [(0, .ref a0), (1, .int x1), (2, .int x2), (3, .long l3), (5, .int x5), (6, .int x6), (7, .int x7), (8, .int x8), (9, .int x9), (10, .int x10), (11, .int x11), (12, .int x12)] → W p l e rm_L_sound s m args below meth c H locs 0 0 (MQ below (QcI D cy T M9 R A r) args s 0 0 A) (F0 m 56 ls []) := by
  intro n
  induction n with
  | zero =>
    intro _ _ _ _ _ _ _ _ _ _ _ _ H locs h
    exact absurd (show (none : Option (Int32 × Mm)) = some _ from h) (by simp)
  | succ n ih => exact fun u0 u1 u2 u3 u4 u5 u6 u7 u8 u9 u10 u11 H locs h => bs_L_sound_56 (a0 := a0) C ih hj170 u0 u1 u2 u3 u4 u5 u6 u7 u8 u9 u10 u11 H locs h
set_option maxHeartbeats 4000000 in
set_option maxRecDepth 100000 in
theorem bs_L_sound_32 {p : Program} {l : Launch} {e : Env} {s : State} {m : MethodId} {args : Array Value} {below : List Frame} {meth : Method} {c : Code} {D : va_G} {cy : Cy} {A : Nat → Prop} {T : Ty} {R : Rm} {r : Int32} {M9 : Mm} {a0 : Nat} {j32 : Int32 → Int32 → Int64 → Int32 → Int32 → Int32 → Int32 → Mm → Option (Int32 × Mm)} {j403 : Int32 → Int64 → Int32 → Int32 → Int32 → Int32 → Int64 → Int32 → Mm → Option (Int32 × Mm)} (C : Cx RL cL_sound 14 (some .boolean) p s m args meth c D cy A)
    (hj32 : ∀ (x1 : Int32) (x2 : Int32) (l3 : Int64) (x5 : Int32) (x6 : Int32) (x7 : Int32) (x8 : Int32) (M : Mm) (H : Heap) (locs : List Loc), j32 x1 x2 l3 x5 x6 x7 x8 M = some (r, M9) → va_P D vwCl (WL cy T M R) H → va_D A (WL cy T M R) → va_S A s.heap H locs → ∀ ls : Array Slot, lv_has ls 14 [(0, .ref a0), (1, .int x1), (2, .int x2), (3, .long l3), (5, .int x5), (6, .int x6), (7, .int x7), (8, .int x8)] → W p l e rm_L_sound s m args below meth c H locs 0 0 (MQ below (QcI D cy T M9 R A r) args s 0 0 A) (F0 m 32 ls []))
    (hj403 : ∀ (x2 : Int32) (l3 : Int64) (x5 : Int32) (x6 : Int32) (x7 : Int32) (x8 : Int32) (l9 : Int64) (x11 : Int32) (M : Mm) (H : Heap) (locs : List Loc), j403 x2 l3 x5 x6 x7 x8 l9 x11 M = some (r, M9) → va_P D vwCl (WL cy T M R) H → va_D A (WL cy T M R) → va_S A s.heap H locs → ∀ ls : Array Slot, lv_has ls 14 [(0, .ref a0), (2, .int x2), (3, .long l3), (5, .int x5), (6, .int x6), (7, .int x7), (8, .int x8), (9, .long l9), (11, .int x11)] → W p l e rm_L_sound s m args below meth c H locs 0 0 (MQ below (QcI D cy T M9 R A r) args s 0 0 A) (F0 m 403 ls [])) :
    ∀ (x1 : Int32) (x2 : Int32) (l3 : Int64) (x5 : Int32) (x6 : Int32) (x7 : Int32) (x8 : Int32) (M : Mm) (H : Heap) (locs : List Loc), fs_L_sound_32 T R a0 j32 j403 x1 x2 l3 x5 x6 x7 x8 M = some (r, M9) → va_P D vwCl (WL cy T M R) H → va_D A (WL cy T M R) → va_S A s.heap H locs → ∀ ls : Array Slot, lv_has ls 14 [(0, .ref a0), (1, .int x1), (2, .int x2), (3, .long l3), (5, .int x5), (6, .int x6), (7, .int x7), (8, .int x8)] → W p l e rm_L_sound s m args below meth c H locs 0 0 (MQ below (QcI D cy T M9 R A r) args s 0 0 A) (F0 m 32 ls []) := by
  intro x1 x2 l3 x5 x6 x7 x8 M H locs h hP hD hS ls hl
  unfold fs_L_sound_32 at h
  obtain ⟨hx, hb, hr, hml, hown, hts, hK, hA, hlk, hSt⟩ := id C
  refine lv_iload hx hb dL_sound_32 (lv_at hl 7 rfl) ?_
  refine lv_iload_n hx hb dL_sound_34 rfl (lv_at hl 1 rfl) ?_
  refine lv_icmp_ge (tgt := 389) hx hb dL_sound_35 (by decide) (fun c_232 => ?_) (fun c_232 => ?_)
  · replace h := ite_t h c_232
    refine lv_iconst (v := 0) hx hb dL_sound_389 (by decide) ?_
    refine lv_istore (lv' := [(8, .int (0 : Int32)), (0, .ref a0), (1, .int x1), (2, .int x2), (3, .long l3), (5, .int x5), (6, .int x6), (7, .int x7)]) hx hb dL_sound_390 hl (by decide) rfl (fun ls hl => ?_)
    refine lv_aload_n hx hb dL_sound_392 rfl (lv_at hl 1 rfl) ?_
    refine lv_iconst (v := 0) hx hb dL_sound_393 (by decide) ?_
    obtain ⟨k_233, h⟩ := chk_some h
    obtain ⟨r_234, M_235, hc_236, h⟩ := cal_some h
    refine cl_Vi (As := [.int (0 : Int32)]) (rest := []) C (ct_X6_front hc_236) k_233 (by decide) rfl wl_277 wl_278 wl_279 wl_2 wl_280 hd_X6_front ⟨Nat.le_of_ble_eq_true rfl, Nat.le_of_ble_eq_true rfl⟩ ⟨rfl, rfl⟩ ⟨Nat.zero_le _, Nat.zero_le _⟩ rfl (Nat.le_of_ble_eq_true rfl) rfl hl.1 hP hD hS dL_sound_394 (fun H locs hP hD hS => ?_)
    refine lv_i2l hx hb dL_sound_397 rfl ?_
    refine lv_topl (fun v_237 ev_237 => ?_)
    replace h := bnd_at h ev_237
    refine lv_lstore (lv' := [(9, .long v_237), (8, .int (0 : Int32)), (0, .ref a0), (1, .int x1), (2, .int x2), (3, .long l3), (5, .int x5), (6, .int x6), (7, .int x7)]) hx hb dL_sound_398 hl (by decide) rfl (fun ls hl => ?_)
    refine lv_iconst (v := 0) hx hb dL_sound_400 (by decide) ?_
    refine lv_istore (lv' := [(11, .int (0 : Int32)), (9, .long v_237), (8, .int (0 : Int32)), (0, .ref a0), (1, .int x1), (2, .int x2), (3, .long l3), (5, .int x5), (6, .int x6), (7, .int x7)]) hx hb dL_sound_401 hl (by decide) rfl (fun ls hl => ?_)
    exact hj403 _ _ _ _ _ _ _ _ _ _ _ h hP hD hS _ (lv_sub hl [3, 5, 6, 7, 8, 9, 2, 1, 0] rfl)
  · replace h := ite_f h c_232
    refine lv_aload_n hx hb dL_sound_38 rfl (lv_at hl 0 rfl) ?_
    refine lv_iload hx hb dL_sound_39 (lv_at hl 7 rfl) ?_
    refine lv_iconst (v := 4) hx hb dL_sound_41 (by decide) ?_
    obtain ⟨k_238, h⟩ := chk_some h
    obtain ⟨r_239, M_240, hc_241, h⟩ := cal_some h
    refine cl_Vi (As := [.int x8, .int (4 : Int32)]) (rest := []) C (ct_X6_bandInfo hc_241) k_238 (by decide) rfl wl_235 wl_236 wl_237 wl_2 wl_238 hd_X6_bandInfo ⟨Nat.le_of_ble_eq_true rfl, Nat.le_of_ble_eq_true rfl⟩ ⟨rfl, rfl⟩ ⟨Nat.zero_le _, Nat.zero_le _⟩ rfl (Nat.le_of_ble_eq_true rfl) rfl hl.1 hP hD hS dL_sound_42 (fun H locs hP hD hS => ?_)
    refine lv_istore (lv' := [(9, .int r_239), (0, .ref a0), (1, .int x1), (2, .int x2), (3, .long l3), (5, .int x5), (6, .int x6), (7, .int x7), (8, .int x8)]) hx hb dL_sound_45 hl (by decide) rfl (fun ls hl => ?_)
    refine lv_iconst (v := 0) hx hb dL_sound_47 (by decide) ?_
    refine lv_istore (lv' := [(10, .int (0 : Int32)), (9, .int r_239), (0, .ref a0), (1, .int x1), (2, .int x2), (3, .long l3), (5, .int x5), (6, .int x6), (7, .int x7), (8, .int x8)]) hx hb dL_sound_48 hl (by decide) rfl (fun ls hl => ?_)
    refine lv_iconst (v := -1) hx hb dL_sound_50 (by decide) ?_
    refine lv_istore (lv' := [(11, .int (-1 : Int32)), (10, .int (0 : Int32)), (9, .int r_239), (0, .ref a0), (1, .int x1), (2, .int x2), (3, .long l3), (5, .int x5), (6, .int x6), (7, .int x7), (8, .int x8)]) hx hb dL_sound_51 hl (by decide) rfl (fun ls hl => ?_)
    refine lv_iconst (v := 0) hx hb dL_sound_53 (by decide) ?_
    refine lv_istore (lv' := [(12, .int (0 : Int32)), (11, .int (-1 : Int32)), (10, .int (0 : Int32)), (9, .int r_239), (0, .ref a0), (1, .int x1), (2, .int x2), (3, .long l3), (5, .int x5), (6, .int x6), (7, .int x7), (8, .int x8)]) hx hb dL_sound_54 hl (by decide) rfl (fun ls hl => ?_)
    exact (bt_L_sound_56 C (bs_L_sound_170 C hj32) FU) _ _ _ _ _ _ _ _ _ _ _ _ _ _ h hP hD hS _ (lv_sub hl [4, 5, 6, 7, 8, 9, 10, 11, 3, 2, 1, 0] rfl)
theorem bt_L_sound_32 {p : Program} {l : Launch} {e : Env} {s : State} {m : MethodId} {args : Array Value} {below : List Frame} {meth : Method} {c : Code} {D : va_G} {cy : Cy} {A : Nat → Prop} {T : Ty} {R : Rm} {r : Int32} {M9 : Mm} {a0 : Nat} {j403 : Int32 → Int64 → Int32 → Int32 → Int32 → Int32 → Int64 → Int32 → Mm → Option (Int32 × Mm)} (C : Cx RL cL_sound 14 (some .boolean) p s m args meth c D cy A)
    (hj403 : ∀ (x2 : Int32) (l3 : Int64) (x5 : Int32) (x6 : Int32) (x7 : Int32) (x8 : Int32) (l9 : Int64) (x11 : Int32) (M : Mm) (H : Heap) (locs : List Loc), j403 x2 l3 x5 x6 x7 x8 l9 x11 M = some (r, M9) → va_P D vwCl (WL cy T M R) H → va_D A (WL cy T M R) → va_S A s.heap H locs → ∀ ls : Array Slot, lv_has ls 14 [(0, .ref a0), (2, .int x2), (3, .long l3), (5, .int x5), (6, .int x6), (7, .int x7), (8, .int x8), (9, .long l9), (11, .int x11)] → W p l e rm_L_sound s m args below meth c H locs 0 0 (MQ below (QcI D cy T M9 R A r) args s 0 0 A) (F0 m 403 ls [])) :
    ∀ n : Nat, ∀ (x1 : Int32) (x2 : Int32) (l3 : Int64) (x5 : Int32) (x6 : Int32) (x7 : Int32) (x8 : Int32) (M : Mm) (H : Heap) (locs : List Loc), fb_L_sound_32 T R a0 j403 n x1 x2 l3 x5 x6 x7 x8 M = some (r, M9) → va_P D vwCl (WL cy T M R) H → va_D A (WL cy T M R) → va_S A s.heap H locs → ∀ ls : Array Slot, lv_has ls 14 [(0, .ref a0), (1, .int x1), (2, .int x2), (3, .long l3), (5, .int x5), (6, .int x6), (7, .int x7), (8, .int x8)] → W p l e rm_L_sound s m args below meth c H locs 0 0 (MQ below (QcI D cy T M9 R A r) args s 0 0 A) (F0 m 32 ls []) := by
  intro n
  induction n with
  | zero =>
    intro _ _ _ _ _ _ _ _ H locs h
    exact absurd (show (none : Option (Int32 × Mm)) = some _ from h) (by simp)
  | succ n ih => exact fun u0 u1 u2 u3 u4 u5 u6 u7 H locs h => bs_L_sound_32 (a0 := a0) C ih hj403 u0 u1 u2 u3 u4 u5 u6 u7 H locs h
set_option maxHeartbeats 4000000 in
set_option maxRecDepth 100000 in
theorem ct_L_sound {l : Launch} {D : va_G} {cy : Cy} {T : Ty} {R : Rm} {a0 : Nat} {M : Mm} {r : Int32} {M9 : Mm} (h : fn_L_sound T R a0 M = some (r, M9)) : Ct QcI l yL_sound cL_sound 14 (some .boolean) rm_L_sound D cy T M R [.ref a0] M9 R r := by
  unfold fn_L_sound at h
  refine enter (plainFor_of_name (by decide +kernel)) (Nat.le_of_ble_eq_true rfl) (fun p e s m args below meth c A C hP hD hS ls hl => ?_)
  have hl : lv_has ls 14 [(0, .ref a0)] := hl
  obtain ⟨hx, hb, hr, hml, hown, hts, hK, hA, hlk, hSt⟩ := id C
  refine lv_aload_n hx hb dL_sound_0 rfl (lv_at hl 0 rfl) ?_
  refine lv_iconst (v := 0) hx hb dL_sound_1 (by decide) ?_
  obtain ⟨k_242, h⟩ := chk_some h
  obtain ⟨r_243, M_244, hc_245, h⟩ := cal_some h
  refine cl_Vi (As := [.int (0 : Int32)]) (rest := []) C (ct_X6_count hc_245) k_242 (by decide) rfl wl_103 wl_104 wl_105 wl_2 wl_106 hd_X6_count ⟨Nat.le_of_ble_eq_true rfl, Nat.le_of_ble_eq_true rfl⟩ ⟨rfl, rfl⟩ ⟨Nat.zero_le _, Nat.zero_le _⟩ rfl (Nat.le_of_ble_eq_true rfl) rfl hl.1 hP hD hS dL_sound_2 (fun H locs hP hD hS => ?_)
  refine lv_istore_n (lv' := [(1, .int r_243), (0, .ref a0)]) hx hb dL_sound_5 rfl hl (by decide) rfl (fun ls hl => ?_)
  refine lv_aload_n hx hb dL_sound_6 rfl (lv_at hl 1 rfl) ?_
  refine lv_iconst (v := 1) hx hb dL_sound_7 (by decide) ?_
  obtain ⟨r_246, M_247, hc_248, h⟩ := cal_some h
  refine cl_Vi (As := [.int (1 : Int32)]) (rest := []) C (ct_X6_count hc_248) k_242 (by decide) rfl wl_103 wl_104 wl_105 wl_2 wl_106 hd_X6_count ⟨Nat.le_of_ble_eq_true rfl, Nat.le_of_ble_eq_true rfl⟩ ⟨rfl, rfl⟩ ⟨Nat.zero_le _, Nat.zero_le _⟩ rfl (Nat.le_of_ble_eq_true rfl) rfl hl.1 hP hD hS dL_sound_8 (fun H locs hP hD hS => ?_)
  refine lv_istore_n (lv' := [(2, .int r_246), (1, .int r_243), (0, .ref a0)]) hx hb dL_sound_11 rfl hl (by decide) rfl (fun ls hl => ?_)
  refine lv_aload_n hx hb dL_sound_12 rfl (lv_at hl 2 rfl) ?_
  refine lv_iconst (v := 0) hx hb dL_sound_13 (by decide) ?_
  obtain ⟨r_249, M_250, hc_251, h⟩ := cal_some h
  refine cl_Vi (As := [.int (0 : Int32)]) (rest := []) C (ct_X6_front hc_251) k_242 (by decide) rfl wl_277 wl_278 wl_279 wl_2 wl_280 hd_X6_front ⟨Nat.le_of_ble_eq_true rfl, Nat.le_of_ble_eq_true rfl⟩ ⟨rfl, rfl⟩ ⟨Nat.zero_le _, Nat.zero_le _⟩ rfl (Nat.le_of_ble_eq_true rfl) rfl hl.1 hP hD hS dL_sound_14 (fun H locs hP hD hS => ?_)
  refine lv_i2l hx hb dL_sound_17 rfl ?_
  refine lv_topl (fun v_252 ev_252 => ?_)
  replace h := bnd_at h ev_252
  refine lv_lstore_n (lv' := [(3, .long v_252), (2, .int r_246), (1, .int r_243), (0, .ref a0)]) hx hb dL_sound_18 rfl hl (by decide) rfl (fun ls hl => ?_)
  refine lv_iconst (v := 0) hx hb dL_sound_19 (by decide) ?_
  refine lv_istore (lv' := [(5, .int (0 : Int32)), (3, .long v_252), (2, .int r_246), (1, .int r_243), (0, .ref a0)]) hx hb dL_sound_20 hl (by decide) rfl (fun ls hl => ?_)
  refine lv_iconst (v := 0) hx hb dL_sound_22 (by decide) ?_
  refine lv_istore (lv' := [(6, .int (0 : Int32)), (5, .int (0 : Int32)), (3, .long v_252), (2, .int r_246), (1, .int r_243), (0, .ref a0)]) hx hb dL_sound_23 hl (by decide) rfl (fun ls hl => ?_)
  refine lv_ldc (own := RL) (v := -2000000004) hx hb hown (hts _ wl_4) dL_sound_25 ?_
  refine lv_istore (lv' := [(7, .int (-2000000004 : Int32)), (6, .int (0 : Int32)), (5, .int (0 : Int32)), (3, .long v_252), (2, .int r_246), (1, .int r_243), (0, .ref a0)]) hx hb dL_sound_27 hl (by decide) rfl (fun ls hl => ?_)
  refine lv_iconst (v := 0) hx hb dL_sound_29 (by decide) ?_
  refine lv_istore (lv' := [(8, .int (0 : Int32)), (7, .int (-2000000004 : Int32)), (6, .int (0 : Int32)), (5, .int (0 : Int32)), (3, .long v_252), (2, .int r_246), (1, .int r_243), (0, .ref a0)]) hx hb dL_sound_30 hl (by decide) rfl (fun ls hl => ?_)
  exact (bt_L_sound_32 C (bt_L_sound_403 C (bt_L_sound_452 C (bs_L_sound_768 C) FU) FU) FU) _ _ _ _ _ _ _ _ _ _ h hP hD hS _ (lv_sub hl [7, 6, 5, 4, 3, 2, 1, 0] rfl)
abbrev rm_L_thoughts : Room := { frames := 7, cells := 0, slots := 0, locals := 156 }
theorem hd_L_thoughts : yL_thoughts.cls ≠ "java/lang/invoke/MethodHandle" ∧ yL_thoughts.cls ≠ "java/lang/invoke/VarHandle" ∧ (parseMethodDescriptor yL_thoughts.desc).map (fun d => d.parameters.length) = some 2 := ⟨by decide +kernel, by decide +kernel, by decide +kernel⟩
set_option maxHeartbeats 4000000 in
set_option maxRecDepth 100000 in
theorem bs_L_thoughts_219 {p : Program} {l : Launch} {e : Env} {s : State} {m : MethodId} {args : Array Value} {below : List Frame} {meth : Method} {c : Code} {D : va_G} {cy : Cy} {A : Nat → Prop} {T : Ty} {R9 : Rm} {r : Int32} {M9 : Mm} {a0 : Nat} {x1 : Int32} {j219 : Int32 → Int32 → Int64 → Int32 → Mm → Rm → Option (Int32 × Mm × Rm)} (C : Cx RL cL_thoughts 15 (some .boolean) p s m args meth c D cy A)
    (hj219 : ∀ (x10 : Int32) (x11 : Int32) (l12 : Int64) (x14 : Int32) (M : Mm) (R : Rm) (H : Heap) (locs : List Loc), j219 x10 x11 l12 x14 M R = some (r, M9, R9) → va_P D vwCl (WL cy T M R) H → va_D A (WL cy T M R) → va_S A s.heap H locs → ∀ ls : Array Slot, lv_has ls 15 [(0, .ref a0), (10, .int x10), (11, .int x11), (12, .long l12), (14, .int x14)] → W p l e rm_L_thoughts s m args below meth c H locs 0 0 (MQ below (QcI D cy T M9 R9 A r) args s 0 0 A) (F0 m 219 ls [])) :
    ∀ (x10 : Int32) (x11 : Int32) (l12 : Int64) (x14 : Int32) (M : Mm) (R : Rm) (H : Heap) (locs : List Loc), fs_L_thoughts_219 T a0 x1 j219 x10 x11 l12 x14 M R = some (r, M9, R9) → va_P D vwCl (WL cy T M R) H → va_D A (WL cy T M R) → va_S A s.heap H locs → ∀ ls : Array Slot, lv_has ls 15 [(0, .ref a0), (10, .int x10), (11, .int x11), (12, .long l12), (14, .int x14)] → W p l e rm_L_thoughts s m args below meth c H locs 0 0 (MQ below (QcI D cy T M9 R9 A r) args s 0 0 A) (F0 m 219 ls []) := by
  intro x10 x11 l12 x14 M R H locs h hP hD hS ls hl
  unfold fs_L_thoughts_219 at h
  obtain ⟨hx, hb, hr, hml, hown, hts, hK, hA, hlk, hSt⟩ := id C
  refine lv_iload hx hb dL_thoughts_219 (lv_at hl 4 rfl) ?_
  refine lv_aload_n hx hb dL_thoughts_221 rfl (lv_at hl 0 rfl) ?_
  refine lv_iconst (v := 0) hx hb dL_thoughts_222 (by decide) ?_
  obtain ⟨k_1, h⟩ := chk_some h
  obtain ⟨r_2, M_3, hc_4, h⟩ := cal_some h
  refine cl_Vi (As := [.int (0 : Int32)]) (rest := [.int x14]) C (ct_X6_count hc_4) k_1 (by decide) rfl wl_103 wl_104 wl_105 wl_2 wl_106 hd_X6_count ⟨Nat.le_of_ble_eq_true rfl, Nat.le_of_ble_eq_true rfl⟩ ⟨rfl, rfl⟩ ⟨Nat.zero_le _, Nat.zero_le _⟩ rfl (Nat.le_of_ble_eq_true rfl) rfl hl.1 hP hD hS dL_thoughts_223 (fun H locs hP hD hS => ?_)
  refine lv_icmp_ge (tgt := 258) hx hb dL_thoughts_226 (by decide) (fun c_5 => ?_) (fun c_5 => ?_)
  · replace h := ite_t h c_5
    refine lv_lload hx hb dL_thoughts_258 (lv_at hl 3 rfl) ?_
    refine lv_lconst (v := 0) hx hb dL_thoughts_260 (by decide) ?_
    refine W.lcmp hx hb dL_thoughts_261 ?_
    refine lv_if_lt (tgt := 296) hx hb dL_thoughts_262 (by decide) (fun c_6 => ?_) (fun c_6 => ?_)
    · replace h := ite_t h c_6
      refine lv_iconst (v := 0) hx hb dL_thoughts_296 (by decide) ?_
      cases h
      exact rt_z C hP hD hS rfl dL_thoughts_297
    · replace h := ite_f h c_6
      refine lv_aload_n hx hb dL_thoughts_265 rfl (lv_at hl 0 rfl) ?_
      obtain ⟨r_7, M_8, hc_9, h⟩ := cal_some h
      refine cl_Vi (As := []) (rest := []) C (ct_X6_steadyMelt hc_9) k_1 (by decide) rfl wl_503 wl_504 wl_505 wl_2 wl_506 hd_X6_steadyMelt ⟨Nat.le_of_ble_eq_true rfl, Nat.le_of_ble_eq_true rfl⟩ ⟨rfl, rfl⟩ ⟨Nat.zero_le _, Nat.zero_le _⟩ rfl (Nat.le_of_ble_eq_true rfl) rfl hl.1 hP hD hS dL_thoughts_266 (fun H locs hP hD hS => ?_)
      refine lv_iload hx hb dL_thoughts_269 (lv_at hl 1 rfl) ?_
      refine lv_icmp_ne (tgt := 296) hx hb dL_thoughts_271 (by decide) (fun c_10 => ?_) (fun c_10 => ?_)
      · replace h := ite_f h c_10
        refine lv_iconst (v := 0) hx hb dL_thoughts_296 (by decide) ?_
        cases h
        exact rt_z C hP hD hS rfl dL_thoughts_297
      · replace h := ite_t h c_10
        refine lv_aload_n hx hb dL_thoughts_274 rfl (lv_at hl 0 rfl) ?_
        obtain ⟨r_11, M_12, R_14, hc_13, h⟩ := calR_some h
        refine cl_Vi (As := []) (rest := []) C (ct_X6_undo hc_13) k_1 (by decide) rfl wl_492 wl_493 wl_494 wl_2 wl_495 hd_X6_undo ⟨Nat.le_of_ble_eq_true rfl, Nat.le_of_ble_eq_true rfl⟩ ⟨rfl, rfl⟩ ⟨Nat.zero_le _, Nat.zero_le _⟩ rfl (Nat.le_of_ble_eq_true rfl) rfl hl.1 hP hD hS dL_thoughts_275 (fun H locs hP hD hS => ?_)
        refine lv_if_lt (tgt := 296) hx hb dL_thoughts_278 (by decide) (fun c_15 => ?_) (fun c_15 => ?_)
        · replace h := ite_t h c_15
          refine lv_iconst (v := 0) hx hb dL_thoughts_296 (by decide) ?_
          cases h
          exact rt_z C hP hD hS rfl dL_thoughts_297
        · replace h := ite_f h c_15
          refine lv_aload_n hx hb dL_thoughts_281 rfl (lv_at hl 0 rfl) ?_
          refine lv_bipush (v := 8) hx hb dL_thoughts_282 (by decide) ?_
          obtain ⟨r_16, M_17, hc_18, h⟩ := cal_some h
          refine cl_Vi (As := [.int (8 : Int32)]) (rest := []) C (ct_X6_count hc_18) k_1 (by decide) rfl wl_103 wl_104 wl_105 wl_2 wl_106 hd_X6_count ⟨Nat.le_of_ble_eq_true rfl, Nat.le_of_ble_eq_true rfl⟩ ⟨rfl, rfl⟩ ⟨Nat.zero_le _, Nat.zero_le _⟩ rfl (Nat.le_of_ble_eq_true rfl) rfl hl.1 hP hD hS dL_thoughts_284 (fun H locs hP hD hS => ?_)
          refine lv_iload hx hb dL_thoughts_287 (lv_at hl 2 rfl) ?_
          refine lv_icmp_ne (tgt := 296) hx hb dL_thoughts_289 (by decide) (fun c_19 => ?_) (fun c_19 => ?_)
          · replace h := ite_f h c_19
            refine lv_iconst (v := 0) hx hb dL_thoughts_296 (by decide) ?_
            cases h
            exact rt_z C hP hD hS rfl dL_thoughts_297
          · replace h := ite_t h c_19
            refine lv_iconst (v := 1) hx hb dL_thoughts_292 (by decide) ?_
            refine lv_goto (tgt := 297) hx hb dL_thoughts_293 (by decide) ?_
            cases h
            exact rt_z C hP hD hS rfl dL_thoughts_297
  · replace h := ite_f h c_5
    refine lv_lload hx hb dL_thoughts_229 (lv_at hl 3 rfl) ?_
    refine lv_aload_n hx hb dL_thoughts_231 rfl (lv_at hl 0 rfl) ?_
    refine lv_iload hx hb dL_thoughts_232 (lv_at hl 4 rfl) ?_
    refine lv_bipush (v := 7) hx hb dL_thoughts_234 (by decide) ?_
    obtain ⟨r_20, M_21, hc_22, h⟩ := cal_some h
    refine cl_Vi (As := [.int x14, .int (7 : Int32)]) (rest := [.long l12]) C (ct_X6_bandInfo hc_22) k_1 (by decide) rfl wl_235 wl_236 wl_237 wl_2 wl_238 hd_X6_bandInfo ⟨Nat.le_of_ble_eq_true rfl, Nat.le_of_ble_eq_true rfl⟩ ⟨rfl, rfl⟩ ⟨Nat.zero_le _, Nat.zero_le _⟩ rfl (Nat.le_of_ble_eq_true rfl) rfl hl.1 hP hD hS dL_thoughts_236 (fun H locs hP hD hS => ?_)
    refine lv_aload_n hx hb dL_thoughts_239 rfl (lv_at hl 0 rfl) ?_
    refine lv_iload hx hb dL_thoughts_240 (lv_at hl 4 rfl) ?_
    refine lv_bipush (v := 8) hx hb dL_thoughts_242 (by decide) ?_
    obtain ⟨r_23, M_24, hc_25, h⟩ := cal_some h
    refine cl_Vi (As := [.int x14, .int (8 : Int32)]) (rest := [.int r_20, .long l12]) C (ct_X6_bandInfo hc_25) k_1 (by decide) rfl wl_235 wl_236 wl_237 wl_2 wl_238 hd_X6_bandInfo ⟨Nat.le_of_ble_eq_true rfl, Nat.le_of_ble_eq_true rfl⟩ ⟨rfl, rfl⟩ ⟨Nat.zero_le _, Nat.zero_le _⟩ rfl (Nat.le_of_ble_eq_true rfl) rfl hl.1 hP hD hS dL_thoughts_244 (fun H locs hP hD hS => ?_)
    refine lv_isub hx hb dL_thoughts_247 ?_
    refine lv_i2l hx hb dL_thoughts_248 rfl ?_
    refine lv_ladd hx hb dL_thoughts_249 ?_
    refine lv_topl (fun v_26 ev_26 => ?_)
    replace h := bnd_at h ev_26
    refine lv_lstore (lv' := [(12, .long v_26), (0, .ref a0), (10, .int x10), (11, .int x11), (14, .int x14)]) hx hb dL_thoughts_250 hl (by decide) rfl (fun ls hl => ?_)
    obtain ⟨v_27, ev_27⟩ : ∃ y : Int32, y = (x14 + (1 : Int32)) := ⟨_, rfl⟩
    replace h := bnd_at h ev_27
    refine lv_iinc (v := v_27) (lv' := [(14, .int v_27), (12, .long v_26), (0, .ref a0), (10, .int x10), (11, .int x11)]) hx hb dL_thoughts_252 hl (k := 4) rfl (by rw [ev_27]; rfl) (by decide) rfl (fun ls hl => ?_)
    refine lv_goto (tgt := 219) hx hb dL_thoughts_255 (by decide) ?_
    exact hj219 _ _ _ _ _ _ _ _ h hP hD hS _ (lv_sub hl [2, 3, 4, 1, 0] rfl)
theorem bt_L_thoughts_219 {p : Program} {l : Launch} {e : Env} {s : State} {m : MethodId} {args : Array Value} {below : List Frame} {meth : Method} {c : Code} {D : va_G} {cy : Cy} {A : Nat → Prop} {T : Ty} {R9 : Rm} {r : Int32} {M9 : Mm} {a0 : Nat} {x1 : Int32} (C : Cx RL cL_thoughts 15 (some .boolean) p s m args meth c D cy A) :
    ∀ n : Nat, ∀ (x10 : Int32) (x11 : Int32) (l12 : Int64) (x14 : Int32) (M : Mm) (R : Rm) (H : Heap) (locs : List Loc), fb_L_thoughts_219 T a0 x1 n x10 x11 l12 x14 M R = some (r, M9, R9) → va_P D vwCl (WL cy T M R) H → va_D A (WL cy T M R) → va_S A s.heap H locs → ∀ ls : Array Slot, lv_has ls 15 [(0, .ref a0), (10, .int x10), (11, .int x11), (12, .long l12), (14, .int x14)] → W p l e rm_L_thoughts s m args below meth c H locs 0 0 (MQ below (QcI D cy T M9 R9 A r) args s 0 0 A) (F0 m 219 ls []) := by
  intro n
  induction n with
  | zero =>
    intro _ _ _ _ _ _ H locs h
    exact absurd (show (none : Option (Int32 × Mm × Rm)) = some _ from h) (by simp)
  | succ n ih => exact fun u0 u1 u2 u3 u4 u5 H locs h => bs_L_thoughts_219 (a0 := a0) (x1 := x1) C ih u0 u1 u2 u3 u4 u5 H locs h
set_option maxHeartbeats 4000000 in
set_option maxRecDepth 100000 in
theorem bs_L_thoughts_134 {p : Program} {l : Launch} {e : Env} {s : State} {m : MethodId} {args : Array Value} {below : List Frame} {meth : Method} {c : Code} {D : va_G} {cy : Cy} {A : Nat → Prop} {T : Ty} {R9 : Rm} {r : Int32} {M9 : Mm} {a0 : Nat} {x1 : Int32} (C : Cx RL cL_thoughts 15 (some .boolean) p s m args meth c D cy A) :
    ∀ (x6 : Int32) (l7 : Int64) (s0 : Int32) (s1 : Int32) (M : Mm) (R : Rm) (H : Heap) (locs : List Loc), fs_L_thoughts_134 T a0 x1 x6 l7 s0 s1 M R = some (r, M9, R9) → va_P D vwCl (WL cy T M R) H → va_D A (WL cy T M R) → va_S A s.heap H locs → ∀ ls : Array Slot, lv_has ls 15 [(0, .ref a0), (6, .int x6), (7, .long l7)] → W p l e rm_L_thoughts s m args below meth c H locs 0 0 (MQ below (QcI D cy T M9 R9 A r) args s 0 0 A) (F0 m 134 ls [.int s1, .int s0]) := by
  intro x6 l7 s0 s1 M R H locs h hP hD hS ls hl
  unfold fs_L_thoughts_134 at h
  obtain ⟨hx, hb, hr, hml, hown, hts, hK, hA, hlk, hSt⟩ := id C
  refine lv_icmp_ne (tgt := 165) hx hb dL_thoughts_134 (by decide) (fun c_28 => ?_) (fun c_28 => ?_)
  · replace h := ite_f h c_28
    refine lv_iconst (v := 0) hx hb dL_thoughts_165 (by decide) ?_
    cases h
    exact rt_z C hP hD hS rfl dL_thoughts_166
  · replace h := ite_t h c_28
    refine lv_aload_n hx hb dL_thoughts_137 rfl (lv_at hl 0 rfl) ?_
    obtain ⟨k_29, h⟩ := chk_some h
    obtain ⟨r_30, M_31, R_33, hc_32, h⟩ := calR_some h
    refine cl_Vi (As := []) (rest := []) C (ct_X6_undo hc_32) k_29 (by decide) rfl wl_492 wl_493 wl_494 wl_2 wl_495 hd_X6_undo ⟨Nat.le_of_ble_eq_true rfl, Nat.le_of_ble_eq_true rfl⟩ ⟨rfl, rfl⟩ ⟨Nat.zero_le _, Nat.zero_le _⟩ rfl (Nat.le_of_ble_eq_true rfl) rfl hl.1 hP hD hS dL_thoughts_138 (fun H locs hP hD hS => ?_)
    refine lv_if_lt (tgt := 165) hx hb dL_thoughts_141 (by decide) (fun c_34 => ?_) (fun c_34 => ?_)
    · replace h := ite_t h c_34
      refine lv_iconst (v := 0) hx hb dL_thoughts_165 (by decide) ?_
      cases h
      exact rt_z C hP hD hS rfl dL_thoughts_166
    · replace h := ite_f h c_34
      refine lv_aload_n hx hb dL_thoughts_144 rfl (lv_at hl 0 rfl) ?_
      refine lv_iconst (v := 1) hx hb dL_thoughts_145 (by decide) ?_
      obtain ⟨r_35, M_36, hc_37, h⟩ := cal_some h
      refine cl_Vi (As := [.int (1 : Int32)]) (rest := []) C (ct_X6_count hc_37) k_29 (by decide) rfl wl_103 wl_104 wl_105 wl_2 wl_106 hd_X6_count ⟨Nat.le_of_ble_eq_true rfl, Nat.le_of_ble_eq_true rfl⟩ ⟨rfl, rfl⟩ ⟨Nat.zero_le _, Nat.zero_le _⟩ rfl (Nat.le_of_ble_eq_true rfl) rfl hl.1 hP hD hS dL_thoughts_146 (fun H locs hP hD hS => ?_)
      refine lv_iload hx hb dL_thoughts_149 (lv_at hl 1 rfl) ?_
      refine lv_icmp_ne (tgt := 165) hx hb dL_thoughts_151 (by decide) (fun c_38 => ?_) (fun c_38 => ?_)
      · replace h := ite_f h c_38
        refine lv_iconst (v := 0) hx hb dL_thoughts_165 (by decide) ?_
        cases h
        exact rt_z C hP hD hS rfl dL_thoughts_166
      · replace h := ite_t h c_38
        refine lv_aload_n hx hb dL_thoughts_154 rfl (lv_at hl 0 rfl) ?_
        refine lv_iconst (v := 4) hx hb dL_thoughts_155 (by decide) ?_
        obtain ⟨r_39, M_40, hc_41, h⟩ := cal_some h
        refine cl_Vl (As := [.int (4 : Int32)]) (rest := []) C (ct_X6_account hc_41) k_29 (by decide) rfl wl_286 wl_287 wl_288 wl_2 wl_289 hd_X6_account ⟨Nat.le_of_ble_eq_true rfl, Nat.le_of_ble_eq_true rfl⟩ ⟨rfl, rfl⟩ ⟨Nat.zero_le _, Nat.zero_le _⟩ rfl (Nat.le_of_ble_eq_true rfl) rfl hl.1 hP hD hS dL_thoughts_156 (fun H locs hP hD hS => ?_)
        refine lv_lload hx hb dL_thoughts_159 (lv_at hl 2 rfl) ?_
        refine W.lcmp hx hb dL_thoughts_161 ?_
        refine lv_if_eq (tgt := 167) hx hb dL_thoughts_162 (by decide) (fun c_42 => ?_) (fun c_42 => ?_)
        · replace h := ite_t h c_42
          refine lv_aload_n hx hb dL_thoughts_167 rfl (lv_at hl 0 rfl) ?_
          obtain ⟨r_43, M_44, hc_45, h⟩ := cal_some h
          refine cl_Vi (As := []) (rest := []) C (ct_X6_steadyMelt hc_45) k_29 (by decide) rfl wl_503 wl_504 wl_505 wl_2 wl_506 hd_X6_steadyMelt ⟨Nat.le_of_ble_eq_true rfl, Nat.le_of_ble_eq_true rfl⟩ ⟨rfl, rfl⟩ ⟨Nat.zero_le _, Nat.zero_le _⟩ rfl (Nat.le_of_ble_eq_true rfl) rfl hl.1 hP hD hS dL_thoughts_168 (fun H locs hP hD hS => ?_)
          refine lv_istore (lv' := [(10, .int r_43), (0, .ref a0), (6, .int x6), (7, .long l7)]) hx hb dL_thoughts_171 hl (by decide) rfl (fun ls hl => ?_)
          refine lv_aload_n hx hb dL_thoughts_173 rfl (lv_at hl 1 rfl) ?_
          refine lv_bipush (v := 8) hx hb dL_thoughts_174 (by decide) ?_
          obtain ⟨r_46, M_47, hc_48, h⟩ := cal_some h
          refine cl_Vi (As := [.int (8 : Int32)]) (rest := []) C (ct_X6_count hc_48) k_29 (by decide) rfl wl_103 wl_104 wl_105 wl_2 wl_106 hd_X6_count ⟨Nat.le_of_ble_eq_true rfl, Nat.le_of_ble_eq_true rfl⟩ ⟨rfl, rfl⟩ ⟨Nat.zero_le _, Nat.zero_le _⟩ rfl (Nat.le_of_ble_eq_true rfl) rfl hl.1 hP hD hS dL_thoughts_176 (fun H locs hP hD hS => ?_)
          refine lv_istore (lv' := [(11, .int r_46), (10, .int r_43), (0, .ref a0), (6, .int x6), (7, .long l7)]) hx hb dL_thoughts_179 hl (by decide) rfl (fun ls hl => ?_)
          refine lv_iload hx hb dL_thoughts_181 (lv_at hl 1 rfl) ?_
          refine lv_ldc (own := RL) (v := -2000000004) hx hb hown (hts _ wl_4) dL_thoughts_183 ?_
          refine lv_icmp_ne (tgt := 199) hx hb dL_thoughts_185 (by decide) (fun c_49 => ?_) (fun c_49 => ?_)
          · replace h := ite_f h c_49
            refine lv_lconst (v := 0) hx hb dL_thoughts_199 (by decide) ?_
            refine lv_lstore (lv' := [(12, .long (0 : Int64)), (11, .int r_46), (10, .int r_43), (0, .ref a0), (6, .int x6), (7, .long l7)]) hx hb dL_thoughts_200 hl (by decide) rfl (fun ls hl => ?_)
            refine lv_aload_n hx hb dL_thoughts_202 rfl (lv_at hl 3 rfl) ?_
            refine lv_iconst (v := 2) hx hb dL_thoughts_203 (by decide) ?_
            refine lv_iload hx hb dL_thoughts_204 (lv_at hl 2 rfl) ?_
            obtain ⟨r_50, M_51, R_53, hc_52, h⟩ := calR_some h
            refine cl_Vi (As := [.int (2 : Int32), .int r_43]) (rest := []) C (ct_X6_set hc_52) k_29 (by decide) rfl wl_143 wl_144 wl_145 wl_2 wl_146 hd_X6_set ⟨Nat.le_of_ble_eq_true rfl, Nat.le_of_ble_eq_true rfl⟩ ⟨rfl, rfl⟩ ⟨Nat.zero_le _, Nat.zero_le _⟩ rfl (Nat.le_of_ble_eq_true rfl) rfl hl.1 hP hD hS dL_thoughts_206 (fun H locs hP hD hS => ?_)
            refine lv_iload hx hb dL_thoughts_209 (lv_at hl 1 rfl) ?_
            refine lv_icmp_eq (tgt := 216) hx hb dL_thoughts_211 (by decide) (fun c_54 => ?_) (fun c_54 => ?_)
            · replace h := ite_t h c_54
              refine lv_iconst (v := 0) hx hb dL_thoughts_216 (by decide) ?_
              refine lv_istore (lv' := [(14, .int (0 : Int32)), (12, .long (0 : Int64)), (11, .int r_46), (10, .int r_43), (0, .ref a0), (6, .int x6), (7, .long l7)]) hx hb dL_thoughts_217 hl (by decide) rfl (fun ls hl => ?_)
              exact (bt_L_thoughts_219 C FU) _ _ _ _ _ _ _ _ h hP hD hS _ (lv_sub hl [4, 3, 2, 1, 0] rfl)
            · replace h := ite_f h c_54
              refine lv_iconst (v := 0) hx hb dL_thoughts_214 (by decide) ?_
              cases h
              exact rt_z C hP hD hS rfl dL_thoughts_215
          · replace h := ite_t h c_49
            refine lv_iload hx hb dL_thoughts_188 (lv_at hl 0 rfl) ?_
            refine lv_if_lt (tgt := 197) hx hb dL_thoughts_190 (by decide) (fun c_55 => ?_) (fun c_55 => ?_)
            · replace h := ite_t h c_55
              refine lv_iconst (v := 0) hx hb dL_thoughts_197 (by decide) ?_
              cases h
              exact rt_z C hP hD hS rfl dL_thoughts_198
            · replace h := ite_f h c_55
              refine lv_iconst (v := 1) hx hb dL_thoughts_193 (by decide) ?_
              refine lv_goto (tgt := 198) hx hb dL_thoughts_194 (by decide) ?_
              cases h
              exact rt_z C hP hD hS rfl dL_thoughts_198
        · replace h := ite_f h c_42
          refine lv_iconst (v := 0) hx hb dL_thoughts_165 (by decide) ?_
          cases h
          exact rt_z C hP hD hS rfl dL_thoughts_166
set_option maxHeartbeats 4000000 in
set_option maxRecDepth 100000 in
theorem bs_L_thoughts_125 {p : Program} {l : Launch} {e : Env} {s : State} {m : MethodId} {args : Array Value} {below : List Frame} {meth : Method} {c : Code} {D : va_G} {cy : Cy} {A : Nat → Prop} {T : Ty} {R9 : Rm} {r : Int32} {M9 : Mm} {a0 : Nat} {x1 : Int32} (C : Cx RL cL_thoughts 15 (some .boolean) p s m args meth c D cy A) :
    ∀ (x3 : Int32) (x6 : Int32) (l7 : Int64) (s0 : Int32) (M : Mm) (R : Rm) (H : Heap) (locs : List Loc), fs_L_thoughts_125 T a0 x1 x3 x6 l7 s0 M R = some (r, M9, R9) → va_P D vwCl (WL cy T M R) H → va_D A (WL cy T M R) → va_S A s.heap H locs → ∀ ls : Array Slot, lv_has ls 15 [(0, .ref a0), (3, .int x3), (6, .int x6), (7, .long l7)] → W p l e rm_L_thoughts s m args below meth c H locs 0 0 (MQ below (QcI D cy T M9 R9 A r) args s 0 0 A) (F0 m 125 ls [.int s0]) := by
  intro x3 x6 l7 s0 M R H locs h hP hD hS ls hl
  unfold fs_L_thoughts_125 at h
  obtain ⟨hx, hb, hr, hml, hown, hts, hK, hA, hlk, hSt⟩ := id C
  refine lv_iload_n hx hb dL_thoughts_125 rfl (lv_at hl 1 rfl) ?_
  refine lv_if_le (tgt := 133) hx hb dL_thoughts_126 (by decide) (fun c_56 => ?_) (fun c_56 => ?_)
  · replace h := ite_t h c_56
    refine lv_iconst (v := 0) hx hb dL_thoughts_133 (by decide) ?_
    exact (bs_L_thoughts_134 C) _ _ _ _ _ _ _ _ h hP hD hS _ (lv_sub hl [0, 2, 3] rfl)
  · replace h := ite_f h c_56
    refine lv_iconst (v := 1) hx hb dL_thoughts_129 (by decide) ?_
    refine lv_goto (tgt := 134) hx hb dL_thoughts_130 (by decide) ?_
    exact (bs_L_thoughts_134 C) _ _ _ _ _ _ _ _ h hP hD hS _ (lv_sub hl [0, 2, 3] rfl)
set_option maxHeartbeats 4000000 in
set_option maxRecDepth 100000 in
theorem bs_L_thoughts_124 {p : Program} {l : Launch} {e : Env} {s : State} {m : MethodId} {args : Array Value} {below : List Frame} {meth : Method} {c : Code} {D : va_G} {cy : Cy} {A : Nat → Prop} {T : Ty} {R9 : Rm} {r : Int32} {M9 : Mm} {a0 : Nat} {x1 : Int32} (C : Cx RL cL_thoughts 15 (some .boolean) p s m args meth c D cy A) :
    ∀ (x3 : Int32) (x6 : Int32) (l7 : Int64) (M : Mm) (R : Rm) (H : Heap) (locs : List Loc), fs_L_thoughts_124 T a0 x1 x3 x6 l7 M R = some (r, M9, R9) → va_P D vwCl (WL cy T M R) H → va_D A (WL cy T M R) → va_S A s.heap H locs → ∀ ls : Array Slot, lv_has ls 15 [(0, .ref a0), (3, .int x3), (6, .int x6), (7, .long l7)] → W p l e rm_L_thoughts s m args below meth c H locs 0 0 (MQ below (QcI D cy T M9 R9 A r) args s 0 0 A) (F0 m 124 ls []) := by
  intro x3 x6 l7 M R H locs h hP hD hS ls hl
  unfold fs_L_thoughts_124 at h
  obtain ⟨hx, hb, hr, hml, hown, hts, hK, hA, hlk, hSt⟩ := id C
  refine lv_iconst (v := 0) hx hb dL_thoughts_124 (by decide) ?_
  exact (bs_L_thoughts_125 C) _ _ _ _ _ _ _ _ h hP hD hS _ (lv_sub hl [0, 1, 2, 3] rfl)
set_option maxHeartbeats 4000000 in
set_option maxRecDepth 100000 in
theorem ct_L_thoughts {l : Launch} {D : va_G} {cy : Cy} {T : Ty} {R : Rm} {a0 : Nat} {x1 : Int32} {M : Mm} {r : Int32} {M9 : Mm} {R9 : Rm} (h : fn_L_thoughts T a0 x1 M R = some (r, M9, R9)) : Ct QcI l yL_thoughts cL_thoughts 15 (some .boolean) rm_L_thoughts D cy T M R [.ref a0, .int x1] M9 R9 r := by
  unfold fn_L_thoughts at h
  refine enter (plainFor_of_name (by decide +kernel)) (Nat.le_of_ble_eq_true rfl) (fun p e s m args below meth c A C hP hD hS ls hl => ?_)
  have hl : lv_has ls 15 [(0, .ref a0), (1, .int x1)] := hl
  obtain ⟨hx, hb, hr, hml, hown, hts, hK, hA, hlk, hSt⟩ := id C
  refine lv_iconst (v := 1) hx hb dL_thoughts_0 (by decide) ?_
  refine lv_iload_n hx hb dL_thoughts_1 rfl (lv_at hl 1 rfl) ?_
  refine lv_bipush (v := 40) hx hb dL_thoughts_2 (by decide) ?_
  obtain ⟨r_57, M_58, hc_59, h⟩ := cal_some h
  refine cl_Si (As := [.int x1, .int (40 : Int32)]) (rest := [.int (1 : Int32)]) C (ct_L_low hc_59) wl_515 wl_516 wl_98 wl_517 hd_L_low ⟨Nat.le_of_ble_eq_true rfl, Nat.le_of_ble_eq_true rfl⟩ ⟨rfl, rfl⟩ ⟨Nat.zero_le _, Nat.zero_le _⟩ rfl (Nat.le_of_ble_eq_true rfl) rfl hl.1 hP hD hS dL_thoughts_4 (fun H locs hP hD hS => ?_)
  refine lv_iadd hx hb dL_thoughts_7 ?_
  refine lv_topi (fun v_60 ev_60 => ?_)
  replace h := bnd_at h ev_60
  refine lv_istore_n (lv' := [(2, .int v_60), (0, .ref a0), (1, .int x1)]) hx hb dL_thoughts_8 rfl hl (by decide) rfl (fun ls hl => ?_)
  refine lv_aload_n hx hb dL_thoughts_9 rfl (lv_at hl 1 rfl) ?_
  refine lv_iload_n hx hb dL_thoughts_10 rfl (lv_at hl 0 rfl) ?_
  refine lv_iconst (v := 1) hx hb dL_thoughts_11 (by decide) ?_
  obtain ⟨k_61, h⟩ := chk_some h
  obtain ⟨r_62, M_63, hc_64, h⟩ := cal_some h
  refine cl_Vi (As := [.int v_60, .int (1 : Int32)]) (rest := []) C (ct_X6_ifYears hc_64) k_61 (by decide) rfl wl_419 wl_420 wl_421 wl_2 wl_422 hd_X6_ifYears ⟨Nat.le_of_ble_eq_true rfl, Nat.le_of_ble_eq_true rfl⟩ ⟨rfl, rfl⟩ ⟨Nat.zero_le _, Nat.zero_le _⟩ rfl (Nat.le_of_ble_eq_true rfl) rfl hl.1 hP hD hS dL_thoughts_12 (fun H locs hP hD hS => ?_)
  refine lv_istore_n (lv' := [(3, .int r_62), (2, .int v_60), (0, .ref a0), (1, .int x1)]) hx hb dL_thoughts_15 rfl hl (by decide) rfl (fun ls hl => ?_)
  refine lv_aload_n hx hb dL_thoughts_16 rfl (lv_at hl 2 rfl) ?_
  refine lv_iload_n hx hb dL_thoughts_17 rfl (lv_at hl 1 rfl) ?_
  refine lv_iconst (v := 0) hx hb dL_thoughts_18 (by decide) ?_
  obtain ⟨r_65, M_66, hc_67, h⟩ := cal_some h
  refine cl_Vi (As := [.int v_60, .int (0 : Int32)]) (rest := []) C (ct_X6_ifYears hc_67) k_61 (by decide) rfl wl_419 wl_420 wl_421 wl_2 wl_422 hd_X6_ifYears ⟨Nat.le_of_ble_eq_true rfl, Nat.le_of_ble_eq_true rfl⟩ ⟨rfl, rfl⟩ ⟨Nat.zero_le _, Nat.zero_le _⟩ rfl (Nat.le_of_ble_eq_true rfl) rfl hl.1 hP hD hS dL_thoughts_19 (fun H locs hP hD hS => ?_)
  refine lv_istore (lv' := [(4, .int r_65), (3, .int r_62), (2, .int v_60), (0, .ref a0), (1, .int x1)]) hx hb dL_thoughts_22 hl (by decide) rfl (fun ls hl => ?_)
  refine lv_aload_n hx hb dL_thoughts_24 rfl (lv_at hl 3 rfl) ?_
  refine lv_iconst (v := 0) hx hb dL_thoughts_25 (by decide) ?_
  obtain ⟨r_68, M_69, hc_70, h⟩ := cal_some h
  refine cl_Vi (As := [.int (0 : Int32)]) (rest := []) C (ct_X6_yearsTo hc_70) k_61 (by decide) rfl wl_430 wl_431 wl_432 wl_2 wl_433 hd_X6_yearsTo ⟨Nat.le_of_ble_eq_true rfl, Nat.le_of_ble_eq_true rfl⟩ ⟨rfl, rfl⟩ ⟨Nat.zero_le _, Nat.zero_le _⟩ rfl (Nat.le_of_ble_eq_true rfl) rfl hl.1 hP hD hS dL_thoughts_26 (fun H locs hP hD hS => ?_)
  refine lv_istore (lv' := [(5, .int r_68), (4, .int r_65), (3, .int r_62), (2, .int v_60), (0, .ref a0), (1, .int x1)]) hx hb dL_thoughts_29 hl (by decide) rfl (fun ls hl => ?_)
  refine lv_aload_n hx hb dL_thoughts_31 rfl (lv_at hl 4 rfl) ?_
  refine lv_iconst (v := 1) hx hb dL_thoughts_32 (by decide) ?_
  obtain ⟨r_71, M_72, hc_73, h⟩ := cal_some h
  refine cl_Vi (As := [.int (1 : Int32)]) (rest := []) C (ct_X6_count hc_73) k_61 (by decide) rfl wl_103 wl_104 wl_105 wl_2 wl_106 hd_X6_count ⟨Nat.le_of_ble_eq_true rfl, Nat.le_of_ble_eq_true rfl⟩ ⟨rfl, rfl⟩ ⟨Nat.zero_le _, Nat.zero_le _⟩ rfl (Nat.le_of_ble_eq_true rfl) rfl hl.1 hP hD hS dL_thoughts_33 (fun H locs hP hD hS => ?_)
  refine lv_istore (lv' := [(6, .int r_71), (5, .int r_68), (4, .int r_65), (3, .int r_62), (2, .int v_60), (0, .ref a0), (1, .int x1)]) hx hb dL_thoughts_36 hl (by decide) rfl (fun ls hl => ?_)
  refine lv_aload_n hx hb dL_thoughts_38 rfl (lv_at hl 5 rfl) ?_
  refine lv_iconst (v := 4) hx hb dL_thoughts_39 (by decide) ?_
  obtain ⟨r_74, M_75, hc_76, h⟩ := cal_some h
  refine cl_Vl (As := [.int (4 : Int32)]) (rest := []) C (ct_X6_account hc_76) k_61 (by decide) rfl wl_286 wl_287 wl_288 wl_2 wl_289 hd_X6_account ⟨Nat.le_of_ble_eq_true rfl, Nat.le_of_ble_eq_true rfl⟩ ⟨rfl, rfl⟩ ⟨Nat.zero_le _, Nat.zero_le _⟩ rfl (Nat.le_of_ble_eq_true rfl) rfl hl.1 hP hD hS dL_thoughts_40 (fun H locs hP hD hS => ?_)
  refine lv_lstore (lv' := [(7, .long r_74), (6, .int r_71), (5, .int r_68), (4, .int r_65), (3, .int r_62), (2, .int v_60), (0, .ref a0), (1, .int x1)]) hx hb dL_thoughts_43 hl (by decide) rfl (fun ls hl => ?_)
  refine lv_iload hx hb dL_thoughts_45 (lv_at hl 1 rfl) ?_
  refine lv_iload_n hx hb dL_thoughts_47 rfl (lv_at hl 5 rfl) ?_
  refine lv_iadd hx hb dL_thoughts_48 ?_
  refine lv_sipush (v := 500) hx hb dL_thoughts_49 (by decide) ?_
  refine lv_icmp_le (tgt := 82) hx hb dL_thoughts_52 (by decide) (fun c_77 => ?_) (fun c_77 => ?_)
  · replace h := ite_t h c_77
    refine lv_aload_n hx hb dL_thoughts_82 rfl (lv_at hl 6 rfl) ?_
    refine lv_iload_n hx hb dL_thoughts_83 rfl (lv_at hl 5 rfl) ?_
    obtain ⟨r_78, M_79, R_81, hc_80, h⟩ := calR_some h
    refine cl_Vi (As := [.int v_60]) (rest := []) C (ct_X6_years hc_80) k_61 (by decide) rfl wl_355 wl_356 wl_357 wl_2 wl_358 hd_X6_years ⟨Nat.le_of_ble_eq_true rfl, Nat.le_of_ble_eq_true rfl⟩ ⟨rfl, rfl⟩ ⟨Nat.zero_le _, Nat.zero_le _⟩ rfl (Nat.le_of_ble_eq_true rfl) rfl hl.1 hP hD hS dL_thoughts_84 (fun H locs hP hD hS => ?_)
    refine lv_istore (lv' := [(9, .int r_78), (7, .long r_74), (6, .int r_71), (5, .int r_68), (4, .int r_65), (3, .int r_62), (2, .int v_60), (0, .ref a0), (1, .int x1)]) hx hb dL_thoughts_87 hl (by decide) rfl (fun ls hl => ?_)
    refine lv_iload hx hb dL_thoughts_89 (lv_at hl 0 rfl) ?_
    refine lv_iload_n hx hb dL_thoughts_91 rfl (lv_at hl 5 rfl) ?_
    refine lv_icmp_ne (tgt := 165) hx hb dL_thoughts_92 (by decide) (fun c_82 => ?_) (fun c_82 => ?_)
    · replace h := ite_f h c_82
      refine lv_iconst (v := 0) hx hb dL_thoughts_165 (by decide) ?_
      cases h
      exact rt_z C hP hD hS rfl dL_thoughts_166
    · replace h := ite_t h c_82
      refine lv_aload_n hx hb dL_thoughts_95 rfl (lv_at hl 7 rfl) ?_
      refine lv_iconst (v := 4) hx hb dL_thoughts_96 (by decide) ?_
      obtain ⟨r_83, M_84, hc_85, h⟩ := cal_some h
      refine cl_Vl (As := [.int (4 : Int32)]) (rest := []) C (ct_X6_account hc_85) k_61 (by decide) rfl wl_286 wl_287 wl_288 wl_2 wl_289 hd_X6_account ⟨Nat.le_of_ble_eq_true rfl, Nat.le_of_ble_eq_true rfl⟩ ⟨rfl, rfl⟩ ⟨Nat.zero_le _, Nat.zero_le _⟩ rfl (Nat.le_of_ble_eq_true rfl) rfl hl.1 hP hD hS dL_thoughts_97 (fun H locs hP hD hS => ?_)
      refine lv_iload hx hb dL_thoughts_100 (lv_at hl 4 rfl) ?_
      refine lv_i2l hx hb dL_thoughts_102 rfl ?_
      refine W.lcmp hx hb dL_thoughts_103 ?_
      refine lv_if_ne (tgt := 165) hx hb dL_thoughts_104 (by decide) (fun c_86 => ?_) (fun c_86 => ?_)
      · replace h := ite_f h c_86
        refine lv_iconst (v := 0) hx hb dL_thoughts_165 (by decide) ?_
        cases h
        exact rt_z C hP hD hS rfl dL_thoughts_166
      · replace h := ite_t h c_86
        refine lv_iload hx hb dL_thoughts_107 (lv_at hl 3 rfl) ?_
        refine lv_ldc (own := RL) (v := -2000000004) hx hb hown (hts _ wl_4) dL_thoughts_109 ?_
        refine lv_icmp_eq (tgt := 124) hx hb dL_thoughts_111 (by decide) (fun c_87 => ?_) (fun c_87 => ?_)
        · replace h := ite_t h c_87
          exact (bs_L_thoughts_124 C) _ _ _ _ _ _ _ h hP hD hS _ (lv_sub hl [7, 5, 2, 1] rfl)
        · replace h := ite_f h c_87
          refine lv_iload hx hb dL_thoughts_114 (lv_at hl 3 rfl) ?_
          refine lv_iload_n hx hb dL_thoughts_116 rfl (lv_at hl 6 rfl) ?_
          refine lv_icmp_gt (tgt := 124) hx hb dL_thoughts_117 (by decide) (fun c_88 => ?_) (fun c_88 => ?_)
          · replace h := ite_t h c_88
            exact (bs_L_thoughts_124 C) _ _ _ _ _ _ _ h hP hD hS _ (lv_sub hl [7, 5, 2, 1] rfl)
          · replace h := ite_f h c_88
            refine lv_iconst (v := 1) hx hb dL_thoughts_120 (by decide) ?_
            refine lv_goto (tgt := 125) hx hb dL_thoughts_121 (by decide) ?_
            exact (bs_L_thoughts_125 C) _ _ _ _ _ _ _ _ h hP hD hS _ (lv_sub hl [7, 5, 2, 1] rfl)
  · replace h := ite_f h c_77
    refine lv_aload_n hx hb dL_thoughts_55 rfl (lv_at hl 6 rfl) ?_
    refine lv_iload_n hx hb dL_thoughts_56 rfl (lv_at hl 5 rfl) ?_
    obtain ⟨r_89, M_90, R_92, hc_91, h⟩ := calR_some h
    refine cl_Vi (As := [.int v_60]) (rest := []) C (ct_X6_years hc_91) k_61 (by decide) rfl wl_355 wl_356 wl_357 wl_2 wl_358 hd_X6_years ⟨Nat.le_of_ble_eq_true rfl, Nat.le_of_ble_eq_true rfl⟩ ⟨rfl, rfl⟩ ⟨Nat.zero_le _, Nat.zero_le _⟩ rfl (Nat.le_of_ble_eq_true rfl) rfl hl.1 hP hD hS dL_thoughts_57 (fun H locs hP hD hS => ?_)
    refine lv_ldc (own := RL) (v := -2000000003) hx hb hown (hts _ wl_5) dL_thoughts_60 ?_
    refine lv_icmp_ne (tgt := 80) hx hb dL_thoughts_62 (by decide) (fun c_93 => ?_) (fun c_93 => ?_)
    · replace h := ite_f h c_93
      refine lv_iconst (v := 0) hx hb dL_thoughts_80 (by decide) ?_
      cases h
      exact rt_z C hP hD hS rfl dL_thoughts_81
    · replace h := ite_t h c_93
      refine lv_aload_n hx hb dL_thoughts_65 rfl (lv_at hl 6 rfl) ?_
      refine lv_iconst (v := 4) hx hb dL_thoughts_66 (by decide) ?_
      obtain ⟨r_94, M_95, hc_96, h⟩ := cal_some h
      refine cl_Vl (As := [.int (4 : Int32)]) (rest := []) C (ct_X6_account hc_96) k_61 (by decide) rfl wl_286 wl_287 wl_288 wl_2 wl_289 hd_X6_account ⟨Nat.le_of_ble_eq_true rfl, Nat.le_of_ble_eq_true rfl⟩ ⟨rfl, rfl⟩ ⟨Nat.zero_le _, Nat.zero_le _⟩ rfl (Nat.le_of_ble_eq_true rfl) rfl hl.1 hP hD hS dL_thoughts_67 (fun H locs hP hD hS => ?_)
      refine lv_lload hx hb dL_thoughts_70 (lv_at hl 0 rfl) ?_
      refine W.lcmp hx hb dL_thoughts_72 ?_
      refine lv_if_ne (tgt := 80) hx hb dL_thoughts_73 (by decide) (fun c_97 => ?_) (fun c_97 => ?_)
      · replace h := ite_f h c_97
        refine lv_iconst (v := 0) hx hb dL_thoughts_80 (by decide) ?_
        cases h
        exact rt_z C hP hD hS rfl dL_thoughts_81
      · replace h := ite_t h c_97
        refine lv_iconst (v := 1) hx hb dL_thoughts_76 (by decide) ?_
        refine lv_goto (tgt := 81) hx hb dL_thoughts_77 (by decide) ?_
        cases h
        exact rt_z C hP hD hS rfl dL_thoughts_81
abbrev rm_L_refuses : Room := { frames := 7, cells := 0, slots := 0, locals := 156 }
theorem hd_L_refuses : yL_refuses.cls ≠ "java/lang/invoke/MethodHandle" ∧ yL_refuses.cls ≠ "java/lang/invoke/VarHandle" ∧ (parseMethodDescriptor yL_refuses.desc).map (fun d => d.parameters.length) = some 1 := ⟨by decide +kernel, by decide +kernel, by decide +kernel⟩
set_option maxHeartbeats 4000000 in
set_option maxRecDepth 100000 in
theorem bs_L_refuses_368 {p : Program} {l : Launch} {e : Env} {s : State} {m : MethodId} {args : Array Value} {below : List Frame} {meth : Method} {c : Code} {D : va_G} {cy : Cy} {A : Nat → Prop} {T : Ty} {R9 : Rm} {r : Int32} {M9 : Mm} {a0 : Nat} (C : Cx RL cL_refuses 5 (some .boolean) p s m args meth c D cy A) :
    ∀ (x1 : Int32) (x2 : Int32) (x3 : Int32) (s0 : Int32) (M : Mm) (R : Rm) (H : Heap) (locs : List Loc), fs_L_refuses_368 T a0 x1 x2 x3 s0 M R = some (r, M9, R9) → va_P D vwCl (WL cy T M R) H → va_D A (WL cy T M R) → va_S A s.heap H locs → ∀ ls : Array Slot, lv_has ls 5 [(0, .ref a0), (1, .int x1), (2, .int x2), (3, .int x3)] → W p l e rm_L_refuses s m args below meth c H locs 0 0 (MQ below (QcI D cy T M9 R9 A r) args s 0 0 A) (F0 m 368 ls [.int s0]) := by
  intro x1 x2 x3 s0 M R H locs h hP hD hS ls hl
  unfold fs_L_refuses_368 at h
  obtain ⟨hx, hb, hr, hml, hown, hts, hK, hA, hlk, hSt⟩ := id C
  refine lv_istore (lv' := [(4, .int s0), (0, .ref a0), (1, .int x1), (2, .int x2), (3, .int x3)]) hx hb dL_refuses_368 hl (by decide) rfl (fun ls hl => ?_)
  refine lv_iload hx hb dL_refuses_370 (lv_at hl 0 rfl) ?_
  refine lv_if_eq (tgt := 407) hx hb dL_refuses_372 (by decide) (fun c_1 => ?_) (fun c_1 => ?_)
  · replace h := ite_t h c_1
    refine lv_iconst (v := 0) hx hb dL_refuses_407 (by decide) ?_
    cases h
    exact rt_z C hP hD hS rfl dL_refuses_408
  · replace h := ite_f h c_1
    refine lv_aload_n hx hb dL_refuses_375 rfl (lv_at hl 1 rfl) ?_
    refine lv_bipush (v := 13) hx hb dL_refuses_376 (by decide) ?_
    obtain ⟨k_2, h⟩ := chk_some h
    obtain ⟨r_3, M_4, hc_5, h⟩ := cal_some h
    refine cl_Vi (As := [.int (13 : Int32)]) (rest := []) C (ct_X6_count hc_5) k_2 (by decide) rfl wl_103 wl_104 wl_105 wl_2 wl_106 hd_X6_count ⟨Nat.le_of_ble_eq_true rfl, Nat.le_of_ble_eq_true rfl⟩ ⟨rfl, rfl⟩ ⟨Nat.zero_le _, Nat.zero_le _⟩ rfl (Nat.le_of_ble_eq_true rfl) rfl hl.1 hP hD hS dL_refuses_378 (fun H locs hP hD hS => ?_)
    refine lv_iload_n hx hb dL_refuses_381 rfl (lv_at hl 2 rfl) ?_
    refine lv_icmp_ne (tgt := 407) hx hb dL_refuses_382 (by decide) (fun c_6 => ?_) (fun c_6 => ?_)
    · replace h := ite_f h c_6
      refine lv_iconst (v := 0) hx hb dL_refuses_407 (by decide) ?_
      cases h
      exact rt_z C hP hD hS rfl dL_refuses_408
    · replace h := ite_t h c_6
      refine lv_aload_n hx hb dL_refuses_385 rfl (lv_at hl 1 rfl) ?_
      refine lv_iconst (v := 0) hx hb dL_refuses_386 (by decide) ?_
      obtain ⟨r_7, M_8, hc_9, h⟩ := cal_some h
      refine cl_Vi (As := [.int (0 : Int32)]) (rest := []) C (ct_X6_count hc_9) k_2 (by decide) rfl wl_103 wl_104 wl_105 wl_2 wl_106 hd_X6_count ⟨Nat.le_of_ble_eq_true rfl, Nat.le_of_ble_eq_true rfl⟩ ⟨rfl, rfl⟩ ⟨Nat.zero_le _, Nat.zero_le _⟩ rfl (Nat.le_of_ble_eq_true rfl) rfl hl.1 hP hD hS dL_refuses_387 (fun H locs hP hD hS => ?_)
      refine lv_iload_n hx hb dL_refuses_390 rfl (lv_at hl 3 rfl) ?_
      refine lv_icmp_ne (tgt := 407) hx hb dL_refuses_391 (by decide) (fun c_10 => ?_) (fun c_10 => ?_)
      · replace h := ite_f h c_10
        refine lv_iconst (v := 0) hx hb dL_refuses_407 (by decide) ?_
        cases h
        exact rt_z C hP hD hS rfl dL_refuses_408
      · replace h := ite_t h c_10
        refine lv_aload_n hx hb dL_refuses_394 rfl (lv_at hl 1 rfl) ?_
        refine lv_iconst (v := 2) hx hb dL_refuses_395 (by decide) ?_
        obtain ⟨r_11, M_12, hc_13, h⟩ := cal_some h
        refine cl_Vi (As := [.int (2 : Int32)]) (rest := []) C (ct_X6_count hc_13) k_2 (by decide) rfl wl_103 wl_104 wl_105 wl_2 wl_106 hd_X6_count ⟨Nat.le_of_ble_eq_true rfl, Nat.le_of_ble_eq_true rfl⟩ ⟨rfl, rfl⟩ ⟨Nat.zero_le _, Nat.zero_le _⟩ rfl (Nat.le_of_ble_eq_true rfl) rfl hl.1 hP hD hS dL_refuses_396 (fun H locs hP hD hS => ?_)
        refine lv_iload_n hx hb dL_refuses_399 rfl (lv_at hl 4 rfl) ?_
        refine lv_icmp_ne (tgt := 407) hx hb dL_refuses_400 (by decide) (fun c_14 => ?_) (fun c_14 => ?_)
        · replace h := ite_f h c_14
          refine lv_iconst (v := 0) hx hb dL_refuses_407 (by decide) ?_
          cases h
          exact rt_z C hP hD hS rfl dL_refuses_408
        · replace h := ite_t h c_14
          refine lv_iconst (v := 1) hx hb dL_refuses_403 (by decide) ?_
          refine lv_goto (tgt := 408) hx hb dL_refuses_404 (by decide) ?_
          cases h
          exact rt_z C hP hD hS rfl dL_refuses_408
set_option maxHeartbeats 4000000 in
set_option maxRecDepth 100000 in
theorem bs_L_refuses_367 {p : Program} {l : Launch} {e : Env} {s : State} {m : MethodId} {args : Array Value} {below : List Frame} {meth : Method} {c : Code} {D : va_G} {cy : Cy} {A : Nat → Prop} {T : Ty} {R9 : Rm} {r : Int32} {M9 : Mm} {a0 : Nat} (C : Cx RL cL_refuses 5 (some .boolean) p s m args meth c D cy A) :
    ∀ (x1 : Int32) (x2 : Int32) (x3 : Int32) (M : Mm) (R : Rm) (H : Heap) (locs : List Loc), fs_L_refuses_367 T a0 x1 x2 x3 M R = some (r, M9, R9) → va_P D vwCl (WL cy T M R) H → va_D A (WL cy T M R) → va_S A s.heap H locs → ∀ ls : Array Slot, lv_has ls 5 [(0, .ref a0), (1, .int x1), (2, .int x2), (3, .int x3)] → W p l e rm_L_refuses s m args below meth c H locs 0 0 (MQ below (QcI D cy T M9 R9 A r) args s 0 0 A) (F0 m 367 ls []) := by
  intro x1 x2 x3 M R H locs h hP hD hS ls hl
  unfold fs_L_refuses_367 at h
  obtain ⟨hx, hb, hr, hml, hown, hts, hK, hA, hlk, hSt⟩ := id C
  refine lv_iconst (v := 0) hx hb dL_refuses_367 (by decide) ?_
  exact (bs_L_refuses_368 C) _ _ _ _ _ _ _ _ h hP hD hS _ (lv_sub hl [0, 1, 2, 3] rfl)
set_option maxHeartbeats 4000000 in
set_option maxRecDepth 100000 in
theorem bs_L_refuses_239 {p : Program} {l : Launch} {e : Env} {s : State} {m : MethodId} {args : Array Value} {below : List Frame} {meth : Method} {c : Code} {D : va_G} {cy : Cy} {A : Nat → Prop} {T : Ty} {R9 : Rm} {r : Int32} {M9 : Mm} {a0 : Nat} (C : Cx RL cL_refuses 5 (some .boolean) p s m args meth c D cy A) :
    ∀ (x1 : Int32) (x2 : Int32) (x3 : Int32) (s0 : Int32) (M : Mm) (R : Rm) (H : Heap) (locs : List Loc), fs_L_refuses_239 T a0 x1 x2 x3 s0 M R = some (r, M9, R9) → va_P D vwCl (WL cy T M R) H → va_D A (WL cy T M R) → va_S A s.heap H locs → ∀ ls : Array Slot, lv_has ls 5 [(0, .ref a0), (1, .int x1), (2, .int x2), (3, .int x3)] → W p l e rm_L_refuses s m args below meth c H locs 0 0 (MQ below (QcI D cy T M9 R9 A r) args s 0 0 A) (F0 m 239 ls [.int s0]) := by
  intro x1 x2 x3 s0 M R H locs h hP hD hS ls hl
  unfold fs_L_refuses_239 at h
  obtain ⟨hx, hb, hr, hml, hown, hts, hK, hA, hlk, hSt⟩ := id C
  refine lv_istore (lv' := [(4, .int s0), (0, .ref a0), (1, .int x1), (2, .int x2), (3, .int x3)]) hx hb dL_refuses_239 hl (by decide) rfl (fun ls hl => ?_)
  refine lv_iload hx hb dL_refuses_241 (lv_at hl 0 rfl) ?_
  refine lv_if_eq (tgt := 367) hx hb dL_refuses_243 (by decide) (fun c_15 => ?_) (fun c_15 => ?_)
  · replace h := ite_t h c_15
    exact (bs_L_refuses_367 C) _ _ _ _ _ _ _ h hP hD hS _ (lv_sub hl [1, 2, 3, 4] rfl)
  · replace h := ite_f h c_15
    refine lv_aload_n hx hb dL_refuses_246 rfl (lv_at hl 1 rfl) ?_
    refine lv_iload_n hx hb dL_refuses_247 rfl (lv_at hl 3 rfl) ?_
    refine lv_iconst (v := 0) hx hb dL_refuses_248 (by decide) ?_
    refine lv_iconst (v := 1) hx hb dL_refuses_249 (by decide) ?_
    obtain ⟨k_16, h⟩ := chk_some h
    obtain ⟨r_17, M_18, R_20, hc_19, h⟩ := calR_some h
    refine cl_Vi (As := [.int x2, .int (0 : Int32), .int (1 : Int32)]) (rest := []) C (ct_X6_stake hc_19) k_16 (by decide) rfl wl_309 wl_310 wl_311 wl_2 wl_312 hd_X6_stake ⟨Nat.le_of_ble_eq_true rfl, Nat.le_of_ble_eq_true rfl⟩ ⟨rfl, rfl⟩ ⟨Nat.zero_le _, Nat.zero_le _⟩ rfl (Nat.le_of_ble_eq_true rfl) rfl hl.1 hP hD hS dL_refuses_250 (fun H locs hP hD hS => ?_)
    refine lv_ldc (own := RL) (v := -2000000001) hx hb hown (hts _ wl_100) dL_refuses_253 ?_
    refine lv_icmp_ne (tgt := 367) hx hb dL_refuses_255 (by decide) (fun c_21 => ?_) (fun c_21 => ?_)
    · replace h := ite_f h c_21
      exact (bs_L_refuses_367 C) _ _ _ _ _ _ _ h hP hD hS _ (lv_sub hl [1, 2, 3, 4] rfl)
    · replace h := ite_t h c_21
      refine lv_aload_n hx hb dL_refuses_258 rfl (lv_at hl 1 rfl) ?_
      refine lv_iload_n hx hb dL_refuses_259 rfl (lv_at hl 4 rfl) ?_
      obtain ⟨r_22, M_23, R_25, hc_24, h⟩ := calR_some h
      refine cl_Vi (As := [.int x3]) (rest := []) C (ct_X6_pull hc_24) k_16 (by decide) rfl wl_327 wl_328 wl_329 wl_2 wl_330 hd_X6_pull ⟨Nat.le_of_ble_eq_true rfl, Nat.le_of_ble_eq_true rfl⟩ ⟨rfl, rfl⟩ ⟨Nat.zero_le _, Nat.zero_le _⟩ rfl (Nat.le_of_ble_eq_true rfl) rfl hl.1 hP hD hS dL_refuses_260 (fun H locs hP hD hS => ?_)
      refine lv_ldc (own := RL) (v := -2000000001) hx hb hown (hts _ wl_100) dL_refuses_263 ?_
      refine lv_icmp_ne (tgt := 367) hx hb dL_refuses_265 (by decide) (fun c_26 => ?_) (fun c_26 => ?_)
      · replace h := ite_f h c_26
        exact (bs_L_refuses_367 C) _ _ _ _ _ _ _ h hP hD hS _ (lv_sub hl [1, 2, 3, 4] rfl)
      · replace h := ite_t h c_26
        refine lv_aload_n hx hb dL_refuses_268 rfl (lv_at hl 1 rfl) ?_
        refine lv_iload_n hx hb dL_refuses_269 rfl (lv_at hl 4 rfl) ?_
        refine lv_iconst (v := 0) hx hb dL_refuses_270 (by decide) ?_
        obtain ⟨r_27, M_28, hc_29, h⟩ := cal_some h
        refine cl_Vi (As := [.int x3, .int (0 : Int32)]) (rest := []) C (ct_X6_stakeInfo hc_29) k_16 (by decide) rfl wl_340 wl_341 wl_342 wl_2 wl_343 hd_X6_stakeInfo ⟨Nat.le_of_ble_eq_true rfl, Nat.le_of_ble_eq_true rfl⟩ ⟨rfl, rfl⟩ ⟨Nat.zero_le _, Nat.zero_le _⟩ rfl (Nat.le_of_ble_eq_true rfl) rfl hl.1 hP hD hS dL_refuses_271 (fun H locs hP hD hS => ?_)
        refine lv_ldc (own := RL) (v := -2000000001) hx hb hown (hts _ wl_100) dL_refuses_274 ?_
        refine lv_icmp_ne (tgt := 367) hx hb dL_refuses_276 (by decide) (fun c_30 => ?_) (fun c_30 => ?_)
        · replace h := ite_f h c_30
          exact (bs_L_refuses_367 C) _ _ _ _ _ _ _ h hP hD hS _ (lv_sub hl [1, 2, 3, 4] rfl)
        · replace h := ite_t h c_30
          refine lv_aload_n hx hb dL_refuses_279 rfl (lv_at hl 1 rfl) ?_
          refine lv_iconst (v := -1) hx hb dL_refuses_280 (by decide) ?_
          obtain ⟨r_31, M_32, hc_33, h⟩ := cal_some h
          refine cl_Vi (As := [.int (-1 : Int32)]) (rest := []) C (ct_X6_stakesIn hc_33) k_16 (by decide) rfl wl_351 wl_352 wl_353 wl_2 wl_354 hd_X6_stakesIn ⟨Nat.le_of_ble_eq_true rfl, Nat.le_of_ble_eq_true rfl⟩ ⟨rfl, rfl⟩ ⟨Nat.zero_le _, Nat.zero_le _⟩ rfl (Nat.le_of_ble_eq_true rfl) rfl hl.1 hP hD hS dL_refuses_281 (fun H locs hP hD hS => ?_)
          refine lv_ldc (own := RL) (v := -2000000001) hx hb hown (hts _ wl_100) dL_refuses_284 ?_
          refine lv_icmp_ne (tgt := 367) hx hb dL_refuses_286 (by decide) (fun c_34 => ?_) (fun c_34 => ?_)
          · replace h := ite_f h c_34
            exact (bs_L_refuses_367 C) _ _ _ _ _ _ _ h hP hD hS _ (lv_sub hl [1, 2, 3, 4] rfl)
          · replace h := ite_t h c_34
            refine lv_aload_n hx hb dL_refuses_289 rfl (lv_at hl 1 rfl) ?_
            refine lv_iconst (v := 0) hx hb dL_refuses_290 (by decide) ?_
            obtain ⟨r_35, M_36, R_38, hc_37, h⟩ := calR_some h
            refine cl_Vi (As := [.int (0 : Int32)]) (rest := []) C (ct_X6_years hc_37) k_16 (by decide) rfl wl_355 wl_356 wl_357 wl_2 wl_358 hd_X6_years ⟨Nat.le_of_ble_eq_true rfl, Nat.le_of_ble_eq_true rfl⟩ ⟨rfl, rfl⟩ ⟨Nat.zero_le _, Nat.zero_le _⟩ rfl (Nat.le_of_ble_eq_true rfl) rfl hl.1 hP hD hS dL_refuses_291 (fun H locs hP hD hS => ?_)
            refine lv_ldc (own := RL) (v := -2000000001) hx hb hown (hts _ wl_100) dL_refuses_294 ?_
            refine lv_icmp_ne (tgt := 367) hx hb dL_refuses_296 (by decide) (fun c_39 => ?_) (fun c_39 => ?_)
            · replace h := ite_f h c_39
              exact (bs_L_refuses_367 C) _ _ _ _ _ _ _ h hP hD hS _ (lv_sub hl [1, 2, 3, 4] rfl)
            · replace h := ite_t h c_39
              refine lv_aload_n hx hb dL_refuses_299 rfl (lv_at hl 1 rfl) ?_
              refine lv_bipush (v := 101) hx hb dL_refuses_300 (by decide) ?_
              obtain ⟨r_40, M_41, R_43, hc_42, h⟩ := calR_some h
              refine cl_Vi (As := [.int (101 : Int32)]) (rest := []) C (ct_X6_years hc_42) k_16 (by decide) rfl wl_355 wl_356 wl_357 wl_2 wl_358 hd_X6_years ⟨Nat.le_of_ble_eq_true rfl, Nat.le_of_ble_eq_true rfl⟩ ⟨rfl, rfl⟩ ⟨Nat.zero_le _, Nat.zero_le _⟩ rfl (Nat.le_of_ble_eq_true rfl) rfl hl.1 hP hD hS dL_refuses_302 (fun H locs hP hD hS => ?_)
              refine lv_ldc (own := RL) (v := -2000000001) hx hb hown (hts _ wl_100) dL_refuses_305 ?_
              refine lv_icmp_ne (tgt := 367) hx hb dL_refuses_307 (by decide) (fun c_44 => ?_) (fun c_44 => ?_)
              · replace h := ite_f h c_44
                exact (bs_L_refuses_367 C) _ _ _ _ _ _ _ h hP hD hS _ (lv_sub hl [1, 2, 3, 4] rfl)
              · replace h := ite_t h c_44
                refine lv_aload_n hx hb dL_refuses_310 rfl (lv_at hl 1 rfl) ?_
                refine lv_iconst (v := 0) hx hb dL_refuses_311 (by decide) ?_
                refine lv_iconst (v := 0) hx hb dL_refuses_312 (by decide) ?_
                obtain ⟨r_45, M_46, hc_47, h⟩ := cal_some h
                refine cl_Vi (As := [.int (0 : Int32), .int (0 : Int32)]) (rest := []) C (ct_X6_ifYears hc_47) k_16 (by decide) rfl wl_419 wl_420 wl_421 wl_2 wl_422 hd_X6_ifYears ⟨Nat.le_of_ble_eq_true rfl, Nat.le_of_ble_eq_true rfl⟩ ⟨rfl, rfl⟩ ⟨Nat.zero_le _, Nat.zero_le _⟩ rfl (Nat.le_of_ble_eq_true rfl) rfl hl.1 hP hD hS dL_refuses_313 (fun H locs hP hD hS => ?_)
                refine lv_ldc (own := RL) (v := -2000000001) hx hb hown (hts _ wl_100) dL_refuses_316 ?_
                refine lv_icmp_ne (tgt := 367) hx hb dL_refuses_318 (by decide) (fun c_48 => ?_) (fun c_48 => ?_)
                · replace h := ite_f h c_48
                  exact (bs_L_refuses_367 C) _ _ _ _ _ _ _ h hP hD hS _ (lv_sub hl [1, 2, 3, 4] rfl)
                · replace h := ite_t h c_48
                  refine lv_aload_n hx hb dL_refuses_321 rfl (lv_at hl 1 rfl) ?_
                  refine lv_iconst (v := 1) hx hb dL_refuses_322 (by decide) ?_
                  refine lv_iconst (v := 5) hx hb dL_refuses_323 (by decide) ?_
                  obtain ⟨r_49, M_50, hc_51, h⟩ := cal_some h
                  refine cl_Vi (As := [.int (1 : Int32), .int (5 : Int32)]) (rest := []) C (ct_X6_ifYears hc_51) k_16 (by decide) rfl wl_419 wl_420 wl_421 wl_2 wl_422 hd_X6_ifYears ⟨Nat.le_of_ble_eq_true rfl, Nat.le_of_ble_eq_true rfl⟩ ⟨rfl, rfl⟩ ⟨Nat.zero_le _, Nat.zero_le _⟩ rfl (Nat.le_of_ble_eq_true rfl) rfl hl.1 hP hD hS dL_refuses_324 (fun H locs hP hD hS => ?_)
                  refine lv_ldc (own := RL) (v := -2000000001) hx hb hown (hts _ wl_100) dL_refuses_327 ?_
                  refine lv_icmp_ne (tgt := 367) hx hb dL_refuses_329 (by decide) (fun c_52 => ?_) (fun c_52 => ?_)
                  · replace h := ite_f h c_52
                    exact (bs_L_refuses_367 C) _ _ _ _ _ _ _ h hP hD hS _ (lv_sub hl [1, 2, 3, 4] rfl)
                  · replace h := ite_t h c_52
                    refine lv_aload_n hx hb dL_refuses_332 rfl (lv_at hl 1 rfl) ?_
                    refine lv_iconst (v := 3) hx hb dL_refuses_333 (by decide) ?_
                    obtain ⟨r_53, M_54, hc_55, h⟩ := cal_some h
                    refine cl_Vi (As := [.int (3 : Int32)]) (rest := []) C (ct_X6_yearsTo hc_55) k_16 (by decide) rfl wl_430 wl_431 wl_432 wl_2 wl_433 hd_X6_yearsTo ⟨Nat.le_of_ble_eq_true rfl, Nat.le_of_ble_eq_true rfl⟩ ⟨rfl, rfl⟩ ⟨Nat.zero_le _, Nat.zero_le _⟩ rfl (Nat.le_of_ble_eq_true rfl) rfl hl.1 hP hD hS dL_refuses_334 (fun H locs hP hD hS => ?_)
                    refine lv_ldc (own := RL) (v := -2000000001) hx hb hown (hts _ wl_100) dL_refuses_337 ?_
                    refine lv_icmp_ne (tgt := 367) hx hb dL_refuses_339 (by decide) (fun c_56 => ?_) (fun c_56 => ?_)
                    · replace h := ite_f h c_56
                      exact (bs_L_refuses_367 C) _ _ _ _ _ _ _ h hP hD hS _ (lv_sub hl [1, 2, 3, 4] rfl)
                    · replace h := ite_t h c_56
                      refine lv_aload_n hx hb dL_refuses_342 rfl (lv_at hl 1 rfl) ?_
                      refine lv_bipush (v := 31) hx hb dL_refuses_343 (by decide) ?_
                      obtain ⟨r_57, M_58, hc_59, h⟩ := cal_some h
                      refine cl_Vi (As := [.int (31 : Int32)]) (rest := []) C (ct_X6_type hc_59) k_16 (by decide) rfl wl_439 wl_440 wl_441 wl_2 wl_442 hd_X6_type ⟨Nat.le_of_ble_eq_true rfl, Nat.le_of_ble_eq_true rfl⟩ ⟨rfl, rfl⟩ ⟨Nat.zero_le _, Nat.zero_le _⟩ rfl (Nat.le_of_ble_eq_true rfl) rfl hl.1 hP hD hS dL_refuses_345 (fun H locs hP hD hS => ?_)
                      refine lv_ldc (own := RL) (v := -2000000001) hx hb hown (hts _ wl_100) dL_refuses_348 ?_
                      refine lv_icmp_ne (tgt := 367) hx hb dL_refuses_350 (by decide) (fun c_60 => ?_) (fun c_60 => ?_)
                      · replace h := ite_f h c_60
                        exact (bs_L_refuses_367 C) _ _ _ _ _ _ _ h hP hD hS _ (lv_sub hl [1, 2, 3, 4] rfl)
                      · replace h := ite_t h c_60
                        refine lv_aload_n hx hb dL_refuses_353 rfl (lv_at hl 1 rfl) ?_
                        refine lv_iconst (v := 2) hx hb dL_refuses_354 (by decide) ?_
                        obtain ⟨r_61, M_62, hc_63, h⟩ := cal_some h
                        refine cl_Vi (As := [.int (2 : Int32)]) (rest := []) C (ct_X6_fault hc_63) k_16 (by decide) rfl wl_447 wl_448 wl_449 wl_2 wl_450 hd_X6_fault ⟨Nat.le_of_ble_eq_true rfl, Nat.le_of_ble_eq_true rfl⟩ ⟨rfl, rfl⟩ ⟨Nat.zero_le _, Nat.zero_le _⟩ rfl (Nat.le_of_ble_eq_true rfl) rfl hl.1 hP hD hS dL_refuses_355 (fun H locs hP hD hS => ?_)
                        refine lv_ldc (own := RL) (v := -2000000001) hx hb hown (hts _ wl_100) dL_refuses_358 ?_
                        refine lv_icmp_ne (tgt := 367) hx hb dL_refuses_360 (by decide) (fun c_64 => ?_) (fun c_64 => ?_)
                        · replace h := ite_f h c_64
                          exact (bs_L_refuses_367 C) _ _ _ _ _ _ _ h hP hD hS _ (lv_sub hl [1, 2, 3, 4] rfl)
                        · replace h := ite_t h c_64
                          refine lv_iconst (v := 1) hx hb dL_refuses_363 (by decide) ?_
                          refine lv_goto (tgt := 368) hx hb dL_refuses_364 (by decide) ?_
                          exact (bs_L_refuses_368 C) _ _ _ _ _ _ _ _ h hP hD hS _ (lv_sub hl [1, 2, 3, 4] rfl)
set_option maxHeartbeats 4000000 in
set_option maxRecDepth 100000 in
theorem bs_L_refuses_238 {p : Program} {l : Launch} {e : Env} {s : State} {m : MethodId} {args : Array Value} {below : List Frame} {meth : Method} {c : Code} {D : va_G} {cy : Cy} {A : Nat → Prop} {T : Ty} {R9 : Rm} {r : Int32} {M9 : Mm} {a0 : Nat} (C : Cx RL cL_refuses 5 (some .boolean) p s m args meth c D cy A) :
    ∀ (x1 : Int32) (x2 : Int32) (x3 : Int32) (M : Mm) (R : Rm) (H : Heap) (locs : List Loc), fs_L_refuses_238 T a0 x1 x2 x3 M R = some (r, M9, R9) → va_P D vwCl (WL cy T M R) H → va_D A (WL cy T M R) → va_S A s.heap H locs → ∀ ls : Array Slot, lv_has ls 5 [(0, .ref a0), (1, .int x1), (2, .int x2), (3, .int x3)] → W p l e rm_L_refuses s m args below meth c H locs 0 0 (MQ below (QcI D cy T M9 R9 A r) args s 0 0 A) (F0 m 238 ls []) := by
  intro x1 x2 x3 M R H locs h hP hD hS ls hl
  unfold fs_L_refuses_238 at h
  obtain ⟨hx, hb, hr, hml, hown, hts, hK, hA, hlk, hSt⟩ := id C
  refine lv_iconst (v := 0) hx hb dL_refuses_238 (by decide) ?_
  exact (bs_L_refuses_239 C) _ _ _ _ _ _ _ _ h hP hD hS _ (lv_sub hl [0, 1, 2, 3] rfl)
set_option maxHeartbeats 4000000 in
set_option maxRecDepth 100000 in
theorem ct_L_refuses {l : Launch} {D : va_G} {cy : Cy} {T : Ty} {R : Rm} {a0 : Nat} {M : Mm} {r : Int32} {M9 : Mm} {R9 : Rm} (h : fn_L_refuses T a0 M R = some (r, M9, R9)) : Ct QcI l yL_refuses cL_refuses 5 (some .boolean) rm_L_refuses D cy T M R [.ref a0] M9 R9 r := by
  unfold fn_L_refuses at h
  refine enter (plainFor_of_name (by decide +kernel)) (Nat.le_of_ble_eq_true rfl) (fun p e s m args below meth c A C hP hD hS ls hl => ?_)
  have hl : lv_has ls 5 [(0, .ref a0)] := hl
  obtain ⟨hx, hb, hr, hml, hown, hts, hK, hA, hlk, hSt⟩ := id C
  refine lv_aload_n hx hb dL_refuses_0 rfl (lv_at hl 0 rfl) ?_
  refine lv_bipush (v := 13) hx hb dL_refuses_1 (by decide) ?_
  obtain ⟨k_65, h⟩ := chk_some h
  obtain ⟨r_66, M_67, hc_68, h⟩ := cal_some h
  refine cl_Vi (As := [.int (13 : Int32)]) (rest := []) C (ct_X6_count hc_68) k_65 (by decide) rfl wl_103 wl_104 wl_105 wl_2 wl_106 hd_X6_count ⟨Nat.le_of_ble_eq_true rfl, Nat.le_of_ble_eq_true rfl⟩ ⟨rfl, rfl⟩ ⟨Nat.zero_le _, Nat.zero_le _⟩ rfl (Nat.le_of_ble_eq_true rfl) rfl hl.1 hP hD hS dL_refuses_3 (fun H locs hP hD hS => ?_)
  refine lv_istore_n (lv' := [(1, .int r_66), (0, .ref a0)]) hx hb dL_refuses_6 rfl hl (by decide) rfl (fun ls hl => ?_)
  refine lv_aload_n hx hb dL_refuses_7 rfl (lv_at hl 1 rfl) ?_
  refine lv_iconst (v := 0) hx hb dL_refuses_8 (by decide) ?_
  obtain ⟨r_69, M_70, hc_71, h⟩ := cal_some h
  refine cl_Vi (As := [.int (0 : Int32)]) (rest := []) C (ct_X6_count hc_71) k_65 (by decide) rfl wl_103 wl_104 wl_105 wl_2 wl_106 hd_X6_count ⟨Nat.le_of_ble_eq_true rfl, Nat.le_of_ble_eq_true rfl⟩ ⟨rfl, rfl⟩ ⟨Nat.zero_le _, Nat.zero_le _⟩ rfl (Nat.le_of_ble_eq_true rfl) rfl hl.1 hP hD hS dL_refuses_9 (fun H locs hP hD hS => ?_)
  refine lv_istore_n (lv' := [(2, .int r_69), (1, .int r_66), (0, .ref a0)]) hx hb dL_refuses_12 rfl hl (by decide) rfl (fun ls hl => ?_)
  refine lv_aload_n hx hb dL_refuses_13 rfl (lv_at hl 2 rfl) ?_
  refine lv_iconst (v := 2) hx hb dL_refuses_14 (by decide) ?_
  obtain ⟨r_72, M_73, hc_74, h⟩ := cal_some h
  refine cl_Vi (As := [.int (2 : Int32)]) (rest := []) C (ct_X6_count hc_74) k_65 (by decide) rfl wl_103 wl_104 wl_105 wl_2 wl_106 hd_X6_count ⟨Nat.le_of_ble_eq_true rfl, Nat.le_of_ble_eq_true rfl⟩ ⟨rfl, rfl⟩ ⟨Nat.zero_le _, Nat.zero_le _⟩ rfl (Nat.le_of_ble_eq_true rfl) rfl hl.1 hP hD hS dL_refuses_15 (fun H locs hP hD hS => ?_)
  refine lv_istore_n (lv' := [(3, .int r_72), (2, .int r_69), (1, .int r_66), (0, .ref a0)]) hx hb dL_refuses_18 rfl hl (by decide) rfl (fun ls hl => ?_)
  refine lv_aload_n hx hb dL_refuses_19 rfl (lv_at hl 3 rfl) ?_
  refine lv_bipush (v := 7) hx hb dL_refuses_20 (by decide) ?_
  refine lv_iconst (v := 0) hx hb dL_refuses_22 (by decide) ?_
  obtain ⟨r_75, M_76, R_78, hc_77, h⟩ := calR_some h
  refine cl_Vi (As := [.int (7 : Int32), .int (0 : Int32)]) (rest := []) C (ct_X6_set hc_77) k_65 (by decide) rfl wl_143 wl_144 wl_145 wl_2 wl_146 hd_X6_set ⟨Nat.le_of_ble_eq_true rfl, Nat.le_of_ble_eq_true rfl⟩ ⟨rfl, rfl⟩ ⟨Nat.zero_le _, Nat.zero_le _⟩ rfl (Nat.le_of_ble_eq_true rfl) rfl hl.1 hP hD hS dL_refuses_23 (fun H locs hP hD hS => ?_)
  refine lv_ldc (own := RL) (v := -2000000001) hx hb hown (hts _ wl_100) dL_refuses_26 ?_
  refine lv_icmp_ne (tgt := 238) hx hb dL_refuses_28 (by decide) (fun c_79 => ?_) (fun c_79 => ?_)
  · replace h := ite_f h c_79
    exact (bs_L_refuses_238 C) _ _ _ _ _ _ _ h hP hD hS _ (lv_sub hl [3, 2, 1, 0] rfl)
  · replace h := ite_t h c_79
    refine lv_aload_n hx hb dL_refuses_31 rfl (lv_at hl 3 rfl) ?_
    refine lv_iconst (v := 0) hx hb dL_refuses_32 (by decide) ?_
    refine lv_sipush (v := 5001) hx hb dL_refuses_33 (by decide) ?_
    obtain ⟨r_80, M_81, R_83, hc_82, h⟩ := calR_some h
    refine cl_Vi (As := [.int (0 : Int32), .int (5001 : Int32)]) (rest := []) C (ct_X6_set hc_82) k_65 (by decide) rfl wl_143 wl_144 wl_145 wl_2 wl_146 hd_X6_set ⟨Nat.le_of_ble_eq_true rfl, Nat.le_of_ble_eq_true rfl⟩ ⟨rfl, rfl⟩ ⟨Nat.zero_le _, Nat.zero_le _⟩ rfl (Nat.le_of_ble_eq_true rfl) rfl hl.1 hP hD hS dL_refuses_36 (fun H locs hP hD hS => ?_)
    refine lv_ldc (own := RL) (v := -2000000001) hx hb hown (hts _ wl_100) dL_refuses_39 ?_
    refine lv_icmp_ne (tgt := 238) hx hb dL_refuses_41 (by decide) (fun c_84 => ?_) (fun c_84 => ?_)
    · replace h := ite_f h c_84
      exact (bs_L_refuses_238 C) _ _ _ _ _ _ _ h hP hD hS _ (lv_sub hl [3, 2, 1, 0] rfl)
    · replace h := ite_t h c_84
      refine lv_aload_n hx hb dL_refuses_44 rfl (lv_at hl 3 rfl) ?_
      refine lv_iconst (v := 1) hx hb dL_refuses_45 (by decide) ?_
      refine lv_sipush (v := 501) hx hb dL_refuses_46 (by decide) ?_
      obtain ⟨r_85, M_86, R_88, hc_87, h⟩ := calR_some h
      refine cl_Vi (As := [.int (1 : Int32), .int (501 : Int32)]) (rest := []) C (ct_X6_set hc_87) k_65 (by decide) rfl wl_143 wl_144 wl_145 wl_2 wl_146 hd_X6_set ⟨Nat.le_of_ble_eq_true rfl, Nat.le_of_ble_eq_true rfl⟩ ⟨rfl, rfl⟩ ⟨Nat.zero_le _, Nat.zero_le _⟩ rfl (Nat.le_of_ble_eq_true rfl) rfl hl.1 hP hD hS dL_refuses_49 (fun H locs hP hD hS => ?_)
      refine lv_ldc (own := RL) (v := -2000000001) hx hb hown (hts _ wl_100) dL_refuses_52 ?_
      refine lv_icmp_ne (tgt := 238) hx hb dL_refuses_54 (by decide) (fun c_89 => ?_) (fun c_89 => ?_)
      · replace h := ite_f h c_89
        exact (bs_L_refuses_238 C) _ _ _ _ _ _ _ h hP hD hS _ (lv_sub hl [3, 2, 1, 0] rfl)
      · replace h := ite_t h c_89
        refine lv_aload_n hx hb dL_refuses_57 rfl (lv_at hl 3 rfl) ?_
        refine lv_iconst (v := 2) hx hb dL_refuses_58 (by decide) ?_
        refine lv_sipush (v := 9001) hx hb dL_refuses_59 (by decide) ?_
        obtain ⟨r_90, M_91, R_93, hc_92, h⟩ := calR_some h
        refine cl_Vi (As := [.int (2 : Int32), .int (9001 : Int32)]) (rest := []) C (ct_X6_set hc_92) k_65 (by decide) rfl wl_143 wl_144 wl_145 wl_2 wl_146 hd_X6_set ⟨Nat.le_of_ble_eq_true rfl, Nat.le_of_ble_eq_true rfl⟩ ⟨rfl, rfl⟩ ⟨Nat.zero_le _, Nat.zero_le _⟩ rfl (Nat.le_of_ble_eq_true rfl) rfl hl.1 hP hD hS dL_refuses_62 (fun H locs hP hD hS => ?_)
        refine lv_ldc (own := RL) (v := -2000000001) hx hb hown (hts _ wl_100) dL_refuses_65 ?_
        refine lv_icmp_ne (tgt := 238) hx hb dL_refuses_67 (by decide) (fun c_94 => ?_) (fun c_94 => ?_)
        · replace h := ite_f h c_94
          exact (bs_L_refuses_238 C) _ _ _ _ _ _ _ h hP hD hS _ (lv_sub hl [3, 2, 1, 0] rfl)
        · replace h := ite_t h c_94
          refine lv_aload_n hx hb dL_refuses_70 rfl (lv_at hl 3 rfl) ?_
          refine lv_iconst (v := 5) hx hb dL_refuses_71 (by decide) ?_
          refine lv_iconst (v := 0) hx hb dL_refuses_72 (by decide) ?_
          obtain ⟨r_95, M_96, R_98, hc_97, h⟩ := calR_some h
          refine cl_Vi (As := [.int (5 : Int32), .int (0 : Int32)]) (rest := []) C (ct_X6_set hc_97) k_65 (by decide) rfl wl_143 wl_144 wl_145 wl_2 wl_146 hd_X6_set ⟨Nat.le_of_ble_eq_true rfl, Nat.le_of_ble_eq_true rfl⟩ ⟨rfl, rfl⟩ ⟨Nat.zero_le _, Nat.zero_le _⟩ rfl (Nat.le_of_ble_eq_true rfl) rfl hl.1 hP hD hS dL_refuses_73 (fun H locs hP hD hS => ?_)
          refine lv_ldc (own := RL) (v := -2000000001) hx hb hown (hts _ wl_100) dL_refuses_76 ?_
          refine lv_icmp_ne (tgt := 238) hx hb dL_refuses_78 (by decide) (fun c_99 => ?_) (fun c_99 => ?_)
          · replace h := ite_f h c_99
            exact (bs_L_refuses_238 C) _ _ _ _ _ _ _ h hP hD hS _ (lv_sub hl [3, 2, 1, 0] rfl)
          · replace h := ite_t h c_99
            refine lv_aload_n hx hb dL_refuses_81 rfl (lv_at hl 3 rfl) ?_
            refine lv_bipush (v := 6) hx hb dL_refuses_82 (by decide) ?_
            refine lv_iconst (v := -1) hx hb dL_refuses_84 (by decide) ?_
            obtain ⟨r_100, M_101, R_103, hc_102, h⟩ := calR_some h
            refine cl_Vi (As := [.int (6 : Int32), .int (-1 : Int32)]) (rest := []) C (ct_X6_set hc_102) k_65 (by decide) rfl wl_143 wl_144 wl_145 wl_2 wl_146 hd_X6_set ⟨Nat.le_of_ble_eq_true rfl, Nat.le_of_ble_eq_true rfl⟩ ⟨rfl, rfl⟩ ⟨Nat.zero_le _, Nat.zero_le _⟩ rfl (Nat.le_of_ble_eq_true rfl) rfl hl.1 hP hD hS dL_refuses_85 (fun H locs hP hD hS => ?_)
            refine lv_ldc (own := RL) (v := -2000000001) hx hb hown (hts _ wl_100) dL_refuses_88 ?_
            refine lv_icmp_ne (tgt := 238) hx hb dL_refuses_90 (by decide) (fun c_104 => ?_) (fun c_104 => ?_)
            · replace h := ite_f h c_104
              exact (bs_L_refuses_238 C) _ _ _ _ _ _ _ h hP hD hS _ (lv_sub hl [3, 2, 1, 0] rfl)
            · replace h := ite_t h c_104
              refine lv_aload_n hx hb dL_refuses_93 rfl (lv_at hl 3 rfl) ?_
              refine lv_sipush (v := 5001) hx hb dL_refuses_94 (by decide) ?_
              refine lv_bipush (v := 100) hx hb dL_refuses_97 (by decide) ?_
              refine lv_iconst (v := 0) hx hb dL_refuses_99 (by decide) ?_
              refine lv_iconst (v := 0) hx hb dL_refuses_100 (by decide) ?_
              obtain ⟨r_105, M_106, R_108, hc_107, h⟩ := calR_some h
              refine cl_Vi (As := [.int (5001 : Int32), .int (100 : Int32), .int (0 : Int32), .int (0 : Int32)]) (rest := []) C (ct_X6_band hc_107) k_65 (by decide) rfl wl_182 wl_183 wl_184 wl_2 wl_185 hd_X6_band ⟨Nat.le_of_ble_eq_true rfl, Nat.le_of_ble_eq_true rfl⟩ ⟨rfl, rfl⟩ ⟨Nat.zero_le _, Nat.zero_le _⟩ rfl (Nat.le_of_ble_eq_true rfl) rfl hl.1 hP hD hS dL_refuses_101 (fun H locs hP hD hS => ?_)
              refine lv_ldc (own := RL) (v := -2000000001) hx hb hown (hts _ wl_100) dL_refuses_104 ?_
              refine lv_icmp_ne (tgt := 238) hx hb dL_refuses_106 (by decide) (fun c_109 => ?_) (fun c_109 => ?_)
              · replace h := ite_f h c_109
                exact (bs_L_refuses_238 C) _ _ _ _ _ _ _ h hP hD hS _ (lv_sub hl [3, 2, 1, 0] rfl)
              · replace h := ite_t h c_109
                refine lv_aload_n hx hb dL_refuses_109 rfl (lv_at hl 3 rfl) ?_
                refine lv_iconst (v := 0) hx hb dL_refuses_110 (by decide) ?_
                refine lv_bipush (v := 99) hx hb dL_refuses_111 (by decide) ?_
                refine lv_iconst (v := 0) hx hb dL_refuses_113 (by decide) ?_
                refine lv_iconst (v := 0) hx hb dL_refuses_114 (by decide) ?_
                obtain ⟨r_110, M_111, R_113, hc_112, h⟩ := calR_some h
                refine cl_Vi (As := [.int (0 : Int32), .int (99 : Int32), .int (0 : Int32), .int (0 : Int32)]) (rest := []) C (ct_X6_band hc_112) k_65 (by decide) rfl wl_182 wl_183 wl_184 wl_2 wl_185 hd_X6_band ⟨Nat.le_of_ble_eq_true rfl, Nat.le_of_ble_eq_true rfl⟩ ⟨rfl, rfl⟩ ⟨Nat.zero_le _, Nat.zero_le _⟩ rfl (Nat.le_of_ble_eq_true rfl) rfl hl.1 hP hD hS dL_refuses_115 (fun H locs hP hD hS => ?_)
                refine lv_ldc (own := RL) (v := -2000000001) hx hb hown (hts _ wl_100) dL_refuses_118 ?_
                refine lv_icmp_ne (tgt := 238) hx hb dL_refuses_120 (by decide) (fun c_114 => ?_) (fun c_114 => ?_)
                · replace h := ite_f h c_114
                  exact (bs_L_refuses_238 C) _ _ _ _ _ _ _ h hP hD hS _ (lv_sub hl [3, 2, 1, 0] rfl)
                · replace h := ite_t h c_114
                  refine lv_aload_n hx hb dL_refuses_123 rfl (lv_at hl 3 rfl) ?_
                  refine lv_iconst (v := 0) hx hb dL_refuses_124 (by decide) ?_
                  refine lv_bipush (v := 100) hx hb dL_refuses_125 (by decide) ?_
                  refine lv_sipush (v := 501) hx hb dL_refuses_127 (by decide) ?_
                  refine lv_iconst (v := 0) hx hb dL_refuses_130 (by decide) ?_
                  obtain ⟨r_115, M_116, R_118, hc_117, h⟩ := calR_some h
                  refine cl_Vi (As := [.int (0 : Int32), .int (100 : Int32), .int (501 : Int32), .int (0 : Int32)]) (rest := []) C (ct_X6_band hc_117) k_65 (by decide) rfl wl_182 wl_183 wl_184 wl_2 wl_185 hd_X6_band ⟨Nat.le_of_ble_eq_true rfl, Nat.le_of_ble_eq_true rfl⟩ ⟨rfl, rfl⟩ ⟨Nat.zero_le _, Nat.zero_le _⟩ rfl (Nat.le_of_ble_eq_true rfl) rfl hl.1 hP hD hS dL_refuses_131 (fun H locs hP hD hS => ?_)
                  refine lv_ldc (own := RL) (v := -2000000001) hx hb hown (hts _ wl_100) dL_refuses_134 ?_
                  refine lv_icmp_ne (tgt := 238) hx hb dL_refuses_136 (by decide) (fun c_119 => ?_) (fun c_119 => ?_)
                  · replace h := ite_f h c_119
                    exact (bs_L_refuses_238 C) _ _ _ _ _ _ _ h hP hD hS _ (lv_sub hl [3, 2, 1, 0] rfl)
                  · replace h := ite_t h c_119
                    refine lv_aload_n hx hb dL_refuses_139 rfl (lv_at hl 3 rfl) ?_
                    refine lv_iconst (v := 0) hx hb dL_refuses_140 (by decide) ?_
                    refine lv_bipush (v := 100) hx hb dL_refuses_141 (by decide) ?_
                    refine lv_iconst (v := 0) hx hb dL_refuses_143 (by decide) ?_
                    refine lv_ldc (own := RL) (v := 1000001) hx hb hown (hts _ wl_101) dL_refuses_144 ?_
                    obtain ⟨r_120, M_121, R_123, hc_122, h⟩ := calR_some h
                    refine cl_Vi (As := [.int (0 : Int32), .int (100 : Int32), .int (0 : Int32), .int (1000001 : Int32)]) (rest := []) C (ct_X6_band hc_122) k_65 (by decide) rfl wl_182 wl_183 wl_184 wl_2 wl_185 hd_X6_band ⟨Nat.le_of_ble_eq_true rfl, Nat.le_of_ble_eq_true rfl⟩ ⟨rfl, rfl⟩ ⟨Nat.zero_le _, Nat.zero_le _⟩ rfl (Nat.le_of_ble_eq_true rfl) rfl hl.1 hP hD hS dL_refuses_146 (fun H locs hP hD hS => ?_)
                    refine lv_ldc (own := RL) (v := -2000000001) hx hb hown (hts _ wl_100) dL_refuses_149 ?_
                    refine lv_icmp_ne (tgt := 238) hx hb dL_refuses_151 (by decide) (fun c_124 => ?_) (fun c_124 => ?_)
                    · replace h := ite_f h c_124
                      exact (bs_L_refuses_238 C) _ _ _ _ _ _ _ h hP hD hS _ (lv_sub hl [3, 2, 1, 0] rfl)
                    · replace h := ite_t h c_124
                      refine lv_aload_n hx hb dL_refuses_154 rfl (lv_at hl 3 rfl) ?_
                      refine lv_iload_n hx hb dL_refuses_155 rfl (lv_at hl 1 rfl) ?_
                      refine lv_iconst (v := 0) hx hb dL_refuses_156 (by decide) ?_
                      obtain ⟨r_125, M_126, R_128, hc_127, h⟩ := calR_some h
                      refine cl_Vi (As := [.int r_69, .int (0 : Int32)]) (rest := []) C (ct_X6_creep hc_127) k_65 (by decide) rfl wl_225 wl_226 wl_227 wl_2 wl_228 hd_X6_creep ⟨Nat.le_of_ble_eq_true rfl, Nat.le_of_ble_eq_true rfl⟩ ⟨rfl, rfl⟩ ⟨Nat.zero_le _, Nat.zero_le _⟩ rfl (Nat.le_of_ble_eq_true rfl) rfl hl.1 hP hD hS dL_refuses_157 (fun H locs hP hD hS => ?_)
                      refine lv_ldc (own := RL) (v := -2000000001) hx hb hown (hts _ wl_100) dL_refuses_160 ?_
                      refine lv_icmp_ne (tgt := 238) hx hb dL_refuses_162 (by decide) (fun c_129 => ?_) (fun c_129 => ?_)
                      · replace h := ite_f h c_129
                        exact (bs_L_refuses_238 C) _ _ _ _ _ _ _ h hP hD hS _ (lv_sub hl [3, 2, 1, 0] rfl)
                      · replace h := ite_t h c_129
                        refine lv_aload_n hx hb dL_refuses_165 rfl (lv_at hl 3 rfl) ?_
                        refine lv_iload_n hx hb dL_refuses_166 rfl (lv_at hl 1 rfl) ?_
                        refine lv_iconst (v := 0) hx hb dL_refuses_167 (by decide) ?_
                        obtain ⟨r_130, M_131, hc_132, h⟩ := cal_some h
                        refine cl_Vi (As := [.int r_69, .int (0 : Int32)]) (rest := []) C (ct_X6_bandInfo hc_132) k_65 (by decide) rfl wl_235 wl_236 wl_237 wl_2 wl_238 hd_X6_bandInfo ⟨Nat.le_of_ble_eq_true rfl, Nat.le_of_ble_eq_true rfl⟩ ⟨rfl, rfl⟩ ⟨Nat.zero_le _, Nat.zero_le _⟩ rfl (Nat.le_of_ble_eq_true rfl) rfl hl.1 hP hD hS dL_refuses_168 (fun H locs hP hD hS => ?_)
                        refine lv_ldc (own := RL) (v := -2000000001) hx hb hown (hts _ wl_100) dL_refuses_171 ?_
                        refine lv_icmp_ne (tgt := 238) hx hb dL_refuses_173 (by decide) (fun c_133 => ?_) (fun c_133 => ?_)
                        · replace h := ite_f h c_133
                          exact (bs_L_refuses_238 C) _ _ _ _ _ _ _ h hP hD hS _ (lv_sub hl [3, 2, 1, 0] rfl)
                        · replace h := ite_t h c_133
                          refine lv_aload_n hx hb dL_refuses_176 rfl (lv_at hl 3 rfl) ?_
                          refine lv_iload_n hx hb dL_refuses_177 rfl (lv_at hl 1 rfl) ?_
                          refine lv_iconst (v := 0) hx hb dL_refuses_178 (by decide) ?_
                          refine lv_iconst (v := 0) hx hb dL_refuses_179 (by decide) ?_
                          obtain ⟨r_134, M_135, hc_136, h⟩ := cal_some h
                          refine cl_Vi (As := [.int r_69, .int (0 : Int32), .int (0 : Int32)]) (rest := []) C (ct_X6_layer hc_136) k_65 (by decide) rfl wl_263 wl_264 wl_265 wl_2 wl_266 hd_X6_layer ⟨Nat.le_of_ble_eq_true rfl, Nat.le_of_ble_eq_true rfl⟩ ⟨rfl, rfl⟩ ⟨Nat.zero_le _, Nat.zero_le _⟩ rfl (Nat.le_of_ble_eq_true rfl) rfl hl.1 hP hD hS dL_refuses_180 (fun H locs hP hD hS => ?_)
                          refine lv_ldc (own := RL) (v := -2000000001) hx hb hown (hts _ wl_100) dL_refuses_183 ?_
                          refine lv_icmp_ne (tgt := 238) hx hb dL_refuses_185 (by decide) (fun c_137 => ?_) (fun c_137 => ?_)
                          · replace h := ite_f h c_137
                            exact (bs_L_refuses_238 C) _ _ _ _ _ _ _ h hP hD hS _ (lv_sub hl [3, 2, 1, 0] rfl)
                          · replace h := ite_t h c_137
                            refine lv_aload_n hx hb dL_refuses_188 rfl (lv_at hl 3 rfl) ?_
                            refine lv_sipush (v := 501) hx hb dL_refuses_189 (by decide) ?_
                            obtain ⟨r_138, M_139, hc_140, h⟩ := cal_some h
                            refine cl_Vi (As := [.int (501 : Int32)]) (rest := []) C (ct_X6_ofYear hc_140) k_65 (by decide) rfl wl_272 wl_273 wl_274 wl_2 wl_275 hd_X6_ofYear ⟨Nat.le_of_ble_eq_true rfl, Nat.le_of_ble_eq_true rfl⟩ ⟨rfl, rfl⟩ ⟨Nat.zero_le _, Nat.zero_le _⟩ rfl (Nat.le_of_ble_eq_true rfl) rfl hl.1 hP hD hS dL_refuses_192 (fun H locs hP hD hS => ?_)
                            refine lv_ldc (own := RL) (v := -2000000001) hx hb hown (hts _ wl_100) dL_refuses_195 ?_
                            refine lv_icmp_ne (tgt := 238) hx hb dL_refuses_197 (by decide) (fun c_141 => ?_) (fun c_141 => ?_)
                            · replace h := ite_f h c_141
                              exact (bs_L_refuses_238 C) _ _ _ _ _ _ _ h hP hD hS _ (lv_sub hl [3, 2, 1, 0] rfl)
                            · replace h := ite_t h c_141
                              refine lv_aload_n hx hb dL_refuses_200 rfl (lv_at hl 3 rfl) ?_
                              refine lv_iconst (v := 4) hx hb dL_refuses_201 (by decide) ?_
                              obtain ⟨r_142, M_143, hc_144, h⟩ := cal_some h
                              refine cl_Vi (As := [.int (4 : Int32)]) (rest := []) C (ct_X6_front hc_144) k_65 (by decide) rfl wl_277 wl_278 wl_279 wl_2 wl_280 hd_X6_front ⟨Nat.le_of_ble_eq_true rfl, Nat.le_of_ble_eq_true rfl⟩ ⟨rfl, rfl⟩ ⟨Nat.zero_le _, Nat.zero_le _⟩ rfl (Nat.le_of_ble_eq_true rfl) rfl hl.1 hP hD hS dL_refuses_202 (fun H locs hP hD hS => ?_)
                              refine lv_ldc (own := RL) (v := -2000000001) hx hb hown (hts _ wl_100) dL_refuses_205 ?_
                              refine lv_icmp_ne (tgt := 238) hx hb dL_refuses_207 (by decide) (fun c_145 => ?_) (fun c_145 => ?_)
                              · replace h := ite_f h c_145
                                exact (bs_L_refuses_238 C) _ _ _ _ _ _ _ h hP hD hS _ (lv_sub hl [3, 2, 1, 0] rfl)
                              · replace h := ite_t h c_145
                                refine lv_aload_n hx hb dL_refuses_210 rfl (lv_at hl 3 rfl) ?_
                                refine lv_bipush (v := 6) hx hb dL_refuses_211 (by decide) ?_
                                obtain ⟨r_146, M_147, hc_148, h⟩ := cal_some h
                                refine cl_Vl (As := [.int (6 : Int32)]) (rest := []) C (ct_X6_account hc_148) k_65 (by decide) rfl wl_286 wl_287 wl_288 wl_2 wl_289 hd_X6_account ⟨Nat.le_of_ble_eq_true rfl, Nat.le_of_ble_eq_true rfl⟩ ⟨rfl, rfl⟩ ⟨Nat.zero_le _, Nat.zero_le _⟩ rfl (Nat.le_of_ble_eq_true rfl) rfl hl.1 hP hD hS dL_refuses_213 (fun H locs hP hD hS => ?_)
                                refine lv_ldc2 (own := RL) (v := -2000000001) hx hb hown (hts _ wl_102) dL_refuses_216 ?_
                                refine W.lcmp hx hb dL_refuses_219 ?_
                                refine lv_if_ne (tgt := 238) hx hb dL_refuses_220 (by decide) (fun c_149 => ?_) (fun c_149 => ?_)
                                · replace h := ite_f h c_149
                                  exact (bs_L_refuses_238 C) _ _ _ _ _ _ _ h hP hD hS _ (lv_sub hl [3, 2, 1, 0] rfl)
                                · replace h := ite_t h c_149
                                  refine lv_aload_n hx hb dL_refuses_223 rfl (lv_at hl 3 rfl) ?_
                                  refine lv_bipush (v := 15) hx hb dL_refuses_224 (by decide) ?_
                                  obtain ⟨r_150, M_151, hc_152, h⟩ := cal_some h
                                  refine cl_Vi (As := [.int (15 : Int32)]) (rest := []) C (ct_X6_count hc_152) k_65 (by decide) rfl wl_103 wl_104 wl_105 wl_2 wl_106 hd_X6_count ⟨Nat.le_of_ble_eq_true rfl, Nat.le_of_ble_eq_true rfl⟩ ⟨rfl, rfl⟩ ⟨Nat.zero_le _, Nat.zero_le _⟩ rfl (Nat.le_of_ble_eq_true rfl) rfl hl.1 hP hD hS dL_refuses_226 (fun H locs hP hD hS => ?_)
                                  refine lv_ldc (own := RL) (v := -2000000001) hx hb hown (hts _ wl_100) dL_refuses_229 ?_
                                  refine lv_icmp_ne (tgt := 238) hx hb dL_refuses_231 (by decide) (fun c_153 => ?_) (fun c_153 => ?_)
                                  · replace h := ite_f h c_153
                                    exact (bs_L_refuses_238 C) _ _ _ _ _ _ _ h hP hD hS _ (lv_sub hl [3, 2, 1, 0] rfl)
                                  · replace h := ite_t h c_153
                                    refine lv_iconst (v := 1) hx hb dL_refuses_234 (by decide) ?_
                                    refine lv_goto (tgt := 239) hx hb dL_refuses_235 (by decide) ?_
                                    exact (bs_L_refuses_239 C) _ _ _ _ _ _ _ _ h hP hD hS _ (lv_sub hl [3, 2, 1, 0] rfl)
