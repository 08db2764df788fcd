abbrev rm_J7_fill_53178 : Room := { frames := 0, cells := 0, slots := 0, locals := 0 }
theorem hd_J7_fill_53178 : yJ7_fill_53178.cls ≠ "java/lang/invoke/MethodHandle" ∧ yJ7_fill_53178.cls ≠ "java/lang/invoke/VarHandle" ∧ (parseMethodDescriptor yJ7_fill_53178.desc).map (fun d => d.parameters.length) = some 2 := ⟨by decide +kernel, by decide +kernel, by decide +kernel⟩
set_option maxHeartbeats 4000000 in
set_option maxRecDepth 100000 in
theorem bs_J7_fill_53178_5 {p : Program} {l : Launch} {e : Env} {s : State} {m : MethodId} {args : Array Value} {below : List Frame} {meth : Method} {c : Code} {D : va_G} {cy : Cy} {A : Nat → Prop} {T : Ty} {R : Rm} {r : Unit} {M9 : Mm} {a0 : Nat} {x1 : Int32} {j5 : Int32 → Int32 → Mm → Option (Unit × Mm)} (C : Cx RJ7 cJ7_fill_53178 4 none p s m args meth c D cy A)
    (hj5 : ∀ (x2 : Int32) (x3 : Int32) (M : Mm) (H : Heap) (locs : List Loc), j5 x2 x3 M = some (r, M9) → va_P D vwCl (WL cy T M R) H → va_D A (WL cy T M R) → va_S A s.heap H locs → ∀ ls : Array Slot, lv_has ls 4 [(0, .ref a0), (1, .int x1), (2, .int x2), (3, .int x3)] → W p l e rm_J7_fill_53178 s m args below meth c H locs 0 0 (MQ below (QcV D cy T M9 R A r) args s 0 0 A) (F0 m 5 ls [])) :
    ∀ (x2 : Int32) (x3 : Int32) (M : Mm) (H : Heap) (locs : List Loc), fs_J7_fill_53178_5 T R a0 x1 j5 x2 x3 M = some (r, M9) → va_P D vwCl (WL cy T M R) H → va_D A (WL cy T M R) → va_S A s.heap H locs → ∀ ls : Array Slot, lv_has ls 4 [(0, .ref a0), (1, .int x1), (2, .int x2), (3, .int x3)] → W p l e rm_J7_fill_53178 s m args below meth c H locs 0 0 (MQ below (QcV D cy T M9 R A r) args s 0 0 A) (F0 m 5 ls []) := by
  intro x2 x3 M H locs h hP hD hS ls hl
  unfold fs_J7_fill_53178_5 at h
  obtain ⟨hx, hb, hr, hml, hown, hts, hK, hA, hlk, hSt⟩ := id C
  refine lv_iload_n hx hb dJ7_fill_53178_5 rfl (lv_at hl 2 rfl) ?_
  refine lv_iload_n hx hb dJ7_fill_53178_6 rfl (lv_at hl 3 rfl) ?_
  refine lv_icmp_ge (tgt := 20) hx hb dJ7_fill_53178_7 (by decide) (fun c_1 => ?_) (fun c_1 => ?_)
  · replace h := ite_t h c_1
    cases h
    exact rt_v C hP hD hS dJ7_fill_53178_20
  · replace h := ite_f h c_1
    refine lv_aload_n hx hb dJ7_fill_53178_10 rfl (lv_at hl 0 rfl) ?_
    refine lv_iload_n hx hb dJ7_fill_53178_11 rfl (lv_at hl 2 rfl) ?_
    refine lv_iload_n hx hb dJ7_fill_53178_12 rfl (lv_at hl 1 rfl) ?_
    obtain ⟨k_2, h⟩ := chk_some h
    obtain ⟨k_3, h⟩ := chk_some h
    refine aw_9 C hP hD hS k_2 k_3 dJ7_fill_53178_13 (fun M_4 H locs eM_4 hP hD hS => ?_)
    replace h := bnd_at h eM_4
    obtain ⟨v_5, ev_5⟩ : ∃ y : Int32, y = (x2 + (1 : Int32)) := ⟨_, rfl⟩
    replace h := bnd_at h ev_5
    refine lv_iinc (v := v_5) (lv' := [(2, .int v_5), (0, .ref a0), (1, .int x1), (3, .int x3)]) hx hb dJ7_fill_53178_14 hl (k := 2) rfl (by rw [ev_5]; rfl) (by decide) rfl (fun ls hl => ?_)
    refine lv_goto (tgt := 5) hx hb dJ7_fill_53178_17 (by decide) ?_
    exact hj5 _ _ _ _ _ h hP hD hS _ (lv_sub hl [1, 2, 0, 3] rfl)
theorem bt_J7_fill_53178_5 {p : Program} {l : Launch} {e : Env} {s : State} {m : MethodId} {args : Array Value} {below : List Frame} {meth : Method} {c : Code} {D : va_G} {cy : Cy} {A : Nat → Prop} {T : Ty} {R : Rm} {r : Unit} {M9 : Mm} {a0 : Nat} {x1 : Int32} (C : Cx RJ7 cJ7_fill_53178 4 none p s m args meth c D cy A) :
    ∀ n : Nat, ∀ (x2 : Int32) (x3 : Int32) (M : Mm) (H : Heap) (locs : List Loc), fb_J7_fill_53178_5 T R a0 x1 n x2 x3 M = some (r, M9) → va_P D vwCl (WL cy T M R) H → va_D A (WL cy T M R) → va_S A s.heap H locs → ∀ ls : Array Slot, lv_has ls 4 [(0, .ref a0), (1, .int x1), (2, .int x2), (3, .int x3)] → W p l e rm_J7_fill_53178 s m args below meth c H locs 0 0 (MQ below (QcV D cy T M9 R A r) args s 0 0 A) (F0 m 5 ls []) := by
  intro n
  induction n with
  | zero =>
    intro _ _ _ H locs h
    exact absurd (show (none : Option (Unit × Mm)) = some _ from h) (by simp)
  | succ n ih => exact fun u0 u1 u2 H locs h => bs_J7_fill_53178_5 (a0 := a0) (x1 := x1) C ih u0 u1 u2 H locs h
set_option maxHeartbeats 4000000 in
set_option maxRecDepth 100000 in
theorem ct_J7_fill_53178 {l : Launch} {D : va_G} {cy : Cy} {T : Ty} {R : Rm} {a0 : Nat} {x1 : Int32} {M : Mm} {r : Unit} {M9 : Mm} (h : fn_J7_fill_53178 T R a0 x1 M = some (r, M9)) : Ct QcV l yJ7_fill_53178 cJ7_fill_53178 4 none rm_J7_fill_53178 D cy T M R [.ref a0, .int x1] M9 R r := by
  unfold fn_J7_fill_53178 at h
  refine enter (by decide +kernel) (Nat.le_of_ble_eq_true rfl) (fun p e s m args below meth c A C hP hD hS ls hl => ?_)
  have hl : lv_has ls 4 [(0, .ref a0), (1, .int x1)] := hl
  obtain ⟨hx, hb, hr, hml, hown, hts, hK, hA, hlk, hSt⟩ := id C
  refine lv_iconst (v := 0) hx hb dJ7_fill_53178_0 (by decide) ?_
  refine lv_istore_n (lv' := [(2, .int (0 : Int32)), (0, .ref a0), (1, .int x1)]) hx hb dJ7_fill_53178_1 rfl hl (by decide) rfl (fun ls hl => ?_)
  refine lv_aload_n hx hb dJ7_fill_53178_2 rfl (lv_at hl 1 rfl) ?_
  obtain ⟨k_6, h⟩ := chk_some h
  refine al_9 C hP k_6 dJ7_fill_53178_3 ?_
  refine lv_topi (fun v_7 ev_7 => ?_)
  replace h := bnd_at h ev_7
  refine lv_istore_n (lv' := [(3, .int v_7), (2, .int (0 : Int32)), (0, .ref a0), (1, .int x1)]) hx hb dJ7_fill_53178_4 rfl hl (by decide) rfl (fun ls hl => ?_)
  exact (bt_J7_fill_53178_5 C FU) _ _ _ _ _ h hP hD hS _ (lv_sub hl [2, 3, 1, 0] rfl)
abbrev rm_X2_leftOf : Room := { frames := 0, cells := 0, slots := 0, locals := 0 }
theorem hd_X2_leftOf : yX2_leftOf.cls = RX2 ∧ yX2_leftOf.cls ≠ "java/lang/invoke/MethodHandle" ∧ yX2_leftOf.cls ≠ "java/lang/invoke/VarHandle" ∧ (parseMethodDescriptor yX2_leftOf.desc).map (fun d => d.parameters.length) = some 1 := ⟨rfl, by decide +kernel, by decide +kernel, by decide +kernel⟩
set_option maxHeartbeats 4000000 in
set_option maxRecDepth 100000 in
theorem ct_X2_leftOf {l : Launch} {D : va_G} {cy : Cy} {T : Ty} {R : Rm} {a0 : Nat} {x1 : Int32} {M : Mm} {r : Int32} {M9 : Mm} (h : fn_X2_leftOf T R a0 x1 M = some (r, M9)) : Ct QcI l yX2_leftOf cX2_leftOf 2 (some .int) rm_X2_leftOf D cy T M R [.ref a0, .int x1] M9 R r := by
  unfold fn_X2_leftOf at h
  refine enter (plainFor_of_name (by decide +kernel)) (Nat.le_of_ble_eq_true rfl) (fun p e s m args below meth c A C hP hD hS ls hl => ?_)
  have hl : lv_has ls 2 [(0, .ref a0), (1, .int x1)] := hl
  obtain ⟨hx, hb, hr, hml, hown, hts, hK, hA, hlk, hSt⟩ := id C
  refine lv_iload_n hx hb dX2_leftOf_0 rfl (lv_at hl 1 rfl) ?_
  refine lv_if_lt (tgt := 20) hx hb dX2_leftOf_1 (by decide) (fun c_1 => ?_) (fun c_1 => ?_)
  · replace h := ite_t h c_1
    refine lv_iconst (v := 0) hx hb dX2_leftOf_20 (by decide) ?_
    cases h
    exact rt_i C hP hD hS dX2_leftOf_21
  · replace h := ite_f h c_1
    refine lv_iload_n hx hb dX2_leftOf_4 rfl (lv_at hl 1 rfl) ?_
    refine lv_sipush (v := 801) hx hb dX2_leftOf_5 (by decide) ?_
    refine lv_icmp_ge (tgt := 20) hx hb dX2_leftOf_8 (by decide) (fun c_2 => ?_) (fun c_2 => ?_)
    · replace h := ite_t h c_2
      refine lv_iconst (v := 0) hx hb dX2_leftOf_20 (by decide) ?_
      cases h
      exact rt_i C hP hD hS dX2_leftOf_21
    · replace h := ite_f h c_2
      refine lv_aload_n hx hb dX2_leftOf_11 rfl (lv_at hl 0 rfl) ?_
      obtain ⟨k_3, h⟩ := chk_some h
      obtain ⟨b_4, eb_4, h⟩ := rfm_some h
      refine gf_2_0 C hP k_3 eb_4 wl_77 dX2_leftOf_12 ?_
      refine lv_iload_n hx hb dX2_leftOf_15 rfl (lv_at hl 1 rfl) ?_
      obtain ⟨k_5, h⟩ := chk_some h
      obtain ⟨k_6, h⟩ := chk_some h
      refine ar_9 C hP k_5 k_6 dX2_leftOf_16 ?_
      refine lv_goto (tgt := 21) hx hb dX2_leftOf_17 (by decide) ?_
      cases h
      exact rt_i C hP hD hS dX2_leftOf_21
abbrev rm_X2_narrow : Room := { frames := 1, cells := 0, slots := 0, locals := 21 }
theorem hd_X2_narrow : yX2_narrow.cls = RX2 ∧ yX2_narrow.cls ≠ "java/lang/invoke/MethodHandle" ∧ yX2_narrow.cls ≠ "java/lang/invoke/VarHandle" ∧ (parseMethodDescriptor yX2_narrow.desc).map (fun d => d.parameters.length) = some 0 := ⟨rfl, by decide +kernel, by decide +kernel, by decide +kernel⟩
set_option maxHeartbeats 4000000 in
set_option maxRecDepth 100000 in
theorem bs_X2_narrow_54 {p : Program} {l : Launch} {e : Env} {s : State} {m : MethodId} {args : Array Value} {below : List Frame} {meth : Method} {c : Code} {D : va_G} {cy : Cy} {A : Nat → Prop} {T : Ty} {R : Rm} {r : Unit} {M9 : Mm} {a0 : Nat} {j54 : Mm → Option (Unit × Mm)} (C : Cx RX2 cX2_narrow 1 none p s m args meth c D cy A)
    (hj54 : ∀  (M : Mm) (H : Heap) (locs : List Loc), j54 M = some (r, M9) → va_P D vwCl (WL cy T M R) H → va_D A (WL cy T M R) → va_S A s.heap H locs → ∀ ls : Array Slot, lv_has ls 1 [(0, .ref a0)] → W p l e rm_X2_narrow s m args below meth c H locs 0 0 (MQ below (QcV D cy T M9 R A r) args s 0 0 A) (F0 m 54 ls [])) :
    ∀  (M : Mm) (H : Heap) (locs : List Loc), fs_X2_narrow_54 T R a0 j54 M = some (r, M9) → va_P D vwCl (WL cy T M R) H → va_D A (WL cy T M R) → va_S A s.heap H locs → ∀ ls : Array Slot, lv_has ls 1 [(0, .ref a0)] → W p l e rm_X2_narrow s m args below meth c H locs 0 0 (MQ below (QcV D cy T M9 R A r) args s 0 0 A) (F0 m 54 ls []) := by
  intro  M H locs h hP hD hS ls hl
  unfold fs_X2_narrow_54 at h
  obtain ⟨hx, hb, hr, hml, hown, hts, hK, hA, hlk, hSt⟩ := id C
  refine lv_aload_n hx hb dX2_narrow_54 rfl (lv_at hl 0 rfl) ?_
  obtain ⟨k_1, h⟩ := chk_some h
  refine gf_2_3 C hP k_1 wl_80 dX2_narrow_55 ?_
  refine lv_aload_n hx hb dX2_narrow_58 rfl (lv_at hl 0 rfl) ?_
  refine gf_2_2 C hP k_1 wl_79 dX2_narrow_59 ?_
  refine lv_icmp_le (tgt := 89) hx hb dX2_narrow_62 (by decide) (fun c_2 => ?_) (fun c_2 => ?_)
  · replace h := ite_t h c_2
    cases h
    exact rt_v C hP hD hS dX2_narrow_89
  · replace h := ite_f h c_2
    refine lv_aload_n hx hb dX2_narrow_65 rfl (lv_at hl 0 rfl) ?_
    refine lv_aload_n hx hb dX2_narrow_66 rfl (lv_at hl 0 rfl) ?_
    refine gf_2_3 C hP k_1 wl_80 dX2_narrow_67 ?_
    obtain ⟨r_3, M_4, hc_5, h⟩ := cal_some h
    refine cl_Vi (As := [.int (gI M a0 3)]) (rest := []) C (ct_X2_leftOf hc_5) k_1 (by decide) rfl wl_130 wl_131 wl_132 wl_65 wl_133 hd_X2_leftOf ⟨Nat.le_of_ble_eq_true rfl, Nat.le_of_ble_eq_true rfl⟩ ⟨rfl, rfl⟩ ⟨Nat.zero_le _, Nat.zero_le _⟩ rfl (Nat.le_of_ble_eq_true rfl) rfl hl.1 hP hD hS dX2_narrow_70 (fun H locs hP hD hS => ?_)
    refine lv_if_ne (tgt := 89) hx hb dX2_narrow_73 (by decide) (fun c_6 => ?_) (fun c_6 => ?_)
    · replace h := ite_f h c_6
      cases h
      exact rt_v C hP hD hS dX2_narrow_89
    · replace h := ite_t h c_6
      refine lv_aload_n hx hb dX2_narrow_76 rfl (lv_at hl 0 rfl) ?_
      refine lv_dup hx hb dX2_narrow_77 rfl ?_
      refine gf_2_3 C hP k_1 wl_80 dX2_narrow_78 ?_
      refine lv_iconst (v := 1) hx hb dX2_narrow_81 (by decide) ?_
      refine lv_isub hx hb dX2_narrow_82 ?_
      refine pf_2_3 C hP hD hS k_1 wl_80 dX2_narrow_83 (fun M_7 H locs eM_7 hP hD hS => ?_)
      replace h := bnd_at h eM_7
      refine lv_goto (tgt := 54) hx hb dX2_narrow_86 (by decide) ?_
      exact hj54 _ _ _ h hP hD hS _ (lv_sub hl [0] rfl)
theorem bt_X2_narrow_54 {p : Program} {l : Launch} {e : Env} {s : State} {m : MethodId} {args : Array Value} {below : List Frame} {meth : Method} {c : Code} {D : va_G} {cy : Cy} {A : Nat → Prop} {T : Ty} {R : Rm} {r : Unit} {M9 : Mm} {a0 : Nat} (C : Cx RX2 cX2_narrow 1 none p s m args meth c D cy A) :
    ∀ n : Nat, ∀  (M : Mm) (H : Heap) (locs : List Loc), fb_X2_narrow_54 T R a0 n M = some (r, M9) → va_P D vwCl (WL cy T M R) H → va_D A (WL cy T M R) → va_S A s.heap H locs → ∀ ls : Array Slot, lv_has ls 1 [(0, .ref a0)] → W p l e rm_X2_narrow s m args below meth c H locs 0 0 (MQ below (QcV D cy T M9 R A r) args s 0 0 A) (F0 m 54 ls []) := by
  intro n
  induction n with
  | zero =>
    intro _ H locs h
    exact absurd (show (none : Option (Unit × Mm)) = some _ from h) (by simp)
  | succ n ih => exact fun u0 H locs h => bs_X2_narrow_54 (a0 := a0) C ih u0 H locs h
set_option maxHeartbeats 4000000 in
set_option maxRecDepth 100000 in
theorem bs_X2_narrow_19 {p : Program} {l : Launch} {e : Env} {s : State} {m : MethodId} {args : Array Value} {below : List Frame} {meth : Method} {c : Code} {D : va_G} {cy : Cy} {A : Nat → Prop} {T : Ty} {R : Rm} {r : Unit} {M9 : Mm} {a0 : Nat} {j19 : Mm → Option (Unit × Mm)} {j54 : Mm → Option (Unit × Mm)} (C : Cx RX2 cX2_narrow 1 none p s m args meth c D cy A)
    (hj19 : ∀  (M : Mm) (H : Heap) (locs : List Loc), j19 M = some (r, M9) → va_P D vwCl (WL cy T M R) H → va_D A (WL cy T M R) → va_S A s.heap H locs → ∀ ls : Array Slot, lv_has ls 1 [(0, .ref a0)] → W p l e rm_X2_narrow s m args below meth c H locs 0 0 (MQ below (QcV D cy T M9 R A r) args s 0 0 A) (F0 m 19 ls []))
    (hj54 : ∀  (M : Mm) (H : Heap) (locs : List Loc), j54 M = some (r, M9) → va_P D vwCl (WL cy T M R) H → va_D A (WL cy T M R) → va_S A s.heap H locs → ∀ ls : Array Slot, lv_has ls 1 [(0, .ref a0)] → W p l e rm_X2_narrow s m args below meth c H locs 0 0 (MQ below (QcV D cy T M9 R A r) args s 0 0 A) (F0 m 54 ls [])) :
    ∀  (M : Mm) (H : Heap) (locs : List Loc), fs_X2_narrow_19 T R a0 j19 j54 M = some (r, M9) → va_P D vwCl (WL cy T M R) H → va_D A (WL cy T M R) → va_S A s.heap H locs → ∀ ls : Array Slot, lv_has ls 1 [(0, .ref a0)] → W p l e rm_X2_narrow s m args below meth c H locs 0 0 (MQ below (QcV D cy T M9 R A r) args s 0 0 A) (F0 m 19 ls []) := by
  intro  M H locs h hP hD hS ls hl
  unfold fs_X2_narrow_19 at h
  obtain ⟨hx, hb, hr, hml, hown, hts, hK, hA, hlk, hSt⟩ := id C
  refine lv_aload_n hx hb dX2_narrow_19 rfl (lv_at hl 0 rfl) ?_
  obtain ⟨k_8, h⟩ := chk_some h
  refine gf_2_2 C hP k_8 wl_79 dX2_narrow_20 ?_
  refine lv_aload_n hx hb dX2_narrow_23 rfl (lv_at hl 0 rfl) ?_
  refine gf_2_3 C hP k_8 wl_80 dX2_narrow_24 ?_
  refine lv_icmp_ge (tgt := 54) hx hb dX2_narrow_27 (by decide) (fun c_9 => ?_) (fun c_9 => ?_)
  · replace h := ite_t h c_9
    exact hj54 _ _ _ h hP hD hS _ (lv_sub hl [0] rfl)
  · replace h := ite_f h c_9
    refine lv_aload_n hx hb dX2_narrow_30 rfl (lv_at hl 0 rfl) ?_
    refine lv_aload_n hx hb dX2_narrow_31 rfl (lv_at hl 0 rfl) ?_
    refine gf_2_2 C hP k_8 wl_79 dX2_narrow_32 ?_
    obtain ⟨r_10, M_11, hc_12, h⟩ := cal_some h
    refine cl_Vi (As := [.int (gI M a0 2)]) (rest := []) C (ct_X2_leftOf hc_12) k_8 (by decide) rfl wl_130 wl_131 wl_132 wl_65 wl_133 hd_X2_leftOf ⟨Nat.le_of_ble_eq_true rfl, Nat.le_of_ble_eq_true rfl⟩ ⟨rfl, rfl⟩ ⟨Nat.zero_le _, Nat.zero_le _⟩ rfl (Nat.le_of_ble_eq_true rfl) rfl hl.1 hP hD hS dX2_narrow_35 (fun H locs hP hD hS => ?_)
    refine lv_if_ne (tgt := 54) hx hb dX2_narrow_38 (by decide) (fun c_13 => ?_) (fun c_13 => ?_)
    · replace h := ite_f h c_13
      exact hj54 _ _ _ h hP hD hS _ (lv_sub hl [0] rfl)
    · replace h := ite_t h c_13
      refine lv_aload_n hx hb dX2_narrow_41 rfl (lv_at hl 0 rfl) ?_
      refine lv_dup hx hb dX2_narrow_42 rfl ?_
      refine gf_2_2 C hP k_8 wl_79 dX2_narrow_43 ?_
      refine lv_iconst (v := 1) hx hb dX2_narrow_46 (by decide) ?_
      refine lv_iadd hx hb dX2_narrow_47 ?_
      refine pf_2_2 C hP hD hS k_8 wl_79 dX2_narrow_48 (fun M_14 H locs eM_14 hP hD hS => ?_)
      replace h := bnd_at h eM_14
      refine lv_goto (tgt := 19) hx hb dX2_narrow_51 (by decide) ?_
      exact hj19 _ _ _ h hP hD hS _ (lv_sub hl [0] rfl)
theorem bt_X2_narrow_19 {p : Program} {l : Launch} {e : Env} {s : State} {m : MethodId} {args : Array Value} {below : List Frame} {meth : Method} {c : Code} {D : va_G} {cy : Cy} {A : Nat → Prop} {T : Ty} {R : Rm} {r : Unit} {M9 : Mm} {a0 : Nat} {j54 : Mm → Option (Unit × Mm)} (C : Cx RX2 cX2_narrow 1 none p s m args meth c D cy A)
    (hj54 : ∀  (M : Mm) (H : Heap) (locs : List Loc), j54 M = some (r, M9) → va_P D vwCl (WL cy T M R) H → va_D A (WL cy T M R) → va_S A s.heap H locs → ∀ ls : Array Slot, lv_has ls 1 [(0, .ref a0)] → W p l e rm_X2_narrow s m args below meth c H locs 0 0 (MQ below (QcV D cy T M9 R A r) args s 0 0 A) (F0 m 54 ls [])) :
    ∀ n : Nat, ∀  (M : Mm) (H : Heap) (locs : List Loc), fb_X2_narrow_19 T R a0 j54 n M = some (r, M9) → va_P D vwCl (WL cy T M R) H → va_D A (WL cy T M R) → va_S A s.heap H locs → ∀ ls : Array Slot, lv_has ls 1 [(0, .ref a0)] → W p l e rm_X2_narrow s m args below meth c H locs 0 0 (MQ below (QcV D cy T M9 R A r) args s 0 0 A) (F0 m 19 ls []) := by
  intro n
  induction n with
  | zero =>
    intro _ H locs h
    exact absurd (show (none : Option (Unit × Mm)) = some _ from h) (by simp)
  | succ n ih => exact fun u0 H locs h => bs_X2_narrow_19 (a0 := a0) C ih hj54 u0 H locs h
set_option maxHeartbeats 4000000 in
set_option maxRecDepth 100000 in
theorem ct_X2_narrow {l : Launch} {D : va_G} {cy : Cy} {T : Ty} {R : Rm} {a0 : Nat} {M : Mm} {r : Unit} {M9 : Mm} (h : fn_X2_narrow T R a0 M = some (r, M9)) : Ct QcV l yX2_narrow cX2_narrow 1 none rm_X2_narrow D cy T M R [.ref a0] M9 R r := by
  unfold fn_X2_narrow at h
  refine enter (plainFor_of_name (by decide +kernel)) (Nat.le_of_ble_eq_true rfl) (fun p e s m args below meth c A C hP hD hS ls hl => ?_)
  have hl : lv_has ls 1 [(0, .ref a0)] := hl
  obtain ⟨hx, hb, hr, hml, hown, hts, hK, hA, hlk, hSt⟩ := id C
  refine lv_aload_n hx hb dX2_narrow_0 rfl (lv_at hl 0 rfl) ?_
  obtain ⟨k_15, h⟩ := chk_some h
  refine gf_2_1 C hP k_15 wl_78 dX2_narrow_1 ?_
  refine lv_if_ne (tgt := 19) hx hb dX2_narrow_4 (by decide) (fun c_16 => ?_) (fun c_16 => ?_)
  · replace h := ite_f h c_16
    exact (bt_X2_narrow_19 C (bt_X2_narrow_54 C FU) FU) _ _ _ h hP hD hS _ (lv_sub hl [0] rfl)
  · replace h := ite_t h c_16
    refine lv_aload_n hx hb dX2_narrow_7 rfl (lv_at hl 0 rfl) ?_
    refine lv_sipush (v := 801) hx hb dX2_narrow_8 (by decide) ?_
    refine pf_2_2 C hP hD hS k_15 wl_79 dX2_narrow_11 (fun M_17 H locs eM_17 hP hD hS => ?_)
    replace h := bnd_at h eM_17
    refine lv_aload_n hx hb dX2_narrow_14 rfl (lv_at hl 0 rfl) ?_
    refine lv_iconst (v := -1) hx hb dX2_narrow_15 (by decide) ?_
    refine pf_2_3 C hP hD hS k_15 wl_80 dX2_narrow_16 (fun M_18 H locs eM_18 hP hD hS => ?_)
    replace h := bnd_at h eM_18
    exact (bt_X2_narrow_19 C (bt_X2_narrow_54 C FU) FU) _ _ _ h hP hD hS _ (lv_sub hl [0] rfl)
abbrev rm_X2_empty : Room := { frames := 2, cells := 0, slots := 0, locals := 41 }
theorem hd_X2_empty : yX2_empty.cls = RX2 ∧ yX2_empty.cls ≠ "java/lang/invoke/MethodHandle" ∧ yX2_empty.cls ≠ "java/lang/invoke/VarHandle" ∧ (parseMethodDescriptor yX2_empty.desc).map (fun d => d.parameters.length) = some 0 := ⟨rfl, by decide +kernel, by decide +kernel, by decide +kernel⟩
set_option maxHeartbeats 4000000 in
set_option maxRecDepth 100000 in
theorem ct_X2_empty {l : Launch} {D : va_G} {cy : Cy} {T : Ty} {R : Rm} {a0 : Nat} {M : Mm} {r : Unit} {M9 : Mm} (h : fn_X2_empty T R a0 M = some (r, M9)) : Ct QcV l yX2_empty cX2_empty 1 none rm_X2_empty D cy T M R [.ref a0] M9 R r := by
  unfold fn_X2_empty at h
  refine enter (plainFor_of_name (by decide +kernel)) (Nat.le_of_ble_eq_true rfl) (fun p e s m args below meth c A C hP hD hS ls hl => ?_)
  have hl : lv_has ls 1 [(0, .ref a0)] := hl
  obtain ⟨hx, hb, hr, hml, hown, hts, hK, hA, hlk, hSt⟩ := id C
  refine lv_aload_n hx hb dX2_empty_0 rfl (lv_at hl 0 rfl) ?_
  obtain ⟨k_1, h⟩ := chk_some h
  obtain ⟨b_2, eb_2, h⟩ := rfm_some h
  refine gf_2_0 C hP k_1 eb_2 wl_77 dX2_empty_1 ?_
  refine lv_iconst (v := 0) hx hb dX2_empty_4 (by decide) ?_
  obtain ⟨r_3, M_4, hc_5, h⟩ := cal_some h
  refine cl_Sv (As := [.ref b_2, .int (0 : Int32)]) (rest := []) C (ct_J7_fill_53178 hc_5) wl_206 wl_207 wl_208 wl_209 hd_J7_fill_53178 ⟨Nat.le_of_ble_eq_true rfl, Nat.le_of_ble_eq_true rfl⟩ ⟨rfl, rfl⟩ ⟨Nat.zero_le _, Nat.zero_le _⟩ rfl (Nat.le_of_ble_eq_true rfl) rfl hl.1 hP hD hS dX2_empty_5 (fun H locs hP hD hS => ?_)
  refine lv_aload_n hx hb dX2_empty_8 rfl (lv_at hl 0 rfl) ?_
  refine lv_iconst (v := 0) hx hb dX2_empty_9 (by decide) ?_
  refine pf_2_1 C hP hD hS k_1 wl_78 dX2_empty_10 (fun M_6 H locs eM_6 hP hD hS => ?_)
  replace h := bnd_at h eM_6
  refine lv_aload_n hx hb dX2_empty_13 rfl (lv_at hl 0 rfl) ?_
  obtain ⟨r_7, M_8, hc_9, h⟩ := cal_some h
  refine cl_Vv (As := []) (rest := []) C (ct_X2_narrow hc_9) k_1 (by decide) rfl wl_210 wl_211 wl_212 wl_65 wl_213 hd_X2_narrow ⟨Nat.le_of_ble_eq_true rfl, Nat.le_of_ble_eq_true rfl⟩ ⟨rfl, rfl⟩ ⟨Nat.zero_le _, Nat.zero_le _⟩ rfl (Nat.le_of_ble_eq_true rfl) rfl hl.1 hP hD hS dX2_empty_14 (fun H locs hP hD hS => ?_)
  cases h
  exact rt_v C hP hD hS dX2_empty_17
abbrev rm_X0_begin : Room := { frames := 3, cells := 0, slots := 0, locals := 61 }
theorem hd_X0_begin : yX0_begin.cls = RX0 ∧ yX0_begin.cls ≠ "java/lang/invoke/MethodHandle" ∧ yX0_begin.cls ≠ "java/lang/invoke/VarHandle" ∧ (parseMethodDescriptor yX0_begin.desc).map (fun d => d.parameters.length) = some 3 := ⟨rfl, by decide +kernel, by decide +kernel, by decide +kernel⟩
set_option maxHeartbeats 4000000 in
set_option maxRecDepth 100000 in
theorem ct_X0_begin {l : Launch} {D : va_G} {cy : Cy} {T : Ty} {R : Rm} {a0 : Nat} {x1 : Int32} {x2 : Int32} {x3 : Int32} {M : Mm} {r : Unit} {M9 : Mm} (h : fn_X0_begin T R a0 x1 x2 x3 M = some (r, M9)) : Ct QcV l yX0_begin cX0_begin 4 none rm_X0_begin D cy T M R [.ref a0, .int x1, .int x2, .int x3] M9 R r := by
  unfold fn_X0_begin at h
  refine enter (plainFor_of_name (by decide +kernel)) (Nat.le_of_ble_eq_true rfl) (fun p e s m args below meth c A C hP hD hS ls hl => ?_)
  have hl : lv_has ls 4 [(0, .ref a0), (1, .int x1), (2, .int x2), (3, .int x3)] := hl
  obtain ⟨hx, hb, hr, hml, hown, hts, hK, hA, hlk, hSt⟩ := id C
  refine lv_aload_n hx hb dX0_begin_0 rfl (lv_at hl 0 rfl) ?_
  refine lv_iload_n hx hb dX0_begin_1 rfl (lv_at hl 1 rfl) ?_
  obtain ⟨k_1, h⟩ := chk_some h
  refine pf_0_1 C hP hD hS k_1 wl_67 dX0_begin_2 (fun M_2 H locs eM_2 hP hD hS => ?_)
  replace h := bnd_at h eM_2
  refine lv_aload_n hx hb dX0_begin_5 rfl (lv_at hl 0 rfl) ?_
  refine lv_iload_n hx hb dX0_begin_6 rfl (lv_at hl 2 rfl) ?_
  refine pf_0_2 C hP hD hS k_1 wl_68 dX0_begin_7 (fun M_3 H locs eM_3 hP hD hS => ?_)
  replace h := bnd_at h eM_3
  refine lv_aload_n hx hb dX0_begin_10 rfl (lv_at hl 0 rfl) ?_
  refine lv_iload_n hx hb dX0_begin_11 rfl (lv_at hl 3 rfl) ?_
  refine pf_0_3 C hP hD hS k_1 wl_69 dX0_begin_12 (fun M_4 H locs eM_4 hP hD hS => ?_)
  replace h := bnd_at h eM_4
  refine lv_aload_n hx hb dX0_begin_15 rfl (lv_at hl 0 rfl) ?_
  refine lv_iconst (v := 0) hx hb dX0_begin_16 (by decide) ?_
  refine pf_0_4 C hP hD hS k_1 wl_70 dX0_begin_17 (fun M_5 H locs eM_5 hP hD hS => ?_)
  replace h := bnd_at h eM_5
  refine lv_aload_n hx hb dX0_begin_20 rfl (lv_at hl 0 rfl) ?_
  refine lv_iconst (v := 0) hx hb dX0_begin_21 (by decide) ?_
  refine pf_0_5 C hP hD hS k_1 wl_71 dX0_begin_22 (fun M_6 H locs eM_6 hP hD hS => ?_)
  replace h := bnd_at h eM_6
  refine lv_aload_n hx hb dX0_begin_25 rfl (lv_at hl 0 rfl) ?_
  refine lv_iconst (v := 0) hx hb dX0_begin_26 (by decide) ?_
  refine pf_0_6 C hP hD hS k_1 wl_72 dX0_begin_27 (fun M_7 H locs eM_7 hP hD hS => ?_)
  replace h := bnd_at h eM_7
  refine lv_aload_n hx hb dX0_begin_30 rfl (lv_at hl 0 rfl) ?_
  obtain ⟨b_8, eb_8, h⟩ := rfm_some h
  refine gf_0_0 C hP k_1 eb_8 wl_66 dX0_begin_31 ?_
  obtain ⟨k_9, h⟩ := chk_some h
  obtain ⟨r_10, M_11, hc_12, h⟩ := cal_some h
  refine cl_Vv (As := []) (rest := []) C (ct_X2_empty hc_12) k_9 (by decide) rfl wl_202 wl_203 wl_204 wl_65 wl_205 hd_X2_empty ⟨Nat.le_of_ble_eq_true rfl, Nat.le_of_ble_eq_true rfl⟩ ⟨rfl, rfl⟩ ⟨Nat.zero_le _, Nat.zero_le _⟩ rfl (Nat.le_of_ble_eq_true rfl) rfl hl.1 hP hD hS dX0_begin_34 (fun H locs hP hD hS => ?_)
  cases h
  exact rt_v C hP hD hS dX0_begin_37
abbrev rm_X2_copyFrom : Room := { frames := 1, cells := 0, slots := 0, locals := 18 }
theorem hd_X2_copyFrom : yX2_copyFrom.cls = RX2 ∧ yX2_copyFrom.cls ≠ "java/lang/invoke/MethodHandle" ∧ yX2_copyFrom.cls ≠ "java/lang/invoke/VarHandle" ∧ (parseMethodDescriptor yX2_copyFrom.desc).map (fun d => d.parameters.length) = some 1 := ⟨rfl, by decide +kernel, by decide +kernel, by decide +kernel⟩
set_option maxHeartbeats 4000000 in
set_option maxRecDepth 100000 in
theorem ct_X2_copyFrom {l : Launch} {D : va_G} {cy : Cy} {T : Ty} {R : Rm} {a0 : Nat} {a1 : Nat} {M : Mm} {r : Unit} {M9 : Mm} (h : fn_X2_copyFrom T R a0 a1 M = some (r, M9)) : Ct QcV l yX2_copyFrom cX2_copyFrom 2 none rm_X2_copyFrom D cy T M R [.ref a0, .ref a1] M9 R r := by
  unfold fn_X2_copyFrom at h
  refine enter (plainFor_of_name (by decide +kernel)) (Nat.le_of_ble_eq_true rfl) (fun p e s m args below meth c A C hP hD hS ls hl => ?_)
  have hl : lv_has ls 2 [(0, .ref a0), (1, .ref a1)] := hl
  obtain ⟨hx, hb, hr, hml, hown, hts, hK, hA, hlk, hSt⟩ := id C
  refine lv_aload_n hx hb dX2_copyFrom_0 rfl (lv_at hl 1 rfl) ?_
  obtain ⟨k_1, h⟩ := chk_some h
  obtain ⟨b_2, eb_2, h⟩ := rfm_some h
  refine gf_2_0 C hP k_1 eb_2 wl_77 dX2_copyFrom_1 ?_
  refine lv_iconst (v := 0) hx hb dX2_copyFrom_4 (by decide) ?_
  refine lv_aload_n hx hb dX2_copyFrom_5 rfl (lv_at hl 0 rfl) ?_
  obtain ⟨k_3, h⟩ := chk_some h
  obtain ⟨b_4, eb_4, h⟩ := rfm_some h
  refine gf_2_0 C hP k_3 eb_4 wl_77 dX2_copyFrom_6 ?_
  refine lv_iconst (v := 0) hx hb dX2_copyFrom_9 (by decide) ?_
  refine lv_sipush (v := 801) hx hb dX2_copyFrom_10 (by decide) ?_
  obtain ⟨k_5, h⟩ := chk_some h
  obtain ⟨k_6, h⟩ := chk_some h
  obtain ⟨k_7, h⟩ := chk_some h
  refine cp_9 C hl.1 (Nat.le_of_ble_eq_true rfl) (Nat.le_of_ble_eq_true rfl) wl_173 hP hD hS k_5 k_6 k_7 dX2_copyFrom_13 (fun M_8 H locs eM_8 hP hD hS => ?_)
  replace h := bnd_at h eM_8
  refine lv_aload_n hx hb dX2_copyFrom_16 rfl (lv_at hl 0 rfl) ?_
  refine lv_aload_n hx hb dX2_copyFrom_17 rfl (lv_at hl 1 rfl) ?_
  refine gf_2_1 C hP k_1 wl_78 dX2_copyFrom_18 ?_
  refine pf_2_1 C hP hD hS k_3 wl_78 dX2_copyFrom_21 (fun M_9 H locs eM_9 hP hD hS => ?_)
  replace h := bnd_at h eM_9
  refine lv_aload_n hx hb dX2_copyFrom_24 rfl (lv_at hl 0 rfl) ?_
  refine lv_aload_n hx hb dX2_copyFrom_25 rfl (lv_at hl 1 rfl) ?_
  refine gf_2_2 C hP k_1 wl_79 dX2_copyFrom_26 ?_
  refine pf_2_2 C hP hD hS k_3 wl_79 dX2_copyFrom_29 (fun M_10 H locs eM_10 hP hD hS => ?_)
  replace h := bnd_at h eM_10
  refine lv_aload_n hx hb dX2_copyFrom_32 rfl (lv_at hl 0 rfl) ?_
  refine lv_aload_n hx hb dX2_copyFrom_33 rfl (lv_at hl 1 rfl) ?_
  refine gf_2_3 C hP k_1 wl_80 dX2_copyFrom_34 ?_
  refine pf_2_3 C hP hD hS k_3 wl_80 dX2_copyFrom_37 (fun M_11 H locs eM_11 hP hD hS => ?_)
  replace h := bnd_at h eM_11
  cases h
  exact rt_v C hP hD hS dX2_copyFrom_40
abbrev rm_X0_copyFrom : Room := { frames := 2, cells := 0, slots := 0, locals := 39 }
theorem hd_X0_copyFrom : yX0_copyFrom.cls = RX0 ∧ yX0_copyFrom.cls ≠ "java/lang/invoke/MethodHandle" ∧ yX0_copyFrom.cls ≠ "java/lang/invoke/VarHandle" ∧ (parseMethodDescriptor yX0_copyFrom.desc).map (fun d => d.parameters.length) = some 1 := ⟨rfl, by decide +kernel, by decide +kernel, by decide +kernel⟩
set_option maxHeartbeats 4000000 in
set_option maxRecDepth 100000 in
theorem ct_X0_copyFrom {l : Launch} {D : va_G} {cy : Cy} {T : Ty} {R : Rm} {a0 : Nat} {a1 : Nat} {M : Mm} {r : Unit} {M9 : Mm} (h : fn_X0_copyFrom T R a0 a1 M = some (r, M9)) : Ct QcV l yX0_copyFrom cX0_copyFrom 2 none rm_X0_copyFrom D cy T M R [.ref a0, .ref a1] M9 R r := by
  unfold fn_X0_copyFrom at h
  refine enter (plainFor_of_name (by decide +kernel)) (Nat.le_of_ble_eq_true rfl) (fun p e s m args below meth c A C hP hD hS ls hl => ?_)
  have hl : lv_has ls 2 [(0, .ref a0), (1, .ref a1)] := hl
  obtain ⟨hx, hb, hr, hml, hown, hts, hK, hA, hlk, hSt⟩ := id C
  refine lv_aload_n hx hb dX0_copyFrom_0 rfl (lv_at hl 0 rfl) ?_
  obtain ⟨k_1, h⟩ := chk_some h
  obtain ⟨b_2, eb_2, h⟩ := rfm_some h
  refine gf_0_0 C hP k_1 eb_2 wl_66 dX0_copyFrom_1 ?_
  refine lv_aload_n hx hb dX0_copyFrom_4 rfl (lv_at hl 1 rfl) ?_
  obtain ⟨k_3, h⟩ := chk_some h
  obtain ⟨b_4, eb_4, h⟩ := rfm_some h
  refine gf_0_0 C hP k_3 eb_4 wl_66 dX0_copyFrom_5 ?_
  obtain ⟨k_5, h⟩ := chk_some h
  obtain ⟨r_6, M_7, hc_8, h⟩ := cal_some h
  refine cl_Vv (As := [.ref b_4]) (rest := []) C (ct_X2_copyFrom hc_8) k_5 (by decide) rfl wl_169 wl_170 wl_171 wl_65 wl_172 hd_X2_copyFrom ⟨Nat.le_of_ble_eq_true rfl, Nat.le_of_ble_eq_true rfl⟩ ⟨rfl, rfl⟩ ⟨Nat.zero_le _, Nat.zero_le _⟩ rfl (Nat.le_of_ble_eq_true rfl) rfl hl.1 hP hD hS dX0_copyFrom_8 (fun H locs hP hD hS => ?_)
  refine lv_aload_n hx hb dX0_copyFrom_11 rfl (lv_at hl 0 rfl) ?_
  refine lv_aload_n hx hb dX0_copyFrom_12 rfl (lv_at hl 1 rfl) ?_
  refine gf_0_1 C hP k_3 wl_67 dX0_copyFrom_13 ?_
  refine pf_0_1 C hP hD hS k_1 wl_67 dX0_copyFrom_16 (fun M_9 H locs eM_9 hP hD hS => ?_)
  replace h := bnd_at h eM_9
  refine lv_aload_n hx hb dX0_copyFrom_19 rfl (lv_at hl 0 rfl) ?_
  refine lv_aload_n hx hb dX0_copyFrom_20 rfl (lv_at hl 1 rfl) ?_
  refine gf_0_2 C hP k_3 wl_68 dX0_copyFrom_21 ?_
  refine pf_0_2 C hP hD hS k_1 wl_68 dX0_copyFrom_24 (fun M_10 H locs eM_10 hP hD hS => ?_)
  replace h := bnd_at h eM_10
  refine lv_aload_n hx hb dX0_copyFrom_27 rfl (lv_at hl 0 rfl) ?_
  refine lv_aload_n hx hb dX0_copyFrom_28 rfl (lv_at hl 1 rfl) ?_
  refine gf_0_3 C hP k_3 wl_69 dX0_copyFrom_29 ?_
  refine pf_0_3 C hP hD hS k_1 wl_69 dX0_copyFrom_32 (fun M_11 H locs eM_11 hP hD hS => ?_)
  replace h := bnd_at h eM_11
  refine lv_aload_n hx hb dX0_copyFrom_35 rfl (lv_at hl 0 rfl) ?_
  refine lv_aload_n hx hb dX0_copyFrom_36 rfl (lv_at hl 1 rfl) ?_
  refine gf_0_4 C hP k_3 wl_70 dX0_copyFrom_37 ?_
  refine pf_0_4 C hP hD hS k_1 wl_70 dX0_copyFrom_40 (fun M_12 H locs eM_12 hP hD hS => ?_)
  replace h := bnd_at h eM_12
  refine lv_aload_n hx hb dX0_copyFrom_43 rfl (lv_at hl 0 rfl) ?_
  refine lv_aload_n hx hb dX0_copyFrom_44 rfl (lv_at hl 1 rfl) ?_
  refine gf_0_5 C hP k_3 wl_71 dX0_copyFrom_45 ?_
  refine pf_0_5 C hP hD hS k_1 wl_71 dX0_copyFrom_48 (fun M_13 H locs eM_13 hP hD hS => ?_)
  replace h := bnd_at h eM_13
  refine lv_aload_n hx hb dX0_copyFrom_51 rfl (lv_at hl 0 rfl) ?_
  refine lv_aload_n hx hb dX0_copyFrom_52 rfl (lv_at hl 1 rfl) ?_
  refine gf_0_6 C hP k_3 wl_72 dX0_copyFrom_53 ?_
  refine pf_0_6 C hP hD hS k_1 wl_72 dX0_copyFrom_56 (fun M_14 H locs eM_14 hP hD hS => ?_)
  replace h := bnd_at h eM_14
  cases h
  exact rt_v C hP hD hS dX0_copyFrom_59
abbrev rm_X0_iceToGive : Room := { frames := 0, cells := 0, slots := 0, locals := 0 }
theorem hd_X0_iceToGive : yX0_iceToGive.cls = RX0 ∧ yX0_iceToGive.cls ≠ "java/lang/invoke/MethodHandle" ∧ yX0_iceToGive.cls ≠ "java/lang/invoke/VarHandle" ∧ (parseMethodDescriptor yX0_iceToGive.desc).map (fun d => d.parameters.length) = some 0 := ⟨rfl, by decide +kernel, by decide +kernel, by decide +kernel⟩
set_option maxHeartbeats 4000000 in
set_option maxRecDepth 100000 in
theorem ct_X0_iceToGive {l : Launch} {D : va_G} {cy : Cy} {T : Ty} {R : Rm} {a0 : Nat} {M : Mm} {r : Int32} {M9 : Mm} (h : fn_X0_iceToGive T R a0 M = some (r, M9)) : Ct QcI l yX0_iceToGive cX0_iceToGive 1 (some .int) rm_X0_iceToGive D cy T M R [.ref a0] M9 R r := by
  unfold fn_X0_iceToGive at h
  refine enter (plainFor_of_name (by decide +kernel)) (Nat.le_of_ble_eq_true rfl) (fun p e s m args below meth c A C hP hD hS ls hl => ?_)
  have hl : lv_has ls 1 [(0, .ref a0)] := hl
  obtain ⟨hx, hb, hr, hml, hown, hts, hK, hA, hlk, hSt⟩ := id C
  refine lv_aload_n hx hb dX0_iceToGive_0 rfl (lv_at hl 0 rfl) ?_
  obtain ⟨k_1, h⟩ := chk_some h
  obtain ⟨b_2, eb_2, h⟩ := rfm_some h
  refine gf_0_0 C hP k_1 eb_2 wl_66 dX0_iceToGive_1 ?_
  obtain ⟨k_3, h⟩ := chk_some h
  refine gf_2_1 C hP k_3 wl_392 dX0_iceToGive_4 ?_
  refine lv_i2l hx hb dX0_iceToGive_7 rfl ?_
  refine lv_aload_n hx hb dX0_iceToGive_8 rfl (lv_at hl 0 rfl) ?_
  refine gf_0_3 C hP k_1 wl_69 dX0_iceToGive_9 ?_
  refine lv_i2l hx hb dX0_iceToGive_12 rfl ?_
  refine lv_lmul hx hb dX0_iceToGive_13 ?_
  refine lv_ldc2 (own := RX0) (v := 1000) hx hb hown (hts _ wl_393) dX0_iceToGive_14 ?_
  refine lv_ldiv hx hb dX0_iceToGive_17 (by decide) ?_
  refine lv_l2i hx hb dX0_iceToGive_18 rfl ?_
  cases h
  exact rt_i C hP hD hS dX0_iceToGive_19
abbrev rm_X0_way : Room := { frames := 0, cells := 0, slots := 0, locals := 0 }
theorem hd_X0_way : yX0_way.cls = RX0 ∧ yX0_way.cls ≠ "java/lang/invoke/MethodHandle" ∧ yX0_way.cls ≠ "java/lang/invoke/VarHandle" ∧ (parseMethodDescriptor yX0_way.desc).map (fun d => d.parameters.length) = some 0 := ⟨rfl, by decide +kernel, by decide +kernel, by decide +kernel⟩
set_option maxHeartbeats 4000000 in
set_option maxRecDepth 100000 in
theorem ct_X0_way {l : Launch} {D : va_G} {cy : Cy} {T : Ty} {R : Rm} {a0 : Nat} {M : Mm} {r : Int32} {M9 : Mm} (h : fn_X0_way T R a0 M = some (r, M9)) : Ct QcI l yX0_way cX0_way 1 (some .int) rm_X0_way D cy T M R [.ref a0] M9 R r := by
  unfold fn_X0_way at h
  refine enter (plainFor_of_name (by decide +kernel)) (Nat.le_of_ble_eq_true rfl) (fun p e s m args below meth c A C hP hD hS ls hl => ?_)
  have hl : lv_has ls 1 [(0, .ref a0)] := hl
  obtain ⟨hx, hb, hr, hml, hown, hts, hK, hA, hlk, hSt⟩ := id C
  refine lv_aload_n hx hb dX0_way_0 rfl (lv_at hl 0 rfl) ?_
  obtain ⟨k_1, h⟩ := chk_some h
  refine gf_0_2 C hP k_1 wl_68 dX0_way_1 ?_
  refine lv_aload_n hx hb dX0_way_4 rfl (lv_at hl 0 rfl) ?_
  refine gf_0_3 C hP k_1 wl_69 dX0_way_5 ?_
  refine lv_imul hx hb dX0_way_8 ?_
  refine lv_sipush (v := 1000) hx hb dX0_way_9 (by decide) ?_
  refine lv_idiv hx hb dX0_way_12 (by decide) ?_
  cases h
  exact rt_i C hP hD hS dX0_way_13
abbrev rm_X1_copyFrom : Room := { frames := 0, cells := 0, slots := 0, locals := 0 }
theorem hd_X1_copyFrom : yX1_copyFrom.cls = RX1 ∧ yX1_copyFrom.cls ≠ "java/lang/invoke/MethodHandle" ∧ yX1_copyFrom.cls ≠ "java/lang/invoke/VarHandle" ∧ (parseMethodDescriptor yX1_copyFrom.desc).map (fun d => d.parameters.length) = some 1 := ⟨rfl, by decide +kernel, by decide +kernel, by decide +kernel⟩
set_option maxHeartbeats 4000000 in
set_option maxRecDepth 100000 in
theorem ct_X1_copyFrom {l : Launch} {D : va_G} {cy : Cy} {T : Ty} {R : Rm} {a0 : Nat} {a1 : Nat} {M : Mm} {r : Unit} {M9 : Mm} (h : fn_X1_copyFrom T R a0 a1 M = some (r, M9)) : Ct QcV l yX1_copyFrom cX1_copyFrom 2 none rm_X1_copyFrom D cy T M R [.ref a0, .ref a1] M9 R r := by
  unfold fn_X1_copyFrom at h
  refine enter (plainFor_of_name (by decide +kernel)) (Nat.le_of_ble_eq_true rfl) (fun p e s m args below meth c A C hP hD hS ls hl => ?_)
  have hl : lv_has ls 2 [(0, .ref a0), (1, .ref a1)] := hl
  obtain ⟨hx, hb, hr, hml, hown, hts, hK, hA, hlk, hSt⟩ := id C
  refine lv_aload_n hx hb dX1_copyFrom_0 rfl (lv_at hl 0 rfl) ?_
  refine lv_aload_n hx hb dX1_copyFrom_1 rfl (lv_at hl 1 rfl) ?_
  obtain ⟨k_1, h⟩ := chk_some h
  refine gf_1_0 C hP k_1 wl_56 dX1_copyFrom_2 ?_
  obtain ⟨k_2, h⟩ := chk_some h
  refine pf_1_0 C hP hD hS k_2 wl_56 dX1_copyFrom_5 (fun M_3 H locs eM_3 hP hD hS => ?_)
  replace h := bnd_at h eM_3
  refine lv_aload_n hx hb dX1_copyFrom_8 rfl (lv_at hl 0 rfl) ?_
  refine lv_aload_n hx hb dX1_copyFrom_9 rfl (lv_at hl 1 rfl) ?_
  refine gf_1_1 C hP k_1 wl_57 dX1_copyFrom_10 ?_
  refine pf_1_1 C hP hD hS k_2 wl_57 dX1_copyFrom_13 (fun M_4 H locs eM_4 hP hD hS => ?_)
  replace h := bnd_at h eM_4
  refine lv_aload_n hx hb dX1_copyFrom_16 rfl (lv_at hl 0 rfl) ?_
  refine lv_aload_n hx hb dX1_copyFrom_17 rfl (lv_at hl 1 rfl) ?_
  refine gf_1_2 C hP k_1 wl_58 dX1_copyFrom_18 ?_
  refine pf_1_2 C hP hD hS k_2 wl_58 dX1_copyFrom_21 (fun M_5 H locs eM_5 hP hD hS => ?_)
  replace h := bnd_at h eM_5
  refine lv_aload_n hx hb dX1_copyFrom_24 rfl (lv_at hl 0 rfl) ?_
  refine lv_aload_n hx hb dX1_copyFrom_25 rfl (lv_at hl 1 rfl) ?_
  refine gf_1_3 C hP k_1 wl_59 dX1_copyFrom_26 ?_
  refine pf_1_3 C hP hD hS k_2 wl_59 dX1_copyFrom_29 (fun M_6 H locs eM_6 hP hD hS => ?_)
  replace h := bnd_at h eM_6
  cases h
  exact rt_v C hP hD hS dX1_copyFrom_32
abbrev rm_X1_calve : Room := { frames := 0, cells := 0, slots := 0, locals := 0 }
theorem hd_X1_calve : yX1_calve.cls = RX1 ∧ yX1_calve.cls ≠ "java/lang/invoke/MethodHandle" ∧ yX1_calve.cls ≠ "java/lang/invoke/VarHandle" ∧ (parseMethodDescriptor yX1_calve.desc).map (fun d => d.parameters.length) = some 3 := ⟨rfl, by decide +kernel, by decide +kernel, by decide +kernel⟩
set_option maxHeartbeats 4000000 in
set_option maxRecDepth 100000 in
theorem ct_X1_calve {l : Launch} {D : va_G} {cy : Cy} {T : Ty} {R : Rm} {a0 : Nat} {x1 : Int32} {x2 : Int32} {x3 : Int32} {M : Mm} {r : Int32} {M9 : Mm} (h : fn_X1_calve T R a0 x1 x2 x3 M = some (r, M9)) : Ct QcI l yX1_calve cX1_calve 5 (some .int) rm_X1_calve D cy T M R [.ref a0, .int x1, .int x2, .int x3] M9 R r := by
  unfold fn_X1_calve at h
  refine enter (plainFor_of_name (by decide +kernel)) (Nat.le_of_ble_eq_true rfl) (fun p e s m args below meth c A C hP hD hS ls hl => ?_)
  have hl : lv_has ls 5 [(0, .ref a0), (1, .int x1), (2, .int x2), (3, .int x3)] := hl
  obtain ⟨hx, hb, hr, hml, hown, hts, hK, hA, hlk, hSt⟩ := id C
  refine lv_aload_n hx hb dX1_calve_0 rfl (lv_at hl 0 rfl) ?_
  obtain ⟨k_1, h⟩ := chk_some h
  refine gf_1_1 C hP k_1 wl_57 dX1_calve_1 ?_
  refine lv_if_le (tgt := 19) hx hb dX1_calve_4 (by decide) (fun c_2 => ?_) (fun c_2 => ?_)
  · replace h := ite_t h c_2
    refine lv_iload_n hx hb dX1_calve_19 rfl (lv_at hl 1 rfl) ?_
    refine lv_if_le (tgt := 31) hx hb dX1_calve_20 (by decide) (fun c_3 => ?_) (fun c_3 => ?_)
    · replace h := ite_t h c_3
      refine lv_iconst (v := 0) hx hb dX1_calve_31 (by decide) ?_
      cases h
      exact rt_i C hP hD hS dX1_calve_32
    · replace h := ite_f h c_3
      refine lv_aload_n hx hb dX1_calve_23 rfl (lv_at hl 0 rfl) ?_
      refine gf_1_0 C hP k_1 wl_56 dX1_calve_24 ?_
      refine lv_iload_n hx hb dX1_calve_27 rfl (lv_at hl 1 rfl) ?_
      refine lv_icmp_ge (tgt := 33) hx hb dX1_calve_28 (by decide) (fun c_4 => ?_) (fun c_4 => ?_)
      · replace h := ite_t h c_4
        refine lv_aload_n hx hb dX1_calve_33 rfl (lv_at hl 0 rfl) ?_
        refine gf_1_0 C hP k_1 wl_56 dX1_calve_34 ?_
        refine lv_iload_n hx hb dX1_calve_37 rfl (lv_at hl 1 rfl) ?_
        obtain ⟨k_5, h⟩ := chk_some h
        refine lv_idiv hx hb dX1_calve_38 (of_decide_eq_true k_5) ?_
        refine lv_topi (fun v_6 ev_6 => ?_)
        replace h := bnd_at h ev_6
        refine lv_istore (lv' := [(4, .int v_6), (0, .ref a0), (1, .int x1), (2, .int x2), (3, .int x3)]) hx hb dX1_calve_39 hl (by decide) rfl (fun ls hl => ?_)
        refine lv_aload_n hx hb dX1_calve_41 rfl (lv_at hl 1 rfl) ?_
        refine lv_dup hx hb dX1_calve_42 rfl ?_
        refine gf_1_2 C hP k_1 wl_58 dX1_calve_43 ?_
        refine lv_iload hx hb dX1_calve_46 (lv_at hl 0 rfl) ?_
        refine lv_iadd hx hb dX1_calve_48 ?_
        refine pf_1_2 C hP hD hS k_1 wl_58 dX1_calve_49 (fun M_7 H locs eM_7 hP hD hS => ?_)
        replace h := bnd_at h eM_7
        refine lv_aload_n hx hb dX1_calve_52 rfl (lv_at hl 1 rfl) ?_
        refine lv_dup hx hb dX1_calve_53 rfl ?_
        refine gf_1_0 C hP k_1 wl_56 dX1_calve_54 ?_
        refine lv_iload hx hb dX1_calve_57 (lv_at hl 0 rfl) ?_
        refine lv_iload_n hx hb dX1_calve_59 rfl (lv_at hl 2 rfl) ?_
        refine lv_imul hx hb dX1_calve_60 ?_
        refine lv_isub hx hb dX1_calve_61 ?_
        refine pf_1_0 C hP hD hS k_1 wl_56 dX1_calve_62 (fun M_8 H locs eM_8 hP hD hS => ?_)
        replace h := bnd_at h eM_8
        refine lv_aload_n hx hb dX1_calve_65 rfl (lv_at hl 1 rfl) ?_
        refine lv_iload_n hx hb dX1_calve_66 rfl (lv_at hl 3 rfl) ?_
        refine pf_1_1 C hP hD hS k_1 wl_57 dX1_calve_67 (fun M_9 H locs eM_9 hP hD hS => ?_)
        replace h := bnd_at h eM_9
        refine lv_aload_n hx hb dX1_calve_70 rfl (lv_at hl 1 rfl) ?_
        refine lv_iload_n hx hb dX1_calve_71 rfl (lv_at hl 4 rfl) ?_
        refine pf_1_3 C hP hD hS k_1 wl_59 dX1_calve_72 (fun M_10 H locs eM_10 hP hD hS => ?_)
        replace h := bnd_at h eM_10
        refine lv_iload hx hb dX1_calve_75 (lv_at hl 0 rfl) ?_
        refine lv_iload_n hx hb dX1_calve_77 rfl (lv_at hl 2 rfl) ?_
        refine lv_imul hx hb dX1_calve_78 ?_
        cases h
        exact rt_i C hP hD hS dX1_calve_79
      · replace h := ite_f h c_4
        refine lv_iconst (v := 0) hx hb dX1_calve_31 (by decide) ?_
        cases h
        exact rt_i C hP hD hS dX1_calve_32
  · replace h := ite_f h c_2
    refine lv_aload_n hx hb dX1_calve_7 rfl (lv_at hl 0 rfl) ?_
    refine lv_dup hx hb dX1_calve_8 rfl ?_
    refine gf_1_1 C hP k_1 wl_57 dX1_calve_9 ?_
    refine lv_iconst (v := 1) hx hb dX1_calve_12 (by decide) ?_
    refine lv_isub hx hb dX1_calve_13 ?_
    refine pf_1_1 C hP hD hS k_1 wl_57 dX1_calve_14 (fun M_11 H locs eM_11 hP hD hS => ?_)
    replace h := bnd_at h eM_11
    refine lv_iconst (v := 0) hx hb dX1_calve_17 (by decide) ?_
    cases h
    exact rt_i C hP hD hS dX1_calve_18
abbrev rm_X2_add : Room := { frames := 1, cells := 0, slots := 0, locals := 14 }
theorem hd_X2_add : yX2_add.cls = RX2 ∧ yX2_add.cls ≠ "java/lang/invoke/MethodHandle" ∧ yX2_add.cls ≠ "java/lang/invoke/VarHandle" ∧ (parseMethodDescriptor yX2_add.desc).map (fun d => d.parameters.length) = some 2 := ⟨rfl, by decide +kernel, by decide +kernel, by decide +kernel⟩
set_option maxHeartbeats 4000000 in
set_option maxRecDepth 100000 in
theorem ct_X2_add {l : Launch} {D : va_G} {cy : Cy} {T : Ty} {R : Rm} {a0 : Nat} {x1 : Int32} {x2 : Int32} {M : Mm} {r : Unit} {M9 : Mm} (h : fn_X2_add T R a0 x1 x2 M = some (r, M9)) : Ct QcV l yX2_add cX2_add 3 none rm_X2_add D cy T M R [.ref a0, .int x1, .int x2] M9 R r := by
  unfold fn_X2_add at h
  refine enter (plainFor_of_name (by decide +kernel)) (Nat.le_of_ble_eq_true rfl) (fun p e s m args below meth c A C hP hD hS ls hl => ?_)
  have hl : lv_has ls 3 [(0, .ref a0), (1, .int x1), (2, .int x2)] := hl
  obtain ⟨hx, hb, hr, hml, hown, hts, hK, hA, hlk, hSt⟩ := id C
  refine lv_iload_n hx hb dX2_add_0 rfl (lv_at hl 2 rfl) ?_
  refine lv_if_le (tgt := 15) hx hb dX2_add_1 (by decide) (fun c_1 => ?_) (fun c_1 => ?_)
  · replace h := ite_t h c_1
    cases h
    exact rt_v C hP hD hS dX2_add_15
  · replace h := ite_f h c_1
    refine lv_iload_n hx hb dX2_add_4 rfl (lv_at hl 1 rfl) ?_
    refine lv_if_lt (tgt := 15) hx hb dX2_add_5 (by decide) (fun c_2 => ?_) (fun c_2 => ?_)
    · replace h := ite_t h c_2
      cases h
      exact rt_v C hP hD hS dX2_add_15
    · replace h := ite_f h c_2
      refine lv_iload_n hx hb dX2_add_8 rfl (lv_at hl 1 rfl) ?_
      refine lv_sipush (v := 801) hx hb dX2_add_9 (by decide) ?_
      refine lv_icmp_lt (tgt := 16) hx hb dX2_add_12 (by decide) (fun c_3 => ?_) (fun c_3 => ?_)
      · replace h := ite_t h c_3
        refine lv_aload_n hx hb dX2_add_16 rfl (lv_at hl 0 rfl) ?_
        obtain ⟨k_4, h⟩ := chk_some h
        obtain ⟨b_5, eb_5, h⟩ := rfm_some h
        refine gf_2_0 C hP k_4 eb_5 wl_77 dX2_add_17 ?_
        refine lv_iload_n hx hb dX2_add_20 rfl (lv_at hl 1 rfl) ?_
        refine lv_dup2_11 hx hb dX2_add_21 rfl rfl ?_
        obtain ⟨k_6, h⟩ := chk_some h
        obtain ⟨k_7, h⟩ := chk_some h
        refine ar_9 C hP k_6 k_7 dX2_add_22 ?_
        refine lv_iload_n hx hb dX2_add_23 rfl (lv_at hl 2 rfl) ?_
        refine lv_iadd hx hb dX2_add_24 ?_
        refine aw_9 C hP hD hS k_6 k_7 dX2_add_25 (fun M_8 H locs eM_8 hP hD hS => ?_)
        replace h := bnd_at h eM_8
        refine lv_aload_n hx hb dX2_add_26 rfl (lv_at hl 0 rfl) ?_
        refine lv_dup hx hb dX2_add_27 rfl ?_
        refine gf_2_1 C hP k_4 wl_78 dX2_add_28 ?_
        refine lv_iload_n hx hb dX2_add_31 rfl (lv_at hl 2 rfl) ?_
        refine lv_iadd hx hb dX2_add_32 ?_
        refine pf_2_1 C hP hD hS k_4 wl_78 dX2_add_33 (fun M_9 H locs eM_9 hP hD hS => ?_)
        replace h := bnd_at h eM_9
        refine lv_aload_n hx hb dX2_add_36 rfl (lv_at hl 0 rfl) ?_
        refine lv_aload_n hx hb dX2_add_37 rfl (lv_at hl 0 rfl) ?_
        refine gf_2_2 C hP k_4 wl_79 dX2_add_38 ?_
        refine lv_iload_n hx hb dX2_add_41 rfl (lv_at hl 1 rfl) ?_
        refine va_mmin hx hb (hml.trans hl.1.symm) hown (hts _ wl_218) (hts _ wl_219) (hts _ wl_220) (hts _ wl_221) (Nat.le_of_ble_eq_true rfl) (Nat.le_of_ble_eq_true rfl) (Nat.zero_le _) (Nat.zero_le _) dX2_add_42 ?_
        refine lv_topi (fun v_10 ev_10 => ?_)
        replace h := bnd_at h ev_10
        refine pf_2_2 C hP hD hS k_4 wl_79 dX2_add_45 (fun M_11 H locs eM_11 hP hD hS => ?_)
        replace h := bnd_at h eM_11
        refine lv_aload_n hx hb dX2_add_48 rfl (lv_at hl 0 rfl) ?_
        refine lv_aload_n hx hb dX2_add_49 rfl (lv_at hl 0 rfl) ?_
        refine gf_2_3 C hP k_4 wl_80 dX2_add_50 ?_
        refine lv_iload_n hx hb dX2_add_53 rfl (lv_at hl 1 rfl) ?_
        refine va_mmax hx hb (hml.trans hl.1.symm) hown (hts _ wl_222) (hts _ wl_223) (hts _ wl_220) (hts _ wl_224) (Nat.le_of_ble_eq_true rfl) (Nat.le_of_ble_eq_true rfl) (Nat.zero_le _) (Nat.zero_le _) dX2_add_54 ?_
        refine lv_topi (fun v_12 ev_12 => ?_)
        replace h := bnd_at h ev_12
        refine pf_2_3 C hP hD hS k_4 wl_80 dX2_add_57 (fun M_13 H locs eM_13 hP hD hS => ?_)
        replace h := bnd_at h eM_13
        cases h
        exact rt_v C hP hD hS dX2_add_60
      · replace h := ite_f h c_3
        cases h
        exact rt_v C hP hD hS dX2_add_15
abbrev rm_X2_takeOfYear : Room := { frames := 1, cells := 0, slots := 0, locals := 21 }
theorem hd_X2_takeOfYear : yX2_takeOfYear.cls = RX2 ∧ yX2_takeOfYear.cls ≠ "java/lang/invoke/MethodHandle" ∧ yX2_takeOfYear.cls ≠ "java/lang/invoke/VarHandle" ∧ (parseMethodDescriptor yX2_takeOfYear.desc).map (fun d => d.parameters.length) = some 2 := ⟨rfl, by decide +kernel, by decide +kernel, by decide +kernel⟩
set_option maxHeartbeats 4000000 in
set_option maxRecDepth 100000 in
theorem ct_X2_takeOfYear {l : Launch} {D : va_G} {cy : Cy} {T : Ty} {R : Rm} {a0 : Nat} {x1 : Int32} {x2 : Int32} {M : Mm} {r : Int32} {M9 : Mm} (h : fn_X2_takeOfYear T R a0 x1 x2 M = some (r, M9)) : Ct QcI l yX2_takeOfYear cX2_takeOfYear 4 (some .int) rm_X2_takeOfYear D cy T M R [.ref a0, .int x1, .int x2] M9 R r := by
  unfold fn_X2_takeOfYear at h
  refine enter (plainFor_of_name (by decide +kernel)) (Nat.le_of_ble_eq_true rfl) (fun p e s m args below meth c A C hP hD hS ls hl => ?_)
  have hl : lv_has ls 4 [(0, .ref a0), (1, .int x1), (2, .int x2)] := hl
  obtain ⟨hx, hb, hr, hml, hown, hts, hK, hA, hlk, hSt⟩ := id C
  refine lv_aload_n hx hb dX2_takeOfYear_0 rfl (lv_at hl 0 rfl) ?_
  refine lv_iload_n hx hb dX2_takeOfYear_1 rfl (lv_at hl 1 rfl) ?_
  obtain ⟨k_1, h⟩ := chk_some h
  obtain ⟨r_2, M_3, hc_4, h⟩ := cal_some h
  refine cl_Vi (As := [.int x1]) (rest := []) C (ct_X2_leftOf hc_4) k_1 (by decide) rfl wl_130 wl_131 wl_132 wl_65 wl_133 hd_X2_leftOf ⟨Nat.le_of_ble_eq_true rfl, Nat.le_of_ble_eq_true rfl⟩ ⟨rfl, rfl⟩ ⟨Nat.zero_le _, Nat.zero_le _⟩ rfl (Nat.le_of_ble_eq_true rfl) rfl hl.1 hP hD hS dX2_takeOfYear_2 (fun H locs hP hD hS => ?_)
  refine lv_iload_n hx hb dX2_takeOfYear_5 rfl (lv_at hl 2 rfl) ?_
  refine va_mmin hx hb (hml.trans hl.1.symm) hown (hts _ wl_218) (hts _ wl_219) (hts _ wl_220) (hts _ wl_221) (Nat.le_of_ble_eq_true rfl) (Nat.le_of_ble_eq_true rfl) (Nat.zero_le _) (Nat.zero_le _) dX2_takeOfYear_6 ?_
  refine lv_topi (fun v_5 ev_5 => ?_)
  replace h := bnd_at h ev_5
  refine lv_istore_n (lv' := [(3, .int v_5), (0, .ref a0), (1, .int x1), (2, .int x2)]) hx hb dX2_takeOfYear_9 rfl hl (by decide) rfl (fun ls hl => ?_)
  refine lv_iload_n hx hb dX2_takeOfYear_10 rfl (lv_at hl 0 rfl) ?_
  refine lv_if_le (tgt := 34) hx hb dX2_takeOfYear_11 (by decide) (fun c_6 => ?_) (fun c_6 => ?_)
  · replace h := ite_t h c_6
    refine lv_iload_n hx hb dX2_takeOfYear_34 rfl (lv_at hl 0 rfl) ?_
    cases h
    exact rt_i C hP hD hS dX2_takeOfYear_35
  · replace h := ite_f h c_6
    refine lv_aload_n hx hb dX2_takeOfYear_14 rfl (lv_at hl 1 rfl) ?_
    obtain ⟨b_7, eb_7, h⟩ := rfm_some h
    refine gf_2_0 C hP k_1 eb_7 wl_77 dX2_takeOfYear_15 ?_
    refine lv_iload_n hx hb dX2_takeOfYear_18 rfl (lv_at hl 2 rfl) ?_
    refine lv_dup2_11 hx hb dX2_takeOfYear_19 rfl rfl ?_
    obtain ⟨k_8, h⟩ := chk_some h
    obtain ⟨k_9, h⟩ := chk_some h
    refine ar_9 C hP k_8 k_9 dX2_takeOfYear_20 ?_
    refine lv_iload_n hx hb dX2_takeOfYear_21 rfl (lv_at hl 0 rfl) ?_
    refine lv_isub hx hb dX2_takeOfYear_22 ?_
    refine aw_9 C hP hD hS k_8 k_9 dX2_takeOfYear_23 (fun M_10 H locs eM_10 hP hD hS => ?_)
    replace h := bnd_at h eM_10
    refine lv_aload_n hx hb dX2_takeOfYear_24 rfl (lv_at hl 1 rfl) ?_
    refine lv_dup hx hb dX2_takeOfYear_25 rfl ?_
    refine gf_2_1 C hP k_1 wl_78 dX2_takeOfYear_26 ?_
    refine lv_iload_n hx hb dX2_takeOfYear_29 rfl (lv_at hl 0 rfl) ?_
    refine lv_isub hx hb dX2_takeOfYear_30 ?_
    refine pf_2_1 C hP hD hS k_1 wl_78 dX2_takeOfYear_31 (fun M_11 H locs eM_11 hP hD hS => ?_)
    replace h := bnd_at h eM_11
    refine lv_iload_n hx hb dX2_takeOfYear_34 rfl (lv_at hl 0 rfl) ?_
    cases h
    exact rt_i C hP hD hS dX2_takeOfYear_35
abbrev rm_X2_takeFromLatest : Room := { frames := 2, cells := 0, slots := 0, locals := 44 }
theorem hd_X2_takeFromLatest : yX2_takeFromLatest.cls = RX2 ∧ yX2_takeFromLatest.cls ≠ "java/lang/invoke/MethodHandle" ∧ yX2_takeFromLatest.cls ≠ "java/lang/invoke/VarHandle" ∧ (parseMethodDescriptor yX2_takeFromLatest.desc).map (fun d => d.parameters.length) = some 1 := ⟨rfl, by decide +kernel, by decide +kernel, by decide +kernel⟩
set_option maxHeartbeats 4000000 in
set_option maxRecDepth 100000 in
theorem bs_X2_takeFromLatest_46 {p : Program} {l : Launch} {e : Env} {s : State} {m : MethodId} {args : Array Value} {below : List Frame} {meth : Method} {c : Code} {D : va_G} {cy : Cy} {A : Nat → Prop} {T : Ty} {R : Rm} {r : Int32} {M9 : Mm} {a0 : Nat} {x1 : Int32} (C : Cx RX2 cX2_takeFromLatest 5 (some .int) p s m args meth c D cy A) :
    ∀ (x2 : Int32) (M : Mm) (H : Heap) (locs : List Loc), fs_X2_takeFromLatest_46 T R a0 x1 x2 M = some (r, M9) → va_P D vwCl (WL cy T M R) H → va_D A (WL cy T M R) → va_S A s.heap H locs → ∀ ls : Array Slot, lv_has ls 5 [(0, .ref a0), (2, .int x2)] → W p l e rm_X2_takeFromLatest s m args below meth c H locs 0 0 (MQ below (QcI D cy T M9 R A r) args s 0 0 A) (F0 m 46 ls []) := by
  intro x2 M H locs h hP hD hS ls hl
  unfold fs_X2_takeFromLatest_46 at h
  obtain ⟨hx, hb, hr, hml, hown, hts, hK, hA, hlk, hSt⟩ := id C
  refine lv_aload_n hx hb dX2_takeFromLatest_46 rfl (lv_at hl 0 rfl) ?_
  obtain ⟨k_1, h⟩ := chk_some h
  obtain ⟨r_2, M_3, hc_4, h⟩ := cal_some h
  refine cl_Vv (As := []) (rest := []) C (ct_X2_narrow hc_4) k_1 (by decide) rfl wl_210 wl_211 wl_212 wl_65 wl_213 hd_X2_narrow ⟨Nat.le_of_ble_eq_true rfl, Nat.le_of_ble_eq_true rfl⟩ ⟨rfl, rfl⟩ ⟨Nat.zero_le _, Nat.zero_le _⟩ rfl (Nat.le_of_ble_eq_true rfl) rfl hl.1 hP hD hS dX2_takeFromLatest_47 (fun H locs hP hD hS => ?_)
  refine lv_iload_n hx hb dX2_takeFromLatest_50 rfl (lv_at hl 1 rfl) ?_
  cases h
  exact rt_i C hP hD hS dX2_takeFromLatest_51
set_option maxHeartbeats 4000000 in
set_option maxRecDepth 100000 in
theorem bs_X2_takeFromLatest_17 {p : Program} {l : Launch} {e : Env} {s : State} {m : MethodId} {args : Array Value} {below : List Frame} {meth : Method} {c : Code} {D : va_G} {cy : Cy} {A : Nat → Prop} {T : Ty} {R : Rm} {r : Int32} {M9 : Mm} {a0 : Nat} {x1 : Int32} {j17 : Int32 → Int32 → Int32 → Mm → Option (Int32 × Mm)} {j46 : Int32 → Mm → Option (Int32 × Mm)} (C : Cx RX2 cX2_takeFromLatest 5 (some .int) p s m args meth c D cy A)
    (hj17 : ∀ (x2 : Int32) (x3 : Int32) (x4 : Int32) (M : Mm) (H : Heap) (locs : List Loc), j17 x2 x3 x4 M = some (r, M9) → va_P D vwCl (WL cy T M R) H → va_D A (WL cy T M R) → va_S A s.heap H locs → ∀ ls : Array Slot, lv_has ls 5 [(0, .ref a0), (2, .int x2), (3, .int x3), (4, .int x4)] → W p l e rm_X2_takeFromLatest s m args below meth c H locs 0 0 (MQ below (QcI D cy T M9 R A r) args s 0 0 A) (F0 m 17 ls []))
    (hj46 : ∀ (x2 : Int32) (M : Mm) (H : Heap) (locs : List Loc), j46 x2 M = some (r, M9) → va_P D vwCl (WL cy T M R) H → va_D A (WL cy T M R) → va_S A s.heap H locs → ∀ ls : Array Slot, lv_has ls 5 [(0, .ref a0), (2, .int x2)] → W p l e rm_X2_takeFromLatest s m args below meth c H locs 0 0 (MQ below (QcI D cy T M9 R A r) args s 0 0 A) (F0 m 46 ls [])) :
    ∀ (x2 : Int32) (x3 : Int32) (x4 : Int32) (M : Mm) (H : Heap) (locs : List Loc), fs_X2_takeFromLatest_17 T R a0 x1 j17 j46 x2 x3 x4 M = some (r, M9) → va_P D vwCl (WL cy T M R) H → va_D A (WL cy T M R) → va_S A s.heap H locs → ∀ ls : Array Slot, lv_has ls 5 [(0, .ref a0), (2, .int x2), (3, .int x3), (4, .int x4)] → W p l e rm_X2_takeFromLatest s m args below meth c H locs 0 0 (MQ below (QcI D cy T M9 R A r) args s 0 0 A) (F0 m 17 ls []) := by
  intro x2 x3 x4 M H locs h hP hD hS ls hl
  unfold fs_X2_takeFromLatest_17 at h
  obtain ⟨hx, hb, hr, hml, hown, hts, hK, hA, hlk, hSt⟩ := id C
  refine lv_iload hx hb dX2_takeFromLatest_17 (lv_at hl 3 rfl) ?_
  refine lv_aload_n hx hb dX2_takeFromLatest_19 rfl (lv_at hl 0 rfl) ?_
  obtain ⟨k_5, h⟩ := chk_some h
  refine gf_2_2 C hP k_5 wl_79 dX2_takeFromLatest_20 ?_
  refine lv_icmp_lt (tgt := 46) hx hb dX2_takeFromLatest_23 (by decide) (fun c_6 => ?_) (fun c_6 => ?_)
  · replace h := ite_t h c_6
    exact hj46 _ _ _ _ h hP hD hS _ (lv_sub hl [0, 1] rfl)
  · replace h := ite_f h c_6
    refine lv_iload_n hx hb dX2_takeFromLatest_26 rfl (lv_at hl 2 rfl) ?_
    refine lv_if_le (tgt := 46) hx hb dX2_takeFromLatest_27 (by decide) (fun c_7 => ?_) (fun c_7 => ?_)
    · replace h := ite_t h c_7
      exact hj46 _ _ _ _ h hP hD hS _ (lv_sub hl [0, 1] rfl)
    · replace h := ite_f h c_7
      refine lv_iload_n hx hb dX2_takeFromLatest_30 rfl (lv_at hl 2 rfl) ?_
      refine lv_aload_n hx hb dX2_takeFromLatest_31 rfl (lv_at hl 0 rfl) ?_
      refine lv_iload hx hb dX2_takeFromLatest_32 (lv_at hl 3 rfl) ?_
      refine lv_iload_n hx hb dX2_takeFromLatest_34 rfl (lv_at hl 2 rfl) ?_
      obtain ⟨r_8, M_9, hc_10, h⟩ := cal_some h
      refine cl_Vi (As := [.int x4, .int x3]) (rest := [.int x3]) C (ct_X2_takeOfYear hc_10) k_5 (by decide) rfl wl_378 wl_379 wl_380 wl_65 wl_381 hd_X2_takeOfYear ⟨Nat.le_of_ble_eq_true rfl, Nat.le_of_ble_eq_true rfl⟩ ⟨rfl, rfl⟩ ⟨Nat.zero_le _, Nat.zero_le _⟩ rfl (Nat.le_of_ble_eq_true rfl) rfl hl.1 hP hD hS dX2_takeFromLatest_35 (fun H locs hP hD hS => ?_)
      refine lv_isub hx hb dX2_takeFromLatest_38 ?_
      refine lv_topi (fun v_11 ev_11 => ?_)
      replace h := bnd_at h ev_11
      refine lv_istore_n (lv' := [(3, .int v_11), (0, .ref a0), (2, .int x2), (4, .int x4)]) hx hb dX2_takeFromLatest_39 rfl hl (by decide) rfl (fun ls hl => ?_)
      obtain ⟨v_12, ev_12⟩ : ∃ y : Int32, y = (x4 + (-1 : Int32)) := ⟨_, rfl⟩
      replace h := bnd_at h ev_12
      refine lv_iinc (v := v_12) (lv' := [(4, .int v_12), (3, .int v_11), (0, .ref a0), (2, .int x2)]) hx hb dX2_takeFromLatest_40 hl (k := 3) rfl (by rw [ev_12]; rfl) (by decide) rfl (fun ls hl => ?_)
      refine lv_goto (tgt := 17) hx hb dX2_takeFromLatest_43 (by decide) ?_
      exact hj17 _ _ _ _ _ _ h hP hD hS _ (lv_sub hl [2, 3, 1, 0] rfl)
theorem bt_X2_takeFromLatest_17 {p : Program} {l : Launch} {e : Env} {s : State} {m : MethodId} {args : Array Value} {below : List Frame} {meth : Method} {c : Code} {D : va_G} {cy : Cy} {A : Nat → Prop} {T : Ty} {R : Rm} {r : Int32} {M9 : Mm} {a0 : Nat} {x1 : Int32} {j46 : Int32 → Mm → Option (Int32 × Mm)} (C : Cx RX2 cX2_takeFromLatest 5 (some .int) p s m args meth c D cy A)
    (hj46 : ∀ (x2 : Int32) (M : Mm) (H : Heap) (locs : List Loc), j46 x2 M = some (r, M9) → va_P D vwCl (WL cy T M R) H → va_D A (WL cy T M R) → va_S A s.heap H locs → ∀ ls : Array Slot, lv_has ls 5 [(0, .ref a0), (2, .int x2)] → W p l e rm_X2_takeFromLatest s m args below meth c H locs 0 0 (MQ below (QcI D cy T M9 R A r) args s 0 0 A) (F0 m 46 ls [])) :
    ∀ n : Nat, ∀ (x2 : Int32) (x3 : Int32) (x4 : Int32) (M : Mm) (H : Heap) (locs : List Loc), fb_X2_takeFromLatest_17 T R a0 x1 j46 n x2 x3 x4 M = some (r, M9) → va_P D vwCl (WL cy T M R) H → va_D A (WL cy T M R) → va_S A s.heap H locs → ∀ ls : Array Slot, lv_has ls 5 [(0, .ref a0), (2, .int x2), (3, .int x3), (4, .int x4)] → W p l e rm_X2_takeFromLatest s m args below meth c H locs 0 0 (MQ below (QcI D cy T M9 R A r) args s 0 0 A) (F0 m 17 ls []) := by
  intro n
  induction n with
  | zero =>
    intro _ _ _ _ H locs h
    exact absurd (show (none : Option (Int32 × Mm)) = some _ from h) (by simp)
  | succ n ih => exact fun u0 u1 u2 u3 H locs h => bs_X2_takeFromLatest_17 (a0 := a0) (x1 := x1) C ih hj46 u0 u1 u2 u3 H locs h
set_option maxHeartbeats 4000000 in
set_option maxRecDepth 100000 in
theorem ct_X2_takeFromLatest {l : Launch} {D : va_G} {cy : Cy} {T : Ty} {R : Rm} {a0 : Nat} {x1 : Int32} {M : Mm} {r : Int32} {M9 : Mm} (h : fn_X2_takeFromLatest T R a0 x1 M = some (r, M9)) : Ct QcI l yX2_takeFromLatest cX2_takeFromLatest 5 (some .int) rm_X2_takeFromLatest D cy T M R [.ref a0, .int x1] M9 R r := by
  unfold fn_X2_takeFromLatest at h
  refine enter (plainFor_of_name (by decide +kernel)) (Nat.le_of_ble_eq_true rfl) (fun p e s m args below meth c A C hP hD hS ls hl => ?_)
  have hl : lv_has ls 5 [(0, .ref a0), (1, .int x1)] := hl
  obtain ⟨hx, hb, hr, hml, hown, hts, hK, hA, hlk, hSt⟩ := id C
  refine lv_iload_n hx hb dX2_takeFromLatest_0 rfl (lv_at hl 1 rfl) ?_
  refine lv_aload_n hx hb dX2_takeFromLatest_1 rfl (lv_at hl 0 rfl) ?_
  obtain ⟨k_13, h⟩ := chk_some h
  refine gf_2_1 C hP k_13 wl_78 dX2_takeFromLatest_2 ?_
  refine va_mmin hx hb (hml.trans hl.1.symm) hown (hts _ wl_218) (hts _ wl_219) (hts _ wl_220) (hts _ wl_221) (Nat.le_of_ble_eq_true rfl) (Nat.le_of_ble_eq_true rfl) (Nat.zero_le _) (Nat.zero_le _) dX2_takeFromLatest_5 ?_
  refine lv_topi (fun v_14 ev_14 => ?_)
  replace h := bnd_at h ev_14
  refine lv_istore_n (lv' := [(2, .int v_14), (0, .ref a0), (1, .int x1)]) hx hb dX2_takeFromLatest_8 rfl hl (by decide) rfl (fun ls hl => ?_)
  refine lv_iload_n hx hb dX2_takeFromLatest_9 rfl (lv_at hl 0 rfl) ?_
  refine lv_istore_n (lv' := [(3, .int v_14), (2, .int v_14), (0, .ref a0), (1, .int x1)]) hx hb dX2_takeFromLatest_10 rfl hl (by decide) rfl (fun ls hl => ?_)
  refine lv_aload_n hx hb dX2_takeFromLatest_11 rfl (lv_at hl 2 rfl) ?_
  refine gf_2_3 C hP k_13 wl_80 dX2_takeFromLatest_12 ?_
  refine lv_topi (fun v_15 ev_15 => ?_)
  replace h := bnd_at h ev_15
  refine lv_istore (lv' := [(4, .int v_15), (3, .int v_14), (2, .int v_14), (0, .ref a0), (1, .int x1)]) hx hb dX2_takeFromLatest_15 hl (by decide) rfl (fun ls hl => ?_)
  exact (bt_X2_takeFromLatest_17 C (bs_X2_takeFromLatest_46 C) FU) _ _ _ _ _ _ h hP hD hS _ (lv_sub hl [3, 2, 1, 0] rfl)
abbrev rm_X2_giveFromOldest : Room := { frames := 2, cells := 0, slots := 0, locals := 44 }
theorem hd_X2_giveFromOldest : yX2_giveFromOldest.cls = RX2 ∧ yX2_giveFromOldest.cls ≠ "java/lang/invoke/MethodHandle" ∧ yX2_giveFromOldest.cls ≠ "java/lang/invoke/VarHandle" ∧ (parseMethodDescriptor yX2_giveFromOldest.desc).map (fun d => d.parameters.length) = some 2 := ⟨rfl, by decide +kernel, by decide +kernel, by decide +kernel⟩
set_option maxHeartbeats 4000000 in
set_option maxRecDepth 100000 in
theorem bs_X2_giveFromOldest_60 {p : Program} {l : Launch} {e : Env} {s : State} {m : MethodId} {args : Array Value} {below : List Frame} {meth : Method} {c : Code} {D : va_G} {cy : Cy} {A : Nat → Prop} {T : Ty} {R : Rm} {r : Unit} {M9 : Mm} {a0 : Nat} {x1 : Int32} {a2 : Nat} (C : Cx RX2 cX2_giveFromOldest 6 none p s m args meth c D cy A) :
    ∀  (M : Mm) (H : Heap) (locs : List Loc), fs_X2_giveFromOldest_60 T R a0 x1 a2 M = some (r, M9) → va_P D vwCl (WL cy T M R) H → va_D A (WL cy T M R) → va_S A s.heap H locs → ∀ ls : Array Slot, lv_has ls 6 [(0, .ref a0)] → W p l e rm_X2_giveFromOldest s m args below meth c H locs 0 0 (MQ below (QcV D cy T M9 R A r) args s 0 0 A) (F0 m 60 ls []) := by
  intro  M H locs h hP hD hS ls hl
  unfold fs_X2_giveFromOldest_60 at h
  obtain ⟨hx, hb, hr, hml, hown, hts, hK, hA, hlk, hSt⟩ := id C
  refine lv_aload_n hx hb dX2_giveFromOldest_60 rfl (lv_at hl 0 rfl) ?_
  obtain ⟨k_1, h⟩ := chk_some h
  obtain ⟨r_2, M_3, hc_4, h⟩ := cal_some h
  refine cl_Vv (As := []) (rest := []) C (ct_X2_narrow hc_4) k_1 (by decide) rfl wl_210 wl_211 wl_212 wl_65 wl_213 hd_X2_narrow ⟨Nat.le_of_ble_eq_true rfl, Nat.le_of_ble_eq_true rfl⟩ ⟨rfl, rfl⟩ ⟨Nat.zero_le _, Nat.zero_le _⟩ rfl (Nat.le_of_ble_eq_true rfl) rfl hl.1 hP hD hS dX2_giveFromOldest_61 (fun H locs hP hD hS => ?_)
  cases h
  exact rt_v C hP hD hS dX2_giveFromOldest_64
set_option maxHeartbeats 4000000 in
set_option maxRecDepth 100000 in
theorem bs_X2_giveFromOldest_54 {p : Program} {l : Launch} {e : Env} {s : State} {m : MethodId} {args : Array Value} {below : List Frame} {meth : Method} {c : Code} {D : va_G} {cy : Cy} {A : Nat → Prop} {T : Ty} {R : Rm} {r : Unit} {M9 : Mm} {a0 : Nat} {x1 : Int32} {a2 : Nat} {j15 : Int32 → Int32 → Mm → Option (Unit × Mm)} (C : Cx RX2 cX2_giveFromOldest 6 none p s m args meth c D cy A)
    (hj15 : ∀ (x3 : Int32) (x4 : Int32) (M : Mm) (H : Heap) (locs : List Loc), j15 x3 x4 M = some (r, M9) → va_P D vwCl (WL cy T M R) H → va_D A (WL cy T M R) → va_S A s.heap H locs → ∀ ls : Array Slot, lv_has ls 6 [(0, .ref a0), (2, .ref a2), (3, .int x3), (4, .int x4)] → W p l e rm_X2_giveFromOldest s m args below meth c H locs 0 0 (MQ below (QcV D cy T M9 R A r) args s 0 0 A) (F0 m 15 ls [])) :
    ∀ (x3 : Int32) (x4 : Int32) (M : Mm) (H : Heap) (locs : List Loc), fs_X2_giveFromOldest_54 T R a0 x1 a2 j15 x3 x4 M = some (r, M9) → va_P D vwCl (WL cy T M R) H → va_D A (WL cy T M R) → va_S A s.heap H locs → ∀ ls : Array Slot, lv_has ls 6 [(0, .ref a0), (2, .ref a2), (3, .int x3), (4, .int x4)] → W p l e rm_X2_giveFromOldest s m args below meth c H locs 0 0 (MQ below (QcV D cy T M9 R A r) args s 0 0 A) (F0 m 54 ls []) := by
  intro x3 x4 M H locs h hP hD hS ls hl
  unfold fs_X2_giveFromOldest_54 at h
  obtain ⟨hx, hb, hr, hml, hown, hts, hK, hA, hlk, hSt⟩ := id C
  obtain ⟨v_5, ev_5⟩ : ∃ y : Int32, y = (x4 + (1 : Int32)) := ⟨_, rfl⟩
  replace h := bnd_at h ev_5
  refine lv_iinc (v := v_5) (lv' := [(4, .int v_5), (0, .ref a0), (2, .ref a2), (3, .int x3)]) hx hb dX2_giveFromOldest_54 hl (k := 3) rfl (by rw [ev_5]; rfl) (by decide) rfl (fun ls hl => ?_)
  refine lv_goto (tgt := 15) hx hb dX2_giveFromOldest_57 (by decide) ?_
  exact hj15 _ _ _ _ _ h hP hD hS _ (lv_sub hl [1, 2, 3, 0] rfl)
set_option maxHeartbeats 4000000 in
set_option maxRecDepth 100000 in
theorem bs_X2_giveFromOldest_15 {p : Program} {l : Launch} {e : Env} {s : State} {m : MethodId} {args : Array Value} {below : List Frame} {meth : Method} {c : Code} {D : va_G} {cy : Cy} {A : Nat → Prop} {T : Ty} {R : Rm} {r : Unit} {M9 : Mm} {a0 : Nat} {x1 : Int32} {a2 : Nat} {j15 : Int32 → Int32 → Mm → Option (Unit × Mm)} {j60 : Mm → Option (Unit × Mm)} (C : Cx RX2 cX2_giveFromOldest 6 none p s m args meth c D cy A)
    (hj15 : ∀ (x3 : Int32) (x4 : Int32) (M : Mm) (H : Heap) (locs : List Loc), j15 x3 x4 M = some (r, M9) → va_P D vwCl (WL cy T M R) H → va_D A (WL cy T M R) → va_S A s.heap H locs → ∀ ls : Array Slot, lv_has ls 6 [(0, .ref a0), (2, .ref a2), (3, .int x3), (4, .int x4)] → W p l e rm_X2_giveFromOldest s m args below meth c H locs 0 0 (MQ below (QcV D cy T M9 R A r) args s 0 0 A) (F0 m 15 ls []))
    (hj60 : ∀  (M : Mm) (H : Heap) (locs : List Loc), j60 M = some (r, M9) → va_P D vwCl (WL cy T M R) H → va_D A (WL cy T M R) → va_S A s.heap H locs → ∀ ls : Array Slot, lv_has ls 6 [(0, .ref a0)] → W p l e rm_X2_giveFromOldest s m args below meth c H locs 0 0 (MQ below (QcV D cy T M9 R A r) args s 0 0 A) (F0 m 60 ls [])) :
    ∀ (x3 : Int32) (x4 : Int32) (M : Mm) (H : Heap) (locs : List Loc), fs_X2_giveFromOldest_15 T R a0 x1 a2 j15 j60 x3 x4 M = some (r, M9) → va_P D vwCl (WL cy T M R) H → va_D A (WL cy T M R) → va_S A s.heap H locs → ∀ ls : Array Slot, lv_has ls 6 [(0, .ref a0), (2, .ref a2), (3, .int x3), (4, .int x4)] → W p l e rm_X2_giveFromOldest s m args below meth c H locs 0 0 (MQ below (QcV D cy T M9 R A r) args s 0 0 A) (F0 m 15 ls []) := by
  intro x3 x4 M H locs h hP hD hS ls hl
  unfold fs_X2_giveFromOldest_15 at h
  obtain ⟨hx, hb, hr, hml, hown, hts, hK, hA, hlk, hSt⟩ := id C
  refine lv_iload hx hb dX2_giveFromOldest_15 (lv_at hl 3 rfl) ?_
  refine lv_aload_n hx hb dX2_giveFromOldest_17 rfl (lv_at hl 0 rfl) ?_
  obtain ⟨k_6, h⟩ := chk_some h
  refine gf_2_3 C hP k_6 wl_80 dX2_giveFromOldest_18 ?_
  refine lv_icmp_gt (tgt := 60) hx hb dX2_giveFromOldest_21 (by decide) (fun c_7 => ?_) (fun c_7 => ?_)
  · replace h := ite_t h c_7
    exact hj60 _ _ _ h hP hD hS _ (lv_sub hl [0] rfl)
  · replace h := ite_f h c_7
    refine lv_iload_n hx hb dX2_giveFromOldest_24 rfl (lv_at hl 2 rfl) ?_
    refine lv_if_le (tgt := 60) hx hb dX2_giveFromOldest_25 (by decide) (fun c_8 => ?_) (fun c_8 => ?_)
    · replace h := ite_t h c_8
      exact hj60 _ _ _ h hP hD hS _ (lv_sub hl [0] rfl)
    · replace h := ite_f h c_8
      refine lv_aload_n hx hb dX2_giveFromOldest_28 rfl (lv_at hl 0 rfl) ?_
      refine lv_iload hx hb dX2_giveFromOldest_29 (lv_at hl 3 rfl) ?_
      refine lv_iload_n hx hb dX2_giveFromOldest_31 rfl (lv_at hl 2 rfl) ?_
      obtain ⟨r_9, M_10, hc_11, h⟩ := cal_some h
      refine cl_Vi (As := [.int x4, .int x3]) (rest := []) C (ct_X2_takeOfYear hc_11) k_6 (by decide) rfl wl_378 wl_379 wl_380 wl_65 wl_381 hd_X2_takeOfYear ⟨Nat.le_of_ble_eq_true rfl, Nat.le_of_ble_eq_true rfl⟩ ⟨rfl, rfl⟩ ⟨Nat.zero_le _, Nat.zero_le _⟩ rfl (Nat.le_of_ble_eq_true rfl) rfl hl.1 hP hD hS dX2_giveFromOldest_32 (fun H locs hP hD hS => ?_)
      refine lv_istore (lv' := [(5, .int r_9), (0, .ref a0), (2, .ref a2), (3, .int x3), (4, .int x4)]) hx hb dX2_giveFromOldest_35 hl (by decide) rfl (fun ls hl => ?_)
      refine lv_iload_n hx hb dX2_giveFromOldest_37 rfl (lv_at hl 3 rfl) ?_
      refine lv_iload hx hb dX2_giveFromOldest_38 (lv_at hl 0 rfl) ?_
      refine lv_isub hx hb dX2_giveFromOldest_40 ?_
      refine lv_topi (fun v_12 ev_12 => ?_)
      replace h := bnd_at h ev_12
      refine lv_istore_n (lv' := [(3, .int v_12), (5, .int r_9), (0, .ref a0), (2, .ref a2), (4, .int x4)]) hx hb dX2_giveFromOldest_41 rfl hl (by decide) rfl (fun ls hl => ?_)
      refine lv_aload_n hx hb dX2_giveFromOldest_42 rfl (lv_at hl 3 rfl) ?_
      refine lv_ifnull hx hb dX2_giveFromOldest_43 ?_
      refine lv_aload_n hx hb dX2_giveFromOldest_46 rfl (lv_at hl 3 rfl) ?_
      refine lv_iload hx hb dX2_giveFromOldest_47 (lv_at hl 4 rfl) ?_
      refine lv_iload hx hb dX2_giveFromOldest_49 (lv_at hl 1 rfl) ?_
      obtain ⟨k_13, h⟩ := chk_some h
      obtain ⟨r_14, M_15, hc_16, h⟩ := cal_some h
      refine cl_Vv (As := [.int x4, .int r_9]) (rest := []) C (ct_X2_add hc_16) k_13 (by decide) rfl wl_398 wl_215 wl_216 wl_65 wl_217 hd_X2_add ⟨Nat.le_of_ble_eq_true rfl, Nat.le_of_ble_eq_true rfl⟩ ⟨rfl, rfl⟩ ⟨Nat.zero_le _, Nat.zero_le _⟩ rfl (Nat.le_of_ble_eq_true rfl) rfl hl.1 hP hD hS dX2_giveFromOldest_51 (fun H locs hP hD hS => ?_)
      exact (bs_X2_giveFromOldest_54 C hj15) _ _ _ _ _ h hP hD hS _ (lv_sub hl [2, 3, 0, 4] rfl)
theorem bt_X2_giveFromOldest_15 {p : Program} {l : Launch} {e : Env} {s : State} {m : MethodId} {args : Array Value} {below : List Frame} {meth : Method} {c : Code} {D : va_G} {cy : Cy} {A : Nat → Prop} {T : Ty} {R : Rm} {r : Unit} {M9 : Mm} {a0 : Nat} {x1 : Int32} {a2 : Nat} {j60 : Mm → Option (Unit × Mm)} (C : Cx RX2 cX2_giveFromOldest 6 none p s m args meth c D cy A)
    (hj60 : ∀  (M : Mm) (H : Heap) (locs : List Loc), j60 M = some (r, M9) → va_P D vwCl (WL cy T M R) H → va_D A (WL cy T M R) → va_S A s.heap H locs → ∀ ls : Array Slot, lv_has ls 6 [(0, .ref a0)] → W p l e rm_X2_giveFromOldest s m args below meth c H locs 0 0 (MQ below (QcV D cy T M9 R A r) args s 0 0 A) (F0 m 60 ls [])) :
    ∀ n : Nat, ∀ (x3 : Int32) (x4 : Int32) (M : Mm) (H : Heap) (locs : List Loc), fb_X2_giveFromOldest_15 T R a0 x1 a2 j60 n x3 x4 M = some (r, M9) → va_P D vwCl (WL cy T M R) H → va_D A (WL cy T M R) → va_S A s.heap H locs → ∀ ls : Array Slot, lv_has ls 6 [(0, .ref a0), (2, .ref a2), (3, .int x3), (4, .int x4)] → W p l e rm_X2_giveFromOldest s m args below meth c H locs 0 0 (MQ below (QcV D cy T M9 R A r) args s 0 0 A) (F0 m 15 ls []) := by
  intro n
  induction n with
  | zero =>
    intro _ _ _ H locs h
    exact absurd (show (none : Option (Unit × Mm)) = some _ from h) (by simp)
  | succ n ih => exact fun u0 u1 u2 H locs h => bs_X2_giveFromOldest_15 (a0 := a0) (x1 := x1) (a2 := a2) C ih hj60 u0 u1 u2 H locs h
set_option maxHeartbeats 4000000 in
set_option maxRecDepth 100000 in
theorem ct_X2_giveFromOldest {l : Launch} {D : va_G} {cy : Cy} {T : Ty} {R : Rm} {a0 : Nat} {x1 : Int32} {a2 : Nat} {M : Mm} {r : Unit} {M9 : Mm} (h : fn_X2_giveFromOldest T R a0 x1 a2 M = some (r, M9)) : Ct QcV l yX2_giveFromOldest cX2_giveFromOldest 6 none rm_X2_giveFromOldest D cy T M R [.ref a0, .int x1, .ref a2] M9 R r := by
  unfold fn_X2_giveFromOldest at h
  refine enter (plainFor_of_name (by decide +kernel)) (Nat.le_of_ble_eq_true rfl) (fun p e s m args below meth c A C hP hD hS ls hl => ?_)
  have hl : lv_has ls 6 [(0, .ref a0), (1, .int x1), (2, .ref a2)] := hl
  obtain ⟨hx, hb, hr, hml, hown, hts, hK, hA, hlk, hSt⟩ := id C
  refine lv_iload_n hx hb dX2_giveFromOldest_0 rfl (lv_at hl 1 rfl) ?_
  refine lv_aload_n hx hb dX2_giveFromOldest_1 rfl (lv_at hl 0 rfl) ?_
  obtain ⟨k_17, h⟩ := chk_some h
  refine gf_2_1 C hP k_17 wl_78 dX2_giveFromOldest_2 ?_
  refine va_mmin hx hb (hml.trans hl.1.symm) hown (hts _ wl_218) (hts _ wl_219) (hts _ wl_220) (hts _ wl_221) (Nat.le_of_ble_eq_true rfl) (Nat.le_of_ble_eq_true rfl) (Nat.zero_le _) (Nat.zero_le _) dX2_giveFromOldest_5 ?_
  refine lv_topi (fun v_18 ev_18 => ?_)
  replace h := bnd_at h ev_18
  refine lv_istore_n (lv' := [(3, .int v_18), (0, .ref a0), (1, .int x1), (2, .ref a2)]) hx hb dX2_giveFromOldest_8 rfl hl (by decide) rfl (fun ls hl => ?_)
  refine lv_aload_n hx hb dX2_giveFromOldest_9 rfl (lv_at hl 1 rfl) ?_
  refine gf_2_2 C hP k_17 wl_79 dX2_giveFromOldest_10 ?_
  refine lv_topi (fun v_19 ev_19 => ?_)
  replace h := bnd_at h ev_19
  refine lv_istore (lv' := [(4, .int v_19), (3, .int v_18), (0, .ref a0), (1, .int x1), (2, .ref a2)]) hx hb dX2_giveFromOldest_13 hl (by decide) rfl (fun ls hl => ?_)
  exact (bt_X2_giveFromOldest_15 C (bs_X2_giveFromOldest_60 C) FU) _ _ _ _ _ h hP hD hS _ (lv_sub hl [2, 4, 1, 0] rfl)
abbrev rm_X2_giveFromOldest_N : Room := { frames := 2, cells := 0, slots := 0, locals := 44 }
set_option maxHeartbeats 4000000 in
set_option maxRecDepth 100000 in
theorem bs_X2_giveFromOldest_N_60 {p : Program} {l : Launch} {e : Env} {s : State} {m : MethodId} {args : Array Value} {below : List Frame} {meth : Method} {c : Code} {D : va_G} {cy : Cy} {A : Nat → Prop} {T : Ty} {R : Rm} {r : Unit} {M9 : Mm} {a0 : Nat} {x1 : Int32} (C : Cx RX2 cX2_giveFromOldest 6 none p s m args meth c D cy A) :
    ∀  (M : Mm) (H : Heap) (locs : List Loc), fs_X2_giveFromOldest_N_60 T R a0 x1 M = some (r, M9) → va_P D vwCl (WL cy T M R) H → va_D A (WL cy T M R) → va_S A s.heap H locs → ∀ ls : Array Slot, lv_has ls 6 [(0, .ref a0)] → W p l e rm_X2_giveFromOldest_N s m args below meth c H locs 0 0 (MQ below (QcV D cy T M9 R A r) args s 0 0 A) (F0 m 60 ls []) := by
  intro  M H locs h hP hD hS ls hl
  unfold fs_X2_giveFromOldest_N_60 at h
  obtain ⟨hx, hb, hr, hml, hown, hts, hK, hA, hlk, hSt⟩ := id C
  refine lv_aload_n hx hb dX2_giveFromOldest_60 rfl (lv_at hl 0 rfl) ?_
  obtain ⟨k_1, h⟩ := chk_some h
  obtain ⟨r_2, M_3, hc_4, h⟩ := cal_some h
  refine cl_Vv (As := []) (rest := []) C (ct_X2_narrow hc_4) k_1 (by decide) rfl wl_210 wl_211 wl_212 wl_65 wl_213 hd_X2_narrow ⟨Nat.le_of_ble_eq_true rfl, Nat.le_of_ble_eq_true rfl⟩ ⟨rfl, rfl⟩ ⟨Nat.zero_le _, Nat.zero_le _⟩ rfl (Nat.le_of_ble_eq_true rfl) rfl hl.1 hP hD hS dX2_giveFromOldest_61 (fun H locs hP hD hS => ?_)
  cases h
  exact rt_v C hP hD hS dX2_giveFromOldest_64
set_option maxHeartbeats 4000000 in
set_option maxRecDepth 100000 in
theorem bs_X2_giveFromOldest_N_54 {p : Program} {l : Launch} {e : Env} {s : State} {m : MethodId} {args : Array Value} {below : List Frame} {meth : Method} {c : Code} {D : va_G} {cy : Cy} {A : Nat → Prop} {T : Ty} {R : Rm} {r : Unit} {M9 : Mm} {a0 : Nat} {x1 : Int32} {j15 : Int32 → Int32 → Mm → Option (Unit × Mm)} (C : Cx RX2 cX2_giveFromOldest 6 none p s m args meth c D cy A)
    (hj15 : ∀ (x3 : Int32) (x4 : Int32) (M : Mm) (H : Heap) (locs : List Loc), j15 x3 x4 M = some (r, M9) → va_P D vwCl (WL cy T M R) H → va_D A (WL cy T M R) → va_S A s.heap H locs → ∀ ls : Array Slot, lv_has ls 6 [(0, .ref a0), (2, .null), (3, .int x3), (4, .int x4)] → W p l e rm_X2_giveFromOldest_N s m args below meth c H locs 0 0 (MQ below (QcV D cy T M9 R A r) args s 0 0 A) (F0 m 15 ls [])) :
    ∀ (x3 : Int32) (x4 : Int32) (M : Mm) (H : Heap) (locs : List Loc), fs_X2_giveFromOldest_N_54 T R a0 x1 j15 x3 x4 M = some (r, M9) → va_P D vwCl (WL cy T M R) H → va_D A (WL cy T M R) → va_S A s.heap H locs → ∀ ls : Array Slot, lv_has ls 6 [(0, .ref a0), (2, .null), (3, .int x3), (4, .int x4)] → W p l e rm_X2_giveFromOldest_N s m args below meth c H locs 0 0 (MQ below (QcV D cy T M9 R A r) args s 0 0 A) (F0 m 54 ls []) := by
  intro x3 x4 M H locs h hP hD hS ls hl
  unfold fs_X2_giveFromOldest_N_54 at h
  obtain ⟨hx, hb, hr, hml, hown, hts, hK, hA, hlk, hSt⟩ := id C
  obtain ⟨v_5, ev_5⟩ : ∃ y : Int32, y = (x4 + (1 : Int32)) := ⟨_, rfl⟩
  replace h := bnd_at h ev_5
  refine lv_iinc (v := v_5) (lv' := [(4, .int v_5), (0, .ref a0), (2, .null), (3, .int x3)]) hx hb dX2_giveFromOldest_54 hl (k := 3) rfl (by rw [ev_5]; rfl) (by decide) rfl (fun ls hl => ?_)
  refine lv_goto (tgt := 15) hx hb dX2_giveFromOldest_57 (by decide) ?_
  exact hj15 _ _ _ _ _ h hP hD hS _ (lv_sub hl [1, 2, 3, 0] rfl)
set_option maxHeartbeats 4000000 in
set_option maxRecDepth 100000 in
theorem bs_X2_giveFromOldest_N_15 {p : Program} {l : Launch} {e : Env} {s : State} {m : MethodId} {args : Array Value} {below : List Frame} {meth : Method} {c : Code} {D : va_G} {cy : Cy} {A : Nat → Prop} {T : Ty} {R : Rm} {r : Unit} {M9 : Mm} {a0 : Nat} {x1 : Int32} {j15 : Int32 → Int32 → Mm → Option (Unit × Mm)} {j60 : Mm → Option (Unit × Mm)} (C : Cx RX2 cX2_giveFromOldest 6 none p s m args meth c D cy A)
    (hj15 : ∀ (x3 : Int32) (x4 : Int32) (M : Mm) (H : Heap) (locs : List Loc), j15 x3 x4 M = some (r, M9) → va_P D vwCl (WL cy T M R) H → va_D A (WL cy T M R) → va_S A s.heap H locs → ∀ ls : Array Slot, lv_has ls 6 [(0, .ref a0), (2, .null), (3, .int x3), (4, .int x4)] → W p l e rm_X2_giveFromOldest_N s m args below meth c H locs 0 0 (MQ below (QcV D cy T M9 R A r) args s 0 0 A) (F0 m 15 ls []))
    (hj60 : ∀  (M : Mm) (H : Heap) (locs : List Loc), j60 M = some (r, M9) → va_P D vwCl (WL cy T M R) H → va_D A (WL cy T M R) → va_S A s.heap H locs → ∀ ls : Array Slot, lv_has ls 6 [(0, .ref a0)] → W p l e rm_X2_giveFromOldest_N s m args below meth c H locs 0 0 (MQ below (QcV D cy T M9 R A r) args s 0 0 A) (F0 m 60 ls [])) :
    ∀ (x3 : Int32) (x4 : Int32) (M : Mm) (H : Heap) (locs : List Loc), fs_X2_giveFromOldest_N_15 T R a0 x1 j15 j60 x3 x4 M = some (r, M9) → va_P D vwCl (WL cy T M R) H → va_D A (WL cy T M R) → va_S A s.heap H locs → ∀ ls : Array Slot, lv_has ls 6 [(0, .ref a0), (2, .null), (3, .int x3), (4, .int x4)] → W p l e rm_X2_giveFromOldest_N s m args below meth c H locs 0 0 (MQ below (QcV D cy T M9 R A r) args s 0 0 A) (F0 m 15 ls []) := by
  intro x3 x4 M H locs h hP hD hS ls hl
  unfold fs_X2_giveFromOldest_N_15 at h
  obtain ⟨hx, hb, hr, hml, hown, hts, hK, hA, hlk, hSt⟩ := id C
  refine lv_iload hx hb dX2_giveFromOldest_15 (lv_at hl 3 rfl) ?_
  refine lv_aload_n hx hb dX2_giveFromOldest_17 rfl (lv_at hl 0 rfl) ?_
  obtain ⟨k_6, h⟩ := chk_some h
  refine gf_2_3 C hP k_6 wl_80 dX2_giveFromOldest_18 ?_
  refine lv_icmp_gt (tgt := 60) hx hb dX2_giveFromOldest_21 (by decide) (fun c_7 => ?_) (fun c_7 => ?_)
  · replace h := ite_t h c_7
    exact hj60 _ _ _ h hP hD hS _ (lv_sub hl [0] rfl)
  · replace h := ite_f h c_7
    refine lv_iload_n hx hb dX2_giveFromOldest_24 rfl (lv_at hl 2 rfl) ?_
    refine lv_if_le (tgt := 60) hx hb dX2_giveFromOldest_25 (by decide) (fun c_8 => ?_) (fun c_8 => ?_)
    · replace h := ite_t h c_8
      exact hj60 _ _ _ h hP hD hS _ (lv_sub hl [0] rfl)
    · replace h := ite_f h c_8
      refine lv_aload_n hx hb dX2_giveFromOldest_28 rfl (lv_at hl 0 rfl) ?_
      refine lv_iload hx hb dX2_giveFromOldest_29 (lv_at hl 3 rfl) ?_
      refine lv_iload_n hx hb dX2_giveFromOldest_31 rfl (lv_at hl 2 rfl) ?_
      obtain ⟨r_9, M_10, hc_11, h⟩ := cal_some h
      refine cl_Vi (As := [.int x4, .int x3]) (rest := []) C (ct_X2_takeOfYear hc_11) k_6 (by decide) rfl wl_378 wl_379 wl_380 wl_65 wl_381 hd_X2_takeOfYear ⟨Nat.le_of_ble_eq_true rfl, Nat.le_of_ble_eq_true rfl⟩ ⟨rfl, rfl⟩ ⟨Nat.zero_le _, Nat.zero_le _⟩ rfl (Nat.le_of_ble_eq_true rfl) rfl hl.1 hP hD hS dX2_giveFromOldest_32 (fun H locs hP hD hS => ?_)
      refine lv_istore (lv' := [(5, .int r_9), (0, .ref a0), (2, .null), (3, .int x3), (4, .int x4)]) hx hb dX2_giveFromOldest_35 hl (by decide) rfl (fun ls hl => ?_)
      refine lv_iload_n hx hb dX2_giveFromOldest_37 rfl (lv_at hl 3 rfl) ?_
      refine lv_iload hx hb dX2_giveFromOldest_38 (lv_at hl 0 rfl) ?_
      refine lv_isub hx hb dX2_giveFromOldest_40 ?_
      refine lv_topi (fun v_12 ev_12 => ?_)
      replace h := bnd_at h ev_12
      refine lv_istore_n (lv' := [(3, .int v_12), (5, .int r_9), (0, .ref a0), (2, .null), (4, .int x4)]) hx hb dX2_giveFromOldest_41 rfl hl (by decide) rfl (fun ls hl => ?_)
      refine lv_aload_nN hx hb dX2_giveFromOldest_42 rfl (lv_at hl 3 rfl) ?_
      refine lv_ifnullN (tgt := 54) hx hb dX2_giveFromOldest_43 (by decide) ?_
      exact (bs_X2_giveFromOldest_N_54 C hj15) _ _ _ _ _ h hP hD hS _ (lv_sub hl [2, 3, 0, 4] rfl)
theorem bt_X2_giveFromOldest_N_15 {p : Program} {l : Launch} {e : Env} {s : State} {m : MethodId} {args : Array Value} {below : List Frame} {meth : Method} {c : Code} {D : va_G} {cy : Cy} {A : Nat → Prop} {T : Ty} {R : Rm} {r : Unit} {M9 : Mm} {a0 : Nat} {x1 : Int32} {j60 : Mm → Option (Unit × Mm)} (C : Cx RX2 cX2_giveFromOldest 6 none p s m args meth c D cy A)
    (hj60 : ∀  (M : Mm) (H : Heap) (locs : List Loc), j60 M = some (r, M9) → va_P D vwCl (WL cy T M R) H → va_D A (WL cy T M R) → va_S A s.heap H locs → ∀ ls : Array Slot, lv_has ls 6 [(0, .ref a0)] → W p l e rm_X2_giveFromOldest_N s m args below meth c H locs 0 0 (MQ below (QcV D cy T M9 R A r) args s 0 0 A) (F0 m 60 ls [])) :
    ∀ n : Nat, ∀ (x3 : Int32) (x4 : Int32) (M : Mm) (H : Heap) (locs : List Loc), fb_X2_giveFromOldest_N_15 T R a0 x1 j60 n x3 x4 M = some (r, M9) → va_P D vwCl (WL cy T M R) H → va_D A (WL cy T M R) → va_S A s.heap H locs → ∀ ls : Array Slot, lv_has ls 6 [(0, .ref a0), (2, .null), (3, .int x3), (4, .int x4)] → W p l e rm_X2_giveFromOldest_N s m args below meth c H locs 0 0 (MQ below (QcV D cy T M9 R A r) args s 0 0 A) (F0 m 15 ls []) := by
  intro n
  induction n with
  | zero =>
    intro _ _ _ H locs h
    exact absurd (show (none : Option (Unit × Mm)) = some _ from h) (by simp)
  | succ n ih => exact fun u0 u1 u2 H locs h => bs_X2_giveFromOldest_N_15 (a0 := a0) (x1 := x1) C ih hj60 u0 u1 u2 H locs h
set_option maxHeartbeats 4000000 in
set_option maxRecDepth 100000 in
theorem ct_X2_giveFromOldest_N {l : Launch} {D : va_G} {cy : Cy} {T : Ty} {R : Rm} {a0 : Nat} {x1 : Int32} {M : Mm} {r : Unit} {M9 : Mm} (h : fn_X2_giveFromOldest_N T R a0 x1 M = some (r, M9)) : Ct QcV l yX2_giveFromOldest cX2_giveFromOldest 6 none rm_X2_giveFromOldest_N D cy T M R [.ref a0, .int x1, .null] M9 R r := by
  unfold fn_X2_giveFromOldest_N at h
  refine enter (plainFor_of_name (by decide +kernel)) (Nat.le_of_ble_eq_true rfl) (fun p e s m args below meth c A C hP hD hS ls hl => ?_)
  have hl : lv_has ls 6 [(0, .ref a0), (1, .int x1), (2, .null)] := hl
  obtain ⟨hx, hb, hr, hml, hown, hts, hK, hA, hlk, hSt⟩ := id C
  refine lv_iload_n hx hb dX2_giveFromOldest_0 rfl (lv_at hl 1 rfl) ?_
  refine lv_aload_n hx hb dX2_giveFromOldest_1 rfl (lv_at hl 0 rfl) ?_
  obtain ⟨k_13, h⟩ := chk_some h
  refine gf_2_1 C hP k_13 wl_78 dX2_giveFromOldest_2 ?_
  refine va_mmin hx hb (hml.trans hl.1.symm) hown (hts _ wl_218) (hts _ wl_219) (hts _ wl_220) (hts _ wl_221) (Nat.le_of_ble_eq_true rfl) (Nat.le_of_ble_eq_true rfl) (Nat.zero_le _) (Nat.zero_le _) dX2_giveFromOldest_5 ?_
  refine lv_topi (fun v_14 ev_14 => ?_)
  replace h := bnd_at h ev_14
  refine lv_istore_n (lv' := [(3, .int v_14), (0, .ref a0), (1, .int x1), (2, .null)]) hx hb dX2_giveFromOldest_8 rfl hl (by decide) rfl (fun ls hl => ?_)
  refine lv_aload_n hx hb dX2_giveFromOldest_9 rfl (lv_at hl 1 rfl) ?_
  refine gf_2_2 C hP k_13 wl_79 dX2_giveFromOldest_10 ?_
  refine lv_topi (fun v_15 ev_15 => ?_)
  replace h := bnd_at h ev_15
  refine lv_istore (lv' := [(4, .int v_15), (3, .int v_14), (0, .ref a0), (1, .int x1), (2, .null)]) hx hb dX2_giveFromOldest_13 hl (by decide) rfl (fun ls hl => ?_)
  exact (bt_X2_giveFromOldest_N_15 C (bs_X2_giveFromOldest_N_60 C) FU) _ _ _ _ _ h hP hD hS _ (lv_sub hl [2, 4, 1, 0] rfl)
abbrev rm_X2_number : Room := { frames := 1, cells := 0, slots := 0, locals := 21 }
theorem hd_X2_number : yX2_number.cls = RX2 ∧ yX2_number.cls ≠ "java/lang/invoke/MethodHandle" ∧ yX2_number.cls ≠ "java/lang/invoke/VarHandle" ∧ (parseMethodDescriptor yX2_number.desc).map (fun d => d.parameters.length) = some 0 := ⟨rfl, by decide +kernel, by decide +kernel, by decide +kernel⟩
set_option maxHeartbeats 4000000 in
set_option maxRecDepth 100000 in
theorem bs_X2_number_26 {p : Program} {l : Launch} {e : Env} {s : State} {m : MethodId} {args : Array Value} {below : List Frame} {meth : Method} {c : Code} {D : va_G} {cy : Cy} {A : Nat → Prop} {T : Ty} {R : Rm} {r : Int32} {M9 : Mm} {a0 : Nat} {j7 : Int32 → Int32 → Mm → Option (Int32 × Mm)} (C : Cx RX2 cX2_number 3 (some .int) p s m args meth c D cy A)
    (hj7 : ∀ (x1 : Int32) (x2 : Int32) (M : Mm) (H : Heap) (locs : List Loc), j7 x1 x2 M = some (r, M9) → va_P D vwCl (WL cy T M R) H → va_D A (WL cy T M R) → va_S A s.heap H locs → ∀ ls : Array Slot, lv_has ls 3 [(0, .ref a0), (1, .int x1), (2, .int x2)] → W p l e rm_X2_number s m args below meth c H locs 0 0 (MQ below (QcI D cy T M9 R A r) args s 0 0 A) (F0 m 7 ls [])) :
    ∀ (x1 : Int32) (x2 : Int32) (M : Mm) (H : Heap) (locs : List Loc), fs_X2_number_26 T R a0 j7 x1 x2 M = some (r, M9) → va_P D vwCl (WL cy T M R) H → va_D A (WL cy T M R) → va_S A s.heap H locs → ∀ ls : Array Slot, lv_has ls 3 [(0, .ref a0), (1, .int x1), (2, .int x2)] → W p l e rm_X2_number s m args below meth c H locs 0 0 (MQ below (QcI D cy T M9 R A r) args s 0 0 A) (F0 m 26 ls []) := by
  intro x1 x2 M H locs h hP hD hS ls hl
  unfold fs_X2_number_26 at h
  obtain ⟨hx, hb, hr, hml, hown, hts, hK, hA, hlk, hSt⟩ := id C
  obtain ⟨v_1, ev_1⟩ : ∃ y : Int32, y = (x2 + (1 : Int32)) := ⟨_, rfl⟩
  replace h := bnd_at h ev_1
  refine lv_iinc (v := v_1) (lv' := [(2, .int v_1), (0, .ref a0), (1, .int x1)]) hx hb dX2_number_26 hl (k := 2) rfl (by rw [ev_1]; rfl) (by decide) rfl (fun ls hl => ?_)
  refine lv_goto (tgt := 7) hx hb dX2_number_29 (by decide) ?_
  exact hj7 _ _ _ _ _ h hP hD hS _ (lv_sub hl [1, 2, 0] rfl)
set_option maxHeartbeats 4000000 in
set_option maxRecDepth 100000 in
theorem bs_X2_number_7 {p : Program} {l : Launch} {e : Env} {s : State} {m : MethodId} {args : Array Value} {below : List Frame} {meth : Method} {c : Code} {D : va_G} {cy : Cy} {A : Nat → Prop} {T : Ty} {R : Rm} {r : Int32} {M9 : Mm} {a0 : Nat} {j7 : Int32 → Int32 → Mm → Option (Int32 × Mm)} (C : Cx RX2 cX2_number 3 (some .int) p s m args meth c D cy A)
    (hj7 : ∀ (x1 : Int32) (x2 : Int32) (M : Mm) (H : Heap) (locs : List Loc), j7 x1 x2 M = some (r, M9) → va_P D vwCl (WL cy T M R) H → va_D A (WL cy T M R) → va_S A s.heap H locs → ∀ ls : Array Slot, lv_has ls 3 [(0, .ref a0), (1, .int x1), (2, .int x2)] → W p l e rm_X2_number s m args below meth c H locs 0 0 (MQ below (QcI D cy T M9 R A r) args s 0 0 A) (F0 m 7 ls [])) :
    ∀ (x1 : Int32) (x2 : Int32) (M : Mm) (H : Heap) (locs : List Loc), fs_X2_number_7 T R a0 j7 x1 x2 M = some (r, M9) → va_P D vwCl (WL cy T M R) H → va_D A (WL cy T M R) → va_S A s.heap H locs → ∀ ls : Array Slot, lv_has ls 3 [(0, .ref a0), (1, .int x1), (2, .int x2)] → W p l e rm_X2_number s m args below meth c H locs 0 0 (MQ below (QcI D cy T M9 R A r) args s 0 0 A) (F0 m 7 ls []) := by
  intro x1 x2 M H locs h hP hD hS ls hl
  unfold fs_X2_number_7 at h
  obtain ⟨hx, hb, hr, hml, hown, hts, hK, hA, hlk, hSt⟩ := id C
  refine lv_iload_n hx hb dX2_number_7 rfl (lv_at hl 2 rfl) ?_
  refine lv_aload_n hx hb dX2_number_8 rfl (lv_at hl 0 rfl) ?_
  obtain ⟨k_2, h⟩ := chk_some h
  refine gf_2_3 C hP k_2 wl_80 dX2_number_9 ?_
  refine lv_icmp_gt (tgt := 32) hx hb dX2_number_12 (by decide) (fun c_3 => ?_) (fun c_3 => ?_)
  · replace h := ite_t h c_3
    refine lv_iload_n hx hb dX2_number_32 rfl (lv_at hl 1 rfl) ?_
    cases h
    exact rt_i C hP hD hS dX2_number_33
  · replace h := ite_f h c_3
    refine lv_aload_n hx hb dX2_number_15 rfl (lv_at hl 0 rfl) ?_
    refine lv_iload_n hx hb dX2_number_16 rfl (lv_at hl 2 rfl) ?_
    obtain ⟨r_4, M_5, hc_6, h⟩ := cal_some h
    refine cl_Vi (As := [.int x2]) (rest := []) C (ct_X2_leftOf hc_6) k_2 (by decide) rfl wl_130 wl_131 wl_132 wl_65 wl_133 hd_X2_leftOf ⟨Nat.le_of_ble_eq_true rfl, Nat.le_of_ble_eq_true rfl⟩ ⟨rfl, rfl⟩ ⟨Nat.zero_le _, Nat.zero_le _⟩ rfl (Nat.le_of_ble_eq_true rfl) rfl hl.1 hP hD hS dX2_number_17 (fun H locs hP hD hS => ?_)
    refine lv_if_le (tgt := 26) hx hb dX2_number_20 (by decide) (fun c_7 => ?_) (fun c_7 => ?_)
    · replace h := ite_t h c_7
      exact (bs_X2_number_26 C hj7) _ _ _ _ _ h hP hD hS _ (lv_sub hl [0, 1, 2] rfl)
    · replace h := ite_f h c_7
      obtain ⟨v_8, ev_8⟩ : ∃ y : Int32, y = (x1 + (1 : Int32)) := ⟨_, rfl⟩
      replace h := bnd_at h ev_8
      refine lv_iinc (v := v_8) (lv' := [(1, .int v_8), (0, .ref a0), (2, .int x2)]) hx hb dX2_number_23 hl (k := 1) rfl (by rw [ev_8]; rfl) (by decide) rfl (fun ls hl => ?_)
      exact (bs_X2_number_26 C hj7) _ _ _ _ _ h hP hD hS _ (lv_sub hl [1, 0, 2] rfl)
theorem bt_X2_number_7 {p : Program} {l : Launch} {e : Env} {s : State} {m : MethodId} {args : Array Value} {below : List Frame} {meth : Method} {c : Code} {D : va_G} {cy : Cy} {A : Nat → Prop} {T : Ty} {R : Rm} {r : Int32} {M9 : Mm} {a0 : Nat} (C : Cx RX2 cX2_number 3 (some .int) p s m args meth c D cy A) :
    ∀ n : Nat, ∀ (x1 : Int32) (x2 : Int32) (M : Mm) (H : Heap) (locs : List Loc), fb_X2_number_7 T R a0 n x1 x2 M = some (r, M9) → va_P D vwCl (WL cy T M R) H → va_D A (WL cy T M R) → va_S A s.heap H locs → ∀ ls : Array Slot, lv_has ls 3 [(0, .ref a0), (1, .int x1), (2, .int x2)] → W p l e rm_X2_number s m args below meth c H locs 0 0 (MQ below (QcI D cy T M9 R A r) args s 0 0 A) (F0 m 7 ls []) := by
  intro n
  induction n with
  | zero =>
    intro _ _ _ H locs h
    exact absurd (show (none : Option (Int32 × Mm)) = some _ from h) (by simp)
  | succ n ih => exact fun u0 u1 u2 H locs h => bs_X2_number_7 (a0 := a0) C ih u0 u1 u2 H locs h
set_option maxHeartbeats 4000000 in
set_option maxRecDepth 100000 in
theorem ct_X2_number {l : Launch} {D : va_G} {cy : Cy} {T : Ty} {R : Rm} {a0 : Nat} {M : Mm} {r : Int32} {M9 : Mm} (h : fn_X2_number T R a0 M = some (r, M9)) : Ct QcI l yX2_number cX2_number 3 (some .int) rm_X2_number D cy T M R [.ref a0] M9 R r := by
  unfold fn_X2_number at h
  refine enter (plainFor_of_name (by decide +kernel)) (Nat.le_of_ble_eq_true rfl) (fun p e s m args below meth c A C hP hD hS ls hl => ?_)
  have hl : lv_has ls 3 [(0, .ref a0)] := hl
  obtain ⟨hx, hb, hr, hml, hown, hts, hK, hA, hlk, hSt⟩ := id C
  refine lv_iconst (v := 0) hx hb dX2_number_0 (by decide) ?_
  refine lv_istore_n (lv' := [(1, .int (0 : Int32)), (0, .ref a0)]) hx hb dX2_number_1 rfl hl (by decide) rfl (fun ls hl => ?_)
  refine lv_aload_n hx hb dX2_number_2 rfl (lv_at hl 1 rfl) ?_
  obtain ⟨k_9, h⟩ := chk_some h
  refine gf_2_2 C hP k_9 wl_79 dX2_number_3 ?_
  refine lv_topi (fun v_10 ev_10 => ?_)
  replace h := bnd_at h ev_10
  refine lv_istore_n (lv' := [(2, .int v_10), (1, .int (0 : Int32)), (0, .ref a0)]) hx hb dX2_number_6 rfl hl (by decide) rfl (fun ls hl => ?_)
  exact (bt_X2_number_7 C FU) _ _ _ _ _ h hP hD hS _ (lv_sub hl [2, 1, 0] rfl)
abbrev rm_X2_yearOfLayer : Room := { frames := 1, cells := 0, slots := 0, locals := 21 }
theorem hd_X2_yearOfLayer : yX2_yearOfLayer.cls = RX2 ∧ yX2_yearOfLayer.cls ≠ "java/lang/invoke/MethodHandle" ∧ yX2_yearOfLayer.cls ≠ "java/lang/invoke/VarHandle" ∧ (parseMethodDescriptor yX2_yearOfLayer.desc).map (fun d => d.parameters.length) = some 1 := ⟨rfl, by decide +kernel, by decide +kernel, by decide +kernel⟩
set_option maxHeartbeats 4000000 in
set_option maxRecDepth 100000 in
theorem bs_X2_yearOfLayer_33 {p : Program} {l : Launch} {e : Env} {s : State} {m : MethodId} {args : Array Value} {below : List Frame} {meth : Method} {c : Code} {D : va_G} {cy : Cy} {A : Nat → Prop} {T : Ty} {R : Rm} {r : Int32} {M9 : Mm} {a0 : Nat} {x1 : Int32} {j7 : Int32 → Int32 → Mm → Option (Int32 × Mm)} (C : Cx RX2 cX2_yearOfLayer 4 (some .int) p s m args meth c D cy A)
    (hj7 : ∀ (x2 : Int32) (x3 : Int32) (M : Mm) (H : Heap) (locs : List Loc), j7 x2 x3 M = some (r, M9) → va_P D vwCl (WL cy T M R) H → va_D A (WL cy T M R) → va_S A s.heap H locs → ∀ ls : Array Slot, lv_has ls 4 [(0, .ref a0), (1, .int x1), (2, .int x2), (3, .int x3)] → W p l e rm_X2_yearOfLayer s m args below meth c H locs 0 0 (MQ below (QcI D cy T M9 R A r) args s 0 0 A) (F0 m 7 ls [])) :
    ∀ (x2 : Int32) (x3 : Int32) (M : Mm) (H : Heap) (locs : List Loc), fs_X2_yearOfLayer_33 T R a0 x1 j7 x2 x3 M = some (r, M9) → va_P D vwCl (WL cy T M R) H → va_D A (WL cy T M R) → va_S A s.heap H locs → ∀ ls : Array Slot, lv_has ls 4 [(0, .ref a0), (1, .int x1), (2, .int x2), (3, .int x3)] → W p l e rm_X2_yearOfLayer s m args below meth c H locs 0 0 (MQ below (QcI D cy T M9 R A r) args s 0 0 A) (F0 m 33 ls []) := by
  intro x2 x3 M H locs h hP hD hS ls hl
  unfold fs_X2_yearOfLayer_33 at h
  obtain ⟨hx, hb, hr, hml, hown, hts, hK, hA, hlk, hSt⟩ := id C
  obtain ⟨v_1, ev_1⟩ : ∃ y : Int32, y = (x3 + (1 : Int32)) := ⟨_, rfl⟩
  replace h := bnd_at h ev_1
  refine lv_iinc (v := v_1) (lv' := [(3, .int v_1), (0, .ref a0), (1, .int x1), (2, .int x2)]) hx hb dX2_yearOfLayer_33 hl (k := 3) rfl (by rw [ev_1]; rfl) (by decide) rfl (fun ls hl => ?_)
  refine lv_goto (tgt := 7) hx hb dX2_yearOfLayer_36 (by decide) ?_
  exact hj7 _ _ _ _ _ h hP hD hS _ (lv_sub hl [1, 2, 3, 0] rfl)
set_option maxHeartbeats 4000000 in
set_option maxRecDepth 100000 in
theorem bs_X2_yearOfLayer_7 {p : Program} {l : Launch} {e : Env} {s : State} {m : MethodId} {args : Array Value} {below : List Frame} {meth : Method} {c : Code} {D : va_G} {cy : Cy} {A : Nat → Prop} {T : Ty} {R : Rm} {r : Int32} {M9 : Mm} {a0 : Nat} {x1 : Int32} {j7 : Int32 → Int32 → Mm → Option (Int32 × Mm)} (C : Cx RX2 cX2_yearOfLayer 4 (some .int) p s m args meth c D cy A)
    (hj7 : ∀ (x2 : Int32) (x3 : Int32) (M : Mm) (H : Heap) (locs : List Loc), j7 x2 x3 M = some (r, M9) → va_P D vwCl (WL cy T M R) H → va_D A (WL cy T M R) → va_S A s.heap H locs → ∀ ls : Array Slot, lv_has ls 4 [(0, .ref a0), (1, .int x1), (2, .int x2), (3, .int x3)] → W p l e rm_X2_yearOfLayer s m args below meth c H locs 0 0 (MQ below (QcI D cy T M9 R A r) args s 0 0 A) (F0 m 7 ls [])) :
    ∀ (x2 : Int32) (x3 : Int32) (M : Mm) (H : Heap) (locs : List Loc), fs_X2_yearOfLayer_7 T R a0 x1 j7 x2 x3 M = some (r, M9) → va_P D vwCl (WL cy T M R) H → va_D A (WL cy T M R) → va_S A s.heap H locs → ∀ ls : Array Slot, lv_has ls 4 [(0, .ref a0), (1, .int x1), (2, .int x2), (3, .int x3)] → W p l e rm_X2_yearOfLayer s m args below meth c H locs 0 0 (MQ below (QcI D cy T M9 R A r) args s 0 0 A) (F0 m 7 ls []) := by
  intro x2 x3 M H locs h hP hD hS ls hl
  unfold fs_X2_yearOfLayer_7 at h
  obtain ⟨hx, hb, hr, hml, hown, hts, hK, hA, hlk, hSt⟩ := id C
  refine lv_iload_n hx hb dX2_yearOfLayer_7 rfl (lv_at hl 3 rfl) ?_
  refine lv_aload_n hx hb dX2_yearOfLayer_8 rfl (lv_at hl 0 rfl) ?_
  obtain ⟨k_2, h⟩ := chk_some h
  refine gf_2_3 C hP k_2 wl_80 dX2_yearOfLayer_9 ?_
  refine lv_icmp_gt (tgt := 39) hx hb dX2_yearOfLayer_12 (by decide) (fun c_3 => ?_) (fun c_3 => ?_)
  · replace h := ite_t h c_3
    refine lv_iconst (v := -1) hx hb dX2_yearOfLayer_39 (by decide) ?_
    cases h
    exact rt_i C hP hD hS dX2_yearOfLayer_40
  · replace h := ite_f h c_3
    refine lv_aload_n hx hb dX2_yearOfLayer_15 rfl (lv_at hl 0 rfl) ?_
    refine lv_iload_n hx hb dX2_yearOfLayer_16 rfl (lv_at hl 3 rfl) ?_
    obtain ⟨r_4, M_5, hc_6, h⟩ := cal_some h
    refine cl_Vi (As := [.int x3]) (rest := []) C (ct_X2_leftOf hc_6) k_2 (by decide) rfl wl_130 wl_131 wl_132 wl_65 wl_133 hd_X2_leftOf ⟨Nat.le_of_ble_eq_true rfl, Nat.le_of_ble_eq_true rfl⟩ ⟨rfl, rfl⟩ ⟨Nat.zero_le _, Nat.zero_le _⟩ rfl (Nat.le_of_ble_eq_true rfl) rfl hl.1 hP hD hS dX2_yearOfLayer_17 (fun H locs hP hD hS => ?_)
    refine lv_if_le (tgt := 33) hx hb dX2_yearOfLayer_20 (by decide) (fun c_7 => ?_) (fun c_7 => ?_)
    · replace h := ite_t h c_7
      exact (bs_X2_yearOfLayer_33 C hj7) _ _ _ _ _ h hP hD hS _ (lv_sub hl [0, 1, 2, 3] rfl)
    · replace h := ite_f h c_7
      refine lv_iload_n hx hb dX2_yearOfLayer_23 rfl (lv_at hl 2 rfl) ?_
      refine lv_iload_n hx hb dX2_yearOfLayer_24 rfl (lv_at hl 1 rfl) ?_
      refine lv_icmp_ne (tgt := 30) hx hb dX2_yearOfLayer_25 (by decide) (fun c_8 => ?_) (fun c_8 => ?_)
      · replace h := ite_f h c_8
        obtain ⟨v_9, ev_9⟩ : ∃ y : Int32, y = (x2 + (1 : Int32)) := ⟨_, rfl⟩
        replace h := bnd_at h ev_9
        refine lv_iinc (v := v_9) (lv' := [(2, .int v_9), (0, .ref a0), (1, .int x1), (3, .int x3)]) hx hb dX2_yearOfLayer_30 hl (k := 2) rfl (by rw [ev_9]; rfl) (by decide) rfl (fun ls hl => ?_)
        exact (bs_X2_yearOfLayer_33 C hj7) _ _ _ _ _ h hP hD hS _ (lv_sub hl [1, 2, 0, 3] rfl)
      · replace h := ite_t h c_8
        refine lv_iload_n hx hb dX2_yearOfLayer_28 rfl (lv_at hl 3 rfl) ?_
        cases h
        exact rt_i C hP hD hS dX2_yearOfLayer_29
theorem bt_X2_yearOfLayer_7 {p : Program} {l : Launch} {e : Env} {s : State} {m : MethodId} {args : Array Value} {below : List Frame} {meth : Method} {c : Code} {D : va_G} {cy : Cy} {A : Nat → Prop} {T : Ty} {R : Rm} {r : Int32} {M9 : Mm} {a0 : Nat} {x1 : Int32} (C : Cx RX2 cX2_yearOfLayer 4 (some .int) p s m args meth c D cy A) :
    ∀ n : Nat, ∀ (x2 : Int32) (x3 : Int32) (M : Mm) (H : Heap) (locs : List Loc), fb_X2_yearOfLayer_7 T R a0 x1 n x2 x3 M = some (r, M9) → va_P D vwCl (WL cy T M R) H → va_D A (WL cy T M R) → va_S A s.heap H locs → ∀ ls : Array Slot, lv_has ls 4 [(0, .ref a0), (1, .int x1), (2, .int x2), (3, .int x3)] → W p l e rm_X2_yearOfLayer s m args below meth c H locs 0 0 (MQ below (QcI D cy T M9 R A r) args s 0 0 A) (F0 m 7 ls []) := by
  intro n
  induction n with
  | zero =>
    intro _ _ _ H locs h
    exact absurd (show (none : Option (Int32 × Mm)) = some _ from h) (by simp)
  | succ n ih => exact fun u0 u1 u2 H locs h => bs_X2_yearOfLayer_7 (a0 := a0) (x1 := x1) C ih u0 u1 u2 H locs h
set_option maxHeartbeats 4000000 in
set_option maxRecDepth 100000 in
theorem ct_X2_yearOfLayer {l : Launch} {D : va_G} {cy : Cy} {T : Ty} {R : Rm} {a0 : Nat} {x1 : Int32} {M : Mm} {r : Int32} {M9 : Mm} (h : fn_X2_yearOfLayer T R a0 x1 M = some (r, M9)) : Ct QcI l yX2_yearOfLayer cX2_yearOfLayer 4 (some .int) rm_X2_yearOfLayer D cy T M R [.ref a0, .int x1] M9 R r := by
  unfold fn_X2_yearOfLayer at h
  refine enter (plainFor_of_name (by decide +kernel)) (Nat.le_of_ble_eq_true rfl) (fun p e s m args below meth c A C hP hD hS ls hl => ?_)
  have hl : lv_has ls 4 [(0, .ref a0), (1, .int x1)] := hl
  obtain ⟨hx, hb, hr, hml, hown, hts, hK, hA, hlk, hSt⟩ := id C
  refine lv_iconst (v := 0) hx hb dX2_yearOfLayer_0 (by decide) ?_
  refine lv_istore_n (lv' := [(2, .int (0 : Int32)), (0, .ref a0), (1, .int x1)]) hx hb dX2_yearOfLayer_1 rfl hl (by decide) rfl (fun ls hl => ?_)
  refine lv_aload_n hx hb dX2_yearOfLayer_2 rfl (lv_at hl 1 rfl) ?_
  obtain ⟨k_10, h⟩ := chk_some h
  refine gf_2_2 C hP k_10 wl_79 dX2_yearOfLayer_3 ?_
  refine lv_topi (fun v_11 ev_11 => ?_)
  replace h := bnd_at h ev_11
  refine lv_istore_n (lv' := [(3, .int v_11), (2, .int (0 : Int32)), (0, .ref a0), (1, .int x1)]) hx hb dX2_yearOfLayer_6 rfl hl (by decide) rfl (fun ls hl => ?_)
  exact (bt_X2_yearOfLayer_7 C FU) _ _ _ _ _ h hP hD hS _ (lv_sub hl [2, 3, 1, 0] rfl)
abbrev rm_X3_begin : Room := { frames := 0, cells := 0, slots := 0, locals := 0 }
theorem hd_X3_begin : yX3_begin.cls = RX3 ∧ yX3_begin.cls ≠ "java/lang/invoke/MethodHandle" ∧ yX3_begin.cls ≠ "java/lang/invoke/VarHandle" ∧ (parseMethodDescriptor yX3_begin.desc).map (fun d => d.parameters.length) = some 3 := ⟨rfl, by decide +kernel, by decide +kernel, by decide +kernel⟩
set_option maxHeartbeats 4000000 in
set_option maxRecDepth 100000 in
theorem ct_X3_begin {l : Launch} {D : va_G} {cy : Cy} {T : Ty} {R : Rm} {a0 : Nat} {x1 : Int32} {x2 : Int32} {x3 : Int32} {M : Mm} {r : Unit} {M9 : Mm} (h : fn_X3_begin T R a0 x1 x2 x3 M = some (r, M9)) : Ct QcV l yX3_begin cX3_begin 4 none rm_X3_begin D cy T M R [.ref a0, .int x1, .int x2, .int x3] M9 R r := by
  unfold fn_X3_begin at h
  refine enter (plainFor_of_name (by decide +kernel)) (Nat.le_of_ble_eq_true rfl) (fun p e s m args below meth c A C hP hD hS ls hl => ?_)
  have hl : lv_has ls 4 [(0, .ref a0), (1, .int x1), (2, .int x2), (3, .int x3)] := hl
  obtain ⟨hx, hb, hr, hml, hown, hts, hK, hA, hlk, hSt⟩ := id C
  refine lv_aload_n hx hb dX3_begin_0 rfl (lv_at hl 0 rfl) ?_
  refine lv_iload_n hx hb dX3_begin_1 rfl (lv_at hl 1 rfl) ?_
  obtain ⟨k_1, h⟩ := chk_some h
  refine pf_3_0 C hP hD hS k_1 wl_84 dX3_begin_2 (fun M_2 H locs eM_2 hP hD hS => ?_)
  replace h := bnd_at h eM_2
  refine lv_aload_n hx hb dX3_begin_5 rfl (lv_at hl 0 rfl) ?_
  refine lv_iload_n hx hb dX3_begin_6 rfl (lv_at hl 2 rfl) ?_
  refine pf_3_1 C hP hD hS k_1 wl_85 dX3_begin_7 (fun M_3 H locs eM_3 hP hD hS => ?_)
  replace h := bnd_at h eM_3
  refine lv_aload_n hx hb dX3_begin_10 rfl (lv_at hl 0 rfl) ?_
  refine lv_iload_n hx hb dX3_begin_11 rfl (lv_at hl 3 rfl) ?_
  refine pf_3_2 C hP hD hS k_1 wl_86 dX3_begin_12 (fun M_4 H locs eM_4 hP hD hS => ?_)
  replace h := bnd_at h eM_4
  refine lv_aload_n hx hb dX3_begin_15 rfl (lv_at hl 0 rfl) ?_
  refine lv_iconst (v := 0) hx hb dX3_begin_16 (by decide) ?_
  refine pf_3_3 C hP hD hS k_1 wl_87 dX3_begin_17 (fun M_5 H locs eM_5 hP hD hS => ?_)
  replace h := bnd_at h eM_5
  refine lv_aload_n hx hb dX3_begin_20 rfl (lv_at hl 0 rfl) ?_
  refine lv_iconst (v := 0) hx hb dX3_begin_21 (by decide) ?_
  refine pf_3_4 C hP hD hS k_1 wl_88 dX3_begin_22 (fun M_6 H locs eM_6 hP hD hS => ?_)
  replace h := bnd_at h eM_6
  refine lv_aload_n hx hb dX3_begin_25 rfl (lv_at hl 0 rfl) ?_
  refine lv_iconst (v := 0) hx hb dX3_begin_26 (by decide) ?_
  refine pf_3_5 C hP hD hS k_1 wl_89 dX3_begin_27 (fun M_7 H locs eM_7 hP hD hS => ?_)
  replace h := bnd_at h eM_7
  cases h
  exact rt_v C hP hD hS dX3_begin_30
abbrev rm_X3_copyFrom : Room := { frames := 0, cells := 0, slots := 0, locals := 0 }
theorem hd_X3_copyFrom : yX3_copyFrom.cls = RX3 ∧ yX3_copyFrom.cls ≠ "java/lang/invoke/MethodHandle" ∧ yX3_copyFrom.cls ≠ "java/lang/invoke/VarHandle" ∧ (parseMethodDescriptor yX3_copyFrom.desc).map (fun d => d.parameters.length) = some 1 := ⟨rfl, by decide +kernel, by decide +kernel, by decide +kernel⟩
set_option maxHeartbeats 4000000 in
set_option maxRecDepth 100000 in
theorem ct_X3_copyFrom {l : Launch} {D : va_G} {cy : Cy} {T : Ty} {R : Rm} {a0 : Nat} {a1 : Nat} {M : Mm} {r : Unit} {M9 : Mm} (h : fn_X3_copyFrom T R a0 a1 M = some (r, M9)) : Ct QcV l yX3_copyFrom cX3_copyFrom 2 none rm_X3_copyFrom D cy T M R [.ref a0, .ref a1] M9 R r := by
  unfold fn_X3_copyFrom at h
  refine enter (plainFor_of_name (by decide +kernel)) (Nat.le_of_ble_eq_true rfl) (fun p e s m args below meth c A C hP hD hS ls hl => ?_)
  have hl : lv_has ls 2 [(0, .ref a0), (1, .ref a1)] := hl
  obtain ⟨hx, hb, hr, hml, hown, hts, hK, hA, hlk, hSt⟩ := id C
  refine lv_aload_n hx hb dX3_copyFrom_0 rfl (lv_at hl 0 rfl) ?_
  refine lv_aload_n hx hb dX3_copyFrom_1 rfl (lv_at hl 1 rfl) ?_
  obtain ⟨k_1, h⟩ := chk_some h
  refine gf_3_0 C hP k_1 wl_84 dX3_copyFrom_2 ?_
  obtain ⟨k_2, h⟩ := chk_some h
  refine pf_3_0 C hP hD hS k_2 wl_84 dX3_copyFrom_5 (fun M_3 H locs eM_3 hP hD hS => ?_)
  replace h := bnd_at h eM_3
  refine lv_aload_n hx hb dX3_copyFrom_8 rfl (lv_at hl 0 rfl) ?_
  refine lv_aload_n hx hb dX3_copyFrom_9 rfl (lv_at hl 1 rfl) ?_
  refine gf_3_1 C hP k_1 wl_85 dX3_copyFrom_10 ?_
  refine pf_3_1 C hP hD hS k_2 wl_85 dX3_copyFrom_13 (fun M_4 H locs eM_4 hP hD hS => ?_)
  replace h := bnd_at h eM_4
  refine lv_aload_n hx hb dX3_copyFrom_16 rfl (lv_at hl 0 rfl) ?_
  refine lv_aload_n hx hb dX3_copyFrom_17 rfl (lv_at hl 1 rfl) ?_
  refine gf_3_2 C hP k_1 wl_86 dX3_copyFrom_18 ?_
  refine pf_3_2 C hP hD hS k_2 wl_86 dX3_copyFrom_21 (fun M_5 H locs eM_5 hP hD hS => ?_)
  replace h := bnd_at h eM_5
  refine lv_aload_n hx hb dX3_copyFrom_24 rfl (lv_at hl 0 rfl) ?_
  refine lv_aload_n hx hb dX3_copyFrom_25 rfl (lv_at hl 1 rfl) ?_
  refine gf_3_3 C hP k_1 wl_87 dX3_copyFrom_26 ?_
  refine pf_3_3 C hP hD hS k_2 wl_87 dX3_copyFrom_29 (fun M_6 H locs eM_6 hP hD hS => ?_)
  replace h := bnd_at h eM_6
  refine lv_aload_n hx hb dX3_copyFrom_32 rfl (lv_at hl 0 rfl) ?_
  refine lv_aload_n hx hb dX3_copyFrom_33 rfl (lv_at hl 1 rfl) ?_
  refine gf_3_4 C hP k_1 wl_88 dX3_copyFrom_34 ?_
  refine pf_3_4 C hP hD hS k_2 wl_88 dX3_copyFrom_37 (fun M_7 H locs eM_7 hP hD hS => ?_)
  replace h := bnd_at h eM_7
  refine lv_aload_n hx hb dX3_copyFrom_40 rfl (lv_at hl 0 rfl) ?_
  refine lv_aload_n hx hb dX3_copyFrom_41 rfl (lv_at hl 1 rfl) ?_
  refine gf_3_5 C hP k_1 wl_89 dX3_copyFrom_42 ?_
  refine pf_3_5 C hP hD hS k_2 wl_89 dX3_copyFrom_45 (fun M_8 H locs eM_8 hP hD hS => ?_)
  replace h := bnd_at h eM_8
  cases h
  exact rt_v C hP hD hS dX3_copyFrom_48
abbrev rm_X4_append : Room := { frames := 0, cells := 0, slots := 0, locals := 0 }
theorem hd_X4_append : yX4_append.cls = RX4 ∧ yX4_append.cls ≠ "java/lang/invoke/MethodHandle" ∧ yX4_append.cls ≠ "java/lang/invoke/VarHandle" ∧ (parseMethodDescriptor yX4_append.desc).map (fun d => d.parameters.length) = some 1 := ⟨rfl, by decide +kernel, by decide +kernel, by decide +kernel⟩
set_option maxHeartbeats 4000000 in
set_option maxRecDepth 100000 in
theorem ct_X4_append {l : Launch} {D : va_G} {cy : Cy} {T : Ty} {R : Rm} {a0 : Nat} {x1 : Int32} {M : Mm} {r : Unit} {M9 : Mm} (h : fn_X4_append T R a0 x1 M = some (r, M9)) : Ct QcV l yX4_append cX4_append 2 none rm_X4_append D cy T M R [.ref a0, .int x1] M9 R r := by
  unfold fn_X4_append at h
  refine enter (plainFor_of_name (by decide +kernel)) (Nat.le_of_ble_eq_true rfl) (fun p e s m args below meth c A C hP hD hS ls hl => ?_)
  have hl : lv_has ls 2 [(0, .ref a0), (1, .int x1)] := hl
  obtain ⟨hx, hb, hr, hml, hown, hts, hK, hA, hlk, hSt⟩ := id C
  refine lv_aload_n hx hb dX4_append_0 rfl (lv_at hl 0 rfl) ?_
  obtain ⟨k_1, h⟩ := chk_some h
  refine gf_4_1 C hP k_1 wl_95 dX4_append_1 ?_
  refine lv_bipush (v := 60) hx hb dX4_append_4 (by decide) ?_
  refine lv_icmp_ge (tgt := 29) hx hb dX4_append_6 (by decide) (fun c_2 => ?_) (fun c_2 => ?_)
  · replace h := ite_t h c_2
    cases h
    exact rt_v C hP hD hS dX4_append_29
  · replace h := ite_f h c_2
    refine lv_aload_n hx hb dX4_append_9 rfl (lv_at hl 0 rfl) ?_
    obtain ⟨b_3, eb_3, h⟩ := rfm_some h
    refine gf_4_0 C hP k_1 eb_3 wl_94 dX4_append_10 ?_
    refine lv_aload_n hx hb dX4_append_13 rfl (lv_at hl 0 rfl) ?_
    refine gf_4_1 C hP k_1 wl_95 dX4_append_14 ?_
    refine lv_iload_n hx hb dX4_append_17 rfl (lv_at hl 1 rfl) ?_
    obtain ⟨k_4, h⟩ := chk_some h
    obtain ⟨k_5, h⟩ := chk_some h
    refine aw_8 C hP hD hS k_4 k_5 dX4_append_18 (fun M_6 H locs eM_6 hP hD hS => ?_)
    replace h := bnd_at h eM_6
    refine lv_aload_n hx hb dX4_append_19 rfl (lv_at hl 0 rfl) ?_
    refine lv_dup hx hb dX4_append_20 rfl ?_
    refine gf_4_1 C hP k_1 wl_95 dX4_append_21 ?_
    refine lv_iconst (v := 1) hx hb dX4_append_24 (by decide) ?_
    refine lv_iadd hx hb dX4_append_25 ?_
    refine pf_4_1 C hP hD hS k_1 wl_95 dX4_append_26 (fun M_7 H locs eM_7 hP hD hS => ?_)
    replace h := bnd_at h eM_7
    cases h
    exact rt_v C hP hD hS dX4_append_29
abbrev rm_X4_isSignAt : Room := { frames := 0, cells := 0, slots := 0, locals := 0 }
theorem hd_X4_isSignAt : yX4_isSignAt.cls = RX4 ∧ yX4_isSignAt.cls ≠ "java/lang/invoke/MethodHandle" ∧ yX4_isSignAt.cls ≠ "java/lang/invoke/VarHandle" ∧ (parseMethodDescriptor yX4_isSignAt.desc).map (fun d => d.parameters.length) = some 2 := ⟨rfl, by decide +kernel, by decide +kernel, by decide +kernel⟩
set_option maxHeartbeats 4000000 in
set_option maxRecDepth 100000 in
theorem ct_X4_isSignAt {l : Launch} {D : va_G} {cy : Cy} {T : Ty} {R : Rm} {a0 : Nat} {x1 : Int32} {x2 : Int32} {M : Mm} {r : Int32} {M9 : Mm} (h : fn_X4_isSignAt T R a0 x1 x2 M = some (r, M9)) : Ct QcI l yX4_isSignAt cX4_isSignAt 3 (some .boolean) rm_X4_isSignAt D cy T M R [.ref a0, .int x1, .int x2] M9 R r := by
  unfold fn_X4_isSignAt at h
  refine enter (plainFor_of_name (by decide +kernel)) (Nat.le_of_ble_eq_true rfl) (fun p e s m args below meth c A C hP hD hS ls hl => ?_)
  have hl : lv_has ls 3 [(0, .ref a0), (1, .int x1), (2, .int x2)] := hl
  obtain ⟨hx, hb, hr, hml, hown, hts, hK, hA, hlk, hSt⟩ := id C
  refine lv_iload_n hx hb dX4_isSignAt_0 rfl (lv_at hl 1 rfl) ?_
  refine lv_if_lt (tgt := 26) hx hb dX4_isSignAt_1 (by decide) (fun c_1 => ?_) (fun c_1 => ?_)
  · replace h := ite_t h c_1
    refine lv_iconst (v := 0) hx hb dX4_isSignAt_26 (by decide) ?_
    cases h
    exact rt_z C hP hD hS rfl dX4_isSignAt_27
  · replace h := ite_f h c_1
    refine lv_iload_n hx hb dX4_isSignAt_4 rfl (lv_at hl 1 rfl) ?_
    refine lv_aload_n hx hb dX4_isSignAt_5 rfl (lv_at hl 0 rfl) ?_
    obtain ⟨k_2, h⟩ := chk_some h
    refine gf_4_1 C hP k_2 wl_95 dX4_isSignAt_6 ?_
    refine lv_icmp_ge (tgt := 26) hx hb dX4_isSignAt_9 (by decide) (fun c_3 => ?_) (fun c_3 => ?_)
    · replace h := ite_t h c_3
      refine lv_iconst (v := 0) hx hb dX4_isSignAt_26 (by decide) ?_
      cases h
      exact rt_z C hP hD hS rfl dX4_isSignAt_27
    · replace h := ite_f h c_3
      refine lv_aload_n hx hb dX4_isSignAt_12 rfl (lv_at hl 0 rfl) ?_
      obtain ⟨b_4, eb_4, h⟩ := rfm_some h
      refine gf_4_0 C hP k_2 eb_4 wl_94 dX4_isSignAt_13 ?_
      refine lv_iload_n hx hb dX4_isSignAt_16 rfl (lv_at hl 1 rfl) ?_
      obtain ⟨k_5, h⟩ := chk_some h
      obtain ⟨k_6, h⟩ := chk_some h
      refine ar_8 C hP k_5 k_6 dX4_isSignAt_17 ?_
      refine lv_iload_n hx hb dX4_isSignAt_18 rfl (lv_at hl 2 rfl) ?_
      refine lv_icmp_ne (tgt := 26) hx hb dX4_isSignAt_19 (by decide) (fun c_7 => ?_) (fun c_7 => ?_)
      · replace h := ite_f h c_7
        refine lv_iconst (v := 0) hx hb dX4_isSignAt_26 (by decide) ?_
        cases h
        exact rt_z C hP hD hS rfl dX4_isSignAt_27
      · replace h := ite_t h c_7
        refine lv_iconst (v := 1) hx hb dX4_isSignAt_22 (by decide) ?_
        refine lv_goto (tgt := 27) hx hb dX4_isSignAt_23 (by decide) ?_
        cases h
        exact rt_z C hP hD hS rfl dX4_isSignAt_27
abbrev rm_X4_isDigitAt : Room := { frames := 0, cells := 0, slots := 0, locals := 0 }
theorem hd_X4_isDigitAt : yX4_isDigitAt.cls = RX4 ∧ yX4_isDigitAt.cls ≠ "java/lang/invoke/MethodHandle" ∧ yX4_isDigitAt.cls ≠ "java/lang/invoke/VarHandle" ∧ (parseMethodDescriptor yX4_isDigitAt.desc).map (fun d => d.parameters.length) = some 1 := ⟨rfl, by decide +kernel, by decide +kernel, by decide +kernel⟩
set_option maxHeartbeats 4000000 in
set_option maxRecDepth 100000 in
theorem ct_X4_isDigitAt {l : Launch} {D : va_G} {cy : Cy} {T : Ty} {R : Rm} {a0 : Nat} {x1 : Int32} {M : Mm} {r : Int32} {M9 : Mm} (h : fn_X4_isDigitAt T R a0 x1 M = some (r, M9)) : Ct QcI l yX4_isDigitAt cX4_isDigitAt 2 (some .boolean) rm_X4_isDigitAt D cy T M R [.ref a0, .int x1] M9 R r := by
  unfold fn_X4_isDigitAt at h
  refine enter (plainFor_of_name (by decide +kernel)) (Nat.le_of_ble_eq_true rfl) (fun p e s m args below meth c A C hP hD hS ls hl => ?_)
  have hl : lv_has ls 2 [(0, .ref a0), (1, .int x1)] := hl
  obtain ⟨hx, hb, hr, hml, hown, hts, hK, hA, hlk, hSt⟩ := id C
  refine lv_iload_n hx hb dX4_isDigitAt_0 rfl (lv_at hl 1 rfl) ?_
  refine lv_if_lt (tgt := 38) hx hb dX4_isDigitAt_1 (by decide) (fun c_1 => ?_) (fun c_1 => ?_)
  · replace h := ite_t h c_1
    refine lv_iconst (v := 0) hx hb dX4_isDigitAt_38 (by decide) ?_
    cases h
    exact rt_z C hP hD hS rfl dX4_isDigitAt_39
  · replace h := ite_f h c_1
    refine lv_iload_n hx hb dX4_isDigitAt_4 rfl (lv_at hl 1 rfl) ?_
    refine lv_aload_n hx hb dX4_isDigitAt_5 rfl (lv_at hl 0 rfl) ?_
    obtain ⟨k_2, h⟩ := chk_some h
    refine gf_4_1 C hP k_2 wl_95 dX4_isDigitAt_6 ?_
    refine lv_icmp_ge (tgt := 38) hx hb dX4_isDigitAt_9 (by decide) (fun c_3 => ?_) (fun c_3 => ?_)
    · replace h := ite_t h c_3
      refine lv_iconst (v := 0) hx hb dX4_isDigitAt_38 (by decide) ?_
      cases h
      exact rt_z C hP hD hS rfl dX4_isDigitAt_39
    · replace h := ite_f h c_3
      refine lv_aload_n hx hb dX4_isDigitAt_12 rfl (lv_at hl 0 rfl) ?_
      obtain ⟨b_4, eb_4, h⟩ := rfm_some h
      refine gf_4_0 C hP k_2 eb_4 wl_94 dX4_isDigitAt_13 ?_
      refine lv_iload_n hx hb dX4_isDigitAt_16 rfl (lv_at hl 1 rfl) ?_
      obtain ⟨k_5, h⟩ := chk_some h
      obtain ⟨k_6, h⟩ := chk_some h
      refine ar_8 C hP k_5 k_6 dX4_isDigitAt_17 ?_
      refine lv_bipush (v := 48) hx hb dX4_isDigitAt_18 (by decide) ?_
      refine lv_icmp_lt (tgt := 38) hx hb dX4_isDigitAt_20 (by decide) (fun c_7 => ?_) (fun c_7 => ?_)
      · replace h := ite_t h c_7
        refine lv_iconst (v := 0) hx hb dX4_isDigitAt_38 (by decide) ?_
        cases h
        exact rt_z C hP hD hS rfl dX4_isDigitAt_39
      · replace h := ite_f h c_7
        refine lv_aload_n hx hb dX4_isDigitAt_23 rfl (lv_at hl 0 rfl) ?_
        refine gf_4_0 C hP k_2 eb_4 wl_94 dX4_isDigitAt_24 ?_
        refine lv_iload_n hx hb dX4_isDigitAt_27 rfl (lv_at hl 1 rfl) ?_
        refine ar_8 C hP k_5 k_6 dX4_isDigitAt_28 ?_
        refine lv_bipush (v := 57) hx hb dX4_isDigitAt_29 (by decide) ?_
        refine lv_icmp_gt (tgt := 38) hx hb dX4_isDigitAt_31 (by decide) (fun c_8 => ?_) (fun c_8 => ?_)
        · replace h := ite_t h c_8
          refine lv_iconst (v := 0) hx hb dX4_isDigitAt_38 (by decide) ?_
          cases h
          exact rt_z C hP hD hS rfl dX4_isDigitAt_39
        · replace h := ite_f h c_8
          refine lv_iconst (v := 1) hx hb dX4_isDigitAt_34 (by decide) ?_
          refine lv_goto (tgt := 39) hx hb dX4_isDigitAt_35 (by decide) ?_
          cases h
          exact rt_z C hP hD hS rfl dX4_isDigitAt_39
abbrev rm_X4_endOfNumber : Room := { frames := 1, cells := 0, slots := 0, locals := 21 }
theorem hd_X4_endOfNumber : yX4_endOfNumber.cls = RX4 ∧ yX4_endOfNumber.cls ≠ "java/lang/invoke/MethodHandle" ∧ yX4_endOfNumber.cls ≠ "java/lang/invoke/VarHandle" ∧ (parseMethodDescriptor yX4_endOfNumber.desc).map (fun d => d.parameters.length) = some 1 := ⟨rfl, by decide +kernel, by decide +kernel, by decide +kernel⟩
set_option maxHeartbeats 4000000 in
set_option maxRecDepth 100000 in
theorem bs_X4_endOfNumber_24 {p : Program} {l : Launch} {e : Env} {s : State} {m : MethodId} {args : Array Value} {below : List Frame} {meth : Method} {c : Code} {D : va_G} {cy : Cy} {A : Nat → Prop} {T : Ty} {R : Rm} {r : Int32} {M9 : Mm} {a0 : Nat} {x1 : Int32} (C : Cx RX4 cX4_endOfNumber 3 (some .int) p s m args meth c D cy A) :
    ∀ (x2 : Int32) (M : Mm) (H : Heap) (locs : List Loc), fs_X4_endOfNumber_24 T R a0 x1 x2 M = some (r, M9) → va_P D vwCl (WL cy T M R) H → va_D A (WL cy T M R) → va_S A s.heap H locs → ∀ ls : Array Slot, lv_has ls 3 [(1, .int x1), (2, .int x2)] → W p l e rm_X4_endOfNumber s m args below meth c H locs 0 0 (MQ below (QcI D cy T M9 R A r) args s 0 0 A) (F0 m 24 ls []) := by
  intro x2 M H locs h hP hD hS ls hl
  unfold fs_X4_endOfNumber_24 at h
  obtain ⟨hx, hb, hr, hml, hown, hts, hK, hA, hlk, hSt⟩ := id C
  refine lv_iload_n hx hb dX4_endOfNumber_24 rfl (lv_at hl 1 rfl) ?_
  refine lv_iload_n hx hb dX4_endOfNumber_25 rfl (lv_at hl 0 rfl) ?_
  refine lv_isub hx hb dX4_endOfNumber_26 ?_
  refine lv_iconst (v := 1) hx hb dX4_endOfNumber_27 (by decide) ?_
  refine lv_icmp_lt (tgt := 42) hx hb dX4_endOfNumber_28 (by decide) (fun c_1 => ?_) (fun c_1 => ?_)
  · replace h := ite_t h c_1
    refine lv_iconst (v := -1) hx hb dX4_endOfNumber_42 (by decide) ?_
    cases h
    exact rt_i C hP hD hS dX4_endOfNumber_43
  · replace h := ite_f h c_1
    refine lv_iload_n hx hb dX4_endOfNumber_31 rfl (lv_at hl 1 rfl) ?_
    refine lv_iload_n hx hb dX4_endOfNumber_32 rfl (lv_at hl 0 rfl) ?_
    refine lv_isub hx hb dX4_endOfNumber_33 ?_
    refine lv_iconst (v := 4) hx hb dX4_endOfNumber_34 (by decide) ?_
    refine lv_icmp_gt (tgt := 42) hx hb dX4_endOfNumber_35 (by decide) (fun c_2 => ?_) (fun c_2 => ?_)
    · replace h := ite_t h c_2
      refine lv_iconst (v := -1) hx hb dX4_endOfNumber_42 (by decide) ?_
      cases h
      exact rt_i C hP hD hS dX4_endOfNumber_43
    · replace h := ite_f h c_2
      refine lv_iload_n hx hb dX4_endOfNumber_38 rfl (lv_at hl 1 rfl) ?_
      refine lv_goto (tgt := 43) hx hb dX4_endOfNumber_39 (by decide) ?_
      cases h
      exact rt_i C hP hD hS dX4_endOfNumber_43
set_option maxHeartbeats 4000000 in
set_option maxRecDepth 100000 in
theorem bs_X4_endOfNumber_2 {p : Program} {l : Launch} {e : Env} {s : State} {m : MethodId} {args : Array Value} {below : List Frame} {meth : Method} {c : Code} {D : va_G} {cy : Cy} {A : Nat → Prop} {T : Ty} {R : Rm} {r : Int32} {M9 : Mm} {a0 : Nat} {x1 : Int32} {j2 : Int32 → Mm → Option (Int32 × Mm)} {j24 : Int32 → Mm → Option (Int32 × Mm)} (C : Cx RX4 cX4_endOfNumber 3 (some .int) p s m args meth c D cy A)
    (hj2 : ∀ (x2 : Int32) (M : Mm) (H : Heap) (locs : List Loc), j2 x2 M = some (r, M9) → va_P D vwCl (WL cy T M R) H → va_D A (WL cy T M R) → va_S A s.heap H locs → ∀ ls : Array Slot, lv_has ls 3 [(0, .ref a0), (1, .int x1), (2, .int x2)] → W p l e rm_X4_endOfNumber s m args below meth c H locs 0 0 (MQ below (QcI D cy T M9 R A r) args s 0 0 A) (F0 m 2 ls []))
    (hj24 : ∀ (x2 : Int32) (M : Mm) (H : Heap) (locs : List Loc), j24 x2 M = some (r, M9) → va_P D vwCl (WL cy T M R) H → va_D A (WL cy T M R) → va_S A s.heap H locs → ∀ ls : Array Slot, lv_has ls 3 [(1, .int x1), (2, .int x2)] → W p l e rm_X4_endOfNumber s m args below meth c H locs 0 0 (MQ below (QcI D cy T M9 R A r) args s 0 0 A) (F0 m 24 ls [])) :
    ∀ (x2 : Int32) (M : Mm) (H : Heap) (locs : List Loc), fs_X4_endOfNumber_2 T R a0 x1 j2 j24 x2 M = some (r, M9) → va_P D vwCl (WL cy T M R) H → va_D A (WL cy T M R) → va_S A s.heap H locs → ∀ ls : Array Slot, lv_has ls 3 [(0, .ref a0), (1, .int x1), (2, .int x2)] → W p l e rm_X4_endOfNumber s m args below meth c H locs 0 0 (MQ below (QcI D cy T M9 R A r) args s 0 0 A) (F0 m 2 ls []) := by
  intro x2 M H locs h hP hD hS ls hl
  unfold fs_X4_endOfNumber_2 at h
  obtain ⟨hx, hb, hr, hml, hown, hts, hK, hA, hlk, hSt⟩ := id C
  refine lv_iload_n hx hb dX4_endOfNumber_2 rfl (lv_at hl 2 rfl) ?_
  refine lv_aload_n hx hb dX4_endOfNumber_3 rfl (lv_at hl 0 rfl) ?_
  obtain ⟨k_3, h⟩ := chk_some h
  refine gf_4_1 C hP k_3 wl_95 dX4_endOfNumber_4 ?_
  refine lv_icmp_ge (tgt := 24) hx hb dX4_endOfNumber_7 (by decide) (fun c_4 => ?_) (fun c_4 => ?_)
  · replace h := ite_t h c_4
    exact hj24 _ _ _ _ h hP hD hS _ (lv_sub hl [1, 2] rfl)
  · replace h := ite_f h c_4
    refine lv_aload_n hx hb dX4_endOfNumber_10 rfl (lv_at hl 0 rfl) ?_
    refine lv_iload_n hx hb dX4_endOfNumber_11 rfl (lv_at hl 2 rfl) ?_
    obtain ⟨r_5, M_6, hc_7, h⟩ := cal_some h
    refine cl_Vi (As := [.int x2]) (rest := []) C (ct_X4_isDigitAt hc_7) k_3 (by decide) rfl wl_467 wl_468 wl_469 wl_19 wl_470 hd_X4_isDigitAt ⟨Nat.le_of_ble_eq_true rfl, Nat.le_of_ble_eq_true rfl⟩ ⟨rfl, rfl⟩ ⟨Nat.zero_le _, Nat.zero_le _⟩ rfl (Nat.le_of_ble_eq_true rfl) rfl hl.1 hP hD hS dX4_endOfNumber_12 (fun H locs hP hD hS => ?_)
    refine lv_if_eq (tgt := 24) hx hb dX4_endOfNumber_15 (by decide) (fun c_8 => ?_) (fun c_8 => ?_)
    · replace h := ite_t h c_8
      exact hj24 _ _ _ _ h hP hD hS _ (lv_sub hl [1, 2] rfl)
    · replace h := ite_f h c_8
      obtain ⟨v_9, ev_9⟩ : ∃ y : Int32, y = (x2 + (1 : Int32)) := ⟨_, rfl⟩
      replace h := bnd_at h ev_9
      refine lv_iinc (v := v_9) (lv' := [(2, .int v_9), (0, .ref a0), (1, .int x1)]) hx hb dX4_endOfNumber_18 hl (k := 2) rfl (by rw [ev_9]; rfl) (by decide) rfl (fun ls hl => ?_)
      refine lv_goto (tgt := 2) hx hb dX4_endOfNumber_21 (by decide) ?_
      exact hj2 _ _ _ _ h hP hD hS _ (lv_sub hl [1, 2, 0] rfl)
theorem bt_X4_endOfNumber_2 {p : Program} {l : Launch} {e : Env} {s : State} {m : MethodId} {args : Array Value} {below : List Frame} {meth : Method} {c : Code} {D : va_G} {cy : Cy} {A : Nat → Prop} {T : Ty} {R : Rm} {r : Int32} {M9 : Mm} {a0 : Nat} {x1 : Int32} {j24 : Int32 → Mm → Option (Int32 × Mm)} (C : Cx RX4 cX4_endOfNumber 3 (some .int) p s m args meth c D cy A)
    (hj24 : ∀ (x2 : Int32) (M : Mm) (H : Heap) (locs : List Loc), j24 x2 M = some (r, M9) → va_P D vwCl (WL cy T M R) H → va_D A (WL cy T M R) → va_S A s.heap H locs → ∀ ls : Array Slot, lv_has ls 3 [(1, .int x1), (2, .int x2)] → W p l e rm_X4_endOfNumber s m args below meth c H locs 0 0 (MQ below (QcI D cy T M9 R A r) args s 0 0 A) (F0 m 24 ls [])) :
    ∀ n : Nat, ∀ (x2 : Int32) (M : Mm) (H : Heap) (locs : List Loc), fb_X4_endOfNumber_2 T R a0 x1 j24 n x2 M = some (r, M9) → va_P D vwCl (WL cy T M R) H → va_D A (WL cy T M R) → va_S A s.heap H locs → ∀ ls : Array Slot, lv_has ls 3 [(0, .ref a0), (1, .int x1), (2, .int x2)] → W p l e rm_X4_endOfNumber s m args below meth c H locs 0 0 (MQ below (QcI D cy T M9 R A r) args s 0 0 A) (F0 m 2 ls []) := by
  intro n
  induction n with
  | zero =>
    intro _ _ H locs h
    exact absurd (show (none : Option (Int32 × Mm)) = some _ from h) (by simp)
  | succ n ih => exact fun u0 u1 H locs h => bs_X4_endOfNumber_2 (a0 := a0) (x1 := x1) C ih hj24 u0 u1 H locs h
set_option maxHeartbeats 4000000 in
set_option maxRecDepth 100000 in
theorem ct_X4_endOfNumber {l : Launch} {D : va_G} {cy : Cy} {T : Ty} {R : Rm} {a0 : Nat} {x1 : Int32} {M : Mm} {r : Int32} {M9 : Mm} (h : fn_X4_endOfNumber T R a0 x1 M = some (r, M9)) : Ct QcI l yX4_endOfNumber cX4_endOfNumber 3 (some .int) rm_X4_endOfNumber D cy T M R [.ref a0, .int x1] M9 R r := by
  unfold fn_X4_endOfNumber at h
  refine enter (plainFor_of_name (by decide +kernel)) (Nat.le_of_ble_eq_true rfl) (fun p e s m args below meth c A C hP hD hS ls hl => ?_)
  have hl : lv_has ls 3 [(0, .ref a0), (1, .int x1)] := hl
  obtain ⟨hx, hb, hr, hml, hown, hts, hK, hA, hlk, hSt⟩ := id C
  refine lv_iload_n hx hb dX4_endOfNumber_0 rfl (lv_at hl 1 rfl) ?_
  refine lv_istore_n (lv' := [(2, .int x1), (0, .ref a0), (1, .int x1)]) hx hb dX4_endOfNumber_1 rfl hl (by decide) rfl (fun ls hl => ?_)
  exact (bt_X4_endOfNumber_2 C (bs_X4_endOfNumber_24 C) FU) _ _ _ _ h hP hD hS _ (lv_sub hl [1, 2, 0] rfl)
abbrev rm_X4_numberAt : Room := { frames := 2, cells := 0, slots := 0, locals := 43 }
theorem hd_X4_numberAt : yX4_numberAt.cls = RX4 ∧ yX4_numberAt.cls ≠ "java/lang/invoke/MethodHandle" ∧ yX4_numberAt.cls ≠ "java/lang/invoke/VarHandle" ∧ (parseMethodDescriptor yX4_numberAt.desc).map (fun d => d.parameters.length) = some 1 := ⟨rfl, by decide +kernel, by decide +kernel, by decide +kernel⟩
set_option maxHeartbeats 4000000 in
set_option maxRecDepth 100000 in
theorem bs_X4_numberAt_11 {p : Program} {l : Launch} {e : Env} {s : State} {m : MethodId} {args : Array Value} {below : List Frame} {meth : Method} {c : Code} {D : va_G} {cy : Cy} {A : Nat → Prop} {T : Ty} {R : Rm} {r : Int32} {M9 : Mm} {a0 : Nat} {x1 : Int32} {j11 : Int32 → Int32 → Int32 → Mm → Option (Int32 × Mm)} (C : Cx RX4 cX4_numberAt 5 (some .int) p s m args meth c D cy A)
    (hj11 : ∀ (x2 : Int32) (x3 : Int32) (x4 : Int32) (M : Mm) (H : Heap) (locs : List Loc), j11 x2 x3 x4 M = some (r, M9) → va_P D vwCl (WL cy T M R) H → va_D A (WL cy T M R) → va_S A s.heap H locs → ∀ ls : Array Slot, lv_has ls 5 [(0, .ref a0), (2, .int x2), (3, .int x3), (4, .int x4)] → W p l e rm_X4_numberAt s m args below meth c H locs 0 0 (MQ below (QcI D cy T M9 R A r) args s 0 0 A) (F0 m 11 ls [])) :
    ∀ (x2 : Int32) (x3 : Int32) (x4 : Int32) (M : Mm) (H : Heap) (locs : List Loc), fs_X4_numberAt_11 T R a0 x1 j11 x2 x3 x4 M = some (r, M9) → va_P D vwCl (WL cy T M R) H → va_D A (WL cy T M R) → va_S A s.heap H locs → ∀ ls : Array Slot, lv_has ls 5 [(0, .ref a0), (2, .int x2), (3, .int x3), (4, .int x4)] → W p l e rm_X4_numberAt s m args below meth c H locs 0 0 (MQ below (QcI D cy T M9 R A r) args s 0 0 A) (F0 m 11 ls []) := by
  intro x2 x3 x4 M H locs h hP hD hS ls hl
  unfold fs_X4_numberAt_11 at h
  obtain ⟨hx, hb, hr, hml, hown, hts, hK, hA, hlk, hSt⟩ := id C
  refine lv_iload hx hb dX4_numberAt_11 (lv_at hl 3 rfl) ?_
  refine lv_if_lt (tgt := 44) hx hb dX4_numberAt_13 (by decide) (fun c_1 => ?_) (fun c_1 => ?_)
  · replace h := ite_t h c_1
    refine lv_iload_n hx hb dX4_numberAt_44 rfl (lv_at hl 2 rfl) ?_
    cases h
    exact rt_i C hP hD hS dX4_numberAt_45
  · replace h := ite_f h c_1
    refine lv_iload hx hb dX4_numberAt_16 (lv_at hl 3 rfl) ?_
    refine lv_iload_n hx hb dX4_numberAt_18 rfl (lv_at hl 1 rfl) ?_
    refine lv_icmp_ge (tgt := 44) hx hb dX4_numberAt_19 (by decide) (fun c_2 => ?_) (fun c_2 => ?_)
    · replace h := ite_t h c_2
      refine lv_iload_n hx hb dX4_numberAt_44 rfl (lv_at hl 2 rfl) ?_
      cases h
      exact rt_i C hP hD hS dX4_numberAt_45
    · replace h := ite_f h c_2
      refine lv_iload_n hx hb dX4_numberAt_22 rfl (lv_at hl 2 rfl) ?_
      refine lv_bipush (v := 10) hx hb dX4_numberAt_23 (by decide) ?_
      refine lv_imul hx hb dX4_numberAt_25 ?_
      refine lv_aload_n hx hb dX4_numberAt_26 rfl (lv_at hl 0 rfl) ?_
      obtain ⟨k_3, h⟩ := chk_some h
      obtain ⟨b_4, eb_4, h⟩ := rfm_some h
      refine gf_4_0 C hP k_3 eb_4 wl_94 dX4_numberAt_27 ?_
      refine lv_iload hx hb dX4_numberAt_30 (lv_at hl 3 rfl) ?_
      obtain ⟨k_5, h⟩ := chk_some h
      obtain ⟨k_6, h⟩ := chk_some h
      refine ar_8 C hP k_5 k_6 dX4_numberAt_32 ?_
      refine lv_bipush (v := 48) hx hb dX4_numberAt_33 (by decide) ?_
      refine lv_isub hx hb dX4_numberAt_35 ?_
      refine lv_iadd hx hb dX4_numberAt_36 ?_
      refine lv_topi (fun v_7 ev_7 => ?_)
      replace h := bnd_at h ev_7
      refine lv_istore_n (lv' := [(3, .int v_7), (0, .ref a0), (2, .int x2), (4, .int x4)]) hx hb dX4_numberAt_37 rfl hl (by decide) rfl (fun ls hl => ?_)
      obtain ⟨v_8, ev_8⟩ : ∃ y : Int32, y = (x4 + (1 : Int32)) := ⟨_, rfl⟩
      replace h := bnd_at h ev_8
      refine lv_iinc (v := v_8) (lv' := [(4, .int v_8), (3, .int v_7), (0, .ref a0), (2, .int x2)]) hx hb dX4_numberAt_38 hl (k := 3) rfl (by rw [ev_8]; rfl) (by decide) rfl (fun ls hl => ?_)
      refine lv_goto (tgt := 11) hx hb dX4_numberAt_41 (by decide) ?_
      exact hj11 _ _ _ _ _ _ h hP hD hS _ (lv_sub hl [2, 3, 1, 0] rfl)
theorem bt_X4_numberAt_11 {p : Program} {l : Launch} {e : Env} {s : State} {m : MethodId} {args : Array Value} {below : List Frame} {meth : Method} {c : Code} {D : va_G} {cy : Cy} {A : Nat → Prop} {T : Ty} {R : Rm} {r : Int32} {M9 : Mm} {a0 : Nat} {x1 : Int32} (C : Cx RX4 cX4_numberAt 5 (some .int) p s m args meth c D cy A) :
    ∀ n : Nat, ∀ (x2 : Int32) (x3 : Int32) (x4 : Int32) (M : Mm) (H : Heap) (locs : List Loc), fb_X4_numberAt_11 T R a0 x1 n x2 x3 x4 M = some (r, M9) → va_P D vwCl (WL cy T M R) H → va_D A (WL cy T M R) → va_S A s.heap H locs → ∀ ls : Array Slot, lv_has ls 5 [(0, .ref a0), (2, .int x2), (3, .int x3), (4, .int x4)] → W p l e rm_X4_numberAt s m args below meth c H locs 0 0 (MQ below (QcI D cy T M9 R A r) args s 0 0 A) (F0 m 11 ls []) := by
  intro n
  induction n with
  | zero =>
    intro _ _ _ _ H locs h
    exact absurd (show (none : Option (Int32 × Mm)) = some _ from h) (by simp)
  | succ n ih => exact fun u0 u1 u2 u3 H locs h => bs_X4_numberAt_11 (a0 := a0) (x1 := x1) C ih u0 u1 u2 u3 H locs h
set_option maxHeartbeats 4000000 in
set_option maxRecDepth 100000 in
theorem ct_X4_numberAt {l : Launch} {D : va_G} {cy : Cy} {T : Ty} {R : Rm} {a0 : Nat} {x1 : Int32} {M : Mm} {r : Int32} {M9 : Mm} (h : fn_X4_numberAt T R a0 x1 M = some (r, M9)) : Ct QcI l yX4_numberAt cX4_numberAt 5 (some .int) rm_X4_numberAt D cy T M R [.ref a0, .int x1] M9 R r := by
  unfold fn_X4_numberAt at h
  refine enter (plainFor_of_name (by decide +kernel)) (Nat.le_of_ble_eq_true rfl) (fun p e s m args below meth c A C hP hD hS ls hl => ?_)
  have hl : lv_has ls 5 [(0, .ref a0), (1, .int x1)] := hl
  obtain ⟨hx, hb, hr, hml, hown, hts, hK, hA, hlk, hSt⟩ := id C
  refine lv_aload_n hx hb dX4_numberAt_0 rfl (lv_at hl 0 rfl) ?_
  refine lv_iload_n hx hb dX4_numberAt_1 rfl (lv_at hl 1 rfl) ?_
  obtain ⟨k_9, h⟩ := chk_some h
  obtain ⟨r_10, M_11, hc_12, h⟩ := cal_some h
  refine cl_Vi (As := [.int x1]) (rest := []) C (ct_X4_endOfNumber hc_12) k_9 (by decide) rfl wl_463 wl_464 wl_465 wl_19 wl_466 hd_X4_endOfNumber ⟨Nat.le_of_ble_eq_true rfl, Nat.le_of_ble_eq_true rfl⟩ ⟨rfl, rfl⟩ ⟨Nat.zero_le _, Nat.zero_le _⟩ rfl (Nat.le_of_ble_eq_true rfl) rfl hl.1 hP hD hS dX4_numberAt_2 (fun H locs hP hD hS => ?_)
  refine lv_istore_n (lv' := [(2, .int r_10), (0, .ref a0), (1, .int x1)]) hx hb dX4_numberAt_5 rfl hl (by decide) rfl (fun ls hl => ?_)
  refine lv_iconst (v := 0) hx hb dX4_numberAt_6 (by decide) ?_
  refine lv_istore_n (lv' := [(3, .int (0 : Int32)), (2, .int r_10), (0, .ref a0), (1, .int x1)]) hx hb dX4_numberAt_7 rfl hl (by decide) rfl (fun ls hl => ?_)
  refine lv_iload_n hx hb dX4_numberAt_8 rfl (lv_at hl 3 rfl) ?_
  refine lv_istore (lv' := [(4, .int x1), (3, .int (0 : Int32)), (2, .int r_10), (0, .ref a0), (1, .int x1)]) hx hb dX4_numberAt_9 hl (by decide) rfl (fun ls hl => ?_)
  exact (bt_X4_numberAt_11 C FU) _ _ _ _ _ _ h hP hD hS _ (lv_sub hl [3, 2, 1, 0] rfl)
abbrev rm_X4_endOfYear : Room := { frames := 2, cells := 0, slots := 0, locals := 43 }
theorem hd_X4_endOfYear : yX4_endOfYear.cls = RX4 ∧ yX4_endOfYear.cls ≠ "java/lang/invoke/MethodHandle" ∧ yX4_endOfYear.cls ≠ "java/lang/invoke/VarHandle" ∧ (parseMethodDescriptor yX4_endOfYear.desc).map (fun d => d.parameters.length) = some 1 := ⟨rfl, by decide +kernel, by decide +kernel, by decide +kernel⟩
set_option maxHeartbeats 4000000 in
set_option maxRecDepth 100000 in
theorem ct_X4_endOfYear {l : Launch} {D : va_G} {cy : Cy} {T : Ty} {R : Rm} {a0 : Nat} {x1 : Int32} {M : Mm} {r : Int32} {M9 : Mm} (h : fn_X4_endOfYear T R a0 x1 M = some (r, M9)) : Ct QcI l yX4_endOfYear cX4_endOfYear 4 (some .int) rm_X4_endOfYear D cy T M R [.ref a0, .int x1] M9 R r := by
  unfold fn_X4_endOfYear at h
  refine enter (plainFor_of_name (by decide +kernel)) (Nat.le_of_ble_eq_true rfl) (fun p e s m args below meth c A C hP hD hS ls hl => ?_)
  have hl : lv_has ls 4 [(0, .ref a0), (1, .int x1)] := hl
  obtain ⟨hx, hb, hr, hml, hown, hts, hK, hA, hlk, hSt⟩ := id C
  refine lv_aload_n hx hb dX4_endOfYear_0 rfl (lv_at hl 0 rfl) ?_
  refine lv_iload_n hx hb dX4_endOfYear_1 rfl (lv_at hl 1 rfl) ?_
  obtain ⟨k_1, h⟩ := chk_some h
  obtain ⟨r_2, M_3, hc_4, h⟩ := cal_some h
  refine cl_Vi (As := [.int x1]) (rest := []) C (ct_X4_endOfNumber hc_4) k_1 (by decide) rfl wl_463 wl_464 wl_465 wl_19 wl_466 hd_X4_endOfNumber ⟨Nat.le_of_ble_eq_true rfl, Nat.le_of_ble_eq_true rfl⟩ ⟨rfl, rfl⟩ ⟨Nat.zero_le _, Nat.zero_le _⟩ rfl (Nat.le_of_ble_eq_true rfl) rfl hl.1 hP hD hS dX4_endOfYear_2 (fun H locs hP hD hS => ?_)
  refine lv_istore_n (lv' := [(2, .int r_2), (0, .ref a0), (1, .int x1)]) hx hb dX4_endOfYear_5 rfl hl (by decide) rfl (fun ls hl => ?_)
  refine lv_aload_n hx hb dX4_endOfYear_6 rfl (lv_at hl 1 rfl) ?_
  refine lv_iload_n hx hb dX4_endOfYear_7 rfl (lv_at hl 0 rfl) ?_
  refine lv_bipush (v := 44) hx hb dX4_endOfYear_8 (by decide) ?_
  obtain ⟨r_5, M_6, hc_7, h⟩ := cal_some h
  refine cl_Vi (As := [.int r_2, .int (44 : Int32)]) (rest := []) C (ct_X4_isSignAt hc_7) k_1 (by decide) rfl wl_471 wl_472 wl_473 wl_19 wl_474 hd_X4_isSignAt ⟨Nat.le_of_ble_eq_true rfl, Nat.le_of_ble_eq_true rfl⟩ ⟨rfl, rfl⟩ ⟨Nat.zero_le _, Nat.zero_le _⟩ rfl (Nat.le_of_ble_eq_true rfl) rfl hl.1 hP hD hS dX4_endOfYear_10 (fun H locs hP hD hS => ?_)
  refine lv_if_ne (tgt := 18) hx hb dX4_endOfYear_13 (by decide) (fun c_8 => ?_) (fun c_8 => ?_)
  · replace h := ite_f h c_8
    refine lv_aload_n hx hb dX4_endOfYear_18 rfl (lv_at hl 1 rfl) ?_
    refine lv_iload_n hx hb dX4_endOfYear_19 rfl (lv_at hl 0 rfl) ?_
    refine lv_iconst (v := 1) hx hb dX4_endOfYear_20 (by decide) ?_
    refine lv_iadd hx hb dX4_endOfYear_21 ?_
    obtain ⟨r_9, M_10, hc_11, h⟩ := cal_some h
    refine cl_Vi (As := [.int (r_2 + (1 : Int32))]) (rest := []) C (ct_X4_endOfNumber hc_11) k_1 (by decide) rfl wl_463 wl_464 wl_465 wl_19 wl_466 hd_X4_endOfNumber ⟨Nat.le_of_ble_eq_true rfl, Nat.le_of_ble_eq_true rfl⟩ ⟨rfl, rfl⟩ ⟨Nat.zero_le _, Nat.zero_le _⟩ rfl (Nat.le_of_ble_eq_true rfl) rfl hl.1 hP hD hS dX4_endOfYear_22 (fun H locs hP hD hS => ?_)
    refine lv_istore_n (lv' := [(3, .int r_9), (2, .int r_2), (0, .ref a0), (1, .int x1)]) hx hb dX4_endOfYear_25 rfl hl (by decide) rfl (fun ls hl => ?_)
    refine lv_aload_n hx hb dX4_endOfYear_26 rfl (lv_at hl 2 rfl) ?_
    refine lv_iload_n hx hb dX4_endOfYear_27 rfl (lv_at hl 0 rfl) ?_
    refine lv_bipush (v := 59) hx hb dX4_endOfYear_28 (by decide) ?_
    obtain ⟨r_12, M_13, hc_14, h⟩ := cal_some h
    refine cl_Vi (As := [.int r_9, .int (59 : Int32)]) (rest := []) C (ct_X4_isSignAt hc_14) k_1 (by decide) rfl wl_471 wl_472 wl_473 wl_19 wl_474 hd_X4_isSignAt ⟨Nat.le_of_ble_eq_true rfl, Nat.le_of_ble_eq_true rfl⟩ ⟨rfl, rfl⟩ ⟨Nat.zero_le _, Nat.zero_le _⟩ rfl (Nat.le_of_ble_eq_true rfl) rfl hl.1 hP hD hS dX4_endOfYear_30 (fun H locs hP hD hS => ?_)
    refine lv_if_eq (tgt := 42) hx hb dX4_endOfYear_33 (by decide) (fun c_15 => ?_) (fun c_15 => ?_)
    · replace h := ite_t h c_15
      refine lv_iconst (v := -1) hx hb dX4_endOfYear_42 (by decide) ?_
      cases h
      exact rt_i C hP hD hS dX4_endOfYear_43
    · replace h := ite_f h c_15
      refine lv_iload_n hx hb dX4_endOfYear_36 rfl (lv_at hl 0 rfl) ?_
      refine lv_iconst (v := 1) hx hb dX4_endOfYear_37 (by decide) ?_
      refine lv_iadd hx hb dX4_endOfYear_38 ?_
      refine lv_goto (tgt := 43) hx hb dX4_endOfYear_39 (by decide) ?_
      cases h
      exact rt_i C hP hD hS dX4_endOfYear_43
  · replace h := ite_t h c_8
    refine lv_iconst (v := -1) hx hb dX4_endOfYear_16 (by decide) ?_
    cases h
    exact rt_i C hP hD hS dX4_endOfYear_17
abbrev rm_X4_snowOfYear : Room := { frames := 3, cells := 0, slots := 0, locals := 67 }
theorem hd_X4_snowOfYear : yX4_snowOfYear.cls = RX4 ∧ yX4_snowOfYear.cls ≠ "java/lang/invoke/MethodHandle" ∧ yX4_snowOfYear.cls ≠ "java/lang/invoke/VarHandle" ∧ (parseMethodDescriptor yX4_snowOfYear.desc).map (fun d => d.parameters.length) = some 1 := ⟨rfl, by decide +kernel, by decide +kernel, by decide +kernel⟩
set_option maxHeartbeats 4000000 in
set_option maxRecDepth 100000 in
theorem ct_X4_snowOfYear {l : Launch} {D : va_G} {cy : Cy} {T : Ty} {R : Rm} {a0 : Nat} {x1 : Int32} {M : Mm} {r : Int32} {M9 : Mm} (h : fn_X4_snowOfYear T R a0 x1 M = some (r, M9)) : Ct QcI l yX4_snowOfYear cX4_snowOfYear 2 (some .int) rm_X4_snowOfYear D cy T M R [.ref a0, .int x1] M9 R r := by
  unfold fn_X4_snowOfYear at h
  refine enter (plainFor_of_name (by decide +kernel)) (Nat.le_of_ble_eq_true rfl) (fun p e s m args below meth c A C hP hD hS ls hl => ?_)
  have hl : lv_has ls 2 [(0, .ref a0), (1, .int x1)] := hl
  obtain ⟨hx, hb, hr, hml, hown, hts, hK, hA, hlk, hSt⟩ := id C
  refine lv_aload_n hx hb dX4_snowOfYear_0 rfl (lv_at hl 0 rfl) ?_
  refine lv_iload_n hx hb dX4_snowOfYear_1 rfl (lv_at hl 1 rfl) ?_
  obtain ⟨k_1, h⟩ := chk_some h
  obtain ⟨r_2, M_3, hc_4, h⟩ := cal_some h
  refine cl_Vi (As := [.int x1]) (rest := []) C (ct_X4_numberAt hc_4) k_1 (by decide) rfl wl_479 wl_480 wl_481 wl_19 wl_482 hd_X4_numberAt ⟨Nat.le_of_ble_eq_true rfl, Nat.le_of_ble_eq_true rfl⟩ ⟨rfl, rfl⟩ ⟨Nat.zero_le _, Nat.zero_le _⟩ rfl (Nat.le_of_ble_eq_true rfl) rfl hl.1 hP hD hS dX4_snowOfYear_2 (fun H locs hP hD hS => ?_)
  cases h
  exact rt_i C hP hD hS dX4_snowOfYear_5
abbrev rm_X4_meltOfYear : Room := { frames := 3, cells := 0, slots := 0, locals := 67 }
theorem hd_X4_meltOfYear : yX4_meltOfYear.cls = RX4 ∧ yX4_meltOfYear.cls ≠ "java/lang/invoke/MethodHandle" ∧ yX4_meltOfYear.cls ≠ "java/lang/invoke/VarHandle" ∧ (parseMethodDescriptor yX4_meltOfYear.desc).map (fun d => d.parameters.length) = some 1 := ⟨rfl, by decide +kernel, by decide +kernel, by decide +kernel⟩
set_option maxHeartbeats 4000000 in
set_option maxRecDepth 100000 in
theorem ct_X4_meltOfYear {l : Launch} {D : va_G} {cy : Cy} {T : Ty} {R : Rm} {a0 : Nat} {x1 : Int32} {M : Mm} {r : Int32} {M9 : Mm} (h : fn_X4_meltOfYear T R a0 x1 M = some (r, M9)) : Ct QcI l yX4_meltOfYear cX4_meltOfYear 2 (some .int) rm_X4_meltOfYear D cy T M R [.ref a0, .int x1] M9 R r := by
  unfold fn_X4_meltOfYear at h
  refine enter (plainFor_of_name (by decide +kernel)) (Nat.le_of_ble_eq_true rfl) (fun p e s m args below meth c A C hP hD hS ls hl => ?_)
  have hl : lv_has ls 2 [(0, .ref a0), (1, .int x1)] := hl
  obtain ⟨hx, hb, hr, hml, hown, hts, hK, hA, hlk, hSt⟩ := id C
  refine lv_aload_n hx hb dX4_meltOfYear_0 rfl (lv_at hl 0 rfl) ?_
  refine lv_aload_n hx hb dX4_meltOfYear_1 rfl (lv_at hl 0 rfl) ?_
  refine lv_iload_n hx hb dX4_meltOfYear_2 rfl (lv_at hl 1 rfl) ?_
  obtain ⟨k_1, h⟩ := chk_some h
  obtain ⟨r_2, M_3, hc_4, h⟩ := cal_some h
  refine cl_Vi (As := [.int x1]) (rest := [.ref a0]) C (ct_X4_endOfNumber hc_4) k_1 (by decide) rfl wl_463 wl_464 wl_465 wl_19 wl_466 hd_X4_endOfNumber ⟨Nat.le_of_ble_eq_true rfl, Nat.le_of_ble_eq_true rfl⟩ ⟨rfl, rfl⟩ ⟨Nat.zero_le _, Nat.zero_le _⟩ rfl (Nat.le_of_ble_eq_true rfl) rfl hl.1 hP hD hS dX4_meltOfYear_3 (fun H locs hP hD hS => ?_)
  refine lv_iconst (v := 1) hx hb dX4_meltOfYear_6 (by decide) ?_
  refine lv_iadd hx hb dX4_meltOfYear_7 ?_
  obtain ⟨r_5, M_6, hc_7, h⟩ := cal_some h
  refine cl_Vi (As := [.int (r_2 + (1 : Int32))]) (rest := []) C (ct_X4_numberAt hc_7) k_1 (by decide) rfl wl_479 wl_480 wl_481 wl_19 wl_482 hd_X4_numberAt ⟨Nat.le_of_ble_eq_true rfl, Nat.le_of_ble_eq_true rfl⟩ ⟨rfl, rfl⟩ ⟨Nat.zero_le _, Nat.zero_le _⟩ rfl (Nat.le_of_ble_eq_true rfl) rfl hl.1 hP hD hS dX4_meltOfYear_8 (fun H locs hP hD hS => ?_)
  cases h
  exact rt_i C hP hD hS dX4_meltOfYear_11
abbrev rm_X4_startOfYear : Room := { frames := 3, cells := 0, slots := 0, locals := 66 }
theorem hd_X4_startOfYear : yX4_startOfYear.cls = RX4 ∧ yX4_startOfYear.cls ≠ "java/lang/invoke/MethodHandle" ∧ yX4_startOfYear.cls ≠ "java/lang/invoke/VarHandle" ∧ (parseMethodDescriptor yX4_startOfYear.desc).map (fun d => d.parameters.length) = some 1 := ⟨rfl, by decide +kernel, by decide +kernel, by decide +kernel⟩
set_option maxHeartbeats 4000000 in
set_option maxRecDepth 100000 in
theorem bs_X4_startOfYear_4 {p : Program} {l : Launch} {e : Env} {s : State} {m : MethodId} {args : Array Value} {below : List Frame} {meth : Method} {c : Code} {D : va_G} {cy : Cy} {A : Nat → Prop} {T : Ty} {R : Rm} {r : Int32} {M9 : Mm} {a0 : Nat} {x1 : Int32} {j4 : Int32 → Int32 → Mm → Option (Int32 × Mm)} (C : Cx RX4 cX4_startOfYear 4 (some .int) p s m args meth c D cy A)
    (hj4 : ∀ (x2 : Int32) (x3 : Int32) (M : Mm) (H : Heap) (locs : List Loc), j4 x2 x3 M = some (r, M9) → va_P D vwCl (WL cy T M R) H → va_D A (WL cy T M R) → va_S A s.heap H locs → ∀ ls : Array Slot, lv_has ls 4 [(0, .ref a0), (1, .int x1), (2, .int x2), (3, .int x3)] → W p l e rm_X4_startOfYear s m args below meth c H locs 0 0 (MQ below (QcI D cy T M9 R A r) args s 0 0 A) (F0 m 4 ls [])) :
    ∀ (x2 : Int32) (x3 : Int32) (M : Mm) (H : Heap) (locs : List Loc), fs_X4_startOfYear_4 T R a0 x1 j4 x2 x3 M = some (r, M9) → va_P D vwCl (WL cy T M R) H → va_D A (WL cy T M R) → va_S A s.heap H locs → ∀ ls : Array Slot, lv_has ls 4 [(0, .ref a0), (1, .int x1), (2, .int x2), (3, .int x3)] → W p l e rm_X4_startOfYear s m args below meth c H locs 0 0 (MQ below (QcI D cy T M9 R A r) args s 0 0 A) (F0 m 4 ls []) := by
  intro x2 x3 M H locs h hP hD hS ls hl
  unfold fs_X4_startOfYear_4 at h
  obtain ⟨hx, hb, hr, hml, hown, hts, hK, hA, hlk, hSt⟩ := id C
  refine lv_iload_n hx hb dX4_startOfYear_4 rfl (lv_at hl 3 rfl) ?_
  refine lv_iload_n hx hb dX4_startOfYear_5 rfl (lv_at hl 1 rfl) ?_
  refine lv_icmp_ge (tgt := 25) hx hb dX4_startOfYear_6 (by decide) (fun c_1 => ?_) (fun c_1 => ?_)
  · replace h := ite_t h c_1
    refine lv_iload_n hx hb dX4_startOfYear_25 rfl (lv_at hl 2 rfl) ?_
    cases h
    exact rt_i C hP hD hS dX4_startOfYear_26
  · replace h := ite_f h c_1
    refine lv_iload_n hx hb dX4_startOfYear_9 rfl (lv_at hl 2 rfl) ?_
    refine lv_if_lt (tgt := 25) hx hb dX4_startOfYear_10 (by decide) (fun c_2 => ?_) (fun c_2 => ?_)
    · replace h := ite_t h c_2
      refine lv_iload_n hx hb dX4_startOfYear_25 rfl (lv_at hl 2 rfl) ?_
      cases h
      exact rt_i C hP hD hS dX4_startOfYear_26
    · replace h := ite_f h c_2
      refine lv_aload_n hx hb dX4_startOfYear_13 rfl (lv_at hl 0 rfl) ?_
      refine lv_iload_n hx hb dX4_startOfYear_14 rfl (lv_at hl 2 rfl) ?_
      obtain ⟨k_3, h⟩ := chk_some h
      obtain ⟨r_4, M_5, hc_6, h⟩ := cal_some h
      refine cl_Vi (As := [.int x2]) (rest := []) C (ct_X4_endOfYear hc_6) k_3 (by decide) rfl wl_491 wl_460 wl_461 wl_19 wl_462 hd_X4_endOfYear ⟨Nat.le_of_ble_eq_true rfl, Nat.le_of_ble_eq_true rfl⟩ ⟨rfl, rfl⟩ ⟨Nat.zero_le _, Nat.zero_le _⟩ rfl (Nat.le_of_ble_eq_true rfl) rfl hl.1 hP hD hS dX4_startOfYear_15 (fun H locs hP hD hS => ?_)
      refine lv_istore_n (lv' := [(2, .int r_4), (0, .ref a0), (1, .int x1), (3, .int x3)]) hx hb dX4_startOfYear_18 rfl hl (by decide) rfl (fun ls hl => ?_)
      obtain ⟨v_7, ev_7⟩ : ∃ y : Int32, y = (x3 + (1 : Int32)) := ⟨_, rfl⟩
      replace h := bnd_at h ev_7
      refine lv_iinc (v := v_7) (lv' := [(3, .int v_7), (2, .int r_4), (0, .ref a0), (1, .int x1)]) hx hb dX4_startOfYear_19 hl (k := 3) rfl (by rw [ev_7]; rfl) (by decide) rfl (fun ls hl => ?_)
      refine lv_goto (tgt := 4) hx hb dX4_startOfYear_22 (by decide) ?_
      exact hj4 _ _ _ _ _ h hP hD hS _ (lv_sub hl [2, 3, 1, 0] rfl)
theorem bt_X4_startOfYear_4 {p : Program} {l : Launch} {e : Env} {s : State} {m : MethodId} {args : Array Value} {below : List Frame} {meth : Method} {c : Code} {D : va_G} {cy : Cy} {A : Nat → Prop} {T : Ty} {R : Rm} {r : Int32} {M9 : Mm} {a0 : Nat} {x1 : Int32} (C : Cx RX4 cX4_startOfYear 4 (some .int) p s m args meth c D cy A) :
    ∀ n : Nat, ∀ (x2 : Int32) (x3 : Int32) (M : Mm) (H : Heap) (locs : List Loc), fb_X4_startOfYear_4 T R a0 x1 n x2 x3 M = some (r, M9) → va_P D vwCl (WL cy T M R) H → va_D A (WL cy T M R) → va_S A s.heap H locs → ∀ ls : Array Slot, lv_has ls 4 [(0, .ref a0), (1, .int x1), (2, .int x2), (3, .int x3)] → W p l e rm_X4_startOfYear s m args below meth c H locs 0 0 (MQ below (QcI D cy T M9 R A r) args s 0 0 A) (F0 m 4 ls []) := by
  intro n
  induction n with
  | zero =>
    intro _ _ _ H locs h
    exact absurd (show (none : Option (Int32 × Mm)) = some _ from h) (by simp)
  | succ n ih => exact fun u0 u1 u2 H locs h => bs_X4_startOfYear_4 (a0 := a0) (x1 := x1) C ih u0 u1 u2 H locs h
set_option maxHeartbeats 4000000 in
set_option maxRecDepth 100000 in
theorem ct_X4_startOfYear {l : Launch} {D : va_G} {cy : Cy} {T : Ty} {R : Rm} {a0 : Nat} {x1 : Int32} {M : Mm} {r : Int32} {M9 : Mm} (h : fn_X4_startOfYear T R a0 x1 M = some (r, M9)) : Ct QcI l yX4_startOfYear cX4_startOfYear 4 (some .int) rm_X4_startOfYear D cy T M R [.ref a0, .int x1] M9 R r := by
  unfold fn_X4_startOfYear at h
  refine enter (plainFor_of_name (by decide +kernel)) (Nat.le_of_ble_eq_true rfl) (fun p e s m args below meth c A C hP hD hS ls hl => ?_)
  have hl : lv_has ls 4 [(0, .ref a0), (1, .int x1)] := hl
  obtain ⟨hx, hb, hr, hml, hown, hts, hK, hA, hlk, hSt⟩ := id C
  refine lv_iconst (v := 0) hx hb dX4_startOfYear_0 (by decide) ?_
  refine lv_istore_n (lv' := [(2, .int (0 : Int32)), (0, .ref a0), (1, .int x1)]) hx hb dX4_startOfYear_1 rfl hl (by decide) rfl (fun ls hl => ?_)
  refine lv_iconst (v := 0) hx hb dX4_startOfYear_2 (by decide) ?_
  refine lv_istore_n (lv' := [(3, .int (0 : Int32)), (2, .int (0 : Int32)), (0, .ref a0), (1, .int x1)]) hx hb dX4_startOfYear_3 rfl hl (by decide) rfl (fun ls hl => ?_)
  exact (bt_X4_startOfYear_4 C FU) _ _ _ _ _ h hP hD hS _ (lv_sub hl [2, 3, 1, 0] rfl)
abbrev rm_J9_floorDiv_7cf53 : Room := { frames := 0, cells := 0, slots := 0, locals := 0 }
theorem hd_J9_floorDiv_7cf53 : yJ9_floorDiv_7cf53.cls ≠ "java/lang/invoke/MethodHandle" ∧ yJ9_floorDiv_7cf53.cls ≠ "java/lang/invoke/VarHandle" ∧ (parseMethodDescriptor yJ9_floorDiv_7cf53.desc).map (fun d => d.parameters.length) = some 2 := ⟨by decide +kernel, by decide +kernel, by decide +kernel⟩
set_option maxHeartbeats 4000000 in
set_option maxRecDepth 100000 in
theorem ct_J9_floorDiv_7cf53 {l : Launch} {D : va_G} {cy : Cy} {T : Ty} {R : Rm} {x0 : Int32} {x1 : Int32} {M : Mm} {r : Int32} {M9 : Mm} (h : fn_J9_floorDiv_7cf53 T R x0 x1 M = some (r, M9)) : Ct QcI l yJ9_floorDiv_7cf53 cJ9_floorDiv_7cf53 3 (some .int) rm_J9_floorDiv_7cf53 D cy T M R [.int x0, .int x1] M9 R r := by
  unfold fn_J9_floorDiv_7cf53 at h
  refine enter (by decide +kernel) (Nat.le_of_ble_eq_true rfl) (fun p e s m args below meth c A C hP hD hS ls hl => ?_)
  have hl : lv_has ls 3 [(0, .int x0), (1, .int x1)] := hl
  obtain ⟨hx, hb, hr, hml, hown, hts, hK, hA, hlk, hSt⟩ := id C
  refine lv_iload_n hx hb dJ9_floorDiv_7cf53_0 rfl (lv_at hl 0 rfl) ?_
  refine lv_iload_n hx hb dJ9_floorDiv_7cf53_1 rfl (lv_at hl 1 rfl) ?_
  obtain ⟨k_1, h⟩ := chk_some h
  refine lv_idiv hx hb dJ9_floorDiv_7cf53_2 (of_decide_eq_true k_1) ?_
  refine lv_topi (fun v_2 ev_2 => ?_)
  replace h := bnd_at h ev_2
  refine lv_istore_n (lv' := [(2, .int v_2), (0, .int x0), (1, .int x1)]) hx hb dJ9_floorDiv_7cf53_3 rfl hl (by decide) rfl (fun ls hl => ?_)
  refine lv_iload_n hx hb dJ9_floorDiv_7cf53_4 rfl (lv_at hl 1 rfl) ?_
  refine lv_iload_n hx hb dJ9_floorDiv_7cf53_5 rfl (lv_at hl 2 rfl) ?_
  refine lv_ixor hx hb dJ9_floorDiv_7cf53_6 ?_
  refine lv_if_ge (tgt := 21) hx hb dJ9_floorDiv_7cf53_7 (by decide) (fun c_3 => ?_) (fun c_3 => ?_)
  · replace h := ite_t h c_3
    refine lv_iload_n hx hb dJ9_floorDiv_7cf53_21 rfl (lv_at hl 0 rfl) ?_
    cases h
    exact rt_i C hP hD hS dJ9_floorDiv_7cf53_22
  · replace h := ite_f h c_3
    refine lv_iload_n hx hb dJ9_floorDiv_7cf53_10 rfl (lv_at hl 0 rfl) ?_
    refine lv_iload_n hx hb dJ9_floorDiv_7cf53_11 rfl (lv_at hl 2 rfl) ?_
    refine lv_imul hx hb dJ9_floorDiv_7cf53_12 ?_
    refine lv_iload_n hx hb dJ9_floorDiv_7cf53_13 rfl (lv_at hl 1 rfl) ?_
    refine lv_icmp_eq (tgt := 21) hx hb dJ9_floorDiv_7cf53_14 (by decide) (fun c_4 => ?_) (fun c_4 => ?_)
    · replace h := ite_t h c_4
      refine lv_iload_n hx hb dJ9_floorDiv_7cf53_21 rfl (lv_at hl 0 rfl) ?_
      cases h
      exact rt_i C hP hD hS dJ9_floorDiv_7cf53_22
    · replace h := ite_f h c_4
      refine lv_iload_n hx hb dJ9_floorDiv_7cf53_17 rfl (lv_at hl 0 rfl) ?_
      refine lv_iconst (v := 1) hx hb dJ9_floorDiv_7cf53_18 (by decide) ?_
      refine lv_isub hx hb dJ9_floorDiv_7cf53_19 ?_
      cases h
      exact rt_i C hP hD hS dJ9_floorDiv_7cf53_20
