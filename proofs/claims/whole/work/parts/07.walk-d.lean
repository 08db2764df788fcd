abbrev rm_X7_in : Room := { frames := 0, cells := 0, slots := 0, locals := 0 }
theorem hd_X7_in : yX7_in.cls ≠ "java/lang/invoke/MethodHandle" ∧ yX7_in.cls ≠ "java/lang/invoke/VarHandle" ∧ (parseMethodDescriptor yX7_in.desc).map (fun d => d.parameters.length) = some 3 := ⟨by decide +kernel, by decide +kernel, by decide +kernel⟩
set_option maxHeartbeats 4000000 in
set_option maxRecDepth 100000 in
theorem ct_X7_in {l : Launch} {D : va_G} {cy : Cy} {T : Ty} {R : Rm} {x0 : Int32} {x1 : Int32} {x2 : Int32} {M : Mm} {r : Int32} {M9 : Mm} (h : fn_X7_in T R x0 x1 x2 M = some (r, M9)) : Ct QcI l yX7_in cX7_in 3 (some .boolean) rm_X7_in D cy T M R [.int x0, .int x1, .int x2] M9 R r := by
  unfold fn_X7_in at h
  refine enter (plainFor_of_name (by decide +kernel)) (Nat.le_of_ble_eq_true rfl) (fun p e s m args below meth c A C hP hD hS ls hl => ?_)
  have hl : lv_has ls 3 [(0, .int x0), (1, .int x1), (2, .int x2)] := hl
  obtain ⟨hx, hb, hr, hml, hown, hts, hK, hA, hlk, hSt⟩ := id C
  refine lv_iload_n hx hb dX7_in_0 rfl (lv_at hl 0 rfl) ?_
  refine lv_iload_n hx hb dX7_in_1 rfl (lv_at hl 1 rfl) ?_
  refine lv_icmp_lt (tgt := 14) hx hb dX7_in_2 (by decide) (fun c_1 => ?_) (fun c_1 => ?_)
  · replace h := ite_t h c_1
    refine lv_iconst (v := 0) hx hb dX7_in_14 (by decide) ?_
    cases h
    exact rt_z C hP hD hS rfl dX7_in_15
  · replace h := ite_f h c_1
    refine lv_iload_n hx hb dX7_in_5 rfl (lv_at hl 0 rfl) ?_
    refine lv_iload_n hx hb dX7_in_6 rfl (lv_at hl 2 rfl) ?_
    refine lv_icmp_gt (tgt := 14) hx hb dX7_in_7 (by decide) (fun c_2 => ?_) (fun c_2 => ?_)
    · replace h := ite_t h c_2
      refine lv_iconst (v := 0) hx hb dX7_in_14 (by decide) ?_
      cases h
      exact rt_z C hP hD hS rfl dX7_in_15
    · replace h := ite_f h c_2
      refine lv_iconst (v := 1) hx hb dX7_in_10 (by decide) ?_
      refine lv_goto (tgt := 15) hx hb dX7_in_11 (by decide) ?_
      cases h
      exact rt_z C hP hD hS rfl dX7_in_15
abbrev rm_X7_floor : Room := { frames := 0, cells := 0, slots := 0, locals := 0 }
theorem hd_X7_floor : yX7_floor.cls ≠ "java/lang/invoke/MethodHandle" ∧ yX7_floor.cls ≠ "java/lang/invoke/VarHandle" ∧ (parseMethodDescriptor yX7_floor.desc).map (fun d => d.parameters.length) = some 2 := ⟨by decide +kernel, by decide +kernel, by decide +kernel⟩
set_option maxHeartbeats 4000000 in
set_option maxRecDepth 100000 in
theorem ct_X7_floor {l : Launch} {D : va_G} {cy : Cy} {T : Ty} {R : Rm} {l0 : Int64} {x2 : Int32} {M : Mm} {r : Int32} {M9 : Mm} (h : fn_X7_floor T R l0 x2 M = some (r, M9)) : Ct QcI l yX7_floor cX7_floor 3 (some .int) rm_X7_floor D cy T M R [.long l0, .int x2] M9 R r := by
  unfold fn_X7_floor at h
  refine enter (plainFor_of_name (by decide +kernel)) (Nat.le_of_ble_eq_true rfl) (fun p e s m args below meth c A C hP hD hS ls hl => ?_)
  have hl : lv_has ls 3 [(0, .long l0), (2, .int x2)] := hl
  obtain ⟨hx, hb, hr, hml, hown, hts, hK, hA, hlk, hSt⟩ := id C
  refine lv_lload_n hx hb dX7_floor_0 rfl (lv_at hl 0 rfl) ?_
  refine lv_lconst (v := 0) hx hb dX7_floor_1 (by decide) ?_
  refine W.lcmp hx hb dX7_floor_2 ?_
  refine lv_if_lt (tgt := 13) hx hb dX7_floor_3 (by decide) (fun c_1 => ?_) (fun c_1 => ?_)
  · replace h := ite_t h c_1
    refine lv_iload_n hx hb dX7_floor_13 rfl (lv_at hl 1 rfl) ?_
    refine lv_i2l hx hb dX7_floor_14 rfl ?_
    refine lv_lconst (v := 1) hx hb dX7_floor_15 (by decide) ?_
    refine lv_lsub hx hb dX7_floor_16 ?_
    refine lv_lload_n hx hb dX7_floor_17 rfl (lv_at hl 0 rfl) ?_
    refine lv_lsub hx hb dX7_floor_18 ?_
    refine lv_iload_n hx hb dX7_floor_19 rfl (lv_at hl 1 rfl) ?_
    refine lv_i2l hx hb dX7_floor_20 rfl ?_
    obtain ⟨k_2, h⟩ := chk_some h
    refine lv_ldiv hx hb dX7_floor_21 (of_decide_eq_true k_2) ?_
    refine lv_lneg hx hb dX7_floor_22 ?_
    refine lv_l2i hx hb dX7_floor_23 rfl ?_
    cases h
    exact rt_i C hP hD hS dX7_floor_24
  · replace h := ite_f h c_1
    refine lv_lload_n hx hb dX7_floor_6 rfl (lv_at hl 0 rfl) ?_
    refine lv_iload_n hx hb dX7_floor_7 rfl (lv_at hl 1 rfl) ?_
    refine lv_i2l hx hb dX7_floor_8 rfl ?_
    obtain ⟨k_3, h⟩ := chk_some h
    refine lv_ldiv hx hb dX7_floor_9 (of_decide_eq_true k_3) ?_
    refine lv_goto (tgt := 23) hx hb dX7_floor_10 (by decide) ?_
    refine lv_l2i hx hb dX7_floor_23 rfl ?_
    cases h
    exact rt_i C hP hD hS dX7_floor_24
abbrev rm_X7_keptIce : Room := { frames := 0, cells := 0, slots := 0, locals := 0 }
theorem hd_X7_keptIce : yX7_keptIce.cls = RX7 ∧ yX7_keptIce.cls ≠ "java/lang/invoke/MethodHandle" ∧ yX7_keptIce.cls ≠ "java/lang/invoke/VarHandle" ∧ (parseMethodDescriptor yX7_keptIce.desc).map (fun d => d.parameters.length) = some 2 := ⟨rfl, by decide +kernel, by decide +kernel, by decide +kernel⟩
set_option maxHeartbeats 4000000 in
set_option maxRecDepth 100000 in
theorem ct_X7_keptIce {l : Launch} {D : va_G} {cy : Cy} {T : Ty} {R : Rm} {a0 : Nat} {x1 : Int32} {x2 : Int32} {M : Mm} {r : Int32} {M9 : Mm} (h : fn_X7_keptIce T R a0 x1 x2 M = some (r, M9)) : Ct QcI l yX7_keptIce cX7_keptIce 3 (some .int) rm_X7_keptIce D cy T M R [.ref a0, .int x1, .int x2] M9 R r := by
  unfold fn_X7_keptIce at h
  refine enter (plainFor_of_name (by decide +kernel)) (Nat.le_of_ble_eq_true rfl) (fun p e s m args below meth c A C hP hD hS ls hl => ?_)
  have hl : lv_has ls 3 [(0, .ref a0), (1, .int x1), (2, .int x2)] := hl
  obtain ⟨hx, hb, hr, hml, hown, hts, hK, hA, hlk, hSt⟩ := id C
  refine lv_iload_n hx hb dX7_keptIce_0 rfl (lv_at hl 1 rfl) ?_
  refine lv_iconst (v := 2) hx hb dX7_keptIce_1 (by decide) ?_
  refine lv_icmp_ge (tgt := 20) hx hb dX7_keptIce_2 (by decide) (fun c_1 => ?_) (fun c_1 => ?_)
  · replace h := ite_t h c_1
    refine lv_aload_n hx hb dX7_keptIce_20 rfl (lv_at hl 0 rfl) ?_
    obtain ⟨k_2, h⟩ := chk_some h
    obtain ⟨b_3, eb_3, h⟩ := rfm_some h
    refine gf_7_8 C hP k_2 eb_3 wl_109 dX7_keptIce_21 ?_
    refine lv_sipush (v := 5010) hx hb dX7_keptIce_24 (by decide) ?_
    refine lv_iload_n hx hb dX7_keptIce_27 rfl (lv_at hl 1 rfl) ?_
    refine lv_iconst (v := 2) hx hb dX7_keptIce_28 (by decide) ?_
    refine lv_isub hx hb dX7_keptIce_29 ?_
    refine lv_imul hx hb dX7_keptIce_30 ?_
    refine lv_iload_n hx hb dX7_keptIce_31 rfl (lv_at hl 2 rfl) ?_
    refine lv_iadd hx hb dX7_keptIce_32 ?_
    obtain ⟨k_4, h⟩ := chk_some h
    obtain ⟨k_5, h⟩ := chk_some h
    refine ar_9 C hP k_4 k_5 dX7_keptIce_33 ?_
    cases h
    exact rt_i C hP hD hS dX7_keptIce_34
  · replace h := ite_f h c_1
    refine lv_aload_n hx hb dX7_keptIce_5 rfl (lv_at hl 0 rfl) ?_
    obtain ⟨k_6, h⟩ := chk_some h
    obtain ⟨b_7, eb_7, h⟩ := rfm_some h
    refine gf_7_7 C hP k_6 eb_7 wl_108 dX7_keptIce_6 ?_
    refine lv_sipush (v := 5010) hx hb dX7_keptIce_9 (by decide) ?_
    refine lv_iload_n hx hb dX7_keptIce_12 rfl (lv_at hl 1 rfl) ?_
    refine lv_imul hx hb dX7_keptIce_13 ?_
    refine lv_iload_n hx hb dX7_keptIce_14 rfl (lv_at hl 2 rfl) ?_
    refine lv_iadd hx hb dX7_keptIce_15 ?_
    obtain ⟨k_8, h⟩ := chk_some h
    obtain ⟨k_9, h⟩ := chk_some h
    refine ar_9 C hP k_8 k_9 dX7_keptIce_16 ?_
    refine lv_goto (tgt := 34) hx hb dX7_keptIce_17 (by decide) ?_
    cases h
    exact rt_i C hP hD hS dX7_keptIce_34
abbrev rm_X7_keepIce : Room := { frames := 0, cells := 0, slots := 0, locals := 0 }
theorem hd_X7_keepIce : yX7_keepIce.cls = RX7 ∧ yX7_keepIce.cls ≠ "java/lang/invoke/MethodHandle" ∧ yX7_keepIce.cls ≠ "java/lang/invoke/VarHandle" ∧ (parseMethodDescriptor yX7_keepIce.desc).map (fun d => d.parameters.length) = some 3 := ⟨rfl, by decide +kernel, by decide +kernel, by decide +kernel⟩
set_option maxHeartbeats 4000000 in
set_option maxRecDepth 100000 in
theorem ct_X7_keepIce {l : Launch} {D : va_G} {cy : Cy} {T : Ty} {R : Rm} {a0 : Nat} {x1 : Int32} {x2 : Int32} {x3 : Int32} {M : Mm} {r : Unit} {M9 : Mm} (h : fn_X7_keepIce T R a0 x1 x2 x3 M = some (r, M9)) : Ct QcV l yX7_keepIce cX7_keepIce 4 none rm_X7_keepIce D cy T M R [.ref a0, .int x1, .int x2, .int x3] M9 R r := by
  unfold fn_X7_keepIce at h
  refine enter (plainFor_of_name (by decide +kernel)) (Nat.le_of_ble_eq_true rfl) (fun p e s m args below meth c A C hP hD hS ls hl => ?_)
  have hl : lv_has ls 4 [(0, .ref a0), (1, .int x1), (2, .int x2), (3, .int x3)] := hl
  obtain ⟨hx, hb, hr, hml, hown, hts, hK, hA, hlk, hSt⟩ := id C
  refine lv_iload_n hx hb dX7_keepIce_0 rfl (lv_at hl 1 rfl) ?_
  refine lv_iconst (v := 2) hx hb dX7_keepIce_1 (by decide) ?_
  refine lv_icmp_ge (tgt := 21) hx hb dX7_keepIce_2 (by decide) (fun c_1 => ?_) (fun c_1 => ?_)
  · replace h := ite_t h c_1
    refine lv_aload_n hx hb dX7_keepIce_21 rfl (lv_at hl 0 rfl) ?_
    obtain ⟨k_2, h⟩ := chk_some h
    obtain ⟨b_3, eb_3, h⟩ := rfm_some h
    refine gf_7_8 C hP k_2 eb_3 wl_109 dX7_keepIce_22 ?_
    refine lv_sipush (v := 5010) hx hb dX7_keepIce_25 (by decide) ?_
    refine lv_iload_n hx hb dX7_keepIce_28 rfl (lv_at hl 1 rfl) ?_
    refine lv_iconst (v := 2) hx hb dX7_keepIce_29 (by decide) ?_
    refine lv_isub hx hb dX7_keepIce_30 ?_
    refine lv_imul hx hb dX7_keepIce_31 ?_
    refine lv_iload_n hx hb dX7_keepIce_32 rfl (lv_at hl 2 rfl) ?_
    refine lv_iadd hx hb dX7_keepIce_33 ?_
    refine lv_iload_n hx hb dX7_keepIce_34 rfl (lv_at hl 3 rfl) ?_
    obtain ⟨k_4, h⟩ := chk_some h
    obtain ⟨k_5, h⟩ := chk_some h
    refine aw_9 C hP hD hS k_4 k_5 dX7_keepIce_35 (fun M_6 H locs eM_6 hP hD hS => ?_)
    replace h := bnd_at h eM_6
    cases h
    exact rt_v C hP hD hS dX7_keepIce_36
  · replace h := ite_f h c_1
    refine lv_aload_n hx hb dX7_keepIce_5 rfl (lv_at hl 0 rfl) ?_
    obtain ⟨k_7, h⟩ := chk_some h
    obtain ⟨b_8, eb_8, h⟩ := rfm_some h
    refine gf_7_7 C hP k_7 eb_8 wl_108 dX7_keepIce_6 ?_
    refine lv_sipush (v := 5010) hx hb dX7_keepIce_9 (by decide) ?_
    refine lv_iload_n hx hb dX7_keepIce_12 rfl (lv_at hl 1 rfl) ?_
    refine lv_imul hx hb dX7_keepIce_13 ?_
    refine lv_iload_n hx hb dX7_keepIce_14 rfl (lv_at hl 2 rfl) ?_
    refine lv_iadd hx hb dX7_keepIce_15 ?_
    refine lv_iload_n hx hb dX7_keepIce_16 rfl (lv_at hl 3 rfl) ?_
    obtain ⟨k_9, h⟩ := chk_some h
    obtain ⟨k_10, h⟩ := chk_some h
    refine aw_9 C hP hD hS k_9 k_10 dX7_keepIce_17 (fun M_11 H locs eM_11 hP hD hS => ?_)
    replace h := bnd_at h eM_11
    refine lv_goto (tgt := 36) hx hb dX7_keepIce_18 (by decide) ?_
    cases h
    exact rt_v C hP hD hS dX7_keepIce_36
abbrev rm_X7_dropOldest : Room := { frames := 1, cells := 0, slots := 0, locals := 23 }
theorem hd_X7_dropOldest : yX7_dropOldest.cls = RX7 ∧ yX7_dropOldest.cls ≠ "java/lang/invoke/MethodHandle" ∧ yX7_dropOldest.cls ≠ "java/lang/invoke/VarHandle" ∧ (parseMethodDescriptor yX7_dropOldest.desc).map (fun d => d.parameters.length) = some 0 := ⟨rfl, by decide +kernel, by decide +kernel, by decide +kernel⟩
set_option maxHeartbeats 4000000 in
set_option maxRecDepth 100000 in
theorem bs_X7_dropOldest_74 {p : Program} {l : Launch} {e : Env} {s : State} {m : MethodId} {args : Array Value} {below : List Frame} {meth : Method} {c : Code} {D : va_G} {cy : Cy} {A : Nat → Prop} {T : Ty} {R : Rm} {r : Unit} {M9 : Mm} {a0 : Nat} {j74 : Int32 → Mm → Option (Unit × Mm)} (C : Cx RX7 cX7_dropOldest 3 none p s m args meth c D cy A)
    (hj74 : ∀ (x1 : Int32) (M : Mm) (H : Heap) (locs : List Loc), j74 x1 M = some (r, M9) → va_P D vwCl (WL cy T M R) H → va_D A (WL cy T M R) → va_S A s.heap H locs → ∀ ls : Array Slot, lv_has ls 3 [(0, .ref a0), (1, .int x1)] → W p l e rm_X7_dropOldest s m args below meth c H locs 0 0 (MQ below (QcV D cy T M9 R A r) args s 0 0 A) (F0 m 74 ls [])) :
    ∀ (x1 : Int32) (M : Mm) (H : Heap) (locs : List Loc), fs_X7_dropOldest_74 T R a0 j74 x1 M = some (r, M9) → va_P D vwCl (WL cy T M R) H → va_D A (WL cy T M R) → va_S A s.heap H locs → ∀ ls : Array Slot, lv_has ls 3 [(0, .ref a0), (1, .int x1)] → W p l e rm_X7_dropOldest s m args below meth c H locs 0 0 (MQ below (QcV D cy T M9 R A r) args s 0 0 A) (F0 m 74 ls []) := by
  intro x1 M H locs h hP hD hS ls hl
  unfold fs_X7_dropOldest_74 at h
  obtain ⟨hx, hb, hr, hml, hown, hts, hK, hA, hlk, hSt⟩ := id C
  refine lv_iload_n hx hb dX7_dropOldest_74 rfl (lv_at hl 1 rfl) ?_
  refine lv_bipush (v := 12) hx hb dX7_dropOldest_75 (by decide) ?_
  refine lv_icmp_ge (tgt := 100) hx hb dX7_dropOldest_77 (by decide) (fun c_1 => ?_) (fun c_1 => ?_)
  · replace h := ite_t h c_1
    refine lv_aload_n hx hb dX7_dropOldest_100 rfl (lv_at hl 0 rfl) ?_
    refine lv_dup hx hb dX7_dropOldest_101 rfl ?_
    obtain ⟨k_2, h⟩ := chk_some h
    refine gf_7_10 C hP k_2 wl_172 dX7_dropOldest_102 ?_
    refine lv_iconst (v := 1) hx hb dX7_dropOldest_105 (by decide) ?_
    refine lv_isub hx hb dX7_dropOldest_106 ?_
    refine pf_7_10 C hP hD hS k_2 wl_172 dX7_dropOldest_107 (fun M_3 H locs eM_3 hP hD hS => ?_)
    replace h := bnd_at h eM_3
    cases h
    exact rt_v C hP hD hS dX7_dropOldest_110
  · replace h := ite_f h c_1
    refine lv_aload_n hx hb dX7_dropOldest_80 rfl (lv_at hl 0 rfl) ?_
    obtain ⟨k_4, h⟩ := chk_some h
    obtain ⟨b_5, eb_5, h⟩ := rfm_some h
    refine gf_7_9 C hP k_4 eb_5 wl_110 dX7_dropOldest_81 ?_
    refine lv_iload_n hx hb dX7_dropOldest_84 rfl (lv_at hl 1 rfl) ?_
    refine lv_aload_n hx hb dX7_dropOldest_85 rfl (lv_at hl 0 rfl) ?_
    refine gf_7_9 C hP k_4 eb_5 wl_110 dX7_dropOldest_86 ?_
    refine lv_iload_n hx hb dX7_dropOldest_89 rfl (lv_at hl 1 rfl) ?_
    refine lv_iconst (v := 4) hx hb dX7_dropOldest_90 (by decide) ?_
    refine lv_iadd hx hb dX7_dropOldest_91 ?_
    obtain ⟨k_6, h⟩ := chk_some h
    obtain ⟨k_7, h⟩ := chk_some h
    refine ar_10 C hP k_6 k_7 dX7_dropOldest_92 ?_
    obtain ⟨k_8, h⟩ := chk_some h
    refine aw_10 C hP hD hS k_6 k_8 dX7_dropOldest_93 (fun M_9 H locs eM_9 hP hD hS => ?_)
    replace h := bnd_at h eM_9
    obtain ⟨v_10, ev_10⟩ : ∃ y : Int32, y = (x1 + (1 : Int32)) := ⟨_, rfl⟩
    replace h := bnd_at h ev_10
    refine lv_iinc (v := v_10) (lv' := [(1, .int v_10), (0, .ref a0)]) hx hb dX7_dropOldest_94 hl (k := 1) rfl (by rw [ev_10]; rfl) (by decide) rfl (fun ls hl => ?_)
    refine lv_goto (tgt := 74) hx hb dX7_dropOldest_97 (by decide) ?_
    exact hj74 _ _ _ _ h hP hD hS _ (lv_sub hl [1, 0] rfl)
theorem bt_X7_dropOldest_74 {p : Program} {l : Launch} {e : Env} {s : State} {m : MethodId} {args : Array Value} {below : List Frame} {meth : Method} {c : Code} {D : va_G} {cy : Cy} {A : Nat → Prop} {T : Ty} {R : Rm} {r : Unit} {M9 : Mm} {a0 : Nat} (C : Cx RX7 cX7_dropOldest 3 none p s m args meth c D cy A) :
    ∀ n : Nat, ∀ (x1 : Int32) (M : Mm) (H : Heap) (locs : List Loc), fb_X7_dropOldest_74 T R a0 n x1 M = some (r, M9) → va_P D vwCl (WL cy T M R) H → va_D A (WL cy T M R) → va_S A s.heap H locs → ∀ ls : Array Slot, lv_has ls 3 [(0, .ref a0), (1, .int x1)] → W p l e rm_X7_dropOldest s m args below meth c H locs 0 0 (MQ below (QcV D cy T M9 R A r) args s 0 0 A) (F0 m 74 ls []) := by
  intro n
  induction n with
  | zero =>
    intro _ _ H locs h
    exact absurd (show (none : Option (Unit × Mm)) = some _ from h) (by simp)
  | succ n ih => exact fun u0 u1 H locs h => bs_X7_dropOldest_74 (a0 := a0) C ih u0 u1 H locs h
set_option maxHeartbeats 4000000 in
set_option maxRecDepth 100000 in
theorem bs_X7_dropOldest_44 {p : Program} {l : Launch} {e : Env} {s : State} {m : MethodId} {args : Array Value} {below : List Frame} {meth : Method} {c : Code} {D : va_G} {cy : Cy} {A : Nat → Prop} {T : Ty} {R : Rm} {r : Unit} {M9 : Mm} {a0 : Nat} {j44 : Int32 → Mm → Option (Unit × Mm)} {j74 : Int32 → Mm → Option (Unit × Mm)} (C : Cx RX7 cX7_dropOldest 3 none p s m args meth c D cy A)
    (hj44 : ∀ (x1 : Int32) (M : Mm) (H : Heap) (locs : List Loc), j44 x1 M = some (r, M9) → va_P D vwCl (WL cy T M R) H → va_D A (WL cy T M R) → va_S A s.heap H locs → ∀ ls : Array Slot, lv_has ls 3 [(0, .ref a0), (1, .int x1)] → W p l e rm_X7_dropOldest s m args below meth c H locs 0 0 (MQ below (QcV D cy T M9 R A r) args s 0 0 A) (F0 m 44 ls []))
    (hj74 : ∀ (x1 : Int32) (M : Mm) (H : Heap) (locs : List Loc), j74 x1 M = some (r, M9) → va_P D vwCl (WL cy T M R) H → va_D A (WL cy T M R) → va_S A s.heap H locs → ∀ ls : Array Slot, lv_has ls 3 [(0, .ref a0), (1, .int x1)] → W p l e rm_X7_dropOldest s m args below meth c H locs 0 0 (MQ below (QcV D cy T M9 R A r) args s 0 0 A) (F0 m 74 ls [])) :
    ∀ (x1 : Int32) (M : Mm) (H : Heap) (locs : List Loc), fs_X7_dropOldest_44 T R a0 j44 j74 x1 M = some (r, M9) → va_P D vwCl (WL cy T M R) H → va_D A (WL cy T M R) → va_S A s.heap H locs → ∀ ls : Array Slot, lv_has ls 3 [(0, .ref a0), (1, .int x1)] → W p l e rm_X7_dropOldest s m args below meth c H locs 0 0 (MQ below (QcV D cy T M9 R A r) args s 0 0 A) (F0 m 44 ls []) := by
  intro x1 M H locs h hP hD hS ls hl
  unfold fs_X7_dropOldest_44 at h
  obtain ⟨hx, hb, hr, hml, hown, hts, hK, hA, hlk, hSt⟩ := id C
  refine lv_iload_n hx hb dX7_dropOldest_44 rfl (lv_at hl 1 rfl) ?_
  refine lv_sipush (v := 330) hx hb dX7_dropOldest_45 (by decide) ?_
  refine lv_icmp_ge (tgt := 72) hx hb dX7_dropOldest_48 (by decide) (fun c_11 => ?_) (fun c_11 => ?_)
  · replace h := ite_t h c_11
    refine lv_iconst (v := 0) hx hb dX7_dropOldest_72 (by decide) ?_
    refine lv_istore_n (lv' := [(1, .int (0 : Int32)), (0, .ref a0)]) hx hb dX7_dropOldest_73 rfl hl (by decide) rfl (fun ls hl => ?_)
    exact hj74 _ _ _ _ h hP hD hS _ (lv_sub hl [1, 0] rfl)
  · replace h := ite_f h c_11
    refine lv_aload_n hx hb dX7_dropOldest_51 rfl (lv_at hl 0 rfl) ?_
    obtain ⟨k_12, h⟩ := chk_some h
    obtain ⟨b_13, eb_13, h⟩ := rfm_some h
    refine gf_7_6 C hP k_12 eb_13 wl_107 dX7_dropOldest_52 ?_
    refine lv_iload_n hx hb dX7_dropOldest_55 rfl (lv_at hl 1 rfl) ?_
    refine lv_aload_n hx hb dX7_dropOldest_56 rfl (lv_at hl 0 rfl) ?_
    refine gf_7_6 C hP k_12 eb_13 wl_107 dX7_dropOldest_57 ?_
    refine lv_iload_n hx hb dX7_dropOldest_60 rfl (lv_at hl 1 rfl) ?_
    refine lv_bipush (v := 110) hx hb dX7_dropOldest_61 (by decide) ?_
    refine lv_iadd hx hb dX7_dropOldest_63 ?_
    obtain ⟨k_14, h⟩ := chk_some h
    obtain ⟨k_15, h⟩ := chk_some h
    refine ar_9 C hP k_14 k_15 dX7_dropOldest_64 ?_
    obtain ⟨k_16, h⟩ := chk_some h
    refine aw_9 C hP hD hS k_14 k_16 dX7_dropOldest_65 (fun M_17 H locs eM_17 hP hD hS => ?_)
    replace h := bnd_at h eM_17
    obtain ⟨v_18, ev_18⟩ : ∃ y : Int32, y = (x1 + (1 : Int32)) := ⟨_, rfl⟩
    replace h := bnd_at h ev_18
    refine lv_iinc (v := v_18) (lv' := [(1, .int v_18), (0, .ref a0)]) hx hb dX7_dropOldest_66 hl (k := 1) rfl (by rw [ev_18]; rfl) (by decide) rfl (fun ls hl => ?_)
    refine lv_goto (tgt := 44) hx hb dX7_dropOldest_69 (by decide) ?_
    exact hj44 _ _ _ _ h hP hD hS _ (lv_sub hl [1, 0] rfl)
theorem bt_X7_dropOldest_44 {p : Program} {l : Launch} {e : Env} {s : State} {m : MethodId} {args : Array Value} {below : List Frame} {meth : Method} {c : Code} {D : va_G} {cy : Cy} {A : Nat → Prop} {T : Ty} {R : Rm} {r : Unit} {M9 : Mm} {a0 : Nat} {j74 : Int32 → Mm → Option (Unit × Mm)} (C : Cx RX7 cX7_dropOldest 3 none p s m args meth c D cy A)
    (hj74 : ∀ (x1 : Int32) (M : Mm) (H : Heap) (locs : List Loc), j74 x1 M = some (r, M9) → va_P D vwCl (WL cy T M R) H → va_D A (WL cy T M R) → va_S A s.heap H locs → ∀ ls : Array Slot, lv_has ls 3 [(0, .ref a0), (1, .int x1)] → W p l e rm_X7_dropOldest s m args below meth c H locs 0 0 (MQ below (QcV D cy T M9 R A r) args s 0 0 A) (F0 m 74 ls [])) :
    ∀ n : Nat, ∀ (x1 : Int32) (M : Mm) (H : Heap) (locs : List Loc), fb_X7_dropOldest_44 T R a0 j74 n x1 M = some (r, M9) → va_P D vwCl (WL cy T M R) H → va_D A (WL cy T M R) → va_S A s.heap H locs → ∀ ls : Array Slot, lv_has ls 3 [(0, .ref a0), (1, .int x1)] → W p l e rm_X7_dropOldest s m args below meth c H locs 0 0 (MQ below (QcV D cy T M9 R A r) args s 0 0 A) (F0 m 44 ls []) := by
  intro n
  induction n with
  | zero =>
    intro _ _ H locs h
    exact absurd (show (none : Option (Unit × Mm)) = some _ from h) (by simp)
  | succ n ih => exact fun u0 u1 H locs h => bs_X7_dropOldest_44 (a0 := a0) C ih hj74 u0 u1 H locs h
set_option maxHeartbeats 4000000 in
set_option maxRecDepth 100000 in
theorem bs_X7_dropOldest_9 {p : Program} {l : Launch} {e : Env} {s : State} {m : MethodId} {args : Array Value} {below : List Frame} {meth : Method} {c : Code} {D : va_G} {cy : Cy} {A : Nat → Prop} {T : Ty} {R : Rm} {r : Unit} {M9 : Mm} {a0 : Nat} {j9 : Int32 → Int32 → Mm → Option (Unit × Mm)} {j2 : Int32 → Mm → Option (Unit × Mm)} (C : Cx RX7 cX7_dropOldest 3 none p s m args meth c D cy A)
    (hj9 : ∀ (x1 : Int32) (x2 : Int32) (M : Mm) (H : Heap) (locs : List Loc), j9 x1 x2 M = some (r, M9) → va_P D vwCl (WL cy T M R) H → va_D A (WL cy T M R) → va_S A s.heap H locs → ∀ ls : Array Slot, lv_has ls 3 [(0, .ref a0), (1, .int x1), (2, .int x2)] → W p l e rm_X7_dropOldest s m args below meth c H locs 0 0 (MQ below (QcV D cy T M9 R A r) args s 0 0 A) (F0 m 9 ls []))
    (hj2 : ∀ (x1 : Int32) (M : Mm) (H : Heap) (locs : List Loc), j2 x1 M = some (r, M9) → va_P D vwCl (WL cy T M R) H → va_D A (WL cy T M R) → va_S A s.heap H locs → ∀ ls : Array Slot, lv_has ls 3 [(0, .ref a0), (1, .int x1)] → W p l e rm_X7_dropOldest s m args below meth c H locs 0 0 (MQ below (QcV D cy T M9 R A r) args s 0 0 A) (F0 m 2 ls [])) :
    ∀ (x1 : Int32) (x2 : Int32) (M : Mm) (H : Heap) (locs : List Loc), fs_X7_dropOldest_9 T R a0 j9 j2 x1 x2 M = some (r, M9) → va_P D vwCl (WL cy T M R) H → va_D A (WL cy T M R) → va_S A s.heap H locs → ∀ ls : Array Slot, lv_has ls 3 [(0, .ref a0), (1, .int x1), (2, .int x2)] → W p l e rm_X7_dropOldest s m args below meth c H locs 0 0 (MQ below (QcV D cy T M9 R A r) args s 0 0 A) (F0 m 9 ls []) := by
  intro x1 x2 M H locs h hP hD hS ls hl
  unfold fs_X7_dropOldest_9 at h
  obtain ⟨hx, hb, hr, hml, hown, hts, hK, hA, hlk, hSt⟩ := id C
  refine lv_iload_n hx hb dX7_dropOldest_9 rfl (lv_at hl 2 rfl) ?_
  refine lv_sipush (v := 5010) hx hb dX7_dropOldest_10 (by decide) ?_
  refine lv_icmp_ge (tgt := 36) hx hb dX7_dropOldest_13 (by decide) (fun c_19 => ?_) (fun c_19 => ?_)
  · replace h := ite_t h c_19
    obtain ⟨v_20, ev_20⟩ : ∃ y : Int32, y = (x1 + (1 : Int32)) := ⟨_, rfl⟩
    replace h := bnd_at h ev_20
    refine lv_iinc (v := v_20) (lv' := [(1, .int v_20), (0, .ref a0), (2, .int x2)]) hx hb dX7_dropOldest_36 hl (k := 1) rfl (by rw [ev_20]; rfl) (by decide) rfl (fun ls hl => ?_)
    refine lv_goto (tgt := 2) hx hb dX7_dropOldest_39 (by decide) ?_
    exact hj2 _ _ _ _ h hP hD hS _ (lv_sub hl [1, 0] rfl)
  · replace h := ite_f h c_19
    refine lv_aload_n hx hb dX7_dropOldest_16 rfl (lv_at hl 0 rfl) ?_
    refine lv_iload_n hx hb dX7_dropOldest_17 rfl (lv_at hl 1 rfl) ?_
    refine lv_iload_n hx hb dX7_dropOldest_18 rfl (lv_at hl 2 rfl) ?_
    refine lv_aload_n hx hb dX7_dropOldest_19 rfl (lv_at hl 0 rfl) ?_
    refine lv_iload_n hx hb dX7_dropOldest_20 rfl (lv_at hl 1 rfl) ?_
    refine lv_iconst (v := 1) hx hb dX7_dropOldest_21 (by decide) ?_
    refine lv_iadd hx hb dX7_dropOldest_22 ?_
    refine lv_iload_n hx hb dX7_dropOldest_23 rfl (lv_at hl 2 rfl) ?_
    obtain ⟨k_21, h⟩ := chk_some h
    obtain ⟨r_22, M_23, hc_24, h⟩ := cal_some h
    refine cl_Vi (As := [.int (x1 + (1 : Int32)), .int x2]) (rest := [.int x2, .int x1, .ref a0]) C (ct_X7_keptIce hc_24) k_21 (by decide) rfl wl_177 wl_178 wl_179 wl_5 wl_180 hd_X7_keptIce ⟨Nat.le_of_ble_eq_true rfl, Nat.le_of_ble_eq_true rfl⟩ ⟨rfl, rfl⟩ ⟨Nat.zero_le _, Nat.zero_le _⟩ rfl (Nat.le_of_ble_eq_true rfl) rfl hl.1 hP hD hS dX7_dropOldest_24 (fun H locs hP hD hS => ?_)
    obtain ⟨r_25, M_26, hc_27, h⟩ := cal_some h
    refine cl_Vv (As := [.int x1, .int x2, .int r_22]) (rest := []) C (ct_X7_keepIce hc_27) k_21 (by decide) rfl wl_181 wl_182 wl_183 wl_5 wl_184 hd_X7_keepIce ⟨Nat.le_of_ble_eq_true rfl, Nat.le_of_ble_eq_true rfl⟩ ⟨rfl, rfl⟩ ⟨Nat.zero_le _, Nat.zero_le _⟩ rfl (Nat.le_of_ble_eq_true rfl) rfl hl.1 hP hD hS dX7_dropOldest_27 (fun H locs hP hD hS => ?_)
    obtain ⟨v_28, ev_28⟩ : ∃ y : Int32, y = (x2 + (1 : Int32)) := ⟨_, rfl⟩
    replace h := bnd_at h ev_28
    refine lv_iinc (v := v_28) (lv' := [(2, .int v_28), (0, .ref a0), (1, .int x1)]) hx hb dX7_dropOldest_30 hl (k := 2) rfl (by rw [ev_28]; rfl) (by decide) rfl (fun ls hl => ?_)
    refine lv_goto (tgt := 9) hx hb dX7_dropOldest_33 (by decide) ?_
    exact hj9 _ _ _ _ _ h hP hD hS _ (lv_sub hl [1, 2, 0] rfl)
theorem bt_X7_dropOldest_9 {p : Program} {l : Launch} {e : Env} {s : State} {m : MethodId} {args : Array Value} {below : List Frame} {meth : Method} {c : Code} {D : va_G} {cy : Cy} {A : Nat → Prop} {T : Ty} {R : Rm} {r : Unit} {M9 : Mm} {a0 : Nat} {j2 : Int32 → Mm → Option (Unit × Mm)} (C : Cx RX7 cX7_dropOldest 3 none p s m args meth c D cy A)
    (hj2 : ∀ (x1 : Int32) (M : Mm) (H : Heap) (locs : List Loc), j2 x1 M = some (r, M9) → va_P D vwCl (WL cy T M R) H → va_D A (WL cy T M R) → va_S A s.heap H locs → ∀ ls : Array Slot, lv_has ls 3 [(0, .ref a0), (1, .int x1)] → W p l e rm_X7_dropOldest s m args below meth c H locs 0 0 (MQ below (QcV D cy T M9 R A r) args s 0 0 A) (F0 m 2 ls [])) :
    ∀ n : Nat, ∀ (x1 : Int32) (x2 : Int32) (M : Mm) (H : Heap) (locs : List Loc), fb_X7_dropOldest_9 T R a0 j2 n x1 x2 M = some (r, M9) → va_P D vwCl (WL cy T M R) H → va_D A (WL cy T M R) → va_S A s.heap H locs → ∀ ls : Array Slot, lv_has ls 3 [(0, .ref a0), (1, .int x1), (2, .int x2)] → W p l e rm_X7_dropOldest s m args below meth c H locs 0 0 (MQ below (QcV D cy T M9 R A r) args s 0 0 A) (F0 m 9 ls []) := by
  intro n
  induction n with
  | zero =>
    intro _ _ _ H locs h
    exact absurd (show (none : Option (Unit × Mm)) = some _ from h) (by simp)
  | succ n ih => exact fun u0 u1 u2 H locs h => bs_X7_dropOldest_9 (a0 := a0) C ih hj2 u0 u1 u2 H locs h
set_option maxHeartbeats 4000000 in
set_option maxRecDepth 100000 in
theorem bs_X7_dropOldest_2 {p : Program} {l : Launch} {e : Env} {s : State} {m : MethodId} {args : Array Value} {below : List Frame} {meth : Method} {c : Code} {D : va_G} {cy : Cy} {A : Nat → Prop} {T : Ty} {R : Rm} {r : Unit} {M9 : Mm} {a0 : Nat} {j2 : Int32 → Mm → Option (Unit × Mm)} {j44 : Int32 → Mm → Option (Unit × Mm)} (C : Cx RX7 cX7_dropOldest 3 none p s m args meth c D cy A)
    (hj2 : ∀ (x1 : Int32) (M : Mm) (H : Heap) (locs : List Loc), j2 x1 M = some (r, M9) → va_P D vwCl (WL cy T M R) H → va_D A (WL cy T M R) → va_S A s.heap H locs → ∀ ls : Array Slot, lv_has ls 3 [(0, .ref a0), (1, .int x1)] → W p l e rm_X7_dropOldest s m args below meth c H locs 0 0 (MQ below (QcV D cy T M9 R A r) args s 0 0 A) (F0 m 2 ls []))
    (hj44 : ∀ (x1 : Int32) (M : Mm) (H : Heap) (locs : List Loc), j44 x1 M = some (r, M9) → va_P D vwCl (WL cy T M R) H → va_D A (WL cy T M R) → va_S A s.heap H locs → ∀ ls : Array Slot, lv_has ls 3 [(0, .ref a0), (1, .int x1)] → W p l e rm_X7_dropOldest s m args below meth c H locs 0 0 (MQ below (QcV D cy T M9 R A r) args s 0 0 A) (F0 m 44 ls [])) :
    ∀ (x1 : Int32) (M : Mm) (H : Heap) (locs : List Loc), fs_X7_dropOldest_2 T R a0 j2 j44 x1 M = some (r, M9) → va_P D vwCl (WL cy T M R) H → va_D A (WL cy T M R) → va_S A s.heap H locs → ∀ ls : Array Slot, lv_has ls 3 [(0, .ref a0), (1, .int x1)] → W p l e rm_X7_dropOldest s m args below meth c H locs 0 0 (MQ below (QcV D cy T M9 R A r) args s 0 0 A) (F0 m 2 ls []) := by
  intro x1 M H locs h hP hD hS ls hl
  unfold fs_X7_dropOldest_2 at h
  obtain ⟨hx, hb, hr, hml, hown, hts, hK, hA, hlk, hSt⟩ := id C
  refine lv_iload_n hx hb dX7_dropOldest_2 rfl (lv_at hl 1 rfl) ?_
  refine lv_iconst (v := 3) hx hb dX7_dropOldest_3 (by decide) ?_
  refine lv_icmp_ge (tgt := 42) hx hb dX7_dropOldest_4 (by decide) (fun c_29 => ?_) (fun c_29 => ?_)
  · replace h := ite_t h c_29
    refine lv_iconst (v := 0) hx hb dX7_dropOldest_42 (by decide) ?_
    refine lv_istore_n (lv' := [(1, .int (0 : Int32)), (0, .ref a0)]) hx hb dX7_dropOldest_43 rfl hl (by decide) rfl (fun ls hl => ?_)
    exact hj44 _ _ _ _ h hP hD hS _ (lv_sub hl [1, 0] rfl)
  · replace h := ite_f h c_29
    refine lv_iconst (v := 0) hx hb dX7_dropOldest_7 (by decide) ?_
    refine lv_istore_n (lv' := [(2, .int (0 : Int32)), (0, .ref a0), (1, .int x1)]) hx hb dX7_dropOldest_8 rfl hl (by decide) rfl (fun ls hl => ?_)
    exact (bt_X7_dropOldest_9 C hj2 FU) _ _ _ _ _ h hP hD hS _ (lv_sub hl [1, 2, 0] rfl)
theorem bt_X7_dropOldest_2 {p : Program} {l : Launch} {e : Env} {s : State} {m : MethodId} {args : Array Value} {below : List Frame} {meth : Method} {c : Code} {D : va_G} {cy : Cy} {A : Nat → Prop} {T : Ty} {R : Rm} {r : Unit} {M9 : Mm} {a0 : Nat} {j44 : Int32 → Mm → Option (Unit × Mm)} (C : Cx RX7 cX7_dropOldest 3 none p s m args meth c D cy A)
    (hj44 : ∀ (x1 : Int32) (M : Mm) (H : Heap) (locs : List Loc), j44 x1 M = some (r, M9) → va_P D vwCl (WL cy T M R) H → va_D A (WL cy T M R) → va_S A s.heap H locs → ∀ ls : Array Slot, lv_has ls 3 [(0, .ref a0), (1, .int x1)] → W p l e rm_X7_dropOldest s m args below meth c H locs 0 0 (MQ below (QcV D cy T M9 R A r) args s 0 0 A) (F0 m 44 ls [])) :
    ∀ n : Nat, ∀ (x1 : Int32) (M : Mm) (H : Heap) (locs : List Loc), fb_X7_dropOldest_2 T R a0 j44 n x1 M = some (r, M9) → va_P D vwCl (WL cy T M R) H → va_D A (WL cy T M R) → va_S A s.heap H locs → ∀ ls : Array Slot, lv_has ls 3 [(0, .ref a0), (1, .int x1)] → W p l e rm_X7_dropOldest s m args below meth c H locs 0 0 (MQ below (QcV D cy T M9 R A r) args s 0 0 A) (F0 m 2 ls []) := by
  intro n
  induction n with
  | zero =>
    intro _ _ H locs h
    exact absurd (show (none : Option (Unit × Mm)) = some _ from h) (by simp)
  | succ n ih => exact fun u0 u1 H locs h => bs_X7_dropOldest_2 (a0 := a0) C ih hj44 u0 u1 H locs h
set_option maxHeartbeats 4000000 in
set_option maxRecDepth 100000 in
theorem ct_X7_dropOldest {l : Launch} {D : va_G} {cy : Cy} {T : Ty} {R : Rm} {a0 : Nat} {M : Mm} {r : Unit} {M9 : Mm} (h : fn_X7_dropOldest T R a0 M = some (r, M9)) : Ct QcV l yX7_dropOldest cX7_dropOldest 3 none rm_X7_dropOldest D cy T M R [.ref a0] M9 R r := by
  unfold fn_X7_dropOldest at h
  refine enter (plainFor_of_name (by decide +kernel)) (Nat.le_of_ble_eq_true rfl) (fun p e s m args below meth c A C hP hD hS ls hl => ?_)
  have hl : lv_has ls 3 [(0, .ref a0)] := hl
  obtain ⟨hx, hb, hr, hml, hown, hts, hK, hA, hlk, hSt⟩ := id C
  refine lv_iconst (v := 0) hx hb dX7_dropOldest_0 (by decide) ?_
  refine lv_istore_n (lv' := [(1, .int (0 : Int32)), (0, .ref a0)]) hx hb dX7_dropOldest_1 rfl hl (by decide) rfl (fun ls hl => ?_)
  exact (bt_X7_dropOldest_2 C (bt_X7_dropOldest_44 C (bt_X7_dropOldest_74 C FU) FU) FU) _ _ _ _ h hP hD hS _ (lv_sub hl [1, 0] rfl)
abbrev rm_X7_keep : Room := { frames := 2, cells := 0, slots := 0, locals := 45 }
theorem hd_X7_keep : yX7_keep.cls = RX7 ∧ yX7_keep.cls ≠ "java/lang/invoke/MethodHandle" ∧ yX7_keep.cls ≠ "java/lang/invoke/VarHandle" ∧ (parseMethodDescriptor yX7_keep.desc).map (fun d => d.parameters.length) = some 0 := ⟨rfl, by decide +kernel, by decide +kernel, by decide +kernel⟩
set_option maxHeartbeats 4000000 in
set_option maxRecDepth 100000 in
theorem bs_X7_keep_92 {p : Program} {l : Launch} {e : Env} {s : State} {m : MethodId} {args : Array Value} {below : List Frame} {meth : Method} {c : Code} {D : va_G} {cy : Cy} {A : Nat → Prop} {T : Ty} {R : Rm} {r : Unit} {M9 : Mm} {a0 : Nat} {j92 : Int32 → Mm → Option (Unit × Mm)} (C : Cx RX7 cX7_keep 2 none p s m args meth c D cy A)
    (hj92 : ∀ (x1 : Int32) (M : Mm) (H : Heap) (locs : List Loc), j92 x1 M = some (r, M9) → va_P D vwCl (WL cy T M R) H → va_D A (WL cy T M R) → va_S A s.heap H locs → ∀ ls : Array Slot, lv_has ls 2 [(0, .ref a0), (1, .int x1)] → W p l e rm_X7_keep s m args below meth c H locs 0 0 (MQ below (QcV D cy T M9 R A r) args s 0 0 A) (F0 m 92 ls [])) :
    ∀ (x1 : Int32) (M : Mm) (H : Heap) (locs : List Loc), fs_X7_keep_92 T R a0 j92 x1 M = some (r, M9) → va_P D vwCl (WL cy T M R) H → va_D A (WL cy T M R) → va_S A s.heap H locs → ∀ ls : Array Slot, lv_has ls 2 [(0, .ref a0), (1, .int x1)] → W p l e rm_X7_keep s m args below meth c H locs 0 0 (MQ below (QcV D cy T M9 R A r) args s 0 0 A) (F0 m 92 ls []) := by
  intro x1 M H locs h hP hD hS ls hl
  unfold fs_X7_keep_92 at h
  obtain ⟨hx, hb, hr, hml, hown, hts, hK, hA, hlk, hSt⟩ := id C
  refine lv_iload_n hx hb dX7_keep_92 rfl (lv_at hl 1 rfl) ?_
  refine lv_iconst (v := 4) hx hb dX7_keep_93 (by decide) ?_
  refine lv_icmp_ge (tgt := 122) hx hb dX7_keep_94 (by decide) (fun c_1 => ?_) (fun c_1 => ?_)
  · replace h := ite_t h c_1
    refine lv_aload_n hx hb dX7_keep_122 rfl (lv_at hl 0 rfl) ?_
    refine lv_dup hx hb dX7_keep_123 rfl ?_
    obtain ⟨k_2, h⟩ := chk_some h
    refine gf_7_10 C hP k_2 wl_172 dX7_keep_124 ?_
    refine lv_iconst (v := 1) hx hb dX7_keep_127 (by decide) ?_
    refine lv_iadd hx hb dX7_keep_128 ?_
    refine pf_7_10 C hP hD hS k_2 wl_172 dX7_keep_129 (fun M_3 H locs eM_3 hP hD hS => ?_)
    replace h := bnd_at h eM_3
    cases h
    exact rt_v C hP hD hS dX7_keep_132
  · replace h := ite_f h c_1
    refine lv_aload_n hx hb dX7_keep_97 rfl (lv_at hl 0 rfl) ?_
    obtain ⟨k_4, h⟩ := chk_some h
    obtain ⟨b_5, eb_5, h⟩ := rfm_some h
    refine gf_7_9 C hP k_4 eb_5 wl_110 dX7_keep_98 ?_
    refine lv_iconst (v := 4) hx hb dX7_keep_101 (by decide) ?_
    refine lv_aload_n hx hb dX7_keep_102 rfl (lv_at hl 0 rfl) ?_
    refine gf_7_10 C hP k_4 wl_172 dX7_keep_103 ?_
    refine lv_imul hx hb dX7_keep_106 ?_
    refine lv_iload_n hx hb dX7_keep_107 rfl (lv_at hl 1 rfl) ?_
    refine lv_iadd hx hb dX7_keep_108 ?_
    refine lv_aload_n hx hb dX7_keep_109 rfl (lv_at hl 0 rfl) ?_
    obtain ⟨b_6, eb_6, h⟩ := rfm_some h
    refine gf_7_2 C hP k_4 eb_6 wl_103 dX7_keep_110 ?_
    refine lv_iload_n hx hb dX7_keep_113 rfl (lv_at hl 1 rfl) ?_
    obtain ⟨k_7, h⟩ := chk_some h
    obtain ⟨k_8, h⟩ := chk_some h
    refine ar_10 C hP k_7 k_8 dX7_keep_114 ?_
    obtain ⟨k_9, h⟩ := chk_some h
    obtain ⟨k_10, h⟩ := chk_some h
    refine aw_10 C hP hD hS k_9 k_10 dX7_keep_115 (fun M_11 H locs eM_11 hP hD hS => ?_)
    replace h := bnd_at h eM_11
    obtain ⟨v_12, ev_12⟩ : ∃ y : Int32, y = (x1 + (1 : Int32)) := ⟨_, rfl⟩
    replace h := bnd_at h ev_12
    refine lv_iinc (v := v_12) (lv' := [(1, .int v_12), (0, .ref a0)]) hx hb dX7_keep_116 hl (k := 1) rfl (by rw [ev_12]; rfl) (by decide) rfl (fun ls hl => ?_)
    refine lv_goto (tgt := 92) hx hb dX7_keep_119 (by decide) ?_
    exact hj92 _ _ _ _ h hP hD hS _ (lv_sub hl [1, 0] rfl)
theorem bt_X7_keep_92 {p : Program} {l : Launch} {e : Env} {s : State} {m : MethodId} {args : Array Value} {below : List Frame} {meth : Method} {c : Code} {D : va_G} {cy : Cy} {A : Nat → Prop} {T : Ty} {R : Rm} {r : Unit} {M9 : Mm} {a0 : Nat} (C : Cx RX7 cX7_keep 2 none p s m args meth c D cy A) :
    ∀ n : Nat, ∀ (x1 : Int32) (M : Mm) (H : Heap) (locs : List Loc), fb_X7_keep_92 T R a0 n x1 M = some (r, M9) → va_P D vwCl (WL cy T M R) H → va_D A (WL cy T M R) → va_S A s.heap H locs → ∀ ls : Array Slot, lv_has ls 2 [(0, .ref a0), (1, .int x1)] → W p l e rm_X7_keep s m args below meth c H locs 0 0 (MQ below (QcV D cy T M9 R A r) args s 0 0 A) (F0 m 92 ls []) := by
  intro n
  induction n with
  | zero =>
    intro _ _ H locs h
    exact absurd (show (none : Option (Unit × Mm)) = some _ from h) (by simp)
  | succ n ih => exact fun u0 u1 H locs h => bs_X7_keep_92 (a0 := a0) C ih u0 u1 H locs h
set_option maxHeartbeats 4000000 in
set_option maxRecDepth 100000 in
theorem bs_X7_keep_58 {p : Program} {l : Launch} {e : Env} {s : State} {m : MethodId} {args : Array Value} {below : List Frame} {meth : Method} {c : Code} {D : va_G} {cy : Cy} {A : Nat → Prop} {T : Ty} {R : Rm} {r : Unit} {M9 : Mm} {a0 : Nat} {j58 : Int32 → Mm → Option (Unit × Mm)} {j92 : Int32 → Mm → Option (Unit × Mm)} (C : Cx RX7 cX7_keep 2 none p s m args meth c D cy A)
    (hj58 : ∀ (x1 : Int32) (M : Mm) (H : Heap) (locs : List Loc), j58 x1 M = some (r, M9) → va_P D vwCl (WL cy T M R) H → va_D A (WL cy T M R) → va_S A s.heap H locs → ∀ ls : Array Slot, lv_has ls 2 [(0, .ref a0), (1, .int x1)] → W p l e rm_X7_keep s m args below meth c H locs 0 0 (MQ below (QcV D cy T M9 R A r) args s 0 0 A) (F0 m 58 ls []))
    (hj92 : ∀ (x1 : Int32) (M : Mm) (H : Heap) (locs : List Loc), j92 x1 M = some (r, M9) → va_P D vwCl (WL cy T M R) H → va_D A (WL cy T M R) → va_S A s.heap H locs → ∀ ls : Array Slot, lv_has ls 2 [(0, .ref a0), (1, .int x1)] → W p l e rm_X7_keep s m args below meth c H locs 0 0 (MQ below (QcV D cy T M9 R A r) args s 0 0 A) (F0 m 92 ls [])) :
    ∀ (x1 : Int32) (M : Mm) (H : Heap) (locs : List Loc), fs_X7_keep_58 T R a0 j58 j92 x1 M = some (r, M9) → va_P D vwCl (WL cy T M R) H → va_D A (WL cy T M R) → va_S A s.heap H locs → ∀ ls : Array Slot, lv_has ls 2 [(0, .ref a0), (1, .int x1)] → W p l e rm_X7_keep s m args below meth c H locs 0 0 (MQ below (QcV D cy T M9 R A r) args s 0 0 A) (F0 m 58 ls []) := by
  intro x1 M H locs h hP hD hS ls hl
  unfold fs_X7_keep_58 at h
  obtain ⟨hx, hb, hr, hml, hown, hts, hK, hA, hlk, hSt⟩ := id C
  refine lv_iload_n hx hb dX7_keep_58 rfl (lv_at hl 1 rfl) ?_
  refine lv_bipush (v := 110) hx hb dX7_keep_59 (by decide) ?_
  refine lv_icmp_ge (tgt := 90) hx hb dX7_keep_61 (by decide) (fun c_13 => ?_) (fun c_13 => ?_)
  · replace h := ite_t h c_13
    refine lv_iconst (v := 0) hx hb dX7_keep_90 (by decide) ?_
    refine lv_istore_n (lv' := [(1, .int (0 : Int32)), (0, .ref a0)]) hx hb dX7_keep_91 rfl hl (by decide) rfl (fun ls hl => ?_)
    exact hj92 _ _ _ _ h hP hD hS _ (lv_sub hl [1, 0] rfl)
  · replace h := ite_f h c_13
    refine lv_aload_n hx hb dX7_keep_64 rfl (lv_at hl 0 rfl) ?_
    obtain ⟨k_14, h⟩ := chk_some h
    obtain ⟨b_15, eb_15, h⟩ := rfm_some h
    refine gf_7_6 C hP k_14 eb_15 wl_107 dX7_keep_65 ?_
    refine lv_bipush (v := 110) hx hb dX7_keep_68 (by decide) ?_
    refine lv_aload_n hx hb dX7_keep_70 rfl (lv_at hl 0 rfl) ?_
    refine gf_7_10 C hP k_14 wl_172 dX7_keep_71 ?_
    refine lv_imul hx hb dX7_keep_74 ?_
    refine lv_iload_n hx hb dX7_keep_75 rfl (lv_at hl 1 rfl) ?_
    refine lv_iadd hx hb dX7_keep_76 ?_
    refine lv_aload_n hx hb dX7_keep_77 rfl (lv_at hl 0 rfl) ?_
    obtain ⟨b_16, eb_16, h⟩ := rfm_some h
    refine gf_7_0 C hP k_14 eb_16 wl_100 dX7_keep_78 ?_
    refine lv_iload_n hx hb dX7_keep_81 rfl (lv_at hl 1 rfl) ?_
    obtain ⟨k_17, h⟩ := chk_some h
    obtain ⟨k_18, h⟩ := chk_some h
    refine ar_9 C hP k_17 k_18 dX7_keep_82 ?_
    obtain ⟨k_19, h⟩ := chk_some h
    obtain ⟨k_20, h⟩ := chk_some h
    refine aw_9 C hP hD hS k_19 k_20 dX7_keep_83 (fun M_21 H locs eM_21 hP hD hS => ?_)
    replace h := bnd_at h eM_21
    obtain ⟨v_22, ev_22⟩ : ∃ y : Int32, y = (x1 + (1 : Int32)) := ⟨_, rfl⟩
    replace h := bnd_at h ev_22
    refine lv_iinc (v := v_22) (lv' := [(1, .int v_22), (0, .ref a0)]) hx hb dX7_keep_84 hl (k := 1) rfl (by rw [ev_22]; rfl) (by decide) rfl (fun ls hl => ?_)
    refine lv_goto (tgt := 58) hx hb dX7_keep_87 (by decide) ?_
    exact hj58 _ _ _ _ h hP hD hS _ (lv_sub hl [1, 0] rfl)
theorem bt_X7_keep_58 {p : Program} {l : Launch} {e : Env} {s : State} {m : MethodId} {args : Array Value} {below : List Frame} {meth : Method} {c : Code} {D : va_G} {cy : Cy} {A : Nat → Prop} {T : Ty} {R : Rm} {r : Unit} {M9 : Mm} {a0 : Nat} {j92 : Int32 → Mm → Option (Unit × Mm)} (C : Cx RX7 cX7_keep 2 none p s m args meth c D cy A)
    (hj92 : ∀ (x1 : Int32) (M : Mm) (H : Heap) (locs : List Loc), j92 x1 M = some (r, M9) → va_P D vwCl (WL cy T M R) H → va_D A (WL cy T M R) → va_S A s.heap H locs → ∀ ls : Array Slot, lv_has ls 2 [(0, .ref a0), (1, .int x1)] → W p l e rm_X7_keep s m args below meth c H locs 0 0 (MQ below (QcV D cy T M9 R A r) args s 0 0 A) (F0 m 92 ls [])) :
    ∀ n : Nat, ∀ (x1 : Int32) (M : Mm) (H : Heap) (locs : List Loc), fb_X7_keep_58 T R a0 j92 n x1 M = some (r, M9) → va_P D vwCl (WL cy T M R) H → va_D A (WL cy T M R) → va_S A s.heap H locs → ∀ ls : Array Slot, lv_has ls 2 [(0, .ref a0), (1, .int x1)] → W p l e rm_X7_keep s m args below meth c H locs 0 0 (MQ below (QcV D cy T M9 R A r) args s 0 0 A) (F0 m 58 ls []) := by
  intro n
  induction n with
  | zero =>
    intro _ _ H locs h
    exact absurd (show (none : Option (Unit × Mm)) = some _ from h) (by simp)
  | succ n ih => exact fun u0 u1 H locs h => bs_X7_keep_58 (a0 := a0) C ih hj92 u0 u1 H locs h
set_option maxHeartbeats 4000000 in
set_option maxRecDepth 100000 in
theorem bs_X7_keep_14 {p : Program} {l : Launch} {e : Env} {s : State} {m : MethodId} {args : Array Value} {below : List Frame} {meth : Method} {c : Code} {D : va_G} {cy : Cy} {A : Nat → Prop} {T : Ty} {R : Rm} {r : Unit} {M9 : Mm} {a0 : Nat} {j14 : Int32 → Mm → Option (Unit × Mm)} {j58 : Int32 → Mm → Option (Unit × Mm)} (C : Cx RX7 cX7_keep 2 none p s m args meth c D cy A)
    (hj14 : ∀ (x1 : Int32) (M : Mm) (H : Heap) (locs : List Loc), j14 x1 M = some (r, M9) → va_P D vwCl (WL cy T M R) H → va_D A (WL cy T M R) → va_S A s.heap H locs → ∀ ls : Array Slot, lv_has ls 2 [(0, .ref a0), (1, .int x1)] → W p l e rm_X7_keep s m args below meth c H locs 0 0 (MQ below (QcV D cy T M9 R A r) args s 0 0 A) (F0 m 14 ls []))
    (hj58 : ∀ (x1 : Int32) (M : Mm) (H : Heap) (locs : List Loc), j58 x1 M = some (r, M9) → va_P D vwCl (WL cy T M R) H → va_D A (WL cy T M R) → va_S A s.heap H locs → ∀ ls : Array Slot, lv_has ls 2 [(0, .ref a0), (1, .int x1)] → W p l e rm_X7_keep s m args below meth c H locs 0 0 (MQ below (QcV D cy T M9 R A r) args s 0 0 A) (F0 m 58 ls [])) :
    ∀ (x1 : Int32) (M : Mm) (H : Heap) (locs : List Loc), fs_X7_keep_14 T R a0 j14 j58 x1 M = some (r, M9) → va_P D vwCl (WL cy T M R) H → va_D A (WL cy T M R) → va_S A s.heap H locs → ∀ ls : Array Slot, lv_has ls 2 [(0, .ref a0), (1, .int x1)] → W p l e rm_X7_keep s m args below meth c H locs 0 0 (MQ below (QcV D cy T M9 R A r) args s 0 0 A) (F0 m 14 ls []) := by
  intro x1 M H locs h hP hD hS ls hl
  unfold fs_X7_keep_14 at h
  obtain ⟨hx, hb, hr, hml, hown, hts, hK, hA, hlk, hSt⟩ := id C
  refine lv_iload_n hx hb dX7_keep_14 rfl (lv_at hl 1 rfl) ?_
  refine lv_sipush (v := 5010) hx hb dX7_keep_15 (by decide) ?_
  refine lv_icmp_ge (tgt := 56) hx hb dX7_keep_18 (by decide) (fun c_23 => ?_) (fun c_23 => ?_)
  · replace h := ite_t h c_23
    refine lv_iconst (v := 0) hx hb dX7_keep_56 (by decide) ?_
    refine lv_istore_n (lv' := [(1, .int (0 : Int32)), (0, .ref a0)]) hx hb dX7_keep_57 rfl hl (by decide) rfl (fun ls hl => ?_)
    exact hj58 _ _ _ _ h hP hD hS _ (lv_sub hl [1, 0] rfl)
  · replace h := ite_f h c_23
    refine lv_aload_n hx hb dX7_keep_21 rfl (lv_at hl 0 rfl) ?_
    refine lv_aload_n hx hb dX7_keep_22 rfl (lv_at hl 0 rfl) ?_
    obtain ⟨k_24, h⟩ := chk_some h
    refine gf_7_10 C hP k_24 wl_172 dX7_keep_23 ?_
    refine lv_iload_n hx hb dX7_keep_26 rfl (lv_at hl 1 rfl) ?_
    refine lv_aload_n hx hb dX7_keep_27 rfl (lv_at hl 0 rfl) ?_
    obtain ⟨b_25, eb_25, h⟩ := rfm_some h
    refine gf_7_1 C hP k_24 eb_25 wl_101 dX7_keep_28 ?_
    refine lv_sipush (v := 801) hx hb dX7_keep_31 (by decide) ?_
    refine lv_iload_n hx hb dX7_keep_34 rfl (lv_at hl 1 rfl) ?_
    refine lv_sipush (v := 501) hx hb dX7_keep_35 (by decide) ?_
    refine lv_idiv hx hb dX7_keep_38 (by decide) ?_
    refine lv_imul hx hb dX7_keep_39 ?_
    refine lv_iload_n hx hb dX7_keep_40 rfl (lv_at hl 1 rfl) ?_
    refine lv_sipush (v := 501) hx hb dX7_keep_41 (by decide) ?_
    refine lv_irem hx hb dX7_keep_44 (by decide) ?_
    refine lv_iadd hx hb dX7_keep_45 ?_
    obtain ⟨k_26, h⟩ := chk_some h
    obtain ⟨k_27, h⟩ := chk_some h
    refine ar_9 C hP k_26 k_27 dX7_keep_46 ?_
    obtain ⟨r_28, M_29, hc_30, h⟩ := cal_some h
    refine cl_Vv (As := [.int (gI M a0 10), .int x1, .int (gI M b_25 (((801 : Int32) * (x1 / (501 : Int32))) + (x1 - x1 / (501 : Int32) * (501 : Int32))).toNatClampNeg)]) (rest := []) C (ct_X7_keepIce hc_30) k_24 (by decide) rfl wl_181 wl_182 wl_183 wl_5 wl_184 hd_X7_keepIce ⟨Nat.le_of_ble_eq_true rfl, Nat.le_of_ble_eq_true rfl⟩ ⟨rfl, rfl⟩ ⟨Nat.zero_le _, Nat.zero_le _⟩ rfl (Nat.le_of_ble_eq_true rfl) rfl hl.1 hP hD hS dX7_keep_47 (fun H locs hP hD hS => ?_)
    obtain ⟨v_31, ev_31⟩ : ∃ y : Int32, y = (x1 + (1 : Int32)) := ⟨_, rfl⟩
    replace h := bnd_at h ev_31
    refine lv_iinc (v := v_31) (lv' := [(1, .int v_31), (0, .ref a0)]) hx hb dX7_keep_50 hl (k := 1) rfl (by rw [ev_31]; rfl) (by decide) rfl (fun ls hl => ?_)
    refine lv_goto (tgt := 14) hx hb dX7_keep_53 (by decide) ?_
    exact hj14 _ _ _ _ h hP hD hS _ (lv_sub hl [1, 0] rfl)
theorem bt_X7_keep_14 {p : Program} {l : Launch} {e : Env} {s : State} {m : MethodId} {args : Array Value} {below : List Frame} {meth : Method} {c : Code} {D : va_G} {cy : Cy} {A : Nat → Prop} {T : Ty} {R : Rm} {r : Unit} {M9 : Mm} {a0 : Nat} {j58 : Int32 → Mm → Option (Unit × Mm)} (C : Cx RX7 cX7_keep 2 none p s m args meth c D cy A)
    (hj58 : ∀ (x1 : Int32) (M : Mm) (H : Heap) (locs : List Loc), j58 x1 M = some (r, M9) → va_P D vwCl (WL cy T M R) H → va_D A (WL cy T M R) → va_S A s.heap H locs → ∀ ls : Array Slot, lv_has ls 2 [(0, .ref a0), (1, .int x1)] → W p l e rm_X7_keep s m args below meth c H locs 0 0 (MQ below (QcV D cy T M9 R A r) args s 0 0 A) (F0 m 58 ls [])) :
    ∀ n : Nat, ∀ (x1 : Int32) (M : Mm) (H : Heap) (locs : List Loc), fb_X7_keep_14 T R a0 j58 n x1 M = some (r, M9) → va_P D vwCl (WL cy T M R) H → va_D A (WL cy T M R) → va_S A s.heap H locs → ∀ ls : Array Slot, lv_has ls 2 [(0, .ref a0), (1, .int x1)] → W p l e rm_X7_keep s m args below meth c H locs 0 0 (MQ below (QcV D cy T M9 R A r) args s 0 0 A) (F0 m 14 ls []) := by
  intro n
  induction n with
  | zero =>
    intro _ _ H locs h
    exact absurd (show (none : Option (Unit × Mm)) = some _ from h) (by simp)
  | succ n ih => exact fun u0 u1 H locs h => bs_X7_keep_14 (a0 := a0) C ih hj58 u0 u1 H locs h
set_option maxHeartbeats 4000000 in
set_option maxRecDepth 100000 in
theorem bs_X7_keep_12 {p : Program} {l : Launch} {e : Env} {s : State} {m : MethodId} {args : Array Value} {below : List Frame} {meth : Method} {c : Code} {D : va_G} {cy : Cy} {A : Nat → Prop} {T : Ty} {R : Rm} {r : Unit} {M9 : Mm} {a0 : Nat} (C : Cx RX7 cX7_keep 2 none p s m args meth c D cy A) :
    ∀  (M : Mm) (H : Heap) (locs : List Loc), fs_X7_keep_12 T R a0 M = some (r, M9) → va_P D vwCl (WL cy T M R) H → va_D A (WL cy T M R) → va_S A s.heap H locs → ∀ ls : Array Slot, lv_has ls 2 [(0, .ref a0)] → W p l e rm_X7_keep s m args below meth c H locs 0 0 (MQ below (QcV D cy T M9 R A r) args s 0 0 A) (F0 m 12 ls []) := by
  intro  M H locs h hP hD hS ls hl
  unfold fs_X7_keep_12 at h
  obtain ⟨hx, hb, hr, hml, hown, hts, hK, hA, hlk, hSt⟩ := id C
  refine lv_iconst (v := 0) hx hb dX7_keep_12 (by decide) ?_
  refine lv_istore_n (lv' := [(1, .int (0 : Int32)), (0, .ref a0)]) hx hb dX7_keep_13 rfl hl (by decide) rfl (fun ls hl => ?_)
  exact (bt_X7_keep_14 C (bt_X7_keep_58 C (bt_X7_keep_92 C FU) FU) FU) _ _ _ _ h hP hD hS _ (lv_sub hl [1, 0] rfl)
set_option maxHeartbeats 4000000 in
set_option maxRecDepth 100000 in
theorem ct_X7_keep {l : Launch} {D : va_G} {cy : Cy} {T : Ty} {R : Rm} {a0 : Nat} {M : Mm} {r : Unit} {M9 : Mm} (h : fn_X7_keep T R a0 M = some (r, M9)) : Ct QcV l yX7_keep cX7_keep 2 none rm_X7_keep D cy T M R [.ref a0] M9 R r := by
  unfold fn_X7_keep at h
  refine enter (plainFor_of_name (by decide +kernel)) (Nat.le_of_ble_eq_true rfl) (fun p e s m args below meth c A C hP hD hS ls hl => ?_)
  have hl : lv_has ls 2 [(0, .ref a0)] := hl
  obtain ⟨hx, hb, hr, hml, hown, hts, hK, hA, hlk, hSt⟩ := id C
  refine lv_aload_n hx hb dX7_keep_0 rfl (lv_at hl 0 rfl) ?_
  obtain ⟨k_32, h⟩ := chk_some h
  refine gf_7_10 C hP k_32 wl_172 dX7_keep_1 ?_
  refine lv_iconst (v := 4) hx hb dX7_keep_4 (by decide) ?_
  refine lv_icmp_ne (tgt := 12) hx hb dX7_keep_5 (by decide) (fun c_33 => ?_) (fun c_33 => ?_)
  · replace h := ite_f h c_33
    exact (bs_X7_keep_12 C) _ _ _ h hP hD hS _ (lv_sub hl [0] rfl)
  · replace h := ite_t h c_33
    refine lv_aload_n hx hb dX7_keep_8 rfl (lv_at hl 0 rfl) ?_
    obtain ⟨r_34, M_35, hc_36, h⟩ := cal_some h
    refine cl_Vv (As := []) (rest := []) C (ct_X7_dropOldest hc_36) k_32 (by decide) rfl wl_173 wl_174 wl_175 wl_5 wl_176 hd_X7_dropOldest ⟨Nat.le_of_ble_eq_true rfl, Nat.le_of_ble_eq_true rfl⟩ ⟨rfl, rfl⟩ ⟨Nat.zero_le _, Nat.zero_le _⟩ rfl (Nat.le_of_ble_eq_true rfl) rfl hl.1 hP hD hS dX7_keep_9 (fun H locs hP hD hS => ?_)
    exact (bs_X7_keep_12 C) _ _ _ h hP hD hS _ (lv_sub hl [0] rfl)
abbrev rm_X7_undo : Room := { frames := 1, cells := 0, slots := 0, locals := 22 }
theorem hd_X7_undo : yX7_undo.cls = RX7 ∧ yX7_undo.cls ≠ "java/lang/invoke/MethodHandle" ∧ yX7_undo.cls ≠ "java/lang/invoke/VarHandle" ∧ (parseMethodDescriptor yX7_undo.desc).map (fun d => d.parameters.length) = some 0 := ⟨rfl, by decide +kernel, by decide +kernel, by decide +kernel⟩
set_option maxHeartbeats 4000000 in
set_option maxRecDepth 100000 in
theorem bs_X7_undo_100 {p : Program} {l : Launch} {e : Env} {s : State} {m : MethodId} {args : Array Value} {below : List Frame} {meth : Method} {c : Code} {D : va_G} {cy : Cy} {A : Nat → Prop} {T : Ty} {R : Rm} {r : Int32} {M9 : Mm} {a0 : Nat} {j100 : Int32 → Mm → Option (Int32 × Mm)} (C : Cx RX7 cX7_undo 2 (some .int) p s m args meth c D cy A)
    (hj100 : ∀ (x1 : Int32) (M : Mm) (H : Heap) (locs : List Loc), j100 x1 M = some (r, M9) → va_P D vwCl (WL cy T M R) H → va_D A (WL cy T M R) → va_S A s.heap H locs → ∀ ls : Array Slot, lv_has ls 2 [(0, .ref a0), (1, .int x1)] → W p l e rm_X7_undo s m args below meth c H locs 0 0 (MQ below (QcI D cy T M9 R A r) args s 0 0 A) (F0 m 100 ls [])) :
    ∀ (x1 : Int32) (M : Mm) (H : Heap) (locs : List Loc), fs_X7_undo_100 T R a0 j100 x1 M = some (r, M9) → va_P D vwCl (WL cy T M R) H → va_D A (WL cy T M R) → va_S A s.heap H locs → ∀ ls : Array Slot, lv_has ls 2 [(0, .ref a0), (1, .int x1)] → W p l e rm_X7_undo s m args below meth c H locs 0 0 (MQ below (QcI D cy T M9 R A r) args s 0 0 A) (F0 m 100 ls []) := by
  intro x1 M H locs h hP hD hS ls hl
  unfold fs_X7_undo_100 at h
  obtain ⟨hx, hb, hr, hml, hown, hts, hK, hA, hlk, hSt⟩ := id C
  refine lv_iload_n hx hb dX7_undo_100 rfl (lv_at hl 1 rfl) ?_
  refine lv_iconst (v := 4) hx hb dX7_undo_101 (by decide) ?_
  refine lv_icmp_ge (tgt := 130) hx hb dX7_undo_102 (by decide) (fun c_1 => ?_) (fun c_1 => ?_)
  · replace h := ite_t h c_1
    refine lv_aload_n hx hb dX7_undo_130 rfl (lv_at hl 0 rfl) ?_
    obtain ⟨k_2, h⟩ := chk_some h
    refine gf_7_10 C hP k_2 wl_172 dX7_undo_131 ?_
    cases h
    exact rt_i C hP hD hS dX7_undo_134
  · replace h := ite_f h c_1
    refine lv_aload_n hx hb dX7_undo_105 rfl (lv_at hl 0 rfl) ?_
    obtain ⟨k_3, h⟩ := chk_some h
    obtain ⟨b_4, eb_4, h⟩ := rfm_some h
    refine gf_7_2 C hP k_3 eb_4 wl_103 dX7_undo_106 ?_
    refine lv_iload_n hx hb dX7_undo_109 rfl (lv_at hl 1 rfl) ?_
    refine lv_aload_n hx hb dX7_undo_110 rfl (lv_at hl 0 rfl) ?_
    obtain ⟨b_5, eb_5, h⟩ := rfm_some h
    refine gf_7_9 C hP k_3 eb_5 wl_110 dX7_undo_111 ?_
    refine lv_iconst (v := 4) hx hb dX7_undo_114 (by decide) ?_
    refine lv_aload_n hx hb dX7_undo_115 rfl (lv_at hl 0 rfl) ?_
    refine gf_7_10 C hP k_3 wl_172 dX7_undo_116 ?_
    refine lv_imul hx hb dX7_undo_119 ?_
    refine lv_iload_n hx hb dX7_undo_120 rfl (lv_at hl 1 rfl) ?_
    refine lv_iadd hx hb dX7_undo_121 ?_
    obtain ⟨k_6, h⟩ := chk_some h
    obtain ⟨k_7, h⟩ := chk_some h
    refine ar_10 C hP k_6 k_7 dX7_undo_122 ?_
    obtain ⟨k_8, h⟩ := chk_some h
    obtain ⟨k_9, h⟩ := chk_some h
    refine aw_10 C hP hD hS k_8 k_9 dX7_undo_123 (fun M_10 H locs eM_10 hP hD hS => ?_)
    replace h := bnd_at h eM_10
    obtain ⟨v_11, ev_11⟩ : ∃ y : Int32, y = (x1 + (1 : Int32)) := ⟨_, rfl⟩
    replace h := bnd_at h ev_11
    refine lv_iinc (v := v_11) (lv' := [(1, .int v_11), (0, .ref a0)]) hx hb dX7_undo_124 hl (k := 1) rfl (by rw [ev_11]; rfl) (by decide) rfl (fun ls hl => ?_)
    refine lv_goto (tgt := 100) hx hb dX7_undo_127 (by decide) ?_
    exact hj100 _ _ _ _ h hP hD hS _ (lv_sub hl [1, 0] rfl)
theorem bt_X7_undo_100 {p : Program} {l : Launch} {e : Env} {s : State} {m : MethodId} {args : Array Value} {below : List Frame} {meth : Method} {c : Code} {D : va_G} {cy : Cy} {A : Nat → Prop} {T : Ty} {R : Rm} {r : Int32} {M9 : Mm} {a0 : Nat} (C : Cx RX7 cX7_undo 2 (some .int) p s m args meth c D cy A) :
    ∀ n : Nat, ∀ (x1 : Int32) (M : Mm) (H : Heap) (locs : List Loc), fb_X7_undo_100 T R a0 n x1 M = some (r, M9) → va_P D vwCl (WL cy T M R) H → va_D A (WL cy T M R) → va_S A s.heap H locs → ∀ ls : Array Slot, lv_has ls 2 [(0, .ref a0), (1, .int x1)] → W p l e rm_X7_undo s m args below meth c H locs 0 0 (MQ below (QcI D cy T M9 R A r) args s 0 0 A) (F0 m 100 ls []) := by
  intro n
  induction n with
  | zero =>
    intro _ _ H locs h
    exact absurd (show (none : Option (Int32 × Mm)) = some _ from h) (by simp)
  | succ n ih => exact fun u0 u1 H locs h => bs_X7_undo_100 (a0 := a0) C ih u0 u1 H locs h
set_option maxHeartbeats 4000000 in
set_option maxRecDepth 100000 in
theorem bs_X7_undo_66 {p : Program} {l : Launch} {e : Env} {s : State} {m : MethodId} {args : Array Value} {below : List Frame} {meth : Method} {c : Code} {D : va_G} {cy : Cy} {A : Nat → Prop} {T : Ty} {R : Rm} {r : Int32} {M9 : Mm} {a0 : Nat} {j66 : Int32 → Mm → Option (Int32 × Mm)} {j100 : Int32 → Mm → Option (Int32 × Mm)} (C : Cx RX7 cX7_undo 2 (some .int) p s m args meth c D cy A)
    (hj66 : ∀ (x1 : Int32) (M : Mm) (H : Heap) (locs : List Loc), j66 x1 M = some (r, M9) → va_P D vwCl (WL cy T M R) H → va_D A (WL cy T M R) → va_S A s.heap H locs → ∀ ls : Array Slot, lv_has ls 2 [(0, .ref a0), (1, .int x1)] → W p l e rm_X7_undo s m args below meth c H locs 0 0 (MQ below (QcI D cy T M9 R A r) args s 0 0 A) (F0 m 66 ls []))
    (hj100 : ∀ (x1 : Int32) (M : Mm) (H : Heap) (locs : List Loc), j100 x1 M = some (r, M9) → va_P D vwCl (WL cy T M R) H → va_D A (WL cy T M R) → va_S A s.heap H locs → ∀ ls : Array Slot, lv_has ls 2 [(0, .ref a0), (1, .int x1)] → W p l e rm_X7_undo s m args below meth c H locs 0 0 (MQ below (QcI D cy T M9 R A r) args s 0 0 A) (F0 m 100 ls [])) :
    ∀ (x1 : Int32) (M : Mm) (H : Heap) (locs : List Loc), fs_X7_undo_66 T R a0 j66 j100 x1 M = some (r, M9) → va_P D vwCl (WL cy T M R) H → va_D A (WL cy T M R) → va_S A s.heap H locs → ∀ ls : Array Slot, lv_has ls 2 [(0, .ref a0), (1, .int x1)] → W p l e rm_X7_undo s m args below meth c H locs 0 0 (MQ below (QcI D cy T M9 R A r) args s 0 0 A) (F0 m 66 ls []) := by
  intro x1 M H locs h hP hD hS ls hl
  unfold fs_X7_undo_66 at h
  obtain ⟨hx, hb, hr, hml, hown, hts, hK, hA, hlk, hSt⟩ := id C
  refine lv_iload_n hx hb dX7_undo_66 rfl (lv_at hl 1 rfl) ?_
  refine lv_bipush (v := 110) hx hb dX7_undo_67 (by decide) ?_
  refine lv_icmp_ge (tgt := 98) hx hb dX7_undo_69 (by decide) (fun c_12 => ?_) (fun c_12 => ?_)
  · replace h := ite_t h c_12
    refine lv_iconst (v := 0) hx hb dX7_undo_98 (by decide) ?_
    refine lv_istore_n (lv' := [(1, .int (0 : Int32)), (0, .ref a0)]) hx hb dX7_undo_99 rfl hl (by decide) rfl (fun ls hl => ?_)
    exact hj100 _ _ _ _ h hP hD hS _ (lv_sub hl [1, 0] rfl)
  · replace h := ite_f h c_12
    refine lv_aload_n hx hb dX7_undo_72 rfl (lv_at hl 0 rfl) ?_
    obtain ⟨k_13, h⟩ := chk_some h
    obtain ⟨b_14, eb_14, h⟩ := rfm_some h
    refine gf_7_0 C hP k_13 eb_14 wl_100 dX7_undo_73 ?_
    refine lv_iload_n hx hb dX7_undo_76 rfl (lv_at hl 1 rfl) ?_
    refine lv_aload_n hx hb dX7_undo_77 rfl (lv_at hl 0 rfl) ?_
    obtain ⟨b_15, eb_15, h⟩ := rfm_some h
    refine gf_7_6 C hP k_13 eb_15 wl_107 dX7_undo_78 ?_
    refine lv_bipush (v := 110) hx hb dX7_undo_81 (by decide) ?_
    refine lv_aload_n hx hb dX7_undo_83 rfl (lv_at hl 0 rfl) ?_
    refine gf_7_10 C hP k_13 wl_172 dX7_undo_84 ?_
    refine lv_imul hx hb dX7_undo_87 ?_
    refine lv_iload_n hx hb dX7_undo_88 rfl (lv_at hl 1 rfl) ?_
    refine lv_iadd hx hb dX7_undo_89 ?_
    obtain ⟨k_16, h⟩ := chk_some h
    obtain ⟨k_17, h⟩ := chk_some h
    refine ar_9 C hP k_16 k_17 dX7_undo_90 ?_
    obtain ⟨k_18, h⟩ := chk_some h
    obtain ⟨k_19, h⟩ := chk_some h
    refine aw_9 C hP hD hS k_18 k_19 dX7_undo_91 (fun M_20 H locs eM_20 hP hD hS => ?_)
    replace h := bnd_at h eM_20
    obtain ⟨v_21, ev_21⟩ : ∃ y : Int32, y = (x1 + (1 : Int32)) := ⟨_, rfl⟩
    replace h := bnd_at h ev_21
    refine lv_iinc (v := v_21) (lv' := [(1, .int v_21), (0, .ref a0)]) hx hb dX7_undo_92 hl (k := 1) rfl (by rw [ev_21]; rfl) (by decide) rfl (fun ls hl => ?_)
    refine lv_goto (tgt := 66) hx hb dX7_undo_95 (by decide) ?_
    exact hj66 _ _ _ _ h hP hD hS _ (lv_sub hl [1, 0] rfl)
theorem bt_X7_undo_66 {p : Program} {l : Launch} {e : Env} {s : State} {m : MethodId} {args : Array Value} {below : List Frame} {meth : Method} {c : Code} {D : va_G} {cy : Cy} {A : Nat → Prop} {T : Ty} {R : Rm} {r : Int32} {M9 : Mm} {a0 : Nat} {j100 : Int32 → Mm → Option (Int32 × Mm)} (C : Cx RX7 cX7_undo 2 (some .int) p s m args meth c D cy A)
    (hj100 : ∀ (x1 : Int32) (M : Mm) (H : Heap) (locs : List Loc), j100 x1 M = some (r, M9) → va_P D vwCl (WL cy T M R) H → va_D A (WL cy T M R) → va_S A s.heap H locs → ∀ ls : Array Slot, lv_has ls 2 [(0, .ref a0), (1, .int x1)] → W p l e rm_X7_undo s m args below meth c H locs 0 0 (MQ below (QcI D cy T M9 R A r) args s 0 0 A) (F0 m 100 ls [])) :
    ∀ n : Nat, ∀ (x1 : Int32) (M : Mm) (H : Heap) (locs : List Loc), fb_X7_undo_66 T R a0 j100 n x1 M = some (r, M9) → va_P D vwCl (WL cy T M R) H → va_D A (WL cy T M R) → va_S A s.heap H locs → ∀ ls : Array Slot, lv_has ls 2 [(0, .ref a0), (1, .int x1)] → W p l e rm_X7_undo s m args below meth c H locs 0 0 (MQ below (QcI D cy T M9 R A r) args s 0 0 A) (F0 m 66 ls []) := by
  intro n
  induction n with
  | zero =>
    intro _ _ H locs h
    exact absurd (show (none : Option (Int32 × Mm)) = some _ from h) (by simp)
  | succ n ih => exact fun u0 u1 H locs h => bs_X7_undo_66 (a0 := a0) C ih hj100 u0 u1 H locs h
set_option maxHeartbeats 4000000 in
set_option maxRecDepth 100000 in
theorem bs_X7_undo_22 {p : Program} {l : Launch} {e : Env} {s : State} {m : MethodId} {args : Array Value} {below : List Frame} {meth : Method} {c : Code} {D : va_G} {cy : Cy} {A : Nat → Prop} {T : Ty} {R : Rm} {r : Int32} {M9 : Mm} {a0 : Nat} {j22 : Int32 → Mm → Option (Int32 × Mm)} {j66 : Int32 → Mm → Option (Int32 × Mm)} (C : Cx RX7 cX7_undo 2 (some .int) p s m args meth c D cy A)
    (hj22 : ∀ (x1 : Int32) (M : Mm) (H : Heap) (locs : List Loc), j22 x1 M = some (r, M9) → va_P D vwCl (WL cy T M R) H → va_D A (WL cy T M R) → va_S A s.heap H locs → ∀ ls : Array Slot, lv_has ls 2 [(0, .ref a0), (1, .int x1)] → W p l e rm_X7_undo s m args below meth c H locs 0 0 (MQ below (QcI D cy T M9 R A r) args s 0 0 A) (F0 m 22 ls []))
    (hj66 : ∀ (x1 : Int32) (M : Mm) (H : Heap) (locs : List Loc), j66 x1 M = some (r, M9) → va_P D vwCl (WL cy T M R) H → va_D A (WL cy T M R) → va_S A s.heap H locs → ∀ ls : Array Slot, lv_has ls 2 [(0, .ref a0), (1, .int x1)] → W p l e rm_X7_undo s m args below meth c H locs 0 0 (MQ below (QcI D cy T M9 R A r) args s 0 0 A) (F0 m 66 ls [])) :
    ∀ (x1 : Int32) (M : Mm) (H : Heap) (locs : List Loc), fs_X7_undo_22 T R a0 j22 j66 x1 M = some (r, M9) → va_P D vwCl (WL cy T M R) H → va_D A (WL cy T M R) → va_S A s.heap H locs → ∀ ls : Array Slot, lv_has ls 2 [(0, .ref a0), (1, .int x1)] → W p l e rm_X7_undo s m args below meth c H locs 0 0 (MQ below (QcI D cy T M9 R A r) args s 0 0 A) (F0 m 22 ls []) := by
  intro x1 M H locs h hP hD hS ls hl
  unfold fs_X7_undo_22 at h
  obtain ⟨hx, hb, hr, hml, hown, hts, hK, hA, hlk, hSt⟩ := id C
  refine lv_iload_n hx hb dX7_undo_22 rfl (lv_at hl 1 rfl) ?_
  refine lv_sipush (v := 5010) hx hb dX7_undo_23 (by decide) ?_
  refine lv_icmp_ge (tgt := 64) hx hb dX7_undo_26 (by decide) (fun c_22 => ?_) (fun c_22 => ?_)
  · replace h := ite_t h c_22
    refine lv_iconst (v := 0) hx hb dX7_undo_64 (by decide) ?_
    refine lv_istore_n (lv' := [(1, .int (0 : Int32)), (0, .ref a0)]) hx hb dX7_undo_65 rfl hl (by decide) rfl (fun ls hl => ?_)
    exact hj66 _ _ _ _ h hP hD hS _ (lv_sub hl [1, 0] rfl)
  · replace h := ite_f h c_22
    refine lv_aload_n hx hb dX7_undo_29 rfl (lv_at hl 0 rfl) ?_
    obtain ⟨k_23, h⟩ := chk_some h
    obtain ⟨b_24, eb_24, h⟩ := rfm_some h
    refine gf_7_1 C hP k_23 eb_24 wl_101 dX7_undo_30 ?_
    refine lv_sipush (v := 801) hx hb dX7_undo_33 (by decide) ?_
    refine lv_iload_n hx hb dX7_undo_36 rfl (lv_at hl 1 rfl) ?_
    refine lv_sipush (v := 501) hx hb dX7_undo_37 (by decide) ?_
    refine lv_idiv hx hb dX7_undo_40 (by decide) ?_
    refine lv_imul hx hb dX7_undo_41 ?_
    refine lv_iload_n hx hb dX7_undo_42 rfl (lv_at hl 1 rfl) ?_
    refine lv_sipush (v := 501) hx hb dX7_undo_43 (by decide) ?_
    refine lv_irem hx hb dX7_undo_46 (by decide) ?_
    refine lv_iadd hx hb dX7_undo_47 ?_
    refine lv_aload_n hx hb dX7_undo_48 rfl (lv_at hl 0 rfl) ?_
    refine lv_aload_n hx hb dX7_undo_49 rfl (lv_at hl 0 rfl) ?_
    refine gf_7_10 C hP k_23 wl_172 dX7_undo_50 ?_
    refine lv_iload_n hx hb dX7_undo_53 rfl (lv_at hl 1 rfl) ?_
    obtain ⟨r_25, M_26, hc_27, h⟩ := cal_some h
    refine cl_Vi (As := [.int (gI M a0 10), .int x1]) (rest := [.int (((801 : Int32) * (x1 / (501 : Int32))) + (x1 - x1 / (501 : Int32) * (501 : Int32))), .ref b_24]) C (ct_X7_keptIce hc_27) k_23 (by decide) rfl wl_177 wl_178 wl_179 wl_5 wl_180 hd_X7_keptIce ⟨Nat.le_of_ble_eq_true rfl, Nat.le_of_ble_eq_true rfl⟩ ⟨rfl, rfl⟩ ⟨Nat.zero_le _, Nat.zero_le _⟩ rfl (Nat.le_of_ble_eq_true rfl) rfl hl.1 hP hD hS dX7_undo_54 (fun H locs hP hD hS => ?_)
    obtain ⟨k_28, h⟩ := chk_some h
    obtain ⟨k_29, h⟩ := chk_some h
    refine aw_9 C hP hD hS k_28 k_29 dX7_undo_57 (fun M_30 H locs eM_30 hP hD hS => ?_)
    replace h := bnd_at h eM_30
    obtain ⟨v_31, ev_31⟩ : ∃ y : Int32, y = (x1 + (1 : Int32)) := ⟨_, rfl⟩
    replace h := bnd_at h ev_31
    refine lv_iinc (v := v_31) (lv' := [(1, .int v_31), (0, .ref a0)]) hx hb dX7_undo_58 hl (k := 1) rfl (by rw [ev_31]; rfl) (by decide) rfl (fun ls hl => ?_)
    refine lv_goto (tgt := 22) hx hb dX7_undo_61 (by decide) ?_
    exact hj22 _ _ _ _ h hP hD hS _ (lv_sub hl [1, 0] rfl)
theorem bt_X7_undo_22 {p : Program} {l : Launch} {e : Env} {s : State} {m : MethodId} {args : Array Value} {below : List Frame} {meth : Method} {c : Code} {D : va_G} {cy : Cy} {A : Nat → Prop} {T : Ty} {R : Rm} {r : Int32} {M9 : Mm} {a0 : Nat} {j66 : Int32 → Mm → Option (Int32 × Mm)} (C : Cx RX7 cX7_undo 2 (some .int) p s m args meth c D cy A)
    (hj66 : ∀ (x1 : Int32) (M : Mm) (H : Heap) (locs : List Loc), j66 x1 M = some (r, M9) → va_P D vwCl (WL cy T M R) H → va_D A (WL cy T M R) → va_S A s.heap H locs → ∀ ls : Array Slot, lv_has ls 2 [(0, .ref a0), (1, .int x1)] → W p l e rm_X7_undo s m args below meth c H locs 0 0 (MQ below (QcI D cy T M9 R A r) args s 0 0 A) (F0 m 66 ls [])) :
    ∀ n : Nat, ∀ (x1 : Int32) (M : Mm) (H : Heap) (locs : List Loc), fb_X7_undo_22 T R a0 j66 n x1 M = some (r, M9) → va_P D vwCl (WL cy T M R) H → va_D A (WL cy T M R) → va_S A s.heap H locs → ∀ ls : Array Slot, lv_has ls 2 [(0, .ref a0), (1, .int x1)] → W p l e rm_X7_undo s m args below meth c H locs 0 0 (MQ below (QcI D cy T M9 R A r) args s 0 0 A) (F0 m 22 ls []) := by
  intro n
  induction n with
  | zero =>
    intro _ _ H locs h
    exact absurd (show (none : Option (Int32 × Mm)) = some _ from h) (by simp)
  | succ n ih => exact fun u0 u1 H locs h => bs_X7_undo_22 (a0 := a0) C ih hj66 u0 u1 H locs h
set_option maxHeartbeats 4000000 in
set_option maxRecDepth 100000 in
theorem ct_X7_undo {l : Launch} {D : va_G} {cy : Cy} {T : Ty} {R : Rm} {a0 : Nat} {M : Mm} {r : Int32} {M9 : Mm} (h : fn_X7_undo T R a0 M = some (r, M9)) : Ct QcI l yX7_undo cX7_undo 2 (some .int) rm_X7_undo D cy T M R [.ref a0] M9 R r := by
  unfold fn_X7_undo at h
  refine enter (plainFor_of_name (by decide +kernel)) (Nat.le_of_ble_eq_true rfl) (fun p e s m args below meth c A C hP hD hS ls hl => ?_)
  have hl : lv_has ls 2 [(0, .ref a0)] := hl
  obtain ⟨hx, hb, hr, hml, hown, hts, hK, hA, hlk, hSt⟩ := id C
  refine lv_aload_n hx hb dX7_undo_0 rfl (lv_at hl 0 rfl) ?_
  obtain ⟨k_32, h⟩ := chk_some h
  refine gf_7_10 C hP k_32 wl_172 dX7_undo_1 ?_
  refine lv_if_ne (tgt := 10) hx hb dX7_undo_4 (by decide) (fun c_33 => ?_) (fun c_33 => ?_)
  · replace h := ite_f h c_33
    refine lv_aload_n hx hb dX7_undo_10 rfl (lv_at hl 0 rfl) ?_
    refine lv_dup hx hb dX7_undo_11 rfl ?_
    refine gf_7_10 C hP k_32 wl_172 dX7_undo_12 ?_
    refine lv_iconst (v := 1) hx hb dX7_undo_15 (by decide) ?_
    refine lv_isub hx hb dX7_undo_16 ?_
    refine pf_7_10 C hP hD hS k_32 wl_172 dX7_undo_17 (fun M_34 H locs eM_34 hP hD hS => ?_)
    replace h := bnd_at h eM_34
    refine lv_iconst (v := 0) hx hb dX7_undo_20 (by decide) ?_
    refine lv_istore_n (lv' := [(1, .int (0 : Int32)), (0, .ref a0)]) hx hb dX7_undo_21 rfl hl (by decide) rfl (fun ls hl => ?_)
    exact (bt_X7_undo_22 C (bt_X7_undo_66 C (bt_X7_undo_100 C FU) FU) FU) _ _ _ _ h hP hD hS _ (lv_sub hl [1, 0] rfl)
  · replace h := ite_t h c_33
    refine lv_ldc (own := RX7) (v := -2000000002) hx hb hown (hts _ wl_238) dX7_undo_7 ?_
    cases h
    exact rt_i C hP hD hS dX7_undo_9
abbrev rm_X7_setAside : Room := { frames := 0, cells := 0, slots := 0, locals := 0 }
theorem hd_X7_setAside : yX7_setAside.cls = RX7 ∧ yX7_setAside.cls ≠ "java/lang/invoke/MethodHandle" ∧ yX7_setAside.cls ≠ "java/lang/invoke/VarHandle" ∧ (parseMethodDescriptor yX7_setAside.desc).map (fun d => d.parameters.length) = some 0 := ⟨rfl, by decide +kernel, by decide +kernel, by decide +kernel⟩
set_option maxHeartbeats 4000000 in
set_option maxRecDepth 100000 in
theorem bs_X7_setAside_55 {p : Program} {l : Launch} {e : Env} {s : State} {m : MethodId} {args : Array Value} {below : List Frame} {meth : Method} {c : Code} {D : va_G} {cy : Cy} {A : Nat → Prop} {T : Ty} {R : Rm} {r : Unit} {M9 : Mm} {a0 : Nat} {j55 : Int32 → Mm → Option (Unit × Mm)} (C : Cx RX7 cX7_setAside 2 none p s m args meth c D cy A)
    (hj55 : ∀ (x1 : Int32) (M : Mm) (H : Heap) (locs : List Loc), j55 x1 M = some (r, M9) → va_P D vwCl (WL cy T M R) H → va_D A (WL cy T M R) → va_S A s.heap H locs → ∀ ls : Array Slot, lv_has ls 2 [(0, .ref a0), (1, .int x1)] → W p l e rm_X7_setAside s m args below meth c H locs 0 0 (MQ below (QcV D cy T M9 R A r) args s 0 0 A) (F0 m 55 ls [])) :
    ∀ (x1 : Int32) (M : Mm) (H : Heap) (locs : List Loc), fs_X7_setAside_55 T R a0 j55 x1 M = some (r, M9) → va_P D vwCl (WL cy T M R) H → va_D A (WL cy T M R) → va_S A s.heap H locs → ∀ ls : Array Slot, lv_has ls 2 [(0, .ref a0), (1, .int x1)] → W p l e rm_X7_setAside s m args below meth c H locs 0 0 (MQ below (QcV D cy T M9 R A r) args s 0 0 A) (F0 m 55 ls []) := by
  intro x1 M H locs h hP hD hS ls hl
  unfold fs_X7_setAside_55 at h
  obtain ⟨hx, hb, hr, hml, hown, hts, hK, hA, hlk, hSt⟩ := id C
  refine lv_iload_n hx hb dX7_setAside_55 rfl (lv_at hl 1 rfl) ?_
  refine lv_iconst (v := 4) hx hb dX7_setAside_56 (by decide) ?_
  refine lv_icmp_ge (tgt := 78) hx hb dX7_setAside_57 (by decide) (fun c_1 => ?_) (fun c_1 => ?_)
  · replace h := ite_t h c_1
    cases h
    exact rt_v C hP hD hS dX7_setAside_78
  · replace h := ite_f h c_1
    refine lv_aload_n hx hb dX7_setAside_60 rfl (lv_at hl 0 rfl) ?_
    obtain ⟨k_2, h⟩ := chk_some h
    obtain ⟨b_3, eb_3, h⟩ := rfm_some h
    refine gf_7_5 C hP k_2 eb_3 wl_106 dX7_setAside_61 ?_
    refine lv_iload_n hx hb dX7_setAside_64 rfl (lv_at hl 1 rfl) ?_
    refine lv_aload_n hx hb dX7_setAside_65 rfl (lv_at hl 0 rfl) ?_
    obtain ⟨b_4, eb_4, h⟩ := rfm_some h
    refine gf_7_2 C hP k_2 eb_4 wl_103 dX7_setAside_66 ?_
    refine lv_iload_n hx hb dX7_setAside_69 rfl (lv_at hl 1 rfl) ?_
    obtain ⟨k_5, h⟩ := chk_some h
    obtain ⟨k_6, h⟩ := chk_some h
    refine ar_10 C hP k_5 k_6 dX7_setAside_70 ?_
    obtain ⟨k_7, h⟩ := chk_some h
    obtain ⟨k_8, h⟩ := chk_some h
    refine aw_10 C hP hD hS k_7 k_8 dX7_setAside_71 (fun M_9 H locs eM_9 hP hD hS => ?_)
    replace h := bnd_at h eM_9
    obtain ⟨v_10, ev_10⟩ : ∃ y : Int32, y = (x1 + (1 : Int32)) := ⟨_, rfl⟩
    replace h := bnd_at h ev_10
    refine lv_iinc (v := v_10) (lv' := [(1, .int v_10), (0, .ref a0)]) hx hb dX7_setAside_72 hl (k := 1) rfl (by rw [ev_10]; rfl) (by decide) rfl (fun ls hl => ?_)
    refine lv_goto (tgt := 55) hx hb dX7_setAside_75 (by decide) ?_
    exact hj55 _ _ _ _ h hP hD hS _ (lv_sub hl [1, 0] rfl)
theorem bt_X7_setAside_55 {p : Program} {l : Launch} {e : Env} {s : State} {m : MethodId} {args : Array Value} {below : List Frame} {meth : Method} {c : Code} {D : va_G} {cy : Cy} {A : Nat → Prop} {T : Ty} {R : Rm} {r : Unit} {M9 : Mm} {a0 : Nat} (C : Cx RX7 cX7_setAside 2 none p s m args meth c D cy A) :
    ∀ n : Nat, ∀ (x1 : Int32) (M : Mm) (H : Heap) (locs : List Loc), fb_X7_setAside_55 T R a0 n x1 M = some (r, M9) → va_P D vwCl (WL cy T M R) H → va_D A (WL cy T M R) → va_S A s.heap H locs → ∀ ls : Array Slot, lv_has ls 2 [(0, .ref a0), (1, .int x1)] → W p l e rm_X7_setAside s m args below meth c H locs 0 0 (MQ below (QcV D cy T M9 R A r) args s 0 0 A) (F0 m 55 ls []) := by
  intro n
  induction n with
  | zero =>
    intro _ _ H locs h
    exact absurd (show (none : Option (Unit × Mm)) = some _ from h) (by simp)
  | succ n ih => exact fun u0 u1 H locs h => bs_X7_setAside_55 (a0 := a0) C ih u0 u1 H locs h
set_option maxHeartbeats 4000000 in
set_option maxRecDepth 100000 in
theorem bs_X7_setAside_29 {p : Program} {l : Launch} {e : Env} {s : State} {m : MethodId} {args : Array Value} {below : List Frame} {meth : Method} {c : Code} {D : va_G} {cy : Cy} {A : Nat → Prop} {T : Ty} {R : Rm} {r : Unit} {M9 : Mm} {a0 : Nat} {j29 : Int32 → Mm → Option (Unit × Mm)} {j55 : Int32 → Mm → Option (Unit × Mm)} (C : Cx RX7 cX7_setAside 2 none p s m args meth c D cy A)
    (hj29 : ∀ (x1 : Int32) (M : Mm) (H : Heap) (locs : List Loc), j29 x1 M = some (r, M9) → va_P D vwCl (WL cy T M R) H → va_D A (WL cy T M R) → va_S A s.heap H locs → ∀ ls : Array Slot, lv_has ls 2 [(0, .ref a0), (1, .int x1)] → W p l e rm_X7_setAside s m args below meth c H locs 0 0 (MQ below (QcV D cy T M9 R A r) args s 0 0 A) (F0 m 29 ls []))
    (hj55 : ∀ (x1 : Int32) (M : Mm) (H : Heap) (locs : List Loc), j55 x1 M = some (r, M9) → va_P D vwCl (WL cy T M R) H → va_D A (WL cy T M R) → va_S A s.heap H locs → ∀ ls : Array Slot, lv_has ls 2 [(0, .ref a0), (1, .int x1)] → W p l e rm_X7_setAside s m args below meth c H locs 0 0 (MQ below (QcV D cy T M9 R A r) args s 0 0 A) (F0 m 55 ls [])) :
    ∀ (x1 : Int32) (M : Mm) (H : Heap) (locs : List Loc), fs_X7_setAside_29 T R a0 j29 j55 x1 M = some (r, M9) → va_P D vwCl (WL cy T M R) H → va_D A (WL cy T M R) → va_S A s.heap H locs → ∀ ls : Array Slot, lv_has ls 2 [(0, .ref a0), (1, .int x1)] → W p l e rm_X7_setAside s m args below meth c H locs 0 0 (MQ below (QcV D cy T M9 R A r) args s 0 0 A) (F0 m 29 ls []) := by
  intro x1 M H locs h hP hD hS ls hl
  unfold fs_X7_setAside_29 at h
  obtain ⟨hx, hb, hr, hml, hown, hts, hK, hA, hlk, hSt⟩ := id C
  refine lv_iload_n hx hb dX7_setAside_29 rfl (lv_at hl 1 rfl) ?_
  refine lv_bipush (v := 110) hx hb dX7_setAside_30 (by decide) ?_
  refine lv_icmp_ge (tgt := 53) hx hb dX7_setAside_32 (by decide) (fun c_11 => ?_) (fun c_11 => ?_)
  · replace h := ite_t h c_11
    refine lv_iconst (v := 0) hx hb dX7_setAside_53 (by decide) ?_
    refine lv_istore_n (lv' := [(1, .int (0 : Int32)), (0, .ref a0)]) hx hb dX7_setAside_54 rfl hl (by decide) rfl (fun ls hl => ?_)
    exact hj55 _ _ _ _ h hP hD hS _ (lv_sub hl [1, 0] rfl)
  · replace h := ite_f h c_11
    refine lv_aload_n hx hb dX7_setAside_35 rfl (lv_at hl 0 rfl) ?_
    obtain ⟨k_12, h⟩ := chk_some h
    obtain ⟨b_13, eb_13, h⟩ := rfm_some h
    refine gf_7_3 C hP k_12 eb_13 wl_104 dX7_setAside_36 ?_
    refine lv_iload_n hx hb dX7_setAside_39 rfl (lv_at hl 1 rfl) ?_
    refine lv_aload_n hx hb dX7_setAside_40 rfl (lv_at hl 0 rfl) ?_
    obtain ⟨b_14, eb_14, h⟩ := rfm_some h
    refine gf_7_0 C hP k_12 eb_14 wl_100 dX7_setAside_41 ?_
    refine lv_iload_n hx hb dX7_setAside_44 rfl (lv_at hl 1 rfl) ?_
    obtain ⟨k_15, h⟩ := chk_some h
    obtain ⟨k_16, h⟩ := chk_some h
    refine ar_9 C hP k_15 k_16 dX7_setAside_45 ?_
    obtain ⟨k_17, h⟩ := chk_some h
    obtain ⟨k_18, h⟩ := chk_some h
    refine aw_9 C hP hD hS k_17 k_18 dX7_setAside_46 (fun M_19 H locs eM_19 hP hD hS => ?_)
    replace h := bnd_at h eM_19
    obtain ⟨v_20, ev_20⟩ : ∃ y : Int32, y = (x1 + (1 : Int32)) := ⟨_, rfl⟩
    replace h := bnd_at h ev_20
    refine lv_iinc (v := v_20) (lv' := [(1, .int v_20), (0, .ref a0)]) hx hb dX7_setAside_47 hl (k := 1) rfl (by rw [ev_20]; rfl) (by decide) rfl (fun ls hl => ?_)
    refine lv_goto (tgt := 29) hx hb dX7_setAside_50 (by decide) ?_
    exact hj29 _ _ _ _ h hP hD hS _ (lv_sub hl [1, 0] rfl)
theorem bt_X7_setAside_29 {p : Program} {l : Launch} {e : Env} {s : State} {m : MethodId} {args : Array Value} {below : List Frame} {meth : Method} {c : Code} {D : va_G} {cy : Cy} {A : Nat → Prop} {T : Ty} {R : Rm} {r : Unit} {M9 : Mm} {a0 : Nat} {j55 : Int32 → Mm → Option (Unit × Mm)} (C : Cx RX7 cX7_setAside 2 none p s m args meth c D cy A)
    (hj55 : ∀ (x1 : Int32) (M : Mm) (H : Heap) (locs : List Loc), j55 x1 M = some (r, M9) → va_P D vwCl (WL cy T M R) H → va_D A (WL cy T M R) → va_S A s.heap H locs → ∀ ls : Array Slot, lv_has ls 2 [(0, .ref a0), (1, .int x1)] → W p l e rm_X7_setAside s m args below meth c H locs 0 0 (MQ below (QcV D cy T M9 R A r) args s 0 0 A) (F0 m 55 ls [])) :
    ∀ n : Nat, ∀ (x1 : Int32) (M : Mm) (H : Heap) (locs : List Loc), fb_X7_setAside_29 T R a0 j55 n x1 M = some (r, M9) → va_P D vwCl (WL cy T M R) H → va_D A (WL cy T M R) → va_S A s.heap H locs → ∀ ls : Array Slot, lv_has ls 2 [(0, .ref a0), (1, .int x1)] → W p l e rm_X7_setAside s m args below meth c H locs 0 0 (MQ below (QcV D cy T M9 R A r) args s 0 0 A) (F0 m 29 ls []) := by
  intro n
  induction n with
  | zero =>
    intro _ _ H locs h
    exact absurd (show (none : Option (Unit × Mm)) = some _ from h) (by simp)
  | succ n ih => exact fun u0 u1 H locs h => bs_X7_setAside_29 (a0 := a0) C ih hj55 u0 u1 H locs h
set_option maxHeartbeats 4000000 in
set_option maxRecDepth 100000 in
theorem bs_X7_setAside_2 {p : Program} {l : Launch} {e : Env} {s : State} {m : MethodId} {args : Array Value} {below : List Frame} {meth : Method} {c : Code} {D : va_G} {cy : Cy} {A : Nat → Prop} {T : Ty} {R : Rm} {r : Unit} {M9 : Mm} {a0 : Nat} {j2 : Int32 → Mm → Option (Unit × Mm)} {j29 : Int32 → Mm → Option (Unit × Mm)} (C : Cx RX7 cX7_setAside 2 none p s m args meth c D cy A)
    (hj2 : ∀ (x1 : Int32) (M : Mm) (H : Heap) (locs : List Loc), j2 x1 M = some (r, M9) → va_P D vwCl (WL cy T M R) H → va_D A (WL cy T M R) → va_S A s.heap H locs → ∀ ls : Array Slot, lv_has ls 2 [(0, .ref a0), (1, .int x1)] → W p l e rm_X7_setAside s m args below meth c H locs 0 0 (MQ below (QcV D cy T M9 R A r) args s 0 0 A) (F0 m 2 ls []))
    (hj29 : ∀ (x1 : Int32) (M : Mm) (H : Heap) (locs : List Loc), j29 x1 M = some (r, M9) → va_P D vwCl (WL cy T M R) H → va_D A (WL cy T M R) → va_S A s.heap H locs → ∀ ls : Array Slot, lv_has ls 2 [(0, .ref a0), (1, .int x1)] → W p l e rm_X7_setAside s m args below meth c H locs 0 0 (MQ below (QcV D cy T M9 R A r) args s 0 0 A) (F0 m 29 ls [])) :
    ∀ (x1 : Int32) (M : Mm) (H : Heap) (locs : List Loc), fs_X7_setAside_2 T R a0 j2 j29 x1 M = some (r, M9) → va_P D vwCl (WL cy T M R) H → va_D A (WL cy T M R) → va_S A s.heap H locs → ∀ ls : Array Slot, lv_has ls 2 [(0, .ref a0), (1, .int x1)] → W p l e rm_X7_setAside s m args below meth c H locs 0 0 (MQ below (QcV D cy T M9 R A r) args s 0 0 A) (F0 m 2 ls []) := by
  intro x1 M H locs h hP hD hS ls hl
  unfold fs_X7_setAside_2 at h
  obtain ⟨hx, hb, hr, hml, hown, hts, hK, hA, hlk, hSt⟩ := id C
  refine lv_iload_n hx hb dX7_setAside_2 rfl (lv_at hl 1 rfl) ?_
  refine lv_sipush (v := 8010) hx hb dX7_setAside_3 (by decide) ?_
  refine lv_icmp_ge (tgt := 27) hx hb dX7_setAside_6 (by decide) (fun c_21 => ?_) (fun c_21 => ?_)
  · replace h := ite_t h c_21
    refine lv_iconst (v := 0) hx hb dX7_setAside_27 (by decide) ?_
    refine lv_istore_n (lv' := [(1, .int (0 : Int32)), (0, .ref a0)]) hx hb dX7_setAside_28 rfl hl (by decide) rfl (fun ls hl => ?_)
    exact hj29 _ _ _ _ h hP hD hS _ (lv_sub hl [1, 0] rfl)
  · replace h := ite_f h c_21
    refine lv_aload_n hx hb dX7_setAside_9 rfl (lv_at hl 0 rfl) ?_
    obtain ⟨k_22, h⟩ := chk_some h
    obtain ⟨b_23, eb_23, h⟩ := rfm_some h
    refine gf_7_4 C hP k_22 eb_23 wl_105 dX7_setAside_10 ?_
    refine lv_iload_n hx hb dX7_setAside_13 rfl (lv_at hl 1 rfl) ?_
    refine lv_aload_n hx hb dX7_setAside_14 rfl (lv_at hl 0 rfl) ?_
    obtain ⟨b_24, eb_24, h⟩ := rfm_some h
    refine gf_7_1 C hP k_22 eb_24 wl_101 dX7_setAside_15 ?_
    refine lv_iload_n hx hb dX7_setAside_18 rfl (lv_at hl 1 rfl) ?_
    obtain ⟨k_25, h⟩ := chk_some h
    obtain ⟨k_26, h⟩ := chk_some h
    refine ar_9 C hP k_25 k_26 dX7_setAside_19 ?_
    obtain ⟨k_27, h⟩ := chk_some h
    obtain ⟨k_28, h⟩ := chk_some h
    refine aw_9 C hP hD hS k_27 k_28 dX7_setAside_20 (fun M_29 H locs eM_29 hP hD hS => ?_)
    replace h := bnd_at h eM_29
    obtain ⟨v_30, ev_30⟩ : ∃ y : Int32, y = (x1 + (1 : Int32)) := ⟨_, rfl⟩
    replace h := bnd_at h ev_30
    refine lv_iinc (v := v_30) (lv' := [(1, .int v_30), (0, .ref a0)]) hx hb dX7_setAside_21 hl (k := 1) rfl (by rw [ev_30]; rfl) (by decide) rfl (fun ls hl => ?_)
    refine lv_goto (tgt := 2) hx hb dX7_setAside_24 (by decide) ?_
    exact hj2 _ _ _ _ h hP hD hS _ (lv_sub hl [1, 0] rfl)
theorem bt_X7_setAside_2 {p : Program} {l : Launch} {e : Env} {s : State} {m : MethodId} {args : Array Value} {below : List Frame} {meth : Method} {c : Code} {D : va_G} {cy : Cy} {A : Nat → Prop} {T : Ty} {R : Rm} {r : Unit} {M9 : Mm} {a0 : Nat} {j29 : Int32 → Mm → Option (Unit × Mm)} (C : Cx RX7 cX7_setAside 2 none p s m args meth c D cy A)
    (hj29 : ∀ (x1 : Int32) (M : Mm) (H : Heap) (locs : List Loc), j29 x1 M = some (r, M9) → va_P D vwCl (WL cy T M R) H → va_D A (WL cy T M R) → va_S A s.heap H locs → ∀ ls : Array Slot, lv_has ls 2 [(0, .ref a0), (1, .int x1)] → W p l e rm_X7_setAside s m args below meth c H locs 0 0 (MQ below (QcV D cy T M9 R A r) args s 0 0 A) (F0 m 29 ls [])) :
    ∀ n : Nat, ∀ (x1 : Int32) (M : Mm) (H : Heap) (locs : List Loc), fb_X7_setAside_2 T R a0 j29 n x1 M = some (r, M9) → va_P D vwCl (WL cy T M R) H → va_D A (WL cy T M R) → va_S A s.heap H locs → ∀ ls : Array Slot, lv_has ls 2 [(0, .ref a0), (1, .int x1)] → W p l e rm_X7_setAside s m args below meth c H locs 0 0 (MQ below (QcV D cy T M9 R A r) args s 0 0 A) (F0 m 2 ls []) := by
  intro n
  induction n with
  | zero =>
    intro _ _ H locs h
    exact absurd (show (none : Option (Unit × Mm)) = some _ from h) (by simp)
  | succ n ih => exact fun u0 u1 H locs h => bs_X7_setAside_2 (a0 := a0) C ih hj29 u0 u1 H locs h
set_option maxHeartbeats 4000000 in
set_option maxRecDepth 100000 in
theorem ct_X7_setAside {l : Launch} {D : va_G} {cy : Cy} {T : Ty} {R : Rm} {a0 : Nat} {M : Mm} {r : Unit} {M9 : Mm} (h : fn_X7_setAside T R a0 M = some (r, M9)) : Ct QcV l yX7_setAside cX7_setAside 2 none rm_X7_setAside D cy T M R [.ref a0] M9 R r := by
  unfold fn_X7_setAside at h
  refine enter (plainFor_of_name (by decide +kernel)) (Nat.le_of_ble_eq_true rfl) (fun p e s m args below meth c A C hP hD hS ls hl => ?_)
  have hl : lv_has ls 2 [(0, .ref a0)] := hl
  obtain ⟨hx, hb, hr, hml, hown, hts, hK, hA, hlk, hSt⟩ := id C
  refine lv_iconst (v := 0) hx hb dX7_setAside_0 (by decide) ?_
  refine lv_istore_n (lv' := [(1, .int (0 : Int32)), (0, .ref a0)]) hx hb dX7_setAside_1 rfl hl (by decide) rfl (fun ls hl => ?_)
  exact (bt_X7_setAside_2 C (bt_X7_setAside_29 C (bt_X7_setAside_55 C FU) FU) FU) _ _ _ _ h hP hD hS _ (lv_sub hl [1, 0] rfl)
abbrev rm_X7_bringBack : Room := { frames := 0, cells := 0, slots := 0, locals := 0 }
theorem hd_X7_bringBack : yX7_bringBack.cls = RX7 ∧ yX7_bringBack.cls ≠ "java/lang/invoke/MethodHandle" ∧ yX7_bringBack.cls ≠ "java/lang/invoke/VarHandle" ∧ (parseMethodDescriptor yX7_bringBack.desc).map (fun d => d.parameters.length) = some 0 := ⟨rfl, by decide +kernel, by decide +kernel, by decide +kernel⟩
set_option maxHeartbeats 4000000 in
set_option maxRecDepth 100000 in
theorem bs_X7_bringBack_55 {p : Program} {l : Launch} {e : Env} {s : State} {m : MethodId} {args : Array Value} {below : List Frame} {meth : Method} {c : Code} {D : va_G} {cy : Cy} {A : Nat → Prop} {T : Ty} {R : Rm} {r : Unit} {M9 : Mm} {a0 : Nat} {j55 : Int32 → Mm → Option (Unit × Mm)} (C : Cx RX7 cX7_bringBack 2 none p s m args meth c D cy A)
    (hj55 : ∀ (x1 : Int32) (M : Mm) (H : Heap) (locs : List Loc), j55 x1 M = some (r, M9) → va_P D vwCl (WL cy T M R) H → va_D A (WL cy T M R) → va_S A s.heap H locs → ∀ ls : Array Slot, lv_has ls 2 [(0, .ref a0), (1, .int x1)] → W p l e rm_X7_bringBack s m args below meth c H locs 0 0 (MQ below (QcV D cy T M9 R A r) args s 0 0 A) (F0 m 55 ls [])) :
    ∀ (x1 : Int32) (M : Mm) (H : Heap) (locs : List Loc), fs_X7_bringBack_55 T R a0 j55 x1 M = some (r, M9) → va_P D vwCl (WL cy T M R) H → va_D A (WL cy T M R) → va_S A s.heap H locs → ∀ ls : Array Slot, lv_has ls 2 [(0, .ref a0), (1, .int x1)] → W p l e rm_X7_bringBack s m args below meth c H locs 0 0 (MQ below (QcV D cy T M9 R A r) args s 0 0 A) (F0 m 55 ls []) := by
  intro x1 M H locs h hP hD hS ls hl
  unfold fs_X7_bringBack_55 at h
  obtain ⟨hx, hb, hr, hml, hown, hts, hK, hA, hlk, hSt⟩ := id C
  refine lv_iload_n hx hb dX7_bringBack_55 rfl (lv_at hl 1 rfl) ?_
  refine lv_iconst (v := 4) hx hb dX7_bringBack_56 (by decide) ?_
  refine lv_icmp_ge (tgt := 78) hx hb dX7_bringBack_57 (by decide) (fun c_1 => ?_) (fun c_1 => ?_)
  · replace h := ite_t h c_1
    cases h
    exact rt_v C hP hD hS dX7_bringBack_78
  · replace h := ite_f h c_1
    refine lv_aload_n hx hb dX7_bringBack_60 rfl (lv_at hl 0 rfl) ?_
    obtain ⟨k_2, h⟩ := chk_some h
    obtain ⟨b_3, eb_3, h⟩ := rfm_some h
    refine gf_7_2 C hP k_2 eb_3 wl_103 dX7_bringBack_61 ?_
    refine lv_iload_n hx hb dX7_bringBack_64 rfl (lv_at hl 1 rfl) ?_
    refine lv_aload_n hx hb dX7_bringBack_65 rfl (lv_at hl 0 rfl) ?_
    obtain ⟨b_4, eb_4, h⟩ := rfm_some h
    refine gf_7_5 C hP k_2 eb_4 wl_106 dX7_bringBack_66 ?_
    refine lv_iload_n hx hb dX7_bringBack_69 rfl (lv_at hl 1 rfl) ?_
    obtain ⟨k_5, h⟩ := chk_some h
    obtain ⟨k_6, h⟩ := chk_some h
    refine ar_10 C hP k_5 k_6 dX7_bringBack_70 ?_
    obtain ⟨k_7, h⟩ := chk_some h
    obtain ⟨k_8, h⟩ := chk_some h
    refine aw_10 C hP hD hS k_7 k_8 dX7_bringBack_71 (fun M_9 H locs eM_9 hP hD hS => ?_)
    replace h := bnd_at h eM_9
    obtain ⟨v_10, ev_10⟩ : ∃ y : Int32, y = (x1 + (1 : Int32)) := ⟨_, rfl⟩
    replace h := bnd_at h ev_10
    refine lv_iinc (v := v_10) (lv' := [(1, .int v_10), (0, .ref a0)]) hx hb dX7_bringBack_72 hl (k := 1) rfl (by rw [ev_10]; rfl) (by decide) rfl (fun ls hl => ?_)
    refine lv_goto (tgt := 55) hx hb dX7_bringBack_75 (by decide) ?_
    exact hj55 _ _ _ _ h hP hD hS _ (lv_sub hl [1, 0] rfl)
theorem bt_X7_bringBack_55 {p : Program} {l : Launch} {e : Env} {s : State} {m : MethodId} {args : Array Value} {below : List Frame} {meth : Method} {c : Code} {D : va_G} {cy : Cy} {A : Nat → Prop} {T : Ty} {R : Rm} {r : Unit} {M9 : Mm} {a0 : Nat} (C : Cx RX7 cX7_bringBack 2 none p s m args meth c D cy A) :
    ∀ n : Nat, ∀ (x1 : Int32) (M : Mm) (H : Heap) (locs : List Loc), fb_X7_bringBack_55 T R a0 n x1 M = some (r, M9) → va_P D vwCl (WL cy T M R) H → va_D A (WL cy T M R) → va_S A s.heap H locs → ∀ ls : Array Slot, lv_has ls 2 [(0, .ref a0), (1, .int x1)] → W p l e rm_X7_bringBack s m args below meth c H locs 0 0 (MQ below (QcV D cy T M9 R A r) args s 0 0 A) (F0 m 55 ls []) := by
  intro n
  induction n with
  | zero =>
    intro _ _ H locs h
    exact absurd (show (none : Option (Unit × Mm)) = some _ from h) (by simp)
  | succ n ih => exact fun u0 u1 H locs h => bs_X7_bringBack_55 (a0 := a0) C ih u0 u1 H locs h
set_option maxHeartbeats 4000000 in
set_option maxRecDepth 100000 in
theorem bs_X7_bringBack_29 {p : Program} {l : Launch} {e : Env} {s : State} {m : MethodId} {args : Array Value} {below : List Frame} {meth : Method} {c : Code} {D : va_G} {cy : Cy} {A : Nat → Prop} {T : Ty} {R : Rm} {r : Unit} {M9 : Mm} {a0 : Nat} {j29 : Int32 → Mm → Option (Unit × Mm)} {j55 : Int32 → Mm → Option (Unit × Mm)} (C : Cx RX7 cX7_bringBack 2 none p s m args meth c D cy A)
    (hj29 : ∀ (x1 : Int32) (M : Mm) (H : Heap) (locs : List Loc), j29 x1 M = some (r, M9) → va_P D vwCl (WL cy T M R) H → va_D A (WL cy T M R) → va_S A s.heap H locs → ∀ ls : Array Slot, lv_has ls 2 [(0, .ref a0), (1, .int x1)] → W p l e rm_X7_bringBack s m args below meth c H locs 0 0 (MQ below (QcV D cy T M9 R A r) args s 0 0 A) (F0 m 29 ls []))
    (hj55 : ∀ (x1 : Int32) (M : Mm) (H : Heap) (locs : List Loc), j55 x1 M = some (r, M9) → va_P D vwCl (WL cy T M R) H → va_D A (WL cy T M R) → va_S A s.heap H locs → ∀ ls : Array Slot, lv_has ls 2 [(0, .ref a0), (1, .int x1)] → W p l e rm_X7_bringBack s m args below meth c H locs 0 0 (MQ below (QcV D cy T M9 R A r) args s 0 0 A) (F0 m 55 ls [])) :
    ∀ (x1 : Int32) (M : Mm) (H : Heap) (locs : List Loc), fs_X7_bringBack_29 T R a0 j29 j55 x1 M = some (r, M9) → va_P D vwCl (WL cy T M R) H → va_D A (WL cy T M R) → va_S A s.heap H locs → ∀ ls : Array Slot, lv_has ls 2 [(0, .ref a0), (1, .int x1)] → W p l e rm_X7_bringBack s m args below meth c H locs 0 0 (MQ below (QcV D cy T M9 R A r) args s 0 0 A) (F0 m 29 ls []) := by
  intro x1 M H locs h hP hD hS ls hl
  unfold fs_X7_bringBack_29 at h
  obtain ⟨hx, hb, hr, hml, hown, hts, hK, hA, hlk, hSt⟩ := id C
  refine lv_iload_n hx hb dX7_bringBack_29 rfl (lv_at hl 1 rfl) ?_
  refine lv_bipush (v := 110) hx hb dX7_bringBack_30 (by decide) ?_
  refine lv_icmp_ge (tgt := 53) hx hb dX7_bringBack_32 (by decide) (fun c_11 => ?_) (fun c_11 => ?_)
  · replace h := ite_t h c_11
    refine lv_iconst (v := 0) hx hb dX7_bringBack_53 (by decide) ?_
    refine lv_istore_n (lv' := [(1, .int (0 : Int32)), (0, .ref a0)]) hx hb dX7_bringBack_54 rfl hl (by decide) rfl (fun ls hl => ?_)
    exact hj55 _ _ _ _ h hP hD hS _ (lv_sub hl [1, 0] rfl)
  · replace h := ite_f h c_11
    refine lv_aload_n hx hb dX7_bringBack_35 rfl (lv_at hl 0 rfl) ?_
    obtain ⟨k_12, h⟩ := chk_some h
    obtain ⟨b_13, eb_13, h⟩ := rfm_some h
    refine gf_7_0 C hP k_12 eb_13 wl_100 dX7_bringBack_36 ?_
    refine lv_iload_n hx hb dX7_bringBack_39 rfl (lv_at hl 1 rfl) ?_
    refine lv_aload_n hx hb dX7_bringBack_40 rfl (lv_at hl 0 rfl) ?_
    obtain ⟨b_14, eb_14, h⟩ := rfm_some h
    refine gf_7_3 C hP k_12 eb_14 wl_104 dX7_bringBack_41 ?_
    refine lv_iload_n hx hb dX7_bringBack_44 rfl (lv_at hl 1 rfl) ?_
    obtain ⟨k_15, h⟩ := chk_some h
    obtain ⟨k_16, h⟩ := chk_some h
    refine ar_9 C hP k_15 k_16 dX7_bringBack_45 ?_
    obtain ⟨k_17, h⟩ := chk_some h
    obtain ⟨k_18, h⟩ := chk_some h
    refine aw_9 C hP hD hS k_17 k_18 dX7_bringBack_46 (fun M_19 H locs eM_19 hP hD hS => ?_)
    replace h := bnd_at h eM_19
    obtain ⟨v_20, ev_20⟩ : ∃ y : Int32, y = (x1 + (1 : Int32)) := ⟨_, rfl⟩
    replace h := bnd_at h ev_20
    refine lv_iinc (v := v_20) (lv' := [(1, .int v_20), (0, .ref a0)]) hx hb dX7_bringBack_47 hl (k := 1) rfl (by rw [ev_20]; rfl) (by decide) rfl (fun ls hl => ?_)
    refine lv_goto (tgt := 29) hx hb dX7_bringBack_50 (by decide) ?_
    exact hj29 _ _ _ _ h hP hD hS _ (lv_sub hl [1, 0] rfl)
theorem bt_X7_bringBack_29 {p : Program} {l : Launch} {e : Env} {s : State} {m : MethodId} {args : Array Value} {below : List Frame} {meth : Method} {c : Code} {D : va_G} {cy : Cy} {A : Nat → Prop} {T : Ty} {R : Rm} {r : Unit} {M9 : Mm} {a0 : Nat} {j55 : Int32 → Mm → Option (Unit × Mm)} (C : Cx RX7 cX7_bringBack 2 none p s m args meth c D cy A)
    (hj55 : ∀ (x1 : Int32) (M : Mm) (H : Heap) (locs : List Loc), j55 x1 M = some (r, M9) → va_P D vwCl (WL cy T M R) H → va_D A (WL cy T M R) → va_S A s.heap H locs → ∀ ls : Array Slot, lv_has ls 2 [(0, .ref a0), (1, .int x1)] → W p l e rm_X7_bringBack s m args below meth c H locs 0 0 (MQ below (QcV D cy T M9 R A r) args s 0 0 A) (F0 m 55 ls [])) :
    ∀ n : Nat, ∀ (x1 : Int32) (M : Mm) (H : Heap) (locs : List Loc), fb_X7_bringBack_29 T R a0 j55 n x1 M = some (r, M9) → va_P D vwCl (WL cy T M R) H → va_D A (WL cy T M R) → va_S A s.heap H locs → ∀ ls : Array Slot, lv_has ls 2 [(0, .ref a0), (1, .int x1)] → W p l e rm_X7_bringBack s m args below meth c H locs 0 0 (MQ below (QcV D cy T M9 R A r) args s 0 0 A) (F0 m 29 ls []) := by
  intro n
  induction n with
  | zero =>
    intro _ _ H locs h
    exact absurd (show (none : Option (Unit × Mm)) = some _ from h) (by simp)
  | succ n ih => exact fun u0 u1 H locs h => bs_X7_bringBack_29 (a0 := a0) C ih hj55 u0 u1 H locs h
set_option maxHeartbeats 4000000 in
set_option maxRecDepth 100000 in
theorem bs_X7_bringBack_2 {p : Program} {l : Launch} {e : Env} {s : State} {m : MethodId} {args : Array Value} {below : List Frame} {meth : Method} {c : Code} {D : va_G} {cy : Cy} {A : Nat → Prop} {T : Ty} {R : Rm} {r : Unit} {M9 : Mm} {a0 : Nat} {j2 : Int32 → Mm → Option (Unit × Mm)} {j29 : Int32 → Mm → Option (Unit × Mm)} (C : Cx RX7 cX7_bringBack 2 none p s m args meth c D cy A)
    (hj2 : ∀ (x1 : Int32) (M : Mm) (H : Heap) (locs : List Loc), j2 x1 M = some (r, M9) → va_P D vwCl (WL cy T M R) H → va_D A (WL cy T M R) → va_S A s.heap H locs → ∀ ls : Array Slot, lv_has ls 2 [(0, .ref a0), (1, .int x1)] → W p l e rm_X7_bringBack s m args below meth c H locs 0 0 (MQ below (QcV D cy T M9 R A r) args s 0 0 A) (F0 m 2 ls []))
    (hj29 : ∀ (x1 : Int32) (M : Mm) (H : Heap) (locs : List Loc), j29 x1 M = some (r, M9) → va_P D vwCl (WL cy T M R) H → va_D A (WL cy T M R) → va_S A s.heap H locs → ∀ ls : Array Slot, lv_has ls 2 [(0, .ref a0), (1, .int x1)] → W p l e rm_X7_bringBack s m args below meth c H locs 0 0 (MQ below (QcV D cy T M9 R A r) args s 0 0 A) (F0 m 29 ls [])) :
    ∀ (x1 : Int32) (M : Mm) (H : Heap) (locs : List Loc), fs_X7_bringBack_2 T R a0 j2 j29 x1 M = some (r, M9) → va_P D vwCl (WL cy T M R) H → va_D A (WL cy T M R) → va_S A s.heap H locs → ∀ ls : Array Slot, lv_has ls 2 [(0, .ref a0), (1, .int x1)] → W p l e rm_X7_bringBack s m args below meth c H locs 0 0 (MQ below (QcV D cy T M9 R A r) args s 0 0 A) (F0 m 2 ls []) := by
  intro x1 M H locs h hP hD hS ls hl
  unfold fs_X7_bringBack_2 at h
  obtain ⟨hx, hb, hr, hml, hown, hts, hK, hA, hlk, hSt⟩ := id C
  refine lv_iload_n hx hb dX7_bringBack_2 rfl (lv_at hl 1 rfl) ?_
  refine lv_sipush (v := 8010) hx hb dX7_bringBack_3 (by decide) ?_
  refine lv_icmp_ge (tgt := 27) hx hb dX7_bringBack_6 (by decide) (fun c_21 => ?_) (fun c_21 => ?_)
  · replace h := ite_t h c_21
    refine lv_iconst (v := 0) hx hb dX7_bringBack_27 (by decide) ?_
    refine lv_istore_n (lv' := [(1, .int (0 : Int32)), (0, .ref a0)]) hx hb dX7_bringBack_28 rfl hl (by decide) rfl (fun ls hl => ?_)
    exact hj29 _ _ _ _ h hP hD hS _ (lv_sub hl [1, 0] rfl)
  · replace h := ite_f h c_21
    refine lv_aload_n hx hb dX7_bringBack_9 rfl (lv_at hl 0 rfl) ?_
    obtain ⟨k_22, h⟩ := chk_some h
    obtain ⟨b_23, eb_23, h⟩ := rfm_some h
    refine gf_7_1 C hP k_22 eb_23 wl_101 dX7_bringBack_10 ?_
    refine lv_iload_n hx hb dX7_bringBack_13 rfl (lv_at hl 1 rfl) ?_
    refine lv_aload_n hx hb dX7_bringBack_14 rfl (lv_at hl 0 rfl) ?_
    obtain ⟨b_24, eb_24, h⟩ := rfm_some h
    refine gf_7_4 C hP k_22 eb_24 wl_105 dX7_bringBack_15 ?_
    refine lv_iload_n hx hb dX7_bringBack_18 rfl (lv_at hl 1 rfl) ?_
    obtain ⟨k_25, h⟩ := chk_some h
    obtain ⟨k_26, h⟩ := chk_some h
    refine ar_9 C hP k_25 k_26 dX7_bringBack_19 ?_
    obtain ⟨k_27, h⟩ := chk_some h
    obtain ⟨k_28, h⟩ := chk_some h
    refine aw_9 C hP hD hS k_27 k_28 dX7_bringBack_20 (fun M_29 H locs eM_29 hP hD hS => ?_)
    replace h := bnd_at h eM_29
    obtain ⟨v_30, ev_30⟩ : ∃ y : Int32, y = (x1 + (1 : Int32)) := ⟨_, rfl⟩
    replace h := bnd_at h ev_30
    refine lv_iinc (v := v_30) (lv' := [(1, .int v_30), (0, .ref a0)]) hx hb dX7_bringBack_21 hl (k := 1) rfl (by rw [ev_30]; rfl) (by decide) rfl (fun ls hl => ?_)
    refine lv_goto (tgt := 2) hx hb dX7_bringBack_24 (by decide) ?_
    exact hj2 _ _ _ _ h hP hD hS _ (lv_sub hl [1, 0] rfl)
theorem bt_X7_bringBack_2 {p : Program} {l : Launch} {e : Env} {s : State} {m : MethodId} {args : Array Value} {below : List Frame} {meth : Method} {c : Code} {D : va_G} {cy : Cy} {A : Nat → Prop} {T : Ty} {R : Rm} {r : Unit} {M9 : Mm} {a0 : Nat} {j29 : Int32 → Mm → Option (Unit × Mm)} (C : Cx RX7 cX7_bringBack 2 none p s m args meth c D cy A)
    (hj29 : ∀ (x1 : Int32) (M : Mm) (H : Heap) (locs : List Loc), j29 x1 M = some (r, M9) → va_P D vwCl (WL cy T M R) H → va_D A (WL cy T M R) → va_S A s.heap H locs → ∀ ls : Array Slot, lv_has ls 2 [(0, .ref a0), (1, .int x1)] → W p l e rm_X7_bringBack s m args below meth c H locs 0 0 (MQ below (QcV D cy T M9 R A r) args s 0 0 A) (F0 m 29 ls [])) :
    ∀ n : Nat, ∀ (x1 : Int32) (M : Mm) (H : Heap) (locs : List Loc), fb_X7_bringBack_2 T R a0 j29 n x1 M = some (r, M9) → va_P D vwCl (WL cy T M R) H → va_D A (WL cy T M R) → va_S A s.heap H locs → ∀ ls : Array Slot, lv_has ls 2 [(0, .ref a0), (1, .int x1)] → W p l e rm_X7_bringBack s m args below meth c H locs 0 0 (MQ below (QcV D cy T M9 R A r) args s 0 0 A) (F0 m 2 ls []) := by
  intro n
  induction n with
  | zero =>
    intro _ _ H locs h
    exact absurd (show (none : Option (Unit × Mm)) = some _ from h) (by simp)
  | succ n ih => exact fun u0 u1 H locs h => bs_X7_bringBack_2 (a0 := a0) C ih hj29 u0 u1 H locs h
set_option maxHeartbeats 4000000 in
set_option maxRecDepth 100000 in
theorem ct_X7_bringBack {l : Launch} {D : va_G} {cy : Cy} {T : Ty} {R : Rm} {a0 : Nat} {M : Mm} {r : Unit} {M9 : Mm} (h : fn_X7_bringBack T R a0 M = some (r, M9)) : Ct QcV l yX7_bringBack cX7_bringBack 2 none rm_X7_bringBack D cy T M R [.ref a0] M9 R r := by
  unfold fn_X7_bringBack at h
  refine enter (plainFor_of_name (by decide +kernel)) (Nat.le_of_ble_eq_true rfl) (fun p e s m args below meth c A C hP hD hS ls hl => ?_)
  have hl : lv_has ls 2 [(0, .ref a0)] := hl
  obtain ⟨hx, hb, hr, hml, hown, hts, hK, hA, hlk, hSt⟩ := id C
  refine lv_iconst (v := 0) hx hb dX7_bringBack_0 (by decide) ?_
  refine lv_istore_n (lv' := [(1, .int (0 : Int32)), (0, .ref a0)]) hx hb dX7_bringBack_1 rfl hl (by decide) rfl (fun ls hl => ?_)
  exact (bt_X7_bringBack_2 C (bt_X7_bringBack_29 C (bt_X7_bringBack_55 C FU) FU) FU) _ _ _ _ h hP hD hS _ (lv_sub hl [1, 0] rfl)
abbrev rm_X7_of : Room := { frames := 0, cells := 0, slots := 0, locals := 0 }
theorem hd_X7_of : yX7_of.cls = RX7 ∧ yX7_of.cls ≠ "java/lang/invoke/MethodHandle" ∧ yX7_of.cls ≠ "java/lang/invoke/VarHandle" ∧ (parseMethodDescriptor yX7_of.desc).map (fun d => d.parameters.length) = some 2 := ⟨rfl, by decide +kernel, by decide +kernel, by decide +kernel⟩
set_option maxHeartbeats 4000000 in
set_option maxRecDepth 100000 in
theorem ct_X7_of {l : Launch} {D : va_G} {cy : Cy} {T : Ty} {R : Rm} {a0 : Nat} {x1 : Int32} {x2 : Int32} {M : Mm} {r : Int32} {M9 : Mm} (h : fn_X7_of T R a0 x1 x2 M = some (r, M9)) : Ct QcI l yX7_of cX7_of 3 (some .int) rm_X7_of D cy T M R [.ref a0, .int x1, .int x2] M9 R r := by
  unfold fn_X7_of at h
  refine enter (plainFor_of_name (by decide +kernel)) (Nat.le_of_ble_eq_true rfl) (fun p e s m args below meth c A C hP hD hS ls hl => ?_)
  have hl : lv_has ls 3 [(0, .ref a0), (1, .int x1), (2, .int x2)] := hl
  obtain ⟨hx, hb, hr, hml, hown, hts, hK, hA, hlk, hSt⟩ := id C
  refine lv_aload_n hx hb dX7_of_0 rfl (lv_at hl 0 rfl) ?_
  obtain ⟨k_1, h⟩ := chk_some h
  obtain ⟨b_2, eb_2, h⟩ := rfm_some h
  refine gf_7_0 C hP k_1 eb_2 wl_100 dX7_of_1 ?_
  refine lv_bipush (v := 14) hx hb dX7_of_4 (by decide) ?_
  refine lv_bipush (v := 6) hx hb dX7_of_6 (by decide) ?_
  refine lv_iload_n hx hb dX7_of_8 rfl (lv_at hl 1 rfl) ?_
  refine lv_imul hx hb dX7_of_9 ?_
  refine lv_iadd hx hb dX7_of_10 ?_
  refine lv_iload_n hx hb dX7_of_11 rfl (lv_at hl 2 rfl) ?_
  refine lv_iadd hx hb dX7_of_12 ?_
  obtain ⟨k_3, h⟩ := chk_some h
  obtain ⟨k_4, h⟩ := chk_some h
  refine ar_9 C hP k_3 k_4 dX7_of_13 ?_
  cases h
  exact rt_i C hP hD hS dX7_of_14
abbrev rm_X7_put : Room := { frames := 0, cells := 0, slots := 0, locals := 0 }
theorem hd_X7_put : yX7_put.cls = RX7 ∧ yX7_put.cls ≠ "java/lang/invoke/MethodHandle" ∧ yX7_put.cls ≠ "java/lang/invoke/VarHandle" ∧ (parseMethodDescriptor yX7_put.desc).map (fun d => d.parameters.length) = some 3 := ⟨rfl, by decide +kernel, by decide +kernel, by decide +kernel⟩
set_option maxHeartbeats 4000000 in
set_option maxRecDepth 100000 in
theorem ct_X7_put {l : Launch} {D : va_G} {cy : Cy} {T : Ty} {R : Rm} {a0 : Nat} {x1 : Int32} {x2 : Int32} {x3 : Int32} {M : Mm} {r : Unit} {M9 : Mm} (h : fn_X7_put T R a0 x1 x2 x3 M = some (r, M9)) : Ct QcV l yX7_put cX7_put 4 none rm_X7_put D cy T M R [.ref a0, .int x1, .int x2, .int x3] M9 R r := by
  unfold fn_X7_put at h
  refine enter (plainFor_of_name (by decide +kernel)) (Nat.le_of_ble_eq_true rfl) (fun p e s m args below meth c A C hP hD hS ls hl => ?_)
  have hl : lv_has ls 4 [(0, .ref a0), (1, .int x1), (2, .int x2), (3, .int x3)] := hl
  obtain ⟨hx, hb, hr, hml, hown, hts, hK, hA, hlk, hSt⟩ := id C
  refine lv_aload_n hx hb dX7_put_0 rfl (lv_at hl 0 rfl) ?_
  obtain ⟨k_1, h⟩ := chk_some h
  obtain ⟨b_2, eb_2, h⟩ := rfm_some h
  refine gf_7_0 C hP k_1 eb_2 wl_100 dX7_put_1 ?_
  refine lv_bipush (v := 14) hx hb dX7_put_4 (by decide) ?_
  refine lv_bipush (v := 6) hx hb dX7_put_6 (by decide) ?_
  refine lv_iload_n hx hb dX7_put_8 rfl (lv_at hl 1 rfl) ?_
  refine lv_imul hx hb dX7_put_9 ?_
  refine lv_iadd hx hb dX7_put_10 ?_
  refine lv_iload_n hx hb dX7_put_11 rfl (lv_at hl 2 rfl) ?_
  refine lv_iadd hx hb dX7_put_12 ?_
  refine lv_iload_n hx hb dX7_put_13 rfl (lv_at hl 3 rfl) ?_
  obtain ⟨k_3, h⟩ := chk_some h
  obtain ⟨k_4, h⟩ := chk_some h
  refine aw_9 C hP hD hS k_3 k_4 dX7_put_14 (fun M_5 H locs eM_5 hP hD hS => ?_)
  replace h := bnd_at h eM_5
  cases h
  exact rt_v C hP hD hS dX7_put_15
abbrev rm_X7_ofStake : Room := { frames := 0, cells := 0, slots := 0, locals := 0 }
theorem hd_X7_ofStake : yX7_ofStake.cls = RX7 ∧ yX7_ofStake.cls ≠ "java/lang/invoke/MethodHandle" ∧ yX7_ofStake.cls ≠ "java/lang/invoke/VarHandle" ∧ (parseMethodDescriptor yX7_ofStake.desc).map (fun d => d.parameters.length) = some 2 := ⟨rfl, by decide +kernel, by decide +kernel, by decide +kernel⟩
set_option maxHeartbeats 4000000 in
set_option maxRecDepth 100000 in
theorem ct_X7_ofStake {l : Launch} {D : va_G} {cy : Cy} {T : Ty} {R : Rm} {a0 : Nat} {x1 : Int32} {x2 : Int32} {M : Mm} {r : Int32} {M9 : Mm} (h : fn_X7_ofStake T R a0 x1 x2 M = some (r, M9)) : Ct QcI l yX7_ofStake cX7_ofStake 3 (some .int) rm_X7_ofStake D cy T M R [.ref a0, .int x1, .int x2] M9 R r := by
  unfold fn_X7_ofStake at h
  refine enter (plainFor_of_name (by decide +kernel)) (Nat.le_of_ble_eq_true rfl) (fun p e s m args below meth c A C hP hD hS ls hl => ?_)
  have hl : lv_has ls 3 [(0, .ref a0), (1, .int x1), (2, .int x2)] := hl
  obtain ⟨hx, hb, hr, hml, hown, hts, hK, hA, hlk, hSt⟩ := id C
  refine lv_aload_n hx hb dX7_ofStake_0 rfl (lv_at hl 0 rfl) ?_
  obtain ⟨k_1, h⟩ := chk_some h
  obtain ⟨b_2, eb_2, h⟩ := rfm_some h
  refine gf_7_0 C hP k_1 eb_2 wl_100 dX7_ofStake_1 ?_
  refine lv_bipush (v := 74) hx hb dX7_ofStake_4 (by decide) ?_
  refine lv_bipush (v := 6) hx hb dX7_ofStake_6 (by decide) ?_
  refine lv_iload_n hx hb dX7_ofStake_8 rfl (lv_at hl 1 rfl) ?_
  refine lv_imul hx hb dX7_ofStake_9 ?_
  refine lv_iadd hx hb dX7_ofStake_10 ?_
  refine lv_iload_n hx hb dX7_ofStake_11 rfl (lv_at hl 2 rfl) ?_
  refine lv_iadd hx hb dX7_ofStake_12 ?_
  obtain ⟨k_3, h⟩ := chk_some h
  obtain ⟨k_4, h⟩ := chk_some h
  refine ar_9 C hP k_3 k_4 dX7_ofStake_13 ?_
  cases h
  exact rt_i C hP hD hS dX7_ofStake_14
abbrev rm_X7_putStake : Room := { frames := 0, cells := 0, slots := 0, locals := 0 }
theorem hd_X7_putStake : yX7_putStake.cls = RX7 ∧ yX7_putStake.cls ≠ "java/lang/invoke/MethodHandle" ∧ yX7_putStake.cls ≠ "java/lang/invoke/VarHandle" ∧ (parseMethodDescriptor yX7_putStake.desc).map (fun d => d.parameters.length) = some 3 := ⟨rfl, by decide +kernel, by decide +kernel, by decide +kernel⟩
set_option maxHeartbeats 4000000 in
set_option maxRecDepth 100000 in
theorem ct_X7_putStake {l : Launch} {D : va_G} {cy : Cy} {T : Ty} {R : Rm} {a0 : Nat} {x1 : Int32} {x2 : Int32} {x3 : Int32} {M : Mm} {r : Unit} {M9 : Mm} (h : fn_X7_putStake T R a0 x1 x2 x3 M = some (r, M9)) : Ct QcV l yX7_putStake cX7_putStake 4 none rm_X7_putStake D cy T M R [.ref a0, .int x1, .int x2, .int x3] M9 R r := by
  unfold fn_X7_putStake at h
  refine enter (plainFor_of_name (by decide +kernel)) (Nat.le_of_ble_eq_true rfl) (fun p e s m args below meth c A C hP hD hS ls hl => ?_)
  have hl : lv_has ls 4 [(0, .ref a0), (1, .int x1), (2, .int x2), (3, .int x3)] := hl
  obtain ⟨hx, hb, hr, hml, hown, hts, hK, hA, hlk, hSt⟩ := id C
  refine lv_aload_n hx hb dX7_putStake_0 rfl (lv_at hl 0 rfl) ?_
  obtain ⟨k_1, h⟩ := chk_some h
  obtain ⟨b_2, eb_2, h⟩ := rfm_some h
  refine gf_7_0 C hP k_1 eb_2 wl_100 dX7_putStake_1 ?_
  refine lv_bipush (v := 74) hx hb dX7_putStake_4 (by decide) ?_
  refine lv_bipush (v := 6) hx hb dX7_putStake_6 (by decide) ?_
  refine lv_iload_n hx hb dX7_putStake_8 rfl (lv_at hl 1 rfl) ?_
  refine lv_imul hx hb dX7_putStake_9 ?_
  refine lv_iadd hx hb dX7_putStake_10 ?_
  refine lv_iload_n hx hb dX7_putStake_11 rfl (lv_at hl 2 rfl) ?_
  refine lv_iadd hx hb dX7_putStake_12 ?_
  refine lv_iload_n hx hb dX7_putStake_13 rfl (lv_at hl 3 rfl) ?_
  obtain ⟨k_3, h⟩ := chk_some h
  obtain ⟨k_4, h⟩ := chk_some h
  refine aw_9 C hP hD hS k_3 k_4 dX7_putStake_14 (fun M_5 H locs eM_5 hP hD hS => ?_)
  replace h := bnd_at h eM_5
  cases h
  exact rt_v C hP hD hS dX7_putStake_15
abbrev rm_X7_isBand : Room := { frames := 1, cells := 0, slots := 0, locals := 22 }
theorem hd_X7_isBand : yX7_isBand.cls = RX7 ∧ yX7_isBand.cls ≠ "java/lang/invoke/MethodHandle" ∧ yX7_isBand.cls ≠ "java/lang/invoke/VarHandle" ∧ (parseMethodDescriptor yX7_isBand.desc).map (fun d => d.parameters.length) = some 1 := ⟨rfl, by decide +kernel, by decide +kernel, by decide +kernel⟩
set_option maxHeartbeats 4000000 in
set_option maxRecDepth 100000 in
theorem ct_X7_isBand {l : Launch} {D : va_G} {cy : Cy} {T : Ty} {R : Rm} {a0 : Nat} {x1 : Int32} {M : Mm} {r : Int32} {M9 : Mm} (h : fn_X7_isBand T R a0 x1 M = some (r, M9)) : Ct QcI l yX7_isBand cX7_isBand 2 (some .boolean) rm_X7_isBand D cy T M R [.ref a0, .int x1] M9 R r := by
  unfold fn_X7_isBand at h
  refine enter (plainFor_of_name (by decide +kernel)) (Nat.le_of_ble_eq_true rfl) (fun p e s m args below meth c A C hP hD hS ls hl => ?_)
  have hl : lv_has ls 2 [(0, .ref a0), (1, .int x1)] := hl
  obtain ⟨hx, hb, hr, hml, hown, hts, hK, hA, hlk, hSt⟩ := id C
  refine lv_iload_n hx hb dX7_isBand_0 rfl (lv_at hl 1 rfl) ?_
  refine lv_iconst (v := 0) hx hb dX7_isBand_1 (by decide) ?_
  refine lv_aload_n hx hb dX7_isBand_2 rfl (lv_at hl 0 rfl) ?_
  obtain ⟨k_1, h⟩ := chk_some h
  obtain ⟨b_2, eb_2, h⟩ := rfm_some h
  refine gf_7_0 C hP k_1 eb_2 wl_100 dX7_isBand_3 ?_
  refine lv_bipush (v := 8) hx hb dX7_isBand_6 (by decide) ?_
  obtain ⟨k_3, h⟩ := chk_some h
  obtain ⟨k_4, h⟩ := chk_some h
  refine ar_9 C hP k_3 k_4 dX7_isBand_8 ?_
  refine lv_iconst (v := 1) hx hb dX7_isBand_9 (by decide) ?_
  refine lv_isub hx hb dX7_isBand_10 ?_
  obtain ⟨r_5, M_6, hc_7, h⟩ := cal_some h
  refine cl_Si (As := [.int x1, .int (0 : Int32), .int ((gI M b_2 (8 : Int32).toNatClampNeg) - (1 : Int32))]) (rest := []) C (ct_X7_in hc_7) wl_165 wl_166 wl_5 wl_167 hd_X7_in ⟨Nat.le_of_ble_eq_true rfl, Nat.le_of_ble_eq_true rfl⟩ ⟨rfl, rfl⟩ ⟨Nat.zero_le _, Nat.zero_le _⟩ rfl (Nat.le_of_ble_eq_true rfl) rfl hl.1 hP hD hS dX7_isBand_11 (fun H locs hP hD hS => ?_)
  obtain ⟨k_8, h⟩ := chk_some h
  cases h
  exact rt_z C hP hD hS k_8 dX7_isBand_14
abbrev rm_X7_isStake : Room := { frames := 1, cells := 0, slots := 0, locals := 22 }
theorem hd_X7_isStake : yX7_isStake.cls = RX7 ∧ yX7_isStake.cls ≠ "java/lang/invoke/MethodHandle" ∧ yX7_isStake.cls ≠ "java/lang/invoke/VarHandle" ∧ (parseMethodDescriptor yX7_isStake.desc).map (fun d => d.parameters.length) = some 1 := ⟨rfl, by decide +kernel, by decide +kernel, by decide +kernel⟩
set_option maxHeartbeats 4000000 in
set_option maxRecDepth 100000 in
theorem ct_X7_isStake {l : Launch} {D : va_G} {cy : Cy} {T : Ty} {R : Rm} {a0 : Nat} {x1 : Int32} {M : Mm} {r : Int32} {M9 : Mm} (h : fn_X7_isStake T R a0 x1 M = some (r, M9)) : Ct QcI l yX7_isStake cX7_isStake 2 (some .boolean) rm_X7_isStake D cy T M R [.ref a0, .int x1] M9 R r := by
  unfold fn_X7_isStake at h
  refine enter (plainFor_of_name (by decide +kernel)) (Nat.le_of_ble_eq_true rfl) (fun p e s m args below meth c A C hP hD hS ls hl => ?_)
  have hl : lv_has ls 2 [(0, .ref a0), (1, .int x1)] := hl
  obtain ⟨hx, hb, hr, hml, hown, hts, hK, hA, hlk, hSt⟩ := id C
  refine lv_iload_n hx hb dX7_isStake_0 rfl (lv_at hl 1 rfl) ?_
  refine lv_iconst (v := 0) hx hb dX7_isStake_1 (by decide) ?_
  refine lv_aload_n hx hb dX7_isStake_2 rfl (lv_at hl 0 rfl) ?_
  obtain ⟨k_1, h⟩ := chk_some h
  obtain ⟨b_2, eb_2, h⟩ := rfm_some h
  refine gf_7_0 C hP k_1 eb_2 wl_100 dX7_isStake_3 ?_
  refine lv_bipush (v := 9) hx hb dX7_isStake_6 (by decide) ?_
  obtain ⟨k_3, h⟩ := chk_some h
  obtain ⟨k_4, h⟩ := chk_some h
  refine ar_9 C hP k_3 k_4 dX7_isStake_8 ?_
  refine lv_iconst (v := 1) hx hb dX7_isStake_9 (by decide) ?_
  refine lv_isub hx hb dX7_isStake_10 ?_
  obtain ⟨r_5, M_6, hc_7, h⟩ := cal_some h
  refine cl_Si (As := [.int x1, .int (0 : Int32), .int ((gI M b_2 (9 : Int32).toNatClampNeg) - (1 : Int32))]) (rest := []) C (ct_X7_in hc_7) wl_165 wl_166 wl_5 wl_167 hd_X7_in ⟨Nat.le_of_ble_eq_true rfl, Nat.le_of_ble_eq_true rfl⟩ ⟨rfl, rfl⟩ ⟨Nat.zero_le _, Nat.zero_le _⟩ rfl (Nat.le_of_ble_eq_true rfl) rfl hl.1 hP hD hS dX7_isStake_11 (fun H locs hP hD hS => ?_)
  obtain ⟨k_8, h⟩ := chk_some h
  cases h
  exact rt_z C hP hD hS k_8 dX7_isStake_14
abbrev rm_X7_iceOf : Room := { frames := 0, cells := 0, slots := 0, locals := 0 }
theorem hd_X7_iceOf : yX7_iceOf.cls = RX7 ∧ yX7_iceOf.cls ≠ "java/lang/invoke/MethodHandle" ∧ yX7_iceOf.cls ≠ "java/lang/invoke/VarHandle" ∧ (parseMethodDescriptor yX7_iceOf.desc).map (fun d => d.parameters.length) = some 1 := ⟨rfl, by decide +kernel, by decide +kernel, by decide +kernel⟩
set_option maxHeartbeats 4000000 in
set_option maxRecDepth 100000 in
theorem bs_X7_iceOf_4 {p : Program} {l : Launch} {e : Env} {s : State} {m : MethodId} {args : Array Value} {below : List Frame} {meth : Method} {c : Code} {D : va_G} {cy : Cy} {A : Nat → Prop} {T : Ty} {R : Rm} {r : Int32} {M9 : Mm} {a0 : Nat} {x1 : Int32} {j4 : Int32 → Int32 → Mm → Option (Int32 × Mm)} (C : Cx RX7 cX7_iceOf 4 (some .int) p s m args meth c D cy A)
    (hj4 : ∀ (x2 : Int32) (x3 : Int32) (M : Mm) (H : Heap) (locs : List Loc), j4 x2 x3 M = some (r, M9) → va_P D vwCl (WL cy T M R) H → va_D A (WL cy T M R) → va_S A s.heap H locs → ∀ ls : Array Slot, lv_has ls 4 [(0, .ref a0), (1, .int x1), (2, .int x2), (3, .int x3)] → W p l e rm_X7_iceOf s m args below meth c H locs 0 0 (MQ below (QcI D cy T M9 R A r) args s 0 0 A) (F0 m 4 ls [])) :
    ∀ (x2 : Int32) (x3 : Int32) (M : Mm) (H : Heap) (locs : List Loc), fs_X7_iceOf_4 T R a0 x1 j4 x2 x3 M = some (r, M9) → va_P D vwCl (WL cy T M R) H → va_D A (WL cy T M R) → va_S A s.heap H locs → ∀ ls : Array Slot, lv_has ls 4 [(0, .ref a0), (1, .int x1), (2, .int x2), (3, .int x3)] → W p l e rm_X7_iceOf s m args below meth c H locs 0 0 (MQ below (QcI D cy T M9 R A r) args s 0 0 A) (F0 m 4 ls []) := by
  intro x2 x3 M H locs h hP hD hS ls hl
  unfold fs_X7_iceOf_4 at h
  obtain ⟨hx, hb, hr, hml, hown, hts, hK, hA, hlk, hSt⟩ := id C
  refine lv_iload_n hx hb dX7_iceOf_4 rfl (lv_at hl 3 rfl) ?_
  refine lv_aload_n hx hb dX7_iceOf_5 rfl (lv_at hl 0 rfl) ?_
  obtain ⟨k_1, h⟩ := chk_some h
  obtain ⟨b_2, eb_2, h⟩ := rfm_some h
  refine gf_7_0 C hP k_1 eb_2 wl_100 dX7_iceOf_6 ?_
  refine lv_bipush (v := 7) hx hb dX7_iceOf_9 (by decide) ?_
  obtain ⟨k_3, h⟩ := chk_some h
  obtain ⟨k_4, h⟩ := chk_some h
  refine ar_9 C hP k_3 k_4 dX7_iceOf_11 ?_
  refine lv_icmp_gt (tgt := 36) hx hb dX7_iceOf_12 (by decide) (fun c_5 => ?_) (fun c_5 => ?_)
  · replace h := ite_t h c_5
    refine lv_iload_n hx hb dX7_iceOf_36 rfl (lv_at hl 2 rfl) ?_
    cases h
    exact rt_i C hP hD hS dX7_iceOf_37
  · replace h := ite_f h c_5
    refine lv_iload_n hx hb dX7_iceOf_15 rfl (lv_at hl 2 rfl) ?_
    refine lv_aload_n hx hb dX7_iceOf_16 rfl (lv_at hl 0 rfl) ?_
    obtain ⟨b_6, eb_6, h⟩ := rfm_some h
    refine gf_7_1 C hP k_1 eb_6 wl_101 dX7_iceOf_17 ?_
    refine lv_sipush (v := 801) hx hb dX7_iceOf_20 (by decide) ?_
    refine lv_iload_n hx hb dX7_iceOf_23 rfl (lv_at hl 1 rfl) ?_
    refine lv_imul hx hb dX7_iceOf_24 ?_
    refine lv_iload_n hx hb dX7_iceOf_25 rfl (lv_at hl 3 rfl) ?_
    refine lv_iadd hx hb dX7_iceOf_26 ?_
    obtain ⟨k_7, h⟩ := chk_some h
    obtain ⟨k_8, h⟩ := chk_some h
    refine ar_9 C hP k_7 k_8 dX7_iceOf_27 ?_
    refine lv_iadd hx hb dX7_iceOf_28 ?_
    refine lv_topi (fun v_9 ev_9 => ?_)
    replace h := bnd_at h ev_9
    refine lv_istore_n (lv' := [(2, .int v_9), (0, .ref a0), (1, .int x1), (3, .int x3)]) hx hb dX7_iceOf_29 rfl hl (by decide) rfl (fun ls hl => ?_)
    obtain ⟨v_10, ev_10⟩ : ∃ y : Int32, y = (x3 + (1 : Int32)) := ⟨_, rfl⟩
    replace h := bnd_at h ev_10
    refine lv_iinc (v := v_10) (lv' := [(3, .int v_10), (2, .int v_9), (0, .ref a0), (1, .int x1)]) hx hb dX7_iceOf_30 hl (k := 3) rfl (by rw [ev_10]; rfl) (by decide) rfl (fun ls hl => ?_)
    refine lv_goto (tgt := 4) hx hb dX7_iceOf_33 (by decide) ?_
    exact hj4 _ _ _ _ _ h hP hD hS _ (lv_sub hl [2, 3, 1, 0] rfl)
theorem bt_X7_iceOf_4 {p : Program} {l : Launch} {e : Env} {s : State} {m : MethodId} {args : Array Value} {below : List Frame} {meth : Method} {c : Code} {D : va_G} {cy : Cy} {A : Nat → Prop} {T : Ty} {R : Rm} {r : Int32} {M9 : Mm} {a0 : Nat} {x1 : Int32} (C : Cx RX7 cX7_iceOf 4 (some .int) p s m args meth c D cy A) :
    ∀ n : Nat, ∀ (x2 : Int32) (x3 : Int32) (M : Mm) (H : Heap) (locs : List Loc), fb_X7_iceOf_4 T R a0 x1 n x2 x3 M = some (r, M9) → va_P D vwCl (WL cy T M R) H → va_D A (WL cy T M R) → va_S A s.heap H locs → ∀ ls : Array Slot, lv_has ls 4 [(0, .ref a0), (1, .int x1), (2, .int x2), (3, .int x3)] → W p l e rm_X7_iceOf s m args below meth c H locs 0 0 (MQ below (QcI D cy T M9 R A r) args s 0 0 A) (F0 m 4 ls []) := by
  intro n
  induction n with
  | zero =>
    intro _ _ _ H locs h
    exact absurd (show (none : Option (Int32 × Mm)) = some _ from h) (by simp)
  | succ n ih => exact fun u0 u1 u2 H locs h => bs_X7_iceOf_4 (a0 := a0) (x1 := x1) C ih u0 u1 u2 H locs h
set_option maxHeartbeats 4000000 in
set_option maxRecDepth 100000 in
theorem ct_X7_iceOf {l : Launch} {D : va_G} {cy : Cy} {T : Ty} {R : Rm} {a0 : Nat} {x1 : Int32} {M : Mm} {r : Int32} {M9 : Mm} (h : fn_X7_iceOf T R a0 x1 M = some (r, M9)) : Ct QcI l yX7_iceOf cX7_iceOf 4 (some .int) rm_X7_iceOf D cy T M R [.ref a0, .int x1] M9 R r := by
  unfold fn_X7_iceOf at h
  refine enter (plainFor_of_name (by decide +kernel)) (Nat.le_of_ble_eq_true rfl) (fun p e s m args below meth c A C hP hD hS ls hl => ?_)
  have hl : lv_has ls 4 [(0, .ref a0), (1, .int x1)] := hl
  obtain ⟨hx, hb, hr, hml, hown, hts, hK, hA, hlk, hSt⟩ := id C
  refine lv_iconst (v := 0) hx hb dX7_iceOf_0 (by decide) ?_
  refine lv_istore_n (lv' := [(2, .int (0 : Int32)), (0, .ref a0), (1, .int x1)]) hx hb dX7_iceOf_1 rfl hl (by decide) rfl (fun ls hl => ?_)
  refine lv_iconst (v := 0) hx hb dX7_iceOf_2 (by decide) ?_
  refine lv_istore_n (lv' := [(3, .int (0 : Int32)), (2, .int (0 : Int32)), (0, .ref a0), (1, .int x1)]) hx hb dX7_iceOf_3 rfl hl (by decide) rfl (fun ls hl => ?_)
  exact (bt_X7_iceOf_4 C FU) _ _ _ _ _ h hP hD hS _ (lv_sub hl [2, 3, 1, 0] rfl)
abbrev rm_X7_isSetting : Room := { frames := 1, cells := 0, slots := 0, locals := 22 }
theorem hd_X7_isSetting : yX7_isSetting.cls ≠ "java/lang/invoke/MethodHandle" ∧ yX7_isSetting.cls ≠ "java/lang/invoke/VarHandle" ∧ (parseMethodDescriptor yX7_isSetting.desc).map (fun d => d.parameters.length) = some 2 := ⟨by decide +kernel, by decide +kernel, by decide +kernel⟩
set_option maxHeartbeats 4000000 in
set_option maxRecDepth 100000 in
theorem ct_X7_isSetting {l : Launch} {D : va_G} {cy : Cy} {T : Ty} {R : Rm} {x0 : Int32} {x1 : Int32} {M : Mm} {r : Int32} {M9 : Mm} (h : fn_X7_isSetting T R x0 x1 M = some (r, M9)) : Ct QcI l yX7_isSetting cX7_isSetting 2 (some .boolean) rm_X7_isSetting D cy T M R [.int x0, .int x1] M9 R r := by
  unfold fn_X7_isSetting at h
  refine enter (plainFor_of_name (by decide +kernel)) (Nat.le_of_ble_eq_true rfl) (fun p e s m args below meth c A C hP hD hS ls hl => ?_)
  have hl : lv_has ls 2 [(0, .int x0), (1, .int x1)] := hl
  obtain ⟨hx, hb, hr, hml, hown, hts, hK, hA, hlk, hSt⟩ := id C
  refine lv_iload_n hx hb dX7_isSetting_0 rfl (lv_at hl 0 rfl) ?_
  by_cases q_1 : x0 = 0
  · replace h := ite_t h q_1
    refine lv_tableIn (off := 39) (tgt := 40) hx hb dX7_isSetting_1 (by rw [q_1]; decide) (by rw [q_1]; decide) (by rw [q_1]; rfl) (by decide) ?_
    refine lv_iload_n hx hb dX7_isSetting_40 rfl (lv_at hl 1 rfl) ?_
    refine lv_iconst (v := 0) hx hb dX7_isSetting_41 (by decide) ?_
    refine lv_sipush (v := 5000) hx hb dX7_isSetting_42 (by decide) ?_
    obtain ⟨r_2, M_3, hc_4, h⟩ := cal_some h
    refine cl_Si (As := [.int x1, .int (0 : Int32), .int (5000 : Int32)]) (rest := []) C (ct_X7_in hc_4) wl_165 wl_166 wl_5 wl_167 hd_X7_in ⟨Nat.le_of_ble_eq_true rfl, Nat.le_of_ble_eq_true rfl⟩ ⟨rfl, rfl⟩ ⟨Nat.zero_le _, Nat.zero_le _⟩ rfl (Nat.le_of_ble_eq_true rfl) rfl hl.1 hP hD hS dX7_isSetting_45 (fun H locs hP hD hS => ?_)
    obtain ⟨k_5, h⟩ := chk_some h
    cases h
    exact rt_z C hP hD hS k_5 dX7_isSetting_48
  · replace h := ite_f h q_1
    by_cases q_6 : x0 = 1
    · replace h := ite_t h q_6
      refine lv_tableIn (off := 48) (tgt := 49) hx hb dX7_isSetting_1 (by rw [q_6]; decide) (by rw [q_6]; decide) (by rw [q_6]; rfl) (by decide) ?_
      refine lv_iload_n hx hb dX7_isSetting_49 rfl (lv_at hl 1 rfl) ?_
      refine lv_iconst (v := 0) hx hb dX7_isSetting_50 (by decide) ?_
      refine lv_sipush (v := 500) hx hb dX7_isSetting_51 (by decide) ?_
      obtain ⟨r_7, M_8, hc_9, h⟩ := cal_some h
      refine cl_Si (As := [.int x1, .int (0 : Int32), .int (500 : Int32)]) (rest := []) C (ct_X7_in hc_9) wl_165 wl_166 wl_5 wl_167 hd_X7_in ⟨Nat.le_of_ble_eq_true rfl, Nat.le_of_ble_eq_true rfl⟩ ⟨rfl, rfl⟩ ⟨Nat.zero_le _, Nat.zero_le _⟩ rfl (Nat.le_of_ble_eq_true rfl) rfl hl.1 hP hD hS dX7_isSetting_54 (fun H locs hP hD hS => ?_)
      obtain ⟨k_10, h⟩ := chk_some h
      cases h
      exact rt_z C hP hD hS k_10 dX7_isSetting_57
    · replace h := ite_f h q_6
      by_cases q_11 : x0 = 2
      · replace h := ite_t h q_11
        refine lv_tableIn (off := 57) (tgt := 58) hx hb dX7_isSetting_1 (by rw [q_11]; decide) (by rw [q_11]; decide) (by rw [q_11]; rfl) (by decide) ?_
        refine lv_iload_n hx hb dX7_isSetting_58 rfl (lv_at hl 1 rfl) ?_
        refine lv_iconst (v := 0) hx hb dX7_isSetting_59 (by decide) ?_
        refine lv_sipush (v := 9000) hx hb dX7_isSetting_60 (by decide) ?_
        obtain ⟨r_12, M_13, hc_14, h⟩ := cal_some h
        refine cl_Si (As := [.int x1, .int (0 : Int32), .int (9000 : Int32)]) (rest := []) C (ct_X7_in hc_14) wl_165 wl_166 wl_5 wl_167 hd_X7_in ⟨Nat.le_of_ble_eq_true rfl, Nat.le_of_ble_eq_true rfl⟩ ⟨rfl, rfl⟩ ⟨Nat.zero_le _, Nat.zero_le _⟩ rfl (Nat.le_of_ble_eq_true rfl) rfl hl.1 hP hD hS dX7_isSetting_63 (fun H locs hP hD hS => ?_)
        obtain ⟨k_15, h⟩ := chk_some h
        cases h
        exact rt_z C hP hD hS k_15 dX7_isSetting_66
      · replace h := ite_f h q_11
        by_cases q_16 : x0 = 3
        · replace h := ite_t h q_16
          refine lv_tableIn (off := 48) (tgt := 49) hx hb dX7_isSetting_1 (by rw [q_16]; decide) (by rw [q_16]; decide) (by rw [q_16]; rfl) (by decide) ?_
          refine lv_iload_n hx hb dX7_isSetting_49 rfl (lv_at hl 1 rfl) ?_
          refine lv_iconst (v := 0) hx hb dX7_isSetting_50 (by decide) ?_
          refine lv_sipush (v := 500) hx hb dX7_isSetting_51 (by decide) ?_
          obtain ⟨r_17, M_18, hc_19, h⟩ := cal_some h
          refine cl_Si (As := [.int x1, .int (0 : Int32), .int (500 : Int32)]) (rest := []) C (ct_X7_in hc_19) wl_165 wl_166 wl_5 wl_167 hd_X7_in ⟨Nat.le_of_ble_eq_true rfl, Nat.le_of_ble_eq_true rfl⟩ ⟨rfl, rfl⟩ ⟨Nat.zero_le _, Nat.zero_le _⟩ rfl (Nat.le_of_ble_eq_true rfl) rfl hl.1 hP hD hS dX7_isSetting_54 (fun H locs hP hD hS => ?_)
          obtain ⟨k_20, h⟩ := chk_some h
          cases h
          exact rt_z C hP hD hS k_20 dX7_isSetting_57
        · replace h := ite_f h q_16
          by_cases q_21 : x0 = 4
          · replace h := ite_t h q_21
            refine lv_tableIn (off := 39) (tgt := 40) hx hb dX7_isSetting_1 (by rw [q_21]; decide) (by rw [q_21]; decide) (by rw [q_21]; rfl) (by decide) ?_
            refine lv_iload_n hx hb dX7_isSetting_40 rfl (lv_at hl 1 rfl) ?_
            refine lv_iconst (v := 0) hx hb dX7_isSetting_41 (by decide) ?_
            refine lv_sipush (v := 5000) hx hb dX7_isSetting_42 (by decide) ?_
            obtain ⟨r_22, M_23, hc_24, h⟩ := cal_some h
            refine cl_Si (As := [.int x1, .int (0 : Int32), .int (5000 : Int32)]) (rest := []) C (ct_X7_in hc_24) wl_165 wl_166 wl_5 wl_167 hd_X7_in ⟨Nat.le_of_ble_eq_true rfl, Nat.le_of_ble_eq_true rfl⟩ ⟨rfl, rfl⟩ ⟨Nat.zero_le _, Nat.zero_le _⟩ rfl (Nat.le_of_ble_eq_true rfl) rfl hl.1 hP hD hS dX7_isSetting_45 (fun H locs hP hD hS => ?_)
            obtain ⟨k_25, h⟩ := chk_some h
            cases h
            exact rt_z C hP hD hS k_25 dX7_isSetting_48
          · replace h := ite_f h q_21
            by_cases q_26 : x0 = 5
            · replace h := ite_t h q_26
              refine lv_tableIn (off := 66) (tgt := 67) hx hb dX7_isSetting_1 (by rw [q_26]; decide) (by rw [q_26]; decide) (by rw [q_26]; rfl) (by decide) ?_
              refine lv_iload_n hx hb dX7_isSetting_67 rfl (lv_at hl 1 rfl) ?_
              refine lv_iconst (v := 1) hx hb dX7_isSetting_68 (by decide) ?_
              refine lv_ldc (own := RX7) (v := 1000000) hx hb hown (hts _ wl_164) dX7_isSetting_69 ?_
              obtain ⟨r_27, M_28, hc_29, h⟩ := cal_some h
              refine cl_Si (As := [.int x1, .int (1 : Int32), .int (1000000 : Int32)]) (rest := []) C (ct_X7_in hc_29) wl_165 wl_166 wl_5 wl_167 hd_X7_in ⟨Nat.le_of_ble_eq_true rfl, Nat.le_of_ble_eq_true rfl⟩ ⟨rfl, rfl⟩ ⟨Nat.zero_le _, Nat.zero_le _⟩ rfl (Nat.le_of_ble_eq_true rfl) rfl hl.1 hP hD hS dX7_isSetting_71 (fun H locs hP hD hS => ?_)
              obtain ⟨k_30, h⟩ := chk_some h
              cases h
              exact rt_z C hP hD hS k_30 dX7_isSetting_74
            · replace h := ite_f h q_26
              refine lv_tableOut (tgt := 75) hx hb dX7_isSetting_1 (by have zq_1 := i32ne (k := 0) q_1 (by decide); have zq_6 := i32ne (k := 1) q_6 (by decide); have zq_11 := i32ne (k := 2) q_11 (by decide); have zq_16 := i32ne (k := 3) q_16 (by decide); have zq_21 := i32ne (k := 4) q_21 (by decide); have zq_26 := i32ne (k := 5) q_26 (by decide); omega) (by decide) ?_
              refine lv_iload_n hx hb dX7_isSetting_75 rfl (lv_at hl 0 rfl) ?_
              refine lv_bipush (v := 6) hx hb dX7_isSetting_76 (by decide) ?_
              refine lv_icmp_ne (tgt := 95) hx hb dX7_isSetting_78 (by decide) (fun c_31 => ?_) (fun c_31 => ?_)
              · replace h := ite_f h c_31
                refine lv_iconst (v := 0) hx hb dX7_isSetting_95 (by decide) ?_
                cases h
                exact rt_z C hP hD hS rfl dX7_isSetting_96
              · replace h := ite_t h c_31
                refine lv_iload_n hx hb dX7_isSetting_81 rfl (lv_at hl 1 rfl) ?_
                refine lv_iconst (v := 0) hx hb dX7_isSetting_82 (by decide) ?_
                refine lv_bipush (v := 50) hx hb dX7_isSetting_83 (by decide) ?_
                obtain ⟨r_32, M_33, hc_34, h⟩ := cal_some h
                refine cl_Si (As := [.int x1, .int (0 : Int32), .int (50 : Int32)]) (rest := []) C (ct_X7_in hc_34) wl_165 wl_166 wl_5 wl_167 hd_X7_in ⟨Nat.le_of_ble_eq_true rfl, Nat.le_of_ble_eq_true rfl⟩ ⟨rfl, rfl⟩ ⟨Nat.zero_le _, Nat.zero_le _⟩ rfl (Nat.le_of_ble_eq_true rfl) rfl hl.1 hP hD hS dX7_isSetting_85 (fun H locs hP hD hS => ?_)
                refine lv_if_eq (tgt := 95) hx hb dX7_isSetting_88 (by decide) (fun c_35 => ?_) (fun c_35 => ?_)
                · replace h := ite_t h c_35
                  refine lv_iconst (v := 0) hx hb dX7_isSetting_95 (by decide) ?_
                  cases h
                  exact rt_z C hP hD hS rfl dX7_isSetting_96
                · replace h := ite_f h c_35
                  refine lv_iconst (v := 1) hx hb dX7_isSetting_91 (by decide) ?_
                  refine lv_goto (tgt := 96) hx hb dX7_isSetting_92 (by decide) ?_
                  cases h
                  exact rt_z C hP hD hS rfl dX7_isSetting_96
abbrev rm_X7_set : Room := { frames := 3, cells := 0, slots := 0, locals := 66 }
theorem hd_X7_set : yX7_set.cls = RX7 ∧ yX7_set.cls ≠ "java/lang/invoke/MethodHandle" ∧ yX7_set.cls ≠ "java/lang/invoke/VarHandle" ∧ (parseMethodDescriptor yX7_set.desc).map (fun d => d.parameters.length) = some 2 := ⟨rfl, by decide +kernel, by decide +kernel, by decide +kernel⟩
set_option maxHeartbeats 4000000 in
set_option maxRecDepth 100000 in
theorem ct_X7_set {l : Launch} {D : va_G} {cy : Cy} {T : Ty} {R : Rm} {a0 : Nat} {x1 : Int32} {x2 : Int32} {M : Mm} {r : Int32} {M9 : Mm} (h : fn_X7_set T R a0 x1 x2 M = some (r, M9)) : Ct QcI l yX7_set cX7_set 4 (some .int) rm_X7_set D cy T M R [.ref a0, .int x1, .int x2] M9 R r := by
  unfold fn_X7_set at h
  refine enter (plainFor_of_name (by decide +kernel)) (Nat.le_of_ble_eq_true rfl) (fun p e s m args below meth c A C hP hD hS ls hl => ?_)
  have hl : lv_has ls 4 [(0, .ref a0), (1, .int x1), (2, .int x2)] := hl
  obtain ⟨hx, hb, hr, hml, hown, hts, hK, hA, hlk, hSt⟩ := id C
  refine lv_iload_n hx hb dX7_set_0 rfl (lv_at hl 1 rfl) ?_
  refine lv_iload_n hx hb dX7_set_1 rfl (lv_at hl 2 rfl) ?_
  obtain ⟨r_1, M_2, hc_3, h⟩ := cal_some h
  refine cl_Si (As := [.int x1, .int x2]) (rest := []) C (ct_X7_isSetting hc_3) wl_161 wl_162 wl_5 wl_163 hd_X7_isSetting ⟨Nat.le_of_ble_eq_true rfl, Nat.le_of_ble_eq_true rfl⟩ ⟨rfl, rfl⟩ ⟨Nat.zero_le _, Nat.zero_le _⟩ rfl (Nat.le_of_ble_eq_true rfl) rfl hl.1 hP hD hS dX7_set_2 (fun H locs hP hD hS => ?_)
  refine lv_if_ne (tgt := 11) hx hb dX7_set_5 (by decide) (fun c_4 => ?_) (fun c_4 => ?_)
  · replace h := ite_f h c_4
    refine lv_aload_n hx hb dX7_set_11 rfl (lv_at hl 0 rfl) ?_
    obtain ⟨k_5, h⟩ := chk_some h
    obtain ⟨r_6, M_7, hc_8, h⟩ := cal_some h
    refine cl_Vv (As := []) (rest := []) C (ct_X7_keep hc_8) k_5 (by decide) rfl wl_168 wl_169 wl_170 wl_5 wl_171 hd_X7_keep ⟨Nat.le_of_ble_eq_true rfl, Nat.le_of_ble_eq_true rfl⟩ ⟨rfl, rfl⟩ ⟨Nat.zero_le _, Nat.zero_le _⟩ rfl (Nat.le_of_ble_eq_true rfl) rfl hl.1 hP hD hS dX7_set_12 (fun H locs hP hD hS => ?_)
    refine lv_aload_n hx hb dX7_set_15 rfl (lv_at hl 0 rfl) ?_
    obtain ⟨b_9, eb_9, h⟩ := rfm_some h
    refine gf_7_0 C hP k_5 eb_9 wl_100 dX7_set_16 ?_
    refine lv_iload_n hx hb dX7_set_19 rfl (lv_at hl 1 rfl) ?_
    obtain ⟨k_10, h⟩ := chk_some h
    obtain ⟨k_11, h⟩ := chk_some h
    refine ar_9 C hP k_10 k_11 dX7_set_20 ?_
    refine lv_topi (fun v_12 ev_12 => ?_)
    replace h := bnd_at h ev_12
    refine lv_istore_n (lv' := [(3, .int v_12), (0, .ref a0), (1, .int x1), (2, .int x2)]) hx hb dX7_set_21 rfl hl (by decide) rfl (fun ls hl => ?_)
    refine lv_aload_n hx hb dX7_set_22 rfl (lv_at hl 1 rfl) ?_
    refine gf_7_0 C hP k_5 eb_9 wl_100 dX7_set_23 ?_
    refine lv_iload_n hx hb dX7_set_26 rfl (lv_at hl 2 rfl) ?_
    refine lv_iload_n hx hb dX7_set_27 rfl (lv_at hl 3 rfl) ?_
    refine aw_9 C hP hD hS k_10 k_11 dX7_set_28 (fun M_13 H locs eM_13 hP hD hS => ?_)
    replace h := bnd_at h eM_13
    refine lv_iload_n hx hb dX7_set_29 rfl (lv_at hl 0 rfl) ?_
    cases h
    exact rt_i C hP hD hS dX7_set_30
  · replace h := ite_t h c_4
    refine lv_ldc (own := RX7) (v := -2000000001) hx hb hown (hts _ wl_160) dX7_set_8 ?_
    cases h
    exact rt_i C hP hD hS dX7_set_10
abbrev rm_X7_lay : Room := { frames := 0, cells := 0, slots := 0, locals := 0 }
theorem hd_X7_lay : yX7_lay.cls = RX7 ∧ yX7_lay.cls ≠ "java/lang/invoke/MethodHandle" ∧ yX7_lay.cls ≠ "java/lang/invoke/VarHandle" ∧ (parseMethodDescriptor yX7_lay.desc).map (fun d => d.parameters.length) = some 2 := ⟨rfl, by decide +kernel, by decide +kernel, by decide +kernel⟩
set_option maxHeartbeats 4000000 in
set_option maxRecDepth 100000 in
theorem bs_X7_lay_2 {p : Program} {l : Launch} {e : Env} {s : State} {m : MethodId} {args : Array Value} {below : List Frame} {meth : Method} {c : Code} {D : va_G} {cy : Cy} {A : Nat → Prop} {T : Ty} {R : Rm} {r : Unit} {M9 : Mm} {a0 : Nat} {x1 : Int32} {x2 : Int32} {j2 : Int32 → Mm → Option (Unit × Mm)} (C : Cx RX7 cX7_lay 4 none p s m args meth c D cy A)
    (hj2 : ∀ (x3 : Int32) (M : Mm) (H : Heap) (locs : List Loc), j2 x3 M = some (r, M9) → va_P D vwCl (WL cy T M R) H → va_D A (WL cy T M R) → va_S A s.heap H locs → ∀ ls : Array Slot, lv_has ls 4 [(0, .ref a0), (1, .int x1), (2, .int x2), (3, .int x3)] → W p l e rm_X7_lay s m args below meth c H locs 0 0 (MQ below (QcV D cy T M9 R A r) args s 0 0 A) (F0 m 2 ls [])) :
    ∀ (x3 : Int32) (M : Mm) (H : Heap) (locs : List Loc), fs_X7_lay_2 T R a0 x1 x2 j2 x3 M = some (r, M9) → va_P D vwCl (WL cy T M R) H → va_D A (WL cy T M R) → va_S A s.heap H locs → ∀ ls : Array Slot, lv_has ls 4 [(0, .ref a0), (1, .int x1), (2, .int x2), (3, .int x3)] → W p l e rm_X7_lay s m args below meth c H locs 0 0 (MQ below (QcV D cy T M9 R A r) args s 0 0 A) (F0 m 2 ls []) := by
  intro x3 M H locs h hP hD hS ls hl
  unfold fs_X7_lay_2 at h
  obtain ⟨hx, hb, hr, hml, hown, hts, hK, hA, hlk, hSt⟩ := id C
  refine lv_iload_n hx hb dX7_lay_2 rfl (lv_at hl 3 rfl) ?_
  refine lv_sipush (v := 801) hx hb dX7_lay_3 (by decide) ?_
  refine lv_icmp_ge (tgt := 28) hx hb dX7_lay_6 (by decide) (fun c_1 => ?_) (fun c_1 => ?_)
  · replace h := ite_t h c_1
    refine lv_aload_n hx hb dX7_lay_28 rfl (lv_at hl 0 rfl) ?_
    obtain ⟨k_2, h⟩ := chk_some h
    obtain ⟨b_3, eb_3, h⟩ := rfm_some h
    refine gf_7_1 C hP k_2 eb_3 wl_101 dX7_lay_29 ?_
    refine lv_sipush (v := 801) hx hb dX7_lay_32 (by decide) ?_
    refine lv_iload_n hx hb dX7_lay_35 rfl (lv_at hl 1 rfl) ?_
    refine lv_imul hx hb dX7_lay_36 ?_
    refine lv_aload_n hx hb dX7_lay_37 rfl (lv_at hl 0 rfl) ?_
    obtain ⟨b_4, eb_4, h⟩ := rfm_some h
    refine gf_7_0 C hP k_2 eb_4 wl_100 dX7_lay_38 ?_
    refine lv_bipush (v := 7) hx hb dX7_lay_41 (by decide) ?_
    obtain ⟨k_5, h⟩ := chk_some h
    obtain ⟨k_6, h⟩ := chk_some h
    refine ar_9 C hP k_5 k_6 dX7_lay_43 ?_
    refine lv_iadd hx hb dX7_lay_44 ?_
    refine lv_iload_n hx hb dX7_lay_45 rfl (lv_at hl 2 rfl) ?_
    obtain ⟨k_7, h⟩ := chk_some h
    obtain ⟨k_8, h⟩ := chk_some h
    refine aw_9 C hP hD hS k_7 k_8 dX7_lay_46 (fun M_9 H locs eM_9 hP hD hS => ?_)
    replace h := bnd_at h eM_9
    refine lv_aload_n hx hb dX7_lay_47 rfl (lv_at hl 0 rfl) ?_
    obtain ⟨b_10, eb_10, h⟩ := rfm_some h
    refine gf_7_2 C hP k_2 eb_10 wl_103 dX7_lay_48 ?_
    refine lv_iconst (v := 0) hx hb dX7_lay_51 (by decide) ?_
    refine lv_dup2_11 hx hb dX7_lay_52 rfl rfl ?_
    obtain ⟨k_11, h⟩ := chk_some h
    obtain ⟨k_12, h⟩ := chk_some h
    refine ar_10 C hP k_11 k_12 dX7_lay_53 ?_
    refine lv_iload_n hx hb dX7_lay_54 rfl (lv_at hl 2 rfl) ?_
    refine lv_i2l hx hb dX7_lay_55 rfl ?_
    refine lv_ladd hx hb dX7_lay_56 ?_
    refine aw_10 C hP hD hS k_11 k_12 dX7_lay_57 (fun M_13 H locs eM_13 hP hD hS => ?_)
    replace h := bnd_at h eM_13
    cases h
    exact rt_v C hP hD hS dX7_lay_58
  · replace h := ite_f h c_1
    refine lv_aload_n hx hb dX7_lay_9 rfl (lv_at hl 0 rfl) ?_
    obtain ⟨k_14, h⟩ := chk_some h
    obtain ⟨b_15, eb_15, h⟩ := rfm_some h
    refine gf_7_1 C hP k_14 eb_15 wl_101 dX7_lay_10 ?_
    refine lv_sipush (v := 801) hx hb dX7_lay_13 (by decide) ?_
    refine lv_iload_n hx hb dX7_lay_16 rfl (lv_at hl 1 rfl) ?_
    refine lv_imul hx hb dX7_lay_17 ?_
    refine lv_iload_n hx hb dX7_lay_18 rfl (lv_at hl 3 rfl) ?_
    refine lv_iadd hx hb dX7_lay_19 ?_
    refine lv_iconst (v := 0) hx hb dX7_lay_20 (by decide) ?_
    obtain ⟨k_16, h⟩ := chk_some h
    obtain ⟨k_17, h⟩ := chk_some h
    refine aw_9 C hP hD hS k_16 k_17 dX7_lay_21 (fun M_18 H locs eM_18 hP hD hS => ?_)
    replace h := bnd_at h eM_18
    obtain ⟨v_19, ev_19⟩ : ∃ y : Int32, y = (x3 + (1 : Int32)) := ⟨_, rfl⟩
    replace h := bnd_at h ev_19
    refine lv_iinc (v := v_19) (lv' := [(3, .int v_19), (0, .ref a0), (1, .int x1), (2, .int x2)]) hx hb dX7_lay_22 hl (k := 3) rfl (by rw [ev_19]; rfl) (by decide) rfl (fun ls hl => ?_)
    refine lv_goto (tgt := 2) hx hb dX7_lay_25 (by decide) ?_
    exact hj2 _ _ _ _ h hP hD hS _ (lv_sub hl [1, 2, 3, 0] rfl)
theorem bt_X7_lay_2 {p : Program} {l : Launch} {e : Env} {s : State} {m : MethodId} {args : Array Value} {below : List Frame} {meth : Method} {c : Code} {D : va_G} {cy : Cy} {A : Nat → Prop} {T : Ty} {R : Rm} {r : Unit} {M9 : Mm} {a0 : Nat} {x1 : Int32} {x2 : Int32} (C : Cx RX7 cX7_lay 4 none p s m args meth c D cy A) :
    ∀ n : Nat, ∀ (x3 : Int32) (M : Mm) (H : Heap) (locs : List Loc), fb_X7_lay_2 T R a0 x1 x2 n x3 M = some (r, M9) → va_P D vwCl (WL cy T M R) H → va_D A (WL cy T M R) → va_S A s.heap H locs → ∀ ls : Array Slot, lv_has ls 4 [(0, .ref a0), (1, .int x1), (2, .int x2), (3, .int x3)] → W p l e rm_X7_lay s m args below meth c H locs 0 0 (MQ below (QcV D cy T M9 R A r) args s 0 0 A) (F0 m 2 ls []) := by
  intro n
  induction n with
  | zero =>
    intro _ _ H locs h
    exact absurd (show (none : Option (Unit × Mm)) = some _ from h) (by simp)
  | succ n ih => exact fun u0 u1 H locs h => bs_X7_lay_2 (a0 := a0) (x1 := x1) (x2 := x2) C ih u0 u1 H locs h
set_option maxHeartbeats 4000000 in
set_option maxRecDepth 100000 in
theorem ct_X7_lay {l : Launch} {D : va_G} {cy : Cy} {T : Ty} {R : Rm} {a0 : Nat} {x1 : Int32} {x2 : Int32} {M : Mm} {r : Unit} {M9 : Mm} (h : fn_X7_lay T R a0 x1 x2 M = some (r, M9)) : Ct QcV l yX7_lay cX7_lay 4 none rm_X7_lay D cy T M R [.ref a0, .int x1, .int x2] M9 R r := by
  unfold fn_X7_lay at h
  refine enter (plainFor_of_name (by decide +kernel)) (Nat.le_of_ble_eq_true rfl) (fun p e s m args below meth c A C hP hD hS ls hl => ?_)
  have hl : lv_has ls 4 [(0, .ref a0), (1, .int x1), (2, .int x2)] := hl
  obtain ⟨hx, hb, hr, hml, hown, hts, hK, hA, hlk, hSt⟩ := id C
  refine lv_iconst (v := 0) hx hb dX7_lay_0 (by decide) ?_
  refine lv_istore_n (lv' := [(3, .int (0 : Int32)), (0, .ref a0), (1, .int x1), (2, .int x2)]) hx hb dX7_lay_1 rfl hl (by decide) rfl (fun ls hl => ?_)
  exact (bt_X7_lay_2 C FU) _ _ _ _ h hP hD hS _ (lv_sub hl [1, 2, 3, 0] rfl)
abbrev rm_X7_band : Room := { frames := 3, cells := 0, slots := 0, locals := 66 }
theorem hd_X7_band : yX7_band.cls = RX7 ∧ yX7_band.cls ≠ "java/lang/invoke/MethodHandle" ∧ yX7_band.cls ≠ "java/lang/invoke/VarHandle" ∧ (parseMethodDescriptor yX7_band.desc).map (fun d => d.parameters.length) = some 4 := ⟨rfl, by decide +kernel, by decide +kernel, by decide +kernel⟩
set_option maxHeartbeats 4000000 in
set_option maxRecDepth 100000 in
theorem bs_X7_band_78 {p : Program} {l : Launch} {e : Env} {s : State} {m : MethodId} {args : Array Value} {below : List Frame} {meth : Method} {c : Code} {D : va_G} {cy : Cy} {A : Nat → Prop} {T : Ty} {R : Rm} {r : Int32} {M9 : Mm} {a0 : Nat} {x1 : Int32} {x2 : Int32} {x3 : Int32} {x4 : Int32} (C : Cx RX7 cX7_band 6 (some .int) p s m args meth c D cy A) :
    ∀ (x5 : Int32) (M : Mm) (H : Heap) (locs : List Loc), fs_X7_band_78 T R a0 x1 x2 x3 x4 x5 M = some (r, M9) → va_P D vwCl (WL cy T M R) H → va_D A (WL cy T M R) → va_S A s.heap H locs → ∀ ls : Array Slot, lv_has ls 6 [(0, .ref a0), (1, .int x1), (2, .int x2), (3, .int x3), (4, .int x4), (5, .int x5)] → W p l e rm_X7_band s m args below meth c H locs 0 0 (MQ below (QcI D cy T M9 R A r) args s 0 0 A) (F0 m 78 ls []) := by
  intro x5 M H locs h hP hD hS ls hl
  unfold fs_X7_band_78 at h
  obtain ⟨hx, hb, hr, hml, hown, hts, hK, hA, hlk, hSt⟩ := id C
  refine lv_iload hx hb dX7_band_78 (lv_at hl 5 rfl) ?_
  refine lv_bipush (v := 10) hx hb dX7_band_80 (by decide) ?_
  refine lv_icmp_ne (tgt := 88) hx hb dX7_band_82 (by decide) (fun c_1 => ?_) (fun c_1 => ?_)
  · replace h := ite_f h c_1
    refine lv_aload_n hx hb dX7_band_88 rfl (lv_at hl 0 rfl) ?_
    obtain ⟨k_2, h⟩ := chk_some h
    obtain ⟨r_3, M_4, hc_5, h⟩ := cal_some h
    refine cl_Vv (As := []) (rest := []) C (ct_X7_keep hc_5) k_2 (by decide) rfl wl_168 wl_169 wl_170 wl_5 wl_171 hd_X7_keep ⟨Nat.le_of_ble_eq_true rfl, Nat.le_of_ble_eq_true rfl⟩ ⟨rfl, rfl⟩ ⟨Nat.zero_le _, Nat.zero_le _⟩ rfl (Nat.le_of_ble_eq_true rfl) rfl hl.1 hP hD hS dX7_band_89 (fun H locs hP hD hS => ?_)
    refine lv_aload_n hx hb dX7_band_92 rfl (lv_at hl 0 rfl) ?_
    obtain ⟨b_6, eb_6, h⟩ := rfm_some h
    refine gf_7_0 C hP k_2 eb_6 wl_100 dX7_band_93 ?_
    refine lv_bipush (v := 8) hx hb dX7_band_96 (by decide) ?_
    refine lv_dup2_11 hx hb dX7_band_98 rfl rfl ?_
    obtain ⟨k_7, h⟩ := chk_some h
    obtain ⟨k_8, h⟩ := chk_some h
    refine ar_9 C hP k_7 k_8 dX7_band_99 ?_
    refine lv_iconst (v := 1) hx hb dX7_band_100 (by decide) ?_
    refine lv_iadd hx hb dX7_band_101 ?_
    refine aw_9 C hP hD hS k_7 k_8 dX7_band_102 (fun M_9 H locs eM_9 hP hD hS => ?_)
    replace h := bnd_at h eM_9
    refine lv_aload_n hx hb dX7_band_103 rfl (lv_at hl 0 rfl) ?_
    refine lv_iload hx hb dX7_band_104 (lv_at hl 5 rfl) ?_
    refine lv_iconst (v := 0) hx hb dX7_band_106 (by decide) ?_
    refine lv_iload_n hx hb dX7_band_107 rfl (lv_at hl 1 rfl) ?_
    obtain ⟨r_10, M_11, hc_12, h⟩ := cal_some h
    refine cl_Vv (As := [.int x5, .int (0 : Int32), .int x1]) (rest := []) C (ct_X7_put hc_12) k_2 (by decide) rfl wl_244 wl_245 wl_246 wl_5 wl_247 hd_X7_put ⟨Nat.le_of_ble_eq_true rfl, Nat.le_of_ble_eq_true rfl⟩ ⟨rfl, rfl⟩ ⟨Nat.zero_le _, Nat.zero_le _⟩ rfl (Nat.le_of_ble_eq_true rfl) rfl hl.1 hP hD hS dX7_band_108 (fun H locs hP hD hS => ?_)
    refine lv_aload_n hx hb dX7_band_111 rfl (lv_at hl 0 rfl) ?_
    refine lv_iload hx hb dX7_band_112 (lv_at hl 5 rfl) ?_
    refine lv_iconst (v := 1) hx hb dX7_band_114 (by decide) ?_
    refine lv_iload_n hx hb dX7_band_115 rfl (lv_at hl 2 rfl) ?_
    obtain ⟨r_13, M_14, hc_15, h⟩ := cal_some h
    refine cl_Vv (As := [.int x5, .int (1 : Int32), .int x2]) (rest := []) C (ct_X7_put hc_15) k_2 (by decide) rfl wl_244 wl_245 wl_246 wl_5 wl_247 hd_X7_put ⟨Nat.le_of_ble_eq_true rfl, Nat.le_of_ble_eq_true rfl⟩ ⟨rfl, rfl⟩ ⟨Nat.zero_le _, Nat.zero_le _⟩ rfl (Nat.le_of_ble_eq_true rfl) rfl hl.1 hP hD hS dX7_band_116 (fun H locs hP hD hS => ?_)
    refine lv_aload_n hx hb dX7_band_119 rfl (lv_at hl 0 rfl) ?_
    refine lv_iload hx hb dX7_band_120 (lv_at hl 5 rfl) ?_
    refine lv_iconst (v := 2) hx hb dX7_band_122 (by decide) ?_
    refine lv_iload_n hx hb dX7_band_123 rfl (lv_at hl 3 rfl) ?_
    obtain ⟨r_16, M_17, hc_18, h⟩ := cal_some h
    refine cl_Vv (As := [.int x5, .int (2 : Int32), .int x3]) (rest := []) C (ct_X7_put hc_18) k_2 (by decide) rfl wl_244 wl_245 wl_246 wl_5 wl_247 hd_X7_put ⟨Nat.le_of_ble_eq_true rfl, Nat.le_of_ble_eq_true rfl⟩ ⟨rfl, rfl⟩ ⟨Nat.zero_le _, Nat.zero_le _⟩ rfl (Nat.le_of_ble_eq_true rfl) rfl hl.1 hP hD hS dX7_band_124 (fun H locs hP hD hS => ?_)
    refine lv_aload_n hx hb dX7_band_127 rfl (lv_at hl 0 rfl) ?_
    refine lv_iload hx hb dX7_band_128 (lv_at hl 5 rfl) ?_
    refine lv_iconst (v := 3) hx hb dX7_band_130 (by decide) ?_
    refine lv_iconst (v := 0) hx hb dX7_band_131 (by decide) ?_
    obtain ⟨r_19, M_20, hc_21, h⟩ := cal_some h
    refine cl_Vv (As := [.int x5, .int (3 : Int32), .int (0 : Int32)]) (rest := []) C (ct_X7_put hc_21) k_2 (by decide) rfl wl_244 wl_245 wl_246 wl_5 wl_247 hd_X7_put ⟨Nat.le_of_ble_eq_true rfl, Nat.le_of_ble_eq_true rfl⟩ ⟨rfl, rfl⟩ ⟨Nat.zero_le _, Nat.zero_le _⟩ rfl (Nat.le_of_ble_eq_true rfl) rfl hl.1 hP hD hS dX7_band_132 (fun H locs hP hD hS => ?_)
    refine lv_aload_n hx hb dX7_band_135 rfl (lv_at hl 0 rfl) ?_
    refine lv_iload hx hb dX7_band_136 (lv_at hl 5 rfl) ?_
    refine lv_iconst (v := 4) hx hb dX7_band_138 (by decide) ?_
    refine lv_iconst (v := 0) hx hb dX7_band_139 (by decide) ?_
    obtain ⟨r_22, M_23, hc_24, h⟩ := cal_some h
    refine cl_Vv (As := [.int x5, .int (4 : Int32), .int (0 : Int32)]) (rest := []) C (ct_X7_put hc_24) k_2 (by decide) rfl wl_244 wl_245 wl_246 wl_5 wl_247 hd_X7_put ⟨Nat.le_of_ble_eq_true rfl, Nat.le_of_ble_eq_true rfl⟩ ⟨rfl, rfl⟩ ⟨Nat.zero_le _, Nat.zero_le _⟩ rfl (Nat.le_of_ble_eq_true rfl) rfl hl.1 hP hD hS dX7_band_140 (fun H locs hP hD hS => ?_)
    refine lv_aload_n hx hb dX7_band_143 rfl (lv_at hl 0 rfl) ?_
    refine lv_iload hx hb dX7_band_144 (lv_at hl 5 rfl) ?_
    refine lv_iconst (v := 5) hx hb dX7_band_146 (by decide) ?_
    refine lv_iconst (v := 0) hx hb dX7_band_147 (by decide) ?_
    obtain ⟨r_25, M_26, hc_27, h⟩ := cal_some h
    refine cl_Vv (As := [.int x5, .int (5 : Int32), .int (0 : Int32)]) (rest := []) C (ct_X7_put hc_27) k_2 (by decide) rfl wl_244 wl_245 wl_246 wl_5 wl_247 hd_X7_put ⟨Nat.le_of_ble_eq_true rfl, Nat.le_of_ble_eq_true rfl⟩ ⟨rfl, rfl⟩ ⟨Nat.zero_le _, Nat.zero_le _⟩ rfl (Nat.le_of_ble_eq_true rfl) rfl hl.1 hP hD hS dX7_band_148 (fun H locs hP hD hS => ?_)
    refine lv_aload_n hx hb dX7_band_151 rfl (lv_at hl 0 rfl) ?_
    refine lv_iload hx hb dX7_band_152 (lv_at hl 5 rfl) ?_
    refine lv_iload hx hb dX7_band_154 (lv_at hl 4 rfl) ?_
    obtain ⟨r_28, M_29, hc_30, h⟩ := cal_some h
    refine cl_Vv (As := [.int x5, .int x4]) (rest := []) C (ct_X7_lay hc_30) k_2 (by decide) rfl wl_248 wl_249 wl_250 wl_5 wl_251 hd_X7_lay ⟨Nat.le_of_ble_eq_true rfl, Nat.le_of_ble_eq_true rfl⟩ ⟨rfl, rfl⟩ ⟨Nat.zero_le _, Nat.zero_le _⟩ rfl (Nat.le_of_ble_eq_true rfl) rfl hl.1 hP hD hS dX7_band_156 (fun H locs hP hD hS => ?_)
    refine lv_iload hx hb dX7_band_159 (lv_at hl 5 rfl) ?_
    cases h
    exact rt_i C hP hD hS dX7_band_161
  · replace h := ite_t h c_1
    refine lv_ldc (own := RX7) (v := -2000000003) hx hb hown (hts _ wl_239) dX7_band_85 ?_
    cases h
    exact rt_i C hP hD hS dX7_band_87
set_option maxHeartbeats 4000000 in
set_option maxRecDepth 100000 in
theorem ct_X7_band {l : Launch} {D : va_G} {cy : Cy} {T : Ty} {R : Rm} {a0 : Nat} {x1 : Int32} {x2 : Int32} {x3 : Int32} {x4 : Int32} {M : Mm} {r : Int32} {M9 : Mm} (h : fn_X7_band T R a0 x1 x2 x3 x4 M = some (r, M9)) : Ct QcI l yX7_band cX7_band 6 (some .int) rm_X7_band D cy T M R [.ref a0, .int x1, .int x2, .int x3, .int x4] M9 R r := by
  unfold fn_X7_band at h
  refine enter (plainFor_of_name (by decide +kernel)) (Nat.le_of_ble_eq_true rfl) (fun p e s m args below meth c A C hP hD hS ls hl => ?_)
  have hl : lv_has ls 6 [(0, .ref a0), (1, .int x1), (2, .int x2), (3, .int x3), (4, .int x4)] := hl
  obtain ⟨hx, hb, hr, hml, hown, hts, hK, hA, hlk, hSt⟩ := id C
  refine lv_iload_n hx hb dX7_band_0 rfl (lv_at hl 1 rfl) ?_
  refine lv_iconst (v := 0) hx hb dX7_band_1 (by decide) ?_
  refine lv_sipush (v := 5000) hx hb dX7_band_2 (by decide) ?_
  obtain ⟨r_31, M_32, hc_33, h⟩ := cal_some h
  refine cl_Si (As := [.int x1, .int (0 : Int32), .int (5000 : Int32)]) (rest := []) C (ct_X7_in hc_33) wl_165 wl_166 wl_5 wl_167 hd_X7_in ⟨Nat.le_of_ble_eq_true rfl, Nat.le_of_ble_eq_true rfl⟩ ⟨rfl, rfl⟩ ⟨Nat.zero_le _, Nat.zero_le _⟩ rfl (Nat.le_of_ble_eq_true rfl) rfl hl.1 hP hD hS dX7_band_5 (fun H locs hP hD hS => ?_)
  refine lv_if_eq (tgt := 45) hx hb dX7_band_8 (by decide) (fun c_34 => ?_) (fun c_34 => ?_)
  · replace h := ite_t h c_34
    refine lv_ldc (own := RX7) (v := -2000000001) hx hb hown (hts _ wl_160) dX7_band_45 ?_
    cases h
    exact rt_i C hP hD hS dX7_band_47
  · replace h := ite_f h c_34
    refine lv_iload_n hx hb dX7_band_11 rfl (lv_at hl 2 rfl) ?_
    refine lv_bipush (v := 100) hx hb dX7_band_12 (by decide) ?_
    refine lv_sipush (v := 5000) hx hb dX7_band_14 (by decide) ?_
    obtain ⟨r_35, M_36, hc_37, h⟩ := cal_some h
    refine cl_Si (As := [.int x2, .int (100 : Int32), .int (5000 : Int32)]) (rest := []) C (ct_X7_in hc_37) wl_165 wl_166 wl_5 wl_167 hd_X7_in ⟨Nat.le_of_ble_eq_true rfl, Nat.le_of_ble_eq_true rfl⟩ ⟨rfl, rfl⟩ ⟨Nat.zero_le _, Nat.zero_le _⟩ rfl (Nat.le_of_ble_eq_true rfl) rfl hl.1 hP hD hS dX7_band_17 (fun H locs hP hD hS => ?_)
    refine lv_if_eq (tgt := 45) hx hb dX7_band_20 (by decide) (fun c_38 => ?_) (fun c_38 => ?_)
    · replace h := ite_t h c_38
      refine lv_ldc (own := RX7) (v := -2000000001) hx hb hown (hts _ wl_160) dX7_band_45 ?_
      cases h
      exact rt_i C hP hD hS dX7_band_47
    · replace h := ite_f h c_38
      refine lv_iload_n hx hb dX7_band_23 rfl (lv_at hl 3 rfl) ?_
      refine lv_iconst (v := 0) hx hb dX7_band_24 (by decide) ?_
      refine lv_sipush (v := 500) hx hb dX7_band_25 (by decide) ?_
      obtain ⟨r_39, M_40, hc_41, h⟩ := cal_some h
      refine cl_Si (As := [.int x3, .int (0 : Int32), .int (500 : Int32)]) (rest := []) C (ct_X7_in hc_41) wl_165 wl_166 wl_5 wl_167 hd_X7_in ⟨Nat.le_of_ble_eq_true rfl, Nat.le_of_ble_eq_true rfl⟩ ⟨rfl, rfl⟩ ⟨Nat.zero_le _, Nat.zero_le _⟩ rfl (Nat.le_of_ble_eq_true rfl) rfl hl.1 hP hD hS dX7_band_28 (fun H locs hP hD hS => ?_)
      refine lv_if_eq (tgt := 45) hx hb dX7_band_31 (by decide) (fun c_42 => ?_) (fun c_42 => ?_)
      · replace h := ite_t h c_42
        refine lv_ldc (own := RX7) (v := -2000000001) hx hb hown (hts _ wl_160) dX7_band_45 ?_
        cases h
        exact rt_i C hP hD hS dX7_band_47
      · replace h := ite_f h c_42
        refine lv_iload hx hb dX7_band_34 (lv_at hl 4 rfl) ?_
        refine lv_iconst (v := 0) hx hb dX7_band_36 (by decide) ?_
        refine lv_ldc (own := RX7) (v := 1000000) hx hb hown (hts _ wl_164) dX7_band_37 ?_
        obtain ⟨r_43, M_44, hc_45, h⟩ := cal_some h
        refine cl_Si (As := [.int x4, .int (0 : Int32), .int (1000000 : Int32)]) (rest := []) C (ct_X7_in hc_45) wl_165 wl_166 wl_5 wl_167 hd_X7_in ⟨Nat.le_of_ble_eq_true rfl, Nat.le_of_ble_eq_true rfl⟩ ⟨rfl, rfl⟩ ⟨Nat.zero_le _, Nat.zero_le _⟩ rfl (Nat.le_of_ble_eq_true rfl) rfl hl.1 hP hD hS dX7_band_39 (fun H locs hP hD hS => ?_)
        refine lv_if_ne (tgt := 48) hx hb dX7_band_42 (by decide) (fun c_46 => ?_) (fun c_46 => ?_)
        · replace h := ite_f h c_46
          refine lv_aload_n hx hb dX7_band_48 rfl (lv_at hl 0 rfl) ?_
          obtain ⟨k_47, h⟩ := chk_some h
          obtain ⟨b_48, eb_48, h⟩ := rfm_some h
          refine gf_7_0 C hP k_47 eb_48 wl_100 dX7_band_49 ?_
          refine lv_bipush (v := 8) hx hb dX7_band_52 (by decide) ?_
          obtain ⟨k_49, h⟩ := chk_some h
          obtain ⟨k_50, h⟩ := chk_some h
          refine ar_9 C hP k_49 k_50 dX7_band_54 ?_
          refine lv_topi (fun v_51 ev_51 => ?_)
          replace h := bnd_at h ev_51
          refine lv_istore (lv' := [(5, .int v_51), (0, .ref a0), (1, .int x1), (2, .int x2), (3, .int x3), (4, .int x4)]) hx hb dX7_band_55 hl (by decide) rfl (fun ls hl => ?_)
          refine lv_iload hx hb dX7_band_57 (lv_at hl 0 rfl) ?_
          refine lv_if_le (tgt := 78) hx hb dX7_band_59 (by decide) (fun c_52 => ?_) (fun c_52 => ?_)
          · replace h := ite_t h c_52
            exact (bs_X7_band_78 C) _ _ _ _ h hP hD hS _ (lv_sub hl [1, 2, 3, 4, 5, 0] rfl)
          · replace h := ite_f h c_52
            refine lv_iload_n hx hb dX7_band_62 rfl (lv_at hl 2 rfl) ?_
            refine lv_aload_n hx hb dX7_band_63 rfl (lv_at hl 1 rfl) ?_
            refine lv_iload hx hb dX7_band_64 (lv_at hl 0 rfl) ?_
            refine lv_iconst (v := 1) hx hb dX7_band_66 (by decide) ?_
            refine lv_isub hx hb dX7_band_67 ?_
            refine lv_iconst (v := 0) hx hb dX7_band_68 (by decide) ?_
            obtain ⟨r_53, M_54, hc_55, h⟩ := cal_some h
            refine cl_Vi (As := [.int (v_51 - (1 : Int32)), .int (0 : Int32)]) (rest := [.int x1]) C (ct_X7_of hc_55) k_47 (by decide) rfl wl_240 wl_241 wl_242 wl_5 wl_243 hd_X7_of ⟨Nat.le_of_ble_eq_true rfl, Nat.le_of_ble_eq_true rfl⟩ ⟨rfl, rfl⟩ ⟨Nat.zero_le _, Nat.zero_le _⟩ rfl (Nat.le_of_ble_eq_true rfl) rfl hl.1 hP hD hS dX7_band_69 (fun H locs hP hD hS => ?_)
            refine lv_icmp_lt (tgt := 78) hx hb dX7_band_72 (by decide) (fun c_56 => ?_) (fun c_56 => ?_)
            · replace h := ite_t h c_56
              exact (bs_X7_band_78 C) _ _ _ _ h hP hD hS _ (lv_sub hl [1, 2, 3, 4, 5, 0] rfl)
            · replace h := ite_f h c_56
              refine lv_ldc (own := RX7) (v := -2000000002) hx hb hown (hts _ wl_238) dX7_band_75 ?_
              cases h
              exact rt_i C hP hD hS dX7_band_77
        · replace h := ite_t h c_46
          refine lv_ldc (own := RX7) (v := -2000000001) hx hb hown (hts _ wl_160) dX7_band_45 ?_
          cases h
          exact rt_i C hP hD hS dX7_band_47
abbrev rm_X7_creep : Room := { frames := 3, cells := 0, slots := 0, locals := 66 }
theorem hd_X7_creep : yX7_creep.cls = RX7 ∧ yX7_creep.cls ≠ "java/lang/invoke/MethodHandle" ∧ yX7_creep.cls ≠ "java/lang/invoke/VarHandle" ∧ (parseMethodDescriptor yX7_creep.desc).map (fun d => d.parameters.length) = some 2 := ⟨rfl, by decide +kernel, by decide +kernel, by decide +kernel⟩
set_option maxHeartbeats 4000000 in
set_option maxRecDepth 100000 in
theorem ct_X7_creep {l : Launch} {D : va_G} {cy : Cy} {T : Ty} {R : Rm} {a0 : Nat} {x1 : Int32} {x2 : Int32} {M : Mm} {r : Int32} {M9 : Mm} (h : fn_X7_creep T R a0 x1 x2 M = some (r, M9)) : Ct QcI l yX7_creep cX7_creep 4 (some .int) rm_X7_creep D cy T M R [.ref a0, .int x1, .int x2] M9 R r := by
  unfold fn_X7_creep at h
  refine enter (plainFor_of_name (by decide +kernel)) (Nat.le_of_ble_eq_true rfl) (fun p e s m args below meth c A C hP hD hS ls hl => ?_)
  have hl : lv_has ls 4 [(0, .ref a0), (1, .int x1), (2, .int x2)] := hl
  obtain ⟨hx, hb, hr, hml, hown, hts, hK, hA, hlk, hSt⟩ := id C
  refine lv_aload_n hx hb dX7_creep_0 rfl (lv_at hl 0 rfl) ?_
  refine lv_iload_n hx hb dX7_creep_1 rfl (lv_at hl 1 rfl) ?_
  obtain ⟨k_1, h⟩ := chk_some h
  obtain ⟨r_2, M_3, hc_4, h⟩ := cal_some h
  refine cl_Vi (As := [.int x1]) (rest := []) C (ct_X7_isBand hc_4) k_1 (by decide) rfl wl_266 wl_267 wl_268 wl_5 wl_269 hd_X7_isBand ⟨Nat.le_of_ble_eq_true rfl, Nat.le_of_ble_eq_true rfl⟩ ⟨rfl, rfl⟩ ⟨Nat.zero_le _, Nat.zero_le _⟩ rfl (Nat.le_of_ble_eq_true rfl) rfl hl.1 hP hD hS dX7_creep_2 (fun H locs hP hD hS => ?_)
  refine lv_if_eq (tgt := 19) hx hb dX7_creep_5 (by decide) (fun c_5 => ?_) (fun c_5 => ?_)
  · replace h := ite_t h c_5
    refine lv_ldc (own := RX7) (v := -2000000001) hx hb hown (hts _ wl_160) dX7_creep_19 ?_
    cases h
    exact rt_i C hP hD hS dX7_creep_21
  · replace h := ite_f h c_5
    refine lv_iload_n hx hb dX7_creep_8 rfl (lv_at hl 2 rfl) ?_
    refine lv_iconst (v := 0) hx hb dX7_creep_9 (by decide) ?_
    refine lv_sipush (v := 500) hx hb dX7_creep_10 (by decide) ?_
    obtain ⟨r_6, M_7, hc_8, h⟩ := cal_some h
    refine cl_Si (As := [.int x2, .int (0 : Int32), .int (500 : Int32)]) (rest := []) C (ct_X7_in hc_8) wl_165 wl_166 wl_5 wl_167 hd_X7_in ⟨Nat.le_of_ble_eq_true rfl, Nat.le_of_ble_eq_true rfl⟩ ⟨rfl, rfl⟩ ⟨Nat.zero_le _, Nat.zero_le _⟩ rfl (Nat.le_of_ble_eq_true rfl) rfl hl.1 hP hD hS dX7_creep_13 (fun H locs hP hD hS => ?_)
    refine lv_if_ne (tgt := 22) hx hb dX7_creep_16 (by decide) (fun c_9 => ?_) (fun c_9 => ?_)
    · replace h := ite_f h c_9
      refine lv_aload_n hx hb dX7_creep_22 rfl (lv_at hl 0 rfl) ?_
      obtain ⟨r_10, M_11, hc_12, h⟩ := cal_some h
      refine cl_Vv (As := []) (rest := []) C (ct_X7_keep hc_12) k_1 (by decide) rfl wl_168 wl_169 wl_170 wl_5 wl_171 hd_X7_keep ⟨Nat.le_of_ble_eq_true rfl, Nat.le_of_ble_eq_true rfl⟩ ⟨rfl, rfl⟩ ⟨Nat.zero_le _, Nat.zero_le _⟩ rfl (Nat.le_of_ble_eq_true rfl) rfl hl.1 hP hD hS dX7_creep_23 (fun H locs hP hD hS => ?_)
      refine lv_aload_n hx hb dX7_creep_26 rfl (lv_at hl 0 rfl) ?_
      refine lv_iload_n hx hb dX7_creep_27 rfl (lv_at hl 1 rfl) ?_
      refine lv_iconst (v := 2) hx hb dX7_creep_28 (by decide) ?_
      obtain ⟨r_13, M_14, hc_15, h⟩ := cal_some h
      refine cl_Vi (As := [.int x1, .int (2 : Int32)]) (rest := []) C (ct_X7_of hc_15) k_1 (by decide) rfl wl_240 wl_241 wl_242 wl_5 wl_243 hd_X7_of ⟨Nat.le_of_ble_eq_true rfl, Nat.le_of_ble_eq_true rfl⟩ ⟨rfl, rfl⟩ ⟨Nat.zero_le _, Nat.zero_le _⟩ rfl (Nat.le_of_ble_eq_true rfl) rfl hl.1 hP hD hS dX7_creep_29 (fun H locs hP hD hS => ?_)
      refine lv_istore_n (lv' := [(3, .int r_13), (0, .ref a0), (1, .int x1), (2, .int x2)]) hx hb dX7_creep_32 rfl hl (by decide) rfl (fun ls hl => ?_)
      refine lv_aload_n hx hb dX7_creep_33 rfl (lv_at hl 1 rfl) ?_
      refine lv_iload_n hx hb dX7_creep_34 rfl (lv_at hl 2 rfl) ?_
      refine lv_iconst (v := 2) hx hb dX7_creep_35 (by decide) ?_
      refine lv_iload_n hx hb dX7_creep_36 rfl (lv_at hl 3 rfl) ?_
      obtain ⟨r_16, M_17, hc_18, h⟩ := cal_some h
      refine cl_Vv (As := [.int x1, .int (2 : Int32), .int x2]) (rest := []) C (ct_X7_put hc_18) k_1 (by decide) rfl wl_244 wl_245 wl_246 wl_5 wl_247 hd_X7_put ⟨Nat.le_of_ble_eq_true rfl, Nat.le_of_ble_eq_true rfl⟩ ⟨rfl, rfl⟩ ⟨Nat.zero_le _, Nat.zero_le _⟩ rfl (Nat.le_of_ble_eq_true rfl) rfl hl.1 hP hD hS dX7_creep_37 (fun H locs hP hD hS => ?_)
      refine lv_iload_n hx hb dX7_creep_40 rfl (lv_at hl 0 rfl) ?_
      cases h
      exact rt_i C hP hD hS dX7_creep_41
    · replace h := ite_t h c_9
      refine lv_ldc (own := RX7) (v := -2000000001) hx hb hown (hts _ wl_160) dX7_creep_19 ?_
      cases h
      exact rt_i C hP hD hS dX7_creep_21
abbrev rm_X7_snowOf : Room := { frames := 1, cells := 0, slots := 0, locals := 22 }
theorem hd_X7_snowOf : yX7_snowOf.cls = RX7 ∧ yX7_snowOf.cls ≠ "java/lang/invoke/MethodHandle" ∧ yX7_snowOf.cls ≠ "java/lang/invoke/VarHandle" ∧ (parseMethodDescriptor yX7_snowOf.desc).map (fun d => d.parameters.length) = some 1 := ⟨rfl, by decide +kernel, by decide +kernel, by decide +kernel⟩
set_option maxHeartbeats 4000000 in
set_option maxRecDepth 100000 in
theorem ct_X7_snowOf {l : Launch} {D : va_G} {cy : Cy} {T : Ty} {R : Rm} {a0 : Nat} {x1 : Int32} {M : Mm} {r : Int32} {M9 : Mm} (h : fn_X7_snowOf T R a0 x1 M = some (r, M9)) : Ct QcI l yX7_snowOf cX7_snowOf 3 (some .int) rm_X7_snowOf D cy T M R [.ref a0, .int x1] M9 R r := by
  unfold fn_X7_snowOf at h
  refine enter (plainFor_of_name (by decide +kernel)) (Nat.le_of_ble_eq_true rfl) (fun p e s m args below meth c A C hP hD hS ls hl => ?_)
  have hl : lv_has ls 3 [(0, .ref a0), (1, .int x1)] := hl
  obtain ⟨hx, hb, hr, hml, hown, hts, hK, hA, hlk, hSt⟩ := id C
  refine lv_aload_n hx hb dX7_snowOf_0 rfl (lv_at hl 0 rfl) ?_
  obtain ⟨k_1, h⟩ := chk_some h
  obtain ⟨b_2, eb_2, h⟩ := rfm_some h
  refine gf_7_0 C hP k_1 eb_2 wl_100 dX7_snowOf_1 ?_
  refine lv_iconst (v := 0) hx hb dX7_snowOf_4 (by decide) ?_
  obtain ⟨k_3, h⟩ := chk_some h
  obtain ⟨k_4, h⟩ := chk_some h
  refine ar_9 C hP k_3 k_4 dX7_snowOf_5 ?_
  refine lv_aload_n hx hb dX7_snowOf_6 rfl (lv_at hl 0 rfl) ?_
  refine gf_7_0 C hP k_1 eb_2 wl_100 dX7_snowOf_7 ?_
  refine lv_iconst (v := 1) hx hb dX7_snowOf_10 (by decide) ?_
  obtain ⟨k_5, h⟩ := chk_some h
  refine ar_9 C hP k_3 k_5 dX7_snowOf_11 ?_
  refine lv_i2l hx hb dX7_snowOf_12 rfl ?_
  refine lv_aload_n hx hb dX7_snowOf_13 rfl (lv_at hl 0 rfl) ?_
  refine lv_iload_n hx hb dX7_snowOf_14 rfl (lv_at hl 1 rfl) ?_
  refine lv_iconst (v := 0) hx hb dX7_snowOf_15 (by decide) ?_
  obtain ⟨r_6, M_7, hc_8, h⟩ := cal_some h
  refine cl_Vi (As := [.int x1, .int (0 : Int32)]) (rest := [.long ((gI M b_2 (1 : Int32).toNatClampNeg).toInt64), .int (gI M b_2 (0 : Int32).toNatClampNeg)]) C (ct_X7_of hc_8) k_1 (by decide) rfl wl_240 wl_241 wl_242 wl_5 wl_243 hd_X7_of ⟨Nat.le_of_ble_eq_true rfl, Nat.le_of_ble_eq_true rfl⟩ ⟨rfl, rfl⟩ ⟨Nat.zero_le _, Nat.zero_le _⟩ rfl (Nat.le_of_ble_eq_true rfl) rfl hl.1 hP hD hS dX7_snowOf_16 (fun H locs hP hD hS => ?_)
  refine lv_aload_n hx hb dX7_snowOf_19 rfl (lv_at hl 0 rfl) ?_
  refine gf_7_0 C hP k_1 eb_2 wl_100 dX7_snowOf_20 ?_
  refine lv_iconst (v := 4) hx hb dX7_snowOf_23 (by decide) ?_
  obtain ⟨k_9, h⟩ := chk_some h
  refine ar_9 C hP k_3 k_9 dX7_snowOf_24 ?_
  refine lv_isub hx hb dX7_snowOf_25 ?_
  refine lv_i2l hx hb dX7_snowOf_26 rfl ?_
  refine lv_lmul hx hb dX7_snowOf_27 ?_
  refine lv_bipush (v := 100) hx hb dX7_snowOf_28 (by decide) ?_
  obtain ⟨r_10, M_11, hc_12, h⟩ := cal_some h
  refine cl_Si (As := [.long (((gI M b_2 (1 : Int32).toNatClampNeg).toInt64) * ((r_6 - (gI M_7 b_2 (4 : Int32).toNatClampNeg)).toInt64)), .int (100 : Int32)]) (rest := [.int (gI M b_2 (0 : Int32).toNatClampNeg)]) C (ct_X7_floor hc_12) wl_329 wl_330 wl_5 wl_331 hd_X7_floor ⟨Nat.le_of_ble_eq_true rfl, Nat.le_of_ble_eq_true rfl⟩ ⟨rfl, rfl⟩ ⟨Nat.zero_le _, Nat.zero_le _⟩ rfl (Nat.le_of_ble_eq_true rfl) rfl hl.1 hP hD hS dX7_snowOf_30 (fun H locs hP hD hS => ?_)
  refine lv_iadd hx hb dX7_snowOf_33 ?_
  refine lv_topi (fun v_13 ev_13 => ?_)
  replace h := bnd_at h ev_13
  refine lv_istore_n (lv' := [(2, .int v_13), (0, .ref a0), (1, .int x1)]) hx hb dX7_snowOf_34 rfl hl (by decide) rfl (fun ls hl => ?_)
  refine lv_iload_n hx hb dX7_snowOf_35 rfl (lv_at hl 0 rfl) ?_
  refine lv_if_ge (tgt := 43) hx hb dX7_snowOf_36 (by decide) (fun c_14 => ?_) (fun c_14 => ?_)
  · replace h := ite_t h c_14
    refine lv_iload_n hx hb dX7_snowOf_43 rfl (lv_at hl 0 rfl) ?_
    cases h
    exact rt_i C hP hD hS dX7_snowOf_44
  · replace h := ite_f h c_14
    refine lv_iconst (v := 0) hx hb dX7_snowOf_39 (by decide) ?_
    refine lv_goto (tgt := 44) hx hb dX7_snowOf_40 (by decide) ?_
    cases h
    exact rt_i C hP hD hS dX7_snowOf_44
abbrev rm_X7_meltOf : Room := { frames := 1, cells := 0, slots := 0, locals := 22 }
theorem hd_X7_meltOf : yX7_meltOf.cls = RX7 ∧ yX7_meltOf.cls ≠ "java/lang/invoke/MethodHandle" ∧ yX7_meltOf.cls ≠ "java/lang/invoke/VarHandle" ∧ (parseMethodDescriptor yX7_meltOf.desc).map (fun d => d.parameters.length) = some 1 := ⟨rfl, by decide +kernel, by decide +kernel, by decide +kernel⟩
set_option maxHeartbeats 4000000 in
set_option maxRecDepth 100000 in
theorem ct_X7_meltOf {l : Launch} {D : va_G} {cy : Cy} {T : Ty} {R : Rm} {a0 : Nat} {x1 : Int32} {M : Mm} {r : Int32} {M9 : Mm} (h : fn_X7_meltOf T R a0 x1 M = some (r, M9)) : Ct QcI l yX7_meltOf cX7_meltOf 3 (some .int) rm_X7_meltOf D cy T M R [.ref a0, .int x1] M9 R r := by
  unfold fn_X7_meltOf at h
  refine enter (plainFor_of_name (by decide +kernel)) (Nat.le_of_ble_eq_true rfl) (fun p e s m args below meth c A C hP hD hS ls hl => ?_)
  have hl : lv_has ls 3 [(0, .ref a0), (1, .int x1)] := hl
  obtain ⟨hx, hb, hr, hml, hown, hts, hK, hA, hlk, hSt⟩ := id C
  refine lv_aload_n hx hb dX7_meltOf_0 rfl (lv_at hl 0 rfl) ?_
  obtain ⟨k_1, h⟩ := chk_some h
  obtain ⟨b_2, eb_2, h⟩ := rfm_some h
  refine gf_7_0 C hP k_1 eb_2 wl_100 dX7_meltOf_1 ?_
  refine lv_iconst (v := 2) hx hb dX7_meltOf_4 (by decide) ?_
  obtain ⟨k_3, h⟩ := chk_some h
  obtain ⟨k_4, h⟩ := chk_some h
  refine ar_9 C hP k_3 k_4 dX7_meltOf_5 ?_
  refine lv_aload_n hx hb dX7_meltOf_6 rfl (lv_at hl 0 rfl) ?_
  refine gf_7_0 C hP k_1 eb_2 wl_100 dX7_meltOf_7 ?_
  refine lv_iconst (v := 3) hx hb dX7_meltOf_10 (by decide) ?_
  obtain ⟨k_5, h⟩ := chk_some h
  refine ar_9 C hP k_3 k_5 dX7_meltOf_11 ?_
  refine lv_i2l hx hb dX7_meltOf_12 rfl ?_
  refine lv_aload_n hx hb dX7_meltOf_13 rfl (lv_at hl 0 rfl) ?_
  refine lv_iload_n hx hb dX7_meltOf_14 rfl (lv_at hl 1 rfl) ?_
  refine lv_iconst (v := 0) hx hb dX7_meltOf_15 (by decide) ?_
  obtain ⟨r_6, M_7, hc_8, h⟩ := cal_some h
  refine cl_Vi (As := [.int x1, .int (0 : Int32)]) (rest := [.long ((gI M b_2 (3 : Int32).toNatClampNeg).toInt64), .int (gI M b_2 (2 : Int32).toNatClampNeg)]) C (ct_X7_of hc_8) k_1 (by decide) rfl wl_240 wl_241 wl_242 wl_5 wl_243 hd_X7_of ⟨Nat.le_of_ble_eq_true rfl, Nat.le_of_ble_eq_true rfl⟩ ⟨rfl, rfl⟩ ⟨Nat.zero_le _, Nat.zero_le _⟩ rfl (Nat.le_of_ble_eq_true rfl) rfl hl.1 hP hD hS dX7_meltOf_16 (fun H locs hP hD hS => ?_)
  refine lv_aload_n hx hb dX7_meltOf_19 rfl (lv_at hl 0 rfl) ?_
  refine gf_7_0 C hP k_1 eb_2 wl_100 dX7_meltOf_20 ?_
  refine lv_iconst (v := 4) hx hb dX7_meltOf_23 (by decide) ?_
  obtain ⟨k_9, h⟩ := chk_some h
  refine ar_9 C hP k_3 k_9 dX7_meltOf_24 ?_
  refine lv_isub hx hb dX7_meltOf_25 ?_
  refine lv_i2l hx hb dX7_meltOf_26 rfl ?_
  refine lv_lmul hx hb dX7_meltOf_27 ?_
  refine lv_bipush (v := 100) hx hb dX7_meltOf_28 (by decide) ?_
  obtain ⟨r_10, M_11, hc_12, h⟩ := cal_some h
  refine cl_Si (As := [.long (((gI M b_2 (3 : Int32).toNatClampNeg).toInt64) * ((r_6 - (gI M_7 b_2 (4 : Int32).toNatClampNeg)).toInt64)), .int (100 : Int32)]) (rest := [.int (gI M b_2 (2 : Int32).toNatClampNeg)]) C (ct_X7_floor hc_12) wl_329 wl_330 wl_5 wl_331 hd_X7_floor ⟨Nat.le_of_ble_eq_true rfl, Nat.le_of_ble_eq_true rfl⟩ ⟨rfl, rfl⟩ ⟨Nat.zero_le _, Nat.zero_le _⟩ rfl (Nat.le_of_ble_eq_true rfl) rfl hl.1 hP hD hS dX7_meltOf_30 (fun H locs hP hD hS => ?_)
  refine lv_isub hx hb dX7_meltOf_33 ?_
  refine lv_topi (fun v_13 ev_13 => ?_)
  replace h := bnd_at h ev_13
  refine lv_istore_n (lv' := [(2, .int v_13), (0, .ref a0), (1, .int x1)]) hx hb dX7_meltOf_34 rfl hl (by decide) rfl (fun ls hl => ?_)
  refine lv_iload_n hx hb dX7_meltOf_35 rfl (lv_at hl 0 rfl) ?_
  refine lv_if_ge (tgt := 43) hx hb dX7_meltOf_36 (by decide) (fun c_14 => ?_) (fun c_14 => ?_)
  · replace h := ite_t h c_14
    refine lv_iload_n hx hb dX7_meltOf_43 rfl (lv_at hl 0 rfl) ?_
    cases h
    exact rt_i C hP hD hS dX7_meltOf_44
  · replace h := ite_f h c_14
    refine lv_iconst (v := 0) hx hb dX7_meltOf_39 (by decide) ?_
    refine lv_goto (tgt := 44) hx hb dX7_meltOf_40 (by decide) ?_
    cases h
    exact rt_i C hP hD hS dX7_meltOf_44
abbrev rm_X7_layersOf : Room := { frames := 0, cells := 0, slots := 0, locals := 0 }
theorem hd_X7_layersOf : yX7_layersOf.cls = RX7 ∧ yX7_layersOf.cls ≠ "java/lang/invoke/MethodHandle" ∧ yX7_layersOf.cls ≠ "java/lang/invoke/VarHandle" ∧ (parseMethodDescriptor yX7_layersOf.desc).map (fun d => d.parameters.length) = some 1 := ⟨rfl, by decide +kernel, by decide +kernel, by decide +kernel⟩
set_option maxHeartbeats 4000000 in
set_option maxRecDepth 100000 in
theorem bs_X7_layersOf_36 {p : Program} {l : Launch} {e : Env} {s : State} {m : MethodId} {args : Array Value} {below : List Frame} {meth : Method} {c : Code} {D : va_G} {cy : Cy} {A : Nat → Prop} {T : Ty} {R : Rm} {r : Int32} {M9 : Mm} {a0 : Nat} {x1 : Int32} {j4 : Int32 → Int32 → Mm → Option (Int32 × Mm)} (C : Cx RX7 cX7_layersOf 4 (some .int) p s m args meth c D cy A)
    (hj4 : ∀ (x2 : Int32) (x3 : Int32) (M : Mm) (H : Heap) (locs : List Loc), j4 x2 x3 M = some (r, M9) → va_P D vwCl (WL cy T M R) H → va_D A (WL cy T M R) → va_S A s.heap H locs → ∀ ls : Array Slot, lv_has ls 4 [(0, .ref a0), (1, .int x1), (2, .int x2), (3, .int x3)] → W p l e rm_X7_layersOf s m args below meth c H locs 0 0 (MQ below (QcI D cy T M9 R A r) args s 0 0 A) (F0 m 4 ls [])) :
    ∀ (x3 : Int32) (s0 : Int32) (s1 : Int32) (M : Mm) (H : Heap) (locs : List Loc), fs_X7_layersOf_36 T R a0 x1 j4 x3 s0 s1 M = some (r, M9) → va_P D vwCl (WL cy T M R) H → va_D A (WL cy T M R) → va_S A s.heap H locs → ∀ ls : Array Slot, lv_has ls 4 [(0, .ref a0), (1, .int x1), (3, .int x3)] → W p l e rm_X7_layersOf s m args below meth c H locs 0 0 (MQ below (QcI D cy T M9 R A r) args s 0 0 A) (F0 m 36 ls [.int s1, .int s0]) := by
  intro x3 s0 s1 M H locs h hP hD hS ls hl
  unfold fs_X7_layersOf_36 at h
  obtain ⟨hx, hb, hr, hml, hown, hts, hK, hA, hlk, hSt⟩ := id C
  refine lv_iadd hx hb dX7_layersOf_36 ?_
  refine lv_topi (fun v_1 ev_1 => ?_)
  replace h := bnd_at h ev_1
  refine lv_istore_n (lv' := [(2, .int v_1), (0, .ref a0), (1, .int x1), (3, .int x3)]) hx hb dX7_layersOf_37 rfl hl (by decide) rfl (fun ls hl => ?_)
  obtain ⟨v_2, ev_2⟩ : ∃ y : Int32, y = (x3 + (1 : Int32)) := ⟨_, rfl⟩
  replace h := bnd_at h ev_2
  refine lv_iinc (v := v_2) (lv' := [(3, .int v_2), (2, .int v_1), (0, .ref a0), (1, .int x1)]) hx hb dX7_layersOf_38 hl (k := 3) rfl (by rw [ev_2]; rfl) (by decide) rfl (fun ls hl => ?_)
  refine lv_goto (tgt := 4) hx hb dX7_layersOf_41 (by decide) ?_
  exact hj4 _ _ _ _ _ h hP hD hS _ (lv_sub hl [2, 3, 1, 0] rfl)
set_option maxHeartbeats 4000000 in
set_option maxRecDepth 100000 in
theorem bs_X7_layersOf_4 {p : Program} {l : Launch} {e : Env} {s : State} {m : MethodId} {args : Array Value} {below : List Frame} {meth : Method} {c : Code} {D : va_G} {cy : Cy} {A : Nat → Prop} {T : Ty} {R : Rm} {r : Int32} {M9 : Mm} {a0 : Nat} {x1 : Int32} {j4 : Int32 → Int32 → Mm → Option (Int32 × Mm)} (C : Cx RX7 cX7_layersOf 4 (some .int) p s m args meth c D cy A)
    (hj4 : ∀ (x2 : Int32) (x3 : Int32) (M : Mm) (H : Heap) (locs : List Loc), j4 x2 x3 M = some (r, M9) → va_P D vwCl (WL cy T M R) H → va_D A (WL cy T M R) → va_S A s.heap H locs → ∀ ls : Array Slot, lv_has ls 4 [(0, .ref a0), (1, .int x1), (2, .int x2), (3, .int x3)] → W p l e rm_X7_layersOf s m args below meth c H locs 0 0 (MQ below (QcI D cy T M9 R A r) args s 0 0 A) (F0 m 4 ls [])) :
    ∀ (x2 : Int32) (x3 : Int32) (M : Mm) (H : Heap) (locs : List Loc), fs_X7_layersOf_4 T R a0 x1 j4 x2 x3 M = some (r, M9) → va_P D vwCl (WL cy T M R) H → va_D A (WL cy T M R) → va_S A s.heap H locs → ∀ ls : Array Slot, lv_has ls 4 [(0, .ref a0), (1, .int x1), (2, .int x2), (3, .int x3)] → W p l e rm_X7_layersOf s m args below meth c H locs 0 0 (MQ below (QcI D cy T M9 R A r) args s 0 0 A) (F0 m 4 ls []) := by
  intro x2 x3 M H locs h hP hD hS ls hl
  unfold fs_X7_layersOf_4 at h
  obtain ⟨hx, hb, hr, hml, hown, hts, hK, hA, hlk, hSt⟩ := id C
  refine lv_iload_n hx hb dX7_layersOf_4 rfl (lv_at hl 3 rfl) ?_
  refine lv_aload_n hx hb dX7_layersOf_5 rfl (lv_at hl 0 rfl) ?_
  obtain ⟨k_3, h⟩ := chk_some h
  obtain ⟨b_4, eb_4, h⟩ := rfm_some h
  refine gf_7_0 C hP k_3 eb_4 wl_100 dX7_layersOf_6 ?_
  refine lv_bipush (v := 7) hx hb dX7_layersOf_9 (by decide) ?_
  obtain ⟨k_5, h⟩ := chk_some h
  obtain ⟨k_6, h⟩ := chk_some h
  refine ar_9 C hP k_5 k_6 dX7_layersOf_11 ?_
  refine lv_icmp_gt (tgt := 44) hx hb dX7_layersOf_12 (by decide) (fun c_7 => ?_) (fun c_7 => ?_)
  · replace h := ite_t h c_7
    refine lv_iload_n hx hb dX7_layersOf_44 rfl (lv_at hl 2 rfl) ?_
    cases h
    exact rt_i C hP hD hS dX7_layersOf_45
  · replace h := ite_f h c_7
    refine lv_iload_n hx hb dX7_layersOf_15 rfl (lv_at hl 2 rfl) ?_
    refine lv_aload_n hx hb dX7_layersOf_16 rfl (lv_at hl 0 rfl) ?_
    obtain ⟨b_8, eb_8, h⟩ := rfm_some h
    refine gf_7_1 C hP k_3 eb_8 wl_101 dX7_layersOf_17 ?_
    refine lv_sipush (v := 801) hx hb dX7_layersOf_20 (by decide) ?_
    refine lv_iload_n hx hb dX7_layersOf_23 rfl (lv_at hl 1 rfl) ?_
    refine lv_imul hx hb dX7_layersOf_24 ?_
    refine lv_iload_n hx hb dX7_layersOf_25 rfl (lv_at hl 3 rfl) ?_
    refine lv_iadd hx hb dX7_layersOf_26 ?_
    obtain ⟨k_9, h⟩ := chk_some h
    obtain ⟨k_10, h⟩ := chk_some h
    refine ar_9 C hP k_9 k_10 dX7_layersOf_27 ?_
    refine lv_if_le (tgt := 35) hx hb dX7_layersOf_28 (by decide) (fun c_11 => ?_) (fun c_11 => ?_)
    · replace h := ite_t h c_11
      refine lv_iconst (v := 0) hx hb dX7_layersOf_35 (by decide) ?_
      exact (bs_X7_layersOf_36 C hj4) _ _ _ _ _ _ h hP hD hS _ (lv_sub hl [0, 1, 3] rfl)
    · replace h := ite_f h c_11
      refine lv_iconst (v := 1) hx hb dX7_layersOf_31 (by decide) ?_
      refine lv_goto (tgt := 36) hx hb dX7_layersOf_32 (by decide) ?_
      exact (bs_X7_layersOf_36 C hj4) _ _ _ _ _ _ h hP hD hS _ (lv_sub hl [0, 1, 3] rfl)
theorem bt_X7_layersOf_4 {p : Program} {l : Launch} {e : Env} {s : State} {m : MethodId} {args : Array Value} {below : List Frame} {meth : Method} {c : Code} {D : va_G} {cy : Cy} {A : Nat → Prop} {T : Ty} {R : Rm} {r : Int32} {M9 : Mm} {a0 : Nat} {x1 : Int32} (C : Cx RX7 cX7_layersOf 4 (some .int) p s m args meth c D cy A) :
    ∀ n : Nat, ∀ (x2 : Int32) (x3 : Int32) (M : Mm) (H : Heap) (locs : List Loc), fb_X7_layersOf_4 T R a0 x1 n x2 x3 M = some (r, M9) → va_P D vwCl (WL cy T M R) H → va_D A (WL cy T M R) → va_S A s.heap H locs → ∀ ls : Array Slot, lv_has ls 4 [(0, .ref a0), (1, .int x1), (2, .int x2), (3, .int x3)] → W p l e rm_X7_layersOf s m args below meth c H locs 0 0 (MQ below (QcI D cy T M9 R A r) args s 0 0 A) (F0 m 4 ls []) := by
  intro n
  induction n with
  | zero =>
    intro _ _ _ H locs h
    exact absurd (show (none : Option (Int32 × Mm)) = some _ from h) (by simp)
  | succ n ih => exact fun u0 u1 u2 H locs h => bs_X7_layersOf_4 (a0 := a0) (x1 := x1) C ih u0 u1 u2 H locs h
set_option maxHeartbeats 4000000 in
set_option maxRecDepth 100000 in
theorem ct_X7_layersOf {l : Launch} {D : va_G} {cy : Cy} {T : Ty} {R : Rm} {a0 : Nat} {x1 : Int32} {M : Mm} {r : Int32} {M9 : Mm} (h : fn_X7_layersOf T R a0 x1 M = some (r, M9)) : Ct QcI l yX7_layersOf cX7_layersOf 4 (some .int) rm_X7_layersOf D cy T M R [.ref a0, .int x1] M9 R r := by
  unfold fn_X7_layersOf at h
  refine enter (plainFor_of_name (by decide +kernel)) (Nat.le_of_ble_eq_true rfl) (fun p e s m args below meth c A C hP hD hS ls hl => ?_)
  have hl : lv_has ls 4 [(0, .ref a0), (1, .int x1)] := hl
  obtain ⟨hx, hb, hr, hml, hown, hts, hK, hA, hlk, hSt⟩ := id C
  refine lv_iconst (v := 0) hx hb dX7_layersOf_0 (by decide) ?_
  refine lv_istore_n (lv' := [(2, .int (0 : Int32)), (0, .ref a0), (1, .int x1)]) hx hb dX7_layersOf_1 rfl hl (by decide) rfl (fun ls hl => ?_)
  refine lv_iconst (v := 0) hx hb dX7_layersOf_2 (by decide) ?_
  refine lv_istore_n (lv' := [(3, .int (0 : Int32)), (2, .int (0 : Int32)), (0, .ref a0), (1, .int x1)]) hx hb dX7_layersOf_3 rfl hl (by decide) rfl (fun ls hl => ?_)
  exact (bt_X7_layersOf_4 C FU) _ _ _ _ _ h hP hD hS _ (lv_sub hl [2, 3, 1, 0] rfl)
abbrev rm_X7_yearOf : Room := { frames := 0, cells := 0, slots := 0, locals := 0 }
theorem hd_X7_yearOf : yX7_yearOf.cls = RX7 ∧ yX7_yearOf.cls ≠ "java/lang/invoke/MethodHandle" ∧ yX7_yearOf.cls ≠ "java/lang/invoke/VarHandle" ∧ (parseMethodDescriptor yX7_yearOf.desc).map (fun d => d.parameters.length) = some 2 := ⟨rfl, by decide +kernel, by decide +kernel, by decide +kernel⟩
set_option maxHeartbeats 4000000 in
set_option maxRecDepth 100000 in
theorem bs_X7_yearOf_43 {p : Program} {l : Launch} {e : Env} {s : State} {m : MethodId} {args : Array Value} {below : List Frame} {meth : Method} {c : Code} {D : va_G} {cy : Cy} {A : Nat → Prop} {T : Ty} {R : Rm} {r : Int32} {M9 : Mm} {a0 : Nat} {x1 : Int32} {x2 : Int32} {j5 : Int32 → Int32 → Mm → Option (Int32 × Mm)} (C : Cx RX7 cX7_yearOf 5 (some .int) p s m args meth c D cy A)
    (hj5 : ∀ (x3 : Int32) (x4 : Int32) (M : Mm) (H : Heap) (locs : List Loc), j5 x3 x4 M = some (r, M9) → va_P D vwCl (WL cy T M R) H → va_D A (WL cy T M R) → va_S A s.heap H locs → ∀ ls : Array Slot, lv_has ls 5 [(0, .ref a0), (1, .int x1), (3, .int x3), (4, .int x4)] → W p l e rm_X7_yearOf s m args below meth c H locs 0 0 (MQ below (QcI D cy T M9 R A r) args s 0 0 A) (F0 m 5 ls [])) :
    ∀ (x3 : Int32) (x4 : Int32) (M : Mm) (H : Heap) (locs : List Loc), fs_X7_yearOf_43 T R a0 x1 x2 j5 x3 x4 M = some (r, M9) → va_P D vwCl (WL cy T M R) H → va_D A (WL cy T M R) → va_S A s.heap H locs → ∀ ls : Array Slot, lv_has ls 5 [(0, .ref a0), (1, .int x1), (3, .int x3), (4, .int x4)] → W p l e rm_X7_yearOf s m args below meth c H locs 0 0 (MQ below (QcI D cy T M9 R A r) args s 0 0 A) (F0 m 43 ls []) := by
  intro x3 x4 M H locs h hP hD hS ls hl
  unfold fs_X7_yearOf_43 at h
  obtain ⟨hx, hb, hr, hml, hown, hts, hK, hA, hlk, hSt⟩ := id C
  obtain ⟨v_1, ev_1⟩ : ∃ y : Int32, y = (x4 + (1 : Int32)) := ⟨_, rfl⟩
  replace h := bnd_at h ev_1
  refine lv_iinc (v := v_1) (lv' := [(4, .int v_1), (0, .ref a0), (1, .int x1), (3, .int x3)]) hx hb dX7_yearOf_43 hl (k := 3) rfl (by rw [ev_1]; rfl) (by decide) rfl (fun ls hl => ?_)
  refine lv_goto (tgt := 5) hx hb dX7_yearOf_46 (by decide) ?_
  exact hj5 _ _ _ _ _ h hP hD hS _ (lv_sub hl [1, 2, 3, 0] rfl)
set_option maxHeartbeats 4000000 in
set_option maxRecDepth 100000 in
theorem bs_X7_yearOf_5 {p : Program} {l : Launch} {e : Env} {s : State} {m : MethodId} {args : Array Value} {below : List Frame} {meth : Method} {c : Code} {D : va_G} {cy : Cy} {A : Nat → Prop} {T : Ty} {R : Rm} {r : Int32} {M9 : Mm} {a0 : Nat} {x1 : Int32} {x2 : Int32} {j5 : Int32 → Int32 → Mm → Option (Int32 × Mm)} (C : Cx RX7 cX7_yearOf 5 (some .int) p s m args meth c D cy A)
    (hj5 : ∀ (x3 : Int32) (x4 : Int32) (M : Mm) (H : Heap) (locs : List Loc), j5 x3 x4 M = some (r, M9) → va_P D vwCl (WL cy T M R) H → va_D A (WL cy T M R) → va_S A s.heap H locs → ∀ ls : Array Slot, lv_has ls 5 [(0, .ref a0), (1, .int x1), (3, .int x3), (4, .int x4)] → W p l e rm_X7_yearOf s m args below meth c H locs 0 0 (MQ below (QcI D cy T M9 R A r) args s 0 0 A) (F0 m 5 ls [])) :
    ∀ (x3 : Int32) (x4 : Int32) (M : Mm) (H : Heap) (locs : List Loc), fs_X7_yearOf_5 T R a0 x1 x2 j5 x3 x4 M = some (r, M9) → va_P D vwCl (WL cy T M R) H → va_D A (WL cy T M R) → va_S A s.heap H locs → ∀ ls : Array Slot, lv_has ls 5 [(0, .ref a0), (1, .int x1), (3, .int x3), (4, .int x4)] → W p l e rm_X7_yearOf s m args below meth c H locs 0 0 (MQ below (QcI D cy T M9 R A r) args s 0 0 A) (F0 m 5 ls []) := by
  intro x3 x4 M H locs h hP hD hS ls hl
  unfold fs_X7_yearOf_5 at h
  obtain ⟨hx, hb, hr, hml, hown, hts, hK, hA, hlk, hSt⟩ := id C
  refine lv_iload hx hb dX7_yearOf_5 (lv_at hl 3 rfl) ?_
  refine lv_aload_n hx hb dX7_yearOf_7 rfl (lv_at hl 0 rfl) ?_
  obtain ⟨k_2, h⟩ := chk_some h
  obtain ⟨b_3, eb_3, h⟩ := rfm_some h
  refine gf_7_0 C hP k_2 eb_3 wl_100 dX7_yearOf_8 ?_
  refine lv_bipush (v := 7) hx hb dX7_yearOf_11 (by decide) ?_
  obtain ⟨k_4, h⟩ := chk_some h
  obtain ⟨k_5, h⟩ := chk_some h
  refine ar_9 C hP k_4 k_5 dX7_yearOf_13 ?_
  refine lv_icmp_gt (tgt := 49) hx hb dX7_yearOf_14 (by decide) (fun c_6 => ?_) (fun c_6 => ?_)
  · replace h := ite_t h c_6
    refine lv_iconst (v := -1) hx hb dX7_yearOf_49 (by decide) ?_
    cases h
    exact rt_i C hP hD hS dX7_yearOf_50
  · replace h := ite_f h c_6
    refine lv_aload_n hx hb dX7_yearOf_17 rfl (lv_at hl 0 rfl) ?_
    obtain ⟨b_7, eb_7, h⟩ := rfm_some h
    refine gf_7_1 C hP k_2 eb_7 wl_101 dX7_yearOf_18 ?_
    refine lv_sipush (v := 801) hx hb dX7_yearOf_21 (by decide) ?_
    refine lv_iload_n hx hb dX7_yearOf_24 rfl (lv_at hl 1 rfl) ?_
    refine lv_imul hx hb dX7_yearOf_25 ?_
    refine lv_iload hx hb dX7_yearOf_26 (lv_at hl 3 rfl) ?_
    refine lv_iadd hx hb dX7_yearOf_28 ?_
    obtain ⟨k_8, h⟩ := chk_some h
    obtain ⟨k_9, h⟩ := chk_some h
    refine ar_9 C hP k_8 k_9 dX7_yearOf_29 ?_
    refine lv_if_le (tgt := 43) hx hb dX7_yearOf_30 (by decide) (fun c_10 => ?_) (fun c_10 => ?_)
    · replace h := ite_t h c_10
      exact (bs_X7_yearOf_43 C hj5) _ _ _ _ _ h hP hD hS _ (lv_sub hl [0, 1, 2, 3] rfl)
    · replace h := ite_f h c_10
      refine lv_iload_n hx hb dX7_yearOf_33 rfl (lv_at hl 2 rfl) ?_
      refine lv_if_ne (tgt := 40) hx hb dX7_yearOf_34 (by decide) (fun c_11 => ?_) (fun c_11 => ?_)
      · replace h := ite_f h c_11
        obtain ⟨v_12, ev_12⟩ : ∃ y : Int32, y = (x3 + (-1 : Int32)) := ⟨_, rfl⟩
        replace h := bnd_at h ev_12
        refine lv_iinc (v := v_12) (lv' := [(3, .int v_12), (0, .ref a0), (1, .int x1), (4, .int x4)]) hx hb dX7_yearOf_40 hl (k := 2) rfl (by rw [ev_12]; rfl) (by decide) rfl (fun ls hl => ?_)
        exact (bs_X7_yearOf_43 C hj5) _ _ _ _ _ h hP hD hS _ (lv_sub hl [1, 2, 0, 3] rfl)
      · replace h := ite_t h c_11
        refine lv_iload hx hb dX7_yearOf_37 (lv_at hl 3 rfl) ?_
        cases h
        exact rt_i C hP hD hS dX7_yearOf_39
theorem bt_X7_yearOf_5 {p : Program} {l : Launch} {e : Env} {s : State} {m : MethodId} {args : Array Value} {below : List Frame} {meth : Method} {c : Code} {D : va_G} {cy : Cy} {A : Nat → Prop} {T : Ty} {R : Rm} {r : Int32} {M9 : Mm} {a0 : Nat} {x1 : Int32} {x2 : Int32} (C : Cx RX7 cX7_yearOf 5 (some .int) p s m args meth c D cy A) :
    ∀ n : Nat, ∀ (x3 : Int32) (x4 : Int32) (M : Mm) (H : Heap) (locs : List Loc), fb_X7_yearOf_5 T R a0 x1 x2 n x3 x4 M = some (r, M9) → va_P D vwCl (WL cy T M R) H → va_D A (WL cy T M R) → va_S A s.heap H locs → ∀ ls : Array Slot, lv_has ls 5 [(0, .ref a0), (1, .int x1), (3, .int x3), (4, .int x4)] → W p l e rm_X7_yearOf s m args below meth c H locs 0 0 (MQ below (QcI D cy T M9 R A r) args s 0 0 A) (F0 m 5 ls []) := by
  intro n
  induction n with
  | zero =>
    intro _ _ _ H locs h
    exact absurd (show (none : Option (Int32 × Mm)) = some _ from h) (by simp)
  | succ n ih => exact fun u0 u1 u2 H locs h => bs_X7_yearOf_5 (a0 := a0) (x1 := x1) (x2 := x2) C ih u0 u1 u2 H locs h
set_option maxHeartbeats 4000000 in
set_option maxRecDepth 100000 in
theorem ct_X7_yearOf {l : Launch} {D : va_G} {cy : Cy} {T : Ty} {R : Rm} {a0 : Nat} {x1 : Int32} {x2 : Int32} {M : Mm} {r : Int32} {M9 : Mm} (h : fn_X7_yearOf T R a0 x1 x2 M = some (r, M9)) : Ct QcI l yX7_yearOf cX7_yearOf 5 (some .int) rm_X7_yearOf D cy T M R [.ref a0, .int x1, .int x2] M9 R r := by
  unfold fn_X7_yearOf at h
  refine enter (plainFor_of_name (by decide +kernel)) (Nat.le_of_ble_eq_true rfl) (fun p e s m args below meth c A C hP hD hS ls hl => ?_)
  have hl : lv_has ls 5 [(0, .ref a0), (1, .int x1), (2, .int x2)] := hl
  obtain ⟨hx, hb, hr, hml, hown, hts, hK, hA, hlk, hSt⟩ := id C
  refine lv_iload_n hx hb dX7_yearOf_0 rfl (lv_at hl 2 rfl) ?_
  refine lv_istore_n (lv' := [(3, .int x2), (0, .ref a0), (1, .int x1), (2, .int x2)]) hx hb dX7_yearOf_1 rfl hl (by decide) rfl (fun ls hl => ?_)
  refine lv_iconst (v := 0) hx hb dX7_yearOf_2 (by decide) ?_
  refine lv_istore (lv' := [(4, .int (0 : Int32)), (3, .int x2), (0, .ref a0), (1, .int x1), (2, .int x2)]) hx hb dX7_yearOf_3 hl (by decide) rfl (fun ls hl => ?_)
  exact (bt_X7_yearOf_5 C FU) _ _ _ _ _ h hP hD hS _ (lv_sub hl [2, 3, 1, 0] rfl)
abbrev rm_X7_found : Room := { frames := 0, cells := 0, slots := 0, locals := 0 }
theorem hd_X7_found : yX7_found.cls ≠ "java/lang/invoke/MethodHandle" ∧ yX7_found.cls ≠ "java/lang/invoke/VarHandle" ∧ (parseMethodDescriptor yX7_found.desc).map (fun d => d.parameters.length) = some 1 := ⟨by decide +kernel, by decide +kernel, by decide +kernel⟩
set_option maxHeartbeats 4000000 in
set_option maxRecDepth 100000 in
theorem ct_X7_found {l : Launch} {D : va_G} {cy : Cy} {T : Ty} {R : Rm} {x0 : Int32} {M : Mm} {r : Int32} {M9 : Mm} (h : fn_X7_found T R x0 M = some (r, M9)) : Ct QcI l yX7_found cX7_found 1 (some .int) rm_X7_found D cy T M R [.int x0] M9 R r := by
  unfold fn_X7_found at h
  refine enter (plainFor_of_name (by decide +kernel)) (Nat.le_of_ble_eq_true rfl) (fun p e s m args below meth c A C hP hD hS ls hl => ?_)
  have hl : lv_has ls 1 [(0, .int x0)] := hl
  obtain ⟨hx, hb, hr, hml, hown, hts, hK, hA, hlk, hSt⟩ := id C
  refine lv_iload_n hx hb dX7_found_0 rfl (lv_at hl 0 rfl) ?_
  refine lv_iconst (v := -1) hx hb dX7_found_1 (by decide) ?_
  refine lv_icmp_ne (tgt := 10) hx hb dX7_found_2 (by decide) (fun c_1 => ?_) (fun c_1 => ?_)
  · replace h := ite_f h c_1
    refine lv_iload_n hx hb dX7_found_10 rfl (lv_at hl 0 rfl) ?_
    cases h
    exact rt_i C hP hD hS dX7_found_11
  · replace h := ite_t h c_1
    refine lv_ldc (own := RX7) (v := -2000000004) hx hb hown (hts _ wl_324) dX7_found_5 ?_
    refine lv_goto (tgt := 11) hx hb dX7_found_7 (by decide) ?_
    cases h
    exact rt_i C hP hD hS dX7_found_11
abbrev rm_X7_infoOf : Room := { frames := 2, cells := 0, slots := 0, locals := 44 }
theorem hd_X7_infoOf : yX7_infoOf.cls = RX7 ∧ yX7_infoOf.cls ≠ "java/lang/invoke/MethodHandle" ∧ yX7_infoOf.cls ≠ "java/lang/invoke/VarHandle" ∧ (parseMethodDescriptor yX7_infoOf.desc).map (fun d => d.parameters.length) = some 2 := ⟨rfl, by decide +kernel, by decide +kernel, by decide +kernel⟩
set_option maxHeartbeats 4000000 in
set_option maxRecDepth 100000 in
theorem ct_X7_infoOf {l : Launch} {D : va_G} {cy : Cy} {T : Ty} {R : Rm} {a0 : Nat} {x1 : Int32} {x2 : Int32} {M : Mm} {r : Int32} {M9 : Mm} (h : fn_X7_infoOf T R a0 x1 x2 M = some (r, M9)) : Ct QcI l yX7_infoOf cX7_infoOf 3 (some .int) rm_X7_infoOf D cy T M R [.ref a0, .int x1, .int x2] M9 R r := by
  unfold fn_X7_infoOf at h
  refine enter (plainFor_of_name (by decide +kernel)) (Nat.le_of_ble_eq_true rfl) (fun p e s m args below meth c A C hP hD hS ls hl => ?_)
  have hl : lv_has ls 3 [(0, .ref a0), (1, .int x1), (2, .int x2)] := hl
  obtain ⟨hx, hb, hr, hml, hown, hts, hK, hA, hlk, hSt⟩ := id C
  refine lv_iload_n hx hb dX7_infoOf_0 rfl (lv_at hl 2 rfl) ?_
  by_cases q_1 : x2 = 3
  · replace h := ite_t h q_1
    refine lv_tableIn (off := 51) (tgt := 52) hx hb dX7_infoOf_1 (by rw [q_1]; decide) (by rw [q_1]; decide) (by rw [q_1]; rfl) (by decide) ?_
    refine lv_aload_n hx hb dX7_infoOf_52 rfl (lv_at hl 0 rfl) ?_
    refine lv_iload_n hx hb dX7_infoOf_53 rfl (lv_at hl 1 rfl) ?_
    obtain ⟨k_2, h⟩ := chk_some h
    obtain ⟨r_3, M_4, hc_5, h⟩ := cal_some h
    refine cl_Vi (As := [.int x1]) (rest := []) C (ct_X7_iceOf hc_5) k_2 (by decide) rfl wl_309 wl_310 wl_311 wl_5 wl_312 hd_X7_iceOf ⟨Nat.le_of_ble_eq_true rfl, Nat.le_of_ble_eq_true rfl⟩ ⟨rfl, rfl⟩ ⟨Nat.zero_le _, Nat.zero_le _⟩ rfl (Nat.le_of_ble_eq_true rfl) rfl hl.1 hP hD hS dX7_infoOf_54 (fun H locs hP hD hS => ?_)
    cases h
    exact rt_i C hP hD hS dX7_infoOf_57
  · replace h := ite_f h q_1
    by_cases q_6 : x2 = 4
    · replace h := ite_t h q_6
      refine lv_tableIn (off := 57) (tgt := 58) hx hb dX7_infoOf_1 (by rw [q_6]; decide) (by rw [q_6]; decide) (by rw [q_6]; rfl) (by decide) ?_
      refine lv_aload_n hx hb dX7_infoOf_58 rfl (lv_at hl 0 rfl) ?_
      refine lv_iload_n hx hb dX7_infoOf_59 rfl (lv_at hl 1 rfl) ?_
      obtain ⟨k_7, h⟩ := chk_some h
      obtain ⟨r_8, M_9, hc_10, h⟩ := cal_some h
      refine cl_Vi (As := [.int x1]) (rest := []) C (ct_X7_layersOf hc_10) k_7 (by decide) rfl wl_313 wl_314 wl_315 wl_5 wl_316 hd_X7_layersOf ⟨Nat.le_of_ble_eq_true rfl, Nat.le_of_ble_eq_true rfl⟩ ⟨rfl, rfl⟩ ⟨Nat.zero_le _, Nat.zero_le _⟩ rfl (Nat.le_of_ble_eq_true rfl) rfl hl.1 hP hD hS dX7_infoOf_60 (fun H locs hP hD hS => ?_)
      cases h
      exact rt_i C hP hD hS dX7_infoOf_63
    · replace h := ite_f h q_6
      by_cases q_11 : x2 = 5
      · replace h := ite_t h q_11
        refine lv_tableIn (off := 63) (tgt := 64) hx hb dX7_infoOf_1 (by rw [q_11]; decide) (by rw [q_11]; decide) (by rw [q_11]; rfl) (by decide) ?_
        refine lv_aload_n hx hb dX7_infoOf_64 rfl (lv_at hl 0 rfl) ?_
        refine lv_iload_n hx hb dX7_infoOf_65 rfl (lv_at hl 1 rfl) ?_
        refine lv_iconst (v := 0) hx hb dX7_infoOf_66 (by decide) ?_
        obtain ⟨k_12, h⟩ := chk_some h
        obtain ⟨r_13, M_14, hc_15, h⟩ := cal_some h
        refine cl_Vi (As := [.int x1, .int (0 : Int32)]) (rest := []) C (ct_X7_yearOf hc_15) k_12 (by decide) rfl wl_317 wl_318 wl_319 wl_5 wl_320 hd_X7_yearOf ⟨Nat.le_of_ble_eq_true rfl, Nat.le_of_ble_eq_true rfl⟩ ⟨rfl, rfl⟩ ⟨Nat.zero_le _, Nat.zero_le _⟩ rfl (Nat.le_of_ble_eq_true rfl) rfl hl.1 hP hD hS dX7_infoOf_67 (fun H locs hP hD hS => ?_)
        obtain ⟨r_16, M_17, hc_18, h⟩ := cal_some h
        refine cl_Si (As := [.int r_13]) (rest := []) C (ct_X7_found hc_18) wl_321 wl_322 wl_5 wl_323 hd_X7_found ⟨Nat.le_of_ble_eq_true rfl, Nat.le_of_ble_eq_true rfl⟩ ⟨rfl, rfl⟩ ⟨Nat.zero_le _, Nat.zero_le _⟩ rfl (Nat.le_of_ble_eq_true rfl) rfl hl.1 hP hD hS dX7_infoOf_70 (fun H locs hP hD hS => ?_)
        cases h
        exact rt_i C hP hD hS dX7_infoOf_73
      · replace h := ite_f h q_11
        by_cases q_19 : x2 = 6
        · replace h := ite_t h q_19
          refine lv_tableIn (off := 73) (tgt := 74) hx hb dX7_infoOf_1 (by rw [q_19]; decide) (by rw [q_19]; decide) (by rw [q_19]; rfl) (by decide) ?_
          refine lv_aload_n hx hb dX7_infoOf_74 rfl (lv_at hl 0 rfl) ?_
          refine lv_iload_n hx hb dX7_infoOf_75 rfl (lv_at hl 1 rfl) ?_
          refine lv_aload_n hx hb dX7_infoOf_76 rfl (lv_at hl 0 rfl) ?_
          refine lv_iload_n hx hb dX7_infoOf_77 rfl (lv_at hl 1 rfl) ?_
          obtain ⟨k_20, h⟩ := chk_some h
          obtain ⟨r_21, M_22, hc_23, h⟩ := cal_some h
          refine cl_Vi (As := [.int x1]) (rest := [.int x1, .ref a0]) C (ct_X7_layersOf hc_23) k_20 (by decide) rfl wl_313 wl_314 wl_315 wl_5 wl_316 hd_X7_layersOf ⟨Nat.le_of_ble_eq_true rfl, Nat.le_of_ble_eq_true rfl⟩ ⟨rfl, rfl⟩ ⟨Nat.zero_le _, Nat.zero_le _⟩ rfl (Nat.le_of_ble_eq_true rfl) rfl hl.1 hP hD hS dX7_infoOf_78 (fun H locs hP hD hS => ?_)
          refine lv_iconst (v := 1) hx hb dX7_infoOf_81 (by decide) ?_
          refine lv_isub hx hb dX7_infoOf_82 ?_
          obtain ⟨r_24, M_25, hc_26, h⟩ := cal_some h
          refine cl_Vi (As := [.int x1, .int (r_21 - (1 : Int32))]) (rest := []) C (ct_X7_yearOf hc_26) k_20 (by decide) rfl wl_317 wl_318 wl_319 wl_5 wl_320 hd_X7_yearOf ⟨Nat.le_of_ble_eq_true rfl, Nat.le_of_ble_eq_true rfl⟩ ⟨rfl, rfl⟩ ⟨Nat.zero_le _, Nat.zero_le _⟩ rfl (Nat.le_of_ble_eq_true rfl) rfl hl.1 hP hD hS dX7_infoOf_83 (fun H locs hP hD hS => ?_)
          obtain ⟨r_27, M_28, hc_29, h⟩ := cal_some h
          refine cl_Si (As := [.int r_24]) (rest := []) C (ct_X7_found hc_29) wl_321 wl_322 wl_5 wl_323 hd_X7_found ⟨Nat.le_of_ble_eq_true rfl, Nat.le_of_ble_eq_true rfl⟩ ⟨rfl, rfl⟩ ⟨Nat.zero_le _, Nat.zero_le _⟩ rfl (Nat.le_of_ble_eq_true rfl) rfl hl.1 hP hD hS dX7_infoOf_86 (fun H locs hP hD hS => ?_)
          cases h
          exact rt_i C hP hD hS dX7_infoOf_89
        · replace h := ite_f h q_19
          by_cases q_30 : x2 = 7
          · replace h := ite_t h q_30
            refine lv_tableIn (off := 89) (tgt := 90) hx hb dX7_infoOf_1 (by rw [q_30]; decide) (by rw [q_30]; decide) (by rw [q_30]; rfl) (by decide) ?_
            refine lv_aload_n hx hb dX7_infoOf_90 rfl (lv_at hl 0 rfl) ?_
            refine lv_iload_n hx hb dX7_infoOf_91 rfl (lv_at hl 1 rfl) ?_
            obtain ⟨k_31, h⟩ := chk_some h
            obtain ⟨r_32, M_33, hc_34, h⟩ := cal_some h
            refine cl_Vi (As := [.int x1]) (rest := []) C (ct_X7_snowOf hc_34) k_31 (by decide) rfl wl_325 wl_326 wl_327 wl_5 wl_328 hd_X7_snowOf ⟨Nat.le_of_ble_eq_true rfl, Nat.le_of_ble_eq_true rfl⟩ ⟨rfl, rfl⟩ ⟨Nat.zero_le _, Nat.zero_le _⟩ rfl (Nat.le_of_ble_eq_true rfl) rfl hl.1 hP hD hS dX7_infoOf_92 (fun H locs hP hD hS => ?_)
            cases h
            exact rt_i C hP hD hS dX7_infoOf_95
          · replace h := ite_f h q_30
            by_cases q_35 : x2 = 8
            · replace h := ite_t h q_35
              refine lv_tableIn (off := 95) (tgt := 96) hx hb dX7_infoOf_1 (by rw [q_35]; decide) (by rw [q_35]; decide) (by rw [q_35]; rfl) (by decide) ?_
              refine lv_aload_n hx hb dX7_infoOf_96 rfl (lv_at hl 0 rfl) ?_
              refine lv_iload_n hx hb dX7_infoOf_97 rfl (lv_at hl 1 rfl) ?_
              obtain ⟨k_36, h⟩ := chk_some h
              obtain ⟨r_37, M_38, hc_39, h⟩ := cal_some h
              refine cl_Vi (As := [.int x1]) (rest := []) C (ct_X7_meltOf hc_39) k_36 (by decide) rfl wl_332 wl_333 wl_334 wl_5 wl_335 hd_X7_meltOf ⟨Nat.le_of_ble_eq_true rfl, Nat.le_of_ble_eq_true rfl⟩ ⟨rfl, rfl⟩ ⟨Nat.zero_le _, Nat.zero_le _⟩ rfl (Nat.le_of_ble_eq_true rfl) rfl hl.1 hP hD hS dX7_infoOf_98 (fun H locs hP hD hS => ?_)
              cases h
              exact rt_i C hP hD hS dX7_infoOf_101
            · replace h := ite_f h q_35
              by_cases q_40 : x2 = 9
              · replace h := ite_t h q_40
                refine lv_tableIn (off := 101) (tgt := 102) hx hb dX7_infoOf_1 (by rw [q_40]; decide) (by rw [q_40]; decide) (by rw [q_40]; rfl) (by decide) ?_
                refine lv_aload_n hx hb dX7_infoOf_102 rfl (lv_at hl 0 rfl) ?_
                refine lv_iload_n hx hb dX7_infoOf_103 rfl (lv_at hl 1 rfl) ?_
                refine lv_iconst (v := 3) hx hb dX7_infoOf_104 (by decide) ?_
                refine lv_iload_n hx hb dX7_infoOf_105 rfl (lv_at hl 2 rfl) ?_
                refine lv_iadd hx hb dX7_infoOf_106 ?_
                refine lv_bipush (v := 9) hx hb dX7_infoOf_107 (by decide) ?_
                refine lv_isub hx hb dX7_infoOf_109 ?_
                obtain ⟨k_41, h⟩ := chk_some h
                obtain ⟨r_42, M_43, hc_44, h⟩ := cal_some h
                refine cl_Vi (As := [.int x1, .int (((3 : Int32) + x2) - (9 : Int32))]) (rest := []) C (ct_X7_of hc_44) k_41 (by decide) rfl wl_240 wl_241 wl_242 wl_5 wl_243 hd_X7_of ⟨Nat.le_of_ble_eq_true rfl, Nat.le_of_ble_eq_true rfl⟩ ⟨rfl, rfl⟩ ⟨Nat.zero_le _, Nat.zero_le _⟩ rfl (Nat.le_of_ble_eq_true rfl) rfl hl.1 hP hD hS dX7_infoOf_110 (fun H locs hP hD hS => ?_)
                cases h
                exact rt_i C hP hD hS dX7_infoOf_113
              · replace h := ite_f h q_40
                by_cases q_45 : x2 = 10
                · replace h := ite_t h q_45
                  refine lv_tableIn (off := 101) (tgt := 102) hx hb dX7_infoOf_1 (by rw [q_45]; decide) (by rw [q_45]; decide) (by rw [q_45]; rfl) (by decide) ?_
                  refine lv_aload_n hx hb dX7_infoOf_102 rfl (lv_at hl 0 rfl) ?_
                  refine lv_iload_n hx hb dX7_infoOf_103 rfl (lv_at hl 1 rfl) ?_
                  refine lv_iconst (v := 3) hx hb dX7_infoOf_104 (by decide) ?_
                  refine lv_iload_n hx hb dX7_infoOf_105 rfl (lv_at hl 2 rfl) ?_
                  refine lv_iadd hx hb dX7_infoOf_106 ?_
                  refine lv_bipush (v := 9) hx hb dX7_infoOf_107 (by decide) ?_
                  refine lv_isub hx hb dX7_infoOf_109 ?_
                  obtain ⟨k_46, h⟩ := chk_some h
                  obtain ⟨r_47, M_48, hc_49, h⟩ := cal_some h
                  refine cl_Vi (As := [.int x1, .int (((3 : Int32) + x2) - (9 : Int32))]) (rest := []) C (ct_X7_of hc_49) k_46 (by decide) rfl wl_240 wl_241 wl_242 wl_5 wl_243 hd_X7_of ⟨Nat.le_of_ble_eq_true rfl, Nat.le_of_ble_eq_true rfl⟩ ⟨rfl, rfl⟩ ⟨Nat.zero_le _, Nat.zero_le _⟩ rfl (Nat.le_of_ble_eq_true rfl) rfl hl.1 hP hD hS dX7_infoOf_110 (fun H locs hP hD hS => ?_)
                  cases h
                  exact rt_i C hP hD hS dX7_infoOf_113
                · replace h := ite_f h q_45
                  by_cases q_50 : x2 = 11
                  · replace h := ite_t h q_50
                    refine lv_tableIn (off := 101) (tgt := 102) hx hb dX7_infoOf_1 (by rw [q_50]; decide) (by rw [q_50]; decide) (by rw [q_50]; rfl) (by decide) ?_
                    refine lv_aload_n hx hb dX7_infoOf_102 rfl (lv_at hl 0 rfl) ?_
                    refine lv_iload_n hx hb dX7_infoOf_103 rfl (lv_at hl 1 rfl) ?_
                    refine lv_iconst (v := 3) hx hb dX7_infoOf_104 (by decide) ?_
                    refine lv_iload_n hx hb dX7_infoOf_105 rfl (lv_at hl 2 rfl) ?_
                    refine lv_iadd hx hb dX7_infoOf_106 ?_
                    refine lv_bipush (v := 9) hx hb dX7_infoOf_107 (by decide) ?_
                    refine lv_isub hx hb dX7_infoOf_109 ?_
                    obtain ⟨k_51, h⟩ := chk_some h
                    obtain ⟨r_52, M_53, hc_54, h⟩ := cal_some h
                    refine cl_Vi (As := [.int x1, .int (((3 : Int32) + x2) - (9 : Int32))]) (rest := []) C (ct_X7_of hc_54) k_51 (by decide) rfl wl_240 wl_241 wl_242 wl_5 wl_243 hd_X7_of ⟨Nat.le_of_ble_eq_true rfl, Nat.le_of_ble_eq_true rfl⟩ ⟨rfl, rfl⟩ ⟨Nat.zero_le _, Nat.zero_le _⟩ rfl (Nat.le_of_ble_eq_true rfl) rfl hl.1 hP hD hS dX7_infoOf_110 (fun H locs hP hD hS => ?_)
                    cases h
                    exact rt_i C hP hD hS dX7_infoOf_113
                  · replace h := ite_f h q_50
                    refine lv_tableOut (tgt := 114) hx hb dX7_infoOf_1 (by have zq_1 := i32ne (k := 3) q_1 (by decide); have zq_6 := i32ne (k := 4) q_6 (by decide); have zq_11 := i32ne (k := 5) q_11 (by decide); have zq_19 := i32ne (k := 6) q_19 (by decide); have zq_30 := i32ne (k := 7) q_30 (by decide); have zq_35 := i32ne (k := 8) q_35 (by decide); have zq_40 := i32ne (k := 9) q_40 (by decide); have zq_45 := i32ne (k := 10) q_45 (by decide); have zq_50 := i32ne (k := 11) q_50 (by decide); omega) (by decide) ?_
                    refine lv_aload_n hx hb dX7_infoOf_114 rfl (lv_at hl 0 rfl) ?_
                    refine lv_iload_n hx hb dX7_infoOf_115 rfl (lv_at hl 1 rfl) ?_
                    refine lv_iload_n hx hb dX7_infoOf_116 rfl (lv_at hl 2 rfl) ?_
                    obtain ⟨k_55, h⟩ := chk_some h
                    obtain ⟨r_56, M_57, hc_58, h⟩ := cal_some h
                    refine cl_Vi (As := [.int x1, .int x2]) (rest := []) C (ct_X7_of hc_58) k_55 (by decide) rfl wl_240 wl_241 wl_242 wl_5 wl_243 hd_X7_of ⟨Nat.le_of_ble_eq_true rfl, Nat.le_of_ble_eq_true rfl⟩ ⟨rfl, rfl⟩ ⟨Nat.zero_le _, Nat.zero_le _⟩ rfl (Nat.le_of_ble_eq_true rfl) rfl hl.1 hP hD hS dX7_infoOf_117 (fun H locs hP hD hS => ?_)
                    cases h
                    exact rt_i C hP hD hS dX7_infoOf_120
abbrev rm_X7_bandInfo : Room := { frames := 3, cells := 0, slots := 0, locals := 66 }
theorem hd_X7_bandInfo : yX7_bandInfo.cls = RX7 ∧ yX7_bandInfo.cls ≠ "java/lang/invoke/MethodHandle" ∧ yX7_bandInfo.cls ≠ "java/lang/invoke/VarHandle" ∧ (parseMethodDescriptor yX7_bandInfo.desc).map (fun d => d.parameters.length) = some 2 := ⟨rfl, by decide +kernel, by decide +kernel, by decide +kernel⟩
set_option maxHeartbeats 4000000 in
set_option maxRecDepth 100000 in
theorem ct_X7_bandInfo {l : Launch} {D : va_G} {cy : Cy} {T : Ty} {R : Rm} {a0 : Nat} {x1 : Int32} {x2 : Int32} {M : Mm} {r : Int32} {M9 : Mm} (h : fn_X7_bandInfo T R a0 x1 x2 M = some (r, M9)) : Ct QcI l yX7_bandInfo cX7_bandInfo 3 (some .int) rm_X7_bandInfo D cy T M R [.ref a0, .int x1, .int x2] M9 R r := by
  unfold fn_X7_bandInfo at h
  refine enter (plainFor_of_name (by decide +kernel)) (Nat.le_of_ble_eq_true rfl) (fun p e s m args below meth c A C hP hD hS ls hl => ?_)
  have hl : lv_has ls 3 [(0, .ref a0), (1, .int x1), (2, .int x2)] := hl
  obtain ⟨hx, hb, hr, hml, hown, hts, hK, hA, hlk, hSt⟩ := id C
  refine lv_aload_n hx hb dX7_bandInfo_0 rfl (lv_at hl 0 rfl) ?_
  refine lv_iload_n hx hb dX7_bandInfo_1 rfl (lv_at hl 1 rfl) ?_
  obtain ⟨k_1, h⟩ := chk_some h
  obtain ⟨r_2, M_3, hc_4, h⟩ := cal_some h
  refine cl_Vi (As := [.int x1]) (rest := []) C (ct_X7_isBand hc_4) k_1 (by decide) rfl wl_266 wl_267 wl_268 wl_5 wl_269 hd_X7_isBand ⟨Nat.le_of_ble_eq_true rfl, Nat.le_of_ble_eq_true rfl⟩ ⟨rfl, rfl⟩ ⟨Nat.zero_le _, Nat.zero_le _⟩ rfl (Nat.le_of_ble_eq_true rfl) rfl hl.1 hP hD hS dX7_bandInfo_2 (fun H locs hP hD hS => ?_)
  refine lv_if_eq (tgt := 27) hx hb dX7_bandInfo_5 (by decide) (fun c_5 => ?_) (fun c_5 => ?_)
  · replace h := ite_t h c_5
    refine lv_ldc (own := RX7) (v := -2000000001) hx hb hown (hts _ wl_160) dX7_bandInfo_27 ?_
    cases h
    exact rt_i C hP hD hS dX7_bandInfo_29
  · replace h := ite_f h c_5
    refine lv_iload_n hx hb dX7_bandInfo_8 rfl (lv_at hl 2 rfl) ?_
    refine lv_iconst (v := 0) hx hb dX7_bandInfo_9 (by decide) ?_
    refine lv_bipush (v := 11) hx hb dX7_bandInfo_10 (by decide) ?_
    obtain ⟨r_6, M_7, hc_8, h⟩ := cal_some h
    refine cl_Si (As := [.int x2, .int (0 : Int32), .int (11 : Int32)]) (rest := []) C (ct_X7_in hc_8) wl_165 wl_166 wl_5 wl_167 hd_X7_in ⟨Nat.le_of_ble_eq_true rfl, Nat.le_of_ble_eq_true rfl⟩ ⟨rfl, rfl⟩ ⟨Nat.zero_le _, Nat.zero_le _⟩ rfl (Nat.le_of_ble_eq_true rfl) rfl hl.1 hP hD hS dX7_bandInfo_12 (fun H locs hP hD hS => ?_)
    refine lv_if_eq (tgt := 27) hx hb dX7_bandInfo_15 (by decide) (fun c_9 => ?_) (fun c_9 => ?_)
    · replace h := ite_t h c_9
      refine lv_ldc (own := RX7) (v := -2000000001) hx hb hown (hts _ wl_160) dX7_bandInfo_27 ?_
      cases h
      exact rt_i C hP hD hS dX7_bandInfo_29
    · replace h := ite_f h c_9
      refine lv_aload_n hx hb dX7_bandInfo_18 rfl (lv_at hl 0 rfl) ?_
      refine lv_iload_n hx hb dX7_bandInfo_19 rfl (lv_at hl 1 rfl) ?_
      refine lv_iload_n hx hb dX7_bandInfo_20 rfl (lv_at hl 2 rfl) ?_
      obtain ⟨r_10, M_11, hc_12, h⟩ := cal_some h
      refine cl_Vi (As := [.int x1, .int x2]) (rest := []) C (ct_X7_infoOf hc_12) k_1 (by decide) rfl wl_305 wl_306 wl_307 wl_5 wl_308 hd_X7_infoOf ⟨Nat.le_of_ble_eq_true rfl, Nat.le_of_ble_eq_true rfl⟩ ⟨rfl, rfl⟩ ⟨Nat.zero_le _, Nat.zero_le _⟩ rfl (Nat.le_of_ble_eq_true rfl) rfl hl.1 hP hD hS dX7_bandInfo_21 (fun H locs hP hD hS => ?_)
      refine lv_goto (tgt := 29) hx hb dX7_bandInfo_24 (by decide) ?_
      cases h
      exact rt_i C hP hD hS dX7_bandInfo_29
abbrev rm_X7_layer : Room := { frames := 2, cells := 0, slots := 0, locals := 43 }
theorem hd_X7_layer : yX7_layer.cls = RX7 ∧ yX7_layer.cls ≠ "java/lang/invoke/MethodHandle" ∧ yX7_layer.cls ≠ "java/lang/invoke/VarHandle" ∧ (parseMethodDescriptor yX7_layer.desc).map (fun d => d.parameters.length) = some 3 := ⟨rfl, by decide +kernel, by decide +kernel, by decide +kernel⟩
set_option maxHeartbeats 4000000 in
set_option maxRecDepth 100000 in
theorem ct_X7_layer {l : Launch} {D : va_G} {cy : Cy} {T : Ty} {R : Rm} {a0 : Nat} {x1 : Int32} {x2 : Int32} {x3 : Int32} {M : Mm} {r : Int32} {M9 : Mm} (h : fn_X7_layer T R a0 x1 x2 x3 M = some (r, M9)) : Ct QcI l yX7_layer cX7_layer 5 (some .int) rm_X7_layer D cy T M R [.ref a0, .int x1, .int x2, .int x3] M9 R r := by
  unfold fn_X7_layer at h
  refine enter (plainFor_of_name (by decide +kernel)) (Nat.le_of_ble_eq_true rfl) (fun p e s m args below meth c A C hP hD hS ls hl => ?_)
  have hl : lv_has ls 5 [(0, .ref a0), (1, .int x1), (2, .int x2), (3, .int x3)] := hl
  obtain ⟨hx, hb, hr, hml, hown, hts, hK, hA, hlk, hSt⟩ := id C
  refine lv_aload_n hx hb dX7_layer_0 rfl (lv_at hl 0 rfl) ?_
  refine lv_iload_n hx hb dX7_layer_1 rfl (lv_at hl 1 rfl) ?_
  obtain ⟨k_1, h⟩ := chk_some h
  obtain ⟨r_2, M_3, hc_4, h⟩ := cal_some h
  refine cl_Vi (As := [.int x1]) (rest := []) C (ct_X7_isBand hc_4) k_1 (by decide) rfl wl_266 wl_267 wl_268 wl_5 wl_269 hd_X7_isBand ⟨Nat.le_of_ble_eq_true rfl, Nat.le_of_ble_eq_true rfl⟩ ⟨rfl, rfl⟩ ⟨Nat.zero_le _, Nat.zero_le _⟩ rfl (Nat.le_of_ble_eq_true rfl) rfl hl.1 hP hD hS dX7_layer_2 (fun H locs hP hD hS => ?_)
  refine lv_if_eq (tgt := 21) hx hb dX7_layer_5 (by decide) (fun c_5 => ?_) (fun c_5 => ?_)
  · replace h := ite_t h c_5
    refine lv_ldc (own := RX7) (v := -2000000001) hx hb hown (hts _ wl_160) dX7_layer_21 ?_
    cases h
    exact rt_i C hP hD hS dX7_layer_23
  · replace h := ite_f h c_5
    refine lv_iload_n hx hb dX7_layer_8 rfl (lv_at hl 2 rfl) ?_
    refine lv_if_lt (tgt := 21) hx hb dX7_layer_9 (by decide) (fun c_6 => ?_) (fun c_6 => ?_)
    · replace h := ite_t h c_6
      refine lv_ldc (own := RX7) (v := -2000000001) hx hb hown (hts _ wl_160) dX7_layer_21 ?_
      cases h
      exact rt_i C hP hD hS dX7_layer_23
    · replace h := ite_f h c_6
      refine lv_iload_n hx hb dX7_layer_12 rfl (lv_at hl 3 rfl) ?_
      refine lv_iconst (v := 0) hx hb dX7_layer_13 (by decide) ?_
      refine lv_iconst (v := 1) hx hb dX7_layer_14 (by decide) ?_
      obtain ⟨r_7, M_8, hc_9, h⟩ := cal_some h
      refine cl_Si (As := [.int x3, .int (0 : Int32), .int (1 : Int32)]) (rest := []) C (ct_X7_in hc_9) wl_165 wl_166 wl_5 wl_167 hd_X7_in ⟨Nat.le_of_ble_eq_true rfl, Nat.le_of_ble_eq_true rfl⟩ ⟨rfl, rfl⟩ ⟨Nat.zero_le _, Nat.zero_le _⟩ rfl (Nat.le_of_ble_eq_true rfl) rfl hl.1 hP hD hS dX7_layer_15 (fun H locs hP hD hS => ?_)
      refine lv_if_ne (tgt := 24) hx hb dX7_layer_18 (by decide) (fun c_10 => ?_) (fun c_10 => ?_)
      · replace h := ite_f h c_10
        refine lv_aload_n hx hb dX7_layer_24 rfl (lv_at hl 0 rfl) ?_
        refine lv_iload_n hx hb dX7_layer_25 rfl (lv_at hl 1 rfl) ?_
        refine lv_iload_n hx hb dX7_layer_26 rfl (lv_at hl 2 rfl) ?_
        obtain ⟨r_11, M_12, hc_13, h⟩ := cal_some h
        refine cl_Vi (As := [.int x1, .int x2]) (rest := []) C (ct_X7_yearOf hc_13) k_1 (by decide) rfl wl_317 wl_318 wl_319 wl_5 wl_320 hd_X7_yearOf ⟨Nat.le_of_ble_eq_true rfl, Nat.le_of_ble_eq_true rfl⟩ ⟨rfl, rfl⟩ ⟨Nat.zero_le _, Nat.zero_le _⟩ rfl (Nat.le_of_ble_eq_true rfl) rfl hl.1 hP hD hS dX7_layer_27 (fun H locs hP hD hS => ?_)
        refine lv_istore (lv' := [(4, .int r_11), (0, .ref a0), (1, .int x1), (2, .int x2), (3, .int x3)]) hx hb dX7_layer_30 hl (by decide) rfl (fun ls hl => ?_)
        refine lv_iload hx hb dX7_layer_32 (lv_at hl 0 rfl) ?_
        refine lv_iconst (v := -1) hx hb dX7_layer_34 (by decide) ?_
        refine lv_icmp_ne (tgt := 43) hx hb dX7_layer_35 (by decide) (fun c_14 => ?_) (fun c_14 => ?_)
        · replace h := ite_f h c_14
          refine lv_iload_n hx hb dX7_layer_43 rfl (lv_at hl 4 rfl) ?_
          refine lv_if_ne (tgt := 52) hx hb dX7_layer_44 (by decide) (fun c_15 => ?_) (fun c_15 => ?_)
          · replace h := ite_f h c_15
            refine lv_aload_n hx hb dX7_layer_52 rfl (lv_at hl 1 rfl) ?_
            obtain ⟨b_16, eb_16, h⟩ := rfm_some h
            refine gf_7_1 C hP k_1 eb_16 wl_101 dX7_layer_53 ?_
            refine lv_sipush (v := 801) hx hb dX7_layer_56 (by decide) ?_
            refine lv_iload_n hx hb dX7_layer_59 rfl (lv_at hl 2 rfl) ?_
            refine lv_imul hx hb dX7_layer_60 ?_
            refine lv_iload hx hb dX7_layer_61 (lv_at hl 0 rfl) ?_
            refine lv_iadd hx hb dX7_layer_63 ?_
            obtain ⟨k_17, h⟩ := chk_some h
            obtain ⟨k_18, h⟩ := chk_some h
            refine ar_9 C hP k_17 k_18 dX7_layer_64 ?_
            cases h
            exact rt_i C hP hD hS dX7_layer_65
          · replace h := ite_t h c_15
            refine lv_iload hx hb dX7_layer_47 (lv_at hl 0 rfl) ?_
            refine lv_goto (tgt := 65) hx hb dX7_layer_49 (by decide) ?_
            cases h
            exact rt_i C hP hD hS dX7_layer_65
        · replace h := ite_t h c_14
          refine lv_ldc (own := RX7) (v := -2000000004) hx hb hown (hts _ wl_324) dX7_layer_38 ?_
          refine lv_goto (tgt := 65) hx hb dX7_layer_40 (by decide) ?_
          cases h
          exact rt_i C hP hD hS dX7_layer_65
      · replace h := ite_t h c_10
        refine lv_ldc (own := RX7) (v := -2000000001) hx hb hown (hts _ wl_160) dX7_layer_21 ?_
        cases h
        exact rt_i C hP hD hS dX7_layer_23
abbrev rm_X7_leftOf : Room := { frames := 0, cells := 0, slots := 0, locals := 0 }
theorem hd_X7_leftOf : yX7_leftOf.cls = RX7 ∧ yX7_leftOf.cls ≠ "java/lang/invoke/MethodHandle" ∧ yX7_leftOf.cls ≠ "java/lang/invoke/VarHandle" ∧ (parseMethodDescriptor yX7_leftOf.desc).map (fun d => d.parameters.length) = some 1 := ⟨rfl, by decide +kernel, by decide +kernel, by decide +kernel⟩
set_option maxHeartbeats 4000000 in
set_option maxRecDepth 100000 in
theorem bs_X7_leftOf_4 {p : Program} {l : Launch} {e : Env} {s : State} {m : MethodId} {args : Array Value} {below : List Frame} {meth : Method} {c : Code} {D : va_G} {cy : Cy} {A : Nat → Prop} {T : Ty} {R : Rm} {r : Int32} {M9 : Mm} {a0 : Nat} {x1 : Int32} {j4 : Int32 → Int32 → Mm → Option (Int32 × Mm)} (C : Cx RX7 cX7_leftOf 4 (some .int) p s m args meth c D cy A)
    (hj4 : ∀ (x2 : Int32) (x3 : Int32) (M : Mm) (H : Heap) (locs : List Loc), j4 x2 x3 M = some (r, M9) → va_P D vwCl (WL cy T M R) H → va_D A (WL cy T M R) → va_S A s.heap H locs → ∀ ls : Array Slot, lv_has ls 4 [(0, .ref a0), (1, .int x1), (2, .int x2), (3, .int x3)] → W p l e rm_X7_leftOf s m args below meth c H locs 0 0 (MQ below (QcI D cy T M9 R A r) args s 0 0 A) (F0 m 4 ls [])) :
    ∀ (x2 : Int32) (x3 : Int32) (M : Mm) (H : Heap) (locs : List Loc), fs_X7_leftOf_4 T R a0 x1 j4 x2 x3 M = some (r, M9) → va_P D vwCl (WL cy T M R) H → va_D A (WL cy T M R) → va_S A s.heap H locs → ∀ ls : Array Slot, lv_has ls 4 [(0, .ref a0), (1, .int x1), (2, .int x2), (3, .int x3)] → W p l e rm_X7_leftOf s m args below meth c H locs 0 0 (MQ below (QcI D cy T M9 R A r) args s 0 0 A) (F0 m 4 ls []) := by
  intro x2 x3 M H locs h hP hD hS ls hl
  unfold fs_X7_leftOf_4 at h
  obtain ⟨hx, hb, hr, hml, hown, hts, hK, hA, hlk, hSt⟩ := id C
  refine lv_iload_n hx hb dX7_leftOf_4 rfl (lv_at hl 3 rfl) ?_
  refine lv_aload_n hx hb dX7_leftOf_5 rfl (lv_at hl 0 rfl) ?_
  obtain ⟨k_1, h⟩ := chk_some h
  obtain ⟨b_2, eb_2, h⟩ := rfm_some h
  refine gf_7_0 C hP k_1 eb_2 wl_100 dX7_leftOf_6 ?_
  refine lv_bipush (v := 8) hx hb dX7_leftOf_9 (by decide) ?_
  obtain ⟨k_3, h⟩ := chk_some h
  obtain ⟨k_4, h⟩ := chk_some h
  refine ar_9 C hP k_3 k_4 dX7_leftOf_11 ?_
  refine lv_icmp_ge (tgt := 36) hx hb dX7_leftOf_12 (by decide) (fun c_5 => ?_) (fun c_5 => ?_)
  · replace h := ite_t h c_5
    refine lv_iload_n hx hb dX7_leftOf_36 rfl (lv_at hl 2 rfl) ?_
    cases h
    exact rt_i C hP hD hS dX7_leftOf_37
  · replace h := ite_f h c_5
    refine lv_iload_n hx hb dX7_leftOf_15 rfl (lv_at hl 2 rfl) ?_
    refine lv_aload_n hx hb dX7_leftOf_16 rfl (lv_at hl 0 rfl) ?_
    obtain ⟨b_6, eb_6, h⟩ := rfm_some h
    refine gf_7_1 C hP k_1 eb_6 wl_101 dX7_leftOf_17 ?_
    refine lv_sipush (v := 801) hx hb dX7_leftOf_20 (by decide) ?_
    refine lv_iload_n hx hb dX7_leftOf_23 rfl (lv_at hl 3 rfl) ?_
    refine lv_imul hx hb dX7_leftOf_24 ?_
    refine lv_iload_n hx hb dX7_leftOf_25 rfl (lv_at hl 1 rfl) ?_
    refine lv_iadd hx hb dX7_leftOf_26 ?_
    obtain ⟨k_7, h⟩ := chk_some h
    obtain ⟨k_8, h⟩ := chk_some h
    refine ar_9 C hP k_7 k_8 dX7_leftOf_27 ?_
    refine lv_iadd hx hb dX7_leftOf_28 ?_
    refine lv_topi (fun v_9 ev_9 => ?_)
    replace h := bnd_at h ev_9
    refine lv_istore_n (lv' := [(2, .int v_9), (0, .ref a0), (1, .int x1), (3, .int x3)]) hx hb dX7_leftOf_29 rfl hl (by decide) rfl (fun ls hl => ?_)
    obtain ⟨v_10, ev_10⟩ : ∃ y : Int32, y = (x3 + (1 : Int32)) := ⟨_, rfl⟩
    replace h := bnd_at h ev_10
    refine lv_iinc (v := v_10) (lv' := [(3, .int v_10), (2, .int v_9), (0, .ref a0), (1, .int x1)]) hx hb dX7_leftOf_30 hl (k := 3) rfl (by rw [ev_10]; rfl) (by decide) rfl (fun ls hl => ?_)
    refine lv_goto (tgt := 4) hx hb dX7_leftOf_33 (by decide) ?_
    exact hj4 _ _ _ _ _ h hP hD hS _ (lv_sub hl [2, 3, 1, 0] rfl)
theorem bt_X7_leftOf_4 {p : Program} {l : Launch} {e : Env} {s : State} {m : MethodId} {args : Array Value} {below : List Frame} {meth : Method} {c : Code} {D : va_G} {cy : Cy} {A : Nat → Prop} {T : Ty} {R : Rm} {r : Int32} {M9 : Mm} {a0 : Nat} {x1 : Int32} (C : Cx RX7 cX7_leftOf 4 (some .int) p s m args meth c D cy A) :
    ∀ n : Nat, ∀ (x2 : Int32) (x3 : Int32) (M : Mm) (H : Heap) (locs : List Loc), fb_X7_leftOf_4 T R a0 x1 n x2 x3 M = some (r, M9) → va_P D vwCl (WL cy T M R) H → va_D A (WL cy T M R) → va_S A s.heap H locs → ∀ ls : Array Slot, lv_has ls 4 [(0, .ref a0), (1, .int x1), (2, .int x2), (3, .int x3)] → W p l e rm_X7_leftOf s m args below meth c H locs 0 0 (MQ below (QcI D cy T M9 R A r) args s 0 0 A) (F0 m 4 ls []) := by
  intro n
  induction n with
  | zero =>
    intro _ _ _ H locs h
    exact absurd (show (none : Option (Int32 × Mm)) = some _ from h) (by simp)
  | succ n ih => exact fun u0 u1 u2 H locs h => bs_X7_leftOf_4 (a0 := a0) (x1 := x1) C ih u0 u1 u2 H locs h
set_option maxHeartbeats 4000000 in
set_option maxRecDepth 100000 in
theorem ct_X7_leftOf {l : Launch} {D : va_G} {cy : Cy} {T : Ty} {R : Rm} {a0 : Nat} {x1 : Int32} {M : Mm} {r : Int32} {M9 : Mm} (h : fn_X7_leftOf T R a0 x1 M = some (r, M9)) : Ct QcI l yX7_leftOf cX7_leftOf 4 (some .int) rm_X7_leftOf D cy T M R [.ref a0, .int x1] M9 R r := by
  unfold fn_X7_leftOf at h
  refine enter (plainFor_of_name (by decide +kernel)) (Nat.le_of_ble_eq_true rfl) (fun p e s m args below meth c A C hP hD hS ls hl => ?_)
  have hl : lv_has ls 4 [(0, .ref a0), (1, .int x1)] := hl
  obtain ⟨hx, hb, hr, hml, hown, hts, hK, hA, hlk, hSt⟩ := id C
  refine lv_iconst (v := 0) hx hb dX7_leftOf_0 (by decide) ?_
  refine lv_istore_n (lv' := [(2, .int (0 : Int32)), (0, .ref a0), (1, .int x1)]) hx hb dX7_leftOf_1 rfl hl (by decide) rfl (fun ls hl => ?_)
  refine lv_iconst (v := 0) hx hb dX7_leftOf_2 (by decide) ?_
  refine lv_istore_n (lv' := [(3, .int (0 : Int32)), (2, .int (0 : Int32)), (0, .ref a0), (1, .int x1)]) hx hb dX7_leftOf_3 rfl hl (by decide) rfl (fun ls hl => ?_)
  exact (bt_X7_leftOf_4 C FU) _ _ _ _ _ h hP hD hS _ (lv_sub hl [2, 3, 1, 0] rfl)
abbrev rm_X7_ofYear : Room := { frames := 1, cells := 0, slots := 0, locals := 23 }
theorem hd_X7_ofYear : yX7_ofYear.cls = RX7 ∧ yX7_ofYear.cls ≠ "java/lang/invoke/MethodHandle" ∧ yX7_ofYear.cls ≠ "java/lang/invoke/VarHandle" ∧ (parseMethodDescriptor yX7_ofYear.desc).map (fun d => d.parameters.length) = some 1 := ⟨rfl, by decide +kernel, by decide +kernel, by decide +kernel⟩
set_option maxHeartbeats 4000000 in
set_option maxRecDepth 100000 in
theorem ct_X7_ofYear {l : Launch} {D : va_G} {cy : Cy} {T : Ty} {R : Rm} {a0 : Nat} {x1 : Int32} {M : Mm} {r : Int32} {M9 : Mm} (h : fn_X7_ofYear T R a0 x1 M = some (r, M9)) : Ct QcI l yX7_ofYear cX7_ofYear 2 (some .int) rm_X7_ofYear D cy T M R [.ref a0, .int x1] M9 R r := by
  unfold fn_X7_ofYear at h
  refine enter (plainFor_of_name (by decide +kernel)) (Nat.le_of_ble_eq_true rfl) (fun p e s m args below meth c A C hP hD hS ls hl => ?_)
  have hl : lv_has ls 2 [(0, .ref a0), (1, .int x1)] := hl
  obtain ⟨hx, hb, hr, hml, hown, hts, hK, hA, hlk, hSt⟩ := id C
  refine lv_iload_n hx hb dX7_ofYear_0 rfl (lv_at hl 1 rfl) ?_
  refine lv_iconst (v := 0) hx hb dX7_ofYear_1 (by decide) ?_
  refine lv_sipush (v := 500) hx hb dX7_ofYear_2 (by decide) ?_
  obtain ⟨r_1, M_2, hc_3, h⟩ := cal_some h
  refine cl_Si (As := [.int x1, .int (0 : Int32), .int (500 : Int32)]) (rest := []) C (ct_X7_in hc_3) wl_165 wl_166 wl_5 wl_167 hd_X7_in ⟨Nat.le_of_ble_eq_true rfl, Nat.le_of_ble_eq_true rfl⟩ ⟨rfl, rfl⟩ ⟨Nat.zero_le _, Nat.zero_le _⟩ rfl (Nat.le_of_ble_eq_true rfl) rfl hl.1 hP hD hS dX7_ofYear_5 (fun H locs hP hD hS => ?_)
  refine lv_if_eq (tgt := 19) hx hb dX7_ofYear_8 (by decide) (fun c_4 => ?_) (fun c_4 => ?_)
  · replace h := ite_t h c_4
    refine lv_ldc (own := RX7) (v := -2000000001) hx hb hown (hts _ wl_160) dX7_ofYear_19 ?_
    cases h
    exact rt_i C hP hD hS dX7_ofYear_21
  · replace h := ite_f h c_4
    refine lv_aload_n hx hb dX7_ofYear_11 rfl (lv_at hl 0 rfl) ?_
    refine lv_iload_n hx hb dX7_ofYear_12 rfl (lv_at hl 1 rfl) ?_
    obtain ⟨k_5, h⟩ := chk_some h
    obtain ⟨r_6, M_7, hc_8, h⟩ := cal_some h
    refine cl_Vi (As := [.int x1]) (rest := []) C (ct_X7_leftOf hc_8) k_5 (by decide) rfl wl_362 wl_363 wl_364 wl_5 wl_365 hd_X7_leftOf ⟨Nat.le_of_ble_eq_true rfl, Nat.le_of_ble_eq_true rfl⟩ ⟨rfl, rfl⟩ ⟨Nat.zero_le _, Nat.zero_le _⟩ rfl (Nat.le_of_ble_eq_true rfl) rfl hl.1 hP hD hS dX7_ofYear_13 (fun H locs hP hD hS => ?_)
    refine lv_goto (tgt := 21) hx hb dX7_ofYear_16 (by decide) ?_
    cases h
    exact rt_i C hP hD hS dX7_ofYear_21
abbrev rm_X7_line : Room := { frames := 2, cells := 0, slots := 0, locals := 44 }
theorem hd_X7_line : yX7_line.cls = RX7 ∧ yX7_line.cls ≠ "java/lang/invoke/MethodHandle" ∧ yX7_line.cls ≠ "java/lang/invoke/VarHandle" ∧ (parseMethodDescriptor yX7_line.desc).map (fun d => d.parameters.length) = some 0 := ⟨rfl, by decide +kernel, by decide +kernel, by decide +kernel⟩
set_option maxHeartbeats 4000000 in
set_option maxRecDepth 100000 in
theorem bs_X7_line_10 {p : Program} {l : Launch} {e : Env} {s : State} {m : MethodId} {args : Array Value} {below : List Frame} {meth : Method} {c : Code} {D : va_G} {cy : Cy} {A : Nat → Prop} {T : Ty} {R : Rm} {r : Int32} {M9 : Mm} {a0 : Nat} {j10 : Int32 → Mm → Option (Int32 × Mm)} (C : Cx RX7 cX7_line 2 (some .int) p s m args meth c D cy A)
    (hj10 : ∀ (x1 : Int32) (M : Mm) (H : Heap) (locs : List Loc), j10 x1 M = some (r, M9) → va_P D vwCl (WL cy T M R) H → va_D A (WL cy T M R) → va_S A s.heap H locs → ∀ ls : Array Slot, lv_has ls 2 [(0, .ref a0), (1, .int x1)] → W p l e rm_X7_line s m args below meth c H locs 0 0 (MQ below (QcI D cy T M9 R A r) args s 0 0 A) (F0 m 10 ls [])) :
    ∀ (x1 : Int32) (M : Mm) (H : Heap) (locs : List Loc), fs_X7_line_10 T R a0 j10 x1 M = some (r, M9) → va_P D vwCl (WL cy T M R) H → va_D A (WL cy T M R) → va_S A s.heap H locs → ∀ ls : Array Slot, lv_has ls 2 [(0, .ref a0), (1, .int x1)] → W p l e rm_X7_line s m args below meth c H locs 0 0 (MQ below (QcI D cy T M9 R A r) args s 0 0 A) (F0 m 10 ls []) := by
  intro x1 M H locs h hP hD hS ls hl
  unfold fs_X7_line_10 at h
  obtain ⟨hx, hb, hr, hml, hown, hts, hK, hA, hlk, hSt⟩ := id C
  refine lv_iload_n hx hb dX7_line_10 rfl (lv_at hl 1 rfl) ?_
  refine lv_if_lt (tgt := 35) hx hb dX7_line_11 (by decide) (fun c_1 => ?_) (fun c_1 => ?_)
  · replace h := ite_t h c_1
    refine lv_ldc (own := RX7) (v := -2000000004) hx hb hown (hts _ wl_324) dX7_line_35 ?_
    cases h
    exact rt_i C hP hD hS dX7_line_37
  · replace h := ite_f h c_1
    refine lv_aload_n hx hb dX7_line_14 rfl (lv_at hl 0 rfl) ?_
    refine lv_iload_n hx hb dX7_line_15 rfl (lv_at hl 1 rfl) ?_
    obtain ⟨k_2, h⟩ := chk_some h
    obtain ⟨r_3, M_4, hc_5, h⟩ := cal_some h
    refine cl_Vi (As := [.int x1]) (rest := []) C (ct_X7_snowOf hc_5) k_2 (by decide) rfl wl_325 wl_326 wl_327 wl_5 wl_328 hd_X7_snowOf ⟨Nat.le_of_ble_eq_true rfl, Nat.le_of_ble_eq_true rfl⟩ ⟨rfl, rfl⟩ ⟨Nat.zero_le _, Nat.zero_le _⟩ rfl (Nat.le_of_ble_eq_true rfl) rfl hl.1 hP hD hS dX7_line_16 (fun H locs hP hD hS => ?_)
    refine lv_aload_n hx hb dX7_line_19 rfl (lv_at hl 0 rfl) ?_
    refine lv_iload_n hx hb dX7_line_20 rfl (lv_at hl 1 rfl) ?_
    obtain ⟨r_6, M_7, hc_8, h⟩ := cal_some h
    refine cl_Vi (As := [.int x1]) (rest := [.int r_3]) C (ct_X7_meltOf hc_8) k_2 (by decide) rfl wl_332 wl_333 wl_334 wl_5 wl_335 hd_X7_meltOf ⟨Nat.le_of_ble_eq_true rfl, Nat.le_of_ble_eq_true rfl⟩ ⟨rfl, rfl⟩ ⟨Nat.zero_le _, Nat.zero_le _⟩ rfl (Nat.le_of_ble_eq_true rfl) rfl hl.1 hP hD hS dX7_line_21 (fun H locs hP hD hS => ?_)
    refine lv_icmp_lt (tgt := 29) hx hb dX7_line_24 (by decide) (fun c_9 => ?_) (fun c_9 => ?_)
    · replace h := ite_t h c_9
      obtain ⟨v_10, ev_10⟩ : ∃ y : Int32, y = (x1 + (-1 : Int32)) := ⟨_, rfl⟩
      replace h := bnd_at h ev_10
      refine lv_iinc (v := v_10) (lv' := [(1, .int v_10), (0, .ref a0)]) hx hb dX7_line_29 hl (k := 1) rfl (by rw [ev_10]; rfl) (by decide) rfl (fun ls hl => ?_)
      refine lv_goto (tgt := 10) hx hb dX7_line_32 (by decide) ?_
      exact hj10 _ _ _ _ h hP hD hS _ (lv_sub hl [1, 0] rfl)
    · replace h := ite_f h c_9
      refine lv_iload_n hx hb dX7_line_27 rfl (lv_at hl 1 rfl) ?_
      cases h
      exact rt_i C hP hD hS dX7_line_28
theorem bt_X7_line_10 {p : Program} {l : Launch} {e : Env} {s : State} {m : MethodId} {args : Array Value} {below : List Frame} {meth : Method} {c : Code} {D : va_G} {cy : Cy} {A : Nat → Prop} {T : Ty} {R : Rm} {r : Int32} {M9 : Mm} {a0 : Nat} (C : Cx RX7 cX7_line 2 (some .int) p s m args meth c D cy A) :
    ∀ n : Nat, ∀ (x1 : Int32) (M : Mm) (H : Heap) (locs : List Loc), fb_X7_line_10 T R a0 n x1 M = some (r, M9) → va_P D vwCl (WL cy T M R) H → va_D A (WL cy T M R) → va_S A s.heap H locs → ∀ ls : Array Slot, lv_has ls 2 [(0, .ref a0), (1, .int x1)] → W p l e rm_X7_line s m args below meth c H locs 0 0 (MQ below (QcI D cy T M9 R A r) args s 0 0 A) (F0 m 10 ls []) := by
  intro n
  induction n with
  | zero =>
    intro _ _ H locs h
    exact absurd (show (none : Option (Int32 × Mm)) = some _ from h) (by simp)
  | succ n ih => exact fun u0 u1 H locs h => bs_X7_line_10 (a0 := a0) C ih u0 u1 H locs h
set_option maxHeartbeats 4000000 in
set_option maxRecDepth 100000 in
theorem ct_X7_line {l : Launch} {D : va_G} {cy : Cy} {T : Ty} {R : Rm} {a0 : Nat} {M : Mm} {r : Int32} {M9 : Mm} (h : fn_X7_line T R a0 M = some (r, M9)) : Ct QcI l yX7_line cX7_line 2 (some .int) rm_X7_line D cy T M R [.ref a0] M9 R r := by
  unfold fn_X7_line at h
  refine enter (plainFor_of_name (by decide +kernel)) (Nat.le_of_ble_eq_true rfl) (fun p e s m args below meth c A C hP hD hS ls hl => ?_)
  have hl : lv_has ls 2 [(0, .ref a0)] := hl
  obtain ⟨hx, hb, hr, hml, hown, hts, hK, hA, hlk, hSt⟩ := id C
  refine lv_aload_n hx hb dX7_line_0 rfl (lv_at hl 0 rfl) ?_
  obtain ⟨k_11, h⟩ := chk_some h
  obtain ⟨b_12, eb_12, h⟩ := rfm_some h
  refine gf_7_0 C hP k_11 eb_12 wl_100 dX7_line_1 ?_
  refine lv_bipush (v := 8) hx hb dX7_line_4 (by decide) ?_
  obtain ⟨k_13, h⟩ := chk_some h
  obtain ⟨k_14, h⟩ := chk_some h
  refine ar_9 C hP k_13 k_14 dX7_line_6 ?_
  refine lv_iconst (v := 1) hx hb dX7_line_7 (by decide) ?_
  refine lv_isub hx hb dX7_line_8 ?_
  refine lv_topi (fun v_15 ev_15 => ?_)
  replace h := bnd_at h ev_15
  refine lv_istore_n (lv' := [(1, .int v_15), (0, .ref a0)]) hx hb dX7_line_9 rfl hl (by decide) rfl (fun ls hl => ?_)
  exact (bt_X7_line_10 C FU) _ _ _ _ h hP hD hS _ (lv_sub hl [1, 0] rfl)
abbrev rm_X7_front : Room := { frames := 1, cells := 0, slots := 0, locals := 22 }
theorem hd_X7_front : yX7_front.cls = RX7 ∧ yX7_front.cls ≠ "java/lang/invoke/MethodHandle" ∧ yX7_front.cls ≠ "java/lang/invoke/VarHandle" ∧ (parseMethodDescriptor yX7_front.desc).map (fun d => d.parameters.length) = some 1 := ⟨rfl, by decide +kernel, by decide +kernel, by decide +kernel⟩
set_option maxHeartbeats 4000000 in
set_option maxRecDepth 100000 in
theorem ct_X7_front {l : Launch} {D : va_G} {cy : Cy} {T : Ty} {R : Rm} {a0 : Nat} {x1 : Int32} {M : Mm} {r : Int32} {M9 : Mm} (h : fn_X7_front T R a0 x1 M = some (r, M9)) : Ct QcI l yX7_front cX7_front 2 (some .int) rm_X7_front D cy T M R [.ref a0, .int x1] M9 R r := by
  unfold fn_X7_front at h
  refine enter (plainFor_of_name (by decide +kernel)) (Nat.le_of_ble_eq_true rfl) (fun p e s m args below meth c A C hP hD hS ls hl => ?_)
  have hl : lv_has ls 2 [(0, .ref a0), (1, .int x1)] := hl
  obtain ⟨hx, hb, hr, hml, hown, hts, hK, hA, hlk, hSt⟩ := id C
  refine lv_iload_n hx hb dX7_front_0 rfl (lv_at hl 1 rfl) ?_
  refine lv_iconst (v := 0) hx hb dX7_front_1 (by decide) ?_
  refine lv_iconst (v := 3) hx hb dX7_front_2 (by decide) ?_
  obtain ⟨r_1, M_2, hc_3, h⟩ := cal_some h
  refine cl_Si (As := [.int x1, .int (0 : Int32), .int (3 : Int32)]) (rest := []) C (ct_X7_in hc_3) wl_165 wl_166 wl_5 wl_167 hd_X7_in ⟨Nat.le_of_ble_eq_true rfl, Nat.le_of_ble_eq_true rfl⟩ ⟨rfl, rfl⟩ ⟨Nat.zero_le _, Nat.zero_le _⟩ rfl (Nat.le_of_ble_eq_true rfl) rfl hl.1 hP hD hS dX7_front_3 (fun H locs hP hD hS => ?_)
  refine lv_if_ne (tgt := 12) hx hb dX7_front_6 (by decide) (fun c_4 => ?_) (fun c_4 => ?_)
  · replace h := ite_f h c_4
    refine lv_iload_n hx hb dX7_front_12 rfl (lv_at hl 1 rfl) ?_
    refine lv_iconst (v := 3) hx hb dX7_front_13 (by decide) ?_
    refine lv_icmp_ne (tgt := 30) hx hb dX7_front_14 (by decide) (fun c_5 => ?_) (fun c_5 => ?_)
    · replace h := ite_f h c_5
      refine lv_aload_n hx hb dX7_front_30 rfl (lv_at hl 0 rfl) ?_
      obtain ⟨k_6, h⟩ := chk_some h
      obtain ⟨b_7, eb_7, h⟩ := rfm_some h
      refine gf_7_0 C hP k_6 eb_7 wl_100 dX7_front_31 ?_
      refine lv_bipush (v := 10) hx hb dX7_front_34 (by decide) ?_
      refine lv_iload_n hx hb dX7_front_36 rfl (lv_at hl 1 rfl) ?_
      refine lv_iadd hx hb dX7_front_37 ?_
      obtain ⟨k_8, h⟩ := chk_some h
      obtain ⟨k_9, h⟩ := chk_some h
      refine ar_9 C hP k_8 k_9 dX7_front_38 ?_
      cases h
      exact rt_i C hP hD hS dX7_front_39
    · replace h := ite_t h c_5
      refine lv_aload_n hx hb dX7_front_17 rfl (lv_at hl 0 rfl) ?_
      obtain ⟨k_10, h⟩ := chk_some h
      obtain ⟨b_11, eb_11, h⟩ := rfm_some h
      refine gf_7_0 C hP k_10 eb_11 wl_100 dX7_front_18 ?_
      refine lv_bipush (v := 13) hx hb dX7_front_21 (by decide) ?_
      obtain ⟨k_12, h⟩ := chk_some h
      obtain ⟨k_13, h⟩ := chk_some h
      refine ar_9 C hP k_12 k_13 dX7_front_23 ?_
      obtain ⟨r_14, M_15, hc_16, h⟩ := cal_some h
      refine cl_Si (As := [.int (gI M_2 b_11 (13 : Int32).toNatClampNeg)]) (rest := []) C (ct_X7_found hc_16) wl_321 wl_322 wl_5 wl_323 hd_X7_found ⟨Nat.le_of_ble_eq_true rfl, Nat.le_of_ble_eq_true rfl⟩ ⟨rfl, rfl⟩ ⟨Nat.zero_le _, Nat.zero_le _⟩ rfl (Nat.le_of_ble_eq_true rfl) rfl hl.1 hP hD hS dX7_front_24 (fun H locs hP hD hS => ?_)
      refine lv_goto (tgt := 39) hx hb dX7_front_27 (by decide) ?_
      cases h
      exact rt_i C hP hD hS dX7_front_39
  · replace h := ite_t h c_4
    refine lv_ldc (own := RX7) (v := -2000000001) hx hb hown (hts _ wl_160) dX7_front_9 ?_
    cases h
    exact rt_i C hP hD hS dX7_front_11
abbrev rm_X7_allOfBands : Room := { frames := 1, cells := 0, slots := 0, locals := 23 }
theorem hd_X7_allOfBands : yX7_allOfBands.cls = RX7 ∧ yX7_allOfBands.cls ≠ "java/lang/invoke/MethodHandle" ∧ yX7_allOfBands.cls ≠ "java/lang/invoke/VarHandle" ∧ (parseMethodDescriptor yX7_allOfBands.desc).map (fun d => d.parameters.length) = some 0 := ⟨rfl, by decide +kernel, by decide +kernel, by decide +kernel⟩
set_option maxHeartbeats 4000000 in
set_option maxRecDepth 100000 in
theorem bs_X7_allOfBands_4 {p : Program} {l : Launch} {e : Env} {s : State} {m : MethodId} {args : Array Value} {below : List Frame} {meth : Method} {c : Code} {D : va_G} {cy : Cy} {A : Nat → Prop} {T : Ty} {R : Rm} {r : Int32} {M9 : Mm} {a0 : Nat} {j4 : Int32 → Int32 → Mm → Option (Int32 × Mm)} (C : Cx RX7 cX7_allOfBands 3 (some .int) p s m args meth c D cy A)
    (hj4 : ∀ (x1 : Int32) (x2 : Int32) (M : Mm) (H : Heap) (locs : List Loc), j4 x1 x2 M = some (r, M9) → va_P D vwCl (WL cy T M R) H → va_D A (WL cy T M R) → va_S A s.heap H locs → ∀ ls : Array Slot, lv_has ls 3 [(0, .ref a0), (1, .int x1), (2, .int x2)] → W p l e rm_X7_allOfBands s m args below meth c H locs 0 0 (MQ below (QcI D cy T M9 R A r) args s 0 0 A) (F0 m 4 ls [])) :
    ∀ (x1 : Int32) (x2 : Int32) (M : Mm) (H : Heap) (locs : List Loc), fs_X7_allOfBands_4 T R a0 j4 x1 x2 M = some (r, M9) → va_P D vwCl (WL cy T M R) H → va_D A (WL cy T M R) → va_S A s.heap H locs → ∀ ls : Array Slot, lv_has ls 3 [(0, .ref a0), (1, .int x1), (2, .int x2)] → W p l e rm_X7_allOfBands s m args below meth c H locs 0 0 (MQ below (QcI D cy T M9 R A r) args s 0 0 A) (F0 m 4 ls []) := by
  intro x1 x2 M H locs h hP hD hS ls hl
  unfold fs_X7_allOfBands_4 at h
  obtain ⟨hx, hb, hr, hml, hown, hts, hK, hA, hlk, hSt⟩ := id C
  refine lv_iload_n hx hb dX7_allOfBands_4 rfl (lv_at hl 2 rfl) ?_
  refine lv_aload_n hx hb dX7_allOfBands_5 rfl (lv_at hl 0 rfl) ?_
  obtain ⟨k_1, h⟩ := chk_some h
  obtain ⟨b_2, eb_2, h⟩ := rfm_some h
  refine gf_7_0 C hP k_1 eb_2 wl_100 dX7_allOfBands_6 ?_
  refine lv_bipush (v := 8) hx hb dX7_allOfBands_9 (by decide) ?_
  obtain ⟨k_3, h⟩ := chk_some h
  obtain ⟨k_4, h⟩ := chk_some h
  refine ar_9 C hP k_3 k_4 dX7_allOfBands_11 ?_
  refine lv_icmp_ge (tgt := 29) hx hb dX7_allOfBands_12 (by decide) (fun c_5 => ?_) (fun c_5 => ?_)
  · replace h := ite_t h c_5
    refine lv_iload_n hx hb dX7_allOfBands_29 rfl (lv_at hl 1 rfl) ?_
    cases h
    exact rt_i C hP hD hS dX7_allOfBands_30
  · replace h := ite_f h c_5
    refine lv_iload_n hx hb dX7_allOfBands_15 rfl (lv_at hl 1 rfl) ?_
    refine lv_aload_n hx hb dX7_allOfBands_16 rfl (lv_at hl 0 rfl) ?_
    refine lv_iload_n hx hb dX7_allOfBands_17 rfl (lv_at hl 2 rfl) ?_
    obtain ⟨r_6, M_7, hc_8, h⟩ := cal_some h
    refine cl_Vi (As := [.int x2]) (rest := [.int x1]) C (ct_X7_iceOf hc_8) k_1 (by decide) rfl wl_309 wl_310 wl_311 wl_5 wl_312 hd_X7_iceOf ⟨Nat.le_of_ble_eq_true rfl, Nat.le_of_ble_eq_true rfl⟩ ⟨rfl, rfl⟩ ⟨Nat.zero_le _, Nat.zero_le _⟩ rfl (Nat.le_of_ble_eq_true rfl) rfl hl.1 hP hD hS dX7_allOfBands_18 (fun H locs hP hD hS => ?_)
    refine lv_iadd hx hb dX7_allOfBands_21 ?_
    refine lv_topi (fun v_9 ev_9 => ?_)
    replace h := bnd_at h ev_9
    refine lv_istore_n (lv' := [(1, .int v_9), (0, .ref a0), (2, .int x2)]) hx hb dX7_allOfBands_22 rfl hl (by decide) rfl (fun ls hl => ?_)
    obtain ⟨v_10, ev_10⟩ : ∃ y : Int32, y = (x2 + (1 : Int32)) := ⟨_, rfl⟩
    replace h := bnd_at h ev_10
    refine lv_iinc (v := v_10) (lv' := [(2, .int v_10), (1, .int v_9), (0, .ref a0)]) hx hb dX7_allOfBands_23 hl (k := 2) rfl (by rw [ev_10]; rfl) (by decide) rfl (fun ls hl => ?_)
    refine lv_goto (tgt := 4) hx hb dX7_allOfBands_26 (by decide) ?_
    exact hj4 _ _ _ _ _ h hP hD hS _ (lv_sub hl [2, 1, 0] rfl)
theorem bt_X7_allOfBands_4 {p : Program} {l : Launch} {e : Env} {s : State} {m : MethodId} {args : Array Value} {below : List Frame} {meth : Method} {c : Code} {D : va_G} {cy : Cy} {A : Nat → Prop} {T : Ty} {R : Rm} {r : Int32} {M9 : Mm} {a0 : Nat} (C : Cx RX7 cX7_allOfBands 3 (some .int) p s m args meth c D cy A) :
    ∀ n : Nat, ∀ (x1 : Int32) (x2 : Int32) (M : Mm) (H : Heap) (locs : List Loc), fb_X7_allOfBands_4 T R a0 n x1 x2 M = some (r, M9) → va_P D vwCl (WL cy T M R) H → va_D A (WL cy T M R) → va_S A s.heap H locs → ∀ ls : Array Slot, lv_has ls 3 [(0, .ref a0), (1, .int x1), (2, .int x2)] → W p l e rm_X7_allOfBands s m args below meth c H locs 0 0 (MQ below (QcI D cy T M9 R A r) args s 0 0 A) (F0 m 4 ls []) := by
  intro n
  induction n with
  | zero =>
    intro _ _ _ H locs h
    exact absurd (show (none : Option (Int32 × Mm)) = some _ from h) (by simp)
  | succ n ih => exact fun u0 u1 u2 H locs h => bs_X7_allOfBands_4 (a0 := a0) C ih u0 u1 u2 H locs h
set_option maxHeartbeats 4000000 in
set_option maxRecDepth 100000 in
theorem ct_X7_allOfBands {l : Launch} {D : va_G} {cy : Cy} {T : Ty} {R : Rm} {a0 : Nat} {M : Mm} {r : Int32} {M9 : Mm} (h : fn_X7_allOfBands T R a0 M = some (r, M9)) : Ct QcI l yX7_allOfBands cX7_allOfBands 3 (some .int) rm_X7_allOfBands D cy T M R [.ref a0] M9 R r := by
  unfold fn_X7_allOfBands at h
  refine enter (plainFor_of_name (by decide +kernel)) (Nat.le_of_ble_eq_true rfl) (fun p e s m args below meth c A C hP hD hS ls hl => ?_)
  have hl : lv_has ls 3 [(0, .ref a0)] := hl
  obtain ⟨hx, hb, hr, hml, hown, hts, hK, hA, hlk, hSt⟩ := id C
  refine lv_iconst (v := 0) hx hb dX7_allOfBands_0 (by decide) ?_
  refine lv_istore_n (lv' := [(1, .int (0 : Int32)), (0, .ref a0)]) hx hb dX7_allOfBands_1 rfl hl (by decide) rfl (fun ls hl => ?_)
  refine lv_iconst (v := 0) hx hb dX7_allOfBands_2 (by decide) ?_
  refine lv_istore_n (lv' := [(2, .int (0 : Int32)), (1, .int (0 : Int32)), (0, .ref a0)]) hx hb dX7_allOfBands_3 rfl hl (by decide) rfl (fun ls hl => ?_)
  exact (bt_X7_allOfBands_4 C FU) _ _ _ _ _ h hP hD hS _ (lv_sub hl [2, 1, 0] rfl)
abbrev rm_X7_allByYears : Room := { frames := 1, cells := 0, slots := 0, locals := 23 }
theorem hd_X7_allByYears : yX7_allByYears.cls = RX7 ∧ yX7_allByYears.cls ≠ "java/lang/invoke/MethodHandle" ∧ yX7_allByYears.cls ≠ "java/lang/invoke/VarHandle" ∧ (parseMethodDescriptor yX7_allByYears.desc).map (fun d => d.parameters.length) = some 0 := ⟨rfl, by decide +kernel, by decide +kernel, by decide +kernel⟩
set_option maxHeartbeats 4000000 in
set_option maxRecDepth 100000 in
theorem bs_X7_allByYears_4 {p : Program} {l : Launch} {e : Env} {s : State} {m : MethodId} {args : Array Value} {below : List Frame} {meth : Method} {c : Code} {D : va_G} {cy : Cy} {A : Nat → Prop} {T : Ty} {R : Rm} {r : Int32} {M9 : Mm} {a0 : Nat} {j4 : Int32 → Int32 → Mm → Option (Int32 × Mm)} (C : Cx RX7 cX7_allByYears 3 (some .int) p s m args meth c D cy A)
    (hj4 : ∀ (x1 : Int32) (x2 : Int32) (M : Mm) (H : Heap) (locs : List Loc), j4 x1 x2 M = some (r, M9) → va_P D vwCl (WL cy T M R) H → va_D A (WL cy T M R) → va_S A s.heap H locs → ∀ ls : Array Slot, lv_has ls 3 [(0, .ref a0), (1, .int x1), (2, .int x2)] → W p l e rm_X7_allByYears s m args below meth c H locs 0 0 (MQ below (QcI D cy T M9 R A r) args s 0 0 A) (F0 m 4 ls [])) :
    ∀ (x1 : Int32) (x2 : Int32) (M : Mm) (H : Heap) (locs : List Loc), fs_X7_allByYears_4 T R a0 j4 x1 x2 M = some (r, M9) → va_P D vwCl (WL cy T M R) H → va_D A (WL cy T M R) → va_S A s.heap H locs → ∀ ls : Array Slot, lv_has ls 3 [(0, .ref a0), (1, .int x1), (2, .int x2)] → W p l e rm_X7_allByYears s m args below meth c H locs 0 0 (MQ below (QcI D cy T M9 R A r) args s 0 0 A) (F0 m 4 ls []) := by
  intro x1 x2 M H locs h hP hD hS ls hl
  unfold fs_X7_allByYears_4 at h
  obtain ⟨hx, hb, hr, hml, hown, hts, hK, hA, hlk, hSt⟩ := id C
  refine lv_iload_n hx hb dX7_allByYears_4 rfl (lv_at hl 2 rfl) ?_
  refine lv_aload_n hx hb dX7_allByYears_5 rfl (lv_at hl 0 rfl) ?_
  obtain ⟨k_1, h⟩ := chk_some h
  obtain ⟨b_2, eb_2, h⟩ := rfm_some h
  refine gf_7_0 C hP k_1 eb_2 wl_100 dX7_allByYears_6 ?_
  refine lv_bipush (v := 7) hx hb dX7_allByYears_9 (by decide) ?_
  obtain ⟨k_3, h⟩ := chk_some h
  obtain ⟨k_4, h⟩ := chk_some h
  refine ar_9 C hP k_3 k_4 dX7_allByYears_11 ?_
  refine lv_icmp_gt (tgt := 29) hx hb dX7_allByYears_12 (by decide) (fun c_5 => ?_) (fun c_5 => ?_)
  · replace h := ite_t h c_5
    refine lv_iload_n hx hb dX7_allByYears_29 rfl (lv_at hl 1 rfl) ?_
    cases h
    exact rt_i C hP hD hS dX7_allByYears_30
  · replace h := ite_f h c_5
    refine lv_iload_n hx hb dX7_allByYears_15 rfl (lv_at hl 1 rfl) ?_
    refine lv_aload_n hx hb dX7_allByYears_16 rfl (lv_at hl 0 rfl) ?_
    refine lv_iload_n hx hb dX7_allByYears_17 rfl (lv_at hl 2 rfl) ?_
    obtain ⟨r_6, M_7, hc_8, h⟩ := cal_some h
    refine cl_Vi (As := [.int x2]) (rest := [.int x1]) C (ct_X7_leftOf hc_8) k_1 (by decide) rfl wl_362 wl_363 wl_364 wl_5 wl_365 hd_X7_leftOf ⟨Nat.le_of_ble_eq_true rfl, Nat.le_of_ble_eq_true rfl⟩ ⟨rfl, rfl⟩ ⟨Nat.zero_le _, Nat.zero_le _⟩ rfl (Nat.le_of_ble_eq_true rfl) rfl hl.1 hP hD hS dX7_allByYears_18 (fun H locs hP hD hS => ?_)
    refine lv_iadd hx hb dX7_allByYears_21 ?_
    refine lv_topi (fun v_9 ev_9 => ?_)
    replace h := bnd_at h ev_9
    refine lv_istore_n (lv' := [(1, .int v_9), (0, .ref a0), (2, .int x2)]) hx hb dX7_allByYears_22 rfl hl (by decide) rfl (fun ls hl => ?_)
    obtain ⟨v_10, ev_10⟩ : ∃ y : Int32, y = (x2 + (1 : Int32)) := ⟨_, rfl⟩
    replace h := bnd_at h ev_10
    refine lv_iinc (v := v_10) (lv' := [(2, .int v_10), (1, .int v_9), (0, .ref a0)]) hx hb dX7_allByYears_23 hl (k := 2) rfl (by rw [ev_10]; rfl) (by decide) rfl (fun ls hl => ?_)
    refine lv_goto (tgt := 4) hx hb dX7_allByYears_26 (by decide) ?_
    exact hj4 _ _ _ _ _ h hP hD hS _ (lv_sub hl [2, 1, 0] rfl)
theorem bt_X7_allByYears_4 {p : Program} {l : Launch} {e : Env} {s : State} {m : MethodId} {args : Array Value} {below : List Frame} {meth : Method} {c : Code} {D : va_G} {cy : Cy} {A : Nat → Prop} {T : Ty} {R : Rm} {r : Int32} {M9 : Mm} {a0 : Nat} (C : Cx RX7 cX7_allByYears 3 (some .int) p s m args meth c D cy A) :
    ∀ n : Nat, ∀ (x1 : Int32) (x2 : Int32) (M : Mm) (H : Heap) (locs : List Loc), fb_X7_allByYears_4 T R a0 n x1 x2 M = some (r, M9) → va_P D vwCl (WL cy T M R) H → va_D A (WL cy T M R) → va_S A s.heap H locs → ∀ ls : Array Slot, lv_has ls 3 [(0, .ref a0), (1, .int x1), (2, .int x2)] → W p l e rm_X7_allByYears s m args below meth c H locs 0 0 (MQ below (QcI D cy T M9 R A r) args s 0 0 A) (F0 m 4 ls []) := by
  intro n
  induction n with
  | zero =>
    intro _ _ _ H locs h
    exact absurd (show (none : Option (Int32 × Mm)) = some _ from h) (by simp)
  | succ n ih => exact fun u0 u1 u2 H locs h => bs_X7_allByYears_4 (a0 := a0) C ih u0 u1 u2 H locs h
set_option maxHeartbeats 4000000 in
set_option maxRecDepth 100000 in
theorem ct_X7_allByYears {l : Launch} {D : va_G} {cy : Cy} {T : Ty} {R : Rm} {a0 : Nat} {M : Mm} {r : Int32} {M9 : Mm} (h : fn_X7_allByYears T R a0 M = some (r, M9)) : Ct QcI l yX7_allByYears cX7_allByYears 3 (some .int) rm_X7_allByYears D cy T M R [.ref a0] M9 R r := by
  unfold fn_X7_allByYears at h
  refine enter (plainFor_of_name (by decide +kernel)) (Nat.le_of_ble_eq_true rfl) (fun p e s m args below meth c A C hP hD hS ls hl => ?_)
  have hl : lv_has ls 3 [(0, .ref a0)] := hl
  obtain ⟨hx, hb, hr, hml, hown, hts, hK, hA, hlk, hSt⟩ := id C
  refine lv_iconst (v := 0) hx hb dX7_allByYears_0 (by decide) ?_
  refine lv_istore_n (lv' := [(1, .int (0 : Int32)), (0, .ref a0)]) hx hb dX7_allByYears_1 rfl hl (by decide) rfl (fun ls hl => ?_)
  refine lv_iconst (v := 0) hx hb dX7_allByYears_2 (by decide) ?_
  refine lv_istore_n (lv' := [(2, .int (0 : Int32)), (1, .int (0 : Int32)), (0, .ref a0)]) hx hb dX7_allByYears_3 rfl hl (by decide) rfl (fun ls hl => ?_)
  exact (bt_X7_allByYears_4 C FU) _ _ _ _ _ h hP hD hS _ (lv_sub hl [2, 1, 0] rfl)
abbrev rm_X7_account : Room := { frames := 2, cells := 0, slots := 0, locals := 45 }
theorem hd_X7_account : yX7_account.cls = RX7 ∧ yX7_account.cls ≠ "java/lang/invoke/MethodHandle" ∧ yX7_account.cls ≠ "java/lang/invoke/VarHandle" ∧ (parseMethodDescriptor yX7_account.desc).map (fun d => d.parameters.length) = some 1 := ⟨rfl, by decide +kernel, by decide +kernel, by decide +kernel⟩
set_option maxHeartbeats 4000000 in
set_option maxRecDepth 100000 in
theorem ct_X7_account {l : Launch} {D : va_G} {cy : Cy} {T : Ty} {R : Rm} {a0 : Nat} {x1 : Int32} {M : Mm} {r : Int64} {M9 : Mm} (h : fn_X7_account T R a0 x1 M = some (r, M9)) : Ct QcL l yX7_account cX7_account 2 (some .long) rm_X7_account D cy T M R [.ref a0, .int x1] M9 R r := by
  unfold fn_X7_account at h
  refine enter (plainFor_of_name (by decide +kernel)) (Nat.le_of_ble_eq_true rfl) (fun p e s m args below meth c A C hP hD hS ls hl => ?_)
  have hl : lv_has ls 2 [(0, .ref a0), (1, .int x1)] := hl
  obtain ⟨hx, hb, hr, hml, hown, hts, hK, hA, hlk, hSt⟩ := id C
  refine lv_iload_n hx hb dX7_account_0 rfl (lv_at hl 1 rfl) ?_
  refine lv_iconst (v := 0) hx hb dX7_account_1 (by decide) ?_
  refine lv_iconst (v := 5) hx hb dX7_account_2 (by decide) ?_
  obtain ⟨r_1, M_2, hc_3, h⟩ := cal_some h
  refine cl_Si (As := [.int x1, .int (0 : Int32), .int (5 : Int32)]) (rest := []) C (ct_X7_in hc_3) wl_165 wl_166 wl_5 wl_167 hd_X7_in ⟨Nat.le_of_ble_eq_true rfl, Nat.le_of_ble_eq_true rfl⟩ ⟨rfl, rfl⟩ ⟨Nat.zero_le _, Nat.zero_le _⟩ rfl (Nat.le_of_ble_eq_true rfl) rfl hl.1 hP hD hS dX7_account_3 (fun H locs hP hD hS => ?_)
  refine lv_if_ne (tgt := 13) hx hb dX7_account_6 (by decide) (fun c_4 => ?_) (fun c_4 => ?_)
  · replace h := ite_f h c_4
    refine lv_iload_n hx hb dX7_account_13 rfl (lv_at hl 1 rfl) ?_
    refine lv_iconst (v := 4) hx hb dX7_account_14 (by decide) ?_
    refine lv_icmp_ge (tgt := 27) hx hb dX7_account_15 (by decide) (fun c_5 => ?_) (fun c_5 => ?_)
    · replace h := ite_t h c_5
      refine lv_aload_n hx hb dX7_account_27 rfl (lv_at hl 0 rfl) ?_
      obtain ⟨k_6, h⟩ := chk_some h
      obtain ⟨b_7, eb_7, h⟩ := rfm_some h
      refine gf_7_0 C hP k_6 eb_7 wl_100 dX7_account_28 ?_
      refine lv_bipush (v := 10) hx hb dX7_account_31 (by decide) ?_
      obtain ⟨k_8, h⟩ := chk_some h
      obtain ⟨k_9, h⟩ := chk_some h
      refine ar_9 C hP k_8 k_9 dX7_account_33 ?_
      refine lv_iload_n hx hb dX7_account_34 rfl (lv_at hl 1 rfl) ?_
      refine lv_iconst (v := 4) hx hb dX7_account_35 (by decide) ?_
      refine lv_icmp_ne (tgt := 46) hx hb dX7_account_36 (by decide) (fun c_10 => ?_) (fun c_10 => ?_)
      · replace h := ite_f h c_10
        refine lv_aload_n hx hb dX7_account_46 rfl (lv_at hl 0 rfl) ?_
        obtain ⟨r_11, M_12, hc_13, h⟩ := cal_some h
        refine cl_Vi (As := []) (rest := [.int (gI M_2 b_7 (10 : Int32).toNatClampNeg)]) C (ct_X7_allByYears hc_13) k_6 (by decide) rfl wl_420 wl_421 wl_422 wl_5 wl_423 hd_X7_allByYears ⟨Nat.le_of_ble_eq_true rfl, Nat.le_of_ble_eq_true rfl⟩ ⟨rfl, rfl⟩ ⟨Nat.zero_le _, Nat.zero_le _⟩ rfl (Nat.le_of_ble_eq_true rfl) rfl hl.1 hP hD hS dX7_account_47 (fun H locs hP hD hS => ?_)
        refine lv_iadd hx hb dX7_account_50 ?_
        refine lv_i2l hx hb dX7_account_51 rfl ?_
        cases h
        exact rt_l C hP hD hS dX7_account_52
      · replace h := ite_t h c_10
        refine lv_aload_n hx hb dX7_account_39 rfl (lv_at hl 0 rfl) ?_
        obtain ⟨r_14, M_15, hc_16, h⟩ := cal_some h
        refine cl_Vi (As := []) (rest := [.int (gI M_2 b_7 (10 : Int32).toNatClampNeg)]) C (ct_X7_allOfBands hc_16) k_6 (by decide) rfl wl_416 wl_417 wl_418 wl_5 wl_419 hd_X7_allOfBands ⟨Nat.le_of_ble_eq_true rfl, Nat.le_of_ble_eq_true rfl⟩ ⟨rfl, rfl⟩ ⟨Nat.zero_le _, Nat.zero_le _⟩ rfl (Nat.le_of_ble_eq_true rfl) rfl hl.1 hP hD hS dX7_account_40 (fun H locs hP hD hS => ?_)
        refine lv_goto (tgt := 50) hx hb dX7_account_43 (by decide) ?_
        refine lv_iadd hx hb dX7_account_50 ?_
        refine lv_i2l hx hb dX7_account_51 rfl ?_
        cases h
        exact rt_l C hP hD hS dX7_account_52
    · replace h := ite_f h c_5
      refine lv_aload_n hx hb dX7_account_18 rfl (lv_at hl 0 rfl) ?_
      obtain ⟨k_17, h⟩ := chk_some h
      obtain ⟨b_18, eb_18, h⟩ := rfm_some h
      refine gf_7_2 C hP k_17 eb_18 wl_103 dX7_account_19 ?_
      refine lv_iload_n hx hb dX7_account_22 rfl (lv_at hl 1 rfl) ?_
      obtain ⟨k_19, h⟩ := chk_some h
      obtain ⟨k_20, h⟩ := chk_some h
      refine ar_10 C hP k_19 k_20 dX7_account_23 ?_
      refine lv_goto (tgt := 52) hx hb dX7_account_24 (by decide) ?_
      cases h
      exact rt_l C hP hD hS dX7_account_52
  · replace h := ite_t h c_4
    refine lv_ldc2 (own := RX7) (v := -2000000001) hx hb hown (hts _ wl_415) dX7_account_9 ?_
    cases h
    exact rt_l C hP hD hS dX7_account_12
abbrev rm_X7_standing : Room := { frames := 1, cells := 0, slots := 0, locals := 22 }
theorem hd_X7_standing : yX7_standing.cls = RX7 ∧ yX7_standing.cls ≠ "java/lang/invoke/MethodHandle" ∧ yX7_standing.cls ≠ "java/lang/invoke/VarHandle" ∧ (parseMethodDescriptor yX7_standing.desc).map (fun d => d.parameters.length) = some 0 := ⟨rfl, by decide +kernel, by decide +kernel, by decide +kernel⟩
set_option maxHeartbeats 4000000 in
set_option maxRecDepth 100000 in
theorem bs_X7_standing_30 {p : Program} {l : Launch} {e : Env} {s : State} {m : MethodId} {args : Array Value} {below : List Frame} {meth : Method} {c : Code} {D : va_G} {cy : Cy} {A : Nat → Prop} {T : Ty} {R : Rm} {r : Int32} {M9 : Mm} {a0 : Nat} {j4 : Int32 → Int32 → Mm → Option (Int32 × Mm)} (C : Cx RX7 cX7_standing 3 (some .int) p s m args meth c D cy A)
    (hj4 : ∀ (x1 : Int32) (x2 : Int32) (M : Mm) (H : Heap) (locs : List Loc), j4 x1 x2 M = some (r, M9) → va_P D vwCl (WL cy T M R) H → va_D A (WL cy T M R) → va_S A s.heap H locs → ∀ ls : Array Slot, lv_has ls 3 [(0, .ref a0), (1, .int x1), (2, .int x2)] → W p l e rm_X7_standing s m args below meth c H locs 0 0 (MQ below (QcI D cy T M9 R A r) args s 0 0 A) (F0 m 4 ls [])) :
    ∀ (x2 : Int32) (s0 : Int32) (s1 : Int32) (M : Mm) (H : Heap) (locs : List Loc), fs_X7_standing_30 T R a0 j4 x2 s0 s1 M = some (r, M9) → va_P D vwCl (WL cy T M R) H → va_D A (WL cy T M R) → va_S A s.heap H locs → ∀ ls : Array Slot, lv_has ls 3 [(0, .ref a0), (2, .int x2)] → W p l e rm_X7_standing s m args below meth c H locs 0 0 (MQ below (QcI D cy T M9 R A r) args s 0 0 A) (F0 m 30 ls [.int s1, .int s0]) := by
  intro x2 s0 s1 M H locs h hP hD hS ls hl
  unfold fs_X7_standing_30 at h
  obtain ⟨hx, hb, hr, hml, hown, hts, hK, hA, hlk, hSt⟩ := id C
  refine lv_iadd hx hb dX7_standing_30 ?_
  refine lv_topi (fun v_1 ev_1 => ?_)
  replace h := bnd_at h ev_1
  refine lv_istore_n (lv' := [(1, .int v_1), (0, .ref a0), (2, .int x2)]) hx hb dX7_standing_31 rfl hl (by decide) rfl (fun ls hl => ?_)
  obtain ⟨v_2, ev_2⟩ : ∃ y : Int32, y = (x2 + (1 : Int32)) := ⟨_, rfl⟩
  replace h := bnd_at h ev_2
  refine lv_iinc (v := v_2) (lv' := [(2, .int v_2), (1, .int v_1), (0, .ref a0)]) hx hb dX7_standing_32 hl (k := 2) rfl (by rw [ev_2]; rfl) (by decide) rfl (fun ls hl => ?_)
  refine lv_goto (tgt := 4) hx hb dX7_standing_35 (by decide) ?_
  exact hj4 _ _ _ _ _ h hP hD hS _ (lv_sub hl [2, 1, 0] rfl)
set_option maxHeartbeats 4000000 in
set_option maxRecDepth 100000 in
theorem bs_X7_standing_4 {p : Program} {l : Launch} {e : Env} {s : State} {m : MethodId} {args : Array Value} {below : List Frame} {meth : Method} {c : Code} {D : va_G} {cy : Cy} {A : Nat → Prop} {T : Ty} {R : Rm} {r : Int32} {M9 : Mm} {a0 : Nat} {j4 : Int32 → Int32 → Mm → Option (Int32 × Mm)} (C : Cx RX7 cX7_standing 3 (some .int) p s m args meth c D cy A)
    (hj4 : ∀ (x1 : Int32) (x2 : Int32) (M : Mm) (H : Heap) (locs : List Loc), j4 x1 x2 M = some (r, M9) → va_P D vwCl (WL cy T M R) H → va_D A (WL cy T M R) → va_S A s.heap H locs → ∀ ls : Array Slot, lv_has ls 3 [(0, .ref a0), (1, .int x1), (2, .int x2)] → W p l e rm_X7_standing s m args below meth c H locs 0 0 (MQ below (QcI D cy T M9 R A r) args s 0 0 A) (F0 m 4 ls [])) :
    ∀ (x1 : Int32) (x2 : Int32) (M : Mm) (H : Heap) (locs : List Loc), fs_X7_standing_4 T R a0 j4 x1 x2 M = some (r, M9) → va_P D vwCl (WL cy T M R) H → va_D A (WL cy T M R) → va_S A s.heap H locs → ∀ ls : Array Slot, lv_has ls 3 [(0, .ref a0), (1, .int x1), (2, .int x2)] → W p l e rm_X7_standing s m args below meth c H locs 0 0 (MQ below (QcI D cy T M9 R A r) args s 0 0 A) (F0 m 4 ls []) := by
  intro x1 x2 M H locs h hP hD hS ls hl
  unfold fs_X7_standing_4 at h
  obtain ⟨hx, hb, hr, hml, hown, hts, hK, hA, hlk, hSt⟩ := id C
  refine lv_iload_n hx hb dX7_standing_4 rfl (lv_at hl 2 rfl) ?_
  refine lv_aload_n hx hb dX7_standing_5 rfl (lv_at hl 0 rfl) ?_
  obtain ⟨k_3, h⟩ := chk_some h
  obtain ⟨b_4, eb_4, h⟩ := rfm_some h
  refine gf_7_0 C hP k_3 eb_4 wl_100 dX7_standing_6 ?_
  refine lv_bipush (v := 9) hx hb dX7_standing_9 (by decide) ?_
  obtain ⟨k_5, h⟩ := chk_some h
  obtain ⟨k_6, h⟩ := chk_some h
  refine ar_9 C hP k_5 k_6 dX7_standing_11 ?_
  refine lv_icmp_ge (tgt := 38) hx hb dX7_standing_12 (by decide) (fun c_7 => ?_) (fun c_7 => ?_)
  · replace h := ite_t h c_7
    refine lv_iload_n hx hb dX7_standing_38 rfl (lv_at hl 1 rfl) ?_
    cases h
    exact rt_i C hP hD hS dX7_standing_39
  · replace h := ite_f h c_7
    refine lv_iload_n hx hb dX7_standing_15 rfl (lv_at hl 1 rfl) ?_
    refine lv_aload_n hx hb dX7_standing_16 rfl (lv_at hl 0 rfl) ?_
    refine lv_iload_n hx hb dX7_standing_17 rfl (lv_at hl 2 rfl) ?_
    refine lv_iconst (v := 4) hx hb dX7_standing_18 (by decide) ?_
    obtain ⟨r_8, M_9, hc_10, h⟩ := cal_some h
    refine cl_Vi (As := [.int x2, .int (4 : Int32)]) (rest := [.int x1]) C (ct_X7_ofStake hc_10) k_3 (by decide) rfl wl_454 wl_455 wl_456 wl_5 wl_457 hd_X7_ofStake ⟨Nat.le_of_ble_eq_true rfl, Nat.le_of_ble_eq_true rfl⟩ ⟨rfl, rfl⟩ ⟨Nat.zero_le _, Nat.zero_le _⟩ rfl (Nat.le_of_ble_eq_true rfl) rfl hl.1 hP hD hS dX7_standing_19 (fun H locs hP hD hS => ?_)
    refine lv_if_ne (tgt := 29) hx hb dX7_standing_22 (by decide) (fun c_11 => ?_) (fun c_11 => ?_)
    · replace h := ite_f h c_11
      refine lv_iconst (v := 0) hx hb dX7_standing_29 (by decide) ?_
      exact (bs_X7_standing_30 C hj4) _ _ _ _ _ _ h hP hD hS _ (lv_sub hl [0, 2] rfl)
    · replace h := ite_t h c_11
      refine lv_iconst (v := 1) hx hb dX7_standing_25 (by decide) ?_
      refine lv_goto (tgt := 30) hx hb dX7_standing_26 (by decide) ?_
      exact (bs_X7_standing_30 C hj4) _ _ _ _ _ _ h hP hD hS _ (lv_sub hl [0, 2] rfl)
theorem bt_X7_standing_4 {p : Program} {l : Launch} {e : Env} {s : State} {m : MethodId} {args : Array Value} {below : List Frame} {meth : Method} {c : Code} {D : va_G} {cy : Cy} {A : Nat → Prop} {T : Ty} {R : Rm} {r : Int32} {M9 : Mm} {a0 : Nat} (C : Cx RX7 cX7_standing 3 (some .int) p s m args meth c D cy A) :
    ∀ n : Nat, ∀ (x1 : Int32) (x2 : Int32) (M : Mm) (H : Heap) (locs : List Loc), fb_X7_standing_4 T R a0 n x1 x2 M = some (r, M9) → va_P D vwCl (WL cy T M R) H → va_D A (WL cy T M R) → va_S A s.heap H locs → ∀ ls : Array Slot, lv_has ls 3 [(0, .ref a0), (1, .int x1), (2, .int x2)] → W p l e rm_X7_standing s m args below meth c H locs 0 0 (MQ below (QcI D cy T M9 R A r) args s 0 0 A) (F0 m 4 ls []) := by
  intro n
  induction n with
  | zero =>
    intro _ _ _ H locs h
    exact absurd (show (none : Option (Int32 × Mm)) = some _ from h) (by simp)
  | succ n ih => exact fun u0 u1 u2 H locs h => bs_X7_standing_4 (a0 := a0) C ih u0 u1 u2 H locs h
set_option maxHeartbeats 4000000 in
set_option maxRecDepth 100000 in
theorem ct_X7_standing {l : Launch} {D : va_G} {cy : Cy} {T : Ty} {R : Rm} {a0 : Nat} {M : Mm} {r : Int32} {M9 : Mm} (h : fn_X7_standing T R a0 M = some (r, M9)) : Ct QcI l yX7_standing cX7_standing 3 (some .int) rm_X7_standing D cy T M R [.ref a0] M9 R r := by
  unfold fn_X7_standing at h
  refine enter (plainFor_of_name (by decide +kernel)) (Nat.le_of_ble_eq_true rfl) (fun p e s m args below meth c A C hP hD hS ls hl => ?_)
  have hl : lv_has ls 3 [(0, .ref a0)] := hl
  obtain ⟨hx, hb, hr, hml, hown, hts, hK, hA, hlk, hSt⟩ := id C
  refine lv_iconst (v := 0) hx hb dX7_standing_0 (by decide) ?_
  refine lv_istore_n (lv' := [(1, .int (0 : Int32)), (0, .ref a0)]) hx hb dX7_standing_1 rfl hl (by decide) rfl (fun ls hl => ?_)
  refine lv_iconst (v := 0) hx hb dX7_standing_2 (by decide) ?_
  refine lv_istore_n (lv' := [(2, .int (0 : Int32)), (1, .int (0 : Int32)), (0, .ref a0)]) hx hb dX7_standing_3 rfl hl (by decide) rfl (fun ls hl => ?_)
  exact (bt_X7_standing_4 C FU) _ _ _ _ _ h hP hD hS _ (lv_sub hl [2, 1, 0] rfl)
abbrev rm_X7_differentYears : Room := { frames := 1, cells := 0, slots := 0, locals := 23 }
theorem hd_X7_differentYears : yX7_differentYears.cls = RX7 ∧ yX7_differentYears.cls ≠ "java/lang/invoke/MethodHandle" ∧ yX7_differentYears.cls ≠ "java/lang/invoke/VarHandle" ∧ (parseMethodDescriptor yX7_differentYears.desc).map (fun d => d.parameters.length) = some 0 := ⟨rfl, by decide +kernel, by decide +kernel, by decide +kernel⟩
set_option maxHeartbeats 4000000 in
set_option maxRecDepth 100000 in
theorem bs_X7_differentYears_29 {p : Program} {l : Launch} {e : Env} {s : State} {m : MethodId} {args : Array Value} {below : List Frame} {meth : Method} {c : Code} {D : va_G} {cy : Cy} {A : Nat → Prop} {T : Ty} {R : Rm} {r : Int32} {M9 : Mm} {a0 : Nat} {j4 : Int32 → Int32 → Mm → Option (Int32 × Mm)} (C : Cx RX7 cX7_differentYears 3 (some .int) p s m args meth c D cy A)
    (hj4 : ∀ (x1 : Int32) (x2 : Int32) (M : Mm) (H : Heap) (locs : List Loc), j4 x1 x2 M = some (r, M9) → va_P D vwCl (WL cy T M R) H → va_D A (WL cy T M R) → va_S A s.heap H locs → ∀ ls : Array Slot, lv_has ls 3 [(0, .ref a0), (1, .int x1), (2, .int x2)] → W p l e rm_X7_differentYears s m args below meth c H locs 0 0 (MQ below (QcI D cy T M9 R A r) args s 0 0 A) (F0 m 4 ls [])) :
    ∀ (x2 : Int32) (s0 : Int32) (s1 : Int32) (M : Mm) (H : Heap) (locs : List Loc), fs_X7_differentYears_29 T R a0 j4 x2 s0 s1 M = some (r, M9) → va_P D vwCl (WL cy T M R) H → va_D A (WL cy T M R) → va_S A s.heap H locs → ∀ ls : Array Slot, lv_has ls 3 [(0, .ref a0), (2, .int x2)] → W p l e rm_X7_differentYears s m args below meth c H locs 0 0 (MQ below (QcI D cy T M9 R A r) args s 0 0 A) (F0 m 29 ls [.int s1, .int s0]) := by
  intro x2 s0 s1 M H locs h hP hD hS ls hl
  unfold fs_X7_differentYears_29 at h
  obtain ⟨hx, hb, hr, hml, hown, hts, hK, hA, hlk, hSt⟩ := id C
  refine lv_iadd hx hb dX7_differentYears_29 ?_
  refine lv_topi (fun v_1 ev_1 => ?_)
  replace h := bnd_at h ev_1
  refine lv_istore_n (lv' := [(1, .int v_1), (0, .ref a0), (2, .int x2)]) hx hb dX7_differentYears_30 rfl hl (by decide) rfl (fun ls hl => ?_)
  obtain ⟨v_2, ev_2⟩ : ∃ y : Int32, y = (x2 + (1 : Int32)) := ⟨_, rfl⟩
  replace h := bnd_at h ev_2
  refine lv_iinc (v := v_2) (lv' := [(2, .int v_2), (1, .int v_1), (0, .ref a0)]) hx hb dX7_differentYears_31 hl (k := 2) rfl (by rw [ev_2]; rfl) (by decide) rfl (fun ls hl => ?_)
  refine lv_goto (tgt := 4) hx hb dX7_differentYears_34 (by decide) ?_
  exact hj4 _ _ _ _ _ h hP hD hS _ (lv_sub hl [2, 1, 0] rfl)
set_option maxHeartbeats 4000000 in
set_option maxRecDepth 100000 in
theorem bs_X7_differentYears_4 {p : Program} {l : Launch} {e : Env} {s : State} {m : MethodId} {args : Array Value} {below : List Frame} {meth : Method} {c : Code} {D : va_G} {cy : Cy} {A : Nat → Prop} {T : Ty} {R : Rm} {r : Int32} {M9 : Mm} {a0 : Nat} {j4 : Int32 → Int32 → Mm → Option (Int32 × Mm)} (C : Cx RX7 cX7_differentYears 3 (some .int) p s m args meth c D cy A)
    (hj4 : ∀ (x1 : Int32) (x2 : Int32) (M : Mm) (H : Heap) (locs : List Loc), j4 x1 x2 M = some (r, M9) → va_P D vwCl (WL cy T M R) H → va_D A (WL cy T M R) → va_S A s.heap H locs → ∀ ls : Array Slot, lv_has ls 3 [(0, .ref a0), (1, .int x1), (2, .int x2)] → W p l e rm_X7_differentYears s m args below meth c H locs 0 0 (MQ below (QcI D cy T M9 R A r) args s 0 0 A) (F0 m 4 ls [])) :
    ∀ (x1 : Int32) (x2 : Int32) (M : Mm) (H : Heap) (locs : List Loc), fs_X7_differentYears_4 T R a0 j4 x1 x2 M = some (r, M9) → va_P D vwCl (WL cy T M R) H → va_D A (WL cy T M R) → va_S A s.heap H locs → ∀ ls : Array Slot, lv_has ls 3 [(0, .ref a0), (1, .int x1), (2, .int x2)] → W p l e rm_X7_differentYears s m args below meth c H locs 0 0 (MQ below (QcI D cy T M9 R A r) args s 0 0 A) (F0 m 4 ls []) := by
  intro x1 x2 M H locs h hP hD hS ls hl
  unfold fs_X7_differentYears_4 at h
  obtain ⟨hx, hb, hr, hml, hown, hts, hK, hA, hlk, hSt⟩ := id C
  refine lv_iload_n hx hb dX7_differentYears_4 rfl (lv_at hl 2 rfl) ?_
  refine lv_aload_n hx hb dX7_differentYears_5 rfl (lv_at hl 0 rfl) ?_
  obtain ⟨k_3, h⟩ := chk_some h
  obtain ⟨b_4, eb_4, h⟩ := rfm_some h
  refine gf_7_0 C hP k_3 eb_4 wl_100 dX7_differentYears_6 ?_
  refine lv_bipush (v := 7) hx hb dX7_differentYears_9 (by decide) ?_
  obtain ⟨k_5, h⟩ := chk_some h
  obtain ⟨k_6, h⟩ := chk_some h
  refine ar_9 C hP k_5 k_6 dX7_differentYears_11 ?_
  refine lv_icmp_gt (tgt := 37) hx hb dX7_differentYears_12 (by decide) (fun c_7 => ?_) (fun c_7 => ?_)
  · replace h := ite_t h c_7
    refine lv_iload_n hx hb dX7_differentYears_37 rfl (lv_at hl 1 rfl) ?_
    cases h
    exact rt_i C hP hD hS dX7_differentYears_38
  · replace h := ite_f h c_7
    refine lv_iload_n hx hb dX7_differentYears_15 rfl (lv_at hl 1 rfl) ?_
    refine lv_aload_n hx hb dX7_differentYears_16 rfl (lv_at hl 0 rfl) ?_
    refine lv_iload_n hx hb dX7_differentYears_17 rfl (lv_at hl 2 rfl) ?_
    obtain ⟨r_8, M_9, hc_10, h⟩ := cal_some h
    refine cl_Vi (As := [.int x2]) (rest := [.int x1]) C (ct_X7_leftOf hc_10) k_3 (by decide) rfl wl_362 wl_363 wl_364 wl_5 wl_365 hd_X7_leftOf ⟨Nat.le_of_ble_eq_true rfl, Nat.le_of_ble_eq_true rfl⟩ ⟨rfl, rfl⟩ ⟨Nat.zero_le _, Nat.zero_le _⟩ rfl (Nat.le_of_ble_eq_true rfl) rfl hl.1 hP hD hS dX7_differentYears_18 (fun H locs hP hD hS => ?_)
    refine lv_if_le (tgt := 28) hx hb dX7_differentYears_21 (by decide) (fun c_11 => ?_) (fun c_11 => ?_)
    · replace h := ite_t h c_11
      refine lv_iconst (v := 0) hx hb dX7_differentYears_28 (by decide) ?_
      exact (bs_X7_differentYears_29 C hj4) _ _ _ _ _ _ h hP hD hS _ (lv_sub hl [0, 2] rfl)
    · replace h := ite_f h c_11
      refine lv_iconst (v := 1) hx hb dX7_differentYears_24 (by decide) ?_
      refine lv_goto (tgt := 29) hx hb dX7_differentYears_25 (by decide) ?_
      exact (bs_X7_differentYears_29 C hj4) _ _ _ _ _ _ h hP hD hS _ (lv_sub hl [0, 2] rfl)
theorem bt_X7_differentYears_4 {p : Program} {l : Launch} {e : Env} {s : State} {m : MethodId} {args : Array Value} {below : List Frame} {meth : Method} {c : Code} {D : va_G} {cy : Cy} {A : Nat → Prop} {T : Ty} {R : Rm} {r : Int32} {M9 : Mm} {a0 : Nat} (C : Cx RX7 cX7_differentYears 3 (some .int) p s m args meth c D cy A) :
    ∀ n : Nat, ∀ (x1 : Int32) (x2 : Int32) (M : Mm) (H : Heap) (locs : List Loc), fb_X7_differentYears_4 T R a0 n x1 x2 M = some (r, M9) → va_P D vwCl (WL cy T M R) H → va_D A (WL cy T M R) → va_S A s.heap H locs → ∀ ls : Array Slot, lv_has ls 3 [(0, .ref a0), (1, .int x1), (2, .int x2)] → W p l e rm_X7_differentYears s m args below meth c H locs 0 0 (MQ below (QcI D cy T M9 R A r) args s 0 0 A) (F0 m 4 ls []) := by
  intro n
  induction n with
  | zero =>
    intro _ _ _ H locs h
    exact absurd (show (none : Option (Int32 × Mm)) = some _ from h) (by simp)
  | succ n ih => exact fun u0 u1 u2 H locs h => bs_X7_differentYears_4 (a0 := a0) C ih u0 u1 u2 H locs h
set_option maxHeartbeats 4000000 in
set_option maxRecDepth 100000 in
theorem ct_X7_differentYears {l : Launch} {D : va_G} {cy : Cy} {T : Ty} {R : Rm} {a0 : Nat} {M : Mm} {r : Int32} {M9 : Mm} (h : fn_X7_differentYears T R a0 M = some (r, M9)) : Ct QcI l yX7_differentYears cX7_differentYears 3 (some .int) rm_X7_differentYears D cy T M R [.ref a0] M9 R r := by
  unfold fn_X7_differentYears at h
  refine enter (plainFor_of_name (by decide +kernel)) (Nat.le_of_ble_eq_true rfl) (fun p e s m args below meth c A C hP hD hS ls hl => ?_)
  have hl : lv_has ls 3 [(0, .ref a0)] := hl
  obtain ⟨hx, hb, hr, hml, hown, hts, hK, hA, hlk, hSt⟩ := id C
  refine lv_iconst (v := 0) hx hb dX7_differentYears_0 (by decide) ?_
  refine lv_istore_n (lv' := [(1, .int (0 : Int32)), (0, .ref a0)]) hx hb dX7_differentYears_1 rfl hl (by decide) rfl (fun ls hl => ?_)
  refine lv_iconst (v := 0) hx hb dX7_differentYears_2 (by decide) ?_
  refine lv_istore_n (lv' := [(2, .int (0 : Int32)), (1, .int (0 : Int32)), (0, .ref a0)]) hx hb dX7_differentYears_3 rfl hl (by decide) rfl (fun ls hl => ?_)
  exact (bt_X7_differentYears_4 C FU) _ _ _ _ _ h hP hD hS _ (lv_sub hl [2, 1, 0] rfl)
abbrev rm_X7_allLayers : Room := { frames := 1, cells := 0, slots := 0, locals := 23 }
theorem hd_X7_allLayers : yX7_allLayers.cls = RX7 ∧ yX7_allLayers.cls ≠ "java/lang/invoke/MethodHandle" ∧ yX7_allLayers.cls ≠ "java/lang/invoke/VarHandle" ∧ (parseMethodDescriptor yX7_allLayers.desc).map (fun d => d.parameters.length) = some 0 := ⟨rfl, by decide +kernel, by decide +kernel, by decide +kernel⟩
set_option maxHeartbeats 4000000 in
set_option maxRecDepth 100000 in
theorem bs_X7_allLayers_4 {p : Program} {l : Launch} {e : Env} {s : State} {m : MethodId} {args : Array Value} {below : List Frame} {meth : Method} {c : Code} {D : va_G} {cy : Cy} {A : Nat → Prop} {T : Ty} {R : Rm} {r : Int32} {M9 : Mm} {a0 : Nat} {j4 : Int32 → Int32 → Mm → Option (Int32 × Mm)} (C : Cx RX7 cX7_allLayers 3 (some .int) p s m args meth c D cy A)
    (hj4 : ∀ (x1 : Int32) (x2 : Int32) (M : Mm) (H : Heap) (locs : List Loc), j4 x1 x2 M = some (r, M9) → va_P D vwCl (WL cy T M R) H → va_D A (WL cy T M R) → va_S A s.heap H locs → ∀ ls : Array Slot, lv_has ls 3 [(0, .ref a0), (1, .int x1), (2, .int x2)] → W p l e rm_X7_allLayers s m args below meth c H locs 0 0 (MQ below (QcI D cy T M9 R A r) args s 0 0 A) (F0 m 4 ls [])) :
    ∀ (x1 : Int32) (x2 : Int32) (M : Mm) (H : Heap) (locs : List Loc), fs_X7_allLayers_4 T R a0 j4 x1 x2 M = some (r, M9) → va_P D vwCl (WL cy T M R) H → va_D A (WL cy T M R) → va_S A s.heap H locs → ∀ ls : Array Slot, lv_has ls 3 [(0, .ref a0), (1, .int x1), (2, .int x2)] → W p l e rm_X7_allLayers s m args below meth c H locs 0 0 (MQ below (QcI D cy T M9 R A r) args s 0 0 A) (F0 m 4 ls []) := by
  intro x1 x2 M H locs h hP hD hS ls hl
  unfold fs_X7_allLayers_4 at h
  obtain ⟨hx, hb, hr, hml, hown, hts, hK, hA, hlk, hSt⟩ := id C
  refine lv_iload_n hx hb dX7_allLayers_4 rfl (lv_at hl 2 rfl) ?_
  refine lv_aload_n hx hb dX7_allLayers_5 rfl (lv_at hl 0 rfl) ?_
  obtain ⟨k_1, h⟩ := chk_some h
  obtain ⟨b_2, eb_2, h⟩ := rfm_some h
  refine gf_7_0 C hP k_1 eb_2 wl_100 dX7_allLayers_6 ?_
  refine lv_bipush (v := 8) hx hb dX7_allLayers_9 (by decide) ?_
  obtain ⟨k_3, h⟩ := chk_some h
  obtain ⟨k_4, h⟩ := chk_some h
  refine ar_9 C hP k_3 k_4 dX7_allLayers_11 ?_
  refine lv_icmp_ge (tgt := 29) hx hb dX7_allLayers_12 (by decide) (fun c_5 => ?_) (fun c_5 => ?_)
  · replace h := ite_t h c_5
    refine lv_iload_n hx hb dX7_allLayers_29 rfl (lv_at hl 1 rfl) ?_
    cases h
    exact rt_i C hP hD hS dX7_allLayers_30
  · replace h := ite_f h c_5
    refine lv_iload_n hx hb dX7_allLayers_15 rfl (lv_at hl 1 rfl) ?_
    refine lv_aload_n hx hb dX7_allLayers_16 rfl (lv_at hl 0 rfl) ?_
    refine lv_iload_n hx hb dX7_allLayers_17 rfl (lv_at hl 2 rfl) ?_
    obtain ⟨r_6, M_7, hc_8, h⟩ := cal_some h
    refine cl_Vi (As := [.int x2]) (rest := [.int x1]) C (ct_X7_layersOf hc_8) k_1 (by decide) rfl wl_313 wl_314 wl_315 wl_5 wl_316 hd_X7_layersOf ⟨Nat.le_of_ble_eq_true rfl, Nat.le_of_ble_eq_true rfl⟩ ⟨rfl, rfl⟩ ⟨Nat.zero_le _, Nat.zero_le _⟩ rfl (Nat.le_of_ble_eq_true rfl) rfl hl.1 hP hD hS dX7_allLayers_18 (fun H locs hP hD hS => ?_)
    refine lv_iadd hx hb dX7_allLayers_21 ?_
    refine lv_topi (fun v_9 ev_9 => ?_)
    replace h := bnd_at h ev_9
    refine lv_istore_n (lv' := [(1, .int v_9), (0, .ref a0), (2, .int x2)]) hx hb dX7_allLayers_22 rfl hl (by decide) rfl (fun ls hl => ?_)
    obtain ⟨v_10, ev_10⟩ : ∃ y : Int32, y = (x2 + (1 : Int32)) := ⟨_, rfl⟩
    replace h := bnd_at h ev_10
    refine lv_iinc (v := v_10) (lv' := [(2, .int v_10), (1, .int v_9), (0, .ref a0)]) hx hb dX7_allLayers_23 hl (k := 2) rfl (by rw [ev_10]; rfl) (by decide) rfl (fun ls hl => ?_)
    refine lv_goto (tgt := 4) hx hb dX7_allLayers_26 (by decide) ?_
    exact hj4 _ _ _ _ _ h hP hD hS _ (lv_sub hl [2, 1, 0] rfl)
theorem bt_X7_allLayers_4 {p : Program} {l : Launch} {e : Env} {s : State} {m : MethodId} {args : Array Value} {below : List Frame} {meth : Method} {c : Code} {D : va_G} {cy : Cy} {A : Nat → Prop} {T : Ty} {R : Rm} {r : Int32} {M9 : Mm} {a0 : Nat} (C : Cx RX7 cX7_allLayers 3 (some .int) p s m args meth c D cy A) :
    ∀ n : Nat, ∀ (x1 : Int32) (x2 : Int32) (M : Mm) (H : Heap) (locs : List Loc), fb_X7_allLayers_4 T R a0 n x1 x2 M = some (r, M9) → va_P D vwCl (WL cy T M R) H → va_D A (WL cy T M R) → va_S A s.heap H locs → ∀ ls : Array Slot, lv_has ls 3 [(0, .ref a0), (1, .int x1), (2, .int x2)] → W p l e rm_X7_allLayers s m args below meth c H locs 0 0 (MQ below (QcI D cy T M9 R A r) args s 0 0 A) (F0 m 4 ls []) := by
  intro n
  induction n with
  | zero =>
    intro _ _ _ H locs h
    exact absurd (show (none : Option (Int32 × Mm)) = some _ from h) (by simp)
  | succ n ih => exact fun u0 u1 u2 H locs h => bs_X7_allLayers_4 (a0 := a0) C ih u0 u1 u2 H locs h
set_option maxHeartbeats 4000000 in
set_option maxRecDepth 100000 in
theorem ct_X7_allLayers {l : Launch} {D : va_G} {cy : Cy} {T : Ty} {R : Rm} {a0 : Nat} {M : Mm} {r : Int32} {M9 : Mm} (h : fn_X7_allLayers T R a0 M = some (r, M9)) : Ct QcI l yX7_allLayers cX7_allLayers 3 (some .int) rm_X7_allLayers D cy T M R [.ref a0] M9 R r := by
  unfold fn_X7_allLayers at h
  refine enter (plainFor_of_name (by decide +kernel)) (Nat.le_of_ble_eq_true rfl) (fun p e s m args below meth c A C hP hD hS ls hl => ?_)
  have hl : lv_has ls 3 [(0, .ref a0)] := hl
  obtain ⟨hx, hb, hr, hml, hown, hts, hK, hA, hlk, hSt⟩ := id C
  refine lv_iconst (v := 0) hx hb dX7_allLayers_0 (by decide) ?_
  refine lv_istore_n (lv' := [(1, .int (0 : Int32)), (0, .ref a0)]) hx hb dX7_allLayers_1 rfl hl (by decide) rfl (fun ls hl => ?_)
  refine lv_iconst (v := 0) hx hb dX7_allLayers_2 (by decide) ?_
  refine lv_istore_n (lv' := [(2, .int (0 : Int32)), (1, .int (0 : Int32)), (0, .ref a0)]) hx hb dX7_allLayers_3 rfl hl (by decide) rfl (fun ls hl => ?_)
  exact (bt_X7_allLayers_4 C FU) _ _ _ _ _ h hP hD hS _ (lv_sub hl [2, 1, 0] rfl)
abbrev rm_X7_count : Room := { frames := 2, cells := 0, slots := 0, locals := 45 }
theorem hd_X7_count : yX7_count.cls = RX7 ∧ yX7_count.cls ≠ "java/lang/invoke/MethodHandle" ∧ yX7_count.cls ≠ "java/lang/invoke/VarHandle" ∧ (parseMethodDescriptor yX7_count.desc).map (fun d => d.parameters.length) = some 1 := ⟨rfl, by decide +kernel, by decide +kernel, by decide +kernel⟩
set_option maxHeartbeats 4000000 in
set_option maxRecDepth 100000 in
theorem ct_X7_count {l : Launch} {D : va_G} {cy : Cy} {T : Ty} {R : Rm} {a0 : Nat} {x1 : Int32} {M : Mm} {r : Int32} {M9 : Mm} (h : fn_X7_count T R a0 x1 M = some (r, M9)) : Ct QcI l yX7_count cX7_count 2 (some .int) rm_X7_count D cy T M R [.ref a0, .int x1] M9 R r := by
  unfold fn_X7_count at h
  refine enter (plainFor_of_name (by decide +kernel)) (Nat.le_of_ble_eq_true rfl) (fun p e s m args below meth c A C hP hD hS ls hl => ?_)
  have hl : lv_has ls 2 [(0, .ref a0), (1, .int x1)] := hl
  obtain ⟨hx, hb, hr, hml, hown, hts, hK, hA, hlk, hSt⟩ := id C
  refine lv_iload_n hx hb dX7_count_0 rfl (lv_at hl 1 rfl) ?_
  by_cases q_1 : x1 = 0
  · replace h := ite_t h q_1
    refine lv_tableIn (off := 75) (tgt := 76) hx hb dX7_count_1 (by rw [q_1]; decide) (by rw [q_1]; decide) (by rw [q_1]; rfl) (by decide) ?_
    refine lv_aload_n hx hb dX7_count_76 rfl (lv_at hl 0 rfl) ?_
    obtain ⟨k_2, h⟩ := chk_some h
    obtain ⟨b_3, eb_3, h⟩ := rfm_some h
    refine gf_7_0 C hP k_2 eb_3 wl_100 dX7_count_77 ?_
    refine lv_bipush (v := 8) hx hb dX7_count_80 (by decide) ?_
    obtain ⟨k_4, h⟩ := chk_some h
    obtain ⟨k_5, h⟩ := chk_some h
    refine ar_9 C hP k_4 k_5 dX7_count_82 ?_
    cases h
    exact rt_i C hP hD hS dX7_count_83
  · replace h := ite_f h q_1
    by_cases q_6 : x1 = 1
    · replace h := ite_t h q_6
      refine lv_tableIn (off := 83) (tgt := 84) hx hb dX7_count_1 (by rw [q_6]; decide) (by rw [q_6]; decide) (by rw [q_6]; rfl) (by decide) ?_
      refine lv_aload_n hx hb dX7_count_84 rfl (lv_at hl 0 rfl) ?_
      obtain ⟨k_7, h⟩ := chk_some h
      obtain ⟨b_8, eb_8, h⟩ := rfm_some h
      refine gf_7_0 C hP k_7 eb_8 wl_100 dX7_count_85 ?_
      refine lv_bipush (v := 7) hx hb dX7_count_88 (by decide) ?_
      obtain ⟨k_9, h⟩ := chk_some h
      obtain ⟨k_10, h⟩ := chk_some h
      refine ar_9 C hP k_9 k_10 dX7_count_90 ?_
      cases h
      exact rt_i C hP hD hS dX7_count_91
    · replace h := ite_f h q_6
      by_cases q_11 : x1 = 2
      · replace h := ite_t h q_11
        refine lv_tableIn (off := 91) (tgt := 92) hx hb dX7_count_1 (by rw [q_11]; decide) (by rw [q_11]; decide) (by rw [q_11]; rfl) (by decide) ?_
        refine lv_aload_n hx hb dX7_count_92 rfl (lv_at hl 0 rfl) ?_
        obtain ⟨k_12, h⟩ := chk_some h
        obtain ⟨b_13, eb_13, h⟩ := rfm_some h
        refine gf_7_0 C hP k_12 eb_13 wl_100 dX7_count_93 ?_
        refine lv_bipush (v := 9) hx hb dX7_count_96 (by decide) ?_
        obtain ⟨k_14, h⟩ := chk_some h
        obtain ⟨k_15, h⟩ := chk_some h
        refine ar_9 C hP k_14 k_15 dX7_count_98 ?_
        cases h
        exact rt_i C hP hD hS dX7_count_99
      · replace h := ite_f h q_11
        by_cases q_16 : x1 = 3
        · replace h := ite_t h q_16
          refine lv_tableIn (off := 99) (tgt := 100) hx hb dX7_count_1 (by rw [q_16]; decide) (by rw [q_16]; decide) (by rw [q_16]; rfl) (by decide) ?_
          refine lv_aload_n hx hb dX7_count_100 rfl (lv_at hl 0 rfl) ?_
          obtain ⟨k_17, h⟩ := chk_some h
          obtain ⟨r_18, M_19, hc_20, h⟩ := cal_some h
          refine cl_Vi (As := []) (rest := []) C (ct_X7_standing hc_20) k_17 (by decide) rfl wl_450 wl_451 wl_452 wl_5 wl_453 hd_X7_standing ⟨Nat.le_of_ble_eq_true rfl, Nat.le_of_ble_eq_true rfl⟩ ⟨rfl, rfl⟩ ⟨Nat.zero_le _, Nat.zero_le _⟩ rfl (Nat.le_of_ble_eq_true rfl) rfl hl.1 hP hD hS dX7_count_101 (fun H locs hP hD hS => ?_)
          cases h
          exact rt_i C hP hD hS dX7_count_104
        · replace h := ite_f h q_16
          by_cases q_21 : x1 = 4
          · replace h := ite_t h q_21
            refine lv_tableIn (off := 104) (tgt := 105) hx hb dX7_count_1 (by rw [q_21]; decide) (by rw [q_21]; decide) (by rw [q_21]; rfl) (by decide) ?_
            refine lv_aload_n hx hb dX7_count_105 rfl (lv_at hl 0 rfl) ?_
            obtain ⟨k_22, h⟩ := chk_some h
            obtain ⟨r_23, M_24, hc_25, h⟩ := cal_some h
            refine cl_Vi (As := []) (rest := []) C (ct_X7_allLayers hc_25) k_22 (by decide) rfl wl_458 wl_459 wl_460 wl_5 wl_461 hd_X7_allLayers ⟨Nat.le_of_ble_eq_true rfl, Nat.le_of_ble_eq_true rfl⟩ ⟨rfl, rfl⟩ ⟨Nat.zero_le _, Nat.zero_le _⟩ rfl (Nat.le_of_ble_eq_true rfl) rfl hl.1 hP hD hS dX7_count_106 (fun H locs hP hD hS => ?_)
            cases h
            exact rt_i C hP hD hS dX7_count_109
          · replace h := ite_f h q_21
            by_cases q_26 : x1 = 5
            · replace h := ite_t h q_26
              refine lv_tableIn (off := 109) (tgt := 110) hx hb dX7_count_1 (by rw [q_26]; decide) (by rw [q_26]; decide) (by rw [q_26]; rfl) (by decide) ?_
              refine lv_aload_n hx hb dX7_count_110 rfl (lv_at hl 0 rfl) ?_
              obtain ⟨k_27, h⟩ := chk_some h
              obtain ⟨r_28, M_29, hc_30, h⟩ := cal_some h
              refine cl_Vi (As := []) (rest := []) C (ct_X7_differentYears hc_30) k_27 (by decide) rfl wl_462 wl_463 wl_464 wl_5 wl_465 hd_X7_differentYears ⟨Nat.le_of_ble_eq_true rfl, Nat.le_of_ble_eq_true rfl⟩ ⟨rfl, rfl⟩ ⟨Nat.zero_le _, Nat.zero_le _⟩ rfl (Nat.le_of_ble_eq_true rfl) rfl hl.1 hP hD hS dX7_count_111 (fun H locs hP hD hS => ?_)
              cases h
              exact rt_i C hP hD hS dX7_count_114
            · replace h := ite_f h q_26
              by_cases q_31 : x1 = 6
              · replace h := ite_t h q_31
                refine lv_tableIn (off := 124) (tgt := 125) hx hb dX7_count_1 (by rw [q_31]; decide) (by rw [q_31]; decide) (by rw [q_31]; rfl) (by decide) ?_
                refine lv_iload_n hx hb dX7_count_125 rfl (lv_at hl 1 rfl) ?_
                refine lv_bipush (v := 6) hx hb dX7_count_126 (by decide) ?_
                refine lv_bipush (v := 12) hx hb dX7_count_128 (by decide) ?_
                obtain ⟨r_32, M_33, hc_34, h⟩ := cal_some h
                refine cl_Si (As := [.int x1, .int (6 : Int32), .int (12 : Int32)]) (rest := []) C (ct_X7_in hc_34) wl_165 wl_166 wl_5 wl_167 hd_X7_in ⟨Nat.le_of_ble_eq_true rfl, Nat.le_of_ble_eq_true rfl⟩ ⟨rfl, rfl⟩ ⟨Nat.zero_le _, Nat.zero_le _⟩ rfl (Nat.le_of_ble_eq_true rfl) rfl hl.1 hP hD hS dX7_count_130 (fun H locs hP hD hS => ?_)
                refine lv_if_eq (tgt := 148) hx hb dX7_count_133 (by decide) (fun c_35 => ?_) (fun c_35 => ?_)
                · replace h := ite_t h c_35
                  refine lv_ldc (own := RX7) (v := -2000000001) hx hb hown (hts _ wl_160) dX7_count_148 ?_
                  cases h
                  exact rt_i C hP hD hS dX7_count_150
                · replace h := ite_f h c_35
                  refine lv_aload_n hx hb dX7_count_136 rfl (lv_at hl 0 rfl) ?_
                  obtain ⟨k_36, h⟩ := chk_some h
                  obtain ⟨b_37, eb_37, h⟩ := rfm_some h
                  refine gf_7_0 C hP k_36 eb_37 wl_100 dX7_count_137 ?_
                  refine lv_iload_n hx hb dX7_count_140 rfl (lv_at hl 1 rfl) ?_
                  refine lv_bipush (v := 6) hx hb dX7_count_141 (by decide) ?_
                  refine lv_isub hx hb dX7_count_143 ?_
                  obtain ⟨k_38, h⟩ := chk_some h
                  obtain ⟨k_39, h⟩ := chk_some h
                  refine ar_9 C hP k_38 k_39 dX7_count_144 ?_
                  refine lv_goto (tgt := 150) hx hb dX7_count_145 (by decide) ?_
                  cases h
                  exact rt_i C hP hD hS dX7_count_150
              · replace h := ite_f h q_31
                by_cases q_40 : x1 = 7
                · replace h := ite_t h q_40
                  refine lv_tableIn (off := 124) (tgt := 125) hx hb dX7_count_1 (by rw [q_40]; decide) (by rw [q_40]; decide) (by rw [q_40]; rfl) (by decide) ?_
                  refine lv_iload_n hx hb dX7_count_125 rfl (lv_at hl 1 rfl) ?_
                  refine lv_bipush (v := 6) hx hb dX7_count_126 (by decide) ?_
                  refine lv_bipush (v := 12) hx hb dX7_count_128 (by decide) ?_
                  obtain ⟨r_41, M_42, hc_43, h⟩ := cal_some h
                  refine cl_Si (As := [.int x1, .int (6 : Int32), .int (12 : Int32)]) (rest := []) C (ct_X7_in hc_43) wl_165 wl_166 wl_5 wl_167 hd_X7_in ⟨Nat.le_of_ble_eq_true rfl, Nat.le_of_ble_eq_true rfl⟩ ⟨rfl, rfl⟩ ⟨Nat.zero_le _, Nat.zero_le _⟩ rfl (Nat.le_of_ble_eq_true rfl) rfl hl.1 hP hD hS dX7_count_130 (fun H locs hP hD hS => ?_)
                  refine lv_if_eq (tgt := 148) hx hb dX7_count_133 (by decide) (fun c_44 => ?_) (fun c_44 => ?_)
                  · replace h := ite_t h c_44
                    refine lv_ldc (own := RX7) (v := -2000000001) hx hb hown (hts _ wl_160) dX7_count_148 ?_
                    cases h
                    exact rt_i C hP hD hS dX7_count_150
                  · replace h := ite_f h c_44
                    refine lv_aload_n hx hb dX7_count_136 rfl (lv_at hl 0 rfl) ?_
                    obtain ⟨k_45, h⟩ := chk_some h
                    obtain ⟨b_46, eb_46, h⟩ := rfm_some h
                    refine gf_7_0 C hP k_45 eb_46 wl_100 dX7_count_137 ?_
                    refine lv_iload_n hx hb dX7_count_140 rfl (lv_at hl 1 rfl) ?_
                    refine lv_bipush (v := 6) hx hb dX7_count_141 (by decide) ?_
                    refine lv_isub hx hb dX7_count_143 ?_
                    obtain ⟨k_47, h⟩ := chk_some h
                    obtain ⟨k_48, h⟩ := chk_some h
                    refine ar_9 C hP k_47 k_48 dX7_count_144 ?_
                    refine lv_goto (tgt := 150) hx hb dX7_count_145 (by decide) ?_
                    cases h
                    exact rt_i C hP hD hS dX7_count_150
                · replace h := ite_f h q_40
                  by_cases q_49 : x1 = 8
                  · replace h := ite_t h q_49
                    refine lv_tableIn (off := 124) (tgt := 125) hx hb dX7_count_1 (by rw [q_49]; decide) (by rw [q_49]; decide) (by rw [q_49]; rfl) (by decide) ?_
                    refine lv_iload_n hx hb dX7_count_125 rfl (lv_at hl 1 rfl) ?_
                    refine lv_bipush (v := 6) hx hb dX7_count_126 (by decide) ?_
                    refine lv_bipush (v := 12) hx hb dX7_count_128 (by decide) ?_
                    obtain ⟨r_50, M_51, hc_52, h⟩ := cal_some h
                    refine cl_Si (As := [.int x1, .int (6 : Int32), .int (12 : Int32)]) (rest := []) C (ct_X7_in hc_52) wl_165 wl_166 wl_5 wl_167 hd_X7_in ⟨Nat.le_of_ble_eq_true rfl, Nat.le_of_ble_eq_true rfl⟩ ⟨rfl, rfl⟩ ⟨Nat.zero_le _, Nat.zero_le _⟩ rfl (Nat.le_of_ble_eq_true rfl) rfl hl.1 hP hD hS dX7_count_130 (fun H locs hP hD hS => ?_)
                    refine lv_if_eq (tgt := 148) hx hb dX7_count_133 (by decide) (fun c_53 => ?_) (fun c_53 => ?_)
                    · replace h := ite_t h c_53
                      refine lv_ldc (own := RX7) (v := -2000000001) hx hb hown (hts _ wl_160) dX7_count_148 ?_
                      cases h
                      exact rt_i C hP hD hS dX7_count_150
                    · replace h := ite_f h c_53
                      refine lv_aload_n hx hb dX7_count_136 rfl (lv_at hl 0 rfl) ?_
                      obtain ⟨k_54, h⟩ := chk_some h
                      obtain ⟨b_55, eb_55, h⟩ := rfm_some h
                      refine gf_7_0 C hP k_54 eb_55 wl_100 dX7_count_137 ?_
                      refine lv_iload_n hx hb dX7_count_140 rfl (lv_at hl 1 rfl) ?_
                      refine lv_bipush (v := 6) hx hb dX7_count_141 (by decide) ?_
                      refine lv_isub hx hb dX7_count_143 ?_
                      obtain ⟨k_56, h⟩ := chk_some h
                      obtain ⟨k_57, h⟩ := chk_some h
                      refine ar_9 C hP k_56 k_57 dX7_count_144 ?_
                      refine lv_goto (tgt := 150) hx hb dX7_count_145 (by decide) ?_
                      cases h
                      exact rt_i C hP hD hS dX7_count_150
                  · replace h := ite_f h q_49
                    by_cases q_58 : x1 = 9
                    · replace h := ite_t h q_58
                      refine lv_tableIn (off := 124) (tgt := 125) hx hb dX7_count_1 (by rw [q_58]; decide) (by rw [q_58]; decide) (by rw [q_58]; rfl) (by decide) ?_
                      refine lv_iload_n hx hb dX7_count_125 rfl (lv_at hl 1 rfl) ?_
                      refine lv_bipush (v := 6) hx hb dX7_count_126 (by decide) ?_
                      refine lv_bipush (v := 12) hx hb dX7_count_128 (by decide) ?_
                      obtain ⟨r_59, M_60, hc_61, h⟩ := cal_some h
                      refine cl_Si (As := [.int x1, .int (6 : Int32), .int (12 : Int32)]) (rest := []) C (ct_X7_in hc_61) wl_165 wl_166 wl_5 wl_167 hd_X7_in ⟨Nat.le_of_ble_eq_true rfl, Nat.le_of_ble_eq_true rfl⟩ ⟨rfl, rfl⟩ ⟨Nat.zero_le _, Nat.zero_le _⟩ rfl (Nat.le_of_ble_eq_true rfl) rfl hl.1 hP hD hS dX7_count_130 (fun H locs hP hD hS => ?_)
                      refine lv_if_eq (tgt := 148) hx hb dX7_count_133 (by decide) (fun c_62 => ?_) (fun c_62 => ?_)
                      · replace h := ite_t h c_62
                        refine lv_ldc (own := RX7) (v := -2000000001) hx hb hown (hts _ wl_160) dX7_count_148 ?_
                        cases h
                        exact rt_i C hP hD hS dX7_count_150
                      · replace h := ite_f h c_62
                        refine lv_aload_n hx hb dX7_count_136 rfl (lv_at hl 0 rfl) ?_
                        obtain ⟨k_63, h⟩ := chk_some h
                        obtain ⟨b_64, eb_64, h⟩ := rfm_some h
                        refine gf_7_0 C hP k_63 eb_64 wl_100 dX7_count_137 ?_
                        refine lv_iload_n hx hb dX7_count_140 rfl (lv_at hl 1 rfl) ?_
                        refine lv_bipush (v := 6) hx hb dX7_count_141 (by decide) ?_
                        refine lv_isub hx hb dX7_count_143 ?_
                        obtain ⟨k_65, h⟩ := chk_some h
                        obtain ⟨k_66, h⟩ := chk_some h
                        refine ar_9 C hP k_65 k_66 dX7_count_144 ?_
                        refine lv_goto (tgt := 150) hx hb dX7_count_145 (by decide) ?_
                        cases h
                        exact rt_i C hP hD hS dX7_count_150
                    · replace h := ite_f h q_58
                      by_cases q_67 : x1 = 10
                      · replace h := ite_t h q_67
                        refine lv_tableIn (off := 124) (tgt := 125) hx hb dX7_count_1 (by rw [q_67]; decide) (by rw [q_67]; decide) (by rw [q_67]; rfl) (by decide) ?_
                        refine lv_iload_n hx hb dX7_count_125 rfl (lv_at hl 1 rfl) ?_
                        refine lv_bipush (v := 6) hx hb dX7_count_126 (by decide) ?_
                        refine lv_bipush (v := 12) hx hb dX7_count_128 (by decide) ?_
                        obtain ⟨r_68, M_69, hc_70, h⟩ := cal_some h
                        refine cl_Si (As := [.int x1, .int (6 : Int32), .int (12 : Int32)]) (rest := []) C (ct_X7_in hc_70) wl_165 wl_166 wl_5 wl_167 hd_X7_in ⟨Nat.le_of_ble_eq_true rfl, Nat.le_of_ble_eq_true rfl⟩ ⟨rfl, rfl⟩ ⟨Nat.zero_le _, Nat.zero_le _⟩ rfl (Nat.le_of_ble_eq_true rfl) rfl hl.1 hP hD hS dX7_count_130 (fun H locs hP hD hS => ?_)
                        refine lv_if_eq (tgt := 148) hx hb dX7_count_133 (by decide) (fun c_71 => ?_) (fun c_71 => ?_)
                        · replace h := ite_t h c_71
                          refine lv_ldc (own := RX7) (v := -2000000001) hx hb hown (hts _ wl_160) dX7_count_148 ?_
                          cases h
                          exact rt_i C hP hD hS dX7_count_150
                        · replace h := ite_f h c_71
                          refine lv_aload_n hx hb dX7_count_136 rfl (lv_at hl 0 rfl) ?_
                          obtain ⟨k_72, h⟩ := chk_some h
                          obtain ⟨b_73, eb_73, h⟩ := rfm_some h
                          refine gf_7_0 C hP k_72 eb_73 wl_100 dX7_count_137 ?_
                          refine lv_iload_n hx hb dX7_count_140 rfl (lv_at hl 1 rfl) ?_
                          refine lv_bipush (v := 6) hx hb dX7_count_141 (by decide) ?_
                          refine lv_isub hx hb dX7_count_143 ?_
                          obtain ⟨k_74, h⟩ := chk_some h
                          obtain ⟨k_75, h⟩ := chk_some h
                          refine ar_9 C hP k_74 k_75 dX7_count_144 ?_
                          refine lv_goto (tgt := 150) hx hb dX7_count_145 (by decide) ?_
                          cases h
                          exact rt_i C hP hD hS dX7_count_150
                      · replace h := ite_f h q_67
                        by_cases q_76 : x1 = 11
                        · replace h := ite_t h q_76
                          refine lv_tableIn (off := 124) (tgt := 125) hx hb dX7_count_1 (by rw [q_76]; decide) (by rw [q_76]; decide) (by rw [q_76]; rfl) (by decide) ?_
                          refine lv_iload_n hx hb dX7_count_125 rfl (lv_at hl 1 rfl) ?_
                          refine lv_bipush (v := 6) hx hb dX7_count_126 (by decide) ?_
                          refine lv_bipush (v := 12) hx hb dX7_count_128 (by decide) ?_
                          obtain ⟨r_77, M_78, hc_79, h⟩ := cal_some h
                          refine cl_Si (As := [.int x1, .int (6 : Int32), .int (12 : Int32)]) (rest := []) C (ct_X7_in hc_79) wl_165 wl_166 wl_5 wl_167 hd_X7_in ⟨Nat.le_of_ble_eq_true rfl, Nat.le_of_ble_eq_true rfl⟩ ⟨rfl, rfl⟩ ⟨Nat.zero_le _, Nat.zero_le _⟩ rfl (Nat.le_of_ble_eq_true rfl) rfl hl.1 hP hD hS dX7_count_130 (fun H locs hP hD hS => ?_)
                          refine lv_if_eq (tgt := 148) hx hb dX7_count_133 (by decide) (fun c_80 => ?_) (fun c_80 => ?_)
                          · replace h := ite_t h c_80
                            refine lv_ldc (own := RX7) (v := -2000000001) hx hb hown (hts _ wl_160) dX7_count_148 ?_
                            cases h
                            exact rt_i C hP hD hS dX7_count_150
                          · replace h := ite_f h c_80
                            refine lv_aload_n hx hb dX7_count_136 rfl (lv_at hl 0 rfl) ?_
                            obtain ⟨k_81, h⟩ := chk_some h
                            obtain ⟨b_82, eb_82, h⟩ := rfm_some h
                            refine gf_7_0 C hP k_81 eb_82 wl_100 dX7_count_137 ?_
                            refine lv_iload_n hx hb dX7_count_140 rfl (lv_at hl 1 rfl) ?_
                            refine lv_bipush (v := 6) hx hb dX7_count_141 (by decide) ?_
                            refine lv_isub hx hb dX7_count_143 ?_
                            obtain ⟨k_83, h⟩ := chk_some h
                            obtain ⟨k_84, h⟩ := chk_some h
                            refine ar_9 C hP k_83 k_84 dX7_count_144 ?_
                            refine lv_goto (tgt := 150) hx hb dX7_count_145 (by decide) ?_
                            cases h
                            exact rt_i C hP hD hS dX7_count_150
                        · replace h := ite_f h q_76
                          by_cases q_85 : x1 = 12
                          · replace h := ite_t h q_85
                            refine lv_tableIn (off := 124) (tgt := 125) hx hb dX7_count_1 (by rw [q_85]; decide) (by rw [q_85]; decide) (by rw [q_85]; rfl) (by decide) ?_
                            refine lv_iload_n hx hb dX7_count_125 rfl (lv_at hl 1 rfl) ?_
                            refine lv_bipush (v := 6) hx hb dX7_count_126 (by decide) ?_
                            refine lv_bipush (v := 12) hx hb dX7_count_128 (by decide) ?_
                            obtain ⟨r_86, M_87, hc_88, h⟩ := cal_some h
                            refine cl_Si (As := [.int x1, .int (6 : Int32), .int (12 : Int32)]) (rest := []) C (ct_X7_in hc_88) wl_165 wl_166 wl_5 wl_167 hd_X7_in ⟨Nat.le_of_ble_eq_true rfl, Nat.le_of_ble_eq_true rfl⟩ ⟨rfl, rfl⟩ ⟨Nat.zero_le _, Nat.zero_le _⟩ rfl (Nat.le_of_ble_eq_true rfl) rfl hl.1 hP hD hS dX7_count_130 (fun H locs hP hD hS => ?_)
                            refine lv_if_eq (tgt := 148) hx hb dX7_count_133 (by decide) (fun c_89 => ?_) (fun c_89 => ?_)
                            · replace h := ite_t h c_89
                              refine lv_ldc (own := RX7) (v := -2000000001) hx hb hown (hts _ wl_160) dX7_count_148 ?_
                              cases h
                              exact rt_i C hP hD hS dX7_count_150
                            · replace h := ite_f h c_89
                              refine lv_aload_n hx hb dX7_count_136 rfl (lv_at hl 0 rfl) ?_
                              obtain ⟨k_90, h⟩ := chk_some h
                              obtain ⟨b_91, eb_91, h⟩ := rfm_some h
                              refine gf_7_0 C hP k_90 eb_91 wl_100 dX7_count_137 ?_
                              refine lv_iload_n hx hb dX7_count_140 rfl (lv_at hl 1 rfl) ?_
                              refine lv_bipush (v := 6) hx hb dX7_count_141 (by decide) ?_
                              refine lv_isub hx hb dX7_count_143 ?_
                              obtain ⟨k_92, h⟩ := chk_some h
                              obtain ⟨k_93, h⟩ := chk_some h
                              refine ar_9 C hP k_92 k_93 dX7_count_144 ?_
                              refine lv_goto (tgt := 150) hx hb dX7_count_145 (by decide) ?_
                              cases h
                              exact rt_i C hP hD hS dX7_count_150
                          · replace h := ite_f h q_85
                            by_cases q_94 : x1 = 13
                            · replace h := ite_t h q_94
                              refine lv_tableIn (off := 114) (tgt := 115) hx hb dX7_count_1 (by rw [q_94]; decide) (by rw [q_94]; decide) (by rw [q_94]; rfl) (by decide) ?_
                              refine lv_aload_n hx hb dX7_count_115 rfl (lv_at hl 0 rfl) ?_
                              obtain ⟨k_95, h⟩ := chk_some h
                              refine gf_7_10 C hP k_95 wl_172 dX7_count_116 ?_
                              cases h
                              exact rt_i C hP hD hS dX7_count_119
                            · replace h := ite_f h q_94
                              by_cases q_96 : x1 = 14
                              · replace h := ite_t h q_96
                                refine lv_tableIn (off := 119) (tgt := 120) hx hb dX7_count_1 (by rw [q_96]; decide) (by rw [q_96]; decide) (by rw [q_96]; rfl) (by decide) ?_
                                refine lv_aload_n hx hb dX7_count_120 rfl (lv_at hl 0 rfl) ?_
                                obtain ⟨k_97, h⟩ := chk_some h
                                refine gf_7_12 C hP k_97 wl_449 dX7_count_121 ?_
                                cases h
                                exact rt_i C hP hD hS dX7_count_124
                              · replace h := ite_f h q_96
                                refine lv_tableOut (tgt := 125) hx hb dX7_count_1 (by have zq_1 := i32ne (k := 0) q_1 (by decide); have zq_6 := i32ne (k := 1) q_6 (by decide); have zq_11 := i32ne (k := 2) q_11 (by decide); have zq_16 := i32ne (k := 3) q_16 (by decide); have zq_21 := i32ne (k := 4) q_21 (by decide); have zq_26 := i32ne (k := 5) q_26 (by decide); have zq_31 := i32ne (k := 6) q_31 (by decide); have zq_40 := i32ne (k := 7) q_40 (by decide); have zq_49 := i32ne (k := 8) q_49 (by decide); have zq_58 := i32ne (k := 9) q_58 (by decide); have zq_67 := i32ne (k := 10) q_67 (by decide); have zq_76 := i32ne (k := 11) q_76 (by decide); have zq_85 := i32ne (k := 12) q_85 (by decide); have zq_94 := i32ne (k := 13) q_94 (by decide); have zq_96 := i32ne (k := 14) q_96 (by decide); omega) (by decide) ?_
                                refine lv_iload_n hx hb dX7_count_125 rfl (lv_at hl 1 rfl) ?_
                                refine lv_bipush (v := 6) hx hb dX7_count_126 (by decide) ?_
                                refine lv_bipush (v := 12) hx hb dX7_count_128 (by decide) ?_
                                obtain ⟨r_98, M_99, hc_100, h⟩ := cal_some h
                                refine cl_Si (As := [.int x1, .int (6 : Int32), .int (12 : Int32)]) (rest := []) C (ct_X7_in hc_100) wl_165 wl_166 wl_5 wl_167 hd_X7_in ⟨Nat.le_of_ble_eq_true rfl, Nat.le_of_ble_eq_true rfl⟩ ⟨rfl, rfl⟩ ⟨Nat.zero_le _, Nat.zero_le _⟩ rfl (Nat.le_of_ble_eq_true rfl) rfl hl.1 hP hD hS dX7_count_130 (fun H locs hP hD hS => ?_)
                                refine lv_if_eq (tgt := 148) hx hb dX7_count_133 (by decide) (fun c_101 => ?_) (fun c_101 => ?_)
                                · replace h := ite_t h c_101
                                  refine lv_ldc (own := RX7) (v := -2000000001) hx hb hown (hts _ wl_160) dX7_count_148 ?_
                                  cases h
                                  exact rt_i C hP hD hS dX7_count_150
                                · replace h := ite_f h c_101
                                  refine lv_aload_n hx hb dX7_count_136 rfl (lv_at hl 0 rfl) ?_
                                  obtain ⟨k_102, h⟩ := chk_some h
                                  obtain ⟨b_103, eb_103, h⟩ := rfm_some h
                                  refine gf_7_0 C hP k_102 eb_103 wl_100 dX7_count_137 ?_
                                  refine lv_iload_n hx hb dX7_count_140 rfl (lv_at hl 1 rfl) ?_
                                  refine lv_bipush (v := 6) hx hb dX7_count_141 (by decide) ?_
                                  refine lv_isub hx hb dX7_count_143 ?_
                                  obtain ⟨k_104, h⟩ := chk_some h
                                  obtain ⟨k_105, h⟩ := chk_some h
                                  refine ar_9 C hP k_104 k_105 dX7_count_144 ?_
                                  refine lv_goto (tgt := 150) hx hb dX7_count_145 (by decide) ?_
                                  cases h
                                  exact rt_i C hP hD hS dX7_count_150
abbrev rm_X7_stake : Room := { frames := 3, cells := 0, slots := 0, locals := 66 }
theorem hd_X7_stake : yX7_stake.cls = RX7 ∧ yX7_stake.cls ≠ "java/lang/invoke/MethodHandle" ∧ yX7_stake.cls ≠ "java/lang/invoke/VarHandle" ∧ (parseMethodDescriptor yX7_stake.desc).map (fun d => d.parameters.length) = some 3 := ⟨rfl, by decide +kernel, by decide +kernel, by decide +kernel⟩
set_option maxHeartbeats 4000000 in
set_option maxRecDepth 100000 in
theorem bs_X7_stake_88 {p : Program} {l : Launch} {e : Env} {s : State} {m : MethodId} {args : Array Value} {below : List Frame} {meth : Method} {c : Code} {D : va_G} {cy : Cy} {A : Nat → Prop} {T : Ty} {R : Rm} {r : Int32} {M9 : Mm} {a0 : Nat} {x1 : Int32} {x2 : Int32} {x3 : Int32} {j41 : Int32 → Mm → Option (Int32 × Mm)} (C : Cx RX7 cX7_stake 5 (some .int) p s m args meth c D cy A)
    (hj41 : ∀ (x4 : Int32) (M : Mm) (H : Heap) (locs : List Loc), j41 x4 M = some (r, M9) → va_P D vwCl (WL cy T M R) H → va_D A (WL cy T M R) → va_S A s.heap H locs → ∀ ls : Array Slot, lv_has ls 5 [(0, .ref a0), (1, .int x1), (2, .int x2), (3, .int x3), (4, .int x4)] → W p l e rm_X7_stake s m args below meth c H locs 0 0 (MQ below (QcI D cy T M9 R A r) args s 0 0 A) (F0 m 41 ls [])) :
    ∀ (x4 : Int32) (M : Mm) (H : Heap) (locs : List Loc), fs_X7_stake_88 T R a0 x1 x2 x3 j41 x4 M = some (r, M9) → va_P D vwCl (WL cy T M R) H → va_D A (WL cy T M R) → va_S A s.heap H locs → ∀ ls : Array Slot, lv_has ls 5 [(0, .ref a0), (1, .int x1), (2, .int x2), (3, .int x3), (4, .int x4)] → W p l e rm_X7_stake s m args below meth c H locs 0 0 (MQ below (QcI D cy T M9 R A r) args s 0 0 A) (F0 m 88 ls []) := by
  intro x4 M H locs h hP hD hS ls hl
  unfold fs_X7_stake_88 at h
  obtain ⟨hx, hb, hr, hml, hown, hts, hK, hA, hlk, hSt⟩ := id C
  obtain ⟨v_1, ev_1⟩ : ∃ y : Int32, y = (x4 + (1 : Int32)) := ⟨_, rfl⟩
  replace h := bnd_at h ev_1
  refine lv_iinc (v := v_1) (lv' := [(4, .int v_1), (0, .ref a0), (1, .int x1), (2, .int x2), (3, .int x3)]) hx hb dX7_stake_88 hl (k := 4) rfl (by rw [ev_1]; rfl) (by decide) rfl (fun ls hl => ?_)
  refine lv_goto (tgt := 41) hx hb dX7_stake_91 (by decide) ?_
  exact hj41 _ _ _ _ h hP hD hS _ (lv_sub hl [1, 2, 3, 4, 0] rfl)
set_option maxHeartbeats 4000000 in
set_option maxRecDepth 100000 in
theorem bs_X7_stake_41 {p : Program} {l : Launch} {e : Env} {s : State} {m : MethodId} {args : Array Value} {below : List Frame} {meth : Method} {c : Code} {D : va_G} {cy : Cy} {A : Nat → Prop} {T : Ty} {R : Rm} {r : Int32} {M9 : Mm} {a0 : Nat} {x1 : Int32} {x2 : Int32} {x3 : Int32} {j41 : Int32 → Mm → Option (Int32 × Mm)} (C : Cx RX7 cX7_stake 5 (some .int) p s m args meth c D cy A)
    (hj41 : ∀ (x4 : Int32) (M : Mm) (H : Heap) (locs : List Loc), j41 x4 M = some (r, M9) → va_P D vwCl (WL cy T M R) H → va_D A (WL cy T M R) → va_S A s.heap H locs → ∀ ls : Array Slot, lv_has ls 5 [(0, .ref a0), (1, .int x1), (2, .int x2), (3, .int x3), (4, .int x4)] → W p l e rm_X7_stake s m args below meth c H locs 0 0 (MQ below (QcI D cy T M9 R A r) args s 0 0 A) (F0 m 41 ls [])) :
    ∀ (x4 : Int32) (M : Mm) (H : Heap) (locs : List Loc), fs_X7_stake_41 T R a0 x1 x2 x3 j41 x4 M = some (r, M9) → va_P D vwCl (WL cy T M R) H → va_D A (WL cy T M R) → va_S A s.heap H locs → ∀ ls : Array Slot, lv_has ls 5 [(0, .ref a0), (1, .int x1), (2, .int x2), (3, .int x3), (4, .int x4)] → W p l e rm_X7_stake s m args below meth c H locs 0 0 (MQ below (QcI D cy T M9 R A r) args s 0 0 A) (F0 m 41 ls []) := by
  intro x4 M H locs h hP hD hS ls hl
  unfold fs_X7_stake_41 at h
  obtain ⟨hx, hb, hr, hml, hown, hts, hK, hA, hlk, hSt⟩ := id C
  refine lv_iload hx hb dX7_stake_41 (lv_at hl 4 rfl) ?_
  refine lv_aload_n hx hb dX7_stake_43 rfl (lv_at hl 0 rfl) ?_
  obtain ⟨k_2, h⟩ := chk_some h
  obtain ⟨b_3, eb_3, h⟩ := rfm_some h
  refine gf_7_0 C hP k_2 eb_3 wl_100 dX7_stake_44 ?_
  refine lv_bipush (v := 9) hx hb dX7_stake_47 (by decide) ?_
  obtain ⟨k_4, h⟩ := chk_some h
  obtain ⟨k_5, h⟩ := chk_some h
  refine ar_9 C hP k_4 k_5 dX7_stake_49 ?_
  refine lv_icmp_ge (tgt := 94) hx hb dX7_stake_50 (by decide) (fun c_6 => ?_) (fun c_6 => ?_)
  · replace h := ite_t h c_6
    refine lv_aload_n hx hb dX7_stake_94 rfl (lv_at hl 0 rfl) ?_
    refine gf_7_0 C hP k_2 eb_3 wl_100 dX7_stake_95 ?_
    refine lv_bipush (v := 9) hx hb dX7_stake_98 (by decide) ?_
    refine ar_9 C hP k_4 k_5 dX7_stake_100 ?_
    refine lv_bipush (v := 6) hx hb dX7_stake_101 (by decide) ?_
    refine lv_icmp_ne (tgt := 109) hx hb dX7_stake_103 (by decide) (fun c_7 => ?_) (fun c_7 => ?_)
    · replace h := ite_f h c_7
      refine lv_aload_n hx hb dX7_stake_109 rfl (lv_at hl 0 rfl) ?_
      obtain ⟨r_8, M_9, hc_10, h⟩ := cal_some h
      refine cl_Vv (As := []) (rest := []) C (ct_X7_keep hc_10) k_2 (by decide) rfl wl_168 wl_169 wl_170 wl_5 wl_171 hd_X7_keep ⟨Nat.le_of_ble_eq_true rfl, Nat.le_of_ble_eq_true rfl⟩ ⟨rfl, rfl⟩ ⟨Nat.zero_le _, Nat.zero_le _⟩ rfl (Nat.le_of_ble_eq_true rfl) rfl hl.1 hP hD hS dX7_stake_110 (fun H locs hP hD hS => ?_)
      refine lv_aload_n hx hb dX7_stake_113 rfl (lv_at hl 0 rfl) ?_
      refine gf_7_0 C hP k_2 eb_3 wl_100 dX7_stake_114 ?_
      refine lv_bipush (v := 9) hx hb dX7_stake_117 (by decide) ?_
      refine ar_9 C hP k_4 k_5 dX7_stake_119 ?_
      refine lv_topi (fun v_11 ev_11 => ?_)
      replace h := bnd_at h ev_11
      refine lv_istore (lv' := [(4, .int v_11), (0, .ref a0), (1, .int x1), (2, .int x2), (3, .int x3)]) hx hb dX7_stake_120 hl (by decide) rfl (fun ls hl => ?_)
      refine lv_aload_n hx hb dX7_stake_122 rfl (lv_at hl 1 rfl) ?_
      refine gf_7_0 C hP k_2 eb_3 wl_100 dX7_stake_123 ?_
      refine lv_bipush (v := 9) hx hb dX7_stake_126 (by decide) ?_
      refine lv_dup2_11 hx hb dX7_stake_128 rfl rfl ?_
      refine ar_9 C hP k_4 k_5 dX7_stake_129 ?_
      refine lv_iconst (v := 1) hx hb dX7_stake_130 (by decide) ?_
      refine lv_iadd hx hb dX7_stake_131 ?_
      refine aw_9 C hP hD hS k_4 k_5 dX7_stake_132 (fun M_12 H locs eM_12 hP hD hS => ?_)
      replace h := bnd_at h eM_12
      refine lv_aload_n hx hb dX7_stake_133 rfl (lv_at hl 1 rfl) ?_
      refine lv_iload hx hb dX7_stake_134 (lv_at hl 0 rfl) ?_
      refine lv_iconst (v := 0) hx hb dX7_stake_136 (by decide) ?_
      refine lv_iload_n hx hb dX7_stake_137 rfl (lv_at hl 2 rfl) ?_
      obtain ⟨r_13, M_14, hc_15, h⟩ := cal_some h
      refine cl_Vv (As := [.int v_11, .int (0 : Int32), .int x1]) (rest := []) C (ct_X7_putStake hc_15) k_2 (by decide) rfl wl_488 wl_489 wl_490 wl_5 wl_491 hd_X7_putStake ⟨Nat.le_of_ble_eq_true rfl, Nat.le_of_ble_eq_true rfl⟩ ⟨rfl, rfl⟩ ⟨Nat.zero_le _, Nat.zero_le _⟩ rfl (Nat.le_of_ble_eq_true rfl) rfl hl.1 hP hD hS dX7_stake_138 (fun H locs hP hD hS => ?_)
      refine lv_aload_n hx hb dX7_stake_141 rfl (lv_at hl 1 rfl) ?_
      refine lv_iload hx hb dX7_stake_142 (lv_at hl 0 rfl) ?_
      refine lv_iconst (v := 1) hx hb dX7_stake_144 (by decide) ?_
      refine lv_iload_n hx hb dX7_stake_145 rfl (lv_at hl 3 rfl) ?_
      obtain ⟨r_16, M_17, hc_18, h⟩ := cal_some h
      refine cl_Vv (As := [.int v_11, .int (1 : Int32), .int x2]) (rest := []) C (ct_X7_putStake hc_18) k_2 (by decide) rfl wl_488 wl_489 wl_490 wl_5 wl_491 hd_X7_putStake ⟨Nat.le_of_ble_eq_true rfl, Nat.le_of_ble_eq_true rfl⟩ ⟨rfl, rfl⟩ ⟨Nat.zero_le _, Nat.zero_le _⟩ rfl (Nat.le_of_ble_eq_true rfl) rfl hl.1 hP hD hS dX7_stake_146 (fun H locs hP hD hS => ?_)
      refine lv_aload_n hx hb dX7_stake_149 rfl (lv_at hl 1 rfl) ?_
      refine lv_iload hx hb dX7_stake_150 (lv_at hl 0 rfl) ?_
      refine lv_iconst (v := 2) hx hb dX7_stake_152 (by decide) ?_
      refine lv_iload_n hx hb dX7_stake_153 rfl (lv_at hl 4 rfl) ?_
      obtain ⟨r_19, M_20, hc_21, h⟩ := cal_some h
      refine cl_Vv (As := [.int v_11, .int (2 : Int32), .int x3]) (rest := []) C (ct_X7_putStake hc_21) k_2 (by decide) rfl wl_488 wl_489 wl_490 wl_5 wl_491 hd_X7_putStake ⟨Nat.le_of_ble_eq_true rfl, Nat.le_of_ble_eq_true rfl⟩ ⟨rfl, rfl⟩ ⟨Nat.zero_le _, Nat.zero_le _⟩ rfl (Nat.le_of_ble_eq_true rfl) rfl hl.1 hP hD hS dX7_stake_154 (fun H locs hP hD hS => ?_)
      refine lv_aload_n hx hb dX7_stake_157 rfl (lv_at hl 1 rfl) ?_
      refine lv_iload hx hb dX7_stake_158 (lv_at hl 0 rfl) ?_
      refine lv_iconst (v := 3) hx hb dX7_stake_160 (by decide) ?_
      refine lv_iconst (v := 0) hx hb dX7_stake_161 (by decide) ?_
      obtain ⟨r_22, M_23, hc_24, h⟩ := cal_some h
      refine cl_Vv (As := [.int v_11, .int (3 : Int32), .int (0 : Int32)]) (rest := []) C (ct_X7_putStake hc_24) k_2 (by decide) rfl wl_488 wl_489 wl_490 wl_5 wl_491 hd_X7_putStake ⟨Nat.le_of_ble_eq_true rfl, Nat.le_of_ble_eq_true rfl⟩ ⟨rfl, rfl⟩ ⟨Nat.zero_le _, Nat.zero_le _⟩ rfl (Nat.le_of_ble_eq_true rfl) rfl hl.1 hP hD hS dX7_stake_162 (fun H locs hP hD hS => ?_)
      refine lv_aload_n hx hb dX7_stake_165 rfl (lv_at hl 1 rfl) ?_
      refine lv_iload hx hb dX7_stake_166 (lv_at hl 0 rfl) ?_
      refine lv_iconst (v := 4) hx hb dX7_stake_168 (by decide) ?_
      refine lv_iconst (v := 0) hx hb dX7_stake_169 (by decide) ?_
      obtain ⟨r_25, M_26, hc_27, h⟩ := cal_some h
      refine cl_Vv (As := [.int v_11, .int (4 : Int32), .int (0 : Int32)]) (rest := []) C (ct_X7_putStake hc_27) k_2 (by decide) rfl wl_488 wl_489 wl_490 wl_5 wl_491 hd_X7_putStake ⟨Nat.le_of_ble_eq_true rfl, Nat.le_of_ble_eq_true rfl⟩ ⟨rfl, rfl⟩ ⟨Nat.zero_le _, Nat.zero_le _⟩ rfl (Nat.le_of_ble_eq_true rfl) rfl hl.1 hP hD hS dX7_stake_170 (fun H locs hP hD hS => ?_)
      refine lv_aload_n hx hb dX7_stake_173 rfl (lv_at hl 1 rfl) ?_
      refine lv_iload hx hb dX7_stake_174 (lv_at hl 0 rfl) ?_
      refine lv_iconst (v := 5) hx hb dX7_stake_176 (by decide) ?_
      refine lv_iconst (v := 0) hx hb dX7_stake_177 (by decide) ?_
      obtain ⟨r_28, M_29, hc_30, h⟩ := cal_some h
      refine cl_Vv (As := [.int v_11, .int (5 : Int32), .int (0 : Int32)]) (rest := []) C (ct_X7_putStake hc_30) k_2 (by decide) rfl wl_488 wl_489 wl_490 wl_5 wl_491 hd_X7_putStake ⟨Nat.le_of_ble_eq_true rfl, Nat.le_of_ble_eq_true rfl⟩ ⟨rfl, rfl⟩ ⟨Nat.zero_le _, Nat.zero_le _⟩ rfl (Nat.le_of_ble_eq_true rfl) rfl hl.1 hP hD hS dX7_stake_178 (fun H locs hP hD hS => ?_)
      refine lv_iload hx hb dX7_stake_181 (lv_at hl 0 rfl) ?_
      cases h
      exact rt_i C hP hD hS dX7_stake_183
    · replace h := ite_t h c_7
      refine lv_ldc (own := RX7) (v := -2000000003) hx hb hown (hts _ wl_239) dX7_stake_106 ?_
      cases h
      exact rt_i C hP hD hS dX7_stake_108
  · replace h := ite_f h c_6
    refine lv_aload_n hx hb dX7_stake_53 rfl (lv_at hl 0 rfl) ?_
    refine lv_iload hx hb dX7_stake_54 (lv_at hl 4 rfl) ?_
    refine lv_iconst (v := 4) hx hb dX7_stake_56 (by decide) ?_
    obtain ⟨r_31, M_32, hc_33, h⟩ := cal_some h
    refine cl_Vi (As := [.int x4, .int (4 : Int32)]) (rest := []) C (ct_X7_ofStake hc_33) k_2 (by decide) rfl wl_454 wl_455 wl_456 wl_5 wl_457 hd_X7_ofStake ⟨Nat.le_of_ble_eq_true rfl, Nat.le_of_ble_eq_true rfl⟩ ⟨rfl, rfl⟩ ⟨Nat.zero_le _, Nat.zero_le _⟩ rfl (Nat.le_of_ble_eq_true rfl) rfl hl.1 hP hD hS dX7_stake_57 (fun H locs hP hD hS => ?_)
    refine lv_if_ne (tgt := 88) hx hb dX7_stake_60 (by decide) (fun c_34 => ?_) (fun c_34 => ?_)
    · replace h := ite_f h c_34
      exact (bs_X7_stake_88 C hj41) _ _ _ _ h hP hD hS _ (lv_sub hl [0, 1, 2, 3, 4] rfl)
    · replace h := ite_t h c_34
      refine lv_aload_n hx hb dX7_stake_63 rfl (lv_at hl 0 rfl) ?_
      refine lv_iload hx hb dX7_stake_64 (lv_at hl 4 rfl) ?_
      refine lv_iconst (v := 0) hx hb dX7_stake_66 (by decide) ?_
      obtain ⟨r_35, M_36, hc_37, h⟩ := cal_some h
      refine cl_Vi (As := [.int x4, .int (0 : Int32)]) (rest := []) C (ct_X7_ofStake hc_37) k_2 (by decide) rfl wl_454 wl_455 wl_456 wl_5 wl_457 hd_X7_ofStake ⟨Nat.le_of_ble_eq_true rfl, Nat.le_of_ble_eq_true rfl⟩ ⟨rfl, rfl⟩ ⟨Nat.zero_le _, Nat.zero_le _⟩ rfl (Nat.le_of_ble_eq_true rfl) rfl hl.1 hP hD hS dX7_stake_67 (fun H locs hP hD hS => ?_)
      refine lv_iload_n hx hb dX7_stake_70 rfl (lv_at hl 1 rfl) ?_
      refine lv_icmp_ne (tgt := 88) hx hb dX7_stake_71 (by decide) (fun c_38 => ?_) (fun c_38 => ?_)
      · replace h := ite_f h c_38
        exact (bs_X7_stake_88 C hj41) _ _ _ _ h hP hD hS _ (lv_sub hl [0, 1, 2, 3, 4] rfl)
      · replace h := ite_t h c_38
        refine lv_aload_n hx hb dX7_stake_74 rfl (lv_at hl 0 rfl) ?_
        refine lv_iload hx hb dX7_stake_75 (lv_at hl 4 rfl) ?_
        refine lv_iconst (v := 1) hx hb dX7_stake_77 (by decide) ?_
        obtain ⟨r_39, M_40, hc_41, h⟩ := cal_some h
        refine cl_Vi (As := [.int x4, .int (1 : Int32)]) (rest := []) C (ct_X7_ofStake hc_41) k_2 (by decide) rfl wl_454 wl_455 wl_456 wl_5 wl_457 hd_X7_ofStake ⟨Nat.le_of_ble_eq_true rfl, Nat.le_of_ble_eq_true rfl⟩ ⟨rfl, rfl⟩ ⟨Nat.zero_le _, Nat.zero_le _⟩ rfl (Nat.le_of_ble_eq_true rfl) rfl hl.1 hP hD hS dX7_stake_78 (fun H locs hP hD hS => ?_)
        refine lv_iload_n hx hb dX7_stake_81 rfl (lv_at hl 2 rfl) ?_
        refine lv_icmp_ne (tgt := 88) hx hb dX7_stake_82 (by decide) (fun c_42 => ?_) (fun c_42 => ?_)
        · replace h := ite_f h c_42
          exact (bs_X7_stake_88 C hj41) _ _ _ _ h hP hD hS _ (lv_sub hl [0, 1, 2, 3, 4] rfl)
        · replace h := ite_t h c_42
          refine lv_ldc (own := RX7) (v := -2000000002) hx hb hown (hts _ wl_238) dX7_stake_85 ?_
          cases h
          exact rt_i C hP hD hS dX7_stake_87
theorem bt_X7_stake_41 {p : Program} {l : Launch} {e : Env} {s : State} {m : MethodId} {args : Array Value} {below : List Frame} {meth : Method} {c : Code} {D : va_G} {cy : Cy} {A : Nat → Prop} {T : Ty} {R : Rm} {r : Int32} {M9 : Mm} {a0 : Nat} {x1 : Int32} {x2 : Int32} {x3 : Int32} (C : Cx RX7 cX7_stake 5 (some .int) p s m args meth c D cy A) :
    ∀ n : Nat, ∀ (x4 : Int32) (M : Mm) (H : Heap) (locs : List Loc), fb_X7_stake_41 T R a0 x1 x2 x3 n x4 M = some (r, M9) → va_P D vwCl (WL cy T M R) H → va_D A (WL cy T M R) → va_S A s.heap H locs → ∀ ls : Array Slot, lv_has ls 5 [(0, .ref a0), (1, .int x1), (2, .int x2), (3, .int x3), (4, .int x4)] → W p l e rm_X7_stake s m args below meth c H locs 0 0 (MQ below (QcI D cy T M9 R A r) args s 0 0 A) (F0 m 41 ls []) := by
  intro n
  induction n with
  | zero =>
    intro _ _ H locs h
    exact absurd (show (none : Option (Int32 × Mm)) = some _ from h) (by simp)
  | succ n ih => exact fun u0 u1 H locs h => bs_X7_stake_41 (a0 := a0) (x1 := x1) (x2 := x2) (x3 := x3) C ih u0 u1 H locs h
set_option maxHeartbeats 4000000 in
set_option maxRecDepth 100000 in
theorem ct_X7_stake {l : Launch} {D : va_G} {cy : Cy} {T : Ty} {R : Rm} {a0 : Nat} {x1 : Int32} {x2 : Int32} {x3 : Int32} {M : Mm} {r : Int32} {M9 : Mm} (h : fn_X7_stake T R a0 x1 x2 x3 M = some (r, M9)) : Ct QcI l yX7_stake cX7_stake 5 (some .int) rm_X7_stake D cy T M R [.ref a0, .int x1, .int x2, .int x3] M9 R r := by
  unfold fn_X7_stake at h
  refine enter (plainFor_of_name (by decide +kernel)) (Nat.le_of_ble_eq_true rfl) (fun p e s m args below meth c A C hP hD hS ls hl => ?_)
  have hl : lv_has ls 5 [(0, .ref a0), (1, .int x1), (2, .int x2), (3, .int x3)] := hl
  obtain ⟨hx, hb, hr, hml, hown, hts, hK, hA, hlk, hSt⟩ := id C
  refine lv_aload_n hx hb dX7_stake_0 rfl (lv_at hl 0 rfl) ?_
  refine lv_iload_n hx hb dX7_stake_1 rfl (lv_at hl 1 rfl) ?_
  obtain ⟨k_43, h⟩ := chk_some h
  obtain ⟨r_44, M_45, hc_46, h⟩ := cal_some h
  refine cl_Vi (As := [.int x1]) (rest := []) C (ct_X7_isBand hc_46) k_43 (by decide) rfl wl_266 wl_267 wl_268 wl_5 wl_269 hd_X7_isBand ⟨Nat.le_of_ble_eq_true rfl, Nat.le_of_ble_eq_true rfl⟩ ⟨rfl, rfl⟩ ⟨Nat.zero_le _, Nat.zero_le _⟩ rfl (Nat.le_of_ble_eq_true rfl) rfl hl.1 hP hD hS dX7_stake_2 (fun H locs hP hD hS => ?_)
  refine lv_if_eq (tgt := 35) hx hb dX7_stake_5 (by decide) (fun c_47 => ?_) (fun c_47 => ?_)
  · replace h := ite_t h c_47
    refine lv_ldc (own := RX7) (v := -2000000001) hx hb hown (hts _ wl_160) dX7_stake_35 ?_
    cases h
    exact rt_i C hP hD hS dX7_stake_37
  · replace h := ite_f h c_47
    refine lv_iload_n hx hb dX7_stake_8 rfl (lv_at hl 2 rfl) ?_
    refine lv_iconst (v := 0) hx hb dX7_stake_9 (by decide) ?_
    refine lv_aload_n hx hb dX7_stake_10 rfl (lv_at hl 0 rfl) ?_
    refine lv_iload_n hx hb dX7_stake_11 rfl (lv_at hl 1 rfl) ?_
    refine lv_iconst (v := 1) hx hb dX7_stake_12 (by decide) ?_
    obtain ⟨r_48, M_49, hc_50, h⟩ := cal_some h
    refine cl_Vi (As := [.int x1, .int (1 : Int32)]) (rest := [.int (0 : Int32), .int x2]) C (ct_X7_of hc_50) k_43 (by decide) rfl wl_240 wl_241 wl_242 wl_5 wl_243 hd_X7_of ⟨Nat.le_of_ble_eq_true rfl, Nat.le_of_ble_eq_true rfl⟩ ⟨rfl, rfl⟩ ⟨Nat.zero_le _, Nat.zero_le _⟩ rfl (Nat.le_of_ble_eq_true rfl) rfl hl.1 hP hD hS dX7_stake_13 (fun H locs hP hD hS => ?_)
    refine lv_iconst (v := 1) hx hb dX7_stake_16 (by decide) ?_
    refine lv_isub hx hb dX7_stake_17 ?_
    obtain ⟨r_51, M_52, hc_53, h⟩ := cal_some h
    refine cl_Si (As := [.int x2, .int (0 : Int32), .int (r_48 - (1 : Int32))]) (rest := []) C (ct_X7_in hc_53) wl_165 wl_166 wl_5 wl_167 hd_X7_in ⟨Nat.le_of_ble_eq_true rfl, Nat.le_of_ble_eq_true rfl⟩ ⟨rfl, rfl⟩ ⟨Nat.zero_le _, Nat.zero_le _⟩ rfl (Nat.le_of_ble_eq_true rfl) rfl hl.1 hP hD hS dX7_stake_18 (fun H locs hP hD hS => ?_)
    refine lv_if_eq (tgt := 35) hx hb dX7_stake_21 (by decide) (fun c_54 => ?_) (fun c_54 => ?_)
    · replace h := ite_t h c_54
      refine lv_ldc (own := RX7) (v := -2000000001) hx hb hown (hts _ wl_160) dX7_stake_35 ?_
      cases h
      exact rt_i C hP hD hS dX7_stake_37
    · replace h := ite_f h c_54
      refine lv_iload_n hx hb dX7_stake_24 rfl (lv_at hl 3 rfl) ?_
      refine lv_iconst (v := 1) hx hb dX7_stake_25 (by decide) ?_
      refine lv_sipush (v := 10000) hx hb dX7_stake_26 (by decide) ?_
      obtain ⟨r_55, M_56, hc_57, h⟩ := cal_some h
      refine cl_Si (As := [.int x3, .int (1 : Int32), .int (10000 : Int32)]) (rest := []) C (ct_X7_in hc_57) wl_165 wl_166 wl_5 wl_167 hd_X7_in ⟨Nat.le_of_ble_eq_true rfl, Nat.le_of_ble_eq_true rfl⟩ ⟨rfl, rfl⟩ ⟨Nat.zero_le _, Nat.zero_le _⟩ rfl (Nat.le_of_ble_eq_true rfl) rfl hl.1 hP hD hS dX7_stake_29 (fun H locs hP hD hS => ?_)
      refine lv_if_ne (tgt := 38) hx hb dX7_stake_32 (by decide) (fun c_58 => ?_) (fun c_58 => ?_)
      · replace h := ite_f h c_58
        refine lv_iconst (v := 0) hx hb dX7_stake_38 (by decide) ?_
        refine lv_istore (lv' := [(4, .int (0 : Int32)), (0, .ref a0), (1, .int x1), (2, .int x2), (3, .int x3)]) hx hb dX7_stake_39 hl (by decide) rfl (fun ls hl => ?_)
        exact (bt_X7_stake_41 C FU) _ _ _ _ h hP hD hS _ (lv_sub hl [1, 2, 3, 4, 0] rfl)
      · replace h := ite_t h c_58
        refine lv_ldc (own := RX7) (v := -2000000001) hx hb hown (hts _ wl_160) dX7_stake_35 ?_
        cases h
        exact rt_i C hP hD hS dX7_stake_37
abbrev rm_X7_pull : Room := { frames := 3, cells := 0, slots := 0, locals := 66 }
theorem hd_X7_pull : yX7_pull.cls = RX7 ∧ yX7_pull.cls ≠ "java/lang/invoke/MethodHandle" ∧ yX7_pull.cls ≠ "java/lang/invoke/VarHandle" ∧ (parseMethodDescriptor yX7_pull.desc).map (fun d => d.parameters.length) = some 1 := ⟨rfl, by decide +kernel, by decide +kernel, by decide +kernel⟩
set_option maxHeartbeats 4000000 in
set_option maxRecDepth 100000 in
theorem bs_X7_pull_41 {p : Program} {l : Launch} {e : Env} {s : State} {m : MethodId} {args : Array Value} {below : List Frame} {meth : Method} {c : Code} {D : va_G} {cy : Cy} {A : Nat → Prop} {T : Ty} {R : Rm} {r : Int32} {M9 : Mm} {a0 : Nat} {x1 : Int32} {j41 : Int32 → Int32 → Mm → Option (Int32 × Mm)} (C : Cx RX7 cX7_pull 4 (some .int) p s m args meth c D cy A)
    (hj41 : ∀ (x2 : Int32) (x3 : Int32) (M : Mm) (H : Heap) (locs : List Loc), j41 x2 x3 M = some (r, M9) → va_P D vwCl (WL cy T M R) H → va_D A (WL cy T M R) → va_S A s.heap H locs → ∀ ls : Array Slot, lv_has ls 4 [(0, .ref a0), (2, .int x2), (3, .int x3)] → W p l e rm_X7_pull s m args below meth c H locs 0 0 (MQ below (QcI D cy T M9 R A r) args s 0 0 A) (F0 m 41 ls [])) :
    ∀ (x2 : Int32) (x3 : Int32) (M : Mm) (H : Heap) (locs : List Loc), fs_X7_pull_41 T R a0 x1 j41 x2 x3 M = some (r, M9) → va_P D vwCl (WL cy T M R) H → va_D A (WL cy T M R) → va_S A s.heap H locs → ∀ ls : Array Slot, lv_has ls 4 [(0, .ref a0), (2, .int x2), (3, .int x3)] → W p l e rm_X7_pull s m args below meth c H locs 0 0 (MQ below (QcI D cy T M9 R A r) args s 0 0 A) (F0 m 41 ls []) := by
  intro x2 x3 M H locs h hP hD hS ls hl
  unfold fs_X7_pull_41 at h
  obtain ⟨hx, hb, hr, hml, hown, hts, hK, hA, hlk, hSt⟩ := id C
  refine lv_iload_n hx hb dX7_pull_41 rfl (lv_at hl 2 rfl) ?_
  refine lv_bipush (v := 74) hx hb dX7_pull_42 (by decide) ?_
  refine lv_bipush (v := 6) hx hb dX7_pull_44 (by decide) ?_
  refine lv_aload_n hx hb dX7_pull_46 rfl (lv_at hl 0 rfl) ?_
  obtain ⟨k_1, h⟩ := chk_some h
  obtain ⟨b_2, eb_2, h⟩ := rfm_some h
  refine gf_7_0 C hP k_1 eb_2 wl_100 dX7_pull_47 ?_
  refine lv_bipush (v := 9) hx hb dX7_pull_50 (by decide) ?_
  obtain ⟨k_3, h⟩ := chk_some h
  obtain ⟨k_4, h⟩ := chk_some h
  refine ar_9 C hP k_3 k_4 dX7_pull_52 ?_
  refine lv_imul hx hb dX7_pull_53 ?_
  refine lv_iadd hx hb dX7_pull_54 ?_
  refine lv_icmp_ge (tgt := 79) hx hb dX7_pull_55 (by decide) (fun c_5 => ?_) (fun c_5 => ?_)
  · replace h := ite_t h c_5
    refine lv_iload_n hx hb dX7_pull_79 rfl (lv_at hl 1 rfl) ?_
    cases h
    exact rt_i C hP hD hS dX7_pull_80
  · replace h := ite_f h c_5
    refine lv_aload_n hx hb dX7_pull_58 rfl (lv_at hl 0 rfl) ?_
    refine gf_7_0 C hP k_1 eb_2 wl_100 dX7_pull_59 ?_
    refine lv_iload_n hx hb dX7_pull_62 rfl (lv_at hl 2 rfl) ?_
    refine lv_aload_n hx hb dX7_pull_63 rfl (lv_at hl 0 rfl) ?_
    refine gf_7_0 C hP k_1 eb_2 wl_100 dX7_pull_64 ?_
    refine lv_iload_n hx hb dX7_pull_67 rfl (lv_at hl 2 rfl) ?_
    refine lv_bipush (v := 6) hx hb dX7_pull_68 (by decide) ?_
    refine lv_iadd hx hb dX7_pull_70 ?_
    obtain ⟨k_6, h⟩ := chk_some h
    refine ar_9 C hP k_3 k_6 dX7_pull_71 ?_
    obtain ⟨k_7, h⟩ := chk_some h
    refine aw_9 C hP hD hS k_3 k_7 dX7_pull_72 (fun M_8 H locs eM_8 hP hD hS => ?_)
    replace h := bnd_at h eM_8
    obtain ⟨v_9, ev_9⟩ : ∃ y : Int32, y = (x3 + (1 : Int32)) := ⟨_, rfl⟩
    replace h := bnd_at h ev_9
    refine lv_iinc (v := v_9) (lv' := [(3, .int v_9), (0, .ref a0), (2, .int x2)]) hx hb dX7_pull_73 hl (k := 2) rfl (by rw [ev_9]; rfl) (by decide) rfl (fun ls hl => ?_)
    refine lv_goto (tgt := 41) hx hb dX7_pull_76 (by decide) ?_
    exact hj41 _ _ _ _ _ h hP hD hS _ (lv_sub hl [1, 2, 0] rfl)
theorem bt_X7_pull_41 {p : Program} {l : Launch} {e : Env} {s : State} {m : MethodId} {args : Array Value} {below : List Frame} {meth : Method} {c : Code} {D : va_G} {cy : Cy} {A : Nat → Prop} {T : Ty} {R : Rm} {r : Int32} {M9 : Mm} {a0 : Nat} {x1 : Int32} (C : Cx RX7 cX7_pull 4 (some .int) p s m args meth c D cy A) :
    ∀ n : Nat, ∀ (x2 : Int32) (x3 : Int32) (M : Mm) (H : Heap) (locs : List Loc), fb_X7_pull_41 T R a0 x1 n x2 x3 M = some (r, M9) → va_P D vwCl (WL cy T M R) H → va_D A (WL cy T M R) → va_S A s.heap H locs → ∀ ls : Array Slot, lv_has ls 4 [(0, .ref a0), (2, .int x2), (3, .int x3)] → W p l e rm_X7_pull s m args below meth c H locs 0 0 (MQ below (QcI D cy T M9 R A r) args s 0 0 A) (F0 m 41 ls []) := by
  intro n
  induction n with
  | zero =>
    intro _ _ _ H locs h
    exact absurd (show (none : Option (Int32 × Mm)) = some _ from h) (by simp)
  | succ n ih => exact fun u0 u1 u2 H locs h => bs_X7_pull_41 (a0 := a0) (x1 := x1) C ih u0 u1 u2 H locs h
set_option maxHeartbeats 4000000 in
set_option maxRecDepth 100000 in
theorem ct_X7_pull {l : Launch} {D : va_G} {cy : Cy} {T : Ty} {R : Rm} {a0 : Nat} {x1 : Int32} {M : Mm} {r : Int32} {M9 : Mm} (h : fn_X7_pull T R a0 x1 M = some (r, M9)) : Ct QcI l yX7_pull cX7_pull 4 (some .int) rm_X7_pull D cy T M R [.ref a0, .int x1] M9 R r := by
  unfold fn_X7_pull at h
  refine enter (plainFor_of_name (by decide +kernel)) (Nat.le_of_ble_eq_true rfl) (fun p e s m args below meth c A C hP hD hS ls hl => ?_)
  have hl : lv_has ls 4 [(0, .ref a0), (1, .int x1)] := hl
  obtain ⟨hx, hb, hr, hml, hown, hts, hK, hA, hlk, hSt⟩ := id C
  refine lv_aload_n hx hb dX7_pull_0 rfl (lv_at hl 0 rfl) ?_
  refine lv_iload_n hx hb dX7_pull_1 rfl (lv_at hl 1 rfl) ?_
  obtain ⟨k_10, h⟩ := chk_some h
  obtain ⟨r_11, M_12, hc_13, h⟩ := cal_some h
  refine cl_Vi (As := [.int x1]) (rest := []) C (ct_X7_isStake hc_13) k_10 (by decide) rfl wl_509 wl_510 wl_511 wl_5 wl_512 hd_X7_isStake ⟨Nat.le_of_ble_eq_true rfl, Nat.le_of_ble_eq_true rfl⟩ ⟨rfl, rfl⟩ ⟨Nat.zero_le _, Nat.zero_le _⟩ rfl (Nat.le_of_ble_eq_true rfl) rfl hl.1 hP hD hS dX7_pull_2 (fun H locs hP hD hS => ?_)
  refine lv_if_ne (tgt := 11) hx hb dX7_pull_5 (by decide) (fun c_14 => ?_) (fun c_14 => ?_)
  · replace h := ite_f h c_14
    refine lv_aload_n hx hb dX7_pull_11 rfl (lv_at hl 0 rfl) ?_
    obtain ⟨r_15, M_16, hc_17, h⟩ := cal_some h
    refine cl_Vv (As := []) (rest := []) C (ct_X7_keep hc_17) k_10 (by decide) rfl wl_168 wl_169 wl_170 wl_5 wl_171 hd_X7_keep ⟨Nat.le_of_ble_eq_true rfl, Nat.le_of_ble_eq_true rfl⟩ ⟨rfl, rfl⟩ ⟨Nat.zero_le _, Nat.zero_le _⟩ rfl (Nat.le_of_ble_eq_true rfl) rfl hl.1 hP hD hS dX7_pull_12 (fun H locs hP hD hS => ?_)
    refine lv_aload_n hx hb dX7_pull_15 rfl (lv_at hl 0 rfl) ?_
    refine lv_iload_n hx hb dX7_pull_16 rfl (lv_at hl 1 rfl) ?_
    refine lv_iconst (v := 3) hx hb dX7_pull_17 (by decide) ?_
    obtain ⟨r_18, M_19, hc_20, h⟩ := cal_some h
    refine cl_Vi (As := [.int x1, .int (3 : Int32)]) (rest := []) C (ct_X7_ofStake hc_20) k_10 (by decide) rfl wl_454 wl_455 wl_456 wl_5 wl_457 hd_X7_ofStake ⟨Nat.le_of_ble_eq_true rfl, Nat.le_of_ble_eq_true rfl⟩ ⟨rfl, rfl⟩ ⟨Nat.zero_le _, Nat.zero_le _⟩ rfl (Nat.le_of_ble_eq_true rfl) rfl hl.1 hP hD hS dX7_pull_18 (fun H locs hP hD hS => ?_)
    refine lv_istore_n (lv' := [(2, .int r_18), (0, .ref a0), (1, .int x1)]) hx hb dX7_pull_21 rfl hl (by decide) rfl (fun ls hl => ?_)
    refine lv_aload_n hx hb dX7_pull_22 rfl (lv_at hl 1 rfl) ?_
    obtain ⟨b_21, eb_21, h⟩ := rfm_some h
    refine gf_7_0 C hP k_10 eb_21 wl_100 dX7_pull_23 ?_
    refine lv_bipush (v := 9) hx hb dX7_pull_26 (by decide) ?_
    refine lv_dup2_11 hx hb dX7_pull_28 rfl rfl ?_
    obtain ⟨k_22, h⟩ := chk_some h
    obtain ⟨k_23, h⟩ := chk_some h
    refine ar_9 C hP k_22 k_23 dX7_pull_29 ?_
    refine lv_iconst (v := 1) hx hb dX7_pull_30 (by decide) ?_
    refine lv_isub hx hb dX7_pull_31 ?_
    refine aw_9 C hP hD hS k_22 k_23 dX7_pull_32 (fun M_24 H locs eM_24 hP hD hS => ?_)
    replace h := bnd_at h eM_24
    refine lv_bipush (v := 74) hx hb dX7_pull_33 (by decide) ?_
    refine lv_bipush (v := 6) hx hb dX7_pull_35 (by decide) ?_
    refine lv_iload_n hx hb dX7_pull_37 rfl (lv_at hl 2 rfl) ?_
    refine lv_imul hx hb dX7_pull_38 ?_
    refine lv_iadd hx hb dX7_pull_39 ?_
    refine lv_topi (fun v_25 ev_25 => ?_)
    replace h := bnd_at h ev_25
    refine lv_istore_n (lv' := [(3, .int v_25), (2, .int r_18), (0, .ref a0), (1, .int x1)]) hx hb dX7_pull_40 rfl hl (by decide) rfl (fun ls hl => ?_)
    exact (bt_X7_pull_41 C FU) _ _ _ _ _ h hP hD hS _ (lv_sub hl [2, 1, 0] rfl)
  · replace h := ite_t h c_14
    refine lv_ldc (own := RX7) (v := -2000000001) hx hb hown (hts _ wl_160) dX7_pull_8 ?_
    cases h
    exact rt_i C hP hD hS dX7_pull_10
abbrev rm_X7_stakeInfo : Room := { frames := 2, cells := 0, slots := 0, locals := 43 }
theorem hd_X7_stakeInfo : yX7_stakeInfo.cls = RX7 ∧ yX7_stakeInfo.cls ≠ "java/lang/invoke/MethodHandle" ∧ yX7_stakeInfo.cls ≠ "java/lang/invoke/VarHandle" ∧ (parseMethodDescriptor yX7_stakeInfo.desc).map (fun d => d.parameters.length) = some 2 := ⟨rfl, by decide +kernel, by decide +kernel, by decide +kernel⟩
set_option maxHeartbeats 4000000 in
set_option maxRecDepth 100000 in
theorem ct_X7_stakeInfo {l : Launch} {D : va_G} {cy : Cy} {T : Ty} {R : Rm} {a0 : Nat} {x1 : Int32} {x2 : Int32} {M : Mm} {r : Int32} {M9 : Mm} (h : fn_X7_stakeInfo T R a0 x1 x2 M = some (r, M9)) : Ct QcI l yX7_stakeInfo cX7_stakeInfo 3 (some .int) rm_X7_stakeInfo D cy T M R [.ref a0, .int x1, .int x2] M9 R r := by
  unfold fn_X7_stakeInfo at h
  refine enter (plainFor_of_name (by decide +kernel)) (Nat.le_of_ble_eq_true rfl) (fun p e s m args below meth c A C hP hD hS ls hl => ?_)
  have hl : lv_has ls 3 [(0, .ref a0), (1, .int x1), (2, .int x2)] := hl
  obtain ⟨hx, hb, hr, hml, hown, hts, hK, hA, hlk, hSt⟩ := id C
  refine lv_aload_n hx hb dX7_stakeInfo_0 rfl (lv_at hl 0 rfl) ?_
  refine lv_iload_n hx hb dX7_stakeInfo_1 rfl (lv_at hl 1 rfl) ?_
  obtain ⟨k_1, h⟩ := chk_some h
  obtain ⟨r_2, M_3, hc_4, h⟩ := cal_some h
  refine cl_Vi (As := [.int x1]) (rest := []) C (ct_X7_isStake hc_4) k_1 (by decide) rfl wl_509 wl_510 wl_511 wl_5 wl_512 hd_X7_isStake ⟨Nat.le_of_ble_eq_true rfl, Nat.le_of_ble_eq_true rfl⟩ ⟨rfl, rfl⟩ ⟨Nat.zero_le _, Nat.zero_le _⟩ rfl (Nat.le_of_ble_eq_true rfl) rfl hl.1 hP hD hS dX7_stakeInfo_2 (fun H locs hP hD hS => ?_)
  refine lv_if_eq (tgt := 26) hx hb dX7_stakeInfo_5 (by decide) (fun c_5 => ?_) (fun c_5 => ?_)
  · replace h := ite_t h c_5
    refine lv_ldc (own := RX7) (v := -2000000001) hx hb hown (hts _ wl_160) dX7_stakeInfo_26 ?_
    cases h
    exact rt_i C hP hD hS dX7_stakeInfo_28
  · replace h := ite_f h c_5
    refine lv_iload_n hx hb dX7_stakeInfo_8 rfl (lv_at hl 2 rfl) ?_
    refine lv_iconst (v := 0) hx hb dX7_stakeInfo_9 (by decide) ?_
    refine lv_iconst (v := 5) hx hb dX7_stakeInfo_10 (by decide) ?_
    obtain ⟨r_6, M_7, hc_8, h⟩ := cal_some h
    refine cl_Si (As := [.int x2, .int (0 : Int32), .int (5 : Int32)]) (rest := []) C (ct_X7_in hc_8) wl_165 wl_166 wl_5 wl_167 hd_X7_in ⟨Nat.le_of_ble_eq_true rfl, Nat.le_of_ble_eq_true rfl⟩ ⟨rfl, rfl⟩ ⟨Nat.zero_le _, Nat.zero_le _⟩ rfl (Nat.le_of_ble_eq_true rfl) rfl hl.1 hP hD hS dX7_stakeInfo_11 (fun H locs hP hD hS => ?_)
    refine lv_if_eq (tgt := 26) hx hb dX7_stakeInfo_14 (by decide) (fun c_9 => ?_) (fun c_9 => ?_)
    · replace h := ite_t h c_9
      refine lv_ldc (own := RX7) (v := -2000000001) hx hb hown (hts _ wl_160) dX7_stakeInfo_26 ?_
      cases h
      exact rt_i C hP hD hS dX7_stakeInfo_28
    · replace h := ite_f h c_9
      refine lv_aload_n hx hb dX7_stakeInfo_17 rfl (lv_at hl 0 rfl) ?_
      refine lv_iload_n hx hb dX7_stakeInfo_18 rfl (lv_at hl 1 rfl) ?_
      refine lv_iload_n hx hb dX7_stakeInfo_19 rfl (lv_at hl 2 rfl) ?_
      obtain ⟨r_10, M_11, hc_12, h⟩ := cal_some h
      refine cl_Vi (As := [.int x1, .int x2]) (rest := []) C (ct_X7_ofStake hc_12) k_1 (by decide) rfl wl_454 wl_455 wl_456 wl_5 wl_457 hd_X7_ofStake ⟨Nat.le_of_ble_eq_true rfl, Nat.le_of_ble_eq_true rfl⟩ ⟨rfl, rfl⟩ ⟨Nat.zero_le _, Nat.zero_le _⟩ rfl (Nat.le_of_ble_eq_true rfl) rfl hl.1 hP hD hS dX7_stakeInfo_20 (fun H locs hP hD hS => ?_)
      refine lv_goto (tgt := 28) hx hb dX7_stakeInfo_23 (by decide) ?_
      cases h
      exact rt_i C hP hD hS dX7_stakeInfo_28
abbrev rm_X7_stakesIn : Room := { frames := 2, cells := 0, slots := 0, locals := 43 }
theorem hd_X7_stakesIn : yX7_stakesIn.cls = RX7 ∧ yX7_stakesIn.cls ≠ "java/lang/invoke/MethodHandle" ∧ yX7_stakesIn.cls ≠ "java/lang/invoke/VarHandle" ∧ (parseMethodDescriptor yX7_stakesIn.desc).map (fun d => d.parameters.length) = some 1 := ⟨rfl, by decide +kernel, by decide +kernel, by decide +kernel⟩
set_option maxHeartbeats 4000000 in
set_option maxRecDepth 100000 in
theorem bs_X7_stakesIn_53 {p : Program} {l : Launch} {e : Env} {s : State} {m : MethodId} {args : Array Value} {below : List Frame} {meth : Method} {c : Code} {D : va_G} {cy : Cy} {A : Nat → Prop} {T : Ty} {R : Rm} {r : Int32} {M9 : Mm} {a0 : Nat} {x1 : Int32} {j15 : Int32 → Int32 → Mm → Option (Int32 × Mm)} (C : Cx RX7 cX7_stakesIn 4 (some .int) p s m args meth c D cy A)
    (hj15 : ∀ (x2 : Int32) (x3 : Int32) (M : Mm) (H : Heap) (locs : List Loc), j15 x2 x3 M = some (r, M9) → va_P D vwCl (WL cy T M R) H → va_D A (WL cy T M R) → va_S A s.heap H locs → ∀ ls : Array Slot, lv_has ls 4 [(0, .ref a0), (1, .int x1), (2, .int x2), (3, .int x3)] → W p l e rm_X7_stakesIn s m args below meth c H locs 0 0 (MQ below (QcI D cy T M9 R A r) args s 0 0 A) (F0 m 15 ls [])) :
    ∀ (x3 : Int32) (s0 : Int32) (s1 : Int32) (M : Mm) (H : Heap) (locs : List Loc), fs_X7_stakesIn_53 T R a0 x1 j15 x3 s0 s1 M = some (r, M9) → va_P D vwCl (WL cy T M R) H → va_D A (WL cy T M R) → va_S A s.heap H locs → ∀ ls : Array Slot, lv_has ls 4 [(0, .ref a0), (1, .int x1), (3, .int x3)] → W p l e rm_X7_stakesIn s m args below meth c H locs 0 0 (MQ below (QcI D cy T M9 R A r) args s 0 0 A) (F0 m 53 ls [.int s1, .int s0]) := by
  intro x3 s0 s1 M H locs h hP hD hS ls hl
  unfold fs_X7_stakesIn_53 at h
  obtain ⟨hx, hb, hr, hml, hown, hts, hK, hA, hlk, hSt⟩ := id C
  refine lv_ior hx hb dX7_stakesIn_53 ?_
  refine lv_topi (fun v_1 ev_1 => ?_)
  replace h := bnd_at h ev_1
  refine lv_istore_n (lv' := [(2, .int v_1), (0, .ref a0), (1, .int x1), (3, .int x3)]) hx hb dX7_stakesIn_54 rfl hl (by decide) rfl (fun ls hl => ?_)
  obtain ⟨v_2, ev_2⟩ : ∃ y : Int32, y = (x3 + (1 : Int32)) := ⟨_, rfl⟩
  replace h := bnd_at h ev_2
  refine lv_iinc (v := v_2) (lv' := [(3, .int v_2), (2, .int v_1), (0, .ref a0), (1, .int x1)]) hx hb dX7_stakesIn_55 hl (k := 3) rfl (by rw [ev_2]; rfl) (by decide) rfl (fun ls hl => ?_)
  refine lv_goto (tgt := 15) hx hb dX7_stakesIn_58 (by decide) ?_
  exact hj15 _ _ _ _ _ h hP hD hS _ (lv_sub hl [2, 3, 1, 0] rfl)
set_option maxHeartbeats 4000000 in
set_option maxRecDepth 100000 in
theorem bs_X7_stakesIn_52 {p : Program} {l : Launch} {e : Env} {s : State} {m : MethodId} {args : Array Value} {below : List Frame} {meth : Method} {c : Code} {D : va_G} {cy : Cy} {A : Nat → Prop} {T : Ty} {R : Rm} {r : Int32} {M9 : Mm} {a0 : Nat} {x1 : Int32} {j15 : Int32 → Int32 → Mm → Option (Int32 × Mm)} (C : Cx RX7 cX7_stakesIn 4 (some .int) p s m args meth c D cy A)
    (hj15 : ∀ (x2 : Int32) (x3 : Int32) (M : Mm) (H : Heap) (locs : List Loc), j15 x2 x3 M = some (r, M9) → va_P D vwCl (WL cy T M R) H → va_D A (WL cy T M R) → va_S A s.heap H locs → ∀ ls : Array Slot, lv_has ls 4 [(0, .ref a0), (1, .int x1), (2, .int x2), (3, .int x3)] → W p l e rm_X7_stakesIn s m args below meth c H locs 0 0 (MQ below (QcI D cy T M9 R A r) args s 0 0 A) (F0 m 15 ls [])) :
    ∀ (x3 : Int32) (s0 : Int32) (M : Mm) (H : Heap) (locs : List Loc), fs_X7_stakesIn_52 T R a0 x1 j15 x3 s0 M = some (r, M9) → va_P D vwCl (WL cy T M R) H → va_D A (WL cy T M R) → va_S A s.heap H locs → ∀ ls : Array Slot, lv_has ls 4 [(0, .ref a0), (1, .int x1), (3, .int x3)] → W p l e rm_X7_stakesIn s m args below meth c H locs 0 0 (MQ below (QcI D cy T M9 R A r) args s 0 0 A) (F0 m 52 ls [.int s0]) := by
  intro x3 s0 M H locs h hP hD hS ls hl
  unfold fs_X7_stakesIn_52 at h
  obtain ⟨hx, hb, hr, hml, hown, hts, hK, hA, hlk, hSt⟩ := id C
  refine lv_iconst (v := 0) hx hb dX7_stakesIn_52 (by decide) ?_
  exact (bs_X7_stakesIn_53 C hj15) _ _ _ _ _ _ h hP hD hS _ (lv_sub hl [0, 1, 2] rfl)
set_option maxHeartbeats 4000000 in
set_option maxRecDepth 100000 in
theorem bs_X7_stakesIn_15 {p : Program} {l : Launch} {e : Env} {s : State} {m : MethodId} {args : Array Value} {below : List Frame} {meth : Method} {c : Code} {D : va_G} {cy : Cy} {A : Nat → Prop} {T : Ty} {R : Rm} {r : Int32} {M9 : Mm} {a0 : Nat} {x1 : Int32} {j15 : Int32 → Int32 → Mm → Option (Int32 × Mm)} (C : Cx RX7 cX7_stakesIn 4 (some .int) p s m args meth c D cy A)
    (hj15 : ∀ (x2 : Int32) (x3 : Int32) (M : Mm) (H : Heap) (locs : List Loc), j15 x2 x3 M = some (r, M9) → va_P D vwCl (WL cy T M R) H → va_D A (WL cy T M R) → va_S A s.heap H locs → ∀ ls : Array Slot, lv_has ls 4 [(0, .ref a0), (1, .int x1), (2, .int x2), (3, .int x3)] → W p l e rm_X7_stakesIn s m args below meth c H locs 0 0 (MQ below (QcI D cy T M9 R A r) args s 0 0 A) (F0 m 15 ls [])) :
    ∀ (x2 : Int32) (x3 : Int32) (M : Mm) (H : Heap) (locs : List Loc), fs_X7_stakesIn_15 T R a0 x1 j15 x2 x3 M = some (r, M9) → va_P D vwCl (WL cy T M R) H → va_D A (WL cy T M R) → va_S A s.heap H locs → ∀ ls : Array Slot, lv_has ls 4 [(0, .ref a0), (1, .int x1), (2, .int x2), (3, .int x3)] → W p l e rm_X7_stakesIn s m args below meth c H locs 0 0 (MQ below (QcI D cy T M9 R A r) args s 0 0 A) (F0 m 15 ls []) := by
  intro x2 x3 M H locs h hP hD hS ls hl
  unfold fs_X7_stakesIn_15 at h
  obtain ⟨hx, hb, hr, hml, hown, hts, hK, hA, hlk, hSt⟩ := id C
  refine lv_iload_n hx hb dX7_stakesIn_15 rfl (lv_at hl 3 rfl) ?_
  refine lv_aload_n hx hb dX7_stakesIn_16 rfl (lv_at hl 0 rfl) ?_
  obtain ⟨k_3, h⟩ := chk_some h
  obtain ⟨b_4, eb_4, h⟩ := rfm_some h
  refine gf_7_0 C hP k_3 eb_4 wl_100 dX7_stakesIn_17 ?_
  refine lv_bipush (v := 9) hx hb dX7_stakesIn_20 (by decide) ?_
  obtain ⟨k_5, h⟩ := chk_some h
  obtain ⟨k_6, h⟩ := chk_some h
  refine ar_9 C hP k_5 k_6 dX7_stakesIn_22 ?_
  refine lv_icmp_ge (tgt := 61) hx hb dX7_stakesIn_23 (by decide) (fun c_7 => ?_) (fun c_7 => ?_)
  · replace h := ite_t h c_7
    refine lv_iload_n hx hb dX7_stakesIn_61 rfl (lv_at hl 2 rfl) ?_
    cases h
    exact rt_i C hP hD hS dX7_stakesIn_62
  · replace h := ite_f h c_7
    refine lv_iload_n hx hb dX7_stakesIn_26 rfl (lv_at hl 2 rfl) ?_
    refine lv_aload_n hx hb dX7_stakesIn_27 rfl (lv_at hl 0 rfl) ?_
    refine lv_iload_n hx hb dX7_stakesIn_28 rfl (lv_at hl 3 rfl) ?_
    refine lv_iconst (v := 4) hx hb dX7_stakesIn_29 (by decide) ?_
    obtain ⟨r_8, M_9, hc_10, h⟩ := cal_some h
    refine cl_Vi (As := [.int x3, .int (4 : Int32)]) (rest := [.int x2]) C (ct_X7_ofStake hc_10) k_3 (by decide) rfl wl_454 wl_455 wl_456 wl_5 wl_457 hd_X7_ofStake ⟨Nat.le_of_ble_eq_true rfl, Nat.le_of_ble_eq_true rfl⟩ ⟨rfl, rfl⟩ ⟨Nat.zero_le _, Nat.zero_le _⟩ rfl (Nat.le_of_ble_eq_true rfl) rfl hl.1 hP hD hS dX7_stakesIn_30 (fun H locs hP hD hS => ?_)
    refine lv_if_ne (tgt := 52) hx hb dX7_stakesIn_33 (by decide) (fun c_11 => ?_) (fun c_11 => ?_)
    · replace h := ite_f h c_11
      exact (bs_X7_stakesIn_52 C hj15) _ _ _ _ _ h hP hD hS _ (lv_sub hl [0, 1, 3] rfl)
    · replace h := ite_t h c_11
      refine lv_aload_n hx hb dX7_stakesIn_36 rfl (lv_at hl 0 rfl) ?_
      refine lv_iload_n hx hb dX7_stakesIn_37 rfl (lv_at hl 3 rfl) ?_
      refine lv_iconst (v := 0) hx hb dX7_stakesIn_38 (by decide) ?_
      obtain ⟨r_12, M_13, hc_14, h⟩ := cal_some h
      refine cl_Vi (As := [.int x3, .int (0 : Int32)]) (rest := [.int x2]) C (ct_X7_ofStake hc_14) k_3 (by decide) rfl wl_454 wl_455 wl_456 wl_5 wl_457 hd_X7_ofStake ⟨Nat.le_of_ble_eq_true rfl, Nat.le_of_ble_eq_true rfl⟩ ⟨rfl, rfl⟩ ⟨Nat.zero_le _, Nat.zero_le _⟩ rfl (Nat.le_of_ble_eq_true rfl) rfl hl.1 hP hD hS dX7_stakesIn_39 (fun H locs hP hD hS => ?_)
      refine lv_iload_n hx hb dX7_stakesIn_42 rfl (lv_at hl 1 rfl) ?_
      refine lv_icmp_ne (tgt := 52) hx hb dX7_stakesIn_43 (by decide) (fun c_15 => ?_) (fun c_15 => ?_)
      · replace h := ite_f h c_15
        exact (bs_X7_stakesIn_52 C hj15) _ _ _ _ _ h hP hD hS _ (lv_sub hl [0, 1, 3] rfl)
      · replace h := ite_t h c_15
        refine lv_iconst (v := 1) hx hb dX7_stakesIn_46 (by decide) ?_
        refine lv_iload_n hx hb dX7_stakesIn_47 rfl (lv_at hl 3 rfl) ?_
        refine lv_ishl hx hb dX7_stakesIn_48 ?_
        refine lv_goto (tgt := 53) hx hb dX7_stakesIn_49 (by decide) ?_
        exact (bs_X7_stakesIn_53 C hj15) _ _ _ _ _ _ h hP hD hS _ (lv_sub hl [0, 1, 3] rfl)
theorem bt_X7_stakesIn_15 {p : Program} {l : Launch} {e : Env} {s : State} {m : MethodId} {args : Array Value} {below : List Frame} {meth : Method} {c : Code} {D : va_G} {cy : Cy} {A : Nat → Prop} {T : Ty} {R : Rm} {r : Int32} {M9 : Mm} {a0 : Nat} {x1 : Int32} (C : Cx RX7 cX7_stakesIn 4 (some .int) p s m args meth c D cy A) :
    ∀ n : Nat, ∀ (x2 : Int32) (x3 : Int32) (M : Mm) (H : Heap) (locs : List Loc), fb_X7_stakesIn_15 T R a0 x1 n x2 x3 M = some (r, M9) → va_P D vwCl (WL cy T M R) H → va_D A (WL cy T M R) → va_S A s.heap H locs → ∀ ls : Array Slot, lv_has ls 4 [(0, .ref a0), (1, .int x1), (2, .int x2), (3, .int x3)] → W p l e rm_X7_stakesIn s m args below meth c H locs 0 0 (MQ below (QcI D cy T M9 R A r) args s 0 0 A) (F0 m 15 ls []) := by
  intro n
  induction n with
  | zero =>
    intro _ _ _ H locs h
    exact absurd (show (none : Option (Int32 × Mm)) = some _ from h) (by simp)
  | succ n ih => exact fun u0 u1 u2 H locs h => bs_X7_stakesIn_15 (a0 := a0) (x1 := x1) C ih u0 u1 u2 H locs h
set_option maxHeartbeats 4000000 in
set_option maxRecDepth 100000 in
theorem ct_X7_stakesIn {l : Launch} {D : va_G} {cy : Cy} {T : Ty} {R : Rm} {a0 : Nat} {x1 : Int32} {M : Mm} {r : Int32} {M9 : Mm} (h : fn_X7_stakesIn T R a0 x1 M = some (r, M9)) : Ct QcI l yX7_stakesIn cX7_stakesIn 4 (some .int) rm_X7_stakesIn D cy T M R [.ref a0, .int x1] M9 R r := by
  unfold fn_X7_stakesIn at h
  refine enter (plainFor_of_name (by decide +kernel)) (Nat.le_of_ble_eq_true rfl) (fun p e s m args below meth c A C hP hD hS ls hl => ?_)
  have hl : lv_has ls 4 [(0, .ref a0), (1, .int x1)] := hl
  obtain ⟨hx, hb, hr, hml, hown, hts, hK, hA, hlk, hSt⟩ := id C
  refine lv_aload_n hx hb dX7_stakesIn_0 rfl (lv_at hl 0 rfl) ?_
  refine lv_iload_n hx hb dX7_stakesIn_1 rfl (lv_at hl 1 rfl) ?_
  obtain ⟨k_16, h⟩ := chk_some h
  obtain ⟨r_17, M_18, hc_19, h⟩ := cal_some h
  refine cl_Vi (As := [.int x1]) (rest := []) C (ct_X7_isBand hc_19) k_16 (by decide) rfl wl_266 wl_267 wl_268 wl_5 wl_269 hd_X7_isBand ⟨Nat.le_of_ble_eq_true rfl, Nat.le_of_ble_eq_true rfl⟩ ⟨rfl, rfl⟩ ⟨Nat.zero_le _, Nat.zero_le _⟩ rfl (Nat.le_of_ble_eq_true rfl) rfl hl.1 hP hD hS dX7_stakesIn_2 (fun H locs hP hD hS => ?_)
  refine lv_if_ne (tgt := 11) hx hb dX7_stakesIn_5 (by decide) (fun c_20 => ?_) (fun c_20 => ?_)
  · replace h := ite_f h c_20
    refine lv_iconst (v := 0) hx hb dX7_stakesIn_11 (by decide) ?_
    refine lv_istore_n (lv' := [(2, .int (0 : Int32)), (0, .ref a0), (1, .int x1)]) hx hb dX7_stakesIn_12 rfl hl (by decide) rfl (fun ls hl => ?_)
    refine lv_iconst (v := 0) hx hb dX7_stakesIn_13 (by decide) ?_
    refine lv_istore_n (lv' := [(3, .int (0 : Int32)), (2, .int (0 : Int32)), (0, .ref a0), (1, .int x1)]) hx hb dX7_stakesIn_14 rfl hl (by decide) rfl (fun ls hl => ?_)
    exact (bt_X7_stakesIn_15 C FU) _ _ _ _ _ h hP hD hS _ (lv_sub hl [2, 3, 1, 0] rfl)
  · replace h := ite_t h c_20
    refine lv_ldc (own := RX7) (v := -2000000001) hx hb hown (hts _ wl_160) dX7_stakesIn_8 ?_
    cases h
    exact rt_i C hP hD hS dX7_stakesIn_10
abbrev rm_X7_weather : Room := { frames := 2, cells := 0, slots := 0, locals := 44 }
theorem hd_X7_weather : yX7_weather.cls = RX7 ∧ yX7_weather.cls ≠ "java/lang/invoke/MethodHandle" ∧ yX7_weather.cls ≠ "java/lang/invoke/VarHandle" ∧ (parseMethodDescriptor yX7_weather.desc).map (fun d => d.parameters.length) = some 1 := ⟨rfl, by decide +kernel, by decide +kernel, by decide +kernel⟩
set_option maxHeartbeats 4000000 in
set_option maxRecDepth 100000 in
theorem bs_X7_weather_131 {p : Program} {l : Launch} {e : Env} {s : State} {m : MethodId} {args : Array Value} {below : List Frame} {meth : Method} {c : Code} {D : va_G} {cy : Cy} {A : Nat → Prop} {T : Ty} {R : Rm} {r : Unit} {M9 : Mm} {a0 : Nat} {x1 : Int32} (C : Cx RX7 cX7_weather 8 none p s m args meth c D cy A) :
    ∀ (x4 : Int32) (M : Mm) (H : Heap) (locs : List Loc), fs_X7_weather_131 T R a0 x1 x4 M = some (r, M9) → va_P D vwCl (WL cy T M R) H → va_D A (WL cy T M R) → va_S A s.heap H locs → ∀ ls : Array Slot, lv_has ls 8 [(0, .ref a0), (1, .int x1), (4, .int x4)] → W p l e rm_X7_weather s m args below meth c H locs 0 0 (MQ below (QcV D cy T M9 R A r) args s 0 0 A) (F0 m 131 ls []) := by
  intro x4 M H locs h hP hD hS ls hl
  unfold fs_X7_weather_131 at h
  obtain ⟨hx, hb, hr, hml, hown, hts, hK, hA, hlk, hSt⟩ := id C
  refine lv_aload_n hx hb dX7_weather_131 rfl (lv_at hl 0 rfl) ?_
  refine lv_iload_n hx hb dX7_weather_132 rfl (lv_at hl 1 rfl) ?_
  refine lv_iconst (v := 3) hx hb dX7_weather_133 (by decide) ?_
  refine lv_iload hx hb dX7_weather_134 (lv_at hl 2 rfl) ?_
  obtain ⟨k_1, h⟩ := chk_some h
  obtain ⟨r_2, M_3, hc_4, h⟩ := cal_some h
  refine cl_Vv (As := [.int x1, .int (3 : Int32), .int x4]) (rest := []) C (ct_X7_put hc_4) k_1 (by decide) rfl wl_244 wl_245 wl_246 wl_5 wl_247 hd_X7_put ⟨Nat.le_of_ble_eq_true rfl, Nat.le_of_ble_eq_true rfl⟩ ⟨rfl, rfl⟩ ⟨Nat.zero_le _, Nat.zero_le _⟩ rfl (Nat.le_of_ble_eq_true rfl) rfl hl.1 hP hD hS dX7_weather_136 (fun H locs hP hD hS => ?_)
  refine lv_aload_n hx hb dX7_weather_139 rfl (lv_at hl 0 rfl) ?_
  obtain ⟨b_5, eb_5, h⟩ := rfm_some h
  refine gf_7_2 C hP k_1 eb_5 wl_103 dX7_weather_140 ?_
  refine lv_iconst (v := 2) hx hb dX7_weather_143 (by decide) ?_
  refine lv_dup2_11 hx hb dX7_weather_144 rfl rfl ?_
  obtain ⟨k_6, h⟩ := chk_some h
  obtain ⟨k_7, h⟩ := chk_some h
  refine ar_10 C hP k_6 k_7 dX7_weather_145 ?_
  refine lv_iload hx hb dX7_weather_146 (lv_at hl 2 rfl) ?_
  refine lv_i2l hx hb dX7_weather_148 rfl ?_
  refine lv_ladd hx hb dX7_weather_149 ?_
  refine aw_10 C hP hD hS k_6 k_7 dX7_weather_150 (fun M_8 H locs eM_8 hP hD hS => ?_)
  replace h := bnd_at h eM_8
  cases h
  exact rt_v C hP hD hS dX7_weather_151
set_option maxHeartbeats 4000000 in
set_option maxRecDepth 100000 in
theorem bs_X7_weather_93 {p : Program} {l : Launch} {e : Env} {s : State} {m : MethodId} {args : Array Value} {below : List Frame} {meth : Method} {c : Code} {D : va_G} {cy : Cy} {A : Nat → Prop} {T : Ty} {R : Rm} {r : Unit} {M9 : Mm} {a0 : Nat} {x1 : Int32} {j57 : Int32 → Int32 → Int32 → Mm → Option (Unit × Mm)} (C : Cx RX7 cX7_weather 8 none p s m args meth c D cy A)
    (hj57 : ∀ (x3 : Int32) (x4 : Int32) (x5 : Int32) (M : Mm) (H : Heap) (locs : List Loc), j57 x3 x4 x5 M = some (r, M9) → va_P D vwCl (WL cy T M R) H → va_D A (WL cy T M R) → va_S A s.heap H locs → ∀ ls : Array Slot, lv_has ls 8 [(0, .ref a0), (1, .int x1), (3, .int x3), (4, .int x4), (5, .int x5)] → W p l e rm_X7_weather s m args below meth c H locs 0 0 (MQ below (QcV D cy T M9 R A r) args s 0 0 A) (F0 m 57 ls [])) :
    ∀ (x3 : Int32) (x4 : Int32) (x5 : Int32) (s0 : Int32) (M : Mm) (H : Heap) (locs : List Loc), fs_X7_weather_93 T R a0 x1 j57 x3 x4 x5 s0 M = some (r, M9) → va_P D vwCl (WL cy T M R) H → va_D A (WL cy T M R) → va_S A s.heap H locs → ∀ ls : Array Slot, lv_has ls 8 [(0, .ref a0), (1, .int x1), (3, .int x3), (4, .int x4), (5, .int x5)] → W p l e rm_X7_weather s m args below meth c H locs 0 0 (MQ below (QcV D cy T M9 R A r) args s 0 0 A) (F0 m 93 ls [.int s0]) := by
  intro x3 x4 x5 s0 M H locs h hP hD hS ls hl
  unfold fs_X7_weather_93 at h
  obtain ⟨hx, hb, hr, hml, hown, hts, hK, hA, hlk, hSt⟩ := id C
  refine lv_istore (lv' := [(7, .int s0), (0, .ref a0), (1, .int x1), (3, .int x3), (4, .int x4), (5, .int x5)]) hx hb dX7_weather_93 hl (by decide) rfl (fun ls hl => ?_)
  refine lv_aload_n hx hb dX7_weather_95 rfl (lv_at hl 1 rfl) ?_
  obtain ⟨k_9, h⟩ := chk_some h
  obtain ⟨b_10, eb_10, h⟩ := rfm_some h
  refine gf_7_1 C hP k_9 eb_10 wl_101 dX7_weather_96 ?_
  refine lv_sipush (v := 801) hx hb dX7_weather_99 (by decide) ?_
  refine lv_iload_n hx hb dX7_weather_102 rfl (lv_at hl 2 rfl) ?_
  refine lv_imul hx hb dX7_weather_103 ?_
  refine lv_iload hx hb dX7_weather_104 (lv_at hl 5 rfl) ?_
  refine lv_iadd hx hb dX7_weather_106 ?_
  refine lv_dup2_11 hx hb dX7_weather_107 rfl rfl ?_
  obtain ⟨k_11, h⟩ := chk_some h
  obtain ⟨k_12, h⟩ := chk_some h
  refine ar_9 C hP k_11 k_12 dX7_weather_108 ?_
  refine lv_iload hx hb dX7_weather_109 (lv_at hl 0 rfl) ?_
  refine lv_isub hx hb dX7_weather_111 ?_
  refine aw_9 C hP hD hS k_11 k_12 dX7_weather_112 (fun M_13 H locs eM_13 hP hD hS => ?_)
  replace h := bnd_at h eM_13
  refine lv_iload_n hx hb dX7_weather_113 rfl (lv_at hl 3 rfl) ?_
  refine lv_iload hx hb dX7_weather_114 (lv_at hl 0 rfl) ?_
  refine lv_isub hx hb dX7_weather_116 ?_
  refine lv_topi (fun v_14 ev_14 => ?_)
  replace h := bnd_at h ev_14
  refine lv_istore_n (lv' := [(3, .int v_14), (7, .int s0), (0, .ref a0), (1, .int x1), (4, .int x4), (5, .int x5)]) hx hb dX7_weather_117 rfl hl (by decide) rfl (fun ls hl => ?_)
  refine lv_iload hx hb dX7_weather_118 (lv_at hl 4 rfl) ?_
  refine lv_iload hx hb dX7_weather_120 (lv_at hl 1 rfl) ?_
  refine lv_iadd hx hb dX7_weather_122 ?_
  refine lv_topi (fun v_15 ev_15 => ?_)
  replace h := bnd_at h ev_15
  refine lv_istore (lv' := [(4, .int v_15), (3, .int v_14), (7, .int s0), (0, .ref a0), (1, .int x1), (5, .int x5)]) hx hb dX7_weather_123 hl (by decide) rfl (fun ls hl => ?_)
  obtain ⟨v_16, ev_16⟩ : ∃ y : Int32, y = (x5 + (-1 : Int32)) := ⟨_, rfl⟩
  replace h := bnd_at h ev_16
  refine lv_iinc (v := v_16) (lv' := [(5, .int v_16), (4, .int v_15), (3, .int v_14), (7, .int s0), (0, .ref a0), (1, .int x1)]) hx hb dX7_weather_125 hl (k := 5) rfl (by rw [ev_16]; rfl) (by decide) rfl (fun ls hl => ?_)
  refine lv_goto (tgt := 57) hx hb dX7_weather_128 (by decide) ?_
  exact hj57 _ _ _ _ _ _ h hP hD hS _ (lv_sub hl [4, 5, 2, 1, 0] rfl)
set_option maxHeartbeats 4000000 in
set_option maxRecDepth 100000 in
theorem bs_X7_weather_57 {p : Program} {l : Launch} {e : Env} {s : State} {m : MethodId} {args : Array Value} {below : List Frame} {meth : Method} {c : Code} {D : va_G} {cy : Cy} {A : Nat → Prop} {T : Ty} {R : Rm} {r : Unit} {M9 : Mm} {a0 : Nat} {x1 : Int32} {j57 : Int32 → Int32 → Int32 → Mm → Option (Unit × Mm)} {j131 : Int32 → Mm → Option (Unit × Mm)} (C : Cx RX7 cX7_weather 8 none p s m args meth c D cy A)
    (hj57 : ∀ (x3 : Int32) (x4 : Int32) (x5 : Int32) (M : Mm) (H : Heap) (locs : List Loc), j57 x3 x4 x5 M = some (r, M9) → va_P D vwCl (WL cy T M R) H → va_D A (WL cy T M R) → va_S A s.heap H locs → ∀ ls : Array Slot, lv_has ls 8 [(0, .ref a0), (1, .int x1), (3, .int x3), (4, .int x4), (5, .int x5)] → W p l e rm_X7_weather s m args below meth c H locs 0 0 (MQ below (QcV D cy T M9 R A r) args s 0 0 A) (F0 m 57 ls []))
    (hj131 : ∀ (x4 : Int32) (M : Mm) (H : Heap) (locs : List Loc), j131 x4 M = some (r, M9) → va_P D vwCl (WL cy T M R) H → va_D A (WL cy T M R) → va_S A s.heap H locs → ∀ ls : Array Slot, lv_has ls 8 [(0, .ref a0), (1, .int x1), (4, .int x4)] → W p l e rm_X7_weather s m args below meth c H locs 0 0 (MQ below (QcV D cy T M9 R A r) args s 0 0 A) (F0 m 131 ls [])) :
    ∀ (x3 : Int32) (x4 : Int32) (x5 : Int32) (M : Mm) (H : Heap) (locs : List Loc), fs_X7_weather_57 T R a0 x1 j57 j131 x3 x4 x5 M = some (r, M9) → va_P D vwCl (WL cy T M R) H → va_D A (WL cy T M R) → va_S A s.heap H locs → ∀ ls : Array Slot, lv_has ls 8 [(0, .ref a0), (1, .int x1), (3, .int x3), (4, .int x4), (5, .int x5)] → W p l e rm_X7_weather s m args below meth c H locs 0 0 (MQ below (QcV D cy T M9 R A r) args s 0 0 A) (F0 m 57 ls []) := by
  intro x3 x4 x5 M H locs h hP hD hS ls hl
  unfold fs_X7_weather_57 at h
  obtain ⟨hx, hb, hr, hml, hown, hts, hK, hA, hlk, hSt⟩ := id C
  refine lv_iload hx hb dX7_weather_57 (lv_at hl 4 rfl) ?_
  refine lv_if_lt (tgt := 131) hx hb dX7_weather_59 (by decide) (fun c_17 => ?_) (fun c_17 => ?_)
  · replace h := ite_t h c_17
    exact hj131 _ _ _ _ h hP hD hS _ (lv_sub hl [0, 1, 3] rfl)
  · replace h := ite_f h c_17
    refine lv_iload_n hx hb dX7_weather_62 rfl (lv_at hl 2 rfl) ?_
    refine lv_if_le (tgt := 131) hx hb dX7_weather_63 (by decide) (fun c_18 => ?_) (fun c_18 => ?_)
    · replace h := ite_t h c_18
      exact hj131 _ _ _ _ h hP hD hS _ (lv_sub hl [0, 1, 3] rfl)
    · replace h := ite_f h c_18
      refine lv_aload_n hx hb dX7_weather_66 rfl (lv_at hl 0 rfl) ?_
      obtain ⟨k_19, h⟩ := chk_some h
      obtain ⟨b_20, eb_20, h⟩ := rfm_some h
      refine gf_7_1 C hP k_19 eb_20 wl_101 dX7_weather_67 ?_
      refine lv_sipush (v := 801) hx hb dX7_weather_70 (by decide) ?_
      refine lv_iload_n hx hb dX7_weather_73 rfl (lv_at hl 1 rfl) ?_
      refine lv_imul hx hb dX7_weather_74 ?_
      refine lv_iload hx hb dX7_weather_75 (lv_at hl 4 rfl) ?_
      refine lv_iadd hx hb dX7_weather_77 ?_
      obtain ⟨k_21, h⟩ := chk_some h
      obtain ⟨k_22, h⟩ := chk_some h
      refine ar_9 C hP k_21 k_22 dX7_weather_78 ?_
      refine lv_topi (fun v_23 ev_23 => ?_)
      replace h := bnd_at h ev_23
      refine lv_istore (lv' := [(6, .int v_23), (0, .ref a0), (1, .int x1), (3, .int x3), (4, .int x4), (5, .int x5)]) hx hb dX7_weather_79 hl (by decide) rfl (fun ls hl => ?_)
      refine lv_iload hx hb dX7_weather_81 (lv_at hl 0 rfl) ?_
      refine lv_iload_n hx hb dX7_weather_83 rfl (lv_at hl 3 rfl) ?_
      refine lv_icmp_ge (tgt := 92) hx hb dX7_weather_84 (by decide) (fun c_24 => ?_) (fun c_24 => ?_)
      · replace h := ite_t h c_24
        refine lv_iload_n hx hb dX7_weather_92 rfl (lv_at hl 3 rfl) ?_
        exact (bs_X7_weather_93 C hj57) _ _ _ _ _ _ _ h hP hD hS _ (lv_sub hl [1, 2, 3, 4, 5] rfl)
      · replace h := ite_f h c_24
        refine lv_iload hx hb dX7_weather_87 (lv_at hl 0 rfl) ?_
        refine lv_goto (tgt := 93) hx hb dX7_weather_89 (by decide) ?_
        exact (bs_X7_weather_93 C hj57) _ _ _ _ _ _ _ h hP hD hS _ (lv_sub hl [1, 2, 3, 4, 5] rfl)
theorem bt_X7_weather_57 {p : Program} {l : Launch} {e : Env} {s : State} {m : MethodId} {args : Array Value} {below : List Frame} {meth : Method} {c : Code} {D : va_G} {cy : Cy} {A : Nat → Prop} {T : Ty} {R : Rm} {r : Unit} {M9 : Mm} {a0 : Nat} {x1 : Int32} {j131 : Int32 → Mm → Option (Unit × Mm)} (C : Cx RX7 cX7_weather 8 none p s m args meth c D cy A)
    (hj131 : ∀ (x4 : Int32) (M : Mm) (H : Heap) (locs : List Loc), j131 x4 M = some (r, M9) → va_P D vwCl (WL cy T M R) H → va_D A (WL cy T M R) → va_S A s.heap H locs → ∀ ls : Array Slot, lv_has ls 8 [(0, .ref a0), (1, .int x1), (4, .int x4)] → W p l e rm_X7_weather s m args below meth c H locs 0 0 (MQ below (QcV D cy T M9 R A r) args s 0 0 A) (F0 m 131 ls [])) :
    ∀ n : Nat, ∀ (x3 : Int32) (x4 : Int32) (x5 : Int32) (M : Mm) (H : Heap) (locs : List Loc), fb_X7_weather_57 T R a0 x1 j131 n x3 x4 x5 M = some (r, M9) → va_P D vwCl (WL cy T M R) H → va_D A (WL cy T M R) → va_S A s.heap H locs → ∀ ls : Array Slot, lv_has ls 8 [(0, .ref a0), (1, .int x1), (3, .int x3), (4, .int x4), (5, .int x5)] → W p l e rm_X7_weather s m args below meth c H locs 0 0 (MQ below (QcV D cy T M9 R A r) args s 0 0 A) (F0 m 57 ls []) := by
  intro n
  induction n with
  | zero =>
    intro _ _ _ _ H locs h
    exact absurd (show (none : Option (Unit × Mm)) = some _ from h) (by simp)
  | succ n ih => exact fun u0 u1 u2 u3 H locs h => bs_X7_weather_57 (a0 := a0) (x1 := x1) C ih hj131 u0 u1 u2 u3 H locs h
set_option maxHeartbeats 4000000 in
set_option maxRecDepth 100000 in
theorem ct_X7_weather {l : Launch} {D : va_G} {cy : Cy} {T : Ty} {R : Rm} {a0 : Nat} {x1 : Int32} {M : Mm} {r : Unit} {M9 : Mm} (h : fn_X7_weather T R a0 x1 M = some (r, M9)) : Ct QcV l yX7_weather cX7_weather 8 none rm_X7_weather D cy T M R [.ref a0, .int x1] M9 R r := by
  unfold fn_X7_weather at h
  refine enter (plainFor_of_name (by decide +kernel)) (Nat.le_of_ble_eq_true rfl) (fun p e s m args below meth c A C hP hD hS ls hl => ?_)
  have hl : lv_has ls 8 [(0, .ref a0), (1, .int x1)] := hl
  obtain ⟨hx, hb, hr, hml, hown, hts, hK, hA, hlk, hSt⟩ := id C
  refine lv_aload_n hx hb dX7_weather_0 rfl (lv_at hl 0 rfl) ?_
  refine lv_iload_n hx hb dX7_weather_1 rfl (lv_at hl 1 rfl) ?_
  obtain ⟨k_25, h⟩ := chk_some h
  obtain ⟨r_26, M_27, hc_28, h⟩ := cal_some h
  refine cl_Vi (As := [.int x1]) (rest := []) C (ct_X7_snowOf hc_28) k_25 (by decide) rfl wl_325 wl_326 wl_327 wl_5 wl_328 hd_X7_snowOf ⟨Nat.le_of_ble_eq_true rfl, Nat.le_of_ble_eq_true rfl⟩ ⟨rfl, rfl⟩ ⟨Nat.zero_le _, Nat.zero_le _⟩ rfl (Nat.le_of_ble_eq_true rfl) rfl hl.1 hP hD hS dX7_weather_2 (fun H locs hP hD hS => ?_)
  refine lv_istore_n (lv' := [(2, .int r_26), (0, .ref a0), (1, .int x1)]) hx hb dX7_weather_5 rfl hl (by decide) rfl (fun ls hl => ?_)
  refine lv_aload_n hx hb dX7_weather_6 rfl (lv_at hl 1 rfl) ?_
  obtain ⟨b_29, eb_29, h⟩ := rfm_some h
  refine gf_7_1 C hP k_25 eb_29 wl_101 dX7_weather_7 ?_
  refine lv_sipush (v := 801) hx hb dX7_weather_10 (by decide) ?_
  refine lv_iload_n hx hb dX7_weather_13 rfl (lv_at hl 2 rfl) ?_
  refine lv_imul hx hb dX7_weather_14 ?_
  refine lv_aload_n hx hb dX7_weather_15 rfl (lv_at hl 1 rfl) ?_
  obtain ⟨b_30, eb_30, h⟩ := rfm_some h
  refine gf_7_0 C hP k_25 eb_30 wl_100 dX7_weather_16 ?_
  refine lv_bipush (v := 7) hx hb dX7_weather_19 (by decide) ?_
  obtain ⟨k_31, h⟩ := chk_some h
  obtain ⟨k_32, h⟩ := chk_some h
  refine ar_9 C hP k_31 k_32 dX7_weather_21 ?_
  refine lv_iadd hx hb dX7_weather_22 ?_
  refine lv_dup2_11 hx hb dX7_weather_23 rfl rfl ?_
  obtain ⟨k_33, h⟩ := chk_some h
  obtain ⟨k_34, h⟩ := chk_some h
  refine ar_9 C hP k_33 k_34 dX7_weather_24 ?_
  refine lv_iload_n hx hb dX7_weather_25 rfl (lv_at hl 0 rfl) ?_
  refine lv_iadd hx hb dX7_weather_26 ?_
  refine aw_9 C hP hD hS k_33 k_34 dX7_weather_27 (fun M_35 H locs eM_35 hP hD hS => ?_)
  replace h := bnd_at h eM_35
  refine lv_aload_n hx hb dX7_weather_28 rfl (lv_at hl 1 rfl) ?_
  obtain ⟨b_36, eb_36, h⟩ := rfm_some h
  refine gf_7_2 C hP k_25 eb_36 wl_103 dX7_weather_29 ?_
  refine lv_iconst (v := 1) hx hb dX7_weather_32 (by decide) ?_
  refine lv_dup2_11 hx hb dX7_weather_33 rfl rfl ?_
  obtain ⟨k_37, h⟩ := chk_some h
  obtain ⟨k_38, h⟩ := chk_some h
  refine ar_10 C hP k_37 k_38 dX7_weather_34 ?_
  refine lv_iload_n hx hb dX7_weather_35 rfl (lv_at hl 0 rfl) ?_
  refine lv_i2l hx hb dX7_weather_36 rfl ?_
  refine lv_ladd hx hb dX7_weather_37 ?_
  refine aw_10 C hP hD hS k_37 k_38 dX7_weather_38 (fun M_39 H locs eM_39 hP hD hS => ?_)
  replace h := bnd_at h eM_39
  refine lv_aload_n hx hb dX7_weather_39 rfl (lv_at hl 1 rfl) ?_
  refine lv_iload_n hx hb dX7_weather_40 rfl (lv_at hl 2 rfl) ?_
  obtain ⟨r_40, M_41, hc_42, h⟩ := cal_some h
  refine cl_Vi (As := [.int x1]) (rest := []) C (ct_X7_meltOf hc_42) k_25 (by decide) rfl wl_332 wl_333 wl_334 wl_5 wl_335 hd_X7_meltOf ⟨Nat.le_of_ble_eq_true rfl, Nat.le_of_ble_eq_true rfl⟩ ⟨rfl, rfl⟩ ⟨Nat.zero_le _, Nat.zero_le _⟩ rfl (Nat.le_of_ble_eq_true rfl) rfl hl.1 hP hD hS dX7_weather_41 (fun H locs hP hD hS => ?_)
  refine lv_istore_n (lv' := [(3, .int r_40), (2, .int r_26), (0, .ref a0), (1, .int x1)]) hx hb dX7_weather_44 rfl hl (by decide) rfl (fun ls hl => ?_)
  refine lv_iconst (v := 0) hx hb dX7_weather_45 (by decide) ?_
  refine lv_istore (lv' := [(4, .int (0 : Int32)), (3, .int r_40), (2, .int r_26), (0, .ref a0), (1, .int x1)]) hx hb dX7_weather_46 hl (by decide) rfl (fun ls hl => ?_)
  refine lv_aload_n hx hb dX7_weather_48 rfl (lv_at hl 3 rfl) ?_
  refine gf_7_0 C hP k_25 eb_30 wl_100 dX7_weather_49 ?_
  refine lv_bipush (v := 7) hx hb dX7_weather_52 (by decide) ?_
  refine ar_9 C hP k_31 k_32 dX7_weather_54 ?_
  refine lv_topi (fun v_43 ev_43 => ?_)
  replace h := bnd_at h ev_43
  refine lv_istore (lv' := [(5, .int v_43), (4, .int (0 : Int32)), (3, .int r_40), (2, .int r_26), (0, .ref a0), (1, .int x1)]) hx hb dX7_weather_55 hl (by decide) rfl (fun ls hl => ?_)
  exact (bt_X7_weather_57 C (bs_X7_weather_131 C) FU) _ _ _ _ _ _ h hP hD hS _ (lv_sub hl [4, 5, 2, 1, 0] rfl)
abbrev rm_X7_gives : Room := { frames := 1, cells := 0, slots := 0, locals := 23 }
theorem hd_X7_gives : yX7_gives.cls = RX7 ∧ yX7_gives.cls ≠ "java/lang/invoke/MethodHandle" ∧ yX7_gives.cls ≠ "java/lang/invoke/VarHandle" ∧ (parseMethodDescriptor yX7_gives.desc).map (fun d => d.parameters.length) = some 1 := ⟨rfl, by decide +kernel, by decide +kernel, by decide +kernel⟩
set_option maxHeartbeats 4000000 in
set_option maxRecDepth 100000 in
theorem bs_X7_gives_173 {p : Program} {l : Launch} {e : Env} {s : State} {m : MethodId} {args : Array Value} {below : List Frame} {meth : Method} {c : Code} {D : va_G} {cy : Cy} {A : Nat → Prop} {T : Ty} {R : Rm} {r : Unit} {M9 : Mm} {a0 : Nat} {x1 : Int32} {j81 : Int32 → Int32 → Int32 → Mm → Option (Unit × Mm)} (C : Cx RX7 cX7_gives 7 none p s m args meth c D cy A)
    (hj81 : ∀ (x2 : Int32) (x3 : Int32) (x4 : Int32) (M : Mm) (H : Heap) (locs : List Loc), j81 x2 x3 x4 M = some (r, M9) → va_P D vwCl (WL cy T M R) H → va_D A (WL cy T M R) → va_S A s.heap H locs → ∀ ls : Array Slot, lv_has ls 7 [(0, .ref a0), (1, .int x1), (2, .int x2), (3, .int x3), (4, .int x4)] → W p l e rm_X7_gives s m args below meth c H locs 0 0 (MQ below (QcV D cy T M9 R A r) args s 0 0 A) (F0 m 81 ls [])) :
    ∀ (x2 : Int32) (x3 : Int32) (x4 : Int32) (M : Mm) (H : Heap) (locs : List Loc), fs_X7_gives_173 T R a0 x1 j81 x2 x3 x4 M = some (r, M9) → va_P D vwCl (WL cy T M R) H → va_D A (WL cy T M R) → va_S A s.heap H locs → ∀ ls : Array Slot, lv_has ls 7 [(0, .ref a0), (1, .int x1), (2, .int x2), (3, .int x3), (4, .int x4)] → W p l e rm_X7_gives s m args below meth c H locs 0 0 (MQ below (QcV D cy T M9 R A r) args s 0 0 A) (F0 m 173 ls []) := by
  intro x2 x3 x4 M H locs h hP hD hS ls hl
  unfold fs_X7_gives_173 at h
  obtain ⟨hx, hb, hr, hml, hown, hts, hK, hA, hlk, hSt⟩ := id C
  obtain ⟨v_1, ev_1⟩ : ∃ y : Int32, y = (x4 + (1 : Int32)) := ⟨_, rfl⟩
  replace h := bnd_at h ev_1
  refine lv_iinc (v := v_1) (lv' := [(4, .int v_1), (0, .ref a0), (1, .int x1), (2, .int x2), (3, .int x3)]) hx hb dX7_gives_173 hl (k := 4) rfl (by rw [ev_1]; rfl) (by decide) rfl (fun ls hl => ?_)
  refine lv_goto (tgt := 81) hx hb dX7_gives_176 (by decide) ?_
  exact hj81 _ _ _ _ _ _ h hP hD hS _ (lv_sub hl [1, 2, 3, 4, 0] rfl)
set_option maxHeartbeats 4000000 in
set_option maxRecDepth 100000 in
theorem bs_X7_gives_124 {p : Program} {l : Launch} {e : Env} {s : State} {m : MethodId} {args : Array Value} {below : List Frame} {meth : Method} {c : Code} {D : va_G} {cy : Cy} {A : Nat → Prop} {T : Ty} {R : Rm} {r : Unit} {M9 : Mm} {a0 : Nat} {x1 : Int32} {j81 : Int32 → Int32 → Int32 → Mm → Option (Unit × Mm)} (C : Cx RX7 cX7_gives 7 none p s m args meth c D cy A)
    (hj81 : ∀ (x2 : Int32) (x3 : Int32) (x4 : Int32) (M : Mm) (H : Heap) (locs : List Loc), j81 x2 x3 x4 M = some (r, M9) → va_P D vwCl (WL cy T M R) H → va_D A (WL cy T M R) → va_S A s.heap H locs → ∀ ls : Array Slot, lv_has ls 7 [(0, .ref a0), (1, .int x1), (2, .int x2), (3, .int x3), (4, .int x4)] → W p l e rm_X7_gives s m args below meth c H locs 0 0 (MQ below (QcV D cy T M9 R A r) args s 0 0 A) (F0 m 81 ls [])) :
    ∀ (x2 : Int32) (x3 : Int32) (x4 : Int32) (s0 : Int32) (M : Mm) (H : Heap) (locs : List Loc), fs_X7_gives_124 T R a0 x1 j81 x2 x3 x4 s0 M = some (r, M9) → va_P D vwCl (WL cy T M R) H → va_D A (WL cy T M R) → va_S A s.heap H locs → ∀ ls : Array Slot, lv_has ls 7 [(0, .ref a0), (1, .int x1), (2, .int x2), (3, .int x3), (4, .int x4)] → W p l e rm_X7_gives s m args below meth c H locs 0 0 (MQ below (QcV D cy T M9 R A r) args s 0 0 A) (F0 m 124 ls [.int s0]) := by
  intro x2 x3 x4 s0 M H locs h hP hD hS ls hl
  unfold fs_X7_gives_124 at h
  obtain ⟨hx, hb, hr, hml, hown, hts, hK, hA, hlk, hSt⟩ := id C
  refine lv_istore (lv' := [(6, .int s0), (0, .ref a0), (1, .int x1), (2, .int x2), (3, .int x3), (4, .int x4)]) hx hb dX7_gives_124 hl (by decide) rfl (fun ls hl => ?_)
  refine lv_aload_n hx hb dX7_gives_126 rfl (lv_at hl 1 rfl) ?_
  obtain ⟨k_2, h⟩ := chk_some h
  obtain ⟨b_3, eb_3, h⟩ := rfm_some h
  refine gf_7_1 C hP k_2 eb_3 wl_101 dX7_gives_127 ?_
  refine lv_sipush (v := 801) hx hb dX7_gives_130 (by decide) ?_
  refine lv_iload_n hx hb dX7_gives_133 rfl (lv_at hl 2 rfl) ?_
  refine lv_imul hx hb dX7_gives_134 ?_
  refine lv_iload hx hb dX7_gives_135 (lv_at hl 5 rfl) ?_
  refine lv_iadd hx hb dX7_gives_137 ?_
  refine lv_dup2_11 hx hb dX7_gives_138 rfl rfl ?_
  obtain ⟨k_4, h⟩ := chk_some h
  obtain ⟨k_5, h⟩ := chk_some h
  refine ar_9 C hP k_4 k_5 dX7_gives_139 ?_
  refine lv_iload hx hb dX7_gives_140 (lv_at hl 0 rfl) ?_
  refine lv_isub hx hb dX7_gives_142 ?_
  refine aw_9 C hP hD hS k_4 k_5 dX7_gives_143 (fun M_6 H locs eM_6 hP hD hS => ?_)
  replace h := bnd_at h eM_6
  refine lv_iload_n hx hb dX7_gives_144 rfl (lv_at hl 3 rfl) ?_
  refine lv_iload hx hb dX7_gives_145 (lv_at hl 0 rfl) ?_
  refine lv_isub hx hb dX7_gives_147 ?_
  refine lv_topi (fun v_7 ev_7 => ?_)
  replace h := bnd_at h ev_7
  refine lv_istore_n (lv' := [(2, .int v_7), (6, .int s0), (0, .ref a0), (1, .int x1), (3, .int x3), (4, .int x4)]) hx hb dX7_gives_148 rfl hl (by decide) rfl (fun ls hl => ?_)
  refine lv_iload_n hx hb dX7_gives_149 rfl (lv_at hl 4 rfl) ?_
  refine lv_if_ne (tgt := 173) hx hb dX7_gives_150 (by decide) (fun c_8 => ?_) (fun c_8 => ?_)
  · replace h := ite_f h c_8
    exact (bs_X7_gives_173 C hj81) _ _ _ _ _ _ h hP hD hS _ (lv_sub hl [2, 3, 0, 4, 5] rfl)
  · replace h := ite_t h c_8
    refine lv_aload_n hx hb dX7_gives_153 rfl (lv_at hl 2 rfl) ?_
    refine gf_7_1 C hP k_2 eb_3 wl_101 dX7_gives_154 ?_
    refine lv_sipush (v := 801) hx hb dX7_gives_157 (by decide) ?_
    refine lv_iload_n hx hb dX7_gives_160 rfl (lv_at hl 3 rfl) ?_
    refine lv_iconst (v := 1) hx hb dX7_gives_161 (by decide) ?_
    refine lv_iadd hx hb dX7_gives_162 ?_
    refine lv_imul hx hb dX7_gives_163 ?_
    refine lv_iload hx hb dX7_gives_164 (lv_at hl 5 rfl) ?_
    refine lv_iadd hx hb dX7_gives_166 ?_
    refine lv_dup2_11 hx hb dX7_gives_167 rfl rfl ?_
    obtain ⟨k_9, h⟩ := chk_some h
    refine ar_9 C hP k_4 k_9 dX7_gives_168 ?_
    refine lv_iload hx hb dX7_gives_169 (lv_at hl 1 rfl) ?_
    refine lv_iadd hx hb dX7_gives_171 ?_
    refine aw_9 C hP hD hS k_4 k_9 dX7_gives_172 (fun M_10 H locs eM_10 hP hD hS => ?_)
    replace h := bnd_at h eM_10
    exact (bs_X7_gives_173 C hj81) _ _ _ _ _ _ h hP hD hS _ (lv_sub hl [2, 3, 0, 4, 5] rfl)
set_option maxHeartbeats 4000000 in
set_option maxRecDepth 100000 in
theorem bs_X7_gives_81 {p : Program} {l : Launch} {e : Env} {s : State} {m : MethodId} {args : Array Value} {below : List Frame} {meth : Method} {c : Code} {D : va_G} {cy : Cy} {A : Nat → Prop} {T : Ty} {R : Rm} {r : Unit} {M9 : Mm} {a0 : Nat} {x1 : Int32} {j81 : Int32 → Int32 → Int32 → Mm → Option (Unit × Mm)} (C : Cx RX7 cX7_gives 7 none p s m args meth c D cy A)
    (hj81 : ∀ (x2 : Int32) (x3 : Int32) (x4 : Int32) (M : Mm) (H : Heap) (locs : List Loc), j81 x2 x3 x4 M = some (r, M9) → va_P D vwCl (WL cy T M R) H → va_D A (WL cy T M R) → va_S A s.heap H locs → ∀ ls : Array Slot, lv_has ls 7 [(0, .ref a0), (1, .int x1), (2, .int x2), (3, .int x3), (4, .int x4)] → W p l e rm_X7_gives s m args below meth c H locs 0 0 (MQ below (QcV D cy T M9 R A r) args s 0 0 A) (F0 m 81 ls [])) :
    ∀ (x2 : Int32) (x3 : Int32) (x4 : Int32) (M : Mm) (H : Heap) (locs : List Loc), fs_X7_gives_81 T R a0 x1 j81 x2 x3 x4 M = some (r, M9) → va_P D vwCl (WL cy T M R) H → va_D A (WL cy T M R) → va_S A s.heap H locs → ∀ ls : Array Slot, lv_has ls 7 [(0, .ref a0), (1, .int x1), (2, .int x2), (3, .int x3), (4, .int x4)] → W p l e rm_X7_gives s m args below meth c H locs 0 0 (MQ below (QcV D cy T M9 R A r) args s 0 0 A) (F0 m 81 ls []) := by
  intro x2 x3 x4 M H locs h hP hD hS ls hl
  unfold fs_X7_gives_81 at h
  obtain ⟨hx, hb, hr, hml, hown, hts, hK, hA, hlk, hSt⟩ := id C
  refine lv_iload hx hb dX7_gives_81 (lv_at hl 4 rfl) ?_
  refine lv_aload_n hx hb dX7_gives_83 rfl (lv_at hl 0 rfl) ?_
  obtain ⟨k_11, h⟩ := chk_some h
  obtain ⟨b_12, eb_12, h⟩ := rfm_some h
  refine gf_7_0 C hP k_11 eb_12 wl_100 dX7_gives_84 ?_
  refine lv_bipush (v := 7) hx hb dX7_gives_87 (by decide) ?_
  obtain ⟨k_13, h⟩ := chk_some h
  obtain ⟨k_14, h⟩ := chk_some h
  refine ar_9 C hP k_13 k_14 dX7_gives_89 ?_
  refine lv_icmp_gt (tgt := 179) hx hb dX7_gives_90 (by decide) (fun c_15 => ?_) (fun c_15 => ?_)
  · replace h := ite_t h c_15
    cases h
    exact rt_v C hP hD hS dX7_gives_179
  · replace h := ite_f h c_15
    refine lv_iload_n hx hb dX7_gives_93 rfl (lv_at hl 2 rfl) ?_
    refine lv_if_le (tgt := 179) hx hb dX7_gives_94 (by decide) (fun c_16 => ?_) (fun c_16 => ?_)
    · replace h := ite_t h c_16
      cases h
      exact rt_v C hP hD hS dX7_gives_179
    · replace h := ite_f h c_16
      refine lv_aload_n hx hb dX7_gives_97 rfl (lv_at hl 0 rfl) ?_
      obtain ⟨b_17, eb_17, h⟩ := rfm_some h
      refine gf_7_1 C hP k_11 eb_17 wl_101 dX7_gives_98 ?_
      refine lv_sipush (v := 801) hx hb dX7_gives_101 (by decide) ?_
      refine lv_iload_n hx hb dX7_gives_104 rfl (lv_at hl 1 rfl) ?_
      refine lv_imul hx hb dX7_gives_105 ?_
      refine lv_iload hx hb dX7_gives_106 (lv_at hl 4 rfl) ?_
      refine lv_iadd hx hb dX7_gives_108 ?_
      obtain ⟨k_18, h⟩ := chk_some h
      obtain ⟨k_19, h⟩ := chk_some h
      refine ar_9 C hP k_18 k_19 dX7_gives_109 ?_
      refine lv_topi (fun v_20 ev_20 => ?_)
      replace h := bnd_at h ev_20
      refine lv_istore (lv' := [(5, .int v_20), (0, .ref a0), (1, .int x1), (2, .int x2), (3, .int x3), (4, .int x4)]) hx hb dX7_gives_110 hl (by decide) rfl (fun ls hl => ?_)
      refine lv_iload hx hb dX7_gives_112 (lv_at hl 0 rfl) ?_
      refine lv_iload_n hx hb dX7_gives_114 rfl (lv_at hl 3 rfl) ?_
      refine lv_icmp_ge (tgt := 123) hx hb dX7_gives_115 (by decide) (fun c_21 => ?_) (fun c_21 => ?_)
      · replace h := ite_t h c_21
        refine lv_iload_n hx hb dX7_gives_123 rfl (lv_at hl 3 rfl) ?_
        exact (bs_X7_gives_124 C hj81) _ _ _ _ _ _ _ h hP hD hS _ (lv_sub hl [1, 2, 3, 4, 5] rfl)
      · replace h := ite_f h c_21
        refine lv_iload hx hb dX7_gives_118 (lv_at hl 0 rfl) ?_
        refine lv_goto (tgt := 124) hx hb dX7_gives_120 (by decide) ?_
        exact (bs_X7_gives_124 C hj81) _ _ _ _ _ _ _ h hP hD hS _ (lv_sub hl [1, 2, 3, 4, 5] rfl)
theorem bt_X7_gives_81 {p : Program} {l : Launch} {e : Env} {s : State} {m : MethodId} {args : Array Value} {below : List Frame} {meth : Method} {c : Code} {D : va_G} {cy : Cy} {A : Nat → Prop} {T : Ty} {R : Rm} {r : Unit} {M9 : Mm} {a0 : Nat} {x1 : Int32} (C : Cx RX7 cX7_gives 7 none p s m args meth c D cy A) :
    ∀ n : Nat, ∀ (x2 : Int32) (x3 : Int32) (x4 : Int32) (M : Mm) (H : Heap) (locs : List Loc), fb_X7_gives_81 T R a0 x1 n x2 x3 x4 M = some (r, M9) → va_P D vwCl (WL cy T M R) H → va_D A (WL cy T M R) → va_S A s.heap H locs → ∀ ls : Array Slot, lv_has ls 7 [(0, .ref a0), (1, .int x1), (2, .int x2), (3, .int x3), (4, .int x4)] → W p l e rm_X7_gives s m args below meth c H locs 0 0 (MQ below (QcV D cy T M9 R A r) args s 0 0 A) (F0 m 81 ls []) := by
  intro n
  induction n with
  | zero =>
    intro _ _ _ _ H locs h
    exact absurd (show (none : Option (Unit × Mm)) = some _ from h) (by simp)
  | succ n ih => exact fun u0 u1 u2 u3 H locs h => bs_X7_gives_81 (a0 := a0) (x1 := x1) C ih u0 u1 u2 u3 H locs h
set_option maxHeartbeats 4000000 in
set_option maxRecDepth 100000 in
theorem bs_X7_gives_78 {p : Program} {l : Launch} {e : Env} {s : State} {m : MethodId} {args : Array Value} {below : List Frame} {meth : Method} {c : Code} {D : va_G} {cy : Cy} {A : Nat → Prop} {T : Ty} {R : Rm} {r : Unit} {M9 : Mm} {a0 : Nat} {x1 : Int32} (C : Cx RX7 cX7_gives 7 none p s m args meth c D cy A) :
    ∀ (x2 : Int32) (x3 : Int32) (M : Mm) (H : Heap) (locs : List Loc), fs_X7_gives_78 T R a0 x1 x2 x3 M = some (r, M9) → va_P D vwCl (WL cy T M R) H → va_D A (WL cy T M R) → va_S A s.heap H locs → ∀ ls : Array Slot, lv_has ls 7 [(0, .ref a0), (1, .int x1), (2, .int x2), (3, .int x3)] → W p l e rm_X7_gives s m args below meth c H locs 0 0 (MQ below (QcV D cy T M9 R A r) args s 0 0 A) (F0 m 78 ls []) := by
  intro x2 x3 M H locs h hP hD hS ls hl
  unfold fs_X7_gives_78 at h
  obtain ⟨hx, hb, hr, hml, hown, hts, hK, hA, hlk, hSt⟩ := id C
  refine lv_iconst (v := 0) hx hb dX7_gives_78 (by decide) ?_
  refine lv_istore (lv' := [(4, .int (0 : Int32)), (0, .ref a0), (1, .int x1), (2, .int x2), (3, .int x3)]) hx hb dX7_gives_79 hl (by decide) rfl (fun ls hl => ?_)
  exact (bt_X7_gives_81 C FU) _ _ _ _ _ _ h hP hD hS _ (lv_sub hl [1, 2, 3, 4, 0] rfl)
set_option maxHeartbeats 4000000 in
set_option maxRecDepth 100000 in
theorem bs_X7_gives_63 {p : Program} {l : Launch} {e : Env} {s : State} {m : MethodId} {args : Array Value} {below : List Frame} {meth : Method} {c : Code} {D : va_G} {cy : Cy} {A : Nat → Prop} {T : Ty} {R : Rm} {r : Unit} {M9 : Mm} {a0 : Nat} {x1 : Int32} (C : Cx RX7 cX7_gives 7 none p s m args meth c D cy A) :
    ∀ (x2 : Int32) (x3 : Int32) (s0 : Nat) (s1 : Int32) (s2 : Int32) (s3 : Int32) (M : Mm) (H : Heap) (locs : List Loc), fs_X7_gives_63 T R a0 x1 x2 x3 s0 s1 s2 s3 M = some (r, M9) → va_P D vwCl (WL cy T M R) H → va_D A (WL cy T M R) → va_S A s.heap H locs → ∀ ls : Array Slot, lv_has ls 7 [(0, .ref a0), (1, .int x1), (2, .int x2), (3, .int x3)] → W p l e rm_X7_gives s m args below meth c H locs 0 0 (MQ below (QcV D cy T M9 R A r) args s 0 0 A) (F0 m 63 ls [.int s3, .int s2, .int s1, .ref s0]) := by
  intro x2 x3 s0 s1 s2 s3 M H locs h hP hD hS ls hl
  unfold fs_X7_gives_63 at h
  obtain ⟨hx, hb, hr, hml, hown, hts, hK, hA, hlk, hSt⟩ := id C
  refine lv_iadd hx hb dX7_gives_63 ?_
  obtain ⟨k_22, h⟩ := chk_some h
  obtain ⟨k_23, h⟩ := chk_some h
  refine aw_9 C hP hD hS k_22 k_23 dX7_gives_64 (fun M_24 H locs eM_24 hP hD hS => ?_)
  replace h := bnd_at h eM_24
  refine lv_iload_n hx hb dX7_gives_65 rfl (lv_at hl 3 rfl) ?_
  refine lv_if_ne (tgt := 78) hx hb dX7_gives_66 (by decide) (fun c_25 => ?_) (fun c_25 => ?_)
  · replace h := ite_f h c_25
    exact (bs_X7_gives_78 C) _ _ _ _ _ h hP hD hS _ (lv_sub hl [0, 1, 2, 3] rfl)
  · replace h := ite_t h c_25
    refine lv_aload_n hx hb dX7_gives_69 rfl (lv_at hl 0 rfl) ?_
    refine lv_iload_n hx hb dX7_gives_70 rfl (lv_at hl 1 rfl) ?_
    refine lv_iconst (v := 1) hx hb dX7_gives_71 (by decide) ?_
    refine lv_iadd hx hb dX7_gives_72 ?_
    refine lv_iconst (v := 5) hx hb dX7_gives_73 (by decide) ?_
    refine lv_iload_n hx hb dX7_gives_74 rfl (lv_at hl 2 rfl) ?_
    obtain ⟨k_26, h⟩ := chk_some h
    obtain ⟨r_27, M_28, hc_29, h⟩ := cal_some h
    refine cl_Vv (As := [.int (x1 + (1 : Int32)), .int (5 : Int32), .int x2]) (rest := []) C (ct_X7_put hc_29) k_26 (by decide) rfl wl_244 wl_245 wl_246 wl_5 wl_247 hd_X7_put ⟨Nat.le_of_ble_eq_true rfl, Nat.le_of_ble_eq_true rfl⟩ ⟨rfl, rfl⟩ ⟨Nat.zero_le _, Nat.zero_le _⟩ rfl (Nat.le_of_ble_eq_true rfl) rfl hl.1 hP hD hS dX7_gives_75 (fun H locs hP hD hS => ?_)
    exact (bs_X7_gives_78 C) _ _ _ _ _ h hP hD hS _ (lv_sub hl [0, 1, 2, 3] rfl)
set_option maxHeartbeats 4000000 in
set_option maxRecDepth 100000 in
theorem bs_X7_gives_45 {p : Program} {l : Launch} {e : Env} {s : State} {m : MethodId} {args : Array Value} {below : List Frame} {meth : Method} {c : Code} {D : va_G} {cy : Cy} {A : Nat → Prop} {T : Ty} {R : Rm} {r : Unit} {M9 : Mm} {a0 : Nat} {x1 : Int32} (C : Cx RX7 cX7_gives 7 none p s m args meth c D cy A) :
    ∀ (x2 : Int32) (s0 : Int32) (M : Mm) (H : Heap) (locs : List Loc), fs_X7_gives_45 T R a0 x1 x2 s0 M = some (r, M9) → va_P D vwCl (WL cy T M R) H → va_D A (WL cy T M R) → va_S A s.heap H locs → ∀ ls : Array Slot, lv_has ls 7 [(0, .ref a0), (1, .int x1), (2, .int x2)] → W p l e rm_X7_gives s m args below meth c H locs 0 0 (MQ below (QcV D cy T M9 R A r) args s 0 0 A) (F0 m 45 ls [.int s0]) := by
  intro x2 s0 M H locs h hP hD hS ls hl
  unfold fs_X7_gives_45 at h
  obtain ⟨hx, hb, hr, hml, hown, hts, hK, hA, hlk, hSt⟩ := id C
  refine lv_istore_n (lv' := [(3, .int s0), (0, .ref a0), (1, .int x1), (2, .int x2)]) hx hb dX7_gives_45 rfl hl (by decide) rfl (fun ls hl => ?_)
  refine lv_aload_n hx hb dX7_gives_46 rfl (lv_at hl 1 rfl) ?_
  obtain ⟨k_30, h⟩ := chk_some h
  obtain ⟨b_31, eb_31, h⟩ := rfm_some h
  refine gf_7_0 C hP k_30 eb_31 wl_100 dX7_gives_47 ?_
  refine lv_bipush (v := 10) hx hb dX7_gives_50 (by decide) ?_
  refine lv_dup2_11 hx hb dX7_gives_52 rfl rfl ?_
  obtain ⟨k_32, h⟩ := chk_some h
  obtain ⟨k_33, h⟩ := chk_some h
  refine ar_9 C hP k_32 k_33 dX7_gives_53 ?_
  refine lv_iload_n hx hb dX7_gives_54 rfl (lv_at hl 0 rfl) ?_
  refine lv_if_eq (tgt := 62) hx hb dX7_gives_55 (by decide) (fun c_34 => ?_) (fun c_34 => ?_)
  · replace h := ite_t h c_34
    refine lv_iconst (v := 0) hx hb dX7_gives_62 (by decide) ?_
    exact (bs_X7_gives_63 C) _ _ _ _ _ _ _ _ _ h hP hD hS _ (lv_sub hl [1, 2, 3, 0] rfl)
  · replace h := ite_f h c_34
    refine lv_iload_n hx hb dX7_gives_58 rfl (lv_at hl 3 rfl) ?_
    refine lv_goto (tgt := 63) hx hb dX7_gives_59 (by decide) ?_
    exact (bs_X7_gives_63 C) _ _ _ _ _ _ _ _ _ h hP hD hS _ (lv_sub hl [1, 2, 3, 0] rfl)
set_option maxHeartbeats 4000000 in
set_option maxRecDepth 100000 in
theorem ct_X7_gives {l : Launch} {D : va_G} {cy : Cy} {T : Ty} {R : Rm} {a0 : Nat} {x1 : Int32} {M : Mm} {r : Unit} {M9 : Mm} (h : fn_X7_gives T R a0 x1 M = some (r, M9)) : Ct QcV l yX7_gives cX7_gives 7 none rm_X7_gives D cy T M R [.ref a0, .int x1] M9 R r := by
  unfold fn_X7_gives at h
  refine enter (plainFor_of_name (by decide +kernel)) (Nat.le_of_ble_eq_true rfl) (fun p e s m args below meth c A C hP hD hS ls hl => ?_)
  have hl : lv_has ls 7 [(0, .ref a0), (1, .int x1)] := hl
  obtain ⟨hx, hb, hr, hml, hown, hts, hK, hA, hlk, hSt⟩ := id C
  refine lv_aload_n hx hb dX7_gives_0 rfl (lv_at hl 0 rfl) ?_
  refine lv_iload_n hx hb dX7_gives_1 rfl (lv_at hl 1 rfl) ?_
  obtain ⟨k_35, h⟩ := chk_some h
  obtain ⟨r_36, M_37, hc_38, h⟩ := cal_some h
  refine cl_Vi (As := [.int x1]) (rest := []) C (ct_X7_iceOf hc_38) k_35 (by decide) rfl wl_309 wl_310 wl_311 wl_5 wl_312 hd_X7_iceOf ⟨Nat.le_of_ble_eq_true rfl, Nat.le_of_ble_eq_true rfl⟩ ⟨rfl, rfl⟩ ⟨Nat.zero_le _, Nat.zero_le _⟩ rfl (Nat.le_of_ble_eq_true rfl) rfl hl.1 hP hD hS dX7_gives_2 (fun H locs hP hD hS => ?_)
  refine lv_i2l hx hb dX7_gives_5 rfl ?_
  refine lv_aload_n hx hb dX7_gives_6 rfl (lv_at hl 0 rfl) ?_
  refine lv_iload_n hx hb dX7_gives_7 rfl (lv_at hl 1 rfl) ?_
  refine lv_iconst (v := 2) hx hb dX7_gives_8 (by decide) ?_
  obtain ⟨r_39, M_40, hc_41, h⟩ := cal_some h
  refine cl_Vi (As := [.int x1, .int (2 : Int32)]) (rest := [.long (r_36.toInt64)]) C (ct_X7_of hc_41) k_35 (by decide) rfl wl_240 wl_241 wl_242 wl_5 wl_243 hd_X7_of ⟨Nat.le_of_ble_eq_true rfl, Nat.le_of_ble_eq_true rfl⟩ ⟨rfl, rfl⟩ ⟨Nat.zero_le _, Nat.zero_le _⟩ rfl (Nat.le_of_ble_eq_true rfl) rfl hl.1 hP hD hS dX7_gives_9 (fun H locs hP hD hS => ?_)
  refine lv_i2l hx hb dX7_gives_12 rfl ?_
  refine lv_lmul hx hb dX7_gives_13 ?_
  refine lv_ldc2 (own := RX7) (v := 1000) hx hb hown (hts _ wl_620) dX7_gives_14 ?_
  refine lv_ldiv hx hb dX7_gives_17 (by decide) ?_
  refine lv_l2i hx hb dX7_gives_18 rfl ?_
  refine lv_topi (fun v_42 ev_42 => ?_)
  replace h := bnd_at h ev_42
  refine lv_istore_n (lv' := [(2, .int v_42), (0, .ref a0), (1, .int x1)]) hx hb dX7_gives_19 rfl hl (by decide) rfl (fun ls hl => ?_)
  refine lv_aload_n hx hb dX7_gives_20 rfl (lv_at hl 1 rfl) ?_
  refine lv_iload_n hx hb dX7_gives_21 rfl (lv_at hl 2 rfl) ?_
  refine lv_iconst (v := 4) hx hb dX7_gives_22 (by decide) ?_
  refine lv_iload_n hx hb dX7_gives_23 rfl (lv_at hl 0 rfl) ?_
  obtain ⟨r_43, M_44, hc_45, h⟩ := cal_some h
  refine cl_Vv (As := [.int x1, .int (4 : Int32), .int v_42]) (rest := []) C (ct_X7_put hc_45) k_35 (by decide) rfl wl_244 wl_245 wl_246 wl_5 wl_247 hd_X7_put ⟨Nat.le_of_ble_eq_true rfl, Nat.le_of_ble_eq_true rfl⟩ ⟨rfl, rfl⟩ ⟨Nat.zero_le _, Nat.zero_le _⟩ rfl (Nat.le_of_ble_eq_true rfl) rfl hl.1 hP hD hS dX7_gives_24 (fun H locs hP hD hS => ?_)
  refine lv_iload_n hx hb dX7_gives_27 rfl (lv_at hl 2 rfl) ?_
  refine lv_aload_n hx hb dX7_gives_28 rfl (lv_at hl 1 rfl) ?_
  obtain ⟨b_46, eb_46, h⟩ := rfm_some h
  refine gf_7_0 C hP k_35 eb_46 wl_100 dX7_gives_29 ?_
  refine lv_bipush (v := 8) hx hb dX7_gives_32 (by decide) ?_
  obtain ⟨k_47, h⟩ := chk_some h
  obtain ⟨k_48, h⟩ := chk_some h
  refine ar_9 C hP k_47 k_48 dX7_gives_34 ?_
  refine lv_iconst (v := 1) hx hb dX7_gives_35 (by decide) ?_
  refine lv_isub hx hb dX7_gives_36 ?_
  refine lv_icmp_ne (tgt := 44) hx hb dX7_gives_37 (by decide) (fun c_49 => ?_) (fun c_49 => ?_)
  · replace h := ite_f h c_49
    refine lv_iconst (v := 0) hx hb dX7_gives_44 (by decide) ?_
    exact (bs_X7_gives_45 C) _ _ _ _ _ h hP hD hS _ (lv_sub hl [1, 2, 0] rfl)
  · replace h := ite_t h c_49
    refine lv_iconst (v := 1) hx hb dX7_gives_40 (by decide) ?_
    refine lv_goto (tgt := 45) hx hb dX7_gives_41 (by decide) ?_
    exact (bs_X7_gives_45 C) _ _ _ _ _ h hP hD hS _ (lv_sub hl [1, 2, 0] rfl)
abbrev rm_X7_stepFront : Room := { frames := 0, cells := 0, slots := 0, locals := 0 }
theorem hd_X7_stepFront : yX7_stepFront.cls = RX7 ∧ yX7_stepFront.cls ≠ "java/lang/invoke/MethodHandle" ∧ yX7_stepFront.cls ≠ "java/lang/invoke/VarHandle" ∧ (parseMethodDescriptor yX7_stepFront.desc).map (fun d => d.parameters.length) = some 0 := ⟨rfl, by decide +kernel, by decide +kernel, by decide +kernel⟩
set_option maxHeartbeats 4000000 in
set_option maxRecDepth 100000 in
theorem ct_X7_stepFront {l : Launch} {D : va_G} {cy : Cy} {T : Ty} {R : Rm} {a0 : Nat} {M : Mm} {r : Unit} {M9 : Mm} (h : fn_X7_stepFront T R a0 M = some (r, M9)) : Ct QcV l yX7_stepFront cX7_stepFront 2 none rm_X7_stepFront D cy T M R [.ref a0] M9 R r := by
  unfold fn_X7_stepFront at h
  refine enter (plainFor_of_name (by decide +kernel)) (Nat.le_of_ble_eq_true rfl) (fun p e s m args below meth c A C hP hD hS ls hl => ?_)
  have hl : lv_has ls 2 [(0, .ref a0)] := hl
  obtain ⟨hx, hb, hr, hml, hown, hts, hK, hA, hlk, hSt⟩ := id C
  refine lv_aload_n hx hb dX7_stepFront_0 rfl (lv_at hl 0 rfl) ?_
  obtain ⟨k_1, h⟩ := chk_some h
  obtain ⟨b_2, eb_2, h⟩ := rfm_some h
  refine gf_7_0 C hP k_1 eb_2 wl_100 dX7_stepFront_1 ?_
  refine lv_bipush (v := 11) hx hb dX7_stepFront_4 (by decide) ?_
  obtain ⟨k_3, h⟩ := chk_some h
  obtain ⟨k_4, h⟩ := chk_some h
  refine ar_9 C hP k_3 k_4 dX7_stepFront_6 ?_
  refine lv_if_le (tgt := 24) hx hb dX7_stepFront_7 (by decide) (fun c_5 => ?_) (fun c_5 => ?_)
  · replace h := ite_t h c_5
    refine lv_aload_n hx hb dX7_stepFront_24 rfl (lv_at hl 0 rfl) ?_
    refine gf_7_0 C hP k_1 eb_2 wl_100 dX7_stepFront_25 ?_
    refine lv_bipush (v := 10) hx hb dX7_stepFront_28 (by decide) ?_
    obtain ⟨k_6, h⟩ := chk_some h
    refine ar_9 C hP k_3 k_6 dX7_stepFront_30 ?_
    refine lv_aload_n hx hb dX7_stepFront_31 rfl (lv_at hl 0 rfl) ?_
    refine gf_7_0 C hP k_1 eb_2 wl_100 dX7_stepFront_32 ?_
    refine lv_iconst (v := 5) hx hb dX7_stepFront_35 (by decide) ?_
    obtain ⟨k_7, h⟩ := chk_some h
    refine ar_9 C hP k_3 k_7 dX7_stepFront_36 ?_
    refine lv_icmp_lt (tgt := 130) hx hb dX7_stepFront_37 (by decide) (fun c_8 => ?_) (fun c_8 => ?_)
    · replace h := ite_t h c_8
      cases h
      exact rt_v C hP hD hS dX7_stepFront_130
    · replace h := ite_f h c_8
      refine lv_aload_n hx hb dX7_stepFront_40 rfl (lv_at hl 0 rfl) ?_
      refine gf_7_0 C hP k_1 eb_2 wl_100 dX7_stepFront_41 ?_
      refine lv_bipush (v := 10) hx hb dX7_stepFront_44 (by decide) ?_
      refine ar_9 C hP k_3 k_6 dX7_stepFront_46 ?_
      refine lv_aload_n hx hb dX7_stepFront_47 rfl (lv_at hl 0 rfl) ?_
      refine gf_7_0 C hP k_1 eb_2 wl_100 dX7_stepFront_48 ?_
      refine lv_iconst (v := 5) hx hb dX7_stepFront_51 (by decide) ?_
      refine ar_9 C hP k_3 k_7 dX7_stepFront_52 ?_
      obtain ⟨k_9, h⟩ := chk_some h
      refine lv_idiv hx hb dX7_stepFront_53 (of_decide_eq_true k_9) ?_
      refine lv_topi (fun v_10 ev_10 => ?_)
      replace h := bnd_at h ev_10
      refine lv_istore_n (lv' := [(1, .int v_10), (0, .ref a0)]) hx hb dX7_stepFront_54 rfl hl (by decide) rfl (fun ls hl => ?_)
      refine lv_aload_n hx hb dX7_stepFront_55 rfl (lv_at hl 1 rfl) ?_
      refine gf_7_0 C hP k_1 eb_2 wl_100 dX7_stepFront_56 ?_
      refine lv_bipush (v := 10) hx hb dX7_stepFront_59 (by decide) ?_
      refine lv_dup2_11 hx hb dX7_stepFront_61 rfl rfl ?_
      refine ar_9 C hP k_3 k_6 dX7_stepFront_62 ?_
      refine lv_iload_n hx hb dX7_stepFront_63 rfl (lv_at hl 0 rfl) ?_
      refine lv_aload_n hx hb dX7_stepFront_64 rfl (lv_at hl 1 rfl) ?_
      refine gf_7_0 C hP k_1 eb_2 wl_100 dX7_stepFront_65 ?_
      refine lv_iconst (v := 5) hx hb dX7_stepFront_68 (by decide) ?_
      refine ar_9 C hP k_3 k_7 dX7_stepFront_69 ?_
      refine lv_imul hx hb dX7_stepFront_70 ?_
      refine lv_isub hx hb dX7_stepFront_71 ?_
      refine aw_9 C hP hD hS k_3 k_6 dX7_stepFront_72 (fun M_11 H locs eM_11 hP hD hS => ?_)
      replace h := bnd_at h eM_11
      refine lv_aload_n hx hb dX7_stepFront_73 rfl (lv_at hl 1 rfl) ?_
      refine gf_7_0 C hP k_1 eb_2 wl_100 dX7_stepFront_74 ?_
      refine lv_bipush (v := 12) hx hb dX7_stepFront_77 (by decide) ?_
      refine lv_dup2_11 hx hb dX7_stepFront_79 rfl rfl ?_
      obtain ⟨k_12, h⟩ := chk_some h
      refine ar_9 C hP k_3 k_12 dX7_stepFront_80 ?_
      refine lv_iload_n hx hb dX7_stepFront_81 rfl (lv_at hl 0 rfl) ?_
      refine lv_iadd hx hb dX7_stepFront_82 ?_
      refine aw_9 C hP hD hS k_3 k_12 dX7_stepFront_83 (fun M_13 H locs eM_13 hP hD hS => ?_)
      replace h := bnd_at h eM_13
      refine lv_aload_n hx hb dX7_stepFront_84 rfl (lv_at hl 1 rfl) ?_
      obtain ⟨b_14, eb_14, h⟩ := rfm_some h
      refine gf_7_2 C hP k_1 eb_14 wl_103 dX7_stepFront_85 ?_
      refine lv_iconst (v := 3) hx hb dX7_stepFront_88 (by decide) ?_
      refine lv_dup2_11 hx hb dX7_stepFront_89 rfl rfl ?_
      obtain ⟨k_15, h⟩ := chk_some h
      obtain ⟨k_16, h⟩ := chk_some h
      refine ar_10 C hP k_15 k_16 dX7_stepFront_90 ?_
      refine lv_iload_n hx hb dX7_stepFront_91 rfl (lv_at hl 0 rfl) ?_
      refine lv_aload_n hx hb dX7_stepFront_92 rfl (lv_at hl 1 rfl) ?_
      refine gf_7_0 C hP k_1 eb_2 wl_100 dX7_stepFront_93 ?_
      refine lv_iconst (v := 5) hx hb dX7_stepFront_96 (by decide) ?_
      refine ar_9 C hP k_3 k_7 dX7_stepFront_97 ?_
      refine lv_imul hx hb dX7_stepFront_98 ?_
      refine lv_i2l hx hb dX7_stepFront_99 rfl ?_
      refine lv_ladd hx hb dX7_stepFront_100 ?_
      refine aw_10 C hP hD hS k_15 k_16 dX7_stepFront_101 (fun M_17 H locs eM_17 hP hD hS => ?_)
      replace h := bnd_at h eM_17
      refine lv_aload_n hx hb dX7_stepFront_102 rfl (lv_at hl 1 rfl) ?_
      refine gf_7_0 C hP k_1 eb_2 wl_100 dX7_stepFront_103 ?_
      refine lv_bipush (v := 13) hx hb dX7_stepFront_106 (by decide) ?_
      refine lv_aload_n hx hb dX7_stepFront_108 rfl (lv_at hl 1 rfl) ?_
      refine gf_7_0 C hP k_1 eb_2 wl_100 dX7_stepFront_109 ?_
      refine lv_bipush (v := 7) hx hb dX7_stepFront_112 (by decide) ?_
      obtain ⟨k_18, h⟩ := chk_some h
      refine ar_9 C hP k_3 k_18 dX7_stepFront_114 ?_
      obtain ⟨k_19, h⟩ := chk_some h
      refine aw_9 C hP hD hS k_3 k_19 dX7_stepFront_115 (fun M_20 H locs eM_20 hP hD hS => ?_)
      replace h := bnd_at h eM_20
      refine lv_aload_n hx hb dX7_stepFront_116 rfl (lv_at hl 1 rfl) ?_
      refine gf_7_0 C hP k_1 eb_2 wl_100 dX7_stepFront_117 ?_
      refine lv_bipush (v := 11) hx hb dX7_stepFront_120 (by decide) ?_
      refine lv_aload_n hx hb dX7_stepFront_122 rfl (lv_at hl 1 rfl) ?_
      refine gf_7_0 C hP k_1 eb_2 wl_100 dX7_stepFront_123 ?_
      refine lv_bipush (v := 6) hx hb dX7_stepFront_126 (by decide) ?_
      obtain ⟨k_21, h⟩ := chk_some h
      refine ar_9 C hP k_3 k_21 dX7_stepFront_128 ?_
      refine aw_9 C hP hD hS k_3 k_4 dX7_stepFront_129 (fun M_22 H locs eM_22 hP hD hS => ?_)
      replace h := bnd_at h eM_22
      cases h
      exact rt_v C hP hD hS dX7_stepFront_130
  · replace h := ite_f h c_5
    refine lv_aload_n hx hb dX7_stepFront_10 rfl (lv_at hl 0 rfl) ?_
    refine gf_7_0 C hP k_1 eb_2 wl_100 dX7_stepFront_11 ?_
    refine lv_bipush (v := 11) hx hb dX7_stepFront_14 (by decide) ?_
    refine lv_dup2_11 hx hb dX7_stepFront_16 rfl rfl ?_
    refine ar_9 C hP k_3 k_4 dX7_stepFront_17 ?_
    refine lv_iconst (v := 1) hx hb dX7_stepFront_18 (by decide) ?_
    refine lv_isub hx hb dX7_stepFront_19 ?_
    refine aw_9 C hP hD hS k_3 k_4 dX7_stepFront_20 (fun M_23 H locs eM_23 hP hD hS => ?_)
    replace h := bnd_at h eM_23
    refine lv_goto (tgt := 130) hx hb dX7_stepFront_21 (by decide) ?_
    cases h
    exact rt_v C hP hD hS dX7_stepFront_130
abbrev rm_X7_moves : Room := { frames := 1, cells := 0, slots := 0, locals := 23 }
theorem hd_X7_moves : yX7_moves.cls = RX7 ∧ yX7_moves.cls ≠ "java/lang/invoke/MethodHandle" ∧ yX7_moves.cls ≠ "java/lang/invoke/VarHandle" ∧ (parseMethodDescriptor yX7_moves.desc).map (fun d => d.parameters.length) = some 1 := ⟨rfl, by decide +kernel, by decide +kernel, by decide +kernel⟩
set_option maxHeartbeats 4000000 in
set_option maxRecDepth 100000 in
theorem bs_X7_moves_68 {p : Program} {l : Launch} {e : Env} {s : State} {m : MethodId} {args : Array Value} {below : List Frame} {meth : Method} {c : Code} {D : va_G} {cy : Cy} {A : Nat → Prop} {T : Ty} {R : Rm} {r : Unit} {M9 : Mm} {a0 : Nat} {x1 : Int32} (C : Cx RX7 cX7_moves 4 none p s m args meth c D cy A) :
    ∀ (x2 : Int32) (x3 : Int32) (M : Mm) (H : Heap) (locs : List Loc), fs_X7_moves_68 T R a0 x1 x2 x3 M = some (r, M9) → va_P D vwCl (WL cy T M R) H → va_D A (WL cy T M R) → va_S A s.heap H locs → ∀ ls : Array Slot, lv_has ls 4 [(0, .ref a0), (1, .int x1), (2, .int x2), (3, .int x3)] → W p l e rm_X7_moves s m args below meth c H locs 0 0 (MQ below (QcV D cy T M9 R A r) args s 0 0 A) (F0 m 68 ls []) := by
  intro x2 x3 M H locs h hP hD hS ls hl
  unfold fs_X7_moves_68 at h
  obtain ⟨hx, hb, hr, hml, hown, hts, hK, hA, hlk, hSt⟩ := id C
  refine lv_iload_n hx hb dX7_moves_68 rfl (lv_at hl 2 rfl) ?_
  refine lv_aload_n hx hb dX7_moves_69 rfl (lv_at hl 0 rfl) ?_
  obtain ⟨k_1, h⟩ := chk_some h
  obtain ⟨b_2, eb_2, h⟩ := rfm_some h
  refine gf_7_0 C hP k_1 eb_2 wl_100 dX7_moves_70 ?_
  refine lv_bipush (v := 8) hx hb dX7_moves_73 (by decide) ?_
  obtain ⟨k_3, h⟩ := chk_some h
  obtain ⟨k_4, h⟩ := chk_some h
  refine ar_9 C hP k_3 k_4 dX7_moves_75 ?_
  refine lv_icmp_ne (tgt := 89) hx hb dX7_moves_76 (by decide) (fun c_5 => ?_) (fun c_5 => ?_)
  · replace h := ite_f h c_5
    refine lv_aload_n hx hb dX7_moves_89 rfl (lv_at hl 0 rfl) ?_
    refine lv_iload_n hx hb dX7_moves_90 rfl (lv_at hl 1 rfl) ?_
    refine lv_iconst (v := 0) hx hb dX7_moves_91 (by decide) ?_
    refine lv_iload_n hx hb dX7_moves_92 rfl (lv_at hl 2 rfl) ?_
    obtain ⟨r_6, M_7, hc_8, h⟩ := cal_some h
    refine cl_Vv (As := [.int x1, .int (0 : Int32), .int x2]) (rest := []) C (ct_X7_putStake hc_8) k_1 (by decide) rfl wl_488 wl_489 wl_490 wl_5 wl_491 hd_X7_putStake ⟨Nat.le_of_ble_eq_true rfl, Nat.le_of_ble_eq_true rfl⟩ ⟨rfl, rfl⟩ ⟨Nat.zero_le _, Nat.zero_le _⟩ rfl (Nat.le_of_ble_eq_true rfl) rfl hl.1 hP hD hS dX7_moves_93 (fun H locs hP hD hS => ?_)
    refine lv_aload_n hx hb dX7_moves_96 rfl (lv_at hl 0 rfl) ?_
    refine lv_iload_n hx hb dX7_moves_97 rfl (lv_at hl 1 rfl) ?_
    refine lv_iconst (v := 1) hx hb dX7_moves_98 (by decide) ?_
    refine lv_iload_n hx hb dX7_moves_99 rfl (lv_at hl 3 rfl) ?_
    obtain ⟨r_9, M_10, hc_11, h⟩ := cal_some h
    refine cl_Vv (As := [.int x1, .int (1 : Int32), .int x3]) (rest := []) C (ct_X7_putStake hc_11) k_1 (by decide) rfl wl_488 wl_489 wl_490 wl_5 wl_491 hd_X7_putStake ⟨Nat.le_of_ble_eq_true rfl, Nat.le_of_ble_eq_true rfl⟩ ⟨rfl, rfl⟩ ⟨Nat.zero_le _, Nat.zero_le _⟩ rfl (Nat.le_of_ble_eq_true rfl) rfl hl.1 hP hD hS dX7_moves_100 (fun H locs hP hD hS => ?_)
    cases h
    exact rt_v C hP hD hS dX7_moves_103
  · replace h := ite_t h c_5
    refine lv_aload_n hx hb dX7_moves_79 rfl (lv_at hl 0 rfl) ?_
    refine lv_iload_n hx hb dX7_moves_80 rfl (lv_at hl 1 rfl) ?_
    refine lv_iconst (v := 4) hx hb dX7_moves_81 (by decide) ?_
    refine lv_iconst (v := 2) hx hb dX7_moves_82 (by decide) ?_
    obtain ⟨r_12, M_13, hc_14, h⟩ := cal_some h
    refine cl_Vv (As := [.int x1, .int (4 : Int32), .int (2 : Int32)]) (rest := []) C (ct_X7_putStake hc_14) k_1 (by decide) rfl wl_488 wl_489 wl_490 wl_5 wl_491 hd_X7_putStake ⟨Nat.le_of_ble_eq_true rfl, Nat.le_of_ble_eq_true rfl⟩ ⟨rfl, rfl⟩ ⟨Nat.zero_le _, Nat.zero_le _⟩ rfl (Nat.le_of_ble_eq_true rfl) rfl hl.1 hP hD hS dX7_moves_83 (fun H locs hP hD hS => ?_)
    refine lv_goto (tgt := 103) hx hb dX7_moves_86 (by decide) ?_
    cases h
    exact rt_v C hP hD hS dX7_moves_103
set_option maxHeartbeats 4000000 in
set_option maxRecDepth 100000 in
theorem bs_X7_moves_32 {p : Program} {l : Launch} {e : Env} {s : State} {m : MethodId} {args : Array Value} {below : List Frame} {meth : Method} {c : Code} {D : va_G} {cy : Cy} {A : Nat → Prop} {T : Ty} {R : Rm} {r : Unit} {M9 : Mm} {a0 : Nat} {x1 : Int32} {j32 : Int32 → Int32 → Mm → Option (Unit × Mm)} {j68 : Int32 → Int32 → Mm → Option (Unit × Mm)} (C : Cx RX7 cX7_moves 4 none p s m args meth c D cy A)
    (hj32 : ∀ (x2 : Int32) (x3 : Int32) (M : Mm) (H : Heap) (locs : List Loc), j32 x2 x3 M = some (r, M9) → va_P D vwCl (WL cy T M R) H → va_D A (WL cy T M R) → va_S A s.heap H locs → ∀ ls : Array Slot, lv_has ls 4 [(0, .ref a0), (1, .int x1), (2, .int x2), (3, .int x3)] → W p l e rm_X7_moves s m args below meth c H locs 0 0 (MQ below (QcV D cy T M9 R A r) args s 0 0 A) (F0 m 32 ls []))
    (hj68 : ∀ (x2 : Int32) (x3 : Int32) (M : Mm) (H : Heap) (locs : List Loc), j68 x2 x3 M = some (r, M9) → va_P D vwCl (WL cy T M R) H → va_D A (WL cy T M R) → va_S A s.heap H locs → ∀ ls : Array Slot, lv_has ls 4 [(0, .ref a0), (1, .int x1), (2, .int x2), (3, .int x3)] → W p l e rm_X7_moves s m args below meth c H locs 0 0 (MQ below (QcV D cy T M9 R A r) args s 0 0 A) (F0 m 68 ls [])) :
    ∀ (x2 : Int32) (x3 : Int32) (M : Mm) (H : Heap) (locs : List Loc), fs_X7_moves_32 T R a0 x1 j32 j68 x2 x3 M = some (r, M9) → va_P D vwCl (WL cy T M R) H → va_D A (WL cy T M R) → va_S A s.heap H locs → ∀ ls : Array Slot, lv_has ls 4 [(0, .ref a0), (1, .int x1), (2, .int x2), (3, .int x3)] → W p l e rm_X7_moves s m args below meth c H locs 0 0 (MQ below (QcV D cy T M9 R A r) args s 0 0 A) (F0 m 32 ls []) := by
  intro x2 x3 M H locs h hP hD hS ls hl
  unfold fs_X7_moves_32 at h
  obtain ⟨hx, hb, hr, hml, hown, hts, hK, hA, hlk, hSt⟩ := id C
  refine lv_iload_n hx hb dX7_moves_32 rfl (lv_at hl 2 rfl) ?_
  refine lv_aload_n hx hb dX7_moves_33 rfl (lv_at hl 0 rfl) ?_
  obtain ⟨k_15, h⟩ := chk_some h
  obtain ⟨b_16, eb_16, h⟩ := rfm_some h
  refine gf_7_0 C hP k_15 eb_16 wl_100 dX7_moves_34 ?_
  refine lv_bipush (v := 8) hx hb dX7_moves_37 (by decide) ?_
  obtain ⟨k_17, h⟩ := chk_some h
  obtain ⟨k_18, h⟩ := chk_some h
  refine ar_9 C hP k_17 k_18 dX7_moves_39 ?_
  refine lv_icmp_ge (tgt := 68) hx hb dX7_moves_40 (by decide) (fun c_19 => ?_) (fun c_19 => ?_)
  · replace h := ite_t h c_19
    exact hj68 _ _ _ _ _ h hP hD hS _ (lv_sub hl [0, 1, 2, 3] rfl)
  · replace h := ite_f h c_19
    refine lv_iload_n hx hb dX7_moves_43 rfl (lv_at hl 3 rfl) ?_
    refine lv_aload_n hx hb dX7_moves_44 rfl (lv_at hl 0 rfl) ?_
    refine lv_iload_n hx hb dX7_moves_45 rfl (lv_at hl 2 rfl) ?_
    refine lv_iconst (v := 1) hx hb dX7_moves_46 (by decide) ?_
    obtain ⟨r_20, M_21, hc_22, h⟩ := cal_some h
    refine cl_Vi (As := [.int x2, .int (1 : Int32)]) (rest := [.int x3]) C (ct_X7_of hc_22) k_15 (by decide) rfl wl_240 wl_241 wl_242 wl_5 wl_243 hd_X7_of ⟨Nat.le_of_ble_eq_true rfl, Nat.le_of_ble_eq_true rfl⟩ ⟨rfl, rfl⟩ ⟨Nat.zero_le _, Nat.zero_le _⟩ rfl (Nat.le_of_ble_eq_true rfl) rfl hl.1 hP hD hS dX7_moves_47 (fun H locs hP hD hS => ?_)
    refine lv_icmp_lt (tgt := 68) hx hb dX7_moves_50 (by decide) (fun c_23 => ?_) (fun c_23 => ?_)
    · replace h := ite_t h c_23
      exact hj68 _ _ _ _ _ h hP hD hS _ (lv_sub hl [0, 1, 2, 3] rfl)
    · replace h := ite_f h c_23
      refine lv_iload_n hx hb dX7_moves_53 rfl (lv_at hl 3 rfl) ?_
      refine lv_aload_n hx hb dX7_moves_54 rfl (lv_at hl 0 rfl) ?_
      refine lv_iload_n hx hb dX7_moves_55 rfl (lv_at hl 2 rfl) ?_
      refine lv_iconst (v := 1) hx hb dX7_moves_56 (by decide) ?_
      obtain ⟨r_24, M_25, hc_26, h⟩ := cal_some h
      refine cl_Vi (As := [.int x2, .int (1 : Int32)]) (rest := [.int x3]) C (ct_X7_of hc_26) k_15 (by decide) rfl wl_240 wl_241 wl_242 wl_5 wl_243 hd_X7_of ⟨Nat.le_of_ble_eq_true rfl, Nat.le_of_ble_eq_true rfl⟩ ⟨rfl, rfl⟩ ⟨Nat.zero_le _, Nat.zero_le _⟩ rfl (Nat.le_of_ble_eq_true rfl) rfl hl.1 hP hD hS dX7_moves_57 (fun H locs hP hD hS => ?_)
      refine lv_isub hx hb dX7_moves_60 ?_
      refine lv_topi (fun v_27 ev_27 => ?_)
      replace h := bnd_at h ev_27
      refine lv_istore_n (lv' := [(3, .int v_27), (0, .ref a0), (1, .int x1), (2, .int x2)]) hx hb dX7_moves_61 rfl hl (by decide) rfl (fun ls hl => ?_)
      obtain ⟨v_28, ev_28⟩ : ∃ y : Int32, y = (x2 + (1 : Int32)) := ⟨_, rfl⟩
      replace h := bnd_at h ev_28
      refine lv_iinc (v := v_28) (lv' := [(2, .int v_28), (3, .int v_27), (0, .ref a0), (1, .int x1)]) hx hb dX7_moves_62 hl (k := 3) rfl (by rw [ev_28]; rfl) (by decide) rfl (fun ls hl => ?_)
      refine lv_goto (tgt := 32) hx hb dX7_moves_65 (by decide) ?_
      exact hj32 _ _ _ _ _ h hP hD hS _ (lv_sub hl [2, 3, 0, 1] rfl)
theorem bt_X7_moves_32 {p : Program} {l : Launch} {e : Env} {s : State} {m : MethodId} {args : Array Value} {below : List Frame} {meth : Method} {c : Code} {D : va_G} {cy : Cy} {A : Nat → Prop} {T : Ty} {R : Rm} {r : Unit} {M9 : Mm} {a0 : Nat} {x1 : Int32} {j68 : Int32 → Int32 → Mm → Option (Unit × Mm)} (C : Cx RX7 cX7_moves 4 none p s m args meth c D cy A)
    (hj68 : ∀ (x2 : Int32) (x3 : Int32) (M : Mm) (H : Heap) (locs : List Loc), j68 x2 x3 M = some (r, M9) → va_P D vwCl (WL cy T M R) H → va_D A (WL cy T M R) → va_S A s.heap H locs → ∀ ls : Array Slot, lv_has ls 4 [(0, .ref a0), (1, .int x1), (2, .int x2), (3, .int x3)] → W p l e rm_X7_moves s m args below meth c H locs 0 0 (MQ below (QcV D cy T M9 R A r) args s 0 0 A) (F0 m 68 ls [])) :
    ∀ n : Nat, ∀ (x2 : Int32) (x3 : Int32) (M : Mm) (H : Heap) (locs : List Loc), fb_X7_moves_32 T R a0 x1 j68 n x2 x3 M = some (r, M9) → va_P D vwCl (WL cy T M R) H → va_D A (WL cy T M R) → va_S A s.heap H locs → ∀ ls : Array Slot, lv_has ls 4 [(0, .ref a0), (1, .int x1), (2, .int x2), (3, .int x3)] → W p l e rm_X7_moves s m args below meth c H locs 0 0 (MQ below (QcV D cy T M9 R A r) args s 0 0 A) (F0 m 32 ls []) := by
  intro n
  induction n with
  | zero =>
    intro _ _ _ H locs h
    exact absurd (show (none : Option (Unit × Mm)) = some _ from h) (by simp)
  | succ n ih => exact fun u0 u1 u2 H locs h => bs_X7_moves_32 (a0 := a0) (x1 := x1) C ih hj68 u0 u1 u2 H locs h
set_option maxHeartbeats 4000000 in
set_option maxRecDepth 100000 in
theorem ct_X7_moves {l : Launch} {D : va_G} {cy : Cy} {T : Ty} {R : Rm} {a0 : Nat} {x1 : Int32} {M : Mm} {r : Unit} {M9 : Mm} (h : fn_X7_moves T R a0 x1 M = some (r, M9)) : Ct QcV l yX7_moves cX7_moves 4 none rm_X7_moves D cy T M R [.ref a0, .int x1] M9 R r := by
  unfold fn_X7_moves at h
  refine enter (plainFor_of_name (by decide +kernel)) (Nat.le_of_ble_eq_true rfl) (fun p e s m args below meth c A C hP hD hS ls hl => ?_)
  have hl : lv_has ls 4 [(0, .ref a0), (1, .int x1)] := hl
  obtain ⟨hx, hb, hr, hml, hown, hts, hK, hA, hlk, hSt⟩ := id C
  refine lv_aload_n hx hb dX7_moves_0 rfl (lv_at hl 0 rfl) ?_
  refine lv_iload_n hx hb dX7_moves_1 rfl (lv_at hl 1 rfl) ?_
  refine lv_iconst (v := 0) hx hb dX7_moves_2 (by decide) ?_
  obtain ⟨k_29, h⟩ := chk_some h
  obtain ⟨r_30, M_31, hc_32, h⟩ := cal_some h
  refine cl_Vi (As := [.int x1, .int (0 : Int32)]) (rest := []) C (ct_X7_ofStake hc_32) k_29 (by decide) rfl wl_454 wl_455 wl_456 wl_5 wl_457 hd_X7_ofStake ⟨Nat.le_of_ble_eq_true rfl, Nat.le_of_ble_eq_true rfl⟩ ⟨rfl, rfl⟩ ⟨Nat.zero_le _, Nat.zero_le _⟩ rfl (Nat.le_of_ble_eq_true rfl) rfl hl.1 hP hD hS dX7_moves_3 (fun H locs hP hD hS => ?_)
  refine lv_istore_n (lv' := [(2, .int r_30), (0, .ref a0), (1, .int x1)]) hx hb dX7_moves_6 rfl hl (by decide) rfl (fun ls hl => ?_)
  refine lv_aload_n hx hb dX7_moves_7 rfl (lv_at hl 1 rfl) ?_
  refine lv_iload_n hx hb dX7_moves_8 rfl (lv_at hl 2 rfl) ?_
  refine lv_iconst (v := 1) hx hb dX7_moves_9 (by decide) ?_
  obtain ⟨r_33, M_34, hc_35, h⟩ := cal_some h
  refine cl_Vi (As := [.int x1, .int (1 : Int32)]) (rest := []) C (ct_X7_ofStake hc_35) k_29 (by decide) rfl wl_454 wl_455 wl_456 wl_5 wl_457 hd_X7_ofStake ⟨Nat.le_of_ble_eq_true rfl, Nat.le_of_ble_eq_true rfl⟩ ⟨rfl, rfl⟩ ⟨Nat.zero_le _, Nat.zero_le _⟩ rfl (Nat.le_of_ble_eq_true rfl) rfl hl.1 hP hD hS dX7_moves_10 (fun H locs hP hD hS => ?_)
  refine lv_aload_n hx hb dX7_moves_13 rfl (lv_at hl 1 rfl) ?_
  refine lv_iload_n hx hb dX7_moves_14 rfl (lv_at hl 0 rfl) ?_
  refine lv_iconst (v := 1) hx hb dX7_moves_15 (by decide) ?_
  obtain ⟨r_36, M_37, hc_38, h⟩ := cal_some h
  refine cl_Vi (As := [.int r_30, .int (1 : Int32)]) (rest := [.int r_33]) C (ct_X7_of hc_38) k_29 (by decide) rfl wl_240 wl_241 wl_242 wl_5 wl_243 hd_X7_of ⟨Nat.le_of_ble_eq_true rfl, Nat.le_of_ble_eq_true rfl⟩ ⟨rfl, rfl⟩ ⟨Nat.zero_le _, Nat.zero_le _⟩ rfl (Nat.le_of_ble_eq_true rfl) rfl hl.1 hP hD hS dX7_moves_16 (fun H locs hP hD hS => ?_)
  refine lv_aload_n hx hb dX7_moves_19 rfl (lv_at hl 1 rfl) ?_
  refine lv_iload_n hx hb dX7_moves_20 rfl (lv_at hl 0 rfl) ?_
  refine lv_iconst (v := 2) hx hb dX7_moves_21 (by decide) ?_
  obtain ⟨r_39, M_40, hc_41, h⟩ := cal_some h
  refine cl_Vi (As := [.int r_30, .int (2 : Int32)]) (rest := [.int r_36, .int r_33]) C (ct_X7_of hc_41) k_29 (by decide) rfl wl_240 wl_241 wl_242 wl_5 wl_243 hd_X7_of ⟨Nat.le_of_ble_eq_true rfl, Nat.le_of_ble_eq_true rfl⟩ ⟨rfl, rfl⟩ ⟨Nat.zero_le _, Nat.zero_le _⟩ rfl (Nat.le_of_ble_eq_true rfl) rfl hl.1 hP hD hS dX7_moves_22 (fun H locs hP hD hS => ?_)
  refine lv_imul hx hb dX7_moves_25 ?_
  refine lv_sipush (v := 1000) hx hb dX7_moves_26 (by decide) ?_
  refine lv_idiv hx hb dX7_moves_29 (by decide) ?_
  refine lv_iadd hx hb dX7_moves_30 ?_
  refine lv_topi (fun v_42 ev_42 => ?_)
  replace h := bnd_at h ev_42
  refine lv_istore_n (lv' := [(3, .int v_42), (2, .int r_30), (0, .ref a0), (1, .int x1)]) hx hb dX7_moves_31 rfl hl (by decide) rfl (fun ls hl => ?_)
  exact (bt_X7_moves_32 C (bs_X7_moves_68 C) FU) _ _ _ _ _ h hP hD hS _ (lv_sub hl [2, 3, 1, 0] rfl)
abbrev rm_X7_stepStake : Room := { frames := 2, cells := 0, slots := 0, locals := 46 }
theorem hd_X7_stepStake : yX7_stepStake.cls = RX7 ∧ yX7_stepStake.cls ≠ "java/lang/invoke/MethodHandle" ∧ yX7_stepStake.cls ≠ "java/lang/invoke/VarHandle" ∧ (parseMethodDescriptor yX7_stepStake.desc).map (fun d => d.parameters.length) = some 1 := ⟨rfl, by decide +kernel, by decide +kernel, by decide +kernel⟩
set_option maxHeartbeats 4000000 in
set_option maxRecDepth 100000 in
theorem ct_X7_stepStake {l : Launch} {D : va_G} {cy : Cy} {T : Ty} {R : Rm} {a0 : Nat} {x1 : Int32} {M : Mm} {r : Unit} {M9 : Mm} (h : fn_X7_stepStake T R a0 x1 M = some (r, M9)) : Ct QcV l yX7_stepStake cX7_stepStake 3 none rm_X7_stepStake D cy T M R [.ref a0, .int x1] M9 R r := by
  unfold fn_X7_stepStake at h
  refine enter (plainFor_of_name (by decide +kernel)) (Nat.le_of_ble_eq_true rfl) (fun p e s m args below meth c A C hP hD hS ls hl => ?_)
  have hl : lv_has ls 3 [(0, .ref a0), (1, .int x1)] := hl
  obtain ⟨hx, hb, hr, hml, hown, hts, hK, hA, hlk, hSt⟩ := id C
  refine lv_aload_n hx hb dX7_stepStake_0 rfl (lv_at hl 0 rfl) ?_
  refine lv_iload_n hx hb dX7_stepStake_1 rfl (lv_at hl 1 rfl) ?_
  refine lv_iconst (v := 0) hx hb dX7_stepStake_2 (by decide) ?_
  obtain ⟨k_1, h⟩ := chk_some h
  obtain ⟨r_2, M_3, hc_4, h⟩ := cal_some h
  refine cl_Vi (As := [.int x1, .int (0 : Int32)]) (rest := []) C (ct_X7_ofStake hc_4) k_1 (by decide) rfl wl_454 wl_455 wl_456 wl_5 wl_457 hd_X7_ofStake ⟨Nat.le_of_ble_eq_true rfl, Nat.le_of_ble_eq_true rfl⟩ ⟨rfl, rfl⟩ ⟨Nat.zero_le _, Nat.zero_le _⟩ rfl (Nat.le_of_ble_eq_true rfl) rfl hl.1 hP hD hS dX7_stepStake_3 (fun H locs hP hD hS => ?_)
  refine lv_istore_n (lv' := [(2, .int r_2), (0, .ref a0), (1, .int x1)]) hx hb dX7_stepStake_6 rfl hl (by decide) rfl (fun ls hl => ?_)
  refine lv_aload_n hx hb dX7_stepStake_7 rfl (lv_at hl 1 rfl) ?_
  refine lv_iload_n hx hb dX7_stepStake_8 rfl (lv_at hl 2 rfl) ?_
  refine lv_iconst (v := 5) hx hb dX7_stepStake_9 (by decide) ?_
  refine lv_aload_n hx hb dX7_stepStake_10 rfl (lv_at hl 1 rfl) ?_
  refine lv_iload_n hx hb dX7_stepStake_11 rfl (lv_at hl 2 rfl) ?_
  refine lv_iconst (v := 5) hx hb dX7_stepStake_12 (by decide) ?_
  obtain ⟨r_5, M_6, hc_7, h⟩ := cal_some h
  refine cl_Vi (As := [.int x1, .int (5 : Int32)]) (rest := [.int (5 : Int32), .int x1, .ref a0]) C (ct_X7_ofStake hc_7) k_1 (by decide) rfl wl_454 wl_455 wl_456 wl_5 wl_457 hd_X7_ofStake ⟨Nat.le_of_ble_eq_true rfl, Nat.le_of_ble_eq_true rfl⟩ ⟨rfl, rfl⟩ ⟨Nat.zero_le _, Nat.zero_le _⟩ rfl (Nat.le_of_ble_eq_true rfl) rfl hl.1 hP hD hS dX7_stepStake_13 (fun H locs hP hD hS => ?_)
  refine lv_iconst (v := 1) hx hb dX7_stepStake_16 (by decide) ?_
  refine lv_iadd hx hb dX7_stepStake_17 ?_
  obtain ⟨r_8, M_9, hc_10, h⟩ := cal_some h
  refine cl_Vv (As := [.int x1, .int (5 : Int32), .int (r_5 + (1 : Int32))]) (rest := []) C (ct_X7_putStake hc_10) k_1 (by decide) rfl wl_488 wl_489 wl_490 wl_5 wl_491 hd_X7_putStake ⟨Nat.le_of_ble_eq_true rfl, Nat.le_of_ble_eq_true rfl⟩ ⟨rfl, rfl⟩ ⟨Nat.zero_le _, Nat.zero_le _⟩ rfl (Nat.le_of_ble_eq_true rfl) rfl hl.1 hP hD hS dX7_stepStake_18 (fun H locs hP hD hS => ?_)
  refine lv_aload_n hx hb dX7_stepStake_21 rfl (lv_at hl 1 rfl) ?_
  refine lv_iload_n hx hb dX7_stepStake_22 rfl (lv_at hl 2 rfl) ?_
  refine lv_iconst (v := 3) hx hb dX7_stepStake_23 (by decide) ?_
  refine lv_aload_n hx hb dX7_stepStake_24 rfl (lv_at hl 1 rfl) ?_
  refine lv_iload_n hx hb dX7_stepStake_25 rfl (lv_at hl 2 rfl) ?_
  refine lv_iconst (v := 3) hx hb dX7_stepStake_26 (by decide) ?_
  obtain ⟨r_11, M_12, hc_13, h⟩ := cal_some h
  refine cl_Vi (As := [.int x1, .int (3 : Int32)]) (rest := [.int (3 : Int32), .int x1, .ref a0]) C (ct_X7_ofStake hc_13) k_1 (by decide) rfl wl_454 wl_455 wl_456 wl_5 wl_457 hd_X7_ofStake ⟨Nat.le_of_ble_eq_true rfl, Nat.le_of_ble_eq_true rfl⟩ ⟨rfl, rfl⟩ ⟨Nat.zero_le _, Nat.zero_le _⟩ rfl (Nat.le_of_ble_eq_true rfl) rfl hl.1 hP hD hS dX7_stepStake_27 (fun H locs hP hD hS => ?_)
  refine lv_aload_n hx hb dX7_stepStake_30 rfl (lv_at hl 1 rfl) ?_
  refine lv_iload_n hx hb dX7_stepStake_31 rfl (lv_at hl 0 rfl) ?_
  obtain ⟨r_14, M_15, hc_16, h⟩ := cal_some h
  refine cl_Vi (As := [.int r_2]) (rest := [.int r_11, .int (3 : Int32), .int x1, .ref a0]) C (ct_X7_snowOf hc_16) k_1 (by decide) rfl wl_325 wl_326 wl_327 wl_5 wl_328 hd_X7_snowOf ⟨Nat.le_of_ble_eq_true rfl, Nat.le_of_ble_eq_true rfl⟩ ⟨rfl, rfl⟩ ⟨Nat.zero_le _, Nat.zero_le _⟩ rfl (Nat.le_of_ble_eq_true rfl) rfl hl.1 hP hD hS dX7_stepStake_32 (fun H locs hP hD hS => ?_)
  refine lv_iadd hx hb dX7_stepStake_35 ?_
  refine lv_aload_n hx hb dX7_stepStake_36 rfl (lv_at hl 1 rfl) ?_
  refine lv_iload_n hx hb dX7_stepStake_37 rfl (lv_at hl 0 rfl) ?_
  refine lv_iconst (v := 3) hx hb dX7_stepStake_38 (by decide) ?_
  obtain ⟨r_17, M_18, hc_19, h⟩ := cal_some h
  refine cl_Vi (As := [.int r_2, .int (3 : Int32)]) (rest := [.int (r_11 + r_14), .int (3 : Int32), .int x1, .ref a0]) C (ct_X7_of hc_19) k_1 (by decide) rfl wl_240 wl_241 wl_242 wl_5 wl_243 hd_X7_of ⟨Nat.le_of_ble_eq_true rfl, Nat.le_of_ble_eq_true rfl⟩ ⟨rfl, rfl⟩ ⟨Nat.zero_le _, Nat.zero_le _⟩ rfl (Nat.le_of_ble_eq_true rfl) rfl hl.1 hP hD hS dX7_stepStake_39 (fun H locs hP hD hS => ?_)
  refine lv_isub hx hb dX7_stepStake_42 ?_
  obtain ⟨r_20, M_21, hc_22, h⟩ := cal_some h
  refine cl_Vv (As := [.int x1, .int (3 : Int32), .int ((r_11 + r_14) - r_17)]) (rest := []) C (ct_X7_putStake hc_22) k_1 (by decide) rfl wl_488 wl_489 wl_490 wl_5 wl_491 hd_X7_putStake ⟨Nat.le_of_ble_eq_true rfl, Nat.le_of_ble_eq_true rfl⟩ ⟨rfl, rfl⟩ ⟨Nat.zero_le _, Nat.zero_le _⟩ rfl (Nat.le_of_ble_eq_true rfl) rfl hl.1 hP hD hS dX7_stepStake_43 (fun H locs hP hD hS => ?_)
  refine lv_aload_n hx hb dX7_stepStake_46 rfl (lv_at hl 1 rfl) ?_
  refine lv_iload_n hx hb dX7_stepStake_47 rfl (lv_at hl 2 rfl) ?_
  refine lv_iconst (v := 3) hx hb dX7_stepStake_48 (by decide) ?_
  obtain ⟨r_23, M_24, hc_25, h⟩ := cal_some h
  refine cl_Vi (As := [.int x1, .int (3 : Int32)]) (rest := []) C (ct_X7_ofStake hc_25) k_1 (by decide) rfl wl_454 wl_455 wl_456 wl_5 wl_457 hd_X7_ofStake ⟨Nat.le_of_ble_eq_true rfl, Nat.le_of_ble_eq_true rfl⟩ ⟨rfl, rfl⟩ ⟨Nat.zero_le _, Nat.zero_le _⟩ rfl (Nat.le_of_ble_eq_true rfl) rfl hl.1 hP hD hS dX7_stepStake_49 (fun H locs hP hD hS => ?_)
  refine lv_aload_n hx hb dX7_stepStake_52 rfl (lv_at hl 1 rfl) ?_
  refine lv_iload_n hx hb dX7_stepStake_53 rfl (lv_at hl 2 rfl) ?_
  refine lv_iconst (v := 2) hx hb dX7_stepStake_54 (by decide) ?_
  obtain ⟨r_26, M_27, hc_28, h⟩ := cal_some h
  refine cl_Vi (As := [.int x1, .int (2 : Int32)]) (rest := [.int r_23]) C (ct_X7_ofStake hc_28) k_1 (by decide) rfl wl_454 wl_455 wl_456 wl_5 wl_457 hd_X7_ofStake ⟨Nat.le_of_ble_eq_true rfl, Nat.le_of_ble_eq_true rfl⟩ ⟨rfl, rfl⟩ ⟨Nat.zero_le _, Nat.zero_le _⟩ rfl (Nat.le_of_ble_eq_true rfl) rfl hl.1 hP hD hS dX7_stepStake_55 (fun H locs hP hD hS => ?_)
  refine lv_ineg hx hb dX7_stepStake_58 ?_
  refine lv_icmp_ge (tgt := 72) hx hb dX7_stepStake_59 (by decide) (fun c_29 => ?_) (fun c_29 => ?_)
  · replace h := ite_t h c_29
    refine lv_aload_n hx hb dX7_stepStake_72 rfl (lv_at hl 1 rfl) ?_
    refine lv_iload_n hx hb dX7_stepStake_73 rfl (lv_at hl 2 rfl) ?_
    obtain ⟨r_30, M_31, hc_32, h⟩ := cal_some h
    refine cl_Vv (As := [.int x1]) (rest := []) C (ct_X7_moves hc_32) k_1 (by decide) rfl wl_629 wl_630 wl_631 wl_5 wl_632 hd_X7_moves ⟨Nat.le_of_ble_eq_true rfl, Nat.le_of_ble_eq_true rfl⟩ ⟨rfl, rfl⟩ ⟨Nat.zero_le _, Nat.zero_le _⟩ rfl (Nat.le_of_ble_eq_true rfl) rfl hl.1 hP hD hS dX7_stepStake_74 (fun H locs hP hD hS => ?_)
    cases h
    exact rt_v C hP hD hS dX7_stepStake_77
  · replace h := ite_f h c_29
    refine lv_aload_n hx hb dX7_stepStake_62 rfl (lv_at hl 1 rfl) ?_
    refine lv_iload_n hx hb dX7_stepStake_63 rfl (lv_at hl 2 rfl) ?_
    refine lv_iconst (v := 4) hx hb dX7_stepStake_64 (by decide) ?_
    refine lv_iconst (v := 1) hx hb dX7_stepStake_65 (by decide) ?_
    obtain ⟨r_33, M_34, hc_35, h⟩ := cal_some h
    refine cl_Vv (As := [.int x1, .int (4 : Int32), .int (1 : Int32)]) (rest := []) C (ct_X7_putStake hc_35) k_1 (by decide) rfl wl_488 wl_489 wl_490 wl_5 wl_491 hd_X7_putStake ⟨Nat.le_of_ble_eq_true rfl, Nat.le_of_ble_eq_true rfl⟩ ⟨rfl, rfl⟩ ⟨Nat.zero_le _, Nat.zero_le _⟩ rfl (Nat.le_of_ble_eq_true rfl) rfl hl.1 hP hD hS dX7_stepStake_66 (fun H locs hP hD hS => ?_)
    refine lv_goto (tgt := 77) hx hb dX7_stepStake_69 (by decide) ?_
    cases h
    exact rt_v C hP hD hS dX7_stepStake_77
abbrev rm_X7_year : Room := { frames := 3, cells := 0, slots := 0, locals := 71 }
theorem hd_X7_year : yX7_year.cls = RX7 ∧ yX7_year.cls ≠ "java/lang/invoke/MethodHandle" ∧ yX7_year.cls ≠ "java/lang/invoke/VarHandle" ∧ (parseMethodDescriptor yX7_year.desc).map (fun d => d.parameters.length) = some 0 := ⟨rfl, by decide +kernel, by decide +kernel, by decide +kernel⟩
set_option maxHeartbeats 4000000 in
set_option maxRecDepth 100000 in
theorem bs_X7_year_98 {p : Program} {l : Launch} {e : Env} {s : State} {m : MethodId} {args : Array Value} {below : List Frame} {meth : Method} {c : Code} {D : va_G} {cy : Cy} {A : Nat → Prop} {T : Ty} {R : Rm} {r : Unit} {M9 : Mm} {a0 : Nat} {j73 : Int32 → Mm → Option (Unit × Mm)} (C : Cx RX7 cX7_year 2 none p s m args meth c D cy A)
    (hj73 : ∀ (x1 : Int32) (M : Mm) (H : Heap) (locs : List Loc), j73 x1 M = some (r, M9) → va_P D vwCl (WL cy T M R) H → va_D A (WL cy T M R) → va_S A s.heap H locs → ∀ ls : Array Slot, lv_has ls 2 [(0, .ref a0), (1, .int x1)] → W p l e rm_X7_year s m args below meth c H locs 0 0 (MQ below (QcV D cy T M9 R A r) args s 0 0 A) (F0 m 73 ls [])) :
    ∀ (x1 : Int32) (M : Mm) (H : Heap) (locs : List Loc), fs_X7_year_98 T R a0 j73 x1 M = some (r, M9) → va_P D vwCl (WL cy T M R) H → va_D A (WL cy T M R) → va_S A s.heap H locs → ∀ ls : Array Slot, lv_has ls 2 [(0, .ref a0), (1, .int x1)] → W p l e rm_X7_year s m args below meth c H locs 0 0 (MQ below (QcV D cy T M9 R A r) args s 0 0 A) (F0 m 98 ls []) := by
  intro x1 M H locs h hP hD hS ls hl
  unfold fs_X7_year_98 at h
  obtain ⟨hx, hb, hr, hml, hown, hts, hK, hA, hlk, hSt⟩ := id C
  obtain ⟨v_1, ev_1⟩ : ∃ y : Int32, y = (x1 + (1 : Int32)) := ⟨_, rfl⟩
  replace h := bnd_at h ev_1
  refine lv_iinc (v := v_1) (lv' := [(1, .int v_1), (0, .ref a0)]) hx hb dX7_year_98 hl (k := 1) rfl (by rw [ev_1]; rfl) (by decide) rfl (fun ls hl => ?_)
  refine lv_goto (tgt := 73) hx hb dX7_year_101 (by decide) ?_
  exact hj73 _ _ _ _ h hP hD hS _ (lv_sub hl [1, 0] rfl)
set_option maxHeartbeats 4000000 in
set_option maxRecDepth 100000 in
theorem bs_X7_year_73 {p : Program} {l : Launch} {e : Env} {s : State} {m : MethodId} {args : Array Value} {below : List Frame} {meth : Method} {c : Code} {D : va_G} {cy : Cy} {A : Nat → Prop} {T : Ty} {R : Rm} {r : Unit} {M9 : Mm} {a0 : Nat} {j73 : Int32 → Mm → Option (Unit × Mm)} (C : Cx RX7 cX7_year 2 none p s m args meth c D cy A)
    (hj73 : ∀ (x1 : Int32) (M : Mm) (H : Heap) (locs : List Loc), j73 x1 M = some (r, M9) → va_P D vwCl (WL cy T M R) H → va_D A (WL cy T M R) → va_S A s.heap H locs → ∀ ls : Array Slot, lv_has ls 2 [(0, .ref a0), (1, .int x1)] → W p l e rm_X7_year s m args below meth c H locs 0 0 (MQ below (QcV D cy T M9 R A r) args s 0 0 A) (F0 m 73 ls [])) :
    ∀ (x1 : Int32) (M : Mm) (H : Heap) (locs : List Loc), fs_X7_year_73 T R a0 j73 x1 M = some (r, M9) → va_P D vwCl (WL cy T M R) H → va_D A (WL cy T M R) → va_S A s.heap H locs → ∀ ls : Array Slot, lv_has ls 2 [(0, .ref a0), (1, .int x1)] → W p l e rm_X7_year s m args below meth c H locs 0 0 (MQ below (QcV D cy T M9 R A r) args s 0 0 A) (F0 m 73 ls []) := by
  intro x1 M H locs h hP hD hS ls hl
  unfold fs_X7_year_73 at h
  obtain ⟨hx, hb, hr, hml, hown, hts, hK, hA, hlk, hSt⟩ := id C
  refine lv_iload_n hx hb dX7_year_73 rfl (lv_at hl 1 rfl) ?_
  refine lv_aload_n hx hb dX7_year_74 rfl (lv_at hl 0 rfl) ?_
  obtain ⟨k_2, h⟩ := chk_some h
  obtain ⟨b_3, eb_3, h⟩ := rfm_some h
  refine gf_7_0 C hP k_2 eb_3 wl_100 dX7_year_75 ?_
  refine lv_bipush (v := 9) hx hb dX7_year_78 (by decide) ?_
  obtain ⟨k_4, h⟩ := chk_some h
  obtain ⟨k_5, h⟩ := chk_some h
  refine ar_9 C hP k_4 k_5 dX7_year_80 ?_
  refine lv_icmp_ge (tgt := 104) hx hb dX7_year_81 (by decide) (fun c_6 => ?_) (fun c_6 => ?_)
  · replace h := ite_t h c_6
    cases h
    exact rt_v C hP hD hS dX7_year_104
  · replace h := ite_f h c_6
    refine lv_aload_n hx hb dX7_year_84 rfl (lv_at hl 0 rfl) ?_
    refine lv_iload_n hx hb dX7_year_85 rfl (lv_at hl 1 rfl) ?_
    refine lv_iconst (v := 4) hx hb dX7_year_86 (by decide) ?_
    obtain ⟨r_7, M_8, hc_9, h⟩ := cal_some h
    refine cl_Vi (As := [.int x1, .int (4 : Int32)]) (rest := []) C (ct_X7_ofStake hc_9) k_2 (by decide) rfl wl_454 wl_455 wl_456 wl_5 wl_457 hd_X7_ofStake ⟨Nat.le_of_ble_eq_true rfl, Nat.le_of_ble_eq_true rfl⟩ ⟨rfl, rfl⟩ ⟨Nat.zero_le _, Nat.zero_le _⟩ rfl (Nat.le_of_ble_eq_true rfl) rfl hl.1 hP hD hS dX7_year_87 (fun H locs hP hD hS => ?_)
    refine lv_if_ne (tgt := 98) hx hb dX7_year_90 (by decide) (fun c_10 => ?_) (fun c_10 => ?_)
    · replace h := ite_f h c_10
      exact (bs_X7_year_98 C hj73) _ _ _ _ h hP hD hS _ (lv_sub hl [0, 1] rfl)
    · replace h := ite_t h c_10
      refine lv_aload_n hx hb dX7_year_93 rfl (lv_at hl 0 rfl) ?_
      refine lv_iload_n hx hb dX7_year_94 rfl (lv_at hl 1 rfl) ?_
      obtain ⟨r_11, M_12, hc_13, h⟩ := cal_some h
      refine cl_Vv (As := [.int x1]) (rest := []) C (ct_X7_stepStake hc_13) k_2 (by decide) rfl wl_625 wl_626 wl_627 wl_5 wl_628 hd_X7_stepStake ⟨Nat.le_of_ble_eq_true rfl, Nat.le_of_ble_eq_true rfl⟩ ⟨rfl, rfl⟩ ⟨Nat.zero_le _, Nat.zero_le _⟩ rfl (Nat.le_of_ble_eq_true rfl) rfl hl.1 hP hD hS dX7_year_95 (fun H locs hP hD hS => ?_)
      exact (bs_X7_year_98 C hj73) _ _ _ _ h hP hD hS _ (lv_sub hl [0, 1] rfl)
theorem bt_X7_year_73 {p : Program} {l : Launch} {e : Env} {s : State} {m : MethodId} {args : Array Value} {below : List Frame} {meth : Method} {c : Code} {D : va_G} {cy : Cy} {A : Nat → Prop} {T : Ty} {R : Rm} {r : Unit} {M9 : Mm} {a0 : Nat} (C : Cx RX7 cX7_year 2 none p s m args meth c D cy A) :
    ∀ n : Nat, ∀ (x1 : Int32) (M : Mm) (H : Heap) (locs : List Loc), fb_X7_year_73 T R a0 n x1 M = some (r, M9) → va_P D vwCl (WL cy T M R) H → va_D A (WL cy T M R) → va_S A s.heap H locs → ∀ ls : Array Slot, lv_has ls 2 [(0, .ref a0), (1, .int x1)] → W p l e rm_X7_year s m args below meth c H locs 0 0 (MQ below (QcV D cy T M9 R A r) args s 0 0 A) (F0 m 73 ls []) := by
  intro n
  induction n with
  | zero =>
    intro _ _ H locs h
    exact absurd (show (none : Option (Unit × Mm)) = some _ from h) (by simp)
  | succ n ih => exact fun u0 u1 H locs h => bs_X7_year_73 (a0 := a0) C ih u0 u1 H locs h
set_option maxHeartbeats 4000000 in
set_option maxRecDepth 100000 in
theorem bs_X7_year_52 {p : Program} {l : Launch} {e : Env} {s : State} {m : MethodId} {args : Array Value} {below : List Frame} {meth : Method} {c : Code} {D : va_G} {cy : Cy} {A : Nat → Prop} {T : Ty} {R : Rm} {r : Unit} {M9 : Mm} {a0 : Nat} {j52 : Int32 → Mm → Option (Unit × Mm)} {j73 : Int32 → Mm → Option (Unit × Mm)} (C : Cx RX7 cX7_year 2 none p s m args meth c D cy A)
    (hj52 : ∀ (x1 : Int32) (M : Mm) (H : Heap) (locs : List Loc), j52 x1 M = some (r, M9) → va_P D vwCl (WL cy T M R) H → va_D A (WL cy T M R) → va_S A s.heap H locs → ∀ ls : Array Slot, lv_has ls 2 [(0, .ref a0), (1, .int x1)] → W p l e rm_X7_year s m args below meth c H locs 0 0 (MQ below (QcV D cy T M9 R A r) args s 0 0 A) (F0 m 52 ls []))
    (hj73 : ∀ (x1 : Int32) (M : Mm) (H : Heap) (locs : List Loc), j73 x1 M = some (r, M9) → va_P D vwCl (WL cy T M R) H → va_D A (WL cy T M R) → va_S A s.heap H locs → ∀ ls : Array Slot, lv_has ls 2 [(0, .ref a0), (1, .int x1)] → W p l e rm_X7_year s m args below meth c H locs 0 0 (MQ below (QcV D cy T M9 R A r) args s 0 0 A) (F0 m 73 ls [])) :
    ∀ (x1 : Int32) (M : Mm) (H : Heap) (locs : List Loc), fs_X7_year_52 T R a0 j52 j73 x1 M = some (r, M9) → va_P D vwCl (WL cy T M R) H → va_D A (WL cy T M R) → va_S A s.heap H locs → ∀ ls : Array Slot, lv_has ls 2 [(0, .ref a0), (1, .int x1)] → W p l e rm_X7_year s m args below meth c H locs 0 0 (MQ below (QcV D cy T M9 R A r) args s 0 0 A) (F0 m 52 ls []) := by
  intro x1 M H locs h hP hD hS ls hl
  unfold fs_X7_year_52 at h
  obtain ⟨hx, hb, hr, hml, hown, hts, hK, hA, hlk, hSt⟩ := id C
  refine lv_iload_n hx hb dX7_year_52 rfl (lv_at hl 1 rfl) ?_
  refine lv_if_lt (tgt := 67) hx hb dX7_year_53 (by decide) (fun c_14 => ?_) (fun c_14 => ?_)
  · replace h := ite_t h c_14
    refine lv_aload_n hx hb dX7_year_67 rfl (lv_at hl 0 rfl) ?_
    obtain ⟨k_15, h⟩ := chk_some h
    obtain ⟨r_16, M_17, hc_18, h⟩ := cal_some h
    refine cl_Vv (As := []) (rest := []) C (ct_X7_stepFront hc_18) k_15 (by decide) rfl wl_621 wl_622 wl_623 wl_5 wl_624 hd_X7_stepFront ⟨Nat.le_of_ble_eq_true rfl, Nat.le_of_ble_eq_true rfl⟩ ⟨rfl, rfl⟩ ⟨Nat.zero_le _, Nat.zero_le _⟩ rfl (Nat.le_of_ble_eq_true rfl) rfl hl.1 hP hD hS dX7_year_68 (fun H locs hP hD hS => ?_)
    refine lv_iconst (v := 0) hx hb dX7_year_71 (by decide) ?_
    refine lv_istore_n (lv' := [(1, .int (0 : Int32)), (0, .ref a0)]) hx hb dX7_year_72 rfl hl (by decide) rfl (fun ls hl => ?_)
    exact hj73 _ _ _ _ h hP hD hS _ (lv_sub hl [1, 0] rfl)
  · replace h := ite_f h c_14
    refine lv_aload_n hx hb dX7_year_56 rfl (lv_at hl 0 rfl) ?_
    refine lv_iload_n hx hb dX7_year_57 rfl (lv_at hl 1 rfl) ?_
    obtain ⟨k_19, h⟩ := chk_some h
    obtain ⟨r_20, M_21, hc_22, h⟩ := cal_some h
    refine cl_Vv (As := [.int x1]) (rest := []) C (ct_X7_gives hc_22) k_19 (by decide) rfl wl_616 wl_617 wl_618 wl_5 wl_619 hd_X7_gives ⟨Nat.le_of_ble_eq_true rfl, Nat.le_of_ble_eq_true rfl⟩ ⟨rfl, rfl⟩ ⟨Nat.zero_le _, Nat.zero_le _⟩ rfl (Nat.le_of_ble_eq_true rfl) rfl hl.1 hP hD hS dX7_year_58 (fun H locs hP hD hS => ?_)
    obtain ⟨v_23, ev_23⟩ : ∃ y : Int32, y = (x1 + (-1 : Int32)) := ⟨_, rfl⟩
    replace h := bnd_at h ev_23
    refine lv_iinc (v := v_23) (lv' := [(1, .int v_23), (0, .ref a0)]) hx hb dX7_year_61 hl (k := 1) rfl (by rw [ev_23]; rfl) (by decide) rfl (fun ls hl => ?_)
    refine lv_goto (tgt := 52) hx hb dX7_year_64 (by decide) ?_
    exact hj52 _ _ _ _ h hP hD hS _ (lv_sub hl [1, 0] rfl)
theorem bt_X7_year_52 {p : Program} {l : Launch} {e : Env} {s : State} {m : MethodId} {args : Array Value} {below : List Frame} {meth : Method} {c : Code} {D : va_G} {cy : Cy} {A : Nat → Prop} {T : Ty} {R : Rm} {r : Unit} {M9 : Mm} {a0 : Nat} {j73 : Int32 → Mm → Option (Unit × Mm)} (C : Cx RX7 cX7_year 2 none p s m args meth c D cy A)
    (hj73 : ∀ (x1 : Int32) (M : Mm) (H : Heap) (locs : List Loc), j73 x1 M = some (r, M9) → va_P D vwCl (WL cy T M R) H → va_D A (WL cy T M R) → va_S A s.heap H locs → ∀ ls : Array Slot, lv_has ls 2 [(0, .ref a0), (1, .int x1)] → W p l e rm_X7_year s m args below meth c H locs 0 0 (MQ below (QcV D cy T M9 R A r) args s 0 0 A) (F0 m 73 ls [])) :
    ∀ n : Nat, ∀ (x1 : Int32) (M : Mm) (H : Heap) (locs : List Loc), fb_X7_year_52 T R a0 j73 n x1 M = some (r, M9) → va_P D vwCl (WL cy T M R) H → va_D A (WL cy T M R) → va_S A s.heap H locs → ∀ ls : Array Slot, lv_has ls 2 [(0, .ref a0), (1, .int x1)] → W p l e rm_X7_year s m args below meth c H locs 0 0 (MQ below (QcV D cy T M9 R A r) args s 0 0 A) (F0 m 52 ls []) := by
  intro n
  induction n with
  | zero =>
    intro _ _ H locs h
    exact absurd (show (none : Option (Unit × Mm)) = some _ from h) (by simp)
  | succ n ih => exact fun u0 u1 H locs h => bs_X7_year_52 (a0 := a0) C ih hj73 u0 u1 H locs h
set_option maxHeartbeats 4000000 in
set_option maxRecDepth 100000 in
theorem bs_X7_year_13 {p : Program} {l : Launch} {e : Env} {s : State} {m : MethodId} {args : Array Value} {below : List Frame} {meth : Method} {c : Code} {D : va_G} {cy : Cy} {A : Nat → Prop} {T : Ty} {R : Rm} {r : Unit} {M9 : Mm} {a0 : Nat} {j13 : Int32 → Mm → Option (Unit × Mm)} {j52 : Int32 → Mm → Option (Unit × Mm)} (C : Cx RX7 cX7_year 2 none p s m args meth c D cy A)
    (hj13 : ∀ (x1 : Int32) (M : Mm) (H : Heap) (locs : List Loc), j13 x1 M = some (r, M9) → va_P D vwCl (WL cy T M R) H → va_D A (WL cy T M R) → va_S A s.heap H locs → ∀ ls : Array Slot, lv_has ls 2 [(0, .ref a0), (1, .int x1)] → W p l e rm_X7_year s m args below meth c H locs 0 0 (MQ below (QcV D cy T M9 R A r) args s 0 0 A) (F0 m 13 ls []))
    (hj52 : ∀ (x1 : Int32) (M : Mm) (H : Heap) (locs : List Loc), j52 x1 M = some (r, M9) → va_P D vwCl (WL cy T M R) H → va_D A (WL cy T M R) → va_S A s.heap H locs → ∀ ls : Array Slot, lv_has ls 2 [(0, .ref a0), (1, .int x1)] → W p l e rm_X7_year s m args below meth c H locs 0 0 (MQ below (QcV D cy T M9 R A r) args s 0 0 A) (F0 m 52 ls [])) :
    ∀ (x1 : Int32) (M : Mm) (H : Heap) (locs : List Loc), fs_X7_year_13 T R a0 j13 j52 x1 M = some (r, M9) → va_P D vwCl (WL cy T M R) H → va_D A (WL cy T M R) → va_S A s.heap H locs → ∀ ls : Array Slot, lv_has ls 2 [(0, .ref a0), (1, .int x1)] → W p l e rm_X7_year s m args below meth c H locs 0 0 (MQ below (QcV D cy T M9 R A r) args s 0 0 A) (F0 m 13 ls []) := by
  intro x1 M H locs h hP hD hS ls hl
  unfold fs_X7_year_13 at h
  obtain ⟨hx, hb, hr, hml, hown, hts, hK, hA, hlk, hSt⟩ := id C
  refine lv_iload_n hx hb dX7_year_13 rfl (lv_at hl 1 rfl) ?_
  refine lv_aload_n hx hb dX7_year_14 rfl (lv_at hl 0 rfl) ?_
  obtain ⟨k_24, h⟩ := chk_some h
  obtain ⟨b_25, eb_25, h⟩ := rfm_some h
  refine gf_7_0 C hP k_24 eb_25 wl_100 dX7_year_15 ?_
  refine lv_bipush (v := 8) hx hb dX7_year_18 (by decide) ?_
  obtain ⟨k_26, h⟩ := chk_some h
  obtain ⟨k_27, h⟩ := chk_some h
  refine ar_9 C hP k_26 k_27 dX7_year_20 ?_
  refine lv_icmp_ge (tgt := 42) hx hb dX7_year_21 (by decide) (fun c_28 => ?_) (fun c_28 => ?_)
  · replace h := ite_t h c_28
    refine lv_aload_n hx hb dX7_year_42 rfl (lv_at hl 0 rfl) ?_
    refine gf_7_0 C hP k_24 eb_25 wl_100 dX7_year_43 ?_
    refine lv_bipush (v := 8) hx hb dX7_year_46 (by decide) ?_
    refine ar_9 C hP k_26 k_27 dX7_year_48 ?_
    refine lv_iconst (v := 1) hx hb dX7_year_49 (by decide) ?_
    refine lv_isub hx hb dX7_year_50 ?_
    refine lv_topi (fun v_29 ev_29 => ?_)
    replace h := bnd_at h ev_29
    refine lv_istore_n (lv' := [(1, .int v_29), (0, .ref a0)]) hx hb dX7_year_51 rfl hl (by decide) rfl (fun ls hl => ?_)
    exact hj52 _ _ _ _ h hP hD hS _ (lv_sub hl [1, 0] rfl)
  · replace h := ite_f h c_28
    refine lv_aload_n hx hb dX7_year_24 rfl (lv_at hl 0 rfl) ?_
    refine lv_iload_n hx hb dX7_year_25 rfl (lv_at hl 1 rfl) ?_
    obtain ⟨r_30, M_31, hc_32, h⟩ := cal_some h
    refine cl_Vv (As := [.int x1]) (rest := []) C (ct_X7_weather hc_32) k_24 (by decide) rfl wl_612 wl_613 wl_614 wl_5 wl_615 hd_X7_weather ⟨Nat.le_of_ble_eq_true rfl, Nat.le_of_ble_eq_true rfl⟩ ⟨rfl, rfl⟩ ⟨Nat.zero_le _, Nat.zero_le _⟩ rfl (Nat.le_of_ble_eq_true rfl) rfl hl.1 hP hD hS dX7_year_26 (fun H locs hP hD hS => ?_)
    refine lv_aload_n hx hb dX7_year_29 rfl (lv_at hl 0 rfl) ?_
    refine lv_iload_n hx hb dX7_year_30 rfl (lv_at hl 1 rfl) ?_
    refine lv_iconst (v := 5) hx hb dX7_year_31 (by decide) ?_
    refine lv_iconst (v := 0) hx hb dX7_year_32 (by decide) ?_
    obtain ⟨r_33, M_34, hc_35, h⟩ := cal_some h
    refine cl_Vv (As := [.int x1, .int (5 : Int32), .int (0 : Int32)]) (rest := []) C (ct_X7_put hc_35) k_24 (by decide) rfl wl_244 wl_245 wl_246 wl_5 wl_247 hd_X7_put ⟨Nat.le_of_ble_eq_true rfl, Nat.le_of_ble_eq_true rfl⟩ ⟨rfl, rfl⟩ ⟨Nat.zero_le _, Nat.zero_le _⟩ rfl (Nat.le_of_ble_eq_true rfl) rfl hl.1 hP hD hS dX7_year_33 (fun H locs hP hD hS => ?_)
    obtain ⟨v_36, ev_36⟩ : ∃ y : Int32, y = (x1 + (1 : Int32)) := ⟨_, rfl⟩
    replace h := bnd_at h ev_36
    refine lv_iinc (v := v_36) (lv' := [(1, .int v_36), (0, .ref a0)]) hx hb dX7_year_36 hl (k := 1) rfl (by rw [ev_36]; rfl) (by decide) rfl (fun ls hl => ?_)
    refine lv_goto (tgt := 13) hx hb dX7_year_39 (by decide) ?_
    exact hj13 _ _ _ _ h hP hD hS _ (lv_sub hl [1, 0] rfl)
theorem bt_X7_year_13 {p : Program} {l : Launch} {e : Env} {s : State} {m : MethodId} {args : Array Value} {below : List Frame} {meth : Method} {c : Code} {D : va_G} {cy : Cy} {A : Nat → Prop} {T : Ty} {R : Rm} {r : Unit} {M9 : Mm} {a0 : Nat} {j52 : Int32 → Mm → Option (Unit × Mm)} (C : Cx RX7 cX7_year 2 none p s m args meth c D cy A)
    (hj52 : ∀ (x1 : Int32) (M : Mm) (H : Heap) (locs : List Loc), j52 x1 M = some (r, M9) → va_P D vwCl (WL cy T M R) H → va_D A (WL cy T M R) → va_S A s.heap H locs → ∀ ls : Array Slot, lv_has ls 2 [(0, .ref a0), (1, .int x1)] → W p l e rm_X7_year s m args below meth c H locs 0 0 (MQ below (QcV D cy T M9 R A r) args s 0 0 A) (F0 m 52 ls [])) :
    ∀ n : Nat, ∀ (x1 : Int32) (M : Mm) (H : Heap) (locs : List Loc), fb_X7_year_13 T R a0 j52 n x1 M = some (r, M9) → va_P D vwCl (WL cy T M R) H → va_D A (WL cy T M R) → va_S A s.heap H locs → ∀ ls : Array Slot, lv_has ls 2 [(0, .ref a0), (1, .int x1)] → W p l e rm_X7_year s m args below meth c H locs 0 0 (MQ below (QcV D cy T M9 R A r) args s 0 0 A) (F0 m 13 ls []) := by
  intro n
  induction n with
  | zero =>
    intro _ _ H locs h
    exact absurd (show (none : Option (Unit × Mm)) = some _ from h) (by simp)
  | succ n ih => exact fun u0 u1 H locs h => bs_X7_year_13 (a0 := a0) C ih hj52 u0 u1 H locs h
set_option maxHeartbeats 4000000 in
set_option maxRecDepth 100000 in
theorem ct_X7_year {l : Launch} {D : va_G} {cy : Cy} {T : Ty} {R : Rm} {a0 : Nat} {M : Mm} {r : Unit} {M9 : Mm} (h : fn_X7_year T R a0 M = some (r, M9)) : Ct QcV l yX7_year cX7_year 2 none rm_X7_year D cy T M R [.ref a0] M9 R r := by
  unfold fn_X7_year at h
  refine enter (plainFor_of_name (by decide +kernel)) (Nat.le_of_ble_eq_true rfl) (fun p e s m args below meth c A C hP hD hS ls hl => ?_)
  have hl : lv_has ls 2 [(0, .ref a0)] := hl
  obtain ⟨hx, hb, hr, hml, hown, hts, hK, hA, hlk, hSt⟩ := id C
  refine lv_aload_n hx hb dX7_year_0 rfl (lv_at hl 0 rfl) ?_
  obtain ⟨k_37, h⟩ := chk_some h
  obtain ⟨b_38, eb_38, h⟩ := rfm_some h
  refine gf_7_0 C hP k_37 eb_38 wl_100 dX7_year_1 ?_
  refine lv_bipush (v := 7) hx hb dX7_year_4 (by decide) ?_
  refine lv_dup2_11 hx hb dX7_year_6 rfl rfl ?_
  obtain ⟨k_39, h⟩ := chk_some h
  obtain ⟨k_40, h⟩ := chk_some h
  refine ar_9 C hP k_39 k_40 dX7_year_7 ?_
  refine lv_iconst (v := 1) hx hb dX7_year_8 (by decide) ?_
  refine lv_iadd hx hb dX7_year_9 ?_
  refine aw_9 C hP hD hS k_39 k_40 dX7_year_10 (fun M_41 H locs eM_41 hP hD hS => ?_)
  replace h := bnd_at h eM_41
  refine lv_iconst (v := 0) hx hb dX7_year_11 (by decide) ?_
  refine lv_istore_n (lv' := [(1, .int (0 : Int32)), (0, .ref a0)]) hx hb dX7_year_12 rfl hl (by decide) rfl (fun ls hl => ?_)
  exact (bt_X7_year_13 C (bt_X7_year_52 C (bt_X7_year_73 C FU) FU) FU) _ _ _ _ h hP hD hS _ (lv_sub hl [1, 0] rfl)
abbrev rm_X7_goOn : Room := { frames := 4, cells := 0, slots := 0, locals := 92 }
theorem hd_X7_goOn : yX7_goOn.cls = RX7 ∧ yX7_goOn.cls ≠ "java/lang/invoke/MethodHandle" ∧ yX7_goOn.cls ≠ "java/lang/invoke/VarHandle" ∧ (parseMethodDescriptor yX7_goOn.desc).map (fun d => d.parameters.length) = some 1 := ⟨rfl, by decide +kernel, by decide +kernel, by decide +kernel⟩
set_option maxHeartbeats 4000000 in
set_option maxRecDepth 100000 in
theorem bs_X7_goOn_2 {p : Program} {l : Launch} {e : Env} {s : State} {m : MethodId} {args : Array Value} {below : List Frame} {meth : Method} {c : Code} {D : va_G} {cy : Cy} {A : Nat → Prop} {T : Ty} {R : Rm} {r : Unit} {M9 : Mm} {a0 : Nat} {x1 : Int32} {j2 : Int32 → Mm → Option (Unit × Mm)} (C : Cx RX7 cX7_goOn 3 none p s m args meth c D cy A)
    (hj2 : ∀ (x2 : Int32) (M : Mm) (H : Heap) (locs : List Loc), j2 x2 M = some (r, M9) → va_P D vwCl (WL cy T M R) H → va_D A (WL cy T M R) → va_S A s.heap H locs → ∀ ls : Array Slot, lv_has ls 3 [(0, .ref a0), (1, .int x1), (2, .int x2)] → W p l e rm_X7_goOn s m args below meth c H locs 0 0 (MQ below (QcV D cy T M9 R A r) args s 0 0 A) (F0 m 2 ls [])) :
    ∀ (x2 : Int32) (M : Mm) (H : Heap) (locs : List Loc), fs_X7_goOn_2 T R a0 x1 j2 x2 M = some (r, M9) → va_P D vwCl (WL cy T M R) H → va_D A (WL cy T M R) → va_S A s.heap H locs → ∀ ls : Array Slot, lv_has ls 3 [(0, .ref a0), (1, .int x1), (2, .int x2)] → W p l e rm_X7_goOn s m args below meth c H locs 0 0 (MQ below (QcV D cy T M9 R A r) args s 0 0 A) (F0 m 2 ls []) := by
  intro x2 M H locs h hP hD hS ls hl
  unfold fs_X7_goOn_2 at h
  obtain ⟨hx, hb, hr, hml, hown, hts, hK, hA, hlk, hSt⟩ := id C
  refine lv_iload_n hx hb dX7_goOn_2 rfl (lv_at hl 2 rfl) ?_
  refine lv_iload_n hx hb dX7_goOn_3 rfl (lv_at hl 1 rfl) ?_
  refine lv_icmp_ge (tgt := 17) hx hb dX7_goOn_4 (by decide) (fun c_1 => ?_) (fun c_1 => ?_)
  · replace h := ite_t h c_1
    cases h
    exact rt_v C hP hD hS dX7_goOn_17
  · replace h := ite_f h c_1
    refine lv_aload_n hx hb dX7_goOn_7 rfl (lv_at hl 0 rfl) ?_
    obtain ⟨k_2, h⟩ := chk_some h
    obtain ⟨r_3, M_4, hc_5, h⟩ := cal_some h
    refine cl_Vv (As := []) (rest := []) C (ct_X7_year hc_5) k_2 (by decide) rfl wl_608 wl_609 wl_610 wl_5 wl_611 hd_X7_year ⟨Nat.le_of_ble_eq_true rfl, Nat.le_of_ble_eq_true rfl⟩ ⟨rfl, rfl⟩ ⟨Nat.zero_le _, Nat.zero_le _⟩ rfl (Nat.le_of_ble_eq_true rfl) rfl hl.1 hP hD hS dX7_goOn_8 (fun H locs hP hD hS => ?_)
    obtain ⟨v_6, ev_6⟩ : ∃ y : Int32, y = (x2 + (1 : Int32)) := ⟨_, rfl⟩
    replace h := bnd_at h ev_6
    refine lv_iinc (v := v_6) (lv' := [(2, .int v_6), (0, .ref a0), (1, .int x1)]) hx hb dX7_goOn_11 hl (k := 2) rfl (by rw [ev_6]; rfl) (by decide) rfl (fun ls hl => ?_)
    refine lv_goto (tgt := 2) hx hb dX7_goOn_14 (by decide) ?_
    exact hj2 _ _ _ _ h hP hD hS _ (lv_sub hl [1, 2, 0] rfl)
theorem bt_X7_goOn_2 {p : Program} {l : Launch} {e : Env} {s : State} {m : MethodId} {args : Array Value} {below : List Frame} {meth : Method} {c : Code} {D : va_G} {cy : Cy} {A : Nat → Prop} {T : Ty} {R : Rm} {r : Unit} {M9 : Mm} {a0 : Nat} {x1 : Int32} (C : Cx RX7 cX7_goOn 3 none p s m args meth c D cy A) :
    ∀ n : Nat, ∀ (x2 : Int32) (M : Mm) (H : Heap) (locs : List Loc), fb_X7_goOn_2 T R a0 x1 n x2 M = some (r, M9) → va_P D vwCl (WL cy T M R) H → va_D A (WL cy T M R) → va_S A s.heap H locs → ∀ ls : Array Slot, lv_has ls 3 [(0, .ref a0), (1, .int x1), (2, .int x2)] → W p l e rm_X7_goOn s m args below meth c H locs 0 0 (MQ below (QcV D cy T M9 R A r) args s 0 0 A) (F0 m 2 ls []) := by
  intro n
  induction n with
  | zero =>
    intro _ _ H locs h
    exact absurd (show (none : Option (Unit × Mm)) = some _ from h) (by simp)
  | succ n ih => exact fun u0 u1 H locs h => bs_X7_goOn_2 (a0 := a0) (x1 := x1) C ih u0 u1 H locs h
set_option maxHeartbeats 4000000 in
set_option maxRecDepth 100000 in
theorem ct_X7_goOn {l : Launch} {D : va_G} {cy : Cy} {T : Ty} {R : Rm} {a0 : Nat} {x1 : Int32} {M : Mm} {r : Unit} {M9 : Mm} (h : fn_X7_goOn T R a0 x1 M = some (r, M9)) : Ct QcV l yX7_goOn cX7_goOn 3 none rm_X7_goOn D cy T M R [.ref a0, .int x1] M9 R r := by
  unfold fn_X7_goOn at h
  refine enter (plainFor_of_name (by decide +kernel)) (Nat.le_of_ble_eq_true rfl) (fun p e s m args below meth c A C hP hD hS ls hl => ?_)
  have hl : lv_has ls 3 [(0, .ref a0), (1, .int x1)] := hl
  obtain ⟨hx, hb, hr, hml, hown, hts, hK, hA, hlk, hSt⟩ := id C
  refine lv_iconst (v := 0) hx hb dX7_goOn_0 (by decide) ?_
  refine lv_istore_n (lv' := [(2, .int (0 : Int32)), (0, .ref a0), (1, .int x1)]) hx hb dX7_goOn_1 rfl hl (by decide) rfl (fun ls hl => ?_)
  exact (bt_X7_goOn_2 C FU) _ _ _ _ h hP hD hS _ (lv_sub hl [1, 2, 0] rfl)
abbrev rm_X7_years : Room := { frames := 5, cells := 0, slots := 0, locals := 114 }
theorem hd_X7_years : yX7_years.cls = RX7 ∧ yX7_years.cls ≠ "java/lang/invoke/MethodHandle" ∧ yX7_years.cls ≠ "java/lang/invoke/VarHandle" ∧ (parseMethodDescriptor yX7_years.desc).map (fun d => d.parameters.length) = some 1 := ⟨rfl, by decide +kernel, by decide +kernel, by decide +kernel⟩
set_option maxHeartbeats 4000000 in
set_option maxRecDepth 100000 in
theorem ct_X7_years {l : Launch} {D : va_G} {cy : Cy} {T : Ty} {R : Rm} {a0 : Nat} {x1 : Int32} {M : Mm} {r : Int32} {M9 : Mm} (h : fn_X7_years T R a0 x1 M = some (r, M9)) : Ct QcI l yX7_years cX7_years 3 (some .int) rm_X7_years D cy T M R [.ref a0, .int x1] M9 R r := by
  unfold fn_X7_years at h
  refine enter (plainFor_of_name (by decide +kernel)) (Nat.le_of_ble_eq_true rfl) (fun p e s m args below meth c A C hP hD hS ls hl => ?_)
  have hl : lv_has ls 3 [(0, .ref a0), (1, .int x1)] := hl
  obtain ⟨hx, hb, hr, hml, hown, hts, hK, hA, hlk, hSt⟩ := id C
  refine lv_iload_n hx hb dX7_years_0 rfl (lv_at hl 1 rfl) ?_
  refine lv_iconst (v := 1) hx hb dX7_years_1 (by decide) ?_
  refine lv_bipush (v := 100) hx hb dX7_years_2 (by decide) ?_
  obtain ⟨r_1, M_2, hc_3, h⟩ := cal_some h
  refine cl_Si (As := [.int x1, .int (1 : Int32), .int (100 : Int32)]) (rest := []) C (ct_X7_in hc_3) wl_165 wl_166 wl_5 wl_167 hd_X7_in ⟨Nat.le_of_ble_eq_true rfl, Nat.le_of_ble_eq_true rfl⟩ ⟨rfl, rfl⟩ ⟨Nat.zero_le _, Nat.zero_le _⟩ rfl (Nat.le_of_ble_eq_true rfl) rfl hl.1 hP hD hS dX7_years_4 (fun H locs hP hD hS => ?_)
  refine lv_if_ne (tgt := 13) hx hb dX7_years_7 (by decide) (fun c_4 => ?_) (fun c_4 => ?_)
  · replace h := ite_f h c_4
    refine lv_aload_n hx hb dX7_years_13 rfl (lv_at hl 0 rfl) ?_
    obtain ⟨k_5, h⟩ := chk_some h
    obtain ⟨b_6, eb_6, h⟩ := rfm_some h
    refine gf_7_0 C hP k_5 eb_6 wl_100 dX7_years_14 ?_
    refine lv_bipush (v := 8) hx hb dX7_years_17 (by decide) ?_
    obtain ⟨k_7, h⟩ := chk_some h
    obtain ⟨k_8, h⟩ := chk_some h
    refine ar_9 C hP k_7 k_8 dX7_years_19 ?_
    refine lv_if_ne (tgt := 26) hx hb dX7_years_20 (by decide) (fun c_9 => ?_) (fun c_9 => ?_)
    · replace h := ite_f h c_9
      refine lv_aload_n hx hb dX7_years_26 rfl (lv_at hl 0 rfl) ?_
      refine gf_7_0 C hP k_5 eb_6 wl_100 dX7_years_27 ?_
      refine lv_bipush (v := 7) hx hb dX7_years_30 (by decide) ?_
      obtain ⟨k_10, h⟩ := chk_some h
      refine ar_9 C hP k_7 k_10 dX7_years_32 ?_
      refine lv_iload_n hx hb dX7_years_33 rfl (lv_at hl 1 rfl) ?_
      refine lv_iadd hx hb dX7_years_34 ?_
      refine lv_sipush (v := 500) hx hb dX7_years_35 (by decide) ?_
      refine lv_icmp_le (tgt := 44) hx hb dX7_years_38 (by decide) (fun c_11 => ?_) (fun c_11 => ?_)
      · replace h := ite_t h c_11
        refine lv_aload_n hx hb dX7_years_44 rfl (lv_at hl 0 rfl) ?_
        obtain ⟨r_12, M_13, hc_14, h⟩ := cal_some h
        refine cl_Vv (As := []) (rest := []) C (ct_X7_keep hc_14) k_5 (by decide) rfl wl_168 wl_169 wl_170 wl_5 wl_171 hd_X7_keep ⟨Nat.le_of_ble_eq_true rfl, Nat.le_of_ble_eq_true rfl⟩ ⟨rfl, rfl⟩ ⟨Nat.zero_le _, Nat.zero_le _⟩ rfl (Nat.le_of_ble_eq_true rfl) rfl hl.1 hP hD hS dX7_years_45 (fun H locs hP hD hS => ?_)
        refine lv_aload_n hx hb dX7_years_48 rfl (lv_at hl 0 rfl) ?_
        refine gf_7_0 C hP k_5 eb_6 wl_100 dX7_years_49 ?_
        refine lv_bipush (v := 12) hx hb dX7_years_52 (by decide) ?_
        obtain ⟨k_15, h⟩ := chk_some h
        refine ar_9 C hP k_7 k_15 dX7_years_54 ?_
        refine lv_topi (fun v_16 ev_16 => ?_)
        replace h := bnd_at h ev_16
        refine lv_istore_n (lv' := [(2, .int v_16), (0, .ref a0), (1, .int x1)]) hx hb dX7_years_55 rfl hl (by decide) rfl (fun ls hl => ?_)
        refine lv_aload_n hx hb dX7_years_56 rfl (lv_at hl 1 rfl) ?_
        refine lv_iload_n hx hb dX7_years_57 rfl (lv_at hl 2 rfl) ?_
        obtain ⟨r_17, M_18, hc_19, h⟩ := cal_some h
        refine cl_Vv (As := [.int x1]) (rest := []) C (ct_X7_goOn hc_19) k_5 (by decide) rfl wl_604 wl_605 wl_606 wl_5 wl_607 hd_X7_goOn ⟨Nat.le_of_ble_eq_true rfl, Nat.le_of_ble_eq_true rfl⟩ ⟨rfl, rfl⟩ ⟨Nat.zero_le _, Nat.zero_le _⟩ rfl (Nat.le_of_ble_eq_true rfl) rfl hl.1 hP hD hS dX7_years_58 (fun H locs hP hD hS => ?_)
        refine lv_aload_n hx hb dX7_years_61 rfl (lv_at hl 1 rfl) ?_
        refine gf_7_0 C hP k_5 eb_6 wl_100 dX7_years_62 ?_
        refine lv_bipush (v := 12) hx hb dX7_years_65 (by decide) ?_
        refine ar_9 C hP k_7 k_15 dX7_years_67 ?_
        refine lv_iload_n hx hb dX7_years_68 rfl (lv_at hl 0 rfl) ?_
        refine lv_isub hx hb dX7_years_69 ?_
        cases h
        exact rt_i C hP hD hS dX7_years_70
      · replace h := ite_f h c_11
        refine lv_ldc (own := RX7) (v := -2000000003) hx hb hown (hts _ wl_239) dX7_years_41 ?_
        cases h
        exact rt_i C hP hD hS dX7_years_43
    · replace h := ite_t h c_9
      refine lv_ldc (own := RX7) (v := -2000000002) hx hb hown (hts _ wl_238) dX7_years_23 ?_
      cases h
      exact rt_i C hP hD hS dX7_years_25
  · replace h := ite_t h c_4
    refine lv_ldc (own := RX7) (v := -2000000001) hx hb hown (hts _ wl_160) dX7_years_10 ?_
    cases h
    exact rt_i C hP hD hS dX7_years_12
abbrev rm_X7_oldest : Room := { frames := 1, cells := 0, slots := 0, locals := 23 }
theorem hd_X7_oldest : yX7_oldest.cls = RX7 ∧ yX7_oldest.cls ≠ "java/lang/invoke/MethodHandle" ∧ yX7_oldest.cls ≠ "java/lang/invoke/VarHandle" ∧ (parseMethodDescriptor yX7_oldest.desc).map (fun d => d.parameters.length) = some 0 := ⟨rfl, by decide +kernel, by decide +kernel, by decide +kernel⟩
set_option maxHeartbeats 4000000 in
set_option maxRecDepth 100000 in
theorem bs_X7_oldest_2 {p : Program} {l : Launch} {e : Env} {s : State} {m : MethodId} {args : Array Value} {below : List Frame} {meth : Method} {c : Code} {D : va_G} {cy : Cy} {A : Nat → Prop} {T : Ty} {R : Rm} {r : Int32} {M9 : Mm} {a0 : Nat} {j2 : Int32 → Mm → Option (Int32 × Mm)} (C : Cx RX7 cX7_oldest 2 (some .int) p s m args meth c D cy A)
    (hj2 : ∀ (x1 : Int32) (M : Mm) (H : Heap) (locs : List Loc), j2 x1 M = some (r, M9) → va_P D vwCl (WL cy T M R) H → va_D A (WL cy T M R) → va_S A s.heap H locs → ∀ ls : Array Slot, lv_has ls 2 [(0, .ref a0), (1, .int x1)] → W p l e rm_X7_oldest s m args below meth c H locs 0 0 (MQ below (QcI D cy T M9 R A r) args s 0 0 A) (F0 m 2 ls [])) :
    ∀ (x1 : Int32) (M : Mm) (H : Heap) (locs : List Loc), fs_X7_oldest_2 T R a0 j2 x1 M = some (r, M9) → va_P D vwCl (WL cy T M R) H → va_D A (WL cy T M R) → va_S A s.heap H locs → ∀ ls : Array Slot, lv_has ls 2 [(0, .ref a0), (1, .int x1)] → W p l e rm_X7_oldest s m args below meth c H locs 0 0 (MQ below (QcI D cy T M9 R A r) args s 0 0 A) (F0 m 2 ls []) := by
  intro x1 M H locs h hP hD hS ls hl
  unfold fs_X7_oldest_2 at h
  obtain ⟨hx, hb, hr, hml, hown, hts, hK, hA, hlk, hSt⟩ := id C
  refine lv_iload_n hx hb dX7_oldest_2 rfl (lv_at hl 1 rfl) ?_
  refine lv_aload_n hx hb dX7_oldest_3 rfl (lv_at hl 0 rfl) ?_
  obtain ⟨k_1, h⟩ := chk_some h
  obtain ⟨b_2, eb_2, h⟩ := rfm_some h
  refine gf_7_0 C hP k_1 eb_2 wl_100 dX7_oldest_4 ?_
  refine lv_bipush (v := 7) hx hb dX7_oldest_7 (by decide) ?_
  obtain ⟨k_3, h⟩ := chk_some h
  obtain ⟨k_4, h⟩ := chk_some h
  refine ar_9 C hP k_3 k_4 dX7_oldest_9 ?_
  refine lv_icmp_gt (tgt := 29) hx hb dX7_oldest_10 (by decide) (fun c_5 => ?_) (fun c_5 => ?_)
  · replace h := ite_t h c_5
    refine lv_ldc (own := RX7) (v := -2000000004) hx hb hown (hts _ wl_324) dX7_oldest_29 ?_
    cases h
    exact rt_i C hP hD hS dX7_oldest_31
  · replace h := ite_f h c_5
    refine lv_aload_n hx hb dX7_oldest_13 rfl (lv_at hl 0 rfl) ?_
    refine lv_iload_n hx hb dX7_oldest_14 rfl (lv_at hl 1 rfl) ?_
    obtain ⟨r_6, M_7, hc_8, h⟩ := cal_some h
    refine cl_Vi (As := [.int x1]) (rest := []) C (ct_X7_leftOf hc_8) k_1 (by decide) rfl wl_362 wl_363 wl_364 wl_5 wl_365 hd_X7_leftOf ⟨Nat.le_of_ble_eq_true rfl, Nat.le_of_ble_eq_true rfl⟩ ⟨rfl, rfl⟩ ⟨Nat.zero_le _, Nat.zero_le _⟩ rfl (Nat.le_of_ble_eq_true rfl) rfl hl.1 hP hD hS dX7_oldest_15 (fun H locs hP hD hS => ?_)
    refine lv_if_le (tgt := 23) hx hb dX7_oldest_18 (by decide) (fun c_9 => ?_) (fun c_9 => ?_)
    · replace h := ite_t h c_9
      obtain ⟨v_10, ev_10⟩ : ∃ y : Int32, y = (x1 + (1 : Int32)) := ⟨_, rfl⟩
      replace h := bnd_at h ev_10
      refine lv_iinc (v := v_10) (lv' := [(1, .int v_10), (0, .ref a0)]) hx hb dX7_oldest_23 hl (k := 1) rfl (by rw [ev_10]; rfl) (by decide) rfl (fun ls hl => ?_)
      refine lv_goto (tgt := 2) hx hb dX7_oldest_26 (by decide) ?_
      exact hj2 _ _ _ _ h hP hD hS _ (lv_sub hl [1, 0] rfl)
    · replace h := ite_f h c_9
      refine lv_iload_n hx hb dX7_oldest_21 rfl (lv_at hl 1 rfl) ?_
      cases h
      exact rt_i C hP hD hS dX7_oldest_22
theorem bt_X7_oldest_2 {p : Program} {l : Launch} {e : Env} {s : State} {m : MethodId} {args : Array Value} {below : List Frame} {meth : Method} {c : Code} {D : va_G} {cy : Cy} {A : Nat → Prop} {T : Ty} {R : Rm} {r : Int32} {M9 : Mm} {a0 : Nat} (C : Cx RX7 cX7_oldest 2 (some .int) p s m args meth c D cy A) :
    ∀ n : Nat, ∀ (x1 : Int32) (M : Mm) (H : Heap) (locs : List Loc), fb_X7_oldest_2 T R a0 n x1 M = some (r, M9) → va_P D vwCl (WL cy T M R) H → va_D A (WL cy T M R) → va_S A s.heap H locs → ∀ ls : Array Slot, lv_has ls 2 [(0, .ref a0), (1, .int x1)] → W p l e rm_X7_oldest s m args below meth c H locs 0 0 (MQ below (QcI D cy T M9 R A r) args s 0 0 A) (F0 m 2 ls []) := by
  intro n
  induction n with
  | zero =>
    intro _ _ H locs h
    exact absurd (show (none : Option (Int32 × Mm)) = some _ from h) (by simp)
  | succ n ih => exact fun u0 u1 H locs h => bs_X7_oldest_2 (a0 := a0) C ih u0 u1 H locs h
set_option maxHeartbeats 4000000 in
set_option maxRecDepth 100000 in
theorem ct_X7_oldest {l : Launch} {D : va_G} {cy : Cy} {T : Ty} {R : Rm} {a0 : Nat} {M : Mm} {r : Int32} {M9 : Mm} (h : fn_X7_oldest T R a0 M = some (r, M9)) : Ct QcI l yX7_oldest cX7_oldest 2 (some .int) rm_X7_oldest D cy T M R [.ref a0] M9 R r := by
  unfold fn_X7_oldest at h
  refine enter (plainFor_of_name (by decide +kernel)) (Nat.le_of_ble_eq_true rfl) (fun p e s m args below meth c A C hP hD hS ls hl => ?_)
  have hl : lv_has ls 2 [(0, .ref a0)] := hl
  obtain ⟨hx, hb, hr, hml, hown, hts, hK, hA, hlk, hSt⟩ := id C
  refine lv_iconst (v := 0) hx hb dX7_oldest_0 (by decide) ?_
  refine lv_istore_n (lv' := [(1, .int (0 : Int32)), (0, .ref a0)]) hx hb dX7_oldest_1 rfl hl (by decide) rfl (fun ls hl => ?_)
  exact (bt_X7_oldest_2 C FU) _ _ _ _ h hP hD hS _ (lv_sub hl [1, 0] rfl)
abbrev rm_X7_brought : Room := { frames := 2, cells := 0, slots := 0, locals := 45 }
theorem hd_X7_brought : yX7_brought.cls = RX7 ∧ yX7_brought.cls ≠ "java/lang/invoke/MethodHandle" ∧ yX7_brought.cls ≠ "java/lang/invoke/VarHandle" ∧ (parseMethodDescriptor yX7_brought.desc).map (fun d => d.parameters.length) = some 1 := ⟨rfl, by decide +kernel, by decide +kernel, by decide +kernel⟩
set_option maxHeartbeats 4000000 in
set_option maxRecDepth 100000 in
theorem ct_X7_brought {l : Launch} {D : va_G} {cy : Cy} {T : Ty} {R : Rm} {a0 : Nat} {x1 : Int32} {M : Mm} {r : Int32} {M9 : Mm} (h : fn_X7_brought T R a0 x1 M = some (r, M9)) : Ct QcI l yX7_brought cX7_brought 2 (some .int) rm_X7_brought D cy T M R [.ref a0, .int x1] M9 R r := by
  unfold fn_X7_brought at h
  refine enter (plainFor_of_name (by decide +kernel)) (Nat.le_of_ble_eq_true rfl) (fun p e s m args below meth c A C hP hD hS ls hl => ?_)
  have hl : lv_has ls 2 [(0, .ref a0), (1, .int x1)] := hl
  obtain ⟨hx, hb, hr, hml, hown, hts, hK, hA, hlk, hSt⟩ := id C
  refine lv_iload_n hx hb dX7_brought_0 rfl (lv_at hl 1 rfl) ?_
  by_cases q_1 : x1 = 0
  · replace h := ite_t h q_1
    refine lv_tableIn (off := 31) (tgt := 32) hx hb dX7_brought_1 (by rw [q_1]; decide) (by rw [q_1]; decide) (by rw [q_1]; rfl) (by decide) ?_
    refine lv_aload_n hx hb dX7_brought_32 rfl (lv_at hl 0 rfl) ?_
    obtain ⟨k_2, h⟩ := chk_some h
    obtain ⟨b_3, eb_3, h⟩ := rfm_some h
    refine gf_7_0 C hP k_2 eb_3 wl_100 dX7_brought_33 ?_
    refine lv_bipush (v := 10) hx hb dX7_brought_36 (by decide) ?_
    obtain ⟨k_4, h⟩ := chk_some h
    obtain ⟨k_5, h⟩ := chk_some h
    refine ar_9 C hP k_4 k_5 dX7_brought_38 ?_
    refine lv_aload_n hx hb dX7_brought_39 rfl (lv_at hl 0 rfl) ?_
    obtain ⟨r_6, M_7, hc_8, h⟩ := cal_some h
    refine cl_Vi (As := []) (rest := [.int (gI M b_3 (10 : Int32).toNatClampNeg)]) C (ct_X7_allOfBands hc_8) k_2 (by decide) rfl wl_416 wl_417 wl_418 wl_5 wl_419 hd_X7_allOfBands ⟨Nat.le_of_ble_eq_true rfl, Nat.le_of_ble_eq_true rfl⟩ ⟨rfl, rfl⟩ ⟨Nat.zero_le _, Nat.zero_le _⟩ rfl (Nat.le_of_ble_eq_true rfl) rfl hl.1 hP hD hS dX7_brought_40 (fun H locs hP hD hS => ?_)
    refine lv_iadd hx hb dX7_brought_43 ?_
    cases h
    exact rt_i C hP hD hS dX7_brought_44
  · replace h := ite_f h q_1
    by_cases q_9 : x1 = 1
    · replace h := ite_t h q_9
      refine lv_tableIn (off := 44) (tgt := 45) hx hb dX7_brought_1 (by rw [q_9]; decide) (by rw [q_9]; decide) (by rw [q_9]; rfl) (by decide) ?_
      refine lv_aload_n hx hb dX7_brought_45 rfl (lv_at hl 0 rfl) ?_
      obtain ⟨k_10, h⟩ := chk_some h
      obtain ⟨b_11, eb_11, h⟩ := rfm_some h
      refine gf_7_0 C hP k_10 eb_11 wl_100 dX7_brought_46 ?_
      refine lv_bipush (v := 12) hx hb dX7_brought_49 (by decide) ?_
      obtain ⟨k_12, h⟩ := chk_some h
      obtain ⟨k_13, h⟩ := chk_some h
      refine ar_9 C hP k_12 k_13 dX7_brought_51 ?_
      refine lv_aload_n hx hb dX7_brought_52 rfl (lv_at hl 0 rfl) ?_
      obtain ⟨b_14, eb_14, h⟩ := rfm_some h
      refine gf_7_3 C hP k_10 eb_14 wl_104 dX7_brought_53 ?_
      refine lv_bipush (v := 12) hx hb dX7_brought_56 (by decide) ?_
      obtain ⟨k_15, h⟩ := chk_some h
      obtain ⟨k_16, h⟩ := chk_some h
      refine ar_9 C hP k_15 k_16 dX7_brought_58 ?_
      refine lv_isub hx hb dX7_brought_59 ?_
      cases h
      exact rt_i C hP hD hS dX7_brought_60
    · replace h := ite_f h q_9
      by_cases q_17 : x1 = 2
      · replace h := ite_t h q_17
        refine lv_tableIn (off := 60) (tgt := 61) hx hb dX7_brought_1 (by rw [q_17]; decide) (by rw [q_17]; decide) (by rw [q_17]; rfl) (by decide) ?_
        refine lv_aload_n hx hb dX7_brought_61 rfl (lv_at hl 0 rfl) ?_
        obtain ⟨k_18, h⟩ := chk_some h
        obtain ⟨b_19, eb_19, h⟩ := rfm_some h
        refine gf_7_2 C hP k_18 eb_19 wl_103 dX7_brought_62 ?_
        refine lv_iconst (v := 2) hx hb dX7_brought_65 (by decide) ?_
        obtain ⟨k_20, h⟩ := chk_some h
        obtain ⟨k_21, h⟩ := chk_some h
        refine ar_10 C hP k_20 k_21 dX7_brought_66 ?_
        refine lv_aload_n hx hb dX7_brought_67 rfl (lv_at hl 0 rfl) ?_
        obtain ⟨b_22, eb_22, h⟩ := rfm_some h
        refine gf_7_5 C hP k_18 eb_22 wl_106 dX7_brought_68 ?_
        refine lv_iconst (v := 2) hx hb dX7_brought_71 (by decide) ?_
        obtain ⟨k_23, h⟩ := chk_some h
        obtain ⟨k_24, h⟩ := chk_some h
        refine ar_10 C hP k_23 k_24 dX7_brought_72 ?_
        refine lv_lsub hx hb dX7_brought_73 ?_
        refine lv_l2i hx hb dX7_brought_74 rfl ?_
        cases h
        exact rt_i C hP hD hS dX7_brought_75
      · replace h := ite_f h q_17
        by_cases q_25 : x1 = 3
        · replace h := ite_t h q_25
          refine lv_tableIn (off := 75) (tgt := 76) hx hb dX7_brought_1 (by rw [q_25]; decide) (by rw [q_25]; decide) (by rw [q_25]; rfl) (by decide) ?_
          refine lv_aload_n hx hb dX7_brought_76 rfl (lv_at hl 0 rfl) ?_
          obtain ⟨k_26, h⟩ := chk_some h
          obtain ⟨r_27, M_28, hc_29, h⟩ := cal_some h
          refine cl_Vi (As := []) (rest := []) C (ct_X7_standing hc_29) k_26 (by decide) rfl wl_450 wl_451 wl_452 wl_5 wl_453 hd_X7_standing ⟨Nat.le_of_ble_eq_true rfl, Nat.le_of_ble_eq_true rfl⟩ ⟨rfl, rfl⟩ ⟨Nat.zero_le _, Nat.zero_le _⟩ rfl (Nat.le_of_ble_eq_true rfl) rfl hl.1 hP hD hS dX7_brought_77 (fun H locs hP hD hS => ?_)
          cases h
          exact rt_i C hP hD hS dX7_brought_80
        · replace h := ite_f h q_25
          refine lv_tableOut (tgt := 81) hx hb dX7_brought_1 (by have zq_1 := i32ne (k := 0) q_1 (by decide); have zq_9 := i32ne (k := 1) q_9 (by decide); have zq_17 := i32ne (k := 2) q_17 (by decide); have zq_25 := i32ne (k := 3) q_25 (by decide); omega) (by decide) ?_
          refine lv_aload_n hx hb dX7_brought_81 rfl (lv_at hl 0 rfl) ?_
          obtain ⟨k_30, h⟩ := chk_some h
          obtain ⟨r_31, M_32, hc_33, h⟩ := cal_some h
          refine cl_Vi (As := []) (rest := []) C (ct_X7_oldest hc_33) k_30 (by decide) rfl wl_656 wl_657 wl_658 wl_5 wl_659 hd_X7_oldest ⟨Nat.le_of_ble_eq_true rfl, Nat.le_of_ble_eq_true rfl⟩ ⟨rfl, rfl⟩ ⟨Nat.zero_le _, Nat.zero_le _⟩ rfl (Nat.le_of_ble_eq_true rfl) rfl hl.1 hP hD hS dX7_brought_82 (fun H locs hP hD hS => ?_)
          cases h
          exact rt_i C hP hD hS dX7_brought_85
abbrev rm_X7_ifYears : Room := { frames := 5, cells := 0, slots := 0, locals := 114 }
theorem hd_X7_ifYears : yX7_ifYears.cls = RX7 ∧ yX7_ifYears.cls ≠ "java/lang/invoke/MethodHandle" ∧ yX7_ifYears.cls ≠ "java/lang/invoke/VarHandle" ∧ (parseMethodDescriptor yX7_ifYears.desc).map (fun d => d.parameters.length) = some 2 := ⟨rfl, by decide +kernel, by decide +kernel, by decide +kernel⟩
set_option maxHeartbeats 4000000 in
set_option maxRecDepth 100000 in
theorem ct_X7_ifYears {l : Launch} {D : va_G} {cy : Cy} {T : Ty} {R : Rm} {a0 : Nat} {x1 : Int32} {x2 : Int32} {M : Mm} {r : Int32} {M9 : Mm} (h : fn_X7_ifYears T R a0 x1 x2 M = some (r, M9)) : Ct QcI l yX7_ifYears cX7_ifYears 4 (some .int) rm_X7_ifYears D cy T M R [.ref a0, .int x1, .int x2] M9 R r := by
  unfold fn_X7_ifYears at h
  refine enter (plainFor_of_name (by decide +kernel)) (Nat.le_of_ble_eq_true rfl) (fun p e s m args below meth c A C hP hD hS ls hl => ?_)
  have hl : lv_has ls 4 [(0, .ref a0), (1, .int x1), (2, .int x2)] := hl
  obtain ⟨hx, hb, hr, hml, hown, hts, hK, hA, hlk, hSt⟩ := id C
  refine lv_iload_n hx hb dX7_ifYears_0 rfl (lv_at hl 1 rfl) ?_
  refine lv_iconst (v := 1) hx hb dX7_ifYears_1 (by decide) ?_
  refine lv_bipush (v := 100) hx hb dX7_ifYears_2 (by decide) ?_
  obtain ⟨r_1, M_2, hc_3, h⟩ := cal_some h
  refine cl_Si (As := [.int x1, .int (1 : Int32), .int (100 : Int32)]) (rest := []) C (ct_X7_in hc_3) wl_165 wl_166 wl_5 wl_167 hd_X7_in ⟨Nat.le_of_ble_eq_true rfl, Nat.le_of_ble_eq_true rfl⟩ ⟨rfl, rfl⟩ ⟨Nat.zero_le _, Nat.zero_le _⟩ rfl (Nat.le_of_ble_eq_true rfl) rfl hl.1 hP hD hS dX7_ifYears_4 (fun H locs hP hD hS => ?_)
  refine lv_if_eq (tgt := 19) hx hb dX7_ifYears_7 (by decide) (fun c_4 => ?_) (fun c_4 => ?_)
  · replace h := ite_t h c_4
    refine lv_ldc (own := RX7) (v := -2000000001) hx hb hown (hts _ wl_160) dX7_ifYears_19 ?_
    cases h
    exact rt_i C hP hD hS dX7_ifYears_21
  · replace h := ite_f h c_4
    refine lv_iload_n hx hb dX7_ifYears_10 rfl (lv_at hl 2 rfl) ?_
    refine lv_iconst (v := 0) hx hb dX7_ifYears_11 (by decide) ?_
    refine lv_iconst (v := 4) hx hb dX7_ifYears_12 (by decide) ?_
    obtain ⟨r_5, M_6, hc_7, h⟩ := cal_some h
    refine cl_Si (As := [.int x2, .int (0 : Int32), .int (4 : Int32)]) (rest := []) C (ct_X7_in hc_7) wl_165 wl_166 wl_5 wl_167 hd_X7_in ⟨Nat.le_of_ble_eq_true rfl, Nat.le_of_ble_eq_true rfl⟩ ⟨rfl, rfl⟩ ⟨Nat.zero_le _, Nat.zero_le _⟩ rfl (Nat.le_of_ble_eq_true rfl) rfl hl.1 hP hD hS dX7_ifYears_13 (fun H locs hP hD hS => ?_)
    refine lv_if_ne (tgt := 22) hx hb dX7_ifYears_16 (by decide) (fun c_8 => ?_) (fun c_8 => ?_)
    · replace h := ite_f h c_8
      refine lv_aload_n hx hb dX7_ifYears_22 rfl (lv_at hl 0 rfl) ?_
      obtain ⟨k_9, h⟩ := chk_some h
      obtain ⟨b_10, eb_10, h⟩ := rfm_some h
      refine gf_7_0 C hP k_9 eb_10 wl_100 dX7_ifYears_23 ?_
      refine lv_bipush (v := 8) hx hb dX7_ifYears_26 (by decide) ?_
      obtain ⟨k_11, h⟩ := chk_some h
      obtain ⟨k_12, h⟩ := chk_some h
      refine ar_9 C hP k_11 k_12 dX7_ifYears_28 ?_
      refine lv_if_ne (tgt := 35) hx hb dX7_ifYears_29 (by decide) (fun c_13 => ?_) (fun c_13 => ?_)
      · replace h := ite_f h c_13
        refine lv_aload_n hx hb dX7_ifYears_35 rfl (lv_at hl 0 rfl) ?_
        obtain ⟨r_14, M_15, hc_16, h⟩ := cal_some h
        refine cl_Vv (As := []) (rest := []) C (ct_X7_setAside hc_16) k_9 (by decide) rfl wl_648 wl_649 wl_650 wl_5 wl_651 hd_X7_setAside ⟨Nat.le_of_ble_eq_true rfl, Nat.le_of_ble_eq_true rfl⟩ ⟨rfl, rfl⟩ ⟨Nat.zero_le _, Nat.zero_le _⟩ rfl (Nat.le_of_ble_eq_true rfl) rfl hl.1 hP hD hS dX7_ifYears_36 (fun H locs hP hD hS => ?_)
        refine lv_aload_n hx hb dX7_ifYears_39 rfl (lv_at hl 0 rfl) ?_
        refine lv_iload_n hx hb dX7_ifYears_40 rfl (lv_at hl 1 rfl) ?_
        obtain ⟨r_17, M_18, hc_19, h⟩ := cal_some h
        refine cl_Vv (As := [.int x1]) (rest := []) C (ct_X7_goOn hc_19) k_9 (by decide) rfl wl_604 wl_605 wl_606 wl_5 wl_607 hd_X7_goOn ⟨Nat.le_of_ble_eq_true rfl, Nat.le_of_ble_eq_true rfl⟩ ⟨rfl, rfl⟩ ⟨Nat.zero_le _, Nat.zero_le _⟩ rfl (Nat.le_of_ble_eq_true rfl) rfl hl.1 hP hD hS dX7_ifYears_41 (fun H locs hP hD hS => ?_)
        refine lv_aload_n hx hb dX7_ifYears_44 rfl (lv_at hl 0 rfl) ?_
        refine lv_iload_n hx hb dX7_ifYears_45 rfl (lv_at hl 2 rfl) ?_
        obtain ⟨r_20, M_21, hc_22, h⟩ := cal_some h
        refine cl_Vi (As := [.int x2]) (rest := []) C (ct_X7_brought hc_22) k_9 (by decide) rfl wl_652 wl_653 wl_654 wl_5 wl_655 hd_X7_brought ⟨Nat.le_of_ble_eq_true rfl, Nat.le_of_ble_eq_true rfl⟩ ⟨rfl, rfl⟩ ⟨Nat.zero_le _, Nat.zero_le _⟩ rfl (Nat.le_of_ble_eq_true rfl) rfl hl.1 hP hD hS dX7_ifYears_46 (fun H locs hP hD hS => ?_)
        refine lv_istore_n (lv' := [(3, .int r_20), (0, .ref a0), (1, .int x1), (2, .int x2)]) hx hb dX7_ifYears_49 rfl hl (by decide) rfl (fun ls hl => ?_)
        refine lv_aload_n hx hb dX7_ifYears_50 rfl (lv_at hl 1 rfl) ?_
        obtain ⟨r_23, M_24, hc_25, h⟩ := cal_some h
        refine cl_Vv (As := []) (rest := []) C (ct_X7_bringBack hc_25) k_9 (by decide) rfl wl_660 wl_661 wl_662 wl_5 wl_663 hd_X7_bringBack ⟨Nat.le_of_ble_eq_true rfl, Nat.le_of_ble_eq_true rfl⟩ ⟨rfl, rfl⟩ ⟨Nat.zero_le _, Nat.zero_le _⟩ rfl (Nat.le_of_ble_eq_true rfl) rfl hl.1 hP hD hS dX7_ifYears_51 (fun H locs hP hD hS => ?_)
        refine lv_iload_n hx hb dX7_ifYears_54 rfl (lv_at hl 0 rfl) ?_
        cases h
        exact rt_i C hP hD hS dX7_ifYears_55
      · replace h := ite_t h c_13
        refine lv_ldc (own := RX7) (v := -2000000002) hx hb hown (hts _ wl_238) dX7_ifYears_32 ?_
        cases h
        exact rt_i C hP hD hS dX7_ifYears_34
    · replace h := ite_t h c_8
      refine lv_ldc (own := RX7) (v := -2000000001) hx hb hown (hts _ wl_160) dX7_ifYears_19 ?_
      cases h
      exact rt_i C hP hD hS dX7_ifYears_21
abbrev rm_X7_isSo : Room := { frames := 2, cells := 0, slots := 0, locals := 45 }
theorem hd_X7_isSo : yX7_isSo.cls = RX7 ∧ yX7_isSo.cls ≠ "java/lang/invoke/MethodHandle" ∧ yX7_isSo.cls ≠ "java/lang/invoke/VarHandle" ∧ (parseMethodDescriptor yX7_isSo.desc).map (fun d => d.parameters.length) = some 2 := ⟨rfl, by decide +kernel, by decide +kernel, by decide +kernel⟩
set_option maxHeartbeats 4000000 in
set_option maxRecDepth 100000 in
theorem ct_X7_isSo {l : Launch} {D : va_G} {cy : Cy} {T : Ty} {R : Rm} {a0 : Nat} {x1 : Int32} {x2 : Int32} {M : Mm} {r : Int32} {M9 : Mm} (h : fn_X7_isSo T R a0 x1 x2 M = some (r, M9)) : Ct QcI l yX7_isSo cX7_isSo 3 (some .boolean) rm_X7_isSo D cy T M R [.ref a0, .int x1, .int x2] M9 R r := by
  unfold fn_X7_isSo at h
  refine enter (plainFor_of_name (by decide +kernel)) (Nat.le_of_ble_eq_true rfl) (fun p e s m args below meth c A C hP hD hS ls hl => ?_)
  have hl : lv_has ls 3 [(0, .ref a0), (1, .int x1), (2, .int x2)] := hl
  obtain ⟨hx, hb, hr, hml, hown, hts, hK, hA, hlk, hSt⟩ := id C
  refine lv_iload_n hx hb dX7_isSo_0 rfl (lv_at hl 1 rfl) ?_
  refine lv_if_ne (tgt := 23) hx hb dX7_isSo_1 (by decide) (fun c_1 => ?_) (fun c_1 => ?_)
  · replace h := ite_f h c_1
    refine lv_iload_n hx hb dX7_isSo_23 rfl (lv_at hl 1 rfl) ?_
    refine lv_iconst (v := 1) hx hb dX7_isSo_24 (by decide) ?_
    refine lv_icmp_ne (tgt := 43) hx hb dX7_isSo_25 (by decide) (fun c_2 => ?_) (fun c_2 => ?_)
    · replace h := ite_f h c_2
      refine lv_aload_n hx hb dX7_isSo_43 rfl (lv_at hl 0 rfl) ?_
      obtain ⟨k_3, h⟩ := chk_some h
      obtain ⟨r_4, M_5, hc_6, h⟩ := cal_some h
      refine cl_Vi (As := []) (rest := []) C (ct_X7_standing hc_6) k_3 (by decide) rfl wl_450 wl_451 wl_452 wl_5 wl_453 hd_X7_standing ⟨Nat.le_of_ble_eq_true rfl, Nat.le_of_ble_eq_true rfl⟩ ⟨rfl, rfl⟩ ⟨Nat.zero_le _, Nat.zero_le _⟩ rfl (Nat.le_of_ble_eq_true rfl) rfl hl.1 hP hD hS dX7_isSo_44 (fun H locs hP hD hS => ?_)
      refine lv_if_ne (tgt := 54) hx hb dX7_isSo_47 (by decide) (fun c_7 => ?_) (fun c_7 => ?_)
      · replace h := ite_f h c_7
        refine lv_iconst (v := 0) hx hb dX7_isSo_54 (by decide) ?_
        cases h
        exact rt_z C hP hD hS rfl dX7_isSo_55
      · replace h := ite_t h c_7
        refine lv_iconst (v := 1) hx hb dX7_isSo_50 (by decide) ?_
        refine lv_goto (tgt := 55) hx hb dX7_isSo_51 (by decide) ?_
        cases h
        exact rt_z C hP hD hS rfl dX7_isSo_55
    · replace h := ite_t h c_2
      refine lv_aload_n hx hb dX7_isSo_28 rfl (lv_at hl 0 rfl) ?_
      obtain ⟨k_8, h⟩ := chk_some h
      obtain ⟨r_9, M_10, hc_11, h⟩ := cal_some h
      refine cl_Vi (As := []) (rest := []) C (ct_X7_allOfBands hc_11) k_8 (by decide) rfl wl_416 wl_417 wl_418 wl_5 wl_419 hd_X7_allOfBands ⟨Nat.le_of_ble_eq_true rfl, Nat.le_of_ble_eq_true rfl⟩ ⟨rfl, rfl⟩ ⟨Nat.zero_le _, Nat.zero_le _⟩ rfl (Nat.le_of_ble_eq_true rfl) rfl hl.1 hP hD hS dX7_isSo_29 (fun H locs hP hD hS => ?_)
      refine lv_if_ne (tgt := 39) hx hb dX7_isSo_32 (by decide) (fun c_12 => ?_) (fun c_12 => ?_)
      · replace h := ite_f h c_12
        refine lv_iconst (v := 0) hx hb dX7_isSo_39 (by decide) ?_
        refine lv_goto (tgt := 55) hx hb dX7_isSo_40 (by decide) ?_
        cases h
        exact rt_z C hP hD hS rfl dX7_isSo_55
      · replace h := ite_t h c_12
        refine lv_iconst (v := 1) hx hb dX7_isSo_35 (by decide) ?_
        refine lv_goto (tgt := 55) hx hb dX7_isSo_36 (by decide) ?_
        cases h
        exact rt_z C hP hD hS rfl dX7_isSo_55
  · replace h := ite_t h c_1
    refine lv_aload_n hx hb dX7_isSo_4 rfl (lv_at hl 0 rfl) ?_
    obtain ⟨k_13, h⟩ := chk_some h
    obtain ⟨b_14, eb_14, h⟩ := rfm_some h
    refine gf_7_0 C hP k_13 eb_14 wl_100 dX7_isSo_5 ?_
    refine lv_bipush (v := 12) hx hb dX7_isSo_8 (by decide) ?_
    obtain ⟨k_15, h⟩ := chk_some h
    obtain ⟨k_16, h⟩ := chk_some h
    refine ar_9 C hP k_15 k_16 dX7_isSo_10 ?_
    refine lv_iload_n hx hb dX7_isSo_11 rfl (lv_at hl 2 rfl) ?_
    refine lv_icmp_le (tgt := 19) hx hb dX7_isSo_12 (by decide) (fun c_17 => ?_) (fun c_17 => ?_)
    · replace h := ite_t h c_17
      refine lv_iconst (v := 0) hx hb dX7_isSo_19 (by decide) ?_
      refine lv_goto (tgt := 55) hx hb dX7_isSo_20 (by decide) ?_
      cases h
      exact rt_z C hP hD hS rfl dX7_isSo_55
    · replace h := ite_f h c_17
      refine lv_iconst (v := 1) hx hb dX7_isSo_15 (by decide) ?_
      refine lv_goto (tgt := 55) hx hb dX7_isSo_16 (by decide) ?_
      cases h
      exact rt_z C hP hD hS rfl dX7_isSo_55
abbrev rm_X7_yearsTo : Room := { frames := 4, cells := 0, slots := 0, locals := 92 }
theorem hd_X7_yearsTo : yX7_yearsTo.cls = RX7 ∧ yX7_yearsTo.cls ≠ "java/lang/invoke/MethodHandle" ∧ yX7_yearsTo.cls ≠ "java/lang/invoke/VarHandle" ∧ (parseMethodDescriptor yX7_yearsTo.desc).map (fun d => d.parameters.length) = some 1 := ⟨rfl, by decide +kernel, by decide +kernel, by decide +kernel⟩
set_option maxHeartbeats 4000000 in
set_option maxRecDepth 100000 in
theorem bs_X7_yearsTo_83 {p : Program} {l : Launch} {e : Env} {s : State} {m : MethodId} {args : Array Value} {below : List Frame} {meth : Method} {c : Code} {D : va_G} {cy : Cy} {A : Nat → Prop} {T : Ty} {R : Rm} {r : Int32} {M9 : Mm} {a0 : Nat} {x1 : Int32} (C : Cx RX7 cX7_yearsTo 5 (some .int) p s m args meth c D cy A) :
    ∀ (x2 : Int32) (M : Mm) (H : Heap) (locs : List Loc), fs_X7_yearsTo_83 T R a0 x1 x2 M = some (r, M9) → va_P D vwCl (WL cy T M R) H → va_D A (WL cy T M R) → va_S A s.heap H locs → ∀ ls : Array Slot, lv_has ls 5 [(0, .ref a0), (2, .int x2)] → W p l e rm_X7_yearsTo s m args below meth c H locs 0 0 (MQ below (QcI D cy T M9 R A r) args s 0 0 A) (F0 m 83 ls []) := by
  intro x2 M H locs h hP hD hS ls hl
  unfold fs_X7_yearsTo_83 at h
  obtain ⟨hx, hb, hr, hml, hown, hts, hK, hA, hlk, hSt⟩ := id C
  refine lv_aload_n hx hb dX7_yearsTo_83 rfl (lv_at hl 0 rfl) ?_
  obtain ⟨k_1, h⟩ := chk_some h
  obtain ⟨r_2, M_3, hc_4, h⟩ := cal_some h
  refine cl_Vv (As := []) (rest := []) C (ct_X7_bringBack hc_4) k_1 (by decide) rfl wl_660 wl_661 wl_662 wl_5 wl_663 hd_X7_bringBack ⟨Nat.le_of_ble_eq_true rfl, Nat.le_of_ble_eq_true rfl⟩ ⟨rfl, rfl⟩ ⟨Nat.zero_le _, Nat.zero_le _⟩ rfl (Nat.le_of_ble_eq_true rfl) rfl hl.1 hP hD hS dX7_yearsTo_84 (fun H locs hP hD hS => ?_)
  refine lv_iload_n hx hb dX7_yearsTo_87 rfl (lv_at hl 1 rfl) ?_
  cases h
  exact rt_i C hP hD hS dX7_yearsTo_88
set_option maxHeartbeats 4000000 in
set_option maxRecDepth 100000 in
theorem bs_X7_yearsTo_76 {p : Program} {l : Launch} {e : Env} {s : State} {m : MethodId} {args : Array Value} {below : List Frame} {meth : Method} {c : Code} {D : va_G} {cy : Cy} {A : Nat → Prop} {T : Ty} {R : Rm} {r : Int32} {M9 : Mm} {a0 : Nat} {x1 : Int32} {j34 : Int32 → Int32 → Mm → Option (Int32 × Mm)} (C : Cx RX7 cX7_yearsTo 5 (some .int) p s m args meth c D cy A)
    (hj34 : ∀ (x2 : Int32) (x3 : Int32) (M : Mm) (H : Heap) (locs : List Loc), j34 x2 x3 M = some (r, M9) → va_P D vwCl (WL cy T M R) H → va_D A (WL cy T M R) → va_S A s.heap H locs → ∀ ls : Array Slot, lv_has ls 5 [(0, .ref a0), (1, .int x1), (2, .int x2), (3, .int x3)] → W p l e rm_X7_yearsTo s m args below meth c H locs 0 0 (MQ below (QcI D cy T M9 R A r) args s 0 0 A) (F0 m 34 ls [])) :
    ∀ (x3 : Int32) (s0 : Int32) (M : Mm) (H : Heap) (locs : List Loc), fs_X7_yearsTo_76 T R a0 x1 j34 x3 s0 M = some (r, M9) → va_P D vwCl (WL cy T M R) H → va_D A (WL cy T M R) → va_S A s.heap H locs → ∀ ls : Array Slot, lv_has ls 5 [(0, .ref a0), (1, .int x1), (3, .int x3)] → W p l e rm_X7_yearsTo s m args below meth c H locs 0 0 (MQ below (QcI D cy T M9 R A r) args s 0 0 A) (F0 m 76 ls [.int s0]) := by
  intro x3 s0 M H locs h hP hD hS ls hl
  unfold fs_X7_yearsTo_76 at h
  obtain ⟨hx, hb, hr, hml, hown, hts, hK, hA, hlk, hSt⟩ := id C
  refine lv_istore_n (lv' := [(2, .int s0), (0, .ref a0), (1, .int x1), (3, .int x3)]) hx hb dX7_yearsTo_76 rfl hl (by decide) rfl (fun ls hl => ?_)
  obtain ⟨v_5, ev_5⟩ : ∃ y : Int32, y = (x3 + (1 : Int32)) := ⟨_, rfl⟩
  replace h := bnd_at h ev_5
  refine lv_iinc (v := v_5) (lv' := [(3, .int v_5), (2, .int s0), (0, .ref a0), (1, .int x1)]) hx hb dX7_yearsTo_77 hl (k := 3) rfl (by rw [ev_5]; rfl) (by decide) rfl (fun ls hl => ?_)
  refine lv_goto (tgt := 34) hx hb dX7_yearsTo_80 (by decide) ?_
  exact hj34 _ _ _ _ _ h hP hD hS _ (lv_sub hl [2, 3, 1, 0] rfl)
set_option maxHeartbeats 4000000 in
set_option maxRecDepth 100000 in
theorem bs_X7_yearsTo_34 {p : Program} {l : Launch} {e : Env} {s : State} {m : MethodId} {args : Array Value} {below : List Frame} {meth : Method} {c : Code} {D : va_G} {cy : Cy} {A : Nat → Prop} {T : Ty} {R : Rm} {r : Int32} {M9 : Mm} {a0 : Nat} {x1 : Int32} {j34 : Int32 → Int32 → Mm → Option (Int32 × Mm)} {j83 : Int32 → Mm → Option (Int32 × Mm)} (C : Cx RX7 cX7_yearsTo 5 (some .int) p s m args meth c D cy A)
    (hj34 : ∀ (x2 : Int32) (x3 : Int32) (M : Mm) (H : Heap) (locs : List Loc), j34 x2 x3 M = some (r, M9) → va_P D vwCl (WL cy T M R) H → va_D A (WL cy T M R) → va_S A s.heap H locs → ∀ ls : Array Slot, lv_has ls 5 [(0, .ref a0), (1, .int x1), (2, .int x2), (3, .int x3)] → W p l e rm_X7_yearsTo s m args below meth c H locs 0 0 (MQ below (QcI D cy T M9 R A r) args s 0 0 A) (F0 m 34 ls []))
    (hj83 : ∀ (x2 : Int32) (M : Mm) (H : Heap) (locs : List Loc), j83 x2 M = some (r, M9) → va_P D vwCl (WL cy T M R) H → va_D A (WL cy T M R) → va_S A s.heap H locs → ∀ ls : Array Slot, lv_has ls 5 [(0, .ref a0), (2, .int x2)] → W p l e rm_X7_yearsTo s m args below meth c H locs 0 0 (MQ below (QcI D cy T M9 R A r) args s 0 0 A) (F0 m 83 ls [])) :
    ∀ (x2 : Int32) (x3 : Int32) (M : Mm) (H : Heap) (locs : List Loc), fs_X7_yearsTo_34 T R a0 x1 j34 j83 x2 x3 M = some (r, M9) → va_P D vwCl (WL cy T M R) H → va_D A (WL cy T M R) → va_S A s.heap H locs → ∀ ls : Array Slot, lv_has ls 5 [(0, .ref a0), (1, .int x1), (2, .int x2), (3, .int x3)] → W p l e rm_X7_yearsTo s m args below meth c H locs 0 0 (MQ below (QcI D cy T M9 R A r) args s 0 0 A) (F0 m 34 ls []) := by
  intro x2 x3 M H locs h hP hD hS ls hl
  unfold fs_X7_yearsTo_34 at h
  obtain ⟨hx, hb, hr, hml, hown, hts, hK, hA, hlk, hSt⟩ := id C
  refine lv_iload_n hx hb dX7_yearsTo_34 rfl (lv_at hl 3 rfl) ?_
  refine lv_sipush (v := 300) hx hb dX7_yearsTo_35 (by decide) ?_
  refine lv_icmp_gt (tgt := 83) hx hb dX7_yearsTo_38 (by decide) (fun c_6 => ?_) (fun c_6 => ?_)
  · replace h := ite_t h c_6
    exact hj83 _ _ _ _ h hP hD hS _ (lv_sub hl [0, 2] rfl)
  · replace h := ite_f h c_6
    refine lv_iload_n hx hb dX7_yearsTo_41 rfl (lv_at hl 2 rfl) ?_
    refine lv_ldc (own := RX7) (v := -2000000004) hx hb hown (hts _ wl_324) dX7_yearsTo_42 ?_
    refine lv_icmp_ne (tgt := 83) hx hb dX7_yearsTo_44 (by decide) (fun c_7 => ?_) (fun c_7 => ?_)
    · replace h := ite_f h c_7
      exact hj83 _ _ _ _ h hP hD hS _ (lv_sub hl [0, 2] rfl)
    · replace h := ite_t h c_7
      refine lv_aload_n hx hb dX7_yearsTo_47 rfl (lv_at hl 0 rfl) ?_
      obtain ⟨k_8, h⟩ := chk_some h
      obtain ⟨b_9, eb_9, h⟩ := rfm_some h
      refine gf_7_0 C hP k_8 eb_9 wl_100 dX7_yearsTo_48 ?_
      refine lv_bipush (v := 12) hx hb dX7_yearsTo_51 (by decide) ?_
      obtain ⟨k_10, h⟩ := chk_some h
      obtain ⟨k_11, h⟩ := chk_some h
      refine ar_9 C hP k_10 k_11 dX7_yearsTo_53 ?_
      refine lv_topi (fun v_12 ev_12 => ?_)
      replace h := bnd_at h ev_12
      refine lv_istore (lv' := [(4, .int v_12), (0, .ref a0), (1, .int x1), (2, .int x2), (3, .int x3)]) hx hb dX7_yearsTo_54 hl (by decide) rfl (fun ls hl => ?_)
      refine lv_aload_n hx hb dX7_yearsTo_56 rfl (lv_at hl 1 rfl) ?_
      obtain ⟨r_13, M_14, hc_15, h⟩ := cal_some h
      refine cl_Vv (As := []) (rest := []) C (ct_X7_year hc_15) k_8 (by decide) rfl wl_608 wl_609 wl_610 wl_5 wl_611 hd_X7_year ⟨Nat.le_of_ble_eq_true rfl, Nat.le_of_ble_eq_true rfl⟩ ⟨rfl, rfl⟩ ⟨Nat.zero_le _, Nat.zero_le _⟩ rfl (Nat.le_of_ble_eq_true rfl) rfl hl.1 hP hD hS dX7_yearsTo_57 (fun H locs hP hD hS => ?_)
      refine lv_aload_n hx hb dX7_yearsTo_60 rfl (lv_at hl 1 rfl) ?_
      refine lv_iload_n hx hb dX7_yearsTo_61 rfl (lv_at hl 2 rfl) ?_
      refine lv_iload hx hb dX7_yearsTo_62 (lv_at hl 0 rfl) ?_
      obtain ⟨r_16, M_17, hc_18, h⟩ := cal_some h
      refine cl_Vi (As := [.int x1, .int v_12]) (rest := []) C (ct_X7_isSo hc_18) k_8 (by decide) rfl wl_677 wl_678 wl_679 wl_5 wl_680 hd_X7_isSo ⟨Nat.le_of_ble_eq_true rfl, Nat.le_of_ble_eq_true rfl⟩ ⟨rfl, rfl⟩ ⟨Nat.zero_le _, Nat.zero_le _⟩ rfl (Nat.le_of_ble_eq_true rfl) rfl hl.1 hP hD hS dX7_yearsTo_64 (fun H locs hP hD hS => ?_)
      refine lv_if_eq (tgt := 74) hx hb dX7_yearsTo_67 (by decide) (fun c_19 => ?_) (fun c_19 => ?_)
      · replace h := ite_t h c_19
        refine lv_ldc (own := RX7) (v := -2000000004) hx hb hown (hts _ wl_324) dX7_yearsTo_74 ?_
        exact (bs_X7_yearsTo_76 C hj34) _ _ _ _ _ h hP hD hS _ (lv_sub hl [1, 2, 4] rfl)
      · replace h := ite_f h c_19
        refine lv_iload_n hx hb dX7_yearsTo_70 rfl (lv_at hl 4 rfl) ?_
        refine lv_goto (tgt := 76) hx hb dX7_yearsTo_71 (by decide) ?_
        exact (bs_X7_yearsTo_76 C hj34) _ _ _ _ _ h hP hD hS _ (lv_sub hl [1, 2, 4] rfl)
theorem bt_X7_yearsTo_34 {p : Program} {l : Launch} {e : Env} {s : State} {m : MethodId} {args : Array Value} {below : List Frame} {meth : Method} {c : Code} {D : va_G} {cy : Cy} {A : Nat → Prop} {T : Ty} {R : Rm} {r : Int32} {M9 : Mm} {a0 : Nat} {x1 : Int32} {j83 : Int32 → Mm → Option (Int32 × Mm)} (C : Cx RX7 cX7_yearsTo 5 (some .int) p s m args meth c D cy A)
    (hj83 : ∀ (x2 : Int32) (M : Mm) (H : Heap) (locs : List Loc), j83 x2 M = some (r, M9) → va_P D vwCl (WL cy T M R) H → va_D A (WL cy T M R) → va_S A s.heap H locs → ∀ ls : Array Slot, lv_has ls 5 [(0, .ref a0), (2, .int x2)] → W p l e rm_X7_yearsTo s m args below meth c H locs 0 0 (MQ below (QcI D cy T M9 R A r) args s 0 0 A) (F0 m 83 ls [])) :
    ∀ n : Nat, ∀ (x2 : Int32) (x3 : Int32) (M : Mm) (H : Heap) (locs : List Loc), fb_X7_yearsTo_34 T R a0 x1 j83 n x2 x3 M = some (r, M9) → va_P D vwCl (WL cy T M R) H → va_D A (WL cy T M R) → va_S A s.heap H locs → ∀ ls : Array Slot, lv_has ls 5 [(0, .ref a0), (1, .int x1), (2, .int x2), (3, .int x3)] → W p l e rm_X7_yearsTo s m args below meth c H locs 0 0 (MQ below (QcI D cy T M9 R A r) args s 0 0 A) (F0 m 34 ls []) := by
  intro n
  induction n with
  | zero =>
    intro _ _ _ H locs h
    exact absurd (show (none : Option (Int32 × Mm)) = some _ from h) (by simp)
  | succ n ih => exact fun u0 u1 u2 H locs h => bs_X7_yearsTo_34 (a0 := a0) (x1 := x1) C ih hj83 u0 u1 u2 H locs h
set_option maxHeartbeats 4000000 in
set_option maxRecDepth 100000 in
theorem ct_X7_yearsTo {l : Launch} {D : va_G} {cy : Cy} {T : Ty} {R : Rm} {a0 : Nat} {x1 : Int32} {M : Mm} {r : Int32} {M9 : Mm} (h : fn_X7_yearsTo T R a0 x1 M = some (r, M9)) : Ct QcI l yX7_yearsTo cX7_yearsTo 5 (some .int) rm_X7_yearsTo D cy T M R [.ref a0, .int x1] M9 R r := by
  unfold fn_X7_yearsTo at h
  refine enter (plainFor_of_name (by decide +kernel)) (Nat.le_of_ble_eq_true rfl) (fun p e s m args below meth c A C hP hD hS ls hl => ?_)
  have hl : lv_has ls 5 [(0, .ref a0), (1, .int x1)] := hl
  obtain ⟨hx, hb, hr, hml, hown, hts, hK, hA, hlk, hSt⟩ := id C
  refine lv_iload_n hx hb dX7_yearsTo_0 rfl (lv_at hl 1 rfl) ?_
  refine lv_iconst (v := 0) hx hb dX7_yearsTo_1 (by decide) ?_
  refine lv_iconst (v := 2) hx hb dX7_yearsTo_2 (by decide) ?_
  obtain ⟨r_20, M_21, hc_22, h⟩ := cal_some h
  refine cl_Si (As := [.int x1, .int (0 : Int32), .int (2 : Int32)]) (rest := []) C (ct_X7_in hc_22) wl_165 wl_166 wl_5 wl_167 hd_X7_in ⟨Nat.le_of_ble_eq_true rfl, Nat.le_of_ble_eq_true rfl⟩ ⟨rfl, rfl⟩ ⟨Nat.zero_le _, Nat.zero_le _⟩ rfl (Nat.le_of_ble_eq_true rfl) rfl hl.1 hP hD hS dX7_yearsTo_3 (fun H locs hP hD hS => ?_)
  refine lv_if_ne (tgt := 12) hx hb dX7_yearsTo_6 (by decide) (fun c_23 => ?_) (fun c_23 => ?_)
  · replace h := ite_f h c_23
    refine lv_aload_n hx hb dX7_yearsTo_12 rfl (lv_at hl 0 rfl) ?_
    obtain ⟨k_24, h⟩ := chk_some h
    obtain ⟨b_25, eb_25, h⟩ := rfm_some h
    refine gf_7_0 C hP k_24 eb_25 wl_100 dX7_yearsTo_13 ?_
    refine lv_bipush (v := 8) hx hb dX7_yearsTo_16 (by decide) ?_
    obtain ⟨k_26, h⟩ := chk_some h
    obtain ⟨k_27, h⟩ := chk_some h
    refine ar_9 C hP k_26 k_27 dX7_yearsTo_18 ?_
    refine lv_if_ne (tgt := 25) hx hb dX7_yearsTo_19 (by decide) (fun c_28 => ?_) (fun c_28 => ?_)
    · replace h := ite_f h c_28
      refine lv_aload_n hx hb dX7_yearsTo_25 rfl (lv_at hl 0 rfl) ?_
      obtain ⟨r_29, M_30, hc_31, h⟩ := cal_some h
      refine cl_Vv (As := []) (rest := []) C (ct_X7_setAside hc_31) k_24 (by decide) rfl wl_648 wl_649 wl_650 wl_5 wl_651 hd_X7_setAside ⟨Nat.le_of_ble_eq_true rfl, Nat.le_of_ble_eq_true rfl⟩ ⟨rfl, rfl⟩ ⟨Nat.zero_le _, Nat.zero_le _⟩ rfl (Nat.le_of_ble_eq_true rfl) rfl hl.1 hP hD hS dX7_yearsTo_26 (fun H locs hP hD hS => ?_)
      refine lv_ldc (own := RX7) (v := -2000000004) hx hb hown (hts _ wl_324) dX7_yearsTo_29 ?_
      refine lv_istore_n (lv' := [(2, .int (-2000000004 : Int32)), (0, .ref a0), (1, .int x1)]) hx hb dX7_yearsTo_31 rfl hl (by decide) rfl (fun ls hl => ?_)
      refine lv_iconst (v := 1) hx hb dX7_yearsTo_32 (by decide) ?_
      refine lv_istore_n (lv' := [(3, .int (1 : Int32)), (2, .int (-2000000004 : Int32)), (0, .ref a0), (1, .int x1)]) hx hb dX7_yearsTo_33 rfl hl (by decide) rfl (fun ls hl => ?_)
      exact (bt_X7_yearsTo_34 C (bs_X7_yearsTo_83 C) FU) _ _ _ _ _ h hP hD hS _ (lv_sub hl [2, 3, 1, 0] rfl)
    · replace h := ite_t h c_28
      refine lv_ldc (own := RX7) (v := -2000000002) hx hb hown (hts _ wl_238) dX7_yearsTo_22 ?_
      cases h
      exact rt_i C hP hD hS dX7_yearsTo_24
  · replace h := ite_t h c_23
    refine lv_ldc (own := RX7) (v := -2000000001) hx hb hown (hts _ wl_160) dX7_yearsTo_9 ?_
    cases h
    exact rt_i C hP hD hS dX7_yearsTo_11
abbrev rm_X7_isSteady : Room := { frames := 2, cells := 0, slots := 0, locals := 44 }
theorem hd_X7_isSteady : yX7_isSteady.cls = RX7 ∧ yX7_isSteady.cls ≠ "java/lang/invoke/MethodHandle" ∧ yX7_isSteady.cls ≠ "java/lang/invoke/VarHandle" ∧ (parseMethodDescriptor yX7_isSteady.desc).map (fun d => d.parameters.length) = some 0 := ⟨rfl, by decide +kernel, by decide +kernel, by decide +kernel⟩
set_option maxHeartbeats 4000000 in
set_option maxRecDepth 100000 in
theorem bs_X7_isSteady_4 {p : Program} {l : Launch} {e : Env} {s : State} {m : MethodId} {args : Array Value} {below : List Frame} {meth : Method} {c : Code} {D : va_G} {cy : Cy} {A : Nat → Prop} {T : Ty} {R : Rm} {r : Int32} {M9 : Mm} {a0 : Nat} {j4 : Int64 → Int32 → Mm → Option (Int32 × Mm)} (C : Cx RX7 cX7_isSteady 4 (some .boolean) p s m args meth c D cy A)
    (hj4 : ∀ (l1 : Int64) (x3 : Int32) (M : Mm) (H : Heap) (locs : List Loc), j4 l1 x3 M = some (r, M9) → va_P D vwCl (WL cy T M R) H → va_D A (WL cy T M R) → va_S A s.heap H locs → ∀ ls : Array Slot, lv_has ls 4 [(0, .ref a0), (1, .long l1), (3, .int x3)] → W p l e rm_X7_isSteady s m args below meth c H locs 0 0 (MQ below (QcI D cy T M9 R A r) args s 0 0 A) (F0 m 4 ls [])) :
    ∀ (l1 : Int64) (x3 : Int32) (M : Mm) (H : Heap) (locs : List Loc), fs_X7_isSteady_4 T R a0 j4 l1 x3 M = some (r, M9) → va_P D vwCl (WL cy T M R) H → va_D A (WL cy T M R) → va_S A s.heap H locs → ∀ ls : Array Slot, lv_has ls 4 [(0, .ref a0), (1, .long l1), (3, .int x3)] → W p l e rm_X7_isSteady s m args below meth c H locs 0 0 (MQ below (QcI D cy T M9 R A r) args s 0 0 A) (F0 m 4 ls []) := by
  intro l1 x3 M H locs h hP hD hS ls hl
  unfold fs_X7_isSteady_4 at h
  obtain ⟨hx, hb, hr, hml, hown, hts, hK, hA, hlk, hSt⟩ := id C
  refine lv_iload_n hx hb dX7_isSteady_4 rfl (lv_at hl 2 rfl) ?_
  refine lv_aload_n hx hb dX7_isSteady_5 rfl (lv_at hl 0 rfl) ?_
  obtain ⟨k_1, h⟩ := chk_some h
  obtain ⟨b_2, eb_2, h⟩ := rfm_some h
  refine gf_7_0 C hP k_1 eb_2 wl_100 dX7_isSteady_6 ?_
  refine lv_bipush (v := 8) hx hb dX7_isSteady_9 (by decide) ?_
  obtain ⟨k_3, h⟩ := chk_some h
  obtain ⟨k_4, h⟩ := chk_some h
  refine ar_9 C hP k_3 k_4 dX7_isSteady_11 ?_
  refine lv_icmp_ge (tgt := 36) hx hb dX7_isSteady_12 (by decide) (fun c_5 => ?_) (fun c_5 => ?_)
  · replace h := ite_t h c_5
    refine lv_lload_n hx hb dX7_isSteady_36 rfl (lv_at hl 1 rfl) ?_
    refine lv_lconst (v := 0) hx hb dX7_isSteady_37 (by decide) ?_
    refine W.lcmp hx hb dX7_isSteady_38 ?_
    refine lv_if_lt (tgt := 46) hx hb dX7_isSteady_39 (by decide) (fun c_6 => ?_) (fun c_6 => ?_)
    · replace h := ite_t h c_6
      refine lv_iconst (v := 0) hx hb dX7_isSteady_46 (by decide) ?_
      cases h
      exact rt_z C hP hD hS rfl dX7_isSteady_47
    · replace h := ite_f h c_6
      refine lv_iconst (v := 1) hx hb dX7_isSteady_42 (by decide) ?_
      refine lv_goto (tgt := 47) hx hb dX7_isSteady_43 (by decide) ?_
      cases h
      exact rt_z C hP hD hS rfl dX7_isSteady_47
  · replace h := ite_f h c_5
    refine lv_lload_n hx hb dX7_isSteady_15 rfl (lv_at hl 1 rfl) ?_
    refine lv_aload_n hx hb dX7_isSteady_16 rfl (lv_at hl 0 rfl) ?_
    refine lv_iload_n hx hb dX7_isSteady_17 rfl (lv_at hl 2 rfl) ?_
    obtain ⟨r_7, M_8, hc_9, h⟩ := cal_some h
    refine cl_Vi (As := [.int x3]) (rest := [.long l1]) C (ct_X7_snowOf hc_9) k_1 (by decide) rfl wl_325 wl_326 wl_327 wl_5 wl_328 hd_X7_snowOf ⟨Nat.le_of_ble_eq_true rfl, Nat.le_of_ble_eq_true rfl⟩ ⟨rfl, rfl⟩ ⟨Nat.zero_le _, Nat.zero_le _⟩ rfl (Nat.le_of_ble_eq_true rfl) rfl hl.1 hP hD hS dX7_isSteady_18 (fun H locs hP hD hS => ?_)
    refine lv_aload_n hx hb dX7_isSteady_21 rfl (lv_at hl 0 rfl) ?_
    refine lv_iload_n hx hb dX7_isSteady_22 rfl (lv_at hl 2 rfl) ?_
    obtain ⟨r_10, M_11, hc_12, h⟩ := cal_some h
    refine cl_Vi (As := [.int x3]) (rest := [.int r_7, .long l1]) C (ct_X7_meltOf hc_12) k_1 (by decide) rfl wl_332 wl_333 wl_334 wl_5 wl_335 hd_X7_meltOf ⟨Nat.le_of_ble_eq_true rfl, Nat.le_of_ble_eq_true rfl⟩ ⟨rfl, rfl⟩ ⟨Nat.zero_le _, Nat.zero_le _⟩ rfl (Nat.le_of_ble_eq_true rfl) rfl hl.1 hP hD hS dX7_isSteady_23 (fun H locs hP hD hS => ?_)
    refine lv_isub hx hb dX7_isSteady_26 ?_
    refine lv_i2l hx hb dX7_isSteady_27 rfl ?_
    refine lv_ladd hx hb dX7_isSteady_28 ?_
    refine lv_topl (fun v_13 ev_13 => ?_)
    replace h := bnd_at h ev_13
    refine lv_lstore_n (lv' := [(1, .long v_13), (0, .ref a0), (3, .int x3)]) hx hb dX7_isSteady_29 rfl hl (by decide) rfl (fun ls hl => ?_)
    obtain ⟨v_14, ev_14⟩ : ∃ y : Int32, y = (x3 + (1 : Int32)) := ⟨_, rfl⟩
    replace h := bnd_at h ev_14
    refine lv_iinc (v := v_14) (lv' := [(3, .int v_14), (1, .long v_13), (0, .ref a0)]) hx hb dX7_isSteady_30 hl (k := 2) rfl (by rw [ev_14]; rfl) (by decide) rfl (fun ls hl => ?_)
    refine lv_goto (tgt := 4) hx hb dX7_isSteady_33 (by decide) ?_
    exact hj4 _ _ _ _ _ h hP hD hS _ (lv_sub hl [2, 1, 0] rfl)
theorem bt_X7_isSteady_4 {p : Program} {l : Launch} {e : Env} {s : State} {m : MethodId} {args : Array Value} {below : List Frame} {meth : Method} {c : Code} {D : va_G} {cy : Cy} {A : Nat → Prop} {T : Ty} {R : Rm} {r : Int32} {M9 : Mm} {a0 : Nat} (C : Cx RX7 cX7_isSteady 4 (some .boolean) p s m args meth c D cy A) :
    ∀ n : Nat, ∀ (l1 : Int64) (x3 : Int32) (M : Mm) (H : Heap) (locs : List Loc), fb_X7_isSteady_4 T R a0 n l1 x3 M = some (r, M9) → va_P D vwCl (WL cy T M R) H → va_D A (WL cy T M R) → va_S A s.heap H locs → ∀ ls : Array Slot, lv_has ls 4 [(0, .ref a0), (1, .long l1), (3, .int x3)] → W p l e rm_X7_isSteady s m args below meth c H locs 0 0 (MQ below (QcI D cy T M9 R A r) args s 0 0 A) (F0 m 4 ls []) := by
  intro n
  induction n with
  | zero =>
    intro _ _ _ H locs h
    exact absurd (show (none : Option (Int32 × Mm)) = some _ from h) (by simp)
  | succ n ih => exact fun u0 u1 u2 H locs h => bs_X7_isSteady_4 (a0 := a0) C ih u0 u1 u2 H locs h
set_option maxHeartbeats 4000000 in
set_option maxRecDepth 100000 in
theorem ct_X7_isSteady {l : Launch} {D : va_G} {cy : Cy} {T : Ty} {R : Rm} {a0 : Nat} {M : Mm} {r : Int32} {M9 : Mm} (h : fn_X7_isSteady T R a0 M = some (r, M9)) : Ct QcI l yX7_isSteady cX7_isSteady 4 (some .boolean) rm_X7_isSteady D cy T M R [.ref a0] M9 R r := by
  unfold fn_X7_isSteady at h
  refine enter (plainFor_of_name (by decide +kernel)) (Nat.le_of_ble_eq_true rfl) (fun p e s m args below meth c A C hP hD hS ls hl => ?_)
  have hl : lv_has ls 4 [(0, .ref a0)] := hl
  obtain ⟨hx, hb, hr, hml, hown, hts, hK, hA, hlk, hSt⟩ := id C
  refine lv_lconst (v := 0) hx hb dX7_isSteady_0 (by decide) ?_
  refine lv_lstore_n (lv' := [(1, .long (0 : Int64)), (0, .ref a0)]) hx hb dX7_isSteady_1 rfl hl (by decide) rfl (fun ls hl => ?_)
  refine lv_iconst (v := 0) hx hb dX7_isSteady_2 (by decide) ?_
  refine lv_istore_n (lv' := [(3, .int (0 : Int32)), (1, .long (0 : Int64)), (0, .ref a0)]) hx hb dX7_isSteady_3 rfl hl (by decide) rfl (fun ls hl => ?_)
  exact (bt_X7_isSteady_4 C FU) _ _ _ _ _ h hP hD hS _ (lv_sub hl [2, 1, 0] rfl)
abbrev rm_X7_steadyMelt : Room := { frames := 3, cells := 0, slots := 0, locals := 67 }
theorem hd_X7_steadyMelt : yX7_steadyMelt.cls = RX7 ∧ yX7_steadyMelt.cls ≠ "java/lang/invoke/MethodHandle" ∧ yX7_steadyMelt.cls ≠ "java/lang/invoke/VarHandle" ∧ (parseMethodDescriptor yX7_steadyMelt.desc).map (fun d => d.parameters.length) = some 0 := ⟨rfl, by decide +kernel, by decide +kernel, by decide +kernel⟩
set_option maxHeartbeats 4000000 in
set_option maxRecDepth 100000 in
theorem bs_X7_steadyMelt_58 {p : Program} {l : Launch} {e : Env} {s : State} {m : MethodId} {args : Array Value} {below : List Frame} {meth : Method} {c : Code} {D : va_G} {cy : Cy} {A : Nat → Prop} {T : Ty} {R : Rm} {r : Int32} {M9 : Mm} {a0 : Nat} (C : Cx RX7 cX7_steadyMelt 3 (some .int) p s m args meth c D cy A) :
    ∀ (x1 : Int32) (M : Mm) (H : Heap) (locs : List Loc), fs_X7_steadyMelt_58 T R a0 x1 M = some (r, M9) → va_P D vwCl (WL cy T M R) H → va_D A (WL cy T M R) → va_S A s.heap H locs → ∀ ls : Array Slot, lv_has ls 3 [(0, .ref a0), (1, .int x1)] → W p l e rm_X7_steadyMelt s m args below meth c H locs 0 0 (MQ below (QcI D cy T M9 R A r) args s 0 0 A) (F0 m 58 ls []) := by
  intro x1 M H locs h hP hD hS ls hl
  unfold fs_X7_steadyMelt_58 at h
  obtain ⟨hx, hb, hr, hml, hown, hts, hK, hA, hlk, hSt⟩ := id C
  refine lv_aload_n hx hb dX7_steadyMelt_58 rfl (lv_at hl 0 rfl) ?_
  obtain ⟨k_1, h⟩ := chk_some h
  obtain ⟨b_2, eb_2, h⟩ := rfm_some h
  refine gf_7_0 C hP k_1 eb_2 wl_100 dX7_steadyMelt_59 ?_
  refine lv_iconst (v := 2) hx hb dX7_steadyMelt_62 (by decide) ?_
  obtain ⟨k_3, h⟩ := chk_some h
  obtain ⟨k_4, h⟩ := chk_some h
  refine ar_9 C hP k_3 k_4 dX7_steadyMelt_63 ?_
  refine lv_topi (fun v_5 ev_5 => ?_)
  replace h := bnd_at h ev_5
  refine lv_istore_n (lv' := [(2, .int v_5), (0, .ref a0), (1, .int x1)]) hx hb dX7_steadyMelt_64 rfl hl (by decide) rfl (fun ls hl => ?_)
  refine lv_aload_n hx hb dX7_steadyMelt_65 rfl (lv_at hl 1 rfl) ?_
  refine gf_7_0 C hP k_1 eb_2 wl_100 dX7_steadyMelt_66 ?_
  refine lv_iconst (v := 2) hx hb dX7_steadyMelt_69 (by decide) ?_
  refine lv_iload_n hx hb dX7_steadyMelt_70 rfl (lv_at hl 2 rfl) ?_
  refine aw_9 C hP hD hS k_3 k_4 dX7_steadyMelt_71 (fun M_6 H locs eM_6 hP hD hS => ?_)
  replace h := bnd_at h eM_6
  refine lv_iload_n hx hb dX7_steadyMelt_72 rfl (lv_at hl 0 rfl) ?_
  refine lv_if_ge (tgt := 81) hx hb dX7_steadyMelt_73 (by decide) (fun c_7 => ?_) (fun c_7 => ?_)
  · replace h := ite_t h c_7
    refine lv_iload_n hx hb dX7_steadyMelt_81 rfl (lv_at hl 0 rfl) ?_
    cases h
    exact rt_i C hP hD hS dX7_steadyMelt_82
  · replace h := ite_f h c_7
    refine lv_ldc (own := RX7) (v := -2000000004) hx hb hown (hts _ wl_324) dX7_steadyMelt_76 ?_
    refine lv_goto (tgt := 82) hx hb dX7_steadyMelt_78 (by decide) ?_
    cases h
    exact rt_i C hP hD hS dX7_steadyMelt_82
set_option maxHeartbeats 4000000 in
set_option maxRecDepth 100000 in
theorem bs_X7_steadyMelt_29 {p : Program} {l : Launch} {e : Env} {s : State} {m : MethodId} {args : Array Value} {below : List Frame} {meth : Method} {c : Code} {D : va_G} {cy : Cy} {A : Nat → Prop} {T : Ty} {R : Rm} {r : Int32} {M9 : Mm} {a0 : Nat} {j29 : Int32 → Mm → Option (Int32 × Mm)} {j58 : Int32 → Mm → Option (Int32 × Mm)} (C : Cx RX7 cX7_steadyMelt 3 (some .int) p s m args meth c D cy A)
    (hj29 : ∀ (x1 : Int32) (M : Mm) (H : Heap) (locs : List Loc), j29 x1 M = some (r, M9) → va_P D vwCl (WL cy T M R) H → va_D A (WL cy T M R) → va_S A s.heap H locs → ∀ ls : Array Slot, lv_has ls 3 [(0, .ref a0), (1, .int x1)] → W p l e rm_X7_steadyMelt s m args below meth c H locs 0 0 (MQ below (QcI D cy T M9 R A r) args s 0 0 A) (F0 m 29 ls []))
    (hj58 : ∀ (x1 : Int32) (M : Mm) (H : Heap) (locs : List Loc), j58 x1 M = some (r, M9) → va_P D vwCl (WL cy T M R) H → va_D A (WL cy T M R) → va_S A s.heap H locs → ∀ ls : Array Slot, lv_has ls 3 [(0, .ref a0), (1, .int x1)] → W p l e rm_X7_steadyMelt s m args below meth c H locs 0 0 (MQ below (QcI D cy T M9 R A r) args s 0 0 A) (F0 m 58 ls [])) :
    ∀ (x1 : Int32) (M : Mm) (H : Heap) (locs : List Loc), fs_X7_steadyMelt_29 T R a0 j29 j58 x1 M = some (r, M9) → va_P D vwCl (WL cy T M R) H → va_D A (WL cy T M R) → va_S A s.heap H locs → ∀ ls : Array Slot, lv_has ls 3 [(0, .ref a0), (1, .int x1)] → W p l e rm_X7_steadyMelt s m args below meth c H locs 0 0 (MQ below (QcI D cy T M9 R A r) args s 0 0 A) (F0 m 29 ls []) := by
  intro x1 M H locs h hP hD hS ls hl
  unfold fs_X7_steadyMelt_29 at h
  obtain ⟨hx, hb, hr, hml, hown, hts, hK, hA, hlk, hSt⟩ := id C
  refine lv_aload_n hx hb dX7_steadyMelt_29 rfl (lv_at hl 0 rfl) ?_
  obtain ⟨k_8, h⟩ := chk_some h
  obtain ⟨b_9, eb_9, h⟩ := rfm_some h
  refine gf_7_0 C hP k_8 eb_9 wl_100 dX7_steadyMelt_30 ?_
  refine lv_iconst (v := 2) hx hb dX7_steadyMelt_33 (by decide) ?_
  obtain ⟨k_10, h⟩ := chk_some h
  obtain ⟨k_11, h⟩ := chk_some h
  refine ar_9 C hP k_10 k_11 dX7_steadyMelt_34 ?_
  refine lv_if_lt (tgt := 58) hx hb dX7_steadyMelt_35 (by decide) (fun c_12 => ?_) (fun c_12 => ?_)
  · replace h := ite_t h c_12
    exact hj58 _ _ _ _ h hP hD hS _ (lv_sub hl [0, 1] rfl)
  · replace h := ite_f h c_12
    refine lv_aload_n hx hb dX7_steadyMelt_38 rfl (lv_at hl 0 rfl) ?_
    obtain ⟨r_13, M_14, hc_15, h⟩ := cal_some h
    refine cl_Vi (As := []) (rest := []) C (ct_X7_isSteady hc_15) k_8 (by decide) rfl wl_693 wl_694 wl_695 wl_5 wl_696 hd_X7_isSteady ⟨Nat.le_of_ble_eq_true rfl, Nat.le_of_ble_eq_true rfl⟩ ⟨rfl, rfl⟩ ⟨Nat.zero_le _, Nat.zero_le _⟩ rfl (Nat.le_of_ble_eq_true rfl) rfl hl.1 hP hD hS dX7_steadyMelt_39 (fun H locs hP hD hS => ?_)
    refine lv_if_ne (tgt := 58) hx hb dX7_steadyMelt_42 (by decide) (fun c_16 => ?_) (fun c_16 => ?_)
    · replace h := ite_f h c_16
      exact hj58 _ _ _ _ h hP hD hS _ (lv_sub hl [0, 1] rfl)
    · replace h := ite_t h c_16
      refine lv_aload_n hx hb dX7_steadyMelt_45 rfl (lv_at hl 0 rfl) ?_
      refine gf_7_0 C hP k_8 eb_9 wl_100 dX7_steadyMelt_46 ?_
      refine lv_iconst (v := 2) hx hb dX7_steadyMelt_49 (by decide) ?_
      refine lv_dup2_11 hx hb dX7_steadyMelt_50 rfl rfl ?_
      refine ar_9 C hP k_10 k_11 dX7_steadyMelt_51 ?_
      refine lv_iconst (v := 1) hx hb dX7_steadyMelt_52 (by decide) ?_
      refine lv_isub hx hb dX7_steadyMelt_53 ?_
      refine aw_9 C hP hD hS k_10 k_11 dX7_steadyMelt_54 (fun M_17 H locs eM_17 hP hD hS => ?_)
      replace h := bnd_at h eM_17
      refine lv_goto (tgt := 29) hx hb dX7_steadyMelt_55 (by decide) ?_
      exact hj29 _ _ _ _ h hP hD hS _ (lv_sub hl [0, 1] rfl)
theorem bt_X7_steadyMelt_29 {p : Program} {l : Launch} {e : Env} {s : State} {m : MethodId} {args : Array Value} {below : List Frame} {meth : Method} {c : Code} {D : va_G} {cy : Cy} {A : Nat → Prop} {T : Ty} {R : Rm} {r : Int32} {M9 : Mm} {a0 : Nat} {j58 : Int32 → Mm → Option (Int32 × Mm)} (C : Cx RX7 cX7_steadyMelt 3 (some .int) p s m args meth c D cy A)
    (hj58 : ∀ (x1 : Int32) (M : Mm) (H : Heap) (locs : List Loc), j58 x1 M = some (r, M9) → va_P D vwCl (WL cy T M R) H → va_D A (WL cy T M R) → va_S A s.heap H locs → ∀ ls : Array Slot, lv_has ls 3 [(0, .ref a0), (1, .int x1)] → W p l e rm_X7_steadyMelt s m args below meth c H locs 0 0 (MQ below (QcI D cy T M9 R A r) args s 0 0 A) (F0 m 58 ls [])) :
    ∀ n : Nat, ∀ (x1 : Int32) (M : Mm) (H : Heap) (locs : List Loc), fb_X7_steadyMelt_29 T R a0 j58 n x1 M = some (r, M9) → va_P D vwCl (WL cy T M R) H → va_D A (WL cy T M R) → va_S A s.heap H locs → ∀ ls : Array Slot, lv_has ls 3 [(0, .ref a0), (1, .int x1)] → W p l e rm_X7_steadyMelt s m args below meth c H locs 0 0 (MQ below (QcI D cy T M9 R A r) args s 0 0 A) (F0 m 29 ls []) := by
  intro n
  induction n with
  | zero =>
    intro _ _ H locs h
    exact absurd (show (none : Option (Int32 × Mm)) = some _ from h) (by simp)
  | succ n ih => exact fun u0 u1 H locs h => bs_X7_steadyMelt_29 (a0 := a0) C ih hj58 u0 u1 H locs h
set_option maxHeartbeats 4000000 in
set_option maxRecDepth 100000 in
theorem ct_X7_steadyMelt {l : Launch} {D : va_G} {cy : Cy} {T : Ty} {R : Rm} {a0 : Nat} {M : Mm} {r : Int32} {M9 : Mm} (h : fn_X7_steadyMelt T R a0 M = some (r, M9)) : Ct QcI l yX7_steadyMelt cX7_steadyMelt 3 (some .int) rm_X7_steadyMelt D cy T M R [.ref a0] M9 R r := by
  unfold fn_X7_steadyMelt at h
  refine enter (plainFor_of_name (by decide +kernel)) (Nat.le_of_ble_eq_true rfl) (fun p e s m args below meth c A C hP hD hS ls hl => ?_)
  have hl : lv_has ls 3 [(0, .ref a0)] := hl
  obtain ⟨hx, hb, hr, hml, hown, hts, hK, hA, hlk, hSt⟩ := id C
  refine lv_aload_n hx hb dX7_steadyMelt_0 rfl (lv_at hl 0 rfl) ?_
  obtain ⟨k_18, h⟩ := chk_some h
  obtain ⟨b_19, eb_19, h⟩ := rfm_some h
  refine gf_7_0 C hP k_18 eb_19 wl_100 dX7_steadyMelt_1 ?_
  refine lv_bipush (v := 8) hx hb dX7_steadyMelt_4 (by decide) ?_
  obtain ⟨k_20, h⟩ := chk_some h
  obtain ⟨k_21, h⟩ := chk_some h
  refine ar_9 C hP k_20 k_21 dX7_steadyMelt_6 ?_
  refine lv_if_ne (tgt := 13) hx hb dX7_steadyMelt_7 (by decide) (fun c_22 => ?_) (fun c_22 => ?_)
  · replace h := ite_f h c_22
    refine lv_aload_n hx hb dX7_steadyMelt_13 rfl (lv_at hl 0 rfl) ?_
    refine gf_7_0 C hP k_18 eb_19 wl_100 dX7_steadyMelt_14 ?_
    refine lv_iconst (v := 2) hx hb dX7_steadyMelt_17 (by decide) ?_
    obtain ⟨k_23, h⟩ := chk_some h
    refine ar_9 C hP k_20 k_23 dX7_steadyMelt_18 ?_
    refine lv_topi (fun v_24 ev_24 => ?_)
    replace h := bnd_at h ev_24
    refine lv_istore_n (lv' := [(1, .int v_24), (0, .ref a0)]) hx hb dX7_steadyMelt_19 rfl hl (by decide) rfl (fun ls hl => ?_)
    refine lv_aload_n hx hb dX7_steadyMelt_20 rfl (lv_at hl 1 rfl) ?_
    refine gf_7_0 C hP k_18 eb_19 wl_100 dX7_steadyMelt_21 ?_
    refine lv_iconst (v := 2) hx hb dX7_steadyMelt_24 (by decide) ?_
    refine lv_sipush (v := 9000) hx hb dX7_steadyMelt_25 (by decide) ?_
    refine aw_9 C hP hD hS k_20 k_23 dX7_steadyMelt_28 (fun M_25 H locs eM_25 hP hD hS => ?_)
    replace h := bnd_at h eM_25
    exact (bt_X7_steadyMelt_29 C (bs_X7_steadyMelt_58 C) FU) _ _ _ _ h hP hD hS _ (lv_sub hl [1, 0] rfl)
  · replace h := ite_t h c_22
    refine lv_ldc (own := RX7) (v := -2000000002) hx hb hown (hts _ wl_238) dX7_steadyMelt_10 ?_
    cases h
    exact rt_i C hP hD hS dX7_steadyMelt_12
abbrev rm_X7_type : Room := { frames := 1, cells := 0, slots := 0, locals := 22 }
theorem hd_X7_type : yX7_type.cls = RX7 ∧ yX7_type.cls ≠ "java/lang/invoke/MethodHandle" ∧ yX7_type.cls ≠ "java/lang/invoke/VarHandle" ∧ (parseMethodDescriptor yX7_type.desc).map (fun d => d.parameters.length) = some 1 := ⟨rfl, by decide +kernel, by decide +kernel, by decide +kernel⟩
set_option maxHeartbeats 4000000 in
set_option maxRecDepth 100000 in
theorem ct_X7_type {l : Launch} {D : va_G} {cy : Cy} {T : Ty} {R : Rm} {a0 : Nat} {x1 : Int32} {M : Mm} {r : Int32} {M9 : Mm} (h : fn_X7_type T R a0 x1 M = some (r, M9)) : Ct QcI l yX7_type cX7_type 2 (some .int) rm_X7_type D cy T M R [.ref a0, .int x1] M9 R r := by
  unfold fn_X7_type at h
  refine enter (plainFor_of_name (by decide +kernel)) (Nat.le_of_ble_eq_true rfl) (fun p e s m args below meth c A C hP hD hS ls hl => ?_)
  have hl : lv_has ls 2 [(0, .ref a0), (1, .int x1)] := hl
  obtain ⟨hx, hb, hr, hml, hown, hts, hK, hA, hlk, hSt⟩ := id C
  refine lv_iload_n hx hb dX7_type_0 rfl (lv_at hl 1 rfl) ?_
  refine lv_bipush (v := 32) hx hb dX7_type_1 (by decide) ?_
  refine lv_bipush (v := 126) hx hb dX7_type_3 (by decide) ?_
  obtain ⟨r_1, M_2, hc_3, h⟩ := cal_some h
  refine cl_Si (As := [.int x1, .int (32 : Int32), .int (126 : Int32)]) (rest := []) C (ct_X7_in hc_3) wl_165 wl_166 wl_5 wl_167 hd_X7_in ⟨Nat.le_of_ble_eq_true rfl, Nat.le_of_ble_eq_true rfl⟩ ⟨rfl, rfl⟩ ⟨Nat.zero_le _, Nat.zero_le _⟩ rfl (Nat.le_of_ble_eq_true rfl) rfl hl.1 hP hD hS dX7_type_5 (fun H locs hP hD hS => ?_)
  refine lv_if_ne (tgt := 14) hx hb dX7_type_8 (by decide) (fun c_4 => ?_) (fun c_4 => ?_)
  · replace h := ite_f h c_4
    refine lv_aload_n hx hb dX7_type_14 rfl (lv_at hl 0 rfl) ?_
    obtain ⟨k_5, h⟩ := chk_some h
    refine gf_7_12 C hP k_5 wl_449 dX7_type_15 ?_
    refine lv_bipush (v := 60) hx hb dX7_type_18 (by decide) ?_
    refine lv_icmp_ne (tgt := 26) hx hb dX7_type_20 (by decide) (fun c_6 => ?_) (fun c_6 => ?_)
    · replace h := ite_f h c_6
      refine lv_aload_n hx hb dX7_type_26 rfl (lv_at hl 0 rfl) ?_
      obtain ⟨b_7, eb_7, h⟩ := rfm_some h
      refine gf_7_11 C hP k_5 eb_7 wl_111 dX7_type_27 ?_
      refine lv_aload_n hx hb dX7_type_30 rfl (lv_at hl 0 rfl) ?_
      refine gf_7_12 C hP k_5 wl_449 dX7_type_31 ?_
      refine lv_iload_n hx hb dX7_type_34 rfl (lv_at hl 1 rfl) ?_
      obtain ⟨k_8, h⟩ := chk_some h
      obtain ⟨k_9, h⟩ := chk_some h
      refine aw_9 C hP hD hS k_8 k_9 dX7_type_35 (fun M_10 H locs eM_10 hP hD hS => ?_)
      replace h := bnd_at h eM_10
      refine lv_aload_n hx hb dX7_type_36 rfl (lv_at hl 0 rfl) ?_
      refine lv_dup hx hb dX7_type_37 rfl ?_
      refine gf_7_12 C hP k_5 wl_449 dX7_type_38 ?_
      refine lv_iconst (v := 1) hx hb dX7_type_41 (by decide) ?_
      refine lv_iadd hx hb dX7_type_42 ?_
      refine pf_7_12 C hP hD hS k_5 wl_449 dX7_type_43 (fun M_11 H locs eM_11 hP hD hS => ?_)
      replace h := bnd_at h eM_11
      refine lv_aload_n hx hb dX7_type_46 rfl (lv_at hl 0 rfl) ?_
      refine gf_7_12 C hP k_5 wl_449 dX7_type_47 ?_
      cases h
      exact rt_i C hP hD hS dX7_type_50
    · replace h := ite_t h c_6
      refine lv_ldc (own := RX7) (v := -2000000003) hx hb hown (hts _ wl_239) dX7_type_23 ?_
      cases h
      exact rt_i C hP hD hS dX7_type_25
  · replace h := ite_t h c_4
    refine lv_ldc (own := RX7) (v := -2000000001) hx hb hown (hts _ wl_160) dX7_type_11 ?_
    cases h
    exact rt_i C hP hD hS dX7_type_13
abbrev rm_X7_clearText : Room := { frames := 0, cells := 0, slots := 0, locals := 0 }
theorem hd_X7_clearText : yX7_clearText.cls = RX7 ∧ yX7_clearText.cls ≠ "java/lang/invoke/MethodHandle" ∧ yX7_clearText.cls ≠ "java/lang/invoke/VarHandle" ∧ (parseMethodDescriptor yX7_clearText.desc).map (fun d => d.parameters.length) = some 0 := ⟨rfl, by decide +kernel, by decide +kernel, by decide +kernel⟩
set_option maxHeartbeats 4000000 in
set_option maxRecDepth 100000 in
theorem ct_X7_clearText {l : Launch} {D : va_G} {cy : Cy} {T : Ty} {R : Rm} {a0 : Nat} {M : Mm} {r : Int32} {M9 : Mm} (h : fn_X7_clearText T R a0 M = some (r, M9)) : Ct QcI l yX7_clearText cX7_clearText 2 (some .int) rm_X7_clearText D cy T M R [.ref a0] M9 R r := by
  unfold fn_X7_clearText at h
  refine enter (plainFor_of_name (by decide +kernel)) (Nat.le_of_ble_eq_true rfl) (fun p e s m args below meth c A C hP hD hS ls hl => ?_)
  have hl : lv_has ls 2 [(0, .ref a0)] := hl
  obtain ⟨hx, hb, hr, hml, hown, hts, hK, hA, hlk, hSt⟩ := id C
  refine lv_aload_n hx hb dX7_clearText_0 rfl (lv_at hl 0 rfl) ?_
  obtain ⟨k_1, h⟩ := chk_some h
  refine gf_7_12 C hP k_1 wl_449 dX7_clearText_1 ?_
  refine lv_topi (fun v_2 ev_2 => ?_)
  replace h := bnd_at h ev_2
  refine lv_istore_n (lv' := [(1, .int v_2), (0, .ref a0)]) hx hb dX7_clearText_4 rfl hl (by decide) rfl (fun ls hl => ?_)
  refine lv_aload_n hx hb dX7_clearText_5 rfl (lv_at hl 1 rfl) ?_
  refine lv_iconst (v := 0) hx hb dX7_clearText_6 (by decide) ?_
  refine pf_7_12 C hP hD hS k_1 wl_449 dX7_clearText_7 (fun M_3 H locs eM_3 hP hD hS => ?_)
  replace h := bnd_at h eM_3
  refine lv_iload_n hx hb dX7_clearText_10 rfl (lv_at hl 0 rfl) ?_
  cases h
  exact rt_i C hP hD hS dX7_clearText_11
abbrev rm_X7_here : Room := { frames := 0, cells := 0, slots := 0, locals := 0 }
theorem hd_X7_here : yX7_here.cls = RX7 ∧ yX7_here.cls ≠ "java/lang/invoke/MethodHandle" ∧ yX7_here.cls ≠ "java/lang/invoke/VarHandle" ∧ (parseMethodDescriptor yX7_here.desc).map (fun d => d.parameters.length) = some 0 := ⟨rfl, by decide +kernel, by decide +kernel, by decide +kernel⟩
set_option maxHeartbeats 4000000 in
set_option maxRecDepth 100000 in
theorem ct_X7_here {l : Launch} {D : va_G} {cy : Cy} {T : Ty} {R : Rm} {a0 : Nat} {M : Mm} {r : Int32} {M9 : Mm} (h : fn_X7_here T R a0 M = some (r, M9)) : Ct QcI l yX7_here cX7_here 1 (some .int) rm_X7_here D cy T M R [.ref a0] M9 R r := by
  unfold fn_X7_here at h
  refine enter (plainFor_of_name (by decide +kernel)) (Nat.le_of_ble_eq_true rfl) (fun p e s m args below meth c A C hP hD hS ls hl => ?_)
  have hl : lv_has ls 1 [(0, .ref a0)] := hl
  obtain ⟨hx, hb, hr, hml, hown, hts, hK, hA, hlk, hSt⟩ := id C
  refine lv_aload_n hx hb dX7_here_0 rfl (lv_at hl 0 rfl) ?_
  obtain ⟨k_1, h⟩ := chk_some h
  refine gf_7_13 C hP k_1 wl_779 dX7_here_1 ?_
  refine lv_aload_n hx hb dX7_here_4 rfl (lv_at hl 0 rfl) ?_
  refine gf_7_12 C hP k_1 wl_449 dX7_here_5 ?_
  refine lv_icmp_ge (tgt := 23) hx hb dX7_here_8 (by decide) (fun c_2 => ?_) (fun c_2 => ?_)
  · replace h := ite_t h c_2
    refine lv_iconst (v := -1) hx hb dX7_here_23 (by decide) ?_
    cases h
    exact rt_i C hP hD hS dX7_here_24
  · replace h := ite_f h c_2
    refine lv_aload_n hx hb dX7_here_11 rfl (lv_at hl 0 rfl) ?_
    obtain ⟨b_3, eb_3, h⟩ := rfm_some h
    refine gf_7_11 C hP k_1 eb_3 wl_111 dX7_here_12 ?_
    refine lv_aload_n hx hb dX7_here_15 rfl (lv_at hl 0 rfl) ?_
    refine gf_7_13 C hP k_1 wl_779 dX7_here_16 ?_
    obtain ⟨k_4, h⟩ := chk_some h
    obtain ⟨k_5, h⟩ := chk_some h
    refine ar_9 C hP k_4 k_5 dX7_here_19 ?_
    refine lv_goto (tgt := 24) hx hb dX7_here_20 (by decide) ?_
    cases h
    exact rt_i C hP hD hS dX7_here_24
abbrev rm_X7_readNumber : Room := { frames := 1, cells := 0, slots := 0, locals := 22 }
theorem hd_X7_readNumber : yX7_readNumber.cls = RX7 ∧ yX7_readNumber.cls ≠ "java/lang/invoke/MethodHandle" ∧ yX7_readNumber.cls ≠ "java/lang/invoke/VarHandle" ∧ (parseMethodDescriptor yX7_readNumber.desc).map (fun d => d.parameters.length) = some 1 := ⟨rfl, by decide +kernel, by decide +kernel, by decide +kernel⟩
set_option maxHeartbeats 4000000 in
set_option maxRecDepth 100000 in
theorem bs_X7_readNumber_87 {p : Program} {l : Launch} {e : Env} {s : State} {m : MethodId} {args : Array Value} {below : List Frame} {meth : Method} {c : Code} {D : va_G} {cy : Cy} {A : Nat → Prop} {T : Ty} {R : Rm} {r : Int32} {M9 : Mm} {a0 : Nat} {x1 : Int32} (C : Cx RX7 cX7_readNumber 4 (some .boolean) p s m args meth c D cy A) :
    ∀ (s0 : Int32) (M : Mm) (H : Heap) (locs : List Loc), fs_X7_readNumber_87 T R a0 x1 s0 M = some (r, M9) → va_P D vwCl (WL cy T M R) H → va_D A (WL cy T M R) → va_S A s.heap H locs → ∀ ls : Array Slot, lv_has ls 4 [(0, .ref a0)] → W p l e rm_X7_readNumber s m args below meth c H locs 0 0 (MQ below (QcI D cy T M9 R A r) args s 0 0 A) (F0 m 87 ls [.int s0]) := by
  intro s0 M H locs h hP hD hS ls hl
  unfold fs_X7_readNumber_87 at h
  obtain ⟨hx, hb, hr, hml, hown, hts, hK, hA, hlk, hSt⟩ := id C
  refine lv_istore_n (lv' := [(3, .int s0), (0, .ref a0)]) hx hb dX7_readNumber_87 rfl hl (by decide) rfl (fun ls hl => ?_)
  refine lv_aload_n hx hb dX7_readNumber_88 rfl (lv_at hl 1 rfl) ?_
  refine lv_dup hx hb dX7_readNumber_89 rfl ?_
  obtain ⟨k_1, h⟩ := chk_some h
  refine gf_7_13 C hP k_1 wl_779 dX7_readNumber_90 ?_
  refine lv_iconst (v := 1) hx hb dX7_readNumber_93 (by decide) ?_
  refine lv_iadd hx hb dX7_readNumber_94 ?_
  refine pf_7_13 C hP hD hS k_1 wl_779 dX7_readNumber_95 (fun M_2 H locs eM_2 hP hD hS => ?_)
  replace h := bnd_at h eM_2
  refine lv_iload_n hx hb dX7_readNumber_98 rfl (lv_at hl 0 rfl) ?_
  obtain ⟨k_3, h⟩ := chk_some h
  cases h
  exact rt_z C hP hD hS k_3 dX7_readNumber_99
set_option maxHeartbeats 4000000 in
set_option maxRecDepth 100000 in
theorem bs_X7_readNumber_86 {p : Program} {l : Launch} {e : Env} {s : State} {m : MethodId} {args : Array Value} {below : List Frame} {meth : Method} {c : Code} {D : va_G} {cy : Cy} {A : Nat → Prop} {T : Ty} {R : Rm} {r : Int32} {M9 : Mm} {a0 : Nat} {x1 : Int32} (C : Cx RX7 cX7_readNumber 4 (some .boolean) p s m args meth c D cy A) :
    ∀  (M : Mm) (H : Heap) (locs : List Loc), fs_X7_readNumber_86 T R a0 x1 M = some (r, M9) → va_P D vwCl (WL cy T M R) H → va_D A (WL cy T M R) → va_S A s.heap H locs → ∀ ls : Array Slot, lv_has ls 4 [(0, .ref a0)] → W p l e rm_X7_readNumber s m args below meth c H locs 0 0 (MQ below (QcI D cy T M9 R A r) args s 0 0 A) (F0 m 86 ls []) := by
  intro  M H locs h hP hD hS ls hl
  unfold fs_X7_readNumber_86 at h
  obtain ⟨hx, hb, hr, hml, hown, hts, hK, hA, hlk, hSt⟩ := id C
  refine lv_iconst (v := 0) hx hb dX7_readNumber_86 (by decide) ?_
  exact (bs_X7_readNumber_87 C) _ _ _ _ h hP hD hS _ (lv_sub hl [0] rfl)
set_option maxHeartbeats 4000000 in
set_option maxRecDepth 100000 in
theorem bs_X7_readNumber_66 {p : Program} {l : Launch} {e : Env} {s : State} {m : MethodId} {args : Array Value} {below : List Frame} {meth : Method} {c : Code} {D : va_G} {cy : Cy} {A : Nat → Prop} {T : Ty} {R : Rm} {r : Int32} {M9 : Mm} {a0 : Nat} {x1 : Int32} (C : Cx RX7 cX7_readNumber 4 (some .boolean) p s m args meth c D cy A) :
    ∀ (x2 : Int32) (M : Mm) (H : Heap) (locs : List Loc), fs_X7_readNumber_66 T R a0 x1 x2 M = some (r, M9) → va_P D vwCl (WL cy T M R) H → va_D A (WL cy T M R) → va_S A s.heap H locs → ∀ ls : Array Slot, lv_has ls 4 [(0, .ref a0), (1, .int x1), (2, .int x2)] → W p l e rm_X7_readNumber s m args below meth c H locs 0 0 (MQ below (QcI D cy T M9 R A r) args s 0 0 A) (F0 m 66 ls []) := by
  intro x2 M H locs h hP hD hS ls hl
  unfold fs_X7_readNumber_66 at h
  obtain ⟨hx, hb, hr, hml, hown, hts, hK, hA, hlk, hSt⟩ := id C
  refine lv_aload_n hx hb dX7_readNumber_66 rfl (lv_at hl 0 rfl) ?_
  obtain ⟨k_4, h⟩ := chk_some h
  refine gf_7_13 C hP k_4 wl_779 dX7_readNumber_67 ?_
  refine lv_iload_n hx hb dX7_readNumber_70 rfl (lv_at hl 2 rfl) ?_
  refine lv_icmp_le (tgt := 86) hx hb dX7_readNumber_71 (by decide) (fun c_5 => ?_) (fun c_5 => ?_)
  · replace h := ite_t h c_5
    exact (bs_X7_readNumber_86 C) _ _ _ h hP hD hS _ (lv_sub hl [0] rfl)
  · replace h := ite_f h c_5
    refine lv_aload_n hx hb dX7_readNumber_74 rfl (lv_at hl 0 rfl) ?_
    obtain ⟨r_6, M_7, hc_8, h⟩ := cal_some h
    refine cl_Vi (As := []) (rest := []) C (ct_X7_here hc_8) k_4 (by decide) rfl wl_790 wl_791 wl_792 wl_5 wl_793 hd_X7_here ⟨Nat.le_of_ble_eq_true rfl, Nat.le_of_ble_eq_true rfl⟩ ⟨rfl, rfl⟩ ⟨Nat.zero_le _, Nat.zero_le _⟩ rfl (Nat.le_of_ble_eq_true rfl) rfl hl.1 hP hD hS dX7_readNumber_75 (fun H locs hP hD hS => ?_)
    refine lv_iload_n hx hb dX7_readNumber_78 rfl (lv_at hl 1 rfl) ?_
    refine lv_icmp_ne (tgt := 86) hx hb dX7_readNumber_79 (by decide) (fun c_9 => ?_) (fun c_9 => ?_)
    · replace h := ite_f h c_9
      exact (bs_X7_readNumber_86 C) _ _ _ h hP hD hS _ (lv_sub hl [0] rfl)
    · replace h := ite_t h c_9
      refine lv_iconst (v := 1) hx hb dX7_readNumber_82 (by decide) ?_
      refine lv_goto (tgt := 87) hx hb dX7_readNumber_83 (by decide) ?_
      exact (bs_X7_readNumber_87 C) _ _ _ _ h hP hD hS _ (lv_sub hl [0] rfl)
set_option maxHeartbeats 4000000 in
set_option maxRecDepth 100000 in
theorem bs_X7_readNumber_10 {p : Program} {l : Launch} {e : Env} {s : State} {m : MethodId} {args : Array Value} {below : List Frame} {meth : Method} {c : Code} {D : va_G} {cy : Cy} {A : Nat → Prop} {T : Ty} {R : Rm} {r : Int32} {M9 : Mm} {a0 : Nat} {x1 : Int32} {j10 : Int32 → Mm → Option (Int32 × Mm)} {j66 : Int32 → Mm → Option (Int32 × Mm)} (C : Cx RX7 cX7_readNumber 4 (some .boolean) p s m args meth c D cy A)
    (hj10 : ∀ (x2 : Int32) (M : Mm) (H : Heap) (locs : List Loc), j10 x2 M = some (r, M9) → va_P D vwCl (WL cy T M R) H → va_D A (WL cy T M R) → va_S A s.heap H locs → ∀ ls : Array Slot, lv_has ls 4 [(0, .ref a0), (1, .int x1), (2, .int x2)] → W p l e rm_X7_readNumber s m args below meth c H locs 0 0 (MQ below (QcI D cy T M9 R A r) args s 0 0 A) (F0 m 10 ls []))
    (hj66 : ∀ (x2 : Int32) (M : Mm) (H : Heap) (locs : List Loc), j66 x2 M = some (r, M9) → va_P D vwCl (WL cy T M R) H → va_D A (WL cy T M R) → va_S A s.heap H locs → ∀ ls : Array Slot, lv_has ls 4 [(0, .ref a0), (1, .int x1), (2, .int x2)] → W p l e rm_X7_readNumber s m args below meth c H locs 0 0 (MQ below (QcI D cy T M9 R A r) args s 0 0 A) (F0 m 66 ls [])) :
    ∀ (x2 : Int32) (M : Mm) (H : Heap) (locs : List Loc), fs_X7_readNumber_10 T R a0 x1 j10 j66 x2 M = some (r, M9) → va_P D vwCl (WL cy T M R) H → va_D A (WL cy T M R) → va_S A s.heap H locs → ∀ ls : Array Slot, lv_has ls 4 [(0, .ref a0), (1, .int x1), (2, .int x2)] → W p l e rm_X7_readNumber s m args below meth c H locs 0 0 (MQ below (QcI D cy T M9 R A r) args s 0 0 A) (F0 m 10 ls []) := by
  intro x2 M H locs h hP hD hS ls hl
  unfold fs_X7_readNumber_10 at h
  obtain ⟨hx, hb, hr, hml, hown, hts, hK, hA, hlk, hSt⟩ := id C
  refine lv_aload_n hx hb dX7_readNumber_10 rfl (lv_at hl 0 rfl) ?_
  obtain ⟨k_10, h⟩ := chk_some h
  refine gf_7_13 C hP k_10 wl_779 dX7_readNumber_11 ?_
  refine lv_iload_n hx hb dX7_readNumber_14 rfl (lv_at hl 2 rfl) ?_
  refine lv_iconst (v := 4) hx hb dX7_readNumber_15 (by decide) ?_
  refine lv_iadd hx hb dX7_readNumber_16 ?_
  refine lv_icmp_ge (tgt := 66) hx hb dX7_readNumber_17 (by decide) (fun c_11 => ?_) (fun c_11 => ?_)
  · replace h := ite_t h c_11
    exact hj66 _ _ _ _ h hP hD hS _ (lv_sub hl [0, 1, 2] rfl)
  · replace h := ite_f h c_11
    refine lv_aload_n hx hb dX7_readNumber_20 rfl (lv_at hl 0 rfl) ?_
    obtain ⟨r_12, M_13, hc_14, h⟩ := cal_some h
    refine cl_Vi (As := []) (rest := []) C (ct_X7_here hc_14) k_10 (by decide) rfl wl_790 wl_791 wl_792 wl_5 wl_793 hd_X7_here ⟨Nat.le_of_ble_eq_true rfl, Nat.le_of_ble_eq_true rfl⟩ ⟨rfl, rfl⟩ ⟨Nat.zero_le _, Nat.zero_le _⟩ rfl (Nat.le_of_ble_eq_true rfl) rfl hl.1 hP hD hS dX7_readNumber_21 (fun H locs hP hD hS => ?_)
    refine lv_bipush (v := 48) hx hb dX7_readNumber_24 (by decide) ?_
    refine lv_bipush (v := 57) hx hb dX7_readNumber_26 (by decide) ?_
    obtain ⟨r_15, M_16, hc_17, h⟩ := cal_some h
    refine cl_Si (As := [.int r_12, .int (48 : Int32), .int (57 : Int32)]) (rest := []) C (ct_X7_in hc_17) wl_165 wl_166 wl_5 wl_167 hd_X7_in ⟨Nat.le_of_ble_eq_true rfl, Nat.le_of_ble_eq_true rfl⟩ ⟨rfl, rfl⟩ ⟨Nat.zero_le _, Nat.zero_le _⟩ rfl (Nat.le_of_ble_eq_true rfl) rfl hl.1 hP hD hS dX7_readNumber_28 (fun H locs hP hD hS => ?_)
    refine lv_if_eq (tgt := 66) hx hb dX7_readNumber_31 (by decide) (fun c_18 => ?_) (fun c_18 => ?_)
    · replace h := ite_t h c_18
      exact hj66 _ _ _ _ h hP hD hS _ (lv_sub hl [0, 1, 2] rfl)
    · replace h := ite_f h c_18
      refine lv_aload_n hx hb dX7_readNumber_34 rfl (lv_at hl 0 rfl) ?_
      refine lv_bipush (v := 10) hx hb dX7_readNumber_35 (by decide) ?_
      refine lv_aload_n hx hb dX7_readNumber_37 rfl (lv_at hl 0 rfl) ?_
      refine gf_7_15 C hP k_10 wl_781 dX7_readNumber_38 ?_
      refine lv_imul hx hb dX7_readNumber_41 ?_
      refine lv_aload_n hx hb dX7_readNumber_42 rfl (lv_at hl 0 rfl) ?_
      obtain ⟨r_19, M_20, hc_21, h⟩ := cal_some h
      refine cl_Vi (As := []) (rest := [.int ((10 : Int32) * (gI M_16 a0 15)), .ref a0]) C (ct_X7_here hc_21) k_10 (by decide) rfl wl_790 wl_791 wl_792 wl_5 wl_793 hd_X7_here ⟨Nat.le_of_ble_eq_true rfl, Nat.le_of_ble_eq_true rfl⟩ ⟨rfl, rfl⟩ ⟨Nat.zero_le _, Nat.zero_le _⟩ rfl (Nat.le_of_ble_eq_true rfl) rfl hl.1 hP hD hS dX7_readNumber_43 (fun H locs hP hD hS => ?_)
      refine lv_iadd hx hb dX7_readNumber_46 ?_
      refine lv_bipush (v := 48) hx hb dX7_readNumber_47 (by decide) ?_
      refine lv_isub hx hb dX7_readNumber_49 ?_
      refine pf_7_15 C hP hD hS k_10 wl_781 dX7_readNumber_50 (fun M_22 H locs eM_22 hP hD hS => ?_)
      replace h := bnd_at h eM_22
      refine lv_aload_n hx hb dX7_readNumber_53 rfl (lv_at hl 0 rfl) ?_
      refine lv_dup hx hb dX7_readNumber_54 rfl ?_
      refine gf_7_13 C hP k_10 wl_779 dX7_readNumber_55 ?_
      refine lv_iconst (v := 1) hx hb dX7_readNumber_58 (by decide) ?_
      refine lv_iadd hx hb dX7_readNumber_59 ?_
      refine pf_7_13 C hP hD hS k_10 wl_779 dX7_readNumber_60 (fun M_23 H locs eM_23 hP hD hS => ?_)
      replace h := bnd_at h eM_23
      refine lv_goto (tgt := 10) hx hb dX7_readNumber_63 (by decide) ?_
      exact hj10 _ _ _ _ h hP hD hS _ (lv_sub hl [0, 1, 2] rfl)
theorem bt_X7_readNumber_10 {p : Program} {l : Launch} {e : Env} {s : State} {m : MethodId} {args : Array Value} {below : List Frame} {meth : Method} {c : Code} {D : va_G} {cy : Cy} {A : Nat → Prop} {T : Ty} {R : Rm} {r : Int32} {M9 : Mm} {a0 : Nat} {x1 : Int32} {j66 : Int32 → Mm → Option (Int32 × Mm)} (C : Cx RX7 cX7_readNumber 4 (some .boolean) p s m args meth c D cy A)
    (hj66 : ∀ (x2 : Int32) (M : Mm) (H : Heap) (locs : List Loc), j66 x2 M = some (r, M9) → va_P D vwCl (WL cy T M R) H → va_D A (WL cy T M R) → va_S A s.heap H locs → ∀ ls : Array Slot, lv_has ls 4 [(0, .ref a0), (1, .int x1), (2, .int x2)] → W p l e rm_X7_readNumber s m args below meth c H locs 0 0 (MQ below (QcI D cy T M9 R A r) args s 0 0 A) (F0 m 66 ls [])) :
    ∀ n : Nat, ∀ (x2 : Int32) (M : Mm) (H : Heap) (locs : List Loc), fb_X7_readNumber_10 T R a0 x1 j66 n x2 M = some (r, M9) → va_P D vwCl (WL cy T M R) H → va_D A (WL cy T M R) → va_S A s.heap H locs → ∀ ls : Array Slot, lv_has ls 4 [(0, .ref a0), (1, .int x1), (2, .int x2)] → W p l e rm_X7_readNumber s m args below meth c H locs 0 0 (MQ below (QcI D cy T M9 R A r) args s 0 0 A) (F0 m 10 ls []) := by
  intro n
  induction n with
  | zero =>
    intro _ _ H locs h
    exact absurd (show (none : Option (Int32 × Mm)) = some _ from h) (by simp)
  | succ n ih => exact fun u0 u1 H locs h => bs_X7_readNumber_10 (a0 := a0) (x1 := x1) C ih hj66 u0 u1 H locs h
set_option maxHeartbeats 4000000 in
set_option maxRecDepth 100000 in
theorem ct_X7_readNumber {l : Launch} {D : va_G} {cy : Cy} {T : Ty} {R : Rm} {a0 : Nat} {x1 : Int32} {M : Mm} {r : Int32} {M9 : Mm} (h : fn_X7_readNumber T R a0 x1 M = some (r, M9)) : Ct QcI l yX7_readNumber cX7_readNumber 4 (some .boolean) rm_X7_readNumber D cy T M R [.ref a0, .int x1] M9 R r := by
  unfold fn_X7_readNumber at h
  refine enter (plainFor_of_name (by decide +kernel)) (Nat.le_of_ble_eq_true rfl) (fun p e s m args below meth c A C hP hD hS ls hl => ?_)
  have hl : lv_has ls 4 [(0, .ref a0), (1, .int x1)] := hl
  obtain ⟨hx, hb, hr, hml, hown, hts, hK, hA, hlk, hSt⟩ := id C
  refine lv_aload_n hx hb dX7_readNumber_0 rfl (lv_at hl 0 rfl) ?_
  obtain ⟨k_24, h⟩ := chk_some h
  refine gf_7_13 C hP k_24 wl_779 dX7_readNumber_1 ?_
  refine lv_topi (fun v_25 ev_25 => ?_)
  replace h := bnd_at h ev_25
  refine lv_istore_n (lv' := [(2, .int v_25), (0, .ref a0), (1, .int x1)]) hx hb dX7_readNumber_4 rfl hl (by decide) rfl (fun ls hl => ?_)
  refine lv_aload_n hx hb dX7_readNumber_5 rfl (lv_at hl 1 rfl) ?_
  refine lv_iconst (v := 0) hx hb dX7_readNumber_6 (by decide) ?_
  refine pf_7_15 C hP hD hS k_24 wl_781 dX7_readNumber_7 (fun M_26 H locs eM_26 hP hD hS => ?_)
  replace h := bnd_at h eM_26
  exact (bt_X7_readNumber_10 C (bs_X7_readNumber_66 C) FU) _ _ _ _ h hP hD hS _ (lv_sub hl [1, 2, 0] rfl)
abbrev rm_X7_readYear : Room := { frames := 2, cells := 0, slots := 0, locals := 45 }
theorem hd_X7_readYear : yX7_readYear.cls = RX7 ∧ yX7_readYear.cls ≠ "java/lang/invoke/MethodHandle" ∧ yX7_readYear.cls ≠ "java/lang/invoke/VarHandle" ∧ (parseMethodDescriptor yX7_readYear.desc).map (fun d => d.parameters.length) = some 0 := ⟨rfl, by decide +kernel, by decide +kernel, by decide +kernel⟩
set_option maxHeartbeats 4000000 in
set_option maxRecDepth 100000 in
theorem ct_X7_readYear {l : Launch} {D : va_G} {cy : Cy} {T : Ty} {R : Rm} {a0 : Nat} {M : Mm} {r : Int32} {M9 : Mm} (h : fn_X7_readYear T R a0 M = some (r, M9)) : Ct QcI l yX7_readYear cX7_readYear 1 (some .boolean) rm_X7_readYear D cy T M R [.ref a0] M9 R r := by
  unfold fn_X7_readYear at h
  refine enter (plainFor_of_name (by decide +kernel)) (Nat.le_of_ble_eq_true rfl) (fun p e s m args below meth c A C hP hD hS ls hl => ?_)
  have hl : lv_has ls 1 [(0, .ref a0)] := hl
  obtain ⟨hx, hb, hr, hml, hown, hts, hK, hA, hlk, hSt⟩ := id C
  refine lv_aload_n hx hb dX7_readYear_0 rfl (lv_at hl 0 rfl) ?_
  refine lv_bipush (v := 44) hx hb dX7_readYear_1 (by decide) ?_
  obtain ⟨k_1, h⟩ := chk_some h
  obtain ⟨r_2, M_3, hc_4, h⟩ := cal_some h
  refine cl_Vi (As := [.int (44 : Int32)]) (rest := []) C (ct_X7_readNumber hc_4) k_1 (by decide) rfl wl_786 wl_787 wl_788 wl_5 wl_789 hd_X7_readNumber ⟨Nat.le_of_ble_eq_true rfl, Nat.le_of_ble_eq_true rfl⟩ ⟨rfl, rfl⟩ ⟨Nat.zero_le _, Nat.zero_le _⟩ rfl (Nat.le_of_ble_eq_true rfl) rfl hl.1 hP hD hS dX7_readYear_3 (fun H locs hP hD hS => ?_)
  refine lv_if_ne (tgt := 11) hx hb dX7_readYear_6 (by decide) (fun c_5 => ?_) (fun c_5 => ?_)
  · replace h := ite_f h c_5
    refine lv_aload_n hx hb dX7_readYear_11 rfl (lv_at hl 0 rfl) ?_
    refine lv_aload_n hx hb dX7_readYear_12 rfl (lv_at hl 0 rfl) ?_
    refine gf_7_15 C hP k_1 wl_781 dX7_readYear_13 ?_
    refine pf_7_16 C hP hD hS k_1 wl_780 dX7_readYear_16 (fun M_6 H locs eM_6 hP hD hS => ?_)
    replace h := bnd_at h eM_6
    refine lv_aload_n hx hb dX7_readYear_19 rfl (lv_at hl 0 rfl) ?_
    refine lv_bipush (v := 59) hx hb dX7_readYear_20 (by decide) ?_
    obtain ⟨r_7, M_8, hc_9, h⟩ := cal_some h
    refine cl_Vi (As := [.int (59 : Int32)]) (rest := []) C (ct_X7_readNumber hc_9) k_1 (by decide) rfl wl_786 wl_787 wl_788 wl_5 wl_789 hd_X7_readNumber ⟨Nat.le_of_ble_eq_true rfl, Nat.le_of_ble_eq_true rfl⟩ ⟨rfl, rfl⟩ ⟨Nat.zero_le _, Nat.zero_le _⟩ rfl (Nat.le_of_ble_eq_true rfl) rfl hl.1 hP hD hS dX7_readYear_22 (fun H locs hP hD hS => ?_)
    obtain ⟨k_10, h⟩ := chk_some h
    cases h
    exact rt_z C hP hD hS k_10 dX7_readYear_25
  · replace h := ite_t h c_5
    refine lv_iconst (v := 0) hx hb dX7_readYear_9 (by decide) ?_
    cases h
    exact rt_z C hP hD hS rfl dX7_readYear_10
abbrev rm_X7_reason : Room := { frames := 3, cells := 0, slots := 0, locals := 65 }
theorem hd_X7_reason : yX7_reason.cls = RX7 ∧ yX7_reason.cls ≠ "java/lang/invoke/MethodHandle" ∧ yX7_reason.cls ≠ "java/lang/invoke/VarHandle" ∧ (parseMethodDescriptor yX7_reason.desc).map (fun d => d.parameters.length) = some 0 := ⟨rfl, by decide +kernel, by decide +kernel, by decide +kernel⟩
set_option maxHeartbeats 4000000 in
set_option maxRecDepth 100000 in
theorem bs_X7_reason_13 {p : Program} {l : Launch} {e : Env} {s : State} {m : MethodId} {args : Array Value} {below : List Frame} {meth : Method} {c : Code} {D : va_G} {cy : Cy} {A : Nat → Prop} {T : Ty} {R : Rm} {r : Int32} {M9 : Mm} {a0 : Nat} {j13 : Int32 → Mm → Option (Int32 × Mm)} (C : Cx RX7 cX7_reason 2 (some .int) p s m args meth c D cy A)
    (hj13 : ∀ (x1 : Int32) (M : Mm) (H : Heap) (locs : List Loc), j13 x1 M = some (r, M9) → va_P D vwCl (WL cy T M R) H → va_D A (WL cy T M R) → va_S A s.heap H locs → ∀ ls : Array Slot, lv_has ls 2 [(0, .ref a0), (1, .int x1)] → W p l e rm_X7_reason s m args below meth c H locs 0 0 (MQ below (QcI D cy T M9 R A r) args s 0 0 A) (F0 m 13 ls [])) :
    ∀ (x1 : Int32) (M : Mm) (H : Heap) (locs : List Loc), fs_X7_reason_13 T R a0 j13 x1 M = some (r, M9) → va_P D vwCl (WL cy T M R) H → va_D A (WL cy T M R) → va_S A s.heap H locs → ∀ ls : Array Slot, lv_has ls 2 [(0, .ref a0), (1, .int x1)] → W p l e rm_X7_reason s m args below meth c H locs 0 0 (MQ below (QcI D cy T M9 R A r) args s 0 0 A) (F0 m 13 ls []) := by
  intro x1 M H locs h hP hD hS ls hl
  unfold fs_X7_reason_13 at h
  obtain ⟨hx, hb, hr, hml, hown, hts, hK, hA, hlk, hSt⟩ := id C
  refine lv_aload_n hx hb dX7_reason_13 rfl (lv_at hl 0 rfl) ?_
  obtain ⟨k_1, h⟩ := chk_some h
  refine gf_7_13 C hP k_1 wl_779 dX7_reason_14 ?_
  refine lv_aload_n hx hb dX7_reason_17 rfl (lv_at hl 0 rfl) ?_
  refine gf_7_12 C hP k_1 wl_449 dX7_reason_18 ?_
  refine lv_icmp_ge (tgt := 78) hx hb dX7_reason_21 (by decide) (fun c_2 => ?_) (fun c_2 => ?_)
  · replace h := ite_t h c_2
    refine lv_iconst (v := 0) hx hb dX7_reason_78 (by decide) ?_
    cases h
    exact rt_i C hP hD hS dX7_reason_79
  · replace h := ite_f h c_2
    refine lv_aload_n hx hb dX7_reason_24 rfl (lv_at hl 0 rfl) ?_
    refine lv_aload_n hx hb dX7_reason_25 rfl (lv_at hl 0 rfl) ?_
    refine gf_7_13 C hP k_1 wl_779 dX7_reason_26 ?_
    refine pf_7_14 C hP hD hS k_1 wl_774 dX7_reason_29 (fun M_3 H locs eM_3 hP hD hS => ?_)
    replace h := bnd_at h eM_3
    refine lv_aload_n hx hb dX7_reason_32 rfl (lv_at hl 0 rfl) ?_
    obtain ⟨r_4, M_5, hc_6, h⟩ := cal_some h
    refine cl_Vi (As := []) (rest := []) C (ct_X7_readYear hc_6) k_1 (by decide) rfl wl_782 wl_783 wl_784 wl_5 wl_785 hd_X7_readYear ⟨Nat.le_of_ble_eq_true rfl, Nat.le_of_ble_eq_true rfl⟩ ⟨rfl, rfl⟩ ⟨Nat.zero_le _, Nat.zero_le _⟩ rfl (Nat.le_of_ble_eq_true rfl) rfl hl.1 hP hD hS dX7_reason_33 (fun H locs hP hD hS => ?_)
    refine lv_if_ne (tgt := 41) hx hb dX7_reason_36 (by decide) (fun c_7 => ?_) (fun c_7 => ?_)
    · replace h := ite_f h c_7
      refine lv_aload_n hx hb dX7_reason_41 rfl (lv_at hl 0 rfl) ?_
      refine gf_7_16 C hP k_1 wl_780 dX7_reason_42 ?_
      refine lv_sipush (v := 5000) hx hb dX7_reason_45 (by decide) ?_
      refine lv_icmp_gt (tgt := 61) hx hb dX7_reason_48 (by decide) (fun c_8 => ?_) (fun c_8 => ?_)
      · replace h := ite_t h c_8
        refine lv_iconst (v := 2) hx hb dX7_reason_61 (by decide) ?_
        cases h
        exact rt_i C hP hD hS dX7_reason_62
      · replace h := ite_f h c_8
        refine lv_aload_n hx hb dX7_reason_51 rfl (lv_at hl 0 rfl) ?_
        refine gf_7_15 C hP k_1 wl_781 dX7_reason_52 ?_
        refine lv_sipush (v := 9000) hx hb dX7_reason_55 (by decide) ?_
        refine lv_icmp_le (tgt := 63) hx hb dX7_reason_58 (by decide) (fun c_9 => ?_) (fun c_9 => ?_)
        · replace h := ite_t h c_9
          refine lv_iload_n hx hb dX7_reason_63 rfl (lv_at hl 1 rfl) ?_
          refine lv_sipush (v := 500) hx hb dX7_reason_64 (by decide) ?_
          refine lv_icmp_ne (tgt := 72) hx hb dX7_reason_67 (by decide) (fun c_10 => ?_) (fun c_10 => ?_)
          · replace h := ite_f h c_10
            obtain ⟨v_11, ev_11⟩ : ∃ y : Int32, y = (x1 + (1 : Int32)) := ⟨_, rfl⟩
            replace h := bnd_at h ev_11
            refine lv_iinc (v := v_11) (lv' := [(1, .int v_11), (0, .ref a0)]) hx hb dX7_reason_72 hl (k := 1) rfl (by rw [ev_11]; rfl) (by decide) rfl (fun ls hl => ?_)
            refine lv_goto (tgt := 13) hx hb dX7_reason_75 (by decide) ?_
            exact hj13 _ _ _ _ h hP hD hS _ (lv_sub hl [1, 0] rfl)
          · replace h := ite_t h c_10
            refine lv_iconst (v := 3) hx hb dX7_reason_70 (by decide) ?_
            cases h
            exact rt_i C hP hD hS dX7_reason_71
        · replace h := ite_f h c_9
          refine lv_iconst (v := 2) hx hb dX7_reason_61 (by decide) ?_
          cases h
          exact rt_i C hP hD hS dX7_reason_62
    · replace h := ite_t h c_7
      refine lv_iconst (v := 1) hx hb dX7_reason_39 (by decide) ?_
      cases h
      exact rt_i C hP hD hS dX7_reason_40
theorem bt_X7_reason_13 {p : Program} {l : Launch} {e : Env} {s : State} {m : MethodId} {args : Array Value} {below : List Frame} {meth : Method} {c : Code} {D : va_G} {cy : Cy} {A : Nat → Prop} {T : Ty} {R : Rm} {r : Int32} {M9 : Mm} {a0 : Nat} (C : Cx RX7 cX7_reason 2 (some .int) p s m args meth c D cy A) :
    ∀ n : Nat, ∀ (x1 : Int32) (M : Mm) (H : Heap) (locs : List Loc), fb_X7_reason_13 T R a0 n x1 M = some (r, M9) → va_P D vwCl (WL cy T M R) H → va_D A (WL cy T M R) → va_S A s.heap H locs → ∀ ls : Array Slot, lv_has ls 2 [(0, .ref a0), (1, .int x1)] → W p l e rm_X7_reason s m args below meth c H locs 0 0 (MQ below (QcI D cy T M9 R A r) args s 0 0 A) (F0 m 13 ls []) := by
  intro n
  induction n with
  | zero =>
    intro _ _ H locs h
    exact absurd (show (none : Option (Int32 × Mm)) = some _ from h) (by simp)
  | succ n ih => exact fun u0 u1 H locs h => bs_X7_reason_13 (a0 := a0) C ih u0 u1 H locs h
set_option maxHeartbeats 4000000 in
set_option maxRecDepth 100000 in
theorem ct_X7_reason {l : Launch} {D : va_G} {cy : Cy} {T : Ty} {R : Rm} {a0 : Nat} {M : Mm} {r : Int32} {M9 : Mm} (h : fn_X7_reason T R a0 M = some (r, M9)) : Ct QcI l yX7_reason cX7_reason 2 (some .int) rm_X7_reason D cy T M R [.ref a0] M9 R r := by
  unfold fn_X7_reason at h
  refine enter (plainFor_of_name (by decide +kernel)) (Nat.le_of_ble_eq_true rfl) (fun p e s m args below meth c A C hP hD hS ls hl => ?_)
  have hl : lv_has ls 2 [(0, .ref a0)] := hl
  obtain ⟨hx, hb, hr, hml, hown, hts, hK, hA, hlk, hSt⟩ := id C
  refine lv_aload_n hx hb dX7_reason_0 rfl (lv_at hl 0 rfl) ?_
  refine lv_iconst (v := 0) hx hb dX7_reason_1 (by decide) ?_
  obtain ⟨k_12, h⟩ := chk_some h
  refine pf_7_13 C hP hD hS k_12 wl_779 dX7_reason_2 (fun M_13 H locs eM_13 hP hD hS => ?_)
  replace h := bnd_at h eM_13
  refine lv_aload_n hx hb dX7_reason_5 rfl (lv_at hl 0 rfl) ?_
  obtain ⟨b_14, eb_14, h⟩ := rfm_some h
  refine gf_7_0 C hP k_12 eb_14 wl_100 dX7_reason_6 ?_
  refine lv_bipush (v := 7) hx hb dX7_reason_9 (by decide) ?_
  obtain ⟨k_15, h⟩ := chk_some h
  obtain ⟨k_16, h⟩ := chk_some h
  refine ar_9 C hP k_15 k_16 dX7_reason_11 ?_
  refine lv_topi (fun v_17 ev_17 => ?_)
  replace h := bnd_at h ev_17
  refine lv_istore_n (lv' := [(1, .int v_17), (0, .ref a0)]) hx hb dX7_reason_12 rfl hl (by decide) rfl (fun ls hl => ?_)
  exact (bt_X7_reason_13 C FU) _ _ _ _ h hP hD hS _ (lv_sub hl [1, 0] rfl)
abbrev rm_X7_fault : Room := { frames := 4, cells := 0, slots := 0, locals := 86 }
theorem hd_X7_fault : yX7_fault.cls = RX7 ∧ yX7_fault.cls ≠ "java/lang/invoke/MethodHandle" ∧ yX7_fault.cls ≠ "java/lang/invoke/VarHandle" ∧ (parseMethodDescriptor yX7_fault.desc).map (fun d => d.parameters.length) = some 1 := ⟨rfl, by decide +kernel, by decide +kernel, by decide +kernel⟩
set_option maxHeartbeats 4000000 in
set_option maxRecDepth 100000 in
theorem ct_X7_fault {l : Launch} {D : va_G} {cy : Cy} {T : Ty} {R : Rm} {a0 : Nat} {x1 : Int32} {M : Mm} {r : Int32} {M9 : Mm} (h : fn_X7_fault T R a0 x1 M = some (r, M9)) : Ct QcI l yX7_fault cX7_fault 3 (some .int) rm_X7_fault D cy T M R [.ref a0, .int x1] M9 R r := by
  unfold fn_X7_fault at h
  refine enter (plainFor_of_name (by decide +kernel)) (Nat.le_of_ble_eq_true rfl) (fun p e s m args below meth c A C hP hD hS ls hl => ?_)
  have hl : lv_has ls 3 [(0, .ref a0), (1, .int x1)] := hl
  obtain ⟨hx, hb, hr, hml, hown, hts, hK, hA, hlk, hSt⟩ := id C
  refine lv_iload_n hx hb dX7_fault_0 rfl (lv_at hl 1 rfl) ?_
  refine lv_iconst (v := 0) hx hb dX7_fault_1 (by decide) ?_
  refine lv_iconst (v := 1) hx hb dX7_fault_2 (by decide) ?_
  obtain ⟨r_1, M_2, hc_3, h⟩ := cal_some h
  refine cl_Si (As := [.int x1, .int (0 : Int32), .int (1 : Int32)]) (rest := []) C (ct_X7_in hc_3) wl_165 wl_166 wl_5 wl_167 hd_X7_in ⟨Nat.le_of_ble_eq_true rfl, Nat.le_of_ble_eq_true rfl⟩ ⟨rfl, rfl⟩ ⟨Nat.zero_le _, Nat.zero_le _⟩ rfl (Nat.le_of_ble_eq_true rfl) rfl hl.1 hP hD hS dX7_fault_3 (fun H locs hP hD hS => ?_)
  refine lv_if_ne (tgt := 12) hx hb dX7_fault_6 (by decide) (fun c_4 => ?_) (fun c_4 => ?_)
  · replace h := ite_f h c_4
    refine lv_aload_n hx hb dX7_fault_12 rfl (lv_at hl 0 rfl) ?_
    obtain ⟨k_5, h⟩ := chk_some h
    obtain ⟨r_6, M_7, hc_8, h⟩ := cal_some h
    refine cl_Vi (As := []) (rest := []) C (ct_X7_reason hc_8) k_5 (by decide) rfl wl_775 wl_776 wl_777 wl_5 wl_778 hd_X7_reason ⟨Nat.le_of_ble_eq_true rfl, Nat.le_of_ble_eq_true rfl⟩ ⟨rfl, rfl⟩ ⟨Nat.zero_le _, Nat.zero_le _⟩ rfl (Nat.le_of_ble_eq_true rfl) rfl hl.1 hP hD hS dX7_fault_13 (fun H locs hP hD hS => ?_)
    refine lv_istore_n (lv' := [(2, .int r_6), (0, .ref a0), (1, .int x1)]) hx hb dX7_fault_16 rfl hl (by decide) rfl (fun ls hl => ?_)
    refine lv_iload_n hx hb dX7_fault_17 rfl (lv_at hl 0 rfl) ?_
    refine lv_if_ne (tgt := 26) hx hb dX7_fault_18 (by decide) (fun c_9 => ?_) (fun c_9 => ?_)
    · replace h := ite_f h c_9
      refine lv_iload_n hx hb dX7_fault_26 rfl (lv_at hl 2 rfl) ?_
      refine lv_if_ne (tgt := 37) hx hb dX7_fault_27 (by decide) (fun c_10 => ?_) (fun c_10 => ?_)
      · replace h := ite_f h c_10
        refine lv_iload_n hx hb dX7_fault_37 rfl (lv_at hl 0 rfl) ?_
        cases h
        exact rt_i C hP hD hS dX7_fault_38
      · replace h := ite_t h c_10
        refine lv_aload_n hx hb dX7_fault_30 rfl (lv_at hl 1 rfl) ?_
        refine gf_7_14 C hP k_5 wl_774 dX7_fault_31 ?_
        refine lv_goto (tgt := 38) hx hb dX7_fault_34 (by decide) ?_
        cases h
        exact rt_i C hP hD hS dX7_fault_38
    · replace h := ite_t h c_9
      refine lv_ldc (own := RX7) (v := -2000000004) hx hb hown (hts _ wl_324) dX7_fault_21 ?_
      refine lv_goto (tgt := 38) hx hb dX7_fault_23 (by decide) ?_
      cases h
      exact rt_i C hP hD hS dX7_fault_38
  · replace h := ite_t h c_4
    refine lv_ldc (own := RX7) (v := -2000000001) hx hb hown (hts _ wl_160) dX7_fault_9 ?_
    cases h
    exact rt_i C hP hD hS dX7_fault_11
abbrev rm_X7_live : Room := { frames := 4, cells := 0, slots := 0, locals := 92 }
theorem hd_X7_live : yX7_live.cls = RX7 ∧ yX7_live.cls ≠ "java/lang/invoke/MethodHandle" ∧ yX7_live.cls ≠ "java/lang/invoke/VarHandle" ∧ (parseMethodDescriptor yX7_live.desc).map (fun d => d.parameters.length) = some 0 := ⟨rfl, by decide +kernel, by decide +kernel, by decide +kernel⟩
set_option maxHeartbeats 4000000 in
set_option maxRecDepth 100000 in
theorem bs_X7_live_31 {p : Program} {l : Launch} {e : Env} {s : State} {m : MethodId} {args : Array Value} {below : List Frame} {meth : Method} {c : Code} {D : va_G} {cy : Cy} {A : Nat → Prop} {T : Ty} {R : Rm} {r : Int32} {M9 : Mm} {a0 : Nat} {j31 : Int32 → Mm → Option (Int32 × Mm)} (C : Cx RX7 cX7_live 2 (some .int) p s m args meth c D cy A)
    (hj31 : ∀ (x1 : Int32) (M : Mm) (H : Heap) (locs : List Loc), j31 x1 M = some (r, M9) → va_P D vwCl (WL cy T M R) H → va_D A (WL cy T M R) → va_S A s.heap H locs → ∀ ls : Array Slot, lv_has ls 2 [(0, .ref a0), (1, .int x1)] → W p l e rm_X7_live s m args below meth c H locs 0 0 (MQ below (QcI D cy T M9 R A r) args s 0 0 A) (F0 m 31 ls [])) :
    ∀ (x1 : Int32) (M : Mm) (H : Heap) (locs : List Loc), fs_X7_live_31 T R a0 j31 x1 M = some (r, M9) → va_P D vwCl (WL cy T M R) H → va_D A (WL cy T M R) → va_S A s.heap H locs → ∀ ls : Array Slot, lv_has ls 2 [(0, .ref a0), (1, .int x1)] → W p l e rm_X7_live s m args below meth c H locs 0 0 (MQ below (QcI D cy T M9 R A r) args s 0 0 A) (F0 m 31 ls []) := by
  intro x1 M H locs h hP hD hS ls hl
  unfold fs_X7_live_31 at h
  obtain ⟨hx, hb, hr, hml, hown, hts, hK, hA, hlk, hSt⟩ := id C
  refine lv_aload_n hx hb dX7_live_31 rfl (lv_at hl 0 rfl) ?_
  obtain ⟨k_1, h⟩ := chk_some h
  refine gf_7_13 C hP k_1 wl_779 dX7_live_32 ?_
  refine lv_aload_n hx hb dX7_live_35 rfl (lv_at hl 0 rfl) ?_
  refine gf_7_12 C hP k_1 wl_449 dX7_live_36 ?_
  refine lv_icmp_ge (tgt := 79) hx hb dX7_live_39 (by decide) (fun c_2 => ?_) (fun c_2 => ?_)
  · replace h := ite_t h c_2
    refine lv_iload_n hx hb dX7_live_79 rfl (lv_at hl 1 rfl) ?_
    cases h
    exact rt_i C hP hD hS dX7_live_80
  · replace h := ite_f h c_2
    refine lv_aload_n hx hb dX7_live_42 rfl (lv_at hl 0 rfl) ?_
    obtain ⟨r_3, M_4, hc_5, h⟩ := cal_some h
    refine cl_Vi (As := []) (rest := []) C (ct_X7_readYear hc_5) k_1 (by decide) rfl wl_782 wl_783 wl_784 wl_5 wl_785 hd_X7_readYear ⟨Nat.le_of_ble_eq_true rfl, Nat.le_of_ble_eq_true rfl⟩ ⟨rfl, rfl⟩ ⟨Nat.zero_le _, Nat.zero_le _⟩ rfl (Nat.le_of_ble_eq_true rfl) rfl hl.1 hP hD hS dX7_live_43 (fun H locs hP hD hS => ?_)
    refine lv_if_eq (tgt := 79) hx hb dX7_live_46 (by decide) (fun c_6 => ?_) (fun c_6 => ?_)
    · replace h := ite_t h c_6
      refine lv_iload_n hx hb dX7_live_79 rfl (lv_at hl 1 rfl) ?_
      cases h
      exact rt_i C hP hD hS dX7_live_80
    · replace h := ite_f h c_6
      refine lv_aload_n hx hb dX7_live_49 rfl (lv_at hl 0 rfl) ?_
      obtain ⟨b_7, eb_7, h⟩ := rfm_some h
      refine gf_7_0 C hP k_1 eb_7 wl_100 dX7_live_50 ?_
      refine lv_iconst (v := 0) hx hb dX7_live_53 (by decide) ?_
      refine lv_aload_n hx hb dX7_live_54 rfl (lv_at hl 0 rfl) ?_
      refine gf_7_16 C hP k_1 wl_780 dX7_live_55 ?_
      obtain ⟨k_8, h⟩ := chk_some h
      obtain ⟨k_9, h⟩ := chk_some h
      refine aw_9 C hP hD hS k_8 k_9 dX7_live_58 (fun M_10 H locs eM_10 hP hD hS => ?_)
      replace h := bnd_at h eM_10
      refine lv_aload_n hx hb dX7_live_59 rfl (lv_at hl 0 rfl) ?_
      refine gf_7_0 C hP k_1 eb_7 wl_100 dX7_live_60 ?_
      refine lv_iconst (v := 2) hx hb dX7_live_63 (by decide) ?_
      refine lv_aload_n hx hb dX7_live_64 rfl (lv_at hl 0 rfl) ?_
      refine gf_7_15 C hP k_1 wl_781 dX7_live_65 ?_
      obtain ⟨k_11, h⟩ := chk_some h
      refine aw_9 C hP hD hS k_8 k_11 dX7_live_68 (fun M_12 H locs eM_12 hP hD hS => ?_)
      replace h := bnd_at h eM_12
      refine lv_aload_n hx hb dX7_live_69 rfl (lv_at hl 0 rfl) ?_
      obtain ⟨r_13, M_14, hc_15, h⟩ := cal_some h
      refine cl_Vv (As := []) (rest := []) C (ct_X7_year hc_15) k_1 (by decide) rfl wl_608 wl_609 wl_610 wl_5 wl_611 hd_X7_year ⟨Nat.le_of_ble_eq_true rfl, Nat.le_of_ble_eq_true rfl⟩ ⟨rfl, rfl⟩ ⟨Nat.zero_le _, Nat.zero_le _⟩ rfl (Nat.le_of_ble_eq_true rfl) rfl hl.1 hP hD hS dX7_live_70 (fun H locs hP hD hS => ?_)
      obtain ⟨v_16, ev_16⟩ : ∃ y : Int32, y = (x1 + (1 : Int32)) := ⟨_, rfl⟩
      replace h := bnd_at h ev_16
      refine lv_iinc (v := v_16) (lv' := [(1, .int v_16), (0, .ref a0)]) hx hb dX7_live_73 hl (k := 1) rfl (by rw [ev_16]; rfl) (by decide) rfl (fun ls hl => ?_)
      refine lv_goto (tgt := 31) hx hb dX7_live_76 (by decide) ?_
      exact hj31 _ _ _ _ h hP hD hS _ (lv_sub hl [1, 0] rfl)
theorem bt_X7_live_31 {p : Program} {l : Launch} {e : Env} {s : State} {m : MethodId} {args : Array Value} {below : List Frame} {meth : Method} {c : Code} {D : va_G} {cy : Cy} {A : Nat → Prop} {T : Ty} {R : Rm} {r : Int32} {M9 : Mm} {a0 : Nat} (C : Cx RX7 cX7_live 2 (some .int) p s m args meth c D cy A) :
    ∀ n : Nat, ∀ (x1 : Int32) (M : Mm) (H : Heap) (locs : List Loc), fb_X7_live_31 T R a0 n x1 M = some (r, M9) → va_P D vwCl (WL cy T M R) H → va_D A (WL cy T M R) → va_S A s.heap H locs → ∀ ls : Array Slot, lv_has ls 2 [(0, .ref a0), (1, .int x1)] → W p l e rm_X7_live s m args below meth c H locs 0 0 (MQ below (QcI D cy T M9 R A r) args s 0 0 A) (F0 m 31 ls []) := by
  intro n
  induction n with
  | zero =>
    intro _ _ H locs h
    exact absurd (show (none : Option (Int32 × Mm)) = some _ from h) (by simp)
  | succ n ih => exact fun u0 u1 H locs h => bs_X7_live_31 (a0 := a0) C ih u0 u1 H locs h
set_option maxHeartbeats 4000000 in
set_option maxRecDepth 100000 in
theorem ct_X7_live {l : Launch} {D : va_G} {cy : Cy} {T : Ty} {R : Rm} {a0 : Nat} {M : Mm} {r : Int32} {M9 : Mm} (h : fn_X7_live T R a0 M = some (r, M9)) : Ct QcI l yX7_live cX7_live 2 (some .int) rm_X7_live D cy T M R [.ref a0] M9 R r := by
  unfold fn_X7_live at h
  refine enter (plainFor_of_name (by decide +kernel)) (Nat.le_of_ble_eq_true rfl) (fun p e s m args below meth c A C hP hD hS ls hl => ?_)
  have hl : lv_has ls 2 [(0, .ref a0)] := hl
  obtain ⟨hx, hb, hr, hml, hown, hts, hK, hA, hlk, hSt⟩ := id C
  refine lv_aload_n hx hb dX7_live_0 rfl (lv_at hl 0 rfl) ?_
  obtain ⟨k_17, h⟩ := chk_some h
  obtain ⟨r_18, M_19, hc_20, h⟩ := cal_some h
  refine cl_Vi (As := []) (rest := []) C (ct_X7_reason hc_20) k_17 (by decide) rfl wl_775 wl_776 wl_777 wl_5 wl_778 hd_X7_reason ⟨Nat.le_of_ble_eq_true rfl, Nat.le_of_ble_eq_true rfl⟩ ⟨rfl, rfl⟩ ⟨Nat.zero_le _, Nat.zero_le _⟩ rfl (Nat.le_of_ble_eq_true rfl) rfl hl.1 hP hD hS dX7_live_1 (fun H locs hP hD hS => ?_)
  refine lv_if_ne (tgt := 17) hx hb dX7_live_4 (by decide) (fun c_21 => ?_) (fun c_21 => ?_)
  · replace h := ite_f h c_21
    refine lv_ldc (own := RX7) (v := -2000000002) hx hb hown (hts _ wl_238) dX7_live_17 ?_
    cases h
    exact rt_i C hP hD hS dX7_live_19
  · replace h := ite_t h c_21
    refine lv_aload_n hx hb dX7_live_7 rfl (lv_at hl 0 rfl) ?_
    obtain ⟨b_22, eb_22, h⟩ := rfm_some h
    refine gf_7_0 C hP k_17 eb_22 wl_100 dX7_live_8 ?_
    refine lv_bipush (v := 8) hx hb dX7_live_11 (by decide) ?_
    obtain ⟨k_23, h⟩ := chk_some h
    obtain ⟨k_24, h⟩ := chk_some h
    refine ar_9 C hP k_23 k_24 dX7_live_13 ?_
    refine lv_if_ne (tgt := 20) hx hb dX7_live_14 (by decide) (fun c_25 => ?_) (fun c_25 => ?_)
    · replace h := ite_f h c_25
      refine lv_aload_n hx hb dX7_live_20 rfl (lv_at hl 0 rfl) ?_
      obtain ⟨r_26, M_27, hc_28, h⟩ := cal_some h
      refine cl_Vv (As := []) (rest := []) C (ct_X7_keep hc_28) k_17 (by decide) rfl wl_168 wl_169 wl_170 wl_5 wl_171 hd_X7_keep ⟨Nat.le_of_ble_eq_true rfl, Nat.le_of_ble_eq_true rfl⟩ ⟨rfl, rfl⟩ ⟨Nat.zero_le _, Nat.zero_le _⟩ rfl (Nat.le_of_ble_eq_true rfl) rfl hl.1 hP hD hS dX7_live_21 (fun H locs hP hD hS => ?_)
      refine lv_iconst (v := 0) hx hb dX7_live_24 (by decide) ?_
      refine lv_istore_n (lv' := [(1, .int (0 : Int32)), (0, .ref a0)]) hx hb dX7_live_25 rfl hl (by decide) rfl (fun ls hl => ?_)
      refine lv_aload_n hx hb dX7_live_26 rfl (lv_at hl 1 rfl) ?_
      refine lv_iconst (v := 0) hx hb dX7_live_27 (by decide) ?_
      refine pf_7_13 C hP hD hS k_17 wl_779 dX7_live_28 (fun M_29 H locs eM_29 hP hD hS => ?_)
      replace h := bnd_at h eM_29
      exact (bt_X7_live_31 C FU) _ _ _ _ h hP hD hS _ (lv_sub hl [1, 0] rfl)
    · replace h := ite_t h c_25
      refine lv_ldc (own := RX7) (v := -2000000002) hx hb hown (hts _ wl_238) dX7_live_17 ?_
      cases h
      exact rt_i C hP hD hS dX7_live_19
