abbrev rm_X6_isWithin : Room := { frames := 0, cells := 0, slots := 0, locals := 0 }
theorem hd_X6_isWithin : yX6_isWithin.cls ≠ "java/lang/invoke/MethodHandle" ∧ yX6_isWithin.cls ≠ "java/lang/invoke/VarHandle" ∧ (parseMethodDescriptor yX6_isWithin.desc).map (fun d => d.parameters.length) = some 3 := ⟨by decide +kernel, by decide +kernel, by decide +kernel⟩
set_option maxHeartbeats 4000000 in
set_option maxRecDepth 100000 in
theorem ct_X6_isWithin {l : Launch} {D : va_G} {cy : Cy} {T : Ty} {R : Rm} {x0 : Int32} {x1 : Int32} {x2 : Int32} {M : Mm} {r : Int32} {M9 : Mm} (h : fn_X6_isWithin T R x0 x1 x2 M = some (r, M9)) : Ct QcI l yX6_isWithin cX6_isWithin 3 (some .boolean) rm_X6_isWithin D cy T M R [.int x0, .int x1, .int x2] M9 R r := by
  unfold fn_X6_isWithin at h
  refine enter (plainFor_of_name (by decide +kernel)) (Nat.le_of_ble_eq_true rfl) (fun p e s m args below meth c A C hP hD hS ls hl => ?_)
  have hl : lv_has ls 3 [(0, .int x0), (1, .int x1), (2, .int x2)] := hl
  obtain ⟨hx, hb, hr, hml, hown, hts, hK, hA, hlk, hSt⟩ := id C
  refine lv_iload_n hx hb dX6_isWithin_0 rfl (lv_at hl 0 rfl) ?_
  refine lv_iload_n hx hb dX6_isWithin_1 rfl (lv_at hl 1 rfl) ?_
  refine lv_icmp_lt (tgt := 14) hx hb dX6_isWithin_2 (by decide) (fun c_1 => ?_) (fun c_1 => ?_)
  · replace h := ite_t h c_1
    refine lv_iconst (v := 0) hx hb dX6_isWithin_14 (by decide) ?_
    cases h
    exact rt_z C hP hD hS rfl dX6_isWithin_15
  · replace h := ite_f h c_1
    refine lv_iload_n hx hb dX6_isWithin_5 rfl (lv_at hl 0 rfl) ?_
    refine lv_iload_n hx hb dX6_isWithin_6 rfl (lv_at hl 2 rfl) ?_
    refine lv_icmp_gt (tgt := 14) hx hb dX6_isWithin_7 (by decide) (fun c_2 => ?_) (fun c_2 => ?_)
    · replace h := ite_t h c_2
      refine lv_iconst (v := 0) hx hb dX6_isWithin_14 (by decide) ?_
      cases h
      exact rt_z C hP hD hS rfl dX6_isWithin_15
    · replace h := ite_f h c_2
      refine lv_iconst (v := 1) hx hb dX6_isWithin_10 (by decide) ?_
      refine lv_goto (tgt := 15) hx hb dX6_isWithin_11 (by decide) ?_
      cases h
      exact rt_z C hP hD hS rfl dX6_isWithin_15
abbrev rm_X6_dropOldestState : Room := { frames := 0, cells := 0, slots := 0, locals := 0 }
theorem hd_X6_dropOldestState : yX6_dropOldestState.cls = RX6 ∧ yX6_dropOldestState.cls ≠ "java/lang/invoke/MethodHandle" ∧ yX6_dropOldestState.cls ≠ "java/lang/invoke/VarHandle" ∧ (parseMethodDescriptor yX6_dropOldestState.desc).map (fun d => d.parameters.length) = some 0 := ⟨rfl, by decide +kernel, by decide +kernel, by decide +kernel⟩
set_option maxHeartbeats 4000000 in
set_option maxRecDepth 100000 in
theorem bs_X6_dropOldestState_9 {p : Program} {l : Launch} {e : Env} {s : State} {m : MethodId} {args : Array Value} {below : List Frame} {meth : Method} {c : Code} {D : va_G} {cy : Cy} {A : Nat → Prop} {T : Ty} {R9 : Rm} {r : Unit} {M9 : Mm} {a0 : Nat} {j9 : Nat → Int32 → Mm → Rm → Option (Unit × Mm × Rm)} (C : Cx RX6 cX6_dropOldestState 3 none p s m args meth c D cy A)
    (hj9 : ∀ (a1 : Nat) (x2 : Int32) (M : Mm) (R : Rm) (H : Heap) (locs : List Loc), j9 a1 x2 M R = some (r, M9, R9) → va_P D vwCl (WL cy T M R) H → va_D A (WL cy T M R) → va_S A s.heap H locs → ∀ ls : Array Slot, lv_has ls 3 [(0, .ref a0), (1, .ref a1), (2, .int x2)] → W p l e rm_X6_dropOldestState s m args below meth c H locs 0 0 (MQ below (QcV D cy T M9 R9 A r) args s 0 0 A) (F0 m 9 ls [])) :
    ∀ (a1 : Nat) (x2 : Int32) (M : Mm) (R : Rm) (H : Heap) (locs : List Loc), fs_X6_dropOldestState_9 T a0 j9 a1 x2 M R = some (r, M9, R9) → va_P D vwCl (WL cy T M R) H → va_D A (WL cy T M R) → va_S A s.heap H locs → ∀ ls : Array Slot, lv_has ls 3 [(0, .ref a0), (1, .ref a1), (2, .int x2)] → W p l e rm_X6_dropOldestState s m args below meth c H locs 0 0 (MQ below (QcV D cy T M9 R9 A r) args s 0 0 A) (F0 m 9 ls []) := by
  intro a1 x2 M R H locs h hP hD hS ls hl
  unfold fs_X6_dropOldestState_9 at h
  obtain ⟨hx, hb, hr, hml, hown, hts, hK, hA, hlk, hSt⟩ := id C
  refine lv_iload_n hx hb dX6_dropOldestState_9 rfl (lv_at hl 2 rfl) ?_
  refine lv_aload_n hx hb dX6_dropOldestState_10 rfl (lv_at hl 0 rfl) ?_
  obtain ⟨k_1, h⟩ := chk_some h
  obtain ⟨b_2, eb_2, h⟩ := rfm_some h
  refine gf_6_1 C hP k_1 eb_2 wl_16 dX6_dropOldestState_11 ?_
  obtain ⟨k_3, h⟩ := chk_some h
  refine al_13 C hP k_3 dX6_dropOldestState_14 ?_
  refine lv_icmp_ge (tgt := 38) hx hb dX6_dropOldestState_15 (by decide) (fun c_4 => ?_) (fun c_4 => ?_)
  · replace h := ite_t h c_4
    refine lv_aload_n hx hb dX6_dropOldestState_38 rfl (lv_at hl 0 rfl) ?_
    refine gf_6_1 C hP k_1 eb_2 wl_16 dX6_dropOldestState_39 ?_
    refine lv_iconst (v := 3) hx hb dX6_dropOldestState_42 (by decide) ?_
    refine lv_aload_n hx hb dX6_dropOldestState_43 rfl (lv_at hl 1 rfl) ?_
    obtain ⟨k_5, h⟩ := chk_some h
    obtain ⟨k_6, h⟩ := chk_some h
    refine aw_13 C hP hD hS k_3 k_5 k_6 dX6_dropOldestState_44 (fun R_7 H locs eR_7 hP hD hS => ?_)
    replace h := bnd_at h eR_7
    refine lv_aload_n hx hb dX6_dropOldestState_45 rfl (lv_at hl 0 rfl) ?_
    refine lv_iconst (v := 3) hx hb dX6_dropOldestState_46 (by decide) ?_
    refine pf_6_4 C hP hD hS k_1 wl_22 dX6_dropOldestState_47 (fun M_8 H locs eM_8 hP hD hS => ?_)
    replace h := bnd_at h eM_8
    cases h
    exact rt_v C hP hD hS dX6_dropOldestState_50
  · replace h := ite_f h c_4
    refine lv_aload_n hx hb dX6_dropOldestState_18 rfl (lv_at hl 0 rfl) ?_
    refine gf_6_1 C hP k_1 eb_2 wl_16 dX6_dropOldestState_19 ?_
    refine lv_iload_n hx hb dX6_dropOldestState_22 rfl (lv_at hl 2 rfl) ?_
    refine lv_iconst (v := 1) hx hb dX6_dropOldestState_23 (by decide) ?_
    refine lv_isub hx hb dX6_dropOldestState_24 ?_
    refine lv_aload_n hx hb dX6_dropOldestState_25 rfl (lv_at hl 0 rfl) ?_
    refine gf_6_1 C hP k_1 eb_2 wl_16 dX6_dropOldestState_26 ?_
    refine lv_iload_n hx hb dX6_dropOldestState_29 rfl (lv_at hl 2 rfl) ?_
    obtain ⟨k_9, h⟩ := chk_some h
    obtain ⟨b_10, eb_10, h⟩ := rfm_some h
    refine ar_13 C hP k_3 k_9 eb_10 dX6_dropOldestState_30 ?_
    obtain ⟨k_11, h⟩ := chk_some h
    obtain ⟨k_12, h⟩ := chk_some h
    refine aw_13 C hP hD hS k_3 k_11 k_12 dX6_dropOldestState_31 (fun R_13 H locs eR_13 hP hD hS => ?_)
    replace h := bnd_at h eR_13
    obtain ⟨v_14, ev_14⟩ : ∃ y : Int32, y = (x2 + (1 : Int32)) := ⟨_, rfl⟩
    replace h := bnd_at h ev_14
    refine lv_iinc (v := v_14) (lv' := [(2, .int v_14), (0, .ref a0), (1, .ref a1)]) hx hb dX6_dropOldestState_32 hl (k := 2) rfl (by rw [ev_14]; rfl) (by decide) rfl (fun ls hl => ?_)
    refine lv_goto (tgt := 9) hx hb dX6_dropOldestState_35 (by decide) ?_
    exact hj9 _ _ _ _ _ _ h hP hD hS _ (lv_sub hl [1, 2, 0] rfl)
theorem bt_X6_dropOldestState_9 {p : Program} {l : Launch} {e : Env} {s : State} {m : MethodId} {args : Array Value} {below : List Frame} {meth : Method} {c : Code} {D : va_G} {cy : Cy} {A : Nat → Prop} {T : Ty} {R9 : Rm} {r : Unit} {M9 : Mm} {a0 : Nat} (C : Cx RX6 cX6_dropOldestState 3 none p s m args meth c D cy A) :
    ∀ n : Nat, ∀ (a1 : Nat) (x2 : Int32) (M : Mm) (R : Rm) (H : Heap) (locs : List Loc), fb_X6_dropOldestState_9 T a0 n a1 x2 M R = some (r, M9, R9) → va_P D vwCl (WL cy T M R) H → va_D A (WL cy T M R) → va_S A s.heap H locs → ∀ ls : Array Slot, lv_has ls 3 [(0, .ref a0), (1, .ref a1), (2, .int x2)] → W p l e rm_X6_dropOldestState s m args below meth c H locs 0 0 (MQ below (QcV D cy T M9 R9 A r) args s 0 0 A) (F0 m 9 ls []) := by
  intro n
  induction n with
  | zero =>
    intro _ _ _ _ H locs h
    exact absurd (show (none : Option (Unit × Mm × Rm)) = some _ from h) (by simp)
  | succ n ih => exact fun u0 u1 u2 u3 H locs h => bs_X6_dropOldestState_9 (a0 := a0) C ih u0 u1 u2 u3 H locs h
set_option maxHeartbeats 4000000 in
set_option maxRecDepth 100000 in
theorem ct_X6_dropOldestState {l : Launch} {D : va_G} {cy : Cy} {T : Ty} {R : Rm} {a0 : Nat} {M : Mm} {r : Unit} {M9 : Mm} {R9 : Rm} (h : fn_X6_dropOldestState T a0 M R = some (r, M9, R9)) : Ct QcV l yX6_dropOldestState cX6_dropOldestState 3 none rm_X6_dropOldestState D cy T M R [.ref a0] M9 R9 r := by
  unfold fn_X6_dropOldestState at h
  refine enter (plainFor_of_name (by decide +kernel)) (Nat.le_of_ble_eq_true rfl) (fun p e s m args below meth c A C hP hD hS ls hl => ?_)
  have hl : lv_has ls 3 [(0, .ref a0)] := hl
  obtain ⟨hx, hb, hr, hml, hown, hts, hK, hA, hlk, hSt⟩ := id C
  refine lv_aload_n hx hb dX6_dropOldestState_0 rfl (lv_at hl 0 rfl) ?_
  obtain ⟨k_15, h⟩ := chk_some h
  obtain ⟨b_16, eb_16, h⟩ := rfm_some h
  refine gf_6_1 C hP k_15 eb_16 wl_16 dX6_dropOldestState_1 ?_
  refine lv_iconst (v := 0) hx hb dX6_dropOldestState_4 (by decide) ?_
  obtain ⟨k_17, h⟩ := chk_some h
  obtain ⟨k_18, h⟩ := chk_some h
  obtain ⟨b_19, eb_19, h⟩ := rfm_some h
  refine ar_13 C hP k_17 k_18 eb_19 dX6_dropOldestState_5 ?_
  refine lv_astore_n (lv' := [(1, .ref b_19), (0, .ref a0)]) hx hb dX6_dropOldestState_6 rfl hl (by decide) rfl (fun ls hl => ?_)
  refine lv_iconst (v := 1) hx hb dX6_dropOldestState_7 (by decide) ?_
  refine lv_istore_n (lv' := [(2, .int (1 : Int32)), (1, .ref b_19), (0, .ref a0)]) hx hb dX6_dropOldestState_8 rfl hl (by decide) rfl (fun ls hl => ?_)
  exact (bt_X6_dropOldestState_9 C FU) _ _ _ _ _ _ h hP hD hS _ (lv_sub hl [2, 1, 0] rfl)
abbrev rm_X6_recordState : Room := { frames := 4, cells := 0, slots := 0, locals := 82 }
theorem hd_X6_recordState : yX6_recordState.cls = RX6 ∧ yX6_recordState.cls ≠ "java/lang/invoke/MethodHandle" ∧ yX6_recordState.cls ≠ "java/lang/invoke/VarHandle" ∧ (parseMethodDescriptor yX6_recordState.desc).map (fun d => d.parameters.length) = some 0 := ⟨rfl, by decide +kernel, by decide +kernel, by decide +kernel⟩
set_option maxHeartbeats 4000000 in
set_option maxRecDepth 100000 in
theorem bs_X6_recordState_12 {p : Program} {l : Launch} {e : Env} {s : State} {m : MethodId} {args : Array Value} {below : List Frame} {meth : Method} {c : Code} {D : va_G} {cy : Cy} {A : Nat → Prop} {T : Ty} {R9 : Rm} {r : Unit} {M9 : Mm} {a0 : Nat} (C : Cx RX6 cX6_recordState 1 none p s m args meth c D cy A) :
    ∀  (M : Mm) (R : Rm) (H : Heap) (locs : List Loc), fs_X6_recordState_12 T a0 M R = some (r, M9, R9) → va_P D vwCl (WL cy T M R) H → va_D A (WL cy T M R) → va_S A s.heap H locs → ∀ ls : Array Slot, lv_has ls 1 [(0, .ref a0)] → W p l e rm_X6_recordState s m args below meth c H locs 0 0 (MQ below (QcV D cy T M9 R9 A r) args s 0 0 A) (F0 m 12 ls []) := by
  intro  M R H locs h hP hD hS ls hl
  unfold fs_X6_recordState_12 at h
  obtain ⟨hx, hb, hr, hml, hown, hts, hK, hA, hlk, hSt⟩ := id C
  refine lv_aload_n hx hb dX6_recordState_12 rfl (lv_at hl 0 rfl) ?_
  obtain ⟨k_1, h⟩ := chk_some h
  obtain ⟨b_2, eb_2, h⟩ := rfm_some h
  refine gf_6_1 C hP k_1 eb_2 wl_16 dX6_recordState_13 ?_
  refine lv_aload_n hx hb dX6_recordState_16 rfl (lv_at hl 0 rfl) ?_
  refine gf_6_4 C hP k_1 wl_22 dX6_recordState_17 ?_
  obtain ⟨k_3, h⟩ := chk_some h
  obtain ⟨k_4, h⟩ := chk_some h
  obtain ⟨b_5, eb_5, h⟩ := rfm_some h
  refine ar_13 C hP k_3 k_4 eb_5 dX6_recordState_20 ?_
  refine lv_aload_n hx hb dX6_recordState_21 rfl (lv_at hl 0 rfl) ?_
  obtain ⟨b_6, eb_6, h⟩ := rfm_some h
  refine gf_6_3 C hP k_1 eb_6 wl_21 dX6_recordState_22 ?_
  obtain ⟨k_7, h⟩ := chk_some h
  obtain ⟨r_8, M_9, hc_10, h⟩ := cal_some h
  refine cl_Vv (As := [.ref b_6]) (rest := []) C (ct_X5_copyFrom hc_10) k_7 (by decide) rfl wl_157 wl_158 wl_159 wl_14 wl_160 hd_X5_copyFrom ⟨Nat.le_of_ble_eq_true rfl, Nat.le_of_ble_eq_true rfl⟩ ⟨rfl, rfl⟩ ⟨Nat.zero_le _, Nat.zero_le _⟩ rfl (Nat.le_of_ble_eq_true rfl) rfl hl.1 hP hD hS dX6_recordState_25 (fun H locs hP hD hS => ?_)
  refine lv_aload_n hx hb dX6_recordState_28 rfl (lv_at hl 0 rfl) ?_
  refine lv_dup hx hb dX6_recordState_29 rfl ?_
  refine gf_6_4 C hP k_1 wl_22 dX6_recordState_30 ?_
  refine lv_iconst (v := 1) hx hb dX6_recordState_33 (by decide) ?_
  refine lv_iadd hx hb dX6_recordState_34 ?_
  refine pf_6_4 C hP hD hS k_1 wl_22 dX6_recordState_35 (fun M_11 H locs eM_11 hP hD hS => ?_)
  replace h := bnd_at h eM_11
  cases h
  exact rt_v C hP hD hS dX6_recordState_38
set_option maxHeartbeats 4000000 in
set_option maxRecDepth 100000 in
theorem ct_X6_recordState {l : Launch} {D : va_G} {cy : Cy} {T : Ty} {R : Rm} {a0 : Nat} {M : Mm} {r : Unit} {M9 : Mm} {R9 : Rm} (h : fn_X6_recordState T a0 M R = some (r, M9, R9)) : Ct QcV l yX6_recordState cX6_recordState 1 none rm_X6_recordState D cy T M R [.ref a0] M9 R9 r := by
  unfold fn_X6_recordState at h
  refine enter (plainFor_of_name (by decide +kernel)) (Nat.le_of_ble_eq_true rfl) (fun p e s m args below meth c A C hP hD hS ls hl => ?_)
  have hl : lv_has ls 1 [(0, .ref a0)] := hl
  obtain ⟨hx, hb, hr, hml, hown, hts, hK, hA, hlk, hSt⟩ := id C
  refine lv_aload_n hx hb dX6_recordState_0 rfl (lv_at hl 0 rfl) ?_
  obtain ⟨k_12, h⟩ := chk_some h
  refine gf_6_4 C hP k_12 wl_22 dX6_recordState_1 ?_
  refine lv_iconst (v := 4) hx hb dX6_recordState_4 (by decide) ?_
  refine lv_icmp_lt (tgt := 12) hx hb dX6_recordState_5 (by decide) (fun c_13 => ?_) (fun c_13 => ?_)
  · replace h := ite_t h c_13
    exact (bs_X6_recordState_12 C) _ _ _ _ h hP hD hS _ (lv_sub hl [0] rfl)
  · replace h := ite_f h c_13
    refine lv_aload_n hx hb dX6_recordState_8 rfl (lv_at hl 0 rfl) ?_
    obtain ⟨r_14, M_15, R_17, hc_16, h⟩ := calR_some h
    refine cl_Vv (As := []) (rest := []) C (ct_X6_dropOldestState hc_16) k_12 (by decide) rfl wl_153 wl_154 wl_155 wl_2 wl_156 hd_X6_dropOldestState ⟨Nat.le_of_ble_eq_true rfl, Nat.le_of_ble_eq_true rfl⟩ ⟨rfl, rfl⟩ ⟨Nat.zero_le _, Nat.zero_le _⟩ rfl (Nat.le_of_ble_eq_true rfl) rfl hl.1 hP hD hS dX6_recordState_9 (fun H locs hP hD hS => ?_)
    exact (bs_X6_recordState_12 C) _ _ _ _ h hP hD hS _ (lv_sub hl [0] rfl)
abbrev rm_X6_set : Room := { frames := 5, cells := 0, slots := 0, locals := 102 }
theorem hd_X6_set : yX6_set.cls = RX6 ∧ yX6_set.cls ≠ "java/lang/invoke/MethodHandle" ∧ yX6_set.cls ≠ "java/lang/invoke/VarHandle" ∧ (parseMethodDescriptor yX6_set.desc).map (fun d => d.parameters.length) = some 2 := ⟨rfl, by decide +kernel, by decide +kernel, by decide +kernel⟩
set_option maxHeartbeats 4000000 in
set_option maxRecDepth 100000 in
theorem ct_X6_set {l : Launch} {D : va_G} {cy : Cy} {T : Ty} {R : Rm} {a0 : Nat} {x1 : Int32} {x2 : Int32} {M : Mm} {r : Int32} {M9 : Mm} {R9 : Rm} (h : fn_X6_set T a0 x1 x2 M R = some (r, M9, R9)) : Ct QcI l yX6_set cX6_set 4 (some .int) rm_X6_set D cy T M R [.ref a0, .int x1, .int x2] M9 R9 r := by
  unfold fn_X6_set at h
  refine enter (plainFor_of_name (by decide +kernel)) (Nat.le_of_ble_eq_true rfl) (fun p e s m args below meth c A C hP hD hS ls hl => ?_)
  have hl : lv_has ls 4 [(0, .ref a0), (1, .int x1), (2, .int x2)] := hl
  obtain ⟨hx, hb, hr, hml, hown, hts, hK, hA, hlk, hSt⟩ := id C
  refine lv_iload_n hx hb dX6_set_0 rfl (lv_at hl 1 rfl) ?_
  refine lv_iconst (v := 0) hx hb dX6_set_1 (by decide) ?_
  refine lv_bipush (v := 6) hx hb dX6_set_2 (by decide) ?_
  obtain ⟨r_1, M_2, hc_3, h⟩ := cal_some h
  refine cl_Si (As := [.int x1, .int (0 : Int32), .int (6 : Int32)]) (rest := []) C (ct_X6_isWithin hc_3) wl_113 wl_114 wl_2 wl_115 hd_X6_isWithin ⟨Nat.le_of_ble_eq_true rfl, Nat.le_of_ble_eq_true rfl⟩ ⟨rfl, rfl⟩ ⟨Nat.zero_le _, Nat.zero_le _⟩ rfl (Nat.le_of_ble_eq_true rfl) rfl hl.1 hP hD hS dX6_set_4 (fun H locs hP hD hS => ?_)
  refine lv_if_ne (tgt := 13) hx hb dX6_set_7 (by decide) (fun c_4 => ?_) (fun c_4 => ?_)
  · replace h := ite_f h c_4
    refine lv_iload_n hx hb dX6_set_13 rfl (lv_at hl 2 rfl) ?_
    refine gs_0 C hS wl_147 dX6_set_14 (fun t_5 ht_5 => ?_)
    refine lv_iload_n hx hb dX6_set_17 rfl (lv_at hl 1 rfl) ?_
    obtain ⟨k_6, h⟩ := chk_some h
    refine ts_i C ht_5 hS k_6 dX6_set_18 ?_
    refine gs_1 C hS wl_148 dX6_set_19 (fun t_7 ht_7 => ?_)
    refine lv_iload_n hx hb dX6_set_22 rfl (lv_at hl 1 rfl) ?_
    obtain ⟨k_8, h⟩ := chk_some h
    refine ts_i C ht_7 hS k_8 dX6_set_23 ?_
    obtain ⟨r_9, M_10, hc_11, h⟩ := cal_some h
    refine cl_Si (As := [.int x2, .int (fLeast x1.toNatClampNeg), .int (fMost x1.toNatClampNeg)]) (rest := []) C (ct_X6_isWithin hc_11) wl_113 wl_114 wl_2 wl_115 hd_X6_isWithin ⟨Nat.le_of_ble_eq_true rfl, Nat.le_of_ble_eq_true rfl⟩ ⟨rfl, rfl⟩ ⟨Nat.zero_le _, Nat.zero_le _⟩ rfl (Nat.le_of_ble_eq_true rfl) rfl hl.1 hP hD hS dX6_set_24 (fun H locs hP hD hS => ?_)
    refine lv_if_ne (tgt := 33) hx hb dX6_set_27 (by decide) (fun c_12 => ?_) (fun c_12 => ?_)
    · replace h := ite_f h c_12
      refine lv_aload_n hx hb dX6_set_33 rfl (lv_at hl 0 rfl) ?_
      obtain ⟨k_13, h⟩ := chk_some h
      obtain ⟨r_14, M_15, R_17, hc_16, h⟩ := calR_some h
      refine cl_Vv (As := []) (rest := []) C (ct_X6_recordState hc_16) k_13 (by decide) rfl wl_149 wl_150 wl_151 wl_2 wl_152 hd_X6_recordState ⟨Nat.le_of_ble_eq_true rfl, Nat.le_of_ble_eq_true rfl⟩ ⟨rfl, rfl⟩ ⟨Nat.zero_le _, Nat.zero_le _⟩ rfl (Nat.le_of_ble_eq_true rfl) rfl hl.1 hP hD hS dX6_set_34 (fun H locs hP hD hS => ?_)
      refine lv_aload_n hx hb dX6_set_37 rfl (lv_at hl 0 rfl) ?_
      obtain ⟨b_18, eb_18, h⟩ := rfm_some h
      refine gf_6_3 C hP k_13 eb_18 wl_21 dX6_set_38 ?_
      obtain ⟨k_19, h⟩ := chk_some h
      obtain ⟨b_20, eb_20, h⟩ := rfm_some h
      refine gf_5_0 C hP k_19 eb_20 wl_108 dX6_set_41 ?_
      refine lv_iload_n hx hb dX6_set_44 rfl (lv_at hl 1 rfl) ?_
      obtain ⟨k_21, h⟩ := chk_some h
      obtain ⟨k_22, h⟩ := chk_some h
      refine ar_9 C hP k_21 k_22 dX6_set_45 ?_
      refine lv_topi (fun v_23 ev_23 => ?_)
      replace h := bnd_at h ev_23
      refine lv_istore_n (lv' := [(3, .int v_23), (0, .ref a0), (1, .int x1), (2, .int x2)]) hx hb dX6_set_46 rfl hl (by decide) rfl (fun ls hl => ?_)
      refine lv_aload_n hx hb dX6_set_47 rfl (lv_at hl 1 rfl) ?_
      refine gf_6_3 C hP k_13 eb_18 wl_21 dX6_set_48 ?_
      refine gf_5_0 C hP k_19 eb_20 wl_108 dX6_set_51 ?_
      refine lv_iload_n hx hb dX6_set_54 rfl (lv_at hl 2 rfl) ?_
      refine lv_iload_n hx hb dX6_set_55 rfl (lv_at hl 3 rfl) ?_
      refine aw_9 C hP hD hS k_21 k_22 dX6_set_56 (fun M_24 H locs eM_24 hP hD hS => ?_)
      replace h := bnd_at h eM_24
      refine lv_iload_n hx hb dX6_set_57 rfl (lv_at hl 0 rfl) ?_
      cases h
      exact rt_i C hP hD hS dX6_set_58
    · replace h := ite_t h c_12
      refine lv_ldc (own := RX6) (v := -2000000001) hx hb hown (hts _ wl_107) dX6_set_30 ?_
      cases h
      exact rt_i C hP hD hS dX6_set_32
  · replace h := ite_t h c_4
    refine lv_ldc (own := RX6) (v := -2000000001) hx hb hown (hts _ wl_107) dX6_set_10 ?_
    cases h
    exact rt_i C hP hD hS dX6_set_12
abbrev rm_X6_band : Room := { frames := 5, cells := 0, slots := 0, locals := 109 }
theorem hd_X6_band : yX6_band.cls = RX6 ∧ yX6_band.cls ≠ "java/lang/invoke/MethodHandle" ∧ yX6_band.cls ≠ "java/lang/invoke/VarHandle" ∧ (parseMethodDescriptor yX6_band.desc).map (fun d => d.parameters.length) = some 4 := ⟨rfl, by decide +kernel, by decide +kernel, by decide +kernel⟩
set_option maxHeartbeats 4000000 in
set_option maxRecDepth 100000 in
theorem ct_X6_band {l : Launch} {D : va_G} {cy : Cy} {T : Ty} {R : Rm} {a0 : Nat} {x1 : Int32} {x2 : Int32} {x3 : Int32} {x4 : Int32} {M : Mm} {r : Int32} {M9 : Mm} {R9 : Rm} (h : fn_X6_band T a0 x1 x2 x3 x4 M R = some (r, M9, R9)) : Ct QcI l yX6_band cX6_band 5 (some .int) rm_X6_band D cy T M R [.ref a0, .int x1, .int x2, .int x3, .int x4] M9 R9 r := by
  unfold fn_X6_band at h
  refine enter (plainFor_of_name (by decide +kernel)) (Nat.le_of_ble_eq_true rfl) (fun p e s m args below meth c A C hP hD hS ls hl => ?_)
  have hl : lv_has ls 5 [(0, .ref a0), (1, .int x1), (2, .int x2), (3, .int x3), (4, .int x4)] := hl
  obtain ⟨hx, hb, hr, hml, hown, hts, hK, hA, hlk, hSt⟩ := id C
  refine lv_iload_n hx hb dX6_band_0 rfl (lv_at hl 1 rfl) ?_
  refine lv_iconst (v := 0) hx hb dX6_band_1 (by decide) ?_
  refine lv_sipush (v := 5000) hx hb dX6_band_2 (by decide) ?_
  obtain ⟨r_1, M_2, hc_3, h⟩ := cal_some h
  refine cl_Si (As := [.int x1, .int (0 : Int32), .int (5000 : Int32)]) (rest := []) C (ct_X6_isWithin hc_3) wl_113 wl_114 wl_2 wl_115 hd_X6_isWithin ⟨Nat.le_of_ble_eq_true rfl, Nat.le_of_ble_eq_true rfl⟩ ⟨rfl, rfl⟩ ⟨Nat.zero_le _, Nat.zero_le _⟩ rfl (Nat.le_of_ble_eq_true rfl) rfl hl.1 hP hD hS dX6_band_5 (fun H locs hP hD hS => ?_)
  refine lv_if_eq (tgt := 45) hx hb dX6_band_8 (by decide) (fun c_4 => ?_) (fun c_4 => ?_)
  · replace h := ite_t h c_4
    refine lv_ldc (own := RX6) (v := -2000000001) hx hb hown (hts _ wl_107) dX6_band_45 ?_
    cases h
    exact rt_i C hP hD hS dX6_band_47
  · replace h := ite_f h c_4
    refine lv_iload_n hx hb dX6_band_11 rfl (lv_at hl 2 rfl) ?_
    refine lv_bipush (v := 100) hx hb dX6_band_12 (by decide) ?_
    refine lv_sipush (v := 5000) hx hb dX6_band_14 (by decide) ?_
    obtain ⟨r_5, M_6, hc_7, h⟩ := cal_some h
    refine cl_Si (As := [.int x2, .int (100 : Int32), .int (5000 : Int32)]) (rest := []) C (ct_X6_isWithin hc_7) wl_113 wl_114 wl_2 wl_115 hd_X6_isWithin ⟨Nat.le_of_ble_eq_true rfl, Nat.le_of_ble_eq_true rfl⟩ ⟨rfl, rfl⟩ ⟨Nat.zero_le _, Nat.zero_le _⟩ rfl (Nat.le_of_ble_eq_true rfl) rfl hl.1 hP hD hS dX6_band_17 (fun H locs hP hD hS => ?_)
    refine lv_if_eq (tgt := 45) hx hb dX6_band_20 (by decide) (fun c_8 => ?_) (fun c_8 => ?_)
    · replace h := ite_t h c_8
      refine lv_ldc (own := RX6) (v := -2000000001) hx hb hown (hts _ wl_107) dX6_band_45 ?_
      cases h
      exact rt_i C hP hD hS dX6_band_47
    · replace h := ite_f h c_8
      refine lv_iload_n hx hb dX6_band_23 rfl (lv_at hl 3 rfl) ?_
      refine lv_iconst (v := 0) hx hb dX6_band_24 (by decide) ?_
      refine lv_sipush (v := 500) hx hb dX6_band_25 (by decide) ?_
      obtain ⟨r_9, M_10, hc_11, h⟩ := cal_some h
      refine cl_Si (As := [.int x3, .int (0 : Int32), .int (500 : Int32)]) (rest := []) C (ct_X6_isWithin hc_11) wl_113 wl_114 wl_2 wl_115 hd_X6_isWithin ⟨Nat.le_of_ble_eq_true rfl, Nat.le_of_ble_eq_true rfl⟩ ⟨rfl, rfl⟩ ⟨Nat.zero_le _, Nat.zero_le _⟩ rfl (Nat.le_of_ble_eq_true rfl) rfl hl.1 hP hD hS dX6_band_28 (fun H locs hP hD hS => ?_)
      refine lv_if_eq (tgt := 45) hx hb dX6_band_31 (by decide) (fun c_12 => ?_) (fun c_12 => ?_)
      · replace h := ite_t h c_12
        refine lv_ldc (own := RX6) (v := -2000000001) hx hb hown (hts _ wl_107) dX6_band_45 ?_
        cases h
        exact rt_i C hP hD hS dX6_band_47
      · replace h := ite_f h c_12
        refine lv_iload hx hb dX6_band_34 (lv_at hl 4 rfl) ?_
        refine lv_iconst (v := 0) hx hb dX6_band_36 (by decide) ?_
        refine lv_ldc (own := RX6) (v := 1000000) hx hb hown (hts _ wl_186) dX6_band_37 ?_
        obtain ⟨r_13, M_14, hc_15, h⟩ := cal_some h
        refine cl_Si (As := [.int x4, .int (0 : Int32), .int (1000000 : Int32)]) (rest := []) C (ct_X6_isWithin hc_15) wl_113 wl_114 wl_2 wl_115 hd_X6_isWithin ⟨Nat.le_of_ble_eq_true rfl, Nat.le_of_ble_eq_true rfl⟩ ⟨rfl, rfl⟩ ⟨Nat.zero_le _, Nat.zero_le _⟩ rfl (Nat.le_of_ble_eq_true rfl) rfl hl.1 hP hD hS dX6_band_39 (fun H locs hP hD hS => ?_)
        refine lv_if_ne (tgt := 48) hx hb dX6_band_42 (by decide) (fun c_16 => ?_) (fun c_16 => ?_)
        · replace h := ite_f h c_16
          refine lv_aload_n hx hb dX6_band_48 rfl (lv_at hl 0 rfl) ?_
          obtain ⟨k_17, h⟩ := chk_some h
          obtain ⟨b_18, eb_18, h⟩ := rfm_some h
          refine gf_6_3 C hP k_17 eb_18 wl_21 dX6_band_49 ?_
          refine lv_iload_n hx hb dX6_band_52 rfl (lv_at hl 1 rfl) ?_
          obtain ⟨k_19, h⟩ := chk_some h
          obtain ⟨r_20, M_21, hc_22, h⟩ := cal_some h
          refine cl_Vi (As := [.int x1]) (rest := []) C (ct_X5_isBelowAll hc_22) k_19 (by decide) rfl wl_189 wl_190 wl_191 wl_14 wl_192 hd_X5_isBelowAll ⟨Nat.le_of_ble_eq_true rfl, Nat.le_of_ble_eq_true rfl⟩ ⟨rfl, rfl⟩ ⟨Nat.zero_le _, Nat.zero_le _⟩ rfl (Nat.le_of_ble_eq_true rfl) rfl hl.1 hP hD hS dX6_band_53 (fun H locs hP hD hS => ?_)
          refine lv_if_ne (tgt := 62) hx hb dX6_band_56 (by decide) (fun c_23 => ?_) (fun c_23 => ?_)
          · replace h := ite_f h c_23
            refine lv_aload_n hx hb dX6_band_62 rfl (lv_at hl 0 rfl) ?_
            refine gf_6_3 C hP k_17 eb_18 wl_21 dX6_band_63 ?_
            refine gf_5_4 C hP k_19 wl_109 dX6_band_66 ?_
            refine lv_bipush (v := 10) hx hb dX6_band_69 (by decide) ?_
            refine lv_icmp_lt (tgt := 77) hx hb dX6_band_71 (by decide) (fun c_24 => ?_) (fun c_24 => ?_)
            · replace h := ite_t h c_24
              refine lv_aload_n hx hb dX6_band_77 rfl (lv_at hl 0 rfl) ?_
              obtain ⟨r_25, M_26, R_28, hc_27, h⟩ := calR_some h
              refine cl_Vv (As := []) (rest := []) C (ct_X6_recordState hc_27) k_17 (by decide) rfl wl_149 wl_150 wl_151 wl_2 wl_152 hd_X6_recordState ⟨Nat.le_of_ble_eq_true rfl, Nat.le_of_ble_eq_true rfl⟩ ⟨rfl, rfl⟩ ⟨Nat.zero_le _, Nat.zero_le _⟩ rfl (Nat.le_of_ble_eq_true rfl) rfl hl.1 hP hD hS dX6_band_78 (fun H locs hP hD hS => ?_)
              refine lv_aload_n hx hb dX6_band_81 rfl (lv_at hl 0 rfl) ?_
              obtain ⟨b_29, eb_29, h⟩ := rfm_some h
              refine gf_6_3 C hP k_17 eb_29 wl_21 dX6_band_82 ?_
              refine lv_iload_n hx hb dX6_band_85 rfl (lv_at hl 1 rfl) ?_
              refine lv_iload_n hx hb dX6_band_86 rfl (lv_at hl 2 rfl) ?_
              refine lv_iload_n hx hb dX6_band_87 rfl (lv_at hl 3 rfl) ?_
              refine lv_iload hx hb dX6_band_88 (lv_at hl 4 rfl) ?_
              obtain ⟨k_30, h⟩ := chk_some h
              obtain ⟨r_31, M_32, hc_33, h⟩ := cal_some h
              refine cl_Vi (As := [.int x1, .int x2, .int x3, .int x4]) (rest := []) C (ct_X5_addBand hc_33) k_30 (by decide) rfl wl_194 wl_195 wl_196 wl_14 wl_197 hd_X5_addBand ⟨Nat.le_of_ble_eq_true rfl, Nat.le_of_ble_eq_true rfl⟩ ⟨rfl, rfl⟩ ⟨Nat.zero_le _, Nat.zero_le _⟩ rfl (Nat.le_of_ble_eq_true rfl) rfl hl.1 hP hD hS dX6_band_90 (fun H locs hP hD hS => ?_)
              cases h
              exact rt_i C hP hD hS dX6_band_93
            · replace h := ite_f h c_24
              refine lv_ldc (own := RX6) (v := -2000000003) hx hb hown (hts _ wl_188) dX6_band_74 ?_
              cases h
              exact rt_i C hP hD hS dX6_band_76
          · replace h := ite_t h c_23
            refine lv_ldc (own := RX6) (v := -2000000002) hx hb hown (hts _ wl_187) dX6_band_59 ?_
            cases h
            exact rt_i C hP hD hS dX6_band_61
        · replace h := ite_t h c_16
          refine lv_ldc (own := RX6) (v := -2000000001) hx hb hown (hts _ wl_107) dX6_band_45 ?_
          cases h
          exact rt_i C hP hD hS dX6_band_47
abbrev rm_X6_creep : Room := { frames := 5, cells := 0, slots := 0, locals := 102 }
theorem hd_X6_creep : yX6_creep.cls = RX6 ∧ yX6_creep.cls ≠ "java/lang/invoke/MethodHandle" ∧ yX6_creep.cls ≠ "java/lang/invoke/VarHandle" ∧ (parseMethodDescriptor yX6_creep.desc).map (fun d => d.parameters.length) = some 2 := ⟨rfl, by decide +kernel, by decide +kernel, by decide +kernel⟩
set_option maxHeartbeats 4000000 in
set_option maxRecDepth 100000 in
theorem ct_X6_creep {l : Launch} {D : va_G} {cy : Cy} {T : Ty} {R : Rm} {a0 : Nat} {x1 : Int32} {x2 : Int32} {M : Mm} {r : Int32} {M9 : Mm} {R9 : Rm} (h : fn_X6_creep T a0 x1 x2 M R = some (r, M9, R9)) : Ct QcI l yX6_creep cX6_creep 4 (some .int) rm_X6_creep D cy T M R [.ref a0, .int x1, .int x2] M9 R9 r := by
  unfold fn_X6_creep at h
  refine enter (plainFor_of_name (by decide +kernel)) (Nat.le_of_ble_eq_true rfl) (fun p e s m args below meth c A C hP hD hS ls hl => ?_)
  have hl : lv_has ls 4 [(0, .ref a0), (1, .int x1), (2, .int x2)] := hl
  obtain ⟨hx, hb, hr, hml, hown, hts, hK, hA, hlk, hSt⟩ := id C
  refine lv_aload_n hx hb dX6_creep_0 rfl (lv_at hl 0 rfl) ?_
  obtain ⟨k_1, h⟩ := chk_some h
  obtain ⟨b_2, eb_2, h⟩ := rfm_some h
  refine gf_6_3 C hP k_1 eb_2 wl_21 dX6_creep_1 ?_
  refine lv_iload_n hx hb dX6_creep_4 rfl (lv_at hl 1 rfl) ?_
  obtain ⟨k_3, h⟩ := chk_some h
  obtain ⟨r_4, M_5, hc_6, h⟩ := cal_some h
  refine cl_Vi (As := [.int x1]) (rest := []) C (ct_X5_hasBand hc_6) k_3 (by decide) rfl wl_231 wl_232 wl_233 wl_14 wl_234 hd_X5_hasBand ⟨Nat.le_of_ble_eq_true rfl, Nat.le_of_ble_eq_true rfl⟩ ⟨rfl, rfl⟩ ⟨Nat.zero_le _, Nat.zero_le _⟩ rfl (Nat.le_of_ble_eq_true rfl) rfl hl.1 hP hD hS dX6_creep_5 (fun H locs hP hD hS => ?_)
  refine lv_if_eq (tgt := 22) hx hb dX6_creep_8 (by decide) (fun c_7 => ?_) (fun c_7 => ?_)
  · replace h := ite_t h c_7
    refine lv_ldc (own := RX6) (v := -2000000001) hx hb hown (hts _ wl_107) dX6_creep_22 ?_
    cases h
    exact rt_i C hP hD hS dX6_creep_24
  · replace h := ite_f h c_7
    refine lv_iload_n hx hb dX6_creep_11 rfl (lv_at hl 2 rfl) ?_
    refine lv_iconst (v := 0) hx hb dX6_creep_12 (by decide) ?_
    refine lv_sipush (v := 500) hx hb dX6_creep_13 (by decide) ?_
    obtain ⟨r_8, M_9, hc_10, h⟩ := cal_some h
    refine cl_Si (As := [.int x2, .int (0 : Int32), .int (500 : Int32)]) (rest := []) C (ct_X6_isWithin hc_10) wl_113 wl_114 wl_2 wl_115 hd_X6_isWithin ⟨Nat.le_of_ble_eq_true rfl, Nat.le_of_ble_eq_true rfl⟩ ⟨rfl, rfl⟩ ⟨Nat.zero_le _, Nat.zero_le _⟩ rfl (Nat.le_of_ble_eq_true rfl) rfl hl.1 hP hD hS dX6_creep_16 (fun H locs hP hD hS => ?_)
    refine lv_if_ne (tgt := 25) hx hb dX6_creep_19 (by decide) (fun c_11 => ?_) (fun c_11 => ?_)
    · replace h := ite_f h c_11
      refine lv_aload_n hx hb dX6_creep_25 rfl (lv_at hl 0 rfl) ?_
      obtain ⟨r_12, M_13, R_15, hc_14, h⟩ := calR_some h
      refine cl_Vv (As := []) (rest := []) C (ct_X6_recordState hc_14) k_1 (by decide) rfl wl_149 wl_150 wl_151 wl_2 wl_152 hd_X6_recordState ⟨Nat.le_of_ble_eq_true rfl, Nat.le_of_ble_eq_true rfl⟩ ⟨rfl, rfl⟩ ⟨Nat.zero_le _, Nat.zero_le _⟩ rfl (Nat.le_of_ble_eq_true rfl) rfl hl.1 hP hD hS dX6_creep_26 (fun H locs hP hD hS => ?_)
      refine lv_aload_n hx hb dX6_creep_29 rfl (lv_at hl 0 rfl) ?_
      obtain ⟨b_16, eb_16, h⟩ := rfm_some h
      refine gf_6_3 C hP k_1 eb_16 wl_21 dX6_creep_30 ?_
      obtain ⟨k_17, h⟩ := chk_some h
      obtain ⟨b_18, eb_18, h⟩ := rfm_some h
      refine gf_5_1 C hP k_17 eb_18 wl_229 dX6_creep_33 ?_
      refine lv_iload_n hx hb dX6_creep_36 rfl (lv_at hl 1 rfl) ?_
      obtain ⟨k_19, h⟩ := chk_some h
      obtain ⟨k_20, h⟩ := chk_some h
      obtain ⟨b_21, eb_21, h⟩ := rfm_some h
      refine ar_11 C hP k_19 k_20 eb_21 dX6_creep_37 ?_
      obtain ⟨k_22, h⟩ := chk_some h
      refine gf_0_3 C hP k_22 wl_230 dX6_creep_38 ?_
      refine lv_topi (fun v_23 ev_23 => ?_)
      replace h := bnd_at h ev_23
      refine lv_istore_n (lv' := [(3, .int v_23), (0, .ref a0), (1, .int x1), (2, .int x2)]) hx hb dX6_creep_41 rfl hl (by decide) rfl (fun ls hl => ?_)
      refine lv_aload_n hx hb dX6_creep_42 rfl (lv_at hl 1 rfl) ?_
      refine gf_6_3 C hP k_1 eb_16 wl_21 dX6_creep_43 ?_
      refine gf_5_1 C hP k_17 eb_18 wl_229 dX6_creep_46 ?_
      refine lv_iload_n hx hb dX6_creep_49 rfl (lv_at hl 2 rfl) ?_
      refine ar_11 C hP k_19 k_20 eb_21 dX6_creep_50 ?_
      refine lv_iload_n hx hb dX6_creep_51 rfl (lv_at hl 3 rfl) ?_
      refine pf_0_3 C hP hD hS k_22 wl_230 dX6_creep_52 (fun M_24 H locs eM_24 hP hD hS => ?_)
      replace h := bnd_at h eM_24
      refine lv_iload_n hx hb dX6_creep_55 rfl (lv_at hl 0 rfl) ?_
      cases h
      exact rt_i C hP hD hS dX6_creep_56
    · replace h := ite_t h c_11
      refine lv_ldc (own := RX6) (v := -2000000001) hx hb hown (hts _ wl_107) dX6_creep_22 ?_
      cases h
      exact rt_i C hP hD hS dX6_creep_24
abbrev rm_X6_bandInfo : Room := { frames := 2, cells := 0, slots := 0, locals := 45 }
theorem hd_X6_bandInfo : yX6_bandInfo.cls = RX6 ∧ yX6_bandInfo.cls ≠ "java/lang/invoke/MethodHandle" ∧ yX6_bandInfo.cls ≠ "java/lang/invoke/VarHandle" ∧ (parseMethodDescriptor yX6_bandInfo.desc).map (fun d => d.parameters.length) = some 2 := ⟨rfl, by decide +kernel, by decide +kernel, by decide +kernel⟩
set_option maxHeartbeats 4000000 in
set_option maxRecDepth 100000 in
theorem ct_X6_bandInfo {l : Launch} {D : va_G} {cy : Cy} {T : Ty} {R : Rm} {a0 : Nat} {x1 : Int32} {x2 : Int32} {M : Mm} {r : Int32} {M9 : Mm} (h : fn_X6_bandInfo T R a0 x1 x2 M = some (r, M9)) : Ct QcI l yX6_bandInfo cX6_bandInfo 4 (some .int) rm_X6_bandInfo D cy T M R [.ref a0, .int x1, .int x2] M9 R r := by
  unfold fn_X6_bandInfo at h
  refine enter (plainFor_of_name (by decide +kernel)) (Nat.le_of_ble_eq_true rfl) (fun p e s m args below meth c A C hP hD hS ls hl => ?_)
  have hl : lv_has ls 4 [(0, .ref a0), (1, .int x1), (2, .int x2)] := hl
  obtain ⟨hx, hb, hr, hml, hown, hts, hK, hA, hlk, hSt⟩ := id C
  refine lv_aload_n hx hb dX6_bandInfo_0 rfl (lv_at hl 0 rfl) ?_
  obtain ⟨k_1, h⟩ := chk_some h
  obtain ⟨b_2, eb_2, h⟩ := rfm_some h
  refine gf_6_3 C hP k_1 eb_2 wl_21 dX6_bandInfo_1 ?_
  refine lv_iload_n hx hb dX6_bandInfo_4 rfl (lv_at hl 1 rfl) ?_
  obtain ⟨k_3, h⟩ := chk_some h
  obtain ⟨r_4, M_5, hc_6, h⟩ := cal_some h
  refine cl_Vi (As := [.int x1]) (rest := []) C (ct_X5_hasBand hc_6) k_3 (by decide) rfl wl_231 wl_232 wl_233 wl_14 wl_234 hd_X5_hasBand ⟨Nat.le_of_ble_eq_true rfl, Nat.le_of_ble_eq_true rfl⟩ ⟨rfl, rfl⟩ ⟨Nat.zero_le _, Nat.zero_le _⟩ rfl (Nat.le_of_ble_eq_true rfl) rfl hl.1 hP hD hS dX6_bandInfo_5 (fun H locs hP hD hS => ?_)
  refine lv_if_eq (tgt := 21) hx hb dX6_bandInfo_8 (by decide) (fun c_7 => ?_) (fun c_7 => ?_)
  · replace h := ite_t h c_7
    refine lv_ldc (own := RX6) (v := -2000000001) hx hb hown (hts _ wl_107) dX6_bandInfo_21 ?_
    cases h
    exact rt_i C hP hD hS dX6_bandInfo_23
  · replace h := ite_f h c_7
    refine lv_iload_n hx hb dX6_bandInfo_11 rfl (lv_at hl 2 rfl) ?_
    refine lv_iconst (v := 0) hx hb dX6_bandInfo_12 (by decide) ?_
    refine lv_bipush (v := 11) hx hb dX6_bandInfo_13 (by decide) ?_
    obtain ⟨r_8, M_9, hc_10, h⟩ := cal_some h
    refine cl_Si (As := [.int x2, .int (0 : Int32), .int (11 : Int32)]) (rest := []) C (ct_X6_isWithin hc_10) wl_113 wl_114 wl_2 wl_115 hd_X6_isWithin ⟨Nat.le_of_ble_eq_true rfl, Nat.le_of_ble_eq_true rfl⟩ ⟨rfl, rfl⟩ ⟨Nat.zero_le _, Nat.zero_le _⟩ rfl (Nat.le_of_ble_eq_true rfl) rfl hl.1 hP hD hS dX6_bandInfo_15 (fun H locs hP hD hS => ?_)
    refine lv_if_ne (tgt := 24) hx hb dX6_bandInfo_18 (by decide) (fun c_11 => ?_) (fun c_11 => ?_)
    · replace h := ite_f h c_11
      refine lv_aload_n hx hb dX6_bandInfo_24 rfl (lv_at hl 0 rfl) ?_
      refine gf_6_3 C hP k_1 eb_2 wl_21 dX6_bandInfo_25 ?_
      obtain ⟨b_12, eb_12, h⟩ := rfm_some h
      refine gf_5_1 C hP k_3 eb_12 wl_229 dX6_bandInfo_28 ?_
      refine lv_iload_n hx hb dX6_bandInfo_31 rfl (lv_at hl 1 rfl) ?_
      obtain ⟨k_13, h⟩ := chk_some h
      obtain ⟨k_14, h⟩ := chk_some h
      obtain ⟨b_15, eb_15, h⟩ := rfm_some h
      refine ar_11 C hP k_13 k_14 eb_15 dX6_bandInfo_32 ?_
      refine lv_astore_n (lv' := [(3, .ref b_15), (0, .ref a0), (1, .int x1), (2, .int x2)]) hx hb dX6_bandInfo_33 rfl hl (by decide) rfl (fun ls hl => ?_)
      refine lv_iload_n hx hb dX6_bandInfo_34 rfl (lv_at hl 3 rfl) ?_
      by_cases q_16 : x2 = 0
      · replace h := ite_t h q_16
        refine lv_tableIn (off := 57) (tgt := 92) hx hb dX6_bandInfo_35 (by rw [q_16]; decide) (by rw [q_16]; decide) (by rw [q_16]; rfl) (by decide) ?_
        refine lv_aload_n hx hb dX6_bandInfo_92 rfl (lv_at hl 0 rfl) ?_
        obtain ⟨k_17, h⟩ := chk_some h
        refine gf_0_1 C hP k_17 wl_239 dX6_bandInfo_93 ?_
        cases h
        exact rt_i C hP hD hS dX6_bandInfo_96
      · replace h := ite_f h q_16
        by_cases q_18 : x2 = 1
        · replace h := ite_t h q_18
          refine lv_tableIn (off := 62) (tgt := 97) hx hb dX6_bandInfo_35 (by rw [q_18]; decide) (by rw [q_18]; decide) (by rw [q_18]; rfl) (by decide) ?_
          refine lv_aload_n hx hb dX6_bandInfo_97 rfl (lv_at hl 0 rfl) ?_
          obtain ⟨k_19, h⟩ := chk_some h
          refine gf_0_2 C hP k_19 wl_240 dX6_bandInfo_98 ?_
          cases h
          exact rt_i C hP hD hS dX6_bandInfo_101
        · replace h := ite_f h q_18
          by_cases q_20 : x2 = 2
          · replace h := ite_t h q_20
            refine lv_tableIn (off := 67) (tgt := 102) hx hb dX6_bandInfo_35 (by rw [q_20]; decide) (by rw [q_20]; decide) (by rw [q_20]; rfl) (by decide) ?_
            refine lv_aload_n hx hb dX6_bandInfo_102 rfl (lv_at hl 0 rfl) ?_
            obtain ⟨k_21, h⟩ := chk_some h
            refine gf_0_3 C hP k_21 wl_230 dX6_bandInfo_103 ?_
            cases h
            exact rt_i C hP hD hS dX6_bandInfo_106
          · replace h := ite_f h q_20
            by_cases q_22 : x2 = 3
            · replace h := ite_t h q_22
              refine lv_tableIn (off := 72) (tgt := 107) hx hb dX6_bandInfo_35 (by rw [q_22]; decide) (by rw [q_22]; decide) (by rw [q_22]; rfl) (by decide) ?_
              refine lv_aload_n hx hb dX6_bandInfo_107 rfl (lv_at hl 0 rfl) ?_
              obtain ⟨k_23, h⟩ := chk_some h
              obtain ⟨b_24, eb_24, h⟩ := rfm_some h
              refine gf_0_0 C hP k_23 eb_24 wl_241 dX6_bandInfo_108 ?_
              obtain ⟨k_25, h⟩ := chk_some h
              refine gf_2_1 C hP k_25 wl_242 dX6_bandInfo_111 ?_
              cases h
              exact rt_i C hP hD hS dX6_bandInfo_114
            · replace h := ite_f h q_22
              by_cases q_26 : x2 = 4
              · replace h := ite_t h q_26
                refine lv_tableIn (off := 80) (tgt := 115) hx hb dX6_bandInfo_35 (by rw [q_26]; decide) (by rw [q_26]; decide) (by rw [q_26]; rfl) (by decide) ?_
                refine lv_aload_n hx hb dX6_bandInfo_115 rfl (lv_at hl 0 rfl) ?_
                obtain ⟨k_27, h⟩ := chk_some h
                obtain ⟨b_28, eb_28, h⟩ := rfm_some h
                refine gf_0_0 C hP k_27 eb_28 wl_241 dX6_bandInfo_116 ?_
                obtain ⟨k_29, h⟩ := chk_some h
                obtain ⟨r_30, M_31, hc_32, h⟩ := cal_some h
                refine cl_Vi (As := []) (rest := []) C (ct_X2_number hc_32) k_29 (by decide) rfl wl_249 wl_127 wl_128 wl_65 wl_129 hd_X2_number ⟨Nat.le_of_ble_eq_true rfl, Nat.le_of_ble_eq_true rfl⟩ ⟨rfl, rfl⟩ ⟨Nat.zero_le _, Nat.zero_le _⟩ rfl (Nat.le_of_ble_eq_true rfl) rfl hl.1 hP hD hS dX6_bandInfo_119 (fun H locs hP hD hS => ?_)
                cases h
                exact rt_i C hP hD hS dX6_bandInfo_122
              · replace h := ite_f h q_26
                by_cases q_33 : x2 = 5
                · replace h := ite_t h q_33
                  refine lv_tableIn (off := 88) (tgt := 123) hx hb dX6_bandInfo_35 (by rw [q_33]; decide) (by rw [q_33]; decide) (by rw [q_33]; rfl) (by decide) ?_
                  refine lv_aload_n hx hb dX6_bandInfo_123 rfl (lv_at hl 0 rfl) ?_
                  obtain ⟨k_34, h⟩ := chk_some h
                  obtain ⟨b_35, eb_35, h⟩ := rfm_some h
                  refine gf_0_0 C hP k_34 eb_35 wl_241 dX6_bandInfo_124 ?_
                  obtain ⟨k_36, h⟩ := chk_some h
                  refine gf_2_1 C hP k_36 wl_242 dX6_bandInfo_127 ?_
                  refine lv_if_ne (tgt := 138) hx hb dX6_bandInfo_130 (by decide) (fun c_37 => ?_) (fun c_37 => ?_)
                  · replace h := ite_f h c_37
                    refine lv_aload_n hx hb dX6_bandInfo_138 rfl (lv_at hl 0 rfl) ?_
                    refine gf_0_0 C hP k_34 eb_35 wl_241 dX6_bandInfo_139 ?_
                    refine gf_2_2 C hP k_36 wl_244 dX6_bandInfo_142 ?_
                    cases h
                    exact rt_i C hP hD hS dX6_bandInfo_145
                  · replace h := ite_t h c_37
                    refine lv_ldc (own := RX6) (v := -2000000004) hx hb hown (hts _ wl_243) dX6_bandInfo_133 ?_
                    refine lv_goto (tgt := 145) hx hb dX6_bandInfo_135 (by decide) ?_
                    cases h
                    exact rt_i C hP hD hS dX6_bandInfo_145
                · replace h := ite_f h q_33
                  by_cases q_38 : x2 = 6
                  · replace h := ite_t h q_38
                    refine lv_tableIn (off := 111) (tgt := 146) hx hb dX6_bandInfo_35 (by rw [q_38]; decide) (by rw [q_38]; decide) (by rw [q_38]; rfl) (by decide) ?_
                    refine lv_aload_n hx hb dX6_bandInfo_146 rfl (lv_at hl 0 rfl) ?_
                    obtain ⟨k_39, h⟩ := chk_some h
                    obtain ⟨b_40, eb_40, h⟩ := rfm_some h
                    refine gf_0_0 C hP k_39 eb_40 wl_241 dX6_bandInfo_147 ?_
                    obtain ⟨k_41, h⟩ := chk_some h
                    refine gf_2_1 C hP k_41 wl_242 dX6_bandInfo_150 ?_
                    refine lv_if_ne (tgt := 161) hx hb dX6_bandInfo_153 (by decide) (fun c_42 => ?_) (fun c_42 => ?_)
                    · replace h := ite_f h c_42
                      refine lv_aload_n hx hb dX6_bandInfo_161 rfl (lv_at hl 0 rfl) ?_
                      refine gf_0_0 C hP k_39 eb_40 wl_241 dX6_bandInfo_162 ?_
                      refine gf_2_3 C hP k_41 wl_245 dX6_bandInfo_165 ?_
                      cases h
                      exact rt_i C hP hD hS dX6_bandInfo_168
                    · replace h := ite_t h c_42
                      refine lv_ldc (own := RX6) (v := -2000000004) hx hb hown (hts _ wl_243) dX6_bandInfo_156 ?_
                      refine lv_goto (tgt := 168) hx hb dX6_bandInfo_158 (by decide) ?_
                      cases h
                      exact rt_i C hP hD hS dX6_bandInfo_168
                  · replace h := ite_f h q_38
                    by_cases q_43 : x2 = 7
                    · replace h := ite_t h q_43
                      refine lv_tableIn (off := 134) (tgt := 169) hx hb dX6_bandInfo_35 (by rw [q_43]; decide) (by rw [q_43]; decide) (by rw [q_43]; rfl) (by decide) ?_
                      refine lv_aload_n hx hb dX6_bandInfo_169 rfl (lv_at hl 1 rfl) ?_
                      refine gf_6_3 C hP k_1 eb_2 wl_21 dX6_bandInfo_170 ?_
                      refine lv_aload_n hx hb dX6_bandInfo_173 rfl (lv_at hl 0 rfl) ?_
                      obtain ⟨k_44, h⟩ := chk_some h
                      refine gf_0_1 C hP k_44 wl_239 dX6_bandInfo_174 ?_
                      obtain ⟨r_45, M_46, hc_47, h⟩ := cal_some h
                      refine cl_Vi (As := [.int (gI M_9 b_15 1)]) (rest := []) C (ct_X5_snowAt hc_47) k_3 (by decide) rfl wl_250 wl_251 wl_252 wl_14 wl_253 hd_X5_snowAt ⟨Nat.le_of_ble_eq_true rfl, Nat.le_of_ble_eq_true rfl⟩ ⟨rfl, rfl⟩ ⟨Nat.zero_le _, Nat.zero_le _⟩ rfl (Nat.le_of_ble_eq_true rfl) rfl hl.1 hP hD hS dX6_bandInfo_177 (fun H locs hP hD hS => ?_)
                      cases h
                      exact rt_i C hP hD hS dX6_bandInfo_180
                    · replace h := ite_f h q_43
                      by_cases q_48 : x2 = 8
                      · replace h := ite_t h q_48
                        refine lv_tableIn (off := 146) (tgt := 181) hx hb dX6_bandInfo_35 (by rw [q_48]; decide) (by rw [q_48]; decide) (by rw [q_48]; rfl) (by decide) ?_
                        refine lv_aload_n hx hb dX6_bandInfo_181 rfl (lv_at hl 1 rfl) ?_
                        refine gf_6_3 C hP k_1 eb_2 wl_21 dX6_bandInfo_182 ?_
                        refine lv_aload_n hx hb dX6_bandInfo_185 rfl (lv_at hl 0 rfl) ?_
                        obtain ⟨k_49, h⟩ := chk_some h
                        refine gf_0_1 C hP k_49 wl_239 dX6_bandInfo_186 ?_
                        refine lv_aload_n hx hb dX6_bandInfo_189 rfl (lv_at hl 1 rfl) ?_
                        refine gf_6_3 C hP k_1 eb_2 wl_21 dX6_bandInfo_190 ?_
                        obtain ⟨b_50, eb_50, h⟩ := rfm_some h
                        refine gf_5_0 C hP k_3 eb_50 wl_108 dX6_bandInfo_193 ?_
                        refine lv_iconst (v := 2) hx hb dX6_bandInfo_196 (by decide) ?_
                        obtain ⟨k_51, h⟩ := chk_some h
                        obtain ⟨k_52, h⟩ := chk_some h
                        refine ar_9 C hP k_51 k_52 dX6_bandInfo_197 ?_
                        obtain ⟨r_53, M_54, hc_55, h⟩ := cal_some h
                        refine cl_Vi (As := [.int (gI M_9 b_15 1), .int (gI M_9 b_50 (2 : Int32).toNatClampNeg)]) (rest := []) C (ct_X5_meltAt hc_55) k_3 (by decide) rfl wl_259 wl_260 wl_261 wl_14 wl_262 hd_X5_meltAt ⟨Nat.le_of_ble_eq_true rfl, Nat.le_of_ble_eq_true rfl⟩ ⟨rfl, rfl⟩ ⟨Nat.zero_le _, Nat.zero_le _⟩ rfl (Nat.le_of_ble_eq_true rfl) rfl hl.1 hP hD hS dX6_bandInfo_198 (fun H locs hP hD hS => ?_)
                        cases h
                        exact rt_i C hP hD hS dX6_bandInfo_201
                      · replace h := ite_f h q_48
                        by_cases q_56 : x2 = 9
                        · replace h := ite_t h q_56
                          refine lv_tableIn (off := 167) (tgt := 202) hx hb dX6_bandInfo_35 (by rw [q_56]; decide) (by rw [q_56]; decide) (by rw [q_56]; rfl) (by decide) ?_
                          refine lv_aload_n hx hb dX6_bandInfo_202 rfl (lv_at hl 0 rfl) ?_
                          obtain ⟨k_57, h⟩ := chk_some h
                          refine gf_0_4 C hP k_57 wl_246 dX6_bandInfo_203 ?_
                          cases h
                          exact rt_i C hP hD hS dX6_bandInfo_206
                        · replace h := ite_f h q_56
                          by_cases q_58 : x2 = 10
                          · replace h := ite_t h q_58
                            refine lv_tableIn (off := 172) (tgt := 207) hx hb dX6_bandInfo_35 (by rw [q_58]; decide) (by rw [q_58]; decide) (by rw [q_58]; rfl) (by decide) ?_
                            refine lv_aload_n hx hb dX6_bandInfo_207 rfl (lv_at hl 0 rfl) ?_
                            obtain ⟨k_59, h⟩ := chk_some h
                            refine gf_0_5 C hP k_59 wl_247 dX6_bandInfo_208 ?_
                            cases h
                            exact rt_i C hP hD hS dX6_bandInfo_211
                          · replace h := ite_f h q_58
                            refine lv_tableOut (tgt := 212) hx hb dX6_bandInfo_35 (by have zq_16 := i32ne (k := 0) q_16 (by decide); have zq_18 := i32ne (k := 1) q_18 (by decide); have zq_20 := i32ne (k := 2) q_20 (by decide); have zq_22 := i32ne (k := 3) q_22 (by decide); have zq_26 := i32ne (k := 4) q_26 (by decide); have zq_33 := i32ne (k := 5) q_33 (by decide); have zq_38 := i32ne (k := 6) q_38 (by decide); have zq_43 := i32ne (k := 7) q_43 (by decide); have zq_48 := i32ne (k := 8) q_48 (by decide); have zq_56 := i32ne (k := 9) q_56 (by decide); have zq_58 := i32ne (k := 10) q_58 (by decide); omega) (by decide) ?_
                            refine lv_aload_n hx hb dX6_bandInfo_212 rfl (lv_at hl 0 rfl) ?_
                            obtain ⟨k_60, h⟩ := chk_some h
                            refine gf_0_6 C hP k_60 wl_248 dX6_bandInfo_213 ?_
                            cases h
                            exact rt_i C hP hD hS dX6_bandInfo_216
    · replace h := ite_t h c_11
      refine lv_ldc (own := RX6) (v := -2000000001) hx hb hown (hts _ wl_107) dX6_bandInfo_21 ?_
      cases h
      exact rt_i C hP hD hS dX6_bandInfo_23
abbrev rm_X6_layer : Room := { frames := 2, cells := 0, slots := 0, locals := 44 }
theorem hd_X6_layer : yX6_layer.cls = RX6 ∧ yX6_layer.cls ≠ "java/lang/invoke/MethodHandle" ∧ yX6_layer.cls ≠ "java/lang/invoke/VarHandle" ∧ (parseMethodDescriptor yX6_layer.desc).map (fun d => d.parameters.length) = some 3 := ⟨rfl, by decide +kernel, by decide +kernel, by decide +kernel⟩
set_option maxHeartbeats 4000000 in
set_option maxRecDepth 100000 in
theorem ct_X6_layer {l : Launch} {D : va_G} {cy : Cy} {T : Ty} {R : Rm} {a0 : Nat} {x1 : Int32} {x2 : Int32} {x3 : Int32} {M : Mm} {r : Int32} {M9 : Mm} (h : fn_X6_layer T R a0 x1 x2 x3 M = some (r, M9)) : Ct QcI l yX6_layer cX6_layer 6 (some .int) rm_X6_layer D cy T M R [.ref a0, .int x1, .int x2, .int x3] M9 R r := by
  unfold fn_X6_layer at h
  refine enter (plainFor_of_name (by decide +kernel)) (Nat.le_of_ble_eq_true rfl) (fun p e s m args below meth c A C hP hD hS ls hl => ?_)
  have hl : lv_has ls 6 [(0, .ref a0), (1, .int x1), (2, .int x2), (3, .int x3)] := hl
  obtain ⟨hx, hb, hr, hml, hown, hts, hK, hA, hlk, hSt⟩ := id C
  refine lv_aload_n hx hb dX6_layer_0 rfl (lv_at hl 0 rfl) ?_
  obtain ⟨k_1, h⟩ := chk_some h
  obtain ⟨b_2, eb_2, h⟩ := rfm_some h
  refine gf_6_3 C hP k_1 eb_2 wl_21 dX6_layer_1 ?_
  refine lv_iload_n hx hb dX6_layer_4 rfl (lv_at hl 1 rfl) ?_
  obtain ⟨k_3, h⟩ := chk_some h
  obtain ⟨r_4, M_5, hc_6, h⟩ := cal_some h
  refine cl_Vi (As := [.int x1]) (rest := []) C (ct_X5_hasBand hc_6) k_3 (by decide) rfl wl_231 wl_232 wl_233 wl_14 wl_234 hd_X5_hasBand ⟨Nat.le_of_ble_eq_true rfl, Nat.le_of_ble_eq_true rfl⟩ ⟨rfl, rfl⟩ ⟨Nat.zero_le _, Nat.zero_le _⟩ rfl (Nat.le_of_ble_eq_true rfl) rfl hl.1 hP hD hS dX6_layer_5 (fun H locs hP hD hS => ?_)
  refine lv_if_eq (tgt := 24) hx hb dX6_layer_8 (by decide) (fun c_7 => ?_) (fun c_7 => ?_)
  · replace h := ite_t h c_7
    refine lv_ldc (own := RX6) (v := -2000000001) hx hb hown (hts _ wl_107) dX6_layer_24 ?_
    cases h
    exact rt_i C hP hD hS dX6_layer_26
  · replace h := ite_f h c_7
    refine lv_iload_n hx hb dX6_layer_11 rfl (lv_at hl 2 rfl) ?_
    refine lv_if_lt (tgt := 24) hx hb dX6_layer_12 (by decide) (fun c_8 => ?_) (fun c_8 => ?_)
    · replace h := ite_t h c_8
      refine lv_ldc (own := RX6) (v := -2000000001) hx hb hown (hts _ wl_107) dX6_layer_24 ?_
      cases h
      exact rt_i C hP hD hS dX6_layer_26
    · replace h := ite_f h c_8
      refine lv_iload_n hx hb dX6_layer_15 rfl (lv_at hl 3 rfl) ?_
      refine lv_iconst (v := 0) hx hb dX6_layer_16 (by decide) ?_
      refine lv_iconst (v := 1) hx hb dX6_layer_17 (by decide) ?_
      obtain ⟨r_9, M_10, hc_11, h⟩ := cal_some h
      refine cl_Si (As := [.int x3, .int (0 : Int32), .int (1 : Int32)]) (rest := []) C (ct_X6_isWithin hc_11) wl_113 wl_114 wl_2 wl_115 hd_X6_isWithin ⟨Nat.le_of_ble_eq_true rfl, Nat.le_of_ble_eq_true rfl⟩ ⟨rfl, rfl⟩ ⟨Nat.zero_le _, Nat.zero_le _⟩ rfl (Nat.le_of_ble_eq_true rfl) rfl hl.1 hP hD hS dX6_layer_18 (fun H locs hP hD hS => ?_)
      refine lv_if_ne (tgt := 27) hx hb dX6_layer_21 (by decide) (fun c_12 => ?_) (fun c_12 => ?_)
      · replace h := ite_f h c_12
        refine lv_aload_n hx hb dX6_layer_27 rfl (lv_at hl 0 rfl) ?_
        refine gf_6_3 C hP k_1 eb_2 wl_21 dX6_layer_28 ?_
        obtain ⟨b_13, eb_13, h⟩ := rfm_some h
        refine gf_5_1 C hP k_3 eb_13 wl_229 dX6_layer_31 ?_
        refine lv_iload_n hx hb dX6_layer_34 rfl (lv_at hl 1 rfl) ?_
        obtain ⟨k_14, h⟩ := chk_some h
        obtain ⟨k_15, h⟩ := chk_some h
        obtain ⟨b_16, eb_16, h⟩ := rfm_some h
        refine ar_11 C hP k_14 k_15 eb_16 dX6_layer_35 ?_
        obtain ⟨k_17, h⟩ := chk_some h
        obtain ⟨b_18, eb_18, h⟩ := rfm_some h
        refine gf_0_0 C hP k_17 eb_18 wl_241 dX6_layer_36 ?_
        refine lv_astore (lv' := [(4, .ref b_18), (0, .ref a0), (1, .int x1), (2, .int x2), (3, .int x3)]) hx hb dX6_layer_39 hl (by decide) rfl (fun ls hl => ?_)
        refine lv_aload hx hb dX6_layer_41 (lv_at hl 0 rfl) ?_
        refine lv_iload_n hx hb dX6_layer_43 rfl (lv_at hl 3 rfl) ?_
        obtain ⟨k_19, h⟩ := chk_some h
        obtain ⟨r_20, M_21, hc_22, h⟩ := cal_some h
        refine cl_Vi (As := [.int x2]) (rest := []) C (ct_X2_yearOfLayer hc_22) k_19 (by decide) rfl wl_267 wl_268 wl_269 wl_65 wl_270 hd_X2_yearOfLayer ⟨Nat.le_of_ble_eq_true rfl, Nat.le_of_ble_eq_true rfl⟩ ⟨rfl, rfl⟩ ⟨Nat.zero_le _, Nat.zero_le _⟩ rfl (Nat.le_of_ble_eq_true rfl) rfl hl.1 hP hD hS dX6_layer_44 (fun H locs hP hD hS => ?_)
        refine lv_istore (lv' := [(5, .int r_20), (4, .ref b_18), (0, .ref a0), (1, .int x1), (2, .int x2), (3, .int x3)]) hx hb dX6_layer_47 hl (by decide) rfl (fun ls hl => ?_)
        refine lv_iload hx hb dX6_layer_49 (lv_at hl 0 rfl) ?_
        refine lv_if_ge (tgt := 57) hx hb dX6_layer_51 (by decide) (fun c_23 => ?_) (fun c_23 => ?_)
        · replace h := ite_t h c_23
          refine lv_iload_n hx hb dX6_layer_57 rfl (lv_at hl 5 rfl) ?_
          refine lv_if_ne (tgt := 66) hx hb dX6_layer_58 (by decide) (fun c_24 => ?_) (fun c_24 => ?_)
          · replace h := ite_f h c_24
            refine lv_aload hx hb dX6_layer_66 (lv_at hl 1 rfl) ?_
            refine lv_iload hx hb dX6_layer_68 (lv_at hl 0 rfl) ?_
            obtain ⟨r_25, M_26, hc_27, h⟩ := cal_some h
            refine cl_Vi (As := [.int r_20]) (rest := []) C (ct_X2_leftOf hc_27) k_19 (by decide) rfl wl_271 wl_131 wl_132 wl_65 wl_133 hd_X2_leftOf ⟨Nat.le_of_ble_eq_true rfl, Nat.le_of_ble_eq_true rfl⟩ ⟨rfl, rfl⟩ ⟨Nat.zero_le _, Nat.zero_le _⟩ rfl (Nat.le_of_ble_eq_true rfl) rfl hl.1 hP hD hS dX6_layer_70 (fun H locs hP hD hS => ?_)
            cases h
            exact rt_i C hP hD hS dX6_layer_73
          · replace h := ite_t h c_24
            refine lv_iload hx hb dX6_layer_61 (lv_at hl 0 rfl) ?_
            refine lv_goto (tgt := 73) hx hb dX6_layer_63 (by decide) ?_
            cases h
            exact rt_i C hP hD hS dX6_layer_73
        · replace h := ite_f h c_23
          refine lv_ldc (own := RX6) (v := -2000000004) hx hb hown (hts _ wl_243) dX6_layer_54 ?_
          cases h
          exact rt_i C hP hD hS dX6_layer_56
      · replace h := ite_t h c_12
        refine lv_ldc (own := RX6) (v := -2000000001) hx hb hown (hts _ wl_107) dX6_layer_24 ?_
        cases h
        exact rt_i C hP hD hS dX6_layer_26
abbrev rm_X6_ofYear : Room := { frames := 2, cells := 0, slots := 0, locals := 44 }
theorem hd_X6_ofYear : yX6_ofYear.cls = RX6 ∧ yX6_ofYear.cls ≠ "java/lang/invoke/MethodHandle" ∧ yX6_ofYear.cls ≠ "java/lang/invoke/VarHandle" ∧ (parseMethodDescriptor yX6_ofYear.desc).map (fun d => d.parameters.length) = some 1 := ⟨rfl, by decide +kernel, by decide +kernel, by decide +kernel⟩
set_option maxHeartbeats 4000000 in
set_option maxRecDepth 100000 in
theorem ct_X6_ofYear {l : Launch} {D : va_G} {cy : Cy} {T : Ty} {R : Rm} {a0 : Nat} {x1 : Int32} {M : Mm} {r : Int32} {M9 : Mm} (h : fn_X6_ofYear T R a0 x1 M = some (r, M9)) : Ct QcI l yX6_ofYear cX6_ofYear 2 (some .int) rm_X6_ofYear D cy T M R [.ref a0, .int x1] M9 R r := by
  unfold fn_X6_ofYear at h
  refine enter (plainFor_of_name (by decide +kernel)) (Nat.le_of_ble_eq_true rfl) (fun p e s m args below meth c A C hP hD hS ls hl => ?_)
  have hl : lv_has ls 2 [(0, .ref a0), (1, .int x1)] := hl
  obtain ⟨hx, hb, hr, hml, hown, hts, hK, hA, hlk, hSt⟩ := id C
  refine lv_iload_n hx hb dX6_ofYear_0 rfl (lv_at hl 1 rfl) ?_
  refine lv_iconst (v := 0) hx hb dX6_ofYear_1 (by decide) ?_
  refine lv_sipush (v := 500) hx hb dX6_ofYear_2 (by decide) ?_
  obtain ⟨r_1, M_2, hc_3, h⟩ := cal_some h
  refine cl_Si (As := [.int x1, .int (0 : Int32), .int (500 : Int32)]) (rest := []) C (ct_X6_isWithin hc_3) wl_113 wl_114 wl_2 wl_115 hd_X6_isWithin ⟨Nat.le_of_ble_eq_true rfl, Nat.le_of_ble_eq_true rfl⟩ ⟨rfl, rfl⟩ ⟨Nat.zero_le _, Nat.zero_le _⟩ rfl (Nat.le_of_ble_eq_true rfl) rfl hl.1 hP hD hS dX6_ofYear_5 (fun H locs hP hD hS => ?_)
  refine lv_if_ne (tgt := 14) hx hb dX6_ofYear_8 (by decide) (fun c_4 => ?_) (fun c_4 => ?_)
  · replace h := ite_f h c_4
    refine lv_aload_n hx hb dX6_ofYear_14 rfl (lv_at hl 0 rfl) ?_
    obtain ⟨k_5, h⟩ := chk_some h
    obtain ⟨b_6, eb_6, h⟩ := rfm_some h
    refine gf_6_3 C hP k_5 eb_6 wl_21 dX6_ofYear_15 ?_
    refine lv_iload_n hx hb dX6_ofYear_18 rfl (lv_at hl 1 rfl) ?_
    obtain ⟨k_7, h⟩ := chk_some h
    obtain ⟨r_8, M_9, hc_10, h⟩ := cal_some h
    refine cl_Vi (As := [.int x1]) (rest := []) C (ct_X5_leftOf hc_10) k_7 (by decide) rfl wl_276 wl_139 wl_140 wl_14 wl_141 hd_X5_leftOf ⟨Nat.le_of_ble_eq_true rfl, Nat.le_of_ble_eq_true rfl⟩ ⟨rfl, rfl⟩ ⟨Nat.zero_le _, Nat.zero_le _⟩ rfl (Nat.le_of_ble_eq_true rfl) rfl hl.1 hP hD hS dX6_ofYear_19 (fun H locs hP hD hS => ?_)
    cases h
    exact rt_i C hP hD hS dX6_ofYear_22
  · replace h := ite_t h c_4
    refine lv_ldc (own := RX6) (v := -2000000001) hx hb hown (hts _ wl_107) dX6_ofYear_11 ?_
    cases h
    exact rt_i C hP hD hS dX6_ofYear_13
abbrev rm_X6_line : Room := { frames := 2, cells := 0, slots := 0, locals := 45 }
theorem hd_X6_line : yX6_line.cls = RX6 ∧ yX6_line.cls ≠ "java/lang/invoke/MethodHandle" ∧ yX6_line.cls ≠ "java/lang/invoke/VarHandle" ∧ (parseMethodDescriptor yX6_line.desc).map (fun d => d.parameters.length) = some 0 := ⟨rfl, by decide +kernel, by decide +kernel, by decide +kernel⟩
set_option maxHeartbeats 4000000 in
set_option maxRecDepth 100000 in
theorem bs_X6_line_10 {p : Program} {l : Launch} {e : Env} {s : State} {m : MethodId} {args : Array Value} {below : List Frame} {meth : Method} {c : Code} {D : va_G} {cy : Cy} {A : Nat → Prop} {T : Ty} {R : Rm} {r : Int32} {M9 : Mm} {a0 : Nat} {j10 : Int32 → Mm → Option (Int32 × Mm)} (C : Cx RX6 cX6_line 3 (some .int) p s m args meth c D cy A)
    (hj10 : ∀ (x1 : Int32) (M : Mm) (H : Heap) (locs : List Loc), j10 x1 M = some (r, M9) → va_P D vwCl (WL cy T M R) H → va_D A (WL cy T M R) → va_S A s.heap H locs → ∀ ls : Array Slot, lv_has ls 3 [(0, .ref a0), (1, .int x1)] → W p l e rm_X6_line s m args below meth c H locs 0 0 (MQ below (QcI D cy T M9 R A r) args s 0 0 A) (F0 m 10 ls [])) :
    ∀ (x1 : Int32) (M : Mm) (H : Heap) (locs : List Loc), fs_X6_line_10 T R a0 j10 x1 M = some (r, M9) → va_P D vwCl (WL cy T M R) H → va_D A (WL cy T M R) → va_S A s.heap H locs → ∀ ls : Array Slot, lv_has ls 3 [(0, .ref a0), (1, .int x1)] → W p l e rm_X6_line s m args below meth c H locs 0 0 (MQ below (QcI D cy T M9 R A r) args s 0 0 A) (F0 m 10 ls []) := by
  intro x1 M H locs h hP hD hS ls hl
  unfold fs_X6_line_10 at h
  obtain ⟨hx, hb, hr, hml, hown, hts, hK, hA, hlk, hSt⟩ := id C
  refine lv_iload_n hx hb dX6_line_10 rfl (lv_at hl 1 rfl) ?_
  refine lv_if_lt (tgt := 63) hx hb dX6_line_11 (by decide) (fun c_1 => ?_) (fun c_1 => ?_)
  · replace h := ite_t h c_1
    refine lv_ldc (own := RX6) (v := -2000000004) hx hb hown (hts _ wl_243) dX6_line_63 ?_
    cases h
    exact rt_i C hP hD hS dX6_line_65
  · replace h := ite_f h c_1
    refine lv_aload_n hx hb dX6_line_14 rfl (lv_at hl 0 rfl) ?_
    obtain ⟨k_2, h⟩ := chk_some h
    obtain ⟨b_3, eb_3, h⟩ := rfm_some h
    refine gf_6_3 C hP k_2 eb_3 wl_21 dX6_line_15 ?_
    obtain ⟨k_4, h⟩ := chk_some h
    obtain ⟨b_5, eb_5, h⟩ := rfm_some h
    refine gf_5_1 C hP k_4 eb_5 wl_229 dX6_line_18 ?_
    refine lv_iload_n hx hb dX6_line_21 rfl (lv_at hl 1 rfl) ?_
    obtain ⟨k_6, h⟩ := chk_some h
    obtain ⟨k_7, h⟩ := chk_some h
    obtain ⟨b_8, eb_8, h⟩ := rfm_some h
    refine ar_11 C hP k_6 k_7 eb_8 dX6_line_22 ?_
    obtain ⟨k_9, h⟩ := chk_some h
    refine gf_0_1 C hP k_9 wl_239 dX6_line_23 ?_
    refine lv_topi (fun v_10 ev_10 => ?_)
    replace h := bnd_at h ev_10
    refine lv_istore_n (lv' := [(2, .int v_10), (0, .ref a0), (1, .int x1)]) hx hb dX6_line_26 rfl hl (by decide) rfl (fun ls hl => ?_)
    refine lv_aload_n hx hb dX6_line_27 rfl (lv_at hl 1 rfl) ?_
    refine gf_6_3 C hP k_2 eb_3 wl_21 dX6_line_28 ?_
    refine lv_iload_n hx hb dX6_line_31 rfl (lv_at hl 0 rfl) ?_
    obtain ⟨r_11, M_12, hc_13, h⟩ := cal_some h
    refine cl_Vi (As := [.int v_10]) (rest := []) C (ct_X5_snowAt hc_13) k_4 (by decide) rfl wl_250 wl_251 wl_252 wl_14 wl_253 hd_X5_snowAt ⟨Nat.le_of_ble_eq_true rfl, Nat.le_of_ble_eq_true rfl⟩ ⟨rfl, rfl⟩ ⟨Nat.zero_le _, Nat.zero_le _⟩ rfl (Nat.le_of_ble_eq_true rfl) rfl hl.1 hP hD hS dX6_line_32 (fun H locs hP hD hS => ?_)
    refine lv_aload_n hx hb dX6_line_35 rfl (lv_at hl 1 rfl) ?_
    refine gf_6_3 C hP k_2 eb_3 wl_21 dX6_line_36 ?_
    refine lv_iload_n hx hb dX6_line_39 rfl (lv_at hl 0 rfl) ?_
    refine lv_aload_n hx hb dX6_line_40 rfl (lv_at hl 1 rfl) ?_
    refine gf_6_3 C hP k_2 eb_3 wl_21 dX6_line_41 ?_
    obtain ⟨b_14, eb_14, h⟩ := rfm_some h
    refine gf_5_0 C hP k_4 eb_14 wl_108 dX6_line_44 ?_
    refine lv_iconst (v := 2) hx hb dX6_line_47 (by decide) ?_
    obtain ⟨k_15, h⟩ := chk_some h
    obtain ⟨k_16, h⟩ := chk_some h
    refine ar_9 C hP k_15 k_16 dX6_line_48 ?_
    obtain ⟨r_17, M_18, hc_19, h⟩ := cal_some h
    refine cl_Vi (As := [.int v_10, .int (gI M_12 b_14 (2 : Int32).toNatClampNeg)]) (rest := [.int r_11]) C (ct_X5_meltAt hc_19) k_4 (by decide) rfl wl_259 wl_260 wl_261 wl_14 wl_262 hd_X5_meltAt ⟨Nat.le_of_ble_eq_true rfl, Nat.le_of_ble_eq_true rfl⟩ ⟨rfl, rfl⟩ ⟨Nat.zero_le _, Nat.zero_le _⟩ rfl (Nat.le_of_ble_eq_true rfl) rfl hl.1 hP hD hS dX6_line_49 (fun H locs hP hD hS => ?_)
    refine lv_icmp_lt (tgt := 57) hx hb dX6_line_52 (by decide) (fun c_20 => ?_) (fun c_20 => ?_)
    · replace h := ite_t h c_20
      obtain ⟨v_21, ev_21⟩ : ∃ y : Int32, y = (x1 + (-1 : Int32)) := ⟨_, rfl⟩
      replace h := bnd_at h ev_21
      refine lv_iinc (v := v_21) (lv' := [(1, .int v_21), (2, .int v_10), (0, .ref a0)]) hx hb dX6_line_57 hl (k := 2) rfl (by rw [ev_21]; rfl) (by decide) rfl (fun ls hl => ?_)
      refine lv_goto (tgt := 10) hx hb dX6_line_60 (by decide) ?_
      exact hj10 _ _ _ _ h hP hD hS _ (lv_sub hl [2, 0] rfl)
    · replace h := ite_f h c_20
      refine lv_iload_n hx hb dX6_line_55 rfl (lv_at hl 2 rfl) ?_
      cases h
      exact rt_i C hP hD hS dX6_line_56
theorem bt_X6_line_10 {p : Program} {l : Launch} {e : Env} {s : State} {m : MethodId} {args : Array Value} {below : List Frame} {meth : Method} {c : Code} {D : va_G} {cy : Cy} {A : Nat → Prop} {T : Ty} {R : Rm} {r : Int32} {M9 : Mm} {a0 : Nat} (C : Cx RX6 cX6_line 3 (some .int) p s m args meth c D cy A) :
    ∀ n : Nat, ∀ (x1 : Int32) (M : Mm) (H : Heap) (locs : List Loc), fb_X6_line_10 T R a0 n x1 M = some (r, M9) → va_P D vwCl (WL cy T M R) H → va_D A (WL cy T M R) → va_S A s.heap H locs → ∀ ls : Array Slot, lv_has ls 3 [(0, .ref a0), (1, .int x1)] → W p l e rm_X6_line s m args below meth c H locs 0 0 (MQ below (QcI D cy T M9 R A r) args s 0 0 A) (F0 m 10 ls []) := by
  intro n
  induction n with
  | zero =>
    intro _ _ H locs h
    exact absurd (show (none : Option (Int32 × Mm)) = some _ from h) (by simp)
  | succ n ih => exact fun u0 u1 H locs h => bs_X6_line_10 (a0 := a0) C ih u0 u1 H locs h
set_option maxHeartbeats 4000000 in
set_option maxRecDepth 100000 in
theorem ct_X6_line {l : Launch} {D : va_G} {cy : Cy} {T : Ty} {R : Rm} {a0 : Nat} {M : Mm} {r : Int32} {M9 : Mm} (h : fn_X6_line T R a0 M = some (r, M9)) : Ct QcI l yX6_line cX6_line 3 (some .int) rm_X6_line D cy T M R [.ref a0] M9 R r := by
  unfold fn_X6_line at h
  refine enter (plainFor_of_name (by decide +kernel)) (Nat.le_of_ble_eq_true rfl) (fun p e s m args below meth c A C hP hD hS ls hl => ?_)
  have hl : lv_has ls 3 [(0, .ref a0)] := hl
  obtain ⟨hx, hb, hr, hml, hown, hts, hK, hA, hlk, hSt⟩ := id C
  refine lv_aload_n hx hb dX6_line_0 rfl (lv_at hl 0 rfl) ?_
  obtain ⟨k_22, h⟩ := chk_some h
  obtain ⟨b_23, eb_23, h⟩ := rfm_some h
  refine gf_6_3 C hP k_22 eb_23 wl_21 dX6_line_1 ?_
  obtain ⟨k_24, h⟩ := chk_some h
  refine gf_5_4 C hP k_24 wl_109 dX6_line_4 ?_
  refine lv_iconst (v := 1) hx hb dX6_line_7 (by decide) ?_
  refine lv_isub hx hb dX6_line_8 ?_
  refine lv_topi (fun v_25 ev_25 => ?_)
  replace h := bnd_at h ev_25
  refine lv_istore_n (lv' := [(1, .int v_25), (0, .ref a0)]) hx hb dX6_line_9 rfl hl (by decide) rfl (fun ls hl => ?_)
  exact (bt_X6_line_10 C FU) _ _ _ _ h hP hD hS _ (lv_sub hl [1, 0] rfl)
abbrev rm_X6_front : Room := { frames := 1, cells := 0, slots := 0, locals := 22 }
theorem hd_X6_front : yX6_front.cls = RX6 ∧ yX6_front.cls ≠ "java/lang/invoke/MethodHandle" ∧ yX6_front.cls ≠ "java/lang/invoke/VarHandle" ∧ (parseMethodDescriptor yX6_front.desc).map (fun d => d.parameters.length) = some 1 := ⟨rfl, by decide +kernel, by decide +kernel, by decide +kernel⟩
set_option maxHeartbeats 4000000 in
set_option maxRecDepth 100000 in
theorem ct_X6_front {l : Launch} {D : va_G} {cy : Cy} {T : Ty} {R : Rm} {a0 : Nat} {x1 : Int32} {M : Mm} {r : Int32} {M9 : Mm} (h : fn_X6_front T R a0 x1 M = some (r, M9)) : Ct QcI l yX6_front cX6_front 2 (some .int) rm_X6_front D cy T M R [.ref a0, .int x1] M9 R r := by
  unfold fn_X6_front at h
  refine enter (plainFor_of_name (by decide +kernel)) (Nat.le_of_ble_eq_true rfl) (fun p e s m args below meth c A C hP hD hS ls hl => ?_)
  have hl : lv_has ls 2 [(0, .ref a0), (1, .int x1)] := hl
  obtain ⟨hx, hb, hr, hml, hown, hts, hK, hA, hlk, hSt⟩ := id C
  refine lv_iload_n hx hb dX6_front_0 rfl (lv_at hl 1 rfl) ?_
  refine lv_iconst (v := 0) hx hb dX6_front_1 (by decide) ?_
  refine lv_iconst (v := 3) hx hb dX6_front_2 (by decide) ?_
  obtain ⟨r_1, M_2, hc_3, h⟩ := cal_some h
  refine cl_Si (As := [.int x1, .int (0 : Int32), .int (3 : Int32)]) (rest := []) C (ct_X6_isWithin hc_3) wl_113 wl_114 wl_2 wl_115 hd_X6_isWithin ⟨Nat.le_of_ble_eq_true rfl, Nat.le_of_ble_eq_true rfl⟩ ⟨rfl, rfl⟩ ⟨Nat.zero_le _, Nat.zero_le _⟩ rfl (Nat.le_of_ble_eq_true rfl) rfl hl.1 hP hD hS dX6_front_3 (fun H locs hP hD hS => ?_)
  refine lv_if_ne (tgt := 12) hx hb dX6_front_6 (by decide) (fun c_4 => ?_) (fun c_4 => ?_)
  · replace h := ite_f h c_4
    refine lv_iload_n hx hb dX6_front_12 rfl (lv_at hl 1 rfl) ?_
    by_cases q_5 : x1 = 0
    · replace h := ite_t h q_5
      refine lv_tableIn (off := 27) (tgt := 40) hx hb dX6_front_13 (by rw [q_5]; decide) (by rw [q_5]; decide) (by rw [q_5]; rfl) (by decide) ?_
      refine lv_aload_n hx hb dX6_front_40 rfl (lv_at hl 0 rfl) ?_
      obtain ⟨k_6, h⟩ := chk_some h
      obtain ⟨b_7, eb_7, h⟩ := rfm_some h
      refine gf_6_3 C hP k_6 eb_7 wl_21 dX6_front_41 ?_
      obtain ⟨k_8, h⟩ := chk_some h
      obtain ⟨b_9, eb_9, h⟩ := rfm_some h
      refine gf_5_3 C hP k_8 eb_9 wl_281 dX6_front_44 ?_
      obtain ⟨k_10, h⟩ := chk_some h
      refine gf_1_0 C hP k_10 wl_282 dX6_front_47 ?_
      cases h
      exact rt_i C hP hD hS dX6_front_50
    · replace h := ite_f h q_5
      by_cases q_11 : x1 = 1
      · replace h := ite_t h q_11
        refine lv_tableIn (off := 38) (tgt := 51) hx hb dX6_front_13 (by rw [q_11]; decide) (by rw [q_11]; decide) (by rw [q_11]; rfl) (by decide) ?_
        refine lv_aload_n hx hb dX6_front_51 rfl (lv_at hl 0 rfl) ?_
        obtain ⟨k_12, h⟩ := chk_some h
        obtain ⟨b_13, eb_13, h⟩ := rfm_some h
        refine gf_6_3 C hP k_12 eb_13 wl_21 dX6_front_52 ?_
        obtain ⟨k_14, h⟩ := chk_some h
        obtain ⟨b_15, eb_15, h⟩ := rfm_some h
        refine gf_5_3 C hP k_14 eb_15 wl_281 dX6_front_55 ?_
        obtain ⟨k_16, h⟩ := chk_some h
        refine gf_1_1 C hP k_16 wl_283 dX6_front_58 ?_
        cases h
        exact rt_i C hP hD hS dX6_front_61
      · replace h := ite_f h q_11
        by_cases q_17 : x1 = 2
        · replace h := ite_t h q_17
          refine lv_tableIn (off := 49) (tgt := 62) hx hb dX6_front_13 (by rw [q_17]; decide) (by rw [q_17]; decide) (by rw [q_17]; rfl) (by decide) ?_
          refine lv_aload_n hx hb dX6_front_62 rfl (lv_at hl 0 rfl) ?_
          obtain ⟨k_18, h⟩ := chk_some h
          obtain ⟨b_19, eb_19, h⟩ := rfm_some h
          refine gf_6_3 C hP k_18 eb_19 wl_21 dX6_front_63 ?_
          obtain ⟨k_20, h⟩ := chk_some h
          obtain ⟨b_21, eb_21, h⟩ := rfm_some h
          refine gf_5_3 C hP k_20 eb_21 wl_281 dX6_front_66 ?_
          obtain ⟨k_22, h⟩ := chk_some h
          refine gf_1_2 C hP k_22 wl_284 dX6_front_69 ?_
          cases h
          exact rt_i C hP hD hS dX6_front_72
        · replace h := ite_f h q_17
          refine lv_tableOut (tgt := 73) hx hb dX6_front_13 (by have zq_5 := i32ne (k := 0) q_5 (by decide); have zq_11 := i32ne (k := 1) q_11 (by decide); have zq_17 := i32ne (k := 2) q_17 (by decide); omega) (by decide) ?_
          refine lv_aload_n hx hb dX6_front_73 rfl (lv_at hl 0 rfl) ?_
          obtain ⟨k_23, h⟩ := chk_some h
          obtain ⟨b_24, eb_24, h⟩ := rfm_some h
          refine gf_6_3 C hP k_23 eb_24 wl_21 dX6_front_74 ?_
          obtain ⟨k_25, h⟩ := chk_some h
          obtain ⟨b_26, eb_26, h⟩ := rfm_some h
          refine gf_5_3 C hP k_25 eb_26 wl_281 dX6_front_77 ?_
          obtain ⟨k_27, h⟩ := chk_some h
          refine gf_1_2 C hP k_27 wl_284 dX6_front_80 ?_
          refine lv_if_ne (tgt := 91) hx hb dX6_front_83 (by decide) (fun c_28 => ?_) (fun c_28 => ?_)
          · replace h := ite_f h c_28
            refine lv_aload_n hx hb dX6_front_91 rfl (lv_at hl 0 rfl) ?_
            refine gf_6_3 C hP k_23 eb_24 wl_21 dX6_front_92 ?_
            refine gf_5_3 C hP k_25 eb_26 wl_281 dX6_front_95 ?_
            refine gf_1_3 C hP k_27 wl_285 dX6_front_98 ?_
            cases h
            exact rt_i C hP hD hS dX6_front_101
          · replace h := ite_t h c_28
            refine lv_ldc (own := RX6) (v := -2000000004) hx hb hown (hts _ wl_243) dX6_front_86 ?_
            refine lv_goto (tgt := 101) hx hb dX6_front_88 (by decide) ?_
            cases h
            exact rt_i C hP hD hS dX6_front_101
  · replace h := ite_t h c_4
    refine lv_ldc (own := RX6) (v := -2000000001) hx hb hown (hts _ wl_107) dX6_front_9 ?_
    cases h
    exact rt_i C hP hD hS dX6_front_11
abbrev rm_X6_account : Room := { frames := 3, cells := 0, slots := 0, locals := 67 }
theorem hd_X6_account : yX6_account.cls = RX6 ∧ yX6_account.cls ≠ "java/lang/invoke/MethodHandle" ∧ yX6_account.cls ≠ "java/lang/invoke/VarHandle" ∧ (parseMethodDescriptor yX6_account.desc).map (fun d => d.parameters.length) = some 1 := ⟨rfl, by decide +kernel, by decide +kernel, by decide +kernel⟩
set_option maxHeartbeats 4000000 in
set_option maxRecDepth 100000 in
theorem ct_X6_account {l : Launch} {D : va_G} {cy : Cy} {T : Ty} {R : Rm} {a0 : Nat} {x1 : Int32} {M : Mm} {r : Int64} {M9 : Mm} (h : fn_X6_account T R a0 x1 M = some (r, M9)) : Ct QcL l yX6_account cX6_account 2 (some .long) rm_X6_account D cy T M R [.ref a0, .int x1] M9 R r := by
  unfold fn_X6_account at h
  refine enter (plainFor_of_name (by decide +kernel)) (Nat.le_of_ble_eq_true rfl) (fun p e s m args below meth c A C hP hD hS ls hl => ?_)
  have hl : lv_has ls 2 [(0, .ref a0), (1, .int x1)] := hl
  obtain ⟨hx, hb, hr, hml, hown, hts, hK, hA, hlk, hSt⟩ := id C
  refine lv_iload_n hx hb dX6_account_0 rfl (lv_at hl 1 rfl) ?_
  refine lv_iconst (v := 0) hx hb dX6_account_1 (by decide) ?_
  refine lv_iconst (v := 5) hx hb dX6_account_2 (by decide) ?_
  obtain ⟨r_1, M_2, hc_3, h⟩ := cal_some h
  refine cl_Si (As := [.int x1, .int (0 : Int32), .int (5 : Int32)]) (rest := []) C (ct_X6_isWithin hc_3) wl_113 wl_114 wl_2 wl_115 hd_X6_isWithin ⟨Nat.le_of_ble_eq_true rfl, Nat.le_of_ble_eq_true rfl⟩ ⟨rfl, rfl⟩ ⟨Nat.zero_le _, Nat.zero_le _⟩ rfl (Nat.le_of_ble_eq_true rfl) rfl hl.1 hP hD hS dX6_account_3 (fun H locs hP hD hS => ?_)
  refine lv_if_ne (tgt := 13) hx hb dX6_account_6 (by decide) (fun c_4 => ?_) (fun c_4 => ?_)
  · replace h := ite_f h c_4
    refine lv_iload_n hx hb dX6_account_13 rfl (lv_at hl 1 rfl) ?_
    by_cases q_5 : x1 = 0
    · replace h := ite_t h q_5
      refine lv_tableIn (off := 34) (tgt := 48) hx hb dX6_account_14 (by rw [q_5]; decide) (by rw [q_5]; decide) (by rw [q_5]; rfl) (by decide) ?_
      refine lv_aload_n hx hb dX6_account_48 rfl (lv_at hl 0 rfl) ?_
      obtain ⟨k_6, h⟩ := chk_some h
      obtain ⟨b_7, eb_7, h⟩ := rfm_some h
      refine gf_6_3 C hP k_6 eb_7 wl_21 dX6_account_49 ?_
      obtain ⟨k_8, h⟩ := chk_some h
      refine gf_5_7 C hP k_8 wl_291 dX6_account_52 ?_
      cases h
      exact rt_l C hP hD hS dX6_account_55
    · replace h := ite_f h q_5
      by_cases q_9 : x1 = 1
      · replace h := ite_t h q_9
        refine lv_tableIn (off := 42) (tgt := 56) hx hb dX6_account_14 (by rw [q_9]; decide) (by rw [q_9]; decide) (by rw [q_9]; rfl) (by decide) ?_
        refine lv_aload_n hx hb dX6_account_56 rfl (lv_at hl 0 rfl) ?_
        obtain ⟨k_10, h⟩ := chk_some h
        obtain ⟨b_11, eb_11, h⟩ := rfm_some h
        refine gf_6_3 C hP k_10 eb_11 wl_21 dX6_account_57 ?_
        obtain ⟨k_12, h⟩ := chk_some h
        refine gf_5_8 C hP k_12 wl_292 dX6_account_60 ?_
        cases h
        exact rt_l C hP hD hS dX6_account_63
      · replace h := ite_f h q_9
        by_cases q_13 : x1 = 2
        · replace h := ite_t h q_13
          refine lv_tableIn (off := 50) (tgt := 64) hx hb dX6_account_14 (by rw [q_13]; decide) (by rw [q_13]; decide) (by rw [q_13]; rfl) (by decide) ?_
          refine lv_aload_n hx hb dX6_account_64 rfl (lv_at hl 0 rfl) ?_
          obtain ⟨k_14, h⟩ := chk_some h
          obtain ⟨b_15, eb_15, h⟩ := rfm_some h
          refine gf_6_3 C hP k_14 eb_15 wl_21 dX6_account_65 ?_
          obtain ⟨k_16, h⟩ := chk_some h
          refine gf_5_9 C hP k_16 wl_293 dX6_account_68 ?_
          cases h
          exact rt_l C hP hD hS dX6_account_71
        · replace h := ite_f h q_13
          by_cases q_17 : x1 = 3
          · replace h := ite_t h q_17
            refine lv_tableIn (off := 58) (tgt := 72) hx hb dX6_account_14 (by rw [q_17]; decide) (by rw [q_17]; decide) (by rw [q_17]; rfl) (by decide) ?_
            refine lv_aload_n hx hb dX6_account_72 rfl (lv_at hl 0 rfl) ?_
            obtain ⟨k_18, h⟩ := chk_some h
            obtain ⟨b_19, eb_19, h⟩ := rfm_some h
            refine gf_6_3 C hP k_18 eb_19 wl_21 dX6_account_73 ?_
            obtain ⟨k_20, h⟩ := chk_some h
            refine gf_5_10 C hP k_20 wl_294 dX6_account_76 ?_
            cases h
            exact rt_l C hP hD hS dX6_account_79
          · replace h := ite_f h q_17
            by_cases q_21 : x1 = 4
            · replace h := ite_t h q_21
              refine lv_tableIn (off := 66) (tgt := 80) hx hb dX6_account_14 (by rw [q_21]; decide) (by rw [q_21]; decide) (by rw [q_21]; rfl) (by decide) ?_
              refine lv_aload_n hx hb dX6_account_80 rfl (lv_at hl 0 rfl) ?_
              obtain ⟨k_22, h⟩ := chk_some h
              obtain ⟨b_23, eb_23, h⟩ := rfm_some h
              refine gf_6_3 C hP k_22 eb_23 wl_21 dX6_account_81 ?_
              obtain ⟨k_24, h⟩ := chk_some h
              obtain ⟨r_25, M_26, hc_27, h⟩ := cal_some h
              refine cl_Vl (As := []) (rest := []) C (ct_X5_allIce hc_27) k_24 (by decide) rfl wl_295 wl_296 wl_297 wl_14 wl_298 hd_X5_allIce ⟨Nat.le_of_ble_eq_true rfl, Nat.le_of_ble_eq_true rfl⟩ ⟨rfl, rfl⟩ ⟨Nat.zero_le _, Nat.zero_le _⟩ rfl (Nat.le_of_ble_eq_true rfl) rfl hl.1 hP hD hS dX6_account_84 (fun H locs hP hD hS => ?_)
              cases h
              exact rt_l C hP hD hS dX6_account_87
            · replace h := ite_f h q_21
              refine lv_tableOut (tgt := 88) hx hb dX6_account_14 (by have zq_5 := i32ne (k := 0) q_5 (by decide); have zq_9 := i32ne (k := 1) q_9 (by decide); have zq_13 := i32ne (k := 2) q_13 (by decide); have zq_17 := i32ne (k := 3) q_17 (by decide); have zq_21 := i32ne (k := 4) q_21 (by decide); omega) (by decide) ?_
              refine lv_aload_n hx hb dX6_account_88 rfl (lv_at hl 0 rfl) ?_
              obtain ⟨k_28, h⟩ := chk_some h
              obtain ⟨b_29, eb_29, h⟩ := rfm_some h
              refine gf_6_3 C hP k_28 eb_29 wl_21 dX6_account_89 ?_
              obtain ⟨k_30, h⟩ := chk_some h
              obtain ⟨r_31, M_32, hc_33, h⟩ := cal_some h
              refine cl_Vl (As := []) (rest := []) C (ct_X5_allIceByYears hc_33) k_30 (by decide) rfl wl_305 wl_306 wl_307 wl_14 wl_308 hd_X5_allIceByYears ⟨Nat.le_of_ble_eq_true rfl, Nat.le_of_ble_eq_true rfl⟩ ⟨rfl, rfl⟩ ⟨Nat.zero_le _, Nat.zero_le _⟩ rfl (Nat.le_of_ble_eq_true rfl) rfl hl.1 hP hD hS dX6_account_92 (fun H locs hP hD hS => ?_)
              cases h
              exact rt_l C hP hD hS dX6_account_95
  · replace h := ite_t h c_4
    refine lv_ldc2 (own := RX6) (v := -2000000001) hx hb hown (hts _ wl_290) dX6_account_9 ?_
    cases h
    exact rt_l C hP hD hS dX6_account_12
abbrev rm_X6_count : Room := { frames := 3, cells := 0, slots := 0, locals := 66 }
theorem hd_X6_count : yX6_count.cls = RX6 ∧ yX6_count.cls ≠ "java/lang/invoke/MethodHandle" ∧ yX6_count.cls ≠ "java/lang/invoke/VarHandle" ∧ (parseMethodDescriptor yX6_count.desc).map (fun d => d.parameters.length) = some 1 := ⟨rfl, by decide +kernel, by decide +kernel, by decide +kernel⟩
set_option maxHeartbeats 4000000 in
set_option maxRecDepth 100000 in
theorem ct_X6_count {l : Launch} {D : va_G} {cy : Cy} {T : Ty} {R : Rm} {a0 : Nat} {x1 : Int32} {M : Mm} {r : Int32} {M9 : Mm} (h : fn_X6_count T R a0 x1 M = some (r, M9)) : Ct QcI l yX6_count cX6_count 2 (some .int) rm_X6_count D cy T M R [.ref a0, .int x1] M9 R r := by
  unfold fn_X6_count at h
  refine enter (plainFor_of_name (by decide +kernel)) (Nat.le_of_ble_eq_true rfl) (fun p e s m args below meth c A C hP hD hS ls hl => ?_)
  have hl : lv_has ls 2 [(0, .ref a0), (1, .int x1)] := hl
  obtain ⟨hx, hb, hr, hml, hown, hts, hK, hA, hlk, hSt⟩ := id C
  refine lv_iload_n hx hb dX6_count_0 rfl (lv_at hl 1 rfl) ?_
  refine lv_iconst (v := 0) hx hb dX6_count_1 (by decide) ?_
  refine lv_bipush (v := 14) hx hb dX6_count_2 (by decide) ?_
  obtain ⟨r_1, M_2, hc_3, h⟩ := cal_some h
  refine cl_Si (As := [.int x1, .int (0 : Int32), .int (14 : Int32)]) (rest := []) C (ct_X6_isWithin hc_3) wl_113 wl_114 wl_2 wl_115 hd_X6_isWithin ⟨Nat.le_of_ble_eq_true rfl, Nat.le_of_ble_eq_true rfl⟩ ⟨rfl, rfl⟩ ⟨Nat.zero_le _, Nat.zero_le _⟩ rfl (Nat.le_of_ble_eq_true rfl) rfl hl.1 hP hD hS dX6_count_4 (fun H locs hP hD hS => ?_)
  refine lv_if_ne (tgt := 13) hx hb dX6_count_7 (by decide) (fun c_4 => ?_) (fun c_4 => ?_)
  · replace h := ite_f h c_4
    refine lv_iload_n hx hb dX6_count_13 rfl (lv_at hl 1 rfl) ?_
    refine lv_bipush (v := 6) hx hb dX6_count_14 (by decide) ?_
    refine lv_bipush (v := 12) hx hb dX6_count_16 (by decide) ?_
    obtain ⟨r_5, M_6, hc_7, h⟩ := cal_some h
    refine cl_Si (As := [.int x1, .int (6 : Int32), .int (12 : Int32)]) (rest := []) C (ct_X6_isWithin hc_7) wl_113 wl_114 wl_2 wl_115 hd_X6_isWithin ⟨Nat.le_of_ble_eq_true rfl, Nat.le_of_ble_eq_true rfl⟩ ⟨rfl, rfl⟩ ⟨Nat.zero_le _, Nat.zero_le _⟩ rfl (Nat.le_of_ble_eq_true rfl) rfl hl.1 hP hD hS dX6_count_18 (fun H locs hP hD hS => ?_)
    refine lv_if_eq (tgt := 37) hx hb dX6_count_21 (by decide) (fun c_8 => ?_) (fun c_8 => ?_)
    · replace h := ite_t h c_8
      refine lv_iload_n hx hb dX6_count_37 rfl (lv_at hl 1 rfl) ?_
      by_cases q_9 : x1 = 0
      · replace h := ite_t h q_9
        refine lv_tableIn (off := 70) (tgt := 108) hx hb dX6_count_38 (by rw [q_9]; decide) (by rw [q_9]; decide) (by rw [q_9]; rfl) (by decide) ?_
        refine lv_aload_n hx hb dX6_count_108 rfl (lv_at hl 0 rfl) ?_
        obtain ⟨k_10, h⟩ := chk_some h
        obtain ⟨b_11, eb_11, h⟩ := rfm_some h
        refine gf_6_3 C hP k_10 eb_11 wl_21 dX6_count_109 ?_
        obtain ⟨k_12, h⟩ := chk_some h
        refine gf_5_4 C hP k_12 wl_109 dX6_count_112 ?_
        cases h
        exact rt_i C hP hD hS dX6_count_115
      · replace h := ite_f h q_9
        by_cases q_13 : x1 = 1
        · replace h := ite_t h q_13
          refine lv_tableIn (off := 78) (tgt := 116) hx hb dX6_count_38 (by rw [q_13]; decide) (by rw [q_13]; decide) (by rw [q_13]; rfl) (by decide) ?_
          refine lv_aload_n hx hb dX6_count_116 rfl (lv_at hl 0 rfl) ?_
          obtain ⟨k_14, h⟩ := chk_some h
          obtain ⟨b_15, eb_15, h⟩ := rfm_some h
          refine gf_6_3 C hP k_14 eb_15 wl_21 dX6_count_117 ?_
          obtain ⟨k_16, h⟩ := chk_some h
          refine gf_5_6 C hP k_16 wl_110 dX6_count_120 ?_
          cases h
          exact rt_i C hP hD hS dX6_count_123
        · replace h := ite_f h q_13
          by_cases q_17 : x1 = 2
          · replace h := ite_t h q_17
            refine lv_tableIn (off := 86) (tgt := 124) hx hb dX6_count_38 (by rw [q_17]; decide) (by rw [q_17]; decide) (by rw [q_17]; rfl) (by decide) ?_
            refine lv_aload_n hx hb dX6_count_124 rfl (lv_at hl 0 rfl) ?_
            obtain ⟨k_18, h⟩ := chk_some h
            obtain ⟨b_19, eb_19, h⟩ := rfm_some h
            refine gf_6_3 C hP k_18 eb_19 wl_21 dX6_count_125 ?_
            obtain ⟨k_20, h⟩ := chk_some h
            refine gf_5_5 C hP k_20 wl_111 dX6_count_128 ?_
            cases h
            exact rt_i C hP hD hS dX6_count_131
          · replace h := ite_f h q_17
            by_cases q_21 : x1 = 3
            · replace h := ite_t h q_21
              refine lv_tableIn (off := 94) (tgt := 132) hx hb dX6_count_38 (by rw [q_21]; decide) (by rw [q_21]; decide) (by rw [q_21]; rfl) (by decide) ?_
              refine lv_aload_n hx hb dX6_count_132 rfl (lv_at hl 0 rfl) ?_
              obtain ⟨k_22, h⟩ := chk_some h
              obtain ⟨b_23, eb_23, h⟩ := rfm_some h
              refine gf_6_3 C hP k_22 eb_23 wl_21 dX6_count_133 ?_
              obtain ⟨k_24, h⟩ := chk_some h
              obtain ⟨r_25, M_26, hc_27, h⟩ := cal_some h
              refine cl_Vi (As := []) (rest := []) C (ct_X5_standingStakes hc_27) k_24 (by decide) rfl wl_116 wl_117 wl_118 wl_14 wl_119 hd_X5_standingStakes ⟨Nat.le_of_ble_eq_true rfl, Nat.le_of_ble_eq_true rfl⟩ ⟨rfl, rfl⟩ ⟨Nat.zero_le _, Nat.zero_le _⟩ rfl (Nat.le_of_ble_eq_true rfl) rfl hl.1 hP hD hS dX6_count_136 (fun H locs hP hD hS => ?_)
              cases h
              exact rt_i C hP hD hS dX6_count_139
            · replace h := ite_f h q_21
              by_cases q_28 : x1 = 4
              · replace h := ite_t h q_28
                refine lv_tableIn (off := 102) (tgt := 140) hx hb dX6_count_38 (by rw [q_28]; decide) (by rw [q_28]; decide) (by rw [q_28]; rfl) (by decide) ?_
                refine lv_aload_n hx hb dX6_count_140 rfl (lv_at hl 0 rfl) ?_
                obtain ⟨k_29, h⟩ := chk_some h
                obtain ⟨b_30, eb_30, h⟩ := rfm_some h
                refine gf_6_3 C hP k_29 eb_30 wl_21 dX6_count_141 ?_
                obtain ⟨k_31, h⟩ := chk_some h
                obtain ⟨r_32, M_33, hc_34, h⟩ := cal_some h
                refine cl_Vi (As := []) (rest := []) C (ct_X5_layersOfAllBands hc_34) k_31 (by decide) rfl wl_121 wl_122 wl_123 wl_14 wl_124 hd_X5_layersOfAllBands ⟨Nat.le_of_ble_eq_true rfl, Nat.le_of_ble_eq_true rfl⟩ ⟨rfl, rfl⟩ ⟨Nat.zero_le _, Nat.zero_le _⟩ rfl (Nat.le_of_ble_eq_true rfl) rfl hl.1 hP hD hS dX6_count_144 (fun H locs hP hD hS => ?_)
                cases h
                exact rt_i C hP hD hS dX6_count_147
              · replace h := ite_f h q_28
                by_cases q_35 : x1 = 5
                · replace h := ite_t h q_35
                  refine lv_tableIn (off := 110) (tgt := 148) hx hb dX6_count_38 (by rw [q_35]; decide) (by rw [q_35]; decide) (by rw [q_35]; rfl) (by decide) ?_
                  refine lv_aload_n hx hb dX6_count_148 rfl (lv_at hl 0 rfl) ?_
                  obtain ⟨k_36, h⟩ := chk_some h
                  obtain ⟨b_37, eb_37, h⟩ := rfm_some h
                  refine gf_6_3 C hP k_36 eb_37 wl_21 dX6_count_149 ?_
                  obtain ⟨k_38, h⟩ := chk_some h
                  obtain ⟨r_39, M_40, hc_41, h⟩ := cal_some h
                  refine cl_Vi (As := []) (rest := []) C (ct_X5_differentYears hc_41) k_38 (by decide) rfl wl_134 wl_135 wl_136 wl_14 wl_137 hd_X5_differentYears ⟨Nat.le_of_ble_eq_true rfl, Nat.le_of_ble_eq_true rfl⟩ ⟨rfl, rfl⟩ ⟨Nat.zero_le _, Nat.zero_le _⟩ rfl (Nat.le_of_ble_eq_true rfl) rfl hl.1 hP hD hS dX6_count_152 (fun H locs hP hD hS => ?_)
                  cases h
                  exact rt_i C hP hD hS dX6_count_155
                · replace h := ite_f h q_35
                  by_cases q_42 : x1 = 6
                  · replace h := ite_t h q_42
                    refine lv_tableIn (off := 123) (tgt := 161) hx hb dX6_count_38 (by rw [q_42]; decide) (by rw [q_42]; decide) (by rw [q_42]; rfl) (by decide) ?_
                    refine lv_aload_n hx hb dX6_count_161 rfl (lv_at hl 0 rfl) ?_
                    obtain ⟨k_43, h⟩ := chk_some h
                    obtain ⟨b_44, eb_44, h⟩ := rfm_some h
                    refine gf_6_2 C hP k_43 eb_44 wl_20 dX6_count_162 ?_
                    obtain ⟨k_45, h⟩ := chk_some h
                    refine gf_4_1 C hP k_45 wl_112 dX6_count_165 ?_
                    cases h
                    exact rt_i C hP hD hS dX6_count_168
                  · replace h := ite_f h q_42
                    by_cases q_46 : x1 = 7
                    · replace h := ite_t h q_46
                      refine lv_tableIn (off := 123) (tgt := 161) hx hb dX6_count_38 (by rw [q_46]; decide) (by rw [q_46]; decide) (by rw [q_46]; rfl) (by decide) ?_
                      refine lv_aload_n hx hb dX6_count_161 rfl (lv_at hl 0 rfl) ?_
                      obtain ⟨k_47, h⟩ := chk_some h
                      obtain ⟨b_48, eb_48, h⟩ := rfm_some h
                      refine gf_6_2 C hP k_47 eb_48 wl_20 dX6_count_162 ?_
                      obtain ⟨k_49, h⟩ := chk_some h
                      refine gf_4_1 C hP k_49 wl_112 dX6_count_165 ?_
                      cases h
                      exact rt_i C hP hD hS dX6_count_168
                    · replace h := ite_f h q_46
                      by_cases q_50 : x1 = 8
                      · replace h := ite_t h q_50
                        refine lv_tableIn (off := 123) (tgt := 161) hx hb dX6_count_38 (by rw [q_50]; decide) (by rw [q_50]; decide) (by rw [q_50]; rfl) (by decide) ?_
                        refine lv_aload_n hx hb dX6_count_161 rfl (lv_at hl 0 rfl) ?_
                        obtain ⟨k_51, h⟩ := chk_some h
                        obtain ⟨b_52, eb_52, h⟩ := rfm_some h
                        refine gf_6_2 C hP k_51 eb_52 wl_20 dX6_count_162 ?_
                        obtain ⟨k_53, h⟩ := chk_some h
                        refine gf_4_1 C hP k_53 wl_112 dX6_count_165 ?_
                        cases h
                        exact rt_i C hP hD hS dX6_count_168
                      · replace h := ite_f h q_50
                        by_cases q_54 : x1 = 9
                        · replace h := ite_t h q_54
                          refine lv_tableIn (off := 123) (tgt := 161) hx hb dX6_count_38 (by rw [q_54]; decide) (by rw [q_54]; decide) (by rw [q_54]; rfl) (by decide) ?_
                          refine lv_aload_n hx hb dX6_count_161 rfl (lv_at hl 0 rfl) ?_
                          obtain ⟨k_55, h⟩ := chk_some h
                          obtain ⟨b_56, eb_56, h⟩ := rfm_some h
                          refine gf_6_2 C hP k_55 eb_56 wl_20 dX6_count_162 ?_
                          obtain ⟨k_57, h⟩ := chk_some h
                          refine gf_4_1 C hP k_57 wl_112 dX6_count_165 ?_
                          cases h
                          exact rt_i C hP hD hS dX6_count_168
                        · replace h := ite_f h q_54
                          by_cases q_58 : x1 = 10
                          · replace h := ite_t h q_58
                            refine lv_tableIn (off := 123) (tgt := 161) hx hb dX6_count_38 (by rw [q_58]; decide) (by rw [q_58]; decide) (by rw [q_58]; rfl) (by decide) ?_
                            refine lv_aload_n hx hb dX6_count_161 rfl (lv_at hl 0 rfl) ?_
                            obtain ⟨k_59, h⟩ := chk_some h
                            obtain ⟨b_60, eb_60, h⟩ := rfm_some h
                            refine gf_6_2 C hP k_59 eb_60 wl_20 dX6_count_162 ?_
                            obtain ⟨k_61, h⟩ := chk_some h
                            refine gf_4_1 C hP k_61 wl_112 dX6_count_165 ?_
                            cases h
                            exact rt_i C hP hD hS dX6_count_168
                          · replace h := ite_f h q_58
                            by_cases q_62 : x1 = 11
                            · replace h := ite_t h q_62
                              refine lv_tableIn (off := 123) (tgt := 161) hx hb dX6_count_38 (by rw [q_62]; decide) (by rw [q_62]; decide) (by rw [q_62]; rfl) (by decide) ?_
                              refine lv_aload_n hx hb dX6_count_161 rfl (lv_at hl 0 rfl) ?_
                              obtain ⟨k_63, h⟩ := chk_some h
                              obtain ⟨b_64, eb_64, h⟩ := rfm_some h
                              refine gf_6_2 C hP k_63 eb_64 wl_20 dX6_count_162 ?_
                              obtain ⟨k_65, h⟩ := chk_some h
                              refine gf_4_1 C hP k_65 wl_112 dX6_count_165 ?_
                              cases h
                              exact rt_i C hP hD hS dX6_count_168
                            · replace h := ite_f h q_62
                              by_cases q_66 : x1 = 12
                              · replace h := ite_t h q_66
                                refine lv_tableIn (off := 123) (tgt := 161) hx hb dX6_count_38 (by rw [q_66]; decide) (by rw [q_66]; decide) (by rw [q_66]; rfl) (by decide) ?_
                                refine lv_aload_n hx hb dX6_count_161 rfl (lv_at hl 0 rfl) ?_
                                obtain ⟨k_67, h⟩ := chk_some h
                                obtain ⟨b_68, eb_68, h⟩ := rfm_some h
                                refine gf_6_2 C hP k_67 eb_68 wl_20 dX6_count_162 ?_
                                obtain ⟨k_69, h⟩ := chk_some h
                                refine gf_4_1 C hP k_69 wl_112 dX6_count_165 ?_
                                cases h
                                exact rt_i C hP hD hS dX6_count_168
                              · replace h := ite_f h q_66
                                by_cases q_70 : x1 = 13
                                · replace h := ite_t h q_70
                                  refine lv_tableIn (off := 118) (tgt := 156) hx hb dX6_count_38 (by rw [q_70]; decide) (by rw [q_70]; decide) (by rw [q_70]; rfl) (by decide) ?_
                                  refine lv_aload_n hx hb dX6_count_156 rfl (lv_at hl 0 rfl) ?_
                                  obtain ⟨k_71, h⟩ := chk_some h
                                  refine gf_6_4 C hP k_71 wl_22 dX6_count_157 ?_
                                  cases h
                                  exact rt_i C hP hD hS dX6_count_160
                                · replace h := ite_f h q_70
                                  refine lv_tableOut (tgt := 161) hx hb dX6_count_38 (by have zq_9 := i32ne (k := 0) q_9 (by decide); have zq_13 := i32ne (k := 1) q_13 (by decide); have zq_17 := i32ne (k := 2) q_17 (by decide); have zq_21 := i32ne (k := 3) q_21 (by decide); have zq_28 := i32ne (k := 4) q_28 (by decide); have zq_35 := i32ne (k := 5) q_35 (by decide); have zq_42 := i32ne (k := 6) q_42 (by decide); have zq_46 := i32ne (k := 7) q_46 (by decide); have zq_50 := i32ne (k := 8) q_50 (by decide); have zq_54 := i32ne (k := 9) q_54 (by decide); have zq_58 := i32ne (k := 10) q_58 (by decide); have zq_62 := i32ne (k := 11) q_62 (by decide); have zq_66 := i32ne (k := 12) q_66 (by decide); have zq_70 := i32ne (k := 13) q_70 (by decide); omega) (by decide) ?_
                                  refine lv_aload_n hx hb dX6_count_161 rfl (lv_at hl 0 rfl) ?_
                                  obtain ⟨k_72, h⟩ := chk_some h
                                  obtain ⟨b_73, eb_73, h⟩ := rfm_some h
                                  refine gf_6_2 C hP k_72 eb_73 wl_20 dX6_count_162 ?_
                                  obtain ⟨k_74, h⟩ := chk_some h
                                  refine gf_4_1 C hP k_74 wl_112 dX6_count_165 ?_
                                  cases h
                                  exact rt_i C hP hD hS dX6_count_168
    · replace h := ite_f h c_8
      refine lv_aload_n hx hb dX6_count_24 rfl (lv_at hl 0 rfl) ?_
      obtain ⟨k_75, h⟩ := chk_some h
      obtain ⟨b_76, eb_76, h⟩ := rfm_some h
      refine gf_6_3 C hP k_75 eb_76 wl_21 dX6_count_25 ?_
      obtain ⟨k_77, h⟩ := chk_some h
      obtain ⟨b_78, eb_78, h⟩ := rfm_some h
      refine gf_5_0 C hP k_77 eb_78 wl_108 dX6_count_28 ?_
      refine lv_iload_n hx hb dX6_count_31 rfl (lv_at hl 1 rfl) ?_
      refine lv_bipush (v := 6) hx hb dX6_count_32 (by decide) ?_
      refine lv_isub hx hb dX6_count_34 ?_
      obtain ⟨k_79, h⟩ := chk_some h
      obtain ⟨k_80, h⟩ := chk_some h
      refine ar_9 C hP k_79 k_80 dX6_count_35 ?_
      cases h
      exact rt_i C hP hD hS dX6_count_36
  · replace h := ite_t h c_4
    refine lv_ldc (own := RX6) (v := -2000000001) hx hb hown (hts _ wl_107) dX6_count_10 ?_
    cases h
    exact rt_i C hP hD hS dX6_count_12
abbrev rm_X6_stake : Room := { frames := 5, cells := 0, slots := 0, locals := 102 }
theorem hd_X6_stake : yX6_stake.cls = RX6 ∧ yX6_stake.cls ≠ "java/lang/invoke/MethodHandle" ∧ yX6_stake.cls ≠ "java/lang/invoke/VarHandle" ∧ (parseMethodDescriptor yX6_stake.desc).map (fun d => d.parameters.length) = some 3 := ⟨rfl, by decide +kernel, by decide +kernel, by decide +kernel⟩
set_option maxHeartbeats 4000000 in
set_option maxRecDepth 100000 in
theorem ct_X6_stake {l : Launch} {D : va_G} {cy : Cy} {T : Ty} {R : Rm} {a0 : Nat} {x1 : Int32} {x2 : Int32} {x3 : Int32} {M : Mm} {r : Int32} {M9 : Mm} {R9 : Rm} (h : fn_X6_stake T a0 x1 x2 x3 M R = some (r, M9, R9)) : Ct QcI l yX6_stake cX6_stake 4 (some .int) rm_X6_stake D cy T M R [.ref a0, .int x1, .int x2, .int x3] M9 R9 r := by
  unfold fn_X6_stake at h
  refine enter (plainFor_of_name (by decide +kernel)) (Nat.le_of_ble_eq_true rfl) (fun p e s m args below meth c A C hP hD hS ls hl => ?_)
  have hl : lv_has ls 4 [(0, .ref a0), (1, .int x1), (2, .int x2), (3, .int x3)] := hl
  obtain ⟨hx, hb, hr, hml, hown, hts, hK, hA, hlk, hSt⟩ := id C
  refine lv_aload_n hx hb dX6_stake_0 rfl (lv_at hl 0 rfl) ?_
  obtain ⟨k_1, h⟩ := chk_some h
  obtain ⟨b_2, eb_2, h⟩ := rfm_some h
  refine gf_6_3 C hP k_1 eb_2 wl_21 dX6_stake_1 ?_
  refine lv_iload_n hx hb dX6_stake_4 rfl (lv_at hl 1 rfl) ?_
  obtain ⟨k_3, h⟩ := chk_some h
  obtain ⟨r_4, M_5, hc_6, h⟩ := cal_some h
  refine cl_Vi (As := [.int x1]) (rest := []) C (ct_X5_hasBand hc_6) k_3 (by decide) rfl wl_231 wl_232 wl_233 wl_14 wl_234 hd_X5_hasBand ⟨Nat.le_of_ble_eq_true rfl, Nat.le_of_ble_eq_true rfl⟩ ⟨rfl, rfl⟩ ⟨Nat.zero_le _, Nat.zero_le _⟩ rfl (Nat.le_of_ble_eq_true rfl) rfl hl.1 hP hD hS dX6_stake_5 (fun H locs hP hD hS => ?_)
  refine lv_if_eq (tgt := 44) hx hb dX6_stake_8 (by decide) (fun c_7 => ?_) (fun c_7 => ?_)
  · replace h := ite_t h c_7
    refine lv_ldc (own := RX6) (v := -2000000001) hx hb hown (hts _ wl_107) dX6_stake_44 ?_
    cases h
    exact rt_i C hP hD hS dX6_stake_46
  · replace h := ite_f h c_7
    refine lv_iload_n hx hb dX6_stake_11 rfl (lv_at hl 2 rfl) ?_
    refine lv_iconst (v := 0) hx hb dX6_stake_12 (by decide) ?_
    refine lv_aload_n hx hb dX6_stake_13 rfl (lv_at hl 0 rfl) ?_
    refine gf_6_3 C hP k_1 eb_2 wl_21 dX6_stake_14 ?_
    obtain ⟨b_8, eb_8, h⟩ := rfm_some h
    refine gf_5_1 C hP k_3 eb_8 wl_229 dX6_stake_17 ?_
    refine lv_iload_n hx hb dX6_stake_20 rfl (lv_at hl 1 rfl) ?_
    obtain ⟨k_9, h⟩ := chk_some h
    obtain ⟨k_10, h⟩ := chk_some h
    obtain ⟨b_11, eb_11, h⟩ := rfm_some h
    refine ar_11 C hP k_9 k_10 eb_11 dX6_stake_21 ?_
    obtain ⟨k_12, h⟩ := chk_some h
    refine gf_0_2 C hP k_12 wl_240 dX6_stake_22 ?_
    refine lv_iconst (v := 1) hx hb dX6_stake_25 (by decide) ?_
    refine lv_isub hx hb dX6_stake_26 ?_
    obtain ⟨r_13, M_14, hc_15, h⟩ := cal_some h
    refine cl_Si (As := [.int x2, .int (0 : Int32), .int ((gI M_5 b_11 2) - (1 : Int32))]) (rest := []) C (ct_X6_isWithin hc_15) wl_113 wl_114 wl_2 wl_115 hd_X6_isWithin ⟨Nat.le_of_ble_eq_true rfl, Nat.le_of_ble_eq_true rfl⟩ ⟨rfl, rfl⟩ ⟨Nat.zero_le _, Nat.zero_le _⟩ rfl (Nat.le_of_ble_eq_true rfl) rfl hl.1 hP hD hS dX6_stake_27 (fun H locs hP hD hS => ?_)
    refine lv_if_eq (tgt := 44) hx hb dX6_stake_30 (by decide) (fun c_16 => ?_) (fun c_16 => ?_)
    · replace h := ite_t h c_16
      refine lv_ldc (own := RX6) (v := -2000000001) hx hb hown (hts _ wl_107) dX6_stake_44 ?_
      cases h
      exact rt_i C hP hD hS dX6_stake_46
    · replace h := ite_f h c_16
      refine lv_iload_n hx hb dX6_stake_33 rfl (lv_at hl 3 rfl) ?_
      refine lv_iconst (v := 1) hx hb dX6_stake_34 (by decide) ?_
      refine lv_sipush (v := 10000) hx hb dX6_stake_35 (by decide) ?_
      obtain ⟨r_17, M_18, hc_19, h⟩ := cal_some h
      refine cl_Si (As := [.int x3, .int (1 : Int32), .int (10000 : Int32)]) (rest := []) C (ct_X6_isWithin hc_19) wl_113 wl_114 wl_2 wl_115 hd_X6_isWithin ⟨Nat.le_of_ble_eq_true rfl, Nat.le_of_ble_eq_true rfl⟩ ⟨rfl, rfl⟩ ⟨Nat.zero_le _, Nat.zero_le _⟩ rfl (Nat.le_of_ble_eq_true rfl) rfl hl.1 hP hD hS dX6_stake_38 (fun H locs hP hD hS => ?_)
      refine lv_if_ne (tgt := 47) hx hb dX6_stake_41 (by decide) (fun c_20 => ?_) (fun c_20 => ?_)
      · replace h := ite_f h c_20
        refine lv_aload_n hx hb dX6_stake_47 rfl (lv_at hl 0 rfl) ?_
        refine gf_6_3 C hP k_1 eb_2 wl_21 dX6_stake_48 ?_
        refine lv_iload_n hx hb dX6_stake_51 rfl (lv_at hl 1 rfl) ?_
        refine lv_iload_n hx hb dX6_stake_52 rfl (lv_at hl 2 rfl) ?_
        obtain ⟨r_21, M_22, hc_23, h⟩ := cal_some h
        refine cl_Vi (As := [.int x1, .int x2]) (rest := []) C (ct_X5_isStakeAt hc_23) k_3 (by decide) rfl wl_313 wl_314 wl_315 wl_14 wl_316 hd_X5_isStakeAt ⟨Nat.le_of_ble_eq_true rfl, Nat.le_of_ble_eq_true rfl⟩ ⟨rfl, rfl⟩ ⟨Nat.zero_le _, Nat.zero_le _⟩ rfl (Nat.le_of_ble_eq_true rfl) rfl hl.1 hP hD hS dX6_stake_53 (fun H locs hP hD hS => ?_)
        refine lv_if_eq (tgt := 62) hx hb dX6_stake_56 (by decide) (fun c_24 => ?_) (fun c_24 => ?_)
        · replace h := ite_t h c_24
          refine lv_aload_n hx hb dX6_stake_62 rfl (lv_at hl 0 rfl) ?_
          refine gf_6_3 C hP k_1 eb_2 wl_21 dX6_stake_63 ?_
          refine gf_5_5 C hP k_3 wl_111 dX6_stake_66 ?_
          refine lv_bipush (v := 6) hx hb dX6_stake_69 (by decide) ?_
          refine lv_icmp_lt (tgt := 77) hx hb dX6_stake_71 (by decide) (fun c_25 => ?_) (fun c_25 => ?_)
          · replace h := ite_t h c_25
            refine lv_aload_n hx hb dX6_stake_77 rfl (lv_at hl 0 rfl) ?_
            obtain ⟨r_26, M_27, R_29, hc_28, h⟩ := calR_some h
            refine cl_Vv (As := []) (rest := []) C (ct_X6_recordState hc_28) k_1 (by decide) rfl wl_149 wl_150 wl_151 wl_2 wl_152 hd_X6_recordState ⟨Nat.le_of_ble_eq_true rfl, Nat.le_of_ble_eq_true rfl⟩ ⟨rfl, rfl⟩ ⟨Nat.zero_le _, Nat.zero_le _⟩ rfl (Nat.le_of_ble_eq_true rfl) rfl hl.1 hP hD hS dX6_stake_78 (fun H locs hP hD hS => ?_)
            refine lv_aload_n hx hb dX6_stake_81 rfl (lv_at hl 0 rfl) ?_
            obtain ⟨b_30, eb_30, h⟩ := rfm_some h
            refine gf_6_3 C hP k_1 eb_30 wl_21 dX6_stake_82 ?_
            refine lv_iload_n hx hb dX6_stake_85 rfl (lv_at hl 1 rfl) ?_
            refine lv_iload_n hx hb dX6_stake_86 rfl (lv_at hl 2 rfl) ?_
            refine lv_iload_n hx hb dX6_stake_87 rfl (lv_at hl 3 rfl) ?_
            obtain ⟨k_31, h⟩ := chk_some h
            obtain ⟨r_32, M_33, hc_34, h⟩ := cal_some h
            refine cl_Vi (As := [.int x1, .int x2, .int x3]) (rest := []) C (ct_X5_addStake hc_34) k_31 (by decide) rfl wl_319 wl_320 wl_321 wl_14 wl_322 hd_X5_addStake ⟨Nat.le_of_ble_eq_true rfl, Nat.le_of_ble_eq_true rfl⟩ ⟨rfl, rfl⟩ ⟨Nat.zero_le _, Nat.zero_le _⟩ rfl (Nat.le_of_ble_eq_true rfl) rfl hl.1 hP hD hS dX6_stake_88 (fun H locs hP hD hS => ?_)
            cases h
            exact rt_i C hP hD hS dX6_stake_91
          · replace h := ite_f h c_25
            refine lv_ldc (own := RX6) (v := -2000000003) hx hb hown (hts _ wl_188) dX6_stake_74 ?_
            cases h
            exact rt_i C hP hD hS dX6_stake_76
        · replace h := ite_f h c_24
          refine lv_ldc (own := RX6) (v := -2000000002) hx hb hown (hts _ wl_187) dX6_stake_59 ?_
          cases h
          exact rt_i C hP hD hS dX6_stake_61
      · replace h := ite_t h c_20
        refine lv_ldc (own := RX6) (v := -2000000001) hx hb hown (hts _ wl_107) dX6_stake_44 ?_
        cases h
        exact rt_i C hP hD hS dX6_stake_46
abbrev rm_X6_pull : Room := { frames := 5, cells := 0, slots := 0, locals := 102 }
theorem hd_X6_pull : yX6_pull.cls = RX6 ∧ yX6_pull.cls ≠ "java/lang/invoke/MethodHandle" ∧ yX6_pull.cls ≠ "java/lang/invoke/VarHandle" ∧ (parseMethodDescriptor yX6_pull.desc).map (fun d => d.parameters.length) = some 1 := ⟨rfl, by decide +kernel, by decide +kernel, by decide +kernel⟩
set_option maxHeartbeats 4000000 in
set_option maxRecDepth 100000 in
theorem ct_X6_pull {l : Launch} {D : va_G} {cy : Cy} {T : Ty} {R : Rm} {a0 : Nat} {x1 : Int32} {M : Mm} {r : Int32} {M9 : Mm} {R9 : Rm} (h : fn_X6_pull T a0 x1 M R = some (r, M9, R9)) : Ct QcI l yX6_pull cX6_pull 2 (some .int) rm_X6_pull D cy T M R [.ref a0, .int x1] M9 R9 r := by
  unfold fn_X6_pull at h
  refine enter (plainFor_of_name (by decide +kernel)) (Nat.le_of_ble_eq_true rfl) (fun p e s m args below meth c A C hP hD hS ls hl => ?_)
  have hl : lv_has ls 2 [(0, .ref a0), (1, .int x1)] := hl
  obtain ⟨hx, hb, hr, hml, hown, hts, hK, hA, hlk, hSt⟩ := id C
  refine lv_aload_n hx hb dX6_pull_0 rfl (lv_at hl 0 rfl) ?_
  obtain ⟨k_1, h⟩ := chk_some h
  obtain ⟨b_2, eb_2, h⟩ := rfm_some h
  refine gf_6_3 C hP k_1 eb_2 wl_21 dX6_pull_1 ?_
  refine lv_iload_n hx hb dX6_pull_4 rfl (lv_at hl 1 rfl) ?_
  obtain ⟨k_3, h⟩ := chk_some h
  obtain ⟨r_4, M_5, hc_6, h⟩ := cal_some h
  refine cl_Vi (As := [.int x1]) (rest := []) C (ct_X5_hasStake hc_6) k_3 (by decide) rfl wl_331 wl_332 wl_333 wl_14 wl_334 hd_X5_hasStake ⟨Nat.le_of_ble_eq_true rfl, Nat.le_of_ble_eq_true rfl⟩ ⟨rfl, rfl⟩ ⟨Nat.zero_le _, Nat.zero_le _⟩ rfl (Nat.le_of_ble_eq_true rfl) rfl hl.1 hP hD hS dX6_pull_5 (fun H locs hP hD hS => ?_)
  refine lv_if_ne (tgt := 14) hx hb dX6_pull_8 (by decide) (fun c_7 => ?_) (fun c_7 => ?_)
  · replace h := ite_f h c_7
    refine lv_aload_n hx hb dX6_pull_14 rfl (lv_at hl 0 rfl) ?_
    obtain ⟨r_8, M_9, R_11, hc_10, h⟩ := calR_some h
    refine cl_Vv (As := []) (rest := []) C (ct_X6_recordState hc_10) k_1 (by decide) rfl wl_149 wl_150 wl_151 wl_2 wl_152 hd_X6_recordState ⟨Nat.le_of_ble_eq_true rfl, Nat.le_of_ble_eq_true rfl⟩ ⟨rfl, rfl⟩ ⟨Nat.zero_le _, Nat.zero_le _⟩ rfl (Nat.le_of_ble_eq_true rfl) rfl hl.1 hP hD hS dX6_pull_15 (fun H locs hP hD hS => ?_)
    refine lv_aload_n hx hb dX6_pull_18 rfl (lv_at hl 0 rfl) ?_
    obtain ⟨b_12, eb_12, h⟩ := rfm_some h
    refine gf_6_3 C hP k_1 eb_12 wl_21 dX6_pull_19 ?_
    refine lv_iload_n hx hb dX6_pull_22 rfl (lv_at hl 1 rfl) ?_
    obtain ⟨k_13, h⟩ := chk_some h
    obtain ⟨r_14, M_15, R_17, hc_16, h⟩ := calR_some h
    refine cl_Vi (As := [.int x1]) (rest := []) C (ct_X5_removeStake hc_16) k_13 (by decide) rfl wl_335 wl_336 wl_337 wl_14 wl_338 hd_X5_removeStake ⟨Nat.le_of_ble_eq_true rfl, Nat.le_of_ble_eq_true rfl⟩ ⟨rfl, rfl⟩ ⟨Nat.zero_le _, Nat.zero_le _⟩ rfl (Nat.le_of_ble_eq_true rfl) rfl hl.1 hP hD hS dX6_pull_23 (fun H locs hP hD hS => ?_)
    cases h
    exact rt_i C hP hD hS dX6_pull_26
  · replace h := ite_t h c_7
    refine lv_ldc (own := RX6) (v := -2000000001) hx hb hown (hts _ wl_107) dX6_pull_11 ?_
    cases h
    exact rt_i C hP hD hS dX6_pull_13
abbrev rm_X6_stakeInfo : Room := { frames := 1, cells := 0, slots := 0, locals := 22 }
theorem hd_X6_stakeInfo : yX6_stakeInfo.cls = RX6 ∧ yX6_stakeInfo.cls ≠ "java/lang/invoke/MethodHandle" ∧ yX6_stakeInfo.cls ≠ "java/lang/invoke/VarHandle" ∧ (parseMethodDescriptor yX6_stakeInfo.desc).map (fun d => d.parameters.length) = some 2 := ⟨rfl, by decide +kernel, by decide +kernel, by decide +kernel⟩
set_option maxHeartbeats 4000000 in
set_option maxRecDepth 100000 in
theorem ct_X6_stakeInfo {l : Launch} {D : va_G} {cy : Cy} {T : Ty} {R : Rm} {a0 : Nat} {x1 : Int32} {x2 : Int32} {M : Mm} {r : Int32} {M9 : Mm} (h : fn_X6_stakeInfo T R a0 x1 x2 M = some (r, M9)) : Ct QcI l yX6_stakeInfo cX6_stakeInfo 4 (some .int) rm_X6_stakeInfo D cy T M R [.ref a0, .int x1, .int x2] M9 R r := by
  unfold fn_X6_stakeInfo at h
  refine enter (plainFor_of_name (by decide +kernel)) (Nat.le_of_ble_eq_true rfl) (fun p e s m args below meth c A C hP hD hS ls hl => ?_)
  have hl : lv_has ls 4 [(0, .ref a0), (1, .int x1), (2, .int x2)] := hl
  obtain ⟨hx, hb, hr, hml, hown, hts, hK, hA, hlk, hSt⟩ := id C
  refine lv_aload_n hx hb dX6_stakeInfo_0 rfl (lv_at hl 0 rfl) ?_
  obtain ⟨k_1, h⟩ := chk_some h
  obtain ⟨b_2, eb_2, h⟩ := rfm_some h
  refine gf_6_3 C hP k_1 eb_2 wl_21 dX6_stakeInfo_1 ?_
  refine lv_iload_n hx hb dX6_stakeInfo_4 rfl (lv_at hl 1 rfl) ?_
  obtain ⟨k_3, h⟩ := chk_some h
  obtain ⟨r_4, M_5, hc_6, h⟩ := cal_some h
  refine cl_Vi (As := [.int x1]) (rest := []) C (ct_X5_hasStake hc_6) k_3 (by decide) rfl wl_331 wl_332 wl_333 wl_14 wl_334 hd_X5_hasStake ⟨Nat.le_of_ble_eq_true rfl, Nat.le_of_ble_eq_true rfl⟩ ⟨rfl, rfl⟩ ⟨Nat.zero_le _, Nat.zero_le _⟩ rfl (Nat.le_of_ble_eq_true rfl) rfl hl.1 hP hD hS dX6_stakeInfo_5 (fun H locs hP hD hS => ?_)
  refine lv_if_eq (tgt := 20) hx hb dX6_stakeInfo_8 (by decide) (fun c_7 => ?_) (fun c_7 => ?_)
  · replace h := ite_t h c_7
    refine lv_ldc (own := RX6) (v := -2000000001) hx hb hown (hts _ wl_107) dX6_stakeInfo_20 ?_
    cases h
    exact rt_i C hP hD hS dX6_stakeInfo_22
  · replace h := ite_f h c_7
    refine lv_iload_n hx hb dX6_stakeInfo_11 rfl (lv_at hl 2 rfl) ?_
    refine lv_iconst (v := 0) hx hb dX6_stakeInfo_12 (by decide) ?_
    refine lv_iconst (v := 5) hx hb dX6_stakeInfo_13 (by decide) ?_
    obtain ⟨r_8, M_9, hc_10, h⟩ := cal_some h
    refine cl_Si (As := [.int x2, .int (0 : Int32), .int (5 : Int32)]) (rest := []) C (ct_X6_isWithin hc_10) wl_113 wl_114 wl_2 wl_115 hd_X6_isWithin ⟨Nat.le_of_ble_eq_true rfl, Nat.le_of_ble_eq_true rfl⟩ ⟨rfl, rfl⟩ ⟨Nat.zero_le _, Nat.zero_le _⟩ rfl (Nat.le_of_ble_eq_true rfl) rfl hl.1 hP hD hS dX6_stakeInfo_14 (fun H locs hP hD hS => ?_)
    refine lv_if_ne (tgt := 23) hx hb dX6_stakeInfo_17 (by decide) (fun c_11 => ?_) (fun c_11 => ?_)
    · replace h := ite_f h c_11
      refine lv_aload_n hx hb dX6_stakeInfo_23 rfl (lv_at hl 0 rfl) ?_
      refine gf_6_3 C hP k_1 eb_2 wl_21 dX6_stakeInfo_24 ?_
      obtain ⟨b_12, eb_12, h⟩ := rfm_some h
      refine gf_5_2 C hP k_3 eb_12 wl_344 dX6_stakeInfo_27 ?_
      refine lv_iload_n hx hb dX6_stakeInfo_30 rfl (lv_at hl 1 rfl) ?_
      obtain ⟨k_13, h⟩ := chk_some h
      obtain ⟨k_14, h⟩ := chk_some h
      obtain ⟨b_15, eb_15, h⟩ := rfm_some h
      refine ar_12 C hP k_13 k_14 eb_15 dX6_stakeInfo_31 ?_
      refine lv_astore_n (lv' := [(3, .ref b_15), (0, .ref a0), (1, .int x1), (2, .int x2)]) hx hb dX6_stakeInfo_32 rfl hl (by decide) rfl (fun ls hl => ?_)
      refine lv_iload_n hx hb dX6_stakeInfo_33 rfl (lv_at hl 3 rfl) ?_
      by_cases q_16 : x2 = 0
      · replace h := ite_t h q_16
        refine lv_tableIn (off := 34) (tgt := 68) hx hb dX6_stakeInfo_34 (by rw [q_16]; decide) (by rw [q_16]; decide) (by rw [q_16]; rfl) (by decide) ?_
        refine lv_aload_n hx hb dX6_stakeInfo_68 rfl (lv_at hl 0 rfl) ?_
        obtain ⟨k_17, h⟩ := chk_some h
        refine gf_3_0 C hP k_17 wl_345 dX6_stakeInfo_69 ?_
        cases h
        exact rt_i C hP hD hS dX6_stakeInfo_72
      · replace h := ite_f h q_16
        by_cases q_18 : x2 = 1
        · replace h := ite_t h q_18
          refine lv_tableIn (off := 39) (tgt := 73) hx hb dX6_stakeInfo_34 (by rw [q_18]; decide) (by rw [q_18]; decide) (by rw [q_18]; rfl) (by decide) ?_
          refine lv_aload_n hx hb dX6_stakeInfo_73 rfl (lv_at hl 0 rfl) ?_
          obtain ⟨k_19, h⟩ := chk_some h
          refine gf_3_1 C hP k_19 wl_346 dX6_stakeInfo_74 ?_
          cases h
          exact rt_i C hP hD hS dX6_stakeInfo_77
        · replace h := ite_f h q_18
          by_cases q_20 : x2 = 2
          · replace h := ite_t h q_20
            refine lv_tableIn (off := 44) (tgt := 78) hx hb dX6_stakeInfo_34 (by rw [q_20]; decide) (by rw [q_20]; decide) (by rw [q_20]; rfl) (by decide) ?_
            refine lv_aload_n hx hb dX6_stakeInfo_78 rfl (lv_at hl 0 rfl) ?_
            obtain ⟨k_21, h⟩ := chk_some h
            refine gf_3_2 C hP k_21 wl_347 dX6_stakeInfo_79 ?_
            cases h
            exact rt_i C hP hD hS dX6_stakeInfo_82
          · replace h := ite_f h q_20
            by_cases q_22 : x2 = 3
            · replace h := ite_t h q_22
              refine lv_tableIn (off := 49) (tgt := 83) hx hb dX6_stakeInfo_34 (by rw [q_22]; decide) (by rw [q_22]; decide) (by rw [q_22]; rfl) (by decide) ?_
              refine lv_aload_n hx hb dX6_stakeInfo_83 rfl (lv_at hl 0 rfl) ?_
              obtain ⟨k_23, h⟩ := chk_some h
              refine gf_3_3 C hP k_23 wl_348 dX6_stakeInfo_84 ?_
              cases h
              exact rt_i C hP hD hS dX6_stakeInfo_87
            · replace h := ite_f h q_22
              by_cases q_24 : x2 = 4
              · replace h := ite_t h q_24
                refine lv_tableIn (off := 54) (tgt := 88) hx hb dX6_stakeInfo_34 (by rw [q_24]; decide) (by rw [q_24]; decide) (by rw [q_24]; rfl) (by decide) ?_
                refine lv_aload_n hx hb dX6_stakeInfo_88 rfl (lv_at hl 0 rfl) ?_
                obtain ⟨k_25, h⟩ := chk_some h
                refine gf_3_4 C hP k_25 wl_349 dX6_stakeInfo_89 ?_
                cases h
                exact rt_i C hP hD hS dX6_stakeInfo_92
              · replace h := ite_f h q_24
                refine lv_tableOut (tgt := 93) hx hb dX6_stakeInfo_34 (by have zq_16 := i32ne (k := 0) q_16 (by decide); have zq_18 := i32ne (k := 1) q_18 (by decide); have zq_20 := i32ne (k := 2) q_20 (by decide); have zq_22 := i32ne (k := 3) q_22 (by decide); have zq_24 := i32ne (k := 4) q_24 (by decide); omega) (by decide) ?_
                refine lv_aload_n hx hb dX6_stakeInfo_93 rfl (lv_at hl 0 rfl) ?_
                obtain ⟨k_26, h⟩ := chk_some h
                refine gf_3_5 C hP k_26 wl_350 dX6_stakeInfo_94 ?_
                cases h
                exact rt_i C hP hD hS dX6_stakeInfo_97
    · replace h := ite_t h c_11
      refine lv_ldc (own := RX6) (v := -2000000001) hx hb hown (hts _ wl_107) dX6_stakeInfo_20 ?_
      cases h
      exact rt_i C hP hD hS dX6_stakeInfo_22
abbrev rm_X6_stakesIn : Room := { frames := 1, cells := 0, slots := 0, locals := 21 }
theorem hd_X6_stakesIn : yX6_stakesIn.cls = RX6 ∧ yX6_stakesIn.cls ≠ "java/lang/invoke/MethodHandle" ∧ yX6_stakesIn.cls ≠ "java/lang/invoke/VarHandle" ∧ (parseMethodDescriptor yX6_stakesIn.desc).map (fun d => d.parameters.length) = some 1 := ⟨rfl, by decide +kernel, by decide +kernel, by decide +kernel⟩
set_option maxHeartbeats 4000000 in
set_option maxRecDepth 100000 in
theorem bs_X6_stakesIn_66 {p : Program} {l : Launch} {e : Env} {s : State} {m : MethodId} {args : Array Value} {below : List Frame} {meth : Method} {c : Code} {D : va_G} {cy : Cy} {A : Nat → Prop} {T : Ty} {R : Rm} {r : Int32} {M9 : Mm} {a0 : Nat} {x1 : Int32} {j18 : Int32 → Int32 → Mm → Option (Int32 × Mm)} (C : Cx RX6 cX6_stakesIn 4 (some .int) p s m args meth c D cy A)
    (hj18 : ∀ (x2 : Int32) (x3 : Int32) (M : Mm) (H : Heap) (locs : List Loc), j18 x2 x3 M = some (r, M9) → va_P D vwCl (WL cy T M R) H → va_D A (WL cy T M R) → va_S A s.heap H locs → ∀ ls : Array Slot, lv_has ls 4 [(0, .ref a0), (1, .int x1), (2, .int x2), (3, .int x3)] → W p l e rm_X6_stakesIn s m args below meth c H locs 0 0 (MQ below (QcI D cy T M9 R A r) args s 0 0 A) (F0 m 18 ls [])) :
    ∀ (x2 : Int32) (x3 : Int32) (M : Mm) (H : Heap) (locs : List Loc), fs_X6_stakesIn_66 T R a0 x1 j18 x2 x3 M = some (r, M9) → va_P D vwCl (WL cy T M R) H → va_D A (WL cy T M R) → va_S A s.heap H locs → ∀ ls : Array Slot, lv_has ls 4 [(0, .ref a0), (1, .int x1), (2, .int x2), (3, .int x3)] → W p l e rm_X6_stakesIn s m args below meth c H locs 0 0 (MQ below (QcI D cy T M9 R A r) args s 0 0 A) (F0 m 66 ls []) := by
  intro x2 x3 M H locs h hP hD hS ls hl
  unfold fs_X6_stakesIn_66 at h
  obtain ⟨hx, hb, hr, hml, hown, hts, hK, hA, hlk, hSt⟩ := id C
  obtain ⟨v_1, ev_1⟩ : ∃ y : Int32, y = (x3 + (1 : Int32)) := ⟨_, rfl⟩
  replace h := bnd_at h ev_1
  refine lv_iinc (v := v_1) (lv' := [(3, .int v_1), (0, .ref a0), (1, .int x1), (2, .int x2)]) hx hb dX6_stakesIn_66 hl (k := 3) rfl (by rw [ev_1]; rfl) (by decide) rfl (fun ls hl => ?_)
  refine lv_goto (tgt := 18) hx hb dX6_stakesIn_69 (by decide) ?_
  exact hj18 _ _ _ _ _ h hP hD hS _ (lv_sub hl [1, 2, 3, 0] rfl)
set_option maxHeartbeats 4000000 in
set_option maxRecDepth 100000 in
theorem bs_X6_stakesIn_18 {p : Program} {l : Launch} {e : Env} {s : State} {m : MethodId} {args : Array Value} {below : List Frame} {meth : Method} {c : Code} {D : va_G} {cy : Cy} {A : Nat → Prop} {T : Ty} {R : Rm} {r : Int32} {M9 : Mm} {a0 : Nat} {x1 : Int32} {j18 : Int32 → Int32 → Mm → Option (Int32 × Mm)} (C : Cx RX6 cX6_stakesIn 4 (some .int) p s m args meth c D cy A)
    (hj18 : ∀ (x2 : Int32) (x3 : Int32) (M : Mm) (H : Heap) (locs : List Loc), j18 x2 x3 M = some (r, M9) → va_P D vwCl (WL cy T M R) H → va_D A (WL cy T M R) → va_S A s.heap H locs → ∀ ls : Array Slot, lv_has ls 4 [(0, .ref a0), (1, .int x1), (2, .int x2), (3, .int x3)] → W p l e rm_X6_stakesIn s m args below meth c H locs 0 0 (MQ below (QcI D cy T M9 R A r) args s 0 0 A) (F0 m 18 ls [])) :
    ∀ (x2 : Int32) (x3 : Int32) (M : Mm) (H : Heap) (locs : List Loc), fs_X6_stakesIn_18 T R a0 x1 j18 x2 x3 M = some (r, M9) → va_P D vwCl (WL cy T M R) H → va_D A (WL cy T M R) → va_S A s.heap H locs → ∀ ls : Array Slot, lv_has ls 4 [(0, .ref a0), (1, .int x1), (2, .int x2), (3, .int x3)] → W p l e rm_X6_stakesIn s m args below meth c H locs 0 0 (MQ below (QcI D cy T M9 R A r) args s 0 0 A) (F0 m 18 ls []) := by
  intro x2 x3 M H locs h hP hD hS ls hl
  unfold fs_X6_stakesIn_18 at h
  obtain ⟨hx, hb, hr, hml, hown, hts, hK, hA, hlk, hSt⟩ := id C
  refine lv_iload_n hx hb dX6_stakesIn_18 rfl (lv_at hl 3 rfl) ?_
  refine lv_aload_n hx hb dX6_stakesIn_19 rfl (lv_at hl 0 rfl) ?_
  obtain ⟨k_2, h⟩ := chk_some h
  obtain ⟨b_3, eb_3, h⟩ := rfm_some h
  refine gf_6_3 C hP k_2 eb_3 wl_21 dX6_stakesIn_20 ?_
  obtain ⟨k_4, h⟩ := chk_some h
  refine gf_5_5 C hP k_4 wl_111 dX6_stakesIn_23 ?_
  refine lv_icmp_ge (tgt := 72) hx hb dX6_stakesIn_26 (by decide) (fun c_5 => ?_) (fun c_5 => ?_)
  · replace h := ite_t h c_5
    refine lv_iload_n hx hb dX6_stakesIn_72 rfl (lv_at hl 2 rfl) ?_
    cases h
    exact rt_i C hP hD hS dX6_stakesIn_73
  · replace h := ite_f h c_5
    refine lv_aload_n hx hb dX6_stakesIn_29 rfl (lv_at hl 0 rfl) ?_
    refine gf_6_3 C hP k_2 eb_3 wl_21 dX6_stakesIn_30 ?_
    obtain ⟨b_6, eb_6, h⟩ := rfm_some h
    refine gf_5_2 C hP k_4 eb_6 wl_344 dX6_stakesIn_33 ?_
    refine lv_iload_n hx hb dX6_stakesIn_36 rfl (lv_at hl 3 rfl) ?_
    obtain ⟨k_7, h⟩ := chk_some h
    obtain ⟨k_8, h⟩ := chk_some h
    obtain ⟨b_9, eb_9, h⟩ := rfm_some h
    refine ar_12 C hP k_7 k_8 eb_9 dX6_stakesIn_37 ?_
    obtain ⟨k_10, h⟩ := chk_some h
    refine gf_3_4 C hP k_10 wl_349 dX6_stakesIn_38 ?_
    refine lv_if_ne (tgt := 66) hx hb dX6_stakesIn_41 (by decide) (fun c_11 => ?_) (fun c_11 => ?_)
    · replace h := ite_f h c_11
      exact (bs_X6_stakesIn_66 C hj18) _ _ _ _ _ h hP hD hS _ (lv_sub hl [0, 1, 2, 3] rfl)
    · replace h := ite_t h c_11
      refine lv_aload_n hx hb dX6_stakesIn_44 rfl (lv_at hl 0 rfl) ?_
      refine gf_6_3 C hP k_2 eb_3 wl_21 dX6_stakesIn_45 ?_
      refine gf_5_2 C hP k_4 eb_6 wl_344 dX6_stakesIn_48 ?_
      refine lv_iload_n hx hb dX6_stakesIn_51 rfl (lv_at hl 3 rfl) ?_
      refine ar_12 C hP k_7 k_8 eb_9 dX6_stakesIn_52 ?_
      refine gf_3_0 C hP k_10 wl_345 dX6_stakesIn_53 ?_
      refine lv_iload_n hx hb dX6_stakesIn_56 rfl (lv_at hl 1 rfl) ?_
      refine lv_icmp_ne (tgt := 66) hx hb dX6_stakesIn_57 (by decide) (fun c_12 => ?_) (fun c_12 => ?_)
      · replace h := ite_f h c_12
        exact (bs_X6_stakesIn_66 C hj18) _ _ _ _ _ h hP hD hS _ (lv_sub hl [0, 1, 2, 3] rfl)
      · replace h := ite_t h c_12
        refine lv_iload_n hx hb dX6_stakesIn_60 rfl (lv_at hl 2 rfl) ?_
        refine lv_iconst (v := 1) hx hb dX6_stakesIn_61 (by decide) ?_
        refine lv_iload_n hx hb dX6_stakesIn_62 rfl (lv_at hl 3 rfl) ?_
        refine lv_ishl hx hb dX6_stakesIn_63 ?_
        refine lv_ior hx hb dX6_stakesIn_64 ?_
        refine lv_topi (fun v_13 ev_13 => ?_)
        replace h := bnd_at h ev_13
        refine lv_istore_n (lv' := [(2, .int v_13), (0, .ref a0), (1, .int x1), (3, .int x3)]) hx hb dX6_stakesIn_65 rfl hl (by decide) rfl (fun ls hl => ?_)
        exact (bs_X6_stakesIn_66 C hj18) _ _ _ _ _ h hP hD hS _ (lv_sub hl [1, 2, 0, 3] rfl)
theorem bt_X6_stakesIn_18 {p : Program} {l : Launch} {e : Env} {s : State} {m : MethodId} {args : Array Value} {below : List Frame} {meth : Method} {c : Code} {D : va_G} {cy : Cy} {A : Nat → Prop} {T : Ty} {R : Rm} {r : Int32} {M9 : Mm} {a0 : Nat} {x1 : Int32} (C : Cx RX6 cX6_stakesIn 4 (some .int) p s m args meth c D cy A) :
    ∀ n : Nat, ∀ (x2 : Int32) (x3 : Int32) (M : Mm) (H : Heap) (locs : List Loc), fb_X6_stakesIn_18 T R a0 x1 n x2 x3 M = some (r, M9) → va_P D vwCl (WL cy T M R) H → va_D A (WL cy T M R) → va_S A s.heap H locs → ∀ ls : Array Slot, lv_has ls 4 [(0, .ref a0), (1, .int x1), (2, .int x2), (3, .int x3)] → W p l e rm_X6_stakesIn s m args below meth c H locs 0 0 (MQ below (QcI D cy T M9 R A r) args s 0 0 A) (F0 m 18 ls []) := by
  intro n
  induction n with
  | zero =>
    intro _ _ _ H locs h
    exact absurd (show (none : Option (Int32 × Mm)) = some _ from h) (by simp)
  | succ n ih => exact fun u0 u1 u2 H locs h => bs_X6_stakesIn_18 (a0 := a0) (x1 := x1) C ih u0 u1 u2 H locs h
set_option maxHeartbeats 4000000 in
set_option maxRecDepth 100000 in
theorem ct_X6_stakesIn {l : Launch} {D : va_G} {cy : Cy} {T : Ty} {R : Rm} {a0 : Nat} {x1 : Int32} {M : Mm} {r : Int32} {M9 : Mm} (h : fn_X6_stakesIn T R a0 x1 M = some (r, M9)) : Ct QcI l yX6_stakesIn cX6_stakesIn 4 (some .int) rm_X6_stakesIn D cy T M R [.ref a0, .int x1] M9 R r := by
  unfold fn_X6_stakesIn at h
  refine enter (plainFor_of_name (by decide +kernel)) (Nat.le_of_ble_eq_true rfl) (fun p e s m args below meth c A C hP hD hS ls hl => ?_)
  have hl : lv_has ls 4 [(0, .ref a0), (1, .int x1)] := hl
  obtain ⟨hx, hb, hr, hml, hown, hts, hK, hA, hlk, hSt⟩ := id C
  refine lv_aload_n hx hb dX6_stakesIn_0 rfl (lv_at hl 0 rfl) ?_
  obtain ⟨k_14, h⟩ := chk_some h
  obtain ⟨b_15, eb_15, h⟩ := rfm_some h
  refine gf_6_3 C hP k_14 eb_15 wl_21 dX6_stakesIn_1 ?_
  refine lv_iload_n hx hb dX6_stakesIn_4 rfl (lv_at hl 1 rfl) ?_
  obtain ⟨k_16, h⟩ := chk_some h
  obtain ⟨r_17, M_18, hc_19, h⟩ := cal_some h
  refine cl_Vi (As := [.int x1]) (rest := []) C (ct_X5_hasBand hc_19) k_16 (by decide) rfl wl_231 wl_232 wl_233 wl_14 wl_234 hd_X5_hasBand ⟨Nat.le_of_ble_eq_true rfl, Nat.le_of_ble_eq_true rfl⟩ ⟨rfl, rfl⟩ ⟨Nat.zero_le _, Nat.zero_le _⟩ rfl (Nat.le_of_ble_eq_true rfl) rfl hl.1 hP hD hS dX6_stakesIn_5 (fun H locs hP hD hS => ?_)
  refine lv_if_ne (tgt := 14) hx hb dX6_stakesIn_8 (by decide) (fun c_20 => ?_) (fun c_20 => ?_)
  · replace h := ite_f h c_20
    refine lv_iconst (v := 0) hx hb dX6_stakesIn_14 (by decide) ?_
    refine lv_istore_n (lv' := [(2, .int (0 : Int32)), (0, .ref a0), (1, .int x1)]) hx hb dX6_stakesIn_15 rfl hl (by decide) rfl (fun ls hl => ?_)
    refine lv_iconst (v := 0) hx hb dX6_stakesIn_16 (by decide) ?_
    refine lv_istore_n (lv' := [(3, .int (0 : Int32)), (2, .int (0 : Int32)), (0, .ref a0), (1, .int x1)]) hx hb dX6_stakesIn_17 rfl hl (by decide) rfl (fun ls hl => ?_)
    exact (bt_X6_stakesIn_18 C FU) _ _ _ _ _ h hP hD hS _ (lv_sub hl [2, 3, 1, 0] rfl)
  · replace h := ite_t h c_20
    refine lv_ldc (own := RX6) (v := -2000000001) hx hb hown (hts _ wl_107) dX6_stakesIn_11 ?_
    cases h
    exact rt_i C hP hD hS dX6_stakesIn_13
abbrev rm_X6_years : Room := { frames := 6, cells := 0, slots := 0, locals := 134 }
theorem hd_X6_years : yX6_years.cls = RX6 ∧ yX6_years.cls ≠ "java/lang/invoke/MethodHandle" ∧ yX6_years.cls ≠ "java/lang/invoke/VarHandle" ∧ (parseMethodDescriptor yX6_years.desc).map (fun d => d.parameters.length) = some 1 := ⟨rfl, by decide +kernel, by decide +kernel, by decide +kernel⟩
set_option maxHeartbeats 4000000 in
set_option maxRecDepth 100000 in
theorem ct_X6_years {l : Launch} {D : va_G} {cy : Cy} {T : Ty} {R : Rm} {a0 : Nat} {x1 : Int32} {M : Mm} {r : Int32} {M9 : Mm} {R9 : Rm} (h : fn_X6_years T a0 x1 M R = some (r, M9, R9)) : Ct QcI l yX6_years cX6_years 3 (some .int) rm_X6_years D cy T M R [.ref a0, .int x1] M9 R9 r := by
  unfold fn_X6_years at h
  refine enter (plainFor_of_name (by decide +kernel)) (Nat.le_of_ble_eq_true rfl) (fun p e s m args below meth c A C hP hD hS ls hl => ?_)
  have hl : lv_has ls 3 [(0, .ref a0), (1, .int x1)] := hl
  obtain ⟨hx, hb, hr, hml, hown, hts, hK, hA, hlk, hSt⟩ := id C
  refine lv_iload_n hx hb dX6_years_0 rfl (lv_at hl 1 rfl) ?_
  refine lv_iconst (v := 1) hx hb dX6_years_1 (by decide) ?_
  refine lv_bipush (v := 100) hx hb dX6_years_2 (by decide) ?_
  obtain ⟨r_1, M_2, hc_3, h⟩ := cal_some h
  refine cl_Si (As := [.int x1, .int (1 : Int32), .int (100 : Int32)]) (rest := []) C (ct_X6_isWithin hc_3) wl_113 wl_114 wl_2 wl_115 hd_X6_isWithin ⟨Nat.le_of_ble_eq_true rfl, Nat.le_of_ble_eq_true rfl⟩ ⟨rfl, rfl⟩ ⟨Nat.zero_le _, Nat.zero_le _⟩ rfl (Nat.le_of_ble_eq_true rfl) rfl hl.1 hP hD hS dX6_years_4 (fun H locs hP hD hS => ?_)
  refine lv_if_ne (tgt := 13) hx hb dX6_years_7 (by decide) (fun c_4 => ?_) (fun c_4 => ?_)
  · replace h := ite_f h c_4
    refine lv_aload_n hx hb dX6_years_13 rfl (lv_at hl 0 rfl) ?_
    obtain ⟨k_5, h⟩ := chk_some h
    obtain ⟨b_6, eb_6, h⟩ := rfm_some h
    refine gf_6_3 C hP k_5 eb_6 wl_21 dX6_years_14 ?_
    obtain ⟨k_7, h⟩ := chk_some h
    refine gf_5_4 C hP k_7 wl_109 dX6_years_17 ?_
    refine lv_if_ne (tgt := 26) hx hb dX6_years_20 (by decide) (fun c_8 => ?_) (fun c_8 => ?_)
    · replace h := ite_f h c_8
      refine lv_aload_n hx hb dX6_years_26 rfl (lv_at hl 0 rfl) ?_
      refine gf_6_3 C hP k_5 eb_6 wl_21 dX6_years_27 ?_
      refine gf_5_6 C hP k_7 wl_110 dX6_years_30 ?_
      refine lv_iload_n hx hb dX6_years_33 rfl (lv_at hl 1 rfl) ?_
      refine lv_iadd hx hb dX6_years_34 ?_
      refine lv_sipush (v := 500) hx hb dX6_years_35 (by decide) ?_
      refine lv_icmp_le (tgt := 44) hx hb dX6_years_38 (by decide) (fun c_9 => ?_) (fun c_9 => ?_)
      · replace h := ite_t h c_9
        refine lv_aload_n hx hb dX6_years_44 rfl (lv_at hl 0 rfl) ?_
        obtain ⟨r_10, M_11, R_13, hc_12, h⟩ := calR_some h
        refine cl_Vv (As := []) (rest := []) C (ct_X6_recordState hc_12) k_5 (by decide) rfl wl_149 wl_150 wl_151 wl_2 wl_152 hd_X6_recordState ⟨Nat.le_of_ble_eq_true rfl, Nat.le_of_ble_eq_true rfl⟩ ⟨rfl, rfl⟩ ⟨Nat.zero_le _, Nat.zero_le _⟩ rfl (Nat.le_of_ble_eq_true rfl) rfl hl.1 hP hD hS dX6_years_45 (fun H locs hP hD hS => ?_)
        refine lv_aload_n hx hb dX6_years_48 rfl (lv_at hl 0 rfl) ?_
        obtain ⟨b_14, eb_14, h⟩ := rfm_some h
        refine gf_6_3 C hP k_5 eb_14 wl_21 dX6_years_49 ?_
        obtain ⟨k_15, h⟩ := chk_some h
        obtain ⟨b_16, eb_16, h⟩ := rfm_some h
        refine gf_5_3 C hP k_15 eb_16 wl_281 dX6_years_52 ?_
        obtain ⟨k_17, h⟩ := chk_some h
        refine gf_1_2 C hP k_17 wl_284 dX6_years_55 ?_
        refine lv_topi (fun v_18 ev_18 => ?_)
        replace h := bnd_at h ev_18
        refine lv_istore_n (lv' := [(2, .int v_18), (0, .ref a0), (1, .int x1)]) hx hb dX6_years_58 rfl hl (by decide) rfl (fun ls hl => ?_)
        refine lv_aload_n hx hb dX6_years_59 rfl (lv_at hl 1 rfl) ?_
        refine gf_6_3 C hP k_5 eb_14 wl_21 dX6_years_60 ?_
        refine lv_iload_n hx hb dX6_years_63 rfl (lv_at hl 2 rfl) ?_
        obtain ⟨r_19, M_20, hc_21, h⟩ := cal_some h
        refine cl_Vv (As := [.int x1]) (rest := []) C (ct_X5_letYearsGoBy hc_21) k_15 (by decide) rfl wl_359 wl_360 wl_361 wl_14 wl_362 hd_X5_letYearsGoBy ⟨Nat.le_of_ble_eq_true rfl, Nat.le_of_ble_eq_true rfl⟩ ⟨rfl, rfl⟩ ⟨Nat.zero_le _, Nat.zero_le _⟩ rfl (Nat.le_of_ble_eq_true rfl) rfl hl.1 hP hD hS dX6_years_64 (fun H locs hP hD hS => ?_)
        refine lv_aload_n hx hb dX6_years_67 rfl (lv_at hl 1 rfl) ?_
        refine gf_6_3 C hP k_5 eb_14 wl_21 dX6_years_68 ?_
        refine gf_5_3 C hP k_15 eb_16 wl_281 dX6_years_71 ?_
        refine gf_1_2 C hP k_17 wl_284 dX6_years_74 ?_
        refine lv_iload_n hx hb dX6_years_77 rfl (lv_at hl 0 rfl) ?_
        refine lv_isub hx hb dX6_years_78 ?_
        cases h
        exact rt_i C hP hD hS dX6_years_79
      · replace h := ite_f h c_9
        refine lv_ldc (own := RX6) (v := -2000000003) hx hb hown (hts _ wl_188) dX6_years_41 ?_
        cases h
        exact rt_i C hP hD hS dX6_years_43
    · replace h := ite_t h c_8
      refine lv_ldc (own := RX6) (v := -2000000002) hx hb hown (hts _ wl_187) dX6_years_23 ?_
      cases h
      exact rt_i C hP hD hS dX6_years_25
  · replace h := ite_t h c_4
    refine lv_ldc (own := RX6) (v := -2000000001) hx hb hown (hts _ wl_107) dX6_years_10 ?_
    cases h
    exact rt_i C hP hD hS dX6_years_12
abbrev rm_X6_ifYears : Room := { frames := 6, cells := 0, slots := 0, locals := 134 }
theorem hd_X6_ifYears : yX6_ifYears.cls = RX6 ∧ yX6_ifYears.cls ≠ "java/lang/invoke/MethodHandle" ∧ yX6_ifYears.cls ≠ "java/lang/invoke/VarHandle" ∧ (parseMethodDescriptor yX6_ifYears.desc).map (fun d => d.parameters.length) = some 2 := ⟨rfl, by decide +kernel, by decide +kernel, by decide +kernel⟩
set_option maxHeartbeats 4000000 in
set_option maxRecDepth 100000 in
theorem ct_X6_ifYears {l : Launch} {D : va_G} {cy : Cy} {T : Ty} {R : Rm} {a0 : Nat} {x1 : Int32} {x2 : Int32} {M : Mm} {r : Int32} {M9 : Mm} (h : fn_X6_ifYears T R a0 x1 x2 M = some (r, M9)) : Ct QcI l yX6_ifYears cX6_ifYears 3 (some .int) rm_X6_ifYears D cy T M R [.ref a0, .int x1, .int x2] M9 R r := by
  unfold fn_X6_ifYears at h
  refine enter (plainFor_of_name (by decide +kernel)) (Nat.le_of_ble_eq_true rfl) (fun p e s m args below meth c A C hP hD hS ls hl => ?_)
  have hl : lv_has ls 3 [(0, .ref a0), (1, .int x1), (2, .int x2)] := hl
  obtain ⟨hx, hb, hr, hml, hown, hts, hK, hA, hlk, hSt⟩ := id C
  refine lv_iload_n hx hb dX6_ifYears_0 rfl (lv_at hl 1 rfl) ?_
  refine lv_iconst (v := 1) hx hb dX6_ifYears_1 (by decide) ?_
  refine lv_bipush (v := 100) hx hb dX6_ifYears_2 (by decide) ?_
  obtain ⟨r_1, M_2, hc_3, h⟩ := cal_some h
  refine cl_Si (As := [.int x1, .int (1 : Int32), .int (100 : Int32)]) (rest := []) C (ct_X6_isWithin hc_3) wl_113 wl_114 wl_2 wl_115 hd_X6_isWithin ⟨Nat.le_of_ble_eq_true rfl, Nat.le_of_ble_eq_true rfl⟩ ⟨rfl, rfl⟩ ⟨Nat.zero_le _, Nat.zero_le _⟩ rfl (Nat.le_of_ble_eq_true rfl) rfl hl.1 hP hD hS dX6_ifYears_4 (fun H locs hP hD hS => ?_)
  refine lv_if_eq (tgt := 19) hx hb dX6_ifYears_7 (by decide) (fun c_4 => ?_) (fun c_4 => ?_)
  · replace h := ite_t h c_4
    refine lv_ldc (own := RX6) (v := -2000000001) hx hb hown (hts _ wl_107) dX6_ifYears_19 ?_
    cases h
    exact rt_i C hP hD hS dX6_ifYears_21
  · replace h := ite_f h c_4
    refine lv_iload_n hx hb dX6_ifYears_10 rfl (lv_at hl 2 rfl) ?_
    refine lv_iconst (v := 0) hx hb dX6_ifYears_11 (by decide) ?_
    refine lv_iconst (v := 4) hx hb dX6_ifYears_12 (by decide) ?_
    obtain ⟨r_5, M_6, hc_7, h⟩ := cal_some h
    refine cl_Si (As := [.int x2, .int (0 : Int32), .int (4 : Int32)]) (rest := []) C (ct_X6_isWithin hc_7) wl_113 wl_114 wl_2 wl_115 hd_X6_isWithin ⟨Nat.le_of_ble_eq_true rfl, Nat.le_of_ble_eq_true rfl⟩ ⟨rfl, rfl⟩ ⟨Nat.zero_le _, Nat.zero_le _⟩ rfl (Nat.le_of_ble_eq_true rfl) rfl hl.1 hP hD hS dX6_ifYears_13 (fun H locs hP hD hS => ?_)
    refine lv_if_ne (tgt := 22) hx hb dX6_ifYears_16 (by decide) (fun c_8 => ?_) (fun c_8 => ?_)
    · replace h := ite_f h c_8
      refine lv_aload_n hx hb dX6_ifYears_22 rfl (lv_at hl 0 rfl) ?_
      obtain ⟨k_9, h⟩ := chk_some h
      obtain ⟨b_10, eb_10, h⟩ := rfm_some h
      refine gf_6_3 C hP k_9 eb_10 wl_21 dX6_ifYears_23 ?_
      obtain ⟨k_11, h⟩ := chk_some h
      refine gf_5_4 C hP k_11 wl_109 dX6_ifYears_26 ?_
      refine lv_if_ne (tgt := 35) hx hb dX6_ifYears_29 (by decide) (fun c_12 => ?_) (fun c_12 => ?_)
      · replace h := ite_f h c_12
        refine lv_aload_n hx hb dX6_ifYears_35 rfl (lv_at hl 0 rfl) ?_
        obtain ⟨b_13, eb_13, h⟩ := rfm_some h
        refine gf_6_0 C hP k_9 eb_13 wl_15 dX6_ifYears_36 ?_
        refine lv_aload_n hx hb dX6_ifYears_39 rfl (lv_at hl 0 rfl) ?_
        refine gf_6_3 C hP k_9 eb_10 wl_21 dX6_ifYears_40 ?_
        obtain ⟨k_14, h⟩ := chk_some h
        obtain ⟨r_15, M_16, hc_17, h⟩ := cal_some h
        refine cl_Vv (As := [.ref b_10]) (rest := []) C (ct_X5_copyFrom hc_17) k_14 (by decide) rfl wl_157 wl_158 wl_159 wl_14 wl_160 hd_X5_copyFrom ⟨Nat.le_of_ble_eq_true rfl, Nat.le_of_ble_eq_true rfl⟩ ⟨rfl, rfl⟩ ⟨Nat.zero_le _, Nat.zero_le _⟩ rfl (Nat.le_of_ble_eq_true rfl) rfl hl.1 hP hD hS dX6_ifYears_43 (fun H locs hP hD hS => ?_)
        refine lv_aload_n hx hb dX6_ifYears_46 rfl (lv_at hl 0 rfl) ?_
        refine gf_6_0 C hP k_9 eb_13 wl_15 dX6_ifYears_47 ?_
        refine lv_iload_n hx hb dX6_ifYears_50 rfl (lv_at hl 1 rfl) ?_
        obtain ⟨r_18, M_19, hc_20, h⟩ := cal_some h
        refine cl_Vv (As := [.int x1]) (rest := []) C (ct_X5_letYearsGoBy hc_20) k_14 (by decide) rfl wl_359 wl_360 wl_361 wl_14 wl_362 hd_X5_letYearsGoBy ⟨Nat.le_of_ble_eq_true rfl, Nat.le_of_ble_eq_true rfl⟩ ⟨rfl, rfl⟩ ⟨Nat.zero_le _, Nat.zero_le _⟩ rfl (Nat.le_of_ble_eq_true rfl) rfl hl.1 hP hD hS dX6_ifYears_51 (fun H locs hP hD hS => ?_)
        refine lv_iload_n hx hb dX6_ifYears_54 rfl (lv_at hl 2 rfl) ?_
        by_cases q_21 : x2 = 0
        · replace h := ite_t h q_21
          refine lv_tableIn (off := 29) (tgt := 84) hx hb dX6_ifYears_55 (by rw [q_21]; decide) (by rw [q_21]; decide) (by rw [q_21]; rfl) (by decide) ?_
          refine lv_aload_n hx hb dX6_ifYears_84 rfl (lv_at hl 0 rfl) ?_
          refine gf_6_0 C hP k_9 eb_13 wl_15 dX6_ifYears_85 ?_
          obtain ⟨r_22, M_23, hc_24, h⟩ := cal_some h
          refine cl_Vl (As := []) (rest := []) C (ct_X5_allIce hc_24) k_14 (by decide) rfl wl_295 wl_296 wl_297 wl_14 wl_298 hd_X5_allIce ⟨Nat.le_of_ble_eq_true rfl, Nat.le_of_ble_eq_true rfl⟩ ⟨rfl, rfl⟩ ⟨Nat.zero_le _, Nat.zero_le _⟩ rfl (Nat.le_of_ble_eq_true rfl) rfl hl.1 hP hD hS dX6_ifYears_88 (fun H locs hP hD hS => ?_)
          refine lv_l2i hx hb dX6_ifYears_91 rfl ?_
          cases h
          exact rt_i C hP hD hS dX6_ifYears_92
        · replace h := ite_f h q_21
          by_cases q_25 : x2 = 1
          · replace h := ite_t h q_25
            refine lv_tableIn (off := 38) (tgt := 93) hx hb dX6_ifYears_55 (by rw [q_25]; decide) (by rw [q_25]; decide) (by rw [q_25]; rfl) (by decide) ?_
            refine lv_aload_n hx hb dX6_ifYears_93 rfl (lv_at hl 0 rfl) ?_
            refine gf_6_0 C hP k_9 eb_13 wl_15 dX6_ifYears_94 ?_
            obtain ⟨b_26, eb_26, h⟩ := rfm_some h
            refine gf_5_3 C hP k_14 eb_26 wl_281 dX6_ifYears_97 ?_
            obtain ⟨k_27, h⟩ := chk_some h
            refine gf_1_2 C hP k_27 wl_284 dX6_ifYears_100 ?_
            refine lv_aload_n hx hb dX6_ifYears_103 rfl (lv_at hl 0 rfl) ?_
            refine gf_6_3 C hP k_9 eb_10 wl_21 dX6_ifYears_104 ?_
            obtain ⟨b_28, eb_28, h⟩ := rfm_some h
            refine gf_5_3 C hP k_11 eb_28 wl_281 dX6_ifYears_107 ?_
            obtain ⟨k_29, h⟩ := chk_some h
            refine gf_1_2 C hP k_29 wl_284 dX6_ifYears_110 ?_
            refine lv_isub hx hb dX6_ifYears_113 ?_
            cases h
            exact rt_i C hP hD hS dX6_ifYears_114
          · replace h := ite_f h q_25
            by_cases q_30 : x2 = 2
            · replace h := ite_t h q_30
              refine lv_tableIn (off := 60) (tgt := 115) hx hb dX6_ifYears_55 (by rw [q_30]; decide) (by rw [q_30]; decide) (by rw [q_30]; rfl) (by decide) ?_
              refine lv_aload_n hx hb dX6_ifYears_115 rfl (lv_at hl 0 rfl) ?_
              refine gf_6_0 C hP k_9 eb_13 wl_15 dX6_ifYears_116 ?_
              refine gf_5_9 C hP k_14 wl_293 dX6_ifYears_119 ?_
              refine lv_aload_n hx hb dX6_ifYears_122 rfl (lv_at hl 0 rfl) ?_
              refine gf_6_3 C hP k_9 eb_10 wl_21 dX6_ifYears_123 ?_
              refine gf_5_9 C hP k_11 wl_293 dX6_ifYears_126 ?_
              refine lv_lsub hx hb dX6_ifYears_129 ?_
              refine lv_l2i hx hb dX6_ifYears_130 rfl ?_
              cases h
              exact rt_i C hP hD hS dX6_ifYears_131
            · replace h := ite_f h q_30
              by_cases q_31 : x2 = 3
              · replace h := ite_t h q_31
                refine lv_tableIn (off := 77) (tgt := 132) hx hb dX6_ifYears_55 (by rw [q_31]; decide) (by rw [q_31]; decide) (by rw [q_31]; rfl) (by decide) ?_
                refine lv_aload_n hx hb dX6_ifYears_132 rfl (lv_at hl 0 rfl) ?_
                refine gf_6_0 C hP k_9 eb_13 wl_15 dX6_ifYears_133 ?_
                obtain ⟨r_32, M_33, hc_34, h⟩ := cal_some h
                refine cl_Vi (As := []) (rest := []) C (ct_X5_standingStakes hc_34) k_14 (by decide) rfl wl_116 wl_117 wl_118 wl_14 wl_119 hd_X5_standingStakes ⟨Nat.le_of_ble_eq_true rfl, Nat.le_of_ble_eq_true rfl⟩ ⟨rfl, rfl⟩ ⟨Nat.zero_le _, Nat.zero_le _⟩ rfl (Nat.le_of_ble_eq_true rfl) rfl hl.1 hP hD hS dX6_ifYears_136 (fun H locs hP hD hS => ?_)
                cases h
                exact rt_i C hP hD hS dX6_ifYears_139
              · replace h := ite_f h q_31
                refine lv_tableOut (tgt := 140) hx hb dX6_ifYears_55 (by have zq_21 := i32ne (k := 0) q_21 (by decide); have zq_25 := i32ne (k := 1) q_25 (by decide); have zq_30 := i32ne (k := 2) q_30 (by decide); have zq_31 := i32ne (k := 3) q_31 (by decide); omega) (by decide) ?_
                refine lv_aload_n hx hb dX6_ifYears_140 rfl (lv_at hl 0 rfl) ?_
                refine gf_6_0 C hP k_9 eb_13 wl_15 dX6_ifYears_141 ?_
                obtain ⟨r_35, M_36, hc_37, h⟩ := cal_some h
                refine cl_Vi (As := []) (rest := []) C (ct_X5_bandIce hc_37) k_14 (by decide) rfl wl_423 wl_301 wl_302 wl_14 wl_303 hd_X5_bandIce ⟨Nat.le_of_ble_eq_true rfl, Nat.le_of_ble_eq_true rfl⟩ ⟨rfl, rfl⟩ ⟨Nat.zero_le _, Nat.zero_le _⟩ rfl (Nat.le_of_ble_eq_true rfl) rfl hl.1 hP hD hS dX6_ifYears_144 (fun H locs hP hD hS => ?_)
                refine lv_if_ne (tgt := 155) hx hb dX6_ifYears_147 (by decide) (fun c_38 => ?_) (fun c_38 => ?_)
                · replace h := ite_f h c_38
                  refine lv_aload_n hx hb dX6_ifYears_155 rfl (lv_at hl 0 rfl) ?_
                  refine gf_6_0 C hP k_9 eb_13 wl_15 dX6_ifYears_156 ?_
                  obtain ⟨r_39, M_40, hc_41, h⟩ := cal_some h
                  refine cl_Vi (As := []) (rest := []) C (ct_X5_oldestYear hc_41) k_14 (by decide) rfl wl_424 wl_425 wl_426 wl_14 wl_427 hd_X5_oldestYear ⟨Nat.le_of_ble_eq_true rfl, Nat.le_of_ble_eq_true rfl⟩ ⟨rfl, rfl⟩ ⟨Nat.zero_le _, Nat.zero_le _⟩ rfl (Nat.le_of_ble_eq_true rfl) rfl hl.1 hP hD hS dX6_ifYears_159 (fun H locs hP hD hS => ?_)
                  cases h
                  exact rt_i C hP hD hS dX6_ifYears_162
                · replace h := ite_t h c_38
                  refine lv_ldc (own := RX6) (v := -2000000004) hx hb hown (hts _ wl_243) dX6_ifYears_150 ?_
                  refine lv_goto (tgt := 162) hx hb dX6_ifYears_152 (by decide) ?_
                  cases h
                  exact rt_i C hP hD hS dX6_ifYears_162
      · replace h := ite_t h c_12
        refine lv_ldc (own := RX6) (v := -2000000002) hx hb hown (hts _ wl_187) dX6_ifYears_32 ?_
        cases h
        exact rt_i C hP hD hS dX6_ifYears_34
    · replace h := ite_t h c_8
      refine lv_ldc (own := RX6) (v := -2000000001) hx hb hown (hts _ wl_107) dX6_ifYears_19 ?_
      cases h
      exact rt_i C hP hD hS dX6_ifYears_21
abbrev rm_X6_isSoInTrial : Room := { frames := 1, cells := 0, slots := 0, locals := 22 }
theorem hd_X6_isSoInTrial : yX6_isSoInTrial.cls = RX6 ∧ yX6_isSoInTrial.cls ≠ "java/lang/invoke/MethodHandle" ∧ yX6_isSoInTrial.cls ≠ "java/lang/invoke/VarHandle" ∧ (parseMethodDescriptor yX6_isSoInTrial.desc).map (fun d => d.parameters.length) = some 2 := ⟨rfl, by decide +kernel, by decide +kernel, by decide +kernel⟩
set_option maxHeartbeats 4000000 in
set_option maxRecDepth 100000 in
theorem ct_X6_isSoInTrial {l : Launch} {D : va_G} {cy : Cy} {T : Ty} {R : Rm} {a0 : Nat} {x1 : Int32} {x2 : Int32} {M : Mm} {r : Int32} {M9 : Mm} (h : fn_X6_isSoInTrial T R a0 x1 x2 M = some (r, M9)) : Ct QcI l yX6_isSoInTrial cX6_isSoInTrial 3 (some .boolean) rm_X6_isSoInTrial D cy T M R [.ref a0, .int x1, .int x2] M9 R r := by
  unfold fn_X6_isSoInTrial at h
  refine enter (plainFor_of_name (by decide +kernel)) (Nat.le_of_ble_eq_true rfl) (fun p e s m args below meth c A C hP hD hS ls hl => ?_)
  have hl : lv_has ls 3 [(0, .ref a0), (1, .int x1), (2, .int x2)] := hl
  obtain ⟨hx, hb, hr, hml, hown, hts, hK, hA, hlk, hSt⟩ := id C
  refine lv_iload_n hx hb dX6_isSoInTrial_0 rfl (lv_at hl 1 rfl) ?_
  by_cases q_1 : x1 = 0
  · replace h := ite_t h q_1
    refine lv_lookup (off := 27) (tgt := 28) hx hb dX6_isSoInTrial_1 (by decide) (by rw [q_1]; rfl) (by decide) ?_
    refine lv_aload_n hx hb dX6_isSoInTrial_28 rfl (lv_at hl 0 rfl) ?_
    obtain ⟨k_2, h⟩ := chk_some h
    obtain ⟨b_3, eb_3, h⟩ := rfm_some h
    refine gf_6_0 C hP k_2 eb_3 wl_15 dX6_isSoInTrial_29 ?_
    obtain ⟨k_4, h⟩ := chk_some h
    obtain ⟨b_5, eb_5, h⟩ := rfm_some h
    refine gf_5_3 C hP k_4 eb_5 wl_281 dX6_isSoInTrial_32 ?_
    obtain ⟨k_6, h⟩ := chk_some h
    refine gf_1_2 C hP k_6 wl_284 dX6_isSoInTrial_35 ?_
    refine lv_iload_n hx hb dX6_isSoInTrial_38 rfl (lv_at hl 2 rfl) ?_
    refine lv_icmp_le (tgt := 46) hx hb dX6_isSoInTrial_39 (by decide) (fun c_7 => ?_) (fun c_7 => ?_)
    · replace h := ite_t h c_7
      refine lv_iconst (v := 0) hx hb dX6_isSoInTrial_46 (by decide) ?_
      cases h
      exact rt_z C hP hD hS rfl dX6_isSoInTrial_47
    · replace h := ite_f h c_7
      refine lv_iconst (v := 1) hx hb dX6_isSoInTrial_42 (by decide) ?_
      refine lv_goto (tgt := 47) hx hb dX6_isSoInTrial_43 (by decide) ?_
      cases h
      exact rt_z C hP hD hS rfl dX6_isSoInTrial_47
  · replace h := ite_f h q_1
    by_cases q_8 : x1 = 1
    · replace h := ite_t h q_8
      refine lv_lookup (off := 47) (tgt := 48) hx hb dX6_isSoInTrial_1 (by decide) (by rw [q_8]; rfl) (by decide) ?_
      refine lv_aload_n hx hb dX6_isSoInTrial_48 rfl (lv_at hl 0 rfl) ?_
      obtain ⟨k_9, h⟩ := chk_some h
      obtain ⟨b_10, eb_10, h⟩ := rfm_some h
      refine gf_6_0 C hP k_9 eb_10 wl_15 dX6_isSoInTrial_49 ?_
      obtain ⟨k_11, h⟩ := chk_some h
      obtain ⟨r_12, M_13, hc_14, h⟩ := cal_some h
      refine cl_Vi (As := []) (rest := []) C (ct_X5_bandIce hc_14) k_11 (by decide) rfl wl_423 wl_301 wl_302 wl_14 wl_303 hd_X5_bandIce ⟨Nat.le_of_ble_eq_true rfl, Nat.le_of_ble_eq_true rfl⟩ ⟨rfl, rfl⟩ ⟨Nat.zero_le _, Nat.zero_le _⟩ rfl (Nat.le_of_ble_eq_true rfl) rfl hl.1 hP hD hS dX6_isSoInTrial_52 (fun H locs hP hD hS => ?_)
      refine lv_if_ne (tgt := 62) hx hb dX6_isSoInTrial_55 (by decide) (fun c_15 => ?_) (fun c_15 => ?_)
      · replace h := ite_f h c_15
        refine lv_iconst (v := 0) hx hb dX6_isSoInTrial_62 (by decide) ?_
        cases h
        exact rt_z C hP hD hS rfl dX6_isSoInTrial_63
      · replace h := ite_t h c_15
        refine lv_iconst (v := 1) hx hb dX6_isSoInTrial_58 (by decide) ?_
        refine lv_goto (tgt := 63) hx hb dX6_isSoInTrial_59 (by decide) ?_
        cases h
        exact rt_z C hP hD hS rfl dX6_isSoInTrial_63
    · replace h := ite_f h q_8
      refine lv_lookup (off := 63) (tgt := 64) hx hb dX6_isSoInTrial_1 (by decide) (by have zq_1 := i32ne (k := 0) q_1 (by decide); have zq_8 := i32ne (k := 1) q_8 (by decide); simp [Op.lookupswitch.offset, zq_1, Ne.symm zq_1, zq_8, Ne.symm zq_8]) (by decide) ?_
      refine lv_aload_n hx hb dX6_isSoInTrial_64 rfl (lv_at hl 0 rfl) ?_
      obtain ⟨k_16, h⟩ := chk_some h
      obtain ⟨b_17, eb_17, h⟩ := rfm_some h
      refine gf_6_0 C hP k_16 eb_17 wl_15 dX6_isSoInTrial_65 ?_
      obtain ⟨k_18, h⟩ := chk_some h
      obtain ⟨r_19, M_20, hc_21, h⟩ := cal_some h
      refine cl_Vi (As := []) (rest := []) C (ct_X5_standingStakes hc_21) k_18 (by decide) rfl wl_116 wl_117 wl_118 wl_14 wl_119 hd_X5_standingStakes ⟨Nat.le_of_ble_eq_true rfl, Nat.le_of_ble_eq_true rfl⟩ ⟨rfl, rfl⟩ ⟨Nat.zero_le _, Nat.zero_le _⟩ rfl (Nat.le_of_ble_eq_true rfl) rfl hl.1 hP hD hS dX6_isSoInTrial_68 (fun H locs hP hD hS => ?_)
      refine lv_if_ne (tgt := 78) hx hb dX6_isSoInTrial_71 (by decide) (fun c_22 => ?_) (fun c_22 => ?_)
      · replace h := ite_f h c_22
        refine lv_iconst (v := 0) hx hb dX6_isSoInTrial_78 (by decide) ?_
        cases h
        exact rt_z C hP hD hS rfl dX6_isSoInTrial_79
      · replace h := ite_t h c_22
        refine lv_iconst (v := 1) hx hb dX6_isSoInTrial_74 (by decide) ?_
        refine lv_goto (tgt := 79) hx hb dX6_isSoInTrial_75 (by decide) ?_
        cases h
        exact rt_z C hP hD hS rfl dX6_isSoInTrial_79
abbrev rm_X6_yearsTo : Room := { frames := 5, cells := 0, slots := 0, locals := 112 }
theorem hd_X6_yearsTo : yX6_yearsTo.cls = RX6 ∧ yX6_yearsTo.cls ≠ "java/lang/invoke/MethodHandle" ∧ yX6_yearsTo.cls ≠ "java/lang/invoke/VarHandle" ∧ (parseMethodDescriptor yX6_yearsTo.desc).map (fun d => d.parameters.length) = some 1 := ⟨rfl, by decide +kernel, by decide +kernel, by decide +kernel⟩
set_option maxHeartbeats 4000000 in
set_option maxRecDepth 100000 in
theorem bs_X6_yearsTo_38 {p : Program} {l : Launch} {e : Env} {s : State} {m : MethodId} {args : Array Value} {below : List Frame} {meth : Method} {c : Code} {D : va_G} {cy : Cy} {A : Nat → Prop} {T : Ty} {R : Rm} {r : Int32} {M9 : Mm} {a0 : Nat} {x1 : Int32} {j38 : Int32 → Mm → Option (Int32 × Mm)} (C : Cx RX6 cX6_yearsTo 4 (some .int) p s m args meth c D cy A)
    (hj38 : ∀ (x2 : Int32) (M : Mm) (H : Heap) (locs : List Loc), j38 x2 M = some (r, M9) → va_P D vwCl (WL cy T M R) H → va_D A (WL cy T M R) → va_S A s.heap H locs → ∀ ls : Array Slot, lv_has ls 4 [(0, .ref a0), (1, .int x1), (2, .int x2)] → W p l e rm_X6_yearsTo s m args below meth c H locs 0 0 (MQ below (QcI D cy T M9 R A r) args s 0 0 A) (F0 m 38 ls [])) :
    ∀ (x2 : Int32) (M : Mm) (H : Heap) (locs : List Loc), fs_X6_yearsTo_38 T R a0 x1 j38 x2 M = some (r, M9) → va_P D vwCl (WL cy T M R) H → va_D A (WL cy T M R) → va_S A s.heap H locs → ∀ ls : Array Slot, lv_has ls 4 [(0, .ref a0), (1, .int x1), (2, .int x2)] → W p l e rm_X6_yearsTo s m args below meth c H locs 0 0 (MQ below (QcI D cy T M9 R A r) args s 0 0 A) (F0 m 38 ls []) := by
  intro x2 M H locs h hP hD hS ls hl
  unfold fs_X6_yearsTo_38 at h
  obtain ⟨hx, hb, hr, hml, hown, hts, hK, hA, hlk, hSt⟩ := id C
  refine lv_iload_n hx hb dX6_yearsTo_38 rfl (lv_at hl 2 rfl) ?_
  refine lv_sipush (v := 300) hx hb dX6_yearsTo_39 (by decide) ?_
  refine lv_icmp_gt (tgt := 80) hx hb dX6_yearsTo_42 (by decide) (fun c_1 => ?_) (fun c_1 => ?_)
  · replace h := ite_t h c_1
    refine lv_ldc (own := RX6) (v := -2000000004) hx hb hown (hts _ wl_243) dX6_yearsTo_80 ?_
    cases h
    exact rt_i C hP hD hS dX6_yearsTo_82
  · replace h := ite_f h c_1
    refine lv_aload_n hx hb dX6_yearsTo_45 rfl (lv_at hl 0 rfl) ?_
    obtain ⟨k_2, h⟩ := chk_some h
    obtain ⟨b_3, eb_3, h⟩ := rfm_some h
    refine gf_6_0 C hP k_2 eb_3 wl_15 dX6_yearsTo_46 ?_
    obtain ⟨k_4, h⟩ := chk_some h
    obtain ⟨b_5, eb_5, h⟩ := rfm_some h
    refine gf_5_3 C hP k_4 eb_5 wl_281 dX6_yearsTo_49 ?_
    obtain ⟨k_6, h⟩ := chk_some h
    refine gf_1_2 C hP k_6 wl_284 dX6_yearsTo_52 ?_
    refine lv_topi (fun v_7 ev_7 => ?_)
    replace h := bnd_at h ev_7
    refine lv_istore_n (lv' := [(3, .int v_7), (0, .ref a0), (1, .int x1), (2, .int x2)]) hx hb dX6_yearsTo_55 rfl hl (by decide) rfl (fun ls hl => ?_)
    refine lv_aload_n hx hb dX6_yearsTo_56 rfl (lv_at hl 1 rfl) ?_
    refine gf_6_0 C hP k_2 eb_3 wl_15 dX6_yearsTo_57 ?_
    obtain ⟨r_8, M_9, hc_10, h⟩ := cal_some h
    refine cl_Vv (As := []) (rest := []) C (ct_X5_letYearGoBy hc_10) k_4 (by decide) rfl wl_434 wl_364 wl_365 wl_14 wl_366 hd_X5_letYearGoBy ⟨Nat.le_of_ble_eq_true rfl, Nat.le_of_ble_eq_true rfl⟩ ⟨rfl, rfl⟩ ⟨Nat.zero_le _, Nat.zero_le _⟩ rfl (Nat.le_of_ble_eq_true rfl) rfl hl.1 hP hD hS dX6_yearsTo_60 (fun H locs hP hD hS => ?_)
    refine lv_aload_n hx hb dX6_yearsTo_63 rfl (lv_at hl 1 rfl) ?_
    refine lv_iload_n hx hb dX6_yearsTo_64 rfl (lv_at hl 2 rfl) ?_
    refine lv_iload_n hx hb dX6_yearsTo_65 rfl (lv_at hl 0 rfl) ?_
    obtain ⟨r_11, M_12, hc_13, h⟩ := cal_some h
    refine cl_Vi (As := [.int x1, .int v_7]) (rest := []) C (ct_X6_isSoInTrial hc_13) k_2 (by decide) rfl wl_435 wl_436 wl_437 wl_2 wl_438 hd_X6_isSoInTrial ⟨Nat.le_of_ble_eq_true rfl, Nat.le_of_ble_eq_true rfl⟩ ⟨rfl, rfl⟩ ⟨Nat.zero_le _, Nat.zero_le _⟩ rfl (Nat.le_of_ble_eq_true rfl) rfl hl.1 hP hD hS dX6_yearsTo_66 (fun H locs hP hD hS => ?_)
    refine lv_if_eq (tgt := 74) hx hb dX6_yearsTo_69 (by decide) (fun c_14 => ?_) (fun c_14 => ?_)
    · replace h := ite_t h c_14
      obtain ⟨v_15, ev_15⟩ : ∃ y : Int32, y = (x2 + (1 : Int32)) := ⟨_, rfl⟩
      replace h := bnd_at h ev_15
      refine lv_iinc (v := v_15) (lv' := [(2, .int v_15), (3, .int v_7), (0, .ref a0), (1, .int x1)]) hx hb dX6_yearsTo_74 hl (k := 3) rfl (by rw [ev_15]; rfl) (by decide) rfl (fun ls hl => ?_)
      refine lv_goto (tgt := 38) hx hb dX6_yearsTo_77 (by decide) ?_
      exact hj38 _ _ _ _ h hP hD hS _ (lv_sub hl [2, 3, 0] rfl)
    · replace h := ite_f h c_14
      refine lv_iload_n hx hb dX6_yearsTo_72 rfl (lv_at hl 3 rfl) ?_
      cases h
      exact rt_i C hP hD hS dX6_yearsTo_73
theorem bt_X6_yearsTo_38 {p : Program} {l : Launch} {e : Env} {s : State} {m : MethodId} {args : Array Value} {below : List Frame} {meth : Method} {c : Code} {D : va_G} {cy : Cy} {A : Nat → Prop} {T : Ty} {R : Rm} {r : Int32} {M9 : Mm} {a0 : Nat} {x1 : Int32} (C : Cx RX6 cX6_yearsTo 4 (some .int) p s m args meth c D cy A) :
    ∀ n : Nat, ∀ (x2 : Int32) (M : Mm) (H : Heap) (locs : List Loc), fb_X6_yearsTo_38 T R a0 x1 n x2 M = some (r, M9) → va_P D vwCl (WL cy T M R) H → va_D A (WL cy T M R) → va_S A s.heap H locs → ∀ ls : Array Slot, lv_has ls 4 [(0, .ref a0), (1, .int x1), (2, .int x2)] → W p l e rm_X6_yearsTo s m args below meth c H locs 0 0 (MQ below (QcI D cy T M9 R A r) args s 0 0 A) (F0 m 38 ls []) := by
  intro n
  induction n with
  | zero =>
    intro _ _ H locs h
    exact absurd (show (none : Option (Int32 × Mm)) = some _ from h) (by simp)
  | succ n ih => exact fun u0 u1 H locs h => bs_X6_yearsTo_38 (a0 := a0) (x1 := x1) C ih u0 u1 H locs h
set_option maxHeartbeats 4000000 in
set_option maxRecDepth 100000 in
theorem ct_X6_yearsTo {l : Launch} {D : va_G} {cy : Cy} {T : Ty} {R : Rm} {a0 : Nat} {x1 : Int32} {M : Mm} {r : Int32} {M9 : Mm} (h : fn_X6_yearsTo T R a0 x1 M = some (r, M9)) : Ct QcI l yX6_yearsTo cX6_yearsTo 4 (some .int) rm_X6_yearsTo D cy T M R [.ref a0, .int x1] M9 R r := by
  unfold fn_X6_yearsTo at h
  refine enter (plainFor_of_name (by decide +kernel)) (Nat.le_of_ble_eq_true rfl) (fun p e s m args below meth c A C hP hD hS ls hl => ?_)
  have hl : lv_has ls 4 [(0, .ref a0), (1, .int x1)] := hl
  obtain ⟨hx, hb, hr, hml, hown, hts, hK, hA, hlk, hSt⟩ := id C
  refine lv_iload_n hx hb dX6_yearsTo_0 rfl (lv_at hl 1 rfl) ?_
  refine lv_iconst (v := 0) hx hb dX6_yearsTo_1 (by decide) ?_
  refine lv_iconst (v := 2) hx hb dX6_yearsTo_2 (by decide) ?_
  obtain ⟨r_16, M_17, hc_18, h⟩ := cal_some h
  refine cl_Si (As := [.int x1, .int (0 : Int32), .int (2 : Int32)]) (rest := []) C (ct_X6_isWithin hc_18) wl_113 wl_114 wl_2 wl_115 hd_X6_isWithin ⟨Nat.le_of_ble_eq_true rfl, Nat.le_of_ble_eq_true rfl⟩ ⟨rfl, rfl⟩ ⟨Nat.zero_le _, Nat.zero_le _⟩ rfl (Nat.le_of_ble_eq_true rfl) rfl hl.1 hP hD hS dX6_yearsTo_3 (fun H locs hP hD hS => ?_)
  refine lv_if_ne (tgt := 12) hx hb dX6_yearsTo_6 (by decide) (fun c_19 => ?_) (fun c_19 => ?_)
  · replace h := ite_f h c_19
    refine lv_aload_n hx hb dX6_yearsTo_12 rfl (lv_at hl 0 rfl) ?_
    obtain ⟨k_20, h⟩ := chk_some h
    obtain ⟨b_21, eb_21, h⟩ := rfm_some h
    refine gf_6_3 C hP k_20 eb_21 wl_21 dX6_yearsTo_13 ?_
    obtain ⟨k_22, h⟩ := chk_some h
    refine gf_5_4 C hP k_22 wl_109 dX6_yearsTo_16 ?_
    refine lv_if_ne (tgt := 25) hx hb dX6_yearsTo_19 (by decide) (fun c_23 => ?_) (fun c_23 => ?_)
    · replace h := ite_f h c_23
      refine lv_aload_n hx hb dX6_yearsTo_25 rfl (lv_at hl 0 rfl) ?_
      obtain ⟨b_24, eb_24, h⟩ := rfm_some h
      refine gf_6_0 C hP k_20 eb_24 wl_15 dX6_yearsTo_26 ?_
      refine lv_aload_n hx hb dX6_yearsTo_29 rfl (lv_at hl 0 rfl) ?_
      refine gf_6_3 C hP k_20 eb_21 wl_21 dX6_yearsTo_30 ?_
      obtain ⟨k_25, h⟩ := chk_some h
      obtain ⟨r_26, M_27, hc_28, h⟩ := cal_some h
      refine cl_Vv (As := [.ref b_21]) (rest := []) C (ct_X5_copyFrom hc_28) k_25 (by decide) rfl wl_157 wl_158 wl_159 wl_14 wl_160 hd_X5_copyFrom ⟨Nat.le_of_ble_eq_true rfl, Nat.le_of_ble_eq_true rfl⟩ ⟨rfl, rfl⟩ ⟨Nat.zero_le _, Nat.zero_le _⟩ rfl (Nat.le_of_ble_eq_true rfl) rfl hl.1 hP hD hS dX6_yearsTo_33 (fun H locs hP hD hS => ?_)
      refine lv_iconst (v := 1) hx hb dX6_yearsTo_36 (by decide) ?_
      refine lv_istore_n (lv' := [(2, .int (1 : Int32)), (0, .ref a0), (1, .int x1)]) hx hb dX6_yearsTo_37 rfl hl (by decide) rfl (fun ls hl => ?_)
      exact (bt_X6_yearsTo_38 C FU) _ _ _ _ h hP hD hS _ (lv_sub hl [1, 2, 0] rfl)
    · replace h := ite_t h c_23
      refine lv_ldc (own := RX6) (v := -2000000002) hx hb hown (hts _ wl_187) dX6_yearsTo_22 ?_
      cases h
      exact rt_i C hP hD hS dX6_yearsTo_24
  · replace h := ite_t h c_19
    refine lv_ldc (own := RX6) (v := -2000000001) hx hb hown (hts _ wl_107) dX6_yearsTo_9 ?_
    cases h
    exact rt_i C hP hD hS dX6_yearsTo_11
abbrev rm_X6_steadyMelt : Room := { frames := 3, cells := 0, slots := 0, locals := 68 }
theorem hd_X6_steadyMelt : yX6_steadyMelt.cls = RX6 ∧ yX6_steadyMelt.cls ≠ "java/lang/invoke/MethodHandle" ∧ yX6_steadyMelt.cls ≠ "java/lang/invoke/VarHandle" ∧ (parseMethodDescriptor yX6_steadyMelt.desc).map (fun d => d.parameters.length) = some 0 := ⟨rfl, by decide +kernel, by decide +kernel, by decide +kernel⟩
set_option maxHeartbeats 4000000 in
set_option maxRecDepth 100000 in
theorem bs_X6_steadyMelt_73 {p : Program} {l : Launch} {e : Env} {s : State} {m : MethodId} {args : Array Value} {below : List Frame} {meth : Method} {c : Code} {D : va_G} {cy : Cy} {A : Nat → Prop} {T : Ty} {R : Rm} {r : Int32} {M9 : Mm} {a0 : Nat} {j41 : Int32 → Int32 → Mm → Option (Int32 × Mm)} (C : Cx RX6 cX6_steadyMelt 3 (some .int) p s m args meth c D cy A)
    (hj41 : ∀ (x1 : Int32) (x2 : Int32) (M : Mm) (H : Heap) (locs : List Loc), j41 x1 x2 M = some (r, M9) → va_P D vwCl (WL cy T M R) H → va_D A (WL cy T M R) → va_S A s.heap H locs → ∀ ls : Array Slot, lv_has ls 3 [(0, .ref a0), (1, .int x1), (2, .int x2)] → W p l e rm_X6_steadyMelt s m args below meth c H locs 0 0 (MQ below (QcI D cy T M9 R A r) args s 0 0 A) (F0 m 41 ls [])) :
    ∀ (x1 : Int32) (x2 : Int32) (M : Mm) (H : Heap) (locs : List Loc), fs_X6_steadyMelt_73 T R a0 j41 x1 x2 M = some (r, M9) → va_P D vwCl (WL cy T M R) H → va_D A (WL cy T M R) → va_S A s.heap H locs → ∀ ls : Array Slot, lv_has ls 3 [(0, .ref a0), (1, .int x1), (2, .int x2)] → W p l e rm_X6_steadyMelt s m args below meth c H locs 0 0 (MQ below (QcI D cy T M9 R A r) args s 0 0 A) (F0 m 73 ls []) := by
  intro x1 x2 M H locs h hP hD hS ls hl
  unfold fs_X6_steadyMelt_73 at h
  obtain ⟨hx, hb, hr, hml, hown, hts, hK, hA, hlk, hSt⟩ := id C
  refine lv_iload_n hx hb dX6_steadyMelt_73 rfl (lv_at hl 2 rfl) ?_
  refine lv_iconst (v := 2) hx hb dX6_steadyMelt_74 (by decide) ?_
  refine lv_idiv hx hb dX6_steadyMelt_75 (by decide) ?_
  refine lv_topi (fun v_1 ev_1 => ?_)
  replace h := bnd_at h ev_1
  refine lv_istore_n (lv' := [(2, .int v_1), (0, .ref a0), (1, .int x1)]) hx hb dX6_steadyMelt_76 rfl hl (by decide) rfl (fun ls hl => ?_)
  refine lv_goto (tgt := 41) hx hb dX6_steadyMelt_77 (by decide) ?_
  exact hj41 _ _ _ _ _ h hP hD hS _ (lv_sub hl [1, 2, 0] rfl)
set_option maxHeartbeats 4000000 in
set_option maxRecDepth 100000 in
theorem bs_X6_steadyMelt_41 {p : Program} {l : Launch} {e : Env} {s : State} {m : MethodId} {args : Array Value} {below : List Frame} {meth : Method} {c : Code} {D : va_G} {cy : Cy} {A : Nat → Prop} {T : Ty} {R : Rm} {r : Int32} {M9 : Mm} {a0 : Nat} {j41 : Int32 → Int32 → Mm → Option (Int32 × Mm)} (C : Cx RX6 cX6_steadyMelt 3 (some .int) p s m args meth c D cy A)
    (hj41 : ∀ (x1 : Int32) (x2 : Int32) (M : Mm) (H : Heap) (locs : List Loc), j41 x1 x2 M = some (r, M9) → va_P D vwCl (WL cy T M R) H → va_D A (WL cy T M R) → va_S A s.heap H locs → ∀ ls : Array Slot, lv_has ls 3 [(0, .ref a0), (1, .int x1), (2, .int x2)] → W p l e rm_X6_steadyMelt s m args below meth c H locs 0 0 (MQ below (QcI D cy T M9 R A r) args s 0 0 A) (F0 m 41 ls [])) :
    ∀ (x1 : Int32) (x2 : Int32) (M : Mm) (H : Heap) (locs : List Loc), fs_X6_steadyMelt_41 T R a0 j41 x1 x2 M = some (r, M9) → va_P D vwCl (WL cy T M R) H → va_D A (WL cy T M R) → va_S A s.heap H locs → ∀ ls : Array Slot, lv_has ls 3 [(0, .ref a0), (1, .int x1), (2, .int x2)] → W p l e rm_X6_steadyMelt s m args below meth c H locs 0 0 (MQ below (QcI D cy T M9 R A r) args s 0 0 A) (F0 m 41 ls []) := by
  intro x1 x2 M H locs h hP hD hS ls hl
  unfold fs_X6_steadyMelt_41 at h
  obtain ⟨hx, hb, hr, hml, hown, hts, hK, hA, hlk, hSt⟩ := id C
  refine lv_iload_n hx hb dX6_steadyMelt_41 rfl (lv_at hl 2 rfl) ?_
  refine lv_if_le (tgt := 80) hx hb dX6_steadyMelt_42 (by decide) (fun c_2 => ?_) (fun c_2 => ?_)
  · replace h := ite_t h c_2
    refine lv_iload_n hx hb dX6_steadyMelt_80 rfl (lv_at hl 1 rfl) ?_
    cases h
    exact rt_i C hP hD hS dX6_steadyMelt_81
  · replace h := ite_f h c_2
    refine lv_iload_n hx hb dX6_steadyMelt_45 rfl (lv_at hl 1 rfl) ?_
    refine lv_iload_n hx hb dX6_steadyMelt_46 rfl (lv_at hl 2 rfl) ?_
    refine lv_iadd hx hb dX6_steadyMelt_47 ?_
    refine gs_1 C hS wl_148 dX6_steadyMelt_48 (fun t_3 ht_3 => ?_)
    refine lv_iconst (v := 2) hx hb dX6_steadyMelt_51 (by decide) ?_
    obtain ⟨k_4, h⟩ := chk_some h
    refine ts_i C ht_3 hS k_4 dX6_steadyMelt_52 ?_
    refine lv_icmp_gt (tgt := 73) hx hb dX6_steadyMelt_53 (by decide) (fun c_5 => ?_) (fun c_5 => ?_)
    · replace h := ite_t h c_5
      exact (bs_X6_steadyMelt_73 C hj41) _ _ _ _ _ h hP hD hS _ (lv_sub hl [0, 1, 2] rfl)
    · replace h := ite_f h c_5
      refine lv_aload_n hx hb dX6_steadyMelt_56 rfl (lv_at hl 0 rfl) ?_
      obtain ⟨k_6, h⟩ := chk_some h
      obtain ⟨b_7, eb_7, h⟩ := rfm_some h
      refine gf_6_3 C hP k_6 eb_7 wl_21 dX6_steadyMelt_57 ?_
      refine lv_iload_n hx hb dX6_steadyMelt_60 rfl (lv_at hl 1 rfl) ?_
      refine lv_iload_n hx hb dX6_steadyMelt_61 rfl (lv_at hl 2 rfl) ?_
      refine lv_iadd hx hb dX6_steadyMelt_62 ?_
      obtain ⟨k_8, h⟩ := chk_some h
      obtain ⟨r_9, M_10, hc_11, h⟩ := cal_some h
      refine cl_Vi (As := [.int (x1 + x2)]) (rest := []) C (ct_X5_snowOutweighsMelt hc_11) k_8 (by decide) rfl wl_507 wl_508 wl_509 wl_14 wl_510 hd_X5_snowOutweighsMelt ⟨Nat.le_of_ble_eq_true rfl, Nat.le_of_ble_eq_true rfl⟩ ⟨rfl, rfl⟩ ⟨Nat.zero_le _, Nat.zero_le _⟩ rfl (Nat.le_of_ble_eq_true rfl) rfl hl.1 hP hD hS dX6_steadyMelt_63 (fun H locs hP hD hS => ?_)
      refine lv_if_eq (tgt := 73) hx hb dX6_steadyMelt_66 (by decide) (fun c_12 => ?_) (fun c_12 => ?_)
      · replace h := ite_t h c_12
        exact (bs_X6_steadyMelt_73 C hj41) _ _ _ _ _ h hP hD hS _ (lv_sub hl [0, 1, 2] rfl)
      · replace h := ite_f h c_12
        refine lv_iload_n hx hb dX6_steadyMelt_69 rfl (lv_at hl 1 rfl) ?_
        refine lv_iload_n hx hb dX6_steadyMelt_70 rfl (lv_at hl 2 rfl) ?_
        refine lv_iadd hx hb dX6_steadyMelt_71 ?_
        refine lv_topi (fun v_13 ev_13 => ?_)
        replace h := bnd_at h ev_13
        refine lv_istore_n (lv' := [(1, .int v_13), (0, .ref a0), (2, .int x2)]) hx hb dX6_steadyMelt_72 rfl hl (by decide) rfl (fun ls hl => ?_)
        exact (bs_X6_steadyMelt_73 C hj41) _ _ _ _ _ h hP hD hS _ (lv_sub hl [1, 0, 2] rfl)
theorem bt_X6_steadyMelt_41 {p : Program} {l : Launch} {e : Env} {s : State} {m : MethodId} {args : Array Value} {below : List Frame} {meth : Method} {c : Code} {D : va_G} {cy : Cy} {A : Nat → Prop} {T : Ty} {R : Rm} {r : Int32} {M9 : Mm} {a0 : Nat} (C : Cx RX6 cX6_steadyMelt 3 (some .int) p s m args meth c D cy A) :
    ∀ n : Nat, ∀ (x1 : Int32) (x2 : Int32) (M : Mm) (H : Heap) (locs : List Loc), fb_X6_steadyMelt_41 T R a0 n x1 x2 M = some (r, M9) → va_P D vwCl (WL cy T M R) H → va_D A (WL cy T M R) → va_S A s.heap H locs → ∀ ls : Array Slot, lv_has ls 3 [(0, .ref a0), (1, .int x1), (2, .int x2)] → W p l e rm_X6_steadyMelt s m args below meth c H locs 0 0 (MQ below (QcI D cy T M9 R A r) args s 0 0 A) (F0 m 41 ls []) := by
  intro n
  induction n with
  | zero =>
    intro _ _ _ H locs h
    exact absurd (show (none : Option (Int32 × Mm)) = some _ from h) (by simp)
  | succ n ih => exact fun u0 u1 u2 H locs h => bs_X6_steadyMelt_41 (a0 := a0) C ih u0 u1 u2 H locs h
set_option maxHeartbeats 4000000 in
set_option maxRecDepth 100000 in
theorem ct_X6_steadyMelt {l : Launch} {D : va_G} {cy : Cy} {T : Ty} {R : Rm} {a0 : Nat} {M : Mm} {r : Int32} {M9 : Mm} (h : fn_X6_steadyMelt T R a0 M = some (r, M9)) : Ct QcI l yX6_steadyMelt cX6_steadyMelt 3 (some .int) rm_X6_steadyMelt D cy T M R [.ref a0] M9 R r := by
  unfold fn_X6_steadyMelt at h
  refine enter (plainFor_of_name (by decide +kernel)) (Nat.le_of_ble_eq_true rfl) (fun p e s m args below meth c A C hP hD hS ls hl => ?_)
  have hl : lv_has ls 3 [(0, .ref a0)] := hl
  obtain ⟨hx, hb, hr, hml, hown, hts, hK, hA, hlk, hSt⟩ := id C
  refine lv_aload_n hx hb dX6_steadyMelt_0 rfl (lv_at hl 0 rfl) ?_
  obtain ⟨k_14, h⟩ := chk_some h
  obtain ⟨b_15, eb_15, h⟩ := rfm_some h
  refine gf_6_3 C hP k_14 eb_15 wl_21 dX6_steadyMelt_1 ?_
  obtain ⟨k_16, h⟩ := chk_some h
  refine gf_5_4 C hP k_16 wl_109 dX6_steadyMelt_4 ?_
  refine lv_if_ne (tgt := 13) hx hb dX6_steadyMelt_7 (by decide) (fun c_17 => ?_) (fun c_17 => ?_)
  · replace h := ite_f h c_17
    refine lv_aload_n hx hb dX6_steadyMelt_13 rfl (lv_at hl 0 rfl) ?_
    refine gf_6_3 C hP k_14 eb_15 wl_21 dX6_steadyMelt_14 ?_
    refine gs_0 C hS wl_147 dX6_steadyMelt_17 (fun t_18 ht_18 => ?_)
    refine lv_iconst (v := 2) hx hb dX6_steadyMelt_20 (by decide) ?_
    obtain ⟨k_19, h⟩ := chk_some h
    refine ts_i C ht_18 hS k_19 dX6_steadyMelt_21 ?_
    obtain ⟨r_20, M_21, hc_22, h⟩ := cal_some h
    refine cl_Vi (As := [.int (fLeast (2 : Int32).toNatClampNeg)]) (rest := []) C (ct_X5_snowOutweighsMelt hc_22) k_16 (by decide) rfl wl_507 wl_508 wl_509 wl_14 wl_510 hd_X5_snowOutweighsMelt ⟨Nat.le_of_ble_eq_true rfl, Nat.le_of_ble_eq_true rfl⟩ ⟨rfl, rfl⟩ ⟨Nat.zero_le _, Nat.zero_le _⟩ rfl (Nat.le_of_ble_eq_true rfl) rfl hl.1 hP hD hS dX6_steadyMelt_22 (fun H locs hP hD hS => ?_)
    refine lv_if_ne (tgt := 31) hx hb dX6_steadyMelt_25 (by decide) (fun c_23 => ?_) (fun c_23 => ?_)
    · replace h := ite_f h c_23
      refine gs_0 C hS wl_147 dX6_steadyMelt_31 (fun t_24 ht_24 => ?_)
      refine lv_iconst (v := 2) hx hb dX6_steadyMelt_34 (by decide) ?_
      refine ts_i C ht_24 hS k_19 dX6_steadyMelt_35 ?_
      refine lv_topi (fun v_25 ev_25 => ?_)
      replace h := bnd_at h ev_25
      refine lv_istore_n (lv' := [(1, .int v_25), (0, .ref a0)]) hx hb dX6_steadyMelt_36 rfl hl (by decide) rfl (fun ls hl => ?_)
      refine lv_sipush (v := 8192) hx hb dX6_steadyMelt_37 (by decide) ?_
      refine lv_istore_n (lv' := [(2, .int (8192 : Int32)), (1, .int v_25), (0, .ref a0)]) hx hb dX6_steadyMelt_40 rfl hl (by decide) rfl (fun ls hl => ?_)
      exact (bt_X6_steadyMelt_41 C FU) _ _ _ _ _ h hP hD hS _ (lv_sub hl [2, 1, 0] rfl)
    · replace h := ite_t h c_23
      refine lv_ldc (own := RX6) (v := -2000000004) hx hb hown (hts _ wl_243) dX6_steadyMelt_28 ?_
      cases h
      exact rt_i C hP hD hS dX6_steadyMelt_30
  · replace h := ite_t h c_17
    refine lv_ldc (own := RX6) (v := -2000000002) hx hb hown (hts _ wl_187) dX6_steadyMelt_10 ?_
    cases h
    exact rt_i C hP hD hS dX6_steadyMelt_12
abbrev rm_X6_undo : Room := { frames := 0, cells := 0, slots := 0, locals := 0 }
theorem hd_X6_undo : yX6_undo.cls = RX6 ∧ yX6_undo.cls ≠ "java/lang/invoke/MethodHandle" ∧ yX6_undo.cls ≠ "java/lang/invoke/VarHandle" ∧ (parseMethodDescriptor yX6_undo.desc).map (fun d => d.parameters.length) = some 0 := ⟨rfl, by decide +kernel, by decide +kernel, by decide +kernel⟩
set_option maxHeartbeats 4000000 in
set_option maxRecDepth 100000 in
theorem ct_X6_undo {l : Launch} {D : va_G} {cy : Cy} {T : Ty} {R : Rm} {a0 : Nat} {M : Mm} {r : Int32} {M9 : Mm} {R9 : Rm} (h : fn_X6_undo T a0 M R = some (r, M9, R9)) : Ct QcI l yX6_undo cX6_undo 2 (some .int) rm_X6_undo D cy T M R [.ref a0] M9 R9 r := by
  unfold fn_X6_undo at h
  refine enter (plainFor_of_name (by decide +kernel)) (Nat.le_of_ble_eq_true rfl) (fun p e s m args below meth c A C hP hD hS ls hl => ?_)
  have hl : lv_has ls 2 [(0, .ref a0)] := hl
  obtain ⟨hx, hb, hr, hml, hown, hts, hK, hA, hlk, hSt⟩ := id C
  refine lv_aload_n hx hb dX6_undo_0 rfl (lv_at hl 0 rfl) ?_
  obtain ⟨k_1, h⟩ := chk_some h
  refine gf_6_4 C hP k_1 wl_22 dX6_undo_1 ?_
  refine lv_if_ne (tgt := 10) hx hb dX6_undo_4 (by decide) (fun c_2 => ?_) (fun c_2 => ?_)
  · replace h := ite_f h c_2
    refine lv_aload_n hx hb dX6_undo_10 rfl (lv_at hl 0 rfl) ?_
    refine lv_dup hx hb dX6_undo_11 rfl ?_
    refine gf_6_4 C hP k_1 wl_22 dX6_undo_12 ?_
    refine lv_iconst (v := 1) hx hb dX6_undo_15 (by decide) ?_
    refine lv_isub hx hb dX6_undo_16 ?_
    refine pf_6_4 C hP hD hS k_1 wl_22 dX6_undo_17 (fun M_3 H locs eM_3 hP hD hS => ?_)
    replace h := bnd_at h eM_3
    refine lv_aload_n hx hb dX6_undo_20 rfl (lv_at hl 0 rfl) ?_
    obtain ⟨b_4, eb_4, h⟩ := rfm_some h
    refine gf_6_1 C hP k_1 eb_4 wl_16 dX6_undo_21 ?_
    refine lv_aload_n hx hb dX6_undo_24 rfl (lv_at hl 0 rfl) ?_
    refine gf_6_4 C hP k_1 wl_22 dX6_undo_25 ?_
    obtain ⟨k_5, h⟩ := chk_some h
    obtain ⟨k_6, h⟩ := chk_some h
    obtain ⟨b_7, eb_7, h⟩ := rfm_some h
    refine ar_13 C hP k_5 k_6 eb_7 dX6_undo_28 ?_
    refine lv_astore_n (lv' := [(1, .ref b_7), (0, .ref a0)]) hx hb dX6_undo_29 rfl hl (by decide) rfl (fun ls hl => ?_)
    refine lv_aload_n hx hb dX6_undo_30 rfl (lv_at hl 1 rfl) ?_
    refine gf_6_1 C hP k_1 eb_4 wl_16 dX6_undo_31 ?_
    refine lv_aload_n hx hb dX6_undo_34 rfl (lv_at hl 1 rfl) ?_
    refine gf_6_4 C hP k_1 wl_22 dX6_undo_35 ?_
    refine lv_aload_n hx hb dX6_undo_38 rfl (lv_at hl 1 rfl) ?_
    obtain ⟨b_8, eb_8, h⟩ := rfm_some h
    refine gf_6_3 C hP k_1 eb_8 wl_21 dX6_undo_39 ?_
    obtain ⟨k_9, h⟩ := chk_some h
    refine aw_13 C hP hD hS k_5 k_6 k_9 dX6_undo_42 (fun R_10 H locs eR_10 hP hD hS => ?_)
    replace h := bnd_at h eR_10
    refine lv_aload_n hx hb dX6_undo_43 rfl (lv_at hl 1 rfl) ?_
    refine lv_aload_n hx hb dX6_undo_44 rfl (lv_at hl 0 rfl) ?_
    refine pf_6_3 C hP hD hS k_1 wl_21 dX6_undo_45 (fun R_11 H locs eR_11 hP hD hS => ?_)
    replace h := bnd_at h eR_11
    refine lv_aload_n hx hb dX6_undo_48 rfl (lv_at hl 1 rfl) ?_
    refine gf_6_4 C hP k_1 wl_22 dX6_undo_49 ?_
    cases h
    exact rt_i C hP hD hS dX6_undo_52
  · replace h := ite_t h c_2
    refine lv_ldc (own := RX6) (v := -2000000002) hx hb hown (hts _ wl_187) dX6_undo_7 ?_
    cases h
    exact rt_i C hP hD hS dX6_undo_9
abbrev rm_X6_type : Room := { frames := 1, cells := 0, slots := 0, locals := 22 }
theorem hd_X6_type : yX6_type.cls = RX6 ∧ yX6_type.cls ≠ "java/lang/invoke/MethodHandle" ∧ yX6_type.cls ≠ "java/lang/invoke/VarHandle" ∧ (parseMethodDescriptor yX6_type.desc).map (fun d => d.parameters.length) = some 1 := ⟨rfl, by decide +kernel, by decide +kernel, by decide +kernel⟩
set_option maxHeartbeats 4000000 in
set_option maxRecDepth 100000 in
theorem ct_X6_type {l : Launch} {D : va_G} {cy : Cy} {T : Ty} {R : Rm} {a0 : Nat} {x1 : Int32} {M : Mm} {r : Int32} {M9 : Mm} (h : fn_X6_type T R a0 x1 M = some (r, M9)) : Ct QcI l yX6_type cX6_type 2 (some .int) rm_X6_type D cy T M R [.ref a0, .int x1] M9 R r := by
  unfold fn_X6_type at h
  refine enter (plainFor_of_name (by decide +kernel)) (Nat.le_of_ble_eq_true rfl) (fun p e s m args below meth c A C hP hD hS ls hl => ?_)
  have hl : lv_has ls 2 [(0, .ref a0), (1, .int x1)] := hl
  obtain ⟨hx, hb, hr, hml, hown, hts, hK, hA, hlk, hSt⟩ := id C
  refine lv_iload_n hx hb dX6_type_0 rfl (lv_at hl 1 rfl) ?_
  refine lv_bipush (v := 32) hx hb dX6_type_1 (by decide) ?_
  refine lv_bipush (v := 126) hx hb dX6_type_3 (by decide) ?_
  obtain ⟨r_1, M_2, hc_3, h⟩ := cal_some h
  refine cl_Si (As := [.int x1, .int (32 : Int32), .int (126 : Int32)]) (rest := []) C (ct_X6_isWithin hc_3) wl_113 wl_114 wl_2 wl_115 hd_X6_isWithin ⟨Nat.le_of_ble_eq_true rfl, Nat.le_of_ble_eq_true rfl⟩ ⟨rfl, rfl⟩ ⟨Nat.zero_le _, Nat.zero_le _⟩ rfl (Nat.le_of_ble_eq_true rfl) rfl hl.1 hP hD hS dX6_type_5 (fun H locs hP hD hS => ?_)
  refine lv_if_ne (tgt := 14) hx hb dX6_type_8 (by decide) (fun c_4 => ?_) (fun c_4 => ?_)
  · replace h := ite_f h c_4
    refine lv_aload_n hx hb dX6_type_14 rfl (lv_at hl 0 rfl) ?_
    obtain ⟨k_5, h⟩ := chk_some h
    obtain ⟨b_6, eb_6, h⟩ := rfm_some h
    refine gf_6_2 C hP k_5 eb_6 wl_20 dX6_type_15 ?_
    obtain ⟨k_7, h⟩ := chk_some h
    refine gf_4_1 C hP k_7 wl_112 dX6_type_18 ?_
    refine lv_bipush (v := 60) hx hb dX6_type_21 (by decide) ?_
    refine lv_icmp_lt (tgt := 29) hx hb dX6_type_23 (by decide) (fun c_8 => ?_) (fun c_8 => ?_)
    · replace h := ite_t h c_8
      refine lv_aload_n hx hb dX6_type_29 rfl (lv_at hl 0 rfl) ?_
      refine gf_6_2 C hP k_5 eb_6 wl_20 dX6_type_30 ?_
      refine lv_iload_n hx hb dX6_type_33 rfl (lv_at hl 1 rfl) ?_
      refine lv_i2c hx hb dX6_type_34 rfl ?_
      obtain ⟨r_9, M_10, hc_11, h⟩ := cal_some h
      refine cl_Vv (As := [.int ((x1.toUInt32 % 65536).toInt32)]) (rest := []) C (ct_X4_append hc_11) k_7 (by decide) rfl wl_443 wl_444 wl_445 wl_19 wl_446 hd_X4_append ⟨Nat.le_of_ble_eq_true rfl, Nat.le_of_ble_eq_true rfl⟩ ⟨rfl, rfl⟩ ⟨Nat.zero_le _, Nat.zero_le _⟩ rfl (Nat.le_of_ble_eq_true rfl) rfl hl.1 hP hD hS dX6_type_35 (fun H locs hP hD hS => ?_)
      refine lv_aload_n hx hb dX6_type_38 rfl (lv_at hl 0 rfl) ?_
      refine gf_6_2 C hP k_5 eb_6 wl_20 dX6_type_39 ?_
      refine gf_4_1 C hP k_7 wl_112 dX6_type_42 ?_
      cases h
      exact rt_i C hP hD hS dX6_type_45
    · replace h := ite_f h c_8
      refine lv_ldc (own := RX6) (v := -2000000003) hx hb hown (hts _ wl_188) dX6_type_26 ?_
      cases h
      exact rt_i C hP hD hS dX6_type_28
  · replace h := ite_t h c_4
    refine lv_ldc (own := RX6) (v := -2000000001) hx hb hown (hts _ wl_107) dX6_type_11 ?_
    cases h
    exact rt_i C hP hD hS dX6_type_13
abbrev rm_X6_reasonAt : Room := { frames := 4, cells := 0, slots := 0, locals := 88 }
theorem hd_X6_reasonAt : yX6_reasonAt.cls = RX6 ∧ yX6_reasonAt.cls ≠ "java/lang/invoke/MethodHandle" ∧ yX6_reasonAt.cls ≠ "java/lang/invoke/VarHandle" ∧ (parseMethodDescriptor yX6_reasonAt.desc).map (fun d => d.parameters.length) = some 2 := ⟨rfl, by decide +kernel, by decide +kernel, by decide +kernel⟩
set_option maxHeartbeats 4000000 in
set_option maxRecDepth 100000 in
theorem ct_X6_reasonAt {l : Launch} {D : va_G} {cy : Cy} {T : Ty} {R : Rm} {a0 : Nat} {x1 : Int32} {x2 : Int32} {M : Mm} {r : Int32} {M9 : Mm} (h : fn_X6_reasonAt T R a0 x1 x2 M = some (r, M9)) : Ct QcI l yX6_reasonAt cX6_reasonAt 3 (some .int) rm_X6_reasonAt D cy T M R [.ref a0, .int x1, .int x2] M9 R r := by
  unfold fn_X6_reasonAt at h
  refine enter (plainFor_of_name (by decide +kernel)) (Nat.le_of_ble_eq_true rfl) (fun p e s m args below meth c A C hP hD hS ls hl => ?_)
  have hl : lv_has ls 3 [(0, .ref a0), (1, .int x1), (2, .int x2)] := hl
  obtain ⟨hx, hb, hr, hml, hown, hts, hK, hA, hlk, hSt⟩ := id C
  refine lv_aload_n hx hb dX6_reasonAt_0 rfl (lv_at hl 0 rfl) ?_
  obtain ⟨k_1, h⟩ := chk_some h
  obtain ⟨b_2, eb_2, h⟩ := rfm_some h
  refine gf_6_2 C hP k_1 eb_2 wl_20 dX6_reasonAt_1 ?_
  refine lv_iload_n hx hb dX6_reasonAt_4 rfl (lv_at hl 1 rfl) ?_
  obtain ⟨k_3, h⟩ := chk_some h
  obtain ⟨r_4, M_5, hc_6, h⟩ := cal_some h
  refine cl_Vi (As := [.int x1]) (rest := []) C (ct_X4_endOfYear hc_6) k_3 (by decide) rfl wl_459 wl_460 wl_461 wl_19 wl_462 hd_X4_endOfYear ⟨Nat.le_of_ble_eq_true rfl, Nat.le_of_ble_eq_true rfl⟩ ⟨rfl, rfl⟩ ⟨Nat.zero_le _, Nat.zero_le _⟩ rfl (Nat.le_of_ble_eq_true rfl) rfl hl.1 hP hD hS dX6_reasonAt_5 (fun H locs hP hD hS => ?_)
  refine lv_if_ge (tgt := 13) hx hb dX6_reasonAt_8 (by decide) (fun c_7 => ?_) (fun c_7 => ?_)
  · replace h := ite_t h c_7
    refine lv_aload_n hx hb dX6_reasonAt_13 rfl (lv_at hl 0 rfl) ?_
    refine gf_6_2 C hP k_1 eb_2 wl_20 dX6_reasonAt_14 ?_
    refine lv_iload_n hx hb dX6_reasonAt_17 rfl (lv_at hl 1 rfl) ?_
    obtain ⟨r_8, M_9, hc_10, h⟩ := cal_some h
    refine cl_Vi (As := [.int x1]) (rest := []) C (ct_X4_snowOfYear hc_10) k_3 (by decide) rfl wl_475 wl_476 wl_477 wl_19 wl_478 hd_X4_snowOfYear ⟨Nat.le_of_ble_eq_true rfl, Nat.le_of_ble_eq_true rfl⟩ ⟨rfl, rfl⟩ ⟨Nat.zero_le _, Nat.zero_le _⟩ rfl (Nat.le_of_ble_eq_true rfl) rfl hl.1 hP hD hS dX6_reasonAt_18 (fun H locs hP hD hS => ?_)
    refine gs_0 C hS wl_147 dX6_reasonAt_21 (fun t_11 ht_11 => ?_)
    refine lv_iconst (v := 0) hx hb dX6_reasonAt_24 (by decide) ?_
    obtain ⟨k_12, h⟩ := chk_some h
    refine ts_i C ht_11 hS k_12 dX6_reasonAt_25 ?_
    refine gs_1 C hS wl_148 dX6_reasonAt_26 (fun t_13 ht_13 => ?_)
    refine lv_iconst (v := 0) hx hb dX6_reasonAt_29 (by decide) ?_
    obtain ⟨k_14, h⟩ := chk_some h
    refine ts_i C ht_13 hS k_14 dX6_reasonAt_30 ?_
    obtain ⟨r_15, M_16, hc_17, h⟩ := cal_some h
    refine cl_Si (As := [.int r_8, .int (fLeast (0 : Int32).toNatClampNeg), .int (fMost (0 : Int32).toNatClampNeg)]) (rest := []) C (ct_X6_isWithin hc_17) wl_113 wl_114 wl_2 wl_115 hd_X6_isWithin ⟨Nat.le_of_ble_eq_true rfl, Nat.le_of_ble_eq_true rfl⟩ ⟨rfl, rfl⟩ ⟨Nat.zero_le _, Nat.zero_le _⟩ rfl (Nat.le_of_ble_eq_true rfl) rfl hl.1 hP hD hS dX6_reasonAt_31 (fun H locs hP hD hS => ?_)
    refine lv_if_eq (tgt := 61) hx hb dX6_reasonAt_34 (by decide) (fun c_18 => ?_) (fun c_18 => ?_)
    · replace h := ite_t h c_18
      refine lv_iconst (v := 2) hx hb dX6_reasonAt_61 (by decide) ?_
      cases h
      exact rt_i C hP hD hS dX6_reasonAt_62
    · replace h := ite_f h c_18
      refine lv_aload_n hx hb dX6_reasonAt_37 rfl (lv_at hl 0 rfl) ?_
      refine gf_6_2 C hP k_1 eb_2 wl_20 dX6_reasonAt_38 ?_
      refine lv_iload_n hx hb dX6_reasonAt_41 rfl (lv_at hl 1 rfl) ?_
      obtain ⟨r_19, M_20, hc_21, h⟩ := cal_some h
      refine cl_Vi (As := [.int x1]) (rest := []) C (ct_X4_meltOfYear hc_21) k_3 (by decide) rfl wl_483 wl_484 wl_485 wl_19 wl_486 hd_X4_meltOfYear ⟨Nat.le_of_ble_eq_true rfl, Nat.le_of_ble_eq_true rfl⟩ ⟨rfl, rfl⟩ ⟨Nat.zero_le _, Nat.zero_le _⟩ rfl (Nat.le_of_ble_eq_true rfl) rfl hl.1 hP hD hS dX6_reasonAt_42 (fun H locs hP hD hS => ?_)
      refine gs_0 C hS wl_147 dX6_reasonAt_45 (fun t_22 ht_22 => ?_)
      refine lv_iconst (v := 2) hx hb dX6_reasonAt_48 (by decide) ?_
      obtain ⟨k_23, h⟩ := chk_some h
      refine ts_i C ht_22 hS k_23 dX6_reasonAt_49 ?_
      refine gs_1 C hS wl_148 dX6_reasonAt_50 (fun t_24 ht_24 => ?_)
      refine lv_iconst (v := 2) hx hb dX6_reasonAt_53 (by decide) ?_
      obtain ⟨k_25, h⟩ := chk_some h
      refine ts_i C ht_24 hS k_25 dX6_reasonAt_54 ?_
      obtain ⟨r_26, M_27, hc_28, h⟩ := cal_some h
      refine cl_Si (As := [.int r_19, .int (fLeast (2 : Int32).toNatClampNeg), .int (fMost (2 : Int32).toNatClampNeg)]) (rest := []) C (ct_X6_isWithin hc_28) wl_113 wl_114 wl_2 wl_115 hd_X6_isWithin ⟨Nat.le_of_ble_eq_true rfl, Nat.le_of_ble_eq_true rfl⟩ ⟨rfl, rfl⟩ ⟨Nat.zero_le _, Nat.zero_le _⟩ rfl (Nat.le_of_ble_eq_true rfl) rfl hl.1 hP hD hS dX6_reasonAt_55 (fun H locs hP hD hS => ?_)
      refine lv_if_ne (tgt := 63) hx hb dX6_reasonAt_58 (by decide) (fun c_29 => ?_) (fun c_29 => ?_)
      · replace h := ite_f h c_29
        refine lv_aload_n hx hb dX6_reasonAt_63 rfl (lv_at hl 0 rfl) ?_
        obtain ⟨b_30, eb_30, h⟩ := rfm_some h
        refine gf_6_3 C hP k_1 eb_30 wl_21 dX6_reasonAt_64 ?_
        obtain ⟨k_31, h⟩ := chk_some h
        refine gf_5_6 C hP k_31 wl_110 dX6_reasonAt_67 ?_
        refine lv_iload_n hx hb dX6_reasonAt_70 rfl (lv_at hl 2 rfl) ?_
        refine lv_iadd hx hb dX6_reasonAt_71 ?_
        refine lv_iconst (v := 1) hx hb dX6_reasonAt_72 (by decide) ?_
        refine lv_iadd hx hb dX6_reasonAt_73 ?_
        refine lv_sipush (v := 500) hx hb dX6_reasonAt_74 (by decide) ?_
        refine lv_icmp_le (tgt := 84) hx hb dX6_reasonAt_77 (by decide) (fun c_32 => ?_) (fun c_32 => ?_)
        · replace h := ite_t h c_32
          refine lv_iconst (v := 0) hx hb dX6_reasonAt_84 (by decide) ?_
          cases h
          exact rt_i C hP hD hS dX6_reasonAt_85
        · replace h := ite_f h c_32
          refine lv_iconst (v := 3) hx hb dX6_reasonAt_80 (by decide) ?_
          refine lv_goto (tgt := 85) hx hb dX6_reasonAt_81 (by decide) ?_
          cases h
          exact rt_i C hP hD hS dX6_reasonAt_85
      · replace h := ite_t h c_29
        refine lv_iconst (v := 2) hx hb dX6_reasonAt_61 (by decide) ?_
        cases h
        exact rt_i C hP hD hS dX6_reasonAt_62
  · replace h := ite_f h c_7
    refine lv_iconst (v := 1) hx hb dX6_reasonAt_11 (by decide) ?_
    cases h
    exact rt_i C hP hD hS dX6_reasonAt_12
abbrev rm_X6_possibleYears : Room := { frames := 5, cells := 0, slots := 0, locals := 110 }
theorem hd_X6_possibleYears : yX6_possibleYears.cls = RX6 ∧ yX6_possibleYears.cls ≠ "java/lang/invoke/MethodHandle" ∧ yX6_possibleYears.cls ≠ "java/lang/invoke/VarHandle" ∧ (parseMethodDescriptor yX6_possibleYears.desc).map (fun d => d.parameters.length) = some 0 := ⟨rfl, by decide +kernel, by decide +kernel, by decide +kernel⟩
set_option maxHeartbeats 4000000 in
set_option maxRecDepth 100000 in
theorem bs_X6_possibleYears_4 {p : Program} {l : Launch} {e : Env} {s : State} {m : MethodId} {args : Array Value} {below : List Frame} {meth : Method} {c : Code} {D : va_G} {cy : Cy} {A : Nat → Prop} {T : Ty} {R : Rm} {r : Int32} {M9 : Mm} {a0 : Nat} {j4 : Int32 → Int32 → Mm → Option (Int32 × Mm)} (C : Cx RX6 cX6_possibleYears 3 (some .int) p s m args meth c D cy A)
    (hj4 : ∀ (x1 : Int32) (x2 : Int32) (M : Mm) (H : Heap) (locs : List Loc), j4 x1 x2 M = some (r, M9) → va_P D vwCl (WL cy T M R) H → va_D A (WL cy T M R) → va_S A s.heap H locs → ∀ ls : Array Slot, lv_has ls 3 [(0, .ref a0), (1, .int x1), (2, .int x2)] → W p l e rm_X6_possibleYears s m args below meth c H locs 0 0 (MQ below (QcI D cy T M9 R A r) args s 0 0 A) (F0 m 4 ls [])) :
    ∀ (x1 : Int32) (x2 : Int32) (M : Mm) (H : Heap) (locs : List Loc), fs_X6_possibleYears_4 T R a0 j4 x1 x2 M = some (r, M9) → va_P D vwCl (WL cy T M R) H → va_D A (WL cy T M R) → va_S A s.heap H locs → ∀ ls : Array Slot, lv_has ls 3 [(0, .ref a0), (1, .int x1), (2, .int x2)] → W p l e rm_X6_possibleYears s m args below meth c H locs 0 0 (MQ below (QcI D cy T M9 R A r) args s 0 0 A) (F0 m 4 ls []) := by
  intro x1 x2 M H locs h hP hD hS ls hl
  unfold fs_X6_possibleYears_4 at h
  obtain ⟨hx, hb, hr, hml, hown, hts, hK, hA, hlk, hSt⟩ := id C
  refine lv_iload_n hx hb dX6_possibleYears_4 rfl (lv_at hl 2 rfl) ?_
  refine lv_bipush (v := 60) hx hb dX6_possibleYears_5 (by decide) ?_
  refine lv_icmp_ge (tgt := 47) hx hb dX6_possibleYears_7 (by decide) (fun c_1 => ?_) (fun c_1 => ?_)
  · replace h := ite_t h c_1
    refine lv_bipush (v := 60) hx hb dX6_possibleYears_47 (by decide) ?_
    cases h
    exact rt_i C hP hD hS dX6_possibleYears_49
  · replace h := ite_f h c_1
    refine lv_iload_n hx hb dX6_possibleYears_10 rfl (lv_at hl 1 rfl) ?_
    refine lv_aload_n hx hb dX6_possibleYears_11 rfl (lv_at hl 0 rfl) ?_
    obtain ⟨k_2, h⟩ := chk_some h
    obtain ⟨b_3, eb_3, h⟩ := rfm_some h
    refine gf_6_2 C hP k_2 eb_3 wl_20 dX6_possibleYears_12 ?_
    obtain ⟨k_4, h⟩ := chk_some h
    refine gf_4_1 C hP k_4 wl_112 dX6_possibleYears_15 ?_
    refine lv_icmp_ge (tgt := 30) hx hb dX6_possibleYears_18 (by decide) (fun c_5 => ?_) (fun c_5 => ?_)
    · replace h := ite_t h c_5
      refine lv_iload_n hx hb dX6_possibleYears_30 rfl (lv_at hl 2 rfl) ?_
      cases h
      exact rt_i C hP hD hS dX6_possibleYears_31
    · replace h := ite_f h c_5
      refine lv_aload_n hx hb dX6_possibleYears_21 rfl (lv_at hl 0 rfl) ?_
      refine lv_iload_n hx hb dX6_possibleYears_22 rfl (lv_at hl 1 rfl) ?_
      refine lv_iload_n hx hb dX6_possibleYears_23 rfl (lv_at hl 2 rfl) ?_
      obtain ⟨r_6, M_7, hc_8, h⟩ := cal_some h
      refine cl_Vi (As := [.int x1, .int x2]) (rest := []) C (ct_X6_reasonAt hc_8) k_2 (by decide) rfl wl_455 wl_456 wl_457 wl_2 wl_458 hd_X6_reasonAt ⟨Nat.le_of_ble_eq_true rfl, Nat.le_of_ble_eq_true rfl⟩ ⟨rfl, rfl⟩ ⟨Nat.zero_le _, Nat.zero_le _⟩ rfl (Nat.le_of_ble_eq_true rfl) rfl hl.1 hP hD hS dX6_possibleYears_24 (fun H locs hP hD hS => ?_)
      refine lv_if_eq (tgt := 32) hx hb dX6_possibleYears_27 (by decide) (fun c_9 => ?_) (fun c_9 => ?_)
      · replace h := ite_t h c_9
        refine lv_aload_n hx hb dX6_possibleYears_32 rfl (lv_at hl 0 rfl) ?_
        refine gf_6_2 C hP k_2 eb_3 wl_20 dX6_possibleYears_33 ?_
        refine lv_iload_n hx hb dX6_possibleYears_36 rfl (lv_at hl 1 rfl) ?_
        obtain ⟨r_10, M_11, hc_12, h⟩ := cal_some h
        refine cl_Vi (As := [.int x1]) (rest := []) C (ct_X4_endOfYear hc_12) k_4 (by decide) rfl wl_459 wl_460 wl_461 wl_19 wl_462 hd_X4_endOfYear ⟨Nat.le_of_ble_eq_true rfl, Nat.le_of_ble_eq_true rfl⟩ ⟨rfl, rfl⟩ ⟨Nat.zero_le _, Nat.zero_le _⟩ rfl (Nat.le_of_ble_eq_true rfl) rfl hl.1 hP hD hS dX6_possibleYears_37 (fun H locs hP hD hS => ?_)
        refine lv_istore_n (lv' := [(1, .int r_10), (0, .ref a0), (2, .int x2)]) hx hb dX6_possibleYears_40 rfl hl (by decide) rfl (fun ls hl => ?_)
        obtain ⟨v_13, ev_13⟩ : ∃ y : Int32, y = (x2 + (1 : Int32)) := ⟨_, rfl⟩
        replace h := bnd_at h ev_13
        refine lv_iinc (v := v_13) (lv' := [(2, .int v_13), (1, .int r_10), (0, .ref a0)]) hx hb dX6_possibleYears_41 hl (k := 2) rfl (by rw [ev_13]; rfl) (by decide) rfl (fun ls hl => ?_)
        refine lv_goto (tgt := 4) hx hb dX6_possibleYears_44 (by decide) ?_
        exact hj4 _ _ _ _ _ h hP hD hS _ (lv_sub hl [2, 1, 0] rfl)
      · replace h := ite_f h c_9
        refine lv_iload_n hx hb dX6_possibleYears_30 rfl (lv_at hl 2 rfl) ?_
        cases h
        exact rt_i C hP hD hS dX6_possibleYears_31
theorem bt_X6_possibleYears_4 {p : Program} {l : Launch} {e : Env} {s : State} {m : MethodId} {args : Array Value} {below : List Frame} {meth : Method} {c : Code} {D : va_G} {cy : Cy} {A : Nat → Prop} {T : Ty} {R : Rm} {r : Int32} {M9 : Mm} {a0 : Nat} (C : Cx RX6 cX6_possibleYears 3 (some .int) p s m args meth c D cy A) :
    ∀ n : Nat, ∀ (x1 : Int32) (x2 : Int32) (M : Mm) (H : Heap) (locs : List Loc), fb_X6_possibleYears_4 T R a0 n x1 x2 M = some (r, M9) → va_P D vwCl (WL cy T M R) H → va_D A (WL cy T M R) → va_S A s.heap H locs → ∀ ls : Array Slot, lv_has ls 3 [(0, .ref a0), (1, .int x1), (2, .int x2)] → W p l e rm_X6_possibleYears s m args below meth c H locs 0 0 (MQ below (QcI D cy T M9 R A r) args s 0 0 A) (F0 m 4 ls []) := by
  intro n
  induction n with
  | zero =>
    intro _ _ _ H locs h
    exact absurd (show (none : Option (Int32 × Mm)) = some _ from h) (by simp)
  | succ n ih => exact fun u0 u1 u2 H locs h => bs_X6_possibleYears_4 (a0 := a0) C ih u0 u1 u2 H locs h
set_option maxHeartbeats 4000000 in
set_option maxRecDepth 100000 in
theorem ct_X6_possibleYears {l : Launch} {D : va_G} {cy : Cy} {T : Ty} {R : Rm} {a0 : Nat} {M : Mm} {r : Int32} {M9 : Mm} (h : fn_X6_possibleYears T R a0 M = some (r, M9)) : Ct QcI l yX6_possibleYears cX6_possibleYears 3 (some .int) rm_X6_possibleYears D cy T M R [.ref a0] M9 R r := by
  unfold fn_X6_possibleYears at h
  refine enter (plainFor_of_name (by decide +kernel)) (Nat.le_of_ble_eq_true rfl) (fun p e s m args below meth c A C hP hD hS ls hl => ?_)
  have hl : lv_has ls 3 [(0, .ref a0)] := hl
  obtain ⟨hx, hb, hr, hml, hown, hts, hK, hA, hlk, hSt⟩ := id C
  refine lv_iconst (v := 0) hx hb dX6_possibleYears_0 (by decide) ?_
  refine lv_istore_n (lv' := [(1, .int (0 : Int32)), (0, .ref a0)]) hx hb dX6_possibleYears_1 rfl hl (by decide) rfl (fun ls hl => ?_)
  refine lv_iconst (v := 0) hx hb dX6_possibleYears_2 (by decide) ?_
  refine lv_istore_n (lv' := [(2, .int (0 : Int32)), (1, .int (0 : Int32)), (0, .ref a0)]) hx hb dX6_possibleYears_3 rfl hl (by decide) rfl (fun ls hl => ?_)
  exact (bt_X6_possibleYears_4 C FU) _ _ _ _ _ h hP hD hS _ (lv_sub hl [2, 1, 0] rfl)
abbrev rm_X6_fault : Room := { frames := 6, cells := 0, slots := 0, locals := 132 }
theorem hd_X6_fault : yX6_fault.cls = RX6 ∧ yX6_fault.cls ≠ "java/lang/invoke/MethodHandle" ∧ yX6_fault.cls ≠ "java/lang/invoke/VarHandle" ∧ (parseMethodDescriptor yX6_fault.desc).map (fun d => d.parameters.length) = some 1 := ⟨rfl, by decide +kernel, by decide +kernel, by decide +kernel⟩
set_option maxHeartbeats 4000000 in
set_option maxRecDepth 100000 in
theorem ct_X6_fault {l : Launch} {D : va_G} {cy : Cy} {T : Ty} {R : Rm} {a0 : Nat} {x1 : Int32} {M : Mm} {r : Int32} {M9 : Mm} (h : fn_X6_fault T R a0 x1 M = some (r, M9)) : Ct QcI l yX6_fault cX6_fault 4 (some .int) rm_X6_fault D cy T M R [.ref a0, .int x1] M9 R r := by
  unfold fn_X6_fault at h
  refine enter (plainFor_of_name (by decide +kernel)) (Nat.le_of_ble_eq_true rfl) (fun p e s m args below meth c A C hP hD hS ls hl => ?_)
  have hl : lv_has ls 4 [(0, .ref a0), (1, .int x1)] := hl
  obtain ⟨hx, hb, hr, hml, hown, hts, hK, hA, hlk, hSt⟩ := id C
  refine lv_iload_n hx hb dX6_fault_0 rfl (lv_at hl 1 rfl) ?_
  refine lv_iconst (v := 0) hx hb dX6_fault_1 (by decide) ?_
  refine lv_iconst (v := 1) hx hb dX6_fault_2 (by decide) ?_
  obtain ⟨r_1, M_2, hc_3, h⟩ := cal_some h
  refine cl_Si (As := [.int x1, .int (0 : Int32), .int (1 : Int32)]) (rest := []) C (ct_X6_isWithin hc_3) wl_113 wl_114 wl_2 wl_115 hd_X6_isWithin ⟨Nat.le_of_ble_eq_true rfl, Nat.le_of_ble_eq_true rfl⟩ ⟨rfl, rfl⟩ ⟨Nat.zero_le _, Nat.zero_le _⟩ rfl (Nat.le_of_ble_eq_true rfl) rfl hl.1 hP hD hS dX6_fault_3 (fun H locs hP hD hS => ?_)
  refine lv_if_ne (tgt := 12) hx hb dX6_fault_6 (by decide) (fun c_4 => ?_) (fun c_4 => ?_)
  · replace h := ite_f h c_4
    refine lv_aload_n hx hb dX6_fault_12 rfl (lv_at hl 0 rfl) ?_
    obtain ⟨k_5, h⟩ := chk_some h
    obtain ⟨r_6, M_7, hc_8, h⟩ := cal_some h
    refine cl_Vi (As := []) (rest := []) C (ct_X6_possibleYears hc_8) k_5 (by decide) rfl wl_451 wl_452 wl_453 wl_2 wl_454 hd_X6_possibleYears ⟨Nat.le_of_ble_eq_true rfl, Nat.le_of_ble_eq_true rfl⟩ ⟨rfl, rfl⟩ ⟨Nat.zero_le _, Nat.zero_le _⟩ rfl (Nat.le_of_ble_eq_true rfl) rfl hl.1 hP hD hS dX6_fault_13 (fun H locs hP hD hS => ?_)
    refine lv_istore_n (lv' := [(2, .int r_6), (0, .ref a0), (1, .int x1)]) hx hb dX6_fault_16 rfl hl (by decide) rfl (fun ls hl => ?_)
    refine lv_aload_n hx hb dX6_fault_17 rfl (lv_at hl 1 rfl) ?_
    obtain ⟨b_9, eb_9, h⟩ := rfm_some h
    refine gf_6_2 C hP k_5 eb_9 wl_20 dX6_fault_18 ?_
    refine lv_iload_n hx hb dX6_fault_21 rfl (lv_at hl 0 rfl) ?_
    obtain ⟨k_10, h⟩ := chk_some h
    obtain ⟨r_11, M_12, hc_13, h⟩ := cal_some h
    refine cl_Vi (As := [.int r_6]) (rest := []) C (ct_X4_startOfYear hc_13) k_10 (by decide) rfl wl_487 wl_488 wl_489 wl_19 wl_490 hd_X4_startOfYear ⟨Nat.le_of_ble_eq_true rfl, Nat.le_of_ble_eq_true rfl⟩ ⟨rfl, rfl⟩ ⟨Nat.zero_le _, Nat.zero_le _⟩ rfl (Nat.le_of_ble_eq_true rfl) rfl hl.1 hP hD hS dX6_fault_22 (fun H locs hP hD hS => ?_)
    refine lv_istore_n (lv' := [(3, .int r_11), (2, .int r_6), (0, .ref a0), (1, .int x1)]) hx hb dX6_fault_25 rfl hl (by decide) rfl (fun ls hl => ?_)
    refine lv_iload_n hx hb dX6_fault_26 rfl (lv_at hl 0 rfl) ?_
    refine lv_aload_n hx hb dX6_fault_27 rfl (lv_at hl 2 rfl) ?_
    refine gf_6_2 C hP k_5 eb_9 wl_20 dX6_fault_28 ?_
    refine gf_4_1 C hP k_10 wl_112 dX6_fault_31 ?_
    refine lv_icmp_lt (tgt := 40) hx hb dX6_fault_34 (by decide) (fun c_14 => ?_) (fun c_14 => ?_)
    · replace h := ite_t h c_14
      refine lv_iload_n hx hb dX6_fault_40 rfl (lv_at hl 3 rfl) ?_
      refine lv_if_ne (tgt := 48) hx hb dX6_fault_41 (by decide) (fun c_15 => ?_) (fun c_15 => ?_)
      · replace h := ite_f h c_15
        refine lv_aload_n hx hb dX6_fault_48 rfl (lv_at hl 2 rfl) ?_
        refine lv_iload_n hx hb dX6_fault_49 rfl (lv_at hl 0 rfl) ?_
        refine lv_iload_n hx hb dX6_fault_50 rfl (lv_at hl 1 rfl) ?_
        obtain ⟨r_16, M_17, hc_18, h⟩ := cal_some h
        refine cl_Vi (As := [.int r_11, .int r_6]) (rest := []) C (ct_X6_reasonAt hc_18) k_5 (by decide) rfl wl_455 wl_456 wl_457 wl_2 wl_458 hd_X6_reasonAt ⟨Nat.le_of_ble_eq_true rfl, Nat.le_of_ble_eq_true rfl⟩ ⟨rfl, rfl⟩ ⟨Nat.zero_le _, Nat.zero_le _⟩ rfl (Nat.le_of_ble_eq_true rfl) rfl hl.1 hP hD hS dX6_fault_51 (fun H locs hP hD hS => ?_)
        cases h
        exact rt_i C hP hD hS dX6_fault_54
      · replace h := ite_t h c_15
        refine lv_iload_n hx hb dX6_fault_44 rfl (lv_at hl 0 rfl) ?_
        refine lv_goto (tgt := 54) hx hb dX6_fault_45 (by decide) ?_
        cases h
        exact rt_i C hP hD hS dX6_fault_54
    · replace h := ite_f h c_14
      refine lv_ldc (own := RX6) (v := -2000000004) hx hb hown (hts _ wl_243) dX6_fault_37 ?_
      cases h
      exact rt_i C hP hD hS dX6_fault_39
  · replace h := ite_t h c_4
    refine lv_ldc (own := RX6) (v := -2000000001) hx hb hown (hts _ wl_107) dX6_fault_9 ?_
    cases h
    exact rt_i C hP hD hS dX6_fault_11
