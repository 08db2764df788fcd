abbrev rm_X5_copyFrom : Room := { frames := 3, cells := 0, slots := 0, locals := 60 }
theorem hd_X5_copyFrom : yX5_copyFrom.cls = RX5 ∧ yX5_copyFrom.cls ≠ "java/lang/invoke/MethodHandle" ∧ yX5_copyFrom.cls ≠ "java/lang/invoke/VarHandle" ∧ (parseMethodDescriptor yX5_copyFrom.desc).map (fun d => d.parameters.length) = some 1 := ⟨rfl, by decide +kernel, by decide +kernel, by decide +kernel⟩
set_option maxHeartbeats 4000000 in
set_option maxRecDepth 100000 in
theorem bs_X5_copyFrom_48 {p : Program} {l : Launch} {e : Env} {s : State} {m : MethodId} {args : Array Value} {below : List Frame} {meth : Method} {c : Code} {D : va_G} {cy : Cy} {A : Nat → Prop} {T : Ty} {R : Rm} {r : Unit} {M9 : Mm} {a0 : Nat} {a1 : Nat} {j48 : Int32 → Mm → Option (Unit × Mm)} (C : Cx RX5 cX5_copyFrom 3 none p s m args meth c D cy A)
    (hj48 : ∀ (x2 : Int32) (M : Mm) (H : Heap) (locs : List Loc), j48 x2 M = some (r, M9) → va_P D vwCl (WL cy T M R) H → va_D A (WL cy T M R) → va_S A s.heap H locs → ∀ ls : Array Slot, lv_has ls 3 [(0, .ref a0), (1, .ref a1), (2, .int x2)] → W p l e rm_X5_copyFrom s m args below meth c H locs 0 0 (MQ below (QcV D cy T M9 R A r) args s 0 0 A) (F0 m 48 ls [])) :
    ∀ (x2 : Int32) (M : Mm) (H : Heap) (locs : List Loc), fs_X5_copyFrom_48 T R a0 a1 j48 x2 M = some (r, M9) → va_P D vwCl (WL cy T M R) H → va_D A (WL cy T M R) → va_S A s.heap H locs → ∀ ls : Array Slot, lv_has ls 3 [(0, .ref a0), (1, .ref a1), (2, .int x2)] → W p l e rm_X5_copyFrom s m args below meth c H locs 0 0 (MQ below (QcV D cy T M9 R A r) args s 0 0 A) (F0 m 48 ls []) := by
  intro x2 M H locs h hP hD hS ls hl
  unfold fs_X5_copyFrom_48 at h
  obtain ⟨hx, hb, hr, hml, hown, hts, hK, hA, hlk, hSt⟩ := id C
  refine lv_iload_n hx hb dX5_copyFrom_48 rfl (lv_at hl 2 rfl) ?_
  refine lv_aload_n hx hb dX5_copyFrom_49 rfl (lv_at hl 1 rfl) ?_
  obtain ⟨k_1, h⟩ := chk_some h
  refine gf_5_5 C hP k_1 wl_43 dX5_copyFrom_50 ?_
  refine lv_icmp_ge (tgt := 77) hx hb dX5_copyFrom_53 (by decide) (fun c_2 => ?_) (fun c_2 => ?_)
  · replace h := ite_t h c_2
    refine lv_aload_n hx hb dX5_copyFrom_77 rfl (lv_at hl 0 rfl) ?_
    obtain ⟨k_3, h⟩ := chk_some h
    obtain ⟨b_4, eb_4, h⟩ := rfm_some h
    refine gf_5_3 C hP k_3 eb_4 wl_41 dX5_copyFrom_78 ?_
    refine lv_aload_n hx hb dX5_copyFrom_81 rfl (lv_at hl 1 rfl) ?_
    obtain ⟨b_5, eb_5, h⟩ := rfm_some h
    refine gf_5_3 C hP k_1 eb_5 wl_41 dX5_copyFrom_82 ?_
    obtain ⟨k_6, h⟩ := chk_some h
    obtain ⟨r_7, M_8, hc_9, h⟩ := cal_some h
    refine cl_Vv (As := [.ref b_5]) (rest := []) C (ct_X1_copyFrom hc_9) k_6 (by decide) rfl wl_178 wl_179 wl_180 wl_40 wl_181 hd_X1_copyFrom ⟨Nat.le_of_ble_eq_true rfl, Nat.le_of_ble_eq_true rfl⟩ ⟨rfl, rfl⟩ ⟨Nat.zero_le _, Nat.zero_le _⟩ rfl (Nat.le_of_ble_eq_true rfl) rfl hl.1 hP hD hS dX5_copyFrom_85 (fun H locs hP hD hS => ?_)
    refine lv_aload_n hx hb dX5_copyFrom_88 rfl (lv_at hl 0 rfl) ?_
    refine lv_aload_n hx hb dX5_copyFrom_89 rfl (lv_at hl 1 rfl) ?_
    refine gf_5_4 C hP k_1 wl_42 dX5_copyFrom_90 ?_
    refine pf_5_4 C hP hD hS k_3 wl_42 dX5_copyFrom_93 (fun M_10 H locs eM_10 hP hD hS => ?_)
    replace h := bnd_at h eM_10
    refine lv_aload_n hx hb dX5_copyFrom_96 rfl (lv_at hl 0 rfl) ?_
    refine lv_aload_n hx hb dX5_copyFrom_97 rfl (lv_at hl 1 rfl) ?_
    refine gf_5_5 C hP k_1 wl_43 dX5_copyFrom_98 ?_
    refine pf_5_5 C hP hD hS k_3 wl_43 dX5_copyFrom_101 (fun M_11 H locs eM_11 hP hD hS => ?_)
    replace h := bnd_at h eM_11
    refine lv_aload_n hx hb dX5_copyFrom_104 rfl (lv_at hl 0 rfl) ?_
    refine lv_aload_n hx hb dX5_copyFrom_105 rfl (lv_at hl 1 rfl) ?_
    refine gf_5_6 C hP k_1 wl_44 dX5_copyFrom_106 ?_
    refine pf_5_6 C hP hD hS k_3 wl_44 dX5_copyFrom_109 (fun M_12 H locs eM_12 hP hD hS => ?_)
    replace h := bnd_at h eM_12
    refine lv_aload_n hx hb dX5_copyFrom_112 rfl (lv_at hl 0 rfl) ?_
    refine lv_aload_n hx hb dX5_copyFrom_113 rfl (lv_at hl 1 rfl) ?_
    refine gf_5_7 C hP k_1 wl_45 dX5_copyFrom_114 ?_
    refine pf_5_7 C hP hD hS k_3 wl_45 dX5_copyFrom_117 (fun M_13 H locs eM_13 hP hD hS => ?_)
    replace h := bnd_at h eM_13
    refine lv_aload_n hx hb dX5_copyFrom_120 rfl (lv_at hl 0 rfl) ?_
    refine lv_aload_n hx hb dX5_copyFrom_121 rfl (lv_at hl 1 rfl) ?_
    refine gf_5_8 C hP k_1 wl_46 dX5_copyFrom_122 ?_
    refine pf_5_8 C hP hD hS k_3 wl_46 dX5_copyFrom_125 (fun M_14 H locs eM_14 hP hD hS => ?_)
    replace h := bnd_at h eM_14
    refine lv_aload_n hx hb dX5_copyFrom_128 rfl (lv_at hl 0 rfl) ?_
    refine lv_aload_n hx hb dX5_copyFrom_129 rfl (lv_at hl 1 rfl) ?_
    refine gf_5_9 C hP k_1 wl_47 dX5_copyFrom_130 ?_
    refine pf_5_9 C hP hD hS k_3 wl_47 dX5_copyFrom_133 (fun M_15 H locs eM_15 hP hD hS => ?_)
    replace h := bnd_at h eM_15
    refine lv_aload_n hx hb dX5_copyFrom_136 rfl (lv_at hl 0 rfl) ?_
    refine lv_aload_n hx hb dX5_copyFrom_137 rfl (lv_at hl 1 rfl) ?_
    refine gf_5_10 C hP k_1 wl_48 dX5_copyFrom_138 ?_
    refine pf_5_10 C hP hD hS k_3 wl_48 dX5_copyFrom_141 (fun M_16 H locs eM_16 hP hD hS => ?_)
    replace h := bnd_at h eM_16
    cases h
    exact rt_v C hP hD hS dX5_copyFrom_144
  · replace h := ite_f h c_2
    refine lv_aload_n hx hb dX5_copyFrom_56 rfl (lv_at hl 0 rfl) ?_
    obtain ⟨k_17, h⟩ := chk_some h
    obtain ⟨b_18, eb_18, h⟩ := rfm_some h
    refine gf_5_2 C hP k_17 eb_18 wl_37 dX5_copyFrom_57 ?_
    refine lv_iload_n hx hb dX5_copyFrom_60 rfl (lv_at hl 2 rfl) ?_
    obtain ⟨k_19, h⟩ := chk_some h
    obtain ⟨k_20, h⟩ := chk_some h
    obtain ⟨b_21, eb_21, h⟩ := rfm_some h
    refine ar_12 C hP k_19 k_20 eb_21 dX5_copyFrom_61 ?_
    refine lv_aload_n hx hb dX5_copyFrom_62 rfl (lv_at hl 1 rfl) ?_
    obtain ⟨b_22, eb_22, h⟩ := rfm_some h
    refine gf_5_2 C hP k_1 eb_22 wl_37 dX5_copyFrom_63 ?_
    refine lv_iload_n hx hb dX5_copyFrom_66 rfl (lv_at hl 2 rfl) ?_
    obtain ⟨k_23, h⟩ := chk_some h
    obtain ⟨k_24, h⟩ := chk_some h
    obtain ⟨b_25, eb_25, h⟩ := rfm_some h
    refine ar_12 C hP k_23 k_24 eb_25 dX5_copyFrom_67 ?_
    obtain ⟨k_26, h⟩ := chk_some h
    obtain ⟨r_27, M_28, hc_29, h⟩ := cal_some h
    refine cl_Vv (As := [.ref b_25]) (rest := []) C (ct_X3_copyFrom hc_29) k_26 (by decide) rfl wl_174 wl_175 wl_176 wl_52 wl_177 hd_X3_copyFrom ⟨Nat.le_of_ble_eq_true rfl, Nat.le_of_ble_eq_true rfl⟩ ⟨rfl, rfl⟩ ⟨Nat.zero_le _, Nat.zero_le _⟩ rfl (Nat.le_of_ble_eq_true rfl) rfl hl.1 hP hD hS dX5_copyFrom_68 (fun H locs hP hD hS => ?_)
    obtain ⟨v_30, ev_30⟩ : ∃ y : Int32, y = (x2 + (1 : Int32)) := ⟨_, rfl⟩
    replace h := bnd_at h ev_30
    refine lv_iinc (v := v_30) (lv' := [(2, .int v_30), (0, .ref a0), (1, .ref a1)]) hx hb dX5_copyFrom_71 hl (k := 2) rfl (by rw [ev_30]; rfl) (by decide) rfl (fun ls hl => ?_)
    refine lv_goto (tgt := 48) hx hb dX5_copyFrom_74 (by decide) ?_
    exact hj48 _ _ _ _ h hP hD hS _ (lv_sub hl [1, 2, 0] rfl)
theorem bt_X5_copyFrom_48 {p : Program} {l : Launch} {e : Env} {s : State} {m : MethodId} {args : Array Value} {below : List Frame} {meth : Method} {c : Code} {D : va_G} {cy : Cy} {A : Nat → Prop} {T : Ty} {R : Rm} {r : Unit} {M9 : Mm} {a0 : Nat} {a1 : Nat} (C : Cx RX5 cX5_copyFrom 3 none p s m args meth c D cy A) :
    ∀ n : Nat, ∀ (x2 : Int32) (M : Mm) (H : Heap) (locs : List Loc), fb_X5_copyFrom_48 T R a0 a1 n x2 M = some (r, M9) → va_P D vwCl (WL cy T M R) H → va_D A (WL cy T M R) → va_S A s.heap H locs → ∀ ls : Array Slot, lv_has ls 3 [(0, .ref a0), (1, .ref a1), (2, .int x2)] → W p l e rm_X5_copyFrom s m args below meth c H locs 0 0 (MQ below (QcV D cy T M9 R A r) args s 0 0 A) (F0 m 48 ls []) := by
  intro n
  induction n with
  | zero =>
    intro _ _ H locs h
    exact absurd (show (none : Option (Unit × Mm)) = some _ from h) (by simp)
  | succ n ih => exact fun u0 u1 H locs h => bs_X5_copyFrom_48 (a0 := a0) (a1 := a1) C ih u0 u1 H locs h
set_option maxHeartbeats 4000000 in
set_option maxRecDepth 100000 in
theorem bs_X5_copyFrom_17 {p : Program} {l : Launch} {e : Env} {s : State} {m : MethodId} {args : Array Value} {below : List Frame} {meth : Method} {c : Code} {D : va_G} {cy : Cy} {A : Nat → Prop} {T : Ty} {R : Rm} {r : Unit} {M9 : Mm} {a0 : Nat} {a1 : Nat} {j17 : Int32 → Mm → Option (Unit × Mm)} {j48 : Int32 → Mm → Option (Unit × Mm)} (C : Cx RX5 cX5_copyFrom 3 none p s m args meth c D cy A)
    (hj17 : ∀ (x2 : Int32) (M : Mm) (H : Heap) (locs : List Loc), j17 x2 M = some (r, M9) → va_P D vwCl (WL cy T M R) H → va_D A (WL cy T M R) → va_S A s.heap H locs → ∀ ls : Array Slot, lv_has ls 3 [(0, .ref a0), (1, .ref a1), (2, .int x2)] → W p l e rm_X5_copyFrom s m args below meth c H locs 0 0 (MQ below (QcV D cy T M9 R A r) args s 0 0 A) (F0 m 17 ls []))
    (hj48 : ∀ (x2 : Int32) (M : Mm) (H : Heap) (locs : List Loc), j48 x2 M = some (r, M9) → va_P D vwCl (WL cy T M R) H → va_D A (WL cy T M R) → va_S A s.heap H locs → ∀ ls : Array Slot, lv_has ls 3 [(0, .ref a0), (1, .ref a1), (2, .int x2)] → W p l e rm_X5_copyFrom s m args below meth c H locs 0 0 (MQ below (QcV D cy T M9 R A r) args s 0 0 A) (F0 m 48 ls [])) :
    ∀ (x2 : Int32) (M : Mm) (H : Heap) (locs : List Loc), fs_X5_copyFrom_17 T R a0 a1 j17 j48 x2 M = some (r, M9) → va_P D vwCl (WL cy T M R) H → va_D A (WL cy T M R) → va_S A s.heap H locs → ∀ ls : Array Slot, lv_has ls 3 [(0, .ref a0), (1, .ref a1), (2, .int x2)] → W p l e rm_X5_copyFrom s m args below meth c H locs 0 0 (MQ below (QcV D cy T M9 R A r) args s 0 0 A) (F0 m 17 ls []) := by
  intro x2 M H locs h hP hD hS ls hl
  unfold fs_X5_copyFrom_17 at h
  obtain ⟨hx, hb, hr, hml, hown, hts, hK, hA, hlk, hSt⟩ := id C
  refine lv_iload_n hx hb dX5_copyFrom_17 rfl (lv_at hl 2 rfl) ?_
  refine lv_aload_n hx hb dX5_copyFrom_18 rfl (lv_at hl 1 rfl) ?_
  obtain ⟨k_31, h⟩ := chk_some h
  refine gf_5_4 C hP k_31 wl_42 dX5_copyFrom_19 ?_
  refine lv_icmp_ge (tgt := 46) hx hb dX5_copyFrom_22 (by decide) (fun c_32 => ?_) (fun c_32 => ?_)
  · replace h := ite_t h c_32
    refine lv_iconst (v := 0) hx hb dX5_copyFrom_46 (by decide) ?_
    refine lv_istore_n (lv' := [(2, .int (0 : Int32)), (0, .ref a0), (1, .ref a1)]) hx hb dX5_copyFrom_47 rfl hl (by decide) rfl (fun ls hl => ?_)
    exact hj48 _ _ _ _ h hP hD hS _ (lv_sub hl [1, 2, 0] rfl)
  · replace h := ite_f h c_32
    refine lv_aload_n hx hb dX5_copyFrom_25 rfl (lv_at hl 0 rfl) ?_
    obtain ⟨k_33, h⟩ := chk_some h
    obtain ⟨b_34, eb_34, h⟩ := rfm_some h
    refine gf_5_1 C hP k_33 eb_34 wl_35 dX5_copyFrom_26 ?_
    refine lv_iload_n hx hb dX5_copyFrom_29 rfl (lv_at hl 2 rfl) ?_
    obtain ⟨k_35, h⟩ := chk_some h
    obtain ⟨k_36, h⟩ := chk_some h
    obtain ⟨b_37, eb_37, h⟩ := rfm_some h
    refine ar_11 C hP k_35 k_36 eb_37 dX5_copyFrom_30 ?_
    refine lv_aload_n hx hb dX5_copyFrom_31 rfl (lv_at hl 1 rfl) ?_
    obtain ⟨b_38, eb_38, h⟩ := rfm_some h
    refine gf_5_1 C hP k_31 eb_38 wl_35 dX5_copyFrom_32 ?_
    refine lv_iload_n hx hb dX5_copyFrom_35 rfl (lv_at hl 2 rfl) ?_
    obtain ⟨k_39, h⟩ := chk_some h
    obtain ⟨k_40, h⟩ := chk_some h
    obtain ⟨b_41, eb_41, h⟩ := rfm_some h
    refine ar_11 C hP k_39 k_40 eb_41 dX5_copyFrom_36 ?_
    obtain ⟨k_42, h⟩ := chk_some h
    obtain ⟨r_43, M_44, hc_45, h⟩ := cal_some h
    refine cl_Vv (As := [.ref b_41]) (rest := []) C (ct_X0_copyFrom hc_45) k_42 (by decide) rfl wl_165 wl_166 wl_167 wl_50 wl_168 hd_X0_copyFrom ⟨Nat.le_of_ble_eq_true rfl, Nat.le_of_ble_eq_true rfl⟩ ⟨rfl, rfl⟩ ⟨Nat.zero_le _, Nat.zero_le _⟩ rfl (Nat.le_of_ble_eq_true rfl) rfl hl.1 hP hD hS dX5_copyFrom_37 (fun H locs hP hD hS => ?_)
    obtain ⟨v_46, ev_46⟩ : ∃ y : Int32, y = (x2 + (1 : Int32)) := ⟨_, rfl⟩
    replace h := bnd_at h ev_46
    refine lv_iinc (v := v_46) (lv' := [(2, .int v_46), (0, .ref a0), (1, .ref a1)]) hx hb dX5_copyFrom_40 hl (k := 2) rfl (by rw [ev_46]; rfl) (by decide) rfl (fun ls hl => ?_)
    refine lv_goto (tgt := 17) hx hb dX5_copyFrom_43 (by decide) ?_
    exact hj17 _ _ _ _ h hP hD hS _ (lv_sub hl [1, 2, 0] rfl)
theorem bt_X5_copyFrom_17 {p : Program} {l : Launch} {e : Env} {s : State} {m : MethodId} {args : Array Value} {below : List Frame} {meth : Method} {c : Code} {D : va_G} {cy : Cy} {A : Nat → Prop} {T : Ty} {R : Rm} {r : Unit} {M9 : Mm} {a0 : Nat} {a1 : Nat} {j48 : Int32 → Mm → Option (Unit × Mm)} (C : Cx RX5 cX5_copyFrom 3 none p s m args meth c D cy A)
    (hj48 : ∀ (x2 : Int32) (M : Mm) (H : Heap) (locs : List Loc), j48 x2 M = some (r, M9) → va_P D vwCl (WL cy T M R) H → va_D A (WL cy T M R) → va_S A s.heap H locs → ∀ ls : Array Slot, lv_has ls 3 [(0, .ref a0), (1, .ref a1), (2, .int x2)] → W p l e rm_X5_copyFrom s m args below meth c H locs 0 0 (MQ below (QcV D cy T M9 R A r) args s 0 0 A) (F0 m 48 ls [])) :
    ∀ n : Nat, ∀ (x2 : Int32) (M : Mm) (H : Heap) (locs : List Loc), fb_X5_copyFrom_17 T R a0 a1 j48 n x2 M = some (r, M9) → va_P D vwCl (WL cy T M R) H → va_D A (WL cy T M R) → va_S A s.heap H locs → ∀ ls : Array Slot, lv_has ls 3 [(0, .ref a0), (1, .ref a1), (2, .int x2)] → W p l e rm_X5_copyFrom s m args below meth c H locs 0 0 (MQ below (QcV D cy T M9 R A r) args s 0 0 A) (F0 m 17 ls []) := by
  intro n
  induction n with
  | zero =>
    intro _ _ H locs h
    exact absurd (show (none : Option (Unit × Mm)) = some _ from h) (by simp)
  | succ n ih => exact fun u0 u1 H locs h => bs_X5_copyFrom_17 (a0 := a0) (a1 := a1) C ih hj48 u0 u1 H locs h
set_option maxHeartbeats 4000000 in
set_option maxRecDepth 100000 in
theorem ct_X5_copyFrom {l : Launch} {D : va_G} {cy : Cy} {T : Ty} {R : Rm} {a0 : Nat} {a1 : Nat} {M : Mm} {r : Unit} {M9 : Mm} (h : fn_X5_copyFrom T R a0 a1 M = some (r, M9)) : Ct QcV l yX5_copyFrom cX5_copyFrom 3 none rm_X5_copyFrom D cy T M R [.ref a0, .ref a1] M9 R r := by
  unfold fn_X5_copyFrom at h
  refine enter (plainFor_of_name (by decide +kernel)) (Nat.le_of_ble_eq_true rfl) (fun p e s m args below meth c A C hP hD hS ls hl => ?_)
  have hl : lv_has ls 3 [(0, .ref a0), (1, .ref a1)] := hl
  obtain ⟨hx, hb, hr, hml, hown, hts, hK, hA, hlk, hSt⟩ := id C
  refine lv_aload_n hx hb dX5_copyFrom_0 rfl (lv_at hl 1 rfl) ?_
  obtain ⟨k_47, h⟩ := chk_some h
  obtain ⟨b_48, eb_48, h⟩ := rfm_some h
  refine gf_5_0 C hP k_47 eb_48 wl_33 dX5_copyFrom_1 ?_
  refine lv_iconst (v := 0) hx hb dX5_copyFrom_4 (by decide) ?_
  refine lv_aload_n hx hb dX5_copyFrom_5 rfl (lv_at hl 0 rfl) ?_
  obtain ⟨k_49, h⟩ := chk_some h
  obtain ⟨b_50, eb_50, h⟩ := rfm_some h
  refine gf_5_0 C hP k_49 eb_50 wl_33 dX5_copyFrom_6 ?_
  refine lv_iconst (v := 0) hx hb dX5_copyFrom_9 (by decide) ?_
  refine lv_bipush (v := 7) hx hb dX5_copyFrom_10 (by decide) ?_
  obtain ⟨k_51, h⟩ := chk_some h
  obtain ⟨k_52, h⟩ := chk_some h
  obtain ⟨k_53, h⟩ := chk_some h
  refine cp_9 C hl.1 (Nat.le_of_ble_eq_true rfl) (Nat.le_of_ble_eq_true rfl) wl_161 hP hD hS k_51 k_52 k_53 dX5_copyFrom_12 (fun M_54 H locs eM_54 hP hD hS => ?_)
  replace h := bnd_at h eM_54
  refine lv_iconst (v := 0) hx hb dX5_copyFrom_15 (by decide) ?_
  refine lv_istore_n (lv' := [(2, .int (0 : Int32)), (0, .ref a0), (1, .ref a1)]) hx hb dX5_copyFrom_16 rfl hl (by decide) rfl (fun ls hl => ?_)
  exact (bt_X5_copyFrom_17 C (bt_X5_copyFrom_48 C FU) FU) _ _ _ _ h hP hD hS _ (lv_sub hl [1, 2, 0] rfl)
abbrev rm_X5_hasBand : Room := { frames := 0, cells := 0, slots := 0, locals := 0 }
theorem hd_X5_hasBand : yX5_hasBand.cls = RX5 ∧ yX5_hasBand.cls ≠ "java/lang/invoke/MethodHandle" ∧ yX5_hasBand.cls ≠ "java/lang/invoke/VarHandle" ∧ (parseMethodDescriptor yX5_hasBand.desc).map (fun d => d.parameters.length) = some 1 := ⟨rfl, by decide +kernel, by decide +kernel, by decide +kernel⟩
set_option maxHeartbeats 4000000 in
set_option maxRecDepth 100000 in
theorem ct_X5_hasBand {l : Launch} {D : va_G} {cy : Cy} {T : Ty} {R : Rm} {a0 : Nat} {x1 : Int32} {M : Mm} {r : Int32} {M9 : Mm} (h : fn_X5_hasBand T R a0 x1 M = some (r, M9)) : Ct QcI l yX5_hasBand cX5_hasBand 2 (some .boolean) rm_X5_hasBand D cy T M R [.ref a0, .int x1] M9 R r := by
  unfold fn_X5_hasBand at h
  refine enter (plainFor_of_name (by decide +kernel)) (Nat.le_of_ble_eq_true rfl) (fun p e s m args below meth c A C hP hD hS ls hl => ?_)
  have hl : lv_has ls 2 [(0, .ref a0), (1, .int x1)] := hl
  obtain ⟨hx, hb, hr, hml, hown, hts, hK, hA, hlk, hSt⟩ := id C
  refine lv_iload_n hx hb dX5_hasBand_0 rfl (lv_at hl 1 rfl) ?_
  refine lv_if_lt (tgt := 16) hx hb dX5_hasBand_1 (by decide) (fun c_1 => ?_) (fun c_1 => ?_)
  · replace h := ite_t h c_1
    refine lv_iconst (v := 0) hx hb dX5_hasBand_16 (by decide) ?_
    cases h
    exact rt_z C hP hD hS rfl dX5_hasBand_17
  · replace h := ite_f h c_1
    refine lv_iload_n hx hb dX5_hasBand_4 rfl (lv_at hl 1 rfl) ?_
    refine lv_aload_n hx hb dX5_hasBand_5 rfl (lv_at hl 0 rfl) ?_
    obtain ⟨k_2, h⟩ := chk_some h
    refine gf_5_4 C hP k_2 wl_42 dX5_hasBand_6 ?_
    refine lv_icmp_ge (tgt := 16) hx hb dX5_hasBand_9 (by decide) (fun c_3 => ?_) (fun c_3 => ?_)
    · replace h := ite_t h c_3
      refine lv_iconst (v := 0) hx hb dX5_hasBand_16 (by decide) ?_
      cases h
      exact rt_z C hP hD hS rfl dX5_hasBand_17
    · replace h := ite_f h c_3
      refine lv_iconst (v := 1) hx hb dX5_hasBand_12 (by decide) ?_
      refine lv_goto (tgt := 17) hx hb dX5_hasBand_13 (by decide) ?_
      cases h
      exact rt_z C hP hD hS rfl dX5_hasBand_17
abbrev rm_X5_hasStake : Room := { frames := 0, cells := 0, slots := 0, locals := 0 }
theorem hd_X5_hasStake : yX5_hasStake.cls = RX5 ∧ yX5_hasStake.cls ≠ "java/lang/invoke/MethodHandle" ∧ yX5_hasStake.cls ≠ "java/lang/invoke/VarHandle" ∧ (parseMethodDescriptor yX5_hasStake.desc).map (fun d => d.parameters.length) = some 1 := ⟨rfl, by decide +kernel, by decide +kernel, by decide +kernel⟩
set_option maxHeartbeats 4000000 in
set_option maxRecDepth 100000 in
theorem ct_X5_hasStake {l : Launch} {D : va_G} {cy : Cy} {T : Ty} {R : Rm} {a0 : Nat} {x1 : Int32} {M : Mm} {r : Int32} {M9 : Mm} (h : fn_X5_hasStake T R a0 x1 M = some (r, M9)) : Ct QcI l yX5_hasStake cX5_hasStake 2 (some .boolean) rm_X5_hasStake D cy T M R [.ref a0, .int x1] M9 R r := by
  unfold fn_X5_hasStake at h
  refine enter (plainFor_of_name (by decide +kernel)) (Nat.le_of_ble_eq_true rfl) (fun p e s m args below meth c A C hP hD hS ls hl => ?_)
  have hl : lv_has ls 2 [(0, .ref a0), (1, .int x1)] := hl
  obtain ⟨hx, hb, hr, hml, hown, hts, hK, hA, hlk, hSt⟩ := id C
  refine lv_iload_n hx hb dX5_hasStake_0 rfl (lv_at hl 1 rfl) ?_
  refine lv_if_lt (tgt := 16) hx hb dX5_hasStake_1 (by decide) (fun c_1 => ?_) (fun c_1 => ?_)
  · replace h := ite_t h c_1
    refine lv_iconst (v := 0) hx hb dX5_hasStake_16 (by decide) ?_
    cases h
    exact rt_z C hP hD hS rfl dX5_hasStake_17
  · replace h := ite_f h c_1
    refine lv_iload_n hx hb dX5_hasStake_4 rfl (lv_at hl 1 rfl) ?_
    refine lv_aload_n hx hb dX5_hasStake_5 rfl (lv_at hl 0 rfl) ?_
    obtain ⟨k_2, h⟩ := chk_some h
    refine gf_5_5 C hP k_2 wl_43 dX5_hasStake_6 ?_
    refine lv_icmp_ge (tgt := 16) hx hb dX5_hasStake_9 (by decide) (fun c_3 => ?_) (fun c_3 => ?_)
    · replace h := ite_t h c_3
      refine lv_iconst (v := 0) hx hb dX5_hasStake_16 (by decide) ?_
      cases h
      exact rt_z C hP hD hS rfl dX5_hasStake_17
    · replace h := ite_f h c_3
      refine lv_iconst (v := 1) hx hb dX5_hasStake_12 (by decide) ?_
      refine lv_goto (tgt := 17) hx hb dX5_hasStake_13 (by decide) ?_
      cases h
      exact rt_z C hP hD hS rfl dX5_hasStake_17
abbrev rm_X5_isBelowAll : Room := { frames := 0, cells := 0, slots := 0, locals := 0 }
theorem hd_X5_isBelowAll : yX5_isBelowAll.cls = RX5 ∧ yX5_isBelowAll.cls ≠ "java/lang/invoke/MethodHandle" ∧ yX5_isBelowAll.cls ≠ "java/lang/invoke/VarHandle" ∧ (parseMethodDescriptor yX5_isBelowAll.desc).map (fun d => d.parameters.length) = some 1 := ⟨rfl, by decide +kernel, by decide +kernel, by decide +kernel⟩
set_option maxHeartbeats 4000000 in
set_option maxRecDepth 100000 in
theorem ct_X5_isBelowAll {l : Launch} {D : va_G} {cy : Cy} {T : Ty} {R : Rm} {a0 : Nat} {x1 : Int32} {M : Mm} {r : Int32} {M9 : Mm} (h : fn_X5_isBelowAll T R a0 x1 M = some (r, M9)) : Ct QcI l yX5_isBelowAll cX5_isBelowAll 2 (some .boolean) rm_X5_isBelowAll D cy T M R [.ref a0, .int x1] M9 R r := by
  unfold fn_X5_isBelowAll at h
  refine enter (plainFor_of_name (by decide +kernel)) (Nat.le_of_ble_eq_true rfl) (fun p e s m args below meth c A C hP hD hS ls hl => ?_)
  have hl : lv_has ls 2 [(0, .ref a0), (1, .int x1)] := hl
  obtain ⟨hx, hb, hr, hml, hown, hts, hK, hA, hlk, hSt⟩ := id C
  refine lv_aload_n hx hb dX5_isBelowAll_0 rfl (lv_at hl 0 rfl) ?_
  obtain ⟨k_1, h⟩ := chk_some h
  refine gf_5_4 C hP k_1 wl_42 dX5_isBelowAll_1 ?_
  refine lv_if_eq (tgt := 25) hx hb dX5_isBelowAll_4 (by decide) (fun c_2 => ?_) (fun c_2 => ?_)
  · replace h := ite_t h c_2
    refine lv_iconst (v := 1) hx hb dX5_isBelowAll_25 (by decide) ?_
    refine lv_goto (tgt := 30) hx hb dX5_isBelowAll_26 (by decide) ?_
    cases h
    exact rt_z C hP hD hS rfl dX5_isBelowAll_30
  · replace h := ite_f h c_2
    refine lv_iload_n hx hb dX5_isBelowAll_7 rfl (lv_at hl 1 rfl) ?_
    refine lv_aload_n hx hb dX5_isBelowAll_8 rfl (lv_at hl 0 rfl) ?_
    obtain ⟨b_3, eb_3, h⟩ := rfm_some h
    refine gf_5_1 C hP k_1 eb_3 wl_35 dX5_isBelowAll_9 ?_
    refine lv_aload_n hx hb dX5_isBelowAll_12 rfl (lv_at hl 0 rfl) ?_
    refine gf_5_4 C hP k_1 wl_42 dX5_isBelowAll_13 ?_
    refine lv_iconst (v := 1) hx hb dX5_isBelowAll_16 (by decide) ?_
    refine lv_isub hx hb dX5_isBelowAll_17 ?_
    obtain ⟨k_4, h⟩ := chk_some h
    obtain ⟨k_5, h⟩ := chk_some h
    obtain ⟨b_6, eb_6, h⟩ := rfm_some h
    refine ar_11 C hP k_4 k_5 eb_6 dX5_isBelowAll_18 ?_
    obtain ⟨k_7, h⟩ := chk_some h
    refine gf_0_1 C hP k_7 wl_193 dX5_isBelowAll_19 ?_
    refine lv_icmp_ge (tgt := 29) hx hb dX5_isBelowAll_22 (by decide) (fun c_8 => ?_) (fun c_8 => ?_)
    · replace h := ite_t h c_8
      refine lv_iconst (v := 0) hx hb dX5_isBelowAll_29 (by decide) ?_
      cases h
      exact rt_z C hP hD hS rfl dX5_isBelowAll_30
    · replace h := ite_f h c_8
      refine lv_iconst (v := 1) hx hb dX5_isBelowAll_25 (by decide) ?_
      refine lv_goto (tgt := 30) hx hb dX5_isBelowAll_26 (by decide) ?_
      cases h
      exact rt_z C hP hD hS rfl dX5_isBelowAll_30
abbrev rm_X5_addBand : Room := { frames := 4, cells := 0, slots := 0, locals := 84 }
theorem hd_X5_addBand : yX5_addBand.cls = RX5 ∧ yX5_addBand.cls ≠ "java/lang/invoke/MethodHandle" ∧ yX5_addBand.cls ≠ "java/lang/invoke/VarHandle" ∧ (parseMethodDescriptor yX5_addBand.desc).map (fun d => d.parameters.length) = some 4 := ⟨rfl, by decide +kernel, by decide +kernel, by decide +kernel⟩
set_option maxHeartbeats 4000000 in
set_option maxRecDepth 100000 in
theorem ct_X5_addBand {l : Launch} {D : va_G} {cy : Cy} {T : Ty} {R : Rm} {a0 : Nat} {x1 : Int32} {x2 : Int32} {x3 : Int32} {x4 : Int32} {M : Mm} {r : Int32} {M9 : Mm} (h : fn_X5_addBand T R a0 x1 x2 x3 x4 M = some (r, M9)) : Ct QcI l yX5_addBand cX5_addBand 6 (some .int) rm_X5_addBand D cy T M R [.ref a0, .int x1, .int x2, .int x3, .int x4] M9 R r := by
  unfold fn_X5_addBand at h
  refine enter (plainFor_of_name (by decide +kernel)) (Nat.le_of_ble_eq_true rfl) (fun p e s m args below meth c A C hP hD hS ls hl => ?_)
  have hl : lv_has ls 6 [(0, .ref a0), (1, .int x1), (2, .int x2), (3, .int x3), (4, .int x4)] := hl
  obtain ⟨hx, hb, hr, hml, hown, hts, hK, hA, hlk, hSt⟩ := id C
  refine lv_aload_n hx hb dX5_addBand_0 rfl (lv_at hl 0 rfl) ?_
  obtain ⟨k_1, h⟩ := chk_some h
  refine gf_5_4 C hP k_1 wl_42 dX5_addBand_1 ?_
  refine lv_topi (fun v_2 ev_2 => ?_)
  replace h := bnd_at h ev_2
  refine lv_istore (lv' := [(5, .int v_2), (0, .ref a0), (1, .int x1), (2, .int x2), (3, .int x3), (4, .int x4)]) hx hb dX5_addBand_4 hl (by decide) rfl (fun ls hl => ?_)
  refine lv_aload_n hx hb dX5_addBand_6 rfl (lv_at hl 1 rfl) ?_
  obtain ⟨b_3, eb_3, h⟩ := rfm_some h
  refine gf_5_1 C hP k_1 eb_3 wl_35 dX5_addBand_7 ?_
  refine lv_iload hx hb dX5_addBand_10 (lv_at hl 0 rfl) ?_
  obtain ⟨k_4, h⟩ := chk_some h
  obtain ⟨k_5, h⟩ := chk_some h
  obtain ⟨b_6, eb_6, h⟩ := rfm_some h
  refine ar_11 C hP k_4 k_5 eb_6 dX5_addBand_12 ?_
  refine lv_iload_n hx hb dX5_addBand_13 rfl (lv_at hl 2 rfl) ?_
  refine lv_iload_n hx hb dX5_addBand_14 rfl (lv_at hl 3 rfl) ?_
  refine lv_iload_n hx hb dX5_addBand_15 rfl (lv_at hl 4 rfl) ?_
  obtain ⟨k_7, h⟩ := chk_some h
  obtain ⟨r_8, M_9, hc_10, h⟩ := cal_some h
  refine cl_Vv (As := [.int x1, .int x2, .int x3]) (rest := []) C (ct_X0_begin hc_10) k_7 (by decide) rfl wl_198 wl_199 wl_200 wl_50 wl_201 hd_X0_begin ⟨Nat.le_of_ble_eq_true rfl, Nat.le_of_ble_eq_true rfl⟩ ⟨rfl, rfl⟩ ⟨Nat.zero_le _, Nat.zero_le _⟩ rfl (Nat.le_of_ble_eq_true rfl) rfl hl.1 hP hD hS dX5_addBand_16 (fun H locs hP hD hS => ?_)
  refine lv_aload_n hx hb dX5_addBand_19 rfl (lv_at hl 1 rfl) ?_
  refine gf_5_1 C hP k_1 eb_3 wl_35 dX5_addBand_20 ?_
  refine lv_iload hx hb dX5_addBand_23 (lv_at hl 0 rfl) ?_
  refine ar_11 C hP k_4 k_5 eb_6 dX5_addBand_25 ?_
  obtain ⟨b_11, eb_11, h⟩ := rfm_some h
  refine gf_0_0 C hP k_7 eb_11 wl_125 dX5_addBand_26 ?_
  refine lv_aload_n hx hb dX5_addBand_29 rfl (lv_at hl 1 rfl) ?_
  refine gf_5_6 C hP k_1 wl_44 dX5_addBand_30 ?_
  refine lv_iload hx hb dX5_addBand_33 (lv_at hl 5 rfl) ?_
  obtain ⟨k_12, h⟩ := chk_some h
  obtain ⟨r_13, M_14, hc_15, h⟩ := cal_some h
  refine cl_Vv (As := [.int (gI M_9 a0 6), .int x4]) (rest := []) C (ct_X2_add hc_15) k_12 (by decide) rfl wl_214 wl_215 wl_216 wl_65 wl_217 hd_X2_add ⟨Nat.le_of_ble_eq_true rfl, Nat.le_of_ble_eq_true rfl⟩ ⟨rfl, rfl⟩ ⟨Nat.zero_le _, Nat.zero_le _⟩ rfl (Nat.le_of_ble_eq_true rfl) rfl hl.1 hP hD hS dX5_addBand_35 (fun H locs hP hD hS => ?_)
  refine lv_aload_n hx hb dX5_addBand_38 rfl (lv_at hl 1 rfl) ?_
  refine lv_dup hx hb dX5_addBand_39 rfl ?_
  refine gf_5_4 C hP k_1 wl_42 dX5_addBand_40 ?_
  refine lv_iconst (v := 1) hx hb dX5_addBand_43 (by decide) ?_
  refine lv_iadd hx hb dX5_addBand_44 ?_
  refine pf_5_4 C hP hD hS k_1 wl_42 dX5_addBand_45 (fun M_16 H locs eM_16 hP hD hS => ?_)
  replace h := bnd_at h eM_16
  refine lv_aload_n hx hb dX5_addBand_48 rfl (lv_at hl 1 rfl) ?_
  refine lv_dup hx hb dX5_addBand_49 rfl ?_
  refine gf_5_7 C hP k_1 wl_45 dX5_addBand_50 ?_
  refine lv_iload hx hb dX5_addBand_53 (lv_at hl 5 rfl) ?_
  refine lv_i2l hx hb dX5_addBand_55 rfl ?_
  refine lv_ladd hx hb dX5_addBand_56 ?_
  refine pf_5_7 C hP hD hS k_1 wl_45 dX5_addBand_57 (fun M_17 H locs eM_17 hP hD hS => ?_)
  replace h := bnd_at h eM_17
  refine lv_iload hx hb dX5_addBand_60 (lv_at hl 0 rfl) ?_
  cases h
  exact rt_i C hP hD hS dX5_addBand_62
abbrev rm_X5_isStakeAt : Room := { frames := 0, cells := 0, slots := 0, locals := 0 }
theorem hd_X5_isStakeAt : yX5_isStakeAt.cls = RX5 ∧ yX5_isStakeAt.cls ≠ "java/lang/invoke/MethodHandle" ∧ yX5_isStakeAt.cls ≠ "java/lang/invoke/VarHandle" ∧ (parseMethodDescriptor yX5_isStakeAt.desc).map (fun d => d.parameters.length) = some 2 := ⟨rfl, by decide +kernel, by decide +kernel, by decide +kernel⟩
set_option maxHeartbeats 4000000 in
set_option maxRecDepth 100000 in
theorem bs_X5_isStakeAt_50 {p : Program} {l : Launch} {e : Env} {s : State} {m : MethodId} {args : Array Value} {below : List Frame} {meth : Method} {c : Code} {D : va_G} {cy : Cy} {A : Nat → Prop} {T : Ty} {R : Rm} {r : Int32} {M9 : Mm} {a0 : Nat} {x1 : Int32} {x2 : Int32} {j2 : Int32 → Mm → Option (Int32 × Mm)} (C : Cx RX5 cX5_isStakeAt 4 (some .boolean) p s m args meth c D cy A)
    (hj2 : ∀ (x3 : Int32) (M : Mm) (H : Heap) (locs : List Loc), j2 x3 M = some (r, M9) → va_P D vwCl (WL cy T M R) H → va_D A (WL cy T M R) → va_S A s.heap H locs → ∀ ls : Array Slot, lv_has ls 4 [(0, .ref a0), (1, .int x1), (2, .int x2), (3, .int x3)] → W p l e rm_X5_isStakeAt s m args below meth c H locs 0 0 (MQ below (QcI D cy T M9 R A r) args s 0 0 A) (F0 m 2 ls [])) :
    ∀ (x3 : Int32) (M : Mm) (H : Heap) (locs : List Loc), fs_X5_isStakeAt_50 T R a0 x1 x2 j2 x3 M = some (r, M9) → va_P D vwCl (WL cy T M R) H → va_D A (WL cy T M R) → va_S A s.heap H locs → ∀ ls : Array Slot, lv_has ls 4 [(0, .ref a0), (1, .int x1), (2, .int x2), (3, .int x3)] → W p l e rm_X5_isStakeAt s m args below meth c H locs 0 0 (MQ below (QcI D cy T M9 R A r) args s 0 0 A) (F0 m 50 ls []) := by
  intro x3 M H locs h hP hD hS ls hl
  unfold fs_X5_isStakeAt_50 at h
  obtain ⟨hx, hb, hr, hml, hown, hts, hK, hA, hlk, hSt⟩ := id C
  obtain ⟨v_1, ev_1⟩ : ∃ y : Int32, y = (x3 + (1 : Int32)) := ⟨_, rfl⟩
  replace h := bnd_at h ev_1
  refine lv_iinc (v := v_1) (lv' := [(3, .int v_1), (0, .ref a0), (1, .int x1), (2, .int x2)]) hx hb dX5_isStakeAt_50 hl (k := 3) rfl (by rw [ev_1]; rfl) (by decide) rfl (fun ls hl => ?_)
  refine lv_goto (tgt := 2) hx hb dX5_isStakeAt_53 (by decide) ?_
  exact hj2 _ _ _ _ h hP hD hS _ (lv_sub hl [1, 2, 3, 0] rfl)
set_option maxHeartbeats 4000000 in
set_option maxRecDepth 100000 in
theorem bs_X5_isStakeAt_2 {p : Program} {l : Launch} {e : Env} {s : State} {m : MethodId} {args : Array Value} {below : List Frame} {meth : Method} {c : Code} {D : va_G} {cy : Cy} {A : Nat → Prop} {T : Ty} {R : Rm} {r : Int32} {M9 : Mm} {a0 : Nat} {x1 : Int32} {x2 : Int32} {j2 : Int32 → Mm → Option (Int32 × Mm)} (C : Cx RX5 cX5_isStakeAt 4 (some .boolean) p s m args meth c D cy A)
    (hj2 : ∀ (x3 : Int32) (M : Mm) (H : Heap) (locs : List Loc), j2 x3 M = some (r, M9) → va_P D vwCl (WL cy T M R) H → va_D A (WL cy T M R) → va_S A s.heap H locs → ∀ ls : Array Slot, lv_has ls 4 [(0, .ref a0), (1, .int x1), (2, .int x2), (3, .int x3)] → W p l e rm_X5_isStakeAt s m args below meth c H locs 0 0 (MQ below (QcI D cy T M9 R A r) args s 0 0 A) (F0 m 2 ls [])) :
    ∀ (x3 : Int32) (M : Mm) (H : Heap) (locs : List Loc), fs_X5_isStakeAt_2 T R a0 x1 x2 j2 x3 M = some (r, M9) → va_P D vwCl (WL cy T M R) H → va_D A (WL cy T M R) → va_S A s.heap H locs → ∀ ls : Array Slot, lv_has ls 4 [(0, .ref a0), (1, .int x1), (2, .int x2), (3, .int x3)] → W p l e rm_X5_isStakeAt s m args below meth c H locs 0 0 (MQ below (QcI D cy T M9 R A r) args s 0 0 A) (F0 m 2 ls []) := by
  intro x3 M H locs h hP hD hS ls hl
  unfold fs_X5_isStakeAt_2 at h
  obtain ⟨hx, hb, hr, hml, hown, hts, hK, hA, hlk, hSt⟩ := id C
  refine lv_iload_n hx hb dX5_isStakeAt_2 rfl (lv_at hl 3 rfl) ?_
  refine lv_aload_n hx hb dX5_isStakeAt_3 rfl (lv_at hl 0 rfl) ?_
  obtain ⟨k_2, h⟩ := chk_some h
  refine gf_5_5 C hP k_2 wl_43 dX5_isStakeAt_4 ?_
  refine lv_icmp_ge (tgt := 56) hx hb dX5_isStakeAt_7 (by decide) (fun c_3 => ?_) (fun c_3 => ?_)
  · replace h := ite_t h c_3
    refine lv_iconst (v := 0) hx hb dX5_isStakeAt_56 (by decide) ?_
    cases h
    exact rt_z C hP hD hS rfl dX5_isStakeAt_57
  · replace h := ite_f h c_3
    refine lv_aload_n hx hb dX5_isStakeAt_10 rfl (lv_at hl 0 rfl) ?_
    obtain ⟨b_4, eb_4, h⟩ := rfm_some h
    refine gf_5_2 C hP k_2 eb_4 wl_37 dX5_isStakeAt_11 ?_
    refine lv_iload_n hx hb dX5_isStakeAt_14 rfl (lv_at hl 3 rfl) ?_
    obtain ⟨k_5, h⟩ := chk_some h
    obtain ⟨k_6, h⟩ := chk_some h
    obtain ⟨b_7, eb_7, h⟩ := rfm_some h
    refine ar_12 C hP k_5 k_6 eb_7 dX5_isStakeAt_15 ?_
    obtain ⟨k_8, h⟩ := chk_some h
    refine gf_3_4 C hP k_8 wl_120 dX5_isStakeAt_16 ?_
    refine lv_if_ne (tgt := 50) hx hb dX5_isStakeAt_19 (by decide) (fun c_9 => ?_) (fun c_9 => ?_)
    · replace h := ite_f h c_9
      exact (bs_X5_isStakeAt_50 C hj2) _ _ _ _ h hP hD hS _ (lv_sub hl [0, 1, 2, 3] rfl)
    · replace h := ite_t h c_9
      refine lv_aload_n hx hb dX5_isStakeAt_22 rfl (lv_at hl 0 rfl) ?_
      refine gf_5_2 C hP k_2 eb_4 wl_37 dX5_isStakeAt_23 ?_
      refine lv_iload_n hx hb dX5_isStakeAt_26 rfl (lv_at hl 3 rfl) ?_
      refine ar_12 C hP k_5 k_6 eb_7 dX5_isStakeAt_27 ?_
      refine gf_3_0 C hP k_8 wl_317 dX5_isStakeAt_28 ?_
      refine lv_iload_n hx hb dX5_isStakeAt_31 rfl (lv_at hl 1 rfl) ?_
      refine lv_icmp_ne (tgt := 50) hx hb dX5_isStakeAt_32 (by decide) (fun c_10 => ?_) (fun c_10 => ?_)
      · replace h := ite_f h c_10
        exact (bs_X5_isStakeAt_50 C hj2) _ _ _ _ h hP hD hS _ (lv_sub hl [0, 1, 2, 3] rfl)
      · replace h := ite_t h c_10
        refine lv_aload_n hx hb dX5_isStakeAt_35 rfl (lv_at hl 0 rfl) ?_
        refine gf_5_2 C hP k_2 eb_4 wl_37 dX5_isStakeAt_36 ?_
        refine lv_iload_n hx hb dX5_isStakeAt_39 rfl (lv_at hl 3 rfl) ?_
        refine ar_12 C hP k_5 k_6 eb_7 dX5_isStakeAt_40 ?_
        refine gf_3_1 C hP k_8 wl_318 dX5_isStakeAt_41 ?_
        refine lv_iload_n hx hb dX5_isStakeAt_44 rfl (lv_at hl 2 rfl) ?_
        refine lv_icmp_ne (tgt := 50) hx hb dX5_isStakeAt_45 (by decide) (fun c_11 => ?_) (fun c_11 => ?_)
        · replace h := ite_f h c_11
          exact (bs_X5_isStakeAt_50 C hj2) _ _ _ _ h hP hD hS _ (lv_sub hl [0, 1, 2, 3] rfl)
        · replace h := ite_t h c_11
          refine lv_iconst (v := 1) hx hb dX5_isStakeAt_48 (by decide) ?_
          cases h
          exact rt_z C hP hD hS rfl dX5_isStakeAt_49
theorem bt_X5_isStakeAt_2 {p : Program} {l : Launch} {e : Env} {s : State} {m : MethodId} {args : Array Value} {below : List Frame} {meth : Method} {c : Code} {D : va_G} {cy : Cy} {A : Nat → Prop} {T : Ty} {R : Rm} {r : Int32} {M9 : Mm} {a0 : Nat} {x1 : Int32} {x2 : Int32} (C : Cx RX5 cX5_isStakeAt 4 (some .boolean) p s m args meth c D cy A) :
    ∀ n : Nat, ∀ (x3 : Int32) (M : Mm) (H : Heap) (locs : List Loc), fb_X5_isStakeAt_2 T R a0 x1 x2 n x3 M = some (r, M9) → va_P D vwCl (WL cy T M R) H → va_D A (WL cy T M R) → va_S A s.heap H locs → ∀ ls : Array Slot, lv_has ls 4 [(0, .ref a0), (1, .int x1), (2, .int x2), (3, .int x3)] → W p l e rm_X5_isStakeAt s m args below meth c H locs 0 0 (MQ below (QcI D cy T M9 R A r) args s 0 0 A) (F0 m 2 ls []) := by
  intro n
  induction n with
  | zero =>
    intro _ _ H locs h
    exact absurd (show (none : Option (Int32 × Mm)) = some _ from h) (by simp)
  | succ n ih => exact fun u0 u1 H locs h => bs_X5_isStakeAt_2 (a0 := a0) (x1 := x1) (x2 := x2) C ih u0 u1 H locs h
set_option maxHeartbeats 4000000 in
set_option maxRecDepth 100000 in
theorem ct_X5_isStakeAt {l : Launch} {D : va_G} {cy : Cy} {T : Ty} {R : Rm} {a0 : Nat} {x1 : Int32} {x2 : Int32} {M : Mm} {r : Int32} {M9 : Mm} (h : fn_X5_isStakeAt T R a0 x1 x2 M = some (r, M9)) : Ct QcI l yX5_isStakeAt cX5_isStakeAt 4 (some .boolean) rm_X5_isStakeAt D cy T M R [.ref a0, .int x1, .int x2] M9 R r := by
  unfold fn_X5_isStakeAt at h
  refine enter (plainFor_of_name (by decide +kernel)) (Nat.le_of_ble_eq_true rfl) (fun p e s m args below meth c A C hP hD hS ls hl => ?_)
  have hl : lv_has ls 4 [(0, .ref a0), (1, .int x1), (2, .int x2)] := hl
  obtain ⟨hx, hb, hr, hml, hown, hts, hK, hA, hlk, hSt⟩ := id C
  refine lv_iconst (v := 0) hx hb dX5_isStakeAt_0 (by decide) ?_
  refine lv_istore_n (lv' := [(3, .int (0 : Int32)), (0, .ref a0), (1, .int x1), (2, .int x2)]) hx hb dX5_isStakeAt_1 rfl hl (by decide) rfl (fun ls hl => ?_)
  exact (bt_X5_isStakeAt_2 C FU) _ _ _ _ h hP hD hS _ (lv_sub hl [1, 2, 3, 0] rfl)
abbrev rm_X5_addStake : Room := { frames := 1, cells := 0, slots := 0, locals := 23 }
theorem hd_X5_addStake : yX5_addStake.cls = RX5 ∧ yX5_addStake.cls ≠ "java/lang/invoke/MethodHandle" ∧ yX5_addStake.cls ≠ "java/lang/invoke/VarHandle" ∧ (parseMethodDescriptor yX5_addStake.desc).map (fun d => d.parameters.length) = some 3 := ⟨rfl, by decide +kernel, by decide +kernel, by decide +kernel⟩
set_option maxHeartbeats 4000000 in
set_option maxRecDepth 100000 in
theorem ct_X5_addStake {l : Launch} {D : va_G} {cy : Cy} {T : Ty} {R : Rm} {a0 : Nat} {x1 : Int32} {x2 : Int32} {x3 : Int32} {M : Mm} {r : Int32} {M9 : Mm} (h : fn_X5_addStake T R a0 x1 x2 x3 M = some (r, M9)) : Ct QcI l yX5_addStake cX5_addStake 5 (some .int) rm_X5_addStake D cy T M R [.ref a0, .int x1, .int x2, .int x3] M9 R r := by
  unfold fn_X5_addStake at h
  refine enter (plainFor_of_name (by decide +kernel)) (Nat.le_of_ble_eq_true rfl) (fun p e s m args below meth c A C hP hD hS ls hl => ?_)
  have hl : lv_has ls 5 [(0, .ref a0), (1, .int x1), (2, .int x2), (3, .int x3)] := hl
  obtain ⟨hx, hb, hr, hml, hown, hts, hK, hA, hlk, hSt⟩ := id C
  refine lv_aload_n hx hb dX5_addStake_0 rfl (lv_at hl 0 rfl) ?_
  obtain ⟨k_1, h⟩ := chk_some h
  refine gf_5_5 C hP k_1 wl_43 dX5_addStake_1 ?_
  refine lv_topi (fun v_2 ev_2 => ?_)
  replace h := bnd_at h ev_2
  refine lv_istore (lv' := [(4, .int v_2), (0, .ref a0), (1, .int x1), (2, .int x2), (3, .int x3)]) hx hb dX5_addStake_4 hl (by decide) rfl (fun ls hl => ?_)
  refine lv_aload_n hx hb dX5_addStake_6 rfl (lv_at hl 1 rfl) ?_
  obtain ⟨b_3, eb_3, h⟩ := rfm_some h
  refine gf_5_2 C hP k_1 eb_3 wl_37 dX5_addStake_7 ?_
  refine lv_iload hx hb dX5_addStake_10 (lv_at hl 0 rfl) ?_
  obtain ⟨k_4, h⟩ := chk_some h
  obtain ⟨k_5, h⟩ := chk_some h
  obtain ⟨b_6, eb_6, h⟩ := rfm_some h
  refine ar_12 C hP k_4 k_5 eb_6 dX5_addStake_12 ?_
  refine lv_iload_n hx hb dX5_addStake_13 rfl (lv_at hl 2 rfl) ?_
  refine lv_iload_n hx hb dX5_addStake_14 rfl (lv_at hl 3 rfl) ?_
  refine lv_iload_n hx hb dX5_addStake_15 rfl (lv_at hl 4 rfl) ?_
  obtain ⟨k_7, h⟩ := chk_some h
  obtain ⟨r_8, M_9, hc_10, h⟩ := cal_some h
  refine cl_Vv (As := [.int x1, .int x2, .int x3]) (rest := []) C (ct_X3_begin hc_10) k_7 (by decide) rfl wl_323 wl_324 wl_325 wl_52 wl_326 hd_X3_begin ⟨Nat.le_of_ble_eq_true rfl, Nat.le_of_ble_eq_true rfl⟩ ⟨rfl, rfl⟩ ⟨Nat.zero_le _, Nat.zero_le _⟩ rfl (Nat.le_of_ble_eq_true rfl) rfl hl.1 hP hD hS dX5_addStake_16 (fun H locs hP hD hS => ?_)
  refine lv_aload_n hx hb dX5_addStake_19 rfl (lv_at hl 1 rfl) ?_
  refine lv_dup hx hb dX5_addStake_20 rfl ?_
  refine gf_5_5 C hP k_1 wl_43 dX5_addStake_21 ?_
  refine lv_iconst (v := 1) hx hb dX5_addStake_24 (by decide) ?_
  refine lv_iadd hx hb dX5_addStake_25 ?_
  refine pf_5_5 C hP hD hS k_1 wl_43 dX5_addStake_26 (fun M_11 H locs eM_11 hP hD hS => ?_)
  replace h := bnd_at h eM_11
  refine lv_iload hx hb dX5_addStake_29 (lv_at hl 0 rfl) ?_
  cases h
  exact rt_i C hP hD hS dX5_addStake_31
abbrev rm_X5_removeStake : Room := { frames := 0, cells := 0, slots := 0, locals := 0 }
theorem hd_X5_removeStake : yX5_removeStake.cls = RX5 ∧ yX5_removeStake.cls ≠ "java/lang/invoke/MethodHandle" ∧ yX5_removeStake.cls ≠ "java/lang/invoke/VarHandle" ∧ (parseMethodDescriptor yX5_removeStake.desc).map (fun d => d.parameters.length) = some 1 := ⟨rfl, by decide +kernel, by decide +kernel, by decide +kernel⟩
set_option maxHeartbeats 4000000 in
set_option maxRecDepth 100000 in
theorem bs_X5_removeStake_9 {p : Program} {l : Launch} {e : Env} {s : State} {m : MethodId} {args : Array Value} {below : List Frame} {meth : Method} {c : Code} {D : va_G} {cy : Cy} {A : Nat → Prop} {T : Ty} {R9 : Rm} {r : Int32} {M9 : Mm} {a0 : Nat} {x1 : Int32} {j9 : Nat → Int32 → Mm → Rm → Option (Int32 × Mm × Rm)} (C : Cx RX5 cX5_removeStake 4 (some .int) p s m args meth c D cy A)
    (hj9 : ∀ (a2 : Nat) (x3 : Int32) (M : Mm) (R : Rm) (H : Heap) (locs : List Loc), j9 a2 x3 M R = some (r, M9, R9) → va_P D vwCl (WL cy T M R) H → va_D A (WL cy T M R) → va_S A s.heap H locs → ∀ ls : Array Slot, lv_has ls 4 [(0, .ref a0), (2, .ref a2), (3, .int x3)] → W p l e rm_X5_removeStake s m args below meth c H locs 0 0 (MQ below (QcI D cy T M9 R9 A r) args s 0 0 A) (F0 m 9 ls [])) :
    ∀ (a2 : Nat) (x3 : Int32) (M : Mm) (R : Rm) (H : Heap) (locs : List Loc), fs_X5_removeStake_9 T a0 x1 j9 a2 x3 M R = some (r, M9, R9) → va_P D vwCl (WL cy T M R) H → va_D A (WL cy T M R) → va_S A s.heap H locs → ∀ ls : Array Slot, lv_has ls 4 [(0, .ref a0), (2, .ref a2), (3, .int x3)] → W p l e rm_X5_removeStake s m args below meth c H locs 0 0 (MQ below (QcI D cy T M9 R9 A r) args s 0 0 A) (F0 m 9 ls []) := by
  intro a2 x3 M R H locs h hP hD hS ls hl
  unfold fs_X5_removeStake_9 at h
  obtain ⟨hx, hb, hr, hml, hown, hts, hK, hA, hlk, hSt⟩ := id C
  refine lv_iload_n hx hb dX5_removeStake_9 rfl (lv_at hl 2 rfl) ?_
  refine lv_iconst (v := 1) hx hb dX5_removeStake_10 (by decide) ?_
  refine lv_iadd hx hb dX5_removeStake_11 ?_
  refine lv_aload_n hx hb dX5_removeStake_12 rfl (lv_at hl 0 rfl) ?_
  obtain ⟨k_1, h⟩ := chk_some h
  refine gf_5_5 C hP k_1 wl_43 dX5_removeStake_13 ?_
  refine lv_icmp_ge (tgt := 39) hx hb dX5_removeStake_16 (by decide) (fun c_2 => ?_) (fun c_2 => ?_)
  · replace h := ite_t h c_2
    refine lv_aload_n hx hb dX5_removeStake_39 rfl (lv_at hl 0 rfl) ?_
    refine lv_dup hx hb dX5_removeStake_40 rfl ?_
    refine gf_5_5 C hP k_1 wl_43 dX5_removeStake_41 ?_
    refine lv_iconst (v := 1) hx hb dX5_removeStake_44 (by decide) ?_
    refine lv_isub hx hb dX5_removeStake_45 ?_
    refine pf_5_5 C hP hD hS k_1 wl_43 dX5_removeStake_46 (fun M_3 H locs eM_3 hP hD hS => ?_)
    replace h := bnd_at h eM_3
    refine lv_aload_n hx hb dX5_removeStake_49 rfl (lv_at hl 0 rfl) ?_
    obtain ⟨b_4, eb_4, h⟩ := rfm_some h
    refine gf_5_2 C hP k_1 eb_4 wl_37 dX5_removeStake_50 ?_
    refine lv_aload_n hx hb dX5_removeStake_53 rfl (lv_at hl 0 rfl) ?_
    refine gf_5_5 C hP k_1 wl_43 dX5_removeStake_54 ?_
    refine lv_aload_n hx hb dX5_removeStake_57 rfl (lv_at hl 1 rfl) ?_
    obtain ⟨k_5, h⟩ := chk_some h
    obtain ⟨k_6, h⟩ := chk_some h
    obtain ⟨k_7, h⟩ := chk_some h
    refine aw_12 C hP hD hS k_5 k_6 k_7 dX5_removeStake_58 (fun R_8 H locs eR_8 hP hD hS => ?_)
    replace h := bnd_at h eR_8
    refine lv_aload_n hx hb dX5_removeStake_59 rfl (lv_at hl 1 rfl) ?_
    refine gf_3_3 C hP k_7 wl_339 dX5_removeStake_60 ?_
    cases h
    exact rt_i C hP hD hS dX5_removeStake_63
  · replace h := ite_f h c_2
    refine lv_aload_n hx hb dX5_removeStake_19 rfl (lv_at hl 0 rfl) ?_
    obtain ⟨b_9, eb_9, h⟩ := rfm_some h
    refine gf_5_2 C hP k_1 eb_9 wl_37 dX5_removeStake_20 ?_
    refine lv_iload_n hx hb dX5_removeStake_23 rfl (lv_at hl 2 rfl) ?_
    refine lv_aload_n hx hb dX5_removeStake_24 rfl (lv_at hl 0 rfl) ?_
    refine gf_5_2 C hP k_1 eb_9 wl_37 dX5_removeStake_25 ?_
    refine lv_iload_n hx hb dX5_removeStake_28 rfl (lv_at hl 2 rfl) ?_
    refine lv_iconst (v := 1) hx hb dX5_removeStake_29 (by decide) ?_
    refine lv_iadd hx hb dX5_removeStake_30 ?_
    obtain ⟨k_10, h⟩ := chk_some h
    obtain ⟨k_11, h⟩ := chk_some h
    obtain ⟨b_12, eb_12, h⟩ := rfm_some h
    refine ar_12 C hP k_10 k_11 eb_12 dX5_removeStake_31 ?_
    obtain ⟨k_13, h⟩ := chk_some h
    obtain ⟨k_14, h⟩ := chk_some h
    refine aw_12 C hP hD hS k_10 k_13 k_14 dX5_removeStake_32 (fun R_15 H locs eR_15 hP hD hS => ?_)
    replace h := bnd_at h eR_15
    obtain ⟨v_16, ev_16⟩ : ∃ y : Int32, y = (x3 + (1 : Int32)) := ⟨_, rfl⟩
    replace h := bnd_at h ev_16
    refine lv_iinc (v := v_16) (lv' := [(3, .int v_16), (0, .ref a0), (2, .ref a2)]) hx hb dX5_removeStake_33 hl (k := 2) rfl (by rw [ev_16]; rfl) (by decide) rfl (fun ls hl => ?_)
    refine lv_goto (tgt := 9) hx hb dX5_removeStake_36 (by decide) ?_
    exact hj9 _ _ _ _ _ _ h hP hD hS _ (lv_sub hl [1, 2, 0] rfl)
theorem bt_X5_removeStake_9 {p : Program} {l : Launch} {e : Env} {s : State} {m : MethodId} {args : Array Value} {below : List Frame} {meth : Method} {c : Code} {D : va_G} {cy : Cy} {A : Nat → Prop} {T : Ty} {R9 : Rm} {r : Int32} {M9 : Mm} {a0 : Nat} {x1 : Int32} (C : Cx RX5 cX5_removeStake 4 (some .int) p s m args meth c D cy A) :
    ∀ n : Nat, ∀ (a2 : Nat) (x3 : Int32) (M : Mm) (R : Rm) (H : Heap) (locs : List Loc), fb_X5_removeStake_9 T a0 x1 n a2 x3 M R = some (r, M9, R9) → va_P D vwCl (WL cy T M R) H → va_D A (WL cy T M R) → va_S A s.heap H locs → ∀ ls : Array Slot, lv_has ls 4 [(0, .ref a0), (2, .ref a2), (3, .int x3)] → W p l e rm_X5_removeStake s m args below meth c H locs 0 0 (MQ below (QcI D cy T M9 R9 A r) args s 0 0 A) (F0 m 9 ls []) := by
  intro n
  induction n with
  | zero =>
    intro _ _ _ _ H locs h
    exact absurd (show (none : Option (Int32 × Mm × Rm)) = some _ from h) (by simp)
  | succ n ih => exact fun u0 u1 u2 u3 H locs h => bs_X5_removeStake_9 (a0 := a0) (x1 := x1) C ih u0 u1 u2 u3 H locs h
set_option maxHeartbeats 4000000 in
set_option maxRecDepth 100000 in
theorem ct_X5_removeStake {l : Launch} {D : va_G} {cy : Cy} {T : Ty} {R : Rm} {a0 : Nat} {x1 : Int32} {M : Mm} {r : Int32} {M9 : Mm} {R9 : Rm} (h : fn_X5_removeStake T a0 x1 M R = some (r, M9, R9)) : Ct QcI l yX5_removeStake cX5_removeStake 4 (some .int) rm_X5_removeStake D cy T M R [.ref a0, .int x1] M9 R9 r := by
  unfold fn_X5_removeStake at h
  refine enter (plainFor_of_name (by decide +kernel)) (Nat.le_of_ble_eq_true rfl) (fun p e s m args below meth c A C hP hD hS ls hl => ?_)
  have hl : lv_has ls 4 [(0, .ref a0), (1, .int x1)] := hl
  obtain ⟨hx, hb, hr, hml, hown, hts, hK, hA, hlk, hSt⟩ := id C
  refine lv_aload_n hx hb dX5_removeStake_0 rfl (lv_at hl 0 rfl) ?_
  obtain ⟨k_17, h⟩ := chk_some h
  obtain ⟨b_18, eb_18, h⟩ := rfm_some h
  refine gf_5_2 C hP k_17 eb_18 wl_37 dX5_removeStake_1 ?_
  refine lv_iload_n hx hb dX5_removeStake_4 rfl (lv_at hl 1 rfl) ?_
  obtain ⟨k_19, h⟩ := chk_some h
  obtain ⟨k_20, h⟩ := chk_some h
  obtain ⟨b_21, eb_21, h⟩ := rfm_some h
  refine ar_12 C hP k_19 k_20 eb_21 dX5_removeStake_5 ?_
  refine lv_astore_n (lv' := [(2, .ref b_21), (0, .ref a0), (1, .int x1)]) hx hb dX5_removeStake_6 rfl hl (by decide) rfl (fun ls hl => ?_)
  refine lv_iload_n hx hb dX5_removeStake_7 rfl (lv_at hl 2 rfl) ?_
  refine lv_istore_n (lv' := [(3, .int x1), (2, .ref b_21), (0, .ref a0), (1, .int x1)]) hx hb dX5_removeStake_8 rfl hl (by decide) rfl (fun ls hl => ?_)
  exact (bt_X5_removeStake_9 C FU) _ _ _ _ _ _ h hP hD hS _ (lv_sub hl [2, 1, 0] rfl)
abbrev rm_X5_standingStakes : Room := { frames := 0, cells := 0, slots := 0, locals := 0 }
theorem hd_X5_standingStakes : yX5_standingStakes.cls = RX5 ∧ yX5_standingStakes.cls ≠ "java/lang/invoke/MethodHandle" ∧ yX5_standingStakes.cls ≠ "java/lang/invoke/VarHandle" ∧ (parseMethodDescriptor yX5_standingStakes.desc).map (fun d => d.parameters.length) = some 0 := ⟨rfl, by decide +kernel, by decide +kernel, by decide +kernel⟩
set_option maxHeartbeats 4000000 in
set_option maxRecDepth 100000 in
theorem bs_X5_standingStakes_27 {p : Program} {l : Launch} {e : Env} {s : State} {m : MethodId} {args : Array Value} {below : List Frame} {meth : Method} {c : Code} {D : va_G} {cy : Cy} {A : Nat → Prop} {T : Ty} {R : Rm} {r : Int32} {M9 : Mm} {a0 : Nat} {j4 : Int32 → Int32 → Mm → Option (Int32 × Mm)} (C : Cx RX5 cX5_standingStakes 3 (some .int) p s m args meth c D cy A)
    (hj4 : ∀ (x1 : Int32) (x2 : Int32) (M : Mm) (H : Heap) (locs : List Loc), j4 x1 x2 M = some (r, M9) → va_P D vwCl (WL cy T M R) H → va_D A (WL cy T M R) → va_S A s.heap H locs → ∀ ls : Array Slot, lv_has ls 3 [(0, .ref a0), (1, .int x1), (2, .int x2)] → W p l e rm_X5_standingStakes s m args below meth c H locs 0 0 (MQ below (QcI D cy T M9 R A r) args s 0 0 A) (F0 m 4 ls [])) :
    ∀ (x1 : Int32) (x2 : Int32) (M : Mm) (H : Heap) (locs : List Loc), fs_X5_standingStakes_27 T R a0 j4 x1 x2 M = some (r, M9) → va_P D vwCl (WL cy T M R) H → va_D A (WL cy T M R) → va_S A s.heap H locs → ∀ ls : Array Slot, lv_has ls 3 [(0, .ref a0), (1, .int x1), (2, .int x2)] → W p l e rm_X5_standingStakes s m args below meth c H locs 0 0 (MQ below (QcI D cy T M9 R A r) args s 0 0 A) (F0 m 27 ls []) := by
  intro x1 x2 M H locs h hP hD hS ls hl
  unfold fs_X5_standingStakes_27 at h
  obtain ⟨hx, hb, hr, hml, hown, hts, hK, hA, hlk, hSt⟩ := id C
  obtain ⟨v_1, ev_1⟩ : ∃ y : Int32, y = (x2 + (1 : Int32)) := ⟨_, rfl⟩
  replace h := bnd_at h ev_1
  refine lv_iinc (v := v_1) (lv' := [(2, .int v_1), (0, .ref a0), (1, .int x1)]) hx hb dX5_standingStakes_27 hl (k := 2) rfl (by rw [ev_1]; rfl) (by decide) rfl (fun ls hl => ?_)
  refine lv_goto (tgt := 4) hx hb dX5_standingStakes_30 (by decide) ?_
  exact hj4 _ _ _ _ _ h hP hD hS _ (lv_sub hl [1, 2, 0] rfl)
set_option maxHeartbeats 4000000 in
set_option maxRecDepth 100000 in
theorem bs_X5_standingStakes_4 {p : Program} {l : Launch} {e : Env} {s : State} {m : MethodId} {args : Array Value} {below : List Frame} {meth : Method} {c : Code} {D : va_G} {cy : Cy} {A : Nat → Prop} {T : Ty} {R : Rm} {r : Int32} {M9 : Mm} {a0 : Nat} {j4 : Int32 → Int32 → Mm → Option (Int32 × Mm)} (C : Cx RX5 cX5_standingStakes 3 (some .int) p s m args meth c D cy A)
    (hj4 : ∀ (x1 : Int32) (x2 : Int32) (M : Mm) (H : Heap) (locs : List Loc), j4 x1 x2 M = some (r, M9) → va_P D vwCl (WL cy T M R) H → va_D A (WL cy T M R) → va_S A s.heap H locs → ∀ ls : Array Slot, lv_has ls 3 [(0, .ref a0), (1, .int x1), (2, .int x2)] → W p l e rm_X5_standingStakes s m args below meth c H locs 0 0 (MQ below (QcI D cy T M9 R A r) args s 0 0 A) (F0 m 4 ls [])) :
    ∀ (x1 : Int32) (x2 : Int32) (M : Mm) (H : Heap) (locs : List Loc), fs_X5_standingStakes_4 T R a0 j4 x1 x2 M = some (r, M9) → va_P D vwCl (WL cy T M R) H → va_D A (WL cy T M R) → va_S A s.heap H locs → ∀ ls : Array Slot, lv_has ls 3 [(0, .ref a0), (1, .int x1), (2, .int x2)] → W p l e rm_X5_standingStakes s m args below meth c H locs 0 0 (MQ below (QcI D cy T M9 R A r) args s 0 0 A) (F0 m 4 ls []) := by
  intro x1 x2 M H locs h hP hD hS ls hl
  unfold fs_X5_standingStakes_4 at h
  obtain ⟨hx, hb, hr, hml, hown, hts, hK, hA, hlk, hSt⟩ := id C
  refine lv_iload_n hx hb dX5_standingStakes_4 rfl (lv_at hl 2 rfl) ?_
  refine lv_aload_n hx hb dX5_standingStakes_5 rfl (lv_at hl 0 rfl) ?_
  obtain ⟨k_2, h⟩ := chk_some h
  refine gf_5_5 C hP k_2 wl_43 dX5_standingStakes_6 ?_
  refine lv_icmp_ge (tgt := 33) hx hb dX5_standingStakes_9 (by decide) (fun c_3 => ?_) (fun c_3 => ?_)
  · replace h := ite_t h c_3
    refine lv_iload_n hx hb dX5_standingStakes_33 rfl (lv_at hl 1 rfl) ?_
    cases h
    exact rt_i C hP hD hS dX5_standingStakes_34
  · replace h := ite_f h c_3
    refine lv_aload_n hx hb dX5_standingStakes_12 rfl (lv_at hl 0 rfl) ?_
    obtain ⟨b_4, eb_4, h⟩ := rfm_some h
    refine gf_5_2 C hP k_2 eb_4 wl_37 dX5_standingStakes_13 ?_
    refine lv_iload_n hx hb dX5_standingStakes_16 rfl (lv_at hl 2 rfl) ?_
    obtain ⟨k_5, h⟩ := chk_some h
    obtain ⟨k_6, h⟩ := chk_some h
    obtain ⟨b_7, eb_7, h⟩ := rfm_some h
    refine ar_12 C hP k_5 k_6 eb_7 dX5_standingStakes_17 ?_
    obtain ⟨k_8, h⟩ := chk_some h
    refine gf_3_4 C hP k_8 wl_120 dX5_standingStakes_18 ?_
    refine lv_if_ne (tgt := 27) hx hb dX5_standingStakes_21 (by decide) (fun c_9 => ?_) (fun c_9 => ?_)
    · replace h := ite_f h c_9
      exact (bs_X5_standingStakes_27 C hj4) _ _ _ _ _ h hP hD hS _ (lv_sub hl [0, 1, 2] rfl)
    · replace h := ite_t h c_9
      obtain ⟨v_10, ev_10⟩ : ∃ y : Int32, y = (x1 + (1 : Int32)) := ⟨_, rfl⟩
      replace h := bnd_at h ev_10
      refine lv_iinc (v := v_10) (lv' := [(1, .int v_10), (0, .ref a0), (2, .int x2)]) hx hb dX5_standingStakes_24 hl (k := 1) rfl (by rw [ev_10]; rfl) (by decide) rfl (fun ls hl => ?_)
      exact (bs_X5_standingStakes_27 C hj4) _ _ _ _ _ h hP hD hS _ (lv_sub hl [1, 0, 2] rfl)
theorem bt_X5_standingStakes_4 {p : Program} {l : Launch} {e : Env} {s : State} {m : MethodId} {args : Array Value} {below : List Frame} {meth : Method} {c : Code} {D : va_G} {cy : Cy} {A : Nat → Prop} {T : Ty} {R : Rm} {r : Int32} {M9 : Mm} {a0 : Nat} (C : Cx RX5 cX5_standingStakes 3 (some .int) p s m args meth c D cy A) :
    ∀ n : Nat, ∀ (x1 : Int32) (x2 : Int32) (M : Mm) (H : Heap) (locs : List Loc), fb_X5_standingStakes_4 T R a0 n x1 x2 M = some (r, M9) → va_P D vwCl (WL cy T M R) H → va_D A (WL cy T M R) → va_S A s.heap H locs → ∀ ls : Array Slot, lv_has ls 3 [(0, .ref a0), (1, .int x1), (2, .int x2)] → W p l e rm_X5_standingStakes s m args below meth c H locs 0 0 (MQ below (QcI D cy T M9 R A r) args s 0 0 A) (F0 m 4 ls []) := by
  intro n
  induction n with
  | zero =>
    intro _ _ _ H locs h
    exact absurd (show (none : Option (Int32 × Mm)) = some _ from h) (by simp)
  | succ n ih => exact fun u0 u1 u2 H locs h => bs_X5_standingStakes_4 (a0 := a0) C ih u0 u1 u2 H locs h
set_option maxHeartbeats 4000000 in
set_option maxRecDepth 100000 in
theorem ct_X5_standingStakes {l : Launch} {D : va_G} {cy : Cy} {T : Ty} {R : Rm} {a0 : Nat} {M : Mm} {r : Int32} {M9 : Mm} (h : fn_X5_standingStakes T R a0 M = some (r, M9)) : Ct QcI l yX5_standingStakes cX5_standingStakes 3 (some .int) rm_X5_standingStakes D cy T M R [.ref a0] M9 R r := by
  unfold fn_X5_standingStakes at h
  refine enter (plainFor_of_name (by decide +kernel)) (Nat.le_of_ble_eq_true rfl) (fun p e s m args below meth c A C hP hD hS ls hl => ?_)
  have hl : lv_has ls 3 [(0, .ref a0)] := hl
  obtain ⟨hx, hb, hr, hml, hown, hts, hK, hA, hlk, hSt⟩ := id C
  refine lv_iconst (v := 0) hx hb dX5_standingStakes_0 (by decide) ?_
  refine lv_istore_n (lv' := [(1, .int (0 : Int32)), (0, .ref a0)]) hx hb dX5_standingStakes_1 rfl hl (by decide) rfl (fun ls hl => ?_)
  refine lv_iconst (v := 0) hx hb dX5_standingStakes_2 (by decide) ?_
  refine lv_istore_n (lv' := [(2, .int (0 : Int32)), (1, .int (0 : Int32)), (0, .ref a0)]) hx hb dX5_standingStakes_3 rfl hl (by decide) rfl (fun ls hl => ?_)
  exact (bt_X5_standingStakes_4 C FU) _ _ _ _ _ h hP hD hS _ (lv_sub hl [2, 1, 0] rfl)
abbrev rm_X5_snowAt : Room := { frames := 1, cells := 0, slots := 0, locals := 22 }
theorem hd_X5_snowAt : yX5_snowAt.cls = RX5 ∧ yX5_snowAt.cls ≠ "java/lang/invoke/MethodHandle" ∧ yX5_snowAt.cls ≠ "java/lang/invoke/VarHandle" ∧ (parseMethodDescriptor yX5_snowAt.desc).map (fun d => d.parameters.length) = some 1 := ⟨rfl, by decide +kernel, by decide +kernel, by decide +kernel⟩
set_option maxHeartbeats 4000000 in
set_option maxRecDepth 100000 in
theorem ct_X5_snowAt {l : Launch} {D : va_G} {cy : Cy} {T : Ty} {R : Rm} {a0 : Nat} {x1 : Int32} {M : Mm} {r : Int32} {M9 : Mm} (h : fn_X5_snowAt T R a0 x1 M = some (r, M9)) : Ct QcI l yX5_snowAt cX5_snowAt 3 (some .int) rm_X5_snowAt D cy T M R [.ref a0, .int x1] M9 R r := by
  unfold fn_X5_snowAt at h
  refine enter (plainFor_of_name (by decide +kernel)) (Nat.le_of_ble_eq_true rfl) (fun p e s m args below meth c A C hP hD hS ls hl => ?_)
  have hl : lv_has ls 3 [(0, .ref a0), (1, .int x1)] := hl
  obtain ⟨hx, hb, hr, hml, hown, hts, hK, hA, hlk, hSt⟩ := id C
  refine lv_aload_n hx hb dX5_snowAt_0 rfl (lv_at hl 0 rfl) ?_
  obtain ⟨k_1, h⟩ := chk_some h
  obtain ⟨b_2, eb_2, h⟩ := rfm_some h
  refine gf_5_0 C hP k_1 eb_2 wl_33 dX5_snowAt_1 ?_
  refine lv_iconst (v := 1) hx hb dX5_snowAt_4 (by decide) ?_
  obtain ⟨k_3, h⟩ := chk_some h
  obtain ⟨k_4, h⟩ := chk_some h
  refine ar_9 C hP k_3 k_4 dX5_snowAt_5 ?_
  refine lv_iload_n hx hb dX5_snowAt_6 rfl (lv_at hl 1 rfl) ?_
  refine lv_aload_n hx hb dX5_snowAt_7 rfl (lv_at hl 0 rfl) ?_
  refine gf_5_0 C hP k_1 eb_2 wl_33 dX5_snowAt_8 ?_
  refine lv_iconst (v := 4) hx hb dX5_snowAt_11 (by decide) ?_
  obtain ⟨k_5, h⟩ := chk_some h
  refine ar_9 C hP k_3 k_5 dX5_snowAt_12 ?_
  refine lv_isub hx hb dX5_snowAt_13 ?_
  refine lv_imul hx hb dX5_snowAt_14 ?_
  refine lv_bipush (v := 100) hx hb dX5_snowAt_15 (by decide) ?_
  obtain ⟨r_6, M_7, hc_8, h⟩ := cal_some h
  refine cl_Si (As := [.int ((gI M b_2 (1 : Int32).toNatClampNeg) * (x1 - (gI M b_2 (4 : Int32).toNatClampNeg))), .int (100 : Int32)]) (rest := []) C (ct_J9_floorDiv_7cf53 hc_8) wl_255 wl_256 wl_257 wl_258 hd_J9_floorDiv_7cf53 ⟨Nat.le_of_ble_eq_true rfl, Nat.le_of_ble_eq_true rfl⟩ ⟨rfl, rfl⟩ ⟨Nat.zero_le _, Nat.zero_le _⟩ rfl (Nat.le_of_ble_eq_true rfl) rfl hl.1 hP hD hS dX5_snowAt_17 (fun H locs hP hD hS => ?_)
  refine lv_istore_n (lv' := [(2, .int r_6), (0, .ref a0), (1, .int x1)]) hx hb dX5_snowAt_20 rfl hl (by decide) rfl (fun ls hl => ?_)
  refine lv_iconst (v := 0) hx hb dX5_snowAt_21 (by decide) ?_
  refine lv_aload_n hx hb dX5_snowAt_22 rfl (lv_at hl 1 rfl) ?_
  refine gf_5_0 C hP k_1 eb_2 wl_33 dX5_snowAt_23 ?_
  refine lv_iconst (v := 0) hx hb dX5_snowAt_26 (by decide) ?_
  obtain ⟨k_9, h⟩ := chk_some h
  refine ar_9 C hP k_3 k_9 dX5_snowAt_27 ?_
  refine lv_iload_n hx hb dX5_snowAt_28 rfl (lv_at hl 0 rfl) ?_
  refine lv_iadd hx hb dX5_snowAt_29 ?_
  refine va_mmax hx hb (hml.trans hl.1.symm) hown (hts _ wl_254) (hts _ wl_223) (hts _ wl_220) (hts _ wl_224) (Nat.le_of_ble_eq_true rfl) (Nat.le_of_ble_eq_true rfl) (Nat.zero_le _) (Nat.zero_le _) dX5_snowAt_30 ?_
  refine lv_topi (fun v_10 ev_10 => ?_)
  replace h := bnd_at h ev_10
  cases h
  exact rt_i C hP hD hS dX5_snowAt_33
abbrev rm_X5_meltAt : Room := { frames := 1, cells := 0, slots := 0, locals := 22 }
theorem hd_X5_meltAt : yX5_meltAt.cls = RX5 ∧ yX5_meltAt.cls ≠ "java/lang/invoke/MethodHandle" ∧ yX5_meltAt.cls ≠ "java/lang/invoke/VarHandle" ∧ (parseMethodDescriptor yX5_meltAt.desc).map (fun d => d.parameters.length) = some 2 := ⟨rfl, by decide +kernel, by decide +kernel, by decide +kernel⟩
set_option maxHeartbeats 4000000 in
set_option maxRecDepth 100000 in
theorem ct_X5_meltAt {l : Launch} {D : va_G} {cy : Cy} {T : Ty} {R : Rm} {a0 : Nat} {x1 : Int32} {x2 : Int32} {M : Mm} {r : Int32} {M9 : Mm} (h : fn_X5_meltAt T R a0 x1 x2 M = some (r, M9)) : Ct QcI l yX5_meltAt cX5_meltAt 4 (some .int) rm_X5_meltAt D cy T M R [.ref a0, .int x1, .int x2] M9 R r := by
  unfold fn_X5_meltAt at h
  refine enter (plainFor_of_name (by decide +kernel)) (Nat.le_of_ble_eq_true rfl) (fun p e s m args below meth c A C hP hD hS ls hl => ?_)
  have hl : lv_has ls 4 [(0, .ref a0), (1, .int x1), (2, .int x2)] := hl
  obtain ⟨hx, hb, hr, hml, hown, hts, hK, hA, hlk, hSt⟩ := id C
  refine lv_aload_n hx hb dX5_meltAt_0 rfl (lv_at hl 0 rfl) ?_
  obtain ⟨k_1, h⟩ := chk_some h
  obtain ⟨b_2, eb_2, h⟩ := rfm_some h
  refine gf_5_0 C hP k_1 eb_2 wl_33 dX5_meltAt_1 ?_
  refine lv_iconst (v := 3) hx hb dX5_meltAt_4 (by decide) ?_
  obtain ⟨k_3, h⟩ := chk_some h
  obtain ⟨k_4, h⟩ := chk_some h
  refine ar_9 C hP k_3 k_4 dX5_meltAt_5 ?_
  refine lv_iload_n hx hb dX5_meltAt_6 rfl (lv_at hl 1 rfl) ?_
  refine lv_aload_n hx hb dX5_meltAt_7 rfl (lv_at hl 0 rfl) ?_
  refine gf_5_0 C hP k_1 eb_2 wl_33 dX5_meltAt_8 ?_
  refine lv_iconst (v := 4) hx hb dX5_meltAt_11 (by decide) ?_
  obtain ⟨k_5, h⟩ := chk_some h
  refine ar_9 C hP k_3 k_5 dX5_meltAt_12 ?_
  refine lv_isub hx hb dX5_meltAt_13 ?_
  refine lv_imul hx hb dX5_meltAt_14 ?_
  refine lv_bipush (v := 100) hx hb dX5_meltAt_15 (by decide) ?_
  obtain ⟨r_6, M_7, hc_8, h⟩ := cal_some h
  refine cl_Si (As := [.int ((gI M b_2 (3 : Int32).toNatClampNeg) * (x1 - (gI M b_2 (4 : Int32).toNatClampNeg))), .int (100 : Int32)]) (rest := []) C (ct_J9_floorDiv_7cf53 hc_8) wl_255 wl_256 wl_257 wl_258 hd_J9_floorDiv_7cf53 ⟨Nat.le_of_ble_eq_true rfl, Nat.le_of_ble_eq_true rfl⟩ ⟨rfl, rfl⟩ ⟨Nat.zero_le _, Nat.zero_le _⟩ rfl (Nat.le_of_ble_eq_true rfl) rfl hl.1 hP hD hS dX5_meltAt_17 (fun H locs hP hD hS => ?_)
  refine lv_istore_n (lv' := [(3, .int r_6), (0, .ref a0), (1, .int x1), (2, .int x2)]) hx hb dX5_meltAt_20 rfl hl (by decide) rfl (fun ls hl => ?_)
  refine lv_iconst (v := 0) hx hb dX5_meltAt_21 (by decide) ?_
  refine lv_iload_n hx hb dX5_meltAt_22 rfl (lv_at hl 3 rfl) ?_
  refine lv_iload_n hx hb dX5_meltAt_23 rfl (lv_at hl 0 rfl) ?_
  refine lv_isub hx hb dX5_meltAt_24 ?_
  refine va_mmax hx hb (hml.trans hl.1.symm) hown (hts _ wl_254) (hts _ wl_223) (hts _ wl_220) (hts _ wl_224) (Nat.le_of_ble_eq_true rfl) (Nat.le_of_ble_eq_true rfl) (Nat.zero_le _) (Nat.zero_le _) dX5_meltAt_25 ?_
  refine lv_topi (fun v_9 ev_9 => ?_)
  replace h := bnd_at h ev_9
  cases h
  exact rt_i C hP hD hS dX5_meltAt_28
abbrev rm_X5_snowOutweighsMelt : Room := { frames := 2, cells := 0, slots := 0, locals := 45 }
theorem hd_X5_snowOutweighsMelt : yX5_snowOutweighsMelt.cls = RX5 ∧ yX5_snowOutweighsMelt.cls ≠ "java/lang/invoke/MethodHandle" ∧ yX5_snowOutweighsMelt.cls ≠ "java/lang/invoke/VarHandle" ∧ (parseMethodDescriptor yX5_snowOutweighsMelt.desc).map (fun d => d.parameters.length) = some 1 := ⟨rfl, by decide +kernel, by decide +kernel, by decide +kernel⟩
set_option maxHeartbeats 4000000 in
set_option maxRecDepth 100000 in
theorem bs_X5_snowOutweighsMelt_4 {p : Program} {l : Launch} {e : Env} {s : State} {m : MethodId} {args : Array Value} {below : List Frame} {meth : Method} {c : Code} {D : va_G} {cy : Cy} {A : Nat → Prop} {T : Ty} {R : Rm} {r : Int32} {M9 : Mm} {a0 : Nat} {x1 : Int32} {j4 : Int32 → Int32 → Mm → Option (Int32 × Mm)} (C : Cx RX5 cX5_snowOutweighsMelt 4 (some .boolean) p s m args meth c D cy A)
    (hj4 : ∀ (x2 : Int32) (x3 : Int32) (M : Mm) (H : Heap) (locs : List Loc), j4 x2 x3 M = some (r, M9) → va_P D vwCl (WL cy T M R) H → va_D A (WL cy T M R) → va_S A s.heap H locs → ∀ ls : Array Slot, lv_has ls 4 [(0, .ref a0), (1, .int x1), (2, .int x2), (3, .int x3)] → W p l e rm_X5_snowOutweighsMelt s m args below meth c H locs 0 0 (MQ below (QcI D cy T M9 R A r) args s 0 0 A) (F0 m 4 ls [])) :
    ∀ (x2 : Int32) (x3 : Int32) (M : Mm) (H : Heap) (locs : List Loc), fs_X5_snowOutweighsMelt_4 T R a0 x1 j4 x2 x3 M = some (r, M9) → va_P D vwCl (WL cy T M R) H → va_D A (WL cy T M R) → va_S A s.heap H locs → ∀ ls : Array Slot, lv_has ls 4 [(0, .ref a0), (1, .int x1), (2, .int x2), (3, .int x3)] → W p l e rm_X5_snowOutweighsMelt s m args below meth c H locs 0 0 (MQ below (QcI D cy T M9 R A r) args s 0 0 A) (F0 m 4 ls []) := by
  intro x2 x3 M H locs h hP hD hS ls hl
  unfold fs_X5_snowOutweighsMelt_4 at h
  obtain ⟨hx, hb, hr, hml, hown, hts, hK, hA, hlk, hSt⟩ := id C
  refine lv_iload_n hx hb dX5_snowOutweighsMelt_4 rfl (lv_at hl 3 rfl) ?_
  refine lv_aload_n hx hb dX5_snowOutweighsMelt_5 rfl (lv_at hl 0 rfl) ?_
  obtain ⟨k_1, h⟩ := chk_some h
  refine gf_5_4 C hP k_1 wl_42 dX5_snowOutweighsMelt_6 ?_
  refine lv_icmp_ge (tgt := 49) hx hb dX5_snowOutweighsMelt_9 (by decide) (fun c_2 => ?_) (fun c_2 => ?_)
  · replace h := ite_t h c_2
    refine lv_iload_n hx hb dX5_snowOutweighsMelt_49 rfl (lv_at hl 2 rfl) ?_
    refine lv_if_lt (tgt := 57) hx hb dX5_snowOutweighsMelt_50 (by decide) (fun c_3 => ?_) (fun c_3 => ?_)
    · replace h := ite_t h c_3
      refine lv_iconst (v := 0) hx hb dX5_snowOutweighsMelt_57 (by decide) ?_
      cases h
      exact rt_z C hP hD hS rfl dX5_snowOutweighsMelt_58
    · replace h := ite_f h c_3
      refine lv_iconst (v := 1) hx hb dX5_snowOutweighsMelt_53 (by decide) ?_
      refine lv_goto (tgt := 58) hx hb dX5_snowOutweighsMelt_54 (by decide) ?_
      cases h
      exact rt_z C hP hD hS rfl dX5_snowOutweighsMelt_58
  · replace h := ite_f h c_2
    refine lv_iload_n hx hb dX5_snowOutweighsMelt_12 rfl (lv_at hl 2 rfl) ?_
    refine lv_aload_n hx hb dX5_snowOutweighsMelt_13 rfl (lv_at hl 0 rfl) ?_
    refine lv_aload_n hx hb dX5_snowOutweighsMelt_14 rfl (lv_at hl 0 rfl) ?_
    obtain ⟨b_4, eb_4, h⟩ := rfm_some h
    refine gf_5_1 C hP k_1 eb_4 wl_35 dX5_snowOutweighsMelt_15 ?_
    refine lv_iload_n hx hb dX5_snowOutweighsMelt_18 rfl (lv_at hl 3 rfl) ?_
    obtain ⟨k_5, h⟩ := chk_some h
    obtain ⟨k_6, h⟩ := chk_some h
    obtain ⟨b_7, eb_7, h⟩ := rfm_some h
    refine ar_11 C hP k_5 k_6 eb_7 dX5_snowOutweighsMelt_19 ?_
    obtain ⟨k_8, h⟩ := chk_some h
    refine gf_0_1 C hP k_8 wl_193 dX5_snowOutweighsMelt_20 ?_
    obtain ⟨r_9, M_10, hc_11, h⟩ := cal_some h
    refine cl_Vi (As := [.int (gI M b_7 1)]) (rest := [.int x2]) C (ct_X5_snowAt hc_11) k_1 (by decide) rfl wl_372 wl_251 wl_252 wl_14 wl_253 hd_X5_snowAt ⟨Nat.le_of_ble_eq_true rfl, Nat.le_of_ble_eq_true rfl⟩ ⟨rfl, rfl⟩ ⟨Nat.zero_le _, Nat.zero_le _⟩ rfl (Nat.le_of_ble_eq_true rfl) rfl hl.1 hP hD hS dX5_snowOutweighsMelt_23 (fun H locs hP hD hS => ?_)
    refine lv_aload_n hx hb dX5_snowOutweighsMelt_26 rfl (lv_at hl 0 rfl) ?_
    refine lv_aload_n hx hb dX5_snowOutweighsMelt_27 rfl (lv_at hl 0 rfl) ?_
    refine gf_5_1 C hP k_1 eb_4 wl_35 dX5_snowOutweighsMelt_28 ?_
    refine lv_iload_n hx hb dX5_snowOutweighsMelt_31 rfl (lv_at hl 3 rfl) ?_
    refine ar_11 C hP k_5 k_6 eb_7 dX5_snowOutweighsMelt_32 ?_
    refine gf_0_1 C hP k_8 wl_193 dX5_snowOutweighsMelt_33 ?_
    refine lv_iload_n hx hb dX5_snowOutweighsMelt_36 rfl (lv_at hl 1 rfl) ?_
    obtain ⟨r_12, M_13, hc_14, h⟩ := cal_some h
    refine cl_Vi (As := [.int (gI M_10 b_7 1), .int x1]) (rest := [.int r_9, .int x2]) C (ct_X5_meltAt hc_14) k_1 (by decide) rfl wl_373 wl_260 wl_261 wl_14 wl_262 hd_X5_meltAt ⟨Nat.le_of_ble_eq_true rfl, Nat.le_of_ble_eq_true rfl⟩ ⟨rfl, rfl⟩ ⟨Nat.zero_le _, Nat.zero_le _⟩ rfl (Nat.le_of_ble_eq_true rfl) rfl hl.1 hP hD hS dX5_snowOutweighsMelt_37 (fun H locs hP hD hS => ?_)
    refine lv_isub hx hb dX5_snowOutweighsMelt_40 ?_
    refine lv_iadd hx hb dX5_snowOutweighsMelt_41 ?_
    refine lv_topi (fun v_15 ev_15 => ?_)
    replace h := bnd_at h ev_15
    refine lv_istore_n (lv' := [(2, .int v_15), (0, .ref a0), (1, .int x1), (3, .int x3)]) hx hb dX5_snowOutweighsMelt_42 rfl hl (by decide) rfl (fun ls hl => ?_)
    obtain ⟨v_16, ev_16⟩ : ∃ y : Int32, y = (x3 + (1 : Int32)) := ⟨_, rfl⟩
    replace h := bnd_at h ev_16
    refine lv_iinc (v := v_16) (lv' := [(3, .int v_16), (2, .int v_15), (0, .ref a0), (1, .int x1)]) hx hb dX5_snowOutweighsMelt_43 hl (k := 3) rfl (by rw [ev_16]; rfl) (by decide) rfl (fun ls hl => ?_)
    refine lv_goto (tgt := 4) hx hb dX5_snowOutweighsMelt_46 (by decide) ?_
    exact hj4 _ _ _ _ _ h hP hD hS _ (lv_sub hl [2, 3, 1, 0] rfl)
theorem bt_X5_snowOutweighsMelt_4 {p : Program} {l : Launch} {e : Env} {s : State} {m : MethodId} {args : Array Value} {below : List Frame} {meth : Method} {c : Code} {D : va_G} {cy : Cy} {A : Nat → Prop} {T : Ty} {R : Rm} {r : Int32} {M9 : Mm} {a0 : Nat} {x1 : Int32} (C : Cx RX5 cX5_snowOutweighsMelt 4 (some .boolean) p s m args meth c D cy A) :
    ∀ n : Nat, ∀ (x2 : Int32) (x3 : Int32) (M : Mm) (H : Heap) (locs : List Loc), fb_X5_snowOutweighsMelt_4 T R a0 x1 n x2 x3 M = some (r, M9) → va_P D vwCl (WL cy T M R) H → va_D A (WL cy T M R) → va_S A s.heap H locs → ∀ ls : Array Slot, lv_has ls 4 [(0, .ref a0), (1, .int x1), (2, .int x2), (3, .int x3)] → W p l e rm_X5_snowOutweighsMelt s m args below meth c H locs 0 0 (MQ below (QcI D cy T M9 R A r) args s 0 0 A) (F0 m 4 ls []) := by
  intro n
  induction n with
  | zero =>
    intro _ _ _ H locs h
    exact absurd (show (none : Option (Int32 × Mm)) = some _ from h) (by simp)
  | succ n ih => exact fun u0 u1 u2 H locs h => bs_X5_snowOutweighsMelt_4 (a0 := a0) (x1 := x1) C ih u0 u1 u2 H locs h
set_option maxHeartbeats 4000000 in
set_option maxRecDepth 100000 in
theorem ct_X5_snowOutweighsMelt {l : Launch} {D : va_G} {cy : Cy} {T : Ty} {R : Rm} {a0 : Nat} {x1 : Int32} {M : Mm} {r : Int32} {M9 : Mm} (h : fn_X5_snowOutweighsMelt T R a0 x1 M = some (r, M9)) : Ct QcI l yX5_snowOutweighsMelt cX5_snowOutweighsMelt 4 (some .boolean) rm_X5_snowOutweighsMelt D cy T M R [.ref a0, .int x1] M9 R r := by
  unfold fn_X5_snowOutweighsMelt at h
  refine enter (plainFor_of_name (by decide +kernel)) (Nat.le_of_ble_eq_true rfl) (fun p e s m args below meth c A C hP hD hS ls hl => ?_)
  have hl : lv_has ls 4 [(0, .ref a0), (1, .int x1)] := hl
  obtain ⟨hx, hb, hr, hml, hown, hts, hK, hA, hlk, hSt⟩ := id C
  refine lv_iconst (v := 0) hx hb dX5_snowOutweighsMelt_0 (by decide) ?_
  refine lv_istore_n (lv' := [(2, .int (0 : Int32)), (0, .ref a0), (1, .int x1)]) hx hb dX5_snowOutweighsMelt_1 rfl hl (by decide) rfl (fun ls hl => ?_)
  refine lv_iconst (v := 0) hx hb dX5_snowOutweighsMelt_2 (by decide) ?_
  refine lv_istore_n (lv' := [(3, .int (0 : Int32)), (2, .int (0 : Int32)), (0, .ref a0), (1, .int x1)]) hx hb dX5_snowOutweighsMelt_3 rfl hl (by decide) rfl (fun ls hl => ?_)
  exact (bt_X5_snowOutweighsMelt_4 C FU) _ _ _ _ _ h hP hD hS _ (lv_sub hl [2, 3, 1, 0] rfl)
abbrev rm_X5_leftOf : Room := { frames := 1, cells := 0, slots := 0, locals := 21 }
theorem hd_X5_leftOf : yX5_leftOf.cls = RX5 ∧ yX5_leftOf.cls ≠ "java/lang/invoke/MethodHandle" ∧ yX5_leftOf.cls ≠ "java/lang/invoke/VarHandle" ∧ (parseMethodDescriptor yX5_leftOf.desc).map (fun d => d.parameters.length) = some 1 := ⟨rfl, by decide +kernel, by decide +kernel, by decide +kernel⟩
set_option maxHeartbeats 4000000 in
set_option maxRecDepth 100000 in
theorem bs_X5_leftOf_4 {p : Program} {l : Launch} {e : Env} {s : State} {m : MethodId} {args : Array Value} {below : List Frame} {meth : Method} {c : Code} {D : va_G} {cy : Cy} {A : Nat → Prop} {T : Ty} {R : Rm} {r : Int32} {M9 : Mm} {a0 : Nat} {x1 : Int32} {j4 : Int32 → Int32 → Mm → Option (Int32 × Mm)} (C : Cx RX5 cX5_leftOf 4 (some .int) p s m args meth c D cy A)
    (hj4 : ∀ (x2 : Int32) (x3 : Int32) (M : Mm) (H : Heap) (locs : List Loc), j4 x2 x3 M = some (r, M9) → va_P D vwCl (WL cy T M R) H → va_D A (WL cy T M R) → va_S A s.heap H locs → ∀ ls : Array Slot, lv_has ls 4 [(0, .ref a0), (1, .int x1), (2, .int x2), (3, .int x3)] → W p l e rm_X5_leftOf s m args below meth c H locs 0 0 (MQ below (QcI D cy T M9 R A r) args s 0 0 A) (F0 m 4 ls [])) :
    ∀ (x2 : Int32) (x3 : Int32) (M : Mm) (H : Heap) (locs : List Loc), fs_X5_leftOf_4 T R a0 x1 j4 x2 x3 M = some (r, M9) → va_P D vwCl (WL cy T M R) H → va_D A (WL cy T M R) → va_S A s.heap H locs → ∀ ls : Array Slot, lv_has ls 4 [(0, .ref a0), (1, .int x1), (2, .int x2), (3, .int x3)] → W p l e rm_X5_leftOf s m args below meth c H locs 0 0 (MQ below (QcI D cy T M9 R A r) args s 0 0 A) (F0 m 4 ls []) := by
  intro x2 x3 M H locs h hP hD hS ls hl
  unfold fs_X5_leftOf_4 at h
  obtain ⟨hx, hb, hr, hml, hown, hts, hK, hA, hlk, hSt⟩ := id C
  refine lv_iload_n hx hb dX5_leftOf_4 rfl (lv_at hl 3 rfl) ?_
  refine lv_aload_n hx hb dX5_leftOf_5 rfl (lv_at hl 0 rfl) ?_
  obtain ⟨k_1, h⟩ := chk_some h
  refine gf_5_4 C hP k_1 wl_42 dX5_leftOf_6 ?_
  refine lv_icmp_ge (tgt := 34) hx hb dX5_leftOf_9 (by decide) (fun c_2 => ?_) (fun c_2 => ?_)
  · replace h := ite_t h c_2
    refine lv_iload_n hx hb dX5_leftOf_34 rfl (lv_at hl 2 rfl) ?_
    cases h
    exact rt_i C hP hD hS dX5_leftOf_35
  · replace h := ite_f h c_2
    refine lv_iload_n hx hb dX5_leftOf_12 rfl (lv_at hl 2 rfl) ?_
    refine lv_aload_n hx hb dX5_leftOf_13 rfl (lv_at hl 0 rfl) ?_
    obtain ⟨b_3, eb_3, h⟩ := rfm_some h
    refine gf_5_1 C hP k_1 eb_3 wl_35 dX5_leftOf_14 ?_
    refine lv_iload_n hx hb dX5_leftOf_17 rfl (lv_at hl 3 rfl) ?_
    obtain ⟨k_4, h⟩ := chk_some h
    obtain ⟨k_5, h⟩ := chk_some h
    obtain ⟨b_6, eb_6, h⟩ := rfm_some h
    refine ar_11 C hP k_4 k_5 eb_6 dX5_leftOf_18 ?_
    obtain ⟨k_7, h⟩ := chk_some h
    obtain ⟨b_8, eb_8, h⟩ := rfm_some h
    refine gf_0_0 C hP k_7 eb_8 wl_125 dX5_leftOf_19 ?_
    refine lv_iload_n hx hb dX5_leftOf_22 rfl (lv_at hl 1 rfl) ?_
    obtain ⟨k_9, h⟩ := chk_some h
    obtain ⟨r_10, M_11, hc_12, h⟩ := cal_some h
    refine cl_Vi (As := [.int x1]) (rest := [.int x2]) C (ct_X2_leftOf hc_12) k_9 (by decide) rfl wl_142 wl_131 wl_132 wl_65 wl_133 hd_X2_leftOf ⟨Nat.le_of_ble_eq_true rfl, Nat.le_of_ble_eq_true rfl⟩ ⟨rfl, rfl⟩ ⟨Nat.zero_le _, Nat.zero_le _⟩ rfl (Nat.le_of_ble_eq_true rfl) rfl hl.1 hP hD hS dX5_leftOf_23 (fun H locs hP hD hS => ?_)
    refine lv_iadd hx hb dX5_leftOf_26 ?_
    refine lv_topi (fun v_13 ev_13 => ?_)
    replace h := bnd_at h ev_13
    refine lv_istore_n (lv' := [(2, .int v_13), (0, .ref a0), (1, .int x1), (3, .int x3)]) hx hb dX5_leftOf_27 rfl hl (by decide) rfl (fun ls hl => ?_)
    obtain ⟨v_14, ev_14⟩ : ∃ y : Int32, y = (x3 + (1 : Int32)) := ⟨_, rfl⟩
    replace h := bnd_at h ev_14
    refine lv_iinc (v := v_14) (lv' := [(3, .int v_14), (2, .int v_13), (0, .ref a0), (1, .int x1)]) hx hb dX5_leftOf_28 hl (k := 3) rfl (by rw [ev_14]; rfl) (by decide) rfl (fun ls hl => ?_)
    refine lv_goto (tgt := 4) hx hb dX5_leftOf_31 (by decide) ?_
    exact hj4 _ _ _ _ _ h hP hD hS _ (lv_sub hl [2, 3, 1, 0] rfl)
theorem bt_X5_leftOf_4 {p : Program} {l : Launch} {e : Env} {s : State} {m : MethodId} {args : Array Value} {below : List Frame} {meth : Method} {c : Code} {D : va_G} {cy : Cy} {A : Nat → Prop} {T : Ty} {R : Rm} {r : Int32} {M9 : Mm} {a0 : Nat} {x1 : Int32} (C : Cx RX5 cX5_leftOf 4 (some .int) p s m args meth c D cy A) :
    ∀ n : Nat, ∀ (x2 : Int32) (x3 : Int32) (M : Mm) (H : Heap) (locs : List Loc), fb_X5_leftOf_4 T R a0 x1 n x2 x3 M = some (r, M9) → va_P D vwCl (WL cy T M R) H → va_D A (WL cy T M R) → va_S A s.heap H locs → ∀ ls : Array Slot, lv_has ls 4 [(0, .ref a0), (1, .int x1), (2, .int x2), (3, .int x3)] → W p l e rm_X5_leftOf s m args below meth c H locs 0 0 (MQ below (QcI D cy T M9 R A r) args s 0 0 A) (F0 m 4 ls []) := by
  intro n
  induction n with
  | zero =>
    intro _ _ _ H locs h
    exact absurd (show (none : Option (Int32 × Mm)) = some _ from h) (by simp)
  | succ n ih => exact fun u0 u1 u2 H locs h => bs_X5_leftOf_4 (a0 := a0) (x1 := x1) C ih u0 u1 u2 H locs h
set_option maxHeartbeats 4000000 in
set_option maxRecDepth 100000 in
theorem ct_X5_leftOf {l : Launch} {D : va_G} {cy : Cy} {T : Ty} {R : Rm} {a0 : Nat} {x1 : Int32} {M : Mm} {r : Int32} {M9 : Mm} (h : fn_X5_leftOf T R a0 x1 M = some (r, M9)) : Ct QcI l yX5_leftOf cX5_leftOf 4 (some .int) rm_X5_leftOf D cy T M R [.ref a0, .int x1] M9 R r := by
  unfold fn_X5_leftOf at h
  refine enter (plainFor_of_name (by decide +kernel)) (Nat.le_of_ble_eq_true rfl) (fun p e s m args below meth c A C hP hD hS ls hl => ?_)
  have hl : lv_has ls 4 [(0, .ref a0), (1, .int x1)] := hl
  obtain ⟨hx, hb, hr, hml, hown, hts, hK, hA, hlk, hSt⟩ := id C
  refine lv_iconst (v := 0) hx hb dX5_leftOf_0 (by decide) ?_
  refine lv_istore_n (lv' := [(2, .int (0 : Int32)), (0, .ref a0), (1, .int x1)]) hx hb dX5_leftOf_1 rfl hl (by decide) rfl (fun ls hl => ?_)
  refine lv_iconst (v := 0) hx hb dX5_leftOf_2 (by decide) ?_
  refine lv_istore_n (lv' := [(3, .int (0 : Int32)), (2, .int (0 : Int32)), (0, .ref a0), (1, .int x1)]) hx hb dX5_leftOf_3 rfl hl (by decide) rfl (fun ls hl => ?_)
  exact (bt_X5_leftOf_4 C FU) _ _ _ _ _ h hP hD hS _ (lv_sub hl [2, 3, 1, 0] rfl)
abbrev rm_X5_bandIce : Room := { frames := 0, cells := 0, slots := 0, locals := 0 }
theorem hd_X5_bandIce : yX5_bandIce.cls = RX5 ∧ yX5_bandIce.cls ≠ "java/lang/invoke/MethodHandle" ∧ yX5_bandIce.cls ≠ "java/lang/invoke/VarHandle" ∧ (parseMethodDescriptor yX5_bandIce.desc).map (fun d => d.parameters.length) = some 0 := ⟨rfl, by decide +kernel, by decide +kernel, by decide +kernel⟩
set_option maxHeartbeats 4000000 in
set_option maxRecDepth 100000 in
theorem bs_X5_bandIce_4 {p : Program} {l : Launch} {e : Env} {s : State} {m : MethodId} {args : Array Value} {below : List Frame} {meth : Method} {c : Code} {D : va_G} {cy : Cy} {A : Nat → Prop} {T : Ty} {R : Rm} {r : Int32} {M9 : Mm} {a0 : Nat} {j4 : Int32 → Int32 → Mm → Option (Int32 × Mm)} (C : Cx RX5 cX5_bandIce 3 (some .int) p s m args meth c D cy A)
    (hj4 : ∀ (x1 : Int32) (x2 : Int32) (M : Mm) (H : Heap) (locs : List Loc), j4 x1 x2 M = some (r, M9) → va_P D vwCl (WL cy T M R) H → va_D A (WL cy T M R) → va_S A s.heap H locs → ∀ ls : Array Slot, lv_has ls 3 [(0, .ref a0), (1, .int x1), (2, .int x2)] → W p l e rm_X5_bandIce s m args below meth c H locs 0 0 (MQ below (QcI D cy T M9 R A r) args s 0 0 A) (F0 m 4 ls [])) :
    ∀ (x1 : Int32) (x2 : Int32) (M : Mm) (H : Heap) (locs : List Loc), fs_X5_bandIce_4 T R a0 j4 x1 x2 M = some (r, M9) → va_P D vwCl (WL cy T M R) H → va_D A (WL cy T M R) → va_S A s.heap H locs → ∀ ls : Array Slot, lv_has ls 3 [(0, .ref a0), (1, .int x1), (2, .int x2)] → W p l e rm_X5_bandIce s m args below meth c H locs 0 0 (MQ below (QcI D cy T M9 R A r) args s 0 0 A) (F0 m 4 ls []) := by
  intro x1 x2 M H locs h hP hD hS ls hl
  unfold fs_X5_bandIce_4 at h
  obtain ⟨hx, hb, hr, hml, hown, hts, hK, hA, hlk, hSt⟩ := id C
  refine lv_iload_n hx hb dX5_bandIce_4 rfl (lv_at hl 2 rfl) ?_
  refine lv_aload_n hx hb dX5_bandIce_5 rfl (lv_at hl 0 rfl) ?_
  obtain ⟨k_1, h⟩ := chk_some h
  refine gf_5_4 C hP k_1 wl_42 dX5_bandIce_6 ?_
  refine lv_icmp_ge (tgt := 33) hx hb dX5_bandIce_9 (by decide) (fun c_2 => ?_) (fun c_2 => ?_)
  · replace h := ite_t h c_2
    refine lv_iload_n hx hb dX5_bandIce_33 rfl (lv_at hl 1 rfl) ?_
    cases h
    exact rt_i C hP hD hS dX5_bandIce_34
  · replace h := ite_f h c_2
    refine lv_iload_n hx hb dX5_bandIce_12 rfl (lv_at hl 1 rfl) ?_
    refine lv_aload_n hx hb dX5_bandIce_13 rfl (lv_at hl 0 rfl) ?_
    obtain ⟨b_3, eb_3, h⟩ := rfm_some h
    refine gf_5_1 C hP k_1 eb_3 wl_35 dX5_bandIce_14 ?_
    refine lv_iload_n hx hb dX5_bandIce_17 rfl (lv_at hl 2 rfl) ?_
    obtain ⟨k_4, h⟩ := chk_some h
    obtain ⟨k_5, h⟩ := chk_some h
    obtain ⟨b_6, eb_6, h⟩ := rfm_some h
    refine ar_11 C hP k_4 k_5 eb_6 dX5_bandIce_18 ?_
    obtain ⟨k_7, h⟩ := chk_some h
    obtain ⟨b_8, eb_8, h⟩ := rfm_some h
    refine gf_0_0 C hP k_7 eb_8 wl_125 dX5_bandIce_19 ?_
    obtain ⟨k_9, h⟩ := chk_some h
    refine gf_2_1 C hP k_9 wl_304 dX5_bandIce_22 ?_
    refine lv_iadd hx hb dX5_bandIce_25 ?_
    refine lv_topi (fun v_10 ev_10 => ?_)
    replace h := bnd_at h ev_10
    refine lv_istore_n (lv' := [(1, .int v_10), (0, .ref a0), (2, .int x2)]) hx hb dX5_bandIce_26 rfl hl (by decide) rfl (fun ls hl => ?_)
    obtain ⟨v_11, ev_11⟩ : ∃ y : Int32, y = (x2 + (1 : Int32)) := ⟨_, rfl⟩
    replace h := bnd_at h ev_11
    refine lv_iinc (v := v_11) (lv' := [(2, .int v_11), (1, .int v_10), (0, .ref a0)]) hx hb dX5_bandIce_27 hl (k := 2) rfl (by rw [ev_11]; rfl) (by decide) rfl (fun ls hl => ?_)
    refine lv_goto (tgt := 4) hx hb dX5_bandIce_30 (by decide) ?_
    exact hj4 _ _ _ _ _ h hP hD hS _ (lv_sub hl [2, 1, 0] rfl)
theorem bt_X5_bandIce_4 {p : Program} {l : Launch} {e : Env} {s : State} {m : MethodId} {args : Array Value} {below : List Frame} {meth : Method} {c : Code} {D : va_G} {cy : Cy} {A : Nat → Prop} {T : Ty} {R : Rm} {r : Int32} {M9 : Mm} {a0 : Nat} (C : Cx RX5 cX5_bandIce 3 (some .int) p s m args meth c D cy A) :
    ∀ n : Nat, ∀ (x1 : Int32) (x2 : Int32) (M : Mm) (H : Heap) (locs : List Loc), fb_X5_bandIce_4 T R a0 n x1 x2 M = some (r, M9) → va_P D vwCl (WL cy T M R) H → va_D A (WL cy T M R) → va_S A s.heap H locs → ∀ ls : Array Slot, lv_has ls 3 [(0, .ref a0), (1, .int x1), (2, .int x2)] → W p l e rm_X5_bandIce s m args below meth c H locs 0 0 (MQ below (QcI D cy T M9 R A r) args s 0 0 A) (F0 m 4 ls []) := by
  intro n
  induction n with
  | zero =>
    intro _ _ _ H locs h
    exact absurd (show (none : Option (Int32 × Mm)) = some _ from h) (by simp)
  | succ n ih => exact fun u0 u1 u2 H locs h => bs_X5_bandIce_4 (a0 := a0) C ih u0 u1 u2 H locs h
set_option maxHeartbeats 4000000 in
set_option maxRecDepth 100000 in
theorem ct_X5_bandIce {l : Launch} {D : va_G} {cy : Cy} {T : Ty} {R : Rm} {a0 : Nat} {M : Mm} {r : Int32} {M9 : Mm} (h : fn_X5_bandIce T R a0 M = some (r, M9)) : Ct QcI l yX5_bandIce cX5_bandIce 3 (some .int) rm_X5_bandIce D cy T M R [.ref a0] M9 R r := by
  unfold fn_X5_bandIce at h
  refine enter (plainFor_of_name (by decide +kernel)) (Nat.le_of_ble_eq_true rfl) (fun p e s m args below meth c A C hP hD hS ls hl => ?_)
  have hl : lv_has ls 3 [(0, .ref a0)] := hl
  obtain ⟨hx, hb, hr, hml, hown, hts, hK, hA, hlk, hSt⟩ := id C
  refine lv_iconst (v := 0) hx hb dX5_bandIce_0 (by decide) ?_
  refine lv_istore_n (lv' := [(1, .int (0 : Int32)), (0, .ref a0)]) hx hb dX5_bandIce_1 rfl hl (by decide) rfl (fun ls hl => ?_)
  refine lv_iconst (v := 0) hx hb dX5_bandIce_2 (by decide) ?_
  refine lv_istore_n (lv' := [(2, .int (0 : Int32)), (1, .int (0 : Int32)), (0, .ref a0)]) hx hb dX5_bandIce_3 rfl hl (by decide) rfl (fun ls hl => ?_)
  exact (bt_X5_bandIce_4 C FU) _ _ _ _ _ h hP hD hS _ (lv_sub hl [2, 1, 0] rfl)
abbrev rm_X5_allIce : Room := { frames := 1, cells := 0, slots := 0, locals := 22 }
theorem hd_X5_allIce : yX5_allIce.cls = RX5 ∧ yX5_allIce.cls ≠ "java/lang/invoke/MethodHandle" ∧ yX5_allIce.cls ≠ "java/lang/invoke/VarHandle" ∧ (parseMethodDescriptor yX5_allIce.desc).map (fun d => d.parameters.length) = some 0 := ⟨rfl, by decide +kernel, by decide +kernel, by decide +kernel⟩
set_option maxHeartbeats 4000000 in
set_option maxRecDepth 100000 in
theorem ct_X5_allIce {l : Launch} {D : va_G} {cy : Cy} {T : Ty} {R : Rm} {a0 : Nat} {M : Mm} {r : Int64} {M9 : Mm} (h : fn_X5_allIce T R a0 M = some (r, M9)) : Ct QcL l yX5_allIce cX5_allIce 1 (some .long) rm_X5_allIce D cy T M R [.ref a0] M9 R r := by
  unfold fn_X5_allIce at h
  refine enter (plainFor_of_name (by decide +kernel)) (Nat.le_of_ble_eq_true rfl) (fun p e s m args below meth c A C hP hD hS ls hl => ?_)
  have hl : lv_has ls 1 [(0, .ref a0)] := hl
  obtain ⟨hx, hb, hr, hml, hown, hts, hK, hA, hlk, hSt⟩ := id C
  refine lv_aload_n hx hb dX5_allIce_0 rfl (lv_at hl 0 rfl) ?_
  obtain ⟨k_1, h⟩ := chk_some h
  obtain ⟨r_2, M_3, hc_4, h⟩ := cal_some h
  refine cl_Vi (As := []) (rest := []) C (ct_X5_bandIce hc_4) k_1 (by decide) rfl wl_300 wl_301 wl_302 wl_14 wl_303 hd_X5_bandIce ⟨Nat.le_of_ble_eq_true rfl, Nat.le_of_ble_eq_true rfl⟩ ⟨rfl, rfl⟩ ⟨Nat.zero_le _, Nat.zero_le _⟩ rfl (Nat.le_of_ble_eq_true rfl) rfl hl.1 hP hD hS dX5_allIce_1 (fun H locs hP hD hS => ?_)
  refine lv_i2l hx hb dX5_allIce_4 rfl ?_
  refine lv_aload_n hx hb dX5_allIce_5 rfl (lv_at hl 0 rfl) ?_
  obtain ⟨b_5, eb_5, h⟩ := rfm_some h
  refine gf_5_3 C hP k_1 eb_5 wl_41 dX5_allIce_6 ?_
  obtain ⟨k_6, h⟩ := chk_some h
  refine gf_1_0 C hP k_6 wl_299 dX5_allIce_9 ?_
  refine lv_i2l hx hb dX5_allIce_12 rfl ?_
  refine lv_ladd hx hb dX5_allIce_13 ?_
  cases h
  exact rt_l C hP hD hS dX5_allIce_14
abbrev rm_X5_allIceByYears : Room := { frames := 2, cells := 0, slots := 0, locals := 44 }
theorem hd_X5_allIceByYears : yX5_allIceByYears.cls = RX5 ∧ yX5_allIceByYears.cls ≠ "java/lang/invoke/MethodHandle" ∧ yX5_allIceByYears.cls ≠ "java/lang/invoke/VarHandle" ∧ (parseMethodDescriptor yX5_allIceByYears.desc).map (fun d => d.parameters.length) = some 0 := ⟨rfl, by decide +kernel, by decide +kernel, by decide +kernel⟩
set_option maxHeartbeats 4000000 in
set_option maxRecDepth 100000 in
theorem bs_X5_allIceByYears_11 {p : Program} {l : Launch} {e : Env} {s : State} {m : MethodId} {args : Array Value} {below : List Frame} {meth : Method} {c : Code} {D : va_G} {cy : Cy} {A : Nat → Prop} {T : Ty} {R : Rm} {r : Int64} {M9 : Mm} {a0 : Nat} {j11 : Int64 → Int32 → Mm → Option (Int64 × Mm)} (C : Cx RX5 cX5_allIceByYears 4 (some .long) p s m args meth c D cy A)
    (hj11 : ∀ (l1 : Int64) (x3 : Int32) (M : Mm) (H : Heap) (locs : List Loc), j11 l1 x3 M = some (r, M9) → va_P D vwCl (WL cy T M R) H → va_D A (WL cy T M R) → va_S A s.heap H locs → ∀ ls : Array Slot, lv_has ls 4 [(0, .ref a0), (1, .long l1), (3, .int x3)] → W p l e rm_X5_allIceByYears s m args below meth c H locs 0 0 (MQ below (QcL D cy T M9 R A r) args s 0 0 A) (F0 m 11 ls [])) :
    ∀ (l1 : Int64) (x3 : Int32) (M : Mm) (H : Heap) (locs : List Loc), fs_X5_allIceByYears_11 T R a0 j11 l1 x3 M = some (r, M9) → va_P D vwCl (WL cy T M R) H → va_D A (WL cy T M R) → va_S A s.heap H locs → ∀ ls : Array Slot, lv_has ls 4 [(0, .ref a0), (1, .long l1), (3, .int x3)] → W p l e rm_X5_allIceByYears s m args below meth c H locs 0 0 (MQ below (QcL D cy T M9 R A r) args s 0 0 A) (F0 m 11 ls []) := by
  intro l1 x3 M H locs h hP hD hS ls hl
  unfold fs_X5_allIceByYears_11 at h
  obtain ⟨hx, hb, hr, hml, hown, hts, hK, hA, hlk, hSt⟩ := id C
  refine lv_iload_n hx hb dX5_allIceByYears_11 rfl (lv_at hl 2 rfl) ?_
  refine lv_aload_n hx hb dX5_allIceByYears_12 rfl (lv_at hl 0 rfl) ?_
  obtain ⟨k_1, h⟩ := chk_some h
  refine gf_5_6 C hP k_1 wl_44 dX5_allIceByYears_13 ?_
  refine lv_icmp_gt (tgt := 34) hx hb dX5_allIceByYears_16 (by decide) (fun c_2 => ?_) (fun c_2 => ?_)
  · replace h := ite_t h c_2
    refine lv_lload_n hx hb dX5_allIceByYears_34 rfl (lv_at hl 1 rfl) ?_
    cases h
    exact rt_l C hP hD hS dX5_allIceByYears_35
  · replace h := ite_f h c_2
    refine lv_lload_n hx hb dX5_allIceByYears_19 rfl (lv_at hl 1 rfl) ?_
    refine lv_aload_n hx hb dX5_allIceByYears_20 rfl (lv_at hl 0 rfl) ?_
    refine lv_iload_n hx hb dX5_allIceByYears_21 rfl (lv_at hl 2 rfl) ?_
    obtain ⟨r_3, M_4, hc_5, h⟩ := cal_some h
    refine cl_Vi (As := [.int x3]) (rest := [.long l1]) C (ct_X5_leftOf hc_5) k_1 (by decide) rfl wl_138 wl_139 wl_140 wl_14 wl_141 hd_X5_leftOf ⟨Nat.le_of_ble_eq_true rfl, Nat.le_of_ble_eq_true rfl⟩ ⟨rfl, rfl⟩ ⟨Nat.zero_le _, Nat.zero_le _⟩ rfl (Nat.le_of_ble_eq_true rfl) rfl hl.1 hP hD hS dX5_allIceByYears_22 (fun H locs hP hD hS => ?_)
    refine lv_i2l hx hb dX5_allIceByYears_25 rfl ?_
    refine lv_ladd hx hb dX5_allIceByYears_26 ?_
    refine lv_topl (fun v_6 ev_6 => ?_)
    replace h := bnd_at h ev_6
    refine lv_lstore_n (lv' := [(1, .long v_6), (0, .ref a0), (3, .int x3)]) hx hb dX5_allIceByYears_27 rfl hl (by decide) rfl (fun ls hl => ?_)
    obtain ⟨v_7, ev_7⟩ : ∃ y : Int32, y = (x3 + (1 : Int32)) := ⟨_, rfl⟩
    replace h := bnd_at h ev_7
    refine lv_iinc (v := v_7) (lv' := [(3, .int v_7), (1, .long v_6), (0, .ref a0)]) hx hb dX5_allIceByYears_28 hl (k := 2) rfl (by rw [ev_7]; rfl) (by decide) rfl (fun ls hl => ?_)
    refine lv_goto (tgt := 11) hx hb dX5_allIceByYears_31 (by decide) ?_
    exact hj11 _ _ _ _ _ h hP hD hS _ (lv_sub hl [2, 1, 0] rfl)
theorem bt_X5_allIceByYears_11 {p : Program} {l : Launch} {e : Env} {s : State} {m : MethodId} {args : Array Value} {below : List Frame} {meth : Method} {c : Code} {D : va_G} {cy : Cy} {A : Nat → Prop} {T : Ty} {R : Rm} {r : Int64} {M9 : Mm} {a0 : Nat} (C : Cx RX5 cX5_allIceByYears 4 (some .long) p s m args meth c D cy A) :
    ∀ n : Nat, ∀ (l1 : Int64) (x3 : Int32) (M : Mm) (H : Heap) (locs : List Loc), fb_X5_allIceByYears_11 T R a0 n l1 x3 M = some (r, M9) → va_P D vwCl (WL cy T M R) H → va_D A (WL cy T M R) → va_S A s.heap H locs → ∀ ls : Array Slot, lv_has ls 4 [(0, .ref a0), (1, .long l1), (3, .int x3)] → W p l e rm_X5_allIceByYears s m args below meth c H locs 0 0 (MQ below (QcL D cy T M9 R A r) args s 0 0 A) (F0 m 11 ls []) := by
  intro n
  induction n with
  | zero =>
    intro _ _ _ H locs h
    exact absurd (show (none : Option (Int64 × Mm)) = some _ from h) (by simp)
  | succ n ih => exact fun u0 u1 u2 H locs h => bs_X5_allIceByYears_11 (a0 := a0) C ih u0 u1 u2 H locs h
set_option maxHeartbeats 4000000 in
set_option maxRecDepth 100000 in
theorem ct_X5_allIceByYears {l : Launch} {D : va_G} {cy : Cy} {T : Ty} {R : Rm} {a0 : Nat} {M : Mm} {r : Int64} {M9 : Mm} (h : fn_X5_allIceByYears T R a0 M = some (r, M9)) : Ct QcL l yX5_allIceByYears cX5_allIceByYears 4 (some .long) rm_X5_allIceByYears D cy T M R [.ref a0] M9 R r := by
  unfold fn_X5_allIceByYears at h
  refine enter (plainFor_of_name (by decide +kernel)) (Nat.le_of_ble_eq_true rfl) (fun p e s m args below meth c A C hP hD hS ls hl => ?_)
  have hl : lv_has ls 4 [(0, .ref a0)] := hl
  obtain ⟨hx, hb, hr, hml, hown, hts, hK, hA, hlk, hSt⟩ := id C
  refine lv_aload_n hx hb dX5_allIceByYears_0 rfl (lv_at hl 0 rfl) ?_
  obtain ⟨k_8, h⟩ := chk_some h
  obtain ⟨b_9, eb_9, h⟩ := rfm_some h
  refine gf_5_3 C hP k_8 eb_9 wl_41 dX5_allIceByYears_1 ?_
  obtain ⟨k_10, h⟩ := chk_some h
  refine gf_1_0 C hP k_10 wl_299 dX5_allIceByYears_4 ?_
  refine lv_i2l hx hb dX5_allIceByYears_7 rfl ?_
  refine lv_topl (fun v_11 ev_11 => ?_)
  replace h := bnd_at h ev_11
  refine lv_lstore_n (lv' := [(1, .long v_11), (0, .ref a0)]) hx hb dX5_allIceByYears_8 rfl hl (by decide) rfl (fun ls hl => ?_)
  refine lv_iconst (v := 0) hx hb dX5_allIceByYears_9 (by decide) ?_
  refine lv_istore_n (lv' := [(3, .int (0 : Int32)), (1, .long v_11), (0, .ref a0)]) hx hb dX5_allIceByYears_10 rfl hl (by decide) rfl (fun ls hl => ?_)
  exact (bt_X5_allIceByYears_11 C FU) _ _ _ _ _ h hP hD hS _ (lv_sub hl [2, 1, 0] rfl)
abbrev rm_X5_layersOfAllBands : Room := { frames := 2, cells := 0, slots := 0, locals := 43 }
theorem hd_X5_layersOfAllBands : yX5_layersOfAllBands.cls = RX5 ∧ yX5_layersOfAllBands.cls ≠ "java/lang/invoke/MethodHandle" ∧ yX5_layersOfAllBands.cls ≠ "java/lang/invoke/VarHandle" ∧ (parseMethodDescriptor yX5_layersOfAllBands.desc).map (fun d => d.parameters.length) = some 0 := ⟨rfl, by decide +kernel, by decide +kernel, by decide +kernel⟩
set_option maxHeartbeats 4000000 in
set_option maxRecDepth 100000 in
theorem bs_X5_layersOfAllBands_4 {p : Program} {l : Launch} {e : Env} {s : State} {m : MethodId} {args : Array Value} {below : List Frame} {meth : Method} {c : Code} {D : va_G} {cy : Cy} {A : Nat → Prop} {T : Ty} {R : Rm} {r : Int32} {M9 : Mm} {a0 : Nat} {j4 : Int32 → Int32 → Mm → Option (Int32 × Mm)} (C : Cx RX5 cX5_layersOfAllBands 3 (some .int) p s m args meth c D cy A)
    (hj4 : ∀ (x1 : Int32) (x2 : Int32) (M : Mm) (H : Heap) (locs : List Loc), j4 x1 x2 M = some (r, M9) → va_P D vwCl (WL cy T M R) H → va_D A (WL cy T M R) → va_S A s.heap H locs → ∀ ls : Array Slot, lv_has ls 3 [(0, .ref a0), (1, .int x1), (2, .int x2)] → W p l e rm_X5_layersOfAllBands s m args below meth c H locs 0 0 (MQ below (QcI D cy T M9 R A r) args s 0 0 A) (F0 m 4 ls [])) :
    ∀ (x1 : Int32) (x2 : Int32) (M : Mm) (H : Heap) (locs : List Loc), fs_X5_layersOfAllBands_4 T R a0 j4 x1 x2 M = some (r, M9) → va_P D vwCl (WL cy T M R) H → va_D A (WL cy T M R) → va_S A s.heap H locs → ∀ ls : Array Slot, lv_has ls 3 [(0, .ref a0), (1, .int x1), (2, .int x2)] → W p l e rm_X5_layersOfAllBands s m args below meth c H locs 0 0 (MQ below (QcI D cy T M9 R A r) args s 0 0 A) (F0 m 4 ls []) := by
  intro x1 x2 M H locs h hP hD hS ls hl
  unfold fs_X5_layersOfAllBands_4 at h
  obtain ⟨hx, hb, hr, hml, hown, hts, hK, hA, hlk, hSt⟩ := id C
  refine lv_iload_n hx hb dX5_layersOfAllBands_4 rfl (lv_at hl 2 rfl) ?_
  refine lv_aload_n hx hb dX5_layersOfAllBands_5 rfl (lv_at hl 0 rfl) ?_
  obtain ⟨k_1, h⟩ := chk_some h
  refine gf_5_4 C hP k_1 wl_42 dX5_layersOfAllBands_6 ?_
  refine lv_icmp_ge (tgt := 33) hx hb dX5_layersOfAllBands_9 (by decide) (fun c_2 => ?_) (fun c_2 => ?_)
  · replace h := ite_t h c_2
    refine lv_iload_n hx hb dX5_layersOfAllBands_33 rfl (lv_at hl 1 rfl) ?_
    cases h
    exact rt_i C hP hD hS dX5_layersOfAllBands_34
  · replace h := ite_f h c_2
    refine lv_iload_n hx hb dX5_layersOfAllBands_12 rfl (lv_at hl 1 rfl) ?_
    refine lv_aload_n hx hb dX5_layersOfAllBands_13 rfl (lv_at hl 0 rfl) ?_
    obtain ⟨b_3, eb_3, h⟩ := rfm_some h
    refine gf_5_1 C hP k_1 eb_3 wl_35 dX5_layersOfAllBands_14 ?_
    refine lv_iload_n hx hb dX5_layersOfAllBands_17 rfl (lv_at hl 2 rfl) ?_
    obtain ⟨k_4, h⟩ := chk_some h
    obtain ⟨k_5, h⟩ := chk_some h
    obtain ⟨b_6, eb_6, h⟩ := rfm_some h
    refine ar_11 C hP k_4 k_5 eb_6 dX5_layersOfAllBands_18 ?_
    obtain ⟨k_7, h⟩ := chk_some h
    obtain ⟨b_8, eb_8, h⟩ := rfm_some h
    refine gf_0_0 C hP k_7 eb_8 wl_125 dX5_layersOfAllBands_19 ?_
    obtain ⟨k_9, h⟩ := chk_some h
    obtain ⟨r_10, M_11, hc_12, h⟩ := cal_some h
    refine cl_Vi (As := []) (rest := [.int x1]) C (ct_X2_number hc_12) k_9 (by decide) rfl wl_126 wl_127 wl_128 wl_65 wl_129 hd_X2_number ⟨Nat.le_of_ble_eq_true rfl, Nat.le_of_ble_eq_true rfl⟩ ⟨rfl, rfl⟩ ⟨Nat.zero_le _, Nat.zero_le _⟩ rfl (Nat.le_of_ble_eq_true rfl) rfl hl.1 hP hD hS dX5_layersOfAllBands_22 (fun H locs hP hD hS => ?_)
    refine lv_iadd hx hb dX5_layersOfAllBands_25 ?_
    refine lv_topi (fun v_13 ev_13 => ?_)
    replace h := bnd_at h ev_13
    refine lv_istore_n (lv' := [(1, .int v_13), (0, .ref a0), (2, .int x2)]) hx hb dX5_layersOfAllBands_26 rfl hl (by decide) rfl (fun ls hl => ?_)
    obtain ⟨v_14, ev_14⟩ : ∃ y : Int32, y = (x2 + (1 : Int32)) := ⟨_, rfl⟩
    replace h := bnd_at h ev_14
    refine lv_iinc (v := v_14) (lv' := [(2, .int v_14), (1, .int v_13), (0, .ref a0)]) hx hb dX5_layersOfAllBands_27 hl (k := 2) rfl (by rw [ev_14]; rfl) (by decide) rfl (fun ls hl => ?_)
    refine lv_goto (tgt := 4) hx hb dX5_layersOfAllBands_30 (by decide) ?_
    exact hj4 _ _ _ _ _ h hP hD hS _ (lv_sub hl [2, 1, 0] rfl)
theorem bt_X5_layersOfAllBands_4 {p : Program} {l : Launch} {e : Env} {s : State} {m : MethodId} {args : Array Value} {below : List Frame} {meth : Method} {c : Code} {D : va_G} {cy : Cy} {A : Nat → Prop} {T : Ty} {R : Rm} {r : Int32} {M9 : Mm} {a0 : Nat} (C : Cx RX5 cX5_layersOfAllBands 3 (some .int) p s m args meth c D cy A) :
    ∀ n : Nat, ∀ (x1 : Int32) (x2 : Int32) (M : Mm) (H : Heap) (locs : List Loc), fb_X5_layersOfAllBands_4 T R a0 n x1 x2 M = some (r, M9) → va_P D vwCl (WL cy T M R) H → va_D A (WL cy T M R) → va_S A s.heap H locs → ∀ ls : Array Slot, lv_has ls 3 [(0, .ref a0), (1, .int x1), (2, .int x2)] → W p l e rm_X5_layersOfAllBands s m args below meth c H locs 0 0 (MQ below (QcI D cy T M9 R A r) args s 0 0 A) (F0 m 4 ls []) := by
  intro n
  induction n with
  | zero =>
    intro _ _ _ H locs h
    exact absurd (show (none : Option (Int32 × Mm)) = some _ from h) (by simp)
  | succ n ih => exact fun u0 u1 u2 H locs h => bs_X5_layersOfAllBands_4 (a0 := a0) C ih u0 u1 u2 H locs h
set_option maxHeartbeats 4000000 in
set_option maxRecDepth 100000 in
theorem ct_X5_layersOfAllBands {l : Launch} {D : va_G} {cy : Cy} {T : Ty} {R : Rm} {a0 : Nat} {M : Mm} {r : Int32} {M9 : Mm} (h : fn_X5_layersOfAllBands T R a0 M = some (r, M9)) : Ct QcI l yX5_layersOfAllBands cX5_layersOfAllBands 3 (some .int) rm_X5_layersOfAllBands D cy T M R [.ref a0] M9 R r := by
  unfold fn_X5_layersOfAllBands at h
  refine enter (plainFor_of_name (by decide +kernel)) (Nat.le_of_ble_eq_true rfl) (fun p e s m args below meth c A C hP hD hS ls hl => ?_)
  have hl : lv_has ls 3 [(0, .ref a0)] := hl
  obtain ⟨hx, hb, hr, hml, hown, hts, hK, hA, hlk, hSt⟩ := id C
  refine lv_iconst (v := 0) hx hb dX5_layersOfAllBands_0 (by decide) ?_
  refine lv_istore_n (lv' := [(1, .int (0 : Int32)), (0, .ref a0)]) hx hb dX5_layersOfAllBands_1 rfl hl (by decide) rfl (fun ls hl => ?_)
  refine lv_iconst (v := 0) hx hb dX5_layersOfAllBands_2 (by decide) ?_
  refine lv_istore_n (lv' := [(2, .int (0 : Int32)), (1, .int (0 : Int32)), (0, .ref a0)]) hx hb dX5_layersOfAllBands_3 rfl hl (by decide) rfl (fun ls hl => ?_)
  exact (bt_X5_layersOfAllBands_4 C FU) _ _ _ _ _ h hP hD hS _ (lv_sub hl [2, 1, 0] rfl)
abbrev rm_X5_differentYears : Room := { frames := 2, cells := 0, slots := 0, locals := 44 }
theorem hd_X5_differentYears : yX5_differentYears.cls = RX5 ∧ yX5_differentYears.cls ≠ "java/lang/invoke/MethodHandle" ∧ yX5_differentYears.cls ≠ "java/lang/invoke/VarHandle" ∧ (parseMethodDescriptor yX5_differentYears.desc).map (fun d => d.parameters.length) = some 0 := ⟨rfl, by decide +kernel, by decide +kernel, by decide +kernel⟩
set_option maxHeartbeats 4000000 in
set_option maxRecDepth 100000 in
theorem bs_X5_differentYears_23 {p : Program} {l : Launch} {e : Env} {s : State} {m : MethodId} {args : Array Value} {below : List Frame} {meth : Method} {c : Code} {D : va_G} {cy : Cy} {A : Nat → Prop} {T : Ty} {R : Rm} {r : Int32} {M9 : Mm} {a0 : Nat} {j4 : Int32 → Int32 → Mm → Option (Int32 × Mm)} (C : Cx RX5 cX5_differentYears 3 (some .int) p s m args meth c D cy A)
    (hj4 : ∀ (x1 : Int32) (x2 : Int32) (M : Mm) (H : Heap) (locs : List Loc), j4 x1 x2 M = some (r, M9) → va_P D vwCl (WL cy T M R) H → va_D A (WL cy T M R) → va_S A s.heap H locs → ∀ ls : Array Slot, lv_has ls 3 [(0, .ref a0), (1, .int x1), (2, .int x2)] → W p l e rm_X5_differentYears s m args below meth c H locs 0 0 (MQ below (QcI D cy T M9 R A r) args s 0 0 A) (F0 m 4 ls [])) :
    ∀ (x1 : Int32) (x2 : Int32) (M : Mm) (H : Heap) (locs : List Loc), fs_X5_differentYears_23 T R a0 j4 x1 x2 M = some (r, M9) → va_P D vwCl (WL cy T M R) H → va_D A (WL cy T M R) → va_S A s.heap H locs → ∀ ls : Array Slot, lv_has ls 3 [(0, .ref a0), (1, .int x1), (2, .int x2)] → W p l e rm_X5_differentYears s m args below meth c H locs 0 0 (MQ below (QcI D cy T M9 R A r) args s 0 0 A) (F0 m 23 ls []) := by
  intro x1 x2 M H locs h hP hD hS ls hl
  unfold fs_X5_differentYears_23 at h
  obtain ⟨hx, hb, hr, hml, hown, hts, hK, hA, hlk, hSt⟩ := id C
  obtain ⟨v_1, ev_1⟩ : ∃ y : Int32, y = (x2 + (1 : Int32)) := ⟨_, rfl⟩
  replace h := bnd_at h ev_1
  refine lv_iinc (v := v_1) (lv' := [(2, .int v_1), (0, .ref a0), (1, .int x1)]) hx hb dX5_differentYears_23 hl (k := 2) rfl (by rw [ev_1]; rfl) (by decide) rfl (fun ls hl => ?_)
  refine lv_goto (tgt := 4) hx hb dX5_differentYears_26 (by decide) ?_
  exact hj4 _ _ _ _ _ h hP hD hS _ (lv_sub hl [1, 2, 0] rfl)
set_option maxHeartbeats 4000000 in
set_option maxRecDepth 100000 in
theorem bs_X5_differentYears_4 {p : Program} {l : Launch} {e : Env} {s : State} {m : MethodId} {args : Array Value} {below : List Frame} {meth : Method} {c : Code} {D : va_G} {cy : Cy} {A : Nat → Prop} {T : Ty} {R : Rm} {r : Int32} {M9 : Mm} {a0 : Nat} {j4 : Int32 → Int32 → Mm → Option (Int32 × Mm)} (C : Cx RX5 cX5_differentYears 3 (some .int) p s m args meth c D cy A)
    (hj4 : ∀ (x1 : Int32) (x2 : Int32) (M : Mm) (H : Heap) (locs : List Loc), j4 x1 x2 M = some (r, M9) → va_P D vwCl (WL cy T M R) H → va_D A (WL cy T M R) → va_S A s.heap H locs → ∀ ls : Array Slot, lv_has ls 3 [(0, .ref a0), (1, .int x1), (2, .int x2)] → W p l e rm_X5_differentYears s m args below meth c H locs 0 0 (MQ below (QcI D cy T M9 R A r) args s 0 0 A) (F0 m 4 ls [])) :
    ∀ (x1 : Int32) (x2 : Int32) (M : Mm) (H : Heap) (locs : List Loc), fs_X5_differentYears_4 T R a0 j4 x1 x2 M = some (r, M9) → va_P D vwCl (WL cy T M R) H → va_D A (WL cy T M R) → va_S A s.heap H locs → ∀ ls : Array Slot, lv_has ls 3 [(0, .ref a0), (1, .int x1), (2, .int x2)] → W p l e rm_X5_differentYears s m args below meth c H locs 0 0 (MQ below (QcI D cy T M9 R A r) args s 0 0 A) (F0 m 4 ls []) := by
  intro x1 x2 M H locs h hP hD hS ls hl
  unfold fs_X5_differentYears_4 at h
  obtain ⟨hx, hb, hr, hml, hown, hts, hK, hA, hlk, hSt⟩ := id C
  refine lv_iload_n hx hb dX5_differentYears_4 rfl (lv_at hl 2 rfl) ?_
  refine lv_aload_n hx hb dX5_differentYears_5 rfl (lv_at hl 0 rfl) ?_
  obtain ⟨k_2, h⟩ := chk_some h
  refine gf_5_6 C hP k_2 wl_44 dX5_differentYears_6 ?_
  refine lv_icmp_gt (tgt := 29) hx hb dX5_differentYears_9 (by decide) (fun c_3 => ?_) (fun c_3 => ?_)
  · replace h := ite_t h c_3
    refine lv_iload_n hx hb dX5_differentYears_29 rfl (lv_at hl 1 rfl) ?_
    cases h
    exact rt_i C hP hD hS dX5_differentYears_30
  · replace h := ite_f h c_3
    refine lv_aload_n hx hb dX5_differentYears_12 rfl (lv_at hl 0 rfl) ?_
    refine lv_iload_n hx hb dX5_differentYears_13 rfl (lv_at hl 2 rfl) ?_
    obtain ⟨r_4, M_5, hc_6, h⟩ := cal_some h
    refine cl_Vi (As := [.int x2]) (rest := []) C (ct_X5_leftOf hc_6) k_2 (by decide) rfl wl_138 wl_139 wl_140 wl_14 wl_141 hd_X5_leftOf ⟨Nat.le_of_ble_eq_true rfl, Nat.le_of_ble_eq_true rfl⟩ ⟨rfl, rfl⟩ ⟨Nat.zero_le _, Nat.zero_le _⟩ rfl (Nat.le_of_ble_eq_true rfl) rfl hl.1 hP hD hS dX5_differentYears_14 (fun H locs hP hD hS => ?_)
    refine lv_if_le (tgt := 23) hx hb dX5_differentYears_17 (by decide) (fun c_7 => ?_) (fun c_7 => ?_)
    · replace h := ite_t h c_7
      exact (bs_X5_differentYears_23 C hj4) _ _ _ _ _ h hP hD hS _ (lv_sub hl [0, 1, 2] rfl)
    · replace h := ite_f h c_7
      obtain ⟨v_8, ev_8⟩ : ∃ y : Int32, y = (x1 + (1 : Int32)) := ⟨_, rfl⟩
      replace h := bnd_at h ev_8
      refine lv_iinc (v := v_8) (lv' := [(1, .int v_8), (0, .ref a0), (2, .int x2)]) hx hb dX5_differentYears_20 hl (k := 1) rfl (by rw [ev_8]; rfl) (by decide) rfl (fun ls hl => ?_)
      exact (bs_X5_differentYears_23 C hj4) _ _ _ _ _ h hP hD hS _ (lv_sub hl [1, 0, 2] rfl)
theorem bt_X5_differentYears_4 {p : Program} {l : Launch} {e : Env} {s : State} {m : MethodId} {args : Array Value} {below : List Frame} {meth : Method} {c : Code} {D : va_G} {cy : Cy} {A : Nat → Prop} {T : Ty} {R : Rm} {r : Int32} {M9 : Mm} {a0 : Nat} (C : Cx RX5 cX5_differentYears 3 (some .int) p s m args meth c D cy A) :
    ∀ n : Nat, ∀ (x1 : Int32) (x2 : Int32) (M : Mm) (H : Heap) (locs : List Loc), fb_X5_differentYears_4 T R a0 n x1 x2 M = some (r, M9) → va_P D vwCl (WL cy T M R) H → va_D A (WL cy T M R) → va_S A s.heap H locs → ∀ ls : Array Slot, lv_has ls 3 [(0, .ref a0), (1, .int x1), (2, .int x2)] → W p l e rm_X5_differentYears s m args below meth c H locs 0 0 (MQ below (QcI D cy T M9 R A r) args s 0 0 A) (F0 m 4 ls []) := by
  intro n
  induction n with
  | zero =>
    intro _ _ _ H locs h
    exact absurd (show (none : Option (Int32 × Mm)) = some _ from h) (by simp)
  | succ n ih => exact fun u0 u1 u2 H locs h => bs_X5_differentYears_4 (a0 := a0) C ih u0 u1 u2 H locs h
set_option maxHeartbeats 4000000 in
set_option maxRecDepth 100000 in
theorem ct_X5_differentYears {l : Launch} {D : va_G} {cy : Cy} {T : Ty} {R : Rm} {a0 : Nat} {M : Mm} {r : Int32} {M9 : Mm} (h : fn_X5_differentYears T R a0 M = some (r, M9)) : Ct QcI l yX5_differentYears cX5_differentYears 3 (some .int) rm_X5_differentYears D cy T M R [.ref a0] M9 R r := by
  unfold fn_X5_differentYears at h
  refine enter (plainFor_of_name (by decide +kernel)) (Nat.le_of_ble_eq_true rfl) (fun p e s m args below meth c A C hP hD hS ls hl => ?_)
  have hl : lv_has ls 3 [(0, .ref a0)] := hl
  obtain ⟨hx, hb, hr, hml, hown, hts, hK, hA, hlk, hSt⟩ := id C
  refine lv_iconst (v := 0) hx hb dX5_differentYears_0 (by decide) ?_
  refine lv_istore_n (lv' := [(1, .int (0 : Int32)), (0, .ref a0)]) hx hb dX5_differentYears_1 rfl hl (by decide) rfl (fun ls hl => ?_)
  refine lv_iconst (v := 0) hx hb dX5_differentYears_2 (by decide) ?_
  refine lv_istore_n (lv' := [(2, .int (0 : Int32)), (1, .int (0 : Int32)), (0, .ref a0)]) hx hb dX5_differentYears_3 rfl hl (by decide) rfl (fun ls hl => ?_)
  exact (bt_X5_differentYears_4 C FU) _ _ _ _ _ h hP hD hS _ (lv_sub hl [2, 1, 0] rfl)
abbrev rm_X5_oldestYear : Room := { frames := 1, cells := 0, slots := 0, locals := 13 }
theorem hd_X5_oldestYear : yX5_oldestYear.cls = RX5 ∧ yX5_oldestYear.cls ≠ "java/lang/invoke/MethodHandle" ∧ yX5_oldestYear.cls ≠ "java/lang/invoke/VarHandle" ∧ (parseMethodDescriptor yX5_oldestYear.desc).map (fun d => d.parameters.length) = some 0 := ⟨rfl, by decide +kernel, by decide +kernel, by decide +kernel⟩
set_option maxHeartbeats 4000000 in
set_option maxRecDepth 100000 in
theorem bs_X5_oldestYear_6 {p : Program} {l : Launch} {e : Env} {s : State} {m : MethodId} {args : Array Value} {below : List Frame} {meth : Method} {c : Code} {D : va_G} {cy : Cy} {A : Nat → Prop} {T : Ty} {R : Rm} {r : Int32} {M9 : Mm} {a0 : Nat} {j6 : Int32 → Int32 → Mm → Option (Int32 × Mm)} (C : Cx RX5 cX5_oldestYear 3 (some .int) p s m args meth c D cy A)
    (hj6 : ∀ (x1 : Int32) (x2 : Int32) (M : Mm) (H : Heap) (locs : List Loc), j6 x1 x2 M = some (r, M9) → va_P D vwCl (WL cy T M R) H → va_D A (WL cy T M R) → va_S A s.heap H locs → ∀ ls : Array Slot, lv_has ls 3 [(0, .ref a0), (1, .int x1), (2, .int x2)] → W p l e rm_X5_oldestYear s m args below meth c H locs 0 0 (MQ below (QcI D cy T M9 R A r) args s 0 0 A) (F0 m 6 ls [])) :
    ∀ (x1 : Int32) (x2 : Int32) (M : Mm) (H : Heap) (locs : List Loc), fs_X5_oldestYear_6 T R a0 j6 x1 x2 M = some (r, M9) → va_P D vwCl (WL cy T M R) H → va_D A (WL cy T M R) → va_S A s.heap H locs → ∀ ls : Array Slot, lv_has ls 3 [(0, .ref a0), (1, .int x1), (2, .int x2)] → W p l e rm_X5_oldestYear s m args below meth c H locs 0 0 (MQ below (QcI D cy T M9 R A r) args s 0 0 A) (F0 m 6 ls []) := by
  intro x1 x2 M H locs h hP hD hS ls hl
  unfold fs_X5_oldestYear_6 at h
  obtain ⟨hx, hb, hr, hml, hown, hts, hK, hA, hlk, hSt⟩ := id C
  refine lv_iload_n hx hb dX5_oldestYear_6 rfl (lv_at hl 2 rfl) ?_
  refine lv_aload_n hx hb dX5_oldestYear_7 rfl (lv_at hl 0 rfl) ?_
  obtain ⟨k_1, h⟩ := chk_some h
  refine gf_5_4 C hP k_1 wl_42 dX5_oldestYear_8 ?_
  refine lv_icmp_ge (tgt := 37) hx hb dX5_oldestYear_11 (by decide) (fun c_2 => ?_) (fun c_2 => ?_)
  · replace h := ite_t h c_2
    refine lv_iload_n hx hb dX5_oldestYear_37 rfl (lv_at hl 1 rfl) ?_
    cases h
    exact rt_i C hP hD hS dX5_oldestYear_38
  · replace h := ite_f h c_2
    refine lv_iload_n hx hb dX5_oldestYear_14 rfl (lv_at hl 1 rfl) ?_
    refine lv_aload_n hx hb dX5_oldestYear_15 rfl (lv_at hl 0 rfl) ?_
    obtain ⟨b_3, eb_3, h⟩ := rfm_some h
    refine gf_5_1 C hP k_1 eb_3 wl_35 dX5_oldestYear_16 ?_
    refine lv_iload_n hx hb dX5_oldestYear_19 rfl (lv_at hl 2 rfl) ?_
    obtain ⟨k_4, h⟩ := chk_some h
    obtain ⟨k_5, h⟩ := chk_some h
    obtain ⟨b_6, eb_6, h⟩ := rfm_some h
    refine ar_11 C hP k_4 k_5 eb_6 dX5_oldestYear_20 ?_
    obtain ⟨k_7, h⟩ := chk_some h
    obtain ⟨b_8, eb_8, h⟩ := rfm_some h
    refine gf_0_0 C hP k_7 eb_8 wl_125 dX5_oldestYear_21 ?_
    obtain ⟨k_9, h⟩ := chk_some h
    refine gf_2_2 C hP k_9 wl_428 dX5_oldestYear_24 ?_
    refine va_mmin hx hb (hml.trans hl.1.symm) hown (hts _ wl_429) (hts _ wl_219) (hts _ wl_220) (hts _ wl_221) (Nat.le_of_ble_eq_true rfl) (Nat.le_of_ble_eq_true rfl) (Nat.zero_le _) (Nat.zero_le _) dX5_oldestYear_27 ?_
    refine lv_topi (fun v_10 ev_10 => ?_)
    replace h := bnd_at h ev_10
    refine lv_istore_n (lv' := [(1, .int v_10), (0, .ref a0), (2, .int x2)]) hx hb dX5_oldestYear_30 rfl hl (by decide) rfl (fun ls hl => ?_)
    obtain ⟨v_11, ev_11⟩ : ∃ y : Int32, y = (x2 + (1 : Int32)) := ⟨_, rfl⟩
    replace h := bnd_at h ev_11
    refine lv_iinc (v := v_11) (lv' := [(2, .int v_11), (1, .int v_10), (0, .ref a0)]) hx hb dX5_oldestYear_31 hl (k := 2) rfl (by rw [ev_11]; rfl) (by decide) rfl (fun ls hl => ?_)
    refine lv_goto (tgt := 6) hx hb dX5_oldestYear_34 (by decide) ?_
    exact hj6 _ _ _ _ _ h hP hD hS _ (lv_sub hl [2, 1, 0] rfl)
theorem bt_X5_oldestYear_6 {p : Program} {l : Launch} {e : Env} {s : State} {m : MethodId} {args : Array Value} {below : List Frame} {meth : Method} {c : Code} {D : va_G} {cy : Cy} {A : Nat → Prop} {T : Ty} {R : Rm} {r : Int32} {M9 : Mm} {a0 : Nat} (C : Cx RX5 cX5_oldestYear 3 (some .int) p s m args meth c D cy A) :
    ∀ n : Nat, ∀ (x1 : Int32) (x2 : Int32) (M : Mm) (H : Heap) (locs : List Loc), fb_X5_oldestYear_6 T R a0 n x1 x2 M = some (r, M9) → va_P D vwCl (WL cy T M R) H → va_D A (WL cy T M R) → va_S A s.heap H locs → ∀ ls : Array Slot, lv_has ls 3 [(0, .ref a0), (1, .int x1), (2, .int x2)] → W p l e rm_X5_oldestYear s m args below meth c H locs 0 0 (MQ below (QcI D cy T M9 R A r) args s 0 0 A) (F0 m 6 ls []) := by
  intro n
  induction n with
  | zero =>
    intro _ _ _ H locs h
    exact absurd (show (none : Option (Int32 × Mm)) = some _ from h) (by simp)
  | succ n ih => exact fun u0 u1 u2 H locs h => bs_X5_oldestYear_6 (a0 := a0) C ih u0 u1 u2 H locs h
set_option maxHeartbeats 4000000 in
set_option maxRecDepth 100000 in
theorem ct_X5_oldestYear {l : Launch} {D : va_G} {cy : Cy} {T : Ty} {R : Rm} {a0 : Nat} {M : Mm} {r : Int32} {M9 : Mm} (h : fn_X5_oldestYear T R a0 M = some (r, M9)) : Ct QcI l yX5_oldestYear cX5_oldestYear 3 (some .int) rm_X5_oldestYear D cy T M R [.ref a0] M9 R r := by
  unfold fn_X5_oldestYear at h
  refine enter (plainFor_of_name (by decide +kernel)) (Nat.le_of_ble_eq_true rfl) (fun p e s m args below meth c A C hP hD hS ls hl => ?_)
  have hl : lv_has ls 3 [(0, .ref a0)] := hl
  obtain ⟨hx, hb, hr, hml, hown, hts, hK, hA, hlk, hSt⟩ := id C
  refine lv_sipush (v := 801) hx hb dX5_oldestYear_0 (by decide) ?_
  refine lv_istore_n (lv' := [(1, .int (801 : Int32)), (0, .ref a0)]) hx hb dX5_oldestYear_3 rfl hl (by decide) rfl (fun ls hl => ?_)
  refine lv_iconst (v := 0) hx hb dX5_oldestYear_4 (by decide) ?_
  refine lv_istore_n (lv' := [(2, .int (0 : Int32)), (1, .int (801 : Int32)), (0, .ref a0)]) hx hb dX5_oldestYear_5 rfl hl (by decide) rfl (fun ls hl => ?_)
  exact (bt_X5_oldestYear_6 C FU) _ _ _ _ _ h hP hD hS _ (lv_sub hl [2, 1, 0] rfl)
abbrev rm_X5_snowAndMelt : Room := { frames := 3, cells := 0, slots := 0, locals := 68 }
theorem hd_X5_snowAndMelt : yX5_snowAndMelt.cls = RX5 ∧ yX5_snowAndMelt.cls ≠ "java/lang/invoke/MethodHandle" ∧ yX5_snowAndMelt.cls ≠ "java/lang/invoke/VarHandle" ∧ (parseMethodDescriptor yX5_snowAndMelt.desc).map (fun d => d.parameters.length) = some 1 := ⟨rfl, by decide +kernel, by decide +kernel, by decide +kernel⟩
set_option maxHeartbeats 4000000 in
set_option maxRecDepth 100000 in
theorem ct_X5_snowAndMelt {l : Launch} {D : va_G} {cy : Cy} {T : Ty} {R : Rm} {a0 : Nat} {a1 : Nat} {M : Mm} {r : Unit} {M9 : Mm} (h : fn_X5_snowAndMelt T R a0 a1 M = some (r, M9)) : Ct QcV l yX5_snowAndMelt cX5_snowAndMelt 3 none rm_X5_snowAndMelt D cy T M R [.ref a0, .ref a1] M9 R r := by
  unfold fn_X5_snowAndMelt at h
  refine enter (plainFor_of_name (by decide +kernel)) (Nat.le_of_ble_eq_true rfl) (fun p e s m args below meth c A C hP hD hS ls hl => ?_)
  have hl : lv_has ls 3 [(0, .ref a0), (1, .ref a1)] := hl
  obtain ⟨hx, hb, hr, hml, hown, hts, hK, hA, hlk, hSt⟩ := id C
  refine lv_aload_n hx hb dX5_snowAndMelt_0 rfl (lv_at hl 0 rfl) ?_
  refine lv_aload_n hx hb dX5_snowAndMelt_1 rfl (lv_at hl 1 rfl) ?_
  obtain ⟨k_1, h⟩ := chk_some h
  refine gf_0_1 C hP k_1 wl_193 dX5_snowAndMelt_2 ?_
  obtain ⟨k_2, h⟩ := chk_some h
  obtain ⟨r_3, M_4, hc_5, h⟩ := cal_some h
  refine cl_Vi (As := [.int (gI M a1 1)]) (rest := []) C (ct_X5_snowAt hc_5) k_2 (by decide) rfl wl_372 wl_251 wl_252 wl_14 wl_253 hd_X5_snowAt ⟨Nat.le_of_ble_eq_true rfl, Nat.le_of_ble_eq_true rfl⟩ ⟨rfl, rfl⟩ ⟨Nat.zero_le _, Nat.zero_le _⟩ rfl (Nat.le_of_ble_eq_true rfl) rfl hl.1 hP hD hS dX5_snowAndMelt_5 (fun H locs hP hD hS => ?_)
  refine lv_istore_n (lv' := [(2, .int r_3), (0, .ref a0), (1, .ref a1)]) hx hb dX5_snowAndMelt_8 rfl hl (by decide) rfl (fun ls hl => ?_)
  refine lv_aload_n hx hb dX5_snowAndMelt_9 rfl (lv_at hl 2 rfl) ?_
  obtain ⟨b_6, eb_6, h⟩ := rfm_some h
  refine gf_0_0 C hP k_1 eb_6 wl_125 dX5_snowAndMelt_10 ?_
  refine lv_aload_n hx hb dX5_snowAndMelt_13 rfl (lv_at hl 1 rfl) ?_
  refine gf_5_6 C hP k_2 wl_44 dX5_snowAndMelt_14 ?_
  refine lv_iload_n hx hb dX5_snowAndMelt_17 rfl (lv_at hl 0 rfl) ?_
  obtain ⟨k_7, h⟩ := chk_some h
  obtain ⟨r_8, M_9, hc_10, h⟩ := cal_some h
  refine cl_Vv (As := [.int (gI M_4 a0 6), .int r_3]) (rest := []) C (ct_X2_add hc_10) k_7 (by decide) rfl wl_214 wl_215 wl_216 wl_65 wl_217 hd_X2_add ⟨Nat.le_of_ble_eq_true rfl, Nat.le_of_ble_eq_true rfl⟩ ⟨rfl, rfl⟩ ⟨Nat.zero_le _, Nat.zero_le _⟩ rfl (Nat.le_of_ble_eq_true rfl) rfl hl.1 hP hD hS dX5_snowAndMelt_18 (fun H locs hP hD hS => ?_)
  refine lv_aload_n hx hb dX5_snowAndMelt_21 rfl (lv_at hl 1 rfl) ?_
  refine lv_dup hx hb dX5_snowAndMelt_22 rfl ?_
  refine gf_5_8 C hP k_2 wl_46 dX5_snowAndMelt_23 ?_
  refine lv_iload_n hx hb dX5_snowAndMelt_26 rfl (lv_at hl 0 rfl) ?_
  refine lv_i2l hx hb dX5_snowAndMelt_27 rfl ?_
  refine lv_ladd hx hb dX5_snowAndMelt_28 ?_
  refine pf_5_8 C hP hD hS k_2 wl_46 dX5_snowAndMelt_29 (fun M_11 H locs eM_11 hP hD hS => ?_)
  replace h := bnd_at h eM_11
  refine lv_aload_n hx hb dX5_snowAndMelt_32 rfl (lv_at hl 2 rfl) ?_
  refine lv_aload_n hx hb dX5_snowAndMelt_33 rfl (lv_at hl 2 rfl) ?_
  refine gf_0_0 C hP k_1 eb_6 wl_125 dX5_snowAndMelt_34 ?_
  refine lv_aload_n hx hb dX5_snowAndMelt_37 rfl (lv_at hl 1 rfl) ?_
  refine lv_aload_n hx hb dX5_snowAndMelt_38 rfl (lv_at hl 2 rfl) ?_
  refine gf_0_1 C hP k_1 wl_193 dX5_snowAndMelt_39 ?_
  refine lv_aload_n hx hb dX5_snowAndMelt_42 rfl (lv_at hl 1 rfl) ?_
  obtain ⟨b_12, eb_12, h⟩ := rfm_some h
  refine gf_5_0 C hP k_2 eb_12 wl_33 dX5_snowAndMelt_43 ?_
  refine lv_iconst (v := 2) hx hb dX5_snowAndMelt_46 (by decide) ?_
  obtain ⟨k_13, h⟩ := chk_some h
  obtain ⟨k_14, h⟩ := chk_some h
  refine ar_9 C hP k_13 k_14 dX5_snowAndMelt_47 ?_
  obtain ⟨r_15, M_16, hc_17, h⟩ := cal_some h
  refine cl_Vi (As := [.int (gI M_11 a1 1), .int (gI M_11 b_12 (2 : Int32).toNatClampNeg)]) (rest := [.ref b_6, .ref a1]) C (ct_X5_meltAt hc_17) k_2 (by decide) rfl wl_373 wl_260 wl_261 wl_14 wl_262 hd_X5_meltAt ⟨Nat.le_of_ble_eq_true rfl, Nat.le_of_ble_eq_true rfl⟩ ⟨rfl, rfl⟩ ⟨Nat.zero_le _, Nat.zero_le _⟩ rfl (Nat.le_of_ble_eq_true rfl) rfl hl.1 hP hD hS dX5_snowAndMelt_48 (fun H locs hP hD hS => ?_)
  obtain ⟨r_18, M_19, hc_20, h⟩ := cal_some h
  refine cl_Vi (As := [.int r_15]) (rest := [.ref a1]) C (ct_X2_takeFromLatest hc_20) k_7 (by decide) rfl wl_374 wl_375 wl_376 wl_65 wl_377 hd_X2_takeFromLatest ⟨Nat.le_of_ble_eq_true rfl, Nat.le_of_ble_eq_true rfl⟩ ⟨rfl, rfl⟩ ⟨Nat.zero_le _, Nat.zero_le _⟩ rfl (Nat.le_of_ble_eq_true rfl) rfl hl.1 hP hD hS dX5_snowAndMelt_51 (fun H locs hP hD hS => ?_)
  refine pf_0_4 C hP hD hS k_1 wl_371 dX5_snowAndMelt_54 (fun M_21 H locs eM_21 hP hD hS => ?_)
  replace h := bnd_at h eM_21
  refine lv_aload_n hx hb dX5_snowAndMelt_57 rfl (lv_at hl 1 rfl) ?_
  refine lv_dup hx hb dX5_snowAndMelt_58 rfl ?_
  refine gf_5_9 C hP k_2 wl_47 dX5_snowAndMelt_59 ?_
  refine lv_aload_n hx hb dX5_snowAndMelt_62 rfl (lv_at hl 2 rfl) ?_
  refine gf_0_4 C hP k_1 wl_371 dX5_snowAndMelt_63 ?_
  refine lv_i2l hx hb dX5_snowAndMelt_66 rfl ?_
  refine lv_ladd hx hb dX5_snowAndMelt_67 ?_
  refine pf_5_9 C hP hD hS k_2 wl_47 dX5_snowAndMelt_68 (fun M_22 H locs eM_22 hP hD hS => ?_)
  replace h := bnd_at h eM_22
  cases h
  exact rt_v C hP hD hS dX5_snowAndMelt_71
abbrev rm_X5_creepDown : Room := { frames := 3, cells := 0, slots := 0, locals := 69 }
theorem hd_X5_creepDown : yX5_creepDown.cls = RX5 ∧ yX5_creepDown.cls ≠ "java/lang/invoke/MethodHandle" ∧ yX5_creepDown.cls ≠ "java/lang/invoke/VarHandle" ∧ (parseMethodDescriptor yX5_creepDown.desc).map (fun d => d.parameters.length) = some 0 := ⟨rfl, by decide +kernel, by decide +kernel, by decide +kernel⟩
set_option maxHeartbeats 4000000 in
set_option maxRecDepth 100000 in
theorem bs_X5_creepDown_104 {p : Program} {l : Launch} {e : Env} {s : State} {m : MethodId} {args : Array Value} {below : List Frame} {meth : Method} {c : Code} {D : va_G} {cy : Cy} {A : Nat → Prop} {T : Ty} {R : Rm} {r : Unit} {M9 : Mm} {a0 : Nat} {j7 : Int32 → Mm → Option (Unit × Mm)} (C : Cx RX5 cX5_creepDown 3 none p s m args meth c D cy A)
    (hj7 : ∀ (x1 : Int32) (M : Mm) (H : Heap) (locs : List Loc), j7 x1 M = some (r, M9) → va_P D vwCl (WL cy T M R) H → va_D A (WL cy T M R) → va_S A s.heap H locs → ∀ ls : Array Slot, lv_has ls 3 [(0, .ref a0), (1, .int x1)] → W p l e rm_X5_creepDown s m args below meth c H locs 0 0 (MQ below (QcV D cy T M9 R A r) args s 0 0 A) (F0 m 7 ls [])) :
    ∀ (x1 : Int32) (M : Mm) (H : Heap) (locs : List Loc), fs_X5_creepDown_104 T R a0 j7 x1 M = some (r, M9) → va_P D vwCl (WL cy T M R) H → va_D A (WL cy T M R) → va_S A s.heap H locs → ∀ ls : Array Slot, lv_has ls 3 [(0, .ref a0), (1, .int x1)] → W p l e rm_X5_creepDown s m args below meth c H locs 0 0 (MQ below (QcV D cy T M9 R A r) args s 0 0 A) (F0 m 104 ls []) := by
  intro x1 M H locs h hP hD hS ls hl
  unfold fs_X5_creepDown_104 at h
  obtain ⟨hx, hb, hr, hml, hown, hts, hK, hA, hlk, hSt⟩ := id C
  obtain ⟨v_1, ev_1⟩ : ∃ y : Int32, y = (x1 + (-1 : Int32)) := ⟨_, rfl⟩
  replace h := bnd_at h ev_1
  refine lv_iinc (v := v_1) (lv' := [(1, .int v_1), (0, .ref a0)]) hx hb dX5_creepDown_104 hl (k := 1) rfl (by rw [ev_1]; rfl) (by decide) rfl (fun ls hl => ?_)
  refine lv_goto (tgt := 7) hx hb dX5_creepDown_107 (by decide) ?_
  exact hj7 _ _ _ _ h hP hD hS _ (lv_sub hl [1, 0] rfl)
set_option maxHeartbeats 4000000 in
set_option maxRecDepth 100000 in
theorem bs_X5_creepDown_7 {p : Program} {l : Launch} {e : Env} {s : State} {m : MethodId} {args : Array Value} {below : List Frame} {meth : Method} {c : Code} {D : va_G} {cy : Cy} {A : Nat → Prop} {T : Ty} {R : Rm} {r : Unit} {M9 : Mm} {a0 : Nat} {j7 : Int32 → Mm → Option (Unit × Mm)} (C : Cx RX5 cX5_creepDown 3 none p s m args meth c D cy A)
    (hj7 : ∀ (x1 : Int32) (M : Mm) (H : Heap) (locs : List Loc), j7 x1 M = some (r, M9) → va_P D vwCl (WL cy T M R) H → va_D A (WL cy T M R) → va_S A s.heap H locs → ∀ ls : Array Slot, lv_has ls 3 [(0, .ref a0), (1, .int x1)] → W p l e rm_X5_creepDown s m args below meth c H locs 0 0 (MQ below (QcV D cy T M9 R A r) args s 0 0 A) (F0 m 7 ls [])) :
    ∀ (x1 : Int32) (M : Mm) (H : Heap) (locs : List Loc), fs_X5_creepDown_7 T R a0 j7 x1 M = some (r, M9) → va_P D vwCl (WL cy T M R) H → va_D A (WL cy T M R) → va_S A s.heap H locs → ∀ ls : Array Slot, lv_has ls 3 [(0, .ref a0), (1, .int x1)] → W p l e rm_X5_creepDown s m args below meth c H locs 0 0 (MQ below (QcV D cy T M9 R A r) args s 0 0 A) (F0 m 7 ls []) := by
  intro x1 M H locs h hP hD hS ls hl
  unfold fs_X5_creepDown_7 at h
  obtain ⟨hx, hb, hr, hml, hown, hts, hK, hA, hlk, hSt⟩ := id C
  refine lv_iload_n hx hb dX5_creepDown_7 rfl (lv_at hl 1 rfl) ?_
  refine lv_if_lt (tgt := 110) hx hb dX5_creepDown_8 (by decide) (fun c_2 => ?_) (fun c_2 => ?_)
  · replace h := ite_t h c_2
    cases h
    exact rt_v C hP hD hS dX5_creepDown_110
  · replace h := ite_f h c_2
    refine lv_aload_n hx hb dX5_creepDown_11 rfl (lv_at hl 0 rfl) ?_
    obtain ⟨k_3, h⟩ := chk_some h
    obtain ⟨b_4, eb_4, h⟩ := rfm_some h
    refine gf_5_1 C hP k_3 eb_4 wl_35 dX5_creepDown_12 ?_
    refine lv_iload_n hx hb dX5_creepDown_15 rfl (lv_at hl 1 rfl) ?_
    obtain ⟨k_5, h⟩ := chk_some h
    obtain ⟨k_6, h⟩ := chk_some h
    obtain ⟨b_7, eb_7, h⟩ := rfm_some h
    refine ar_11 C hP k_5 k_6 eb_7 dX5_creepDown_16 ?_
    refine lv_astore_n (lv' := [(2, .ref b_7), (0, .ref a0), (1, .int x1)]) hx hb dX5_creepDown_17 rfl hl (by decide) rfl (fun ls hl => ?_)
    refine lv_aload_n hx hb dX5_creepDown_18 rfl (lv_at hl 0 rfl) ?_
    refine lv_aload_n hx hb dX5_creepDown_19 rfl (lv_at hl 0 rfl) ?_
    obtain ⟨k_8, h⟩ := chk_some h
    obtain ⟨r_9, M_10, hc_11, h⟩ := cal_some h
    refine cl_Vi (As := []) (rest := [.ref b_7]) C (ct_X0_iceToGive hc_11) k_8 (by decide) rfl wl_388 wl_389 wl_390 wl_50 wl_391 hd_X0_iceToGive ⟨Nat.le_of_ble_eq_true rfl, Nat.le_of_ble_eq_true rfl⟩ ⟨rfl, rfl⟩ ⟨Nat.zero_le _, Nat.zero_le _⟩ rfl (Nat.le_of_ble_eq_true rfl) rfl hl.1 hP hD hS dX5_creepDown_20 (fun H locs hP hD hS => ?_)
    refine pf_0_5 C hP hD hS k_8 wl_386 dX5_creepDown_23 (fun M_12 H locs eM_12 hP hD hS => ?_)
    replace h := bnd_at h eM_12
    refine lv_iload_n hx hb dX5_creepDown_26 rfl (lv_at hl 2 rfl) ?_
    refine lv_iconst (v := 1) hx hb dX5_creepDown_27 (by decide) ?_
    refine lv_iadd hx hb dX5_creepDown_28 ?_
    refine lv_aload_n hx hb dX5_creepDown_29 rfl (lv_at hl 1 rfl) ?_
    refine gf_5_4 C hP k_3 wl_42 dX5_creepDown_30 ?_
    refine lv_icmp_ge (tgt := 76) hx hb dX5_creepDown_33 (by decide) (fun c_13 => ?_) (fun c_13 => ?_)
    · replace h := ite_t h c_13
      refine lv_aload_n hx hb dX5_creepDown_76 rfl (lv_at hl 0 rfl) ?_
      obtain ⟨b_14, eb_14, h⟩ := rfm_some h
      refine gf_0_0 C hP k_8 eb_14 wl_125 dX5_creepDown_77 ?_
      refine lv_aload_n hx hb dX5_creepDown_80 rfl (lv_at hl 0 rfl) ?_
      refine gf_0_5 C hP k_8 wl_386 dX5_creepDown_81 ?_
      refine lv_null hx hb dX5_creepDown_84 ?_
      obtain ⟨k_15, h⟩ := chk_some h
      obtain ⟨r_16, M_17, hc_18, h⟩ := cal_some h
      refine cl_Vv (As := [.int (gI M_12 b_7 5), .null]) (rest := []) C (ct_X2_giveFromOldest_N hc_18) k_15 (by decide) rfl wl_394 wl_395 wl_396 wl_65 wl_397 hd_X2_giveFromOldest ⟨Nat.le_of_ble_eq_true rfl, Nat.le_of_ble_eq_true rfl⟩ ⟨rfl, rfl⟩ ⟨Nat.zero_le _, Nat.zero_le _⟩ rfl (Nat.le_of_ble_eq_true rfl) rfl hl.1 hP hD hS dX5_creepDown_85 (fun H locs hP hD hS => ?_)
      refine lv_aload_n hx hb dX5_creepDown_88 rfl (lv_at hl 1 rfl) ?_
      obtain ⟨b_19, eb_19, h⟩ := rfm_some h
      refine gf_5_3 C hP k_3 eb_19 wl_41 dX5_creepDown_89 ?_
      refine lv_dup hx hb dX5_creepDown_92 rfl ?_
      obtain ⟨k_20, h⟩ := chk_some h
      refine gf_1_0 C hP k_20 wl_299 dX5_creepDown_93 ?_
      refine lv_aload_n hx hb dX5_creepDown_96 rfl (lv_at hl 0 rfl) ?_
      refine gf_0_5 C hP k_8 wl_386 dX5_creepDown_97 ?_
      refine lv_iadd hx hb dX5_creepDown_100 ?_
      refine pf_1_0 C hP hD hS k_20 wl_299 dX5_creepDown_101 (fun M_21 H locs eM_21 hP hD hS => ?_)
      replace h := bnd_at h eM_21
      exact (bs_X5_creepDown_104 C hj7) _ _ _ _ h hP hD hS _ (lv_sub hl [1, 2] rfl)
    · replace h := ite_f h c_13
      refine lv_aload_n hx hb dX5_creepDown_36 rfl (lv_at hl 0 rfl) ?_
      obtain ⟨b_22, eb_22, h⟩ := rfm_some h
      refine gf_0_0 C hP k_8 eb_22 wl_125 dX5_creepDown_37 ?_
      refine lv_aload_n hx hb dX5_creepDown_40 rfl (lv_at hl 0 rfl) ?_
      refine gf_0_5 C hP k_8 wl_386 dX5_creepDown_41 ?_
      refine lv_aload_n hx hb dX5_creepDown_44 rfl (lv_at hl 1 rfl) ?_
      refine gf_5_1 C hP k_3 eb_4 wl_35 dX5_creepDown_45 ?_
      refine lv_iload_n hx hb dX5_creepDown_48 rfl (lv_at hl 2 rfl) ?_
      refine lv_iconst (v := 1) hx hb dX5_creepDown_49 (by decide) ?_
      refine lv_iadd hx hb dX5_creepDown_50 ?_
      obtain ⟨k_23, h⟩ := chk_some h
      obtain ⟨b_24, eb_24, h⟩ := rfm_some h
      refine ar_11 C hP k_5 k_23 eb_24 dX5_creepDown_51 ?_
      obtain ⟨k_25, h⟩ := chk_some h
      obtain ⟨b_26, eb_26, h⟩ := rfm_some h
      refine gf_0_0 C hP k_25 eb_26 wl_125 dX5_creepDown_52 ?_
      obtain ⟨k_27, h⟩ := chk_some h
      obtain ⟨r_28, M_29, hc_30, h⟩ := cal_some h
      refine cl_Vv (As := [.int (gI M_12 b_7 5), .ref b_26]) (rest := []) C (ct_X2_giveFromOldest hc_30) k_27 (by decide) rfl wl_394 wl_395 wl_396 wl_65 wl_397 hd_X2_giveFromOldest ⟨Nat.le_of_ble_eq_true rfl, Nat.le_of_ble_eq_true rfl⟩ ⟨rfl, rfl⟩ ⟨Nat.zero_le _, Nat.zero_le _⟩ rfl (Nat.le_of_ble_eq_true rfl) rfl hl.1 hP hD hS dX5_creepDown_55 (fun H locs hP hD hS => ?_)
      refine lv_aload_n hx hb dX5_creepDown_58 rfl (lv_at hl 1 rfl) ?_
      refine gf_5_1 C hP k_3 eb_4 wl_35 dX5_creepDown_59 ?_
      refine lv_iload_n hx hb dX5_creepDown_62 rfl (lv_at hl 2 rfl) ?_
      refine lv_iconst (v := 1) hx hb dX5_creepDown_63 (by decide) ?_
      refine lv_iadd hx hb dX5_creepDown_64 ?_
      refine ar_11 C hP k_5 k_23 eb_24 dX5_creepDown_65 ?_
      refine lv_aload_n hx hb dX5_creepDown_66 rfl (lv_at hl 0 rfl) ?_
      refine gf_0_5 C hP k_8 wl_386 dX5_creepDown_67 ?_
      refine pf_0_6 C hP hD hS k_25 wl_387 dX5_creepDown_70 (fun M_31 H locs eM_31 hP hD hS => ?_)
      replace h := bnd_at h eM_31
      refine lv_goto (tgt := 104) hx hb dX5_creepDown_73 (by decide) ?_
      exact (bs_X5_creepDown_104 C hj7) _ _ _ _ h hP hD hS _ (lv_sub hl [1, 2] rfl)
theorem bt_X5_creepDown_7 {p : Program} {l : Launch} {e : Env} {s : State} {m : MethodId} {args : Array Value} {below : List Frame} {meth : Method} {c : Code} {D : va_G} {cy : Cy} {A : Nat → Prop} {T : Ty} {R : Rm} {r : Unit} {M9 : Mm} {a0 : Nat} (C : Cx RX5 cX5_creepDown 3 none p s m args meth c D cy A) :
    ∀ n : Nat, ∀ (x1 : Int32) (M : Mm) (H : Heap) (locs : List Loc), fb_X5_creepDown_7 T R a0 n x1 M = some (r, M9) → va_P D vwCl (WL cy T M R) H → va_D A (WL cy T M R) → va_S A s.heap H locs → ∀ ls : Array Slot, lv_has ls 3 [(0, .ref a0), (1, .int x1)] → W p l e rm_X5_creepDown s m args below meth c H locs 0 0 (MQ below (QcV D cy T M9 R A r) args s 0 0 A) (F0 m 7 ls []) := by
  intro n
  induction n with
  | zero =>
    intro _ _ H locs h
    exact absurd (show (none : Option (Unit × Mm)) = some _ from h) (by simp)
  | succ n ih => exact fun u0 u1 H locs h => bs_X5_creepDown_7 (a0 := a0) C ih u0 u1 H locs h
set_option maxHeartbeats 4000000 in
set_option maxRecDepth 100000 in
theorem ct_X5_creepDown {l : Launch} {D : va_G} {cy : Cy} {T : Ty} {R : Rm} {a0 : Nat} {M : Mm} {r : Unit} {M9 : Mm} (h : fn_X5_creepDown T R a0 M = some (r, M9)) : Ct QcV l yX5_creepDown cX5_creepDown 3 none rm_X5_creepDown D cy T M R [.ref a0] M9 R r := by
  unfold fn_X5_creepDown at h
  refine enter (plainFor_of_name (by decide +kernel)) (Nat.le_of_ble_eq_true rfl) (fun p e s m args below meth c A C hP hD hS ls hl => ?_)
  have hl : lv_has ls 3 [(0, .ref a0)] := hl
  obtain ⟨hx, hb, hr, hml, hown, hts, hK, hA, hlk, hSt⟩ := id C
  refine lv_aload_n hx hb dX5_creepDown_0 rfl (lv_at hl 0 rfl) ?_
  obtain ⟨k_32, h⟩ := chk_some h
  refine gf_5_4 C hP k_32 wl_42 dX5_creepDown_1 ?_
  refine lv_iconst (v := 1) hx hb dX5_creepDown_4 (by decide) ?_
  refine lv_isub hx hb dX5_creepDown_5 ?_
  refine lv_topi (fun v_33 ev_33 => ?_)
  replace h := bnd_at h ev_33
  refine lv_istore_n (lv' := [(1, .int v_33), (0, .ref a0)]) hx hb dX5_creepDown_6 rfl hl (by decide) rfl (fun ls hl => ?_)
  exact (bt_X5_creepDown_7 C FU) _ _ _ _ h hP hD hS _ (lv_sub hl [1, 0] rfl)
abbrev rm_X5_moveDown : Room := { frames := 0, cells := 0, slots := 0, locals := 0 }
theorem hd_X5_moveDown : yX5_moveDown.cls = RX5 ∧ yX5_moveDown.cls ≠ "java/lang/invoke/MethodHandle" ∧ yX5_moveDown.cls ≠ "java/lang/invoke/VarHandle" ∧ (parseMethodDescriptor yX5_moveDown.desc).map (fun d => d.parameters.length) = some 2 := ⟨rfl, by decide +kernel, by decide +kernel, by decide +kernel⟩
set_option maxHeartbeats 4000000 in
set_option maxRecDepth 100000 in
theorem bs_X5_moveDown_8 {p : Program} {l : Launch} {e : Env} {s : State} {m : MethodId} {args : Array Value} {below : List Frame} {meth : Method} {c : Code} {D : va_G} {cy : Cy} {A : Nat → Prop} {T : Ty} {R : Rm} {r : Unit} {M9 : Mm} {a0 : Nat} {a1 : Nat} {x2 : Int32} {j8 : Int32 → Int32 → Mm → Option (Unit × Mm)} (C : Cx RX5 cX5_moveDown 5 none p s m args meth c D cy A)
    (hj8 : ∀ (x3 : Int32) (x4 : Int32) (M : Mm) (H : Heap) (locs : List Loc), j8 x3 x4 M = some (r, M9) → va_P D vwCl (WL cy T M R) H → va_D A (WL cy T M R) → va_S A s.heap H locs → ∀ ls : Array Slot, lv_has ls 5 [(0, .ref a0), (1, .ref a1), (3, .int x3), (4, .int x4)] → W p l e rm_X5_moveDown s m args below meth c H locs 0 0 (MQ below (QcV D cy T M9 R A r) args s 0 0 A) (F0 m 8 ls [])) :
    ∀ (x3 : Int32) (x4 : Int32) (M : Mm) (H : Heap) (locs : List Loc), fs_X5_moveDown_8 T R a0 a1 x2 j8 x3 x4 M = some (r, M9) → va_P D vwCl (WL cy T M R) H → va_D A (WL cy T M R) → va_S A s.heap H locs → ∀ ls : Array Slot, lv_has ls 5 [(0, .ref a0), (1, .ref a1), (3, .int x3), (4, .int x4)] → W p l e rm_X5_moveDown s m args below meth c H locs 0 0 (MQ below (QcV D cy T M9 R A r) args s 0 0 A) (F0 m 8 ls []) := by
  intro x3 x4 M H locs h hP hD hS ls hl
  unfold fs_X5_moveDown_8 at h
  obtain ⟨hx, hb, hr, hml, hown, hts, hK, hA, hlk, hSt⟩ := id C
  refine lv_iload hx hb dX5_moveDown_8 (lv_at hl 3 rfl) ?_
  refine lv_aload_n hx hb dX5_moveDown_10 rfl (lv_at hl 0 rfl) ?_
  obtain ⟨k_1, h⟩ := chk_some h
  refine gf_5_4 C hP k_1 wl_42 dX5_moveDown_11 ?_
  refine lv_icmp_ge (tgt := 62) hx hb dX5_moveDown_14 (by decide) (fun c_2 => ?_) (fun c_2 => ?_)
  · replace h := ite_t h c_2
    refine lv_aload_n hx hb dX5_moveDown_62 rfl (lv_at hl 1 rfl) ?_
    refine lv_iconst (v := 2) hx hb dX5_moveDown_63 (by decide) ?_
    obtain ⟨k_3, h⟩ := chk_some h
    refine pf_3_4 C hP hD hS k_3 wl_120 dX5_moveDown_64 (fun M_4 H locs eM_4 hP hD hS => ?_)
    replace h := bnd_at h eM_4
    cases h
    exact rt_v C hP hD hS dX5_moveDown_67
  · replace h := ite_f h c_2
    refine lv_iload_n hx hb dX5_moveDown_17 rfl (lv_at hl 2 rfl) ?_
    refine lv_aload_n hx hb dX5_moveDown_18 rfl (lv_at hl 0 rfl) ?_
    obtain ⟨b_5, eb_5, h⟩ := rfm_some h
    refine gf_5_1 C hP k_1 eb_5 wl_35 dX5_moveDown_19 ?_
    refine lv_iload hx hb dX5_moveDown_22 (lv_at hl 3 rfl) ?_
    obtain ⟨k_6, h⟩ := chk_some h
    obtain ⟨k_7, h⟩ := chk_some h
    obtain ⟨b_8, eb_8, h⟩ := rfm_some h
    refine ar_11 C hP k_6 k_7 eb_8 dX5_moveDown_24 ?_
    obtain ⟨k_9, h⟩ := chk_some h
    refine gf_0_2 C hP k_9 wl_418 dX5_moveDown_25 ?_
    refine lv_icmp_ge (tgt := 43) hx hb dX5_moveDown_28 (by decide) (fun c_10 => ?_) (fun c_10 => ?_)
    · replace h := ite_t h c_10
      refine lv_iload_n hx hb dX5_moveDown_43 rfl (lv_at hl 2 rfl) ?_
      refine lv_aload_n hx hb dX5_moveDown_44 rfl (lv_at hl 0 rfl) ?_
      refine gf_5_1 C hP k_1 eb_5 wl_35 dX5_moveDown_45 ?_
      refine lv_iload hx hb dX5_moveDown_48 (lv_at hl 3 rfl) ?_
      refine ar_11 C hP k_6 k_7 eb_8 dX5_moveDown_50 ?_
      refine gf_0_2 C hP k_9 wl_418 dX5_moveDown_51 ?_
      refine lv_isub hx hb dX5_moveDown_54 ?_
      refine lv_topi (fun v_11 ev_11 => ?_)
      replace h := bnd_at h ev_11
      refine lv_istore_n (lv' := [(3, .int v_11), (0, .ref a0), (1, .ref a1), (4, .int x4)]) hx hb dX5_moveDown_55 rfl hl (by decide) rfl (fun ls hl => ?_)
      obtain ⟨v_12, ev_12⟩ : ∃ y : Int32, y = (x4 + (1 : Int32)) := ⟨_, rfl⟩
      replace h := bnd_at h ev_12
      refine lv_iinc (v := v_12) (lv' := [(4, .int v_12), (3, .int v_11), (0, .ref a0), (1, .ref a1)]) hx hb dX5_moveDown_56 hl (k := 3) rfl (by rw [ev_12]; rfl) (by decide) rfl (fun ls hl => ?_)
      refine lv_goto (tgt := 8) hx hb dX5_moveDown_59 (by decide) ?_
      exact hj8 _ _ _ _ _ h hP hD hS _ (lv_sub hl [2, 3, 1, 0] rfl)
    · replace h := ite_f h c_10
      refine lv_aload_n hx hb dX5_moveDown_31 rfl (lv_at hl 1 rfl) ?_
      refine lv_iload hx hb dX5_moveDown_32 (lv_at hl 3 rfl) ?_
      obtain ⟨k_13, h⟩ := chk_some h
      refine pf_3_0 C hP hD hS k_13 wl_317 dX5_moveDown_34 (fun M_14 H locs eM_14 hP hD hS => ?_)
      replace h := bnd_at h eM_14
      refine lv_aload_n hx hb dX5_moveDown_37 rfl (lv_at hl 1 rfl) ?_
      refine lv_iload_n hx hb dX5_moveDown_38 rfl (lv_at hl 2 rfl) ?_
      refine pf_3_1 C hP hD hS k_13 wl_318 dX5_moveDown_39 (fun M_15 H locs eM_15 hP hD hS => ?_)
      replace h := bnd_at h eM_15
      cases h
      exact rt_v C hP hD hS dX5_moveDown_42
theorem bt_X5_moveDown_8 {p : Program} {l : Launch} {e : Env} {s : State} {m : MethodId} {args : Array Value} {below : List Frame} {meth : Method} {c : Code} {D : va_G} {cy : Cy} {A : Nat → Prop} {T : Ty} {R : Rm} {r : Unit} {M9 : Mm} {a0 : Nat} {a1 : Nat} {x2 : Int32} (C : Cx RX5 cX5_moveDown 5 none p s m args meth c D cy A) :
    ∀ n : Nat, ∀ (x3 : Int32) (x4 : Int32) (M : Mm) (H : Heap) (locs : List Loc), fb_X5_moveDown_8 T R a0 a1 x2 n x3 x4 M = some (r, M9) → va_P D vwCl (WL cy T M R) H → va_D A (WL cy T M R) → va_S A s.heap H locs → ∀ ls : Array Slot, lv_has ls 5 [(0, .ref a0), (1, .ref a1), (3, .int x3), (4, .int x4)] → W p l e rm_X5_moveDown s m args below meth c H locs 0 0 (MQ below (QcV D cy T M9 R A r) args s 0 0 A) (F0 m 8 ls []) := by
  intro n
  induction n with
  | zero =>
    intro _ _ _ H locs h
    exact absurd (show (none : Option (Unit × Mm)) = some _ from h) (by simp)
  | succ n ih => exact fun u0 u1 u2 H locs h => bs_X5_moveDown_8 (a0 := a0) (a1 := a1) (x2 := x2) C ih u0 u1 u2 H locs h
set_option maxHeartbeats 4000000 in
set_option maxRecDepth 100000 in
theorem ct_X5_moveDown {l : Launch} {D : va_G} {cy : Cy} {T : Ty} {R : Rm} {a0 : Nat} {a1 : Nat} {x2 : Int32} {M : Mm} {r : Unit} {M9 : Mm} (h : fn_X5_moveDown T R a0 a1 x2 M = some (r, M9)) : Ct QcV l yX5_moveDown cX5_moveDown 5 none rm_X5_moveDown D cy T M R [.ref a0, .ref a1, .int x2] M9 R r := by
  unfold fn_X5_moveDown at h
  refine enter (plainFor_of_name (by decide +kernel)) (Nat.le_of_ble_eq_true rfl) (fun p e s m args below meth c A C hP hD hS ls hl => ?_)
  have hl : lv_has ls 5 [(0, .ref a0), (1, .ref a1), (2, .int x2)] := hl
  obtain ⟨hx, hb, hr, hml, hown, hts, hK, hA, hlk, hSt⟩ := id C
  refine lv_iload_n hx hb dX5_moveDown_0 rfl (lv_at hl 2 rfl) ?_
  refine lv_istore_n (lv' := [(3, .int x2), (0, .ref a0), (1, .ref a1), (2, .int x2)]) hx hb dX5_moveDown_1 rfl hl (by decide) rfl (fun ls hl => ?_)
  refine lv_aload_n hx hb dX5_moveDown_2 rfl (lv_at hl 2 rfl) ?_
  obtain ⟨k_16, h⟩ := chk_some h
  refine gf_3_0 C hP k_16 wl_317 dX5_moveDown_3 ?_
  refine lv_topi (fun v_17 ev_17 => ?_)
  replace h := bnd_at h ev_17
  refine lv_istore (lv' := [(4, .int v_17), (3, .int x2), (0, .ref a0), (1, .ref a1), (2, .int x2)]) hx hb dX5_moveDown_6 hl (by decide) rfl (fun ls hl => ?_)
  exact (bt_X5_moveDown_8 C FU) _ _ _ _ _ h hP hD hS _ (lv_sub hl [2, 3, 1, 0] rfl)
abbrev rm_X5_ride : Room := { frames := 2, cells := 0, slots := 0, locals := 44 }
theorem hd_X5_ride : yX5_ride.cls = RX5 ∧ yX5_ride.cls ≠ "java/lang/invoke/MethodHandle" ∧ yX5_ride.cls ≠ "java/lang/invoke/VarHandle" ∧ (parseMethodDescriptor yX5_ride.desc).map (fun d => d.parameters.length) = some 1 := ⟨rfl, by decide +kernel, by decide +kernel, by decide +kernel⟩
set_option maxHeartbeats 4000000 in
set_option maxRecDepth 100000 in
theorem ct_X5_ride {l : Launch} {D : va_G} {cy : Cy} {T : Ty} {R : Rm} {a0 : Nat} {a1 : Nat} {M : Mm} {r : Unit} {M9 : Mm} (h : fn_X5_ride T R a0 a1 M = some (r, M9)) : Ct QcV l yX5_ride cX5_ride 3 none rm_X5_ride D cy T M R [.ref a0, .ref a1] M9 R r := by
  unfold fn_X5_ride at h
  refine enter (plainFor_of_name (by decide +kernel)) (Nat.le_of_ble_eq_true rfl) (fun p e s m args below meth c A C hP hD hS ls hl => ?_)
  have hl : lv_has ls 3 [(0, .ref a0), (1, .ref a1)] := hl
  obtain ⟨hx, hb, hr, hml, hown, hts, hK, hA, hlk, hSt⟩ := id C
  refine lv_aload_n hx hb dX5_ride_0 rfl (lv_at hl 0 rfl) ?_
  refine lv_aload_n hx hb dX5_ride_1 rfl (lv_at hl 1 rfl) ?_
  obtain ⟨k_1, h⟩ := chk_some h
  refine gf_3_0 C hP k_1 wl_317 dX5_ride_2 ?_
  obtain ⟨k_2, h⟩ := chk_some h
  obtain ⟨r_3, M_4, hc_5, h⟩ := cal_some h
  refine cl_Vi (As := [.int (gI M a1 0)]) (rest := []) C (ct_X5_hasBand hc_5) k_2 (by decide) rfl wl_409 wl_232 wl_233 wl_14 wl_234 hd_X5_hasBand ⟨Nat.le_of_ble_eq_true rfl, Nat.le_of_ble_eq_true rfl⟩ ⟨rfl, rfl⟩ ⟨Nat.zero_le _, Nat.zero_le _⟩ rfl (Nat.le_of_ble_eq_true rfl) rfl hl.1 hP hD hS dX5_ride_5 (fun H locs hP hD hS => ?_)
  refine lv_if_ne (tgt := 12) hx hb dX5_ride_8 (by decide) (fun c_6 => ?_) (fun c_6 => ?_)
  · replace h := ite_f h c_6
    refine lv_aload_n hx hb dX5_ride_12 rfl (lv_at hl 0 rfl) ?_
    obtain ⟨b_7, eb_7, h⟩ := rfm_some h
    refine gf_5_1 C hP k_2 eb_7 wl_35 dX5_ride_13 ?_
    refine lv_aload_n hx hb dX5_ride_16 rfl (lv_at hl 1 rfl) ?_
    refine gf_3_0 C hP k_1 wl_317 dX5_ride_17 ?_
    obtain ⟨k_8, h⟩ := chk_some h
    obtain ⟨k_9, h⟩ := chk_some h
    obtain ⟨b_10, eb_10, h⟩ := rfm_some h
    refine ar_11 C hP k_8 k_9 eb_10 dX5_ride_20 ?_
    refine lv_astore_n (lv' := [(2, .ref b_10), (0, .ref a0), (1, .ref a1)]) hx hb dX5_ride_21 rfl hl (by decide) rfl (fun ls hl => ?_)
    refine lv_aload_n hx hb dX5_ride_22 rfl (lv_at hl 2 rfl) ?_
    refine lv_dup hx hb dX5_ride_23 rfl ?_
    refine gf_3_5 C hP k_1 wl_407 dX5_ride_24 ?_
    refine lv_iconst (v := 1) hx hb dX5_ride_27 (by decide) ?_
    refine lv_iadd hx hb dX5_ride_28 ?_
    refine pf_3_5 C hP hD hS k_1 wl_407 dX5_ride_29 (fun M_11 H locs eM_11 hP hD hS => ?_)
    replace h := bnd_at h eM_11
    refine lv_aload_n hx hb dX5_ride_32 rfl (lv_at hl 2 rfl) ?_
    refine lv_dup hx hb dX5_ride_33 rfl ?_
    refine gf_3_3 C hP k_1 wl_339 dX5_ride_34 ?_
    refine lv_aload_n hx hb dX5_ride_37 rfl (lv_at hl 1 rfl) ?_
    refine lv_aload_n hx hb dX5_ride_38 rfl (lv_at hl 0 rfl) ?_
    obtain ⟨k_12, h⟩ := chk_some h
    refine gf_0_1 C hP k_12 wl_193 dX5_ride_39 ?_
    obtain ⟨r_13, M_14, hc_15, h⟩ := cal_some h
    refine cl_Vi (As := [.int (gI M_11 b_10 1)]) (rest := [.int (gI M_11 a1 3), .ref a1]) C (ct_X5_snowAt hc_15) k_2 (by decide) rfl wl_372 wl_251 wl_252 wl_14 wl_253 hd_X5_snowAt ⟨Nat.le_of_ble_eq_true rfl, Nat.le_of_ble_eq_true rfl⟩ ⟨rfl, rfl⟩ ⟨Nat.zero_le _, Nat.zero_le _⟩ rfl (Nat.le_of_ble_eq_true rfl) rfl hl.1 hP hD hS dX5_ride_42 (fun H locs hP hD hS => ?_)
    refine lv_aload_n hx hb dX5_ride_45 rfl (lv_at hl 0 rfl) ?_
    refine gf_0_4 C hP k_12 wl_371 dX5_ride_46 ?_
    refine lv_isub hx hb dX5_ride_49 ?_
    refine lv_iadd hx hb dX5_ride_50 ?_
    refine pf_3_3 C hP hD hS k_1 wl_339 dX5_ride_51 (fun M_16 H locs eM_16 hP hD hS => ?_)
    replace h := bnd_at h eM_16
    refine lv_aload_n hx hb dX5_ride_54 rfl (lv_at hl 2 rfl) ?_
    refine gf_3_3 C hP k_1 wl_339 dX5_ride_55 ?_
    refine lv_aload_n hx hb dX5_ride_58 rfl (lv_at hl 2 rfl) ?_
    refine gf_3_2 C hP k_1 wl_408 dX5_ride_59 ?_
    refine lv_ineg hx hb dX5_ride_62 ?_
    refine lv_icmp_ge (tgt := 74) hx hb dX5_ride_63 (by decide) (fun c_17 => ?_) (fun c_17 => ?_)
    · replace h := ite_t h c_17
      refine lv_aload_n hx hb dX5_ride_74 rfl (lv_at hl 1 rfl) ?_
      refine lv_aload_n hx hb dX5_ride_75 rfl (lv_at hl 2 rfl) ?_
      refine lv_aload_n hx hb dX5_ride_76 rfl (lv_at hl 2 rfl) ?_
      refine gf_3_1 C hP k_1 wl_318 dX5_ride_77 ?_
      refine lv_aload_n hx hb dX5_ride_80 rfl (lv_at hl 0 rfl) ?_
      obtain ⟨r_18, M_19, hc_20, h⟩ := cal_some h
      refine cl_Vi (As := []) (rest := [.int (gI M_16 a1 1), .ref a1, .ref a0]) C (ct_X0_way hc_20) k_12 (by decide) rfl wl_410 wl_411 wl_412 wl_50 wl_413 hd_X0_way ⟨Nat.le_of_ble_eq_true rfl, Nat.le_of_ble_eq_true rfl⟩ ⟨rfl, rfl⟩ ⟨Nat.zero_le _, Nat.zero_le _⟩ rfl (Nat.le_of_ble_eq_true rfl) rfl hl.1 hP hD hS dX5_ride_81 (fun H locs hP hD hS => ?_)
      refine lv_iadd hx hb dX5_ride_84 ?_
      obtain ⟨r_21, M_22, hc_23, h⟩ := cal_some h
      refine cl_Vv (As := [.ref a1, .int ((gI M_16 a1 1) + r_18)]) (rest := []) C (ct_X5_moveDown hc_23) k_2 (by decide) rfl wl_414 wl_415 wl_416 wl_14 wl_417 hd_X5_moveDown ⟨Nat.le_of_ble_eq_true rfl, Nat.le_of_ble_eq_true rfl⟩ ⟨rfl, rfl⟩ ⟨Nat.zero_le _, Nat.zero_le _⟩ rfl (Nat.le_of_ble_eq_true rfl) rfl hl.1 hP hD hS dX5_ride_85 (fun H locs hP hD hS => ?_)
      cases h
      exact rt_v C hP hD hS dX5_ride_88
    · replace h := ite_f h c_17
      refine lv_aload_n hx hb dX5_ride_66 rfl (lv_at hl 2 rfl) ?_
      refine lv_iconst (v := 1) hx hb dX5_ride_67 (by decide) ?_
      refine pf_3_4 C hP hD hS k_1 wl_120 dX5_ride_68 (fun M_24 H locs eM_24 hP hD hS => ?_)
      replace h := bnd_at h eM_24
      refine lv_goto (tgt := 88) hx hb dX5_ride_71 (by decide) ?_
      cases h
      exact rt_v C hP hD hS dX5_ride_88
  · replace h := ite_t h c_6
    cases h
    exact rt_v C hP hD hS dX5_ride_11
abbrev rm_X5_letYearGoBy : Room := { frames := 4, cells := 0, slots := 0, locals := 91 }
theorem hd_X5_letYearGoBy : yX5_letYearGoBy.cls = RX5 ∧ yX5_letYearGoBy.cls ≠ "java/lang/invoke/MethodHandle" ∧ yX5_letYearGoBy.cls ≠ "java/lang/invoke/VarHandle" ∧ (parseMethodDescriptor yX5_letYearGoBy.desc).map (fun d => d.parameters.length) = some 0 := ⟨rfl, by decide +kernel, by decide +kernel, by decide +kernel⟩
set_option maxHeartbeats 4000000 in
set_option maxRecDepth 100000 in
theorem bs_X5_letYearGoBy_106 {p : Program} {l : Launch} {e : Env} {s : State} {m : MethodId} {args : Array Value} {below : List Frame} {meth : Method} {c : Code} {D : va_G} {cy : Cy} {A : Nat → Prop} {T : Ty} {R : Rm} {r : Unit} {M9 : Mm} {a0 : Nat} {j76 : Int32 → Mm → Option (Unit × Mm)} (C : Cx RX5 cX5_letYearGoBy 2 none p s m args meth c D cy A)
    (hj76 : ∀ (x1 : Int32) (M : Mm) (H : Heap) (locs : List Loc), j76 x1 M = some (r, M9) → va_P D vwCl (WL cy T M R) H → va_D A (WL cy T M R) → va_S A s.heap H locs → ∀ ls : Array Slot, lv_has ls 2 [(0, .ref a0), (1, .int x1)] → W p l e rm_X5_letYearGoBy s m args below meth c H locs 0 0 (MQ below (QcV D cy T M9 R A r) args s 0 0 A) (F0 m 76 ls [])) :
    ∀ (x1 : Int32) (M : Mm) (H : Heap) (locs : List Loc), fs_X5_letYearGoBy_106 T R a0 j76 x1 M = some (r, M9) → va_P D vwCl (WL cy T M R) H → va_D A (WL cy T M R) → va_S A s.heap H locs → ∀ ls : Array Slot, lv_has ls 2 [(0, .ref a0), (1, .int x1)] → W p l e rm_X5_letYearGoBy s m args below meth c H locs 0 0 (MQ below (QcV D cy T M9 R A r) args s 0 0 A) (F0 m 106 ls []) := by
  intro x1 M H locs h hP hD hS ls hl
  unfold fs_X5_letYearGoBy_106 at h
  obtain ⟨hx, hb, hr, hml, hown, hts, hK, hA, hlk, hSt⟩ := id C
  obtain ⟨v_1, ev_1⟩ : ∃ y : Int32, y = (x1 + (1 : Int32)) := ⟨_, rfl⟩
  replace h := bnd_at h ev_1
  refine lv_iinc (v := v_1) (lv' := [(1, .int v_1), (0, .ref a0)]) hx hb dX5_letYearGoBy_106 hl (k := 1) rfl (by rw [ev_1]; rfl) (by decide) rfl (fun ls hl => ?_)
  refine lv_goto (tgt := 76) hx hb dX5_letYearGoBy_109 (by decide) ?_
  exact hj76 _ _ _ _ h hP hD hS _ (lv_sub hl [1, 0] rfl)
set_option maxHeartbeats 4000000 in
set_option maxRecDepth 100000 in
theorem bs_X5_letYearGoBy_76 {p : Program} {l : Launch} {e : Env} {s : State} {m : MethodId} {args : Array Value} {below : List Frame} {meth : Method} {c : Code} {D : va_G} {cy : Cy} {A : Nat → Prop} {T : Ty} {R : Rm} {r : Unit} {M9 : Mm} {a0 : Nat} {j76 : Int32 → Mm → Option (Unit × Mm)} (C : Cx RX5 cX5_letYearGoBy 2 none p s m args meth c D cy A)
    (hj76 : ∀ (x1 : Int32) (M : Mm) (H : Heap) (locs : List Loc), j76 x1 M = some (r, M9) → va_P D vwCl (WL cy T M R) H → va_D A (WL cy T M R) → va_S A s.heap H locs → ∀ ls : Array Slot, lv_has ls 2 [(0, .ref a0), (1, .int x1)] → W p l e rm_X5_letYearGoBy s m args below meth c H locs 0 0 (MQ below (QcV D cy T M9 R A r) args s 0 0 A) (F0 m 76 ls [])) :
    ∀ (x1 : Int32) (M : Mm) (H : Heap) (locs : List Loc), fs_X5_letYearGoBy_76 T R a0 j76 x1 M = some (r, M9) → va_P D vwCl (WL cy T M R) H → va_D A (WL cy T M R) → va_S A s.heap H locs → ∀ ls : Array Slot, lv_has ls 2 [(0, .ref a0), (1, .int x1)] → W p l e rm_X5_letYearGoBy s m args below meth c H locs 0 0 (MQ below (QcV D cy T M9 R A r) args s 0 0 A) (F0 m 76 ls []) := by
  intro x1 M H locs h hP hD hS ls hl
  unfold fs_X5_letYearGoBy_76 at h
  obtain ⟨hx, hb, hr, hml, hown, hts, hK, hA, hlk, hSt⟩ := id C
  refine lv_iload_n hx hb dX5_letYearGoBy_76 rfl (lv_at hl 1 rfl) ?_
  refine lv_aload_n hx hb dX5_letYearGoBy_77 rfl (lv_at hl 0 rfl) ?_
  obtain ⟨k_2, h⟩ := chk_some h
  refine gf_5_5 C hP k_2 wl_43 dX5_letYearGoBy_78 ?_
  refine lv_icmp_ge (tgt := 112) hx hb dX5_letYearGoBy_81 (by decide) (fun c_3 => ?_) (fun c_3 => ?_)
  · replace h := ite_t h c_3
    cases h
    exact rt_v C hP hD hS dX5_letYearGoBy_112
  · replace h := ite_f h c_3
    refine lv_aload_n hx hb dX5_letYearGoBy_84 rfl (lv_at hl 0 rfl) ?_
    obtain ⟨b_4, eb_4, h⟩ := rfm_some h
    refine gf_5_2 C hP k_2 eb_4 wl_37 dX5_letYearGoBy_85 ?_
    refine lv_iload_n hx hb dX5_letYearGoBy_88 rfl (lv_at hl 1 rfl) ?_
    obtain ⟨k_5, h⟩ := chk_some h
    obtain ⟨k_6, h⟩ := chk_some h
    obtain ⟨b_7, eb_7, h⟩ := rfm_some h
    refine ar_12 C hP k_5 k_6 eb_7 dX5_letYearGoBy_89 ?_
    obtain ⟨k_8, h⟩ := chk_some h
    refine gf_3_4 C hP k_8 wl_120 dX5_letYearGoBy_90 ?_
    refine lv_if_ne (tgt := 106) hx hb dX5_letYearGoBy_93 (by decide) (fun c_9 => ?_) (fun c_9 => ?_)
    · replace h := ite_f h c_9
      exact (bs_X5_letYearGoBy_106 C hj76) _ _ _ _ h hP hD hS _ (lv_sub hl [0, 1] rfl)
    · replace h := ite_t h c_9
      refine lv_aload_n hx hb dX5_letYearGoBy_96 rfl (lv_at hl 0 rfl) ?_
      refine lv_aload_n hx hb dX5_letYearGoBy_97 rfl (lv_at hl 0 rfl) ?_
      refine gf_5_2 C hP k_2 eb_4 wl_37 dX5_letYearGoBy_98 ?_
      refine lv_iload_n hx hb dX5_letYearGoBy_101 rfl (lv_at hl 1 rfl) ?_
      refine ar_12 C hP k_5 k_6 eb_7 dX5_letYearGoBy_102 ?_
      obtain ⟨r_10, M_11, hc_12, h⟩ := cal_some h
      refine cl_Vv (As := [.ref b_7]) (rest := []) C (ct_X5_ride hc_12) k_2 (by decide) rfl wl_403 wl_404 wl_405 wl_14 wl_406 hd_X5_ride ⟨Nat.le_of_ble_eq_true rfl, Nat.le_of_ble_eq_true rfl⟩ ⟨rfl, rfl⟩ ⟨Nat.zero_le _, Nat.zero_le _⟩ rfl (Nat.le_of_ble_eq_true rfl) rfl hl.1 hP hD hS dX5_letYearGoBy_103 (fun H locs hP hD hS => ?_)
      exact (bs_X5_letYearGoBy_106 C hj76) _ _ _ _ h hP hD hS _ (lv_sub hl [0, 1] rfl)
theorem bt_X5_letYearGoBy_76 {p : Program} {l : Launch} {e : Env} {s : State} {m : MethodId} {args : Array Value} {below : List Frame} {meth : Method} {c : Code} {D : va_G} {cy : Cy} {A : Nat → Prop} {T : Ty} {R : Rm} {r : Unit} {M9 : Mm} {a0 : Nat} (C : Cx RX5 cX5_letYearGoBy 2 none p s m args meth c D cy A) :
    ∀ n : Nat, ∀ (x1 : Int32) (M : Mm) (H : Heap) (locs : List Loc), fb_X5_letYearGoBy_76 T R a0 n x1 M = some (r, M9) → va_P D vwCl (WL cy T M R) H → va_D A (WL cy T M R) → va_S A s.heap H locs → ∀ ls : Array Slot, lv_has ls 2 [(0, .ref a0), (1, .int x1)] → W p l e rm_X5_letYearGoBy s m args below meth c H locs 0 0 (MQ below (QcV D cy T M9 R A r) args s 0 0 A) (F0 m 76 ls []) := by
  intro n
  induction n with
  | zero =>
    intro _ _ H locs h
    exact absurd (show (none : Option (Unit × Mm)) = some _ from h) (by simp)
  | succ n ih => exact fun u0 u1 H locs h => bs_X5_letYearGoBy_76 (a0 := a0) C ih u0 u1 H locs h
set_option maxHeartbeats 4000000 in
set_option maxRecDepth 100000 in
theorem bs_X5_letYearGoBy_12 {p : Program} {l : Launch} {e : Env} {s : State} {m : MethodId} {args : Array Value} {below : List Frame} {meth : Method} {c : Code} {D : va_G} {cy : Cy} {A : Nat → Prop} {T : Ty} {R : Rm} {r : Unit} {M9 : Mm} {a0 : Nat} {j12 : Int32 → Mm → Option (Unit × Mm)} {j76 : Int32 → Mm → Option (Unit × Mm)} (C : Cx RX5 cX5_letYearGoBy 2 none p s m args meth c D cy A)
    (hj12 : ∀ (x1 : Int32) (M : Mm) (H : Heap) (locs : List Loc), j12 x1 M = some (r, M9) → va_P D vwCl (WL cy T M R) H → va_D A (WL cy T M R) → va_S A s.heap H locs → ∀ ls : Array Slot, lv_has ls 2 [(0, .ref a0), (1, .int x1)] → W p l e rm_X5_letYearGoBy s m args below meth c H locs 0 0 (MQ below (QcV D cy T M9 R A r) args s 0 0 A) (F0 m 12 ls []))
    (hj76 : ∀ (x1 : Int32) (M : Mm) (H : Heap) (locs : List Loc), j76 x1 M = some (r, M9) → va_P D vwCl (WL cy T M R) H → va_D A (WL cy T M R) → va_S A s.heap H locs → ∀ ls : Array Slot, lv_has ls 2 [(0, .ref a0), (1, .int x1)] → W p l e rm_X5_letYearGoBy s m args below meth c H locs 0 0 (MQ below (QcV D cy T M9 R A r) args s 0 0 A) (F0 m 76 ls [])) :
    ∀ (x1 : Int32) (M : Mm) (H : Heap) (locs : List Loc), fs_X5_letYearGoBy_12 T R a0 j12 j76 x1 M = some (r, M9) → va_P D vwCl (WL cy T M R) H → va_D A (WL cy T M R) → va_S A s.heap H locs → ∀ ls : Array Slot, lv_has ls 2 [(0, .ref a0), (1, .int x1)] → W p l e rm_X5_letYearGoBy s m args below meth c H locs 0 0 (MQ below (QcV D cy T M9 R A r) args s 0 0 A) (F0 m 12 ls []) := by
  intro x1 M H locs h hP hD hS ls hl
  unfold fs_X5_letYearGoBy_12 at h
  obtain ⟨hx, hb, hr, hml, hown, hts, hK, hA, hlk, hSt⟩ := id C
  refine lv_iload_n hx hb dX5_letYearGoBy_12 rfl (lv_at hl 1 rfl) ?_
  refine lv_aload_n hx hb dX5_letYearGoBy_13 rfl (lv_at hl 0 rfl) ?_
  obtain ⟨k_13, h⟩ := chk_some h
  refine gf_5_4 C hP k_13 wl_42 dX5_letYearGoBy_14 ?_
  refine lv_icmp_ge (tgt := 36) hx hb dX5_letYearGoBy_17 (by decide) (fun c_14 => ?_) (fun c_14 => ?_)
  · replace h := ite_t h c_14
    refine lv_aload_n hx hb dX5_letYearGoBy_36 rfl (lv_at hl 0 rfl) ?_
    obtain ⟨r_15, M_16, hc_17, h⟩ := cal_some h
    refine cl_Vv (As := []) (rest := []) C (ct_X5_creepDown hc_17) k_13 (by decide) rfl wl_382 wl_383 wl_384 wl_14 wl_385 hd_X5_creepDown ⟨Nat.le_of_ble_eq_true rfl, Nat.le_of_ble_eq_true rfl⟩ ⟨rfl, rfl⟩ ⟨Nat.zero_le _, Nat.zero_le _⟩ rfl (Nat.le_of_ble_eq_true rfl) rfl hl.1 hP hD hS dX5_letYearGoBy_37 (fun H locs hP hD hS => ?_)
    refine lv_aload_n hx hb dX5_letYearGoBy_40 rfl (lv_at hl 0 rfl) ?_
    refine lv_dup hx hb dX5_letYearGoBy_41 rfl ?_
    refine gf_5_10 C hP k_13 wl_48 dX5_letYearGoBy_42 ?_
    refine lv_aload_n hx hb dX5_letYearGoBy_45 rfl (lv_at hl 0 rfl) ?_
    obtain ⟨b_18, eb_18, h⟩ := rfm_some h
    refine gf_5_3 C hP k_13 eb_18 wl_41 dX5_letYearGoBy_46 ?_
    refine lv_aload_n hx hb dX5_letYearGoBy_49 rfl (lv_at hl 0 rfl) ?_
    obtain ⟨b_19, eb_19, h⟩ := rfm_some h
    refine gf_5_0 C hP k_13 eb_19 wl_33 dX5_letYearGoBy_50 ?_
    refine lv_iconst (v := 5) hx hb dX5_letYearGoBy_53 (by decide) ?_
    obtain ⟨k_20, h⟩ := chk_some h
    obtain ⟨k_21, h⟩ := chk_some h
    refine ar_9 C hP k_20 k_21 dX5_letYearGoBy_54 ?_
    refine lv_aload_n hx hb dX5_letYearGoBy_55 rfl (lv_at hl 0 rfl) ?_
    refine gf_5_0 C hP k_13 eb_19 wl_33 dX5_letYearGoBy_56 ?_
    refine lv_bipush (v := 6) hx hb dX5_letYearGoBy_59 (by decide) ?_
    obtain ⟨k_22, h⟩ := chk_some h
    refine ar_9 C hP k_20 k_22 dX5_letYearGoBy_61 ?_
    refine lv_aload_n hx hb dX5_letYearGoBy_62 rfl (lv_at hl 0 rfl) ?_
    refine gf_5_6 C hP k_13 wl_44 dX5_letYearGoBy_63 ?_
    obtain ⟨k_23, h⟩ := chk_some h
    obtain ⟨r_24, M_25, hc_26, h⟩ := cal_some h
    refine cl_Vi (As := [.int (gI M_16 b_19 (5 : Int32).toNatClampNeg), .int (gI M_16 b_19 (6 : Int32).toNatClampNeg), .int (gI M_16 a0 6)]) (rest := [.long (gJ M_16 a0 10), .ref a0]) C (ct_X1_calve hc_26) k_23 (by decide) rfl wl_399 wl_400 wl_401 wl_40 wl_402 hd_X1_calve ⟨Nat.le_of_ble_eq_true rfl, Nat.le_of_ble_eq_true rfl⟩ ⟨rfl, rfl⟩ ⟨Nat.zero_le _, Nat.zero_le _⟩ rfl (Nat.le_of_ble_eq_true rfl) rfl hl.1 hP hD hS dX5_letYearGoBy_66 (fun H locs hP hD hS => ?_)
    refine lv_i2l hx hb dX5_letYearGoBy_69 rfl ?_
    refine lv_ladd hx hb dX5_letYearGoBy_70 ?_
    refine pf_5_10 C hP hD hS k_13 wl_48 dX5_letYearGoBy_71 (fun M_27 H locs eM_27 hP hD hS => ?_)
    replace h := bnd_at h eM_27
    refine lv_iconst (v := 0) hx hb dX5_letYearGoBy_74 (by decide) ?_
    refine lv_istore_n (lv' := [(1, .int (0 : Int32)), (0, .ref a0)]) hx hb dX5_letYearGoBy_75 rfl hl (by decide) rfl (fun ls hl => ?_)
    exact hj76 _ _ _ _ h hP hD hS _ (lv_sub hl [1, 0] rfl)
  · replace h := ite_f h c_14
    refine lv_aload_n hx hb dX5_letYearGoBy_20 rfl (lv_at hl 0 rfl) ?_
    refine lv_aload_n hx hb dX5_letYearGoBy_21 rfl (lv_at hl 0 rfl) ?_
    obtain ⟨b_28, eb_28, h⟩ := rfm_some h
    refine gf_5_1 C hP k_13 eb_28 wl_35 dX5_letYearGoBy_22 ?_
    refine lv_iload_n hx hb dX5_letYearGoBy_25 rfl (lv_at hl 1 rfl) ?_
    obtain ⟨k_29, h⟩ := chk_some h
    obtain ⟨k_30, h⟩ := chk_some h
    obtain ⟨b_31, eb_31, h⟩ := rfm_some h
    refine ar_11 C hP k_29 k_30 eb_31 dX5_letYearGoBy_26 ?_
    obtain ⟨r_32, M_33, hc_34, h⟩ := cal_some h
    refine cl_Vv (As := [.ref b_31]) (rest := []) C (ct_X5_snowAndMelt hc_34) k_13 (by decide) rfl wl_367 wl_368 wl_369 wl_14 wl_370 hd_X5_snowAndMelt ⟨Nat.le_of_ble_eq_true rfl, Nat.le_of_ble_eq_true rfl⟩ ⟨rfl, rfl⟩ ⟨Nat.zero_le _, Nat.zero_le _⟩ rfl (Nat.le_of_ble_eq_true rfl) rfl hl.1 hP hD hS dX5_letYearGoBy_27 (fun H locs hP hD hS => ?_)
    obtain ⟨v_35, ev_35⟩ : ∃ y : Int32, y = (x1 + (1 : Int32)) := ⟨_, rfl⟩
    replace h := bnd_at h ev_35
    refine lv_iinc (v := v_35) (lv' := [(1, .int v_35), (0, .ref a0)]) hx hb dX5_letYearGoBy_30 hl (k := 1) rfl (by rw [ev_35]; rfl) (by decide) rfl (fun ls hl => ?_)
    refine lv_goto (tgt := 12) hx hb dX5_letYearGoBy_33 (by decide) ?_
    exact hj12 _ _ _ _ h hP hD hS _ (lv_sub hl [1, 0] rfl)
theorem bt_X5_letYearGoBy_12 {p : Program} {l : Launch} {e : Env} {s : State} {m : MethodId} {args : Array Value} {below : List Frame} {meth : Method} {c : Code} {D : va_G} {cy : Cy} {A : Nat → Prop} {T : Ty} {R : Rm} {r : Unit} {M9 : Mm} {a0 : Nat} {j76 : Int32 → Mm → Option (Unit × Mm)} (C : Cx RX5 cX5_letYearGoBy 2 none p s m args meth c D cy A)
    (hj76 : ∀ (x1 : Int32) (M : Mm) (H : Heap) (locs : List Loc), j76 x1 M = some (r, M9) → va_P D vwCl (WL cy T M R) H → va_D A (WL cy T M R) → va_S A s.heap H locs → ∀ ls : Array Slot, lv_has ls 2 [(0, .ref a0), (1, .int x1)] → W p l e rm_X5_letYearGoBy s m args below meth c H locs 0 0 (MQ below (QcV D cy T M9 R A r) args s 0 0 A) (F0 m 76 ls [])) :
    ∀ n : Nat, ∀ (x1 : Int32) (M : Mm) (H : Heap) (locs : List Loc), fb_X5_letYearGoBy_12 T R a0 j76 n x1 M = some (r, M9) → va_P D vwCl (WL cy T M R) H → va_D A (WL cy T M R) → va_S A s.heap H locs → ∀ ls : Array Slot, lv_has ls 2 [(0, .ref a0), (1, .int x1)] → W p l e rm_X5_letYearGoBy s m args below meth c H locs 0 0 (MQ below (QcV D cy T M9 R A r) args s 0 0 A) (F0 m 12 ls []) := by
  intro n
  induction n with
  | zero =>
    intro _ _ H locs h
    exact absurd (show (none : Option (Unit × Mm)) = some _ from h) (by simp)
  | succ n ih => exact fun u0 u1 H locs h => bs_X5_letYearGoBy_12 (a0 := a0) C ih hj76 u0 u1 H locs h
set_option maxHeartbeats 4000000 in
set_option maxRecDepth 100000 in
theorem ct_X5_letYearGoBy {l : Launch} {D : va_G} {cy : Cy} {T : Ty} {R : Rm} {a0 : Nat} {M : Mm} {r : Unit} {M9 : Mm} (h : fn_X5_letYearGoBy T R a0 M = some (r, M9)) : Ct QcV l yX5_letYearGoBy cX5_letYearGoBy 2 none rm_X5_letYearGoBy D cy T M R [.ref a0] M9 R r := by
  unfold fn_X5_letYearGoBy at h
  refine enter (plainFor_of_name (by decide +kernel)) (Nat.le_of_ble_eq_true rfl) (fun p e s m args below meth c A C hP hD hS ls hl => ?_)
  have hl : lv_has ls 2 [(0, .ref a0)] := hl
  obtain ⟨hx, hb, hr, hml, hown, hts, hK, hA, hlk, hSt⟩ := id C
  refine lv_aload_n hx hb dX5_letYearGoBy_0 rfl (lv_at hl 0 rfl) ?_
  refine lv_dup hx hb dX5_letYearGoBy_1 rfl ?_
  obtain ⟨k_36, h⟩ := chk_some h
  refine gf_5_6 C hP k_36 wl_44 dX5_letYearGoBy_2 ?_
  refine lv_iconst (v := 1) hx hb dX5_letYearGoBy_5 (by decide) ?_
  refine lv_iadd hx hb dX5_letYearGoBy_6 ?_
  refine pf_5_6 C hP hD hS k_36 wl_44 dX5_letYearGoBy_7 (fun M_37 H locs eM_37 hP hD hS => ?_)
  replace h := bnd_at h eM_37
  refine lv_iconst (v := 0) hx hb dX5_letYearGoBy_10 (by decide) ?_
  refine lv_istore_n (lv' := [(1, .int (0 : Int32)), (0, .ref a0)]) hx hb dX5_letYearGoBy_11 rfl hl (by decide) rfl (fun ls hl => ?_)
  exact (bt_X5_letYearGoBy_12 C (bt_X5_letYearGoBy_76 C FU) FU) _ _ _ _ h hP hD hS _ (lv_sub hl [1, 0] rfl)
abbrev rm_X5_letYearsGoBy : Room := { frames := 5, cells := 0, slots := 0, locals := 112 }
theorem hd_X5_letYearsGoBy : yX5_letYearsGoBy.cls = RX5 ∧ yX5_letYearsGoBy.cls ≠ "java/lang/invoke/MethodHandle" ∧ yX5_letYearsGoBy.cls ≠ "java/lang/invoke/VarHandle" ∧ (parseMethodDescriptor yX5_letYearsGoBy.desc).map (fun d => d.parameters.length) = some 1 := ⟨rfl, by decide +kernel, by decide +kernel, by decide +kernel⟩
set_option maxHeartbeats 4000000 in
set_option maxRecDepth 100000 in
theorem bs_X5_letYearsGoBy_2 {p : Program} {l : Launch} {e : Env} {s : State} {m : MethodId} {args : Array Value} {below : List Frame} {meth : Method} {c : Code} {D : va_G} {cy : Cy} {A : Nat → Prop} {T : Ty} {R : Rm} {r : Unit} {M9 : Mm} {a0 : Nat} {x1 : Int32} {j2 : Int32 → Mm → Option (Unit × Mm)} (C : Cx RX5 cX5_letYearsGoBy 3 none p s m args meth c D cy A)
    (hj2 : ∀ (x2 : Int32) (M : Mm) (H : Heap) (locs : List Loc), j2 x2 M = some (r, M9) → va_P D vwCl (WL cy T M R) H → va_D A (WL cy T M R) → va_S A s.heap H locs → ∀ ls : Array Slot, lv_has ls 3 [(0, .ref a0), (1, .int x1), (2, .int x2)] → W p l e rm_X5_letYearsGoBy s m args below meth c H locs 0 0 (MQ below (QcV D cy T M9 R A r) args s 0 0 A) (F0 m 2 ls [])) :
    ∀ (x2 : Int32) (M : Mm) (H : Heap) (locs : List Loc), fs_X5_letYearsGoBy_2 T R a0 x1 j2 x2 M = some (r, M9) → va_P D vwCl (WL cy T M R) H → va_D A (WL cy T M R) → va_S A s.heap H locs → ∀ ls : Array Slot, lv_has ls 3 [(0, .ref a0), (1, .int x1), (2, .int x2)] → W p l e rm_X5_letYearsGoBy s m args below meth c H locs 0 0 (MQ below (QcV D cy T M9 R A r) args s 0 0 A) (F0 m 2 ls []) := by
  intro x2 M H locs h hP hD hS ls hl
  unfold fs_X5_letYearsGoBy_2 at h
  obtain ⟨hx, hb, hr, hml, hown, hts, hK, hA, hlk, hSt⟩ := id C
  refine lv_iload_n hx hb dX5_letYearsGoBy_2 rfl (lv_at hl 2 rfl) ?_
  refine lv_iload_n hx hb dX5_letYearsGoBy_3 rfl (lv_at hl 1 rfl) ?_
  refine lv_icmp_ge (tgt := 17) hx hb dX5_letYearsGoBy_4 (by decide) (fun c_1 => ?_) (fun c_1 => ?_)
  · replace h := ite_t h c_1
    cases h
    exact rt_v C hP hD hS dX5_letYearsGoBy_17
  · replace h := ite_f h c_1
    refine lv_aload_n hx hb dX5_letYearsGoBy_7 rfl (lv_at hl 0 rfl) ?_
    obtain ⟨k_2, h⟩ := chk_some h
    obtain ⟨r_3, M_4, hc_5, h⟩ := cal_some h
    refine cl_Vv (As := []) (rest := []) C (ct_X5_letYearGoBy hc_5) k_2 (by decide) rfl wl_363 wl_364 wl_365 wl_14 wl_366 hd_X5_letYearGoBy ⟨Nat.le_of_ble_eq_true rfl, Nat.le_of_ble_eq_true rfl⟩ ⟨rfl, rfl⟩ ⟨Nat.zero_le _, Nat.zero_le _⟩ rfl (Nat.le_of_ble_eq_true rfl) rfl hl.1 hP hD hS dX5_letYearsGoBy_8 (fun H locs hP hD hS => ?_)
    obtain ⟨v_6, ev_6⟩ : ∃ y : Int32, y = (x2 + (1 : Int32)) := ⟨_, rfl⟩
    replace h := bnd_at h ev_6
    refine lv_iinc (v := v_6) (lv' := [(2, .int v_6), (0, .ref a0), (1, .int x1)]) hx hb dX5_letYearsGoBy_11 hl (k := 2) rfl (by rw [ev_6]; rfl) (by decide) rfl (fun ls hl => ?_)
    refine lv_goto (tgt := 2) hx hb dX5_letYearsGoBy_14 (by decide) ?_
    exact hj2 _ _ _ _ h hP hD hS _ (lv_sub hl [1, 2, 0] rfl)
theorem bt_X5_letYearsGoBy_2 {p : Program} {l : Launch} {e : Env} {s : State} {m : MethodId} {args : Array Value} {below : List Frame} {meth : Method} {c : Code} {D : va_G} {cy : Cy} {A : Nat → Prop} {T : Ty} {R : Rm} {r : Unit} {M9 : Mm} {a0 : Nat} {x1 : Int32} (C : Cx RX5 cX5_letYearsGoBy 3 none p s m args meth c D cy A) :
    ∀ n : Nat, ∀ (x2 : Int32) (M : Mm) (H : Heap) (locs : List Loc), fb_X5_letYearsGoBy_2 T R a0 x1 n x2 M = some (r, M9) → va_P D vwCl (WL cy T M R) H → va_D A (WL cy T M R) → va_S A s.heap H locs → ∀ ls : Array Slot, lv_has ls 3 [(0, .ref a0), (1, .int x1), (2, .int x2)] → W p l e rm_X5_letYearsGoBy s m args below meth c H locs 0 0 (MQ below (QcV D cy T M9 R A r) args s 0 0 A) (F0 m 2 ls []) := by
  intro n
  induction n with
  | zero =>
    intro _ _ H locs h
    exact absurd (show (none : Option (Unit × Mm)) = some _ from h) (by simp)
  | succ n ih => exact fun u0 u1 H locs h => bs_X5_letYearsGoBy_2 (a0 := a0) (x1 := x1) C ih u0 u1 H locs h
set_option maxHeartbeats 4000000 in
set_option maxRecDepth 100000 in
theorem ct_X5_letYearsGoBy {l : Launch} {D : va_G} {cy : Cy} {T : Ty} {R : Rm} {a0 : Nat} {x1 : Int32} {M : Mm} {r : Unit} {M9 : Mm} (h : fn_X5_letYearsGoBy T R a0 x1 M = some (r, M9)) : Ct QcV l yX5_letYearsGoBy cX5_letYearsGoBy 3 none rm_X5_letYearsGoBy D cy T M R [.ref a0, .int x1] M9 R r := by
  unfold fn_X5_letYearsGoBy at h
  refine enter (plainFor_of_name (by decide +kernel)) (Nat.le_of_ble_eq_true rfl) (fun p e s m args below meth c A C hP hD hS ls hl => ?_)
  have hl : lv_has ls 3 [(0, .ref a0), (1, .int x1)] := hl
  obtain ⟨hx, hb, hr, hml, hown, hts, hK, hA, hlk, hSt⟩ := id C
  refine lv_iconst (v := 0) hx hb dX5_letYearsGoBy_0 (by decide) ?_
  refine lv_istore_n (lv' := [(2, .int (0 : Int32)), (0, .ref a0), (1, .int x1)]) hx hb dX5_letYearsGoBy_1 rfl hl (by decide) rfl (fun ls hl => ?_)
  exact (bt_X5_letYearsGoBy_2 C FU) _ _ _ _ h hP hD hS _ (lv_sub hl [1, 2, 0] rfl)
