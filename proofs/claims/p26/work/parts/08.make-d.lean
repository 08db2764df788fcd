abbrev rm_X1_init : Room := { frames := 1, cells := 0, slots := 0, locals := 12 }
theorem hdN_X1_init : yX1_init.cls ≠ "java/lang/invoke/MethodHandle" ∧ yX1_init.cls ≠ "java/lang/invoke/VarHandle" ∧ (parseMethodDescriptor yX1_init.desc).map (fun d => d.parameters.length) = some 0 := ⟨by decide +kernel, by decide +kernel, by decide +kernel⟩
set_option maxHeartbeats 4000000 in
set_option maxRecDepth 100000 in
theorem ctN_X1_init {l : Launch} {D : va_G} {cy : Cy} {ad0 : Nat → Nat} {E0 E9 : Ee} {i0 a0 : Nat} (h : fnN_X1_init E0 i0 = some E9) (u_a0 : Pt ad0 E0 i0 a0) (hn : eN E9 = eN E0 + 0) (hs : eL E9 = eL E0 + 0) : CtN l yX1_init cX1_init 1 rm_X1_init D cy ad0 E0 [.ref a0] 0 0 E9 := by
  unfold fnN_X1_init at h
  refine enterN (plainFor_of_name (by decide +kernel)) rfl (Nat.le_of_ble_eq_true rfl) (fun p e s m args below meth c A C hin hCl hNW hw ls hl => ?_)
  have hl : lv_has ls 1 [(0, .ref a0)] := hl
  obtain ⟨hx, hb, hr, hml, hown, hts, hK, hA, hlk, hSt⟩ := id C
  have htr : ∀ i a, Pt ad0 E0 i a → Pt ad0 E0 i a := fun _ _ z => z
  have hN : eN E0 + 0 = eN E0 := rfl
  have hL : eL E0 + 0 = eL E0 := rfl
  refine lv_aload_n hx hb dX1_init_0 rfl (lv_at hl 0 rfl) ?_
  refine oi_n C wl_55 (Nat.le_of_ble_eq_true rfl) (Nat.le_of_ble_eq_true rfl) hl.1 dX1_init_1 ?_
  refine lv_aload_n hx hb dX1_init_4 rfl (lv_at hl 0 rfl) ?_
  refine lv_iconst (v := 0) hx hb dX1_init_5 (by decide) ?_
  obtain ⟨k_1, h⟩ := chk_some h
  refine np_1_0 C hw u_a0 k_1 wl_56 dX1_init_6 (fun E_2 H locs eE tr hz1 hz2 hw => ?_)
  replace h := bnd_at h eE
  replace u_a0 := tr _ _ u_a0
  have htr : ∀ i a, Pt ad0 E0 i a → Pt ad0 E_2 i a := fun i a h => tr i a (htr i a h)
  have hN : eN E0 + 0 = eN E_2 := hN.trans hz1.symm
  have hL : eL E0 + 0 = eL E_2 := hL.trans hz2.symm
  refine lv_aload_n hx hb dX1_init_9 rfl (lv_at hl 0 rfl) ?_
  refine lv_iconst (v := 0) hx hb dX1_init_10 (by decide) ?_
  obtain ⟨k_3, h⟩ := chk_some h
  refine np_1_1 C hw u_a0 k_3 wl_57 dX1_init_11 (fun E_4 H locs eE tr hz1 hz2 hw => ?_)
  replace h := bnd_at h eE
  replace u_a0 := tr _ _ u_a0
  have htr : ∀ i a, Pt ad0 E0 i a → Pt ad0 E_4 i a := fun i a h => tr i a (htr i a h)
  have hN : eN E0 + 0 = eN E_4 := hN.trans hz1.symm
  have hL : eL E0 + 0 = eL E_4 := hL.trans hz2.symm
  refine lv_aload_n hx hb dX1_init_14 rfl (lv_at hl 0 rfl) ?_
  refine lv_iconst (v := 0) hx hb dX1_init_15 (by decide) ?_
  obtain ⟨k_5, h⟩ := chk_some h
  refine np_1_2 C hw u_a0 k_5 wl_58 dX1_init_16 (fun E_6 H locs eE tr hz1 hz2 hw => ?_)
  replace h := bnd_at h eE
  replace u_a0 := tr _ _ u_a0
  have htr : ∀ i a, Pt ad0 E0 i a → Pt ad0 E_6 i a := fun i a h => tr i a (htr i a h)
  have hN : eN E0 + 0 = eN E_6 := hN.trans hz1.symm
  have hL : eL E0 + 0 = eL E_6 := hL.trans hz2.symm
  refine lv_aload_n hx hb dX1_init_19 rfl (lv_at hl 0 rfl) ?_
  refine lv_iconst (v := 0) hx hb dX1_init_20 (by decide) ?_
  obtain ⟨k_7, h⟩ := chk_some h
  refine np_1_3 C hw u_a0 k_7 wl_59 dX1_init_21 (fun E_8 H locs eE tr hz1 hz2 hw => ?_)
  replace h := bnd_at h eE
  replace u_a0 := tr _ _ u_a0
  have htr : ∀ i a, Pt ad0 E0 i a → Pt ad0 E_8 i a := fun i a h => tr i a (htr i a h)
  have hN : eN E0 + 0 = eN E_8 := hN.trans hz1.symm
  have hL : eL E0 + 0 = eL E_8 := hL.trans hz2.symm
  cases h
  exact rt_n C hw htr (by omega) (by omega) dX1_init_24
abbrev rm_X3_init : Room := { frames := 1, cells := 0, slots := 0, locals := 12 }
theorem hdN_X3_init : yX3_init.cls ≠ "java/lang/invoke/MethodHandle" ∧ yX3_init.cls ≠ "java/lang/invoke/VarHandle" ∧ (parseMethodDescriptor yX3_init.desc).map (fun d => d.parameters.length) = some 0 := ⟨by decide +kernel, by decide +kernel, by decide +kernel⟩
set_option maxHeartbeats 4000000 in
set_option maxRecDepth 100000 in
theorem ctN_X3_init {l : Launch} {D : va_G} {cy : Cy} {ad0 : Nat → Nat} {E0 E9 : Ee} {i0 a0 : Nat} (h : fnN_X3_init E0 i0 = some E9) (u_a0 : Pt ad0 E0 i0 a0) (hn : eN E9 = eN E0 + 0) (hs : eL E9 = eL E0 + 0) : CtN l yX3_init cX3_init 1 rm_X3_init D cy ad0 E0 [.ref a0] 0 0 E9 := by
  unfold fnN_X3_init at h
  refine enterN (plainFor_of_name (by decide +kernel)) rfl (Nat.le_of_ble_eq_true rfl) (fun p e s m args below meth c A C hin hCl hNW hw ls hl => ?_)
  have hl : lv_has ls 1 [(0, .ref a0)] := hl
  obtain ⟨hx, hb, hr, hml, hown, hts, hK, hA, hlk, hSt⟩ := id C
  have htr : ∀ i a, Pt ad0 E0 i a → Pt ad0 E0 i a := fun _ _ z => z
  have hN : eN E0 + 0 = eN E0 := rfl
  have hL : eL E0 + 0 = eL E0 := rfl
  refine lv_aload_n hx hb dX3_init_0 rfl (lv_at hl 0 rfl) ?_
  refine oi_n C wl_83 (Nat.le_of_ble_eq_true rfl) (Nat.le_of_ble_eq_true rfl) hl.1 dX3_init_1 ?_
  refine lv_aload_n hx hb dX3_init_4 rfl (lv_at hl 0 rfl) ?_
  refine lv_iconst (v := 0) hx hb dX3_init_5 (by decide) ?_
  obtain ⟨k_1, h⟩ := chk_some h
  refine np_3_0 C hw u_a0 k_1 wl_84 dX3_init_6 (fun E_2 H locs eE tr hz1 hz2 hw => ?_)
  replace h := bnd_at h eE
  replace u_a0 := tr _ _ u_a0
  have htr : ∀ i a, Pt ad0 E0 i a → Pt ad0 E_2 i a := fun i a h => tr i a (htr i a h)
  have hN : eN E0 + 0 = eN E_2 := hN.trans hz1.symm
  have hL : eL E0 + 0 = eL E_2 := hL.trans hz2.symm
  refine lv_aload_n hx hb dX3_init_9 rfl (lv_at hl 0 rfl) ?_
  refine lv_iconst (v := 0) hx hb dX3_init_10 (by decide) ?_
  obtain ⟨k_3, h⟩ := chk_some h
  refine np_3_1 C hw u_a0 k_3 wl_85 dX3_init_11 (fun E_4 H locs eE tr hz1 hz2 hw => ?_)
  replace h := bnd_at h eE
  replace u_a0 := tr _ _ u_a0
  have htr : ∀ i a, Pt ad0 E0 i a → Pt ad0 E_4 i a := fun i a h => tr i a (htr i a h)
  have hN : eN E0 + 0 = eN E_4 := hN.trans hz1.symm
  have hL : eL E0 + 0 = eL E_4 := hL.trans hz2.symm
  refine lv_aload_n hx hb dX3_init_14 rfl (lv_at hl 0 rfl) ?_
  refine lv_iconst (v := 0) hx hb dX3_init_15 (by decide) ?_
  obtain ⟨k_5, h⟩ := chk_some h
  refine np_3_2 C hw u_a0 k_5 wl_86 dX3_init_16 (fun E_6 H locs eE tr hz1 hz2 hw => ?_)
  replace h := bnd_at h eE
  replace u_a0 := tr _ _ u_a0
  have htr : ∀ i a, Pt ad0 E0 i a → Pt ad0 E_6 i a := fun i a h => tr i a (htr i a h)
  have hN : eN E0 + 0 = eN E_6 := hN.trans hz1.symm
  have hL : eL E0 + 0 = eL E_6 := hL.trans hz2.symm
  refine lv_aload_n hx hb dX3_init_19 rfl (lv_at hl 0 rfl) ?_
  refine lv_iconst (v := 0) hx hb dX3_init_20 (by decide) ?_
  obtain ⟨k_7, h⟩ := chk_some h
  refine np_3_3 C hw u_a0 k_7 wl_87 dX3_init_21 (fun E_8 H locs eE tr hz1 hz2 hw => ?_)
  replace h := bnd_at h eE
  replace u_a0 := tr _ _ u_a0
  have htr : ∀ i a, Pt ad0 E0 i a → Pt ad0 E_8 i a := fun i a h => tr i a (htr i a h)
  have hN : eN E0 + 0 = eN E_8 := hN.trans hz1.symm
  have hL : eL E0 + 0 = eL E_8 := hL.trans hz2.symm
  refine lv_aload_n hx hb dX3_init_24 rfl (lv_at hl 0 rfl) ?_
  refine lv_iconst (v := 0) hx hb dX3_init_25 (by decide) ?_
  obtain ⟨k_9, h⟩ := chk_some h
  refine np_3_4 C hw u_a0 k_9 wl_88 dX3_init_26 (fun E_10 H locs eE tr hz1 hz2 hw => ?_)
  replace h := bnd_at h eE
  replace u_a0 := tr _ _ u_a0
  have htr : ∀ i a, Pt ad0 E0 i a → Pt ad0 E_10 i a := fun i a h => tr i a (htr i a h)
  have hN : eN E0 + 0 = eN E_10 := hN.trans hz1.symm
  have hL : eL E0 + 0 = eL E_10 := hL.trans hz2.symm
  refine lv_aload_n hx hb dX3_init_29 rfl (lv_at hl 0 rfl) ?_
  refine lv_iconst (v := 0) hx hb dX3_init_30 (by decide) ?_
  obtain ⟨k_11, h⟩ := chk_some h
  refine np_3_5 C hw u_a0 k_11 wl_89 dX3_init_31 (fun E_12 H locs eE tr hz1 hz2 hw => ?_)
  replace h := bnd_at h eE
  replace u_a0 := tr _ _ u_a0
  have htr : ∀ i a, Pt ad0 E0 i a → Pt ad0 E_12 i a := fun i a h => tr i a (htr i a h)
  have hN : eN E0 + 0 = eN E_12 := hN.trans hz1.symm
  have hL : eL E0 + 0 = eL E_12 := hL.trans hz2.symm
  cases h
  exact rt_n C hw htr (by omega) (by omega) dX3_init_34
abbrev rm_X2_init : Room := { frames := 1, cells := 1, slots := 801, locals := 12 }
theorem hdN_X2_init : yX2_init.cls ≠ "java/lang/invoke/MethodHandle" ∧ yX2_init.cls ≠ "java/lang/invoke/VarHandle" ∧ (parseMethodDescriptor yX2_init.desc).map (fun d => d.parameters.length) = some 0 := ⟨by decide +kernel, by decide +kernel, by decide +kernel⟩
set_option maxHeartbeats 4000000 in
set_option maxRecDepth 100000 in
theorem ctN_X2_init {l : Launch} {D : va_G} {cy : Cy} {ad0 : Nat → Nat} {E0 E9 : Ee} {i0 a0 : Nat} (h : fnN_X2_init E0 i0 = some E9) (u_a0 : Pt ad0 E0 i0 a0) (hn : eN E9 = eN E0 + 1) (hs : eL E9 = eL E0 + 801) : CtN l yX2_init cX2_init 1 rm_X2_init D cy ad0 E0 [.ref a0] 1 801 E9 := by
  unfold fnN_X2_init at h
  refine enterN (plainFor_of_name (by decide +kernel)) rfl (Nat.le_of_ble_eq_true rfl) (fun p e s m args below meth c A C hin hCl hNW hw ls hl => ?_)
  have hl : lv_has ls 1 [(0, .ref a0)] := hl
  obtain ⟨hx, hb, hr, hml, hown, hts, hK, hA, hlk, hSt⟩ := id C
  have htr : ∀ i a, Pt ad0 E0 i a → Pt ad0 E0 i a := fun _ _ z => z
  have hN : eN E0 + 0 = eN E0 := rfl
  have hL : eL E0 + 0 = eL E0 := rfl
  refine lv_aload_n hx hb dX2_init_0 rfl (lv_at hl 0 rfl) ?_
  refine oi_n C wl_75 (Nat.le_of_ble_eq_true rfl) (Nat.le_of_ble_eq_true rfl) hl.1 dX2_init_1 ?_
  refine lv_aload_n hx hb dX2_init_4 rfl (lv_at hl 0 rfl) ?_
  refine lv_sipush (v := 801) hx hb dX2_init_5 (by decide) ?_
  obtain ⟨k_1, h⟩ := chk_some h
  have k_1 := of_decide_eq_true k_1
  refine nr_9 (N := 801) C hw (by decide) (by decide) (Nat.le_of_ble_eq_true rfl) (show 0 + 1 ≤ 1 by omega) (show 0 + 801 ≤ 801 by omega) dX2_init_8 (fun q_3 ad_4 E_2 H eE tr u_q_3 hz1 hz2 hw => ?_)
  replace h := bnd_at h eE
  replace u_a0 := tr _ _ u_a0
  have htr : ∀ i a, Pt ad0 E0 i a → Pt ad_4 E_2 i a := fun i a h => tr i a (htr i a h)
  have hN : eN E0 + (0 + 1) = eN E_2 := by omega
  have hL : eL E0 + (0 + 801) = eL E_2 := by omega
  obtain ⟨k_5, h⟩ := chk_some h
  refine np_2_0 C hw u_a0 u_q_3 k_5 wl_77 hin rfl dX2_init_10 (fun E_6 H locs eE tr hz1 hz2 hw => ?_)
  replace h := bnd_at h eE
  replace u_a0 := tr _ _ u_a0
  have htr : ∀ i a, Pt ad0 E0 i a → Pt ad_4 E_6 i a := fun i a h => tr i a (htr i a h)
  have hN : eN E0 + (0 + 1) = eN E_6 := hN.trans hz1.symm
  have hL : eL E0 + (0 + 801) = eL E_6 := hL.trans hz2.symm
  refine lv_aload_n hx hb dX2_init_13 rfl (lv_at hl 0 rfl) ?_
  refine lv_iconst (v := 0) hx hb dX2_init_14 (by decide) ?_
  obtain ⟨k_7, h⟩ := chk_some h
  refine np_2_1 C hw u_a0 k_7 wl_78 dX2_init_15 (fun E_8 H locs eE tr hz1 hz2 hw => ?_)
  replace h := bnd_at h eE
  replace u_a0 := tr _ _ u_a0
  have htr : ∀ i a, Pt ad0 E0 i a → Pt ad_4 E_8 i a := fun i a h => tr i a (htr i a h)
  have hN : eN E0 + (0 + 1) = eN E_8 := hN.trans hz1.symm
  have hL : eL E0 + (0 + 801) = eL E_8 := hL.trans hz2.symm
  refine lv_aload_n hx hb dX2_init_18 rfl (lv_at hl 0 rfl) ?_
  refine lv_sipush (v := 801) hx hb dX2_init_19 (by decide) ?_
  obtain ⟨k_9, h⟩ := chk_some h
  refine np_2_2 C hw u_a0 k_9 wl_79 dX2_init_22 (fun E_10 H locs eE tr hz1 hz2 hw => ?_)
  replace h := bnd_at h eE
  replace u_a0 := tr _ _ u_a0
  have htr : ∀ i a, Pt ad0 E0 i a → Pt ad_4 E_10 i a := fun i a h => tr i a (htr i a h)
  have hN : eN E0 + (0 + 1) = eN E_10 := hN.trans hz1.symm
  have hL : eL E0 + (0 + 801) = eL E_10 := hL.trans hz2.symm
  refine lv_aload_n hx hb dX2_init_25 rfl (lv_at hl 0 rfl) ?_
  refine lv_iconst (v := -1) hx hb dX2_init_26 (by decide) ?_
  obtain ⟨k_11, h⟩ := chk_some h
  refine np_2_3 C hw u_a0 k_11 wl_80 dX2_init_27 (fun E_12 H locs eE tr hz1 hz2 hw => ?_)
  replace h := bnd_at h eE
  replace u_a0 := tr _ _ u_a0
  have htr : ∀ i a, Pt ad0 E0 i a → Pt ad_4 E_12 i a := fun i a h => tr i a (htr i a h)
  have hN : eN E0 + (0 + 1) = eN E_12 := hN.trans hz1.symm
  have hL : eL E0 + (0 + 801) = eL E_12 := hL.trans hz2.symm
  cases h
  exact rt_n C hw htr (by omega) (by omega) dX2_init_30
abbrev rm_X0_init : Room := { frames := 2, cells := 2, slots := 805, locals := 32 }
theorem hdN_X0_init : yX0_init.cls ≠ "java/lang/invoke/MethodHandle" ∧ yX0_init.cls ≠ "java/lang/invoke/VarHandle" ∧ (parseMethodDescriptor yX0_init.desc).map (fun d => d.parameters.length) = some 0 := ⟨by decide +kernel, by decide +kernel, by decide +kernel⟩
set_option maxHeartbeats 4000000 in
set_option maxRecDepth 100000 in
theorem ctN_X0_init {l : Launch} {D : va_G} {cy : Cy} {ad0 : Nat → Nat} {E0 E9 : Ee} {i0 a0 : Nat} (h : fnN_X0_init E0 i0 = some E9) (u_a0 : Pt ad0 E0 i0 a0) (hn : eN E9 = eN E0 + 2) (hs : eL E9 = eL E0 + 805) : CtN l yX0_init cX0_init 1 rm_X0_init D cy ad0 E0 [.ref a0] 2 805 E9 := by
  unfold fnN_X0_init at h
  refine enterN (plainFor_of_name (by decide +kernel)) rfl (Nat.le_of_ble_eq_true rfl) (fun p e s m args below meth c A C hin hCl hNW hw ls hl => ?_)
  have hl : lv_has ls 1 [(0, .ref a0)] := hl
  obtain ⟨hx, hb, hr, hml, hown, hts, hK, hA, hlk, hSt⟩ := id C
  have htr : ∀ i a, Pt ad0 E0 i a → Pt ad0 E0 i a := fun _ _ z => z
  have hN : eN E0 + 0 = eN E0 := rfl
  have hL : eL E0 + 0 = eL E0 := rfl
  refine lv_aload_n hx hb dX0_init_0 rfl (lv_at hl 0 rfl) ?_
  refine oi_n C wl_62 (Nat.le_of_ble_eq_true rfl) (Nat.le_of_ble_eq_true rfl) hl.1 dX0_init_1 ?_
  refine lv_aload_n hx hb dX0_init_4 rfl (lv_at hl 0 rfl) ?_
  obtain ⟨k_1, h⟩ := chk_some h
  have k_1 := of_decide_eq_true k_1
  refine nn_2 C hw wl_63 (show 0 + 1 ≤ 2 by omega) (show 0 + 4 ≤ 805 by omega) dX0_init_5 (fun q_3 ad_4 E_2 H eE tr u_q_3 hz1 hz2 hw => ?_)
  replace h := bnd_at h eE
  replace u_a0 := tr _ _ u_a0
  have htr : ∀ i a, Pt ad0 E0 i a → Pt ad_4 E_2 i a := fun i a h => tr i a (htr i a h)
  have hN : eN E0 + (0 + 1) = eN E_2 := by omega
  have hL : eL E0 + (0 + 4) = eL E_2 := by omega
  refine lv_dup hx hb dX0_init_8 rfl ?_
  obtain ⟨E_5, hc_7, h⟩ := calN_some h
  obtain ⟨k_8, h⟩ := chk_some h
  have k_8 := of_decide_eq_true k_8
  refine cl_nn C hCl hNW (ctN_X2_init hc_7 u_q_3 k_8.1 k_8.2.1) (by omega) hNW.2.2.2.2.2.1 wl_73 wl_65 wl_74 hdN_X2_init rfl ⟨Nat.le_of_ble_eq_true rfl, Nat.le_of_ble_eq_true rfl⟩ ⟨rfl, rfl⟩ ⟨show (0 + 1) + 1 ≤ 2 by omega, show (0 + 4) + 801 ≤ 805 by omega⟩ (Nat.le_of_ble_eq_true rfl) hl.1 hw dX0_init_9 (fun ad_6 H locs tr hw => ?_)
  replace u_a0 := tr _ _ u_a0
  replace u_q_3 := tr _ _ u_q_3
  have htr : ∀ i a, Pt ad0 E0 i a → Pt ad_6 E_5 i a := fun i a h => tr i a (htr i a h)
  have hN : eN E0 + ((0 + 1) + 1) = eN E_5 := by omega
  have hL : eL E0 + ((0 + 4) + 801) = eL E_5 := by omega
  obtain ⟨k_9, h⟩ := chk_some h
  refine np_0_0 C hw u_a0 u_q_3 k_9 wl_66 hin rfl dX0_init_12 (fun E_10 H locs eE tr hz1 hz2 hw => ?_)
  replace h := bnd_at h eE
  replace u_a0 := tr _ _ u_a0
  have htr : ∀ i a, Pt ad0 E0 i a → Pt ad_6 E_10 i a := fun i a h => tr i a (htr i a h)
  have hN : eN E0 + ((0 + 1) + 1) = eN E_10 := hN.trans hz1.symm
  have hL : eL E0 + ((0 + 4) + 801) = eL E_10 := hL.trans hz2.symm
  refine lv_aload_n hx hb dX0_init_15 rfl (lv_at hl 0 rfl) ?_
  refine lv_iconst (v := 0) hx hb dX0_init_16 (by decide) ?_
  obtain ⟨k_11, h⟩ := chk_some h
  refine np_0_1 C hw u_a0 k_11 wl_67 dX0_init_17 (fun E_12 H locs eE tr hz1 hz2 hw => ?_)
  replace h := bnd_at h eE
  replace u_a0 := tr _ _ u_a0
  have htr : ∀ i a, Pt ad0 E0 i a → Pt ad_6 E_12 i a := fun i a h => tr i a (htr i a h)
  have hN : eN E0 + ((0 + 1) + 1) = eN E_12 := hN.trans hz1.symm
  have hL : eL E0 + ((0 + 4) + 801) = eL E_12 := hL.trans hz2.symm
  refine lv_aload_n hx hb dX0_init_20 rfl (lv_at hl 0 rfl) ?_
  refine lv_iconst (v := 0) hx hb dX0_init_21 (by decide) ?_
  obtain ⟨k_13, h⟩ := chk_some h
  refine np_0_2 C hw u_a0 k_13 wl_68 dX0_init_22 (fun E_14 H locs eE tr hz1 hz2 hw => ?_)
  replace h := bnd_at h eE
  replace u_a0 := tr _ _ u_a0
  have htr : ∀ i a, Pt ad0 E0 i a → Pt ad_6 E_14 i a := fun i a h => tr i a (htr i a h)
  have hN : eN E0 + ((0 + 1) + 1) = eN E_14 := hN.trans hz1.symm
  have hL : eL E0 + ((0 + 4) + 801) = eL E_14 := hL.trans hz2.symm
  refine lv_aload_n hx hb dX0_init_25 rfl (lv_at hl 0 rfl) ?_
  refine lv_iconst (v := 0) hx hb dX0_init_26 (by decide) ?_
  obtain ⟨k_15, h⟩ := chk_some h
  refine np_0_3 C hw u_a0 k_15 wl_69 dX0_init_27 (fun E_16 H locs eE tr hz1 hz2 hw => ?_)
  replace h := bnd_at h eE
  replace u_a0 := tr _ _ u_a0
  have htr : ∀ i a, Pt ad0 E0 i a → Pt ad_6 E_16 i a := fun i a h => tr i a (htr i a h)
  have hN : eN E0 + ((0 + 1) + 1) = eN E_16 := hN.trans hz1.symm
  have hL : eL E0 + ((0 + 4) + 801) = eL E_16 := hL.trans hz2.symm
  refine lv_aload_n hx hb dX0_init_30 rfl (lv_at hl 0 rfl) ?_
  refine lv_iconst (v := 0) hx hb dX0_init_31 (by decide) ?_
  obtain ⟨k_17, h⟩ := chk_some h
  refine np_0_4 C hw u_a0 k_17 wl_70 dX0_init_32 (fun E_18 H locs eE tr hz1 hz2 hw => ?_)
  replace h := bnd_at h eE
  replace u_a0 := tr _ _ u_a0
  have htr : ∀ i a, Pt ad0 E0 i a → Pt ad_6 E_18 i a := fun i a h => tr i a (htr i a h)
  have hN : eN E0 + ((0 + 1) + 1) = eN E_18 := hN.trans hz1.symm
  have hL : eL E0 + ((0 + 4) + 801) = eL E_18 := hL.trans hz2.symm
  refine lv_aload_n hx hb dX0_init_35 rfl (lv_at hl 0 rfl) ?_
  refine lv_iconst (v := 0) hx hb dX0_init_36 (by decide) ?_
  obtain ⟨k_19, h⟩ := chk_some h
  refine np_0_5 C hw u_a0 k_19 wl_71 dX0_init_37 (fun E_20 H locs eE tr hz1 hz2 hw => ?_)
  replace h := bnd_at h eE
  replace u_a0 := tr _ _ u_a0
  have htr : ∀ i a, Pt ad0 E0 i a → Pt ad_6 E_20 i a := fun i a h => tr i a (htr i a h)
  have hN : eN E0 + ((0 + 1) + 1) = eN E_20 := hN.trans hz1.symm
  have hL : eL E0 + ((0 + 4) + 801) = eL E_20 := hL.trans hz2.symm
  refine lv_aload_n hx hb dX0_init_40 rfl (lv_at hl 0 rfl) ?_
  refine lv_iconst (v := 0) hx hb dX0_init_41 (by decide) ?_
  obtain ⟨k_21, h⟩ := chk_some h
  refine np_0_6 C hw u_a0 k_21 wl_72 dX0_init_42 (fun E_22 H locs eE tr hz1 hz2 hw => ?_)
  replace h := bnd_at h eE
  replace u_a0 := tr _ _ u_a0
  have htr : ∀ i a, Pt ad0 E0 i a → Pt ad_6 E_22 i a := fun i a h => tr i a (htr i a h)
  have hN : eN E0 + ((0 + 1) + 1) = eN E_22 := hN.trans hz1.symm
  have hL : eL E0 + ((0 + 4) + 801) = eL E_22 := hL.trans hz2.symm
  cases h
  exact rt_n C hw htr (by omega) (by omega) dX0_init_45
abbrev rm_X5_init : Room := { frames := 3, cells := 40, slots := 8183, locals := 52 }
theorem hdN_X5_init : yX5_init.cls ≠ "java/lang/invoke/MethodHandle" ∧ yX5_init.cls ≠ "java/lang/invoke/VarHandle" ∧ (parseMethodDescriptor yX5_init.desc).map (fun d => d.parameters.length) = some 0 := ⟨by decide +kernel, by decide +kernel, by decide +kernel⟩
set_option maxHeartbeats 4000000 in
set_option maxRecDepth 100000 in
theorem bsN_X5_init_113 {p : Program} {l : Launch} {e : Env} {s : State} {m : MethodId} {args : Array Value} {below : List Frame} {meth : Method} {c : Code} {D : va_G} {cy : Cy} {A : Nat → Prop} {ad0 : Nat → Nat} {E0 E9 : Ee} {i0 a0 : Nat} {j113 : Int32 → Ee → Option Ee} (C : Cx RX5 cX5_init 2 none p s m args meth c D cy A) (hin : meth.name = "<init>") (hCl : Cl9 A s s.heap) (hNW : NW s) (hn : eN E9 = eN E0 + 40) (hs : eL E9 = eL E0 + 8183)
    (hj113 : ∀ (x1 : Int32) (E : Ee) (ad : Nat → Nat) (cs ws : Nat) (H : Heap) (locs : List Loc), j113 x1 E = some E9 → Pt ad E i0 a0 → (∀ i a, Pt ad0 E0 i a → Pt ad E i a) → eN E0 + cs = eN E → eL E0 + ws = eL E → WdE D cy A s ad E H locs → ∀ ls : Array Slot, lv_has ls 2 [(0, .ref a0), (1, .int x1)] → W p l e rm_X5_init s m args below meth c H locs cs ws (MQ below (QcN D cy ad0 (eN E0) E9 A) args s 40 8183 A) (F0 m 113 ls [])) :
    ∀ (x1 : Int32) (E : Ee) (ad : Nat → Nat) (cs ws : Nat) (H : Heap) (locs : List Loc), fsN_X5_init_113 (eN E0 + 40) (eL E0 + 8183) i0 j113 x1 E = some E9 → Pt ad E i0 a0 → (∀ i a, Pt ad0 E0 i a → Pt ad E i a) → eN E0 + cs = eN E → eL E0 + ws = eL E → WdE D cy A s ad E H locs → ∀ ls : Array Slot, lv_has ls 2 [(0, .ref a0), (1, .int x1)] → W p l e rm_X5_init s m args below meth c H locs cs ws (MQ below (QcN D cy ad0 (eN E0) E9 A) args s 40 8183 A) (F0 m 113 ls []) := by
  intro x1 E ad cs ws H locs h u_a0 htr hN hL hw ls hl
  unfold fsN_X5_init_113 at h
  obtain ⟨hx, hb, hr, hml, hown, hts, hK, hA, hlk, hSt⟩ := id C
  refine lv_iload_n hx hb dX5_init_113 rfl (lv_at hl 1 rfl) ?_
  refine lv_aload_n hx hb dX5_init_114 rfl (lv_at hl 0 rfl) ?_
  obtain ⟨k_1, h⟩ := chk_some h
  obtain ⟨b_2, eb_2, h⟩ := rfm_some h
  refine ng_5_2 C hw u_a0 k_1 eb_2 wl_37 dX5_init_115 (fun u_z_3 => ?_)
  generalize hg_z_3 : ad b_2 = z_3 at u_z_3 ⊢
  obtain ⟨k_4, h⟩ := chk_some h
  refine nl_12 C hw u_z_3 k_4 dX5_init_118 ?_
  refine lv_icmp_ge (tgt := 141) hx hb dX5_init_119 (by decide) (fun c_5 => ?_) (fun c_5 => ?_)
  · replace h := ite_t h c_5
    cases h
    exact rt_n C hw htr (by omega) (by omega) dX5_init_141
  · replace h := ite_f h c_5
    refine lv_aload_n hx hb dX5_init_122 rfl (lv_at hl 0 rfl) ?_
    obtain ⟨b_6, eb_6, h⟩ := rfm_some h
    refine ng_5_2 C hw u_a0 k_1 eb_6 wl_37 dX5_init_123 (fun u_z_7 => ?_)
    generalize hg_z_7 : ad b_6 = z_7 at u_z_7 ⊢
    refine lv_iload_n hx hb dX5_init_126 rfl (lv_at hl 1 rfl) ?_
    obtain ⟨k_8, h⟩ := chk_some h
    have k_8 := of_decide_eq_true k_8
    refine nn_3 C hw wl_36 (show cs + 1 ≤ 40 by omega) (show ws + 6 ≤ 8183 by omega) dX5_init_127 (fun q_10 ad_11 E_9 H eE tr u_q_10 hz1 hz2 hw => ?_)
    replace h := bnd_at h eE
    replace u_a0 := tr _ _ u_a0
    replace u_z_7 := tr _ _ u_z_7
    have htr : ∀ i a, Pt ad0 E0 i a → Pt ad_11 E_9 i a := fun i a h => tr i a (htr i a h)
    have hN : eN E0 + (cs + 1) = eN E_9 := by omega
    have hL : eL E0 + (ws + 6) = eL E_9 := by omega
    refine lv_dup hx hb dX5_init_130 rfl ?_
    obtain ⟨E_12, hc_14, h⟩ := calN_some h
    obtain ⟨k_15, h⟩ := chk_some h
    have k_15 := of_decide_eq_true k_15
    refine cl_nn C hCl hNW (ctN_X3_init hc_14 u_q_10 k_15.1 k_15.2.1) (by omega) hNW.2.2.2.2.2.2.1 wl_81 wl_52 wl_82 hdN_X3_init rfl ⟨Nat.le_of_ble_eq_true rfl, Nat.le_of_ble_eq_true rfl⟩ ⟨rfl, rfl⟩ ⟨show (cs + 1) + 0 ≤ 40 by omega, show (ws + 6) + 0 ≤ 8183 by omega⟩ (Nat.le_of_ble_eq_true rfl) hl.1 hw dX5_init_131 (fun ad_13 H locs tr hw => ?_)
    replace u_a0 := tr _ _ u_a0
    replace u_z_7 := tr _ _ u_z_7
    replace u_q_10 := tr _ _ u_q_10
    have htr : ∀ i a, Pt ad0 E0 i a → Pt ad_13 E_12 i a := fun i a h => tr i a (htr i a h)
    have hN : eN E0 + ((cs + 1) + 0) = eN E_12 := by omega
    have hL : eL E0 + ((ws + 6) + 0) = eL E_12 := by omega
    obtain ⟨k_16, h⟩ := chk_some h
    obtain ⟨k_17, h⟩ := chk_some h
    obtain ⟨k_18, h⟩ := chk_some h
    refine nw_12 C hw u_z_7 u_q_10 k_16 k_17 k_18 dX5_init_134 (fun E_19 H locs eE tr hz1 hz2 hw => ?_)
    replace h := bnd_at h eE
    replace u_a0 := tr _ _ u_a0
    have htr : ∀ i a, Pt ad0 E0 i a → Pt ad_13 E_19 i a := fun i a h => tr i a (htr i a h)
    have hN : eN E0 + ((cs + 1) + 0) = eN E_19 := hN.trans hz1.symm
    have hL : eL E0 + ((ws + 6) + 0) = eL E_19 := hL.trans hz2.symm
    obtain ⟨v_20, ev_20⟩ : ∃ y : Int32, y = (x1 + (1 : Int32)) := ⟨_, rfl⟩
    replace h := bnd_at h ev_20
    refine lv_iinc (v := v_20) (lv' := [(1, .int v_20), (0, .ref a0)]) hx hb dX5_init_135 hl (k := 1) rfl (by rw [ev_20]; rfl) (by decide) rfl (fun ls hl => ?_)
    refine lv_goto (tgt := 113) hx hb dX5_init_138 (by decide) ?_
    exact hj113 _ _ _ _ _ _ _ h u_a0 htr hN hL hw _ (lv_sub hl [1, 0] rfl)
theorem btN_X5_init_113 {p : Program} {l : Launch} {e : Env} {s : State} {m : MethodId} {args : Array Value} {below : List Frame} {meth : Method} {c : Code} {D : va_G} {cy : Cy} {A : Nat → Prop} {ad0 : Nat → Nat} {E0 E9 : Ee} {i0 a0 : Nat} (C : Cx RX5 cX5_init 2 none p s m args meth c D cy A) (hin : meth.name = "<init>") (hCl : Cl9 A s s.heap) (hNW : NW s) (hn : eN E9 = eN E0 + 40) (hs : eL E9 = eL E0 + 8183) :
    ∀ n : Nat, ∀ (x1 : Int32) (E : Ee) (ad : Nat → Nat) (cs ws : Nat) (H : Heap) (locs : List Loc), fbN_X5_init_113 (eN E0 + 40) (eL E0 + 8183) i0 n x1 E = some E9 → Pt ad E i0 a0 → (∀ i a, Pt ad0 E0 i a → Pt ad E i a) → eN E0 + cs = eN E → eL E0 + ws = eL E → WdE D cy A s ad E H locs → ∀ ls : Array Slot, lv_has ls 2 [(0, .ref a0), (1, .int x1)] → W p l e rm_X5_init s m args below meth c H locs cs ws (MQ below (QcN D cy ad0 (eN E0) E9 A) args s 40 8183 A) (F0 m 113 ls []) := by
  intro n
  induction n with
  | zero =>
    intro _ _ ad cs ws H locs h
    exact absurd (show (none : Option Ee) = some _ from h) (by simp)
  | succ n ih => exact fun u0 u1 ad cs ws H locs h => bsN_X5_init_113 (i0 := i0) C hin hCl hNW hn hs ih u0 u1 ad cs ws H locs h
set_option maxHeartbeats 4000000 in
set_option maxRecDepth 100000 in
theorem bsN_X5_init_83 {p : Program} {l : Launch} {e : Env} {s : State} {m : MethodId} {args : Array Value} {below : List Frame} {meth : Method} {c : Code} {D : va_G} {cy : Cy} {A : Nat → Prop} {ad0 : Nat → Nat} {E0 E9 : Ee} {i0 a0 : Nat} {j83 : Int32 → Ee → Option Ee} {j113 : Int32 → Ee → Option Ee} (C : Cx RX5 cX5_init 2 none p s m args meth c D cy A) (hin : meth.name = "<init>") (hCl : Cl9 A s s.heap) (hNW : NW s) (hn : eN E9 = eN E0 + 40) (hs : eL E9 = eL E0 + 8183)
    (hj83 : ∀ (x1 : Int32) (E : Ee) (ad : Nat → Nat) (cs ws : Nat) (H : Heap) (locs : List Loc), j83 x1 E = some E9 → Pt ad E i0 a0 → (∀ i a, Pt ad0 E0 i a → Pt ad E i a) → eN E0 + cs = eN E → eL E0 + ws = eL E → WdE D cy A s ad E H locs → ∀ ls : Array Slot, lv_has ls 2 [(0, .ref a0), (1, .int x1)] → W p l e rm_X5_init s m args below meth c H locs cs ws (MQ below (QcN D cy ad0 (eN E0) E9 A) args s 40 8183 A) (F0 m 83 ls []))
    (hj113 : ∀ (x1 : Int32) (E : Ee) (ad : Nat → Nat) (cs ws : Nat) (H : Heap) (locs : List Loc), j113 x1 E = some E9 → Pt ad E i0 a0 → (∀ i a, Pt ad0 E0 i a → Pt ad E i a) → eN E0 + cs = eN E → eL E0 + ws = eL E → WdE D cy A s ad E H locs → ∀ ls : Array Slot, lv_has ls 2 [(0, .ref a0), (1, .int x1)] → W p l e rm_X5_init s m args below meth c H locs cs ws (MQ below (QcN D cy ad0 (eN E0) E9 A) args s 40 8183 A) (F0 m 113 ls [])) :
    ∀ (x1 : Int32) (E : Ee) (ad : Nat → Nat) (cs ws : Nat) (H : Heap) (locs : List Loc), fsN_X5_init_83 (eN E0 + 40) (eL E0 + 8183) i0 j83 j113 x1 E = some E9 → Pt ad E i0 a0 → (∀ i a, Pt ad0 E0 i a → Pt ad E i a) → eN E0 + cs = eN E → eL E0 + ws = eL E → WdE D cy A s ad E H locs → ∀ ls : Array Slot, lv_has ls 2 [(0, .ref a0), (1, .int x1)] → W p l e rm_X5_init s m args below meth c H locs cs ws (MQ below (QcN D cy ad0 (eN E0) E9 A) args s 40 8183 A) (F0 m 83 ls []) := by
  intro x1 E ad cs ws H locs h u_a0 htr hN hL hw ls hl
  unfold fsN_X5_init_83 at h
  obtain ⟨hx, hb, hr, hml, hown, hts, hK, hA, hlk, hSt⟩ := id C
  refine lv_iload_n hx hb dX5_init_83 rfl (lv_at hl 1 rfl) ?_
  refine lv_aload_n hx hb dX5_init_84 rfl (lv_at hl 0 rfl) ?_
  obtain ⟨k_21, h⟩ := chk_some h
  obtain ⟨b_22, eb_22, h⟩ := rfm_some h
  refine ng_5_1 C hw u_a0 k_21 eb_22 wl_35 dX5_init_85 (fun u_z_23 => ?_)
  generalize hg_z_23 : ad b_22 = z_23 at u_z_23 ⊢
  obtain ⟨k_24, h⟩ := chk_some h
  refine nl_11 C hw u_z_23 k_24 dX5_init_88 ?_
  refine lv_icmp_ge (tgt := 111) hx hb dX5_init_89 (by decide) (fun c_25 => ?_) (fun c_25 => ?_)
  · replace h := ite_t h c_25
    refine lv_iconst (v := 0) hx hb dX5_init_111 (by decide) ?_
    refine lv_istore_n (lv' := [(1, .int (0 : Int32)), (0, .ref a0)]) hx hb dX5_init_112 rfl hl (by decide) rfl (fun ls hl => ?_)
    exact hj113 _ _ _ _ _ _ _ h u_a0 htr hN hL hw _ (lv_sub hl [1, 0] rfl)
  · replace h := ite_f h c_25
    refine lv_aload_n hx hb dX5_init_92 rfl (lv_at hl 0 rfl) ?_
    obtain ⟨b_26, eb_26, h⟩ := rfm_some h
    refine ng_5_1 C hw u_a0 k_21 eb_26 wl_35 dX5_init_93 (fun u_z_27 => ?_)
    generalize hg_z_27 : ad b_26 = z_27 at u_z_27 ⊢
    refine lv_iload_n hx hb dX5_init_96 rfl (lv_at hl 1 rfl) ?_
    obtain ⟨k_28, h⟩ := chk_some h
    have k_28 := of_decide_eq_true k_28
    refine nn_0 C hw wl_34 (show cs + 1 ≤ 40 by omega) (show ws + 7 ≤ 8183 by omega) dX5_init_97 (fun q_30 ad_31 E_29 H eE tr u_q_30 hz1 hz2 hw => ?_)
    replace h := bnd_at h eE
    replace u_a0 := tr _ _ u_a0
    replace u_z_27 := tr _ _ u_z_27
    have htr : ∀ i a, Pt ad0 E0 i a → Pt ad_31 E_29 i a := fun i a h => tr i a (htr i a h)
    have hN : eN E0 + (cs + 1) = eN E_29 := by omega
    have hL : eL E0 + (ws + 7) = eL E_29 := by omega
    refine lv_dup hx hb dX5_init_100 rfl ?_
    obtain ⟨E_32, hc_34, h⟩ := calN_some h
    obtain ⟨k_35, h⟩ := chk_some h
    have k_35 := of_decide_eq_true k_35
    refine cl_nn C hCl hNW (ctN_X0_init hc_34 u_q_30 k_35.1 k_35.2.1) (by omega) hNW.2.2.2.2.1 wl_60 wl_50 wl_61 hdN_X0_init rfl ⟨Nat.le_of_ble_eq_true rfl, Nat.le_of_ble_eq_true rfl⟩ ⟨rfl, rfl⟩ ⟨show (cs + 1) + 2 ≤ 40 by omega, show (ws + 7) + 805 ≤ 8183 by omega⟩ (Nat.le_of_ble_eq_true rfl) hl.1 hw dX5_init_101 (fun ad_33 H locs tr hw => ?_)
    replace u_a0 := tr _ _ u_a0
    replace u_z_27 := tr _ _ u_z_27
    replace u_q_30 := tr _ _ u_q_30
    have htr : ∀ i a, Pt ad0 E0 i a → Pt ad_33 E_32 i a := fun i a h => tr i a (htr i a h)
    have hN : eN E0 + ((cs + 1) + 2) = eN E_32 := by omega
    have hL : eL E0 + ((ws + 7) + 805) = eL E_32 := by omega
    obtain ⟨k_36, h⟩ := chk_some h
    obtain ⟨k_37, h⟩ := chk_some h
    obtain ⟨k_38, h⟩ := chk_some h
    refine nw_11 C hw u_z_27 u_q_30 k_36 k_37 k_38 dX5_init_104 (fun E_39 H locs eE tr hz1 hz2 hw => ?_)
    replace h := bnd_at h eE
    replace u_a0 := tr _ _ u_a0
    have htr : ∀ i a, Pt ad0 E0 i a → Pt ad_33 E_39 i a := fun i a h => tr i a (htr i a h)
    have hN : eN E0 + ((cs + 1) + 2) = eN E_39 := hN.trans hz1.symm
    have hL : eL E0 + ((ws + 7) + 805) = eL E_39 := hL.trans hz2.symm
    obtain ⟨v_40, ev_40⟩ : ∃ y : Int32, y = (x1 + (1 : Int32)) := ⟨_, rfl⟩
    replace h := bnd_at h ev_40
    refine lv_iinc (v := v_40) (lv' := [(1, .int v_40), (0, .ref a0)]) hx hb dX5_init_105 hl (k := 1) rfl (by rw [ev_40]; rfl) (by decide) rfl (fun ls hl => ?_)
    refine lv_goto (tgt := 83) hx hb dX5_init_108 (by decide) ?_
    exact hj83 _ _ _ _ _ _ _ h u_a0 htr hN hL hw _ (lv_sub hl [1, 0] rfl)
theorem btN_X5_init_83 {p : Program} {l : Launch} {e : Env} {s : State} {m : MethodId} {args : Array Value} {below : List Frame} {meth : Method} {c : Code} {D : va_G} {cy : Cy} {A : Nat → Prop} {ad0 : Nat → Nat} {E0 E9 : Ee} {i0 a0 : Nat} {j113 : Int32 → Ee → Option Ee} (C : Cx RX5 cX5_init 2 none p s m args meth c D cy A) (hin : meth.name = "<init>") (hCl : Cl9 A s s.heap) (hNW : NW s) (hn : eN E9 = eN E0 + 40) (hs : eL E9 = eL E0 + 8183)
    (hj113 : ∀ (x1 : Int32) (E : Ee) (ad : Nat → Nat) (cs ws : Nat) (H : Heap) (locs : List Loc), j113 x1 E = some E9 → Pt ad E i0 a0 → (∀ i a, Pt ad0 E0 i a → Pt ad E i a) → eN E0 + cs = eN E → eL E0 + ws = eL E → WdE D cy A s ad E H locs → ∀ ls : Array Slot, lv_has ls 2 [(0, .ref a0), (1, .int x1)] → W p l e rm_X5_init s m args below meth c H locs cs ws (MQ below (QcN D cy ad0 (eN E0) E9 A) args s 40 8183 A) (F0 m 113 ls [])) :
    ∀ n : Nat, ∀ (x1 : Int32) (E : Ee) (ad : Nat → Nat) (cs ws : Nat) (H : Heap) (locs : List Loc), fbN_X5_init_83 (eN E0 + 40) (eL E0 + 8183) i0 j113 n x1 E = some E9 → Pt ad E i0 a0 → (∀ i a, Pt ad0 E0 i a → Pt ad E i a) → eN E0 + cs = eN E → eL E0 + ws = eL E → WdE D cy A s ad E H locs → ∀ ls : Array Slot, lv_has ls 2 [(0, .ref a0), (1, .int x1)] → W p l e rm_X5_init s m args below meth c H locs cs ws (MQ below (QcN D cy ad0 (eN E0) E9 A) args s 40 8183 A) (F0 m 83 ls []) := by
  intro n
  induction n with
  | zero =>
    intro _ _ ad cs ws H locs h
    exact absurd (show (none : Option Ee) = some _ from h) (by simp)
  | succ n ih => exact fun u0 u1 ad cs ws H locs h => bsN_X5_init_83 (i0 := i0) C hin hCl hNW hn hs ih hj113 u0 u1 ad cs ws H locs h
set_option maxHeartbeats 4000000 in
set_option maxRecDepth 100000 in
theorem ctN_X5_init {l : Launch} {D : va_G} {cy : Cy} {ad0 : Nat → Nat} {E0 E9 : Ee} {i0 a0 : Nat} (h : fnN_X5_init E0 i0 = some E9) (u_a0 : Pt ad0 E0 i0 a0) (hn : eN E9 = eN E0 + 40) (hs : eL E9 = eL E0 + 8183) : CtN l yX5_init cX5_init 2 rm_X5_init D cy ad0 E0 [.ref a0] 40 8183 E9 := by
  unfold fnN_X5_init at h
  refine enterN (plainFor_of_name (by decide +kernel)) rfl (Nat.le_of_ble_eq_true rfl) (fun p e s m args below meth c A C hin hCl hNW hw ls hl => ?_)
  have hl : lv_has ls 2 [(0, .ref a0)] := hl
  obtain ⟨hx, hb, hr, hml, hown, hts, hK, hA, hlk, hSt⟩ := id C
  have htr : ∀ i a, Pt ad0 E0 i a → Pt ad0 E0 i a := fun _ _ z => z
  have hN : eN E0 + 0 = eN E0 := rfl
  have hL : eL E0 + 0 = eL E0 := rfl
  refine lv_aload_n hx hb dX5_init_0 rfl (lv_at hl 0 rfl) ?_
  refine oi_n C wl_26 (Nat.le_of_ble_eq_true rfl) (Nat.le_of_ble_eq_true rfl) hl.1 dX5_init_1 ?_
  refine lv_aload_n hx hb dX5_init_4 rfl (lv_at hl 0 rfl) ?_
  obtain ⟨_, _, _, _, _, _, hSx⟩ := id hw
  refine gs_n C hCl hSx hNW.1 dX5_init_5 (fun t_41 hT_t_41 => ?_)
  obtain ⟨k_42, h⟩ := chk_some h
  have k_42 := of_decide_eq_true k_42
  refine cn_n C hw hNW hT_t_41 wl_27 wl_28 (Nat.le_of_ble_eq_true rfl) (Nat.le_of_ble_eq_true rfl) (show 0 + 1 ≤ 40 by omega) (show 0 + 7 ≤ 8183 by omega) hl.1 dX5_init_8 (fun q_44 ad_45 E_43 H eE tr u_q_44 hz1 hz2 hw => ?_)
  replace h := bnd_at h eE
  replace u_a0 := tr _ _ u_a0
  have htr : ∀ i a, Pt ad0 E0 i a → Pt ad_45 E_43 i a := fun i a h => tr i a (htr i a h)
  have hN : eN E0 + (0 + 1) = eN E_43 := by omega
  have hL : eL E0 + (0 + 7) = eL E_43 := by omega
  obtain ⟨k_46, h⟩ := chk_some h
  refine cc_n C hw u_q_44 k_46 wl_32 dX5_init_11 ?_
  obtain ⟨k_47, h⟩ := chk_some h
  refine np_5_0 C hw u_a0 u_q_44 k_47 wl_33 hin rfl dX5_init_14 (fun E_48 H locs eE tr hz1 hz2 hw => ?_)
  replace h := bnd_at h eE
  replace u_a0 := tr _ _ u_a0
  have htr : ∀ i a, Pt ad0 E0 i a → Pt ad_45 E_48 i a := fun i a h => tr i a (htr i a h)
  have hN : eN E0 + (0 + 1) = eN E_48 := hN.trans hz1.symm
  have hL : eL E0 + (0 + 7) = eL E_48 := hL.trans hz2.symm
  refine lv_aload_n hx hb dX5_init_17 rfl (lv_at hl 0 rfl) ?_
  refine lv_bipush (v := 10) hx hb dX5_init_18 (by decide) ?_
  obtain ⟨k_49, h⟩ := chk_some h
  have k_49 := of_decide_eq_true k_49
  refine nq_11 (N := 10) C hw hNW wl_34 (by decide) (by decide) (Nat.le_of_ble_eq_true rfl) (show (0 + 1) + 1 ≤ 40 by omega) (show (0 + 7) + 10 ≤ 8183 by omega) dX5_init_20 (fun q_51 ad_52 E_50 H eE tr u_q_51 hz1 hz2 hw => ?_)
  replace h := bnd_at h eE
  replace u_a0 := tr _ _ u_a0
  have htr : ∀ i a, Pt ad0 E0 i a → Pt ad_52 E_50 i a := fun i a h => tr i a (htr i a h)
  have hN : eN E0 + ((0 + 1) + 1) = eN E_50 := by omega
  have hL : eL E0 + ((0 + 7) + 10) = eL E_50 := by omega
  obtain ⟨k_53, h⟩ := chk_some h
  refine np_5_1 C hw u_a0 u_q_51 k_53 wl_35 hin rfl dX5_init_23 (fun E_54 H locs eE tr hz1 hz2 hw => ?_)
  replace h := bnd_at h eE
  replace u_a0 := tr _ _ u_a0
  have htr : ∀ i a, Pt ad0 E0 i a → Pt ad_52 E_54 i a := fun i a h => tr i a (htr i a h)
  have hN : eN E0 + ((0 + 1) + 1) = eN E_54 := hN.trans hz1.symm
  have hL : eL E0 + ((0 + 7) + 10) = eL E_54 := hL.trans hz2.symm
  refine lv_aload_n hx hb dX5_init_26 rfl (lv_at hl 0 rfl) ?_
  refine lv_bipush (v := 6) hx hb dX5_init_27 (by decide) ?_
  obtain ⟨k_55, h⟩ := chk_some h
  have k_55 := of_decide_eq_true k_55
  refine nq_12 (N := 6) C hw hNW wl_36 (by decide) (by decide) (Nat.le_of_ble_eq_true rfl) (show ((0 + 1) + 1) + 1 ≤ 40 by omega) (show ((0 + 7) + 10) + 6 ≤ 8183 by omega) dX5_init_29 (fun q_57 ad_58 E_56 H eE tr u_q_57 hz1 hz2 hw => ?_)
  replace h := bnd_at h eE
  replace u_a0 := tr _ _ u_a0
  have htr : ∀ i a, Pt ad0 E0 i a → Pt ad_58 E_56 i a := fun i a h => tr i a (htr i a h)
  have hN : eN E0 + (((0 + 1) + 1) + 1) = eN E_56 := by omega
  have hL : eL E0 + (((0 + 7) + 10) + 6) = eL E_56 := by omega
  obtain ⟨k_59, h⟩ := chk_some h
  refine np_5_2 C hw u_a0 u_q_57 k_59 wl_37 hin rfl dX5_init_32 (fun E_60 H locs eE tr hz1 hz2 hw => ?_)
  replace h := bnd_at h eE
  replace u_a0 := tr _ _ u_a0
  have htr : ∀ i a, Pt ad0 E0 i a → Pt ad_58 E_60 i a := fun i a h => tr i a (htr i a h)
  have hN : eN E0 + (((0 + 1) + 1) + 1) = eN E_60 := hN.trans hz1.symm
  have hL : eL E0 + (((0 + 7) + 10) + 6) = eL E_60 := hL.trans hz2.symm
  refine lv_aload_n hx hb dX5_init_35 rfl (lv_at hl 0 rfl) ?_
  obtain ⟨k_61, h⟩ := chk_some h
  have k_61 := of_decide_eq_true k_61
  refine nn_1 C hw wl_38 (show (((0 + 1) + 1) + 1) + 1 ≤ 40 by omega) (show (((0 + 7) + 10) + 6) + 4 ≤ 8183 by omega) dX5_init_36 (fun q_63 ad_64 E_62 H eE tr u_q_63 hz1 hz2 hw => ?_)
  replace h := bnd_at h eE
  replace u_a0 := tr _ _ u_a0
  have htr : ∀ i a, Pt ad0 E0 i a → Pt ad_64 E_62 i a := fun i a h => tr i a (htr i a h)
  have hN : eN E0 + ((((0 + 1) + 1) + 1) + 1) = eN E_62 := by omega
  have hL : eL E0 + ((((0 + 7) + 10) + 6) + 4) = eL E_62 := by omega
  refine lv_dup hx hb dX5_init_39 rfl ?_
  obtain ⟨E_65, hc_67, h⟩ := calN_some h
  obtain ⟨k_68, h⟩ := chk_some h
  have k_68 := of_decide_eq_true k_68
  refine cl_nn C hCl hNW (ctN_X1_init hc_67 u_q_63 k_68.1 k_68.2.1) (by omega) hNW.2.2.2.1 wl_53 wl_40 wl_54 hdN_X1_init rfl ⟨Nat.le_of_ble_eq_true rfl, Nat.le_of_ble_eq_true rfl⟩ ⟨rfl, rfl⟩ ⟨show ((((0 + 1) + 1) + 1) + 1) + 0 ≤ 40 by omega, show ((((0 + 7) + 10) + 6) + 4) + 0 ≤ 8183 by omega⟩ (Nat.le_of_ble_eq_true rfl) hl.1 hw dX5_init_40 (fun ad_66 H locs tr hw => ?_)
  replace u_a0 := tr _ _ u_a0
  replace u_q_63 := tr _ _ u_q_63
  have htr : ∀ i a, Pt ad0 E0 i a → Pt ad_66 E_65 i a := fun i a h => tr i a (htr i a h)
  have hN : eN E0 + (((((0 + 1) + 1) + 1) + 1) + 0) = eN E_65 := by omega
  have hL : eL E0 + (((((0 + 7) + 10) + 6) + 4) + 0) = eL E_65 := by omega
  obtain ⟨k_69, h⟩ := chk_some h
  refine np_5_3 C hw u_a0 u_q_63 k_69 wl_41 hin rfl dX5_init_43 (fun E_70 H locs eE tr hz1 hz2 hw => ?_)
  replace h := bnd_at h eE
  replace u_a0 := tr _ _ u_a0
  have htr : ∀ i a, Pt ad0 E0 i a → Pt ad_66 E_70 i a := fun i a h => tr i a (htr i a h)
  have hN : eN E0 + (((((0 + 1) + 1) + 1) + 1) + 0) = eN E_70 := hN.trans hz1.symm
  have hL : eL E0 + (((((0 + 7) + 10) + 6) + 4) + 0) = eL E_70 := hL.trans hz2.symm
  refine lv_aload_n hx hb dX5_init_46 rfl (lv_at hl 0 rfl) ?_
  refine lv_iconst (v := 0) hx hb dX5_init_47 (by decide) ?_
  obtain ⟨k_71, h⟩ := chk_some h
  refine np_5_4 C hw u_a0 k_71 wl_42 dX5_init_48 (fun E_72 H locs eE tr hz1 hz2 hw => ?_)
  replace h := bnd_at h eE
  replace u_a0 := tr _ _ u_a0
  have htr : ∀ i a, Pt ad0 E0 i a → Pt ad_66 E_72 i a := fun i a h => tr i a (htr i a h)
  have hN : eN E0 + (((((0 + 1) + 1) + 1) + 1) + 0) = eN E_72 := hN.trans hz1.symm
  have hL : eL E0 + (((((0 + 7) + 10) + 6) + 4) + 0) = eL E_72 := hL.trans hz2.symm
  refine lv_aload_n hx hb dX5_init_51 rfl (lv_at hl 0 rfl) ?_
  refine lv_iconst (v := 0) hx hb dX5_init_52 (by decide) ?_
  obtain ⟨k_73, h⟩ := chk_some h
  refine np_5_5 C hw u_a0 k_73 wl_43 dX5_init_53 (fun E_74 H locs eE tr hz1 hz2 hw => ?_)
  replace h := bnd_at h eE
  replace u_a0 := tr _ _ u_a0
  have htr : ∀ i a, Pt ad0 E0 i a → Pt ad_66 E_74 i a := fun i a h => tr i a (htr i a h)
  have hN : eN E0 + (((((0 + 1) + 1) + 1) + 1) + 0) = eN E_74 := hN.trans hz1.symm
  have hL : eL E0 + (((((0 + 7) + 10) + 6) + 4) + 0) = eL E_74 := hL.trans hz2.symm
  refine lv_aload_n hx hb dX5_init_56 rfl (lv_at hl 0 rfl) ?_
  refine lv_iconst (v := 0) hx hb dX5_init_57 (by decide) ?_
  obtain ⟨k_75, h⟩ := chk_some h
  refine np_5_6 C hw u_a0 k_75 wl_44 dX5_init_58 (fun E_76 H locs eE tr hz1 hz2 hw => ?_)
  replace h := bnd_at h eE
  replace u_a0 := tr _ _ u_a0
  have htr : ∀ i a, Pt ad0 E0 i a → Pt ad_66 E_76 i a := fun i a h => tr i a (htr i a h)
  have hN : eN E0 + (((((0 + 1) + 1) + 1) + 1) + 0) = eN E_76 := hN.trans hz1.symm
  have hL : eL E0 + (((((0 + 7) + 10) + 6) + 4) + 0) = eL E_76 := hL.trans hz2.symm
  refine lv_aload_n hx hb dX5_init_61 rfl (lv_at hl 0 rfl) ?_
  refine lv_lconst (v := 0) hx hb dX5_init_62 (by decide) ?_
  obtain ⟨k_77, h⟩ := chk_some h
  refine np_5_7 C hw u_a0 k_77 wl_45 dX5_init_63 (fun E_78 H locs eE tr hz1 hz2 hw => ?_)
  replace h := bnd_at h eE
  replace u_a0 := tr _ _ u_a0
  have htr : ∀ i a, Pt ad0 E0 i a → Pt ad_66 E_78 i a := fun i a h => tr i a (htr i a h)
  have hN : eN E0 + (((((0 + 1) + 1) + 1) + 1) + 0) = eN E_78 := hN.trans hz1.symm
  have hL : eL E0 + (((((0 + 7) + 10) + 6) + 4) + 0) = eL E_78 := hL.trans hz2.symm
  refine lv_aload_n hx hb dX5_init_66 rfl (lv_at hl 0 rfl) ?_
  refine lv_lconst (v := 0) hx hb dX5_init_67 (by decide) ?_
  obtain ⟨k_79, h⟩ := chk_some h
  refine np_5_8 C hw u_a0 k_79 wl_46 dX5_init_68 (fun E_80 H locs eE tr hz1 hz2 hw => ?_)
  replace h := bnd_at h eE
  replace u_a0 := tr _ _ u_a0
  have htr : ∀ i a, Pt ad0 E0 i a → Pt ad_66 E_80 i a := fun i a h => tr i a (htr i a h)
  have hN : eN E0 + (((((0 + 1) + 1) + 1) + 1) + 0) = eN E_80 := hN.trans hz1.symm
  have hL : eL E0 + (((((0 + 7) + 10) + 6) + 4) + 0) = eL E_80 := hL.trans hz2.symm
  refine lv_aload_n hx hb dX5_init_71 rfl (lv_at hl 0 rfl) ?_
  refine lv_lconst (v := 0) hx hb dX5_init_72 (by decide) ?_
  obtain ⟨k_81, h⟩ := chk_some h
  refine np_5_9 C hw u_a0 k_81 wl_47 dX5_init_73 (fun E_82 H locs eE tr hz1 hz2 hw => ?_)
  replace h := bnd_at h eE
  replace u_a0 := tr _ _ u_a0
  have htr : ∀ i a, Pt ad0 E0 i a → Pt ad_66 E_82 i a := fun i a h => tr i a (htr i a h)
  have hN : eN E0 + (((((0 + 1) + 1) + 1) + 1) + 0) = eN E_82 := hN.trans hz1.symm
  have hL : eL E0 + (((((0 + 7) + 10) + 6) + 4) + 0) = eL E_82 := hL.trans hz2.symm
  refine lv_aload_n hx hb dX5_init_76 rfl (lv_at hl 0 rfl) ?_
  refine lv_lconst (v := 0) hx hb dX5_init_77 (by decide) ?_
  obtain ⟨k_83, h⟩ := chk_some h
  refine np_5_10 C hw u_a0 k_83 wl_48 dX5_init_78 (fun E_84 H locs eE tr hz1 hz2 hw => ?_)
  replace h := bnd_at h eE
  replace u_a0 := tr _ _ u_a0
  have htr : ∀ i a, Pt ad0 E0 i a → Pt ad_66 E_84 i a := fun i a h => tr i a (htr i a h)
  have hN : eN E0 + (((((0 + 1) + 1) + 1) + 1) + 0) = eN E_84 := hN.trans hz1.symm
  have hL : eL E0 + (((((0 + 7) + 10) + 6) + 4) + 0) = eL E_84 := hL.trans hz2.symm
  refine lv_iconst (v := 0) hx hb dX5_init_81 (by decide) ?_
  refine lv_istore_n (lv' := [(1, .int (0 : Int32)), (0, .ref a0)]) hx hb dX5_init_82 rfl hl (by decide) rfl (fun ls hl => ?_)
  exact (btN_X5_init_83 C hin hCl hNW hn hs (btN_X5_init_113 C hin hCl hNW hn hs FU) FU) _ _ _ _ _ _ _ h u_a0 htr hN hL hw _ (lv_sub hl [1, 0] rfl)
abbrev rm_X4_init : Room := { frames := 1, cells := 1, slots := 60, locals := 12 }
theorem hdN_X4_init : yX4_init.cls ≠ "java/lang/invoke/MethodHandle" ∧ yX4_init.cls ≠ "java/lang/invoke/VarHandle" ∧ (parseMethodDescriptor yX4_init.desc).map (fun d => d.parameters.length) = some 0 := ⟨by decide +kernel, by decide +kernel, by decide +kernel⟩
set_option maxHeartbeats 4000000 in
set_option maxRecDepth 100000 in
theorem ctN_X4_init {l : Launch} {D : va_G} {cy : Cy} {ad0 : Nat → Nat} {E0 E9 : Ee} {i0 a0 : Nat} (h : fnN_X4_init E0 i0 = some E9) (u_a0 : Pt ad0 E0 i0 a0) (hn : eN E9 = eN E0 + 1) (hs : eL E9 = eL E0 + 60) : CtN l yX4_init cX4_init 1 rm_X4_init D cy ad0 E0 [.ref a0] 1 60 E9 := by
  unfold fnN_X4_init at h
  refine enterN (plainFor_of_name (by decide +kernel)) rfl (Nat.le_of_ble_eq_true rfl) (fun p e s m args below meth c A C hin hCl hNW hw ls hl => ?_)
  have hl : lv_has ls 1 [(0, .ref a0)] := hl
  obtain ⟨hx, hb, hr, hml, hown, hts, hK, hA, hlk, hSt⟩ := id C
  have htr : ∀ i a, Pt ad0 E0 i a → Pt ad0 E0 i a := fun _ _ z => z
  have hN : eN E0 + 0 = eN E0 := rfl
  have hL : eL E0 + 0 = eL E0 := rfl
  refine lv_aload_n hx hb dX4_init_0 rfl (lv_at hl 0 rfl) ?_
  refine oi_n C wl_92 (Nat.le_of_ble_eq_true rfl) (Nat.le_of_ble_eq_true rfl) hl.1 dX4_init_1 ?_
  refine lv_aload_n hx hb dX4_init_4 rfl (lv_at hl 0 rfl) ?_
  refine lv_bipush (v := 60) hx hb dX4_init_5 (by decide) ?_
  obtain ⟨k_1, h⟩ := chk_some h
  have k_1 := of_decide_eq_true k_1
  refine nr_8 (N := 60) C hw (by decide) (by decide) (Nat.le_of_ble_eq_true rfl) (show 0 + 1 ≤ 1 by omega) (show 0 + 60 ≤ 60 by omega) dX4_init_7 (fun q_3 ad_4 E_2 H eE tr u_q_3 hz1 hz2 hw => ?_)
  replace h := bnd_at h eE
  replace u_a0 := tr _ _ u_a0
  have htr : ∀ i a, Pt ad0 E0 i a → Pt ad_4 E_2 i a := fun i a h => tr i a (htr i a h)
  have hN : eN E0 + (0 + 1) = eN E_2 := by omega
  have hL : eL E0 + (0 + 60) = eL E_2 := by omega
  obtain ⟨k_5, h⟩ := chk_some h
  refine np_4_0 C hw u_a0 u_q_3 k_5 wl_94 hin rfl dX4_init_9 (fun E_6 H locs eE tr hz1 hz2 hw => ?_)
  replace h := bnd_at h eE
  replace u_a0 := tr _ _ u_a0
  have htr : ∀ i a, Pt ad0 E0 i a → Pt ad_4 E_6 i a := fun i a h => tr i a (htr i a h)
  have hN : eN E0 + (0 + 1) = eN E_6 := hN.trans hz1.symm
  have hL : eL E0 + (0 + 60) = eL E_6 := hL.trans hz2.symm
  refine lv_aload_n hx hb dX4_init_12 rfl (lv_at hl 0 rfl) ?_
  refine lv_iconst (v := 0) hx hb dX4_init_13 (by decide) ?_
  obtain ⟨k_7, h⟩ := chk_some h
  refine np_4_1 C hw u_a0 k_7 wl_95 dX4_init_14 (fun E_8 H locs eE tr hz1 hz2 hw => ?_)
  replace h := bnd_at h eE
  replace u_a0 := tr _ _ u_a0
  have htr : ∀ i a, Pt ad0 E0 i a → Pt ad_4 E_8 i a := fun i a h => tr i a (htr i a h)
  have hN : eN E0 + (0 + 1) = eN E_8 := hN.trans hz1.symm
  have hL : eL E0 + (0 + 60) = eL E_8 := hL.trans hz2.symm
  cases h
  exact rt_n C hw htr (by omega) (by omega) dX4_init_17
abbrev rm_X6_init : Room := { frames := 4, cells := 249, slots := 49230, locals := 73 }
theorem hdN_X6_init : yX6_init.cls ≠ "java/lang/invoke/MethodHandle" ∧ yX6_init.cls ≠ "java/lang/invoke/VarHandle" ∧ (parseMethodDescriptor yX6_init.desc).map (fun d => d.parameters.length) = some 0 := ⟨by decide +kernel, by decide +kernel, by decide +kernel⟩
set_option maxHeartbeats 4000000 in
set_option maxRecDepth 100000 in
theorem bsN_X6_init_25 {p : Program} {l : Launch} {e : Env} {s : State} {m : MethodId} {args : Array Value} {below : List Frame} {meth : Method} {c : Code} {D : va_G} {cy : Cy} {A : Nat → Prop} {ad0 : Nat → Nat} {E0 E9 : Ee} {i0 a0 : Nat} {j25 : Int32 → Ee → Option Ee} (C : Cx RX6 cX6_init 2 none p s m args meth c D cy A) (hin : meth.name = "<init>") (hCl : Cl9 A s s.heap) (hNW : NW s) (hn : eN E9 = eN E0 + 249) (hs : eL E9 = eL E0 + 49230)
    (hj25 : ∀ (x1 : Int32) (E : Ee) (ad : Nat → Nat) (cs ws : Nat) (H : Heap) (locs : List Loc), j25 x1 E = some E9 → Pt ad E i0 a0 → (∀ i a, Pt ad0 E0 i a → Pt ad E i a) → eN E0 + cs = eN E → eL E0 + ws = eL E → WdE D cy A s ad E H locs → ∀ ls : Array Slot, lv_has ls 2 [(0, .ref a0), (1, .int x1)] → W p l e rm_X6_init s m args below meth c H locs cs ws (MQ below (QcN D cy ad0 (eN E0) E9 A) args s 249 49230 A) (F0 m 25 ls [])) :
    ∀ (x1 : Int32) (E : Ee) (ad : Nat → Nat) (cs ws : Nat) (H : Heap) (locs : List Loc), fsN_X6_init_25 (eN E0 + 249) (eL E0 + 49230) i0 j25 x1 E = some E9 → Pt ad E i0 a0 → (∀ i a, Pt ad0 E0 i a → Pt ad E i a) → eN E0 + cs = eN E → eL E0 + ws = eL E → WdE D cy A s ad E H locs → ∀ ls : Array Slot, lv_has ls 2 [(0, .ref a0), (1, .int x1)] → W p l e rm_X6_init s m args below meth c H locs cs ws (MQ below (QcN D cy ad0 (eN E0) E9 A) args s 249 49230 A) (F0 m 25 ls []) := by
  intro x1 E ad cs ws H locs h u_a0 htr hN hL hw ls hl
  unfold fsN_X6_init_25 at h
  obtain ⟨hx, hb, hr, hml, hown, hts, hK, hA, hlk, hSt⟩ := id C
  refine lv_iload_n hx hb dX6_init_25 rfl (lv_at hl 1 rfl) ?_
  refine lv_aload_n hx hb dX6_init_26 rfl (lv_at hl 0 rfl) ?_
  obtain ⟨k_1, h⟩ := chk_some h
  obtain ⟨b_2, eb_2, h⟩ := rfm_some h
  refine ng_6_1 C hw u_a0 k_1 eb_2 wl_16 dX6_init_27 (fun u_z_3 => ?_)
  generalize hg_z_3 : ad b_2 = z_3 at u_z_3 ⊢
  obtain ⟨k_4, h⟩ := chk_some h
  refine nl_13 C hw u_z_3 k_4 dX6_init_30 ?_
  refine lv_icmp_ge (tgt := 53) hx hb dX6_init_31 (by decide) (fun c_5 => ?_) (fun c_5 => ?_)
  · replace h := ite_t h c_5
    refine lv_aload_n hx hb dX6_init_53 rfl (lv_at hl 0 rfl) ?_
    obtain ⟨k_6, h⟩ := chk_some h
    have k_6 := of_decide_eq_true k_6
    refine nn_4 C hw wl_17 (show cs + 1 ≤ 249 by omega) (show ws + 2 ≤ 49230 by omega) dX6_init_54 (fun q_8 ad_9 E_7 H eE tr u_q_8 hz1 hz2 hw => ?_)
    replace h := bnd_at h eE
    replace u_a0 := tr _ _ u_a0
    have htr : ∀ i a, Pt ad0 E0 i a → Pt ad_9 E_7 i a := fun i a h => tr i a (htr i a h)
    have hN : eN E0 + (cs + 1) = eN E_7 := by omega
    have hL : eL E0 + (ws + 2) = eL E_7 := by omega
    refine lv_dup hx hb dX6_init_57 rfl ?_
    obtain ⟨E_10, hc_12, h⟩ := calN_some h
    obtain ⟨k_13, h⟩ := chk_some h
    have k_13 := of_decide_eq_true k_13
    refine cl_nn C hCl hNW (ctN_X4_init hc_12 u_q_8 k_13.1 k_13.2.1) (by omega) hNW.2.2.2.2.2.2.2 wl_90 wl_19 wl_91 hdN_X4_init rfl ⟨Nat.le_of_ble_eq_true rfl, Nat.le_of_ble_eq_true rfl⟩ ⟨rfl, rfl⟩ ⟨show (cs + 1) + 1 ≤ 249 by omega, show (ws + 2) + 60 ≤ 49230 by omega⟩ (Nat.le_of_ble_eq_true rfl) hl.1 hw dX6_init_58 (fun ad_11 H locs tr hw => ?_)
    replace u_a0 := tr _ _ u_a0
    replace u_q_8 := tr _ _ u_q_8
    have htr : ∀ i a, Pt ad0 E0 i a → Pt ad_11 E_10 i a := fun i a h => tr i a (htr i a h)
    have hN : eN E0 + ((cs + 1) + 1) = eN E_10 := by omega
    have hL : eL E0 + ((ws + 2) + 60) = eL E_10 := by omega
    obtain ⟨k_14, h⟩ := chk_some h
    refine np_6_2 C hw u_a0 u_q_8 k_14 wl_20 hin rfl dX6_init_61 (fun E_15 H locs eE tr hz1 hz2 hw => ?_)
    replace h := bnd_at h eE
    replace u_a0 := tr _ _ u_a0
    have htr : ∀ i a, Pt ad0 E0 i a → Pt ad_11 E_15 i a := fun i a h => tr i a (htr i a h)
    have hN : eN E0 + ((cs + 1) + 1) = eN E_15 := hN.trans hz1.symm
    have hL : eL E0 + ((ws + 2) + 60) = eL E_15 := hL.trans hz2.symm
    refine lv_aload_n hx hb dX6_init_64 rfl (lv_at hl 0 rfl) ?_
    obtain ⟨k_16, h⟩ := chk_some h
    have k_16 := of_decide_eq_true k_16
    refine nn_5 C hw wl_12 (show ((cs + 1) + 1) + 1 ≤ 249 by omega) (show ((ws + 2) + 60) + 11 ≤ 49230 by omega) dX6_init_65 (fun q_18 ad_19 E_17 H eE tr u_q_18 hz1 hz2 hw => ?_)
    replace h := bnd_at h eE
    replace u_a0 := tr _ _ u_a0
    have htr : ∀ i a, Pt ad0 E0 i a → Pt ad_19 E_17 i a := fun i a h => tr i a (htr i a h)
    have hN : eN E0 + (((cs + 1) + 1) + 1) = eN E_17 := by omega
    have hL : eL E0 + (((ws + 2) + 60) + 11) = eL E_17 := by omega
    refine lv_dup hx hb dX6_init_68 rfl ?_
    obtain ⟨E_20, hc_22, h⟩ := calN_some h
    obtain ⟨k_23, h⟩ := chk_some h
    have k_23 := of_decide_eq_true k_23
    refine cl_n C hCl hNW (ctN_X5_init hc_22 u_q_18 k_23.1 k_23.2.1) (by omega) wl_23 wl_24 wl_14 wl_25 hdN_X5_init rfl ⟨Nat.le_of_ble_eq_true rfl, Nat.le_of_ble_eq_true rfl⟩ ⟨rfl, rfl⟩ ⟨show (((cs + 1) + 1) + 1) + 40 ≤ 249 by omega, show (((ws + 2) + 60) + 11) + 8183 ≤ 49230 by omega⟩ (Nat.le_of_ble_eq_true rfl) hl.1 hw dX6_init_69 (fun ad_21 H locs tr hw => ?_)
    replace u_a0 := tr _ _ u_a0
    replace u_q_18 := tr _ _ u_q_18
    have htr : ∀ i a, Pt ad0 E0 i a → Pt ad_21 E_20 i a := fun i a h => tr i a (htr i a h)
    have hN : eN E0 + ((((cs + 1) + 1) + 1) + 40) = eN E_20 := by omega
    have hL : eL E0 + ((((ws + 2) + 60) + 11) + 8183) = eL E_20 := by omega
    obtain ⟨k_24, h⟩ := chk_some h
    refine np_6_3 C hw u_a0 u_q_18 k_24 wl_21 dX6_init_72 (fun E_25 H locs eE tr hz1 hz2 hw => ?_)
    replace h := bnd_at h eE
    replace u_a0 := tr _ _ u_a0
    have htr : ∀ i a, Pt ad0 E0 i a → Pt ad_21 E_25 i a := fun i a h => tr i a (htr i a h)
    have hN : eN E0 + ((((cs + 1) + 1) + 1) + 40) = eN E_25 := hN.trans hz1.symm
    have hL : eL E0 + ((((ws + 2) + 60) + 11) + 8183) = eL E_25 := hL.trans hz2.symm
    refine lv_aload_n hx hb dX6_init_75 rfl (lv_at hl 0 rfl) ?_
    refine lv_iconst (v := 0) hx hb dX6_init_76 (by decide) ?_
    obtain ⟨k_26, h⟩ := chk_some h
    refine np_6_4 C hw u_a0 k_26 wl_22 dX6_init_77 (fun E_27 H locs eE tr hz1 hz2 hw => ?_)
    replace h := bnd_at h eE
    replace u_a0 := tr _ _ u_a0
    have htr : ∀ i a, Pt ad0 E0 i a → Pt ad_21 E_27 i a := fun i a h => tr i a (htr i a h)
    have hN : eN E0 + ((((cs + 1) + 1) + 1) + 40) = eN E_27 := hN.trans hz1.symm
    have hL : eL E0 + ((((ws + 2) + 60) + 11) + 8183) = eL E_27 := hL.trans hz2.symm
    cases h
    exact rt_n C hw htr (by omega) (by omega) dX6_init_80
  · replace h := ite_f h c_5
    refine lv_aload_n hx hb dX6_init_34 rfl (lv_at hl 0 rfl) ?_
    obtain ⟨b_28, eb_28, h⟩ := rfm_some h
    refine ng_6_1 C hw u_a0 k_1 eb_28 wl_16 dX6_init_35 (fun u_z_29 => ?_)
    generalize hg_z_29 : ad b_28 = z_29 at u_z_29 ⊢
    refine lv_iload_n hx hb dX6_init_38 rfl (lv_at hl 1 rfl) ?_
    obtain ⟨k_30, h⟩ := chk_some h
    have k_30 := of_decide_eq_true k_30
    refine nn_5 C hw wl_12 (show cs + 1 ≤ 249 by omega) (show ws + 11 ≤ 49230 by omega) dX6_init_39 (fun q_32 ad_33 E_31 H eE tr u_q_32 hz1 hz2 hw => ?_)
    replace h := bnd_at h eE
    replace u_a0 := tr _ _ u_a0
    replace u_z_29 := tr _ _ u_z_29
    have htr : ∀ i a, Pt ad0 E0 i a → Pt ad_33 E_31 i a := fun i a h => tr i a (htr i a h)
    have hN : eN E0 + (cs + 1) = eN E_31 := by omega
    have hL : eL E0 + (ws + 11) = eL E_31 := by omega
    refine lv_dup hx hb dX6_init_42 rfl ?_
    obtain ⟨E_34, hc_36, h⟩ := calN_some h
    obtain ⟨k_37, h⟩ := chk_some h
    have k_37 := of_decide_eq_true k_37
    refine cl_n C hCl hNW (ctN_X5_init hc_36 u_q_32 k_37.1 k_37.2.1) (by omega) wl_23 wl_24 wl_14 wl_25 hdN_X5_init rfl ⟨Nat.le_of_ble_eq_true rfl, Nat.le_of_ble_eq_true rfl⟩ ⟨rfl, rfl⟩ ⟨show (cs + 1) + 40 ≤ 249 by omega, show (ws + 11) + 8183 ≤ 49230 by omega⟩ (Nat.le_of_ble_eq_true rfl) hl.1 hw dX6_init_43 (fun ad_35 H locs tr hw => ?_)
    replace u_a0 := tr _ _ u_a0
    replace u_z_29 := tr _ _ u_z_29
    replace u_q_32 := tr _ _ u_q_32
    have htr : ∀ i a, Pt ad0 E0 i a → Pt ad_35 E_34 i a := fun i a h => tr i a (htr i a h)
    have hN : eN E0 + ((cs + 1) + 40) = eN E_34 := by omega
    have hL : eL E0 + ((ws + 11) + 8183) = eL E_34 := by omega
    obtain ⟨k_38, h⟩ := chk_some h
    obtain ⟨k_39, h⟩ := chk_some h
    obtain ⟨k_40, h⟩ := chk_some h
    refine nw_13 C hw u_z_29 u_q_32 k_38 k_39 k_40 dX6_init_46 (fun E_41 H locs eE tr hz1 hz2 hw => ?_)
    replace h := bnd_at h eE
    replace u_a0 := tr _ _ u_a0
    have htr : ∀ i a, Pt ad0 E0 i a → Pt ad_35 E_41 i a := fun i a h => tr i a (htr i a h)
    have hN : eN E0 + ((cs + 1) + 40) = eN E_41 := hN.trans hz1.symm
    have hL : eL E0 + ((ws + 11) + 8183) = eL E_41 := hL.trans hz2.symm
    obtain ⟨v_42, ev_42⟩ : ∃ y : Int32, y = (x1 + (1 : Int32)) := ⟨_, rfl⟩
    replace h := bnd_at h ev_42
    refine lv_iinc (v := v_42) (lv' := [(1, .int v_42), (0, .ref a0)]) hx hb dX6_init_47 hl (k := 1) rfl (by rw [ev_42]; rfl) (by decide) rfl (fun ls hl => ?_)
    refine lv_goto (tgt := 25) hx hb dX6_init_50 (by decide) ?_
    exact hj25 _ _ _ _ _ _ _ h u_a0 htr hN hL hw _ (lv_sub hl [1, 0] rfl)
theorem btN_X6_init_25 {p : Program} {l : Launch} {e : Env} {s : State} {m : MethodId} {args : Array Value} {below : List Frame} {meth : Method} {c : Code} {D : va_G} {cy : Cy} {A : Nat → Prop} {ad0 : Nat → Nat} {E0 E9 : Ee} {i0 a0 : Nat} (C : Cx RX6 cX6_init 2 none p s m args meth c D cy A) (hin : meth.name = "<init>") (hCl : Cl9 A s s.heap) (hNW : NW s) (hn : eN E9 = eN E0 + 249) (hs : eL E9 = eL E0 + 49230) :
    ∀ n : Nat, ∀ (x1 : Int32) (E : Ee) (ad : Nat → Nat) (cs ws : Nat) (H : Heap) (locs : List Loc), fbN_X6_init_25 (eN E0 + 249) (eL E0 + 49230) i0 n x1 E = some E9 → Pt ad E i0 a0 → (∀ i a, Pt ad0 E0 i a → Pt ad E i a) → eN E0 + cs = eN E → eL E0 + ws = eL E → WdE D cy A s ad E H locs → ∀ ls : Array Slot, lv_has ls 2 [(0, .ref a0), (1, .int x1)] → W p l e rm_X6_init s m args below meth c H locs cs ws (MQ below (QcN D cy ad0 (eN E0) E9 A) args s 249 49230 A) (F0 m 25 ls []) := by
  intro n
  induction n with
  | zero =>
    intro _ _ ad cs ws H locs h
    exact absurd (show (none : Option Ee) = some _ from h) (by simp)
  | succ n ih => exact fun u0 u1 ad cs ws H locs h => bsN_X6_init_25 (i0 := i0) C hin hCl hNW hn hs ih u0 u1 ad cs ws H locs h
set_option maxHeartbeats 4000000 in
set_option maxRecDepth 100000 in
theorem ctN_X6_init {l : Launch} {D : va_G} {cy : Cy} {ad0 : Nat → Nat} {E0 E9 : Ee} {i0 a0 : Nat} (h : fnN_X6_init E0 i0 = some E9) (u_a0 : Pt ad0 E0 i0 a0) (hn : eN E9 = eN E0 + 249) (hs : eL E9 = eL E0 + 49230) : CtN l yX6_init cX6_init 2 rm_X6_init D cy ad0 E0 [.ref a0] 249 49230 E9 := by
  unfold fnN_X6_init at h
  refine enterN (plainFor_of_name (by decide +kernel)) rfl (Nat.le_of_ble_eq_true rfl) (fun p e s m args below meth c A C hin hCl hNW hw ls hl => ?_)
  have hl : lv_has ls 2 [(0, .ref a0)] := hl
  obtain ⟨hx, hb, hr, hml, hown, hts, hK, hA, hlk, hSt⟩ := id C
  have htr : ∀ i a, Pt ad0 E0 i a → Pt ad0 E0 i a := fun _ _ z => z
  have hN : eN E0 + 0 = eN E0 := rfl
  have hL : eL E0 + 0 = eL E0 := rfl
  refine lv_aload_n hx hb dX6_init_0 rfl (lv_at hl 0 rfl) ?_
  refine oi_n C wl_9 (Nat.le_of_ble_eq_true rfl) (Nat.le_of_ble_eq_true rfl) hl.1 dX6_init_1 ?_
  refine lv_aload_n hx hb dX6_init_4 rfl (lv_at hl 0 rfl) ?_
  obtain ⟨k_43, h⟩ := chk_some h
  have k_43 := of_decide_eq_true k_43
  refine nn_5 C hw wl_12 (show 0 + 1 ≤ 249 by omega) (show 0 + 11 ≤ 49230 by omega) dX6_init_5 (fun q_45 ad_46 E_44 H eE tr u_q_45 hz1 hz2 hw => ?_)
  replace h := bnd_at h eE
  replace u_a0 := tr _ _ u_a0
  have htr : ∀ i a, Pt ad0 E0 i a → Pt ad_46 E_44 i a := fun i a h => tr i a (htr i a h)
  have hN : eN E0 + (0 + 1) = eN E_44 := by omega
  have hL : eL E0 + (0 + 11) = eL E_44 := by omega
  refine lv_dup hx hb dX6_init_8 rfl ?_
  obtain ⟨E_47, hc_49, h⟩ := calN_some h
  obtain ⟨k_50, h⟩ := chk_some h
  have k_50 := of_decide_eq_true k_50
  refine cl_n C hCl hNW (ctN_X5_init hc_49 u_q_45 k_50.1 k_50.2.1) (by omega) wl_23 wl_24 wl_14 wl_25 hdN_X5_init rfl ⟨Nat.le_of_ble_eq_true rfl, Nat.le_of_ble_eq_true rfl⟩ ⟨rfl, rfl⟩ ⟨show (0 + 1) + 40 ≤ 249 by omega, show (0 + 11) + 8183 ≤ 49230 by omega⟩ (Nat.le_of_ble_eq_true rfl) hl.1 hw dX6_init_9 (fun ad_48 H locs tr hw => ?_)
  replace u_a0 := tr _ _ u_a0
  replace u_q_45 := tr _ _ u_q_45
  have htr : ∀ i a, Pt ad0 E0 i a → Pt ad_48 E_47 i a := fun i a h => tr i a (htr i a h)
  have hN : eN E0 + ((0 + 1) + 40) = eN E_47 := by omega
  have hL : eL E0 + ((0 + 11) + 8183) = eL E_47 := by omega
  obtain ⟨k_51, h⟩ := chk_some h
  refine np_6_0 C hw u_a0 u_q_45 k_51 wl_15 hin rfl dX6_init_12 (fun E_52 H locs eE tr hz1 hz2 hw => ?_)
  replace h := bnd_at h eE
  replace u_a0 := tr _ _ u_a0
  have htr : ∀ i a, Pt ad0 E0 i a → Pt ad_48 E_52 i a := fun i a h => tr i a (htr i a h)
  have hN : eN E0 + ((0 + 1) + 40) = eN E_52 := hN.trans hz1.symm
  have hL : eL E0 + ((0 + 11) + 8183) = eL E_52 := hL.trans hz2.symm
  refine lv_aload_n hx hb dX6_init_15 rfl (lv_at hl 0 rfl) ?_
  refine lv_iconst (v := 4) hx hb dX6_init_16 (by decide) ?_
  obtain ⟨k_53, h⟩ := chk_some h
  have k_53 := of_decide_eq_true k_53
  refine nq_13 (N := 4) C hw hNW wl_12 (by decide) (by decide) (Nat.le_of_ble_eq_true rfl) (show ((0 + 1) + 40) + 1 ≤ 249 by omega) (show ((0 + 11) + 8183) + 4 ≤ 49230 by omega) dX6_init_17 (fun q_55 ad_56 E_54 H eE tr u_q_55 hz1 hz2 hw => ?_)
  replace h := bnd_at h eE
  replace u_a0 := tr _ _ u_a0
  have htr : ∀ i a, Pt ad0 E0 i a → Pt ad_56 E_54 i a := fun i a h => tr i a (htr i a h)
  have hN : eN E0 + (((0 + 1) + 40) + 1) = eN E_54 := by omega
  have hL : eL E0 + (((0 + 11) + 8183) + 4) = eL E_54 := by omega
  obtain ⟨k_57, h⟩ := chk_some h
  refine np_6_1 C hw u_a0 u_q_55 k_57 wl_16 hin rfl dX6_init_20 (fun E_58 H locs eE tr hz1 hz2 hw => ?_)
  replace h := bnd_at h eE
  replace u_a0 := tr _ _ u_a0
  have htr : ∀ i a, Pt ad0 E0 i a → Pt ad_56 E_58 i a := fun i a h => tr i a (htr i a h)
  have hN : eN E0 + (((0 + 1) + 40) + 1) = eN E_58 := hN.trans hz1.symm
  have hL : eL E0 + (((0 + 11) + 8183) + 4) = eL E_58 := hL.trans hz2.symm
  refine lv_iconst (v := 0) hx hb dX6_init_23 (by decide) ?_
  refine lv_istore_n (lv' := [(1, .int (0 : Int32)), (0, .ref a0)]) hx hb dX6_init_24 rfl hl (by decide) rfl (fun ls hl => ?_)
  exact (btN_X6_init_25 C hin hCl hNW hn hs FU) _ _ _ _ _ _ _ h u_a0 htr hN hL hw _ (lv_sub hl [1, 0] rfl)
