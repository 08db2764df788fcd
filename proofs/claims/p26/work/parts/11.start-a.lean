theorem st_LE {s : State} {args : Array Value} (hq : ∀ c ∈ flatC (Jvm.Cond.and given_1 narrow_1), c.before args s = true) (hl : (Cond.laysStatic "IceTongue" "LEAST_SETTING" "[I").before args s = true) (hi : (Cond.initialized "IceTongue").before args s = true) : ∃ t, (Term.static "IceTongue" "LEAST_SETTING" "[I").eval args s none [] s = some (.ref t) ∧ Stt "LEAST_SETTING" fLeast t (fun q : Nat => s.heap.size ≤ q) s s.heap := by
  obtain ⟨t, ht, hT⟩ := va_Tof (A := fun q : Nat => s.heap.size ≤ q) (N := 7) (f := fun j => .int (fLeast j)) (by decide) (hq (.arrayOf (.static "IceTongue" "LEAST_SETTING" "[I") .int) (by decide +kernel)) (va_eqt (hq (.eq (.length (.static "IceTongue" "LEAST_SETTING" "[I")) (.int 7)) (by decide +kernel))) (by
      intro j hj
      rcases (show j = 0 ∨ j = 1 ∨ j = 2 ∨ j = 3 ∨ j = 4 ∨ j = 5 ∨ j = 6 by omega) with rfl | rfl | rfl | rfl | rfl | rfl | rfl
      · exact va_eqt (hq (.eq (.elem (.static "IceTongue" "LEAST_SETTING" "[I") (.int 0)) (.int 0)) (by decide +kernel))
      · exact va_eqt (hq (.eq (.elem (.static "IceTongue" "LEAST_SETTING" "[I") (.int 1)) (.int 0)) (by decide +kernel))
      · exact va_eqt (hq (.eq (.elem (.static "IceTongue" "LEAST_SETTING" "[I") (.int 2)) (.int 0)) (by decide +kernel))
      · exact va_eqt (hq (.eq (.elem (.static "IceTongue" "LEAST_SETTING" "[I") (.int 3)) (.int 0)) (by decide +kernel))
      · exact va_eqt (hq (.eq (.elem (.static "IceTongue" "LEAST_SETTING" "[I") (.int 4)) (.int 0)) (by decide +kernel))
      · exact va_eqt (hq (.eq (.elem (.static "IceTongue" "LEAST_SETTING" "[I") (.int 5)) (.int 1)) (by decide +kernel))
      · exact va_eqt (hq (.eq (.elem (.static "IceTongue" "LEAST_SETTING" "[I") (.int 6)) (.int 0)) (by decide +kernel))) (fun a h => Nat.not_le.mpr h)
  exact ⟨t, ht, va_Zref hl hi ht (fun a h => Nat.not_le.mpr h), hT⟩
theorem st_MO {s : State} {args : Array Value} (hq : ∀ c ∈ flatC (Jvm.Cond.and given_1 narrow_1), c.before args s = true) (hl : (Cond.laysStatic "IceTongue" "MOST_SETTING" "[I").before args s = true) (hi : (Cond.initialized "IceTongue").before args s = true) : ∃ t, (Term.static "IceTongue" "MOST_SETTING" "[I").eval args s none [] s = some (.ref t) ∧ Stt "MOST_SETTING" fMost t (fun q : Nat => s.heap.size ≤ q) s s.heap := by
  obtain ⟨t, ht, hT⟩ := va_Tof (A := fun q : Nat => s.heap.size ≤ q) (N := 7) (f := fun j => .int (fMost j)) (by decide) (hq (.arrayOf (.static "IceTongue" "MOST_SETTING" "[I") .int) (by decide +kernel)) (va_eqt (hq (.eq (.length (.static "IceTongue" "MOST_SETTING" "[I")) (.int 7)) (by decide +kernel))) (by
      intro j hj
      rcases (show j = 0 ∨ j = 1 ∨ j = 2 ∨ j = 3 ∨ j = 4 ∨ j = 5 ∨ j = 6 by omega) with rfl | rfl | rfl | rfl | rfl | rfl | rfl
      · exact va_eqt (hq (.eq (.elem (.static "IceTongue" "MOST_SETTING" "[I") (.int 0)) (.int 5000)) (by decide +kernel))
      · exact va_eqt (hq (.eq (.elem (.static "IceTongue" "MOST_SETTING" "[I") (.int 1)) (.int 500)) (by decide +kernel))
      · exact va_eqt (hq (.eq (.elem (.static "IceTongue" "MOST_SETTING" "[I") (.int 2)) (.int 9000)) (by decide +kernel))
      · exact va_eqt (hq (.eq (.elem (.static "IceTongue" "MOST_SETTING" "[I") (.int 3)) (.int 500)) (by decide +kernel))
      · exact va_eqt (hq (.eq (.elem (.static "IceTongue" "MOST_SETTING" "[I") (.int 4)) (.int 5000)) (by decide +kernel))
      · exact va_eqt (hq (.eq (.elem (.static "IceTongue" "MOST_SETTING" "[I") (.int 5)) (.int 1000000)) (by decide +kernel))
      · exact va_eqt (hq (.eq (.elem (.static "IceTongue" "MOST_SETTING" "[I") (.int 6)) (.int 50)) (by decide +kernel))) (fun a h => Nat.not_le.mpr h)
  exact ⟨t, ht, va_Zref hl hi ht (fun a h => Nat.not_le.mpr h), hT⟩
theorem st_FI {s : State} {args : Array Value} (hq : ∀ c ∈ flatC (Jvm.Cond.and given_1 narrow_1), c.before args s = true) (hl : (Cond.laysStatic "IceTongue" "FIRST_SETTING" "[I").before args s = true) (hi : (Cond.initialized "IceTongue").before args s = true) : ∃ t, (Term.static "IceTongue" "FIRST_SETTING" "[I").eval args s none [] s = some (.ref t) ∧ Stt "FIRST_SETTING" fFirst t (fun q : Nat => s.heap.size ≤ q) s s.heap := by
  obtain ⟨t, ht, hT⟩ := va_Tof (A := fun q : Nat => s.heap.size ≤ q) (N := 7) (f := fun j => .int (fFirst j)) (by decide) (hq (.arrayOf (.static "IceTongue" "FIRST_SETTING" "[I") .int) (by decide +kernel)) (va_eqt (hq (.eq (.length (.static "IceTongue" "FIRST_SETTING" "[I")) (.int 7)) (by decide +kernel))) (by
      intro j hj
      rcases (show j = 0 ∨ j = 1 ∨ j = 2 ∨ j = 3 ∨ j = 4 ∨ j = 5 ∨ j = 6 by omega) with rfl | rfl | rfl | rfl | rfl | rfl | rfl
      · exact va_eqt (hq (.eq (.elem (.static "IceTongue" "FIRST_SETTING" "[I") (.int 0)) (.int 1000)) (by decide +kernel))
      · exact va_eqt (hq (.eq (.elem (.static "IceTongue" "FIRST_SETTING" "[I") (.int 1)) (.int 50)) (by decide +kernel))
      · exact va_eqt (hq (.eq (.elem (.static "IceTongue" "FIRST_SETTING" "[I") (.int 2)) (.int 1500)) (by decide +kernel))
      · exact va_eqt (hq (.eq (.elem (.static "IceTongue" "FIRST_SETTING" "[I") (.int 3)) (.int 100)) (by decide +kernel))
      · exact va_eqt (hq (.eq (.elem (.static "IceTongue" "FIRST_SETTING" "[I") (.int 4)) (.int 2500)) (by decide +kernel))
      · exact va_eqt (hq (.eq (.elem (.static "IceTongue" "FIRST_SETTING" "[I") (.int 5)) (.int 500)) (by decide +kernel))
      · exact va_eqt (hq (.eq (.elem (.static "IceTongue" "FIRST_SETTING" "[I") (.int 6)) (.int 2)) (by decide +kernel))) (fun a h => Nat.not_le.mpr h)
  exact ⟨t, ht, va_Zref hl hi ht (fun a h => Nat.not_le.mpr h), hT⟩
theorem st_len {s : State} {args : Array Value} {tm : Term} {a : Nat} {cell : Cell} (h : (Cond.eq (.length tm) (.int 7)).before args s = true) (ht : tm.eval args s none [] s = some (.ref a)) (hc : s.heap[a]? = some cell) : cell.slots.size = 7 := by
  have h1 := va_eqt h
  obtain ⟨a', cell', h2, h3, h4⟩ := Term.length_spec h1
  cases ht.symm.trans h2
  obtain ⟨h5, -, -, -⟩ := State.arrayAt?_spec h3
  cases hc.symm.trans h5
  have hlt : cell.slots.size < 2 ^ 31 := by
    by_cases p0 : cell.slots.size < 2 ^ 31
    · exact p0
    · simp [Term.eval, ht, h3, p0] at h1
  have h6 : (7 : Int32) = cell.slots.size.toInt32 := Value.int.inj h4
  have h7 := congrArg Int32.toNatClampNeg h6
  have h8 : cell.slots.size.toInt32.toNatClampNeg = cell.slots.size := Int32.toNatClampNeg_ofNat_of_lt hlt
  rw [h8] at h7
  exact h7.symm
theorem st_cl {s : State} {args : Array Value} (hq : ∀ c ∈ flatC (Jvm.Cond.and given_1 narrow_1), c.before args s = true) (hl : (Cond.laysStatic "IceTongue" "FIRST_SETTING" "[I").before args s = true) (hi : (Cond.initialized "IceTongue").before args s = true) : Cl9 (fun q : Nat => s.heap.size ≤ q) s s.heap := by
  obtain ⟨t, ht, hZ, hT⟩ := st_FI hq hl hi
  obtain ⟨cell, h1, h2, h3, h4, h5, h6, h7⟩ := hT
  obtain ⟨c2, e1, e2, e3, e4⟩ := va_Oof (A := fun q : Nat => s.heap.size ≤ q) (hq (.exactly (.static "IceTongue" "FIRST_SETTING" "[I") "[I") (by decide +kernel)) ht (fun a h => Nat.not_le.mpr h)
  cases h1.symm.trans e1
  have hs7 := st_len (hq (.eq (.length (.static "IceTongue" "FIRST_SETTING" "[I")) (.int 7)) (by decide +kernel)) ht h1
  refine ⟨t, hZ, h7, cell, h1, e3, h2.1, h3, ?_⟩
  apply Array.ext_getElem?
  intro i
  by_cases h : i < 7
  · rw [h6 i h, arrV_read _ _ h]
  · rw [Array.getElem?_eq_none (by omega), Array.getElem?_eq_none (by rw [arrV_size]; omega)]
theorem st_prim {s : State} {args : Array Value} {ty : FieldType} (h : (Cond.arrayClass ty).before args s = true) : ∃ cA, s.vm.findClass ("[" ++ ty.toString) = some cA ∧ ArrOfT s cA ty := by
  obtain ⟨cA, k, comp, h1, h2, h3⟩ := Cond.arrayClass_spec h
  exact ⟨cA, h1, fun n z => ⟨fun k h => (by cases h), k, h2, comp, h3⟩⟩
theorem st_obj {s : State} {args : Array Value} {C : String} (h : (Cond.arrayOver (.object C)).before args s = true) : ∃ cA, ArrOfT s cA (.object C) ∧ va_RA s cA (.object C) := by
  obtain ⟨comp, cA, k, h1, -, h2, h3, h4⟩ := Cond.arrayOver_spec h
  exact ⟨cA, fun n z => ⟨fun k h => (by cases h), k, h2, comp, h3⟩, k, comp, h2, h3, h1, h4⟩
theorem st_K {s : State} {args : Array Value} (hts : ∀ w ∈ lw_tbl, w.before args s = true) : ∃ (D : va_G) (cy : Cy), va_K D vwCl (tys cy) s := by
  obtain ⟨c0, i0, h0⟩ := u_known (C := RX0) (T := TX0) (N := 7) (n := 7) hts (fun w h => gw_tbl w (inlX0 w h)) (hts _ (gw_tbl _ wl_49))
  obtain ⟨c1, i1, h1⟩ := u_known (C := RX1) (T := TX1) (N := 4) (n := 4) hts (fun w h => gw_tbl w (inlX1 w h)) (hts _ (gw_tbl _ wl_39))
  obtain ⟨c2, i2, h2⟩ := u_known (C := RX2) (T := TX2) (N := 4) (n := 4) hts (fun w h => gw_tbl w (inlX2 w h)) (hts _ (gw_tbl _ wl_64))
  obtain ⟨c3, i3, h3⟩ := u_known (C := RX3) (T := TX3) (N := 6) (n := 6) hts (fun w h => gw_tbl w (inlX3 w h)) (hts _ (gw_tbl _ wl_51))
  obtain ⟨c4, i4, h4⟩ := u_known (C := RX4) (T := TX4) (N := 2) (n := 2) hts (fun w h => gw_tbl w (inlX4 w h)) (hts _ (gw_tbl _ wl_18))
  obtain ⟨c5, i5, h5⟩ := u_known (C := RX5) (T := TX5) (N := 11) (n := 11) hts (fun w h => gw_tbl w (inlX5 w h)) (hts _ (gw_tbl _ wl_13))
  obtain ⟨c6, i6, h6⟩ := u_known (C := RX6) (T := TX6) (N := 5) (n := 5) hts (fun w h => gw_tbl w (inlX6 w h)) (hts _ (gw_tbl _ wl_1))
  obtain ⟨a0, b0, d0⟩ := st_prim (ty := .char) (hts _ (List.mem_of_getElem? (i := 239) (by decide +kernel)))
  obtain ⟨a1, b1, d1⟩ := st_prim (ty := .int) (hts _ (List.mem_of_getElem? (i := 77) (by decide +kernel)))
  obtain ⟨a3, d3, b3⟩ := st_obj (C := "IceTongue$Band") (args := args) (hts _ (List.mem_of_getElem? (i := 50) (by decide +kernel)))
  obtain ⟨a4, d4, b4⟩ := st_obj (C := "IceTongue$Stake") (args := args) (hts _ (List.mem_of_getElem? (i := 52) (by decide +kernel)))
  obtain ⟨a5, d5, b5⟩ := st_obj (C := "IceTongue$Tongue") (args := args) (hts _ (List.mem_of_getElem? (i := 224) (by decide +kernel)))
  refine ⟨(fun k => match k with | 0 => c0 | 1 => c1 | 2 => c2 | 3 => c3 | 4 => c4 | 5 => c5 | _ => c6, fun k => match k with | 0 => i0 | 1 => i1 | 2 => i2 | 3 => i3 | 4 => i4 | 5 => i5 | _ => i6), (a0, a1, a1, a3, a4, a5), ?_, ?_⟩
  · intro k q hq
    match k, hq with
    | 0, hq => cases hq; exact h0
    | 1, hq => cases hq; exact h1
    | 2, hq => cases hq; exact h2
    | 3, hq => cases hq; exact h3
    | 4, hq => cases hq; exact h4
    | 5, hq => cases hq; exact h5
    | 6, hq => cases hq; exact h6
    | k + 7, hq => simp [vwCl] at hq
  · intro k q hq
    match k, hq with
    | 0, hq => cases hq; exact ⟨d0, b0⟩
    | 1, hq => cases hq; exact ⟨d1, b1⟩
    | 2, hq => cases hq; exact ⟨d3, b3⟩
    | 3, hq => cases hq; exact ⟨d4, b4⟩
    | 4, hq => cases hq; exact ⟨d5, b5⟩
    | k + 5, hq => simp [tys] at hq
def E00 : Ee := (0, 0, fun _ => 0, fun _ => 0, fun _ _ => 0, fun _ _ => 0, fun _ _ => none)
def E01 : Ee := eNew E00 6 0 5 (fun _ => 0)
def E02 : Ee := (fnN_X6_init E01 0).getD E01
theorem E02_some : (fnN_X6_init E01 0).isSome = true := by decide +kernel
theorem E02_is : fnN_X6_init E01 0 = some E02 := by
  have h := E02_some
  unfold E02
  cases hx : fnN_X6_init E01 0 with
  | none => rw [hx] at h; cases h
  | some x => rfl
theorem E02_n : eN E02 = 250 ∧ eL E02 = 49235 := by decide +kernel
theorem Rep00 : Rep (fun _ => 0) E00 ([], fun _ => 0, fun _ => 0) (fun _ _ => 0, fun _ _ => 0) (fun _ _ => none) := ⟨rfl, fun r h => absurd h (Nat.not_lt_zero r), fun r k i h => absurd h (Nat.not_lt_zero r), fun r s h => absurd h (Nat.not_lt_zero r)⟩
/-- what is left to show of the two programs: the law's loop answers 1 -/
def MainEq : Prop := ∀ (ad : Nat → Nat) (T : Ty) (M : Mm) (R : Rm) (L : Nat) (xs : Nat → Int32), L ≤ 260 → Rep ad E02 T M R → ∃ M9 R9, fs_L_law_8 T L xs (ad 0) 0 M R = some (1, M9, R9)
