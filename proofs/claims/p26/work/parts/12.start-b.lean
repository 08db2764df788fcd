set_option maxHeartbeats 8000000 in
set_option maxRecDepth 100000 in
theorem start_open (hmain : MainEq) {p : Program} {e : Env} {s : State} {m : MethodId} {below : List Frame} {meth : Method} {c : Code} (l : Launch) {b L : Nat} {xs : Nat → Int32} (hL : L ≤ 260) (C0 : lw_At p s m meth c b L xs) : W p l e room_1 s m #[Value.ref b] below meth c s.heap [] 0 0 (lw_Z below #[Value.ref b] s) (entryFrame m ([Value.ref b] : List Value).toArray 15) := by
  obtain ⟨hx, hb, hr, hml, hown, hts0, hX, hbl, hlk, hgv⟩ := id C0
  have hbA : ¬ (fun q : Nat => s.heap.size ≤ q) b := Nat.not_le.mpr hbl
  have hq := flat_of_before _ hgv
  have hi : (Cond.initialized "IceTongue").before #[Value.ref b] s = true := hts0 _ (gw_tbl _ wl_2)
  have hlF := hts0 _ (List.mem_of_getElem? (i := 41) (by decide +kernel) : Cond.laysStatic "IceTongue" "FIRST_SETTING" "[I" ∈ lw_tbl)
  have hlL := hts0 _ (List.mem_of_getElem? (i := 265) (by decide +kernel) : Cond.laysStatic "IceTongue" "LEAST_SETTING" "[I" ∈ lw_tbl)
  have hlM := hts0 _ (List.mem_of_getElem? (i := 267) (by decide +kernel) : Cond.laysStatic "IceTongue" "MOST_SETTING" "[I" ∈ lw_tbl)
  have hCl := st_cl hq hlF hi
  obtain ⟨tF, -, hF⟩ := st_FI hq hlF hi
  obtain ⟨tL, -, hLs⟩ := st_LE hq hlL hi
  obtain ⟨tM, -, hMs⟩ := st_MO hq hlM hi
  obtain ⟨D, cy, hK⟩ := st_K hts0
  have hNW : NW s := ⟨va_Nw.of rfl (hts0 _ (List.mem_of_getElem? (i := 40) (by decide +kernel))), va_Nw.of rfl (hts0 _ (List.mem_of_getElem? (i := 47) (by decide +kernel))), ⟨va_AO.of (A := #[Value.ref b]) (hts0 _ (List.mem_of_getElem? (i := 50) (by decide +kernel))), va_AO.of (A := #[Value.ref b]) (hts0 _ (List.mem_of_getElem? (i := 52) (by decide +kernel))), va_AO.of (A := #[Value.ref b]) (hts0 _ (List.mem_of_getElem? (i := 224) (by decide +kernel)))⟩, va_Nw.of rfl (hts0 _ (List.mem_of_getElem? (i := 55) (by decide +kernel))), va_Nw.of rfl (hts0 _ (List.mem_of_getElem? (i := 79) (by decide +kernel))), va_Nw.of rfl (hts0 _ (List.mem_of_getElem? (i := 85) (by decide +kernel))), va_Nw.of rfl (hts0 _ (List.mem_of_getElem? (i := 144) (by decide +kernel))), va_Nw.of rfl (hts0 _ (List.mem_of_getElem? (i := 227) (by decide +kernel)))⟩
  have C : Cx RL cL_law 15 ret p s m #[Value.ref b] meth c D cy (fun q : Nat => s.heap.size ≤ q) := ⟨hx, hb, hr, hml, hown, fun w h => hts0 w (gw_tbl w h), hK, fun _ h => h, hlk, ⟨tL, hLs⟩, ⟨tM, hMs⟩, ⟨tF, hF⟩⟩
  have hw : WdE D cy (fun q : Nat => s.heap.size ≤ q) s (fun _ => 0) E00 s.heap [] := ⟨_, _, _, Rep00, fun k q h => by simp [WL, va_pl] at h, ⟨fun i j p q h => by simp [WL, va_pl] at h, fun k q h => by simp [WL, va_pl] at h⟩, va_S.rf⟩
  have hl := lv_entry ([.ref b]) (n := 15) (Nat.le_of_ble_eq_true rfl)
  rw [lg_entry_eq]
  generalize (lg_sl ([.ref b]) ++ List.replicate (15 - (lg_sl ([.ref b])).length) Slot.unset).toArray = ls at hl ⊢
  have hl : lv_has ls 15 [(0, .ref b)] := hl
  refine nn_6 C hw wl_0 (Nat.le_of_ble_eq_true rfl) (Nat.le_of_ble_eq_true rfl) dL_law_0 (fun x ad1 E1 H eE tr u_x hz1 hz2 hw => ?_)
  have eE : E1 = E01 := eE
  subst eE
  refine lv_dup hx hb dL_law_3 rfl ?_
  refine cl_n C hCl hNW (ctN_X6_init E02_is u_x E02_n.1 E02_n.2) (by rw [E02_n.1]; decide) wl_6 wl_7 wl_2 wl_8 hdN_X6_init rfl ⟨Nat.le_of_ble_eq_true rfl, Nat.le_of_ble_eq_true rfl⟩ ⟨rfl, rfl⟩ ⟨Nat.le_of_ble_eq_true rfl, Nat.le_of_ble_eq_true rfl⟩ (Nat.le_of_ble_eq_true rfl) hl.1 hw dL_law_4 (fun ad2 H locs tr hw => ?_)
  replace u_x := tr _ _ u_x
  refine lv_astore_n (lv' := [(1, .ref x), (0, .ref b)]) hx hb dL_law_7 rfl hl (by decide) rfl (fun ls hl => ?_)
  obtain ⟨T, M, R, hRp, hP, hD, hS⟩ := hw
  obtain ⟨M9, R9, hfin⟩ := hmain ad2 T M R L xs hL hRp
  have ex : ad2 0 = x := u_x.2
  rw [ex] at hfin
  refine W.widen (k := 250 + 3 * 0) (n := 49235 + 30 * 0) (Nat.le_of_ble_eq_true rfl) (Nat.le_of_ble_eq_true rfl) ?_
  exact bs_L_law_8 C hX hbl hbA 0 M R H locs hfin (Nat.zero_le _) hP hD hS ls (lv_sub hl [1, 0] rfl)
