/-! the first world, and all addresses apart -/
def tgE (B : Nat) : Prop := eK E02 B 5 = true ∧ eP E02 B 0 = some (B + 1) ∧ eP E02 B 1 = some (B + 2) ∧ eP E02 B 2 = some (B + 3) ∧ eP E02 B 3 = some (B + 4) ∧ eK E02 (B + 1) 9 = true ∧ eLn E02 (B + 1) = 7 ∧ eK E02 (B + 2) 11 = true ∧ eLn E02 (B + 2) = 10 ∧ eK E02 (B + 3) 12 = true ∧ eLn E02 (B + 3) = 6 ∧ eK E02 (B + 4) 1 = true ∧ (∀ i, i < 10 → eP E02 (B + 2) i = some (B + (5 + 3 * i)) ∧ eK E02 (B + (5 + 3 * i)) 0 = true ∧ eP E02 (B + (5 + 3 * i)) 0 = some (B + (5 + 3 * i + 1)) ∧ eK E02 (B + (5 + 3 * i + 1)) 2 = true ∧ eP E02 (B + (5 + 3 * i + 1)) 0 = some (B + (5 + 3 * i + 1 + 1)) ∧ eK E02 (B + (5 + 3 * i + 1 + 1)) 9 = true ∧ eLn E02 (B + (5 + 3 * i + 1 + 1)) = 801) ∧ (∀ j, j < 6 → eP E02 (B + 3) j = some (B + (35 + j)) ∧ eK E02 (B + (35 + j)) 3 = true)
theorem tgE_1 : tgE 1 := by
  unfold tgE
  decide +kernel
theorem tgE_43 : tgE 43 := by
  unfold tgE
  decide +kernel
theorem tgE_84 : tgE 84 := by
  unfold tgE
  decide +kernel
theorem tgE_125 : tgE 125 := by
  unfold tgE
  decide +kernel
theorem tgE_166 : tgE 166 := by
  unfold tgE
  decide +kernel
theorem tgE_209 : tgE 209 := by
  unfold tgE
  decide +kernel
theorem iniA : eK E02 0 6 = true ∧ eP E02 0 0 = some 1 ∧ eP E02 0 1 = some 42 ∧ eP E02 0 2 = some 207 ∧ eP E02 0 3 = some 209 ∧ eK E02 42 13 = true ∧ eLn E02 42 = 4 ∧ eP E02 42 0 = some 43 ∧ eP E02 42 1 = some 84 ∧ eP E02 42 2 = some 125 ∧ eP E02 42 3 = some 166 ∧ eK E02 207 4 = true ∧ eP E02 207 0 = some 208 ∧ eK E02 208 8 = true ∧ eLn E02 208 = 60 := by decide +kernel
def mxA (ad : Nat → Nat) : Nat → Nat
  | 0 => 0
  | n + 1 => mxA ad n + ad n + 1
theorem mxA_lt (ad : Nat → Nat) : ∀ {n r : Nat}, r < n → ad r < mxA ad n := by
  intro n
  induction n with
  | zero =>
    intro r h
    omega
  | succ n ih =>
    intro r h
    have e : mxA ad (n + 1) = mxA ad n + ad n + 1 := rfl
    by_cases h1 : r = n
    · rw [e, h1]
      omega
    · have := ih (r := r) (by omega)
      omega
def exA (ad : Nat → Nat) : Nat → Nat := fun r => if r < 250 then ad r else mxA ad 250 + r
theorem exA_lt (ad : Nat → Nat) {r : Nat} (h : r < 250) : exA ad r = ad r := if_pos h
theorem exA_ge (ad : Nat → Nat) {r : Nat} (h : ¬ r < 250) : exA ad r = mxA ad 250 + r := if_neg h
theorem exA_inj {ad : Nat → Nat} (hi : ∀ r s, r < 250 → s < 250 → ad r = ad s → r = s) : ∀ a b : Nat, (exA ad a = exA ad b) = (a = b) := fun a b => by
  rw [eq_iff_iff]
  constructor
  · intro h
    by_cases ha : a < 250
    · by_cases hb : b < 250
      · rw [exA_lt ad ha, exA_lt ad hb] at h
        exact hi a b ha hb h
      · rw [exA_lt ad ha, exA_ge ad hb] at h
        have := mxA_lt ad ha
        omega
    · by_cases hb : b < 250
      · rw [exA_ge ad ha, exA_lt ad hb] at h
        have := mxA_lt ad hb
        omega
      · rw [exA_ge ad ha, exA_ge ad hb] at h
        omega
  · intro h
    rw [h]
theorem Rep_ex {ad : Nat → Nat} {T : Ty} {M : Mm} {R : Rm} (h : Rep ad E02 T M R) : Rep (exA ad) E02 T M R := by
  obtain ⟨h1, h2, h3, h4⟩ := h
  have n := E02_n.1
  have ex : ∀ r, r < eN E02 → exA ad r = ad r := fun r hr => exA_lt ad (by
    rw [n] at hr
    exact hr)
  refine ⟨?_, fun r hr => ?_, h3, fun r s hr hs e => h4 r s hr hs (by
    rw [ex r hr, ex s hs] at e
    exact e)⟩
  · rw [h1]
    exact List.map_congr_left (fun a ha => (ex a (List.mem_range.mp ha)).symm)
  · rw [ex r hr]
    obtain ⟨a, b, c, d, e⟩ := h2 r hr
    refine ⟨a, b, c, d, fun k => ?_⟩
    rw [e k]
    cases hp : eP E02 r k with
    | none => rfl
    | some i =>
      show some (ad i) = some (exA ad i)
      rw [ex i (h3 r k i hr hp)]
theorem E_K {ad : Nat → Nat} {T : Ty} {M : Mm} {R : Rm} (h : Rep ad E02 T M R) {r k : Nat} (hr : r < 250) (hk : eK E02 r k = true) : isK T (ad r) k = true := h.kd ⟨by rw [E02_n.1]; exact hr, rfl⟩ hk
theorem E_L {ad : Nat → Nat} {T : Ty} {M : Mm} {R : Rm} (h : Rep ad E02 T M R) {r v : Nat} (hr : r < 250) (hv : eLn E02 r = v) : lnT T (ad r) = v := (h.ln ⟨by rw [E02_n.1]; exact hr, rfl⟩).trans hv
theorem E_P {ad : Nat → Nat} {T : Ty} {M : Mm} {R : Rm} (h : Rep ad E02 T M R) {r k b : Nat} (hr : r < 250) (hb : eP E02 r k = some b) : R (ad r) k = some (ad b) := (h.get ⟨by rw [E02_n.1]; exact hr, rfl⟩ hb).1
theorem E_I {ad : Nat → Nat} {T : Ty} {M : Mm} {R : Rm} (h : Rep ad E02 T M R) {r : Nat} (hr : r < 250) : M.1 (ad r) = eC E02 r := (h.2.1 r (by rw [E02_n.1]; exact hr)).2.2.1
theorem E_J {ad : Nat → Nat} {T : Ty} {M : Mm} {R : Rm} (h : Rep ad E02 T M R) {r : Nat} (hr : r < 250) : M.2 (ad r) = eJ E02 r := (h.2.1 r (by rw [E02_n.1]; exact hr)).2.2.2.1
theorem E_v {ad : Nat → Nat} {T : Ty} {M : Mm} {R : Rm} (h : Rep ad E02 T M R) {r k : Nat} {v : Int32} (hr : r < 250) (hv : eC E02 r k = v) : M.1 (ad r) k = v := by
  rw [E_I h hr]
  exact hv
theorem TG_E {ad : Nat → Nat} (hi : ∀ a b : Nat, (ad a = ad b) = (a = b)) {T : Ty} {M : Mm} {R : Rm} (h : Rep ad E02 T M R) {B : Nat} (hB : B + 41 ≤ 250) (t : tgE B) : TG T R (qq ad B) (fun j => j) := by
  have bd : ∀ c, c < 41 → B + c < 250 := fun c hc => by omega
  have b0 : B < 250 := bd 0 (by omega)
  have b1 := bd 1 (by omega)
  have b2 := bd 2 (by omega)
  have b3 := bd 3 (by omega)
  have b4 := bd 4 (by omega)
  have b5 : ∀ i, i < 10 → B + (5 + 3 * i) < 250 := fun i hi' => bd _ (by omega)
  have b6 : ∀ i, i < 10 → B + (5 + 3 * i + 1) < 250 := fun i hi' => bd _ (by omega)
  have b7 : ∀ i, i < 10 → B + (5 + 3 * i + 1 + 1) < 250 := fun i hi' => bd _ (by omega)
  have b8 : ∀ i, i < 10 → 5 + 3 * i + 1 + 1 < 41 := fun i hi' => by omega
  have b9 : ∀ j, j < 6 → B + (35 + j) < 250 := fun j hj => bd _ (by omega)
  have t13 := t.2.2.2.2.2.2.2.2.2.2.2.2.1
  have t14 := t.2.2.2.2.2.2.2.2.2.2.2.2.2
  exact ⟨qq_i hi B, E_K h b0 t.1, E_P h b0 t.2.1, E_P h b0 t.2.2.1, E_P h b0 t.2.2.2.1, E_P h b0 t.2.2.2.2.1, E_K h b1 t.2.2.2.2.2.1, E_L h b1 t.2.2.2.2.2.2.1, E_K h b2 t.2.2.2.2.2.2.2.1, E_L h b2 t.2.2.2.2.2.2.2.2.1, E_K h b3 t.2.2.2.2.2.2.2.2.2.1, E_L h b3 t.2.2.2.2.2.2.2.2.2.2.1, E_K h b4 t.2.2.2.2.2.2.2.2.2.2.2.1, fun i hi' => E_P h b2 (t13 i hi').1, fun i hi' => E_K h (b5 i hi') (t13 i hi').2.1, fun i hi' => E_P h (b5 i hi') (t13 i hi').2.2.1, fun i hi' => ⟨E_K h (b6 i hi') (t13 i hi').2.2.2.1, E_P h (b6 i hi') (t13 i hi').2.2.2.2.1, E_K h (b7 i hi') (t13 i hi').2.2.2.2.2.1, E_L h (b7 i hi') (t13 i hi').2.2.2.2.2.2, b8 i hi'⟩, fun j hj => E_P h b3 (t14 j hj).1, fun j hj => E_K h (b9 j hj) (t14 j hj).2, fun j hj => hj, fun i j _ _ e => e⟩
def be0 : Nat → Nat := fun k => if k = 0 then 43 else if k = 1 then 84 else if k = 2 then 125 else if k = 3 then 166 else 209
def m00 : Nat → Int32 := fun k => if k < 7 then fFirst k else if k = 13 then nONE else nI 0
def s00 : Sx := (m00, fun _ _ => 0, fun _ => 0)
def M00 (m : Nat → Int32) : Prop := m 0 = nI 1000 ∧ m 1 = nI 50 ∧ m 2 = nI 1500 ∧ m 3 = nI 100 ∧ m 4 = nI 2500 ∧ m 5 = nI 500 ∧ m 6 = nI 2 ∧ m 7 = nI 0 ∧ m 8 = nI 0 ∧ m 9 = nI 0 ∧ m 10 = nI 0 ∧ m 11 = nI 0 ∧ m 12 = nI 0 ∧ m 19 = nI 0 ∧ m 13 = nONE
theorem M00_m : M00 m00 := by
  unfold M00
  decide +kernel
theorem IV_00 {m : Nat → Int32} (h : M00 m) : IV m := by
  obtain ⟨m0, m1, m2, m3, m4, m5, m6, m7, m8, m9, m10, m11, m12, m19, m13⟩ := h
  have n8 : nt (m 8) = 0 := by
    rw [m8, nt_nI (by omega)]
  have n9 : nt (m 9) = 0 := by
    rw [m9, nt_nI (by omega)]
  refine ⟨?_, ?_, ?_, ?_, ?_, ?_, ?_, ?_, ?_, ?_, fun b hb => by omega, fun b hb => by omega⟩
  · rw [m0]
    exact rg_nI (by omega) (by omega) (by omega)
  · rw [m1]
    exact rg_nI (by omega) (by omega) (by omega)
  · rw [m2]
    exact rg_nI (by omega) (by omega) (by omega)
  · rw [m3]
    exact rg_nI (by omega) (by omega) (by omega)
  · rw [m4]
    exact rg_nI (by omega) (by omega) (by omega)
  · rw [m5]
    exact rg_nI (by omega) (by omega) (by omega)
  · rw [m6]
    exact rg_nI (by omega) (by omega) (by omega)
  · rw [m7]
    exact rg_nI (by omega) (by omega) (by omega)
  · rw [m8]
    exact rg_nI (by omega) (by omega) (by omega)
  · rw [m9]
    exact rg_nI (by omega) (by omega) (by omega)
theorem OK_00 {m : Nat → Int32} (h : M00 m) (acc : Nat → Int64) : OKs (m, fun _ _ => 0, acc) := by
  have I := IV_00 h
  obtain ⟨m0, m1, m2, m3, m4, m5, m6, m7, m8, m9, m10, m11, m12, m19, m13⟩ := h
  have n8 : nt (m 8) = 0 := by
    rw [m8, nt_nI (by omega)]
  have J : JV (1000000 * 0 + 300000 * 0) m (fun _ _ => 0) := by
    refine ⟨I, ⟨0, 0, 0, m10, m12, m11, by omega, ?_, fun _ => m13, fun h => absurd h (by omega)⟩, fun b y hb _ => by omega, m19⟩
    rw [n8]
    exact Nat.le_refl 0
  exact ⟨0, 0, 0, GS_mk (s := (m, fun _ _ => 0, acc)) J m7 m8 m9 (by omega) (by omega) (by omega), by omega, fun b y _ _ => rfl⟩
theorem RT_00 {m : Nat → Int32} (h : M00 m) {acc : Nat → Int64} {c : Nat → Nat → Int32} {l : Nat → Int64} (c1 : ∀ k, k < 7 → c 1 k = m k) (c4 : c 0 4 = nI 0) (c5 : c 0 5 = nI 0) (c6 : c 0 6 = nI 0) (d0 : c 4 0 = nI 0) (d1 : c 4 1 = nI 0) (d2 : c 4 2 = nI 0) (hl : ∀ k, k < 4 → l (7 + k) = acc k) (σ : Nat → Nat) : RT QT σ c l (m, fun _ _ => 0, acc) := by
  obtain ⟨m0, m1, m2, m3, m4, m5, m6, m7, m8, m9, m10, m11, m12, m19, m13⟩ := h
  have n8 : nt (m 8) = 0 := by
    rw [m8, nt_nI (by omega)]
  have n9 : nt (m 9) = 0 := by
    rw [m9, nt_nI (by omega)]
  exact ⟨c1, c4.trans m8.symm, c5.trans m9.symm, c6.trans m7.symm, d0.trans m10.symm, d1.trans m11.symm, d2.trans m12.symm, fun h => absurd m12 h, hl, fun b hb => by
    have hb' : b < nt (m 8) := hb
    omega, fun i hi => by
    have hi' : i < nt (m 9) := hi
    omega⟩
theorem CG_E {ad : Nat → Nat} (hi : ∀ a b : Nat, (ad a = ad b) = (a = b)) {T : Ty} {M : Mm} {R : Rm} (h : Rep ad E02 T M R) : CG ad T R be0 (fun _ j => j) := by
  refine ⟨E_K h (by decide) iniA.1, E_P h (by decide) iniA.2.1, E_P h (by decide) iniA.2.2.1, E_P h (by decide) iniA.2.2.2.1, E_P h (by decide) iniA.2.2.2.2.1, E_K h (by decide) iniA.2.2.2.2.2.1, E_L h (by decide) iniA.2.2.2.2.2.2.1, fun k hk => ?_, fun k hk => ?_, fun i j hi' hj e => ?_, fun B hB => ?_, E_K h (by decide) iniA.2.2.2.2.2.2.2.2.2.2.2.1, E_P h (by decide) iniA.2.2.2.2.2.2.2.2.2.2.2.2.1, E_K h (by decide) iniA.2.2.2.2.2.2.2.2.2.2.2.2.2.1, E_L h (by decide) (iniA.2.2.2.2.2.2.2.2.2.2.2.2.2.2)⟩
  · rcases (show k = 0 ∨ k = 1 ∨ k = 2 ∨ k = 3 by omega) with rfl | rfl | rfl | rfl
    · exact E_P h (by decide) iniA.2.2.2.2.2.2.2.1
    · exact E_P h (by decide) iniA.2.2.2.2.2.2.2.2.1
    · exact E_P h (by decide) iniA.2.2.2.2.2.2.2.2.2.1
    · exact E_P h (by decide) iniA.2.2.2.2.2.2.2.2.2.2.1
  · unfold BS be0
    rcases (show k = 0 ∨ k = 1 ∨ k = 2 ∨ k = 3 ∨ k = 4 by omega) with rfl | rfl | rfl | rfl | rfl <;> decide
  · have key : ∀ i, i < 5 → ∀ j, j < 5 → be0 i = be0 j → i = j := by decide
    exact key i hi' j hj e
  · unfold BS at hB
    rcases hB with rfl | rfl | rfl | rfl | rfl | rfl
    · exact TG_E hi h (by decide) tgE_1
    · exact TG_E hi h (by decide) tgE_43
    · exact TG_E hi h (by decide) tgE_84
    · exact TG_E hi h (by decide) tgE_125
    · exact TG_E hi h (by decide) tgE_166
    · exact TG_E hi h (by decide) tgE_209
theorem iniC2 : (∀ k, k < 7 → eC E02 (209 + 1) k = m00 k) ∧ eC E02 (209 + 0) 4 = nI 0 ∧ eC E02 (209 + 0) 5 = nI 0 ∧ eC E02 (209 + 0) 6 = nI 0 ∧ eC E02 (209 + 4) 0 = nI 0 ∧ eC E02 (209 + 4) 1 = nI 0 ∧ eC E02 (209 + 4) 2 = nI 0 ∧ (∀ k, k < 4 → eJ E02 (209 + 0) (7 + k) = 0) ∧ eC E02 0 4 = nI 0 ∧ eC E02 207 1 = nI 0 := by decide +kernel
theorem EV_00 : EV s00 := by
  have h8 : nt (s00.1 8) = 0 := by decide
  have h9 : nt (s00.1 9) = 0 := by decide
  have h7 : nt (s00.1 7) = 0 := by decide
  unfold EV
  rw [h8, h9, h7]
  refine ⟨fun b hb => absurd hb (by omega), fun b hb => absurd hb (by omega), fun b hb => absurd hb (by omega), ?_, fun i hi => absurd hi (by omega), fun h => absurd (show s00.1 12 = nI 0 by decide) h⟩
  decide
theorem first_WE {ad : Nat → Nat} (hi : ∀ a b : Nat, (ad a = ad b) = (a = b)) {T : Ty} {M : Mm} {R : Rm} (h : Rep ad E02 T M R) : WE ad T M R s00 0 (fun _ => s00) := by
  refine ⟨⟨fun _ => 0, be0, fun _ j => j, hi, CG_E hi h, ⟨E_v h (by decide) iniC2.2.2.2.2.2.2.2.2.1, Nat.zero_le _, ?_, fun k hk => absurd hk (Nat.not_lt_zero k), OK_00 M00_m _, fun k hk => absurd hk (Nat.not_lt_zero k)⟩, E_v h (by decide) iniC2.2.2.2.2.2.2.2.2.2, Nat.zero_le _, fun k hk => absurd hk (Nat.not_lt_zero k), fun k hk => absurd hk (Nat.not_lt_zero k)⟩, EV_00, fun k hk => absurd hk (Nat.not_lt_zero k)⟩
  show RT QT (fun j => j) (CC ad M 209) (CL ad M 209) (m00, fun _ _ => 0, fun _ => 0)
  refine RT_00 (m := m00) (acc := fun _ => 0) (c := CC ad M 209) (l := CL ad M 209) M00_m (fun k hk => ?_) (E_v h (by decide) iniC2.2.1) (E_v h (by decide) iniC2.2.2.1) (E_v h (by decide) iniC2.2.2.2.1) (E_v h (by decide) iniC2.2.2.2.2.1) (E_v h (by decide) iniC2.2.2.2.2.2.1) (E_v h (by decide) iniC2.2.2.2.2.2.2.1) (fun k hk => ?_) (fun j => j)
  · show M.1 (ad (209 + 1)) k = _
    rw [E_I h (by decide)]
    exact iniC2.1 k hk
  · show M.2 (ad (209 + 0)) (7 + k) = _
    rw [E_J h (by decide)]
    exact iniC2.2.2.2.2.2.2.2.1 k hk
theorem main_eq : MainEq := by
  intro ad T M R L xs hL h
  have hi : ∀ a b : Nat, (exA ad a = exA ad b) = (a = b) := exA_inj (fun r s hr hs e => h.2.2.2 r s (by rw [E02_n.1]; exact hr) (by rw [E02_n.1]; exact hs) e)
  have ww := first_WE hi (Rep_ex h)
  obtain ⟨M9, R9, q⟩ := law_8 (xs := xs) hL ww (by decide)
  rw [exA_lt ad (by decide)] at q
  exact ⟨M9, R9, q⟩
