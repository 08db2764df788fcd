/-! the class's tongue in one piece: its 41 cells -/
def ov (q : Nat → Nat) (c : Nat → Nat → Int32) : Nat → (Nat → Nat → Int32) → Nat → Nat → Int32
  | 0, g => g
  | n + 1, g => fun a => if a = q n then c n else ov q c n g a
def TV (q : Nat → Nat) (M : Mm) (c : Nat → Nat → Int32) (l : Nat → Int64) : Mm := (ov q c 41 M.1, fun a => if a = q 0 then l else M.2 a)
theorem ov_out {q : Nat → Nat} {c : Nat → Nat → Int32} {g : Nat → Nat → Int32} {a : Nat} : ∀ {n : Nat}, (∀ j, j < n → a ≠ q j) → ov q c n g a = g a := by
  intro n
  induction n with
  | zero => exact fun _ => rfl
  | succ n ih =>
    intro h
    show (if a = q n then c n else ov q c n g a) = g a
    rw [if_neg (h n (by omega))]
    exact ih (fun j hj => h j (by omega))
theorem ov_in {q : Nat → Nat} (hq : ∀ a b : Nat, (q a = q b) = (a = b)) {c : Nat → Nat → Int32} {g : Nat → Nat → Int32} {j : Nat} : ∀ {n : Nat}, j < n → ov q c n g (q j) = c j := by
  intro n
  induction n with
  | zero => exact fun h => absurd h (by omega)
  | succ n ih =>
    intro h
    show (if q j = q n then c n else ov q c n g (q j)) = c j
    by_cases e : j = n
    · subst e
      rw [if_pos rfl]
    · rw [if_neg (by rw [hq]; exact e)]
      exact ih (by omega)
theorem ov_up {q : Nat → Nat} (hq : ∀ a b : Nat, (q a = q b) = (a = b)) {c : Nat → Nat → Int32} {g : Nat → Nat → Int32} {j k : Nat} {v : Int32} {n : Nat} (hj : j < n) : up2 (ov q c n g) (q j) k v = ov q (up2 c j k v) n g := by
  funext a i
  by_cases h : ∃ j', j' < n ∧ a = q j'
  · obtain ⟨j', h1, rfl⟩ := h
    rw [ov_in hq h1]
    unfold up2
    rw [ov_in hq h1]
    simp only [hq]
  · have h' : ∀ j', j' < n → a ≠ q j' := fun j' h1 e => h ⟨j', h1, e⟩
    rw [ov_out h']
    unfold up2
    rw [ov_out h', if_neg (fun e => h' j hj e.1)]
theorem TV_g {q : Nat → Nat} (hq : ∀ a b : Nat, (q a = q b) = (a = b)) (M : Mm) (c : Nat → Nat → Int32) (l : Nat → Int64) {j : Nat} (k : Nat) (hj : j < 41) : gI (TV q M c l) (q j) k = c j k := by
  show ov q c 41 M.1 (q j) k = c j k
  rw [ov_in hq hj]
theorem TV_s {q : Nat → Nat} (hq : ∀ a b : Nat, (q a = q b) = (a = b)) (M : Mm) (c : Nat → Nat → Int32) (l : Nat → Int64) {j : Nat} (k : Nat) (v : Int32) (hj : j < 41) : sI (TV q M c l) (q j) k v = TV q M (up2 c j k v) l := by
  unfold sI TV
  rw [ov_up hq hj]
theorem TV_gj (q : Nat → Nat) (M : Mm) (c : Nat → Nat → Int32) (l : Nat → Int64) (k : Nat) : gJ (TV q M c l) (q 0) k = l k := by simp [TV, gJ]
theorem TV_sj (q : Nat → Nat) (M : Mm) (c : Nat → Nat → Int32) (l : Nat → Int64) (k : Nat) (v : Int64) : sJ (TV q M c l) (q 0) k v = TV q M c (vp_updL l k v) := by
  unfold sJ TV up2 vp_updL
  refine congrArg (fun z => (_, z)) ?_
  funext a j
  by_cases h : a = q 0
  · simp [h]
  · simp [h]
theorem TV_o {q : Nat → Nat} (M : Mm) (c : Nat → Nat → Int32) (l : Nat → Int64) {a : Nat} (k : Nat) (h : ∀ j, j < 41 → a ≠ q j) : gI (TV q M c l) a k = gI M a k := by
  show ov q c 41 M.1 a k = M.1 a k
  rw [ov_out h]
theorem TV_oj {q : Nat → Nat} (M : Mm) (c : Nat → Nat → Int32) (l : Nat → Int64) {a : Nat} (k : Nat) (h : a ≠ q 0) : gJ (TV q M c l) a k = gJ M a k := by simp [TV, gJ, h]
theorem TV_eta {q : Nat → Nat} (hq : ∀ a b : Nat, (q a = q b) = (a = b)) (M : Mm) : TV q M (fun j => M.1 (q j)) (M.2 (q 0)) = M := by
  unfold TV
  have e1 : ov q (fun j => M.1 (q j)) 41 M.1 = M.1 := by
    funext a
    by_cases h : ∃ j', j' < 41 ∧ a = q j'
    · obtain ⟨j', h1, rfl⟩ := h
      rw [ov_in hq h1]
    · exact ov_out (fun j' h1 e => h ⟨j', h1, e⟩)
  have e2 : (fun a => if a = q 0 then M.2 (q 0) else M.2 a) = M.2 := by
    funext a
    by_cases h1 : a = q 0 <;> simp [h1]
  rw [e1, e2]
theorem up2_s {α : Type} (c : Nat → Nat → α) (j k : Nat) (v : α) : up2 c j k v j k = v := by simp [up2]
theorem up2_c {α : Type} (c : Nat → Nat → α) {j k j' k' : Nat} (v : α) (h : j' ≠ j) : up2 c j k v j' k' = c j' k' := by simp [up2, h]
theorem up2_k {α : Type} (c : Nat → Nat → α) {j k j' k' : Nat} (v : α) (h : k' ≠ k) : up2 c j k v j' k' = c j' k' := by simp [up2, h]
theorem up2_r {α : Type} (c : Nat → Nat → α) {j k j' : Nat} (v : α) (h : j' ≠ j) : up2 c j k v j' = c j' := by
  funext k'
  exact up2_c c v h
/-- what a Layers object is to its row of naturals -/
def LW (c : Nat → Nat → Int32) (a : Nat) (g : Nat → Nat) (o t : Int32) : Prop := (∀ y, y < 801 → c (a + 1) y = nI (g y)) ∧ c a 1 = nI (sm g 801) ∧ c a 2 = o ∧ c a 3 = t
def TI (g : Nat → Nat) (o t : Nat) : Prop := o ≤ t ∧ t < 801 ∧ 0 < g o ∧ 0 < g t ∧ (∀ y, y < o → g y = 0) ∧ (∀ y, t < y → y < 801 → g y = 0)
def LY (c : Nat → Nat → Int32) (a : Nat) (g : Nat → Nat) : Prop := (sm g 801 = 0 ∧ LW c a g (nI 801) nONE) ∨ ∃ o t, TI g o t ∧ LW c a g (nI o) (nI t)
def FR (c c' : Nat → Nat → Int32) (a : Nat) : Prop := ∀ j, j ≠ a → j ≠ a + 1 → c' j = c j
def LG (T : Ty) (R : Rm) (q : Nat → Nat) (a : Nat) : Prop := isK T (q a) 2 = true ∧ R (q a) 0 = some (q (a + 1)) ∧ isK T (q (a + 1)) 9 = true ∧ lnT T (q (a + 1)) = 801 ∧ a + 1 < 41
theorem sm_0y {g : Nat → Nat} {n : Nat} (h : sm g n = 0) {y : Nat} (hy : y < n) : g y = 0 := by
  have := sm_le1 g hy
  omega
theorem LY_row {c : Nat → Nat → Int32} {a : Nat} {g : Nat → Nat} (h : LY c a g) : ∀ y, y < 801 → c (a + 1) y = nI (g y) := by
  rcases h with ⟨-, h⟩ | ⟨o, t, -, h⟩
  · exact h.1
  · exact h.1
theorem LY_ice {c : Nat → Nat → Int32} {a : Nat} {g : Nat → Nat} (h : LY c a g) : c a 1 = nI (sm g 801) := by
  rcases h with ⟨-, h⟩ | ⟨o, t, -, h⟩
  · exact h.2.1
  · exact h.2.1
theorem LW_fr {c c' : Nat → Nat → Int32} {a : Nat} {g : Nat → Nat} {o t : Int32} (h : LW c a g o t) (h1 : c' a = c a) (h2 : c' (a + 1) = c (a + 1)) : LW c' a g o t := by
  unfold LW
  rw [h1, h2]
  exact h
theorem LY_fr {c c' : Nat → Nat → Int32} {a : Nat} {g : Nat → Nat} (h : LY c a g) (h1 : c' a = c a) (h2 : c' (a + 1) = c (a + 1)) : LY c' a g := by
  rcases h with ⟨h0, h⟩ | ⟨o, t, ht, h⟩
  · exact .inl ⟨h0, LW_fr h h1 h2⟩
  · exact .inr ⟨o, t, ht, LW_fr h h1 h2⟩
theorem LY_congr {c : Nat → Nat → Int32} {a : Nat} {g g' : Nat → Nat} (h : LY c a g) (e : ∀ y, y < 801 → g' y = g y) : LY c a g' := by
  have es : sm g' 801 = sm g 801 := sm_congr e
  have lw : ∀ o t, LW c a g o t → LW c a g' o t := fun o t h => ⟨fun y hy => by rw [e y hy]; exact h.1 y hy, by rw [es]; exact h.2.1, h.2.2.1, h.2.2.2⟩
  rcases h with ⟨h0, h⟩ | ⟨o, t, ht, h⟩
  · exact .inl ⟨es.trans h0, lw _ _ h⟩
  · obtain ⟨t1, t2, t3, t4, t5, t6⟩ := ht
    exact .inr ⟨o, t, ⟨t1, t2, by rw [e o (by omega)]; exact t3, by rw [e t (by omega)]; exact t4, fun y hy => by rw [e y (by omega)]; exact t5 y hy, fun y h1 h2 => by rw [e y h2]; exact t6 y h1 h2⟩, lw _ _ h⟩
theorem FR_t {c c' c'' : Nat → Nat → Int32} {a : Nat} (h : FR c c' a) (h' : FR c' c'' a) : FR c c'' a := fun j h1 h2 => (h' j h1 h2).trans (h j h1 h2)
theorem FR_r (c : Nat → Nat → Int32) (a : Nat) : FR c c a := fun _ _ _ => rfl
theorem sm_fu2 (g : Nat → Nat) {k n v : Nat} (h : k < n) : sm (fu g k v) n = sm g n + v - g k := by
  have := sm_fu g (v := v) h
  omega
theorem x2_leftOf {q : Nat → Nat} (hq : ∀ a b : Nat, (q a = q b) = (a = b)) {T : Ty} {R : Rm} {a : Nat} (L : LG T R q a) (M : Mm) {c : Nat → Nat → Int32} (l : Nat → Int64) {y : Nat} (hy : y < 801) : fn_X2_leftOf T R (q a) (nI y) (TV q M c l) = some (c (a + 1) y, TV q M c l) := by
  obtain ⟨g1, g2, g3, g4, g5⟩ := L
  have hny : ¬ nI y < nI 0 := nI_pos (by omega)
  unfold fn_X2_leftOf
  simp (disch := omega) only [↓lm1, l0, l1, l2, l3, l4, l5, l6, l7, l8, l9, l10, l11, l12, l13, l14, l31, l32, l44, l48, l50, l57, l59, l60, l74, l100, l110, l126, l300, l330, l500, l501, l801, l1000, l5000, l5010, l8010, l8192, l9000, l10000, l1000000, nI_add, pk_mul, nI_clamp, nI_leI, nI_ltI, nI_eq, chk_d, chk_t, chk_inb, rfm_s, bnd_e, cal_e, calR_e, if_pos, if_neg, g1, g2, g3, g4, TV_g hq, hny, if_false]
theorem x2_add {q : Nat → Nat} (hq : ∀ a b : Nat, (q a = q b) = (a = b)) {T : Ty} {R : Rm} {a : Nat} (L : LG T R q a) (M : Mm) {c : Nat → Nat → Int32} (l : Nat → Int64) {g : Nat → Nat} (h : LY c a g) {y v : Nat} (hy : y < 801) (hv : v < 2 ^ 31) : ∃ c', fn_X2_add T R (q a) (nI y) (nI v) (TV q M c l) = some ((), TV q M c' l) ∧ LY c' a (fu g y (g y + v)) ∧ FR c c' a := by
  have hrow := LY_row h
  have hice := LY_ice h
  obtain ⟨g1, g2, g3, g4, g5⟩ := L
  have hny : ¬ nI y < nI 0 := nI_pos (by omega)
  unfold fn_X2_add
  by_cases hv0 : v = 0
  · subst hv0
    refine ⟨c, ?_, ?_, FR_r c a⟩
    · simp (disch := omega) only [↓lm1, l0, l1, l2, l3, l4, l5, l6, l7, l8, l9, l10, l11, l12, l13, l14, l31, l32, l44, l48, l50, l57, l59, l60, l74, l100, l110, l126, l300, l330, l500, l501, l801, l1000, l5000, l5010, l8010, l8192, l9000, l10000, l1000000, nI_add, pk_mul, nI_clamp, nI_leI, nI_ltI, nI_eq, chk_d, chk_t, chk_inb, rfm_s, bnd_e, cal_e, calR_e, if_pos, if_neg]
    · refine LY_congr h (fun y' _ => ?_)
      unfold fu
      by_cases e : y' = y
      · rw [if_pos e, e, Nat.add_zero]
      · rw [if_neg e]
  · have es : sm (fu g y (g y + v)) 801 = sm g 801 + v := by
      have := sm_fu g (v := g y + v) hy
      omega
    have fr : ∀ w1 w2 w3 w4, FR c (up2 (up2 (up2 (up2 c (a + 1) y w1) a 1 w2) a 2 w3) a 3 w4) a := fun w1 w2 w3 w4 j h1 h2 => by
      rw [up2_r _ _ h1, up2_r _ _ h1, up2_r _ _ h1, up2_r _ _ h2]
    have lw : ∀ o t, LW (up2 (up2 (up2 (up2 c (a + 1) y (nI (g y + v))) a 1 (nI (sm g 801 + v))) a 2 o) a 3 t) a (fu g y (g y + v)) o t := fun o t => by
      refine ⟨fun y' hy' => ?_, ?_, ?_, up2_s _ _ _ _⟩
      · rw [up2_c _ _ (by omega), up2_c _ _ (by omega), up2_c _ _ (by omega)]
        unfold fu
        by_cases e : y' = y
        · subst e
          rw [if_pos rfl, up2_s]
        · rw [if_neg e, up2_k _ _ e]
          exact hrow y' hy'
      · rw [up2_k _ _ (by omega), up2_k _ _ (by omega), up2_s, es]
      · rw [up2_k _ _ (by omega), up2_s]
    have hlt : (nONE < nI y) = True := eq_true (by
      have h1 := nONE_lt
      have h2 : nI 0 ≤ nI y := by rw [nI_leI (by omega) (by omega)]; omega
      exact Int32.lt_of_lt_of_le h1 h2)
    rcases h with ⟨h0, h⟩ | ⟨o, t, ht, h⟩
    · obtain ⟨w1, w2, w3, w4⟩ := h
      refine ⟨up2 (up2 (up2 (up2 c (a + 1) y (nI (g y + v))) a 1 (nI (sm g 801 + v))) a 2 (nI y)) a 3 (nI y), ?_, ?_, fr _ _ _ _⟩
      rotate_left
      · refine .inr ⟨y, y, ⟨Nat.le_refl _, hy, ?_, ?_, fun y' hy' => ?_, fun y' h1 h2 => ?_⟩, lw _ _⟩
        · rw [fu_s]
          omega
        · rw [fu_s]
          omega
        · rw [fu_n _ (by omega)]
          exact sm_0y h0 (by omega)
        · rw [fu_n _ (by omega)]
          exact sm_0y h0 h2
      · simp (disch := omega) only [↓lm1, l0, l1, l2, l3, l4, l5, l6, l7, l8, l9, l10, l11, l12, l13, l14, l31, l32, l44, l48, l50, l57, l59, l60, l74, l100, l110, l126, l300, l330, l500, l501, l801, l1000, l5000, l5010, l8010, l8192, l9000, l10000, l1000000, nI_add, pk_mul, nI_clamp, nI_leI, nI_ltI, nI_eq, chk_d, chk_t, chk_inb, rfm_s, bnd_e, cal_e, calR_e, if_pos, if_neg, g1, g2, g3, g4, TV_g hq, TV_s hq, hny, if_false, hrow, w2, w3, w4, up2_c, up2_k, up2_s, hlt, if_true]
    · obtain ⟨w1, w2, w3, w4⟩ := h
      obtain ⟨t1, t2, t3, t4, t5, t6⟩ := ht
      refine ⟨up2 (up2 (up2 (up2 c (a + 1) y (nI (g y + v))) a 1 (nI (sm g 801 + v))) a 2 (nI (if y < o then y else o))) a 3 (nI (if t < y then y else t)), ?_, ?_, fr _ _ _ _⟩
      rotate_left
      · refine .inr ⟨_, _, ⟨?_, ?_, ?_, ?_, fun y' hy' => ?_, fun y' h1 h2 => ?_⟩, lw _ _⟩
        · split <;> split <;> omega
        · split <;> omega
        · split
          · rw [fu_s]
            omega
          · by_cases e : o = y
            · subst e
              rw [fu_s]
              omega
            · rw [fu_n _ e]
              exact t3
        · split
          · rw [fu_s]
            omega
          · by_cases e : t = y
            · subst e
              rw [fu_s]
              omega
            · rw [fu_n _ e]
              exact t4
        · have e : y' < y ∧ y' < o := by split at hy' <;> omega
          rw [fu_n _ (by omega)]
          exact t5 y' e.2
        · have e : y < y' ∧ t < y' := by split at h1 <;> omega
          rw [fu_n _ (by omega)]
          exact t6 y' e.2 h2
      · by_cases e1 : y < o
        · by_cases e2 : t < y
          · omega
          · simp (disch := omega) only [↓lm1, l0, l1, l2, l3, l4, l5, l6, l7, l8, l9, l10, l11, l12, l13, l14, l31, l32, l44, l48, l50, l57, l59, l60, l74, l100, l110, l126, l300, l330, l500, l501, l801, l1000, l5000, l5010, l8010, l8192, l9000, l10000, l1000000, nI_add, pk_mul, nI_clamp, nI_leI, nI_ltI, nI_eq, chk_d, chk_t, chk_inb, rfm_s, bnd_e, cal_e, calR_e, if_pos, if_neg, g1, g2, g3, g4, TV_g hq, TV_s hq, hny, if_false, hrow, w2, w3, w4, up2_c, up2_k, up2_s]
        · by_cases e2 : t < y
          · simp (disch := omega) only [↓lm1, l0, l1, l2, l3, l4, l5, l6, l7, l8, l9, l10, l11, l12, l13, l14, l31, l32, l44, l48, l50, l57, l59, l60, l74, l100, l110, l126, l300, l330, l500, l501, l801, l1000, l5000, l5010, l8010, l8192, l9000, l10000, l1000000, nI_add, pk_mul, nI_clamp, nI_leI, nI_ltI, nI_eq, chk_d, chk_t, chk_inb, rfm_s, bnd_e, cal_e, calR_e, if_pos, if_neg, g1, g2, g3, g4, TV_g hq, TV_s hq, hny, if_false, hrow, w2, w3, w4, up2_c, up2_k, up2_s]
          · simp (disch := omega) only [↓lm1, l0, l1, l2, l3, l4, l5, l6, l7, l8, l9, l10, l11, l12, l13, l14, l31, l32, l44, l48, l50, l57, l59, l60, l74, l100, l110, l126, l300, l330, l500, l501, l801, l1000, l5000, l5010, l8010, l8192, l9000, l10000, l1000000, nI_add, pk_mul, nI_clamp, nI_leI, nI_ltI, nI_eq, chk_d, chk_t, chk_inb, rfm_s, bnd_e, cal_e, calR_e, if_pos, if_neg, g1, g2, g3, g4, TV_g hq, TV_s hq, hny, if_false, hrow, w2, w3, w4, up2_c, up2_k, up2_s]

