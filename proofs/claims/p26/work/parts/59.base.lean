/-! both together: the world, and small questions -/
theorem chk_cg {α : Type} {b b' : Bool} (x : Option α) (h : b = b') : chk b x = chk b' x := by rw [h]
theorem rfm_cg {α : Type} {q q' : Option Nat} (k : Nat → Option α) (h : q = q') : rfm q k = rfm q' k := by rw [h]
theorem bnd_cg {β α : Type} {x x' : β} (k : β → Option α) (h : x = x') : bnd x k = bnd x' k := by rw [h]
theorem cal_cg {ρ α : Type} {q q' : Option (ρ × Mm)} (k : ρ → Mm → Option α) (h : q = q') : cal q k = cal q' k := by rw [h]
theorem calR_cg {ρ α : Type} {q q' : Option (ρ × Mm × Rm)} (k : ρ → Mm → Rm → Option α) (h : q = q') : calR q k = calR q' k := by rw [h]
theorem eF {a b : Nat} (h : a ≠ b) (ha : a < 2 ^ 31) (hb : b < 2 ^ 31) : (nI a = nI b) = False := eq_false (by rw [nI_eq (by omega) (by omega)]; exact h)
theorem lT {a b : Nat} (h : a < b) (hb : b < 2 ^ 31) : (nI a < nI b) = True := eq_true (by rw [nI_ltI (by omega) hb]; exact h)
theorem lF {a b : Nat} (h : b ≤ a) (ha : a < 2 ^ 31) : (nI a < nI b) = False := eq_false (by rw [nI_ltI ha (by omega)]; omega)
theorem leT {a b : Nat} (h : a ≤ b) (hb : b < 2 ^ 31) : (nI a ≤ nI b) = True := eq_true (by rw [nI_leI (by omega) hb]; exact h)
theorem leF {a b : Nat} (h : b < a) (ha : a < 2 ^ 31) : (nI a ≤ nI b) = False := eq_false (by rw [nI_leI ha (by omega)]; omega)
theorem x6_isWithin (T : Ty) (R : Rm) (x a b : Int32) (M : Mm) : fn_X6_isWithin T R x a b M = some (if a ≤ x ∧ x ≤ b then nI 1 else nI 0, M) := by
  unfold fn_X6_isWithin
  by_cases h1 : x < a
  · rw [if_pos h1, if_neg (fun h => Int32.not_lt.mpr h.1 h1)]
    rfl
  · rw [if_neg h1]
    by_cases h2 : b < x
    · rw [if_pos h2, if_neg (fun h => Int32.not_lt.mpr h.2 h2)]
      rfl
    · rw [if_neg h2, if_pos ⟨Int32.not_lt.mp h1, Int32.not_lt.mp h2⟩]
      rfl
theorem isZ1 : isZ (nI 1) = true := by decide
theorem isZ0 : isZ (nI 0) = true := by decide
/-- a number is among the first n, or it isn't -/
theorem ix_c (x : Int32) {n : Nat} (hn : n < 2 ^ 31) : (∃ j, j < n ∧ x = nI j) ∨ (x < nI 0 ∨ nI n ≤ x) := by
  rcases pk_ix x hn with h | h | h
  · exact .inr (.inl h)
  · exact .inr (.inr h)
  · exact .inl h
theorem in_t {j a b : Nat} (h1 : a ≤ j) (h2 : j ≤ b) (hb : b < 2 ^ 31) : (nI a ≤ nI j ∧ nI j ≤ nI b) = True := eq_true ⟨by rw [nI_leI (by omega) (by omega)]; exact h1, by rw [nI_leI (by omega) (by omega)]; exact h2⟩
theorem in_lo {j a : Nat} {b : Int32} (h1 : j < a) (ha : a < 2 ^ 31) : (nI a ≤ nI j ∧ nI j ≤ b) = False := eq_false (fun h => by
  have := h.1
  rw [nI_leI (by omega) (by omega)] at this
  omega)
theorem in_f {x : Int32} {a b : Nat} (ha : a < 2 ^ 31) (hb : b + 1 < 2 ^ 31) (h : x < nI 0 ∨ nI (b + 1) ≤ x) : (nI a ≤ x ∧ x ≤ nI b) = False := eq_false (fun hh => by
  rcases h with h | h
  · have h0 : nI 0 ≤ nI a := by rw [nI_leI (by omega) ha]; omega
    exact Int32.not_lt.mpr (Int32.le_trans h0 hh.1) h
  · have h2 : nI (b + 1) ≤ nI b := Int32.le_trans h hh.2
    rw [nI_leI (by omega) (by omega)] at h2
    omega)
theorem gCC (ad : Nat → Nat) (M : Mm) (B j k : Nat) : gI M (qq ad B j) k = CC ad M B j k := rfl
theorem gCL (ad : Nat → Nat) (M : Mm) (B k : Nat) : gJ M (qq ad B 0) k = CL ad M B k := rfl
theorem nb_lt {x : Int32} {nb : Nat} (hnb : nb ≤ 10) (h : x < nI 0 ∨ nI nb ≤ x) : (nI 0 ≤ x ∧ x ≤ nI nb - nI 1) = False := eq_false (fun hh => by
  rcases h with h | h
  · exact Int32.not_lt.mpr hh.1 h
  · have h2 : nI nb ≤ nI nb - nI 1 := Int32.le_trans h hh.2
    cases nb with
    | zero =>
      revert h2
      decide
    | succ k =>
      rw [nIs (by omega), nI_leI (by omega) (by omega)] at h2
      omega)
theorem nI_nON {n : Nat} (h : n < 2 ^ 31) : (nI n = nONE) = False := eq_false (fun e => by
  have h1 := nONE_lt
  rw [← e] at h1
  exact nI_pos h h1)
def fO : Option Nat → Int32
  | some y => nI y
  | none => -2000000004
theorem fO_s (y : Nat) : fO (some y) = nI y := rfl
theorem fO_n : fO none = -2000000004 := rfl
theorem yl_at {g : Nat → Nat} : ∀ {n y i t : Nat}, y ≤ t → t < y + n → 0 < g t → sm (cnt g) t = sm (cnt g) y + i → yl g n y i = some t := by
  intro n
  induction n with
  | zero =>
    intro y i t h1 h2
    omega
  | succ n ih =>
    intro y i t h1 h2 h3 h4
    unfold yl
    have hs := sm_s (cnt g) y
    by_cases e : y = t
    · subst e
      rw [if_pos h3, if_pos (by omega)]
    · have hm := sm_mono (cnt g) (show y + 1 ≤ t by omega)
      by_cases h0 : 0 < g y
      · have hc : cnt g y = 1 := if_pos h0
        rw [if_pos h0, if_neg (by omega)]
        exact ih (by omega) (by omega) h3 (by omega)
      · have hc : cnt g y = 0 := if_neg h0
        rw [if_neg h0]
        exact ih (by omega) (by omega) h3 (by omega)
theorem yl_lt {g : Nat → Nat} : ∀ {n y i t : Nat}, yl g n y i = some t → t < y + n := by
  intro n
  induction n with
  | zero =>
    intro y i t h
    cases h
  | succ n ih =>
    intro y i t h
    unfold yl at h
    split at h
    · split at h
      · cases h
        omega
      · have := ih h
        omega
    · have := ih h
      omega
theorem chk_q {α : Type} {b : Bool} (h : b = true) (x : Option α) : chk b x = x := by
  rw [h]
  rfl
theorem rfm_q {α : Type} {q : Option Nat} {b : Nat} (h : q = some b) (k : Nat → Option α) : rfm q k = k b := by
  rw [h]
  rfl
theorem cal_q {ρ α : Type} {q : Option (ρ × Mm)} {r : ρ} {M : Mm} (h : q = some (r, M)) (k : ρ → Mm → Option α) : cal q k = k r M := by
  rw [h]
  rfl
theorem calR_q {ρ α : Type} {q : Option (ρ × Mm × Rm)} {r : ρ} {M : Mm} {R : Rm} (h : q = some (r, M, R)) (k : ρ → Mm → Rm → Option α) : calR q k = k r M R := by
  rw [h]
  rfl
theorem cal_w6 {α : Type} (T : Ty) (R : Rm) (x a b : Int32) (M : Mm) (k : Int32 → Mm → Option α) : cal (fn_X6_isWithin T R x a b M) k = k (if a ≤ x ∧ x ≤ b then nI 1 else nI 0) M := cal_q (x6_isWithin T R x a b M) k
