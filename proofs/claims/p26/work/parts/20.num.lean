/-! numbers, sums, and how the printed functions are unfolded -/
theorem l0 : (0 : Int32) = nI 0 := by decide
theorem l1 : (1 : Int32) = nI 1 := by decide
theorem l2 : (2 : Int32) = nI 2 := by decide
theorem l3 : (3 : Int32) = nI 3 := by decide
theorem l4 : (4 : Int32) = nI 4 := by decide
theorem l5 : (5 : Int32) = nI 5 := by decide
theorem l6 : (6 : Int32) = nI 6 := by decide
theorem l7 : (7 : Int32) = nI 7 := by decide
theorem l8 : (8 : Int32) = nI 8 := by decide
theorem l9 : (9 : Int32) = nI 9 := by decide
theorem l10 : (10 : Int32) = nI 10 := by decide
theorem l11 : (11 : Int32) = nI 11 := by decide
theorem l12 : (12 : Int32) = nI 12 := by decide
theorem l13 : (13 : Int32) = nI 13 := by decide
theorem l14 : (14 : Int32) = nI 14 := by decide
theorem l31 : (31 : Int32) = nI 31 := by decide
theorem l32 : (32 : Int32) = nI 32 := by decide
theorem l44 : (44 : Int32) = nI 44 := by decide
theorem l48 : (48 : Int32) = nI 48 := by decide
theorem l50 : (50 : Int32) = nI 50 := by decide
theorem l57 : (57 : Int32) = nI 57 := by decide
theorem l59 : (59 : Int32) = nI 59 := by decide
theorem l60 : (60 : Int32) = nI 60 := by decide
theorem l74 : (74 : Int32) = nI 74 := by decide
theorem l100 : (100 : Int32) = nI 100 := by decide
theorem l110 : (110 : Int32) = nI 110 := by decide
theorem l126 : (126 : Int32) = nI 126 := by decide
theorem l300 : (300 : Int32) = nI 300 := by decide
theorem l330 : (330 : Int32) = nI 330 := by decide
theorem l500 : (500 : Int32) = nI 500 := by decide
theorem l501 : (501 : Int32) = nI 501 := by decide
theorem l801 : (801 : Int32) = nI 801 := by decide
theorem l1000 : (1000 : Int32) = nI 1000 := by decide
theorem l5000 : (5000 : Int32) = nI 5000 := by decide
theorem l5010 : (5010 : Int32) = nI 5010 := by decide
theorem l8010 : (8010 : Int32) = nI 8010 := by decide
theorem l8192 : (8192 : Int32) = nI 8192 := by decide
theorem l9000 : (9000 : Int32) = nI 9000 := by decide
theorem l10000 : (10000 : Int32) = nI 10000 := by decide
theorem l1000000 : (1000000 : Int32) = nI 1000000 := by decide
theorem chk_t {α : Type} (x : Option α) : chk true x = x := Eq.trans rfl rfl
theorem chk_d {α : Type} {p : Prop} [Decidable p] (h : p) (x : Option α) : chk (decide p) x = x := by
  rw [decide_eq_true h]
  rfl
theorem chk_inb {α : Type} {k n : Nat} {x : Option α} (h1 : k < 2 ^ 31) (h2 : k < n) : chk (inb (nI k) n) x = x := by
  have h : inb (nI k) n = true := by
    unfold inb
    refine decide_eq_true (fun h => ?_)
    rcases h with h | h
    · exact nI_pos h1 h
    · rw [nI_clamp h1] at h
      omega
  rw [h]
  rfl
theorem rfm_s {α : Type} (b : Nat) (k : Nat → Option α) : rfm (some b) k = k b := Eq.trans rfl rfl
theorem bnd_e {β α : Type} (x : β) (k : β → Option α) : bnd x k = k x := Eq.trans rfl rfl
theorem cal_e {ρ α : Type} (r : ρ) (M : Mm) (k : ρ → Mm → Option α) : cal (some (r, M)) k = k r M := Eq.trans rfl rfl
theorem calR_e {ρ α : Type} (r : ρ) (M : Mm) (R : Rm) (k : ρ → Mm → Rm → Option α) : calR (some (r, M, R)) k = k r M R := Eq.trans rfl rfl
theorem nIs {a b : Nat} (h : b ≤ a) : nI a - nI b = nI (a - b) := pk_sub h
theorem nI_d {a b : Nat} (ha : a < 2 ^ 31) (h0 : 0 < b) (hb : b < 2 ^ 31) : nI a / nI b = nI (a / b) := pk_div ha h0 hb
def nONE : Int32 := -1
theorem lm1 : (-1 : Int32) = nONE := by decide
theorem nI_m1 (n : Nat) : nI (n + 1) + nONE = nI n := pk_m1 n
theorem nONE_lt : nONE < nI 0 := by decide
theorem nI_n1 : nI 0 + nONE = nONE := by decide
def fu (f : Nat → Nat) (k v : Nat) : Nat → Nat := fun y => if y = k then v else f y
theorem fu_s (f : Nat → Nat) (k v : Nat) : fu f k v k = v := by simp [fu]
theorem fu_n (f : Nat → Nat) {k v y : Nat} (h : y ≠ k) : fu f k v y = f y := by simp [fu, h]
def sm (f : Nat → Nat) : Nat → Nat
  | 0 => 0
  | n + 1 => sm f n + f n
theorem sm_0 (f : Nat → Nat) : sm f 0 = 0 := rfl
theorem sm_s (f : Nat → Nat) (n : Nat) : sm f (n + 1) = sm f n + f n := rfl
theorem sm_congr {f g : Nat → Nat} {n : Nat} (h : ∀ y, y < n → f y = g y) : sm f n = sm g n := by
  induction n with
  | zero => rfl
  | succ n ih =>
    rw [sm_s, sm_s, ih (fun y hy => h y (by omega)), h n (by omega)]
theorem sm_mono (f : Nat → Nat) {m n : Nat} (h : m ≤ n) : sm f m ≤ sm f n := by
  induction n with
  | zero =>
    have e : m = 0 := by omega
    rw [e]
    exact Nat.le_refl _
  | succ n ih =>
    rcases Nat.lt_or_ge m (n + 1) with h1 | h1
    · rw [sm_s]
      have := ih (by omega)
      omega
    · have e : m = n + 1 := by omega
      rw [e]
      exact Nat.le_refl _
theorem sm_ge (f : Nat → Nat) {k n : Nat} (h : k < n) : sm f k + f k ≤ sm f n := by
  have := sm_mono f (show k + 1 ≤ n from h)
  rw [sm_s] at this
  exact this
theorem sm_le1 (f : Nat → Nat) {k n : Nat} (h : k < n) : f k ≤ sm f n := by
  have := sm_ge f h
  omega
theorem sm_z {f : Nat → Nat} {n : Nat} (h : ∀ y, y < n → f y = 0) : sm f n = 0 := by
  induction n with
  | zero => rfl
  | succ n ih => rw [sm_s, ih (fun y hy => h y (by omega)), h n (by omega)]
theorem sm_tail {f : Nat → Nat} {m n : Nat} (hmn : m ≤ n) (h : ∀ y, m ≤ y → y < n → f y = 0) : sm f n = sm f m := by
  induction n with
  | zero =>
    have e : m = 0 := by omega
    rw [e]
  | succ n ih =>
    rcases Nat.lt_or_ge m (n + 1) with h1 | h1
    · rw [sm_s, ih (by omega) (fun y a b => h y a (by omega)), h n (by omega) (by omega)]
      rfl
    · have e : m = n + 1 := by omega
      rw [e]
theorem sm_fu (f : Nat → Nat) {k n v : Nat} (h : k < n) : sm (fu f k v) n + f k = sm f n + v := by
  induction n with
  | zero => omega
  | succ n ih =>
    rw [sm_s, sm_s]
    rcases Nat.lt_or_ge k n with h1 | h1
    · have := ih h1
      rw [fu_n f (show n ≠ k by omega)]
      omega
    · have e : n = k := by omega
      subst e
      rw [fu_s, sm_congr (f := fu f n v) (g := f) (fun y hy => fu_n f (by omega))]
      omega
theorem sm_add (f g : Nat → Nat) (n : Nat) : sm (fun y => f y + g y) n = sm f n + sm g n := by
  induction n with
  | zero => rfl
  | succ n ih =>
    rw [sm_s, sm_s, sm_s, ih]
    omega
theorem sm_sub {f g : Nat → Nat} {n : Nat} (h : ∀ y, y < n → g y ≤ f y) : sm (fun y => f y - g y) n + sm g n = sm f n := by
  induction n with
  | zero => rfl
  | succ n ih =>
    have h1 := ih (fun y hy => h y (by omega))
    have h2 := h n (by omega)
    rw [sm_s, sm_s, sm_s]
    omega
/-- what is taken of each year: from the top, from the bottom -/
def tt (f : Nat → Nat) (n w : Nat) : Nat → Nat := fun y => if y < n then min (f y) (w - (sm f n - sm f (y + 1))) else 0
def tb (f : Nat → Nat) (w : Nat) : Nat → Nat := fun y => min (f y) (w - sm f y)
theorem tt_le (f : Nat → Nat) (n w y : Nat) : tt f n w y ≤ f y := by
  unfold tt
  split <;> omega
theorem tb_le (f : Nat → Nat) (w y : Nat) : tb f w y ≤ f y := by
  unfold tb
  omega
theorem tb_sum (f : Nat → Nat) (w n : Nat) : sm (tb f w) n = min w (sm f n) := by
  induction n with
  | zero =>
    rw [sm_0, sm_0]
    omega
  | succ n ih =>
    rw [sm_s, sm_s, ih]
    unfold tb
    omega
theorem tt_sum_le {f : Nat → Nat} {n w : Nat} : ∀ {k : Nat}, k ≤ n → sm (tt f n w) k + min w (sm f n - sm f k) = min w (sm f n) := by
  intro k
  induction k with
  | zero =>
    intro _
    rw [sm_0, sm_0]
    omega
  | succ k ih =>
    intro h
    have h1 := ih (by omega)
    have h2 := sm_ge f (show k < n by omega)
    rw [sm_s]
    have h3 : tt f n w k = min (f k) (w - (sm f n - sm f (k + 1))) := by
      unfold tt
      rw [if_pos (show k < n by omega)]
    rw [h3, sm_s]
    omega
theorem tt_sum (f : Nat → Nat) (n w : Nat) : sm (tt f n w) n = min w (sm f n) := by
  have := tt_sum_le (f := f) (w := w) (Nat.le_refl n)
  omega

