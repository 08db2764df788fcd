/-! drawn numbers, bits -/
def lw (x : Int32) (k : Nat) : Nat := x.toBitVec.toNat % 2 ^ 31 % k
theorem lw_lt (x : Int32) {k : Nat} (h : 0 < k) : lw x k < k := Nat.mod_lt _ h
theorem low_r {T : Ty} {R : Rm} (x : Int32) {k : Nat} (h0 : 0 < k) (hk : k < 2 ^ 31) (M : Mm) : fn_L_low T R x (nI k) M = some (nI (lw x k), M) := by
  have e : x &&& (2147483647 : Int32) = nI (x.toBitVec.toNat % 2 ^ 31) := pk_and x 31 (by decide)
  have hlt : x.toBitVec.toNat % 2 ^ 31 < 2 ^ 31 := Nat.mod_lt _ (by decide)
  have hne : ¬ nI k = 0 := by
    rw [l0, nI_eq (by omega) (by omega)]
    omega
  unfold fn_L_low lw
  rw [chk_d hne, e]
  generalize x.toBitVec.toNat % 2 ^ 31 = N at hlt
  have hle := Nat.div_mul_le_self N k
  rw [nI_d hlt h0 hk, pk_mul, nIs hle]
  have h := Nat.div_add_mod N k
  have h2 : k * (N / k) = N / k * k := Nat.mul_comm _ _
  rw [show N - N / k * k = N % k by omega]
theorem nI_or (a b : Nat) : nI a ||| nI b = nI (a ||| b) := by
  apply Int32.toBitVec_inj.mp
  rw [Int32.toBitVec_or]
  show BitVec.ofNat 32 a ||| BitVec.ofNat 32 b = BitVec.ofNat 32 (a ||| b)
  exact (BitVec.ofNat_or).symm
theorem nI_and (a b : Nat) : nI a &&& nI b = nI (a &&& b) := by
  apply Int32.toBitVec_inj.mp
  rw [Int32.toBitVec_and]
  show BitVec.ofNat 32 a &&& BitVec.ofNat 32 b = BitVec.ofNat 32 (a &&& b)
  exact (BitVec.ofNat_and).symm
theorem sh6 {k : Nat} (h : k < 6) : ((nI k &&& 31 : Int32).toBitVec.smod 32).toNat = k := by
  rcases (show k = 0 ∨ k = 1 ∨ k = 2 ∨ k = 3 ∨ k = 4 ∨ k = 5 by omega) with rfl | rfl | rfl | rfl | rfl | rfl <;> decide
theorem shl6 {k : Nat} (h : k < 6) : (1 : Int32) <<< (nI k &&& 31) = nI (2 ^ k) := by
  rcases (show k = 0 ∨ k = 1 ∨ k = 2 ∨ k = 3 ∨ k = 4 ∨ k = 5 by omega) with rfl | rfl | rfl | rfl | rfl | rfl <;> decide
theorem bit6 {a k : Nat} (ha : a < 2 ^ 31) (h : k < 6) : (nI a >>> (nI k &&& 31)) &&& (1 : Int32) = nI (a / 2 ^ k % 2) := by
  rw [pk_shrN ha _ k (sh6 h)]
  have hlt : a / 2 ^ k < 2 ^ 32 := Nat.lt_of_le_of_lt (Nat.div_le_self _ _) (by omega)
  exact pk_andN hlt 1 (by decide)
theorem bit_t {a k : Nat} : a / 2 ^ k % 2 = if a.testBit k = true then 1 else 0 := by
  rw [Nat.testBit_eq_decide_div_mod_eq]
  by_cases h : a / 2 ^ k % 2 = 1
  · rw [if_pos (decide_eq_true h), h]
  · rw [if_neg (by rw [decide_eq_false h]; decide)]
    omega
def sbN (m : Nat → Int32) (b : Nat) : Nat → Nat
  | 0 => 0
  | k + 1 => if m (74 + 6 * k + 4) = nI 0 ∧ m (74 + 6 * k + 0) = nI b then sbN m b k ||| 2 ^ k else sbN m b k
theorem sbN_lt (m : Nat → Int32) (b : Nat) : ∀ k, sbN m b k < 2 ^ k := by
  intro k
  induction k with
  | zero => exact Nat.one_pos
  | succ k ih =>
    have h1 : 2 ^ k < 2 ^ (k + 1) := Nat.pow_lt_pow_right (by omega) (by omega)
    show (if m (74 + 6 * k + 4) = nI 0 ∧ m (74 + 6 * k + 0) = nI b then sbN m b k ||| 2 ^ k else sbN m b k) < _
    split
    · exact Nat.or_lt_two_pow (by omega) h1
    · omega
theorem sbB_N (m : Nat → Int32) (b : Nat) : ∀ k, k ≤ 6 → sbB m (nI b) k = nI (sbN m b k) := by
  intro k
  induction k with
  | zero => exact fun _ => rfl
  | succ k ih =>
    intro hk
    have h := ih (by omega)
    unfold sbB sbN
    by_cases c : m (74 + 6 * k + 4) = nI 0 ∧ m (74 + 6 * k + 0) = nI b
    · rw [if_pos c, if_pos c, h, shl6 (by omega), nI_or]
    · rw [if_neg c, if_neg c, h]
theorem sbN_t (m : Nat → Int32) (b i : Nat) : ∀ k, (sbN m b k).testBit i = true ↔ (i < k ∧ m (74 + 6 * i + 4) = nI 0 ∧ m (74 + 6 * i) = nI b) := by
  intro k
  induction k with
  | zero =>
    show (0 : Nat).testBit i = true ↔ _
    simp
  | succ k ih =>
    unfold sbN
    by_cases c : m (74 + 6 * k + 4) = nI 0 ∧ m (74 + 6 * k + 0) = nI b
    · rw [if_pos c, Nat.testBit_or, Bool.or_eq_true, ih, Nat.testBit_two_pow, decide_eq_true_eq]
      constructor
      · rintro (h | rfl)
        · exact ⟨by omega, h.2⟩
        · exact ⟨by omega, c⟩
      · rintro ⟨h1, h2⟩
        by_cases h : k = i
        · exact .inr h
        · exact .inl ⟨by omega, h2⟩
    · rw [if_neg c, ih]
      constructor
      · exact fun h => ⟨by omega, h.2⟩
      · rintro ⟨h1, h2⟩
        by_cases h : i = k
        · subst h
          exact absurd h2 c
        · exact ⟨by omega, h2⟩
def mkN (m : Nat → Int32) (ns : Nat) : Nat → Nat
  | 0 => 0
  | b + 1 => mkN m ns b ||| sbN m b ns
theorem mkN_s (m : Nat → Int32) (ns b : Nat) : mkN m ns (b + 1) = mkN m ns b ||| sbN m b ns := rfl
theorem mkN_lt (m : Nat → Int32) {ns : Nat} : ∀ b, mkN m ns b < 2 ^ ns := by
  intro b
  induction b with
  | zero => exact Nat.two_pow_pos ns
  | succ b ih => exact Nat.or_lt_two_pow ih (sbN_lt m b ns)
theorem mkN_t (m : Nat → Int32) (ns i : Nat) : ∀ b, (mkN m ns b).testBit i = true ↔ (i < ns ∧ m (74 + 6 * i + 4) = nI 0 ∧ ∃ b', b' < b ∧ m (74 + 6 * i) = nI b') := by
  intro b
  induction b with
  | zero =>
    show (0 : Nat).testBit i = true ↔ _
    simp
  | succ b ih =>
    rw [mkN_s, Nat.testBit_or, Bool.or_eq_true, ih, sbN_t]
    constructor
    · rintro (⟨h1, h2, b', h3, h4⟩ | ⟨h1, h2, h3⟩)
      · exact ⟨h1, h2, b', by omega, h4⟩
      · exact ⟨h1, h2, b, by omega, h3⟩
    · rintro ⟨h1, h2, b', h3, h4⟩
      by_cases h : b' = b
      · subst h
        exact .inr ⟨h1, h2, h4⟩
      · exact .inl ⟨h1, h2, b', by omega, h4⟩
theorem bits_apart (m : Nat → Int32) {ns b : Nat} (hb : b < 2 ^ 31) : sbN m b ns &&& mkN m ns b = 0 := by
  apply Nat.eq_of_testBit_eq
  intro i
  rw [Nat.zero_testBit, Nat.testBit_and]
  cases h : (sbN m b ns).testBit i with
  | false => rfl
  | true =>
    cases h' : (mkN m ns b).testBit i with
    | false => rfl
    | true =>
      obtain ⟨-, -, h1⟩ := (sbN_t m b i ns).mp h
      obtain ⟨-, -, b', h2, h3⟩ := (mkN_t m ns i b).mp h'
      rw [h1, nI_eq hb (by omega)] at h3
      omega
theorem nI_p1 (a : Nat) : nI a + (1 : Int32) = nI (a + 1) := by rw [l1, nI_add]
theorem nI_p0 (a : Nat) : nI a + (0 : Int32) = nI (a + 0) := by rw [l0, nI_add]
