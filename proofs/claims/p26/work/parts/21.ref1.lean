/-! the reference: where its rows lie, what they hold; its reads -/
theorem FU_gt {n : Nat} (h : n < 10000) : n < FU := h
theorem lp_acc {M : Mm} {f : (Int32 → Int32 → Mm → Option (Int32 × Mm)) → Int32 → Int32 → Mm → Option (Int32 × Mm)} {z : Int32 → Int32 → Mm → Option (Int32 × Mm)} {hi : Nat} {g : Nat → Nat} (hs : ∀ j s i, i < hi → f j (nI s) (nI i) M = j (nI (s + g i)) (nI (i + 1)) M) (he : ∀ j s, f j (nI s) (nI hi) M = some (nI s, M)) (n : Nat) (hn : hi < n) : lp f z n (nI 0) (nI 0) M = some (nI (sm g hi), M) := by
  have key : ∀ d i n, i + d = hi → d < n → lp f z n (nI (sm g i)) (nI i) M = some (nI (sm g hi), M) := by
    intro d
    induction d with
    | zero =>
      intro i n h1 h2
      obtain ⟨k, rfl⟩ : ∃ k, n = k + 1 := ⟨n - 1, by omega⟩
      have e : i = hi := by omega
      rw [e]
      exact he _ _
    | succ d ih =>
      intro i n h1 h2
      obtain ⟨k, rfl⟩ : ∃ k, n = k + 1 := ⟨n - 1, by omega⟩
      show f (lp f z k) (nI (sm g i)) (nI i) M = _
      rw [hs _ _ _ (by omega)]
      exact ih (i + 1) k (by omega) (by omega)
  exact key hi 0 n (by omega) hn
def cnt (f : Nat → Nat) : Nat → Nat := fun y => if 0 < f y then 1 else 0
