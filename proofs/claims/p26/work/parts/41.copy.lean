/-! loops that copy -/
def cpR (M : Mm) (d s : Nat) (φ ψ : Nat → Nat) : Nat → Mm
  | 0 => M
  | k + 1 => sI (cpR M d s φ ψ k) d (φ k) (gI (cpR M d s φ ψ k) s (ψ k))
def cpQ (M : Mm) (d s : Nat) (φ ψ : Nat → Nat) : Nat → Mm
  | 0 => M
  | k + 1 => sJ (cpQ M d s φ ψ k) d (φ k) (gJ (cpQ M d s φ ψ k) s (ψ k))
theorem gI_s (M : Mm) (a k : Nat) (v : Int32) : gI (sI M a k v) a k = v := by simp [gI, sI, up2]
theorem gI_o (M : Mm) {a k a' : Nat} (k' : Nat) (v : Int32) (h : a' ≠ a) : gI (sI M a k v) a' k' = gI M a' k' := by simp [gI, sI, up2, h]
theorem gI_k (M : Mm) (a : Nat) {k k' : Nat} (v : Int32) (h : k' ≠ k) : gI (sI M a k v) a k' = gI M a k' := by simp [gI, sI, up2, h]
theorem sI_1 (M : Mm) {a a' : Nat} (k : Nat) (v : Int32) (h : a' ≠ a) : (sI M a k v).1 a' = M.1 a' := by
  funext j
  exact gI_o M j v h
theorem sI_2 (M : Mm) (a k : Nat) (v : Int32) : (sI M a k v).2 = M.2 := rfl
theorem sJ_2 (M : Mm) (a k : Nat) (v : Int64) : (sJ M a k v).1 = M.1 := rfl
theorem gJ_s (M : Mm) (a k : Nat) (v : Int64) : gJ (sJ M a k v) a k = v := by simp [gJ, sJ, up2]
theorem gJ_k (M : Mm) (a : Nat) {k k' : Nat} (v : Int64) (h : k' ≠ k) : gJ (sJ M a k v) a k' = gJ M a k' := by simp [gJ, sJ, up2, h]
theorem sJ_1 (M : Mm) {a a' : Nat} (k : Nat) (v : Int64) (h : a' ≠ a) : (sJ M a k v).2 a' = M.2 a' := by
  funext j
  simp [sJ, up2, h]
theorem cpR_o (M : Mm) {d s a : Nat} (φ ψ : Nat → Nat) (h : a ≠ d) : ∀ N, (cpR M d s φ ψ N).1 a = M.1 a := by
  intro N
  induction N with
  | zero => rfl
  | succ N ih => exact (sI_1 _ _ _ h).trans ih
theorem cpR_J (M : Mm) (d s : Nat) (φ ψ : Nat → Nat) : ∀ N, (cpR M d s φ ψ N).2 = M.2 := by
  intro N
  induction N with
  | zero => rfl
  | succ N ih => exact ih
theorem cpR_n (M : Mm) {d s j : Nat} {φ ψ : Nat → Nat} : ∀ {N : Nat}, (∀ k, k < N → j ≠ φ k) → (cpR M d s φ ψ N).1 d j = M.1 d j := by
  intro N
  induction N with
  | zero => exact fun _ => rfl
  | succ N ih =>
    intro h
    exact (gI_k (cpR M d s φ ψ N) d _ (h N (by omega))).trans (ih (fun k hk => h k (by omega)))
theorem cpR_i (M : Mm) {d s : Nat} {φ ψ : Nat → Nat} : ∀ {N : Nat}, (∀ i k, i < k → k < N → φ i ≠ φ k) → (∀ i k, i < k → k < N → s = d → φ i ≠ ψ k) → ∀ k, k < N → (cpR M d s φ ψ N).1 d (φ k) = M.1 s (ψ k) := by
  intro N
  induction N with
  | zero => exact fun _ _ k hk => absurd hk (by omega)
  | succ N ih =>
    intro h1 h2 k hk
    show gI (sI (cpR M d s φ ψ N) d (φ N) (gI (cpR M d s φ ψ N) s (ψ N))) d (φ k) = _
    by_cases e : k = N
    · subst e
      rw [gI_s]
      by_cases hsd : s = d
      · subst hsd
        exact cpR_n M (fun i hi => fun e => h2 i k hi (by omega) rfl e.symm)
      · exact congrFun (cpR_o M φ ψ hsd k) (ψ k)
    · rw [gI_k _ _ _ (h1 k N (by omega) (by omega))]
      exact ih (fun i k h3 h4 => h1 i k h3 (by omega)) (fun i k h3 h4 => h2 i k h3 (by omega)) k (by omega)
theorem cpQ_o (M : Mm) {d s a : Nat} (φ ψ : Nat → Nat) (h : a ≠ d) : ∀ N, (cpQ M d s φ ψ N).2 a = M.2 a := by
  intro N
  induction N with
  | zero => rfl
  | succ N ih => exact (sJ_1 _ _ _ h).trans ih
theorem cpQ_I (M : Mm) (d s : Nat) (φ ψ : Nat → Nat) : ∀ N, (cpQ M d s φ ψ N).1 = M.1 := by
  intro N
  induction N with
  | zero => rfl
  | succ N ih => exact ih
theorem cpQ_n (M : Mm) {d s j : Nat} {φ ψ : Nat → Nat} : ∀ {N : Nat}, (∀ k, k < N → j ≠ φ k) → (cpQ M d s φ ψ N).2 d j = M.2 d j := by
  intro N
  induction N with
  | zero => exact fun _ => rfl
  | succ N ih =>
    intro h
    exact (gJ_k (cpQ M d s φ ψ N) d _ (h N (by omega))).trans (ih (fun k hk => h k (by omega)))
theorem cpQ_i (M : Mm) {d s : Nat} {φ ψ : Nat → Nat} : ∀ {N : Nat}, (∀ i k, i < k → k < N → φ i ≠ φ k) → (∀ i k, i < k → k < N → s = d → φ i ≠ ψ k) → ∀ k, k < N → (cpQ M d s φ ψ N).2 d (φ k) = M.2 s (ψ k) := by
  intro N
  induction N with
  | zero => exact fun _ _ k hk => absurd hk (by omega)
  | succ N ih =>
    intro h1 h2 k hk
    show gJ (sJ (cpQ M d s φ ψ N) d (φ N) (gJ (cpQ M d s φ ψ N) s (ψ N))) d (φ k) = _
    by_cases e : k = N
    · subst e
      rw [gJ_s]
      by_cases hsd : s = d
      · subst hsd
        exact cpQ_n M (fun i hi => fun e => h2 i k hi (by omega) rfl e.symm)
      · exact congrFun (cpQ_o M φ ψ hsd k) (ψ k)
    · rw [gJ_k _ _ _ (h1 k N (by omega) (by omega))]
      exact ih (fun i k h3 h4 => h1 i k h3 (by omega)) (fun i k h3 h4 => h2 i k h3 (by omega)) k (by omega)
theorem cpR_sh (M : Mm) (d t : Nat) (ht : 0 < t) {N k : Nat} (hk : k < N) : (cpR M d d (fun k => k) (fun k => k + t) N).1 d k = M.1 d (k + t) := cpR_i M (d := d) (s := d) (φ := fun k => k) (ψ := fun k => k + t) (fun i k h1 h2 => by omega) (fun i k h1 h2 e => by omega) k hk
theorem cpQ_sh (M : Mm) (d t : Nat) (ht : 0 < t) {N k : Nat} (hk : k < N) : (cpQ M d d (fun k => k) (fun k => k + t) N).2 d k = M.2 d (k + t) := cpQ_i M (d := d) (s := d) (φ := fun k => k) (ψ := fun k => k + t) (fun i k h1 h2 => by omega) (fun i k h1 h2 e => by omega) k hk
theorem lp_cpR {α : Type} {F : (Int32 → Mm → α) → Int32 → Mm → α} {z : Int32 → Mm → α} {N d s : Nat} {φ ψ : Nat → Nat} {P : Mm → Prop} {J : Mm → α} (hP : ∀ k M, k < N → P M → P (sI M d (φ k) (gI M s (ψ k)))) (hs : ∀ j k M, k < N → P M → F j (nI k) M = j (nI (k + 1)) (sI M d (φ k) (gI M s (ψ k)))) (he : ∀ j M, P M → F j (nI N) M = J M) {M : Mm} (h : P M) {n : Nat} (hn : N < n) : lp F z n (nI 0) M = J (cpR M d s φ ψ N) ∧ P (cpR M d s φ ψ N) := by
  have hp : ∀ k, k ≤ N → P (cpR M d s φ ψ k) := by
    intro k
    induction k with
    | zero => exact fun _ => h
    | succ k ih => exact fun hk => hP k _ (by omega) (ih (by omega))
  have key : ∀ e k n, k + e = N → e < n → lp F z n (nI k) (cpR M d s φ ψ k) = J (cpR M d s φ ψ N) := by
    intro e
    induction e with
    | zero =>
      intro k n h1 h2
      obtain ⟨n, rfl⟩ : ∃ n', n = n' + 1 := ⟨n - 1, by omega⟩
      have e : k = N := by omega
      subst e
      exact he _ _ (hp _ (by omega))
    | succ e ih =>
      intro k n h1 h2
      obtain ⟨n, rfl⟩ : ∃ n', n = n' + 1 := ⟨n - 1, by omega⟩
      show F (lp F z n) (nI k) _ = _
      rw [hs _ _ _ (by omega) (hp k (by omega))]
      exact ih (k + 1) n (by omega) (by omega)
  exact ⟨key N 0 n (by omega) hn, hp N (Nat.le_refl _)⟩
theorem lp_cpQ {α : Type} {F : (Int32 → Mm → α) → Int32 → Mm → α} {z : Int32 → Mm → α} {N d s : Nat} {φ ψ : Nat → Nat} {P : Mm → Prop} {J : Mm → α} (hP : ∀ k M, k < N → P M → P (sJ M d (φ k) (gJ M s (ψ k)))) (hs : ∀ j k M, k < N → P M → F j (nI k) M = j (nI (k + 1)) (sJ M d (φ k) (gJ M s (ψ k)))) (he : ∀ j M, P M → F j (nI N) M = J M) {M : Mm} (h : P M) {n : Nat} (hn : N < n) : lp F z n (nI 0) M = J (cpQ M d s φ ψ N) ∧ P (cpQ M d s φ ψ N) := by
  have hp : ∀ k, k ≤ N → P (cpQ M d s φ ψ k) := by
    intro k
    induction k with
    | zero => exact fun _ => h
    | succ k ih => exact fun hk => hP k _ (by omega) (ih (by omega))
  have key : ∀ e k n, k + e = N → e < n → lp F z n (nI k) (cpQ M d s φ ψ k) = J (cpQ M d s φ ψ N) := by
    intro e
    induction e with
    | zero =>
      intro k n h1 h2
      obtain ⟨n, rfl⟩ : ∃ n', n = n' + 1 := ⟨n - 1, by omega⟩
      have e : k = N := by omega
      subst e
      exact he _ _ (hp _ (by omega))
    | succ e ih =>
      intro k n h1 h2
      obtain ⟨n, rfl⟩ : ∃ n', n = n' + 1 := ⟨n - 1, by omega⟩
      show F (lp F z n) (nI k) _ = _
      rw [hs _ _ _ (by omega) (hp k (by omega))]
      exact ih (k + 1) n (by omega) (by omega)
  exact ⟨key N 0 n (by omega) hn, hp N (Nat.le_refl _)⟩
def lcA (st : Nat) : Nat := if st < 2 then 258 else 259
def lcO (st : Nat) : Nat := if st < 2 then 5010 * st else 5010 * (st - 2)
