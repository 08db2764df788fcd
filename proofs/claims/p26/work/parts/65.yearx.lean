/-! a year, as numbers -/
def ic (s : Sx) (b : Nat) : Nat := sm (s.2.1 b) (nt (s.1 7) + 1)
def wv (s : Sx) (b : Nat) : Nat := min (mlS s.1 b) (ic s b + snS s.1 b)
def th (s : Sx) (b : Nat) : Nat := ic s b + snS s.1 b - wv s b
def gv (s : Sx) (b : Nat) : Nat := th s b * nt (s.1 (14 + 6 * b + 2)) / 1000
def pv (s : Sx) (b : Nat) : Nat := if b = 0 then 0 else gv s (b - 1)
def accL (f : Nat → Nat) (a : Int64) : Nat → Int64
  | 0 => a
  | n + 1 => accL f a n + (nI (f n)).toInt64
theorem accL_s (f : Nat → Nat) (a : Int64) (n : Nat) : accL f a (n + 1) = accL f a n + (nI (f n)).toInt64 := rfl
theorem accL_c {f f' : Nat → Nat} {a : Int64} : ∀ {n : Nat}, (∀ b, b < n → f b = f' b) → accL f a n = accL f' a n := by
  intro n
  induction n with
  | zero => exact fun _ => rfl
  | succ n ih =>
    intro h
    rw [accL_s, accL_s, ih (fun b hb => h b (by omega)), h n (by omega)]
theorem snS_c {m m' : Nat → Int32} {b : Nat} (h0 : m' 0 = m 0) (h1 : m' 1 = m 1) (h4 : m' 4 = m 4) (hb : m' (14 + 6 * b) = m (14 + 6 * b)) : snS m' b = snS m b := by
  unfold snS
  rw [h0, h1, h4, hb]
theorem mlS_c {m m' : Nat → Int32} {b : Nat} (h2 : m' 2 = m 2) (h3 : m' 3 = m 3) (h4 : m' 4 = m 4) (hb : m' (14 + 6 * b) = m (14 + 6 * b)) : mlS m' b = mlS m b := by
  unfold mlS
  rw [h2, h3, h4, hb]
theorem W1_o (b : Nat) (t : Sx) {j : Nat} (h1 : j ≠ 14 + 6 * b + 3) (h2 : j ≠ 14 + 6 * b + 5) : (sW b t).1 j = t.1 j := by
  show upd (wM t.1 t.2.1 b) (14 + 6 * b + 5) (nI 0) j = _
  unfold wM
  rw [pk_un h2, pk_un h1]
theorem W1_w (b : Nat) (t : Sx) : (sW b t).1 (14 + 6 * b + 3) = nI (wv t b) ∧ (sW b t).1 (14 + 6 * b + 5) = nI 0 ∧ sm ((sW b t).2.1 b) (nt (t.1 7) + 1) + wv t b = ic t b + snS t.1 b := by
  have hw : wT t.1 t.2.1 b = wv t b := by
    unfold wT wv ic
    rw [wG_sum]
  refine ⟨?_, ?_, ?_⟩
  · show upd (wM t.1 t.2.1 b) (14 + 6 * b + 5) (nI 0) (14 + 6 * b + 3) = _
    unfold wM
    rw [pk_un (by omega), pk_us, hw]
  · exact pk_us
  · show sm (fset t.2.1 b (rwT (wG t.1 t.2.1 b) (nt (t.1 7) + 1) (mlS t.1 b) 0) b) (nt (t.1 7) + 1) + _ = _
    rw [fset_s, ← hw]
    have h1 := rwT_sum (wG t.1 t.2.1 b) (nt (t.1 7) + 1) (mlS t.1 b)
    have h2 := wG_sum t.1 t.2.1 b
    unfold wT ic
    omega
theorem W1_f (b : Nat) (t : Sx) {b' : Nat} (h : b' ≠ b) : (sW b t).2.1 b' = t.2.1 b' := fset_n _ _ h
theorem W1_a (b : Nat) (t : Sx) : (sW b t).2.2 0 = t.2.2 0 ∧ (sW b t).2.2 3 = t.2.2 3 ∧ (sW b t).2.2 1 = t.2.2 1 + (nI (snS t.1 b)).toInt64 ∧ (sW b t).2.2 2 = t.2.2 2 + (nI (wv t b)).toInt64 := by
  have hw : wT t.1 t.2.1 b = wv t b := by
    unfold wT wv ic
    rw [wG_sum]
  rw [← hw]
  refine ⟨?_, ?_, ?_, ?_⟩
  · show wA t.1 t.2.1 t.2.2 b 0 = _
    unfold wA
    rw [pk_uLn (by omega), pk_uLn (by omega)]
  · show wA t.1 t.2.1 t.2.2 b 3 = _
    unfold wA
    rw [pk_uLn (by omega), pk_uLn (by omega)]
  · show wA t.1 t.2.1 t.2.2 b 1 = _
    unfold wA
    rw [pk_uLn (by omega), pk_uLs]
  · show wA t.1 t.2.1 t.2.2 b 2 = _
    unfold wA
    rw [pk_uLs, pk_uLn (by omega)]
theorem WX {K Y nb ns : Nat} {s : Sx} (g : GS K Y nb ns s) : ∀ k, k ≤ nb → (∀ j, (∀ b, b < k → j ≠ 14 + 6 * b + 3 ∧ j ≠ 14 + 6 * b + 5) → (itU sW k s).1 j = s.1 j) ∧ (∀ b, b < k → (itU sW k s).1 (14 + 6 * b + 3) = nI (wv s b) ∧ (itU sW k s).1 (14 + 6 * b + 5) = nI 0 ∧ sm ((itU sW k s).2.1 b) (Y + 1) + wv s b = ic s b + snS s.1 b) ∧ (∀ b, k ≤ b → (itU sW k s).2.1 b = s.2.1 b) ∧ (itU sW k s).2.2 0 = s.2.2 0 ∧ (itU sW k s).2.2 3 = s.2.2 3 ∧ (itU sW k s).2.2 1 = accL (fun b => snS s.1 b) (s.2.2 1) k ∧ (itU sW k s).2.2 2 = accL (fun b => wv s b) (s.2.2 2) k := by
  have n7 := g.2.2.2.2.2.2.2.1
  intro k
  induction k with
  | zero => exact fun _ => ⟨fun _ _ => rfl, fun b hb => absurd hb (by omega), fun _ _ => rfl, rfl, rfl, rfl, rfl⟩
  | succ k ih =>
    intro hk
    obtain ⟨a1, a2, a3, a4, a5, a6, a7⟩ := ih (by omega)
    have et : itU sW (k + 1) s = sW k (itU sW k s) := rfl
    generalize itU sW k s = t at a1 a2 a3 a4 a5 a6 a7 et
    rw [et]
    have e7 : t.1 7 = s.1 7 := a1 7 (fun b _ => by omega)
    have esn : snS t.1 k = snS s.1 k := snS_c (a1 0 (fun b _ => by omega)) (a1 1 (fun b _ => by omega)) (a1 4 (fun b _ => by omega)) (a1 _ (fun b _ => by omega))
    have eml : mlS t.1 k = mlS s.1 k := mlS_c (a1 2 (fun b _ => by omega)) (a1 3 (fun b _ => by omega)) (a1 4 (fun b _ => by omega)) (a1 _ (fun b _ => by omega))
    have eic : ic t k = ic s k := by
      unfold ic
      rw [e7, a3 k (Nat.le_refl _)]
    have ewv : wv t k = wv s k := by
      unfold wv
      rw [eml, eic, esn]
    obtain ⟨w1, w2, w3⟩ := W1_w k t
    obtain ⟨c0, c3, c1, c2⟩ := W1_a k t
    rw [ewv] at w1 w3 c2
    rw [esn] at w3 c1
    rw [eic, e7, n7] at w3
    refine ⟨fun j hj => ?_, fun b hb => ?_, fun b hb => ?_, c0.trans a4, c3.trans a5, ?_, ?_⟩
    · have h1 := hj k (by omega)
      rw [W1_o k t h1.1 h1.2]
      exact a1 j (fun b hb => hj b (by omega))
    · by_cases h0 : b = k
      · subst h0
        exact ⟨w1, w2, w3⟩
      · rw [W1_o k t (by omega) (by omega), W1_o k t (by omega) (by omega), W1_f k t h0]
        exact a2 b (by omega)
    · rw [W1_f k t (by omega)]
      exact a3 b (by omega)
    · rw [c1, a6]
      rfl
    · rw [c2, a7]
      rfl
theorem G1_o {K Y nb ns : Nat} {t : Sx} (g : GS K Y nb ns t) (b : Nat) {j : Nat} (h4 : j ≠ 14 + 6 * b + 4) (h5 : b + 1 < nb → j ≠ 14 + 6 * (b + 1) + 5) (h10 : b + 1 = nb → j ≠ 10) (hb : b < nb) : (sG b t).1 j = t.1 j := by
  have n8 := g.2.2.2.2.2.2.2.2.1
  show gM t.1 t.2.1 b j = _
  unfold gM
  rw [n8]
  by_cases h : b + 1 = nb
  · rw [if_pos h, pk_un (h10 h), pk_un h4]
  · rw [if_neg h, pk_un (h5 (by omega)), pk_un h4]
theorem G1_w {K Y nb ns : Nat} {t : Sx} (g : GS K Y nb ns t) {b : Nat} (hb : b < nb) : (sG b t).1 (14 + 6 * b + 4) = nI (gL t.1 t.2.1 b) ∧ (b + 1 < nb → (sG b t).1 (14 + 6 * (b + 1) + 5) = nI (gL t.1 t.2.1 b)) ∧ (b + 1 = nb → (sG b t).1 10 = t.1 10 + nI (gL t.1 t.2.1 b)) := by
  have n8 := g.2.2.2.2.2.2.2.2.1
  refine ⟨?_, fun h => ?_, fun h => ?_⟩
  · show gM t.1 t.2.1 b _ = _
    unfold gM
    rw [n8]
    by_cases h : b + 1 = nb
    · rw [if_pos h, pk_un (by omega), pk_us]
    · rw [if_neg h, pk_un (by omega), pk_us]
  · show gM t.1 t.2.1 b _ = _
    unfold gM
    rw [n8, if_neg (by omega), pk_us]
  · show gM t.1 t.2.1 b _ = _
    unfold gM
    rw [n8, if_pos h, pk_us]
theorem G1_f {K Y nb ns : Nat} {t : Sx} (g : GS K Y nb ns t) {b : Nat} (hb : b < nb) : sm ((sG b t).2.1 b) (Y + 1) + gL t.1 t.2.1 b = sm (t.2.1 b) (Y + 1) ∧ (b + 1 < nb → sm ((sG b t).2.1 (b + 1)) (Y + 1) = sm (t.2.1 (b + 1)) (Y + 1) + gL t.1 t.2.1 b) ∧ (∀ b', b' ≠ b → (b' ≠ b + 1 ∨ b + 1 = nb) → (sG b t).2.1 b' = t.2.1 b') := by
  have n7 := g.2.2.2.2.2.2.2.1
  have n8 := g.2.2.2.2.2.2.2.2.1
  have hle := gL_le g.1 (b := b) (by omega)
  have e : (sG b t).2.1 = gR t.2.1 b (gL t.1 t.2.1 b) (decide (b + 1 = nb)) (Y + 1) := by
    show gF t.1 t.2.1 b = _
    unfold gF
    rw [n7, n8]
  rw [n7] at hle
  rw [e]
  refine ⟨gR_b _ hle, fun h => ?_, fun b' h1 h2 => ?_⟩
  · rw [decide_eq_false (by omega)]
    exact gR_b1 hle
  · refine gR_o h1 (fun h => ?_)
    have := of_decide_eq_false h
    omega
theorem gL_c {t t1 : Sx} {b : Nat} (h7 : t1.1 7 = t.1 7) (h2 : t1.1 (14 + 6 * b + 2) = t.1 (14 + 6 * b + 2)) (hs : t1.2.1 b = t.2.1 b) : gL t1.1 t1.2.1 b = gL t.1 t.2.1 b := by
  unfold gL
  rw [h7, h2, hs]
theorem GX {K Y nb ns : Nat} : ∀ (k : Nat) (t : Sx), GS K Y nb ns t → k ≤ nb → (∀ j, j ≠ 10 → (∀ b, b < k → j ≠ 14 + 6 * b + 4 ∧ (b + 1 < nb → j ≠ 14 + 6 * (b + 1) + 5)) → (itD sG k t).1 j = t.1 j) ∧ (∀ b, b < k → (itD sG k t).1 (14 + 6 * b + 4) = nI (gL t.1 t.2.1 b) ∧ (b + 1 < nb → (itD sG k t).1 (14 + 6 * (b + 1) + 5) = nI (gL t.1 t.2.1 b)) ∧ sm ((itD sG k t).2.1 b) (Y + 1) + gL t.1 t.2.1 b = sm (t.2.1 b) (Y + 1) + (if b = 0 then 0 else gL t.1 t.2.1 (b - 1))) ∧ (k < nb → sm ((itD sG k t).2.1 k) (Y + 1) = sm (t.2.1 k) (Y + 1) + (if k = 0 then 0 else gL t.1 t.2.1 (k - 1))) ∧ (∀ b, k < b → (itD sG k t).2.1 b = t.2.1 b) ∧ (itD sG k t).1 10 = (if k = nb ∧ 0 < k then t.1 10 + nI (gL t.1 t.2.1 (nb - 1)) else t.1 10) ∧ (itD sG k t).2.2 = t.2.2 := by
  intro k
  induction k with
  | zero =>
    intro t g _
    refine ⟨fun _ _ _ => rfl, fun b hb => absurd hb (by omega), fun _ => ?_, fun _ _ => rfl, ?_, rfl⟩
    · rw [if_pos rfl]
      rfl
    · rw [if_neg (by omega)]
      rfl
  | succ k ih =>
    intro t g hk
    have g1 := GS_G g (b := k) (by omega)
    obtain ⟨a1, a2, a3, a4, a5, a6⟩ := ih (sG k t) g1 (by omega)
    obtain ⟨w1, w2, w3⟩ := G1_w g (b := k) (by omega)
    obtain ⟨f1, f2, f3⟩ := G1_f g (b := k) (by omega)
    have o1 := fun j h4 h5 h10 => G1_o g k (j := j) h4 h5 h10 (by omega)
    have et : itD sG (k + 1) t = itD sG k (sG k t) := rfl
    rw [et]
    have e7 : (sG k t).1 7 = t.1 7 := o1 7 (by omega) (fun _ => by omega) (fun _ => by omega)
    have eL : ∀ b, b < k → gL (sG k t).1 (sG k t).2.1 b = gL t.1 t.2.1 b := fun b hb => gL_c e7 (o1 _ (by omega) (fun _ => by omega) (fun _ => by omega)) (f3 b (by omega) (by omega))
    refine ⟨fun j h10 hj => ?_, fun b hb => ?_, fun hk1 => ?_, fun b hb => ?_, ?_, a6⟩
    · rw [a1 j h10 (fun b hb => hj b (by omega))]
      exact o1 j (hj k (by omega)).1 (hj k (by omega)).2 (fun _ => h10)
    · by_cases h0 : b = k
      · subst h0
        refine ⟨?_, fun h => ?_, ?_⟩
        · rw [a1 _ (by omega) (fun b' hb' => by omega)]
          exact w1
        · rw [a1 _ (by omega) (fun b' hb' => by omega)]
          exact w2 h
        · rw [a3 (by omega)]
          by_cases hb0 : b = 0
          · rw [if_pos hb0, if_pos hb0]
            omega
          · rw [if_neg hb0, if_neg hb0, eL (b - 1) (by omega)]
            omega
      · obtain ⟨x1, x2, x3⟩ := a2 b (by omega)
        rw [eL b (by omega)] at x1 x2 x3
        refine ⟨x1, x2, ?_⟩
        by_cases hb0 : b = 0
        · rw [if_pos hb0] at x3 ⊢
          rw [x3, f3 b (by omega) (by omega)]
        · rw [if_neg hb0, eL (b - 1) (by omega)] at x3
          rw [if_neg hb0, x3, f3 b (by omega) (by omega)]
    · rw [a4 (k + 1) (by omega), if_neg (by omega), f2 hk1]
      rfl
    · rw [a4 b (by omega), f3 b (by omega) (by omega)]
    · rw [a5, if_neg (by omega)]
      by_cases h : k + 1 = nb
      · rw [if_pos ⟨h, by omega⟩, w3 h]
        have e : nb - 1 = k := by omega
        rw [e]
      · rw [if_neg (by omega)]
        exact o1 10 (by omega) (fun _ => by omega) (fun hh => absurd hh h)
theorem i0_o (s : Sx) {j : Nat} (h : j ≠ 7) : (sI0 s).1 j = s.1 j := pk_un h
/-- behind weather and gifts, ahead of the front -/
theorem YX1 {K Y nb ns : Nat} {s : Sx} (g : GS K Y nb ns s) (hY : Y < 800) (hn : 0 < nb) (hK : K < 2 ^ 30) : ∃ u : Sx, sY s = itU sK ns (sF u) ∧ GS (K + 300000) (Y + 1) nb ns u ∧ u.1 7 = nI (Y + 1) ∧ (∀ j, j ≠ 7 → j ≠ 10 → (∀ b, b < nb → j ≠ 14 + 6 * b + 3 ∧ j ≠ 14 + 6 * b + 4 ∧ j ≠ 14 + 6 * b + 5) → u.1 j = s.1 j) ∧ (∀ b, b < nb → u.1 (14 + 6 * b + 3) = nI (wv s b) ∧ u.1 (14 + 6 * b + 4) = nI (gv s b) ∧ u.1 (14 + 6 * b + 5) = nI (pv s b) ∧ sm (u.2.1 b) (Y + 2) + gv s b = th s b + pv s b) ∧ u.1 10 = s.1 10 + nI (gv s (nb - 1)) ∧ u.2.2 0 = s.2.2 0 ∧ u.2.2 3 = s.2.2 3 ∧ u.2.2 1 = accL (fun b => snS s.1 b) (s.2.2 1) nb ∧ u.2.2 2 = accL (fun b => wv s b) (s.2.2 2) nb := by
  have n7 := g.2.2.2.2.2.2.2.1
  have n8 := g.2.2.2.2.2.2.2.2.1
  have n9 := g.2.2.2.2.2.2.2.2.2
  have h10 := g.2.2.2.2.2.1
  have g0 := GS_I0 g hY
  have g1 := GS_WU g0 nb (Nat.le_refl _)
  have g2 := GS_GD nb _ g1 (Nat.le_refl _)
  have m7 := g0.2.2.2.2.2.2.2.1
  obtain ⟨a1, a2, a3, a4, a5, a6, a7⟩ := WX g0 nb (Nat.le_refl _)
  obtain ⟨b1, b2, b3, b4, b5, b6⟩ := GX nb _ g1 (Nat.le_refl _)
  have esn : ∀ b, snS (sI0 s).1 b = snS s.1 b := fun b => snS_c (i0_o s (by omega)) (i0_o s (by omega)) (i0_o s (by omega)) (i0_o s (by omega))
  have eml : ∀ b, mlS (sI0 s).1 b = mlS s.1 b := fun b => mlS_c (i0_o s (by omega)) (i0_o s (by omega)) (i0_o s (by omega)) (i0_o s (by omega))
  have eic : ∀ b, b < nb → ic (sI0 s) b = ic s b := fun b hb => by
    unfold ic
    rw [m7, n7]
    show sm (s.2.1 b) (Y + 1 + 1) = _
    rw [sm_s, GS_z g hb (show Y < Y + 1 by omega), Nat.add_zero]
  have ewv : ∀ b, b < nb → wv (sI0 s) b = wv s b := fun b hb => by
    unfold wv
    rw [eml, eic b hb, esn]
  have eth : ∀ b, b < nb → sm ((itU sW nb (sI0 s)).2.1 b) (Y + 1 + 1) = th s b := fun b hb => by
    have h := (a2 b hb).2.2
    rw [ewv b hb, eic b hb, esn] at h
    unfold th
    omega
  have egv : ∀ b, b < nb → gL (itU sW nb (sI0 s)).1 (itU sW nb (sI0 s)).2.1 b = gv s b := fun b hb => by
    unfold gL gv
    rw [g1.2.2.2.2.2.2.2.1, eth b hb, a1 (14 + 6 * b + 2) (fun b' _ => by omega), i0_o s (by omega)]
  refine ⟨itD sG nb (itU sW nb (sI0 s)), ?_, GS_mono g2 (by omega), ?_, fun j h7 hj10 hj => ?_, fun b hb => ⟨?_, ?_, ?_, ?_⟩, ?_, ?_, ?_, ?_, ?_⟩
  · unfold sY
    rw [n8, n9]
  · exact g2.2.1
  · rw [b1 j hj10 (fun b hb => ⟨(hj b hb).2.1, fun h => (hj (b + 1) h).2.2⟩), a1 j (fun b hb => ⟨(hj b hb).1, (hj b hb).2.2⟩)]
    exact i0_o s h7
  · rw [b1 _ (by omega) (fun b' hb' => by omega), (a2 b hb).1, ewv b hb]
  · rw [(b2 b hb).1, egv b hb]
  · by_cases h0 : b = 0
    · subst h0
      rw [b1 _ (by omega) (fun b' hb' => by omega), (a2 0 hb).2.1]
      rfl
    · have h := (b2 (b - 1) (by omega)).2.1 (by omega)
      rw [show b - 1 + 1 = b by omega] at h
      rw [h, egv (b - 1) (by omega)]
      unfold pv
      rw [if_neg h0]
  · have h := (b2 b hb).2.2
    rw [egv b hb, eth b hb] at h
    unfold pv
    by_cases h0 : b = 0
    · rw [if_pos h0] at h ⊢
      exact h
    · rw [if_neg h0, egv (b - 1) (by omega)] at h
      rw [if_neg h0]
      exact h
  · rw [b5, if_pos ⟨rfl, hn⟩, egv (nb - 1) (by omega), a1 10 (fun b' _ => by omega)]
    rw [i0_o s (by omega)]
  · rw [b6, a4]
    rfl
  · rw [b6, a5]
    rfl
  · rw [b6, a6]
    have e : (fun b => snS (sI0 s).1 b) = (fun b => snS s.1 b) := funext esn
    rw [e]
    rfl
  · rw [b6, a7]
    exact accL_c (fun b hb => ewv b hb)
