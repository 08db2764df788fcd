/-! what holds besides: heights fall, what is got is given, the accounts agree, stakes -/
def EV (s : Sx) : Prop := (∀ b, b + 1 < nt (s.1 8) → nt (s.1 (14 + 6 * (b + 1))) < nt (s.1 (14 + 6 * b))) ∧ (∀ b, b < nt (s.1 8) → ∃ k, k < 2 ^ 31 ∧ s.1 (14 + 6 * b + 3) = nI k) ∧ (∀ b, b + 1 < nt (s.1 8) → s.1 (14 + 6 * (b + 1) + 5) = s.1 (14 + 6 * b + 4) ∨ s.1 (14 + 6 * (b + 1) + 5) = nI 0) ∧ (s.2.2 0 + s.2.2 1 - s.2.2 2 - s.2.2 3 = (s.1 10 + nI (tot s.2.1 (nt (s.1 7)) (nt (s.1 8)))).toInt64) ∧ (∀ i, i < nt (s.1 9) → SI s.1 (nt (s.1 7)) i) ∧ (s.1 12 ≠ nI 0 → ∃ y, y ≤ 800 ∧ s.1 13 = nI y)
theorem j4 (a0 a1 a2 a3 S W C X Z : Int64) (h1 : a0 + a1 - a2 - a3 = X) (h2 : Z + W + C = X + S) : a0 + (a1 + S) - (a2 + W) - (a3 + C) = Z := by
  subst h1
  have e : Z = a0 + a1 - a2 - a3 + S - W - C := by
    rw [← h2]
    grind
  rw [e]
  grind
theorem J_add {a b : Nat} (h : a + b < 2 ^ 31) : (nI a).toInt64 + (nI b).toInt64 = (nI (a + b)).toInt64 := by
  rw [l64_add h, nI_add]
theorem accL_sm (f : Nat → Nat) (a : Int64) : ∀ n, sm f n < 2 ^ 31 → accL f a n = a + (nI (sm f n)).toInt64 := by
  intro n
  induction n with
  | zero =>
    intro _
    show a = a + (nI 0).toInt64
    rw [n64_0, Int64.add_zero]
  | succ n ih =>
    intro h
    rw [sm_s] at h
    rw [accL_s, ih (by omega), sm_s, ← J_add h, Int64.add_assoc]
theorem sm_le10 {f : Nat → Nat} {c : Nat} : ∀ {n : Nat}, (∀ b, b < n → f b ≤ c) → sm f n ≤ c * n := by
  intro n
  induction n with
  | zero => exact fun _ => Nat.le_refl _
  | succ n ih =>
    intro h
    have h1 := ih (fun b hb => h b (by omega))
    have h2 := h n (by omega)
    rw [sm_s, Nat.mul_succ]
    omega
theorem wv_le (s : Sx) (b : Nat) : wv s b ≤ ic s b + snS s.1 b := Nat.min_le_right _ _
theorem pv_sum (s : Sx) : ∀ k, sm (pv s) (k + 1) = sm (gv s) k := by
  intro k
  induction k with
  | zero => rfl
  | succ k ih =>
    rw [sm_s (pv s) (k + 1), ih, sm_s]
    rfl
/-- a year in one row -/
theorem yr_all {K Y nb ns : Nat} {s : Sx} (g : GS K Y nb ns s) (hY : Y < 800) (hn : 0 < nb) (hK : K < 2 ^ 29) : ∃ F r P sz rs, s.1 10 = nI F ∧ s.1 11 = nI r ∧ s.1 12 = nI P ∧ s.1 5 = nI sz ∧ s.1 6 = nI rs ∧ r ≤ 50 ∧ rs ≤ 50 ∧ 1 ≤ sz ∧ sz ≤ 1000000 ∧ F + gv s (nb - 1) < 2 ^ 30 ∧ P + F + gv s (nb - 1) < 2 ^ 30 ∧ F + tot s.2.1 Y nb ≤ K ∧ (sY s).1 7 = nI (Y + 1) ∧ (∀ j, j < 7 ∨ j = 8 ∨ j = 9 → (sY s).1 j = s.1 j) ∧ (∀ b k, b < nb → k < 3 → (sY s).1 (14 + 6 * b + k) = s.1 (14 + 6 * b + k)) ∧ (∀ b, b < nb → (sY s).1 (14 + 6 * b + 3) = nI (wv s b) ∧ (sY s).1 (14 + 6 * b + 4) = nI (gv s b) ∧ (sY s).1 (14 + 6 * b + 5) = nI (pv s b) ∧ sm ((sY s).2.1 b) (Y + 2) + gv s b = th s b + pv s b) ∧ (sY s).1 10 = nI (F + gv s (nb - 1) - (if 0 < r then 0 else (F + gv s (nb - 1)) / sz) * sz) ∧ (sY s).1 11 = nI (if 0 < r then r - 1 else if (F + gv s (nb - 1)) / sz = 0 then 0 else rs) ∧ (sY s).1 12 = nI (P + (if 0 < r then 0 else (F + gv s (nb - 1)) / sz)) ∧ (sY s).1 13 = (if (if 0 < r then 0 else (F + gv s (nb - 1)) / sz) = 0 then s.1 13 else nI (Y + 1)) ∧ (sY s).2.2 0 = s.2.2 0 ∧ (sY s).2.2 1 = accL (fun b => snS s.1 b) (s.2.2 1) nb ∧ (sY s).2.2 2 = accL (fun b => wv s b) (s.2.2 2) nb ∧ (sY s).2.2 3 = s.2.2 3 + (nI ((if 0 < r then 0 else (F + gv s (nb - 1)) / sz) * sz)).toInt64 ∧ ((∀ i, i < ns → SI s.1 Y i) → ∀ i, i < ns → SI (sY s).1 (Y + 1) i) := by
  have n7 := g.2.2.2.2.2.2.2.1
  have n8 := g.2.2.2.2.2.2.2.2.1
  have n9 := g.2.2.2.2.2.2.2.2.2
  have hnb := g.2.2.2.2.2.1
  have hns := g.2.2.2.2.2.2.1
  have I := g.1.1
  obtain ⟨F, P, r, m10, m12, m11, r50, hFK, -, -⟩ := g.1.2.1
  rw [n7, n8] at hFK
  obtain ⟨sz, m5, sz1, sz2⟩ := rg_get I.2.2.2.2.2.1
  obtain ⟨rs, m6, -, rs2⟩ := rg_get I.2.2.2.2.2.2.1
  obtain ⟨u, y1, gu, u7, uo, ub, u10, ua0, ua3, ua1, ua2⟩ := YX1 g hY hn (by omega)
  -- what the lowest band gives
  have hth : ∀ b, b < nb → th s b ≤ ic s b + 30000 := fun b hb => by
    have h1 := snS_le I (b := b) (by omega)
    unfold th
    omega
  have hic : ∀ b, b < nb → ic s b ≤ tot s.2.1 Y nb := fun b hb => by
    unfold ic
    rw [n7]
    exact tot_ge s.2.1 hb
  have hgv : ∀ b, b < nb → gv s b ≤ th s b := fun b hb => by
    have h1 := (I.2.2.2.2.2.2.2.2.2.2.1 b (by omega)).2.2.2.2
    have h2 : th s b * nt (s.1 (14 + 6 * b + 2)) ≤ th s b * 500 := Nat.mul_le_mul_left _ h1
    unfold gv
    omega
  have hgl := hgv (nb - 1) (by omega)
  have htl := hth (nb - 1) (by omega)
  have hil := hic (nb - 1) (by omega)
  have e10 : u.1 10 = nI (F + gv s (nb - 1)) := by rw [u10, m10, nI_add]
  have uo' := fun j (h7 : j ≠ 7) (h10 : j ≠ 10) (hj : j < 14 ∨ 14 + 6 * nb ≤ j) => uo j h7 h10 (fun b hb => by omega)
  obtain ⟨f1, f2, f3, f4, f5, f6, f7, f8⟩ := FRs (u := u) e10 (by omega) ((uo' 11 (by omega) (by omega) (by omega)).trans m11) r50 ((uo' 12 (by omega) (by omega) (by omega)).trans m12) ((uo' 5 (by omega) (by omega) (by omega)).trans m5) sz1 sz2 ((uo' 6 (by omega) (by omega) (by omega)).trans m6)
  have gF' := GS_F gu (by omega)
  have kx0 := KX (Y0 := Y) gF'
  -- the stakes touch nothing else
  have ko : ∀ k, k ≤ ns → (∀ j, j < 74 → (itU sK k (sF u)).1 j = (sF u).1 j) ∧ (itU sK k (sF u)).2 = (sF u).2 := by
    intro k
    induction k with
    | zero => exact fun _ => ⟨fun _ _ => rfl, rfl⟩
    | succ k ih =>
      intro hk
      obtain ⟨b1, b2⟩ := ih (by omega)
      refine ⟨fun j hj => ?_, ?_⟩
      · show (sK k (itU sK k (sF u))).1 j = _
        rw [K1_o k _ (by omega)]
        exact b1 j hj
      · show (sK k (itU sK k (sF u))).2 = _
        rw [K1_2]
        exact b2
  obtain ⟨ko1, ko2⟩ := ko ns (Nat.le_refl _)
  rw [← y1] at ko1 ko2
  have ef : (sY s).2.1 = u.2.1 := (congrArg Prod.fst ko2).trans f6
  have ea : ∀ k, (sY s).2.2 k = (sF u).2.2 k := fun k => congrFun (congrArg Prod.snd ko2) k
  refine ⟨F, r, P, sz, rs, m10, m11, m12, m5, m6, r50, rs2, sz1, sz2, by omega, by omega, by omega, ?_, fun j hj => ?_, fun b k hb hk => ?_, fun b hb => ?_, ?_, ?_, ?_, ?_, ?_, ?_, ?_, ?_, ?_⟩
  · rw [ko1 7 (by omega), f1 7 (by omega)]
    exact u7
  · rw [ko1 j (by omega), f1 j (by omega)]
    exact uo' j (by omega) (by omega) (by omega)
  · rw [ko1 _ (by omega), f1 _ (by omega)]
    exact uo _ (by omega) (by omega) (fun b' hb' => by omega)
  · rw [ko1 _ (by omega), ko1 _ (by omega), ko1 _ (by omega), f1 _ (by omega), f1 _ (by omega), f1 _ (by omega), ef]
    exact ub b hb
  · rw [ko1 10 (by omega)]
    exact f2
  · rw [ko1 11 (by omega)]
    exact f3
  · rw [ko1 12 (by omega)]
    exact f4
  · rw [ko1 13 (by omega), f5, u7, uo' 13 (by omega) (by omega) (by omega)]
  · rw [ea, f7 0 (by omega)]
    exact ua0
  · rw [ea, f7 1 (by omega)]
    exact ua1
  · rw [ea, f7 2 (by omega)]
    exact ua2
  · rw [ea, f8, ua3]
  · intro hsi i hi
    have h1 := kx0 (fun i' hi' => by
      have hb := (I.2.2.2.2.2.2.2.2.2.2.2 i' (by omega)).2
      refine SI_c (hsi i' hi') (fun q hq => ?_) ?_
      · rw [f1 _ (by omega)]
        exact uo' _ (by omega) (by omega) (by omega)
      · rw [f1 _ (by omega)]
        exact uo _ (by omega) (by omega) (fun b' hb' => by omega)) ns (Nat.le_refl _)
    rw [← y1] at h1
    exact h1.2.1 i hi
theorem EV_Y {K Y nb ns : Nat} {s : Sx} (g : GS K Y nb ns s) (hY : Y < 800) (hn : 0 < nb) (hK : K < 2 ^ 29) (e : EV s) : EV (sY s) := by
  have n7 := g.2.2.2.2.2.2.2.1
  have n8 := g.2.2.2.2.2.2.2.2.1
  have n9 := g.2.2.2.2.2.2.2.2.2
  have hnb := g.2.2.2.2.2.1
  have hns := g.2.2.2.2.2.2.1
  have I := g.1.1
  obtain ⟨F, r, P, sz, rs, m10, m11, m12, m5, m6, r50, rs2, sz1, sz2, hF, hP, hFK, y7, yo, yb, yw, y10, y11, y12, y13, ya0, ya1, ya2, ya3, ys⟩ := yr_all g hY hn hK
  obtain ⟨e1, e2, e3, e4, e5, e6⟩ := e
  rw [n8] at e1 e2 e3
  rw [n9, n7] at e5
  rw [n7, n8] at e4
  have k8 : nt ((sY s).1 8) = nb := by rw [yo 8 (by omega)]; exact n8
  have k9 : nt ((sY s).1 9) = ns := by rw [yo 9 (by omega)]; exact n9
  have k7 : nt ((sY s).1 7) = Y + 1 := by rw [y7, nt_nI (by omega)]
  have hth : ∀ b, b < nb → th s b ≤ ic s b + 30000 := fun b hb => by
    have h1 := snS_le I (b := b) (by omega)
    unfold th
    omega
  have hic : ∀ b, b < nb → ic s b ≤ tot s.2.1 Y nb := fun b hb => by
    unfold ic
    rw [n7]
    exact tot_ge s.2.1 hb
  unfold EV
  rw [k8, k9, k7]
  refine ⟨fun b hb => ?_, fun b hb => ?_, fun b hb => ?_, ?_, ys e5, fun h12 => ?_⟩
  · have h0 := yb b 0 (by omega) (by omega)
    have h1 := yb (b + 1) 0 (by omega) (by omega)
    rw [Nat.add_zero] at h0 h1
    rw [h0, h1]
    exact e1 b hb
  · refine ⟨wv s b, ?_, (yw b hb).1⟩
    have h1 := wv_le s b
    have h2 := hic b hb
    have h3 := snS_le I (b := b) (by omega)
    omega
  · left
    rw [(yw (b + 1) hb).2.2.1, (yw b (by omega)).2.1]
    rfl
  · -- the accounts
    generalize hD : (if 0 < r then 0 else (F + gv s (nb - 1)) / sz) = D at y10 y12 y13 ya3
    have hDz : D * sz ≤ F + gv s (nb - 1) := by
      rw [← hD]
      split
      · omega
      · exact Nat.div_mul_le_self _ _
    have hS : sm (fun b => snS s.1 b) nb ≤ 30000 * nb := sm_le10 (fun b hb => snS_le I (by omega))
    have key : ∀ k, k ≤ nb → sm (fun b => sm ((sY s).2.1 b) (Y + 2)) k + sm (gv s) k + sm (fun b => wv s b) k = sm (fun b => sm (s.2.1 b) (Y + 1)) k + sm (fun b => snS s.1 b) k + sm (pv s) k := by
      intro k
      induction k with
      | zero => exact fun _ => rfl
      | succ k ih =>
        intro hk
        have h1 := ih (by omega)
        have h2 := (yw k (by omega)).2.2.2
        have h3 := wv_le s k
        have h4 : ic s k = sm (s.2.1 k) (Y + 1) := by
          unfold ic
          rw [n7]
        unfold th at h2
        rw [sm_s (fun b => sm ((sY s).2.1 b) (Y + 2)) k, sm_s (gv s) k, sm_s (fun b => wv s b) k, sm_s (fun b => sm (s.2.1 b) (Y + 1)) k, sm_s (fun b => snS s.1 b) k, sm_s (pv s) k]
        omega
    have h1 := key nb (Nat.le_refl _)
    have h2 : sm (pv s) nb + gv s (nb - 1) = sm (gv s) nb := by
      have h := pv_sum s (nb - 1)
      rw [show nb - 1 + 1 = nb by omega] at h
      have h' := sm_s (gv s) (nb - 1)
      rw [show nb - 1 + 1 = nb by omega] at h'
      omega
    have hT : tot s.2.1 Y nb = sm (fun b => sm (s.2.1 b) (Y + 1)) nb := rfl
    have hT' : tot (sY s).2.1 (Y + 1) nb = sm (fun b => sm ((sY s).2.1 b) (Y + 2)) nb := rfl
    rw [← hT, ← hT'] at h1
    rw [ya0, ya1, ya2, ya3, accL_sm _ _ nb (by omega), accL_sm _ _ nb (by omega)]
    refine j4 _ _ _ _ _ _ _ _ _ e4 ?_
    rw [y10, m10, nI_add, nI_add, J_add (by omega), J_add (by omega), J_add (by omega)]
    congr 2
    omega
  · by_cases h0 : (if 0 < r then 0 else (F + gv s (nb - 1)) / sz) = 0
    · rw [h0, Nat.add_zero, ← m12] at y12
      rw [if_pos h0] at y13
      rw [y12] at h12
      rw [y13]
      exact e6 h12
    · rw [if_neg h0] at y13
      exact ⟨Y + 1, by omega, y13⟩
