/-! the states stay in order: each change -/
theorem IV_set {m : Nat → Int32} (I : IV m) {k n : Nat} (hk : k < 7) (h : rg (nI n) (if k = 5 then 1 else 0) (if k = 0 then 5000 else if k = 1 then 500 else if k = 2 then 9000 else if k = 3 then 500 else if k = 4 then 5000 else if k = 5 then 1000000 else 50)) : IV (upd m k (nI n)) := by
  obtain ⟨i0, i1, i2, i3, i4, i5, i6, i7, i8, i9, ib, is⟩ := I
  unfold IV
  rw [pk_un (show 7 ≠ k by omega), pk_un (show 8 ≠ k by omega), pk_un (show 9 ≠ k by omega)]
  have hb : (∀ b, b < nt (m 8) → rg (upd m k (nI n) (14 + 6 * b)) 0 5000 ∧ rg (upd m k (nI n) (14 + 6 * b + 1)) 100 5000 ∧ rg (upd m k (nI n) (14 + 6 * b + 2)) 0 500) := fun b hb => by
    rw [pk_un (by omega), pk_un (by omega), pk_un (by omega)]
    exact ib b hb
  have hs : (∀ s, s < nt (m 9) → rg (upd m k (nI n) (74 + 6 * s)) 0 9 ∧ nt (upd m k (nI n) (74 + 6 * s)) < nt (m 8)) := fun s hs => by
    rw [pk_un (by omega)]
    exact is s hs
  rcases (show k = 0 ∨ k = 1 ∨ k = 2 ∨ k = 3 ∨ k = 4 ∨ k = 5 ∨ k = 6 by omega) with rfl | rfl | rfl | rfl | rfl | rfl | rfl
  · rw [pk_us, pk_un (by omega), pk_un (by omega), pk_un (by omega), pk_un (by omega), pk_un (by omega), pk_un (by omega)]
    exact ⟨h, i1, i2, i3, i4, i5, i6, i7, i8, i9, hb, hs⟩
  · rw [pk_us, pk_un (by omega), pk_un (by omega), pk_un (by omega), pk_un (by omega), pk_un (by omega), pk_un (by omega)]
    exact ⟨i0, h, i2, i3, i4, i5, i6, i7, i8, i9, hb, hs⟩
  · rw [pk_us, pk_un (by omega), pk_un (by omega), pk_un (by omega), pk_un (by omega), pk_un (by omega), pk_un (by omega)]
    exact ⟨i0, i1, h, i3, i4, i5, i6, i7, i8, i9, hb, hs⟩
  · rw [pk_us, pk_un (by omega), pk_un (by omega), pk_un (by omega), pk_un (by omega), pk_un (by omega), pk_un (by omega)]
    exact ⟨i0, i1, i2, h, i4, i5, i6, i7, i8, i9, hb, hs⟩
  · rw [pk_us, pk_un (by omega), pk_un (by omega), pk_un (by omega), pk_un (by omega), pk_un (by omega), pk_un (by omega)]
    exact ⟨i0, i1, i2, i3, h, i5, i6, i7, i8, i9, hb, hs⟩
  · rw [pk_us, pk_un (by omega), pk_un (by omega), pk_un (by omega), pk_un (by omega), pk_un (by omega), pk_un (by omega)]
    exact ⟨i0, i1, i2, i3, i4, h, i6, i7, i8, i9, hb, hs⟩
  · rw [pk_us, pk_un (by omega), pk_un (by omega), pk_un (by omega), pk_un (by omega), pk_un (by omega), pk_un (by omega)]
    exact ⟨i0, i1, i2, i3, i4, i5, h, i7, i8, i9, hb, hs⟩
theorem IV_creep {m : Nat → Int32} (I : IV m) {b n : Nat} (hb : b < 10) (h : n ≤ 500) : IV (upd m (14 + 6 * b + 2) (nI n)) := by
  obtain ⟨i0, i1, i2, i3, i4, i5, i6, i7, i8, i9, ib, is⟩ := I
  have hnb := i8.2.2
  have hns := i9.2.2
  unfold IV
  rw [pk_un (show 0 ≠ 14 + 6 * b + 2 by omega), pk_un (show 1 ≠ 14 + 6 * b + 2 by omega), pk_un (show 2 ≠ 14 + 6 * b + 2 by omega), pk_un (show 3 ≠ 14 + 6 * b + 2 by omega), pk_un (show 4 ≠ 14 + 6 * b + 2 by omega), pk_un (show 5 ≠ 14 + 6 * b + 2 by omega), pk_un (show 6 ≠ 14 + 6 * b + 2 by omega), pk_un (show 7 ≠ 14 + 6 * b + 2 by omega), pk_un (show 8 ≠ 14 + 6 * b + 2 by omega), pk_un (show 9 ≠ 14 + 6 * b + 2 by omega)]
  refine ⟨i0, i1, i2, i3, i4, i5, i6, i7, i8, i9, fun b' hb' => ?_, fun s hs => ?_⟩
  · obtain ⟨v1, v2, v3⟩ := ib b' hb'
    rw [pk_un (show 14 + 6 * b' ≠ _ by omega), pk_un (show 14 + 6 * b' + 1 ≠ _ by omega)]
    by_cases e : b' = b
    · subst e
      rw [pk_us]
      exact ⟨v1, v2, rg_nI (by omega) h (by omega)⟩
    · rw [pk_un (by omega)]
      exact ⟨v1, v2, v3⟩
  · rw [pk_un (by omega)]
    exact is s hs
theorem rB_sum (Y v : Nat) : sm (rB Y v) (Y + 1) = v := by
  rw [sm_s, sm_z (fun y hy => by
    unfold rB
    rw [if_neg (by omega)])]
  unfold rB
  rw [if_pos rfl]
  omega
theorem OK_B {s : Sx} {Y nb ns : Nat} (g : GS (1000000 * nb + 300000 * Y) Y nb ns s) (hY : Y ≤ 500) (hz : Zs s) (hn : nb < 10) {h len cr v : Nat} (h1 : h ≤ 5000) (h2 : 100 ≤ len) (h3 : len ≤ 5000) (h4 : cr ≤ 500) (hv : v ≤ 1000000) : OKs (sB (nI h) (nI len) (nI cr) v s) := by
  obtain ⟨J, a7, a8, a9, b1, b2, b3, n7, n8, n9⟩ := g
  obtain ⟨I, ⟨F, P, r, c1, c2, c3, c4, c5, c6, c7⟩, z, q⟩ := J
  rw [n7, n8] at c5 z
  have e8 : mB s.1 nb (nI h) (nI len) (nI cr) 8 = nI (nb + 1) := by rw [mB_8, a8, nI_add]
  have m8 : nt (mB s.1 nb (nI h) (nI len) (nI cr) 8) = nb + 1 := by rw [e8, nt_nI (by omega)]
  have m7 : nt (mB s.1 nb (nI h) (nI len) (nI cr) 7) = Y := by rw [mB_o (by omega) (by omega), n7]
  have I' : IV (mB s.1 nb (nI h) (nI len) (nI cr)) := by
    obtain ⟨i0, i1, i2, i3, i4, i5, i6, i7, i8, i9, ib, is⟩ := I
    rw [n8] at ib
    have hns := i9.2.2
    unfold IV
    rw [m8, e8, mB_o (k := 0) (by omega) (by omega), mB_o (k := 1) (by omega) (by omega), mB_o (k := 2) (by omega) (by omega), mB_o (k := 3) (by omega) (by omega), mB_o (k := 4) (by omega) (by omega), mB_o (k := 5) (by omega) (by omega), mB_o (k := 6) (by omega) (by omega), mB_o (k := 7) (by omega) (by omega), mB_o (k := 9) (by omega) (by omega)]
    refine ⟨i0, i1, i2, i3, i4, i5, i6, i7, rg_nI (by omega) (by omega) (by omega), i9, fun b hb => ?_, fun s' hs => ?_⟩
    · by_cases e : b = nb
      · subst e
        have x0 : mB s.1 b (nI h) (nI len) (nI cr) (14 + 6 * b) = nI h := by
          unfold mB
          rw [pk_un (by omega), pk_un (by omega), pk_un (by omega), pk_un (by omega), pk_un (by omega)]
          exact pk_us
        have x1 : mB s.1 b (nI h) (nI len) (nI cr) (14 + 6 * b + 1) = nI len := by
          unfold mB
          rw [pk_un (by omega), pk_un (by omega), pk_un (by omega), pk_un (by omega), pk_us]
        have x2 : mB s.1 b (nI h) (nI len) (nI cr) (14 + 6 * b + 2) = nI cr := by
          unfold mB
          rw [pk_un (by omega), pk_un (by omega), pk_un (by omega), pk_us]
        rw [x0, x1, x2]
        exact ⟨rg_nI (by omega) h1 (by omega), rg_nI h2 h3 (by omega), rg_nI (by omega) h4 (by omega)⟩
      · rw [mB_o (by omega) (by omega), mB_o (by omega) (by omega), mB_o (by omega) (by omega)]
        exact ib b (by omega)
    · obtain ⟨w1, w2⟩ := is s' hs
      rw [mB_o (by omega) (by omega)]
      rw [n8] at w2
      exact ⟨w1, by omega⟩
  have hsB : sB (nI h) (nI len) (nI cr) v s = (mB s.1 nb (nI h) (nI len) (nI cr), fset s.2.1 nb (rB Y v), vp_updL s.2.2 0 (s.2.2 0 + (nI v).toInt64)) := by
    unfold sB
    rw [n8, n7]
  rw [hsB]
  refine ⟨Y, nb + 1, ns, GS_mk ⟨I', ⟨F, P, r, ?_, ?_, ?_, c4, ?_, ?_, ?_⟩, ?_, ?_⟩ ?_ e8 ?_ b1 (by omega) b3, hY, fun b y hb hy => ?_⟩
  · exact (mB_o (by omega) (by omega)).trans c1
  · exact (mB_o (by omega) (by omega)).trans c2
  · exact (mB_o (by omega) (by omega)).trans c3
  · show F + P + tot (fset s.2.1 nb (rB Y v)) (nt (mB s.1 nb (nI h) (nI len) (nI cr) 7)) (nt (mB s.1 nb (nI h) (nI len) (nI cr) 8)) ≤ _
    rw [m7, m8]
    have t1 := tot_set s.2.1 (Y := Y) (nb := nb + 1) (b := nb) (rB Y v) (by omega)
    rw [rB_sum] at t1
    have t2 : tot s.2.1 Y (nb + 1) = tot s.2.1 Y nb + sm (s.2.1 nb) (Y + 1) := sm_s _ _
    omega
  · intro hp
    exact (mB_o (by omega) (by omega)).trans (c6 hp)
  · intro hp
    show mB s.1 nb (nI h) (nI len) (nI cr) 13 ≠ nONE
    rw [mB_o (by omega) (by omega)]
    exact c7 hp
  · intro b y hb hy
    have hb' : b < nt (mB s.1 nb (nI h) (nI len) (nI cr) 8) := hb
    have hy' : nt (mB s.1 nb (nI h) (nI len) (nI cr) 7) < y := hy
    rw [m8] at hb'
    rw [m7] at hy'
    show fset s.2.1 nb (rB Y v) b y = 0
    by_cases e : b = nb
    · subst e
      rw [fset_s]
      unfold rB
      rw [if_neg (by omega)]
    · rw [fset_n _ _ e]
      exact z b y (by omega) hy'
  · show mB s.1 nb (nI h) (nI len) (nI cr) 19 = nI 0
    by_cases e : nb = 0
    · subst e
      unfold mB
      exact pk_us
    · rw [mB_o (by omega) (by omega)]
      exact q
  · exact (mB_o (by omega) (by omega)).trans a7
  · exact (mB_o (by omega) (by omega)).trans a9
  · show fset s.2.1 nb (rB Y v) b y = 0
    by_cases e : b = nb
    · subst e
      rw [fset_s]
      unfold rB
      rw [if_neg (by omega)]
    · rw [fset_n _ _ e]
      exact hz b y hb hy
theorem OK_S {s : Sx} {Y nb ns : Nat} (g : GS (1000000 * nb + 300000 * Y) Y nb ns s) (hY : Y ≤ 500) (hz : Zs s) (hn : ns < 6) {b : Nat} (hb : b < nb) (p d : Int32) : OKs (sS (nI b) p d s) := by
  obtain ⟨J, a7, a8, a9, b1, b2, b3, n7, n8, n9⟩ := g
  have e9 : mS s.1 ns (nI b) p d 9 = nI (ns + 1) := by rw [mS_9, a9, nI_add]
  have m9 : nt (mS s.1 ns (nI b) p d 9) = ns + 1 := by rw [e9, nt_nI (by omega)]
  have I' : IV (mS s.1 ns (nI b) p d) := by
    obtain ⟨i0, i1, i2, i3, i4, i5, i6, i7, i8, i9, ib, is⟩ := J.1
    have hnb := i8.2.2
    rw [n9] at is
    unfold IV
    rw [m9, e9, mS_o (k := 0) (by omega) (by omega), mS_o (k := 1) (by omega) (by omega), mS_o (k := 2) (by omega) (by omega), mS_o (k := 3) (by omega) (by omega), mS_o (k := 4) (by omega) (by omega), mS_o (k := 5) (by omega) (by omega), mS_o (k := 6) (by omega) (by omega), mS_o (k := 7) (by omega) (by omega), mS_o (k := 8) (by omega) (by omega)]
    refine ⟨i0, i1, i2, i3, i4, i5, i6, i7, i8, rg_nI (by omega) (by omega) (by omega), fun b' hb' => ?_, fun s' hs => ?_⟩
    · rw [mS_o (by omega) (by omega), mS_o (by omega) (by omega), mS_o (by omega) (by omega)]
      exact ib b' hb'
    · by_cases e : s' = ns
      · subst e
        have x0 : mS s.1 s' (nI b) p d (74 + 6 * s') = nI b := by
          unfold mS
          rw [pk_un (by omega), pk_un (by omega), pk_un (by omega), pk_un (by omega), pk_un (by omega)]
          exact pk_us
        rw [x0, nt_nI (by omega), n8]
        exact ⟨rg_nI (by omega) (by omega) (by omega), hb⟩
      · rw [mS_o (by omega) (by omega)]
        exact is s' (by omega)
  have hsS : sS (nI b) p d s = (mS s.1 ns (nI b) p d, s.2.1, s.2.2) := by
    unfold sS
    rw [n9]
  rw [hsS]
  exact ⟨Y, nb, ns + 1, GS_mk (JV_m J I' (mS_o (by omega) (by omega)) (mS_o (by omega) (by omega)) (mS_o (by omega) (by omega)) (mS_o (by omega) (by omega)) (mS_o (by omega) (by omega)) (mS_o (by omega) (by omega)) (mS_o (by omega) (by omega))) ((mS_o (by omega) (by omega)).trans a7) ((mS_o (by omega) (by omega)).trans a8) e9 b1 b2 (by omega), hY, hz⟩
theorem pM_o {m : Nat → Int32} {ns i k : Nat} (h9 : k ≠ 9) (hk : k < 74) : pM m ns i k = m k := by
  unfold pM
  rw [pX_o (by omega), pk_un h9]
theorem OK_P {s : Sx} {Y nb ns : Nat} (g : GS (1000000 * nb + 300000 * Y) Y nb ns s) (hY : Y ≤ 500) (hz : Zs s) {i : Nat} (hi : i < ns) : OKs (sP i s) := by
  obtain ⟨J, a7, a8, a9, b1, b2, b3, n7, n8, n9⟩ := g
  have e9 : pM s.1 ns i 9 = nI (ns - 1) := by
    unfold pM
    rw [pX_o (by omega), pk_us]
  have m9 : nt (pM s.1 ns i 9) = ns - 1 := by rw [e9, nt_nI (by omega)]
  have I' : IV (pM s.1 ns i) := by
    obtain ⟨i0, i1, i2, i3, i4, i5, i6, i7, i8, i9, ib, is⟩ := J.1
    have hnb := i8.2.2
    rw [n9] at is
    unfold IV
    rw [m9, e9, pM_o (k := 0) (by omega) (by omega), pM_o (k := 1) (by omega) (by omega), pM_o (k := 2) (by omega) (by omega), pM_o (k := 3) (by omega) (by omega), pM_o (k := 4) (by omega) (by omega), pM_o (k := 5) (by omega) (by omega), pM_o (k := 6) (by omega) (by omega), pM_o (k := 7) (by omega) (by omega), pM_o (k := 8) (by omega) (by omega)]
    refine ⟨i0, i1, i2, i3, i4, i5, i6, i7, i8, rg_nI (by omega) (by omega) (by omega), fun b' hb' => ?_, fun s' hs => ?_⟩
    · rw [pM_o (by omega) (by omega), pM_o (by omega) (by omega), pM_o (by omega) (by omega)]
      exact ib b' hb'
    · unfold pM pX
      by_cases e : i ≤ s'
      · rw [if_pos (by omega), pk_un (by omega), show 74 + 6 * s' + 6 = 74 + 6 * (s' + 1) by omega]
        exact is (s' + 1) (by omega)
      · rw [if_neg (by omega), pk_un (by omega)]
        exact is s' (by omega)
  have hsP : sP i s = (pM s.1 ns i, s.2.1, s.2.2) := by
    unfold sP
    rw [n9]
  rw [hsP]
  exact ⟨Y, nb, ns - 1, GS_mk (JV_m J I' (pM_o (by omega) (by omega)) (pM_o (by omega) (by omega)) (pM_o (by omega) (by omega)) (pM_o (by omega) (by omega)) (pM_o (by omega) (by omega)) (pM_o (by omega) (by omega)) (pM_o (by omega) (by omega))) ((pM_o (by omega) (by omega)).trans a7) ((pM_o (by omega) (by omega)).trans a8) e9 b1 b2 (by omega), hY, hz⟩
theorem itU_f {g : Nat → Sx → Sx} {b n : Nat} (h : ∀ k s, k < n → (g k s).2.1 b = s.2.1 b) (s : Sx) : ∀ k, k ≤ n → (itU g k s).2.1 b = s.2.1 b := by
  intro k
  induction k with
  | zero => exact fun _ => rfl
  | succ k ih => exact fun hk => (h k _ (by omega)).trans (ih (by omega))
theorem itD_f {K Y nb ns b : Nat} (hb : nb ≤ b) : ∀ (k : Nat) (s : Sx), GS K Y nb ns s → k ≤ nb → (itD sG k s).2.1 b = s.2.1 b := by
  intro k
  induction k with
  | zero => exact fun s _ _ => rfl
  | succ k ih =>
    intro s g hk
    refine (ih _ (GS_G g (by omega)) (by omega)).trans ?_
    show gF s.1 s.2.1 k b = _
    exact gF_o (by omega) (fun h => by
      rw [g.2.2.2.2.2.2.2.2.1] at h
      omega)
theorem Y_f {K Y nb ns : Nat} {s : Sx} (g : GS K Y nb ns s) (hY : Y < 800) {b : Nat} (hb : nb ≤ b) : (sY s).2.1 b = s.2.1 b := by
  unfold sY
  rw [g.2.2.2.2.2.2.2.2.1, g.2.2.2.2.2.2.2.2.2]
  have e1 := itU_f (g := sK) (b := b) (n := ns) (fun k s _ => rfl) (sF (itD sG nb (itU sW nb (sI0 s)))) ns (Nat.le_refl _)
  have e2 := itD_f hb nb (itU sW nb (sI0 s)) (GS_WU (GS_I0 g hY) nb (Nat.le_refl _)) (Nat.le_refl _)
  have e3 := itU_f (g := sW) (b := b) (n := nb) (fun k s hk => by
    show wF s.1 s.2.1 k b = _
    unfold wF
    exact fset_n _ _ (by omega)) (sI0 s) nb (Nat.le_refl _)
  rw [e1]
  show (itD sG nb (itU sW nb (sI0 s))).2.1 b = _
  rw [e2, e3]
  rfl
theorem OK_Ys {s : Sx} {Y nb ns : Nat} (g : GS (1000000 * nb + 300000 * Y) Y nb ns s) (hz : Zs s) : ∀ n, Y + n ≤ 500 → OKs (sYs n s) ∧ GS (1000000 * nb + 300000 * (Y + n)) (Y + n) nb ns (sYs n s) ∧ Zs (sYs n s) := by
  intro n
  induction n with
  | zero => exact fun h => ⟨⟨Y, nb, ns, g, h, hz⟩, g, hz⟩
  | succ n ih =>
    intro h
    obtain ⟨h1, h2, h3⟩ := ih (by omega)
    have hnb := g.2.2.2.2.2.1
    have g' := GS_Y h2 (by omega) (by omega)
    have g'' : GS (1000000 * nb + 300000 * (Y + (n + 1))) (Y + (n + 1)) nb ns (sYs (n + 1) s) := GS_mono g' (by omega)
    have hz' : Zs (sYs (n + 1) s) := fun b y hb hy => by
      by_cases hbb : b < nb
      · exact GS_z g'' hbb (by omega)
      · show (sY (sYs n s)).2.1 b y = 0
        rw [Y_f h2 (by omega) (by omega)]
        exact h3 b y hb hy
    exact ⟨⟨_, _, _, g'', h, hz'⟩, g'', hz'⟩
theorem EQ_JV {K : Nat} {s s' : Sx} (e : EQs s s') (J : JV K s.1 s.2.1) : JV K s'.1 s'.2.1 := by
  obtain ⟨e1, e2, e3⟩ := e
  obtain ⟨I, ⟨F, P, r, c1, c2, c3, c4, c5, c6, c7⟩, z, q⟩ := J
  have hnb := I.2.2.2.2.2.2.2.2.1.2.2
  have hns := I.2.2.2.2.2.2.2.2.2.1.2.2
  unfold JV IV
  rw [e1 0 (by omega), e1 1 (by omega), e1 2 (by omega), e1 3 (by omega), e1 4 (by omega), e1 5 (by omega), e1 6 (by omega), e1 7 (by omega), e1 8 (by omega), e1 9 (by omega), e1 10 (by omega), e1 11 (by omega), e1 12 (by omega), e1 13 (by omega), e1 19 (by omega)]
  obtain ⟨i0, i1, i2, i3, i4, i5, i6, i7, i8, i9, ib, is⟩ := I
  refine ⟨⟨i0, i1, i2, i3, i4, i5, i6, i7, i8, i9, fun b hb => ?_, fun s' hs => ?_⟩, ⟨F, P, r, c1, c2, c3, c4, ?_, c6, c7⟩, fun b y hb hy => ?_, q⟩
  · rw [e1 _ (by omega), e1 _ (by omega), e1 _ (by omega)]
    exact ib b hb
  · rw [e1 _ (by omega)]
    exact is s' hs
  · have et : tot s'.2.1 (nt (s.1 7)) (nt (s.1 8)) = tot s.2.1 (nt (s.1 7)) (nt (s.1 8)) := sm_congr (fun b hb => sm_congr (fun y hy => e2 b y (by omega)))
    rw [et]
    exact c5
  · rw [e2 b y (by omega)]
    exact z b y hb hy
theorem EQ_OK {s s' : Sx} (e : EQs s s') (h : OKs s) : OKs s' := by
  obtain ⟨Y, nb, ns, ⟨J, a7, a8, a9, b1, b2, b3, n7, n8, n9⟩, hY, hz⟩ := h
  exact ⟨Y, nb, ns, GS_mk (EQ_JV e J) ((e.1 7 (by omega)).trans a7) ((e.1 8 (by omega)).trans a8) ((e.1 9 (by omega)).trans a9) b1 b2 b3, hY, EQ_Z e hz⟩
theorem EQ_RT {Q : Nat → Prop} {σ : Nat → Nat} {c : Nat → Nat → Int32} {l : Nat → Int64} {s s' : Sx} (e : EQs s s') (I : IV s.1) (rt : RT Q σ c l s) : RT Q σ c l s' := by
  have hnb := I.2.2.2.2.2.2.2.2.1.2.2
  have hns := I.2.2.2.2.2.2.2.2.2.1.2.2
  obtain ⟨e1, e2, e3⟩ := e
  obtain ⟨t1, t04, t05, t06, t40, t41, t42, t43, tl, tb, ts⟩ := rt
  refine ⟨fun k hk => ?_, ?_, ?_, ?_, ?_, ?_, ?_, fun h => ?_, fun k hk => ?_, fun b hb => ?_, fun i hi k hk => ?_⟩
  · rw [e1 k (by omega)]
    exact t1 k hk
  · rw [e1 _ (by omega)]
    exact t04
  · rw [e1 _ (by omega)]
    exact t05
  · rw [e1 _ (by omega)]
    exact t06
  · rw [e1 _ (by omega)]
    exact t40
  · rw [e1 _ (by omega)]
    exact t41
  · rw [e1 _ (by omega)]
    exact t42
  · rw [e1 _ (by omega)] at h ⊢
    exact t43 h
  · rw [e3 k hk]
    exact tl k hk
  · rw [e1 8 (by omega)] at hb
    obtain ⟨v1, v2, v3⟩ := tb b hb
    refine ⟨fun k hk => ?_, fun h => ?_, LY_congr v3 (fun y hy => e2 b y (by omega))⟩
    · rw [e1 _ (by omega)]
      exact v1 k hk
    · rw [e1 _ (by omega)]
      exact v2 h
  · rw [e1 9 (by omega)] at hi
    rw [e1 _ (by omega)]
    exact ts i hi k hk

