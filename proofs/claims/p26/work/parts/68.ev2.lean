/-! what holds besides: behind the other changes -/
theorem EV_c {s s' : Sx} (I : IV s.1) (hm : ∀ j, 7 ≤ j → (∀ b, b < 10 → j ≠ 14 + 6 * b + 2) → s'.1 j = s.1 j) (h2 : s'.2 = s.2) (e : EV s) : EV s' := by
  have hnb := I.2.2.2.2.2.2.2.2.1.2.2
  have hns := I.2.2.2.2.2.2.2.2.2.1.2.2
  obtain ⟨e1, e2, e3, e4, e5, e6⟩ := e
  have k7 : s'.1 7 = s.1 7 := hm 7 (by omega) (fun b _ => by omega)
  have k8 : s'.1 8 = s.1 8 := hm 8 (by omega) (fun b _ => by omega)
  have k9 : s'.1 9 = s.1 9 := hm 9 (by omega) (fun b _ => by omega)
  have k10 : s'.1 10 = s.1 10 := hm 10 (by omega) (fun b _ => by omega)
  have k12 : s'.1 12 = s.1 12 := hm 12 (by omega) (fun b _ => by omega)
  have k13 : s'.1 13 = s.1 13 := hm 13 (by omega) (fun b _ => by omega)
  unfold EV
  rw [k7, k8, k9, k10, k12, k13, h2]
  refine ⟨fun b hb => ?_, fun b hb => ?_, fun b hb => ?_, e4, fun i hi => ?_, e6⟩
  · rw [hm _ (by omega) (fun b' _ => by omega), hm _ (by omega) (fun b' _ => by omega)]
    exact e1 b hb
  · rw [hm _ (by omega) (fun b' _ => by omega)]
    exact e2 b hb
  · rw [hm _ (by omega) (fun b' _ => by omega), hm _ (by omega) (fun b' _ => by omega)]
    exact e3 b hb
  · have hb := (I.2.2.2.2.2.2.2.2.2.2.2 i hi).2
    exact SI_c (e5 i hi) (fun q hq => hm _ (by omega) (fun b' _ => by omega)) (hm _ (by omega) (fun b' _ => by omega))
theorem EV_upd {s : Sx} (I : IV s.1) {k : Nat} (hk : k < 7 ∨ ∃ b, b < 10 ∧ k = 14 + 6 * b + 2) (v : Int32) (e : EV s) : EV (upd s.1 k v, s.2.1, s.2.2) := by
  refine EV_c I (fun j h7 hj => pk_un ?_) rfl e
  rcases hk with hk | ⟨b, hb, rfl⟩
  · omega
  · exact hj b hb
theorem tot_B (f : Nat → Nat → Nat) (Y nb v : Nat) : tot (fset f nb (rB Y v)) Y (nb + 1) = tot f Y nb + v := by
  unfold tot
  rw [sm_s]
  have h1 : sm (fun b => sm (fset f nb (rB Y v) b) (Y + 1)) nb = sm (fun b => sm (f b) (Y + 1)) nb := sm_congr (fun b hb => by rw [fset_n _ _ (by omega)])
  rw [h1, fset_s, rB_sum]
theorem j5 (a0 a1 a2 a3 V X Z : Int64) (h1 : a0 + a1 - a2 - a3 = X) (h2 : Z = X + V) : (a0 + V) + a1 - a2 - a3 = Z := by
  subst h1
  rw [h2]
  grind
theorem EV_B {Y nb ns : Nat} {s : Sx} (g : GS (1000000 * nb + 300000 * Y) Y nb ns s) (hY : Y ≤ 500) (hn : nb < 10) {x y z v : Nat} (hx : x ≤ 5000) (hv : v ≤ 1000000) (hlow : nb = 0 ∨ nI x < s.1 (14 + 6 * (nb - 1) + 0)) (e : EV s) : EV (sB (nI x) (nI y) (nI z) v s) := by
  have n7 := g.2.2.2.2.2.2.2.1
  have n8 := g.2.2.2.2.2.2.2.2.1
  have n9 := g.2.2.2.2.2.2.2.2.2
  have h8 := g.2.2.1
  have hns := g.2.2.2.2.2.2.1
  have I := g.1.1
  obtain ⟨F, m10, hF⟩ := GS_tot g
  obtain ⟨e1, e2, e3, e4, e5, e6⟩ := e
  rw [n8] at e1 e2 e3
  rw [n9, n7] at e5
  rw [n7, n8] at e4
  have em : (sB (nI x) (nI y) (nI z) v s).1 = mB s.1 nb (nI x) (nI y) (nI z) := by
    show mB s.1 (nt (s.1 8)) _ _ _ = _
    rw [n8]
  have ef : (sB (nI x) (nI y) (nI z) v s).2.1 = fset s.2.1 nb (rB Y v) := by
    show fset s.2.1 (nt (s.1 8)) (rB (nt (s.1 7)) v) = _
    rw [n8, n7]
  have ea : (sB (nI x) (nI y) (nI z) v s).2.2 = vp_updL s.2.2 0 (s.2.2 0 + (nI v).toInt64) := rfl
  have o : ∀ k, k ≠ 8 → (k < 14 + 6 * nb ∨ 14 + 6 * nb + 5 < k) → mB s.1 nb (nI x) (nI y) (nI z) k = s.1 k := fun k h1 h2 => mB_o h1 h2
  have k8 : nt (mB s.1 nb (nI x) (nI y) (nI z) 8) = nb + 1 := by rw [mB_8, h8, nI_add, nt_nI (by omega)]
  have b0 : mB s.1 nb (nI x) (nI y) (nI z) (14 + 6 * nb) = nI x := by
    unfold mB
    rw [pk_un (by omega), pk_un (by omega), pk_un (by omega), pk_un (by omega), pk_un (by omega)]
    exact pk_us
  have b3 : mB s.1 nb (nI x) (nI y) (nI z) (14 + 6 * nb + 3) = nI 0 := by
    unfold mB
    rw [pk_un (by omega), pk_un (by omega), pk_us]
  have b5 : mB s.1 nb (nI x) (nI y) (nI z) (14 + 6 * nb + 5) = nI 0 := by
    unfold mB
    rw [pk_us]
  unfold EV
  rw [em, ef, ea, k8, o 7 (by omega) (by omega), o 9 (by omega) (by omega), o 10 (by omega) (by omega), o 12 (by omega) (by omega), o 13 (by omega) (by omega), n7, n9]
  refine ⟨fun b hb => ?_, fun b hb => ?_, fun b hb => ?_, ?_, fun i hi => ?_, e6⟩
  · by_cases h : b + 1 = nb
    · subst h
      rw [b0, o _ (by omega) (by omega), nt_nI (by omega)]
      rcases hlow with h0 | h0
      · omega
      · obtain ⟨q1, -, q2⟩ := (I.2.2.2.2.2.2.2.2.2.2.1 b (by omega)).1
        rw [Nat.add_sub_cancel, Nat.add_zero, q1, nI_ltI (by omega) (by omega)] at h0
        exact h0
    · rw [o _ (by omega) (by omega), o _ (by omega) (by omega)]
      exact e1 b (by omega)
  · by_cases h : b = nb
    · subst h
      exact ⟨0, by omega, b3⟩
    · rw [o _ (by omega) (by omega)]
      exact e2 b (by omega)
  · by_cases h : b + 1 = nb
    · subst h
      exact .inr b5
    · rw [o _ (by omega) (by omega), o _ (by omega) (by omega)]
      exact e3 b (by omega)
  · rw [tot_B, pk_uLs, pk_uLn (by omega), pk_uLn (by omega), pk_uLn (by omega)]
    refine j5 _ _ _ _ _ _ _ e4 ?_
    rw [m10, nI_add, nI_add, J_add (by omega)]
    congr 2
    omega
  · have hb := (I.2.2.2.2.2.2.2.2.2.2.2 i (by omega)).2
    exact SI_c (e5 i hi) (fun q hq => o _ (by omega) (by omega)) (o _ (by omega) (by omega))
theorem neg_le0 {d : Nat} (h : d ≤ 10000) : -(nI d) ≤ nI 0 := by
  rw [Int32.le_iff_toInt_le, Int32.toInt_neg, nI_toInt (by omega), nI_toInt (by omega), bm32 (by omega) (by omega)]
  omega
theorem EV_S {Y nb ns : Nat} {s : Sx} (g : GS (1000000 * nb + 300000 * Y) Y nb ns s) (hY : Y ≤ 500) (hn : ns < 6) {b p d : Nat} (hb : b < nb) (hp : p < nt (s.1 (14 + 6 * b + 1))) (hd : d ≤ 10000) (e : EV s) : EV (sS (nI b) (nI p) (nI d) s) := by
  have n7 := g.2.2.2.2.2.2.2.1
  have n8 := g.2.2.2.2.2.2.2.2.1
  have n9 := g.2.2.2.2.2.2.2.2.2
  have h9 := g.2.2.2.1
  have hnb := g.2.2.2.2.2.1
  have I := g.1.1
  obtain ⟨e1, e2, e3, e4, e5, e6⟩ := e
  rw [n8] at e1 e2 e3
  rw [n9, n7] at e5
  have em : (sS (nI b) (nI p) (nI d) s).1 = mS s.1 ns (nI b) (nI p) (nI d) := by
    show mS s.1 (nt (s.1 9)) _ _ _ = _
    rw [n9]
  have e22 : (sS (nI b) (nI p) (nI d) s).2 = s.2 := rfl
  have o : ∀ k, k ≠ 9 → (k < 74 + 6 * ns ∨ 74 + 6 * ns + 5 < k) → mS s.1 ns (nI b) (nI p) (nI d) k = s.1 k := fun k h1 h2 => mS_o h1 h2
  have k9 : nt (mS s.1 ns (nI b) (nI p) (nI d) 9) = ns + 1 := by rw [mS_9, h9, nI_add, nt_nI (by omega)]
  unfold EV
  rw [em, e22, k9, o 7 (by omega) (by omega), o 8 (by omega) (by omega), o 10 (by omega) (by omega), o 12 (by omega) (by omega), o 13 (by omega) (by omega), n8]
  refine ⟨fun b hb => ?_, fun b hb => ?_, fun b hb => ?_, ?_, fun i hi => ?_, e6⟩
  · rw [o _ (by omega) (by omega), o _ (by omega) (by omega)]
    exact e1 b hb
  · rw [o _ (by omega) (by omega)]
    exact e2 b hb
  · rw [o _ (by omega) (by omega), o _ (by omega) (by omega)]
    exact e3 b hb
  · rw [n8] at e4
    exact e4
  · rw [n7]
    by_cases h : i = ns
    · subst h
      have m0 : mS s.1 i (nI b) (nI p) (nI d) (74 + 6 * i) = nI b := by
        unfold mS
        rw [pk_un (by omega), pk_un (by omega), pk_un (by omega), pk_un (by omega), pk_un (by omega)]
        exact pk_us
      have m1 : mS s.1 i (nI b) (nI p) (nI d) (74 + 6 * i + 1) = nI p := by
        unfold mS
        rw [pk_un (by omega), pk_un (by omega), pk_un (by omega), pk_un (by omega), pk_us]
      have m2 : mS s.1 i (nI b) (nI p) (nI d) (74 + 6 * i + 2) = nI d := by
        unfold mS
        rw [pk_un (by omega), pk_un (by omega), pk_un (by omega), pk_us]
      have m3 : mS s.1 i (nI b) (nI p) (nI d) (74 + 6 * i + 3) = nI 0 := by
        unfold mS
        rw [pk_un (by omega), pk_un (by omega), pk_us]
      have m4 : mS s.1 i (nI b) (nI p) (nI d) (74 + 6 * i + 4) = nI 0 := by
        unfold mS
        rw [pk_un (by omega), pk_us]
      have m5 : mS s.1 i (nI b) (nI p) (nI d) (74 + 6 * i + 5) = nI 0 := by
        unfold mS
        rw [pk_us]
      exact SI_mk m0 (by omega) m1 (by rw [o _ (by omega) (by omega)]; exact hp) m2 m3 m4 (fun _ => neg_le0 hd) (fun e => absurd e (by decide)) m5 (by omega)
    · have hb' := (I.2.2.2.2.2.2.2.2.2.2.2 i (by omega)).2
      exact SI_c (e5 i (by omega)) (fun q hq => o _ (by omega) (by omega)) (o _ (by omega) (by omega))
theorem pM_s {m : Nat → Int32} {ns i j k : Nat} (hj : j < ns - 1) (hij : i ≤ j) (hk : k < 6) : pM m ns i (74 + 6 * j + k) = m (74 + 6 * (j + 1) + k) := by
  unfold pM pX
  rw [if_pos (by omega), pk_un (by omega)]
  congr 1
  omega
theorem pM_l {m : Nat → Int32} {ns i j k : Nat} (hij : j < i) (hk : k < 6) : pM m ns i (74 + 6 * j + k) = m (74 + 6 * j + k) := by
  unfold pM pX
  rw [if_neg (by omega), pk_un (by omega)]
theorem pM_9 {m : Nat → Int32} {ns i : Nat} : pM m ns i 9 = nI (ns - 1) := by
  unfold pM pX
  rw [if_neg (by omega), pk_us]
theorem EV_P {Y nb ns : Nat} {s : Sx} (g : GS (1000000 * nb + 300000 * Y) Y nb ns s) (hY : Y ≤ 500) {i : Nat} (hi : i < ns) (e : EV s) : EV (sP i s) := by
  have n7 := g.2.2.2.2.2.2.2.1
  have n8 := g.2.2.2.2.2.2.2.2.1
  have n9 := g.2.2.2.2.2.2.2.2.2
  have hnb := g.2.2.2.2.2.1
  have hns := g.2.2.2.2.2.2.1
  have I := g.1.1
  obtain ⟨e1, e2, e3, e4, e5, e6⟩ := e
  rw [n8] at e1 e2 e3
  rw [n9, n7] at e5
  have em : (sP i s).1 = pM s.1 ns i := by
    show pM s.1 (nt (s.1 9)) i = _
    rw [n9]
  have e22 : (sP i s).2 = s.2 := rfl
  have o : ∀ k, k ≠ 9 → k < 74 → pM s.1 ns i k = s.1 k := fun k h1 h2 => pM_o h1 h2
  have k9 : nt (pM s.1 ns i 9) = ns - 1 := by rw [pM_9, nt_nI (by omega)]
  unfold EV
  rw [em, e22, k9, o 7 (by omega) (by omega), o 8 (by omega) (by omega), o 10 (by omega) (by omega), o 12 (by omega) (by omega), o 13 (by omega) (by omega), n8]
  refine ⟨fun b hb => ?_, fun b hb => ?_, fun b hb => ?_, ?_, fun j hj => ?_, e6⟩
  · rw [o _ (by omega) (by omega), o _ (by omega) (by omega)]
    exact e1 b hb
  · rw [o _ (by omega) (by omega)]
    exact e2 b hb
  · rw [o _ (by omega) (by omega), o _ (by omega) (by omega)]
    exact e3 b hb
  · rw [n8] at e4
    exact e4
  · rw [n7]
    by_cases h : j < i
    · have hb' := (I.2.2.2.2.2.2.2.2.2.2.2 j (by omega)).2
      exact SI_c (e5 j (by omega)) (fun q hq => pM_l h hq) (o _ (by omega) (by omega))
    · have hb' := (I.2.2.2.2.2.2.2.2.2.2.2 (j + 1) (by omega)).2
      have ps := fun k (hk : k < 6) => pM_s (m := s.1) (i := i) hj (Nat.le_of_not_lt h) hk
      obtain ⟨⟨p, p1, p2⟩, c0, c1, y, hy, c5⟩ := e5 (j + 1) (by omega)
      have hb1 := (I.2.2.2.2.2.2.2.2.2.2.2 (j + 1) (by omega)).1.1
      exact SI_mk (b := nt (s.1 (74 + 6 * (j + 1)))) ((ps 0 (by omega)).trans hb1) (by omega) ((ps 1 (by omega)).trans p1) (by rw [o _ (by omega) (by omega)]; exact p2) (ps 2 (by omega)) (ps 3 (by omega)) (ps 4 (by omega)) c0 c1 ((ps 5 (by omega)).trans c5) hy
theorem EV_Ys {Y nb ns : Nat} {s : Sx} (g : GS (1000000 * nb + 300000 * Y) Y nb ns s) (hY : Y ≤ 500) (hn : 0 < nb) (e : EV s) : ∀ n, n ≤ 100 → EV (sYs n s) := by
  have hnb := g.2.2.2.2.2.1
  intro n
  induction n with
  | zero => exact fun _ => e
  | succ n ih =>
    intro h
    exact EV_Y (GS_Ys g n (by omega) (by omega)) (by omega) hn (by omega) (ih (by omega))
/-- the world with all that -/
def WE (ad : Nat → Nat) (T : Ty) (M : Mm) (R : Rm) (s : Sx) (n : Nat) (h : Nat → Sx) : Prop := WQ ad T M R s n h ∧ EV s ∧ ∀ k, k < n → EV (h k)
theorem EV_hp {s : Sx} {n : Nat} {h : Nat → Sx} (hn : n ≤ 4) (e : EV s) (eh : ∀ k, k < n → EV (h k)) : ∀ k, k < np n → EV (hp n h s k) := by
  intro k hk
  unfold np at hk
  unfold hp
  by_cases h4 : n = 4
  · rw [if_pos h4] at hk ⊢
    by_cases h3 : k = 3
    · rw [if_pos h3]
      exact e
    · rw [if_neg h3]
      exact eh _ (by omega)
  · rw [if_neg h4] at hk ⊢
    by_cases h3 : k = n
    · rw [if_pos h3]
      exact e
    · rw [if_neg h3]
      exact eh _ (by omega)
theorem WE_mk {ad : Nat → Nat} {T : Ty} {M M' : Mm} {R R' : Rm} {s s' : Sx} {n : Nat} {h : Nat → Sx} (w : WE ad T M R s n h) (w' : WQ ad T M' R' s' (np n) (hp n h s)) (e' : EV s') : WE ad T M' R' s' (np n) (hp n h s) := ⟨w', e', EV_hp (WQ_n w.1).1 w.2.1 w.2.2⟩
theorem hp_last {n : Nat} (hn : n ≤ 4) (h : Nat → Sx) (s : Sx) : ∃ m, np n = m + 1 ∧ hp n h s m = s ∧ m < 4 := by
  unfold np hp
  by_cases h4 : n = 4
  · exact ⟨3, by rw [if_pos h4], by rw [if_pos h4, if_pos rfl], by omega⟩
  · exact ⟨n, by rw [if_neg h4], by rw [if_neg h4, if_pos rfl], by omega⟩
/-- a change, then back -/
theorem c_back {ad : Nat → Nat} {T : Ty} {M : Mm} {R : Rm} {s s' : Sx} {n : Nat} {h : Nat → Sx} (hn : n ≤ 4) (w' : WE ad T M R s' (np n) (hp n h s)) : ∃ m h' M' R', fn_X6_undo T (ad 0) M R = some (nI m, M', R') ∧ m < 4 ∧ WE ad T M' R' s m h' := by
  obtain ⟨m, e1, e2, e3⟩ := hp_last hn h s
  obtain ⟨w1, w2, w3⟩ := w'
  rw [e1] at w1 w3
  obtain ⟨M', R', p1, p2⟩ := c_undo w1
  have ev := w3 m (by omega)
  rw [e2] at p2 ev
  exact ⟨m, hp n h s, M', R', p1, e3, p2, ev, fun k hk => w3 k (by omega)⟩
