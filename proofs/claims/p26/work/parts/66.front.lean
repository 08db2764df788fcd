/-! a year: the front, the stakes -/
theorem div_z {a b : Nat} (h : a < b) : a / b = 0 := Nat.div_eq_of_lt h
theorem FRs {u : Sx} {F r P sz rs : Nat} (h10 : u.1 10 = nI F) (hF : F < 2 ^ 31) (h11 : u.1 11 = nI r) (hr : r ≤ 50) (h12 : u.1 12 = nI P) (h5 : u.1 5 = nI sz) (s1 : 1 ≤ sz) (s2 : sz ≤ 1000000) (h6 : u.1 6 = nI rs) : (∀ j, j < 10 ∨ 13 < j → (sF u).1 j = u.1 j) ∧ (sF u).1 10 = nI (F - (if 0 < r then 0 else F / sz) * sz) ∧ (sF u).1 11 = nI (if 0 < r then r - 1 else if F / sz = 0 then 0 else rs) ∧ (sF u).1 12 = nI (P + (if 0 < r then 0 else F / sz)) ∧ (sF u).1 13 = (if (if 0 < r then 0 else F / sz) = 0 then u.1 13 else u.1 7) ∧ (sF u).2.1 = u.2.1 ∧ (∀ k, k ≠ 3 → (sF u).2.2 k = u.2.2 k) ∧ (sF u).2.2 3 = u.2.2 3 + (nI ((if 0 < r then 0 else F / sz) * sz)).toInt64 := by
  have n10 : nt (u.1 10) = F := by rw [h10, nt_nI hF]
  have n11 : nt (u.1 11) = r := by rw [h11, nt_nI (by omega)]
  have n5 : nt (u.1 5) = sz := by rw [h5, nt_nI (by omega)]
  have em : (sF u).1 = fM u.1 := rfl
  have ea : (sF u).2.2 = fA u.1 u.2.2 := rfl
  have z64 : ∀ x : Int64, x + (nI 0).toInt64 = x := fun x => by rw [n64_0, Int64.add_zero]
  rw [em, ea]
  unfold fM fA
  rw [n11, n10, n5]
  by_cases c1 : 0 < r
  · simp only [if_pos c1, Nat.zero_mul, Nat.sub_zero, Nat.add_zero, z64, ↓reduceIte]
    refine ⟨fun j hj => pk_un (by omega), (pk_un (by omega)).trans h10, pk_us, (pk_un (by omega)).trans h12, pk_un (by omega), rfl, fun _ _ => trivial, trivial⟩
  · have r0 : r = 0 := by omega
    by_cases c2 : F < sz
    · have hd : F / sz = 0 := div_z c2
      simp only [if_neg c1, if_pos c2, hd, Nat.zero_mul, Nat.sub_zero, Nat.add_zero, z64, ↓reduceIte]
      refine ⟨fun j hj => trivial, h10, ?_, h12, trivial, rfl, fun _ _ => trivial, trivial⟩
      rw [h11, r0]
    · have hd : 0 < F / sz := Nat.div_pos (by omega) (by omega)
      have hd0 : ¬ F / sz = 0 := by omega
      simp only [if_neg c1, if_neg c2, if_neg hd0]
      refine ⟨fun j hj => ?_, ?_, ?_, ?_, ?_, rfl, fun k hk => pk_uLn hk, pk_uLs⟩
      · rw [pk_un (by omega), pk_un (by omega), pk_un (by omega), pk_un (by omega)]
      · rw [pk_un (by omega), pk_un (by omega), pk_un (by omega), pk_us]
      · rw [pk_us, h6]
      · rw [pk_un (by omega), pk_un (by omega), pk_us, h12, nI_add]
      · rw [pk_un (by omega), pk_us]
def SI (m : Nat → Int32) (Y i : Nat) : Prop := (∃ p, m (74 + 6 * i + 1) = nI p ∧ p < nt (m (14 + 6 * nt (m (74 + 6 * i)) + 1))) ∧ (m (74 + 6 * i + 4) = nI 0 → -(m (74 + 6 * i + 2)) ≤ m (74 + 6 * i + 3)) ∧ (m (74 + 6 * i + 4) = nI 1 → ¬ -(m (74 + 6 * i + 2)) ≤ m (74 + 6 * i + 3)) ∧ (∃ k, k ≤ Y ∧ m (74 + 6 * i + 5) = nI k)
theorem SI_mono {m : Nat → Int32} {Y Y' i : Nat} (h : SI m Y i) (hY : Y ≤ Y') : SI m Y' i := by
  obtain ⟨a, b, c, k, d, e⟩ := h
  exact ⟨a, b, c, k, by omega, e⟩
theorem SI_c {m m' : Nat → Int32} {Y i : Nat} (h : SI m Y i) (hs : ∀ k, k < 6 → m' (74 + 6 * i + k) = m (74 + 6 * i + k)) (hb : m' (14 + 6 * nt (m (74 + 6 * i)) + 1) = m (14 + 6 * nt (m (74 + 6 * i)) + 1)) : SI m' Y i := by
  have e0 : m' (74 + 6 * i) = m (74 + 6 * i) := hs 0 (by omega)
  unfold SI
  rw [e0, hs 1 (by omega), hs 2 (by omega), hs 3 (by omega), hs 4 (by omega), hs 5 (by omega), hb]
  exact h
theorem SI_mk {m : Nat → Int32} {Y i b p y : Nat} {st d ch : Int32} (h0 : m (74 + 6 * i) = nI b) (hb : b < 2 ^ 31) (h1 : m (74 + 6 * i + 1) = nI p) (hp : p < nt (m (14 + 6 * b + 1))) (h2 : m (74 + 6 * i + 2) = d) (h3 : m (74 + 6 * i + 3) = ch) (h4 : m (74 + 6 * i + 4) = st) (c0 : st = nI 0 → -d ≤ ch) (c1 : st = nI 1 → ¬ -d ≤ ch) (h5 : m (74 + 6 * i + 5) = nI y) (hy : y ≤ Y) : SI m Y i := by
  unfold SI
  rw [h0, nt_nI hb, h2, h3, h4]
  exact ⟨⟨p, h1, hp⟩, c0, c1, y, hy, h5⟩
theorem mvW_sp {m : Nat → Int32} {nb : Nat} (hl : ∀ b, b < nb → rg (m (14 + 6 * b + 1)) 100 5000) : ∀ d b X, b + d = nb → X < 2 ^ 31 → ∃ X', (mvW m d b (nI X)).2 = nI X' ∧ ((mvW m d b (nI X)).1 < nb → X' < nt (m (14 + 6 * (mvW m d b (nI X)).1 + 1))) := by
  intro d
  induction d with
  | zero => exact fun b X hb _ => ⟨X, rfl, fun h => absurd (show b < nb from h) (by omega)⟩
  | succ d ih =>
    intro b X hb hX
    obtain ⟨e1, l1', l2'⟩ := hl b (by omega)
    have es : mvW m (d + 1) b (nI X) = if nI X < m (14 + 6 * b + 1) then (b, nI X) else mvW m d (b + 1) (nI X - m (14 + 6 * b + 1)) := rfl
    generalize hlen : nt (m (14 + 6 * b + 1)) = len at e1 l1' l2'
    rw [e1] at es
    by_cases c : X < len
    · have c' : nI X < nI len := by
        rw [nI_ltI (by omega) (by omega)]
        exact c
      rw [if_pos c'] at es
      rw [es]
      exact ⟨X, rfl, fun _ => by
        show X < nt (m (14 + 6 * b + 1))
        omega⟩
    · have c' : ¬ nI X < nI len := by
        rw [nI_ltI (by omega) (by omega)]
        exact c
      rw [if_neg c', nIs (by omega)] at es
      rw [es]
      exact ih (b + 1) (X - len) (by omega) (by omega)
theorem mlcr {p len cr : Nat} (hp : p < 5000) (hl : len ≤ 5000) (hc : cr ≤ 500) : nI p + (nI len * nI cr) / nI 1000 = nI (p + len * cr / 1000) ∧ p + len * cr / 1000 < 2 ^ 31 := by
  have h1 : len * cr ≤ 5000 * 500 := Nat.mul_le_mul hl hc
  rw [pk_mul, nI_d (by omega) (by omega) (by omega), nI_add]
  exact ⟨rfl, by omega⟩
theorem K1_s {K Y nb ns : Nat} {t : Sx} {Y0 : Nat} (g : GS K Y nb ns t) {i : Nat} (hi : i < ns) (h : SI t.1 Y0 i) : SI (sK i t).1 (Y0 + 1) i := by
  by_cases h4 : t.1 (74 + 6 * i + 4) = nI 0
  rotate_left
  · rw [sK_n h4]
    exact SI_mono h (by omega)
  rw [sK_p h4]
  show SI (kM t.1 i) (Y0 + 1) i
  have I := g.1.1
  have hns := g.2.2.2.2.2.2.1
  have hnb := g.2.2.2.2.2.1
  have n8 := g.2.2.2.2.2.2.2.2.1
  have n9 := g.2.2.2.2.2.2.2.2.2
  generalize hm : t.1 = m at *
  obtain ⟨⟨p, hp1, hp2⟩, -, -, y, hy1, hy2⟩ := h
  obtain ⟨hb1, hb2⟩ := I.2.2.2.2.2.2.2.2.2.2.2 i (by omega)
  have hbi := I.2.2.2.2.2.2.2.2.2.2.1
  generalize hbb : nt (m (74 + 6 * i)) = b at hp2 hb1 hb2
  obtain ⟨-, ⟨el, l1', l2'⟩, ⟨ec, -, c2'⟩⟩ := hbi b hb2
  have hm74 : m (74 + 6 * i) = nI b := by
    have := hb1.1
    rw [hbb] at this
    exact this
  have u0 : ∀ j, j < 74 → kU m i j = m j := fun j hj => kU_o (by omega) (by omega)
  have ku : ∀ k, k < 3 ∨ k = 4 → kU m i (74 + 6 * i + k) = m (74 + 6 * i + k) := fun k hk => kU_o (by omega) (by omega)
  have k0 : kU m i (74 + 6 * i) = nI b := (ku 0 (by omega)).trans hm74
  have k1 : kU m i (74 + 6 * i + 1) = nI p := (ku 1 (by omega)).trans hp1
  have k2 := ku 2 (by omega)
  have k4 : kU m i (74 + 6 * i + 4) = nI 0 := (ku 4 (by omega)).trans h4
  have k3 : kU m i (74 + 6 * i + 3) = kC m i := by
    unfold kU
    exact pk_us
  have k5 : kU m i (74 + 6 * i + 5) = nI (y + 1) := by
    unfold kU
    rw [pk_un (by omega), pk_us, hy2, nI_add]
  have kb : nt (kU m i (74 + 6 * i)) = b := by rw [k0, nt_nI (by omega)]
  have kl : kU m i (14 + 6 * b + 1) = m (14 + 6 * b + 1) := u0 _ (by omega)
  unfold kM
  by_cases c : -(m (74 + 6 * i + 2)) ≤ kC m i
  · rw [if_pos c]
    have hl : ∀ b', b' < nb → rg (kU m i (14 + 6 * b' + 1)) 100 5000 := fun b' hb' => by
      rw [u0 _ (by omega)]
      exact (hbi b' (by omega)).2.1
    have hcr : kU m i (14 + 6 * b + 2) = nI (nt (m (14 + 6 * b + 2))) := (u0 _ (by omega)).trans ec
    have hle : kU m i (14 + 6 * b + 1) = nI (nt (m (14 + 6 * b + 1))) := kl.trans el
    obtain ⟨x1, x2⟩ := mlcr (p := p) (show p < 5000 by omega) l2' c2'
    have hR : mvR (kU m i) i = mvW (kU m i) (nb - b) b (nI (p + nt (m (14 + 6 * b + 1)) * nt (m (14 + 6 * b + 2)) / 1000)) := by
      unfold mvR
      rw [u0 8 (by omega), n8, kb, k1, hle, hcr, x1]
    obtain ⟨X', y1, y2⟩ := mvW_sp hl (nb - b) b _ (by omega) x2
    have y3 := mvW_le (kU m i) (nb - b) b (nI (p + nt (m (14 + 6 * b + 1)) * nt (m (14 + 6 * b + 2)) / 1000))
    rw [← hR] at y1 y2 y3
    generalize mvR (kU m i) i = rr at y1 y2 y3
    unfold mvM
    rw [u0 8 (by omega), n8]
    by_cases c2 : rr.1 = nb
    · rw [if_pos c2]
      have o : ∀ k, k ≠ 74 + 6 * i + 4 → upd (kU m i) (74 + 6 * i + 4) (nI 2) k = kU m i k := fun k hk => pk_un hk
      exact SI_mk ((o _ (by omega)).trans k0) (by omega) ((o _ (by omega)).trans k1) (by rw [o _ (by omega), kl]; exact hp2) rfl rfl pk_us (fun e => absurd e (by decide)) (fun e => absurd e (by decide)) ((o _ (by omega)).trans k5) (by omega)
    · rw [if_neg c2]
      have hrb : rr.1 < nb := by omega
      have o : ∀ k, k ≠ 74 + 6 * i → k ≠ 74 + 6 * i + 1 → upd (upd (kU m i) (74 + 6 * i) (nI rr.1)) (74 + 6 * i + 1) rr.2 k = kU m i k := fun k hk hk1 => by rw [pk_un hk1, pk_un hk]
      have o0 : upd (upd (kU m i) (74 + 6 * i) (nI rr.1)) (74 + 6 * i + 1) rr.2 (74 + 6 * i) = nI rr.1 := by rw [pk_un (by omega), pk_us]
      exact SI_mk o0 (by omega) (pk_us.trans y1) (by rw [o _ (by omega) (by omega)]; exact y2 hrb) ((o _ (by omega) (by omega)).trans k2) ((o _ (by omega) (by omega)).trans k3) ((o _ (by omega) (by omega)).trans k4) (fun _ => c) (fun e => absurd e (by decide)) ((o _ (by omega) (by omega)).trans k5) (by omega)
  · rw [if_neg c]
    have o : ∀ k, k ≠ 74 + 6 * i + 4 → upd (kU m i) (74 + 6 * i + 4) (nI 1) k = kU m i k := fun k hk => pk_un hk
    exact SI_mk ((o _ (by omega)).trans k0) (by omega) ((o _ (by omega)).trans k1) (by rw [o _ (by omega), kl]; exact hp2) ((o _ (by omega)).trans k2) ((o _ (by omega)).trans k3) pk_us (fun e => absurd e (by decide)) (fun _ => c) ((o _ (by omega)).trans k5) (by omega)
theorem K1_o (i : Nat) (t : Sx) {j : Nat} (h : j < 74 + 6 * i ∨ 74 + 6 * i + 5 < j) : (sK i t).1 j = t.1 j := by
  by_cases h4 : t.1 (74 + 6 * i + 4) = nI 0
  · rw [sK_p h4]
    exact kM_s h
  · rw [sK_n h4]
theorem K1_2 (i : Nat) (t : Sx) : (sK i t).2 = t.2 := rfl
theorem KX {K Y nb ns Y0 : Nat} {u : Sx} (g : GS K Y nb ns u) (h : ∀ i, i < ns → SI u.1 Y0 i) : ∀ k, k ≤ ns → (∀ j, (∀ i, i < k → j < 74 + 6 * i ∨ 74 + 6 * i + 5 < j) → (itU sK k u).1 j = u.1 j) ∧ (∀ i, i < k → SI (itU sK k u).1 (Y0 + 1) i) ∧ (itU sK k u).2 = u.2 := by
  have hnb := g.2.2.2.2.2.1
  intro k
  induction k with
  | zero => exact fun _ => ⟨fun _ _ => rfl, fun i hi => absurd hi (by omega), rfl⟩
  | succ k ih =>
    intro hk
    obtain ⟨a1, a2, a3⟩ := ih (by omega)
    have gt := GS_KU g k (by omega)
    have et : itU sK (k + 1) u = sK k (itU sK k u) := rfl
    rw [et]
    generalize itU sK k u = t at *
    have nbt := gt.2.2.2.2.2.2.2.2.1
    have nst := gt.2.2.2.2.2.2.2.2.2
    have bnd : ∀ i, i < ns → nt (t.1 (74 + 6 * i)) < 10 := fun i hi => by
      have := (gt.1.1.2.2.2.2.2.2.2.2.2.2.2 i (by omega)).2
      omega
    have bndu : ∀ i, i < ns → nt (u.1 (74 + 6 * i)) < 10 := fun i hi => by
      have := (g.1.1.2.2.2.2.2.2.2.2.2.2.2 i (by rw [g.2.2.2.2.2.2.2.2.2]; exact hi)).2
      have := g.2.2.2.2.2.2.2.2.1
      omega
    refine ⟨fun j hj => ?_, fun i hi => ?_, (K1_2 k t).trans a3⟩
    · rw [K1_o k t (hj k (by omega))]
      exact a1 j (fun i hi => hj i (by omega))
    · by_cases h0 : i = k
      · subst h0
        refine K1_s gt (by omega) ?_
        have hb := bndu i (by omega)
        exact SI_c (h i (by omega)) (fun q hq => a1 _ (fun i' hi' => by omega)) (a1 _ (fun i' hi' => by omega))
      · have hb := bnd i (by omega)
        exact SI_c (a2 i (by omega)) (fun q hq => K1_o k t (by omega)) (K1_o k t (by omega))
