/-! the reference's year -/
abbrev Sx : Type := (Nat → Int32) × (Nat → Nat → Nat) × (Nat → Int64)
def sW (b : Nat) (s : Sx) : Sx := (upd (wM s.1 s.2.1 b) (14 + 6 * b + 5) (nI 0), wF s.1 s.2.1 b, wA s.1 s.2.1 s.2.2 b)
def sG (b : Nat) (s : Sx) : Sx := (gM s.1 s.2.1 b, gF s.1 s.2.1 b, s.2.2)
def sF (s : Sx) : Sx := (fM s.1, s.2.1, fA s.1 s.2.2)
def sK (i : Nat) (s : Sx) : Sx := (if s.1 (74 + 6 * i + 4) = nI 0 then kM s.1 i else s.1, s.2.1, s.2.2)
def sI0 (s : Sx) : Sx := (upd s.1 7 (s.1 7 + nI 1), s.2.1, s.2.2)
def itU (g : Nat → Sx → Sx) : Nat → Sx → Sx
  | 0, s => s
  | n + 1, s => g n (itU g n s)
def itD (g : Nat → Sx → Sx) : Nat → Sx → Sx
  | 0, s => s
  | n + 1, s => itD g n (g n s)
def GS (K Y nb ns : Nat) (s : Sx) : Prop := JV K s.1 s.2.1 ∧ s.1 7 = nI Y ∧ s.1 8 = nI nb ∧ s.1 9 = nI ns ∧ Y ≤ 800 ∧ nb ≤ 10 ∧ ns ≤ 6 ∧ nt (s.1 7) = Y ∧ nt (s.1 8) = nb ∧ nt (s.1 9) = ns
theorem GS_mk {K Y nb ns : Nat} {s : Sx} (J : JV K s.1 s.2.1) (h7 : s.1 7 = nI Y) (h8 : s.1 8 = nI nb) (h9 : s.1 9 = nI ns) (a : Y ≤ 800) (b : nb ≤ 10) (c : ns ≤ 6) : GS K Y nb ns s := ⟨J, h7, h8, h9, a, b, c, by rw [h7, nt_nI (by omega)], by rw [h8, nt_nI (by omega)], by rw [h9, nt_nI (by omega)]⟩
theorem GS_of {K : Nat} {s : Sx} (J : JV K s.1 s.2.1) : ∃ Y nb ns, GS K Y nb ns s := by
  obtain ⟨Y, hY, -, hY8⟩ := rg_get J.1.2.2.2.2.2.2.2.1
  obtain ⟨nb, hnb, -, hnb10⟩ := rg_get J.1.2.2.2.2.2.2.2.2.1
  obtain ⟨ns, hns, -, hns6⟩ := rg_get J.1.2.2.2.2.2.2.2.2.2.1
  exact ⟨Y, nb, ns, GS_mk J hY hnb hns hY8 hnb10 hns6⟩
theorem GS_mono {K K' Y nb ns : Nat} {s : Sx} (g : GS K Y nb ns s) (h : K ≤ K') : GS K' Y nb ns s := ⟨JV_mono g.1 h, g.2⟩
theorem GS_W {K Y nb ns : Nat} {s : Sx} (g : GS K Y nb ns s) {b : Nat} (hb : b < nb) : GS (K + 30000) Y nb ns (sW b s) := by
  obtain ⟨J, h7, h8, h9, a, hnb, c, n7, n8, n9⟩ := g
  have e : ∀ k, k < 14 → (sW b s).1 k = s.1 k := fun k h => by
    show upd (wM s.1 s.2.1 b) (14 + 6 * b + 5) (nI 0) k = _
    unfold wM
    rw [pk_un (by omega), pk_un (by omega)]
  exact GS_mk (JV_W J (by rw [n8]; exact hb)) (by rw [e _ (by omega)]; exact h7) (by rw [e _ (by omega)]; exact h8) (by rw [e _ (by omega)]; exact h9) a hnb c
theorem GS_WU {K Y nb ns : Nat} {s : Sx} (g : GS K Y nb ns s) : ∀ k, k ≤ nb → GS (K + 30000 * k) Y nb ns (itU sW k s) := by
  intro k
  induction k with
  | zero => exact fun _ => g
  | succ k ih =>
    intro h
    have h1 := GS_W (ih (by omega)) (show k < nb by omega)
    exact GS_mono h1 (by omega)
theorem GS_G {K Y nb ns : Nat} {s : Sx} (g : GS K Y nb ns s) {b : Nat} (hb : b < nb) : GS K Y nb ns (sG b s) := by
  obtain ⟨J, h7, h8, h9, a, hnb, c, n7, n8, n9⟩ := g
  have e : ∀ k, k < 10 → (sG b s).1 k = s.1 k := fun k h => by
    show gM s.1 s.2.1 b k = _
    unfold gM
    split <;> rw [pk_un (by omega), pk_un (by omega)]
  exact GS_mk (JV_G J (by rw [n8]; exact hb)) (by rw [e _ (by omega)]; exact h7) (by rw [e _ (by omega)]; exact h8) (by rw [e _ (by omega)]; exact h9) a hnb c
theorem GS_GD {K Y nb ns : Nat} : ∀ (k : Nat) (s : Sx), GS K Y nb ns s → k ≤ nb → GS K Y nb ns (itD sG k s) := by
  intro k
  induction k with
  | zero => exact fun s g _ => g
  | succ k ih => exact fun s g h => ih _ (GS_G g (by omega)) (by omega)
theorem GS_F {K Y nb ns : Nat} {s : Sx} (g : GS K Y nb ns s) (hK : K < 2 ^ 31) : GS K Y nb ns (sF s) := by
  obtain ⟨J, h7, h8, h9, a, hnb, c, n7, n8, n9⟩ := g
  have e : ∀ k, k < 10 → (sF s).1 k = s.1 k := fun k h => by
    show fM s.1 k = _
    unfold fM
    split
    · rw [pk_un (by omega)]
    · split
      · rfl
      · rw [pk_un (by omega), pk_un (by omega), pk_un (by omega), pk_un (by omega)]
  exact GS_mk (JV_F J hK) (by rw [e _ (by omega)]; exact h7) (by rw [e _ (by omega)]; exact h8) (by rw [e _ (by omega)]; exact h9) a hnb c
theorem sK_p {i : Nat} {s : Sx} (h0 : s.1 (74 + 6 * i + 4) = nI 0) : sK i s = (kM s.1 i, s.2.1, s.2.2) := by
  unfold sK
  rw [if_pos h0]
theorem sK_n {i : Nat} {s : Sx} (h0 : ¬ s.1 (74 + 6 * i + 4) = nI 0) : sK i s = s := by
  unfold sK
  rw [if_neg h0]
theorem GS_K {K Y nb ns : Nat} {s : Sx} (g : GS K Y nb ns s) {i : Nat} (hi : i < ns) : GS K Y nb ns (sK i s) := by
  by_cases h0 : s.1 (74 + 6 * i + 4) = nI 0
  · rw [sK_p h0]
    obtain ⟨J, h7, h8, h9, a, hnb, c, n7, n8, n9⟩ := g
    exact GS_mk (JV_K J (by rw [n9]; exact hi)) ((kM_o (by omega)).trans h7) ((kM_o (by omega)).trans h8) ((kM_o (by omega)).trans h9) a hnb c
  · rw [sK_n h0]
    exact g
theorem GS_KU {K Y nb ns : Nat} {s : Sx} (g : GS K Y nb ns s) : ∀ k, k ≤ ns → GS K Y nb ns (itU sK k s) := by
  intro k
  induction k with
  | zero => exact fun _ => g
  | succ k ih => exact fun h => GS_K (ih (by omega)) (by omega)
theorem GS_I0 {K Y nb ns : Nat} {s : Sx} (g : GS K Y nb ns s) (hY : Y < 800) : GS K (Y + 1) nb ns (sI0 s) := by
  obtain ⟨J, h7, h8, h9, a, hnb, c, n7, n8, n9⟩ := g
  have e : ∀ k, k ≠ 7 → (sI0 s).1 k = s.1 k := fun k h => pk_un h
  have e7 : (sI0 s).1 7 = nI (Y + 1) := by
    show upd s.1 7 (s.1 7 + nI 1) 7 = _
    rw [pk_us, h7, nI_add]
  refine GS_mk ?_ e7 ((e 8 (by omega)).trans h8) ((e 9 (by omega)).trans h9) (by omega) hnb c
  obtain ⟨I, ⟨F, P, r, a1, a2, a3, a4, a5, a6, a7⟩, z, q⟩ := J
  have n7' : nt ((sI0 s).1 7) = Y + 1 := by rw [e7, nt_nI (by omega)]
  rw [n7, n8] at z a5
  refine ⟨?_, ⟨F, P, r, ?_, ?_, ?_, a4, ?_, ?_, ?_⟩, ?_, ?_⟩
  · unfold IV
    rw [e7, e 0 (by omega), e 1 (by omega), e 2 (by omega), e 3 (by omega), e 4 (by omega), e 5 (by omega), e 6 (by omega), e 8 (by omega), e 9 (by omega)]
    obtain ⟨i0, i1, i2, i3, i4, i5, i6, i7, i8, i9, ib, is⟩ := I
    refine ⟨i0, i1, i2, i3, i4, i5, i6, rg_nI (by omega) (by omega) (by omega), i8, i9, fun b' hb' => ?_, fun s' hs' => ?_⟩
    · rw [e _ (by omega), e _ (by omega), e _ (by omega)]
      exact ib b' hb'
    · rw [e _ (by omega)]
      exact is s' hs'
  · rw [e _ (by omega)]
    exact a1
  · rw [e _ (by omega)]
    exact a2
  · rw [e _ (by omega)]
    exact a3
  · rw [n7', e 8 (by omega), n8]
    have : tot (sI0 s).2.1 (Y + 1) nb = tot s.2.1 Y nb := by
      show tot s.2.1 (Y + 1) nb = _
      exact sm_congr (fun b hb => sm_tail (by omega) (fun y h1 h2 => z b y hb (by omega)))
    omega
  · rw [e _ (by omega)]
    exact a6
  · rw [e _ (by omega)]
    exact a7
  · rw [n7', e 8 (by omega), n8]
    exact fun b y h1 h2 => z b y h1 (by omega)
  · rw [e _ (by omega)]
    exact q
def sY (s : Sx) : Sx := itU sK (nt (s.1 9)) (sF (itD sG (nt (s.1 8)) (itU sW (nt (s.1 8)) (sI0 s))))
theorem GS_Y {K Y nb ns : Nat} {s : Sx} (g : GS K Y nb ns s) (hY : Y < 800) (hK : K < 2 ^ 30) : GS (K + 300000) (Y + 1) nb ns (sY s) := by
  unfold sY
  rw [g.2.2.2.2.2.2.2.2.1, g.2.2.2.2.2.2.2.2.2]
  have h10 := g.2.2.2.2.2.1
  have g1 := GS_WU (GS_I0 g hY) nb (Nat.le_refl _)
  have g2 := GS_F (GS_GD nb _ g1 (Nat.le_refl _)) (by omega)
  exact GS_mono (GS_KU g2 ns (Nat.le_refl _)) (by omega)
def sYs : Nat → Sx → Sx
  | 0, s => s
  | n + 1, s => sY (sYs n s)
theorem GS_Ys {K Y nb ns : Nat} {s : Sx} (g : GS K Y nb ns s) : ∀ k, Y + k ≤ 800 → K + 300000 * k < 2 ^ 30 → GS (K + 300000 * k) (Y + k) nb ns (sYs k s) := by
  intro k
  induction k with
  | zero => exact fun _ _ => g
  | succ k ih =>
    intro h h2
    have h1 := GS_Y (ih (by omega) (by omega)) (show Y + k < 800 by omega) (by omega)
    exact GS_mono h1 (by omega)
