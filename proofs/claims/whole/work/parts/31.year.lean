/-! the reference's year -/
abbrev Sx : Type := (Nat → Int32) × (Nat → Nat → Nat) × (Nat → Int64)
def PS (ad : Nat → Nat) (M : Mm) (s : Sx) : Mm := P3 ad M s.1 (fI s.2.1) s.2.2
def sW (b : Nat) (s : Sx) : Sx := (upd (wM s.1 s.2.1 b) (14 + 6 * b + 5) (nI 0), wF s.1 s.2.1 b, wA s.1 s.2.1 s.2.2 b)
def sG (b : Nat) (s : Sx) : Sx := (gM s.1 s.2.1 b, gF s.1 s.2.1 b, s.2.2)
def sF (s : Sx) : Sx := (fM s.1, s.2.1, fA s.1 s.2.2)
def sK (i : Nat) (s : Sx) : Sx := (if s.1 (74 + 6 * i + 4) = nI 0 then kM s.1 i else s.1, s.2.1, s.2.2)
def sI0 (s : Sx) : Sx := (upd s.1 7 (s.1 7 + nI 1), s.2.1, s.2.2)
def itU (g : Nat → Sx → Sx) : Nat → Sx → Sx
  | 0, s => s
  | n + 1, s => g n (itU g n s)
def itD (g : Nat → Sx → Sx) : Nat → Sx → Sx
  | 0, s => s
  | n + 1, s => itD g n (g n s)
def GS (K Y nb ns : Nat) (s : Sx) : Prop := JV K s.1 s.2.1 ∧ s.1 7 = nI Y ∧ s.1 8 = nI nb ∧ s.1 9 = nI ns ∧ Y ≤ 800 ∧ nb ≤ 10 ∧ ns ≤ 6 ∧ nt (s.1 7) = Y ∧ nt (s.1 8) = nb ∧ nt (s.1 9) = ns
theorem GS_mk {K Y nb ns : Nat} {s : Sx} (J : JV K s.1 s.2.1) (h7 : s.1 7 = nI Y) (h8 : s.1 8 = nI nb) (h9 : s.1 9 = nI ns) (a : Y ≤ 800) (b : nb ≤ 10) (c : ns ≤ 6) : GS K Y nb ns s := ⟨J, h7, h8, h9, a, b, c, by rw [h7, nt_nI (by omega)], by rw [h8, nt_nI (by omega)], by rw [h9, nt_nI (by omega)]⟩
theorem GS_of {K : Nat} {s : Sx} (J : JV K s.1 s.2.1) : ∃ Y nb ns, GS K Y nb ns s := by
  obtain ⟨Y, hY, -, hY8⟩ := rg_get J.1.2.2.2.2.2.2.2.1
  obtain ⟨nb, hnb, -, hnb10⟩ := rg_get J.1.2.2.2.2.2.2.2.2.1
  obtain ⟨ns, hns, -, hns6⟩ := rg_get J.1.2.2.2.2.2.2.2.2.2.1
  exact ⟨Y, nb, ns, GS_mk J hY hnb hns hY8 hnb10 hns6⟩
theorem GS_mono {K K' Y nb ns : Nat} {s : Sx} (g : GS K Y nb ns s) (h : K ≤ K') : GS K' Y nb ns s := ⟨JV_mono g.1 h, g.2⟩
theorem GS_W {K Y nb ns : Nat} {s : Sx} (g : GS K Y nb ns s) {b : Nat} (hb : b < nb) : GS (K + 30000) Y nb ns (sW b s) := by
  obtain ⟨J, h7, h8, h9, a, hnb, c, n7, n8, n9⟩ := g
  have e : ∀ k, k < 14 → (sW b s).1 k = s.1 k := fun k h => by
    show upd (wM s.1 s.2.1 b) (14 + 6 * b + 5) (nI 0) k = _
    unfold wM
    rw [pk_un (by omega), pk_un (by omega)]
  exact GS_mk (JV_W J (by rw [n8]; exact hb)) (by rw [e _ (by omega)]; exact h7) (by rw [e _ (by omega)]; exact h8) (by rw [e _ (by omega)]; exact h9) a hnb c
theorem GS_WU {K Y nb ns : Nat} {s : Sx} (g : GS K Y nb ns s) : ∀ k, k ≤ nb → GS (K + 30000 * k) Y nb ns (itU sW k s) := by
  intro k
  induction k with
  | zero => exact fun _ => g
  | succ k ih =>
    intro h
    have h1 := GS_W (ih (by omega)) (show k < nb by omega)
    exact GS_mono h1 (by omega)
theorem GS_G {K Y nb ns : Nat} {s : Sx} (g : GS K Y nb ns s) {b : Nat} (hb : b < nb) : GS K Y nb ns (sG b s) := by
  obtain ⟨J, h7, h8, h9, a, hnb, c, n7, n8, n9⟩ := g
  have e : ∀ k, k < 10 → (sG b s).1 k = s.1 k := fun k h => by
    show gM s.1 s.2.1 b k = _
    unfold gM
    split <;> rw [pk_un (by omega), pk_un (by omega)]
  exact GS_mk (JV_G J (by rw [n8]; exact hb)) (by rw [e _ (by omega)]; exact h7) (by rw [e _ (by omega)]; exact h8) (by rw [e _ (by omega)]; exact h9) a hnb c
theorem GS_GD {K Y nb ns : Nat} : ∀ (k : Nat) (s : Sx), GS K Y nb ns s → k ≤ nb → GS K Y nb ns (itD sG k s) := by
  intro k
  induction k with
  | zero => exact fun s g _ => g
  | succ k ih => exact fun s g h => ih _ (GS_G g (by omega)) (by omega)
theorem GS_F {K Y nb ns : Nat} {s : Sx} (g : GS K Y nb ns s) (hK : K < 2 ^ 31) : GS K Y nb ns (sF s) := by
  obtain ⟨J, h7, h8, h9, a, hnb, c, n7, n8, n9⟩ := g
  have e : ∀ k, k < 10 → (sF s).1 k = s.1 k := fun k h => by
    show fM s.1 k = _
    unfold fM
    split
    · rw [pk_un (by omega)]
    · split
      · rfl
      · rw [pk_un (by omega), pk_un (by omega), pk_un (by omega), pk_un (by omega)]
  exact GS_mk (JV_F J hK) (by rw [e _ (by omega)]; exact h7) (by rw [e _ (by omega)]; exact h8) (by rw [e _ (by omega)]; exact h9) a hnb c
theorem sK_p {i : Nat} {s : Sx} (h0 : s.1 (74 + 6 * i + 4) = nI 0) : sK i s = (kM s.1 i, s.2.1, s.2.2) := by
  unfold sK
  rw [if_pos h0]
theorem sK_n {i : Nat} {s : Sx} (h0 : ¬ s.1 (74 + 6 * i + 4) = nI 0) : sK i s = s := by
  unfold sK
  rw [if_neg h0]
theorem GS_K {K Y nb ns : Nat} {s : Sx} (g : GS K Y nb ns s) {i : Nat} (hi : i < ns) : GS K Y nb ns (sK i s) := by
  by_cases h0 : s.1 (74 + 6 * i + 4) = nI 0
  · rw [sK_p h0]
    obtain ⟨J, h7, h8, h9, a, hnb, c, n7, n8, n9⟩ := g
    exact GS_mk (JV_K J (by rw [n9]; exact hi)) ((kM_o (by omega)).trans h7) ((kM_o (by omega)).trans h8) ((kM_o (by omega)).trans h9) a hnb c
  · rw [sK_n h0]
    exact g
theorem GS_KU {K Y nb ns : Nat} {s : Sx} (g : GS K Y nb ns s) : ∀ k, k ≤ ns → GS K Y nb ns (itU sK k s) := by
  intro k
  induction k with
  | zero => exact fun _ => g
  | succ k ih => exact fun h => GS_K (ih (by omega)) (by omega)
theorem GS_I0 {K Y nb ns : Nat} {s : Sx} (g : GS K Y nb ns s) (hY : Y < 800) : GS K (Y + 1) nb ns (sI0 s) := by
  obtain ⟨J, h7, h8, h9, a, hnb, c, n7, n8, n9⟩ := g
  have e : ∀ k, k ≠ 7 → (sI0 s).1 k = s.1 k := fun k h => pk_un h
  have e7 : (sI0 s).1 7 = nI (Y + 1) := by
    show upd s.1 7 (s.1 7 + nI 1) 7 = _
    rw [pk_us, h7, nI_add]
  refine GS_mk ?_ e7 ((e 8 (by omega)).trans h8) ((e 9 (by omega)).trans h9) (by omega) hnb c
  obtain ⟨I, ⟨F, P, r, a1, a2, a3, a4, a5, a6, a7⟩, z, q⟩ := J
  have n7' : nt ((sI0 s).1 7) = Y + 1 := by rw [e7, nt_nI (by omega)]
  rw [n7, n8] at z a5
  refine ⟨?_, ⟨F, P, r, ?_, ?_, ?_, a4, ?_, ?_, ?_⟩, ?_, ?_⟩
  · unfold IV
    rw [e7, e 0 (by omega), e 1 (by omega), e 2 (by omega), e 3 (by omega), e 4 (by omega), e 5 (by omega), e 6 (by omega), e 8 (by omega), e 9 (by omega)]
    obtain ⟨i0, i1, i2, i3, i4, i5, i6, i7, i8, i9, ib, is⟩ := I
    refine ⟨i0, i1, i2, i3, i4, i5, i6, rg_nI (by omega) (by omega) (by omega), i8, i9, fun b' hb' => ?_, fun s' hs' => ?_⟩
    · rw [e _ (by omega), e _ (by omega), e _ (by omega)]
      exact ib b' hb'
    · rw [e _ (by omega)]
      exact is s' hs'
  · rw [e _ (by omega)]
    exact a1
  · rw [e _ (by omega)]
    exact a2
  · rw [e _ (by omega)]
    exact a3
  · rw [n7', e 8 (by omega), n8]
    have : tot (sI0 s).2.1 (Y + 1) nb = tot s.2.1 Y nb := by
      show tot s.2.1 (Y + 1) nb = _
      exact sm_congr (fun b hb => sm_tail (by omega) (fun y h1 h2 => z b y hb (by omega)))
    omega
  · rw [e _ (by omega)]
    exact a6
  · rw [e _ (by omega)]
    exact a7
  · rw [n7', e 8 (by omega), n8]
    exact fun b y h1 h2 => z b y h1 (by omega)
  · rw [e _ (by omega)]
    exact q
def sY (s : Sx) : Sx := itU sK (nt (s.1 9)) (sF (itD sG (nt (s.1 8)) (itU sW (nt (s.1 8)) (sI0 s))))
theorem GS_Y {K Y nb ns : Nat} {s : Sx} (g : GS K Y nb ns s) (hY : Y < 800) (hK : K < 2 ^ 30) : GS (K + 300000) (Y + 1) nb ns (sY s) := by
  unfold sY
  rw [g.2.2.2.2.2.2.2.2.1, g.2.2.2.2.2.2.2.2.2]
  have h10 := g.2.2.2.2.2.1
  have g1 := GS_WU (GS_I0 g hY) nb (Nat.le_refl _)
  have g2 := GS_F (GS_GD nb _ g1 (Nat.le_refl _)) (by omega)
  exact GS_mono (GS_KU g2 ns (Nat.le_refl _)) (by omega)
theorem x7_sW {ad : Nat → Nat} {T : Ty} {R : Rm} (G : RG ad T R) {M : Mm} {s : Sx} {K Y nb ns b : Nat} (g : GS K Y nb ns s) (hb : b < nb) (hK : K < 2 ^ 30) : ∃ M', fn_X7_weather T R (ad 250) (nI b) (PS ad M s) = some ((), M') ∧ fn_X7_put T R (ad 250) (nI b) (nI 5) (nI 0) M' = some ((), PS ad M (sW b s)) := by
  obtain ⟨J, h7, h8, h9, a, hnb, c, n7, n8, n9⟩ := g
  have hb' : b < nt (s.1 8) := by omega
  refine ⟨_, x7_weather G J.1 hb' ?_, ?_⟩
  · rw [wG_sum]
    have h1 := JV_le J hb'
    have h2 := snS_le J.1 hb'
    omega
  · rw [x7_put G _ _ (by omega), sP3_m]
    rfl
theorem x7_w1 {ad : Nat → Nat} {T : Ty} {R : Rm} (G : RG ad T R) {M : Mm} {s : Sx} {K Y nb ns : Nat} (g : GS K Y nb ns s) (hK : K + 300000 < 2 ^ 30) (j : Int32 → Mm → Option (Unit × Mm)) : ∀ d b fuel, b + d = nb → d < fuel → fb_X7_year_13 T R (ad 250) j fuel (nI b) (PS ad M (itU sW b s)) = j (nI nb - nI 1) (PS ad M (itU sW nb s)) := by
  have G0 := G
  obtain ⟨hi, k0, k251, n251, r251, k252, n252, r252, k253, n253, r253, k254, n254, r254, k255, n255, r255, k256, n256, r256, k257, n257, r257, k258, n258, r258, k259, n259, r259, k260, n260, r260, k261, n261, r261⟩ := G
  intro d
  induction d with
  | zero =>
    intro b fuel h1 h2
    obtain ⟨q, rfl⟩ : ∃ q, fuel = q + 1 := ⟨fuel - 1, by omega⟩
    have e : b = nb := by omega
    subst e
    have gk := GS_WU g b (Nat.le_refl _)
    have h8 : gI (PS ad M (itU sW b s)) (ad 251) 8 = nI b := (P3_m _ _ _ _ _ _).trans gk.2.2.1
    have hb10 := gk.2.2.2.2.2.1
    rw [fbs_X7_year_13]
    unfold fs_X7_year_13
    simp (disch := omega) only [↓lm1, l0, l1, l2, l3, l4, l5, l6, l7, l8, l9, l10, l11, l12, l13, l14, l31, l32, l44, l48, l50, l57, l59, l60, l74, l100, l110, l126, l300, l330, l500, l501, l801, l1000, l5000, l5010, l8010, l8192, l9000, l10000, l1000000, nI_add, pk_mul, nI_clamp, nI_leI, nI_ltI, nI_eq, chk_d, chk_t, chk_inb, rfm_s, bnd_e, cal_e, calR_e, if_pos, if_neg, k0, k251, n251, r251, k252, n252, r252, k253, n253, r253, k254, n254, r254, k255, n255, r255, k256, n256, r256, k257, n257, r257, k258, n258, r258, k259, n259, r259, k260, n260, r260, k261, n261, r261, h8]
  | succ d ih =>
    intro b fuel h1 h2
    obtain ⟨q, rfl⟩ : ∃ q, fuel = q + 1 := ⟨fuel - 1, by omega⟩
    have gk := GS_WU g b (by omega)
    have h8 : gI (PS ad M (itU sW b s)) (ad 251) 8 = nI nb := (P3_m _ _ _ _ _ _).trans gk.2.2.1
    have hb10 := gk.2.2.2.2.2.1
    obtain ⟨M1, q1, q2⟩ := x7_sW G0 (M := M) gk (show b < nb by omega) (by omega)
    rw [fbs_X7_year_13]
    unfold fs_X7_year_13
    simp (disch := omega) only [↓lm1, l0, l1, l2, l3, l4, l5, l6, l7, l8, l9, l10, l11, l12, l13, l14, l31, l32, l44, l48, l50, l57, l59, l60, l74, l100, l110, l126, l300, l330, l500, l501, l801, l1000, l5000, l5010, l8010, l8192, l9000, l10000, l1000000, nI_add, pk_mul, nI_clamp, nI_leI, nI_ltI, nI_eq, chk_d, chk_t, chk_inb, rfm_s, bnd_e, cal_e, calR_e, if_pos, if_neg, k0, k251, n251, r251, k252, n252, r252, k253, n253, r253, k254, n254, r254, k255, n255, r255, k256, n256, r256, k257, n257, r257, k258, n258, r258, k259, n259, r259, k260, n260, r260, k261, n261, r261, h8, q1, q2]
    exact ih (b + 1) q (by omega) (by omega)
theorem x7_w2 {ad : Nat → Nat} {T : Ty} {R : Rm} (G : RG ad T R) {M : Mm} {K Y nb ns : Nat} (hK : K < 2 ^ 31) (j : Int32 → Mm → Option (Unit × Mm)) : ∀ b s fuel, GS K Y nb ns s → b ≤ nb → b < fuel → fb_X7_year_52 T R (ad 250) j fuel (nI b + nONE) (PS ad M s) = j (nI 0) (PS ad M (sF (itD sG b s))) := by
  have G0 := G
  obtain ⟨hi, k0, k251, n251, r251, k252, n252, r252, k253, n253, r253, k254, n254, r254, k255, n255, r255, k256, n256, r256, k257, n257, r257, k258, n258, r258, k259, n259, r259, k260, n260, r260, k261, n261, r261⟩ := G
  intro b
  induction b with
  | zero =>
    intro s fuel g h1 h2
    obtain ⟨q, rfl⟩ : ∃ q, fuel = q + 1 := ⟨fuel - 1, by omega⟩
    obtain ⟨J, h7, h8, h9, a, hnb, c, n7, n8, n9⟩ := g
    obtain ⟨I, ⟨F, P, r, a1, a2, a3, a4, a5, a6, a7⟩, z, q⟩ := J
    obtain ⟨pc, hp, hp1, hp2⟩ := rg_get I.2.2.2.2.2.1
    have e1 := x7_stepFront G0 (M := M) (ice := fI s.2.1) (acc := s.2.2) a1 (by omega) a3 a4 hp hp1 hp2
    have e1' : fn_X7_stepFront T R (ad 250) (PS ad M s) = some ((), PS ad M (sF s)) := e1
    rw [fbs_X7_year_52]
    unfold fs_X7_year_52
    simp (disch := omega) only [↓lm1, l0, l1, l2, l3, l4, l5, l6, l7, l8, l9, l10, l11, l12, l13, l14, l31, l32, l44, l48, l50, l57, l59, l60, l74, l100, l110, l126, l300, l330, l500, l501, l801, l1000, l5000, l5010, l8010, l8192, l9000, l10000, l1000000, nI_add, pk_mul, nI_clamp, nI_leI, nI_ltI, nI_eq, chk_d, chk_t, chk_inb, rfm_s, bnd_e, cal_e, calR_e, if_pos, if_neg, k0, k251, n251, r251, k252, n252, r252, k253, n253, r253, k254, n254, r254, k255, n255, r255, k256, n256, r256, k257, n257, r257, k258, n258, r258, k259, n259, r259, k260, n260, r260, k261, n261, r261, nI_n1, nONE_T, if_true, e1']
    rfl
  | succ b ih =>
    intro s fuel g h1 h2
    obtain ⟨q, rfl⟩ : ∃ q, fuel = q + 1 := ⟨fuel - 1, by omega⟩
    have g0 := g
    obtain ⟨J, h7, h8, h9, a, hnb, c, n7, n8, n9⟩ := g
    have hb' : b < nt (s.1 8) := by omega
    have hle := JV_le J hb'
    have e1 : fn_X7_gives T R (ad 250) (nI b) (PS ad M s) = some ((), PS ad M (sG b s)) := x7_gives G0 J.1 hb' (by omega)
    have hnk : ¬ nI b < nI 0 := nI_pos (by omega)
    rw [fbs_X7_year_52]
    unfold fs_X7_year_52
    simp (disch := omega) only [↓lm1, l0, l1, l2, l3, l4, l5, l6, l7, l8, l9, l10, l11, l12, l13, l14, l31, l32, l44, l48, l50, l57, l59, l60, l74, l100, l110, l126, l300, l330, l500, l501, l801, l1000, l5000, l5010, l8010, l8192, l9000, l10000, l1000000, nI_add, pk_mul, nI_clamp, nI_leI, nI_ltI, nI_eq, chk_d, chk_t, chk_inb, rfm_s, bnd_e, cal_e, calR_e, if_pos, if_neg, k0, k251, n251, r251, k252, n252, r252, k253, n253, r253, k254, n254, r254, k255, n255, r255, k256, n256, r256, k257, n257, r257, k258, n258, r258, k259, n259, r259, k260, n260, r260, k261, n261, r261, nI_m1, hnk, if_false, e1]
    exact ih (sG b s) q (GS_G g0 (by omega)) (by omega) (by omega)
theorem x7_w3 {ad : Nat → Nat} {T : Ty} {R : Rm} (G : RG ad T R) {M : Mm} {K Y nb ns : Nat} {s : Sx} (g : GS K Y nb ns s) : ∀ d i fuel, i + d = ns → d < fuel → fb_X7_year_73 T R (ad 250) fuel (nI i) (PS ad M (itU sK i s)) = some ((), PS ad M (itU sK ns s)) := by
  have G0 := G
  obtain ⟨hi, k0, k251, n251, r251, k252, n252, r252, k253, n253, r253, k254, n254, r254, k255, n255, r255, k256, n256, r256, k257, n257, r257, k258, n258, r258, k259, n259, r259, k260, n260, r260, k261, n261, r261⟩ := G
  intro d
  induction d with
  | zero =>
    intro i fuel h1 h2
    obtain ⟨q, rfl⟩ : ∃ q, fuel = q + 1 := ⟨fuel - 1, by omega⟩
    have e : i = ns := by omega
    subst e
    have gk := GS_KU g i (Nat.le_refl _)
    have h9 : gI (PS ad M (itU sK i s)) (ad 251) 9 = nI i := (P3_m _ _ _ _ _ _).trans gk.2.2.2.1
    have hb6 := gk.2.2.2.2.2.2.1
    rw [fbs_X7_year_73]
    unfold fs_X7_year_73
    simp (disch := omega) only [↓lm1, l0, l1, l2, l3, l4, l5, l6, l7, l8, l9, l10, l11, l12, l13, l14, l31, l32, l44, l48, l50, l57, l59, l60, l74, l100, l110, l126, l300, l330, l500, l501, l801, l1000, l5000, l5010, l8010, l8192, l9000, l10000, l1000000, nI_add, pk_mul, nI_clamp, nI_leI, nI_ltI, nI_eq, chk_d, chk_t, chk_inb, rfm_s, bnd_e, cal_e, calR_e, if_pos, if_neg, k0, k251, n251, r251, k252, n252, r252, k253, n253, r253, k254, n254, r254, k255, n255, r255, k256, n256, r256, k257, n257, r257, k258, n258, r258, k259, n259, r259, k260, n260, r260, k261, n261, r261, h9]
  | succ d ih =>
    intro i fuel h1 h2
    obtain ⟨q, rfl⟩ : ∃ q, fuel = q + 1 := ⟨fuel - 1, by omega⟩
    have gk := GS_KU g i (by omega)
    have h9 : gI (PS ad M (itU sK i s)) (ad 251) 9 = nI ns := (P3_m _ _ _ _ _ _).trans gk.2.2.2.1
    have hb6 := gk.2.2.2.2.2.2.1
    have e1 := fun M => x7_ofStake G0 M (b := i) (k := 4) (by omega)
    have e2 : gI (PS ad M (itU sK i s)) (ad 251) (74 + 6 * i + 4) = (itU sK i s).1 (74 + 6 * i + 4) := P3_m _ _ _ _ _ _
    have e3 : fn_X7_stepStake T R (ad 250) (nI i) (PS ad M (itU sK i s)) = some ((), PS ad M (kM (itU sK i s).1 i, (itU sK i s).2.1, (itU sK i s).2.2)) := x7_stepStake G0 gk.1.1 (by rw [gk.2.2.2.2.2.2.2.2.2]; omega)
    have ih' := ih (i + 1) q (by omega) (by omega)
    have hstep : itU sK (i + 1) s = sK i (itU sK i s) := rfl
    rw [hstep] at ih'
    rw [fbs_X7_year_73]
    unfold fs_X7_year_73 fs_X7_year_98
    by_cases h0 : (itU sK i s).1 (74 + 6 * i + 4) = nI 0
    · rw [sK_p h0] at ih'
      simp (disch := omega) only [↓lm1, l0, l1, l2, l3, l4, l5, l6, l7, l8, l9, l10, l11, l12, l13, l14, l31, l32, l44, l48, l50, l57, l59, l60, l74, l100, l110, l126, l300, l330, l500, l501, l801, l1000, l5000, l5010, l8010, l8192, l9000, l10000, l1000000, nI_add, pk_mul, nI_clamp, nI_leI, nI_ltI, nI_eq, chk_d, chk_t, chk_inb, rfm_s, bnd_e, cal_e, calR_e, if_pos, if_neg, k0, k251, n251, r251, k252, n252, r252, k253, n253, r253, k254, n254, r254, k255, n255, r255, k256, n256, r256, k257, n257, r257, k258, n258, r258, k259, n259, r259, k260, n260, r260, k261, n261, r261, h9, e1, e2, h0, if_true, e3]
      exact ih'
    · rw [sK_n h0] at ih'
      simp (disch := omega) only [↓lm1, l0, l1, l2, l3, l4, l5, l6, l7, l8, l9, l10, l11, l12, l13, l14, l31, l32, l44, l48, l50, l57, l59, l60, l74, l100, l110, l126, l300, l330, l500, l501, l801, l1000, l5000, l5010, l8010, l8192, l9000, l10000, l1000000, nI_add, pk_mul, nI_clamp, nI_leI, nI_ltI, nI_eq, chk_d, chk_t, chk_inb, rfm_s, bnd_e, cal_e, calR_e, if_pos, if_neg, k0, k251, n251, r251, k252, n252, r252, k253, n253, r253, k254, n254, r254, k255, n255, r255, k256, n256, r256, k257, n257, r257, k258, n258, r258, k259, n259, r259, k260, n260, r260, k261, n261, r261, h9, e1, e2, h0, if_false]
      exact ih'
theorem x7_year {ad : Nat → Nat} {T : Ty} {R : Rm} (G : RG ad T R) {M : Mm} {K Y nb ns : Nat} {s : Sx} (g : GS K Y nb ns s) (hY : Y < 800) (hn : 0 < nb) (hK : K + 300000 < 2 ^ 30) : fn_X7_year T R (ad 250) (PS ad M s) = some ((), PS ad M (sY s)) := by
  have G0 := G
  have g1 := GS_I0 g hY
  have g2 := GS_WU g1 nb (Nat.le_refl _)
  have g3 := GS_GD nb _ g2 (Nat.le_refl _)
  have h10 := g.2.2.2.2.2.1
  have h6 := g.2.2.2.2.2.2.1
  have g4 := GS_F g3 (by omega)
  have w1 := fun j => x7_w1 G0 (M := M) g1 hK j nb 0 FU (by omega) (FU_gt (by omega))
  have w2 := fun j => x7_w2 G0 (M := M) (K := K + 30000 * nb) (by omega) j nb _ FU g2 (Nat.le_refl _) (FU_gt (by omega))
  have w3 := x7_w3 G0 (M := M) g4 ns 0 FU (by omega) (FU_gt (by omega))
  have e7 : sI (PS ad M s) (ad 251) 7 (gI (PS ad M s) (ad 251) 7 + nI 1) = PS ad M (itU sW 0 (sI0 s)) := by
    unfold PS
    rw [P3_m, sP3_m]
    rfl
  have en : nI nb - nI 1 = nI nb + nONE := by
    obtain ⟨k, rfl⟩ : ∃ k, nb = k + 1 := ⟨nb - 1, by omega⟩
    rw [nI_m1, nIs (by omega)]
    rfl
  unfold sY
  rw [g.2.2.2.2.2.2.2.2.1, g.2.2.2.2.2.2.2.2.2]
  obtain ⟨hi, k0, k251, n251, r251, k252, n252, r252, k253, n253, r253, k254, n254, r254, k255, n255, r255, k256, n256, r256, k257, n257, r257, k258, n258, r258, k259, n259, r259, k260, n260, r260, k261, n261, r261⟩ := G
  unfold fn_X7_year
  simp (disch := omega) only [↓lm1, l0, l1, l2, l3, l4, l5, l6, l7, l8, l9, l10, l11, l12, l13, l14, l31, l32, l44, l48, l50, l57, l59, l60, l74, l100, l110, l126, l300, l330, l500, l501, l801, l1000, l5000, l5010, l8010, l8192, l9000, l10000, l1000000, nI_add, pk_mul, nI_clamp, nI_leI, nI_ltI, nI_eq, chk_d, chk_t, chk_inb, rfm_s, bnd_e, cal_e, calR_e, if_pos, if_neg, k0, k251, n251, r251, k252, n252, r252, k253, n253, r253, k254, n254, r254, k255, n255, r255, k256, n256, r256, k257, n257, r257, k258, n258, r258, k259, n259, r259, k260, n260, r260, k261, n261, r261, e7, w1, en, w2]
  exact w3
def sYs : Nat → Sx → Sx
  | 0, s => s
  | n + 1, s => sY (sYs n s)
theorem GS_Ys {K Y nb ns : Nat} {s : Sx} (g : GS K Y nb ns s) : ∀ k, Y + k ≤ 800 → K + 300000 * k < 2 ^ 30 → GS (K + 300000 * k) (Y + k) nb ns (sYs k s) := by
  intro k
  induction k with
  | zero => exact fun _ _ => g
  | succ k ih =>
    intro h h2
    have h1 := GS_Y (ih (by omega) (by omega)) (show Y + k < 800 by omega) (by omega)
    exact GS_mono h1 (by omega)
theorem x7_goOn {ad : Nat → Nat} {T : Ty} {R : Rm} (G : RG ad T R) {M : Mm} {K Y nb ns n : Nat} {s : Sx} (g : GS K Y nb ns s) (hn : 0 < nb) (hY : Y + n ≤ 800) (hK : K + 300000 * n < 2 ^ 30) : fn_X7_goOn T R (ad 250) (nI n) (PS ad M s) = some ((), PS ad M (sYs n s)) := by
  have G0 := G
  obtain ⟨hi, k0, k251, n251, r251, k252, n252, r252, k253, n253, r253, k254, n254, r254, k255, n255, r255, k256, n256, r256, k257, n257, r257, k258, n258, r258, k259, n259, r259, k260, n260, r260, k261, n261, r261⟩ := G
  have key : ∀ d k fuel, k + d = n → d < fuel → fb_X7_goOn_2 T R (ad 250) (nI n) fuel (nI k) (PS ad M (sYs k s)) = some ((), PS ad M (sYs n s)) := by
    intro d
    induction d with
    | zero =>
      intro k fuel h1 h2
      obtain ⟨q, rfl⟩ : ∃ q, fuel = q + 1 := ⟨fuel - 1, by omega⟩
      have e : k = n := by omega
      subst e
      rw [fbs_X7_goOn_2]
      unfold fs_X7_goOn_2
      simp (disch := omega) only [↓lm1, l0, l1, l2, l3, l4, l5, l6, l7, l8, l9, l10, l11, l12, l13, l14, l31, l32, l44, l48, l50, l57, l59, l60, l74, l100, l110, l126, l300, l330, l500, l501, l801, l1000, l5000, l5010, l8010, l8192, l9000, l10000, l1000000, nI_add, pk_mul, nI_clamp, nI_leI, nI_ltI, nI_eq, chk_d, chk_t, chk_inb, rfm_s, bnd_e, cal_e, calR_e, if_pos, if_neg, k0, k251, n251, r251, k252, n252, r252, k253, n253, r253, k254, n254, r254, k255, n255, r255, k256, n256, r256, k257, n257, r257, k258, n258, r258, k259, n259, r259, k260, n260, r260, k261, n261, r261]
    | succ d ih =>
      intro k fuel h1 h2
      obtain ⟨q, rfl⟩ : ∃ q, fuel = q + 1 := ⟨fuel - 1, by omega⟩
      have e1 := x7_year G0 (M := M) (GS_Ys g k (by omega) (by omega)) (by omega) hn (by omega)
      rw [fbs_X7_goOn_2]
      unfold fs_X7_goOn_2
      simp (disch := omega) only [↓lm1, l0, l1, l2, l3, l4, l5, l6, l7, l8, l9, l10, l11, l12, l13, l14, l31, l32, l44, l48, l50, l57, l59, l60, l74, l100, l110, l126, l300, l330, l500, l501, l801, l1000, l5000, l5010, l8010, l8192, l9000, l10000, l1000000, nI_add, pk_mul, nI_clamp, nI_leI, nI_ltI, nI_eq, chk_d, chk_t, chk_inb, rfm_s, bnd_e, cal_e, calR_e, if_pos, if_neg, k0, k251, n251, r251, k252, n252, r252, k253, n253, r253, k254, n254, r254, k255, n255, r255, k256, n256, r256, k257, n257, r257, k258, n258, r258, k259, n259, r259, k260, n260, r260, k261, n261, r261, e1]
      exact ih (k + 1) q (by omega) (by omega)
  unfold fn_X7_goOn
  simp only [l0]
  exact key n 0 FU (by omega) (FU_gt (by omega))
