/-! what holds of the numbers and the ice at all times -/
def tot (f : Nat → Nat → Nat) (Y nb : Nat) : Nat := sm (fun b => sm (f b) (Y + 1)) nb
theorem tot_ge (f : Nat → Nat → Nat) {Y nb b : Nat} (h : b < nb) : sm (f b) (Y + 1) ≤ tot f Y nb := sm_le1 (fun b => sm (f b) (Y + 1)) h
theorem tot_set (f : Nat → Nat → Nat) {Y nb b : Nat} (r : Nat → Nat) (h : b < nb) : tot (fset f b r) Y nb + sm (f b) (Y + 1) = tot f Y nb + sm r (Y + 1) := by
  unfold tot
  have e : (fun b' => sm (fset f b r b') (Y + 1)) = fu (fun b' => sm (f b') (Y + 1)) b (sm r (Y + 1)) := by
    funext b'
    unfold fset fu
    by_cases hb : b' = b
    · rw [if_pos hb, if_pos hb]
    · rw [if_neg hb, if_neg hb]
  rw [e]
  exact sm_fu _ h
theorem rwT_sum (g : Nat → Nat) (n ml : Nat) : sm (rwT g n ml 0) n + min ml (sm g n) = sm g n := by
  rw [rwT_0]
  have := sm_sub (f := g) (g := tt g n ml) (n := n) (fun y _ => tt_le g n ml y)
  rw [tt_sum] at this
  exact this
def JV (K : Nat) (m : Nat → Int32) (f : Nat → Nat → Nat) : Prop := IV m ∧ (∃ F P r, m 10 = nI F ∧ m 12 = nI P ∧ m 11 = nI r ∧ r ≤ 50 ∧ F + P + tot f (nt (m 7)) (nt (m 8)) ≤ K ∧ (P = 0 → m 13 = nONE) ∧ (0 < P → m 13 ≠ nONE)) ∧ (∀ b y, b < nt (m 8) → nt (m 7) < y → f b y = 0) ∧ m 19 = nI 0
theorem JV_m {K : Nat} {m m' : Nat → Int32} {f : Nat → Nat → Nat} (J : JV K m f) (I : IV m') (h7 : m' 7 = m 7) (h8 : m' 8 = m 8) (h10 : m' 10 = m 10) (h11 : m' 11 = m 11) (h12 : m' 12 = m 12) (h13 : m' 13 = m 13) (h19 : m' 19 = m 19) : JV K m' f := by
  unfold JV
  rw [h7, h8, h10, h11, h12, h13, h19]
  exact ⟨I, J.2⟩
theorem JV_mono {K K' : Nat} {m : Nat → Int32} {f : Nat → Nat → Nat} (J : JV K m f) (h : K ≤ K') : JV K' m f := by
  obtain ⟨I, ⟨F, P, r, a1, a2, a3, a4, a5, a6, a7⟩, z, q⟩ := J
  exact ⟨I, ⟨F, P, r, a1, a2, a3, a4, by omega, a6, a7⟩, z, q⟩
theorem wG_sum (m : Nat → Int32) (f : Nat → Nat → Nat) (b : Nat) : sm (wG m f b) (nt (m 7) + 1) = sm (f b) (nt (m 7) + 1) + snS m b := by
  unfold wG
  have := sm_fu (f b) (k := nt (m 7)) (n := nt (m 7) + 1) (v := f b (nt (m 7)) + snS m b) (by omega)
  omega
theorem JV_le {K : Nat} {m : Nat → Int32} {f : Nat → Nat → Nat} (J : JV K m f) {b : Nat} (hb : b < nt (m 8)) : sm (f b) (nt (m 7) + 1) ≤ K := by
  obtain ⟨I, ⟨F, P, r, a1, a2, a3, a4, a5, a6, a7⟩, z, q⟩ := J
  have := tot_ge f (Y := nt (m 7)) hb
  omega
theorem JV_W {K : Nat} {m : Nat → Int32} {f : Nat → Nat → Nat} (J : JV K m f) {b : Nat} (hb : b < nt (m 8)) : JV (K + 30000) (upd (wM m f b) (14 + 6 * b + 5) (nI 0)) (wF m f b) := by
  have hb10 : b < 10 := Nat.lt_of_lt_of_le hb J.1.2.2.2.2.2.2.2.2.1.2.2
  have hsn := snS_le J.1 hb
  obtain ⟨I, ⟨F, P, r, a1, a2, a3, a4, a5, a6, a7⟩, z, q⟩ := J
  have e : ∀ k, k ≠ 14 + 6 * b + 5 → k ≠ 14 + 6 * b + 3 → upd (wM m f b) (14 + 6 * b + 5) (nI 0) k = m k := fun k h1 h2 => by
    unfold wM
    rw [pk_un h1, pk_un h2]
  have e7 := e 7 (by omega) (by omega)
  have e8 := e 8 (by omega) (by omega)
  have I' : IV (upd (wM m f b) (14 + 6 * b + 5) (nI 0)) := by
    unfold wM
    exact IV_upd (IV_upd I _ (by omega) (fun b' _ => by omega) (fun s _ => by omega)) _ (by omega) (fun b' _ => by omega) (fun s _ => by omega)
  refine ⟨I', ⟨F, P, r, ?_, ?_, ?_, a4, ?_, ?_, ?_⟩, ?_, ?_⟩
  · rw [e 10 (by omega) (by omega)]
    exact a1
  · rw [e 12 (by omega) (by omega)]
    exact a2
  · rw [e 11 (by omega) (by omega)]
    exact a3
  · rw [e7, e8]
    have h1 := tot_set f (Y := nt (m 7)) (rwT (wG m f b) (nt (m 7) + 1) (mlS m b) 0) hb
    have h2 := rwT_sum (wG m f b) (nt (m 7) + 1) (mlS m b)
    have h3 := wG_sum m f b
    have h4 := tot_ge f (Y := nt (m 7)) hb
    show F + P + tot (fset f b (rwT (wG m f b) (nt (m 7) + 1) (mlS m b) 0)) (nt (m 7)) (nt (m 8)) ≤ K + 30000
    omega
  · intro h
    rw [e 13 (by omega) (by omega)]
    exact a6 h
  · intro h
    rw [e 13 (by omega) (by omega)]
    exact a7 h
  · rw [e7, e8]
    intro b' y h1 h2
    have h3 := z b' y h1 h2
    unfold wF fset
    by_cases hbb : b' = b
    · subst hbb
      rw [if_pos rfl, rwT_0]
      have h4 : wG m f b' y = 0 := by
        unfold wG
        rw [fu_n _ (by omega)]
        exact h3
      show wG m f b' y - _ = 0
      rw [h4, Nat.zero_sub]
    · rw [if_neg hbb]
      exact h3
  · by_cases h0 : b = 0
    · subst h0
      exact pk_us
    · rw [e 19 (by omega) (by omega)]
      exact q
theorem gL_le {K : Nat} {m : Nat → Int32} {f : Nat → Nat → Nat} (J : JV K m f) {b : Nat} (hb : b < nt (m 8)) : gL m f b ≤ sm (f b) (nt (m 7) + 1) := by
  have h := (J.1.2.2.2.2.2.2.2.2.2.2.1 b hb).2.2.2.2
  unfold gL
  have := Nat.mul_le_mul (Nat.le_refl (sm (f b) (nt (m 7) + 1))) h
  omega
theorem gR_b {f : Nat → Nat → Nat} {b L : Nat} (lst : Bool) {n : Nat} (h : L ≤ sm (f b) n) : sm (gR f b L lst n b) n + L = sm (f b) n := by
  have e : sm (gR f b L lst n b) n = sm (fun y => f b y - tb (f b) L y) n := sm_congr (fun y hy => by
    unfold gR
    rw [if_pos hy, if_pos rfl])
  have := sm_sub (f := f b) (g := tb (f b) L) (n := n) (fun y _ => tb_le (f b) L y)
  rw [tb_sum] at this
  rw [e]
  omega
theorem gR_b1 {f : Nat → Nat → Nat} {b L n : Nat} (h : L ≤ sm (f b) n) : sm (gR f b L false n (b + 1)) n = sm (f (b + 1)) n + L := by
  have e : sm (gR f b L false n (b + 1)) n = sm (fun y => f (b + 1) y + tb (f b) L y) n := sm_congr (fun y hy => by
    unfold gR
    rw [if_pos hy, if_neg (by omega), if_pos ⟨rfl, rfl⟩])
  have := sm_add (f (b + 1)) (tb (f b) L) n
  rw [tb_sum] at this
  rw [e]
  omega
theorem gR_o {f : Nat → Nat → Nat} {b L : Nat} {lst : Bool} {n b' : Nat} (h1 : b' ≠ b) (h2 : lst = false → b' ≠ b + 1) : gR f b L lst n b' = f b' := by
  funext y
  unfold gR
  by_cases hy : y < n
  · rw [if_pos hy, if_neg h1, if_neg (fun q => h2 q.2 q.1)]
  · rw [if_neg hy]
theorem gR_tot1 {f : Nat → Nat → Nat} {b L Y nb : Nat} (hb : b < nb) (h : L ≤ sm (f b) (Y + 1)) : tot (gR f b L true (Y + 1)) Y nb + L = tot f Y nb := by
  have e : gR f b L true (Y + 1) = fset f b (gR f b L true (Y + 1) b) := by
    funext b'
    unfold fset
    by_cases hb : b' = b
    · rw [if_pos hb, hb]
    · rw [if_neg hb, gR_o hb (fun q => by cases q)]
  have h1 := tot_set f (Y := Y) (gR f b L true (Y + 1) b) hb
  have h2 := gR_b (f := f) (b := b) true h
  rw [← e] at h1
  omega
theorem gR_tot0 {f : Nat → Nat → Nat} {b L Y nb : Nat} (hb : b + 1 < nb) (h : L ≤ sm (f b) (Y + 1)) : tot (gR f b L false (Y + 1)) Y nb = tot f Y nb := by
  have e : gR f b L false (Y + 1) = fset (fset f b (gR f b L false (Y + 1) b)) (b + 1) (gR f b L false (Y + 1) (b + 1)) := by
    funext b'
    unfold fset
    by_cases h1 : b' = b + 1
    · rw [if_pos h1, h1]
    · rw [if_neg h1]
      by_cases hb : b' = b
      · rw [if_pos hb, hb]
      · rw [if_neg hb, gR_o hb (fun _ => h1)]
  have h1 := tot_set f (Y := Y) (gR f b L false (Y + 1) b) (show b < nb by omega)
  have h2 := gR_b (f := f) (b := b) false h
  have h3 := tot_set (fset f b (gR f b L false (Y + 1) b)) (Y := Y) (gR f b L false (Y + 1) (b + 1)) hb
  rw [fset_n _ _ (by omega)] at h3
  have h4 := gR_b1 (f := f) (b := b) h
  rw [← e] at h3
  omega
theorem gR_z {f : Nat → Nat → Nat} {b L Y : Nat} {lst : Bool} {b' y : Nat} (h : Y < y) : gR f b L lst (Y + 1) b' y = f b' y := by
  unfold gR
  rw [if_neg (by omega)]
theorem JV_G {K : Nat} {m : Nat → Int32} {f : Nat → Nat → Nat} (J : JV K m f) {b : Nat} (hb : b < nt (m 8)) : JV K (gM m f b) (gF m f b) := by
  have hnb10 := J.1.2.2.2.2.2.2.2.2.1.2.2
  have hb10 : b < 10 := Nat.lt_of_lt_of_le hb hnb10
  have hgl := gL_le J hb
  obtain ⟨I, ⟨F, P, r, a1, a2, a3, a4, a5, a6, a7⟩, z, q⟩ := J
  unfold gM gF
  by_cases hl : b + 1 = nt (m 8)
  · rw [if_pos hl, decide_eq_true hl]
    have I' : IV (upd (upd m (14 + 6 * b + 4) (nI (gL m f b))) 10 (m 10 + nI (gL m f b))) := IV_upd (IV_upd I _ (by omega) (fun b' _ => by omega) (fun s _ => by omega)) _ (by omega) (fun b' _ => by omega) (fun s _ => by omega)
    have e : ∀ k, k ≠ 10 → k ≠ 14 + 6 * b + 4 → upd (upd m (14 + 6 * b + 4) (nI (gL m f b))) 10 (m 10 + nI (gL m f b)) k = m k := fun k h1 h2 => by rw [pk_un h1, pk_un h2]
    have e7 := e 7 (by omega) (by omega)
    have e8 := e 8 (by omega) (by omega)
    have ht := gR_tot1 hb hgl
    refine ⟨I', ⟨F + gL m f b, P, r, ?_, ?_, ?_, a4, ?_, ?_, ?_⟩, ?_, ?_⟩
    · rw [pk_us, a1, nI_add]
    · rw [e 12 (by omega) (by omega)]
      exact a2
    · rw [e 11 (by omega) (by omega)]
      exact a3
    · rw [e7, e8]
      omega
    · intro h
      rw [e 13 (by omega) (by omega)]
      exact a6 h
    · intro h
      rw [e 13 (by omega) (by omega)]
      exact a7 h
    · rw [e7, e8]
      intro b' y h1 h2
      rw [gR_z h2]
      exact z b' y h1 h2
    · rw [e 19 (by omega) (by omega)]
      exact q
  · rw [if_neg hl, decide_eq_false hl]
    have I' : IV (upd (upd m (14 + 6 * b + 4) (nI (gL m f b))) (14 + 6 * (b + 1) + 5) (nI (gL m f b))) := IV_upd (IV_upd I _ (by omega) (fun b' _ => by omega) (fun s _ => by omega)) _ (by omega) (fun b' _ => by omega) (fun s _ => by omega)
    have e : ∀ k, k ≠ 14 + 6 * (b + 1) + 5 → k ≠ 14 + 6 * b + 4 → upd (upd m (14 + 6 * b + 4) (nI (gL m f b))) (14 + 6 * (b + 1) + 5) (nI (gL m f b)) k = m k := fun k h1 h2 => by rw [pk_un h1, pk_un h2]
    have e7 := e 7 (by omega) (by omega)
    have e8 := e 8 (by omega) (by omega)
    have ht := gR_tot0 (f := f) (b := b) (nb := nt (m 8)) (by omega) hgl
    refine ⟨I', ⟨F, P, r, ?_, ?_, ?_, a4, ?_, ?_, ?_⟩, ?_, ?_⟩
    · rw [e 10 (by omega) (by omega)]
      exact a1
    · rw [e 12 (by omega) (by omega)]
      exact a2
    · rw [e 11 (by omega) (by omega)]
      exact a3
    · rw [e7, e8]
      omega
    · intro h
      rw [e 13 (by omega) (by omega)]
      exact a6 h
    · intro h
      rw [e 13 (by omega) (by omega)]
      exact a7 h
    · rw [e7, e8]
      intro b' y h1 h2
      rw [gR_z h2]
      exact z b' y h1 h2
    · rw [e 19 (by omega) (by omega)]
      exact q
theorem JV_F {K : Nat} {m : Nat → Int32} {f : Nat → Nat → Nat} (J : JV K m f) (hK : K < 2 ^ 31) : JV K (fM m) f := by
  have J0 := J
  obtain ⟨I, ⟨F, P, r, a1, a2, a3, a4, a5, a6, a7⟩, z, q⟩ := J
  have n10 : nt (m 10) = F := by rw [a1, nt_nI (by omega)]
  have n11 : nt (m 11) = r := by rw [a3, nt_nI (by omega)]
  obtain ⟨pc, hp, hp1, hp2⟩ := rg_get I.2.2.2.2.2.1
  have n5 : nt (m 5) = pc := by rw [hp, nt_nI (by omega)]
  unfold fM
  rw [n10, n11, n5]
  by_cases h1 : 0 < r
  · rw [if_pos h1]
    refine ⟨IV_upd I _ (by omega) (fun b' _ => by omega) (fun s _ => by omega), ⟨F, P, r - 1, ?_, ?_, ?_, by omega, ?_, ?_, ?_⟩, ?_, ?_⟩
    · rw [pk_un (by omega)]
      exact a1
    · rw [pk_un (by omega)]
      exact a2
    · exact pk_us
    · rw [pk_un (by omega), pk_un (by omega)]
      exact a5
    · rw [pk_un (by omega)]
      exact a6
    · rw [pk_un (by omega)]
      exact a7
    · rw [pk_un (by omega), pk_un (by omega)]
      exact z
    · rw [pk_un (by omega)]
      exact q
  · rw [if_neg h1]
    by_cases h2 : F < pc
    · rw [if_pos h2]
      exact J0
    · rw [if_neg h2]
      have hq := Nat.div_mul_le_self F pc
      have hp0 : 1 ≤ F / pc := (Nat.le_div_iff_mul_le (by omega)).mpr (by omega)
      have hpp : F / pc * 1 ≤ F / pc * pc := Nat.mul_le_mul (Nat.le_refl _) hp1
      generalize F / pc = p at hq hp0 hpp ⊢
      obtain ⟨rs, hrs, -, hrs2⟩ := rg_get I.2.2.2.2.2.2.1
      obtain ⟨Y, hY, -, hY8⟩ := rg_get I.2.2.2.2.2.2.2.1
      refine ⟨IV_upd (IV_upd (IV_upd (IV_upd I _ ?_ ?_ ?_) _ ?_ ?_ ?_) _ ?_ ?_ ?_) _ ?_ ?_ ?_, ⟨F - p * pc, P + p, rs, ?_, ?_, ?_, hrs2, ?_, ?_, ?_⟩, ?_, ?_⟩
      all_goals first | (intro b' _; omega) | omega | skip
      · rw [pk_un (by omega), pk_un (by omega), pk_un (by omega)]
        exact pk_us
      · rw [pk_un (by omega), pk_un (by omega), pk_us, a2, nI_add]
      · rw [pk_us, hrs]
      · rw [pk_un (by omega), pk_un (by omega), pk_un (by omega), pk_un (by omega), pk_un (by omega), pk_un (by omega), pk_un (by omega), pk_un (by omega)]
        omega
      · intro h
        rw [pk_un (by omega), pk_us, hY]
        intro e
        have := nONE_lt
        rw [← e] at this
        exact nI_pos (by omega) this
      · rw [pk_un (by omega), pk_un (by omega), pk_un (by omega), pk_un (by omega), pk_un (by omega), pk_un (by omega), pk_un (by omega), pk_un (by omega)]
        exact z
      · rw [pk_un (by omega), pk_un (by omega), pk_un (by omega), pk_un (by omega)]
        exact q
theorem mvW_le (m : Nat → Int32) : ∀ d b x, (mvW m d b x).1 ≤ b + d := by
  intro d
  induction d with
  | zero =>
    intro b x
    exact Nat.le_refl _
  | succ d ih =>
    intro b x
    unfold mvW
    split
    · show b ≤ _
      omega
    · have := ih (b + 1) (x - m (14 + 6 * b + 1))
      omega
theorem kM_o {m : Nat → Int32} {s k : Nat} (hk : k < 74) : kM m s k = m k := by
  unfold kM kU mvM
  split
  · split
    · rw [pk_un (by omega), pk_un (by omega), pk_un (by omega)]
    · rw [pk_un (by omega), pk_un (by omega), pk_un (by omega), pk_un (by omega)]
  · rw [pk_un (by omega), pk_un (by omega), pk_un (by omega)]
theorem kM_IV {m : Nat → Int32} (I : IV m) {s : Nat} (hs : s < nt (m 9)) : IV (kM m s) := by
  have hs6 : s < 6 := Nat.lt_of_lt_of_le hs I.2.2.2.2.2.2.2.2.2.1.2.2
  have IU := kU_IV I hs6
  have hq : nt (kU m s (74 + 6 * s)) < nt (kU m s 8) := (IU.2.2.2.2.2.2.2.2.2.2.2 s (by unfold kU; rw [pk_un (by omega), pk_un (by omega)]; exact hs)).2
  unfold kM mvM
  split
  · split
    · exact IV_upd IU _ (by omega) (fun b' _ => by omega) (fun s _ => by omega)
    · rename_i h1 h2
      have h3 := mvW_le (kU m s) (nt (kU m s 8) - nt (kU m s (74 + 6 * s))) (nt (kU m s (74 + 6 * s))) (kU m s (74 + 6 * s + 1) + (kU m s (14 + 6 * nt (kU m s (74 + 6 * s)) + 1) * kU m s (14 + 6 * nt (kU m s (74 + 6 * s)) + 2)) / nI 1000)
      have h4 : (mvR (kU m s) s).1 < nt (kU m s 8) := by
        unfold mvR at h2 ⊢
        omega
      exact IV_upd (IV_stk IU hs6 h4) _ (by omega) (fun b' _ => by omega) (fun s _ => by omega)
  · exact IV_upd IU _ (by omega) (fun b' _ => by omega) (fun s _ => by omega)
theorem JV_K {K : Nat} {m : Nat → Int32} {f : Nat → Nat → Nat} (J : JV K m f) {s : Nat} (hs : s < nt (m 9)) : JV K (kM m s) f := JV_m J (kM_IV J.1 hs) (kM_o (by omega)) (kM_o (by omega)) (kM_o (by omega)) (kM_o (by omega)) (kM_o (by omega)) (kM_o (by omega)) (kM_o (by omega))

