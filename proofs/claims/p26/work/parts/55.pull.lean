/-! a stake less: the class turns its row of stakes, the reference moves its numbers -/
def pX (m : Nat → Int32) (i k : Nat) : Nat → Int32 := fun j => if 74 + 6 * i ≤ j ∧ j < k then m (j + 6) else m j
def pM (m : Nat → Int32) (ns i : Nat) : Nat → Int32 := pX (upd m 9 (nI (ns - 1))) i (74 + 6 * (ns - 1))
def sP (i : Nat) (s : Sx) : Sx := (pM s.1 (nt (s.1 9)) i, s.2.1, s.2.2)
theorem pX_o {m : Nat → Int32} {i k j : Nat} (h : j < 74 + 6 * i ∨ k ≤ j) : pX m i k j = m j := by
  unfold pX
  rw [if_neg (by omega)]
theorem pX_s (m : Nat → Int32) (i k : Nat) (h : 74 + 6 * i ≤ k) : upd (pX m i k) k (pX m i k (k + 6)) = pX m i (k + 1) := by
  funext j
  by_cases e : j = k
  · subst e
    rw [pk_us, pX_o (.inr (by omega))]
    unfold pX
    rw [if_pos (by omega)]
  · rw [pk_un e]
    unfold pX
    by_cases h1 : 74 + 6 * i ≤ j ∧ j < k
    · rw [if_pos h1, if_pos (by omega)]
    · rw [if_neg h1, if_neg (by omega)]
def sgK (σ : Nat → Nat) (i k : Nat) : Nat → Nat := fun j => if i ≤ j ∧ j < k then σ (j + 1) else σ j
def sgP (σ : Nat → Nat) (ns i : Nat) : Nat → Nat := fun j => if i ≤ j ∧ j < ns - 1 then σ (j + 1) else if j = ns - 1 then σ i else σ j
theorem TG_R {T : Ty} {R R' : Rm} {q σ σ' : Nat → Nat} (G : TG T R q σ) (h : ∀ a, a ≠ q 3 → R' a = R a) (h3 : ∀ j, j < 6 → R' (q 3) j = some (q (35 + σ' j))) (sl' : ∀ j, j < 6 → σ' j < 6) (si' : ∀ i j, i < 6 → j < 6 → σ' i = σ' j → i = j) : TG T R' q σ' := by
  obtain ⟨hq, k0, r00, r01, r02, r03, k1, n1, k2, n2, k3, n3, k4, rb, kb, rl, lg, rs, ks, sl, si⟩ := G
  have e : ∀ j, j ≠ 3 → R' (q j) = R (q j) := fun j hj => h _ (by rw [Ne, hq]; exact hj)
  refine ⟨hq, k0, by rw [e 0 (by omega)]; exact r00, by rw [e 0 (by omega)]; exact r01, by rw [e 0 (by omega)]; exact r02, by rw [e 0 (by omega)]; exact r03, k1, n1, k2, n2, k3, n3, k4, fun i hi => by rw [e 2 (by omega)]; exact rb i hi, kb, fun i hi => by rw [e _ (by omega)]; exact rl i hi, fun i hi => ?_, h3, ks, sl', si'⟩
  obtain ⟨g1, g2, g3, g4, g5⟩ := lg i hi
  exact ⟨g1, by rw [e _ (by omega)]; exact g2, g3, g4, g5⟩
theorem sgP_l {σ : Nat → Nat} {ns i : Nat} (sl : ∀ j, j < 6 → σ j < 6) (hi : i < ns) (hn : ns ≤ 6) : ∀ j, j < 6 → sgP σ ns i j < 6 := by
  intro j hj
  unfold sgP
  split
  · exact sl _ (by omega)
  · split
    · exact sl _ (by omega)
    · exact sl _ hj
theorem sgP_i {σ : Nat → Nat} {ns i : Nat} (si : ∀ i j, i < 6 → j < 6 → σ i = σ j → i = j) (hi : i < ns) (hn : ns ≤ 6) : ∀ a b, a < 6 → b < 6 → sgP σ ns i a = sgP σ ns i b → a = b := by
  intro a b ha hb h
  have e : ∀ j, j < 6 → ∃ t, t < 6 ∧ sgP σ ns i j = σ t ∧ t = (if i ≤ j ∧ j < ns - 1 then j + 1 else if j = ns - 1 then i else j) := fun j hj => by
    refine ⟨_, ?_, ?_, rfl⟩
    · split
      · omega
      · split <;> omega
    · unfold sgP
      split
      · rfl
      · split <;> rfl
  obtain ⟨t1, h1, h2, h3⟩ := e a ha
  obtain ⟨t2, h4, h5, h6⟩ := e b hb
  rw [h2, h5] at h
  have ht := si t1 t2 h1 h4 h
  split at h3 <;> split at h6 <;> first | omega | (split at h3 <;> first | omega | (split at h6 <;> omega)) | (split at h6 <;> omega)
theorem x5_removeStake {T : Ty} {R : Rm} {q σ : Nat → Nat} (G : TG T R q σ) (M : Mm) {c : Nat → Nat → Int32} {l : Nat → Int64} {s : Sx} {K Y nb ns : Nat} (g : GS K Y nb ns s) (rt : RT QT σ c l s) {i : Nat} (hi : i < ns) : ∃ c' R', fn_X5_removeStake T (q 0) (nI i) (TV q M c l) R = some (s.1 (74 + 6 * i + 3), TV q M c' l, R') ∧ (∀ a, a ≠ q 3 → R' a = R a) ∧ TG T R' q (sgP σ ns i) ∧ RT QT (sgP σ ns i) c' l (sP i s) := by
  have G0 := G
  have hnb := g.2.2.2.2.2.1
  have hns := g.2.2.2.2.2.2.1
  have n8 := g.2.2.2.2.2.2.2.2.1
  have n9 := g.2.2.2.2.2.2.2.2.2
  have h9 := g.2.2.2.1
  have rt0 := rt
  obtain ⟨t1, t04, t05, t06, t40, t41, t42, t43, tl, tb, ts⟩ := rt
  have t05' := t05
  rw [h9] at t05'
  obtain ⟨hq, k0, r00, r01, r02, r03, k1, n1, k2, n2, k3, n3, k4, rb, kb, rl, lg, rs, ks, sl, si⟩ := G
  have h6 := sl i (by omega)
  have ki := ks (σ i) h6
  have s3 := ts i (by omega) 3 (by omega)
  have key : ∀ d k (R1 : Rm) fuel, k + 1 + d = ns → i ≤ k → (∀ a, a ≠ q 3 → R1 a = R a) → (∀ j, j < 6 → R1 (q 3) j = some (q (35 + sgK σ i k j))) → d < fuel → ∃ R', (∀ a, a ≠ q 3 → R' a = R a) ∧ (∀ j, j < 6 → R' (q 3) j = some (q (35 + sgP σ ns i j))) ∧ fb_X5_removeStake_9 T (q 0) (nI i) fuel (q (35 + σ i)) (nI k) (TV q M c l) R1 = some (s.1 (74 + 6 * i + 3), TV q M (up2 c 0 5 (nI (ns - 1))) l, R') := by
    intro d
    induction d with
    | zero =>
      intro k R1 fuel h1 hik hR1 hR2 h2
      obtain ⟨n, rfl⟩ : ∃ n', fuel = n' + 1 := ⟨fuel - 1, by omega⟩
      have r02' : R1 (q 0) 2 = some (q 3) := by
        rw [hR1 _ (by rw [Ne, hq]; omega)]
        exact r02
      refine ⟨up2 R1 (q 3) (ns - 1) (some (q (35 + σ i))), fun a ha => by rw [up2_r _ _ ha]; exact hR1 a ha, fun j hj => ?_, ?_⟩
      · by_cases e : j = ns - 1
        · subst e
          rw [up2_s]
          unfold sgP
          rw [if_neg (by omega), if_pos rfl]
        · rw [up2_k _ _ e, hR2 j hj]
          unfold sgP sgK
          by_cases h3 : i ≤ j ∧ j < ns - 1
          · rw [if_pos h3, if_pos (by omega)]
          · rw [if_neg h3, if_neg (by omega), if_neg e]
      · rw [fbs_X5_removeStake_9]
        unfold fs_X5_removeStake_9
        simp (disch := omega) only [↓lm1, l0, l1, l2, l3, l4, l5, l6, l7, l8, l9, l10, l11, l12, l13, l14, l31, l32, l44, l48, l50, l57, l59, l60, l74, l100, l110, l126, l300, l330, l500, l501, l801, l1000, l5000, l5010, l8010, l8192, l9000, l10000, l1000000, nI_add, pk_mul, nI_clamp, nI_leI, nI_ltI, nI_eq, chk_d, chk_t, chk_inb, rfm_s, bnd_e, cal_e, calR_e, if_pos, if_neg, k0, k3, n3, r02', ki, TV_g hq, TV_s hq, t05', nIs, up2_s, up2_c, s3]
    | succ d ih =>
      intro k R1 fuel h1 hik hR1 hR2 h2
      obtain ⟨n, rfl⟩ : ∃ n', fuel = n' + 1 := ⟨fuel - 1, by omega⟩
      have r02' : R1 (q 0) 2 = some (q 3) := by
        rw [hR1 _ (by rw [Ne, hq]; omega)]
        exact r02
      have rk : R1 (q 3) (k + 1) = some (q (35 + σ (k + 1))) := by
        rw [hR2 (k + 1) (by omega)]
        unfold sgK
        rw [if_neg (by omega)]
      have h61 := sl (k + 1) (by omega)
      have kk1 := ks (σ (k + 1)) h61
      obtain ⟨R', p1, p2, p3⟩ := ih (k + 1) (up2 R1 (q 3) k (some (q (35 + σ (k + 1))))) n (by omega) (by omega) (fun a ha => by rw [up2_r _ _ ha]; exact hR1 a ha) (fun j hj => by
        by_cases e : j = k
        · subst e
          rw [up2_s]
          unfold sgK
          rw [if_pos (by omega)]
        · rw [up2_k _ _ e, hR2 j hj]
          unfold sgK
          by_cases h3 : i ≤ j ∧ j < k
          · rw [if_pos h3, if_pos (by omega)]
          · rw [if_neg h3, if_neg (by omega)]) (by omega)
      refine ⟨R', p1, p2, ?_⟩
      rw [← p3, fbs_X5_removeStake_9]
      unfold fs_X5_removeStake_9
      simp (disch := omega) only [↓lm1, l0, l1, l2, l3, l4, l5, l6, l7, l8, l9, l10, l11, l12, l13, l14, l31, l32, l44, l48, l50, l57, l59, l60, l74, l100, l110, l126, l300, l330, l500, l501, l801, l1000, l5000, l5010, l8010, l8192, l9000, l10000, l1000000, nI_add, pk_mul, nI_clamp, nI_leI, nI_ltI, nI_eq, chk_d, chk_t, chk_inb, rfm_s, bnd_e, cal_e, calR_e, if_pos, if_neg, k0, k3, n3, r02', rk, kk1, TV_g hq, t05']
  obtain ⟨R', p1, p2, p3⟩ := key (ns - 1 - i) i R FU (by omega) (Nat.le_refl _) (fun _ _ => rfl) (fun j hj => by
    unfold sgK
    rw [if_neg (by omega)]
    exact rs j hj) (FU_gt (by omega))
  refine ⟨up2 c 0 5 (nI (ns - 1)), R', ?_, p1, TG_R G0 p1 p2 (sgP_l sl hi hns) (sgP_i si hi hns), ?_⟩
  · unfold fn_X5_removeStake
    simp (disch := omega) only [↓lm1, l0, l1, l2, l3, l4, l5, l6, l7, l8, l9, l10, l11, l12, l13, l14, l31, l32, l44, l48, l50, l57, l59, l60, l74, l100, l110, l126, l300, l330, l500, l501, l801, l1000, l5000, l5010, l8010, l8192, l9000, l10000, l1000000, nI_add, pk_mul, nI_clamp, nI_leI, nI_ltI, nI_eq, chk_d, chk_t, chk_inb, rfm_s, bnd_e, cal_e, calR_e, if_pos, if_neg, k0, r00, r01, r02, r03, k1, n1, k2, n2, k3, n3, k4, rb, kb, rl, rs, ks, p3]
  · unfold sP
    rw [n9]
    refine RT_S (m := s.1) (f := s.2.1) (acc := s.2.2) (by omega) rt0 (fun j h1 h2 => up2_r _ _ h1) (fun k hk => up2_k _ _ hk) ?_ (fun k h1 h2 => ?_) (fun j hj k hk => ?_)
    · rw [up2_s]
      unfold pM
      rw [pX_o (by omega), pk_us]
    · unfold pM
      rw [pX_o (by omega), pk_un h1]
    · have e9 : pM s.1 ns i 9 = nI (ns - 1) := by
        unfold pM
        rw [pX_o (by omega), pk_us]
      rw [e9, nt_nI (by omega)] at hj
      rw [up2_c _ _ (by omega)]
      unfold pM pX sgP
      by_cases h3 : i ≤ j
      · rw [if_pos ⟨h3, hj⟩, if_pos (by omega), pk_un (by omega), show 74 + 6 * j + k + 6 = 74 + 6 * (j + 1) + k by omega]
        exact ts (j + 1) (by omega) k hk
      · rw [if_neg (by omega), if_neg (by omega), if_neg (by omega), pk_un (by omega)]
        exact ts j (by omega) k hk
/-! the states stay in order -/
def OKs (s : Sx) : Prop := ∃ Y nb ns, GS (1000000 * nb + 300000 * Y) Y nb ns s ∧ Y ≤ 500 ∧ Zs s
theorem GS_K30 {Y nb ns : Nat} {s : Sx} (g : GS (1000000 * nb + 300000 * Y) Y nb ns s) (hY : Y ≤ 500) : 1000000 * nb + 300000 * Y + 300000 * 300 < 2 ^ 30 := by
  have := g.2.2.2.2.2.1
  omega
/-- numbers that are no state's: settings, creeps -/
theorem OK_upd {s : Sx} (h : OKs s) {k : Nat} {v : Int32} (hI : IV (upd s.1 k v)) (h7 : k ≠ 7 ∧ k ≠ 8 ∧ k ≠ 9 ∧ k ≠ 10 ∧ k ≠ 11 ∧ k ≠ 12 ∧ k ≠ 13 ∧ k ≠ 19) : OKs (upd s.1 k v, s.2.1, s.2.2) := by
  obtain ⟨Y, nb, ns, ⟨J, a7, a8, a9, b1, b2, b3, n7, n8, n9⟩, hY, hz⟩ := h
  have e : ∀ j, j ≠ k → upd s.1 k v j = s.1 j := fun j hj => pk_un hj
  exact ⟨Y, nb, ns, GS_mk (JV_m J hI (e _ (by omega)) (e _ (by omega)) (e _ (by omega)) (e _ (by omega)) (e _ (by omega)) (e _ (by omega)) (e _ (by omega))) ((e 7 (by omega)).trans a7) ((e 8 (by omega)).trans a8) ((e 9 (by omega)).trans a9) b1 b2 b3, hY, hz⟩

