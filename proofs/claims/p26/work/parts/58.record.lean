/-! the class keeps a state, and goes back to one -/
theorem TG_R0 {T : Ty} {R R' : Rm} {q σ : Nat → Nat} (G : TG T R q σ) (h : ∀ j, j < 41 → R' (q j) = R (q j)) : TG T R' q σ := by
  obtain ⟨hq, k0, r00, r01, r02, r03, k1, n1, k2, n2, k3, n3, k4, rb, kb, rl, lg, rs, ks, sl, si⟩ := G
  refine ⟨hq, k0, by rw [h 0 (by omega)]; exact r00, by rw [h 0 (by omega)]; exact r01, by rw [h 0 (by omega)]; exact r02, by rw [h 0 (by omega)]; exact r03, k1, n1, k2, n2, k3, n3, k4, fun i hi => by rw [h 2 (by omega)]; exact rb i hi, kb, fun i hi => by rw [h _ (by omega)]; exact rl i hi, fun i hi => ?_, fun j hj => by rw [h 3 (by omega)]; exact rs j hj, ks, sl, si⟩
  obtain ⟨g1, g2, g3, g4, g5⟩ := lg i hi
  exact ⟨g1, by rw [h _ (by omega)]; exact g2, g3, g4, g5⟩
theorem CG_R {ad : Nat → Nat} (hi : ∀ a b : Nat, (ad a = ad b) = (a = b)) {T : Ty} {R R' : Rm} {β β' : Nat → Nat} {σ : Nat → Nat → Nat} (G : CG ad T R β σ) (h : ∀ a, a ≠ ad 42 → a ≠ ad 0 → R' a = R a) (h0 : ∀ k, k < 3 → R' (ad 0) k = R (ad 0) k) (h3 : R' (ad 0) 3 = some (qq ad (β' 4) 0)) (h4 : ∀ k, k < 4 → R' (ad 42) k = some (qq ad (β' k) 0)) (hb : ∀ k, k < 5 → BS (β' k)) (hbi : ∀ i j, i < 5 → j < 5 → β' i = β' j → i = j) : CG ad T R' β' σ := by
  obtain ⟨a1, a2, a3, a4, a5, a6, a7, a8, a9, a10, a11, a12, a13, a14, a15⟩ := G
  refine ⟨a1, by rw [h0 0 (by omega)]; exact a2, by rw [h0 1 (by omega)]; exact a3, by rw [h0 2 (by omega)]; exact a4, h3, a6, a7, h4, hb, hbi, fun B hB => TG_R0 (a11 B hB) (fun j hj => h _ (Ne.symm (qq_out hi hB (.inr (.inl rfl)) hj)) (Ne.symm (qq_out hi hB (.inl rfl) hj))), a12, by rw [h _ (by rw [Ne, hi]; omega) (by rw [Ne, hi]; omega)]; exact a13, a14, a15⟩
def bD (β : Nat → Nat) : Nat → Nat := fun k => if k < 3 then β (k + 1) else if k = 3 then β 0 else β k
def bK (β : Nat → Nat) (m : Nat) : Nat → Nat := fun k => if k + 1 < m then β (k + 1) else β k
theorem x6_drop {ad : Nat → Nat} (hi : ∀ a b : Nat, (ad a = ad b) = (a = b)) {T : Ty} {R : Rm} {β : Nat → Nat} {σ : Nat → Nat → Nat} (G : CG ad T R β σ) (M : Mm) : ∃ R', fn_X6_dropOldestState T (ad 0) M R = some ((), sI M (ad 0) 4 (nI 3), R') ∧ (∀ a, a ≠ ad 42 → R' a = R a) ∧ (∀ k, k < 4 → R' (ad 42) k = some (qq ad (bD β k) 0)) := by
  have tg : ∀ k, k < 5 → isK T (qq ad (β k) 0) 5 = true := fun k hk => by
    obtain ⟨hq, k0, r00, r01, r02, r03, k1, n1, k2, n2, k3, n3, k4, rb, kb, rl, lg, rs, ks, sl, si⟩ := CG_tg G (.inr (CG_bs G hk))
    exact k0
  obtain ⟨a1, a2, a3, a4, a5, a6, a7, a8, a9, a10, a11, a12, a13, a14, a15⟩ := G
  have e4 : Int32.ofNat 4 = nI 4 := rfl
  have key : ∀ d k (R1 : Rm) fuel, k + d = 4 → 1 ≤ k → (∀ a, a ≠ ad 42 → R1 a = R a) → (∀ j, j < 4 → R1 (ad 42) j = some (qq ad (bK β k j) 0)) → d < fuel → ∃ R', (∀ a, a ≠ ad 42 → R' a = R a) ∧ (∀ j, j < 4 → R' (ad 42) j = some (qq ad (bD β j) 0)) ∧ fb_X6_dropOldestState_9 T (ad 0) fuel (qq ad (β 0) 0) (nI k) M R1 = some ((), sI M (ad 0) 4 (nI 3), R') := by
    intro d
    induction d with
    | zero =>
      intro k R1 fuel h1 h1k hR1 hR2 h2
      obtain ⟨n, rfl⟩ : ∃ n', fuel = n' + 1 := ⟨fuel - 1, by omega⟩
      have hk : k = 4 := by omega
      subst hk
      have r1 : R1 (ad 0) 1 = some (ad 42) := by
        rw [hR1 _ (by rw [Ne, hi]; omega)]
        exact a3
      have t0 := tg 0 (by omega)
      refine ⟨up2 R1 (ad 42) 3 (some (qq ad (β 0) 0)), fun a ha => by rw [up2_r _ _ ha]; exact hR1 a ha, fun j hj => ?_, ?_⟩
      · by_cases e : j = 3
        · subst e
          rw [up2_s]
          rfl
        · rw [up2_k _ _ e, hR2 j hj]
          unfold bK bD
          rw [if_pos (by omega), if_pos (by omega)]
      · rw [fbs_X6_dropOldestState_9]
        unfold fs_X6_dropOldestState_9
        simp (disch := omega) only [↓lm1, l0, l1, l2, l3, l4, l5, l6, l7, l8, l9, l10, l11, l12, l13, l14, l31, l32, l44, l48, l50, l57, l59, l60, l74, l100, l110, l126, l300, l330, l500, l501, l801, l1000, l5000, l5010, l8010, l8192, l9000, l10000, l1000000, nI_add, pk_mul, nI_clamp, nI_leI, nI_ltI, nI_eq, chk_d, chk_t, chk_inb, rfm_s, bnd_e, cal_e, calR_e, if_pos, if_neg, a1, r1, a6, a7, e4, t0]
    | succ d ih =>
      intro k R1 fuel h1 h1k hR1 hR2 h2
      obtain ⟨n, rfl⟩ : ∃ n', fuel = n' + 1 := ⟨fuel - 1, by omega⟩
      have r1 : R1 (ad 0) 1 = some (ad 42) := by
        rw [hR1 _ (by rw [Ne, hi]; omega)]
        exact a3
      have rk : R1 (ad 42) k = some (qq ad (β k) 0) := by
        rw [hR2 k (by omega)]
        unfold bK
        rw [if_neg (by omega)]
      have tk := tg k (by omega)
      obtain ⟨R', p1, p2, p3⟩ := ih (k + 1) (up2 R1 (ad 42) (k - 1) (some (qq ad (β k) 0))) n (by omega) (by omega) (fun a ha => by rw [up2_r _ _ ha]; exact hR1 a ha) (fun j hj => by
        by_cases e : j = k - 1
        · subst e
          rw [up2_s]
          unfold bK
          rw [if_pos (by omega), show k - 1 + 1 = k by omega]
        · rw [up2_k _ _ e, hR2 j hj]
          unfold bK
          by_cases h3 : j + 1 < k
          · rw [if_pos h3, if_pos (by omega)]
          · rw [if_neg h3, if_neg (by omega)]) (by omega)
      refine ⟨R', p1, p2, ?_⟩
      rw [← p3, fbs_X6_dropOldestState_9]
      unfold fs_X6_dropOldestState_9
      simp (disch := omega) only [↓lm1, l0, l1, l2, l3, l4, l5, l6, l7, l8, l9, l10, l11, l12, l13, l14, l31, l32, l44, l48, l50, l57, l59, l60, l74, l100, l110, l126, l300, l330, l500, l501, l801, l1000, l5000, l5010, l8010, l8192, l9000, l10000, l1000000, nI_add, pk_mul, nI_clamp, nI_leI, nI_ltI, nI_eq, chk_d, chk_t, chk_inb, rfm_s, bnd_e, cal_e, calR_e, if_pos, if_neg, a1, r1, a6, a7, e4, rk, tk, nIs]
  obtain ⟨R', p1, p2, p3⟩ := key 3 1 R FU (by omega) (by omega) (fun _ _ => rfl) (fun j hj => by
    unfold bK
    rw [if_neg (by omega)]
    exact a8 j hj) (FU_gt (by omega))
  refine ⟨R', ?_, p1, p2⟩
  have r0 := a8 0 (by omega)
  unfold fn_X6_dropOldestState
  simp (disch := omega) only [↓lm1, l0, l1, l2, l3, l4, l5, l6, l7, l8, l9, l10, l11, l12, l13, l14, l31, l32, l44, l48, l50, l57, l59, l60, l74, l100, l110, l126, l300, l330, l500, l501, l801, l1000, l5000, l5010, l8010, l8192, l9000, l10000, l1000000, nI_add, pk_mul, nI_clamp, nI_leI, nI_ltI, nI_eq, chk_d, chk_t, chk_inb, rfm_s, bnd_e, cal_e, calR_e, if_pos, if_neg, a1, a3, a6, a7, r0, p3]
theorem x6_rec12 {ad : Nat → Nat} (hi : ∀ a b : Nat, (ad a = ad b) = (a = b)) {T : Ty} {R : Rm} {β : Nat → Nat} {σ : Nat → Nat → Nat} (G : CG ad T R β σ) {M : Mm} {n : Nat} (hn : n < 4) (h4 : gI M (ad 0) 4 = nI n) {s : Sx} (ok : OKs s) (rt : RT QT (σ (β 4)) (CC ad M (β 4)) (CL ad M (β 4)) s) : ∃ c' l', fs_X6_recordState_12 T (ad 0) M R = some ((), sI (TV (qq ad (β n)) M c' l') (ad 0) 4 (nI (n + 1)), R) ∧ RT QT (σ (β n)) c' l' s := by
  have bn := CG_bs G (show n < 5 by omega)
  have b4 := CG_bs G (show 4 < 5 by omega)
  have hne := CG_bi G (show 4 < 5 by omega) (show n < 5 by omega) (by omega)
  have tgn := CG_tg G (.inr bn)
  have tg4 := CG_tg G (.inr b4)
  obtain ⟨Y, nb, ns, g, -, -⟩ := ok
  obtain ⟨c', l', p1, p2⟩ := x5_copyFrom tgn tg4 M (d := CC ad M (β 4)) (ld := CL ad M (β 4)) (fun c l j k hj => TV_o M c l k (fun j' hj' => qq_sep hi (.inr b4) (.inr bn) hne hj hj')) (fun c l k => TV_oj M c l k (qq_sep hi (.inr b4) (.inr bn) hne (by omega) (by omega))) g rt (CC ad M (β n)) (CL ad M (β n))
  rw [M_TV hi M (β n)] at p1
  refine ⟨c', l', ?_, p2⟩
  have kn : isK T (qq ad (β n) 0) 5 = true := by
    obtain ⟨hq, k0, r00, r01, r02, r03, k1, n1, k2, n2, k3, n3, k4, rb, kb, rl, lg, rs, ks, sl, si⟩ := tgn
    exact k0
  have e4 : gI (TV (qq ad (β n)) M c' l') (ad 0) 4 = nI n := by
    unfold gI at *
    rw [(TV_out hi (.inr bn) (.inl rfl) M c' l').1]
    exact h4
  obtain ⟨a1, a2, a3, a4, a5, a6, a7, a8, a9, a10, a11, a12, a13, a14, a15⟩ := G
  unfold fs_X6_recordState_12
  simp (disch := omega) only [↓lm1, l0, l1, l2, l3, l4, l5, l6, l7, l8, l9, l10, l11, l12, l13, l14, l31, l32, l44, l48, l50, l57, l59, l60, l74, l100, l110, l126, l300, l330, l500, l501, l801, l1000, l5000, l5010, l8010, l8192, l9000, l10000, l1000000, nI_add, pk_mul, nI_clamp, nI_leI, nI_ltI, nI_eq, chk_d, chk_t, chk_inb, rfm_s, bnd_e, cal_e, calR_e, if_pos, if_neg, a1, a3, a5, a6, a7, a8, h4, kn, p1, e4]
/-- after a copy into a place of the row of states -/
theorem CS_rec {ad : Nat → Nat} (hi : ∀ a b : Nat, (ad a = ad b) = (a = b)) {T : Ty} {R : Rm} {β : Nat → Nat} {σ : Nat → Nat → Nat} (G : CG ad T R β σ) {M : Mm} {n : Nat} (hn : n < 4) {s : Sx} (ok : OKs s) (rt : RT QT (σ (β 4)) (CC ad M (β 4)) (CL ad M (β 4)) s) {h : Nat → Sx} (rh : ∀ k, k < n → RT QT (σ (β k)) (CC ad M (β k)) (CL ad M (β k)) (h k)) (oh : ∀ k, k < n → OKs (h k)) {c' : Nat → Nat → Int32} {l' : Nat → Int64} (rn : RT QT (σ (β n)) c' l' s) : CS ad (sI (TV (qq ad (β n)) M c' l') (ad 0) 4 (nI (n + 1))) s (n + 1) (fun k => if k = n then s else h k) β σ := by
  have bn := CG_bs G (show n < 5 by omega)
  have e1 : ∀ k, k < 5 → ∀ j, j < 41 → CC ad (sI (TV (qq ad (β n)) M c' l') (ad 0) 4 (nI (n + 1))) (β k) j = CC ad (TV (qq ad (β n)) M c' l') (β k) j := fun k hk j hj => sI_1 _ _ _ (Ne.symm (qq_out hi (.inr (CG_bs G hk)) (.inl rfl) hj))
  have e2 : ∀ k, CL ad (sI (TV (qq ad (β n)) M c' l') (ad 0) 4 (nI (n + 1))) (β k) = CL ad (TV (qq ad (β n)) M c' l') (β k) := fun k => rfl
  refine ⟨gI_s _ _ _ _, by omega, ?_, fun k hk => ?_, ok, fun k hk => ?_⟩
  · have b4 := CG_bs G (show 4 < 5 by omega)
    have hne := CG_bi G (show 4 < 5 by omega) (show n < 5 by omega) (by omega)
    rw [e2 4, CL_n hi (.inr bn) (.inr b4) hne]
    exact RT_cc (OK_IV ok) (CG_sl G (.inr b4)) (fun j hj => (e1 4 (by omega) j hj).trans (CC_n hi (.inr bn) (.inr b4) hne M c' l' hj)) rt
  · show RT QT _ _ _ (if k = n then s else h k)
    by_cases e : k = n
    · subst e
      rw [if_pos rfl, e2 k, CL_s]
      exact RT_cc (OK_IV ok) (CG_sl G (.inr bn)) (fun j hj => (e1 k (by omega) j hj).trans (CC_s hi _ M c' l' hj)) rn
    · rw [if_neg e]
      have bk := CG_bs G (show k < 5 by omega)
      have hne := CG_bi G (show k < 5 by omega) (show n < 5 by omega) e
      rw [e2 k, CL_n hi (.inr bn) (.inr bk) hne]
      exact RT_cc (OK_IV (oh k (by omega))) (CG_sl G (.inr bk)) (fun j hj => (e1 k (by omega) j hj).trans (CC_n hi (.inr bn) (.inr bk) hne M c' l' hj)) (rh k (by omega))
  · show OKs (if k = n then s else h k)
    by_cases e : k = n
    · rw [if_pos e]
      exact ok
    · rw [if_neg e]
      exact oh k (by omega)
theorem sI_FY {ad : Nat → Nat} (hi : ∀ a b : Nat, (ad a = ad b) = (a = b)) {B : Nat} (hB : B = 1 ∨ BS B) (M : Mm) (c : Nat → Nat → Int32) (l : Nat → Int64) (v : Int32) : FY ad M (sI (TV (qq ad B) M c l) (ad 0) 4 v) ∧ (sI (TV (qq ad B) M c l) (ad 0) 4 v).1 (ad 207) = M.1 (ad 207) ∧ (sI (TV (qq ad B) M c l) (ad 0) 4 v).1 (ad 208) = M.1 (ad 208) := by
  refine ⟨FY_t (FY_TV hi hB M c l) (FY_sI hi _ (by omega) _ _), ?_, ?_⟩
  · rw [sI_1 _ _ _ (by rw [Ne, hi]; omega)]
    exact (TV_out hi hB (.inr (.inr (.inl rfl))) M c l).1
  · rw [sI_1 _ _ _ (by rw [Ne, hi]; omega)]
    exact (TV_out hi hB (.inr (.inr (.inr (.inl rfl)))) M c l).1
theorem x6_record {ad : Nat → Nat} (hi : ∀ a b : Nat, (ad a = ad b) = (a = b)) {T : Ty} {R : Rm} {β : Nat → Nat} {σ : Nat → Nat → Nat} (G : CG ad T R β σ) {M : Mm} {n : Nat} {h : Nat → Sx} {s : Sx} (hs : CS ad M s n h β σ) : ∃ M' R' β', fn_X6_recordState T (ad 0) M R = some ((), M', R') ∧ CG ad T R' β' σ ∧ CS ad M' s (np n) (hp n h s) β' σ ∧ FY ad M M' ∧ (∀ a, a ≠ ad 42 → R' a = R a) ∧ M'.1 (ad 207) = M.1 (ad 207) ∧ M'.1 (ad 208) = M.1 (ad 208) := by
  obtain ⟨h1, h2, h3, h4, h5, h6⟩ := hs
  by_cases hn : n = 4
  · subst hn
    obtain ⟨R1, d1, d2, d3⟩ := x6_drop hi G M
    have G1 : CG ad T R1 (bD β) σ := by
      refine CG_R hi G (fun a ha _ => d2 a ha) (fun k _ => by rw [d2 _ (by rw [Ne, hi]; omega)]) ?_ d3 (fun k hk => ?_) (fun i j hi' hj' e => ?_)
      · rw [d2 _ (by rw [Ne, hi]; omega)]
        exact G.2.2.2.2.1
      · unfold bD
        split
        · exact CG_bs G (by omega)
        · split
          · exact CG_bs G (by omega)
          · exact CG_bs G hk
      · have e0 : ∀ x, x < 5 → ∃ t, t < 5 ∧ bD β x = β t ∧ t = (if x < 3 then x + 1 else if x = 3 then 0 else x) := fun x hx => by
          refine ⟨_, ?_, ?_, rfl⟩
          · split
            · omega
            · split <;> omega
          · unfold bD
            split
            · rfl
            · split <;> rfl
        obtain ⟨t1, q1, q2, q3⟩ := e0 i hi'
        obtain ⟨t2, q4, q5, q6⟩ := e0 j hj'
        rw [q2, q5] at e
        have ht := G.2.2.2.2.2.2.2.2.2.1 t1 t2 q1 q4 e
        split at q3 <;> split at q6 <;> first | omega | (split at q3 <;> first | omega | (split at q6 <;> omega)) | (split at q6 <;> omega)
    have hb4 : bD β 4 = β 4 := rfl
    have ec : ∀ B, B = 1 ∨ BS B → ∀ j, j < 41 → CC ad (sI M (ad 0) 4 (nI 3)) B j = CC ad M B j := fun B hB j hj => sI_1 _ _ _ (Ne.symm (qq_out hi hB (.inl rfl) hj))
    have b4 := CG_bs G (show 4 < 5 by omega)
    have rt1 : RT QT (σ (bD β 4)) (CC ad (sI M (ad 0) 4 (nI 3)) (bD β 4)) (CL ad (sI M (ad 0) 4 (nI 3)) (bD β 4)) s := by
      rw [hb4]
      exact RT_cc (OK_IV h5) (CG_sl G (.inr b4)) (fun j hj => ec _ (.inr b4) j hj) h3
    obtain ⟨c', l', p1, p2⟩ := x6_rec12 hi G1 (n := 3) (by omega) (gI_s _ _ _ _) h5 rt1
    have cs := CS_rec hi G1 (n := 3) (h := fun k => h (k + 1)) (by omega) h5 rt1 (fun k hk => by
      have hbk : bD β k = β (k + 1) := if_pos hk
      rw [hbk]
      have bk := CG_bs G (show k + 1 < 5 by omega)
      exact RT_cc (OK_IV (h6 (k + 1) (by omega))) (CG_sl G (.inr bk)) (fun j hj => ec _ (.inr bk) j hj) (h4 (k + 1) (by omega))) (fun k hk => h6 (k + 1) (by omega)) p2
    obtain ⟨f1, f2, f3⟩ := sI_FY hi (.inr (CG_bs G1 (show 3 < 5 by omega))) (sI M (ad 0) 4 (nI 3)) c' l' (nI (3 + 1))
    refine ⟨_, R1, bD β, ?_, G1, cs, FY_t (FY_sI hi M (by omega) 4 _) f1, d2, f2.trans (sI_1 _ _ _ (by rw [Ne, hi]; omega)), f3.trans (sI_1 _ _ _ (by rw [Ne, hi]; omega))⟩
    unfold fn_X6_recordState
    have a1 := G.1
    have ecR : ∀ {α : Type} (x : Unit) (M : Mm) (R : Rm) (k : Unit → Mm → Rm → Option α), calR (some (x, M, R)) k = k x M R := fun x M R k => rfl
    simp (disch := omega) only [↓lm1, l0, l1, l2, l3, l4, l5, l6, l7, l8, l9, l10, l11, l12, l13, l14, l31, l32, l44, l48, l50, l57, l59, l60, l74, l100, l110, l126, l300, l330, l500, l501, l801, l1000, l5000, l5010, l8010, l8192, l9000, l10000, l1000000, nI_add, pk_mul, nI_clamp, nI_leI, nI_ltI, nI_eq, chk_t, if_neg, a1, h1, d1, ecR, p1]
  · obtain ⟨c', l', p1, p2⟩ := x6_rec12 hi G (n := n) (by omega) h1 h5 h3
    have cs := CS_rec hi G (n := n) (by omega) h5 h3 h4 h6 p2
    obtain ⟨f1, f2, f3⟩ := sI_FY hi (.inr (CG_bs G (show n < 5 by omega))) M c' l' (nI (n + 1))
    refine ⟨_, R, β, ?_, G, ?_, f1, fun a _ => rfl, f2, f3⟩
    rotate_left
    · unfold np hp
      rw [if_neg hn, if_neg hn]
      exact cs
    · unfold fn_X6_recordState
      have a1 := G.1
      simp (disch := omega) only [↓lm1, l0, l1, l2, l3, l4, l5, l6, l7, l8, l9, l10, l11, l12, l13, l14, l31, l32, l44, l48, l50, l57, l59, l60, l74, l100, l110, l126, l300, l330, l500, l501, l801, l1000, l5000, l5010, l8010, l8192, l9000, l10000, l1000000, nI_add, pk_mul, nI_clamp, nI_leI, nI_ltI, nI_eq, chk_t, if_pos, a1, h1, p1]
def bU (β : Nat → Nat) (n : Nat) : Nat → Nat := fun k => if k = n then β 4 else if k = 4 then β n else β k
theorem x6_undo {ad : Nat → Nat} (hi : ∀ a b : Nat, (ad a = ad b) = (a = b)) {T : Ty} {R : Rm} {β : Nat → Nat} {σ : Nat → Nat → Nat} (G : CG ad T R β σ) {M : Mm} {n : Nat} {h : Nat → Sx} {s : Sx} (hs : CS ad M s (n + 1) h β σ) : ∃ M' R' β', fn_X6_undo T (ad 0) M R = some (nI n, M', R') ∧ CG ad T R' β' σ ∧ CS ad M' (h n) n h β' σ ∧ FY ad M M' ∧ (∀ r, 250 ≤ r → R' (ad r) = R (ad r)) ∧ M'.1 (ad 207) = M.1 (ad 207) ∧ M'.1 (ad 208) = M.1 (ad 208) := by
  obtain ⟨h1, h2, h3, h4, h5, h6⟩ := hs
  have ec : ∀ B, B = 1 ∨ BS B → ∀ j, j < 41 → CC ad (sI M (ad 0) 4 (nI n)) B j = CC ad M B j := fun B hB j hj => sI_1 _ _ _ (Ne.symm (qq_out hi hB (.inl rfl) hj))
  have bn := CG_bs G (show n < 5 by omega)
  have kn : isK T (qq ad (β n) 0) 5 = true := by
    obtain ⟨hq, k0, r00, r01, r02, r03, k1, n1, k2, n2, k3, n3, k4, rb, kb, rl, lg, rs, ks, sl, si⟩ := CG_tg G (.inr bn)
    exact k0
  have k4' : isK T (qq ad (β 4) 0) 5 = true := by
    obtain ⟨hq, k0, r00, r01, r02, r03, k1, n1, k2, n2, k3, n3, k4, rb, kb, rl, lg, rs, ks, sl, si⟩ := CG_tg G (.inr (CG_bs G (show 4 < 5 by omega)))
    exact k0
  have en : bU β n n = β 4 := if_pos rfl
  have e4 : bU β n 4 = β n := by
    unfold bU
    rw [if_neg (by omega), if_pos rfl]
  have ek : ∀ k, k ≠ n → k ≠ 4 → bU β n k = β k := fun k a b => by
    unfold bU
    rw [if_neg a, if_neg b]
  have G1 : CG ad T (up2 (up2 R (ad 42) n (some (qq ad (β 4) 0))) (ad 0) 3 (some (qq ad (β n) 0))) (bU β n) σ := by
    refine CG_R hi G (fun a ha hb => ?_) (fun k hk => ?_) ?_ (fun k hk => ?_) (fun k hk => ?_) (fun i j hi' hj' e => ?_)
    · rw [up2_r _ _ hb, up2_r _ _ ha]
    · rw [up2_k _ _ (by omega), up2_c _ _ (by rw [Ne, hi]; omega)]
    · rw [up2_s, e4]
    · rw [up2_c _ _ (by rw [Ne, hi]; omega)]
      by_cases e : k = n
      · subst e
        rw [up2_s, en]
      · rw [up2_k _ _ e, ek k e (by omega)]
        exact G.2.2.2.2.2.2.2.1 k hk
    · unfold bU
      split
      · exact CG_bs G (by omega)
      · split
        · exact CG_bs G (by omega)
        · exact CG_bs G hk
    · have e0 : ∀ x, x < 5 → ∃ t, t < 5 ∧ bU β n x = β t ∧ t = (if x = n then 4 else if x = 4 then n else x) := fun x hx => by
        refine ⟨_, ?_, ?_, rfl⟩
        · split
          · omega
          · split <;> omega
        · unfold bU
          split
          · rfl
          · split <;> rfl
      obtain ⟨t1, q1, q2, q3⟩ := e0 i hi'
      obtain ⟨t2, q4, q5, q6⟩ := e0 j hj'
      rw [q2, q5] at e
      have ht := G.2.2.2.2.2.2.2.2.2.1 t1 t2 q1 q4 e
      split at q3 <;> split at q6 <;> first | omega | (split at q3 <;> first | omega | (split at q6 <;> omega)) | (split at q6 <;> omega)
  refine ⟨sI M (ad 0) 4 (nI n), _, bU β n, ?_, G1, ⟨gI_s _ _ _ _, by omega, ?_, fun k hk => ?_, h6 n (by omega), fun k hk => h6 k (by omega)⟩, FY_sI hi M (by omega) 4 _, fun r hr => ?_, sI_1 _ _ _ (by rw [Ne, hi]; omega), sI_1 _ _ _ (by rw [Ne, hi]; omega)⟩
  · obtain ⟨a1, a2, a3, a4, a5, a6, a7, a8, a9, a10, a11, a12, a13, a14, a15⟩ := G
    have e1 : n + 1 - 1 = n := rfl
    unfold fn_X6_undo
    simp (disch := omega) only [↓lm1, l0, l1, l2, l3, l4, l5, l6, l7, l8, l9, l10, l11, l12, l13, l14, l31, l32, l44, l48, l50, l57, l59, l60, l74, l100, l110, l126, l300, l330, l500, l501, l801, l1000, l5000, l5010, l8010, l8192, l9000, l10000, l1000000, nI_add, pk_mul, nI_clamp, nI_leI, nI_ltI, nI_eq, chk_d, chk_t, chk_inb, rfm_s, bnd_e, cal_e, calR_e, if_pos, if_neg, a1, a3, a5, a6, a7, a8, h1, nIs, e1, gI_s, kn, k4']
  · rw [e4]
    exact RT_cc (OK_IV (h6 n (by omega))) (CG_sl G (.inr bn)) (fun j hj => ec _ (.inr bn) j hj) (h4 n (by omega))
  · rw [ek k (by omega) (by omega)]
    have bk := CG_bs G (show k < 5 by omega)
    exact RT_cc (OK_IV (h6 k (by omega))) (CG_sl G (.inr bk)) (fun j hj => ec _ (.inr bk) j hj) (h4 k (by omega))
  · rw [up2_r _ _ (by rw [Ne, hi]; omega), up2_r _ _ (by rw [Ne, hi]; omega)]

