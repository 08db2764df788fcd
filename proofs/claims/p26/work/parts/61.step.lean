/-! changes: the class keeps its state, then changes the tongue of now -/
/-- the tongue of now changed, its row of stakes too -/
theorem CS_now2 {ad : Nat → Nat} (hi : ∀ a b : Nat, (ad a = ad b) = (a = b)) {T : Ty} {R R2 : Rm} {M : Mm} {s s' : Sx} {n : Nat} {h : Nat → Sx} {β : Nat → Nat} {σ σ2 : Nat → Nat → Nat} (G : CG ad T R β σ) (G2 : CG ad T R2 β σ2) (e2 : ∀ k, k < 4 → σ2 (β k) = σ (β k)) (hs : CS ad M s n h β σ) {c : Nat → Nat → Int32} {l : Nat → Int64} (rt : RT QT (σ2 (β 4)) c l s') (ok : OKs s') : CS ad (TV (qq ad (β 4)) M c l) s' n h β σ2 := by
  obtain ⟨h1, h2, h3, h4, h5, h6⟩ := hs
  have b4 := CG_bs G (show 4 < 5 by omega)
  refine ⟨?_, h2, ?_, fun k hk => ?_, ok, h6⟩
  · unfold gI at *
    rw [(TV_out hi (.inr b4) (.inl rfl) M c l).1]
    exact h1
  · rw [CL_s]
    exact RT_cc (OK_IV ok) (CG_sl G2 (.inr b4)) (fun j hj => CC_s hi _ M c l hj) rt
  · have bk := CG_bs G (show k < 5 by omega)
    have hne := CG_bi G (show k < 5 by omega) (show 4 < 5 by omega) (by omega)
    rw [CL_n hi (.inr b4) (.inr bk) hne, e2 k (by omega)]
    exact RT_cc (OK_IV (h6 k hk)) (CG_sl G (.inr bk)) (fun j hj => CC_n hi (.inr b4) (.inr bk) hne M c l hj) (h4 k hk)
theorem bet {y : Int32} {lo hi : Nat} (h : nI lo ≤ y ∧ y ≤ nI hi) (hh : hi < 2 ^ 31) (hl : lo < 2 ^ 31) : ∃ v, y = nI v ∧ lo ≤ v ∧ v ≤ hi := by
  obtain ⟨i, hi31, rfl⟩ := nn_c y (fun h2 => by
    have h3 : nI lo < nI 0 := Int32.lt_of_le_of_lt h.1 h2
    rw [nI_ltI hl (by omega)] at h3
    omega)
  obtain ⟨h1, h2⟩ := h
  rw [nI_leI hl hi31] at h1
  rw [nI_leI hi31 hh] at h2
  exact ⟨i, rfl, h1, h2⟩
theorem calR_u {α ρ : Type} (x : ρ) (M : Mm) (R : Rm) (k : ρ → Mm → Rm → Option α) : calR (some (x, M, R)) k = k x M R := rfl
theorem RT_set {Q : Nat → Prop} {σ : Nat → Nat} {c : Nat → Nat → Int32} {l : Nat → Int64} {s : Sx} (I : IV s.1) (rt : RT Q σ c l s) {k : Nat} (hk : k < 7) (v : Int32) : RT Q σ (up2 c 1 k v) l (upd s.1 k v, s.2.1, s.2.2) := by
  have hnb := I.2.2.2.2.2.2.2.2.1.2.2
  have hns := I.2.2.2.2.2.2.2.2.2.1.2.2
  obtain ⟨t1, t04, t05, t06, t40, t41, t42, t43, tl, tb, ts⟩ := rt
  have e : ∀ j, k < j → upd s.1 k v j = s.1 j := fun j hj => pk_un (by omega)
  refine ⟨fun k' hk' => ?_, ?_, ?_, ?_, ?_, ?_, ?_, fun h => ?_, tl, fun b hb => ?_, fun i hi k' hk' => ?_⟩
  · by_cases h0 : k' = k
    · subst h0
      rw [up2_s]
      exact pk_us.symm
    · rw [up2_k _ _ h0, t1 k' hk']
      exact (pk_un h0).symm
  · rw [up2_c _ _ (by omega)]
    exact t04.trans (e 8 (by omega)).symm
  · rw [up2_c _ _ (by omega)]
    exact t05.trans (e 9 (by omega)).symm
  · rw [up2_c _ _ (by omega)]
    exact t06.trans (e 7 (by omega)).symm
  · rw [up2_c _ _ (by omega)]
    exact t40.trans (e 10 (by omega)).symm
  · rw [up2_c _ _ (by omega)]
    exact t41.trans (e 11 (by omega)).symm
  · rw [up2_c _ _ (by omega)]
    exact t42.trans (e 12 (by omega)).symm
  · rw [up2_c _ _ (by omega)]
    exact (t43 (by rw [← e 12 (by omega)]; exact h)).trans (e 13 (by omega)).symm
  · have hb' : b < nt (s.1 8) := by
      have h8 := e 8 (by omega)
      rw [← h8]
      exact hb
    obtain ⟨v1, v2, v3⟩ := tb b hb'
    refine ⟨fun k' hk' => ?_, fun h => ?_, LY_fr v3 (up2_r _ _ (by omega)) (up2_r _ _ (by omega))⟩
    · rw [up2_c _ _ (by omega)]
      exact (v1 k' hk').trans (e _ (by omega)).symm
    · rw [up2_c _ _ (by omega)]
      exact (v2 h).trans (e _ (by omega)).symm
  · have hi' : i < nt (s.1 9) := by
      have h9 := e 9 (by omega)
      rw [← h9]
      exact hi
    rw [up2_c _ _ (by omega)]
    exact (ts i hi' k' hk').trans (e _ (by omega)).symm
theorem RT_creep {Q : Nat → Prop} {σ : Nat → Nat} {c : Nat → Nat → Int32} {l : Nat → Int64} {s : Sx} (I : IV s.1) (rt : RT Q σ c l s) {b : Nat} (hb : b < nt (s.1 8)) (v : Int32) : RT Q σ (up2 c (5 + 3 * b) 3 v) l (upd s.1 (14 + 6 * b + 2) v, s.2.1, s.2.2) := by
  have hnb := I.2.2.2.2.2.2.2.2.1.2.2
  have hns := I.2.2.2.2.2.2.2.2.2.1.2.2
  obtain ⟨t1, t04, t05, t06, t40, t41, t42, t43, tl, tb, ts⟩ := rt
  have e : ∀ j, j ≠ 14 + 6 * b + 2 → upd s.1 (14 + 6 * b + 2) v j = s.1 j := fun j hj => pk_un hj
  refine ⟨fun k' hk' => ?_, ?_, ?_, ?_, ?_, ?_, ?_, fun h => ?_, tl, fun b' hb' => ?_, fun i hi k' hk' => ?_⟩
  · rw [up2_c _ _ (by omega)]
    exact (t1 k' hk').trans (e _ (by omega)).symm
  · rw [up2_c _ _ (by omega)]
    exact t04.trans (e 8 (by omega)).symm
  · rw [up2_c _ _ (by omega)]
    exact t05.trans (e 9 (by omega)).symm
  · rw [up2_c _ _ (by omega)]
    exact t06.trans (e 7 (by omega)).symm
  · rw [up2_c _ _ (by omega)]
    exact t40.trans (e 10 (by omega)).symm
  · rw [up2_c _ _ (by omega)]
    exact t41.trans (e 11 (by omega)).symm
  · rw [up2_c _ _ (by omega)]
    exact t42.trans (e 12 (by omega)).symm
  · rw [up2_c _ _ (by omega)]
    exact (t43 (by rw [← e 12 (by omega)]; exact h)).trans (e 13 (by omega)).symm
  · have hb2 : b' < nt (s.1 8) := by
      have h8 := e 8 (by omega)
      rw [← h8]
      exact hb'
    obtain ⟨v1, v2, v3⟩ := tb b' hb2
    refine ⟨fun k' hk' => ?_, fun h => ?_, LY_fr v3 (up2_r _ _ (by omega)) (up2_r _ _ (by omega))⟩
    · by_cases h0 : b' = b ∧ k' = 2
      · obtain ⟨rfl, rfl⟩ := h0
        rw [up2_s]
        exact pk_us.symm
      · have hc : up2 c (5 + 3 * b) 3 v (5 + 3 * b') (k' + 1) = c (5 + 3 * b') (k' + 1) := by
          by_cases h1 : b' = b
          · subst h1
            exact up2_k _ _ (by omega)
          · exact up2_c _ _ (by omega)
        rw [hc]
        exact (v1 k' hk').trans (e _ (by omega)).symm
    · have hc : up2 c (5 + 3 * b) 3 v (5 + 3 * b') 6 = c (5 + 3 * b') 6 := by
        by_cases h1 : b' = b
        · subst h1
          exact up2_k _ _ (by omega)
        · exact up2_c _ _ (by omega)
      rw [hc]
      exact (v2 h).trans (e _ (by omega)).symm
  · have hi' : i < nt (s.1 9) := by
      have h9 := e 9 (by omega)
      rw [← h9]
      exact hi
    rw [up2_c _ _ (by omega)]
    exact (ts i hi' k' hk').trans (e _ (by omega)).symm

theorem step_recQ {ad : Nat → Nat} {T : Ty} {M : Mm} {R : Rm} {s : Sx} {n : Nat} {h : Nat → Sx} (w : WQ ad T M R s n h) : ∃ M' R' β' σ, fn_X6_recordState T (ad 0) M R = some ((), M', R') ∧ (∀ a b : Nat, (ad a = ad b) = (a = b)) ∧ CG ad T R' β' σ ∧ RT QT (σ (β' 4)) (CC ad M' (β' 4)) (CL ad M' (β' 4)) s ∧ TV (qq ad (β' 4)) M' (CC ad M' (β' 4)) (CL ad M' (β' 4)) = M' ∧ ∀ (c : Nat → Nat → Int32) (l : Nat → Int64) (s' : Sx) (R2 : Rm) (σ2 : Nat → Nat → Nat), CG ad T R2 β' σ2 → (∀ k, k < 4 → σ2 (β' k) = σ (β' k)) → RT QT (σ2 (β' 4)) c l s' → OKs s' → WQ ad T (TV (qq ad (β' 4)) M' c l) R2 s' (np n) (hp n h s) := by
  obtain ⟨tx, β, σ, hi, G, hs, ct⟩ := w
  obtain ⟨M', R', β', p1, G', hs', fy, rr, m7, m8⟩ := x6_record hi G hs
  have b4 := CG_bs G' (show 4 < 5 by omega)
  refine ⟨M', R', β', σ, p1, hi, G', hs'.2.2.1, M_TV hi M' (β' 4), fun c l s' R2 σ2 G2 e2 rt ok => ?_⟩
  have cs2 := CS_now2 hi G' G2 e2 hs' rt ok
  exact ⟨tx, β', σ2, hi, G2, cs2, CT_FX ct ((TV_out hi (.inr b4) (.inr (.inr (.inl rfl))) M' c l).1.trans m7) ((TV_out hi (.inr b4) (.inr (.inr (.inr (.inl rfl)))) M' c l).1.trans m8)⟩
theorem WQ_OK {ad : Nat → Nat} {T : Ty} {M : Mm} {R : Rm} {s : Sx} {n : Nat} {h : Nat → Sx} (w : WQ ad T M R s n h) : OKs s := by
  obtain ⟨tx, β, σ, hi, G, hs, ct⟩ := w
  exact hs.2.2.2.2.1
