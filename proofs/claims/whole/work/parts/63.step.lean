/-! both together: a change -/
theorem RK_fr {ad : Nat → Nat} {M M' : Mm} {n : Nat} {h : Nat → Sx} (rk : RK ad M n h) (h0 : gI M' (ad 250) 10 = gI M (ad 250) 10) (h1 : M'.1 (ad 257) = M.1 (ad 257)) (h2 : M'.1 (ad 258) = M.1 (ad 258)) (h3 : M'.1 (ad 259) = M.1 (ad 259)) (h4 : M'.2 (ad 260) = M.2 (ad 260)) : RK ad M' n h := by
  obtain ⟨r1, r2, r3⟩ := rk
  refine ⟨h0.trans r1, r2, fun k hk => ?_⟩
  obtain ⟨v1, v2, v3⟩ := r3 k hk
  have el : M'.1 (ad (lcA k)) = M.1 (ad (lcA k)) := by
    unfold lcA
    split
    · exact h2
    · exact h3
  exact ⟨fun j hj => by rw [h1]; exact v1 j hj, fun b y hb hy => by rw [el]; exact v2 b y hb hy, fun j hj => by rw [h4]; exact v3 j hj⟩
theorem RX_fr {ad : Nat → Nat} {M M' : Mm} {tl : Nat} {tx : Nat → Nat} (rx : RX ad M tl tx) (h0 : gI M' (ad 250) 12 = gI M (ad 250) 12) (h1 : M'.1 (ad 261) = M.1 (ad 261)) : RX ad M' tl tx := by
  refine ⟨h0.trans rx.1, fun k hk => ?_⟩
  have := rx.2 k hk
  unfold gI at *
  rw [h1]
  exact this
theorem FY_RS {ad : Nat → Nat} {M M' : Mm} {s : Sx} (f : FY ad M M') (hs : RS ad M s) : RS ad M' s := ⟨(f 251 (by omega)).1.trans hs.1, (f 252 (by omega)).1.trans hs.2.1, (f 253 (by omega)).2.trans hs.2.2⟩
theorem FY_RK {ad : Nat → Nat} {M M' : Mm} {n : Nat} {h : Nat → Sx} (f : FY ad M M') (rk : RK ad M n h) : RK ad M' n h := RK_fr rk (congrFun (f 250 (by omega)).1 10) (f 257 (by omega)).1 (f 258 (by omega)).1 (f 259 (by omega)).1 (f 260 (by omega)).2
theorem FY_RX {ad : Nat → Nat} {M M' : Mm} {tl : Nat} {tx : Nat → Nat} (f : FY ad M M') (rx : RX ad M tl tx) : RX ad M' tl tx := RX_fr rx (congrFun (f 250 (by omega)).1 12) (f 261 (by omega)).1
theorem WD_put {ad : Nat → Nat} {T : Ty} {R : Rm} {M1 M2 : Mm} {s' : Sx} {n' : Nat} {h' : Nat → Sx} {tl : Nat} {tx : Nat → Nat} {β : Nat → Nat} {σ : Nat → Nat → Nat} (G : CG ad T R β σ) (hs : CS ad M1 s' n' h' β σ) (ct : CT ad M1 tl tx) (GR : RG ad T R) (fk : FK ad M1 M2) (rk : RK ad M2 n' h') (rx : RX ad M1 tl tx) : WD ad T (PS ad M2 s') R s' n' h' tl tx β σ := by
  have hi := GR.1
  have f : FX ad M1 (PS ad M2 s') := fun r hr => ⟨(PS_I hi M2 s' (by omega) (by omega)).trans (fk.1 r (by omega) (by omega) (by omega) (by omega)), (PS_J hi M2 s' (by omega)).trans (fk.2.1 r (by omega))⟩
  refine ⟨G, CS_FX G hs f, CT_FX ct (f 207 (by omega)).1 (f 208 (by omega)).1, GR, PS_RS hi M2 s', RK_fr rk (congrFun (PS_I hi M2 s' (by omega) (by omega)) 10) (PS_I hi M2 s' (by omega) (by omega)) (PS_I hi M2 s' (by omega) (by omega)) (PS_I hi M2 s' (by omega) (by omega)) (PS_J hi M2 s' (by omega)), RX_fr rx ?_ ?_⟩
  · exact (congrFun (PS_I hi M2 s' (by omega) (by omega)) 12).trans (fk.2.2 12 (by omega))
  · exact (PS_I hi M2 s' (by omega) (by omega)).trans (fk.1 261 (by omega) (by omega) (by omega) (by omega))
/-- the tongue of now changed, its row of stakes too -/
theorem CS_now2 {ad : Nat → Nat} (hi : ∀ a b : Nat, (ad a = ad b) = (a = b)) {T : Ty} {R R2 : Rm} {M : Mm} {s s' : Sx} {n : Nat} {h : Nat → Sx} {β : Nat → Nat} {σ σ2 : Nat → Nat → Nat} (G : CG ad T R β σ) (G2 : CG ad T R2 β σ2) (e2 : ∀ k, k < 4 → σ2 (β k) = σ (β k)) (hs : CS ad M s n h β σ) {c : Nat → Nat → Int32} {l : Nat → Int64} (rt : RT QT (σ2 (β 4)) c l s') (ok : OKs s') : CS ad (TV (qq ad (β 4)) M c l) s' n h β σ2 := by
  obtain ⟨h1, h2, h3, h4, h5, h6⟩ := hs
  have b4 := CG_bs G (show 4 < 5 by omega)
  refine ⟨?_, h2, ?_, fun k hk => ?_, ok, h6⟩
  · unfold gI at *
    rw [(TV_out hi (.inr b4) (.inl rfl) M c l).1]
    exact h1
  · rw [CL_s]
    exact RT_cc (OK_IV ok) (CG_sl G2 (.inr b4)) (fun j hj => CC_s hi _ M c l hj) rt
  · have bk := CG_bs G (show k < 5 by omega)
    have hne := CG_bi G (show k < 5 by omega) (show 4 < 5 by omega) (by omega)
    rw [CL_n hi (.inr b4) (.inr bk) hne, e2 k (by omega)]
    exact RT_cc (OK_IV (h6 k hk)) (CG_sl G (.inr bk)) (fun j hj => CC_n hi (.inr b4) (.inr bk) hne M c l hj) (h4 k hk)
theorem RG_R {ad : Nat → Nat} {T : Ty} {R R' : Rm} (GR : RG ad T R) (h : R' (ad 250) = R (ad 250)) : RG ad T R' := by
  obtain ⟨hi, k0, k251, n251, r251, k252, n252, r252, k253, n253, r253, k254, n254, r254, k255, n255, r255, k256, n256, r256, k257, n257, r257, k258, n258, r258, k259, n259, r259, k260, n260, r260, k261, n261, r261⟩ := GR
  exact ⟨hi, k0, k251, n251, by rw [h]; exact r251, k252, n252, by rw [h]; exact r252, k253, n253, by rw [h]; exact r253, k254, n254, by rw [h]; exact r254, k255, n255, by rw [h]; exact r255, k256, n256, by rw [h]; exact r256, k257, n257, by rw [h]; exact r257, k258, n258, by rw [h]; exact r258, k259, n259, by rw [h]; exact r259, k260, n260, by rw [h]; exact r260, k261, n261, by rw [h]; exact r261⟩
/-- a change: the class keeps its state, then changes the tongue of now; then the reference keeps its own -/
theorem step_rec {ad : Nat → Nat} {T : Ty} {M : Mm} {R : Rm} {s : Sx} {n : Nat} {h : Nat → Sx} {tl : Nat} {tx : Nat → Nat} {β : Nat → Nat} {σ : Nat → Nat → Nat} (w : WD ad T M R s n h tl tx β σ) : ∃ M' R' β', fn_X6_recordState T (ad 0) M R = some ((), M', R') ∧ CG ad T R' β' σ ∧ RG ad T R' ∧ RT QT (σ (β' 4)) (CC ad M' (β' 4)) (CL ad M' (β' 4)) s ∧ FY ad M M' ∧ M'.1 (ad 207) = M.1 (ad 207) ∧ M'.1 (ad 208) = M.1 (ad 208) ∧ (∀ a, a ≠ ad 42 → R' a = R a) ∧ TV (qq ad (β' 4)) M' (CC ad M' (β' 4)) (CL ad M' (β' 4)) = M' ∧ ∀ (c : Nat → Nat → Int32) (l : Nat → Int64) (s' : Sx) (R2 : Rm) (σ2 : Nat → Nat → Nat), CG ad T R2 β' σ2 → RG ad T R2 → (∀ k, k < 4 → σ2 (β' k) = σ (β' k)) → RT QT (σ2 (β' 4)) c l s' → OKs s' → ∃ M3, fn_X7_keep T R2 (ad 250) (TV (qq ad (β' 4)) M' c l) = some ((), PS ad M3 s) ∧ WD ad T (PS ad M3 s') R2 s' (np n) (hp n h s) tl tx β' σ2 := by
  obtain ⟨G, hs, ct, GR, rsw, rk, rx⟩ := w
  have hi := GR.1
  obtain ⟨M', R', β', p1, G', hs', fy, rr, m7, m8⟩ := x6_record hi G hs
  have b4 := CG_bs G' (show 4 < 5 by omega)
  refine ⟨M', R', β', p1, G', RG_R GR (rr _ (by rw [Ne, hi]; omega)), hs'.2.2.1, fy, m7, m8, rr, M_TV hi M' (β' 4), fun c l s' R2 σ2 G2 GR2 e2 rt ok => ?_⟩
  have cs2 := CS_now2 hi G' G2 e2 hs' rt ok
  have fy2 := FY_t fy (FY_TV hi (.inr b4) M' c l)
  obtain ⟨M3, k1, k2, k3⟩ := x7_keep GR2 (FY_RS fy2 rsw) (FY_RK fy2 rk)
  have ctn : CT ad (TV (qq ad (β' 4)) M' c l) tl tx := CT_FX ct ((TV_out hi (.inr b4) (.inr (.inr (.inl rfl))) M' c l).1.trans m7) ((TV_out hi (.inr b4) (.inr (.inr (.inr (.inl rfl)))) M' c l).1.trans m8)
  refine ⟨M3, ?_, WD_put G2 cs2 ctn GR2 k3 k2 (FY_RX fy2 rx)⟩
  rw [k1, RS_PS hi (FK_RS k3 (FY_RS fy2 rsw))]
theorem bet {y : Int32} {lo hi : Nat} (h : nI lo ≤ y ∧ y ≤ nI hi) (hh : hi < 2 ^ 31) (hl : lo < 2 ^ 31) : ∃ v, y = nI v ∧ lo ≤ v ∧ v ≤ hi := by
  obtain ⟨i, hi31, rfl⟩ := nn_c y (fun h2 => by
    have h3 : nI lo < nI 0 := Int32.lt_of_le_of_lt h.1 h2
    rw [nI_ltI hl (by omega)] at h3
    omega)
  obtain ⟨h1, h2⟩ := h
  rw [nI_leI hl hi31] at h1
  rw [nI_leI hi31 hh] at h2
  exact ⟨i, rfl, h1, h2⟩
/-- what both answer to a call that changes -/
def SW (ad : Nat → Nat) (T : Ty) (q6 : Option (Int32 × Mm × Rm)) (q7 : Rm → Mm → Option (Int32 × Mm)) : Prop := ∃ r M1 R1 M2, q6 = some (r, M1, R1) ∧ q7 R1 M1 = some (r, M2) ∧ WW ad T M2 R1
theorem SW_no {ad : Nat → Nat} {T : Ty} {q6 : Option (Int32 × Mm × Rm)} {q7 : Rm → Mm → Option (Int32 × Mm)} {M : Mm} {R : Rm} {s : Sx} {n : Nat} {h : Nat → Sx} {tl : Nat} {tx : Nat → Nat} {β : Nat → Nat} {σ : Nat → Nat → Nat} (w : WD ad T M R s n h tl tx β σ) (r : Int32) (h6 : q6 = some (r, M, R)) (h7 : q7 R M = some (r, M)) : SW ad T q6 q7 := ⟨r, M, R, M, h6, h7, s, n, h, tl, tx, β, σ, w⟩
theorem calR_u {α ρ : Type} (x : ρ) (M : Mm) (R : Rm) (k : ρ → Mm → Rm → Option α) : calR (some (x, M, R)) k = k x M R := rfl
theorem RT_set {Q : Nat → Prop} {σ : Nat → Nat} {c : Nat → Nat → Int32} {l : Nat → Int64} {s : Sx} (I : IV s.1) (rt : RT Q σ c l s) {k : Nat} (hk : k < 7) (v : Int32) : RT Q σ (up2 c 1 k v) l (upd s.1 k v, s.2.1, s.2.2) := by
  have hnb := I.2.2.2.2.2.2.2.2.1.2.2
  have hns := I.2.2.2.2.2.2.2.2.2.1.2.2
  obtain ⟨t1, t04, t05, t06, t40, t41, t42, t43, tl, tb, ts⟩ := rt
  have e : ∀ j, k < j → upd s.1 k v j = s.1 j := fun j hj => pk_un (by omega)
  refine ⟨fun k' hk' => ?_, ?_, ?_, ?_, ?_, ?_, ?_, fun h => ?_, tl, fun b hb => ?_, fun i hi k' hk' => ?_⟩
  · by_cases h0 : k' = k
    · subst h0
      rw [up2_s]
      exact pk_us.symm
    · rw [up2_k _ _ h0, t1 k' hk']
      exact (pk_un h0).symm
  · rw [up2_c _ _ (by omega)]
    exact t04.trans (e 8 (by omega)).symm
  · rw [up2_c _ _ (by omega)]
    exact t05.trans (e 9 (by omega)).symm
  · rw [up2_c _ _ (by omega)]
    exact t06.trans (e 7 (by omega)).symm
  · rw [up2_c _ _ (by omega)]
    exact t40.trans (e 10 (by omega)).symm
  · rw [up2_c _ _ (by omega)]
    exact t41.trans (e 11 (by omega)).symm
  · rw [up2_c _ _ (by omega)]
    exact t42.trans (e 12 (by omega)).symm
  · rw [up2_c _ _ (by omega)]
    exact (t43 (by rw [← e 12 (by omega)]; exact h)).trans (e 13 (by omega)).symm
  · have hb' : b < nt (s.1 8) := by
      have h8 := e 8 (by omega)
      rw [← h8]
      exact hb
    obtain ⟨v1, v2, v3⟩ := tb b hb'
    refine ⟨fun k' hk' => ?_, fun h => ?_, LY_fr v3 (up2_r _ _ (by omega)) (up2_r _ _ (by omega))⟩
    · rw [up2_c _ _ (by omega)]
      exact (v1 k' hk').trans (e _ (by omega)).symm
    · rw [up2_c _ _ (by omega)]
      exact (v2 h).trans (e _ (by omega)).symm
  · have hi' : i < nt (s.1 9) := by
      have h9 := e 9 (by omega)
      rw [← h9]
      exact hi
    rw [up2_c _ _ (by omega)]
    exact (ts i hi' k' hk').trans (e _ (by omega)).symm
theorem RT_creep {Q : Nat → Prop} {σ : Nat → Nat} {c : Nat → Nat → Int32} {l : Nat → Int64} {s : Sx} (I : IV s.1) (rt : RT Q σ c l s) {b : Nat} (hb : b < nt (s.1 8)) (v : Int32) : RT Q σ (up2 c (5 + 3 * b) 3 v) l (upd s.1 (14 + 6 * b + 2) v, s.2.1, s.2.2) := by
  have hnb := I.2.2.2.2.2.2.2.2.1.2.2
  have hns := I.2.2.2.2.2.2.2.2.2.1.2.2
  obtain ⟨t1, t04, t05, t06, t40, t41, t42, t43, tl, tb, ts⟩ := rt
  have e : ∀ j, j ≠ 14 + 6 * b + 2 → upd s.1 (14 + 6 * b + 2) v j = s.1 j := fun j hj => pk_un hj
  refine ⟨fun k' hk' => ?_, ?_, ?_, ?_, ?_, ?_, ?_, fun h => ?_, tl, fun b' hb' => ?_, fun i hi k' hk' => ?_⟩
  · rw [up2_c _ _ (by omega)]
    exact (t1 k' hk').trans (e _ (by omega)).symm
  · rw [up2_c _ _ (by omega)]
    exact t04.trans (e 8 (by omega)).symm
  · rw [up2_c _ _ (by omega)]
    exact t05.trans (e 9 (by omega)).symm
  · rw [up2_c _ _ (by omega)]
    exact t06.trans (e 7 (by omega)).symm
  · rw [up2_c _ _ (by omega)]
    exact t40.trans (e 10 (by omega)).symm
  · rw [up2_c _ _ (by omega)]
    exact t41.trans (e 11 (by omega)).symm
  · rw [up2_c _ _ (by omega)]
    exact t42.trans (e 12 (by omega)).symm
  · rw [up2_c _ _ (by omega)]
    exact (t43 (by rw [← e 12 (by omega)]; exact h)).trans (e 13 (by omega)).symm
  · have hb2 : b' < nt (s.1 8) := by
      have h8 := e 8 (by omega)
      rw [← h8]
      exact hb'
    obtain ⟨v1, v2, v3⟩ := tb b' hb2
    refine ⟨fun k' hk' => ?_, fun h => ?_, LY_fr v3 (up2_r _ _ (by omega)) (up2_r _ _ (by omega))⟩
    · by_cases h0 : b' = b ∧ k' = 2
      · obtain ⟨rfl, rfl⟩ := h0
        rw [up2_s]
        exact pk_us.symm
      · have hc : up2 c (5 + 3 * b) 3 v (5 + 3 * b') (k' + 1) = c (5 + 3 * b') (k' + 1) := by
          by_cases h1 : b' = b
          · subst h1
            exact up2_k _ _ (by omega)
          · exact up2_c _ _ (by omega)
        rw [hc]
        exact (v1 k' hk').trans (e _ (by omega)).symm
    · have hc : up2 c (5 + 3 * b) 3 v (5 + 3 * b') 6 = c (5 + 3 * b') 6 := by
        by_cases h1 : b' = b
        · subst h1
          exact up2_k _ _ (by omega)
        · exact up2_c _ _ (by omega)
      rw [hc]
      exact (v2 h).trans (e _ (by omega)).symm
  · have hi' : i < nt (s.1 9) := by
      have h9 := e 9 (by omega)
      rw [← h9]
      exact hi
    rw [up2_c _ _ (by omega)]
    exact (ts i hi' k' hk').trans (e _ (by omega)).symm
