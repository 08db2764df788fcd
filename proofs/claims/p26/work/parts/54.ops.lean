/-! a band more, a stake more, a stake less -/
def mB (m : Nat → Int32) (b : Nat) (h len cr : Int32) : Nat → Int32 := upd (upd (upd (upd (upd (upd (upd m 8 (m 8 + nI 1)) (14 + 6 * b + 0) h) (14 + 6 * b + 1) len) (14 + 6 * b + 2) cr) (14 + 6 * b + 3) (nI 0)) (14 + 6 * b + 4) (nI 0)) (14 + 6 * b + 5) (nI 0)
def rB (Y v : Nat) : Nat → Nat := fun y => if y = Y then v else 0
def sB (h len cr : Int32) (v : Nat) (s : Sx) : Sx := (mB s.1 (nt (s.1 8)) h len cr, fset s.2.1 (nt (s.1 8)) (rB (nt (s.1 7)) v), vp_updL s.2.2 0 (s.2.2 0 + (nI v).toInt64))
theorem mB_o {m : Nat → Int32} {b k : Nat} {h len cr : Int32} (h8 : k ≠ 8) (hk : k < 14 + 6 * b ∨ 14 + 6 * b + 5 < k) : mB m b h len cr k = m k := by
  unfold mB
  rw [pk_un (by omega), pk_un (by omega), pk_un (by omega), pk_un (by omega), pk_un (by omega), pk_un (by omega), pk_un (by omega)]
theorem mB_8 {m : Nat → Int32} {b : Nat} {h len cr : Int32} : mB m b h len cr 8 = m 8 + nI 1 := by
  unfold mB
  rw [pk_un (by omega), pk_un (by omega), pk_un (by omega), pk_un (by omega), pk_un (by omega), pk_un (by omega), pk_us]
theorem x5_addBand {T : Ty} {R : Rm} {q σ : Nat → Nat} (G : TG T R q σ) (M : Mm) {c : Nat → Nat → Int32} {l : Nat → Int64} {s : Sx} {K Y nb ns : Nat} (g : GS K Y nb ns s) (rt : RT QT σ c l s) (hn : nb < 10) (h len cr : Int32) {v : Nat} (hv : v ≤ 1000000) : ∃ c' l', fn_X5_addBand T R (q 0) h len cr (nI v) (TV q M c l) = some (nI nb, TV q M c' l') ∧ RT QT σ c' l' (sB h len cr v s) := by
  have G0 := G
  have hY := g.2.2.2.2.1
  have hns := g.2.2.2.2.2.2.1
  have n7 := g.2.2.2.2.2.2.2.1
  have n8 := g.2.2.2.2.2.2.2.2.1
  have n9 := g.2.2.2.2.2.2.2.2.2
  have h8 := g.2.2.1
  obtain ⟨t1, t04, t05, t06, t40, t41, t42, t43, tl, tb, ts⟩ := rt
  have t04' := t04
  rw [h8] at t04'
  have t06' := t06
  rw [g.2.1] at t06'
  obtain ⟨hq, k0, r00, r01, r02, r03, k1, n1, k2, n2, k3, n3, k4, rb, kb, rl, lg, rs, ks, sl, si⟩ := G
  have lgb := lg nb hn
  have kl := lgb.1
  obtain ⟨c2, p1, p2, p3⟩ := x2_empty hq lgb M (up2 (up2 (up2 (up2 (up2 (up2 c (5 + 3 * nb) 1 h) (5 + 3 * nb) 2 len) (5 + 3 * nb) 3 cr) (5 + 3 * nb) 4 (nI 0)) (5 + 3 * nb) 5 (nI 0)) (5 + 3 * nb) 6 (nI 0)) l
  obtain ⟨c3, u1, u2, u3⟩ := x2_add hq lgb M l p2 (y := Y) (v := v) (by omega) (by omega)
  have f3 := FR_t p3 u3
  have ec : ∀ j, j ≠ 5 + 3 * nb → j ≠ 5 + 3 * nb + 1 → j ≠ 5 + 3 * nb + 1 + 1 → c3 j = c j := fun j h1 h2 h3 => by
    rw [f3 j h2 h3, up2_r _ _ h1, up2_r _ _ h1, up2_r _ _ h1, up2_r _ _ h1, up2_r _ _ h1, up2_r _ _ h1]
  have c20 : c2 0 = c 0 := by
    rw [p3 0 (by omega) (by omega), up2_r _ _ (by omega), up2_r _ _ (by omega), up2_r _ _ (by omega), up2_r _ _ (by omega), up2_r _ _ (by omega), up2_r _ _ (by omega)]
  have c30 : c3 0 = c 0 := ec 0 (by omega) (by omega) (by omega)
  have cb : c3 (5 + 3 * nb) = up2 (up2 (up2 (up2 (up2 (up2 c (5 + 3 * nb) 1 h) (5 + 3 * nb) 2 len) (5 + 3 * nb) 3 cr) (5 + 3 * nb) 4 (nI 0)) (5 + 3 * nb) 5 (nI 0)) (5 + 3 * nb) 6 (nI 0) (5 + 3 * nb) := f3 _ (by omega) (by omega)
  refine ⟨up2 c3 0 4 (nI nb + nI 1), vp_updL l 7 (l 7 + (nI v).toInt64), ?_, ?_⟩
  · unfold fn_X5_addBand fn_X0_begin
    simp (disch := omega) only [↓lm1, l0, l1, l2, l3, l4, l5, l6, l7, l8, l9, l10, l11, l12, l13, l14, l31, l32, l44, l48, l50, l57, l59, l60, l74, l100, l110, l126, l300, l330, l500, l501, l801, l1000, l5000, l5010, l8010, l8192, l9000, l10000, l1000000, chk_t, chk_inb, rfm_s, bnd_e, cal_e, nI_clamp, k0, r00, r01, r02, r03, k1, n1, k2, n2, k3, n3, k4, rb, kb, rl, rs, ks, kl, TV_g hq, TV_s hq, TV_gj, TV_sj, t04', p1, c20, t06', u1, c30]
  · have e8 : nt (mB s.1 nb h len cr 8) = nb + 1 := by rw [mB_8, h8, nI_add, nt_nI (by omega)]
    unfold sB
    rw [n8, n7]
    refine ⟨fun k hk => ?_, ?_, ?_, ?_, ?_, ?_, ?_, fun hh => ?_, fun k hk => ?_, fun b hb => ?_, fun i hi k hk => ?_⟩
    · show _ = mB s.1 nb h len cr k
      rw [up2_c _ _ (by omega), ec 1 (by omega) (by omega) (by omega), mB_o (by omega) (by omega)]
      exact t1 k hk
    · show _ = mB s.1 nb h len cr 8
      rw [up2_s, mB_8, h8]
    · show _ = mB s.1 nb h len cr 9
      rw [up2_k _ _ (by omega), c30, mB_o (by omega) (by omega)]
      exact t05
    · show _ = mB s.1 nb h len cr 7
      rw [up2_k _ _ (by omega), c30, mB_o (by omega) (by omega)]
      exact t06
    · show _ = mB s.1 nb h len cr 10
      rw [up2_c _ _ (by omega), ec 4 (by omega) (by omega) (by omega), mB_o (by omega) (by omega)]
      exact t40
    · show _ = mB s.1 nb h len cr 11
      rw [up2_c _ _ (by omega), ec 4 (by omega) (by omega) (by omega), mB_o (by omega) (by omega)]
      exact t41
    · show _ = mB s.1 nb h len cr 12
      rw [up2_c _ _ (by omega), ec 4 (by omega) (by omega) (by omega), mB_o (by omega) (by omega)]
      exact t42
    · have hh' : mB s.1 nb h len cr 12 ≠ nI 0 := hh
      rw [mB_o (by omega) (by omega)] at hh'
      show _ = mB s.1 nb h len cr 13
      rw [up2_c _ _ (by omega), ec 4 (by omega) (by omega) (by omega), mB_o (by omega) (by omega)]
      exact t43 hh'
    · have q0 := tl 0 (by omega)
      simp only [Nat.reduceAdd] at q0
      rcases (show k = 0 ∨ 0 < k by omega) with rfl | h0
      · simp (disch := omega) only [Nat.reduceAdd, pk_uLs, q0]
      · simp (disch := omega) only [pk_uLn]
        exact tl k hk
    · have hb' : b < nt (mB s.1 nb h len cr 8) := hb
      rw [e8] at hb'
      by_cases hbb : b = nb
      · subst hbb
        refine ⟨fun k hk => ?_, fun _ => ?_, ?_⟩
        · show _ = mB s.1 b h len cr (14 + 6 * b + k)
          rw [up2_c _ _ (by omega), cb]
          unfold mB
          rcases (show k = 0 ∨ k = 1 ∨ k = 2 ∨ k = 3 ∨ k = 4 by omega) with rfl | rfl | rfl | rfl | rfl <;> simp (disch := omega) only [Nat.reduceAdd, up2_s, up2_k, pk_us, pk_un]
        · show _ = mB s.1 b h len cr (14 + 6 * b + 5)
          rw [up2_c _ _ (by omega), cb, up2_s]
          unfold mB
          rw [pk_us]
        · refine LY_congr (LY_fr u2 (up2_r _ _ (by omega)) (up2_r _ _ (by omega))) (fun y hy => ?_)
          show fset s.2.1 b (rB Y v) b y = _
          rw [fset_s]
          unfold rB fu
          split
          · omega
          · rfl
      · obtain ⟨v1, v2, v3⟩ := tb b (by omega)
        refine ⟨fun k hk => ?_, fun h0 => ?_, ?_⟩
        · show _ = mB s.1 nb h len cr (14 + 6 * b + k)
          rw [up2_c _ _ (by omega), ec _ (by omega) (by omega) (by omega), mB_o (by omega) (by omega)]
          exact v1 k hk
        · show _ = mB s.1 nb h len cr (14 + 6 * b + 5)
          rw [up2_c _ _ (by omega), ec _ (by omega) (by omega) (by omega), mB_o (by omega) (by omega)]
          exact v2 h0
        · have e : fset s.2.1 nb (rB Y v) b = s.2.1 b := fset_n _ _ hbb
          show LY _ _ (fset s.2.1 nb (rB Y v) b)
          rw [e]
          exact LY_fr v3 ((up2_r _ _ (by omega)).trans (ec _ (by omega) (by omega) (by omega))) ((up2_r _ _ (by omega)).trans (ec _ (by omega) (by omega) (by omega)))
    · have hi' : i < nt (mB s.1 nb h len cr 9) := hi
      rw [mB_o (by omega) (by omega), n9] at hi'
      have h6 := sl i (by omega)
      show _ = mB s.1 nb h len cr (74 + 6 * i + k)
      rw [up2_c _ _ (by omega), ec _ (by omega) (by omega) (by omega), mB_o (by omega) (by omega)]
      exact ts i (by omega) k hk
def mS (m : Nat → Int32) (s : Nat) (b p d : Int32) : Nat → Int32 := upd (upd (upd (upd (upd (upd (upd m 9 (m 9 + nI 1)) (74 + 6 * s + 0) b) (74 + 6 * s + 1) p) (74 + 6 * s + 2) d) (74 + 6 * s + 3) (nI 0)) (74 + 6 * s + 4) (nI 0)) (74 + 6 * s + 5) (nI 0)
def sS (b p d : Int32) (s : Sx) : Sx := (mS s.1 (nt (s.1 9)) b p d, s.2.1, s.2.2)
theorem mS_o {m : Nat → Int32} {s k : Nat} {b p d : Int32} (h8 : k ≠ 9) (hk : k < 74 + 6 * s ∨ 74 + 6 * s + 5 < k) : mS m s b p d k = m k := by
  unfold mS
  rw [pk_un (by omega), pk_un (by omega), pk_un (by omega), pk_un (by omega), pk_un (by omega), pk_un (by omega), pk_un (by omega)]
theorem mS_9 {m : Nat → Int32} {s : Nat} {b p d : Int32} : mS m s b p d 9 = m 9 + nI 1 := by
  unfold mS
  rw [pk_un (by omega), pk_un (by omega), pk_un (by omega), pk_un (by omega), pk_un (by omega), pk_un (by omega), pk_us]
/-- a change of stakes alone -/
theorem RT_S {Q : Nat → Prop} {σ σ' : Nat → Nat} {c c' : Nat → Nat → Int32} {l : Nat → Int64} {m m' : Nat → Int32} {f : Nat → Nat → Nat} {acc : Nat → Int64} (hnb : nt (m 8) ≤ 10) (rt : RT Q σ c l (m, f, acc)) (hc : ∀ j, j ≠ 0 → j < 35 → c' j = c j) (hc0 : ∀ k, k ≠ 5 → c' 0 k = c 0 k) (h5 : c' 0 5 = m' 9) (hm : ∀ k, k ≠ 9 → k < 74 → m' k = m k) (hs : ∀ i, i < nt (m' 9) → ∀ k, k < 6 → c' (35 + σ' i) k = m' (74 + 6 * i + k)) : RT Q σ' c' l (m', f, acc) := by
  obtain ⟨t1, t04, t05, t06, t40, t41, t42, t43, tl, tb, ts⟩ := rt
  simp only at t1 t04 t05 t06 t40 t41 t42 t43 tl tb ts
  refine ⟨fun k hk => ?_, ?_, h5, ?_, ?_, ?_, ?_, fun h => ?_, tl, fun b hb => ?_, hs⟩
  · show _ = m' k
    rw [hc 1 (by omega) (by omega), hm k (by omega) (by omega)]
    exact t1 k hk
  · show _ = m' 8
    rw [hc0 4 (by omega), hm _ (by omega) (by omega)]
    exact t04
  · show _ = m' 7
    rw [hc0 6 (by omega), hm _ (by omega) (by omega)]
    exact t06
  · show _ = m' 10
    rw [hc 4 (by omega) (by omega), hm _ (by omega) (by omega)]
    exact t40
  · show _ = m' 11
    rw [hc 4 (by omega) (by omega), hm _ (by omega) (by omega)]
    exact t41
  · show _ = m' 12
    rw [hc 4 (by omega) (by omega), hm _ (by omega) (by omega)]
    exact t42
  · have h' : m' 12 ≠ nI 0 := h
    rw [hm 12 (by omega) (by omega)] at h'
    show _ = m' 13
    rw [hc 4 (by omega) (by omega), hm _ (by omega) (by omega)]
    exact t43 h'
  · have hb' : b < nt (m' 8) := hb
    rw [hm 8 (by omega) (by omega)] at hb'
    obtain ⟨v1, v2, v3⟩ := tb b hb'
    refine ⟨fun k hk => ?_, fun h => ?_, ?_⟩
    · show _ = m' (14 + 6 * b + k)
      rw [hc _ (by omega) (by omega), hm _ (by omega) (by omega)]
      exact v1 k hk
    · show _ = m' (14 + 6 * b + 5)
      rw [hc _ (by omega) (by omega), hm _ (by omega) (by omega)]
      exact v2 h
    · exact LY_fr v3 (hc _ (by omega) (by omega)) (hc _ (by omega) (by omega))
theorem x5_addStake {T : Ty} {R : Rm} {q σ : Nat → Nat} (G : TG T R q σ) (M : Mm) {c : Nat → Nat → Int32} {l : Nat → Int64} {s : Sx} {K Y nb ns : Nat} (g : GS K Y nb ns s) (rt : RT QT σ c l s) (hn : ns < 6) (b p d : Int32) : ∃ c', fn_X5_addStake T R (q 0) b p d (TV q M c l) = some (nI ns, TV q M c' l) ∧ RT QT σ c' l (sS b p d s) := by
  have hnb := g.2.2.2.2.2.1
  have n8 := g.2.2.2.2.2.2.2.2.1
  have n9 := g.2.2.2.2.2.2.2.2.2
  have h9 := g.2.2.2.1
  have rt0 := rt
  obtain ⟨t1, t04, t05, t06, t40, t41, t42, t43, tl, tb, ts⟩ := rt
  have t05' := t05
  rw [h9] at t05'
  obtain ⟨hq, k0, r00, r01, r02, r03, k1, n1, k2, n2, k3, n3, k4, rb, kb, rl, lg, rs, ks, sl, si⟩ := G
  have h6 := sl ns hn
  have kss := ks (σ ns) h6
  refine ⟨up2 (up2 (up2 (up2 (up2 (up2 (up2 c (35 + σ ns) 0 b) (35 + σ ns) 1 p) (35 + σ ns) 2 d) (35 + σ ns) 3 (nI 0)) (35 + σ ns) 4 (nI 0)) (35 + σ ns) 5 (nI 0)) 0 5 (nI ns + nI 1), ?_, ?_⟩
  · unfold fn_X5_addStake fn_X3_begin
    simp (disch := omega) only [↓lm1, l0, l1, l2, l3, l4, l5, l6, l7, l8, l9, l10, l11, l12, l13, l14, l31, l32, l44, l48, l50, l57, l59, l60, l74, l100, l110, l126, l300, l330, l500, l501, l801, l1000, l5000, l5010, l8010, l8192, l9000, l10000, l1000000, chk_t, chk_inb, rfm_s, bnd_e, cal_e, nI_clamp, k0, r00, r01, r02, r03, k1, n1, k2, n2, k3, n3, k4, rb, kb, rl, rs, ks, kss, TV_g hq, TV_s hq, t05', up2_c]
  · unfold sS
    rw [n9]
    have e9 : nt (mS s.1 ns b p d 9) = ns + 1 := by rw [mS_9, h9, nI_add, nt_nI (by omega)]
    refine RT_S (m := s.1) (f := s.2.1) (acc := s.2.2) (by omega) rt0 (fun j h1 h2 => ?_) (fun k hk => ?_) ?_ (fun k h1 h2 => mS_o h1 (by omega)) (fun i hi k hk => ?_)
    · rw [up2_r _ _ h1, up2_r _ _ (by omega), up2_r _ _ (by omega), up2_r _ _ (by omega), up2_r _ _ (by omega), up2_r _ _ (by omega), up2_r _ _ (by omega)]
    · rw [up2_k _ _ hk, up2_c _ _ (by omega), up2_c _ _ (by omega), up2_c _ _ (by omega), up2_c _ _ (by omega), up2_c _ _ (by omega), up2_c _ _ (by omega)]
    · rw [up2_s, mS_9, h9]
    · rw [e9] at hi
      rw [up2_c _ _ (by omega)]
      by_cases e : i = ns
      · subst e
        unfold mS
        rcases (show k = 0 ∨ k = 1 ∨ k = 2 ∨ k = 3 ∨ k = 4 ∨ k = 5 by omega) with rfl | rfl | rfl | rfl | rfl | rfl <;> simp (disch := omega) only [up2_s, up2_k, pk_us, pk_un]
      · have hne : σ i ≠ σ ns := fun h => e (si i ns (by omega) hn h)
        rw [up2_c _ _ (by omega), up2_c _ _ (by omega), up2_c _ _ (by omega), up2_c _ _ (by omega), up2_c _ _ (by omega), up2_c _ _ (by omega), mS_o (by omega) (by omega)]
        exact ts i (by omega) k hk

