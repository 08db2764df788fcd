/-! both together: a text lived -/
def sL (s : Sx) (u v : Nat) : Sx := (upd (upd s.1 0 (nI u)) 2 (nI v), s.2.1, s.2.2)
def snw (tx : Nat → Nat) (tl a : Nat) : Nat := match pY tx tl a with
  | none => 0
  | some p => nm tx a (p.1 - a)
def mlw (tx : Nat → Nat) (tl a : Nat) : Nat := match pY tx tl a with
  | none => 0
  | some p => nm tx (p.1 + 1) (p.2 - (p.1 + 1))
theorem snw_s {tx : Nat → Nat} {tl a e e2 : Nat} (h : pY tx tl a = some (e, e2)) : snw tx tl a = nm tx a (e - a) := by
  unfold snw
  rw [h]
theorem mlw_s {tx : Nat → Nat} {tl a e e2 : Nat} (h : pY tx tl a = some (e, e2)) : mlw tx tl a = nm tx (e + 1) (e2 - (e + 1)) := by
  unfold mlw
  rw [h]
theorem rs_w {tx : Nat → Nat} {tl a y : Nat} (h : rsn tx tl a y = 0) : snw tx tl a ≤ 5000 ∧ mlw tx tl a ≤ 9000 := by
  obtain ⟨-, e, e2, h1, h2, h3, -⟩ := rs_0 h
  rw [snw_s h1, mlw_s h1]
  exact ⟨h2, h3⟩
def lvs (tx : Nat → Nat) (tl Y : Nat) : Nat → Nat → Nat → Sx → Sx
  | 0, _, _, s => s
  | d + 1, i, a, s => if a < tl ∧ rsn tx tl a (Y + i) = 0 then lvs tx tl Y d (i + 1) (nx tx tl a) (sY (sL s (snw tx tl a) (mlw tx tl a))) else s
theorem lvs_t {tx : Nat → Nat} {tl Y d i a : Nat} {s : Sx} (h : a < tl ∧ rsn tx tl a (Y + i) = 0) : lvs tx tl Y (d + 1) i a s = lvs tx tl Y d (i + 1) (nx tx tl a) (sY (sL s (snw tx tl a) (mlw tx tl a))) := if_pos h
theorem lvs_f {tx : Nat → Nat} {tl Y d i a : Nat} {s : Sx} (h : ¬ (a < tl ∧ rsn tx tl a (Y + i) = 0)) : lvs tx tl Y (d + 1) i a s = s := if_neg h
theorem GS_L {K Y nb ns : Nat} {s : Sx} (g : GS K Y nb ns s) {u v : Nat} (hu : u ≤ 5000) (hv : v ≤ 9000) : GS K Y nb ns (sL s u v) := by
  obtain ⟨J, a7, a8, a9, b1, b2, b3, n7, n8, n9⟩ := g
  have I1 : IV (upd s.1 0 (nI u)) := IV_set J.1 (k := 0) (by omega) (show rg (nI u) 0 5000 from rg_nI (by omega) hu (by omega))
  have I2 : IV (upd (upd s.1 0 (nI u)) 2 (nI v)) := IV_set I1 (k := 2) (by omega) (show rg (nI v) 0 9000 from rg_nI (by omega) hv (by omega))
  have e : ∀ j, j ≠ 0 → j ≠ 2 → (sL s u v).1 j = s.1 j := fun j h1 h2 => (pk_un h2).trans (pk_un h1)
  have I3 : IV (sL s u v).1 := I2
  have J2 : JV K (sL s u v).1 (sL s u v).2.1 := JV_m (m' := (sL s u v).1) J I3 (e 7 (by omega) (by omega)) (e 8 (by omega) (by omega)) (e 10 (by omega) (by omega)) (e 11 (by omega) (by omega)) (e 12 (by omega) (by omega)) (e 13 (by omega) (by omega)) (e 19 (by omega) (by omega))
  exact GS_mk (s := sL s u v) J2 ((e 7 (by omega) (by omega)).trans a7) ((e 8 (by omega) (by omega)).trans a8) ((e 9 (by omega) (by omega)).trans a9) b1 b2 b3
theorem lv_step {Y nb ns : Nat} {s : Sx} (g : GS (1000000 * nb + 300000 * Y) Y nb ns s) (hz : Zs s) (hY : Y + 1 ≤ 500) {u v : Nat} (hu : u ≤ 5000) (hv : v ≤ 9000) : GS (1000000 * nb + 300000 * (Y + 1)) (Y + 1) nb ns (sY (sL s u v)) ∧ Zs (sY (sL s u v)) := by
  have g1 := GS_L g hu hv
  have hz1 : Zs (sL s u v) := hz
  obtain ⟨-, h2, h3⟩ := OK_Ys g1 hz1 1 hY
  exact ⟨h2, h3⟩
theorem lvs_ok {tx : Nat → Nat} {tl Y nb ns : Nat} : ∀ d i a s, d + i = 60 → 4 * i ≤ a → a ≤ tl → tl ≤ 60 → Y + i ≤ 500 → GS (1000000 * nb + 300000 * (Y + i)) (Y + i) nb ns s → Zs s → OKs (lvs tx tl Y d i a s) := by
  intro d
  induction d with
  | zero =>
    intro i a s h1 h2 h3 h3' h4 g hz
    omega
  | succ d ih =>
    intro i a s h1 h2 h3 h3' h4 g hz
    by_cases h : a < tl ∧ rsn tx tl a (Y + i) = 0
    · obtain ⟨n1, n2, n3⟩ := ps_nx h4 h2 h
      obtain ⟨w1, w2⟩ := rs_w h.2
      obtain ⟨g1, z1⟩ := lv_step g hz (by omega) w1 w2
      rw [lvs_t h]
      exact ih (i + 1) _ _ (by omega) n1 n2 h3' n3 g1 z1
    · rw [lvs_f h]
      exact ⟨Y + i, nb, ns, g, h4, hz⟩
theorem CT_TV {ad : Nat → Nat} (hi : ∀ a b : Nat, (ad a = ad b) = (a = b)) {B : Nat} (hB : B = 1 ∨ BS B) {M : Mm} {tl : Nat} {tx : Nat → Nat} (ct : CT ad M tl tx) (c : Nat → Nat → Int32) (l : Nat → Int64) : CT ad (TV (qq ad B) M c l) tl tx := CT_FX ct (TV_out hi hB (.inr (.inr (.inl rfl))) M c l).1 (TV_out hi hB (.inr (.inr (.inr (.inl rfl)))) M c l).1
theorem x6_live_loop {ad : Nat → Nat} (hi : ∀ a b : Nat, (ad a = ad b) = (a = b)) {T : Ty} {R : Rm} {B : Nat} (hB : B = 1 ∨ BS B) {σ : Nat → Nat} (tg : TG T R (qq ad B) σ) (X : XG ad T R) (w0 : isK T (ad 0) 6 = true) (zx : R (ad 0) 2 = some (ad 207)) (z0 : R (ad 0) 3 = some (qq ad B 0)) (M : Mm) {tl : Nat} {tx : Nat → Nat} (ct : CT ad M tl tx) {Y nb ns : Nat} (hn : 0 < nb) : ∀ d i a c l s fuel, d + i = 60 → 4 * i ≤ a → a ≤ tl → Y + i ≤ 500 → GS (1000000 * nb + 300000 * (Y + i)) (Y + i) nb ns s → Zs s → RT QT σ c l s → d < fuel → ∃ c' l', fb_X6_live_44 T (ad 0) fuel (nI (ps tx tl Y d i a).1) (nI a) (nI i) (TV (qq ad B) M c l) R = some (nI (ps tx tl Y d i a).1, TV (qq ad B) M c' l', R) ∧ RT QT σ c' l' (lvs tx tl Y d i a s) := by
  have x1 := X.1
  have htl := ct.2.1
  have tg0 := tg
  obtain ⟨hq, k0, r00, r01, r02, r03, k1, n1, k2, n2, k3, n3, k4, rb, kb, rl, lg, rs, ks, sl, si⟩ := tg
  intro d
  induction d with
  | zero =>
    intro i a c l s fuel h1 h2 h3 h4 g hz rt hf
    omega
  | succ d ih =>
    intro i a c l s fuel h1 h2 h3 h4 g hz rt hf
    obtain ⟨n', rfl⟩ : ∃ n', fuel = n' + 1 := ⟨fuel - 1, by omega⟩
    rw [fbs_X6_live_44]
    by_cases h : a < tl ∧ rsn tx tl a (Y + i) = 0
    · obtain ⟨n1, n2, n3⟩ := ps_nx h4 h2 h
      obtain ⟨p1, p2, p3, p4, -⟩ := ps_e (tx := tx) (Y := Y) htl d (i + 1) (nx tx tl a) (by omega) n1 n2 n3
      obtain ⟨w1, w2⟩ := rs_w h.2
      have hnb := g.2.2.2.2.2.1
      have g0 := GS_L g w1 w2
      obtain ⟨g1, z1⟩ := lv_step g hz (by omega) w1 w2
      have I := g.1.1
      have I1 : IV (upd s.1 0 (nI (snw tx tl a))) := IV_set I (k := 0) (by omega) (show rg (nI (snw tx tl a)) 0 5000 from rg_nI (by omega) w1 (by omega))
      have r1 := RT_set I rt (k := 0) (by omega) (nI (snw tx tl a))
      have r2 := RT_set (s := (upd s.1 0 (nI (snw tx tl a)), s.2.1, s.2.2)) I1 r1 (k := 2) (by omega) (nI (mlw tx tl a))
      have r2' : RT QT σ (up2 (up2 c 1 0 (nI (snw tx tl a))) 1 2 (nI (mlw tx tl a))) l (sL s (snw tx tl a) (mlw tx tl a)) := r2
      obtain ⟨c1, lb, y1, y2⟩ := x5_year tg0 M g0 (by omega) hn (by omega) r2'
      obtain ⟨c2, lc, u1, u2⟩ := ih (i + 1) (nx tx tl a) c1 lb _ n' (by omega) n1 n2 n3 g1 z1 y2 (by omega)
      obtain ⟨-, e, e2, q1, -, -, q4⟩ := rs_0 h.2
      obtain ⟨-, t1', -⟩ := x4_year X (CT_TV hi hB ct c l) h3 q1
      obtain ⟨-, -, t2'⟩ := x4_year X (CT_TV hi hB ct (up2 c 1 0 (nI (snw tx tl a))) l) h3 q1
      obtain ⟨t3', -, -⟩ := x4_year X (CT_TV hi hB ct c1 lb) h3 q1
      rw [← snw_s q1] at t1'
      rw [← mlw_s q1] at t2'
      rw [← q4] at t3'
      have s1 := TV_s hq M c l (j := 1) 0 (nI (snw tx tl a)) (by omega)
      have s2 := TV_s hq M (up2 c 1 0 (nI (snw tx tl a))) l (j := 1) 2 (nI (mlw tx tl a)) (by omega)
      rw [ps_t h, lvs_t h]
      refine ⟨c2, lc, ?_, u2⟩
      rw [← u1]
      unfold fs_X6_live_44
      simp (disch := omega) only [↓cal_w6, ↓cal_w7, ↓lm1, l0, l1, l2, l3, l4, l5, l6, l7, l8, l9, l10, l11, l12, l13, l14, l31, l32, l44, l48, l50, l57, l59, l60, l74, l100, l110, l126, l300, l330, l500, l501, l801, l1000, l5000, l5010, l8010, l8192, l9000, l10000, l1000000, and_self, and_true, true_and, and_false, false_and, nI_add, pk_mul, nI_clamp, ↓reduceIte, eF, lT, lF, leT, leF, chk_d, chk_t, chk_inb, rfm_s, bnd_e, cal_e, calR_e, ↓chk_q w0, ↓rfm_q z0, ↓chk_q k0, w0, z0, k0, r00, r01, r02, r03, k1, n1, k2, n2, k3, n3, k4, rb, kb, rl, rs, ks, zx, x1, t1', t2', t3', s1, s2, y1]
    · rw [ps_f h, lvs_f h]
      refine ⟨c, l, ?_, rt⟩
      unfold fs_X6_live_44
      simp (disch := omega) only [↓cal_w6, ↓cal_w7, ↓lm1, l0, l1, l2, l3, l4, l5, l6, l7, l8, l9, l10, l11, l12, l13, l14, l31, l32, l44, l48, l50, l57, l59, l60, l74, l100, l110, l126, l300, l330, l500, l501, l801, l1000, l5000, l5010, l8010, l8192, l9000, l10000, l1000000, and_self, and_true, true_and, and_false, false_and, nI_add, pk_mul, nI_clamp, ↓reduceIte, eF, lT, lF, leT, leF, chk_d, chk_t, chk_inb, rfm_s, bnd_e, cal_e, calR_e]
/-- what the reference's living leaves as it was -/
def FL (ad : Nat → Nat) (M M' : Mm) : Prop := (∀ r, r ≠ 250 → r ≠ 251 → r ≠ 252 → M'.1 (ad r) = M.1 (ad r)) ∧ (∀ r, r ≠ 253 → M'.2 (ad r) = M.2 (ad r)) ∧ ∀ k, k < 13 → gI M' (ad 250) k = gI M (ad 250) k
theorem FL_r (ad : Nat → Nat) (M : Mm) : FL ad M M := ⟨fun _ _ _ _ => rfl, fun _ _ => rfl, fun _ _ => rfl⟩
theorem FL_t {ad : Nat → Nat} {M M' M'' : Mm} (h : FL ad M M') (h' : FL ad M' M'') : FL ad M M'' := ⟨fun r a b c => (h'.1 r a b c).trans (h.1 r a b c), fun r a => (h'.2.1 r a).trans (h.2.1 r a), fun k hk => (h'.2.2 k hk).trans (h.2.2 k hk)⟩
theorem FL_J {ad : Nat → Nat} {M M' : Mm} (h : FJ ad M M') : FL ad M M' := ⟨fun r a _ _ => h.1 r a, fun r _ => h.2.1 r, h.2.2⟩
theorem FL_PS {ad : Nat → Nat} (hi : ∀ a b : Nat, (ad a = ad b) = (a = b)) (M : Mm) (s : Sx) : FL ad M (PS ad M s) := ⟨fun r _ b c => PS_I hi M s b c, fun r a => PS_J hi M s a, fun k _ => congrFun (PS_I hi M s (by omega) (by omega)) k⟩
theorem x7_live_loop {ad : Nat → Nat} {T : Ty} {R : Rm} (G : RG ad T R) {tl : Nat} {tx : Nat → Nat} (htl : tl ≤ 60) (htx : ∀ k, k < tl → 32 ≤ tx k ∧ tx k ≤ 126) {Y nb ns : Nat} (hn : 0 < nb) : ∀ d i a s fuel (M : Mm), d + i = 60 → 4 * i ≤ a → a ≤ tl → Y + i ≤ 500 → GS (1000000 * nb + 300000 * (Y + i)) (Y + i) nb ns s → Zs s → RS ad M s → RX ad M tl tx → gI M (ad 250) 13 = nI a → ¬ (ps tx tl Y d i a).2 < tl → d < fuel → ∃ M', fb_X7_live_31 T R (ad 250) fuel (nI i) M = some (nI (ps tx tl Y d i a).1, M') ∧ RS ad M' (lvs tx tl Y d i a s) ∧ FL ad M M' := by
  have G0 := G
  obtain ⟨hi, k0, k251, n251, r251, -⟩ := G
  intro d
  induction d with
  | zero =>
    intro i a s fuel M h1 h2 h3 h4 g hz hs rx h13 he hf
    omega
  | succ d ih =>
    intro i a s fuel M h1 h2 h3 h4 g hz hs rx h13 he hf
    obtain ⟨n', rfl⟩ : ∃ n', fuel = n' + 1 := ⟨fuel - 1, by omega⟩
    have rx1 := rx.1
    rw [fbs_X7_live_31]
    by_cases h : a < tl ∧ rsn tx tl a (Y + i) = 0
    · obtain ⟨n1, n2, n3⟩ := ps_nx h4 h2 h
      obtain ⟨w1, w2⟩ := rs_w h.2
      have hnb := g.2.2.2.2.2.1
      have g0 := GS_L g w1 w2
      obtain ⟨g1, z1⟩ := lv_step g hz (by omega) w1 w2
      obtain ⟨-, e, e2, q1, -, -, q4⟩ := rs_0 h.2
      obtain ⟨M1, u1, u2, u3, u4⟩ := x7_readYear G0 htl htx (a := a) (by omega) rx h13
      obtain ⟨v13, v16, v15⟩ := u4 e e2 q1
      rw [q1] at u1
      have ei : bI (some (e, e2)).isSome = nI 1 := rfl
      rw [ei] at u1
      rw [← snw_s q1] at v16
      rw [← mlw_s q1] at v15
      rw [← q4] at v13
      have rs1 := FJ_RS u2 hs
      have e1 : sI M1 (ad 251) 0 (nI (snw tx tl a)) = PS ad M1 (upd s.1 0 (nI (snw tx tl a)), s.2.1, s.2.2) := by
        have hh := sP3_m ad M1 s.1 (fI s.2.1) s.2.2 0 (nI (snw tx tl a))
        have eb : P3 ad M1 s.1 (fI s.2.1) s.2.2 = M1 := RS_PS hi rs1
        rw [eb] at hh
        exact hh
      have e15 : gI (PS ad M1 (upd s.1 0 (nI (snw tx tl a)), s.2.1, s.2.2)) (ad 250) 15 = nI (mlw tx tl a) := (congrFun (PS_I hi M1 _ (by omega) (by omega)) 15).trans v15
      have e3 : sI (PS ad M1 (upd s.1 0 (nI (snw tx tl a)), s.2.1, s.2.2)) (ad 251) 2 (nI (mlw tx tl a)) = PS ad M1 (sL s (snw tx tl a) (mlw tx tl a)) := sP3_m ad M1 _ _ _ 2 _
      have y := x7_year G0 (M := M1) g0 (by omega) hn (by omega)
      have he' : ¬ (ps tx tl Y d (i + 1) (nx tx tl a)).2 < tl := by
        rw [← ps_t h]
        exact he
      obtain ⟨M2, o1, o2, o3⟩ := ih (i + 1) (nx tx tl a) _ n' (PS ad M1 (sY (sL s (snw tx tl a) (mlw tx tl a)))) (by omega) n1 n2 n3 g1 z1 (PS_RS hi M1 _) (RX_fr (FJ_RX u2 rx) (congrFun (PS_I hi M1 _ (by omega) (by omega)) 12) (PS_I hi M1 _ (by omega) (by omega))) ((congrFun (PS_I hi M1 _ (by omega) (by omega)) 13).trans v13) he' (by omega)
      rw [ps_t h, lvs_t h]
      refine ⟨M2, ?_, o2, FL_t (FL_J u2) (FL_t (FL_PS hi M1 _) o3)⟩
      rw [← o1]
      unfold fs_X7_live_31
      simp (disch := omega) only [↓cal_w6, ↓cal_w7, ↓lm1, l0, l1, l2, l3, l4, l5, l6, l7, l8, l9, l10, l11, l12, l13, l14, l31, l32, l44, l48, l50, l57, l59, l60, l74, l100, l110, l126, l300, l330, l500, l501, l801, l1000, l5000, l5010, l8010, l8192, l9000, l10000, l1000000, and_self, and_true, true_and, and_false, false_and, nI_add, pk_mul, nI_clamp, ↓reduceIte, eF, lT, lF, leT, leF, chk_d, chk_t, chk_inb, rfm_s, bnd_e, cal_e, calR_e, k0, k251, n251, r251, rx1, h13, ↓cal_q u1, u1, v16, e1, e15, e3, y]
    · rw [ps_f h] at he
      rw [ps_f h, lvs_f h]
      have ha : a = tl := by
        have : ¬ a < tl := he
        omega
      refine ⟨M, ?_, hs, FL_r ad M⟩
      unfold fs_X7_live_31
      simp (disch := omega) only [↓cal_w6, ↓cal_w7, ↓lm1, l0, l1, l2, l3, l4, l5, l6, l7, l8, l9, l10, l11, l12, l13, l14, l31, l32, l44, l48, l50, l57, l59, l60, l74, l100, l110, l126, l300, l330, l500, l501, l801, l1000, l5000, l5010, l8010, l8192, l9000, l10000, l1000000, and_self, and_true, true_and, and_false, false_and, nI_add, pk_mul, nI_clamp, ↓reduceIte, eF, lT, lF, leT, leF, chk_d, chk_t, chk_inb, rfm_s, bnd_e, cal_e, calR_e, k0, rx1, h13]
/-- as step_rec, but the reference has read its text before it keeps -/
theorem step_recJ {ad : Nat → Nat} {T : Ty} {M : Mm} {R : Rm} {s : Sx} {n : Nat} {h : Nat → Sx} {tl : Nat} {tx : Nat → Nat} {β : Nat → Nat} {σ : Nat → Nat → Nat} (w : WD ad T M R s n h tl tx β σ) : ∃ M' R' β', fn_X6_recordState T (ad 0) M R = some ((), M', R') ∧ CG ad T R' β' σ ∧ RG ad T R' ∧ RT QT (σ (β' 4)) (CC ad M' (β' 4)) (CL ad M' (β' 4)) s ∧ FY ad M M' ∧ CT ad M' tl tx ∧ TV (qq ad (β' 4)) M' (CC ad M' (β' 4)) (CL ad M' (β' 4)) = M' ∧ ∀ (c : Nat → Nat → Int32) (l : Nat → Int64) (s' : Sx) (M1 : Mm), FJ ad (TV (qq ad (β' 4)) M' c l) M1 → RT QT (σ (β' 4)) c l s' → OKs s' → ∃ M3, fn_X7_keep T R' (ad 250) M1 = some ((), PS ad M3 s) ∧ WD ad T (PS ad M3 s') R' s' (np n) (hp n h s) tl tx β' σ := by
  obtain ⟨G, hs, ct, GR, rsw, rk, rx⟩ := w
  have hi := GR.1
  obtain ⟨M', R', β', p1, G', hs', fy, rr, m7, m8⟩ := x6_record hi G hs
  have b4 := CG_bs G' (show 4 < 5 by omega)
  have GR' := RG_R GR (rr _ (by rw [Ne, hi]; omega))
  have ctm : CT ad M' tl tx := CT_FX ct m7 m8
  refine ⟨M', R', β', p1, G', GR', hs'.2.2.1, fy, ctm, M_TV hi M' (β' 4), fun c l s' M1 fj rt ok => ?_⟩
  have cs2 := CS_now hi G' hs' rt ok
  have fy2 := FY_t fy (FY_TV hi (.inr b4) M' c l)
  have cs3 : CS ad M1 s' (np n) (hp n h s) β' σ := CS_FX G' cs2 (fun r hr => ⟨fj.1 r (by omega), fj.2.1 r⟩)
  have rs3 := FJ_RS fj (FY_RS fy2 rsw)
  have rk3 : RK ad M1 n h := RK_fr (FY_RK fy2 rk) (fj.2.2 10 (by omega)) (fj.1 257 (by omega)) (fj.1 258 (by omega)) (fj.1 259 (by omega)) (fj.2.1 260)
  obtain ⟨M3, k1, k2, k3⟩ := x7_keep GR' rs3 rk3
  have ctn : CT ad M1 tl tx := CT_FX (CT_TV hi (.inr b4) ctm c l) (fj.1 207 (by omega)) (fj.1 208 (by omega))
  refine ⟨M3, ?_, WD_put G' cs3 ctn GR' k3 k2 (FJ_RX fj (FY_RX fy2 rx))⟩
  rw [k1, RS_PS hi (FK_RS k3 rs3)]
theorem g_live {ad : Nat → Nat} {T : Ty} {M : Mm} {R : Rm} {s : Sx} {n : Nat} {h : Nat → Sx} {tl' : Nat} {tx : Nat → Nat} {β : Nat → Nat} {σ : Nat → Nat → Nat} (w : WD ad T M R s n h tl' tx β σ) : SW ad T (fn_X6_live T (ad 0) M R) (fun R1 M1 => fn_X7_live T R1 (ad 250) M1) := by
  have w1 := w
  obtain ⟨G, hs, ct, GR, rsw, rk, rx⟩ := w
  have hi := GR.1
  have b4 := CG_bs G (show 4 < 5 by omega)
  have tg := CG_tg G (.inr b4)
  have tg0 := tg
  have hM := M_TV hi M (β 4)
  have rt := hs.2.2.1
  have rt0 := rt
  obtain ⟨Y, nb, ns, g, hY5, hz⟩ := hs.2.2.2.2.1
  have P := RS_RP rsw
  have I := g.1.1
  have hY8 := g.2.2.2.2.1
  have hnb := g.2.2.2.2.2.1
  have hns := g.2.2.2.2.2.2.1
  have n7 := g.2.2.2.2.2.2.2.1
  have n8 := g.2.2.2.2.2.2.2.2.1
  have n9 := g.2.2.2.2.2.2.2.2.2
  have h7 := g.2.1
  have h8 := g.2.2.1
  have h9 := g.2.2.2.1
  have hK : 1000000 * nb + 300000 * Y < 2 ^ 30 := by omega
  have z0 := G.2.2.2.2.1
  have w0 := G.1
  have p7 : gI M (ad 251) 7 = nI Y := (P.1 7 (by omega)).trans h7
  have p8 : gI M (ad 251) 8 = nI nb := (P.1 8 (by omega)).trans h8
  have p9 : gI M (ad 251) 9 = nI ns := (P.1 9 (by omega)).trans h9
  have GR0 := GR
  obtain ⟨_, kR, k251, n251, r251, k252, n252, r252, k253, n253, r253, k254, n254, r254, k255, n255, r255, k256, n256, r256, k257, n257, r257, k258, n258, r258, k259, n259, r259, k260, n260, r260, k261, n261, r261⟩ := GR
  obtain ⟨t1, t04, t05, t06, t40, t41, t42, t43, tl, tb, ts⟩ := rt
  rw [h8] at t04
  rw [h9] at t05
  rw [h7] at t06
  obtain ⟨hq, k0, r00, r01, r02, r03, k1, n1, k2, n2, k3, n3, k4, rb, kb, rl, lg, rs, ks, sl, si⟩ := tg
  have X := CG_XG G
  have x1 := X.1
  have zx : R (ad 0) 2 = some (ad 207) := G.2.2.2.1
  have ct1 := ct.1
  have htl := ct.2.1
  have htx := ct.2.2.2
  have h6 : gI M (qq ad (β 4) 0) 6 = nI Y := t06
  obtain ⟨a1, a2⟩ := x6_possible X w0 zx z0 k0 ct hY5 h6
  obtain ⟨e1, e2, e3, e4, e5⟩ := ps_e (tx := tx) (Y := Y) htl 60 0 0 (by omega) (by omega) (by omega) (by omega)
  by_cases hc : (ps tx tl' Y 60 0 0).2 < tl'
  · obtain ⟨M', q1, q2, q3⟩ := x7_reason GR0 htl htx hY5 rx p7
    have hne := e5 hc
    have hle := rs_le tx tl' (ps tx tl' Y 60 0 0).2 (Y + (ps tx tl' Y 60 0 0).1)
    rw [if_pos hc] at q1
    refine ⟨-2000000002, M, R, M', ?_, ?_, s, n, h, tl', tx, β, σ, WD_J w1 q2⟩
    · unfold fn_X6_live
      simp (disch := omega) only [↓cal_w6, ↓cal_w7, ↓lm1, l0, l1, l2, l3, l4, l5, l6, l7, l8, l9, l10, l11, l12, l13, l14, l31, l32, l44, l48, l50, l57, l59, l60, l74, l100, l110, l126, l300, l330, l500, l501, l801, l1000, l5000, l5010, l8010, l8192, l9000, l10000, l1000000, and_self, and_true, true_and, and_false, false_and, nI_add, pk_mul, nI_clamp, ↓reduceIte, eF, lT, lF, leT, leF, chk_d, chk_t, chk_inb, rfm_s, bnd_e, cal_e, calR_e, w0, zx, x1, a1, a2, ct1]
    · show fn_X7_live T R (ad 250) M = _
      unfold fn_X7_live
      simp (disch := omega) only [↓cal_w6, ↓cal_w7, ↓lm1, l0, l1, l2, l3, l4, l5, l6, l7, l8, l9, l10, l11, l12, l13, l14, l31, l32, l44, l48, l50, l57, l59, l60, l74, l100, l110, l126, l300, l330, l500, l501, l801, l1000, l5000, l5010, l8010, l8192, l9000, l10000, l1000000, and_self, and_true, true_and, and_false, false_and, nI_add, pk_mul, nI_clamp, ↓reduceIte, eF, lT, lF, leT, leF, chk_d, chk_t, chk_inb, rfm_s, bnd_e, cal_e, calR_e, kR, q1]
  by_cases h0 : nb = 0
  · subst h0
    obtain ⟨M', q1, q2, q3⟩ := x7_reason GR0 htl htx hY5 rx p7
    rw [if_neg hc] at q1
    have p8' : gI M' (ad 251) 8 = nI 0 := (congrFun (q2.1 251 (by omega)) 8).trans p8
    refine ⟨-2000000002, M, R, M', ?_, ?_, s, n, h, tl', tx, β, σ, WD_J w1 q2⟩
    · unfold fn_X6_live
      simp (disch := omega) only [↓cal_w6, ↓cal_w7, ↓lm1, l0, l1, l2, l3, l4, l5, l6, l7, l8, l9, l10, l11, l12, l13, l14, l31, l32, l44, l48, l50, l57, l59, l60, l74, l100, l110, l126, l300, l330, l500, l501, l801, l1000, l5000, l5010, l8010, l8192, l9000, l10000, l1000000, and_self, and_true, true_and, and_false, false_and, nI_add, pk_mul, nI_clamp, ↓reduceIte, eF, lT, lF, leT, leF, chk_d, chk_t, chk_inb, rfm_s, bnd_e, cal_e, calR_e, w0, zx, x1, a1, a2, ct1, ↓chk_q w0, ↓rfm_q z0, ↓chk_q k0, w0, z0, k0, r00, r01, r02, r03, k1, n1, k2, n2, k3, n3, k4, rb, kb, rl, rs, ks, gCC, t04]
    · show fn_X7_live T R (ad 250) M = _
      unfold fn_X7_live
      simp (disch := omega) only [↓cal_w6, ↓cal_w7, ↓lm1, l0, l1, l2, l3, l4, l5, l6, l7, l8, l9, l10, l11, l12, l13, l14, l31, l32, l44, l48, l50, l57, l59, l60, l74, l100, l110, l126, l300, l330, l500, l501, l801, l1000, l5000, l5010, l8010, l8192, l9000, l10000, l1000000, and_self, and_true, true_and, and_false, false_and, nI_add, pk_mul, nI_clamp, ↓reduceIte, eF, lT, lF, leT, leF, chk_d, chk_t, chk_inb, rfm_s, bnd_e, cal_e, calR_e, ↓chk_q kR, kR, k251, n251, r251, k252, n252, r252, k253, n253, r253, k254, n254, r254, k255, n255, r255, k256, n256, r256, k257, n257, r257, k258, n258, r258, k259, n259, r259, k260, n260, r260, k261, n261, r261, q1, p8']
  obtain ⟨M', R', β', p1, G', GR', rt', fy, ctm, eM, nxt⟩ := step_recJ w1
  have b4' := CG_bs G' (show 4 < 5 by omega)
  obtain ⟨c, l, u1, u2⟩ := x6_live_loop hi (.inr b4') (CG_tg G' (.inr b4')) (CG_XG G') G'.1 G'.2.2.2.1 G'.2.2.2.2.1 M' ctm (Y := Y) (nb := nb) (ns := ns) (by omega) 60 0 0 (CC ad M' (β' 4)) (CL ad M' (β' 4)) s FU (by omega) (by omega) (by omega) (by omega) g hz rt' (FU_gt (by omega))
  rw [eM] at u1
  have f2 := FY_t fy (FY_TV hi (.inr b4') M' c l)
  have rx2 := FY_RX f2 rx
  have p7' : gI (TV (qq ad (β' 4)) M' c l) (ad 251) 7 = nI Y := (congrFun (f2 251 (by omega)).1 7).trans p7
  have p8' : gI (TV (qq ad (β' 4)) M' c l) (ad 251) 8 = nI nb := (congrFun (f2 251 (by omega)).1 8).trans p8
  obtain ⟨M1, q1, q2, q3⟩ := x7_reason GR' htl htx hY5 rx2 p7'
  rw [if_neg hc] at q1
  have p8'' : gI M1 (ad 251) 8 = nI nb := (congrFun (q2.1 251 (by omega)) 8).trans p8'
  have okl := lvs_ok (tx := tx) (tl := tl') (Y := Y) (nb := nb) (ns := ns) 60 0 0 s (by omega) (by omega) (by omega) htl (by omega) g hz
  obtain ⟨M3, k1', k2'⟩ := nxt c l _ M1 q2 u2 okl
  -- the reference lives on from what it kept
  have rx3 : RX ad (PS ad M3 s) tl' tx := by
    have r := k2'.2.2.2.2.2.2
    refine RX_fr r ?_ ?_
    · exact (congrFun (PS_I hi M3 _ (by omega) (by omega)) 12).trans (congrFun (PS_I hi M3 _ (by omega) (by omega)) 12).symm
    · exact (PS_I hi M3 _ (by omega) (by omega)).trans (PS_I hi M3 _ (by omega) (by omega)).symm
  have f4 := FJ_s hi (PS ad M3 s) (k := 13) (by omega) (nI 0)
  obtain ⟨M5, o1, o2, o3⟩ := x7_live_loop GR' htl htx (Y := Y) (nb := nb) (ns := ns) (by omega) 60 0 0 s FU (sI (PS ad M3 s) (ad 250) 13 (nI 0)) (by omega) (by omega) (by omega) (by omega) g hz (FJ_RS f4 (PS_RS hi M3 s)) (FJ_RX f4 rx3) (gI_s _ _ _ _) hc (FU_gt (by omega))
  have fl := FL_t (FL_PS hi M3 s) (FL_t (FL_J f4) o3)
  have rsE := PS_RS hi M3 (lvs tx tl' Y 60 0 0 s)
  have fjE : FJ ad (PS ad M3 (lvs tx tl' Y 60 0 0 s)) M5 := by
    refine ⟨fun r hr => ?_, fun r => ?_, fun k hk => ?_⟩
    · by_cases r1 : r = 251
      · subst r1
        exact o2.1.trans rsE.1.symm
      · by_cases r2 : r = 252
        · subst r2
          exact o2.2.1.trans rsE.2.1.symm
        · exact (fl.1 r hr r1 r2).trans (PS_I hi M3 _ r1 r2).symm
    · by_cases r1 : r = 253
      · subst r1
        exact o2.2.2.trans rsE.2.2.symm
      · exact (fl.2.1 r r1).trans (PS_J hi M3 _ r1).symm
    · exact (fl.2.2 k hk).trans (congrFun (PS_I hi M3 _ (by omega) (by omega)) k).symm
  refine ⟨nI (ps tx tl' Y 60 0 0).1, TV (qq ad (β' 4)) M' c l, R', M5, ?_, ?_, _, _, _, _, _, _, _, WD_J k2' fjE⟩
  · unfold fn_X6_live
    simp (disch := omega) only [↓cal_w6, ↓cal_w7, ↓lm1, l0, l1, l2, l3, l4, l5, l6, l7, l8, l9, l10, l11, l12, l13, l14, l31, l32, l44, l48, l50, l57, l59, l60, l74, l100, l110, l126, l300, l330, l500, l501, l801, l1000, l5000, l5010, l8010, l8192, l9000, l10000, l1000000, and_self, and_true, true_and, and_false, false_and, nI_add, pk_mul, nI_clamp, ↓reduceIte, eF, lT, lF, leT, leF, chk_d, chk_t, chk_inb, rfm_s, bnd_e, cal_e, calR_e, w0, zx, x1, a1, a2, ct1, ↓chk_q w0, ↓rfm_q z0, ↓chk_q k0, w0, z0, k0, r00, r01, r02, r03, k1, n1, k2, n2, k3, n3, k4, rb, kb, rl, rs, ks, gCC, t04, h0, p1, calR_u, u1]
  · obtain ⟨-, kk0, kk1, kk2, kk3, -⟩ := GR'
    show fn_X7_live T R' (ad 250) _ = _
    unfold fn_X7_live
    simp (disch := omega) only [↓cal_w6, ↓cal_w7, ↓lm1, l0, l1, l2, l3, l4, l5, l6, l7, l8, l9, l10, l11, l12, l13, l14, l31, l32, l44, l48, l50, l57, l59, l60, l74, l100, l110, l126, l300, l330, l500, l501, l801, l1000, l5000, l5010, l8010, l8192, l9000, l10000, l1000000, and_self, and_true, true_and, and_false, false_and, nI_add, pk_mul, nI_clamp, ↓reduceIte, eF, lT, lF, leT, leF, chk_d, chk_t, chk_inb, rfm_s, bnd_e, cal_e, calR_e, kk0, kk1, kk2, kk3, q1, p8'', h0, k1', o1]
