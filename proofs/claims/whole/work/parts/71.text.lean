/-! both together: the text typed -/
theorem CS_FX' {ad : Nat → Nat} {T : Ty} {R : Rm} {M M' : Mm} {s : Sx} {n : Nat} {h : Nat → Sx} {β : Nat → Nat} {σ : Nat → Nat → Nat} (G : CG ad T R β σ) (hs : CS ad M s n h β σ) (f : ∀ r, r < 250 → r ≠ 207 → r ≠ 208 → M'.1 (ad r) = M.1 (ad r) ∧ M'.2 (ad r) = M.2 (ad r)) : CS ad M' s n h β σ := by
  have lt : ∀ k, k < 5 → ∀ j, j < 41 → β k + j < 250 ∧ β k + j ≠ 207 ∧ β k + j ≠ 208 := fun k hk j hj => by
    have := CG_bs G hk
    unfold BS at this
    omega
  obtain ⟨h1, h2, h3, h4, h5, h6⟩ := hs
  have hl : ∀ k, k < 5 → CL ad M' (β k) = CL ad M (β k) := fun k hk => by
    obtain ⟨a, b, c⟩ := lt k hk 0 (by omega)
    exact (f _ a b c).2
  have hc : ∀ k, k < 5 → ∀ j, j < 41 → CC ad M' (β k) j = CC ad M (β k) j := fun k hk j hj => by
    obtain ⟨a, b, c⟩ := lt k hk j hj
    exact (f _ a b c).1
  refine ⟨?_, h2, ?_, fun k hk => ?_, h5, h6⟩
  · unfold gI at *
    rw [(f 0 (by omega) (by omega) (by omega)).1]
    exact h1
  · rw [hl 4 (by omega)]
    exact RT_cc (OK_IV h5) (CG_sl G (.inr (CG_bs G (by omega)))) (hc 4 (by omega)) h3
  · rw [hl k (by omega)]
    exact RT_cc (OK_IV (h6 k hk)) (CG_sl G (.inr (CG_bs G (by omega)))) (hc k (by omega)) (h4 k hk)
theorem WD_text {ad : Nat → Nat} {T : Ty} {R : Rm} {M M' : Mm} {s : Sx} {n : Nat} {h : Nat → Sx} {tl tl2 : Nat} {tx tx2 : Nat → Nat} {β : Nat → Nat} {σ : Nat → Nat → Nat} (w : WD ad T M R s n h tl tx β σ) (f : ∀ r, r ≠ 207 → r ≠ 208 → r ≠ 250 → r ≠ 261 → M'.1 (ad r) = M.1 (ad r)) (fj : ∀ r, M'.2 (ad r) = M.2 (ad r)) (f10 : gI M' (ad 250) 10 = gI M (ad 250) 10) (ct : CT ad M' tl2 tx2) (rx : RX ad M' tl2 tx2) : WD ad T M' R s n h tl2 tx2 β σ := by
  obtain ⟨G, hs, _, GR, rsw, rk, _⟩ := w
  exact ⟨G, CS_FX' G hs (fun r h1 h2 h3 => ⟨f r h2 h3 (by omega) (by omega), fj r⟩), ct, GR, ⟨(f 251 (by omega) (by omega) (by omega) (by omega)).trans rsw.1, (f 252 (by omega) (by omega) (by omega) (by omega)).trans rsw.2.1, (fj 253).trans rsw.2.2⟩, RK_fr rk f10 (f 257 (by omega) (by omega) (by omega) (by omega)) (f 258 (by omega) (by omega) (by omega) (by omega)) (f 259 (by omega) (by omega) (by omega) (by omega)) (fj 260), rx⟩
/-- memories that differ in what the reference reads a text with -/
def FJ (ad : Nat → Nat) (M M' : Mm) : Prop := (∀ r, r ≠ 250 → M'.1 (ad r) = M.1 (ad r)) ∧ (∀ r, M'.2 (ad r) = M.2 (ad r)) ∧ ∀ k, k < 13 → gI M' (ad 250) k = gI M (ad 250) k
theorem FJ_r (ad : Nat → Nat) (M : Mm) : FJ ad M M := ⟨fun _ _ => rfl, fun _ => rfl, fun _ _ => rfl⟩
theorem FJ_t {ad : Nat → Nat} {M M' M'' : Mm} (h : FJ ad M M') (h' : FJ ad M' M'') : FJ ad M M'' := ⟨fun r hr => (h'.1 r hr).trans (h.1 r hr), fun r => (h'.2.1 r).trans (h.2.1 r), fun k hk => (h'.2.2 k hk).trans (h.2.2 k hk)⟩
theorem FJ_s {ad : Nat → Nat} (hi : ∀ a b : Nat, (ad a = ad b) = (a = b)) (M : Mm) {k : Nat} (hk : 13 ≤ k) (v : Int32) : FJ ad M (sI M (ad 250) k v) := ⟨fun r hr => sI_1 M k v (by rw [Ne, hi]; exact hr), fun _ => rfl, fun j hj => gI_k M (ad 250) v (by omega)⟩
theorem FJ_RX {ad : Nat → Nat} {M M' : Mm} {tl : Nat} {tx : Nat → Nat} (f : FJ ad M M') (rx : RX ad M tl tx) : RX ad M' tl tx := RX_fr rx (f.2.2 12 (by omega)) (f.1 261 (by omega))
theorem FJ_RS {ad : Nat → Nat} {M M' : Mm} {s : Sx} (f : FJ ad M M') (hs : RS ad M s) : RS ad M' s := ⟨(f.1 251 (by omega)).trans hs.1, (f.1 252 (by omega)).trans hs.2.1, (f.2.1 253).trans hs.2.2⟩
theorem WD_J {ad : Nat → Nat} {T : Ty} {R : Rm} {M M' : Mm} {s : Sx} {n : Nat} {h : Nat → Sx} {tl : Nat} {tx : Nat → Nat} {β : Nat → Nat} {σ : Nat → Nat → Nat} (w : WD ad T M R s n h tl tx β σ) (f : FJ ad M M') : WD ad T M' R s n h tl tx β σ := WD_text w (fun r _ _ h3 _ => f.1 r h3) f.2.1 (f.2.2 10 (by omega)) (CT_FX w.2.2.1 (f.1 207 (by omega)) (f.1 208 (by omega))) (FJ_RX f w.2.2.2.2.2.2)
/-- the class's text -/
def XG (ad : Nat → Nat) (T : Ty) (R : Rm) : Prop := isK T (ad 207) 4 = true ∧ R (ad 207) 0 = some (ad 208) ∧ isK T (ad 208) 8 = true ∧ lnT T (ad 208) = 60
theorem CG_XG {ad : Nat → Nat} {T : Ty} {R : Rm} {β : Nat → Nat} {σ : Nat → Nat → Nat} (G : CG ad T R β σ) : XG ad T R := G.2.2.2.2.2.2.2.2.2.2.2
theorem chr_v {v : Nat} (h : v ≤ 126) : vp_nar .char ((nI v).toUInt32 % 65536).toInt32 = nI v := by
  rw [pk_vc, pk_char, pk_tn (by omega), Nat.mod_eq_of_lt (by omega)]
theorem g_type {ad : Nat → Nat} {T : Ty} {M : Mm} {R : Rm} {s : Sx} {n : Nat} {h : Nat → Sx} {tl' : Nat} {tx : Nat → Nat} {β : Nat → Nat} {σ : Nat → Nat → Nat} (w : WD ad T M R s n h tl' tx β σ) (x : Int32) : SR ad T R (fn_X6_type T R (ad 0) x M) (fun M1 => fn_X7_type T R (ad 250) x M1) := by
  have w1 := w
  obtain ⟨G, hs, ct, GR, rsw, rk, rx⟩ := w
  have hi := GR.1
  obtain ⟨x1, x2, x3, x4⟩ := CG_XG G
  have w0 := G.1
  have zx : R (ad 0) 2 = some (ad 207) := G.2.2.2.1
  obtain ⟨ct1, ct2, ct3, ct4⟩ := ct
  obtain ⟨rx1, rx2⟩ := rx
  have k250 := GR.2.1
  obtain ⟨hi, k0, k251, n251, r251, k252, n252, r252, k253, n253, r253, k254, n254, r254, k255, n255, r255, k256, n256, r256, k257, n257, r257, k258, n258, r258, k259, n259, r259, k260, n260, r260, k261, n261, r261⟩ := GR
  by_cases hx : nI 32 ≤ x ∧ x ≤ nI 126
  rotate_left
  · have hx' : (nI 32 ≤ x ∧ x ≤ nI 126) = False := eq_false hx
    refine SR_no w1 (-2000000001) ?_ ?_
    · unfold fn_X6_type
      simp (disch := omega) only [↓cal_w6, ↓cal_w7, ↓lm1, l0, l1, l2, l3, l4, l5, l6, l7, l8, l9, l10, l11, l12, l13, l14, l31, l32, l44, l48, l50, l57, l59, l60, l74, l100, l110, l126, l300, l330, l500, l501, l801, l1000, l5000, l5010, l8010, l8192, l9000, l10000, l1000000, and_self, and_true, true_and, and_false, false_and, nI_add, pk_mul, nI_clamp, ↓reduceIte, eF, lT, lF, leT, leF, chk_d, chk_t, chk_inb, rfm_s, bnd_e, cal_e, calR_e, hx']
    · show fn_X7_type T R (ad 250) x M = _
      unfold fn_X7_type
      simp (disch := omega) only [↓cal_w6, ↓cal_w7, ↓lm1, l0, l1, l2, l3, l4, l5, l6, l7, l8, l9, l10, l11, l12, l13, l14, l31, l32, l44, l48, l50, l57, l59, l60, l74, l100, l110, l126, l300, l330, l500, l501, l801, l1000, l5000, l5010, l8010, l8192, l9000, l10000, l1000000, and_self, and_true, true_and, and_false, false_and, nI_add, pk_mul, nI_clamp, ↓reduceIte, eF, lT, lF, leT, leF, chk_d, chk_t, chk_inb, rfm_s, bnd_e, cal_e, calR_e, hx']
  obtain ⟨v, rfl, v1, v2⟩ := bet hx (by omega) (by omega)
  have hx' : (nI 32 ≤ nI v ∧ nI v ≤ nI 126) = True := eq_true hx
  by_cases h6 : tl' < 60
  rotate_left
  · have h60 : tl' = 60 := by omega
    subst h60
    refine SR_no w1 (-2000000003) ?_ ?_
    · unfold fn_X6_type
      simp (disch := omega) only [↓cal_w6, ↓cal_w7, ↓lm1, l0, l1, l2, l3, l4, l5, l6, l7, l8, l9, l10, l11, l12, l13, l14, l31, l32, l44, l48, l50, l57, l59, l60, l74, l100, l110, l126, l300, l330, l500, l501, l801, l1000, l5000, l5010, l8010, l8192, l9000, l10000, l1000000, and_self, and_true, true_and, and_false, false_and, nI_add, pk_mul, nI_clamp, ↓reduceIte, eF, lT, lF, leT, leF, chk_d, chk_t, chk_inb, rfm_s, bnd_e, cal_e, calR_e, hx', w0, zx, x1, ct1]
    · show fn_X7_type T R (ad 250) (nI v) M = _
      unfold fn_X7_type
      simp (disch := omega) only [↓cal_w6, ↓cal_w7, ↓lm1, l0, l1, l2, l3, l4, l5, l6, l7, l8, l9, l10, l11, l12, l13, l14, l31, l32, l44, l48, l50, l57, l59, l60, l74, l100, l110, l126, l300, l330, l500, l501, l801, l1000, l5000, l5010, l8010, l8192, l9000, l10000, l1000000, and_self, and_true, true_and, and_false, false_and, nI_add, pk_mul, nI_clamp, ↓reduceIte, eF, lT, lF, leT, leF, chk_d, chk_t, chk_inb, rfm_s, bnd_e, cal_e, calR_e, hx', k250, rx1]
  have n78 : (ad 207) ≠ (ad 208) := by rw [Ne, hi]; omega
  have n01 : (ad 250) ≠ (ad 261) := by rw [Ne, hi]; omega
  have e1 : gI (sI M (ad 208) tl' (nI v)) (ad 207) 1 = nI tl' := (gI_o M 1 (nI v) n78).trans ct1
  have o250 : ∀ k, gI (sI (sI M (ad 208) tl' (nI v)) (ad 207) 1 (nI (tl' + 1))) (ad 250) k = gI M (ad 250) k := fun k => by
    rw [gI_o _ _ _ (by rw [Ne, hi]; omega), gI_o _ _ _ (by rw [Ne, hi]; omega)]
  have e2 := (o250 12).trans rx1
  have e3 : gI (sI (sI (sI M (ad 208) tl' (nI v)) (ad 207) 1 (nI (tl' + 1))) (ad 261) tl' (nI v)) (ad 250) 12 = nI tl' := (gI_o _ _ _ n01).trans e2
  refine ⟨nI (tl' + 1), sI (sI M (ad 208) tl' (nI v)) (ad 207) 1 (nI (tl' + 1)), sI (sI (sI (sI M (ad 208) tl' (nI v)) (ad 207) 1 (nI (tl' + 1))) (ad 261) tl' (nI v)) (ad 250) 12 (nI (tl' + 1)), ?_, ?_, s, n, h, tl' + 1, fu tx tl' v, β, σ, WD_text w1 (fun r a b c d => ?_) (fun _ => rfl) ?_ ⟨?_, by omega, fun k hk => ?_, fun k hk => ?_⟩ ⟨?_, fun k hk => ?_⟩⟩
  · unfold fn_X6_type fn_X4_append
    simp (disch := omega) only [↓cal_w6, ↓cal_w7, ↓lm1, l0, l1, l2, l3, l4, l5, l6, l7, l8, l9, l10, l11, l12, l13, l14, l31, l32, l44, l48, l50, l57, l59, l60, l74, l100, l110, l126, l300, l330, l500, l501, l801, l1000, l5000, l5010, l8010, l8192, l9000, l10000, l1000000, and_self, and_true, true_and, and_false, false_and, nI_add, pk_mul, nI_clamp, ↓reduceIte, eF, lT, lF, leT, leF, chk_d, chk_t, chk_inb, rfm_s, bnd_e, cal_e, calR_e, hx', w0, zx, x1, x2, x3, x4, ct1, chr_v, e1, gI_s]
  · show fn_X7_type T R (ad 250) (nI v) _ = _
    unfold fn_X7_type
    simp (disch := omega) only [↓cal_w6, ↓cal_w7, ↓lm1, l0, l1, l2, l3, l4, l5, l6, l7, l8, l9, l10, l11, l12, l13, l14, l31, l32, l44, l48, l50, l57, l59, l60, l74, l100, l110, l126, l300, l330, l500, l501, l801, l1000, l5000, l5010, l8010, l8192, l9000, l10000, l1000000, and_self, and_true, true_and, and_false, false_and, nI_add, pk_mul, nI_clamp, ↓reduceIte, eF, lT, lF, leT, leF, chk_d, chk_t, chk_inb, rfm_s, bnd_e, cal_e, calR_e, hx', k0, k251, n251, r251, k252, n252, r252, k253, n253, r253, k254, n254, r254, k255, n255, r255, k256, n256, r256, k257, n257, r257, k258, n258, r258, k259, n259, r259, k260, n260, r260, k261, n261, r261, e2, e3, gI_s]
  · rw [sI_1 _ _ _ (by rw [Ne, hi]; exact c), sI_1 _ _ _ (by rw [Ne, hi]; exact d), sI_1 _ _ _ (by rw [Ne, hi]; exact a), sI_1 _ _ _ (by rw [Ne, hi]; exact b)]
  · rw [gI_k _ _ _ (by omega), gI_o _ _ _ n01]
    exact o250 10
  · rw [gI_o _ _ _ (by rw [Ne, hi]; omega), gI_o _ _ _ (by rw [Ne, hi]; omega), gI_s]
  · rw [gI_o _ _ _ (by rw [Ne, hi]; omega), gI_o _ _ _ (by rw [Ne, hi]; omega), gI_o _ _ _ (by rw [Ne, hi]; omega)]
    by_cases e : k = tl'
    · subst e
      rw [gI_s, fu_s]
    · rw [gI_k _ _ _ e, fu_n _ e]
      exact ct3 k (by omega)
  · by_cases e : k = tl'
    · subst e
      rw [fu_s]
      omega
    · rw [fu_n _ e]
      exact ct4 k (by omega)
  · rw [gI_s]
  · rw [gI_o _ _ _ (Ne.symm n01)]
    by_cases e : k = tl'
    · subst e
      rw [gI_s, fu_s]
    · rw [gI_k _ _ _ e, fu_n _ e, gI_o _ _ _ (by rw [Ne, hi]; omega), gI_o _ _ _ (by rw [Ne, hi]; omega)]
      exact rx2 k (by omega)
theorem g_clearText {ad : Nat → Nat} {T : Ty} {M : Mm} {R : Rm} {s : Sx} {n : Nat} {h : Nat → Sx} {tl' : Nat} {tx : Nat → Nat} {β : Nat → Nat} {σ : Nat → Nat → Nat} (w : WD ad T M R s n h tl' tx β σ) : SR ad T R (fn_X6_clearText T R (ad 0) M) (fun M1 => fn_X7_clearText T R (ad 250) M1) := by
  have w1 := w
  obtain ⟨G, hs, ct, GR, rsw, rk, rx⟩ := w
  have hi := GR.1
  obtain ⟨x1, x2, x3, x4⟩ := CG_XG G
  have w0 := G.1
  have zx : R (ad 0) 2 = some (ad 207) := G.2.2.2.1
  have ct1 := ct.1
  have rx1 := rx.1
  have k250 := GR.2.1
  have e2 : gI (sI M (ad 207) 1 (nI 0)) (ad 250) 12 = nI tl' := (gI_o _ _ _ (by rw [Ne, hi]; omega)).trans rx1
  refine ⟨nI tl', sI M (ad 207) 1 (nI 0), sI (sI M (ad 207) 1 (nI 0)) (ad 250) 12 (nI 0), ?_, ?_, s, n, h, 0, tx, β, σ, WD_text w1 (fun r a b c d => ?_) (fun _ => rfl) ?_ ⟨?_, by omega, fun k hk => absurd hk (by omega), fun k hk => absurd hk (by omega)⟩ ⟨?_, fun k hk => absurd hk (by omega)⟩⟩
  · unfold fn_X6_clearText
    simp (disch := omega) only [↓cal_w6, ↓cal_w7, ↓lm1, l0, l1, l2, l3, l4, l5, l6, l7, l8, l9, l10, l11, l12, l13, l14, l31, l32, l44, l48, l50, l57, l59, l60, l74, l100, l110, l126, l300, l330, l500, l501, l801, l1000, l5000, l5010, l8010, l8192, l9000, l10000, l1000000, and_self, and_true, true_and, and_false, false_and, nI_add, pk_mul, nI_clamp, ↓reduceIte, eF, lT, lF, leT, leF, chk_d, chk_t, chk_inb, rfm_s, bnd_e, cal_e, calR_e, w0, zx, x1, ct1]
  · show fn_X7_clearText T R (ad 250) _ = _
    unfold fn_X7_clearText
    simp (disch := omega) only [↓cal_w6, ↓cal_w7, ↓lm1, l0, l1, l2, l3, l4, l5, l6, l7, l8, l9, l10, l11, l12, l13, l14, l31, l32, l44, l48, l50, l57, l59, l60, l74, l100, l110, l126, l300, l330, l500, l501, l801, l1000, l5000, l5010, l8010, l8192, l9000, l10000, l1000000, and_self, and_true, true_and, and_false, false_and, nI_add, pk_mul, nI_clamp, ↓reduceIte, eF, lT, lF, leT, leF, chk_d, chk_t, chk_inb, rfm_s, bnd_e, cal_e, calR_e, k250, e2]
  · rw [sI_1 _ _ _ (by rw [Ne, hi]; exact c), sI_1 _ _ _ (by rw [Ne, hi]; exact a)]
  · rw [gI_k _ _ _ (by omega), gI_o _ _ _ (by rw [Ne, hi]; omega)]
  · rw [gI_o _ _ _ (by rw [Ne, hi]; omega), gI_s]
  · rw [gI_s]
