/-! the world of both: geometry and state of the class -/
def qq (ad : Nat → Nat) (B j : Nat) : Nat := ad (B + j)
def BS (B : Nat) : Prop := B = 43 ∨ B = 84 ∨ B = 125 ∨ B = 166 ∨ B = 209
def CG (ad : Nat → Nat) (T : Ty) (R : Rm) (β : Nat → Nat) (σ : Nat → Nat → Nat) : Prop := isK T (ad 0) 6 = true ∧ R (ad 0) 0 = some (qq ad 1 0) ∧ R (ad 0) 1 = some (ad 42) ∧ R (ad 0) 2 = some (ad 207) ∧ R (ad 0) 3 = some (qq ad (β 4) 0) ∧ isK T (ad 42) 13 = true ∧ lnT T (ad 42) = 4 ∧ (∀ k, k < 4 → R (ad 42) k = some (qq ad (β k) 0)) ∧ (∀ k, k < 5 → BS (β k)) ∧ (∀ i j, i < 5 → j < 5 → β i = β j → i = j) ∧ (∀ B, B = 1 ∨ BS B → TG T R (qq ad B) (σ B)) ∧ isK T (ad 207) 4 = true ∧ R (ad 207) 0 = some (ad 208) ∧ isK T (ad 208) 8 = true ∧ lnT T (ad 208) = 60
def CC (ad : Nat → Nat) (M : Mm) (B : Nat) : Nat → Nat → Int32 := fun j => M.1 (qq ad B j)
def CL (ad : Nat → Nat) (M : Mm) (B : Nat) : Nat → Int64 := M.2 (qq ad B 0)
def CT (ad : Nat → Nat) (M : Mm) (tl : Nat) (tx : Nat → Nat) : Prop := gI M (ad 207) 1 = nI tl ∧ tl ≤ 60 ∧ (∀ k, k < tl → gI M (ad 208) k = nI (tx k)) ∧ (∀ k, k < tl → 32 ≤ tx k ∧ tx k ≤ 126)
def CS (ad : Nat → Nat) (M : Mm) (s : Sx) (n : Nat) (h : Nat → Sx) (β : Nat → Nat) (σ : Nat → Nat → Nat) : Prop := gI M (ad 0) 4 = nI n ∧ n ≤ 4 ∧ RT QT (σ (β 4)) (CC ad M (β 4)) (CL ad M (β 4)) s ∧ (∀ k, k < n → RT QT (σ (β k)) (CC ad M (β k)) (CL ad M (β k)) (h k)) ∧ OKs s ∧ ∀ k, k < n → OKs (h k)
theorem qq_i {ad : Nat → Nat} (hi : ∀ a b : Nat, (ad a = ad b) = (a = b)) (B : Nat) : ∀ a b : Nat, (qq ad B a = qq ad B b) = (a = b) := fun a b => by
  unfold qq
  rw [hi, eq_iff_iff]
  omega
theorem qq_sep {ad : Nat → Nat} (hi : ∀ a b : Nat, (ad a = ad b) = (a = b)) {B B' : Nat} (hB : B = 1 ∨ BS B) (hB' : B' = 1 ∨ BS B') (h : B ≠ B') {i j : Nat} (h1 : i < 41) (h2 : j < 41) : qq ad B i ≠ qq ad B' j := by
  unfold qq BS at *
  rw [Ne, hi]
  omega
theorem qq_out {ad : Nat → Nat} (hi : ∀ a b : Nat, (ad a = ad b) = (a = b)) {B r : Nat} (hB : B = 1 ∨ BS B) (hr : r = 0 ∨ r = 42 ∨ r = 207 ∨ r = 208 ∨ 250 ≤ r) {j : Nat} (h2 : j < 41) : ad r ≠ qq ad B j := by
  unfold qq BS at *
  rw [Ne, hi]
  omega
theorem RT_cc {Q : Nat → Prop} {σ : Nat → Nat} {c c' : Nat → Nat → Int32} {l : Nat → Int64} {s : Sx} (I : IV s.1) (sl : ∀ j, j < 6 → σ j < 6) (e : ∀ j, j < 41 → c' j = c j) (rt : RT Q σ c l s) : RT Q σ c' l s := by
  have hnb := I.2.2.2.2.2.2.2.2.1.2.2
  have hns := I.2.2.2.2.2.2.2.2.2.1.2.2
  obtain ⟨t1, t04, t05, t06, t40, t41, t42, t43, tl, tb, ts⟩ := rt
  refine ⟨fun k hk => ?_, ?_, ?_, ?_, ?_, ?_, ?_, fun h => ?_, tl, fun b hb => ?_, fun i hi k hk => ?_⟩
  · rw [e 1 (by omega)]
    exact t1 k hk
  · rw [e 0 (by omega)]
    exact t04
  · rw [e 0 (by omega)]
    exact t05
  · rw [e 0 (by omega)]
    exact t06
  · rw [e 4 (by omega)]
    exact t40
  · rw [e 4 (by omega)]
    exact t41
  · rw [e 4 (by omega)]
    exact t42
  · rw [e 4 (by omega)]
    exact t43 h
  · obtain ⟨v1, v2, v3⟩ := tb b hb
    refine ⟨fun k hk => ?_, fun h => ?_, LY_fr v3 (e _ (by omega)) (e _ (by omega))⟩
    · rw [e _ (by omega)]
      exact v1 k hk
    · rw [e _ (by omega)]
      exact v2 h
  · have := sl i (by omega)
    rw [e _ (by omega)]
    exact ts i hi k hk
theorem OK_IV {s : Sx} (h : OKs s) : IV s.1 := by
  obtain ⟨Y, nb, ns, g, -, -⟩ := h
  exact g.1.1
theorem CG_sl {ad : Nat → Nat} {T : Ty} {R : Rm} {β : Nat → Nat} {σ : Nat → Nat → Nat} (G : CG ad T R β σ) {B : Nat} (hB : B = 1 ∨ BS B) : ∀ j, j < 6 → σ B j < 6 := by
  obtain ⟨-, -, -, -, -, -, -, -, -, -, gt, -⟩ := G
  obtain ⟨hq, k0, r00, r01, r02, r03, k1, n1, k2, n2, k3, n3, k4, rb, kb, rl, lg, rs, ks, sl, si⟩ := gt B hB
  exact sl
theorem CG_tg {ad : Nat → Nat} {T : Ty} {R : Rm} {β : Nat → Nat} {σ : Nat → Nat → Nat} (G : CG ad T R β σ) {B : Nat} (hB : B = 1 ∨ BS B) : TG T R (qq ad B) (σ B) := G.2.2.2.2.2.2.2.2.2.2.1 B hB
theorem CG_bs {ad : Nat → Nat} {T : Ty} {R : Rm} {β : Nat → Nat} {σ : Nat → Nat → Nat} (G : CG ad T R β σ) {k : Nat} (hk : k < 5) : BS (β k) := G.2.2.2.2.2.2.2.2.1 k hk
theorem CG_bi {ad : Nat → Nat} {T : Ty} {R : Rm} {β : Nat → Nat} {σ : Nat → Nat → Nat} (G : CG ad T R β σ) {i j : Nat} (hi : i < 5) (hj : j < 5) (h : i ≠ j) : β i ≠ β j := fun e => h (G.2.2.2.2.2.2.2.2.2.1 i j hi hj e)
/-- the memory is the tongue's cells, and the rest -/
theorem M_TV {ad : Nat → Nat} (hi : ∀ a b : Nat, (ad a = ad b) = (a = b)) (M : Mm) (B : Nat) : TV (qq ad B) M (CC ad M B) (CL ad M B) = M := TV_eta (qq_i hi B) M
theorem TV_out {ad : Nat → Nat} (hi : ∀ a b : Nat, (ad a = ad b) = (a = b)) {B r : Nat} (hB : B = 1 ∨ BS B) (hr : r = 0 ∨ r = 42 ∨ r = 207 ∨ r = 208 ∨ 250 ≤ r) (M : Mm) (c : Nat → Nat → Int32) (l : Nat → Int64) : (TV (qq ad B) M c l).1 (ad r) = M.1 (ad r) ∧ (TV (qq ad B) M c l).2 (ad r) = M.2 (ad r) := ⟨funext fun k => TV_o M c l k (fun j hj => qq_out hi hB hr hj), funext fun k => TV_oj M c l k (qq_out hi hB hr (by omega))⟩
theorem CC_s {ad : Nat → Nat} (hi : ∀ a b : Nat, (ad a = ad b) = (a = b)) (B : Nat) (M : Mm) (c : Nat → Nat → Int32) (l : Nat → Int64) {j : Nat} (hj : j < 41) : CC ad (TV (qq ad B) M c l) B j = c j := ov_in (qq_i hi B) hj
theorem CL_s {ad : Nat → Nat} (B : Nat) (M : Mm) (c : Nat → Nat → Int32) (l : Nat → Int64) : CL ad (TV (qq ad B) M c l) B = l := by
  unfold CL TV
  exact if_pos rfl
theorem CC_n {ad : Nat → Nat} (hi : ∀ a b : Nat, (ad a = ad b) = (a = b)) {B B' : Nat} (hB : B = 1 ∨ BS B) (hB' : B' = 1 ∨ BS B') (h : B' ≠ B) (M : Mm) (c : Nat → Nat → Int32) (l : Nat → Int64) {j : Nat} (hj : j < 41) : CC ad (TV (qq ad B) M c l) B' j = CC ad M B' j := ov_out (fun j' hj' => qq_sep hi hB' hB h hj hj')
theorem CL_n {ad : Nat → Nat} (hi : ∀ a b : Nat, (ad a = ad b) = (a = b)) {B B' : Nat} (hB : B = 1 ∨ BS B) (hB' : B' = 1 ∨ BS B') (h : B' ≠ B) (M : Mm) (c : Nat → Nat → Int32) (l : Nat → Int64) : CL ad (TV (qq ad B) M c l) B' = CL ad M B' := by
  unfold CL TV
  exact if_neg (qq_sep hi hB' hB h (by omega) (by omega))
/-- memories that agree on the class's cells -/
def FX (ad : Nat → Nat) (M M' : Mm) : Prop := ∀ r, r < 250 → M'.1 (ad r) = M.1 (ad r) ∧ M'.2 (ad r) = M.2 (ad r)
/-- memories that agree on the reference's cells -/
def FY (ad : Nat → Nat) (M M' : Mm) : Prop := ∀ r, 250 ≤ r → M'.1 (ad r) = M.1 (ad r) ∧ M'.2 (ad r) = M.2 (ad r)
theorem FY_t {ad : Nat → Nat} {M M' M'' : Mm} (h : FY ad M M') (h' : FY ad M' M'') : FY ad M M'' := fun r hr => ⟨(h' r hr).1.trans (h r hr).1, (h' r hr).2.trans (h r hr).2⟩
theorem FY_TV {ad : Nat → Nat} (hi : ∀ a b : Nat, (ad a = ad b) = (a = b)) {B : Nat} (hB : B = 1 ∨ BS B) (M : Mm) (c : Nat → Nat → Int32) (l : Nat → Int64) : FY ad M (TV (qq ad B) M c l) := fun r hr => TV_out hi hB (.inr (.inr (.inr (.inr hr)))) M c l
theorem FY_sI {ad : Nat → Nat} (hi : ∀ a b : Nat, (ad a = ad b) = (a = b)) (M : Mm) {r : Nat} (hr : r < 250) (k : Nat) (v : Int32) : FY ad M (sI M (ad r) k v) := fun r' hr' => ⟨sI_1 M k v (by rw [Ne, hi]; omega), rfl⟩
theorem CT_FX {ad : Nat → Nat} {M M' : Mm} {tl : Nat} {tx : Nat → Nat} (h : CT ad M tl tx) (e7 : M'.1 (ad 207) = M.1 (ad 207)) (e8 : M'.1 (ad 208) = M.1 (ad 208)) : CT ad M' tl tx := by
  obtain ⟨h1, h2, h3, h4⟩ := h
  refine ⟨?_, h2, fun k hk => ?_, h4⟩
  · unfold gI at *
    rw [e7]
    exact h1
  · unfold gI at *
    rw [e8]
    exact h3 k hk
theorem BS_lt {B j : Nat} (hB : B = 1 ∨ BS B) (hj : j < 41) : B + j < 250 := by
  unfold BS at hB
  omega
theorem CS_FX {ad : Nat → Nat} {T : Ty} {R : Rm} {M M' : Mm} {s : Sx} {n : Nat} {h : Nat → Sx} {β : Nat → Nat} {σ : Nat → Nat → Nat} (G : CG ad T R β σ) (hs : CS ad M s n h β σ) (f : FX ad M M') : CS ad M' s n h β σ := by
  obtain ⟨h1, h2, h3, h4, h5, h6⟩ := hs
  have hl : ∀ k, k < 5 → CL ad M' (β k) = CL ad M (β k) := fun k hk => (f _ (BS_lt (.inr (CG_bs G hk)) (by omega))).2
  have hc : ∀ k, k < 5 → ∀ j, j < 41 → CC ad M' (β k) j = CC ad M (β k) j := fun k hk j hj => (f _ (BS_lt (.inr (CG_bs G hk)) hj)).1
  refine ⟨?_, h2, ?_, fun k hk => ?_, h5, h6⟩
  · unfold gI at *
    rw [(f 0 (by omega)).1]
    exact h1
  · rw [hl 4 (by omega)]
    exact RT_cc (OK_IV h5) (CG_sl G (.inr (CG_bs G (by omega)))) (hc 4 (by omega)) h3
  · rw [hl k (by omega)]
    exact RT_cc (OK_IV (h6 k hk)) (CG_sl G (.inr (CG_bs G (by omega)))) (hc k (by omega)) (h4 k hk)
/-- the tongue of now changed -/
theorem CS_now {ad : Nat → Nat} (hi : ∀ a b : Nat, (ad a = ad b) = (a = b)) {T : Ty} {R : Rm} {M : Mm} {s s' : Sx} {n : Nat} {h : Nat → Sx} {β : Nat → Nat} {σ : Nat → Nat → Nat} (G : CG ad T R β σ) (hs : CS ad M s n h β σ) {c : Nat → Nat → Int32} {l : Nat → Int64} (rt : RT QT (σ (β 4)) c l s') (ok : OKs s') : CS ad (TV (qq ad (β 4)) M c l) s' n h β σ := by
  obtain ⟨h1, h2, h3, h4, h5, h6⟩ := hs
  have b4 := CG_bs G (show 4 < 5 by omega)
  refine ⟨?_, h2, ?_, fun k hk => ?_, ok, h6⟩
  · unfold gI at *
    rw [(TV_out hi (.inr b4) (.inl rfl) M c l).1]
    exact h1
  · rw [CL_s]
    exact RT_cc (OK_IV ok) (CG_sl G (.inr b4)) (fun j hj => CC_s hi _ M c l hj) rt
  · have bk := CG_bs G (show k < 5 by omega)
    have hne := CG_bi G (show k < 5 by omega) (show 4 < 5 by omega) (by omega)
    rw [CL_n hi (.inr b4) (.inr bk) hne]
    exact RT_cc (OK_IV (h6 k hk)) (CG_sl G (.inr bk)) (fun j hj => CC_n hi (.inr b4) (.inr bk) hne M c l hj) (h4 k hk)
/-- the tongue of trial changed -/
theorem CS_trial {ad : Nat → Nat} (hi : ∀ a b : Nat, (ad a = ad b) = (a = b)) {T : Ty} {R : Rm} {M : Mm} {s : Sx} {n : Nat} {h : Nat → Sx} {β : Nat → Nat} {σ : Nat → Nat → Nat} (G : CG ad T R β σ) (hs : CS ad M s n h β σ) (c : Nat → Nat → Int32) (l : Nat → Int64) : CS ad (TV (qq ad 1) M c l) s n h β σ := by
  obtain ⟨h1, h2, h3, h4, h5, h6⟩ := hs
  have hne : ∀ k, k < 5 → β k ≠ 1 := fun k hk => by
    have := CG_bs G hk
    unfold BS at this
    omega
  refine ⟨?_, h2, ?_, fun k hk => ?_, h5, h6⟩
  · unfold gI at *
    rw [(TV_out hi (.inl rfl) (.inl rfl) M c l).1]
    exact h1
  · have b4 := CG_bs G (show 4 < 5 by omega)
    rw [CL_n hi (.inl rfl) (.inr b4) (hne 4 (by omega))]
    exact RT_cc (OK_IV h5) (CG_sl G (.inr b4)) (fun j hj => CC_n hi (.inl rfl) (.inr b4) (hne 4 (by omega)) M c l hj) h3
  · have bk := CG_bs G (show k < 5 by omega)
    rw [CL_n hi (.inl rfl) (.inr bk) (hne k (by omega))]
    exact RT_cc (OK_IV (h6 k hk)) (CG_sl G (.inr bk)) (fun j hj => CC_n hi (.inl rfl) (.inr bk) (hne k (by omega)) M c l hj) (h4 k hk)

