abbrev Ee : Type := Nat × Nat × (Nat → Nat) × (Nat → Nat) × (Nat → Nat → Int32) × (Nat → Nat → Int64) × (Nat → Nat → Option Nat)
def eN (E : Ee) : Nat := E.1
def eL (E : Ee) : Nat := E.2.1
def eKd (E : Ee) : Nat → Nat := E.2.2.1
def eLn (E : Ee) : Nat → Nat := E.2.2.2.1
def eC (E : Ee) : Nat → Nat → Int32 := E.2.2.2.2.1
def eJ (E : Ee) : Nat → Nat → Int64 := E.2.2.2.2.2.1
def eP (E : Ee) : Nat → Nat → Option Nat := E.2.2.2.2.2.2
def eK (E : Ee) (i k : Nat) : Bool := decide (i < eN E) && decide (eKd E i = k)
def eSI (E : Ee) (i k : Nat) (v : Int32) : Ee := (eN E, eL E, eKd E, eLn E, up2 (eC E) i k v, eJ E, eP E)
def eSJ (E : Ee) (i k : Nat) (v : Int64) : Ee := (eN E, eL E, eKd E, eLn E, eC E, up2 (eJ E) i k v, eP E)
def eSP (E : Ee) (i k b : Nat) : Ee := (eN E, eL E, eKd E, eLn E, eC E, eJ E, up2 (eP E) i k (some b))
def eNew (E : Ee) (k len w : Nat) (row : Nat → Int32) : Ee := (eN E + 1, eL E + w, va_up (eKd E) (eN E) k, va_up (eLn E) (eN E) len, va_up (eC E) (eN E) row, va_up (eJ E) (eN E) (fun _ => 0), va_up (eP E) (eN E) (fun _ => none))
def calN {α : Type} (q : Option Ee) (k : Ee → Option α) : Option α := match q with
  | some u => k u
  | none => none
theorem calN_some {α : Type} {q : Option Ee} {k : Ee → Option α} {v : α} (h : calN q k = some v) : ∃ E, q = some E ∧ k E = some v := by
  cases q with
  | none => cases h
  | some u => exact ⟨u, rfl, h⟩
def Rep (ad : Nat → Nat) (E : Ee) (T : Ty) (M : Mm) (R : Rm) : Prop :=
  T.1 = (List.range (eN E)).map ad ∧ (∀ r, r < eN E → T.2.1 (ad r) = eKd E r ∧ T.2.2 (ad r) = eLn E r ∧ M.1 (ad r) = eC E r ∧ M.2 (ad r) = eJ E r ∧ ∀ k, R (ad r) k = (eP E r k).map ad) ∧ (∀ r k i, r < eN E → eP E r k = some i → i < eN E) ∧ (∀ r s, r < eN E → s < eN E → ad r = ad s → r = s)
def Pt (ad : Nat → Nat) (E : Ee) (i a : Nat) : Prop := i < eN E ∧ ad i = a
theorem Rep.mem {ad : Nat → Nat} {E : Ee} {T : Ty} {M : Mm} {R : Rm} (h : Rep ad E T M R) {i a : Nat} (hu : Pt ad E i a) : a ∈ T.1 := by
  rw [h.1]
  exact List.mem_map.mpr ⟨i, List.mem_range.mpr hu.1, hu.2⟩
theorem eK_kd {E : Ee} {i k : Nat} (h : eK E i k = true) : eKd E i = k := by
  unfold eK at h
  simp only [Bool.and_eq_true, decide_eq_true_eq] at h
  exact h.2
theorem Rep.kd {ad : Nat → Nat} {E : Ee} {T : Ty} {M : Mm} {R : Rm} (h : Rep ad E T M R) {i a k : Nat} (hu : Pt ad E i a) (hk : eK E i k = true) : isK T a k = true := by
  unfold isK
  simp only [Bool.and_eq_true, decide_eq_true_eq]
  refine ⟨h.mem hu, ?_⟩
  rw [← hu.2, (h.2.1 i hu.1).1]
  exact eK_kd hk
theorem Rep.ln {ad : Nat → Nat} {E : Ee} {T : Ty} {M : Mm} {R : Rm} (h : Rep ad E T M R) {i a : Nat} (hu : Pt ad E i a) : lnT T a = eLn E i := by
  unfold lnT
  rw [← hu.2]
  exact (h.2.1 i hu.1).2.1
theorem Rep.get {ad : Nat → Nat} {E : Ee} {T : Ty} {M : Mm} {R : Rm} (h : Rep ad E T M R) {i a k b : Nat} (hu : Pt ad E i a) (hb : eP E i k = some b) : R a k = some (ad b) ∧ Pt ad E b (ad b) := by
  refine ⟨?_, h.2.2.1 i k b hu.1 hb, rfl⟩
  rw [← hu.2, (h.2.1 i hu.1).2.2.2.2 k, hb]
  rfl
theorem Rep.si {ad : Nat → Nat} {E : Ee} {T : Ty} {M : Mm} {R : Rm} (h : Rep ad E T M R) {i a : Nat} (hu : Pt ad E i a) (k : Nat) (v : Int32) : Rep ad (eSI E i k v) T (sI M a k v) R := by
  obtain ⟨h1, h2, h3, h4⟩ := h
  refine ⟨h1, fun r hr => ⟨(h2 r hr).1, (h2 r hr).2.1, ?_, (h2 r hr).2.2.2.1, (h2 r hr).2.2.2.2⟩, h3, h4⟩
  funext j
  have e1 := congrFun (h2 r hr).2.2.1 j
  have e2 : (ad r = a) = (r = i) := by
    rw [← hu.2]
    exact propext ⟨fun e => h4 r i hr hu.1 e, fun e => by rw [e]⟩
  show (if ad r = a ∧ j = k then v else M.1 (ad r) j) = (if r = i ∧ j = k then v else eC E r j)
  rw [e1]
  simp only [e2]
theorem Rep.sj {ad : Nat → Nat} {E : Ee} {T : Ty} {M : Mm} {R : Rm} (h : Rep ad E T M R) {i a : Nat} (hu : Pt ad E i a) (k : Nat) (v : Int64) : Rep ad (eSJ E i k v) T (sJ M a k v) R := by
  obtain ⟨h1, h2, h3, h4⟩ := h
  refine ⟨h1, fun r hr => ⟨(h2 r hr).1, (h2 r hr).2.1, (h2 r hr).2.2.1, ?_, (h2 r hr).2.2.2.2⟩, h3, h4⟩
  funext j
  have e1 := congrFun (h2 r hr).2.2.2.1 j
  have e2 : (ad r = a) = (r = i) := by
    rw [← hu.2]
    exact propext ⟨fun e => h4 r i hr hu.1 e, fun e => by rw [e]⟩
  show (if ad r = a ∧ j = k then v else M.2 (ad r) j) = (if r = i ∧ j = k then v else eJ E r j)
  rw [e1]
  simp only [e2]
theorem Rep.sp {ad : Nat → Nat} {E : Ee} {T : Ty} {M : Mm} {R : Rm} (h : Rep ad E T M R) {i a b y : Nat} (hu : Pt ad E i a) (hv : Pt ad E b y) (k : Nat) : Rep ad (eSP E i k b) T M (up2 R a k (some y)) := by
  obtain ⟨h1, h2, h3, h4⟩ := h
  refine ⟨h1, fun r hr => ⟨(h2 r hr).1, (h2 r hr).2.1, (h2 r hr).2.2.1, (h2 r hr).2.2.2.1, ?_⟩, ?_, h4⟩
  · intro j
    have e1 := (h2 r hr).2.2.2.2 j
    have e2 : (ad r = a) = (r = i) := by
      rw [← hu.2]
      exact propext ⟨fun e => h4 r i hr hu.1 e, fun e => by rw [e]⟩
    show (if ad r = a ∧ j = k then some y else R (ad r) j) = Option.map ad (if r = i ∧ j = k then some b else eP E r j)
    simp only [e2]
    split
    · rw [← hv.2]
      rfl
    · exact e1
  · intro r j x hr hx
    have hx' : (if r = i ∧ j = k then some b else eP E r j) = some x := hx
    split at hx'
    · cases hx'
      exact hv.1
    · exact h3 r j x hr hx'
/-- a cell more -/
def newT (T : Ty) (q k n : Nat) : Ty := (T.1 ++ [q], va_up T.2.1 q k, va_up T.2.2 q n)
def newM (M : Mm) (q : Nat) (row : Nat → Int32) : Mm := (va_up M.1 q row, va_up M.2 q (fun _ => 0))
def newR (R : Rm) (q : Nat) : Rm := va_up R q (fun _ => none)
theorem va_up_s {α : Type} (f : Nat → α) (k : Nat) (v : α) : va_up f k v k = v := by simp [va_up]
theorem va_up_n {α : Type} (f : Nat → α) {k j : Nat} (v : α) (h : j ≠ k) : va_up f k v j = f j := by simp [va_up, h]
theorem Rep.new {ad : Nat → Nat} {E : Ee} {T : Ty} {M : Mm} {R : Rm} (h : Rep ad E T M R) {q : Nat} (hq : q ∉ T.1) (k n w : Nat) (row : Nat → Int32) : Rep (va_up ad (eN E) q) (eNew E k n w row) (newT T q k n) (newM M q row) (newR R q) ∧ (∀ i a, Pt ad E i a → Pt (va_up ad (eN E) q) (eNew E k n w row) i a) ∧ Pt (va_up ad (eN E) q) (eNew E k n w row) (eN E) q := by
  obtain ⟨h1, h2, h3, h4⟩ := h
  have hne : ∀ r, r < eN E → ad r ≠ q := fun r hr e => hq (by rw [h1]; exact List.mem_map.mpr ⟨r, List.mem_range.mpr hr, e⟩)
  have hup : ∀ r, r < eN E → va_up ad (eN E) q r = ad r := fun r hr => va_up_n _ _ (Nat.ne_of_lt hr)
  refine ⟨⟨?_, ?_, ?_, ?_⟩, ?_, ?_⟩
  · show T.1 ++ [q] = (List.range (eN E + 1)).map (va_up ad (eN E) q)
    rw [List.range_succ, List.map_append, h1]
    congr 1
    · exact List.map_congr_left (fun r hr => (hup r (List.mem_range.mp hr)).symm)
    · simp [va_up]
  · intro r hr
    rcases Nat.lt_or_ge r (eN E) with hlt | hge
    · rw [hup r hlt]
      have hn := hne r hlt
      have hr' : r ≠ eN E := Nat.ne_of_lt hlt
      obtain ⟨a1, a2, a3, a4, a5⟩ := h2 r hlt
      refine ⟨?_, ?_, ?_, ?_, fun j => ?_⟩
      · show va_up T.2.1 q k (ad r) = va_up (eKd E) (eN E) k r
        rw [va_up_n _ _ hn, va_up_n _ _ hr', a1]
      · show va_up T.2.2 q n (ad r) = va_up (eLn E) (eN E) n r
        rw [va_up_n _ _ hn, va_up_n _ _ hr', a2]
      · show va_up M.1 q row (ad r) = va_up (eC E) (eN E) row r
        rw [va_up_n _ _ hn, va_up_n _ _ hr', a3]
      · show va_up M.2 q (fun _ => 0) (ad r) = va_up (eJ E) (eN E) (fun _ => 0) r
        rw [va_up_n _ _ hn, va_up_n _ _ hr', a4]
      · show va_up R q (fun _ => none) (ad r) j = Option.map (va_up ad (eN E) q) (va_up (eP E) (eN E) (fun _ => none) r j)
        rw [va_up_n _ _ hn, va_up_n _ _ hr', a5 j]
        cases hx : eP E r j with
        | none => rfl
        | some x => exact congrArg some (hup x (h3 r j x hlt hx)).symm
    · have hr0 : r < eN E + 1 := hr
      have e : r = eN E := by omega
      subst e
      rw [va_up_s]
      refine ⟨?_, ?_, ?_, ?_, fun j => ?_⟩
      · show va_up T.2.1 q k q = va_up (eKd E) (eN E) k (eN E)
        rw [va_up_s, va_up_s]
      · show va_up T.2.2 q n q = va_up (eLn E) (eN E) n (eN E)
        rw [va_up_s, va_up_s]
      · show va_up M.1 q row q = va_up (eC E) (eN E) row (eN E)
        rw [va_up_s, va_up_s]
      · show va_up M.2 q (fun _ => 0) q = va_up (eJ E) (eN E) (fun _ => 0) (eN E)
        rw [va_up_s, va_up_s]
      · show va_up R q (fun _ => none) q j = Option.map (va_up ad (eN E) q) (va_up (eP E) (eN E) (fun _ => none) (eN E) j)
        rw [va_up_s, va_up_s]
        rfl
  · intro r j x hr hx
    show x < eN E + 1
    have hr0 : r < eN E + 1 := hr
    have hx' : va_up (eP E) (eN E) (fun _ => none) r j = some x := hx
    rcases Nat.lt_or_ge r (eN E) with hlt | hge
    · rw [va_up_n _ _ (Nat.ne_of_lt hlt)] at hx'
      have := h3 r j x hlt hx'
      omega
    · have e : r = eN E := by omega
      rw [e, va_up_s] at hx'
      cases hx'
  · intro r t hr ht he
    have hr0 : r < eN E + 1 := hr
    have ht0 : t < eN E + 1 := ht
    rcases Nat.lt_or_ge r (eN E) with hlt | hge <;> rcases Nat.lt_or_ge t (eN E) with hlt2 | hge2
    · rw [hup r hlt, hup t hlt2] at he
      exact h4 r t hlt hlt2 he
    · have e : t = eN E := by omega
      rw [hup r hlt, e, va_up_s] at he
      exact absurd he (hne r hlt)
    · have e : r = eN E := by omega
      rw [hup t hlt2, e, va_up_s] at he
      exact absurd he.symm (hne t hlt2)
    · omega
  · intro i a hu
    exact ⟨Nat.lt_succ_of_lt hu.1, by rw [hup i hu.1]; exact hu.2⟩
  · exact ⟨Nat.lt_succ_self _, va_up_s _ _ _⟩
/-- the world, by index -/
def WdE (D : va_G) (cy : Cy) (A : Nat → Prop) (s : State) (ad : Nat → Nat) (E : Ee) (H : Heap) (locs : List Loc) : Prop := ∃ T M R, Rep ad E T M R ∧ va_P D vwCl (WL cy T M R) H ∧ va_D A (WL cy T M R) ∧ va_S A s.heap H locs
def AE (ad : Nat → Nat) (n sz : Nat) : Nat → Prop := fun q => (∃ r, r < n ∧ q = ad r) ∨ sz ≤ q
theorem AE_eq {ad : Nat → Nat} {E : Ee} {T : Ty} {M : Mm} {R : Rm} {cy : Cy} (h : Rep ad E T M R) (sz : Nat) : va_A (WL cy T M R) sz = AE ad (eN E) sz := by
  funext q
  refine propext ⟨fun hq => ?_, fun hq => ?_⟩
  · rcases hq with ⟨k, x, hk⟩ | hq
    · left
      have hm : (q, x) ∈ WL cy T M R := List.mem_of_getElem? hk
      unfold WL va_pl at hm
      obtain ⟨a, ha, he⟩ := List.mem_map.mp hm
      rw [h.1] at ha
      obtain ⟨r, hr, e⟩ := List.mem_map.mp ha
      exact ⟨r, List.mem_range.mp hr, by rw [e]; exact (congrArg Prod.fst he).symm⟩
    · exact Or.inr hq
  · rcases hq with ⟨r, hr, rfl⟩ | hq
    · left
      obtain ⟨k, hk⟩ := va_pl_get (X := []) (f := ce cy T M R) (h.mem (i := r) ⟨hr, rfl⟩)
      exact ⟨k, _, hk⟩
    · exact Or.inr hq
theorem AE_in {D : va_G} {cy : Cy} {A : Nat → Prop} {s : State} {ad : Nat → Nat} {E : Ee} {H : Heap} {locs : List Loc} (hw : WdE D cy A s ad E H locs) (hA : ∀ q, s.heap.size ≤ q → A q) : ∀ q, AE ad (eN E) H.size q → A q := by
  obtain ⟨T, M, R, h, hP, hD, hS⟩ := hw
  intro q hq
  rw [← AE_eq (cy := cy) h] at hq
  exact fr_all hD hS hA q hq
/-- the row of the first settings, for its clone -/
def Cl9 (A : Nat → Prop) (U : State) (H : Heap) : Prop := ∃ t, va_Z "IceTongue" "FIRST_SETTING" "[I" (.ref t) A U H ∧ ¬ A t ∧ ∃ cell : Cell, H[t]? = some cell ∧ U.vm.findClass "[I" = some cell.cls ∧ (∀ k, cell.vm ≠ .statics k) ∧ cell.vm ≠ .unknown ∧ cell.slots = (arrV cell.cls 7 (fun j => .int (fFirst j))).slots
theorem Cl9.to {A B : Nat → Prop} {u U : State} {H H1 : Heap} (h : Cl9 A u H) (hvm : u.vm.Alike U.vm) (hq : ∀ a : Nat, a < H.size → ¬ A a → H1[a]? = H[a]?) (hAB : ∀ q, B q → A q) : Cl9 B U H1 := by
  obtain ⟨t, hZ, hA, cell, h1, h2, h3, h4, h5⟩ := h
  refine ⟨t, ((hZ.moved hvm).kept hq).narrow hAB, fun z => hA (hAB t z), cell, ?_, ?_, h3, h4, h5⟩
  · rw [hq t (Array.getElem?_eq_some_iff.mp h1).1 hA]
    exact h1
  · rw [hvm.findClass]
    exact h2
def NW (U : State) : Prop := va_Nw (.fieldLinkNest RX5 9 RX6 "FIRST_SETTING" "[I" RX6) U ∧ va_Nw (.castable "[I" "java/lang/Cloneable") U ∧ (va_AO "IceTongue$Band" U ∧ va_AO "IceTongue$Stake" U ∧ va_AO "IceTongue$Tongue" U) ∧ va_Nw (.methodLinkNest RX5 37 yX1_init RX6) U ∧ va_Nw (.methodLinkNest RX5 65 yX0_init RX6) U ∧ va_Nw (.methodLinkNest RX0 9 yX2_init RX6) U ∧ va_Nw (.methodLinkNest RX5 66 yX3_init RX6) U ∧ va_Nw (.methodLinkNest RX6 22 yX4_init RX6) U
theorem NW.warm {s U : State} (hW : s.WarmedH U.vm) (h : NW s) : NW U := by
  obtain ⟨h1, h2, ⟨h3, h4, h5⟩, h6, h7, h8, h9, h10⟩ := h
  exact ⟨h1.warmF hW, h2.warmC hW, ⟨h3.moved hW.alike, h4.moved hW.alike, h5.moved hW.alike⟩, h6.warmM hW, h7.warmM hW, h8.warmM hW, h9.warmM hW, h10.warmM hW⟩
theorem NW.call {U : State} {g : JFrame} {mk : MethodId} {a : Array Value} (h : NW U) : NW (U.calling g mk a) := by
  obtain ⟨h1, h2, ⟨h3, h4, h5⟩, h6, h7, h8, h9, h10⟩ := h
  have e : U.vm = (U.calling g mk a).vm := rfl
  exact ⟨h1.same rfl e, h2.same rfl e, ⟨h3.moved (U := U.calling g mk a) (Vm.Alike.refl U.vm), h4.moved (U := U.calling g mk a) (Vm.Alike.refl U.vm), h5.moved (U := U.calling g mk a) (Vm.Alike.refl U.vm)⟩, h6.same rfl e, h7.same rfl e, h8.same rfl e, h9.same rfl e, h10.same rfl e⟩
def PcN (D : va_G) (cy : Cy) (ad : Nat → Nat) (E : Ee) (av : List Value) (sz : Nat) : Array Value → State → Prop := va_Pc av (fun U => U.heap.size = sz ∧ (∃ T M R, Rep ad E T M R ∧ va_P D vwCl (WL cy T M R) U.heap ∧ va_D (fun _ => True) (WL cy T M R)) ∧ va_K D vwCl (tys cy) U ∧ St (AE ad (eN E) sz) U U.heap ∧ Cl9 (AE ad (eN E) sz) U U.heap ∧ NW U)
def QcN (D : va_G) (cy : Cy) (ad : Nat → Nat) (n : Nat) (E1 : Ee) (A : Nat → Prop) : Array Value → State → Outcome → State → Prop := va_Qv (fun ad1 : Nat → Nat => ∀ r, r < n → ad1 r = ad r) (fun ad1 t => ∃ T M R, Rep ad1 E1 T M R ∧ va_P D vwCl (WL cy T M R) t.heap ∧ va_D A (WL cy T M R)) A
def CtN (l : Launch) (y : MethodName) (bytes : ByteArray) (maxL : Nat) (rm : Room) (D : va_G) (cy : Cy) (ad : Nat → Nat) (E : Ee) (av : List Value) (mc ms : Nat) (E1 : Ee) : Prop :=
  ∀ sz : Nat, Met l y (.code y bytes maxL none :: GW) rm (PcN D cy ad E av sz) (QcN D cy ad (eN E) E1 (AE ad (eN E) sz)) mc ms (AE ad (eN E) sz)
theorem enterN {l : Launch} {y : MethodName} {bytes : ByteArray} {maxL : Nat} {rm : Room} {D : va_G} {cy : Cy} {ad : Nat → Nat} {E : Ee} {av : List Value} {mc ms : Nat} {E1 : Ee} (hy : plainFor y = true) (hi : y.name = "<init>") (hlen : (lg_sl av).length ≤ maxL)
    (body : ∀ (p : Program) (e : Env) (s : State) (m : MethodId) (args : Array Value) (below : List Frame) (meth : Method) (c : Code) (A : Nat → Prop), Cx y.cls bytes maxL none p s m args meth c D cy A → meth.name = "<init>" → Cl9 A s s.heap → NW s → WdE D cy A s ad E s.heap [] → ∀ ls : Array Slot, lv_has ls maxL (lv_args 0 av) → W p l e rm s m args below meth c s.heap [] 0 0 (MQ below (QcN D cy ad (eN E) E1 A) args s mc ms A) (F0 m 0 ls [])) : CtN l y bytes maxL rm D cy ad E av mc ms E1 := by
  intro sz
  refine met_F (cc := bytes) (maxL := maxL) (ret := none) hy rfl ?_
  intro p e s m args below meth c s₁ B hml hv
  obtain ⟨rfl, hsz, ⟨T, M, R, hRp, hP, hD0⟩, hK, hSt, hCl, hNW⟩ := hv
  have hts0 := atoms_spec (ws := .code y bytes maxL none :: GW) B.pre
  have hown : s.vm.findClass y.cls = some m.cls := findClass_of_methodNamed B.named
  have hin : meth.name = "<init>" := (name_of_methodNamed B.named B.method).1.trans hi
  subst hsz
  have hD := hD0.self (sz := s.heap.size)
  rw [AE_eq (cy := cy) hRp] at hD
  generalize hAe : AE ad (eN E) s.heap.size = A at hD hSt hCl ⊢
  have hA : ∀ q : Nat, s.heap.size ≤ q → A q := fun q h => by rw [← hAe]; exact Or.inr h
  have hl := lv_entry av (n := maxL) hlen
  rw [lg_entry_eq]
  generalize (lg_sl av ++ List.replicate (maxL - (lg_sl av).length) Slot.unset).toArray = ls at hl ⊢
  exact body p e s m av.toArray below meth c A ⟨B.exec, B.bytes, B.returns, hml, hown, fun w hw => hts0 w (List.mem_cons_of_mem _ hw), hK, hA, B.notSynchronized, hSt⟩ hin hCl hNW ⟨T, M, R, hRp, hP, hD, va_S.rf⟩ ls hl
theorem np_0_0 {p : Program} {l : Launch} {e : Env} {Rr : Room} {s : State} {m : MethodId} {args : Array Value} {below : List Frame} {meth : Method} {c : Code} {H : Heap} {locs : List Loc} {cells slots : Nat} {Q : State → Prop} {cc : ByteArray} {pc : Nat} {ls : Array Slot} {rest : List Value} {D : va_G} {cy : Cy} {ad : Nat → Nat} {E : Ee} {A : Nat → Prop} {own : String} {n : Nat} {ret : Option FieldType} {index i a : Nat} {b y : Nat} (C : Cx own cc n ret p s m args meth c D cy A) (hw : WdE D cy A s ad E H locs) (hu : Pt ad E i a) (hv : Pt ad E b y) (hk : eK E i 0 = true) (hl : Cond.fieldLink own index "IceTongue$Band" "layers" "LIceTongue$Layers;" ∈ GW) (hin : meth.name = "<init>") (hO : (TX0 0).1 = own) (hdg : decode cc pc = .ok (.putfield index, 3)) (kk : ∀ (E1 : Ee) (H1 : Heap) (locs1 : List Loc), E1 = eSP E i 0 b → (∀ i a, Pt ad E i a → Pt ad E1 i a) → eN E1 = eN E → eL E1 = eL E → WdE D cy A s ad E1 H1 locs1 → W p l e Rr s m args below meth c H1 locs1 cells slots Q (F0 m (pc + 3) ls rest)) : W p l e Rr s m args below meth c H locs cells slots Q (F0 m pc ls (.ref y :: .ref a :: rest)) := by
  obtain ⟨T, M, R, hRp, hP, hD, hS⟩ := hw
  exact pf_0_0 C hP hD hS (hRp.kd hu hk) hl hin hO hdg (fun R1 H1 locs1 e1 hP1 hD1 hS1 => kk _ H1 locs1 rfl (fun _ _ h => h) rfl rfl ⟨T, M, R1, by rw [e1]; exact hRp.sp hu hv 0, hP1, hD1, hS1⟩)
theorem ng_0_0 {p : Program} {l : Launch} {e : Env} {Rr : Room} {s : State} {m : MethodId} {args : Array Value} {below : List Frame} {meth : Method} {c : Code} {H : Heap} {locs : List Loc} {cells slots : Nat} {Q : State → Prop} {cc : ByteArray} {pc : Nat} {ls : Array Slot} {rest : List Value} {D : va_G} {cy : Cy} {ad : Nat → Nat} {E : Ee} {A : Nat → Prop} {own : String} {n : Nat} {ret : Option FieldType} {index i a b : Nat} (C : Cx own cc n ret p s m args meth c D cy A) (hw : WdE D cy A s ad E H locs) (hu : Pt ad E i a) (hk : eK E i 0 = true) (eb : eP E i 0 = some b) (hl : Cond.fieldLink own index "IceTongue$Band" "layers" "LIceTongue$Layers;" ∈ GW) (hdg : decode cc pc = .ok (.getfield index, 3)) (kk : Pt ad E b (ad b) → W p l e Rr s m args below meth c H locs cells slots Q (F0 m (pc + 3) ls (.ref (ad b) :: rest))) : W p l e Rr s m args below meth c H locs cells slots Q (F0 m pc ls (.ref a :: rest)) := by
  have hw0 := hw
  obtain ⟨T, M, R, hRp, hP, hD, hS⟩ := hw
  obtain ⟨h1, h2⟩ := hRp.get hu eb
  exact gf_0_0 C hP (hRp.kd hu hk) h1 hl hdg (kk h2)
theorem np_0_1 {p : Program} {l : Launch} {e : Env} {Rr : Room} {s : State} {m : MethodId} {args : Array Value} {below : List Frame} {meth : Method} {c : Code} {H : Heap} {locs : List Loc} {cells slots : Nat} {Q : State → Prop} {cc : ByteArray} {pc : Nat} {ls : Array Slot} {rest : List Value} {D : va_G} {cy : Cy} {ad : Nat → Nat} {E : Ee} {A : Nat → Prop} {own : String} {n : Nat} {ret : Option FieldType} {index i a : Nat} {x : Int32} (C : Cx own cc n ret p s m args meth c D cy A) (hw : WdE D cy A s ad E H locs) (hu : Pt ad E i a) (hk : eK E i 0 = true) (hl : Cond.fieldLink own index "IceTongue$Band" "height" "I" ∈ GW) (hdg : decode cc pc = .ok (.putfield index, 3)) (kk : ∀ (E1 : Ee) (H1 : Heap) (locs1 : List Loc), E1 = eSI E i 1 x → (∀ i a, Pt ad E i a → Pt ad E1 i a) → eN E1 = eN E → eL E1 = eL E → WdE D cy A s ad E1 H1 locs1 → W p l e Rr s m args below meth c H1 locs1 cells slots Q (F0 m (pc + 3) ls rest)) : W p l e Rr s m args below meth c H locs cells slots Q (F0 m pc ls (.int x :: .ref a :: rest)) := by
  obtain ⟨T, M, R, hRp, hP, hD, hS⟩ := hw
  exact pf_0_1 C hP hD hS (hRp.kd hu hk) hl hdg (fun M1 H1 locs1 e1 hP1 hD1 hS1 => kk _ H1 locs1 rfl (fun _ _ h => h) rfl rfl ⟨T, M1, R, by rw [e1]; exact hRp.si hu 1 x, hP1, hD1, hS1⟩)
theorem np_0_2 {p : Program} {l : Launch} {e : Env} {Rr : Room} {s : State} {m : MethodId} {args : Array Value} {below : List Frame} {meth : Method} {c : Code} {H : Heap} {locs : List Loc} {cells slots : Nat} {Q : State → Prop} {cc : ByteArray} {pc : Nat} {ls : Array Slot} {rest : List Value} {D : va_G} {cy : Cy} {ad : Nat → Nat} {E : Ee} {A : Nat → Prop} {own : String} {n : Nat} {ret : Option FieldType} {index i a : Nat} {x : Int32} (C : Cx own cc n ret p s m args meth c D cy A) (hw : WdE D cy A s ad E H locs) (hu : Pt ad E i a) (hk : eK E i 0 = true) (hl : Cond.fieldLink own index "IceTongue$Band" "length" "I" ∈ GW) (hdg : decode cc pc = .ok (.putfield index, 3)) (kk : ∀ (E1 : Ee) (H1 : Heap) (locs1 : List Loc), E1 = eSI E i 2 x → (∀ i a, Pt ad E i a → Pt ad E1 i a) → eN E1 = eN E → eL E1 = eL E → WdE D cy A s ad E1 H1 locs1 → W p l e Rr s m args below meth c H1 locs1 cells slots Q (F0 m (pc + 3) ls rest)) : W p l e Rr s m args below meth c H locs cells slots Q (F0 m pc ls (.int x :: .ref a :: rest)) := by
  obtain ⟨T, M, R, hRp, hP, hD, hS⟩ := hw
  exact pf_0_2 C hP hD hS (hRp.kd hu hk) hl hdg (fun M1 H1 locs1 e1 hP1 hD1 hS1 => kk _ H1 locs1 rfl (fun _ _ h => h) rfl rfl ⟨T, M1, R, by rw [e1]; exact hRp.si hu 2 x, hP1, hD1, hS1⟩)
theorem np_0_3 {p : Program} {l : Launch} {e : Env} {Rr : Room} {s : State} {m : MethodId} {args : Array Value} {below : List Frame} {meth : Method} {c : Code} {H : Heap} {locs : List Loc} {cells slots : Nat} {Q : State → Prop} {cc : ByteArray} {pc : Nat} {ls : Array Slot} {rest : List Value} {D : va_G} {cy : Cy} {ad : Nat → Nat} {E : Ee} {A : Nat → Prop} {own : String} {n : Nat} {ret : Option FieldType} {index i a : Nat} {x : Int32} (C : Cx own cc n ret p s m args meth c D cy A) (hw : WdE D cy A s ad E H locs) (hu : Pt ad E i a) (hk : eK E i 0 = true) (hl : Cond.fieldLink own index "IceTongue$Band" "creep" "I" ∈ GW) (hdg : decode cc pc = .ok (.putfield index, 3)) (kk : ∀ (E1 : Ee) (H1 : Heap) (locs1 : List Loc), E1 = eSI E i 3 x → (∀ i a, Pt ad E i a → Pt ad E1 i a) → eN E1 = eN E → eL E1 = eL E → WdE D cy A s ad E1 H1 locs1 → W p l e Rr s m args below meth c H1 locs1 cells slots Q (F0 m (pc + 3) ls rest)) : W p l e Rr s m args below meth c H locs cells slots Q (F0 m pc ls (.int x :: .ref a :: rest)) := by
  obtain ⟨T, M, R, hRp, hP, hD, hS⟩ := hw
  exact pf_0_3 C hP hD hS (hRp.kd hu hk) hl hdg (fun M1 H1 locs1 e1 hP1 hD1 hS1 => kk _ H1 locs1 rfl (fun _ _ h => h) rfl rfl ⟨T, M1, R, by rw [e1]; exact hRp.si hu 3 x, hP1, hD1, hS1⟩)
theorem np_0_4 {p : Program} {l : Launch} {e : Env} {Rr : Room} {s : State} {m : MethodId} {args : Array Value} {below : List Frame} {meth : Method} {c : Code} {H : Heap} {locs : List Loc} {cells slots : Nat} {Q : State → Prop} {cc : ByteArray} {pc : Nat} {ls : Array Slot} {rest : List Value} {D : va_G} {cy : Cy} {ad : Nat → Nat} {E : Ee} {A : Nat → Prop} {own : String} {n : Nat} {ret : Option FieldType} {index i a : Nat} {x : Int32} (C : Cx own cc n ret p s m args meth c D cy A) (hw : WdE D cy A s ad E H locs) (hu : Pt ad E i a) (hk : eK E i 0 = true) (hl : Cond.fieldLink own index "IceTongue$Band" "melted" "I" ∈ GW) (hdg : decode cc pc = .ok (.putfield index, 3)) (kk : ∀ (E1 : Ee) (H1 : Heap) (locs1 : List Loc), E1 = eSI E i 4 x → (∀ i a, Pt ad E i a → Pt ad E1 i a) → eN E1 = eN E → eL E1 = eL E → WdE D cy A s ad E1 H1 locs1 → W p l e Rr s m args below meth c H1 locs1 cells slots Q (F0 m (pc + 3) ls rest)) : W p l e Rr s m args below meth c H locs cells slots Q (F0 m pc ls (.int x :: .ref a :: rest)) := by
  obtain ⟨T, M, R, hRp, hP, hD, hS⟩ := hw
  exact pf_0_4 C hP hD hS (hRp.kd hu hk) hl hdg (fun M1 H1 locs1 e1 hP1 hD1 hS1 => kk _ H1 locs1 rfl (fun _ _ h => h) rfl rfl ⟨T, M1, R, by rw [e1]; exact hRp.si hu 4 x, hP1, hD1, hS1⟩)
theorem np_0_5 {p : Program} {l : Launch} {e : Env} {Rr : Room} {s : State} {m : MethodId} {args : Array Value} {below : List Frame} {meth : Method} {c : Code} {H : Heap} {locs : List Loc} {cells slots : Nat} {Q : State → Prop} {cc : ByteArray} {pc : Nat} {ls : Array Slot} {rest : List Value} {D : va_G} {cy : Cy} {ad : Nat → Nat} {E : Ee} {A : Nat → Prop} {own : String} {n : Nat} {ret : Option FieldType} {index i a : Nat} {x : Int32} (C : Cx own cc n ret p s m args meth c D cy A) (hw : WdE D cy A s ad E H locs) (hu : Pt ad E i a) (hk : eK E i 0 = true) (hl : Cond.fieldLink own index "IceTongue$Band" "gave" "I" ∈ GW) (hdg : decode cc pc = .ok (.putfield index, 3)) (kk : ∀ (E1 : Ee) (H1 : Heap) (locs1 : List Loc), E1 = eSI E i 5 x → (∀ i a, Pt ad E i a → Pt ad E1 i a) → eN E1 = eN E → eL E1 = eL E → WdE D cy A s ad E1 H1 locs1 → W p l e Rr s m args below meth c H1 locs1 cells slots Q (F0 m (pc + 3) ls rest)) : W p l e Rr s m args below meth c H locs cells slots Q (F0 m pc ls (.int x :: .ref a :: rest)) := by
  obtain ⟨T, M, R, hRp, hP, hD, hS⟩ := hw
  exact pf_0_5 C hP hD hS (hRp.kd hu hk) hl hdg (fun M1 H1 locs1 e1 hP1 hD1 hS1 => kk _ H1 locs1 rfl (fun _ _ h => h) rfl rfl ⟨T, M1, R, by rw [e1]; exact hRp.si hu 5 x, hP1, hD1, hS1⟩)
theorem np_0_6 {p : Program} {l : Launch} {e : Env} {Rr : Room} {s : State} {m : MethodId} {args : Array Value} {below : List Frame} {meth : Method} {c : Code} {H : Heap} {locs : List Loc} {cells slots : Nat} {Q : State → Prop} {cc : ByteArray} {pc : Nat} {ls : Array Slot} {rest : List Value} {D : va_G} {cy : Cy} {ad : Nat → Nat} {E : Ee} {A : Nat → Prop} {own : String} {n : Nat} {ret : Option FieldType} {index i a : Nat} {x : Int32} (C : Cx own cc n ret p s m args meth c D cy A) (hw : WdE D cy A s ad E H locs) (hu : Pt ad E i a) (hk : eK E i 0 = true) (hl : Cond.fieldLink own index "IceTongue$Band" "got" "I" ∈ GW) (hdg : decode cc pc = .ok (.putfield index, 3)) (kk : ∀ (E1 : Ee) (H1 : Heap) (locs1 : List Loc), E1 = eSI E i 6 x → (∀ i a, Pt ad E i a → Pt ad E1 i a) → eN E1 = eN E → eL E1 = eL E → WdE D cy A s ad E1 H1 locs1 → W p l e Rr s m args below meth c H1 locs1 cells slots Q (F0 m (pc + 3) ls rest)) : W p l e Rr s m args below meth c H locs cells slots Q (F0 m pc ls (.int x :: .ref a :: rest)) := by
  obtain ⟨T, M, R, hRp, hP, hD, hS⟩ := hw
  exact pf_0_6 C hP hD hS (hRp.kd hu hk) hl hdg (fun M1 H1 locs1 e1 hP1 hD1 hS1 => kk _ H1 locs1 rfl (fun _ _ h => h) rfl rfl ⟨T, M1, R, by rw [e1]; exact hRp.si hu 6 x, hP1, hD1, hS1⟩)
theorem np_1_0 {p : Program} {l : Launch} {e : Env} {Rr : Room} {s : State} {m : MethodId} {args : Array Value} {below : List Frame} {meth : Method} {c : Code} {H : Heap} {locs : List Loc} {cells slots : Nat} {Q : State → Prop} {cc : ByteArray} {pc : Nat} {ls : Array Slot} {rest : List Value} {D : va_G} {cy : Cy} {ad : Nat → Nat} {E : Ee} {A : Nat → Prop} {own : String} {n : Nat} {ret : Option FieldType} {index i a : Nat} {x : Int32} (C : Cx own cc n ret p s m args meth c D cy A) (hw : WdE D cy A s ad E H locs) (hu : Pt ad E i a) (hk : eK E i 1 = true) (hl : Cond.fieldLink own index "IceTongue$Front" "ice" "I" ∈ GW) (hdg : decode cc pc = .ok (.putfield index, 3)) (kk : ∀ (E1 : Ee) (H1 : Heap) (locs1 : List Loc), E1 = eSI E i 0 x → (∀ i a, Pt ad E i a → Pt ad E1 i a) → eN E1 = eN E → eL E1 = eL E → WdE D cy A s ad E1 H1 locs1 → W p l e Rr s m args below meth c H1 locs1 cells slots Q (F0 m (pc + 3) ls rest)) : W p l e Rr s m args below meth c H locs cells slots Q (F0 m pc ls (.int x :: .ref a :: rest)) := by
  obtain ⟨T, M, R, hRp, hP, hD, hS⟩ := hw
  exact pf_1_0 C hP hD hS (hRp.kd hu hk) hl hdg (fun M1 H1 locs1 e1 hP1 hD1 hS1 => kk _ H1 locs1 rfl (fun _ _ h => h) rfl rfl ⟨T, M1, R, by rw [e1]; exact hRp.si hu 0 x, hP1, hD1, hS1⟩)
theorem np_1_1 {p : Program} {l : Launch} {e : Env} {Rr : Room} {s : State} {m : MethodId} {args : Array Value} {below : List Frame} {meth : Method} {c : Code} {H : Heap} {locs : List Loc} {cells slots : Nat} {Q : State → Prop} {cc : ByteArray} {pc : Nat} {ls : Array Slot} {rest : List Value} {D : va_G} {cy : Cy} {ad : Nat → Nat} {E : Ee} {A : Nat → Prop} {own : String} {n : Nat} {ret : Option FieldType} {index i a : Nat} {x : Int32} (C : Cx own cc n ret p s m args meth c D cy A) (hw : WdE D cy A s ad E H locs) (hu : Pt ad E i a) (hk : eK E i 1 = true) (hl : Cond.fieldLink own index "IceTongue$Front" "rest" "I" ∈ GW) (hdg : decode cc pc = .ok (.putfield index, 3)) (kk : ∀ (E1 : Ee) (H1 : Heap) (locs1 : List Loc), E1 = eSI E i 1 x → (∀ i a, Pt ad E i a → Pt ad E1 i a) → eN E1 = eN E → eL E1 = eL E → WdE D cy A s ad E1 H1 locs1 → W p l e Rr s m args below meth c H1 locs1 cells slots Q (F0 m (pc + 3) ls rest)) : W p l e Rr s m args below meth c H locs cells slots Q (F0 m pc ls (.int x :: .ref a :: rest)) := by
  obtain ⟨T, M, R, hRp, hP, hD, hS⟩ := hw
  exact pf_1_1 C hP hD hS (hRp.kd hu hk) hl hdg (fun M1 H1 locs1 e1 hP1 hD1 hS1 => kk _ H1 locs1 rfl (fun _ _ h => h) rfl rfl ⟨T, M1, R, by rw [e1]; exact hRp.si hu 1 x, hP1, hD1, hS1⟩)
theorem np_1_2 {p : Program} {l : Launch} {e : Env} {Rr : Room} {s : State} {m : MethodId} {args : Array Value} {below : List Frame} {meth : Method} {c : Code} {H : Heap} {locs : List Loc} {cells slots : Nat} {Q : State → Prop} {cc : ByteArray} {pc : Nat} {ls : Array Slot} {rest : List Value} {D : va_G} {cy : Cy} {ad : Nat → Nat} {E : Ee} {A : Nat → Prop} {own : String} {n : Nat} {ret : Option FieldType} {index i a : Nat} {x : Int32} (C : Cx own cc n ret p s m args meth c D cy A) (hw : WdE D cy A s ad E H locs) (hu : Pt ad E i a) (hk : eK E i 1 = true) (hl : Cond.fieldLink own index "IceTongue$Front" "pieces" "I" ∈ GW) (hdg : decode cc pc = .ok (.putfield index, 3)) (kk : ∀ (E1 : Ee) (H1 : Heap) (locs1 : List Loc), E1 = eSI E i 2 x → (∀ i a, Pt ad E i a → Pt ad E1 i a) → eN E1 = eN E → eL E1 = eL E → WdE D cy A s ad E1 H1 locs1 → W p l e Rr s m args below meth c H1 locs1 cells slots Q (F0 m (pc + 3) ls rest)) : W p l e Rr s m args below meth c H locs cells slots Q (F0 m pc ls (.int x :: .ref a :: rest)) := by
  obtain ⟨T, M, R, hRp, hP, hD, hS⟩ := hw
  exact pf_1_2 C hP hD hS (hRp.kd hu hk) hl hdg (fun M1 H1 locs1 e1 hP1 hD1 hS1 => kk _ H1 locs1 rfl (fun _ _ h => h) rfl rfl ⟨T, M1, R, by rw [e1]; exact hRp.si hu 2 x, hP1, hD1, hS1⟩)
theorem np_1_3 {p : Program} {l : Launch} {e : Env} {Rr : Room} {s : State} {m : MethodId} {args : Array Value} {below : List Frame} {meth : Method} {c : Code} {H : Heap} {locs : List Loc} {cells slots : Nat} {Q : State → Prop} {cc : ByteArray} {pc : Nat} {ls : Array Slot} {rest : List Value} {D : va_G} {cy : Cy} {ad : Nat → Nat} {E : Ee} {A : Nat → Prop} {own : String} {n : Nat} {ret : Option FieldType} {index i a : Nat} {x : Int32} (C : Cx own cc n ret p s m args meth c D cy A) (hw : WdE D cy A s ad E H locs) (hu : Pt ad E i a) (hk : eK E i 1 = true) (hl : Cond.fieldLink own index "IceTongue$Front" "latestCalving" "I" ∈ GW) (hdg : decode cc pc = .ok (.putfield index, 3)) (kk : ∀ (E1 : Ee) (H1 : Heap) (locs1 : List Loc), E1 = eSI E i 3 x → (∀ i a, Pt ad E i a → Pt ad E1 i a) → eN E1 = eN E → eL E1 = eL E → WdE D cy A s ad E1 H1 locs1 → W p l e Rr s m args below meth c H1 locs1 cells slots Q (F0 m (pc + 3) ls rest)) : W p l e Rr s m args below meth c H locs cells slots Q (F0 m pc ls (.int x :: .ref a :: rest)) := by
  obtain ⟨T, M, R, hRp, hP, hD, hS⟩ := hw
  exact pf_1_3 C hP hD hS (hRp.kd hu hk) hl hdg (fun M1 H1 locs1 e1 hP1 hD1 hS1 => kk _ H1 locs1 rfl (fun _ _ h => h) rfl rfl ⟨T, M1, R, by rw [e1]; exact hRp.si hu 3 x, hP1, hD1, hS1⟩)
theorem np_2_0 {p : Program} {l : Launch} {e : Env} {Rr : Room} {s : State} {m : MethodId} {args : Array Value} {below : List Frame} {meth : Method} {c : Code} {H : Heap} {locs : List Loc} {cells slots : Nat} {Q : State → Prop} {cc : ByteArray} {pc : Nat} {ls : Array Slot} {rest : List Value} {D : va_G} {cy : Cy} {ad : Nat → Nat} {E : Ee} {A : Nat → Prop} {own : String} {n : Nat} {ret : Option FieldType} {index i a : Nat} {b y : Nat} (C : Cx own cc n ret p s m args meth c D cy A) (hw : WdE D cy A s ad E H locs) (hu : Pt ad E i a) (hv : Pt ad E b y) (hk : eK E i 2 = true) (hl : Cond.fieldLink own index "IceTongue$Layers" "left" "[I" ∈ GW) (hin : meth.name = "<init>") (hO : (TX2 0).1 = own) (hdg : decode cc pc = .ok (.putfield index, 3)) (kk : ∀ (E1 : Ee) (H1 : Heap) (locs1 : List Loc), E1 = eSP E i 0 b → (∀ i a, Pt ad E i a → Pt ad E1 i a) → eN E1 = eN E → eL E1 = eL E → WdE D cy A s ad E1 H1 locs1 → W p l e Rr s m args below meth c H1 locs1 cells slots Q (F0 m (pc + 3) ls rest)) : W p l e Rr s m args below meth c H locs cells slots Q (F0 m pc ls (.ref y :: .ref a :: rest)) := by
  obtain ⟨T, M, R, hRp, hP, hD, hS⟩ := hw
  exact pf_2_0 C hP hD hS (hRp.kd hu hk) hl hin hO hdg (fun R1 H1 locs1 e1 hP1 hD1 hS1 => kk _ H1 locs1 rfl (fun _ _ h => h) rfl rfl ⟨T, M, R1, by rw [e1]; exact hRp.sp hu hv 0, hP1, hD1, hS1⟩)
theorem ng_2_0 {p : Program} {l : Launch} {e : Env} {Rr : Room} {s : State} {m : MethodId} {args : Array Value} {below : List Frame} {meth : Method} {c : Code} {H : Heap} {locs : List Loc} {cells slots : Nat} {Q : State → Prop} {cc : ByteArray} {pc : Nat} {ls : Array Slot} {rest : List Value} {D : va_G} {cy : Cy} {ad : Nat → Nat} {E : Ee} {A : Nat → Prop} {own : String} {n : Nat} {ret : Option FieldType} {index i a b : Nat} (C : Cx own cc n ret p s m args meth c D cy A) (hw : WdE D cy A s ad E H locs) (hu : Pt ad E i a) (hk : eK E i 2 = true) (eb : eP E i 0 = some b) (hl : Cond.fieldLink own index "IceTongue$Layers" "left" "[I" ∈ GW) (hdg : decode cc pc = .ok (.getfield index, 3)) (kk : Pt ad E b (ad b) → W p l e Rr s m args below meth c H locs cells slots Q (F0 m (pc + 3) ls (.ref (ad b) :: rest))) : W p l e Rr s m args below meth c H locs cells slots Q (F0 m pc ls (.ref a :: rest)) := by
  have hw0 := hw
  obtain ⟨T, M, R, hRp, hP, hD, hS⟩ := hw
  obtain ⟨h1, h2⟩ := hRp.get hu eb
  exact gf_2_0 C hP (hRp.kd hu hk) h1 hl hdg (kk h2)
theorem np_2_1 {p : Program} {l : Launch} {e : Env} {Rr : Room} {s : State} {m : MethodId} {args : Array Value} {below : List Frame} {meth : Method} {c : Code} {H : Heap} {locs : List Loc} {cells slots : Nat} {Q : State → Prop} {cc : ByteArray} {pc : Nat} {ls : Array Slot} {rest : List Value} {D : va_G} {cy : Cy} {ad : Nat → Nat} {E : Ee} {A : Nat → Prop} {own : String} {n : Nat} {ret : Option FieldType} {index i a : Nat} {x : Int32} (C : Cx own cc n ret p s m args meth c D cy A) (hw : WdE D cy A s ad E H locs) (hu : Pt ad E i a) (hk : eK E i 2 = true) (hl : Cond.fieldLink own index "IceTongue$Layers" "ice" "I" ∈ GW) (hdg : decode cc pc = .ok (.putfield index, 3)) (kk : ∀ (E1 : Ee) (H1 : Heap) (locs1 : List Loc), E1 = eSI E i 1 x → (∀ i a, Pt ad E i a → Pt ad E1 i a) → eN E1 = eN E → eL E1 = eL E → WdE D cy A s ad E1 H1 locs1 → W p l e Rr s m args below meth c H1 locs1 cells slots Q (F0 m (pc + 3) ls rest)) : W p l e Rr s m args below meth c H locs cells slots Q (F0 m pc ls (.int x :: .ref a :: rest)) := by
  obtain ⟨T, M, R, hRp, hP, hD, hS⟩ := hw
  exact pf_2_1 C hP hD hS (hRp.kd hu hk) hl hdg (fun M1 H1 locs1 e1 hP1 hD1 hS1 => kk _ H1 locs1 rfl (fun _ _ h => h) rfl rfl ⟨T, M1, R, by rw [e1]; exact hRp.si hu 1 x, hP1, hD1, hS1⟩)
theorem np_2_2 {p : Program} {l : Launch} {e : Env} {Rr : Room} {s : State} {m : MethodId} {args : Array Value} {below : List Frame} {meth : Method} {c : Code} {H : Heap} {locs : List Loc} {cells slots : Nat} {Q : State → Prop} {cc : ByteArray} {pc : Nat} {ls : Array Slot} {rest : List Value} {D : va_G} {cy : Cy} {ad : Nat → Nat} {E : Ee} {A : Nat → Prop} {own : String} {n : Nat} {ret : Option FieldType} {index i a : Nat} {x : Int32} (C : Cx own cc n ret p s m args meth c D cy A) (hw : WdE D cy A s ad E H locs) (hu : Pt ad E i a) (hk : eK E i 2 = true) (hl : Cond.fieldLink own index "IceTongue$Layers" "oldest" "I" ∈ GW) (hdg : decode cc pc = .ok (.putfield index, 3)) (kk : ∀ (E1 : Ee) (H1 : Heap) (locs1 : List Loc), E1 = eSI E i 2 x → (∀ i a, Pt ad E i a → Pt ad E1 i a) → eN E1 = eN E → eL E1 = eL E → WdE D cy A s ad E1 H1 locs1 → W p l e Rr s m args below meth c H1 locs1 cells slots Q (F0 m (pc + 3) ls rest)) : W p l e Rr s m args below meth c H locs cells slots Q (F0 m pc ls (.int x :: .ref a :: rest)) := by
  obtain ⟨T, M, R, hRp, hP, hD, hS⟩ := hw
  exact pf_2_2 C hP hD hS (hRp.kd hu hk) hl hdg (fun M1 H1 locs1 e1 hP1 hD1 hS1 => kk _ H1 locs1 rfl (fun _ _ h => h) rfl rfl ⟨T, M1, R, by rw [e1]; exact hRp.si hu 2 x, hP1, hD1, hS1⟩)
theorem np_2_3 {p : Program} {l : Launch} {e : Env} {Rr : Room} {s : State} {m : MethodId} {args : Array Value} {below : List Frame} {meth : Method} {c : Code} {H : Heap} {locs : List Loc} {cells slots : Nat} {Q : State → Prop} {cc : ByteArray} {pc : Nat} {ls : Array Slot} {rest : List Value} {D : va_G} {cy : Cy} {ad : Nat → Nat} {E : Ee} {A : Nat → Prop} {own : String} {n : Nat} {ret : Option FieldType} {index i a : Nat} {x : Int32} (C : Cx own cc n ret p s m args meth c D cy A) (hw : WdE D cy A s ad E H locs) (hu : Pt ad E i a) (hk : eK E i 2 = true) (hl : Cond.fieldLink own index "IceTongue$Layers" "latest" "I" ∈ GW) (hdg : decode cc pc = .ok (.putfield index, 3)) (kk : ∀ (E1 : Ee) (H1 : Heap) (locs1 : List Loc), E1 = eSI E i 3 x → (∀ i a, Pt ad E i a → Pt ad E1 i a) → eN E1 = eN E → eL E1 = eL E → WdE D cy A s ad E1 H1 locs1 → W p l e Rr s m args below meth c H1 locs1 cells slots Q (F0 m (pc + 3) ls rest)) : W p l e Rr s m args below meth c H locs cells slots Q (F0 m pc ls (.int x :: .ref a :: rest)) := by
  obtain ⟨T, M, R, hRp, hP, hD, hS⟩ := hw
  exact pf_2_3 C hP hD hS (hRp.kd hu hk) hl hdg (fun M1 H1 locs1 e1 hP1 hD1 hS1 => kk _ H1 locs1 rfl (fun _ _ h => h) rfl rfl ⟨T, M1, R, by rw [e1]; exact hRp.si hu 3 x, hP1, hD1, hS1⟩)
theorem np_3_0 {p : Program} {l : Launch} {e : Env} {Rr : Room} {s : State} {m : MethodId} {args : Array Value} {below : List Frame} {meth : Method} {c : Code} {H : Heap} {locs : List Loc} {cells slots : Nat} {Q : State → Prop} {cc : ByteArray} {pc : Nat} {ls : Array Slot} {rest : List Value} {D : va_G} {cy : Cy} {ad : Nat → Nat} {E : Ee} {A : Nat → Prop} {own : String} {n : Nat} {ret : Option FieldType} {index i a : Nat} {x : Int32} (C : Cx own cc n ret p s m args meth c D cy A) (hw : WdE D cy A s ad E H locs) (hu : Pt ad E i a) (hk : eK E i 3 = true) (hl : Cond.fieldLink own index "IceTongue$Stake" "band" "I" ∈ GW) (hdg : decode cc pc = .ok (.putfield index, 3)) (kk : ∀ (E1 : Ee) (H1 : Heap) (locs1 : List Loc), E1 = eSI E i 0 x → (∀ i a, Pt ad E i a → Pt ad E1 i a) → eN E1 = eN E → eL E1 = eL E → WdE D cy A s ad E1 H1 locs1 → W p l e Rr s m args below meth c H1 locs1 cells slots Q (F0 m (pc + 3) ls rest)) : W p l e Rr s m args below meth c H locs cells slots Q (F0 m pc ls (.int x :: .ref a :: rest)) := by
  obtain ⟨T, M, R, hRp, hP, hD, hS⟩ := hw
  exact pf_3_0 C hP hD hS (hRp.kd hu hk) hl hdg (fun M1 H1 locs1 e1 hP1 hD1 hS1 => kk _ H1 locs1 rfl (fun _ _ h => h) rfl rfl ⟨T, M1, R, by rw [e1]; exact hRp.si hu 0 x, hP1, hD1, hS1⟩)
theorem np_3_1 {p : Program} {l : Launch} {e : Env} {Rr : Room} {s : State} {m : MethodId} {args : Array Value} {below : List Frame} {meth : Method} {c : Code} {H : Heap} {locs : List Loc} {cells slots : Nat} {Q : State → Prop} {cc : ByteArray} {pc : Nat} {ls : Array Slot} {rest : List Value} {D : va_G} {cy : Cy} {ad : Nat → Nat} {E : Ee} {A : Nat → Prop} {own : String} {n : Nat} {ret : Option FieldType} {index i a : Nat} {x : Int32} (C : Cx own cc n ret p s m args meth c D cy A) (hw : WdE D cy A s ad E H locs) (hu : Pt ad E i a) (hk : eK E i 3 = true) (hl : Cond.fieldLink own index "IceTongue$Stake" "place" "I" ∈ GW) (hdg : decode cc pc = .ok (.putfield index, 3)) (kk : ∀ (E1 : Ee) (H1 : Heap) (locs1 : List Loc), E1 = eSI E i 1 x → (∀ i a, Pt ad E i a → Pt ad E1 i a) → eN E1 = eN E → eL E1 = eL E → WdE D cy A s ad E1 H1 locs1 → W p l e Rr s m args below meth c H1 locs1 cells slots Q (F0 m (pc + 3) ls rest)) : W p l e Rr s m args below meth c H locs cells slots Q (F0 m pc ls (.int x :: .ref a :: rest)) := by
  obtain ⟨T, M, R, hRp, hP, hD, hS⟩ := hw
  exact pf_3_1 C hP hD hS (hRp.kd hu hk) hl hdg (fun M1 H1 locs1 e1 hP1 hD1 hS1 => kk _ H1 locs1 rfl (fun _ _ h => h) rfl rfl ⟨T, M1, R, by rw [e1]; exact hRp.si hu 1 x, hP1, hD1, hS1⟩)
theorem np_3_2 {p : Program} {l : Launch} {e : Env} {Rr : Room} {s : State} {m : MethodId} {args : Array Value} {below : List Frame} {meth : Method} {c : Code} {H : Heap} {locs : List Loc} {cells slots : Nat} {Q : State → Prop} {cc : ByteArray} {pc : Nat} {ls : Array Slot} {rest : List Value} {D : va_G} {cy : Cy} {ad : Nat → Nat} {E : Ee} {A : Nat → Prop} {own : String} {n : Nat} {ret : Option FieldType} {index i a : Nat} {x : Int32} (C : Cx own cc n ret p s m args meth c D cy A) (hw : WdE D cy A s ad E H locs) (hu : Pt ad E i a) (hk : eK E i 3 = true) (hl : Cond.fieldLink own index "IceTongue$Stake" "depth" "I" ∈ GW) (hdg : decode cc pc = .ok (.putfield index, 3)) (kk : ∀ (E1 : Ee) (H1 : Heap) (locs1 : List Loc), E1 = eSI E i 2 x → (∀ i a, Pt ad E i a → Pt ad E1 i a) → eN E1 = eN E → eL E1 = eL E → WdE D cy A s ad E1 H1 locs1 → W p l e Rr s m args below meth c H1 locs1 cells slots Q (F0 m (pc + 3) ls rest)) : W p l e Rr s m args below meth c H locs cells slots Q (F0 m pc ls (.int x :: .ref a :: rest)) := by
  obtain ⟨T, M, R, hRp, hP, hD, hS⟩ := hw
  exact pf_3_2 C hP hD hS (hRp.kd hu hk) hl hdg (fun M1 H1 locs1 e1 hP1 hD1 hS1 => kk _ H1 locs1 rfl (fun _ _ h => h) rfl rfl ⟨T, M1, R, by rw [e1]; exact hRp.si hu 2 x, hP1, hD1, hS1⟩)
theorem np_3_3 {p : Program} {l : Launch} {e : Env} {Rr : Room} {s : State} {m : MethodId} {args : Array Value} {below : List Frame} {meth : Method} {c : Code} {H : Heap} {locs : List Loc} {cells slots : Nat} {Q : State → Prop} {cc : ByteArray} {pc : Nat} {ls : Array Slot} {rest : List Value} {D : va_G} {cy : Cy} {ad : Nat → Nat} {E : Ee} {A : Nat → Prop} {own : String} {n : Nat} {ret : Option FieldType} {index i a : Nat} {x : Int32} (C : Cx own cc n ret p s m args meth c D cy A) (hw : WdE D cy A s ad E H locs) (hu : Pt ad E i a) (hk : eK E i 3 = true) (hl : Cond.fieldLink own index "IceTongue$Stake" "change" "I" ∈ GW) (hdg : decode cc pc = .ok (.putfield index, 3)) (kk : ∀ (E1 : Ee) (H1 : Heap) (locs1 : List Loc), E1 = eSI E i 3 x → (∀ i a, Pt ad E i a → Pt ad E1 i a) → eN E1 = eN E → eL E1 = eL E → WdE D cy A s ad E1 H1 locs1 → W p l e Rr s m args below meth c H1 locs1 cells slots Q (F0 m (pc + 3) ls rest)) : W p l e Rr s m args below meth c H locs cells slots Q (F0 m pc ls (.int x :: .ref a :: rest)) := by
  obtain ⟨T, M, R, hRp, hP, hD, hS⟩ := hw
  exact pf_3_3 C hP hD hS (hRp.kd hu hk) hl hdg (fun M1 H1 locs1 e1 hP1 hD1 hS1 => kk _ H1 locs1 rfl (fun _ _ h => h) rfl rfl ⟨T, M1, R, by rw [e1]; exact hRp.si hu 3 x, hP1, hD1, hS1⟩)
theorem np_3_4 {p : Program} {l : Launch} {e : Env} {Rr : Room} {s : State} {m : MethodId} {args : Array Value} {below : List Frame} {meth : Method} {c : Code} {H : Heap} {locs : List Loc} {cells slots : Nat} {Q : State → Prop} {cc : ByteArray} {pc : Nat} {ls : Array Slot} {rest : List Value} {D : va_G} {cy : Cy} {ad : Nat → Nat} {E : Ee} {A : Nat → Prop} {own : String} {n : Nat} {ret : Option FieldType} {index i a : Nat} {x : Int32} (C : Cx own cc n ret p s m args meth c D cy A) (hw : WdE D cy A s ad E H locs) (hu : Pt ad E i a) (hk : eK E i 3 = true) (hl : Cond.fieldLink own index "IceTongue$Stake" "fate" "I" ∈ GW) (hdg : decode cc pc = .ok (.putfield index, 3)) (kk : ∀ (E1 : Ee) (H1 : Heap) (locs1 : List Loc), E1 = eSI E i 4 x → (∀ i a, Pt ad E i a → Pt ad E1 i a) → eN E1 = eN E → eL E1 = eL E → WdE D cy A s ad E1 H1 locs1 → W p l e Rr s m args below meth c H1 locs1 cells slots Q (F0 m (pc + 3) ls rest)) : W p l e Rr s m args below meth c H locs cells slots Q (F0 m pc ls (.int x :: .ref a :: rest)) := by
  obtain ⟨T, M, R, hRp, hP, hD, hS⟩ := hw
  exact pf_3_4 C hP hD hS (hRp.kd hu hk) hl hdg (fun M1 H1 locs1 e1 hP1 hD1 hS1 => kk _ H1 locs1 rfl (fun _ _ h => h) rfl rfl ⟨T, M1, R, by rw [e1]; exact hRp.si hu 4 x, hP1, hD1, hS1⟩)
theorem np_3_5 {p : Program} {l : Launch} {e : Env} {Rr : Room} {s : State} {m : MethodId} {args : Array Value} {below : List Frame} {meth : Method} {c : Code} {H : Heap} {locs : List Loc} {cells slots : Nat} {Q : State → Prop} {cc : ByteArray} {pc : Nat} {ls : Array Slot} {rest : List Value} {D : va_G} {cy : Cy} {ad : Nat → Nat} {E : Ee} {A : Nat → Prop} {own : String} {n : Nat} {ret : Option FieldType} {index i a : Nat} {x : Int32} (C : Cx own cc n ret p s m args meth c D cy A) (hw : WdE D cy A s ad E H locs) (hu : Pt ad E i a) (hk : eK E i 3 = true) (hl : Cond.fieldLink own index "IceTongue$Stake" "years" "I" ∈ GW) (hdg : decode cc pc = .ok (.putfield index, 3)) (kk : ∀ (E1 : Ee) (H1 : Heap) (locs1 : List Loc), E1 = eSI E i 5 x → (∀ i a, Pt ad E i a → Pt ad E1 i a) → eN E1 = eN E → eL E1 = eL E → WdE D cy A s ad E1 H1 locs1 → W p l e Rr s m args below meth c H1 locs1 cells slots Q (F0 m (pc + 3) ls rest)) : W p l e Rr s m args below meth c H locs cells slots Q (F0 m pc ls (.int x :: .ref a :: rest)) := by
  obtain ⟨T, M, R, hRp, hP, hD, hS⟩ := hw
  exact pf_3_5 C hP hD hS (hRp.kd hu hk) hl hdg (fun M1 H1 locs1 e1 hP1 hD1 hS1 => kk _ H1 locs1 rfl (fun _ _ h => h) rfl rfl ⟨T, M1, R, by rw [e1]; exact hRp.si hu 5 x, hP1, hD1, hS1⟩)
theorem np_4_0 {p : Program} {l : Launch} {e : Env} {Rr : Room} {s : State} {m : MethodId} {args : Array Value} {below : List Frame} {meth : Method} {c : Code} {H : Heap} {locs : List Loc} {cells slots : Nat} {Q : State → Prop} {cc : ByteArray} {pc : Nat} {ls : Array Slot} {rest : List Value} {D : va_G} {cy : Cy} {ad : Nat → Nat} {E : Ee} {A : Nat → Prop} {own : String} {n : Nat} {ret : Option FieldType} {index i a : Nat} {b y : Nat} (C : Cx own cc n ret p s m args meth c D cy A) (hw : WdE D cy A s ad E H locs) (hu : Pt ad E i a) (hv : Pt ad E b y) (hk : eK E i 4 = true) (hl : Cond.fieldLink own index "IceTongue$Text" "signs" "[C" ∈ GW) (hin : meth.name = "<init>") (hO : (TX4 0).1 = own) (hdg : decode cc pc = .ok (.putfield index, 3)) (kk : ∀ (E1 : Ee) (H1 : Heap) (locs1 : List Loc), E1 = eSP E i 0 b → (∀ i a, Pt ad E i a → Pt ad E1 i a) → eN E1 = eN E → eL E1 = eL E → WdE D cy A s ad E1 H1 locs1 → W p l e Rr s m args below meth c H1 locs1 cells slots Q (F0 m (pc + 3) ls rest)) : W p l e Rr s m args below meth c H locs cells slots Q (F0 m pc ls (.ref y :: .ref a :: rest)) := by
  obtain ⟨T, M, R, hRp, hP, hD, hS⟩ := hw
  exact pf_4_0 C hP hD hS (hRp.kd hu hk) hl hin hO hdg (fun R1 H1 locs1 e1 hP1 hD1 hS1 => kk _ H1 locs1 rfl (fun _ _ h => h) rfl rfl ⟨T, M, R1, by rw [e1]; exact hRp.sp hu hv 0, hP1, hD1, hS1⟩)
theorem ng_4_0 {p : Program} {l : Launch} {e : Env} {Rr : Room} {s : State} {m : MethodId} {args : Array Value} {below : List Frame} {meth : Method} {c : Code} {H : Heap} {locs : List Loc} {cells slots : Nat} {Q : State → Prop} {cc : ByteArray} {pc : Nat} {ls : Array Slot} {rest : List Value} {D : va_G} {cy : Cy} {ad : Nat → Nat} {E : Ee} {A : Nat → Prop} {own : String} {n : Nat} {ret : Option FieldType} {index i a b : Nat} (C : Cx own cc n ret p s m args meth c D cy A) (hw : WdE D cy A s ad E H locs) (hu : Pt ad E i a) (hk : eK E i 4 = true) (eb : eP E i 0 = some b) (hl : Cond.fieldLink own index "IceTongue$Text" "signs" "[C" ∈ GW) (hdg : decode cc pc = .ok (.getfield index, 3)) (kk : Pt ad E b (ad b) → W p l e Rr s m args below meth c H locs cells slots Q (F0 m (pc + 3) ls (.ref (ad b) :: rest))) : W p l e Rr s m args below meth c H locs cells slots Q (F0 m pc ls (.ref a :: rest)) := by
  have hw0 := hw
  obtain ⟨T, M, R, hRp, hP, hD, hS⟩ := hw
  obtain ⟨h1, h2⟩ := hRp.get hu eb
  exact gf_4_0 C hP (hRp.kd hu hk) h1 hl hdg (kk h2)
theorem np_4_1 {p : Program} {l : Launch} {e : Env} {Rr : Room} {s : State} {m : MethodId} {args : Array Value} {below : List Frame} {meth : Method} {c : Code} {H : Heap} {locs : List Loc} {cells slots : Nat} {Q : State → Prop} {cc : ByteArray} {pc : Nat} {ls : Array Slot} {rest : List Value} {D : va_G} {cy : Cy} {ad : Nat → Nat} {E : Ee} {A : Nat → Prop} {own : String} {n : Nat} {ret : Option FieldType} {index i a : Nat} {x : Int32} (C : Cx own cc n ret p s m args meth c D cy A) (hw : WdE D cy A s ad E H locs) (hu : Pt ad E i a) (hk : eK E i 4 = true) (hl : Cond.fieldLink own index "IceTongue$Text" "length" "I" ∈ GW) (hdg : decode cc pc = .ok (.putfield index, 3)) (kk : ∀ (E1 : Ee) (H1 : Heap) (locs1 : List Loc), E1 = eSI E i 1 x → (∀ i a, Pt ad E i a → Pt ad E1 i a) → eN E1 = eN E → eL E1 = eL E → WdE D cy A s ad E1 H1 locs1 → W p l e Rr s m args below meth c H1 locs1 cells slots Q (F0 m (pc + 3) ls rest)) : W p l e Rr s m args below meth c H locs cells slots Q (F0 m pc ls (.int x :: .ref a :: rest)) := by
  obtain ⟨T, M, R, hRp, hP, hD, hS⟩ := hw
  exact pf_4_1 C hP hD hS (hRp.kd hu hk) hl hdg (fun M1 H1 locs1 e1 hP1 hD1 hS1 => kk _ H1 locs1 rfl (fun _ _ h => h) rfl rfl ⟨T, M1, R, by rw [e1]; exact hRp.si hu 1 x, hP1, hD1, hS1⟩)
theorem np_5_0 {p : Program} {l : Launch} {e : Env} {Rr : Room} {s : State} {m : MethodId} {args : Array Value} {below : List Frame} {meth : Method} {c : Code} {H : Heap} {locs : List Loc} {cells slots : Nat} {Q : State → Prop} {cc : ByteArray} {pc : Nat} {ls : Array Slot} {rest : List Value} {D : va_G} {cy : Cy} {ad : Nat → Nat} {E : Ee} {A : Nat → Prop} {own : String} {n : Nat} {ret : Option FieldType} {index i a : Nat} {b y : Nat} (C : Cx own cc n ret p s m args meth c D cy A) (hw : WdE D cy A s ad E H locs) (hu : Pt ad E i a) (hv : Pt ad E b y) (hk : eK E i 5 = true) (hl : Cond.fieldLink own index "IceTongue$Tongue" "settings" "[I" ∈ GW) (hin : meth.name = "<init>") (hO : (TX5 0).1 = own) (hdg : decode cc pc = .ok (.putfield index, 3)) (kk : ∀ (E1 : Ee) (H1 : Heap) (locs1 : List Loc), E1 = eSP E i 0 b → (∀ i a, Pt ad E i a → Pt ad E1 i a) → eN E1 = eN E → eL E1 = eL E → WdE D cy A s ad E1 H1 locs1 → W p l e Rr s m args below meth c H1 locs1 cells slots Q (F0 m (pc + 3) ls rest)) : W p l e Rr s m args below meth c H locs cells slots Q (F0 m pc ls (.ref y :: .ref a :: rest)) := by
  obtain ⟨T, M, R, hRp, hP, hD, hS⟩ := hw
  exact pf_5_0 C hP hD hS (hRp.kd hu hk) hl hin hO hdg (fun R1 H1 locs1 e1 hP1 hD1 hS1 => kk _ H1 locs1 rfl (fun _ _ h => h) rfl rfl ⟨T, M, R1, by rw [e1]; exact hRp.sp hu hv 0, hP1, hD1, hS1⟩)
theorem ng_5_0 {p : Program} {l : Launch} {e : Env} {Rr : Room} {s : State} {m : MethodId} {args : Array Value} {below : List Frame} {meth : Method} {c : Code} {H : Heap} {locs : List Loc} {cells slots : Nat} {Q : State → Prop} {cc : ByteArray} {pc : Nat} {ls : Array Slot} {rest : List Value} {D : va_G} {cy : Cy} {ad : Nat → Nat} {E : Ee} {A : Nat → Prop} {own : String} {n : Nat} {ret : Option FieldType} {index i a b : Nat} (C : Cx own cc n ret p s m args meth c D cy A) (hw : WdE D cy A s ad E H locs) (hu : Pt ad E i a) (hk : eK E i 5 = true) (eb : eP E i 0 = some b) (hl : Cond.fieldLink own index "IceTongue$Tongue" "settings" "[I" ∈ GW) (hdg : decode cc pc = .ok (.getfield index, 3)) (kk : Pt ad E b (ad b) → W p l e Rr s m args below meth c H locs cells slots Q (F0 m (pc + 3) ls (.ref (ad b) :: rest))) : W p l e Rr s m args below meth c H locs cells slots Q (F0 m pc ls (.ref a :: rest)) := by
  have hw0 := hw
  obtain ⟨T, M, R, hRp, hP, hD, hS⟩ := hw
  obtain ⟨h1, h2⟩ := hRp.get hu eb
  exact gf_5_0 C hP (hRp.kd hu hk) h1 hl hdg (kk h2)
theorem np_5_1 {p : Program} {l : Launch} {e : Env} {Rr : Room} {s : State} {m : MethodId} {args : Array Value} {below : List Frame} {meth : Method} {c : Code} {H : Heap} {locs : List Loc} {cells slots : Nat} {Q : State → Prop} {cc : ByteArray} {pc : Nat} {ls : Array Slot} {rest : List Value} {D : va_G} {cy : Cy} {ad : Nat → Nat} {E : Ee} {A : Nat → Prop} {own : String} {n : Nat} {ret : Option FieldType} {index i a : Nat} {b y : Nat} (C : Cx own cc n ret p s m args meth c D cy A) (hw : WdE D cy A s ad E H locs) (hu : Pt ad E i a) (hv : Pt ad E b y) (hk : eK E i 5 = true) (hl : Cond.fieldLink own index "IceTongue$Tongue" "bands" "[LIceTongue$Band;" ∈ GW) (hin : meth.name = "<init>") (hO : (TX5 1).1 = own) (hdg : decode cc pc = .ok (.putfield index, 3)) (kk : ∀ (E1 : Ee) (H1 : Heap) (locs1 : List Loc), E1 = eSP E i 1 b → (∀ i a, Pt ad E i a → Pt ad E1 i a) → eN E1 = eN E → eL E1 = eL E → WdE D cy A s ad E1 H1 locs1 → W p l e Rr s m args below meth c H1 locs1 cells slots Q (F0 m (pc + 3) ls rest)) : W p l e Rr s m args below meth c H locs cells slots Q (F0 m pc ls (.ref y :: .ref a :: rest)) := by
  obtain ⟨T, M, R, hRp, hP, hD, hS⟩ := hw
  exact pf_5_1 C hP hD hS (hRp.kd hu hk) hl hin hO hdg (fun R1 H1 locs1 e1 hP1 hD1 hS1 => kk _ H1 locs1 rfl (fun _ _ h => h) rfl rfl ⟨T, M, R1, by rw [e1]; exact hRp.sp hu hv 1, hP1, hD1, hS1⟩)
theorem ng_5_1 {p : Program} {l : Launch} {e : Env} {Rr : Room} {s : State} {m : MethodId} {args : Array Value} {below : List Frame} {meth : Method} {c : Code} {H : Heap} {locs : List Loc} {cells slots : Nat} {Q : State → Prop} {cc : ByteArray} {pc : Nat} {ls : Array Slot} {rest : List Value} {D : va_G} {cy : Cy} {ad : Nat → Nat} {E : Ee} {A : Nat → Prop} {own : String} {n : Nat} {ret : Option FieldType} {index i a b : Nat} (C : Cx own cc n ret p s m args meth c D cy A) (hw : WdE D cy A s ad E H locs) (hu : Pt ad E i a) (hk : eK E i 5 = true) (eb : eP E i 1 = some b) (hl : Cond.fieldLink own index "IceTongue$Tongue" "bands" "[LIceTongue$Band;" ∈ GW) (hdg : decode cc pc = .ok (.getfield index, 3)) (kk : Pt ad E b (ad b) → W p l e Rr s m args below meth c H locs cells slots Q (F0 m (pc + 3) ls (.ref (ad b) :: rest))) : W p l e Rr s m args below meth c H locs cells slots Q (F0 m pc ls (.ref a :: rest)) := by
  have hw0 := hw
  obtain ⟨T, M, R, hRp, hP, hD, hS⟩ := hw
  obtain ⟨h1, h2⟩ := hRp.get hu eb
  exact gf_5_1 C hP (hRp.kd hu hk) h1 hl hdg (kk h2)
theorem np_5_2 {p : Program} {l : Launch} {e : Env} {Rr : Room} {s : State} {m : MethodId} {args : Array Value} {below : List Frame} {meth : Method} {c : Code} {H : Heap} {locs : List Loc} {cells slots : Nat} {Q : State → Prop} {cc : ByteArray} {pc : Nat} {ls : Array Slot} {rest : List Value} {D : va_G} {cy : Cy} {ad : Nat → Nat} {E : Ee} {A : Nat → Prop} {own : String} {n : Nat} {ret : Option FieldType} {index i a : Nat} {b y : Nat} (C : Cx own cc n ret p s m args meth c D cy A) (hw : WdE D cy A s ad E H locs) (hu : Pt ad E i a) (hv : Pt ad E b y) (hk : eK E i 5 = true) (hl : Cond.fieldLink own index "IceTongue$Tongue" "stakes" "[LIceTongue$Stake;" ∈ GW) (hin : meth.name = "<init>") (hO : (TX5 2).1 = own) (hdg : decode cc pc = .ok (.putfield index, 3)) (kk : ∀ (E1 : Ee) (H1 : Heap) (locs1 : List Loc), E1 = eSP E i 2 b → (∀ i a, Pt ad E i a → Pt ad E1 i a) → eN E1 = eN E → eL E1 = eL E → WdE D cy A s ad E1 H1 locs1 → W p l e Rr s m args below meth c H1 locs1 cells slots Q (F0 m (pc + 3) ls rest)) : W p l e Rr s m args below meth c H locs cells slots Q (F0 m pc ls (.ref y :: .ref a :: rest)) := by
  obtain ⟨T, M, R, hRp, hP, hD, hS⟩ := hw
  exact pf_5_2 C hP hD hS (hRp.kd hu hk) hl hin hO hdg (fun R1 H1 locs1 e1 hP1 hD1 hS1 => kk _ H1 locs1 rfl (fun _ _ h => h) rfl rfl ⟨T, M, R1, by rw [e1]; exact hRp.sp hu hv 2, hP1, hD1, hS1⟩)
theorem ng_5_2 {p : Program} {l : Launch} {e : Env} {Rr : Room} {s : State} {m : MethodId} {args : Array Value} {below : List Frame} {meth : Method} {c : Code} {H : Heap} {locs : List Loc} {cells slots : Nat} {Q : State → Prop} {cc : ByteArray} {pc : Nat} {ls : Array Slot} {rest : List Value} {D : va_G} {cy : Cy} {ad : Nat → Nat} {E : Ee} {A : Nat → Prop} {own : String} {n : Nat} {ret : Option FieldType} {index i a b : Nat} (C : Cx own cc n ret p s m args meth c D cy A) (hw : WdE D cy A s ad E H locs) (hu : Pt ad E i a) (hk : eK E i 5 = true) (eb : eP E i 2 = some b) (hl : Cond.fieldLink own index "IceTongue$Tongue" "stakes" "[LIceTongue$Stake;" ∈ GW) (hdg : decode cc pc = .ok (.getfield index, 3)) (kk : Pt ad E b (ad b) → W p l e Rr s m args below meth c H locs cells slots Q (F0 m (pc + 3) ls (.ref (ad b) :: rest))) : W p l e Rr s m args below meth c H locs cells slots Q (F0 m pc ls (.ref a :: rest)) := by
  have hw0 := hw
  obtain ⟨T, M, R, hRp, hP, hD, hS⟩ := hw
  obtain ⟨h1, h2⟩ := hRp.get hu eb
  exact gf_5_2 C hP (hRp.kd hu hk) h1 hl hdg (kk h2)
theorem np_5_3 {p : Program} {l : Launch} {e : Env} {Rr : Room} {s : State} {m : MethodId} {args : Array Value} {below : List Frame} {meth : Method} {c : Code} {H : Heap} {locs : List Loc} {cells slots : Nat} {Q : State → Prop} {cc : ByteArray} {pc : Nat} {ls : Array Slot} {rest : List Value} {D : va_G} {cy : Cy} {ad : Nat → Nat} {E : Ee} {A : Nat → Prop} {own : String} {n : Nat} {ret : Option FieldType} {index i a : Nat} {b y : Nat} (C : Cx own cc n ret p s m args meth c D cy A) (hw : WdE D cy A s ad E H locs) (hu : Pt ad E i a) (hv : Pt ad E b y) (hk : eK E i 5 = true) (hl : Cond.fieldLink own index "IceTongue$Tongue" "front" "LIceTongue$Front;" ∈ GW) (hin : meth.name = "<init>") (hO : (TX5 3).1 = own) (hdg : decode cc pc = .ok (.putfield index, 3)) (kk : ∀ (E1 : Ee) (H1 : Heap) (locs1 : List Loc), E1 = eSP E i 3 b → (∀ i a, Pt ad E i a → Pt ad E1 i a) → eN E1 = eN E → eL E1 = eL E → WdE D cy A s ad E1 H1 locs1 → W p l e Rr s m args below meth c H1 locs1 cells slots Q (F0 m (pc + 3) ls rest)) : W p l e Rr s m args below meth c H locs cells slots Q (F0 m pc ls (.ref y :: .ref a :: rest)) := by
  obtain ⟨T, M, R, hRp, hP, hD, hS⟩ := hw
  exact pf_5_3 C hP hD hS (hRp.kd hu hk) hl hin hO hdg (fun R1 H1 locs1 e1 hP1 hD1 hS1 => kk _ H1 locs1 rfl (fun _ _ h => h) rfl rfl ⟨T, M, R1, by rw [e1]; exact hRp.sp hu hv 3, hP1, hD1, hS1⟩)
theorem ng_5_3 {p : Program} {l : Launch} {e : Env} {Rr : Room} {s : State} {m : MethodId} {args : Array Value} {below : List Frame} {meth : Method} {c : Code} {H : Heap} {locs : List Loc} {cells slots : Nat} {Q : State → Prop} {cc : ByteArray} {pc : Nat} {ls : Array Slot} {rest : List Value} {D : va_G} {cy : Cy} {ad : Nat → Nat} {E : Ee} {A : Nat → Prop} {own : String} {n : Nat} {ret : Option FieldType} {index i a b : Nat} (C : Cx own cc n ret p s m args meth c D cy A) (hw : WdE D cy A s ad E H locs) (hu : Pt ad E i a) (hk : eK E i 5 = true) (eb : eP E i 3 = some b) (hl : Cond.fieldLink own index "IceTongue$Tongue" "front" "LIceTongue$Front;" ∈ GW) (hdg : decode cc pc = .ok (.getfield index, 3)) (kk : Pt ad E b (ad b) → W p l e Rr s m args below meth c H locs cells slots Q (F0 m (pc + 3) ls (.ref (ad b) :: rest))) : W p l e Rr s m args below meth c H locs cells slots Q (F0 m pc ls (.ref a :: rest)) := by
  have hw0 := hw
  obtain ⟨T, M, R, hRp, hP, hD, hS⟩ := hw
  obtain ⟨h1, h2⟩ := hRp.get hu eb
  exact gf_5_3 C hP (hRp.kd hu hk) h1 hl hdg (kk h2)
theorem np_5_4 {p : Program} {l : Launch} {e : Env} {Rr : Room} {s : State} {m : MethodId} {args : Array Value} {below : List Frame} {meth : Method} {c : Code} {H : Heap} {locs : List Loc} {cells slots : Nat} {Q : State → Prop} {cc : ByteArray} {pc : Nat} {ls : Array Slot} {rest : List Value} {D : va_G} {cy : Cy} {ad : Nat → Nat} {E : Ee} {A : Nat → Prop} {own : String} {n : Nat} {ret : Option FieldType} {index i a : Nat} {x : Int32} (C : Cx own cc n ret p s m args meth c D cy A) (hw : WdE D cy A s ad E H locs) (hu : Pt ad E i a) (hk : eK E i 5 = true) (hl : Cond.fieldLink own index "IceTongue$Tongue" "bandCount" "I" ∈ GW) (hdg : decode cc pc = .ok (.putfield index, 3)) (kk : ∀ (E1 : Ee) (H1 : Heap) (locs1 : List Loc), E1 = eSI E i 4 x → (∀ i a, Pt ad E i a → Pt ad E1 i a) → eN E1 = eN E → eL E1 = eL E → WdE D cy A s ad E1 H1 locs1 → W p l e Rr s m args below meth c H1 locs1 cells slots Q (F0 m (pc + 3) ls rest)) : W p l e Rr s m args below meth c H locs cells slots Q (F0 m pc ls (.int x :: .ref a :: rest)) := by
  obtain ⟨T, M, R, hRp, hP, hD, hS⟩ := hw
  exact pf_5_4 C hP hD hS (hRp.kd hu hk) hl hdg (fun M1 H1 locs1 e1 hP1 hD1 hS1 => kk _ H1 locs1 rfl (fun _ _ h => h) rfl rfl ⟨T, M1, R, by rw [e1]; exact hRp.si hu 4 x, hP1, hD1, hS1⟩)
theorem np_5_5 {p : Program} {l : Launch} {e : Env} {Rr : Room} {s : State} {m : MethodId} {args : Array Value} {below : List Frame} {meth : Method} {c : Code} {H : Heap} {locs : List Loc} {cells slots : Nat} {Q : State → Prop} {cc : ByteArray} {pc : Nat} {ls : Array Slot} {rest : List Value} {D : va_G} {cy : Cy} {ad : Nat → Nat} {E : Ee} {A : Nat → Prop} {own : String} {n : Nat} {ret : Option FieldType} {index i a : Nat} {x : Int32} (C : Cx own cc n ret p s m args meth c D cy A) (hw : WdE D cy A s ad E H locs) (hu : Pt ad E i a) (hk : eK E i 5 = true) (hl : Cond.fieldLink own index "IceTongue$Tongue" "stakeCount" "I" ∈ GW) (hdg : decode cc pc = .ok (.putfield index, 3)) (kk : ∀ (E1 : Ee) (H1 : Heap) (locs1 : List Loc), E1 = eSI E i 5 x → (∀ i a, Pt ad E i a → Pt ad E1 i a) → eN E1 = eN E → eL E1 = eL E → WdE D cy A s ad E1 H1 locs1 → W p l e Rr s m args below meth c H1 locs1 cells slots Q (F0 m (pc + 3) ls rest)) : W p l e Rr s m args below meth c H locs cells slots Q (F0 m pc ls (.int x :: .ref a :: rest)) := by
  obtain ⟨T, M, R, hRp, hP, hD, hS⟩ := hw
  exact pf_5_5 C hP hD hS (hRp.kd hu hk) hl hdg (fun M1 H1 locs1 e1 hP1 hD1 hS1 => kk _ H1 locs1 rfl (fun _ _ h => h) rfl rfl ⟨T, M1, R, by rw [e1]; exact hRp.si hu 5 x, hP1, hD1, hS1⟩)
theorem np_5_6 {p : Program} {l : Launch} {e : Env} {Rr : Room} {s : State} {m : MethodId} {args : Array Value} {below : List Frame} {meth : Method} {c : Code} {H : Heap} {locs : List Loc} {cells slots : Nat} {Q : State → Prop} {cc : ByteArray} {pc : Nat} {ls : Array Slot} {rest : List Value} {D : va_G} {cy : Cy} {ad : Nat → Nat} {E : Ee} {A : Nat → Prop} {own : String} {n : Nat} {ret : Option FieldType} {index i a : Nat} {x : Int32} (C : Cx own cc n ret p s m args meth c D cy A) (hw : WdE D cy A s ad E H locs) (hu : Pt ad E i a) (hk : eK E i 5 = true) (hl : Cond.fieldLink own index "IceTongue$Tongue" "year" "I" ∈ GW) (hdg : decode cc pc = .ok (.putfield index, 3)) (kk : ∀ (E1 : Ee) (H1 : Heap) (locs1 : List Loc), E1 = eSI E i 6 x → (∀ i a, Pt ad E i a → Pt ad E1 i a) → eN E1 = eN E → eL E1 = eL E → WdE D cy A s ad E1 H1 locs1 → W p l e Rr s m args below meth c H1 locs1 cells slots Q (F0 m (pc + 3) ls rest)) : W p l e Rr s m args below meth c H locs cells slots Q (F0 m pc ls (.int x :: .ref a :: rest)) := by
  obtain ⟨T, M, R, hRp, hP, hD, hS⟩ := hw
  exact pf_5_6 C hP hD hS (hRp.kd hu hk) hl hdg (fun M1 H1 locs1 e1 hP1 hD1 hS1 => kk _ H1 locs1 rfl (fun _ _ h => h) rfl rfl ⟨T, M1, R, by rw [e1]; exact hRp.si hu 6 x, hP1, hD1, hS1⟩)
theorem np_5_7 {p : Program} {l : Launch} {e : Env} {Rr : Room} {s : State} {m : MethodId} {args : Array Value} {below : List Frame} {meth : Method} {c : Code} {H : Heap} {locs : List Loc} {cells slots : Nat} {Q : State → Prop} {cc : ByteArray} {pc : Nat} {ls : Array Slot} {rest : List Value} {D : va_G} {cy : Cy} {ad : Nat → Nat} {E : Ee} {A : Nat → Prop} {own : String} {n : Nat} {ret : Option FieldType} {index i a : Nat} {x : Int64} (C : Cx own cc n ret p s m args meth c D cy A) (hw : WdE D cy A s ad E H locs) (hu : Pt ad E i a) (hk : eK E i 5 = true) (hl : Cond.fieldLink own index "IceTongue$Tongue" "added" "J" ∈ GW) (hdg : decode cc pc = .ok (.putfield index, 3)) (kk : ∀ (E1 : Ee) (H1 : Heap) (locs1 : List Loc), E1 = eSJ E i 7 x → (∀ i a, Pt ad E i a → Pt ad E1 i a) → eN E1 = eN E → eL E1 = eL E → WdE D cy A s ad E1 H1 locs1 → W p l e Rr s m args below meth c H1 locs1 cells slots Q (F0 m (pc + 3) ls rest)) : W p l e Rr s m args below meth c H locs cells slots Q (F0 m pc ls (.long x :: .ref a :: rest)) := by
  obtain ⟨T, M, R, hRp, hP, hD, hS⟩ := hw
  exact pf_5_7 C hP hD hS (hRp.kd hu hk) hl hdg (fun M1 H1 locs1 e1 hP1 hD1 hS1 => kk _ H1 locs1 rfl (fun _ _ h => h) rfl rfl ⟨T, M1, R, by rw [e1]; exact hRp.sj hu 7 x, hP1, hD1, hS1⟩)
theorem np_5_8 {p : Program} {l : Launch} {e : Env} {Rr : Room} {s : State} {m : MethodId} {args : Array Value} {below : List Frame} {meth : Method} {c : Code} {H : Heap} {locs : List Loc} {cells slots : Nat} {Q : State → Prop} {cc : ByteArray} {pc : Nat} {ls : Array Slot} {rest : List Value} {D : va_G} {cy : Cy} {ad : Nat → Nat} {E : Ee} {A : Nat → Prop} {own : String} {n : Nat} {ret : Option FieldType} {index i a : Nat} {x : Int64} (C : Cx own cc n ret p s m args meth c D cy A) (hw : WdE D cy A s ad E H locs) (hu : Pt ad E i a) (hk : eK E i 5 = true) (hl : Cond.fieldLink own index "IceTongue$Tongue" "snowed" "J" ∈ GW) (hdg : decode cc pc = .ok (.putfield index, 3)) (kk : ∀ (E1 : Ee) (H1 : Heap) (locs1 : List Loc), E1 = eSJ E i 8 x → (∀ i a, Pt ad E i a → Pt ad E1 i a) → eN E1 = eN E → eL E1 = eL E → WdE D cy A s ad E1 H1 locs1 → W p l e Rr s m args below meth c H1 locs1 cells slots Q (F0 m (pc + 3) ls rest)) : W p l e Rr s m args below meth c H locs cells slots Q (F0 m pc ls (.long x :: .ref a :: rest)) := by
  obtain ⟨T, M, R, hRp, hP, hD, hS⟩ := hw
  exact pf_5_8 C hP hD hS (hRp.kd hu hk) hl hdg (fun M1 H1 locs1 e1 hP1 hD1 hS1 => kk _ H1 locs1 rfl (fun _ _ h => h) rfl rfl ⟨T, M1, R, by rw [e1]; exact hRp.sj hu 8 x, hP1, hD1, hS1⟩)
theorem np_5_9 {p : Program} {l : Launch} {e : Env} {Rr : Room} {s : State} {m : MethodId} {args : Array Value} {below : List Frame} {meth : Method} {c : Code} {H : Heap} {locs : List Loc} {cells slots : Nat} {Q : State → Prop} {cc : ByteArray} {pc : Nat} {ls : Array Slot} {rest : List Value} {D : va_G} {cy : Cy} {ad : Nat → Nat} {E : Ee} {A : Nat → Prop} {own : String} {n : Nat} {ret : Option FieldType} {index i a : Nat} {x : Int64} (C : Cx own cc n ret p s m args meth c D cy A) (hw : WdE D cy A s ad E H locs) (hu : Pt ad E i a) (hk : eK E i 5 = true) (hl : Cond.fieldLink own index "IceTongue$Tongue" "melted" "J" ∈ GW) (hdg : decode cc pc = .ok (.putfield index, 3)) (kk : ∀ (E1 : Ee) (H1 : Heap) (locs1 : List Loc), E1 = eSJ E i 9 x → (∀ i a, Pt ad E i a → Pt ad E1 i a) → eN E1 = eN E → eL E1 = eL E → WdE D cy A s ad E1 H1 locs1 → W p l e Rr s m args below meth c H1 locs1 cells slots Q (F0 m (pc + 3) ls rest)) : W p l e Rr s m args below meth c H locs cells slots Q (F0 m pc ls (.long x :: .ref a :: rest)) := by
  obtain ⟨T, M, R, hRp, hP, hD, hS⟩ := hw
  exact pf_5_9 C hP hD hS (hRp.kd hu hk) hl hdg (fun M1 H1 locs1 e1 hP1 hD1 hS1 => kk _ H1 locs1 rfl (fun _ _ h => h) rfl rfl ⟨T, M1, R, by rw [e1]; exact hRp.sj hu 9 x, hP1, hD1, hS1⟩)
theorem np_5_10 {p : Program} {l : Launch} {e : Env} {Rr : Room} {s : State} {m : MethodId} {args : Array Value} {below : List Frame} {meth : Method} {c : Code} {H : Heap} {locs : List Loc} {cells slots : Nat} {Q : State → Prop} {cc : ByteArray} {pc : Nat} {ls : Array Slot} {rest : List Value} {D : va_G} {cy : Cy} {ad : Nat → Nat} {E : Ee} {A : Nat → Prop} {own : String} {n : Nat} {ret : Option FieldType} {index i a : Nat} {x : Int64} (C : Cx own cc n ret p s m args meth c D cy A) (hw : WdE D cy A s ad E H locs) (hu : Pt ad E i a) (hk : eK E i 5 = true) (hl : Cond.fieldLink own index "IceTongue$Tongue" "calved" "J" ∈ GW) (hdg : decode cc pc = .ok (.putfield index, 3)) (kk : ∀ (E1 : Ee) (H1 : Heap) (locs1 : List Loc), E1 = eSJ E i 10 x → (∀ i a, Pt ad E i a → Pt ad E1 i a) → eN E1 = eN E → eL E1 = eL E → WdE D cy A s ad E1 H1 locs1 → W p l e Rr s m args below meth c H1 locs1 cells slots Q (F0 m (pc + 3) ls rest)) : W p l e Rr s m args below meth c H locs cells slots Q (F0 m pc ls (.long x :: .ref a :: rest)) := by
  obtain ⟨T, M, R, hRp, hP, hD, hS⟩ := hw
  exact pf_5_10 C hP hD hS (hRp.kd hu hk) hl hdg (fun M1 H1 locs1 e1 hP1 hD1 hS1 => kk _ H1 locs1 rfl (fun _ _ h => h) rfl rfl ⟨T, M1, R, by rw [e1]; exact hRp.sj hu 10 x, hP1, hD1, hS1⟩)
theorem np_6_0 {p : Program} {l : Launch} {e : Env} {Rr : Room} {s : State} {m : MethodId} {args : Array Value} {below : List Frame} {meth : Method} {c : Code} {H : Heap} {locs : List Loc} {cells slots : Nat} {Q : State → Prop} {cc : ByteArray} {pc : Nat} {ls : Array Slot} {rest : List Value} {D : va_G} {cy : Cy} {ad : Nat → Nat} {E : Ee} {A : Nat → Prop} {own : String} {n : Nat} {ret : Option FieldType} {index i a : Nat} {b y : Nat} (C : Cx own cc n ret p s m args meth c D cy A) (hw : WdE D cy A s ad E H locs) (hu : Pt ad E i a) (hv : Pt ad E b y) (hk : eK E i 6 = true) (hl : Cond.fieldLink own index "IceTongue" "trial" "LIceTongue$Tongue;" ∈ GW) (hin : meth.name = "<init>") (hO : (TX6 0).1 = own) (hdg : decode cc pc = .ok (.putfield index, 3)) (kk : ∀ (E1 : Ee) (H1 : Heap) (locs1 : List Loc), E1 = eSP E i 0 b → (∀ i a, Pt ad E i a → Pt ad E1 i a) → eN E1 = eN E → eL E1 = eL E → WdE D cy A s ad E1 H1 locs1 → W p l e Rr s m args below meth c H1 locs1 cells slots Q (F0 m (pc + 3) ls rest)) : W p l e Rr s m args below meth c H locs cells slots Q (F0 m pc ls (.ref y :: .ref a :: rest)) := by
  obtain ⟨T, M, R, hRp, hP, hD, hS⟩ := hw
  exact pf_6_0 C hP hD hS (hRp.kd hu hk) hl hin hO hdg (fun R1 H1 locs1 e1 hP1 hD1 hS1 => kk _ H1 locs1 rfl (fun _ _ h => h) rfl rfl ⟨T, M, R1, by rw [e1]; exact hRp.sp hu hv 0, hP1, hD1, hS1⟩)
theorem ng_6_0 {p : Program} {l : Launch} {e : Env} {Rr : Room} {s : State} {m : MethodId} {args : Array Value} {below : List Frame} {meth : Method} {c : Code} {H : Heap} {locs : List Loc} {cells slots : Nat} {Q : State → Prop} {cc : ByteArray} {pc : Nat} {ls : Array Slot} {rest : List Value} {D : va_G} {cy : Cy} {ad : Nat → Nat} {E : Ee} {A : Nat → Prop} {own : String} {n : Nat} {ret : Option FieldType} {index i a b : Nat} (C : Cx own cc n ret p s m args meth c D cy A) (hw : WdE D cy A s ad E H locs) (hu : Pt ad E i a) (hk : eK E i 6 = true) (eb : eP E i 0 = some b) (hl : Cond.fieldLink own index "IceTongue" "trial" "LIceTongue$Tongue;" ∈ GW) (hdg : decode cc pc = .ok (.getfield index, 3)) (kk : Pt ad E b (ad b) → W p l e Rr s m args below meth c H locs cells slots Q (F0 m (pc + 3) ls (.ref (ad b) :: rest))) : W p l e Rr s m args below meth c H locs cells slots Q (F0 m pc ls (.ref a :: rest)) := by
  have hw0 := hw
  obtain ⟨T, M, R, hRp, hP, hD, hS⟩ := hw
  obtain ⟨h1, h2⟩ := hRp.get hu eb
  exact gf_6_0 C hP (hRp.kd hu hk) h1 hl hdg (kk h2)
theorem np_6_1 {p : Program} {l : Launch} {e : Env} {Rr : Room} {s : State} {m : MethodId} {args : Array Value} {below : List Frame} {meth : Method} {c : Code} {H : Heap} {locs : List Loc} {cells slots : Nat} {Q : State → Prop} {cc : ByteArray} {pc : Nat} {ls : Array Slot} {rest : List Value} {D : va_G} {cy : Cy} {ad : Nat → Nat} {E : Ee} {A : Nat → Prop} {own : String} {n : Nat} {ret : Option FieldType} {index i a : Nat} {b y : Nat} (C : Cx own cc n ret p s m args meth c D cy A) (hw : WdE D cy A s ad E H locs) (hu : Pt ad E i a) (hv : Pt ad E b y) (hk : eK E i 6 = true) (hl : Cond.fieldLink own index "IceTongue" "history" "[LIceTongue$Tongue;" ∈ GW) (hin : meth.name = "<init>") (hO : (TX6 1).1 = own) (hdg : decode cc pc = .ok (.putfield index, 3)) (kk : ∀ (E1 : Ee) (H1 : Heap) (locs1 : List Loc), E1 = eSP E i 1 b → (∀ i a, Pt ad E i a → Pt ad E1 i a) → eN E1 = eN E → eL E1 = eL E → WdE D cy A s ad E1 H1 locs1 → W p l e Rr s m args below meth c H1 locs1 cells slots Q (F0 m (pc + 3) ls rest)) : W p l e Rr s m args below meth c H locs cells slots Q (F0 m pc ls (.ref y :: .ref a :: rest)) := by
  obtain ⟨T, M, R, hRp, hP, hD, hS⟩ := hw
  exact pf_6_1 C hP hD hS (hRp.kd hu hk) hl hin hO hdg (fun R1 H1 locs1 e1 hP1 hD1 hS1 => kk _ H1 locs1 rfl (fun _ _ h => h) rfl rfl ⟨T, M, R1, by rw [e1]; exact hRp.sp hu hv 1, hP1, hD1, hS1⟩)
theorem ng_6_1 {p : Program} {l : Launch} {e : Env} {Rr : Room} {s : State} {m : MethodId} {args : Array Value} {below : List Frame} {meth : Method} {c : Code} {H : Heap} {locs : List Loc} {cells slots : Nat} {Q : State → Prop} {cc : ByteArray} {pc : Nat} {ls : Array Slot} {rest : List Value} {D : va_G} {cy : Cy} {ad : Nat → Nat} {E : Ee} {A : Nat → Prop} {own : String} {n : Nat} {ret : Option FieldType} {index i a b : Nat} (C : Cx own cc n ret p s m args meth c D cy A) (hw : WdE D cy A s ad E H locs) (hu : Pt ad E i a) (hk : eK E i 6 = true) (eb : eP E i 1 = some b) (hl : Cond.fieldLink own index "IceTongue" "history" "[LIceTongue$Tongue;" ∈ GW) (hdg : decode cc pc = .ok (.getfield index, 3)) (kk : Pt ad E b (ad b) → W p l e Rr s m args below meth c H locs cells slots Q (F0 m (pc + 3) ls (.ref (ad b) :: rest))) : W p l e Rr s m args below meth c H locs cells slots Q (F0 m pc ls (.ref a :: rest)) := by
  have hw0 := hw
  obtain ⟨T, M, R, hRp, hP, hD, hS⟩ := hw
  obtain ⟨h1, h2⟩ := hRp.get hu eb
  exact gf_6_1 C hP (hRp.kd hu hk) h1 hl hdg (kk h2)
theorem np_6_2 {p : Program} {l : Launch} {e : Env} {Rr : Room} {s : State} {m : MethodId} {args : Array Value} {below : List Frame} {meth : Method} {c : Code} {H : Heap} {locs : List Loc} {cells slots : Nat} {Q : State → Prop} {cc : ByteArray} {pc : Nat} {ls : Array Slot} {rest : List Value} {D : va_G} {cy : Cy} {ad : Nat → Nat} {E : Ee} {A : Nat → Prop} {own : String} {n : Nat} {ret : Option FieldType} {index i a : Nat} {b y : Nat} (C : Cx own cc n ret p s m args meth c D cy A) (hw : WdE D cy A s ad E H locs) (hu : Pt ad E i a) (hv : Pt ad E b y) (hk : eK E i 6 = true) (hl : Cond.fieldLink own index "IceTongue" "text" "LIceTongue$Text;" ∈ GW) (hin : meth.name = "<init>") (hO : (TX6 2).1 = own) (hdg : decode cc pc = .ok (.putfield index, 3)) (kk : ∀ (E1 : Ee) (H1 : Heap) (locs1 : List Loc), E1 = eSP E i 2 b → (∀ i a, Pt ad E i a → Pt ad E1 i a) → eN E1 = eN E → eL E1 = eL E → WdE D cy A s ad E1 H1 locs1 → W p l e Rr s m args below meth c H1 locs1 cells slots Q (F0 m (pc + 3) ls rest)) : W p l e Rr s m args below meth c H locs cells slots Q (F0 m pc ls (.ref y :: .ref a :: rest)) := by
  obtain ⟨T, M, R, hRp, hP, hD, hS⟩ := hw
  exact pf_6_2 C hP hD hS (hRp.kd hu hk) hl hin hO hdg (fun R1 H1 locs1 e1 hP1 hD1 hS1 => kk _ H1 locs1 rfl (fun _ _ h => h) rfl rfl ⟨T, M, R1, by rw [e1]; exact hRp.sp hu hv 2, hP1, hD1, hS1⟩)
theorem ng_6_2 {p : Program} {l : Launch} {e : Env} {Rr : Room} {s : State} {m : MethodId} {args : Array Value} {below : List Frame} {meth : Method} {c : Code} {H : Heap} {locs : List Loc} {cells slots : Nat} {Q : State → Prop} {cc : ByteArray} {pc : Nat} {ls : Array Slot} {rest : List Value} {D : va_G} {cy : Cy} {ad : Nat → Nat} {E : Ee} {A : Nat → Prop} {own : String} {n : Nat} {ret : Option FieldType} {index i a b : Nat} (C : Cx own cc n ret p s m args meth c D cy A) (hw : WdE D cy A s ad E H locs) (hu : Pt ad E i a) (hk : eK E i 6 = true) (eb : eP E i 2 = some b) (hl : Cond.fieldLink own index "IceTongue" "text" "LIceTongue$Text;" ∈ GW) (hdg : decode cc pc = .ok (.getfield index, 3)) (kk : Pt ad E b (ad b) → W p l e Rr s m args below meth c H locs cells slots Q (F0 m (pc + 3) ls (.ref (ad b) :: rest))) : W p l e Rr s m args below meth c H locs cells slots Q (F0 m pc ls (.ref a :: rest)) := by
  have hw0 := hw
  obtain ⟨T, M, R, hRp, hP, hD, hS⟩ := hw
  obtain ⟨h1, h2⟩ := hRp.get hu eb
  exact gf_6_2 C hP (hRp.kd hu hk) h1 hl hdg (kk h2)
theorem np_6_3 {p : Program} {l : Launch} {e : Env} {Rr : Room} {s : State} {m : MethodId} {args : Array Value} {below : List Frame} {meth : Method} {c : Code} {H : Heap} {locs : List Loc} {cells slots : Nat} {Q : State → Prop} {cc : ByteArray} {pc : Nat} {ls : Array Slot} {rest : List Value} {D : va_G} {cy : Cy} {ad : Nat → Nat} {E : Ee} {A : Nat → Prop} {own : String} {n : Nat} {ret : Option FieldType} {index i a : Nat} {b y : Nat} (C : Cx own cc n ret p s m args meth c D cy A) (hw : WdE D cy A s ad E H locs) (hu : Pt ad E i a) (hv : Pt ad E b y) (hk : eK E i 6 = true) (hl : Cond.fieldLink own index "IceTongue" "now" "LIceTongue$Tongue;" ∈ GW) (hdg : decode cc pc = .ok (.putfield index, 3)) (kk : ∀ (E1 : Ee) (H1 : Heap) (locs1 : List Loc), E1 = eSP E i 3 b → (∀ i a, Pt ad E i a → Pt ad E1 i a) → eN E1 = eN E → eL E1 = eL E → WdE D cy A s ad E1 H1 locs1 → W p l e Rr s m args below meth c H1 locs1 cells slots Q (F0 m (pc + 3) ls rest)) : W p l e Rr s m args below meth c H locs cells slots Q (F0 m pc ls (.ref y :: .ref a :: rest)) := by
  obtain ⟨T, M, R, hRp, hP, hD, hS⟩ := hw
  exact pf_6_3 C hP hD hS (hRp.kd hu hk) hl hdg (fun R1 H1 locs1 e1 hP1 hD1 hS1 => kk _ H1 locs1 rfl (fun _ _ h => h) rfl rfl ⟨T, M, R1, by rw [e1]; exact hRp.sp hu hv 3, hP1, hD1, hS1⟩)
theorem ng_6_3 {p : Program} {l : Launch} {e : Env} {Rr : Room} {s : State} {m : MethodId} {args : Array Value} {below : List Frame} {meth : Method} {c : Code} {H : Heap} {locs : List Loc} {cells slots : Nat} {Q : State → Prop} {cc : ByteArray} {pc : Nat} {ls : Array Slot} {rest : List Value} {D : va_G} {cy : Cy} {ad : Nat → Nat} {E : Ee} {A : Nat → Prop} {own : String} {n : Nat} {ret : Option FieldType} {index i a b : Nat} (C : Cx own cc n ret p s m args meth c D cy A) (hw : WdE D cy A s ad E H locs) (hu : Pt ad E i a) (hk : eK E i 6 = true) (eb : eP E i 3 = some b) (hl : Cond.fieldLink own index "IceTongue" "now" "LIceTongue$Tongue;" ∈ GW) (hdg : decode cc pc = .ok (.getfield index, 3)) (kk : Pt ad E b (ad b) → W p l e Rr s m args below meth c H locs cells slots Q (F0 m (pc + 3) ls (.ref (ad b) :: rest))) : W p l e Rr s m args below meth c H locs cells slots Q (F0 m pc ls (.ref a :: rest)) := by
  have hw0 := hw
  obtain ⟨T, M, R, hRp, hP, hD, hS⟩ := hw
  obtain ⟨h1, h2⟩ := hRp.get hu eb
  exact gf_6_3 C hP (hRp.kd hu hk) h1 hl hdg (kk h2)
theorem np_6_4 {p : Program} {l : Launch} {e : Env} {Rr : Room} {s : State} {m : MethodId} {args : Array Value} {below : List Frame} {meth : Method} {c : Code} {H : Heap} {locs : List Loc} {cells slots : Nat} {Q : State → Prop} {cc : ByteArray} {pc : Nat} {ls : Array Slot} {rest : List Value} {D : va_G} {cy : Cy} {ad : Nat → Nat} {E : Ee} {A : Nat → Prop} {own : String} {n : Nat} {ret : Option FieldType} {index i a : Nat} {x : Int32} (C : Cx own cc n ret p s m args meth c D cy A) (hw : WdE D cy A s ad E H locs) (hu : Pt ad E i a) (hk : eK E i 6 = true) (hl : Cond.fieldLink own index "IceTongue" "states" "I" ∈ GW) (hdg : decode cc pc = .ok (.putfield index, 3)) (kk : ∀ (E1 : Ee) (H1 : Heap) (locs1 : List Loc), E1 = eSI E i 4 x → (∀ i a, Pt ad E i a → Pt ad E1 i a) → eN E1 = eN E → eL E1 = eL E → WdE D cy A s ad E1 H1 locs1 → W p l e Rr s m args below meth c H1 locs1 cells slots Q (F0 m (pc + 3) ls rest)) : W p l e Rr s m args below meth c H locs cells slots Q (F0 m pc ls (.int x :: .ref a :: rest)) := by
  obtain ⟨T, M, R, hRp, hP, hD, hS⟩ := hw
  exact pf_6_4 C hP hD hS (hRp.kd hu hk) hl hdg (fun M1 H1 locs1 e1 hP1 hD1 hS1 => kk _ H1 locs1 rfl (fun _ _ h => h) rfl rfl ⟨T, M1, R, by rw [e1]; exact hRp.si hu 4 x, hP1, hD1, hS1⟩)
theorem nw_9 {p : Program} {l : Launch} {e : Env} {Rr : Room} {s : State} {m : MethodId} {args : Array Value} {below : List Frame} {meth : Method} {c : Code} {H : Heap} {locs : List Loc} {cells slots : Nat} {Q : State → Prop} {cc : ByteArray} {pc : Nat} {ls : Array Slot} {rest : List Value} {D : va_G} {cy : Cy} {ad : Nat → Nat} {E : Ee} {A : Nat → Prop} {own : String} {n : Nat} {ret : Option FieldType} {i a : Nat} {j x : Int32} (C : Cx own cc n ret p s m args meth c D cy A) (hw : WdE D cy A s ad E H locs) (hu : Pt ad E i a) (hk : eK E i 9 = true) (hi : inb j (eLn E i) = true) (hdg : decode cc pc = .ok (.iastore, 1)) (kk : ∀ (E1 : Ee) (H1 : Heap) (locs1 : List Loc), E1 = eSI E i j.toNatClampNeg x → (∀ i a, Pt ad E i a → Pt ad E1 i a) → eN E1 = eN E → eL E1 = eL E → WdE D cy A s ad E1 H1 locs1 → W p l e Rr s m args below meth c H1 locs1 cells slots Q (F0 m (pc + 1) ls rest)) : W p l e Rr s m args below meth c H locs cells slots Q (F0 m pc ls (.int x :: .int j :: .ref a :: rest)) := by
  obtain ⟨T, M, R, hRp, hP, hD, hS⟩ := hw
  exact aw_9 C hP hD hS (hRp.kd hu hk) (by rw [hRp.ln hu]; exact hi) hdg (fun M1 H1 locs1 e1 hP1 hD1 hS1 => kk _ H1 locs1 rfl (fun _ _ h => h) rfl rfl ⟨T, M1, R, by rw [e1]; exact hRp.si hu _ x, hP1, hD1, hS1⟩)
theorem nw_11 {p : Program} {l : Launch} {e : Env} {Rr : Room} {s : State} {m : MethodId} {args : Array Value} {below : List Frame} {meth : Method} {c : Code} {H : Heap} {locs : List Loc} {cells slots : Nat} {Q : State → Prop} {cc : ByteArray} {pc : Nat} {ls : Array Slot} {rest : List Value} {D : va_G} {cy : Cy} {ad : Nat → Nat} {E : Ee} {A : Nat → Prop} {own : String} {n : Nat} {ret : Option FieldType} {i a b y : Nat} {j : Int32} (C : Cx own cc n ret p s m args meth c D cy A) (hw : WdE D cy A s ad E H locs) (hu : Pt ad E i a) (hv : Pt ad E b y) (hk : eK E i 11 = true) (hi : inb j (eLn E i) = true) (hk2 : eK E b 0 = true) (hdg : decode cc pc = .ok (.aastore, 1)) (kk : ∀ (E1 : Ee) (H1 : Heap) (locs1 : List Loc), E1 = eSP E i j.toNatClampNeg b → (∀ i a, Pt ad E i a → Pt ad E1 i a) → eN E1 = eN E → eL E1 = eL E → WdE D cy A s ad E1 H1 locs1 → W p l e Rr s m args below meth c H1 locs1 cells slots Q (F0 m (pc + 1) ls rest)) : W p l e Rr s m args below meth c H locs cells slots Q (F0 m pc ls (.ref y :: .int j :: .ref a :: rest)) := by
  obtain ⟨T, M, R, hRp, hP, hD, hS⟩ := hw
  exact aw_11 C hP hD hS (hRp.kd hu hk) (by rw [hRp.ln hu]; exact hi) (hRp.kd hv hk2) hdg (fun R1 H1 locs1 e1 hP1 hD1 hS1 => kk _ H1 locs1 rfl (fun _ _ h => h) rfl rfl ⟨T, M, R1, by rw [e1]; exact hRp.sp hu hv _, hP1, hD1, hS1⟩)
theorem nw_12 {p : Program} {l : Launch} {e : Env} {Rr : Room} {s : State} {m : MethodId} {args : Array Value} {below : List Frame} {meth : Method} {c : Code} {H : Heap} {locs : List Loc} {cells slots : Nat} {Q : State → Prop} {cc : ByteArray} {pc : Nat} {ls : Array Slot} {rest : List Value} {D : va_G} {cy : Cy} {ad : Nat → Nat} {E : Ee} {A : Nat → Prop} {own : String} {n : Nat} {ret : Option FieldType} {i a b y : Nat} {j : Int32} (C : Cx own cc n ret p s m args meth c D cy A) (hw : WdE D cy A s ad E H locs) (hu : Pt ad E i a) (hv : Pt ad E b y) (hk : eK E i 12 = true) (hi : inb j (eLn E i) = true) (hk2 : eK E b 3 = true) (hdg : decode cc pc = .ok (.aastore, 1)) (kk : ∀ (E1 : Ee) (H1 : Heap) (locs1 : List Loc), E1 = eSP E i j.toNatClampNeg b → (∀ i a, Pt ad E i a → Pt ad E1 i a) → eN E1 = eN E → eL E1 = eL E → WdE D cy A s ad E1 H1 locs1 → W p l e Rr s m args below meth c H1 locs1 cells slots Q (F0 m (pc + 1) ls rest)) : W p l e Rr s m args below meth c H locs cells slots Q (F0 m pc ls (.ref y :: .int j :: .ref a :: rest)) := by
  obtain ⟨T, M, R, hRp, hP, hD, hS⟩ := hw
  exact aw_12 C hP hD hS (hRp.kd hu hk) (by rw [hRp.ln hu]; exact hi) (hRp.kd hv hk2) hdg (fun R1 H1 locs1 e1 hP1 hD1 hS1 => kk _ H1 locs1 rfl (fun _ _ h => h) rfl rfl ⟨T, M, R1, by rw [e1]; exact hRp.sp hu hv _, hP1, hD1, hS1⟩)
theorem nw_13 {p : Program} {l : Launch} {e : Env} {Rr : Room} {s : State} {m : MethodId} {args : Array Value} {below : List Frame} {meth : Method} {c : Code} {H : Heap} {locs : List Loc} {cells slots : Nat} {Q : State → Prop} {cc : ByteArray} {pc : Nat} {ls : Array Slot} {rest : List Value} {D : va_G} {cy : Cy} {ad : Nat → Nat} {E : Ee} {A : Nat → Prop} {own : String} {n : Nat} {ret : Option FieldType} {i a b y : Nat} {j : Int32} (C : Cx own cc n ret p s m args meth c D cy A) (hw : WdE D cy A s ad E H locs) (hu : Pt ad E i a) (hv : Pt ad E b y) (hk : eK E i 13 = true) (hi : inb j (eLn E i) = true) (hk2 : eK E b 5 = true) (hdg : decode cc pc = .ok (.aastore, 1)) (kk : ∀ (E1 : Ee) (H1 : Heap) (locs1 : List Loc), E1 = eSP E i j.toNatClampNeg b → (∀ i a, Pt ad E i a → Pt ad E1 i a) → eN E1 = eN E → eL E1 = eL E → WdE D cy A s ad E1 H1 locs1 → W p l e Rr s m args below meth c H1 locs1 cells slots Q (F0 m (pc + 1) ls rest)) : W p l e Rr s m args below meth c H locs cells slots Q (F0 m pc ls (.ref y :: .int j :: .ref a :: rest)) := by
  obtain ⟨T, M, R, hRp, hP, hD, hS⟩ := hw
  exact aw_13 C hP hD hS (hRp.kd hu hk) (by rw [hRp.ln hu]; exact hi) (hRp.kd hv hk2) hdg (fun R1 H1 locs1 e1 hP1 hD1 hS1 => kk _ H1 locs1 rfl (fun _ _ h => h) rfl rfl ⟨T, M, R1, by rw [e1]; exact hRp.sp hu hv _, hP1, hD1, hS1⟩)
theorem nl_9 {p : Program} {l : Launch} {e : Env} {Rr : Room} {s : State} {m : MethodId} {args : Array Value} {below : List Frame} {meth : Method} {c : Code} {H : Heap} {locs : List Loc} {cells slots : Nat} {Q : State → Prop} {cc : ByteArray} {pc : Nat} {ls : Array Slot} {rest : List Value} {D : va_G} {cy : Cy} {ad : Nat → Nat} {E : Ee} {A : Nat → Prop} {own : String} {n : Nat} {ret : Option FieldType} {i a : Nat} (C : Cx own cc n ret p s m args meth c D cy A) (hw : WdE D cy A s ad E H locs) (hu : Pt ad E i a) (hk : eK E i 9 = true) (hdg : decode cc pc = .ok (.arraylength, 1)) (kk : W p l e Rr s m args below meth c H locs cells slots Q (F0 m (pc + 1) ls (.int (Int32.ofNat (eLn E i)) :: rest))) : W p l e Rr s m args below meth c H locs cells slots Q (F0 m pc ls (.ref a :: rest)) := by
  obtain ⟨T, M, R, hRp, hP, hD, hS⟩ := hw
  refine al_9 C hP (hRp.kd hu hk) hdg ?_
  rw [hRp.ln hu]
  exact kk
theorem nl_11 {p : Program} {l : Launch} {e : Env} {Rr : Room} {s : State} {m : MethodId} {args : Array Value} {below : List Frame} {meth : Method} {c : Code} {H : Heap} {locs : List Loc} {cells slots : Nat} {Q : State → Prop} {cc : ByteArray} {pc : Nat} {ls : Array Slot} {rest : List Value} {D : va_G} {cy : Cy} {ad : Nat → Nat} {E : Ee} {A : Nat → Prop} {own : String} {n : Nat} {ret : Option FieldType} {i a : Nat} (C : Cx own cc n ret p s m args meth c D cy A) (hw : WdE D cy A s ad E H locs) (hu : Pt ad E i a) (hk : eK E i 11 = true) (hdg : decode cc pc = .ok (.arraylength, 1)) (kk : W p l e Rr s m args below meth c H locs cells slots Q (F0 m (pc + 1) ls (.int (Int32.ofNat (eLn E i)) :: rest))) : W p l e Rr s m args below meth c H locs cells slots Q (F0 m pc ls (.ref a :: rest)) := by
  obtain ⟨T, M, R, hRp, hP, hD, hS⟩ := hw
  refine al_11 C hP (hRp.kd hu hk) hdg ?_
  rw [hRp.ln hu]
  exact kk
theorem nl_12 {p : Program} {l : Launch} {e : Env} {Rr : Room} {s : State} {m : MethodId} {args : Array Value} {below : List Frame} {meth : Method} {c : Code} {H : Heap} {locs : List Loc} {cells slots : Nat} {Q : State → Prop} {cc : ByteArray} {pc : Nat} {ls : Array Slot} {rest : List Value} {D : va_G} {cy : Cy} {ad : Nat → Nat} {E : Ee} {A : Nat → Prop} {own : String} {n : Nat} {ret : Option FieldType} {i a : Nat} (C : Cx own cc n ret p s m args meth c D cy A) (hw : WdE D cy A s ad E H locs) (hu : Pt ad E i a) (hk : eK E i 12 = true) (hdg : decode cc pc = .ok (.arraylength, 1)) (kk : W p l e Rr s m args below meth c H locs cells slots Q (F0 m (pc + 1) ls (.int (Int32.ofNat (eLn E i)) :: rest))) : W p l e Rr s m args below meth c H locs cells slots Q (F0 m pc ls (.ref a :: rest)) := by
  obtain ⟨T, M, R, hRp, hP, hD, hS⟩ := hw
  refine al_12 C hP (hRp.kd hu hk) hdg ?_
  rw [hRp.ln hu]
  exact kk
theorem nl_13 {p : Program} {l : Launch} {e : Env} {Rr : Room} {s : State} {m : MethodId} {args : Array Value} {below : List Frame} {meth : Method} {c : Code} {H : Heap} {locs : List Loc} {cells slots : Nat} {Q : State → Prop} {cc : ByteArray} {pc : Nat} {ls : Array Slot} {rest : List Value} {D : va_G} {cy : Cy} {ad : Nat → Nat} {E : Ee} {A : Nat → Prop} {own : String} {n : Nat} {ret : Option FieldType} {i a : Nat} (C : Cx own cc n ret p s m args meth c D cy A) (hw : WdE D cy A s ad E H locs) (hu : Pt ad E i a) (hk : eK E i 13 = true) (hdg : decode cc pc = .ok (.arraylength, 1)) (kk : W p l e Rr s m args below meth c H locs cells slots Q (F0 m (pc + 1) ls (.int (Int32.ofNat (eLn E i)) :: rest))) : W p l e Rr s m args below meth c H locs cells slots Q (F0 m pc ls (.ref a :: rest)) := by
  obtain ⟨T, M, R, hRp, hP, hD, hS⟩ := hw
  refine al_13 C hP (hRp.kd hu hk) hdg ?_
  rw [hRp.ln hu]
  exact kk
theorem wl_fresh {A : Nat → Prop} {cy : Cy} {T : Ty} {M : Mm} {R : Rm} {q : Nat} {x : va_E} (hD : va_D A (WL cy T M R ++ [(q, x)])) : q ∉ T.1 := by
  intro hm
  obtain ⟨k, hk⟩ := va_pl_get (X := []) (f := ce cy T M R) hm
  have hk' : (WL cy T M R)[k]? = some (q, ce cy T M R q) := hk
  have hlt : k < (WL cy T M R).length := (List.getElem?_eq_some_iff.mp hk').1
  have h1 : (WL cy T M R ++ [(q, x)])[k]? = some (q, ce cy T M R q) := by rw [List.getElem?_append_left hlt]; exact hk'
  have h2 : (WL cy T M R ++ [(q, x)])[(WL cy T M R).length]? = some (q, x) := by simp
  have := hD.1 _ _ _ _ h1 h2 rfl
  omega
theorem wl_push {cy : Cy} {T : Ty} {M : Mm} {R : Rm} {q k n : Nat} {row : Nat → Int32} {x : va_E} (hq : q ∉ T.1) (hx : ce cy (newT T q k n) (newM M q row) (newR R q) q = x) : WL cy T M R ++ [(q, x)] = WL cy (newT T q k n) (newM M q row) (newR R q) := by
  have h1 := va_pl_push (L := T.1) (f := ce cy T M R) (a := q) (e := x) hq
  refine h1.trans (va_pl_congr (fun b => ?_))
  by_cases hb : b = q
  · rw [hb, va_up_s, hx]
  · rw [va_up_n _ _ hb]
    unfold ce
    simp only [newT, newM, newR, va_up, if_neg hb]
theorem nn_0 {p : Program} {l : Launch} {e : Env} {Rr : Room} {s : State} {m : MethodId} {args : Array Value} {below : List Frame} {meth : Method} {c : Code} {H : Heap} {locs : List Loc} {cells slots : Nat} {Q : State → Prop} {cc : ByteArray} {pc : Nat} {ls : Array Slot} {rest : List Value} {D : va_G} {cy : Cy} {ad : Nat → Nat} {E : Ee} {A : Nat → Prop} {own : String} {n : Nat} {ret : Option FieldType} {index : Nat} (C : Cx own cc n ret p s m args meth c D cy A) (hw : WdE D cy A s ad E H locs) (w1 : Cond.classLink own index RX0 ∈ GW) (hcells : cells + 1 ≤ Rr.cells) (hslots : slots + 7 ≤ Rr.slots) (hdg : decode cc pc = .ok (.new index, 3)) (kk : ∀ (q : Nat) (ad1 : Nat → Nat) (E1 : Ee) (H1 : Heap), E1 = eNew E 0 0 7 (fun _ => 0) → (∀ i a, Pt ad E i a → Pt ad1 E1 i a) → Pt ad1 E1 (eN E) q → eN E1 = eN E + 1 → eL E1 = eL E + 7 → WdE D cy A s ad1 E1 H1 locs → W p l e Rr s m args below meth c H1 locs (cells + 1) (slots + 7) Q (F0 m (pc + 3) ls (.ref q :: rest))) : W p l e Rr s m args below meth c H locs cells slots Q (F0 m pc ls rest) := by
  obtain ⟨hx, hb, -, hml, hown, hts, hK, hA, -, hSt⟩ := C
  obtain ⟨T, M, R, hRp, hP, hD, hS⟩ := hw
  refine va_new (ci := 0) (fs := [.null, .int 0, .int 0, .int 0, .int 0, .int 0, .int 0]) (C := RX0) (T := TX0) (N := 7) hx hb hts inlX0 tyX0 tyX0_ok hown (hts _ w1) (hts _ wl_49) (hts _ wl_50) hK hP hD hS hA rfl (fun j hj => by rcases (show j = 0 ∨ j = 1 ∨ j = 2 ∨ j = 3 ∨ j = 4 ∨ j = 5 ∨ j = 6 by omega) with rfl | rfl | rfl | rfl | rfl | rfl | rfl <;> rfl) hcells hslots hdg (fun q H1 hP1 hD1 hS1 => ?_)
  have hq := wl_fresh hD1
  have he : ce cy (newT T q 0 0) (newM M q (fun _ => 0)) (newR R q) q = .inr (0, [.null, .int 0, .int 0, .int 0, .int 0, .int 0, .int 0]) := by
    rw [ce_0 (show (newT T q 0 0).2.1 q = 0 from va_up_s _ _ _)]
    simp [newM, newR, va_up, va_rf]
  rw [wl_push hq he] at hP1 hD1
  obtain ⟨r1, r2, r3⟩ := hRp.new hq 0 0 7 (fun _ => 0)
  exact kk q _ _ H1 rfl r2 r3 rfl rfl ⟨_, _, _, r1, hP1, hD1, hS1⟩
theorem nn_1 {p : Program} {l : Launch} {e : Env} {Rr : Room} {s : State} {m : MethodId} {args : Array Value} {below : List Frame} {meth : Method} {c : Code} {H : Heap} {locs : List Loc} {cells slots : Nat} {Q : State → Prop} {cc : ByteArray} {pc : Nat} {ls : Array Slot} {rest : List Value} {D : va_G} {cy : Cy} {ad : Nat → Nat} {E : Ee} {A : Nat → Prop} {own : String} {n : Nat} {ret : Option FieldType} {index : Nat} (C : Cx own cc n ret p s m args meth c D cy A) (hw : WdE D cy A s ad E H locs) (w1 : Cond.classLink own index RX1 ∈ GW) (hcells : cells + 1 ≤ Rr.cells) (hslots : slots + 4 ≤ Rr.slots) (hdg : decode cc pc = .ok (.new index, 3)) (kk : ∀ (q : Nat) (ad1 : Nat → Nat) (E1 : Ee) (H1 : Heap), E1 = eNew E 1 0 4 (fun _ => 0) → (∀ i a, Pt ad E i a → Pt ad1 E1 i a) → Pt ad1 E1 (eN E) q → eN E1 = eN E + 1 → eL E1 = eL E + 4 → WdE D cy A s ad1 E1 H1 locs → W p l e Rr s m args below meth c H1 locs (cells + 1) (slots + 4) Q (F0 m (pc + 3) ls (.ref q :: rest))) : W p l e Rr s m args below meth c H locs cells slots Q (F0 m pc ls rest) := by
  obtain ⟨hx, hb, -, hml, hown, hts, hK, hA, -, hSt⟩ := C
  obtain ⟨T, M, R, hRp, hP, hD, hS⟩ := hw
  refine va_new (ci := 1) (fs := [.int 0, .int 0, .int 0, .int 0]) (C := RX1) (T := TX1) (N := 4) hx hb hts inlX1 tyX1 tyX1_ok hown (hts _ w1) (hts _ wl_39) (hts _ wl_40) hK hP hD hS hA rfl (fun j hj => by rcases (show j = 0 ∨ j = 1 ∨ j = 2 ∨ j = 3 by omega) with rfl | rfl | rfl | rfl <;> rfl) hcells hslots hdg (fun q H1 hP1 hD1 hS1 => ?_)
  have hq := wl_fresh hD1
  have he : ce cy (newT T q 1 0) (newM M q (fun _ => 0)) (newR R q) q = .inr (1, [.int 0, .int 0, .int 0, .int 0]) := by
    rw [ce_1 (show (newT T q 1 0).2.1 q = 1 from va_up_s _ _ _)]
    simp [newM, newR, va_up, va_rf]
  rw [wl_push hq he] at hP1 hD1
  obtain ⟨r1, r2, r3⟩ := hRp.new hq 1 0 4 (fun _ => 0)
  exact kk q _ _ H1 rfl r2 r3 rfl rfl ⟨_, _, _, r1, hP1, hD1, hS1⟩
theorem nn_2 {p : Program} {l : Launch} {e : Env} {Rr : Room} {s : State} {m : MethodId} {args : Array Value} {below : List Frame} {meth : Method} {c : Code} {H : Heap} {locs : List Loc} {cells slots : Nat} {Q : State → Prop} {cc : ByteArray} {pc : Nat} {ls : Array Slot} {rest : List Value} {D : va_G} {cy : Cy} {ad : Nat → Nat} {E : Ee} {A : Nat → Prop} {own : String} {n : Nat} {ret : Option FieldType} {index : Nat} (C : Cx own cc n ret p s m args meth c D cy A) (hw : WdE D cy A s ad E H locs) (w1 : Cond.classLink own index RX2 ∈ GW) (hcells : cells + 1 ≤ Rr.cells) (hslots : slots + 4 ≤ Rr.slots) (hdg : decode cc pc = .ok (.new index, 3)) (kk : ∀ (q : Nat) (ad1 : Nat → Nat) (E1 : Ee) (H1 : Heap), E1 = eNew E 2 0 4 (fun _ => 0) → (∀ i a, Pt ad E i a → Pt ad1 E1 i a) → Pt ad1 E1 (eN E) q → eN E1 = eN E + 1 → eL E1 = eL E + 4 → WdE D cy A s ad1 E1 H1 locs → W p l e Rr s m args below meth c H1 locs (cells + 1) (slots + 4) Q (F0 m (pc + 3) ls (.ref q :: rest))) : W p l e Rr s m args below meth c H locs cells slots Q (F0 m pc ls rest) := by
  obtain ⟨hx, hb, -, hml, hown, hts, hK, hA, -, hSt⟩ := C
  obtain ⟨T, M, R, hRp, hP, hD, hS⟩ := hw
  refine va_new (ci := 2) (fs := [.null, .int 0, .int 0, .int 0]) (C := RX2) (T := TX2) (N := 4) hx hb hts inlX2 tyX2 tyX2_ok hown (hts _ w1) (hts _ wl_64) (hts _ wl_65) hK hP hD hS hA rfl (fun j hj => by rcases (show j = 0 ∨ j = 1 ∨ j = 2 ∨ j = 3 by omega) with rfl | rfl | rfl | rfl <;> rfl) hcells hslots hdg (fun q H1 hP1 hD1 hS1 => ?_)
  have hq := wl_fresh hD1
  have he : ce cy (newT T q 2 0) (newM M q (fun _ => 0)) (newR R q) q = .inr (2, [.null, .int 0, .int 0, .int 0]) := by
    rw [ce_2 (show (newT T q 2 0).2.1 q = 2 from va_up_s _ _ _)]
    simp [newM, newR, va_up, va_rf]
  rw [wl_push hq he] at hP1 hD1
  obtain ⟨r1, r2, r3⟩ := hRp.new hq 2 0 4 (fun _ => 0)
  exact kk q _ _ H1 rfl r2 r3 rfl rfl ⟨_, _, _, r1, hP1, hD1, hS1⟩
theorem nn_3 {p : Program} {l : Launch} {e : Env} {Rr : Room} {s : State} {m : MethodId} {args : Array Value} {below : List Frame} {meth : Method} {c : Code} {H : Heap} {locs : List Loc} {cells slots : Nat} {Q : State → Prop} {cc : ByteArray} {pc : Nat} {ls : Array Slot} {rest : List Value} {D : va_G} {cy : Cy} {ad : Nat → Nat} {E : Ee} {A : Nat → Prop} {own : String} {n : Nat} {ret : Option FieldType} {index : Nat} (C : Cx own cc n ret p s m args meth c D cy A) (hw : WdE D cy A s ad E H locs) (w1 : Cond.classLink own index RX3 ∈ GW) (hcells : cells + 1 ≤ Rr.cells) (hslots : slots + 6 ≤ Rr.slots) (hdg : decode cc pc = .ok (.new index, 3)) (kk : ∀ (q : Nat) (ad1 : Nat → Nat) (E1 : Ee) (H1 : Heap), E1 = eNew E 3 0 6 (fun _ => 0) → (∀ i a, Pt ad E i a → Pt ad1 E1 i a) → Pt ad1 E1 (eN E) q → eN E1 = eN E + 1 → eL E1 = eL E + 6 → WdE D cy A s ad1 E1 H1 locs → W p l e Rr s m args below meth c H1 locs (cells + 1) (slots + 6) Q (F0 m (pc + 3) ls (.ref q :: rest))) : W p l e Rr s m args below meth c H locs cells slots Q (F0 m pc ls rest) := by
  obtain ⟨hx, hb, -, hml, hown, hts, hK, hA, -, hSt⟩ := C
  obtain ⟨T, M, R, hRp, hP, hD, hS⟩ := hw
  refine va_new (ci := 3) (fs := [.int 0, .int 0, .int 0, .int 0, .int 0, .int 0]) (C := RX3) (T := TX3) (N := 6) hx hb hts inlX3 tyX3 tyX3_ok hown (hts _ w1) (hts _ wl_51) (hts _ wl_52) hK hP hD hS hA rfl (fun j hj => by rcases (show j = 0 ∨ j = 1 ∨ j = 2 ∨ j = 3 ∨ j = 4 ∨ j = 5 by omega) with rfl | rfl | rfl | rfl | rfl | rfl <;> rfl) hcells hslots hdg (fun q H1 hP1 hD1 hS1 => ?_)
  have hq := wl_fresh hD1
  have he : ce cy (newT T q 3 0) (newM M q (fun _ => 0)) (newR R q) q = .inr (3, [.int 0, .int 0, .int 0, .int 0, .int 0, .int 0]) := by
    rw [ce_3 (show (newT T q 3 0).2.1 q = 3 from va_up_s _ _ _)]
    simp [newM, newR, va_up, va_rf]
  rw [wl_push hq he] at hP1 hD1
  obtain ⟨r1, r2, r3⟩ := hRp.new hq 3 0 6 (fun _ => 0)
  exact kk q _ _ H1 rfl r2 r3 rfl rfl ⟨_, _, _, r1, hP1, hD1, hS1⟩
theorem nn_4 {p : Program} {l : Launch} {e : Env} {Rr : Room} {s : State} {m : MethodId} {args : Array Value} {below : List Frame} {meth : Method} {c : Code} {H : Heap} {locs : List Loc} {cells slots : Nat} {Q : State → Prop} {cc : ByteArray} {pc : Nat} {ls : Array Slot} {rest : List Value} {D : va_G} {cy : Cy} {ad : Nat → Nat} {E : Ee} {A : Nat → Prop} {own : String} {n : Nat} {ret : Option FieldType} {index : Nat} (C : Cx own cc n ret p s m args meth c D cy A) (hw : WdE D cy A s ad E H locs) (w1 : Cond.classLink own index RX4 ∈ GW) (hcells : cells + 1 ≤ Rr.cells) (hslots : slots + 2 ≤ Rr.slots) (hdg : decode cc pc = .ok (.new index, 3)) (kk : ∀ (q : Nat) (ad1 : Nat → Nat) (E1 : Ee) (H1 : Heap), E1 = eNew E 4 0 2 (fun _ => 0) → (∀ i a, Pt ad E i a → Pt ad1 E1 i a) → Pt ad1 E1 (eN E) q → eN E1 = eN E + 1 → eL E1 = eL E + 2 → WdE D cy A s ad1 E1 H1 locs → W p l e Rr s m args below meth c H1 locs (cells + 1) (slots + 2) Q (F0 m (pc + 3) ls (.ref q :: rest))) : W p l e Rr s m args below meth c H locs cells slots Q (F0 m pc ls rest) := by
  obtain ⟨hx, hb, -, hml, hown, hts, hK, hA, -, hSt⟩ := C
  obtain ⟨T, M, R, hRp, hP, hD, hS⟩ := hw
  refine va_new (ci := 4) (fs := [.null, .int 0]) (C := RX4) (T := TX4) (N := 2) hx hb hts inlX4 tyX4 tyX4_ok hown (hts _ w1) (hts _ wl_18) (hts _ wl_19) hK hP hD hS hA rfl (fun j hj => by rcases (show j = 0 ∨ j = 1 by omega) with rfl | rfl <;> rfl) hcells hslots hdg (fun q H1 hP1 hD1 hS1 => ?_)
  have hq := wl_fresh hD1
  have he : ce cy (newT T q 4 0) (newM M q (fun _ => 0)) (newR R q) q = .inr (4, [.null, .int 0]) := by
    rw [ce_4 (show (newT T q 4 0).2.1 q = 4 from va_up_s _ _ _)]
    simp [newM, newR, va_up, va_rf]
  rw [wl_push hq he] at hP1 hD1
  obtain ⟨r1, r2, r3⟩ := hRp.new hq 4 0 2 (fun _ => 0)
  exact kk q _ _ H1 rfl r2 r3 rfl rfl ⟨_, _, _, r1, hP1, hD1, hS1⟩
theorem nn_5 {p : Program} {l : Launch} {e : Env} {Rr : Room} {s : State} {m : MethodId} {args : Array Value} {below : List Frame} {meth : Method} {c : Code} {H : Heap} {locs : List Loc} {cells slots : Nat} {Q : State → Prop} {cc : ByteArray} {pc : Nat} {ls : Array Slot} {rest : List Value} {D : va_G} {cy : Cy} {ad : Nat → Nat} {E : Ee} {A : Nat → Prop} {own : String} {n : Nat} {ret : Option FieldType} {index : Nat} (C : Cx own cc n ret p s m args meth c D cy A) (hw : WdE D cy A s ad E H locs) (w1 : Cond.classLink own index RX5 ∈ GW) (hcells : cells + 1 ≤ Rr.cells) (hslots : slots + 11 ≤ Rr.slots) (hdg : decode cc pc = .ok (.new index, 3)) (kk : ∀ (q : Nat) (ad1 : Nat → Nat) (E1 : Ee) (H1 : Heap), E1 = eNew E 5 0 11 (fun _ => 0) → (∀ i a, Pt ad E i a → Pt ad1 E1 i a) → Pt ad1 E1 (eN E) q → eN E1 = eN E + 1 → eL E1 = eL E + 11 → WdE D cy A s ad1 E1 H1 locs → W p l e Rr s m args below meth c H1 locs (cells + 1) (slots + 11) Q (F0 m (pc + 3) ls (.ref q :: rest))) : W p l e Rr s m args below meth c H locs cells slots Q (F0 m pc ls rest) := by
  obtain ⟨hx, hb, -, hml, hown, hts, hK, hA, -, hSt⟩ := C
  obtain ⟨T, M, R, hRp, hP, hD, hS⟩ := hw
  refine va_new (ci := 5) (fs := [.null, .null, .null, .null, .int 0, .int 0, .int 0, .long 0, .long 0, .long 0, .long 0]) (C := RX5) (T := TX5) (N := 11) hx hb hts inlX5 tyX5 tyX5_ok hown (hts _ w1) (hts _ wl_13) (hts _ wl_14) hK hP hD hS hA rfl (fun j hj => by rcases (show j = 0 ∨ j = 1 ∨ j = 2 ∨ j = 3 ∨ j = 4 ∨ j = 5 ∨ j = 6 ∨ j = 7 ∨ j = 8 ∨ j = 9 ∨ j = 10 by omega) with rfl | rfl | rfl | rfl | rfl | rfl | rfl | rfl | rfl | rfl | rfl <;> rfl) hcells hslots hdg (fun q H1 hP1 hD1 hS1 => ?_)
  have hq := wl_fresh hD1
  have he : ce cy (newT T q 5 0) (newM M q (fun _ => 0)) (newR R q) q = .inr (5, [.null, .null, .null, .null, .int 0, .int 0, .int 0, .long 0, .long 0, .long 0, .long 0]) := by
    rw [ce_5 (show (newT T q 5 0).2.1 q = 5 from va_up_s _ _ _)]
    simp [newM, newR, va_up, va_rf]
  rw [wl_push hq he] at hP1 hD1
  obtain ⟨r1, r2, r3⟩ := hRp.new hq 5 0 11 (fun _ => 0)
  exact kk q _ _ H1 rfl r2 r3 rfl rfl ⟨_, _, _, r1, hP1, hD1, hS1⟩
theorem nn_6 {p : Program} {l : Launch} {e : Env} {Rr : Room} {s : State} {m : MethodId} {args : Array Value} {below : List Frame} {meth : Method} {c : Code} {H : Heap} {locs : List Loc} {cells slots : Nat} {Q : State → Prop} {cc : ByteArray} {pc : Nat} {ls : Array Slot} {rest : List Value} {D : va_G} {cy : Cy} {ad : Nat → Nat} {E : Ee} {A : Nat → Prop} {own : String} {n : Nat} {ret : Option FieldType} {index : Nat} (C : Cx own cc n ret p s m args meth c D cy A) (hw : WdE D cy A s ad E H locs) (w1 : Cond.classLink own index RX6 ∈ GW) (hcells : cells + 1 ≤ Rr.cells) (hslots : slots + 5 ≤ Rr.slots) (hdg : decode cc pc = .ok (.new index, 3)) (kk : ∀ (q : Nat) (ad1 : Nat → Nat) (E1 : Ee) (H1 : Heap), E1 = eNew E 6 0 5 (fun _ => 0) → (∀ i a, Pt ad E i a → Pt ad1 E1 i a) → Pt ad1 E1 (eN E) q → eN E1 = eN E + 1 → eL E1 = eL E + 5 → WdE D cy A s ad1 E1 H1 locs → W p l e Rr s m args below meth c H1 locs (cells + 1) (slots + 5) Q (F0 m (pc + 3) ls (.ref q :: rest))) : W p l e Rr s m args below meth c H locs cells slots Q (F0 m pc ls rest) := by
  obtain ⟨hx, hb, -, hml, hown, hts, hK, hA, -, hSt⟩ := C
  obtain ⟨T, M, R, hRp, hP, hD, hS⟩ := hw
  refine va_new (ci := 6) (fs := [.null, .null, .null, .null, .int 0]) (C := RX6) (T := TX6) (N := 5) hx hb hts inlX6 tyX6 tyX6_ok hown (hts _ w1) (hts _ wl_1) (hts _ wl_2) hK hP hD hS hA rfl (fun j hj => by rcases (show j = 0 ∨ j = 1 ∨ j = 2 ∨ j = 3 ∨ j = 4 by omega) with rfl | rfl | rfl | rfl | rfl <;> rfl) hcells hslots hdg (fun q H1 hP1 hD1 hS1 => ?_)
  have hq := wl_fresh hD1
  have he : ce cy (newT T q 6 0) (newM M q (fun _ => 0)) (newR R q) q = .inr (6, [.null, .null, .null, .null, .int 0]) := by
    rw [ce_6 (show (newT T q 6 0).2.1 q = 6 from va_up_s _ _ _)]
    simp [newM, newR, va_up, va_rf]
  rw [wl_push hq he] at hP1 hD1
  obtain ⟨r1, r2, r3⟩ := hRp.new hq 6 0 5 (fun _ => 0)
  exact kk q _ _ H1 rfl r2 r3 rfl rfl ⟨_, _, _, r1, hP1, hD1, hS1⟩
theorem nr_8 {p : Program} {l : Launch} {e : Env} {Rr : Room} {s : State} {m : MethodId} {args : Array Value} {below : List Frame} {meth : Method} {c : Code} {H : Heap} {locs : List Loc} {cells slots : Nat} {Q : State → Prop} {cc : ByteArray} {pc : Nat} {ls : Array Slot} {rest : List Value} {D : va_G} {cy : Cy} {ad : Nat → Nat} {E : Ee} {A : Nat → Prop} {own : String} {n : Nat} {ret : Option FieldType} {len : Int32} {N : Nat} (C : Cx own cc n ret p s m args meth c D cy A) (hw : WdE D cy A s ad E H locs) (hn : ¬ len < 0) (hN : len.toNatClampNeg = N) (hbytes : N * componentBytes (.char : FieldType) ≤ 536870912) (hcells : cells + 1 ≤ Rr.cells) (hslots : slots + N ≤ Rr.slots) (hdg : decode cc pc = .ok (.newarray .char, 2)) (kk : ∀ (q : Nat) (ad1 : Nat → Nat) (E1 : Ee) (H1 : Heap), E1 = eNew E 8 N N (fun _ => 0) → (∀ i a, Pt ad E i a → Pt ad1 E1 i a) → Pt ad1 E1 (eN E) q → eN E1 = eN E + 1 → eL E1 = eL E + N → WdE D cy A s ad1 E1 H1 locs → W p l e Rr s m args below meth c H1 locs (cells + 1) (slots + N) Q (F0 m (pc + 2) ls (.ref q :: rest))) : W p l e Rr s m args below meth c H locs cells slots Q (F0 m pc ls (.int len :: rest)) := by
  obtain ⟨hx, hb, -, hml, hown, hts, hK, hA, -, hSt⟩ := C
  obtain ⟨T, M, R, hRp, hP, hD, hS⟩ := hw
  refine va_newa (atype := .char) hx hb (hts _ wl_93) rfl hK hP hD hS hA (a0 := (N, .inl (fun _ => 0))) (fun cA => rfl) hn hN hbytes hcells hslots hdg (fun q cA H1 hK1 hP1 hD1 hS1 => ?_)
  have e1 : cA = cy.1 := by
    have a1 := (hK.2 0 _ rfl).2
    have a2 := (hK1.2 5 _ rfl).2
    exact Option.some.inj (a2.symm.trans a1)
  subst e1
  have hq := wl_fresh hD1
  have he : ce cy (newT T q 8 N) (newM M q (fun _ => 0)) (newR R q) q = .inl (cy.1, N, .inl (fun _ => 0)) := by
    rw [ce_8 (show (newT T q 8 N).2.1 q = 8 from va_up_s _ _ _)]
    simp [newM, newT, va_up]
  rw [wl_push hq he] at hP1 hD1
  obtain ⟨r1, r2, r3⟩ := hRp.new hq 8 N N (fun _ => 0)
  exact kk q _ _ H1 rfl r2 r3 rfl rfl ⟨_, _, _, r1, hP1, hD1, hS1⟩
theorem nr_9 {p : Program} {l : Launch} {e : Env} {Rr : Room} {s : State} {m : MethodId} {args : Array Value} {below : List Frame} {meth : Method} {c : Code} {H : Heap} {locs : List Loc} {cells slots : Nat} {Q : State → Prop} {cc : ByteArray} {pc : Nat} {ls : Array Slot} {rest : List Value} {D : va_G} {cy : Cy} {ad : Nat → Nat} {E : Ee} {A : Nat → Prop} {own : String} {n : Nat} {ret : Option FieldType} {len : Int32} {N : Nat} (C : Cx own cc n ret p s m args meth c D cy A) (hw : WdE D cy A s ad E H locs) (hn : ¬ len < 0) (hN : len.toNatClampNeg = N) (hbytes : N * componentBytes (.int : FieldType) ≤ 536870912) (hcells : cells + 1 ≤ Rr.cells) (hslots : slots + N ≤ Rr.slots) (hdg : decode cc pc = .ok (.newarray .int, 2)) (kk : ∀ (q : Nat) (ad1 : Nat → Nat) (E1 : Ee) (H1 : Heap), E1 = eNew E 9 N N (fun _ => 0) → (∀ i a, Pt ad E i a → Pt ad1 E1 i a) → Pt ad1 E1 (eN E) q → eN E1 = eN E + 1 → eL E1 = eL E + N → WdE D cy A s ad1 E1 H1 locs → W p l e Rr s m args below meth c H1 locs (cells + 1) (slots + N) Q (F0 m (pc + 2) ls (.ref q :: rest))) : W p l e Rr s m args below meth c H locs cells slots Q (F0 m pc ls (.int len :: rest)) := by
  obtain ⟨hx, hb, -, hml, hown, hts, hK, hA, -, hSt⟩ := C
  obtain ⟨T, M, R, hRp, hP, hD, hS⟩ := hw
  refine va_newa (atype := .int) hx hb (hts _ wl_76) rfl hK hP hD hS hA (a0 := (N, .inl (fun _ => 0))) (fun cA => rfl) hn hN hbytes hcells hslots hdg (fun q cA H1 hK1 hP1 hD1 hS1 => ?_)
  have e1 : cA = cy.2.1 := by
    have a1 := (hK.2 1 _ rfl).2
    have a2 := (hK1.2 5 _ rfl).2
    exact Option.some.inj (a2.symm.trans a1)
  subst e1
  have hq := wl_fresh hD1
  have he : ce cy (newT T q 9 N) (newM M q (fun _ => 0)) (newR R q) q = .inl (cy.2.1, N, .inl (fun _ => 0)) := by
    rw [ce_9 (show (newT T q 9 N).2.1 q = 9 from va_up_s _ _ _)]
    simp [newM, newT, va_up]
  rw [wl_push hq he] at hP1 hD1
  obtain ⟨r1, r2, r3⟩ := hRp.new hq 9 N N (fun _ => 0)
  exact kk q _ _ H1 rfl r2 r3 rfl rfl ⟨_, _, _, r1, hP1, hD1, hS1⟩
theorem nq_11 {p : Program} {l : Launch} {e : Env} {Rr : Room} {s : State} {m : MethodId} {args : Array Value} {below : List Frame} {meth : Method} {c : Code} {H : Heap} {locs : List Loc} {cells slots : Nat} {Q : State → Prop} {cc : ByteArray} {pc : Nat} {ls : Array Slot} {rest : List Value} {D : va_G} {cy : Cy} {ad : Nat → Nat} {E : Ee} {A : Nat → Prop} {own : String} {n : Nat} {ret : Option FieldType} {index : Nat} {len : Int32} {N : Nat} (C : Cx own cc n ret p s m args meth c D cy A) (hw : WdE D cy A s ad E H locs) (hNW : NW s) (w1 : Cond.classLink own index RX0 ∈ GW) (hn : ¬ len < 0) (hN : len.toNatClampNeg = N) (hbytes : N * 4 ≤ 536870912) (hcells : cells + 1 ≤ Rr.cells) (hslots : slots + N ≤ Rr.slots) (hdg : decode cc pc = .ok (.anewarray index, 3)) (kk : ∀ (q : Nat) (ad1 : Nat → Nat) (E1 : Ee) (H1 : Heap), E1 = eNew E 11 N N (fun _ => 0) → (∀ i a, Pt ad E i a → Pt ad1 E1 i a) → Pt ad1 E1 (eN E) q → eN E1 = eN E + 1 → eL E1 = eL E + N → WdE D cy A s ad1 E1 H1 locs → W p l e Rr s m args below meth c H1 locs (cells + 1) (slots + N) Q (F0 m (pc + 3) ls (.ref q :: rest))) : W p l e Rr s m args below meth c H locs cells slots Q (F0 m pc ls (.int len :: rest)) := by
  obtain ⟨hx, hb, -, hml, hown, hts, hK, hA, -, hSt⟩ := C
  obtain ⟨T, M, R, hRp, hP, hD, hS⟩ := hw
  refine va_newq (C := "IceTongue$Band") hx hb hown (hts _ w1) hNW.2.2.1.1 hK hP hD hS hA hn hN hbytes hcells hslots hdg (fun q cA H1 hK1 hP1 hD1 hS1 => ?_)
  have e1 : cA = cy.2.2.2.1 := by
    obtain ⟨_, _, _, _, _, a1⟩ := (hK.2 2 _ rfl).2
    obtain ⟨_, _, _, _, _, a2⟩ := (hK1.2 5 _ rfl).2
    exact Option.some.inj (a2.symm.trans a1)
  subst e1
  have hq := wl_fresh hD1
  have he : ce cy (newT T q 11 N) (newM M q (fun _ => 0)) (newR R q) q = .inl (cy.2.2.2.1, N, .inr (.inr (.inr (.inr (fun _ => none))))) := by
    rw [ce_11 (show (newT T q 11 N).2.1 q = 11 from va_up_s _ _ _)]
    simp [newR, newT, va_up]
  rw [wl_push hq he] at hP1 hD1
  obtain ⟨r1, r2, r3⟩ := hRp.new hq 11 N N (fun _ => 0)
  exact kk q _ _ H1 rfl r2 r3 rfl rfl ⟨_, _, _, r1, hP1, hD1, hS1⟩
theorem nq_12 {p : Program} {l : Launch} {e : Env} {Rr : Room} {s : State} {m : MethodId} {args : Array Value} {below : List Frame} {meth : Method} {c : Code} {H : Heap} {locs : List Loc} {cells slots : Nat} {Q : State → Prop} {cc : ByteArray} {pc : Nat} {ls : Array Slot} {rest : List Value} {D : va_G} {cy : Cy} {ad : Nat → Nat} {E : Ee} {A : Nat → Prop} {own : String} {n : Nat} {ret : Option FieldType} {index : Nat} {len : Int32} {N : Nat} (C : Cx own cc n ret p s m args meth c D cy A) (hw : WdE D cy A s ad E H locs) (hNW : NW s) (w1 : Cond.classLink own index RX3 ∈ GW) (hn : ¬ len < 0) (hN : len.toNatClampNeg = N) (hbytes : N * 4 ≤ 536870912) (hcells : cells + 1 ≤ Rr.cells) (hslots : slots + N ≤ Rr.slots) (hdg : decode cc pc = .ok (.anewarray index, 3)) (kk : ∀ (q : Nat) (ad1 : Nat → Nat) (E1 : Ee) (H1 : Heap), E1 = eNew E 12 N N (fun _ => 0) → (∀ i a, Pt ad E i a → Pt ad1 E1 i a) → Pt ad1 E1 (eN E) q → eN E1 = eN E + 1 → eL E1 = eL E + N → WdE D cy A s ad1 E1 H1 locs → W p l e Rr s m args below meth c H1 locs (cells + 1) (slots + N) Q (F0 m (pc + 3) ls (.ref q :: rest))) : W p l e Rr s m args below meth c H locs cells slots Q (F0 m pc ls (.int len :: rest)) := by
  obtain ⟨hx, hb, -, hml, hown, hts, hK, hA, -, hSt⟩ := C
  obtain ⟨T, M, R, hRp, hP, hD, hS⟩ := hw
  refine va_newq (C := "IceTongue$Stake") hx hb hown (hts _ w1) hNW.2.2.1.2.1 hK hP hD hS hA hn hN hbytes hcells hslots hdg (fun q cA H1 hK1 hP1 hD1 hS1 => ?_)
  have e1 : cA = cy.2.2.2.2.1 := by
    obtain ⟨_, _, _, _, _, a1⟩ := (hK.2 3 _ rfl).2
    obtain ⟨_, _, _, _, _, a2⟩ := (hK1.2 5 _ rfl).2
    exact Option.some.inj (a2.symm.trans a1)
  subst e1
  have hq := wl_fresh hD1
  have he : ce cy (newT T q 12 N) (newM M q (fun _ => 0)) (newR R q) q = .inl (cy.2.2.2.2.1, N, .inr (.inr (.inr (.inr (fun _ => none))))) := by
    rw [ce_12 (show (newT T q 12 N).2.1 q = 12 from va_up_s _ _ _)]
    simp [newR, newT, va_up]
  rw [wl_push hq he] at hP1 hD1
  obtain ⟨r1, r2, r3⟩ := hRp.new hq 12 N N (fun _ => 0)
  exact kk q _ _ H1 rfl r2 r3 rfl rfl ⟨_, _, _, r1, hP1, hD1, hS1⟩
theorem nq_13 {p : Program} {l : Launch} {e : Env} {Rr : Room} {s : State} {m : MethodId} {args : Array Value} {below : List Frame} {meth : Method} {c : Code} {H : Heap} {locs : List Loc} {cells slots : Nat} {Q : State → Prop} {cc : ByteArray} {pc : Nat} {ls : Array Slot} {rest : List Value} {D : va_G} {cy : Cy} {ad : Nat → Nat} {E : Ee} {A : Nat → Prop} {own : String} {n : Nat} {ret : Option FieldType} {index : Nat} {len : Int32} {N : Nat} (C : Cx own cc n ret p s m args meth c D cy A) (hw : WdE D cy A s ad E H locs) (hNW : NW s) (w1 : Cond.classLink own index RX5 ∈ GW) (hn : ¬ len < 0) (hN : len.toNatClampNeg = N) (hbytes : N * 4 ≤ 536870912) (hcells : cells + 1 ≤ Rr.cells) (hslots : slots + N ≤ Rr.slots) (hdg : decode cc pc = .ok (.anewarray index, 3)) (kk : ∀ (q : Nat) (ad1 : Nat → Nat) (E1 : Ee) (H1 : Heap), E1 = eNew E 13 N N (fun _ => 0) → (∀ i a, Pt ad E i a → Pt ad1 E1 i a) → Pt ad1 E1 (eN E) q → eN E1 = eN E + 1 → eL E1 = eL E + N → WdE D cy A s ad1 E1 H1 locs → W p l e Rr s m args below meth c H1 locs (cells + 1) (slots + N) Q (F0 m (pc + 3) ls (.ref q :: rest))) : W p l e Rr s m args below meth c H locs cells slots Q (F0 m pc ls (.int len :: rest)) := by
  obtain ⟨hx, hb, -, hml, hown, hts, hK, hA, -, hSt⟩ := C
  obtain ⟨T, M, R, hRp, hP, hD, hS⟩ := hw
  refine va_newq (C := "IceTongue$Tongue") hx hb hown (hts _ w1) hNW.2.2.1.2.2 hK hP hD hS hA hn hN hbytes hcells hslots hdg (fun q cA H1 hK1 hP1 hD1 hS1 => ?_)
  have e1 : cA = cy.2.2.2.2.2 := by
    obtain ⟨_, _, _, _, _, a1⟩ := (hK.2 4 _ rfl).2
    obtain ⟨_, _, _, _, _, a2⟩ := (hK1.2 5 _ rfl).2
    exact Option.some.inj (a2.symm.trans a1)
  subst e1
  have hq := wl_fresh hD1
  have he : ce cy (newT T q 13 N) (newM M q (fun _ => 0)) (newR R q) q = .inl (cy.2.2.2.2.2, N, .inr (.inr (.inr (.inr (fun _ => none))))) := by
    rw [ce_13 (show (newT T q 13 N).2.1 q = 13 from va_up_s _ _ _)]
    simp [newR, newT, va_up]
  rw [wl_push hq he] at hP1 hD1
  obtain ⟨r1, r2, r3⟩ := hRp.new hq 13 N N (fun _ => 0)
  exact kk q _ _ H1 rfl r2 r3 rfl rfl ⟨_, _, _, r1, hP1, hD1, hS1⟩
