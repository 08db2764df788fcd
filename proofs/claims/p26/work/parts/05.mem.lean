abbrev Mm : Type := (Nat → Nat → Int32) × (Nat → Nat → Int64)
abbrev Rm : Type := Nat → Nat → Option Nat
abbrev Ty : Type := List Nat × (Nat → Nat) × (Nat → Nat)
abbrev Cy : Type := ClassId × ClassId × ClassId × ClassId × ClassId × ClassId
def up2 {α : Type} (f : Nat → Nat → α) (a k : Nat) (v : α) : Nat → Nat → α := fun b j => if b = a ∧ j = k then v else f b j
def gI (M : Mm) (a k : Nat) : Int32 := M.1 a k
def gJ (M : Mm) (a k : Nat) : Int64 := M.2 a k
def sI (M : Mm) (a k : Nat) (v : Int32) : Mm := (up2 M.1 a k v, M.2)
def sJ (M : Mm) (a k : Nat) (v : Int64) : Mm := (M.1, up2 M.2 a k v)
def isK (T : Ty) (a k : Nat) : Bool := decide (a ∈ T.1) && decide (T.2.1 a = k)
def lnT (T : Ty) (a : Nat) : Nat := T.2.2 a
def inb (i : Int32) (n : Nat) : Bool := decide (¬ (i < 0 ∨ n ≤ i.toNatClampNeg))
def chk {α : Type} (b : Bool) (x : Option α) : Option α := if b = true then x else none
def rfm {α : Type} (q : Option Nat) (k : Nat → Option α) : Option α := match q with
  | some b => k b
  | none => none
def onl {α : Type} (q : Option Nat) (x : Option α) (k : Nat → Option α) : Option α := match q with
  | some b => k b
  | none => x
def bnd {β α : Type} (x : β) (k : β → Option α) : Option α := k x
def cal {ρ α : Type} (q : Option (ρ × Mm)) (k : ρ → Mm → Option α) : Option α := match q with
  | some u => k u.1 u.2
  | none => none
def calR {ρ α : Type} (q : Option (ρ × Mm × Rm)) (k : ρ → Mm → Rm → Option α) : Option α := match q with
  | some u => k u.1 u.2.1 u.2.2
  | none => none
def isZ (x : Int32) : Bool := decide (x = 0) || decide (x = 1)
theorem chk_some {α : Type} {b : Bool} {x : Option α} {v : α} (h : chk b x = some v) : b = true ∧ x = some v := by
  unfold chk at h
  split at h
  · exact ⟨by assumption, h⟩
  · cases h
theorem rfm_some {α : Type} {q : Option Nat} {k : Nat → Option α} {v : α} (h : rfm q k = some v) : ∃ b, q = some b ∧ k b = some v := by
  cases q with
  | none => cases h
  | some b => exact ⟨b, rfl, h⟩
theorem bnd_at {β α : Type} {x y : β} {k : β → Option α} {v : Option α} (h : bnd x k = v) (e : y = x) : k y = v := by
  subst e
  exact h
theorem cal_some {ρ α : Type} {q : Option (ρ × Mm)} {k : ρ → Mm → Option α} {v : α} (h : cal q k = some v) : ∃ r M, q = some (r, M) ∧ k r M = some v := by
  cases q with
  | none => cases h
  | some u => exact ⟨u.1, u.2, rfl, h⟩
theorem calR_some {ρ α : Type} {q : Option (ρ × Mm × Rm)} {k : ρ → Mm → Rm → Option α} {v : α} (h : calR q k = some v) : ∃ r M R, q = some (r, M, R) ∧ k r M R = some v := by
  cases q with
  | none => cases h
  | some u => exact ⟨u.1, u.2.1, u.2.2, rfl, h⟩
theorem ite_t {α : Type} {c : Prop} {_ : Decidable c} {x y v : α} (h : (if c then x else y) = v) (hc : c) : x = v := by
  rw [if_pos hc] at h
  exact h
theorem ite_f {α : Type} {c : Prop} {_ : Decidable c} {x y v : α} (h : (if c then x else y) = v) (hc : ¬ c) : y = v := by
  rw [if_neg hc] at h
  exact h
theorem isK_mem {T : Ty} {a k : Nat} (h : isK T a k = true) : a ∈ T.1 := by
  unfold isK at h
  simp only [Bool.and_eq_true, decide_eq_true_eq] at h
  exact h.1
theorem isK_knd {T : Ty} {a k : Nat} (h : isK T a k = true) : T.2.1 a = k := by
  unfold isK at h
  simp only [Bool.and_eq_true, decide_eq_true_eq] at h
  exact h.2
theorem inb_vp {i : Int32} {n : Nat} (h : inb i n = true) : vp_in i n := by
  unfold inb at h
  simp only [decide_eq_true_eq] at h
  exact h
theorem isZ_nar {x : Int32} (h : isZ x = true) : narrow .boolean (.int x) = .int x := by
  unfold isZ at h
  simp only [Bool.or_eq_true, decide_eq_true_eq] at h
  rcases h with rfl | rfl <;> rfl
def ce (cy : Cy) (T : Ty) (M : Mm) (R : Rm) (a : Nat) : va_E :=
  if T.2.1 a = 0 then .inr (0, [va_rf (R a 0), .int (M.1 a 1), .int (M.1 a 2), .int (M.1 a 3), .int (M.1 a 4), .int (M.1 a 5), .int (M.1 a 6)]) else
  if T.2.1 a = 1 then .inr (1, [.int (M.1 a 0), .int (M.1 a 1), .int (M.1 a 2), .int (M.1 a 3)]) else
  if T.2.1 a = 2 then .inr (2, [va_rf (R a 0), .int (M.1 a 1), .int (M.1 a 2), .int (M.1 a 3)]) else
  if T.2.1 a = 3 then .inr (3, [.int (M.1 a 0), .int (M.1 a 1), .int (M.1 a 2), .int (M.1 a 3), .int (M.1 a 4), .int (M.1 a 5)]) else
  if T.2.1 a = 4 then .inr (4, [va_rf (R a 0), .int (M.1 a 1)]) else
  if T.2.1 a = 5 then .inr (5, [va_rf (R a 0), va_rf (R a 1), va_rf (R a 2), va_rf (R a 3), .int (M.1 a 4), .int (M.1 a 5), .int (M.1 a 6), .long (M.2 a 7), .long (M.2 a 8), .long (M.2 a 9), .long (M.2 a 10)]) else
  if T.2.1 a = 6 then .inr (6, [va_rf (R a 0), va_rf (R a 1), va_rf (R a 2), va_rf (R a 3), .int (M.1 a 4)]) else
  if T.2.1 a = 8 then .inl (cy.1, T.2.2 a, .inl (M.1 a)) else
  if T.2.1 a = 9 then .inl (cy.2.1, T.2.2 a, .inl (M.1 a)) else
  if T.2.1 a = 11 then .inl (cy.2.2.2.1, T.2.2 a, .inr (.inr (.inr (.inr (R a))))) else
  if T.2.1 a = 12 then .inl (cy.2.2.2.2.1, T.2.2 a, .inr (.inr (.inr (.inr (R a))))) else
  .inl (cy.2.2.2.2.2, T.2.2 a, .inr (.inr (.inr (.inr (R a)))))
theorem ce_0 {cy : Cy} {T : Ty} {M : Mm} {R : Rm} {a : Nat} (h : T.2.1 a = 0) : ce cy T M R a = .inr (0, [va_rf (R a 0), .int (M.1 a 1), .int (M.1 a 2), .int (M.1 a 3), .int (M.1 a 4), .int (M.1 a 5), .int (M.1 a 6)]) := by
  unfold ce
  simp [h]
theorem ce_1 {cy : Cy} {T : Ty} {M : Mm} {R : Rm} {a : Nat} (h : T.2.1 a = 1) : ce cy T M R a = .inr (1, [.int (M.1 a 0), .int (M.1 a 1), .int (M.1 a 2), .int (M.1 a 3)]) := by
  unfold ce
  simp [h]
theorem ce_2 {cy : Cy} {T : Ty} {M : Mm} {R : Rm} {a : Nat} (h : T.2.1 a = 2) : ce cy T M R a = .inr (2, [va_rf (R a 0), .int (M.1 a 1), .int (M.1 a 2), .int (M.1 a 3)]) := by
  unfold ce
  simp [h]
theorem ce_3 {cy : Cy} {T : Ty} {M : Mm} {R : Rm} {a : Nat} (h : T.2.1 a = 3) : ce cy T M R a = .inr (3, [.int (M.1 a 0), .int (M.1 a 1), .int (M.1 a 2), .int (M.1 a 3), .int (M.1 a 4), .int (M.1 a 5)]) := by
  unfold ce
  simp [h]
theorem ce_4 {cy : Cy} {T : Ty} {M : Mm} {R : Rm} {a : Nat} (h : T.2.1 a = 4) : ce cy T M R a = .inr (4, [va_rf (R a 0), .int (M.1 a 1)]) := by
  unfold ce
  simp [h]
theorem ce_5 {cy : Cy} {T : Ty} {M : Mm} {R : Rm} {a : Nat} (h : T.2.1 a = 5) : ce cy T M R a = .inr (5, [va_rf (R a 0), va_rf (R a 1), va_rf (R a 2), va_rf (R a 3), .int (M.1 a 4), .int (M.1 a 5), .int (M.1 a 6), .long (M.2 a 7), .long (M.2 a 8), .long (M.2 a 9), .long (M.2 a 10)]) := by
  unfold ce
  simp [h]
theorem ce_6 {cy : Cy} {T : Ty} {M : Mm} {R : Rm} {a : Nat} (h : T.2.1 a = 6) : ce cy T M R a = .inr (6, [va_rf (R a 0), va_rf (R a 1), va_rf (R a 2), va_rf (R a 3), .int (M.1 a 4)]) := by
  unfold ce
  simp [h]
theorem ce_8 {cy : Cy} {T : Ty} {M : Mm} {R : Rm} {a : Nat} (h : T.2.1 a = 8) : ce cy T M R a = .inl (cy.1, T.2.2 a, .inl (M.1 a)) := by
  unfold ce
  simp [h]
theorem ce_9 {cy : Cy} {T : Ty} {M : Mm} {R : Rm} {a : Nat} (h : T.2.1 a = 9) : ce cy T M R a = .inl (cy.2.1, T.2.2 a, .inl (M.1 a)) := by
  unfold ce
  simp [h]
theorem ce_11 {cy : Cy} {T : Ty} {M : Mm} {R : Rm} {a : Nat} (h : T.2.1 a = 11) : ce cy T M R a = .inl (cy.2.2.2.1, T.2.2 a, .inr (.inr (.inr (.inr (R a))))) := by
  unfold ce
  simp [h]
theorem ce_12 {cy : Cy} {T : Ty} {M : Mm} {R : Rm} {a : Nat} (h : T.2.1 a = 12) : ce cy T M R a = .inl (cy.2.2.2.2.1, T.2.2 a, .inr (.inr (.inr (.inr (R a))))) := by
  unfold ce
  simp [h]
theorem ce_13 {cy : Cy} {T : Ty} {M : Mm} {R : Rm} {a : Nat} (h : T.2.1 a = 13) : ce cy T M R a = .inl (cy.2.2.2.2.2, T.2.2 a, .inr (.inr (.inr (.inr (R a))))) := by
  unfold ce
  simp [h]
theorem up2_ne {α : Type} {f : Nat → Nat → α} {a k y : Nat} {v : α} (h : ¬ y = a) : up2 f a k v y = f y := by
  funext j
  simp [up2, h]
theorem ce_congr {cy : Cy} {T : Ty} {M M1 : Mm} {R R1 : Rm} {y : Nat} (h1 : M1.1 y = M.1 y) (h2 : M1.2 y = M.2 y) (h3 : R1 y = R y) : ce cy T M R y = ce cy T M1 R1 y := by
  unfold ce
  rw [h1, h2, h3]
theorem ce_obj {cy : Cy} {T : Ty} {M : Mm} {R : Rm} {a ci : Nat} (h8 : ci < 7) (h : T.2.1 a = ci) : ∃ fs, ce cy T M R a = .inr (ci, fs) := by
  rcases (show ci = 0 ∨ ci = 1 ∨ ci = 2 ∨ ci = 3 ∨ ci = 4 ∨ ci = 5 ∨ ci = 6 by omega) with rfl | rfl | rfl | rfl | rfl | rfl | rfl
  · exact ⟨_, ce_0 h⟩
  · exact ⟨_, ce_1 h⟩
  · exact ⟨_, ce_2 h⟩
  · exact ⟨_, ce_3 h⟩
  · exact ⟨_, ce_4 h⟩
  · exact ⟨_, ce_5 h⟩
  · exact ⟨_, ce_6 h⟩
def WL (cy : Cy) (T : Ty) (M : Mm) (R : Rm) : va_W := va_pl T.1 (ce cy T M R)
def tys (cy : Cy) : List (ClassId × FieldType) := [(cy.1, .char), (cy.2.1, .int), (cy.2.2.2.1, .object "IceTongue$Band"), (cy.2.2.2.2.1, .object "IceTongue$Stake"), (cy.2.2.2.2.2, .object "IceTongue$Tongue")]
theorem wl_get {cy : Cy} {T : Ty} {M : Mm} {R : Rm} {a k : Nat} (h : isK T a k = true) : ∃ q : Nat, (WL cy T M R)[q]? = some (a, ce cy T M R a) := by
  obtain ⟨q, hq⟩ := va_pl_get (X := []) (f := ce cy T M R) (isK_mem h)
  exact ⟨q, hq⟩
theorem wl_set {cy : Cy} {T : Ty} {M M1 : Mm} {R R1 : Rm} {A : Nat → Prop} {a k q : Nat} {x : va_E} (hD : va_D A (WL cy T M R)) (h : isK T a k = true) (hq : (WL cy T M R)[q]? = some (a, ce cy T M R a)) (he : ∀ b, va_up (ce cy T M R) a x b = ce cy T M1 R1 b) : (WL cy T M R).set q (a, x) = WL cy T M1 R1 := by
  have h1 := va_pl_set (X := []) (f := ce cy T M R) (e := x) hD (isK_mem h) hq
  exact h1.trans (va_pl_congr he)
/-- the class's three static rows, as they stand from the start on -/
def fLeast : Nat → Int32 := fun j => if j = 5 then 1 else 0
def fMost : Nat → Int32 := fun j => match j with
  | 0 => 5000
  | 1 => 500
  | 2 => 9000
  | 3 => 500
  | 4 => 5000
  | 5 => 1000000
  | _ => 50
def fFirst : Nat → Int32 := fun j => match j with
  | 0 => 1000
  | 1 => 50
  | 2 => 1500
  | 3 => 100
  | 4 => 2500
  | 5 => 500
  | _ => 2
def Stt (n : String) (f : Nat → Int32) (t : Nat) (A : Nat → Prop) (U : State) (H : Heap) : Prop := va_Z "IceTongue" n "[I" (.ref t) A U H ∧ va_T .int t 7 (fun j => .int (f j)) A U H
def St (A : Nat → Prop) (U : State) (H : Heap) : Prop := (∃ t, Stt "LEAST_SETTING" fLeast t A U H) ∧ (∃ t, Stt "MOST_SETTING" fMost t A U H) ∧ (∃ t, Stt "FIRST_SETTING" fFirst t A U H)
theorem Stt.to {n : String} {f : Nat → Int32} {t : Nat} {A B : Nat → Prop} {u U : State} {H H1 : Heap} (h : Stt n f t A u H) (hvm : u.vm.Alike U.vm) (hq : ∀ a : Nat, a < H.size → ¬ A a → H1[a]? = H[a]?) (hAB : ∀ q, B q → A q) : Stt n f t B U H1 := ⟨((h.1.moved hvm).kept hq).narrow hAB, ((h.2.moved hvm).kept hq).narrow hAB⟩
theorem St.to {A B : Nat → Prop} {u U : State} {H H1 : Heap} (h : St A u H) (hvm : u.vm.Alike U.vm) (hq : ∀ a : Nat, a < H.size → ¬ A a → H1[a]? = H[a]?) (hAB : ∀ q, B q → A q) : St B U H1 := by
  obtain ⟨⟨t0, h0⟩, ⟨t1, h1⟩, ⟨t2, h2⟩⟩ := h
  exact ⟨⟨t0, h0.to hvm hq hAB⟩, ⟨t1, h1.to hvm hq hAB⟩, ⟨t2, h2.to hvm hq hAB⟩⟩
/-- what stands all through a method's walk -/
def Cx (own : String) (cc : ByteArray) (n : Nat) (ret : Option FieldType) (p : Program) (s : State) (m : MethodId) (args : Array Value) (meth : Method) (c : Code) (D : va_G) (cy : Cy) (A : Nat → Prop) : Prop :=
  p.tables.exec = Jvm.exec ∧ c.code = cc ∧ meth.sig.returnType = ret ∧ c.maxLocals = n ∧ s.vm.findClass own = some m.cls ∧ (∀ w ∈ GW, w.before args s = true) ∧ va_K D vwCl (tys cy) s ∧ (∀ q : Nat, s.heap.size ≤ q → A q) ∧ meth.locks = false ∧ St A s s.heap
def PcM (D : va_G) (cy : Cy) (T : Ty) (M : Mm) (R : Rm) (av : List Value) (sz : Nat) : Array Value → State → Prop := va_Pc av (fun U => U.heap.size = sz ∧ va_P D vwCl (WL cy T M R) U.heap ∧ va_K D vwCl (tys cy) U ∧ va_D (fun _ => True) (WL cy T M R) ∧ St (va_A (WL cy T M R) sz) U U.heap)
abbrev BM (D : va_G) (cy : Cy) (T : Ty) (M : Mm) (R : Rm) (A : Nat → Prop) : Unit → State → Prop := fun _ t => va_P D vwCl (WL cy T M R) t.heap ∧ va_D A (WL cy T M R)
def QcI (D : va_G) (cy : Cy) (T : Ty) (M : Mm) (R : Rm) (A : Nat → Prop) (r : Int32) : Array Value → State → Outcome → State → Prop := va_Qi (fun (r' : Int32) (_ : Unit) => r' = r) (BM D cy T M R A) A
def QcL (D : va_G) (cy : Cy) (T : Ty) (M : Mm) (R : Rm) (A : Nat → Prop) (r : Int64) : Array Value → State → Outcome → State → Prop := va_Ql (fun (r' : Int64) (_ : Unit) => r' = r) (BM D cy T M R A) A
def QcV (D : va_G) (cy : Cy) (T : Ty) (M : Mm) (R : Rm) (A : Nat → Prop) (_ : Unit) : Array Value → State → Outcome → State → Prop := va_Qv (fun (_ : Unit) => True) (BM D cy T M R A) A
def Ct {ρ : Type} (QC : va_G → Cy → Ty → Mm → Rm → (Nat → Prop) → ρ → Array Value → State → Outcome → State → Prop) (l : Launch) (y : MethodName) (bytes : ByteArray) (maxL : Nat) (ret : Option FieldType) (rm : Room) (D : va_G) (cy : Cy) (T : Ty) (M : Mm) (R : Rm) (av : List Value) (M1 : Mm) (R1 : Rm) (r : ρ) : Prop :=
  ∀ sz : Nat, Met l y (.code y bytes maxL ret :: GW) rm (PcM D cy T M R av sz) (QC D cy T M1 R1 (va_A (WL cy T M R) sz) r) 0 0 (va_A (WL cy T M R) sz)
theorem met_F {l : Launch} {y : MethodName} {ws ws' : List Cond} {rm : Room} {Pc : Array Value → State → Prop} {Qc : Array Value → State → Outcome → State → Prop} {mc ms : Nat} {free : Addr → Prop} {cc : ByteArray} {maxL : Nat} {ret : Option FieldType}
    (hy : plainFor y = true) (hw : ws = Cond.code y cc maxL ret :: ws')
    (body : ∀ p e s m args below meth c s₁, BodyLoose p l y (headSpec ws rm) cc maxL ret e s m args below meth c s₁ → c.maxLocals = maxL → Pc args s → W p l e (headSpec ws rm).room s m args below meth c s.heap [] 0 0 (MQ below Qc args s mc ms free) (entryFrame m args maxL)) : Met l y ws rm Pc Qc mc ms free := by
  refine MetFree.of_bodySF (code := cc) (maxLocals := maxL) (ret := ret) hy ?_ ?_
  · intro args s m h hn
    obtain ⟨meth, c, h1, h2, h3, h4, h5, h6, -, -⟩ := Cond.code_spec hn (atoms_spec (ws := ws) h _ (by rw [hw]; exact List.mem_cons_self))
    exact ⟨meth, c, h1, h2, h3, h4, h5, h6⟩
  · intro p e s m args below meth c s₁ B hml hP _
    obtain ⟨t, a1, o, b1, b2, b3⟩ := body p e s m args below meth c s₁ B hml hP s₁ (by rw [B.state]; rfl) (Stand.of_body B)
    exact ⟨t, o, a1, b1, b2, ⟨b3.1, b3.2⟩⟩
theorem enter {ρ : Type} {QC : va_G → Cy → Ty → Mm → Rm → (Nat → Prop) → ρ → Array Value → State → Outcome → State → Prop} {l : Launch} {y : MethodName} {bytes : ByteArray} {maxL : Nat} {ret : Option FieldType} {rm : Room} {D : va_G} {cy : Cy} {T : Ty} {M : Mm} {R : Rm} {av : List Value} {M1 : Mm} {R1 : Rm} {r : ρ} (hy : plainFor y = true) (hlen : (lg_sl av).length ≤ maxL)
    (body : ∀ (p : Program) (e : Env) (s : State) (m : MethodId) (args : Array Value) (below : List Frame) (meth : Method) (c : Code) (A : Nat → Prop), Cx y.cls bytes maxL ret p s m args meth c D cy A → va_P D vwCl (WL cy T M R) s.heap → va_D A (WL cy T M R) → va_S A s.heap s.heap [] → ∀ ls : Array Slot, lv_has ls maxL (lv_args 0 av) → W p l e rm s m args below meth c s.heap [] 0 0 (MQ below (QC D cy T M1 R1 A r) args s 0 0 A) (F0 m 0 ls [])) : Ct QC l y bytes maxL ret rm D cy T M R av M1 R1 r := by
  intro sz
  refine met_F (cc := bytes) (maxL := maxL) (ret := ret) hy rfl ?_
  intro p e s m args below meth c s₁ B hml hv
  obtain ⟨rfl, hsz, hP, hK, hD0, hSt⟩ := hv
  have hts0 := atoms_spec (ws := .code y bytes maxL ret :: GW) B.pre
  have hown : s.vm.findClass y.cls = some m.cls := findClass_of_methodNamed B.named
  subst hsz
  have hD := hD0.self (sz := s.heap.size)
  generalize hAe : va_A (WL cy T M R) s.heap.size = A at hD hSt ⊢
  have hA : ∀ q : Nat, s.heap.size ≤ q → A q := fun q h => by rw [← hAe]; exact Or.inr h
  have hl := lv_entry av (n := maxL) hlen
  rw [lg_entry_eq]
  generalize (lg_sl av ++ List.replicate (maxL - (lg_sl av).length) Slot.unset).toArray = ls at hl ⊢
  exact body p e s m av.toArray below meth c A ⟨B.exec, B.bytes, B.returns, hml, hown, fun w hw => hts0 w (List.mem_cons_of_mem _ hw), hK, hA, B.notSynchronized, hSt⟩ hP hD va_S.rf ls hl
theorem fr_all {A : Nat → Prop} {ws : va_W} {H0 H : Heap} {locs : List Loc} (hD : va_D A ws) (hS : va_S A H0 H locs) (hA : ∀ q, H0.size ≤ q → A q) : ∀ q, va_A ws H.size q → A q := by
  intro q hq
  rcases hq with ⟨k, x, hk⟩ | hq
  · exact hD.2 k _ hk
  · exact hA q (Nat.le_trans hS.1 hq)
theorem PcM.blind {D : va_G} {cy : Cy} {T : Ty} {M : Mm} {R : Rm} {av : List Value} {sz : Nat} : FrameBlind (PcM D cy T M R av sz) := by
  intro a U g mk q
  obtain ⟨q0, q1, qP, qK, qD, qS⟩ := q
  exact ⟨q0, q1, qP, va_K.moved (u := U) (U := U.calling g mk a) (Vm.Alike.refl U.vm) qK, qD, St.to (u := U) (U := U.calling g mk a) qS (Vm.Alike.refl U.vm) (fun _ _ _ => rfl) (fun _ h => h)⟩
theorem PcM.of {own : String} {cc : ByteArray} {n : Nat} {ret : Option FieldType} {p : Program} {s : State} {m : MethodId} {args : Array Value} {meth : Method} {c : Code} {D : va_G} {cy : Cy} {A : Nat → Prop} {T : Ty} {M : Mm} {R : Rm} {H : Heap} {locs : List Loc} (C : Cx own cc n ret p s m args meth c D cy A) (hP : va_P D vwCl (WL cy T M R) H) (hD : va_D A (WL cy T M R)) (hS : va_S A s.heap H locs) (av : List Value) : ∀ U : State, U.heap = H → s.WarmedH U.vm → PcM D cy T M R av H.size av.toArray U := by
  intro U hU hW
  obtain ⟨-, -, -, -, -, -, hK, hA, -, hSt⟩ := C
  refine ⟨rfl, by rw [hU], by rw [hU]; exact hP, va_K.moved hW.alike hK, hD.weaken (fun _ _ _ _ => trivial), ?_⟩
  rw [hU]
  exact hSt.to hW.alike hS.2.1 (fr_all hD hS hA)
theorem gf_0_0 {p : Program} {l : Launch} {e : Env} {Rr : Room} {s : State} {m : MethodId} {args : Array Value} {below : List Frame} {meth : Method} {c : Code} {H : Heap} {locs : List Loc} {cells slots : Nat} {Q : State → Prop} {cc : ByteArray} {pc : Nat} {ls : Array Slot} {rest : List Value} {D : va_G} {cy : Cy} {T : Ty} {M : Mm} {R : Rm} {A : Nat → Prop} {own : String} {n : Nat} {ret : Option FieldType} {index a : Nat} (C : Cx own cc n ret p s m args meth c D cy A) (hP : va_P D vwCl (WL cy T M R) H) (ha : isK T a 0 = true) {b : Nat} (eb : R a 0 = some b) (hl : Cond.fieldLink own index "IceTongue$Band" "layers" "LIceTongue$Layers;" ∈ GW) (hdg : decode cc pc = .ok (.getfield index, 3)) (kk : W p l e Rr s m args below meth c H locs cells slots Q (F0 m (pc + 3) ls (.ref b :: rest))) : W p l e Rr s m args below meth c H locs cells slots Q (F0 m pc ls (.ref a :: rest)) := by
  obtain ⟨hx, hb, -, hml, hown, hts, hK, hA, -, hSt⟩ := C
  obtain ⟨q, hq⟩ := wl_get (cy := cy) (M := M) (R := R) ha
  rw [ce_0 (isK_knd ha)] at hq
  exact va_get (D := D) (ci := 0) (v := .ref b) (C := RX0) (T := TX0) (N := 7) hx hb hts inlX0 hown hK hP q hq rfl 0 (by decide) (hts _ hl) (fun _ h9 => h9) (show some (va_rf (R a 0)) = some (.ref b) from by rw [eb]; rfl) hdg kk
theorem pe_0_0 {cy : Cy} {T : Ty} {M : Mm} {R : Rm} {a : Nat} {b : Nat} (ha : isK T a 0 = true) (y : Nat) : va_up (ce cy T M R) a (.inr (0, ([va_rf (R a 0), .int (M.1 a 1), .int (M.1 a 2), .int (M.1 a 3), .int (M.1 a 4), .int (M.1 a 5), .int (M.1 a 6)] : List Value).set 0 (.ref b))) y = ce cy T M (up2 R a 0 (some b)) y := by
  have hk := isK_knd ha
  unfold va_up
  by_cases h : y = a
  · subst h
    rw [if_pos rfl, ce_0 hk]
    simp [sI, sJ, up2, va_rf]
  · rw [if_neg h]
    exact ce_congr (by first | rfl | exact up2_ne h) (by first | rfl | exact up2_ne h) (by first | rfl | exact up2_ne h)
theorem pf_0_0 {p : Program} {l : Launch} {e : Env} {Rr : Room} {s : State} {m : MethodId} {args : Array Value} {below : List Frame} {meth : Method} {c : Code} {H : Heap} {locs : List Loc} {cells slots : Nat} {Q : State → Prop} {cc : ByteArray} {pc : Nat} {ls : Array Slot} {rest : List Value} {D : va_G} {cy : Cy} {T : Ty} {M : Mm} {R : Rm} {A : Nat → Prop} {own : String} {n : Nat} {ret : Option FieldType} {index a : Nat} {b : Nat} (C : Cx own cc n ret p s m args meth c D cy A) (hP : va_P D vwCl (WL cy T M R) H) (hD : va_D A (WL cy T M R)) (hS : va_S A s.heap H locs) (ha : isK T a 0 = true) (hl : Cond.fieldLink own index "IceTongue$Band" "layers" "LIceTongue$Layers;" ∈ GW) (hin : meth.name = "<init>") (hO : (TX0 0).1 = own) (hdg : decode cc pc = .ok (.putfield index, 3)) (kk : ∀ (R1 : Rm) (H1 : Heap) (locs1 : List Loc), R1 = up2 R a 0 (some b) → va_P D vwCl (WL cy T M R1) H1 → va_D A (WL cy T M R1) → va_S A s.heap H1 locs1 → W p l e Rr s m args below meth c H1 locs1 cells slots Q (F0 m (pc + 3) ls rest)) : W p l e Rr s m args below meth c H locs cells slots Q (F0 m pc ls (.ref b :: .ref a :: rest)) := by
  obtain ⟨hx, hb, -, hml, hown, hts, hK, hA, -, hSt⟩ := C
  obtain ⟨q, hq⟩ := wl_get (cy := cy) (M := M) (R := R) ha
  have hq0 := hq
  rw [ce_0 (isK_knd ha)] at hq
  refine va_putF (D := D) (ci := 0) (v := .ref b) (ty := (tyX0 0)) (C := RX0) (T := TX0) (N := 7) hx hb hts inlX0 tyX0 tyX0_ok nmX0 hown hK hP hD hS q hq rfl 0 (by decide) (hts _ hl) (fun _ h9 => h9) rfl hin hO (by decide +kernel) rfl rfl (Nat.le_of_ble_eq_true rfl) hdg (fun H1 locs1 hP1 hD1 hS1 => ?_)
  rw [wl_set hD ha hq0 (pe_0_0 ha)] at hP1 hD1
  exact kk _ H1 locs1 rfl hP1 hD1 hS1
theorem gf_0_1 {p : Program} {l : Launch} {e : Env} {Rr : Room} {s : State} {m : MethodId} {args : Array Value} {below : List Frame} {meth : Method} {c : Code} {H : Heap} {locs : List Loc} {cells slots : Nat} {Q : State → Prop} {cc : ByteArray} {pc : Nat} {ls : Array Slot} {rest : List Value} {D : va_G} {cy : Cy} {T : Ty} {M : Mm} {R : Rm} {A : Nat → Prop} {own : String} {n : Nat} {ret : Option FieldType} {index a : Nat} (C : Cx own cc n ret p s m args meth c D cy A) (hP : va_P D vwCl (WL cy T M R) H) (ha : isK T a 0 = true) (hl : Cond.fieldLink own index "IceTongue$Band" "height" "I" ∈ GW) (hdg : decode cc pc = .ok (.getfield index, 3)) (kk : W p l e Rr s m args below meth c H locs cells slots Q (F0 m (pc + 3) ls (.int (gI M a 1) :: rest))) : W p l e Rr s m args below meth c H locs cells slots Q (F0 m pc ls (.ref a :: rest)) := by
  obtain ⟨hx, hb, -, hml, hown, hts, hK, hA, -, hSt⟩ := C
  obtain ⟨q, hq⟩ := wl_get (cy := cy) (M := M) (R := R) ha
  rw [ce_0 (isK_knd ha)] at hq
  exact va_get (D := D) (ci := 0) (v := .int (gI M a 1)) (C := RX0) (T := TX0) (N := 7) hx hb hts inlX0 hown hK hP q hq rfl 1 (by decide) (hts _ hl) (fun _ h9 => h9) rfl hdg kk
theorem pe_0_1 {cy : Cy} {T : Ty} {M : Mm} {R : Rm} {a : Nat} {x : Int32} (ha : isK T a 0 = true) (y : Nat) : va_up (ce cy T M R) a (.inr (0, ([va_rf (R a 0), .int (M.1 a 1), .int (M.1 a 2), .int (M.1 a 3), .int (M.1 a 4), .int (M.1 a 5), .int (M.1 a 6)] : List Value).set 1 (.int x))) y = ce cy T (sI M a 1 x) R y := by
  have hk := isK_knd ha
  unfold va_up
  by_cases h : y = a
  · subst h
    rw [if_pos rfl, ce_0 hk]
    simp [sI, sJ, up2, va_rf]
  · rw [if_neg h]
    exact ce_congr (by first | rfl | exact up2_ne h) (by first | rfl | exact up2_ne h) (by first | rfl | exact up2_ne h)
theorem pf_0_1 {p : Program} {l : Launch} {e : Env} {Rr : Room} {s : State} {m : MethodId} {args : Array Value} {below : List Frame} {meth : Method} {c : Code} {H : Heap} {locs : List Loc} {cells slots : Nat} {Q : State → Prop} {cc : ByteArray} {pc : Nat} {ls : Array Slot} {rest : List Value} {D : va_G} {cy : Cy} {T : Ty} {M : Mm} {R : Rm} {A : Nat → Prop} {own : String} {n : Nat} {ret : Option FieldType} {index a : Nat} {x : Int32} (C : Cx own cc n ret p s m args meth c D cy A) (hP : va_P D vwCl (WL cy T M R) H) (hD : va_D A (WL cy T M R)) (hS : va_S A s.heap H locs) (ha : isK T a 0 = true) (hl : Cond.fieldLink own index "IceTongue$Band" "height" "I" ∈ GW) (hdg : decode cc pc = .ok (.putfield index, 3)) (kk : ∀ (M1 : Mm) (H1 : Heap) (locs1 : List Loc), M1 = sI M a 1 x → va_P D vwCl (WL cy T M1 R) H1 → va_D A (WL cy T M1 R) → va_S A s.heap H1 locs1 → W p l e Rr s m args below meth c H1 locs1 cells slots Q (F0 m (pc + 3) ls rest)) : W p l e Rr s m args below meth c H locs cells slots Q (F0 m pc ls (.int x :: .ref a :: rest)) := by
  obtain ⟨hx, hb, -, hml, hown, hts, hK, hA, -, hSt⟩ := C
  obtain ⟨q, hq⟩ := wl_get (cy := cy) (M := M) (R := R) ha
  have hq0 := hq
  rw [ce_0 (isK_knd ha)] at hq
  refine va_put (D := D) (ci := 0) (v := .int x) (ty := .int) (C := RX0) (T := TX0) (N := 7) hx hb hts inlX0 tyX0 tyX0_ok nmX0 hown hK hP hD hS q hq rfl 1 (by decide) (hts _ hl) (fun _ h9 => h9) rfl (by decide +kernel) rfl rfl (Nat.le_of_ble_eq_true rfl) hdg (fun H1 locs1 hP1 hD1 hS1 => ?_)
  rw [wl_set hD ha hq0 (pe_0_1 ha)] at hP1 hD1
  exact kk _ H1 locs1 rfl hP1 hD1 hS1
theorem gf_0_2 {p : Program} {l : Launch} {e : Env} {Rr : Room} {s : State} {m : MethodId} {args : Array Value} {below : List Frame} {meth : Method} {c : Code} {H : Heap} {locs : List Loc} {cells slots : Nat} {Q : State → Prop} {cc : ByteArray} {pc : Nat} {ls : Array Slot} {rest : List Value} {D : va_G} {cy : Cy} {T : Ty} {M : Mm} {R : Rm} {A : Nat → Prop} {own : String} {n : Nat} {ret : Option FieldType} {index a : Nat} (C : Cx own cc n ret p s m args meth c D cy A) (hP : va_P D vwCl (WL cy T M R) H) (ha : isK T a 0 = true) (hl : Cond.fieldLink own index "IceTongue$Band" "length" "I" ∈ GW) (hdg : decode cc pc = .ok (.getfield index, 3)) (kk : W p l e Rr s m args below meth c H locs cells slots Q (F0 m (pc + 3) ls (.int (gI M a 2) :: rest))) : W p l e Rr s m args below meth c H locs cells slots Q (F0 m pc ls (.ref a :: rest)) := by
  obtain ⟨hx, hb, -, hml, hown, hts, hK, hA, -, hSt⟩ := C
  obtain ⟨q, hq⟩ := wl_get (cy := cy) (M := M) (R := R) ha
  rw [ce_0 (isK_knd ha)] at hq
  exact va_get (D := D) (ci := 0) (v := .int (gI M a 2)) (C := RX0) (T := TX0) (N := 7) hx hb hts inlX0 hown hK hP q hq rfl 2 (by decide) (hts _ hl) (fun _ h9 => h9) rfl hdg kk
theorem pe_0_2 {cy : Cy} {T : Ty} {M : Mm} {R : Rm} {a : Nat} {x : Int32} (ha : isK T a 0 = true) (y : Nat) : va_up (ce cy T M R) a (.inr (0, ([va_rf (R a 0), .int (M.1 a 1), .int (M.1 a 2), .int (M.1 a 3), .int (M.1 a 4), .int (M.1 a 5), .int (M.1 a 6)] : List Value).set 2 (.int x))) y = ce cy T (sI M a 2 x) R y := by
  have hk := isK_knd ha
  unfold va_up
  by_cases h : y = a
  · subst h
    rw [if_pos rfl, ce_0 hk]
    simp [sI, sJ, up2, va_rf]
  · rw [if_neg h]
    exact ce_congr (by first | rfl | exact up2_ne h) (by first | rfl | exact up2_ne h) (by first | rfl | exact up2_ne h)
theorem pf_0_2 {p : Program} {l : Launch} {e : Env} {Rr : Room} {s : State} {m : MethodId} {args : Array Value} {below : List Frame} {meth : Method} {c : Code} {H : Heap} {locs : List Loc} {cells slots : Nat} {Q : State → Prop} {cc : ByteArray} {pc : Nat} {ls : Array Slot} {rest : List Value} {D : va_G} {cy : Cy} {T : Ty} {M : Mm} {R : Rm} {A : Nat → Prop} {own : String} {n : Nat} {ret : Option FieldType} {index a : Nat} {x : Int32} (C : Cx own cc n ret p s m args meth c D cy A) (hP : va_P D vwCl (WL cy T M R) H) (hD : va_D A (WL cy T M R)) (hS : va_S A s.heap H locs) (ha : isK T a 0 = true) (hl : Cond.fieldLink own index "IceTongue$Band" "length" "I" ∈ GW) (hdg : decode cc pc = .ok (.putfield index, 3)) (kk : ∀ (M1 : Mm) (H1 : Heap) (locs1 : List Loc), M1 = sI M a 2 x → va_P D vwCl (WL cy T M1 R) H1 → va_D A (WL cy T M1 R) → va_S A s.heap H1 locs1 → W p l e Rr s m args below meth c H1 locs1 cells slots Q (F0 m (pc + 3) ls rest)) : W p l e Rr s m args below meth c H locs cells slots Q (F0 m pc ls (.int x :: .ref a :: rest)) := by
  obtain ⟨hx, hb, -, hml, hown, hts, hK, hA, -, hSt⟩ := C
  obtain ⟨q, hq⟩ := wl_get (cy := cy) (M := M) (R := R) ha
  have hq0 := hq
  rw [ce_0 (isK_knd ha)] at hq
  refine va_put (D := D) (ci := 0) (v := .int x) (ty := .int) (C := RX0) (T := TX0) (N := 7) hx hb hts inlX0 tyX0 tyX0_ok nmX0 hown hK hP hD hS q hq rfl 2 (by decide) (hts _ hl) (fun _ h9 => h9) rfl (by decide +kernel) rfl rfl (Nat.le_of_ble_eq_true rfl) hdg (fun H1 locs1 hP1 hD1 hS1 => ?_)
  rw [wl_set hD ha hq0 (pe_0_2 ha)] at hP1 hD1
  exact kk _ H1 locs1 rfl hP1 hD1 hS1
theorem gf_0_3 {p : Program} {l : Launch} {e : Env} {Rr : Room} {s : State} {m : MethodId} {args : Array Value} {below : List Frame} {meth : Method} {c : Code} {H : Heap} {locs : List Loc} {cells slots : Nat} {Q : State → Prop} {cc : ByteArray} {pc : Nat} {ls : Array Slot} {rest : List Value} {D : va_G} {cy : Cy} {T : Ty} {M : Mm} {R : Rm} {A : Nat → Prop} {own : String} {n : Nat} {ret : Option FieldType} {index a : Nat} (C : Cx own cc n ret p s m args meth c D cy A) (hP : va_P D vwCl (WL cy T M R) H) (ha : isK T a 0 = true) (hl : Cond.fieldLink own index "IceTongue$Band" "creep" "I" ∈ GW) (hdg : decode cc pc = .ok (.getfield index, 3)) (kk : W p l e Rr s m args below meth c H locs cells slots Q (F0 m (pc + 3) ls (.int (gI M a 3) :: rest))) : W p l e Rr s m args below meth c H locs cells slots Q (F0 m pc ls (.ref a :: rest)) := by
  obtain ⟨hx, hb, -, hml, hown, hts, hK, hA, -, hSt⟩ := C
  obtain ⟨q, hq⟩ := wl_get (cy := cy) (M := M) (R := R) ha
  rw [ce_0 (isK_knd ha)] at hq
  exact va_get (D := D) (ci := 0) (v := .int (gI M a 3)) (C := RX0) (T := TX0) (N := 7) hx hb hts inlX0 hown hK hP q hq rfl 3 (by decide) (hts _ hl) (fun _ h9 => h9) rfl hdg kk
theorem pe_0_3 {cy : Cy} {T : Ty} {M : Mm} {R : Rm} {a : Nat} {x : Int32} (ha : isK T a 0 = true) (y : Nat) : va_up (ce cy T M R) a (.inr (0, ([va_rf (R a 0), .int (M.1 a 1), .int (M.1 a 2), .int (M.1 a 3), .int (M.1 a 4), .int (M.1 a 5), .int (M.1 a 6)] : List Value).set 3 (.int x))) y = ce cy T (sI M a 3 x) R y := by
  have hk := isK_knd ha
  unfold va_up
  by_cases h : y = a
  · subst h
    rw [if_pos rfl, ce_0 hk]
    simp [sI, sJ, up2, va_rf]
  · rw [if_neg h]
    exact ce_congr (by first | rfl | exact up2_ne h) (by first | rfl | exact up2_ne h) (by first | rfl | exact up2_ne h)
theorem pf_0_3 {p : Program} {l : Launch} {e : Env} {Rr : Room} {s : State} {m : MethodId} {args : Array Value} {below : List Frame} {meth : Method} {c : Code} {H : Heap} {locs : List Loc} {cells slots : Nat} {Q : State → Prop} {cc : ByteArray} {pc : Nat} {ls : Array Slot} {rest : List Value} {D : va_G} {cy : Cy} {T : Ty} {M : Mm} {R : Rm} {A : Nat → Prop} {own : String} {n : Nat} {ret : Option FieldType} {index a : Nat} {x : Int32} (C : Cx own cc n ret p s m args meth c D cy A) (hP : va_P D vwCl (WL cy T M R) H) (hD : va_D A (WL cy T M R)) (hS : va_S A s.heap H locs) (ha : isK T a 0 = true) (hl : Cond.fieldLink own index "IceTongue$Band" "creep" "I" ∈ GW) (hdg : decode cc pc = .ok (.putfield index, 3)) (kk : ∀ (M1 : Mm) (H1 : Heap) (locs1 : List Loc), M1 = sI M a 3 x → va_P D vwCl (WL cy T M1 R) H1 → va_D A (WL cy T M1 R) → va_S A s.heap H1 locs1 → W p l e Rr s m args below meth c H1 locs1 cells slots Q (F0 m (pc + 3) ls rest)) : W p l e Rr s m args below meth c H locs cells slots Q (F0 m pc ls (.int x :: .ref a :: rest)) := by
  obtain ⟨hx, hb, -, hml, hown, hts, hK, hA, -, hSt⟩ := C
  obtain ⟨q, hq⟩ := wl_get (cy := cy) (M := M) (R := R) ha
  have hq0 := hq
  rw [ce_0 (isK_knd ha)] at hq
  refine va_put (D := D) (ci := 0) (v := .int x) (ty := .int) (C := RX0) (T := TX0) (N := 7) hx hb hts inlX0 tyX0 tyX0_ok nmX0 hown hK hP hD hS q hq rfl 3 (by decide) (hts _ hl) (fun _ h9 => h9) rfl (by decide +kernel) rfl rfl (Nat.le_of_ble_eq_true rfl) hdg (fun H1 locs1 hP1 hD1 hS1 => ?_)
  rw [wl_set hD ha hq0 (pe_0_3 ha)] at hP1 hD1
  exact kk _ H1 locs1 rfl hP1 hD1 hS1
theorem gf_0_4 {p : Program} {l : Launch} {e : Env} {Rr : Room} {s : State} {m : MethodId} {args : Array Value} {below : List Frame} {meth : Method} {c : Code} {H : Heap} {locs : List Loc} {cells slots : Nat} {Q : State → Prop} {cc : ByteArray} {pc : Nat} {ls : Array Slot} {rest : List Value} {D : va_G} {cy : Cy} {T : Ty} {M : Mm} {R : Rm} {A : Nat → Prop} {own : String} {n : Nat} {ret : Option FieldType} {index a : Nat} (C : Cx own cc n ret p s m args meth c D cy A) (hP : va_P D vwCl (WL cy T M R) H) (ha : isK T a 0 = true) (hl : Cond.fieldLink own index "IceTongue$Band" "melted" "I" ∈ GW) (hdg : decode cc pc = .ok (.getfield index, 3)) (kk : W p l e Rr s m args below meth c H locs cells slots Q (F0 m (pc + 3) ls (.int (gI M a 4) :: rest))) : W p l e Rr s m args below meth c H locs cells slots Q (F0 m pc ls (.ref a :: rest)) := by
  obtain ⟨hx, hb, -, hml, hown, hts, hK, hA, -, hSt⟩ := C
  obtain ⟨q, hq⟩ := wl_get (cy := cy) (M := M) (R := R) ha
  rw [ce_0 (isK_knd ha)] at hq
  exact va_get (D := D) (ci := 0) (v := .int (gI M a 4)) (C := RX0) (T := TX0) (N := 7) hx hb hts inlX0 hown hK hP q hq rfl 4 (by decide) (hts _ hl) (fun _ h9 => h9) rfl hdg kk
theorem pe_0_4 {cy : Cy} {T : Ty} {M : Mm} {R : Rm} {a : Nat} {x : Int32} (ha : isK T a 0 = true) (y : Nat) : va_up (ce cy T M R) a (.inr (0, ([va_rf (R a 0), .int (M.1 a 1), .int (M.1 a 2), .int (M.1 a 3), .int (M.1 a 4), .int (M.1 a 5), .int (M.1 a 6)] : List Value).set 4 (.int x))) y = ce cy T (sI M a 4 x) R y := by
  have hk := isK_knd ha
  unfold va_up
  by_cases h : y = a
  · subst h
    rw [if_pos rfl, ce_0 hk]
    simp [sI, sJ, up2, va_rf]
  · rw [if_neg h]
    exact ce_congr (by first | rfl | exact up2_ne h) (by first | rfl | exact up2_ne h) (by first | rfl | exact up2_ne h)
theorem pf_0_4 {p : Program} {l : Launch} {e : Env} {Rr : Room} {s : State} {m : MethodId} {args : Array Value} {below : List Frame} {meth : Method} {c : Code} {H : Heap} {locs : List Loc} {cells slots : Nat} {Q : State → Prop} {cc : ByteArray} {pc : Nat} {ls : Array Slot} {rest : List Value} {D : va_G} {cy : Cy} {T : Ty} {M : Mm} {R : Rm} {A : Nat → Prop} {own : String} {n : Nat} {ret : Option FieldType} {index a : Nat} {x : Int32} (C : Cx own cc n ret p s m args meth c D cy A) (hP : va_P D vwCl (WL cy T M R) H) (hD : va_D A (WL cy T M R)) (hS : va_S A s.heap H locs) (ha : isK T a 0 = true) (hl : Cond.fieldLink own index "IceTongue$Band" "melted" "I" ∈ GW) (hdg : decode cc pc = .ok (.putfield index, 3)) (kk : ∀ (M1 : Mm) (H1 : Heap) (locs1 : List Loc), M1 = sI M a 4 x → va_P D vwCl (WL cy T M1 R) H1 → va_D A (WL cy T M1 R) → va_S A s.heap H1 locs1 → W p l e Rr s m args below meth c H1 locs1 cells slots Q (F0 m (pc + 3) ls rest)) : W p l e Rr s m args below meth c H locs cells slots Q (F0 m pc ls (.int x :: .ref a :: rest)) := by
  obtain ⟨hx, hb, -, hml, hown, hts, hK, hA, -, hSt⟩ := C
  obtain ⟨q, hq⟩ := wl_get (cy := cy) (M := M) (R := R) ha
  have hq0 := hq
  rw [ce_0 (isK_knd ha)] at hq
  refine va_put (D := D) (ci := 0) (v := .int x) (ty := .int) (C := RX0) (T := TX0) (N := 7) hx hb hts inlX0 tyX0 tyX0_ok nmX0 hown hK hP hD hS q hq rfl 4 (by decide) (hts _ hl) (fun _ h9 => h9) rfl (by decide +kernel) rfl rfl (Nat.le_of_ble_eq_true rfl) hdg (fun H1 locs1 hP1 hD1 hS1 => ?_)
  rw [wl_set hD ha hq0 (pe_0_4 ha)] at hP1 hD1
  exact kk _ H1 locs1 rfl hP1 hD1 hS1
theorem gf_0_5 {p : Program} {l : Launch} {e : Env} {Rr : Room} {s : State} {m : MethodId} {args : Array Value} {below : List Frame} {meth : Method} {c : Code} {H : Heap} {locs : List Loc} {cells slots : Nat} {Q : State → Prop} {cc : ByteArray} {pc : Nat} {ls : Array Slot} {rest : List Value} {D : va_G} {cy : Cy} {T : Ty} {M : Mm} {R : Rm} {A : Nat → Prop} {own : String} {n : Nat} {ret : Option FieldType} {index a : Nat} (C : Cx own cc n ret p s m args meth c D cy A) (hP : va_P D vwCl (WL cy T M R) H) (ha : isK T a 0 = true) (hl : Cond.fieldLink own index "IceTongue$Band" "gave" "I" ∈ GW) (hdg : decode cc pc = .ok (.getfield index, 3)) (kk : W p l e Rr s m args below meth c H locs cells slots Q (F0 m (pc + 3) ls (.int (gI M a 5) :: rest))) : W p l e Rr s m args below meth c H locs cells slots Q (F0 m pc ls (.ref a :: rest)) := by
  obtain ⟨hx, hb, -, hml, hown, hts, hK, hA, -, hSt⟩ := C
  obtain ⟨q, hq⟩ := wl_get (cy := cy) (M := M) (R := R) ha
  rw [ce_0 (isK_knd ha)] at hq
  exact va_get (D := D) (ci := 0) (v := .int (gI M a 5)) (C := RX0) (T := TX0) (N := 7) hx hb hts inlX0 hown hK hP q hq rfl 5 (by decide) (hts _ hl) (fun _ h9 => h9) rfl hdg kk
theorem pe_0_5 {cy : Cy} {T : Ty} {M : Mm} {R : Rm} {a : Nat} {x : Int32} (ha : isK T a 0 = true) (y : Nat) : va_up (ce cy T M R) a (.inr (0, ([va_rf (R a 0), .int (M.1 a 1), .int (M.1 a 2), .int (M.1 a 3), .int (M.1 a 4), .int (M.1 a 5), .int (M.1 a 6)] : List Value).set 5 (.int x))) y = ce cy T (sI M a 5 x) R y := by
  have hk := isK_knd ha
  unfold va_up
  by_cases h : y = a
  · subst h
    rw [if_pos rfl, ce_0 hk]
    simp [sI, sJ, up2, va_rf]
  · rw [if_neg h]
    exact ce_congr (by first | rfl | exact up2_ne h) (by first | rfl | exact up2_ne h) (by first | rfl | exact up2_ne h)
theorem pf_0_5 {p : Program} {l : Launch} {e : Env} {Rr : Room} {s : State} {m : MethodId} {args : Array Value} {below : List Frame} {meth : Method} {c : Code} {H : Heap} {locs : List Loc} {cells slots : Nat} {Q : State → Prop} {cc : ByteArray} {pc : Nat} {ls : Array Slot} {rest : List Value} {D : va_G} {cy : Cy} {T : Ty} {M : Mm} {R : Rm} {A : Nat → Prop} {own : String} {n : Nat} {ret : Option FieldType} {index a : Nat} {x : Int32} (C : Cx own cc n ret p s m args meth c D cy A) (hP : va_P D vwCl (WL cy T M R) H) (hD : va_D A (WL cy T M R)) (hS : va_S A s.heap H locs) (ha : isK T a 0 = true) (hl : Cond.fieldLink own index "IceTongue$Band" "gave" "I" ∈ GW) (hdg : decode cc pc = .ok (.putfield index, 3)) (kk : ∀ (M1 : Mm) (H1 : Heap) (locs1 : List Loc), M1 = sI M a 5 x → va_P D vwCl (WL cy T M1 R) H1 → va_D A (WL cy T M1 R) → va_S A s.heap H1 locs1 → W p l e Rr s m args below meth c H1 locs1 cells slots Q (F0 m (pc + 3) ls rest)) : W p l e Rr s m args below meth c H locs cells slots Q (F0 m pc ls (.int x :: .ref a :: rest)) := by
  obtain ⟨hx, hb, -, hml, hown, hts, hK, hA, -, hSt⟩ := C
  obtain ⟨q, hq⟩ := wl_get (cy := cy) (M := M) (R := R) ha
  have hq0 := hq
  rw [ce_0 (isK_knd ha)] at hq
  refine va_put (D := D) (ci := 0) (v := .int x) (ty := .int) (C := RX0) (T := TX0) (N := 7) hx hb hts inlX0 tyX0 tyX0_ok nmX0 hown hK hP hD hS q hq rfl 5 (by decide) (hts _ hl) (fun _ h9 => h9) rfl (by decide +kernel) rfl rfl (Nat.le_of_ble_eq_true rfl) hdg (fun H1 locs1 hP1 hD1 hS1 => ?_)
  rw [wl_set hD ha hq0 (pe_0_5 ha)] at hP1 hD1
  exact kk _ H1 locs1 rfl hP1 hD1 hS1
theorem gf_0_6 {p : Program} {l : Launch} {e : Env} {Rr : Room} {s : State} {m : MethodId} {args : Array Value} {below : List Frame} {meth : Method} {c : Code} {H : Heap} {locs : List Loc} {cells slots : Nat} {Q : State → Prop} {cc : ByteArray} {pc : Nat} {ls : Array Slot} {rest : List Value} {D : va_G} {cy : Cy} {T : Ty} {M : Mm} {R : Rm} {A : Nat → Prop} {own : String} {n : Nat} {ret : Option FieldType} {index a : Nat} (C : Cx own cc n ret p s m args meth c D cy A) (hP : va_P D vwCl (WL cy T M R) H) (ha : isK T a 0 = true) (hl : Cond.fieldLink own index "IceTongue$Band" "got" "I" ∈ GW) (hdg : decode cc pc = .ok (.getfield index, 3)) (kk : W p l e Rr s m args below meth c H locs cells slots Q (F0 m (pc + 3) ls (.int (gI M a 6) :: rest))) : W p l e Rr s m args below meth c H locs cells slots Q (F0 m pc ls (.ref a :: rest)) := by
  obtain ⟨hx, hb, -, hml, hown, hts, hK, hA, -, hSt⟩ := C
  obtain ⟨q, hq⟩ := wl_get (cy := cy) (M := M) (R := R) ha
  rw [ce_0 (isK_knd ha)] at hq
  exact va_get (D := D) (ci := 0) (v := .int (gI M a 6)) (C := RX0) (T := TX0) (N := 7) hx hb hts inlX0 hown hK hP q hq rfl 6 (by decide) (hts _ hl) (fun _ h9 => h9) rfl hdg kk
theorem pe_0_6 {cy : Cy} {T : Ty} {M : Mm} {R : Rm} {a : Nat} {x : Int32} (ha : isK T a 0 = true) (y : Nat) : va_up (ce cy T M R) a (.inr (0, ([va_rf (R a 0), .int (M.1 a 1), .int (M.1 a 2), .int (M.1 a 3), .int (M.1 a 4), .int (M.1 a 5), .int (M.1 a 6)] : List Value).set 6 (.int x))) y = ce cy T (sI M a 6 x) R y := by
  have hk := isK_knd ha
  unfold va_up
  by_cases h : y = a
  · subst h
    rw [if_pos rfl, ce_0 hk]
    simp [sI, sJ, up2, va_rf]
  · rw [if_neg h]
    exact ce_congr (by first | rfl | exact up2_ne h) (by first | rfl | exact up2_ne h) (by first | rfl | exact up2_ne h)
theorem pf_0_6 {p : Program} {l : Launch} {e : Env} {Rr : Room} {s : State} {m : MethodId} {args : Array Value} {below : List Frame} {meth : Method} {c : Code} {H : Heap} {locs : List Loc} {cells slots : Nat} {Q : State → Prop} {cc : ByteArray} {pc : Nat} {ls : Array Slot} {rest : List Value} {D : va_G} {cy : Cy} {T : Ty} {M : Mm} {R : Rm} {A : Nat → Prop} {own : String} {n : Nat} {ret : Option FieldType} {index a : Nat} {x : Int32} (C : Cx own cc n ret p s m args meth c D cy A) (hP : va_P D vwCl (WL cy T M R) H) (hD : va_D A (WL cy T M R)) (hS : va_S A s.heap H locs) (ha : isK T a 0 = true) (hl : Cond.fieldLink own index "IceTongue$Band" "got" "I" ∈ GW) (hdg : decode cc pc = .ok (.putfield index, 3)) (kk : ∀ (M1 : Mm) (H1 : Heap) (locs1 : List Loc), M1 = sI M a 6 x → va_P D vwCl (WL cy T M1 R) H1 → va_D A (WL cy T M1 R) → va_S A s.heap H1 locs1 → W p l e Rr s m args below meth c H1 locs1 cells slots Q (F0 m (pc + 3) ls rest)) : W p l e Rr s m args below meth c H locs cells slots Q (F0 m pc ls (.int x :: .ref a :: rest)) := by
  obtain ⟨hx, hb, -, hml, hown, hts, hK, hA, -, hSt⟩ := C
  obtain ⟨q, hq⟩ := wl_get (cy := cy) (M := M) (R := R) ha
  have hq0 := hq
  rw [ce_0 (isK_knd ha)] at hq
  refine va_put (D := D) (ci := 0) (v := .int x) (ty := .int) (C := RX0) (T := TX0) (N := 7) hx hb hts inlX0 tyX0 tyX0_ok nmX0 hown hK hP hD hS q hq rfl 6 (by decide) (hts _ hl) (fun _ h9 => h9) rfl (by decide +kernel) rfl rfl (Nat.le_of_ble_eq_true rfl) hdg (fun H1 locs1 hP1 hD1 hS1 => ?_)
  rw [wl_set hD ha hq0 (pe_0_6 ha)] at hP1 hD1
  exact kk _ H1 locs1 rfl hP1 hD1 hS1
theorem gf_1_0 {p : Program} {l : Launch} {e : Env} {Rr : Room} {s : State} {m : MethodId} {args : Array Value} {below : List Frame} {meth : Method} {c : Code} {H : Heap} {locs : List Loc} {cells slots : Nat} {Q : State → Prop} {cc : ByteArray} {pc : Nat} {ls : Array Slot} {rest : List Value} {D : va_G} {cy : Cy} {T : Ty} {M : Mm} {R : Rm} {A : Nat → Prop} {own : String} {n : Nat} {ret : Option FieldType} {index a : Nat} (C : Cx own cc n ret p s m args meth c D cy A) (hP : va_P D vwCl (WL cy T M R) H) (ha : isK T a 1 = true) (hl : Cond.fieldLink own index "IceTongue$Front" "ice" "I" ∈ GW) (hdg : decode cc pc = .ok (.getfield index, 3)) (kk : W p l e Rr s m args below meth c H locs cells slots Q (F0 m (pc + 3) ls (.int (gI M a 0) :: rest))) : W p l e Rr s m args below meth c H locs cells slots Q (F0 m pc ls (.ref a :: rest)) := by
  obtain ⟨hx, hb, -, hml, hown, hts, hK, hA, -, hSt⟩ := C
  obtain ⟨q, hq⟩ := wl_get (cy := cy) (M := M) (R := R) ha
  rw [ce_1 (isK_knd ha)] at hq
  exact va_get (D := D) (ci := 1) (v := .int (gI M a 0)) (C := RX1) (T := TX1) (N := 4) hx hb hts inlX1 hown hK hP q hq rfl 0 (by decide) (hts _ hl) (fun _ h9 => h9) rfl hdg kk
theorem pe_1_0 {cy : Cy} {T : Ty} {M : Mm} {R : Rm} {a : Nat} {x : Int32} (ha : isK T a 1 = true) (y : Nat) : va_up (ce cy T M R) a (.inr (1, ([.int (M.1 a 0), .int (M.1 a 1), .int (M.1 a 2), .int (M.1 a 3)] : List Value).set 0 (.int x))) y = ce cy T (sI M a 0 x) R y := by
  have hk := isK_knd ha
  unfold va_up
  by_cases h : y = a
  · subst h
    rw [if_pos rfl, ce_1 hk]
    simp [sI, sJ, up2, va_rf]
  · rw [if_neg h]
    exact ce_congr (by first | rfl | exact up2_ne h) (by first | rfl | exact up2_ne h) (by first | rfl | exact up2_ne h)
theorem pf_1_0 {p : Program} {l : Launch} {e : Env} {Rr : Room} {s : State} {m : MethodId} {args : Array Value} {below : List Frame} {meth : Method} {c : Code} {H : Heap} {locs : List Loc} {cells slots : Nat} {Q : State → Prop} {cc : ByteArray} {pc : Nat} {ls : Array Slot} {rest : List Value} {D : va_G} {cy : Cy} {T : Ty} {M : Mm} {R : Rm} {A : Nat → Prop} {own : String} {n : Nat} {ret : Option FieldType} {index a : Nat} {x : Int32} (C : Cx own cc n ret p s m args meth c D cy A) (hP : va_P D vwCl (WL cy T M R) H) (hD : va_D A (WL cy T M R)) (hS : va_S A s.heap H locs) (ha : isK T a 1 = true) (hl : Cond.fieldLink own index "IceTongue$Front" "ice" "I" ∈ GW) (hdg : decode cc pc = .ok (.putfield index, 3)) (kk : ∀ (M1 : Mm) (H1 : Heap) (locs1 : List Loc), M1 = sI M a 0 x → va_P D vwCl (WL cy T M1 R) H1 → va_D A (WL cy T M1 R) → va_S A s.heap H1 locs1 → W p l e Rr s m args below meth c H1 locs1 cells slots Q (F0 m (pc + 3) ls rest)) : W p l e Rr s m args below meth c H locs cells slots Q (F0 m pc ls (.int x :: .ref a :: rest)) := by
  obtain ⟨hx, hb, -, hml, hown, hts, hK, hA, -, hSt⟩ := C
  obtain ⟨q, hq⟩ := wl_get (cy := cy) (M := M) (R := R) ha
  have hq0 := hq
  rw [ce_1 (isK_knd ha)] at hq
  refine va_put (D := D) (ci := 1) (v := .int x) (ty := .int) (C := RX1) (T := TX1) (N := 4) hx hb hts inlX1 tyX1 tyX1_ok nmX1 hown hK hP hD hS q hq rfl 0 (by decide) (hts _ hl) (fun _ h9 => h9) rfl (by decide +kernel) rfl rfl (Nat.le_of_ble_eq_true rfl) hdg (fun H1 locs1 hP1 hD1 hS1 => ?_)
  rw [wl_set hD ha hq0 (pe_1_0 ha)] at hP1 hD1
  exact kk _ H1 locs1 rfl hP1 hD1 hS1
theorem gf_1_1 {p : Program} {l : Launch} {e : Env} {Rr : Room} {s : State} {m : MethodId} {args : Array Value} {below : List Frame} {meth : Method} {c : Code} {H : Heap} {locs : List Loc} {cells slots : Nat} {Q : State → Prop} {cc : ByteArray} {pc : Nat} {ls : Array Slot} {rest : List Value} {D : va_G} {cy : Cy} {T : Ty} {M : Mm} {R : Rm} {A : Nat → Prop} {own : String} {n : Nat} {ret : Option FieldType} {index a : Nat} (C : Cx own cc n ret p s m args meth c D cy A) (hP : va_P D vwCl (WL cy T M R) H) (ha : isK T a 1 = true) (hl : Cond.fieldLink own index "IceTongue$Front" "rest" "I" ∈ GW) (hdg : decode cc pc = .ok (.getfield index, 3)) (kk : W p l e Rr s m args below meth c H locs cells slots Q (F0 m (pc + 3) ls (.int (gI M a 1) :: rest))) : W p l e Rr s m args below meth c H locs cells slots Q (F0 m pc ls (.ref a :: rest)) := by
  obtain ⟨hx, hb, -, hml, hown, hts, hK, hA, -, hSt⟩ := C
  obtain ⟨q, hq⟩ := wl_get (cy := cy) (M := M) (R := R) ha
  rw [ce_1 (isK_knd ha)] at hq
  exact va_get (D := D) (ci := 1) (v := .int (gI M a 1)) (C := RX1) (T := TX1) (N := 4) hx hb hts inlX1 hown hK hP q hq rfl 1 (by decide) (hts _ hl) (fun _ h9 => h9) rfl hdg kk
theorem pe_1_1 {cy : Cy} {T : Ty} {M : Mm} {R : Rm} {a : Nat} {x : Int32} (ha : isK T a 1 = true) (y : Nat) : va_up (ce cy T M R) a (.inr (1, ([.int (M.1 a 0), .int (M.1 a 1), .int (M.1 a 2), .int (M.1 a 3)] : List Value).set 1 (.int x))) y = ce cy T (sI M a 1 x) R y := by
  have hk := isK_knd ha
  unfold va_up
  by_cases h : y = a
  · subst h
    rw [if_pos rfl, ce_1 hk]
    simp [sI, sJ, up2, va_rf]
  · rw [if_neg h]
    exact ce_congr (by first | rfl | exact up2_ne h) (by first | rfl | exact up2_ne h) (by first | rfl | exact up2_ne h)
theorem pf_1_1 {p : Program} {l : Launch} {e : Env} {Rr : Room} {s : State} {m : MethodId} {args : Array Value} {below : List Frame} {meth : Method} {c : Code} {H : Heap} {locs : List Loc} {cells slots : Nat} {Q : State → Prop} {cc : ByteArray} {pc : Nat} {ls : Array Slot} {rest : List Value} {D : va_G} {cy : Cy} {T : Ty} {M : Mm} {R : Rm} {A : Nat → Prop} {own : String} {n : Nat} {ret : Option FieldType} {index a : Nat} {x : Int32} (C : Cx own cc n ret p s m args meth c D cy A) (hP : va_P D vwCl (WL cy T M R) H) (hD : va_D A (WL cy T M R)) (hS : va_S A s.heap H locs) (ha : isK T a 1 = true) (hl : Cond.fieldLink own index "IceTongue$Front" "rest" "I" ∈ GW) (hdg : decode cc pc = .ok (.putfield index, 3)) (kk : ∀ (M1 : Mm) (H1 : Heap) (locs1 : List Loc), M1 = sI M a 1 x → va_P D vwCl (WL cy T M1 R) H1 → va_D A (WL cy T M1 R) → va_S A s.heap H1 locs1 → W p l e Rr s m args below meth c H1 locs1 cells slots Q (F0 m (pc + 3) ls rest)) : W p l e Rr s m args below meth c H locs cells slots Q (F0 m pc ls (.int x :: .ref a :: rest)) := by
  obtain ⟨hx, hb, -, hml, hown, hts, hK, hA, -, hSt⟩ := C
  obtain ⟨q, hq⟩ := wl_get (cy := cy) (M := M) (R := R) ha
  have hq0 := hq
  rw [ce_1 (isK_knd ha)] at hq
  refine va_put (D := D) (ci := 1) (v := .int x) (ty := .int) (C := RX1) (T := TX1) (N := 4) hx hb hts inlX1 tyX1 tyX1_ok nmX1 hown hK hP hD hS q hq rfl 1 (by decide) (hts _ hl) (fun _ h9 => h9) rfl (by decide +kernel) rfl rfl (Nat.le_of_ble_eq_true rfl) hdg (fun H1 locs1 hP1 hD1 hS1 => ?_)
  rw [wl_set hD ha hq0 (pe_1_1 ha)] at hP1 hD1
  exact kk _ H1 locs1 rfl hP1 hD1 hS1
theorem gf_1_2 {p : Program} {l : Launch} {e : Env} {Rr : Room} {s : State} {m : MethodId} {args : Array Value} {below : List Frame} {meth : Method} {c : Code} {H : Heap} {locs : List Loc} {cells slots : Nat} {Q : State → Prop} {cc : ByteArray} {pc : Nat} {ls : Array Slot} {rest : List Value} {D : va_G} {cy : Cy} {T : Ty} {M : Mm} {R : Rm} {A : Nat → Prop} {own : String} {n : Nat} {ret : Option FieldType} {index a : Nat} (C : Cx own cc n ret p s m args meth c D cy A) (hP : va_P D vwCl (WL cy T M R) H) (ha : isK T a 1 = true) (hl : Cond.fieldLink own index "IceTongue$Front" "pieces" "I" ∈ GW) (hdg : decode cc pc = .ok (.getfield index, 3)) (kk : W p l e Rr s m args below meth c H locs cells slots Q (F0 m (pc + 3) ls (.int (gI M a 2) :: rest))) : W p l e Rr s m args below meth c H locs cells slots Q (F0 m pc ls (.ref a :: rest)) := by
  obtain ⟨hx, hb, -, hml, hown, hts, hK, hA, -, hSt⟩ := C
  obtain ⟨q, hq⟩ := wl_get (cy := cy) (M := M) (R := R) ha
  rw [ce_1 (isK_knd ha)] at hq
  exact va_get (D := D) (ci := 1) (v := .int (gI M a 2)) (C := RX1) (T := TX1) (N := 4) hx hb hts inlX1 hown hK hP q hq rfl 2 (by decide) (hts _ hl) (fun _ h9 => h9) rfl hdg kk
theorem pe_1_2 {cy : Cy} {T : Ty} {M : Mm} {R : Rm} {a : Nat} {x : Int32} (ha : isK T a 1 = true) (y : Nat) : va_up (ce cy T M R) a (.inr (1, ([.int (M.1 a 0), .int (M.1 a 1), .int (M.1 a 2), .int (M.1 a 3)] : List Value).set 2 (.int x))) y = ce cy T (sI M a 2 x) R y := by
  have hk := isK_knd ha
  unfold va_up
  by_cases h : y = a
  · subst h
    rw [if_pos rfl, ce_1 hk]
    simp [sI, sJ, up2, va_rf]
  · rw [if_neg h]
    exact ce_congr (by first | rfl | exact up2_ne h) (by first | rfl | exact up2_ne h) (by first | rfl | exact up2_ne h)
theorem pf_1_2 {p : Program} {l : Launch} {e : Env} {Rr : Room} {s : State} {m : MethodId} {args : Array Value} {below : List Frame} {meth : Method} {c : Code} {H : Heap} {locs : List Loc} {cells slots : Nat} {Q : State → Prop} {cc : ByteArray} {pc : Nat} {ls : Array Slot} {rest : List Value} {D : va_G} {cy : Cy} {T : Ty} {M : Mm} {R : Rm} {A : Nat → Prop} {own : String} {n : Nat} {ret : Option FieldType} {index a : Nat} {x : Int32} (C : Cx own cc n ret p s m args meth c D cy A) (hP : va_P D vwCl (WL cy T M R) H) (hD : va_D A (WL cy T M R)) (hS : va_S A s.heap H locs) (ha : isK T a 1 = true) (hl : Cond.fieldLink own index "IceTongue$Front" "pieces" "I" ∈ GW) (hdg : decode cc pc = .ok (.putfield index, 3)) (kk : ∀ (M1 : Mm) (H1 : Heap) (locs1 : List Loc), M1 = sI M a 2 x → va_P D vwCl (WL cy T M1 R) H1 → va_D A (WL cy T M1 R) → va_S A s.heap H1 locs1 → W p l e Rr s m args below meth c H1 locs1 cells slots Q (F0 m (pc + 3) ls rest)) : W p l e Rr s m args below meth c H locs cells slots Q (F0 m pc ls (.int x :: .ref a :: rest)) := by
  obtain ⟨hx, hb, -, hml, hown, hts, hK, hA, -, hSt⟩ := C
  obtain ⟨q, hq⟩ := wl_get (cy := cy) (M := M) (R := R) ha
  have hq0 := hq
  rw [ce_1 (isK_knd ha)] at hq
  refine va_put (D := D) (ci := 1) (v := .int x) (ty := .int) (C := RX1) (T := TX1) (N := 4) hx hb hts inlX1 tyX1 tyX1_ok nmX1 hown hK hP hD hS q hq rfl 2 (by decide) (hts _ hl) (fun _ h9 => h9) rfl (by decide +kernel) rfl rfl (Nat.le_of_ble_eq_true rfl) hdg (fun H1 locs1 hP1 hD1 hS1 => ?_)
  rw [wl_set hD ha hq0 (pe_1_2 ha)] at hP1 hD1
  exact kk _ H1 locs1 rfl hP1 hD1 hS1
theorem gf_1_3 {p : Program} {l : Launch} {e : Env} {Rr : Room} {s : State} {m : MethodId} {args : Array Value} {below : List Frame} {meth : Method} {c : Code} {H : Heap} {locs : List Loc} {cells slots : Nat} {Q : State → Prop} {cc : ByteArray} {pc : Nat} {ls : Array Slot} {rest : List Value} {D : va_G} {cy : Cy} {T : Ty} {M : Mm} {R : Rm} {A : Nat → Prop} {own : String} {n : Nat} {ret : Option FieldType} {index a : Nat} (C : Cx own cc n ret p s m args meth c D cy A) (hP : va_P D vwCl (WL cy T M R) H) (ha : isK T a 1 = true) (hl : Cond.fieldLink own index "IceTongue$Front" "latestCalving" "I" ∈ GW) (hdg : decode cc pc = .ok (.getfield index, 3)) (kk : W p l e Rr s m args below meth c H locs cells slots Q (F0 m (pc + 3) ls (.int (gI M a 3) :: rest))) : W p l e Rr s m args below meth c H locs cells slots Q (F0 m pc ls (.ref a :: rest)) := by
  obtain ⟨hx, hb, -, hml, hown, hts, hK, hA, -, hSt⟩ := C
  obtain ⟨q, hq⟩ := wl_get (cy := cy) (M := M) (R := R) ha
  rw [ce_1 (isK_knd ha)] at hq
  exact va_get (D := D) (ci := 1) (v := .int (gI M a 3)) (C := RX1) (T := TX1) (N := 4) hx hb hts inlX1 hown hK hP q hq rfl 3 (by decide) (hts _ hl) (fun _ h9 => h9) rfl hdg kk
theorem pe_1_3 {cy : Cy} {T : Ty} {M : Mm} {R : Rm} {a : Nat} {x : Int32} (ha : isK T a 1 = true) (y : Nat) : va_up (ce cy T M R) a (.inr (1, ([.int (M.1 a 0), .int (M.1 a 1), .int (M.1 a 2), .int (M.1 a 3)] : List Value).set 3 (.int x))) y = ce cy T (sI M a 3 x) R y := by
  have hk := isK_knd ha
  unfold va_up
  by_cases h : y = a
  · subst h
    rw [if_pos rfl, ce_1 hk]
    simp [sI, sJ, up2, va_rf]
  · rw [if_neg h]
    exact ce_congr (by first | rfl | exact up2_ne h) (by first | rfl | exact up2_ne h) (by first | rfl | exact up2_ne h)
theorem pf_1_3 {p : Program} {l : Launch} {e : Env} {Rr : Room} {s : State} {m : MethodId} {args : Array Value} {below : List Frame} {meth : Method} {c : Code} {H : Heap} {locs : List Loc} {cells slots : Nat} {Q : State → Prop} {cc : ByteArray} {pc : Nat} {ls : Array Slot} {rest : List Value} {D : va_G} {cy : Cy} {T : Ty} {M : Mm} {R : Rm} {A : Nat → Prop} {own : String} {n : Nat} {ret : Option FieldType} {index a : Nat} {x : Int32} (C : Cx own cc n ret p s m args meth c D cy A) (hP : va_P D vwCl (WL cy T M R) H) (hD : va_D A (WL cy T M R)) (hS : va_S A s.heap H locs) (ha : isK T a 1 = true) (hl : Cond.fieldLink own index "IceTongue$Front" "latestCalving" "I" ∈ GW) (hdg : decode cc pc = .ok (.putfield index, 3)) (kk : ∀ (M1 : Mm) (H1 : Heap) (locs1 : List Loc), M1 = sI M a 3 x → va_P D vwCl (WL cy T M1 R) H1 → va_D A (WL cy T M1 R) → va_S A s.heap H1 locs1 → W p l e Rr s m args below meth c H1 locs1 cells slots Q (F0 m (pc + 3) ls rest)) : W p l e Rr s m args below meth c H locs cells slots Q (F0 m pc ls (.int x :: .ref a :: rest)) := by
  obtain ⟨hx, hb, -, hml, hown, hts, hK, hA, -, hSt⟩ := C
  obtain ⟨q, hq⟩ := wl_get (cy := cy) (M := M) (R := R) ha
  have hq0 := hq
  rw [ce_1 (isK_knd ha)] at hq
  refine va_put (D := D) (ci := 1) (v := .int x) (ty := .int) (C := RX1) (T := TX1) (N := 4) hx hb hts inlX1 tyX1 tyX1_ok nmX1 hown hK hP hD hS q hq rfl 3 (by decide) (hts _ hl) (fun _ h9 => h9) rfl (by decide +kernel) rfl rfl (Nat.le_of_ble_eq_true rfl) hdg (fun H1 locs1 hP1 hD1 hS1 => ?_)
  rw [wl_set hD ha hq0 (pe_1_3 ha)] at hP1 hD1
  exact kk _ H1 locs1 rfl hP1 hD1 hS1
theorem gf_2_0 {p : Program} {l : Launch} {e : Env} {Rr : Room} {s : State} {m : MethodId} {args : Array Value} {below : List Frame} {meth : Method} {c : Code} {H : Heap} {locs : List Loc} {cells slots : Nat} {Q : State → Prop} {cc : ByteArray} {pc : Nat} {ls : Array Slot} {rest : List Value} {D : va_G} {cy : Cy} {T : Ty} {M : Mm} {R : Rm} {A : Nat → Prop} {own : String} {n : Nat} {ret : Option FieldType} {index a : Nat} (C : Cx own cc n ret p s m args meth c D cy A) (hP : va_P D vwCl (WL cy T M R) H) (ha : isK T a 2 = true) {b : Nat} (eb : R a 0 = some b) (hl : Cond.fieldLink own index "IceTongue$Layers" "left" "[I" ∈ GW) (hdg : decode cc pc = .ok (.getfield index, 3)) (kk : W p l e Rr s m args below meth c H locs cells slots Q (F0 m (pc + 3) ls (.ref b :: rest))) : W p l e Rr s m args below meth c H locs cells slots Q (F0 m pc ls (.ref a :: rest)) := by
  obtain ⟨hx, hb, -, hml, hown, hts, hK, hA, -, hSt⟩ := C
  obtain ⟨q, hq⟩ := wl_get (cy := cy) (M := M) (R := R) ha
  rw [ce_2 (isK_knd ha)] at hq
  exact va_get (D := D) (ci := 2) (v := .ref b) (C := RX2) (T := TX2) (N := 4) hx hb hts inlX2 hown hK hP q hq rfl 0 (by decide) (hts _ hl) (fun _ h9 => h9) (show some (va_rf (R a 0)) = some (.ref b) from by rw [eb]; rfl) hdg kk
theorem pe_2_0 {cy : Cy} {T : Ty} {M : Mm} {R : Rm} {a : Nat} {b : Nat} (ha : isK T a 2 = true) (y : Nat) : va_up (ce cy T M R) a (.inr (2, ([va_rf (R a 0), .int (M.1 a 1), .int (M.1 a 2), .int (M.1 a 3)] : List Value).set 0 (.ref b))) y = ce cy T M (up2 R a 0 (some b)) y := by
  have hk := isK_knd ha
  unfold va_up
  by_cases h : y = a
  · subst h
    rw [if_pos rfl, ce_2 hk]
    simp [sI, sJ, up2, va_rf]
  · rw [if_neg h]
    exact ce_congr (by first | rfl | exact up2_ne h) (by first | rfl | exact up2_ne h) (by first | rfl | exact up2_ne h)
theorem pf_2_0 {p : Program} {l : Launch} {e : Env} {Rr : Room} {s : State} {m : MethodId} {args : Array Value} {below : List Frame} {meth : Method} {c : Code} {H : Heap} {locs : List Loc} {cells slots : Nat} {Q : State → Prop} {cc : ByteArray} {pc : Nat} {ls : Array Slot} {rest : List Value} {D : va_G} {cy : Cy} {T : Ty} {M : Mm} {R : Rm} {A : Nat → Prop} {own : String} {n : Nat} {ret : Option FieldType} {index a : Nat} {b : Nat} (C : Cx own cc n ret p s m args meth c D cy A) (hP : va_P D vwCl (WL cy T M R) H) (hD : va_D A (WL cy T M R)) (hS : va_S A s.heap H locs) (ha : isK T a 2 = true) (hl : Cond.fieldLink own index "IceTongue$Layers" "left" "[I" ∈ GW) (hin : meth.name = "<init>") (hO : (TX2 0).1 = own) (hdg : decode cc pc = .ok (.putfield index, 3)) (kk : ∀ (R1 : Rm) (H1 : Heap) (locs1 : List Loc), R1 = up2 R a 0 (some b) → va_P D vwCl (WL cy T M R1) H1 → va_D A (WL cy T M R1) → va_S A s.heap H1 locs1 → W p l e Rr s m args below meth c H1 locs1 cells slots Q (F0 m (pc + 3) ls rest)) : W p l e Rr s m args below meth c H locs cells slots Q (F0 m pc ls (.ref b :: .ref a :: rest)) := by
  obtain ⟨hx, hb, -, hml, hown, hts, hK, hA, -, hSt⟩ := C
  obtain ⟨q, hq⟩ := wl_get (cy := cy) (M := M) (R := R) ha
  have hq0 := hq
  rw [ce_2 (isK_knd ha)] at hq
  refine va_putF (D := D) (ci := 2) (v := .ref b) (ty := (tyX2 0)) (C := RX2) (T := TX2) (N := 4) hx hb hts inlX2 tyX2 tyX2_ok nmX2 hown hK hP hD hS q hq rfl 0 (by decide) (hts _ hl) (fun _ h9 => h9) rfl hin hO (by decide +kernel) rfl rfl (Nat.le_of_ble_eq_true rfl) hdg (fun H1 locs1 hP1 hD1 hS1 => ?_)
  rw [wl_set hD ha hq0 (pe_2_0 ha)] at hP1 hD1
  exact kk _ H1 locs1 rfl hP1 hD1 hS1
theorem gf_2_1 {p : Program} {l : Launch} {e : Env} {Rr : Room} {s : State} {m : MethodId} {args : Array Value} {below : List Frame} {meth : Method} {c : Code} {H : Heap} {locs : List Loc} {cells slots : Nat} {Q : State → Prop} {cc : ByteArray} {pc : Nat} {ls : Array Slot} {rest : List Value} {D : va_G} {cy : Cy} {T : Ty} {M : Mm} {R : Rm} {A : Nat → Prop} {own : String} {n : Nat} {ret : Option FieldType} {index a : Nat} (C : Cx own cc n ret p s m args meth c D cy A) (hP : va_P D vwCl (WL cy T M R) H) (ha : isK T a 2 = true) (hl : Cond.fieldLink own index "IceTongue$Layers" "ice" "I" ∈ GW) (hdg : decode cc pc = .ok (.getfield index, 3)) (kk : W p l e Rr s m args below meth c H locs cells slots Q (F0 m (pc + 3) ls (.int (gI M a 1) :: rest))) : W p l e Rr s m args below meth c H locs cells slots Q (F0 m pc ls (.ref a :: rest)) := by
  obtain ⟨hx, hb, -, hml, hown, hts, hK, hA, -, hSt⟩ := C
  obtain ⟨q, hq⟩ := wl_get (cy := cy) (M := M) (R := R) ha
  rw [ce_2 (isK_knd ha)] at hq
  exact va_get (D := D) (ci := 2) (v := .int (gI M a 1)) (C := RX2) (T := TX2) (N := 4) hx hb hts inlX2 hown hK hP q hq rfl 1 (by decide) (hts _ hl) (fun _ h9 => h9) rfl hdg kk
theorem pe_2_1 {cy : Cy} {T : Ty} {M : Mm} {R : Rm} {a : Nat} {x : Int32} (ha : isK T a 2 = true) (y : Nat) : va_up (ce cy T M R) a (.inr (2, ([va_rf (R a 0), .int (M.1 a 1), .int (M.1 a 2), .int (M.1 a 3)] : List Value).set 1 (.int x))) y = ce cy T (sI M a 1 x) R y := by
  have hk := isK_knd ha
  unfold va_up
  by_cases h : y = a
  · subst h
    rw [if_pos rfl, ce_2 hk]
    simp [sI, sJ, up2, va_rf]
  · rw [if_neg h]
    exact ce_congr (by first | rfl | exact up2_ne h) (by first | rfl | exact up2_ne h) (by first | rfl | exact up2_ne h)
theorem pf_2_1 {p : Program} {l : Launch} {e : Env} {Rr : Room} {s : State} {m : MethodId} {args : Array Value} {below : List Frame} {meth : Method} {c : Code} {H : Heap} {locs : List Loc} {cells slots : Nat} {Q : State → Prop} {cc : ByteArray} {pc : Nat} {ls : Array Slot} {rest : List Value} {D : va_G} {cy : Cy} {T : Ty} {M : Mm} {R : Rm} {A : Nat → Prop} {own : String} {n : Nat} {ret : Option FieldType} {index a : Nat} {x : Int32} (C : Cx own cc n ret p s m args meth c D cy A) (hP : va_P D vwCl (WL cy T M R) H) (hD : va_D A (WL cy T M R)) (hS : va_S A s.heap H locs) (ha : isK T a 2 = true) (hl : Cond.fieldLink own index "IceTongue$Layers" "ice" "I" ∈ GW) (hdg : decode cc pc = .ok (.putfield index, 3)) (kk : ∀ (M1 : Mm) (H1 : Heap) (locs1 : List Loc), M1 = sI M a 1 x → va_P D vwCl (WL cy T M1 R) H1 → va_D A (WL cy T M1 R) → va_S A s.heap H1 locs1 → W p l e Rr s m args below meth c H1 locs1 cells slots Q (F0 m (pc + 3) ls rest)) : W p l e Rr s m args below meth c H locs cells slots Q (F0 m pc ls (.int x :: .ref a :: rest)) := by
  obtain ⟨hx, hb, -, hml, hown, hts, hK, hA, -, hSt⟩ := C
  obtain ⟨q, hq⟩ := wl_get (cy := cy) (M := M) (R := R) ha
  have hq0 := hq
  rw [ce_2 (isK_knd ha)] at hq
  refine va_put (D := D) (ci := 2) (v := .int x) (ty := .int) (C := RX2) (T := TX2) (N := 4) hx hb hts inlX2 tyX2 tyX2_ok nmX2 hown hK hP hD hS q hq rfl 1 (by decide) (hts _ hl) (fun _ h9 => h9) rfl (by decide +kernel) rfl rfl (Nat.le_of_ble_eq_true rfl) hdg (fun H1 locs1 hP1 hD1 hS1 => ?_)
  rw [wl_set hD ha hq0 (pe_2_1 ha)] at hP1 hD1
  exact kk _ H1 locs1 rfl hP1 hD1 hS1
theorem gf_2_2 {p : Program} {l : Launch} {e : Env} {Rr : Room} {s : State} {m : MethodId} {args : Array Value} {below : List Frame} {meth : Method} {c : Code} {H : Heap} {locs : List Loc} {cells slots : Nat} {Q : State → Prop} {cc : ByteArray} {pc : Nat} {ls : Array Slot} {rest : List Value} {D : va_G} {cy : Cy} {T : Ty} {M : Mm} {R : Rm} {A : Nat → Prop} {own : String} {n : Nat} {ret : Option FieldType} {index a : Nat} (C : Cx own cc n ret p s m args meth c D cy A) (hP : va_P D vwCl (WL cy T M R) H) (ha : isK T a 2 = true) (hl : Cond.fieldLink own index "IceTongue$Layers" "oldest" "I" ∈ GW) (hdg : decode cc pc = .ok (.getfield index, 3)) (kk : W p l e Rr s m args below meth c H locs cells slots Q (F0 m (pc + 3) ls (.int (gI M a 2) :: rest))) : W p l e Rr s m args below meth c H locs cells slots Q (F0 m pc ls (.ref a :: rest)) := by
  obtain ⟨hx, hb, -, hml, hown, hts, hK, hA, -, hSt⟩ := C
  obtain ⟨q, hq⟩ := wl_get (cy := cy) (M := M) (R := R) ha
  rw [ce_2 (isK_knd ha)] at hq
  exact va_get (D := D) (ci := 2) (v := .int (gI M a 2)) (C := RX2) (T := TX2) (N := 4) hx hb hts inlX2 hown hK hP q hq rfl 2 (by decide) (hts _ hl) (fun _ h9 => h9) rfl hdg kk
theorem pe_2_2 {cy : Cy} {T : Ty} {M : Mm} {R : Rm} {a : Nat} {x : Int32} (ha : isK T a 2 = true) (y : Nat) : va_up (ce cy T M R) a (.inr (2, ([va_rf (R a 0), .int (M.1 a 1), .int (M.1 a 2), .int (M.1 a 3)] : List Value).set 2 (.int x))) y = ce cy T (sI M a 2 x) R y := by
  have hk := isK_knd ha
  unfold va_up
  by_cases h : y = a
  · subst h
    rw [if_pos rfl, ce_2 hk]
    simp [sI, sJ, up2, va_rf]
  · rw [if_neg h]
    exact ce_congr (by first | rfl | exact up2_ne h) (by first | rfl | exact up2_ne h) (by first | rfl | exact up2_ne h)
theorem pf_2_2 {p : Program} {l : Launch} {e : Env} {Rr : Room} {s : State} {m : MethodId} {args : Array Value} {below : List Frame} {meth : Method} {c : Code} {H : Heap} {locs : List Loc} {cells slots : Nat} {Q : State → Prop} {cc : ByteArray} {pc : Nat} {ls : Array Slot} {rest : List Value} {D : va_G} {cy : Cy} {T : Ty} {M : Mm} {R : Rm} {A : Nat → Prop} {own : String} {n : Nat} {ret : Option FieldType} {index a : Nat} {x : Int32} (C : Cx own cc n ret p s m args meth c D cy A) (hP : va_P D vwCl (WL cy T M R) H) (hD : va_D A (WL cy T M R)) (hS : va_S A s.heap H locs) (ha : isK T a 2 = true) (hl : Cond.fieldLink own index "IceTongue$Layers" "oldest" "I" ∈ GW) (hdg : decode cc pc = .ok (.putfield index, 3)) (kk : ∀ (M1 : Mm) (H1 : Heap) (locs1 : List Loc), M1 = sI M a 2 x → va_P D vwCl (WL cy T M1 R) H1 → va_D A (WL cy T M1 R) → va_S A s.heap H1 locs1 → W p l e Rr s m args below meth c H1 locs1 cells slots Q (F0 m (pc + 3) ls rest)) : W p l e Rr s m args below meth c H locs cells slots Q (F0 m pc ls (.int x :: .ref a :: rest)) := by
  obtain ⟨hx, hb, -, hml, hown, hts, hK, hA, -, hSt⟩ := C
  obtain ⟨q, hq⟩ := wl_get (cy := cy) (M := M) (R := R) ha
  have hq0 := hq
  rw [ce_2 (isK_knd ha)] at hq
  refine va_put (D := D) (ci := 2) (v := .int x) (ty := .int) (C := RX2) (T := TX2) (N := 4) hx hb hts inlX2 tyX2 tyX2_ok nmX2 hown hK hP hD hS q hq rfl 2 (by decide) (hts _ hl) (fun _ h9 => h9) rfl (by decide +kernel) rfl rfl (Nat.le_of_ble_eq_true rfl) hdg (fun H1 locs1 hP1 hD1 hS1 => ?_)
  rw [wl_set hD ha hq0 (pe_2_2 ha)] at hP1 hD1
  exact kk _ H1 locs1 rfl hP1 hD1 hS1
theorem gf_2_3 {p : Program} {l : Launch} {e : Env} {Rr : Room} {s : State} {m : MethodId} {args : Array Value} {below : List Frame} {meth : Method} {c : Code} {H : Heap} {locs : List Loc} {cells slots : Nat} {Q : State → Prop} {cc : ByteArray} {pc : Nat} {ls : Array Slot} {rest : List Value} {D : va_G} {cy : Cy} {T : Ty} {M : Mm} {R : Rm} {A : Nat → Prop} {own : String} {n : Nat} {ret : Option FieldType} {index a : Nat} (C : Cx own cc n ret p s m args meth c D cy A) (hP : va_P D vwCl (WL cy T M R) H) (ha : isK T a 2 = true) (hl : Cond.fieldLink own index "IceTongue$Layers" "latest" "I" ∈ GW) (hdg : decode cc pc = .ok (.getfield index, 3)) (kk : W p l e Rr s m args below meth c H locs cells slots Q (F0 m (pc + 3) ls (.int (gI M a 3) :: rest))) : W p l e Rr s m args below meth c H locs cells slots Q (F0 m pc ls (.ref a :: rest)) := by
  obtain ⟨hx, hb, -, hml, hown, hts, hK, hA, -, hSt⟩ := C
  obtain ⟨q, hq⟩ := wl_get (cy := cy) (M := M) (R := R) ha
  rw [ce_2 (isK_knd ha)] at hq
  exact va_get (D := D) (ci := 2) (v := .int (gI M a 3)) (C := RX2) (T := TX2) (N := 4) hx hb hts inlX2 hown hK hP q hq rfl 3 (by decide) (hts _ hl) (fun _ h9 => h9) rfl hdg kk
theorem pe_2_3 {cy : Cy} {T : Ty} {M : Mm} {R : Rm} {a : Nat} {x : Int32} (ha : isK T a 2 = true) (y : Nat) : va_up (ce cy T M R) a (.inr (2, ([va_rf (R a 0), .int (M.1 a 1), .int (M.1 a 2), .int (M.1 a 3)] : List Value).set 3 (.int x))) y = ce cy T (sI M a 3 x) R y := by
  have hk := isK_knd ha
  unfold va_up
  by_cases h : y = a
  · subst h
    rw [if_pos rfl, ce_2 hk]
    simp [sI, sJ, up2, va_rf]
  · rw [if_neg h]
    exact ce_congr (by first | rfl | exact up2_ne h) (by first | rfl | exact up2_ne h) (by first | rfl | exact up2_ne h)
theorem pf_2_3 {p : Program} {l : Launch} {e : Env} {Rr : Room} {s : State} {m : MethodId} {args : Array Value} {below : List Frame} {meth : Method} {c : Code} {H : Heap} {locs : List Loc} {cells slots : Nat} {Q : State → Prop} {cc : ByteArray} {pc : Nat} {ls : Array Slot} {rest : List Value} {D : va_G} {cy : Cy} {T : Ty} {M : Mm} {R : Rm} {A : Nat → Prop} {own : String} {n : Nat} {ret : Option FieldType} {index a : Nat} {x : Int32} (C : Cx own cc n ret p s m args meth c D cy A) (hP : va_P D vwCl (WL cy T M R) H) (hD : va_D A (WL cy T M R)) (hS : va_S A s.heap H locs) (ha : isK T a 2 = true) (hl : Cond.fieldLink own index "IceTongue$Layers" "latest" "I" ∈ GW) (hdg : decode cc pc = .ok (.putfield index, 3)) (kk : ∀ (M1 : Mm) (H1 : Heap) (locs1 : List Loc), M1 = sI M a 3 x → va_P D vwCl (WL cy T M1 R) H1 → va_D A (WL cy T M1 R) → va_S A s.heap H1 locs1 → W p l e Rr s m args below meth c H1 locs1 cells slots Q (F0 m (pc + 3) ls rest)) : W p l e Rr s m args below meth c H locs cells slots Q (F0 m pc ls (.int x :: .ref a :: rest)) := by
  obtain ⟨hx, hb, -, hml, hown, hts, hK, hA, -, hSt⟩ := C
  obtain ⟨q, hq⟩ := wl_get (cy := cy) (M := M) (R := R) ha
  have hq0 := hq
  rw [ce_2 (isK_knd ha)] at hq
  refine va_put (D := D) (ci := 2) (v := .int x) (ty := .int) (C := RX2) (T := TX2) (N := 4) hx hb hts inlX2 tyX2 tyX2_ok nmX2 hown hK hP hD hS q hq rfl 3 (by decide) (hts _ hl) (fun _ h9 => h9) rfl (by decide +kernel) rfl rfl (Nat.le_of_ble_eq_true rfl) hdg (fun H1 locs1 hP1 hD1 hS1 => ?_)
  rw [wl_set hD ha hq0 (pe_2_3 ha)] at hP1 hD1
  exact kk _ H1 locs1 rfl hP1 hD1 hS1
theorem gf_3_0 {p : Program} {l : Launch} {e : Env} {Rr : Room} {s : State} {m : MethodId} {args : Array Value} {below : List Frame} {meth : Method} {c : Code} {H : Heap} {locs : List Loc} {cells slots : Nat} {Q : State → Prop} {cc : ByteArray} {pc : Nat} {ls : Array Slot} {rest : List Value} {D : va_G} {cy : Cy} {T : Ty} {M : Mm} {R : Rm} {A : Nat → Prop} {own : String} {n : Nat} {ret : Option FieldType} {index a : Nat} (C : Cx own cc n ret p s m args meth c D cy A) (hP : va_P D vwCl (WL cy T M R) H) (ha : isK T a 3 = true) (hl : Cond.fieldLink own index "IceTongue$Stake" "band" "I" ∈ GW) (hdg : decode cc pc = .ok (.getfield index, 3)) (kk : W p l e Rr s m args below meth c H locs cells slots Q (F0 m (pc + 3) ls (.int (gI M a 0) :: rest))) : W p l e Rr s m args below meth c H locs cells slots Q (F0 m pc ls (.ref a :: rest)) := by
  obtain ⟨hx, hb, -, hml, hown, hts, hK, hA, -, hSt⟩ := C
  obtain ⟨q, hq⟩ := wl_get (cy := cy) (M := M) (R := R) ha
  rw [ce_3 (isK_knd ha)] at hq
  exact va_get (D := D) (ci := 3) (v := .int (gI M a 0)) (C := RX3) (T := TX3) (N := 6) hx hb hts inlX3 hown hK hP q hq rfl 0 (by decide) (hts _ hl) (fun _ h9 => h9) rfl hdg kk
theorem pe_3_0 {cy : Cy} {T : Ty} {M : Mm} {R : Rm} {a : Nat} {x : Int32} (ha : isK T a 3 = true) (y : Nat) : va_up (ce cy T M R) a (.inr (3, ([.int (M.1 a 0), .int (M.1 a 1), .int (M.1 a 2), .int (M.1 a 3), .int (M.1 a 4), .int (M.1 a 5)] : List Value).set 0 (.int x))) y = ce cy T (sI M a 0 x) R y := by
  have hk := isK_knd ha
  unfold va_up
  by_cases h : y = a
  · subst h
    rw [if_pos rfl, ce_3 hk]
    simp [sI, sJ, up2, va_rf]
  · rw [if_neg h]
    exact ce_congr (by first | rfl | exact up2_ne h) (by first | rfl | exact up2_ne h) (by first | rfl | exact up2_ne h)
theorem pf_3_0 {p : Program} {l : Launch} {e : Env} {Rr : Room} {s : State} {m : MethodId} {args : Array Value} {below : List Frame} {meth : Method} {c : Code} {H : Heap} {locs : List Loc} {cells slots : Nat} {Q : State → Prop} {cc : ByteArray} {pc : Nat} {ls : Array Slot} {rest : List Value} {D : va_G} {cy : Cy} {T : Ty} {M : Mm} {R : Rm} {A : Nat → Prop} {own : String} {n : Nat} {ret : Option FieldType} {index a : Nat} {x : Int32} (C : Cx own cc n ret p s m args meth c D cy A) (hP : va_P D vwCl (WL cy T M R) H) (hD : va_D A (WL cy T M R)) (hS : va_S A s.heap H locs) (ha : isK T a 3 = true) (hl : Cond.fieldLink own index "IceTongue$Stake" "band" "I" ∈ GW) (hdg : decode cc pc = .ok (.putfield index, 3)) (kk : ∀ (M1 : Mm) (H1 : Heap) (locs1 : List Loc), M1 = sI M a 0 x → va_P D vwCl (WL cy T M1 R) H1 → va_D A (WL cy T M1 R) → va_S A s.heap H1 locs1 → W p l e Rr s m args below meth c H1 locs1 cells slots Q (F0 m (pc + 3) ls rest)) : W p l e Rr s m args below meth c H locs cells slots Q (F0 m pc ls (.int x :: .ref a :: rest)) := by
  obtain ⟨hx, hb, -, hml, hown, hts, hK, hA, -, hSt⟩ := C
  obtain ⟨q, hq⟩ := wl_get (cy := cy) (M := M) (R := R) ha
  have hq0 := hq
  rw [ce_3 (isK_knd ha)] at hq
  refine va_put (D := D) (ci := 3) (v := .int x) (ty := .int) (C := RX3) (T := TX3) (N := 6) hx hb hts inlX3 tyX3 tyX3_ok nmX3 hown hK hP hD hS q hq rfl 0 (by decide) (hts _ hl) (fun _ h9 => h9) rfl (by decide +kernel) rfl rfl (Nat.le_of_ble_eq_true rfl) hdg (fun H1 locs1 hP1 hD1 hS1 => ?_)
  rw [wl_set hD ha hq0 (pe_3_0 ha)] at hP1 hD1
  exact kk _ H1 locs1 rfl hP1 hD1 hS1
theorem gf_3_1 {p : Program} {l : Launch} {e : Env} {Rr : Room} {s : State} {m : MethodId} {args : Array Value} {below : List Frame} {meth : Method} {c : Code} {H : Heap} {locs : List Loc} {cells slots : Nat} {Q : State → Prop} {cc : ByteArray} {pc : Nat} {ls : Array Slot} {rest : List Value} {D : va_G} {cy : Cy} {T : Ty} {M : Mm} {R : Rm} {A : Nat → Prop} {own : String} {n : Nat} {ret : Option FieldType} {index a : Nat} (C : Cx own cc n ret p s m args meth c D cy A) (hP : va_P D vwCl (WL cy T M R) H) (ha : isK T a 3 = true) (hl : Cond.fieldLink own index "IceTongue$Stake" "place" "I" ∈ GW) (hdg : decode cc pc = .ok (.getfield index, 3)) (kk : W p l e Rr s m args below meth c H locs cells slots Q (F0 m (pc + 3) ls (.int (gI M a 1) :: rest))) : W p l e Rr s m args below meth c H locs cells slots Q (F0 m pc ls (.ref a :: rest)) := by
  obtain ⟨hx, hb, -, hml, hown, hts, hK, hA, -, hSt⟩ := C
  obtain ⟨q, hq⟩ := wl_get (cy := cy) (M := M) (R := R) ha
  rw [ce_3 (isK_knd ha)] at hq
  exact va_get (D := D) (ci := 3) (v := .int (gI M a 1)) (C := RX3) (T := TX3) (N := 6) hx hb hts inlX3 hown hK hP q hq rfl 1 (by decide) (hts _ hl) (fun _ h9 => h9) rfl hdg kk
theorem pe_3_1 {cy : Cy} {T : Ty} {M : Mm} {R : Rm} {a : Nat} {x : Int32} (ha : isK T a 3 = true) (y : Nat) : va_up (ce cy T M R) a (.inr (3, ([.int (M.1 a 0), .int (M.1 a 1), .int (M.1 a 2), .int (M.1 a 3), .int (M.1 a 4), .int (M.1 a 5)] : List Value).set 1 (.int x))) y = ce cy T (sI M a 1 x) R y := by
  have hk := isK_knd ha
  unfold va_up
  by_cases h : y = a
  · subst h
    rw [if_pos rfl, ce_3 hk]
    simp [sI, sJ, up2, va_rf]
  · rw [if_neg h]
    exact ce_congr (by first | rfl | exact up2_ne h) (by first | rfl | exact up2_ne h) (by first | rfl | exact up2_ne h)
theorem pf_3_1 {p : Program} {l : Launch} {e : Env} {Rr : Room} {s : State} {m : MethodId} {args : Array Value} {below : List Frame} {meth : Method} {c : Code} {H : Heap} {locs : List Loc} {cells slots : Nat} {Q : State → Prop} {cc : ByteArray} {pc : Nat} {ls : Array Slot} {rest : List Value} {D : va_G} {cy : Cy} {T : Ty} {M : Mm} {R : Rm} {A : Nat → Prop} {own : String} {n : Nat} {ret : Option FieldType} {index a : Nat} {x : Int32} (C : Cx own cc n ret p s m args meth c D cy A) (hP : va_P D vwCl (WL cy T M R) H) (hD : va_D A (WL cy T M R)) (hS : va_S A s.heap H locs) (ha : isK T a 3 = true) (hl : Cond.fieldLink own index "IceTongue$Stake" "place" "I" ∈ GW) (hdg : decode cc pc = .ok (.putfield index, 3)) (kk : ∀ (M1 : Mm) (H1 : Heap) (locs1 : List Loc), M1 = sI M a 1 x → va_P D vwCl (WL cy T M1 R) H1 → va_D A (WL cy T M1 R) → va_S A s.heap H1 locs1 → W p l e Rr s m args below meth c H1 locs1 cells slots Q (F0 m (pc + 3) ls rest)) : W p l e Rr s m args below meth c H locs cells slots Q (F0 m pc ls (.int x :: .ref a :: rest)) := by
  obtain ⟨hx, hb, -, hml, hown, hts, hK, hA, -, hSt⟩ := C
  obtain ⟨q, hq⟩ := wl_get (cy := cy) (M := M) (R := R) ha
  have hq0 := hq
  rw [ce_3 (isK_knd ha)] at hq
  refine va_put (D := D) (ci := 3) (v := .int x) (ty := .int) (C := RX3) (T := TX3) (N := 6) hx hb hts inlX3 tyX3 tyX3_ok nmX3 hown hK hP hD hS q hq rfl 1 (by decide) (hts _ hl) (fun _ h9 => h9) rfl (by decide +kernel) rfl rfl (Nat.le_of_ble_eq_true rfl) hdg (fun H1 locs1 hP1 hD1 hS1 => ?_)
  rw [wl_set hD ha hq0 (pe_3_1 ha)] at hP1 hD1
  exact kk _ H1 locs1 rfl hP1 hD1 hS1
theorem gf_3_2 {p : Program} {l : Launch} {e : Env} {Rr : Room} {s : State} {m : MethodId} {args : Array Value} {below : List Frame} {meth : Method} {c : Code} {H : Heap} {locs : List Loc} {cells slots : Nat} {Q : State → Prop} {cc : ByteArray} {pc : Nat} {ls : Array Slot} {rest : List Value} {D : va_G} {cy : Cy} {T : Ty} {M : Mm} {R : Rm} {A : Nat → Prop} {own : String} {n : Nat} {ret : Option FieldType} {index a : Nat} (C : Cx own cc n ret p s m args meth c D cy A) (hP : va_P D vwCl (WL cy T M R) H) (ha : isK T a 3 = true) (hl : Cond.fieldLink own index "IceTongue$Stake" "depth" "I" ∈ GW) (hdg : decode cc pc = .ok (.getfield index, 3)) (kk : W p l e Rr s m args below meth c H locs cells slots Q (F0 m (pc + 3) ls (.int (gI M a 2) :: rest))) : W p l e Rr s m args below meth c H locs cells slots Q (F0 m pc ls (.ref a :: rest)) := by
  obtain ⟨hx, hb, -, hml, hown, hts, hK, hA, -, hSt⟩ := C
  obtain ⟨q, hq⟩ := wl_get (cy := cy) (M := M) (R := R) ha
  rw [ce_3 (isK_knd ha)] at hq
  exact va_get (D := D) (ci := 3) (v := .int (gI M a 2)) (C := RX3) (T := TX3) (N := 6) hx hb hts inlX3 hown hK hP q hq rfl 2 (by decide) (hts _ hl) (fun _ h9 => h9) rfl hdg kk
theorem pe_3_2 {cy : Cy} {T : Ty} {M : Mm} {R : Rm} {a : Nat} {x : Int32} (ha : isK T a 3 = true) (y : Nat) : va_up (ce cy T M R) a (.inr (3, ([.int (M.1 a 0), .int (M.1 a 1), .int (M.1 a 2), .int (M.1 a 3), .int (M.1 a 4), .int (M.1 a 5)] : List Value).set 2 (.int x))) y = ce cy T (sI M a 2 x) R y := by
  have hk := isK_knd ha
  unfold va_up
  by_cases h : y = a
  · subst h
    rw [if_pos rfl, ce_3 hk]
    simp [sI, sJ, up2, va_rf]
  · rw [if_neg h]
    exact ce_congr (by first | rfl | exact up2_ne h) (by first | rfl | exact up2_ne h) (by first | rfl | exact up2_ne h)
theorem pf_3_2 {p : Program} {l : Launch} {e : Env} {Rr : Room} {s : State} {m : MethodId} {args : Array Value} {below : List Frame} {meth : Method} {c : Code} {H : Heap} {locs : List Loc} {cells slots : Nat} {Q : State → Prop} {cc : ByteArray} {pc : Nat} {ls : Array Slot} {rest : List Value} {D : va_G} {cy : Cy} {T : Ty} {M : Mm} {R : Rm} {A : Nat → Prop} {own : String} {n : Nat} {ret : Option FieldType} {index a : Nat} {x : Int32} (C : Cx own cc n ret p s m args meth c D cy A) (hP : va_P D vwCl (WL cy T M R) H) (hD : va_D A (WL cy T M R)) (hS : va_S A s.heap H locs) (ha : isK T a 3 = true) (hl : Cond.fieldLink own index "IceTongue$Stake" "depth" "I" ∈ GW) (hdg : decode cc pc = .ok (.putfield index, 3)) (kk : ∀ (M1 : Mm) (H1 : Heap) (locs1 : List Loc), M1 = sI M a 2 x → va_P D vwCl (WL cy T M1 R) H1 → va_D A (WL cy T M1 R) → va_S A s.heap H1 locs1 → W p l e Rr s m args below meth c H1 locs1 cells slots Q (F0 m (pc + 3) ls rest)) : W p l e Rr s m args below meth c H locs cells slots Q (F0 m pc ls (.int x :: .ref a :: rest)) := by
  obtain ⟨hx, hb, -, hml, hown, hts, hK, hA, -, hSt⟩ := C
  obtain ⟨q, hq⟩ := wl_get (cy := cy) (M := M) (R := R) ha
  have hq0 := hq
  rw [ce_3 (isK_knd ha)] at hq
  refine va_put (D := D) (ci := 3) (v := .int x) (ty := .int) (C := RX3) (T := TX3) (N := 6) hx hb hts inlX3 tyX3 tyX3_ok nmX3 hown hK hP hD hS q hq rfl 2 (by decide) (hts _ hl) (fun _ h9 => h9) rfl (by decide +kernel) rfl rfl (Nat.le_of_ble_eq_true rfl) hdg (fun H1 locs1 hP1 hD1 hS1 => ?_)
  rw [wl_set hD ha hq0 (pe_3_2 ha)] at hP1 hD1
  exact kk _ H1 locs1 rfl hP1 hD1 hS1
theorem gf_3_3 {p : Program} {l : Launch} {e : Env} {Rr : Room} {s : State} {m : MethodId} {args : Array Value} {below : List Frame} {meth : Method} {c : Code} {H : Heap} {locs : List Loc} {cells slots : Nat} {Q : State → Prop} {cc : ByteArray} {pc : Nat} {ls : Array Slot} {rest : List Value} {D : va_G} {cy : Cy} {T : Ty} {M : Mm} {R : Rm} {A : Nat → Prop} {own : String} {n : Nat} {ret : Option FieldType} {index a : Nat} (C : Cx own cc n ret p s m args meth c D cy A) (hP : va_P D vwCl (WL cy T M R) H) (ha : isK T a 3 = true) (hl : Cond.fieldLink own index "IceTongue$Stake" "change" "I" ∈ GW) (hdg : decode cc pc = .ok (.getfield index, 3)) (kk : W p l e Rr s m args below meth c H locs cells slots Q (F0 m (pc + 3) ls (.int (gI M a 3) :: rest))) : W p l e Rr s m args below meth c H locs cells slots Q (F0 m pc ls (.ref a :: rest)) := by
  obtain ⟨hx, hb, -, hml, hown, hts, hK, hA, -, hSt⟩ := C
  obtain ⟨q, hq⟩ := wl_get (cy := cy) (M := M) (R := R) ha
  rw [ce_3 (isK_knd ha)] at hq
  exact va_get (D := D) (ci := 3) (v := .int (gI M a 3)) (C := RX3) (T := TX3) (N := 6) hx hb hts inlX3 hown hK hP q hq rfl 3 (by decide) (hts _ hl) (fun _ h9 => h9) rfl hdg kk
theorem pe_3_3 {cy : Cy} {T : Ty} {M : Mm} {R : Rm} {a : Nat} {x : Int32} (ha : isK T a 3 = true) (y : Nat) : va_up (ce cy T M R) a (.inr (3, ([.int (M.1 a 0), .int (M.1 a 1), .int (M.1 a 2), .int (M.1 a 3), .int (M.1 a 4), .int (M.1 a 5)] : List Value).set 3 (.int x))) y = ce cy T (sI M a 3 x) R y := by
  have hk := isK_knd ha
  unfold va_up
  by_cases h : y = a
  · subst h
    rw [if_pos rfl, ce_3 hk]
    simp [sI, sJ, up2, va_rf]
  · rw [if_neg h]
    exact ce_congr (by first | rfl | exact up2_ne h) (by first | rfl | exact up2_ne h) (by first | rfl | exact up2_ne h)
theorem pf_3_3 {p : Program} {l : Launch} {e : Env} {Rr : Room} {s : State} {m : MethodId} {args : Array Value} {below : List Frame} {meth : Method} {c : Code} {H : Heap} {locs : List Loc} {cells slots : Nat} {Q : State → Prop} {cc : ByteArray} {pc : Nat} {ls : Array Slot} {rest : List Value} {D : va_G} {cy : Cy} {T : Ty} {M : Mm} {R : Rm} {A : Nat → Prop} {own : String} {n : Nat} {ret : Option FieldType} {index a : Nat} {x : Int32} (C : Cx own cc n ret p s m args meth c D cy A) (hP : va_P D vwCl (WL cy T M R) H) (hD : va_D A (WL cy T M R)) (hS : va_S A s.heap H locs) (ha : isK T a 3 = true) (hl : Cond.fieldLink own index "IceTongue$Stake" "change" "I" ∈ GW) (hdg : decode cc pc = .ok (.putfield index, 3)) (kk : ∀ (M1 : Mm) (H1 : Heap) (locs1 : List Loc), M1 = sI M a 3 x → va_P D vwCl (WL cy T M1 R) H1 → va_D A (WL cy T M1 R) → va_S A s.heap H1 locs1 → W p l e Rr s m args below meth c H1 locs1 cells slots Q (F0 m (pc + 3) ls rest)) : W p l e Rr s m args below meth c H locs cells slots Q (F0 m pc ls (.int x :: .ref a :: rest)) := by
  obtain ⟨hx, hb, -, hml, hown, hts, hK, hA, -, hSt⟩ := C
  obtain ⟨q, hq⟩ := wl_get (cy := cy) (M := M) (R := R) ha
  have hq0 := hq
  rw [ce_3 (isK_knd ha)] at hq
  refine va_put (D := D) (ci := 3) (v := .int x) (ty := .int) (C := RX3) (T := TX3) (N := 6) hx hb hts inlX3 tyX3 tyX3_ok nmX3 hown hK hP hD hS q hq rfl 3 (by decide) (hts _ hl) (fun _ h9 => h9) rfl (by decide +kernel) rfl rfl (Nat.le_of_ble_eq_true rfl) hdg (fun H1 locs1 hP1 hD1 hS1 => ?_)
  rw [wl_set hD ha hq0 (pe_3_3 ha)] at hP1 hD1
  exact kk _ H1 locs1 rfl hP1 hD1 hS1
theorem gf_3_4 {p : Program} {l : Launch} {e : Env} {Rr : Room} {s : State} {m : MethodId} {args : Array Value} {below : List Frame} {meth : Method} {c : Code} {H : Heap} {locs : List Loc} {cells slots : Nat} {Q : State → Prop} {cc : ByteArray} {pc : Nat} {ls : Array Slot} {rest : List Value} {D : va_G} {cy : Cy} {T : Ty} {M : Mm} {R : Rm} {A : Nat → Prop} {own : String} {n : Nat} {ret : Option FieldType} {index a : Nat} (C : Cx own cc n ret p s m args meth c D cy A) (hP : va_P D vwCl (WL cy T M R) H) (ha : isK T a 3 = true) (hl : Cond.fieldLink own index "IceTongue$Stake" "fate" "I" ∈ GW) (hdg : decode cc pc = .ok (.getfield index, 3)) (kk : W p l e Rr s m args below meth c H locs cells slots Q (F0 m (pc + 3) ls (.int (gI M a 4) :: rest))) : W p l e Rr s m args below meth c H locs cells slots Q (F0 m pc ls (.ref a :: rest)) := by
  obtain ⟨hx, hb, -, hml, hown, hts, hK, hA, -, hSt⟩ := C
  obtain ⟨q, hq⟩ := wl_get (cy := cy) (M := M) (R := R) ha
  rw [ce_3 (isK_knd ha)] at hq
  exact va_get (D := D) (ci := 3) (v := .int (gI M a 4)) (C := RX3) (T := TX3) (N := 6) hx hb hts inlX3 hown hK hP q hq rfl 4 (by decide) (hts _ hl) (fun _ h9 => h9) rfl hdg kk
theorem pe_3_4 {cy : Cy} {T : Ty} {M : Mm} {R : Rm} {a : Nat} {x : Int32} (ha : isK T a 3 = true) (y : Nat) : va_up (ce cy T M R) a (.inr (3, ([.int (M.1 a 0), .int (M.1 a 1), .int (M.1 a 2), .int (M.1 a 3), .int (M.1 a 4), .int (M.1 a 5)] : List Value).set 4 (.int x))) y = ce cy T (sI M a 4 x) R y := by
  have hk := isK_knd ha
  unfold va_up
  by_cases h : y = a
  · subst h
    rw [if_pos rfl, ce_3 hk]
    simp [sI, sJ, up2, va_rf]
  · rw [if_neg h]
    exact ce_congr (by first | rfl | exact up2_ne h) (by first | rfl | exact up2_ne h) (by first | rfl | exact up2_ne h)
theorem pf_3_4 {p : Program} {l : Launch} {e : Env} {Rr : Room} {s : State} {m : MethodId} {args : Array Value} {below : List Frame} {meth : Method} {c : Code} {H : Heap} {locs : List Loc} {cells slots : Nat} {Q : State → Prop} {cc : ByteArray} {pc : Nat} {ls : Array Slot} {rest : List Value} {D : va_G} {cy : Cy} {T : Ty} {M : Mm} {R : Rm} {A : Nat → Prop} {own : String} {n : Nat} {ret : Option FieldType} {index a : Nat} {x : Int32} (C : Cx own cc n ret p s m args meth c D cy A) (hP : va_P D vwCl (WL cy T M R) H) (hD : va_D A (WL cy T M R)) (hS : va_S A s.heap H locs) (ha : isK T a 3 = true) (hl : Cond.fieldLink own index "IceTongue$Stake" "fate" "I" ∈ GW) (hdg : decode cc pc = .ok (.putfield index, 3)) (kk : ∀ (M1 : Mm) (H1 : Heap) (locs1 : List Loc), M1 = sI M a 4 x → va_P D vwCl (WL cy T M1 R) H1 → va_D A (WL cy T M1 R) → va_S A s.heap H1 locs1 → W p l e Rr s m args below meth c H1 locs1 cells slots Q (F0 m (pc + 3) ls rest)) : W p l e Rr s m args below meth c H locs cells slots Q (F0 m pc ls (.int x :: .ref a :: rest)) := by
  obtain ⟨hx, hb, -, hml, hown, hts, hK, hA, -, hSt⟩ := C
  obtain ⟨q, hq⟩ := wl_get (cy := cy) (M := M) (R := R) ha
  have hq0 := hq
  rw [ce_3 (isK_knd ha)] at hq
  refine va_put (D := D) (ci := 3) (v := .int x) (ty := .int) (C := RX3) (T := TX3) (N := 6) hx hb hts inlX3 tyX3 tyX3_ok nmX3 hown hK hP hD hS q hq rfl 4 (by decide) (hts _ hl) (fun _ h9 => h9) rfl (by decide +kernel) rfl rfl (Nat.le_of_ble_eq_true rfl) hdg (fun H1 locs1 hP1 hD1 hS1 => ?_)
  rw [wl_set hD ha hq0 (pe_3_4 ha)] at hP1 hD1
  exact kk _ H1 locs1 rfl hP1 hD1 hS1
theorem gf_3_5 {p : Program} {l : Launch} {e : Env} {Rr : Room} {s : State} {m : MethodId} {args : Array Value} {below : List Frame} {meth : Method} {c : Code} {H : Heap} {locs : List Loc} {cells slots : Nat} {Q : State → Prop} {cc : ByteArray} {pc : Nat} {ls : Array Slot} {rest : List Value} {D : va_G} {cy : Cy} {T : Ty} {M : Mm} {R : Rm} {A : Nat → Prop} {own : String} {n : Nat} {ret : Option FieldType} {index a : Nat} (C : Cx own cc n ret p s m args meth c D cy A) (hP : va_P D vwCl (WL cy T M R) H) (ha : isK T a 3 = true) (hl : Cond.fieldLink own index "IceTongue$Stake" "years" "I" ∈ GW) (hdg : decode cc pc = .ok (.getfield index, 3)) (kk : W p l e Rr s m args below meth c H locs cells slots Q (F0 m (pc + 3) ls (.int (gI M a 5) :: rest))) : W p l e Rr s m args below meth c H locs cells slots Q (F0 m pc ls (.ref a :: rest)) := by
  obtain ⟨hx, hb, -, hml, hown, hts, hK, hA, -, hSt⟩ := C
  obtain ⟨q, hq⟩ := wl_get (cy := cy) (M := M) (R := R) ha
  rw [ce_3 (isK_knd ha)] at hq
  exact va_get (D := D) (ci := 3) (v := .int (gI M a 5)) (C := RX3) (T := TX3) (N := 6) hx hb hts inlX3 hown hK hP q hq rfl 5 (by decide) (hts _ hl) (fun _ h9 => h9) rfl hdg kk
theorem pe_3_5 {cy : Cy} {T : Ty} {M : Mm} {R : Rm} {a : Nat} {x : Int32} (ha : isK T a 3 = true) (y : Nat) : va_up (ce cy T M R) a (.inr (3, ([.int (M.1 a 0), .int (M.1 a 1), .int (M.1 a 2), .int (M.1 a 3), .int (M.1 a 4), .int (M.1 a 5)] : List Value).set 5 (.int x))) y = ce cy T (sI M a 5 x) R y := by
  have hk := isK_knd ha
  unfold va_up
  by_cases h : y = a
  · subst h
    rw [if_pos rfl, ce_3 hk]
    simp [sI, sJ, up2, va_rf]
  · rw [if_neg h]
    exact ce_congr (by first | rfl | exact up2_ne h) (by first | rfl | exact up2_ne h) (by first | rfl | exact up2_ne h)
theorem pf_3_5 {p : Program} {l : Launch} {e : Env} {Rr : Room} {s : State} {m : MethodId} {args : Array Value} {below : List Frame} {meth : Method} {c : Code} {H : Heap} {locs : List Loc} {cells slots : Nat} {Q : State → Prop} {cc : ByteArray} {pc : Nat} {ls : Array Slot} {rest : List Value} {D : va_G} {cy : Cy} {T : Ty} {M : Mm} {R : Rm} {A : Nat → Prop} {own : String} {n : Nat} {ret : Option FieldType} {index a : Nat} {x : Int32} (C : Cx own cc n ret p s m args meth c D cy A) (hP : va_P D vwCl (WL cy T M R) H) (hD : va_D A (WL cy T M R)) (hS : va_S A s.heap H locs) (ha : isK T a 3 = true) (hl : Cond.fieldLink own index "IceTongue$Stake" "years" "I" ∈ GW) (hdg : decode cc pc = .ok (.putfield index, 3)) (kk : ∀ (M1 : Mm) (H1 : Heap) (locs1 : List Loc), M1 = sI M a 5 x → va_P D vwCl (WL cy T M1 R) H1 → va_D A (WL cy T M1 R) → va_S A s.heap H1 locs1 → W p l e Rr s m args below meth c H1 locs1 cells slots Q (F0 m (pc + 3) ls rest)) : W p l e Rr s m args below meth c H locs cells slots Q (F0 m pc ls (.int x :: .ref a :: rest)) := by
  obtain ⟨hx, hb, -, hml, hown, hts, hK, hA, -, hSt⟩ := C
  obtain ⟨q, hq⟩ := wl_get (cy := cy) (M := M) (R := R) ha
  have hq0 := hq
  rw [ce_3 (isK_knd ha)] at hq
  refine va_put (D := D) (ci := 3) (v := .int x) (ty := .int) (C := RX3) (T := TX3) (N := 6) hx hb hts inlX3 tyX3 tyX3_ok nmX3 hown hK hP hD hS q hq rfl 5 (by decide) (hts _ hl) (fun _ h9 => h9) rfl (by decide +kernel) rfl rfl (Nat.le_of_ble_eq_true rfl) hdg (fun H1 locs1 hP1 hD1 hS1 => ?_)
  rw [wl_set hD ha hq0 (pe_3_5 ha)] at hP1 hD1
  exact kk _ H1 locs1 rfl hP1 hD1 hS1
theorem gf_4_0 {p : Program} {l : Launch} {e : Env} {Rr : Room} {s : State} {m : MethodId} {args : Array Value} {below : List Frame} {meth : Method} {c : Code} {H : Heap} {locs : List Loc} {cells slots : Nat} {Q : State → Prop} {cc : ByteArray} {pc : Nat} {ls : Array Slot} {rest : List Value} {D : va_G} {cy : Cy} {T : Ty} {M : Mm} {R : Rm} {A : Nat → Prop} {own : String} {n : Nat} {ret : Option FieldType} {index a : Nat} (C : Cx own cc n ret p s m args meth c D cy A) (hP : va_P D vwCl (WL cy T M R) H) (ha : isK T a 4 = true) {b : Nat} (eb : R a 0 = some b) (hl : Cond.fieldLink own index "IceTongue$Text" "signs" "[C" ∈ GW) (hdg : decode cc pc = .ok (.getfield index, 3)) (kk : W p l e Rr s m args below meth c H locs cells slots Q (F0 m (pc + 3) ls (.ref b :: rest))) : W p l e Rr s m args below meth c H locs cells slots Q (F0 m pc ls (.ref a :: rest)) := by
  obtain ⟨hx, hb, -, hml, hown, hts, hK, hA, -, hSt⟩ := C
  obtain ⟨q, hq⟩ := wl_get (cy := cy) (M := M) (R := R) ha
  rw [ce_4 (isK_knd ha)] at hq
  exact va_get (D := D) (ci := 4) (v := .ref b) (C := RX4) (T := TX4) (N := 2) hx hb hts inlX4 hown hK hP q hq rfl 0 (by decide) (hts _ hl) (fun _ h9 => h9) (show some (va_rf (R a 0)) = some (.ref b) from by rw [eb]; rfl) hdg kk
theorem pe_4_0 {cy : Cy} {T : Ty} {M : Mm} {R : Rm} {a : Nat} {b : Nat} (ha : isK T a 4 = true) (y : Nat) : va_up (ce cy T M R) a (.inr (4, ([va_rf (R a 0), .int (M.1 a 1)] : List Value).set 0 (.ref b))) y = ce cy T M (up2 R a 0 (some b)) y := by
  have hk := isK_knd ha
  unfold va_up
  by_cases h : y = a
  · subst h
    rw [if_pos rfl, ce_4 hk]
    simp [sI, sJ, up2, va_rf]
  · rw [if_neg h]
    exact ce_congr (by first | rfl | exact up2_ne h) (by first | rfl | exact up2_ne h) (by first | rfl | exact up2_ne h)
theorem pf_4_0 {p : Program} {l : Launch} {e : Env} {Rr : Room} {s : State} {m : MethodId} {args : Array Value} {below : List Frame} {meth : Method} {c : Code} {H : Heap} {locs : List Loc} {cells slots : Nat} {Q : State → Prop} {cc : ByteArray} {pc : Nat} {ls : Array Slot} {rest : List Value} {D : va_G} {cy : Cy} {T : Ty} {M : Mm} {R : Rm} {A : Nat → Prop} {own : String} {n : Nat} {ret : Option FieldType} {index a : Nat} {b : Nat} (C : Cx own cc n ret p s m args meth c D cy A) (hP : va_P D vwCl (WL cy T M R) H) (hD : va_D A (WL cy T M R)) (hS : va_S A s.heap H locs) (ha : isK T a 4 = true) (hl : Cond.fieldLink own index "IceTongue$Text" "signs" "[C" ∈ GW) (hin : meth.name = "<init>") (hO : (TX4 0).1 = own) (hdg : decode cc pc = .ok (.putfield index, 3)) (kk : ∀ (R1 : Rm) (H1 : Heap) (locs1 : List Loc), R1 = up2 R a 0 (some b) → va_P D vwCl (WL cy T M R1) H1 → va_D A (WL cy T M R1) → va_S A s.heap H1 locs1 → W p l e Rr s m args below meth c H1 locs1 cells slots Q (F0 m (pc + 3) ls rest)) : W p l e Rr s m args below meth c H locs cells slots Q (F0 m pc ls (.ref b :: .ref a :: rest)) := by
  obtain ⟨hx, hb, -, hml, hown, hts, hK, hA, -, hSt⟩ := C
  obtain ⟨q, hq⟩ := wl_get (cy := cy) (M := M) (R := R) ha
  have hq0 := hq
  rw [ce_4 (isK_knd ha)] at hq
  refine va_putF (D := D) (ci := 4) (v := .ref b) (ty := (tyX4 0)) (C := RX4) (T := TX4) (N := 2) hx hb hts inlX4 tyX4 tyX4_ok nmX4 hown hK hP hD hS q hq rfl 0 (by decide) (hts _ hl) (fun _ h9 => h9) rfl hin hO (by decide +kernel) rfl rfl (Nat.le_of_ble_eq_true rfl) hdg (fun H1 locs1 hP1 hD1 hS1 => ?_)
  rw [wl_set hD ha hq0 (pe_4_0 ha)] at hP1 hD1
  exact kk _ H1 locs1 rfl hP1 hD1 hS1
theorem gf_4_1 {p : Program} {l : Launch} {e : Env} {Rr : Room} {s : State} {m : MethodId} {args : Array Value} {below : List Frame} {meth : Method} {c : Code} {H : Heap} {locs : List Loc} {cells slots : Nat} {Q : State → Prop} {cc : ByteArray} {pc : Nat} {ls : Array Slot} {rest : List Value} {D : va_G} {cy : Cy} {T : Ty} {M : Mm} {R : Rm} {A : Nat → Prop} {own : String} {n : Nat} {ret : Option FieldType} {index a : Nat} (C : Cx own cc n ret p s m args meth c D cy A) (hP : va_P D vwCl (WL cy T M R) H) (ha : isK T a 4 = true) (hl : Cond.fieldLink own index "IceTongue$Text" "length" "I" ∈ GW) (hdg : decode cc pc = .ok (.getfield index, 3)) (kk : W p l e Rr s m args below meth c H locs cells slots Q (F0 m (pc + 3) ls (.int (gI M a 1) :: rest))) : W p l e Rr s m args below meth c H locs cells slots Q (F0 m pc ls (.ref a :: rest)) := by
  obtain ⟨hx, hb, -, hml, hown, hts, hK, hA, -, hSt⟩ := C
  obtain ⟨q, hq⟩ := wl_get (cy := cy) (M := M) (R := R) ha
  rw [ce_4 (isK_knd ha)] at hq
  exact va_get (D := D) (ci := 4) (v := .int (gI M a 1)) (C := RX4) (T := TX4) (N := 2) hx hb hts inlX4 hown hK hP q hq rfl 1 (by decide) (hts _ hl) (fun _ h9 => h9) rfl hdg kk
theorem pe_4_1 {cy : Cy} {T : Ty} {M : Mm} {R : Rm} {a : Nat} {x : Int32} (ha : isK T a 4 = true) (y : Nat) : va_up (ce cy T M R) a (.inr (4, ([va_rf (R a 0), .int (M.1 a 1)] : List Value).set 1 (.int x))) y = ce cy T (sI M a 1 x) R y := by
  have hk := isK_knd ha
  unfold va_up
  by_cases h : y = a
  · subst h
    rw [if_pos rfl, ce_4 hk]
    simp [sI, sJ, up2, va_rf]
  · rw [if_neg h]
    exact ce_congr (by first | rfl | exact up2_ne h) (by first | rfl | exact up2_ne h) (by first | rfl | exact up2_ne h)
theorem pf_4_1 {p : Program} {l : Launch} {e : Env} {Rr : Room} {s : State} {m : MethodId} {args : Array Value} {below : List Frame} {meth : Method} {c : Code} {H : Heap} {locs : List Loc} {cells slots : Nat} {Q : State → Prop} {cc : ByteArray} {pc : Nat} {ls : Array Slot} {rest : List Value} {D : va_G} {cy : Cy} {T : Ty} {M : Mm} {R : Rm} {A : Nat → Prop} {own : String} {n : Nat} {ret : Option FieldType} {index a : Nat} {x : Int32} (C : Cx own cc n ret p s m args meth c D cy A) (hP : va_P D vwCl (WL cy T M R) H) (hD : va_D A (WL cy T M R)) (hS : va_S A s.heap H locs) (ha : isK T a 4 = true) (hl : Cond.fieldLink own index "IceTongue$Text" "length" "I" ∈ GW) (hdg : decode cc pc = .ok (.putfield index, 3)) (kk : ∀ (M1 : Mm) (H1 : Heap) (locs1 : List Loc), M1 = sI M a 1 x → va_P D vwCl (WL cy T M1 R) H1 → va_D A (WL cy T M1 R) → va_S A s.heap H1 locs1 → W p l e Rr s m args below meth c H1 locs1 cells slots Q (F0 m (pc + 3) ls rest)) : W p l e Rr s m args below meth c H locs cells slots Q (F0 m pc ls (.int x :: .ref a :: rest)) := by
  obtain ⟨hx, hb, -, hml, hown, hts, hK, hA, -, hSt⟩ := C
  obtain ⟨q, hq⟩ := wl_get (cy := cy) (M := M) (R := R) ha
  have hq0 := hq
  rw [ce_4 (isK_knd ha)] at hq
  refine va_put (D := D) (ci := 4) (v := .int x) (ty := .int) (C := RX4) (T := TX4) (N := 2) hx hb hts inlX4 tyX4 tyX4_ok nmX4 hown hK hP hD hS q hq rfl 1 (by decide) (hts _ hl) (fun _ h9 => h9) rfl (by decide +kernel) rfl rfl (Nat.le_of_ble_eq_true rfl) hdg (fun H1 locs1 hP1 hD1 hS1 => ?_)
  rw [wl_set hD ha hq0 (pe_4_1 ha)] at hP1 hD1
  exact kk _ H1 locs1 rfl hP1 hD1 hS1
theorem gf_5_0 {p : Program} {l : Launch} {e : Env} {Rr : Room} {s : State} {m : MethodId} {args : Array Value} {below : List Frame} {meth : Method} {c : Code} {H : Heap} {locs : List Loc} {cells slots : Nat} {Q : State → Prop} {cc : ByteArray} {pc : Nat} {ls : Array Slot} {rest : List Value} {D : va_G} {cy : Cy} {T : Ty} {M : Mm} {R : Rm} {A : Nat → Prop} {own : String} {n : Nat} {ret : Option FieldType} {index a : Nat} (C : Cx own cc n ret p s m args meth c D cy A) (hP : va_P D vwCl (WL cy T M R) H) (ha : isK T a 5 = true) {b : Nat} (eb : R a 0 = some b) (hl : Cond.fieldLink own index "IceTongue$Tongue" "settings" "[I" ∈ GW) (hdg : decode cc pc = .ok (.getfield index, 3)) (kk : W p l e Rr s m args below meth c H locs cells slots Q (F0 m (pc + 3) ls (.ref b :: rest))) : W p l e Rr s m args below meth c H locs cells slots Q (F0 m pc ls (.ref a :: rest)) := by
  obtain ⟨hx, hb, -, hml, hown, hts, hK, hA, -, hSt⟩ := C
  obtain ⟨q, hq⟩ := wl_get (cy := cy) (M := M) (R := R) ha
  rw [ce_5 (isK_knd ha)] at hq
  exact va_get (D := D) (ci := 5) (v := .ref b) (C := RX5) (T := TX5) (N := 11) hx hb hts inlX5 hown hK hP q hq rfl 0 (by decide) (hts _ hl) (fun _ h9 => h9) (show some (va_rf (R a 0)) = some (.ref b) from by rw [eb]; rfl) hdg kk
theorem pe_5_0 {cy : Cy} {T : Ty} {M : Mm} {R : Rm} {a : Nat} {b : Nat} (ha : isK T a 5 = true) (y : Nat) : va_up (ce cy T M R) a (.inr (5, ([va_rf (R a 0), va_rf (R a 1), va_rf (R a 2), va_rf (R a 3), .int (M.1 a 4), .int (M.1 a 5), .int (M.1 a 6), .long (M.2 a 7), .long (M.2 a 8), .long (M.2 a 9), .long (M.2 a 10)] : List Value).set 0 (.ref b))) y = ce cy T M (up2 R a 0 (some b)) y := by
  have hk := isK_knd ha
  unfold va_up
  by_cases h : y = a
  · subst h
    rw [if_pos rfl, ce_5 hk]
    simp [sI, sJ, up2, va_rf]
  · rw [if_neg h]
    exact ce_congr (by first | rfl | exact up2_ne h) (by first | rfl | exact up2_ne h) (by first | rfl | exact up2_ne h)
theorem pf_5_0 {p : Program} {l : Launch} {e : Env} {Rr : Room} {s : State} {m : MethodId} {args : Array Value} {below : List Frame} {meth : Method} {c : Code} {H : Heap} {locs : List Loc} {cells slots : Nat} {Q : State → Prop} {cc : ByteArray} {pc : Nat} {ls : Array Slot} {rest : List Value} {D : va_G} {cy : Cy} {T : Ty} {M : Mm} {R : Rm} {A : Nat → Prop} {own : String} {n : Nat} {ret : Option FieldType} {index a : Nat} {b : Nat} (C : Cx own cc n ret p s m args meth c D cy A) (hP : va_P D vwCl (WL cy T M R) H) (hD : va_D A (WL cy T M R)) (hS : va_S A s.heap H locs) (ha : isK T a 5 = true) (hl : Cond.fieldLink own index "IceTongue$Tongue" "settings" "[I" ∈ GW) (hin : meth.name = "<init>") (hO : (TX5 0).1 = own) (hdg : decode cc pc = .ok (.putfield index, 3)) (kk : ∀ (R1 : Rm) (H1 : Heap) (locs1 : List Loc), R1 = up2 R a 0 (some b) → va_P D vwCl (WL cy T M R1) H1 → va_D A (WL cy T M R1) → va_S A s.heap H1 locs1 → W p l e Rr s m args below meth c H1 locs1 cells slots Q (F0 m (pc + 3) ls rest)) : W p l e Rr s m args below meth c H locs cells slots Q (F0 m pc ls (.ref b :: .ref a :: rest)) := by
  obtain ⟨hx, hb, -, hml, hown, hts, hK, hA, -, hSt⟩ := C
  obtain ⟨q, hq⟩ := wl_get (cy := cy) (M := M) (R := R) ha
  have hq0 := hq
  rw [ce_5 (isK_knd ha)] at hq
  refine va_putF (D := D) (ci := 5) (v := .ref b) (ty := (tyX5 0)) (C := RX5) (T := TX5) (N := 11) hx hb hts inlX5 tyX5 tyX5_ok nmX5 hown hK hP hD hS q hq rfl 0 (by decide) (hts _ hl) (fun _ h9 => h9) rfl hin hO (by decide +kernel) rfl rfl (Nat.le_of_ble_eq_true rfl) hdg (fun H1 locs1 hP1 hD1 hS1 => ?_)
  rw [wl_set hD ha hq0 (pe_5_0 ha)] at hP1 hD1
  exact kk _ H1 locs1 rfl hP1 hD1 hS1
theorem gf_5_1 {p : Program} {l : Launch} {e : Env} {Rr : Room} {s : State} {m : MethodId} {args : Array Value} {below : List Frame} {meth : Method} {c : Code} {H : Heap} {locs : List Loc} {cells slots : Nat} {Q : State → Prop} {cc : ByteArray} {pc : Nat} {ls : Array Slot} {rest : List Value} {D : va_G} {cy : Cy} {T : Ty} {M : Mm} {R : Rm} {A : Nat → Prop} {own : String} {n : Nat} {ret : Option FieldType} {index a : Nat} (C : Cx own cc n ret p s m args meth c D cy A) (hP : va_P D vwCl (WL cy T M R) H) (ha : isK T a 5 = true) {b : Nat} (eb : R a 1 = some b) (hl : Cond.fieldLink own index "IceTongue$Tongue" "bands" "[LIceTongue$Band;" ∈ GW) (hdg : decode cc pc = .ok (.getfield index, 3)) (kk : W p l e Rr s m args below meth c H locs cells slots Q (F0 m (pc + 3) ls (.ref b :: rest))) : W p l e Rr s m args below meth c H locs cells slots Q (F0 m pc ls (.ref a :: rest)) := by
  obtain ⟨hx, hb, -, hml, hown, hts, hK, hA, -, hSt⟩ := C
  obtain ⟨q, hq⟩ := wl_get (cy := cy) (M := M) (R := R) ha
  rw [ce_5 (isK_knd ha)] at hq
  exact va_get (D := D) (ci := 5) (v := .ref b) (C := RX5) (T := TX5) (N := 11) hx hb hts inlX5 hown hK hP q hq rfl 1 (by decide) (hts _ hl) (fun _ h9 => h9) (show some (va_rf (R a 1)) = some (.ref b) from by rw [eb]; rfl) hdg kk
theorem pe_5_1 {cy : Cy} {T : Ty} {M : Mm} {R : Rm} {a : Nat} {b : Nat} (ha : isK T a 5 = true) (y : Nat) : va_up (ce cy T M R) a (.inr (5, ([va_rf (R a 0), va_rf (R a 1), va_rf (R a 2), va_rf (R a 3), .int (M.1 a 4), .int (M.1 a 5), .int (M.1 a 6), .long (M.2 a 7), .long (M.2 a 8), .long (M.2 a 9), .long (M.2 a 10)] : List Value).set 1 (.ref b))) y = ce cy T M (up2 R a 1 (some b)) y := by
  have hk := isK_knd ha
  unfold va_up
  by_cases h : y = a
  · subst h
    rw [if_pos rfl, ce_5 hk]
    simp [sI, sJ, up2, va_rf]
  · rw [if_neg h]
    exact ce_congr (by first | rfl | exact up2_ne h) (by first | rfl | exact up2_ne h) (by first | rfl | exact up2_ne h)
theorem pf_5_1 {p : Program} {l : Launch} {e : Env} {Rr : Room} {s : State} {m : MethodId} {args : Array Value} {below : List Frame} {meth : Method} {c : Code} {H : Heap} {locs : List Loc} {cells slots : Nat} {Q : State → Prop} {cc : ByteArray} {pc : Nat} {ls : Array Slot} {rest : List Value} {D : va_G} {cy : Cy} {T : Ty} {M : Mm} {R : Rm} {A : Nat → Prop} {own : String} {n : Nat} {ret : Option FieldType} {index a : Nat} {b : Nat} (C : Cx own cc n ret p s m args meth c D cy A) (hP : va_P D vwCl (WL cy T M R) H) (hD : va_D A (WL cy T M R)) (hS : va_S A s.heap H locs) (ha : isK T a 5 = true) (hl : Cond.fieldLink own index "IceTongue$Tongue" "bands" "[LIceTongue$Band;" ∈ GW) (hin : meth.name = "<init>") (hO : (TX5 1).1 = own) (hdg : decode cc pc = .ok (.putfield index, 3)) (kk : ∀ (R1 : Rm) (H1 : Heap) (locs1 : List Loc), R1 = up2 R a 1 (some b) → va_P D vwCl (WL cy T M R1) H1 → va_D A (WL cy T M R1) → va_S A s.heap H1 locs1 → W p l e Rr s m args below meth c H1 locs1 cells slots Q (F0 m (pc + 3) ls rest)) : W p l e Rr s m args below meth c H locs cells slots Q (F0 m pc ls (.ref b :: .ref a :: rest)) := by
  obtain ⟨hx, hb, -, hml, hown, hts, hK, hA, -, hSt⟩ := C
  obtain ⟨q, hq⟩ := wl_get (cy := cy) (M := M) (R := R) ha
  have hq0 := hq
  rw [ce_5 (isK_knd ha)] at hq
  refine va_putF (D := D) (ci := 5) (v := .ref b) (ty := (tyX5 1)) (C := RX5) (T := TX5) (N := 11) hx hb hts inlX5 tyX5 tyX5_ok nmX5 hown hK hP hD hS q hq rfl 1 (by decide) (hts _ hl) (fun _ h9 => h9) rfl hin hO (by decide +kernel) rfl rfl (Nat.le_of_ble_eq_true rfl) hdg (fun H1 locs1 hP1 hD1 hS1 => ?_)
  rw [wl_set hD ha hq0 (pe_5_1 ha)] at hP1 hD1
  exact kk _ H1 locs1 rfl hP1 hD1 hS1
theorem gf_5_2 {p : Program} {l : Launch} {e : Env} {Rr : Room} {s : State} {m : MethodId} {args : Array Value} {below : List Frame} {meth : Method} {c : Code} {H : Heap} {locs : List Loc} {cells slots : Nat} {Q : State → Prop} {cc : ByteArray} {pc : Nat} {ls : Array Slot} {rest : List Value} {D : va_G} {cy : Cy} {T : Ty} {M : Mm} {R : Rm} {A : Nat → Prop} {own : String} {n : Nat} {ret : Option FieldType} {index a : Nat} (C : Cx own cc n ret p s m args meth c D cy A) (hP : va_P D vwCl (WL cy T M R) H) (ha : isK T a 5 = true) {b : Nat} (eb : R a 2 = some b) (hl : Cond.fieldLink own index "IceTongue$Tongue" "stakes" "[LIceTongue$Stake;" ∈ GW) (hdg : decode cc pc = .ok (.getfield index, 3)) (kk : W p l e Rr s m args below meth c H locs cells slots Q (F0 m (pc + 3) ls (.ref b :: rest))) : W p l e Rr s m args below meth c H locs cells slots Q (F0 m pc ls (.ref a :: rest)) := by
  obtain ⟨hx, hb, -, hml, hown, hts, hK, hA, -, hSt⟩ := C
  obtain ⟨q, hq⟩ := wl_get (cy := cy) (M := M) (R := R) ha
  rw [ce_5 (isK_knd ha)] at hq
  exact va_get (D := D) (ci := 5) (v := .ref b) (C := RX5) (T := TX5) (N := 11) hx hb hts inlX5 hown hK hP q hq rfl 2 (by decide) (hts _ hl) (fun _ h9 => h9) (show some (va_rf (R a 2)) = some (.ref b) from by rw [eb]; rfl) hdg kk
theorem pe_5_2 {cy : Cy} {T : Ty} {M : Mm} {R : Rm} {a : Nat} {b : Nat} (ha : isK T a 5 = true) (y : Nat) : va_up (ce cy T M R) a (.inr (5, ([va_rf (R a 0), va_rf (R a 1), va_rf (R a 2), va_rf (R a 3), .int (M.1 a 4), .int (M.1 a 5), .int (M.1 a 6), .long (M.2 a 7), .long (M.2 a 8), .long (M.2 a 9), .long (M.2 a 10)] : List Value).set 2 (.ref b))) y = ce cy T M (up2 R a 2 (some b)) y := by
  have hk := isK_knd ha
  unfold va_up
  by_cases h : y = a
  · subst h
    rw [if_pos rfl, ce_5 hk]
    simp [sI, sJ, up2, va_rf]
  · rw [if_neg h]
    exact ce_congr (by first | rfl | exact up2_ne h) (by first | rfl | exact up2_ne h) (by first | rfl | exact up2_ne h)
theorem pf_5_2 {p : Program} {l : Launch} {e : Env} {Rr : Room} {s : State} {m : MethodId} {args : Array Value} {below : List Frame} {meth : Method} {c : Code} {H : Heap} {locs : List Loc} {cells slots : Nat} {Q : State → Prop} {cc : ByteArray} {pc : Nat} {ls : Array Slot} {rest : List Value} {D : va_G} {cy : Cy} {T : Ty} {M : Mm} {R : Rm} {A : Nat → Prop} {own : String} {n : Nat} {ret : Option FieldType} {index a : Nat} {b : Nat} (C : Cx own cc n ret p s m args meth c D cy A) (hP : va_P D vwCl (WL cy T M R) H) (hD : va_D A (WL cy T M R)) (hS : va_S A s.heap H locs) (ha : isK T a 5 = true) (hl : Cond.fieldLink own index "IceTongue$Tongue" "stakes" "[LIceTongue$Stake;" ∈ GW) (hin : meth.name = "<init>") (hO : (TX5 2).1 = own) (hdg : decode cc pc = .ok (.putfield index, 3)) (kk : ∀ (R1 : Rm) (H1 : Heap) (locs1 : List Loc), R1 = up2 R a 2 (some b) → va_P D vwCl (WL cy T M R1) H1 → va_D A (WL cy T M R1) → va_S A s.heap H1 locs1 → W p l e Rr s m args below meth c H1 locs1 cells slots Q (F0 m (pc + 3) ls rest)) : W p l e Rr s m args below meth c H locs cells slots Q (F0 m pc ls (.ref b :: .ref a :: rest)) := by
  obtain ⟨hx, hb, -, hml, hown, hts, hK, hA, -, hSt⟩ := C
  obtain ⟨q, hq⟩ := wl_get (cy := cy) (M := M) (R := R) ha
  have hq0 := hq
  rw [ce_5 (isK_knd ha)] at hq
  refine va_putF (D := D) (ci := 5) (v := .ref b) (ty := (tyX5 2)) (C := RX5) (T := TX5) (N := 11) hx hb hts inlX5 tyX5 tyX5_ok nmX5 hown hK hP hD hS q hq rfl 2 (by decide) (hts _ hl) (fun _ h9 => h9) rfl hin hO (by decide +kernel) rfl rfl (Nat.le_of_ble_eq_true rfl) hdg (fun H1 locs1 hP1 hD1 hS1 => ?_)
  rw [wl_set hD ha hq0 (pe_5_2 ha)] at hP1 hD1
  exact kk _ H1 locs1 rfl hP1 hD1 hS1
theorem gf_5_3 {p : Program} {l : Launch} {e : Env} {Rr : Room} {s : State} {m : MethodId} {args : Array Value} {below : List Frame} {meth : Method} {c : Code} {H : Heap} {locs : List Loc} {cells slots : Nat} {Q : State → Prop} {cc : ByteArray} {pc : Nat} {ls : Array Slot} {rest : List Value} {D : va_G} {cy : Cy} {T : Ty} {M : Mm} {R : Rm} {A : Nat → Prop} {own : String} {n : Nat} {ret : Option FieldType} {index a : Nat} (C : Cx own cc n ret p s m args meth c D cy A) (hP : va_P D vwCl (WL cy T M R) H) (ha : isK T a 5 = true) {b : Nat} (eb : R a 3 = some b) (hl : Cond.fieldLink own index "IceTongue$Tongue" "front" "LIceTongue$Front;" ∈ GW) (hdg : decode cc pc = .ok (.getfield index, 3)) (kk : W p l e Rr s m args below meth c H locs cells slots Q (F0 m (pc + 3) ls (.ref b :: rest))) : W p l e Rr s m args below meth c H locs cells slots Q (F0 m pc ls (.ref a :: rest)) := by
  obtain ⟨hx, hb, -, hml, hown, hts, hK, hA, -, hSt⟩ := C
  obtain ⟨q, hq⟩ := wl_get (cy := cy) (M := M) (R := R) ha
  rw [ce_5 (isK_knd ha)] at hq
  exact va_get (D := D) (ci := 5) (v := .ref b) (C := RX5) (T := TX5) (N := 11) hx hb hts inlX5 hown hK hP q hq rfl 3 (by decide) (hts _ hl) (fun _ h9 => h9) (show some (va_rf (R a 3)) = some (.ref b) from by rw [eb]; rfl) hdg kk
theorem pe_5_3 {cy : Cy} {T : Ty} {M : Mm} {R : Rm} {a : Nat} {b : Nat} (ha : isK T a 5 = true) (y : Nat) : va_up (ce cy T M R) a (.inr (5, ([va_rf (R a 0), va_rf (R a 1), va_rf (R a 2), va_rf (R a 3), .int (M.1 a 4), .int (M.1 a 5), .int (M.1 a 6), .long (M.2 a 7), .long (M.2 a 8), .long (M.2 a 9), .long (M.2 a 10)] : List Value).set 3 (.ref b))) y = ce cy T M (up2 R a 3 (some b)) y := by
  have hk := isK_knd ha
  unfold va_up
  by_cases h : y = a
  · subst h
    rw [if_pos rfl, ce_5 hk]
    simp [sI, sJ, up2, va_rf]
  · rw [if_neg h]
    exact ce_congr (by first | rfl | exact up2_ne h) (by first | rfl | exact up2_ne h) (by first | rfl | exact up2_ne h)
theorem pf_5_3 {p : Program} {l : Launch} {e : Env} {Rr : Room} {s : State} {m : MethodId} {args : Array Value} {below : List Frame} {meth : Method} {c : Code} {H : Heap} {locs : List Loc} {cells slots : Nat} {Q : State → Prop} {cc : ByteArray} {pc : Nat} {ls : Array Slot} {rest : List Value} {D : va_G} {cy : Cy} {T : Ty} {M : Mm} {R : Rm} {A : Nat → Prop} {own : String} {n : Nat} {ret : Option FieldType} {index a : Nat} {b : Nat} (C : Cx own cc n ret p s m args meth c D cy A) (hP : va_P D vwCl (WL cy T M R) H) (hD : va_D A (WL cy T M R)) (hS : va_S A s.heap H locs) (ha : isK T a 5 = true) (hl : Cond.fieldLink own index "IceTongue$Tongue" "front" "LIceTongue$Front;" ∈ GW) (hin : meth.name = "<init>") (hO : (TX5 3).1 = own) (hdg : decode cc pc = .ok (.putfield index, 3)) (kk : ∀ (R1 : Rm) (H1 : Heap) (locs1 : List Loc), R1 = up2 R a 3 (some b) → va_P D vwCl (WL cy T M R1) H1 → va_D A (WL cy T M R1) → va_S A s.heap H1 locs1 → W p l e Rr s m args below meth c H1 locs1 cells slots Q (F0 m (pc + 3) ls rest)) : W p l e Rr s m args below meth c H locs cells slots Q (F0 m pc ls (.ref b :: .ref a :: rest)) := by
  obtain ⟨hx, hb, -, hml, hown, hts, hK, hA, -, hSt⟩ := C
  obtain ⟨q, hq⟩ := wl_get (cy := cy) (M := M) (R := R) ha
  have hq0 := hq
  rw [ce_5 (isK_knd ha)] at hq
  refine va_putF (D := D) (ci := 5) (v := .ref b) (ty := (tyX5 3)) (C := RX5) (T := TX5) (N := 11) hx hb hts inlX5 tyX5 tyX5_ok nmX5 hown hK hP hD hS q hq rfl 3 (by decide) (hts _ hl) (fun _ h9 => h9) rfl hin hO (by decide +kernel) rfl rfl (Nat.le_of_ble_eq_true rfl) hdg (fun H1 locs1 hP1 hD1 hS1 => ?_)
  rw [wl_set hD ha hq0 (pe_5_3 ha)] at hP1 hD1
  exact kk _ H1 locs1 rfl hP1 hD1 hS1
theorem gf_5_4 {p : Program} {l : Launch} {e : Env} {Rr : Room} {s : State} {m : MethodId} {args : Array Value} {below : List Frame} {meth : Method} {c : Code} {H : Heap} {locs : List Loc} {cells slots : Nat} {Q : State → Prop} {cc : ByteArray} {pc : Nat} {ls : Array Slot} {rest : List Value} {D : va_G} {cy : Cy} {T : Ty} {M : Mm} {R : Rm} {A : Nat → Prop} {own : String} {n : Nat} {ret : Option FieldType} {index a : Nat} (C : Cx own cc n ret p s m args meth c D cy A) (hP : va_P D vwCl (WL cy T M R) H) (ha : isK T a 5 = true) (hl : Cond.fieldLink own index "IceTongue$Tongue" "bandCount" "I" ∈ GW) (hdg : decode cc pc = .ok (.getfield index, 3)) (kk : W p l e Rr s m args below meth c H locs cells slots Q (F0 m (pc + 3) ls (.int (gI M a 4) :: rest))) : W p l e Rr s m args below meth c H locs cells slots Q (F0 m pc ls (.ref a :: rest)) := by
  obtain ⟨hx, hb, -, hml, hown, hts, hK, hA, -, hSt⟩ := C
  obtain ⟨q, hq⟩ := wl_get (cy := cy) (M := M) (R := R) ha
  rw [ce_5 (isK_knd ha)] at hq
  exact va_get (D := D) (ci := 5) (v := .int (gI M a 4)) (C := RX5) (T := TX5) (N := 11) hx hb hts inlX5 hown hK hP q hq rfl 4 (by decide) (hts _ hl) (fun _ h9 => h9) rfl hdg kk
theorem pe_5_4 {cy : Cy} {T : Ty} {M : Mm} {R : Rm} {a : Nat} {x : Int32} (ha : isK T a 5 = true) (y : Nat) : va_up (ce cy T M R) a (.inr (5, ([va_rf (R a 0), va_rf (R a 1), va_rf (R a 2), va_rf (R a 3), .int (M.1 a 4), .int (M.1 a 5), .int (M.1 a 6), .long (M.2 a 7), .long (M.2 a 8), .long (M.2 a 9), .long (M.2 a 10)] : List Value).set 4 (.int x))) y = ce cy T (sI M a 4 x) R y := by
  have hk := isK_knd ha
  unfold va_up
  by_cases h : y = a
  · subst h
    rw [if_pos rfl, ce_5 hk]
    simp [sI, sJ, up2, va_rf]
  · rw [if_neg h]
    exact ce_congr (by first | rfl | exact up2_ne h) (by first | rfl | exact up2_ne h) (by first | rfl | exact up2_ne h)
theorem pf_5_4 {p : Program} {l : Launch} {e : Env} {Rr : Room} {s : State} {m : MethodId} {args : Array Value} {below : List Frame} {meth : Method} {c : Code} {H : Heap} {locs : List Loc} {cells slots : Nat} {Q : State → Prop} {cc : ByteArray} {pc : Nat} {ls : Array Slot} {rest : List Value} {D : va_G} {cy : Cy} {T : Ty} {M : Mm} {R : Rm} {A : Nat → Prop} {own : String} {n : Nat} {ret : Option FieldType} {index a : Nat} {x : Int32} (C : Cx own cc n ret p s m args meth c D cy A) (hP : va_P D vwCl (WL cy T M R) H) (hD : va_D A (WL cy T M R)) (hS : va_S A s.heap H locs) (ha : isK T a 5 = true) (hl : Cond.fieldLink own index "IceTongue$Tongue" "bandCount" "I" ∈ GW) (hdg : decode cc pc = .ok (.putfield index, 3)) (kk : ∀ (M1 : Mm) (H1 : Heap) (locs1 : List Loc), M1 = sI M a 4 x → va_P D vwCl (WL cy T M1 R) H1 → va_D A (WL cy T M1 R) → va_S A s.heap H1 locs1 → W p l e Rr s m args below meth c H1 locs1 cells slots Q (F0 m (pc + 3) ls rest)) : W p l e Rr s m args below meth c H locs cells slots Q (F0 m pc ls (.int x :: .ref a :: rest)) := by
  obtain ⟨hx, hb, -, hml, hown, hts, hK, hA, -, hSt⟩ := C
  obtain ⟨q, hq⟩ := wl_get (cy := cy) (M := M) (R := R) ha
  have hq0 := hq
  rw [ce_5 (isK_knd ha)] at hq
  refine va_put (D := D) (ci := 5) (v := .int x) (ty := .int) (C := RX5) (T := TX5) (N := 11) hx hb hts inlX5 tyX5 tyX5_ok nmX5 hown hK hP hD hS q hq rfl 4 (by decide) (hts _ hl) (fun _ h9 => h9) rfl (by decide +kernel) rfl rfl (Nat.le_of_ble_eq_true rfl) hdg (fun H1 locs1 hP1 hD1 hS1 => ?_)
  rw [wl_set hD ha hq0 (pe_5_4 ha)] at hP1 hD1
  exact kk _ H1 locs1 rfl hP1 hD1 hS1
theorem gf_5_5 {p : Program} {l : Launch} {e : Env} {Rr : Room} {s : State} {m : MethodId} {args : Array Value} {below : List Frame} {meth : Method} {c : Code} {H : Heap} {locs : List Loc} {cells slots : Nat} {Q : State → Prop} {cc : ByteArray} {pc : Nat} {ls : Array Slot} {rest : List Value} {D : va_G} {cy : Cy} {T : Ty} {M : Mm} {R : Rm} {A : Nat → Prop} {own : String} {n : Nat} {ret : Option FieldType} {index a : Nat} (C : Cx own cc n ret p s m args meth c D cy A) (hP : va_P D vwCl (WL cy T M R) H) (ha : isK T a 5 = true) (hl : Cond.fieldLink own index "IceTongue$Tongue" "stakeCount" "I" ∈ GW) (hdg : decode cc pc = .ok (.getfield index, 3)) (kk : W p l e Rr s m args below meth c H locs cells slots Q (F0 m (pc + 3) ls (.int (gI M a 5) :: rest))) : W p l e Rr s m args below meth c H locs cells slots Q (F0 m pc ls (.ref a :: rest)) := by
  obtain ⟨hx, hb, -, hml, hown, hts, hK, hA, -, hSt⟩ := C
  obtain ⟨q, hq⟩ := wl_get (cy := cy) (M := M) (R := R) ha
  rw [ce_5 (isK_knd ha)] at hq
  exact va_get (D := D) (ci := 5) (v := .int (gI M a 5)) (C := RX5) (T := TX5) (N := 11) hx hb hts inlX5 hown hK hP q hq rfl 5 (by decide) (hts _ hl) (fun _ h9 => h9) rfl hdg kk
theorem pe_5_5 {cy : Cy} {T : Ty} {M : Mm} {R : Rm} {a : Nat} {x : Int32} (ha : isK T a 5 = true) (y : Nat) : va_up (ce cy T M R) a (.inr (5, ([va_rf (R a 0), va_rf (R a 1), va_rf (R a 2), va_rf (R a 3), .int (M.1 a 4), .int (M.1 a 5), .int (M.1 a 6), .long (M.2 a 7), .long (M.2 a 8), .long (M.2 a 9), .long (M.2 a 10)] : List Value).set 5 (.int x))) y = ce cy T (sI M a 5 x) R y := by
  have hk := isK_knd ha
  unfold va_up
  by_cases h : y = a
  · subst h
    rw [if_pos rfl, ce_5 hk]
    simp [sI, sJ, up2, va_rf]
  · rw [if_neg h]
    exact ce_congr (by first | rfl | exact up2_ne h) (by first | rfl | exact up2_ne h) (by first | rfl | exact up2_ne h)
theorem pf_5_5 {p : Program} {l : Launch} {e : Env} {Rr : Room} {s : State} {m : MethodId} {args : Array Value} {below : List Frame} {meth : Method} {c : Code} {H : Heap} {locs : List Loc} {cells slots : Nat} {Q : State → Prop} {cc : ByteArray} {pc : Nat} {ls : Array Slot} {rest : List Value} {D : va_G} {cy : Cy} {T : Ty} {M : Mm} {R : Rm} {A : Nat → Prop} {own : String} {n : Nat} {ret : Option FieldType} {index a : Nat} {x : Int32} (C : Cx own cc n ret p s m args meth c D cy A) (hP : va_P D vwCl (WL cy T M R) H) (hD : va_D A (WL cy T M R)) (hS : va_S A s.heap H locs) (ha : isK T a 5 = true) (hl : Cond.fieldLink own index "IceTongue$Tongue" "stakeCount" "I" ∈ GW) (hdg : decode cc pc = .ok (.putfield index, 3)) (kk : ∀ (M1 : Mm) (H1 : Heap) (locs1 : List Loc), M1 = sI M a 5 x → va_P D vwCl (WL cy T M1 R) H1 → va_D A (WL cy T M1 R) → va_S A s.heap H1 locs1 → W p l e Rr s m args below meth c H1 locs1 cells slots Q (F0 m (pc + 3) ls rest)) : W p l e Rr s m args below meth c H locs cells slots Q (F0 m pc ls (.int x :: .ref a :: rest)) := by
  obtain ⟨hx, hb, -, hml, hown, hts, hK, hA, -, hSt⟩ := C
  obtain ⟨q, hq⟩ := wl_get (cy := cy) (M := M) (R := R) ha
  have hq0 := hq
  rw [ce_5 (isK_knd ha)] at hq
  refine va_put (D := D) (ci := 5) (v := .int x) (ty := .int) (C := RX5) (T := TX5) (N := 11) hx hb hts inlX5 tyX5 tyX5_ok nmX5 hown hK hP hD hS q hq rfl 5 (by decide) (hts _ hl) (fun _ h9 => h9) rfl (by decide +kernel) rfl rfl (Nat.le_of_ble_eq_true rfl) hdg (fun H1 locs1 hP1 hD1 hS1 => ?_)
  rw [wl_set hD ha hq0 (pe_5_5 ha)] at hP1 hD1
  exact kk _ H1 locs1 rfl hP1 hD1 hS1
theorem gf_5_6 {p : Program} {l : Launch} {e : Env} {Rr : Room} {s : State} {m : MethodId} {args : Array Value} {below : List Frame} {meth : Method} {c : Code} {H : Heap} {locs : List Loc} {cells slots : Nat} {Q : State → Prop} {cc : ByteArray} {pc : Nat} {ls : Array Slot} {rest : List Value} {D : va_G} {cy : Cy} {T : Ty} {M : Mm} {R : Rm} {A : Nat → Prop} {own : String} {n : Nat} {ret : Option FieldType} {index a : Nat} (C : Cx own cc n ret p s m args meth c D cy A) (hP : va_P D vwCl (WL cy T M R) H) (ha : isK T a 5 = true) (hl : Cond.fieldLink own index "IceTongue$Tongue" "year" "I" ∈ GW) (hdg : decode cc pc = .ok (.getfield index, 3)) (kk : W p l e Rr s m args below meth c H locs cells slots Q (F0 m (pc + 3) ls (.int (gI M a 6) :: rest))) : W p l e Rr s m args below meth c H locs cells slots Q (F0 m pc ls (.ref a :: rest)) := by
  obtain ⟨hx, hb, -, hml, hown, hts, hK, hA, -, hSt⟩ := C
  obtain ⟨q, hq⟩ := wl_get (cy := cy) (M := M) (R := R) ha
  rw [ce_5 (isK_knd ha)] at hq
  exact va_get (D := D) (ci := 5) (v := .int (gI M a 6)) (C := RX5) (T := TX5) (N := 11) hx hb hts inlX5 hown hK hP q hq rfl 6 (by decide) (hts _ hl) (fun _ h9 => h9) rfl hdg kk
theorem pe_5_6 {cy : Cy} {T : Ty} {M : Mm} {R : Rm} {a : Nat} {x : Int32} (ha : isK T a 5 = true) (y : Nat) : va_up (ce cy T M R) a (.inr (5, ([va_rf (R a 0), va_rf (R a 1), va_rf (R a 2), va_rf (R a 3), .int (M.1 a 4), .int (M.1 a 5), .int (M.1 a 6), .long (M.2 a 7), .long (M.2 a 8), .long (M.2 a 9), .long (M.2 a 10)] : List Value).set 6 (.int x))) y = ce cy T (sI M a 6 x) R y := by
  have hk := isK_knd ha
  unfold va_up
  by_cases h : y = a
  · subst h
    rw [if_pos rfl, ce_5 hk]
    simp [sI, sJ, up2, va_rf]
  · rw [if_neg h]
    exact ce_congr (by first | rfl | exact up2_ne h) (by first | rfl | exact up2_ne h) (by first | rfl | exact up2_ne h)
theorem pf_5_6 {p : Program} {l : Launch} {e : Env} {Rr : Room} {s : State} {m : MethodId} {args : Array Value} {below : List Frame} {meth : Method} {c : Code} {H : Heap} {locs : List Loc} {cells slots : Nat} {Q : State → Prop} {cc : ByteArray} {pc : Nat} {ls : Array Slot} {rest : List Value} {D : va_G} {cy : Cy} {T : Ty} {M : Mm} {R : Rm} {A : Nat → Prop} {own : String} {n : Nat} {ret : Option FieldType} {index a : Nat} {x : Int32} (C : Cx own cc n ret p s m args meth c D cy A) (hP : va_P D vwCl (WL cy T M R) H) (hD : va_D A (WL cy T M R)) (hS : va_S A s.heap H locs) (ha : isK T a 5 = true) (hl : Cond.fieldLink own index "IceTongue$Tongue" "year" "I" ∈ GW) (hdg : decode cc pc = .ok (.putfield index, 3)) (kk : ∀ (M1 : Mm) (H1 : Heap) (locs1 : List Loc), M1 = sI M a 6 x → va_P D vwCl (WL cy T M1 R) H1 → va_D A (WL cy T M1 R) → va_S A s.heap H1 locs1 → W p l e Rr s m args below meth c H1 locs1 cells slots Q (F0 m (pc + 3) ls rest)) : W p l e Rr s m args below meth c H locs cells slots Q (F0 m pc ls (.int x :: .ref a :: rest)) := by
  obtain ⟨hx, hb, -, hml, hown, hts, hK, hA, -, hSt⟩ := C
  obtain ⟨q, hq⟩ := wl_get (cy := cy) (M := M) (R := R) ha
  have hq0 := hq
  rw [ce_5 (isK_knd ha)] at hq
  refine va_put (D := D) (ci := 5) (v := .int x) (ty := .int) (C := RX5) (T := TX5) (N := 11) hx hb hts inlX5 tyX5 tyX5_ok nmX5 hown hK hP hD hS q hq rfl 6 (by decide) (hts _ hl) (fun _ h9 => h9) rfl (by decide +kernel) rfl rfl (Nat.le_of_ble_eq_true rfl) hdg (fun H1 locs1 hP1 hD1 hS1 => ?_)
  rw [wl_set hD ha hq0 (pe_5_6 ha)] at hP1 hD1
  exact kk _ H1 locs1 rfl hP1 hD1 hS1
theorem gf_5_7 {p : Program} {l : Launch} {e : Env} {Rr : Room} {s : State} {m : MethodId} {args : Array Value} {below : List Frame} {meth : Method} {c : Code} {H : Heap} {locs : List Loc} {cells slots : Nat} {Q : State → Prop} {cc : ByteArray} {pc : Nat} {ls : Array Slot} {rest : List Value} {D : va_G} {cy : Cy} {T : Ty} {M : Mm} {R : Rm} {A : Nat → Prop} {own : String} {n : Nat} {ret : Option FieldType} {index a : Nat} (C : Cx own cc n ret p s m args meth c D cy A) (hP : va_P D vwCl (WL cy T M R) H) (ha : isK T a 5 = true) (hl : Cond.fieldLink own index "IceTongue$Tongue" "added" "J" ∈ GW) (hdg : decode cc pc = .ok (.getfield index, 3)) (kk : W p l e Rr s m args below meth c H locs cells slots Q (F0 m (pc + 3) ls (.long (gJ M a 7) :: rest))) : W p l e Rr s m args below meth c H locs cells slots Q (F0 m pc ls (.ref a :: rest)) := by
  obtain ⟨hx, hb, -, hml, hown, hts, hK, hA, -, hSt⟩ := C
  obtain ⟨q, hq⟩ := wl_get (cy := cy) (M := M) (R := R) ha
  rw [ce_5 (isK_knd ha)] at hq
  exact va_get (D := D) (ci := 5) (v := .long (gJ M a 7)) (C := RX5) (T := TX5) (N := 11) hx hb hts inlX5 hown hK hP q hq rfl 7 (by decide) (hts _ hl) (fun _ h9 => h9) rfl hdg kk
theorem pe_5_7 {cy : Cy} {T : Ty} {M : Mm} {R : Rm} {a : Nat} {x : Int64} (ha : isK T a 5 = true) (y : Nat) : va_up (ce cy T M R) a (.inr (5, ([va_rf (R a 0), va_rf (R a 1), va_rf (R a 2), va_rf (R a 3), .int (M.1 a 4), .int (M.1 a 5), .int (M.1 a 6), .long (M.2 a 7), .long (M.2 a 8), .long (M.2 a 9), .long (M.2 a 10)] : List Value).set 7 (.long x))) y = ce cy T (sJ M a 7 x) R y := by
  have hk := isK_knd ha
  unfold va_up
  by_cases h : y = a
  · subst h
    rw [if_pos rfl, ce_5 hk]
    simp [sI, sJ, up2, va_rf]
  · rw [if_neg h]
    exact ce_congr (by first | rfl | exact up2_ne h) (by first | rfl | exact up2_ne h) (by first | rfl | exact up2_ne h)
theorem pf_5_7 {p : Program} {l : Launch} {e : Env} {Rr : Room} {s : State} {m : MethodId} {args : Array Value} {below : List Frame} {meth : Method} {c : Code} {H : Heap} {locs : List Loc} {cells slots : Nat} {Q : State → Prop} {cc : ByteArray} {pc : Nat} {ls : Array Slot} {rest : List Value} {D : va_G} {cy : Cy} {T : Ty} {M : Mm} {R : Rm} {A : Nat → Prop} {own : String} {n : Nat} {ret : Option FieldType} {index a : Nat} {x : Int64} (C : Cx own cc n ret p s m args meth c D cy A) (hP : va_P D vwCl (WL cy T M R) H) (hD : va_D A (WL cy T M R)) (hS : va_S A s.heap H locs) (ha : isK T a 5 = true) (hl : Cond.fieldLink own index "IceTongue$Tongue" "added" "J" ∈ GW) (hdg : decode cc pc = .ok (.putfield index, 3)) (kk : ∀ (M1 : Mm) (H1 : Heap) (locs1 : List Loc), M1 = sJ M a 7 x → va_P D vwCl (WL cy T M1 R) H1 → va_D A (WL cy T M1 R) → va_S A s.heap H1 locs1 → W p l e Rr s m args below meth c H1 locs1 cells slots Q (F0 m (pc + 3) ls rest)) : W p l e Rr s m args below meth c H locs cells slots Q (F0 m pc ls (.long x :: .ref a :: rest)) := by
  obtain ⟨hx, hb, -, hml, hown, hts, hK, hA, -, hSt⟩ := C
  obtain ⟨q, hq⟩ := wl_get (cy := cy) (M := M) (R := R) ha
  have hq0 := hq
  rw [ce_5 (isK_knd ha)] at hq
  refine va_put (D := D) (ci := 5) (v := .long x) (ty := .long) (C := RX5) (T := TX5) (N := 11) hx hb hts inlX5 tyX5 tyX5_ok nmX5 hown hK hP hD hS q hq rfl 7 (by decide) (hts _ hl) (fun _ h9 => h9) rfl (by decide +kernel) rfl rfl (Nat.le_of_ble_eq_true rfl) hdg (fun H1 locs1 hP1 hD1 hS1 => ?_)
  rw [wl_set hD ha hq0 (pe_5_7 ha)] at hP1 hD1
  exact kk _ H1 locs1 rfl hP1 hD1 hS1
theorem gf_5_8 {p : Program} {l : Launch} {e : Env} {Rr : Room} {s : State} {m : MethodId} {args : Array Value} {below : List Frame} {meth : Method} {c : Code} {H : Heap} {locs : List Loc} {cells slots : Nat} {Q : State → Prop} {cc : ByteArray} {pc : Nat} {ls : Array Slot} {rest : List Value} {D : va_G} {cy : Cy} {T : Ty} {M : Mm} {R : Rm} {A : Nat → Prop} {own : String} {n : Nat} {ret : Option FieldType} {index a : Nat} (C : Cx own cc n ret p s m args meth c D cy A) (hP : va_P D vwCl (WL cy T M R) H) (ha : isK T a 5 = true) (hl : Cond.fieldLink own index "IceTongue$Tongue" "snowed" "J" ∈ GW) (hdg : decode cc pc = .ok (.getfield index, 3)) (kk : W p l e Rr s m args below meth c H locs cells slots Q (F0 m (pc + 3) ls (.long (gJ M a 8) :: rest))) : W p l e Rr s m args below meth c H locs cells slots Q (F0 m pc ls (.ref a :: rest)) := by
  obtain ⟨hx, hb, -, hml, hown, hts, hK, hA, -, hSt⟩ := C
  obtain ⟨q, hq⟩ := wl_get (cy := cy) (M := M) (R := R) ha
  rw [ce_5 (isK_knd ha)] at hq
  exact va_get (D := D) (ci := 5) (v := .long (gJ M a 8)) (C := RX5) (T := TX5) (N := 11) hx hb hts inlX5 hown hK hP q hq rfl 8 (by decide) (hts _ hl) (fun _ h9 => h9) rfl hdg kk
theorem pe_5_8 {cy : Cy} {T : Ty} {M : Mm} {R : Rm} {a : Nat} {x : Int64} (ha : isK T a 5 = true) (y : Nat) : va_up (ce cy T M R) a (.inr (5, ([va_rf (R a 0), va_rf (R a 1), va_rf (R a 2), va_rf (R a 3), .int (M.1 a 4), .int (M.1 a 5), .int (M.1 a 6), .long (M.2 a 7), .long (M.2 a 8), .long (M.2 a 9), .long (M.2 a 10)] : List Value).set 8 (.long x))) y = ce cy T (sJ M a 8 x) R y := by
  have hk := isK_knd ha
  unfold va_up
  by_cases h : y = a
  · subst h
    rw [if_pos rfl, ce_5 hk]
    simp [sI, sJ, up2, va_rf]
  · rw [if_neg h]
    exact ce_congr (by first | rfl | exact up2_ne h) (by first | rfl | exact up2_ne h) (by first | rfl | exact up2_ne h)
theorem pf_5_8 {p : Program} {l : Launch} {e : Env} {Rr : Room} {s : State} {m : MethodId} {args : Array Value} {below : List Frame} {meth : Method} {c : Code} {H : Heap} {locs : List Loc} {cells slots : Nat} {Q : State → Prop} {cc : ByteArray} {pc : Nat} {ls : Array Slot} {rest : List Value} {D : va_G} {cy : Cy} {T : Ty} {M : Mm} {R : Rm} {A : Nat → Prop} {own : String} {n : Nat} {ret : Option FieldType} {index a : Nat} {x : Int64} (C : Cx own cc n ret p s m args meth c D cy A) (hP : va_P D vwCl (WL cy T M R) H) (hD : va_D A (WL cy T M R)) (hS : va_S A s.heap H locs) (ha : isK T a 5 = true) (hl : Cond.fieldLink own index "IceTongue$Tongue" "snowed" "J" ∈ GW) (hdg : decode cc pc = .ok (.putfield index, 3)) (kk : ∀ (M1 : Mm) (H1 : Heap) (locs1 : List Loc), M1 = sJ M a 8 x → va_P D vwCl (WL cy T M1 R) H1 → va_D A (WL cy T M1 R) → va_S A s.heap H1 locs1 → W p l e Rr s m args below meth c H1 locs1 cells slots Q (F0 m (pc + 3) ls rest)) : W p l e Rr s m args below meth c H locs cells slots Q (F0 m pc ls (.long x :: .ref a :: rest)) := by
  obtain ⟨hx, hb, -, hml, hown, hts, hK, hA, -, hSt⟩ := C
  obtain ⟨q, hq⟩ := wl_get (cy := cy) (M := M) (R := R) ha
  have hq0 := hq
  rw [ce_5 (isK_knd ha)] at hq
  refine va_put (D := D) (ci := 5) (v := .long x) (ty := .long) (C := RX5) (T := TX5) (N := 11) hx hb hts inlX5 tyX5 tyX5_ok nmX5 hown hK hP hD hS q hq rfl 8 (by decide) (hts _ hl) (fun _ h9 => h9) rfl (by decide +kernel) rfl rfl (Nat.le_of_ble_eq_true rfl) hdg (fun H1 locs1 hP1 hD1 hS1 => ?_)
  rw [wl_set hD ha hq0 (pe_5_8 ha)] at hP1 hD1
  exact kk _ H1 locs1 rfl hP1 hD1 hS1
theorem gf_5_9 {p : Program} {l : Launch} {e : Env} {Rr : Room} {s : State} {m : MethodId} {args : Array Value} {below : List Frame} {meth : Method} {c : Code} {H : Heap} {locs : List Loc} {cells slots : Nat} {Q : State → Prop} {cc : ByteArray} {pc : Nat} {ls : Array Slot} {rest : List Value} {D : va_G} {cy : Cy} {T : Ty} {M : Mm} {R : Rm} {A : Nat → Prop} {own : String} {n : Nat} {ret : Option FieldType} {index a : Nat} (C : Cx own cc n ret p s m args meth c D cy A) (hP : va_P D vwCl (WL cy T M R) H) (ha : isK T a 5 = true) (hl : Cond.fieldLink own index "IceTongue$Tongue" "melted" "J" ∈ GW) (hdg : decode cc pc = .ok (.getfield index, 3)) (kk : W p l e Rr s m args below meth c H locs cells slots Q (F0 m (pc + 3) ls (.long (gJ M a 9) :: rest))) : W p l e Rr s m args below meth c H locs cells slots Q (F0 m pc ls (.ref a :: rest)) := by
  obtain ⟨hx, hb, -, hml, hown, hts, hK, hA, -, hSt⟩ := C
  obtain ⟨q, hq⟩ := wl_get (cy := cy) (M := M) (R := R) ha
  rw [ce_5 (isK_knd ha)] at hq
  exact va_get (D := D) (ci := 5) (v := .long (gJ M a 9)) (C := RX5) (T := TX5) (N := 11) hx hb hts inlX5 hown hK hP q hq rfl 9 (by decide) (hts _ hl) (fun _ h9 => h9) rfl hdg kk
theorem pe_5_9 {cy : Cy} {T : Ty} {M : Mm} {R : Rm} {a : Nat} {x : Int64} (ha : isK T a 5 = true) (y : Nat) : va_up (ce cy T M R) a (.inr (5, ([va_rf (R a 0), va_rf (R a 1), va_rf (R a 2), va_rf (R a 3), .int (M.1 a 4), .int (M.1 a 5), .int (M.1 a 6), .long (M.2 a 7), .long (M.2 a 8), .long (M.2 a 9), .long (M.2 a 10)] : List Value).set 9 (.long x))) y = ce cy T (sJ M a 9 x) R y := by
  have hk := isK_knd ha
  unfold va_up
  by_cases h : y = a
  · subst h
    rw [if_pos rfl, ce_5 hk]
    simp [sI, sJ, up2, va_rf]
  · rw [if_neg h]
    exact ce_congr (by first | rfl | exact up2_ne h) (by first | rfl | exact up2_ne h) (by first | rfl | exact up2_ne h)
theorem pf_5_9 {p : Program} {l : Launch} {e : Env} {Rr : Room} {s : State} {m : MethodId} {args : Array Value} {below : List Frame} {meth : Method} {c : Code} {H : Heap} {locs : List Loc} {cells slots : Nat} {Q : State → Prop} {cc : ByteArray} {pc : Nat} {ls : Array Slot} {rest : List Value} {D : va_G} {cy : Cy} {T : Ty} {M : Mm} {R : Rm} {A : Nat → Prop} {own : String} {n : Nat} {ret : Option FieldType} {index a : Nat} {x : Int64} (C : Cx own cc n ret p s m args meth c D cy A) (hP : va_P D vwCl (WL cy T M R) H) (hD : va_D A (WL cy T M R)) (hS : va_S A s.heap H locs) (ha : isK T a 5 = true) (hl : Cond.fieldLink own index "IceTongue$Tongue" "melted" "J" ∈ GW) (hdg : decode cc pc = .ok (.putfield index, 3)) (kk : ∀ (M1 : Mm) (H1 : Heap) (locs1 : List Loc), M1 = sJ M a 9 x → va_P D vwCl (WL cy T M1 R) H1 → va_D A (WL cy T M1 R) → va_S A s.heap H1 locs1 → W p l e Rr s m args below meth c H1 locs1 cells slots Q (F0 m (pc + 3) ls rest)) : W p l e Rr s m args below meth c H locs cells slots Q (F0 m pc ls (.long x :: .ref a :: rest)) := by
  obtain ⟨hx, hb, -, hml, hown, hts, hK, hA, -, hSt⟩ := C
  obtain ⟨q, hq⟩ := wl_get (cy := cy) (M := M) (R := R) ha
  have hq0 := hq
  rw [ce_5 (isK_knd ha)] at hq
  refine va_put (D := D) (ci := 5) (v := .long x) (ty := .long) (C := RX5) (T := TX5) (N := 11) hx hb hts inlX5 tyX5 tyX5_ok nmX5 hown hK hP hD hS q hq rfl 9 (by decide) (hts _ hl) (fun _ h9 => h9) rfl (by decide +kernel) rfl rfl (Nat.le_of_ble_eq_true rfl) hdg (fun H1 locs1 hP1 hD1 hS1 => ?_)
  rw [wl_set hD ha hq0 (pe_5_9 ha)] at hP1 hD1
  exact kk _ H1 locs1 rfl hP1 hD1 hS1
theorem gf_5_10 {p : Program} {l : Launch} {e : Env} {Rr : Room} {s : State} {m : MethodId} {args : Array Value} {below : List Frame} {meth : Method} {c : Code} {H : Heap} {locs : List Loc} {cells slots : Nat} {Q : State → Prop} {cc : ByteArray} {pc : Nat} {ls : Array Slot} {rest : List Value} {D : va_G} {cy : Cy} {T : Ty} {M : Mm} {R : Rm} {A : Nat → Prop} {own : String} {n : Nat} {ret : Option FieldType} {index a : Nat} (C : Cx own cc n ret p s m args meth c D cy A) (hP : va_P D vwCl (WL cy T M R) H) (ha : isK T a 5 = true) (hl : Cond.fieldLink own index "IceTongue$Tongue" "calved" "J" ∈ GW) (hdg : decode cc pc = .ok (.getfield index, 3)) (kk : W p l e Rr s m args below meth c H locs cells slots Q (F0 m (pc + 3) ls (.long (gJ M a 10) :: rest))) : W p l e Rr s m args below meth c H locs cells slots Q (F0 m pc ls (.ref a :: rest)) := by
  obtain ⟨hx, hb, -, hml, hown, hts, hK, hA, -, hSt⟩ := C
  obtain ⟨q, hq⟩ := wl_get (cy := cy) (M := M) (R := R) ha
  rw [ce_5 (isK_knd ha)] at hq
  exact va_get (D := D) (ci := 5) (v := .long (gJ M a 10)) (C := RX5) (T := TX5) (N := 11) hx hb hts inlX5 hown hK hP q hq rfl 10 (by decide) (hts _ hl) (fun _ h9 => h9) rfl hdg kk
theorem pe_5_10 {cy : Cy} {T : Ty} {M : Mm} {R : Rm} {a : Nat} {x : Int64} (ha : isK T a 5 = true) (y : Nat) : va_up (ce cy T M R) a (.inr (5, ([va_rf (R a 0), va_rf (R a 1), va_rf (R a 2), va_rf (R a 3), .int (M.1 a 4), .int (M.1 a 5), .int (M.1 a 6), .long (M.2 a 7), .long (M.2 a 8), .long (M.2 a 9), .long (M.2 a 10)] : List Value).set 10 (.long x))) y = ce cy T (sJ M a 10 x) R y := by
  have hk := isK_knd ha
  unfold va_up
  by_cases h : y = a
  · subst h
    rw [if_pos rfl, ce_5 hk]
    simp [sI, sJ, up2, va_rf]
  · rw [if_neg h]
    exact ce_congr (by first | rfl | exact up2_ne h) (by first | rfl | exact up2_ne h) (by first | rfl | exact up2_ne h)
theorem pf_5_10 {p : Program} {l : Launch} {e : Env} {Rr : Room} {s : State} {m : MethodId} {args : Array Value} {below : List Frame} {meth : Method} {c : Code} {H : Heap} {locs : List Loc} {cells slots : Nat} {Q : State → Prop} {cc : ByteArray} {pc : Nat} {ls : Array Slot} {rest : List Value} {D : va_G} {cy : Cy} {T : Ty} {M : Mm} {R : Rm} {A : Nat → Prop} {own : String} {n : Nat} {ret : Option FieldType} {index a : Nat} {x : Int64} (C : Cx own cc n ret p s m args meth c D cy A) (hP : va_P D vwCl (WL cy T M R) H) (hD : va_D A (WL cy T M R)) (hS : va_S A s.heap H locs) (ha : isK T a 5 = true) (hl : Cond.fieldLink own index "IceTongue$Tongue" "calved" "J" ∈ GW) (hdg : decode cc pc = .ok (.putfield index, 3)) (kk : ∀ (M1 : Mm) (H1 : Heap) (locs1 : List Loc), M1 = sJ M a 10 x → va_P D vwCl (WL cy T M1 R) H1 → va_D A (WL cy T M1 R) → va_S A s.heap H1 locs1 → W p l e Rr s m args below meth c H1 locs1 cells slots Q (F0 m (pc + 3) ls rest)) : W p l e Rr s m args below meth c H locs cells slots Q (F0 m pc ls (.long x :: .ref a :: rest)) := by
  obtain ⟨hx, hb, -, hml, hown, hts, hK, hA, -, hSt⟩ := C
  obtain ⟨q, hq⟩ := wl_get (cy := cy) (M := M) (R := R) ha
  have hq0 := hq
  rw [ce_5 (isK_knd ha)] at hq
  refine va_put (D := D) (ci := 5) (v := .long x) (ty := .long) (C := RX5) (T := TX5) (N := 11) hx hb hts inlX5 tyX5 tyX5_ok nmX5 hown hK hP hD hS q hq rfl 10 (by decide) (hts _ hl) (fun _ h9 => h9) rfl (by decide +kernel) rfl rfl (Nat.le_of_ble_eq_true rfl) hdg (fun H1 locs1 hP1 hD1 hS1 => ?_)
  rw [wl_set hD ha hq0 (pe_5_10 ha)] at hP1 hD1
  exact kk _ H1 locs1 rfl hP1 hD1 hS1
theorem gf_6_0 {p : Program} {l : Launch} {e : Env} {Rr : Room} {s : State} {m : MethodId} {args : Array Value} {below : List Frame} {meth : Method} {c : Code} {H : Heap} {locs : List Loc} {cells slots : Nat} {Q : State → Prop} {cc : ByteArray} {pc : Nat} {ls : Array Slot} {rest : List Value} {D : va_G} {cy : Cy} {T : Ty} {M : Mm} {R : Rm} {A : Nat → Prop} {own : String} {n : Nat} {ret : Option FieldType} {index a : Nat} (C : Cx own cc n ret p s m args meth c D cy A) (hP : va_P D vwCl (WL cy T M R) H) (ha : isK T a 6 = true) {b : Nat} (eb : R a 0 = some b) (hl : Cond.fieldLink own index "IceTongue" "trial" "LIceTongue$Tongue;" ∈ GW) (hdg : decode cc pc = .ok (.getfield index, 3)) (kk : W p l e Rr s m args below meth c H locs cells slots Q (F0 m (pc + 3) ls (.ref b :: rest))) : W p l e Rr s m args below meth c H locs cells slots Q (F0 m pc ls (.ref a :: rest)) := by
  obtain ⟨hx, hb, -, hml, hown, hts, hK, hA, -, hSt⟩ := C
  obtain ⟨q, hq⟩ := wl_get (cy := cy) (M := M) (R := R) ha
  rw [ce_6 (isK_knd ha)] at hq
  exact va_get (D := D) (ci := 6) (v := .ref b) (C := RX6) (T := TX6) (N := 5) hx hb hts inlX6 hown hK hP q hq rfl 0 (by decide) (hts _ hl) (fun _ h9 => h9) (show some (va_rf (R a 0)) = some (.ref b) from by rw [eb]; rfl) hdg kk
theorem pe_6_0 {cy : Cy} {T : Ty} {M : Mm} {R : Rm} {a : Nat} {b : Nat} (ha : isK T a 6 = true) (y : Nat) : va_up (ce cy T M R) a (.inr (6, ([va_rf (R a 0), va_rf (R a 1), va_rf (R a 2), va_rf (R a 3), .int (M.1 a 4)] : List Value).set 0 (.ref b))) y = ce cy T M (up2 R a 0 (some b)) y := by
  have hk := isK_knd ha
  unfold va_up
  by_cases h : y = a
  · subst h
    rw [if_pos rfl, ce_6 hk]
    simp [sI, sJ, up2, va_rf]
  · rw [if_neg h]
    exact ce_congr (by first | rfl | exact up2_ne h) (by first | rfl | exact up2_ne h) (by first | rfl | exact up2_ne h)
theorem pf_6_0 {p : Program} {l : Launch} {e : Env} {Rr : Room} {s : State} {m : MethodId} {args : Array Value} {below : List Frame} {meth : Method} {c : Code} {H : Heap} {locs : List Loc} {cells slots : Nat} {Q : State → Prop} {cc : ByteArray} {pc : Nat} {ls : Array Slot} {rest : List Value} {D : va_G} {cy : Cy} {T : Ty} {M : Mm} {R : Rm} {A : Nat → Prop} {own : String} {n : Nat} {ret : Option FieldType} {index a : Nat} {b : Nat} (C : Cx own cc n ret p s m args meth c D cy A) (hP : va_P D vwCl (WL cy T M R) H) (hD : va_D A (WL cy T M R)) (hS : va_S A s.heap H locs) (ha : isK T a 6 = true) (hl : Cond.fieldLink own index "IceTongue" "trial" "LIceTongue$Tongue;" ∈ GW) (hin : meth.name = "<init>") (hO : (TX6 0).1 = own) (hdg : decode cc pc = .ok (.putfield index, 3)) (kk : ∀ (R1 : Rm) (H1 : Heap) (locs1 : List Loc), R1 = up2 R a 0 (some b) → va_P D vwCl (WL cy T M R1) H1 → va_D A (WL cy T M R1) → va_S A s.heap H1 locs1 → W p l e Rr s m args below meth c H1 locs1 cells slots Q (F0 m (pc + 3) ls rest)) : W p l e Rr s m args below meth c H locs cells slots Q (F0 m pc ls (.ref b :: .ref a :: rest)) := by
  obtain ⟨hx, hb, -, hml, hown, hts, hK, hA, -, hSt⟩ := C
  obtain ⟨q, hq⟩ := wl_get (cy := cy) (M := M) (R := R) ha
  have hq0 := hq
  rw [ce_6 (isK_knd ha)] at hq
  refine va_putF (D := D) (ci := 6) (v := .ref b) (ty := (tyX6 0)) (C := RX6) (T := TX6) (N := 5) hx hb hts inlX6 tyX6 tyX6_ok nmX6 hown hK hP hD hS q hq rfl 0 (by decide) (hts _ hl) (fun _ h9 => h9) rfl hin hO (by decide +kernel) rfl rfl (Nat.le_of_ble_eq_true rfl) hdg (fun H1 locs1 hP1 hD1 hS1 => ?_)
  rw [wl_set hD ha hq0 (pe_6_0 ha)] at hP1 hD1
  exact kk _ H1 locs1 rfl hP1 hD1 hS1
theorem gf_6_1 {p : Program} {l : Launch} {e : Env} {Rr : Room} {s : State} {m : MethodId} {args : Array Value} {below : List Frame} {meth : Method} {c : Code} {H : Heap} {locs : List Loc} {cells slots : Nat} {Q : State → Prop} {cc : ByteArray} {pc : Nat} {ls : Array Slot} {rest : List Value} {D : va_G} {cy : Cy} {T : Ty} {M : Mm} {R : Rm} {A : Nat → Prop} {own : String} {n : Nat} {ret : Option FieldType} {index a : Nat} (C : Cx own cc n ret p s m args meth c D cy A) (hP : va_P D vwCl (WL cy T M R) H) (ha : isK T a 6 = true) {b : Nat} (eb : R a 1 = some b) (hl : Cond.fieldLink own index "IceTongue" "history" "[LIceTongue$Tongue;" ∈ GW) (hdg : decode cc pc = .ok (.getfield index, 3)) (kk : W p l e Rr s m args below meth c H locs cells slots Q (F0 m (pc + 3) ls (.ref b :: rest))) : W p l e Rr s m args below meth c H locs cells slots Q (F0 m pc ls (.ref a :: rest)) := by
  obtain ⟨hx, hb, -, hml, hown, hts, hK, hA, -, hSt⟩ := C
  obtain ⟨q, hq⟩ := wl_get (cy := cy) (M := M) (R := R) ha
  rw [ce_6 (isK_knd ha)] at hq
  exact va_get (D := D) (ci := 6) (v := .ref b) (C := RX6) (T := TX6) (N := 5) hx hb hts inlX6 hown hK hP q hq rfl 1 (by decide) (hts _ hl) (fun _ h9 => h9) (show some (va_rf (R a 1)) = some (.ref b) from by rw [eb]; rfl) hdg kk
theorem pe_6_1 {cy : Cy} {T : Ty} {M : Mm} {R : Rm} {a : Nat} {b : Nat} (ha : isK T a 6 = true) (y : Nat) : va_up (ce cy T M R) a (.inr (6, ([va_rf (R a 0), va_rf (R a 1), va_rf (R a 2), va_rf (R a 3), .int (M.1 a 4)] : List Value).set 1 (.ref b))) y = ce cy T M (up2 R a 1 (some b)) y := by
  have hk := isK_knd ha
  unfold va_up
  by_cases h : y = a
  · subst h
    rw [if_pos rfl, ce_6 hk]
    simp [sI, sJ, up2, va_rf]
  · rw [if_neg h]
    exact ce_congr (by first | rfl | exact up2_ne h) (by first | rfl | exact up2_ne h) (by first | rfl | exact up2_ne h)
theorem pf_6_1 {p : Program} {l : Launch} {e : Env} {Rr : Room} {s : State} {m : MethodId} {args : Array Value} {below : List Frame} {meth : Method} {c : Code} {H : Heap} {locs : List Loc} {cells slots : Nat} {Q : State → Prop} {cc : ByteArray} {pc : Nat} {ls : Array Slot} {rest : List Value} {D : va_G} {cy : Cy} {T : Ty} {M : Mm} {R : Rm} {A : Nat → Prop} {own : String} {n : Nat} {ret : Option FieldType} {index a : Nat} {b : Nat} (C : Cx own cc n ret p s m args meth c D cy A) (hP : va_P D vwCl (WL cy T M R) H) (hD : va_D A (WL cy T M R)) (hS : va_S A s.heap H locs) (ha : isK T a 6 = true) (hl : Cond.fieldLink own index "IceTongue" "history" "[LIceTongue$Tongue;" ∈ GW) (hin : meth.name = "<init>") (hO : (TX6 1).1 = own) (hdg : decode cc pc = .ok (.putfield index, 3)) (kk : ∀ (R1 : Rm) (H1 : Heap) (locs1 : List Loc), R1 = up2 R a 1 (some b) → va_P D vwCl (WL cy T M R1) H1 → va_D A (WL cy T M R1) → va_S A s.heap H1 locs1 → W p l e Rr s m args below meth c H1 locs1 cells slots Q (F0 m (pc + 3) ls rest)) : W p l e Rr s m args below meth c H locs cells slots Q (F0 m pc ls (.ref b :: .ref a :: rest)) := by
  obtain ⟨hx, hb, -, hml, hown, hts, hK, hA, -, hSt⟩ := C
  obtain ⟨q, hq⟩ := wl_get (cy := cy) (M := M) (R := R) ha
  have hq0 := hq
  rw [ce_6 (isK_knd ha)] at hq
  refine va_putF (D := D) (ci := 6) (v := .ref b) (ty := (tyX6 1)) (C := RX6) (T := TX6) (N := 5) hx hb hts inlX6 tyX6 tyX6_ok nmX6 hown hK hP hD hS q hq rfl 1 (by decide) (hts _ hl) (fun _ h9 => h9) rfl hin hO (by decide +kernel) rfl rfl (Nat.le_of_ble_eq_true rfl) hdg (fun H1 locs1 hP1 hD1 hS1 => ?_)
  rw [wl_set hD ha hq0 (pe_6_1 ha)] at hP1 hD1
  exact kk _ H1 locs1 rfl hP1 hD1 hS1
theorem gf_6_2 {p : Program} {l : Launch} {e : Env} {Rr : Room} {s : State} {m : MethodId} {args : Array Value} {below : List Frame} {meth : Method} {c : Code} {H : Heap} {locs : List Loc} {cells slots : Nat} {Q : State → Prop} {cc : ByteArray} {pc : Nat} {ls : Array Slot} {rest : List Value} {D : va_G} {cy : Cy} {T : Ty} {M : Mm} {R : Rm} {A : Nat → Prop} {own : String} {n : Nat} {ret : Option FieldType} {index a : Nat} (C : Cx own cc n ret p s m args meth c D cy A) (hP : va_P D vwCl (WL cy T M R) H) (ha : isK T a 6 = true) {b : Nat} (eb : R a 2 = some b) (hl : Cond.fieldLink own index "IceTongue" "text" "LIceTongue$Text;" ∈ GW) (hdg : decode cc pc = .ok (.getfield index, 3)) (kk : W p l e Rr s m args below meth c H locs cells slots Q (F0 m (pc + 3) ls (.ref b :: rest))) : W p l e Rr s m args below meth c H locs cells slots Q (F0 m pc ls (.ref a :: rest)) := by
  obtain ⟨hx, hb, -, hml, hown, hts, hK, hA, -, hSt⟩ := C
  obtain ⟨q, hq⟩ := wl_get (cy := cy) (M := M) (R := R) ha
  rw [ce_6 (isK_knd ha)] at hq
  exact va_get (D := D) (ci := 6) (v := .ref b) (C := RX6) (T := TX6) (N := 5) hx hb hts inlX6 hown hK hP q hq rfl 2 (by decide) (hts _ hl) (fun _ h9 => h9) (show some (va_rf (R a 2)) = some (.ref b) from by rw [eb]; rfl) hdg kk
theorem pe_6_2 {cy : Cy} {T : Ty} {M : Mm} {R : Rm} {a : Nat} {b : Nat} (ha : isK T a 6 = true) (y : Nat) : va_up (ce cy T M R) a (.inr (6, ([va_rf (R a 0), va_rf (R a 1), va_rf (R a 2), va_rf (R a 3), .int (M.1 a 4)] : List Value).set 2 (.ref b))) y = ce cy T M (up2 R a 2 (some b)) y := by
  have hk := isK_knd ha
  unfold va_up
  by_cases h : y = a
  · subst h
    rw [if_pos rfl, ce_6 hk]
    simp [sI, sJ, up2, va_rf]
  · rw [if_neg h]
    exact ce_congr (by first | rfl | exact up2_ne h) (by first | rfl | exact up2_ne h) (by first | rfl | exact up2_ne h)
theorem pf_6_2 {p : Program} {l : Launch} {e : Env} {Rr : Room} {s : State} {m : MethodId} {args : Array Value} {below : List Frame} {meth : Method} {c : Code} {H : Heap} {locs : List Loc} {cells slots : Nat} {Q : State → Prop} {cc : ByteArray} {pc : Nat} {ls : Array Slot} {rest : List Value} {D : va_G} {cy : Cy} {T : Ty} {M : Mm} {R : Rm} {A : Nat → Prop} {own : String} {n : Nat} {ret : Option FieldType} {index a : Nat} {b : Nat} (C : Cx own cc n ret p s m args meth c D cy A) (hP : va_P D vwCl (WL cy T M R) H) (hD : va_D A (WL cy T M R)) (hS : va_S A s.heap H locs) (ha : isK T a 6 = true) (hl : Cond.fieldLink own index "IceTongue" "text" "LIceTongue$Text;" ∈ GW) (hin : meth.name = "<init>") (hO : (TX6 2).1 = own) (hdg : decode cc pc = .ok (.putfield index, 3)) (kk : ∀ (R1 : Rm) (H1 : Heap) (locs1 : List Loc), R1 = up2 R a 2 (some b) → va_P D vwCl (WL cy T M R1) H1 → va_D A (WL cy T M R1) → va_S A s.heap H1 locs1 → W p l e Rr s m args below meth c H1 locs1 cells slots Q (F0 m (pc + 3) ls rest)) : W p l e Rr s m args below meth c H locs cells slots Q (F0 m pc ls (.ref b :: .ref a :: rest)) := by
  obtain ⟨hx, hb, -, hml, hown, hts, hK, hA, -, hSt⟩ := C
  obtain ⟨q, hq⟩ := wl_get (cy := cy) (M := M) (R := R) ha
  have hq0 := hq
  rw [ce_6 (isK_knd ha)] at hq
  refine va_putF (D := D) (ci := 6) (v := .ref b) (ty := (tyX6 2)) (C := RX6) (T := TX6) (N := 5) hx hb hts inlX6 tyX6 tyX6_ok nmX6 hown hK hP hD hS q hq rfl 2 (by decide) (hts _ hl) (fun _ h9 => h9) rfl hin hO (by decide +kernel) rfl rfl (Nat.le_of_ble_eq_true rfl) hdg (fun H1 locs1 hP1 hD1 hS1 => ?_)
  rw [wl_set hD ha hq0 (pe_6_2 ha)] at hP1 hD1
  exact kk _ H1 locs1 rfl hP1 hD1 hS1
theorem gf_6_3 {p : Program} {l : Launch} {e : Env} {Rr : Room} {s : State} {m : MethodId} {args : Array Value} {below : List Frame} {meth : Method} {c : Code} {H : Heap} {locs : List Loc} {cells slots : Nat} {Q : State → Prop} {cc : ByteArray} {pc : Nat} {ls : Array Slot} {rest : List Value} {D : va_G} {cy : Cy} {T : Ty} {M : Mm} {R : Rm} {A : Nat → Prop} {own : String} {n : Nat} {ret : Option FieldType} {index a : Nat} (C : Cx own cc n ret p s m args meth c D cy A) (hP : va_P D vwCl (WL cy T M R) H) (ha : isK T a 6 = true) {b : Nat} (eb : R a 3 = some b) (hl : Cond.fieldLink own index "IceTongue" "now" "LIceTongue$Tongue;" ∈ GW) (hdg : decode cc pc = .ok (.getfield index, 3)) (kk : W p l e Rr s m args below meth c H locs cells slots Q (F0 m (pc + 3) ls (.ref b :: rest))) : W p l e Rr s m args below meth c H locs cells slots Q (F0 m pc ls (.ref a :: rest)) := by
  obtain ⟨hx, hb, -, hml, hown, hts, hK, hA, -, hSt⟩ := C
  obtain ⟨q, hq⟩ := wl_get (cy := cy) (M := M) (R := R) ha
  rw [ce_6 (isK_knd ha)] at hq
  exact va_get (D := D) (ci := 6) (v := .ref b) (C := RX6) (T := TX6) (N := 5) hx hb hts inlX6 hown hK hP q hq rfl 3 (by decide) (hts _ hl) (fun _ h9 => h9) (show some (va_rf (R a 3)) = some (.ref b) from by rw [eb]; rfl) hdg kk
theorem pe_6_3 {cy : Cy} {T : Ty} {M : Mm} {R : Rm} {a : Nat} {b : Nat} (ha : isK T a 6 = true) (y : Nat) : va_up (ce cy T M R) a (.inr (6, ([va_rf (R a 0), va_rf (R a 1), va_rf (R a 2), va_rf (R a 3), .int (M.1 a 4)] : List Value).set 3 (.ref b))) y = ce cy T M (up2 R a 3 (some b)) y := by
  have hk := isK_knd ha
  unfold va_up
  by_cases h : y = a
  · subst h
    rw [if_pos rfl, ce_6 hk]
    simp [sI, sJ, up2, va_rf]
  · rw [if_neg h]
    exact ce_congr (by first | rfl | exact up2_ne h) (by first | rfl | exact up2_ne h) (by first | rfl | exact up2_ne h)
theorem pf_6_3 {p : Program} {l : Launch} {e : Env} {Rr : Room} {s : State} {m : MethodId} {args : Array Value} {below : List Frame} {meth : Method} {c : Code} {H : Heap} {locs : List Loc} {cells slots : Nat} {Q : State → Prop} {cc : ByteArray} {pc : Nat} {ls : Array Slot} {rest : List Value} {D : va_G} {cy : Cy} {T : Ty} {M : Mm} {R : Rm} {A : Nat → Prop} {own : String} {n : Nat} {ret : Option FieldType} {index a : Nat} {b : Nat} (C : Cx own cc n ret p s m args meth c D cy A) (hP : va_P D vwCl (WL cy T M R) H) (hD : va_D A (WL cy T M R)) (hS : va_S A s.heap H locs) (ha : isK T a 6 = true) (hl : Cond.fieldLink own index "IceTongue" "now" "LIceTongue$Tongue;" ∈ GW) (hdg : decode cc pc = .ok (.putfield index, 3)) (kk : ∀ (R1 : Rm) (H1 : Heap) (locs1 : List Loc), R1 = up2 R a 3 (some b) → va_P D vwCl (WL cy T M R1) H1 → va_D A (WL cy T M R1) → va_S A s.heap H1 locs1 → W p l e Rr s m args below meth c H1 locs1 cells slots Q (F0 m (pc + 3) ls rest)) : W p l e Rr s m args below meth c H locs cells slots Q (F0 m pc ls (.ref b :: .ref a :: rest)) := by
  obtain ⟨hx, hb, -, hml, hown, hts, hK, hA, -, hSt⟩ := C
  obtain ⟨q, hq⟩ := wl_get (cy := cy) (M := M) (R := R) ha
  have hq0 := hq
  rw [ce_6 (isK_knd ha)] at hq
  refine va_put (D := D) (ci := 6) (v := .ref b) (ty := (tyX6 3)) (C := RX6) (T := TX6) (N := 5) hx hb hts inlX6 tyX6 tyX6_ok nmX6 hown hK hP hD hS q hq rfl 3 (by decide) (hts _ hl) (fun _ h9 => h9) rfl (by decide +kernel) rfl rfl (Nat.le_of_ble_eq_true rfl) hdg (fun H1 locs1 hP1 hD1 hS1 => ?_)
  rw [wl_set hD ha hq0 (pe_6_3 ha)] at hP1 hD1
  exact kk _ H1 locs1 rfl hP1 hD1 hS1
theorem gf_6_4 {p : Program} {l : Launch} {e : Env} {Rr : Room} {s : State} {m : MethodId} {args : Array Value} {below : List Frame} {meth : Method} {c : Code} {H : Heap} {locs : List Loc} {cells slots : Nat} {Q : State → Prop} {cc : ByteArray} {pc : Nat} {ls : Array Slot} {rest : List Value} {D : va_G} {cy : Cy} {T : Ty} {M : Mm} {R : Rm} {A : Nat → Prop} {own : String} {n : Nat} {ret : Option FieldType} {index a : Nat} (C : Cx own cc n ret p s m args meth c D cy A) (hP : va_P D vwCl (WL cy T M R) H) (ha : isK T a 6 = true) (hl : Cond.fieldLink own index "IceTongue" "states" "I" ∈ GW) (hdg : decode cc pc = .ok (.getfield index, 3)) (kk : W p l e Rr s m args below meth c H locs cells slots Q (F0 m (pc + 3) ls (.int (gI M a 4) :: rest))) : W p l e Rr s m args below meth c H locs cells slots Q (F0 m pc ls (.ref a :: rest)) := by
  obtain ⟨hx, hb, -, hml, hown, hts, hK, hA, -, hSt⟩ := C
  obtain ⟨q, hq⟩ := wl_get (cy := cy) (M := M) (R := R) ha
  rw [ce_6 (isK_knd ha)] at hq
  exact va_get (D := D) (ci := 6) (v := .int (gI M a 4)) (C := RX6) (T := TX6) (N := 5) hx hb hts inlX6 hown hK hP q hq rfl 4 (by decide) (hts _ hl) (fun _ h9 => h9) rfl hdg kk
theorem pe_6_4 {cy : Cy} {T : Ty} {M : Mm} {R : Rm} {a : Nat} {x : Int32} (ha : isK T a 6 = true) (y : Nat) : va_up (ce cy T M R) a (.inr (6, ([va_rf (R a 0), va_rf (R a 1), va_rf (R a 2), va_rf (R a 3), .int (M.1 a 4)] : List Value).set 4 (.int x))) y = ce cy T (sI M a 4 x) R y := by
  have hk := isK_knd ha
  unfold va_up
  by_cases h : y = a
  · subst h
    rw [if_pos rfl, ce_6 hk]
    simp [sI, sJ, up2, va_rf]
  · rw [if_neg h]
    exact ce_congr (by first | rfl | exact up2_ne h) (by first | rfl | exact up2_ne h) (by first | rfl | exact up2_ne h)
theorem pf_6_4 {p : Program} {l : Launch} {e : Env} {Rr : Room} {s : State} {m : MethodId} {args : Array Value} {below : List Frame} {meth : Method} {c : Code} {H : Heap} {locs : List Loc} {cells slots : Nat} {Q : State → Prop} {cc : ByteArray} {pc : Nat} {ls : Array Slot} {rest : List Value} {D : va_G} {cy : Cy} {T : Ty} {M : Mm} {R : Rm} {A : Nat → Prop} {own : String} {n : Nat} {ret : Option FieldType} {index a : Nat} {x : Int32} (C : Cx own cc n ret p s m args meth c D cy A) (hP : va_P D vwCl (WL cy T M R) H) (hD : va_D A (WL cy T M R)) (hS : va_S A s.heap H locs) (ha : isK T a 6 = true) (hl : Cond.fieldLink own index "IceTongue" "states" "I" ∈ GW) (hdg : decode cc pc = .ok (.putfield index, 3)) (kk : ∀ (M1 : Mm) (H1 : Heap) (locs1 : List Loc), M1 = sI M a 4 x → va_P D vwCl (WL cy T M1 R) H1 → va_D A (WL cy T M1 R) → va_S A s.heap H1 locs1 → W p l e Rr s m args below meth c H1 locs1 cells slots Q (F0 m (pc + 3) ls rest)) : W p l e Rr s m args below meth c H locs cells slots Q (F0 m pc ls (.int x :: .ref a :: rest)) := by
  obtain ⟨hx, hb, -, hml, hown, hts, hK, hA, -, hSt⟩ := C
  obtain ⟨q, hq⟩ := wl_get (cy := cy) (M := M) (R := R) ha
  have hq0 := hq
  rw [ce_6 (isK_knd ha)] at hq
  refine va_put (D := D) (ci := 6) (v := .int x) (ty := .int) (C := RX6) (T := TX6) (N := 5) hx hb hts inlX6 tyX6 tyX6_ok nmX6 hown hK hP hD hS q hq rfl 4 (by decide) (hts _ hl) (fun _ h9 => h9) rfl (by decide +kernel) rfl rfl (Nat.le_of_ble_eq_true rfl) hdg (fun H1 locs1 hP1 hD1 hS1 => ?_)
  rw [wl_set hD ha hq0 (pe_6_4 ha)] at hP1 hD1
  exact kk _ H1 locs1 rfl hP1 hD1 hS1
theorem ar_8 {p : Program} {l : Launch} {e : Env} {Rr : Room} {s : State} {m : MethodId} {args : Array Value} {below : List Frame} {meth : Method} {c : Code} {H : Heap} {locs : List Loc} {cells slots : Nat} {Q : State → Prop} {cc : ByteArray} {pc : Nat} {ls : Array Slot} {rest : List Value} {D : va_G} {cy : Cy} {T : Ty} {M : Mm} {R : Rm} {A : Nat → Prop} {own : String} {n : Nat} {ret : Option FieldType} {a : Nat} {i : Int32} (C : Cx own cc n ret p s m args meth c D cy A) (hP : va_P D vwCl (WL cy T M R) H) (ha : isK T a 8 = true) (hi : inb i (lnT T a) = true) (hdg : decode cc pc = .ok (.caload, 1)) (kk : W p l e Rr s m args below meth c H locs cells slots Q (F0 m (pc + 1) ls (.int (gI M a i.toNatClampNeg) :: rest))) : W p l e Rr s m args below meth c H locs cells slots Q (F0 m pc ls (.int i :: .ref a :: rest)) := by
  obtain ⟨hx, hb, -, hml, hown, hts, hK, hA, -, hSt⟩ := C
  obtain ⟨q, hq⟩ := wl_get (cy := cy) (M := M) (R := R) ha
  rw [ce_8 (isK_knd ha)] at hq
  exact va_cald hx hb hK hP q 0 hq rfl (inb_vp hi) hdg kk
theorem ae_8 {cy : Cy} {T : Ty} {M : Mm} {R : Rm} {a j : Nat} {x : Int32} (ha : isK T a 8 = true) (y : Nat) : va_up (ce cy T M R) a (.inl (cy.1, T.2.2 a, .inl (upd (M.1 a) j x))) y = ce cy T (sI M a j x) R y := by
  have hk := isK_knd ha
  unfold va_up
  by_cases h : y = a
  · subst h
    rw [if_pos rfl, ce_8 hk]
    have e : (upd (M.1 y) j x) = (sI M y j x).1 y := by
      funext z
      simp [sI, up2, upd]
    rw [e]
  · rw [if_neg h]
    exact ce_congr (by first | rfl | exact up2_ne h) (by first | rfl | exact up2_ne h) (by first | rfl | exact up2_ne h)
theorem aw_8 {p : Program} {l : Launch} {e : Env} {Rr : Room} {s : State} {m : MethodId} {args : Array Value} {below : List Frame} {meth : Method} {c : Code} {H : Heap} {locs : List Loc} {cells slots : Nat} {Q : State → Prop} {cc : ByteArray} {pc : Nat} {ls : Array Slot} {rest : List Value} {D : va_G} {cy : Cy} {T : Ty} {M : Mm} {R : Rm} {A : Nat → Prop} {own : String} {n : Nat} {ret : Option FieldType} {a : Nat} {i x : Int32} (C : Cx own cc n ret p s m args meth c D cy A) (hP : va_P D vwCl (WL cy T M R) H) (hD : va_D A (WL cy T M R)) (hS : va_S A s.heap H locs) (ha : isK T a 8 = true) (hi : inb i (lnT T a) = true) (hdg : decode cc pc = .ok (.castore, 1)) (kk : ∀ (M1 : Mm) (H1 : Heap) (locs1 : List Loc), M1 = sI M a i.toNatClampNeg (vp_nar .char x) → va_P D vwCl (WL cy T M1 R) H1 → va_D A (WL cy T M1 R) → va_S A s.heap H1 locs1 → W p l e Rr s m args below meth c H1 locs1 cells slots Q (F0 m (pc + 1) ls rest)) : W p l e Rr s m args below meth c H locs cells slots Q (F0 m pc ls (.int x :: .int i :: .ref a :: rest)) := by
  obtain ⟨hx, hb, -, hml, hown, hts, hK, hA, -, hSt⟩ := C
  obtain ⟨q, hq⟩ := wl_get (cy := cy) (M := M) (R := R) ha
  have hq0 := hq
  rw [ce_8 (isK_knd ha)] at hq
  refine va_cast hx hb hK hP hD hS q 0 hq rfl (inb_vp hi) hdg (fun H1 locs1 hP1 hD1 hS1 => ?_)
  have e9 := wl_set (cy := cy) (M := M) (R := R) (M1 := sI M a i.toNatClampNeg (vp_nar .char x)) (R1 := R) hD ha hq0 (ae_8 ha)
  rw [e9] at hP1 hD1
  exact kk _ H1 locs1 rfl hP1 hD1 hS1
theorem ar_9 {p : Program} {l : Launch} {e : Env} {Rr : Room} {s : State} {m : MethodId} {args : Array Value} {below : List Frame} {meth : Method} {c : Code} {H : Heap} {locs : List Loc} {cells slots : Nat} {Q : State → Prop} {cc : ByteArray} {pc : Nat} {ls : Array Slot} {rest : List Value} {D : va_G} {cy : Cy} {T : Ty} {M : Mm} {R : Rm} {A : Nat → Prop} {own : String} {n : Nat} {ret : Option FieldType} {a : Nat} {i : Int32} (C : Cx own cc n ret p s m args meth c D cy A) (hP : va_P D vwCl (WL cy T M R) H) (ha : isK T a 9 = true) (hi : inb i (lnT T a) = true) (hdg : decode cc pc = .ok (.iaload, 1)) (kk : W p l e Rr s m args below meth c H locs cells slots Q (F0 m (pc + 1) ls (.int (gI M a i.toNatClampNeg) :: rest))) : W p l e Rr s m args below meth c H locs cells slots Q (F0 m pc ls (.int i :: .ref a :: rest)) := by
  obtain ⟨hx, hb, -, hml, hown, hts, hK, hA, -, hSt⟩ := C
  obtain ⟨q, hq⟩ := wl_get (cy := cy) (M := M) (R := R) ha
  rw [ce_9 (isK_knd ha)] at hq
  exact va_iald hx hb hK hP q 1 hq rfl (inb_vp hi) hdg kk
theorem ae_9 {cy : Cy} {T : Ty} {M : Mm} {R : Rm} {a j : Nat} {x : Int32} (ha : isK T a 9 = true) (y : Nat) : va_up (ce cy T M R) a (.inl (cy.2.1, T.2.2 a, .inl (upd (M.1 a) j x))) y = ce cy T (sI M a j x) R y := by
  have hk := isK_knd ha
  unfold va_up
  by_cases h : y = a
  · subst h
    rw [if_pos rfl, ce_9 hk]
    have e : (upd (M.1 y) j x) = (sI M y j x).1 y := by
      funext z
      simp [sI, up2, upd]
    rw [e]
  · rw [if_neg h]
    exact ce_congr (by first | rfl | exact up2_ne h) (by first | rfl | exact up2_ne h) (by first | rfl | exact up2_ne h)
theorem aw_9 {p : Program} {l : Launch} {e : Env} {Rr : Room} {s : State} {m : MethodId} {args : Array Value} {below : List Frame} {meth : Method} {c : Code} {H : Heap} {locs : List Loc} {cells slots : Nat} {Q : State → Prop} {cc : ByteArray} {pc : Nat} {ls : Array Slot} {rest : List Value} {D : va_G} {cy : Cy} {T : Ty} {M : Mm} {R : Rm} {A : Nat → Prop} {own : String} {n : Nat} {ret : Option FieldType} {a : Nat} {i x : Int32} (C : Cx own cc n ret p s m args meth c D cy A) (hP : va_P D vwCl (WL cy T M R) H) (hD : va_D A (WL cy T M R)) (hS : va_S A s.heap H locs) (ha : isK T a 9 = true) (hi : inb i (lnT T a) = true) (hdg : decode cc pc = .ok (.iastore, 1)) (kk : ∀ (M1 : Mm) (H1 : Heap) (locs1 : List Loc), M1 = sI M a i.toNatClampNeg x → va_P D vwCl (WL cy T M1 R) H1 → va_D A (WL cy T M1 R) → va_S A s.heap H1 locs1 → W p l e Rr s m args below meth c H1 locs1 cells slots Q (F0 m (pc + 1) ls rest)) : W p l e Rr s m args below meth c H locs cells slots Q (F0 m pc ls (.int x :: .int i :: .ref a :: rest)) := by
  obtain ⟨hx, hb, -, hml, hown, hts, hK, hA, -, hSt⟩ := C
  obtain ⟨q, hq⟩ := wl_get (cy := cy) (M := M) (R := R) ha
  have hq0 := hq
  rw [ce_9 (isK_knd ha)] at hq
  refine va_iast hx hb hK hP hD hS q 1 hq rfl (inb_vp hi) hdg (fun H1 locs1 hP1 hD1 hS1 => ?_)
  have e9 := wl_set (cy := cy) (M := M) (R := R) (M1 := sI M a i.toNatClampNeg x) (R1 := R) hD ha hq0 (ae_9 ha)
  rw [e9] at hP1 hD1
  exact kk _ H1 locs1 rfl hP1 hD1 hS1
theorem ar_11 {p : Program} {l : Launch} {e : Env} {Rr : Room} {s : State} {m : MethodId} {args : Array Value} {below : List Frame} {meth : Method} {c : Code} {H : Heap} {locs : List Loc} {cells slots : Nat} {Q : State → Prop} {cc : ByteArray} {pc : Nat} {ls : Array Slot} {rest : List Value} {D : va_G} {cy : Cy} {T : Ty} {M : Mm} {R : Rm} {A : Nat → Prop} {own : String} {n : Nat} {ret : Option FieldType} {a b : Nat} {i : Int32} (C : Cx own cc n ret p s m args meth c D cy A) (hP : va_P D vwCl (WL cy T M R) H) (ha : isK T a 11 = true) (hi : inb i (lnT T a) = true) (eb : R a i.toNatClampNeg = some b) (hdg : decode cc pc = .ok (.aaload, 1)) (kk : W p l e Rr s m args below meth c H locs cells slots Q (F0 m (pc + 1) ls (.ref b :: rest))) : W p l e Rr s m args below meth c H locs cells slots Q (F0 m pc ls (.int i :: .ref a :: rest)) := by
  obtain ⟨hx, hb, -, hml, hown, hts, hK, hA, -, hSt⟩ := C
  obtain ⟨q, hq⟩ := wl_get (cy := cy) (M := M) (R := R) ha
  rw [ce_11 (isK_knd ha)] at hq
  refine va_aldq hx hb hK hP q 2 hq rfl (inb_vp hi) hdg ?_
  rw [eb]
  exact kk
theorem ae_11 {cy : Cy} {T : Ty} {M : Mm} {R : Rm} {a j b : Nat} (ha : isK T a 11 = true) (y : Nat) : va_up (ce cy T M R) a (.inl (cy.2.2.2.1, T.2.2 a, .inr (.inr (.inr (.inr (va_up (R a) j (some b))))))) y = ce cy T M (up2 R a j (some b)) y := by
  have hk := isK_knd ha
  unfold va_up
  by_cases h : y = a
  · subst h
    rw [if_pos rfl, ce_11 hk]
    have e : (fun z => if z = j then some b else R y z) = (up2 R y j (some b)) y := by
      funext z
      simp [up2]
    rw [e]
  · rw [if_neg h]
    exact ce_congr (by first | rfl | exact up2_ne h) (by first | rfl | exact up2_ne h) (by first | rfl | exact up2_ne h)
theorem aw_11 {p : Program} {l : Launch} {e : Env} {Rr : Room} {s : State} {m : MethodId} {args : Array Value} {below : List Frame} {meth : Method} {c : Code} {H : Heap} {locs : List Loc} {cells slots : Nat} {Q : State → Prop} {cc : ByteArray} {pc : Nat} {ls : Array Slot} {rest : List Value} {D : va_G} {cy : Cy} {T : Ty} {M : Mm} {R : Rm} {A : Nat → Prop} {own : String} {n : Nat} {ret : Option FieldType} {a b : Nat} {i : Int32} (C : Cx own cc n ret p s m args meth c D cy A) (hP : va_P D vwCl (WL cy T M R) H) (hD : va_D A (WL cy T M R)) (hS : va_S A s.heap H locs) (ha : isK T a 11 = true) (hi : inb i (lnT T a) = true) (hb9 : isK T b 0 = true) (hdg : decode cc pc = .ok (.aastore, 1)) (kk : ∀ (R1 : Rm) (H1 : Heap) (locs1 : List Loc), R1 = up2 R a i.toNatClampNeg (some b) → va_P D vwCl (WL cy T M R1) H1 → va_D A (WL cy T M R1) → va_S A s.heap H1 locs1 → W p l e Rr s m args below meth c H1 locs1 cells slots Q (F0 m (pc + 1) ls rest)) : W p l e Rr s m args below meth c H locs cells slots Q (F0 m pc ls (.ref b :: .int i :: .ref a :: rest)) := by
  obtain ⟨hx, hb, -, hml, hown, hts, hK, hA, -, hSt⟩ := C
  obtain ⟨q, hq⟩ := wl_get (cy := cy) (M := M) (R := R) ha
  have hq0 := hq
  rw [ce_11 (isK_knd ha)] at hq
  obtain ⟨q2, hq2⟩ := wl_get (cy := cy) (M := M) (R := R) hb9
  rw [ce_0 (isK_knd hb9)] at hq2
  refine va_astq hx hb hK hP hD hS q 2 q2 0 hq (r := (RX0, TX0, 7)) rfl hq2 rfl (inb_vp hi) hdg (fun H1 locs1 hP1 hD1 hS1 => ?_)
  have e9 := wl_set (cy := cy) (M := M) (R := R) (M1 := M) (R1 := up2 R a i.toNatClampNeg (some b)) hD ha hq0 (ae_11 ha)
  rw [e9] at hP1 hD1
  exact kk _ H1 locs1 rfl hP1 hD1 hS1
theorem ar_12 {p : Program} {l : Launch} {e : Env} {Rr : Room} {s : State} {m : MethodId} {args : Array Value} {below : List Frame} {meth : Method} {c : Code} {H : Heap} {locs : List Loc} {cells slots : Nat} {Q : State → Prop} {cc : ByteArray} {pc : Nat} {ls : Array Slot} {rest : List Value} {D : va_G} {cy : Cy} {T : Ty} {M : Mm} {R : Rm} {A : Nat → Prop} {own : String} {n : Nat} {ret : Option FieldType} {a b : Nat} {i : Int32} (C : Cx own cc n ret p s m args meth c D cy A) (hP : va_P D vwCl (WL cy T M R) H) (ha : isK T a 12 = true) (hi : inb i (lnT T a) = true) (eb : R a i.toNatClampNeg = some b) (hdg : decode cc pc = .ok (.aaload, 1)) (kk : W p l e Rr s m args below meth c H locs cells slots Q (F0 m (pc + 1) ls (.ref b :: rest))) : W p l e Rr s m args below meth c H locs cells slots Q (F0 m pc ls (.int i :: .ref a :: rest)) := by
  obtain ⟨hx, hb, -, hml, hown, hts, hK, hA, -, hSt⟩ := C
  obtain ⟨q, hq⟩ := wl_get (cy := cy) (M := M) (R := R) ha
  rw [ce_12 (isK_knd ha)] at hq
  refine va_aldq hx hb hK hP q 3 hq rfl (inb_vp hi) hdg ?_
  rw [eb]
  exact kk
theorem ae_12 {cy : Cy} {T : Ty} {M : Mm} {R : Rm} {a j b : Nat} (ha : isK T a 12 = true) (y : Nat) : va_up (ce cy T M R) a (.inl (cy.2.2.2.2.1, T.2.2 a, .inr (.inr (.inr (.inr (va_up (R a) j (some b))))))) y = ce cy T M (up2 R a j (some b)) y := by
  have hk := isK_knd ha
  unfold va_up
  by_cases h : y = a
  · subst h
    rw [if_pos rfl, ce_12 hk]
    have e : (fun z => if z = j then some b else R y z) = (up2 R y j (some b)) y := by
      funext z
      simp [up2]
    rw [e]
  · rw [if_neg h]
    exact ce_congr (by first | rfl | exact up2_ne h) (by first | rfl | exact up2_ne h) (by first | rfl | exact up2_ne h)
theorem aw_12 {p : Program} {l : Launch} {e : Env} {Rr : Room} {s : State} {m : MethodId} {args : Array Value} {below : List Frame} {meth : Method} {c : Code} {H : Heap} {locs : List Loc} {cells slots : Nat} {Q : State → Prop} {cc : ByteArray} {pc : Nat} {ls : Array Slot} {rest : List Value} {D : va_G} {cy : Cy} {T : Ty} {M : Mm} {R : Rm} {A : Nat → Prop} {own : String} {n : Nat} {ret : Option FieldType} {a b : Nat} {i : Int32} (C : Cx own cc n ret p s m args meth c D cy A) (hP : va_P D vwCl (WL cy T M R) H) (hD : va_D A (WL cy T M R)) (hS : va_S A s.heap H locs) (ha : isK T a 12 = true) (hi : inb i (lnT T a) = true) (hb9 : isK T b 3 = true) (hdg : decode cc pc = .ok (.aastore, 1)) (kk : ∀ (R1 : Rm) (H1 : Heap) (locs1 : List Loc), R1 = up2 R a i.toNatClampNeg (some b) → va_P D vwCl (WL cy T M R1) H1 → va_D A (WL cy T M R1) → va_S A s.heap H1 locs1 → W p l e Rr s m args below meth c H1 locs1 cells slots Q (F0 m (pc + 1) ls rest)) : W p l e Rr s m args below meth c H locs cells slots Q (F0 m pc ls (.ref b :: .int i :: .ref a :: rest)) := by
  obtain ⟨hx, hb, -, hml, hown, hts, hK, hA, -, hSt⟩ := C
  obtain ⟨q, hq⟩ := wl_get (cy := cy) (M := M) (R := R) ha
  have hq0 := hq
  rw [ce_12 (isK_knd ha)] at hq
  obtain ⟨q2, hq2⟩ := wl_get (cy := cy) (M := M) (R := R) hb9
  rw [ce_3 (isK_knd hb9)] at hq2
  refine va_astq hx hb hK hP hD hS q 3 q2 3 hq (r := (RX3, TX3, 6)) rfl hq2 rfl (inb_vp hi) hdg (fun H1 locs1 hP1 hD1 hS1 => ?_)
  have e9 := wl_set (cy := cy) (M := M) (R := R) (M1 := M) (R1 := up2 R a i.toNatClampNeg (some b)) hD ha hq0 (ae_12 ha)
  rw [e9] at hP1 hD1
  exact kk _ H1 locs1 rfl hP1 hD1 hS1
theorem ar_13 {p : Program} {l : Launch} {e : Env} {Rr : Room} {s : State} {m : MethodId} {args : Array Value} {below : List Frame} {meth : Method} {c : Code} {H : Heap} {locs : List Loc} {cells slots : Nat} {Q : State → Prop} {cc : ByteArray} {pc : Nat} {ls : Array Slot} {rest : List Value} {D : va_G} {cy : Cy} {T : Ty} {M : Mm} {R : Rm} {A : Nat → Prop} {own : String} {n : Nat} {ret : Option FieldType} {a b : Nat} {i : Int32} (C : Cx own cc n ret p s m args meth c D cy A) (hP : va_P D vwCl (WL cy T M R) H) (ha : isK T a 13 = true) (hi : inb i (lnT T a) = true) (eb : R a i.toNatClampNeg = some b) (hdg : decode cc pc = .ok (.aaload, 1)) (kk : W p l e Rr s m args below meth c H locs cells slots Q (F0 m (pc + 1) ls (.ref b :: rest))) : W p l e Rr s m args below meth c H locs cells slots Q (F0 m pc ls (.int i :: .ref a :: rest)) := by
  obtain ⟨hx, hb, -, hml, hown, hts, hK, hA, -, hSt⟩ := C
  obtain ⟨q, hq⟩ := wl_get (cy := cy) (M := M) (R := R) ha
  rw [ce_13 (isK_knd ha)] at hq
  refine va_aldq hx hb hK hP q 4 hq rfl (inb_vp hi) hdg ?_
  rw [eb]
  exact kk
theorem ae_13 {cy : Cy} {T : Ty} {M : Mm} {R : Rm} {a j b : Nat} (ha : isK T a 13 = true) (y : Nat) : va_up (ce cy T M R) a (.inl (cy.2.2.2.2.2, T.2.2 a, .inr (.inr (.inr (.inr (va_up (R a) j (some b))))))) y = ce cy T M (up2 R a j (some b)) y := by
  have hk := isK_knd ha
  unfold va_up
  by_cases h : y = a
  · subst h
    rw [if_pos rfl, ce_13 hk]
    have e : (fun z => if z = j then some b else R y z) = (up2 R y j (some b)) y := by
      funext z
      simp [up2]
    rw [e]
  · rw [if_neg h]
    exact ce_congr (by first | rfl | exact up2_ne h) (by first | rfl | exact up2_ne h) (by first | rfl | exact up2_ne h)
theorem aw_13 {p : Program} {l : Launch} {e : Env} {Rr : Room} {s : State} {m : MethodId} {args : Array Value} {below : List Frame} {meth : Method} {c : Code} {H : Heap} {locs : List Loc} {cells slots : Nat} {Q : State → Prop} {cc : ByteArray} {pc : Nat} {ls : Array Slot} {rest : List Value} {D : va_G} {cy : Cy} {T : Ty} {M : Mm} {R : Rm} {A : Nat → Prop} {own : String} {n : Nat} {ret : Option FieldType} {a b : Nat} {i : Int32} (C : Cx own cc n ret p s m args meth c D cy A) (hP : va_P D vwCl (WL cy T M R) H) (hD : va_D A (WL cy T M R)) (hS : va_S A s.heap H locs) (ha : isK T a 13 = true) (hi : inb i (lnT T a) = true) (hb9 : isK T b 5 = true) (hdg : decode cc pc = .ok (.aastore, 1)) (kk : ∀ (R1 : Rm) (H1 : Heap) (locs1 : List Loc), R1 = up2 R a i.toNatClampNeg (some b) → va_P D vwCl (WL cy T M R1) H1 → va_D A (WL cy T M R1) → va_S A s.heap H1 locs1 → W p l e Rr s m args below meth c H1 locs1 cells slots Q (F0 m (pc + 1) ls rest)) : W p l e Rr s m args below meth c H locs cells slots Q (F0 m pc ls (.ref b :: .int i :: .ref a :: rest)) := by
  obtain ⟨hx, hb, -, hml, hown, hts, hK, hA, -, hSt⟩ := C
  obtain ⟨q, hq⟩ := wl_get (cy := cy) (M := M) (R := R) ha
  have hq0 := hq
  rw [ce_13 (isK_knd ha)] at hq
  obtain ⟨q2, hq2⟩ := wl_get (cy := cy) (M := M) (R := R) hb9
  rw [ce_5 (isK_knd hb9)] at hq2
  refine va_astq hx hb hK hP hD hS q 4 q2 5 hq (r := (RX5, TX5, 11)) rfl hq2 rfl (inb_vp hi) hdg (fun H1 locs1 hP1 hD1 hS1 => ?_)
  have e9 := wl_set (cy := cy) (M := M) (R := R) (M1 := M) (R1 := up2 R a i.toNatClampNeg (some b)) hD ha hq0 (ae_13 ha)
  rw [e9] at hP1 hD1
  exact kk _ H1 locs1 rfl hP1 hD1 hS1
theorem al_8 {p : Program} {l : Launch} {e : Env} {Rr : Room} {s : State} {m : MethodId} {args : Array Value} {below : List Frame} {meth : Method} {c : Code} {H : Heap} {locs : List Loc} {cells slots : Nat} {Q : State → Prop} {cc : ByteArray} {pc : Nat} {ls : Array Slot} {rest : List Value} {D : va_G} {cy : Cy} {T : Ty} {M : Mm} {R : Rm} {A : Nat → Prop} {own : String} {n : Nat} {ret : Option FieldType} {a : Nat} (C : Cx own cc n ret p s m args meth c D cy A) (hP : va_P D vwCl (WL cy T M R) H) (ha : isK T a 8 = true) (hdg : decode cc pc = .ok (.arraylength, 1)) (kk : W p l e Rr s m args below meth c H locs cells slots Q (F0 m (pc + 1) ls (.int (Int32.ofNat (lnT T a)) :: rest))) : W p l e Rr s m args below meth c H locs cells slots Q (F0 m pc ls (.ref a :: rest)) := by
  obtain ⟨hx, hb, -, hml, hown, hts, hK, hA, -, hSt⟩ := C
  obtain ⟨q, hq⟩ := wl_get (cy := cy) (M := M) (R := R) ha
  rw [ce_8 (isK_knd ha)] at hq
  exact va_alen hx hb hK hP q 0 hq rfl rfl hdg kk
theorem al_9 {p : Program} {l : Launch} {e : Env} {Rr : Room} {s : State} {m : MethodId} {args : Array Value} {below : List Frame} {meth : Method} {c : Code} {H : Heap} {locs : List Loc} {cells slots : Nat} {Q : State → Prop} {cc : ByteArray} {pc : Nat} {ls : Array Slot} {rest : List Value} {D : va_G} {cy : Cy} {T : Ty} {M : Mm} {R : Rm} {A : Nat → Prop} {own : String} {n : Nat} {ret : Option FieldType} {a : Nat} (C : Cx own cc n ret p s m args meth c D cy A) (hP : va_P D vwCl (WL cy T M R) H) (ha : isK T a 9 = true) (hdg : decode cc pc = .ok (.arraylength, 1)) (kk : W p l e Rr s m args below meth c H locs cells slots Q (F0 m (pc + 1) ls (.int (Int32.ofNat (lnT T a)) :: rest))) : W p l e Rr s m args below meth c H locs cells slots Q (F0 m pc ls (.ref a :: rest)) := by
  obtain ⟨hx, hb, -, hml, hown, hts, hK, hA, -, hSt⟩ := C
  obtain ⟨q, hq⟩ := wl_get (cy := cy) (M := M) (R := R) ha
  rw [ce_9 (isK_knd ha)] at hq
  exact va_alen hx hb hK hP q 1 hq rfl rfl hdg kk
theorem al_11 {p : Program} {l : Launch} {e : Env} {Rr : Room} {s : State} {m : MethodId} {args : Array Value} {below : List Frame} {meth : Method} {c : Code} {H : Heap} {locs : List Loc} {cells slots : Nat} {Q : State → Prop} {cc : ByteArray} {pc : Nat} {ls : Array Slot} {rest : List Value} {D : va_G} {cy : Cy} {T : Ty} {M : Mm} {R : Rm} {A : Nat → Prop} {own : String} {n : Nat} {ret : Option FieldType} {a : Nat} (C : Cx own cc n ret p s m args meth c D cy A) (hP : va_P D vwCl (WL cy T M R) H) (ha : isK T a 11 = true) (hdg : decode cc pc = .ok (.arraylength, 1)) (kk : W p l e Rr s m args below meth c H locs cells slots Q (F0 m (pc + 1) ls (.int (Int32.ofNat (lnT T a)) :: rest))) : W p l e Rr s m args below meth c H locs cells slots Q (F0 m pc ls (.ref a :: rest)) := by
  obtain ⟨hx, hb, -, hml, hown, hts, hK, hA, -, hSt⟩ := C
  obtain ⟨q, hq⟩ := wl_get (cy := cy) (M := M) (R := R) ha
  rw [ce_11 (isK_knd ha)] at hq
  exact va_alen hx hb hK hP q 2 hq rfl rfl hdg kk
theorem al_12 {p : Program} {l : Launch} {e : Env} {Rr : Room} {s : State} {m : MethodId} {args : Array Value} {below : List Frame} {meth : Method} {c : Code} {H : Heap} {locs : List Loc} {cells slots : Nat} {Q : State → Prop} {cc : ByteArray} {pc : Nat} {ls : Array Slot} {rest : List Value} {D : va_G} {cy : Cy} {T : Ty} {M : Mm} {R : Rm} {A : Nat → Prop} {own : String} {n : Nat} {ret : Option FieldType} {a : Nat} (C : Cx own cc n ret p s m args meth c D cy A) (hP : va_P D vwCl (WL cy T M R) H) (ha : isK T a 12 = true) (hdg : decode cc pc = .ok (.arraylength, 1)) (kk : W p l e Rr s m args below meth c H locs cells slots Q (F0 m (pc + 1) ls (.int (Int32.ofNat (lnT T a)) :: rest))) : W p l e Rr s m args below meth c H locs cells slots Q (F0 m pc ls (.ref a :: rest)) := by
  obtain ⟨hx, hb, -, hml, hown, hts, hK, hA, -, hSt⟩ := C
  obtain ⟨q, hq⟩ := wl_get (cy := cy) (M := M) (R := R) ha
  rw [ce_12 (isK_knd ha)] at hq
  exact va_alen hx hb hK hP q 3 hq rfl rfl hdg kk
theorem al_13 {p : Program} {l : Launch} {e : Env} {Rr : Room} {s : State} {m : MethodId} {args : Array Value} {below : List Frame} {meth : Method} {c : Code} {H : Heap} {locs : List Loc} {cells slots : Nat} {Q : State → Prop} {cc : ByteArray} {pc : Nat} {ls : Array Slot} {rest : List Value} {D : va_G} {cy : Cy} {T : Ty} {M : Mm} {R : Rm} {A : Nat → Prop} {own : String} {n : Nat} {ret : Option FieldType} {a : Nat} (C : Cx own cc n ret p s m args meth c D cy A) (hP : va_P D vwCl (WL cy T M R) H) (ha : isK T a 13 = true) (hdg : decode cc pc = .ok (.arraylength, 1)) (kk : W p l e Rr s m args below meth c H locs cells slots Q (F0 m (pc + 1) ls (.int (Int32.ofNat (lnT T a)) :: rest))) : W p l e Rr s m args below meth c H locs cells slots Q (F0 m pc ls (.ref a :: rest)) := by
  obtain ⟨hx, hb, -, hml, hown, hts, hK, hA, -, hSt⟩ := C
  obtain ⟨q, hq⟩ := wl_get (cy := cy) (M := M) (R := R) ha
  rw [ce_13 (isK_knd ha)] at hq
  exact va_alen hx hb hK hP q 4 hq rfl rfl hdg kk
theorem gs_0 {p : Program} {l : Launch} {e : Env} {Rr : Room} {s : State} {m : MethodId} {args : Array Value} {below : List Frame} {meth : Method} {c : Code} {H : Heap} {locs : List Loc} {cells slots : Nat} {Q : State → Prop} {cc : ByteArray} {pc : Nat} {ls : Array Slot} {rest : List Value} {D : va_G} {cy : Cy} {A : Nat → Prop} {own : String} {n : Nat} {ret : Option FieldType} {index : Nat} (C : Cx own cc n ret p s m args meth c D cy A) (hS : va_S A s.heap H locs) (hl : Cond.fieldLink own index "IceTongue" "LEAST_SETTING" "[I" ∈ GW) (hdg : decode cc pc = .ok (.getstatic index, 3)) (kk : ∀ t : Nat, va_T .int t 7 (fun j => .int (fLeast j)) A s s.heap → W p l e Rr s m args below meth c H locs cells slots Q (F0 m (pc + 3) ls (.ref t :: rest))) : W p l e Rr s m args below meth c H locs cells slots Q (F0 m pc ls rest) := by
  obtain ⟨hx, hb, -, hml, hown, hts, hK, hA, -, hSt⟩ := C
  obtain ⟨t, hZ, hT⟩ := hSt.1
  exact va_gets hx hb hZ hS hown (hts _ hl) (fun _ h9 => h9) hdg (kk t hT)
theorem gs_1 {p : Program} {l : Launch} {e : Env} {Rr : Room} {s : State} {m : MethodId} {args : Array Value} {below : List Frame} {meth : Method} {c : Code} {H : Heap} {locs : List Loc} {cells slots : Nat} {Q : State → Prop} {cc : ByteArray} {pc : Nat} {ls : Array Slot} {rest : List Value} {D : va_G} {cy : Cy} {A : Nat → Prop} {own : String} {n : Nat} {ret : Option FieldType} {index : Nat} (C : Cx own cc n ret p s m args meth c D cy A) (hS : va_S A s.heap H locs) (hl : Cond.fieldLink own index "IceTongue" "MOST_SETTING" "[I" ∈ GW) (hdg : decode cc pc = .ok (.getstatic index, 3)) (kk : ∀ t : Nat, va_T .int t 7 (fun j => .int (fMost j)) A s s.heap → W p l e Rr s m args below meth c H locs cells slots Q (F0 m (pc + 3) ls (.ref t :: rest))) : W p l e Rr s m args below meth c H locs cells slots Q (F0 m pc ls rest) := by
  obtain ⟨hx, hb, -, hml, hown, hts, hK, hA, -, hSt⟩ := C
  obtain ⟨t, hZ, hT⟩ := hSt.2.1
  exact va_gets hx hb hZ hS hown (hts _ hl) (fun _ h9 => h9) hdg (kk t hT)
theorem gs_2 {p : Program} {l : Launch} {e : Env} {Rr : Room} {s : State} {m : MethodId} {args : Array Value} {below : List Frame} {meth : Method} {c : Code} {H : Heap} {locs : List Loc} {cells slots : Nat} {Q : State → Prop} {cc : ByteArray} {pc : Nat} {ls : Array Slot} {rest : List Value} {D : va_G} {cy : Cy} {A : Nat → Prop} {own : String} {n : Nat} {ret : Option FieldType} {index : Nat} (C : Cx own cc n ret p s m args meth c D cy A) (hS : va_S A s.heap H locs) (hl : Cond.fieldLink own index "IceTongue" "FIRST_SETTING" "[I" ∈ GW) (hdg : decode cc pc = .ok (.getstatic index, 3)) (kk : ∀ t : Nat, va_T .int t 7 (fun j => .int (fFirst j)) A s s.heap → W p l e Rr s m args below meth c H locs cells slots Q (F0 m (pc + 3) ls (.ref t :: rest))) : W p l e Rr s m args below meth c H locs cells slots Q (F0 m pc ls rest) := by
  obtain ⟨hx, hb, -, hml, hown, hts, hK, hA, -, hSt⟩ := C
  obtain ⟨t, hZ, hT⟩ := hSt.2.2
  exact va_gets hx hb hZ hS hown (hts _ hl) (fun _ h9 => h9) hdg (kk t hT)
theorem ts_i {p : Program} {l : Launch} {e : Env} {Rr : Room} {s : State} {m : MethodId} {args : Array Value} {below : List Frame} {meth : Method} {c : Code} {H : Heap} {locs : List Loc} {cells slots : Nat} {Q : State → Prop} {cc : ByteArray} {pc : Nat} {ls : Array Slot} {rest : List Value} {D : va_G} {cy : Cy} {A : Nat → Prop} {own : String} {n : Nat} {ret : Option FieldType} {t : Nat} {f : Nat → Int32} {i : Int32} (C : Cx own cc n ret p s m args meth c D cy A) (hT : va_T .int t 7 (fun j => .int (f j)) A s s.heap) (hS : va_S A s.heap H locs) (hi : inb i 7 = true) (hdg : decode cc pc = .ok (.iaload, 1)) (kk : W p l e Rr s m args below meth c H locs cells slots Q (F0 m (pc + 1) ls (.int (f i.toNatClampNeg) :: rest))) : W p l e Rr s m args below meth c H locs cells slots Q (F0 m pc ls (.int i :: .ref t :: rest)) := by
  obtain ⟨hx, hb, -, hml, hown, hts, hK, hA, -, hSt⟩ := C
  exact va_ti hx hb hT hS (inb_vp hi) rfl hdg kk
theorem rt_i {p : Program} {l : Launch} {e : Env} {Rr : Room} {s : State} {m : MethodId} {args : Array Value} {below : List Frame} {meth : Method} {c : Code} {H : Heap} {locs : List Loc} {cc : ByteArray} {pc : Nat} {ls : Array Slot} {D : va_G} {cy : Cy} {T : Ty} {M : Mm} {R : Rm} {A : Nat → Prop} {own : String} {n : Nat} {r : Int32} (C : Cx own cc n (some .int) p s m args meth c D cy A) (hP : va_P D vwCl (WL cy T M R) H) (hD : va_D A (WL cy T M R)) (hS : va_S A s.heap H locs) (hdg : decode cc pc = .ok (.ireturn, 1)) : W p l e Rr s m args below meth c H locs 0 0 (MQ below (QcI D cy T M R A r) args s 0 0 A) (F0 m pc ls [.int r]) := by
  obtain ⟨hx, hb, hr, hml, hown, hts, hK, hA, hlk, hSt⟩ := C
  exact W.iret (v := r) hx hb hr (fun t ht hW => ⟨⟨r, (), rfl, rfl, by rw [ht]; exact hP, hD⟩, hS.F ht⟩) hS.2.2 hdg hlk
theorem rt_z {p : Program} {l : Launch} {e : Env} {Rr : Room} {s : State} {m : MethodId} {args : Array Value} {below : List Frame} {meth : Method} {c : Code} {H : Heap} {locs : List Loc} {cc : ByteArray} {pc : Nat} {ls : Array Slot} {D : va_G} {cy : Cy} {T : Ty} {M : Mm} {R : Rm} {A : Nat → Prop} {own : String} {n : Nat} {r : Int32} (C : Cx own cc n (some .boolean) p s m args meth c D cy A) (hP : va_P D vwCl (WL cy T M R) H) (hD : va_D A (WL cy T M R)) (hS : va_S A s.heap H locs) (hz : isZ r = true) (hdg : decode cc pc = .ok (.ireturn, 1)) : W p l e Rr s m args below meth c H locs 0 0 (MQ below (QcI D cy T M R A r) args s 0 0 A) (F0 m pc ls [.int r]) := by
  obtain ⟨hx, hb, hr, hml, hown, hts, hK, hA, hlk, hSt⟩ := C
  exact W.zret (v := r) hx hb hr (isZ_nar hz) (fun t ht hW => ⟨⟨r, (), rfl, rfl, by rw [ht]; exact hP, hD⟩, hS.F ht⟩) hS.2.2 hdg hlk
theorem rt_l {p : Program} {l : Launch} {e : Env} {Rr : Room} {s : State} {m : MethodId} {args : Array Value} {below : List Frame} {meth : Method} {c : Code} {H : Heap} {locs : List Loc} {cc : ByteArray} {pc : Nat} {ls : Array Slot} {D : va_G} {cy : Cy} {T : Ty} {M : Mm} {R : Rm} {A : Nat → Prop} {own : String} {n : Nat} {r : Int64} (C : Cx own cc n (some .long) p s m args meth c D cy A) (hP : va_P D vwCl (WL cy T M R) H) (hD : va_D A (WL cy T M R)) (hS : va_S A s.heap H locs) (hdg : decode cc pc = .ok (.lreturn, 1)) : W p l e Rr s m args below meth c H locs 0 0 (MQ below (QcL D cy T M R A r) args s 0 0 A) (F0 m pc ls [.long r]) := by
  obtain ⟨hx, hb, hr, hml, hown, hts, hK, hA, hlk, hSt⟩ := C
  exact W.lret (v := r) hx hb hr (fun t ht hW => ⟨⟨r, (), rfl, rfl, by rw [ht]; exact hP, hD⟩, hS.F ht⟩) hS.2.2 hdg hlk
theorem rt_v {p : Program} {l : Launch} {e : Env} {Rr : Room} {s : State} {m : MethodId} {args : Array Value} {below : List Frame} {meth : Method} {c : Code} {H : Heap} {locs : List Loc} {cc : ByteArray} {pc : Nat} {ls : Array Slot} {D : va_G} {cy : Cy} {T : Ty} {M : Mm} {R : Rm} {A : Nat → Prop} {own : String} {n : Nat} {r : Unit} (C : Cx own cc n (none) p s m args meth c D cy A) (hP : va_P D vwCl (WL cy T M R) H) (hD : va_D A (WL cy T M R)) (hS : va_S A s.heap H locs) (hdg : decode cc pc = .ok (.return_, 1)) : W p l e Rr s m args below meth c H locs 0 0 (MQ below (QcV D cy T M R A r) args s 0 0 A) (F0 m pc ls []) := by
  obtain ⟨hx, hb, hr, hml, hown, hts, hK, hA, hlk, hSt⟩ := C
  exact W.vret hx hb hr (fun t ht hW => ⟨⟨(), rfl, trivial, by rw [ht]; exact hP, hD⟩, hS.F ht⟩) hS.2.2 hdg hlk
theorem cl_Vi {p : Program} {l : Launch} {e : Env} {Rr : Room} {s : State} {m : MethodId} {args : Array Value} {below : List Frame} {meth : Method} {c : Code} {H : Heap} {locs : List Loc} {cells slots : Nat} {Q : State → Prop} {cc : ByteArray} {pc : Nat} {ls : Array Slot} {rest : List Value} {D : va_G} {cy : Cy} {T : Ty} {M : Mm} {R : Rm} {A : Nat → Prop} {own : String} {n : Nat} {ret : Option FieldType} {M1 : Mm} {R1 : Rm} {index nn maxL : Nat} {y : MethodName} {bytes : ByteArray} {rty : Option FieldType} {rm : Room} {As st : List Value} {r : Int32} {Cn : String} {Tt : u_T} {N ci b : Nat} (C : Cx own cc n ret p s m args meth c D cy A) (hM : Ct QcI l y bytes maxL rty rm D cy T M R (.ref b :: As) M1 R1 r) (hk : isK T b ci = true) (hc8 : ci < 7) (hci : vwCl[ci]? = some (Cn, Tt, N)) (w1 : Cond.methodLink own index y ∈ GW) (w2 : Cond.instanceMethod y ∈ GW) (w3 : Cond.selects Cn y y ∈ GW) (w4 : Cond.initialized Cn ∈ GW) (w5 : Cond.code y bytes maxL rty ∈ GW) (hd : y.cls = Cn ∧ y.cls ≠ "java/lang/invoke/MethodHandle" ∧ y.cls ≠ "java/lang/invoke/VarHandle" ∧ (parseMethodDescriptor y.desc).map (fun d => d.parameters.length) = some nn) (hR : rm.frames + 1 ≤ Rr.frames ∧ 8 + (maxL + 11) + rm.locals ≤ Rr.locals) (hz0 : rm.cells = 0 ∧ rm.slots = 0) (hc0 : cells ≤ Rr.cells ∧ slots ≤ Rr.slots) (hst : st = As.reverse ++ .ref b :: rest) (hcat : (rest.map fun v => v.category).sum ≤ 8) (hlen : As.length = nn) (hsz : ls.size = n) (hP : va_P D vwCl (WL cy T M R) H) (hD : va_D A (WL cy T M R)) (hS : va_S A s.heap H locs) (hdg : decode cc pc = .ok (.invokevirtual index, 3)) (kk : ∀ (H1 : Heap) (locs1 : List Loc), va_P D vwCl (WL cy T M1 R1) H1 → va_D A (WL cy T M1 R1) → va_S A s.heap H1 locs1 → W p l e Rr s m args below meth c H1 locs1 cells slots Q (F0 m (pc + 3) ls (.int r :: rest))) : W p l e Rr s m args below meth c H locs cells slots Q (F0 m pc ls st) := by
  have C0 := C
  obtain ⟨hx, hb, -, hml, hown, hts, hK, hA, -, hSt⟩ := C
  obtain ⟨q, hq⟩ := wl_get (cy := cy) (M := M) (R := R) hk
  obtain ⟨fs, hce⟩ := ce_obj (cy := cy) (M := M) (R := R) hc8 (isK_knd hk)
  rw [hce] at hq
  refine va_calli (va_runV (As := As) (rest := rest) ⟨hx, hb, hml, hown, hts⟩ (hM H.size) (cwV nn hts (wl_goodV w1 w2 w3 w4 w5) rfl hz0.1 hz0.2 hd hR) ⟨PcM.blind, va_recv hK hP hci hq, PcM.of C0 hP hD hS (.ref b :: As)⟩ rfl hlen hsz hst (lv_room hcat) hdg hc0) hS (fun q _ h => fr_all hD hS hA q h) (fr_all hD hS hA) (fun r2 u t H1 locs1 ht hvm hw hB hz hk1 hS1 => ?_)
  subst hw
  obtain ⟨hP1, hD1⟩ := hB
  rw [ht] at hP1
  exact kk H1 locs1 hP1 (hD1.weaken fun _ _ _ h => fr_all hD hS hA _ h) hS1
theorem cl_Si {p : Program} {l : Launch} {e : Env} {Rr : Room} {s : State} {m : MethodId} {args : Array Value} {below : List Frame} {meth : Method} {c : Code} {H : Heap} {locs : List Loc} {cells slots : Nat} {Q : State → Prop} {cc : ByteArray} {pc : Nat} {ls : Array Slot} {rest : List Value} {D : va_G} {cy : Cy} {T : Ty} {M : Mm} {R : Rm} {A : Nat → Prop} {own : String} {n : Nat} {ret : Option FieldType} {M1 : Mm} {R1 : Rm} {index nn maxL : Nat} {y : MethodName} {bytes : ByteArray} {rty : Option FieldType} {rm : Room} {As st : List Value} {r : Int32} (C : Cx own cc n ret p s m args meth c D cy A) (hM : Ct QcI l y bytes maxL rty rm D cy T M R As M1 R1 r) (w1 : Cond.methodLink own index y ∈ GW) (w2 : Cond.static y ∈ GW) (w4 : Cond.initialized y.cls ∈ GW) (w5 : Cond.code y bytes maxL rty ∈ GW) (hd : y.cls ≠ "java/lang/invoke/MethodHandle" ∧ y.cls ≠ "java/lang/invoke/VarHandle" ∧ (parseMethodDescriptor y.desc).map (fun d => d.parameters.length) = some nn) (hR : rm.frames + 1 ≤ Rr.frames ∧ 8 + (maxL + 11) + rm.locals ≤ Rr.locals) (hz0 : rm.cells = 0 ∧ rm.slots = 0) (hc0 : cells ≤ Rr.cells ∧ slots ≤ Rr.slots) (hst : st = As.reverse ++ rest) (hcat : (rest.map fun v => v.category).sum ≤ 8) (hlen : As.length = nn) (hsz : ls.size = n) (hP : va_P D vwCl (WL cy T M R) H) (hD : va_D A (WL cy T M R)) (hS : va_S A s.heap H locs) (hdg : decode cc pc = .ok (.invokestatic index, 3)) (kk : ∀ (H1 : Heap) (locs1 : List Loc), va_P D vwCl (WL cy T M1 R1) H1 → va_D A (WL cy T M1 R1) → va_S A s.heap H1 locs1 → W p l e Rr s m args below meth c H1 locs1 cells slots Q (F0 m (pc + 3) ls (.int r :: rest))) : W p l e Rr s m args below meth c H locs cells slots Q (F0 m pc ls st) := by
  have C0 := C
  obtain ⟨hx, hb, -, hml, hown, hts, hK, hA, -, hSt⟩ := C
  refine va_calli (va_runS (As := As) (rest := rest) ⟨hx, hb, hml, hown, hts⟩ (hM H.size) ⟨callB_of nn hts (wl_goodIn w5) rfl hz0.1 hz0.2 (hts _ w4) (hts _ w1) hd hR, hts _ w2⟩ ⟨PcM.blind, PcM.of C0 hP hD hS As⟩ rfl hlen hsz hst (lv_room hcat) hdg hc0) hS (fun q _ h => fr_all hD hS hA q h) (fr_all hD hS hA) (fun r2 u t H1 locs1 ht hvm hw hB hz hk1 hS1 => ?_)
  subst hw
  obtain ⟨hP1, hD1⟩ := hB
  rw [ht] at hP1
  exact kk H1 locs1 hP1 (hD1.weaken fun _ _ _ h => fr_all hD hS hA _ h) hS1
theorem cl_Vl {p : Program} {l : Launch} {e : Env} {Rr : Room} {s : State} {m : MethodId} {args : Array Value} {below : List Frame} {meth : Method} {c : Code} {H : Heap} {locs : List Loc} {cells slots : Nat} {Q : State → Prop} {cc : ByteArray} {pc : Nat} {ls : Array Slot} {rest : List Value} {D : va_G} {cy : Cy} {T : Ty} {M : Mm} {R : Rm} {A : Nat → Prop} {own : String} {n : Nat} {ret : Option FieldType} {M1 : Mm} {R1 : Rm} {index nn maxL : Nat} {y : MethodName} {bytes : ByteArray} {rty : Option FieldType} {rm : Room} {As st : List Value} {r : Int64} {Cn : String} {Tt : u_T} {N ci b : Nat} (C : Cx own cc n ret p s m args meth c D cy A) (hM : Ct QcL l y bytes maxL rty rm D cy T M R (.ref b :: As) M1 R1 r) (hk : isK T b ci = true) (hc8 : ci < 7) (hci : vwCl[ci]? = some (Cn, Tt, N)) (w1 : Cond.methodLink own index y ∈ GW) (w2 : Cond.instanceMethod y ∈ GW) (w3 : Cond.selects Cn y y ∈ GW) (w4 : Cond.initialized Cn ∈ GW) (w5 : Cond.code y bytes maxL rty ∈ GW) (hd : y.cls = Cn ∧ y.cls ≠ "java/lang/invoke/MethodHandle" ∧ y.cls ≠ "java/lang/invoke/VarHandle" ∧ (parseMethodDescriptor y.desc).map (fun d => d.parameters.length) = some nn) (hR : rm.frames + 1 ≤ Rr.frames ∧ 8 + (maxL + 11) + rm.locals ≤ Rr.locals) (hz0 : rm.cells = 0 ∧ rm.slots = 0) (hc0 : cells ≤ Rr.cells ∧ slots ≤ Rr.slots) (hst : st = As.reverse ++ .ref b :: rest) (hcat : (rest.map fun v => v.category).sum ≤ 8) (hlen : As.length = nn) (hsz : ls.size = n) (hP : va_P D vwCl (WL cy T M R) H) (hD : va_D A (WL cy T M R)) (hS : va_S A s.heap H locs) (hdg : decode cc pc = .ok (.invokevirtual index, 3)) (kk : ∀ (H1 : Heap) (locs1 : List Loc), va_P D vwCl (WL cy T M1 R1) H1 → va_D A (WL cy T M1 R1) → va_S A s.heap H1 locs1 → W p l e Rr s m args below meth c H1 locs1 cells slots Q (F0 m (pc + 3) ls (.long r :: rest))) : W p l e Rr s m args below meth c H locs cells slots Q (F0 m pc ls st) := by
  have C0 := C
  obtain ⟨hx, hb, -, hml, hown, hts, hK, hA, -, hSt⟩ := C
  obtain ⟨q, hq⟩ := wl_get (cy := cy) (M := M) (R := R) hk
  obtain ⟨fs, hce⟩ := ce_obj (cy := cy) (M := M) (R := R) hc8 (isK_knd hk)
  rw [hce] at hq
  refine va_calll (va_runV (As := As) (rest := rest) ⟨hx, hb, hml, hown, hts⟩ (hM H.size) (cwV nn hts (wl_goodV w1 w2 w3 w4 w5) rfl hz0.1 hz0.2 hd hR) ⟨PcM.blind, va_recv hK hP hci hq, PcM.of C0 hP hD hS (.ref b :: As)⟩ rfl hlen hsz hst (lv_room hcat) hdg hc0) hS (fun q _ h => fr_all hD hS hA q h) (fr_all hD hS hA) (fun r2 u t H1 locs1 ht hvm hw hB hz hk1 hS1 => ?_)
  subst hw
  obtain ⟨hP1, hD1⟩ := hB
  rw [ht] at hP1
  exact kk H1 locs1 hP1 (hD1.weaken fun _ _ _ h => fr_all hD hS hA _ h) hS1
theorem cl_Sl {p : Program} {l : Launch} {e : Env} {Rr : Room} {s : State} {m : MethodId} {args : Array Value} {below : List Frame} {meth : Method} {c : Code} {H : Heap} {locs : List Loc} {cells slots : Nat} {Q : State → Prop} {cc : ByteArray} {pc : Nat} {ls : Array Slot} {rest : List Value} {D : va_G} {cy : Cy} {T : Ty} {M : Mm} {R : Rm} {A : Nat → Prop} {own : String} {n : Nat} {ret : Option FieldType} {M1 : Mm} {R1 : Rm} {index nn maxL : Nat} {y : MethodName} {bytes : ByteArray} {rty : Option FieldType} {rm : Room} {As st : List Value} {r : Int64} (C : Cx own cc n ret p s m args meth c D cy A) (hM : Ct QcL l y bytes maxL rty rm D cy T M R As M1 R1 r) (w1 : Cond.methodLink own index y ∈ GW) (w2 : Cond.static y ∈ GW) (w4 : Cond.initialized y.cls ∈ GW) (w5 : Cond.code y bytes maxL rty ∈ GW) (hd : y.cls ≠ "java/lang/invoke/MethodHandle" ∧ y.cls ≠ "java/lang/invoke/VarHandle" ∧ (parseMethodDescriptor y.desc).map (fun d => d.parameters.length) = some nn) (hR : rm.frames + 1 ≤ Rr.frames ∧ 8 + (maxL + 11) + rm.locals ≤ Rr.locals) (hz0 : rm.cells = 0 ∧ rm.slots = 0) (hc0 : cells ≤ Rr.cells ∧ slots ≤ Rr.slots) (hst : st = As.reverse ++ rest) (hcat : (rest.map fun v => v.category).sum ≤ 8) (hlen : As.length = nn) (hsz : ls.size = n) (hP : va_P D vwCl (WL cy T M R) H) (hD : va_D A (WL cy T M R)) (hS : va_S A s.heap H locs) (hdg : decode cc pc = .ok (.invokestatic index, 3)) (kk : ∀ (H1 : Heap) (locs1 : List Loc), va_P D vwCl (WL cy T M1 R1) H1 → va_D A (WL cy T M1 R1) → va_S A s.heap H1 locs1 → W p l e Rr s m args below meth c H1 locs1 cells slots Q (F0 m (pc + 3) ls (.long r :: rest))) : W p l e Rr s m args below meth c H locs cells slots Q (F0 m pc ls st) := by
  have C0 := C
  obtain ⟨hx, hb, -, hml, hown, hts, hK, hA, -, hSt⟩ := C
  refine va_calll (va_runS (As := As) (rest := rest) ⟨hx, hb, hml, hown, hts⟩ (hM H.size) ⟨callB_of nn hts (wl_goodIn w5) rfl hz0.1 hz0.2 (hts _ w4) (hts _ w1) hd hR, hts _ w2⟩ ⟨PcM.blind, PcM.of C0 hP hD hS As⟩ rfl hlen hsz hst (lv_room hcat) hdg hc0) hS (fun q _ h => fr_all hD hS hA q h) (fr_all hD hS hA) (fun r2 u t H1 locs1 ht hvm hw hB hz hk1 hS1 => ?_)
  subst hw
  obtain ⟨hP1, hD1⟩ := hB
  rw [ht] at hP1
  exact kk H1 locs1 hP1 (hD1.weaken fun _ _ _ h => fr_all hD hS hA _ h) hS1
theorem cl_Vv {p : Program} {l : Launch} {e : Env} {Rr : Room} {s : State} {m : MethodId} {args : Array Value} {below : List Frame} {meth : Method} {c : Code} {H : Heap} {locs : List Loc} {cells slots : Nat} {Q : State → Prop} {cc : ByteArray} {pc : Nat} {ls : Array Slot} {rest : List Value} {D : va_G} {cy : Cy} {T : Ty} {M : Mm} {R : Rm} {A : Nat → Prop} {own : String} {n : Nat} {ret : Option FieldType} {M1 : Mm} {R1 : Rm} {index nn maxL : Nat} {y : MethodName} {bytes : ByteArray} {rty : Option FieldType} {rm : Room} {As st : List Value} {r : Unit} {Cn : String} {Tt : u_T} {N ci b : Nat} (C : Cx own cc n ret p s m args meth c D cy A) (hM : Ct QcV l y bytes maxL rty rm D cy T M R (.ref b :: As) M1 R1 r) (hk : isK T b ci = true) (hc8 : ci < 7) (hci : vwCl[ci]? = some (Cn, Tt, N)) (w1 : Cond.methodLink own index y ∈ GW) (w2 : Cond.instanceMethod y ∈ GW) (w3 : Cond.selects Cn y y ∈ GW) (w4 : Cond.initialized Cn ∈ GW) (w5 : Cond.code y bytes maxL rty ∈ GW) (hd : y.cls = Cn ∧ y.cls ≠ "java/lang/invoke/MethodHandle" ∧ y.cls ≠ "java/lang/invoke/VarHandle" ∧ (parseMethodDescriptor y.desc).map (fun d => d.parameters.length) = some nn) (hR : rm.frames + 1 ≤ Rr.frames ∧ 8 + (maxL + 11) + rm.locals ≤ Rr.locals) (hz0 : rm.cells = 0 ∧ rm.slots = 0) (hc0 : cells ≤ Rr.cells ∧ slots ≤ Rr.slots) (hst : st = As.reverse ++ .ref b :: rest) (hcat : (rest.map fun v => v.category).sum ≤ 8) (hlen : As.length = nn) (hsz : ls.size = n) (hP : va_P D vwCl (WL cy T M R) H) (hD : va_D A (WL cy T M R)) (hS : va_S A s.heap H locs) (hdg : decode cc pc = .ok (.invokevirtual index, 3)) (kk : ∀ (H1 : Heap) (locs1 : List Loc), va_P D vwCl (WL cy T M1 R1) H1 → va_D A (WL cy T M1 R1) → va_S A s.heap H1 locs1 → W p l e Rr s m args below meth c H1 locs1 cells slots Q (F0 m (pc + 3) ls (rest))) : W p l e Rr s m args below meth c H locs cells slots Q (F0 m pc ls st) := by
  have C0 := C
  obtain ⟨hx, hb, -, hml, hown, hts, hK, hA, -, hSt⟩ := C
  obtain ⟨q, hq⟩ := wl_get (cy := cy) (M := M) (R := R) hk
  obtain ⟨fs, hce⟩ := ce_obj (cy := cy) (M := M) (R := R) hc8 (isK_knd hk)
  rw [hce] at hq
  refine va_callv (va_runV (As := As) (rest := rest) ⟨hx, hb, hml, hown, hts⟩ (hM H.size) (cwV nn hts (wl_goodV w1 w2 w3 w4 w5) rfl hz0.1 hz0.2 hd hR) ⟨PcM.blind, va_recv hK hP hci hq, PcM.of C0 hP hD hS (.ref b :: As)⟩ rfl hlen hsz hst (lv_room hcat) hdg hc0) hS (fun q _ h => fr_all hD hS hA q h) (fr_all hD hS hA) (fun u t H1 locs1 ht hvm hw hB hz hk1 hS1 => ?_)
  obtain ⟨hP1, hD1⟩ := hB
  rw [ht] at hP1
  exact kk H1 locs1 hP1 (hD1.weaken fun _ _ _ h => fr_all hD hS hA _ h) hS1
theorem cl_Sv {p : Program} {l : Launch} {e : Env} {Rr : Room} {s : State} {m : MethodId} {args : Array Value} {below : List Frame} {meth : Method} {c : Code} {H : Heap} {locs : List Loc} {cells slots : Nat} {Q : State → Prop} {cc : ByteArray} {pc : Nat} {ls : Array Slot} {rest : List Value} {D : va_G} {cy : Cy} {T : Ty} {M : Mm} {R : Rm} {A : Nat → Prop} {own : String} {n : Nat} {ret : Option FieldType} {M1 : Mm} {R1 : Rm} {index nn maxL : Nat} {y : MethodName} {bytes : ByteArray} {rty : Option FieldType} {rm : Room} {As st : List Value} {r : Unit} (C : Cx own cc n ret p s m args meth c D cy A) (hM : Ct QcV l y bytes maxL rty rm D cy T M R As M1 R1 r) (w1 : Cond.methodLink own index y ∈ GW) (w2 : Cond.static y ∈ GW) (w4 : Cond.initialized y.cls ∈ GW) (w5 : Cond.code y bytes maxL rty ∈ GW) (hd : y.cls ≠ "java/lang/invoke/MethodHandle" ∧ y.cls ≠ "java/lang/invoke/VarHandle" ∧ (parseMethodDescriptor y.desc).map (fun d => d.parameters.length) = some nn) (hR : rm.frames + 1 ≤ Rr.frames ∧ 8 + (maxL + 11) + rm.locals ≤ Rr.locals) (hz0 : rm.cells = 0 ∧ rm.slots = 0) (hc0 : cells ≤ Rr.cells ∧ slots ≤ Rr.slots) (hst : st = As.reverse ++ rest) (hcat : (rest.map fun v => v.category).sum ≤ 8) (hlen : As.length = nn) (hsz : ls.size = n) (hP : va_P D vwCl (WL cy T M R) H) (hD : va_D A (WL cy T M R)) (hS : va_S A s.heap H locs) (hdg : decode cc pc = .ok (.invokestatic index, 3)) (kk : ∀ (H1 : Heap) (locs1 : List Loc), va_P D vwCl (WL cy T M1 R1) H1 → va_D A (WL cy T M1 R1) → va_S A s.heap H1 locs1 → W p l e Rr s m args below meth c H1 locs1 cells slots Q (F0 m (pc + 3) ls (rest))) : W p l e Rr s m args below meth c H locs cells slots Q (F0 m pc ls st) := by
  have C0 := C
  obtain ⟨hx, hb, -, hml, hown, hts, hK, hA, -, hSt⟩ := C
  refine va_callv (va_runS (As := As) (rest := rest) ⟨hx, hb, hml, hown, hts⟩ (hM H.size) ⟨callB_of nn hts (wl_goodIn w5) rfl hz0.1 hz0.2 (hts _ w4) (hts _ w1) hd hR, hts _ w2⟩ ⟨PcM.blind, PcM.of C0 hP hD hS As⟩ rfl hlen hsz hst (lv_room hcat) hdg hc0) hS (fun q _ h => fr_all hD hS hA q h) (fr_all hD hS hA) (fun u t H1 locs1 ht hvm hw hB hz hk1 hS1 => ?_)
  obtain ⟨hP1, hD1⟩ := hB
  rw [ht] at hP1
  exact kk H1 locs1 hP1 (hD1.weaken fun _ _ _ h => fr_all hD hS hA _ h) hS1
def FU : Nat := 10000
def lp {α : Type} (f : α → α) (z : α) : Nat → α
  | 0 => z
  | n + 1 => f (lp f z n)
theorem i32ne {x c : Int32} {k : Int} (h : ¬ x = c) (hc : c.toInt = k) : x.toInt ≠ k := by
  intro e
  exact h (Int32.toInt_inj.mp (e.trans hc.symm))
def cpok (sp dp n : Int32) (n0 n1 : Nat) : Bool := decide (¬ sp < 0 ∧ ¬ dp < 0 ∧ ¬ n < 0 ∧ sp.toNatClampNeg + n.toNatClampNeg ≤ n0 ∧ dp.toNatClampNeg + n.toNatClampNeg ≤ n1)
def cpI (M : Mm) (a0 a sp dp n : Nat) : Mm := (fun b => if b = a then va_cpy (M.1 a0) (M.1 a) sp dp n else M.1 b, M.2)
theorem cpe_9 {cy : Cy} {T : Ty} {M : Mm} {R : Rm} {a0 a sp dp n : Nat} (ha : isK T a 9 = true) (y : Nat) : va_up (ce cy T M R) a (.inl (cy.2.1, T.2.2 a, .inl (va_cpy (M.1 a0) (M.1 a) sp dp n))) y = ce cy T (cpI M a0 a sp dp n) R y := by
  have hk := isK_knd ha
  unfold va_up
  by_cases h : y = a
  · subst h
    rw [if_pos rfl, ce_9 hk]
    have e : va_cpy (M.1 a0) (M.1 y) sp dp n = (cpI M a0 y sp dp n).1 y := by simp [cpI]
    rw [e]
  · rw [if_neg h]
    exact ce_congr (by simp [cpI, h]) rfl rfl
theorem cp_9 {p : Program} {l : Launch} {e : Env} {Rr : Room} {s : State} {m : MethodId} {args : Array Value} {below : List Frame} {meth : Method} {c : Code} {H : Heap} {locs : List Loc} {cells slots : Nat} {Q : State → Prop} {cc : ByteArray} {pc : Nat} {ls : Array Slot} {rest : List Value} {D : va_G} {cy : Cy} {T : Ty} {M : Mm} {R : Rm} {A : Nat → Prop} {own : String} {n : Nat} {ret : Option FieldType} {index a0 a : Nat} {sp dp k : Int32} (C : Cx own cc n ret p s m args meth c D cy A) (hsz : ls.size = n) (hfr : 1 ≤ Rr.frames) (hlo : (rest.map fun v => v.category).sum + (nativeFrameWords "java/lang/System" "arraycopy" 5 + 11) ≤ Rr.locals) (w1 : Cond.methodLink own index arraycopyName ∈ GW) (hP : va_P D vwCl (WL cy T M R) H) (hD : va_D A (WL cy T M R)) (hS : va_S A s.heap H locs) (ha0 : isK T a0 9 = true) (ha : isK T a 9 = true) (hc9 : cpok sp dp k (lnT T a0) (lnT T a) = true) (hdg : decode cc pc = .ok (.invokestatic index, 3)) (kk : ∀ (M1 : Mm) (H1 : Heap) (locs1 : List Loc), M1 = cpI M a0 a sp.toNatClampNeg dp.toNatClampNeg k.toNatClampNeg → va_P D vwCl (WL cy T M1 R) H1 → va_D A (WL cy T M1 R) → va_S A s.heap H1 locs1 → W p l e Rr s m args below meth c H1 locs1 cells slots Q (F0 m (pc + 3) ls rest)) : W p l e Rr s m args below meth c H locs cells slots Q (F0 m pc ls (.int k :: .int dp :: .ref a :: .int sp :: .ref a0 :: rest)) := by
  obtain ⟨hx, hb, -, hml, hown, hts, hK, hA, -, hSt⟩ := C
  obtain ⟨q0, hq0⟩ := wl_get (cy := cy) (M := M) (R := R) ha0
  rw [ce_9 (isK_knd ha0)] at hq0
  obtain ⟨q, hq⟩ := wl_get (cy := cy) (M := M) (R := R) ha
  have hqe := hq
  rw [ce_9 (isK_knd ha)] at hq
  unfold cpok at hc9
  obtain ⟨h1, h2, h3, h4, h5⟩ := of_decide_eq_true hc9
  refine va_copyi hx hb (hml.trans hsz.symm) hown (hts _ w1) (hts _ wl_162) (hts _ wl_163) (hts _ wl_164) hK hP hD hS q0 q 1 1 hq0 hq rfl rfl rfl h1 h2 h3 h4 h5 (fun _ _ => rfl) hfr hlo hdg (fun H1 locs1 hP1 hD1 hS1 => ?_)
  rw [wl_set hD ha hqe (cpe_9 (a0 := a0) ha)] at hP1 hD1
  exact kk _ H1 locs1 rfl hP1 hD1 hS1
