theorem PcN.blind {D : va_G} {cy : Cy} {ad : Nat → Nat} {E : Ee} {av : List Value} {sz : Nat} : FrameBlind (PcN D cy ad E av sz) := by
  intro a U g mk q
  obtain ⟨q0, q1, qP, qK, qS, qC, qN⟩ := q
  exact ⟨q0, q1, qP, va_K.moved (u := U) (U := U.calling g mk a) (Vm.Alike.refl U.vm) qK, St.to (u := U) (U := U.calling g mk a) qS (Vm.Alike.refl U.vm) (fun _ _ _ => rfl) (fun _ h => h), Cl9.to (u := U) (U := U.calling g mk a) qC (Vm.Alike.refl U.vm) (fun _ _ _ => rfl) (fun _ h => h), qN.call⟩
theorem PcN.of {own : String} {cc : ByteArray} {n : Nat} {ret : Option FieldType} {p : Program} {s : State} {m : MethodId} {args : Array Value} {meth : Method} {c : Code} {D : va_G} {cy : Cy} {A : Nat → Prop} {ad : Nat → Nat} {E : Ee} {H : Heap} {locs : List Loc} (C : Cx own cc n ret p s m args meth c D cy A) (hCl : Cl9 A s s.heap) (hNW : NW s) (hw : WdE D cy A s ad E H locs) (av : List Value) : ∀ U : State, U.heap = H → s.WarmedH U.vm → PcN D cy ad E av H.size av.toArray U := by
  intro U hU hW
  obtain ⟨-, -, -, -, -, -, hK, hA, -, hSt⟩ := C
  have hin := AE_in hw hA
  obtain ⟨T, M, R, hRp, hP, hD, hS⟩ := hw
  refine ⟨rfl, by rw [hU], ⟨T, M, R, hRp, by rw [hU]; exact hP, hD.weaken (fun _ _ _ _ => trivial)⟩, va_K.moved hW.alike hK, ?_, ?_, hNW.warm hW⟩
  · rw [hU]
    exact hSt.to hW.alike hS.2.1 hin
  · rw [hU]
    exact hCl.to hW.alike hS.2.1 hin
theorem rt_n {p : Program} {l : Launch} {e : Env} {Rr : Room} {s : State} {m : MethodId} {args : Array Value} {below : List Frame} {meth : Method} {c : Code} {H : Heap} {locs : List Loc} {cells slots : Nat} {cc : ByteArray} {pc : Nat} {ls : Array Slot} {D : va_G} {cy : Cy} {ad ad9 : Nat → Nat} {E E0 : Ee} {A : Nat → Prop} {own : String} {n mc ms : Nat} (C : Cx own cc n none p s m args meth c D cy A) (hw : WdE D cy A s ad9 E H locs) (htr : ∀ i a, Pt ad E0 i a → Pt ad9 E i a) (h1 : cells ≤ mc) (h2 : slots ≤ ms) (hdg : decode cc pc = .ok (.return_, 1)) : W p l e Rr s m args below meth c H locs cells slots (MQ below (QcN D cy ad (eN E0) E A) args s mc ms A) (F0 m pc ls []) := by
  obtain ⟨hx, hb, hr, hml, hown, hts, hK, hA, hlk, hSt⟩ := C
  obtain ⟨T, M, R, hRp, hP, hD, hS⟩ := hw
  refine W.widen h1 h2 ?_
  exact W.vret hx hb hr (fun t ht hW => ⟨⟨ad9, rfl, fun r hr => (htr r (ad r) ⟨hr, rfl⟩).2, T, M, R, hRp, by rw [ht]; exact hP, hD⟩, hS.F ht⟩) hS.2.2 hdg hlk
theorem oi_n {p : Program} {l : Launch} {e : Env} {Rr : Room} {s : State} {m : MethodId} {args : Array Value} {below : List Frame} {meth : Method} {c : Code} {H : Heap} {locs : List Loc} {cells slots : Nat} {Q : State → Prop} {cc : ByteArray} {pc : Nat} {ls : Array Slot} {rest : List Value} {D : va_G} {cy : Cy} {A : Nat → Prop} {own : String} {n : Nat} {ret : Option FieldType} {index a : Nat} (C : Cx own cc n ret p s m args meth c D cy A) (w1 : Cond.methodLink own index objectInit ∈ GW) (hfr : 1 ≤ Rr.frames) (hlo : (rest.map fun v => v.category).sum + 12 ≤ Rr.locals) (hsz : ls.size = n) (hdg : decode cc pc = .ok (.invokespecial index, 3)) (kk : W p l e Rr s m args below meth c H locs cells slots Q (F0 m (pc + 3) ls rest)) : W p l e Rr s m args below meth c H locs cells slots Q (F0 m pc ls (.ref a :: rest)) := by
  obtain ⟨hx, hb, -, hml, hown, hts, hK, hA, -, hSt⟩ := C
  exact W.objInit hx hb hown (hts _ w1) (hts _ wl_10) (hts _ wl_11) rfl (by rw [hml]; exact hsz) rfl hdg hfr (by show 2 * 0 + _ + 12 ≤ _; omega) kk
theorem cl_n {p : Program} {l : Launch} {e : Env} {Rr : Room} {s : State} {m : MethodId} {args : Array Value} {below : List Frame} {meth : Method} {c : Code} {H : Heap} {locs : List Loc} {cells slots : Nat} {Q : State → Prop} {cc : ByteArray} {pc : Nat} {ls : Array Slot} {rest : List Value} {D : va_G} {cy : Cy} {ad : Nat → Nat} {E : Ee} {A : Nat → Prop} {own : String} {n : Nat} {ret : Option FieldType} {E1 : Ee} {index a maxL mc ms : Nat} {y : MethodName} {bytes : ByteArray} {rm : Room} (C : Cx own cc n ret p s m args meth c D cy A) (hCl : Cl9 A s s.heap) (hNW : NW s) (hM : CtN l y bytes maxL rm D cy ad E [.ref a] mc ms E1) (hle : eN E ≤ eN E1) (w1 : Cond.methodLink own index y ∈ GW) (w2 : Cond.instanceMethod y ∈ GW) (w4 : Cond.initialized y.cls ∈ GW) (w5 : Cond.code y bytes maxL none ∈ GW) (hd : y.cls ≠ "java/lang/invoke/MethodHandle" ∧ y.cls ≠ "java/lang/invoke/VarHandle" ∧ (parseMethodDescriptor y.desc).map (fun d => d.parameters.length) = some 0) (hi : y.name = "<init>") (hR : rm.frames + 1 ≤ Rr.frames ∧ 8 + (maxL + 11) + rm.locals ≤ Rr.locals) (hz0 : rm.cells = mc ∧ rm.slots = ms) (hc0 : cells + mc ≤ Rr.cells ∧ slots + ms ≤ Rr.slots) (hcat : (rest.map fun v => v.category).sum ≤ 8) (hsz : ls.size = n) (hw : WdE D cy A s ad E H locs) (hdg : decode cc pc = .ok (.invokespecial index, 3)) (kk : ∀ (ad1 : Nat → Nat) (H1 : Heap) (locs1 : List Loc), (∀ i a, Pt ad E i a → Pt ad1 E1 i a) → WdE D cy A s ad1 E1 H1 locs1 → W p l e Rr s m args below meth c H1 locs1 (cells + mc) (slots + ms) Q (F0 m (pc + 3) ls rest)) : W p l e Rr s m args below meth c H locs cells slots Q (F0 m pc ls (.ref a :: rest)) := by
  have C0 := C
  obtain ⟨hx, hb, -, hml, hown, hts, hK, hA, -, hSt⟩ := C
  have hin := AE_in hw hA
  have hw0 := hw
  obtain ⟨T, M, R, hRp, hP, hD, hS⟩ := hw
  refine va_callv (va_runI (As := []) (rest := rest) ⟨hx, hb, hml, hown, hts⟩ (hM H.size) ⟨callB_of 0 hts (wl_goodIn w5) rfl hz0.1 hz0.2 (hts _ w4) (hts _ w1) hd hR, hi, hts _ w2⟩ ⟨PcN.blind, PcN.of C0 hCl hNW hw0 [.ref a]⟩ rfl rfl hsz rfl (lv_room hcat) hdg hc0) hS (fun q _ h => hin q h) hin (fun ad1 t H1 locs1 ht hvm hw1 hB hz hk1 hS1 => ?_)
  obtain ⟨T1, M1, R1, hRp1, hP1, hD1⟩ := hB
  rw [ht] at hP1
  refine kk ad1 H1 locs1 (fun i a hu => ⟨Nat.lt_of_lt_of_le hu.1 hle, by rw [hw1 i hu.1]; exact hu.2⟩) ⟨T1, M1, R1, hRp1, hP1, hD1.weaken (fun _ _ _ h => hin _ h), hS1⟩

theorem cl_nn {p : Program} {l : Launch} {e : Env} {Rr : Room} {s : State} {m : MethodId} {args : Array Value} {below : List Frame} {meth : Method} {c : Code} {H : Heap} {locs : List Loc} {cells slots : Nat} {Q : State → Prop} {cc : ByteArray} {pc : Nat} {ls : Array Slot} {rest : List Value} {D : va_G} {cy : Cy} {ad : Nat → Nat} {E : Ee} {A : Nat → Prop} {own : String} {n : Nat} {ret : Option FieldType} {E1 : Ee} {index a maxL mc ms : Nat} {y : MethodName} {bytes : ByteArray} {rm : Room} (C : Cx own cc n ret p s m args meth c D cy A) (hCl : Cl9 A s s.heap) (hNW : NW s) (hM : CtN l y bytes maxL rm D cy ad E [.ref a] mc ms E1) (hle : eN E ≤ eN E1) {host : String} (w1 : va_Nw (.methodLinkNest own index y host) s) (w2 : Cond.instanceMethod y ∈ GW) (w4 : Cond.initialized y.cls ∈ GW) (w5 : Cond.code y bytes maxL none ∈ GW) (hd : y.cls ≠ "java/lang/invoke/MethodHandle" ∧ y.cls ≠ "java/lang/invoke/VarHandle" ∧ (parseMethodDescriptor y.desc).map (fun d => d.parameters.length) = some 0) (hi : y.name = "<init>") (hR : rm.frames + 1 ≤ Rr.frames ∧ 8 + (maxL + 11) + rm.locals ≤ Rr.locals) (hz0 : rm.cells = mc ∧ rm.slots = ms) (hc0 : cells + mc ≤ Rr.cells ∧ slots + ms ≤ Rr.slots) (hcat : (rest.map fun v => v.category).sum ≤ 8) (hsz : ls.size = n) (hw : WdE D cy A s ad E H locs) (hdg : decode cc pc = .ok (.invokespecial index, 3)) (kk : ∀ (ad1 : Nat → Nat) (H1 : Heap) (locs1 : List Loc), (∀ i a, Pt ad E i a → Pt ad1 E1 i a) → WdE D cy A s ad1 E1 H1 locs1 → W p l e Rr s m args below meth c H1 locs1 (cells + mc) (slots + ms) Q (F0 m (pc + 3) ls rest)) : W p l e Rr s m args below meth c H locs cells slots Q (F0 m pc ls (.ref a :: rest)) := by
  have C0 := C
  obtain ⟨hx, hb, -, hml, hown, hts, hK, hA, -, hSt⟩ := C
  have hin := AE_in hw hA
  have hw0 := hw
  obtain ⟨T, M, R, hRp, hP, hD, hS⟩ := hw
  refine va_callv (va_runIN (As := []) (rest := rest) ⟨hx, hb, hml, hown, hts⟩ (hM H.size) ⟨va_cnB 0 hts (wl_goodIn w5) rfl hz0.1 hz0.2 w1 (hts _ w4) hd hR, hi, hts _ w2⟩ ⟨PcN.blind, PcN.of C0 hCl hNW hw0 [.ref a]⟩ rfl rfl hsz rfl (lv_room hcat) hdg hc0) hS (fun q _ h => hin q h) hin (fun ad1 t H1 locs1 ht hvm hw1 hB hz hk1 hS1 => ?_)
  obtain ⟨T1, M1, R1, hRp1, hP1, hD1⟩ := hB
  rw [ht] at hP1
  refine kk ad1 H1 locs1 (fun i a hu => ⟨Nat.lt_of_lt_of_le hu.1 hle, by rw [hw1 i hu.1]; exact hu.2⟩) ⟨T1, M1, R1, hRp1, hP1, hD1.weaken (fun _ _ _ h => hin _ h), hS1⟩

def Cl9t (t : Nat) (A : Nat → Prop) (U : State) (H : Heap) : Prop := ¬ A t ∧ ∃ cell : Cell, H[t]? = some cell ∧ U.vm.findClass "[I" = some cell.cls ∧ (∀ k, cell.vm ≠ .statics k) ∧ cell.vm ≠ .unknown ∧ cell.slots = (arrV cell.cls 7 (fun j => .int (fFirst j))).slots
theorem gs_n {p : Program} {l : Launch} {e : Env} {Rr : Room} {s : State} {m : MethodId} {args : Array Value} {below : List Frame} {meth : Method} {c : Code} {H : Heap} {locs : List Loc} {cells slots : Nat} {Q : State → Prop} {cc : ByteArray} {pc : Nat} {ls : Array Slot} {rest : List Value} {D : va_G} {cy : Cy} {A : Nat → Prop} {own : String} {n : Nat} {ret : Option FieldType} {index : Nat} (C : Cx own cc n ret p s m args meth c D cy A) (hCl : Cl9 A s s.heap) (hS : va_S A s.heap H locs) (w1 : va_Nw (.fieldLinkNest own index RX6 "FIRST_SETTING" "[I" RX6) s) (hdg : decode cc pc = .ok (.getstatic index, 3)) (kk : ∀ t : Nat, Cl9t t A s s.heap → W p l e Rr s m args below meth c H locs cells slots Q (F0 m (pc + 3) ls (.ref t :: rest))) : W p l e Rr s m args below meth c H locs cells slots Q (F0 m pc ls rest) := by
  obtain ⟨hx, hb, -, hml, hown, hts, hK, hA, -, hSt⟩ := C
  obtain ⟨t, hZ, hT⟩ := hCl
  exact va_getsN hx hb hZ hS hown (va_Nw.use rfl w1) (fun _ h9 => h9) hdg (kk t hT)
theorem cn_n {p : Program} {l : Launch} {e : Env} {Rr : Room} {s : State} {m : MethodId} {args : Array Value} {below : List Frame} {meth : Method} {c : Code} {H : Heap} {locs : List Loc} {cells slots : Nat} {Q : State → Prop} {cc : ByteArray} {pc : Nat} {ls : Array Slot} {rest : List Value} {D : va_G} {cy : Cy} {ad : Nat → Nat} {E : Ee} {A : Nat → Prop} {own : String} {n : Nat} {ret : Option FieldType} {index t : Nat} (C : Cx own cc n ret p s m args meth c D cy A) (hw : WdE D cy A s ad E H locs) (hNW : NW s) (hT : Cl9t t A s s.heap) (w1 : Cond.methodLink own index ⟨"[I", "clone", "()Ljava/lang/Object;"⟩ ∈ GW) (w2 : Cond.sameMethod "[I" "java/lang/Object" "clone" "()Ljava/lang/Object;" ∈ GW) (hfr : 1 ≤ Rr.frames) (hlo : (rest.map fun v => v.category).sum + 14 ≤ Rr.locals) (hcells : cells + 1 ≤ Rr.cells) (hslots : slots + 7 ≤ Rr.slots) (hsz : ls.size = n) (hdg : decode cc pc = .ok (.invokevirtual index, 3)) (kk : ∀ (q : Nat) (ad1 : Nat → Nat) (E1 : Ee) (H1 : Heap), E1 = eNew E 9 7 7 fFirst → (∀ i a, Pt ad E i a → Pt ad1 E1 i a) → Pt ad1 E1 (eN E) q → eN E1 = eN E + 1 → eL E1 = eL E + 7 → WdE D cy A s ad1 E1 H1 locs → W p l e Rr s m args below meth c H1 locs (cells + 1) (slots + 7) Q (F0 m (pc + 3) ls (.ref q :: rest))) : W p l e Rr s m args below meth c H locs cells slots Q (F0 m pc ls (.ref t :: rest)) := by
  obtain ⟨hx, hb, -, hml, hown, hts, hK, hA, -, hSt⟩ := C
  obtain ⟨T, M, R, hRp, hP, hD, hS⟩ := hw
  obtain ⟨hAt, cell, h1, h2, h3, h4, h5⟩ := hT
  have hcy : cell.cls = cy.2.1 := Option.some.inj (h2.symm.trans (va_nm_int (hK.2 1 _ rfl).2))
  have hH : H[t]? = some cell := by rw [hS.2.1 t (Array.getElem?_eq_some_iff.mp h1).1 hAt]; exact h1
  have hcellE : ({ cls := cell.cls, slots := cell.slots } : Cell) = vp_cell cy.2.1 (7, .inl fFirst) := by
    rw [h5, hcy]
    rfl
  have hsl : cell.slots.size = 7 := by rw [h5]; exact arrV_size _ _ _
  obtain ⟨c0, t0', f1, f2, f3⟩ := Cond.castable_spec (va_Nw.use (A := args) rfl hNW.2.1)
  cases h2.symm.trans f1
  intro T0 hT0 X
  have hcellT : T0.heap[t]? = some cell := by rw [hT0]; exact hH
  obtain ⟨-, kA, hkA, comp, hkind⟩ := State.isArrayOf_alike X.warmed.alike ((hK.2 1 _ rfl).1 0 (fun _ => .null))
  obtain ⟨-, kS, hkS, compS, hkindS⟩ := (hK.2 1 _ rfl).1 0 (fun _ => .null)
  obtain ⟨vm', X', st⟩ := X.cloneArray hx hown (hts _ w1) (hts _ w2) (hts _ wl_29) (hts _ wl_30) (hts _ wl_31) (a := t) (cell := cell) hcellT h3 h4 h2 f2 f3
    (fun i v hv => by
      rw [hcy]
      have hk' : T0.vm.classes[cy.2.1]? = some kA := hkA
      rw [h5] at hv
      simpa [State.fitsSlot, State.slotType?, hk', hkind] using va_fit (ty := .int) (fun _ _ => rfl) i v hv)
    (g := F0 m pc ls (.ref t :: rest)) rfl (by rw [hml]; exact hsz) rfl (by rw [hb]; exact hdg) hfr (by show 2 * 0 + _ + 14 ≤ _; omega) hcells (by rw [hsl]; exact hslots) (hloader := by rw [hcy]; exact Vm.clonesLoader_of_array hkS hkindS)
  rw [hcellE, hsl] at X'
  generalize hH1 : H.push (vp_cell cy.2.1 (7, .inl fFirst)) = H1
  have z1 : H1.size = H.size + 1 := by rw [← hH1, Array.size_push]
  have e1 : H1[H.size]? = some (vp_cell cy.2.1 (7, .inl fFirst)) := by rw [← hH1, Array.getElem?_push_size]
  have o1 : ∀ q : Nat, q < H.size → H1[q]? = H[q]? := fun q hq => by rw [← hH1, Array.getElem?_push, if_neg (Nat.ne_of_lt hq)]
  have hkp : ∀ (k : Nat) (y : Nat × va_E), (WL cy T M R)[k]? = some y → H1[y.1]? = H[y.1]? := fun k y hy => o1 y.1 ((hP k y hy).lt)
  have hP1 : va_P D vwCl (WL cy T M R ++ [(H.size, .inl (cy.2.1, (7, .inl fFirst)))]) H1 := (hP.kept hkp).app (fun k y hy => by
      have hz : k < 1 := (List.getElem?_eq_some_iff.mp hy).1
      rw [show k = 0 by omega] at hy
      cases hy
      exact e1)
  have hD1 : va_D A (WL cy T M R ++ [(H.size, .inl (cy.2.1, (7, .inl fFirst)))]) := hD.push hP rfl (hA _ hS.1)
  have hS1 : va_S A s.heap H1 locs := ⟨Nat.le_trans hS.1 (by omega), fun y h1 h2 => (o1 y (Nat.lt_of_lt_of_le h1 hS.1)).trans (hS.2.1 y h1 h2), hS.2.2⟩
  have hq := wl_fresh hD1
  have he : ce cy (newT T H.size 9 7) (newM M H.size fFirst) (newR R H.size) H.size = .inl (cy.2.1, 7, .inl fFirst) := by
    rw [ce_9 (show (newT T H.size 9 7).2.1 H.size = 9 from va_up_s _ _ _)]
    simp [newM, newT, va_up]
  rw [wl_push hq he] at hP1 hD1
  obtain ⟨r1, r2, r3⟩ := hRp.new hq 9 7 7 fFirst
  obtain ⟨u, b1, b2⟩ := kk H.size _ _ H1 rfl r2 r3 rfl rfl ⟨_, _, _, r1, hP1, hD1, hS1⟩ ((T0.setVm vm').pushCell (vp_cell cy.2.1 (7, .inl fFirst))) (by rw [← hH1, ← hT0]; rfl) X'
  refine ⟨u, st u ?_, b2⟩
  rw [hcellE, hT0]
  exact b1
theorem cc_n {p : Program} {l : Launch} {e : Env} {Rr : Room} {s : State} {m : MethodId} {args : Array Value} {below : List Frame} {meth : Method} {c : Code} {H : Heap} {locs : List Loc} {cells slots : Nat} {Q : State → Prop} {cc : ByteArray} {pc : Nat} {ls : Array Slot} {rest : List Value} {D : va_G} {cy : Cy} {ad : Nat → Nat} {E : Ee} {A : Nat → Prop} {own : String} {n : Nat} {ret : Option FieldType} {index i a : Nat} (C : Cx own cc n ret p s m args meth c D cy A) (hw : WdE D cy A s ad E H locs) (hu : Pt ad E i a) (hk : eK E i 9 = true) (w1 : Cond.classLink own index "[I" ∈ GW) (hdg : decode cc pc = .ok (.checkcast index, 3)) (kk : W p l e Rr s m args below meth c H locs cells slots Q (F0 m (pc + 3) ls (.ref a :: rest))) : W p l e Rr s m args below meth c H locs cells slots Q (F0 m pc ls (.ref a :: rest)) := by
  obtain ⟨hx, hb, -, hml, hown, hts, hK, hA, -, hSt⟩ := C
  obtain ⟨T, M, R, hRp, hP, hD, hS⟩ := hw
  obtain ⟨q, hq⟩ := wl_get (cy := cy) (M := M) (R := R) (hRp.kd hu hk)
  rw [ce_9 (isK_knd (hRp.kd hu hk))] at hq
  exact va_castA hx hb hown (hts _ w1) hP q hq (va_nm_int (hK.2 1 _ rfl).2) hdg kk
