/-! Part 42: methods with an exception table: entered, called, and a callee's exception caught in them -/
abbrev wzW (y : MethodName) (cc : ByteArray) (n : Nat) (r : Option FieldType) (hh : List (Nat × Nat × Nat × Nat)) : List Cond := Cond.codeWith y cc n r hh :: lw_G
def NX (U : State) : Prop := va_Nc "java/lang/IllegalStateException" "java/lang/IllegalArgumentException" U ∧ va_Nc "java/util/NoSuchElementException" "java/lang/IllegalArgumentException" U
theorem NX.moved {u U : State} (hvm : u.vm.Alike U.vm) (h : NX u) : NX U := ⟨va_Nc.moved hvm h.1, va_Nc.moved hvm h.2⟩
section CatchR
variable {p : Program} {l : Launch} {e : Env} {R : Room} {s : State} {m : MethodId} {args : Array Value} {below : List Frame} {meth : Method} {c : Code} {H : Heap} {locs : List Loc} {cells slots : Nat} {Q : State → Prop}
/-- the handler that the search comes to -/
def HC (p : Program) (l : Launch) (e : Env) (R : Room) (s : State) (m : MethodId) (args : Array Value) (below : List Frame) (meth : Method) (c : Code) (X : String) (pc hpc : Nat) : Prop :=
  ∀ (T : State) (locs : List Loc) (cells slots : Nat) (a : Addr) (cell : Cell) (g : JFrame), Stand p l e R s m args below meth c T locs cells slots → T.heap[a]? = some cell → s.vm.findClass X = some cell.cls → cell.vm = .none → g.method = m → g.pc = pc →
    ∃ vm', s.WarmedH vm' ∧ FTo e g a c.exceptionTable.toList ((T.setTop g).pushFrame (.throwing a)) (.found hpc) vm'
theorem HC_1 {X own : String} {pc hpc a1 b1 k : Nat} {es : List (Nat × Nat × Nat × Nat)} (ht : c.exceptionTable.toList.map (fun h => (h.startPc, h.endPc, h.handlerPc, h.catchType)) = (a1, b1, hpc, k) :: es) (h1 : a1 ≤ pc) (h2 : pc < b1) (h0 : k ≠ 0)
    (hown : s.vm.findClass own = some m.cls) (hlink : (Cond.classLink own k X).before args s = true) : HC p l e R s m args below meth c X pc hpc := by
  intro T locs cells slots a cell g XS hcell hX hv hg hpc9
  obtain ⟨x, xs, e1, e2, -⟩ := List.map_eq_cons_iff.mp ht
  simp only [Prod.mk.injEq] at e2
  obtain ⟨rfl, rfl, rfl, rfl⟩ := e2
  obtain ⟨cT, hcT, hcl, hW, hkt⟩ := link_at XS hown hlink
  cases hX.symm.trans hcT
  have hfit : T.vm.assignable cell.cls cell.cls = true := va_asg _ _
  subst hg
  refine ⟨_, hW, ?_⟩
  rw [e1]
  have hvm := Stand.throwing_vm T g a
  have h9 := FTo_found (e := e) (f := g) (a := a) (x := x) (es := xs) (s := (T.setTop g).pushFrame (.throwing a)) (c := cell.cls) (cell := cell) (by simp only [covers, hpc9]; simp [h1, h2]) h0 (by rw [hvm]; exact hcl) (by rw [Stand.throwing_heap]; exact hcell)
    (fun k hk => by rw [hv] at hk; cases hk) (by rw [hvm]; exact Vm.classAt_of_assignable hfit hkt) (by rw [hvm]; exact hkt) (by rw [hvm]; exact hfit)
  rw [hvm] at h9
  exact h9
theorem HC_2 {X X1 own : String} {pc hpc a1 b1 a2 b2 h1' k1 k2 : Nat} {es : List (Nat × Nat × Nat × Nat)} (ht : c.exceptionTable.toList.map (fun h => (h.startPc, h.endPc, h.handlerPc, h.catchType)) = (a1, b1, h1', k1) :: (a2, b2, hpc, k2) :: es) (h1 : a1 ≤ pc) (h2 : pc < b1) (h0 : k1 ≠ 0) (h3 : a2 ≤ pc) (h4 : pc < b2) (h5 : k2 ≠ 0)
    (hown : s.vm.findClass own = some m.cls) (hlink1 : (Cond.classLink own k1 X1).before args s = true) (hlink2 : (Cond.classLink own k2 X).before args s = true) (hno : va_Nc X X1 s) : HC p l e R s m args below meth c X pc hpc := by
  intro T locs cells slots a cell g XS hcell hX hv hg hpc9
  obtain ⟨x, xs, e1, e2, e3⟩ := List.map_eq_cons_iff.mp ht
  obtain ⟨y, ys, e4, e5, -⟩ := List.map_eq_cons_iff.mp e3
  simp only [Prod.mk.injEq] at e2 e5
  obtain ⟨rfl, rfl, rfl, rfl⟩ := e2
  obtain ⟨rfl, rfl, rfl, rfl⟩ := e5
  obtain ⟨c1, hc1, hcl1, hW1, hkt1⟩ := link_at XS hown hlink1
  have X1' := XS.noted hW1
  obtain ⟨c2, hc2, hcl2, hW2, hkt2⟩ := link_at X1' hown hlink2
  obtain ⟨q1, q2, hq1, hq2, hq3⟩ := hno
  cases hX.symm.trans hq1
  cases hc1.symm.trans hq2
  cases hX.symm.trans hc2
  have hfit1 : T.vm.assignable cell.cls c1 = false := by rw [XS.warmed.alike.assignable]; exact hq3
  have hfit2 : (T.setVm (T.vm.noted m.cls x.catchType (.cls c1))).vm.assignable cell.cls cell.cls = true := va_asg _ _
  have hfit2' : T.vm.assignable cell.cls cell.cls = true := va_asg _ _
  have hkt2' : ∃ k, T.vm.classes[cell.cls]? = some k := by
    obtain ⟨k9, hk9⟩ := Vm.classAt_of_findClass hc2
    obtain ⟨k8, hk8, -⟩ := XS.warmed.alike.2.2 _ _ hk9
    exact ⟨k8, hk8⟩
  have hkc := Vm.classAt_of_assignable hfit2' hkt2'
  subst hg
  refine ⟨_, hW2, ?_⟩
  rw [e1, e4]
  have hvm := Stand.throwing_vm T g a
  refine FTo_pass (c := c1) (cell := cell) (by simp only [covers, hpc9]; simp [h1, h2]) h0 (by rw [hvm]; exact hcl1) (by rw [Stand.throwing_heap]; exact hcell) (fun k hk => by rw [hv] at hk; cases hk) (by rw [hvm]; exact hkc) (by rw [hvm]; exact hkt1) (by rw [hvm]; exact hfit1) ?_
  rw [hvm]
  have h9 := FTo_found (e := e) (f := g) (a := a) (x := y) (es := ys) (s := ((T.setTop g).pushFrame (.throwing a)).setVm (T.vm.noted g.method.cls x.catchType (.cls c1))) (c := cell.cls) (cell := cell) (by simp only [covers, hpc9]; simp [h3, h4]) h5 hcl2 (by show ((T.setTop g).pushFrame (.throwing a)).heap[a]? = _; rw [Stand.throwing_heap]; exact hcell)
    (fun k hk => by rw [hv] at hk; cases hk) (Vm.classAt_of_assignable hfit2 hkt2) hkt2 hfit2
  exact h9
set_option maxHeartbeats 1000000 in
/-- a callee throws, and it's caught here -/
theorem W_catch {cc bytes : ByteArray} {nL maxL index n : Nat} {ret : Option FieldType} {y : MethodName} {rm : Room} {Pc : Array Value → State → Prop} {X own C : String} {b pc hpc : Nat} {As rest : List Value} {ls : Array Slot}
    (S : CallFix p m c cc nL s args lw_G own) (hM : XT l y (wz y bytes maxL ret) rm Pc X) (cw : CallW R s args own C index y bytes maxL ret (wz y bytes maxL ret) rm 1 6 n) (hp : PreV s H C b Pc As) (hh : HC p l e R s m args below meth c X pc hpc)
    (hn : As.length = n) (hsize : ls.size = nL) (hW : (rest.map fun v => v.category).sum ≤ 8) (hdg : decode cc pc = .ok (.invokevirtual index, 3)) (hf : cells + 1 ≤ R.cells ∧ slots + 6 ≤ R.slots)
    (kk : ∀ (a : Nat) (H1 : Heap), H.size ≤ H1.size → (∀ q : Nat, q < H.size → H1[q]? = H[q]?) → W p l e R s m args below meth c H1 locs (cells + 1) (slots + 6) Q (F0 m hpc ls [.ref a])) :
    W p l e R s m args below meth c H locs cells slots Q (F0 m pc ls (As.reverse ++ .ref b :: rest)) := by
  obtain ⟨⟨hrc, hrs, hfr, hlo, hws, hcw, hcode, hini, hy, hlen, hl⟩, hin, hse⟩ := cw
  obtain ⟨hx, hb, hml, ho, -⟩ := S
  obtain ⟨hbl, ⟨cellB, hcB, hoB, hclB⟩, hPc⟩ := hp
  intro T hT X₀
  obtain ⟨a, T', hst, ⟨k1, k2, k3, cell, k4, k5, k6⟩, hstep⟩ := callVX X₀ hx (C := C) (bytes := bytes) (maxL := maxL) (ret := ret) ho hl hin hse hcode hy hM hbl hfr hlo hws hcw (fun a' U hW => word_at hW (Or.inl (by first | rfl | simp [Cond.onTables, Cond.keeps, Cond.steady])) hini) (by rw [hrc]; exact hf.1) (by rw [hrs]; exact hf.2)
    (by rw [hT]; exact hcB) hoB hclB (g := F0 m pc ls (As.reverse ++ .ref b :: rest)) rfl (hsize.trans hml.symm) (argsL := As) (rest := rest) (fun sig h => hn.trans (hlen sig h)) rfl (lv_room hW) (by rw [hb]; exact hdg) (fun vm₁ hW₁ => hPc (T.setVm vm₁) hT hW₁)
  rw [hT] at k2 k3
  obtain ⟨vm', hW', hF⟩ := hh T' locs (cells + 1) (slots + 6) a cell (F0 m pc ls rest) hst k4 k5 k6 rfl rfl
  obtain ⟨t, a1, b1⟩ := kk a T'.heap k2 k3 (T'.setVm vm') rfl (hst.noted hW')
  exact ⟨t, hstep _ (caughtTo (g := F0 m pc ls rest) hst.here hst.method' hst.code hF a1), b1⟩
end CatchR
set_option maxHeartbeats 1000000 in
theorem CTiW_of {l : Launch} {y : MethodName} {rm : Room} {D : va_G} {tys : List (ClassId × FieldType)} {av : List Value} {wi : va_W} {r : Int32} {wo : va_W} {cc : ByteArray} {maxL : Nat} {hh : List (Nat × Nat × Nat × Nat)} {own : String}
    (hy : plainName y.cls = true) (ho : y.cls = own) (hav : (lg_sl av).length ≤ maxL)
    (body : ∀ (p : Program) (e : Env) (s : State) (m : MethodId) (below : List Frame) (meth : Method) (c : Code) (A : Nat → Prop) (ls : Array Slot) (Q : State → Prop),
      p.tables.exec = Jvm.exec → c.code = cc → c.maxLocals = maxL → (∀ x ∈ lw_G, x.before av.toArray s = true) → s.vm.findClass own = some m.cls → va_K D cls_ tys s → va_P D cls_ wi s.heap → va_D A wi → va_S A s.heap s.heap [] → (∀ q, s.heap.size ≤ q → A q) → lv_has ls maxL (lv_args 0 av) →
      (∀ (H : Heap) (locs : List Loc) (pc : Nat) (ls : Array Slot) (v : Int32), va_P D cls_ wo H → va_D A wo → va_S A s.heap H locs → v = r → decode cc pc = .ok (.ireturn, 1) → W p l e rm s m av.toArray below meth c H locs 0 0 Q (F0 m pc ls [.int v])) →
      W p l e rm s m av.toArray below meth c s.heap [] 0 0 Q (F0 m 0 ls [])) : CTi l cls_ y (wzW y cc maxL (some .int) hh) rm D tys av wi r wo := by
  intro sz
  refine va_MetW (cc := cc) (maxL := maxL) (ret := some .int) (hh := hh) hy rfl ?_
  intro p e s m args below meth c s₁ B hml hv
  obtain ⟨rfl, hsz, hP, hK, hD0⟩ := hv
  have hx := B.exec
  have hb := B.bytes
  have hr := B.returns
  have hts := atoms_spec (ws := wzW y cc maxL (some .int) hh) B.pre
  have hown : s.vm.findClass own = some m.cls := by rw [← ho]; exact findClass_of_methodNamed B.named
  have hlocks := B.notSynchronized
  subst hsz
  have hl := lv_entry av (n := maxL) hav
  rw [lg_entry_eq]
  refine body p e s m below meth c (va_A wi s.heap.size) _ _ hx hb hml (fun x h => hts x (List.mem_cons_of_mem _ h)) hown hK hP (hD0.self (sz := s.heap.size)) va_S.rf (fun q h => Or.inr h) hl ?_
  intro H locs pc ls v hP9 hD9 hS9 hv9 hd
  subst hv9
  exact W.iret hx hb hr (fun t ht hW => ⟨⟨v, (), rfl, rfl, by rw [ht]; exact hP9, va_K.moved hW.alike hK, hD9⟩, hS9.F ht⟩) hS9.2.2 hd
/-- a method in which an exception is caught: one cell of six slots more, and the world as it was -/
def CX (l : Launch) (y : MethodName) (w : List Cond) (rm : Room) (D : va_G) (tys : List (ClassId × FieldType)) (av : List Value) (wi : va_W) (r : Int32) : Prop :=
  ∀ sz : Nat, Met l y w rm (va_Pc av (fun U => U.heap.size = sz ∧ va_P D cls_ wi U.heap ∧ va_K D cls_ tys U ∧ va_D (fun _ => True) wi ∧ TX (va_A wi sz) U U.heap ∧ SX U ∧ NX U)) (va_Qi (fun (x : Int32) (_ : Unit) => x = r) (fun _ t => va_P D cls_ wi t.heap ∧ va_K D cls_ tys t ∧ va_D (va_A wi sz) wi) (va_A wi sz)) 1 6 (va_A wi sz)
set_option maxHeartbeats 1000000 in
theorem CX_of {l : Launch} {y : MethodName} {rm : Room} {D : va_G} {tys : List (ClassId × FieldType)} {av : List Value} {wi : va_W} {r : Int32} {cc : ByteArray} {maxL : Nat} {hh : List (Nat × Nat × Nat × Nat)} {own : String}
    (hy : plainName y.cls = true) (ho : y.cls = own) (hav : (lg_sl av).length ≤ maxL)
    (body : ∀ (p : Program) (e : Env) (s : State) (m : MethodId) (below : List Frame) (meth : Method) (c : Code) (A : Nat → Prop) (ls : Array Slot) (Q : State → Prop),
      p.tables.exec = Jvm.exec → c.code = cc → c.maxLocals = maxL → (∀ x ∈ lw_G, x.before av.toArray s = true) → s.vm.findClass own = some m.cls → va_K D cls_ tys s → va_P D cls_ wi s.heap → va_D A wi → va_S A s.heap s.heap [] → (∀ q, s.heap.size ≤ q → A q) → lv_has ls maxL (lv_args 0 av) →
      c.exceptionTable.toList.map (fun h => (h.startPc, h.endPc, h.handlerPc, h.catchType)) = hh → TX A s s.heap → SX s → NX s →
      (∀ (H : Heap) (pc : Nat) (ls : Array Slot) (v : Int32), s.heap.size ≤ H.size → (∀ q : Nat, q < s.heap.size → H[q]? = s.heap[q]?) → v = r → decode cc pc = .ok (.ireturn, 1) → W p l e rm s m av.toArray below meth c H [] (0 + 1) (0 + 6) Q (F0 m pc ls [.int v])) →
      W p l e rm s m av.toArray below meth c s.heap [] 0 0 Q (F0 m 0 ls [])) : CX l y (wzW y cc maxL (some .int) hh) rm D tys av wi r := by
  intro sz
  refine va_MetW (cc := cc) (maxL := maxL) (ret := some .int) (hh := hh) hy rfl ?_
  intro p e s m args below meth c s₁ B hml hv
  obtain ⟨rfl, hsz, hP, hK, hD0, hTX, hSX, hNX⟩ := hv
  have hx := B.exec
  have hb := B.bytes
  have hr := B.returns
  have hts := atoms_spec (ws := wzW y cc maxL (some .int) hh) B.pre
  have hown : s.vm.findClass own = some m.cls := by rw [← ho]; exact findClass_of_methodNamed B.named
  have hlocks := B.notSynchronized
  obtain ⟨m9, meth9, c9, hn9, hm9, hc9, -, -, htab, -, -, -⟩ := Cond.codeWith_spec (hts _ List.mem_cons_self)
  cases B.named.symm.trans hn9
  cases B.method.symm.trans hm9
  cases (Stand.of_body B).code.symm.trans hc9
  subst hsz
  have hl := lv_entry av (n := maxL) hav
  rw [lg_entry_eq]
  refine body p e s m below meth c (va_A wi s.heap.size) _ _ hx hb hml (fun x h => hts x (List.mem_cons_of_mem _ h)) hown hK hP (hD0.self (sz := s.heap.size)) va_S.rf (fun q h => Or.inr h) hl htab hTX hSX hNX ?_
  intro H pc ls v hz hq hv9 hd
  subst hv9
  have hS9 : va_S (va_A wi s.heap.size) s.heap H [] := ⟨hz, fun q h1 _ => hq q h1, fun _ h => by cases h⟩
  have hP9 : va_P D cls_ wi H := fun k q hk => (hP k q hk).kept (hq q.1 (hP k q hk).lt)
  exact W.iret hx hb hr (fun t ht hW => ⟨⟨v, (), rfl, rfl, by rw [ht]; exact hP9, va_K.moved hW.alike hK, hD0.self⟩, hS9.F ht⟩) hS9.2.2 hd
