/-! Part 03: a short form of contract, for methods that make no cell: from the cells wi to the cells wo, with the answer r; and how such a contract is entered, left and called -/
def CTi (l : Launch) (cl : List vw_C) (y : MethodName) (w : List Cond) (rm : Room) (D : va_G) (tys : List (ClassId × FieldType)) (av : List Value) (wi : va_W) (r : Int32) (wo : va_W) : Prop :=
  ∀ sz : Nat, Met l y w rm (va_Pc av (fun U => U.heap.size = sz ∧ va_P D cl wi U.heap ∧ va_K D cl tys U ∧ va_D (fun _ => True) wi)) (va_Qi (fun (x : Int32) (_ : Unit) => x = r) (fun _ t => va_P D cl wo t.heap ∧ va_K D cl tys t ∧ va_D (va_A wi sz) wo) (va_A wi sz)) 0 0 (va_A wi sz)
def CTv (l : Launch) (cl : List vw_C) (y : MethodName) (w : List Cond) (rm : Room) (D : va_G) (tys : List (ClassId × FieldType)) (av : List Value) (wi : va_W) (wo : va_W) : Prop :=
  ∀ sz : Nat, Met l y w rm (va_Pc av (fun U => U.heap.size = sz ∧ va_P D cl wi U.heap ∧ va_K D cl tys U ∧ va_D (fun _ => True) wi)) (va_Qv (fun (_ : Unit) => True) (fun _ t => va_P D cl wo t.heap ∧ va_K D cl tys t ∧ va_D (va_A wi sz) wo) (va_A wi sz)) 0 0 (va_A wi sz)
set_option maxHeartbeats 1000000 in
theorem CTi_of {l : Launch} {cl : List vw_C} {y : MethodName} {w w' : List Cond} {rm : Room} {D : va_G} {tys : List (ClassId × FieldType)} {av : List Value} {wi : va_W} {r : Int32} {wo : va_W} {cc : ByteArray} {maxL : Nat} {ty : FieldType} {own : String}
    (hy : plainName y.cls = true) (ho : y.cls = own) (hw : w = Cond.code y cc maxL (some ty) :: w') (hav : (lg_sl av).length ≤ maxL) (hty : narrow ty (.int r) = .int r)
    (body : ∀ (p : Program) (e : Env) (s : State) (m : MethodId) (below : List Frame) (meth : Method) (c : Code) (A : Nat → Prop) (ls : Array Slot) (Q : State → Prop),
      p.tables.exec = Jvm.exec → c.code = cc → c.maxLocals = maxL → (∀ x ∈ w, x.before av.toArray s = true) → s.vm.findClass own = some m.cls → va_K D cl tys s → va_P D cl wi s.heap → va_D A wi → va_S A s.heap s.heap [] → (∀ q, s.heap.size ≤ q → A q) → lv_has ls maxL (lv_args 0 av) →
      (∀ (H : Heap) (locs : List Loc) (pc : Nat) (ls : Array Slot) (v : Int32), va_P D cl wo H → va_D A wo → va_S A s.heap H locs → v = r → decode cc pc = .ok (.ireturn, 1) → W p l e rm s m av.toArray below meth c H locs 0 0 Q (F0 m pc ls [.int v])) →
      W p l e rm s m av.toArray below meth c s.heap [] 0 0 Q (F0 m 0 ls [])) : CTi l cl y w rm D tys av wi r wo := by
  intro sz
  refine Met.ofW (cc := cc) (maxL := maxL) (ret := some ty) hy hw ?_
  intro p e s m args below meth c s₁ B hml hv
  obtain ⟨rfl, hsz, hP, hK, hD0⟩ := hv
  have hx := B.exec
  have hb := B.bytes
  have hr := B.returns
  have hts := atoms_spec (ws := w) B.pre
  have hown : s.vm.findClass own = some m.cls := by rw [← ho]; exact findClass_of_methodNamed B.named
  have hlocks := B.notSynchronized
  subst hsz
  have hD := hD0.self (sz := s.heap.size)
  have hA : ∀ q : Nat, s.heap.size ≤ q → va_A wi s.heap.size q := fun q h => Or.inr h
  have hS : va_S (va_A wi s.heap.size) s.heap s.heap [] := va_S.rf
  have hl := lv_entry av (n := maxL) hav
  rw [lg_entry_eq]
  refine body p e s m below meth c (va_A wi s.heap.size) _ _ hx hb hml hts hown hK hP hD hS hA hl ?_
  intro H locs pc ls v hP9 hD9 hS9 hv9 hd
  subst hv9
  exact W.zret (ty := ty) hx hb hr hty (fun t ht hW => ⟨⟨v, (), rfl, rfl, by rw [ht]; exact hP9, va_K.moved hW.alike hK, hD9⟩, hS9.F ht⟩) hS9.2.2 hd
set_option maxHeartbeats 1000000 in
theorem CTv_of {l : Launch} {cl : List vw_C} {y : MethodName} {w w' : List Cond} {rm : Room} {D : va_G} {tys : List (ClassId × FieldType)} {av : List Value} {wi : va_W} {wo : va_W} {cc : ByteArray} {maxL : Nat} {own : String}
    (hy : plainName y.cls = true) (ho : y.cls = own) (hw : w = Cond.code y cc maxL none :: w') (hav : (lg_sl av).length ≤ maxL)
    (body : ∀ (p : Program) (e : Env) (s : State) (m : MethodId) (below : List Frame) (meth : Method) (c : Code) (A : Nat → Prop) (ls : Array Slot) (Q : State → Prop),
      p.tables.exec = Jvm.exec → c.code = cc → c.maxLocals = maxL → (∀ x ∈ w, x.before av.toArray s = true) → s.vm.findClass own = some m.cls → va_K D cl tys s → va_P D cl wi s.heap → va_D A wi → va_S A s.heap s.heap [] → (∀ q, s.heap.size ≤ q → A q) → lv_has ls maxL (lv_args 0 av) →
      (∀ (H : Heap) (locs : List Loc) (pc : Nat) (ls : Array Slot), va_P D cl wo H → va_D A wo → va_S A s.heap H locs → decode cc pc = .ok (.return_, 1) → W p l e rm s m av.toArray below meth c H locs 0 0 Q (F0 m pc ls [])) →
      W p l e rm s m av.toArray below meth c s.heap [] 0 0 Q (F0 m 0 ls [])) : CTv l cl y w rm D tys av wi wo := by
  intro sz
  refine Met.ofW (cc := cc) (maxL := maxL) (ret := none) hy hw ?_
  intro p e s m args below meth c s₁ B hml hv
  obtain ⟨rfl, hsz, hP, hK, hD0⟩ := hv
  have hx := B.exec
  have hb := B.bytes
  have hr := B.returns
  have hts := atoms_spec (ws := w) B.pre
  have hown : s.vm.findClass own = some m.cls := by rw [← ho]; exact findClass_of_methodNamed B.named
  have hlocks := B.notSynchronized
  subst hsz
  have hD := hD0.self (sz := s.heap.size)
  have hA : ∀ q : Nat, s.heap.size ≤ q → va_A wi s.heap.size q := fun q h => Or.inr h
  have hS : va_S (va_A wi s.heap.size) s.heap s.heap [] := va_S.rf
  have hl := lv_entry av (n := maxL) hav
  rw [lg_entry_eq]
  refine body p e s m below meth c (va_A wi s.heap.size) _ _ hx hb hml hts hown hK hP hD hS hA hl ?_
  intro H locs pc ls hP9 hD9 hS9 hd
  exact W.vret hx hb hr (fun t ht hW => ⟨⟨(), rfl, trivial, by rw [ht]; exact hP9, va_K.moved hW.alike hK, hD9⟩, hS9.F ht⟩) hS9.2.2 hd
section CTcalls
variable {p : Program} {l : Launch} {e : Env} {R : Room} {s : State} {m : MethodId} {args : Array Value} {below : List Frame} {meth : Method} {c : Code} {H : Heap} {locs : List Loc} {cells slots : Nat} {Q : State → Prop}
variable {pc : Nat} {ls : Array Slot} {rest : List Value} {A : Nat → Prop} {cl : List vw_C} {D : va_G} {tys tys' : List (ClassId × FieldType)} {ws wi wo wr : va_W} {y : MethodName} {w : List Cond} {rm : Room} {As : List Value} {cc bytes : ByteArray} {nL maxL n index : Nat} {ret : Option FieldType} {Ts : List Cond} {own C : String} {b : Nat}
/-- what the callee's cells and the rest are -/
abbrev CTp (ws wi wr : va_W) (isC isR : List Nat) : Prop := isC.map (fun i => ws[i]?) = wi.map some ∧ isR.map (fun i => ws[i]?) = wr.map some ∧ va_nd isC = true ∧ va_nd isR = true ∧ ∀ i ∈ isR, i ∉ isC
theorem CT_ps {isC isR : List Nat} (h : CTp ws wi wr isC isR) (hP : va_P D cl ws H) : va_P D cl wi H := by
  refine hP.sub isC ?_
  have h1 := h.1
  have : ∀ (is : List Nat) (wi : va_W), is.map (fun i => ws[i]?) = wi.map some → is.filterMap (fun i => ws[i]?) = wi := by
    intro is
    induction is with
    | nil => intro wi h; cases wi with
      | nil => rfl
      | cons a t => exact absurd h (by simp)
    | cons i is ih =>
      intro wi h
      cases wi with
      | nil => exact absurd h (by simp)
      | cons a t =>
        rw [List.map_cons, List.map_cons, List.cons.injEq] at h
        rw [List.filterMap_cons, h.1, ih t h.2]
  exact this isC wi h1
theorem CTi_go {r : Int32} {isC isR : List Nat} (hp : CTp ws wi wr isC isR) (hK : va_K D cl tys s) (hP : va_P D cl ws H) (hD : va_D A ws) (hS : va_S A s.heap H locs) (hA : ∀ q, s.heap.size ≤ q → A q) {st0 : List Value} {a : Array Value}
    (hr : va_Run p l e R s m args below meth c H locs cells slots 0 0 (F0 m pc ls st0) rest (va_Qi (fun (x : Int32) (_ : Unit) => x = r) (fun _ t => va_P D cl wo t.heap ∧ va_K D cl tys' t ∧ va_D (va_A wi H.size) wo) (va_A wi H.size) a) (va_A wi H.size))
    (kk : ∀ (H1 : Heap) (locs1 : List Loc), va_P D cl (wr ++ wo) H1 → va_D A (wr ++ wo) → va_S A s.heap H1 locs1 → W p l e R s m args below meth c H1 locs1 cells slots Q (F0 m (pc + 3) ls (.int r :: rest))) :
    W p l e R s m args below meth c H locs cells slots Q (F0 m pc ls st0) := by
  have hFc := va_free (wc := wi) hD hS hA isC hp.1
  refine va_calli hr hS (fun q _ h => hFc q h) hFc (fun x u t H1 locs1 ht hvm hx hB hz1 hk1 hS1 => ?_)
  subst hx
  obtain ⟨hP1, -, hD1⟩ := hB
  rw [ht] at hP1
  obtain ⟨hP2, hD2⟩ := va_join (wr := wr) (w1 := wo) hP hD isC isR hp.1 hp.2.1 hp.2.2.2.1 hp.2.2.2.2 hk1 hFc hP1 hD1
  exact kk H1 locs1 hP2 hD2 hS1
theorem CTv_go {isC isR : List Nat} (hp : CTp ws wi wr isC isR) (hK : va_K D cl tys s) (hP : va_P D cl ws H) (hD : va_D A ws) (hS : va_S A s.heap H locs) (hA : ∀ q, s.heap.size ≤ q → A q) {st0 : List Value} {a : Array Value}
    (hr : va_Run p l e R s m args below meth c H locs cells slots 0 0 (F0 m pc ls st0) rest (va_Qv (fun (_ : Unit) => True) (fun _ t => va_P D cl wo t.heap ∧ va_K D cl tys' t ∧ va_D (va_A wi H.size) wo) (va_A wi H.size) a) (va_A wi H.size))
    (kk : ∀ (H1 : Heap) (locs1 : List Loc), va_P D cl (wr ++ wo) H1 → va_D A (wr ++ wo) → va_S A s.heap H1 locs1 → W p l e R s m args below meth c H1 locs1 cells slots Q (F0 m (pc + 3) ls rest)) :
    W p l e R s m args below meth c H locs cells slots Q (F0 m pc ls st0) := by
  have hFc := va_free (wc := wi) hD hS hA isC hp.1
  refine va_callv hr hS (fun q _ h => hFc q h) hFc (fun u t H1 locs1 ht hvm hx hB hz1 hk1 hS1 => ?_)
  obtain ⟨hP1, -, hD1⟩ := hB
  rw [ht] at hP1
  obtain ⟨hP2, hD2⟩ := va_join (wr := wr) (w1 := wo) hP hD isC isR hp.1 hp.2.1 hp.2.2.2.1 hp.2.2.2.2 hk1 hFc hP1 hD1
  exact kk H1 locs1 hP2 hD2 hS1
/-- the callee's start, out of the caller's world -/
theorem CT_pre {isC isR : List Nat} {av : List Value} (hp : CTp ws wi wr isC isR) (hK : va_K D cl tys s) (js : List Nat) (hj : js.filterMap (fun i => tys[i]?) = tys') (hP : va_P D cl ws H) (hD : va_D A ws) :
    FrameBlind (va_Pc av (fun U => U.heap.size = H.size ∧ va_P D cl wi U.heap ∧ va_K D cl tys' U ∧ va_D (fun _ => True) wi)) ∧ ∀ U : State, U.heap = H → s.WarmedH U.vm → va_Pc av (fun U => U.heap.size = H.size ∧ va_P D cl wi U.heap ∧ va_K D cl tys' U ∧ va_D (fun _ => True) wi) av.toArray U := by
  have hKc := hK.sub (tys' := tys') js hj
  have hPc := CT_ps hp hP
  have hDc := hD.sub (ws' := wi) isC hp.2.2.1 hp.1
  refine ⟨fun a U g mk q => ?_, fun U hU hW => ⟨rfl, by rw [hU], by rw [hU]; exact hPc, va_K.moved hW.alike hKc, hDc.weaken (fun _ _ _ _ => trivial)⟩⟩
  obtain ⟨q0, q1, qP, qK, qD⟩ := q
  exact ⟨q0, q1, qP, va_K.moved (u := U) (U := U.calling g mk a) (Vm.Alike.refl U.vm) qK, qD⟩
/-- invokevirtual with an int answer -/
theorem CTi_V (S : CallFix p m c cc nL s args Ts own) {r : Int32} {isC isR : List Nat} (js : List Nat) (hC : CTi l cl y w rm D tys' (.ref b :: As) wi r wo) (cw : CallW R s args own C index y bytes maxL ret w rm 0 0 n) (hp : CTp ws wi wr isC isR) (hj : js.filterMap (fun i => tys[i]?) = tys')
    (hK : va_K D cl tys s) (hP : va_P D cl ws H) (hD : va_D A ws) (hS : va_S A s.heap H locs) (hA : ∀ q, s.heap.size ≤ q → A q) (hrc : ∃ cell : Cell, H[b]? = some cell ∧ cell.vm.isStatics = false ∧ s.vm.findClass C = some cell.cls)
    (hn : As.length = n) (hsize : ls.size = nL) (hW : (rest.map fun v => v.category).sum ≤ 8) (hdg : decode cc pc = .ok (.invokevirtual index, 3)) (hf : cells ≤ R.cells ∧ slots ≤ R.slots)
    (kk : ∀ (H1 : Heap) (locs1 : List Loc), va_P D cl (wr ++ wo) H1 → va_D A (wr ++ wo) → va_S A s.heap H1 locs1 → W p l e R s m args below meth c H1 locs1 cells slots Q (F0 m (pc + 3) ls (.int r :: rest))) :
    W p l e R s m args below meth c H locs cells slots Q (F0 m pc ls (As.reverse ++ .ref b :: rest)) :=
  CTi_go hp hK hP hD hS hA (va_runV S (hC H.size) cw ⟨(CT_pre hp hK js hj hP hD).1, hrc, (CT_pre hp hK js hj hP hD).2⟩ rfl hn hsize rfl (lv_room hW) hdg hf) kk
theorem CTv_V (S : CallFix p m c cc nL s args Ts own) {isC isR : List Nat} (js : List Nat) (hC : CTv l cl y w rm D tys' (.ref b :: As) wi wo) (cw : CallW R s args own C index y bytes maxL ret w rm 0 0 n) (hp : CTp ws wi wr isC isR) (hj : js.filterMap (fun i => tys[i]?) = tys')
    (hK : va_K D cl tys s) (hP : va_P D cl ws H) (hD : va_D A ws) (hS : va_S A s.heap H locs) (hA : ∀ q, s.heap.size ≤ q → A q) (hrc : ∃ cell : Cell, H[b]? = some cell ∧ cell.vm.isStatics = false ∧ s.vm.findClass C = some cell.cls)
    (hn : As.length = n) (hsize : ls.size = nL) (hW : (rest.map fun v => v.category).sum ≤ 8) (hdg : decode cc pc = .ok (.invokevirtual index, 3)) (hf : cells ≤ R.cells ∧ slots ≤ R.slots)
    (kk : ∀ (H1 : Heap) (locs1 : List Loc), va_P D cl (wr ++ wo) H1 → va_D A (wr ++ wo) → va_S A s.heap H1 locs1 → W p l e R s m args below meth c H1 locs1 cells slots Q (F0 m (pc + 3) ls rest)) :
    W p l e R s m args below meth c H locs cells slots Q (F0 m pc ls (As.reverse ++ .ref b :: rest)) :=
  CTv_go hp hK hP hD hS hA (va_runV S (hC H.size) cw ⟨(CT_pre hp hK js hj hP hD).1, hrc, (CT_pre hp hK js hj hP hD).2⟩ rfl hn hsize rfl (lv_room hW) hdg hf) kk
/-- invokestatic with an int answer -/
theorem CTi_S (S : CallFix p m c cc nL s args Ts own) {r : Int32} {isC isR : List Nat} (js : List Nat) (hC : CTi l cl y w rm D tys' As wi r wo) (cw : CallB R s args own index y bytes maxL ret w rm 0 0 n ∧ (Cond.static y).before args s = true) (hp : CTp ws wi wr isC isR) (hj : js.filterMap (fun i => tys[i]?) = tys')
    (hK : va_K D cl tys s) (hP : va_P D cl ws H) (hD : va_D A ws) (hS : va_S A s.heap H locs) (hA : ∀ q, s.heap.size ≤ q → A q)
    (hn : As.length = n) (hsize : ls.size = nL) (hW : (rest.map fun v => v.category).sum ≤ 8) (hdg : decode cc pc = .ok (.invokestatic index, 3)) (hf : cells ≤ R.cells ∧ slots ≤ R.slots)
    (kk : ∀ (H1 : Heap) (locs1 : List Loc), va_P D cl (wr ++ wo) H1 → va_D A (wr ++ wo) → va_S A s.heap H1 locs1 → W p l e R s m args below meth c H1 locs1 cells slots Q (F0 m (pc + 3) ls (.int r :: rest))) :
    W p l e R s m args below meth c H locs cells slots Q (F0 m pc ls (As.reverse ++ rest)) :=
  CTi_go hp hK hP hD hS hA (va_runS S (hC H.size) cw (CT_pre hp hK js hj hP hD) rfl hn hsize rfl (lv_room hW) hdg hf) kk
end CTcalls
/-! the same with the words and classes of this claim -/
abbrev KTi (l : Launch) (y : MethodName) (cc : ByteArray) (n : Nat) (ty : FieldType) (rm : Room) (D : va_G) (tys : List (ClassId × FieldType)) (av : List Value) (wi : va_W) (r : Int32) (wo : va_W) : Prop := CTi l cls_ y (wz y cc n (some ty)) rm D tys av wi r wo
abbrev KTv (l : Launch) (y : MethodName) (cc : ByteArray) (n : Nat) (rm : Room) (D : va_G) (tys : List (ClassId × FieldType)) (av : List Value) (wi : va_W) (wo : va_W) : Prop := CTv l cls_ y (wz y cc n none) rm D tys av wi wo
theorem KTi_of {l : Launch} {y : MethodName} {rm : Room} {D : va_G} {tys : List (ClassId × FieldType)} {av : List Value} {wi : va_W} {r : Int32} {wo : va_W} {cc : ByteArray} {maxL : Nat} {ty : FieldType} {own : String}
    (hy : plainName y.cls = true) (ho : y.cls = own) (hav : (lg_sl av).length ≤ maxL) (hty : narrow ty (.int r) = .int r)
    (body : ∀ (p : Program) (e : Env) (s : State) (m : MethodId) (below : List Frame) (meth : Method) (c : Code) (A : Nat → Prop) (ls : Array Slot) (Q : State → Prop),
      p.tables.exec = Jvm.exec → c.code = cc → c.maxLocals = maxL → (∀ x ∈ lw_G, x.before av.toArray s = true) → s.vm.findClass own = some m.cls → va_K D cls_ tys s → va_P D cls_ wi s.heap → va_D A wi → va_S A s.heap s.heap [] → (∀ q, s.heap.size ≤ q → A q) → lv_has ls maxL (lv_args 0 av) →
      (∀ (H : Heap) (locs : List Loc) (pc : Nat) (ls : Array Slot) (v : Int32), va_P D cls_ wo H → va_D A wo → va_S A s.heap H locs → v = r → decode cc pc = .ok (.ireturn, 1) → W p l e rm s m av.toArray below meth c H locs 0 0 Q (F0 m pc ls [.int v])) →
      W p l e rm s m av.toArray below meth c s.heap [] 0 0 Q (F0 m 0 ls [])) : KTi l y cc maxL ty rm D tys av wi r wo :=
  CTi_of hy ho rfl hav hty (fun p e s m below meth c A ls Q hx hb hml hts hown hK hP hD hS hA hl fin => body p e s m below meth c A ls Q hx hb hml (fun x h => hts x (List.mem_cons_of_mem _ h)) hown hK hP hD hS hA hl fin)
theorem KTv_of {l : Launch} {y : MethodName} {rm : Room} {D : va_G} {tys : List (ClassId × FieldType)} {av : List Value} {wi : va_W} {wo : va_W} {cc : ByteArray} {maxL : Nat} {own : String}
    (hy : plainName y.cls = true) (ho : y.cls = own) (hav : (lg_sl av).length ≤ maxL)
    (body : ∀ (p : Program) (e : Env) (s : State) (m : MethodId) (below : List Frame) (meth : Method) (c : Code) (A : Nat → Prop) (ls : Array Slot) (Q : State → Prop),
      p.tables.exec = Jvm.exec → c.code = cc → c.maxLocals = maxL → (∀ x ∈ lw_G, x.before av.toArray s = true) → s.vm.findClass own = some m.cls → va_K D cls_ tys s → va_P D cls_ wi s.heap → va_D A wi → va_S A s.heap s.heap [] → (∀ q, s.heap.size ≤ q → A q) → lv_has ls maxL (lv_args 0 av) →
      (∀ (H : Heap) (locs : List Loc) (pc : Nat) (ls : Array Slot), va_P D cls_ wo H → va_D A wo → va_S A s.heap H locs → decode cc pc = .ok (.return_, 1) → W p l e rm s m av.toArray below meth c H locs 0 0 Q (F0 m pc ls [])) →
      W p l e rm s m av.toArray below meth c s.heap [] 0 0 Q (F0 m 0 ls [])) : KTv l y cc maxL rm D tys av wi wo :=
  CTv_of hy ho rfl hav (fun p e s m below meth c A ls Q hx hb hml hts hown hK hP hD hS hA hl fin => body p e s m below meth c A ls Q hx hb hml (fun x h => hts x (List.mem_cons_of_mem _ h)) hown hK hP hD hS hA hl fin)
