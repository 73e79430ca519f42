/-! Part 39: what a throw rests on, carried from call to call; the throw and the pass, as rows -/
/-- the four words on Throwable's statics -/
abbrev sp4 : List Cond := [.laysStatic Bundle.tN "UNASSIGNED_STACK" Bundle.steD, .laysStatic Bundle.tN "SUPPRESSED_SENTINEL" Bundle.listD, .isRef (.static Bundle.tN "UNASSIGNED_STACK" Bundle.steD), .isRef (.static Bundle.tN "SUPPRESSED_SENTINEL" Bundle.listD)]
theorem sp4_any {w : Cond} (hw : w ∈ sp4) {V : State} {a : Array Value} (h : w.before #[] V = true) : w.before a V = true := by
  simp only [sp4, List.mem_cons, List.not_mem_nil, or_false] at hw
  rcases hw with rfl | rfl | rfl | rfl <;> exact h
/-- they hold in every state that has these tables, and this heap but for A -/
def TX (A : Nat → Prop) (U : State) (H : Heap) : Prop := ∀ V : State, U.vm.Alike V.vm → (∀ a : Nat, a < H.size → ¬ A a → V.heap[a]? = H[a]?) → ∀ w ∈ sp4, w.before #[] V = true
theorem TX.moved {A : Nat → Prop} {u U : State} {H : Heap} (hvm : u.vm.Alike U.vm) (h : TX A u H) : TX A U H := fun V hV hH => h V (hvm.trans hV) hH
theorem TX.kept {A : Nat → Prop} {U : State} {H H1 : Heap} (h : TX A U H) (hz : H.size ≤ H1.size) (hq : ∀ a : Nat, a < H.size → ¬ A a → H1[a]? = H[a]?) : TX A U H1 := fun V hV hH => h V hV (fun a h1 h2 => by rw [hH a (Nat.lt_of_lt_of_le h1 hz) h2]; exact hq a h1 h2)
theorem TX.narrow {A B : Nat → Prop} {U : State} {H : Heap} (h : TX A U H) (hAB : ∀ q, B q → A q) : TX B U H := fun V hV hH => h V hV (fun a h1 h2 => hH a h1 (fun z => h2 (hAB a z)))
abbrev sx_L : List (Nat × String) := [(40, "too many variables"), (52, "too many literals"), (66, "too many clauses"), (74, "too many assumptions"), (102, "no such variable"), (107, "no model"), (113, "no such literal")]
abbrev dx_L : List MethodName := [Bundle.initS "java/lang/RuntimeException", Bundle.initS "java/lang/Exception", Bundle.initS Bundle.tN]
def SX (U : State) : Prop := (∀ q ∈ sx_L, ∃ a : Nat, vk_R R_C q.1 q.2 a U) ∧ ∀ x ∈ dx_L, va_Nw (.declares x) U
theorem SX.warm {s U : State} (hW : s.WarmedH U.vm) (h : SX s) : SX U := ⟨fun q hq => (h.1 q hq).elim fun a ha => ⟨a, vk_R.warm hW ha⟩, fun x hx => va_Nw.warmD hW (h.2 x hx)⟩
theorem SX.same {u U : State} (hv : U.vm = u.vm) (h : SX u) : SX U := ⟨fun q hq => (h.1 q hq).elim fun a ha => ⟨a, vk_R.same hv ha⟩, fun x hx => va_Nw.same rfl hv.symm (h.2 x hx)⟩
def xw (own : String) (ic : Nat) (cls : String) (k1 : Nat) (bx : ByteArray) : Prop := ∀ w ∈ xA own ic cls k1 bx, (w ∈ lw_tbl ∧ goodWord w = true) ∨ w ∈ sp4 ∨ ∃ x ∈ dx_L, w = .declares x
theorem xw_of {own cls : String} {ic k1 : Nat} {bx : ByteArray} (ps : List Nat) (hp : (xA own ic cls k1 bx).filter k2_isCode = ps.filterMap (fun i => lw_tbl[i]?))
    (h : ((xA own ic cls k1 bx).filter (fun w => !k2_isCode w)).all (fun w => (decide (w ∈ lw_tbl) && goodWord w) || (decide (w ∈ sp4) || decide (w ∈ dx_L.map Cond.declares))) = true) : xw own ic cls k1 bx := by
  intro w hw
  by_cases hc : k2_isCode w = true
  · have h1 : w ∈ (xA own ic cls k1 bx).filter k2_isCode := List.mem_filter.mpr ⟨hw, hc⟩
    rw [hp] at h1
    obtain ⟨i, -, hi⟩ := List.mem_filterMap.mp h1
    refine Or.inl ⟨List.mem_of_getElem? hi, ?_⟩
    cases w <;> first | (simp [k2_isCode] at hc; done) | rfl
  · have h1 : w ∈ (xA own ic cls k1 bx).filter (fun w => !k2_isCode w) := List.mem_filter.mpr ⟨hw, by simp [hc]⟩
    have h2 := List.all_eq_true.mp h w h1
    rw [Bool.or_eq_true, Bool.and_eq_true, Bool.or_eq_true, decide_eq_true_eq, decide_eq_true_eq, decide_eq_true_eq] at h2
    rcases h2 with h2 | h2 | h2
    · exact Or.inl h2
    · exact Or.inr (Or.inl h2)
    · obtain ⟨x, hx, e⟩ := List.mem_map.mp h2
      exact Or.inr (Or.inr ⟨x, hx, e.symm⟩)
abbrev bx13 : ByteArray := ⟨#[0x2a, 0x2b, 0xb7, 0x00, 0x0d, 0xb1]⟩
set_option maxRecDepth 100000 in
theorem xw_S : xw R_C 42 "java/lang/IllegalStateException" 7 Bundle.six := xw_of [338, 45, 367, 358, 361, 364] rfl (by decide +kernel)
set_option maxRecDepth 100000 in
theorem xw_A : xw R_C 104 "java/lang/IllegalArgumentException" 7 Bundle.six := xw_of [338, 45, 367, 406, 361, 364] rfl (by decide +kernel)
set_option maxRecDepth 100000 in
theorem xw_N : xw R_C 109 "java/util/NoSuchElementException" 13 bx13 := xw_of [338, 45, 367, 458, 361, 364] rfl (by decide +kernel)
section XRows
variable {p : Program} {l : Launch} {e : Env} {R : Room} {s : State} {m : MethodId} {args : Array Value} {below : List Frame} {meth : Method} {c : Code}
theorem no_cov {c : Code} (h : c.exceptionTable.isEmpty = true) (k : Nat) : ∀ x ∈ c.exceptionTable.toList, covers x k = false := by
  intro x hx
  have h1 : c.exceptionTable = #[] := Array.isEmpty_iff.mp h
  rw [h1] at hx
  cases hx
set_option maxHeartbeats 1000000 in
/-- new X; dup; ldc; invokespecial; athrow -/
theorem W_throw {cc : ByteArray} {A : Nat → Prop} (hx : p.tables.exec = Jvm.exec) (hb : c.code = cc) (hlocks : meth.locks = false) (hnoh : c.exceptionTable.isEmpty = true) (hfl : l.flags = flags0) {ls : Array Slot} (hml : c.maxLocals = ls.size)
    {own cls tx : String} {ic ik si k1 sq pc : Nat} {bx : ByteArray} (hown : s.vm.findClass own = some m.cls) (hts : ∀ w ∈ lw_G, w.before args s = true) (hTX : TX A s s.heap) (hSX : SX s) (hs : vk_R own si tx sq s)
    (hclk : Cond.classLink own ik cls ∈ lw_G) (hins : Cond.instantiable cls 6 ∈ lw_G) (hini : Cond.initialized cls ∈ lw_G) (hxw : xw own ic cls k1 bx) (hfit : Bundle.fit cls = true)
    (hb0 : decode bx 0 = .ok (.aload_n 0, 1)) (hb1 : decode bx 1 = .ok (.aload_n 1, 1)) (hb2 : decode bx 2 = .ok (.invokespecial k1, 3)) (hb5 : decode bx 5 = .ok (.return_, 1))
    (hd0 : decode cc pc = .ok (.new ik, 3)) (hd3 : decode cc (pc + 3) = .ok (.dup, 1)) (hd4 : decode cc (pc + 3 + 1) = .ok (.ldc si, 2)) (hd6 : decode cc (pc + 3 + 1 + 2) = .ok (.invokespecial ic, 3)) (hd9 : decode cc (pc + 3 + 1 + 2 + 3) = .ok (.athrow, 1))
    (hR1 : 5 < R.frames) (hR2 : 1 ≤ R.cells) (hR3 : 6 ≤ R.slots) (hR4 : 82 ≤ R.locals) :
    W p l e R s m args below meth c s.heap [] 0 0 (MQX below cls s) (F0 m pc ls []) := by
  refine W.newc hx hb hown (hts _ hclk) (hts _ hins) (hts _ hini) rfl hd0 (by omega) (by omega) (fun cC kC h1 h2 h3 h4 => ?_)
  show W p l e R s m args below meth c _ [] (0 + 1) (0 + 6) (MQX below cls s) (F0 m (pc + 3) ls [.ref s.heap.size])
  refine lv_dup hx hb hd3 rfl ?_
  refine va_ldcS hx hb hown hs hd4 ?_
  intro T hT X
  have hA : ∀ w ∈ xA own ic cls k1 bx, w.before args s = true := by
    intro w hw
    rcases hxw w hw with ⟨g1, g2⟩ | g | ⟨x, gx, rfl⟩
    · exact hts w (List.mem_filter.mpr ⟨g1, g2⟩)
    rotate_left
    · exact va_Nw.use rfl (hSX.2 x gx)
    · exact sp4_any g (hTX s (Vm.Alike.refl _) (fun _ _ _ => rfl) w g)
  obtain ⟨U, ce, q1, q2, q3, q4, q5, q6, q7, q8⟩ := xthrow (V := T) (a := s.heap.size) (g := F0 m (pc + 3 + 1 + 2) ls [.ref sq, .ref s.heap.size, .ref s.heap.size]) (msg := .ref sq) (rest := []) X hx (Launch.traces_off hfl X.admits) hown hfit hb0 hb1 hb2 hb5 hA h1 h2
    (by rw [hT]; exact Array.getElem?_push_size) (Nat.le_refl _) rfl rfl hml.symm rfl rfl rfl (by rw [hb]; exact hd6) (by rw [hb]; exact hd9) (no_cov hnoh _) hR1 (by show 2 * 0 + 1 + 81 ≤ R.locals; omega) hlocks
  refine ⟨U, q1, s.heap.size, q2, q3, q4, q5, Nat.le_refl _, ?_, ?_, ce, ?_, by rw [q7]; exact h1, q8⟩
  · rw [q6, hT]
    simp
  · intro q hq
    rw [q6, hT, Array.getElem?_setIfInBounds_ne (by omega), Array.getElem?_push_lt hq]
    exact (Array.getElem?_eq_getElem hq).symm
  · rw [q6, hT]
    simp
set_option maxHeartbeats 1000000 in
/-- a callee throws, and nobody catches it here -/
theorem W_pass {cc bytes : ByteArray} {nL maxL index n : Nat} {ret : Option FieldType} {y : MethodName} {rm : Room} {Pc : Array Value → State → Prop} {X own C : String} {b pc : Nat} {As rest : List Value} {ls : Array Slot}
    (S : CallFix p m c cc nL s args lw_G own) (hlocks : meth.locks = false) (hnoh : c.exceptionTable.isEmpty = true) (hM : XT l y (wz y bytes maxL ret) rm Pc X) (cw : CallW R s args own C index y bytes maxL ret (wz y bytes maxL ret) rm 1 6 n) (hp : PreV s s.heap C b Pc As)
    (hn : As.length = n) (hsize : ls.size = nL) (hW : (rest.map fun v => v.category).sum ≤ 8) (hdg : decode cc pc = .ok (.invokevirtual index, 3)) (hf : 1 ≤ R.cells ∧ 6 ≤ R.slots) :
    W p l e R s m args below meth c s.heap [] 0 0 (MQX below X s) (F0 m pc ls (As.reverse ++ .ref b :: rest)) := by
  obtain ⟨⟨hrc, hrs, hfr, hlo, hws, hcw, hcode, hini, hy, hlen, hl⟩, hin, hse⟩ := cw
  obtain ⟨hx, hb, hml, ho, -⟩ := S
  obtain ⟨hbl, ⟨cellB, hcB, hoB, hclB⟩, hPc⟩ := hp
  intro T hT X₀
  obtain ⟨a, T', hst, ⟨k1, k2, k3, cell, k4, k5, k6⟩, hstep⟩ := callVX X₀ hx (C := C) (bytes := bytes) (maxL := maxL) (ret := ret) ho hl hin hse hcode hy hM hbl hfr hlo hws hcw (fun a' U hW => word_at hW (Or.inl (by first | rfl | simp [Cond.onTables, Cond.keeps, Cond.steady])) hini) (by rw [hrc]; omega) (by rw [hrs]; omega)
    (by rw [hT]; exact hcB) hoB hclB (g := F0 m pc ls (As.reverse ++ .ref b :: rest)) rfl (hsize.trans hml.symm) (argsL := As) (rest := rest) (fun sig h => hn.trans (hlen sig h)) rfl (lv_room hW) (by rw [hb]; exact hdg) (fun vm₁ hW₁ => hPc (T.setVm vm₁) hT hW₁)
  rw [hT] at k1 k2 k3
  obtain ⟨w1, w2, w3, w4, w5⟩ := hst.leaveThrown a (g := F0 m pc ls rest) rfl rfl rfl (no_cov hnoh _) hlocks
  exact ⟨_, hstep _ w1, a, w2, w3, w4, w5, k1, k2, k3, cell, k4, k5, k6⟩
end XRows
/-- a method that throws a new X: from the cells wi -/
def XK (l : Launch) (y : MethodName) (cc : ByteArray) (n : Nat) (ret : Option FieldType) (rm : Room) (D : va_G) (tys : List (ClassId × FieldType)) (av : List Value) (wi : va_W) (X : String) : Prop :=
  ∀ sz : Nat, XT l y (wz y cc n ret) rm (va_Pc av (fun U => U.heap.size = sz ∧ va_P D cls_ wi U.heap ∧ va_K D cls_ tys U ∧ va_D (fun _ => True) wi ∧ TX (va_A wi sz) U U.heap ∧ SX U)) X
theorem XK_of {l : Launch} {y : MethodName} {rm : Room} {D : va_G} {tys : List (ClassId × FieldType)} {av : List Value} {wi : va_W} {X : String} {cc : ByteArray} {maxL : Nat} {ret : Option FieldType} {own : String}
    (hy : plainName y.cls = true) (ho : y.cls = own) (hav : (lg_sl av).length ≤ maxL)
    (body : ∀ (p : Program) (e : Env) (s : State) (m : MethodId) (below : List Frame) (meth : Method) (c : Code) (A : Nat → Prop) (ls : Array Slot),
      p.tables.exec = Jvm.exec → c.code = cc → c.maxLocals = maxL → (∀ x ∈ lw_G, x.before av.toArray s = true) → s.vm.findClass own = some m.cls → va_K D cls_ tys s → va_P D cls_ wi s.heap → va_D A wi → va_S A s.heap s.heap [] → (∀ q, s.heap.size ≤ q → A q) → lv_has ls maxL (lv_args 0 av) → meth.locks = false → c.exceptionTable.isEmpty = true → TX A s s.heap → SX s →
      W p l e rm s m av.toArray below meth c s.heap [] 0 0 (MQX below X s) (F0 m 0 ls [])) : XK l y cc maxL ret rm D tys av wi X := by
  intro sz
  refine XT_of (cc := cc) (maxL := maxL) (ret := ret) hy rfl ?_
  intro p e s m args below meth c s₁ B hml hv
  obtain ⟨rfl, hsz, hP, hK, hD0, hT, hS9⟩ := hv
  have hts := atoms_spec (ws := wz y cc maxL ret) B.pre
  have hown : s.vm.findClass own = some m.cls := by rw [← ho]; exact findClass_of_methodNamed B.named
  subst hsz
  have hl := lv_entry av (n := maxL) hav
  rw [lg_entry_eq]
  exact body p e s m below meth c (va_A wi s.heap.size) _ B.exec B.bytes hml (fun x h => hts x (List.mem_cons_of_mem _ h)) hown hK hP (hD0.self (sz := s.heap.size)) va_S.rf (fun q h => Or.inr h) hl B.notSynchronized (B.noHandlers (hts _ List.mem_cons_self)) hT hS9
/-- the callee's start out of the caller's, where nothing has changed yet -/
theorem XK_pre {s : State} {C : String} {b : Nat} {As : List Value} {D : va_G} {tys : List (ClassId × FieldType)} {wi : va_W} {A : Nat → Prop} (hK : va_K D cls_ tys s) (hP : va_P D cls_ wi s.heap) (hD : va_D A wi) (hA : ∀ q, s.heap.size ≤ q → A q) (hTX : TX A s s.heap) (hSX : SX s)
    (hrc : ∃ cell : Cell, s.heap[b]? = some cell ∧ cell.vm.isStatics = false ∧ s.vm.findClass C = some cell.cls) :
    PreV s s.heap C b (va_Pc (.ref b :: As) (fun U => U.heap.size = s.heap.size ∧ va_P D cls_ wi U.heap ∧ va_K D cls_ tys U ∧ va_D (fun _ => True) wi ∧ TX (va_A wi s.heap.size) U U.heap ∧ SX U)) As := by
  refine ⟨fun a U g mk q => ?_, hrc, fun U hU hW => ⟨rfl, by rw [hU], by rw [hU]; exact hP, va_K.moved hW.alike hK, hD.weaken (fun _ _ _ _ => trivial), ?_, hSX.warm hW⟩⟩
  · obtain ⟨q0, q1, qP, qK, qD, qT, qS⟩ := q
    exact ⟨q0, q1, qP, va_K.moved (u := U) (U := U.calling g mk a) (Vm.Alike.refl U.vm) qK, qD, TX.moved (u := U) (U := U.calling g mk a) (Vm.Alike.refl U.vm) qT, SX.same (u := U) (U := U.calling g mk a) rfl qS⟩
  · rw [hU]
    refine (TX.moved hW.alike hTX).narrow (fun q hq => ?_)
    rcases hq with ⟨k, e, hk⟩ | hq
    · exact hD.2 k _ hk
    · exact hA q hq
