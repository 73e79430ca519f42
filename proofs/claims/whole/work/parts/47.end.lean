/-! Part 47: the law's loop, its start, and the claim (wip/whole/gen_end.py) -/
theorem sw8_out {x : Int32} (h0 : ¬ x = 0) (h1 : ¬ x = 1) (h2 : ¬ x = 2) (h3 : ¬ x = 3) (h4 : ¬ x = 4) (h5 : ¬ x = 5) (h6 : ¬ x = 6) (h7 : ¬ x = 7) (h8 : ¬ x = 8) : x.toInt < 0 ∨ 8 < x.toInt := by
  have g0 := ne_toInt h0
  have g1 := ne_toInt h1
  have g2 := ne_toInt h2
  have g3 := ne_toInt h3
  have g4 := ne_toInt h4
  have g5 := ne_toInt h5
  have g6 := ne_toInt h6
  have g7 := ne_toInt h7
  have g8 := ne_toInt h8
  rw [show (0 : Int32).toInt = 0 from by decide +kernel] at g0
  rw [show (1 : Int32).toInt = 1 from by decide +kernel] at g1
  rw [show (2 : Int32).toInt = 2 from by decide +kernel] at g2
  rw [show (3 : Int32).toInt = 3 from by decide +kernel] at g3
  rw [show (4 : Int32).toInt = 4 from by decide +kernel] at g4
  rw [show (5 : Int32).toInt = 5 from by decide +kernel] at g5
  rw [show (6 : Int32).toInt = 6 from by decide +kernel] at g6
  rw [show (7 : Int32).toInt = 7 from by decide +kernel] at g7
  rw [show (8 : Int32).toInt = 8 from by decide +kernel] at g8
  omega
set_option maxRecDepth 100000 in
theorem sub2_all : ∀ L, L < 1025 → (Int32.ofNat L - 2).toInt = (L : Int) - 2 := by decide +kernel
/-! THE CLAIM OUT OF ONE WALK OF THE LAW'S BODY. Your part is whole_start (and what it stands on); all else here is the same for every law, but numbers. -/
def R_law : String := "ClauseCourtLaw"
def lw_P (b : Addr) (xs : List Int32) (args : Array Value) (s : State) : Prop := args = #[.ref b] ∧ s.IntsAt b xs ∧ xs.length ≤ 1024 ∧ (Jvm.Cond.and given_1 narrow_1).before args s = true
def lw_Q (_ : Array Value) (s : State) (o : Outcome) (t : State) : Prop := o = .returned (some (.int 1)) ∧ Framed s o t [] 1045 17109
def lw_Z (below : List Frame) (a : Array Value) (s : State) : State → Prop := fun t => ∃ o, t.status = .running ∧ Ended t below o ∧ lw_Q a s o t
/-- the law's own end, with 1 on the stack, nothing written that was there before, its room as the claim has it -/
theorem lw_ret {p : Program} {l : Launch} {e : Env} {s : State} {m : MethodId} {below : List Frame} {meth : Method} {c : Code} {b : Nat} (hx : p.tables.exec = Jvm.exec) (hb : c.code = code) (hr : meth.sig.returnType = ret) (hlocks : meth.locks = false) {pc : Nat} {H : Heap} {ls : Array Slot} (hdg : decode code pc = .ok (.ireturn, 1)) : W p l e room_1 s m #[Value.ref b] below meth c H [] 1045 17109 (lw_Z below #[Value.ref b] s) (F0 m pc ls [.int 1]) := by
  intro T hT X
  obtain ⟨fs, hret, hrun, hended, hW, hframe⟩ := X.leave (v := some (.int 1)) (hlocks := hlocks) (fun h => by rw [hr] at h; cases h)
  have hmeth' : T.vm.method? m = some meth := X.method'
  refine ⟨T.setFrames fs, ?_, .returned (some (.int 1)), hrun, hended, rfl, ⟨_, rfl⟩, hW, hframe⟩
  jvm_step X.here [X.here.top, hx, hb, hdg, hmeth', hr, ret, narrow_b1]
  (try refine ⟨rfl, ?_⟩); (try refine ⟨rfl, ?_⟩)
  first | (intro acts; rw [hret _ acts rfl rfl rfl]) | rw [hret _ _ rfl rfl rfl]
  exact Steps.refl _
/-- what holds at the law's entry: the machine, the code, the tables' words (any of lw_tbl by 'hts w (by decide +kernel)'), the script of L ints xs at the cell b, what the Statement gives of the start (any of its parts by flat_of_before) -/
def lw_At (p : Program) (s : State) (m : MethodId) (meth : Method) (c : Code) (b L : Nat) (xs : Nat → Int32) : Prop :=
  p.tables.exec = Jvm.exec ∧ c.code = code ∧ meth.sig.returnType = ret ∧ c.maxLocals = 7 ∧ s.vm.findClass R_law = some m.cls ∧ (∀ w ∈ lw_tbl, w.before #[Value.ref b] s = true) ∧ va_X b L xs s s.heap ∧ b < s.heap.size ∧ meth.locks = false ∧ (Jvm.Cond.and given_1 narrow_1).before #[Value.ref b] s = true
set_option maxHeartbeats 4000000 in
set_option maxRecDepth 100000 in
theorem law_turn {p : Program} {l : Launch} {e : Env} {st : State} {m : MethodId} {below : List Frame} {meth : Method} {c : Code} {bs L : Nat} {xs : Nat → Int32} {D : va_G} {A : Nat → Prop} {cI cJ cZ : ClassId} {q qa g b b1 b2 h a1 a2 a3 a4 m0 ma o1 : Nat} {i cells slots : Nat} (X : LwX p l st m c bs L xs D A cI cJ cZ) (hr : meth.sig.returnType = ret) (hlocks : meth.locks = false) (hAq : ∀ z, A z → st.heap.size ≤ z) (hi1 : i ≤ 1024) (hc : cells + 1 ≤ 1045) (hsl : slots + 6 ≤ 17109) (next : i + 2 ≤ L → LwS p l e st m below meth c bs (lw_Z below #[Value.ref bs] st) D A cI cJ cZ q qa g b b1 b2 h a1 a2 a3 a4 m0 ma o1 (i + 2) 23 (cells + 1) (slots + 6)) : LwS p l e st m below meth c bs (lw_Z below #[Value.ref bs] st) D A cI cJ cZ q qa g b b1 b2 h a1 a2 a3 a4 m0 ma o1 i 23 cells slots := by
  have X0 := X
  obtain ⟨hx, hb, hml, hts, hown, hK, hX, hbl, hbA, hA, hTX, hSX, hNX, hfl, hL⟩ := X
  intro am an vn kn tm tn hm mo f0 s d th mo2 tt tf mt mf io mn fo H locs ls Rr hP hD hS hl
  refine lv_iload hx hb d_W_law_23 (lv_at hl 4 rfl) ?_
  refine lv_aload_n hx hb d_W_law_25 rfl (lv_at hl 0 rfl) ?_
  refine va_slen hx hb hX hbl hbA hS d_W_law_26 ?_
  refine lv_iconst (v := 2) hx hb d_W_law_27 (by decide) ?_
  refine lv_isub hx hb d_W_law_28 ?_
  have e2 := sub2_all L (by omega)
  have e1 : (nI i).toInt = i := nI_toInt (by omega)
  refine lv_icmp_gt (tgt := 431) hx hb d_W_law_29 rfl (fun hc29 => ?_) (fun hc29 => ?_)
  · refine lv_iconst (v := 1) hx hb d_W_law_431 (by decide) ?_
    exact va_forget (fun z hz => hAq _ (hS.2.2 z hz)) (W.widen (show cells ≤ 1045 by omega) (show slots ≤ 17109 by omega) (lw_ret hx hb hr hlocks d_W_law_432))
  have hi : i + 2 ≤ L := by
    have h1 : ¬ (Int32.ofNat L - 2).toInt < (nI i).toInt := fun h => hc29 (Int32.lt_iff_toInt_lt.mpr h)
    rw [e1, e2] at h1
    omega
  have n425 : LwS p l e st m below meth c bs (lw_Z below #[Value.ref bs] st) D A cI cJ cZ q qa g b b1 b2 h a1 a2 a3 a4 m0 ma o1 i 425 (cells + 1) (slots + 6) := by
    intro am an vn kn tm tn hm mo f0 s d th mo2 tt tf mt mf io mn fo H locs ls Rr hP hD hS hl
    refine lv_iinc (k := 4) (v := nI (i + 2)) (lv' := [(4, .int (nI (i + 2))), (0, .ref bs), (1, .ref q), (2, .ref m0), (3, .ref o1)]) hx hb d_W_law_425 hl rfl (nI_add i 2) (by decide) rfl (fun ls hl => ?_)
    refine lv_goto (tgt := 23) hx hb d_W_law_428 rfl ?_
    exact next hi _ _ _ _ _ _ _ _ _ _ _ _ _ _ _ _ _ _ _ _ _ _ _ Rr hP hD hS (lv_sub hl [1, 2, 3, 4, 0] rfl)
  refine lv_aload_n hx hb d_W_law_32 rfl (lv_at hl 0 rfl) ?_
  refine lv_iload hx hb d_W_law_33 (lv_at hl 4 rfl) ?_
  refine va_sld (i := nI i) hx hb hX hbl hbA hS (vp_in_nI (show i < L by omega) (by omega)) d_W_law_35 ?_
  refine lv_bipush (v := 15) hx hb d_W_law_36 (by decide +kernel) ?_
  refine lv_iand hx hb d_W_law_38 ?_
  generalize xs (nI i).toNatClampNeg &&& 15 = y
  have hc9 : cells + 1 ≤ room_1.cells := hc
  have hs9 : slots + 6 ≤ room_1.slots := hsl
  by_cases h09 : y = 0
  · subst h09
    refine lv_tableIn (tgt := 88) (off := 49) hx hb d_W_law_39 (by decide +kernel) (by decide +kernel) (by decide +kernel) rfl ?_
    exact law_c0 X0 hi hc9 hs9 n425 _ _ _ _ _ _ _ _ _ _ _ _ _ _ _ _ _ _ _ _ _ _ _ Rr hP hD hS hl
  by_cases h19 : y = 1
  · subst h19
    refine lv_tableIn (tgt := 132) (off := 93) hx hb d_W_law_39 (by decide +kernel) (by decide +kernel) (by decide +kernel) rfl ?_
    exact law_c1 X0 hi hc9 hs9 n425 _ _ _ _ _ _ _ _ _ _ _ _ _ _ _ _ _ _ _ _ _ _ _ Rr hP hD hS hl
  by_cases h29 : y = 2
  · subst h29
    refine lv_tableIn (tgt := 168) (off := 129) hx hb d_W_law_39 (by decide +kernel) (by decide +kernel) (by decide +kernel) rfl ?_
    exact law_c2 X0 hi hc9 hs9 n425 _ _ _ _ _ _ _ _ _ _ _ _ _ _ _ _ _ _ _ _ _ _ _ Rr hP hD hS hl
  by_cases h39 : y = 3
  · subst h39
    refine lv_tableIn (tgt := 212) (off := 173) hx hb d_W_law_39 (by decide +kernel) (by decide +kernel) (by decide +kernel) rfl ?_
    exact law_c3 X0 hi hc9 hs9 n425 _ _ _ _ _ _ _ _ _ _ _ _ _ _ _ _ _ _ _ _ _ _ _ Rr hP hD hS hl
  by_cases h49 : y = 4
  · subst h49
    refine lv_tableIn (tgt := 248) (off := 209) hx hb d_W_law_39 (by decide +kernel) (by decide +kernel) (by decide +kernel) rfl ?_
    exact law_c4 X0 hi hc9 hs9 n425 _ _ _ _ _ _ _ _ _ _ _ _ _ _ _ _ _ _ _ _ _ _ _ Rr hP hD hS hl
  by_cases h59 : y = 5
  · subst h59
    refine lv_tableIn (tgt := 261) (off := 222) hx hb d_W_law_39 (by decide +kernel) (by decide +kernel) (by decide +kernel) rfl ?_
    exact law_c5 X0 hi hc9 hs9 n425 _ _ _ _ _ _ _ _ _ _ _ _ _ _ _ _ _ _ _ _ _ _ _ Rr hP hD hS hl
  by_cases h69 : y = 6
  · subst h69
    refine lv_tableIn (tgt := 324) (off := 285) hx hb d_W_law_39 (by decide +kernel) (by decide +kernel) (by decide +kernel) rfl ?_
    exact law_c6 X0 hi hc9 hs9 n425 _ _ _ _ _ _ _ _ _ _ _ _ _ _ _ _ _ _ _ _ _ _ _ Rr hP hD hS hl
  by_cases h79 : y = 7
  · subst h79
    refine lv_tableIn (tgt := 337) (off := 298) hx hb d_W_law_39 (by decide +kernel) (by decide +kernel) (by decide +kernel) rfl ?_
    exact law_c7 X0 hi hc9 hs9 n425 _ _ _ _ _ _ _ _ _ _ _ _ _ _ _ _ _ _ _ _ _ _ _ Rr hP hD hS hl
  by_cases h89 : y = 8
  · subst h89
    refine lv_tableIn (tgt := 400) (off := 361) hx hb d_W_law_39 (by decide +kernel) (by decide +kernel) (by decide +kernel) rfl ?_
    exact law_c8 X0 hi hc9 hs9 n425 _ _ _ _ _ _ _ _ _ _ _ _ _ _ _ _ _ _ _ _ _ _ _ Rr hP hD hS hl
  refine lv_tableOut (tgt := 425) hx hb d_W_law_39 (sw8_out h09 h19 h29 h39 h49 h59 h69 h79 h89) rfl ?_
  exact W.widen (Nat.le_succ _) (Nat.le_add_right _ _) (n425 _ _ _ _ _ _ _ _ _ _ _ _ _ _ _ _ _ _ _ _ _ _ _ Rr hP hD hS hl)
theorem law_loop {p : Program} {l : Launch} {e : Env} {st : State} {m : MethodId} {below : List Frame} {meth : Method} {c : Code} {bs L : Nat} {xs : Nat → Int32} {D : va_G} {A : Nat → Prop} {cI cJ cZ : ClassId} {q qa g b b1 b2 h a1 a2 a3 a4 m0 ma o1 : Nat} (X : LwX p l st m c bs L xs D A cI cJ cZ) (hr : meth.sig.returnType = ret) (hlocks : meth.locks = false) (hAq : ∀ z, A z → st.heap.size ≤ z) : ∀ (k j : Nat), L ≤ 2 * j + 2 * k → 2 * j ≤ 1024 → LwS p l e st m below meth c bs (lw_Z below #[Value.ref bs] st) D A cI cJ cZ q qa g b b1 b2 h a1 a2 a3 a4 m0 ma o1 (2 * j) 23 (14 + j) (8875 + 6 * j) := by
  have hL : L ≤ 1024 := X.2.2.2.2.2.2.2.2.2.2.2.2.2.2
  intro k
  induction k with
  | zero =>
    intro j h1 h2
    exact law_turn X hr hlocks hAq h2 (by omega) (by omega) (fun h => absurd h (by omega))
  | succ k ih =>
    intro j h1 h2
    refine law_turn X hr hlocks hAq h2 (by omega) (by omega) (fun h => ?_)
    have h3 := ih (j + 1) (by omega) (by omega)
    rw [show 2 * (j + 1) = 2 * j + 2 from by omega, show 14 + (j + 1) = 14 + j + 1 from by omega, show 8875 + 6 * (j + 1) = 8875 + 6 * j + 6 from by omega] at h3
    exact h3
theorem stat_ok {args : Array Value} {st : State} {A : Nat → Prop} {C n d : String} (hl : (Cond.laysStatic C n d).before args st = true) (h : (Cond.isRef (.static C n d)).before args st = true) (hA : ∀ a : Nat, a < st.heap.size → ¬ A a) {V : State} (hV : st.vm.Alike V.vm) (hH : ∀ a : Nat, a < st.heap.size → ¬ A a → V.heap[a]? = st.heap[a]?) : (Cond.laysStatic C n d).before #[] V = true ∧ (Cond.isRef (.static C n d)).before #[] V = true := by
  obtain ⟨c, k, i, f, a, cell, hc, hi, hst, ha, hcell, hs, hcls, hlt, hty⟩ := Cond.laysStatic_spec hl
  obtain ⟨k', hi', he⟩ := State.fieldFound?_setVm hV hi
  have hi2 : V.fieldFound? C n d = some (c, k', i, f) := hi'
  have hc2 : V.vm.findClass C = some c := by rw [hV.findClass]; exact hc
  have ha2 : k'.statics = some a := by rw [he]; exact ha
  have hal := (Array.getElem?_eq_some_iff.mp hcell).1
  have hcell2 : V.heap[a]? = some cell := by rw [hH a hal (hA a hal)]; exact hcell
  have hty2 : k'.staticTypes[f.slot]? = some f.type := by rw [he]; exact hty
  refine ⟨?_, ?_⟩
  · simp [Cond.before, Cond.holds, Cond.value, hc2, hi2, ha2, hcell2, hst, hs, hcls, hlt, hty2]
  · cases hv : (Term.static C n d).eval args st none [] st with
    | none => simp [Cond.before, Cond.holds, Cond.value, hv] at h
    | some w =>
      obtain ⟨hst', a', cell', ha', hcell', -, hslot⟩ := Term.static_spec hi hv
      cases ha.symm.trans ha'
      cases hcell.symm.trans hcell'
      have hev : (Term.static C n d).eval #[] V none [] V = some w := by simp [Term.eval, State.fieldNamed?, hi2, hst, ha2, hcell2, hs, hslot]
      simp only [Cond.before, Cond.holds, Cond.value, hv] at h
      simp only [Cond.before, Cond.holds, Cond.value, hev]
      exact h
theorem str_ok {args : Array Value} {st : State} {k : Nat} {tx : String} (h1 : (Cond.stringRef R_C k tx).before args st = true) (h2 : (Cond.exactly (.string R_C k) "java/lang/String").before args st = true) : ∃ a : Nat, vk_R R_C k tx a st := by
  obtain ⟨a2, c, cA, kA, q1, -⟩ := Cond.exactly_spec (args := args) (first := st) (o := none) (s := st) (idx := []) (t := .string R_C k) (cls := "java/lang/String") h2
  exact ⟨a2, vk_R.of h1 q1⟩
set_option maxRecDepth 100000 in
theorem SX_start {bs : Nat} {st : State} (hts0 : ∀ w ∈ lw_tbl, w.before #[Value.ref bs] st = true) (hgv : (Jvm.Cond.and given_1 narrow_1).before #[Value.ref bs] st = true) : SX st := by
  have hs := flat_of_before _ hgv
  refine ⟨?_, ?_⟩
  · intro z hz
    simp only [sx_L, List.mem_cons, List.not_mem_nil, or_false] at hz
    rcases hz with rfl | rfl | rfl | rfl | rfl | rfl | rfl
    · exact str_ok (hts0 (.stringRef R_C 40 "too many variables") (List.mem_of_getElem? (i := 355) (by decide +kernel))) (hs _ (by decide +kernel))
    · exact str_ok (hts0 (.stringRef R_C 52 "too many literals") (List.mem_of_getElem? (i := 410) (by decide +kernel))) (hs _ (by decide +kernel))
    · exact str_ok (hts0 (.stringRef R_C 66 "too many clauses") (List.mem_of_getElem? (i := 421) (by decide +kernel))) (hs _ (by decide +kernel))
    · exact str_ok (hts0 (.stringRef R_C 74 "too many assumptions") (List.mem_of_getElem? (i := 429) (by decide +kernel))) (hs _ (by decide +kernel))
    · exact str_ok (hts0 (.stringRef R_C 102 "no such variable") (List.mem_of_getElem? (i := 445) (by decide +kernel))) (hs _ (by decide +kernel))
    · exact str_ok (hts0 (.stringRef R_C 107 "no model") (List.mem_of_getElem? (i := 455) (by decide +kernel))) (hs _ (by decide +kernel))
    · exact str_ok (hts0 (.stringRef R_C 113 "no such literal") (List.mem_of_getElem? (i := 403) (by decide +kernel))) (hs _ (by decide +kernel))
  · intro z hz
    simp only [dx_L, List.mem_cons, List.not_mem_nil, or_false] at hz
    rcases hz with rfl | rfl | rfl
    · exact va_Nw.of rfl (hts0 _ (List.mem_of_getElem? (i := 318) (by decide +kernel)))
    · exact va_Nw.of rfl (hts0 _ (List.mem_of_getElem? (i := 320) (by decide +kernel)))
    · exact va_Nw.of rfl (hts0 _ (List.mem_of_getElem? (i := 322) (by decide +kernel)))
set_option maxRecDepth 100000 in
theorem TX_start {bs : Nat} {st : State} {A : Nat → Prop} (hA : ∀ a : Nat, a < st.heap.size → ¬ A a) (hts0 : ∀ w ∈ lw_tbl, w.before #[Value.ref bs] st = true) (hgv : (Jvm.Cond.and given_1 narrow_1).before #[Value.ref bs] st = true) : TX A st st.heap := by
  have hs := flat_of_before _ hgv
  intro V hV hH w hw
  have g1 := stat_ok (hts0 (.laysStatic Bundle.tN "UNASSIGNED_STACK" Bundle.steD) (List.mem_of_getElem? (i := 341) (by decide +kernel))) (hs _ (by decide +kernel)) hA hV hH
  have g2 := stat_ok (hts0 (.laysStatic Bundle.tN "SUPPRESSED_SENTINEL" Bundle.listD) (List.mem_of_getElem? (i := 343) (by decide +kernel))) (hs _ (by decide +kernel)) hA hV hH
  simp only [sp4, List.mem_cons, List.not_mem_nil, or_false] at hw
  rcases hw with rfl | rfl | rfl | rfl
  · exact g1.1
  · exact g2.1
  · exact g1.2
  · exact g2.2
set_option maxRecDepth 100000 in
theorem NX_start {bs : Nat} {st : State} (hgv : (Jvm.Cond.and given_1 narrow_1).before #[Value.ref bs] st = true) : NX st := by
  have hs := flat_of_before _ hgv
  exact ⟨va_Nc.of (hs (.not (.castable "java/lang/IllegalStateException" "java/lang/IllegalArgumentException")) (by decide +kernel)), va_Nc.of (hs (.not (.castable "java/util/NoSuchElementException" "java/lang/IllegalArgumentException")) (by decide +kernel))⟩
theorem K_start {args : Array Value} {st : State} (hts : ∀ w ∈ lw_G, w.before args st = true) : ∃ D : va_G, va_K D cls_ [] st := by
  obtain ⟨c0, i0, k0⟩ := u_known hts u_H (hts _ ii_H)
  obtain ⟨c1, i1, k1⟩ := u_known hts u_D (hts _ ii_D)
  obtain ⟨c2, i2, k2⟩ := u_known hts u_S (hts _ ii_S)
  obtain ⟨c3, i3, k3⟩ := u_known hts u_C (hts _ ii_C)
  obtain ⟨c4, i4, k4⟩ := u_known hts u_M (hts _ ii_M)
  refine ⟨(fun k => match k with | 0 => c0 | 1 => c1 | 2 => c2 | 3 => c3 | _ => c4, fun k => match k with | 0 => i0 | 1 => i1 | 2 => i2 | 3 => i3 | _ => i4), fun c z hz => ?_, fun k z hk => by cases hk⟩
  match c, hz with
  | 0, hz => have hz : some (R_H, T_H, 1) = some z := hz; cases hz; exact k0
  | 1, hz => have hz : some (R_D, T_D, 7) = some z := hz; cases hz; exact k1
  | 2, hz => have hz : some (R_S, T_S, 4) = some z := hz; cases hz; exact k2
  | 3, hz => have hz : some (R_C, T_C, 11) = some z := hz; cases hz; exact k3
  | 4, hz => have hz : some (R_M, T_M, 12) = some z := hz; cases hz; exact k4
  | n + 5, hz => cases hz
set_option maxHeartbeats 4000000 in
set_option maxRecDepth 100000 in
theorem whole_start {p : Program} {e : Env} {st : State} {m : MethodId} {below : List Frame} {meth : Method} {c : Code} (l : Launch) (hfl : l.flags = flags0) {bs L : Nat} {xs : Nat → Int32} (hL : L ≤ 1024) (C0 : lw_At p st m meth c bs L xs) : W p l e room_1 st m #[Value.ref bs] below meth c st.heap [] 0 0 (lw_Z below #[Value.ref bs] st) (entryFrame m ([Value.ref bs] : List Value).toArray 7) := by
  obtain ⟨hx, hb, hr, hml, hown, hts0, hX, hbl, hlocks, hgv⟩ := C0
  have hown : st.vm.findClass R_W = some m.cls := hown
  have hts : ∀ w ∈ lw_G, w.before #[Value.ref bs] st = true := fun w h => hts0 w (lw_G_in w h)
  obtain ⟨D, hK⟩ := K_start hts
  obtain ⟨A, hAe⟩ : ∃ A : Nat → Prop, A = fun z => st.heap.size ≤ z := ⟨_, rfl⟩
  have hA : ∀ z, st.heap.size ≤ z → A z := fun z h => by rw [hAe]; exact h
  have hAq : ∀ z, A z → st.heap.size ≤ z := fun z h => by rw [hAe] at h; exact h
  have hAn : ∀ a : Nat, a < st.heap.size → ¬ A a := fun a h1 h2 => absurd (hAq a h2) (by omega)
  have hTX := TX_start hAn hts0 hgv
  have hSX := SX_start hts0 hgv
  have hNX := NX_start hgv
  have hP : va_P D cls_ [] st.heap := fun k z hk => by cases hk
  have hD : va_D A [] := ⟨fun i j x y hx => (by cases hx), fun k z hk => (by cases hk)⟩
  have hS : va_S A st.heap st.heap [] := va_S.rf
  have hl := lv_entry [Value.ref bs] (n := 7) (Nat.le_of_ble_eq_true rfl)
  rw [lg_entry_eq]
  generalize (lg_sl [Value.ref bs] ++ List.replicate (7 - (lg_sl [Value.ref bs]).length) Slot.unset).toArray = ls at hl ⊢
  have hl : lv_has ls 7 [(0, .ref bs)] := hl
  refine va_new (ci := 3) (fs := [.null, .null, .null, .null, .int 0, .int 0, .int 0, .int 0, .int 0, .int 0, .int 0]) (C := R_C) (T := T_C) (N := 11) hx hb hts u_C t_C t_C_ok hown (hts _ il_W_8) (hts _ ii_C) (hts _ in_C) hK hP hD hS hA rfl (by decide +kernel) (Nat.le_of_ble_eq_true rfl) (Nat.le_of_ble_eq_true rfl) d_W_law_0 (fun q H hP hD hS => ?_)
  have hP : va_P D cls_ ([] ++ [(q, .inr (3, [.null, .null, .null, .null, .int 0, .int 0, .int 0, .int 0, .int 0, .int 0, .int 0]))]) H := hP
  have hD : va_D A ([] ++ [(q, .inr (3, [.null, .null, .null, .null, .int 0, .int 0, .int 0, .int 0, .int 0, .int 0, .int 0]))]) := hD
  refine lv_dup hx hb d_W_law_3 rfl ?_
  have hPc := hP.sub (ws' := [(q, .inr (3, [.null, .null, .null, .null, .int 0, .int 0, .int 0, .int 0, .int 0, .int 0, .int 0]))]) [0] rfl
  have hDc := hD.sub (ws' := [(q, .inr (3, [.null, .null, .null, .null, .int 0, .int 0, .int 0, .int 0, .int 0, .int 0, .int 0]))]) [0] (by decide) rfl
  have hKc := hK.sub (tys' := []) [] rfl
  have hFc := va_free (wc := [(q, .inr (3, [.null, .null, .null, .null, .int 0, .int 0, .int 0, .int 0, .int 0, .int 0, .int 0]))]) hD hS hA [0] rfl
  refine va_callv (va_runI (As := []) (rest := [.ref q]) ⟨hx, hb, hml, hown, hts⟩ (k_C_init l D q H.size) (cwI 0 hts (z_wz h_C_init) rfl rfl rfl (hts _ in_C) (hts _ l_W_36) (hts _ im_C) rfl (by decide +kernel) ⟨Nat.le_of_ble_eq_true rfl, Nat.le_of_ble_eq_true rfl⟩) ⟨fun a U g mk q => by obtain ⟨q0, q1, qP, qK, qD⟩ := q; exact ⟨q0, q1, qP, va_K.moved (u := U) (U := U.calling g mk a) (Vm.Alike.refl U.vm) qK, qD⟩, fun U hU hW => ⟨rfl, by rw [hU], by rw [hU]; exact hPc, va_K.moved hW.alike hKc, hDc.weaken (fun _ _ _ _ => trivial)⟩⟩ rfl rfl hl.1 rfl (lv_room (Nat.le_of_ble_eq_true rfl)) d_W_law_4 ⟨Nat.le_of_ble_eq_true rfl, Nat.le_of_ble_eq_true rfl⟩) hS (fun q _ h => hFc q h) hFc (fun u t H1 locs ht hvm hw hB hz1 hk1 hS => ?_)
  obtain ⟨hP1, hK1, hD1⟩ := hB
  rw [ht] at hP1
  have hK1 := va_K.moved hvm.symm hK1
  obtain ⟨cI, ⟨h, a1, a2, a3, a4⟩, ⟨b, b1, b2⟩, g, qa⟩ := u
  obtain ⟨hP, hD⟩ := va_join (wr := []) (w1 := (wC cI q qa g b b1 b2 h a1 a2 a3 a4 (fun _ => 0) 0 0 0 0 0 0 0 0 (fun _ => 0, fun _ => 0, 0, 0) (fun _ => 0, fun _ => 0, fun _ => 0, fun _ => 0, 0, 0, 0))) hP hD [0] [] rfl rfl (by decide) (by decide) hk1 hFc hP1 hD1
  have hK := hK.app hK1
  generalize H1 = H at hP hS ⊢
  have hP : va_P D cls_ [(q, .inr (3, [.ref h, .ref b, .ref g, .ref qa, .int (nI 0), .int (nI 0), .int (nI 0), .int 0, .int (nI 0), .int 0, .int 0])), (qa, .inl (cI, 10, .inl (fun _ => 0))), (g, .inr (0, [.int 0])), (b, .inr (2, [.ref b1, .ref b2, .int (nI (sn ((fun _ => 0, fun _ => 0, 0, 0)))), .int (sh ((fun _ => 0, fun _ => 0, 0, 0)))])), (b1, .inl (cI, 10, .inl (sT ((fun _ => 0, fun _ => 0, 0, 0))))), (b2, .inl (cI, 10, .inl (sR ((fun _ => 0, fun _ => 0, 0, 0))))), (h, .inr (1, [.ref a1, .ref a2, .ref a3, .ref a4, .int (nI (dz ((fun _ => 0, fun _ => 0, fun _ => 0, fun _ => 0, 0, 0, 0)))), .int (nI (dl ((fun _ => 0, fun _ => 0, fun _ => 0, fun _ => 0, 0, 0, 0)))), .int (nI (dO ((fun _ => 0, fun _ => 0, fun _ => 0, fun _ => 0, 0, 0, 0))))])), (a1, .inl (cI, 1575, .inl (dC ((fun _ => 0, fun _ => 0, fun _ => 0, fun _ => 0, 0, 0, 0))))), (a2, .inl (cI, 1575, .inl (dF ((fun _ => 0, fun _ => 0, fun _ => 0, fun _ => 0, 0, 0, 0))))), (a3, .inl (cI, 1575, .inl (dT ((fun _ => 0, fun _ => 0, fun _ => 0, fun _ => 0, 0, 0, 0))))), (a4, .inl (cI, 3060, .inl (dK ((fun _ => 0, fun _ => 0, fun _ => 0, fun _ => 0, 0, 0, 0)))))] H := hP
  have hD : va_D A [(q, .inr (3, [.ref h, .ref b, .ref g, .ref qa, .int (nI 0), .int (nI 0), .int (nI 0), .int 0, .int (nI 0), .int 0, .int 0])), (qa, .inl (cI, 10, .inl (fun _ => 0))), (g, .inr (0, [.int 0])), (b, .inr (2, [.ref b1, .ref b2, .int (nI (sn ((fun _ => 0, fun _ => 0, 0, 0)))), .int (sh ((fun _ => 0, fun _ => 0, 0, 0)))])), (b1, .inl (cI, 10, .inl (sT ((fun _ => 0, fun _ => 0, 0, 0))))), (b2, .inl (cI, 10, .inl (sR ((fun _ => 0, fun _ => 0, 0, 0))))), (h, .inr (1, [.ref a1, .ref a2, .ref a3, .ref a4, .int (nI (dz ((fun _ => 0, fun _ => 0, fun _ => 0, fun _ => 0, 0, 0, 0)))), .int (nI (dl ((fun _ => 0, fun _ => 0, fun _ => 0, fun _ => 0, 0, 0, 0)))), .int (nI (dO ((fun _ => 0, fun _ => 0, fun _ => 0, fun _ => 0, 0, 0, 0))))])), (a1, .inl (cI, 1575, .inl (dC ((fun _ => 0, fun _ => 0, fun _ => 0, fun _ => 0, 0, 0, 0))))), (a2, .inl (cI, 1575, .inl (dF ((fun _ => 0, fun _ => 0, fun _ => 0, fun _ => 0, 0, 0, 0))))), (a3, .inl (cI, 1575, .inl (dT ((fun _ => 0, fun _ => 0, fun _ => 0, fun _ => 0, 0, 0, 0))))), (a4, .inl (cI, 3060, .inl (dK ((fun _ => 0, fun _ => 0, fun _ => 0, fun _ => 0, 0, 0, 0)))))] := hD
  have hK : va_K D cls_ [(cI, .int)] st := hK
  refine lv_astore_n (lv' := [(1, .ref q), (0, .ref bs)]) hx hb d_W_law_7 rfl hl (by decide) rfl (fun ls hl => ?_)
  refine va_new (ci := 4) (fs := [.int 0, .int 0, .int 0, .int 0, .int 0, .int 0, .int 0, .int 0, .int 0, .int 0, .null, .int 0]) (C := R_M) (T := T_M) (N := 12) hx hb hts u_M t_M t_M_ok hown (hts _ il_W_37) (hts _ ii_M) (hts _ in_M) hK hP hD hS hA rfl (by decide +kernel) (Nat.le_of_ble_eq_true rfl) (Nat.le_of_ble_eq_true rfl) d_W_law_8 (fun m0 H hP hD hS => ?_)
  have hP : va_P D cls_ ([(q, .inr (3, [.ref h, .ref b, .ref g, .ref qa, .int (nI 0), .int (nI 0), .int (nI 0), .int 0, .int (nI 0), .int 0, .int 0])), (qa, .inl (cI, 10, .inl (fun _ => 0))), (g, .inr (0, [.int 0])), (b, .inr (2, [.ref b1, .ref b2, .int (nI (sn ((fun _ => 0, fun _ => 0, 0, 0)))), .int (sh ((fun _ => 0, fun _ => 0, 0, 0)))])), (b1, .inl (cI, 10, .inl (sT ((fun _ => 0, fun _ => 0, 0, 0))))), (b2, .inl (cI, 10, .inl (sR ((fun _ => 0, fun _ => 0, 0, 0))))), (h, .inr (1, [.ref a1, .ref a2, .ref a3, .ref a4, .int (nI (dz ((fun _ => 0, fun _ => 0, fun _ => 0, fun _ => 0, 0, 0, 0)))), .int (nI (dl ((fun _ => 0, fun _ => 0, fun _ => 0, fun _ => 0, 0, 0, 0)))), .int (nI (dO ((fun _ => 0, fun _ => 0, fun _ => 0, fun _ => 0, 0, 0, 0))))])), (a1, .inl (cI, 1575, .inl (dC ((fun _ => 0, fun _ => 0, fun _ => 0, fun _ => 0, 0, 0, 0))))), (a2, .inl (cI, 1575, .inl (dF ((fun _ => 0, fun _ => 0, fun _ => 0, fun _ => 0, 0, 0, 0))))), (a3, .inl (cI, 1575, .inl (dT ((fun _ => 0, fun _ => 0, fun _ => 0, fun _ => 0, 0, 0, 0))))), (a4, .inl (cI, 3060, .inl (dK ((fun _ => 0, fun _ => 0, fun _ => 0, fun _ => 0, 0, 0, 0)))))] ++ [(m0, .inr (4, [.int 0, .int 0, .int 0, .int 0, .int 0, .int 0, .int 0, .int 0, .int 0, .int 0, .null, .int 0]))]) H := hP
  have hD : va_D A ([(q, .inr (3, [.ref h, .ref b, .ref g, .ref qa, .int (nI 0), .int (nI 0), .int (nI 0), .int 0, .int (nI 0), .int 0, .int 0])), (qa, .inl (cI, 10, .inl (fun _ => 0))), (g, .inr (0, [.int 0])), (b, .inr (2, [.ref b1, .ref b2, .int (nI (sn ((fun _ => 0, fun _ => 0, 0, 0)))), .int (sh ((fun _ => 0, fun _ => 0, 0, 0)))])), (b1, .inl (cI, 10, .inl (sT ((fun _ => 0, fun _ => 0, 0, 0))))), (b2, .inl (cI, 10, .inl (sR ((fun _ => 0, fun _ => 0, 0, 0))))), (h, .inr (1, [.ref a1, .ref a2, .ref a3, .ref a4, .int (nI (dz ((fun _ => 0, fun _ => 0, fun _ => 0, fun _ => 0, 0, 0, 0)))), .int (nI (dl ((fun _ => 0, fun _ => 0, fun _ => 0, fun _ => 0, 0, 0, 0)))), .int (nI (dO ((fun _ => 0, fun _ => 0, fun _ => 0, fun _ => 0, 0, 0, 0))))])), (a1, .inl (cI, 1575, .inl (dC ((fun _ => 0, fun _ => 0, fun _ => 0, fun _ => 0, 0, 0, 0))))), (a2, .inl (cI, 1575, .inl (dF ((fun _ => 0, fun _ => 0, fun _ => 0, fun _ => 0, 0, 0, 0))))), (a3, .inl (cI, 1575, .inl (dT ((fun _ => 0, fun _ => 0, fun _ => 0, fun _ => 0, 0, 0, 0))))), (a4, .inl (cI, 3060, .inl (dK ((fun _ => 0, fun _ => 0, fun _ => 0, fun _ => 0, 0, 0, 0)))))] ++ [(m0, .inr (4, [.int 0, .int 0, .int 0, .int 0, .int 0, .int 0, .int 0, .int 0, .int 0, .int 0, .null, .int 0]))]) := hD
  refine lv_dup hx hb d_W_law_11 rfl ?_
  have hPc := hP.sub (ws' := [(m0, .inr (4, [.int 0, .int 0, .int 0, .int 0, .int 0, .int 0, .int 0, .int 0, .int 0, .int 0, .null, .int 0]))]) [11] rfl
  have hDc := hD.sub (ws' := [(m0, .inr (4, [.int 0, .int 0, .int 0, .int 0, .int 0, .int 0, .int 0, .int 0, .int 0, .int 0, .null, .int 0]))]) [11] (by decide) rfl
  have hKc := hK.sub (tys' := []) [] rfl
  have hFc := va_free (wc := [(m0, .inr (4, [.int 0, .int 0, .int 0, .int 0, .int 0, .int 0, .int 0, .int 0, .int 0, .int 0, .null, .int 0]))]) hD hS hA [11] rfl
  refine va_callv (va_runI (As := []) (rest := [.ref m0]) ⟨hx, hb, hml, hown, hts⟩ (k_M_init l D m0 H.size) (cwI 0 hts (z_wz h_M_init) rfl rfl rfl (hts _ in_M) (hts _ l_W_39) (hts _ im_M) rfl (by decide +kernel) ⟨Nat.le_of_ble_eq_true rfl, Nat.le_of_ble_eq_true rfl⟩) ⟨fun a U g mk q => by obtain ⟨q0, q1, qP, qK, qD⟩ := q; exact ⟨q0, q1, qP, va_K.moved (u := U) (U := U.calling g mk a) (Vm.Alike.refl U.vm) qK, qD⟩, fun U hU hW => ⟨rfl, by rw [hU], by rw [hU]; exact hPc, va_K.moved hW.alike hKc, hDc.weaken (fun _ _ _ _ => trivial)⟩⟩ rfl rfl hl.1 rfl (lv_room (Nat.le_of_ble_eq_true rfl)) d_W_law_12 ⟨Nat.le_of_ble_eq_true rfl, Nat.le_of_ble_eq_true rfl⟩) hS (fun q _ h => hFc q h) hFc (fun u t H1 locs ht hvm hw hB hz1 hk1 hS => ?_)
  obtain ⟨hP1, hK1, hD1⟩ := hB
  rw [ht] at hP1
  have hK1 := va_K.moved hvm.symm hK1
  obtain ⟨cZ, ma⟩ := u
  obtain ⟨hP, hD⟩ := va_join (wr := [(q, .inr (3, [.ref h, .ref b, .ref g, .ref qa, .int (nI 0), .int (nI 0), .int (nI 0), .int 0, .int (nI 0), .int 0, .int 0])), (qa, .inl (cI, 10, .inl (fun _ => 0))), (g, .inr (0, [.int 0])), (b, .inr (2, [.ref b1, .ref b2, .int (nI (sn ((fun _ => 0, fun _ => 0, 0, 0)))), .int (sh ((fun _ => 0, fun _ => 0, 0, 0)))])), (b1, .inl (cI, 10, .inl (sT ((fun _ => 0, fun _ => 0, 0, 0))))), (b2, .inl (cI, 10, .inl (sR ((fun _ => 0, fun _ => 0, 0, 0))))), (h, .inr (1, [.ref a1, .ref a2, .ref a3, .ref a4, .int (nI (dz ((fun _ => 0, fun _ => 0, fun _ => 0, fun _ => 0, 0, 0, 0)))), .int (nI (dl ((fun _ => 0, fun _ => 0, fun _ => 0, fun _ => 0, 0, 0, 0)))), .int (nI (dO ((fun _ => 0, fun _ => 0, fun _ => 0, fun _ => 0, 0, 0, 0))))])), (a1, .inl (cI, 1575, .inl (dC ((fun _ => 0, fun _ => 0, fun _ => 0, fun _ => 0, 0, 0, 0))))), (a2, .inl (cI, 1575, .inl (dF ((fun _ => 0, fun _ => 0, fun _ => 0, fun _ => 0, 0, 0, 0))))), (a3, .inl (cI, 1575, .inl (dT ((fun _ => 0, fun _ => 0, fun _ => 0, fun _ => 0, 0, 0, 0))))), (a4, .inl (cI, 3060, .inl (dK ((fun _ => 0, fun _ => 0, fun _ => 0, fun _ => 0, 0, 0, 0)))))]) (w1 := (wM cZ m0 ma 0 0 0 0 0 (-1) 0 0 0 0 (fun _ => 0) 0)) hP hD [11] [0, 1, 2, 3, 4, 5, 6, 7, 8, 9, 10] rfl rfl (by decide) (by decide) hk1 hFc hP1 hD1
  have hK := hK.app hK1
  generalize H1 = H at hP hS ⊢
  have hP : va_P D cls_ ([(q, .inr (3, [.ref h, .ref b, .ref g, .ref qa, .int (nI 0), .int (nI 0), .int (nI 0), .int 0, .int (nI 0), .int 0, .int 0])), (qa, .inl (cI, 10, .inl (fun _ => 0))), (g, .inr (0, [.int 0])), (b, .inr (2, [.ref b1, .ref b2, .int (nI (sn ((fun _ => 0, fun _ => 0, 0, 0)))), .int (sh ((fun _ => 0, fun _ => 0, 0, 0)))])), (b1, .inl (cI, 10, .inl (sT ((fun _ => 0, fun _ => 0, 0, 0))))), (b2, .inl (cI, 10, .inl (sR ((fun _ => 0, fun _ => 0, 0, 0))))), (h, .inr (1, [.ref a1, .ref a2, .ref a3, .ref a4, .int (nI (dz ((fun _ => 0, fun _ => 0, fun _ => 0, fun _ => 0, 0, 0, 0)))), .int (nI (dl ((fun _ => 0, fun _ => 0, fun _ => 0, fun _ => 0, 0, 0, 0)))), .int (nI (dO ((fun _ => 0, fun _ => 0, fun _ => 0, fun _ => 0, 0, 0, 0))))])), (a1, .inl (cI, 1575, .inl (dC ((fun _ => 0, fun _ => 0, fun _ => 0, fun _ => 0, 0, 0, 0))))), (a2, .inl (cI, 1575, .inl (dF ((fun _ => 0, fun _ => 0, fun _ => 0, fun _ => 0, 0, 0, 0))))), (a3, .inl (cI, 1575, .inl (dT ((fun _ => 0, fun _ => 0, fun _ => 0, fun _ => 0, 0, 0, 0))))), (a4, .inl (cI, 3060, .inl (dK ((fun _ => 0, fun _ => 0, fun _ => 0, fun _ => 0, 0, 0, 0)))))] ++ [(m0, .inr (4, [.int 0, .int (nI 0), .int (nI 0), .int (nI 0), .int (nI 0), .int ((-1)), .int 0, .int 0, .int 0, .int 0, .ref ma, .int (nI 0)])), (ma, .inl (cZ, 1024, .inl (fun _ => 0)))]) H := hP
  have hD : va_D A ([(q, .inr (3, [.ref h, .ref b, .ref g, .ref qa, .int (nI 0), .int (nI 0), .int (nI 0), .int 0, .int (nI 0), .int 0, .int 0])), (qa, .inl (cI, 10, .inl (fun _ => 0))), (g, .inr (0, [.int 0])), (b, .inr (2, [.ref b1, .ref b2, .int (nI (sn ((fun _ => 0, fun _ => 0, 0, 0)))), .int (sh ((fun _ => 0, fun _ => 0, 0, 0)))])), (b1, .inl (cI, 10, .inl (sT ((fun _ => 0, fun _ => 0, 0, 0))))), (b2, .inl (cI, 10, .inl (sR ((fun _ => 0, fun _ => 0, 0, 0))))), (h, .inr (1, [.ref a1, .ref a2, .ref a3, .ref a4, .int (nI (dz ((fun _ => 0, fun _ => 0, fun _ => 0, fun _ => 0, 0, 0, 0)))), .int (nI (dl ((fun _ => 0, fun _ => 0, fun _ => 0, fun _ => 0, 0, 0, 0)))), .int (nI (dO ((fun _ => 0, fun _ => 0, fun _ => 0, fun _ => 0, 0, 0, 0))))])), (a1, .inl (cI, 1575, .inl (dC ((fun _ => 0, fun _ => 0, fun _ => 0, fun _ => 0, 0, 0, 0))))), (a2, .inl (cI, 1575, .inl (dF ((fun _ => 0, fun _ => 0, fun _ => 0, fun _ => 0, 0, 0, 0))))), (a3, .inl (cI, 1575, .inl (dT ((fun _ => 0, fun _ => 0, fun _ => 0, fun _ => 0, 0, 0, 0))))), (a4, .inl (cI, 3060, .inl (dK ((fun _ => 0, fun _ => 0, fun _ => 0, fun _ => 0, 0, 0, 0)))))] ++ [(m0, .inr (4, [.int 0, .int (nI 0), .int (nI 0), .int (nI 0), .int (nI 0), .int ((-1)), .int 0, .int 0, .int 0, .int 0, .ref ma, .int (nI 0)])), (ma, .inl (cZ, 1024, .inl (fun _ => 0)))]) := hD
  have hK : va_K D cls_ [(cI, .int), (cZ, .boolean)] st := hK
  refine lv_astore_n (lv' := [(2, .ref m0), (1, .ref q), (0, .ref bs)]) hx hb d_W_law_15 rfl hl (by decide) rfl (fun ls hl => ?_)
  refine lv_iconst (v := 1) hx hb d_W_law_16 (by decide) ?_
  refine va_newa (atype := .long) (N' := 1) (a0 := (1, .inr (.inl (fun _ => 0)))) (ty := .long) hx hb (hts _ ia_long) rfl hK hP hD hS hA (fun _ => rfl) (by decide +kernel) (by decide +kernel) (by decide) (Nat.le_of_ble_eq_true rfl) (Nat.le_of_ble_eq_true rfl) d_W_law_17 (fun o1 cJ H hK hP hD hS => ?_)
  refine lv_astore_n (lv' := [(3, .ref o1), (2, .ref m0), (1, .ref q), (0, .ref bs)]) hx hb d_W_law_19 rfl hl (by decide) rfl (fun ls hl => ?_)
  refine lv_iconst (v := 0) hx hb d_W_law_20 (by decide) ?_
  refine lv_istore (lv' := [(4, .int 0), (3, .ref o1), (2, .ref m0), (1, .ref q), (0, .ref bs)]) hx hb d_W_law_21 hl (by decide) rfl (fun ls hl => ?_)
  have hK := hK.sub (tys' := [(cI, .int), (cJ, .long), (cZ, .boolean)]) [0, 2, 1] rfl
  have hP := hP.sub (ws' := [(q, .inr (3, [.ref h, .ref b, .ref g, .ref qa, .int (nI 0), .int (nI 0), .int (nI 0), .int 0, .int (nI 0), .int 0, .int 0])), (qa, .inl (cI, 10, .inl (fun _ => 0))), (g, .inr (0, [.int 0])), (b, .inr (2, [.ref b1, .ref b2, .int (nI (sn ((fun _ => 0, fun _ => 0, 0, 0)))), .int (sh ((fun _ => 0, fun _ => 0, 0, 0)))])), (b1, .inl (cI, 10, .inl (sT ((fun _ => 0, fun _ => 0, 0, 0))))), (b2, .inl (cI, 10, .inl (sR ((fun _ => 0, fun _ => 0, 0, 0))))), (h, .inr (1, [.ref a1, .ref a2, .ref a3, .ref a4, .int (nI (dz ((fun _ => 0, fun _ => 0, fun _ => 0, fun _ => 0, 0, 0, 0)))), .int (nI (dl ((fun _ => 0, fun _ => 0, fun _ => 0, fun _ => 0, 0, 0, 0)))), .int (nI (dO ((fun _ => 0, fun _ => 0, fun _ => 0, fun _ => 0, 0, 0, 0))))])), (a1, .inl (cI, 1575, .inl (dC ((fun _ => 0, fun _ => 0, fun _ => 0, fun _ => 0, 0, 0, 0))))), (a2, .inl (cI, 1575, .inl (dF ((fun _ => 0, fun _ => 0, fun _ => 0, fun _ => 0, 0, 0, 0))))), (a3, .inl (cI, 1575, .inl (dT ((fun _ => 0, fun _ => 0, fun _ => 0, fun _ => 0, 0, 0, 0))))), (a4, .inl (cI, 3060, .inl (dK ((fun _ => 0, fun _ => 0, fun _ => 0, fun _ => 0, 0, 0, 0))))), (o1, .inl (cJ, 1, .inr (.inl (fun _ => 0)))), (m0, .inr (4, [.int 0, .int (nI 0), .int (nI 0), .int (nI 0), .int (nI 0), .int ((-1)), .int 0, .int 0, .int 0, .int 0, .ref ma, .int (nI 0)])), (ma, .inl (cZ, 1024, .inl (fun _ => 0)))]) [0, 1, 2, 3, 4, 5, 6, 7, 8, 9, 10, 13, 11, 12] rfl
  have hD := hD.sub (ws' := [(q, .inr (3, [.ref h, .ref b, .ref g, .ref qa, .int (nI 0), .int (nI 0), .int (nI 0), .int 0, .int (nI 0), .int 0, .int 0])), (qa, .inl (cI, 10, .inl (fun _ => 0))), (g, .inr (0, [.int 0])), (b, .inr (2, [.ref b1, .ref b2, .int (nI (sn ((fun _ => 0, fun _ => 0, 0, 0)))), .int (sh ((fun _ => 0, fun _ => 0, 0, 0)))])), (b1, .inl (cI, 10, .inl (sT ((fun _ => 0, fun _ => 0, 0, 0))))), (b2, .inl (cI, 10, .inl (sR ((fun _ => 0, fun _ => 0, 0, 0))))), (h, .inr (1, [.ref a1, .ref a2, .ref a3, .ref a4, .int (nI (dz ((fun _ => 0, fun _ => 0, fun _ => 0, fun _ => 0, 0, 0, 0)))), .int (nI (dl ((fun _ => 0, fun _ => 0, fun _ => 0, fun _ => 0, 0, 0, 0)))), .int (nI (dO ((fun _ => 0, fun _ => 0, fun _ => 0, fun _ => 0, 0, 0, 0))))])), (a1, .inl (cI, 1575, .inl (dC ((fun _ => 0, fun _ => 0, fun _ => 0, fun _ => 0, 0, 0, 0))))), (a2, .inl (cI, 1575, .inl (dF ((fun _ => 0, fun _ => 0, fun _ => 0, fun _ => 0, 0, 0, 0))))), (a3, .inl (cI, 1575, .inl (dT ((fun _ => 0, fun _ => 0, fun _ => 0, fun _ => 0, 0, 0, 0))))), (a4, .inl (cI, 3060, .inl (dK ((fun _ => 0, fun _ => 0, fun _ => 0, fun _ => 0, 0, 0, 0))))), (o1, .inl (cJ, 1, .inr (.inl (fun _ => 0)))), (m0, .inr (4, [.int 0, .int (nI 0), .int (nI 0), .int (nI 0), .int (nI 0), .int ((-1)), .int 0, .int 0, .int 0, .int 0, .ref ma, .int (nI 0)])), (ma, .inl (cZ, 1024, .inl (fun _ => 0)))]) [0, 1, 2, 3, 4, 5, 6, 7, 8, 9, 10, 13, 11, 12] (by decide) rfl
  have hX9 : LwX p l st m c bs L xs D A cI cJ cZ := ⟨hx, hb, hml, hts, hown, hK, hX, hbl, hAn bs hbl, hA, hTX, hSX, hNX, hfl, hL⟩
  exact law_loop hX9 hr hlocks hAq 512 0 (by omega) (by omega) _ _ _ _ _ _ _ _ _ _ _ _ _ _ _ _ _ _ _ _ _ _ _ RL_0 hP hD hS (lv_sub hl [4, 3, 2, 1, 0] rfl)
set_option maxHeartbeats 4000000 in
theorem lw_walk (l : Launch) (hfl : l.flags = flags0) (b : Addr) (xs : List Int32) : MetFree l x (headSpec (Jvm.Cond.code x code maxLocals ret :: tables_1) room_1) (lw_P b xs) (fun _ _ _ _ _ => True) lw_Q := by
  refine MetFree.of_bodyS (code := code) (maxLocals := maxLocals) (ret := ret) (by decide) ?_ ?_
  · intro args s m h hn
    obtain ⟨meth, c, h1, h2, h3, h4, h5, h6, -, -⟩ := Cond.code_spec hn (atoms_spec (ws := Jvm.Cond.code x code maxLocals ret :: tables_1) h _ List.mem_cons_self)
    exact ⟨meth, c, h1, h2, h3, h4, h5, h6⟩
  · intro p e s m args below meth c s₁ B hml0 hP _
    obtain ⟨rfl, hx, hbd, hgv⟩ := hP
    obtain ⟨scr, harrAt, hlist, hof, hsmall⟩ := hx
    obtain ⟨hcb, hkn, -, -⟩ := State.arrayAt?_spec harrAt
    have hown : s.vm.findClass R_law = some m.cls := findClass_of_methodNamed B.named
    have hts0 : ∀ c ∈ (Jvm.Cond.code x code maxLocals ret :: tables_1), c.before #[Value.ref b] s = true := atoms_spec (ws := Jvm.Cond.code x code maxLocals ret :: tables_1) B.pre
    have hts : ∀ w ∈ lw_tbl, w.before #[Value.ref b] s = true := k2_hts_sels lw_privs (fun w hw => hts0 w (List.mem_cons_of_mem _ hw)) lw_privs_ok
    have hml : c.maxLocals = 7 := B.maxLocals_eq (hts0 _ List.mem_cons_self)
    have X₀ : Stand p l e room_1 s m #[Value.ref b] below meth c s₁ [] 0 0 := Stand.of_body B
    have hh0 : s₁.heap = s.heap := by rw [B.state]; rfl
    have hsz : scr.slots.size = xs.length := by rw [← Array.length_toList, hlist, List.length_map]
    have hval : ∀ j : Nat, j < xs.length → scr.slots[j]? = some (.int (xs.getD j 0)) := fun j hj => by
      rw [← Array.getElem?_toList, hlist]
      simp [hj]
    have hbl : b < s.heap.size := (Array.getElem?_eq_some_iff.mp hcb).1
    have hX : va_X b xs.length (fun j => xs.getD j 0) s s.heap := ⟨scr, hcb, hof, hkn, hsz, hval⟩
    have K : W p l e room_1 s m #[Value.ref b] below meth c s₁.heap [] 0 0 (lw_Z below #[Value.ref b] s) (entryFrame m ([Value.ref b] : List Value).toArray 7) := by
      rw [hh0]
      exact whole_start l hfl hbd ⟨B.exec, B.bytes, B.returns, hml, hown, hts, hX, hbl, B.notSynchronized, hgv⟩
    obtain ⟨t, a1, o, b1, b2, b3⟩ := K s₁ rfl X₀
    exact ⟨t, o, a1, b1, b2, b3⟩
theorem lw_pre_spec {args : Array Value} {s : State} (h : (Jvm.Cond.and given_1 narrow_1).before args s = true) (hr : rest_1_c.before args s = true) : ∃ (b : Addr) (xs : List Int32), lw_P b xs args s := by
  have hs := flat_of_before _ h
  have hq := flat_of_before _ hr
  have hc : (Cond.count 1).before args s = true := hs _ (by decide +kernel)
  have harr : (Cond.arrayOf (.arg 0) .int).before args s = true := hs _ (by decide +kernel)
  have hle : (Cond.le (.length (.arg 0)) (.int 1024)).before args s = true := hs _ (by decide +kernel)
  have hlen : (Cond.isInt (.length (.arg 0))).before args s = true := hq _ (by decide +kernel)
  have hall : (Cond.all (.arg 0) (.isInt (.elem (.arg 0) (.index 0)))).before args s = true := hq _ (by decide +kernel)
  obtain ⟨b, xs, hb, hx⟩ := State.ints_of_pre rfl harr hlen hall
  have hsm : xs.length < 2 ^ 31 := hx.choose_spec.2.2.2
  have hev : (Term.length (.arg 0)).eval args s none [] s = some (.int xs.length.toInt32) := hx.length_eval hb
  have hv := Cond.le_ints hev (show (Term.int 1024).eval args s none [] s = some (.int 1024) from rfl)
  have hd : xs.length.toInt32 ≤ 1024 := by
    simpa [Cond.before, Cond.holds, hv] using hle
  have hN : xs.length ≤ 1024 := (Int32.ofNat_le_ofNat hsm (by decide)).mp (show Int32.ofNat xs.length ≤ Int32.ofNat 1024 from hd)
  exact ⟨b, xs, Cond.one_arg hc (show args[0]? = some (.ref b) from hb), hx, hN, h⟩
theorem lw_comes (l : Launch) (hfl : l.flags = flags0) : Comes l x (Jvm.Cond.code x code maxLocals ret :: tables_1) room_1 (fun tb e args s => Calls_1 tb e args s ∧ rest_1 tb e args s ∧ Pre_1 tb e args s)
    (fun _ _ args s o t => lw_Q args s o t) := by
  intro p e ha hc hk s m args below hf hfit hheap happ hpre
  obtain ⟨b, xs, hP⟩ := lw_pre_spec hpre.2.2 hpre.2.1
  obtain ⟨k, o, h1, h2, h3, hQ⟩ := lw_walk l hfl b xs p e ha hc hk s m args below hf ((Spec.applies_iff_loose hf).mp happ).1 hP trivial
  exact ⟨k, o, h1, h2, h3, hQ⟩
theorem lw_frame {s t : State} {o : Outcome} {args : Array Value} (h : Framed s o t [] 1045 17109) :
    Framed s o t (fieldLocs frame_1_writes args s ++ arrayLocs frame_1_arrays args s ++ staticLocs frame_1_statics s) 1045 17109 := h
theorem lw_limb (L : Cond) (hL : ∀ (args : Array Value) (s t : State), L.after args s (.returned (some (.int 1))) t = true) :
    ArmFor flags0 classFile x code maxLocals ret World_1 tables_1 room_1 Calls_1 rest_1 Pre_1
      (fun tb e a s o t => postC L tb e a s o t ∧ Framed s o t (fieldLocs frame_1_writes a s ++ arrayLocs frame_1_arrays a s ++ staticLocs frame_1_statics s) 1045 17109) := by
  intro l hfl _ _ p e ha hc hk s m args below hf hfit hheap happ hpre
  obtain ⟨k, o, h1, h2, h3, rfl, hF⟩ := lw_comes l hfl p e ha hc hk s m args below hf hfit hheap happ hpre
  exact ⟨k, _, h1, h2, h3, hL args s _, lw_frame hF⟩
theorem i_vc : Claimed_1_1 ∧ Claimed_1_2 := ⟨lw_limb limb_1_1 (fun args s t => by simp [limb_1_1, Cond.after, Cond.holds, Cond.value]), lw_limb limb_1_2 (fun args s t => Cond.after_iff.mpr (by
  first | (rw [show limb_1_2 = Cond.eq .result (.int 1) from rfl, Cond.eq_ints (x := 1) (y := 1) rfl rfl]; simp; done) | (simp [limb_1_2, Cond.value, Term.eval]; done)))⟩
