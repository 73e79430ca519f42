/-! Part 40: ClauseCourt, the ways that throw, by program (wip/whole/gen_throw.py) -/
theorem xl_S : Cond.classLink R_C 38 "java/lang/IllegalStateException" ∈ lw_G := z_in 314 (by decide +kernel)
theorem xl_A : Cond.classLink R_C 100 "java/lang/IllegalArgumentException" ∈ lw_G := z_in 394 (by decide +kernel)
theorem xl_N : Cond.classLink R_C 105 "java/util/NoSuchElementException" ∈ lw_G := z_in 446 (by decide +kernel)
theorem xi_S : Cond.instantiable "java/lang/IllegalStateException" 6 ∈ lw_G := z_in 315 (by decide +kernel)
theorem xi_A : Cond.instantiable "java/lang/IllegalArgumentException" 6 ∈ lw_G := z_in 395 (by decide +kernel)
theorem xi_N : Cond.instantiable "java/util/NoSuchElementException" 6 ∈ lw_G := z_in 447 (by decide +kernel)
theorem xn_S : Cond.initialized "java/lang/IllegalStateException" ∈ lw_G := z_in 33 (by decide +kernel)
theorem xn_A : Cond.initialized "java/lang/IllegalArgumentException" ∈ lw_G := z_in 34 (by decide +kernel)
theorem xn_N : Cond.initialized "java/util/NoSuchElementException" ∈ lw_G := z_in 37 (by decide +kernel)
set_option maxHeartbeats 4000000 in
set_option maxRecDepth 100000 in
theorem x_C_needLiteral (l : Launch) (hfl : l.flags = flags0) (D : va_G) (cI : ClassId) (q qa g b b1 b2 h a1 a2 a3 a4 : Nat) (am : Nat → Int32) (an vn kn : Nat) (tm : Int32) (tn : Nat) (hm mo f0 : Int32) (s : SS) (d : DS) (x : Int32) (hx9 : ¬ LOK vn x) : XK l y_C_needLiteral c_C_needLiteral 2 none { frames := 8, cells := 1, slots := 6, locals := 120 } D [(cI, .int)] [.ref q, .int x] (wC cI q qa g b b1 b2 h a1 a2 a3 a4 am an vn kn tm tn hm mo f0 s d) "java/lang/IllegalArgumentException" := by
  refine XK_of (own := R_C) (by decide +kernel) rfl (Nat.le_of_ble_eq_true rfl) ?_
  intro p e st m below meth c A ls hx hb hml hts hown hK hP hD hS hA hl hlocks hnoh hTX hSX
  refine lv_iload_n hx hb d_C_needLiteral_0 rfl (lv_at hl 1 rfl) ?_
  refine lv_if_eq (tgt := 21) hx hb d_C_needLiteral_1 rfl (fun hc1 => ?_) (fun hc1 => ?_)
  · obtain ⟨q9, hq9⟩ := hSX.1 (113, "no such literal") (by decide)
    exact W_throw (A := A) (sq := q9) hx hb hlocks hnoh hfl (hml.trans hl.1.symm) hown hts hTX hSX hq9 xl_A xi_A xn_A xw_A (by decide +kernel) Bundle.six_0 Bundle.six_1 Bundle.six_2 Bundle.six_5 d_C_needLiteral_21 d_C_needLiteral_24 d_C_needLiteral_25 d_C_needLiteral_27 d_C_needLiteral_30 (Nat.le_of_ble_eq_true rfl) (Nat.le_of_ble_eq_true rfl) (Nat.le_of_ble_eq_true rfl) (Nat.le_of_ble_eq_true rfl)
  · refine lv_iload_n hx hb d_C_needLiteral_4 rfl (lv_at hl 1 rfl) ?_
    refine lv_aload_n hx hb d_C_needLiteral_5 rfl (lv_at hl 0 rfl) ?_
    refine va_get (D := D) (ci := 3) (v := .int (nI vn)) (C := R_C) (T := T_C) (N := 11) hx hb hts u_C hown hK hP 0 rfl rfl 5 (by decide) (hts _ f_C_34) (fun _ h9 => h9) rfl d_C_needLiteral_6 ?_
    refine lv_icmp_gt (tgt := 21) hx hb d_C_needLiteral_9 rfl (fun hc9 => ?_) (fun hc9 => ?_)
    · obtain ⟨q9, hq9⟩ := hSX.1 (113, "no such literal") (by decide)
      exact W_throw (A := A) (sq := q9) hx hb hlocks hnoh hfl (hml.trans hl.1.symm) hown hts hTX hSX hq9 xl_A xi_A xn_A xw_A (by decide +kernel) Bundle.six_0 Bundle.six_1 Bundle.six_2 Bundle.six_5 d_C_needLiteral_21 d_C_needLiteral_24 d_C_needLiteral_25 d_C_needLiteral_27 d_C_needLiteral_30 (Nat.le_of_ble_eq_true rfl) (Nat.le_of_ble_eq_true rfl) (Nat.le_of_ble_eq_true rfl) (Nat.le_of_ble_eq_true rfl)
    · refine lv_iload_n hx hb d_C_needLiteral_12 rfl (lv_at hl 1 rfl) ?_
      refine lv_aload_n hx hb d_C_needLiteral_13 rfl (lv_at hl 0 rfl) ?_
      refine va_get (D := D) (ci := 3) (v := .int (nI vn)) (C := R_C) (T := T_C) (N := 11) hx hb hts u_C hown hK hP 0 rfl rfl 5 (by decide) (hts _ f_C_34) (fun _ h9 => h9) rfl d_C_needLiteral_14 ?_
      refine lv_ineg hx hb d_C_needLiteral_17 ?_
      refine lv_icmp_ge (tgt := 31) hx hb d_C_needLiteral_18 rfl (fun hc18 => absurd ⟨hc1, hc18, Int32.not_lt.mp hc9⟩ hx9) (fun hc18 => ?_)
      obtain ⟨q9, hq9⟩ := hSX.1 (113, "no such literal") (by decide)
      exact W_throw (A := A) (sq := q9) hx hb hlocks hnoh hfl (hml.trans hl.1.symm) hown hts hTX hSX hq9 xl_A xi_A xn_A xw_A (by decide +kernel) Bundle.six_0 Bundle.six_1 Bundle.six_2 Bundle.six_5 d_C_needLiteral_21 d_C_needLiteral_24 d_C_needLiteral_25 d_C_needLiteral_27 d_C_needLiteral_30 (Nat.le_of_ble_eq_true rfl) (Nat.le_of_ble_eq_true rfl) (Nat.le_of_ble_eq_true rfl) (Nat.le_of_ble_eq_true rfl)
set_option maxHeartbeats 4000000 in
set_option maxRecDepth 100000 in
theorem kp_C_needLiteral (l : Launch) (D : va_G) (cI : ClassId) (q qa g b b1 b2 h a1 a2 a3 a4 : Nat) (am : Nat → Int32) (an vn kn : Nat) (tm : Int32) (tn : Nat) (hm mo f0 : Int32) (s : SS) (d : DS) (x : Int32) (hx9 : LOK vn x) : Met l y_C_needLiteral (wz y_C_needLiteral c_C_needLiteral 2 none) { frames := 8, cells := 0, slots := 0, locals := 120 } (va_Pc [.ref q, .int x] (fun U => va_P D cls_ (wC cI q qa g b b1 b2 h a1 a2 a3 a4 am an vn kn tm tn hm mo f0 s d) U.heap ∧ va_K D cls_ [(cI, .int)] U)) (va_Sv (fun _ => True)) 0 0 (fun _ => False) := by
  refine Met.ofW (cc := c_C_needLiteral) (maxL := 2) (ret := none) (by decide +kernel) rfl ?_
  intro p e st m args below meth c s₁ B hml hv
  obtain ⟨rfl, hP, hK⟩ := hv
  have hx := B.exec
  have hb := B.bytes
  have hr := B.returns
  have hts0 := atoms_spec (ws := wz y_C_needLiteral c_C_needLiteral 2 none) B.pre
  have hts : ∀ x ∈ lw_G, x.before _ st = true := fun x h => hts0 x (List.mem_cons_of_mem _ h)
  have hown : st.vm.findClass R_C = some m.cls := findClass_of_methodNamed B.named
  have hlocks := B.notSynchronized
  have hl := lv_entry [.ref q, .int x] (n := 2) (Nat.le_of_ble_eq_true rfl)
  rw [lg_entry_eq]
  generalize (lg_sl ([.ref q, .int x]) ++ List.replicate (2 - (lg_sl ([.ref q, .int x])).length) Slot.unset).toArray = ls at hl ⊢
  refine lv_iload_n hx hb d_C_needLiteral_0 rfl (lv_at hl 1 rfl) ?_
  refine lv_if_eq (tgt := 21) hx hb d_C_needLiteral_1 rfl (fun hc1 => absurd hc1 hx9.1) (fun hc1 => ?_)
  refine lv_iload_n hx hb d_C_needLiteral_4 rfl (lv_at hl 1 rfl) ?_
  refine lv_aload_n hx hb d_C_needLiteral_5 rfl (lv_at hl 0 rfl) ?_
  refine va_get (D := D) (ci := 3) (v := .int (nI vn)) (C := R_C) (T := T_C) (N := 11) hx hb hts u_C hown hK hP 0 rfl rfl 5 (by decide) (hts _ f_C_34) (fun _ h9 => h9) rfl d_C_needLiteral_6 ?_
  refine lv_icmp_gt (tgt := 21) hx hb d_C_needLiteral_9 rfl (fun hc9 => absurd hx9.2.2 (Int32.not_le.mpr hc9)) (fun hc9 => ?_)
  refine lv_iload_n hx hb d_C_needLiteral_12 rfl (lv_at hl 1 rfl) ?_
  refine lv_aload_n hx hb d_C_needLiteral_13 rfl (lv_at hl 0 rfl) ?_
  refine va_get (D := D) (ci := 3) (v := .int (nI vn)) (C := R_C) (T := T_C) (N := 11) hx hb hts u_C hown hK hP 0 rfl rfl 5 (by decide) (hts _ f_C_34) (fun _ h9 => h9) rfl d_C_needLiteral_14 ?_
  refine lv_ineg hx hb d_C_needLiteral_17 ?_
  refine lv_icmp_ge (tgt := 31) hx hb d_C_needLiteral_18 rfl (fun hc18 => ?_) (fun hc18 => absurd hx9.2.1 hc18)
  exact W.vret hx hb hr (fun t ht hW => ⟨rfl, trivial, ht⟩) (fun _ hq => by cases hq) d_C_needLiteral_31
set_option maxHeartbeats 4000000 in
set_option maxRecDepth 100000 in
theorem x_C_literal_b (l : Launch) (hfl : l.flags = flags0) (D : va_G) (cI : ClassId) (q qa g b b1 b2 h a1 a2 a3 a4 : Nat) (am : Nat → Int32) (an vn kn : Nat) (tm : Int32) (tn : Nat) (hm mo f0 : Int32) (s : SS) (d : DS) (x : Int32) (hx9 : ¬ LOK vn x) : XK l y_C_literal c_C_literal 2 none { frames := 9, cells := 1, slots := 6, locals := 141 } D [(cI, .int)] [.ref q, .int x] (wC cI q qa g b b1 b2 h a1 a2 a3 a4 am an vn kn tm tn hm mo f0 s d) "java/lang/IllegalArgumentException" := by
  refine XK_of (own := R_C) (by decide +kernel) rfl (Nat.le_of_ble_eq_true rfl) ?_
  intro p e st m below meth c A ls hx hb hml hts hown hK hP hD hS hA hl hlocks hnoh hTX hSX
  refine lv_aload_n hx hb d_C_literal_0 rfl (lv_at hl 0 rfl) ?_
  refine lv_iload_n hx hb d_C_literal_1 rfl (lv_at hl 1 rfl) ?_
  exact W_pass (X := "java/lang/IllegalArgumentException") (n := 1) (C := R_C) (b := q) (As := [.int x]) (rest := []) ⟨hx, hb, hml, hown, hts⟩ hlocks hnoh (x_C_needLiteral l hfl D cI q qa g b b1 b2 h a1 a2 a3 a4 am an vn kn tm tn hm mo f0 s d x hx9 st.heap.size) (cwV 1 hts v_C_45 rfl rfl rfl (by decide +kernel) ⟨Nat.le_of_ble_eq_true rfl, Nat.le_of_ble_eq_true rfl⟩) (XK_pre hK hP hD hA hTX hSX (va_recv (ci := 3) hK hP rfl (q0 := 0) rfl)) rfl hl.1 (Nat.le_of_ble_eq_true rfl) d_C_literal_2 ⟨Nat.le_of_ble_eq_true rfl, Nat.le_of_ble_eq_true rfl⟩
set_option maxHeartbeats 4000000 in
set_option maxRecDepth 100000 in
theorem x_C_literal_r (l : Launch) (hfl : l.flags = flags0) (D : va_G) (cI : ClassId) (q qa g b b1 b2 h a1 a2 a3 a4 : Nat) (am : Nat → Int32) (an vn kn : Nat) (tm : Int32) (tn : Nat) (hm mo f0 : Int32) (s : SS) (d : DS) (x : Int32) (hx9 : LOK vn x) (ht : tn = 12) : XK l y_C_literal c_C_literal 2 none { frames := 9, cells := 1, slots := 6, locals := 141 } D [(cI, .int)] [.ref q, .int x] (wC cI q qa g b b1 b2 h a1 a2 a3 a4 am an vn kn tm tn hm mo f0 s d) "java/lang/IllegalStateException" := by
  refine XK_of (own := R_C) (by decide +kernel) rfl (Nat.le_of_ble_eq_true rfl) ?_
  intro p e st m below meth c A ls hx hb hml hts hown hK hP hD hS hA hl hlocks hnoh hTX hSX
  refine lv_aload_n hx hb d_C_literal_0 rfl (lv_at hl 0 rfl) ?_
  refine lv_iload_n hx hb d_C_literal_1 rfl (lv_at hl 1 rfl) ?_
  refine va_csv (W.runV (n := 1) (C := R_C) (b := q) (As := [.int x]) (rest := []) ⟨hx, hb, hml, hown, hts⟩ (kp_C_needLiteral l D cI q qa g b b1 b2 h a1 a2 a3 a4 am an vn kn tm tn hm mo f0 s d x hx9) (cwV 1 hts v_C_45 rfl rfl rfl (by decide +kernel) ⟨Nat.le_of_ble_eq_true rfl, Nat.le_of_ble_eq_true rfl⟩) ⟨fun a U g mk q => ⟨q.1, q.2.1, va_K.moved (u := U) (U := U.calling g mk a) (Vm.Alike.refl U.vm) q.2.2⟩, va_recv (ci := 3) hK hP rfl (q0 := 0) rfl, fun U hU hW => ⟨rfl, by rw [hU]; exact hP, va_K.moved hW.alike hK⟩⟩ rfl rfl hl.1 rfl (lv_room (Nat.le_of_ble_eq_true rfl)) d_C_literal_2 ⟨Nat.le_of_ble_eq_true rfl, Nat.le_of_ble_eq_true rfl⟩) (fun _ => ?_)
  refine lv_aload_n hx hb d_C_literal_5 rfl (lv_at hl 0 rfl) ?_
  refine va_get (D := D) (ci := 3) (v := .int (nI tn)) (C := R_C) (T := T_C) (N := 11) hx hb hts u_C hown hK hP 0 rfl rfl 8 (by decide) (hts _ f_C_49) (fun _ h9 => h9) rfl d_C_literal_6 ?_
  refine lv_bipush (v := 12) hx hb d_C_literal_9 (by decide +kernel) ?_
  refine lv_icmp_lt (tgt := 24) hx hb d_C_literal_11 rfl (fun hc11 => absurd hc11 (by rw [ht]; decide +kernel)) (fun hc11 => ?_)
  obtain ⟨q9, hq9⟩ := hSX.1 (52, "too many literals") (by decide)
  exact W_throw (A := A) (sq := q9) hx hb hlocks hnoh hfl (hml.trans hl.1.symm) hown hts hTX hSX hq9 xl_S xi_S xn_S xw_S (by decide +kernel) Bundle.six_0 Bundle.six_1 Bundle.six_2 Bundle.six_5 d_C_literal_14 d_C_literal_17 d_C_literal_18 d_C_literal_20 d_C_literal_23 (Nat.le_of_ble_eq_true rfl) (Nat.le_of_ble_eq_true rfl) (Nat.le_of_ble_eq_true rfl) (Nat.le_of_ble_eq_true rfl)
set_option maxHeartbeats 4000000 in
set_option maxRecDepth 100000 in
theorem x_C_assume_b (l : Launch) (hfl : l.flags = flags0) (D : va_G) (cI : ClassId) (q qa g b b1 b2 h a1 a2 a3 a4 : Nat) (am : Nat → Int32) (an vn kn : Nat) (tm : Int32) (tn : Nat) (hm mo f0 : Int32) (s : SS) (d : DS) (x : Int32) (hx9 : ¬ LOK vn x) : XK l y_C_assume c_C_assume 2 none { frames := 9, cells := 1, slots := 6, locals := 141 } D [(cI, .int)] [.ref q, .int x] (wC cI q qa g b b1 b2 h a1 a2 a3 a4 am an vn kn tm tn hm mo f0 s d) "java/lang/IllegalArgumentException" := by
  refine XK_of (own := R_C) (by decide +kernel) rfl (Nat.le_of_ble_eq_true rfl) ?_
  intro p e st m below meth c A ls hx hb hml hts hown hK hP hD hS hA hl hlocks hnoh hTX hSX
  refine lv_aload_n hx hb d_C_assume_0 rfl (lv_at hl 0 rfl) ?_
  refine lv_iload_n hx hb d_C_assume_1 rfl (lv_at hl 1 rfl) ?_
  exact W_pass (X := "java/lang/IllegalArgumentException") (n := 1) (C := R_C) (b := q) (As := [.int x]) (rest := []) ⟨hx, hb, hml, hown, hts⟩ hlocks hnoh (x_C_needLiteral l hfl D cI q qa g b b1 b2 h a1 a2 a3 a4 am an vn kn tm tn hm mo f0 s d x hx9 st.heap.size) (cwV 1 hts v_C_45 rfl rfl rfl (by decide +kernel) ⟨Nat.le_of_ble_eq_true rfl, Nat.le_of_ble_eq_true rfl⟩) (XK_pre hK hP hD hA hTX hSX (va_recv (ci := 3) hK hP rfl (q0 := 0) rfl)) rfl hl.1 (Nat.le_of_ble_eq_true rfl) d_C_assume_2 ⟨Nat.le_of_ble_eq_true rfl, Nat.le_of_ble_eq_true rfl⟩
set_option maxHeartbeats 4000000 in
set_option maxRecDepth 100000 in
theorem x_C_assume_r (l : Launch) (hfl : l.flags = flags0) (D : va_G) (cI : ClassId) (q qa g b b1 b2 h a1 a2 a3 a4 : Nat) (am : Nat → Int32) (an vn kn : Nat) (tm : Int32) (tn : Nat) (hm mo f0 : Int32) (s : SS) (d : DS) (x : Int32) (hx9 : LOK vn x) (ht : an = 10) : XK l y_C_assume c_C_assume 2 none { frames := 9, cells := 1, slots := 6, locals := 141 } D [(cI, .int)] [.ref q, .int x] (wC cI q qa g b b1 b2 h a1 a2 a3 a4 am an vn kn tm tn hm mo f0 s d) "java/lang/IllegalStateException" := by
  refine XK_of (own := R_C) (by decide +kernel) rfl (Nat.le_of_ble_eq_true rfl) ?_
  intro p e st m below meth c A ls hx hb hml hts hown hK hP hD hS hA hl hlocks hnoh hTX hSX
  refine lv_aload_n hx hb d_C_assume_0 rfl (lv_at hl 0 rfl) ?_
  refine lv_iload_n hx hb d_C_assume_1 rfl (lv_at hl 1 rfl) ?_
  refine va_csv (W.runV (n := 1) (C := R_C) (b := q) (As := [.int x]) (rest := []) ⟨hx, hb, hml, hown, hts⟩ (kp_C_needLiteral l D cI q qa g b b1 b2 h a1 a2 a3 a4 am an vn kn tm tn hm mo f0 s d x hx9) (cwV 1 hts v_C_45 rfl rfl rfl (by decide +kernel) ⟨Nat.le_of_ble_eq_true rfl, Nat.le_of_ble_eq_true rfl⟩) ⟨fun a U g mk q => ⟨q.1, q.2.1, va_K.moved (u := U) (U := U.calling g mk a) (Vm.Alike.refl U.vm) q.2.2⟩, va_recv (ci := 3) hK hP rfl (q0 := 0) rfl, fun U hU hW => ⟨rfl, by rw [hU]; exact hP, va_K.moved hW.alike hK⟩⟩ rfl rfl hl.1 rfl (lv_room (Nat.le_of_ble_eq_true rfl)) d_C_assume_2 ⟨Nat.le_of_ble_eq_true rfl, Nat.le_of_ble_eq_true rfl⟩) (fun _ => ?_)
  refine lv_aload_n hx hb d_C_assume_5 rfl (lv_at hl 0 rfl) ?_
  refine va_get (D := D) (ci := 3) (v := .int (nI an)) (C := R_C) (T := T_C) (N := 11) hx hb hts u_C hown hK hP 0 rfl rfl 4 (by decide) (hts _ f_C_71) (fun _ h9 => h9) rfl d_C_assume_6 ?_
  refine lv_bipush (v := 10) hx hb d_C_assume_9 (by decide +kernel) ?_
  refine lv_icmp_lt (tgt := 24) hx hb d_C_assume_11 rfl (fun hc11 => absurd hc11 (by rw [ht]; decide +kernel)) (fun hc11 => ?_)
  obtain ⟨q9, hq9⟩ := hSX.1 (74, "too many assumptions") (by decide)
  exact W_throw (A := A) (sq := q9) hx hb hlocks hnoh hfl (hml.trans hl.1.symm) hown hts hTX hSX hq9 xl_S xi_S xn_S xw_S (by decide +kernel) Bundle.six_0 Bundle.six_1 Bundle.six_2 Bundle.six_5 d_C_assume_14 d_C_assume_17 d_C_assume_18 d_C_assume_20 d_C_assume_23 (Nat.le_of_ble_eq_true rfl) (Nat.le_of_ble_eq_true rfl) (Nat.le_of_ble_eq_true rfl) (Nat.le_of_ble_eq_true rfl)
set_option maxHeartbeats 4000000 in
set_option maxRecDepth 100000 in
theorem x_C_follows_b (l : Launch) (hfl : l.flags = flags0) (D : va_G) (cI : ClassId) (q qa g b b1 b2 h a1 a2 a3 a4 : Nat) (am : Nat → Int32) (an vn kn : Nat) (tm : Int32) (tn : Nat) (hm mo f0 : Int32) (s : SS) (d : DS) (x : Int32) (hx9 : ¬ LOK vn x) : XK l y_C_follows c_C_follows 3 (some .boolean) { frames := 9, cells := 1, slots := 6, locals := 141 } D [(cI, .int)] [.ref q, .int x] (wC cI q qa g b b1 b2 h a1 a2 a3 a4 am an vn kn tm tn hm mo f0 s d) "java/lang/IllegalArgumentException" := by
  refine XK_of (own := R_C) (by decide +kernel) rfl (Nat.le_of_ble_eq_true rfl) ?_
  intro p e st m below meth c A ls hx hb hml hts hown hK hP hD hS hA hl hlocks hnoh hTX hSX
  refine lv_aload_n hx hb d_C_follows_0 rfl (lv_at hl 0 rfl) ?_
  refine lv_iload_n hx hb d_C_follows_1 rfl (lv_at hl 1 rfl) ?_
  exact W_pass (X := "java/lang/IllegalArgumentException") (n := 1) (C := R_C) (b := q) (As := [.int x]) (rest := []) ⟨hx, hb, hml, hown, hts⟩ hlocks hnoh (x_C_needLiteral l hfl D cI q qa g b b1 b2 h a1 a2 a3 a4 am an vn kn tm tn hm mo f0 s d x hx9 st.heap.size) (cwV 1 hts v_C_45 rfl rfl rfl (by decide +kernel) ⟨Nat.le_of_ble_eq_true rfl, Nat.le_of_ble_eq_true rfl⟩) (XK_pre hK hP hD hA hTX hSX (va_recv (ci := 3) hK hP rfl (q0 := 0) rfl)) rfl hl.1 (Nat.le_of_ble_eq_true rfl) d_C_follows_2 ⟨Nat.le_of_ble_eq_true rfl, Nat.le_of_ble_eq_true rfl⟩
set_option maxHeartbeats 4000000 in
set_option maxRecDepth 100000 in
theorem x_C_variable (l : Launch) (hfl : l.flags = flags0) (D : va_G) (cI : ClassId) (q qa g b b1 b2 h a1 a2 a3 a4 : Nat) (am : Nat → Int32) (an vn kn : Nat) (tm : Int32) (tn : Nat) (hm mo f0 : Int32) (s : SS) (d : DS) (hv : vn = 10) : XK l y_C_variable c_C_variable 1 (some .int) { frames := 8, cells := 1, slots := 6, locals := 120 } D [(cI, .int)] [.ref q] (wC cI q qa g b b1 b2 h a1 a2 a3 a4 am an vn kn tm tn hm mo f0 s d) "java/lang/IllegalStateException" := by
  refine XK_of (own := R_C) (by decide +kernel) rfl (Nat.le_of_ble_eq_true rfl) ?_
  intro p e st m below meth c A ls hx hb hml hts hown hK hP hD hS hA hl hlocks hnoh hTX hSX
  refine lv_aload_n hx hb d_C_variable_0 rfl (lv_at hl 0 rfl) ?_
  refine va_get (D := D) (ci := 3) (v := .int (nI vn)) (C := R_C) (T := T_C) (N := 11) hx hb hts u_C hown hK hP 0 rfl rfl 5 (by decide) (hts _ f_C_34) (fun _ h9 => h9) rfl d_C_variable_1 ?_
  refine lv_bipush (v := 10) hx hb d_C_variable_4 (by decide +kernel) ?_
  refine lv_icmp_lt (tgt := 19) hx hb d_C_variable_6 rfl (fun hc6 => absurd hc6 (by rw [hv]; decide +kernel)) (fun hc6 => ?_)
  obtain ⟨q9, hq9⟩ := hSX.1 (40, "too many variables") (by decide)
  exact W_throw (A := A) (sq := q9) hx hb hlocks hnoh hfl (hml.trans hl.1.symm) hown hts hTX hSX hq9 xl_S xi_S xn_S xw_S (by decide +kernel) Bundle.six_0 Bundle.six_1 Bundle.six_2 Bundle.six_5 d_C_variable_9 d_C_variable_12 d_C_variable_13 d_C_variable_15 d_C_variable_18 (Nat.le_of_ble_eq_true rfl) (Nat.le_of_ble_eq_true rfl) (Nat.le_of_ble_eq_true rfl) (Nat.le_of_ble_eq_true rfl)
set_option maxHeartbeats 4000000 in
set_option maxRecDepth 100000 in
theorem x_C_close (l : Launch) (hfl : l.flags = flags0) (D : va_G) (cI : ClassId) (q qa g b b1 b2 h a1 a2 a3 a4 : Nat) (am : Nat → Int32) (an vn kn : Nat) (tm : Int32) (tn : Nat) (hm mo f0 : Int32) (s : SS) (d : DS) (hv : kn = 500) : XK l y_C_close c_C_close 1 (some .int) { frames := 8, cells := 1, slots := 6, locals := 120 } D [(cI, .int)] [.ref q] (wC cI q qa g b b1 b2 h a1 a2 a3 a4 am an vn kn tm tn hm mo f0 s d) "java/lang/IllegalStateException" := by
  refine XK_of (own := R_C) (by decide +kernel) rfl (Nat.le_of_ble_eq_true rfl) ?_
  intro p e st m below meth c A ls hx hb hml hts hown hK hP hD hS hA hl hlocks hnoh hTX hSX
  refine lv_aload_n hx hb d_C_close_0 rfl (lv_at hl 0 rfl) ?_
  refine va_get (D := D) (ci := 3) (v := .int (nI kn)) (C := R_C) (T := T_C) (N := 11) hx hb hts u_C hown hK hP 0 rfl rfl 6 (by decide) (hts _ f_C_63) (fun _ h9 => h9) rfl d_C_close_1 ?_
  refine lv_sipush (v := 500) hx hb d_C_close_4 (by decide +kernel) ?_
  refine lv_icmp_lt (tgt := 20) hx hb d_C_close_7 rfl (fun hc7 => absurd hc7 (by rw [hv]; decide +kernel)) (fun hc7 => ?_)
  obtain ⟨q9, hq9⟩ := hSX.1 (66, "too many clauses") (by decide)
  exact W_throw (A := A) (sq := q9) hx hb hlocks hnoh hfl (hml.trans hl.1.symm) hown hts hTX hSX hq9 xl_S xi_S xn_S xw_S (by decide +kernel) Bundle.six_0 Bundle.six_1 Bundle.six_2 Bundle.six_5 d_C_close_10 d_C_close_13 d_C_close_14 d_C_close_16 d_C_close_19 (Nat.le_of_ble_eq_true rfl) (Nat.le_of_ble_eq_true rfl) (Nat.le_of_ble_eq_true rfl) (Nat.le_of_ble_eq_true rfl)
set_option maxHeartbeats 4000000 in
set_option maxRecDepth 100000 in
theorem x_C_value_b (l : Launch) (hfl : l.flags = flags0) (D : va_G) (cI : ClassId) (q qa g b b1 b2 h a1 a2 a3 a4 : Nat) (am : Nat → Int32) (an vn kn : Nat) (tm : Int32) (tn : Nat) (hm mo f0 : Int32) (s : SS) (d : DS) (x : Int32) (hx9 : x < 1 ∨ nI vn < x) : XK l y_C_value c_C_value 2 (some .boolean) { frames := 8, cells := 1, slots := 6, locals := 120 } D [(cI, .int)] [.ref q, .int x] (wC cI q qa g b b1 b2 h a1 a2 a3 a4 am an vn kn tm tn hm mo f0 s d) "java/lang/IllegalArgumentException" := by
  refine XK_of (own := R_C) (by decide +kernel) rfl (Nat.le_of_ble_eq_true rfl) ?_
  intro p e st m below meth c A ls hx hb hml hts hown hK hP hD hS hA hl hlocks hnoh hTX hSX
  refine lv_iload_n hx hb d_C_value_0 rfl (lv_at hl 1 rfl) ?_
  refine lv_iconst (v := 1) hx hb d_C_value_1 (by decide) ?_
  refine lv_icmp_lt (tgt := 13) hx hb d_C_value_2 rfl (fun hc2 => ?_) (fun hc2 => ?_)
  · obtain ⟨q9, hq9⟩ := hSX.1 (102, "no such variable") (by decide)
    exact W_throw (A := A) (sq := q9) hx hb hlocks hnoh hfl (hml.trans hl.1.symm) hown hts hTX hSX hq9 xl_A xi_A xn_A xw_A (by decide +kernel) Bundle.six_0 Bundle.six_1 Bundle.six_2 Bundle.six_5 d_C_value_13 d_C_value_16 d_C_value_17 d_C_value_19 d_C_value_22 (Nat.le_of_ble_eq_true rfl) (Nat.le_of_ble_eq_true rfl) (Nat.le_of_ble_eq_true rfl) (Nat.le_of_ble_eq_true rfl)
  · refine lv_iload_n hx hb d_C_value_5 rfl (lv_at hl 1 rfl) ?_
    refine lv_aload_n hx hb d_C_value_6 rfl (lv_at hl 0 rfl) ?_
    refine va_get (D := D) (ci := 3) (v := .int (nI vn)) (C := R_C) (T := T_C) (N := 11) hx hb hts u_C hown hK hP 0 rfl rfl 5 (by decide) (hts _ f_C_34) (fun _ h9 => h9) rfl d_C_value_7 ?_
    refine lv_icmp_le (tgt := 23) hx hb d_C_value_10 rfl (fun hc10 => absurd hx9 (fun h => h.elim hc2 (Int32.not_lt.mpr hc10))) (fun hc10 => ?_)
    obtain ⟨q9, hq9⟩ := hSX.1 (102, "no such variable") (by decide)
    exact W_throw (A := A) (sq := q9) hx hb hlocks hnoh hfl (hml.trans hl.1.symm) hown hts hTX hSX hq9 xl_A xi_A xn_A xw_A (by decide +kernel) Bundle.six_0 Bundle.six_1 Bundle.six_2 Bundle.six_5 d_C_value_13 d_C_value_16 d_C_value_17 d_C_value_19 d_C_value_22 (Nat.le_of_ble_eq_true rfl) (Nat.le_of_ble_eq_true rfl) (Nat.le_of_ble_eq_true rfl) (Nat.le_of_ble_eq_true rfl)
set_option maxHeartbeats 4000000 in
set_option maxRecDepth 100000 in
theorem x_C_value_m (l : Launch) (hfl : l.flags = flags0) (D : va_G) (cI : ClassId) (q qa g b b1 b2 h a1 a2 a3 a4 : Nat) (am : Nat → Int32) (an vn kn : Nat) (tm : Int32) (tn : Nat) (hm mo f0 : Int32) (s : SS) (d : DS) (x : Int32) (hx1 : ¬ x < 1) (hx2 : x ≤ nI vn) (hm9 : hm = 0) : XK l y_C_value c_C_value 2 (some .boolean) { frames := 8, cells := 1, slots := 6, locals := 120 } D [(cI, .int)] [.ref q, .int x] (wC cI q qa g b b1 b2 h a1 a2 a3 a4 am an vn kn tm tn hm mo f0 s d) "java/util/NoSuchElementException" := by
  refine XK_of (own := R_C) (by decide +kernel) rfl (Nat.le_of_ble_eq_true rfl) ?_
  intro p e st m below meth c A ls hx hb hml hts hown hK hP hD hS hA hl hlocks hnoh hTX hSX
  refine lv_iload_n hx hb d_C_value_0 rfl (lv_at hl 1 rfl) ?_
  refine lv_iconst (v := 1) hx hb d_C_value_1 (by decide) ?_
  refine lv_icmp_lt (tgt := 13) hx hb d_C_value_2 rfl (fun hc2 => absurd hc2 hx1) (fun hc2 => ?_)
  refine lv_iload_n hx hb d_C_value_5 rfl (lv_at hl 1 rfl) ?_
  refine lv_aload_n hx hb d_C_value_6 rfl (lv_at hl 0 rfl) ?_
  refine va_get (D := D) (ci := 3) (v := .int (nI vn)) (C := R_C) (T := T_C) (N := 11) hx hb hts u_C hown hK hP 0 rfl rfl 5 (by decide) (hts _ f_C_34) (fun _ h9 => h9) rfl d_C_value_7 ?_
  refine lv_icmp_le (tgt := 23) hx hb d_C_value_10 rfl (fun hc10 => ?_) (fun hc10 => absurd hx2 hc10)
  refine lv_aload_n hx hb d_C_value_23 rfl (lv_at hl 0 rfl) ?_
  refine va_get (D := D) (ci := 3) (v := .int hm) (C := R_C) (T := T_C) (N := 11) hx hb hts u_C hown hK hP 0 rfl rfl 9 (by decide) (hts _ f_C_83) (fun _ h9 => h9) rfl d_C_value_24 ?_
  refine lv_if_ne (tgt := 40) hx hb d_C_value_27 rfl (fun hc27 => absurd hm9 hc27) (fun hc27 => ?_)
  obtain ⟨q9, hq9⟩ := hSX.1 (107, "no model") (by decide)
  exact W_throw (A := A) (sq := q9) hx hb hlocks hnoh hfl (hml.trans hl.1.symm) hown hts hTX hSX hq9 xl_N xi_N xn_N xw_N (by decide +kernel) (by decide +kernel) (by decide +kernel) (by decide +kernel) (by decide +kernel) d_C_value_30 d_C_value_33 d_C_value_34 d_C_value_36 d_C_value_39 (Nat.le_of_ble_eq_true rfl) (Nat.le_of_ble_eq_true rfl) (Nat.le_of_ble_eq_true rfl) (Nat.le_of_ble_eq_true rfl)
