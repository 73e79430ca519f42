/-! Part 44: the constructors (wip/whole/gen_init.py) -/
theorem io_i : Cond.instanceMethod objectInit ∈ lw_G := z_in 44 (by decide +kernel)
theorem io_c : Cond.code objectInit ⟨#[0xb1]⟩ 1 none ∈ lw_G := z_in 45 (by decide +kernel)
theorem io_C : Cond.methodLink R_C 1 objectInit ∈ lw_G := z_in 43 (by decide +kernel)
theorem io_M : Cond.methodLink R_M 1 objectInit ∈ lw_G := z_in 467 (by decide +kernel)
theorem io_H : Cond.methodLink R_H 3 objectInit ∈ lw_G := z_in 99 (by decide +kernel)
theorem io_D : Cond.methodLink R_D 5 objectInit ∈ lw_G := z_in 51 (by decide +kernel)
theorem io_S : Cond.methodLink R_S 3 objectInit ∈ lw_G := z_in 80 (by decide +kernel)
theorem ia_int : Cond.arrayClass .int ∈ lw_G := z_in 74 (by decide +kernel)
theorem ia_boolean : Cond.arrayClass .boolean ∈ lw_G := z_in 505 (by decide +kernel)
theorem ia_long : Cond.arrayClass .long ∈ lw_G := z_in 570 (by decide +kernel)
theorem il_C_7 : Cond.classLink R_C 7 R_D ∈ lw_G := z_in 46 (by decide +kernel)
theorem ii_D : Cond.instantiable R_D 7 ∈ lw_G := z_in 47 (by decide +kernel)
theorem in_D : Cond.initialized R_D ∈ lw_G := z_in 26 (by decide +kernel)
theorem im_D : Cond.instanceMethod y_D_init ∈ lw_G := z_in 49 (by decide +kernel)
theorem il_C_16 : Cond.classLink R_C 16 R_S ∈ lw_G := z_in 75 (by decide +kernel)
theorem ii_S : Cond.instantiable R_S 4 ∈ lw_G := z_in 76 (by decide +kernel)
theorem in_S : Cond.initialized R_S ∈ lw_G := z_in 27 (by decide +kernel)
theorem im_S : Cond.instanceMethod y_S_init ∈ lw_G := z_in 78 (by decide +kernel)
theorem il_C_23 : Cond.classLink R_C 23 R_H ∈ lw_G := z_in 94 (by decide +kernel)
theorem ii_H : Cond.instantiable R_H 1 ∈ lw_G := z_in 95 (by decide +kernel)
theorem in_H : Cond.initialized R_H ∈ lw_G := z_in 28 (by decide +kernel)
theorem im_H : Cond.instanceMethod y_H_init ∈ lw_G := z_in 97 (by decide +kernel)
theorem il_W_8 : Cond.classLink R_W 8 R_C ∈ lw_G := z_in 38 (by decide +kernel)
theorem ii_C : Cond.instantiable R_C 11 ∈ lw_G := z_in 39 (by decide +kernel)
theorem in_C : Cond.initialized R_C ∈ lw_G := z_in 25 (by decide +kernel)
theorem im_C : Cond.instanceMethod y_C_init ∈ lw_G := z_in 41 (by decide +kernel)
theorem il_W_37 : Cond.classLink R_W 37 R_M ∈ lw_G := z_in 462 (by decide +kernel)
theorem ii_M : Cond.instantiable R_M 12 ∈ lw_G := z_in 463 (by decide +kernel)
theorem in_M : Cond.initialized R_M ∈ lw_G := z_in 29 (by decide +kernel)
theorem im_M : Cond.instanceMethod y_M_init ∈ lw_G := z_in 465 (by decide +kernel)
theorem RA_eq {s : State} {c1 c2 : ClassId} (h1 : va_RA s c1 .int) (h2 : va_RA s c2 .int) : c2 = c1 := Option.some.inj (Eq.trans (Eq.symm h2) h1)
set_option maxHeartbeats 4000000 in
set_option maxRecDepth 100000 in
theorem k_H_init (l : Launch) (D : va_G) (g : Nat) (f0 : Int32) : KTv l y_H_init c_H_init 1 { frames := 1, cells := 0, slots := 0, locals := 20 } D [] [.ref g] [(g, .inr (0, [.int f0]))] [(g, .inr (0, [.int f0]))] := by
  refine KTv_of (own := R_H) (by decide +kernel) rfl (Nat.le_of_ble_eq_true rfl) ?_
  intro p e s m below meth c A ls Q hx hb hml hts hown hK hP hD hS hA hl fin
  refine lv_aload_n hx hb d_H_init_0 rfl (lv_at hl 0 rfl) ?_
  refine W.objInit hx hb hown (hts _ io_H) (hts _ io_i) (hts _ io_c) rfl (by rw [hml]; exact hl.1) rfl d_H_init_1 (Nat.le_of_ble_eq_true rfl) (Nat.le_of_ble_eq_true rfl) ?_
  refine W.eq (g2 := F0 m 4 ls []) rfl ?_
  exact fin _ _ _ _ hP hD hS d_H_init_4
set_option maxHeartbeats 4000000 in
set_option maxRecDepth 100000 in
theorem k_D_init (l : Launch) (D : va_G) (h0 sz : Nat) : Met l y_D_init (wz y_D_init c_D_init 1 none) { frames := 1, cells := 4, slots := 7785, locals := 20 } (va_Pc [.ref h0] (fun U => U.heap.size = sz ∧ va_P D cls_ [(h0, .inr (1, [.null, .null, .null, .null, .int 0, .int 0, .int 0]))] U.heap ∧ va_K D cls_ [] U ∧ va_D (fun _ => True) [(h0, .inr (1, [.null, .null, .null, .null, .int 0, .int 0, .int 0]))])) (va_Qv (fun _ : ClassId × Nat × Nat × Nat × Nat => True) (fun u t => va_P D cls_ (wD u.1 h0 u.2.1 u.2.2.1 u.2.2.2.1 u.2.2.2.2 (fun _ => 0, fun _ => 0, fun _ => 0, fun _ => 0, 0, 0, 0)) t.heap ∧ va_K D cls_ [(u.1, .int)] t ∧ va_D (va_A [(h0, .inr (1, [.null, .null, .null, .null, .int 0, .int 0, .int 0]))] sz) (wD u.1 h0 u.2.1 u.2.2.1 u.2.2.2.1 u.2.2.2.2 (fun _ => 0, fun _ => 0, fun _ => 0, fun _ => 0, 0, 0, 0))) (va_A [(h0, .inr (1, [.null, .null, .null, .null, .int 0, .int 0, .int 0]))] sz)) 4 7785 (va_A [(h0, .inr (1, [.null, .null, .null, .null, .int 0, .int 0, .int 0]))] sz) := by
  refine Met.ofW (cc := c_D_init) (maxL := 1) (ret := none) (by decide +kernel) rfl ?_
  intro p e s m args below meth c s₁ B hml hv
  obtain ⟨rfl, hsz, hP, hK, hD0⟩ := hv
  have hx := B.exec
  have hb := B.bytes
  have hr := B.returns
  have hts0 := atoms_spec (ws := wz y_D_init c_D_init 1 none) B.pre
  have hts : ∀ x ∈ lw_G, x.before _ s = true := fun x h => hts0 x (List.mem_cons_of_mem _ h)
  have hown : s.vm.findClass R_D = some m.cls := findClass_of_methodNamed B.named
  have hlocks := B.notSynchronized
  have hin : meth.name = "<init>" := (name_of_methodNamed B.named B.method).1
  subst hsz
  have hD := hD0.self (sz := s.heap.size)
  generalize hAe : va_A _ s.heap.size = A at hD ⊢
  have hA : ∀ q : Nat, s.heap.size ≤ q → A q := fun q h => by rw [← hAe]; exact Or.inr h
  have hS : va_S A s.heap s.heap [] := va_S.rf
  have hl := lv_entry [.ref h0] (n := 1) (Nat.le_of_ble_eq_true rfl)
  rw [lg_entry_eq]
  generalize (lg_sl [.ref h0] ++ List.replicate (1 - (lg_sl [.ref h0]).length) Slot.unset).toArray = ls at hl ⊢
  refine lv_aload_n hx hb d_D_init_0 rfl (lv_at hl 0 rfl) ?_
  refine W.objInit hx hb hown (hts _ io_D) (hts _ io_i) (hts _ io_c) rfl (by rw [hml]; exact hl.1) rfl d_D_init_1 (Nat.le_of_ble_eq_true rfl) (Nat.le_of_ble_eq_true rfl) ?_
  refine W.eq (g2 := F0 m 4 ls []) rfl ?_
  refine lv_aload_n hx hb d_D_init_4 rfl (lv_at hl 0 rfl) ?_
  refine lv_sipush (v := 1575) hx hb d_D_init_5 (by decide +kernel) ?_
  refine va_newa (atype := .int) (N' := 1575) (a0 := (1575, .inl (fun _ => 0))) (ty := .int) hx hb (hts _ ia_int) rfl hK hP hD hS hA (fun _ => rfl) (by decide +kernel) (by decide +kernel) (by decide) (Nat.le_of_ble_eq_true rfl) (Nat.le_of_ble_eq_true rfl) d_D_init_8 (fun r0 c0 H hK hP hD hS => ?_)
  have hP : va_P D cls_ [(h0, .inr (1, [.null, .null, .null, .null, .int 0, .int 0, .int 0])), (r0, .inl (c0, 1575, .inl (fun _ => 0)))] H := hP
  have hD : va_D A [(h0, .inr (1, [.null, .null, .null, .null, .int 0, .int 0, .int 0])), (r0, .inl (c0, 1575, .inl (fun _ => 0)))] := hD
  refine va_putF (D := D) (ci := 1) (v := .ref r0) (ty := .array .int) (C := R_D) (T := T_D) (N := 7) hx hb hts u_D t_D t_D_ok n_D hown hK hP hD hS 0 rfl rfl 0 (by decide) (hts _ f_D_11) (fun _ h9 => h9) rfl hin rfl (by decide +kernel) rfl rfl (Nat.le_of_ble_eq_true rfl) d_D_init_10 (fun H locs hP hD hS => ?_)
  have hP : va_P D cls_ [(h0, .inr (1, [.ref r0, .null, .null, .null, .int 0, .int 0, .int 0])), (r0, .inl (c0, 1575, .inl (fun _ => 0)))] H := hP
  have hD : va_D A [(h0, .inr (1, [.ref r0, .null, .null, .null, .int 0, .int 0, .int 0])), (r0, .inl (c0, 1575, .inl (fun _ => 0)))] := hD
  refine lv_aload_n hx hb d_D_init_13 rfl (lv_at hl 0 rfl) ?_
  refine lv_sipush (v := 1575) hx hb d_D_init_14 (by decide +kernel) ?_
  refine va_newa (atype := .int) (N' := 1575) (a0 := (1575, .inl (fun _ => 0))) (ty := .int) hx hb (hts _ ia_int) rfl hK hP hD hS hA (fun _ => rfl) (by decide +kernel) (by decide +kernel) (by decide) (Nat.le_of_ble_eq_true rfl) (Nat.le_of_ble_eq_true rfl) d_D_init_17 (fun r1 c1 H hK hP hD hS => ?_)
  have hP : va_P D cls_ [(h0, .inr (1, [.ref r0, .null, .null, .null, .int 0, .int 0, .int 0])), (r0, .inl (c0, 1575, .inl (fun _ => 0))), (r1, .inl (c1, 1575, .inl (fun _ => 0)))] H := hP
  have hD : va_D A [(h0, .inr (1, [.ref r0, .null, .null, .null, .int 0, .int 0, .int 0])), (r0, .inl (c0, 1575, .inl (fun _ => 0))), (r1, .inl (c1, 1575, .inl (fun _ => 0)))] := hD
  refine va_putF (D := D) (ci := 1) (v := .ref r1) (ty := .array .int) (C := R_D) (T := T_D) (N := 7) hx hb hts u_D t_D t_D_ok n_D hown hK hP hD hS 0 rfl rfl 1 (by decide) (hts _ f_D_15) (fun _ h9 => h9) rfl hin rfl (by decide +kernel) rfl rfl (Nat.le_of_ble_eq_true rfl) d_D_init_19 (fun H locs hP hD hS => ?_)
  have hP : va_P D cls_ [(h0, .inr (1, [.ref r0, .ref r1, .null, .null, .int 0, .int 0, .int 0])), (r0, .inl (c0, 1575, .inl (fun _ => 0))), (r1, .inl (c1, 1575, .inl (fun _ => 0)))] H := hP
  have hD : va_D A [(h0, .inr (1, [.ref r0, .ref r1, .null, .null, .int 0, .int 0, .int 0])), (r0, .inl (c0, 1575, .inl (fun _ => 0))), (r1, .inl (c1, 1575, .inl (fun _ => 0)))] := hD
  refine lv_aload_n hx hb d_D_init_22 rfl (lv_at hl 0 rfl) ?_
  refine lv_sipush (v := 1575) hx hb d_D_init_23 (by decide +kernel) ?_
  refine va_newa (atype := .int) (N' := 1575) (a0 := (1575, .inl (fun _ => 0))) (ty := .int) hx hb (hts _ ia_int) rfl hK hP hD hS hA (fun _ => rfl) (by decide +kernel) (by decide +kernel) (by decide) (Nat.le_of_ble_eq_true rfl) (Nat.le_of_ble_eq_true rfl) d_D_init_26 (fun r2 c2 H hK hP hD hS => ?_)
  have hP : va_P D cls_ [(h0, .inr (1, [.ref r0, .ref r1, .null, .null, .int 0, .int 0, .int 0])), (r0, .inl (c0, 1575, .inl (fun _ => 0))), (r1, .inl (c1, 1575, .inl (fun _ => 0))), (r2, .inl (c2, 1575, .inl (fun _ => 0)))] H := hP
  have hD : va_D A [(h0, .inr (1, [.ref r0, .ref r1, .null, .null, .int 0, .int 0, .int 0])), (r0, .inl (c0, 1575, .inl (fun _ => 0))), (r1, .inl (c1, 1575, .inl (fun _ => 0))), (r2, .inl (c2, 1575, .inl (fun _ => 0)))] := hD
  refine va_putF (D := D) (ci := 1) (v := .ref r2) (ty := .array .int) (C := R_D) (T := T_D) (N := 7) hx hb hts u_D t_D t_D_ok n_D hown hK hP hD hS 0 rfl rfl 2 (by decide) (hts _ f_D_18) (fun _ h9 => h9) rfl hin rfl (by decide +kernel) rfl rfl (Nat.le_of_ble_eq_true rfl) d_D_init_28 (fun H locs hP hD hS => ?_)
  have hP : va_P D cls_ [(h0, .inr (1, [.ref r0, .ref r1, .ref r2, .null, .int 0, .int 0, .int 0])), (r0, .inl (c0, 1575, .inl (fun _ => 0))), (r1, .inl (c1, 1575, .inl (fun _ => 0))), (r2, .inl (c2, 1575, .inl (fun _ => 0)))] H := hP
  have hD : va_D A [(h0, .inr (1, [.ref r0, .ref r1, .ref r2, .null, .int 0, .int 0, .int 0])), (r0, .inl (c0, 1575, .inl (fun _ => 0))), (r1, .inl (c1, 1575, .inl (fun _ => 0))), (r2, .inl (c2, 1575, .inl (fun _ => 0)))] := hD
  refine lv_aload_n hx hb d_D_init_31 rfl (lv_at hl 0 rfl) ?_
  refine lv_sipush (v := 3060) hx hb d_D_init_32 (by decide +kernel) ?_
  refine va_newa (atype := .int) (N' := 3060) (a0 := (3060, .inl (fun _ => 0))) (ty := .int) hx hb (hts _ ia_int) rfl hK hP hD hS hA (fun _ => rfl) (by decide +kernel) (by decide +kernel) (by decide) (Nat.le_of_ble_eq_true rfl) (Nat.le_of_ble_eq_true rfl) d_D_init_35 (fun r3 c3 H hK hP hD hS => ?_)
  have hP : va_P D cls_ [(h0, .inr (1, [.ref r0, .ref r1, .ref r2, .null, .int 0, .int 0, .int 0])), (r0, .inl (c0, 1575, .inl (fun _ => 0))), (r1, .inl (c1, 1575, .inl (fun _ => 0))), (r2, .inl (c2, 1575, .inl (fun _ => 0))), (r3, .inl (c3, 3060, .inl (fun _ => 0)))] H := hP
  have hD : va_D A [(h0, .inr (1, [.ref r0, .ref r1, .ref r2, .null, .int 0, .int 0, .int 0])), (r0, .inl (c0, 1575, .inl (fun _ => 0))), (r1, .inl (c1, 1575, .inl (fun _ => 0))), (r2, .inl (c2, 1575, .inl (fun _ => 0))), (r3, .inl (c3, 3060, .inl (fun _ => 0)))] := hD
  refine va_putF (D := D) (ci := 1) (v := .ref r3) (ty := .array .int) (C := R_D) (T := T_D) (N := 7) hx hb hts u_D t_D t_D_ok n_D hown hK hP hD hS 0 rfl rfl 3 (by decide) (hts _ f_D_21) (fun _ h9 => h9) rfl hin rfl (by decide +kernel) rfl rfl (Nat.le_of_ble_eq_true rfl) d_D_init_37 (fun H locs hP hD hS => ?_)
  have hP : va_P D cls_ [(h0, .inr (1, [.ref r0, .ref r1, .ref r2, .ref r3, .int 0, .int 0, .int 0])), (r0, .inl (c0, 1575, .inl (fun _ => 0))), (r1, .inl (c1, 1575, .inl (fun _ => 0))), (r2, .inl (c2, 1575, .inl (fun _ => 0))), (r3, .inl (c3, 3060, .inl (fun _ => 0)))] H := hP
  have hD : va_D A [(h0, .inr (1, [.ref r0, .ref r1, .ref r2, .ref r3, .int 0, .int 0, .int 0])), (r0, .inl (c0, 1575, .inl (fun _ => 0))), (r1, .inl (c1, 1575, .inl (fun _ => 0))), (r2, .inl (c2, 1575, .inl (fun _ => 0))), (r3, .inl (c3, 3060, .inl (fun _ => 0)))] := hD
  obtain rfl : c1 = c0 := RA_eq (hK.2 0 _ rfl).2 (hK.2 1 _ rfl).2
  obtain rfl : c2 = c1 := RA_eq (hK.2 0 _ rfl).2 (hK.2 2 _ rfl).2
  obtain rfl : c3 = c2 := RA_eq (hK.2 0 _ rfl).2 (hK.2 3 _ rfl).2
  have hK := hK.sub (tys' := [(c3, .int)]) [0] rfl
  exact W.vret hx hb hr (fun t ht hW => ⟨⟨(c3, r0, r1, r2, r3), rfl, trivial, by rw [ht]; exact hP, va_K.moved hW.alike hK, hD⟩, hS.F ht⟩) hS.2.2 d_D_init_40
set_option maxHeartbeats 4000000 in
set_option maxRecDepth 100000 in
theorem k_S_init (l : Launch) (D : va_G) (h0 sz : Nat) : Met l y_S_init (wz y_S_init c_S_init 1 none) { frames := 1, cells := 2, slots := 20, locals := 20 } (va_Pc [.ref h0] (fun U => U.heap.size = sz ∧ va_P D cls_ [(h0, .inr (2, [.null, .null, .int 0, .int 0]))] U.heap ∧ va_K D cls_ [] U ∧ va_D (fun _ => True) [(h0, .inr (2, [.null, .null, .int 0, .int 0]))])) (va_Qv (fun _ : ClassId × Nat × Nat => True) (fun u t => va_P D cls_ (wS u.1 h0 u.2.1 u.2.2 (fun _ => 0, fun _ => 0, 0, 0)) t.heap ∧ va_K D cls_ [(u.1, .int)] t ∧ va_D (va_A [(h0, .inr (2, [.null, .null, .int 0, .int 0]))] sz) (wS u.1 h0 u.2.1 u.2.2 (fun _ => 0, fun _ => 0, 0, 0))) (va_A [(h0, .inr (2, [.null, .null, .int 0, .int 0]))] sz)) 2 20 (va_A [(h0, .inr (2, [.null, .null, .int 0, .int 0]))] sz) := by
  refine Met.ofW (cc := c_S_init) (maxL := 1) (ret := none) (by decide +kernel) rfl ?_
  intro p e s m args below meth c s₁ B hml hv
  obtain ⟨rfl, hsz, hP, hK, hD0⟩ := hv
  have hx := B.exec
  have hb := B.bytes
  have hr := B.returns
  have hts0 := atoms_spec (ws := wz y_S_init c_S_init 1 none) B.pre
  have hts : ∀ x ∈ lw_G, x.before _ s = true := fun x h => hts0 x (List.mem_cons_of_mem _ h)
  have hown : s.vm.findClass R_S = some m.cls := findClass_of_methodNamed B.named
  have hlocks := B.notSynchronized
  have hin : meth.name = "<init>" := (name_of_methodNamed B.named B.method).1
  subst hsz
  have hD := hD0.self (sz := s.heap.size)
  generalize hAe : va_A _ s.heap.size = A at hD ⊢
  have hA : ∀ q : Nat, s.heap.size ≤ q → A q := fun q h => by rw [← hAe]; exact Or.inr h
  have hS : va_S A s.heap s.heap [] := va_S.rf
  have hl := lv_entry [.ref h0] (n := 1) (Nat.le_of_ble_eq_true rfl)
  rw [lg_entry_eq]
  generalize (lg_sl [.ref h0] ++ List.replicate (1 - (lg_sl [.ref h0]).length) Slot.unset).toArray = ls at hl ⊢
  refine lv_aload_n hx hb d_S_init_0 rfl (lv_at hl 0 rfl) ?_
  refine W.objInit hx hb hown (hts _ io_S) (hts _ io_i) (hts _ io_c) rfl (by rw [hml]; exact hl.1) rfl d_S_init_1 (Nat.le_of_ble_eq_true rfl) (Nat.le_of_ble_eq_true rfl) ?_
  refine W.eq (g2 := F0 m 4 ls []) rfl ?_
  refine lv_aload_n hx hb d_S_init_4 rfl (lv_at hl 0 rfl) ?_
  refine lv_bipush (v := 10) hx hb d_S_init_5 (by decide +kernel) ?_
  refine va_newa (atype := .int) (N' := 10) (a0 := (10, .inl (fun _ => 0))) (ty := .int) hx hb (hts _ ia_int) rfl hK hP hD hS hA (fun _ => rfl) (by decide +kernel) (by decide +kernel) (by decide) (Nat.le_of_ble_eq_true rfl) (Nat.le_of_ble_eq_true rfl) d_S_init_7 (fun r0 c0 H hK hP hD hS => ?_)
  have hP : va_P D cls_ [(h0, .inr (2, [.null, .null, .int 0, .int 0])), (r0, .inl (c0, 10, .inl (fun _ => 0)))] H := hP
  have hD : va_D A [(h0, .inr (2, [.null, .null, .int 0, .int 0])), (r0, .inl (c0, 10, .inl (fun _ => 0)))] := hD
  refine va_putF (D := D) (ci := 2) (v := .ref r0) (ty := .array .int) (C := R_S) (T := T_S) (N := 4) hx hb hts u_S t_S t_S_ok n_S hown hK hP hD hS 0 rfl rfl 0 (by decide) (hts _ f_S_9) (fun _ h9 => h9) rfl hin rfl (by decide +kernel) rfl rfl (Nat.le_of_ble_eq_true rfl) d_S_init_9 (fun H locs hP hD hS => ?_)
  have hP : va_P D cls_ [(h0, .inr (2, [.ref r0, .null, .int 0, .int 0])), (r0, .inl (c0, 10, .inl (fun _ => 0)))] H := hP
  have hD : va_D A [(h0, .inr (2, [.ref r0, .null, .int 0, .int 0])), (r0, .inl (c0, 10, .inl (fun _ => 0)))] := hD
  refine lv_aload_n hx hb d_S_init_12 rfl (lv_at hl 0 rfl) ?_
  refine lv_bipush (v := 10) hx hb d_S_init_13 (by decide +kernel) ?_
  refine va_newa (atype := .int) (N' := 10) (a0 := (10, .inl (fun _ => 0))) (ty := .int) hx hb (hts _ ia_int) rfl hK hP hD hS hA (fun _ => rfl) (by decide +kernel) (by decide +kernel) (by decide) (Nat.le_of_ble_eq_true rfl) (Nat.le_of_ble_eq_true rfl) d_S_init_15 (fun r1 c1 H hK hP hD hS => ?_)
  have hP : va_P D cls_ [(h0, .inr (2, [.ref r0, .null, .int 0, .int 0])), (r0, .inl (c0, 10, .inl (fun _ => 0))), (r1, .inl (c1, 10, .inl (fun _ => 0)))] H := hP
  have hD : va_D A [(h0, .inr (2, [.ref r0, .null, .int 0, .int 0])), (r0, .inl (c0, 10, .inl (fun _ => 0))), (r1, .inl (c1, 10, .inl (fun _ => 0)))] := hD
  refine va_putF (D := D) (ci := 2) (v := .ref r1) (ty := .array .int) (C := R_S) (T := T_S) (N := 4) hx hb hts u_S t_S t_S_ok n_S hown hK hP hD hS 0 rfl rfl 1 (by decide) (hts _ f_S_15) (fun _ h9 => h9) rfl hin rfl (by decide +kernel) rfl rfl (Nat.le_of_ble_eq_true rfl) d_S_init_17 (fun H locs hP hD hS => ?_)
  have hP : va_P D cls_ [(h0, .inr (2, [.ref r0, .ref r1, .int 0, .int 0])), (r0, .inl (c0, 10, .inl (fun _ => 0))), (r1, .inl (c1, 10, .inl (fun _ => 0)))] H := hP
  have hD : va_D A [(h0, .inr (2, [.ref r0, .ref r1, .int 0, .int 0])), (r0, .inl (c0, 10, .inl (fun _ => 0))), (r1, .inl (c1, 10, .inl (fun _ => 0)))] := hD
  obtain rfl : c1 = c0 := RA_eq (hK.2 0 _ rfl).2 (hK.2 1 _ rfl).2
  have hK := hK.sub (tys' := [(c1, .int)]) [0] rfl
  exact W.vret hx hb hr (fun t ht hW => ⟨⟨(c1, r0, r1), rfl, trivial, by rw [ht]; exact hP, va_K.moved hW.alike hK, hD⟩, hS.F ht⟩) hS.2.2 d_S_init_20
set_option maxHeartbeats 4000000 in
set_option maxRecDepth 100000 in
theorem k_M_init (l : Launch) (D : va_G) (h0 sz : Nat) : Met l y_M_init (wz y_M_init c_M_init 1 none) { frames := 1, cells := 1, slots := 1024, locals := 20 } (va_Pc [.ref h0] (fun U => U.heap.size = sz ∧ va_P D cls_ [(h0, .inr (4, [.int 0, .int 0, .int 0, .int 0, .int 0, .int 0, .int 0, .int 0, .int 0, .int 0, .null, .int 0]))] U.heap ∧ va_K D cls_ [] U ∧ va_D (fun _ => True) [(h0, .inr (4, [.int 0, .int 0, .int 0, .int 0, .int 0, .int 0, .int 0, .int 0, .int 0, .int 0, .null, .int 0]))])) (va_Qv (fun _ : ClassId × Nat => True) (fun u t => va_P D cls_ (wM u.1 h0 u.2 0 0 0 0 0 (-1) 0 0 0 0 (fun _ => 0) 0) t.heap ∧ va_K D cls_ [(u.1, .boolean)] t ∧ va_D (va_A [(h0, .inr (4, [.int 0, .int 0, .int 0, .int 0, .int 0, .int 0, .int 0, .int 0, .int 0, .int 0, .null, .int 0]))] sz) (wM u.1 h0 u.2 0 0 0 0 0 (-1) 0 0 0 0 (fun _ => 0) 0)) (va_A [(h0, .inr (4, [.int 0, .int 0, .int 0, .int 0, .int 0, .int 0, .int 0, .int 0, .int 0, .int 0, .null, .int 0]))] sz)) 1 1024 (va_A [(h0, .inr (4, [.int 0, .int 0, .int 0, .int 0, .int 0, .int 0, .int 0, .int 0, .int 0, .int 0, .null, .int 0]))] sz) := by
  refine Met.ofW (cc := c_M_init) (maxL := 1) (ret := none) (by decide +kernel) rfl ?_
  intro p e s m args below meth c s₁ B hml hv
  obtain ⟨rfl, hsz, hP, hK, hD0⟩ := hv
  have hx := B.exec
  have hb := B.bytes
  have hr := B.returns
  have hts0 := atoms_spec (ws := wz y_M_init c_M_init 1 none) B.pre
  have hts : ∀ x ∈ lw_G, x.before _ s = true := fun x h => hts0 x (List.mem_cons_of_mem _ h)
  have hown : s.vm.findClass R_M = some m.cls := findClass_of_methodNamed B.named
  have hlocks := B.notSynchronized
  have hin : meth.name = "<init>" := (name_of_methodNamed B.named B.method).1
  subst hsz
  have hD := hD0.self (sz := s.heap.size)
  generalize hAe : va_A _ s.heap.size = A at hD ⊢
  have hA : ∀ q : Nat, s.heap.size ≤ q → A q := fun q h => by rw [← hAe]; exact Or.inr h
  have hS : va_S A s.heap s.heap [] := va_S.rf
  have hl := lv_entry [.ref h0] (n := 1) (Nat.le_of_ble_eq_true rfl)
  rw [lg_entry_eq]
  generalize (lg_sl [.ref h0] ++ List.replicate (1 - (lg_sl [.ref h0]).length) Slot.unset).toArray = ls at hl ⊢
  refine lv_aload_n hx hb d_M_init_0 rfl (lv_at hl 0 rfl) ?_
  refine W.objInit hx hb hown (hts _ io_M) (hts _ io_i) (hts _ io_c) rfl (by rw [hml]; exact hl.1) rfl d_M_init_1 (Nat.le_of_ble_eq_true rfl) (Nat.le_of_ble_eq_true rfl) ?_
  refine W.eq (g2 := F0 m 4 ls []) rfl ?_
  refine lv_aload_n hx hb d_M_init_4 rfl (lv_at hl 0 rfl) ?_
  refine lv_iconst (v := (-1)) hx hb d_M_init_5 (by decide) ?_
  refine va_put (D := D) (ci := 4) (v := .int (-1)) (ty := .int) (C := R_M) (T := T_M) (N := 12) hx hb hts u_M t_M t_M_ok n_M hown hK hP hD hS 0 rfl rfl 5 (by decide) (hts _ f_M_7) (fun _ h9 => h9) rfl (by decide +kernel) rfl rfl (Nat.le_of_ble_eq_true rfl) d_M_init_6 (fun H locs hP hD hS => ?_)
  have hP : va_P D cls_ [(h0, .inr (4, [.int 0, .int 0, .int 0, .int 0, .int 0, .int (-1), .int 0, .int 0, .int 0, .int 0, .null, .int 0]))] H := hP
  have hD : va_D A [(h0, .inr (4, [.int 0, .int 0, .int 0, .int 0, .int 0, .int (-1), .int 0, .int 0, .int 0, .int 0, .null, .int 0]))] := hD
  refine lv_aload_n hx hb d_M_init_9 rfl (lv_at hl 0 rfl) ?_
  refine lv_sipush (v := 1024) hx hb d_M_init_10 (by decide +kernel) ?_
  refine va_newa (atype := .boolean) (N' := 1024) (a0 := (1024, .inl (fun _ => 0))) (ty := .boolean) hx hb (hts _ ia_boolean) rfl hK hP hD hS hA (fun _ => rfl) (by decide +kernel) (by decide +kernel) (by decide) (Nat.le_of_ble_eq_true rfl) (Nat.le_of_ble_eq_true rfl) d_M_init_13 (fun r0 c0 H hK hP hD hS => ?_)
  have hP : va_P D cls_ [(h0, .inr (4, [.int 0, .int 0, .int 0, .int 0, .int 0, .int (-1), .int 0, .int 0, .int 0, .int 0, .null, .int 0])), (r0, .inl (c0, 1024, .inl (fun _ => 0)))] H := hP
  have hD : va_D A [(h0, .inr (4, [.int 0, .int 0, .int 0, .int 0, .int 0, .int (-1), .int 0, .int 0, .int 0, .int 0, .null, .int 0])), (r0, .inl (c0, 1024, .inl (fun _ => 0)))] := hD
  refine va_putF (D := D) (ci := 4) (v := .ref r0) (ty := .array .boolean) (C := R_M) (T := T_M) (N := 12) hx hb hts u_M t_M t_M_ok n_M hown hK hP hD hS 0 rfl rfl 10 (by decide) (hts _ f_M_13) (fun _ h9 => h9) rfl hin rfl (by decide +kernel) rfl rfl (Nat.le_of_ble_eq_true rfl) d_M_init_15 (fun H locs hP hD hS => ?_)
  have hP : va_P D cls_ [(h0, .inr (4, [.int 0, .int 0, .int 0, .int 0, .int 0, .int (-1), .int 0, .int 0, .int 0, .int 0, .ref r0, .int 0])), (r0, .inl (c0, 1024, .inl (fun _ => 0)))] H := hP
  have hD : va_D A [(h0, .inr (4, [.int 0, .int 0, .int 0, .int 0, .int 0, .int (-1), .int 0, .int 0, .int 0, .int 0, .ref r0, .int 0])), (r0, .inl (c0, 1024, .inl (fun _ => 0)))] := hD
  exact W.vret hx hb hr (fun t ht hW => ⟨⟨(c0, r0), rfl, trivial, by rw [ht]; exact hP, va_K.moved hW.alike hK, hD⟩, hS.F ht⟩) hS.2.2 d_M_init_18
set_option maxHeartbeats 4000000 in
set_option maxRecDepth 100000 in
theorem k_C_init (l : Launch) (D : va_G) (q sz : Nat) : Met l y_C_init (wz y_C_init c_C_init 1 none) { frames := 2, cells := 10, slots := 7827, locals := 60 } (va_Pc [.ref q] (fun U => U.heap.size = sz ∧ va_P D cls_ [(q, .inr (3, [.null, .null, .null, .null, .int 0, .int 0, .int 0, .int 0, .int 0, .int 0, .int 0]))] U.heap ∧ va_K D cls_ [] U ∧ va_D (fun _ => True) [(q, .inr (3, [.null, .null, .null, .null, .int 0, .int 0, .int 0, .int 0, .int 0, .int 0, .int 0]))])) (va_Qv (fun _ : ClassId × (Nat × Nat × Nat × Nat × Nat) × (Nat × Nat × Nat) × Nat × Nat => True) (fun u t => va_P D cls_ (wC u.1 q u.2.2.2.2 u.2.2.2.1 u.2.2.1.1 u.2.2.1.2.1 u.2.2.1.2.2 u.2.1.1 u.2.1.2.1 u.2.1.2.2.1 u.2.1.2.2.2.1 u.2.1.2.2.2.2 (fun _ => 0) 0 0 0 0 0 0 0 0 (fun _ => 0, fun _ => 0, 0, 0) (fun _ => 0, fun _ => 0, fun _ => 0, fun _ => 0, 0, 0, 0)) t.heap ∧ va_K D cls_ [(u.1, .int)] t ∧ va_D (va_A [(q, .inr (3, [.null, .null, .null, .null, .int 0, .int 0, .int 0, .int 0, .int 0, .int 0, .int 0]))] sz) (wC u.1 q u.2.2.2.2 u.2.2.2.1 u.2.2.1.1 u.2.2.1.2.1 u.2.2.1.2.2 u.2.1.1 u.2.1.2.1 u.2.1.2.2.1 u.2.1.2.2.2.1 u.2.1.2.2.2.2 (fun _ => 0) 0 0 0 0 0 0 0 0 (fun _ => 0, fun _ => 0, 0, 0) (fun _ => 0, fun _ => 0, fun _ => 0, fun _ => 0, 0, 0, 0))) (va_A [(q, .inr (3, [.null, .null, .null, .null, .int 0, .int 0, .int 0, .int 0, .int 0, .int 0, .int 0]))] sz)) 10 7827 (va_A [(q, .inr (3, [.null, .null, .null, .null, .int 0, .int 0, .int 0, .int 0, .int 0, .int 0, .int 0]))] sz) := by
  refine Met.ofW (cc := c_C_init) (maxL := 1) (ret := none) (by decide +kernel) rfl ?_
  intro p e s m args below meth c s₁ B hml hv
  obtain ⟨rfl, hsz, hP, hK, hD0⟩ := hv
  have hx := B.exec
  have hb := B.bytes
  have hr := B.returns
  have hts0 := atoms_spec (ws := wz y_C_init c_C_init 1 none) B.pre
  have hts : ∀ x ∈ lw_G, x.before _ s = true := fun x h => hts0 x (List.mem_cons_of_mem _ h)
  have hown : s.vm.findClass R_C = some m.cls := findClass_of_methodNamed B.named
  have hlocks := B.notSynchronized
  have hin : meth.name = "<init>" := (name_of_methodNamed B.named B.method).1
  subst hsz
  have hD := hD0.self (sz := s.heap.size)
  generalize hAe : va_A _ s.heap.size = A at hD ⊢
  have hA : ∀ q : Nat, s.heap.size ≤ q → A q := fun q h => by rw [← hAe]; exact Or.inr h
  have hS : va_S A s.heap s.heap [] := va_S.rf
  have hl := lv_entry [.ref q] (n := 1) (Nat.le_of_ble_eq_true rfl)
  rw [lg_entry_eq]
  generalize (lg_sl [.ref q] ++ List.replicate (1 - (lg_sl [.ref q]).length) Slot.unset).toArray = ls at hl ⊢
  refine lv_aload_n hx hb d_C_init_0 rfl (lv_at hl 0 rfl) ?_
  refine W.objInit hx hb hown (hts _ io_C) (hts _ io_i) (hts _ io_c) rfl (by rw [hml]; exact hl.1) rfl d_C_init_1 (Nat.le_of_ble_eq_true rfl) (Nat.le_of_ble_eq_true rfl) ?_
  refine W.eq (g2 := F0 m 4 ls []) rfl ?_
  refine lv_aload_n hx hb d_C_init_4 rfl (lv_at hl 0 rfl) ?_
  refine va_new (ci := 1) (fs := [.null, .null, .null, .null, .int 0, .int 0, .int 0]) (C := R_D) (T := T_D) (N := 7) hx hb hts u_D t_D t_D_ok hown (hts _ il_C_7) (hts _ ii_D) (hts _ in_D) hK hP hD hS hA rfl (by decide +kernel) (Nat.le_of_ble_eq_true rfl) (Nat.le_of_ble_eq_true rfl) d_C_init_5 (fun h H hP hD hS => ?_)
  have hP : va_P D cls_ [(q, .inr (3, [.null, .null, .null, .null, .int 0, .int 0, .int 0, .int 0, .int 0, .int 0, .int 0])), (h, .inr (1, [.null, .null, .null, .null, .int 0, .int 0, .int 0]))] H := hP
  have hD : va_D A [(q, .inr (3, [.null, .null, .null, .null, .int 0, .int 0, .int 0, .int 0, .int 0, .int 0, .int 0])), (h, .inr (1, [.null, .null, .null, .null, .int 0, .int 0, .int 0]))] := hD
  refine lv_dup hx hb d_C_init_8 rfl ?_
  have hPc := hP.sub (ws' := [(h, .inr (1, [.null, .null, .null, .null, .int 0, .int 0, .int 0]))]) [1] rfl
  have hDc := hD.sub (ws' := [(h, .inr (1, [.null, .null, .null, .null, .int 0, .int 0, .int 0]))]) [1] (by decide) rfl
  have hKc := hK.sub (tys' := []) [] rfl
  have hFc := va_free (wc := [(h, .inr (1, [.null, .null, .null, .null, .int 0, .int 0, .int 0]))]) hD hS hA [1] rfl
  refine va_callv (va_runI (As := []) (rest := [.ref h, .ref q]) ⟨hx, hb, hml, hown, hts⟩ (k_D_init l D h H.size) (cwI 0 hts (z_wz h_D_init) rfl rfl rfl (hts _ in_D) (hts _ l_C_9) (hts _ im_D) rfl (by decide +kernel) ⟨Nat.le_of_ble_eq_true rfl, Nat.le_of_ble_eq_true rfl⟩) ⟨fun a U g mk q => by obtain ⟨q0, q1, qP, qK, qD⟩ := q; exact ⟨q0, q1, qP, va_K.moved (u := U) (U := U.calling g mk a) (Vm.Alike.refl U.vm) qK, qD⟩, fun U hU hW => ⟨rfl, by rw [hU], by rw [hU]; exact hPc, va_K.moved hW.alike hKc, hDc.weaken (fun _ _ _ _ => trivial)⟩⟩ rfl rfl hl.1 rfl (lv_room (Nat.le_of_ble_eq_true rfl)) d_C_init_9 ⟨Nat.le_of_ble_eq_true rfl, Nat.le_of_ble_eq_true rfl⟩) hS (fun q _ h => hFc q h) hFc (fun u t H1 locs ht hvm hw hB hz1 hk1 hS => ?_)
  obtain ⟨hP1, hK1, hD1⟩ := hB
  rw [ht] at hP1
  have hK1 := va_K.moved hvm.symm hK1
  obtain ⟨cD, a1, a2, a3, a4⟩ := u
  obtain ⟨hP, hD⟩ := va_join (wr := [(q, .inr (3, [.null, .null, .null, .null, .int 0, .int 0, .int 0, .int 0, .int 0, .int 0, .int 0]))]) (w1 := (wD cD h a1 a2 a3 a4 (fun _ => 0, fun _ => 0, fun _ => 0, fun _ => 0, 0, 0, 0))) hP hD [1] [0] rfl rfl (by decide) (by decide) hk1 hFc hP1 hD1
  have hK := hK.app hK1
  generalize H1 = H at hP hS ⊢
  have hP : va_P D cls_ [(q, .inr (3, [.null, .null, .null, .null, .int 0, .int 0, .int 0, .int 0, .int 0, .int 0, .int 0])), (h, .inr (1, [.ref a1, .ref a2, .ref a3, .ref a4, .int 0, .int 0, .int 0])), (a1, .inl (cD, 1575, .inl (fun _ => 0))), (a2, .inl (cD, 1575, .inl (fun _ => 0))), (a3, .inl (cD, 1575, .inl (fun _ => 0))), (a4, .inl (cD, 3060, .inl (fun _ => 0)))] H := hP
  have hD : va_D A [(q, .inr (3, [.null, .null, .null, .null, .int 0, .int 0, .int 0, .int 0, .int 0, .int 0, .int 0])), (h, .inr (1, [.ref a1, .ref a2, .ref a3, .ref a4, .int 0, .int 0, .int 0])), (a1, .inl (cD, 1575, .inl (fun _ => 0))), (a2, .inl (cD, 1575, .inl (fun _ => 0))), (a3, .inl (cD, 1575, .inl (fun _ => 0))), (a4, .inl (cD, 3060, .inl (fun _ => 0)))] := hD
  refine va_putF (D := D) (ci := 3) (v := .ref h) (ty := .object R_D) (C := R_C) (T := T_C) (N := 11) hx hb hts u_C t_C t_C_ok n_C hown hK hP hD hS 0 rfl rfl 0 (by decide) (hts _ f_C_10) (fun _ h9 => h9) rfl hin rfl (by decide +kernel) rfl rfl (Nat.le_of_ble_eq_true rfl) d_C_init_12 (fun H locs hP hD hS => ?_)
  have hP : va_P D cls_ [(q, .inr (3, [.ref h, .null, .null, .null, .int 0, .int 0, .int 0, .int 0, .int 0, .int 0, .int 0])), (h, .inr (1, [.ref a1, .ref a2, .ref a3, .ref a4, .int 0, .int 0, .int 0])), (a1, .inl (cD, 1575, .inl (fun _ => 0))), (a2, .inl (cD, 1575, .inl (fun _ => 0))), (a3, .inl (cD, 1575, .inl (fun _ => 0))), (a4, .inl (cD, 3060, .inl (fun _ => 0)))] H := hP
  have hD : va_D A [(q, .inr (3, [.ref h, .null, .null, .null, .int 0, .int 0, .int 0, .int 0, .int 0, .int 0, .int 0])), (h, .inr (1, [.ref a1, .ref a2, .ref a3, .ref a4, .int 0, .int 0, .int 0])), (a1, .inl (cD, 1575, .inl (fun _ => 0))), (a2, .inl (cD, 1575, .inl (fun _ => 0))), (a3, .inl (cD, 1575, .inl (fun _ => 0))), (a4, .inl (cD, 3060, .inl (fun _ => 0)))] := hD
  refine lv_aload_n hx hb d_C_init_15 rfl (lv_at hl 0 rfl) ?_
  refine va_new (ci := 2) (fs := [.null, .null, .int 0, .int 0]) (C := R_S) (T := T_S) (N := 4) hx hb hts u_S t_S t_S_ok hown (hts _ il_C_16) (hts _ ii_S) (hts _ in_S) hK hP hD hS hA rfl (by decide +kernel) (Nat.le_of_ble_eq_true rfl) (Nat.le_of_ble_eq_true rfl) d_C_init_16 (fun b H hP hD hS => ?_)
  have hP : va_P D cls_ [(q, .inr (3, [.ref h, .null, .null, .null, .int 0, .int 0, .int 0, .int 0, .int 0, .int 0, .int 0])), (h, .inr (1, [.ref a1, .ref a2, .ref a3, .ref a4, .int 0, .int 0, .int 0])), (a1, .inl (cD, 1575, .inl (fun _ => 0))), (a2, .inl (cD, 1575, .inl (fun _ => 0))), (a3, .inl (cD, 1575, .inl (fun _ => 0))), (a4, .inl (cD, 3060, .inl (fun _ => 0))), (b, .inr (2, [.null, .null, .int 0, .int 0]))] H := hP
  have hD : va_D A [(q, .inr (3, [.ref h, .null, .null, .null, .int 0, .int 0, .int 0, .int 0, .int 0, .int 0, .int 0])), (h, .inr (1, [.ref a1, .ref a2, .ref a3, .ref a4, .int 0, .int 0, .int 0])), (a1, .inl (cD, 1575, .inl (fun _ => 0))), (a2, .inl (cD, 1575, .inl (fun _ => 0))), (a3, .inl (cD, 1575, .inl (fun _ => 0))), (a4, .inl (cD, 3060, .inl (fun _ => 0))), (b, .inr (2, [.null, .null, .int 0, .int 0]))] := hD
  refine lv_dup hx hb d_C_init_19 rfl ?_
  have hPc := hP.sub (ws' := [(b, .inr (2, [.null, .null, .int 0, .int 0]))]) [6] rfl
  have hDc := hD.sub (ws' := [(b, .inr (2, [.null, .null, .int 0, .int 0]))]) [6] (by decide) rfl
  have hKc := hK.sub (tys' := []) [] rfl
  have hFc := va_free (wc := [(b, .inr (2, [.null, .null, .int 0, .int 0]))]) hD hS hA [6] rfl
  refine va_callv (va_runI (As := []) (rest := [.ref b, .ref q]) ⟨hx, hb, hml, hown, hts⟩ (k_S_init l D b H.size) (cwI 0 hts (z_wz h_S_init) rfl rfl rfl (hts _ in_S) (hts _ l_C_18) (hts _ im_S) rfl (by decide +kernel) ⟨Nat.le_of_ble_eq_true rfl, Nat.le_of_ble_eq_true rfl⟩) ⟨fun a U g mk q => by obtain ⟨q0, q1, qP, qK, qD⟩ := q; exact ⟨q0, q1, qP, va_K.moved (u := U) (U := U.calling g mk a) (Vm.Alike.refl U.vm) qK, qD⟩, fun U hU hW => ⟨rfl, by rw [hU], by rw [hU]; exact hPc, va_K.moved hW.alike hKc, hDc.weaken (fun _ _ _ _ => trivial)⟩⟩ rfl rfl hl.1 rfl (lv_room (Nat.le_of_ble_eq_true rfl)) d_C_init_20 ⟨Nat.le_of_ble_eq_true rfl, Nat.le_of_ble_eq_true rfl⟩) hS (fun q _ h => hFc q h) hFc (fun u t H1 locs ht hvm hw hB hz1 hk1 hS => ?_)
  obtain ⟨hP1, hK1, hD1⟩ := hB
  rw [ht] at hP1
  have hK1 := va_K.moved hvm.symm hK1
  obtain ⟨cS, b1, b2⟩ := u
  obtain ⟨hP, hD⟩ := va_join (wr := [(q, .inr (3, [.ref h, .null, .null, .null, .int 0, .int 0, .int 0, .int 0, .int 0, .int 0, .int 0])), (h, .inr (1, [.ref a1, .ref a2, .ref a3, .ref a4, .int 0, .int 0, .int 0])), (a1, .inl (cD, 1575, .inl (fun _ => 0))), (a2, .inl (cD, 1575, .inl (fun _ => 0))), (a3, .inl (cD, 1575, .inl (fun _ => 0))), (a4, .inl (cD, 3060, .inl (fun _ => 0)))]) (w1 := (wS cS b b1 b2 (fun _ => 0, fun _ => 0, 0, 0))) hP hD [6] [0, 1, 2, 3, 4, 5] rfl rfl (by decide) (by decide) hk1 hFc hP1 hD1
  have hK := hK.app hK1
  generalize H1 = H at hP hS ⊢
  have hP : va_P D cls_ [(q, .inr (3, [.ref h, .null, .null, .null, .int 0, .int 0, .int 0, .int 0, .int 0, .int 0, .int 0])), (h, .inr (1, [.ref a1, .ref a2, .ref a3, .ref a4, .int 0, .int 0, .int 0])), (a1, .inl (cD, 1575, .inl (fun _ => 0))), (a2, .inl (cD, 1575, .inl (fun _ => 0))), (a3, .inl (cD, 1575, .inl (fun _ => 0))), (a4, .inl (cD, 3060, .inl (fun _ => 0))), (b, .inr (2, [.ref b1, .ref b2, .int 0, .int 0])), (b1, .inl (cS, 10, .inl (fun _ => 0))), (b2, .inl (cS, 10, .inl (fun _ => 0)))] H := hP
  have hD : va_D A [(q, .inr (3, [.ref h, .null, .null, .null, .int 0, .int 0, .int 0, .int 0, .int 0, .int 0, .int 0])), (h, .inr (1, [.ref a1, .ref a2, .ref a3, .ref a4, .int 0, .int 0, .int 0])), (a1, .inl (cD, 1575, .inl (fun _ => 0))), (a2, .inl (cD, 1575, .inl (fun _ => 0))), (a3, .inl (cD, 1575, .inl (fun _ => 0))), (a4, .inl (cD, 3060, .inl (fun _ => 0))), (b, .inr (2, [.ref b1, .ref b2, .int 0, .int 0])), (b1, .inl (cS, 10, .inl (fun _ => 0))), (b2, .inl (cS, 10, .inl (fun _ => 0)))] := hD
  refine va_putF (D := D) (ci := 3) (v := .ref b) (ty := .object R_S) (C := R_C) (T := T_C) (N := 11) hx hb hts u_C t_C t_C_ok n_C hown hK hP hD hS 0 rfl rfl 1 (by decide) (hts _ f_C_19) (fun _ h9 => h9) rfl hin rfl (by decide +kernel) rfl rfl (Nat.le_of_ble_eq_true rfl) d_C_init_23 (fun H locs hP hD hS => ?_)
  have hP : va_P D cls_ [(q, .inr (3, [.ref h, .ref b, .null, .null, .int 0, .int 0, .int 0, .int 0, .int 0, .int 0, .int 0])), (h, .inr (1, [.ref a1, .ref a2, .ref a3, .ref a4, .int 0, .int 0, .int 0])), (a1, .inl (cD, 1575, .inl (fun _ => 0))), (a2, .inl (cD, 1575, .inl (fun _ => 0))), (a3, .inl (cD, 1575, .inl (fun _ => 0))), (a4, .inl (cD, 3060, .inl (fun _ => 0))), (b, .inr (2, [.ref b1, .ref b2, .int 0, .int 0])), (b1, .inl (cS, 10, .inl (fun _ => 0))), (b2, .inl (cS, 10, .inl (fun _ => 0)))] H := hP
  have hD : va_D A [(q, .inr (3, [.ref h, .ref b, .null, .null, .int 0, .int 0, .int 0, .int 0, .int 0, .int 0, .int 0])), (h, .inr (1, [.ref a1, .ref a2, .ref a3, .ref a4, .int 0, .int 0, .int 0])), (a1, .inl (cD, 1575, .inl (fun _ => 0))), (a2, .inl (cD, 1575, .inl (fun _ => 0))), (a3, .inl (cD, 1575, .inl (fun _ => 0))), (a4, .inl (cD, 3060, .inl (fun _ => 0))), (b, .inr (2, [.ref b1, .ref b2, .int 0, .int 0])), (b1, .inl (cS, 10, .inl (fun _ => 0))), (b2, .inl (cS, 10, .inl (fun _ => 0)))] := hD
  refine lv_aload_n hx hb d_C_init_26 rfl (lv_at hl 0 rfl) ?_
  refine va_new (ci := 0) (fs := [.int 0]) (C := R_H) (T := T_H) (N := 1) hx hb hts u_H t_H t_H_ok hown (hts _ il_C_23) (hts _ ii_H) (hts _ in_H) hK hP hD hS hA rfl (by decide +kernel) (Nat.le_of_ble_eq_true rfl) (Nat.le_of_ble_eq_true rfl) d_C_init_27 (fun g H hP hD hS => ?_)
  have hP : va_P D cls_ [(q, .inr (3, [.ref h, .ref b, .null, .null, .int 0, .int 0, .int 0, .int 0, .int 0, .int 0, .int 0])), (h, .inr (1, [.ref a1, .ref a2, .ref a3, .ref a4, .int 0, .int 0, .int 0])), (a1, .inl (cD, 1575, .inl (fun _ => 0))), (a2, .inl (cD, 1575, .inl (fun _ => 0))), (a3, .inl (cD, 1575, .inl (fun _ => 0))), (a4, .inl (cD, 3060, .inl (fun _ => 0))), (b, .inr (2, [.ref b1, .ref b2, .int 0, .int 0])), (b1, .inl (cS, 10, .inl (fun _ => 0))), (b2, .inl (cS, 10, .inl (fun _ => 0))), (g, .inr (0, [.int 0]))] H := hP
  have hD : va_D A [(q, .inr (3, [.ref h, .ref b, .null, .null, .int 0, .int 0, .int 0, .int 0, .int 0, .int 0, .int 0])), (h, .inr (1, [.ref a1, .ref a2, .ref a3, .ref a4, .int 0, .int 0, .int 0])), (a1, .inl (cD, 1575, .inl (fun _ => 0))), (a2, .inl (cD, 1575, .inl (fun _ => 0))), (a3, .inl (cD, 1575, .inl (fun _ => 0))), (a4, .inl (cD, 3060, .inl (fun _ => 0))), (b, .inr (2, [.ref b1, .ref b2, .int 0, .int 0])), (b1, .inl (cS, 10, .inl (fun _ => 0))), (b2, .inl (cS, 10, .inl (fun _ => 0))), (g, .inr (0, [.int 0]))] := hD
  refine lv_dup hx hb d_C_init_30 rfl ?_
  have hPc := hP.sub (ws' := [(g, .inr (0, [.int 0]))]) [9] rfl
  have hDc := hD.sub (ws' := [(g, .inr (0, [.int 0]))]) [9] (by decide) rfl
  have hKc := hK.sub (tys' := []) [] rfl
  have hFc := va_free (wc := [(g, .inr (0, [.int 0]))]) hD hS hA [9] rfl
  refine va_callv (va_runI (As := []) (rest := [.ref g, .ref q]) ⟨hx, hb, hml, hown, hts⟩ (k_H_init l D g 0 H.size) (cwI 0 hts (z_wz h_H_init) rfl rfl rfl (hts _ in_H) (hts _ l_C_25) (hts _ im_H) rfl (by decide +kernel) ⟨Nat.le_of_ble_eq_true rfl, Nat.le_of_ble_eq_true rfl⟩) ⟨fun a U g mk q => by obtain ⟨q0, q1, qP, qK, qD⟩ := q; exact ⟨q0, q1, qP, va_K.moved (u := U) (U := U.calling g mk a) (Vm.Alike.refl U.vm) qK, qD⟩, fun U hU hW => ⟨rfl, by rw [hU], by rw [hU]; exact hPc, va_K.moved hW.alike hKc, hDc.weaken (fun _ _ _ _ => trivial)⟩⟩ rfl rfl hl.1 rfl (lv_room (Nat.le_of_ble_eq_true rfl)) d_C_init_31 ⟨Nat.le_of_ble_eq_true rfl, Nat.le_of_ble_eq_true rfl⟩) hS (fun q _ h => hFc q h) hFc (fun u t H1 locs ht hvm hw hB hz1 hk1 hS => ?_)
  obtain ⟨hP1, hK1, hD1⟩ := hB
  rw [ht] at hP1
  have hK1 := va_K.moved hvm.symm hK1
  obtain ⟨hP, hD⟩ := va_join (wr := [(q, .inr (3, [.ref h, .ref b, .null, .null, .int 0, .int 0, .int 0, .int 0, .int 0, .int 0, .int 0])), (h, .inr (1, [.ref a1, .ref a2, .ref a3, .ref a4, .int 0, .int 0, .int 0])), (a1, .inl (cD, 1575, .inl (fun _ => 0))), (a2, .inl (cD, 1575, .inl (fun _ => 0))), (a3, .inl (cD, 1575, .inl (fun _ => 0))), (a4, .inl (cD, 3060, .inl (fun _ => 0))), (b, .inr (2, [.ref b1, .ref b2, .int 0, .int 0])), (b1, .inl (cS, 10, .inl (fun _ => 0))), (b2, .inl (cS, 10, .inl (fun _ => 0)))]) (w1 := [(g, .inr (0, [.int 0]))]) hP hD [9] [0, 1, 2, 3, 4, 5, 6, 7, 8] rfl rfl (by decide) (by decide) hk1 hFc hP1 hD1
  have hK := hK.app hK1
  generalize H1 = H at hP hS ⊢
  have hP : va_P D cls_ [(q, .inr (3, [.ref h, .ref b, .null, .null, .int 0, .int 0, .int 0, .int 0, .int 0, .int 0, .int 0])), (h, .inr (1, [.ref a1, .ref a2, .ref a3, .ref a4, .int 0, .int 0, .int 0])), (a1, .inl (cD, 1575, .inl (fun _ => 0))), (a2, .inl (cD, 1575, .inl (fun _ => 0))), (a3, .inl (cD, 1575, .inl (fun _ => 0))), (a4, .inl (cD, 3060, .inl (fun _ => 0))), (b, .inr (2, [.ref b1, .ref b2, .int 0, .int 0])), (b1, .inl (cS, 10, .inl (fun _ => 0))), (b2, .inl (cS, 10, .inl (fun _ => 0))), (g, .inr (0, [.int 0]))] H := hP
  have hD : va_D A [(q, .inr (3, [.ref h, .ref b, .null, .null, .int 0, .int 0, .int 0, .int 0, .int 0, .int 0, .int 0])), (h, .inr (1, [.ref a1, .ref a2, .ref a3, .ref a4, .int 0, .int 0, .int 0])), (a1, .inl (cD, 1575, .inl (fun _ => 0))), (a2, .inl (cD, 1575, .inl (fun _ => 0))), (a3, .inl (cD, 1575, .inl (fun _ => 0))), (a4, .inl (cD, 3060, .inl (fun _ => 0))), (b, .inr (2, [.ref b1, .ref b2, .int 0, .int 0])), (b1, .inl (cS, 10, .inl (fun _ => 0))), (b2, .inl (cS, 10, .inl (fun _ => 0))), (g, .inr (0, [.int 0]))] := hD
  refine va_putF (D := D) (ci := 3) (v := .ref g) (ty := .object R_H) (C := R_C) (T := T_C) (N := 11) hx hb hts u_C t_C t_C_ok n_C hown hK hP hD hS 0 rfl rfl 2 (by decide) (hts _ f_C_26) (fun _ h9 => h9) rfl hin rfl (by decide +kernel) rfl rfl (Nat.le_of_ble_eq_true rfl) d_C_init_34 (fun H locs hP hD hS => ?_)
  have hP : va_P D cls_ [(q, .inr (3, [.ref h, .ref b, .ref g, .null, .int 0, .int 0, .int 0, .int 0, .int 0, .int 0, .int 0])), (h, .inr (1, [.ref a1, .ref a2, .ref a3, .ref a4, .int 0, .int 0, .int 0])), (a1, .inl (cD, 1575, .inl (fun _ => 0))), (a2, .inl (cD, 1575, .inl (fun _ => 0))), (a3, .inl (cD, 1575, .inl (fun _ => 0))), (a4, .inl (cD, 3060, .inl (fun _ => 0))), (b, .inr (2, [.ref b1, .ref b2, .int 0, .int 0])), (b1, .inl (cS, 10, .inl (fun _ => 0))), (b2, .inl (cS, 10, .inl (fun _ => 0))), (g, .inr (0, [.int 0]))] H := hP
  have hD : va_D A [(q, .inr (3, [.ref h, .ref b, .ref g, .null, .int 0, .int 0, .int 0, .int 0, .int 0, .int 0, .int 0])), (h, .inr (1, [.ref a1, .ref a2, .ref a3, .ref a4, .int 0, .int 0, .int 0])), (a1, .inl (cD, 1575, .inl (fun _ => 0))), (a2, .inl (cD, 1575, .inl (fun _ => 0))), (a3, .inl (cD, 1575, .inl (fun _ => 0))), (a4, .inl (cD, 3060, .inl (fun _ => 0))), (b, .inr (2, [.ref b1, .ref b2, .int 0, .int 0])), (b1, .inl (cS, 10, .inl (fun _ => 0))), (b2, .inl (cS, 10, .inl (fun _ => 0))), (g, .inr (0, [.int 0]))] := hD
  refine lv_aload_n hx hb d_C_init_37 rfl (lv_at hl 0 rfl) ?_
  refine lv_bipush (v := 10) hx hb d_C_init_38 (by decide +kernel) ?_
  refine va_newa (atype := .int) (N' := 10) (a0 := (10, .inl (fun _ => 0))) (ty := .int) hx hb (hts _ ia_int) rfl hK hP hD hS hA (fun _ => rfl) (by decide +kernel) (by decide +kernel) (by decide) (Nat.le_of_ble_eq_true rfl) (Nat.le_of_ble_eq_true rfl) d_C_init_40 (fun qa cA H hK hP hD hS => ?_)
  have hP : va_P D cls_ [(q, .inr (3, [.ref h, .ref b, .ref g, .null, .int 0, .int 0, .int 0, .int 0, .int 0, .int 0, .int 0])), (h, .inr (1, [.ref a1, .ref a2, .ref a3, .ref a4, .int 0, .int 0, .int 0])), (a1, .inl (cD, 1575, .inl (fun _ => 0))), (a2, .inl (cD, 1575, .inl (fun _ => 0))), (a3, .inl (cD, 1575, .inl (fun _ => 0))), (a4, .inl (cD, 3060, .inl (fun _ => 0))), (b, .inr (2, [.ref b1, .ref b2, .int 0, .int 0])), (b1, .inl (cS, 10, .inl (fun _ => 0))), (b2, .inl (cS, 10, .inl (fun _ => 0))), (g, .inr (0, [.int 0])), (qa, .inl (cA, 10, .inl (fun _ => 0)))] H := hP
  have hD : va_D A [(q, .inr (3, [.ref h, .ref b, .ref g, .null, .int 0, .int 0, .int 0, .int 0, .int 0, .int 0, .int 0])), (h, .inr (1, [.ref a1, .ref a2, .ref a3, .ref a4, .int 0, .int 0, .int 0])), (a1, .inl (cD, 1575, .inl (fun _ => 0))), (a2, .inl (cD, 1575, .inl (fun _ => 0))), (a3, .inl (cD, 1575, .inl (fun _ => 0))), (a4, .inl (cD, 3060, .inl (fun _ => 0))), (b, .inr (2, [.ref b1, .ref b2, .int 0, .int 0])), (b1, .inl (cS, 10, .inl (fun _ => 0))), (b2, .inl (cS, 10, .inl (fun _ => 0))), (g, .inr (0, [.int 0])), (qa, .inl (cA, 10, .inl (fun _ => 0)))] := hD
  refine va_putF (D := D) (ci := 3) (v := .ref qa) (ty := .array .int) (C := R_C) (T := T_C) (N := 11) hx hb hts u_C t_C t_C_ok n_C hown hK hP hD hS 0 rfl rfl 3 (by decide) (hts _ f_C_30) (fun _ h9 => h9) rfl hin rfl (by decide +kernel) rfl rfl (Nat.le_of_ble_eq_true rfl) d_C_init_42 (fun H locs hP hD hS => ?_)
  have hP : va_P D cls_ [(q, .inr (3, [.ref h, .ref b, .ref g, .ref qa, .int 0, .int 0, .int 0, .int 0, .int 0, .int 0, .int 0])), (h, .inr (1, [.ref a1, .ref a2, .ref a3, .ref a4, .int 0, .int 0, .int 0])), (a1, .inl (cD, 1575, .inl (fun _ => 0))), (a2, .inl (cD, 1575, .inl (fun _ => 0))), (a3, .inl (cD, 1575, .inl (fun _ => 0))), (a4, .inl (cD, 3060, .inl (fun _ => 0))), (b, .inr (2, [.ref b1, .ref b2, .int 0, .int 0])), (b1, .inl (cS, 10, .inl (fun _ => 0))), (b2, .inl (cS, 10, .inl (fun _ => 0))), (g, .inr (0, [.int 0])), (qa, .inl (cA, 10, .inl (fun _ => 0)))] H := hP
  have hD : va_D A [(q, .inr (3, [.ref h, .ref b, .ref g, .ref qa, .int 0, .int 0, .int 0, .int 0, .int 0, .int 0, .int 0])), (h, .inr (1, [.ref a1, .ref a2, .ref a3, .ref a4, .int 0, .int 0, .int 0])), (a1, .inl (cD, 1575, .inl (fun _ => 0))), (a2, .inl (cD, 1575, .inl (fun _ => 0))), (a3, .inl (cD, 1575, .inl (fun _ => 0))), (a4, .inl (cD, 3060, .inl (fun _ => 0))), (b, .inr (2, [.ref b1, .ref b2, .int 0, .int 0])), (b1, .inl (cS, 10, .inl (fun _ => 0))), (b2, .inl (cS, 10, .inl (fun _ => 0))), (g, .inr (0, [.int 0])), (qa, .inl (cA, 10, .inl (fun _ => 0)))] := hD
  obtain rfl : cS = cD := RA_eq (hK.2 0 _ rfl).2 (hK.2 1 _ rfl).2
  obtain rfl : cA = cS := RA_eq (hK.2 0 _ rfl).2 (hK.2 2 _ rfl).2
  have hK := hK.sub (tys' := [(cA, .int)]) [0] rfl
  have hP := hP.sub (ws' := (wC cA q qa g b b1 b2 h a1 a2 a3 a4 (fun _ => 0) 0 0 0 0 0 0 0 0 (fun _ => 0, fun _ => 0, 0, 0) (fun _ => 0, fun _ => 0, fun _ => 0, fun _ => 0, 0, 0, 0))) [0, 10, 9, 6, 7, 8, 1, 2, 3, 4, 5] rfl
  have hD := hD.sub (ws' := (wC cA q qa g b b1 b2 h a1 a2 a3 a4 (fun _ => 0) 0 0 0 0 0 0 0 0 (fun _ => 0, fun _ => 0, 0, 0) (fun _ => 0, fun _ => 0, fun _ => 0, fun _ => 0, 0, 0, 0))) [0, 10, 9, 6, 7, 8, 1, 2, 3, 4, 5] (by decide) rfl
  exact W.vret hx hb hr (fun t ht hW => ⟨⟨(cA, (h, a1, a2, a3, a4), (b, b1, b2), g, qa), rfl, trivial, by rw [ht]; exact hP, va_K.moved hW.alike hK, hD⟩, hS.F ht⟩) hS.2.2 d_C_init_45
