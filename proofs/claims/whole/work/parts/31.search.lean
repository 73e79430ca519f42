/-! Part 31: Search, its small methods, by program (wip/whole/gen_search.py) -/
abbrev wS (cI : ClassId) (b b1 b2 : Nat) (s : SS) : va_W := [(b, .inr (2, [.ref b1, .ref b2, .int (nI (sn s)), .int (sh s)])), (b1, .inl (cI, 10, .inl (sT s))), (b2, .inl (cI, 10, .inl (sR s)))]
abbrev wX (cI : ClassId) (b b1 b2 h a1 a2 a3 a4 : Nat) (s : SS) (d : DS) : va_W := [(b, .inr (2, [.ref b1, .ref b2, .int (nI (sn s)), .int (sh s)])), (b1, .inl (cI, 10, .inl (sT s))), (b2, .inl (cI, 10, .inl (sR s))), (h, .inr (1, [.ref a1, .ref a2, .ref a3, .ref a4, .int (nI (dz d)), .int (nI (dl d)), .int (nI (dO d))])), (a1, .inl (cI, 1575, .inl (dC d))), (a2, .inl (cI, 1575, .inl (dF d))), (a3, .inl (cI, 1575, .inl (dT d))), (a4, .inl (cI, 3060, .inl (dK d)))]
theorem sr_jump_s (T R : Nat → Int32) (x : Int32) (k t : Nat) : sr_jump T R x (k + 1) t = if x &&& cc_neg (T k) = 0 then (if R k = -1 then sr_jump T R x k k else sr_jump T R x k t) else t := rfl
theorem im1 (x : Int32) : x + Int32.ofInt (-1) = x - 1 := by
  rw [Int32.sub_eq_add_neg]
  rfl
theorem neg0 : nI 0 - 1 < 0 := by decide +kernel
theorem neg0g {g : Nat} (h : g < 2 ^ 31) : nI 0 - 1 < nI g := by
  rw [Int32.lt_iff_toInt_lt, nI_toInt h, show (nI 0 - 1).toInt = -1 from by decide +kernel]
  omega
theorem max0 {k : Nat} (hk : k < 2 ^ 31) : (if nI k - 1 < 0 then 0 else nI k - 1) = nI (k - 1) := by
  cases k with
  | zero => decide +kernel
  | succ k =>
    rw [nI_pred, if_neg (nI_pos (by omega))]
    rfl
theorem min_eq_ {a g : Nat} (ha : a < 2 ^ 31) (hg : g < 2 ^ 31) : (if nI g < nI a then nI g else nI a) = nI (if a ≤ g then a else g) := by
  by_cases h : a ≤ g
  · rw [if_pos h, if_neg (nI_nlt h hg)]
  · rw [if_neg h, if_pos (nI_lt (by omega) ha)]
set_option maxHeartbeats 4000000 in
set_option maxRecDepth 100000 in
theorem k_S_begin (l : Launch) (D : va_G) (cI : ClassId) (b b1 b2 : Nat) (s : SS) (hs : sn s ≤ 10) : KTv l y_S_begin c_S_begin 1 { frames := 0, cells := 0, slots := 0, locals := 0 } D [(cI, .int)] [.ref b] (wS cI b b1 b2 s) (wS cI b b1 b2 (sT s, sR s, 0, 0)) := by
  refine KTv_of (own := R_S) (by decide +kernel) rfl (Nat.le_of_ble_eq_true rfl) ?_
  intro p e st m below meth c A ls Q hx hb hml hts hown hK hP hD hS hA hl fin
  refine lv_aload_n hx hb d_S_begin_0 rfl (lv_at hl 0 rfl) ?_
  refine lv_iconst (v := 0) hx hb d_S_begin_1 (by decide) ?_
  refine va_put (D := D) (ci := 2) (v := .int 0) (ty := .int) (C := R_S) (T := T_S) (N := 4) hx hb hts u_S t_S t_S_ok n_S hown hK hP hD hS 0 rfl rfl 2 (by decide) (hts _ f_S_18) (fun _ h9 => h9) rfl (by decide +kernel) rfl rfl (Nat.le_of_ble_eq_true rfl) d_S_begin_2 (fun H locs hP hD hS => ?_)
  have hP : va_P D cls_ [(b, .inr (2, [.ref b1, .ref b2, .int 0, .int (sh s)])), (b1, .inl (cI, 10, .inl (sT s))), (b2, .inl (cI, 10, .inl (sR s)))] H := hP
  have hD : va_D A [(b, .inr (2, [.ref b1, .ref b2, .int 0, .int (sh s)])), (b1, .inl (cI, 10, .inl (sT s))), (b2, .inl (cI, 10, .inl (sR s)))] := hD
  refine lv_aload_n hx hb d_S_begin_5 rfl (lv_at hl 0 rfl) ?_
  refine lv_iconst (v := 0) hx hb d_S_begin_6 (by decide) ?_
  refine va_put (D := D) (ci := 2) (v := .int 0) (ty := .int) (C := R_S) (T := T_S) (N := 4) hx hb hts u_S t_S t_S_ok n_S hown hK hP hD hS 0 rfl rfl 3 (by decide) (hts _ f_S_22) (fun _ h9 => h9) rfl (by decide +kernel) rfl rfl (Nat.le_of_ble_eq_true rfl) d_S_begin_7 (fun H locs hP hD hS => ?_)
  have hP : va_P D cls_ [(b, .inr (2, [.ref b1, .ref b2, .int 0, .int 0])), (b1, .inl (cI, 10, .inl (sT s))), (b2, .inl (cI, 10, .inl (sR s)))] H := hP
  have hD : va_D A [(b, .inr (2, [.ref b1, .ref b2, .int 0, .int 0])), (b1, .inl (cI, 10, .inl (sT s))), (b2, .inl (cI, 10, .inl (sR s)))] := hD
  exact fin _ _ _ _ hP hD hS d_S_begin_10
set_option maxHeartbeats 4000000 in
set_option maxRecDepth 100000 in
theorem k_S_held (l : Launch) (D : va_G) (cI : ClassId) (b b1 b2 : Nat) (s : SS) (hs : sn s ≤ 10) : KTi l y_S_held c_S_held 1 .int { frames := 0, cells := 0, slots := 0, locals := 0 } D [(cI, .int)] [.ref b] (wS cI b b1 b2 s) (sh s) (wS cI b b1 b2 s) := by
  refine KTi_of (own := R_S) (by decide +kernel) rfl (Nat.le_of_ble_eq_true rfl) (vp_nar_int _) ?_
  intro p e st m below meth c A ls Q hx hb hml hts hown hK hP hD hS hA hl fin
  refine lv_aload_n hx hb d_S_held_0 rfl (lv_at hl 0 rfl) ?_
  refine va_get (D := D) (ci := 2) (v := .int (sh s)) (C := R_S) (T := T_S) (N := 4) hx hb hts u_S hown hK hP 0 rfl rfl 3 (by decide) (hts _ f_S_22) (fun _ h9 => h9) rfl d_S_held_1 ?_
  exact fin _ _ _ _ _ hP hD hS (rfl) d_S_held_4
set_option maxHeartbeats 4000000 in
set_option maxRecDepth 100000 in
theorem k_S_hold (l : Launch) (D : va_G) (cI : ClassId) (b b1 b2 : Nat) (s : SS) (hs : sn s ≤ 10) (x : Int32) (r : Int32) : KTv l y_S_hold c_S_hold 3 { frames := 0, cells := 0, slots := 0, locals := 0 } D [(cI, .int)] [.ref b, .int x, .int r] (wS cI b b1 b2 s) (wS cI b b1 b2 (sr_hold s x r)) := by
  refine KTv_of (own := R_S) (by decide +kernel) rfl (Nat.le_of_ble_eq_true rfl) ?_
  intro p e st m below meth c A ls Q hx hb hml hts hown hK hP hD hS hA hl fin
  refine lv_aload_n hx hb d_S_hold_0 rfl (lv_at hl 0 rfl) ?_
  refine va_get (D := D) (ci := 2) (v := .int (nI (sn s))) (C := R_S) (T := T_S) (N := 4) hx hb hts u_S hown hK hP 0 rfl rfl 2 (by decide) (hts _ f_S_18) (fun _ h9 => h9) rfl d_S_hold_1 ?_
  refine lv_aload_n hx hb d_S_hold_4 rfl (lv_at hl 0 rfl) ?_
  refine va_get (D := D) (ci := 2) (v := .ref b1) (C := R_S) (T := T_S) (N := 4) hx hb hts u_S hown hK hP 0 rfl rfl 0 (by decide) (hts _ f_S_9) (fun _ h9 => h9) rfl d_S_hold_5 ?_
  refine va_alen (v := 10) hx hb hK hP 1 0 rfl rfl rfl d_S_hold_8 ?_
  refine lv_icmp_ge (tgt := 52) hx hb d_S_hold_9 rfl (fun hc9 => ?_) (fun hc9 => ?_)
  · have e9 : sr_hold s x r = s := if_neg (fun h => Int32.not_le.mpr (nI_lt (b := 10) h (by decide)) hc9)
    rw [e9] at fin
    exact fin _ _ _ _ hP hD hS d_S_hold_52
  · have hlt : sn s < 10 := (nI_ltI (by omega) (by decide)).1 (Int32.not_le.mp hc9)
    refine lv_aload_n hx hb d_S_hold_12 rfl (lv_at hl 0 rfl) ?_
    refine va_get (D := D) (ci := 2) (v := .ref b1) (C := R_S) (T := T_S) (N := 4) hx hb hts u_S hown hK hP 0 rfl rfl 0 (by decide) (hts _ f_S_9) (fun _ h9 => h9) rfl d_S_hold_13 ?_
    refine lv_aload_n hx hb d_S_hold_16 rfl (lv_at hl 0 rfl) ?_
    refine va_get (D := D) (ci := 2) (v := .int (nI (sn s))) (C := R_S) (T := T_S) (N := 4) hx hb hts u_S hown hK hP 0 rfl rfl 2 (by decide) (hts _ f_S_18) (fun _ h9 => h9) rfl d_S_hold_17 ?_
    refine lv_iload_n hx hb d_S_hold_20 rfl (lv_at hl 1 rfl) ?_
    refine va_iast (D := D) (i := (nI (sn s))) (x := x) hx hb hK hP hD hS 1 0 rfl rfl (vp_in_nI hlt (by decide)) d_S_hold_21 (fun H locs hP hD hS => ?_)
    rw [show ((nI (sn s)) : Int32).toNatClampNeg = (sn s) from nI_clamp (by omega)] at hP hD
    have hP : va_P D cls_ [(b, .inr (2, [.ref b1, .ref b2, .int (nI (sn s)), .int (sh s)])), (b1, .inl (cI, 10, .inl (upd (sT s) ((sn s)) (x)))), (b2, .inl (cI, 10, .inl (sR s)))] H := hP
    have hD : va_D A [(b, .inr (2, [.ref b1, .ref b2, .int (nI (sn s)), .int (sh s)])), (b1, .inl (cI, 10, .inl (upd (sT s) ((sn s)) (x)))), (b2, .inl (cI, 10, .inl (sR s)))] := hD
    refine lv_aload_n hx hb d_S_hold_22 rfl (lv_at hl 0 rfl) ?_
    refine va_get (D := D) (ci := 2) (v := .ref b2) (C := R_S) (T := T_S) (N := 4) hx hb hts u_S hown hK hP 0 rfl rfl 1 (by decide) (hts _ f_S_15) (fun _ h9 => h9) rfl d_S_hold_23 ?_
    refine lv_aload_n hx hb d_S_hold_26 rfl (lv_at hl 0 rfl) ?_
    refine va_get (D := D) (ci := 2) (v := .int (nI (sn s))) (C := R_S) (T := T_S) (N := 4) hx hb hts u_S hown hK hP 0 rfl rfl 2 (by decide) (hts _ f_S_18) (fun _ h9 => h9) rfl d_S_hold_27 ?_
    refine lv_iload_n hx hb d_S_hold_30 rfl (lv_at hl 2 rfl) ?_
    refine va_iast (D := D) (i := (nI (sn s))) (x := r) hx hb hK hP hD hS 2 0 rfl rfl (vp_in_nI hlt (by decide)) d_S_hold_31 (fun H locs hP hD hS => ?_)
    rw [show ((nI (sn s)) : Int32).toNatClampNeg = (sn s) from nI_clamp (by omega)] at hP hD
    have hP : va_P D cls_ [(b, .inr (2, [.ref b1, .ref b2, .int (nI (sn s)), .int (sh s)])), (b1, .inl (cI, 10, .inl (upd (sT s) ((sn s)) (x)))), (b2, .inl (cI, 10, .inl (upd (sR s) ((sn s)) (r))))] H := hP
    have hD : va_D A [(b, .inr (2, [.ref b1, .ref b2, .int (nI (sn s)), .int (sh s)])), (b1, .inl (cI, 10, .inl (upd (sT s) ((sn s)) (x)))), (b2, .inl (cI, 10, .inl (upd (sR s) ((sn s)) (r))))] := hD
    refine lv_aload_n hx hb d_S_hold_32 rfl (lv_at hl 0 rfl) ?_
    refine lv_dup hx hb d_S_hold_33 rfl ?_
    refine va_get (D := D) (ci := 2) (v := .int (nI (sn s))) (C := R_S) (T := T_S) (N := 4) hx hb hts u_S hown hK hP 0 rfl rfl 2 (by decide) (hts _ f_S_18) (fun _ h9 => h9) rfl d_S_hold_34 ?_
    refine lv_iconst (v := 1) hx hb d_S_hold_37 (by decide) ?_
    refine lv_iadd hx hb d_S_hold_38 ?_
    refine va_put (D := D) (ci := 2) (v := .int ((nI (sn s)) + 1)) (ty := .int) (C := R_S) (T := T_S) (N := 4) hx hb hts u_S t_S t_S_ok n_S hown hK hP hD hS 0 rfl rfl 2 (by decide) (hts _ f_S_18) (fun _ h9 => h9) rfl (by decide +kernel) rfl rfl (Nat.le_of_ble_eq_true rfl) d_S_hold_39 (fun H locs hP hD hS => ?_)
    have hP : va_P D cls_ [(b, .inr (2, [.ref b1, .ref b2, .int ((nI (sn s)) + 1), .int (sh s)])), (b1, .inl (cI, 10, .inl (upd (sT s) ((sn s)) (x)))), (b2, .inl (cI, 10, .inl (upd (sR s) ((sn s)) (r))))] H := hP
    have hD : va_D A [(b, .inr (2, [.ref b1, .ref b2, .int ((nI (sn s)) + 1), .int (sh s)])), (b1, .inl (cI, 10, .inl (upd (sT s) ((sn s)) (x)))), (b2, .inl (cI, 10, .inl (upd (sR s) ((sn s)) (r))))] := hD
    refine lv_aload_n hx hb d_S_hold_42 rfl (lv_at hl 0 rfl) ?_
    refine lv_dup hx hb d_S_hold_43 rfl ?_
    refine va_get (D := D) (ci := 2) (v := .int (sh s)) (C := R_S) (T := T_S) (N := 4) hx hb hts u_S hown hK hP 0 rfl rfl 3 (by decide) (hts _ f_S_22) (fun _ h9 => h9) rfl d_S_hold_44 ?_
    refine lv_iload_n hx hb d_S_hold_47 rfl (lv_at hl 1 rfl) ?_
    refine lv_ior hx hb d_S_hold_48 ?_
    refine va_put (D := D) (ci := 2) (v := .int ((sh s) ||| x)) (ty := .int) (C := R_S) (T := T_S) (N := 4) hx hb hts u_S t_S t_S_ok n_S hown hK hP hD hS 0 rfl rfl 3 (by decide) (hts _ f_S_22) (fun _ h9 => h9) rfl (by decide +kernel) rfl rfl (Nat.le_of_ble_eq_true rfl) d_S_hold_49 (fun H locs hP hD hS => ?_)
    have hP : va_P D cls_ [(b, .inr (2, [.ref b1, .ref b2, .int ((nI (sn s)) + 1), .int ((sh s) ||| x)])), (b1, .inl (cI, 10, .inl (upd (sT s) ((sn s)) (x)))), (b2, .inl (cI, 10, .inl (upd (sR s) ((sn s)) (r))))] H := hP
    have hD : va_D A [(b, .inr (2, [.ref b1, .ref b2, .int ((nI (sn s)) + 1), .int ((sh s) ||| x)])), (b1, .inl (cI, 10, .inl (upd (sT s) ((sn s)) (x)))), (b2, .inl (cI, 10, .inl (upd (sR s) ((sn s)) (r))))] := hD
    have e9 : sr_hold s x r = (upd (sT s) (sn s) x, upd (sR s) (sn s) r, sn s + 1, sh s ||| x) := if_pos hlt
    rw [e9] at fin
    rw [nI_1] at hP hD
    exact fin _ _ _ _ hP hD hS d_S_hold_52
set_option maxHeartbeats 4000000 in
set_option maxRecDepth 100000 in
theorem k_S_decide (l : Launch) (D : va_G) (cI : ClassId) (b b1 b2 : Nat) (s : SS) (hs : sn s ≤ 10) (x : Int32) (n : Nat) (hx9 : x = nI n) : KTv l y_S_decide c_S_decide 3 { frames := 1, cells := 0, slots := 0, locals := 22 } D [(cI, .int)] [.ref b, .int x] (wS cI b b1 b2 s) (wS cI b b1 b2 (sr_decide n s)) := by
  refine KTv_of (own := R_S) (by decide +kernel) rfl (Nat.le_of_ble_eq_true rfl) ?_
  intro p e st m below meth c A ls Q hx hb hml hts hown hK hP hD hS hA hl fin
  refine lv_iload_n hx hb d_S_decide_0 rfl (lv_at hl 1 rfl) ?_
  refine CTi_S (isC := []) (isR := [0, 1, 2]) (wr := [(b, .inr (2, [.ref b1, .ref b2, .int (nI (sn s)), .int (sh s)])), (b1, .inl (cI, 10, .inl (sT s))), (b2, .inl (cI, 10, .inl (sR s)))]) (wi := []) (wo := []) (As := [.int x]) (rest := []) ⟨hx, hb, hml, hown, hts⟩ [] (k_L_positivesUpTo l D (x)) (va_cwS 1 hts v_S_64 rfl rfl rfl (by decide +kernel) ⟨Nat.le_of_ble_eq_true rfl, Nat.le_of_ble_eq_true rfl⟩) ⟨rfl, rfl, rfl, rfl, by decide⟩ rfl hK hP hD hS hA rfl hl.1 (Nat.le_of_ble_eq_true rfl) d_S_decide_1 ⟨Nat.le_of_ble_eq_true rfl, Nat.le_of_ble_eq_true rfl⟩ (fun H locs hP hD hS => ?_)
  have hP : va_P D cls_ [(b, .inr (2, [.ref b1, .ref b2, .int (nI (sn s)), .int (sh s)])), (b1, .inl (cI, 10, .inl (sT s))), (b2, .inl (cI, 10, .inl (sR s)))] H := hP
  have hD : va_D A [(b, .inr (2, [.ref b1, .ref b2, .int (nI (sn s)), .int (sh s)])), (b1, .inl (cI, 10, .inl (sT s))), (b2, .inl (cI, 10, .inl (sR s)))] := hD
  refine lv_aload_n hx hb d_S_decide_4 rfl (lv_at hl 0 rfl) ?_
  refine va_get (D := D) (ci := 2) (v := .int (sh s)) (C := R_S) (T := T_S) (N := 4) hx hb hts u_S hown hK hP 0 rfl rfl 3 (by decide) (hts _ f_S_22) (fun _ h9 => h9) rfl d_S_decide_5 ?_
  refine lv_aload_n hx hb d_S_decide_8 rfl (lv_at hl 0 rfl) ?_
  refine va_get (D := D) (ci := 2) (v := .int (sh s)) (C := R_S) (T := T_S) (N := 4) hx hb hts u_S hown hK hP 0 rfl rfl 3 (by decide) (hts _ f_S_22) (fun _ h9 => h9) rfl d_S_decide_9 ?_
  refine CTi_S (isC := []) (isR := [0, 1, 2]) (wr := [(b, .inr (2, [.ref b1, .ref b2, .int (nI (sn s)), .int (sh s)])), (b1, .inl (cI, 10, .inl (sT s))), (b2, .inl (cI, 10, .inl (sR s)))]) (wi := []) (wo := []) (As := [.int (sh s)]) (rest := [.int (sh s), .int (((1 : Int32) <<< ((x) &&& 31)) - 1)]) ⟨hx, hb, hml, hown, hts⟩ [] (k_L_opposite l D ((sh s))) (va_cwS 1 hts v_S_51 rfl rfl rfl (by decide +kernel) ⟨Nat.le_of_ble_eq_true rfl, Nat.le_of_ble_eq_true rfl⟩) ⟨rfl, rfl, rfl, rfl, by decide⟩ rfl hK hP hD hS hA rfl hl.1 (Nat.le_of_ble_eq_true rfl) d_S_decide_12 ⟨Nat.le_of_ble_eq_true rfl, Nat.le_of_ble_eq_true rfl⟩ (fun H locs hP hD hS => ?_)
  have hP : va_P D cls_ [(b, .inr (2, [.ref b1, .ref b2, .int (nI (sn s)), .int (sh s)])), (b1, .inl (cI, 10, .inl (sT s))), (b2, .inl (cI, 10, .inl (sR s)))] H := hP
  have hD : va_D A [(b, .inr (2, [.ref b1, .ref b2, .int (nI (sn s)), .int (sh s)])), (b1, .inl (cI, 10, .inl (sT s))), (b2, .inl (cI, 10, .inl (sR s)))] := hD
  refine lv_ior hx hb d_S_decide_15 ?_
  refine lv_iconst (v := (-1)) hx hb d_S_decide_16 (by decide) ?_
  refine lv_ixor hx hb d_S_decide_17 ?_
  refine lv_iand hx hb d_S_decide_18 ?_
  refine lv_istore_n (lv' := [(2, .int ((((1 : Int32) <<< ((x) &&& 31)) - 1) &&& (((sh s) ||| (cc_neg ((sh s)))) ^^^ (-1)))), (0, .ref b), (1, .int x)]) hx hb d_S_decide_19 rfl hl (by decide) rfl (fun ls hl => ?_)
  refine lv_aload_n hx hb d_S_decide_20 rfl (lv_at hl 1 rfl) ?_
  refine lv_iload_n hx hb d_S_decide_21 rfl (lv_at hl 0 rfl) ?_
  refine lv_iload_n hx hb d_S_decide_22 rfl (lv_at hl 0 rfl) ?_
  refine lv_ineg hx hb d_S_decide_23 ?_
  refine lv_iand hx hb d_S_decide_24 ?_
  refine CTi_S (isC := []) (isR := [0, 1, 2]) (wr := [(b, .inr (2, [.ref b1, .ref b2, .int (nI (sn s)), .int (sh s)])), (b1, .inl (cI, 10, .inl (sT s))), (b2, .inl (cI, 10, .inl (sR s)))]) (wi := []) (wo := []) (As := [.int (((((1 : Int32) <<< ((x) &&& 31)) - 1) &&& (((sh s) ||| (cc_neg ((sh s)))) ^^^ (-1))) &&& (-((((1 : Int32) <<< ((x) &&& 31)) - 1) &&& (((sh s) ||| (cc_neg ((sh s)))) ^^^ (-1)))))]) (rest := [.ref b]) ⟨hx, hb, hml, hown, hts⟩ [] (k_L_opposite l D ((((((1 : Int32) <<< ((x) &&& 31)) - 1) &&& (((sh s) ||| (cc_neg ((sh s)))) ^^^ (-1))) &&& (-((((1 : Int32) <<< ((x) &&& 31)) - 1) &&& (((sh s) ||| (cc_neg ((sh s)))) ^^^ (-1))))))) (va_cwS 1 hts v_S_51 rfl rfl rfl (by decide +kernel) ⟨Nat.le_of_ble_eq_true rfl, Nat.le_of_ble_eq_true rfl⟩) ⟨rfl, rfl, rfl, rfl, by decide⟩ rfl hK hP hD hS hA rfl hl.1 (Nat.le_of_ble_eq_true rfl) d_S_decide_25 ⟨Nat.le_of_ble_eq_true rfl, Nat.le_of_ble_eq_true rfl⟩ (fun H locs hP hD hS => ?_)
  have hP : va_P D cls_ [(b, .inr (2, [.ref b1, .ref b2, .int (nI (sn s)), .int (sh s)])), (b1, .inl (cI, 10, .inl (sT s))), (b2, .inl (cI, 10, .inl (sR s)))] H := hP
  have hD : va_D A [(b, .inr (2, [.ref b1, .ref b2, .int (nI (sn s)), .int (sh s)])), (b1, .inl (cI, 10, .inl (sT s))), (b2, .inl (cI, 10, .inl (sR s)))] := hD
  refine lv_iconst (v := (-1)) hx hb d_S_decide_28 (by decide) ?_
  refine CTv_V (isC := [0, 1, 2]) (isR := []) (wr := []) (wi := [(b, .inr (2, [.ref b1, .ref b2, .int (nI (sn s)), .int (sh s)])), (b1, .inl (cI, 10, .inl (sT s))), (b2, .inl (cI, 10, .inl (sR s)))]) (wo := [(b, .inr (2, [.ref b1, .ref b2, .int (nI (sn (sr_hold s ((cc_neg ((((((1 : Int32) <<< ((x) &&& 31)) - 1) &&& (((sh s) ||| (cc_neg ((sh s)))) ^^^ (-1))) &&& (-((((1 : Int32) <<< ((x) &&& 31)) - 1) &&& (((sh s) ||| (cc_neg ((sh s)))) ^^^ (-1)))))))) ((-1))))), .int (sh (sr_hold s ((cc_neg ((((((1 : Int32) <<< ((x) &&& 31)) - 1) &&& (((sh s) ||| (cc_neg ((sh s)))) ^^^ (-1))) &&& (-((((1 : Int32) <<< ((x) &&& 31)) - 1) &&& (((sh s) ||| (cc_neg ((sh s)))) ^^^ (-1)))))))) ((-1))))])), (b1, .inl (cI, 10, .inl (sT (sr_hold s ((cc_neg ((((((1 : Int32) <<< ((x) &&& 31)) - 1) &&& (((sh s) ||| (cc_neg ((sh s)))) ^^^ (-1))) &&& (-((((1 : Int32) <<< ((x) &&& 31)) - 1) &&& (((sh s) ||| (cc_neg ((sh s)))) ^^^ (-1)))))))) ((-1)))))), (b2, .inl (cI, 10, .inl (sR (sr_hold s ((cc_neg ((((((1 : Int32) <<< ((x) &&& 31)) - 1) &&& (((sh s) ||| (cc_neg ((sh s)))) ^^^ (-1))) &&& (-((((1 : Int32) <<< ((x) &&& 31)) - 1) &&& (((sh s) ||| (cc_neg ((sh s)))) ^^^ (-1)))))))) ((-1))))))]) (b := b) (As := [.int (cc_neg ((((((1 : Int32) <<< ((x) &&& 31)) - 1) &&& (((sh s) ||| (cc_neg ((sh s)))) ^^^ (-1))) &&& (-((((1 : Int32) <<< ((x) &&& 31)) - 1) &&& (((sh s) ||| (cc_neg ((sh s)))) ^^^ (-1))))))), .int (-1)]) (rest := []) ⟨hx, hb, hml, hown, hts⟩ [0] (k_S_hold l D cI b b1 b2 s hs ((cc_neg ((((((1 : Int32) <<< ((x) &&& 31)) - 1) &&& (((sh s) ||| (cc_neg ((sh s)))) ^^^ (-1))) &&& (-((((1 : Int32) <<< ((x) &&& 31)) - 1) &&& (((sh s) ||| (cc_neg ((sh s)))) ^^^ (-1)))))))) ((-1))) (cwV 2 hts v_S_60 rfl rfl rfl (by decide +kernel) ⟨Nat.le_of_ble_eq_true rfl, Nat.le_of_ble_eq_true rfl⟩) ⟨rfl, rfl, rfl, rfl, by decide⟩ rfl hK hP hD hS hA (va_recv (ci := 2) hK hP rfl (q0 := 0) rfl) rfl hl.1 (Nat.le_of_ble_eq_true rfl) d_S_decide_29 ⟨Nat.le_of_ble_eq_true rfl, Nat.le_of_ble_eq_true rfl⟩ (fun H locs hP hD hS => ?_)
  have hP : va_P D cls_ [(b, .inr (2, [.ref b1, .ref b2, .int (nI (sn (sr_hold s ((cc_neg ((((((1 : Int32) <<< ((x) &&& 31)) - 1) &&& (((sh s) ||| (cc_neg ((sh s)))) ^^^ (-1))) &&& (-((((1 : Int32) <<< ((x) &&& 31)) - 1) &&& (((sh s) ||| (cc_neg ((sh s)))) ^^^ (-1)))))))) ((-1))))), .int (sh (sr_hold s ((cc_neg ((((((1 : Int32) <<< ((x) &&& 31)) - 1) &&& (((sh s) ||| (cc_neg ((sh s)))) ^^^ (-1))) &&& (-((((1 : Int32) <<< ((x) &&& 31)) - 1) &&& (((sh s) ||| (cc_neg ((sh s)))) ^^^ (-1)))))))) ((-1))))])), (b1, .inl (cI, 10, .inl (sT (sr_hold s ((cc_neg ((((((1 : Int32) <<< ((x) &&& 31)) - 1) &&& (((sh s) ||| (cc_neg ((sh s)))) ^^^ (-1))) &&& (-((((1 : Int32) <<< ((x) &&& 31)) - 1) &&& (((sh s) ||| (cc_neg ((sh s)))) ^^^ (-1)))))))) ((-1)))))), (b2, .inl (cI, 10, .inl (sR (sr_hold s ((cc_neg ((((((1 : Int32) <<< ((x) &&& 31)) - 1) &&& (((sh s) ||| (cc_neg ((sh s)))) ^^^ (-1))) &&& (-((((1 : Int32) <<< ((x) &&& 31)) - 1) &&& (((sh s) ||| (cc_neg ((sh s)))) ^^^ (-1)))))))) ((-1))))))] H := hP
  have hD : va_D A [(b, .inr (2, [.ref b1, .ref b2, .int (nI (sn (sr_hold s ((cc_neg ((((((1 : Int32) <<< ((x) &&& 31)) - 1) &&& (((sh s) ||| (cc_neg ((sh s)))) ^^^ (-1))) &&& (-((((1 : Int32) <<< ((x) &&& 31)) - 1) &&& (((sh s) ||| (cc_neg ((sh s)))) ^^^ (-1)))))))) ((-1))))), .int (sh (sr_hold s ((cc_neg ((((((1 : Int32) <<< ((x) &&& 31)) - 1) &&& (((sh s) ||| (cc_neg ((sh s)))) ^^^ (-1))) &&& (-((((1 : Int32) <<< ((x) &&& 31)) - 1) &&& (((sh s) ||| (cc_neg ((sh s)))) ^^^ (-1)))))))) ((-1))))])), (b1, .inl (cI, 10, .inl (sT (sr_hold s ((cc_neg ((((((1 : Int32) <<< ((x) &&& 31)) - 1) &&& (((sh s) ||| (cc_neg ((sh s)))) ^^^ (-1))) &&& (-((((1 : Int32) <<< ((x) &&& 31)) - 1) &&& (((sh s) ||| (cc_neg ((sh s)))) ^^^ (-1)))))))) ((-1)))))), (b2, .inl (cI, 10, .inl (sR (sr_hold s ((cc_neg ((((((1 : Int32) <<< ((x) &&& 31)) - 1) &&& (((sh s) ||| (cc_neg ((sh s)))) ^^^ (-1))) &&& (-((((1 : Int32) <<< ((x) &&& 31)) - 1) &&& (((sh s) ||| (cc_neg ((sh s)))) ^^^ (-1)))))))) ((-1))))))] := hD
  subst hx9
  exact fin _ _ _ _ hP hD hS d_S_decide_32
set_option maxHeartbeats 4000000 in
set_option maxRecDepth 100000 in
theorem k_S_latestDecision (l : Launch) (D : va_G) (cI : ClassId) (b b1 b2 : Nat) (s : SS) (hs : sn s ≤ 10) : KTi l y_S_latestDecision c_S_latestDecision 2 .int { frames := 0, cells := 0, slots := 0, locals := 0 } D [(cI, .int)] [.ref b] (wS cI b b1 b2 s) (nI (sr_ld (sR s) (sn s)) - 1) (wS cI b b1 b2 s) := by
  refine KTi_of (own := R_S) (by decide +kernel) rfl (Nat.le_of_ble_eq_true rfl) (vp_nar_int _) ?_
  intro p e st m below meth c A ls Q hx hb hml hts hown hK hP hD hS hA hl fin
  have loop : ∀ (k : Nat) (ls : Array Slot), k ≤ sn s → sr_ld (sR s) k = sr_ld (sR s) (sn s) → lv_has ls 2 [(1, .int (nI k - 1)), (0, .ref b)] → W p l e { frames := 0, cells := 0, slots := 0, locals := 0 } st m [Value.ref b].toArray below meth c st.heap [] 0 0 Q (F0 m 7 ls []) := by
    intro k
    induction k with
    | zero =>
      intro ls hk he hl
      refine lv_iload_n hx hb d_S_latestDecision_7 rfl (lv_at hl 0 rfl) ?_
      refine lv_if_lt (tgt := 27) hx hb d_S_latestDecision_8 rfl (fun hc8 => ?_) (fun hc8 => absurd neg0 hc8)
      refine lv_iload_n hx hb d_S_latestDecision_27 rfl (lv_at hl 0 rfl) ?_
      exact fin _ _ _ _ _ hP hD hS (by rw [← he]; rfl) d_S_latestDecision_28
    | succ k ih =>
      intro ls hk he hl
      rw [nI_pred] at hl
      refine lv_iload_n hx hb d_S_latestDecision_7 rfl (lv_at hl 0 rfl) ?_
      refine lv_if_lt (tgt := 27) hx hb d_S_latestDecision_8 rfl (fun hc8 => absurd hc8 (nI_pos (by omega))) (fun hc8 => ?_)
      refine lv_aload_n hx hb d_S_latestDecision_11 rfl (lv_at hl 1 rfl) ?_
      refine va_get (D := D) (ci := 2) (v := .ref b2) (C := R_S) (T := T_S) (N := 4) hx hb hts u_S hown hK hP 0 rfl rfl 1 (by decide) (hts _ f_S_15) (fun _ h9 => h9) rfl d_S_latestDecision_12 ?_
      refine lv_iload_n hx hb d_S_latestDecision_15 rfl (lv_at hl 0 rfl) ?_
      refine va_iald (D := D) (i := (nI k)) hx hb hK hP 2 0 rfl rfl (vp_in_nI (show k < 10 by omega) (by decide)) d_S_latestDecision_16 ?_
      rw [show ((nI k) : Int32).toNatClampNeg = k from nI_clamp (by omega)]
      refine lv_iconst (v := (-1)) hx hb d_S_latestDecision_17 (by decide) ?_
      refine lv_icmp_eq (tgt := 27) hx hb d_S_latestDecision_18 rfl (fun hc18 => ?_) (fun hc18 => ?_)
      · refine lv_iload_n hx hb d_S_latestDecision_27 rfl (lv_at hl 0 rfl) ?_
        exact fin _ _ _ _ _ hP hD hS (by rw [← he, show sr_ld (sR s) (k + 1) = k + 1 from if_pos hc18, nI_pred]) d_S_latestDecision_28
      · refine lv_iinc (k := 0) (v := (nI k - 1)) (lv' := [(1, .int (nI k - 1)), (0, .ref b)]) hx hb d_S_latestDecision_21 hl rfl (im1 _) (by decide) rfl (fun ls hl => ?_)
        refine lv_goto (tgt := 7) hx hb d_S_latestDecision_24 rfl ?_
        exact ih ls (by omega) (by rw [← he]; exact (if_neg hc18).symm) hl
  refine lv_aload_n hx hb d_S_latestDecision_0 rfl (lv_at hl 0 rfl) ?_
  refine va_get (D := D) (ci := 2) (v := .int (nI (sn s))) (C := R_S) (T := T_S) (N := 4) hx hb hts u_S hown hK hP 0 rfl rfl 2 (by decide) (hts _ f_S_18) (fun _ h9 => h9) rfl d_S_latestDecision_1 ?_
  refine lv_iconst (v := 1) hx hb d_S_latestDecision_4 (by decide) ?_
  refine lv_isub hx hb d_S_latestDecision_5 ?_
  refine lv_istore_n (lv' := [(1, .int ((nI (sn s)) - 1)), (0, .ref b)]) hx hb d_S_latestDecision_6 rfl hl (by decide) rfl (fun ls hl => ?_)
  exact loop (sn s) ls (Nat.le_refl _) rfl hl
set_option maxHeartbeats 4000000 in
set_option maxRecDepth 100000 in
theorem k_S_deniedFrom (l : Launch) (D : va_G) (cI : ClassId) (b b1 b2 : Nat) (s : SS) (hs : sn s ≤ 10) (x : Int32) (q : Nat) (hq : q ≤ sn s) (hx9 : x = nI q - 1) : KTi l y_S_deniedFrom c_S_deniedFrom 4 .int { frames := 1, cells := 0, slots := 0, locals := 22 } D [(cI, .int)] [.ref b, .int x] (wS cI b b1 b2 s) (cc_neg (sr_or (sT s) (sn s - (q - 1)) (q - 1) 0)) (wS cI b b1 b2 s) := by
  refine KTi_of (own := R_S) (by decide +kernel) rfl (Nat.le_of_ble_eq_true rfl) (vp_nar_int _) ?_
  intro p e st m below meth c A ls Q hx hb hml hts hown hK hP hD hS hA hl fin
  generalize hT : sr_or (sT s) (sn s - (q - 1)) (q - 1) 0 = tot at fin
  have loop : ∀ (k a : Nat) (y : Int32) (ls : Array Slot), a + k = sn s → sr_or (sT s) k a y = tot → lv_has ls 4 [(3, .int (nI a)), (2, .int y), (0, .ref b), (1, .int x)] → W p l e { frames := 1, cells := 0, slots := 0, locals := 22 } st m [Value.ref b, Value.int x].toArray below meth c st.heap [] 0 0 Q (F0 m 8 ls []) := by
    intro k
    induction k with
    | zero =>
      intro a y ls hk he hl
      refine lv_iload_n hx hb d_S_deniedFrom_8 rfl (lv_at hl 0 rfl) ?_
      refine lv_aload_n hx hb d_S_deniedFrom_9 rfl (lv_at hl 2 rfl) ?_
      refine va_get (D := D) (ci := 2) (v := .int (nI (sn s))) (C := R_S) (T := T_S) (N := 4) hx hb hts u_S hown hK hP 0 rfl rfl 2 (by decide) (hts _ f_S_18) (fun _ h9 => h9) rfl d_S_deniedFrom_10 ?_
      refine lv_icmp_ge (tgt := 31) hx hb d_S_deniedFrom_13 rfl (fun hc13 => ?_) (fun hc13 => absurd (nI_le (by omega) (by omega)) hc13)
      refine lv_iload_n hx hb d_S_deniedFrom_31 rfl (lv_at hl 1 rfl) ?_
      refine CTi_S (isC := []) (isR := [0, 1, 2]) (wr := [(b, .inr (2, [.ref b1, .ref b2, .int (nI (sn s)), .int (sh s)])), (b1, .inl (cI, 10, .inl (sT s))), (b2, .inl (cI, 10, .inl (sR s)))]) (wi := []) (wo := []) (As := [.int y]) (rest := []) ⟨hx, hb, hml, hown, hts⟩ [] (k_L_opposite l D (y)) (va_cwS 1 hts v_S_51 rfl rfl rfl (by decide +kernel) ⟨Nat.le_of_ble_eq_true rfl, Nat.le_of_ble_eq_true rfl⟩) ⟨rfl, rfl, rfl, rfl, by decide⟩ rfl hK hP hD hS hA rfl hl.1 (Nat.le_of_ble_eq_true rfl) d_S_deniedFrom_32 ⟨Nat.le_of_ble_eq_true rfl, Nat.le_of_ble_eq_true rfl⟩ (fun H locs hP hD hS => ?_)
      have hP : va_P D cls_ [(b, .inr (2, [.ref b1, .ref b2, .int (nI (sn s)), .int (sh s)])), (b1, .inl (cI, 10, .inl (sT s))), (b2, .inl (cI, 10, .inl (sR s)))] H := hP
      have hD : va_D A [(b, .inr (2, [.ref b1, .ref b2, .int (nI (sn s)), .int (sh s)])), (b1, .inl (cI, 10, .inl (sT s))), (b2, .inl (cI, 10, .inl (sR s)))] := hD
      exact fin _ _ _ _ _ hP hD hS (by rw [← he]; rfl) d_S_deniedFrom_35
    | succ k ih =>
      intro a y ls hk he hl
      refine lv_iload_n hx hb d_S_deniedFrom_8 rfl (lv_at hl 0 rfl) ?_
      refine lv_aload_n hx hb d_S_deniedFrom_9 rfl (lv_at hl 2 rfl) ?_
      refine va_get (D := D) (ci := 2) (v := .int (nI (sn s))) (C := R_S) (T := T_S) (N := 4) hx hb hts u_S hown hK hP 0 rfl rfl 2 (by decide) (hts _ f_S_18) (fun _ h9 => h9) rfl d_S_deniedFrom_10 ?_
      refine lv_icmp_ge (tgt := 31) hx hb d_S_deniedFrom_13 rfl (fun hc13 => absurd hc13 (nI_ge (by omega) (by omega))) (fun hc13 => ?_)
      refine lv_iload_n hx hb d_S_deniedFrom_16 rfl (lv_at hl 1 rfl) ?_
      refine lv_aload_n hx hb d_S_deniedFrom_17 rfl (lv_at hl 2 rfl) ?_
      refine va_get (D := D) (ci := 2) (v := .ref b1) (C := R_S) (T := T_S) (N := 4) hx hb hts u_S hown hK hP 0 rfl rfl 0 (by decide) (hts _ f_S_9) (fun _ h9 => h9) rfl d_S_deniedFrom_18 ?_
      refine lv_iload_n hx hb d_S_deniedFrom_21 rfl (lv_at hl 0 rfl) ?_
      refine va_iald (D := D) (i := (nI a)) hx hb hK hP 1 0 rfl rfl (vp_in_nI (show a < 10 by omega) (by decide)) d_S_deniedFrom_22 ?_
      rw [show ((nI a) : Int32).toNatClampNeg = a from nI_clamp (by omega)]
      refine lv_ior hx hb d_S_deniedFrom_23 ?_
      refine lv_istore_n (lv' := [(2, .int (y ||| (sT s a))), (3, .int (nI a)), (0, .ref b), (1, .int x)]) hx hb d_S_deniedFrom_24 rfl hl (by decide) rfl (fun ls hl => ?_)
      refine lv_iinc (k := 1) (v := (nI (a + 1))) (lv' := [(3, .int (nI (a + 1))), (2, .int (y ||| (sT s a))), (0, .ref b), (1, .int x)]) hx hb d_S_deniedFrom_25 hl rfl (nI_1 a) (by decide) rfl (fun ls hl => ?_)
      refine lv_goto (tgt := 8) hx hb d_S_deniedFrom_28 rfl ?_
      exact ih (a + 1) _ ls (by omega) he (lv_sub hl [0, 1, 2, 3] rfl)
  refine lv_iconst (v := 0) hx hb d_S_deniedFrom_0 (by decide) ?_
  refine lv_istore_n (lv' := [(2, .int 0), (0, .ref b), (1, .int x)]) hx hb d_S_deniedFrom_1 rfl hl (by decide) rfl (fun ls hl => ?_)
  refine lv_iload_n hx hb d_S_deniedFrom_2 rfl (lv_at hl 2 rfl) ?_
  refine lv_iconst (v := 0) hx hb d_S_deniedFrom_3 (by decide) ?_
  refine va_mmax (x := x) (y := 0) hx hb (hml.trans hl.1.symm) hown (hts _ g_S_86) (hts _ g_max_s) (hts _ g_math_i) (hts _ g_max_c) (Nat.le_of_ble_eq_true rfl) (Nat.le_of_ble_eq_true rfl) (Nat.le_of_ble_eq_true rfl) (Nat.le_of_ble_eq_true rfl) d_S_deniedFrom_4 ?_
  subst hx9
  rw [max0 (show q < 2 ^ 31 by omega)]
  refine lv_istore_n (lv' := [(3, .int (nI (q - 1))), (2, .int 0), (0, .ref b), (1, .int (nI q - 1))]) hx hb d_S_deniedFrom_7 rfl hl (by decide) rfl (fun ls hl => ?_)
  exact loop (sn s - (q - 1)) (q - 1) 0 ls (by omega) hT (lv_sub hl [0, 1, 2, 3] rfl)
set_option maxHeartbeats 4000000 in
set_option maxRecDepth 100000 in
theorem k_S_jumpTarget (l : Launch) (D : va_G) (cI : ClassId) (b b1 b2 : Nat) (s : SS) (hs : sn s ≤ 10) (y x : Int32) (q : Nat) (hq : q ≤ sn s) (hx9 : x = nI q - 1) : KTi l y_S_jumpTarget c_S_jumpTarget 5 .int { frames := 1, cells := 0, slots := 0, locals := 22 } D [(cI, .int)] [.ref b, .int y, .int x] (wS cI b b1 b2 s) (nI (sr_jump (sT s) (sR s) y (q - 1) (q - 1))) (wS cI b b1 b2 s) := by
  refine KTi_of (own := R_S) (by decide +kernel) rfl (Nat.le_of_ble_eq_true rfl) (vp_nar_int _) ?_
  intro p e st m below meth c A ls Q hx hb hml hts hown hK hP hD hS hA hl fin
  generalize hT : sr_jump (sT s) (sR s) y (q - 1) (q - 1) = tot at fin
  have loop : ∀ (k g : Nat) (ls : Array Slot) (H : Heap) (locs : List Loc), k ≤ sn s → sr_jump (sT s) (sR s) y k g = tot → va_P D cls_ [(b, .inr (2, [.ref b1, .ref b2, .int (nI (sn s)), .int (sh s)])), (b1, .inl (cI, 10, .inl (sT s))), (b2, .inl (cI, 10, .inl (sR s)))] H → va_D A [(b, .inr (2, [.ref b1, .ref b2, .int (nI (sn s)), .int (sh s)])), (b1, .inl (cI, 10, .inl (sT s))), (b2, .inl (cI, 10, .inl (sR s)))] → va_S A st.heap H locs → lv_has ls 5 [(4, .int (nI k - 1)), (3, .int (nI g)), (0, .ref b), (1, .int y)] → W p l e { frames := 1, cells := 0, slots := 0, locals := 22 } st m [Value.ref b, Value.int y, Value.int x].toArray below meth c H locs 0 0 Q (F0 m 11 ls []) := by
    intro k
    induction k with
    | zero =>
      intro g ls H locs hk he hP hD hS hl
      refine lv_iload hx hb d_S_jumpTarget_11 (lv_at hl 0 rfl) ?_
      refine lv_if_lt (tgt := 54) hx hb d_S_jumpTarget_13 rfl (fun hc13 => ?_) (fun hc13 => absurd neg0 hc13)
      refine lv_iload_n hx hb d_S_jumpTarget_54 rfl (lv_at hl 1 rfl) ?_
      exact fin _ _ _ _ _ hP hD hS (by rw [← he]; rfl) d_S_jumpTarget_55
    | succ k ih =>
      intro g ls H locs hk he hP hD hS hl
      rw [nI_pred] at hl
      refine lv_iload hx hb d_S_jumpTarget_11 (lv_at hl 0 rfl) ?_
      refine lv_if_lt (tgt := 54) hx hb d_S_jumpTarget_13 rfl (fun hc13 => absurd hc13 (nI_pos (by omega))) (fun hc13 => ?_)
      refine lv_iload_n hx hb d_S_jumpTarget_16 rfl (lv_at hl 3 rfl) ?_
      refine lv_aload_n hx hb d_S_jumpTarget_17 rfl (lv_at hl 2 rfl) ?_
      refine va_get (D := D) (ci := 2) (v := .ref b1) (C := R_S) (T := T_S) (N := 4) hx hb hts u_S hown hK hP 0 rfl rfl 0 (by decide) (hts _ f_S_9) (fun _ h9 => h9) rfl d_S_jumpTarget_18 ?_
      refine lv_iload hx hb d_S_jumpTarget_21 (lv_at hl 0 rfl) ?_
      refine va_iald (D := D) (i := (nI k)) hx hb hK hP 1 0 rfl rfl (vp_in_nI (show k < 10 by omega) (by decide)) d_S_jumpTarget_23 ?_
      rw [show ((nI k) : Int32).toNatClampNeg = k from nI_clamp (by omega)]
      refine CTi_S (isC := []) (isR := [0, 1, 2]) (wr := [(b, .inr (2, [.ref b1, .ref b2, .int (nI (sn s)), .int (sh s)])), (b1, .inl (cI, 10, .inl (sT s))), (b2, .inl (cI, 10, .inl (sR s)))]) (wi := []) (wo := []) (As := [.int (sT s k)]) (rest := [.int y]) ⟨hx, hb, hml, hown, hts⟩ [] (k_L_opposite l D ((sT s k))) (va_cwS 1 hts v_S_51 rfl rfl rfl (by decide +kernel) ⟨Nat.le_of_ble_eq_true rfl, Nat.le_of_ble_eq_true rfl⟩) ⟨rfl, rfl, rfl, rfl, by decide⟩ rfl hK hP hD hS hA rfl hl.1 (Nat.le_of_ble_eq_true rfl) d_S_jumpTarget_24 ⟨Nat.le_of_ble_eq_true rfl, Nat.le_of_ble_eq_true rfl⟩ (fun H locs hP hD hS => ?_)
      have hP : va_P D cls_ [(b, .inr (2, [.ref b1, .ref b2, .int (nI (sn s)), .int (sh s)])), (b1, .inl (cI, 10, .inl (sT s))), (b2, .inl (cI, 10, .inl (sR s)))] H := hP
      have hD : va_D A [(b, .inr (2, [.ref b1, .ref b2, .int (nI (sn s)), .int (sh s)])), (b1, .inl (cI, 10, .inl (sT s))), (b2, .inl (cI, 10, .inl (sR s)))] := hD
      refine lv_iand hx hb d_S_jumpTarget_27 ?_
      refine lv_if_eq (tgt := 34) hx hb d_S_jumpTarget_28 rfl (fun hc28 => ?_) (fun hc28 => ?_)
      · refine lv_aload_n hx hb d_S_jumpTarget_34 rfl (lv_at hl 2 rfl) ?_
        refine va_get (D := D) (ci := 2) (v := .ref b2) (C := R_S) (T := T_S) (N := 4) hx hb hts u_S hown hK hP 0 rfl rfl 1 (by decide) (hts _ f_S_15) (fun _ h9 => h9) rfl d_S_jumpTarget_35 ?_
        refine lv_iload hx hb d_S_jumpTarget_38 (lv_at hl 0 rfl) ?_
        refine va_iald (D := D) (i := (nI k)) hx hb hK hP 2 0 rfl rfl (vp_in_nI (show k < 10 by omega) (by decide)) d_S_jumpTarget_40 ?_
        rw [show ((nI k) : Int32).toNatClampNeg = k from nI_clamp (by omega)]
        refine lv_iconst (v := (-1)) hx hb d_S_jumpTarget_41 (by decide) ?_
        refine lv_icmp_ne (tgt := 48) hx hb d_S_jumpTarget_42 rfl (fun hc42 => ?_) (fun hc42 => ?_)
        · refine lv_iinc (k := 0) (v := (nI k - 1)) (lv' := [(4, .int (nI k - 1)), (3, .int (nI g)), (0, .ref b), (1, .int y)]) hx hb d_S_jumpTarget_48 hl rfl (im1 _) (by decide) rfl (fun ls hl => ?_)
          refine lv_goto (tgt := 11) hx hb d_S_jumpTarget_51 rfl ?_
          exact ih g ls H locs (by omega) (by rw [← he, sr_jump_s, if_pos hc28, if_neg hc42]) hP hD hS (lv_sub hl [0, 1, 2, 3] rfl)
        · refine lv_iload hx hb d_S_jumpTarget_45 (lv_at hl 0 rfl) ?_
          refine lv_istore_n (lv' := [(3, .int (nI k)), (4, .int (nI k)), (0, .ref b), (1, .int y)]) hx hb d_S_jumpTarget_47 rfl hl (by decide) rfl (fun ls hl => ?_)
          refine lv_iinc (k := 1) (v := (nI k - 1)) (lv' := [(4, .int (nI k - 1)), (3, .int (nI k)), (0, .ref b), (1, .int y)]) hx hb d_S_jumpTarget_48 hl rfl (im1 _) (by decide) rfl (fun ls hl => ?_)
          refine lv_goto (tgt := 11) hx hb d_S_jumpTarget_51 rfl ?_
          exact ih k ls H locs (by omega) (by rw [← he, sr_jump_s, if_pos hc28, if_pos hc42]) hP hD hS (lv_sub hl [0, 1, 2, 3] rfl)
      · refine lv_goto (tgt := 54) hx hb d_S_jumpTarget_31 rfl ?_
        refine lv_iload_n hx hb d_S_jumpTarget_54 rfl (lv_at hl 1 rfl) ?_
        exact fin _ _ _ _ _ hP hD hS (by rw [← he, sr_jump_s, if_neg hc28]) d_S_jumpTarget_55
  refine lv_iload_n hx hb d_S_jumpTarget_0 rfl (lv_at hl 2 rfl) ?_
  refine lv_iconst (v := 0) hx hb d_S_jumpTarget_1 (by decide) ?_
  refine va_mmax (x := x) (y := 0) hx hb (hml.trans hl.1.symm) hown (hts _ g_S_86) (hts _ g_max_s) (hts _ g_math_i) (hts _ g_max_c) (Nat.le_of_ble_eq_true rfl) (Nat.le_of_ble_eq_true rfl) (Nat.le_of_ble_eq_true rfl) (Nat.le_of_ble_eq_true rfl) d_S_jumpTarget_2 ?_
  subst hx9
  rw [max0 (show q < 2 ^ 31 by omega)]
  refine lv_istore_n (lv' := [(3, .int (nI (q - 1))), (0, .ref b), (1, .int y), (2, .int (nI q - 1))]) hx hb d_S_jumpTarget_5 rfl hl (by decide) rfl (fun ls hl => ?_)
  refine lv_iload_n hx hb d_S_jumpTarget_6 rfl (lv_at hl 0 rfl) ?_
  refine lv_iconst (v := 1) hx hb d_S_jumpTarget_7 (by decide) ?_
  refine lv_isub hx hb d_S_jumpTarget_8 ?_
  refine lv_istore (lv' := [(4, .int ((nI (q - 1)) - 1)), (3, .int (nI (q - 1))), (0, .ref b), (1, .int y), (2, .int (nI q - 1))]) hx hb d_S_jumpTarget_9 hl (by decide) rfl (fun ls hl => ?_)
  exact loop (q - 1) (q - 1) ls _ _ (by omega) hT hP hD hS (lv_sub hl [0, 1, 2, 3] rfl)
set_option maxHeartbeats 4000000 in
set_option maxRecDepth 100000 in
theorem k_S_cut (l : Launch) (D : va_G) (cI : ClassId) (b b1 b2 : Nat) (s : SS) (hs : sn s ≤ 10) (x : Int32) (g : Nat) (hg : g ≤ 10) (hx9 : x = nI g) : KTv l y_S_cut c_S_cut 3 { frames := 1, cells := 0, slots := 0, locals := 21 } D [(cI, .int)] [.ref b, .int x] (wS cI b b1 b2 s) (wS cI b b1 b2 (sr_cut s g)) := by
  refine KTv_of (own := R_S) (by decide +kernel) rfl (Nat.le_of_ble_eq_true rfl) ?_
  intro p e st m below meth c A ls Q hx hb hml hts hown hK hP hD hS hA hl fin
  subst hx9
  unfold sr_cut at fin
  generalize hT : sr_cutH (sT s) g (sn s) (sh s) = tot at fin
  have loop : ∀ (k : Nat) (y : Int32) (ls : Array Slot) (H : Heap) (locs : List Loc), k ≤ sn s → sr_cutH (sT s) g k y = tot → va_P D cls_ [(b, .inr (2, [.ref b1, .ref b2, .int (nI (sn s)), .int y])), (b1, .inl (cI, 10, .inl (sT s))), (b2, .inl (cI, 10, .inl (sR s)))] H → va_D A [(b, .inr (2, [.ref b1, .ref b2, .int (nI (sn s)), .int y])), (b1, .inl (cI, 10, .inl (sT s))), (b2, .inl (cI, 10, .inl (sR s)))] → va_S A st.heap H locs → lv_has ls 3 [(2, .int (nI k - 1)), (0, .ref b), (1, .int (nI g))] → W p l e { frames := 1, cells := 0, slots := 0, locals := 21 } st m [Value.ref b, Value.int (nI g)].toArray below meth c H locs 0 0 Q (F0 m 7 ls []) := by
    intro k
    induction k with
    | zero =>
      intro y ls H locs hk he hP hD hS hl
      have he : y = tot := he
      subst he
      refine lv_iload_n hx hb d_S_cut_7 rfl (lv_at hl 0 rfl) ?_
      refine lv_iload_n hx hb d_S_cut_8 rfl (lv_at hl 2 rfl) ?_
      refine lv_icmp_lt (tgt := 39) hx hb d_S_cut_9 rfl (fun hc9 => ?_) (fun hc9 => absurd (neg0g (show g < 2 ^ 31 by omega)) hc9)
      refine lv_aload_n hx hb d_S_cut_39 rfl (lv_at hl 1 rfl) ?_
      refine lv_aload_n hx hb d_S_cut_40 rfl (lv_at hl 1 rfl) ?_
      refine va_get (D := D) (ci := 2) (v := .int (nI (sn s))) (C := R_S) (T := T_S) (N := 4) hx hb hts u_S hown hK hP 0 rfl rfl 2 (by decide) (hts _ f_S_18) (fun _ h9 => h9) rfl d_S_cut_41 ?_
      refine lv_iload_n hx hb d_S_cut_44 rfl (lv_at hl 2 rfl) ?_
      refine va_mmin (x := (nI (sn s))) (y := (nI g)) hx hb (hml.trans hl.1.symm) hown (hts _ g_S_91) (hts _ g_min_s) (hts _ g_math_i) (hts _ g_min_c) (Nat.le_of_ble_eq_true rfl) (Nat.le_of_ble_eq_true rfl) (Nat.le_of_ble_eq_true rfl) (Nat.le_of_ble_eq_true rfl) d_S_cut_45 ?_
      refine va_put (D := D) (ci := 2) (v := .int (if (nI g) < (nI (sn s)) then (nI g) else (nI (sn s)))) (ty := .int) (C := R_S) (T := T_S) (N := 4) hx hb hts u_S t_S t_S_ok n_S hown hK hP hD hS 0 rfl rfl 2 (by decide) (hts _ f_S_18) (fun _ h9 => h9) rfl (by decide +kernel) rfl rfl (Nat.le_of_ble_eq_true rfl) d_S_cut_48 (fun H locs hP hD hS => ?_)
      have hP : va_P D cls_ [(b, .inr (2, [.ref b1, .ref b2, .int (if (nI g) < (nI (sn s)) then (nI g) else (nI (sn s))), .int y])), (b1, .inl (cI, 10, .inl (sT s))), (b2, .inl (cI, 10, .inl (sR s)))] H := hP
      have hD : va_D A [(b, .inr (2, [.ref b1, .ref b2, .int (if (nI g) < (nI (sn s)) then (nI g) else (nI (sn s))), .int y])), (b1, .inl (cI, 10, .inl (sT s))), (b2, .inl (cI, 10, .inl (sR s)))] := hD
      rw [min_eq_ (show sn s < 2 ^ 31 by omega) (show g < 2 ^ 31 by omega)] at hP hD
      exact fin _ _ _ _ hP hD hS d_S_cut_51
    | succ k ih =>
      intro y ls H locs hk he hP hD hS hl
      rw [nI_pred] at hl
      refine lv_iload_n hx hb d_S_cut_7 rfl (lv_at hl 0 rfl) ?_
      refine lv_iload_n hx hb d_S_cut_8 rfl (lv_at hl 2 rfl) ?_
      refine lv_icmp_lt (tgt := 39) hx hb d_S_cut_9 rfl (fun hc9 => ?_) (fun hc9 => ?_)
      · have hkg : k < g := (nI_ltI (by omega) (by omega)).1 hc9
        have he : y = tot := by rw [← he]; exact (if_pos hkg).symm
        subst he
        refine lv_aload_n hx hb d_S_cut_39 rfl (lv_at hl 1 rfl) ?_
        refine lv_aload_n hx hb d_S_cut_40 rfl (lv_at hl 1 rfl) ?_
        refine va_get (D := D) (ci := 2) (v := .int (nI (sn s))) (C := R_S) (T := T_S) (N := 4) hx hb hts u_S hown hK hP 0 rfl rfl 2 (by decide) (hts _ f_S_18) (fun _ h9 => h9) rfl d_S_cut_41 ?_
        refine lv_iload_n hx hb d_S_cut_44 rfl (lv_at hl 2 rfl) ?_
        refine va_mmin (x := (nI (sn s))) (y := (nI g)) hx hb (hml.trans hl.1.symm) hown (hts _ g_S_91) (hts _ g_min_s) (hts _ g_math_i) (hts _ g_min_c) (Nat.le_of_ble_eq_true rfl) (Nat.le_of_ble_eq_true rfl) (Nat.le_of_ble_eq_true rfl) (Nat.le_of_ble_eq_true rfl) d_S_cut_45 ?_
        refine va_put (D := D) (ci := 2) (v := .int (if (nI g) < (nI (sn s)) then (nI g) else (nI (sn s)))) (ty := .int) (C := R_S) (T := T_S) (N := 4) hx hb hts u_S t_S t_S_ok n_S hown hK hP hD hS 0 rfl rfl 2 (by decide) (hts _ f_S_18) (fun _ h9 => h9) rfl (by decide +kernel) rfl rfl (Nat.le_of_ble_eq_true rfl) d_S_cut_48 (fun H locs hP hD hS => ?_)
        have hP : va_P D cls_ [(b, .inr (2, [.ref b1, .ref b2, .int (if (nI g) < (nI (sn s)) then (nI g) else (nI (sn s))), .int y])), (b1, .inl (cI, 10, .inl (sT s))), (b2, .inl (cI, 10, .inl (sR s)))] H := hP
        have hD : va_D A [(b, .inr (2, [.ref b1, .ref b2, .int (if (nI g) < (nI (sn s)) then (nI g) else (nI (sn s))), .int y])), (b1, .inl (cI, 10, .inl (sT s))), (b2, .inl (cI, 10, .inl (sR s)))] := hD
        rw [min_eq_ (show sn s < 2 ^ 31 by omega) (show g < 2 ^ 31 by omega)] at hP hD
        exact fin _ _ _ _ hP hD hS d_S_cut_51
      · have hkg : ¬ k < g := fun h => hc9 (nI_lt h (by omega))
        refine lv_iload_n hx hb d_S_cut_12 rfl (lv_at hl 0 rfl) ?_
        refine lv_if_lt (tgt := 39) hx hb d_S_cut_13 rfl (fun hc13 => absurd hc13 (nI_pos (by omega))) (fun hc13 => ?_)
        refine lv_aload_n hx hb d_S_cut_16 rfl (lv_at hl 1 rfl) ?_
        refine lv_dup hx hb d_S_cut_17 rfl ?_
        refine va_get (D := D) (ci := 2) (v := .int y) (C := R_S) (T := T_S) (N := 4) hx hb hts u_S hown hK hP 0 rfl rfl 3 (by decide) (hts _ f_S_22) (fun _ h9 => h9) rfl d_S_cut_18 ?_
        refine lv_aload_n hx hb d_S_cut_21 rfl (lv_at hl 1 rfl) ?_
        refine va_get (D := D) (ci := 2) (v := .ref b1) (C := R_S) (T := T_S) (N := 4) hx hb hts u_S hown hK hP 0 rfl rfl 0 (by decide) (hts _ f_S_9) (fun _ h9 => h9) rfl d_S_cut_22 ?_
        refine lv_iload_n hx hb d_S_cut_25 rfl (lv_at hl 0 rfl) ?_
        refine va_iald (D := D) (i := (nI k)) hx hb hK hP 1 0 rfl rfl (vp_in_nI (show k < 10 by omega) (by decide)) d_S_cut_26 ?_
        rw [show ((nI k) : Int32).toNatClampNeg = k from nI_clamp (by omega)]
        refine lv_iconst (v := (-1)) hx hb d_S_cut_27 (by decide) ?_
        refine lv_ixor hx hb d_S_cut_28 ?_
        refine lv_iand hx hb d_S_cut_29 ?_
        refine va_put (D := D) (ci := 2) (v := .int (y &&& ((sT s k) ^^^ (-1)))) (ty := .int) (C := R_S) (T := T_S) (N := 4) hx hb hts u_S t_S t_S_ok n_S hown hK hP hD hS 0 rfl rfl 3 (by decide) (hts _ f_S_22) (fun _ h9 => h9) rfl (by decide +kernel) rfl rfl (Nat.le_of_ble_eq_true rfl) d_S_cut_30 (fun H locs hP hD hS => ?_)
        have hP : va_P D cls_ [(b, .inr (2, [.ref b1, .ref b2, .int (nI (sn s)), .int (y &&& ((sT s k) ^^^ (-1)))])), (b1, .inl (cI, 10, .inl (sT s))), (b2, .inl (cI, 10, .inl (sR s)))] H := hP
        have hD : va_D A [(b, .inr (2, [.ref b1, .ref b2, .int (nI (sn s)), .int (y &&& ((sT s k) ^^^ (-1)))])), (b1, .inl (cI, 10, .inl (sT s))), (b2, .inl (cI, 10, .inl (sR s)))] := hD
        refine lv_iinc (k := 0) (v := (nI k - 1)) (lv' := [(2, .int (nI k - 1)), (0, .ref b), (1, .int (nI g))]) hx hb d_S_cut_33 hl rfl (im1 _) (by decide) rfl (fun ls hl => ?_)
        refine lv_goto (tgt := 7) hx hb d_S_cut_36 rfl ?_
        exact ih _ ls H locs (by omega) (by rw [← he]; exact (if_neg hkg).symm) hP hD hS hl
  refine lv_aload_n hx hb d_S_cut_0 rfl (lv_at hl 0 rfl) ?_
  refine va_get (D := D) (ci := 2) (v := .int (nI (sn s))) (C := R_S) (T := T_S) (N := 4) hx hb hts u_S hown hK hP 0 rfl rfl 2 (by decide) (hts _ f_S_18) (fun _ h9 => h9) rfl d_S_cut_1 ?_
  refine lv_iconst (v := 1) hx hb d_S_cut_4 (by decide) ?_
  refine lv_isub hx hb d_S_cut_5 ?_
  refine lv_istore_n (lv' := [(2, .int ((nI (sn s)) - 1)), (0, .ref b), (1, .int (nI g))]) hx hb d_S_cut_6 rfl hl (by decide) rfl (fun ls hl => ?_)
  exact loop (sn s) (sh s) ls st.heap [] (Nat.le_refl _) hT hP hD hS hl
