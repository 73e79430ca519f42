/-! Part 30: Literals and Docket, by program (wip/whole/gen_docket.py) -/
def cc_of (x : Int32) : Int32 := if 0 < x then 1 <<< ((x - 1) &&& 31) else 1 <<< ((10 - x - 1) &&& 31)
def DW (d : DS) : Prop := dz d ≤ 1575 ∧ dl d ≤ 3060
abbrev wD (cI : ClassId) (h a1 a2 a3 a4 : Nat) (d : DS) : va_W := [(h, .inr (1, [.ref a1, .ref a2, .ref a3, .ref a4, .int (nI (dz d)), .int (nI (dl d)), .int (nI (dO d))])), (a1, .inl (cI, 1575, .inl (dC d))), (a2, .inl (cI, 1575, .inl (dF d))), (a3, .inl (cI, 1575, .inl (dT d))), (a4, .inl (cI, 3060, .inl (dK d)))]
theorem nar_if (P : Prop) {_ : Decidable P} : narrow .boolean (.int (if P then 1 else 0)) = .int (if P then 1 else 0) := by split <;> decide +kernel
theorem nar_if2 (P : Prop) {_ : Decidable P} : narrow .boolean (.int (if P then 0 else 1)) = .int (if P then 0 else 1) := by split <;> decide +kernel
theorem it1 {P : Prop} {_ : Decidable P} (h : ¬ (if P then (1 : Int32) else 0) = 0) : P := by
  by_cases hp : P
  · exact hp
  · rw [if_neg hp] at h; exact absurd rfl h
theorem it0 {P : Prop} {_ : Decidable P} (h : (if P then (1 : Int32) else 0) = 0) : ¬ P := fun hp => by
  rw [if_pos hp] at h; exact absurd h (by decide)
theorem vin_of {i : Int32} {n N : Nat} (h1 : 0 ≤ i) (h2 : i < nI n) (h3 : n ≤ N) (hN : N < 2 ^ 31) : vp_in i N := by
  rw [vp_in_iff]
  have e1 := Int32.le_iff_toInt_le.mp h1
  have e2 := Int32.lt_iff_toInt_lt.mp h2
  rw [nI_toInt (by omega)] at e2
  rw [show (0 : Int32).toInt = 0 from by decide +kernel] at e1
  omega
theorem hc9ge {d : DS} (h : (3060 : Int32) ≤ nI (dl d)) (hl : dl d < 3060) : False := Int32.not_le.mpr (nI_lt (b := 3060) hl (by decide)) h
theorem hc9gz {d : DS} (h : (1575 : Int32) ≤ nI (dz d)) (hl : dz d < 1575) : False := Int32.not_le.mpr (nI_lt (b := 1575) hl (by decide)) h
theorem keep_eq {d : DS} (hz : dz d ≤ 1575) {g : Nat} (hg : g ≤ 1575) : (if (if nI g < 0 then 0 else nI g) < nI (dz d) then (if nI g < 0 then 0 else nI g) else nI (dz d)) = nI (if dz d ≤ g then dz d else g) := by
  rw [if_neg (nI_pos (n := g) (by omega))]
  by_cases h : dz d ≤ g
  · rw [if_pos h, if_neg (nI_nlt h (by omega))]
  · rw [if_neg h, if_pos (nI_lt (by omega) (by omega))]
set_option maxHeartbeats 4000000 in
set_option maxRecDepth 100000 in
theorem k_L_of (l : Launch) (D : va_G) (x : Int32) : KTi l y_L_of c_L_of 1 .int { frames := 0, cells := 0, slots := 0, locals := 0 } D [] [.int x] [] (cc_of x) [] := by
  refine KTi_of (own := R_L) (by decide +kernel) rfl (Nat.le_of_ble_eq_true rfl) (vp_nar_int _) ?_
  intro p e s m below meth c A ls Q hx hb hml hts hown hK hP hD hS hA hl fin
  refine lv_iload_n hx hb d_L_of_0 rfl (lv_at hl 0 rfl) ?_
  refine lv_if_le (tgt := 12) hx hb d_L_of_1 rfl (fun hc1 => ?_) (fun hc1 => ?_)
  · refine lv_iconst (v := 1) hx hb d_L_of_12 (by decide) ?_
    refine lv_bipush (v := 10) hx hb d_L_of_13 (by decide +kernel) ?_
    refine lv_iload_n hx hb d_L_of_15 rfl (lv_at hl 0 rfl) ?_
    refine lv_isub hx hb d_L_of_16 ?_
    refine lv_iconst (v := 1) hx hb d_L_of_17 (by decide) ?_
    refine lv_isub hx hb d_L_of_18 ?_
    refine lv_ishl hx hb d_L_of_19 ?_
    exact fin _ _ _ _ _ hP hD hS (by unfold cc_of; rw [if_neg (Int32.not_lt.mpr hc1)]) d_L_of_20
  · refine lv_iconst (v := 1) hx hb d_L_of_4 (by decide) ?_
    refine lv_iload_n hx hb d_L_of_5 rfl (lv_at hl 0 rfl) ?_
    refine lv_iconst (v := 1) hx hb d_L_of_6 (by decide) ?_
    refine lv_isub hx hb d_L_of_7 ?_
    refine lv_ishl hx hb d_L_of_8 ?_
    refine lv_goto (tgt := 20) hx hb d_L_of_9 rfl ?_
    exact fin _ _ _ _ _ hP hD hS (by unfold cc_of; rw [if_pos (Int32.not_le.mp hc1)]) d_L_of_20
set_option maxHeartbeats 4000000 in
set_option maxRecDepth 100000 in
theorem k_L_opposite (l : Launch) (D : va_G) (x : Int32) : KTi l y_L_opposite c_L_opposite 3 .int { frames := 0, cells := 0, slots := 0, locals := 0 } D [] [.int x] [] (cc_neg x) [] := by
  refine KTi_of (own := R_L) (by decide +kernel) rfl (Nat.le_of_ble_eq_true rfl) (vp_nar_int _) ?_
  intro p e s m below meth c A ls Q hx hb hml hts hown hK hP hD hS hA hl fin
  refine lv_iload_n hx hb d_L_opposite_0 rfl (lv_at hl 0 rfl) ?_
  refine lv_sipush (v := 1023) hx hb d_L_opposite_1 (by decide +kernel) ?_
  refine lv_iand hx hb d_L_opposite_4 ?_
  refine lv_istore_n (lv' := [(1, .int (x &&& 1023)), (0, .int x)]) hx hb d_L_opposite_5 rfl hl (by decide) rfl (fun ls hl => ?_)
  refine lv_iload_n hx hb d_L_opposite_6 rfl (lv_at hl 1 rfl) ?_
  refine lv_bipush (v := 10) hx hb d_L_opposite_7 (by decide +kernel) ?_
  refine lv_iushr (v := ((x : Int32).toUInt32 >>> ((10 : Int32).toUInt32 &&& Int32.toUInt32 31)).toInt32) hx hb d_L_opposite_9 rfl ?_
  refine lv_sipush (v := 1023) hx hb d_L_opposite_10 (by decide +kernel) ?_
  refine lv_iand hx hb d_L_opposite_13 ?_
  refine lv_istore_n (lv' := [(2, .int (((x : Int32).toUInt32 >>> ((10 : Int32).toUInt32 &&& Int32.toUInt32 31)).toInt32 &&& 1023)), (1, .int (x &&& 1023)), (0, .int x)]) hx hb d_L_opposite_14 rfl hl (by decide) rfl (fun ls hl => ?_)
  refine lv_iload_n hx hb d_L_opposite_15 rfl (lv_at hl 1 rfl) ?_
  refine lv_bipush (v := 10) hx hb d_L_opposite_16 (by decide +kernel) ?_
  refine lv_ishl hx hb d_L_opposite_18 ?_
  refine lv_iload_n hx hb d_L_opposite_19 rfl (lv_at hl 0 rfl) ?_
  refine lv_ior hx hb d_L_opposite_20 ?_
  exact fin _ _ _ _ _ hP hD hS (rfl) d_L_opposite_21
set_option maxHeartbeats 4000000 in
set_option maxRecDepth 100000 in
theorem k_L_isSingle (l : Launch) (D : va_G) (x : Int32) : KTi l y_L_isSingle c_L_isSingle 1 .boolean { frames := 0, cells := 0, slots := 0, locals := 0 } D [] [.int x] [] (if cc_singleB x = true then 1 else 0) [] := by
  refine KTi_of (own := R_L) (by decide +kernel) rfl (Nat.le_of_ble_eq_true rfl) (nar_if _) ?_
  intro p e s m below meth c A ls Q hx hb hml hts hown hK hP hD hS hA hl fin
  refine lv_iload_n hx hb d_L_isSingle_0 rfl (lv_at hl 0 rfl) ?_
  refine lv_if_eq (tgt := 16) hx hb d_L_isSingle_1 rfl (fun hc1 => ?_) (fun hc1 => ?_)
  · refine lv_iconst (v := 0) hx hb d_L_isSingle_16 (by decide) ?_
    exact fin _ _ _ _ _ hP hD hS (by rw [hc1]; rfl) d_L_isSingle_17
  · refine lv_iload_n hx hb d_L_isSingle_4 rfl (lv_at hl 0 rfl) ?_
    refine lv_iload_n hx hb d_L_isSingle_5 rfl (lv_at hl 0 rfl) ?_
    refine lv_iconst (v := 1) hx hb d_L_isSingle_6 (by decide) ?_
    refine lv_isub hx hb d_L_isSingle_7 ?_
    refine lv_iand hx hb d_L_isSingle_8 ?_
    refine lv_if_ne (tgt := 16) hx hb d_L_isSingle_9 rfl (fun hc9 => ?_) (fun hc9 => ?_)
    · refine lv_iconst (v := 0) hx hb d_L_isSingle_16 (by decide) ?_
      exact fin _ _ _ _ _ hP hD hS (by rw [if_neg (fun h => hc9 (singleB_iff.1 h).2)]) d_L_isSingle_17
    · refine lv_iconst (v := 1) hx hb d_L_isSingle_12 (by decide) ?_
      refine lv_goto (tgt := 17) hx hb d_L_isSingle_13 rfl ?_
      exact fin _ _ _ _ _ hP hD hS (by rw [if_pos (singleB_iff.2 ⟨hc1, hc9⟩)]) d_L_isSingle_17
set_option maxHeartbeats 4000000 in
set_option maxRecDepth 100000 in
theorem k_L_positivesUpTo (l : Launch) (D : va_G) (x : Int32) : KTi l y_L_positivesUpTo c_L_positivesUpTo 1 .int { frames := 0, cells := 0, slots := 0, locals := 0 } D [] [.int x] [] ((1 <<< (x &&& 31)) - 1) [] := by
  refine KTi_of (own := R_L) (by decide +kernel) rfl (Nat.le_of_ble_eq_true rfl) (vp_nar_int _) ?_
  intro p e s m below meth c A ls Q hx hb hml hts hown hK hP hD hS hA hl fin
  refine lv_iconst (v := 1) hx hb d_L_positivesUpTo_0 (by decide) ?_
  refine lv_iload_n hx hb d_L_positivesUpTo_1 rfl (lv_at hl 0 rfl) ?_
  refine lv_ishl hx hb d_L_positivesUpTo_2 ?_
  refine lv_iconst (v := 1) hx hb d_L_positivesUpTo_3 (by decide) ?_
  refine lv_isub hx hb d_L_positivesUpTo_4 ?_
  exact fin _ _ _ _ _ hP hD hS (rfl) d_L_positivesUpTo_5
set_option maxHeartbeats 4000000 in
set_option maxRecDepth 100000 in
theorem k_D_size (l : Launch) (D : va_G) (cI : ClassId) (h a1 a2 a3 a4 : Nat) (d : DS) (hd : DW d) : KTi l y_D_size c_D_size 1 .int { frames := 0, cells := 0, slots := 0, locals := 0 } D [(cI, .int)] [.ref h] (wD cI h a1 a2 a3 a4 d) (nI (dz d)) (wD cI h a1 a2 a3 a4 d) := by
  refine KTi_of (own := R_D) (by decide +kernel) rfl (Nat.le_of_ble_eq_true rfl) (vp_nar_int _) ?_
  intro p e s m below meth c A ls Q hx hb hml hts hown hK hP hD hS hA hl fin
  obtain ⟨hz, hlk⟩ := hd
  refine lv_aload_n hx hb d_D_size_0 rfl (lv_at hl 0 rfl) ?_
  refine va_get (D := D) (ci := 1) (v := .int (nI (dz d))) (C := R_D) (T := T_D) (N := 7) hx hb hts u_D hown hK hP 0 rfl rfl 4 (by decide) (hts _ f_D_35) (fun _ h9 => h9) rfl d_D_size_1 ?_
  exact fin _ _ _ _ _ hP hD hS (rfl) d_D_size_4
set_option maxHeartbeats 4000000 in
set_option maxRecDepth 100000 in
theorem k_D_has (l : Launch) (D : va_G) (cI : ClassId) (h a1 a2 a3 a4 : Nat) (d : DS) (hd : DW d) (i : Int32) : KTi l y_D_has c_D_has 2 .boolean { frames := 0, cells := 0, slots := 0, locals := 0 } D [(cI, .int)] [.ref h, .int i] (wD cI h a1 a2 a3 a4 d) (if 0 ≤ i ∧ i < nI (dz d) then 1 else 0) (wD cI h a1 a2 a3 a4 d) := by
  refine KTi_of (own := R_D) (by decide +kernel) rfl (Nat.le_of_ble_eq_true rfl) (nar_if _) ?_
  intro p e s m below meth c A ls Q hx hb hml hts hown hK hP hD hS hA hl fin
  obtain ⟨hz, hlk⟩ := hd
  refine lv_iload_n hx hb d_D_has_0 rfl (lv_at hl 1 rfl) ?_
  refine lv_if_lt (tgt := 16) hx hb d_D_has_1 rfl (fun hc1 => ?_) (fun hc1 => ?_)
  · refine lv_iconst (v := 0) hx hb d_D_has_16 (by decide) ?_
    exact fin _ _ _ _ _ hP hD hS ((if_neg (fun h => Int32.not_lt.mpr h.1 hc1)).symm) d_D_has_17
  · refine lv_iload_n hx hb d_D_has_4 rfl (lv_at hl 1 rfl) ?_
    refine lv_aload_n hx hb d_D_has_5 rfl (lv_at hl 0 rfl) ?_
    refine va_get (D := D) (ci := 1) (v := .int (nI (dz d))) (C := R_D) (T := T_D) (N := 7) hx hb hts u_D hown hK hP 0 rfl rfl 4 (by decide) (hts _ f_D_35) (fun _ h9 => h9) rfl d_D_has_6 ?_
    refine lv_icmp_ge (tgt := 16) hx hb d_D_has_9 rfl (fun hc9 => ?_) (fun hc9 => ?_)
    · refine lv_iconst (v := 0) hx hb d_D_has_16 (by decide) ?_
      exact fin _ _ _ _ _ hP hD hS ((if_neg (fun h => Int32.not_lt.mpr hc9 h.2)).symm) d_D_has_17
    · refine lv_iconst (v := 1) hx hb d_D_has_12 (by decide) ?_
      refine lv_goto (tgt := 17) hx hb d_D_has_13 rfl ?_
      exact fin _ _ _ _ _ hP hD hS ((if_pos ⟨Int32.not_lt.mp hc1, Int32.not_le.mp hc9⟩).symm) d_D_has_17
set_option maxHeartbeats 4000000 in
set_option maxRecDepth 100000 in
theorem k_D_clause (l : Launch) (D : va_G) (cI : ClassId) (h a1 a2 a3 a4 : Nat) (d : DS) (hd : DW d) (i : Int32) : KTi l y_D_clause c_D_clause 2 .int { frames := 1, cells := 0, slots := 0, locals := 21 } D [(cI, .int)] [.ref h, .int i] (wD cI h a1 a2 a3 a4 d) (dk_cl d i) (wD cI h a1 a2 a3 a4 d) := by
  refine KTi_of (own := R_D) (by decide +kernel) rfl (Nat.le_of_ble_eq_true rfl) (vp_nar_int _) ?_
  intro p e s m below meth c A ls Q hx hb hml hts hown hK hP hD hS hA hl fin
  obtain ⟨hz, hlk⟩ := hd
  refine lv_aload_n hx hb d_D_clause_0 rfl (lv_at hl 0 rfl) ?_
  refine lv_iload_n hx hb d_D_clause_1 rfl (lv_at hl 1 rfl) ?_
  refine CTi_V (isC := [0, 1, 2, 3, 4]) (isR := []) (wr := []) (wi := [(h, .inr (1, [.ref a1, .ref a2, .ref a3, .ref a4, .int (nI (dz d)), .int (nI (dl d)), .int (nI (dO d))])), (a1, .inl (cI, 1575, .inl (dC d))), (a2, .inl (cI, 1575, .inl (dF d))), (a3, .inl (cI, 1575, .inl (dT d))), (a4, .inl (cI, 3060, .inl (dK d)))]) (wo := [(h, .inr (1, [.ref a1, .ref a2, .ref a3, .ref a4, .int (nI (dz d)), .int (nI (dl d)), .int (nI (dO d))])), (a1, .inl (cI, 1575, .inl (dC d))), (a2, .inl (cI, 1575, .inl (dF d))), (a3, .inl (cI, 1575, .inl (dT d))), (a4, .inl (cI, 3060, .inl (dK d)))]) (b := h) (As := [.int i]) (rest := []) ⟨hx, hb, hml, hown, hts⟩ [0] (k_D_has l D cI h a1 a2 a3 a4 d ⟨hz, hlk⟩ i) (cwV 1 hts v_D_47 rfl rfl rfl (by decide +kernel) ⟨Nat.le_of_ble_eq_true rfl, Nat.le_of_ble_eq_true rfl⟩) ⟨rfl, rfl, rfl, rfl, by decide⟩ rfl hK hP hD hS hA (va_recv (ci := 1) hK hP rfl (q0 := 0) rfl) rfl hl.1 (Nat.le_of_ble_eq_true rfl) d_D_clause_2 ⟨Nat.le_of_ble_eq_true rfl, Nat.le_of_ble_eq_true rfl⟩ (fun H locs hP hD hS => ?_)
  have hP : va_P D cls_ [(h, .inr (1, [.ref a1, .ref a2, .ref a3, .ref a4, .int (nI (dz d)), .int (nI (dl d)), .int (nI (dO d))])), (a1, .inl (cI, 1575, .inl (dC d))), (a2, .inl (cI, 1575, .inl (dF d))), (a3, .inl (cI, 1575, .inl (dT d))), (a4, .inl (cI, 3060, .inl (dK d)))] H := hP
  have hD : va_D A [(h, .inr (1, [.ref a1, .ref a2, .ref a3, .ref a4, .int (nI (dz d)), .int (nI (dl d)), .int (nI (dO d))])), (a1, .inl (cI, 1575, .inl (dC d))), (a2, .inl (cI, 1575, .inl (dF d))), (a3, .inl (cI, 1575, .inl (dT d))), (a4, .inl (cI, 3060, .inl (dK d)))] := hD
  refine lv_if_eq (tgt := 17) hx hb d_D_clause_5 rfl (fun hc5 => ?_) (fun hc5 => ?_)
  · refine lv_iconst (v := 0) hx hb d_D_clause_17 (by decide) ?_
    exact fin _ _ _ _ _ hP hD hS ((if_neg (it0 hc5)).symm) d_D_clause_18
  · refine lv_aload_n hx hb d_D_clause_8 rfl (lv_at hl 0 rfl) ?_
    refine va_get (D := D) (ci := 1) (v := .ref a1) (C := R_D) (T := T_D) (N := 7) hx hb hts u_D hown hK hP 0 rfl rfl 0 (by decide) (hts _ f_D_11) (fun _ h9 => h9) rfl d_D_clause_9 ?_
    refine lv_iload_n hx hb d_D_clause_12 rfl (lv_at hl 1 rfl) ?_
    refine va_iald (D := D) (i := i) hx hb hK hP 1 0 rfl rfl (vin_of (it1 hc5).1 (it1 hc5).2 hz (by decide)) d_D_clause_13 ?_
    refine lv_goto (tgt := 18) hx hb d_D_clause_14 rfl ?_
    exact fin _ _ _ _ _ hP hD hS ((if_pos (it1 hc5)).symm) d_D_clause_18
set_option maxHeartbeats 4000000 in
set_option maxRecDepth 100000 in
theorem k_D_linksFrom (l : Launch) (D : va_G) (cI : ClassId) (h a1 a2 a3 a4 : Nat) (d : DS) (hd : DW d) (i : Int32) : KTi l y_D_linksFrom c_D_linksFrom 2 .int { frames := 1, cells := 0, slots := 0, locals := 21 } D [(cI, .int)] [.ref h, .int i] (wD cI h a1 a2 a3 a4 d) (dk_from d i) (wD cI h a1 a2 a3 a4 d) := by
  refine KTi_of (own := R_D) (by decide +kernel) rfl (Nat.le_of_ble_eq_true rfl) (vp_nar_int _) ?_
  intro p e s m below meth c A ls Q hx hb hml hts hown hK hP hD hS hA hl fin
  obtain ⟨hz, hlk⟩ := hd
  refine lv_aload_n hx hb d_D_linksFrom_0 rfl (lv_at hl 0 rfl) ?_
  refine lv_iload_n hx hb d_D_linksFrom_1 rfl (lv_at hl 1 rfl) ?_
  refine CTi_V (isC := [0, 1, 2, 3, 4]) (isR := []) (wr := []) (wi := [(h, .inr (1, [.ref a1, .ref a2, .ref a3, .ref a4, .int (nI (dz d)), .int (nI (dl d)), .int (nI (dO d))])), (a1, .inl (cI, 1575, .inl (dC d))), (a2, .inl (cI, 1575, .inl (dF d))), (a3, .inl (cI, 1575, .inl (dT d))), (a4, .inl (cI, 3060, .inl (dK d)))]) (wo := [(h, .inr (1, [.ref a1, .ref a2, .ref a3, .ref a4, .int (nI (dz d)), .int (nI (dl d)), .int (nI (dO d))])), (a1, .inl (cI, 1575, .inl (dC d))), (a2, .inl (cI, 1575, .inl (dF d))), (a3, .inl (cI, 1575, .inl (dT d))), (a4, .inl (cI, 3060, .inl (dK d)))]) (b := h) (As := [.int i]) (rest := []) ⟨hx, hb, hml, hown, hts⟩ [0] (k_D_has l D cI h a1 a2 a3 a4 d ⟨hz, hlk⟩ i) (cwV 1 hts v_D_47 rfl rfl rfl (by decide +kernel) ⟨Nat.le_of_ble_eq_true rfl, Nat.le_of_ble_eq_true rfl⟩) ⟨rfl, rfl, rfl, rfl, by decide⟩ rfl hK hP hD hS hA (va_recv (ci := 1) hK hP rfl (q0 := 0) rfl) rfl hl.1 (Nat.le_of_ble_eq_true rfl) d_D_linksFrom_2 ⟨Nat.le_of_ble_eq_true rfl, Nat.le_of_ble_eq_true rfl⟩ (fun H locs hP hD hS => ?_)
  have hP : va_P D cls_ [(h, .inr (1, [.ref a1, .ref a2, .ref a3, .ref a4, .int (nI (dz d)), .int (nI (dl d)), .int (nI (dO d))])), (a1, .inl (cI, 1575, .inl (dC d))), (a2, .inl (cI, 1575, .inl (dF d))), (a3, .inl (cI, 1575, .inl (dT d))), (a4, .inl (cI, 3060, .inl (dK d)))] H := hP
  have hD : va_D A [(h, .inr (1, [.ref a1, .ref a2, .ref a3, .ref a4, .int (nI (dz d)), .int (nI (dl d)), .int (nI (dO d))])), (a1, .inl (cI, 1575, .inl (dC d))), (a2, .inl (cI, 1575, .inl (dF d))), (a3, .inl (cI, 1575, .inl (dT d))), (a4, .inl (cI, 3060, .inl (dK d)))] := hD
  refine lv_if_eq (tgt := 17) hx hb d_D_linksFrom_5 rfl (fun hc5 => ?_) (fun hc5 => ?_)
  · refine lv_iconst (v := (-1)) hx hb d_D_linksFrom_17 (by decide) ?_
    exact fin _ _ _ _ _ hP hD hS ((if_neg (it0 hc5)).symm) d_D_linksFrom_18
  · refine lv_aload_n hx hb d_D_linksFrom_8 rfl (lv_at hl 0 rfl) ?_
    refine va_get (D := D) (ci := 1) (v := .ref a2) (C := R_D) (T := T_D) (N := 7) hx hb hts u_D hown hK hP 0 rfl rfl 1 (by decide) (hts _ f_D_15) (fun _ h9 => h9) rfl d_D_linksFrom_9 ?_
    refine lv_iload_n hx hb d_D_linksFrom_12 rfl (lv_at hl 1 rfl) ?_
    refine va_iald (D := D) (i := i) hx hb hK hP 2 0 rfl rfl (vin_of (it1 hc5).1 (it1 hc5).2 hz (by decide)) d_D_linksFrom_13 ?_
    refine lv_goto (tgt := 18) hx hb d_D_linksFrom_14 rfl ?_
    exact fin _ _ _ _ _ hP hD hS ((if_pos (it1 hc5)).symm) d_D_linksFrom_18
set_option maxHeartbeats 4000000 in
set_option maxRecDepth 100000 in
theorem k_D_linksTo (l : Launch) (D : va_G) (cI : ClassId) (h a1 a2 a3 a4 : Nat) (d : DS) (hd : DW d) (i : Int32) : KTi l y_D_linksTo c_D_linksTo 2 .int { frames := 1, cells := 0, slots := 0, locals := 21 } D [(cI, .int)] [.ref h, .int i] (wD cI h a1 a2 a3 a4 d) (dk_to d i) (wD cI h a1 a2 a3 a4 d) := by
  refine KTi_of (own := R_D) (by decide +kernel) rfl (Nat.le_of_ble_eq_true rfl) (vp_nar_int _) ?_
  intro p e s m below meth c A ls Q hx hb hml hts hown hK hP hD hS hA hl fin
  obtain ⟨hz, hlk⟩ := hd
  refine lv_aload_n hx hb d_D_linksTo_0 rfl (lv_at hl 0 rfl) ?_
  refine lv_iload_n hx hb d_D_linksTo_1 rfl (lv_at hl 1 rfl) ?_
  refine CTi_V (isC := [0, 1, 2, 3, 4]) (isR := []) (wr := []) (wi := [(h, .inr (1, [.ref a1, .ref a2, .ref a3, .ref a4, .int (nI (dz d)), .int (nI (dl d)), .int (nI (dO d))])), (a1, .inl (cI, 1575, .inl (dC d))), (a2, .inl (cI, 1575, .inl (dF d))), (a3, .inl (cI, 1575, .inl (dT d))), (a4, .inl (cI, 3060, .inl (dK d)))]) (wo := [(h, .inr (1, [.ref a1, .ref a2, .ref a3, .ref a4, .int (nI (dz d)), .int (nI (dl d)), .int (nI (dO d))])), (a1, .inl (cI, 1575, .inl (dC d))), (a2, .inl (cI, 1575, .inl (dF d))), (a3, .inl (cI, 1575, .inl (dT d))), (a4, .inl (cI, 3060, .inl (dK d)))]) (b := h) (As := [.int i]) (rest := []) ⟨hx, hb, hml, hown, hts⟩ [0] (k_D_has l D cI h a1 a2 a3 a4 d ⟨hz, hlk⟩ i) (cwV 1 hts v_D_47 rfl rfl rfl (by decide +kernel) ⟨Nat.le_of_ble_eq_true rfl, Nat.le_of_ble_eq_true rfl⟩) ⟨rfl, rfl, rfl, rfl, by decide⟩ rfl hK hP hD hS hA (va_recv (ci := 1) hK hP rfl (q0 := 0) rfl) rfl hl.1 (Nat.le_of_ble_eq_true rfl) d_D_linksTo_2 ⟨Nat.le_of_ble_eq_true rfl, Nat.le_of_ble_eq_true rfl⟩ (fun H locs hP hD hS => ?_)
  have hP : va_P D cls_ [(h, .inr (1, [.ref a1, .ref a2, .ref a3, .ref a4, .int (nI (dz d)), .int (nI (dl d)), .int (nI (dO d))])), (a1, .inl (cI, 1575, .inl (dC d))), (a2, .inl (cI, 1575, .inl (dF d))), (a3, .inl (cI, 1575, .inl (dT d))), (a4, .inl (cI, 3060, .inl (dK d)))] H := hP
  have hD : va_D A [(h, .inr (1, [.ref a1, .ref a2, .ref a3, .ref a4, .int (nI (dz d)), .int (nI (dl d)), .int (nI (dO d))])), (a1, .inl (cI, 1575, .inl (dC d))), (a2, .inl (cI, 1575, .inl (dF d))), (a3, .inl (cI, 1575, .inl (dT d))), (a4, .inl (cI, 3060, .inl (dK d)))] := hD
  refine lv_if_eq (tgt := 17) hx hb d_D_linksTo_5 rfl (fun hc5 => ?_) (fun hc5 => ?_)
  · refine lv_iconst (v := (-1)) hx hb d_D_linksTo_17 (by decide) ?_
    exact fin _ _ _ _ _ hP hD hS ((if_neg (it0 hc5)).symm) d_D_linksTo_18
  · refine lv_aload_n hx hb d_D_linksTo_8 rfl (lv_at hl 0 rfl) ?_
    refine va_get (D := D) (ci := 1) (v := .ref a3) (C := R_D) (T := T_D) (N := 7) hx hb hts u_D hown hK hP 0 rfl rfl 2 (by decide) (hts _ f_D_18) (fun _ h9 => h9) rfl d_D_linksTo_9 ?_
    refine lv_iload_n hx hb d_D_linksTo_12 rfl (lv_at hl 1 rfl) ?_
    refine va_iald (D := D) (i := i) hx hb hK hP 3 0 rfl rfl (vin_of (it1 hc5).1 (it1 hc5).2 hz (by decide)) d_D_linksTo_13 ?_
    refine lv_goto (tgt := 18) hx hb d_D_linksTo_14 rfl ?_
    exact fin _ _ _ _ _ hP hD hS ((if_pos (it1 hc5)).symm) d_D_linksTo_18
set_option maxHeartbeats 4000000 in
set_option maxRecDepth 100000 in
theorem k_D_linkAt (l : Launch) (D : va_G) (cI : ClassId) (h a1 a2 a3 a4 : Nat) (d : DS) (hd : DW d) (i : Int32) : KTi l y_D_linkAt c_D_linkAt 2 .int { frames := 0, cells := 0, slots := 0, locals := 0 } D [(cI, .int)] [.ref h, .int i] (wD cI h a1 a2 a3 a4 d) (dk_linkAt d i) (wD cI h a1 a2 a3 a4 d) := by
  refine KTi_of (own := R_D) (by decide +kernel) rfl (Nat.le_of_ble_eq_true rfl) (vp_nar_int _) ?_
  intro p e s m below meth c A ls Q hx hb hml hts hown hK hP hD hS hA hl fin
  obtain ⟨hz, hlk⟩ := hd
  refine lv_iload_n hx hb d_D_linkAt_0 rfl (lv_at hl 1 rfl) ?_
  refine lv_if_lt (tgt := 21) hx hb d_D_linkAt_1 rfl (fun hc1 => ?_) (fun hc1 => ?_)
  · refine lv_iconst (v := (-1)) hx hb d_D_linkAt_21 (by decide) ?_
    exact fin _ _ _ _ _ hP hD hS ((if_neg (fun h => Int32.not_lt.mpr h.1 hc1)).symm) d_D_linkAt_22
  · refine lv_iload_n hx hb d_D_linkAt_4 rfl (lv_at hl 1 rfl) ?_
    refine lv_aload_n hx hb d_D_linkAt_5 rfl (lv_at hl 0 rfl) ?_
    refine va_get (D := D) (ci := 1) (v := .int (nI (dl d))) (C := R_D) (T := T_D) (N := 7) hx hb hts u_D hown hK hP 0 rfl rfl 5 (by decide) (hts _ f_D_28) (fun _ h9 => h9) rfl d_D_linkAt_6 ?_
    refine lv_icmp_ge (tgt := 21) hx hb d_D_linkAt_9 rfl (fun hc9 => ?_) (fun hc9 => ?_)
    · refine lv_iconst (v := (-1)) hx hb d_D_linkAt_21 (by decide) ?_
      exact fin _ _ _ _ _ hP hD hS ((if_neg (fun h => Int32.not_lt.mpr hc9 h.2)).symm) d_D_linkAt_22
    · refine lv_aload_n hx hb d_D_linkAt_12 rfl (lv_at hl 0 rfl) ?_
      refine va_get (D := D) (ci := 1) (v := .ref a4) (C := R_D) (T := T_D) (N := 7) hx hb hts u_D hown hK hP 0 rfl rfl 3 (by decide) (hts _ f_D_21) (fun _ h9 => h9) rfl d_D_linkAt_13 ?_
      refine lv_iload_n hx hb d_D_linkAt_16 rfl (lv_at hl 1 rfl) ?_
      refine va_iald (D := D) (i := i) hx hb hK hP 4 0 rfl rfl (vin_of (Int32.not_lt.mp hc1) (Int32.not_le.mp hc9) hlk (by decide)) d_D_linkAt_17 ?_
      refine lv_goto (tgt := 22) hx hb d_D_linkAt_18 rfl ?_
      exact fin _ _ _ _ _ hP hD hS ((if_pos ⟨Int32.not_lt.mp hc1, Int32.not_le.mp hc9⟩).symm) d_D_linkAt_22
set_option maxHeartbeats 4000000 in
set_option maxRecDepth 100000 in
theorem k_D_isDerived (l : Launch) (D : va_G) (cI : ClassId) (h a1 a2 a3 a4 : Nat) (d : DS) (hd : DW d) (i : Int32) : KTi l y_D_isDerived c_D_isDerived 2 .boolean { frames := 2, cells := 0, slots := 0, locals := 42 } D [(cI, .int)] [.ref h, .int i] (wD cI h a1 a2 a3 a4 d) (if dk_from d i = -1 then 0 else 1) (wD cI h a1 a2 a3 a4 d) := by
  refine KTi_of (own := R_D) (by decide +kernel) rfl (Nat.le_of_ble_eq_true rfl) (nar_if2 _) ?_
  intro p e s m below meth c A ls Q hx hb hml hts hown hK hP hD hS hA hl fin
  obtain ⟨hz, hlk⟩ := hd
  refine lv_aload_n hx hb d_D_isDerived_0 rfl (lv_at hl 0 rfl) ?_
  refine lv_iload_n hx hb d_D_isDerived_1 rfl (lv_at hl 1 rfl) ?_
  refine CTi_V (isC := [0, 1, 2, 3, 4]) (isR := []) (wr := []) (wi := [(h, .inr (1, [.ref a1, .ref a2, .ref a3, .ref a4, .int (nI (dz d)), .int (nI (dl d)), .int (nI (dO d))])), (a1, .inl (cI, 1575, .inl (dC d))), (a2, .inl (cI, 1575, .inl (dF d))), (a3, .inl (cI, 1575, .inl (dT d))), (a4, .inl (cI, 3060, .inl (dK d)))]) (wo := [(h, .inr (1, [.ref a1, .ref a2, .ref a3, .ref a4, .int (nI (dz d)), .int (nI (dl d)), .int (nI (dO d))])), (a1, .inl (cI, 1575, .inl (dC d))), (a2, .inl (cI, 1575, .inl (dF d))), (a3, .inl (cI, 1575, .inl (dT d))), (a4, .inl (cI, 3060, .inl (dK d)))]) (b := h) (As := [.int i]) (rest := []) ⟨hx, hb, hml, hown, hts⟩ [0] (k_D_linksFrom l D cI h a1 a2 a3 a4 d ⟨hz, hlk⟩ i) (cwV 1 hts v_D_51 rfl rfl rfl (by decide +kernel) ⟨Nat.le_of_ble_eq_true rfl, Nat.le_of_ble_eq_true rfl⟩) ⟨rfl, rfl, rfl, rfl, by decide⟩ rfl hK hP hD hS hA (va_recv (ci := 1) hK hP rfl (q0 := 0) rfl) rfl hl.1 (Nat.le_of_ble_eq_true rfl) d_D_isDerived_2 ⟨Nat.le_of_ble_eq_true rfl, Nat.le_of_ble_eq_true rfl⟩ (fun H locs hP hD hS => ?_)
  have hP : va_P D cls_ [(h, .inr (1, [.ref a1, .ref a2, .ref a3, .ref a4, .int (nI (dz d)), .int (nI (dl d)), .int (nI (dO d))])), (a1, .inl (cI, 1575, .inl (dC d))), (a2, .inl (cI, 1575, .inl (dF d))), (a3, .inl (cI, 1575, .inl (dT d))), (a4, .inl (cI, 3060, .inl (dK d)))] H := hP
  have hD : va_D A [(h, .inr (1, [.ref a1, .ref a2, .ref a3, .ref a4, .int (nI (dz d)), .int (nI (dl d)), .int (nI (dO d))])), (a1, .inl (cI, 1575, .inl (dC d))), (a2, .inl (cI, 1575, .inl (dF d))), (a3, .inl (cI, 1575, .inl (dT d))), (a4, .inl (cI, 3060, .inl (dK d)))] := hD
  refine lv_iconst (v := (-1)) hx hb d_D_isDerived_5 (by decide) ?_
  refine lv_icmp_eq (tgt := 13) hx hb d_D_isDerived_6 rfl (fun hc6 => ?_) (fun hc6 => ?_)
  · refine lv_iconst (v := 0) hx hb d_D_isDerived_13 (by decide) ?_
    exact fin _ _ _ _ _ hP hD hS ((if_pos hc6).symm) d_D_isDerived_14
  · refine lv_iconst (v := 1) hx hb d_D_isDerived_9 (by decide) ?_
    refine lv_goto (tgt := 14) hx hb d_D_isDerived_10 rfl ?_
    exact fin _ _ _ _ _ hP hD hS ((if_neg hc6).symm) d_D_isDerived_14
set_option maxHeartbeats 4000000 in
set_option maxRecDepth 100000 in
theorem k_D_link (l : Launch) (D : va_G) (cI : ClassId) (h a1 a2 a3 a4 : Nat) (d : DS) (hd : DW d) (x : Int32) : KTv l y_D_link c_D_link 2 { frames := 0, cells := 0, slots := 0, locals := 0 } D [(cI, .int)] [.ref h, .int x] (wD cI h a1 a2 a3 a4 d) (wD cI h a1 a2 a3 a4 (dk_link d x)) := by
  refine KTv_of (own := R_D) (by decide +kernel) rfl (Nat.le_of_ble_eq_true rfl) ?_
  intro p e s m below meth c A ls Q hx hb hml hts hown hK hP hD hS hA hl fin
  obtain ⟨hz, hlk⟩ := hd
  refine lv_aload_n hx hb d_D_link_0 rfl (lv_at hl 0 rfl) ?_
  refine va_get (D := D) (ci := 1) (v := .int (nI (dl d))) (C := R_D) (T := T_D) (N := 7) hx hb hts u_D hown hK hP 0 rfl rfl 5 (by decide) (hts _ f_D_28) (fun _ h9 => h9) rfl d_D_link_1 ?_
  refine lv_aload_n hx hb d_D_link_4 rfl (lv_at hl 0 rfl) ?_
  refine va_get (D := D) (ci := 1) (v := .ref a4) (C := R_D) (T := T_D) (N := 7) hx hb hts u_D hown hK hP 0 rfl rfl 3 (by decide) (hts _ f_D_21) (fun _ h9 => h9) rfl d_D_link_5 ?_
  refine va_alen (v := 3060) hx hb hK hP 4 0 rfl rfl rfl d_D_link_8 ?_
  refine lv_icmp_ge (tgt := 32) hx hb d_D_link_9 rfl (fun hc9 => ?_) (fun hc9 => ?_)
  · have e9 : dk_link d x = d := if_neg (fun h => hc9ge (d := d) hc9 h)
    rw [e9] at fin
    exact fin _ _ _ _ hP hD hS d_D_link_32
  · have hlt : dl d < 3060 := (nI_ltI (by omega) (by decide)).1 (Int32.not_le.mp hc9)
    refine lv_aload_n hx hb d_D_link_12 rfl (lv_at hl 0 rfl) ?_
    refine va_get (D := D) (ci := 1) (v := .ref a4) (C := R_D) (T := T_D) (N := 7) hx hb hts u_D hown hK hP 0 rfl rfl 3 (by decide) (hts _ f_D_21) (fun _ h9 => h9) rfl d_D_link_13 ?_
    refine lv_aload_n hx hb d_D_link_16 rfl (lv_at hl 0 rfl) ?_
    refine va_get (D := D) (ci := 1) (v := .int (nI (dl d))) (C := R_D) (T := T_D) (N := 7) hx hb hts u_D hown hK hP 0 rfl rfl 5 (by decide) (hts _ f_D_28) (fun _ h9 => h9) rfl d_D_link_17 ?_
    refine lv_iload_n hx hb d_D_link_20 rfl (lv_at hl 1 rfl) ?_
    refine va_iast (D := D) (i := (nI (dl d))) (x := x) hx hb hK hP hD hS 4 0 rfl rfl (vp_in_nI hlt (by decide)) d_D_link_21 (fun H locs hP hD hS => ?_)
    rw [show ((nI (dl d)) : Int32).toNatClampNeg = (dl d) from nI_clamp (by omega)] at hP hD
    have hP : va_P D cls_ [(h, .inr (1, [.ref a1, .ref a2, .ref a3, .ref a4, .int (nI (dz d)), .int (nI (dl d)), .int (nI (dO d))])), (a1, .inl (cI, 1575, .inl (dC d))), (a2, .inl (cI, 1575, .inl (dF d))), (a3, .inl (cI, 1575, .inl (dT d))), (a4, .inl (cI, 3060, .inl (upd (dK d) ((dl d)) (x))))] H := hP
    have hD : va_D A [(h, .inr (1, [.ref a1, .ref a2, .ref a3, .ref a4, .int (nI (dz d)), .int (nI (dl d)), .int (nI (dO d))])), (a1, .inl (cI, 1575, .inl (dC d))), (a2, .inl (cI, 1575, .inl (dF d))), (a3, .inl (cI, 1575, .inl (dT d))), (a4, .inl (cI, 3060, .inl (upd (dK d) ((dl d)) (x))))] := hD
    refine lv_aload_n hx hb d_D_link_22 rfl (lv_at hl 0 rfl) ?_
    refine lv_dup hx hb d_D_link_23 rfl ?_
    refine va_get (D := D) (ci := 1) (v := .int (nI (dl d))) (C := R_D) (T := T_D) (N := 7) hx hb hts u_D hown hK hP 0 rfl rfl 5 (by decide) (hts _ f_D_28) (fun _ h9 => h9) rfl d_D_link_24 ?_
    refine lv_iconst (v := 1) hx hb d_D_link_27 (by decide) ?_
    refine lv_iadd hx hb d_D_link_28 ?_
    refine va_put (D := D) (ci := 1) (v := .int ((nI (dl d)) + 1)) (ty := .int) (C := R_D) (T := T_D) (N := 7) hx hb hts u_D t_D t_D_ok n_D hown hK hP hD hS 0 rfl rfl 5 (by decide) (hts _ f_D_28) (fun _ h9 => h9) rfl (by decide +kernel) rfl rfl (Nat.le_of_ble_eq_true rfl) d_D_link_29 (fun H locs hP hD hS => ?_)
    have hP : va_P D cls_ [(h, .inr (1, [.ref a1, .ref a2, .ref a3, .ref a4, .int (nI (dz d)), .int ((nI (dl d)) + 1), .int (nI (dO d))])), (a1, .inl (cI, 1575, .inl (dC d))), (a2, .inl (cI, 1575, .inl (dF d))), (a3, .inl (cI, 1575, .inl (dT d))), (a4, .inl (cI, 3060, .inl (upd (dK d) ((dl d)) (x))))] H := hP
    have hD : va_D A [(h, .inr (1, [.ref a1, .ref a2, .ref a3, .ref a4, .int (nI (dz d)), .int ((nI (dl d)) + 1), .int (nI (dO d))])), (a1, .inl (cI, 1575, .inl (dC d))), (a2, .inl (cI, 1575, .inl (dF d))), (a3, .inl (cI, 1575, .inl (dT d))), (a4, .inl (cI, 3060, .inl (upd (dK d) ((dl d)) (x))))] := hD
    have e9 : dk_link d x = (dC d, dF d, dT d, upd (dK d) (dl d) x, dz d, dl d + 1, dO d) := if_pos hlt
    rw [e9] at fin
    rw [nI_1] at hP hD
    exact fin _ _ _ _ hP hD hS d_D_link_32
set_option maxHeartbeats 4000000 in
set_option maxRecDepth 100000 in
theorem k_D_append (l : Launch) (D : va_G) (cI : ClassId) (h a1 a2 a3 a4 : Nat) (d : DS) (hd : DW d) (x : Int32) (f : Int32) (t : Int32) : KTv l y_D_append c_D_append 4 { frames := 0, cells := 0, slots := 0, locals := 0 } D [(cI, .int)] [.ref h, .int x, .int f, .int t] (wD cI h a1 a2 a3 a4 d) (wD cI h a1 a2 a3 a4 (dk_append d x f t)) := by
  refine KTv_of (own := R_D) (by decide +kernel) rfl (Nat.le_of_ble_eq_true rfl) ?_
  intro p e s m below meth c A ls Q hx hb hml hts hown hK hP hD hS hA hl fin
  obtain ⟨hz, hlk⟩ := hd
  refine lv_aload_n hx hb d_D_append_0 rfl (lv_at hl 0 rfl) ?_
  refine va_get (D := D) (ci := 1) (v := .int (nI (dz d))) (C := R_D) (T := T_D) (N := 7) hx hb hts u_D hown hK hP 0 rfl rfl 4 (by decide) (hts _ f_D_35) (fun _ h9 => h9) rfl d_D_append_1 ?_
  refine lv_aload_n hx hb d_D_append_4 rfl (lv_at hl 0 rfl) ?_
  refine va_get (D := D) (ci := 1) (v := .ref a1) (C := R_D) (T := T_D) (N := 7) hx hb hts u_D hown hK hP 0 rfl rfl 0 (by decide) (hts _ f_D_11) (fun _ h9 => h9) rfl d_D_append_5 ?_
  refine va_alen (v := 1575) hx hb hK hP 1 0 rfl rfl rfl d_D_append_8 ?_
  refine lv_icmp_ge (tgt := 52) hx hb d_D_append_9 rfl (fun hc9 => ?_) (fun hc9 => ?_)
  · have e9 : dk_append d x f t = d := if_neg (fun h => hc9gz (d := d) hc9 h)
    rw [e9] at fin
    exact fin _ _ _ _ hP hD hS d_D_append_52
  · have hlt : dz d < 1575 := (nI_ltI (by omega) (by decide)).1 (Int32.not_le.mp hc9)
    refine lv_aload_n hx hb d_D_append_12 rfl (lv_at hl 0 rfl) ?_
    refine va_get (D := D) (ci := 1) (v := .ref a1) (C := R_D) (T := T_D) (N := 7) hx hb hts u_D hown hK hP 0 rfl rfl 0 (by decide) (hts _ f_D_11) (fun _ h9 => h9) rfl d_D_append_13 ?_
    refine lv_aload_n hx hb d_D_append_16 rfl (lv_at hl 0 rfl) ?_
    refine va_get (D := D) (ci := 1) (v := .int (nI (dz d))) (C := R_D) (T := T_D) (N := 7) hx hb hts u_D hown hK hP 0 rfl rfl 4 (by decide) (hts _ f_D_35) (fun _ h9 => h9) rfl d_D_append_17 ?_
    refine lv_iload_n hx hb d_D_append_20 rfl (lv_at hl 1 rfl) ?_
    refine va_iast (D := D) (i := (nI (dz d))) (x := x) hx hb hK hP hD hS 1 0 rfl rfl (vp_in_nI hlt (by decide)) d_D_append_21 (fun H locs hP hD hS => ?_)
    rw [show ((nI (dz d)) : Int32).toNatClampNeg = (dz d) from nI_clamp (by omega)] at hP hD
    have hP : va_P D cls_ [(h, .inr (1, [.ref a1, .ref a2, .ref a3, .ref a4, .int (nI (dz d)), .int (nI (dl d)), .int (nI (dO d))])), (a1, .inl (cI, 1575, .inl (upd (dC d) ((dz d)) (x)))), (a2, .inl (cI, 1575, .inl (dF d))), (a3, .inl (cI, 1575, .inl (dT d))), (a4, .inl (cI, 3060, .inl (dK d)))] H := hP
    have hD : va_D A [(h, .inr (1, [.ref a1, .ref a2, .ref a3, .ref a4, .int (nI (dz d)), .int (nI (dl d)), .int (nI (dO d))])), (a1, .inl (cI, 1575, .inl (upd (dC d) ((dz d)) (x)))), (a2, .inl (cI, 1575, .inl (dF d))), (a3, .inl (cI, 1575, .inl (dT d))), (a4, .inl (cI, 3060, .inl (dK d)))] := hD
    refine lv_aload_n hx hb d_D_append_22 rfl (lv_at hl 0 rfl) ?_
    refine va_get (D := D) (ci := 1) (v := .ref a2) (C := R_D) (T := T_D) (N := 7) hx hb hts u_D hown hK hP 0 rfl rfl 1 (by decide) (hts _ f_D_15) (fun _ h9 => h9) rfl d_D_append_23 ?_
    refine lv_aload_n hx hb d_D_append_26 rfl (lv_at hl 0 rfl) ?_
    refine va_get (D := D) (ci := 1) (v := .int (nI (dz d))) (C := R_D) (T := T_D) (N := 7) hx hb hts u_D hown hK hP 0 rfl rfl 4 (by decide) (hts _ f_D_35) (fun _ h9 => h9) rfl d_D_append_27 ?_
    refine lv_iload_n hx hb d_D_append_30 rfl (lv_at hl 2 rfl) ?_
    refine va_iast (D := D) (i := (nI (dz d))) (x := f) hx hb hK hP hD hS 2 0 rfl rfl (vp_in_nI hlt (by decide)) d_D_append_31 (fun H locs hP hD hS => ?_)
    rw [show ((nI (dz d)) : Int32).toNatClampNeg = (dz d) from nI_clamp (by omega)] at hP hD
    have hP : va_P D cls_ [(h, .inr (1, [.ref a1, .ref a2, .ref a3, .ref a4, .int (nI (dz d)), .int (nI (dl d)), .int (nI (dO d))])), (a1, .inl (cI, 1575, .inl (upd (dC d) ((dz d)) (x)))), (a2, .inl (cI, 1575, .inl (upd (dF d) ((dz d)) (f)))), (a3, .inl (cI, 1575, .inl (dT d))), (a4, .inl (cI, 3060, .inl (dK d)))] H := hP
    have hD : va_D A [(h, .inr (1, [.ref a1, .ref a2, .ref a3, .ref a4, .int (nI (dz d)), .int (nI (dl d)), .int (nI (dO d))])), (a1, .inl (cI, 1575, .inl (upd (dC d) ((dz d)) (x)))), (a2, .inl (cI, 1575, .inl (upd (dF d) ((dz d)) (f)))), (a3, .inl (cI, 1575, .inl (dT d))), (a4, .inl (cI, 3060, .inl (dK d)))] := hD
    refine lv_aload_n hx hb d_D_append_32 rfl (lv_at hl 0 rfl) ?_
    refine va_get (D := D) (ci := 1) (v := .ref a3) (C := R_D) (T := T_D) (N := 7) hx hb hts u_D hown hK hP 0 rfl rfl 2 (by decide) (hts _ f_D_18) (fun _ h9 => h9) rfl d_D_append_33 ?_
    refine lv_aload_n hx hb d_D_append_36 rfl (lv_at hl 0 rfl) ?_
    refine va_get (D := D) (ci := 1) (v := .int (nI (dz d))) (C := R_D) (T := T_D) (N := 7) hx hb hts u_D hown hK hP 0 rfl rfl 4 (by decide) (hts _ f_D_35) (fun _ h9 => h9) rfl d_D_append_37 ?_
    refine lv_iload_n hx hb d_D_append_40 rfl (lv_at hl 3 rfl) ?_
    refine va_iast (D := D) (i := (nI (dz d))) (x := t) hx hb hK hP hD hS 3 0 rfl rfl (vp_in_nI hlt (by decide)) d_D_append_41 (fun H locs hP hD hS => ?_)
    rw [show ((nI (dz d)) : Int32).toNatClampNeg = (dz d) from nI_clamp (by omega)] at hP hD
    have hP : va_P D cls_ [(h, .inr (1, [.ref a1, .ref a2, .ref a3, .ref a4, .int (nI (dz d)), .int (nI (dl d)), .int (nI (dO d))])), (a1, .inl (cI, 1575, .inl (upd (dC d) ((dz d)) (x)))), (a2, .inl (cI, 1575, .inl (upd (dF d) ((dz d)) (f)))), (a3, .inl (cI, 1575, .inl (upd (dT d) ((dz d)) (t)))), (a4, .inl (cI, 3060, .inl (dK d)))] H := hP
    have hD : va_D A [(h, .inr (1, [.ref a1, .ref a2, .ref a3, .ref a4, .int (nI (dz d)), .int (nI (dl d)), .int (nI (dO d))])), (a1, .inl (cI, 1575, .inl (upd (dC d) ((dz d)) (x)))), (a2, .inl (cI, 1575, .inl (upd (dF d) ((dz d)) (f)))), (a3, .inl (cI, 1575, .inl (upd (dT d) ((dz d)) (t)))), (a4, .inl (cI, 3060, .inl (dK d)))] := hD
    refine lv_aload_n hx hb d_D_append_42 rfl (lv_at hl 0 rfl) ?_
    refine lv_dup hx hb d_D_append_43 rfl ?_
    refine va_get (D := D) (ci := 1) (v := .int (nI (dz d))) (C := R_D) (T := T_D) (N := 7) hx hb hts u_D hown hK hP 0 rfl rfl 4 (by decide) (hts _ f_D_35) (fun _ h9 => h9) rfl d_D_append_44 ?_
    refine lv_iconst (v := 1) hx hb d_D_append_47 (by decide) ?_
    refine lv_iadd hx hb d_D_append_48 ?_
    refine va_put (D := D) (ci := 1) (v := .int ((nI (dz d)) + 1)) (ty := .int) (C := R_D) (T := T_D) (N := 7) hx hb hts u_D t_D t_D_ok n_D hown hK hP hD hS 0 rfl rfl 4 (by decide) (hts _ f_D_35) (fun _ h9 => h9) rfl (by decide +kernel) rfl rfl (Nat.le_of_ble_eq_true rfl) d_D_append_49 (fun H locs hP hD hS => ?_)
    have hP : va_P D cls_ [(h, .inr (1, [.ref a1, .ref a2, .ref a3, .ref a4, .int ((nI (dz d)) + 1), .int (nI (dl d)), .int (nI (dO d))])), (a1, .inl (cI, 1575, .inl (upd (dC d) ((dz d)) (x)))), (a2, .inl (cI, 1575, .inl (upd (dF d) ((dz d)) (f)))), (a3, .inl (cI, 1575, .inl (upd (dT d) ((dz d)) (t)))), (a4, .inl (cI, 3060, .inl (dK d)))] H := hP
    have hD : va_D A [(h, .inr (1, [.ref a1, .ref a2, .ref a3, .ref a4, .int ((nI (dz d)) + 1), .int (nI (dl d)), .int (nI (dO d))])), (a1, .inl (cI, 1575, .inl (upd (dC d) ((dz d)) (x)))), (a2, .inl (cI, 1575, .inl (upd (dF d) ((dz d)) (f)))), (a3, .inl (cI, 1575, .inl (upd (dT d) ((dz d)) (t)))), (a4, .inl (cI, 3060, .inl (dK d)))] := hD
    have e9 : dk_append d x f t = (upd (dC d) (dz d) x, upd (dF d) (dz d) f, upd (dT d) (dz d) t, dK d, dz d + 1, dl d, dO d) := if_pos hlt
    rw [e9] at fin
    rw [nI_1] at hP hD
    exact fin _ _ _ _ hP hD hS d_D_append_52
set_option maxHeartbeats 4000000 in
set_option maxRecDepth 100000 in
theorem k_D_give (l : Launch) (D : va_G) (cI : ClassId) (h a1 a2 a3 a4 : Nat) (d : DS) (hd : DW d) (x : Int32) : KTv l y_D_give c_D_give 2 { frames := 1, cells := 0, slots := 0, locals := 23 } D [(cI, .int)] [.ref h, .int x] (wD cI h a1 a2 a3 a4 d) (wD cI h a1 a2 a3 a4 (dk_give d x)) := by
  refine KTv_of (own := R_D) (by decide +kernel) rfl (Nat.le_of_ble_eq_true rfl) ?_
  intro p e s m below meth c A ls Q hx hb hml hts hown hK hP hD hS hA hl fin
  obtain ⟨hz, hlk⟩ := hd
  refine lv_aload_n hx hb d_D_give_0 rfl (lv_at hl 0 rfl) ?_
  refine lv_iload_n hx hb d_D_give_1 rfl (lv_at hl 1 rfl) ?_
  refine lv_iconst (v := (-1)) hx hb d_D_give_2 (by decide) ?_
  refine lv_iconst (v := (-1)) hx hb d_D_give_3 (by decide) ?_
  refine CTv_V (isC := [0, 1, 2, 3, 4]) (isR := []) (wr := []) (wi := [(h, .inr (1, [.ref a1, .ref a2, .ref a3, .ref a4, .int (nI (dz d)), .int (nI (dl d)), .int (nI (dO d))])), (a1, .inl (cI, 1575, .inl (dC d))), (a2, .inl (cI, 1575, .inl (dF d))), (a3, .inl (cI, 1575, .inl (dT d))), (a4, .inl (cI, 3060, .inl (dK d)))]) (wo := [(h, .inr (1, [.ref a1, .ref a2, .ref a3, .ref a4, .int (nI (dz (dk_append d x (-1) (-1)))), .int (nI (dl (dk_append d x (-1) (-1)))), .int (nI (dO (dk_append d x (-1) (-1))))])), (a1, .inl (cI, 1575, .inl (dC (dk_append d x (-1) (-1))))), (a2, .inl (cI, 1575, .inl (dF (dk_append d x (-1) (-1))))), (a3, .inl (cI, 1575, .inl (dT (dk_append d x (-1) (-1))))), (a4, .inl (cI, 3060, .inl (dK (dk_append d x (-1) (-1)))))]) (b := h) (As := [.int x, .int (-1), .int (-1)]) (rest := []) ⟨hx, hb, hml, hown, hts⟩ [0] (k_D_append l D cI h a1 a2 a3 a4 d ⟨hz, hlk⟩ x (-1) (-1)) (cwV 3 hts v_D_24 rfl rfl rfl (by decide +kernel) ⟨Nat.le_of_ble_eq_true rfl, Nat.le_of_ble_eq_true rfl⟩) ⟨rfl, rfl, rfl, rfl, by decide⟩ rfl hK hP hD hS hA (va_recv (ci := 1) hK hP rfl (q0 := 0) rfl) rfl hl.1 (Nat.le_of_ble_eq_true rfl) d_D_give_4 ⟨Nat.le_of_ble_eq_true rfl, Nat.le_of_ble_eq_true rfl⟩ (fun H locs hP hD hS => ?_)
  have hP : va_P D cls_ [(h, .inr (1, [.ref a1, .ref a2, .ref a3, .ref a4, .int (nI (dz (dk_append d x (-1) (-1)))), .int (nI (dl (dk_append d x (-1) (-1)))), .int (nI (dO (dk_append d x (-1) (-1))))])), (a1, .inl (cI, 1575, .inl (dC (dk_append d x (-1) (-1))))), (a2, .inl (cI, 1575, .inl (dF (dk_append d x (-1) (-1))))), (a3, .inl (cI, 1575, .inl (dT (dk_append d x (-1) (-1))))), (a4, .inl (cI, 3060, .inl (dK (dk_append d x (-1) (-1)))))] H := hP
  have hD : va_D A [(h, .inr (1, [.ref a1, .ref a2, .ref a3, .ref a4, .int (nI (dz (dk_append d x (-1) (-1)))), .int (nI (dl (dk_append d x (-1) (-1)))), .int (nI (dO (dk_append d x (-1) (-1))))])), (a1, .inl (cI, 1575, .inl (dC (dk_append d x (-1) (-1))))), (a2, .inl (cI, 1575, .inl (dF (dk_append d x (-1) (-1))))), (a3, .inl (cI, 1575, .inl (dT (dk_append d x (-1) (-1))))), (a4, .inl (cI, 3060, .inl (dK (dk_append d x (-1) (-1)))))] := hD
  skip
  exact fin _ _ _ _ hP hD hS d_D_give_7
set_option maxHeartbeats 4000000 in
set_option maxRecDepth 100000 in
theorem k_D_derive (l : Launch) (D : va_G) (cI : ClassId) (h a1 a2 a3 a4 : Nat) (d : DS) (hd : DW d) (x : Int32) : KTv l y_D_derive c_D_derive 2 { frames := 1, cells := 0, slots := 0, locals := 23 } D [(cI, .int)] [.ref h, .int x] (wD cI h a1 a2 a3 a4 d) (wD cI h a1 a2 a3 a4 (dk_derive d x)) := by
  refine KTv_of (own := R_D) (by decide +kernel) rfl (Nat.le_of_ble_eq_true rfl) ?_
  intro p e s m below meth c A ls Q hx hb hml hts hown hK hP hD hS hA hl fin
  obtain ⟨hz, hlk⟩ := hd
  refine lv_aload_n hx hb d_D_derive_0 rfl (lv_at hl 0 rfl) ?_
  refine lv_iload_n hx hb d_D_derive_1 rfl (lv_at hl 1 rfl) ?_
  refine lv_aload_n hx hb d_D_derive_2 rfl (lv_at hl 0 rfl) ?_
  refine va_get (D := D) (ci := 1) (v := .int (nI (dO d))) (C := R_D) (T := T_D) (N := 7) hx hb hts u_D hown hK hP 0 rfl rfl 6 (by decide) (hts _ f_D_32) (fun _ h9 => h9) rfl d_D_derive_3 ?_
  refine lv_aload_n hx hb d_D_derive_6 rfl (lv_at hl 0 rfl) ?_
  refine va_get (D := D) (ci := 1) (v := .int (nI (dl d))) (C := R_D) (T := T_D) (N := 7) hx hb hts u_D hown hK hP 0 rfl rfl 5 (by decide) (hts _ f_D_28) (fun _ h9 => h9) rfl d_D_derive_7 ?_
  refine CTv_V (isC := [0, 1, 2, 3, 4]) (isR := []) (wr := []) (wi := [(h, .inr (1, [.ref a1, .ref a2, .ref a3, .ref a4, .int (nI (dz d)), .int (nI (dl d)), .int (nI (dO d))])), (a1, .inl (cI, 1575, .inl (dC d))), (a2, .inl (cI, 1575, .inl (dF d))), (a3, .inl (cI, 1575, .inl (dT d))), (a4, .inl (cI, 3060, .inl (dK d)))]) (wo := [(h, .inr (1, [.ref a1, .ref a2, .ref a3, .ref a4, .int (nI (dz (dk_append d x (nI (dO d)) (nI (dl d))))), .int (nI (dl (dk_append d x (nI (dO d)) (nI (dl d))))), .int (nI (dO (dk_append d x (nI (dO d)) (nI (dl d)))))])), (a1, .inl (cI, 1575, .inl (dC (dk_append d x (nI (dO d)) (nI (dl d)))))), (a2, .inl (cI, 1575, .inl (dF (dk_append d x (nI (dO d)) (nI (dl d)))))), (a3, .inl (cI, 1575, .inl (dT (dk_append d x (nI (dO d)) (nI (dl d)))))), (a4, .inl (cI, 3060, .inl (dK (dk_append d x (nI (dO d)) (nI (dl d))))))]) (b := h) (As := [.int x, .int (nI (dO d)), .int (nI (dl d))]) (rest := []) ⟨hx, hb, hml, hown, hts⟩ [0] (k_D_append l D cI h a1 a2 a3 a4 d ⟨hz, hlk⟩ x (nI (dO d)) (nI (dl d))) (cwV 3 hts v_D_24 rfl rfl rfl (by decide +kernel) ⟨Nat.le_of_ble_eq_true rfl, Nat.le_of_ble_eq_true rfl⟩) ⟨rfl, rfl, rfl, rfl, by decide⟩ rfl hK hP hD hS hA (va_recv (ci := 1) hK hP rfl (q0 := 0) rfl) rfl hl.1 (Nat.le_of_ble_eq_true rfl) d_D_derive_10 ⟨Nat.le_of_ble_eq_true rfl, Nat.le_of_ble_eq_true rfl⟩ (fun H locs hP hD hS => ?_)
  have hP : va_P D cls_ [(h, .inr (1, [.ref a1, .ref a2, .ref a3, .ref a4, .int (nI (dz (dk_append d x (nI (dO d)) (nI (dl d))))), .int (nI (dl (dk_append d x (nI (dO d)) (nI (dl d))))), .int (nI (dO (dk_append d x (nI (dO d)) (nI (dl d)))))])), (a1, .inl (cI, 1575, .inl (dC (dk_append d x (nI (dO d)) (nI (dl d)))))), (a2, .inl (cI, 1575, .inl (dF (dk_append d x (nI (dO d)) (nI (dl d)))))), (a3, .inl (cI, 1575, .inl (dT (dk_append d x (nI (dO d)) (nI (dl d)))))), (a4, .inl (cI, 3060, .inl (dK (dk_append d x (nI (dO d)) (nI (dl d))))))] H := hP
  have hD : va_D A [(h, .inr (1, [.ref a1, .ref a2, .ref a3, .ref a4, .int (nI (dz (dk_append d x (nI (dO d)) (nI (dl d))))), .int (nI (dl (dk_append d x (nI (dO d)) (nI (dl d))))), .int (nI (dO (dk_append d x (nI (dO d)) (nI (dl d)))))])), (a1, .inl (cI, 1575, .inl (dC (dk_append d x (nI (dO d)) (nI (dl d)))))), (a2, .inl (cI, 1575, .inl (dF (dk_append d x (nI (dO d)) (nI (dl d)))))), (a3, .inl (cI, 1575, .inl (dT (dk_append d x (nI (dO d)) (nI (dl d)))))), (a4, .inl (cI, 3060, .inl (dK (dk_append d x (nI (dO d)) (nI (dl d))))))] := hD
  refine lv_aload_n hx hb d_D_derive_13 rfl (lv_at hl 0 rfl) ?_
  refine lv_aload_n hx hb d_D_derive_14 rfl (lv_at hl 0 rfl) ?_
  refine va_get (D := D) (ci := 1) (v := .int (nI (dl (dk_append d x (nI (dO d)) (nI (dl d)))))) (C := R_D) (T := T_D) (N := 7) hx hb hts u_D hown hK hP 0 rfl rfl 5 (by decide) (hts _ f_D_28) (fun _ h9 => h9) rfl d_D_derive_15 ?_
  refine va_put (D := D) (ci := 1) (v := .int (nI (dl (dk_append d x (nI (dO d)) (nI (dl d)))))) (ty := .int) (C := R_D) (T := T_D) (N := 7) hx hb hts u_D t_D t_D_ok n_D hown hK hP hD hS 0 rfl rfl 6 (by decide) (hts _ f_D_32) (fun _ h9 => h9) rfl (by decide +kernel) rfl rfl (Nat.le_of_ble_eq_true rfl) d_D_derive_18 (fun H locs hP hD hS => ?_)
  have hP : va_P D cls_ [(h, .inr (1, [.ref a1, .ref a2, .ref a3, .ref a4, .int (nI (dz (dk_append d x (nI (dO d)) (nI (dl d))))), .int (nI (dl (dk_append d x (nI (dO d)) (nI (dl d))))), .int (nI (dl (dk_append d x (nI (dO d)) (nI (dl d)))))])), (a1, .inl (cI, 1575, .inl (dC (dk_append d x (nI (dO d)) (nI (dl d)))))), (a2, .inl (cI, 1575, .inl (dF (dk_append d x (nI (dO d)) (nI (dl d)))))), (a3, .inl (cI, 1575, .inl (dT (dk_append d x (nI (dO d)) (nI (dl d)))))), (a4, .inl (cI, 3060, .inl (dK (dk_append d x (nI (dO d)) (nI (dl d))))))] H := hP
  have hD : va_D A [(h, .inr (1, [.ref a1, .ref a2, .ref a3, .ref a4, .int (nI (dz (dk_append d x (nI (dO d)) (nI (dl d))))), .int (nI (dl (dk_append d x (nI (dO d)) (nI (dl d))))), .int (nI (dl (dk_append d x (nI (dO d)) (nI (dl d)))))])), (a1, .inl (cI, 1575, .inl (dC (dk_append d x (nI (dO d)) (nI (dl d)))))), (a2, .inl (cI, 1575, .inl (dF (dk_append d x (nI (dO d)) (nI (dl d)))))), (a3, .inl (cI, 1575, .inl (dT (dk_append d x (nI (dO d)) (nI (dl d)))))), (a4, .inl (cI, 3060, .inl (dK (dk_append d x (nI (dO d)) (nI (dl d))))))] := hD
  skip
  exact fin _ _ _ _ hP hD hS d_D_derive_21
set_option maxHeartbeats 4000000 in
set_option maxRecDepth 100000 in
theorem k_D_keep (l : Launch) (D : va_G) (cI : ClassId) (h a1 a2 a3 a4 : Nat) (d : DS) (hd : DW d) (x : Int32) (g : Nat) (hg : g ≤ 1575) (hx9 : x = nI g) : KTv l y_D_keep c_D_keep 2 { frames := 1, cells := 0, slots := 0, locals := 21 } D [(cI, .int)] [.ref h, .int x] (wD cI h a1 a2 a3 a4 d) (wD cI h a1 a2 a3 a4 (dk_keep d g)) := by
  refine KTv_of (own := R_D) (by decide +kernel) rfl (Nat.le_of_ble_eq_true rfl) ?_
  intro p e s m below meth c A ls Q hx hb hml hts hown hK hP hD hS hA hl fin
  obtain ⟨hz, hlk⟩ := hd
  refine lv_aload_n hx hb d_D_keep_0 rfl (lv_at hl 0 rfl) ?_
  refine lv_aload_n hx hb d_D_keep_1 rfl (lv_at hl 0 rfl) ?_
  refine va_get (D := D) (ci := 1) (v := .int (nI (dz d))) (C := R_D) (T := T_D) (N := 7) hx hb hts u_D hown hK hP 0 rfl rfl 4 (by decide) (hts _ f_D_35) (fun _ h9 => h9) rfl d_D_keep_2 ?_
  refine lv_iload_n hx hb d_D_keep_5 rfl (lv_at hl 1 rfl) ?_
  refine lv_iconst (v := 0) hx hb d_D_keep_6 (by decide) ?_
  refine va_mmax (x := x) (y := 0) hx hb (hml.trans hl.1.symm) hown (hts _ g_D_38) (hts _ g_max_s) (hts _ g_math_i) (hts _ g_max_c) (Nat.le_of_ble_eq_true rfl) (Nat.le_of_ble_eq_true rfl) (Nat.le_of_ble_eq_true rfl) (Nat.le_of_ble_eq_true rfl) d_D_keep_7 ?_
  refine va_mmin (x := (nI (dz d))) (y := (if x < 0 then 0 else x)) hx hb (hml.trans hl.1.symm) hown (hts _ g_D_44) (hts _ g_min_s) (hts _ g_math_i) (hts _ g_min_c) (Nat.le_of_ble_eq_true rfl) (Nat.le_of_ble_eq_true rfl) (Nat.le_of_ble_eq_true rfl) (Nat.le_of_ble_eq_true rfl) d_D_keep_10 ?_
  refine va_put (D := D) (ci := 1) (v := .int (if (if x < 0 then 0 else x) < (nI (dz d)) then (if x < 0 then 0 else x) else (nI (dz d)))) (ty := .int) (C := R_D) (T := T_D) (N := 7) hx hb hts u_D t_D t_D_ok n_D hown hK hP hD hS 0 rfl rfl 4 (by decide) (hts _ f_D_35) (fun _ h9 => h9) rfl (by decide +kernel) rfl rfl (Nat.le_of_ble_eq_true rfl) d_D_keep_13 (fun H locs hP hD hS => ?_)
  have hP : va_P D cls_ [(h, .inr (1, [.ref a1, .ref a2, .ref a3, .ref a4, .int (if (if x < 0 then 0 else x) < (nI (dz d)) then (if x < 0 then 0 else x) else (nI (dz d))), .int (nI (dl d)), .int (nI (dO d))])), (a1, .inl (cI, 1575, .inl (dC d))), (a2, .inl (cI, 1575, .inl (dF d))), (a3, .inl (cI, 1575, .inl (dT d))), (a4, .inl (cI, 3060, .inl (dK d)))] H := hP
  have hD : va_D A [(h, .inr (1, [.ref a1, .ref a2, .ref a3, .ref a4, .int (if (if x < 0 then 0 else x) < (nI (dz d)) then (if x < 0 then 0 else x) else (nI (dz d))), .int (nI (dl d)), .int (nI (dO d))])), (a1, .inl (cI, 1575, .inl (dC d))), (a2, .inl (cI, 1575, .inl (dF d))), (a3, .inl (cI, 1575, .inl (dT d))), (a4, .inl (cI, 3060, .inl (dK d)))] := hD
  refine lv_aload_n hx hb d_D_keep_16 rfl (lv_at hl 0 rfl) ?_
  refine lv_iconst (v := 0) hx hb d_D_keep_17 (by decide) ?_
  refine va_put (D := D) (ci := 1) (v := .int 0) (ty := .int) (C := R_D) (T := T_D) (N := 7) hx hb hts u_D t_D t_D_ok n_D hown hK hP hD hS 0 rfl rfl 5 (by decide) (hts _ f_D_28) (fun _ h9 => h9) rfl (by decide +kernel) rfl rfl (Nat.le_of_ble_eq_true rfl) d_D_keep_18 (fun H locs hP hD hS => ?_)
  have hP : va_P D cls_ [(h, .inr (1, [.ref a1, .ref a2, .ref a3, .ref a4, .int (if (if x < 0 then 0 else x) < (nI (dz d)) then (if x < 0 then 0 else x) else (nI (dz d))), .int 0, .int (nI (dO d))])), (a1, .inl (cI, 1575, .inl (dC d))), (a2, .inl (cI, 1575, .inl (dF d))), (a3, .inl (cI, 1575, .inl (dT d))), (a4, .inl (cI, 3060, .inl (dK d)))] H := hP
  have hD : va_D A [(h, .inr (1, [.ref a1, .ref a2, .ref a3, .ref a4, .int (if (if x < 0 then 0 else x) < (nI (dz d)) then (if x < 0 then 0 else x) else (nI (dz d))), .int 0, .int (nI (dO d))])), (a1, .inl (cI, 1575, .inl (dC d))), (a2, .inl (cI, 1575, .inl (dF d))), (a3, .inl (cI, 1575, .inl (dT d))), (a4, .inl (cI, 3060, .inl (dK d)))] := hD
  refine lv_aload_n hx hb d_D_keep_21 rfl (lv_at hl 0 rfl) ?_
  refine lv_iconst (v := 0) hx hb d_D_keep_22 (by decide) ?_
  refine va_put (D := D) (ci := 1) (v := .int 0) (ty := .int) (C := R_D) (T := T_D) (N := 7) hx hb hts u_D t_D t_D_ok n_D hown hK hP hD hS 0 rfl rfl 6 (by decide) (hts _ f_D_32) (fun _ h9 => h9) rfl (by decide +kernel) rfl rfl (Nat.le_of_ble_eq_true rfl) d_D_keep_23 (fun H locs hP hD hS => ?_)
  have hP : va_P D cls_ [(h, .inr (1, [.ref a1, .ref a2, .ref a3, .ref a4, .int (if (if x < 0 then 0 else x) < (nI (dz d)) then (if x < 0 then 0 else x) else (nI (dz d))), .int 0, .int 0])), (a1, .inl (cI, 1575, .inl (dC d))), (a2, .inl (cI, 1575, .inl (dF d))), (a3, .inl (cI, 1575, .inl (dT d))), (a4, .inl (cI, 3060, .inl (dK d)))] H := hP
  have hD : va_D A [(h, .inr (1, [.ref a1, .ref a2, .ref a3, .ref a4, .int (if (if x < 0 then 0 else x) < (nI (dz d)) then (if x < 0 then 0 else x) else (nI (dz d))), .int 0, .int 0])), (a1, .inl (cI, 1575, .inl (dC d))), (a2, .inl (cI, 1575, .inl (dF d))), (a3, .inl (cI, 1575, .inl (dT d))), (a4, .inl (cI, 3060, .inl (dK d)))] := hD
  subst hx9
  rw [keep_eq hz hg] at hP hD
  exact fin _ _ _ _ hP hD hS d_D_keep_26
