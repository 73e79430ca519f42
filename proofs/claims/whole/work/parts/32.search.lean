/-! Part 32: Search, its large methods, by program (wip/whole/gen_search2.py) -/
theorem sr_sweep_s (C : Nat → Int32) (k i : Nat) (s : SS) : sr_sweep C (k + 1) i s = if C i &&& sh s = 0 then if cc_open (C i) (sh s) = 0 then (nI i, s) else if cc_singleB (cc_open (C i) (sh s)) = true then sr_sweep C k (i + 1) (sr_hold s (cc_open (C i) (sh s)) (nI i)) else sr_sweep C k (i + 1) s else sr_sweep C k (i + 1) s := rfl
theorem sr_prop_s (C : Nat → Int32) (z r : Nat) (s : SS) : sr_prop C z (r + 1) s = if (sr_sweep C z 0 s).1 ≠ -1 then sr_sweep C z 0 s else if sn s < sn (sr_sweep C z 0 s).2 then sr_prop C z r (sr_sweep C z 0 s).2 else sr_sweep C z 0 s := rfl
theorem sr_res_s (T R : Nat → Int32) (ld : Nat) (la : Int32) (k : Nat) (x : Int32) (d : DS) : sr_res T R ld la (k + 1) x d = if k < ld then (x, d) else if ld ≠ 0 ∧ cc_singleB (x &&& la) = true then (x, d) else if x &&& cc_neg (T k) = 0 then sr_res T R ld la k x d else sr_res T R ld la k ((x &&& (cc_neg (T k) ^^^ (-1))) ||| (dk_cl d (R k) &&& (T k ^^^ (-1)))) (dk_link d (R k)) := rfl
theorem sr_find_s (n f : Nat) (d : DS) (s : SS) : sr_find n (f + 1) d s = if (sr_prop (dC d) (dz d) 11 s).1 = -1 then if n ≤ sn (sr_prop (dC d) (dz d) 11 s).2 then (true, d, (sr_prop (dC d) (dz d) 11 s).2) else sr_find n f d (sr_decide n (sr_prop (dC d) (dz d) 11 s).2) else if (sr_learn d (sr_prop (dC d) (dz d) 11 s).2 (sr_prop (dC d) (dz d) 11 s).1).1 = 0 then (false, (sr_learn d (sr_prop (dC d) (dz d) 11 s).2 (sr_prop (dC d) (dz d) 11 s).1).2.1, (sr_learn d (sr_prop (dC d) (dz d) 11 s).2 (sr_prop (dC d) (dz d) 11 s).1).2.2) else sr_find n f (sr_learn d (sr_prop (dC d) (dz d) 11 s).2 (sr_prop (dC d) (dz d) 11 s).1).2.1 (sr_learn d (sr_prop (dC d) (dz d) 11 s).2 (sr_prop (dC d) (dz d) 11 s).1).2.2 := rfl
theorem hold_le {s : SS} (h : sn s ≤ 10) {x r : Int32} : sn (sr_hold s x r) ≤ 10 := by
  unfold sr_hold
  split
  · show sn s + 1 ≤ 10
    omega
  · exact h
theorem decide_le {n : Nat} {s : SS} (h : sn s ≤ 10) : sn (sr_decide n s) ≤ 10 := hold_le h
theorem sweep_le {C : Nat → Int32} : ∀ (k i : Nat) {s : SS}, sn s ≤ 10 → sn (sr_sweep C k i s).2 ≤ 10 := by
  intro k
  induction k with
  | zero => intro i s h; exact h
  | succ k ih =>
    intro i s h
    rw [sr_sweep_s]
    split
    · split
      · exact h
      · split
        · exact ih _ (hold_le h)
        · exact ih _ h
    · exact ih _ h
theorem prop_le {C : Nat → Int32} {z : Nat} : ∀ (r : Nat) {s : SS}, sn s ≤ 10 → sn (sr_prop C z r s).2 ≤ 10 := by
  intro r
  induction r with
  | zero => intro s h; exact h
  | succ r ih =>
    intro s h
    rw [sr_prop_s]
    split
    · exact sweep_le _ _ h
    · split
      · exact ih (sweep_le _ _ h)
      · exact sweep_le _ _ h
theorem jump_le {T R : Nat → Int32} {x : Int32} : ∀ {k t : Nat}, k ≤ 10 → t ≤ 10 → sr_jump T R x k t ≤ 10 := by
  intro k
  induction k with
  | zero => intro t _ h; exact h
  | succ k ih =>
    intro t h1 h2
    rw [sr_jump_s]
    split
    · split
      · exact ih (by omega) (by omega)
      · exact ih (by omega) h2
    · exact h2
theorem learn_le (d : DS) {s : SS} (h : sn s ≤ 10) {x : Int32} : sn (sr_learn d s x).2.2 ≤ 10 := by
  show (if sn s ≤ _ then sn s else _) ≤ 10
  split
  · exact h
  · omega
theorem DW_link {d : DS} (h : DW d) {x : Int32} : DW (dk_link d x) := by
  unfold dk_link
  split
  · exact ⟨h.1, by show dl d + 1 ≤ 3060; omega⟩
  · exact h
theorem DW_append {d : DS} (h : DW d) {x f t : Int32} : DW (dk_append d x f t) := by
  unfold dk_append
  split
  · exact ⟨by show dz d + 1 ≤ 1575; omega, h.2⟩
  · exact h
theorem DW_derive {d : DS} (h : DW d) {x : Int32} : DW (dk_derive d x) := ⟨(DW_append h).1, (DW_append h).2⟩
theorem DW_res {T R : Nat → Int32} {ld : Nat} {la : Int32} : ∀ (k : Nat) {x : Int32} {d : DS}, DW d → DW (sr_res T R ld la k x d).2 := by
  intro k
  induction k with
  | zero => intro x d h; exact h
  | succ k ih =>
    intro x d h
    rw [sr_res_s]
    split
    · exact h
    · split
      · exact h
      · split
        · exact ih h
        · exact ih (DW_link h)
theorem DW_learn {d : DS} (h : DW d) {s : SS} {x : Int32} : DW (sr_learn d s x).2.1 := DW_derive (DW_res _ (DW_link h))
theorem le_dec {k q : Nat} (hk : k < 2 ^ 31) (hq : q < 2 ^ 31) : nI k ≤ nI q - 1 ↔ k < q := by
  rw [Int32.le_iff_toInt_le, nI_toInt hk]
  cases q with
  | zero => rw [show (nI 0 - 1).toInt = -1 from by decide +kernel]; omega
  | succ q => rw [nI_pred, nI_toInt (by omega)]; omega
theorem le_dec0 {q : Nat} (hq : q < 2 ^ 31) : nI 0 - 1 ≤ nI q - 1 := by
  rw [Int32.le_iff_toInt_le, show (nI 0 - 1).toInt = -1 from by decide +kernel]
  cases q with
  | zero => rw [show (nI 0 - 1).toInt = -1 from by decide +kernel]; omega
  | succ q => rw [nI_pred, nI_toInt (by omega)]; omega
theorem dec_m1 {q : Nat} (hq : q < 2 ^ 31) : nI q - 1 = -1 ↔ q = 0 := by
  cases q with
  | zero => exact ⟨fun _ => rfl, fun _ => by decide +kernel⟩
  | succ q => rw [nI_pred]; exact ⟨fun h => absurd h (nI_nm1 (by omega)), fun h => absurd h (by omega)⟩
set_option maxHeartbeats 4000000 in
set_option maxRecDepth 100000 in
theorem k_S_sweep (l : Launch) (D : va_G) (cI : ClassId) (b b1 b2 h a1 a2 a3 a4 : Nat) (s : SS) (hs : sn s ≤ 10) (d : DS) (hd : DW d) : KTi l y_S_sweep c_S_sweep 6 .int { frames := 2, cells := 0, slots := 0, locals := 42 } D [(cI, .int)] [.ref b, .ref h] (wX cI b b1 b2 h a1 a2 a3 a4 s d) ((sr_sweep (dC d) (dz d) 0 s).1) (wX cI b b1 b2 h a1 a2 a3 a4 (sr_sweep (dC d) (dz d) 0 s).2 d) := by
  refine KTi_of (own := R_S) (by decide +kernel) rfl (Nat.le_of_ble_eq_true rfl) (vp_nar_int _) ?_
  intro p e st m below meth c A ls Q hx hb hml hts hown hK hP hD hS hA hl fin
  have hz31 : dz d < 2 ^ 31 := by have := hd.1; omega
  generalize hT : sr_sweep (dC d) (dz d) 0 s = res at fin
  have loop : ∀ (k i : Nat) (v : SS) (ls : Array Slot) (H : Heap) (locs : List Loc), i + k = dz d → sn v ≤ 10 → sr_sweep (dC d) k i v = res → va_P D cls_ [(b, .inr (2, [.ref b1, .ref b2, .int (nI (sn v)), .int (sh v)])), (b1, .inl (cI, 10, .inl (sT v))), (b2, .inl (cI, 10, .inl (sR v))), (h, .inr (1, [.ref a1, .ref a2, .ref a3, .ref a4, .int (nI (dz d)), .int (nI (dl d)), .int (nI (dO d))])), (a1, .inl (cI, 1575, .inl (dC d))), (a2, .inl (cI, 1575, .inl (dF d))), (a3, .inl (cI, 1575, .inl (dT d))), (a4, .inl (cI, 3060, .inl (dK d)))] H → va_D A [(b, .inr (2, [.ref b1, .ref b2, .int (nI (sn v)), .int (sh v)])), (b1, .inl (cI, 10, .inl (sT v))), (b2, .inl (cI, 10, .inl (sR v))), (h, .inr (1, [.ref a1, .ref a2, .ref a3, .ref a4, .int (nI (dz d)), .int (nI (dl d)), .int (nI (dO d))])), (a1, .inl (cI, 1575, .inl (dC d))), (a2, .inl (cI, 1575, .inl (dF d))), (a3, .inl (cI, 1575, .inl (dT d))), (a4, .inl (cI, 3060, .inl (dK d)))] → va_S A st.heap H locs → lv_has ls 6 [(3, .int (nI i)), (2, .int (nI (dz d))), (0, .ref b), (1, .ref h)] → W p l e { frames := 2, cells := 0, slots := 0, locals := 42 } st m [Value.ref b, Value.ref h].toArray below meth c H locs 0 0 Q (F0 m 7 ls []) := by
    intro k
    induction k with
    | zero =>
      intro i v ls H locs hi hv he hP hD hS hl
      have he : ((-1 : Int32), v) = res := he
      subst he
      refine lv_iload_n hx hb d_S_sweep_7 rfl (lv_at hl 0 rfl) ?_
      refine lv_iload_n hx hb d_S_sweep_8 rfl (lv_at hl 1 rfl) ?_
      refine lv_icmp_ge (tgt := 71) hx hb d_S_sweep_9 rfl (fun hc9 => ?_) (fun hc9 => absurd (nI_le (by omega) (by omega)) hc9)
      refine lv_iconst (v := (-1)) hx hb d_S_sweep_71 (by decide) ?_
      exact fin _ _ _ _ _ hP hD hS (rfl) d_S_sweep_72
    | succ k ih =>
      intro i v ls H locs hi hv he hP hD hS hl
      refine lv_iload_n hx hb d_S_sweep_7 rfl (lv_at hl 0 rfl) ?_
      refine lv_iload_n hx hb d_S_sweep_8 rfl (lv_at hl 1 rfl) ?_
      refine lv_icmp_ge (tgt := 71) hx hb d_S_sweep_9 rfl (fun hc9 => absurd hc9 (nI_ge (by omega) (by omega))) (fun hc9 => ?_)
      refine lv_aload_n hx hb d_S_sweep_12 rfl (lv_at hl 3 rfl) ?_
      refine lv_iload_n hx hb d_S_sweep_13 rfl (lv_at hl 0 rfl) ?_
      refine CTi_V (isC := [3, 4, 5, 6, 7]) (isR := [0, 1, 2]) (wr := [(b, .inr (2, [.ref b1, .ref b2, .int (nI (sn v)), .int (sh v)])), (b1, .inl (cI, 10, .inl (sT v))), (b2, .inl (cI, 10, .inl (sR v)))]) (wi := [(h, .inr (1, [.ref a1, .ref a2, .ref a3, .ref a4, .int (nI (dz d)), .int (nI (dl d)), .int (nI (dO d))])), (a1, .inl (cI, 1575, .inl (dC d))), (a2, .inl (cI, 1575, .inl (dF d))), (a3, .inl (cI, 1575, .inl (dT d))), (a4, .inl (cI, 3060, .inl (dK d)))]) (wo := [(h, .inr (1, [.ref a1, .ref a2, .ref a3, .ref a4, .int (nI (dz d)), .int (nI (dl d)), .int (nI (dO d))])), (a1, .inl (cI, 1575, .inl (dC d))), (a2, .inl (cI, 1575, .inl (dF d))), (a3, .inl (cI, 1575, .inl (dT d))), (a4, .inl (cI, 3060, .inl (dK d)))]) (b := h) (As := [.int (nI i)]) (rest := []) ⟨hx, hb, hml, hown, hts⟩ [0] (k_D_clause l D cI h a1 a2 a3 a4 d hd ((nI i))) (cwV 1 hts v_S_47 rfl rfl rfl (by decide +kernel) ⟨Nat.le_of_ble_eq_true rfl, Nat.le_of_ble_eq_true rfl⟩) ⟨rfl, rfl, rfl, rfl, by decide⟩ rfl hK hP hD hS hA (va_recv (ci := 1) hK hP rfl (q0 := 3) rfl) rfl hl.1 (Nat.le_of_ble_eq_true rfl) d_S_sweep_14 ⟨Nat.le_of_ble_eq_true rfl, Nat.le_of_ble_eq_true rfl⟩ (fun H locs hP hD hS => ?_)
      have hP : va_P D cls_ [(b, .inr (2, [.ref b1, .ref b2, .int (nI (sn v)), .int (sh v)])), (b1, .inl (cI, 10, .inl (sT v))), (b2, .inl (cI, 10, .inl (sR v))), (h, .inr (1, [.ref a1, .ref a2, .ref a3, .ref a4, .int (nI (dz d)), .int (nI (dl d)), .int (nI (dO d))])), (a1, .inl (cI, 1575, .inl (dC d))), (a2, .inl (cI, 1575, .inl (dF d))), (a3, .inl (cI, 1575, .inl (dT d))), (a4, .inl (cI, 3060, .inl (dK d)))] H := hP
      have hD : va_D A [(b, .inr (2, [.ref b1, .ref b2, .int (nI (sn v)), .int (sh v)])), (b1, .inl (cI, 10, .inl (sT v))), (b2, .inl (cI, 10, .inl (sR v))), (h, .inr (1, [.ref a1, .ref a2, .ref a3, .ref a4, .int (nI (dz d)), .int (nI (dl d)), .int (nI (dO d))])), (a1, .inl (cI, 1575, .inl (dC d))), (a2, .inl (cI, 1575, .inl (dF d))), (a3, .inl (cI, 1575, .inl (dT d))), (a4, .inl (cI, 3060, .inl (dK d)))] := hD
      rw [dk_cl_at (d := d) (i := i) (by omega) hz31]
      refine lv_istore (lv' := [(4, .int (dC d i)), (3, .int (nI i)), (2, .int (nI (dz d))), (0, .ref b), (1, .ref h)]) hx hb d_S_sweep_17 hl (by decide) rfl (fun ls hl => ?_)
      refine lv_iload hx hb d_S_sweep_19 (lv_at hl 0 rfl) ?_
      refine lv_aload_n hx hb d_S_sweep_21 rfl (lv_at hl 3 rfl) ?_
      refine va_get (D := D) (ci := 2) (v := .int (sh v)) (C := R_S) (T := T_S) (N := 4) hx hb hts u_S hown hK hP 0 rfl rfl 3 (by decide) (hts _ f_S_22) (fun _ h9 => h9) rfl d_S_sweep_22 ?_
      refine lv_iand hx hb d_S_sweep_25 ?_
      refine lv_if_ne (tgt := 65) hx hb d_S_sweep_26 rfl (fun hc26 => ?_) (fun hc26 => ?_)
      · refine lv_iinc (k := 1) (v := (nI (i + 1))) (lv' := [(3, .int (nI (i + 1))), (4, .int (dC d i)), (2, .int (nI (dz d))), (0, .ref b), (1, .ref h)]) hx hb d_S_sweep_65 hl rfl (nI_1 i) (by decide) rfl (fun ls hl => ?_)
        refine lv_goto (tgt := 7) hx hb d_S_sweep_68 rfl ?_
        exact ih (i + 1) v ls H locs (by omega) hv (by rw [← he, sr_sweep_s, if_neg hc26]) hP hD hS (lv_sub hl [0, 2, 3, 4] rfl)
      · refine lv_iload hx hb d_S_sweep_29 (lv_at hl 0 rfl) ?_
        refine lv_aload_n hx hb d_S_sweep_31 rfl (lv_at hl 3 rfl) ?_
        refine va_get (D := D) (ci := 2) (v := .int (sh v)) (C := R_S) (T := T_S) (N := 4) hx hb hts u_S hown hK hP 0 rfl rfl 3 (by decide) (hts _ f_S_22) (fun _ h9 => h9) rfl d_S_sweep_32 ?_
        refine CTi_S (isC := []) (isR := [0, 1, 2, 3, 4, 5, 6, 7]) (wr := [(b, .inr (2, [.ref b1, .ref b2, .int (nI (sn v)), .int (sh v)])), (b1, .inl (cI, 10, .inl (sT v))), (b2, .inl (cI, 10, .inl (sR v))), (h, .inr (1, [.ref a1, .ref a2, .ref a3, .ref a4, .int (nI (dz d)), .int (nI (dl d)), .int (nI (dO d))])), (a1, .inl (cI, 1575, .inl (dC d))), (a2, .inl (cI, 1575, .inl (dF d))), (a3, .inl (cI, 1575, .inl (dT d))), (a4, .inl (cI, 3060, .inl (dK d)))]) (wi := []) (wo := []) (As := [.int (sh v)]) (rest := [.int (dC d i)]) ⟨hx, hb, hml, hown, hts⟩ [] (k_L_opposite l D ((sh v))) (va_cwS 1 hts v_S_51 rfl rfl rfl (by decide +kernel) ⟨Nat.le_of_ble_eq_true rfl, Nat.le_of_ble_eq_true rfl⟩) ⟨rfl, rfl, rfl, rfl, by decide⟩ rfl hK hP hD hS hA rfl hl.1 (Nat.le_of_ble_eq_true rfl) d_S_sweep_35 ⟨Nat.le_of_ble_eq_true rfl, Nat.le_of_ble_eq_true rfl⟩ (fun H locs hP hD hS => ?_)
        have hP : va_P D cls_ [(b, .inr (2, [.ref b1, .ref b2, .int (nI (sn v)), .int (sh v)])), (b1, .inl (cI, 10, .inl (sT v))), (b2, .inl (cI, 10, .inl (sR v))), (h, .inr (1, [.ref a1, .ref a2, .ref a3, .ref a4, .int (nI (dz d)), .int (nI (dl d)), .int (nI (dO d))])), (a1, .inl (cI, 1575, .inl (dC d))), (a2, .inl (cI, 1575, .inl (dF d))), (a3, .inl (cI, 1575, .inl (dT d))), (a4, .inl (cI, 3060, .inl (dK d)))] H := hP
        have hD : va_D A [(b, .inr (2, [.ref b1, .ref b2, .int (nI (sn v)), .int (sh v)])), (b1, .inl (cI, 10, .inl (sT v))), (b2, .inl (cI, 10, .inl (sR v))), (h, .inr (1, [.ref a1, .ref a2, .ref a3, .ref a4, .int (nI (dz d)), .int (nI (dl d)), .int (nI (dO d))])), (a1, .inl (cI, 1575, .inl (dC d))), (a2, .inl (cI, 1575, .inl (dF d))), (a3, .inl (cI, 1575, .inl (dT d))), (a4, .inl (cI, 3060, .inl (dK d)))] := hD
        refine lv_iconst (v := (-1)) hx hb d_S_sweep_38 (by decide) ?_
        refine lv_ixor hx hb d_S_sweep_39 ?_
        refine lv_iand hx hb d_S_sweep_40 ?_
        refine lv_istore (lv' := [(5, .int (cc_open (dC d i) (sh v))), (4, .int (dC d i)), (3, .int (nI i)), (2, .int (nI (dz d))), (0, .ref b), (1, .ref h)]) hx hb d_S_sweep_41 hl (by decide) rfl (fun ls hl => ?_)
        refine lv_iload hx hb d_S_sweep_43 (lv_at hl 0 rfl) ?_
        refine lv_if_ne (tgt := 50) hx hb d_S_sweep_45 rfl (fun hc45 => ?_) (fun hc45 => ?_)
        · refine lv_iload hx hb d_S_sweep_50 (lv_at hl 0 rfl) ?_
          refine CTi_S (isC := []) (isR := [0, 1, 2, 3, 4, 5, 6, 7]) (wr := [(b, .inr (2, [.ref b1, .ref b2, .int (nI (sn v)), .int (sh v)])), (b1, .inl (cI, 10, .inl (sT v))), (b2, .inl (cI, 10, .inl (sR v))), (h, .inr (1, [.ref a1, .ref a2, .ref a3, .ref a4, .int (nI (dz d)), .int (nI (dl d)), .int (nI (dO d))])), (a1, .inl (cI, 1575, .inl (dC d))), (a2, .inl (cI, 1575, .inl (dF d))), (a3, .inl (cI, 1575, .inl (dT d))), (a4, .inl (cI, 3060, .inl (dK d)))]) (wi := []) (wo := []) (As := [.int (cc_open (dC d i) (sh v))]) (rest := []) ⟨hx, hb, hml, hown, hts⟩ [] (k_L_isSingle l D ((cc_open (dC d i) (sh v)))) (va_cwS 1 hts v_S_56 rfl rfl rfl (by decide +kernel) ⟨Nat.le_of_ble_eq_true rfl, Nat.le_of_ble_eq_true rfl⟩) ⟨rfl, rfl, rfl, rfl, by decide⟩ rfl hK hP hD hS hA rfl hl.1 (Nat.le_of_ble_eq_true rfl) d_S_sweep_52 ⟨Nat.le_of_ble_eq_true rfl, Nat.le_of_ble_eq_true rfl⟩ (fun H locs hP hD hS => ?_)
          have hP : va_P D cls_ [(b, .inr (2, [.ref b1, .ref b2, .int (nI (sn v)), .int (sh v)])), (b1, .inl (cI, 10, .inl (sT v))), (b2, .inl (cI, 10, .inl (sR v))), (h, .inr (1, [.ref a1, .ref a2, .ref a3, .ref a4, .int (nI (dz d)), .int (nI (dl d)), .int (nI (dO d))])), (a1, .inl (cI, 1575, .inl (dC d))), (a2, .inl (cI, 1575, .inl (dF d))), (a3, .inl (cI, 1575, .inl (dT d))), (a4, .inl (cI, 3060, .inl (dK d)))] H := hP
          have hD : va_D A [(b, .inr (2, [.ref b1, .ref b2, .int (nI (sn v)), .int (sh v)])), (b1, .inl (cI, 10, .inl (sT v))), (b2, .inl (cI, 10, .inl (sR v))), (h, .inr (1, [.ref a1, .ref a2, .ref a3, .ref a4, .int (nI (dz d)), .int (nI (dl d)), .int (nI (dO d))])), (a1, .inl (cI, 1575, .inl (dC d))), (a2, .inl (cI, 1575, .inl (dF d))), (a3, .inl (cI, 1575, .inl (dT d))), (a4, .inl (cI, 3060, .inl (dK d)))] := hD
          refine lv_if_eq (tgt := 65) hx hb d_S_sweep_55 rfl (fun hc55 => ?_) (fun hc55 => ?_)
          · refine lv_iinc (k := 2) (v := (nI (i + 1))) (lv' := [(3, .int (nI (i + 1))), (5, .int (cc_open (dC d i) (sh v))), (4, .int (dC d i)), (2, .int (nI (dz d))), (0, .ref b), (1, .ref h)]) hx hb d_S_sweep_65 hl rfl (nI_1 i) (by decide) rfl (fun ls hl => ?_)
            refine lv_goto (tgt := 7) hx hb d_S_sweep_68 rfl ?_
            exact ih (i + 1) v ls H locs (by omega) hv (by rw [← he, sr_sweep_s, if_pos hc26, if_neg hc45, if_neg (it0 hc55)]) hP hD hS (lv_sub hl [0, 3, 4, 5] rfl)
          · refine lv_aload_n hx hb d_S_sweep_58 rfl (lv_at hl 4 rfl) ?_
            refine lv_iload hx hb d_S_sweep_59 (lv_at hl 0 rfl) ?_
            refine lv_iload_n hx hb d_S_sweep_61 rfl (lv_at hl 2 rfl) ?_
            refine CTv_V (isC := [0, 1, 2]) (isR := [3, 4, 5, 6, 7]) (wr := [(h, .inr (1, [.ref a1, .ref a2, .ref a3, .ref a4, .int (nI (dz d)), .int (nI (dl d)), .int (nI (dO d))])), (a1, .inl (cI, 1575, .inl (dC d))), (a2, .inl (cI, 1575, .inl (dF d))), (a3, .inl (cI, 1575, .inl (dT d))), (a4, .inl (cI, 3060, .inl (dK d)))]) (wi := [(b, .inr (2, [.ref b1, .ref b2, .int (nI (sn v)), .int (sh v)])), (b1, .inl (cI, 10, .inl (sT v))), (b2, .inl (cI, 10, .inl (sR v)))]) (wo := [(b, .inr (2, [.ref b1, .ref b2, .int (nI (sn (sr_hold v ((cc_open (dC d i) (sh v))) ((nI i))))), .int (sh (sr_hold v ((cc_open (dC d i) (sh v))) ((nI i))))])), (b1, .inl (cI, 10, .inl (sT (sr_hold v ((cc_open (dC d i) (sh v))) ((nI i)))))), (b2, .inl (cI, 10, .inl (sR (sr_hold v ((cc_open (dC d i) (sh v))) ((nI i))))))]) (b := b) (As := [.int (cc_open (dC d i) (sh v)), .int (nI i)]) (rest := []) ⟨hx, hb, hml, hown, hts⟩ [0] (k_S_hold l D cI b b1 b2 v hv ((cc_open (dC d i) (sh v))) ((nI i))) (cwV 2 hts v_S_60 rfl rfl rfl (by decide +kernel) ⟨Nat.le_of_ble_eq_true rfl, Nat.le_of_ble_eq_true rfl⟩) ⟨rfl, rfl, rfl, rfl, by decide⟩ rfl hK hP hD hS hA (va_recv (ci := 2) hK hP rfl (q0 := 0) rfl) rfl hl.1 (Nat.le_of_ble_eq_true rfl) d_S_sweep_62 ⟨Nat.le_of_ble_eq_true rfl, Nat.le_of_ble_eq_true rfl⟩ (fun H locs hP hD hS => ?_)
            have hP : va_P D cls_ [(h, .inr (1, [.ref a1, .ref a2, .ref a3, .ref a4, .int (nI (dz d)), .int (nI (dl d)), .int (nI (dO d))])), (a1, .inl (cI, 1575, .inl (dC d))), (a2, .inl (cI, 1575, .inl (dF d))), (a3, .inl (cI, 1575, .inl (dT d))), (a4, .inl (cI, 3060, .inl (dK d))), (b, .inr (2, [.ref b1, .ref b2, .int (nI (sn (sr_hold v ((cc_open (dC d i) (sh v))) ((nI i))))), .int (sh (sr_hold v ((cc_open (dC d i) (sh v))) ((nI i))))])), (b1, .inl (cI, 10, .inl (sT (sr_hold v ((cc_open (dC d i) (sh v))) ((nI i)))))), (b2, .inl (cI, 10, .inl (sR (sr_hold v ((cc_open (dC d i) (sh v))) ((nI i))))))] H := hP
            have hD : va_D A [(h, .inr (1, [.ref a1, .ref a2, .ref a3, .ref a4, .int (nI (dz d)), .int (nI (dl d)), .int (nI (dO d))])), (a1, .inl (cI, 1575, .inl (dC d))), (a2, .inl (cI, 1575, .inl (dF d))), (a3, .inl (cI, 1575, .inl (dT d))), (a4, .inl (cI, 3060, .inl (dK d))), (b, .inr (2, [.ref b1, .ref b2, .int (nI (sn (sr_hold v ((cc_open (dC d i) (sh v))) ((nI i))))), .int (sh (sr_hold v ((cc_open (dC d i) (sh v))) ((nI i))))])), (b1, .inl (cI, 10, .inl (sT (sr_hold v ((cc_open (dC d i) (sh v))) ((nI i)))))), (b2, .inl (cI, 10, .inl (sR (sr_hold v ((cc_open (dC d i) (sh v))) ((nI i))))))] := hD
            refine lv_iinc (k := 2) (v := (nI (i + 1))) (lv' := [(3, .int (nI (i + 1))), (5, .int (cc_open (dC d i) (sh v))), (4, .int (dC d i)), (2, .int (nI (dz d))), (0, .ref b), (1, .ref h)]) hx hb d_S_sweep_65 hl rfl (nI_1 i) (by decide) rfl (fun ls hl => ?_)
            refine lv_goto (tgt := 7) hx hb d_S_sweep_68 rfl ?_
            have hP := hP.sub (ws' := [(b, .inr (2, [.ref b1, .ref b2, .int (nI (sn (sr_hold v ((cc_open (dC d i) (sh v))) ((nI i))))), .int (sh (sr_hold v ((cc_open (dC d i) (sh v))) ((nI i))))])), (b1, .inl (cI, 10, .inl (sT (sr_hold v ((cc_open (dC d i) (sh v))) ((nI i)))))), (b2, .inl (cI, 10, .inl (sR (sr_hold v ((cc_open (dC d i) (sh v))) ((nI i)))))), (h, .inr (1, [.ref a1, .ref a2, .ref a3, .ref a4, .int (nI (dz d)), .int (nI (dl d)), .int (nI (dO d))])), (a1, .inl (cI, 1575, .inl (dC d))), (a2, .inl (cI, 1575, .inl (dF d))), (a3, .inl (cI, 1575, .inl (dT d))), (a4, .inl (cI, 3060, .inl (dK d)))]) [5, 6, 7, 0, 1, 2, 3, 4] rfl
            have hD := hD.sub (ws' := [(b, .inr (2, [.ref b1, .ref b2, .int (nI (sn (sr_hold v ((cc_open (dC d i) (sh v))) ((nI i))))), .int (sh (sr_hold v ((cc_open (dC d i) (sh v))) ((nI i))))])), (b1, .inl (cI, 10, .inl (sT (sr_hold v ((cc_open (dC d i) (sh v))) ((nI i)))))), (b2, .inl (cI, 10, .inl (sR (sr_hold v ((cc_open (dC d i) (sh v))) ((nI i)))))), (h, .inr (1, [.ref a1, .ref a2, .ref a3, .ref a4, .int (nI (dz d)), .int (nI (dl d)), .int (nI (dO d))])), (a1, .inl (cI, 1575, .inl (dC d))), (a2, .inl (cI, 1575, .inl (dF d))), (a3, .inl (cI, 1575, .inl (dT d))), (a4, .inl (cI, 3060, .inl (dK d)))]) [5, 6, 7, 0, 1, 2, 3, 4] (by decide) rfl
            exact ih (i + 1) (sr_hold v (cc_open (dC d i) (sh v)) (nI i)) ls H locs (by omega) (hold_le hv) (by rw [← he, sr_sweep_s, if_pos hc26, if_neg hc45, if_pos (it1 hc55)]) hP hD hS (lv_sub hl [0, 3, 4, 5] rfl)
        · refine lv_iload_n hx hb d_S_sweep_48 rfl (lv_at hl 2 rfl) ?_
          have he9 : (nI i, v) = res := by rw [← he, sr_sweep_s, if_pos hc26, if_pos hc45]
          subst he9
          exact fin _ _ _ _ _ hP hD hS rfl d_S_sweep_49
  refine lv_aload_n hx hb d_S_sweep_0 rfl (lv_at hl 1 rfl) ?_
  refine CTi_V (isC := [3, 4, 5, 6, 7]) (isR := [0, 1, 2]) (wr := [(b, .inr (2, [.ref b1, .ref b2, .int (nI (sn s)), .int (sh s)])), (b1, .inl (cI, 10, .inl (sT s))), (b2, .inl (cI, 10, .inl (sR s)))]) (wi := [(h, .inr (1, [.ref a1, .ref a2, .ref a3, .ref a4, .int (nI (dz d)), .int (nI (dl d)), .int (nI (dO d))])), (a1, .inl (cI, 1575, .inl (dC d))), (a2, .inl (cI, 1575, .inl (dF d))), (a3, .inl (cI, 1575, .inl (dT d))), (a4, .inl (cI, 3060, .inl (dK d)))]) (wo := [(h, .inr (1, [.ref a1, .ref a2, .ref a3, .ref a4, .int (nI (dz d)), .int (nI (dl d)), .int (nI (dO d))])), (a1, .inl (cI, 1575, .inl (dC d))), (a2, .inl (cI, 1575, .inl (dF d))), (a3, .inl (cI, 1575, .inl (dT d))), (a4, .inl (cI, 3060, .inl (dK d)))]) (b := h) (As := []) (rest := []) ⟨hx, hb, hml, hown, hts⟩ [0] (k_D_size l D cI h a1 a2 a3 a4 d hd) (cwV 0 hts v_S_41 rfl rfl rfl (by decide +kernel) ⟨Nat.le_of_ble_eq_true rfl, Nat.le_of_ble_eq_true rfl⟩) ⟨rfl, rfl, rfl, rfl, by decide⟩ rfl hK hP hD hS hA (va_recv (ci := 1) hK hP rfl (q0 := 3) rfl) rfl hl.1 (Nat.le_of_ble_eq_true rfl) d_S_sweep_1 ⟨Nat.le_of_ble_eq_true rfl, Nat.le_of_ble_eq_true rfl⟩ (fun H locs hP hD hS => ?_)
  have hP : va_P D cls_ [(b, .inr (2, [.ref b1, .ref b2, .int (nI (sn s)), .int (sh s)])), (b1, .inl (cI, 10, .inl (sT s))), (b2, .inl (cI, 10, .inl (sR s))), (h, .inr (1, [.ref a1, .ref a2, .ref a3, .ref a4, .int (nI (dz d)), .int (nI (dl d)), .int (nI (dO d))])), (a1, .inl (cI, 1575, .inl (dC d))), (a2, .inl (cI, 1575, .inl (dF d))), (a3, .inl (cI, 1575, .inl (dT d))), (a4, .inl (cI, 3060, .inl (dK d)))] H := hP
  have hD : va_D A [(b, .inr (2, [.ref b1, .ref b2, .int (nI (sn s)), .int (sh s)])), (b1, .inl (cI, 10, .inl (sT s))), (b2, .inl (cI, 10, .inl (sR s))), (h, .inr (1, [.ref a1, .ref a2, .ref a3, .ref a4, .int (nI (dz d)), .int (nI (dl d)), .int (nI (dO d))])), (a1, .inl (cI, 1575, .inl (dC d))), (a2, .inl (cI, 1575, .inl (dF d))), (a3, .inl (cI, 1575, .inl (dT d))), (a4, .inl (cI, 3060, .inl (dK d)))] := hD
  refine lv_istore_n (lv' := [(2, .int (nI (dz d))), (0, .ref b), (1, .ref h)]) hx hb d_S_sweep_4 rfl hl (by decide) rfl (fun ls hl => ?_)
  refine lv_iconst (v := 0) hx hb d_S_sweep_5 (by decide) ?_
  refine lv_istore_n (lv' := [(3, .int 0), (2, .int (nI (dz d))), (0, .ref b), (1, .ref h)]) hx hb d_S_sweep_6 rfl hl (by decide) rfl (fun ls hl => ?_)
  exact loop (dz d) 0 s ls H locs (by omega) hs hT hP hD hS (lv_sub hl [0, 1, 2, 3] rfl)
set_option maxHeartbeats 4000000 in
set_option maxRecDepth 100000 in
theorem k_S_propagate (l : Launch) (D : va_G) (cI : ClassId) (b b1 b2 h a1 a2 a3 a4 : Nat) (s : SS) (hs : sn s ≤ 10) (d : DS) (hd : DW d) : KTi l y_S_propagate c_S_propagate 6 .int { frames := 3, cells := 0, slots := 0, locals := 67 } D [(cI, .int)] [.ref b, .ref h] (wX cI b b1 b2 h a1 a2 a3 a4 s d) ((sr_prop (dC d) (dz d) 11 s).1) (wX cI b b1 b2 h a1 a2 a3 a4 (sr_prop (dC d) (dz d) 11 s).2 d) := by
  refine KTi_of (own := R_S) (by decide +kernel) rfl (Nat.le_of_ble_eq_true rfl) (vp_nar_int _) ?_
  intro p e st m below meth c A ls Q hx hb hml hts hown hK hP hD hS hA hl fin
  generalize hT : sr_prop (dC d) (dz d) 11 s = res at fin
  have loop : ∀ (r q : Nat) (v : SS) (ls : Array Slot) (H : Heap) (locs : List Loc), q + r = 11 → sn v ≤ 10 → sr_prop (dC d) (dz d) r v = res → va_P D cls_ [(b, .inr (2, [.ref b1, .ref b2, .int (nI (sn v)), .int (sh v)])), (b1, .inl (cI, 10, .inl (sT v))), (b2, .inl (cI, 10, .inl (sR v))), (h, .inr (1, [.ref a1, .ref a2, .ref a3, .ref a4, .int (nI (dz d)), .int (nI (dl d)), .int (nI (dO d))])), (a1, .inl (cI, 1575, .inl (dC d))), (a2, .inl (cI, 1575, .inl (dF d))), (a3, .inl (cI, 1575, .inl (dT d))), (a4, .inl (cI, 3060, .inl (dK d)))] H → va_D A [(b, .inr (2, [.ref b1, .ref b2, .int (nI (sn v)), .int (sh v)])), (b1, .inl (cI, 10, .inl (sT v))), (b2, .inl (cI, 10, .inl (sR v))), (h, .inr (1, [.ref a1, .ref a2, .ref a3, .ref a4, .int (nI (dz d)), .int (nI (dl d)), .int (nI (dO d))])), (a1, .inl (cI, 1575, .inl (dC d))), (a2, .inl (cI, 1575, .inl (dF d))), (a3, .inl (cI, 1575, .inl (dT d))), (a4, .inl (cI, 3060, .inl (dK d)))] → va_S A st.heap H locs → lv_has ls 6 [(3, .int (nI q)), (2, .int 1), (0, .ref b), (1, .ref h)] → W p l e { frames := 3, cells := 0, slots := 0, locals := 67 } st m [Value.ref b, Value.ref h].toArray below meth c H locs 0 0 Q (F0 m 4 ls []) := by
    intro r
    induction r with
    | zero =>
      intro q v ls H locs hi hv he hP hD hS hl
      have he : ((-1 : Int32), v) = res := he
      subst he
      refine lv_iload_n hx hb d_S_propagate_4 rfl (lv_at hl 1 rfl) ?_
      refine lv_if_eq (tgt := 57) hx hb d_S_propagate_5 rfl (fun hc5 => absurd hc5 (by decide)) (fun hc5 => ?_)
      refine lv_iload_n hx hb d_S_propagate_8 rfl (lv_at hl 0 rfl) ?_
      refine lv_bipush (v := 10) hx hb d_S_propagate_9 (by decide +kernel) ?_
      refine lv_icmp_gt (tgt := 57) hx hb d_S_propagate_11 rfl (fun hc11 => ?_) (fun hc11 => absurd (nI_lt (a := 10) (by omega) (by omega)) hc11)
      refine lv_iconst (v := (-1)) hx hb d_S_propagate_57 (by decide) ?_
      exact fin _ _ _ _ _ hP hD hS (rfl) d_S_propagate_58
    | succ r ih =>
      intro q v ls H locs hi hv he hP hD hS hl
      refine lv_iload_n hx hb d_S_propagate_4 rfl (lv_at hl 1 rfl) ?_
      refine lv_if_eq (tgt := 57) hx hb d_S_propagate_5 rfl (fun hc5 => absurd hc5 (by decide)) (fun hc5 => ?_)
      refine lv_iload_n hx hb d_S_propagate_8 rfl (lv_at hl 0 rfl) ?_
      refine lv_bipush (v := 10) hx hb d_S_propagate_9 (by decide +kernel) ?_
      refine lv_icmp_gt (tgt := 57) hx hb d_S_propagate_11 rfl (fun hc11 => absurd hc11 (nI_nlt (b := q) (a := 10) (by omega) (by decide))) (fun hc11 => ?_)
      refine lv_aload_n hx hb d_S_propagate_14 rfl (lv_at hl 2 rfl) ?_
      refine va_get (D := D) (ci := 2) (v := .int (nI (sn v))) (C := R_S) (T := T_S) (N := 4) hx hb hts u_S hown hK hP 0 rfl rfl 2 (by decide) (hts _ f_S_18) (fun _ h9 => h9) rfl d_S_propagate_15 ?_
      refine lv_istore (lv' := [(4, .int (nI (sn v))), (3, .int (nI q)), (2, .int 1), (0, .ref b), (1, .ref h)]) hx hb d_S_propagate_18 hl (by decide) rfl (fun ls hl => ?_)
      refine lv_aload_n hx hb d_S_propagate_20 rfl (lv_at hl 3 rfl) ?_
      refine lv_aload_n hx hb d_S_propagate_21 rfl (lv_at hl 4 rfl) ?_
      refine CTi_V (isC := [0, 1, 2, 3, 4, 5, 6, 7]) (isR := []) (wr := []) (wi := [(b, .inr (2, [.ref b1, .ref b2, .int (nI (sn v)), .int (sh v)])), (b1, .inl (cI, 10, .inl (sT v))), (b2, .inl (cI, 10, .inl (sR v))), (h, .inr (1, [.ref a1, .ref a2, .ref a3, .ref a4, .int (nI (dz d)), .int (nI (dl d)), .int (nI (dO d))])), (a1, .inl (cI, 1575, .inl (dC d))), (a2, .inl (cI, 1575, .inl (dF d))), (a3, .inl (cI, 1575, .inl (dT d))), (a4, .inl (cI, 3060, .inl (dK d)))]) (wo := [(b, .inr (2, [.ref b1, .ref b2, .int (nI (sn (sr_sweep (dC d) (dz d) 0 v).2)), .int (sh (sr_sweep (dC d) (dz d) 0 v).2)])), (b1, .inl (cI, 10, .inl (sT (sr_sweep (dC d) (dz d) 0 v).2))), (b2, .inl (cI, 10, .inl (sR (sr_sweep (dC d) (dz d) 0 v).2))), (h, .inr (1, [.ref a1, .ref a2, .ref a3, .ref a4, .int (nI (dz d)), .int (nI (dl d)), .int (nI (dO d))])), (a1, .inl (cI, 1575, .inl (dC d))), (a2, .inl (cI, 1575, .inl (dF d))), (a3, .inl (cI, 1575, .inl (dT d))), (a4, .inl (cI, 3060, .inl (dK d)))]) (b := b) (As := [.ref h]) (rest := []) ⟨hx, hb, hml, hown, hts⟩ [0] (k_S_sweep l D cI b b1 b2 h a1 a2 a3 a4 v hv d hd) (cwV 1 hts v_S_38 rfl rfl rfl (by decide +kernel) ⟨Nat.le_of_ble_eq_true rfl, Nat.le_of_ble_eq_true rfl⟩) ⟨rfl, rfl, rfl, rfl, by decide⟩ rfl hK hP hD hS hA (va_recv (ci := 2) hK hP rfl (q0 := 0) rfl) rfl hl.1 (Nat.le_of_ble_eq_true rfl) d_S_propagate_22 ⟨Nat.le_of_ble_eq_true rfl, Nat.le_of_ble_eq_true rfl⟩ (fun H locs hP hD hS => ?_)
      have hP : va_P D cls_ [(b, .inr (2, [.ref b1, .ref b2, .int (nI (sn (sr_sweep (dC d) (dz d) 0 v).2)), .int (sh (sr_sweep (dC d) (dz d) 0 v).2)])), (b1, .inl (cI, 10, .inl (sT (sr_sweep (dC d) (dz d) 0 v).2))), (b2, .inl (cI, 10, .inl (sR (sr_sweep (dC d) (dz d) 0 v).2))), (h, .inr (1, [.ref a1, .ref a2, .ref a3, .ref a4, .int (nI (dz d)), .int (nI (dl d)), .int (nI (dO d))])), (a1, .inl (cI, 1575, .inl (dC d))), (a2, .inl (cI, 1575, .inl (dF d))), (a3, .inl (cI, 1575, .inl (dT d))), (a4, .inl (cI, 3060, .inl (dK d)))] H := hP
      have hD : va_D A [(b, .inr (2, [.ref b1, .ref b2, .int (nI (sn (sr_sweep (dC d) (dz d) 0 v).2)), .int (sh (sr_sweep (dC d) (dz d) 0 v).2)])), (b1, .inl (cI, 10, .inl (sT (sr_sweep (dC d) (dz d) 0 v).2))), (b2, .inl (cI, 10, .inl (sR (sr_sweep (dC d) (dz d) 0 v).2))), (h, .inr (1, [.ref a1, .ref a2, .ref a3, .ref a4, .int (nI (dz d)), .int (nI (dl d)), .int (nI (dO d))])), (a1, .inl (cI, 1575, .inl (dC d))), (a2, .inl (cI, 1575, .inl (dF d))), (a3, .inl (cI, 1575, .inl (dT d))), (a4, .inl (cI, 3060, .inl (dK d)))] := hD
      refine lv_istore (lv' := [(5, .int (sr_sweep (dC d) (dz d) 0 v).1), (4, .int (nI (sn v))), (3, .int (nI q)), (2, .int 1), (0, .ref b), (1, .ref h)]) hx hb d_S_propagate_25 hl (by decide) rfl (fun ls hl => ?_)
      refine lv_iload hx hb d_S_propagate_27 (lv_at hl 0 rfl) ?_
      refine lv_iconst (v := (-1)) hx hb d_S_propagate_29 (by decide) ?_
      refine lv_icmp_eq (tgt := 36) hx hb d_S_propagate_30 rfl (fun hc30 => ?_) (fun hc30 => ?_)
      · refine lv_aload_n hx hb d_S_propagate_36 rfl (lv_at hl 4 rfl) ?_
        refine va_get (D := D) (ci := 2) (v := .int (nI (sn (sr_sweep (dC d) (dz d) 0 v).2))) (C := R_S) (T := T_S) (N := 4) hx hb hts u_S hown hK hP 0 rfl rfl 2 (by decide) (hts _ f_S_18) (fun _ h9 => h9) rfl d_S_propagate_37 ?_
        refine lv_iload hx hb d_S_propagate_40 (lv_at hl 1 rfl) ?_
        refine lv_icmp_le (tgt := 49) hx hb d_S_propagate_42 rfl (fun hc42 => ?_) (fun hc42 => ?_)
        · refine lv_iconst (v := 0) hx hb d_S_propagate_49 (by decide) ?_
          refine lv_istore_n (lv' := [(2, .int 0), (5, .int (sr_sweep (dC d) (dz d) 0 v).1), (4, .int (nI (sn v))), (3, .int (nI q)), (0, .ref b), (1, .ref h)]) hx hb d_S_propagate_50 rfl hl (by decide) rfl (fun ls hl => ?_)
          refine lv_iinc (k := 3) (v := (nI (q + 1))) (lv' := [(3, .int (nI (q + 1))), (2, .int 0), (5, .int (sr_sweep (dC d) (dz d) 0 v).1), (4, .int (nI (sn v))), (0, .ref b), (1, .ref h)]) hx hb d_S_propagate_51 hl rfl (nI_1 q) (by decide) rfl (fun ls hl => ?_)
          refine lv_goto (tgt := 4) hx hb d_S_propagate_54 rfl ?_
          refine lv_iload_n hx hb d_S_propagate_4 rfl (lv_at hl 1 rfl) ?_
          refine lv_if_eq (tgt := 57) hx hb d_S_propagate_5 rfl (fun hc5 => ?_) (fun hc5 => absurd rfl hc5)
          refine lv_iconst (v := (-1)) hx hb d_S_propagate_57 (by decide) ?_
          have he9 : sr_sweep (dC d) (dz d) 0 v = res := by rw [← he, sr_prop_s, if_neg (fun h => h hc30), if_neg (fun h => Int32.not_le.mpr (nI_lt h (by have := sweep_le (C := dC d) (dz d) 0 hv; omega)) hc42)]
          rw [← he9] at fin
          exact fin _ _ _ _ _ hP hD hS hc30.symm d_S_propagate_58
        · refine lv_iconst (v := 1) hx hb d_S_propagate_45 (by decide) ?_
          refine lv_goto (tgt := 50) hx hb d_S_propagate_46 rfl ?_
          refine lv_istore_n (lv' := [(2, .int 1), (5, .int (sr_sweep (dC d) (dz d) 0 v).1), (4, .int (nI (sn v))), (3, .int (nI q)), (0, .ref b), (1, .ref h)]) hx hb d_S_propagate_50 rfl hl (by decide) rfl (fun ls hl => ?_)
          refine lv_iinc (k := 3) (v := (nI (q + 1))) (lv' := [(3, .int (nI (q + 1))), (2, .int 1), (5, .int (sr_sweep (dC d) (dz d) 0 v).1), (4, .int (nI (sn v))), (0, .ref b), (1, .ref h)]) hx hb d_S_propagate_51 hl rfl (nI_1 q) (by decide) rfl (fun ls hl => ?_)
          refine lv_goto (tgt := 4) hx hb d_S_propagate_54 rfl ?_
          exact ih (q + 1) (sr_sweep (dC d) (dz d) 0 v).2 ls H locs (by omega) (sweep_le (dz d) 0 hv) (by rw [← he, sr_prop_s, if_neg (fun h => h hc30), if_pos ((nI_ltI (by omega) (by have := sweep_le (C := dC d) (dz d) 0 hv; omega)).1 (Int32.not_le.mp hc42))]) hP hD hS (lv_sub hl [0, 1, 4, 5] rfl)
      · refine lv_iload hx hb d_S_propagate_33 (lv_at hl 0 rfl) ?_
        have he9 : sr_sweep (dC d) (dz d) 0 v = res := by rw [← he, sr_prop_s, if_pos hc30]
        rw [← he9] at fin
        exact fin _ _ _ _ _ hP hD hS rfl d_S_propagate_35
  refine lv_iconst (v := 1) hx hb d_S_propagate_0 (by decide) ?_
  refine lv_istore_n (lv' := [(2, .int 1), (0, .ref b), (1, .ref h)]) hx hb d_S_propagate_1 rfl hl (by decide) rfl (fun ls hl => ?_)
  refine lv_iconst (v := 0) hx hb d_S_propagate_2 (by decide) ?_
  refine lv_istore_n (lv' := [(3, .int 0), (2, .int 1), (0, .ref b), (1, .ref h)]) hx hb d_S_propagate_3 rfl hl (by decide) rfl (fun ls hl => ?_)
  exact loop 11 0 s ls st.heap [] (by omega) hs hT hP hD hS (lv_sub hl [0, 1, 2, 3] rfl)
set_option maxHeartbeats 4000000 in
set_option maxRecDepth 100000 in
theorem k_S_learn (l : Launch) (D : va_G) (cI : ClassId) (b b1 b2 h a1 a2 a3 a4 : Nat) (s : SS) (hs : sn s ≤ 10) (d : DS) (hd : DW d) (x : Int32) : KTi l y_S_learn c_S_learn 8 .int { frames := 2, cells := 0, slots := 0, locals := 46 } D [(cI, .int)] [.ref b, .ref h, .int x] (wX cI b b1 b2 h a1 a2 a3 a4 s d) ((sr_learn d s x).1) (wX cI b b1 b2 h a1 a2 a3 a4 (sr_learn d s x).2.2 (sr_learn d s x).2.1) := by
  refine KTi_of (own := R_S) (by decide +kernel) rfl (Nat.le_of_ble_eq_true rfl) (vp_nar_int _) ?_
  intro p e st m below meth c A ls Q hx hb hml hts hown hK hP hD hS hA hl fin
  have hq0 := (ld_spec (sR s) (sn s)).1
  unfold sr_learn at fin
  generalize hT : sr_learn1 d s x = res at fin
  unfold sr_learn1 at hT
  generalize hLD : sr_ld (sR s) (sn s) = q at fin hT hq0
  generalize hLA : sr_late s = la at hT
  have ex : ∀ (y : Int32) (u : DS) (ls : Array Slot) (H : Heap) (locs : List Loc), DW u → (y, u) = res → va_P D cls_ [(b, .inr (2, [.ref b1, .ref b2, .int (nI (sn s)), .int (sh s)])), (b1, .inl (cI, 10, .inl (sT s))), (b2, .inl (cI, 10, .inl (sR s))), (h, .inr (1, [.ref a1, .ref a2, .ref a3, .ref a4, .int (nI (dz u)), .int (nI (dl u)), .int (nI (dO u))])), (a1, .inl (cI, 1575, .inl (dC u))), (a2, .inl (cI, 1575, .inl (dF u))), (a3, .inl (cI, 1575, .inl (dT u))), (a4, .inl (cI, 3060, .inl (dK u)))] H → va_D A [(b, .inr (2, [.ref b1, .ref b2, .int (nI (sn s)), .int (sh s)])), (b1, .inl (cI, 10, .inl (sT s))), (b2, .inl (cI, 10, .inl (sR s))), (h, .inr (1, [.ref a1, .ref a2, .ref a3, .ref a4, .int (nI (dz u)), .int (nI (dl u)), .int (nI (dO u))])), (a1, .inl (cI, 1575, .inl (dC u))), (a2, .inl (cI, 1575, .inl (dF u))), (a3, .inl (cI, 1575, .inl (dT u))), (a4, .inl (cI, 3060, .inl (dK u)))] → va_S A st.heap H locs → lv_has ls 8 [(5, .int y), (3, .int (nI q - 1)), (0, .ref b), (1, .ref h)] → W p l e { frames := 2, cells := 0, slots := 0, locals := 46 } st m [Value.ref b, Value.ref h, Value.int x].toArray below meth c H locs 0 0 Q (F0 m 125 ls []) := by
    intro y u ls H locs hu he hP hD hS hl
    subst he
    refine lv_aload_n hx hb d_S_learn_125 rfl (lv_at hl 3 rfl) ?_
    refine lv_iload hx hb d_S_learn_126 (lv_at hl 0 rfl) ?_
    refine CTv_V (isC := [3, 4, 5, 6, 7]) (isR := [0, 1, 2]) (wr := [(b, .inr (2, [.ref b1, .ref b2, .int (nI (sn s)), .int (sh s)])), (b1, .inl (cI, 10, .inl (sT s))), (b2, .inl (cI, 10, .inl (sR s)))]) (wi := [(h, .inr (1, [.ref a1, .ref a2, .ref a3, .ref a4, .int (nI (dz u)), .int (nI (dl u)), .int (nI (dO u))])), (a1, .inl (cI, 1575, .inl (dC u))), (a2, .inl (cI, 1575, .inl (dF u))), (a3, .inl (cI, 1575, .inl (dT u))), (a4, .inl (cI, 3060, .inl (dK u)))]) (wo := [(h, .inr (1, [.ref a1, .ref a2, .ref a3, .ref a4, .int (nI (dz (dk_derive u y))), .int (nI (dl (dk_derive u y))), .int (nI (dO (dk_derive u y)))])), (a1, .inl (cI, 1575, .inl (dC (dk_derive u y)))), (a2, .inl (cI, 1575, .inl (dF (dk_derive u y)))), (a3, .inl (cI, 1575, .inl (dT (dk_derive u y)))), (a4, .inl (cI, 3060, .inl (dK (dk_derive u y))))]) (b := h) (As := [.int y]) (rest := []) ⟨hx, hb, hml, hown, hts⟩ [0] (k_D_derive l D cI h a1 a2 a3 a4 u hu y) (cwV 1 hts v_S_76 rfl rfl rfl (by decide +kernel) ⟨Nat.le_of_ble_eq_true rfl, Nat.le_of_ble_eq_true rfl⟩) ⟨rfl, rfl, rfl, rfl, by decide⟩ rfl hK hP hD hS hA (va_recv (ci := 1) hK hP rfl (q0 := 3) rfl) rfl hl.1 (Nat.le_of_ble_eq_true rfl) d_S_learn_128 ⟨Nat.le_of_ble_eq_true rfl, Nat.le_of_ble_eq_true rfl⟩ (fun H locs hP hD hS => ?_)
    have hP : va_P D cls_ [(b, .inr (2, [.ref b1, .ref b2, .int (nI (sn s)), .int (sh s)])), (b1, .inl (cI, 10, .inl (sT s))), (b2, .inl (cI, 10, .inl (sR s))), (h, .inr (1, [.ref a1, .ref a2, .ref a3, .ref a4, .int (nI (dz (dk_derive u y))), .int (nI (dl (dk_derive u y))), .int (nI (dO (dk_derive u y)))])), (a1, .inl (cI, 1575, .inl (dC (dk_derive u y)))), (a2, .inl (cI, 1575, .inl (dF (dk_derive u y)))), (a3, .inl (cI, 1575, .inl (dT (dk_derive u y)))), (a4, .inl (cI, 3060, .inl (dK (dk_derive u y))))] H := hP
    have hD : va_D A [(b, .inr (2, [.ref b1, .ref b2, .int (nI (sn s)), .int (sh s)])), (b1, .inl (cI, 10, .inl (sT s))), (b2, .inl (cI, 10, .inl (sR s))), (h, .inr (1, [.ref a1, .ref a2, .ref a3, .ref a4, .int (nI (dz (dk_derive u y))), .int (nI (dl (dk_derive u y))), .int (nI (dO (dk_derive u y)))])), (a1, .inl (cI, 1575, .inl (dC (dk_derive u y)))), (a2, .inl (cI, 1575, .inl (dF (dk_derive u y)))), (a3, .inl (cI, 1575, .inl (dT (dk_derive u y)))), (a4, .inl (cI, 3060, .inl (dK (dk_derive u y))))] := hD
    refine lv_aload_n hx hb d_S_learn_131 rfl (lv_at hl 2 rfl) ?_
    refine lv_aload_n hx hb d_S_learn_132 rfl (lv_at hl 2 rfl) ?_
    refine lv_iload hx hb d_S_learn_133 (lv_at hl 0 rfl) ?_
    refine lv_iload_n hx hb d_S_learn_135 rfl (lv_at hl 1 rfl) ?_
    refine CTi_V (isC := [0, 1, 2]) (isR := [3, 4, 5, 6, 7]) (wr := [(h, .inr (1, [.ref a1, .ref a2, .ref a3, .ref a4, .int (nI (dz (dk_derive u y))), .int (nI (dl (dk_derive u y))), .int (nI (dO (dk_derive u y)))])), (a1, .inl (cI, 1575, .inl (dC (dk_derive u y)))), (a2, .inl (cI, 1575, .inl (dF (dk_derive u y)))), (a3, .inl (cI, 1575, .inl (dT (dk_derive u y)))), (a4, .inl (cI, 3060, .inl (dK (dk_derive u y))))]) (wi := [(b, .inr (2, [.ref b1, .ref b2, .int (nI (sn s)), .int (sh s)])), (b1, .inl (cI, 10, .inl (sT s))), (b2, .inl (cI, 10, .inl (sR s)))]) (wo := [(b, .inr (2, [.ref b1, .ref b2, .int (nI (sn s)), .int (sh s)])), (b1, .inl (cI, 10, .inl (sT s))), (b2, .inl (cI, 10, .inl (sR s)))]) (b := b) (As := [.int y, .int (nI q - 1)]) (rest := [.ref b]) ⟨hx, hb, hml, hown, hts⟩ [0] (k_S_jumpTarget l D cI b b1 b2 s hs y (nI q - 1) q hq0 rfl) (cwV 2 hts v_S_79 rfl rfl rfl (by decide +kernel) ⟨Nat.le_of_ble_eq_true rfl, Nat.le_of_ble_eq_true rfl⟩) ⟨rfl, rfl, rfl, rfl, by decide⟩ rfl hK hP hD hS hA (va_recv (ci := 2) hK hP rfl (q0 := 0) rfl) rfl hl.1 (Nat.le_of_ble_eq_true rfl) d_S_learn_136 ⟨Nat.le_of_ble_eq_true rfl, Nat.le_of_ble_eq_true rfl⟩ (fun H locs hP hD hS => ?_)
    have hP : va_P D cls_ [(h, .inr (1, [.ref a1, .ref a2, .ref a3, .ref a4, .int (nI (dz (dk_derive u y))), .int (nI (dl (dk_derive u y))), .int (nI (dO (dk_derive u y)))])), (a1, .inl (cI, 1575, .inl (dC (dk_derive u y)))), (a2, .inl (cI, 1575, .inl (dF (dk_derive u y)))), (a3, .inl (cI, 1575, .inl (dT (dk_derive u y)))), (a4, .inl (cI, 3060, .inl (dK (dk_derive u y)))), (b, .inr (2, [.ref b1, .ref b2, .int (nI (sn s)), .int (sh s)])), (b1, .inl (cI, 10, .inl (sT s))), (b2, .inl (cI, 10, .inl (sR s)))] H := hP
    have hD : va_D A [(h, .inr (1, [.ref a1, .ref a2, .ref a3, .ref a4, .int (nI (dz (dk_derive u y))), .int (nI (dl (dk_derive u y))), .int (nI (dO (dk_derive u y)))])), (a1, .inl (cI, 1575, .inl (dC (dk_derive u y)))), (a2, .inl (cI, 1575, .inl (dF (dk_derive u y)))), (a3, .inl (cI, 1575, .inl (dT (dk_derive u y)))), (a4, .inl (cI, 3060, .inl (dK (dk_derive u y)))), (b, .inr (2, [.ref b1, .ref b2, .int (nI (sn s)), .int (sh s)])), (b1, .inl (cI, 10, .inl (sT s))), (b2, .inl (cI, 10, .inl (sR s)))] := hD
    refine CTv_V (isC := [5, 6, 7]) (isR := [0, 1, 2, 3, 4]) (wr := [(h, .inr (1, [.ref a1, .ref a2, .ref a3, .ref a4, .int (nI (dz (dk_derive u y))), .int (nI (dl (dk_derive u y))), .int (nI (dO (dk_derive u y)))])), (a1, .inl (cI, 1575, .inl (dC (dk_derive u y)))), (a2, .inl (cI, 1575, .inl (dF (dk_derive u y)))), (a3, .inl (cI, 1575, .inl (dT (dk_derive u y)))), (a4, .inl (cI, 3060, .inl (dK (dk_derive u y))))]) (wi := [(b, .inr (2, [.ref b1, .ref b2, .int (nI (sn s)), .int (sh s)])), (b1, .inl (cI, 10, .inl (sT s))), (b2, .inl (cI, 10, .inl (sR s)))]) (wo := [(b, .inr (2, [.ref b1, .ref b2, .int (nI (sn (sr_cut s (sr_jump (sT s) (sR s) y (q - 1) (q - 1))))), .int (sh (sr_cut s (sr_jump (sT s) (sR s) y (q - 1) (q - 1))))])), (b1, .inl (cI, 10, .inl (sT (sr_cut s (sr_jump (sT s) (sR s) y (q - 1) (q - 1)))))), (b2, .inl (cI, 10, .inl (sR (sr_cut s (sr_jump (sT s) (sR s) y (q - 1) (q - 1))))))]) (b := b) (As := [.int (nI (sr_jump (sT s) (sR s) y (q - 1) (q - 1)))]) (rest := []) ⟨hx, hb, hml, hown, hts⟩ [0] (k_S_cut l D cI b b1 b2 s hs _ (sr_jump (sT s) (sR s) y (q - 1) (q - 1)) (jump_le (by omega) (by omega)) rfl) (cwV 1 hts v_S_83 rfl rfl rfl (by decide +kernel) ⟨Nat.le_of_ble_eq_true rfl, Nat.le_of_ble_eq_true rfl⟩) ⟨rfl, rfl, rfl, rfl, by decide⟩ rfl hK hP hD hS hA (va_recv (ci := 2) hK hP rfl (q0 := 5) rfl) rfl hl.1 (Nat.le_of_ble_eq_true rfl) d_S_learn_139 ⟨Nat.le_of_ble_eq_true rfl, Nat.le_of_ble_eq_true rfl⟩ (fun H locs hP hD hS => ?_)
    have hP : va_P D cls_ [(h, .inr (1, [.ref a1, .ref a2, .ref a3, .ref a4, .int (nI (dz (dk_derive u y))), .int (nI (dl (dk_derive u y))), .int (nI (dO (dk_derive u y)))])), (a1, .inl (cI, 1575, .inl (dC (dk_derive u y)))), (a2, .inl (cI, 1575, .inl (dF (dk_derive u y)))), (a3, .inl (cI, 1575, .inl (dT (dk_derive u y)))), (a4, .inl (cI, 3060, .inl (dK (dk_derive u y)))), (b, .inr (2, [.ref b1, .ref b2, .int (nI (sn (sr_cut s (sr_jump (sT s) (sR s) y (q - 1) (q - 1))))), .int (sh (sr_cut s (sr_jump (sT s) (sR s) y (q - 1) (q - 1))))])), (b1, .inl (cI, 10, .inl (sT (sr_cut s (sr_jump (sT s) (sR s) y (q - 1) (q - 1)))))), (b2, .inl (cI, 10, .inl (sR (sr_cut s (sr_jump (sT s) (sR s) y (q - 1) (q - 1))))))] H := hP
    have hD : va_D A [(h, .inr (1, [.ref a1, .ref a2, .ref a3, .ref a4, .int (nI (dz (dk_derive u y))), .int (nI (dl (dk_derive u y))), .int (nI (dO (dk_derive u y)))])), (a1, .inl (cI, 1575, .inl (dC (dk_derive u y)))), (a2, .inl (cI, 1575, .inl (dF (dk_derive u y)))), (a3, .inl (cI, 1575, .inl (dT (dk_derive u y)))), (a4, .inl (cI, 3060, .inl (dK (dk_derive u y)))), (b, .inr (2, [.ref b1, .ref b2, .int (nI (sn (sr_cut s (sr_jump (sT s) (sR s) y (q - 1) (q - 1))))), .int (sh (sr_cut s (sr_jump (sT s) (sR s) y (q - 1) (q - 1))))])), (b1, .inl (cI, 10, .inl (sT (sr_cut s (sr_jump (sT s) (sR s) y (q - 1) (q - 1)))))), (b2, .inl (cI, 10, .inl (sR (sr_cut s (sr_jump (sT s) (sR s) y (q - 1) (q - 1))))))] := hD
    refine lv_iload hx hb d_S_learn_142 (lv_at hl 0 rfl) ?_
    have hP := hP.sub (ws' := [(b, .inr (2, [.ref b1, .ref b2, .int (nI (sn (sr_cut s (sr_jump (sT s) (sR s) y (q - 1) (q - 1))))), .int (sh (sr_cut s (sr_jump (sT s) (sR s) y (q - 1) (q - 1))))])), (b1, .inl (cI, 10, .inl (sT (sr_cut s (sr_jump (sT s) (sR s) y (q - 1) (q - 1)))))), (b2, .inl (cI, 10, .inl (sR (sr_cut s (sr_jump (sT s) (sR s) y (q - 1) (q - 1)))))), (h, .inr (1, [.ref a1, .ref a2, .ref a3, .ref a4, .int (nI (dz (dk_derive u y))), .int (nI (dl (dk_derive u y))), .int (nI (dO (dk_derive u y)))])), (a1, .inl (cI, 1575, .inl (dC (dk_derive u y)))), (a2, .inl (cI, 1575, .inl (dF (dk_derive u y)))), (a3, .inl (cI, 1575, .inl (dT (dk_derive u y)))), (a4, .inl (cI, 3060, .inl (dK (dk_derive u y))))]) [5, 6, 7, 0, 1, 2, 3, 4] rfl
    have hD := hD.sub (ws' := [(b, .inr (2, [.ref b1, .ref b2, .int (nI (sn (sr_cut s (sr_jump (sT s) (sR s) y (q - 1) (q - 1))))), .int (sh (sr_cut s (sr_jump (sT s) (sR s) y (q - 1) (q - 1))))])), (b1, .inl (cI, 10, .inl (sT (sr_cut s (sr_jump (sT s) (sR s) y (q - 1) (q - 1)))))), (b2, .inl (cI, 10, .inl (sR (sr_cut s (sr_jump (sT s) (sR s) y (q - 1) (q - 1)))))), (h, .inr (1, [.ref a1, .ref a2, .ref a3, .ref a4, .int (nI (dz (dk_derive u y))), .int (nI (dl (dk_derive u y))), .int (nI (dO (dk_derive u y)))])), (a1, .inl (cI, 1575, .inl (dC (dk_derive u y)))), (a2, .inl (cI, 1575, .inl (dF (dk_derive u y)))), (a3, .inl (cI, 1575, .inl (dT (dk_derive u y)))), (a4, .inl (cI, 3060, .inl (dK (dk_derive u y))))]) [5, 6, 7, 0, 1, 2, 3, 4] (by decide) rfl
    exact fin _ _ _ _ _ hP hD hS (rfl) d_S_learn_144
  have loop : ∀ (k : Nat) (y : Int32) (u : DS) (ls : Array Slot) (H : Heap) (locs : List Loc), k ≤ sn s → DW u → sr_res (sT s) (sR s) q la k y u = res → va_P D cls_ [(b, .inr (2, [.ref b1, .ref b2, .int (nI (sn s)), .int (sh s)])), (b1, .inl (cI, 10, .inl (sT s))), (b2, .inl (cI, 10, .inl (sR s))), (h, .inr (1, [.ref a1, .ref a2, .ref a3, .ref a4, .int (nI (dz u)), .int (nI (dl u)), .int (nI (dO u))])), (a1, .inl (cI, 1575, .inl (dC u))), (a2, .inl (cI, 1575, .inl (dF u))), (a3, .inl (cI, 1575, .inl (dT u))), (a4, .inl (cI, 3060, .inl (dK u)))] H → va_D A [(b, .inr (2, [.ref b1, .ref b2, .int (nI (sn s)), .int (sh s)])), (b1, .inl (cI, 10, .inl (sT s))), (b2, .inl (cI, 10, .inl (sR s))), (h, .inr (1, [.ref a1, .ref a2, .ref a3, .ref a4, .int (nI (dz u)), .int (nI (dl u)), .int (nI (dO u))])), (a1, .inl (cI, 1575, .inl (dC u))), (a2, .inl (cI, 1575, .inl (dF u))), (a3, .inl (cI, 1575, .inl (dT u))), (a4, .inl (cI, 3060, .inl (dK u)))] → va_S A st.heap H locs → lv_has ls 8 [(6, .int (nI k - 1)), (5, .int y), (4, .int la), (3, .int (nI q - 1)), (0, .ref b), (1, .ref h)] → W p l e { frames := 2, cells := 0, slots := 0, locals := 46 } st m [Value.ref b, Value.ref h, Value.int x].toArray below meth c H locs 0 0 Q (F0 m 32 ls []) := by
    intro k
    induction k with
    | zero =>
      intro y u ls H locs hk hu he hP hD hS hl
      refine lv_iload hx hb d_S_learn_32 (lv_at hl 0 rfl) ?_
      refine lv_iload_n hx hb d_S_learn_34 rfl (lv_at hl 3 rfl) ?_
      refine lv_icmp_le (tgt := 125) hx hb d_S_learn_35 rfl (fun hc35 => ?_) (fun hc35 => absurd (le_dec0 (q := q) (by omega)) hc35)
      exact ex y u ls H locs hu he hP hD hS (lv_sub hl [1, 3, 4, 5] rfl)
    | succ k ih =>
      intro y u ls H locs hk hu he hP hD hS hl
      rw [nI_pred] at hl
      refine lv_iload hx hb d_S_learn_32 (lv_at hl 0 rfl) ?_
      refine lv_iload_n hx hb d_S_learn_34 rfl (lv_at hl 3 rfl) ?_
      refine lv_icmp_le (tgt := 125) hx hb d_S_learn_35 rfl (fun hc35 => ?_) (fun hc35 => ?_)
      · have hkq : k < q := (le_dec (by omega) (by omega)).1 hc35
        exact ex y u ls H locs hu (by rw [← he, sr_res_s, if_pos hkq]) hP hD hS (lv_sub hl [1, 3, 4, 5] rfl)
      · have hkq : ¬ k < q := fun h => hc35 ((le_dec (by omega) (by omega)).2 h)
        refine lv_iload_n hx hb d_S_learn_38 rfl (lv_at hl 3 rfl) ?_
        refine lv_iconst (v := (-1)) hx hb d_S_learn_39 (by decide) ?_
        refine lv_icmp_eq (tgt := 57) hx hb d_S_learn_40 rfl (fun hc40 => ?_) (fun hc40 => ?_)
        · have hc2 : ¬ (q ≠ 0 ∧ cc_singleB (y &&& la) = true) := fun h => h.1 ((dec_m1 (by omega)).1 hc40)
          refine lv_aload_n hx hb d_S_learn_57 rfl (lv_at hl 4 rfl) ?_
          refine va_get (D := D) (ci := 2) (v := .ref b1) (C := R_S) (T := T_S) (N := 4) hx hb hts u_S hown hK hP 0 rfl rfl 0 (by decide) (hts _ f_S_9) (fun _ h9 => h9) rfl d_S_learn_58 ?_
          refine lv_iload hx hb d_S_learn_61 (lv_at hl 0 rfl) ?_
          refine va_iald (D := D) (i := (nI k)) hx hb hK hP 1 0 rfl rfl (vp_in_nI (show k < 10 by omega) (by decide)) d_S_learn_63 ?_
          rw [show ((nI k) : Int32).toNatClampNeg = k from nI_clamp (by omega)]
          refine CTi_S (isC := []) (isR := [0, 1, 2, 3, 4, 5, 6, 7]) (wr := [(b, .inr (2, [.ref b1, .ref b2, .int (nI (sn s)), .int (sh s)])), (b1, .inl (cI, 10, .inl (sT s))), (b2, .inl (cI, 10, .inl (sR s))), (h, .inr (1, [.ref a1, .ref a2, .ref a3, .ref a4, .int (nI (dz u)), .int (nI (dl u)), .int (nI (dO u))])), (a1, .inl (cI, 1575, .inl (dC u))), (a2, .inl (cI, 1575, .inl (dF u))), (a3, .inl (cI, 1575, .inl (dT u))), (a4, .inl (cI, 3060, .inl (dK u)))]) (wi := []) (wo := []) (As := [.int (sT s k)]) (rest := []) ⟨hx, hb, hml, hown, hts⟩ [] (k_L_opposite l D ((sT s k))) (va_cwS 1 hts v_S_51 rfl rfl rfl (by decide +kernel) ⟨Nat.le_of_ble_eq_true rfl, Nat.le_of_ble_eq_true rfl⟩) ⟨rfl, rfl, rfl, rfl, by decide⟩ rfl hK hP hD hS hA rfl hl.1 (Nat.le_of_ble_eq_true rfl) d_S_learn_64 ⟨Nat.le_of_ble_eq_true rfl, Nat.le_of_ble_eq_true rfl⟩ (fun H locs hP hD hS => ?_)
          have hP : va_P D cls_ [(b, .inr (2, [.ref b1, .ref b2, .int (nI (sn s)), .int (sh s)])), (b1, .inl (cI, 10, .inl (sT s))), (b2, .inl (cI, 10, .inl (sR s))), (h, .inr (1, [.ref a1, .ref a2, .ref a3, .ref a4, .int (nI (dz u)), .int (nI (dl u)), .int (nI (dO u))])), (a1, .inl (cI, 1575, .inl (dC u))), (a2, .inl (cI, 1575, .inl (dF u))), (a3, .inl (cI, 1575, .inl (dT u))), (a4, .inl (cI, 3060, .inl (dK u)))] H := hP
          have hD : va_D A [(b, .inr (2, [.ref b1, .ref b2, .int (nI (sn s)), .int (sh s)])), (b1, .inl (cI, 10, .inl (sT s))), (b2, .inl (cI, 10, .inl (sR s))), (h, .inr (1, [.ref a1, .ref a2, .ref a3, .ref a4, .int (nI (dz u)), .int (nI (dl u)), .int (nI (dO u))])), (a1, .inl (cI, 1575, .inl (dC u))), (a2, .inl (cI, 1575, .inl (dF u))), (a3, .inl (cI, 1575, .inl (dT u))), (a4, .inl (cI, 3060, .inl (dK u)))] := hD
          refine lv_istore (lv' := [(7, .int (cc_neg ((sT s k)))), (6, .int (nI k)), (5, .int y), (4, .int la), (3, .int (nI q - 1)), (0, .ref b), (1, .ref h)]) hx hb d_S_learn_67 hl (by decide) rfl (fun ls hl => ?_)
          refine lv_iload hx hb d_S_learn_69 (lv_at hl 2 rfl) ?_
          refine lv_iload hx hb d_S_learn_71 (lv_at hl 0 rfl) ?_
          refine lv_iand hx hb d_S_learn_73 ?_
          refine lv_if_eq (tgt := 119) hx hb d_S_learn_74 rfl (fun hc74 => ?_) (fun hc74 => ?_)
          · refine lv_iinc (k := 1) (v := (nI k - 1)) (lv' := [(6, .int (nI k - 1)), (7, .int (cc_neg ((sT s k)))), (5, .int y), (4, .int la), (3, .int (nI q - 1)), (0, .ref b), (1, .ref h)]) hx hb d_S_learn_119 hl rfl (im1 _) (by decide) rfl (fun ls hl => ?_)
            refine lv_goto (tgt := 32) hx hb d_S_learn_122 rfl ?_
            exact ih y u ls H locs (by omega) hu (by rw [← he, sr_res_s, if_neg hkq, if_neg hc2, if_pos hc74]) hP hD hS (lv_sub hl [0, 2, 3, 4, 5, 6] rfl)
          · refine lv_iload hx hb d_S_learn_77 (lv_at hl 2 rfl) ?_
            refine lv_iload hx hb d_S_learn_79 (lv_at hl 0 rfl) ?_
            refine lv_iconst (v := (-1)) hx hb d_S_learn_81 (by decide) ?_
            refine lv_ixor hx hb d_S_learn_82 ?_
            refine lv_iand hx hb d_S_learn_83 ?_
            refine lv_aload_n hx hb d_S_learn_84 rfl (lv_at hl 6 rfl) ?_
            refine lv_aload_n hx hb d_S_learn_85 rfl (lv_at hl 5 rfl) ?_
            refine va_get (D := D) (ci := 2) (v := .ref b2) (C := R_S) (T := T_S) (N := 4) hx hb hts u_S hown hK hP 0 rfl rfl 1 (by decide) (hts _ f_S_15) (fun _ h9 => h9) rfl d_S_learn_86 ?_
            refine lv_iload hx hb d_S_learn_89 (lv_at hl 1 rfl) ?_
            refine va_iald (D := D) (i := (nI k)) hx hb hK hP 2 0 rfl rfl (vp_in_nI (show k < 10 by omega) (by decide)) d_S_learn_91 ?_
            rw [show ((nI k) : Int32).toNatClampNeg = k from nI_clamp (by omega)]
            refine CTi_V (isC := [3, 4, 5, 6, 7]) (isR := [0, 1, 2]) (wr := [(b, .inr (2, [.ref b1, .ref b2, .int (nI (sn s)), .int (sh s)])), (b1, .inl (cI, 10, .inl (sT s))), (b2, .inl (cI, 10, .inl (sR s)))]) (wi := [(h, .inr (1, [.ref a1, .ref a2, .ref a3, .ref a4, .int (nI (dz u)), .int (nI (dl u)), .int (nI (dO u))])), (a1, .inl (cI, 1575, .inl (dC u))), (a2, .inl (cI, 1575, .inl (dF u))), (a3, .inl (cI, 1575, .inl (dT u))), (a4, .inl (cI, 3060, .inl (dK u)))]) (wo := [(h, .inr (1, [.ref a1, .ref a2, .ref a3, .ref a4, .int (nI (dz u)), .int (nI (dl u)), .int (nI (dO u))])), (a1, .inl (cI, 1575, .inl (dC u))), (a2, .inl (cI, 1575, .inl (dF u))), (a3, .inl (cI, 1575, .inl (dT u))), (a4, .inl (cI, 3060, .inl (dK u)))]) (b := h) (As := [.int (sR s k)]) (rest := [.int (y &&& ((cc_neg ((sT s k))) ^^^ (-1)))]) ⟨hx, hb, hml, hown, hts⟩ [0] (k_D_clause l D cI h a1 a2 a3 a4 u hu ((sR s k))) (cwV 1 hts v_S_47 rfl rfl rfl (by decide +kernel) ⟨Nat.le_of_ble_eq_true rfl, Nat.le_of_ble_eq_true rfl⟩) ⟨rfl, rfl, rfl, rfl, by decide⟩ rfl hK hP hD hS hA (va_recv (ci := 1) hK hP rfl (q0 := 3) rfl) rfl hl.1 (Nat.le_of_ble_eq_true rfl) d_S_learn_92 ⟨Nat.le_of_ble_eq_true rfl, Nat.le_of_ble_eq_true rfl⟩ (fun H locs hP hD hS => ?_)
            have hP : va_P D cls_ [(b, .inr (2, [.ref b1, .ref b2, .int (nI (sn s)), .int (sh s)])), (b1, .inl (cI, 10, .inl (sT s))), (b2, .inl (cI, 10, .inl (sR s))), (h, .inr (1, [.ref a1, .ref a2, .ref a3, .ref a4, .int (nI (dz u)), .int (nI (dl u)), .int (nI (dO u))])), (a1, .inl (cI, 1575, .inl (dC u))), (a2, .inl (cI, 1575, .inl (dF u))), (a3, .inl (cI, 1575, .inl (dT u))), (a4, .inl (cI, 3060, .inl (dK u)))] H := hP
            have hD : va_D A [(b, .inr (2, [.ref b1, .ref b2, .int (nI (sn s)), .int (sh s)])), (b1, .inl (cI, 10, .inl (sT s))), (b2, .inl (cI, 10, .inl (sR s))), (h, .inr (1, [.ref a1, .ref a2, .ref a3, .ref a4, .int (nI (dz u)), .int (nI (dl u)), .int (nI (dO u))])), (a1, .inl (cI, 1575, .inl (dC u))), (a2, .inl (cI, 1575, .inl (dF u))), (a3, .inl (cI, 1575, .inl (dT u))), (a4, .inl (cI, 3060, .inl (dK u)))] := hD
            refine lv_aload_n hx hb d_S_learn_95 rfl (lv_at hl 5 rfl) ?_
            refine va_get (D := D) (ci := 2) (v := .ref b1) (C := R_S) (T := T_S) (N := 4) hx hb hts u_S hown hK hP 0 rfl rfl 0 (by decide) (hts _ f_S_9) (fun _ h9 => h9) rfl d_S_learn_96 ?_
            refine lv_iload hx hb d_S_learn_99 (lv_at hl 1 rfl) ?_
            refine va_iald (D := D) (i := (nI k)) hx hb hK hP 1 0 rfl rfl (vp_in_nI (show k < 10 by omega) (by decide)) d_S_learn_101 ?_
            rw [show ((nI k) : Int32).toNatClampNeg = k from nI_clamp (by omega)]
            refine lv_iconst (v := (-1)) hx hb d_S_learn_102 (by decide) ?_
            refine lv_ixor hx hb d_S_learn_103 ?_
            refine lv_iand hx hb d_S_learn_104 ?_
            refine lv_ior hx hb d_S_learn_105 ?_
            refine lv_istore (lv' := [(5, .int ((y &&& ((cc_neg ((sT s k))) ^^^ (-1))) ||| ((dk_cl u ((sR s k))) &&& ((sT s k) ^^^ (-1))))), (7, .int (cc_neg ((sT s k)))), (6, .int (nI k)), (4, .int la), (3, .int (nI q - 1)), (0, .ref b), (1, .ref h)]) hx hb d_S_learn_106 hl (by decide) rfl (fun ls hl => ?_)
            refine lv_aload_n hx hb d_S_learn_108 rfl (lv_at hl 6 rfl) ?_
            refine lv_aload_n hx hb d_S_learn_109 rfl (lv_at hl 5 rfl) ?_
            refine va_get (D := D) (ci := 2) (v := .ref b2) (C := R_S) (T := T_S) (N := 4) hx hb hts u_S hown hK hP 0 rfl rfl 1 (by decide) (hts _ f_S_15) (fun _ h9 => h9) rfl d_S_learn_110 ?_
            refine lv_iload hx hb d_S_learn_113 (lv_at hl 2 rfl) ?_
            refine va_iald (D := D) (i := (nI k)) hx hb hK hP 2 0 rfl rfl (vp_in_nI (show k < 10 by omega) (by decide)) d_S_learn_115 ?_
            rw [show ((nI k) : Int32).toNatClampNeg = k from nI_clamp (by omega)]
            refine CTv_V (isC := [3, 4, 5, 6, 7]) (isR := [0, 1, 2]) (wr := [(b, .inr (2, [.ref b1, .ref b2, .int (nI (sn s)), .int (sh s)])), (b1, .inl (cI, 10, .inl (sT s))), (b2, .inl (cI, 10, .inl (sR s)))]) (wi := [(h, .inr (1, [.ref a1, .ref a2, .ref a3, .ref a4, .int (nI (dz u)), .int (nI (dl u)), .int (nI (dO u))])), (a1, .inl (cI, 1575, .inl (dC u))), (a2, .inl (cI, 1575, .inl (dF u))), (a3, .inl (cI, 1575, .inl (dT u))), (a4, .inl (cI, 3060, .inl (dK u)))]) (wo := [(h, .inr (1, [.ref a1, .ref a2, .ref a3, .ref a4, .int (nI (dz (dk_link u ((sR s k))))), .int (nI (dl (dk_link u ((sR s k))))), .int (nI (dO (dk_link u ((sR s k)))))])), (a1, .inl (cI, 1575, .inl (dC (dk_link u ((sR s k)))))), (a2, .inl (cI, 1575, .inl (dF (dk_link u ((sR s k)))))), (a3, .inl (cI, 1575, .inl (dT (dk_link u ((sR s k)))))), (a4, .inl (cI, 3060, .inl (dK (dk_link u ((sR s k))))))]) (b := h) (As := [.int (sR s k)]) (rest := []) ⟨hx, hb, hml, hown, hts⟩ [0] (k_D_link l D cI h a1 a2 a3 a4 u hu ((sR s k))) (cwV 1 hts v_S_73 rfl rfl rfl (by decide +kernel) ⟨Nat.le_of_ble_eq_true rfl, Nat.le_of_ble_eq_true rfl⟩) ⟨rfl, rfl, rfl, rfl, by decide⟩ rfl hK hP hD hS hA (va_recv (ci := 1) hK hP rfl (q0 := 3) rfl) rfl hl.1 (Nat.le_of_ble_eq_true rfl) d_S_learn_116 ⟨Nat.le_of_ble_eq_true rfl, Nat.le_of_ble_eq_true rfl⟩ (fun H locs hP hD hS => ?_)
            have hP : va_P D cls_ [(b, .inr (2, [.ref b1, .ref b2, .int (nI (sn s)), .int (sh s)])), (b1, .inl (cI, 10, .inl (sT s))), (b2, .inl (cI, 10, .inl (sR s))), (h, .inr (1, [.ref a1, .ref a2, .ref a3, .ref a4, .int (nI (dz (dk_link u ((sR s k))))), .int (nI (dl (dk_link u ((sR s k))))), .int (nI (dO (dk_link u ((sR s k)))))])), (a1, .inl (cI, 1575, .inl (dC (dk_link u ((sR s k)))))), (a2, .inl (cI, 1575, .inl (dF (dk_link u ((sR s k)))))), (a3, .inl (cI, 1575, .inl (dT (dk_link u ((sR s k)))))), (a4, .inl (cI, 3060, .inl (dK (dk_link u ((sR s k))))))] H := hP
            have hD : va_D A [(b, .inr (2, [.ref b1, .ref b2, .int (nI (sn s)), .int (sh s)])), (b1, .inl (cI, 10, .inl (sT s))), (b2, .inl (cI, 10, .inl (sR s))), (h, .inr (1, [.ref a1, .ref a2, .ref a3, .ref a4, .int (nI (dz (dk_link u ((sR s k))))), .int (nI (dl (dk_link u ((sR s k))))), .int (nI (dO (dk_link u ((sR s k)))))])), (a1, .inl (cI, 1575, .inl (dC (dk_link u ((sR s k)))))), (a2, .inl (cI, 1575, .inl (dF (dk_link u ((sR s k)))))), (a3, .inl (cI, 1575, .inl (dT (dk_link u ((sR s k)))))), (a4, .inl (cI, 3060, .inl (dK (dk_link u ((sR s k))))))] := hD
            refine lv_iinc (k := 2) (v := (nI k - 1)) (lv' := [(6, .int (nI k - 1)), (5, .int ((y &&& ((cc_neg ((sT s k))) ^^^ (-1))) ||| ((dk_cl u ((sR s k))) &&& ((sT s k) ^^^ (-1))))), (7, .int (cc_neg ((sT s k)))), (4, .int la), (3, .int (nI q - 1)), (0, .ref b), (1, .ref h)]) hx hb d_S_learn_119 hl rfl (im1 _) (by decide) rfl (fun ls hl => ?_)
            refine lv_goto (tgt := 32) hx hb d_S_learn_122 rfl ?_
            exact ih _ (dk_link u (sR s k)) ls H locs (by omega) (DW_link hu) (by rw [← he, sr_res_s, if_neg hkq, if_neg hc2, if_neg hc74]) hP hD hS (lv_sub hl [0, 1, 3, 4, 5, 6] rfl)
        · refine lv_iload hx hb d_S_learn_43 (lv_at hl 1 rfl) ?_
          refine lv_iload hx hb d_S_learn_45 (lv_at hl 2 rfl) ?_
          refine lv_iand hx hb d_S_learn_47 ?_
          refine CTi_S (isC := []) (isR := [0, 1, 2, 3, 4, 5, 6, 7]) (wr := [(b, .inr (2, [.ref b1, .ref b2, .int (nI (sn s)), .int (sh s)])), (b1, .inl (cI, 10, .inl (sT s))), (b2, .inl (cI, 10, .inl (sR s))), (h, .inr (1, [.ref a1, .ref a2, .ref a3, .ref a4, .int (nI (dz u)), .int (nI (dl u)), .int (nI (dO u))])), (a1, .inl (cI, 1575, .inl (dC u))), (a2, .inl (cI, 1575, .inl (dF u))), (a3, .inl (cI, 1575, .inl (dT u))), (a4, .inl (cI, 3060, .inl (dK u)))]) (wi := []) (wo := []) (As := [.int (y &&& la)]) (rest := []) ⟨hx, hb, hml, hown, hts⟩ [] (k_L_isSingle l D ((y &&& la))) (va_cwS 1 hts v_S_56 rfl rfl rfl (by decide +kernel) ⟨Nat.le_of_ble_eq_true rfl, Nat.le_of_ble_eq_true rfl⟩) ⟨rfl, rfl, rfl, rfl, by decide⟩ rfl hK hP hD hS hA rfl hl.1 (Nat.le_of_ble_eq_true rfl) d_S_learn_48 ⟨Nat.le_of_ble_eq_true rfl, Nat.le_of_ble_eq_true rfl⟩ (fun H locs hP hD hS => ?_)
          have hP : va_P D cls_ [(b, .inr (2, [.ref b1, .ref b2, .int (nI (sn s)), .int (sh s)])), (b1, .inl (cI, 10, .inl (sT s))), (b2, .inl (cI, 10, .inl (sR s))), (h, .inr (1, [.ref a1, .ref a2, .ref a3, .ref a4, .int (nI (dz u)), .int (nI (dl u)), .int (nI (dO u))])), (a1, .inl (cI, 1575, .inl (dC u))), (a2, .inl (cI, 1575, .inl (dF u))), (a3, .inl (cI, 1575, .inl (dT u))), (a4, .inl (cI, 3060, .inl (dK u)))] H := hP
          have hD : va_D A [(b, .inr (2, [.ref b1, .ref b2, .int (nI (sn s)), .int (sh s)])), (b1, .inl (cI, 10, .inl (sT s))), (b2, .inl (cI, 10, .inl (sR s))), (h, .inr (1, [.ref a1, .ref a2, .ref a3, .ref a4, .int (nI (dz u)), .int (nI (dl u)), .int (nI (dO u))])), (a1, .inl (cI, 1575, .inl (dC u))), (a2, .inl (cI, 1575, .inl (dF u))), (a3, .inl (cI, 1575, .inl (dT u))), (a4, .inl (cI, 3060, .inl (dK u)))] := hD
          refine lv_if_eq (tgt := 57) hx hb d_S_learn_51 rfl (fun hc51 => ?_) (fun hc51 => ?_)
          · have hc2 : ¬ (q ≠ 0 ∧ cc_singleB (y &&& la) = true) := fun h => it0 hc51 h.2
            refine lv_aload_n hx hb d_S_learn_57 rfl (lv_at hl 4 rfl) ?_
            refine va_get (D := D) (ci := 2) (v := .ref b1) (C := R_S) (T := T_S) (N := 4) hx hb hts u_S hown hK hP 0 rfl rfl 0 (by decide) (hts _ f_S_9) (fun _ h9 => h9) rfl d_S_learn_58 ?_
            refine lv_iload hx hb d_S_learn_61 (lv_at hl 0 rfl) ?_
            refine va_iald (D := D) (i := (nI k)) hx hb hK hP 1 0 rfl rfl (vp_in_nI (show k < 10 by omega) (by decide)) d_S_learn_63 ?_
            rw [show ((nI k) : Int32).toNatClampNeg = k from nI_clamp (by omega)]
            refine CTi_S (isC := []) (isR := [0, 1, 2, 3, 4, 5, 6, 7]) (wr := [(b, .inr (2, [.ref b1, .ref b2, .int (nI (sn s)), .int (sh s)])), (b1, .inl (cI, 10, .inl (sT s))), (b2, .inl (cI, 10, .inl (sR s))), (h, .inr (1, [.ref a1, .ref a2, .ref a3, .ref a4, .int (nI (dz u)), .int (nI (dl u)), .int (nI (dO u))])), (a1, .inl (cI, 1575, .inl (dC u))), (a2, .inl (cI, 1575, .inl (dF u))), (a3, .inl (cI, 1575, .inl (dT u))), (a4, .inl (cI, 3060, .inl (dK u)))]) (wi := []) (wo := []) (As := [.int (sT s k)]) (rest := []) ⟨hx, hb, hml, hown, hts⟩ [] (k_L_opposite l D ((sT s k))) (va_cwS 1 hts v_S_51 rfl rfl rfl (by decide +kernel) ⟨Nat.le_of_ble_eq_true rfl, Nat.le_of_ble_eq_true rfl⟩) ⟨rfl, rfl, rfl, rfl, by decide⟩ rfl hK hP hD hS hA rfl hl.1 (Nat.le_of_ble_eq_true rfl) d_S_learn_64 ⟨Nat.le_of_ble_eq_true rfl, Nat.le_of_ble_eq_true rfl⟩ (fun H locs hP hD hS => ?_)
            have hP : va_P D cls_ [(b, .inr (2, [.ref b1, .ref b2, .int (nI (sn s)), .int (sh s)])), (b1, .inl (cI, 10, .inl (sT s))), (b2, .inl (cI, 10, .inl (sR s))), (h, .inr (1, [.ref a1, .ref a2, .ref a3, .ref a4, .int (nI (dz u)), .int (nI (dl u)), .int (nI (dO u))])), (a1, .inl (cI, 1575, .inl (dC u))), (a2, .inl (cI, 1575, .inl (dF u))), (a3, .inl (cI, 1575, .inl (dT u))), (a4, .inl (cI, 3060, .inl (dK u)))] H := hP
            have hD : va_D A [(b, .inr (2, [.ref b1, .ref b2, .int (nI (sn s)), .int (sh s)])), (b1, .inl (cI, 10, .inl (sT s))), (b2, .inl (cI, 10, .inl (sR s))), (h, .inr (1, [.ref a1, .ref a2, .ref a3, .ref a4, .int (nI (dz u)), .int (nI (dl u)), .int (nI (dO u))])), (a1, .inl (cI, 1575, .inl (dC u))), (a2, .inl (cI, 1575, .inl (dF u))), (a3, .inl (cI, 1575, .inl (dT u))), (a4, .inl (cI, 3060, .inl (dK u)))] := hD
            refine lv_istore (lv' := [(7, .int (cc_neg ((sT s k)))), (6, .int (nI k)), (5, .int y), (4, .int la), (3, .int (nI q - 1)), (0, .ref b), (1, .ref h)]) hx hb d_S_learn_67 hl (by decide) rfl (fun ls hl => ?_)
            refine lv_iload hx hb d_S_learn_69 (lv_at hl 2 rfl) ?_
            refine lv_iload hx hb d_S_learn_71 (lv_at hl 0 rfl) ?_
            refine lv_iand hx hb d_S_learn_73 ?_
            refine lv_if_eq (tgt := 119) hx hb d_S_learn_74 rfl (fun hc74 => ?_) (fun hc74 => ?_)
            · refine lv_iinc (k := 1) (v := (nI k - 1)) (lv' := [(6, .int (nI k - 1)), (7, .int (cc_neg ((sT s k)))), (5, .int y), (4, .int la), (3, .int (nI q - 1)), (0, .ref b), (1, .ref h)]) hx hb d_S_learn_119 hl rfl (im1 _) (by decide) rfl (fun ls hl => ?_)
              refine lv_goto (tgt := 32) hx hb d_S_learn_122 rfl ?_
              exact ih y u ls H locs (by omega) hu (by rw [← he, sr_res_s, if_neg hkq, if_neg hc2, if_pos hc74]) hP hD hS (lv_sub hl [0, 2, 3, 4, 5, 6] rfl)
            · refine lv_iload hx hb d_S_learn_77 (lv_at hl 2 rfl) ?_
              refine lv_iload hx hb d_S_learn_79 (lv_at hl 0 rfl) ?_
              refine lv_iconst (v := (-1)) hx hb d_S_learn_81 (by decide) ?_
              refine lv_ixor hx hb d_S_learn_82 ?_
              refine lv_iand hx hb d_S_learn_83 ?_
              refine lv_aload_n hx hb d_S_learn_84 rfl (lv_at hl 6 rfl) ?_
              refine lv_aload_n hx hb d_S_learn_85 rfl (lv_at hl 5 rfl) ?_
              refine va_get (D := D) (ci := 2) (v := .ref b2) (C := R_S) (T := T_S) (N := 4) hx hb hts u_S hown hK hP 0 rfl rfl 1 (by decide) (hts _ f_S_15) (fun _ h9 => h9) rfl d_S_learn_86 ?_
              refine lv_iload hx hb d_S_learn_89 (lv_at hl 1 rfl) ?_
              refine va_iald (D := D) (i := (nI k)) hx hb hK hP 2 0 rfl rfl (vp_in_nI (show k < 10 by omega) (by decide)) d_S_learn_91 ?_
              rw [show ((nI k) : Int32).toNatClampNeg = k from nI_clamp (by omega)]
              refine CTi_V (isC := [3, 4, 5, 6, 7]) (isR := [0, 1, 2]) (wr := [(b, .inr (2, [.ref b1, .ref b2, .int (nI (sn s)), .int (sh s)])), (b1, .inl (cI, 10, .inl (sT s))), (b2, .inl (cI, 10, .inl (sR s)))]) (wi := [(h, .inr (1, [.ref a1, .ref a2, .ref a3, .ref a4, .int (nI (dz u)), .int (nI (dl u)), .int (nI (dO u))])), (a1, .inl (cI, 1575, .inl (dC u))), (a2, .inl (cI, 1575, .inl (dF u))), (a3, .inl (cI, 1575, .inl (dT u))), (a4, .inl (cI, 3060, .inl (dK u)))]) (wo := [(h, .inr (1, [.ref a1, .ref a2, .ref a3, .ref a4, .int (nI (dz u)), .int (nI (dl u)), .int (nI (dO u))])), (a1, .inl (cI, 1575, .inl (dC u))), (a2, .inl (cI, 1575, .inl (dF u))), (a3, .inl (cI, 1575, .inl (dT u))), (a4, .inl (cI, 3060, .inl (dK u)))]) (b := h) (As := [.int (sR s k)]) (rest := [.int (y &&& ((cc_neg ((sT s k))) ^^^ (-1)))]) ⟨hx, hb, hml, hown, hts⟩ [0] (k_D_clause l D cI h a1 a2 a3 a4 u hu ((sR s k))) (cwV 1 hts v_S_47 rfl rfl rfl (by decide +kernel) ⟨Nat.le_of_ble_eq_true rfl, Nat.le_of_ble_eq_true rfl⟩) ⟨rfl, rfl, rfl, rfl, by decide⟩ rfl hK hP hD hS hA (va_recv (ci := 1) hK hP rfl (q0 := 3) rfl) rfl hl.1 (Nat.le_of_ble_eq_true rfl) d_S_learn_92 ⟨Nat.le_of_ble_eq_true rfl, Nat.le_of_ble_eq_true rfl⟩ (fun H locs hP hD hS => ?_)
              have hP : va_P D cls_ [(b, .inr (2, [.ref b1, .ref b2, .int (nI (sn s)), .int (sh s)])), (b1, .inl (cI, 10, .inl (sT s))), (b2, .inl (cI, 10, .inl (sR s))), (h, .inr (1, [.ref a1, .ref a2, .ref a3, .ref a4, .int (nI (dz u)), .int (nI (dl u)), .int (nI (dO u))])), (a1, .inl (cI, 1575, .inl (dC u))), (a2, .inl (cI, 1575, .inl (dF u))), (a3, .inl (cI, 1575, .inl (dT u))), (a4, .inl (cI, 3060, .inl (dK u)))] H := hP
              have hD : va_D A [(b, .inr (2, [.ref b1, .ref b2, .int (nI (sn s)), .int (sh s)])), (b1, .inl (cI, 10, .inl (sT s))), (b2, .inl (cI, 10, .inl (sR s))), (h, .inr (1, [.ref a1, .ref a2, .ref a3, .ref a4, .int (nI (dz u)), .int (nI (dl u)), .int (nI (dO u))])), (a1, .inl (cI, 1575, .inl (dC u))), (a2, .inl (cI, 1575, .inl (dF u))), (a3, .inl (cI, 1575, .inl (dT u))), (a4, .inl (cI, 3060, .inl (dK u)))] := hD
              refine lv_aload_n hx hb d_S_learn_95 rfl (lv_at hl 5 rfl) ?_
              refine va_get (D := D) (ci := 2) (v := .ref b1) (C := R_S) (T := T_S) (N := 4) hx hb hts u_S hown hK hP 0 rfl rfl 0 (by decide) (hts _ f_S_9) (fun _ h9 => h9) rfl d_S_learn_96 ?_
              refine lv_iload hx hb d_S_learn_99 (lv_at hl 1 rfl) ?_
              refine va_iald (D := D) (i := (nI k)) hx hb hK hP 1 0 rfl rfl (vp_in_nI (show k < 10 by omega) (by decide)) d_S_learn_101 ?_
              rw [show ((nI k) : Int32).toNatClampNeg = k from nI_clamp (by omega)]
              refine lv_iconst (v := (-1)) hx hb d_S_learn_102 (by decide) ?_
              refine lv_ixor hx hb d_S_learn_103 ?_
              refine lv_iand hx hb d_S_learn_104 ?_
              refine lv_ior hx hb d_S_learn_105 ?_
              refine lv_istore (lv' := [(5, .int ((y &&& ((cc_neg ((sT s k))) ^^^ (-1))) ||| ((dk_cl u ((sR s k))) &&& ((sT s k) ^^^ (-1))))), (7, .int (cc_neg ((sT s k)))), (6, .int (nI k)), (4, .int la), (3, .int (nI q - 1)), (0, .ref b), (1, .ref h)]) hx hb d_S_learn_106 hl (by decide) rfl (fun ls hl => ?_)
              refine lv_aload_n hx hb d_S_learn_108 rfl (lv_at hl 6 rfl) ?_
              refine lv_aload_n hx hb d_S_learn_109 rfl (lv_at hl 5 rfl) ?_
              refine va_get (D := D) (ci := 2) (v := .ref b2) (C := R_S) (T := T_S) (N := 4) hx hb hts u_S hown hK hP 0 rfl rfl 1 (by decide) (hts _ f_S_15) (fun _ h9 => h9) rfl d_S_learn_110 ?_
              refine lv_iload hx hb d_S_learn_113 (lv_at hl 2 rfl) ?_
              refine va_iald (D := D) (i := (nI k)) hx hb hK hP 2 0 rfl rfl (vp_in_nI (show k < 10 by omega) (by decide)) d_S_learn_115 ?_
              rw [show ((nI k) : Int32).toNatClampNeg = k from nI_clamp (by omega)]
              refine CTv_V (isC := [3, 4, 5, 6, 7]) (isR := [0, 1, 2]) (wr := [(b, .inr (2, [.ref b1, .ref b2, .int (nI (sn s)), .int (sh s)])), (b1, .inl (cI, 10, .inl (sT s))), (b2, .inl (cI, 10, .inl (sR s)))]) (wi := [(h, .inr (1, [.ref a1, .ref a2, .ref a3, .ref a4, .int (nI (dz u)), .int (nI (dl u)), .int (nI (dO u))])), (a1, .inl (cI, 1575, .inl (dC u))), (a2, .inl (cI, 1575, .inl (dF u))), (a3, .inl (cI, 1575, .inl (dT u))), (a4, .inl (cI, 3060, .inl (dK u)))]) (wo := [(h, .inr (1, [.ref a1, .ref a2, .ref a3, .ref a4, .int (nI (dz (dk_link u ((sR s k))))), .int (nI (dl (dk_link u ((sR s k))))), .int (nI (dO (dk_link u ((sR s k)))))])), (a1, .inl (cI, 1575, .inl (dC (dk_link u ((sR s k)))))), (a2, .inl (cI, 1575, .inl (dF (dk_link u ((sR s k)))))), (a3, .inl (cI, 1575, .inl (dT (dk_link u ((sR s k)))))), (a4, .inl (cI, 3060, .inl (dK (dk_link u ((sR s k))))))]) (b := h) (As := [.int (sR s k)]) (rest := []) ⟨hx, hb, hml, hown, hts⟩ [0] (k_D_link l D cI h a1 a2 a3 a4 u hu ((sR s k))) (cwV 1 hts v_S_73 rfl rfl rfl (by decide +kernel) ⟨Nat.le_of_ble_eq_true rfl, Nat.le_of_ble_eq_true rfl⟩) ⟨rfl, rfl, rfl, rfl, by decide⟩ rfl hK hP hD hS hA (va_recv (ci := 1) hK hP rfl (q0 := 3) rfl) rfl hl.1 (Nat.le_of_ble_eq_true rfl) d_S_learn_116 ⟨Nat.le_of_ble_eq_true rfl, Nat.le_of_ble_eq_true rfl⟩ (fun H locs hP hD hS => ?_)
              have hP : va_P D cls_ [(b, .inr (2, [.ref b1, .ref b2, .int (nI (sn s)), .int (sh s)])), (b1, .inl (cI, 10, .inl (sT s))), (b2, .inl (cI, 10, .inl (sR s))), (h, .inr (1, [.ref a1, .ref a2, .ref a3, .ref a4, .int (nI (dz (dk_link u ((sR s k))))), .int (nI (dl (dk_link u ((sR s k))))), .int (nI (dO (dk_link u ((sR s k)))))])), (a1, .inl (cI, 1575, .inl (dC (dk_link u ((sR s k)))))), (a2, .inl (cI, 1575, .inl (dF (dk_link u ((sR s k)))))), (a3, .inl (cI, 1575, .inl (dT (dk_link u ((sR s k)))))), (a4, .inl (cI, 3060, .inl (dK (dk_link u ((sR s k))))))] H := hP
              have hD : va_D A [(b, .inr (2, [.ref b1, .ref b2, .int (nI (sn s)), .int (sh s)])), (b1, .inl (cI, 10, .inl (sT s))), (b2, .inl (cI, 10, .inl (sR s))), (h, .inr (1, [.ref a1, .ref a2, .ref a3, .ref a4, .int (nI (dz (dk_link u ((sR s k))))), .int (nI (dl (dk_link u ((sR s k))))), .int (nI (dO (dk_link u ((sR s k)))))])), (a1, .inl (cI, 1575, .inl (dC (dk_link u ((sR s k)))))), (a2, .inl (cI, 1575, .inl (dF (dk_link u ((sR s k)))))), (a3, .inl (cI, 1575, .inl (dT (dk_link u ((sR s k)))))), (a4, .inl (cI, 3060, .inl (dK (dk_link u ((sR s k))))))] := hD
              refine lv_iinc (k := 2) (v := (nI k - 1)) (lv' := [(6, .int (nI k - 1)), (5, .int ((y &&& ((cc_neg ((sT s k))) ^^^ (-1))) ||| ((dk_cl u ((sR s k))) &&& ((sT s k) ^^^ (-1))))), (7, .int (cc_neg ((sT s k)))), (4, .int la), (3, .int (nI q - 1)), (0, .ref b), (1, .ref h)]) hx hb d_S_learn_119 hl rfl (im1 _) (by decide) rfl (fun ls hl => ?_)
              refine lv_goto (tgt := 32) hx hb d_S_learn_122 rfl ?_
              exact ih _ (dk_link u (sR s k)) ls H locs (by omega) (DW_link hu) (by rw [← he, sr_res_s, if_neg hkq, if_neg hc2, if_neg hc74]) hP hD hS (lv_sub hl [0, 1, 3, 4, 5, 6] rfl)
          · have hc2 : q ≠ 0 ∧ cc_singleB (y &&& la) = true := ⟨fun h => hc40 ((dec_m1 (by omega)).2 h), it1 hc51⟩
            refine lv_goto (tgt := 125) hx hb d_S_learn_54 rfl ?_
            exact ex y u ls H locs hu (by rw [← he, sr_res_s, if_neg hkq, if_pos hc2]) hP hD hS (lv_sub hl [1, 3, 4, 5] rfl)
  refine lv_aload_n hx hb d_S_learn_0 rfl (lv_at hl 0 rfl) ?_
  refine CTi_V (isC := [0, 1, 2]) (isR := [3, 4, 5, 6, 7]) (wr := [(h, .inr (1, [.ref a1, .ref a2, .ref a3, .ref a4, .int (nI (dz d)), .int (nI (dl d)), .int (nI (dO d))])), (a1, .inl (cI, 1575, .inl (dC d))), (a2, .inl (cI, 1575, .inl (dF d))), (a3, .inl (cI, 1575, .inl (dT d))), (a4, .inl (cI, 3060, .inl (dK d)))]) (wi := [(b, .inr (2, [.ref b1, .ref b2, .int (nI (sn s)), .int (sh s)])), (b1, .inl (cI, 10, .inl (sT s))), (b2, .inl (cI, 10, .inl (sR s)))]) (wo := [(b, .inr (2, [.ref b1, .ref b2, .int (nI (sn s)), .int (sh s)])), (b1, .inl (cI, 10, .inl (sT s))), (b2, .inl (cI, 10, .inl (sR s)))]) (b := b) (As := []) (rest := []) ⟨hx, hb, hml, hown, hts⟩ [0] (k_S_latestDecision l D cI b b1 b2 s hs) (cwV 0 hts v_S_67 rfl rfl rfl (by decide +kernel) ⟨Nat.le_of_ble_eq_true rfl, Nat.le_of_ble_eq_true rfl⟩) ⟨rfl, rfl, rfl, rfl, by decide⟩ rfl hK hP hD hS hA (va_recv (ci := 2) hK hP rfl (q0 := 0) rfl) rfl hl.1 (Nat.le_of_ble_eq_true rfl) d_S_learn_1 ⟨Nat.le_of_ble_eq_true rfl, Nat.le_of_ble_eq_true rfl⟩ (fun H locs hP hD hS => ?_)
  have hP : va_P D cls_ [(h, .inr (1, [.ref a1, .ref a2, .ref a3, .ref a4, .int (nI (dz d)), .int (nI (dl d)), .int (nI (dO d))])), (a1, .inl (cI, 1575, .inl (dC d))), (a2, .inl (cI, 1575, .inl (dF d))), (a3, .inl (cI, 1575, .inl (dT d))), (a4, .inl (cI, 3060, .inl (dK d))), (b, .inr (2, [.ref b1, .ref b2, .int (nI (sn s)), .int (sh s)])), (b1, .inl (cI, 10, .inl (sT s))), (b2, .inl (cI, 10, .inl (sR s)))] H := hP
  have hD : va_D A [(h, .inr (1, [.ref a1, .ref a2, .ref a3, .ref a4, .int (nI (dz d)), .int (nI (dl d)), .int (nI (dO d))])), (a1, .inl (cI, 1575, .inl (dC d))), (a2, .inl (cI, 1575, .inl (dF d))), (a3, .inl (cI, 1575, .inl (dT d))), (a4, .inl (cI, 3060, .inl (dK d))), (b, .inr (2, [.ref b1, .ref b2, .int (nI (sn s)), .int (sh s)])), (b1, .inl (cI, 10, .inl (sT s))), (b2, .inl (cI, 10, .inl (sR s)))] := hD
  rw [hLD]
  refine lv_istore_n (lv' := [(3, .int (nI q - 1)), (0, .ref b), (1, .ref h), (2, .int x)]) hx hb d_S_learn_4 rfl hl (by decide) rfl (fun ls hl => ?_)
  refine lv_aload_n hx hb d_S_learn_5 rfl (lv_at hl 1 rfl) ?_
  refine lv_iload_n hx hb d_S_learn_6 rfl (lv_at hl 0 rfl) ?_
  refine CTi_V (isC := [5, 6, 7]) (isR := [0, 1, 2, 3, 4]) (wr := [(h, .inr (1, [.ref a1, .ref a2, .ref a3, .ref a4, .int (nI (dz d)), .int (nI (dl d)), .int (nI (dO d))])), (a1, .inl (cI, 1575, .inl (dC d))), (a2, .inl (cI, 1575, .inl (dF d))), (a3, .inl (cI, 1575, .inl (dT d))), (a4, .inl (cI, 3060, .inl (dK d)))]) (wi := [(b, .inr (2, [.ref b1, .ref b2, .int (nI (sn s)), .int (sh s)])), (b1, .inl (cI, 10, .inl (sT s))), (b2, .inl (cI, 10, .inl (sR s)))]) (wo := [(b, .inr (2, [.ref b1, .ref b2, .int (nI (sn s)), .int (sh s)])), (b1, .inl (cI, 10, .inl (sT s))), (b2, .inl (cI, 10, .inl (sR s)))]) (b := b) (As := [.int (nI q - 1)]) (rest := []) ⟨hx, hb, hml, hown, hts⟩ [0] (k_S_deniedFrom l D cI b b1 b2 s hs (nI q - 1) q hq0 rfl) (cwV 1 hts v_S_70 rfl rfl rfl (by decide +kernel) ⟨Nat.le_of_ble_eq_true rfl, Nat.le_of_ble_eq_true rfl⟩) ⟨rfl, rfl, rfl, rfl, by decide⟩ rfl hK hP hD hS hA (va_recv (ci := 2) hK hP rfl (q0 := 5) rfl) rfl hl.1 (Nat.le_of_ble_eq_true rfl) d_S_learn_7 ⟨Nat.le_of_ble_eq_true rfl, Nat.le_of_ble_eq_true rfl⟩ (fun H locs hP hD hS => ?_)
  have hP : va_P D cls_ [(h, .inr (1, [.ref a1, .ref a2, .ref a3, .ref a4, .int (nI (dz d)), .int (nI (dl d)), .int (nI (dO d))])), (a1, .inl (cI, 1575, .inl (dC d))), (a2, .inl (cI, 1575, .inl (dF d))), (a3, .inl (cI, 1575, .inl (dT d))), (a4, .inl (cI, 3060, .inl (dK d))), (b, .inr (2, [.ref b1, .ref b2, .int (nI (sn s)), .int (sh s)])), (b1, .inl (cI, 10, .inl (sT s))), (b2, .inl (cI, 10, .inl (sR s)))] H := hP
  have hD : va_D A [(h, .inr (1, [.ref a1, .ref a2, .ref a3, .ref a4, .int (nI (dz d)), .int (nI (dl d)), .int (nI (dO d))])), (a1, .inl (cI, 1575, .inl (dC d))), (a2, .inl (cI, 1575, .inl (dF d))), (a3, .inl (cI, 1575, .inl (dT d))), (a4, .inl (cI, 3060, .inl (dK d))), (b, .inr (2, [.ref b1, .ref b2, .int (nI (sn s)), .int (sh s)])), (b1, .inl (cI, 10, .inl (sT s))), (b2, .inl (cI, 10, .inl (sR s)))] := hD
  rw [show cc_neg (sr_or (sT s) (sn s - (q - 1)) (q - 1) 0) = la from by rw [← hLA, ← hLD]; rfl]
  refine lv_istore (lv' := [(4, .int la), (3, .int (nI q - 1)), (0, .ref b), (1, .ref h), (2, .int x)]) hx hb d_S_learn_10 hl (by decide) rfl (fun ls hl => ?_)
  refine lv_aload_n hx hb d_S_learn_12 rfl (lv_at hl 3 rfl) ?_
  refine lv_iload_n hx hb d_S_learn_13 rfl (lv_at hl 4 rfl) ?_
  refine CTi_V (isC := [0, 1, 2, 3, 4]) (isR := [5, 6, 7]) (wr := [(b, .inr (2, [.ref b1, .ref b2, .int (nI (sn s)), .int (sh s)])), (b1, .inl (cI, 10, .inl (sT s))), (b2, .inl (cI, 10, .inl (sR s)))]) (wi := [(h, .inr (1, [.ref a1, .ref a2, .ref a3, .ref a4, .int (nI (dz d)), .int (nI (dl d)), .int (nI (dO d))])), (a1, .inl (cI, 1575, .inl (dC d))), (a2, .inl (cI, 1575, .inl (dF d))), (a3, .inl (cI, 1575, .inl (dT d))), (a4, .inl (cI, 3060, .inl (dK d)))]) (wo := [(h, .inr (1, [.ref a1, .ref a2, .ref a3, .ref a4, .int (nI (dz d)), .int (nI (dl d)), .int (nI (dO d))])), (a1, .inl (cI, 1575, .inl (dC d))), (a2, .inl (cI, 1575, .inl (dF d))), (a3, .inl (cI, 1575, .inl (dT d))), (a4, .inl (cI, 3060, .inl (dK d)))]) (b := h) (As := [.int x]) (rest := []) ⟨hx, hb, hml, hown, hts⟩ [0] (k_D_clause l D cI h a1 a2 a3 a4 d hd (x)) (cwV 1 hts v_S_47 rfl rfl rfl (by decide +kernel) ⟨Nat.le_of_ble_eq_true rfl, Nat.le_of_ble_eq_true rfl⟩) ⟨rfl, rfl, rfl, rfl, by decide⟩ rfl hK hP hD hS hA (va_recv (ci := 1) hK hP rfl (q0 := 0) rfl) rfl hl.1 (Nat.le_of_ble_eq_true rfl) d_S_learn_14 ⟨Nat.le_of_ble_eq_true rfl, Nat.le_of_ble_eq_true rfl⟩ (fun H locs hP hD hS => ?_)
  have hP : va_P D cls_ [(b, .inr (2, [.ref b1, .ref b2, .int (nI (sn s)), .int (sh s)])), (b1, .inl (cI, 10, .inl (sT s))), (b2, .inl (cI, 10, .inl (sR s))), (h, .inr (1, [.ref a1, .ref a2, .ref a3, .ref a4, .int (nI (dz d)), .int (nI (dl d)), .int (nI (dO d))])), (a1, .inl (cI, 1575, .inl (dC d))), (a2, .inl (cI, 1575, .inl (dF d))), (a3, .inl (cI, 1575, .inl (dT d))), (a4, .inl (cI, 3060, .inl (dK d)))] H := hP
  have hD : va_D A [(b, .inr (2, [.ref b1, .ref b2, .int (nI (sn s)), .int (sh s)])), (b1, .inl (cI, 10, .inl (sT s))), (b2, .inl (cI, 10, .inl (sR s))), (h, .inr (1, [.ref a1, .ref a2, .ref a3, .ref a4, .int (nI (dz d)), .int (nI (dl d)), .int (nI (dO d))])), (a1, .inl (cI, 1575, .inl (dC d))), (a2, .inl (cI, 1575, .inl (dF d))), (a3, .inl (cI, 1575, .inl (dT d))), (a4, .inl (cI, 3060, .inl (dK d)))] := hD
  refine lv_istore (lv' := [(5, .int (dk_cl d (x))), (4, .int la), (3, .int (nI q - 1)), (0, .ref b), (1, .ref h), (2, .int x)]) hx hb d_S_learn_17 hl (by decide) rfl (fun ls hl => ?_)
  refine lv_aload_n hx hb d_S_learn_19 rfl (lv_at hl 4 rfl) ?_
  refine lv_iload_n hx hb d_S_learn_20 rfl (lv_at hl 5 rfl) ?_
  refine CTv_V (isC := [3, 4, 5, 6, 7]) (isR := [0, 1, 2]) (wr := [(b, .inr (2, [.ref b1, .ref b2, .int (nI (sn s)), .int (sh s)])), (b1, .inl (cI, 10, .inl (sT s))), (b2, .inl (cI, 10, .inl (sR s)))]) (wi := [(h, .inr (1, [.ref a1, .ref a2, .ref a3, .ref a4, .int (nI (dz d)), .int (nI (dl d)), .int (nI (dO d))])), (a1, .inl (cI, 1575, .inl (dC d))), (a2, .inl (cI, 1575, .inl (dF d))), (a3, .inl (cI, 1575, .inl (dT d))), (a4, .inl (cI, 3060, .inl (dK d)))]) (wo := [(h, .inr (1, [.ref a1, .ref a2, .ref a3, .ref a4, .int (nI (dz (dk_link d x))), .int (nI (dl (dk_link d x))), .int (nI (dO (dk_link d x)))])), (a1, .inl (cI, 1575, .inl (dC (dk_link d x)))), (a2, .inl (cI, 1575, .inl (dF (dk_link d x)))), (a3, .inl (cI, 1575, .inl (dT (dk_link d x)))), (a4, .inl (cI, 3060, .inl (dK (dk_link d x))))]) (b := h) (As := [.int x]) (rest := []) ⟨hx, hb, hml, hown, hts⟩ [0] (k_D_link l D cI h a1 a2 a3 a4 d hd x) (cwV 1 hts v_S_73 rfl rfl rfl (by decide +kernel) ⟨Nat.le_of_ble_eq_true rfl, Nat.le_of_ble_eq_true rfl⟩) ⟨rfl, rfl, rfl, rfl, by decide⟩ rfl hK hP hD hS hA (va_recv (ci := 1) hK hP rfl (q0 := 3) rfl) rfl hl.1 (Nat.le_of_ble_eq_true rfl) d_S_learn_21 ⟨Nat.le_of_ble_eq_true rfl, Nat.le_of_ble_eq_true rfl⟩ (fun H locs hP hD hS => ?_)
  have hP : va_P D cls_ [(b, .inr (2, [.ref b1, .ref b2, .int (nI (sn s)), .int (sh s)])), (b1, .inl (cI, 10, .inl (sT s))), (b2, .inl (cI, 10, .inl (sR s))), (h, .inr (1, [.ref a1, .ref a2, .ref a3, .ref a4, .int (nI (dz (dk_link d x))), .int (nI (dl (dk_link d x))), .int (nI (dO (dk_link d x)))])), (a1, .inl (cI, 1575, .inl (dC (dk_link d x)))), (a2, .inl (cI, 1575, .inl (dF (dk_link d x)))), (a3, .inl (cI, 1575, .inl (dT (dk_link d x)))), (a4, .inl (cI, 3060, .inl (dK (dk_link d x))))] H := hP
  have hD : va_D A [(b, .inr (2, [.ref b1, .ref b2, .int (nI (sn s)), .int (sh s)])), (b1, .inl (cI, 10, .inl (sT s))), (b2, .inl (cI, 10, .inl (sR s))), (h, .inr (1, [.ref a1, .ref a2, .ref a3, .ref a4, .int (nI (dz (dk_link d x))), .int (nI (dl (dk_link d x))), .int (nI (dO (dk_link d x)))])), (a1, .inl (cI, 1575, .inl (dC (dk_link d x)))), (a2, .inl (cI, 1575, .inl (dF (dk_link d x)))), (a3, .inl (cI, 1575, .inl (dT (dk_link d x)))), (a4, .inl (cI, 3060, .inl (dK (dk_link d x))))] := hD
  refine lv_aload_n hx hb d_S_learn_24 rfl (lv_at hl 3 rfl) ?_
  refine va_get (D := D) (ci := 2) (v := .int (nI (sn s))) (C := R_S) (T := T_S) (N := 4) hx hb hts u_S hown hK hP 0 rfl rfl 2 (by decide) (hts _ f_S_18) (fun _ h9 => h9) rfl d_S_learn_25 ?_
  refine lv_iconst (v := 1) hx hb d_S_learn_28 (by decide) ?_
  refine lv_isub hx hb d_S_learn_29 ?_
  refine lv_istore (lv' := [(6, .int ((nI (sn s)) - 1)), (5, .int (dk_cl d (x))), (4, .int la), (3, .int (nI q - 1)), (0, .ref b), (1, .ref h), (2, .int x)]) hx hb d_S_learn_30 hl (by decide) rfl (fun ls hl => ?_)
  exact loop (sn s) (dk_cl d x) (dk_link d x) ls H locs (Nat.le_refl _) (DW_link hd) hT hP hD hS (lv_sub hl [0, 1, 2, 3, 4, 5] rfl)
set_option maxHeartbeats 4000000 in
set_option maxRecDepth 100000 in
theorem k_S_findModel (l : Launch) (D : va_G) (cI : ClassId) (b b1 b2 h a1 a2 a3 a4 : Nat) (s : SS) (hs : sn s ≤ 10) (d : DS) (hd : DW d) (x : Int32) (n : Nat) (hn : n ≤ 10) (hx9 : x = nI n) : KTi l y_S_findModel c_S_findModel 5 .boolean { frames := 4, cells := 0, slots := 0, locals := 92 } D [(cI, .int)] [.ref b, .ref h, .int x] (wX cI b b1 b2 h a1 a2 a3 a4 s d) (if (sr_find n 100000 d s).1 = true then 1 else 0) (wX cI b b1 b2 h a1 a2 a3 a4 (sr_find n 100000 d s).2.2 (sr_find n 100000 d s).2.1) := by
  refine KTi_of (own := R_S) (by decide +kernel) rfl (Nat.le_of_ble_eq_true rfl) (nar_if _) ?_
  intro p e st m below meth c A ls Q hx hb hml hts hown hK hP hD hS hA hl fin
  subst hx9
  generalize hT : sr_find n 100000 d s = res at fin
  have loop : ∀ (f q : Nat) (v : SS) (u : DS) (ls : Array Slot) (H : Heap) (locs : List Loc), q + f = 100000 → sn v ≤ 10 → DW u → sr_find n f u v = res → va_P D cls_ [(b, .inr (2, [.ref b1, .ref b2, .int (nI (sn v)), .int (sh v)])), (b1, .inl (cI, 10, .inl (sT v))), (b2, .inl (cI, 10, .inl (sR v))), (h, .inr (1, [.ref a1, .ref a2, .ref a3, .ref a4, .int (nI (dz u)), .int (nI (dl u)), .int (nI (dO u))])), (a1, .inl (cI, 1575, .inl (dC u))), (a2, .inl (cI, 1575, .inl (dF u))), (a3, .inl (cI, 1575, .inl (dT u))), (a4, .inl (cI, 3060, .inl (dK u)))] H → va_D A [(b, .inr (2, [.ref b1, .ref b2, .int (nI (sn v)), .int (sh v)])), (b1, .inl (cI, 10, .inl (sT v))), (b2, .inl (cI, 10, .inl (sR v))), (h, .inr (1, [.ref a1, .ref a2, .ref a3, .ref a4, .int (nI (dz u)), .int (nI (dl u)), .int (nI (dO u))])), (a1, .inl (cI, 1575, .inl (dC u))), (a2, .inl (cI, 1575, .inl (dF u))), (a3, .inl (cI, 1575, .inl (dT u))), (a4, .inl (cI, 3060, .inl (dK u)))] → va_S A st.heap H locs → lv_has ls 5 [(3, .int (nI q)), (0, .ref b), (1, .ref h), (2, .int (nI n))] → W p l e { frames := 4, cells := 0, slots := 0, locals := 92 } st m [Value.ref b, Value.ref h, Value.int (nI n)].toArray below meth c H locs 0 0 Q (F0 m 2 ls []) := by
    intro f
    induction f with
    | zero =>
      intro q v u ls H locs hi hv hu he hP hD hS hl
      have he : (false, u, v) = res := he
      subst he
      refine lv_iload_n hx hb d_S_findModel_2 rfl (lv_at hl 0 rfl) ?_
      refine lv_ldc (v := 100000) hx hb hown (hts _ g_S_25) d_S_findModel_3 ?_
      refine lv_icmp_ge (tgt := 57) hx hb d_S_findModel_5 rfl (fun hc5 => ?_) (fun hc5 => absurd (nI_le (a := 100000) (by omega) (by omega)) hc5)
      refine lv_iconst (v := 0) hx hb d_S_findModel_57 (by decide) ?_
      exact fin _ _ _ _ _ hP hD hS (rfl) d_S_findModel_58
    | succ f ih =>
      intro q v u ls H locs hi hv hu he hP hD hS hl
      refine lv_iload_n hx hb d_S_findModel_2 rfl (lv_at hl 0 rfl) ?_
      refine lv_ldc (v := 100000) hx hb hown (hts _ g_S_25) d_S_findModel_3 ?_
      refine lv_icmp_ge (tgt := 57) hx hb d_S_findModel_5 rfl (fun hc5 => absurd hc5 (nI_ge (b := 100000) (by omega) (by decide))) (fun hc5 => ?_)
      refine lv_aload_n hx hb d_S_findModel_8 rfl (lv_at hl 1 rfl) ?_
      refine lv_aload_n hx hb d_S_findModel_9 rfl (lv_at hl 2 rfl) ?_
      refine CTi_V (isC := [0, 1, 2, 3, 4, 5, 6, 7]) (isR := []) (wr := []) (wi := [(b, .inr (2, [.ref b1, .ref b2, .int (nI (sn v)), .int (sh v)])), (b1, .inl (cI, 10, .inl (sT v))), (b2, .inl (cI, 10, .inl (sR v))), (h, .inr (1, [.ref a1, .ref a2, .ref a3, .ref a4, .int (nI (dz u)), .int (nI (dl u)), .int (nI (dO u))])), (a1, .inl (cI, 1575, .inl (dC u))), (a2, .inl (cI, 1575, .inl (dF u))), (a3, .inl (cI, 1575, .inl (dT u))), (a4, .inl (cI, 3060, .inl (dK u)))]) (wo := [(b, .inr (2, [.ref b1, .ref b2, .int (nI (sn (sr_prop (dC u) (dz u) 11 v).2)), .int (sh (sr_prop (dC u) (dz u) 11 v).2)])), (b1, .inl (cI, 10, .inl (sT (sr_prop (dC u) (dz u) 11 v).2))), (b2, .inl (cI, 10, .inl (sR (sr_prop (dC u) (dz u) 11 v).2))), (h, .inr (1, [.ref a1, .ref a2, .ref a3, .ref a4, .int (nI (dz u)), .int (nI (dl u)), .int (nI (dO u))])), (a1, .inl (cI, 1575, .inl (dC u))), (a2, .inl (cI, 1575, .inl (dF u))), (a3, .inl (cI, 1575, .inl (dT u))), (a4, .inl (cI, 3060, .inl (dK u)))]) (b := b) (As := [.ref h]) (rest := []) ⟨hx, hb, hml, hown, hts⟩ [0] (k_S_propagate l D cI b b1 b2 h a1 a2 a3 a4 v hv u hu) (cwV 1 hts v_S_26 rfl rfl rfl (by decide +kernel) ⟨Nat.le_of_ble_eq_true rfl, Nat.le_of_ble_eq_true rfl⟩) ⟨rfl, rfl, rfl, rfl, by decide⟩ rfl hK hP hD hS hA (va_recv (ci := 2) hK hP rfl (q0 := 0) rfl) rfl hl.1 (Nat.le_of_ble_eq_true rfl) d_S_findModel_10 ⟨Nat.le_of_ble_eq_true rfl, Nat.le_of_ble_eq_true rfl⟩ (fun H locs hP hD hS => ?_)
      have hP : va_P D cls_ [(b, .inr (2, [.ref b1, .ref b2, .int (nI (sn (sr_prop (dC u) (dz u) 11 v).2)), .int (sh (sr_prop (dC u) (dz u) 11 v).2)])), (b1, .inl (cI, 10, .inl (sT (sr_prop (dC u) (dz u) 11 v).2))), (b2, .inl (cI, 10, .inl (sR (sr_prop (dC u) (dz u) 11 v).2))), (h, .inr (1, [.ref a1, .ref a2, .ref a3, .ref a4, .int (nI (dz u)), .int (nI (dl u)), .int (nI (dO u))])), (a1, .inl (cI, 1575, .inl (dC u))), (a2, .inl (cI, 1575, .inl (dF u))), (a3, .inl (cI, 1575, .inl (dT u))), (a4, .inl (cI, 3060, .inl (dK u)))] H := hP
      have hD : va_D A [(b, .inr (2, [.ref b1, .ref b2, .int (nI (sn (sr_prop (dC u) (dz u) 11 v).2)), .int (sh (sr_prop (dC u) (dz u) 11 v).2)])), (b1, .inl (cI, 10, .inl (sT (sr_prop (dC u) (dz u) 11 v).2))), (b2, .inl (cI, 10, .inl (sR (sr_prop (dC u) (dz u) 11 v).2))), (h, .inr (1, [.ref a1, .ref a2, .ref a3, .ref a4, .int (nI (dz u)), .int (nI (dl u)), .int (nI (dO u))])), (a1, .inl (cI, 1575, .inl (dC u))), (a2, .inl (cI, 1575, .inl (dF u))), (a3, .inl (cI, 1575, .inl (dT u))), (a4, .inl (cI, 3060, .inl (dK u)))] := hD
      have hv1 := prop_le (C := dC u) (z := dz u) 11 hv
      refine lv_istore (lv' := [(4, .int (sr_prop (dC u) (dz u) 11 v).1), (3, .int (nI q)), (0, .ref b), (1, .ref h), (2, .int (nI n))]) hx hb d_S_findModel_13 hl (by decide) rfl (fun ls hl => ?_)
      refine lv_iload hx hb d_S_findModel_15 (lv_at hl 0 rfl) ?_
      refine lv_iconst (v := (-1)) hx hb d_S_findModel_17 (by decide) ?_
      refine lv_icmp_ne (tgt := 39) hx hb d_S_findModel_18 rfl (fun hc18 => ?_) (fun hc18 => ?_)
      · refine lv_aload_n hx hb d_S_findModel_39 rfl (lv_at hl 2 rfl) ?_
        refine lv_aload_n hx hb d_S_findModel_40 rfl (lv_at hl 3 rfl) ?_
        refine lv_iload hx hb d_S_findModel_41 (lv_at hl 0 rfl) ?_
        refine CTi_V (isC := [0, 1, 2, 3, 4, 5, 6, 7]) (isR := []) (wr := []) (wi := [(b, .inr (2, [.ref b1, .ref b2, .int (nI (sn (sr_prop (dC u) (dz u) 11 v).2)), .int (sh (sr_prop (dC u) (dz u) 11 v).2)])), (b1, .inl (cI, 10, .inl (sT (sr_prop (dC u) (dz u) 11 v).2))), (b2, .inl (cI, 10, .inl (sR (sr_prop (dC u) (dz u) 11 v).2))), (h, .inr (1, [.ref a1, .ref a2, .ref a3, .ref a4, .int (nI (dz u)), .int (nI (dl u)), .int (nI (dO u))])), (a1, .inl (cI, 1575, .inl (dC u))), (a2, .inl (cI, 1575, .inl (dF u))), (a3, .inl (cI, 1575, .inl (dT u))), (a4, .inl (cI, 3060, .inl (dK u)))]) (wo := [(b, .inr (2, [.ref b1, .ref b2, .int (nI (sn (sr_learn u (sr_prop (dC u) (dz u) 11 v).2 (sr_prop (dC u) (dz u) 11 v).1).2.2)), .int (sh (sr_learn u (sr_prop (dC u) (dz u) 11 v).2 (sr_prop (dC u) (dz u) 11 v).1).2.2)])), (b1, .inl (cI, 10, .inl (sT (sr_learn u (sr_prop (dC u) (dz u) 11 v).2 (sr_prop (dC u) (dz u) 11 v).1).2.2))), (b2, .inl (cI, 10, .inl (sR (sr_learn u (sr_prop (dC u) (dz u) 11 v).2 (sr_prop (dC u) (dz u) 11 v).1).2.2))), (h, .inr (1, [.ref a1, .ref a2, .ref a3, .ref a4, .int (nI (dz (sr_learn u (sr_prop (dC u) (dz u) 11 v).2 (sr_prop (dC u) (dz u) 11 v).1).2.1)), .int (nI (dl (sr_learn u (sr_prop (dC u) (dz u) 11 v).2 (sr_prop (dC u) (dz u) 11 v).1).2.1)), .int (nI (dO (sr_learn u (sr_prop (dC u) (dz u) 11 v).2 (sr_prop (dC u) (dz u) 11 v).1).2.1))])), (a1, .inl (cI, 1575, .inl (dC (sr_learn u (sr_prop (dC u) (dz u) 11 v).2 (sr_prop (dC u) (dz u) 11 v).1).2.1))), (a2, .inl (cI, 1575, .inl (dF (sr_learn u (sr_prop (dC u) (dz u) 11 v).2 (sr_prop (dC u) (dz u) 11 v).1).2.1))), (a3, .inl (cI, 1575, .inl (dT (sr_learn u (sr_prop (dC u) (dz u) 11 v).2 (sr_prop (dC u) (dz u) 11 v).1).2.1))), (a4, .inl (cI, 3060, .inl (dK (sr_learn u (sr_prop (dC u) (dz u) 11 v).2 (sr_prop (dC u) (dz u) 11 v).1).2.1)))]) (b := b) (As := [.ref h, .int (sr_prop (dC u) (dz u) 11 v).1]) (rest := []) ⟨hx, hb, hml, hown, hts⟩ [0] (k_S_learn l D cI b b1 b2 h a1 a2 a3 a4 (sr_prop (dC u) (dz u) 11 v).2 hv1 u hu (sr_prop (dC u) (dz u) 11 v).1) (cwV 2 hts v_S_34 rfl rfl rfl (by decide +kernel) ⟨Nat.le_of_ble_eq_true rfl, Nat.le_of_ble_eq_true rfl⟩) ⟨rfl, rfl, rfl, rfl, by decide⟩ rfl hK hP hD hS hA (va_recv (ci := 2) hK hP rfl (q0 := 0) rfl) rfl hl.1 (Nat.le_of_ble_eq_true rfl) d_S_findModel_43 ⟨Nat.le_of_ble_eq_true rfl, Nat.le_of_ble_eq_true rfl⟩ (fun H locs hP hD hS => ?_)
        have hP : va_P D cls_ [(b, .inr (2, [.ref b1, .ref b2, .int (nI (sn (sr_learn u (sr_prop (dC u) (dz u) 11 v).2 (sr_prop (dC u) (dz u) 11 v).1).2.2)), .int (sh (sr_learn u (sr_prop (dC u) (dz u) 11 v).2 (sr_prop (dC u) (dz u) 11 v).1).2.2)])), (b1, .inl (cI, 10, .inl (sT (sr_learn u (sr_prop (dC u) (dz u) 11 v).2 (sr_prop (dC u) (dz u) 11 v).1).2.2))), (b2, .inl (cI, 10, .inl (sR (sr_learn u (sr_prop (dC u) (dz u) 11 v).2 (sr_prop (dC u) (dz u) 11 v).1).2.2))), (h, .inr (1, [.ref a1, .ref a2, .ref a3, .ref a4, .int (nI (dz (sr_learn u (sr_prop (dC u) (dz u) 11 v).2 (sr_prop (dC u) (dz u) 11 v).1).2.1)), .int (nI (dl (sr_learn u (sr_prop (dC u) (dz u) 11 v).2 (sr_prop (dC u) (dz u) 11 v).1).2.1)), .int (nI (dO (sr_learn u (sr_prop (dC u) (dz u) 11 v).2 (sr_prop (dC u) (dz u) 11 v).1).2.1))])), (a1, .inl (cI, 1575, .inl (dC (sr_learn u (sr_prop (dC u) (dz u) 11 v).2 (sr_prop (dC u) (dz u) 11 v).1).2.1))), (a2, .inl (cI, 1575, .inl (dF (sr_learn u (sr_prop (dC u) (dz u) 11 v).2 (sr_prop (dC u) (dz u) 11 v).1).2.1))), (a3, .inl (cI, 1575, .inl (dT (sr_learn u (sr_prop (dC u) (dz u) 11 v).2 (sr_prop (dC u) (dz u) 11 v).1).2.1))), (a4, .inl (cI, 3060, .inl (dK (sr_learn u (sr_prop (dC u) (dz u) 11 v).2 (sr_prop (dC u) (dz u) 11 v).1).2.1)))] H := hP
        have hD : va_D A [(b, .inr (2, [.ref b1, .ref b2, .int (nI (sn (sr_learn u (sr_prop (dC u) (dz u) 11 v).2 (sr_prop (dC u) (dz u) 11 v).1).2.2)), .int (sh (sr_learn u (sr_prop (dC u) (dz u) 11 v).2 (sr_prop (dC u) (dz u) 11 v).1).2.2)])), (b1, .inl (cI, 10, .inl (sT (sr_learn u (sr_prop (dC u) (dz u) 11 v).2 (sr_prop (dC u) (dz u) 11 v).1).2.2))), (b2, .inl (cI, 10, .inl (sR (sr_learn u (sr_prop (dC u) (dz u) 11 v).2 (sr_prop (dC u) (dz u) 11 v).1).2.2))), (h, .inr (1, [.ref a1, .ref a2, .ref a3, .ref a4, .int (nI (dz (sr_learn u (sr_prop (dC u) (dz u) 11 v).2 (sr_prop (dC u) (dz u) 11 v).1).2.1)), .int (nI (dl (sr_learn u (sr_prop (dC u) (dz u) 11 v).2 (sr_prop (dC u) (dz u) 11 v).1).2.1)), .int (nI (dO (sr_learn u (sr_prop (dC u) (dz u) 11 v).2 (sr_prop (dC u) (dz u) 11 v).1).2.1))])), (a1, .inl (cI, 1575, .inl (dC (sr_learn u (sr_prop (dC u) (dz u) 11 v).2 (sr_prop (dC u) (dz u) 11 v).1).2.1))), (a2, .inl (cI, 1575, .inl (dF (sr_learn u (sr_prop (dC u) (dz u) 11 v).2 (sr_prop (dC u) (dz u) 11 v).1).2.1))), (a3, .inl (cI, 1575, .inl (dT (sr_learn u (sr_prop (dC u) (dz u) 11 v).2 (sr_prop (dC u) (dz u) 11 v).1).2.1))), (a4, .inl (cI, 3060, .inl (dK (sr_learn u (sr_prop (dC u) (dz u) 11 v).2 (sr_prop (dC u) (dz u) 11 v).1).2.1)))] := hD
        refine lv_if_ne (tgt := 51) hx hb d_S_findModel_46 rfl (fun hc46 => ?_) (fun hc46 => ?_)
        · refine lv_iinc (k := 1) (v := (nI (q + 1))) (lv' := [(3, .int (nI (q + 1))), (4, .int (sr_prop (dC u) (dz u) 11 v).1), (0, .ref b), (1, .ref h), (2, .int (nI n))]) hx hb d_S_findModel_51 hl rfl (nI_1 q) (by decide) rfl (fun ls hl => ?_)
          refine lv_goto (tgt := 2) hx hb d_S_findModel_54 rfl ?_
          exact ih (q + 1) (sr_learn u (sr_prop (dC u) (dz u) 11 v).2 (sr_prop (dC u) (dz u) 11 v).1).2.2 (sr_learn u (sr_prop (dC u) (dz u) 11 v).2 (sr_prop (dC u) (dz u) 11 v).1).2.1 ls H locs (by omega) (learn_le u hv1) (DW_learn hu) (by rw [← he, sr_find_s, if_neg hc18, if_neg hc46]) hP hD hS (lv_sub hl [0, 2, 3, 4] rfl)
        · refine lv_iconst (v := 0) hx hb d_S_findModel_49 (by decide) ?_
          have he9 : (false, (sr_learn u (sr_prop (dC u) (dz u) 11 v).2 (sr_prop (dC u) (dz u) 11 v).1).2.1, (sr_learn u (sr_prop (dC u) (dz u) 11 v).2 (sr_prop (dC u) (dz u) 11 v).1).2.2) = res := by rw [← he, sr_find_s, if_neg hc18, if_pos hc46]
          subst he9
          exact fin _ _ _ _ _ hP hD hS rfl d_S_findModel_50
      · refine lv_aload_n hx hb d_S_findModel_21 rfl (lv_at hl 2 rfl) ?_
        refine va_get (D := D) (ci := 2) (v := .int (nI (sn (sr_prop (dC u) (dz u) 11 v).2))) (C := R_S) (T := T_S) (N := 4) hx hb hts u_S hown hK hP 0 rfl rfl 2 (by decide) (hts _ f_S_18) (fun _ h9 => h9) rfl d_S_findModel_22 ?_
        refine lv_iload_n hx hb d_S_findModel_25 rfl (lv_at hl 4 rfl) ?_
        refine lv_icmp_lt (tgt := 31) hx hb d_S_findModel_26 rfl (fun hc26 => ?_) (fun hc26 => ?_)
        · have hful : ¬ n ≤ sn (sr_prop (dC u) (dz u) 11 v).2 := fun h => Int32.not_le.mpr hc26 (nI_le h (by omega))
          refine lv_aload_n hx hb d_S_findModel_31 rfl (lv_at hl 2 rfl) ?_
          refine lv_iload_n hx hb d_S_findModel_32 rfl (lv_at hl 4 rfl) ?_
          refine CTv_V (isC := [0, 1, 2]) (isR := [3, 4, 5, 6, 7]) (wr := [(h, .inr (1, [.ref a1, .ref a2, .ref a3, .ref a4, .int (nI (dz u)), .int (nI (dl u)), .int (nI (dO u))])), (a1, .inl (cI, 1575, .inl (dC u))), (a2, .inl (cI, 1575, .inl (dF u))), (a3, .inl (cI, 1575, .inl (dT u))), (a4, .inl (cI, 3060, .inl (dK u)))]) (wi := [(b, .inr (2, [.ref b1, .ref b2, .int (nI (sn (sr_prop (dC u) (dz u) 11 v).2)), .int (sh (sr_prop (dC u) (dz u) 11 v).2)])), (b1, .inl (cI, 10, .inl (sT (sr_prop (dC u) (dz u) 11 v).2))), (b2, .inl (cI, 10, .inl (sR (sr_prop (dC u) (dz u) 11 v).2)))]) (wo := [(b, .inr (2, [.ref b1, .ref b2, .int (nI (sn (sr_decide n (sr_prop (dC u) (dz u) 11 v).2))), .int (sh (sr_decide n (sr_prop (dC u) (dz u) 11 v).2))])), (b1, .inl (cI, 10, .inl (sT (sr_decide n (sr_prop (dC u) (dz u) 11 v).2)))), (b2, .inl (cI, 10, .inl (sR (sr_decide n (sr_prop (dC u) (dz u) 11 v).2))))]) (b := b) (As := [.int (nI n)]) (rest := []) ⟨hx, hb, hml, hown, hts⟩ [0] (k_S_decide l D cI b b1 b2 (sr_prop (dC u) (dz u) 11 v).2 hv1 (nI n) n rfl) (cwV 1 hts v_S_30 rfl rfl rfl (by decide +kernel) ⟨Nat.le_of_ble_eq_true rfl, Nat.le_of_ble_eq_true rfl⟩) ⟨rfl, rfl, rfl, rfl, by decide⟩ rfl hK hP hD hS hA (va_recv (ci := 2) hK hP rfl (q0 := 0) rfl) rfl hl.1 (Nat.le_of_ble_eq_true rfl) d_S_findModel_33 ⟨Nat.le_of_ble_eq_true rfl, Nat.le_of_ble_eq_true rfl⟩ (fun H locs hP hD hS => ?_)
          have hP : va_P D cls_ [(h, .inr (1, [.ref a1, .ref a2, .ref a3, .ref a4, .int (nI (dz u)), .int (nI (dl u)), .int (nI (dO u))])), (a1, .inl (cI, 1575, .inl (dC u))), (a2, .inl (cI, 1575, .inl (dF u))), (a3, .inl (cI, 1575, .inl (dT u))), (a4, .inl (cI, 3060, .inl (dK u))), (b, .inr (2, [.ref b1, .ref b2, .int (nI (sn (sr_decide n (sr_prop (dC u) (dz u) 11 v).2))), .int (sh (sr_decide n (sr_prop (dC u) (dz u) 11 v).2))])), (b1, .inl (cI, 10, .inl (sT (sr_decide n (sr_prop (dC u) (dz u) 11 v).2)))), (b2, .inl (cI, 10, .inl (sR (sr_decide n (sr_prop (dC u) (dz u) 11 v).2))))] H := hP
          have hD : va_D A [(h, .inr (1, [.ref a1, .ref a2, .ref a3, .ref a4, .int (nI (dz u)), .int (nI (dl u)), .int (nI (dO u))])), (a1, .inl (cI, 1575, .inl (dC u))), (a2, .inl (cI, 1575, .inl (dF u))), (a3, .inl (cI, 1575, .inl (dT u))), (a4, .inl (cI, 3060, .inl (dK u))), (b, .inr (2, [.ref b1, .ref b2, .int (nI (sn (sr_decide n (sr_prop (dC u) (dz u) 11 v).2))), .int (sh (sr_decide n (sr_prop (dC u) (dz u) 11 v).2))])), (b1, .inl (cI, 10, .inl (sT (sr_decide n (sr_prop (dC u) (dz u) 11 v).2)))), (b2, .inl (cI, 10, .inl (sR (sr_decide n (sr_prop (dC u) (dz u) 11 v).2))))] := hD
          refine lv_goto (tgt := 51) hx hb d_S_findModel_36 rfl ?_
          refine lv_iinc (k := 1) (v := (nI (q + 1))) (lv' := [(3, .int (nI (q + 1))), (4, .int (sr_prop (dC u) (dz u) 11 v).1), (0, .ref b), (1, .ref h), (2, .int (nI n))]) hx hb d_S_findModel_51 hl rfl (nI_1 q) (by decide) rfl (fun ls hl => ?_)
          refine lv_goto (tgt := 2) hx hb d_S_findModel_54 rfl ?_
          have hP := hP.sub (ws' := [(b, .inr (2, [.ref b1, .ref b2, .int (nI (sn (sr_decide n (sr_prop (dC u) (dz u) 11 v).2))), .int (sh (sr_decide n (sr_prop (dC u) (dz u) 11 v).2))])), (b1, .inl (cI, 10, .inl (sT (sr_decide n (sr_prop (dC u) (dz u) 11 v).2)))), (b2, .inl (cI, 10, .inl (sR (sr_decide n (sr_prop (dC u) (dz u) 11 v).2)))), (h, .inr (1, [.ref a1, .ref a2, .ref a3, .ref a4, .int (nI (dz u)), .int (nI (dl u)), .int (nI (dO u))])), (a1, .inl (cI, 1575, .inl (dC u))), (a2, .inl (cI, 1575, .inl (dF u))), (a3, .inl (cI, 1575, .inl (dT u))), (a4, .inl (cI, 3060, .inl (dK u)))]) [5, 6, 7, 0, 1, 2, 3, 4] rfl
          have hD := hD.sub (ws' := [(b, .inr (2, [.ref b1, .ref b2, .int (nI (sn (sr_decide n (sr_prop (dC u) (dz u) 11 v).2))), .int (sh (sr_decide n (sr_prop (dC u) (dz u) 11 v).2))])), (b1, .inl (cI, 10, .inl (sT (sr_decide n (sr_prop (dC u) (dz u) 11 v).2)))), (b2, .inl (cI, 10, .inl (sR (sr_decide n (sr_prop (dC u) (dz u) 11 v).2)))), (h, .inr (1, [.ref a1, .ref a2, .ref a3, .ref a4, .int (nI (dz u)), .int (nI (dl u)), .int (nI (dO u))])), (a1, .inl (cI, 1575, .inl (dC u))), (a2, .inl (cI, 1575, .inl (dF u))), (a3, .inl (cI, 1575, .inl (dT u))), (a4, .inl (cI, 3060, .inl (dK u)))]) [5, 6, 7, 0, 1, 2, 3, 4] (by decide) rfl
          exact ih (q + 1) (sr_decide n (sr_prop (dC u) (dz u) 11 v).2) u ls H locs (by omega) (decide_le hv1) hu (by rw [← he, sr_find_s, if_pos hc18, if_neg hful]) hP hD hS (lv_sub hl [0, 2, 3, 4] rfl)
        · have hful : n ≤ sn (sr_prop (dC u) (dz u) 11 v).2 := (nI_leI (by omega) (by omega)).1 (Int32.not_lt.mp hc26)
          refine lv_iconst (v := 1) hx hb d_S_findModel_29 (by decide) ?_
          have he9 : (true, u, (sr_prop (dC u) (dz u) 11 v).2) = res := by rw [← he, sr_find_s, if_pos hc18, if_pos hful]
          subst he9
          exact fin _ _ _ _ _ hP hD hS rfl d_S_findModel_30
  refine lv_iconst (v := 0) hx hb d_S_findModel_0 (by decide) ?_
  refine lv_istore_n (lv' := [(3, .int 0), (0, .ref b), (1, .ref h), (2, .int (nI n))]) hx hb d_S_findModel_1 rfl hl (by decide) rfl (fun ls hl => ?_)
  exact loop 100000 0 s d ls st.heap [] (by omega) hs hd hT hP hD hS (lv_sub hl [0, 1, 2, 3] rfl)
